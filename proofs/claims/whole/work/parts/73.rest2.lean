/-! voyage and instead in the class: cells 8..15 only -/
theorem w_change_c {τ : sm_St} {x : Int32} {q : Nat} (h : q ≠ 8) (h2 : q ≠ 11) : m_change τ x q = τ q := by
  unfold m_change
  split
  · rw [sm_set_off h, sm_set_off h]
  · split
    · exact r_set_off h2
    · rfl
theorem w_voy_c {z : Int32} {q : Nat} (h : q ≠ 8) (h2 : q ≠ 11) : ∀ (n i : Nat) (s : Int32) (τ : sm_St), (g_voy z n i s τ).2 q = τ q
  | 0, _, _, _ => rfl
  | n + 1, i, s, τ => by
    unfold g_voy
    rw [w_voy_c h h2 n, g_hours_off h, w_change_c h h2]
theorem w_voyage_c {σ : sm_St} {z t w : Int32} {q : Nat} (h : q < 8 ∨ 16 ≤ q) : (m_voyage σ z t w).2 q = σ q := by
  unfold m_voyage
  split
  · show (g_voy z t.toNatClampNeg 0 0 (m_try σ)).2 q = σ q
    rw [w_voy_c (by omega) (by omega)]
    exact g_copy_off (by omega)
  · rfl
theorem w_ins_c {q : Nat} (h : q ≠ 8) (h2 : q ≠ 11) : ∀ (n i : Nat) (τ : sm_St), (g_ins n i τ).2 q = τ q
  | 0, _, _ => rfl
  | n + 1, i, τ => by
    unfold g_ins
    split
    · exact g_in1_off h h2 τ
    · rw [w_ins_c h h2 n, r_set_off h2, g_in1_off h h2]
theorem w_instead_c {σ : sm_St} {q : Nat} (h : q < 8 ∨ 16 ≤ q) : (m_instead σ).2 q = σ q := by
  unfold m_instead
  rw [w_ins_c (by omega) (by omega)]
  exact g_copy_off (by omega)

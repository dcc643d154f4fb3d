/-! trials leave the rest as it was: hold in the model; behind, stands, gale in the class -/
theorem w_tr1_row {τ X : sm_St} {k : Nat} {x v : Int32} (hk : 114 ≤ k ∧ k ≤ 117) (h : w_tr τ (sm_set X 110 28 0)) : w_tr τ (sm_set (r_set X k 6 x v) 110 28 0) := by
  obtain ⟨h1, h2, h3, h4⟩ := h
  refine ⟨?_, fun q a b c => ?_, fun l hl => ?_, fun q a b l hl => ?_⟩
  · rw [sm_set_off (by decide), r_set_off (by omega)]
    rw [sm_set_off (by decide)] at h1
    exact h1
  · have g := h2 q a b c
    rw [sm_set_off a] at g ⊢
    rw [r_set_off (by omega)]
    exact g
  · have g := h3 l hl
    by_cases e : l = 28
    · subst e
      rw [sm_set_eq] at g ⊢
      exact g
    · rw [sm_set_ne e] at g ⊢
      rw [r_set_off (by omega)]
      exact g
  · have g := h4 q a b l hl
    rw [sm_set_off (by omega)] at g ⊢
    by_cases e : q = k
    · subst e
      rw [w_rs6 hl]
      exact g
    · rw [r_set_off e]
      exact g
theorem w_tr1_at {τ X : sm_St} {np k : Nat} (h : w_tr τ (sm_set X 110 28 0)) : w_tr τ (sm_set (q_at np k X) 110 28 0) := by
  unfold q_at q_sets
  exact w_tr1_row (by omega) (w_tr1_row (by omega) (w_tr1_row (by omega) (w_tr1_row (by omega) h)))
theorem w_tr1_0 {τ : sm_St} (h0 : q_0 τ) : w_tr τ (sm_set (sm_set (q_lays τ 126 0) 110 28 1) 110 28 0) := by
  rw [sm_set_set]
  obtain ⟨h1, h2, h3, h4⟩ := w_tr_0 τ
  refine ⟨?_, fun q a b c => ?_, fun l hl => ?_, fun q a b l hl => ?_⟩
  · rw [sm_set_off (by decide)]
  · rw [sm_set_off a]
    exact h2 q a b c
  · by_cases e : l = 28
    · subst e
      rw [sm_set_eq]
      exact h0.1.symm
    · rw [sm_set_ne e]
      exact h3 l hl
  · rw [sm_set_off (by omega)]
    exact h4 q a b l hl
theorem w_tr1_ho {τ : sm_St} {np nc : Nat} : ∀ (n k : Nat) (X : sm_St), w_tr τ (sm_set X 110 28 0) → w_tr τ (sm_set (q_ho np nc n k X).2 110 28 0)
  | 0, _, _, h => h
  | n + 1, k, X, h => by
    unfold q_ho
    split
    · exact w_tr1_at h
    · exact w_tr1_ho n (k + 1) _ (w_tr1_at h)
theorem w_hold_m {τ : sm_St} {np nc : Nat} (h0 : q_0 τ) : ∀ q, q ≠ 126 → (p_hold τ np nc).2 q = τ q := by
  unfold p_hold
  split
  · exact fun q _ => rfl
  · exact w_tr_b (w_tr1_ho 486 0 _ (w_tr1_0 h0))
theorem w_behind_c {σ : sm_St} {t w : Int32} {q : Nat} (h : q < 8 ∨ 16 ≤ q) : (m_behind σ t w).2 q = σ q := by
  unfold m_behind
  split
  · show (g_hours (m_try σ) 8 t.toNatClampNeg).1 q = σ q
    rw [g_hours_off (by omega)]
    exact g_copy_off (by omega)
  · rfl
theorem w_st_c {q : Nat} (h : q ≠ 8) : ∀ (n i : Nat) (τ : sm_St), (g_st n i τ).2 q = τ q
  | 0, _, _ => rfl
  | n + 1, i, τ => by
    unfold g_st
    split
    · rw [w_st_c h n, g_hours_off h]
    · show (g_hours τ 8 (1 : Int32).toNatClampNeg).1 q = τ q
      exact g_hours_off h _
theorem w_stands_c {σ : sm_St} {q : Nat} (h : q < 8 ∨ 16 ≤ q) : (g_st 41 0 (m_try σ)).2 q = σ q := by
  rw [w_st_c (by omega)]
  exact g_copy_off (by omega)
theorem w_ga_c {q : Nat} (h : q ≠ 8) : ∀ (n : Nat) (τ : sm_St), (g_ga n τ).2 q = τ q
  | 0, _ => rfl
  | n + 1, τ => by
    unfold g_ga
    split
    · show g_goes (sm_set τ 8 4 (nI n)) 8 q = τ q
      rw [g_goes_off h, sm_set_off h]
    · rw [w_ga_c h n, g_goes_off h, sm_set_off h]
theorem w_gale_c {σ : sm_St} {d : Int32} {q : Nat} (h : q < 8 ∨ 16 ≤ q) : (m_gale σ d).2 q = σ q := by
  unfold m_gale
  split
  · rw [w_ga_c (by omega), sm_set_off (by omega)]
    exact g_copy_off (by omega)
  · rfl

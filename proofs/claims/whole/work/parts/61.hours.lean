/-! class and model: an hour, hours -/
theorem w_cell {x y : Int32} (h : sm_cell x y = true) : (∃ a, a < 9 ∧ x = nI a) ∧ ∃ b, b < 9 ∧ y = nI b := by
  unfold sm_cell at h
  obtain ⟨h1, h2, h3, h4⟩ := of_decide_eq_true h
  obtain ⟨a, ha, ea⟩ := sm_win_nI (x := x) (m := 8) (b := 8) rfl (by decide) (by unfold sm_win; exact decide_eq_true ⟨h1, h2⟩)
  obtain ⟨b, hb, eb⟩ := sm_win_nI (x := y) (m := 8) (b := 8) rfl (by decide) (by unfold sm_win; exact decide_eq_true ⟨h3, h4⟩)
  exact ⟨⟨a, by omega, ea⟩, ⟨b, by omega, eb⟩⟩
theorem g_hour_0 {σ : sm_St} {k : Nat} : g_hour σ k k 0 = σ k 0 + r_at sm_sx 5 (f_goes (sm_V σ k)) := by
  unfold g_hour
  rw [sm_set_ne (by decide), sm_set_ne (by decide), sm_set_eq]
theorem g_hour_1 {σ : sm_St} {k : Nat} : g_hour σ k k 1 = σ k 1 + r_at sm_sy 5 (f_goes (sm_V σ k)) := by
  unfold g_hour
  rw [sm_set_ne (by decide), sm_set_eq]
theorem g_hour_5 {σ : sm_St} {k : Nat} : g_hour σ k k 5 = σ k 5 + 1 := by
  unfold g_hour
  rw [sm_set_eq]
theorem g_hour_i {σ : sm_St} {k i : Nat} (h : i < 8) (h0 : i ≠ 0) (h1 : i ≠ 1) (h5 : i ≠ 5) : g_hour σ k k i = σ k i := by
  unfold g_hour
  rw [sm_set_ne h5, sm_set_ne h1, sm_set_ne h0, g_goes_o h]
theorem w_hour_f {σ : sm_St} {k q : Nat} (h : q ≠ k) : g_hour σ k q = σ q := by
  unfold g_hour
  rw [sm_set_off h, sm_set_off h, sm_set_off h, g_goes_off h]
theorem q_hour_7 {σ : sm_St} {np nc : Nat} : q_hour σ np nc 110 7 = σ 110 7 + q_dx (q_goes (q_V σ) np nc) := by
  unfold q_hour
  rw [sm_set_ne (by decide), sm_set_ne (by decide), sm_set_eq]
theorem q_hour_8 {σ : sm_St} {np nc : Nat} : q_hour σ np nc 110 8 = σ 110 8 + q_dy (q_goes (q_V σ) np nc) := by
  unfold q_hour
  rw [sm_set_ne (by decide), sm_set_eq]
theorem q_hour_6 {σ : sm_St} {np nc : Nat} : q_hour σ np nc 110 6 = σ 110 6 + 1 := by
  unfold q_hour
  rw [sm_set_eq]
theorem q_hour_Vm {σ : sm_St} {np nc m : Nat} (h : 1 ≤ m) : q_V (q_hour σ np nc) m = q_V σ m := by
  match m with
  | 0 => omega
  | 1 => exact q_hour_off (by decide)
  | 2 => exact q_hour_off (by decide)
  | 3 => exact q_hour_off (by decide)
  | 4 => exact q_hour_off (by decide)
  | 5 => exact q_hour_off (by decide)
  | 6 => exact q_hour_off (by decide)
  | n + 7 => exact q_hour_off (by decide)
theorem w_hour_ag {σ τ : sm_St} {k np nc : Nat} (h : w_ag np nc (sm_V σ k) (q_V τ)) (hw : w_ok (q_V τ) np nc) : w_ag np nc (sm_V (g_hour σ k) k) (q_V (q_hour τ np nc)) := by
  have e : f_goes (sm_V σ k) = q_goes (q_V τ) np nc := w_goesA h hw
  obtain ⟨t, ht, et, -⟩ := w_goes_in (q_V τ) np nc
  refine ⟨fun i hi => ?_, fun m h1 h2 i hi => ?_⟩
  · show g_hour σ k k i = q_V (q_hour τ np nc) 0 i
    have ha := h.1 i hi
    have hb : σ k i = q_V τ 0 i := ha
    rcases (show i = 0 ∨ i = 1 ∨ i = 2 ∨ i = 3 ∨ i = 4 ∨ i = 5 ∨ i = 6 ∨ i = 7 by omega) with rfl | rfl | rfl | rfl | rfl | rfl | rfl | rfl
    · rw [g_hour_0, hb, e, et, w_sx t ht]
      show τ 110 7 + q_dx (nI t) = q_hour τ np nc 110 7
      rw [q_hour_7, et]
    · rw [g_hour_1, hb, e, et, w_sy t ht]
      show τ 110 8 + q_dy (nI t) = q_hour τ np nc 110 8
      rw [q_hour_8, et]
    · rw [g_hour_i (by decide) (by decide) (by decide) (by decide), hb]
      show τ 110 2 = q_hour τ np nc 110 2
      rw [q_hour_o (by decide) (by decide) (by decide)]
    · rw [g_hour_i (by decide) (by decide) (by decide) (by decide), hb]
      show τ 110 9 = q_hour τ np nc 110 9
      rw [q_hour_o (by decide) (by decide) (by decide)]
    · rw [g_hour_i (by decide) (by decide) (by decide) (by decide), hb]
      show τ 110 10 = q_hour τ np nc 110 10
      rw [q_hour_o (by decide) (by decide) (by decide)]
    · rw [g_hour_5, hb]
      show τ 110 6 + 1 = q_hour τ np nc 110 6
      rw [q_hour_6]
    · rw [g_hour_i (by decide) (by decide) (by decide) (by decide), hb]
      show τ 110 0 + τ 110 28 = q_hour τ np nc 110 0 + q_hour τ np nc 110 28
      rw [q_hour_o (by decide) (by decide) (by decide), q_hour_o (by decide) (by decide) (by decide)]
    · rw [g_hour_i (by decide) (by decide) (by decide) (by decide), hb]
      show τ 110 1 + τ 110 29 = q_hour τ np nc 110 1 + q_hour τ np nc 110 29
      rw [q_hour_o (by decide) (by decide) (by decide), q_hour_o (by decide) (by decide) (by decide)]
  · rw [q_hour_Vm h1]
    show g_hour σ k (k + m) i = q_V τ m i
    rw [w_hour_f (by omega)]
    exact h.2 m h1 h2 i hi
theorem w_hour_ok {τ : sm_St} {np nc : Nat} (hw : w_ok (q_V τ) np nc) : w_ok (q_V (q_hour τ np nc)) np nc := by
  obtain ⟨t, ht, et, hc⟩ := w_goes_in (q_V τ) np nc
  have hxy : (∃ a, a < 9 ∧ τ 110 7 + q_dx (nI t) = nI a) ∧ ∃ b, b < 9 ∧ τ 110 8 + q_dy (nI t) = nI b := by
    rcases hc with rfl | hc
    · obtain ⟨a, ha, ea⟩ := hw.x0
      obtain ⟨b, hb, eb⟩ := hw.y0
      refine ⟨⟨a, ha, ?_⟩, ⟨b, hb, ?_⟩⟩
      · show τ 110 7 + 0 = nI a
        rw [Int32.add_zero]
        exact ea
      · show τ 110 8 + 0 = nI b
        rw [Int32.add_zero]
        exact eb
    · exact w_cell hc
  refine ⟨?_, hw.n1, ?_, hw.c1, ?_, ?_, ?_, ?_, ?_, ?_⟩
  · show q_hour τ np nc 110 0 + q_hour τ np nc 110 28 = nI np
    rw [q_hour_o (by decide) (by decide) (by decide), q_hour_o (by decide) (by decide) (by decide)]
    exact hw.n0
  · show q_hour τ np nc 110 1 + q_hour τ np nc 110 29 = nI nc
    rw [q_hour_o (by decide) (by decide) (by decide), q_hour_o (by decide) (by decide) (by decide)]
    exact hw.c0
  · show ∃ k, k < 5 ∧ q_hour τ np nc 110 9 = nI k
    rw [q_hour_o (by decide) (by decide) (by decide)]
    exact hw.w0
  · show ∃ k, k < 9 ∧ q_hour τ np nc 110 7 = nI k
    rw [q_hour_7, et]
    exact hxy.1
  · show ∃ k, k < 9 ∧ q_hour τ np nc 110 8 = nI k
    rw [q_hour_8, et]
    exact hxy.2
  · rw [q_hour_Vm (by decide)]
    exact hw.px
  · rw [q_hour_Vm (by decide)]
    exact hw.py
  · rw [q_hour_Vm (by decide)]
    exact hw.cn
/-- hours, counted from the front -/
theorem g_hours_succ (σ : sm_St) (k : Nat) : ∀ n, (g_hours σ k (n + 1)).1 = (g_hours (g_hour σ k) k n).1 ∧ (g_hours σ k (n + 1)).2 = (if f_goes (sm_V σ k) = 0 then 1 else 0) + (g_hours (g_hour σ k) k n).2
  | 0 => ⟨rfl, by show (0 : Int32) + _ = _ + 0; rw [Int32.zero_add, Int32.add_zero]; rfl⟩
  | n + 1 => by
    obtain ⟨h1, h2⟩ := g_hours_succ σ k n
    constructor
    · show g_hour (g_hours σ k (n + 1)).1 k = g_hour (g_hours (g_hour σ k) k n).1 k
      rw [h1]
    · show (g_hours σ k (n + 1)).2 + (if f_goes (sm_V (g_hours σ k (n + 1)).1 k) = 0 then 1 else 0) = _ + ((g_hours (g_hour σ k) k n).2 + (if f_goes (sm_V (g_hours (g_hour σ k) k n).1 k) = 0 then 1 else 0))
      rw [h1, h2, Int32.add_assoc]
theorem w_hours {k np nc : Nat} : ∀ (n : Nat) (σ τ : sm_St), w_ag np nc (sm_V σ k) (q_V τ) → w_ok (q_V τ) np nc → w_ag np nc (sm_V (g_hours σ k n).1 k) (q_V (q_hours np nc n τ)) ∧ w_ok (q_V (q_hours np nc n τ)) np nc
  | 0, _, _, h, hw => ⟨h, hw⟩
  | n + 1, σ, τ, h, hw => by
    rw [(g_hours_succ σ k n).1]
    show w_ag np nc _ (q_V (q_hours np nc n (q_hour τ np nc))) ∧ w_ok (q_V (q_hours np nc n (q_hour τ np nc))) np nc
    exact w_hours n _ _ (w_hour_ag h hw) (w_hour_ok hw)
/-- pass: the hours in which she stood -/
theorem w_ps {k np nc : Nat} : ∀ (n : Nat) (s : Int32) (σ τ : sm_St), w_ag np nc (sm_V σ k) (q_V τ) → w_ok (q_V τ) np nc → (q_ps np nc n s τ).1 = s + (g_hours σ k n).2 ∧ (q_ps np nc n s τ).2 = q_hours np nc n τ
  | 0, s, _, _, _, _ => ⟨by show s = s + 0; rw [Int32.add_zero], rfl⟩
  | n + 1, s, σ, τ, h, hw => by
    have e : f_goes (sm_V σ k) = q_goes (q_V τ) np nc := w_goesA h hw
    obtain ⟨h1, h2⟩ := w_ps n (s + (if q_goes (q_V τ) np nc = 0 then 1 else 0)) _ _ (w_hour_ag h hw) (w_hour_ok hw)
    constructor
    · show (q_ps np nc n (s + (if q_goes (q_V τ) np nc = 0 then 1 else 0)) (q_hour τ np nc)).1 = _
      rw [h1, (g_hours_succ σ k n).2, e, Int32.add_assoc]
    · exact h2

/-! class and model: what is tried and put back: behind, stands, gale -/
theorem w_lays_V {σ : sm_St} {a p : Nat} (ha : 117 < a) : q_V (q_lays σ a p) = q_V σ := by
  have e : ∀ q, q < 118 → q_lays σ a p q = σ q := fun q hq => q_lays_off (by omega)
  funext m
  match m with
  | 0 =>
    funext i
    match i with
    | 0 => exact congrFun (e 110 (by decide)) 7
    | 1 => exact congrFun (e 110 (by decide)) 8
    | 2 => exact congrFun (e 110 (by decide)) 2
    | 3 => exact congrFun (e 110 (by decide)) 9
    | 4 => exact congrFun (e 110 (by decide)) 10
    | 5 => exact congrFun (e 110 (by decide)) 6
    | 6 => show q_lays σ a p 110 0 + q_lays σ a p 110 28 = σ 110 0 + σ 110 28; rw [e 110 (by decide)]
    | n + 7 => show q_lays σ a p 110 1 + q_lays σ a p 110 29 = σ 110 1 + σ 110 29; rw [e 110 (by decide)]
  | 1 => exact e 114 (by decide)
  | 2 => exact e 115 (by decide)
  | 3 => exact e 116 (by decide)
  | 4 => exact e 117 (by decide)
  | 5 => exact e 111 (by decide)
  | 6 => exact e 112 (by decide)
  | n + 7 => exact e 113 (by decide)
theorem w_copy {σ : sm_St} {k j np nc : Nat} (hn : np ≤ 6) (hc : nc ≤ 8) : w_ag np nc (sm_V (g_copy σ k j) k) (sm_V σ j) := by
  refine ⟨fun i hi => ?_, fun m h1 h2 i hi => ?_⟩
  · show g_copy σ k j k i = σ j i
    unfold g_copy
    rw [if_pos rfl, if_pos hi]
  · show g_copy σ k j (k + m) i = σ (j + m) i
    unfold g_copy
    rw [if_neg (by omega), if_pos (by omega), show k + m - k = m by omega]
    have hi2 : i < (if m < 5 then 6 else 8) := by
      by_cases e : m < 5
      · rw [if_pos e] at hi ⊢; omega
      · rw [if_neg e] at hi ⊢; omega
    unfold va_cpy
    simp [hi2]
theorem w_try {σ τ : sm_St} {np nc : Nat} (h : w_now σ τ np nc) : w_ag np nc (sm_V (m_try σ) 8) (q_V (q_lays τ 126 0)) ∧ w_ok (q_V (q_lays τ 126 0)) np nc := by
  rw [w_lays_V (by decide)]
  exact ⟨(w_copy h.2.1.n1 h.2.1.c1).tr h.1, h.2.1⟩
theorem w_behind {σ τ : sm_St} {np nc : Nat} (h : w_now σ τ np nc) (t w : Int32) : (m_behind σ t w).1 = (p_behind τ np nc t w).1 := by
  obtain ⟨h1, h2⟩ := w_try h
  obtain ⟨h3, -⟩ := w_hours t.toNatClampNeg _ _ h1 h2
  have e0 : (g_hours (m_try σ) 8 t.toNatClampNeg).1 8 0 = q_hours np nc t.toNatClampNeg (q_lays τ 126 0) 110 7 := h3.1 0 (by decide)
  have e1 : (g_hours (m_try σ) 8 t.toNatClampNeg).1 8 1 = q_hours np nc t.toNatClampNeg (q_lays τ 126 0) 110 8 := h3.1 1 (by decide)
  unfold m_behind p_behind
  split
  · show (if w = 0 then _ else _) = if w = 0 then _ else _
    rw [e0, e1]
  · rfl
theorem w_h1 (τ : sm_St) : (g_hours τ 8 (1 : Int32).toNatClampNeg).2 = (if f_goes (sm_V τ 8) = 0 then 1 else 0) ∧ (g_hours τ 8 (1 : Int32).toNatClampNeg).1 = g_hour τ 8 := ⟨by show (0 : Int32) + _ = _; rw [Int32.zero_add]; rfl, rfl⟩
theorem w_st {np nc : Nat} : ∀ (n i : Nat) (τ τ' : sm_St), i + n = 41 → w_ag np nc (sm_V τ 8) (q_V τ') → w_ok (q_V τ') np nc → (g_st n i τ).1 = (q_end40 (q_st np nc n i τ')).1
  | 0, i, τ, τ', h1, h, hw => by
    obtain rfl : i = 41 := by omega
    rfl
  | n + 1, i, τ, τ', h1, h, hw => by
    have e : f_goes (sm_V τ 8) = q_goes (q_V τ') np nc := w_goesA h hw
    obtain ⟨e1, e2⟩ := w_h1 τ
    unfold g_st q_st
    rw [e1, e2, e]
    by_cases hg : q_goes (q_V τ') np nc = 0
    · rw [if_pos hg, if_neg (by decide), if_pos hg]
      show nI i = if 40 < nI i then -4 else nI i
      rw [if_neg (show ¬ (40 : Int32) < nI i from fun hh => absurd ((nI_ltI (by decide) (by omega)).mp (show nI 40 < nI i from hh)) (by omega))]
    · rw [if_neg hg, if_pos (by decide), if_neg hg]
      exact w_st n (i + 1) _ _ (by omega) (w_hour_ag h hw) (w_hour_ok hw)
theorem w_stands {σ τ : sm_St} {np nc : Nat} (h : w_now σ τ np nc) : (g_st 41 0 (m_try σ)).1 = (q_end40 (q_st np nc 41 0 (q_lays τ 126 0))).1 := w_st 41 0 _ _ rfl (w_try h).1 (w_try h).2
/-- one number set in both -/
theorem w_set {σ τ : sm_St} {k i j np nc : Nat} {v : Int32} (hij : (i = 0 ∧ j = 7) ∨ (i = 1 ∧ j = 8) ∨ (i = 3 ∧ j = 9) ∨ (i = 4 ∧ j = 10)) (h : w_ag np nc (sm_V σ k) (q_V τ)) : w_ag np nc (sm_V (sm_set σ k i v) k) (q_V (sm_set τ 110 j v)) := by
  have hj : j ≠ 0 ∧ j ≠ 1 ∧ j ≠ 2 ∧ j ≠ 6 ∧ j ≠ 28 ∧ j ≠ 29 := by omega
  obtain ⟨j0, j1, j2, j6, j28, j29⟩ := hj
  refine ⟨fun l hl => ?_, fun m h1 h2 l hl => ?_⟩
  · show sm_set σ k i v k l = q_V (sm_set τ 110 j v) 0 l
    have ha : σ k l = q_V τ 0 l := h.1 l hl
    by_cases hli : l = i
    · rw [hli, sm_set_eq]
      rcases hij with ⟨rfl, rfl⟩ | ⟨rfl, rfl⟩ | ⟨rfl, rfl⟩ | ⟨rfl, rfl⟩
      · exact sm_set_eq.symm
      · exact sm_set_eq.symm
      · exact sm_set_eq.symm
      · exact sm_set_eq.symm
    · rw [sm_set_ne hli, ha]
      rcases (show l = 0 ∨ l = 1 ∨ l = 2 ∨ l = 3 ∨ l = 4 ∨ l = 5 ∨ l = 6 ∨ l = 7 by omega) with rfl | rfl | rfl | rfl | rfl | rfl | rfl | rfl
      · exact (sm_set_ne (show 7 ≠ j by omega)).symm
      · exact (sm_set_ne (show 8 ≠ j by omega)).symm
      · exact (sm_set_ne (show 2 ≠ j by omega)).symm
      · exact (sm_set_ne (show 9 ≠ j by omega)).symm
      · exact (sm_set_ne (show 10 ≠ j by omega)).symm
      · exact (sm_set_ne (show 6 ≠ j by omega)).symm
      · show τ 110 0 + τ 110 28 = sm_set τ 110 j v 110 0 + sm_set τ 110 j v 110 28
        rw [sm_set_ne (Ne.symm j0), sm_set_ne (Ne.symm j28)]
      · show τ 110 1 + τ 110 29 = sm_set τ 110 j v 110 1 + sm_set τ 110 j v 110 29
        rw [sm_set_ne (Ne.symm j1), sm_set_ne (Ne.symm j29)]
  · have e : sm_V (sm_set σ k i v) k m = sm_V σ k m := sm_set_off (by omega)
    have e2 : q_V (sm_set τ 110 j v) m = q_V τ m := by
      match m with
      | 0 => omega
      | 1 => exact sm_set_off (by decide)
      | 2 => exact sm_set_off (by decide)
      | 3 => exact sm_set_off (by decide)
      | 4 => exact sm_set_off (by decide)
      | 5 => exact sm_set_off (by decide)
      | 6 => exact sm_set_off (by decide)
      | n + 7 => exact sm_set_off (by decide)
    rw [e, e2]
    exact h.2 m h1 h2 l hl
/-- the wind set: a view still -/
theorem w_ok_wind {τ : sm_St} {np nc j : Nat} {v : Int32} (hj : (j = 9 ∧ ∃ k, k < 5 ∧ v = nI k) ∨ j = 10) (h : w_ok (q_V τ) np nc) : w_ok (q_V (sm_set τ 110 j v)) np nc := by
  have e2 : ∀ m, 1 ≤ m → q_V (sm_set τ 110 j v) m = q_V τ m := fun m hm => by
    match m with
    | 0 => omega
    | 1 => exact sm_set_off (by decide)
    | 2 => exact sm_set_off (by decide)
    | 3 => exact sm_set_off (by decide)
    | 4 => exact sm_set_off (by decide)
    | 5 => exact sm_set_off (by decide)
    | 6 => exact sm_set_off (by decide)
    | n + 7 => exact sm_set_off (by decide)
  have e : ∀ l, l ≠ 9 → l ≠ 10 → sm_set τ 110 j v 110 l = τ 110 l := fun l a b => sm_set_ne (by omega)
  refine ⟨?_, h.n1, ?_, h.c1, ?_, ?_, ?_, ?_, ?_, ?_⟩
  · show sm_set τ 110 j v 110 0 + sm_set τ 110 j v 110 28 = nI np
    rw [e 0 (by decide) (by decide), e 28 (by decide) (by decide)]
    exact h.n0
  · show sm_set τ 110 j v 110 1 + sm_set τ 110 j v 110 29 = nI nc
    rw [e 1 (by decide) (by decide), e 29 (by decide) (by decide)]
    exact h.c0
  · show ∃ k, k < 5 ∧ sm_set τ 110 j v 110 9 = nI k
    rcases hj with ⟨rfl, k, hk, hv⟩ | rfl
    · rw [sm_set_eq]
      exact ⟨k, hk, hv⟩
    · rw [sm_set_ne (by decide)]
      exact h.w0
  · show ∃ x, x < 9 ∧ sm_set τ 110 j v 110 7 = nI x
    rw [e 7 (by decide) (by decide)]
    exact h.x0
  · show ∃ x, x < 9 ∧ sm_set τ 110 j v 110 8 = nI x
    rw [e 8 (by decide) (by decide)]
    exact h.y0
  · rw [e2 1 (by decide)]
    exact h.px
  · rw [e2 2 (by decide)]
    exact h.py
  · rw [e2 7 (by decide)]
    exact h.cn
theorem w_ga {np nc : Nat} : ∀ (n : Nat) (τ τ' : sm_St), n ≤ 21 → (0 < n → w_ag np nc (sm_V (sm_set τ 8 4 (nI (n - 1))) 8) (q_V τ') ∧ w_ok (q_V τ') np nc) → (g_ga n τ).1 = (q_end0 (q_ga np nc n τ')).1
  | 0, _, _, _, _ => rfl
  | n + 1, τ, τ', hn, hh => by
    obtain ⟨h, hw⟩ := hh (by omega)
    have h' : w_ag np nc (sm_V (sm_set τ 8 4 (nI n)) 8) (q_V τ') := h
    have e : f_goes (sm_V (sm_set τ 8 4 (nI n)) 8) = q_goes (q_V τ') np nc := w_goesA h' hw
    unfold g_ga q_ga
    rw [e]
    by_cases hg : q_goes (q_V τ') np nc = 0
    · rw [if_pos hg, if_pos hg]
      show nI n = if nI n < 0 then -4 else nI n
      rw [if_neg (nI_pos (by omega))]
    · rw [if_neg hg, if_neg hg]
      refine w_ga n _ _ (by omega) (fun h0 => ?_)
      obtain ⟨m, rfl⟩ : ∃ m, n = m + 1 := ⟨n - 1, by omega⟩
      rw [nI_pred]
      exact ⟨w_set (by omega) (w_ag89.tr h'), w_ok_wind (Or.inr rfl) hw⟩
theorem w_gale {σ τ : sm_St} {np nc : Nat} (h : w_now σ τ np nc) (d : Int32) : (m_gale σ d).1 = (p_gale τ np nc d).1 := by
  unfold m_gale p_gale
  by_cases hd : sm_win d 1 4 = true
  · rw [if_pos hd, if_pos hd]
    have hd5 : ∃ k, k < 5 ∧ d = nI k := by
      unfold sm_win at hd
      obtain ⟨a1, a2⟩ := of_decide_eq_true hd
      rcases pk_ix d (n := 5) (by decide) with h6 | h6 | h6
      · exact absurd (Int32.lt_trans h6 (by decide)) a1
      · exact absurd (show (4 : Int32) < d from (w_lt (n := 5) (by decide) (by decide)).mpr h6) a2
      · exact h6
    exact w_ga 21 _ _ (by decide) (fun _ => ⟨w_set (by omega) (w_set (by omega) (w_try h).1), w_ok_wind (Or.inr rfl) (w_ok_wind (Or.inl ⟨rfl, hd5⟩) (w_try h).2)⟩)
  · rw [if_neg hd, if_neg hd]

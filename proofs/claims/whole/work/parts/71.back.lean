/-! the model's trials leave it as it was: stands, gale, voyage -/
def w_tr (τ τ1 : sm_St) : Prop := τ1 126 = q_lays τ 126 0 126 ∧ (∀ q, q ≠ 110 → (q < 114 ∨ 117 < q) → q ≠ 126 → τ1 q = τ q) ∧ (∀ j, j < 6 ∨ 10 < j → τ1 110 j = τ 110 j) ∧ ∀ q, 114 ≤ q → q ≤ 117 → ∀ j, 6 ≤ j → τ1 q j = τ q j
theorem w_tr_0 (τ : sm_St) : w_tr τ (q_lays τ 126 0) := ⟨rfl, fun q _ _ h => q_lays_off h, fun j _ => by rw [q_lays_off (by decide)], fun q _ h2 j _ => by rw [q_lays_off (by omega)]⟩
theorem w_tr_b {τ τ1 : sm_St} (h : w_tr τ τ1) : ∀ q, q ≠ 126 → q_takes τ1 126 0 q = τ q := w_back h.1 h.2.1 h.2.2.1 h.2.2.2
theorem w_tr_set {τ τ1 : sm_St} {j : Nat} {v : Int32} (hj : 6 ≤ j ∧ j ≤ 10) (h : w_tr τ τ1) : w_tr τ (sm_set τ1 110 j v) :=
  ⟨by rw [sm_set_off (by decide)]; exact h.1, fun q h1 h2 h3 => by rw [sm_set_off h1]; exact h.2.1 q h1 h2 h3, fun l hl => by rw [sm_set_ne (by omega)]; exact h.2.2.1 l hl, fun q h1 h2 l hl => by rw [sm_set_off (by omega)]; exact h.2.2.2 q h1 h2 l hl⟩
theorem w_tr_hour {τ τ1 : sm_St} {np nc : Nat} (h : w_tr τ τ1) : w_tr τ (q_hour τ1 np nc) := w_tr_set (by omega) (w_tr_set (by omega) (w_tr_set (by omega) h))
theorem w_rs6 {σ : sm_St} {k l : Nat} {x v : Int32} (hl : 6 ≤ l) : r_set σ k 6 x v k l = σ k l := by
  unfold r_set
  split
  · rename_i hh
    have h2 := hh.2
    rw [Int32.le_iff_toInt_le, nI_toInt (by decide)] at h2
    have h3 : x.toNatClampNeg < 6 := by
      show x.toInt.toNat < 6
      omega
    exact sm_set_ne (by omega)
  · rfl
theorem w_tr_row {τ τ1 : sm_St} {k : Nat} {x v : Int32} (hk : 114 ≤ k ∧ k ≤ 117) (h : w_tr τ τ1) : w_tr τ (r_set τ1 k 6 x v) :=
  ⟨by rw [r_set_off (by omega)]; exact h.1, fun q h1 h2 h3 => by rw [r_set_off (by omega)]; exact h.2.1 q h1 h2 h3, fun l hl => by rw [r_set_off (by omega)]; exact h.2.2.1 l hl, fun q h1 h2 l hl => by
    by_cases e : q = k
    · subst e
      rw [w_rs6 hl]
      exact h.2.2.2 q h1 h2 l hl
    · rw [r_set_off e]
      exact h.2.2.2 q h1 h2 l hl⟩
theorem w_tr_st {τ : sm_St} {np nc : Nat} : ∀ (n i : Nat) (τ1 : sm_St), w_tr τ τ1 → w_tr τ (q_st np nc n i τ1).2
  | 0, _, _, h => h
  | n + 1, i, τ1, h => by
    unfold q_st
    split
    · exact h
    · exact w_tr_st n (i + 1) _ (w_tr_hour h)
theorem w_stands_m {τ : sm_St} {np nc : Nat} : ∀ q, q ≠ 126 → (q_end40 (q_st np nc 41 0 (q_lays τ 126 0))).2 q = τ q := w_tr_b (w_tr_st 41 0 _ (w_tr_0 τ))
theorem w_tr_ga {τ : sm_St} {np nc : Nat} : ∀ (n : Nat) (τ1 : sm_St), w_tr τ τ1 → w_tr τ (q_ga np nc n τ1).2
  | 0, _, h => h
  | n + 1, τ1, h => by
    unfold q_ga
    split
    · exact h
    · exact w_tr_ga n _ (w_tr_set (by omega) h)
theorem w_gale_m {τ : sm_St} {np nc : Nat} {d : Int32} : ∀ q, q ≠ 126 → (p_gale τ np nc d).2 q = τ q := by
  unfold p_gale
  split
  · exact w_tr_b (w_tr_ga 21 _ (w_tr_set (by omega) (w_tr_set (by omega) (w_tr_0 τ))))
  · exact fun q _ => rfl
theorem w_tr_ch {τ τ1 : sm_St} {x : Int32} (h : w_tr τ τ1) : w_tr τ (q_ch τ1 x) := by
  unfold q_ch
  split
  · exact w_tr_set (by omega) (w_tr_set (by omega) h)
  · split
    · exact w_tr_row (by omega) h
    · exact h
theorem w_tr_vo {τ : sm_St} {np nc : Nat} {z : Int32} : ∀ (n i : Nat) (s : Int32) (τ1 : sm_St), w_tr τ τ1 → w_tr τ (q_vo np nc z n i s τ1).2
  | 0, _, _, _, h => h
  | n + 1, i, s, τ1, h => by
    unfold q_vo
    exact w_tr_vo n (i + 1) _ _ (w_tr_hour (w_tr_ch h))
theorem w_voyage_m {τ : sm_St} {np nc : Nat} {z t w : Int32} : ∀ q, q ≠ 126 → (p_voyage τ np nc z t w).2 q = τ q := by
  unfold p_voyage
  split
  · exact w_tr_b (w_tr_vo _ 0 0 _ (w_tr_0 τ))
  · exact fun q _ => rfl

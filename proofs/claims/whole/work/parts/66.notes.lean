/-! the model's notes: what is laid and what is taken back -/
theorem w_note_at {τ : sm_St} {a p k : Nat} (hk : k < 29) : q_lays τ a p a (p + k) = q_num τ k := by
  unfold q_lays
  rw [sm_row_eq]
  unfold q_noteI
  rw [if_pos (by omega), show p + k - p = k by omega]
theorem w_note_off {τ : sm_St} {a p k : Nat} (hk : k < p ∨ p + 29 ≤ k) : q_lays τ a p a k = τ a k := by
  unfold q_lays
  rw [sm_row_eq]
  unfold q_noteI
  rw [if_neg (by omega)]
theorem w_takes_110 {τ τ1 : sm_St} {a p j : Nat} (h : ∀ k, k < 29 → τ1 a (p + k) = q_num τ k) (h1 : 6 ≤ j) (h2 : j ≤ 10) : q_takes τ1 a p 110 j = τ 110 j := by
  unfold q_takes q_takeI
  rw [if_pos rfl]
  have e0 : τ1 a p = τ 110 6 := h 0 (by decide)
  have e1 : τ1 a (p + 1) = τ 110 7 := h 1 (by decide)
  have e2 : τ1 a (p + 2) = τ 110 8 := h 2 (by decide)
  have e3 : τ1 a (p + 3) = τ 110 9 := h 3 (by decide)
  have e4 : τ1 a (p + 4) = τ 110 10 := h 4 (by decide)
  rcases (show j = 6 ∨ j = 7 ∨ j = 8 ∨ j = 9 ∨ j = 10 by omega) with rfl | rfl | rfl | rfl | rfl
  · exact e0
  · exact e1
  · exact e2
  · exact e3
  · exact e4
theorem w_takes_row {τ τ1 : sm_St} {a p q j : Nat} (h : ∀ k, k < 29 → τ1 a (p + k) = q_num τ k) (h1 : 114 ≤ q) (h2 : q ≤ 117) (hj : j < 6) : q_takes τ1 a p q j = τ q j := by
  unfold q_takes q_takeI
  rw [if_neg (by omega), if_pos ⟨h1, h2⟩, if_pos hj]
  have e := h (5 + 6 * (q - 114) + j) (by omega)
  rw [show p + 5 + 6 * (q - 114) + j = p + (5 + 6 * (q - 114) + j) by omega, e]
  unfold q_num
  rw [if_neg (by omega), if_neg (by omega), if_neg (by omega), if_neg (by omega), if_neg (by omega), show 114 + (5 + 6 * (q - 114) + j - 5) / 6 = q by omega, show (5 + 6 * (q - 114) + j - 5) % 6 = j by omega]
theorem q_takes_row6 {τ1 : sm_St} {a p q j : Nat} (h1 : 114 ≤ q) (h2 : q ≤ 117) (hj : 6 ≤ j) : q_takes τ1 a p q j = τ1 q j := by
  unfold q_takes q_takeI
  rw [if_neg (by omega), if_pos ⟨h1, h2⟩, if_neg (by omega)]
/-- what is tried in the model is gone when it is taken back: but for row 126 all numbers are as they were -/
theorem w_back {τ τ1 : sm_St} (h126 : τ1 126 = q_lays τ 126 0 126) (hoff : ∀ q, q ≠ 110 → (q < 114 ∨ 117 < q) → q ≠ 126 → τ1 q = τ q) (h110 : ∀ j, j < 6 ∨ 10 < j → τ1 110 j = τ 110 j) (hrow : ∀ q, 114 ≤ q → q ≤ 117 → ∀ j, 6 ≤ j → τ1 q j = τ q j) : ∀ q, q ≠ 126 → q_takes τ1 126 0 q = τ q := by
  intro q hq
  have hk : ∀ k, k < 29 → τ1 126 (0 + k) = q_num τ k := fun k hk => by rw [h126]; exact w_note_at hk
  by_cases e : q = 110
  · subst e
    funext j
    by_cases hj : 6 ≤ j ∧ j ≤ 10
    · exact w_takes_110 hk hj.1 hj.2
    · rw [q_takes_o (by omega)]
      exact h110 j (by omega)
  · by_cases e2 : 114 ≤ q ∧ q ≤ 117
    · funext j
      by_cases hj : j < 6
      · exact w_takes_row hk e2.1 e2.2 hj
      · rw [q_takes_row6 e2.1 e2.2 (by omega)]
        exact hrow q e2.1 e2.2 j (by omega)
    · rw [q_takes_off e (by omega)]
      exact hoff q e (by omega) hq
/-- behind: the model is as it was -/
theorem w_behind_m {τ : sm_St} {np nc : Nat} {t w : Int32} : ∀ q, q ≠ 126 → (p_behind τ np nc t w).2 q = τ q := by
  intro q hq
  unfold p_behind
  by_cases h : sm_win t 0 40 = true ∧ sm_win w 0 1 = true
  · rw [if_pos h]
    refine w_back (τ := τ) ?_ (fun q h1 h2 h3 => ?_) (fun j hj => ?_) (fun q h1 h2 j hj => ?_) q hq
    · rw [q_hours_off (by decide)]
    · rw [q_hours_off h1, q_lays_off h3]
    · rw [q_hours_o (by omega), q_lays_off (by decide)]
    · rw [q_hours_off (by omega), q_lays_off (by omega)]
  · rw [if_neg h]

/-! the model's way hangs on where she is, not on the hour: who comes back to a cell goes in a ring -/
def w_a5 (V W : Nat → Nat → Int32) : Prop := (∀ i, i < 5 → V 0 i = W 0 i) ∧ ∀ m, 1 ≤ m → V m = W m
theorem w_apart_5 {V W : Nat → Nat → Int32} (h : w_a5 V W) (p : Int32) : f_apart V p = f_apart W p := by
  unfold f_apart
  rw [h.1 0 (by decide), h.1 1 (by decide), h.2 1 (by decide), h.2 2 (by decide)]
theorem w_near_5 {V W : Nat → Nat → Int32} (h : w_a5 V W) (w : Int32) : ∀ n, f_near V w n = f_near W w n
  | 0 => rfl
  | n + 1 => by
    unfold f_near
    rw [w_near_5 h w n, w_apart_5 h, h.2 3 (by decide), h.2 4 (by decide)]
theorem w_nearest_5 {V W : Nat → Nat → Int32} (h : w_a5 V W) (n : Nat) (w : Int32) : q_nearest V n w = q_nearest W n w := by
  unfold q_nearest
  rw [w_near_5 h]
theorem w_str_5 {V W : Nat → Nat → Int32} (h : w_a5 V W) (n : Nat) (c : Int32) : q_str V n c = q_str W n c := by
  unfold q_str
  rw [w_nearest_5 h, w_apart_5 h, h.2 5 (by decide), h.2 6 (by decide), h.2 7 (by decide)]
theorem w_to_5 {V W : Nat → Nat → Int32} (h : w_a5 V W) (n : Nat) (c : Int32) : q_to V n c = q_to W n c := by
  unfold q_to
  rw [w_str_5 h, w_nearest_5 h, h.1 0 (by decide), h.1 1 (by decide), h.2 1 (by decide), h.2 2 (by decide), h.2 6 (by decide)]
theorem w_pull_5 {V W : Nat → Nat → Int32} (h : w_a5 V W) (n : Nat) (a b : Int32) : ∀ c, q_pull V n a b c = q_pull W n a b c
  | 0 => by
    unfold q_pull
    rw [h.1 3 (by decide), h.1 4 (by decide)]
  | c + 1 => by
    unfold q_pull
    rw [w_pull_5 h n a b c, w_to_5 h, w_str_5 h]
theorem w_goes_5 {V W : Nat → Nat → Int32} (h : w_a5 V W) (np nc : Nat) : q_goes V np nc = q_goes W np nc := by
  unfold q_goes
  rw [w_pull_5 h, w_pull_5 h, h.1 0 (by decide), h.1 1 (by decide), h.1 2 (by decide)]
theorem w_hour_5 {τ τ' : sm_St} {np nc : Nat} (h : w_a5 (q_V τ) (q_V τ')) : w_a5 (q_V (q_hour τ np nc)) (q_V (q_hour τ' np nc)) := by
  have e := w_goes_5 h np nc
  refine ⟨fun i hi => ?_, fun m hm => ?_⟩
  · have g := h.1 i hi
    rcases (show i = 0 ∨ i = 1 ∨ i = 2 ∨ i = 3 ∨ i = 4 by omega) with rfl | rfl | rfl | rfl | rfl
    · show q_hour τ np nc 110 7 = q_hour τ' np nc 110 7
      rw [q_hour_7, q_hour_7, e, show τ 110 7 = τ' 110 7 from g]
    · show q_hour τ np nc 110 8 = q_hour τ' np nc 110 8
      rw [q_hour_8, q_hour_8, e, show τ 110 8 = τ' 110 8 from g]
    · show q_hour τ np nc 110 2 = q_hour τ' np nc 110 2
      rw [q_hour_o (by decide) (by decide) (by decide), q_hour_o (by decide) (by decide) (by decide)]
      exact g
    · show q_hour τ np nc 110 9 = q_hour τ' np nc 110 9
      rw [q_hour_o (by decide) (by decide) (by decide), q_hour_o (by decide) (by decide) (by decide)]
      exact g
    · show q_hour τ np nc 110 10 = q_hour τ' np nc 110 10
      rw [q_hour_o (by decide) (by decide) (by decide), q_hour_o (by decide) (by decide) (by decide)]
      exact g
  · rw [q_hour_Vm hm, q_hour_Vm hm]
    exact h.2 m hm
theorem w_hours_5 {np nc : Nat} : ∀ (n : Nat) (τ τ' : sm_St), w_a5 (q_V τ) (q_V τ') → w_a5 (q_V (q_hours np nc n τ)) (q_V (q_hours np nc n τ'))
  | 0, _, _, h => h
  | n + 1, _, _, h => w_hours_5 n _ _ (w_hour_5 h)
theorem q_hours_add {np nc : Nat} : ∀ (a b : Nat) (τ : sm_St), q_hours np nc (a + b) τ = q_hours np nc b (q_hours np nc a τ)
  | 0, b, τ => by rw [Nat.zero_add]; rfl
  | a + 1, b, τ => by
    rw [show a + 1 + b = (a + b) + 1 by omega]
    exact q_hours_add a b (q_hour τ np nc)
theorem q_hours_V {np nc m : Nat} (hm : 1 ≤ m) : ∀ (n : Nat) (τ : sm_St), q_V (q_hours np nc n τ) m = q_V τ m
  | 0, _ => rfl
  | n + 1, τ => by
    show q_V (q_hours np nc n (q_hour τ np nc)) m = q_V τ m
    rw [q_hours_V hm n, q_hour_Vm hm]
/-- the same cell at the hours a and b: the same numbers but for the hour -/
theorem w_same {np nc a b : Nat} {τ : sm_St} (h7 : q_hours np nc a τ 110 7 = q_hours np nc b τ 110 7) (h8 : q_hours np nc a τ 110 8 = q_hours np nc b τ 110 8) : w_a5 (q_V (q_hours np nc a τ)) (q_V (q_hours np nc b τ)) := by
  refine ⟨fun i hi => ?_, fun m hm => by rw [q_hours_V hm, q_hours_V hm]⟩
  rcases (show i = 0 ∨ i = 1 ∨ i = 2 ∨ i = 3 ∨ i = 4 by omega) with rfl | rfl | rfl | rfl | rfl
  · exact h7
  · exact h8
  · show q_hours np nc a τ 110 2 = q_hours np nc b τ 110 2
    rw [q_hours_o (by decide), q_hours_o (by decide)]
  · show q_hours np nc a τ 110 9 = q_hours np nc b τ 110 9
    rw [q_hours_o (by decide), q_hours_o (by decide)]
  · show q_hours np nc a τ 110 10 = q_hours np nc b τ 110 10
    rw [q_hours_o (by decide), q_hours_o (by decide)]
/-- in a ring she never comes to a cell that is not in it -/
theorem w_ring {np nc a b : Nat} {x y : Int32} {τ : sm_St} (hab : a < b) (h7 : q_hours np nc a τ 110 7 = q_hours np nc b τ 110 7) (h8 : q_hours np nc a τ 110 8 = q_hours np nc b τ 110 8) (hno : ∀ j, j ≤ b → ¬ (q_hours np nc j τ 110 7 = x ∧ q_hours np nc j τ 110 8 = y)) : ∀ N j, j ≤ N → ¬ (q_hours np nc j τ 110 7 = x ∧ q_hours np nc j τ 110 8 = y)
  | 0, j, hj => hno j (by omega)
  | N + 1, j, hj => by
    by_cases hb : j ≤ b
    · exact hno j hb
    · have hs := w_hours_5 (np := np) (nc := nc) (j - b) _ _ (w_same h7 h8)
      rw [← q_hours_add, ← q_hours_add, show b + (j - b) = j by omega] at hs
      have ih := w_ring hab h7 h8 hno N (a + (j - b)) (by omega)
      intro hh
      exact ih ⟨(hs.1 0 (by decide)).trans hh.1, (hs.1 1 (by decide)).trans hh.2⟩

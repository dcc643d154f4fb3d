/-! the whole relation of class and model, and what it hangs on -/
theorem q_V4 {τ : sm_St} {m : Nat} (h1 : 1 ≤ m) (h2 : m ≤ 4) : q_V τ m = τ (113 + m) := by
  rcases (show m = 1 ∨ m = 2 ∨ m = 3 ∨ m = 4 by omega) with rfl | rfl | rfl | rfl <;> rfl
theorem q_V7 {τ : sm_St} {m : Nat} (h1 : 5 ≤ m) (h2 : m < 8) : q_V τ m = τ (106 + m) := by
  rcases (show m = 5 ∨ m = 6 ∨ m = 7 by omega) with rfl | rfl | rfl <;> rfl
/-- the model's own numbers of its view's row 0 -/
def w_m0 (j : Nat) : Prop := j = 0 ∨ j = 1 ∨ j = 2 ∨ j = 6 ∨ j = 7 ∨ j = 8 ∨ j = 9 ∨ j = 10 ∨ j = 28 ∨ j = 29
theorem q_V0_j {τ τ' : sm_St} (h : ∀ j, w_m0 j → τ' 110 j = τ 110 j) : q_V τ' 0 = q_V τ 0 := by
  funext i
  match i with
  | 0 => exact h 7 (by unfold w_m0; omega)
  | 1 => exact h 8 (by unfold w_m0; omega)
  | 2 => exact h 2 (by unfold w_m0; omega)
  | 3 => exact h 9 (by unfold w_m0; omega)
  | 4 => exact h 10 (by unfold w_m0; omega)
  | 5 => exact h 6 (by unfold w_m0; omega)
  | 6 =>
    show τ' 110 0 + τ' 110 28 = τ 110 0 + τ 110 28
    rw [h 0 (by unfold w_m0; omega), h 28 (by unfold w_m0; omega)]
  | n + 7 =>
    show τ' 110 1 + τ' 110 29 = τ 110 1 + τ 110 29
    rw [h 1 (by unfold w_m0; omega), h 29 (by unfold w_m0; omega)]
theorem w_ag_m {np nc : Nat} {τ τ' : sm_St} (h : ∀ j, w_m0 j → τ' 110 j = τ 110 j) (hc : ∀ q i, 111 ≤ q → q ≤ 113 → i < nc → τ' q i = τ q i) (hp : ∀ q i, 114 ≤ q → q ≤ 117 → i < np → τ' q i = τ q i) : w_ag np nc (q_V τ') (q_V τ) := by
  refine ⟨fun i _ => by rw [q_V0_j h], fun m m1 m2 i hi => ?_⟩
  by_cases e : m < 5
  · rw [if_pos e] at hi
    rw [q_V4 m1 (by omega), q_V4 m1 (by omega)]
    exact hp _ i (by omega) (by omega) hi
  · rw [if_neg e] at hi
    rw [q_V7 (by omega) m2, q_V7 (by omega) m2]
    exact hc _ i (by omega) (by omega) hi
theorem w_ag_c {np nc : Nat} {σ σ' : sm_St} (k : Nat) (h : ∀ i, i < 8 → σ' k i = σ k i) (hr : ∀ q, k < q → q < k + 8 → σ' q = σ q) : w_ag np nc (sm_V σ' k) (sm_V σ k) := by
  refine ⟨fun i hi => h i hi, fun m m1 m2 i hi => ?_⟩
  show σ' (k + m) i = σ (k + m) i
  rw [hr _ (by omega) (by omega)]
/-- a pile: how many, the top, and each field of it as the model's note -/
def w_pl (P b n a sl : Nat) (σ τ : sm_St) (np nc u tp : Nat) : Prop := (σ P 1 = nI u ∧ τ 110 sl = nI u ∧ u ≤ n) ∧ (σ P 2 = nI tp ∧ tp < n) ∧ ∀ j, j < u → w_ag np nc (sm_V σ (b + 8 * ((tp + n + 1 - u + j) % n))) (q_V (q_takes τ a (29 * j))) ∧ w_ok (q_V (q_takes τ a (29 * j))) np nc ∧ w_aw (q_takes τ a (29 * j)) np
theorem q_num_takes {τ : sm_St} {a p k : Nat} (hk : k < 29) : q_num (q_takes τ a p) k = τ a (p + k) := by
  unfold q_num q_takes q_takeI
  by_cases h0 : k = 0
  · subst h0; rfl
  · by_cases h1 : k = 1
    · subst h1; rfl
    · by_cases h2 : k = 2
      · subst h2; rfl
      · by_cases h3 : k = 3
        · subst h3; rfl
        · by_cases h4 : k = 4
          · subst h4; rfl
          · rw [if_neg h0, if_neg h1, if_neg h2, if_neg h3, if_neg h4]
            rw [if_neg (by omega), if_pos (by omega), if_pos (by omega)]
            congr 1
            omega
/-- the numbers of a note that is taken are those that were laid -/
theorem w_tk {np nc a p : Nat} {X τ : sm_St} (ha : 118 ≤ a) (hn : np ≤ 6) (h : ∀ k, k < 29 → X a (p + k) = q_num τ k) (h1 : ∀ j, j = 0 ∨ j = 1 ∨ j = 2 ∨ j = 28 ∨ j = 29 → X 110 j = τ 110 j) (hc : ∀ q i, 111 ≤ q → q ≤ 113 → i < nc → X q i = τ q i) : w_ag np nc (q_V (q_takes X a p)) (q_V τ) := by
  refine w_ag_m (fun j hj => ?_) (fun q i q1 q2 hi => ?_) (fun q i q1 q2 hi => ?_)
  · by_cases e : 6 ≤ j ∧ j ≤ 10
    · exact w_takes_110 h e.1 e.2
    · rw [q_takes_o (by omega)]
      exact h1 j (by unfold w_m0 at hj; omega)
  · rw [q_takes_off (by omega) (by omega)]
    exact hc q i q1 q2 hi
  · exact w_takes_row h q1 q2 (by omega)
theorem w_tk_aw {np a p : Nat} {X τ : sm_St} (hn : np ≤ 6) (h : ∀ k, k < 29 → X a (p + k) = q_num τ k) (haw : w_aw τ np) : w_aw (q_takes X a p) np := by
  intro i hi
  rw [w_takes_row h (by decide) (by decide) (by omega)]
  exact haw i hi
theorem w_pl_e {P b n a sl np nc u tp : Nat} {σ σ' τ τ' : sm_St} (ha : 118 ≤ a) (hn : np ≤ 6) (hP : σ' P 1 = σ P 1 ∧ σ' P 2 = σ P 2) (hb : ∀ q, b ≤ q → q < b + 8 * n → σ' q = σ q) (hsl : τ' 110 sl = τ 110 sl) (hta : τ' a = τ a) (h1 : ∀ j, j = 0 ∨ j = 1 ∨ j = 2 ∨ j = 28 ∨ j = 29 → τ' 110 j = τ 110 j) (hc : ∀ q i, 111 ≤ q → q ≤ 113 → i < nc → τ' q i = τ q i) (h : w_pl P b n a sl σ τ np nc u tp) : w_pl P b n a sl σ' τ' np nc u tp := by
  obtain ⟨⟨x1, x2, x3⟩, ⟨x4, x5⟩, x6⟩ := h
  refine ⟨⟨hP.1.trans x1, hsl.trans x2, x3⟩, ⟨hP.2.trans x4, x5⟩, fun j hj => ?_⟩
  obtain ⟨y1, y2, y3⟩ := x6 j hj
  have hlt : (tp + n + 1 - u + j) % n < n := Nat.mod_lt _ (by omega)
  have hk : ∀ k, k < 29 → τ' a (29 * j + k) = q_num (q_takes τ a (29 * j)) k := fun k hk => by rw [q_num_takes hk, hta]
  have ht : w_ag np nc (q_V (q_takes τ' a (29 * j))) (q_V (q_takes τ a (29 * j))) := w_tk ha hn hk (fun i hi => by rw [q_takes_o (by omega)]; exact h1 i hi) (fun q i q1 q2 hi => by rw [q_takes_off (by omega) (by omega)]; exact hc q i q1 q2 hi)
  refine ⟨?_, w_ok_w ht y2, w_tk_aw hn hk y3⟩
  refine ((w_ag_c _ (fun i _ => ?_) (fun q q1 q2 => ?_)).tr y1).tr ht.sy
  · rw [hb _ (by omega) (by omega)]
  · rw [hb _ (by omega) (by omega)]
def w_I (σ τ : sm_St) (np nc z t u tp kk tk : Nat) : Prop := w_now σ τ np nc ∧ w_aw τ np ∧ w_see σ τ z ∧ w_txt σ τ t ∧ w_pl 104 16 8 125 31 σ τ np nc u tp ∧ w_pl 106 80 2 127 34 σ τ np nc kk tk
theorem w_now_e {σ σ' τ τ' : sm_St} {np nc : Nat} (hc0 : ∀ i, i < 8 → σ' 0 i = σ 0 i) (hcr : ∀ q, 0 < q → q < 8 → σ' q = σ q) (hm0 : ∀ j, w_m0 j → τ' 110 j = τ 110 j) (hmc : ∀ q i, 111 ≤ q → q ≤ 113 → i < nc → τ' q i = τ q i) (hmp : ∀ q i, 114 ≤ q → q ≤ 117 → i < np → τ' q i = τ q i) (h : w_now σ τ np nc) : w_now σ' τ' np nc := by
  have e := w_ag_m hm0 hmc hmp
  have e2 : w_ag np nc (sm_V σ' 0) (sm_V σ 0) := w_ag_c 0 hc0 (fun q a b => hcr q a (by omega))
  refine ⟨(e2.tr h.1).tr e.sy, w_ok_w e h.2.1, ?_, ?_, ?_⟩
  · unfold q_N
    rw [hm0 0 (by unfold w_m0; omega)]
    exact h.2.2.1
  · unfold q_C
    rw [hm0 1 (by unfold w_m0; omega)]
    exact h.2.2.2.1
  · unfold q_0
    rw [hm0 28 (by unfold w_m0; omega), hm0 29 (by unfold w_m0; omega)]
    exact h.2.2.2.2
theorem w_see_e {σ σ' τ τ' : sm_St} {z : Nat} (h1 : σ' 100 3 = σ 100 3) (h2 : ∀ q, 101 ≤ q → q ≤ 103 → σ' q = σ q) (h3 : τ' 110 15 = τ 110 15) (h4 : ∀ q, 118 ≤ q → q ≤ 120 → τ' q = τ q) (h : w_see σ τ z) : w_see σ' τ' z := by
  obtain ⟨⟨a, b, c⟩, d⟩ := h
  exact ⟨⟨h1.trans a, h3.trans b, c⟩, fun i hi => w_s1_e (d i hi) h2 h4⟩
theorem w_txt_e {σ σ' τ τ' : sm_St} {t : Nat} (h1 : σ' 97 2 = σ 97 2) (h2 : σ' 98 = σ 98) (h3 : τ' 110 20 = τ 110 20) (h4 : τ' 121 = τ 121) (h : w_txt σ τ t) : w_txt σ' τ' t := by
  obtain ⟨⟨a, b, c⟩, d⟩ := h
  refine ⟨⟨h1.trans a, h3.trans b, c⟩, fun i hi => ?_⟩
  rw [h2, h4]
  exact d i hi
/-- what matters of the class, of the model -/
def w_cs (q i : Nat) : Prop := (q = 0 ∧ i < 8) ∨ (1 ≤ q ∧ q < 8) ∨ (16 ≤ q ∧ q < 97) ∨ (q = 97 ∧ i = 2) ∨ q = 98 ∨ (100 ≤ q ∧ q < 108)
def w_ms (nc q i : Nat) : Prop := (q = 110 ∧ (i < 21 ∨ 23 < i) ∧ i ≠ 27) ∨ (111 ≤ q ∧ q ≤ 113 ∧ i < nc) ∨ (114 ≤ q ∧ q ≤ 121) ∨ q = 125 ∨ q = 127
theorem w_I_e {σ σ' τ τ' : sm_St} {np nc z t u tp kk tk : Nat} (hc : ∀ q i, w_cs q i → σ' q i = σ q i) (hm : ∀ q i, w_ms nc q i → τ' q i = τ q i) (h : w_I σ τ np nc z t u tp kk tk) : w_I σ' τ' np nc z t u tp kk tk := by
  obtain ⟨h1, h2, h3, h4, h5, h6⟩ := h
  have n5 := h1.2.2.1.1.2
  have r : ∀ q, (1 ≤ q ∧ q < 8) ∨ (16 ≤ q ∧ q < 97) ∨ q = 98 ∨ (100 ≤ q ∧ q < 108) → σ' q = σ q := fun q hq => by
    funext i
    exact hc q i (by unfold w_cs; omega)
  have rm : ∀ q, (114 ≤ q ∧ q ≤ 121) ∨ q = 125 ∨ q = 127 → τ' q = τ q := fun q hq => by
    funext i
    exact hm q i (by unfold w_ms; omega)
  have m0 : ∀ j, w_m0 j → τ' 110 j = τ 110 j := fun j hj => hm 110 j (by unfold w_m0 at hj; unfold w_ms; omega)
  have mc : ∀ q i, 111 ≤ q → q ≤ 113 → i < nc → τ' q i = τ q i := fun q i a b c => hm q i (by unfold w_ms; omega)
  refine ⟨w_now_e (fun i hi => hc 0 i (by unfold w_cs; omega)) (fun q a b => r q (by omega)) m0 mc (fun q i a b _ => by rw [rm q (by omega)]) h1, fun p hp => by rw [rm 117 (by omega)]; exact h2 p hp, w_see_e (by rw [r 100 (by omega)]) (fun q a b => r q (by omega)) (hm 110 15 (by unfold w_ms; omega)) (fun q a b => rm q (by omega)) h3, w_txt_e (hc 97 2 (by unfold w_cs; omega)) (r 98 (by omega)) (hm 110 20 (by unfold w_ms; omega)) (rm 121 (by omega)) h4, ?_, ?_⟩
  · exact w_pl_e (by decide) (by omega) ⟨by rw [r 104 (by omega)], by rw [r 104 (by omega)]⟩ (fun q a b => r q (by omega)) (hm 110 31 (by unfold w_ms; omega)) (rm 125 (by omega)) (fun j hj => hm 110 j (by unfold w_ms; omega)) mc h5
  · exact w_pl_e (by decide) (by omega) ⟨by rw [r 106 (by omega)], by rw [r 106 (by omega)]⟩ (fun q a b => r q (by omega)) (hm 110 34 (by unfold w_ms; omega)) (rm 127 (by omega)) (fun j hj => hm 110 j (by unfold w_ms; omega)) mc h6

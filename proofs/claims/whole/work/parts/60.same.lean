/-! class and model: the pull, the way she goes -/
/-- a view whose numbers lie where they must -/
def w_ok (V : Nat → Nat → Int32) (np nc : Nat) : Prop :=
  (V 0 6 = nI np) ∧ (np ≤ 6) ∧ (V 0 7 = nI nc) ∧ (nc ≤ 8) ∧ (∃ k, k < 5 ∧ V 0 3 = nI k) ∧ (∃ x, x < 9 ∧ V 0 0 = nI x) ∧ (∃ y, y < 9 ∧ V 0 1 = nI y) ∧ (∀ p, p < np → ∃ x, x < 9 ∧ V 1 p = nI x) ∧ (∀ p, p < np → ∃ y, y < 9 ∧ V 2 p = nI y) ∧ (∀ c, c < nc → ∃ a, a < 10 ∧ V 7 c = nI a)
theorem w_ok.n0 {V : Nat → Nat → Int32} {np nc : Nat} (h : w_ok V np nc) : V 0 6 = nI np := h.1
theorem w_ok.n1 {V : Nat → Nat → Int32} {np nc : Nat} (h : w_ok V np nc) : np ≤ 6 := h.2.1
theorem w_ok.c0 {V : Nat → Nat → Int32} {np nc : Nat} (h : w_ok V np nc) : V 0 7 = nI nc := h.2.2.1
theorem w_ok.c1 {V : Nat → Nat → Int32} {np nc : Nat} (h : w_ok V np nc) : nc ≤ 8 := h.2.2.2.1
theorem w_ok.w0 {V : Nat → Nat → Int32} {np nc : Nat} (h : w_ok V np nc) : ∃ k, k < 5 ∧ V 0 3 = nI k := h.2.2.2.2.1
theorem w_ok.x0 {V : Nat → Nat → Int32} {np nc : Nat} (h : w_ok V np nc) : ∃ x, x < 9 ∧ V 0 0 = nI x := h.2.2.2.2.2.1
theorem w_ok.y0 {V : Nat → Nat → Int32} {np nc : Nat} (h : w_ok V np nc) : ∃ y, y < 9 ∧ V 0 1 = nI y := h.2.2.2.2.2.2.1
theorem w_ok.px {V : Nat → Nat → Int32} {np nc : Nat} (h : w_ok V np nc) : ∀ p, p < np → ∃ x, x < 9 ∧ V 1 p = nI x := h.2.2.2.2.2.2.2.1
theorem w_ok.py {V : Nat → Nat → Int32} {np nc : Nat} (h : w_ok V np nc) : ∀ p, p < np → ∃ y, y < 9 ∧ V 2 p = nI y := h.2.2.2.2.2.2.2.2.1
theorem w_ok.cn {V : Nat → Nat → Int32} {np nc : Nat} (h : w_ok V np nc) : ∀ c, c < nc → ∃ a, a < 10 ∧ V 7 c = nI a := h.2.2.2.2.2.2.2.2.2
theorem w_ab : ∀ x, x < 9 → ∀ y, y < 9 → f_ab (nI x - nI y) = nI ((x - y) + (y - x)) := by decide +kernel
theorem w_apart {V : Nat → Nat → Int32} {np nc : Nat} (h : w_ok V np nc) {p : Nat} (hp : p < np) : ∃ b, b < 17 ∧ f_apart V (nI p) = nI b := by
  have h6 := h.n1
  obtain ⟨x, hx, ex⟩ := h.x0
  obtain ⟨y, hy, ey⟩ := h.y0
  obtain ⟨x1, hx1, ex1⟩ := h.px p hp
  obtain ⟨y1, hy1, ey1⟩ := h.py p hp
  refine ⟨((x1 - x) + (x - x1)) + ((y1 - y) + (y - y1)), by omega, ?_⟩
  unfold f_apart
  rw [r_at_nI rfl (by omega) (by decide), r_at_nI rfl (by omega) (by decide), ex, ey, ex1, ey1, w_ab x1 hx1 x hx, w_ab y1 hy1 y hy, nI_add]
theorem w_nearest {V : Nat → Nat → Int32} {np nc : Nat} (h : w_ok V np nc) (c : Int32) : f_nearest V c = q_nearest V np (r_at (V 6) 8 c) := by
  unfold f_nearest q_nearest
  have h6 := h.n1
  rw [h.n0, nI_clamp (by omega)]
theorem w_by12 : ∀ x, x < 40 → (if nI x < 12 then nI x else 12) = if nI x ≤ 12 then nI x else 12 := by decide +kernel
theorem w_by0 : ∀ a, a < 10 → ∀ b, b < 17 → (if 0 < nI a - nI b then nI a - nI b else 0) = if nI a ≤ nI b then 0 else nI a - nI b := by decide +kernel
theorem w_by {k : Int32} {a b : Nat} (ha : a < 10) (hb : b < 17) : f_by k (nI a) (nI b) = q_by k (nI a) (nI b) := by
  unfold f_by q_by
  rw [w_by0 a ha b hb, nI_add, w_by12 (a + b) (by omega)]
theorem w_str {V : Nat → Nat → Int32} {np nc : Nat} (h : w_ok V np nc) {c : Nat} (hc : c < nc) : f_str V (nI c) (f_nearest V (nI c)) = q_str V np (nI c) := by
  have h6 := h.n1
  have h8 := h.c1
  unfold f_str q_str
  rw [w_nearest h]
  obtain ⟨a, ha, ea⟩ := h.cn c hc
  unfold q_nearest
  rcases f_near_in V (r_at (V 6) 8 (nI c)) np with e | ⟨j, hj, ej, -⟩
  · rw [e, if_pos rfl]
    have e2 : f_far V (-4) = 0 := by
      unfold f_far f_hasP
      rw [show (decide (¬ (-4 : Int32) < 0 ∧ ¬ V 0 6 ≤ -4)) = false from decide_eq_false (fun hh => hh.1 (by decide))]
      exact if_neg (by decide)
    rw [e2]
    unfold f_by
    exact if_pos rfl
  · have e4 : ¬ nI j = -4 := nI_ne4 (by omega)
    rw [ej, if_neg e4]
    obtain ⟨b, hb, eb⟩ := w_apart h hj
    have e2 : f_far V (nI j) = f_apart V (nI j) := by
      unfold f_far f_hasP
      rw [h.n0, decide_eq_true (show ¬ nI j < 0 ∧ ¬ nI np ≤ nI j from ⟨nI_pos (by omega), fun hh => absurd ((nI_leI (by omega) (by omega)).mp hh) (by omega)⟩)]
      exact if_pos rfl
    rw [e2, eb, r_at_nI (f := V 7) rfl (show c < 8 by omega) (by decide), ea]
    exact w_by ha hb
theorem w_head {V : Nat → Nat → Int32} {np nc : Nat} (h : w_ok V np nc) {c : Nat} (hc : c < nc) : f_head V (f_nearest V (nI c)) (f_str V (nI c) (f_nearest V (nI c))) = q_to V np (nI c) := by
  have h6 := h.n1
  rw [w_str h hc]
  unfold f_head q_to
  by_cases hs : q_str V np (nI c) = 0
  · rw [if_pos (Or.inl hs), if_pos hs]
  · rw [if_neg hs, w_nearest h]
    have hn : ¬ q_nearest V np (r_at (V 6) 8 (nI c)) = -4 := fun hh => hs (by unfold q_str; rw [if_pos hh])
    rcases f_near_in V (r_at (V 6) 8 (nI c)) np with e | ⟨j, hj, ej, -⟩
    · exact absurd e hn
    · have ej2 : q_nearest V np (r_at (V 6) 8 (nI c)) = nI j := ej
      rw [ej2]
      have e2 : f_hasP V (nI j) = true := by
        unfold f_hasP
        rw [h.n0]
        exact decide_eq_true (show ¬ nI j < 0 ∧ ¬ nI np ≤ nI j from ⟨nI_pos (by omega), fun hh => absurd ((nI_leI (by omega) (by omega)).mp hh) (by omega)⟩)
      rw [if_neg (fun hh => hh.elim hs (fun h2 => h2 e2))]
theorem w_sx : ∀ k, k < 5 → r_at sm_sx 5 (nI k) = q_dx (nI k) := by decide +kernel
theorem w_sy : ∀ k, k < 5 → r_at sm_sy 5 (nI k) = q_dy (nI k) := by decide +kernel
theorem w_dir (r d : Int32) : ∃ k, 1 ≤ k ∧ k < 5 ∧ f_dir r d = nI k := by
  unfold f_dir
  split
  · split
    · exact ⟨1, by decide, by decide, rfl⟩
    · exact ⟨3, by decide, by decide, rfl⟩
  · split
    · exact ⟨4, by decide, by decide, rfl⟩
    · exact ⟨2, by decide, by decide, rfl⟩
theorem q_to_5 (V : Nat → Nat → Int32) (np : Nat) (c : Int32) : ∃ k, k < 5 ∧ q_to V np c = nI k := by
  unfold q_to
  split
  · exact ⟨0, by decide, rfl⟩
  · obtain ⟨k, -, h2, h3⟩ := w_dir (r_at (V 1) 6 (q_nearest V np (r_at (V 6) 8 c)) - V 0 0) (r_at (V 2) 6 (q_nearest V np (r_at (V 6) 8 c)) - V 0 1)
    exact ⟨k, h2, h3⟩
theorem w_mx {k : Nat} (hk : k < 5) (v : Int32) : r_at sm_sx 5 (nI k) * v = if nI k = 2 then v else if nI k = 4 then -v else 0 := by
  rw [w_sx k hk]
  rcases (show k = 0 ∨ k = 1 ∨ k = 2 ∨ k = 3 ∨ k = 4 by omega) with rfl | rfl | rfl | rfl | rfl
  · show (0 : Int32) * v = 0
    exact Int32.zero_mul
  · show (0 : Int32) * v = 0
    exact Int32.zero_mul
  · show (1 : Int32) * v = v
    exact Int32.one_mul v
  · show (0 : Int32) * v = 0
    exact Int32.zero_mul
  · show (-1 : Int32) * v = -v
    rw [Int32.neg_mul, Int32.one_mul]
theorem w_my {k : Nat} (hk : k < 5) (v : Int32) : r_at sm_sy 5 (nI k) * v = if nI k = 3 then v else if nI k = 1 then -v else 0 := by
  rw [w_sy k hk]
  rcases (show k = 0 ∨ k = 1 ∨ k = 2 ∨ k = 3 ∨ k = 4 by omega) with rfl | rfl | rfl | rfl | rfl
  · show (0 : Int32) * v = 0
    exact Int32.zero_mul
  · show (-1 : Int32) * v = -v
    rw [Int32.neg_mul, Int32.one_mul]
  · show (0 : Int32) * v = 0
    exact Int32.zero_mul
  · show (1 : Int32) * v = v
    exact Int32.one_mul v
  · show (0 : Int32) * v = 0
    exact Int32.zero_mul
theorem w_pull {V : Nat → Nat → Int32} {np nc : Nat} (h : w_ok V np nc) : ∀ c, c ≤ nc → f_pull V c = (q_pull V np 2 4 c, q_pull V np 3 1 c)
  | 0, _ => by
    obtain ⟨k, hk, ek⟩ := h.w0
    unfold f_pull q_pull
    rw [ek, w_mx hk, w_my hk, Int32.zero_add, Int32.zero_add]
  | c + 1, hc => by
    obtain ⟨k, hk, ek⟩ := q_to_5 V np (nI c)
    unfold f_pull q_pull
    rw [w_pull h c (by omega), w_head h (by omega), w_str h (by omega), ek, w_mx hk, w_my hk]
theorem w_R {V : Nat → Nat → Int32} {np nc : Nat} (h : w_ok V np nc) : f_R V = q_pull V np 2 4 nc := by
  have h8 := h.c1
  unfold f_R
  rw [h.c0, nI_clamp (by omega), w_pull h nc (Nat.le_refl _)]
theorem w_D {V : Nat → Nat → Int32} {np nc : Nat} (h : w_ok V np nc) : f_D V = q_pull V np 3 1 nc := by
  have h8 := h.c1
  unfold f_D
  rw [h.c0, nI_clamp (by omega), w_pull h nc (Nat.le_refl _)]
/-- the way she goes: the class's is the model's -/
theorem w_goes {V : Nat → Nat → Int32} {np nc : Nat} (h : w_ok V np nc) : f_goes V = q_goes V np nc := by
  obtain ⟨k, -, hk, ek⟩ := w_dir (q_pull V np 2 4 nc) (q_pull V np 3 1 nc)
  unfold f_goes q_goes f_to
  rw [w_R h, w_D h, ek, w_sx k hk, w_sy k hk]
theorem w_goes_in (V : Nat → Nat → Int32) (np nc : Nat) : ∃ k, k < 5 ∧ q_goes V np nc = nI k ∧ (k = 0 ∨ sm_cell (V 0 0 + q_dx (nI k)) (V 0 1 + q_dy (nI k)) = true) := by
  obtain ⟨k, -, hk, ek⟩ := w_dir (q_pull V np 2 4 nc) (q_pull V np 3 1 nc)
  unfold q_goes
  rw [ek]
  split
  · exact ⟨0, by decide, rfl, Or.inl rfl⟩
  · split
    · rename_i hc
      exact ⟨k, hk, rfl, Or.inr hc⟩
    · exact ⟨0, by decide, rfl, Or.inl rfl⟩

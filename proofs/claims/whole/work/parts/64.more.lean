/-! class and model: one more post: hold -/
def w_r3 (τ : sm_St) (np : Nat) (x y s : Int32) : sm_St := r_set (r_set (r_set τ 9 6 (nI np) x) 10 6 (nI np) y) 11 6 (nI np) s
theorem w_r3_off {τ : sm_St} {np q : Nat} {x y s : Int32} (h : q < 9 ∨ 11 < q) : w_r3 τ np x y s q = τ q := by
  unfold w_r3
  rw [r_set_off (by omega), r_set_off (by omega), r_set_off (by omega)]
theorem w_rs {σ : sm_St} {k np i : Nat} {v : Int32} (hn : np < 6) : r_set σ k 6 (nI np) v k i = if i = np then v else σ k i := by
  rw [r_set_nI rfl hn (by decide)]
  by_cases h : i = np
  · rw [h, sm_set_eq, if_pos rfl]
  · rw [sm_set_ne h, if_neg h]
theorem w_r3_9 {τ : sm_St} {np i : Nat} {x y s : Int32} (hn : np < 6) : w_r3 τ np x y s 9 i = if i = np then x else τ 9 i := by
  unfold w_r3
  rw [r_set_off (by decide), r_set_off (by decide), w_rs hn]
theorem w_r3_10 {τ : sm_St} {np i : Nat} {x y s : Int32} (hn : np < 6) : w_r3 τ np x y s 10 i = if i = np then y else τ 10 i := by
  unfold w_r3
  rw [r_set_off (by decide), w_rs hn, r_set_off (by decide)]
theorem w_r3_11 {τ : sm_St} {np i : Nat} {x y s : Int32} (hn : np < 6) : w_r3 τ np x y s 11 i = if i = np then s else τ 11 i := by
  unfold w_r3
  rw [w_rs hn, r_set_off (by decide), r_set_off (by decide)]
theorem w_qs_114 {τ : sm_St} {np i : Nat} {x y s : Int32} (hn : np < 6) : q_sets τ (nI np) x y s 114 i = if i = np then x else τ 114 i := by
  unfold q_sets
  rw [r_set_off (by decide), r_set_off (by decide), r_set_off (by decide), w_rs hn]
theorem w_qs_115 {τ : sm_St} {np i : Nat} {x y s : Int32} (hn : np < 6) : q_sets τ (nI np) x y s 115 i = if i = np then y else τ 115 i := by
  unfold q_sets
  rw [r_set_off (by decide), r_set_off (by decide), w_rs hn, r_set_off (by decide)]
theorem w_qs_116 {τ : sm_St} {np i : Nat} {x y s : Int32} (hn : np < 6) : q_sets τ (nI np) x y s 116 i = if i = np then s else τ 116 i := by
  unfold q_sets
  rw [r_set_off (by decide), w_rs hn, r_set_off (by decide), r_set_off (by decide)]
theorem w_qs_117 {τ : sm_St} {np i : Nat} {x y s : Int32} (hn : np < 6) : q_sets τ (nI np) x y s 117 i = if i = np then 0 else τ 117 i := by
  unfold q_sets
  rw [w_rs hn, r_set_off (by decide), r_set_off (by decide), r_set_off (by decide)]
/-- trial Field and model, but for the post np -/
def w_J (τ τ' : sm_St) (np nc : Nat) : Prop := (∀ i, i < 8 → τ 8 i = q_V τ' 0 i) ∧ (∀ i, i < np → τ 9 i = τ' 114 i ∧ τ 10 i = τ' 115 i ∧ τ 11 i = τ' 116 i ∧ τ 12 i = τ' 117 i) ∧ (∀ i, i < nc → τ 13 i = τ' 111 i ∧ τ 14 i = τ' 112 i ∧ τ 15 i = τ' 113 i) ∧ τ 12 np = 0
theorem q_V0_e {τ τ' : sm_St} (h : τ 110 = τ' 110) : q_V τ 0 = q_V τ' 0 := by
  funext i
  match i with
  | 0 => exact congrFun h 7
  | 1 => exact congrFun h 8
  | 2 => exact congrFun h 2
  | 3 => exact congrFun h 9
  | 4 => exact congrFun h 10
  | 5 => exact congrFun h 6
  | 6 => show τ 110 0 + τ 110 28 = τ' 110 0 + τ' 110 28; rw [h]
  | n + 7 => show τ 110 1 + τ 110 29 = τ' 110 1 + τ' 110 29; rw [h]
theorem w_J_set {τ τ' : sm_St} {np nc : Nat} {x y s : Int32} (h : w_J τ τ' np nc) (hn : np < 6) : w_J (w_r3 τ np x y s) (q_sets τ' (nI np) x y s) np nc := by
  obtain ⟨h1, h2, h3, h4⟩ := h
  refine ⟨fun i hi => ?_, fun i hi => ?_, fun i hi => ?_, ?_⟩
  · rw [w_r3_off (by decide), q_V0_e (q_sets_off (by decide)), h1 i hi]
  · obtain ⟨a, b, c, d⟩ := h2 i hi
    have hne : i ≠ np := by omega
    rw [w_r3_9 hn, w_r3_10 hn, w_r3_11 hn, w_r3_off (by decide), w_qs_114 hn, w_qs_115 hn, w_qs_116 hn, w_qs_117 hn, if_neg hne, if_neg hne, if_neg hne, if_neg hne, if_neg hne, if_neg hne, if_neg hne]
    exact ⟨a, b, c, d⟩
  · rw [w_r3_off (by decide), w_r3_off (by decide), w_r3_off (by decide), q_sets_off (by decide), q_sets_off (by decide), q_sets_off (by decide)]
    exact h3 i hi
  · rw [w_r3_off (by decide)]
    exact h4
theorem w_J_ag {τ τ' : sm_St} {np nc : Nat} {x y s : Int32} (h : w_J τ τ' np nc) (hn : np < 6) : w_ag (np + 1) nc (sm_V (w_r3 τ np x y s) 8) (q_V (q_sets τ' (nI np) x y s)) := by
  obtain ⟨h1, h2, h3, h4⟩ := h
  refine ⟨fun i hi => ?_, fun m a b i hi => ?_⟩
  · show w_r3 τ np x y s 8 i = _
    rw [w_r3_off (by decide), q_V0_e (q_sets_off (by decide)), h1 i hi]
  · rcases (show m = 1 ∨ m = 2 ∨ m = 3 ∨ m = 4 ∨ m = 5 ∨ m = 6 ∨ m = 7 by omega) with rfl | rfl | rfl | rfl | rfl | rfl | rfl
    · rw [if_pos (by decide)] at hi
      show w_r3 τ np x y s 9 i = q_sets τ' (nI np) x y s 114 i
      rw [w_r3_9 hn, w_qs_114 hn]
      by_cases e : i = np
      · rw [if_pos e, if_pos e]
      · rw [if_neg e, if_neg e]; exact (h2 i (by omega)).1
    · rw [if_pos (by decide)] at hi
      show w_r3 τ np x y s 10 i = q_sets τ' (nI np) x y s 115 i
      rw [w_r3_10 hn, w_qs_115 hn]
      by_cases e : i = np
      · rw [if_pos e, if_pos e]
      · rw [if_neg e, if_neg e]; exact (h2 i (by omega)).2.1
    · rw [if_pos (by decide)] at hi
      show w_r3 τ np x y s 11 i = q_sets τ' (nI np) x y s 116 i
      rw [w_r3_11 hn, w_qs_116 hn]
      by_cases e : i = np
      · rw [if_pos e, if_pos e]
      · rw [if_neg e, if_neg e]; exact (h2 i (by omega)).2.2.1
    · rw [if_pos (by decide)] at hi
      show w_r3 τ np x y s 12 i = q_sets τ' (nI np) x y s 117 i
      rw [w_r3_off (by decide), w_qs_117 hn]
      by_cases e : i = np
      · rw [if_pos e, e]; exact h4
      · rw [if_neg e]; exact (h2 i (by omega)).2.2.2
    · rw [if_neg (by decide)] at hi
      show w_r3 τ np x y s 13 i = q_sets τ' (nI np) x y s 111 i
      rw [w_r3_off (by decide), q_sets_off (by decide)]
      exact (h3 i hi).1
    · rw [if_neg (by decide)] at hi
      show w_r3 τ np x y s 14 i = q_sets τ' (nI np) x y s 112 i
      rw [w_r3_off (by decide), q_sets_off (by decide)]
      exact (h3 i hi).2.1
    · rw [if_neg (by decide)] at hi
      show w_r3 τ np x y s 15 i = q_sets τ' (nI np) x y s 113 i
      rw [w_r3_off (by decide), q_sets_off (by decide)]
      exact (h3 i hi).2.2
theorem w_J_goes {τ τ' : sm_St} {np nc : Nat} (h : w_J τ τ' np nc) : w_J (g_goes τ 8) τ' np nc := by
  obtain ⟨h1, h2, h3, h4⟩ := h
  refine ⟨fun i hi => by rw [g_goes_o hi]; exact h1 i hi, fun i hi => ?_, fun i hi => ?_, ?_⟩
  · rw [g_goes_off (by decide), g_goes_off (by decide), g_goes_off (by decide), g_goes_off (by decide)]
    exact h2 i hi
  · rw [g_goes_off (by decide), g_goes_off (by decide), g_goes_off (by decide)]
    exact h3 i hi
  · rw [g_goes_off (by decide)]
    exact h4
/-- the model's ranges, but for the post np -/
def w_pre (τ : sm_St) (np nc : Nat) : Prop := (τ 110 0 + τ 110 28 = nI (np + 1) ∧ np + 1 ≤ 6) ∧ (τ 110 1 + τ 110 29 = nI nc ∧ nc ≤ 8) ∧ (∃ k, k < 5 ∧ τ 110 9 = nI k) ∧ (∃ x, x < 9 ∧ τ 110 7 = nI x) ∧ (∃ y, y < 9 ∧ τ 110 8 = nI y) ∧ (∀ p, p < np → (∃ x, x < 9 ∧ τ 114 p = nI x) ∧ ∃ y, y < 9 ∧ τ 115 p = nI y) ∧ ∀ c, c < nc → ∃ a, a < 10 ∧ τ 113 c = nI a
theorem w_pre_set {τ : sm_St} {np nc : Nat} {x y s : Int32} (h : w_pre τ np nc) : w_pre (q_sets τ (nI np) x y s) np nc := by
  obtain ⟨h1, h2, h3, h4, h5, h6, h7⟩ := h
  have hn : np < 6 := by omega
  unfold w_pre
  rw [q_sets_off (q := 110) (by decide), q_sets_off (q := 113) (by decide)]
  refine ⟨h1, h2, h3, h4, h5, fun p hp => ?_, h7⟩
  rw [w_qs_114 hn, w_qs_115 hn, if_neg (by omega), if_neg (by omega)]
  exact h6 p hp
theorem w_pre_ok {τ : sm_St} {np nc x y : Nat} {s : Int32} (h : w_pre τ np nc) (hx : x < 9) (hy : y < 9) : w_ok (q_V (q_sets τ (nI np) (nI x) (nI y) s)) (np + 1) nc := by
  obtain ⟨h1, h2, h3, h4, h5, h6, h7⟩ := h
  have hn : np < 6 := by omega
  refine ⟨?_, h1.2, ?_, h2.2, ?_, ?_, ?_, fun p hp => ?_, fun p hp => ?_, ?_⟩
  · rw [q_V0_e (q_sets_off (by decide))]; exact h1.1
  · rw [q_V0_e (q_sets_off (by decide))]; exact h2.1
  · rw [q_V0_e (q_sets_off (by decide))]; exact h3
  · rw [q_V0_e (q_sets_off (by decide))]; exact h4
  · rw [q_V0_e (q_sets_off (by decide))]; exact h5
  · show ∃ x1, x1 < 9 ∧ q_sets τ (nI np) (nI x) (nI y) s 114 p = nI x1
    rw [w_qs_114 hn]
    by_cases e : p = np
    · rw [if_pos e]; exact ⟨x, hx, rfl⟩
    · rw [if_neg e]; exact (h6 p (by omega)).1
  · show ∃ x1, x1 < 9 ∧ q_sets τ (nI np) (nI x) (nI y) s 115 p = nI x1
    rw [w_qs_115 hn]
    by_cases e : p = np
    · rw [if_pos e]; exact ⟨y, hy, rfl⟩
    · rw [if_neg e]; exact (h6 p (by omega)).2
  · show ∀ c, c < nc → ∃ a, a < 10 ∧ q_sets τ (nI np) (nI x) (nI y) s 113 c = nI a
    rw [q_sets_off (by decide)]
    exact h7
theorem w_ho {np nc : Nat} : ∀ (n k : Nat) (τ τ' : sm_St), k + n = 486 → w_J τ τ' np nc → w_pre τ' np nc → τ 0 0 = τ' 110 7 → τ 0 1 = τ' 110 8 → (g_hold (nI np) n k τ).1 = (q_ho np nc n k τ').1
  | 0, _, _, _, _, _, _, _, _ => rfl
  | n + 1, k, τ, τ', hk, hJ, hp, e0, e1 => by
    have hn : np < 6 := by have := hp.1.2; omega
    have hg : f_goes (sm_V (w_r3 τ np (nI (k % 9)) (nI (k / 9 % 9)) (nI (k / 81))) 8) = q_goes (q_V (q_at np k τ')) (np + 1) nc := w_goesA (w_J_ag hJ hn) (w_pre_ok hp (by omega) (by omega))
    have hJ2 := w_J_set (x := nI (k % 9)) (y := nI (k / 9 % 9)) (s := nI (k / 81)) hJ hn
    have hp2 := w_pre_set (x := nI (k % 9)) (y := nI (k / 9 % 9)) (s := nI (k / 81)) hp
    have f0 : w_r3 τ np (nI (k % 9)) (nI (k / 9 % 9)) (nI (k / 81)) 0 = τ 0 := w_r3_off (by decide)
    have f1 : q_at np k τ' 110 = τ' 110 := q_at_off (by decide)
    have ha : f_isAt (sm_V (w_r3 τ np (nI (k % 9)) (nI (k / 9 % 9)) (nI (k / 81))) 0) (nI (k % 9)) (nI (k / 9 % 9)) = decide (τ' 110 7 = nI (k % 9) ∧ τ' 110 8 = nI (k / 9 % 9)) := by
      unfold f_isAt
      show decide (w_r3 τ np (nI (k % 9)) (nI (k / 9 % 9)) (nI (k / 81)) 0 0 = nI (k % 9) ∧ w_r3 τ np (nI (k % 9)) (nI (k / 9 % 9)) (nI (k / 81)) 0 1 = nI (k / 9 % 9)) = _
      rw [f0, e0, e1]
    unfold g_hold q_ho
    have er : r_set (r_set (r_set τ 9 6 (nI np) (nI (k % 9))) 10 6 (nI np) (nI (k / 9 % 9))) 11 6 (nI np) (nI (k / 81)) = w_r3 τ np (nI (k % 9)) (nI (k / 9 % 9)) (nI (k / 81)) := by unfold w_r3; with_reducible rfl
    rw [er]
    by_cases hat : τ' 110 7 = nI (k % 9) ∧ τ' 110 8 = nI (k / 9 % 9)
    · rw [if_pos (show f_isAt _ _ _ = true from ha.trans (decide_eq_true hat)), if_neg (fun hh => hh.1.elim (fun q => q hat.1.symm) (fun q => q hat.2.symm))]
      exact w_ho n (k + 1) _ _ (by omega) hJ2 hp2 ((congrFun f0 0).trans (e0.trans (congrFun f1 7).symm)) ((congrFun f0 1).trans (e1.trans (congrFun f1 8).symm))
    · rw [if_neg (show ¬ f_isAt _ _ _ = true from fun hh => hat (of_decide_eq_true (ha.symm.trans hh)))]
      have hor : ¬ nI (k % 9) = τ' 110 7 ∨ ¬ nI (k / 9 % 9) = τ' 110 8 := by
        by_cases q : nI (k % 9) = τ' 110 7
        · exact Or.inr (fun q2 => hat ⟨q.symm, q2.symm⟩)
        · exact Or.inl q
      by_cases hz : q_goes (q_V (q_at np k τ')) (np + 1) nc = 0
      · rw [if_pos (show f_goes _ = 0 from hg.trans hz), if_pos ⟨hor, hz⟩]
        exact q_nm_e k
      · rw [if_neg (show ¬ f_goes _ = 0 from fun hh => hz (hg.symm.trans hh)), if_neg (fun hh => hz hh.2)]
        exact w_ho n (k + 1) _ _ (by omega) (w_J_goes hJ2) hp2 ((congrFun (g_goes_off (by decide)) 0).trans ((congrFun f0 0).trans (e0.trans (congrFun f1 7).symm))) ((congrFun (g_goes_off (by decide)) 1).trans ((congrFun f0 1).trans (e1.trans (congrFun f1 8).symm)))
theorem w_addP {X : sm_St} {np : Nat} {x y s : Int32} (h : X 8 6 = nI np) (hn : np < 6) : g_addP X 8 x y s = sm_set (r_set (w_r3 X np x y s) 12 6 (nI np) 0) 8 6 (nI (np + 1)) := by
  unfold g_addP w_r3
  rw [h, if_neg (fun hh => absurd ((nI_leI (by decide) (by omega)).mp hh) (by omega)), nI_1]
theorem w_addP_8 {X : sm_St} {np i : Nat} {x y s : Int32} (h : X 8 6 = nI np) (hn : np < 6) : g_addP X 8 x y s 8 i = if i = 6 then nI (np + 1) else X 8 i := by
  rw [w_addP h hn]
  by_cases e : i = 6
  · rw [e, sm_set_eq, if_pos rfl]
  · rw [sm_set_ne e, if_neg e, r_set_off (by decide), w_r3_off (by decide)]
theorem w_addP_12 {X : sm_St} {np i : Nat} {x y s : Int32} (h : X 8 6 = nI np) (hn : np < 6) : g_addP X 8 x y s 12 i = if i = np then 0 else X 12 i := by
  rw [w_addP h hn, sm_set_off (by decide), w_rs hn, w_r3_off (by decide)]
theorem w_addP_r {X : sm_St} {np q : Nat} {x y s : Int32} (h : X 8 6 = nI np) (hn : np < 6) (h1 : q ≠ 8) (h2 : q ≠ 12) : g_addP X 8 x y s q = w_r3 X np x y s q := by
  rw [w_addP h hn, sm_set_off h1, r_set_off h2]
/-- the start of hold and brings: one post more in the trial Field and in the model -/
theorem w_J_0 {X τ : sm_St} {np nc : Nat} {x y s : Int32} (h : w_ag np nc (sm_V X 8) (q_V τ)) (hw : w_ok (q_V τ) np nc) (hN : q_N τ np) (h0 : q_0 τ) : w_J (g_addP X 8 x y s) (sm_set τ 110 28 1) np nc := by
  have hn : np < 6 := by have := hN.2; omega
  have h6 : X 8 6 = nI np := (h.1 6 (by decide)).trans hw.n0
  refine ⟨fun i hi => ?_, fun i hi => ?_, fun i hi => ?_, ?_⟩
  · rw [w_addP_8 h6 hn]
    have ha : X 8 i = q_V τ 0 i := h.1 i hi
    rcases (show i = 0 ∨ i = 1 ∨ i = 2 ∨ i = 3 ∨ i = 4 ∨ i = 5 ∨ i = 6 ∨ i = 7 by omega) with rfl | rfl | rfl | rfl | rfl | rfl | rfl | rfl
    · rw [if_neg (by decide), ha]; exact (sm_set_ne (show 7 ≠ 28 by decide)).symm
    · rw [if_neg (by decide), ha]; exact (sm_set_ne (show 8 ≠ 28 by decide)).symm
    · rw [if_neg (by decide), ha]; exact (sm_set_ne (show 2 ≠ 28 by decide)).symm
    · rw [if_neg (by decide), ha]; exact (sm_set_ne (show 9 ≠ 28 by decide)).symm
    · rw [if_neg (by decide), ha]; exact (sm_set_ne (show 10 ≠ 28 by decide)).symm
    · rw [if_neg (by decide), ha]; exact (sm_set_ne (show 6 ≠ 28 by decide)).symm
    · rw [if_pos rfl]
      show nI (np + 1) = sm_set τ 110 28 1 110 0 + sm_set τ 110 28 1 110 28
      rw [sm_set_ne (by decide), sm_set_eq, hN.1, nI_1]
    · rw [if_neg (by decide), ha]
      show τ 110 1 + τ 110 29 = sm_set τ 110 28 1 110 1 + sm_set τ 110 28 1 110 29
      rw [sm_set_ne (by decide), sm_set_ne (by decide)]
  · have e : i ≠ np := by omega
    have g : ∀ m, 1 ≤ m → m < 5 → X (8 + m) i = q_V τ m i := fun m a b => h.p m a b hi
    rw [w_addP_r h6 hn (by decide) (by decide), w_addP_r h6 hn (by decide) (by decide), w_addP_r h6 hn (by decide) (by decide), w_addP_12 h6 hn, w_r3_9 hn, w_r3_10 hn, w_r3_11 hn, if_neg e, if_neg e, if_neg e, if_neg e, sm_set_off (by decide), sm_set_off (by decide), sm_set_off (by decide), sm_set_off (by decide)]
    exact ⟨g 1 (by decide) (by decide), g 2 (by decide) (by decide), g 3 (by decide) (by decide), g 4 (by decide) (by decide)⟩
  · have g : ∀ m, 5 ≤ m → m < 8 → X (8 + m) i = q_V τ m i := fun m a b => h.s m a b hi
    rw [w_addP_r h6 hn (by decide) (by decide), w_addP_r h6 hn (by decide) (by decide), w_addP_r h6 hn (by decide) (by decide), w_r3_off (by decide), w_r3_off (by decide), w_r3_off (by decide), sm_set_off (by decide), sm_set_off (by decide), sm_set_off (by decide)]
    exact ⟨g 5 (by decide) (by decide), g 6 (by decide) (by decide), g 7 (by decide) (by decide)⟩
  · rw [w_addP_12 h6 hn, if_pos rfl]
theorem w_pre_0 {τ : sm_St} {np nc : Nat} (hw : w_ok (q_V τ) np nc) (hN : q_N τ np) : w_pre (sm_set τ 110 28 1) np nc := by
  unfold w_pre
  rw [sm_set_off (q := 114) (by decide), sm_set_off (q := 115) (by decide), sm_set_off (q := 113) (by decide), sm_set_ne (j := 0) (by decide), sm_set_eq, sm_set_ne (j := 1) (by decide), sm_set_ne (j := 29) (by decide), sm_set_ne (j := 9) (by decide), sm_set_ne (j := 7) (by decide), sm_set_ne (j := 8) (by decide), hN.1, nI_1]
  have := hN.2
  exact ⟨⟨rfl, by omega⟩, ⟨hw.c0, hw.c1⟩, hw.w0, hw.x0, hw.y0, fun p hp => ⟨hw.px p hp, hw.py p hp⟩, hw.cn⟩
theorem w_hold {σ τ : sm_St} {np nc : Nat} (h : w_now σ τ np nc) : (m_hold σ).1 = (p_hold τ np nc).1 := by
  have hg : f_goes (sm_V σ 0) = q_goes (q_V τ) np nc := w_goesA h.1 h.2.1
  unfold m_hold p_hold
  rw [hg]
  by_cases hz : q_goes (q_V τ) np nc = 0
  · rw [if_pos hz, if_pos hz]
  · rw [if_neg hz, if_neg hz]
    have hN : q_N (q_lays τ 126 0) np := q_N_lays (by decide) h.2.2.1.1
    have h0 : q_0 (q_lays τ 126 0) := by unfold q_0; rw [q_lays_off (by decide)]; exact h.2.2.2.2
    have hw : w_ok (q_V (q_lays τ 126 0)) np nc := by rw [w_lays_V (by decide)]; exact h.2.1
    have hag : w_ag np nc (sm_V (m_try (g_goes σ 0)) 8) (q_V (q_lays τ 126 0)) := by
      rw [w_lays_V (by decide)]
      exact ((w_copy h.2.1.n1 h.2.1.c1).tr w_ag89).tr h.1
    have e6 : m_try (g_goes σ 0) 8 6 = nI np := (hag.1 6 (by decide)).trans hw.n0
    rw [e6]
    have hx : ∀ i, i < 8 → m_more (g_goes σ 0) 0 i = σ 0 i := fun i hi => by
      unfold m_more
      rw [w_addP_r e6 (by have := hN.2; omega) (by decide) (by decide), w_r3_off (by decide)]
      unfold m_try
      rw [g_copy_off (by left; decide), g_goes_o hi]
    refine w_ho 486 0 _ _ rfl (w_J_0 hag hw hN h0) (w_pre_0 hw hN) ?_ ?_
    · rw [hx 0 (by decide), sm_set_ne (by decide), q_lays_off (by decide)]
      exact h.1.1 0 (by decide)
    · rw [hx 1 (by decide), sm_set_ne (by decide), q_lays_off (by decide)]
      exact h.1.1 1 (by decide)

/-! class and model: the acts -/
theorem w_rowset {σ τ : sm_St} {k r j np nc : Nat} {v : Int32} (h1 : 1 ≤ r) (h4 : r ≤ 4) (hj : j < 6) (h : w_ag np nc (sm_V σ k) (q_V τ)) : w_ag np nc (sm_V (r_set σ (k + r) 6 (nI j) v) k) (q_V (r_set τ (113 + r) 6 (nI j) v)) := by
  rw [r_set_nI rfl hj (by decide), r_set_nI rfl hj (by decide)]
  refine ⟨fun i hi => ?_, fun m m1 m2 i hi => ?_⟩
  · show sm_set σ (k + r) j v k i = _
    rw [sm_set_off (by omega), q_V0_e (sm_set_off (by omega))]
    exact h.1 i hi
  · show sm_set σ (k + r) j v (k + m) i = _
    have g : σ (k + m) i = q_V τ m i := h.2 m m1 m2 i hi
    by_cases e : m < 5
    · rw [q_V4 m1 (by omega)] at g ⊢
      rw [sm_set_at, sm_set_at]
      by_cases c : m = r ∧ i = j
      · rw [if_pos (by omega), if_pos (by omega)]
      · rw [if_neg (by omega), if_neg (by omega)]
        exact g
    · rw [q_V7 (by omega) m2] at g ⊢
      rw [sm_set_off (by omega), sm_set_off (by omega)]
      exact g
theorem w_rowset_ok {τ : sm_St} {r j np nc : Nat} {v : Int32} (h1 : 1 ≤ r) (h4 : r ≤ 4) (hj : j < 6) (hv : r ≤ 2 → ∃ a, a < 9 ∧ v = nI a) (h : w_ok (q_V τ) np nc) : w_ok (q_V (r_set τ (113 + r) 6 (nI j) v)) np nc := by
  rw [r_set_nI rfl hj (by decide)]
  have e : q_V (sm_set τ (113 + r) j v) 0 = q_V τ 0 := q_V0_e (sm_set_off (by omega))
  refine ⟨?_, h.n1, ?_, h.c1, ?_, ?_, ?_, fun p hp => ?_, fun p hp => ?_, ?_⟩
  · rw [e]; exact h.n0
  · rw [e]; exact h.c0
  · rw [e]; exact h.w0
  · rw [e]; exact h.x0
  · rw [e]; exact h.y0
  · show ∃ x, x < 9 ∧ sm_set τ (113 + r) j v 114 p = nI x
    rw [sm_set_at]
    by_cases c : 114 = 113 + r ∧ p = j
    · rw [if_pos c]; exact hv (by omega)
    · rw [if_neg c]; exact h.px p hp
  · show ∃ x, x < 9 ∧ sm_set τ (113 + r) j v 115 p = nI x
    rw [sm_set_at]
    by_cases c : 115 = 113 + r ∧ p = j
    · rw [if_pos c]; exact hv (by omega)
    · rw [if_neg c]; exact h.py p hp
  · show ∀ c, c < nc → ∃ a, a < 10 ∧ sm_set τ (113 + r) j v 113 c = nI a
    rw [sm_set_off (by omega)]
    exact h.cn
/-- the class's, the model's numbers that the parts hang on -/
theorem w_note_c {σ : sm_St} {tp q : Nat} (h2 : σ 104 2 = nI tp) (ht : tp < 8) (hq : q < 16 ∨ 80 ≤ q) (hq2 : q ≠ 104) : m_note σ q = σ q := by
  have hlt : w_nx 8 tp < 8 := by unfold w_nx; split <;> omega
  exact w_push_off (u := 0) (by decide) h2 ht hq2 (by omega)
theorem w_note_now {σ τ : sm_St} {np nc u tp : Nat} (h : w_now σ τ np nc) (h2 : σ 104 2 = nI tp) (ht : tp < 8) : w_now (m_note σ) (q_notes τ u) np nc :=
  w_now_e (fun i _ => by rw [w_note_c h2 ht (by omega) (by decide)]) (fun q a b => w_note_c h2 ht (by omega) (by omega)) (fun j hj => q_notes_o (by unfold w_m0 at hj; omega)) (fun q i a b _ => by rw [q_notes_off (by omega) (by omega)]) (fun q i a b _ => by rw [q_notes_off (by omega) (by omega)]) h
/-- what an act changes: the field of now in the class, the same in the model -/
theorem w_act {σ τ σ' τ' : sm_St} {np nc z t u tp kk tk u' tp' : Nat} (hI : w_I σ τ np nc z t u tp kk tk) (hu : w_pl 104 16 8 125 31 (m_note σ) (q_notes τ u) np nc u' tp')
    (hc : ∀ q, 8 ≤ q → σ' q = m_note σ q) (hm : ∀ q, q < 110 ∨ (110 < q ∧ q < 114) ∨ 117 < q → τ' q = q_notes τ u q) (hm0 : ∀ j, j < 6 ∨ 10 < j → τ' 110 j = q_notes τ u 110 j)
    (hag : w_ag np nc (sm_V σ' 0) (q_V τ')) (hok : w_ok (q_V τ') np nc) (haw : w_aw τ' np) : w_I σ' τ' np nc z t u' tp' kk tk := by
  obtain ⟨h1, h2, h3, h4, h5, h6⟩ := hI
  have n5 := h1.2.2.1.1.2
  have x4 := h5.2.1
  have c : ∀ q, 80 ≤ q → q ≠ 104 → σ' q = σ q := fun q a b => (hc q (by omega)).trans (w_note_c x4.1 x4.2 (by omega) b)
  have m : ∀ q, 110 < q ∧ q < 114 ∨ 117 < q → q ≠ 125 → τ' q = τ q := fun q a b => (hm q (by omega)).trans (q_notes_off (by omega) b)
  have m0 : ∀ j, j < 6 ∨ 10 < j → j ≠ 31 → τ' 110 j = τ 110 j := fun j a b => (hm0 j a).trans (q_notes_o b)
  refine ⟨⟨hag, hok, ?_, ?_, ?_⟩, haw, w_see_e (by rw [c 100 (by decide) (by decide)]) (fun q a b => c q (by omega) (by omega)) (m0 15 (by omega) (by decide)) (fun q a b => m q (by omega) (by omega)) h3, w_txt_e (by rw [c 97 (by decide) (by decide)]) (c 98 (by decide) (by decide)) (m0 20 (by omega) (by decide)) (m 121 (by omega) (by decide)) h4, ?_, ?_⟩
  · unfold q_N
    rw [m0 0 (by omega) (by decide)]
    exact h1.2.2.1
  · unfold q_C
    rw [m0 1 (by omega) (by decide)]
    exact h1.2.2.2.1
  · unfold q_0
    rw [m0 28 (by omega) (by decide), m0 29 (by omega) (by decide)]
    exact h1.2.2.2.2
  · exact w_pl_e (by decide) (by omega) ⟨by rw [hc 104 (by decide)], by rw [hc 104 (by decide)]⟩ (fun q a _ => hc q (by omega)) (hm0 31 (by omega)) (hm 125 (by omega)) (fun j hj => hm0 j (by omega)) (fun q i a b _ => by rw [hm q (by omega)]) hu
  · exact w_pl_e (by decide) (by omega) ⟨by rw [c 106 (by decide) (by decide)], by rw [c 106 (by decide) (by decide)]⟩ (fun q a b => c q (by omega) (by omega)) (m0 34 (by omega) (by decide)) (m 127 (by omega) (by decide)) (fun j hj => m0 j (by omega) (by omega)) (fun q i a b _ => by rw [m q (by omega) (by omega)]) h6
theorem w_aw_e {τ τ' : sm_St} {np : Nat} (h : τ' 117 = τ 117) (ha : w_aw τ np) : w_aw τ' np := fun p hp => by rw [h]; exact ha p hp
theorem w_I_at {σ τ : sm_St} {np nc z t u tp kk tk : Nat} (hI : w_I σ τ np nc z t u tp kk tk) : ∃ u' tp', w_pl 104 16 8 125 31 (m_note σ) (q_notes τ u) np nc u' tp' := w_note hI.2.2.2.2.1 hI.1 hI.2.1
theorem w_pass {σ τ : sm_St} {np nc z t u tp kk tk : Nat} (hI : w_I σ τ np nc z t u tp kk tk) (n : Int32) : (m_pass σ n).1 = (p_pass τ np nc u n).1 ∧ ∃ u' tp', w_I (m_pass σ n).2 (p_pass τ np nc u n).2 np nc z t u' tp' kk tk := by
  have e5 : σ 0 5 = τ 110 6 := hI.1.1.1 5 (by decide)
  unfold m_pass p_pass
  rw [e5]
  by_cases hn : sm_win n 1 20 = true
  · rw [if_pos hn, if_pos hn]
    by_cases hl : τ 110 6 + n ≤ 999
    · rw [if_pos hl, if_pos hl]
      obtain ⟨u', tp', hu⟩ := w_I_at hI
      have x4 := hI.2.2.2.2.1.2.1
      have hN := w_note_now (u := u) hI.1 x4.1 x4.2
      obtain ⟨a1, a2⟩ := w_ps n.toNatClampNeg 0 _ _ hN.1 hN.2.1
      obtain ⟨b1, b2⟩ := w_hours n.toNatClampNeg _ _ hN.1 hN.2.1
      refine ⟨?_, u', tp', ?_⟩
      · rw [a1, Int32.zero_add]
      · rw [a2]
        refine w_act hI hu (fun q hq => g_hours_off (by omega) _) (fun q hq => q_hours_off (by omega) _ _) (fun j hj => q_hours_o (by omega) _ _) b1 b2 (w_aw_e ?_ hI.2.1)
        rw [q_hours_off (by decide), q_notes_off (by decide) (by decide)]
    · rw [if_neg hl, if_neg hl]
      exact ⟨rfl, u, tp, hI⟩
  · rw [if_neg hn, if_neg hn]
    exact ⟨rfl, u, tp, hI⟩
theorem w_win5 {d : Int32} (h : sm_win d 0 4 = true) : ∃ k, k < 5 ∧ d = nI k := by
  obtain ⟨k, hk, ek⟩ := sm_win_nI (m := 4) rfl (by decide) h
  exact ⟨k, by omega, ek⟩
theorem w_wind {σ τ : sm_St} {np nc z t u tp kk tk : Nat} (hI : w_I σ τ np nc z t u tp kk tk) (d f : Int32) : (m_wind σ d f).1 = (p_wind τ u d f).1 ∧ ∃ u' tp', w_I (m_wind σ d f).2 (p_wind τ u d f).2 np nc z t u' tp' kk tk := by
  unfold m_wind p_wind
  by_cases hc : sm_win d 0 4 = true ∧ sm_win f 0 20 = true
  · rw [if_pos hc, if_pos hc]
    obtain ⟨u', tp', hu⟩ := w_I_at hI
    have x4 := hI.2.2.2.2.1.2.1
    have hN := w_note_now (u := u) hI.1 x4.1 x4.2
    refine ⟨hN.1.1 4 (by decide), u', tp', ?_⟩
    dsimp only
    refine w_act hI hu (fun q hq => by rw [sm_set_off (by omega), sm_set_off (by omega)]) (fun q hq => by rw [sm_set_off (by omega), sm_set_off (by omega)]) (fun j hj => by rw [sm_set_ne (by omega), sm_set_ne (by omega)]) (w_set (by omega) (w_set (by omega) hN.1)) (w_ok_wind (Or.inr rfl) (w_ok_wind (Or.inl ⟨rfl, w_win5 hc.1⟩) hN.2.1)) (w_aw_e ?_ hI.2.1)
    rw [sm_set_off (by decide), sm_set_off (by decide), q_notes_off (by decide) (by decide)]
  · rw [if_neg hc, if_neg hc]
    exact ⟨rfl, u, tp, hI⟩
theorem w_put {σ τ : sm_St} {np nc z t u tp kk tk : Nat} (hI : w_I σ τ np nc z t u tp kk tk) (p x y : Int32) : (m_put σ p x y).1 = (p_put τ u p x y).1 ∧ ∃ u' tp', w_I (m_put σ p x y).2 (p_put τ u p x y).2 np nc z t u' tp' kk tk := by
  have n5 := hI.1.2.2.1.1.2
  unfold m_put p_put
  rw [w_hasP hI.1]
  by_cases hc : f_hasP (sm_V σ 0) p = true ∧ sm_cell x y = true
  · obtain ⟨j, hj, rfl⟩ := w_hasP_in hI.1 hc.1
    have e1 : r_at (σ 1) 6 (nI j) = r_at (τ 114) 6 (nI j) := hI.1.1.rp hI.1.2.1.n1 1 (by decide) (by decide) hj
    have e2 : r_at (σ 2) 6 (nI j) = r_at (τ 115) 6 (nI j) := hI.1.1.rp hI.1.2.1.n1 2 (by decide) (by decide) hj
    have e4 : r_at (σ 4) 6 (nI j) = r_at (τ 117) 6 (nI j) := hI.1.1.rp hI.1.2.1.n1 4 (by decide) (by decide) hj
    rw [if_pos hc, if_pos hc, e1, e2, e4]
    by_cases hn : r_at (τ 117) 6 (nI j) = 0 ∧ r_at (τ 114) 6 (nI j) = x ∧ r_at (τ 115) 6 (nI j) = y
    · rw [if_pos hn, if_pos hn]
      exact ⟨rfl, u, tp, hI⟩
    · rw [if_neg hn, if_neg hn]
      obtain ⟨u', tp', hu⟩ := w_I_at hI
      have x4 := hI.2.2.2.2.1.2.1
      have hN := w_note_now (u := u) hI.1 x4.1 x4.2
      obtain ⟨cx, cy⟩ := w_cell hc.2
      have j6 : j < 6 := by omega
      refine ⟨rfl, u', tp', ?_⟩
      have es : q_sets (q_notes τ u) (nI j) x y (r_at (τ 116) 6 (nI j)) = r_set (r_set (r_set (q_notes τ u) (113 + 1) 6 (nI j) x) (113 + 2) 6 (nI j) y) (113 + 4) 6 (nI j) 0 := by
        unfold q_sets
        have e3 : r_set (r_set (r_set (q_notes τ u) 114 6 (nI j) x) 115 6 (nI j) y) 116 6 (nI j) (r_at (τ 116) 6 (nI j)) = r_set (r_set (q_notes τ u) 114 6 (nI j) x) 115 6 (nI j) y := by
          have := w_rid (τ := r_set (r_set (q_notes τ u) 114 6 (nI j) x) 115 6 (nI j) y) (k := 116) j6
          rw [r_set_off (by decide), r_set_off (by decide), q_notes_off (by decide) (by decide)] at this
          exact this
        rw [e3]
      dsimp only
      rw [es]
      refine w_act hI hu (fun q hq => by rw [r_set_off (by omega), r_set_off (by omega), r_set_off (by omega)]) (fun q hq => by rw [r_set_off (by omega), r_set_off (by omega), r_set_off (by omega)]) (fun i hi => by rw [r_set_off (by omega), r_set_off (by omega), r_set_off (by omega)]) ?_ ?_ ?_
      · exact w_rowset (k := 0) (r := 4) (by decide) (by decide) j6 (w_rowset (k := 0) (r := 2) (by decide) (by decide) j6 (w_rowset (k := 0) (r := 1) (by decide) (by decide) j6 hN.1))
      · exact w_rowset_ok (r := 4) (by decide) (by decide) j6 (fun hh => by omega) (w_rowset_ok (r := 2) (by decide) (by decide) j6 (fun _ => cy) (w_rowset_ok (r := 1) (by decide) (by decide) j6 (fun _ => cx) hN.2.1))
      · intro i hi
        rw [r_set_nI rfl j6 (by decide), sm_set_at]
        by_cases c : 117 = 113 + 4 ∧ i = j
        · rw [if_pos c]; exact Or.inl rfl
        · rw [if_neg c, r_set_off (by decide), r_set_off (by decide), q_notes_off (by decide) (by decide)]
          exact hI.2.1 i hi
  · rw [if_neg hc, if_neg hc]
    exact ⟨rfl, u, tp, hI⟩
theorem w_aw0 {τ : sm_St} {np j : Nat} (ha : w_aw τ np) (hj : j < np) (hn : np ≤ 5) : ¬ r_at (τ 117) 6 (nI j) = 0 ↔ r_at (τ 117) 6 (nI j) = 1 := by
  rw [r_at_nI rfl (show j < 6 by omega) (by decide)]
  rcases ha j hj with e | e
  · rw [e]; decide
  · rw [e]; decide
theorem w_smellA {σ τ : sm_St} {np nc z t u tp kk tk : Nat} (hI : w_I σ τ np nc z t u tp kk tk) (p s : Int32) : (m_smell σ p s).1 = (p_smell τ u p s).1 ∧ ∃ u' tp', w_I (m_smell σ p s).2 (p_smell τ u p s).2 np nc z t u' tp' kk tk := by
  have n5 := hI.1.2.2.1.1.2
  unfold m_smell p_smell
  rw [w_hasP hI.1]
  by_cases hc : f_hasP (sm_V σ 0) p = true ∧ sm_win s 0 5 = true
  · obtain ⟨j, hj, rfl⟩ := w_hasP_in hI.1 hc.1
    have e3 : r_at (σ 3) 6 (nI j) = r_at (τ 116) 6 (nI j) := hI.1.1.rp hI.1.2.1.n1 3 (by decide) (by decide) hj
    have e4 : r_at (σ 4) 6 (nI j) = r_at (τ 117) 6 (nI j) := hI.1.1.rp hI.1.2.1.n1 4 (by decide) (by decide) hj
    have j6 : j < 6 := by omega
    have ea := w_aw0 hI.2.1 hj n5
    rw [if_pos hc, if_pos hc, e3, e4]
    by_cases hn : r_at (τ 117) 6 (nI j) = 1 ∨ r_at (τ 116) 6 (nI j) = s
    · rw [if_pos (show r_at (τ 116) 6 (nI j) = s ∨ ¬ r_at (τ 117) 6 (nI j) = 0 from hn.elim (fun a => Or.inr (ea.mpr a)) Or.inl), if_pos hn]
      exact ⟨rfl, u, tp, hI⟩
    · rw [if_neg (show ¬ (r_at (τ 116) 6 (nI j) = s ∨ ¬ r_at (τ 117) 6 (nI j) = 0) from fun hh => hn (hh.elim Or.inr (fun a => Or.inl (ea.mp a)))), if_neg hn]
      obtain ⟨u', tp', hu⟩ := w_I_at hI
      have x4 := hI.2.2.2.2.1.2.1
      have hN := w_note_now (u := u) hI.1 x4.1 x4.2
      refine ⟨rfl, u', tp', ?_⟩
      dsimp only
      refine w_act hI hu (fun q hq => by rw [r_set_off (by omega)]) (fun q hq => by rw [r_set_off (by omega)]) (fun i hi => by rw [r_set_off (by omega)]) (w_rowset (k := 0) (r := 3) (by decide) (by decide) j6 hN.1) (w_rowset_ok (r := 3) (by decide) (by decide) j6 (fun hh => by omega) hN.2.1) (w_aw_e ?_ hI.2.1)
      rw [r_set_off (by decide), q_notes_off (by decide) (by decide)]
  · rw [if_neg hc, if_neg hc]
    exact ⟨rfl, u, tp, hI⟩
/-- how many are not taken away -/
def w_cnt (τ : sm_St) : Nat → Nat
  | 0 => 0
  | p + 1 => w_cnt τ p + (if τ 117 p = 0 then 1 else 0)
theorem w_pc1 : ∀ n, n < 5 → ∀ m, m < 16 → m < 2 ^ n → w_pc (m + 2 ^ n) = w_pc m + 1 := by decide +kernel
theorem w_all_cnt (τ : sm_St) : ∀ n, n ≤ 5 → ∃ m, m < 2 ^ n ∧ q_all τ n = nI m ∧ w_pc m = w_cnt τ n
  | 0, _ => ⟨0, by decide, rfl, rfl⟩
  | n + 1, hn => by
    obtain ⟨m, hm, em, hb⟩ := w_all_cnt τ n (by omega)
    have p2 : 2 ^ (n + 1) = 2 ^ n + 2 ^ n := by omega
    have p16 : 2 ^ n ≤ 16 := Nat.pow_le_pow_right (show 0 < 2 by decide) (show n ≤ 4 by omega)
    unfold q_all w_cnt
    rw [em, r_at_nI rfl (show n < 6 by omega) (by decide)]
    by_cases h0 : τ 117 n = 0
    · rw [if_pos h0, if_pos h0, q_or n (by omega) m (by omega) hm]
      exact ⟨m + 2 ^ n, by omega, rfl, by rw [w_pc1 n (by omega) m (by omega) hm, hb]⟩
    · rw [if_neg h0, if_neg h0, Int32.or_zero]
      exact ⟨m, by omega, rfl, by rw [hb, Nat.add_zero]⟩
theorem w_cnt_le (τ : sm_St) : ∀ n, w_cnt τ n ≤ n
  | 0 => Nat.le_refl _
  | n + 1 => by
    have := w_cnt_le τ n
    unfold w_cnt
    split <;> omega
theorem w_left {τ : sm_St} : ∀ n, n ≤ 5 → w_aw τ n → q_left τ n = nI (w_cnt τ n)
  | 0, _, _ => rfl
  | n + 1, hn, ha => by
    unfold q_left w_cnt
    rw [w_left n (by omega) (fun p hp => ha p (by omega)), r_at_nI rfl (show n < 6 by omega) (by decide)]
    rcases ha n (by omega) with e | e
    · rw [e, if_pos rfl, show (1 : Int32) - 0 = nI 1 by decide, nI_add]
    · rw [e, if_neg (by decide), show (1 : Int32) - 1 = nI 0 by decide, nI_add]
theorem w_standing {np nc : Nat} {V : Nat → Nat → Int32} {τ : sm_St} (h : w_ag np nc V (q_V τ)) (hn : np ≤ 5) (ha : w_aw τ np) : f_bc (f_stand V np) = q_left τ np := by
  obtain ⟨m, hm, em, hb⟩ := w_all_cnt τ np hn
  have : 2 ^ np ≤ 32 := Nat.pow_le_pow_right (show 0 < 2 by decide) hn
  rw [w_stand_all h (by omega) np (Nat.le_refl _), em, w_bc m (by omega), hb, w_left np hn ha]
theorem w_take {σ τ : sm_St} {np nc z t u tp kk tk : Nat} (hI : w_I σ τ np nc z t u tp kk tk) (p : Int32) : (m_take σ p).1 = (p_take τ np u p).1 ∧ ∃ u' tp', w_I (m_take σ p).2 (p_take τ np u p).2 np nc z t u' tp' kk tk := by
  have n5 := hI.1.2.2.1.1.2
  unfold m_take p_take
  rw [w_hasP hI.1]
  by_cases hc : f_hasP (sm_V σ 0) p = true
  · obtain ⟨j, hj, rfl⟩ := w_hasP_in hI.1 hc
    have e4 : r_at (σ 4) 6 (nI j) = r_at (τ 117) 6 (nI j) := hI.1.1.rp hI.1.2.1.n1 4 (by decide) (by decide) hj
    have j6 : j < 6 := by omega
    have ea := w_aw0 hI.2.1 hj n5
    rw [if_pos hc, if_pos hc, e4]
    by_cases hn : r_at (τ 117) 6 (nI j) = 1
    · rw [if_neg (ea.mpr hn), if_pos hn]
      exact ⟨rfl, u, tp, hI⟩
    · rw [if_pos (show r_at (τ 117) 6 (nI j) = 0 from Decidable.byContradiction (fun hh => hn (ea.mp hh))), if_neg hn]
      obtain ⟨u', tp', hu⟩ := w_I_at hI
      have x4 := hI.2.2.2.2.1.2.1
      have hN := w_note_now (u := u) hI.1 x4.1 x4.2
      have hag := w_rowset (k := 0) (r := 4) (v := 1) (by decide) (by decide) j6 hN.1
      have hok := w_rowset_ok (r := 4) (v := 1) (by decide) (by decide) j6 (fun hh => by omega) hN.2.1
      have haw : w_aw (r_set (q_notes τ u) (113 + 4) 6 (nI j) 1) np := by
        intro i hi
        rw [r_set_nI rfl j6 (by decide), sm_set_at]
        by_cases c : 117 = 113 + 4 ∧ i = j
        · rw [if_pos c]; exact Or.inr rfl
        · rw [if_neg c, q_notes_off (by decide) (by decide)]
          exact hI.2.1 i hi
      have e6 : r_set (m_note σ) 4 6 (nI j) 1 0 6 = nI np := (hag.1 6 (by decide)).trans hok.n0
      dsimp only
      refine ⟨?_, u', tp', w_act hI hu (fun q hq => by rw [r_set_off (by omega)]) (fun q hq => by rw [r_set_off (by omega)]) (fun i hi => by rw [r_set_off (by omega)]) hag hok haw⟩
      rw [e6, nI_clamp (by omega)]
      exact w_standing hag n5 haw
  · rw [if_neg hc, if_neg hc]
    exact ⟨rfl, u, tp, hI⟩
theorem w_u0 {u : Nat} (hu : u < 100) : (nI u = 0) ↔ u = 0 := ⟨fun hh => by
  have h2 := congrArg Int32.toInt (show nI u = nI 0 from hh)
  rw [nI_toInt (by omega), nI_toInt (by decide)] at h2
  omega, fun hh => by rw [hh]; rfl⟩
theorem w_pop_off {P b n q tp : Nat} {σ : sm_St} (h : q ≠ P) (h8 : 8 ≤ q) : g_pop P b n σ 0 q = σ q := by
  unfold g_pop
  rw [sm_set_off h, sm_set_off h, g_copy_off (by omega)]
theorem w_undo {σ τ : sm_St} {np nc z t u tp kk tk : Nat} (hI : w_I σ τ np nc z t u tp kk tk) : (m_undo σ).1 = (p_undo τ u).1 ∧ ∃ u' tp', w_I (m_undo σ).2 (p_undo τ u).2 np nc z t u' tp' kk tk := by
  have x := hI.2.2.2.2.1
  have n5 := hI.1.2.2.1.1.2
  unfold m_undo p_undo
  rw [x.1.1]
  by_cases hu : u = 0
  · rw [if_pos ((w_u0 (by omega)).mpr hu), if_pos hu]
    exact ⟨rfl, u, tp, hI⟩
  · rw [if_neg (fun hh => hu ((w_u0 (by have := x.1.2.2; omega)).mp hh)), if_neg hu]
    obtain ⟨a1, a2, a3, a4⟩ := w_pop (Or.inl ⟨rfl, rfl, rfl, rfl, rfl⟩) x (by omega) (by omega) hI.1.2.1.c1
    have m0 : ∀ j, j < 6 ∨ 10 < j → j ≠ 31 → q_takes (sm_set τ 110 31 (nI (u - 1))) 125 (29 * (u - 1)) 110 j = τ 110 j := fun j a b => by rw [q_takes_o (by omega), sm_set_ne b]
    have m : ∀ q, 110 < q ∧ q < 114 ∨ 117 < q → q_takes (sm_set τ 110 31 (nI (u - 1))) 125 (29 * (u - 1)) q = τ q := fun q a => by rw [q_takes_off (by omega) (by omega), sm_set_off (by omega)]
    have c : ∀ q, 8 ≤ q → q ≠ 104 → g_pop 104 16 8 σ 0 q = σ q := fun q a b => w_pop_off (tp := tp) b a
    dsimp only
    refine ⟨?_, u - 1, w_pv 8 tp, ⟨a1, a2, ?_, ?_, ?_⟩, a3, ?_, ?_, a4, ?_⟩
    · exact a4.1.1.trans a4.1.2.1.symm
    · unfold q_N
      rw [m0 0 (by omega) (by decide)]
      exact hI.1.2.2.1
    · unfold q_C
      rw [m0 1 (by omega) (by decide)]
      exact hI.1.2.2.2.1
    · unfold q_0
      rw [m0 28 (by omega) (by decide), m0 29 (by omega) (by decide)]
      exact hI.1.2.2.2.2
    · exact w_see_e (by rw [c 100 (by decide) (by decide)]) (fun q a b => c q (by omega) (by omega)) (m0 15 (by omega) (by decide)) (fun q a b => m q (by omega)) hI.2.2.1
    · exact w_txt_e (by rw [c 97 (by decide) (by decide)]) (c 98 (by decide) (by decide)) (m0 20 (by omega) (by decide)) (m 121 (by omega)) hI.2.2.2.1
    · exact w_pl_e (by decide) (by omega) ⟨by rw [c 106 (by decide) (by decide)], by rw [c 106 (by decide) (by decide)]⟩ (fun q a b => c q (by omega) (by omega)) (m0 34 (by omega) (by decide)) (m 127 (by omega)) (fun j hj => m0 j (by omega) (by omega)) (fun q i a b _ => by rw [m q (by omega)]) hI.2.2.2.2.2
/-- an empty pile -/
theorem w_pl_0 {P b n a sl np nc tp : Nat} {σ τ : sm_St} (h1 : σ P 1 = 0) (h2 : τ 110 sl = 0) (h3 : σ P 2 = nI tp) (ht : tp < n) : w_pl P b n a sl σ τ np nc 0 tp := ⟨⟨h1, h2, Nat.zero_le _⟩, ⟨h3, ht⟩, fun j hj => by omega⟩
theorem w_keep {σ τ : sm_St} {np nc z t u tp kk tk : Nat} (hI : w_I σ τ np nc z t u tp kk tk) : (m_keep σ).1 = (p_keep τ kk).1 ∧ ∃ kk' tk', w_I (m_keep σ).2 (p_keep τ kk).2 np nc z t u tp kk' tk' := by
  have x := hI.2.2.2.2.2
  have n5 := hI.1.2.2.1.1.2
  unfold m_keep p_keep
  rw [x.1.1]
  by_cases hu : kk = 2
  · rw [if_neg (show ¬ nI kk < 2 from fun hh => absurd ((nI_ltI (b := 2) (by omega) (by decide)).mp hh) (by omega)), if_pos hu]
    exact ⟨rfl, kk, tk, hI⟩
  · have hlt : kk < 2 := by have := x.1.2.2; omega
    rw [if_pos (show nI kk < 2 from (nI_ltI (b := 2) (by omega) (by decide)).mpr hlt), if_neg hu]
    have hk := w_keep_pl x hI.1 hI.2.1 hlt
    have hl2 : w_nx 2 tk < 2 := by unfold w_nx; split <;> omega
    have c : ∀ q, q < 80 ∨ 96 ≤ q → q ≠ 106 → g_push 106 80 2 σ 0 q = σ q := fun q a b => w_push_off (u := 0) (by decide) x.2.1.1 x.2.1.2 b (by omega)
    have m : ∀ q, q ≠ 110 → q ≠ 127 → sm_set (q_lays τ 127 (29 * kk)) 110 34 (nI kk + 1) q = τ q := fun q a b => by rw [sm_set_off a, q_lays_off b]
    have m0 : ∀ j, j ≠ 34 → sm_set (q_lays τ 127 (29 * kk)) 110 34 (nI kk + 1) 110 j = τ 110 j := fun j a => by rw [sm_set_ne a, q_lays_off (by decide)]
    dsimp only
    refine ⟨?_, kk + 1, w_nx 2 tk, w_now_e (fun i _ => by rw [c 0 (by omega) (by decide)]) (fun q a b => c q (by omega) (by omega)) (fun j hj => m0 j (by unfold w_m0 at hj; omega)) (fun q i a b _ => by rw [m q (by omega) (by omega)]) (fun q i a b _ => by rw [m q (by omega) (by omega)]) hI.1, w_aw_e (m 117 (by decide) (by decide)) hI.2.1, ?_, ?_, ?_, hk⟩
    · show g_push 106 80 2 σ 0 106 1 = nI kk + 1
      rw [hk.1.1, nI_1]
    · exact w_see_e (by rw [c 100 (by omega) (by decide)]) (fun q a b => c q (by omega) (by omega)) (m0 15 (by decide)) (fun q a b => m q (by omega) (by omega)) hI.2.2.1
    · exact w_txt_e (by rw [c 97 (by omega) (by decide)]) (c 98 (by omega) (by decide)) (m0 20 (by decide)) (m 121 (by decide) (by decide)) hI.2.2.2.1
    · exact w_pl_e (by decide) (by omega) ⟨by rw [c 104 (by omega) (by decide)], by rw [c 104 (by omega) (by decide)]⟩ (fun q a b => c q (by omega) (by omega)) (m0 31 (by decide)) (m 125 (by decide) (by decide)) (fun j hj => m0 j (by omega)) (fun q i a b _ => by rw [m q (by omega) (by omega)]) hI.2.2.2.2.1
theorem w_backA {σ τ : sm_St} {np nc z t u tp kk tk : Nat} (hI : w_I σ τ np nc z t u tp kk tk) : (m_back σ).1 = (p_back τ kk).1 ∧ ∃ u' kk' tk', w_I (m_back σ).2 (p_back τ kk).2 np nc z t u' tp kk' tk' := by
  have x := hI.2.2.2.2.2
  have n5 := hI.1.2.2.1.1.2
  unfold m_back p_back
  rw [x.1.1]
  by_cases hu : kk = 0
  · rw [if_pos ((w_u0 (by have := x.1.2.2; omega)).mpr hu), if_pos hu]
    exact ⟨rfl, u, kk, tk, hI⟩
  · rw [if_neg (fun hh => hu ((w_u0 (by have := x.1.2.2; omega)).mp hh)), if_neg hu]
    obtain ⟨a1, a2, a3, a4⟩ := w_pop (Or.inr ⟨rfl, rfl, rfl, rfl, rfl⟩) x (by omega) (by omega) hI.1.2.1.c1
    have m0 : ∀ j, j < 6 ∨ 10 < j → j ≠ 34 → q_takes (sm_set τ 110 34 (nI (kk - 1))) 127 (29 * (kk - 1)) 110 j = τ 110 j := fun j a b => by rw [q_takes_o (by omega), sm_set_ne b]
    have m : ∀ q, 110 < q ∧ q < 114 ∨ 117 < q → q_takes (sm_set τ 110 34 (nI (kk - 1))) 127 (29 * (kk - 1)) q = τ q := fun q a => by rw [q_takes_off (by omega) (by omega), sm_set_off (by omega)]
    have c : ∀ q, 8 ≤ q → q ≠ 106 → g_pop 106 80 2 σ 0 q = σ q := fun q a b => w_pop_off (tp := tk) b a
    have hN : w_now (g_pop 106 80 2 σ 0) (q_takes (sm_set τ 110 34 (nI (kk - 1))) 127 (29 * (kk - 1))) np nc := by
      refine ⟨a1, a2, ?_, ?_, ?_⟩
      · unfold q_N
        rw [m0 0 (by omega) (by decide)]
        exact hI.1.2.2.1
      · unfold q_C
        rw [m0 1 (by omega) (by decide)]
        exact hI.1.2.2.2.1
      · unfold q_0
        rw [m0 28 (by omega) (by decide), m0 29 (by omega) (by decide)]
        exact hI.1.2.2.2.2
    have x5 := hI.2.2.2.2.1.2.1
    dsimp only
    refine ⟨?_, 0, kk - 1, w_pv 2 tk, w_now_e (fun i _ => by rw [sm_set_off (by decide)]) (fun q _ _ => sm_set_off (by omega)) (fun j hj => sm_set_ne (by unfold w_m0 at hj; omega)) (fun q i _ _ _ => by rw [sm_set_off (by omega)]) (fun q i _ _ _ => by rw [sm_set_off (by omega)]) hN, w_aw_e (sm_set_off (by decide)) a3, ?_, ?_, w_pl_0 sm_set_eq sm_set_eq (by rw [sm_set_ne (by decide), c 104 (by decide) (by decide)]; exact x5.1) x5.2, ?_⟩
    · show sm_set (g_pop 106 80 2 σ 0) 104 1 0 106 1 = sm_set (q_takes (sm_set τ 110 34 (nI (kk - 1))) 127 (29 * (kk - 1))) 110 31 0 110 34
      rw [sm_set_off (by decide), sm_set_ne (by decide)]
      exact a4.1.1.trans a4.1.2.1.symm
    · exact w_see_e (by rw [sm_set_off (by decide), c 100 (by decide) (by decide)]) (fun q a b => by rw [sm_set_off (by omega)]; exact c q (by omega) (by omega)) (by rw [sm_set_ne (by decide)]; exact m0 15 (by omega) (by decide)) (fun q a b => by rw [sm_set_off (by omega)]; exact m q (by omega)) hI.2.2.1
    · exact w_txt_e (by rw [sm_set_off (by decide), c 97 (by decide) (by decide)]) (by rw [sm_set_off (by decide)]; exact c 98 (by decide) (by decide)) (by rw [sm_set_ne (by decide)]; exact m0 20 (by omega) (by decide)) (by rw [sm_set_off (by decide)]; exact m 121 (by omega)) hI.2.2.2.1
    · exact w_pl_e (by decide) (by omega) ⟨by rw [sm_set_off (by decide)], by rw [sm_set_off (by decide)]⟩ (fun q a b => sm_set_off (by omega)) (sm_set_ne (by decide)) (sm_set_off (by decide)) (fun j hj => sm_set_ne (by omega)) (fun q i _ _ _ => by rw [sm_set_off (by omega)]) a4
theorem w_count {σ τ : sm_St} {np nc z t u tp kk tk : Nat} (hI : w_I σ τ np nc z t u tp kk tk) (w : Int32) : m_count σ w = p_count τ np w := by
  have n5 := hI.1.2.2.1.1.2
  have h0 := hI.1.1.1
  have z0 := hI.1.2.2.2.2
  have a0 : σ 0 0 = τ 110 7 := h0 0 (by decide)
  have a1 : σ 0 1 = τ 110 8 := h0 1 (by decide)
  have a2 : σ 0 2 = τ 110 2 := h0 2 (by decide)
  have a3 : σ 0 3 = τ 110 9 := h0 3 (by decide)
  have a4 : σ 0 4 = τ 110 10 := h0 4 (by decide)
  have a5 : σ 0 5 = τ 110 6 := h0 5 (by decide)
  have a6 : σ 0 6 = τ 110 0 := by
    have : σ 0 6 = τ 110 0 + τ 110 28 := h0 6 (by decide)
    rw [this, z0.1, Int32.add_zero]
  have a7 : σ 0 7 = τ 110 1 := by
    have : σ 0 7 = τ 110 1 + τ 110 29 := h0 7 (by decide)
    rw [this, z0.2, Int32.add_zero]
  have al : m_left σ = q_left τ np := by
    unfold m_left
    rw [a6, hI.1.2.2.1.1.1, nI_clamp (by omega)]
    exact w_standing hI.1.1 n5 hI.2.1
  unfold m_count p_count
  rw [w_ch12, al, a0, a1, a2, a3, a4, a5, a6, a7, hI.2.2.1.1.1, hI.2.2.1.1.2.1, hI.2.2.2.1.1.1, hI.2.2.2.1.1.2.1, hI.2.2.2.2.1.1.1, hI.2.2.2.2.1.1.2.1, hI.2.2.2.2.2.1.1, hI.2.2.2.2.2.1.2.1]

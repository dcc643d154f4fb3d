/-! class and model: what is only asked -/
theorem w_ch2 {w e : Int32} {a0 a1 a2 : Int32} : (if w = 0 then a0 else if w = 1 then a1 else if w = 2 then a2 else e) = if sm_win w 0 2 = true then (if w = 0 then a0 else if w = 1 then a1 else a2) else e := by
  by_cases hw : sm_win w 0 2 = true
  · rw [if_pos hw]
    obtain ⟨j, hj, rfl⟩ := sm_win_nI (m := 2) rfl (by decide) hw
    rcases (show j = 0 ∨ j = 1 ∨ j = 2 by omega) with rfl | rfl | rfl
    · simp only [show (nI 0 = (0 : Int32)) = True from eq_true (by decide), if_true, if_false]
    · simp only [show (nI 1 = (0 : Int32)) = False from eq_false (by decide), show (nI 1 = (1 : Int32)) = True from eq_true (by decide), if_true, if_false]
    · simp only [show (nI 2 = (0 : Int32)) = False from eq_false (by decide), show (nI 2 = (1 : Int32)) = False from eq_false (by decide), show (nI 2 = (2 : Int32)) = True from eq_true (by decide), if_true, if_false]
  · rw [if_neg hw]
    rw [if_neg (show ¬ w = 0 from fun h => hw (by rw [h]; decide))]
    rw [if_neg (show ¬ w = 1 from fun h => hw (by rw [h]; decide))]
    rw [if_neg (show ¬ w = 2 from fun h => hw (by rw [h]; decide))]

theorem w_ch3 {w e : Int32} {a0 a1 a2 a3 : Int32} : (if w = 0 then a0 else if w = 1 then a1 else if w = 2 then a2 else if w = 3 then a3 else e) = if sm_win w 0 3 = true then (if w = 0 then a0 else if w = 1 then a1 else if w = 2 then a2 else a3) else e := by
  by_cases hw : sm_win w 0 3 = true
  · rw [if_pos hw]
    obtain ⟨j, hj, rfl⟩ := sm_win_nI (m := 3) rfl (by decide) hw
    rcases (show j = 0 ∨ j = 1 ∨ j = 2 ∨ j = 3 by omega) with rfl | rfl | rfl | rfl
    · simp only [show (nI 0 = (0 : Int32)) = True from eq_true (by decide), if_true, if_false]
    · simp only [show (nI 1 = (0 : Int32)) = False from eq_false (by decide), show (nI 1 = (1 : Int32)) = True from eq_true (by decide), if_true, if_false]
    · simp only [show (nI 2 = (0 : Int32)) = False from eq_false (by decide), show (nI 2 = (1 : Int32)) = False from eq_false (by decide), show (nI 2 = (2 : Int32)) = True from eq_true (by decide), if_true, if_false]
    · simp only [show (nI 3 = (0 : Int32)) = False from eq_false (by decide), show (nI 3 = (1 : Int32)) = False from eq_false (by decide), show (nI 3 = (2 : Int32)) = False from eq_false (by decide), show (nI 3 = (3 : Int32)) = True from eq_true (by decide), if_true, if_false]
  · rw [if_neg hw]
    rw [if_neg (show ¬ w = 0 from fun h => hw (by rw [h]; decide))]
    rw [if_neg (show ¬ w = 1 from fun h => hw (by rw [h]; decide))]
    rw [if_neg (show ¬ w = 2 from fun h => hw (by rw [h]; decide))]
    rw [if_neg (show ¬ w = 3 from fun h => hw (by rw [h]; decide))]

theorem w_ch5 {w e : Int32} {a0 a1 a2 a3 a4 a5 : Int32} : (if w = 0 then a0 else if w = 1 then a1 else if w = 2 then a2 else if w = 3 then a3 else if w = 4 then a4 else if w = 5 then a5 else e) = if sm_win w 0 5 = true then (if w = 0 then a0 else if w = 1 then a1 else if w = 2 then a2 else if w = 3 then a3 else if w = 4 then a4 else a5) else e := by
  by_cases hw : sm_win w 0 5 = true
  · rw [if_pos hw]
    obtain ⟨j, hj, rfl⟩ := sm_win_nI (m := 5) rfl (by decide) hw
    rcases (show j = 0 ∨ j = 1 ∨ j = 2 ∨ j = 3 ∨ j = 4 ∨ j = 5 by omega) with rfl | rfl | rfl | rfl | rfl | rfl
    · simp only [show (nI 0 = (0 : Int32)) = True from eq_true (by decide), if_true, if_false]
    · simp only [show (nI 1 = (0 : Int32)) = False from eq_false (by decide), show (nI 1 = (1 : Int32)) = True from eq_true (by decide), if_true, if_false]
    · simp only [show (nI 2 = (0 : Int32)) = False from eq_false (by decide), show (nI 2 = (1 : Int32)) = False from eq_false (by decide), show (nI 2 = (2 : Int32)) = True from eq_true (by decide), if_true, if_false]
    · simp only [show (nI 3 = (0 : Int32)) = False from eq_false (by decide), show (nI 3 = (1 : Int32)) = False from eq_false (by decide), show (nI 3 = (2 : Int32)) = False from eq_false (by decide), show (nI 3 = (3 : Int32)) = True from eq_true (by decide), if_true, if_false]
    · simp only [show (nI 4 = (0 : Int32)) = False from eq_false (by decide), show (nI 4 = (1 : Int32)) = False from eq_false (by decide), show (nI 4 = (2 : Int32)) = False from eq_false (by decide), show (nI 4 = (3 : Int32)) = False from eq_false (by decide), show (nI 4 = (4 : Int32)) = True from eq_true (by decide), if_true, if_false]
    · simp only [show (nI 5 = (0 : Int32)) = False from eq_false (by decide), show (nI 5 = (1 : Int32)) = False from eq_false (by decide), show (nI 5 = (2 : Int32)) = False from eq_false (by decide), show (nI 5 = (3 : Int32)) = False from eq_false (by decide), show (nI 5 = (4 : Int32)) = False from eq_false (by decide), show (nI 5 = (5 : Int32)) = True from eq_true (by decide), if_true, if_false]
  · rw [if_neg hw]
    rw [if_neg (show ¬ w = 0 from fun h => hw (by rw [h]; decide))]
    rw [if_neg (show ¬ w = 1 from fun h => hw (by rw [h]; decide))]
    rw [if_neg (show ¬ w = 2 from fun h => hw (by rw [h]; decide))]
    rw [if_neg (show ¬ w = 3 from fun h => hw (by rw [h]; decide))]
    rw [if_neg (show ¬ w = 4 from fun h => hw (by rw [h]; decide))]
    rw [if_neg (show ¬ w = 5 from fun h => hw (by rw [h]; decide))]

theorem w_ch12 {w e : Int32} {a0 a1 a2 a3 a4 a5 a6 a7 a8 a9 a10 a11 a12 : Int32} : (if w = 0 then a0 else if w = 1 then a1 else if w = 2 then a2 else if w = 3 then a3 else if w = 4 then a4 else if w = 5 then a5 else if w = 6 then a6 else if w = 7 then a7 else if w = 8 then a8 else if w = 9 then a9 else if w = 10 then a10 else if w = 11 then a11 else if w = 12 then a12 else e) = if sm_win w 0 12 = true then (if w = 0 then a0 else if w = 1 then a1 else if w = 2 then a2 else if w = 3 then a3 else if w = 4 then a4 else if w = 5 then a5 else if w = 6 then a6 else if w = 7 then a7 else if w = 8 then a8 else if w = 9 then a9 else if w = 10 then a10 else if w = 11 then a11 else a12) else e := by
  by_cases hw : sm_win w 0 12 = true
  · rw [if_pos hw]
    obtain ⟨j, hj, rfl⟩ := sm_win_nI (m := 12) rfl (by decide) hw
    rcases (show j = 0 ∨ j = 1 ∨ j = 2 ∨ j = 3 ∨ j = 4 ∨ j = 5 ∨ j = 6 ∨ j = 7 ∨ j = 8 ∨ j = 9 ∨ j = 10 ∨ j = 11 ∨ j = 12 by omega) with rfl | rfl | rfl | rfl | rfl | rfl | rfl | rfl | rfl | rfl | rfl | rfl | rfl
    · simp only [show (nI 0 = (0 : Int32)) = True from eq_true (by decide), if_true, if_false]
    · simp only [show (nI 1 = (0 : Int32)) = False from eq_false (by decide), show (nI 1 = (1 : Int32)) = True from eq_true (by decide), if_true, if_false]
    · simp only [show (nI 2 = (0 : Int32)) = False from eq_false (by decide), show (nI 2 = (1 : Int32)) = False from eq_false (by decide), show (nI 2 = (2 : Int32)) = True from eq_true (by decide), if_true, if_false]
    · simp only [show (nI 3 = (0 : Int32)) = False from eq_false (by decide), show (nI 3 = (1 : Int32)) = False from eq_false (by decide), show (nI 3 = (2 : Int32)) = False from eq_false (by decide), show (nI 3 = (3 : Int32)) = True from eq_true (by decide), if_true, if_false]
    · simp only [show (nI 4 = (0 : Int32)) = False from eq_false (by decide), show (nI 4 = (1 : Int32)) = False from eq_false (by decide), show (nI 4 = (2 : Int32)) = False from eq_false (by decide), show (nI 4 = (3 : Int32)) = False from eq_false (by decide), show (nI 4 = (4 : Int32)) = True from eq_true (by decide), if_true, if_false]
    · simp only [show (nI 5 = (0 : Int32)) = False from eq_false (by decide), show (nI 5 = (1 : Int32)) = False from eq_false (by decide), show (nI 5 = (2 : Int32)) = False from eq_false (by decide), show (nI 5 = (3 : Int32)) = False from eq_false (by decide), show (nI 5 = (4 : Int32)) = False from eq_false (by decide), show (nI 5 = (5 : Int32)) = True from eq_true (by decide), if_true, if_false]
    · simp only [show (nI 6 = (0 : Int32)) = False from eq_false (by decide), show (nI 6 = (1 : Int32)) = False from eq_false (by decide), show (nI 6 = (2 : Int32)) = False from eq_false (by decide), show (nI 6 = (3 : Int32)) = False from eq_false (by decide), show (nI 6 = (4 : Int32)) = False from eq_false (by decide), show (nI 6 = (5 : Int32)) = False from eq_false (by decide), show (nI 6 = (6 : Int32)) = True from eq_true (by decide), if_true, if_false]
    · simp only [show (nI 7 = (0 : Int32)) = False from eq_false (by decide), show (nI 7 = (1 : Int32)) = False from eq_false (by decide), show (nI 7 = (2 : Int32)) = False from eq_false (by decide), show (nI 7 = (3 : Int32)) = False from eq_false (by decide), show (nI 7 = (4 : Int32)) = False from eq_false (by decide), show (nI 7 = (5 : Int32)) = False from eq_false (by decide), show (nI 7 = (6 : Int32)) = False from eq_false (by decide), show (nI 7 = (7 : Int32)) = True from eq_true (by decide), if_true, if_false]
    · simp only [show (nI 8 = (0 : Int32)) = False from eq_false (by decide), show (nI 8 = (1 : Int32)) = False from eq_false (by decide), show (nI 8 = (2 : Int32)) = False from eq_false (by decide), show (nI 8 = (3 : Int32)) = False from eq_false (by decide), show (nI 8 = (4 : Int32)) = False from eq_false (by decide), show (nI 8 = (5 : Int32)) = False from eq_false (by decide), show (nI 8 = (6 : Int32)) = False from eq_false (by decide), show (nI 8 = (7 : Int32)) = False from eq_false (by decide), show (nI 8 = (8 : Int32)) = True from eq_true (by decide), if_true, if_false]
    · simp only [show (nI 9 = (0 : Int32)) = False from eq_false (by decide), show (nI 9 = (1 : Int32)) = False from eq_false (by decide), show (nI 9 = (2 : Int32)) = False from eq_false (by decide), show (nI 9 = (3 : Int32)) = False from eq_false (by decide), show (nI 9 = (4 : Int32)) = False from eq_false (by decide), show (nI 9 = (5 : Int32)) = False from eq_false (by decide), show (nI 9 = (6 : Int32)) = False from eq_false (by decide), show (nI 9 = (7 : Int32)) = False from eq_false (by decide), show (nI 9 = (8 : Int32)) = False from eq_false (by decide), show (nI 9 = (9 : Int32)) = True from eq_true (by decide), if_true, if_false]
    · simp only [show (nI 10 = (0 : Int32)) = False from eq_false (by decide), show (nI 10 = (1 : Int32)) = False from eq_false (by decide), show (nI 10 = (2 : Int32)) = False from eq_false (by decide), show (nI 10 = (3 : Int32)) = False from eq_false (by decide), show (nI 10 = (4 : Int32)) = False from eq_false (by decide), show (nI 10 = (5 : Int32)) = False from eq_false (by decide), show (nI 10 = (6 : Int32)) = False from eq_false (by decide), show (nI 10 = (7 : Int32)) = False from eq_false (by decide), show (nI 10 = (8 : Int32)) = False from eq_false (by decide), show (nI 10 = (9 : Int32)) = False from eq_false (by decide), show (nI 10 = (10 : Int32)) = True from eq_true (by decide), if_true, if_false]
    · simp only [show (nI 11 = (0 : Int32)) = False from eq_false (by decide), show (nI 11 = (1 : Int32)) = False from eq_false (by decide), show (nI 11 = (2 : Int32)) = False from eq_false (by decide), show (nI 11 = (3 : Int32)) = False from eq_false (by decide), show (nI 11 = (4 : Int32)) = False from eq_false (by decide), show (nI 11 = (5 : Int32)) = False from eq_false (by decide), show (nI 11 = (6 : Int32)) = False from eq_false (by decide), show (nI 11 = (7 : Int32)) = False from eq_false (by decide), show (nI 11 = (8 : Int32)) = False from eq_false (by decide), show (nI 11 = (9 : Int32)) = False from eq_false (by decide), show (nI 11 = (10 : Int32)) = False from eq_false (by decide), show (nI 11 = (11 : Int32)) = True from eq_true (by decide), if_true, if_false]
    · simp only [show (nI 12 = (0 : Int32)) = False from eq_false (by decide), show (nI 12 = (1 : Int32)) = False from eq_false (by decide), show (nI 12 = (2 : Int32)) = False from eq_false (by decide), show (nI 12 = (3 : Int32)) = False from eq_false (by decide), show (nI 12 = (4 : Int32)) = False from eq_false (by decide), show (nI 12 = (5 : Int32)) = False from eq_false (by decide), show (nI 12 = (6 : Int32)) = False from eq_false (by decide), show (nI 12 = (7 : Int32)) = False from eq_false (by decide), show (nI 12 = (8 : Int32)) = False from eq_false (by decide), show (nI 12 = (9 : Int32)) = False from eq_false (by decide), show (nI 12 = (10 : Int32)) = False from eq_false (by decide), show (nI 12 = (11 : Int32)) = False from eq_false (by decide), show (nI 12 = (12 : Int32)) = True from eq_true (by decide), if_true, if_false]
  · rw [if_neg hw]
    rw [if_neg (show ¬ w = 0 from fun h => hw (by rw [h]; decide))]
    rw [if_neg (show ¬ w = 1 from fun h => hw (by rw [h]; decide))]
    rw [if_neg (show ¬ w = 2 from fun h => hw (by rw [h]; decide))]
    rw [if_neg (show ¬ w = 3 from fun h => hw (by rw [h]; decide))]
    rw [if_neg (show ¬ w = 4 from fun h => hw (by rw [h]; decide))]
    rw [if_neg (show ¬ w = 5 from fun h => hw (by rw [h]; decide))]
    rw [if_neg (show ¬ w = 6 from fun h => hw (by rw [h]; decide))]
    rw [if_neg (show ¬ w = 7 from fun h => hw (by rw [h]; decide))]
    rw [if_neg (show ¬ w = 8 from fun h => hw (by rw [h]; decide))]
    rw [if_neg (show ¬ w = 9 from fun h => hw (by rw [h]; decide))]
    rw [if_neg (show ¬ w = 10 from fun h => hw (by rw [h]; decide))]
    rw [if_neg (show ¬ w = 11 from fun h => hw (by rw [h]; decide))]
    rw [if_neg (show ¬ w = 12 from fun h => hw (by rw [h]; decide))]

/-- now and here: the two worlds' numbers -/
def w_now (σ τ : sm_St) (np nc : Nat) : Prop := w_ag np nc (sm_V σ 0) (q_V τ) ∧ w_ok (q_V τ) np nc ∧ (q_N τ np ∧ 1 ≤ np) ∧ (q_C τ nc ∧ 1 ≤ nc) ∧ q_0 τ
theorem w_lt {p : Int32} {n : Nat} (h1 : 1 ≤ n) (hn : n < 1000) : (nI n - 1 < p) ↔ nI n ≤ p := by
  obtain ⟨m, rfl⟩ : ∃ m, n = m + 1 := ⟨n - 1, by omega⟩
  rw [nI_pred, Int32.lt_iff_toInt_lt, Int32.le_iff_toInt_le, nI_toInt (by omega), nI_toInt (by omega)]
  omega
theorem w_win1 {p : Int32} {n : Nat} (h1 : 1 ≤ n) (hn : n < 1000) : sm_win p 0 (nI n - 1) = decide (¬ p < 0 ∧ ¬ nI n ≤ p) := by
  unfold sm_win
  apply Bool.eq_iff_iff.mpr
  rw [decide_eq_true_eq, decide_eq_true_eq, w_lt h1 hn]
theorem w_hasP {σ τ : sm_St} {np nc : Nat} (h : w_now σ τ np nc) (p : Int32) : sm_win p 0 (τ 110 0 - 1) = f_hasP (sm_V σ 0) p := by
  obtain ⟨h1, h2, ⟨h3, h4⟩, -, -⟩ := h
  have e : sm_V σ 0 0 6 = nI np := (h1.1 6 (by decide)).trans h2.n0
  have h5 := h3.2
  unfold f_hasP
  rw [h3.1, e, w_win1 h4 (by omega)]
theorem w_hasS {σ τ : sm_St} {np nc : Nat} (h : w_now σ τ np nc) (c : Int32) : sm_win c 0 (τ 110 1 - 1) = f_hasS (sm_V σ 0) c := by
  obtain ⟨h1, h2, -, ⟨h3, h4⟩, -⟩ := h
  have e : sm_V σ 0 0 7 = nI nc := (h1.1 7 (by decide)).trans h2.c0
  have h5 := h3.2
  unfold f_hasS
  rw [h3.1, e, w_win1 h4 (by omega)]
theorem w_hasP_in {σ τ : sm_St} {np nc : Nat} (h : w_now σ τ np nc) {c : Int32} (hc : f_hasP (sm_V σ 0) c = true) : ∃ j, j < np ∧ c = nI j := by
  obtain ⟨h1, h2, ⟨h3, h4⟩, -, -⟩ := h
  have e : sm_V σ 0 0 6 = nI np := (h1.1 6 (by decide)).trans h2.n0
  have h5 := h3.2
  unfold f_hasP at hc
  rw [e] at hc
  obtain ⟨a1, a2⟩ := of_decide_eq_true hc
  rcases pk_ix c (n := np) (by omega) with h6 | h6 | h6
  · exact absurd h6 a1
  · exact absurd h6 a2
  · exact h6
theorem w_post {σ τ : sm_St} {np nc : Nat} (h : w_now σ τ np nc) (p w : Int32) : m_post σ p w = p_post τ p w := by
  unfold m_post p_post
  rw [w_hasP h, w_ch3]
  by_cases hp : f_hasP (sm_V σ 0) p = true
  · obtain ⟨j, hj, rfl⟩ := w_hasP_in h hp
    have e1 : r_at (σ 1) 6 (nI j) = r_at (τ 114) 6 (nI j) := h.1.rp h.2.1.n1 1 (by decide) (by decide) hj
    have e2 : r_at (σ 2) 6 (nI j) = r_at (τ 115) 6 (nI j) := h.1.rp h.2.1.n1 2 (by decide) (by decide) hj
    have e3 : r_at (σ 3) 6 (nI j) = r_at (τ 116) 6 (nI j) := h.1.rp h.2.1.n1 3 (by decide) (by decide) hj
    have e4 : r_at (σ 4) 6 (nI j) = r_at (τ 117) 6 (nI j) := h.1.rp h.2.1.n1 4 (by decide) (by decide) hj
    rw [if_pos hp, e1, e2, e3, e4]
    by_cases hw : sm_win w 0 3 = true
    · rw [if_pos hw, if_pos (And.intro hp hw)]
    · rw [if_neg hw, if_neg (fun hh => hw hh.2)]
  · rw [if_neg hp, if_neg (fun hh => hp hh.1)]
theorem w_pull_a {σ τ : sm_St} {np nc : Nat} (h : w_now σ τ np nc) (w : Int32) : m_pull σ w = p_pull τ np nc w := by
  unfold m_pull p_pull
  rw [w_RA h.1 h.2.1, w_DA h.1 h.2.1, w_goesA h.1 h.2.1, w_ch2]
theorem w_hasS_in {σ τ : sm_St} {np nc : Nat} (h : w_now σ τ np nc) {c : Int32} (hc : f_hasS (sm_V σ 0) c = true) : ∃ j, j < nc ∧ c = nI j := by
  obtain ⟨h1, h2, -, ⟨h3, h4⟩, -⟩ := h
  have e : sm_V σ 0 0 7 = nI nc := (h1.1 7 (by decide)).trans h2.c0
  have h5 := h3.2
  unfold f_hasS at hc
  rw [e] at hc
  obtain ⟨a1, a2⟩ := of_decide_eq_true hc
  rcases pk_ix c (n := nc) (by omega) with h6 | h6 | h6
  · exact absurd h6 a1
  · exact absurd h6 a2
  · exact h6
theorem w_crew {σ τ : sm_St} {np nc : Nat} (h : w_now σ τ np nc) (c w : Int32) : m_crew σ c w = p_crew τ np c w := by
  unfold m_crew p_crew
  rw [w_hasS h]
  by_cases hc : f_hasS (sm_V σ 0) c = true
  · obtain ⟨j, hj, rfl⟩ := w_hasS_in h hc
    have hk := w_ok_w h.1 h.2.1
    have n1 := h.2.1.n1
    have c1 := h.2.1.c1
    have e1 : r_at (σ 5) 8 (nI j) = r_at (τ 111) 8 (nI j) := h.1.rs c1 5 (by decide) (by decide) hj
    have e2 : r_at (σ 6) 8 (nI j) = r_at (τ 112) 8 (nI j) := h.1.rs c1 6 (by decide) (by decide) hj
    have e3 : r_at (σ 7) 8 (nI j) = r_at (τ 113) 8 (nI j) := h.1.rs c1 7 (by decide) (by decide) hj
    have e4 : f_nearest (sm_V σ 0) (nI j) = q_nearest (q_V τ) np (r_at (τ 112) 8 (nI j)) := by
      rw [w_nearest hk, w_nearest_w h.1 n1]
      show q_nearest (q_V τ) np (r_at (σ 6) 8 (nI j)) = _
      rw [e2]
    have e5 : f_str (sm_V σ 0) (nI j) (f_nearest (sm_V σ 0) (nI j)) = q_str (q_V τ) np (nI j) := by
      rw [w_str hk hj, w_str_w h.1 n1 c1 hj]
    have e6 : f_head (sm_V σ 0) (f_nearest (sm_V σ 0) (nI j)) (f_str (sm_V σ 0) (nI j) (f_nearest (sm_V σ 0) (nI j))) = q_to (q_V τ) np (nI j) := by
      rw [w_head hk hj, w_to_w h.1 n1 c1 hj]
    rw [if_pos hc, e6, e5, e4, e1, e2, e3, w_ch5]
    by_cases hw : sm_win w 0 5 = true
    · rw [if_pos hw, if_pos (And.intro hc hw)]
    · rw [if_neg hw, if_neg (fun hh => hw hh.2)]
  · rw [if_neg hc, if_neg (fun hh => hc hh.1)]

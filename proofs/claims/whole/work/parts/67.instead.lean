/-! class and model: instead -/
theorem w_smell {σ τ : sm_St} {i np nc : Nat} {v : Int32} (hi : i < 6) (h : w_ag np nc (sm_V σ 8) (q_V τ)) : w_ag np nc (sm_V (r_set σ 11 6 (nI i) v) 8) (q_V (r_set τ 116 6 (nI i) v)) := by
  refine ⟨fun l hl => ?_, fun m a b l hl => ?_⟩
  · show r_set σ 11 6 (nI i) v 8 l = _
    rw [r_set_off (by decide), q_V0_e (r_set_off (by decide))]
    exact h.1 l hl
  · have g := h.2 m a b l hl
    rcases (show m = 1 ∨ m = 2 ∨ m = 3 ∨ m = 4 ∨ m = 5 ∨ m = 6 ∨ m = 7 by omega) with rfl | rfl | rfl | rfl | rfl | rfl | rfl
    · show r_set σ 11 6 (nI i) v 9 l = r_set τ 116 6 (nI i) v 114 l
      rw [r_set_off (by decide), r_set_off (by decide)]; exact g
    · show r_set σ 11 6 (nI i) v 10 l = r_set τ 116 6 (nI i) v 115 l
      rw [r_set_off (by decide), r_set_off (by decide)]; exact g
    · show r_set σ 11 6 (nI i) v 11 l = r_set τ 116 6 (nI i) v 116 l
      rw [w_rs hi, w_rs hi]
      by_cases e : l = i
      · rw [if_pos e, if_pos e]
      · rw [if_neg e, if_neg e]; exact g
    · show r_set σ 11 6 (nI i) v 12 l = r_set τ 116 6 (nI i) v 117 l
      rw [r_set_off (by decide), r_set_off (by decide)]; exact g
    · show r_set σ 11 6 (nI i) v 13 l = r_set τ 116 6 (nI i) v 111 l
      rw [r_set_off (by decide), r_set_off (by decide)]; exact g
    · show r_set σ 11 6 (nI i) v 14 l = r_set τ 116 6 (nI i) v 112 l
      rw [r_set_off (by decide), r_set_off (by decide)]; exact g
    · show r_set σ 11 6 (nI i) v 15 l = r_set τ 116 6 (nI i) v 113 l
      rw [r_set_off (by decide), r_set_off (by decide)]; exact g
theorem w_smell_ok {τ : sm_St} {np nc i : Nat} {v : Int32} (h : w_ok (q_V τ) np nc) : w_ok (q_V (r_set τ 116 6 (nI i) v)) np nc := by
  have e : q_V (r_set τ 116 6 (nI i) v) 0 = q_V τ 0 := q_V0_e (r_set_off (by decide))
  refine ⟨?_, h.n1, ?_, h.c1, ?_, ?_, ?_, ?_, ?_, ?_⟩
  · rw [e]; exact h.n0
  · rw [e]; exact h.c0
  · rw [e]; exact h.w0
  · rw [e]; exact h.x0
  · rw [e]; exact h.y0
  · rw [show q_V (r_set τ 116 6 (nI i) v) 1 = q_V τ 1 from r_set_off (by decide)]; exact h.px
  · rw [show q_V (r_set τ 116 6 (nI i) v) 2 = q_V τ 2 from r_set_off (by decide)]; exact h.py
  · rw [show q_V (r_set τ 116 6 (nI i) v) 7 = q_V τ 7 from r_set_off (by decide)]; exact h.cn
theorem w_rr {τ : sm_St} {k i : Nat} {v w : Int32} (hi : i < 6) : r_set (r_set τ k 6 (nI i) v) k 6 (nI i) w = r_set τ k 6 (nI i) w := by
  rw [r_set_nI rfl hi (by decide), r_set_nI rfl hi (by decide), r_set_nI rfl hi (by decide), sm_set_set]
theorem w_rid {τ : sm_St} {k i : Nat} (hi : i < 6) : r_set τ k 6 (nI i) (r_at (τ k) 6 (nI i)) = τ := by
  rw [r_set_nI rfl hi (by decide), r_at_nI rfl hi (by decide)]
  funext q
  by_cases e : q = k
  · subst e
    funext j
    by_cases e2 : j = i
    · rw [e2, sm_set_eq]
    · rw [sm_set_ne e2]
  · rw [sm_set_off e]
theorem w_in_2 {np nc i : Nat} {own w : Int32} (hi : i < 6) : ∀ (n s : Nat) (τ : sm_St), r_set (q_in np nc own i n s τ).2 116 6 (nI i) w = r_set τ 116 6 (nI i) w
  | 0, _, _ => rfl
  | n + 1, s, τ => by
    unfold q_in
    split
    · exact w_rr hi
    · rw [w_in_2 hi n, w_rr hi]
theorem w_in2 {np nc i : Nat} {τ : sm_St} (hi : i < 6) : q_in2 np nc i τ = τ := by
  unfold q_in2 q_in1
  split
  · rw [w_in_2 hi, w_rid hi]
  · exact w_rid hi
theorem w_in {np nc i : Nat} {own : Int32} (hi : i < 6) : ∀ (n s : Nat) (τ τ' : sm_St), s + n = 6 → w_ag np nc (sm_V τ 8) (q_V τ') → w_ok (q_V τ') np nc →
    (((g_in own (nI i) n s τ).1 = none ∧ (q_in np nc own i n s τ').1 = -4) ∨ ∃ v, (g_in own (nI i) n s τ).1 = some v ∧ (q_in np nc own i n s τ').1 = v ∧ ¬ v = -4) ∧ w_ag np nc (sm_V (g_in own (nI i) n s τ).2 8) (q_V (q_in np nc own i n s τ').2)
  | 0, _, _, _, _, h, _ => ⟨Or.inl ⟨rfl, rfl⟩, h⟩
  | n + 1, s, τ, τ', hs, h, hw => by
    have h2 := w_smell (v := nI s) hi h
    have hw2 := w_smell_ok (i := i) (v := nI s) hw
    have e : f_goes (sm_V (r_set τ 11 6 (nI i) (nI s)) 8) = q_goes (q_V (r_set τ' 116 6 (nI i) (nI s))) np nc := w_goesA h2 hw2
    unfold g_in q_in
    by_cases ho : nI s = own
    · rw [if_pos ho, if_neg (fun hh => hh.1 ho)]
      exact w_in hi n (s + 1) _ _ (by omega) h2 hw2
    · rw [if_neg ho, e]
      by_cases hz : q_goes (q_V (r_set τ' 116 6 (nI i) (nI s))) np nc = 0
      · rw [if_pos hz, if_pos ⟨ho, hz⟩]
        refine ⟨Or.inr ⟨nI (10 * i + s), ?_, rfl, nI_ne4 (by omega)⟩, w_ag89.tr h2⟩
        rw [show (10 : Int32) = nI 10 from rfl, pk_mul, nI_add]
      · rw [if_neg hz, if_neg (fun hh => hz hh.2)]
        exact w_in hi n (s + 1) _ _ (by omega) (w_ag89.tr h2) hw2
theorem w_ins {np nc : Nat} (hn : np ≤ 5) : ∀ (n i : Nat) (τ τ' : sm_St), i + n = np → w_ag np nc (sm_V τ 8) (q_V τ') → w_ag np nc (sm_V τ 0) (q_V τ') → w_ok (q_V τ') np nc → (g_ins n i τ).1 = (q_ins np nc n i τ').1 ∧ (q_ins np nc n i τ').2 = τ'
  | 0, _, _, _, _, _, _, _ => ⟨rfl, rfl⟩
  | n + 1, i, τ, τ', hi, h8, h0, hw => by
    have hi6 : i < 6 := by omega
    have e3 : r_at (τ 3) 6 (nI i) = r_at (τ' 116) 6 (nI i) := h0.rp hw.n1 3 (by decide) (by decide) (by omega)
    have e4 : r_at (τ 4) 6 (nI i) = r_at (τ' 117) 6 (nI i) := h0.rp hw.n1 4 (by decide) (by decide) (by omega)
    have key : (((g_in1 i τ).1 = none ∧ (q_in1 np nc i τ').1 = -4) ∨ ∃ v, (g_in1 i τ).1 = some v ∧ (q_in1 np nc i τ').1 = v ∧ ¬ v = -4) ∧ w_ag np nc (sm_V (g_in1 i τ).2 8) (q_V (q_in1 np nc i τ').2) := by
      unfold g_in1 q_in1
      rw [e3, e4]
      by_cases ha : r_at (τ' 117) 6 (nI i) = 0
      · rw [if_pos ha, if_pos ha]
        exact w_in hi6 6 0 τ τ' rfl h8 hw
      · rw [if_neg ha, if_neg ha]
        exact ⟨Or.inl ⟨rfl, rfl⟩, h8⟩
    obtain ⟨hc, hag⟩ := key
    have hag2 : w_ag np nc (sm_V (r_set (g_in1 i τ).2 11 6 (nI i) (r_at (τ 3) 6 (nI i))) 8) (q_V τ') := by
      have := w_smell (v := r_at (τ' 116) 6 (nI i)) hi6 hag
      rw [e3]
      rw [show r_set (q_in1 np nc i τ').2 116 6 (nI i) (r_at (τ' 116) 6 (nI i)) = τ' from w_in2 hi6] at this
      exact this
    have h02 : w_ag np nc (sm_V (r_set (g_in1 i τ).2 11 6 (nI i) (r_at (τ 3) 6 (nI i))) 0) (q_V τ') := by
      refine ⟨fun l hl => ?_, fun m a b l hl => ?_⟩
      · show r_set (g_in1 i τ).2 11 6 (nI i) (r_at (τ 3) 6 (nI i)) (0 + 0) l = _
        rw [r_set_off (by decide), g_in1_off (by decide) (by decide)]
        exact h0.1 l hl
      · show r_set (g_in1 i τ).2 11 6 (nI i) (r_at (τ 3) 6 (nI i)) (0 + m) l = _
        rw [r_set_off (by omega), g_in1_off (by omega) (by omega)]
        exact h0.2 m a b l hl
    rcases hc with ⟨c1, c2⟩ | ⟨v, c1, c2, c3⟩
    · have ih := w_ins hn n (i + 1) _ _ (by omega) hag2 h02 hw
      have d1 : g_ins (n + 1) i τ = g_ins n (i + 1) (r_set (g_in1 i τ).2 11 6 (nI i) (r_at (τ 3) 6 (nI i))) := by rw [g_ins, c1]
      have d2 : q_ins np nc (n + 1) i τ' = q_ins np nc n (i + 1) τ' := by rw [q_ins, if_pos c2, w_in2 hi6]
      rw [d1, d2]
      exact ih
    · have d1 : (g_ins (n + 1) i τ).1 = v := by rw [g_ins, c1]
      have d2 : q_ins np nc (n + 1) i τ' = (v, τ') := by rw [q_ins, c2, if_neg c3, w_in2 hi6]
      rw [d1, d2]
      exact ⟨rfl, rfl⟩
theorem w_instead {σ τ : sm_St} {np nc : Nat} (h : w_now σ τ np nc) : (m_instead σ).1 = (p_instead τ np nc).1 ∧ (p_instead τ np nc).2 = τ := by
  have h5 := h.2.2.1.1.2
  have e6 : σ 0 6 = nI np := (h.1.1 6 (by decide)).trans h.2.1.n0
  unfold m_instead p_instead
  rw [e6, nI_clamp (by omega)]
  refine w_ins h5 np 0 _ _ (by omega) ((w_copy h.2.1.n1 h.2.1.c1).tr h.1) ?_ h.2.1
  refine ⟨fun l hl => ?_, fun m a b l hl => ?_⟩
  · show g_copy σ 8 0 (0 + 0) l = _
    rw [g_copy_off (by left; decide)]
    exact h.1.1 l hl
  · show g_copy σ 8 0 (0 + m) l = _
    rw [g_copy_off (by left; omega)]
    exact h.1.2 m a b l hl

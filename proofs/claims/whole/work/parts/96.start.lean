/-! the start: the first text read, item by item -/
def st_l : List Nat := [115, 52, 44, 52, 44, 50, 59, 119, 50, 44, 49, 59, 112, 49, 44, 52, 44, 48, 59, 112, 55, 44, 50, 44, 49, 59, 112, 52, 44, 55, 44, 50, 59, 112, 56, 44, 56, 44, 48, 59, 99, 48, 44, 48, 44, 54, 59, 99, 49, 44, 49, 44, 51, 59, 99, 50, 44, 50, 44, 49, 59, 99, 51, 44, 48, 44, 53, 59, 99, 48, 44, 49, 44, 57, 59]
def st_L (i : Nat) : Nat := st_l.getD i 0
theorem st_L_hi {i : Nat} (h : 75 ≤ i) : st_L i = 0 := by
  unfold st_L
  rw [List.getD_eq_getElem?_getD, List.getElem?_eq_none (show st_l.length ≤ i from h)]
  rfl
theorem st_sL : s_L st_L 75 := ⟨by decide, fun i hi => st_L_hi hi, fun i => by
  by_cases h : i < 75
  · exact (show ∀ i, i < 75 → st_L i ≤ 126 by decide +kernel) i h
  · rw [st_L_hi (by omega)]
    decide⟩
theorem st_b : ∀ i, i < 75 → sx_b.getD i 0 = nI (st_L i) := by decide +kernel
theorem st_ab : ∀ i, i < 75 → 32 ≤ st_L i ∧ st_L i ≤ 126 := by decide +kernel
theorem s_lett_98 : ∀ n i, n ≤ 75 → i < n → s_lett n 98 i = nI (st_L i)
  | 0, _, _, h => by omega
  | n + 1, i, h, hi => by
    show sm_set (sm_set (s_lett n) 98 n (sx_b.getD n 0)) 97 2 (nI (n + 1)) 98 i = _
    rw [sm_set_off (by decide)]
    by_cases e : i = n
    · subst e
      rw [sm_set_eq]
      exact st_b i (by omega)
    · rw [sm_set_ne e]
      exact s_lett_98 n i (by omega) (by omega)
theorem s_lett_o : ∀ n q l, ¬ (q = 97 ∧ l = 2) → q ≠ 98 → s_lett n q l = 0
  | 0, _, _, _, _ => rfl
  | n + 1, q, l, h, h2 => by
    show sm_set (sm_set (s_lett n) 98 n (sx_b.getD n 0)) 97 2 (nI (n + 1)) q l = _
    rw [sm_set_at, if_neg h, sm_set_off h2]
    exact s_lett_o n q l h h2
def st_I (a : Nat) (T σ : sm_St) : Prop := s_C st_L 75 σ ∧ σ 97 3 = nI a ∧ ∀ q, q < 8 → σ q = T q
theorem st_3 {a c v0 v1 v2 : Nat} {T σ : sm_St} (h : st_I a T σ) (ha : a < 70) (hc : st_L a = c) (hn : c ≠ 119) (h3 : s_T3 st_L (a + 1) (v0, a + 3) (v1, a + 5) (v2, a + 7)) : ∃ σ', x_item σ 0 = x_tell σ' 0 (nI c) ∧ st_I (a + 7) T σ' ∧ σ' 99 0 = nI v0 ∧ σ' 99 1 = nI v1 ∧ σ' 99 2 = nI v2 := by
  obtain ⟨h1, h2, hr⟩ := h
  have C1 : s_C st_L 75 (sm_set σ 97 3 (nI (a + 1))) := ⟨by rw [sm_set_ne (by decide)]; exact h1.1, fun i hi => by rw [sm_set_off (by decide)]; exact h1.2 i hi⟩
  have c126 := st_sL.2.2 a
  have n119 : ¬ nI c = 119 := fun e => hn (by
    have e2 := congrArg Int32.toInt (show nI c = nI 119 from e)
    rw [nI_toInt (by omega), nI_toInt (by decide)] at e2
    omega)
  unfold x_item x_nums
  rw [s_here st_sL h1 h2 (by omega), x_inc_at h2, hc, if_neg n119]
  rcases x_three_s st_sL C1 (a := a + 1) sm_set_eq (by omega) with ⟨p0, p1, p2, σ', ⟨b1, b2, b3⟩, b4, b5, ⟨b6, b7, b8⟩, b9⟩ | ⟨b, -⟩
  · obtain rfl := s_one_u b1 h3.1
    obtain rfl := s_one_u b2 h3.2.1
    obtain rfl := s_one_u b3 h3.2.2
    rw [b4]
    dsimp only
    rw [if_pos rfl]
    refine ⟨σ', rfl, ⟨b9.C C1, b5, fun q hq => ?_⟩, b6, b7, b8⟩
    funext l
    rw [b9 q l (by omega) (by omega), sm_set_off (by omega), hr q hq]
  · exact absurd h3 (b _ _ _)
theorem st_2 {a v0 v1 : Nat} {T σ : sm_St} (h : st_I a T σ) (ha : a < 70) (hc : st_L a = 119) (h3 : s_T2 st_L (a + 1) (v0, a + 3) (v1, a + 5)) : ∃ σ', x_item σ 0 = x_tell σ' 0 119 ∧ st_I (a + 5) T σ' ∧ σ' 99 0 = nI v0 ∧ σ' 99 1 = nI v1 := by
  obtain ⟨h1, h2, hr⟩ := h
  have C1 : s_C st_L 75 (sm_set σ 97 3 (nI (a + 1))) := ⟨by rw [sm_set_ne (by decide)]; exact h1.1, fun i hi => by rw [sm_set_off (by decide)]; exact h1.2 i hi⟩
  unfold x_item x_nums
  rw [s_here st_sL h1 h2 (by omega), x_inc_at h2, hc, if_pos (show nI 119 = (119 : Int32) from rfl)]
  rcases x_two_s st_sL C1 (a := a + 1) sm_set_eq (by omega) with ⟨p0, p1, σ', ⟨b1, b2⟩, b4, b5, ⟨b6, b7⟩, b9⟩ | ⟨b, -⟩
  · obtain rfl := s_one_u b1 h3.1
    obtain rfl := s_one_u b2 h3.2
    rw [b4]
    dsimp only
    rw [if_pos rfl]
    refine ⟨σ', rfl, ⟨b9.C C1, b5, fun q hq => ?_⟩, b6, b7⟩
    funext l
    rw [b9 q l (by omega) (by omega), sm_set_off (by omega), hr q hq]
  · exact absurd h3 (b _ _)
def st_n (T : sm_St) (v0 v1 v2 : Int32) : sm_St := sm_set (sm_set (sm_set T 99 0 v0) 99 1 v1) 99 2 v2
theorem st_addP {σ T : sm_St} {x y s : Int32} (h : ∀ q, q < 8 → σ q = T q) : ∀ q, q < 8 → g_addP σ 0 x y s q = g_addP T 0 x y s q := fun q hq => by
  unfold g_addP
  rw [h 0 (by decide)]
  split
  · exact h q hq
  · exact sm_set_e (r_set_e (r_set_e (r_set_e (r_set_e (h q hq)))))
theorem st_addS {σ T : sm_St} {x y s : Int32} (h : ∀ q, q < 8 → σ q = T q) : ∀ q, q < 8 → g_addS σ 0 x y s q = g_addS T 0 x y s q := fun q hq => by
  unfold g_addS
  rw [h 0 (by decide)]
  split
  · exact h q hq
  · exact sm_set_e (r_set_e (r_set_e (r_set_e (h q hq))))
theorem st_tell {σ T : sm_St} {L : Int32} (h : ∀ q, q < 8 → σ q = T q) (h0 : σ 99 0 = T 99 0) (h1 : σ 99 1 = T 99 1) (h2 : L = 119 ∨ σ 99 2 = T 99 2) : (x_tell σ 0 L).1 = (x_tell T 0 L).1 ∧ ∀ q, q < 8 → (x_tell σ 0 L).2 q = (x_tell T 0 L).2 q := by
  unfold x_tell
  rw [r_at_nI (f := σ 99) (j := 0) (show (0 : Int32) = nI 0 from rfl) (by decide) (by decide), r_at_nI (f := T 99) (j := 0) (show (0 : Int32) = nI 0 from rfl) (by decide) (by decide), r_at_nI (f := σ 99) (j := 1) (show (1 : Int32) = nI 1 from rfl) (by decide) (by decide), r_at_nI (f := T 99) (j := 1) (show (1 : Int32) = nI 1 from rfl) (by decide) (by decide), r_at_nI (f := σ 99) (j := 2) (show (2 : Int32) = nI 2 from rfl) (by decide) (by decide), r_at_nI (f := T 99) (j := 2) (show (2 : Int32) = nI 2 from rfl) (by decide) (by decide), h0, h1]
  by_cases c1 : L = 115
  · rw [if_pos c1, if_pos c1]
    have e2 : σ 99 2 = T 99 2 := h2.resolve_left (by rw [c1]; decide)
    rw [e2]
    unfold t_ship
    split
    · exact ⟨rfl, fun q hq => sm_set_e (sm_set_e (sm_set_e (h q hq)))⟩
    · exact ⟨rfl, h⟩
  · rw [if_neg c1, if_neg c1]
    by_cases c2 : L = 119
    · rw [if_pos c2, if_pos c2]
      unfold t_wind
      split
      · exact ⟨rfl, fun q hq => sm_set_e (sm_set_e (h q hq))⟩
      · exact ⟨rfl, h⟩
    · have e2 : σ 99 2 = T 99 2 := h2.resolve_left c2
      rw [if_neg c2, if_neg c2, e2]
      by_cases c3 : L = 112
      · rw [if_pos c3, if_pos c3]
        unfold t_post
        rw [h 0 (by decide)]
        split
        · exact ⟨rfl, st_addP h⟩
        · exact ⟨rfl, h⟩
      · rw [if_neg c3, if_neg c3]
        by_cases c4 : L = 99
        · rw [if_pos c4, if_pos c4]
          unfold t_one
          rw [h 0 (by decide)]
          split
          · exact ⟨rfl, st_addS h⟩
          · exact ⟨rfl, h⟩
        · rw [if_neg c4, if_neg c4]
          exact ⟨rfl, h⟩
theorem st_to {a : Nat} {T T' σ σ' : sm_St} (h : st_I a T σ) (hr : ∀ q, q < 8 → σ' q = T' q) (ho : s_k 0 σ' σ) (h3 : σ' 97 3 = σ 97 3) : st_I a T' σ' := by
  obtain ⟨⟨h1, h1b⟩, h2, -⟩ := h
  exact ⟨⟨(ho 97 2 (by omega) (by omega) (by omega)).trans h1, fun i hi => (ho 98 i (by omega) (by omega) (by omega)).trans (h1b i hi)⟩, h3.trans h2, hr⟩
theorem x_tell_97 {σ : sm_St} {L : Int32} {q : Nat} (hq : 8 ≤ q) : (x_tell σ 0 L).2 q = σ q := by
  unfold x_tell t_ship t_wind t_post t_one g_addP g_addS
  repeat' split
  all_goals first | rfl | (dsimp only; repeat rw [sm_set_off (by omega)]); try (repeat rw [r_set_off (by omega)])
theorem st_read {a n : Nat} {T T' σ σ1 : sm_St} {L : Int32} (h : st_I a T σ) (ha : a < 75) {b : Nat} (e : x_item σ 0 = x_tell σ1 0 L) (h1 : st_I b T σ1) {v0 v1 v2 : Int32} (e0 : σ1 99 0 = v0) (e1 : σ1 99 1 = v1) (e2 : L = 119 ∨ σ1 99 2 = v2) (hT : (x_tell (st_n T v0 v1 v2) 0 L).1 = 1) (hT' : T' = (x_tell (st_n T v0 v1 v2) 0 L).2) : ∃ σ', x_read 0 (n + 1) σ = x_read 0 n σ' ∧ st_I b T' σ' := by
  obtain ⟨⟨g1, g2⟩, g3, g4⟩ := h
  have hn : ∀ q, q < 8 → σ1 q = st_n T v0 v1 v2 q := fun q hq => by
    unfold st_n
    rw [sm_set_off (by omega), sm_set_off (by omega), sm_set_off (by omega)]
    exact h1.2.2 q hq
  obtain ⟨t1, t2⟩ := st_tell (L := L) hn (e0.trans (by unfold st_n; rw [sm_set_ne (by decide), sm_set_ne (by decide), sm_set_eq])) (e1.trans (by unfold st_n; rw [sm_set_ne (by decide), sm_set_eq])) (e2.imp id (fun z => z.trans (by unfold st_n; rw [sm_set_eq])))
  refine ⟨(x_item σ 0).2, ?_, ?_⟩
  · rw [x_read, g1, g3, if_neg (fun hh => absurd ((nI_leI (by decide) (by omega)).mp hh) (by omega)), e, t1, hT, if_neg (by decide)]
  · rw [e, hT']
    exact st_to h1 t2 x_tell_k (congrFun (x_tell_97 (by decide)) 3)
def st_T0 : sm_St := g_clear s_zero 0
def st_T1 : sm_St := (x_tell (st_n st_T0 4 4 2) 0 115).2
def st_T2 : sm_St := (x_tell (st_n st_T1 2 1 0) 0 119).2
def st_T3 : sm_St := (x_tell (st_n st_T2 1 4 0) 0 112).2
def st_T4 : sm_St := (x_tell (st_n st_T3 7 2 1) 0 112).2
def st_T5 : sm_St := (x_tell (st_n st_T4 4 7 2) 0 112).2
def st_T6 : sm_St := (x_tell (st_n st_T5 8 8 0) 0 112).2
def st_T7 : sm_St := (x_tell (st_n st_T6 0 0 6) 0 99).2
def st_T8 : sm_St := (x_tell (st_n st_T7 1 1 3) 0 99).2
def st_T9 : sm_St := (x_tell (st_n st_T8 2 2 1) 0 99).2
def st_T10 : sm_St := (x_tell (st_n st_T9 3 0 5) 0 99).2
def st_T11 : sm_St := (x_tell (st_n st_T10 0 1 9) 0 99).2
theorem st_all : st_I 75 st_T11 (x_into (s_lett 75) 0).2 := by
  have h0 : st_I 0 st_T0 (sm_set (g_clear (s_lett 75) 0) 97 3 0) := by
    refine ⟨⟨?_, fun i hi => ?_⟩, sm_set_eq, fun q hq => ?_⟩
    · rw [sm_set_ne (by decide)]
      unfold g_clear
      rw [sm_set_off (by decide), sm_set_off (by decide), sm_set_off (by decide), sm_set_off (by decide), sm_set_off (by decide), sm_set_off (by decide), sm_set_off (by decide), sm_set_off (by decide)]
      exact s_lett_2 75
    · rw [sm_set_off (by decide)]
      unfold g_clear
      rw [sm_set_off (by decide), sm_set_off (by decide), sm_set_off (by decide), sm_set_off (by decide), sm_set_off (by decide), sm_set_off (by decide), sm_set_off (by decide), sm_set_off (by decide)]
      exact s_lett_98 75 i (by decide) hi
    · rw [sm_set_off (by omega)]
      unfold st_T0 g_clear
      have e : s_lett 75 q = s_zero q := by
        funext l
        exact s_lett_o 75 q l (by omega) (by omega)
      exact sm_set_e (sm_set_e (sm_set_e (sm_set_e (sm_set_e (sm_set_e (sm_set_e (sm_set_e e)))))))
  unfold x_into
  generalize sm_set (g_clear (s_lett 75) 0) 97 3 0 = z0 at h0 ⊢
  obtain ⟨y0, e, i, b0, b1, b2⟩ := st_3 h0 (by decide) (c := 115) (v0 := 4) (v1 := 4) (v2 := 2) (by decide) (by decide) ⟨by decide, by decide, by decide⟩
  obtain ⟨z1, r, h1⟩ := st_read (n := 199) (T' := st_T1) (v0 := 4) (v1 := 4) (v2 := 2) h0 (by decide) e i b0 b1 (Or.inr b2) (by decide +kernel) rfl
  rw [show (200 : Nat) = 199 + 1 from rfl, r]
  obtain ⟨y1, e, i, b0, b1⟩ := st_2 h1 (by decide) (v0 := 2) (v1 := 1) (by decide) ⟨by decide, by decide⟩
  obtain ⟨z2, r, h2⟩ := st_read (n := 198) (T' := st_T2) (v0 := 2) (v1 := 1) (v2 := 0) h1 (by decide) e i b0 b1 (Or.inl rfl) (by decide +kernel) rfl
  rw [show (199 : Nat) = 198 + 1 from rfl, r]
  obtain ⟨y2, e, i, b0, b1, b2⟩ := st_3 h2 (by decide) (c := 112) (v0 := 1) (v1 := 4) (v2 := 0) (by decide) (by decide) ⟨by decide, by decide, by decide⟩
  obtain ⟨z3, r, h3⟩ := st_read (n := 197) (T' := st_T3) (v0 := 1) (v1 := 4) (v2 := 0) h2 (by decide) e i b0 b1 (Or.inr b2) (by decide +kernel) rfl
  rw [show (198 : Nat) = 197 + 1 from rfl, r]
  obtain ⟨y3, e, i, b0, b1, b2⟩ := st_3 h3 (by decide) (c := 112) (v0 := 7) (v1 := 2) (v2 := 1) (by decide) (by decide) ⟨by decide, by decide, by decide⟩
  obtain ⟨z4, r, h4⟩ := st_read (n := 196) (T' := st_T4) (v0 := 7) (v1 := 2) (v2 := 1) h3 (by decide) e i b0 b1 (Or.inr b2) (by decide +kernel) rfl
  rw [show (197 : Nat) = 196 + 1 from rfl, r]
  obtain ⟨y4, e, i, b0, b1, b2⟩ := st_3 h4 (by decide) (c := 112) (v0 := 4) (v1 := 7) (v2 := 2) (by decide) (by decide) ⟨by decide, by decide, by decide⟩
  obtain ⟨z5, r, h5⟩ := st_read (n := 195) (T' := st_T5) (v0 := 4) (v1 := 7) (v2 := 2) h4 (by decide) e i b0 b1 (Or.inr b2) (by decide +kernel) rfl
  rw [show (196 : Nat) = 195 + 1 from rfl, r]
  obtain ⟨y5, e, i, b0, b1, b2⟩ := st_3 h5 (by decide) (c := 112) (v0 := 8) (v1 := 8) (v2 := 0) (by decide) (by decide) ⟨by decide, by decide, by decide⟩
  obtain ⟨z6, r, h6⟩ := st_read (n := 194) (T' := st_T6) (v0 := 8) (v1 := 8) (v2 := 0) h5 (by decide) e i b0 b1 (Or.inr b2) (by decide +kernel) rfl
  rw [show (195 : Nat) = 194 + 1 from rfl, r]
  obtain ⟨y6, e, i, b0, b1, b2⟩ := st_3 h6 (by decide) (c := 99) (v0 := 0) (v1 := 0) (v2 := 6) (by decide) (by decide) ⟨by decide, by decide, by decide⟩
  obtain ⟨z7, r, h7⟩ := st_read (n := 193) (T' := st_T7) (v0 := 0) (v1 := 0) (v2 := 6) h6 (by decide) e i b0 b1 (Or.inr b2) (by decide +kernel) rfl
  rw [show (194 : Nat) = 193 + 1 from rfl, r]
  obtain ⟨y7, e, i, b0, b1, b2⟩ := st_3 h7 (by decide) (c := 99) (v0 := 1) (v1 := 1) (v2 := 3) (by decide) (by decide) ⟨by decide, by decide, by decide⟩
  obtain ⟨z8, r, h8⟩ := st_read (n := 192) (T' := st_T8) (v0 := 1) (v1 := 1) (v2 := 3) h7 (by decide) e i b0 b1 (Or.inr b2) (by decide +kernel) rfl
  rw [show (193 : Nat) = 192 + 1 from rfl, r]
  obtain ⟨y8, e, i, b0, b1, b2⟩ := st_3 h8 (by decide) (c := 99) (v0 := 2) (v1 := 2) (v2 := 1) (by decide) (by decide) ⟨by decide, by decide, by decide⟩
  obtain ⟨z9, r, h9⟩ := st_read (n := 191) (T' := st_T9) (v0 := 2) (v1 := 2) (v2 := 1) h8 (by decide) e i b0 b1 (Or.inr b2) (by decide +kernel) rfl
  rw [show (192 : Nat) = 191 + 1 from rfl, r]
  obtain ⟨y9, e, i, b0, b1, b2⟩ := st_3 h9 (by decide) (c := 99) (v0 := 3) (v1 := 0) (v2 := 5) (by decide) (by decide) ⟨by decide, by decide, by decide⟩
  obtain ⟨z10, r, h10⟩ := st_read (n := 190) (T' := st_T10) (v0 := 3) (v1 := 0) (v2 := 5) h9 (by decide) e i b0 b1 (Or.inr b2) (by decide +kernel) rfl
  rw [show (191 : Nat) = 190 + 1 from rfl, r]
  obtain ⟨y10, e, i, b0, b1, b2⟩ := st_3 h10 (by decide) (c := 99) (v0 := 0) (v1 := 1) (v2 := 9) (by decide) (by decide) ⟨by decide, by decide, by decide⟩
  obtain ⟨z11, r, h11⟩ := st_read (n := 189) (T' := st_T11) (v0 := 0) (v1 := 1) (v2 := 9) h10 (by decide) e i b0 b1 (Or.inr b2) (by decide +kernel) rfl
  rw [show (190 : Nat) = 189 + 1 from rfl, r]
  rw [show (189 : Nat) = 188 + 1 from rfl, x_read, h11.1.1, h11.2.1, if_pos (Int32.le_refl _)]
  exact h11
theorem s_first_o {q l : Nat} (hq : 8 ≤ q) (h1 : q ≠ 97) (h2 : q ≠ 98) (h3 : q ≠ 99) : s_first q l = 0 := by
  unfold s_first
  rw [sm_set_off h1, x_into_k q l (by omega) (by omega) h3]
  exact s_lett_o 75 q l (by omega) h2
theorem s_first_r {q : Nat} (hq : q < 8) : s_first q = st_T11 q := by
  unfold s_first
  rw [sm_set_off (by omega)]
  exact st_all.2.2 q hq
def s_start : sm_St := m_c5 s_first
theorem q_first_o {σ : sm_St} {x y s : Int32} {q : Nat} (h : q < 110) : q_first1 σ x y s q = σ q := by
  unfold q_first1
  rw [sm_set_off (by omega), q_sets_off (by omega)]
theorem q_one_o {σ : sm_St} {x y s : Int32} {q : Nat} (h : q < 110) : q_one1 σ x y s q = σ q := by
  unfold q_one1
  rw [sm_set_off (by omega), q_one_c1 (by omega)]
theorem s_start_o {q : Nat} (h : q < 110) : s_start q = s_first q := by
  unfold s_start m_c5 m_c4 m_c3 m_c2 m_c1 m_p4 m_p3 m_p2 m_p1 m_s5
  rw [q_one_o h, q_one_o h, q_one_o h, q_one_o h, q_one_o h, q_first_o h, q_first_o h, q_first_o h, q_first_o h, sm_set_off (by omega), sm_set_off (by omega), sm_set_off (by omega), sm_set_off (by omega), sm_set_off (by omega)]
  exact if_pos h
theorem st_m0 : ∀ i, i < 8 → st_T11 0 i = q_V s_start 0 i := by decide +kernel
theorem st_mp : ∀ m, m < 4 → ∀ i, i < 4 → st_T11 (1 + m) i = q_V s_start (1 + m) i := by decide +kernel
theorem st_mc : ∀ m, m < 3 → ∀ i, i < 5 → st_T11 (5 + m) i = q_V s_start (5 + m) i := by decide +kernel
theorem st_ok : w_ok (q_V s_start) 4 5 := by
  refine ⟨by decide +kernel, by decide, by decide +kernel, by decide, ⟨2, by decide, by decide +kernel⟩, ⟨4, by decide, by decide +kernel⟩, ⟨4, by decide, by decide +kernel⟩, ?_, ?_, ?_⟩
  · intro p hp
    rcases (show p = 0 ∨ p = 1 ∨ p = 2 ∨ p = 3 by omega) with rfl | rfl | rfl | rfl
    · exact ⟨1, by decide, by decide +kernel⟩
    · exact ⟨7, by decide, by decide +kernel⟩
    · exact ⟨4, by decide, by decide +kernel⟩
    · exact ⟨8, by decide, by decide +kernel⟩
  · intro p hp
    rcases (show p = 0 ∨ p = 1 ∨ p = 2 ∨ p = 3 by omega) with rfl | rfl | rfl | rfl
    · exact ⟨4, by decide, by decide +kernel⟩
    · exact ⟨2, by decide, by decide +kernel⟩
    · exact ⟨7, by decide, by decide +kernel⟩
    · exact ⟨8, by decide, by decide +kernel⟩
  · intro c hc
    rcases (show c = 0 ∨ c = 1 ∨ c = 2 ∨ c = 3 ∨ c = 4 by omega) with rfl | rfl | rfl | rfl | rfl
    · exact ⟨6, by decide, by decide +kernel⟩
    · exact ⟨3, by decide, by decide +kernel⟩
    · exact ⟨1, by decide, by decide +kernel⟩
    · exact ⟨5, by decide, by decide +kernel⟩
    · exact ⟨9, by decide, by decide +kernel⟩
theorem w_I_start : w_I s_start s_start 4 5 0 0 0 0 0 0 := by
  have e : ∀ q, q < 8 → s_start q = st_T11 q := fun q hq => (s_start_o (by omega)).trans (s_first_r hq)
  have z : ∀ q l, 8 ≤ q → q < 110 → q ≠ 97 → q ≠ 98 → q ≠ 99 → s_start q l = 0 := fun q l a b c d f => by
    rw [s_start_o b]
    exact s_first_o a c d f
  refine ⟨⟨⟨fun i hi => ?_, fun m m1 m2 i hi => ?_⟩, st_ok, ⟨⟨by decide +kernel, by decide⟩, by decide⟩, ⟨⟨by decide +kernel, by decide⟩, by decide⟩, ⟨by decide +kernel, by decide +kernel⟩⟩, fun p hp => Or.inl ?_, ⟨⟨z 100 3 (by decide) (by decide) (by decide) (by decide) (by decide), by decide +kernel, by decide⟩, fun i hi => by omega⟩, ⟨⟨?_, by decide +kernel, by decide⟩, fun i hi => by omega⟩, w_pl_0 (z 104 1 (by decide) (by decide) (by decide) (by decide) (by decide)) (by decide +kernel) (z 104 2 (by decide) (by decide) (by decide) (by decide) (by decide)) (by decide), w_pl_0 (z 106 1 (by decide) (by decide) (by decide) (by decide) (by decide)) (by decide +kernel) (z 106 2 (by decide) (by decide) (by decide) (by decide) (by decide)) (by decide)⟩
  · show s_start 0 i = _
    rw [e 0 (by decide)]
    exact st_m0 i hi
  · show s_start (0 + m) i = _
    rw [Nat.zero_add, e m m2]
    by_cases h : m < 5
    · rw [if_pos h] at hi
      have := st_mp (m - 1) (by omega) i hi
      rw [show 1 + (m - 1) = m by omega] at this
      exact this
    · rw [if_neg h] at hi
      have := st_mc (m - 5) (by omega) i hi
      rw [show 5 + (m - 5) = m by omega] at this
      exact this
  · exact (show ∀ p, p < 4 → s_start 117 p = 0 by decide +kernel) p hp
  · rw [s_start_o (by decide)]
    unfold s_first
    rw [sm_set_eq]
    rfl

def q_in (np nc : Nat) (own : Int32) (i : Nat) : Nat → Nat → sm_St → Int32 × sm_St
  | 0, _, τ => (-4, τ)
  | n + 1, s, τ => if ¬ nI s = own ∧ q_goes (q_V (r_set τ 116 6 (nI i) (nI s))) np nc = 0 then (nI (10 * i + s), r_set τ 116 6 (nI i) (nI s)) else q_in np nc own i n (s + 1) (r_set τ 116 6 (nI i) (nI s))
def q_in1 (np nc i : Nat) (τ : sm_St) : Int32 × sm_St := if r_at (τ 117) 6 (nI i) = 0 then q_in np nc (r_at (τ 116) 6 (nI i)) i 6 0 τ else (-4, τ)
def q_in2 (np nc i : Nat) (τ : sm_St) : sm_St := r_set (q_in1 np nc i τ).2 116 6 (nI i) (r_at (τ 116) 6 (nI i))
def q_ins (np nc : Nat) : Nat → Nat → sm_St → Int32 × sm_St
  | 0, _, τ => (-4, τ)
  | n + 1, i, τ => if (q_in1 np nc i τ).1 = -4 then q_ins np nc n (i + 1) (q_in2 np nc i τ) else ((q_in1 np nc i τ).1, q_in2 np nc i τ)
def p_instead (σ : sm_St) (np nc : Nat) : Int32 × sm_St := q_ins np nc np 0 σ
theorem q_in_off {np nc i q : Nat} {own : Int32} (h : q ≠ 116) : ∀ (n s : Nat) (τ : sm_St), (q_in np nc own i n s τ).2 q = τ q
  | 0, _, _ => rfl
  | n + 1, s, τ => by
    unfold q_in
    split
    · exact r_set_off h
    · rw [q_in_off h n, r_set_off h]
theorem q_in2_off {np nc i q : Nat} {τ : sm_St} (h : q ≠ 116) : q_in2 np nc i τ q = τ q := by
  unfold q_in2
  rw [r_set_off h]
  unfold q_in1
  split
  · exact q_in_off h _ _ _
  · rfl
theorem q_in_v {np nc i : Nat} {own : Int32} : ∀ (n s : Nat) (τ : sm_St), (q_in np nc own i n s τ).1 = -4 ∨ ∃ k, s ≤ k ∧ k < s + n ∧ (q_in np nc own i n s τ).1 = nI (10 * i + k)
  | 0, _, _ => .inl rfl
  | n + 1, s, τ => by
    unfold q_in
    split
    · exact .inr ⟨s, by omega, by omega, rfl⟩
    · rcases q_in_v (np := np) (nc := nc) (i := i) (own := own) n (s + 1) (r_set τ 116 6 (nI i) (nI s)) with h | ⟨k, h1, h2, h3⟩
      · exact .inl h
      · exact .inr ⟨k, by omega, by omega, h3⟩

set_option maxHeartbeats 2000000 in
theorem l_q_in {np nc i : Nat} (hi : i < 6) {own : Int32} {r : Option Value} {σ' : sm_St} : ∀ (n s : Nat) (τ : sm_St), s + n = 6 → r_at (τ 117) 6 (nI i) = 0 → q_P τ np → q_S τ nc → sm_W RX6 cX6_instead 5 (some .int) 8 r σ' 90 [(0, .ref 110), (1, .int (q_in np nc own i n s τ).1), (2, .int (nI i)), (3, .int own)] [] (q_in np nc own i n s τ).2 → sm_W RX6 cX6_instead 5 (some .int) 8 r σ' 29 [(0, .ref 110), (1, .int (-4)), (2, .int (nI i)), (3, .int own), (4, .int (nI s))] [] τ := by
  intro n
  induction n with
  | zero =>
    intro s τ h1 ha hP hS k
    refine sw_iload dX6_instead_29 rfl ?_
    refine sw_bipush (v := 6) dX6_instead_31 (by decide) ?_
    refine sw_icmp_ge (tgt := 90) dX6_instead_33 (by decide) (fun _ => ?_) (fun h => absurd ((by rw [show s = 6 by omega]; decide)) h)
    refine sw_lv (k) (And.intro rfl (And.intro rfl (And.intro rfl (And.intro rfl trivial))))
  | succ n ih =>
    intro s τ h1 ha hP hS k
    refine sw_iload dX6_instead_29 rfl ?_
    refine sw_bipush (v := 6) dX6_instead_31 (by decide) ?_
    refine sw_icmp_ge (tgt := 90) dX6_instead_33 (by decide) (fun h => absurd h ((fun h => absurd ((nI_leI (by decide) (by omega)).mp (show nI 6 ≤ nI s from h)) (by omega)))) (fun _ => ?_)
    refine sw_iload_n dX6_instead_36 rfl ?_
    refine sw_bipush (v := -4) dX6_instead_37 (by decide) ?_
    refine sw_icmp_ne (tgt := 90) dX6_instead_39 (by decide) (fun h => absurd (rfl) h) (fun _ => ?_)
    refine sw_aload_n dX6_instead_42 rfl ?_
    refine sw_getR (j := 117) dX6_instead_43 fl_X6_28 rfl rfl ?_
    refine sw_iload_n dX6_instead_46 rfl ?_
    refine sw_ialdR dX6_instead_47 rfl (vp_in_nI (by omega) (by decide)) ?_
    refine sw_if_ne (tgt := 90) dX6_instead_48 (by decide) (fun h => absurd (ha) h) (fun _ => ?_)
    refine sw_aload_n dX6_instead_51 rfl ?_
    refine sw_getR (j := 116) dX6_instead_52 fl_X6_25 rfl rfl ?_
    refine sw_iload_n dX6_instead_55 rfl ?_
    refine sw_iload dX6_instead_56 rfl ?_
    refine sw_iastR dX6_instead_58 rfl (vp_in_nI (by omega) (by decide)) ?_
    refine sw_iload dX6_instead_59 rfl ?_
    refine sw_iload_n dX6_instead_61 rfl ?_
    refine sw_icmp_eq (tgt := 82) dX6_instead_62 (by decide) (fun h62 => ?_) (fun h62 => ?_)
    · refine sw_iload_n dX6_instead_82 rfl ?_
      refine sw_istore_n dX6_instead_83 (by decide) rfl ?_
      refine sw_iinc dX6_instead_84 rfl rfl (by decide) rfl ?_
      refine sw_goto (tgt := 29) dX6_instead_87 (by decide) ?_
      rw [q_in, if_neg (fun hh => hh.1 h62)] at k
      refine sw_lv (ih (s + 1) _ (by omega) (by rw [r_set_off (by decide)]; exact ha) (q_P_row (by decide) hP) (q_S_row (by decide) hS) k) (And.intro rfl (And.intro rfl (And.intro rfl (And.intro rfl (And.intro (sm_e rfl ?_) trivial)))))
      all_goals (rw [sm_i1, nI_succ])
    · refine sw_aload_n dX6_instead_65 rfl ?_
      refine sw_callV dX6_instead_66 lV_X6_183 (c_q_goesTo (q_P_row (by decide) hP) (q_S_row (by decide) hS)) rfl rfl rfl rfl (Nat.le_of_ble_eq_true rfl) (Nat.le_of_ble_eq_true rfl) ?_
      refine sw_if_ne (tgt := 82) dX6_instead_69 (by decide) (fun h69 => ?_) (fun h69 => ?_)
      · refine sw_iload_n dX6_instead_82 rfl ?_
        refine sw_istore_n dX6_instead_83 (by decide) rfl ?_
        refine sw_iinc dX6_instead_84 rfl rfl (by decide) rfl ?_
        refine sw_goto (tgt := 29) dX6_instead_87 (by decide) ?_
        rw [q_in, if_neg (fun hh => h69 hh.2)] at k
        refine sw_lv (ih (s + 1) _ (by omega) (by rw [r_set_off (by decide)]; exact ha) (q_P_row (by decide) hP) (q_S_row (by decide) hS) k) (And.intro rfl (And.intro rfl (And.intro rfl (And.intro rfl (And.intro (sm_e rfl ?_) trivial)))))
        all_goals (rw [sm_i1, nI_succ])
      · refine sw_bipush (v := 10) dX6_instead_72 (by decide) ?_
        refine sw_iload_n dX6_instead_74 rfl ?_
        refine sw_imul dX6_instead_75 ?_
        refine sw_iload dX6_instead_76 rfl ?_
        refine sw_iadd dX6_instead_78 ?_
        refine sw_top (y := nI (10 * i + s)) (by rw [show (10 : Int32) = nI 10 from rfl, pk_mul, nI_add]) ?_
        refine sw_goto (tgt := 83) dX6_instead_79 (by decide) ?_
        refine sw_istore_n dX6_instead_83 (by decide) rfl ?_
        refine sw_iinc dX6_instead_84 rfl rfl (by decide) rfl ?_
        refine sw_goto (tgt := 29) dX6_instead_87 (by decide) ?_
        rw [q_in, if_pos ⟨h62, h69⟩] at k
        by_cases hk : s < 5
        · refine sw_iload dX6_instead_29 rfl ?_
          refine sw_bipush (v := 6) dX6_instead_31 (by decide) ?_
          refine sw_icmp_ge (tgt := 90) dX6_instead_33 (by decide) (fun h => absurd h ((sm_nge (m := 6) (by omega) (by decide)))) (fun _ => ?_)
          refine sw_iload_n dX6_instead_36 rfl ?_
          refine sw_bipush (v := -4) dX6_instead_37 (by decide) ?_
          refine sw_icmp_ne (tgt := 90) dX6_instead_39 (by decide) (fun _ => ?_) (fun h => absurd h (nI_ne4 (by omega)))
          refine sw_lv (k) (And.intro rfl (And.intro rfl (And.intro rfl (And.intro rfl trivial))))
        · refine sw_iload dX6_instead_29 rfl ?_
          refine sw_bipush (v := 6) dX6_instead_31 (by decide) ?_
          refine sw_icmp_ge (tgt := 90) dX6_instead_33 (by decide) (fun _ => ?_) (fun h => absurd ((by rw [show s = 5 by omega]; decide)) h)
          refine sw_lv (k) (And.intro rfl (And.intro rfl (And.intro rfl (And.intro rfl trivial))))

set_option maxHeartbeats 2000000 in
theorem l_p_instead {np nc : Nat} : ∀ (n i : Nat) (τ : sm_St), i + n = np → q_N τ np → q_P τ np → q_S τ nc → sm_W RX6 cX6_instead 5 (some .int) 8 (some (.int (q_ins np nc n i τ).1)) (q_ins np nc n i τ).2 5 [(0, .ref 110), (1, .int (-4)), (2, .int (nI i))] [] τ := by
  intro n
  induction n with
  | zero =>
    intro i τ h1 hN hP hS
    refine sw_iload_n dX6_instead_5 rfl ?_
    refine sw_aload_n dX6_instead_6 rfl ?_
    refine sw_getI dX6_instead_7 fl_X6_84 rfl rfl ?_
    refine sw_icmp_ge (tgt := 103) dX6_instead_10 (by decide) (fun _ => ?_) (fun h => absurd ((by rw [hN.1]; exact nI_le (by omega) (by omega))) h)
    refine sw_iload_n dX6_instead_103 rfl ?_
    refine sw_iret dX6_instead_104 rfl rfl ?_ ?_
    all_goals (first | with_reducible rfl | (rfl))
  | succ n ih =>
    intro i τ h1 hN hP hS
    have hn5 := hN.2
    refine sw_iload_n dX6_instead_5 rfl ?_
    refine sw_aload_n dX6_instead_6 rfl ?_
    refine sw_getI dX6_instead_7 fl_X6_84 rfl rfl ?_
    refine sw_icmp_ge (tgt := 103) dX6_instead_10 (by decide) (fun h => absurd h ((fun h => absurd ((nI_leI (by omega) (by omega)).mp (hN.1 ▸ h)) (by omega)))) (fun _ => ?_)
    refine sw_iload_n dX6_instead_13 rfl ?_
    refine sw_bipush (v := -4) dX6_instead_14 (by decide) ?_
    refine sw_icmp_ne (tgt := 103) dX6_instead_16 (by decide) (fun h => absurd (rfl) h) (fun _ => ?_)
    refine sw_aload_n dX6_instead_19 rfl ?_
    refine sw_getR (j := 116) dX6_instead_20 fl_X6_25 rfl rfl ?_
    refine sw_iload_n dX6_instead_23 rfl ?_
    refine sw_ialdR dX6_instead_24 rfl (vp_in_nI (by omega) (by decide)) ?_
    refine sw_istore_n dX6_instead_25 (by decide) rfl ?_
    refine sw_iconst (v := 0) dX6_instead_26 (by decide) ?_
    refine sw_istore dX6_instead_27 (by decide) rfl ?_
    by_cases ha : r_at (τ 117) 6 (nI i) = 0
    · have e2 : q_in1 np nc i τ = q_in np nc (r_at (τ 116) 6 (nI i)) i 6 0 τ := by rw [q_in1, if_pos ha]
      refine sw_lv (l_q_in (by have := hN.2; omega) 6 0 τ (by decide) ha hP hS ?_) (And.intro rfl (And.intro rfl (And.intro rfl (And.intro rfl (And.intro rfl trivial)))))
      rw [← e2]
      by_cases e3 : (q_in1 np nc i τ).1 = -4
      · have e1 : q_ins np nc (n + 1) i τ = q_ins np nc n (i + 1) (q_in2 np nc i τ) := by rw [q_ins, if_pos e3]
        rw [e1]
        refine sw_aload_n dX6_instead_90 rfl ?_
        refine sw_getR (j := 116) dX6_instead_91 fl_X6_25 rfl rfl ?_
        refine sw_iload_n dX6_instead_94 rfl ?_
        refine sw_iload_n dX6_instead_95 rfl ?_
        refine sw_iastR dX6_instead_96 rfl (vp_in_nI (by omega) (by decide)) ?_
        refine sw_iinc dX6_instead_97 rfl rfl (by decide) rfl ?_
        refine sw_goto (tgt := 5) dX6_instead_100 (by decide) ?_
        refine sw_lv (ih (i + 1) _ (by omega) ⟨by rw [q_in2_off (by decide)]; exact hN.1, hN.2⟩ ⟨by rw [q_in2_off (by decide)]; exact hP.1, hP.2⟩ ⟨by rw [q_in2_off (by decide)]; exact hS.1, hS.2⟩) (And.intro rfl (And.intro (sm_e rfl ?_) (And.intro (sm_e rfl ?_) trivial)))
        all_goals (first | exact e3 | rw [sm_i1, nI_succ])
      · have e1 : q_ins np nc (n + 1) i τ = ((q_in1 np nc i τ).1, q_in2 np nc i τ) := by rw [q_ins, if_neg e3]
        rw [e1]
        refine sw_aload_n dX6_instead_90 rfl ?_
        refine sw_getR (j := 116) dX6_instead_91 fl_X6_25 rfl rfl ?_
        refine sw_iload_n dX6_instead_94 rfl ?_
        refine sw_iload_n dX6_instead_95 rfl ?_
        refine sw_iastR dX6_instead_96 rfl (vp_in_nI (by omega) (by decide)) ?_
        refine sw_st (σ2 := q_in2 np nc i τ) (by rw [q_in2]) ?_
        refine sw_iinc dX6_instead_97 rfl rfl (by decide) rfl ?_
        refine sw_goto (tgt := 5) dX6_instead_100 (by decide) ?_
        by_cases hk : i + 1 < np
        · refine sw_iload_n dX6_instead_5 rfl ?_
          refine sw_aload_n dX6_instead_6 rfl ?_
          refine sw_getI dX6_instead_7 fl_X6_84 rfl rfl ?_
          refine sw_icmp_ge (tgt := 103) dX6_instead_10 (by decide) (fun h => absurd h ((by rw [q_in2_off (by decide), hN.1, sm_i1, ← nI_succ, nI_leI (by omega) (by omega)]; omega))) (fun _ => ?_)
          refine sw_iload_n dX6_instead_13 rfl ?_
          refine sw_bipush (v := -4) dX6_instead_14 (by decide) ?_
          refine sw_icmp_ne (tgt := 103) dX6_instead_16 (by decide) (fun _ => ?_) (fun h => absurd h (e3))
          refine sw_iload_n dX6_instead_103 rfl ?_
          refine sw_iret dX6_instead_104 rfl rfl ?_ ?_
          all_goals (first | with_reducible rfl | (rfl))
        · refine sw_iload_n dX6_instead_5 rfl ?_
          refine sw_aload_n dX6_instead_6 rfl ?_
          refine sw_getI dX6_instead_7 fl_X6_84 rfl rfl ?_
          refine sw_icmp_ge (tgt := 103) dX6_instead_10 (by decide) (fun _ => ?_) (fun h => absurd ((by rw [q_in2_off (by decide), hN.1, sm_i1, ← nI_succ, nI_leI (by omega) (by omega)]; omega)) h)
          refine sw_iload_n dX6_instead_103 rfl ?_
          refine sw_iret dX6_instead_104 rfl rfl ?_ ?_
          all_goals (first | with_reducible rfl | (rfl))
    · have e2 : q_in1 np nc i τ = (-4, τ) := by rw [q_in1, if_neg ha]
      refine sw_iload dX6_instead_29 rfl ?_
      refine sw_bipush (v := 6) dX6_instead_31 (by decide) ?_
      refine sw_icmp_ge (tgt := 90) dX6_instead_33 (by decide) (fun h => absurd h (by decide)) (fun _ => ?_)
      refine sw_iload_n dX6_instead_36 rfl ?_
      refine sw_bipush (v := -4) dX6_instead_37 (by decide) ?_
      refine sw_icmp_ne (tgt := 90) dX6_instead_39 (by decide) (fun h => absurd (rfl) h) (fun _ => ?_)
      refine sw_aload_n dX6_instead_42 rfl ?_
      refine sw_getR (j := 117) dX6_instead_43 fl_X6_28 rfl rfl ?_
      refine sw_iload_n dX6_instead_46 rfl ?_
      refine sw_ialdR dX6_instead_47 rfl (vp_in_nI (by omega) (by decide)) ?_
      refine sw_if_ne (tgt := 90) dX6_instead_48 (by decide) (fun _ => ?_) (fun h => absurd h (ha))
      have e3 : (q_in1 np nc i τ).1 = -4 := by rw [e2]
      refine sw_st (σ2 := (q_in1 np nc i τ).2) (by rw [e2]) ?_
      refine sw_aload_n dX6_instead_90 rfl ?_
      refine sw_getR (j := 116) dX6_instead_91 fl_X6_25 rfl rfl ?_
      refine sw_iload_n dX6_instead_94 rfl ?_
      refine sw_iload_n dX6_instead_95 rfl ?_
      refine sw_iastR dX6_instead_96 rfl (vp_in_nI (by omega) (by decide)) ?_
      refine sw_iinc dX6_instead_97 rfl rfl (by decide) rfl ?_
      refine sw_goto (tgt := 5) dX6_instead_100 (by decide) ?_
      have e1 : q_ins np nc (n + 1) i τ = q_ins np nc n (i + 1) (q_in2 np nc i τ) := by rw [q_ins, if_pos e3]
      rw [e1]
      refine sw_lv (ih (i + 1) _ (by omega) ⟨by rw [q_in2_off (by decide)]; exact hN.1, hN.2⟩ ⟨by rw [q_in2_off (by decide)]; exact hP.1, hP.2⟩ ⟨by rw [q_in2_off (by decide)]; exact hS.1, hS.2⟩) (And.intro rfl (And.intro rfl (And.intro (sm_e rfl ?_) trivial)))
      all_goals (rw [sm_i1, nI_succ])

set_option maxHeartbeats 2000000 in
theorem c_p_instead {σ : sm_St} {np : Nat} (hN : q_N σ np) {nc : Nat} (hC : q_C σ nc) (h0 : q_0 σ)  : sm_C yX6_instead cX6_instead 5 (some .int) 8 [.ref 110] σ (some (.int ((p_instead σ np nc).1))) (p_instead σ np nc).2 := by
  refine sm_C.of (own := RX6) (by decide) rfl (Nat.le_of_ble_eq_true rfl) ?_
  have hP := q_P_of hN h0
  have hS := q_S_of hC h0
  show sm_W RX6 cX6_instead 5 (some .int) 8 (some (.int ((p_instead σ np nc).1))) (p_instead σ np nc).2 0 [(0, .ref 110)] [] σ
  refine sw_bipush (v := -4) dX6_instead_0 (by decide) ?_
  refine sw_istore_n dX6_instead_2 (by decide) rfl ?_
  refine sw_iconst (v := 0) dX6_instead_3 (by decide) ?_
  refine sw_istore_n dX6_instead_4 (by decide) rfl ?_
  refine sw_lv (l_p_instead np 0 σ (by omega) hN hP hS) (And.intro rfl (And.intro rfl (And.intro rfl trivial)))

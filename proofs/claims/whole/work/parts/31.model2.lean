theorem q_nearest_vin {V : Nat → Nat → Int32} {n : Nat} {s : Int32} (h : ¬ q_nearest V n s = -4) (hn : n ≤ 6) : vp_in (q_nearest V n s) 6 := f_near_vin h hn
theorem q_str_ne {V : Nat → Nat → Int32} {n : Nat} {c : Int32} (h : ¬ q_str V n c = 0) : ¬ q_nearest V n (r_at (V 6) 8 c) = -4 := by
  intro h1
  apply h
  unfold q_str
  rw [if_pos h1]

set_option maxHeartbeats 1000000 in
theorem c_q_strength {σ : sm_St} {np : Nat} (c : Int32) (hP : q_P σ np) (hc : vp_in c 8) : sm_C yX6_strength cX6_strength 3 (some .int) 3 [.ref 110, .int c] σ (some (.int (q_str (q_V σ) np c))) σ := by
  refine sm_C.of (own := RX6) (by decide) rfl (Nat.le_of_ble_eq_true rfl) ?_
  show sm_W RX6 cX6_strength 3 (some .int) 3 (some (.int (q_str (q_V σ) np c))) σ 0 [(0, .ref 110), (1, .int c)] [] σ
  refine sw_aload_n dX6_strength_0 rfl ?_
  refine sw_aload_n dX6_strength_1 rfl ?_
  refine sw_getR (j := 112) dX6_strength_2 fl_X6_13 rfl rfl ?_
  refine sw_iload_n dX6_strength_5 rfl ?_
  refine sw_ialdR dX6_strength_6 rfl hc ?_
  refine sw_callV dX6_strength_7 lV_X6_159 (c_q_nearest _ hP) rfl rfl rfl rfl (Nat.le_of_ble_eq_true rfl) (Nat.le_of_ble_eq_true rfl) ?_
  refine sw_istore_n dX6_strength_10 (by decide) rfl ?_
  refine sw_iload_n dX6_strength_11 rfl ?_
  refine sw_bipush (v := -4) dX6_strength_12 (by decide) ?_
  refine sw_icmp_ne (tgt := 21) dX6_strength_14 (by decide) (fun h14 => ?_) (fun h14 => ?_)
  · refine sw_aload_n dX6_strength_21 rfl ?_
    refine sw_getR (j := 111) dX6_strength_22 fl_X6_9 rfl rfl ?_
    refine sw_iload_n dX6_strength_25 rfl ?_
    refine sw_ialdR dX6_strength_26 rfl hc ?_
    refine sw_aload_n dX6_strength_27 rfl ?_
    refine sw_getR (j := 113) dX6_strength_28 fl_X6_16 rfl rfl ?_
    refine sw_iload_n dX6_strength_31 rfl ?_
    refine sw_ialdR dX6_strength_32 rfl hc ?_
    refine sw_aload_n dX6_strength_33 rfl ?_
    refine sw_iload_n dX6_strength_34 rfl ?_
    refine sw_callV dX6_strength_35 lV_X6_156 (c_q_farTo _ (q_nearest_vin h14 hP.2)) rfl rfl rfl rfl (Nat.le_of_ble_eq_true rfl) (Nat.le_of_ble_eq_true rfl) ?_
    refine sw_callS dX6_strength_38 lS_X6_162 (c_q_by _ _ _) rfl rfl (Nat.le_of_ble_eq_true rfl) (Nat.le_of_ble_eq_true rfl) ?_
    refine sw_iret dX6_strength_41 rfl rfl ?_ ?_
    all_goals (first | with_reducible rfl | (simp_all [-Int32.not_lt, -Int32.not_le, sm_b_e0, sm_b_e1, sm_b_0e, sm_b_1e, q_str, q_V]))
  · refine sw_iconst (v := 0) dX6_strength_17 (by decide) ?_
    refine sw_goto (tgt := 41) dX6_strength_18 (by decide) ?_
    refine sw_iret dX6_strength_41 rfl rfl ?_ ?_
    all_goals (first | with_reducible rfl | (simp_all [-Int32.not_lt, -Int32.not_le, sm_b_e0, sm_b_e1, sm_b_0e, sm_b_1e, q_str, q_V]))

set_option maxHeartbeats 1000000 in
theorem c_q_towards {σ : sm_St} {np : Nat} (c : Int32) (hP : q_P σ np) (hc : vp_in c 8) : sm_C yX6_towards cX6_towards 5 (some .int) 4 [.ref 110, .int c] σ (some (.int (q_to (q_V σ) np c))) σ := by
  refine sm_C.of (own := RX6) (by decide) rfl (Nat.le_of_ble_eq_true rfl) ?_
  show sm_W RX6 cX6_towards 5 (some .int) 4 (some (.int (q_to (q_V σ) np c))) σ 0 [(0, .ref 110), (1, .int c)] [] σ
  refine sw_aload_n dX6_towards_0 rfl ?_
  refine sw_iload_n dX6_towards_1 rfl ?_
  refine sw_callV dX6_towards_2 lV_X6_166 (c_q_strength _ hP hc) rfl rfl rfl rfl (Nat.le_of_ble_eq_true rfl) (Nat.le_of_ble_eq_true rfl) ?_
  refine sw_if_ne (tgt := 10) dX6_towards_5 (by decide) (fun h5 => ?_) (fun h5 => ?_)
  · refine sw_aload_n dX6_towards_10 rfl ?_
    refine sw_aload_n dX6_towards_11 rfl ?_
    refine sw_getR (j := 112) dX6_towards_12 fl_X6_13 rfl rfl ?_
    refine sw_iload_n dX6_towards_15 rfl ?_
    refine sw_ialdR dX6_towards_16 rfl hc ?_
    refine sw_callV dX6_towards_17 lV_X6_159 (c_q_nearest _ hP) rfl rfl rfl rfl (Nat.le_of_ble_eq_true rfl) (Nat.le_of_ble_eq_true rfl) ?_
    refine sw_istore_n dX6_towards_20 (by decide) rfl ?_
    refine sw_aload_n dX6_towards_21 rfl ?_
    refine sw_getR (j := 114) dX6_towards_22 fl_X6_19 rfl rfl ?_
    refine sw_iload_n dX6_towards_25 rfl ?_
    refine sw_ialdR dX6_towards_26 rfl (q_nearest_vin (q_str_ne h5) hP.2) ?_
    refine sw_aload_n dX6_towards_27 rfl ?_
    refine sw_getI dX6_towards_28 fl_X6_61 rfl rfl ?_
    refine sw_isub dX6_towards_31 ?_
    refine sw_istore_n dX6_towards_32 (by decide) rfl ?_
    refine sw_aload_n dX6_towards_33 rfl ?_
    refine sw_getR (j := 115) dX6_towards_34 fl_X6_22 rfl rfl ?_
    refine sw_iload_n dX6_towards_37 rfl ?_
    refine sw_ialdR dX6_towards_38 rfl (q_nearest_vin (q_str_ne h5) hP.2) ?_
    refine sw_aload_n dX6_towards_39 rfl ?_
    refine sw_getI dX6_towards_40 fl_X6_65 rfl rfl ?_
    refine sw_isub dX6_towards_43 ?_
    refine sw_istore dX6_towards_44 (by decide) rfl ?_
    refine sw_iload_n dX6_towards_46 rfl ?_
    refine sw_callS dX6_towards_47 lS_X6_149 (c_q_far _) rfl rfl (Nat.le_of_ble_eq_true rfl) (Nat.le_of_ble_eq_true rfl) ?_
    refine sw_iload dX6_towards_50 rfl ?_
    refine sw_callS dX6_towards_52 lS_X6_149 (c_q_far _) rfl rfl (Nat.le_of_ble_eq_true rfl) (Nat.le_of_ble_eq_true rfl) ?_
    refine sw_icmp_lt (tgt := 70) dX6_towards_55 (by decide) (fun h55 => ?_) (fun h55 => ?_)
    · refine sw_iload dX6_towards_70 rfl ?_
      refine sw_if_le (tgt := 79) dX6_towards_72 (by decide) (fun h72 => ?_) (fun h72 => ?_)
      · refine sw_iconst (v := 1) dX6_towards_79 (by decide) ?_
        refine sw_iret dX6_towards_80 rfl rfl ?_ ?_
        all_goals (first | with_reducible rfl | (simp_all [-Int32.not_lt, -Int32.not_le, sm_b_e0, sm_b_e1, sm_b_0e, sm_b_1e, q_to, q_V, f_dir]))
      · refine sw_iconst (v := 3) dX6_towards_75 (by decide) ?_
        refine sw_goto (tgt := 80) dX6_towards_76 (by decide) ?_
        refine sw_iret dX6_towards_80 rfl rfl ?_ ?_
        all_goals (first | with_reducible rfl | (simp_all [-Int32.not_lt, -Int32.not_le, sm_b_e0, sm_b_e1, sm_b_0e, sm_b_1e, q_to, q_V, f_dir]))
    · refine sw_iload_n dX6_towards_58 rfl ?_
      refine sw_if_le (tgt := 66) dX6_towards_59 (by decide) (fun h59 => ?_) (fun h59 => ?_)
      · refine sw_iconst (v := 4) dX6_towards_66 (by decide) ?_
        refine sw_goto (tgt := 80) dX6_towards_67 (by decide) ?_
        refine sw_iret dX6_towards_80 rfl rfl ?_ ?_
        all_goals (first | with_reducible rfl | (simp_all [-Int32.not_lt, -Int32.not_le, sm_b_e0, sm_b_e1, sm_b_0e, sm_b_1e, q_to, q_V, f_dir]))
      · refine sw_iconst (v := 2) dX6_towards_62 (by decide) ?_
        refine sw_goto (tgt := 80) dX6_towards_63 (by decide) ?_
        refine sw_iret dX6_towards_80 rfl rfl ?_ ?_
        all_goals (first | with_reducible rfl | (simp_all [-Int32.not_lt, -Int32.not_le, sm_b_e0, sm_b_e1, sm_b_0e, sm_b_1e, q_to, q_V, f_dir]))
  · refine sw_iconst (v := 0) dX6_towards_8 (by decide) ?_
    refine sw_iret dX6_towards_9 rfl rfl ?_ ?_
    all_goals (first | with_reducible rfl | (simp_all [-Int32.not_lt, -Int32.not_le, sm_b_e0, sm_b_e1, sm_b_0e, sm_b_1e, q_to, q_V, f_dir]))

set_option maxHeartbeats 1000000 in
theorem l_q_pullBy {σ : sm_St} {np nc : Nat} (hP : q_P σ np) (hS : q_S σ nc) {a b : Int32} : ∀ n i : Nat, nc - i < n → i ≤ nc → sm_W RX6 cX6_pullBy 6 (some .int) 5 (some (.int (q_pull (q_V σ) np a b nc))) σ 36 [(0, .ref 110), (1, .int a), (2, .int b), (3, .int (q_pull (q_V σ) np a b i)), (4, .int (nI i))] [] σ := by
  have hn8 := hS.2
  intro n
  induction n with
  | zero => intro i h1 h2; omega
  | succ n ih =>
    intro i h1 h2
    refine sw_iload dX6_pullBy_36 rfl ?_
    refine sw_aload_n dX6_pullBy_38 rfl ?_
    refine sw_getI dX6_pullBy_39 fl_X6_91 rfl rfl ?_
    refine sw_aload_n dX6_pullBy_42 rfl ?_
    refine sw_getI dX6_pullBy_43 fl_X6_169 rfl rfl ?_
    refine sw_iadd dX6_pullBy_46 ?_
    refine sw_icmp_ge (tgt := 99) dX6_pullBy_47 (by decide) (fun h47 => ?_) (fun h47 => ?_)
    · have hge : nc ≤ i := by rw [hS.1, nI_leI (by omega) (by omega)] at h47; exact h47
      refine sw_iload_n dX6_pullBy_99 rfl ?_
      refine sw_iret dX6_pullBy_100 rfl rfl ?_ ?_
      all_goals (first | with_reducible rfl | (rw [show i = nc by omega]))
    · have hlt : i < nc := by rw [hS.1, nI_leI (by omega) (by omega)] at h47; omega
      have hc : vp_in (nI i) 8 := vp_in_nI (by omega) (by decide)
      refine sw_aload_n dX6_pullBy_50 rfl ?_
      refine sw_iload dX6_pullBy_51 rfl ?_
      refine sw_callV dX6_pullBy_53 lV_X6_172 (c_q_towards _ hP hc) rfl rfl rfl rfl (Nat.le_of_ble_eq_true rfl) (Nat.le_of_ble_eq_true rfl) ?_
      refine sw_istore dX6_pullBy_56 (by decide) rfl ?_
      refine sw_iload_n dX6_pullBy_58 rfl ?_
      refine sw_iload dX6_pullBy_59 rfl ?_
      refine sw_iload_n dX6_pullBy_61 rfl ?_
      refine sw_icmp_ne (tgt := 74) dX6_pullBy_62 (by decide) (fun h62 => ?_) (fun h62 => ?_)
      · refine sw_iload dX6_pullBy_74 rfl ?_
        refine sw_iload_n dX6_pullBy_76 rfl ?_
        refine sw_icmp_ne (tgt := 90) dX6_pullBy_77 (by decide) (fun h77 => ?_) (fun h77 => ?_)
        · refine sw_iconst (v := 0) dX6_pullBy_90 (by decide) ?_
          refine sw_iadd dX6_pullBy_91 ?_
          refine sw_istore_n dX6_pullBy_92 (by decide) rfl ?_
          refine sw_iinc dX6_pullBy_93 rfl rfl (by decide) rfl ?_
          refine sw_goto (tgt := 36) dX6_pullBy_96 (by decide) ?_
          refine sw_lv (ih (i + 1) (by omega) (by omega)) (And.intro rfl (And.intro rfl (And.intro rfl (And.intro (sm_e rfl ?_) (And.intro (sm_e rfl ?_) trivial)))))
          all_goals (first | (rw [sm_i1, nI_succ]; done) | (rw [q_pull, if_neg h62, if_neg h77]))
        · refine sw_aload_n dX6_pullBy_80 rfl ?_
          refine sw_iload dX6_pullBy_81 rfl ?_
          refine sw_callV dX6_pullBy_83 lV_X6_166 (c_q_strength _ hP hc) rfl rfl rfl rfl (Nat.le_of_ble_eq_true rfl) (Nat.le_of_ble_eq_true rfl) ?_
          refine sw_ineg dX6_pullBy_86 ?_
          refine sw_goto (tgt := 91) dX6_pullBy_87 (by decide) ?_
          refine sw_iadd dX6_pullBy_91 ?_
          refine sw_istore_n dX6_pullBy_92 (by decide) rfl ?_
          refine sw_iinc dX6_pullBy_93 rfl rfl (by decide) rfl ?_
          refine sw_goto (tgt := 36) dX6_pullBy_96 (by decide) ?_
          refine sw_lv (ih (i + 1) (by omega) (by omega)) (And.intro rfl (And.intro rfl (And.intro rfl (And.intro (sm_e rfl ?_) (And.intro (sm_e rfl ?_) trivial)))))
          all_goals (first | (rw [sm_i1, nI_succ]; done) | (rw [q_pull, if_neg h62, if_pos h77]))
      · refine sw_aload_n dX6_pullBy_65 rfl ?_
        refine sw_iload dX6_pullBy_66 rfl ?_
        refine sw_callV dX6_pullBy_68 lV_X6_166 (c_q_strength _ hP hc) rfl rfl rfl rfl (Nat.le_of_ble_eq_true rfl) (Nat.le_of_ble_eq_true rfl) ?_
        refine sw_goto (tgt := 91) dX6_pullBy_71 (by decide) ?_
        refine sw_iadd dX6_pullBy_91 ?_
        refine sw_istore_n dX6_pullBy_92 (by decide) rfl ?_
        refine sw_iinc dX6_pullBy_93 rfl rfl (by decide) rfl ?_
        refine sw_goto (tgt := 36) dX6_pullBy_96 (by decide) ?_
        refine sw_lv (ih (i + 1) (by omega) (by omega)) (And.intro rfl (And.intro rfl (And.intro rfl (And.intro (sm_e rfl ?_) (And.intro (sm_e rfl ?_) trivial)))))
        all_goals (first | (rw [sm_i1, nI_succ]; done) | (rw [q_pull, if_pos h62]))

set_option maxHeartbeats 1000000 in
theorem c_q_pullBy {σ : sm_St} {np nc : Nat} (a b : Int32) (hP : q_P σ np) (hS : q_S σ nc) : sm_C yX6_pullBy cX6_pullBy 6 (some .int) 5 [.ref 110, .int a, .int b] σ (some (.int (q_pull (q_V σ) np a b nc))) σ := by
  refine sm_C.of (own := RX6) (by decide) rfl (Nat.le_of_ble_eq_true rfl) ?_
  show sm_W RX6 cX6_pullBy 6 (some .int) 5 (some (.int (q_pull (q_V σ) np a b nc))) σ 0 [(0, .ref 110), (1, .int a), (2, .int b)] [] σ
  refine sw_aload_n dX6_pullBy_0 rfl ?_
  refine sw_getI dX6_pullBy_1 fl_X6_71 rfl rfl ?_
  refine sw_iload_n dX6_pullBy_4 rfl ?_
  refine sw_icmp_ne (tgt := 15) dX6_pullBy_5 (by decide) (fun h5 => ?_) (fun h5 => ?_)
  · refine sw_aload_n dX6_pullBy_15 rfl ?_
    refine sw_getI dX6_pullBy_16 fl_X6_71 rfl rfl ?_
    refine sw_iload_n dX6_pullBy_19 rfl ?_
    refine sw_icmp_ne (tgt := 31) dX6_pullBy_20 (by decide) (fun h20 => ?_) (fun h20 => ?_)
    · refine sw_iconst (v := 0) dX6_pullBy_31 (by decide) ?_
      refine sw_istore_n dX6_pullBy_32 (by decide) rfl ?_
      refine sw_iconst (v := 0) dX6_pullBy_33 (by decide) ?_
      refine sw_istore dX6_pullBy_34 (by decide) rfl ?_
      refine sw_lv (l_q_pullBy hP hS _ 0 (Nat.lt_succ_self _) (Nat.zero_le _)) (And.intro rfl (And.intro rfl (And.intro rfl (And.intro (sm_e rfl ?_) (And.intro (sm_e rfl ?_) trivial)))))
      all_goals (first | rfl | (simp_all [q_pull, q_V]; done))
    · refine sw_aload_n dX6_pullBy_23 rfl ?_
      refine sw_getI dX6_pullBy_24 fl_X6_74 rfl rfl ?_
      refine sw_ineg dX6_pullBy_27 ?_
      refine sw_goto (tgt := 32) dX6_pullBy_28 (by decide) ?_
      refine sw_istore_n dX6_pullBy_32 (by decide) rfl ?_
      refine sw_iconst (v := 0) dX6_pullBy_33 (by decide) ?_
      refine sw_istore dX6_pullBy_34 (by decide) rfl ?_
      refine sw_lv (l_q_pullBy hP hS _ 0 (Nat.lt_succ_self _) (Nat.zero_le _)) (And.intro rfl (And.intro rfl (And.intro rfl (And.intro (sm_e rfl ?_) (And.intro (sm_e rfl ?_) trivial)))))
      all_goals (first | rfl | (simp_all [q_pull, q_V]; done))
  · refine sw_aload_n dX6_pullBy_8 rfl ?_
    refine sw_getI dX6_pullBy_9 fl_X6_74 rfl rfl ?_
    refine sw_goto (tgt := 32) dX6_pullBy_12 (by decide) ?_
    refine sw_istore_n dX6_pullBy_32 (by decide) rfl ?_
    refine sw_iconst (v := 0) dX6_pullBy_33 (by decide) ?_
    refine sw_istore dX6_pullBy_34 (by decide) rfl ?_
    refine sw_lv (l_q_pullBy hP hS _ 0 (Nat.lt_succ_self _) (Nat.zero_le _)) (And.intro rfl (And.intro rfl (And.intro rfl (And.intro (sm_e rfl ?_) (And.intro (sm_e rfl ?_) trivial)))))
    all_goals (first | rfl | (simp_all [q_pull, q_V]; done))

set_option maxHeartbeats 1000000 in
theorem c_q_goesTo {σ : sm_St} {np nc : Nat} (hP : q_P σ np) (hS : q_S σ nc) : sm_C yX6_goesTo cX6_goesTo 6 (some .int) 6 [.ref 110] σ (some (.int (q_goes (q_V σ) np nc))) σ := by
  refine sm_C.of (own := RX6) (by decide) rfl (Nat.le_of_ble_eq_true rfl) ?_
  show sm_W RX6 cX6_goesTo 6 (some .int) 6 (some (.int (q_goes (q_V σ) np nc))) σ 0 [(0, .ref 110)] [] σ
  refine sw_aload_n dX6_goesTo_0 rfl ?_
  refine sw_iconst (v := 2) dX6_goesTo_1 (by decide) ?_
  refine sw_iconst (v := 4) dX6_goesTo_2 (by decide) ?_
  refine sw_callV dX6_goesTo_3 lV_X6_175 (c_q_pullBy _ _ hP hS) rfl rfl rfl rfl (Nat.le_of_ble_eq_true rfl) (Nat.le_of_ble_eq_true rfl) ?_
  refine sw_istore_n dX6_goesTo_6 (by decide) rfl ?_
  refine sw_aload_n dX6_goesTo_7 rfl ?_
  refine sw_iconst (v := 3) dX6_goesTo_8 (by decide) ?_
  refine sw_iconst (v := 1) dX6_goesTo_9 (by decide) ?_
  refine sw_callV dX6_goesTo_10 lV_X6_175 (c_q_pullBy _ _ hP hS) rfl rfl rfl rfl (Nat.le_of_ble_eq_true rfl) (Nat.le_of_ble_eq_true rfl) ?_
  refine sw_istore_n dX6_goesTo_13 (by decide) rfl ?_
  refine sw_iload_n dX6_goesTo_14 rfl ?_
  refine sw_callS dX6_goesTo_15 lS_X6_149 (c_q_far _) rfl rfl (Nat.le_of_ble_eq_true rfl) (Nat.le_of_ble_eq_true rfl) ?_
  refine sw_aload_n dX6_goesTo_18 rfl ?_
  refine sw_getI dX6_goesTo_19 fl_X6_68 rfl rfl ?_
  refine sw_icmp_gt (tgt := 38) dX6_goesTo_22 (by decide) (fun h22 => ?_) (fun h22 => ?_)
  · refine sw_iload_n dX6_goesTo_38 rfl ?_
    refine sw_callS dX6_goesTo_39 lS_X6_149 (c_q_far _) rfl rfl (Nat.le_of_ble_eq_true rfl) (Nat.le_of_ble_eq_true rfl) ?_
    refine sw_iload_n dX6_goesTo_42 rfl ?_
    refine sw_callS dX6_goesTo_43 lS_X6_149 (c_q_far _) rfl rfl (Nat.le_of_ble_eq_true rfl) (Nat.le_of_ble_eq_true rfl) ?_
    refine sw_icmp_lt (tgt := 61) dX6_goesTo_46 (by decide) (fun h46 => ?_) (fun h46 => ?_)
    · refine sw_iload_n dX6_goesTo_61 rfl ?_
      refine sw_if_le (tgt := 69) dX6_goesTo_62 (by decide) (fun h62 => ?_) (fun h62 => ?_)
      · refine sw_iconst (v := 1) dX6_goesTo_69 (by decide) ?_
        refine sw_istore_n dX6_goesTo_70 (by decide) rfl ?_
        refine sw_aload_n dX6_goesTo_71 rfl ?_
        refine sw_getI dX6_goesTo_72 fl_X6_61 rfl rfl ?_
        refine sw_iload_n dX6_goesTo_75 rfl ?_
        refine sw_iconst (v := 2) dX6_goesTo_76 (by decide) ?_
        refine sw_icmp_ne (tgt := 84) dX6_goesTo_77 (by decide) (fun _ => ?_) (fun h => absurd h (by decide))
        refine sw_iload_n dX6_goesTo_84 rfl ?_
        refine sw_iconst (v := 4) dX6_goesTo_85 (by decide) ?_
        refine sw_icmp_ne (tgt := 93) dX6_goesTo_86 (by decide) (fun _ => ?_) (fun h => absurd h (by decide))
        refine sw_iconst (v := 0) dX6_goesTo_93 (by decide) ?_
        refine sw_iadd dX6_goesTo_94 ?_
        refine sw_istore dX6_goesTo_95 (by decide) rfl ?_
        refine sw_aload_n dX6_goesTo_97 rfl ?_
        refine sw_getI dX6_goesTo_98 fl_X6_65 rfl rfl ?_
        refine sw_iload_n dX6_goesTo_101 rfl ?_
        refine sw_iconst (v := 3) dX6_goesTo_102 (by decide) ?_
        refine sw_icmp_ne (tgt := 110) dX6_goesTo_103 (by decide) (fun _ => ?_) (fun h => absurd h (by decide))
        refine sw_iload_n dX6_goesTo_110 rfl ?_
        refine sw_iconst (v := 1) dX6_goesTo_111 (by decide) ?_
        refine sw_icmp_ne (tgt := 119) dX6_goesTo_112 (by decide) (fun h => absurd (by decide) h) (fun _ => ?_)
        refine sw_iconst (v := -1) dX6_goesTo_115 (by decide) ?_
        refine sw_goto (tgt := 120) dX6_goesTo_116 (by decide) ?_
        refine sw_iadd dX6_goesTo_120 ?_
        refine sw_istore dX6_goesTo_121 (by decide) rfl ?_
        refine sw_iload dX6_goesTo_123 rfl ?_
        refine sw_iload dX6_goesTo_125 rfl ?_
        refine sw_callS dX6_goesTo_127 lS_X6_179 (c_q_isCell _ _) rfl rfl (Nat.le_of_ble_eq_true rfl) (Nat.le_of_ble_eq_true rfl) ?_
        refine sw_if_eq (tgt := 137) dX6_goesTo_130 (by decide) (fun h130 => ?_) (fun h130 => ?_)
        · refine sw_iconst (v := 0) dX6_goesTo_137 (by decide) ?_
          refine sw_iret dX6_goesTo_138 rfl rfl ?_ ?_
          all_goals (first | with_reducible rfl | (simp_all [-Int32.not_lt, -Int32.not_le, sm_b_e0, sm_b_e1, sm_b_0e, sm_b_1e, q_goes, q_V, f_dir, q_dx, q_dy]))
        · refine sw_iload_n dX6_goesTo_133 rfl ?_
          refine sw_goto (tgt := 138) dX6_goesTo_134 (by decide) ?_
          refine sw_iret dX6_goesTo_138 rfl rfl ?_ ?_
          all_goals (first | with_reducible rfl | (simp_all [-Int32.not_lt, -Int32.not_le, sm_b_e0, sm_b_e1, sm_b_0e, sm_b_1e, q_goes, q_V, f_dir, q_dx, q_dy]))
      · refine sw_iconst (v := 3) dX6_goesTo_65 (by decide) ?_
        refine sw_goto (tgt := 70) dX6_goesTo_66 (by decide) ?_
        refine sw_istore_n dX6_goesTo_70 (by decide) rfl ?_
        refine sw_aload_n dX6_goesTo_71 rfl ?_
        refine sw_getI dX6_goesTo_72 fl_X6_61 rfl rfl ?_
        refine sw_iload_n dX6_goesTo_75 rfl ?_
        refine sw_iconst (v := 2) dX6_goesTo_76 (by decide) ?_
        refine sw_icmp_ne (tgt := 84) dX6_goesTo_77 (by decide) (fun _ => ?_) (fun h => absurd h (by decide))
        refine sw_iload_n dX6_goesTo_84 rfl ?_
        refine sw_iconst (v := 4) dX6_goesTo_85 (by decide) ?_
        refine sw_icmp_ne (tgt := 93) dX6_goesTo_86 (by decide) (fun _ => ?_) (fun h => absurd h (by decide))
        refine sw_iconst (v := 0) dX6_goesTo_93 (by decide) ?_
        refine sw_iadd dX6_goesTo_94 ?_
        refine sw_istore dX6_goesTo_95 (by decide) rfl ?_
        refine sw_aload_n dX6_goesTo_97 rfl ?_
        refine sw_getI dX6_goesTo_98 fl_X6_65 rfl rfl ?_
        refine sw_iload_n dX6_goesTo_101 rfl ?_
        refine sw_iconst (v := 3) dX6_goesTo_102 (by decide) ?_
        refine sw_icmp_ne (tgt := 110) dX6_goesTo_103 (by decide) (fun h => absurd (by decide) h) (fun _ => ?_)
        refine sw_iconst (v := 1) dX6_goesTo_106 (by decide) ?_
        refine sw_goto (tgt := 120) dX6_goesTo_107 (by decide) ?_
        refine sw_iadd dX6_goesTo_120 ?_
        refine sw_istore dX6_goesTo_121 (by decide) rfl ?_
        refine sw_iload dX6_goesTo_123 rfl ?_
        refine sw_iload dX6_goesTo_125 rfl ?_
        refine sw_callS dX6_goesTo_127 lS_X6_179 (c_q_isCell _ _) rfl rfl (Nat.le_of_ble_eq_true rfl) (Nat.le_of_ble_eq_true rfl) ?_
        refine sw_if_eq (tgt := 137) dX6_goesTo_130 (by decide) (fun h130 => ?_) (fun h130 => ?_)
        · refine sw_iconst (v := 0) dX6_goesTo_137 (by decide) ?_
          refine sw_iret dX6_goesTo_138 rfl rfl ?_ ?_
          all_goals (first | with_reducible rfl | (simp_all [-Int32.not_lt, -Int32.not_le, sm_b_e0, sm_b_e1, sm_b_0e, sm_b_1e, q_goes, q_V, f_dir, q_dx, q_dy]))
        · refine sw_iload_n dX6_goesTo_133 rfl ?_
          refine sw_goto (tgt := 138) dX6_goesTo_134 (by decide) ?_
          refine sw_iret dX6_goesTo_138 rfl rfl ?_ ?_
          all_goals (first | with_reducible rfl | (simp_all [-Int32.not_lt, -Int32.not_le, sm_b_e0, sm_b_e1, sm_b_0e, sm_b_1e, q_goes, q_V, f_dir, q_dx, q_dy]))
    · refine sw_iload_n dX6_goesTo_49 rfl ?_
      refine sw_if_le (tgt := 57) dX6_goesTo_50 (by decide) (fun h50 => ?_) (fun h50 => ?_)
      · refine sw_iconst (v := 4) dX6_goesTo_57 (by decide) ?_
        refine sw_goto (tgt := 70) dX6_goesTo_58 (by decide) ?_
        refine sw_istore_n dX6_goesTo_70 (by decide) rfl ?_
        refine sw_aload_n dX6_goesTo_71 rfl ?_
        refine sw_getI dX6_goesTo_72 fl_X6_61 rfl rfl ?_
        refine sw_iload_n dX6_goesTo_75 rfl ?_
        refine sw_iconst (v := 2) dX6_goesTo_76 (by decide) ?_
        refine sw_icmp_ne (tgt := 84) dX6_goesTo_77 (by decide) (fun _ => ?_) (fun h => absurd h (by decide))
        refine sw_iload_n dX6_goesTo_84 rfl ?_
        refine sw_iconst (v := 4) dX6_goesTo_85 (by decide) ?_
        refine sw_icmp_ne (tgt := 93) dX6_goesTo_86 (by decide) (fun h => absurd (by decide) h) (fun _ => ?_)
        refine sw_iconst (v := -1) dX6_goesTo_89 (by decide) ?_
        refine sw_goto (tgt := 94) dX6_goesTo_90 (by decide) ?_
        refine sw_iadd dX6_goesTo_94 ?_
        refine sw_istore dX6_goesTo_95 (by decide) rfl ?_
        refine sw_aload_n dX6_goesTo_97 rfl ?_
        refine sw_getI dX6_goesTo_98 fl_X6_65 rfl rfl ?_
        refine sw_iload_n dX6_goesTo_101 rfl ?_
        refine sw_iconst (v := 3) dX6_goesTo_102 (by decide) ?_
        refine sw_icmp_ne (tgt := 110) dX6_goesTo_103 (by decide) (fun _ => ?_) (fun h => absurd h (by decide))
        refine sw_iload_n dX6_goesTo_110 rfl ?_
        refine sw_iconst (v := 1) dX6_goesTo_111 (by decide) ?_
        refine sw_icmp_ne (tgt := 119) dX6_goesTo_112 (by decide) (fun _ => ?_) (fun h => absurd h (by decide))
        refine sw_iconst (v := 0) dX6_goesTo_119 (by decide) ?_
        refine sw_iadd dX6_goesTo_120 ?_
        refine sw_istore dX6_goesTo_121 (by decide) rfl ?_
        refine sw_iload dX6_goesTo_123 rfl ?_
        refine sw_iload dX6_goesTo_125 rfl ?_
        refine sw_callS dX6_goesTo_127 lS_X6_179 (c_q_isCell _ _) rfl rfl (Nat.le_of_ble_eq_true rfl) (Nat.le_of_ble_eq_true rfl) ?_
        refine sw_if_eq (tgt := 137) dX6_goesTo_130 (by decide) (fun h130 => ?_) (fun h130 => ?_)
        · refine sw_iconst (v := 0) dX6_goesTo_137 (by decide) ?_
          refine sw_iret dX6_goesTo_138 rfl rfl ?_ ?_
          all_goals (first | with_reducible rfl | (simp_all [-Int32.not_lt, -Int32.not_le, sm_b_e0, sm_b_e1, sm_b_0e, sm_b_1e, q_goes, q_V, f_dir, q_dx, q_dy]))
        · refine sw_iload_n dX6_goesTo_133 rfl ?_
          refine sw_goto (tgt := 138) dX6_goesTo_134 (by decide) ?_
          refine sw_iret dX6_goesTo_138 rfl rfl ?_ ?_
          all_goals (first | with_reducible rfl | (simp_all [-Int32.not_lt, -Int32.not_le, sm_b_e0, sm_b_e1, sm_b_0e, sm_b_1e, q_goes, q_V, f_dir, q_dx, q_dy]))
      · refine sw_iconst (v := 2) dX6_goesTo_53 (by decide) ?_
        refine sw_goto (tgt := 70) dX6_goesTo_54 (by decide) ?_
        refine sw_istore_n dX6_goesTo_70 (by decide) rfl ?_
        refine sw_aload_n dX6_goesTo_71 rfl ?_
        refine sw_getI dX6_goesTo_72 fl_X6_61 rfl rfl ?_
        refine sw_iload_n dX6_goesTo_75 rfl ?_
        refine sw_iconst (v := 2) dX6_goesTo_76 (by decide) ?_
        refine sw_icmp_ne (tgt := 84) dX6_goesTo_77 (by decide) (fun h => absurd (by decide) h) (fun _ => ?_)
        refine sw_iconst (v := 1) dX6_goesTo_80 (by decide) ?_
        refine sw_goto (tgt := 94) dX6_goesTo_81 (by decide) ?_
        refine sw_iadd dX6_goesTo_94 ?_
        refine sw_istore dX6_goesTo_95 (by decide) rfl ?_
        refine sw_aload_n dX6_goesTo_97 rfl ?_
        refine sw_getI dX6_goesTo_98 fl_X6_65 rfl rfl ?_
        refine sw_iload_n dX6_goesTo_101 rfl ?_
        refine sw_iconst (v := 3) dX6_goesTo_102 (by decide) ?_
        refine sw_icmp_ne (tgt := 110) dX6_goesTo_103 (by decide) (fun _ => ?_) (fun h => absurd h (by decide))
        refine sw_iload_n dX6_goesTo_110 rfl ?_
        refine sw_iconst (v := 1) dX6_goesTo_111 (by decide) ?_
        refine sw_icmp_ne (tgt := 119) dX6_goesTo_112 (by decide) (fun _ => ?_) (fun h => absurd h (by decide))
        refine sw_iconst (v := 0) dX6_goesTo_119 (by decide) ?_
        refine sw_iadd dX6_goesTo_120 ?_
        refine sw_istore dX6_goesTo_121 (by decide) rfl ?_
        refine sw_iload dX6_goesTo_123 rfl ?_
        refine sw_iload dX6_goesTo_125 rfl ?_
        refine sw_callS dX6_goesTo_127 lS_X6_179 (c_q_isCell _ _) rfl rfl (Nat.le_of_ble_eq_true rfl) (Nat.le_of_ble_eq_true rfl) ?_
        refine sw_if_eq (tgt := 137) dX6_goesTo_130 (by decide) (fun h130 => ?_) (fun h130 => ?_)
        · refine sw_iconst (v := 0) dX6_goesTo_137 (by decide) ?_
          refine sw_iret dX6_goesTo_138 rfl rfl ?_ ?_
          all_goals (first | with_reducible rfl | (simp_all [-Int32.not_lt, -Int32.not_le, sm_b_e0, sm_b_e1, sm_b_0e, sm_b_1e, q_goes, q_V, f_dir, q_dx, q_dy]))
        · refine sw_iload_n dX6_goesTo_133 rfl ?_
          refine sw_goto (tgt := 138) dX6_goesTo_134 (by decide) ?_
          refine sw_iret dX6_goesTo_138 rfl rfl ?_ ?_
          all_goals (first | with_reducible rfl | (simp_all [-Int32.not_lt, -Int32.not_le, sm_b_e0, sm_b_e1, sm_b_0e, sm_b_1e, q_goes, q_V, f_dir, q_dx, q_dy]))
  · refine sw_iload_n dX6_goesTo_25 rfl ?_
    refine sw_callS dX6_goesTo_26 lS_X6_149 (c_q_far _) rfl rfl (Nat.le_of_ble_eq_true rfl) (Nat.le_of_ble_eq_true rfl) ?_
    refine sw_aload_n dX6_goesTo_29 rfl ?_
    refine sw_getI dX6_goesTo_30 fl_X6_68 rfl rfl ?_
    refine sw_icmp_gt (tgt := 38) dX6_goesTo_33 (by decide) (fun h33 => ?_) (fun h33 => ?_)
    · refine sw_iload_n dX6_goesTo_38 rfl ?_
      refine sw_callS dX6_goesTo_39 lS_X6_149 (c_q_far _) rfl rfl (Nat.le_of_ble_eq_true rfl) (Nat.le_of_ble_eq_true rfl) ?_
      refine sw_iload_n dX6_goesTo_42 rfl ?_
      refine sw_callS dX6_goesTo_43 lS_X6_149 (c_q_far _) rfl rfl (Nat.le_of_ble_eq_true rfl) (Nat.le_of_ble_eq_true rfl) ?_
      refine sw_icmp_lt (tgt := 61) dX6_goesTo_46 (by decide) (fun h46 => ?_) (fun h46 => ?_)
      · refine sw_iload_n dX6_goesTo_61 rfl ?_
        refine sw_if_le (tgt := 69) dX6_goesTo_62 (by decide) (fun h62 => ?_) (fun h62 => ?_)
        · refine sw_iconst (v := 1) dX6_goesTo_69 (by decide) ?_
          refine sw_istore_n dX6_goesTo_70 (by decide) rfl ?_
          refine sw_aload_n dX6_goesTo_71 rfl ?_
          refine sw_getI dX6_goesTo_72 fl_X6_61 rfl rfl ?_
          refine sw_iload_n dX6_goesTo_75 rfl ?_
          refine sw_iconst (v := 2) dX6_goesTo_76 (by decide) ?_
          refine sw_icmp_ne (tgt := 84) dX6_goesTo_77 (by decide) (fun _ => ?_) (fun h => absurd h (by decide))
          refine sw_iload_n dX6_goesTo_84 rfl ?_
          refine sw_iconst (v := 4) dX6_goesTo_85 (by decide) ?_
          refine sw_icmp_ne (tgt := 93) dX6_goesTo_86 (by decide) (fun _ => ?_) (fun h => absurd h (by decide))
          refine sw_iconst (v := 0) dX6_goesTo_93 (by decide) ?_
          refine sw_iadd dX6_goesTo_94 ?_
          refine sw_istore dX6_goesTo_95 (by decide) rfl ?_
          refine sw_aload_n dX6_goesTo_97 rfl ?_
          refine sw_getI dX6_goesTo_98 fl_X6_65 rfl rfl ?_
          refine sw_iload_n dX6_goesTo_101 rfl ?_
          refine sw_iconst (v := 3) dX6_goesTo_102 (by decide) ?_
          refine sw_icmp_ne (tgt := 110) dX6_goesTo_103 (by decide) (fun _ => ?_) (fun h => absurd h (by decide))
          refine sw_iload_n dX6_goesTo_110 rfl ?_
          refine sw_iconst (v := 1) dX6_goesTo_111 (by decide) ?_
          refine sw_icmp_ne (tgt := 119) dX6_goesTo_112 (by decide) (fun h => absurd (by decide) h) (fun _ => ?_)
          refine sw_iconst (v := -1) dX6_goesTo_115 (by decide) ?_
          refine sw_goto (tgt := 120) dX6_goesTo_116 (by decide) ?_
          refine sw_iadd dX6_goesTo_120 ?_
          refine sw_istore dX6_goesTo_121 (by decide) rfl ?_
          refine sw_iload dX6_goesTo_123 rfl ?_
          refine sw_iload dX6_goesTo_125 rfl ?_
          refine sw_callS dX6_goesTo_127 lS_X6_179 (c_q_isCell _ _) rfl rfl (Nat.le_of_ble_eq_true rfl) (Nat.le_of_ble_eq_true rfl) ?_
          refine sw_if_eq (tgt := 137) dX6_goesTo_130 (by decide) (fun h130 => ?_) (fun h130 => ?_)
          · refine sw_iconst (v := 0) dX6_goesTo_137 (by decide) ?_
            refine sw_iret dX6_goesTo_138 rfl rfl ?_ ?_
            all_goals (first | with_reducible rfl | (simp_all [-Int32.not_lt, -Int32.not_le, sm_b_e0, sm_b_e1, sm_b_0e, sm_b_1e, q_goes, q_V, f_dir, q_dx, q_dy]))
          · refine sw_iload_n dX6_goesTo_133 rfl ?_
            refine sw_goto (tgt := 138) dX6_goesTo_134 (by decide) ?_
            refine sw_iret dX6_goesTo_138 rfl rfl ?_ ?_
            all_goals (first | with_reducible rfl | (simp_all [-Int32.not_lt, -Int32.not_le, sm_b_e0, sm_b_e1, sm_b_0e, sm_b_1e, q_goes, q_V, f_dir, q_dx, q_dy]))
        · refine sw_iconst (v := 3) dX6_goesTo_65 (by decide) ?_
          refine sw_goto (tgt := 70) dX6_goesTo_66 (by decide) ?_
          refine sw_istore_n dX6_goesTo_70 (by decide) rfl ?_
          refine sw_aload_n dX6_goesTo_71 rfl ?_
          refine sw_getI dX6_goesTo_72 fl_X6_61 rfl rfl ?_
          refine sw_iload_n dX6_goesTo_75 rfl ?_
          refine sw_iconst (v := 2) dX6_goesTo_76 (by decide) ?_
          refine sw_icmp_ne (tgt := 84) dX6_goesTo_77 (by decide) (fun _ => ?_) (fun h => absurd h (by decide))
          refine sw_iload_n dX6_goesTo_84 rfl ?_
          refine sw_iconst (v := 4) dX6_goesTo_85 (by decide) ?_
          refine sw_icmp_ne (tgt := 93) dX6_goesTo_86 (by decide) (fun _ => ?_) (fun h => absurd h (by decide))
          refine sw_iconst (v := 0) dX6_goesTo_93 (by decide) ?_
          refine sw_iadd dX6_goesTo_94 ?_
          refine sw_istore dX6_goesTo_95 (by decide) rfl ?_
          refine sw_aload_n dX6_goesTo_97 rfl ?_
          refine sw_getI dX6_goesTo_98 fl_X6_65 rfl rfl ?_
          refine sw_iload_n dX6_goesTo_101 rfl ?_
          refine sw_iconst (v := 3) dX6_goesTo_102 (by decide) ?_
          refine sw_icmp_ne (tgt := 110) dX6_goesTo_103 (by decide) (fun h => absurd (by decide) h) (fun _ => ?_)
          refine sw_iconst (v := 1) dX6_goesTo_106 (by decide) ?_
          refine sw_goto (tgt := 120) dX6_goesTo_107 (by decide) ?_
          refine sw_iadd dX6_goesTo_120 ?_
          refine sw_istore dX6_goesTo_121 (by decide) rfl ?_
          refine sw_iload dX6_goesTo_123 rfl ?_
          refine sw_iload dX6_goesTo_125 rfl ?_
          refine sw_callS dX6_goesTo_127 lS_X6_179 (c_q_isCell _ _) rfl rfl (Nat.le_of_ble_eq_true rfl) (Nat.le_of_ble_eq_true rfl) ?_
          refine sw_if_eq (tgt := 137) dX6_goesTo_130 (by decide) (fun h130 => ?_) (fun h130 => ?_)
          · refine sw_iconst (v := 0) dX6_goesTo_137 (by decide) ?_
            refine sw_iret dX6_goesTo_138 rfl rfl ?_ ?_
            all_goals (first | with_reducible rfl | (simp_all [-Int32.not_lt, -Int32.not_le, sm_b_e0, sm_b_e1, sm_b_0e, sm_b_1e, q_goes, q_V, f_dir, q_dx, q_dy]))
          · refine sw_iload_n dX6_goesTo_133 rfl ?_
            refine sw_goto (tgt := 138) dX6_goesTo_134 (by decide) ?_
            refine sw_iret dX6_goesTo_138 rfl rfl ?_ ?_
            all_goals (first | with_reducible rfl | (simp_all [-Int32.not_lt, -Int32.not_le, sm_b_e0, sm_b_e1, sm_b_0e, sm_b_1e, q_goes, q_V, f_dir, q_dx, q_dy]))
      · refine sw_iload_n dX6_goesTo_49 rfl ?_
        refine sw_if_le (tgt := 57) dX6_goesTo_50 (by decide) (fun h50 => ?_) (fun h50 => ?_)
        · refine sw_iconst (v := 4) dX6_goesTo_57 (by decide) ?_
          refine sw_goto (tgt := 70) dX6_goesTo_58 (by decide) ?_
          refine sw_istore_n dX6_goesTo_70 (by decide) rfl ?_
          refine sw_aload_n dX6_goesTo_71 rfl ?_
          refine sw_getI dX6_goesTo_72 fl_X6_61 rfl rfl ?_
          refine sw_iload_n dX6_goesTo_75 rfl ?_
          refine sw_iconst (v := 2) dX6_goesTo_76 (by decide) ?_
          refine sw_icmp_ne (tgt := 84) dX6_goesTo_77 (by decide) (fun _ => ?_) (fun h => absurd h (by decide))
          refine sw_iload_n dX6_goesTo_84 rfl ?_
          refine sw_iconst (v := 4) dX6_goesTo_85 (by decide) ?_
          refine sw_icmp_ne (tgt := 93) dX6_goesTo_86 (by decide) (fun h => absurd (by decide) h) (fun _ => ?_)
          refine sw_iconst (v := -1) dX6_goesTo_89 (by decide) ?_
          refine sw_goto (tgt := 94) dX6_goesTo_90 (by decide) ?_
          refine sw_iadd dX6_goesTo_94 ?_
          refine sw_istore dX6_goesTo_95 (by decide) rfl ?_
          refine sw_aload_n dX6_goesTo_97 rfl ?_
          refine sw_getI dX6_goesTo_98 fl_X6_65 rfl rfl ?_
          refine sw_iload_n dX6_goesTo_101 rfl ?_
          refine sw_iconst (v := 3) dX6_goesTo_102 (by decide) ?_
          refine sw_icmp_ne (tgt := 110) dX6_goesTo_103 (by decide) (fun _ => ?_) (fun h => absurd h (by decide))
          refine sw_iload_n dX6_goesTo_110 rfl ?_
          refine sw_iconst (v := 1) dX6_goesTo_111 (by decide) ?_
          refine sw_icmp_ne (tgt := 119) dX6_goesTo_112 (by decide) (fun _ => ?_) (fun h => absurd h (by decide))
          refine sw_iconst (v := 0) dX6_goesTo_119 (by decide) ?_
          refine sw_iadd dX6_goesTo_120 ?_
          refine sw_istore dX6_goesTo_121 (by decide) rfl ?_
          refine sw_iload dX6_goesTo_123 rfl ?_
          refine sw_iload dX6_goesTo_125 rfl ?_
          refine sw_callS dX6_goesTo_127 lS_X6_179 (c_q_isCell _ _) rfl rfl (Nat.le_of_ble_eq_true rfl) (Nat.le_of_ble_eq_true rfl) ?_
          refine sw_if_eq (tgt := 137) dX6_goesTo_130 (by decide) (fun h130 => ?_) (fun h130 => ?_)
          · refine sw_iconst (v := 0) dX6_goesTo_137 (by decide) ?_
            refine sw_iret dX6_goesTo_138 rfl rfl ?_ ?_
            all_goals (first | with_reducible rfl | (simp_all [-Int32.not_lt, -Int32.not_le, sm_b_e0, sm_b_e1, sm_b_0e, sm_b_1e, q_goes, q_V, f_dir, q_dx, q_dy]))
          · refine sw_iload_n dX6_goesTo_133 rfl ?_
            refine sw_goto (tgt := 138) dX6_goesTo_134 (by decide) ?_
            refine sw_iret dX6_goesTo_138 rfl rfl ?_ ?_
            all_goals (first | with_reducible rfl | (simp_all [-Int32.not_lt, -Int32.not_le, sm_b_e0, sm_b_e1, sm_b_0e, sm_b_1e, q_goes, q_V, f_dir, q_dx, q_dy]))
        · refine sw_iconst (v := 2) dX6_goesTo_53 (by decide) ?_
          refine sw_goto (tgt := 70) dX6_goesTo_54 (by decide) ?_
          refine sw_istore_n dX6_goesTo_70 (by decide) rfl ?_
          refine sw_aload_n dX6_goesTo_71 rfl ?_
          refine sw_getI dX6_goesTo_72 fl_X6_61 rfl rfl ?_
          refine sw_iload_n dX6_goesTo_75 rfl ?_
          refine sw_iconst (v := 2) dX6_goesTo_76 (by decide) ?_
          refine sw_icmp_ne (tgt := 84) dX6_goesTo_77 (by decide) (fun h => absurd (by decide) h) (fun _ => ?_)
          refine sw_iconst (v := 1) dX6_goesTo_80 (by decide) ?_
          refine sw_goto (tgt := 94) dX6_goesTo_81 (by decide) ?_
          refine sw_iadd dX6_goesTo_94 ?_
          refine sw_istore dX6_goesTo_95 (by decide) rfl ?_
          refine sw_aload_n dX6_goesTo_97 rfl ?_
          refine sw_getI dX6_goesTo_98 fl_X6_65 rfl rfl ?_
          refine sw_iload_n dX6_goesTo_101 rfl ?_
          refine sw_iconst (v := 3) dX6_goesTo_102 (by decide) ?_
          refine sw_icmp_ne (tgt := 110) dX6_goesTo_103 (by decide) (fun _ => ?_) (fun h => absurd h (by decide))
          refine sw_iload_n dX6_goesTo_110 rfl ?_
          refine sw_iconst (v := 1) dX6_goesTo_111 (by decide) ?_
          refine sw_icmp_ne (tgt := 119) dX6_goesTo_112 (by decide) (fun _ => ?_) (fun h => absurd h (by decide))
          refine sw_iconst (v := 0) dX6_goesTo_119 (by decide) ?_
          refine sw_iadd dX6_goesTo_120 ?_
          refine sw_istore dX6_goesTo_121 (by decide) rfl ?_
          refine sw_iload dX6_goesTo_123 rfl ?_
          refine sw_iload dX6_goesTo_125 rfl ?_
          refine sw_callS dX6_goesTo_127 lS_X6_179 (c_q_isCell _ _) rfl rfl (Nat.le_of_ble_eq_true rfl) (Nat.le_of_ble_eq_true rfl) ?_
          refine sw_if_eq (tgt := 137) dX6_goesTo_130 (by decide) (fun h130 => ?_) (fun h130 => ?_)
          · refine sw_iconst (v := 0) dX6_goesTo_137 (by decide) ?_
            refine sw_iret dX6_goesTo_138 rfl rfl ?_ ?_
            all_goals (first | with_reducible rfl | (simp_all [-Int32.not_lt, -Int32.not_le, sm_b_e0, sm_b_e1, sm_b_0e, sm_b_1e, q_goes, q_V, f_dir, q_dx, q_dy]))
          · refine sw_iload_n dX6_goesTo_133 rfl ?_
            refine sw_goto (tgt := 138) dX6_goesTo_134 (by decide) ?_
            refine sw_iret dX6_goesTo_138 rfl rfl ?_ ?_
            all_goals (first | with_reducible rfl | (simp_all [-Int32.not_lt, -Int32.not_le, sm_b_e0, sm_b_e1, sm_b_0e, sm_b_1e, q_goes, q_V, f_dir, q_dx, q_dy]))
    · refine sw_iconst (v := 0) dX6_goesTo_36 (by decide) ?_
      refine sw_iret dX6_goesTo_37 rfl rfl ?_ ?_
      all_goals (first | with_reducible rfl | (simp_all [-Int32.not_lt, -Int32.not_le, sm_b_e0, sm_b_e1, sm_b_0e, sm_b_1e, q_goes, q_V, f_dir, q_dx, q_dy]))

set_option maxHeartbeats 1000000 in
theorem c_q_passes {σ : sm_St} {np nc : Nat} (hP : q_P σ np) (hS : q_S σ nc) : sm_C yX6_passes cX6_passes 2 (some .boolean) 7 [.ref 110] σ (some (.int (sm_b (q_goes (q_V σ) np nc = 0)))) (q_hour σ np nc) := by
  refine sm_C.of (own := RX6) (by decide) rfl (Nat.le_of_ble_eq_true rfl) ?_
  show sm_W RX6 cX6_passes 2 (some .boolean) 7 (some (.int (sm_b (q_goes (q_V σ) np nc = 0)))) (q_hour σ np nc) 0 [(0, .ref 110)] [] σ
  refine sw_aload_n dX6_passes_0 rfl ?_
  refine sw_callV dX6_passes_1 lV_X6_183 (c_q_goesTo hP hS) rfl rfl rfl rfl (Nat.le_of_ble_eq_true rfl) (Nat.le_of_ble_eq_true rfl) ?_
  refine sw_istore_n dX6_passes_4 (by decide) rfl ?_
  refine sw_aload_n dX6_passes_5 rfl ?_
  refine sw_dup dX6_passes_6 rfl ?_
  refine sw_getI dX6_passes_7 fl_X6_61 rfl rfl ?_
  refine sw_iload_n dX6_passes_10 rfl ?_
  refine sw_iconst (v := 2) dX6_passes_11 (by decide) ?_
  refine sw_icmp_ne (tgt := 19) dX6_passes_12 (by decide) (fun h12 => ?_) (fun h12 => ?_)
  · refine sw_iload_n dX6_passes_19 rfl ?_
    refine sw_iconst (v := 4) dX6_passes_20 (by decide) ?_
    refine sw_icmp_ne (tgt := 28) dX6_passes_21 (by decide) (fun h21 => ?_) (fun h21 => ?_)
    · refine sw_iconst (v := 0) dX6_passes_28 (by decide) ?_
      refine sw_top (y := q_dx (q_goes (q_V σ) np nc)) (by simp_all [q_dx]) ?_
      refine sw_iadd dX6_passes_29 ?_
      refine sw_put dX6_passes_30 fl_X6_61 fi_5_7 rfl rfl ?_
      refine sw_aload_n dX6_passes_33 rfl ?_
      refine sw_dup dX6_passes_34 rfl ?_
      refine sw_getI dX6_passes_35 fl_X6_65 rfl rfl ?_
      refine sw_top (y := σ 110 8) (by rw [sm_set_ne (by decide)]) ?_
      refine sw_iload_n dX6_passes_38 rfl ?_
      refine sw_iconst (v := 3) dX6_passes_39 (by decide) ?_
      refine sw_icmp_ne (tgt := 47) dX6_passes_40 (by decide) (fun h40 => ?_) (fun h40 => ?_)
      · refine sw_iload_n dX6_passes_47 rfl ?_
        refine sw_iconst (v := 1) dX6_passes_48 (by decide) ?_
        refine sw_icmp_ne (tgt := 56) dX6_passes_49 (by decide) (fun h49 => ?_) (fun h49 => ?_)
        · refine sw_iconst (v := 0) dX6_passes_56 (by decide) ?_
          refine sw_top (y := q_dy (q_goes (q_V σ) np nc)) (by simp_all [q_dy]) ?_
          refine sw_iadd dX6_passes_57 ?_
          refine sw_put dX6_passes_58 fl_X6_65 fi_5_8 rfl rfl ?_
          refine sw_aload_n dX6_passes_61 rfl ?_
          refine sw_dup dX6_passes_62 rfl ?_
          refine sw_getI dX6_passes_63 fl_X6_137 rfl rfl ?_
          refine sw_top (y := σ 110 6) (by rw [sm_set_ne (by decide), sm_set_ne (by decide)]) ?_
          refine sw_iconst (v := 1) dX6_passes_66 (by decide) ?_
          refine sw_iadd dX6_passes_67 ?_
          refine sw_put dX6_passes_68 fl_X6_137 fi_5_6 rfl rfl ?_
          refine sw_st (σ2 := q_hour σ np nc) rfl ?_
          refine sw_iload_n dX6_passes_71 rfl ?_
          refine sw_if_ne (tgt := 79) dX6_passes_72 (by decide) (fun h72 => ?_) (fun h72 => ?_)
          · refine sw_iconst (v := 0) dX6_passes_79 (by decide) ?_
            refine sw_zret dX6_passes_80 rfl rfl ?_ (by decide) ?_
            all_goals (first | with_reducible rfl | (simp_all [sm_b_0e, sm_b_1e]))
          · refine sw_iconst (v := 1) dX6_passes_75 (by decide) ?_
            refine sw_goto (tgt := 80) dX6_passes_76 (by decide) ?_
            refine sw_zret dX6_passes_80 rfl rfl ?_ (by decide) ?_
            all_goals (first | with_reducible rfl | (simp_all [sm_b_0e, sm_b_1e]))
        · refine sw_iconst (v := -1) dX6_passes_52 (by decide) ?_
          refine sw_goto (tgt := 57) dX6_passes_53 (by decide) ?_
          refine sw_top (y := q_dy (q_goes (q_V σ) np nc)) (by simp_all [q_dy]) ?_
          refine sw_iadd dX6_passes_57 ?_
          refine sw_put dX6_passes_58 fl_X6_65 fi_5_8 rfl rfl ?_
          refine sw_aload_n dX6_passes_61 rfl ?_
          refine sw_dup dX6_passes_62 rfl ?_
          refine sw_getI dX6_passes_63 fl_X6_137 rfl rfl ?_
          refine sw_top (y := σ 110 6) (by rw [sm_set_ne (by decide), sm_set_ne (by decide)]) ?_
          refine sw_iconst (v := 1) dX6_passes_66 (by decide) ?_
          refine sw_iadd dX6_passes_67 ?_
          refine sw_put dX6_passes_68 fl_X6_137 fi_5_6 rfl rfl ?_
          refine sw_st (σ2 := q_hour σ np nc) rfl ?_
          refine sw_iload_n dX6_passes_71 rfl ?_
          refine sw_if_ne (tgt := 79) dX6_passes_72 (by decide) (fun h72 => ?_) (fun h72 => ?_)
          · refine sw_iconst (v := 0) dX6_passes_79 (by decide) ?_
            refine sw_zret dX6_passes_80 rfl rfl ?_ (by decide) ?_
            all_goals (first | with_reducible rfl | (simp_all [sm_b_0e, sm_b_1e]))
          · refine sw_iconst (v := 1) dX6_passes_75 (by decide) ?_
            refine sw_goto (tgt := 80) dX6_passes_76 (by decide) ?_
            refine sw_zret dX6_passes_80 rfl rfl ?_ (by decide) ?_
            all_goals (first | with_reducible rfl | (simp_all [sm_b_0e, sm_b_1e]))
      · refine sw_iconst (v := 1) dX6_passes_43 (by decide) ?_
        refine sw_goto (tgt := 57) dX6_passes_44 (by decide) ?_
        refine sw_top (y := q_dy (q_goes (q_V σ) np nc)) (by simp_all [q_dy]) ?_
        refine sw_iadd dX6_passes_57 ?_
        refine sw_put dX6_passes_58 fl_X6_65 fi_5_8 rfl rfl ?_
        refine sw_aload_n dX6_passes_61 rfl ?_
        refine sw_dup dX6_passes_62 rfl ?_
        refine sw_getI dX6_passes_63 fl_X6_137 rfl rfl ?_
        refine sw_top (y := σ 110 6) (by rw [sm_set_ne (by decide), sm_set_ne (by decide)]) ?_
        refine sw_iconst (v := 1) dX6_passes_66 (by decide) ?_
        refine sw_iadd dX6_passes_67 ?_
        refine sw_put dX6_passes_68 fl_X6_137 fi_5_6 rfl rfl ?_
        refine sw_st (σ2 := q_hour σ np nc) rfl ?_
        refine sw_iload_n dX6_passes_71 rfl ?_
        refine sw_if_ne (tgt := 79) dX6_passes_72 (by decide) (fun h72 => ?_) (fun h72 => ?_)
        · refine sw_iconst (v := 0) dX6_passes_79 (by decide) ?_
          refine sw_zret dX6_passes_80 rfl rfl ?_ (by decide) ?_
          all_goals (first | with_reducible rfl | (simp_all [sm_b_0e, sm_b_1e]))
        · refine sw_iconst (v := 1) dX6_passes_75 (by decide) ?_
          refine sw_goto (tgt := 80) dX6_passes_76 (by decide) ?_
          refine sw_zret dX6_passes_80 rfl rfl ?_ (by decide) ?_
          all_goals (first | with_reducible rfl | (simp_all [sm_b_0e, sm_b_1e]))
    · refine sw_iconst (v := -1) dX6_passes_24 (by decide) ?_
      refine sw_goto (tgt := 29) dX6_passes_25 (by decide) ?_
      refine sw_top (y := q_dx (q_goes (q_V σ) np nc)) (by simp_all [q_dx]) ?_
      refine sw_iadd dX6_passes_29 ?_
      refine sw_put dX6_passes_30 fl_X6_61 fi_5_7 rfl rfl ?_
      refine sw_aload_n dX6_passes_33 rfl ?_
      refine sw_dup dX6_passes_34 rfl ?_
      refine sw_getI dX6_passes_35 fl_X6_65 rfl rfl ?_
      refine sw_top (y := σ 110 8) (by rw [sm_set_ne (by decide)]) ?_
      refine sw_iload_n dX6_passes_38 rfl ?_
      refine sw_iconst (v := 3) dX6_passes_39 (by decide) ?_
      refine sw_icmp_ne (tgt := 47) dX6_passes_40 (by decide) (fun h40 => ?_) (fun h40 => ?_)
      · refine sw_iload_n dX6_passes_47 rfl ?_
        refine sw_iconst (v := 1) dX6_passes_48 (by decide) ?_
        refine sw_icmp_ne (tgt := 56) dX6_passes_49 (by decide) (fun h49 => ?_) (fun h49 => ?_)
        · refine sw_iconst (v := 0) dX6_passes_56 (by decide) ?_
          refine sw_top (y := q_dy (q_goes (q_V σ) np nc)) (by simp_all [q_dy]) ?_
          refine sw_iadd dX6_passes_57 ?_
          refine sw_put dX6_passes_58 fl_X6_65 fi_5_8 rfl rfl ?_
          refine sw_aload_n dX6_passes_61 rfl ?_
          refine sw_dup dX6_passes_62 rfl ?_
          refine sw_getI dX6_passes_63 fl_X6_137 rfl rfl ?_
          refine sw_top (y := σ 110 6) (by rw [sm_set_ne (by decide), sm_set_ne (by decide)]) ?_
          refine sw_iconst (v := 1) dX6_passes_66 (by decide) ?_
          refine sw_iadd dX6_passes_67 ?_
          refine sw_put dX6_passes_68 fl_X6_137 fi_5_6 rfl rfl ?_
          refine sw_st (σ2 := q_hour σ np nc) rfl ?_
          refine sw_iload_n dX6_passes_71 rfl ?_
          refine sw_if_ne (tgt := 79) dX6_passes_72 (by decide) (fun h72 => ?_) (fun h72 => ?_)
          · refine sw_iconst (v := 0) dX6_passes_79 (by decide) ?_
            refine sw_zret dX6_passes_80 rfl rfl ?_ (by decide) ?_
            all_goals (first | with_reducible rfl | (simp_all [sm_b_0e, sm_b_1e]))
          · refine sw_iconst (v := 1) dX6_passes_75 (by decide) ?_
            refine sw_goto (tgt := 80) dX6_passes_76 (by decide) ?_
            refine sw_zret dX6_passes_80 rfl rfl ?_ (by decide) ?_
            all_goals (first | with_reducible rfl | (simp_all [sm_b_0e, sm_b_1e]))
        · refine sw_iconst (v := -1) dX6_passes_52 (by decide) ?_
          refine sw_goto (tgt := 57) dX6_passes_53 (by decide) ?_
          refine sw_top (y := q_dy (q_goes (q_V σ) np nc)) (by simp_all [q_dy]) ?_
          refine sw_iadd dX6_passes_57 ?_
          refine sw_put dX6_passes_58 fl_X6_65 fi_5_8 rfl rfl ?_
          refine sw_aload_n dX6_passes_61 rfl ?_
          refine sw_dup dX6_passes_62 rfl ?_
          refine sw_getI dX6_passes_63 fl_X6_137 rfl rfl ?_
          refine sw_top (y := σ 110 6) (by rw [sm_set_ne (by decide), sm_set_ne (by decide)]) ?_
          refine sw_iconst (v := 1) dX6_passes_66 (by decide) ?_
          refine sw_iadd dX6_passes_67 ?_
          refine sw_put dX6_passes_68 fl_X6_137 fi_5_6 rfl rfl ?_
          refine sw_st (σ2 := q_hour σ np nc) rfl ?_
          refine sw_iload_n dX6_passes_71 rfl ?_
          refine sw_if_ne (tgt := 79) dX6_passes_72 (by decide) (fun h72 => ?_) (fun h72 => ?_)
          · refine sw_iconst (v := 0) dX6_passes_79 (by decide) ?_
            refine sw_zret dX6_passes_80 rfl rfl ?_ (by decide) ?_
            all_goals (first | with_reducible rfl | (simp_all [sm_b_0e, sm_b_1e]))
          · refine sw_iconst (v := 1) dX6_passes_75 (by decide) ?_
            refine sw_goto (tgt := 80) dX6_passes_76 (by decide) ?_
            refine sw_zret dX6_passes_80 rfl rfl ?_ (by decide) ?_
            all_goals (first | with_reducible rfl | (simp_all [sm_b_0e, sm_b_1e]))
      · refine sw_iconst (v := 1) dX6_passes_43 (by decide) ?_
        refine sw_goto (tgt := 57) dX6_passes_44 (by decide) ?_
        refine sw_top (y := q_dy (q_goes (q_V σ) np nc)) (by simp_all [q_dy]) ?_
        refine sw_iadd dX6_passes_57 ?_
        refine sw_put dX6_passes_58 fl_X6_65 fi_5_8 rfl rfl ?_
        refine sw_aload_n dX6_passes_61 rfl ?_
        refine sw_dup dX6_passes_62 rfl ?_
        refine sw_getI dX6_passes_63 fl_X6_137 rfl rfl ?_
        refine sw_top (y := σ 110 6) (by rw [sm_set_ne (by decide), sm_set_ne (by decide)]) ?_
        refine sw_iconst (v := 1) dX6_passes_66 (by decide) ?_
        refine sw_iadd dX6_passes_67 ?_
        refine sw_put dX6_passes_68 fl_X6_137 fi_5_6 rfl rfl ?_
        refine sw_st (σ2 := q_hour σ np nc) rfl ?_
        refine sw_iload_n dX6_passes_71 rfl ?_
        refine sw_if_ne (tgt := 79) dX6_passes_72 (by decide) (fun h72 => ?_) (fun h72 => ?_)
        · refine sw_iconst (v := 0) dX6_passes_79 (by decide) ?_
          refine sw_zret dX6_passes_80 rfl rfl ?_ (by decide) ?_
          all_goals (first | with_reducible rfl | (simp_all [sm_b_0e, sm_b_1e]))
        · refine sw_iconst (v := 1) dX6_passes_75 (by decide) ?_
          refine sw_goto (tgt := 80) dX6_passes_76 (by decide) ?_
          refine sw_zret dX6_passes_80 rfl rfl ?_ (by decide) ?_
          all_goals (first | with_reducible rfl | (simp_all [sm_b_0e, sm_b_1e]))
  · refine sw_iconst (v := 1) dX6_passes_15 (by decide) ?_
    refine sw_goto (tgt := 29) dX6_passes_16 (by decide) ?_
    refine sw_top (y := q_dx (q_goes (q_V σ) np nc)) (by simp_all [q_dx]) ?_
    refine sw_iadd dX6_passes_29 ?_
    refine sw_put dX6_passes_30 fl_X6_61 fi_5_7 rfl rfl ?_
    refine sw_aload_n dX6_passes_33 rfl ?_
    refine sw_dup dX6_passes_34 rfl ?_
    refine sw_getI dX6_passes_35 fl_X6_65 rfl rfl ?_
    refine sw_top (y := σ 110 8) (by rw [sm_set_ne (by decide)]) ?_
    refine sw_iload_n dX6_passes_38 rfl ?_
    refine sw_iconst (v := 3) dX6_passes_39 (by decide) ?_
    refine sw_icmp_ne (tgt := 47) dX6_passes_40 (by decide) (fun h40 => ?_) (fun h40 => ?_)
    · refine sw_iload_n dX6_passes_47 rfl ?_
      refine sw_iconst (v := 1) dX6_passes_48 (by decide) ?_
      refine sw_icmp_ne (tgt := 56) dX6_passes_49 (by decide) (fun h49 => ?_) (fun h49 => ?_)
      · refine sw_iconst (v := 0) dX6_passes_56 (by decide) ?_
        refine sw_top (y := q_dy (q_goes (q_V σ) np nc)) (by simp_all [q_dy]) ?_
        refine sw_iadd dX6_passes_57 ?_
        refine sw_put dX6_passes_58 fl_X6_65 fi_5_8 rfl rfl ?_
        refine sw_aload_n dX6_passes_61 rfl ?_
        refine sw_dup dX6_passes_62 rfl ?_
        refine sw_getI dX6_passes_63 fl_X6_137 rfl rfl ?_
        refine sw_top (y := σ 110 6) (by rw [sm_set_ne (by decide), sm_set_ne (by decide)]) ?_
        refine sw_iconst (v := 1) dX6_passes_66 (by decide) ?_
        refine sw_iadd dX6_passes_67 ?_
        refine sw_put dX6_passes_68 fl_X6_137 fi_5_6 rfl rfl ?_
        refine sw_st (σ2 := q_hour σ np nc) rfl ?_
        refine sw_iload_n dX6_passes_71 rfl ?_
        refine sw_if_ne (tgt := 79) dX6_passes_72 (by decide) (fun h72 => ?_) (fun h72 => ?_)
        · refine sw_iconst (v := 0) dX6_passes_79 (by decide) ?_
          refine sw_zret dX6_passes_80 rfl rfl ?_ (by decide) ?_
          all_goals (first | with_reducible rfl | (simp_all [sm_b_0e, sm_b_1e]))
        · refine sw_iconst (v := 1) dX6_passes_75 (by decide) ?_
          refine sw_goto (tgt := 80) dX6_passes_76 (by decide) ?_
          refine sw_zret dX6_passes_80 rfl rfl ?_ (by decide) ?_
          all_goals (first | with_reducible rfl | (simp_all [sm_b_0e, sm_b_1e]))
      · refine sw_iconst (v := -1) dX6_passes_52 (by decide) ?_
        refine sw_goto (tgt := 57) dX6_passes_53 (by decide) ?_
        refine sw_top (y := q_dy (q_goes (q_V σ) np nc)) (by simp_all [q_dy]) ?_
        refine sw_iadd dX6_passes_57 ?_
        refine sw_put dX6_passes_58 fl_X6_65 fi_5_8 rfl rfl ?_
        refine sw_aload_n dX6_passes_61 rfl ?_
        refine sw_dup dX6_passes_62 rfl ?_
        refine sw_getI dX6_passes_63 fl_X6_137 rfl rfl ?_
        refine sw_top (y := σ 110 6) (by rw [sm_set_ne (by decide), sm_set_ne (by decide)]) ?_
        refine sw_iconst (v := 1) dX6_passes_66 (by decide) ?_
        refine sw_iadd dX6_passes_67 ?_
        refine sw_put dX6_passes_68 fl_X6_137 fi_5_6 rfl rfl ?_
        refine sw_st (σ2 := q_hour σ np nc) rfl ?_
        refine sw_iload_n dX6_passes_71 rfl ?_
        refine sw_if_ne (tgt := 79) dX6_passes_72 (by decide) (fun h72 => ?_) (fun h72 => ?_)
        · refine sw_iconst (v := 0) dX6_passes_79 (by decide) ?_
          refine sw_zret dX6_passes_80 rfl rfl ?_ (by decide) ?_
          all_goals (first | with_reducible rfl | (simp_all [sm_b_0e, sm_b_1e]))
        · refine sw_iconst (v := 1) dX6_passes_75 (by decide) ?_
          refine sw_goto (tgt := 80) dX6_passes_76 (by decide) ?_
          refine sw_zret dX6_passes_80 rfl rfl ?_ (by decide) ?_
          all_goals (first | with_reducible rfl | (simp_all [sm_b_0e, sm_b_1e]))
    · refine sw_iconst (v := 1) dX6_passes_43 (by decide) ?_
      refine sw_goto (tgt := 57) dX6_passes_44 (by decide) ?_
      refine sw_top (y := q_dy (q_goes (q_V σ) np nc)) (by simp_all [q_dy]) ?_
      refine sw_iadd dX6_passes_57 ?_
      refine sw_put dX6_passes_58 fl_X6_65 fi_5_8 rfl rfl ?_
      refine sw_aload_n dX6_passes_61 rfl ?_
      refine sw_dup dX6_passes_62 rfl ?_
      refine sw_getI dX6_passes_63 fl_X6_137 rfl rfl ?_
      refine sw_top (y := σ 110 6) (by rw [sm_set_ne (by decide), sm_set_ne (by decide)]) ?_
      refine sw_iconst (v := 1) dX6_passes_66 (by decide) ?_
      refine sw_iadd dX6_passes_67 ?_
      refine sw_put dX6_passes_68 fl_X6_137 fi_5_6 rfl rfl ?_
      refine sw_st (σ2 := q_hour σ np nc) rfl ?_
      refine sw_iload_n dX6_passes_71 rfl ?_
      refine sw_if_ne (tgt := 79) dX6_passes_72 (by decide) (fun h72 => ?_) (fun h72 => ?_)
      · refine sw_iconst (v := 0) dX6_passes_79 (by decide) ?_
        refine sw_zret dX6_passes_80 rfl rfl ?_ (by decide) ?_
        all_goals (first | with_reducible rfl | (simp_all [sm_b_0e, sm_b_1e]))
      · refine sw_iconst (v := 1) dX6_passes_75 (by decide) ?_
        refine sw_goto (tgt := 80) dX6_passes_76 (by decide) ?_
        refine sw_zret dX6_passes_80 rfl rfl ?_ (by decide) ?_
        all_goals (first | with_reducible rfl | (simp_all [sm_b_0e, sm_b_1e]))

set_option maxHeartbeats 1000000 in
theorem l_q_goesOn {np nc : Nat} {t : Int32} : ∀ (n i : Nat) (τ : sm_St), t.toNatClampNeg - i < n → i ≤ t.toNatClampNeg → q_P τ np → q_S τ nc → sm_W RX6 cX6_goesOn 3 none 8 none (q_hours np nc (t.toNatClampNeg - i) τ) 2 [(0, .ref 110), (1, .int t), (2, .int (nI i))] [] τ := by
  intro n
  induction n with
  | zero => intro i τ h1 h2; omega
  | succ n ih =>
    intro i τ h1 h2 hP hS
    have hib : i < 2 ^ 31 := Nat.lt_of_le_of_lt h2 (sm_clamp_lt _)
    refine sw_iload_n dX6_goesOn_2 rfl ?_
    refine sw_iload_n dX6_goesOn_3 rfl ?_
    refine sw_icmp_ge (tgt := 18) dX6_goesOn_4 (by decide) (fun h4 => ?_) (fun h4 => ?_)
    · have hge : t.toNatClampNeg ≤ i := (sm_le_clamp hib).mp h4
      refine sw_vret dX6_goesOn_18 rfl rfl ?_
      all_goals (first | with_reducible rfl | (rw [show t.toNatClampNeg - i = 0 by omega]; rfl))
    · have hlt : i < t.toNatClampNeg := by rw [sm_le_clamp hib] at h4; omega
      refine sw_aload_n dX6_goesOn_7 rfl ?_
      refine sw_callV dX6_goesOn_8 lV_X6_186 (c_q_passes hP hS) rfl rfl rfl rfl (Nat.le_of_ble_eq_true rfl) (Nat.le_of_ble_eq_true rfl) ?_
      refine sw_pop dX6_goesOn_11 rfl ?_
      refine sw_iinc dX6_goesOn_12 rfl rfl (by decide) rfl ?_
      refine sw_goto (tgt := 2) dX6_goesOn_15 (by decide) ?_
      have e : q_hours np nc (t.toNatClampNeg - i) τ = q_hours np nc (t.toNatClampNeg - (i + 1)) (q_hour τ np nc) := by rw [show t.toNatClampNeg - i = (t.toNatClampNeg - (i + 1)) + 1 by omega]; rfl
      rw [e]
      refine sw_lv (ih (i + 1) _ (by omega) (by omega) (q_hour_P hP) (q_hour_S hS)) (And.intro rfl (And.intro rfl (And.intro (sm_e rfl ?_) trivial)))
      all_goals (rw [sm_i1, nI_succ])

set_option maxHeartbeats 1000000 in
theorem c_q_goesOn {σ : sm_St} {np nc : Nat} (t : Int32) (hP : q_P σ np) (hS : q_S σ nc) : sm_C yX6_goesOn cX6_goesOn 3 none 8 [.ref 110, .int t] σ none (q_hours np nc t.toNatClampNeg σ) := by
  refine sm_C.of (own := RX6) (by decide) rfl (Nat.le_of_ble_eq_true rfl) ?_
  show sm_W RX6 cX6_goesOn 3 none 8 none (q_hours np nc t.toNatClampNeg σ) 0 [(0, .ref 110), (1, .int t)] [] σ
  refine sw_iconst (v := 0) dX6_goesOn_0 (by decide) ?_
  refine sw_istore_n dX6_goesOn_1 (by decide) rfl ?_
  refine sw_lv (l_q_goesOn _ 0 _ (Nat.lt_succ_self _) (Nat.zero_le _) hP hS) (And.intro rfl (And.intro rfl (And.intro rfl trivial)))

/-! the model's text: letters 121, size 110 20, readAt 110 21 -/
def y_here (σ : sm_St) : Int32 := if σ 110 20 ≤ σ 110 21 then 0 else r_at (σ 121) 200 (σ 110 21)
def y_inc (σ : sm_St) : sm_St := sm_set σ 110 21 (σ 110 21 + 1)
def y_val (σ : sm_St) : Int32 × sm_St := if sm_win (y_here (y_inc σ)) 48 57 = true then (10 * (y_here σ - 48) + y_here (y_inc σ) - 48, y_inc (y_inc σ)) else (y_here σ - 48, y_inc σ)
def y_put (p : Int32 × sm_St) : sm_St := sm_set p.2 110 27 p.1
def y_num (σ : sm_St) (lo hi e : Int32) : Bool × sm_St := if sm_win (y_here σ) 48 57 = true then (if y_here (y_put (y_val σ)) = e ∧ sm_win (y_val σ).1 lo hi = true then (true, y_inc (y_put (y_val σ))) else (false, y_put (y_val σ))) else (false, σ)
def q_T (σ : sm_St) (lo hi : Nat) : Prop := ∃ a z : Nat, σ 110 21 = nI a ∧ lo ≤ a ∧ a ≤ hi ∧ σ 110 20 = nI z ∧ z ≤ 200
theorem q_T.inc {σ : sm_St} {lo hi : Nat} (h : q_T σ lo hi) : q_T (y_inc σ) (lo + 1) (hi + 1) := by
  obtain ⟨a, z, h1, h2, h3, h4, h5⟩ := h
  refine ⟨a + 1, z, ?_, by omega, by omega, ?_, h5⟩
  · unfold y_inc; rw [sm_set_eq, h1, nI_1]
  · unfold y_inc; rw [sm_set_ne (by decide), h4]
theorem q_T.set {σ : sm_St} {lo hi j : Nat} {v : Int32} (h : q_T σ lo hi) (h1 : j ≠ 20) (h2 : j ≠ 21) : q_T (sm_set σ 110 j v) lo hi := by
  obtain ⟨a, z, e1, e2, e3, e4, e5⟩ := h
  exact ⟨a, z, by rw [sm_set_ne (Ne.symm h2)]; exact e1, e2, e3, by rw [sm_set_ne (Ne.symm h1)]; exact e4, e5⟩
theorem q_T.row {σ : sm_St} {lo hi k m : Nat} {i v : Int32} (h : q_T σ lo hi) (h1 : k ≠ 110) : q_T (r_set σ k m i v) lo hi := by
  obtain ⟨a, z, e1, e2, e3, e4, e5⟩ := h
  exact ⟨a, z, by rw [r_set_off (Ne.symm h1)]; exact e1, e2, e3, by rw [r_set_off (Ne.symm h1)]; exact e4, e5⟩
theorem q_T.mono {σ : sm_St} {lo hi lo' hi' : Nat} (h : q_T σ lo hi) (h1 : lo' ≤ lo) (h2 : hi ≤ hi') : q_T σ lo' hi' := by
  obtain ⟨a, z, e1, e2, e3, e4, e5⟩ := h
  exact ⟨a, z, e1, by omega, by omega, e4, e5⟩
theorem q_T.vin {σ : sm_St} {lo hi : Nat} (h : q_T σ lo hi) (hh : hi < 1000) (hc : ¬ σ 110 20 ≤ σ 110 21) : vp_in (σ 110 21) 200 := by
  obtain ⟨a, z, e1, e2, e3, e4, e5⟩ := h
  rw [e1, e4, nI_leI (by omega) (by omega)] at hc
  rw [e1]
  exact vp_in_nI (by omega) (by decide)
theorem y_num_T {σ : sm_St} {lo hi : Nat} {a b e : Int32} (h : q_T σ lo hi) : q_T (y_num σ a b e).2 lo (hi + 3) := by
  have hv : q_T (y_val σ).2 (lo + 1) (hi + 2) := by
    unfold y_val
    split
    · exact h.inc.inc.mono (by omega) (by omega)
    · exact h.inc.mono (by omega) (by omega)
  have hp : q_T (y_put (y_val σ)) (lo + 1) (hi + 2) := hv.set (by decide) (by decide)
  unfold y_num
  split
  · split
    · exact hp.inc.mono (by omega) (by omega)
    · exact hp.mono (by omega) (by omega)
  · exact h.mono (by omega) (by omega)

set_option maxHeartbeats 2000000 in
theorem c_y_here {σ : sm_St} {lo hi : Nat} (hT : q_T σ lo hi) (hh : hi < 900)  : sm_C yX6_here cX6_here 1 (some .int) 0 [.ref 110] σ (some (.int (y_here σ))) σ := by
  refine sm_C.of (own := RX6) (by decide) rfl (Nat.le_of_ble_eq_true rfl) ?_
  show sm_W RX6 cX6_here 1 (some .int) 0 (some (.int (y_here σ))) σ 0 [(0, .ref 110)] [] σ
  refine sw_aload_n dX6_here_0 rfl ?_
  refine sw_getI dX6_here_1 fl_X6_101 rfl rfl ?_
  refine sw_aload_n dX6_here_4 rfl ?_
  refine sw_getI dX6_here_5 fl_X6_98 rfl rfl ?_
  refine sw_icmp_ge (tgt := 23) dX6_here_8 (by decide) (fun h8 => ?_) (fun h8 => ?_)
  · refine sw_iconst (v := 0) dX6_here_23 (by decide) ?_
    refine sw_iret dX6_here_24 rfl rfl ?_ ?_
    all_goals (first | with_reducible rfl | (simp_all [-Int32.not_lt, -Int32.not_le, sm_b_e0, sm_b_e1, sm_b_0e, sm_b_1e, y_here]))
  · refine sw_aload_n dX6_here_11 rfl ?_
    refine sw_getR (j := 121) dX6_here_12 fl_X6_40 rfl rfl ?_
    refine sw_aload_n dX6_here_15 rfl ?_
    refine sw_getI dX6_here_16 fl_X6_101 rfl rfl ?_
    refine sw_ialdR dX6_here_19 rfl (hT.vin (by omega) h8) ?_
    refine sw_goto (tgt := 24) dX6_here_20 (by decide) ?_
    refine sw_iret dX6_here_24 rfl rfl ?_ ?_
    all_goals (first | with_reducible rfl | (simp_all [-Int32.not_lt, -Int32.not_le, sm_b_e0, sm_b_e1, sm_b_0e, sm_b_1e, y_here]))

set_option maxHeartbeats 2000000 in
theorem c_y_fig {σ : sm_St} {lo hi : Nat} (hT : q_T σ lo hi) (hh : hi < 900)  : sm_C yX6_isFigure cX6_isFigure 1 (some .boolean) 1 [.ref 110] σ (some (.int (sm_b (sm_win (y_here σ) 48 57 = true)))) σ := by
  refine sm_C.of (own := RX6) (by decide) rfl (Nat.le_of_ble_eq_true rfl) ?_
  show sm_W RX6 cX6_isFigure 1 (some .boolean) 1 (some (.int (sm_b (sm_win (y_here σ) 48 57 = true)))) σ 0 [(0, .ref 110)] [] σ
  refine sw_aload_n dX6_isFigure_0 rfl ?_
  refine sw_callV dX6_isFigure_1 lV_X6_104 (c_y_here hT hh) rfl rfl rfl rfl (Nat.le_of_ble_eq_true rfl) (Nat.le_of_ble_eq_true rfl) ?_
  refine sw_bipush (v := 48) dX6_isFigure_4 (by decide) ?_
  refine sw_bipush (v := 57) dX6_isFigure_6 (by decide) ?_
  refine sw_callS dX6_isFigure_8 lS_X6_94 (c_q_in _ _ _) rfl rfl (Nat.le_of_ble_eq_true rfl) (Nat.le_of_ble_eq_true rfl) ?_
  refine sw_zret dX6_isFigure_11 rfl rfl ?_ (sm_b01 _) ?_
  all_goals (first | with_reducible rfl | (rfl))

set_option maxHeartbeats 2000000 in
theorem c_y_num {σ : sm_St} {lo hi : Nat} (hT : q_T σ lo hi) (hh : hi < 800) (a b e : Int32) : sm_C yX6_number cX6_number 5 (some .boolean) 2 [.ref 110, .int a, .int b, .int e] σ (some (.int (sm_b ((y_num σ a b e).1 = true)))) (y_num σ a b e).2 := by
  refine sm_C.of (own := RX6) (by decide) rfl (Nat.le_of_ble_eq_true rfl) ?_
  show sm_W RX6 cX6_number 5 (some .boolean) 2 (some (.int (sm_b ((y_num σ a b e).1 = true)))) (y_num σ a b e).2 0 [(0, .ref 110), (1, .int a), (2, .int b), (3, .int e)] [] σ
  refine sw_aload_n dX6_number_0 rfl ?_
  refine sw_callV dX6_number_1 lV_X6_108 (c_y_fig hT (by omega)) rfl rfl rfl rfl (Nat.le_of_ble_eq_true rfl) (Nat.le_of_ble_eq_true rfl) ?_
  refine sw_if_ne (tgt := 9) dX6_number_4 (by decide) (fun h4 => ?_) (fun h4 => ?_)
  · refine sw_aload_n dX6_number_9 rfl ?_
    refine sw_callV dX6_number_10 lV_X6_104 (c_y_here hT (by omega)) rfl rfl rfl rfl (Nat.le_of_ble_eq_true rfl) (Nat.le_of_ble_eq_true rfl) ?_
    refine sw_bipush (v := 48) dX6_number_13 (by decide) ?_
    refine sw_isub dX6_number_15 ?_
    refine sw_istore dX6_number_16 (by decide) rfl ?_
    refine sw_aload_n dX6_number_18 rfl ?_
    refine sw_dup dX6_number_19 rfl ?_
    refine sw_getI dX6_number_20 fl_X6_101 rfl rfl ?_
    refine sw_iconst (v := 1) dX6_number_23 (by decide) ?_
    refine sw_iadd dX6_number_24 ?_
    refine sw_put dX6_number_25 fl_X6_101 fi_5_21 rfl rfl ?_
    refine sw_st (σ2 := y_inc _) rfl ?_
    refine sw_aload_n dX6_number_28 rfl ?_
    refine sw_callV dX6_number_29 lV_X6_108 (c_y_fig hT.inc (by omega)) rfl rfl rfl rfl (Nat.le_of_ble_eq_true rfl) (Nat.le_of_ble_eq_true rfl) ?_
    refine sw_if_eq (tgt := 60) dX6_number_32 (by decide) (fun h32 => ?_) (fun h32 => ?_)
    · refine sw_aload_n dX6_number_60 rfl ?_
      refine sw_iload dX6_number_61 rfl ?_
      refine sw_put dX6_number_63 fl_X6_112 fi_5_27 rfl rfl ?_
      refine sw_aload_n dX6_number_66 rfl ?_
      refine sw_callV dX6_number_67 lV_X6_104 (c_y_here ((hT.inc.set (by decide) (by decide))) (by omega)) rfl rfl rfl rfl (Nat.le_of_ble_eq_true rfl) (Nat.le_of_ble_eq_true rfl) ?_
      refine sw_iload_n dX6_number_70 rfl ?_
      refine sw_icmp_ne (tgt := 84) dX6_number_71 (by decide) (fun h71 => ?_) (fun h71 => ?_)
      · refine sw_iconst (v := 0) dX6_number_84 (by decide) ?_
        refine sw_zret dX6_number_85 rfl rfl ?_ (by decide) ?_
        all_goals (first | with_reducible rfl | (simp_all [-Int32.not_lt, -Int32.not_le, sm_b_e0, sm_b_e1, sm_b_0e, sm_b_1e, y_num, y_put, y_val]))
      · refine sw_iload dX6_number_74 rfl ?_
        refine sw_iload_n dX6_number_76 rfl ?_
        refine sw_iload_n dX6_number_77 rfl ?_
        refine sw_callS dX6_number_78 lS_X6_94 (c_q_in _ _ _) rfl rfl (Nat.le_of_ble_eq_true rfl) (Nat.le_of_ble_eq_true rfl) ?_
        refine sw_if_ne (tgt := 86) dX6_number_81 (by decide) (fun h81 => ?_) (fun h81 => ?_)
        · refine sw_aload_n dX6_number_86 rfl ?_
          refine sw_dup dX6_number_87 rfl ?_
          refine sw_getI dX6_number_88 fl_X6_101 rfl rfl ?_
          refine sw_iconst (v := 1) dX6_number_91 (by decide) ?_
          refine sw_iadd dX6_number_92 ?_
          refine sw_put dX6_number_93 fl_X6_101 fi_5_21 rfl rfl ?_
          refine sw_st (σ2 := y_inc _) rfl ?_
          refine sw_iconst (v := 1) dX6_number_96 (by decide) ?_
          refine sw_zret dX6_number_97 rfl rfl ?_ (by decide) ?_
          all_goals (first | with_reducible rfl | (simp_all [-Int32.not_lt, -Int32.not_le, sm_b_e0, sm_b_e1, sm_b_0e, sm_b_1e, y_num, y_put, y_val]))
        · refine sw_iconst (v := 0) dX6_number_84 (by decide) ?_
          refine sw_zret dX6_number_85 rfl rfl ?_ (by decide) ?_
          all_goals (first | with_reducible rfl | (simp_all [-Int32.not_lt, -Int32.not_le, sm_b_e0, sm_b_e1, sm_b_0e, sm_b_1e, y_num, y_put, y_val]))
    · refine sw_bipush (v := 10) dX6_number_35 (by decide) ?_
      refine sw_iload dX6_number_37 rfl ?_
      refine sw_imul dX6_number_39 ?_
      refine sw_aload_n dX6_number_40 rfl ?_
      refine sw_callV dX6_number_41 lV_X6_104 (c_y_here hT.inc (by omega)) rfl rfl rfl rfl (Nat.le_of_ble_eq_true rfl) (Nat.le_of_ble_eq_true rfl) ?_
      refine sw_iadd dX6_number_44 ?_
      refine sw_bipush (v := 48) dX6_number_45 (by decide) ?_
      refine sw_isub dX6_number_47 ?_
      refine sw_istore dX6_number_48 (by decide) rfl ?_
      refine sw_aload_n dX6_number_50 rfl ?_
      refine sw_dup dX6_number_51 rfl ?_
      refine sw_getI dX6_number_52 fl_X6_101 rfl rfl ?_
      refine sw_iconst (v := 1) dX6_number_55 (by decide) ?_
      refine sw_iadd dX6_number_56 ?_
      refine sw_put dX6_number_57 fl_X6_101 fi_5_21 rfl rfl ?_
      refine sw_st (σ2 := y_inc _) rfl ?_
      refine sw_aload_n dX6_number_60 rfl ?_
      refine sw_iload dX6_number_61 rfl ?_
      refine sw_put dX6_number_63 fl_X6_112 fi_5_27 rfl rfl ?_
      refine sw_aload_n dX6_number_66 rfl ?_
      refine sw_callV dX6_number_67 lV_X6_104 (c_y_here ((hT.inc.inc.set (by decide) (by decide))) (by omega)) rfl rfl rfl rfl (Nat.le_of_ble_eq_true rfl) (Nat.le_of_ble_eq_true rfl) ?_
      refine sw_iload_n dX6_number_70 rfl ?_
      refine sw_icmp_ne (tgt := 84) dX6_number_71 (by decide) (fun h71 => ?_) (fun h71 => ?_)
      · refine sw_iconst (v := 0) dX6_number_84 (by decide) ?_
        refine sw_zret dX6_number_85 rfl rfl ?_ (by decide) ?_
        all_goals (first | with_reducible rfl | (simp_all [-Int32.not_lt, -Int32.not_le, sm_b_e0, sm_b_e1, sm_b_0e, sm_b_1e, y_num, y_put, y_val]))
      · refine sw_iload dX6_number_74 rfl ?_
        refine sw_iload_n dX6_number_76 rfl ?_
        refine sw_iload_n dX6_number_77 rfl ?_
        refine sw_callS dX6_number_78 lS_X6_94 (c_q_in _ _ _) rfl rfl (Nat.le_of_ble_eq_true rfl) (Nat.le_of_ble_eq_true rfl) ?_
        refine sw_if_ne (tgt := 86) dX6_number_81 (by decide) (fun h81 => ?_) (fun h81 => ?_)
        · refine sw_aload_n dX6_number_86 rfl ?_
          refine sw_dup dX6_number_87 rfl ?_
          refine sw_getI dX6_number_88 fl_X6_101 rfl rfl ?_
          refine sw_iconst (v := 1) dX6_number_91 (by decide) ?_
          refine sw_iadd dX6_number_92 ?_
          refine sw_put dX6_number_93 fl_X6_101 fi_5_21 rfl rfl ?_
          refine sw_st (σ2 := y_inc _) rfl ?_
          refine sw_iconst (v := 1) dX6_number_96 (by decide) ?_
          refine sw_zret dX6_number_97 rfl rfl ?_ (by decide) ?_
          all_goals (first | with_reducible rfl | (simp_all [-Int32.not_lt, -Int32.not_le, sm_b_e0, sm_b_e1, sm_b_0e, sm_b_1e, y_num, y_put, y_val]))
        · refine sw_iconst (v := 0) dX6_number_84 (by decide) ?_
          refine sw_zret dX6_number_85 rfl rfl ?_ (by decide) ?_
          all_goals (first | with_reducible rfl | (simp_all [-Int32.not_lt, -Int32.not_le, sm_b_e0, sm_b_e1, sm_b_0e, sm_b_1e, y_num, y_put, y_val]))
  · refine sw_iconst (v := 0) dX6_number_7 (by decide) ?_
    refine sw_zret dX6_number_8 rfl rfl ?_ (by decide) ?_
    all_goals (first | with_reducible rfl | (simp_all [-Int32.not_lt, -Int32.not_le, sm_b_e0, sm_b_e1, sm_b_0e, sm_b_1e, y_num, y_put, y_val]))

def y_three (σ : sm_St) (a N p : Nat) (h0 h1 l2 h2 : Int32) : Bool × sm_St :=
  if (y_num σ 0 h0 44).1 = true then
    (if (y_num (r_set (y_num σ 0 h0 44).2 a N (nI p) ((y_num σ 0 h0 44).2 110 27)) 0 h1 44).1 = true then
      (if (y_num (r_set (y_num (r_set (y_num σ 0 h0 44).2 a N (nI p) ((y_num σ 0 h0 44).2 110 27)) 0 h1 44).2 a N (nI p + 1) ((y_num (r_set (y_num σ 0 h0 44).2 a N (nI p) ((y_num σ 0 h0 44).2 110 27)) 0 h1 44).2 110 27)) l2 h2 59).1 = true then
        (true, r_set (y_num (r_set (y_num (r_set (y_num σ 0 h0 44).2 a N (nI p) ((y_num σ 0 h0 44).2 110 27)) 0 h1 44).2 a N (nI p + 1) ((y_num (r_set (y_num σ 0 h0 44).2 a N (nI p) ((y_num σ 0 h0 44).2 110 27)) 0 h1 44).2 110 27)) l2 h2 59).2 a N (nI p + 2) ((y_num (r_set (y_num (r_set (y_num σ 0 h0 44).2 a N (nI p) ((y_num σ 0 h0 44).2 110 27)) 0 h1 44).2 a N (nI p + 1) ((y_num (r_set (y_num σ 0 h0 44).2 a N (nI p) ((y_num σ 0 h0 44).2 110 27)) 0 h1 44).2 110 27)) l2 h2 59).2 110 27))
       else (false, (y_num (r_set (y_num (r_set (y_num σ 0 h0 44).2 a N (nI p) ((y_num σ 0 h0 44).2 110 27)) 0 h1 44).2 a N (nI p + 1) ((y_num (r_set (y_num σ 0 h0 44).2 a N (nI p) ((y_num σ 0 h0 44).2 110 27)) 0 h1 44).2 110 27)) l2 h2 59).2))
     else (false, (y_num (r_set (y_num σ 0 h0 44).2 a N (nI p) ((y_num σ 0 h0 44).2 110 27)) 0 h1 44).2))
  else (false, (y_num σ 0 h0 44).2)
def y_wind (σ : sm_St) : Bool × sm_St :=
  if (y_num σ 0 4 44).1 = true then
    (if (y_num (r_set (y_num σ 0 4 44).2 122 5 3 ((y_num σ 0 4 44).2 110 27)) 0 20 59).1 = true then
      (true, r_set (y_num (r_set (y_num σ 0 4 44).2 122 5 3 ((y_num σ 0 4 44).2 110 27)) 0 20 59).2 122 5 4 ((y_num (r_set (y_num σ 0 4 44).2 122 5 3 ((y_num σ 0 4 44).2 110 27)) 0 20 59).2 110 27))
     else (false, (y_num (r_set (y_num σ 0 4 44).2 122 5 3 ((y_num σ 0 4 44).2 110 27)) 0 20 59).2))
  else (false, (y_num σ 0 4 44).2)
theorem y_three_T {σ : sm_St} {lo hi a N p : Nat} {h0 h1 l2 h2 : Int32} (h : q_T σ lo hi) (ha : a ≠ 110) : q_T (y_three σ a N p h0 h1 l2 h2).2 lo (hi + 9) := by
  have t1 := y_num_T (a := 0) (b := h0) (e := 44) h
  have t2 := y_num_T (a := 0) (b := h1) (e := 44) (t1.row (m := N) (i := nI p) (v := (y_num σ 0 h0 44).2 110 27) ha)
  unfold y_three
  split
  · split
    · have t3 := y_num_T (a := l2) (b := h2) (e := 59) (t2.row (m := N) (i := nI p + 1) (v := (y_num (r_set (y_num σ 0 h0 44).2 a N (nI p) ((y_num σ 0 h0 44).2 110 27)) 0 h1 44).2 110 27) ha)
      split
      · exact (t3.row ha).mono (by omega) (by omega)
      · exact t3.mono (by omega) (by omega)
    · exact t2.mono (by omega) (by omega)
  · exact t1.mono (by omega) (by omega)
theorem y_wind_T {σ : sm_St} {lo hi : Nat} (h : q_T σ lo hi) : q_T (y_wind σ).2 lo (hi + 6) := by
  have t1 := y_num_T (a := 0) (b := 4) (e := 44) h
  have t2 := y_num_T (a := 0) (b := 20) (e := 59) (t1.row (k := 122) (m := 5) (i := 3) (v := (y_num σ 0 4 44).2 110 27) (by decide))
  have t3 := t2.row (k := 122) (m := 5) (i := 4) (v := (y_num (r_set (y_num σ 0 4 44).2 122 5 3 ((y_num σ 0 4 44).2 110 27)) 0 20 59).2 110 27) (by decide)
  unfold y_wind
  split
  · split
    · exact t3.mono (by omega) (by omega)
    · exact t2.mono (by omega) (by omega)
  · exact t1.mono (by omega) (by omega)

set_option maxHeartbeats 2000000 in
theorem c_y_three {σ : sm_St} {lo hi a N p : Nat} (ha : sm_aln a = some N) (ha0 : a ≠ 110) (hp : p + 2 < N) (hT : q_T σ lo hi) (hh : hi < 700) {h0 h1 l2 h2 : Int32} : sm_C yX6_three cX6_three 7 (some .boolean) 3 [.ref 110, .ref a, .int (nI p), .int h0, .int h1, .int l2, .int h2] σ (some (.int (sm_b ((y_three σ a N p h0 h1 l2 h2).1 = true)))) (y_three σ a N p h0 h1 l2 h2).2 := by
  refine sm_C.of (own := RX6) (by decide) rfl (Nat.le_of_ble_eq_true rfl) ?_
  have hN := (sm_aln_lt ha).2.2.2
  show sm_W RX6 cX6_three 7 (some .boolean) 3 (some (.int (sm_b ((y_three σ a N p h0 h1 l2 h2).1 = true)))) (y_three σ a N p h0 h1 l2 h2).2 0 [(0, .ref 110), (1, .ref a), (2, .int (nI p)), (3, .int h0), (4, .int h1), (5, .int l2), (6, .int h2)] [] σ
  refine sw_aload_n dX6_three_0 rfl ?_
  refine sw_iconst (v := 0) dX6_three_1 (by decide) ?_
  refine sw_iload_n dX6_three_2 rfl ?_
  refine sw_bipush (v := 44) dX6_three_3 (by decide) ?_
  refine sw_callV dX6_three_5 lV_X6_115 (c_y_num hT (by omega) _ _ _) rfl rfl rfl rfl (Nat.le_of_ble_eq_true rfl) (Nat.le_of_ble_eq_true rfl) ?_
  refine sw_if_ne (tgt := 13) dX6_three_8 (by decide) (fun h8 => ?_) (fun h8 => ?_)
  · refine sw_aload_n dX6_three_13 rfl ?_
    refine sw_iload_n dX6_three_14 rfl ?_
    refine sw_aload_n dX6_three_15 rfl ?_
    refine sw_getI dX6_three_16 fl_X6_112 rfl rfl ?_
    refine sw_iastR dX6_three_19 ha (vp_in_e (j := p) rfl (by omega) hN) ?_
    refine sw_aload_n dX6_three_20 rfl ?_
    refine sw_iconst (v := 0) dX6_three_21 (by decide) ?_
    refine sw_iload dX6_three_22 rfl ?_
    refine sw_bipush (v := 44) dX6_three_24 (by decide) ?_
    refine sw_callV dX6_three_26 lV_X6_115 (c_y_num ((y_num_T hT).row ha0) (by omega) _ _ _) rfl rfl rfl rfl (Nat.le_of_ble_eq_true rfl) (Nat.le_of_ble_eq_true rfl) ?_
    refine sw_if_ne (tgt := 34) dX6_three_29 (by decide) (fun h29 => ?_) (fun h29 => ?_)
    · refine sw_aload_n dX6_three_34 rfl ?_
      refine sw_iload_n dX6_three_35 rfl ?_
      refine sw_iconst (v := 1) dX6_three_36 (by decide) ?_
      refine sw_iadd dX6_three_37 ?_
      refine sw_aload_n dX6_three_38 rfl ?_
      refine sw_getI dX6_three_39 fl_X6_112 rfl rfl ?_
      refine sw_iastR dX6_three_42 ha (vp_in_e (j := p + 1) (by rw [nI_succ]) (by omega) hN) ?_
      refine sw_aload_n dX6_three_43 rfl ?_
      refine sw_iload dX6_three_44 rfl ?_
      refine sw_iload dX6_three_46 rfl ?_
      refine sw_bipush (v := 59) dX6_three_48 (by decide) ?_
      refine sw_callV dX6_three_50 lV_X6_115 (c_y_num ((y_num_T ((y_num_T hT).row ha0)).row ha0) (by omega) _ _ _) rfl rfl rfl rfl (Nat.le_of_ble_eq_true rfl) (Nat.le_of_ble_eq_true rfl) ?_
      refine sw_if_ne (tgt := 58) dX6_three_53 (by decide) (fun h53 => ?_) (fun h53 => ?_)
      · refine sw_aload_n dX6_three_58 rfl ?_
        refine sw_iload_n dX6_three_59 rfl ?_
        refine sw_iconst (v := 2) dX6_three_60 (by decide) ?_
        refine sw_iadd dX6_three_61 ?_
        refine sw_aload_n dX6_three_62 rfl ?_
        refine sw_getI dX6_three_63 fl_X6_112 rfl rfl ?_
        refine sw_iastR dX6_three_66 ha (vp_in_e (j := p + 2) (nI_add p 2) (by omega) hN) ?_
        refine sw_iconst (v := 1) dX6_three_67 (by decide) ?_
        refine sw_zret dX6_three_68 rfl rfl ?_ (by decide) ?_
        all_goals (first | with_reducible rfl | (simp_all [-Int32.not_lt, -Int32.not_le, sm_b_e0, sm_b_e1, sm_b_0e, sm_b_1e, y_three]))
      · refine sw_iconst (v := 0) dX6_three_56 (by decide) ?_
        refine sw_zret dX6_three_57 rfl rfl ?_ (by decide) ?_
        all_goals (first | with_reducible rfl | (simp_all [-Int32.not_lt, -Int32.not_le, sm_b_e0, sm_b_e1, sm_b_0e, sm_b_1e, y_three]))
    · refine sw_iconst (v := 0) dX6_three_32 (by decide) ?_
      refine sw_zret dX6_three_33 rfl rfl ?_ (by decide) ?_
      all_goals (first | with_reducible rfl | (simp_all [-Int32.not_lt, -Int32.not_le, sm_b_e0, sm_b_e1, sm_b_0e, sm_b_1e, y_three]))
  · refine sw_iconst (v := 0) dX6_three_11 (by decide) ?_
    refine sw_zret dX6_three_12 rfl rfl ?_ (by decide) ?_
    all_goals (first | with_reducible rfl | (simp_all [-Int32.not_lt, -Int32.not_le, sm_b_e0, sm_b_e1, sm_b_0e, sm_b_1e, y_three]))

set_option maxHeartbeats 2000000 in
theorem c_y_wind {σ : sm_St} {lo hi : Nat} (hT : q_T σ lo hi) (hh : hi < 700) : sm_C yX6_readsWind cX6_readsWind 1 (some .boolean) 3 [.ref 110] σ (some (.int (sm_b ((y_wind σ).1 = true)))) (y_wind σ).2 := by
  refine sm_C.of (own := RX6) (by decide) rfl (Nat.le_of_ble_eq_true rfl) ?_
  show sm_W RX6 cX6_readsWind 1 (some .boolean) 3 (some (.int (sm_b ((y_wind σ).1 = true)))) (y_wind σ).2 0 [(0, .ref 110)] [] σ
  refine sw_aload_n dX6_readsWind_0 rfl ?_
  refine sw_iconst (v := 0) dX6_readsWind_1 (by decide) ?_
  refine sw_iconst (v := 4) dX6_readsWind_2 (by decide) ?_
  refine sw_bipush (v := 44) dX6_readsWind_3 (by decide) ?_
  refine sw_callV dX6_readsWind_5 lV_X6_115 (c_y_num hT (by omega) _ _ _) rfl rfl rfl rfl (Nat.le_of_ble_eq_true rfl) (Nat.le_of_ble_eq_true rfl) ?_
  refine sw_if_ne (tgt := 13) dX6_readsWind_8 (by decide) (fun h8 => ?_) (fun h8 => ?_)
  · refine sw_aload_n dX6_readsWind_13 rfl ?_
    refine sw_getR (j := 122) dX6_readsWind_14 fl_X6_43 rfl rfl ?_
    refine sw_iconst (v := 3) dX6_readsWind_17 (by decide) ?_
    refine sw_aload_n dX6_readsWind_18 rfl ?_
    refine sw_getI dX6_readsWind_19 fl_X6_112 rfl rfl ?_
    refine sw_iastR dX6_readsWind_22 rfl (vp_in_nI (n := 3) (by decide) (by decide)) ?_
    refine sw_aload_n dX6_readsWind_23 rfl ?_
    refine sw_iconst (v := 0) dX6_readsWind_24 (by decide) ?_
    refine sw_bipush (v := 20) dX6_readsWind_25 (by decide) ?_
    refine sw_bipush (v := 59) dX6_readsWind_27 (by decide) ?_
    refine sw_callV dX6_readsWind_29 lV_X6_115 (c_y_num ((y_num_T hT).row (by decide)) (by omega) _ _ _) rfl rfl rfl rfl (Nat.le_of_ble_eq_true rfl) (Nat.le_of_ble_eq_true rfl) ?_
    refine sw_if_ne (tgt := 37) dX6_readsWind_32 (by decide) (fun h32 => ?_) (fun h32 => ?_)
    · refine sw_aload_n dX6_readsWind_37 rfl ?_
      refine sw_getR (j := 122) dX6_readsWind_38 fl_X6_43 rfl rfl ?_
      refine sw_iconst (v := 4) dX6_readsWind_41 (by decide) ?_
      refine sw_aload_n dX6_readsWind_42 rfl ?_
      refine sw_getI dX6_readsWind_43 fl_X6_112 rfl rfl ?_
      refine sw_iastR dX6_readsWind_46 rfl (vp_in_nI (n := 4) (by decide) (by decide)) ?_
      refine sw_iconst (v := 1) dX6_readsWind_47 (by decide) ?_
      refine sw_zret dX6_readsWind_48 rfl rfl ?_ (by decide) ?_
      all_goals (first | with_reducible rfl | (simp_all [-Int32.not_lt, -Int32.not_le, sm_b_e0, sm_b_e1, sm_b_0e, sm_b_1e, y_wind]))
    · refine sw_iconst (v := 0) dX6_readsWind_35 (by decide) ?_
      refine sw_zret dX6_readsWind_36 rfl rfl ?_ (by decide) ?_
      all_goals (first | with_reducible rfl | (simp_all [-Int32.not_lt, -Int32.not_le, sm_b_e0, sm_b_e1, sm_b_0e, sm_b_1e, y_wind]))
  · refine sw_iconst (v := 0) dX6_readsWind_11 (by decide) ?_
    refine sw_zret dX6_readsWind_12 rfl rfl ?_ (by decide) ?_
    all_goals (first | with_reducible rfl | (simp_all [-Int32.not_lt, -Int32.not_le, sm_b_e0, sm_b_e1, sm_b_0e, sm_b_1e, y_wind]))

theorem q_lays_P {σ : sm_St} {a p n : Nat} (ha : a ≠ 110) (h : q_P σ n) : q_P (q_lays σ a p) n := by
  unfold q_P; rw [q_lays_off (Ne.symm ha)]; exact h
theorem q_lays_S {σ : sm_St} {a p n : Nat} (ha : a ≠ 110) (h : q_S σ n) : q_S (q_lays σ a p) n := by
  unfold q_S; rw [q_lays_off (Ne.symm ha)]; exact h
theorem q_notes_o {σ : sm_St} {u j : Nat} (h : j ≠ 31) : q_notes σ u 110 j = σ 110 j := by
  unfold q_notes
  split
  · rw [sm_set_ne h, q_lays_off (by decide), sm_set_ne h, sm_row_off (by decide)]
  · rw [sm_set_ne h, q_lays_off (by decide)]
theorem q_notes_off {σ : sm_St} {u q : Nat} (h : q ≠ 110) (h2 : q ≠ 125) : q_notes σ u q = σ q := by
  unfold q_notes
  split
  · rw [sm_set_off h, q_lays_off h2, sm_set_off h, sm_row_off h2]
  · rw [sm_set_off h, q_lays_off h2]
theorem q_notes_P {σ : sm_St} {u n : Nat} (h : q_P σ n) : q_P (q_notes σ u) n := by
  unfold q_P; rw [q_notes_o (by decide), q_notes_o (by decide)]; exact h
theorem q_notes_S {σ : sm_St} {u n : Nat} (h : q_S σ n) : q_S (q_notes σ u) n := by
  unfold q_S; rw [q_notes_o (by decide), q_notes_o (by decide)]; exact h
abbrev q_u (σ : sm_St) (u : Nat) : Prop := σ 110 31 = nI u ∧ u ≤ 8
def p_write (σ : sm_St) (c : Int32) : Int32 × sm_St := if sm_win c 32 126 = true then (if σ 110 20 = 200 then (-3, σ) else (σ 110 20 + 1, sm_set (r_set σ 121 200 (σ 110 20) c) 110 20 (σ 110 20 + 1))) else (-1, σ)
def p_post (σ : sm_St) (p w : Int32) : Int32 := if sm_win p 0 (σ 110 0 - 1) = true ∧ sm_win w 0 3 = true then (if w = 0 then r_at (σ 114) 6 p else if w = 1 then r_at (σ 115) 6 p else if w = 2 then r_at (σ 116) 6 p else r_at (σ 117) 6 p) else -1
def p_crew (σ : sm_St) (np : Nat) (c w : Int32) : Int32 := if sm_win c 0 (σ 110 1 - 1) = true ∧ sm_win w 0 5 = true then (if w = 0 then r_at (σ 111) 8 c else if w = 1 then r_at (σ 112) 8 c else if w = 2 then r_at (σ 113) 8 c else if w = 3 then q_nearest (q_V σ) np (r_at (σ 112) 8 c) else if w = 4 then q_str (q_V σ) np c else q_to (q_V σ) np c) else -1
def p_pull (σ : sm_St) (np nc : Nat) (w : Int32) : Int32 := if sm_win w 0 2 = true then (if w = 0 then q_pull (q_V σ) np 2 4 nc + 500 else if w = 1 then q_pull (q_V σ) np 3 1 nc + 500 else q_goes (q_V σ) np nc) else -1
def q_ps (np nc : Nat) : Nat → Int32 → sm_St → Int32 × sm_St
  | 0, s, σ => (s, σ)
  | n + 1, s, σ => q_ps np nc n (s + (if q_goes (q_V σ) np nc = 0 then 1 else 0)) (q_hour σ np nc)
def p_pass (σ : sm_St) (np nc u : Nat) (t : Int32) : Int32 × sm_St := if sm_win t 1 20 = true then (if σ 110 6 + t ≤ 999 then q_ps np nc t.toNatClampNeg 0 (q_notes σ u) else (-2, σ)) else (-1, σ)
def p_wind (σ : sm_St) (u : Nat) (d f : Int32) : Int32 × sm_St := if sm_win d 0 4 = true ∧ sm_win f 0 20 = true then (q_notes σ u 110 10, sm_set (sm_set (q_notes σ u) 110 9 d) 110 10 f) else (-1, σ)
def p_put (σ : sm_St) (u : Nat) (p x y : Int32) : Int32 × sm_St := if sm_win p 0 (σ 110 0 - 1) = true ∧ sm_cell x y = true then (if r_at (σ 117) 6 p = 0 ∧ r_at (σ 114) 6 p = x ∧ r_at (σ 115) 6 p = y then (-2, σ) else (r_at (σ 117) 6 p, q_sets (q_notes σ u) p x y (r_at (σ 116) 6 p))) else (-1, σ)
def p_smell (σ : sm_St) (u : Nat) (p s : Int32) : Int32 × sm_St := if sm_win p 0 (σ 110 0 - 1) = true ∧ sm_win s 0 5 = true then (if r_at (σ 117) 6 p = 1 ∨ r_at (σ 116) 6 p = s then (-2, σ) else (r_at (σ 116) 6 p, r_set (q_notes σ u) 116 6 p s)) else (-1, σ)
def p_take (σ : sm_St) (np u : Nat) (p : Int32) : Int32 × sm_St := if sm_win p 0 (σ 110 0 - 1) = true then (if r_at (σ 117) 6 p = 1 then (-2, σ) else (q_left (r_set (q_notes σ u) 117 6 p 1) np, r_set (q_notes σ u) 117 6 p 1)) else (-1, σ)
def p_undo (σ : sm_St) (u : Nat) : Int32 × sm_St := if u = 0 then (-2, σ) else (q_takes (sm_set σ 110 31 (nI (u - 1))) 125 (29 * (u - 1)) 110 31, q_takes (sm_set σ 110 31 (nI (u - 1))) 125 (29 * (u - 1)))
def p_behind (σ : sm_St) (np nc : Nat) (t w : Int32) : Int32 × sm_St := if sm_win t 0 40 = true ∧ sm_win w 0 1 = true then (if w = 0 then q_hours np nc t.toNatClampNeg (q_lays σ 126 0) 110 7 else q_hours np nc t.toNatClampNeg (q_lays σ 126 0) 110 8, q_takes (q_hours np nc t.toNatClampNeg (q_lays σ 126 0)) 126 0) else (-1, σ)
def p_seen (σ : sm_St) (x y d : Int32) : Int32 × sm_St := if sm_cell x y = true ∧ sm_win d 0 4 = true then (if σ 110 15 = 6 then (-3, σ) else (σ 110 15 + 1, sm_set (r_set (r_set (r_set σ 118 6 (σ 110 15) x) 119 6 (σ 110 15) y) 120 6 (σ 110 15) d) 110 15 (σ 110 15 + 1))) else (-1, σ)
def p_keep (σ : sm_St) (k : Nat) : Int32 × sm_St := if k = 2 then (-3, σ) else (nI k + 1, sm_set (q_lays σ 127 (29 * k)) 110 34 (nI k + 1))
def p_back (σ : sm_St) (k : Nat) : Int32 × sm_St := if k = 0 then (-2, σ) else (sm_set (q_takes (sm_set σ 110 34 (nI (k - 1))) 127 (29 * (k - 1))) 110 31 0 110 34, sm_set (q_takes (sm_set σ 110 34 (nI (k - 1))) 127 (29 * (k - 1))) 110 31 0)
def p_count (σ : sm_St) (np : Nat) (w : Int32) : Int32 := if sm_win w 0 12 = true then (if w = 0 then σ 110 0 else if w = 1 then σ 110 1 else if w = 2 then σ 110 6 else if w = 3 then σ 110 7 else if w = 4 then σ 110 8 else if w = 5 then σ 110 2 else if w = 6 then σ 110 9 else if w = 7 then σ 110 10 else if w = 8 then σ 110 0 - q_left σ np else if w = 9 then σ 110 15 else if w = 10 then σ 110 31 else if w = 11 then σ 110 34 else σ 110 20) else -1

set_option maxHeartbeats 2000000 in
theorem c_p_write {σ : sm_St} {z : Nat} (hz : σ 110 20 = nI z ∧ z ≤ 200) (c : Int32) : sm_C yX6_write cX6_write 2 (some .int) 1 [.ref 110, .int c] σ (some (.int ((p_write σ c).1))) (p_write σ c).2 := by
  refine sm_C.of (own := RX6) (by decide) rfl (Nat.le_of_ble_eq_true rfl) ?_
  show sm_W RX6 cX6_write 2 (some .int) 1 (some (.int ((p_write σ c).1))) (p_write σ c).2 0 [(0, .ref 110), (1, .int c)] [] σ
  refine sw_iload_n dX6_write_0 rfl ?_
  refine sw_bipush (v := 32) dX6_write_1 (by decide) ?_
  refine sw_bipush (v := 126) dX6_write_3 (by decide) ?_
  refine sw_callS dX6_write_5 lS_X6_94 (c_q_in _ _ _) rfl rfl (Nat.le_of_ble_eq_true rfl) (Nat.le_of_ble_eq_true rfl) ?_
  refine sw_if_ne (tgt := 13) dX6_write_8 (by decide) (fun h8 => ?_) (fun h8 => ?_)
  · refine sw_aload_n dX6_write_13 rfl ?_
    refine sw_getI dX6_write_14 fl_X6_98 rfl rfl ?_
    refine sw_sipush (v := 200) dX6_write_17 (by decide) ?_
    refine sw_icmp_ne (tgt := 26) dX6_write_20 (by decide) (fun h20 => ?_) (fun h20 => ?_)
    · refine sw_aload_n dX6_write_26 rfl ?_
      refine sw_getR (j := 121) dX6_write_27 fl_X6_40 rfl rfl ?_
      refine sw_aload_n dX6_write_30 rfl ?_
      refine sw_getI dX6_write_31 fl_X6_98 rfl rfl ?_
      refine sw_iload_n dX6_write_34 rfl ?_
      refine sw_iastR dX6_write_35 rfl (vp_in_e hz.1 (by have h3 : ¬ z = 200 := fun e => h20 (by rw [hz.1, e]; rfl); have := hz.2; omega) (by decide)) ?_
      refine sw_aload_n dX6_write_36 rfl ?_
      refine sw_dup dX6_write_37 rfl ?_
      refine sw_st (σ2 := r_set σ 121 200 (σ 110 20) c) rfl ?_
      refine sw_getI dX6_write_38 fl_X6_98 rfl rfl ?_
      refine sw_iconst (v := 1) dX6_write_41 (by decide) ?_
      refine sw_iadd dX6_write_42 ?_
      refine sw_put dX6_write_43 fl_X6_98 fi_5_20 rfl rfl ?_
      refine sw_aload_n dX6_write_46 rfl ?_
      refine sw_getI dX6_write_47 fl_X6_98 rfl rfl ?_
      refine sw_iret dX6_write_50 rfl rfl ?_ ?_
      all_goals (first | with_reducible rfl | (simp_all [-Int32.not_lt, -Int32.not_le, sm_b_e0, sm_b_e1, sm_b_0e, sm_b_1e, p_write, sm_set_eq, r_set_off]))
    · refine sw_bipush (v := -3) dX6_write_23 (by decide) ?_
      refine sw_iret dX6_write_25 rfl rfl ?_ ?_
      all_goals (first | with_reducible rfl | (simp_all [-Int32.not_lt, -Int32.not_le, sm_b_e0, sm_b_e1, sm_b_0e, sm_b_1e, p_write, sm_set_eq, r_set_off]))
  · refine sw_iconst (v := -1) dX6_write_11 (by decide) ?_
    refine sw_iret dX6_write_12 rfl rfl ?_ ?_
    all_goals (first | with_reducible rfl | (simp_all [-Int32.not_lt, -Int32.not_le, sm_b_e0, sm_b_e1, sm_b_0e, sm_b_1e, p_write, sm_set_eq, r_set_off]))

set_option maxHeartbeats 2000000 in
theorem c_p_wipe {σ : sm_St}  : sm_C yX6_wipe cX6_wipe 2 (some .int) 0 [.ref 110] σ (some (.int (σ 110 20))) (sm_set σ 110 20 0) := by
  refine sm_C.of (own := RX6) (by decide) rfl (Nat.le_of_ble_eq_true rfl) ?_
  show sm_W RX6 cX6_wipe 2 (some .int) 0 (some (.int (σ 110 20))) (sm_set σ 110 20 0) 0 [(0, .ref 110)] [] σ
  refine sw_aload_n dX6_wipe_0 rfl ?_
  refine sw_getI dX6_wipe_1 fl_X6_98 rfl rfl ?_
  refine sw_istore_n dX6_wipe_4 (by decide) rfl ?_
  refine sw_aload_n dX6_wipe_5 rfl ?_
  refine sw_iconst (v := 0) dX6_wipe_6 (by decide) ?_
  refine sw_put dX6_wipe_7 fl_X6_98 fi_5_20 rfl rfl ?_
  refine sw_iload_n dX6_wipe_10 rfl ?_
  refine sw_iret dX6_wipe_11 rfl rfl ?_ ?_
  all_goals (first | with_reducible rfl | (rfl))

set_option maxHeartbeats 2000000 in
theorem c_p_post {σ : sm_St} {np : Nat} (hN : q_N σ np) (p w : Int32) : sm_C yX6_post cX6_post 3 (some .int) 2 [.ref 110, .int p, .int w] σ (some (.int (p_post σ p w))) σ := by
  refine sm_C.of (own := RX6) (by decide) rfl (Nat.le_of_ble_eq_true rfl) ?_
  show sm_W RX6 cX6_post 3 (some .int) 2 (some (.int (p_post σ p w))) σ 0 [(0, .ref 110), (1, .int p), (2, .int w)] [] σ
  refine sw_aload_n dX6_post_0 rfl ?_
  refine sw_iload_n dX6_post_1 rfl ?_
  refine sw_callV dX6_post_2 lV_X6_189 (c_q_isPost _) rfl rfl rfl rfl (Nat.le_of_ble_eq_true rfl) (Nat.le_of_ble_eq_true rfl) ?_
  refine sw_if_eq (tgt := 17) dX6_post_5 (by decide) (fun h5 => ?_) (fun h5 => ?_)
  · refine sw_iconst (v := -1) dX6_post_17 (by decide) ?_
    refine sw_iret dX6_post_18 rfl rfl ?_ ?_
    all_goals (first | with_reducible rfl | (simp_all [-Int32.not_lt, -Int32.not_le, sm_b_e0, sm_b_e1, sm_b_0e, sm_b_1e, p_post]))
  · refine sw_iload_n dX6_post_8 rfl ?_
    refine sw_iconst (v := 0) dX6_post_9 (by decide) ?_
    refine sw_iconst (v := 3) dX6_post_10 (by decide) ?_
    refine sw_callS dX6_post_11 lS_X6_94 (c_q_in _ _ _) rfl rfl (Nat.le_of_ble_eq_true rfl) (Nat.le_of_ble_eq_true rfl) ?_
    refine sw_if_ne (tgt := 19) dX6_post_14 (by decide) (fun h14 => ?_) (fun h14 => ?_)
    · refine sw_iload_n dX6_post_19 rfl ?_
      refine sw_if_ne (tgt := 32) dX6_post_20 (by decide) (fun h20 => ?_) (fun h20 => ?_)
      · refine sw_iload_n dX6_post_32 rfl ?_
        refine sw_iconst (v := 1) dX6_post_33 (by decide) ?_
        refine sw_icmp_ne (tgt := 46) dX6_post_34 (by decide) (fun h34 => ?_) (fun h34 => ?_)
        · refine sw_iload_n dX6_post_46 rfl ?_
          refine sw_iconst (v := 2) dX6_post_47 (by decide) ?_
          refine sw_icmp_ne (tgt := 60) dX6_post_48 (by decide) (fun h48 => ?_) (fun h48 => ?_)
          · refine sw_aload_n dX6_post_60 rfl ?_
            refine sw_getR (j := 117) dX6_post_61 fl_X6_28 rfl rfl ?_
            refine sw_iload_n dX6_post_64 rfl ?_
            refine sw_ialdR dX6_post_65 rfl (q_isP hN (sm_b_t h5)) ?_
            refine sw_iret dX6_post_66 rfl rfl ?_ ?_
            all_goals (first | with_reducible rfl | (simp_all [-Int32.not_lt, -Int32.not_le, sm_b_e0, sm_b_e1, sm_b_0e, sm_b_1e, p_post]))
          · refine sw_aload_n dX6_post_51 rfl ?_
            refine sw_getR (j := 116) dX6_post_52 fl_X6_25 rfl rfl ?_
            refine sw_iload_n dX6_post_55 rfl ?_
            refine sw_ialdR dX6_post_56 rfl (q_isP hN (sm_b_t h5)) ?_
            refine sw_goto (tgt := 66) dX6_post_57 (by decide) ?_
            refine sw_iret dX6_post_66 rfl rfl ?_ ?_
            all_goals (first | with_reducible rfl | (simp_all [-Int32.not_lt, -Int32.not_le, sm_b_e0, sm_b_e1, sm_b_0e, sm_b_1e, p_post]))
        · refine sw_aload_n dX6_post_37 rfl ?_
          refine sw_getR (j := 115) dX6_post_38 fl_X6_22 rfl rfl ?_
          refine sw_iload_n dX6_post_41 rfl ?_
          refine sw_ialdR dX6_post_42 rfl (q_isP hN (sm_b_t h5)) ?_
          refine sw_goto (tgt := 66) dX6_post_43 (by decide) ?_
          refine sw_iret dX6_post_66 rfl rfl ?_ ?_
          all_goals (first | with_reducible rfl | (simp_all [-Int32.not_lt, -Int32.not_le, sm_b_e0, sm_b_e1, sm_b_0e, sm_b_1e, p_post]))
      · refine sw_aload_n dX6_post_23 rfl ?_
        refine sw_getR (j := 114) dX6_post_24 fl_X6_19 rfl rfl ?_
        refine sw_iload_n dX6_post_27 rfl ?_
        refine sw_ialdR dX6_post_28 rfl (q_isP hN (sm_b_t h5)) ?_
        refine sw_goto (tgt := 66) dX6_post_29 (by decide) ?_
        refine sw_iret dX6_post_66 rfl rfl ?_ ?_
        all_goals (first | with_reducible rfl | (simp_all [-Int32.not_lt, -Int32.not_le, sm_b_e0, sm_b_e1, sm_b_0e, sm_b_1e, p_post]))
    · refine sw_iconst (v := -1) dX6_post_17 (by decide) ?_
      refine sw_iret dX6_post_18 rfl rfl ?_ ?_
      all_goals (first | with_reducible rfl | (simp_all [-Int32.not_lt, -Int32.not_le, sm_b_e0, sm_b_e1, sm_b_0e, sm_b_1e, p_post]))

set_option maxHeartbeats 2000000 in
theorem c_p_crew {σ : sm_St} {np : Nat} (hN : q_N σ np) {nc : Nat} (hC : q_C σ nc) (h0 : q_0 σ) (c w : Int32) : sm_C yX6_crew cX6_crew 3 (some .int) 5 [.ref 110, .int c, .int w] σ (some (.int (p_crew σ np c w))) σ := by
  refine sm_C.of (own := RX6) (by decide) rfl (Nat.le_of_ble_eq_true rfl) ?_
  have hP := q_P_of hN h0
  show sm_W RX6 cX6_crew 3 (some .int) 5 (some (.int (p_crew σ np c w))) σ 0 [(0, .ref 110), (1, .int c), (2, .int w)] [] σ
  refine sw_aload_n dX6_crew_0 rfl ?_
  refine sw_iload_n dX6_crew_1 rfl ?_
  refine sw_callV dX6_crew_2 lV_X6_193 (c_q_isOne _) rfl rfl rfl rfl (Nat.le_of_ble_eq_true rfl) (Nat.le_of_ble_eq_true rfl) ?_
  refine sw_if_eq (tgt := 17) dX6_crew_5 (by decide) (fun h5 => ?_) (fun h5 => ?_)
  · refine sw_iconst (v := -1) dX6_crew_17 (by decide) ?_
    refine sw_iret dX6_crew_18 rfl rfl ?_ ?_
    all_goals (first | with_reducible rfl | (simp_all [-Int32.not_lt, -Int32.not_le, sm_b_e0, sm_b_e1, sm_b_0e, sm_b_1e, p_crew, q_V]))
  · refine sw_iload_n dX6_crew_8 rfl ?_
    refine sw_iconst (v := 0) dX6_crew_9 (by decide) ?_
    refine sw_iconst (v := 5) dX6_crew_10 (by decide) ?_
    refine sw_callS dX6_crew_11 lS_X6_94 (c_q_in _ _ _) rfl rfl (Nat.le_of_ble_eq_true rfl) (Nat.le_of_ble_eq_true rfl) ?_
    refine sw_if_ne (tgt := 19) dX6_crew_14 (by decide) (fun h14 => ?_) (fun h14 => ?_)
    · have hc := (q_isC hC (sm_b_t h5))
      refine sw_iload_n dX6_crew_19 rfl ?_
      refine sw_tab_X6_crew_20 (fun h20_0 => ?_) (fun h20_1 => ?_) (fun h20_2 => ?_) (fun h20_3 => ?_) (fun h20_4 => ?_) (fun h20n0 h20n1 h20n2 h20n3 h20n4 => ?_)
      · refine sw_aload_n dX6_crew_56 rfl ?_
        refine sw_getR (j := 111) dX6_crew_57 fl_X6_9 rfl rfl ?_
        refine sw_iload_n dX6_crew_60 rfl ?_
        refine sw_ialdR dX6_crew_61 rfl (q_isC hC (sm_b_t h5)) ?_
        refine sw_iret dX6_crew_62 rfl rfl ?_ ?_
        all_goals (first | with_reducible rfl | (simp_all [-Int32.not_lt, -Int32.not_le, sm_b_e0, sm_b_e1, sm_b_0e, sm_b_1e, p_crew, q_V]))
      · refine sw_aload_n dX6_crew_63 rfl ?_
        refine sw_getR (j := 112) dX6_crew_64 fl_X6_13 rfl rfl ?_
        refine sw_iload_n dX6_crew_67 rfl ?_
        refine sw_ialdR dX6_crew_68 rfl (q_isC hC (sm_b_t h5)) ?_
        refine sw_iret dX6_crew_69 rfl rfl ?_ ?_
        all_goals (first | with_reducible rfl | (simp_all [-Int32.not_lt, -Int32.not_le, sm_b_e0, sm_b_e1, sm_b_0e, sm_b_1e, p_crew, q_V]))
      · refine sw_aload_n dX6_crew_70 rfl ?_
        refine sw_getR (j := 113) dX6_crew_71 fl_X6_16 rfl rfl ?_
        refine sw_iload_n dX6_crew_74 rfl ?_
        refine sw_ialdR dX6_crew_75 rfl (q_isC hC (sm_b_t h5)) ?_
        refine sw_iret dX6_crew_76 rfl rfl ?_ ?_
        all_goals (first | with_reducible rfl | (simp_all [-Int32.not_lt, -Int32.not_le, sm_b_e0, sm_b_e1, sm_b_0e, sm_b_1e, p_crew, q_V]))
      · refine sw_aload_n dX6_crew_77 rfl ?_
        refine sw_aload_n dX6_crew_78 rfl ?_
        refine sw_getR (j := 112) dX6_crew_79 fl_X6_13 rfl rfl ?_
        refine sw_iload_n dX6_crew_82 rfl ?_
        refine sw_ialdR dX6_crew_83 rfl (q_isC hC (sm_b_t h5)) ?_
        refine sw_callV dX6_crew_84 lV_X6_159 (c_q_nearest _ hP) rfl rfl rfl rfl (Nat.le_of_ble_eq_true rfl) (Nat.le_of_ble_eq_true rfl) ?_
        refine sw_iret dX6_crew_87 rfl rfl ?_ ?_
        all_goals (first | with_reducible rfl | (simp_all [-Int32.not_lt, -Int32.not_le, sm_b_e0, sm_b_e1, sm_b_0e, sm_b_1e, p_crew, q_V]))
      · refine sw_aload_n dX6_crew_88 rfl ?_
        refine sw_iload_n dX6_crew_89 rfl ?_
        refine sw_callV dX6_crew_90 lV_X6_166 (c_q_strength _ hP hc) rfl rfl rfl rfl (Nat.le_of_ble_eq_true rfl) (Nat.le_of_ble_eq_true rfl) ?_
        refine sw_iret dX6_crew_93 rfl rfl ?_ ?_
        all_goals (first | with_reducible rfl | (simp_all [-Int32.not_lt, -Int32.not_le, sm_b_e0, sm_b_e1, sm_b_0e, sm_b_1e, p_crew, q_V]))
      · refine sw_aload_n dX6_crew_94 rfl ?_
        refine sw_iload_n dX6_crew_95 rfl ?_
        refine sw_callV dX6_crew_96 lV_X6_172 (c_q_towards _ hP hc) rfl rfl rfl rfl (Nat.le_of_ble_eq_true rfl) (Nat.le_of_ble_eq_true rfl) ?_
        refine sw_iret dX6_crew_99 rfl rfl ?_ ?_
        all_goals (first | with_reducible rfl | (simp_all [-Int32.not_lt, -Int32.not_le, sm_b_e0, sm_b_e1, sm_b_0e, sm_b_1e, p_crew, q_V]))
    · refine sw_iconst (v := -1) dX6_crew_17 (by decide) ?_
      refine sw_iret dX6_crew_18 rfl rfl ?_ ?_
      all_goals (first | with_reducible rfl | (simp_all [-Int32.not_lt, -Int32.not_le, sm_b_e0, sm_b_e1, sm_b_0e, sm_b_1e, p_crew, q_V]))

set_option maxHeartbeats 2000000 in
theorem c_p_pull {σ : sm_St} {np : Nat} (hN : q_N σ np) {nc : Nat} (hC : q_C σ nc) (h0 : q_0 σ) (w : Int32) : sm_C yX6_pull cX6_pull 2 (some .int) 7 [.ref 110, .int w] σ (some (.int (p_pull σ np nc w))) σ := by
  refine sm_C.of (own := RX6) (by decide) rfl (Nat.le_of_ble_eq_true rfl) ?_
  have hP := q_P_of hN h0
  have hS := q_S_of hC h0
  show sm_W RX6 cX6_pull 2 (some .int) 7 (some (.int (p_pull σ np nc w))) σ 0 [(0, .ref 110), (1, .int w)] [] σ
  refine sw_iload_n dX6_pull_0 rfl ?_
  refine sw_iconst (v := 0) dX6_pull_1 (by decide) ?_
  refine sw_iconst (v := 2) dX6_pull_2 (by decide) ?_
  refine sw_callS dX6_pull_3 lS_X6_94 (c_q_in _ _ _) rfl rfl (Nat.le_of_ble_eq_true rfl) (Nat.le_of_ble_eq_true rfl) ?_
  refine sw_if_ne (tgt := 11) dX6_pull_6 (by decide) (fun h6 => ?_) (fun h6 => ?_)
  · refine sw_iload_n dX6_pull_11 rfl ?_
    refine sw_if_ne (tgt := 28) dX6_pull_12 (by decide) (fun h12 => ?_) (fun h12 => ?_)
    · refine sw_iload_n dX6_pull_28 rfl ?_
      refine sw_iconst (v := 1) dX6_pull_29 (by decide) ?_
      refine sw_icmp_ne (tgt := 46) dX6_pull_30 (by decide) (fun h30 => ?_) (fun h30 => ?_)
      · refine sw_aload_n dX6_pull_46 rfl ?_
        refine sw_callV dX6_pull_47 lV_X6_183 (c_q_goesTo hP hS) rfl rfl rfl rfl (Nat.le_of_ble_eq_true rfl) (Nat.le_of_ble_eq_true rfl) ?_
        refine sw_iret dX6_pull_50 rfl rfl ?_ ?_
        all_goals (first | with_reducible rfl | (simp_all [-Int32.not_lt, -Int32.not_le, sm_b_e0, sm_b_e1, sm_b_0e, sm_b_1e, p_pull]))
      · refine sw_aload_n dX6_pull_33 rfl ?_
        refine sw_iconst (v := 3) dX6_pull_34 (by decide) ?_
        refine sw_iconst (v := 1) dX6_pull_35 (by decide) ?_
        refine sw_callV dX6_pull_36 lV_X6_175 (c_q_pullBy _ _ hP hS) rfl rfl rfl rfl (Nat.le_of_ble_eq_true rfl) (Nat.le_of_ble_eq_true rfl) ?_
        refine sw_sipush (v := 500) dX6_pull_39 (by decide) ?_
        refine sw_iadd dX6_pull_42 ?_
        refine sw_goto (tgt := 50) dX6_pull_43 (by decide) ?_
        refine sw_iret dX6_pull_50 rfl rfl ?_ ?_
        all_goals (first | with_reducible rfl | (simp_all [-Int32.not_lt, -Int32.not_le, sm_b_e0, sm_b_e1, sm_b_0e, sm_b_1e, p_pull]))
    · refine sw_aload_n dX6_pull_15 rfl ?_
      refine sw_iconst (v := 2) dX6_pull_16 (by decide) ?_
      refine sw_iconst (v := 4) dX6_pull_17 (by decide) ?_
      refine sw_callV dX6_pull_18 lV_X6_175 (c_q_pullBy _ _ hP hS) rfl rfl rfl rfl (Nat.le_of_ble_eq_true rfl) (Nat.le_of_ble_eq_true rfl) ?_
      refine sw_sipush (v := 500) dX6_pull_21 (by decide) ?_
      refine sw_iadd dX6_pull_24 ?_
      refine sw_goto (tgt := 50) dX6_pull_25 (by decide) ?_
      refine sw_iret dX6_pull_50 rfl rfl ?_ ?_
      all_goals (first | with_reducible rfl | (simp_all [-Int32.not_lt, -Int32.not_le, sm_b_e0, sm_b_e1, sm_b_0e, sm_b_1e, p_pull]))
  · refine sw_iconst (v := -1) dX6_pull_9 (by decide) ?_
    refine sw_iret dX6_pull_10 rfl rfl ?_ ?_
    all_goals (first | with_reducible rfl | (simp_all [-Int32.not_lt, -Int32.not_le, sm_b_e0, sm_b_e1, sm_b_0e, sm_b_1e, p_pull]))

set_option maxHeartbeats 2000000 in
theorem l_p_pass {np nc : Nat} {t : Int32} : ∀ (n : Nat) (i : Nat) (s : Int32) (τ : sm_St), i + n = t.toNatClampNeg → q_P τ np → q_S τ nc → sm_W RX6 cX6_pass 5 (some .int) 8 (some (.int (q_ps np nc n s τ).1)) (q_ps np nc n s τ).2 35 [(0, .ref 110), (1, .int t), (2, .int s), (3, .int (nI i))] [] τ := by
  intro n
  induction n with
  | zero =>
    intro i s τ h1 hP hS
    refine sw_iload_n dX6_pass_35 rfl ?_
    refine sw_iload_n dX6_pass_36 rfl ?_
    refine sw_icmp_ge (tgt := 65) dX6_pass_37 (by decide) (fun _ => ?_) (fun h => absurd ((sm_le_clamp (by have := sm_clamp_lt t; omega)).mpr (by omega)) h)
    refine sw_iload_n dX6_pass_65 rfl ?_
    refine sw_iret dX6_pass_66 rfl rfl ?_ ?_
    all_goals (first | with_reducible rfl | (rfl))
  | succ n ih =>
    intro i s τ h1 hP hS
    refine sw_iload_n dX6_pass_35 rfl ?_
    refine sw_iload_n dX6_pass_36 rfl ?_
    refine sw_icmp_ge (tgt := 65) dX6_pass_37 (by decide) (fun h => absurd h ((fun h => absurd ((sm_le_clamp (by have := sm_clamp_lt t; omega)).mp h) (by omega)))) (fun _ => ?_)
    refine sw_aload_n dX6_pass_40 rfl ?_
    refine sw_callV dX6_pass_41 lV_X6_186 (c_q_passes hP hS) rfl rfl rfl rfl (Nat.le_of_ble_eq_true rfl) (Nat.le_of_ble_eq_true rfl) ?_
    refine sw_istore dX6_pass_44 (by decide) rfl ?_
    refine sw_iload_n dX6_pass_46 rfl ?_
    refine sw_iload dX6_pass_47 rfl ?_
    refine sw_if_eq (tgt := 56) dX6_pass_49 (by decide) (fun h49 => ?_) (fun h49 => ?_)
    · refine sw_iconst (v := 0) dX6_pass_56 (by decide) ?_
      refine sw_iadd dX6_pass_57 ?_
      refine sw_istore_n dX6_pass_58 (by decide) rfl ?_
      refine sw_iinc dX6_pass_59 rfl rfl (by decide) rfl ?_
      refine sw_goto (tgt := 35) dX6_pass_62 (by decide) ?_
      have e : q_ps np nc (n + 1) s τ = q_ps np nc n (s + (if q_goes (q_V τ) np nc = 0 then 1 else 0)) (q_hour τ np nc) := rfl
      rw [e]
      refine sw_lv (ih (i + 1) _ _ (by omega) (q_hour_P hP) (q_hour_S hS)) (And.intro rfl (And.intro rfl (And.intro (sm_e rfl ?_) (And.intro (sm_e rfl ?_) trivial))))
      all_goals (first | (rw [sm_i1, nI_succ]; done) | (simp_all [sm_b_e0]; done))
    · refine sw_iconst (v := 1) dX6_pass_52 (by decide) ?_
      refine sw_goto (tgt := 57) dX6_pass_53 (by decide) ?_
      refine sw_iadd dX6_pass_57 ?_
      refine sw_istore_n dX6_pass_58 (by decide) rfl ?_
      refine sw_iinc dX6_pass_59 rfl rfl (by decide) rfl ?_
      refine sw_goto (tgt := 35) dX6_pass_62 (by decide) ?_
      have e : q_ps np nc (n + 1) s τ = q_ps np nc n (s + (if q_goes (q_V τ) np nc = 0 then 1 else 0)) (q_hour τ np nc) := rfl
      rw [e]
      refine sw_lv (ih (i + 1) _ _ (by omega) (q_hour_P hP) (q_hour_S hS)) (And.intro rfl (And.intro rfl (And.intro (sm_e rfl ?_) (And.intro (sm_e rfl ?_) trivial))))
      all_goals (first | (rw [sm_i1, nI_succ]; done) | (simp_all [sm_b_e0]; done))

set_option maxHeartbeats 2000000 in
theorem c_p_pass {σ : sm_St} {np : Nat} (hN : q_N σ np) {nc : Nat} (hC : q_C σ nc) (h0 : q_0 σ) {u : Nat} (hu : q_u σ u) (t : Int32) : sm_C yX6_pass cX6_pass 5 (some .int) 8 [.ref 110, .int t] σ (some (.int ((p_pass σ np nc u t).1))) (p_pass σ np nc u t).2 := by
  refine sm_C.of (own := RX6) (by decide) rfl (Nat.le_of_ble_eq_true rfl) ?_
  have hP := q_P_of hN h0
  have hS := q_S_of hC h0
  show sm_W RX6 cX6_pass 5 (some .int) 8 (some (.int ((p_pass σ np nc u t).1))) (p_pass σ np nc u t).2 0 [(0, .ref 110), (1, .int t)] [] σ
  refine sw_iload_n dX6_pass_0 rfl ?_
  refine sw_iconst (v := 1) dX6_pass_1 (by decide) ?_
  refine sw_bipush (v := 20) dX6_pass_2 (by decide) ?_
  refine sw_callS dX6_pass_4 lS_X6_94 (c_q_in _ _ _) rfl rfl (Nat.le_of_ble_eq_true rfl) (Nat.le_of_ble_eq_true rfl) ?_
  refine sw_if_ne (tgt := 12) dX6_pass_7 (by decide) (fun h7 => ?_) (fun h7 => ?_)
  · refine sw_aload_n dX6_pass_12 rfl ?_
    refine sw_getI dX6_pass_13 fl_X6_137 rfl rfl ?_
    refine sw_iload_n dX6_pass_16 rfl ?_
    refine sw_iadd dX6_pass_17 ?_
    refine sw_sipush (v := 999) dX6_pass_18 (by decide) ?_
    refine sw_icmp_le (tgt := 27) dX6_pass_21 (by decide) (fun h21 => ?_) (fun h21 => ?_)
    · refine sw_aload_n dX6_pass_27 rfl ?_
      refine sw_callV dX6_pass_28 lV_X6_200 (c_q_notes hu) rfl rfl rfl rfl (Nat.le_of_ble_eq_true rfl) (Nat.le_of_ble_eq_true rfl) ?_
      refine sw_iconst (v := 0) dX6_pass_31 (by decide) ?_
      refine sw_istore_n dX6_pass_32 (by decide) rfl ?_
      refine sw_iconst (v := 0) dX6_pass_33 (by decide) ?_
      refine sw_istore_n dX6_pass_34 (by decide) rfl ?_
      have e : p_pass σ np nc u t = q_ps np nc t.toNatClampNeg 0 (q_notes σ u) := by simp_all [p_pass, sm_b_e0]
      rw [e]
      refine sw_lv (l_p_pass _ 0 0 _ (by omega) (q_notes_P hP) (q_notes_S hS)) (And.intro rfl (And.intro rfl (And.intro rfl (And.intro rfl trivial))))
    · refine sw_bipush (v := -2) dX6_pass_24 (by decide) ?_
      refine sw_iret dX6_pass_26 rfl rfl ?_ ?_
      all_goals (first | with_reducible rfl | (simp_all [-Int32.not_lt, -Int32.not_le, sm_b_e0, sm_b_e1, sm_b_0e, sm_b_1e, p_pass]))
  · refine sw_iconst (v := -1) dX6_pass_10 (by decide) ?_
    refine sw_iret dX6_pass_11 rfl rfl ?_ ?_
    all_goals (first | with_reducible rfl | (simp_all [-Int32.not_lt, -Int32.not_le, sm_b_e0, sm_b_e1, sm_b_0e, sm_b_1e, p_pass]))

set_option maxHeartbeats 2000000 in
theorem c_p_wind {σ : sm_St} {u : Nat} (hu : q_u σ u) (d f : Int32) : sm_C yX6_wind cX6_wind 4 (some .int) 3 [.ref 110, .int d, .int f] σ (some (.int ((p_wind σ u d f).1))) (p_wind σ u d f).2 := by
  refine sm_C.of (own := RX6) (by decide) rfl (Nat.le_of_ble_eq_true rfl) ?_
  show sm_W RX6 cX6_wind 4 (some .int) 3 (some (.int ((p_wind σ u d f).1))) (p_wind σ u d f).2 0 [(0, .ref 110), (1, .int d), (2, .int f)] [] σ
  refine sw_iload_n dX6_wind_0 rfl ?_
  refine sw_iconst (v := 0) dX6_wind_1 (by decide) ?_
  refine sw_iconst (v := 4) dX6_wind_2 (by decide) ?_
  refine sw_callS dX6_wind_3 lS_X6_94 (c_q_in _ _ _) rfl rfl (Nat.le_of_ble_eq_true rfl) (Nat.le_of_ble_eq_true rfl) ?_
  refine sw_if_eq (tgt := 19) dX6_wind_6 (by decide) (fun h6 => ?_) (fun h6 => ?_)
  · refine sw_iconst (v := -1) dX6_wind_19 (by decide) ?_
    refine sw_iret dX6_wind_20 rfl rfl ?_ ?_
    all_goals (first | with_reducible rfl | (simp_all [-Int32.not_lt, -Int32.not_le, sm_b_e0, sm_b_e1, sm_b_0e, sm_b_1e, p_wind]))
  · refine sw_iload_n dX6_wind_9 rfl ?_
    refine sw_iconst (v := 0) dX6_wind_10 (by decide) ?_
    refine sw_bipush (v := 20) dX6_wind_11 (by decide) ?_
    refine sw_callS dX6_wind_13 lS_X6_94 (c_q_in _ _ _) rfl rfl (Nat.le_of_ble_eq_true rfl) (Nat.le_of_ble_eq_true rfl) ?_
    refine sw_if_ne (tgt := 21) dX6_wind_16 (by decide) (fun h16 => ?_) (fun h16 => ?_)
    · refine sw_aload_n dX6_wind_21 rfl ?_
      refine sw_callV dX6_wind_22 lV_X6_200 (c_q_notes hu) rfl rfl rfl rfl (Nat.le_of_ble_eq_true rfl) (Nat.le_of_ble_eq_true rfl) ?_
      refine sw_aload_n dX6_wind_25 rfl ?_
      refine sw_getI dX6_wind_26 fl_X6_74 rfl rfl ?_
      refine sw_istore_n dX6_wind_29 (by decide) rfl ?_
      refine sw_aload_n dX6_wind_30 rfl ?_
      refine sw_iload_n dX6_wind_31 rfl ?_
      refine sw_put dX6_wind_32 fl_X6_71 fi_5_9 rfl rfl ?_
      refine sw_aload_n dX6_wind_35 rfl ?_
      refine sw_iload_n dX6_wind_36 rfl ?_
      refine sw_put dX6_wind_37 fl_X6_74 fi_5_10 rfl rfl ?_
      refine sw_iload_n dX6_wind_40 rfl ?_
      refine sw_iret dX6_wind_41 rfl rfl ?_ ?_
      all_goals (first | with_reducible rfl | (simp_all [-Int32.not_lt, -Int32.not_le, sm_b_e0, sm_b_e1, sm_b_0e, sm_b_1e, p_wind]))
    · refine sw_iconst (v := -1) dX6_wind_19 (by decide) ?_
      refine sw_iret dX6_wind_20 rfl rfl ?_ ?_
      all_goals (first | with_reducible rfl | (simp_all [-Int32.not_lt, -Int32.not_le, sm_b_e0, sm_b_e1, sm_b_0e, sm_b_1e, p_wind]))

set_option maxHeartbeats 2000000 in
theorem c_p_put {σ : sm_St} {np : Nat} (hN : q_N σ np) {u : Nat} (hu : q_u σ u) (p x y : Int32) : sm_C yX6_put cX6_put 5 (some .int) 3 [.ref 110, .int p, .int x, .int y] σ (some (.int ((p_put σ u p x y).1))) (p_put σ u p x y).2 := by
  refine sm_C.of (own := RX6) (by decide) rfl (Nat.le_of_ble_eq_true rfl) ?_
  show sm_W RX6 cX6_put 5 (some .int) 3 (some (.int ((p_put σ u p x y).1))) (p_put σ u p x y).2 0 [(0, .ref 110), (1, .int p), (2, .int x), (3, .int y)] [] σ
  refine sw_aload_n dX6_put_0 rfl ?_
  refine sw_iload_n dX6_put_1 rfl ?_
  refine sw_callV dX6_put_2 lV_X6_189 (c_q_isPost _) rfl rfl rfl rfl (Nat.le_of_ble_eq_true rfl) (Nat.le_of_ble_eq_true rfl) ?_
  refine sw_if_eq (tgt := 16) dX6_put_5 (by decide) (fun h5 => ?_) (fun h5 => ?_)
  · refine sw_iconst (v := -1) dX6_put_16 (by decide) ?_
    refine sw_iret dX6_put_17 rfl rfl ?_ ?_
    all_goals (first | with_reducible rfl | (simp_all [-Int32.not_lt, -Int32.not_le, sm_b_e0, sm_b_e1, sm_b_0e, sm_b_1e, p_put, q_notes_off]))
  · refine sw_iload_n dX6_put_8 rfl ?_
    refine sw_iload_n dX6_put_9 rfl ?_
    refine sw_callS dX6_put_10 lS_X6_179 (c_q_isCell _ _) rfl rfl (Nat.le_of_ble_eq_true rfl) (Nat.le_of_ble_eq_true rfl) ?_
    refine sw_if_ne (tgt := 18) dX6_put_13 (by decide) (fun h13 => ?_) (fun h13 => ?_)
    · refine sw_aload_n dX6_put_18 rfl ?_
      refine sw_getR (j := 117) dX6_put_19 fl_X6_28 rfl rfl ?_
      refine sw_iload_n dX6_put_22 rfl ?_
      refine sw_ialdR dX6_put_23 rfl (q_isP hN (sm_b_t h5)) ?_
      refine sw_if_ne (tgt := 50) dX6_put_24 (by decide) (fun h24 => ?_) (fun h24 => ?_)
      · refine sw_aload_n dX6_put_50 rfl ?_
        refine sw_callV dX6_put_51 lV_X6_200 (c_q_notes hu) rfl rfl rfl rfl (Nat.le_of_ble_eq_true rfl) (Nat.le_of_ble_eq_true rfl) ?_
        refine sw_aload_n dX6_put_54 rfl ?_
        refine sw_getR (j := 117) dX6_put_55 fl_X6_28 rfl rfl ?_
        refine sw_iload_n dX6_put_58 rfl ?_
        refine sw_ialdR dX6_put_59 rfl (q_isP hN (sm_b_t h5)) ?_
        refine sw_istore dX6_put_60 (by decide) rfl ?_
        refine sw_aload_n dX6_put_62 rfl ?_
        refine sw_iload_n dX6_put_63 rfl ?_
        refine sw_iload_n dX6_put_64 rfl ?_
        refine sw_iload_n dX6_put_65 rfl ?_
        refine sw_aload_n dX6_put_66 rfl ?_
        refine sw_getR (j := 116) dX6_put_67 fl_X6_25 rfl rfl ?_
        refine sw_iload_n dX6_put_70 rfl ?_
        refine sw_ialdR dX6_put_71 rfl (q_isP hN (sm_b_t h5)) ?_
        refine sw_callV dX6_put_72 lV_X6_87 (c_q_sets _ _ _ _ (q_isP hN (sm_b_t h5))) rfl rfl rfl rfl (Nat.le_of_ble_eq_true rfl) (Nat.le_of_ble_eq_true rfl) ?_
        refine sw_iload dX6_put_75 rfl ?_
        refine sw_iret dX6_put_77 rfl rfl ?_ ?_
        all_goals (first | with_reducible rfl | (simp_all [-Int32.not_lt, -Int32.not_le, sm_b_e0, sm_b_e1, sm_b_0e, sm_b_1e, p_put, q_notes_off]))
      · refine sw_aload_n dX6_put_27 rfl ?_
        refine sw_getR (j := 114) dX6_put_28 fl_X6_19 rfl rfl ?_
        refine sw_iload_n dX6_put_31 rfl ?_
        refine sw_ialdR dX6_put_32 rfl (q_isP hN (sm_b_t h5)) ?_
        refine sw_iload_n dX6_put_33 rfl ?_
        refine sw_icmp_ne (tgt := 50) dX6_put_34 (by decide) (fun h34 => ?_) (fun h34 => ?_)
        · refine sw_aload_n dX6_put_50 rfl ?_
          refine sw_callV dX6_put_51 lV_X6_200 (c_q_notes hu) rfl rfl rfl rfl (Nat.le_of_ble_eq_true rfl) (Nat.le_of_ble_eq_true rfl) ?_
          refine sw_aload_n dX6_put_54 rfl ?_
          refine sw_getR (j := 117) dX6_put_55 fl_X6_28 rfl rfl ?_
          refine sw_iload_n dX6_put_58 rfl ?_
          refine sw_ialdR dX6_put_59 rfl (q_isP hN (sm_b_t h5)) ?_
          refine sw_istore dX6_put_60 (by decide) rfl ?_
          refine sw_aload_n dX6_put_62 rfl ?_
          refine sw_iload_n dX6_put_63 rfl ?_
          refine sw_iload_n dX6_put_64 rfl ?_
          refine sw_iload_n dX6_put_65 rfl ?_
          refine sw_aload_n dX6_put_66 rfl ?_
          refine sw_getR (j := 116) dX6_put_67 fl_X6_25 rfl rfl ?_
          refine sw_iload_n dX6_put_70 rfl ?_
          refine sw_ialdR dX6_put_71 rfl (q_isP hN (sm_b_t h5)) ?_
          refine sw_callV dX6_put_72 lV_X6_87 (c_q_sets _ _ _ _ (q_isP hN (sm_b_t h5))) rfl rfl rfl rfl (Nat.le_of_ble_eq_true rfl) (Nat.le_of_ble_eq_true rfl) ?_
          refine sw_iload dX6_put_75 rfl ?_
          refine sw_iret dX6_put_77 rfl rfl ?_ ?_
          all_goals (first | with_reducible rfl | (simp_all [-Int32.not_lt, -Int32.not_le, sm_b_e0, sm_b_e1, sm_b_0e, sm_b_1e, p_put, q_notes_off]))
        · refine sw_aload_n dX6_put_37 rfl ?_
          refine sw_getR (j := 115) dX6_put_38 fl_X6_22 rfl rfl ?_
          refine sw_iload_n dX6_put_41 rfl ?_
          refine sw_ialdR dX6_put_42 rfl (q_isP hN (sm_b_t h5)) ?_
          refine sw_iload_n dX6_put_43 rfl ?_
          refine sw_icmp_ne (tgt := 50) dX6_put_44 (by decide) (fun h44 => ?_) (fun h44 => ?_)
          · refine sw_aload_n dX6_put_50 rfl ?_
            refine sw_callV dX6_put_51 lV_X6_200 (c_q_notes hu) rfl rfl rfl rfl (Nat.le_of_ble_eq_true rfl) (Nat.le_of_ble_eq_true rfl) ?_
            refine sw_aload_n dX6_put_54 rfl ?_
            refine sw_getR (j := 117) dX6_put_55 fl_X6_28 rfl rfl ?_
            refine sw_iload_n dX6_put_58 rfl ?_
            refine sw_ialdR dX6_put_59 rfl (q_isP hN (sm_b_t h5)) ?_
            refine sw_istore dX6_put_60 (by decide) rfl ?_
            refine sw_aload_n dX6_put_62 rfl ?_
            refine sw_iload_n dX6_put_63 rfl ?_
            refine sw_iload_n dX6_put_64 rfl ?_
            refine sw_iload_n dX6_put_65 rfl ?_
            refine sw_aload_n dX6_put_66 rfl ?_
            refine sw_getR (j := 116) dX6_put_67 fl_X6_25 rfl rfl ?_
            refine sw_iload_n dX6_put_70 rfl ?_
            refine sw_ialdR dX6_put_71 rfl (q_isP hN (sm_b_t h5)) ?_
            refine sw_callV dX6_put_72 lV_X6_87 (c_q_sets _ _ _ _ (q_isP hN (sm_b_t h5))) rfl rfl rfl rfl (Nat.le_of_ble_eq_true rfl) (Nat.le_of_ble_eq_true rfl) ?_
            refine sw_iload dX6_put_75 rfl ?_
            refine sw_iret dX6_put_77 rfl rfl ?_ ?_
            all_goals (first | with_reducible rfl | (simp_all [-Int32.not_lt, -Int32.not_le, sm_b_e0, sm_b_e1, sm_b_0e, sm_b_1e, p_put, q_notes_off]))
          · refine sw_bipush (v := -2) dX6_put_47 (by decide) ?_
            refine sw_iret dX6_put_49 rfl rfl ?_ ?_
            all_goals (first | with_reducible rfl | (simp_all [-Int32.not_lt, -Int32.not_le, sm_b_e0, sm_b_e1, sm_b_0e, sm_b_1e, p_put, q_notes_off]))
    · refine sw_iconst (v := -1) dX6_put_16 (by decide) ?_
      refine sw_iret dX6_put_17 rfl rfl ?_ ?_
      all_goals (first | with_reducible rfl | (simp_all [-Int32.not_lt, -Int32.not_le, sm_b_e0, sm_b_e1, sm_b_0e, sm_b_1e, p_put, q_notes_off]))

set_option maxHeartbeats 2000000 in
theorem c_p_smell {σ : sm_St} {np : Nat} (hN : q_N σ np) {u : Nat} (hu : q_u σ u) (p s : Int32) : sm_C yX6_smell cX6_smell 4 (some .int) 3 [.ref 110, .int p, .int s] σ (some (.int ((p_smell σ u p s).1))) (p_smell σ u p s).2 := by
  refine sm_C.of (own := RX6) (by decide) rfl (Nat.le_of_ble_eq_true rfl) ?_
  show sm_W RX6 cX6_smell 4 (some .int) 3 (some (.int ((p_smell σ u p s).1))) (p_smell σ u p s).2 0 [(0, .ref 110), (1, .int p), (2, .int s)] [] σ
  refine sw_aload_n dX6_smell_0 rfl ?_
  refine sw_iload_n dX6_smell_1 rfl ?_
  refine sw_callV dX6_smell_2 lV_X6_189 (c_q_isPost _) rfl rfl rfl rfl (Nat.le_of_ble_eq_true rfl) (Nat.le_of_ble_eq_true rfl) ?_
  refine sw_if_eq (tgt := 17) dX6_smell_5 (by decide) (fun h5 => ?_) (fun h5 => ?_)
  · refine sw_iconst (v := -1) dX6_smell_17 (by decide) ?_
    refine sw_iret dX6_smell_18 rfl rfl ?_ ?_
    all_goals (first | with_reducible rfl | (simp_all [-Int32.not_lt, -Int32.not_le, sm_b_e0, sm_b_e1, sm_b_0e, sm_b_1e, p_smell, q_notes_off]))
  · refine sw_iload_n dX6_smell_8 rfl ?_
    refine sw_iconst (v := 0) dX6_smell_9 (by decide) ?_
    refine sw_iconst (v := 5) dX6_smell_10 (by decide) ?_
    refine sw_callS dX6_smell_11 lS_X6_94 (c_q_in _ _ _) rfl rfl (Nat.le_of_ble_eq_true rfl) (Nat.le_of_ble_eq_true rfl) ?_
    refine sw_if_ne (tgt := 19) dX6_smell_14 (by decide) (fun h14 => ?_) (fun h14 => ?_)
    · refine sw_aload_n dX6_smell_19 rfl ?_
      refine sw_getR (j := 117) dX6_smell_20 fl_X6_28 rfl rfl ?_
      refine sw_iload_n dX6_smell_23 rfl ?_
      refine sw_ialdR dX6_smell_24 rfl (q_isP hN (sm_b_t h5)) ?_
      refine sw_iconst (v := 1) dX6_smell_25 (by decide) ?_
      refine sw_icmp_eq (tgt := 39) dX6_smell_26 (by decide) (fun h26 => ?_) (fun h26 => ?_)
      · refine sw_bipush (v := -2) dX6_smell_39 (by decide) ?_
        refine sw_iret dX6_smell_41 rfl rfl ?_ ?_
        all_goals (first | with_reducible rfl | (simp_all [-Int32.not_lt, -Int32.not_le, sm_b_e0, sm_b_e1, sm_b_0e, sm_b_1e, p_smell, q_notes_off]))
      · refine sw_aload_n dX6_smell_29 rfl ?_
        refine sw_getR (j := 116) dX6_smell_30 fl_X6_25 rfl rfl ?_
        refine sw_iload_n dX6_smell_33 rfl ?_
        refine sw_ialdR dX6_smell_34 rfl (q_isP hN (sm_b_t h5)) ?_
        refine sw_iload_n dX6_smell_35 rfl ?_
        refine sw_icmp_ne (tgt := 42) dX6_smell_36 (by decide) (fun h36 => ?_) (fun h36 => ?_)
        · refine sw_aload_n dX6_smell_42 rfl ?_
          refine sw_callV dX6_smell_43 lV_X6_200 (c_q_notes hu) rfl rfl rfl rfl (Nat.le_of_ble_eq_true rfl) (Nat.le_of_ble_eq_true rfl) ?_
          refine sw_aload_n dX6_smell_46 rfl ?_
          refine sw_getR (j := 116) dX6_smell_47 fl_X6_25 rfl rfl ?_
          refine sw_iload_n dX6_smell_50 rfl ?_
          refine sw_ialdR dX6_smell_51 rfl (q_isP hN (sm_b_t h5)) ?_
          refine sw_istore_n dX6_smell_52 (by decide) rfl ?_
          refine sw_aload_n dX6_smell_53 rfl ?_
          refine sw_getR (j := 116) dX6_smell_54 fl_X6_25 rfl rfl ?_
          refine sw_iload_n dX6_smell_57 rfl ?_
          refine sw_iload_n dX6_smell_58 rfl ?_
          refine sw_iastR dX6_smell_59 rfl (q_isP hN (sm_b_t h5)) ?_
          refine sw_iload_n dX6_smell_60 rfl ?_
          refine sw_iret dX6_smell_61 rfl rfl ?_ ?_
          all_goals (first | with_reducible rfl | (simp_all [-Int32.not_lt, -Int32.not_le, sm_b_e0, sm_b_e1, sm_b_0e, sm_b_1e, p_smell, q_notes_off]))
        · refine sw_bipush (v := -2) dX6_smell_39 (by decide) ?_
          refine sw_iret dX6_smell_41 rfl rfl ?_ ?_
          all_goals (first | with_reducible rfl | (simp_all [-Int32.not_lt, -Int32.not_le, sm_b_e0, sm_b_e1, sm_b_0e, sm_b_1e, p_smell, q_notes_off]))
    · refine sw_iconst (v := -1) dX6_smell_17 (by decide) ?_
      refine sw_iret dX6_smell_18 rfl rfl ?_ ?_
      all_goals (first | with_reducible rfl | (simp_all [-Int32.not_lt, -Int32.not_le, sm_b_e0, sm_b_e1, sm_b_0e, sm_b_1e, p_smell, q_notes_off]))

set_option maxHeartbeats 2000000 in
theorem c_p_take {σ : sm_St} {np : Nat} (hN : q_N σ np) {u : Nat} (hu : q_u σ u) (p : Int32) : sm_C yX6_take cX6_take 2 (some .int) 3 [.ref 110, .int p] σ (some (.int ((p_take σ np u p).1))) (p_take σ np u p).2 := by
  refine sm_C.of (own := RX6) (by decide) rfl (Nat.le_of_ble_eq_true rfl) ?_
  show sm_W RX6 cX6_take 2 (some .int) 3 (some (.int ((p_take σ np u p).1))) (p_take σ np u p).2 0 [(0, .ref 110), (1, .int p)] [] σ
  refine sw_aload_n dX6_take_0 rfl ?_
  refine sw_iload_n dX6_take_1 rfl ?_
  refine sw_callV dX6_take_2 lV_X6_189 (c_q_isPost _) rfl rfl rfl rfl (Nat.le_of_ble_eq_true rfl) (Nat.le_of_ble_eq_true rfl) ?_
  refine sw_if_ne (tgt := 10) dX6_take_5 (by decide) (fun h5 => ?_) (fun h5 => ?_)
  · refine sw_aload_n dX6_take_10 rfl ?_
    refine sw_getR (j := 117) dX6_take_11 fl_X6_28 rfl rfl ?_
    refine sw_iload_n dX6_take_14 rfl ?_
    refine sw_ialdR dX6_take_15 rfl (q_isP hN (sm_b_t h5)) ?_
    refine sw_iconst (v := 1) dX6_take_16 (by decide) ?_
    refine sw_icmp_ne (tgt := 23) dX6_take_17 (by decide) (fun h17 => ?_) (fun h17 => ?_)
    · refine sw_aload_n dX6_take_23 rfl ?_
      refine sw_callV dX6_take_24 lV_X6_200 (c_q_notes hu) rfl rfl rfl rfl (Nat.le_of_ble_eq_true rfl) (Nat.le_of_ble_eq_true rfl) ?_
      refine sw_aload_n dX6_take_27 rfl ?_
      refine sw_getR (j := 117) dX6_take_28 fl_X6_28 rfl rfl ?_
      refine sw_iload_n dX6_take_31 rfl ?_
      refine sw_iconst (v := 1) dX6_take_32 (by decide) ?_
      refine sw_iastR dX6_take_33 rfl (q_isP hN (sm_b_t h5)) ?_
      refine sw_aload_n dX6_take_34 rfl ?_
      refine sw_callV dX6_take_35 lV_X6_203 (c_q_left (⟨by rw [r_set_off (by decide), q_notes_o (by decide)]; exact hN.1, hN.2⟩ : q_N _ np)) rfl rfl rfl rfl (Nat.le_of_ble_eq_true rfl) (Nat.le_of_ble_eq_true rfl) ?_
      refine sw_iret dX6_take_38 rfl rfl ?_ ?_
      all_goals (first | with_reducible rfl | (simp_all [-Int32.not_lt, -Int32.not_le, sm_b_e0, sm_b_e1, sm_b_0e, sm_b_1e, p_take]))
    · refine sw_bipush (v := -2) dX6_take_20 (by decide) ?_
      refine sw_iret dX6_take_22 rfl rfl ?_ ?_
      all_goals (first | with_reducible rfl | (simp_all [-Int32.not_lt, -Int32.not_le, sm_b_e0, sm_b_e1, sm_b_0e, sm_b_1e, p_take]))
  · refine sw_iconst (v := -1) dX6_take_8 (by decide) ?_
    refine sw_iret dX6_take_9 rfl rfl ?_ ?_
    all_goals (first | with_reducible rfl | (simp_all [-Int32.not_lt, -Int32.not_le, sm_b_e0, sm_b_e1, sm_b_0e, sm_b_1e, p_take]))

set_option maxHeartbeats 2000000 in
theorem c_p_undo {σ : sm_St} {u : Nat} (hu : q_u σ u)  : sm_C yX6_undo cX6_undo 1 (some .int) 2 [.ref 110] σ (some (.int ((p_undo σ u).1))) (p_undo σ u).2 := by
  refine sm_C.of (own := RX6) (by decide) rfl (Nat.le_of_ble_eq_true rfl) ?_
  show sm_W RX6 cX6_undo 1 (some .int) 2 (some (.int ((p_undo σ u).1))) (p_undo σ u).2 0 [(0, .ref 110)] [] σ
  refine sw_aload_n dX6_undo_0 rfl ?_
  refine sw_getI dX6_undo_1 fl_X6_143 rfl rfl ?_
  refine sw_if_ne (tgt := 10) dX6_undo_4 (by decide) (fun h4 => ?_) (fun h4 => ?_)
  · have hu9 : ¬ u = 0 := fun e => h4 (by rw [hu.1, e]; rfl)
    obtain ⟨v, rfl⟩ : ∃ v, u = v + 1 := ⟨u - 1, by omega⟩
    refine sw_aload_n dX6_undo_10 rfl ?_
    refine sw_dup dX6_undo_11 rfl ?_
    refine sw_getI dX6_undo_12 fl_X6_143 rfl rfl ?_
    refine sw_iconst (v := 1) dX6_undo_15 (by decide) ?_
    refine sw_isub dX6_undo_16 ?_
    refine sw_top (y := nI (v + 1 - 1)) (by rw [hu.1, nI_pred]; rfl) ?_
    refine sw_put dX6_undo_17 fl_X6_143 fi_5_31 rfl rfl ?_
    refine sw_aload_n dX6_undo_20 rfl ?_
    refine sw_aload_n dX6_undo_21 rfl ?_
    refine sw_getR (j := 125) dX6_undo_22 fl_X6_52 rfl rfl ?_
    refine sw_bipush (v := 29) dX6_undo_25 (by decide) ?_
    refine sw_aload_n dX6_undo_27 rfl ?_
    refine sw_getI dX6_undo_28 fl_X6_143 rfl rfl ?_
    refine sw_imul dX6_undo_31 ?_
    refine sw_top (y := nI (29 * (v + 1 - 1))) (by rw [sm_set_eq]; exact pk_mul 29 (v + 1 - 1)) ?_
    refine sw_callV dX6_undo_32 lV_X6_206 (c_q_takes (a := 125) (p := (29 * (v + 1 - 1))) rfl (by have := hu.2; omega) (by decide)) rfl rfl rfl rfl (Nat.le_of_ble_eq_true rfl) (Nat.le_of_ble_eq_true rfl) ?_
    refine sw_aload_n dX6_undo_35 rfl ?_
    refine sw_getI dX6_undo_36 fl_X6_143 rfl rfl ?_
    refine sw_iret dX6_undo_39 rfl rfl ?_ ?_
    all_goals (first | with_reducible rfl | (first | (rw [p_undo, if_pos (by have := hu.2; have e := hu.1; rw [h4, ← nI_0, nI_eq (by omega) (by omega)] at e; exact e.symm)]) | (rw [p_undo, if_neg hu9])))
  · refine sw_bipush (v := -2) dX6_undo_7 (by decide) ?_
    refine sw_iret dX6_undo_9 rfl rfl ?_ ?_
    all_goals (first | with_reducible rfl | (first | (rw [p_undo, if_pos (by have := hu.2; have e := hu.1; rw [h4, ← nI_0, nI_eq (by omega) (by omega)] at e; exact e.symm)]) | (rw [p_undo, if_neg hu9])))

set_option maxHeartbeats 2000000 in
theorem c_p_behind {σ : sm_St} {np : Nat} (hN : q_N σ np) {nc : Nat} (hC : q_C σ nc) (h0 : q_0 σ) (t w : Int32) : sm_C yX6_behind cX6_behind 4 (some .int) 9 [.ref 110, .int t, .int w] σ (some (.int ((p_behind σ np nc t w).1))) (p_behind σ np nc t w).2 := by
  refine sm_C.of (own := RX6) (by decide) rfl (Nat.le_of_ble_eq_true rfl) ?_
  have hP := q_P_of hN h0
  have hS := q_S_of hC h0
  show sm_W RX6 cX6_behind 4 (some .int) 9 (some (.int ((p_behind σ np nc t w).1))) (p_behind σ np nc t w).2 0 [(0, .ref 110), (1, .int t), (2, .int w)] [] σ
  refine sw_iload_n dX6_behind_0 rfl ?_
  refine sw_iconst (v := 0) dX6_behind_1 (by decide) ?_
  refine sw_bipush (v := 40) dX6_behind_2 (by decide) ?_
  refine sw_callS dX6_behind_4 lS_X6_94 (c_q_in _ _ _) rfl rfl (Nat.le_of_ble_eq_true rfl) (Nat.le_of_ble_eq_true rfl) ?_
  refine sw_if_eq (tgt := 19) dX6_behind_7 (by decide) (fun h7 => ?_) (fun h7 => ?_)
  · refine sw_iconst (v := -1) dX6_behind_19 (by decide) ?_
    refine sw_iret dX6_behind_20 rfl rfl ?_ ?_
    all_goals (first | with_reducible rfl | (simp_all [-Int32.not_lt, -Int32.not_le, sm_b_e0, sm_b_e1, sm_b_0e, sm_b_1e, p_behind]))
  · refine sw_iload_n dX6_behind_10 rfl ?_
    refine sw_iconst (v := 0) dX6_behind_11 (by decide) ?_
    refine sw_iconst (v := 1) dX6_behind_12 (by decide) ?_
    refine sw_callS dX6_behind_13 lS_X6_94 (c_q_in _ _ _) rfl rfl (Nat.le_of_ble_eq_true rfl) (Nat.le_of_ble_eq_true rfl) ?_
    refine sw_if_ne (tgt := 21) dX6_behind_16 (by decide) (fun h16 => ?_) (fun h16 => ?_)
    · refine sw_aload_n dX6_behind_21 rfl ?_
      refine sw_callV dX6_behind_22 lV_X6_209 (c_q_puts) rfl rfl rfl rfl (Nat.le_of_ble_eq_true rfl) (Nat.le_of_ble_eq_true rfl) ?_
      refine sw_aload_n dX6_behind_25 rfl ?_
      refine sw_iload_n dX6_behind_26 rfl ?_
      refine sw_callV dX6_behind_27 lV_X6_212 (c_q_goesOn _ (q_lays_P (by decide) hP) (q_lays_S (by decide) hS)) rfl rfl rfl rfl (Nat.le_of_ble_eq_true rfl) (Nat.le_of_ble_eq_true rfl) ?_
      refine sw_iload_n dX6_behind_30 rfl ?_
      refine sw_if_ne (tgt := 41) dX6_behind_31 (by decide) (fun h31 => ?_) (fun h31 => ?_)
      · refine sw_aload_n dX6_behind_41 rfl ?_
        refine sw_getI dX6_behind_42 fl_X6_65 rfl rfl ?_
        refine sw_istore_n dX6_behind_45 (by decide) rfl ?_
        refine sw_aload_n dX6_behind_46 rfl ?_
        refine sw_callV dX6_behind_47 lV_X6_216 (c_q_back) rfl rfl rfl rfl (Nat.le_of_ble_eq_true rfl) (Nat.le_of_ble_eq_true rfl) ?_
        refine sw_iload_n dX6_behind_50 rfl ?_
        refine sw_iret dX6_behind_51 rfl rfl ?_ ?_
        all_goals (first | with_reducible rfl | (simp_all [-Int32.not_lt, -Int32.not_le, sm_b_e0, sm_b_e1, sm_b_0e, sm_b_1e, p_behind]))
      · refine sw_aload_n dX6_behind_34 rfl ?_
        refine sw_getI dX6_behind_35 fl_X6_61 rfl rfl ?_
        refine sw_goto (tgt := 45) dX6_behind_38 (by decide) ?_
        refine sw_istore_n dX6_behind_45 (by decide) rfl ?_
        refine sw_aload_n dX6_behind_46 rfl ?_
        refine sw_callV dX6_behind_47 lV_X6_216 (c_q_back) rfl rfl rfl rfl (Nat.le_of_ble_eq_true rfl) (Nat.le_of_ble_eq_true rfl) ?_
        refine sw_iload_n dX6_behind_50 rfl ?_
        refine sw_iret dX6_behind_51 rfl rfl ?_ ?_
        all_goals (first | with_reducible rfl | (simp_all [-Int32.not_lt, -Int32.not_le, sm_b_e0, sm_b_e1, sm_b_0e, sm_b_1e, p_behind]))
    · refine sw_iconst (v := -1) dX6_behind_19 (by decide) ?_
      refine sw_iret dX6_behind_20 rfl rfl ?_ ?_
      all_goals (first | with_reducible rfl | (simp_all [-Int32.not_lt, -Int32.not_le, sm_b_e0, sm_b_e1, sm_b_0e, sm_b_1e, p_behind]))

set_option maxHeartbeats 2000000 in
theorem c_p_seen {σ : sm_St} {z : Nat} (hz : σ 110 15 = nI z ∧ z ≤ 6) (x y d : Int32) : sm_C yX6_seen cX6_seen 4 (some .int) 2 [.ref 110, .int x, .int y, .int d] σ (some (.int ((p_seen σ x y d).1))) (p_seen σ x y d).2 := by
  refine sm_C.of (own := RX6) (by decide) rfl (Nat.le_of_ble_eq_true rfl) ?_
  show sm_W RX6 cX6_seen 4 (some .int) 2 (some (.int ((p_seen σ x y d).1))) (p_seen σ x y d).2 0 [(0, .ref 110), (1, .int x), (2, .int y), (3, .int d)] [] σ
  refine sw_iload_n dX6_seen_0 rfl ?_
  refine sw_iload_n dX6_seen_1 rfl ?_
  refine sw_callS dX6_seen_2 lS_X6_179 (c_q_isCell _ _) rfl rfl (Nat.le_of_ble_eq_true rfl) (Nat.le_of_ble_eq_true rfl) ?_
  refine sw_if_eq (tgt := 17) dX6_seen_5 (by decide) (fun h5 => ?_) (fun h5 => ?_)
  · refine sw_iconst (v := -1) dX6_seen_17 (by decide) ?_
    refine sw_iret dX6_seen_18 rfl rfl ?_ ?_
    all_goals (first | with_reducible rfl | (simp_all [-Int32.not_lt, -Int32.not_le, sm_b_e0, sm_b_e1, sm_b_0e, sm_b_1e, p_seen, sm_set_eq, r_set_off]))
  · refine sw_iload_n dX6_seen_8 rfl ?_
    refine sw_iconst (v := 0) dX6_seen_9 (by decide) ?_
    refine sw_iconst (v := 4) dX6_seen_10 (by decide) ?_
    refine sw_callS dX6_seen_11 lS_X6_94 (c_q_in _ _ _) rfl rfl (Nat.le_of_ble_eq_true rfl) (Nat.le_of_ble_eq_true rfl) ?_
    refine sw_if_ne (tgt := 19) dX6_seen_14 (by decide) (fun h14 => ?_) (fun h14 => ?_)
    · refine sw_aload_n dX6_seen_19 rfl ?_
      refine sw_getI dX6_seen_20 fl_X6_140 rfl rfl ?_
      refine sw_bipush (v := 6) dX6_seen_23 (by decide) ?_
      refine sw_icmp_ne (tgt := 31) dX6_seen_25 (by decide) (fun h25 => ?_) (fun h25 => ?_)
      · have hz6 : z < 6 := by have h3 : ¬ z = 6 := fun e => h25 (by rw [hz.1, e]; rfl); have := hz.2; omega
        refine sw_aload_n dX6_seen_31 rfl ?_
        refine sw_getR (j := 118) dX6_seen_32 fl_X6_31 rfl rfl ?_
        refine sw_aload_n dX6_seen_35 rfl ?_
        refine sw_getI dX6_seen_36 fl_X6_140 rfl rfl ?_
        refine sw_iload_n dX6_seen_39 rfl ?_
        refine sw_iastR dX6_seen_40 rfl (vp_in_e hz.1 hz6 (by decide)) ?_
        refine sw_aload_n dX6_seen_41 rfl ?_
        refine sw_getR (j := 119) dX6_seen_42 fl_X6_34 rfl rfl ?_
        refine sw_aload_n dX6_seen_45 rfl ?_
        refine sw_getI dX6_seen_46 fl_X6_140 rfl rfl ?_
        refine sw_iload_n dX6_seen_49 rfl ?_
        refine sw_iastR dX6_seen_50 rfl (vp_in_e (by rw [r_set_off (by decide)]; exact hz.1) hz6 (by decide)) ?_
        refine sw_aload_n dX6_seen_51 rfl ?_
        refine sw_getR (j := 120) dX6_seen_52 fl_X6_37 rfl rfl ?_
        refine sw_aload_n dX6_seen_55 rfl ?_
        refine sw_getI dX6_seen_56 fl_X6_140 rfl rfl ?_
        refine sw_iload_n dX6_seen_59 rfl ?_
        refine sw_iastR dX6_seen_60 rfl (vp_in_e (by rw [r_set_off (by decide), r_set_off (by decide)]; exact hz.1) hz6 (by decide)) ?_
        refine sw_aload_n dX6_seen_61 rfl ?_
        refine sw_dup dX6_seen_62 rfl ?_
        refine sw_getI dX6_seen_63 fl_X6_140 rfl rfl ?_
        refine sw_iconst (v := 1) dX6_seen_66 (by decide) ?_
        refine sw_iadd dX6_seen_67 ?_
        refine sw_put dX6_seen_68 fl_X6_140 fi_5_15 rfl rfl ?_
        refine sw_aload_n dX6_seen_71 rfl ?_
        refine sw_getI dX6_seen_72 fl_X6_140 rfl rfl ?_
        refine sw_iret dX6_seen_75 rfl rfl ?_ ?_
        all_goals (first | with_reducible rfl | (simp_all [-Int32.not_lt, -Int32.not_le, sm_b_e0, sm_b_e1, sm_b_0e, sm_b_1e, p_seen, sm_set_eq, r_set_off]))
      · refine sw_bipush (v := -3) dX6_seen_28 (by decide) ?_
        refine sw_iret dX6_seen_30 rfl rfl ?_ ?_
        all_goals (first | with_reducible rfl | (simp_all [-Int32.not_lt, -Int32.not_le, sm_b_e0, sm_b_e1, sm_b_0e, sm_b_1e, p_seen, sm_set_eq, r_set_off]))
    · refine sw_iconst (v := -1) dX6_seen_17 (by decide) ?_
      refine sw_iret dX6_seen_18 rfl rfl ?_ ?_
      all_goals (first | with_reducible rfl | (simp_all [-Int32.not_lt, -Int32.not_le, sm_b_e0, sm_b_e1, sm_b_0e, sm_b_1e, p_seen, sm_set_eq, r_set_off]))

set_option maxHeartbeats 2000000 in
theorem c_p_forget {σ : sm_St}  : sm_C yX6_forget cX6_forget 2 (some .int) 0 [.ref 110] σ (some (.int (σ 110 15))) (sm_set σ 110 15 0) := by
  refine sm_C.of (own := RX6) (by decide) rfl (Nat.le_of_ble_eq_true rfl) ?_
  show sm_W RX6 cX6_forget 2 (some .int) 0 (some (.int (σ 110 15))) (sm_set σ 110 15 0) 0 [(0, .ref 110)] [] σ
  refine sw_aload_n dX6_forget_0 rfl ?_
  refine sw_getI dX6_forget_1 fl_X6_140 rfl rfl ?_
  refine sw_istore_n dX6_forget_4 (by decide) rfl ?_
  refine sw_aload_n dX6_forget_5 rfl ?_
  refine sw_iconst (v := 0) dX6_forget_6 (by decide) ?_
  refine sw_put dX6_forget_7 fl_X6_140 fi_5_15 rfl rfl ?_
  refine sw_iload_n dX6_forget_10 rfl ?_
  refine sw_iret dX6_forget_11 rfl rfl ?_ ?_
  all_goals (first | with_reducible rfl | (rfl))

set_option maxHeartbeats 2000000 in
theorem c_p_keep {σ : sm_St} {k : Nat} (hk : σ 110 34 = nI k ∧ k ≤ 2)  : sm_C yX6_keep cX6_keep 1 (some .int) 2 [.ref 110] σ (some (.int ((p_keep σ k).1))) (p_keep σ k).2 := by
  refine sm_C.of (own := RX6) (by decide) rfl (Nat.le_of_ble_eq_true rfl) ?_
  show sm_W RX6 cX6_keep 1 (some .int) 2 (some (.int ((p_keep σ k).1))) (p_keep σ k).2 0 [(0, .ref 110)] [] σ
  refine sw_aload_n dX6_keep_0 rfl ?_
  refine sw_getI dX6_keep_1 fl_X6_146 rfl rfl ?_
  refine sw_iconst (v := 2) dX6_keep_4 (by decide) ?_
  refine sw_icmp_ne (tgt := 11) dX6_keep_5 (by decide) (fun h5 => ?_) (fun h5 => ?_)
  · have hk9 : ¬ k = 2 := fun e => h5 (by rw [hk.1, e]; rfl)
    refine sw_aload_n dX6_keep_11 rfl ?_
    refine sw_aload_n dX6_keep_12 rfl ?_
    refine sw_getR (j := 127) dX6_keep_13 fl_X6_58 rfl rfl ?_
    refine sw_bipush (v := 29) dX6_keep_16 (by decide) ?_
    refine sw_aload_n dX6_keep_18 rfl ?_
    refine sw_getI dX6_keep_19 fl_X6_146 rfl rfl ?_
    refine sw_imul dX6_keep_22 ?_
    refine sw_top (y := nI (29 * k)) (by rw [hk.1]; exact pk_mul 29 k) ?_
    refine sw_callV dX6_keep_23 lV_X6_196 (c_q_lays (a := 127) (p := (29 * k)) rfl (by have := hk.2; omega) (by decide)) rfl rfl rfl rfl (Nat.le_of_ble_eq_true rfl) (Nat.le_of_ble_eq_true rfl) ?_
    refine sw_aload_n dX6_keep_26 rfl ?_
    refine sw_dup dX6_keep_27 rfl ?_
    refine sw_getI dX6_keep_28 fl_X6_146 rfl rfl ?_
    refine sw_iconst (v := 1) dX6_keep_31 (by decide) ?_
    refine sw_iadd dX6_keep_32 ?_
    refine sw_top (y := nI k + 1) (by rw [q_lays_off (by decide), hk.1]) ?_
    refine sw_put dX6_keep_33 fl_X6_146 fi_5_34 rfl rfl ?_
    refine sw_aload_n dX6_keep_36 rfl ?_
    refine sw_getI dX6_keep_37 fl_X6_146 rfl rfl ?_
    refine sw_iret dX6_keep_40 rfl rfl ?_ ?_
    all_goals (first | with_reducible rfl | (first | (rw [p_keep, if_pos (by have := hk.2; have e := hk.1; rw [h5, show (2 : Int32) = nI 2 from rfl, nI_eq (by omega) (by omega)] at e; exact e.symm)]) | (rw [p_keep, if_neg hk9, sm_set_eq]) | (rw [p_keep, if_neg hk9])))
  · refine sw_bipush (v := -3) dX6_keep_8 (by decide) ?_
    refine sw_iret dX6_keep_10 rfl rfl ?_ ?_
    all_goals (first | with_reducible rfl | (first | (rw [p_keep, if_pos (by have := hk.2; have e := hk.1; rw [h5, show (2 : Int32) = nI 2 from rfl, nI_eq (by omega) (by omega)] at e; exact e.symm)]) | (rw [p_keep, if_neg hk9, sm_set_eq]) | (rw [p_keep, if_neg hk9])))

set_option maxHeartbeats 2000000 in
theorem c_p_back {σ : sm_St} {k : Nat} (hk : σ 110 34 = nI k ∧ k ≤ 2)  : sm_C yX6_back cX6_back 1 (some .int) 2 [.ref 110] σ (some (.int ((p_back σ k).1))) (p_back σ k).2 := by
  refine sm_C.of (own := RX6) (by decide) rfl (Nat.le_of_ble_eq_true rfl) ?_
  show sm_W RX6 cX6_back 1 (some .int) 2 (some (.int ((p_back σ k).1))) (p_back σ k).2 0 [(0, .ref 110)] [] σ
  refine sw_aload_n dX6_back_0 rfl ?_
  refine sw_getI dX6_back_1 fl_X6_146 rfl rfl ?_
  refine sw_if_ne (tgt := 10) dX6_back_4 (by decide) (fun h4 => ?_) (fun h4 => ?_)
  · have hk9 : ¬ k = 0 := fun e => h4 (by rw [hk.1, e]; rfl)
    obtain ⟨v, rfl⟩ : ∃ v, k = v + 1 := ⟨k - 1, by omega⟩
    refine sw_aload_n dX6_back_10 rfl ?_
    refine sw_dup dX6_back_11 rfl ?_
    refine sw_getI dX6_back_12 fl_X6_146 rfl rfl ?_
    refine sw_iconst (v := 1) dX6_back_15 (by decide) ?_
    refine sw_isub dX6_back_16 ?_
    refine sw_top (y := nI (v + 1 - 1)) (by rw [hk.1, nI_pred]; rfl) ?_
    refine sw_put dX6_back_17 fl_X6_146 fi_5_34 rfl rfl ?_
    refine sw_aload_n dX6_back_20 rfl ?_
    refine sw_aload_n dX6_back_21 rfl ?_
    refine sw_getR (j := 127) dX6_back_22 fl_X6_58 rfl rfl ?_
    refine sw_bipush (v := 29) dX6_back_25 (by decide) ?_
    refine sw_aload_n dX6_back_27 rfl ?_
    refine sw_getI dX6_back_28 fl_X6_146 rfl rfl ?_
    refine sw_imul dX6_back_31 ?_
    refine sw_top (y := nI (29 * (v + 1 - 1))) (by rw [sm_set_eq]; exact pk_mul 29 (v + 1 - 1)) ?_
    refine sw_callV dX6_back_32 lV_X6_206 (c_q_takes (a := 127) (p := (29 * (v + 1 - 1))) rfl (by have := hk.2; omega) (by decide)) rfl rfl rfl rfl (Nat.le_of_ble_eq_true rfl) (Nat.le_of_ble_eq_true rfl) ?_
    refine sw_aload_n dX6_back_35 rfl ?_
    refine sw_iconst (v := 0) dX6_back_36 (by decide) ?_
    refine sw_put dX6_back_37 fl_X6_143 fi_5_31 rfl rfl ?_
    refine sw_aload_n dX6_back_40 rfl ?_
    refine sw_getI dX6_back_41 fl_X6_146 rfl rfl ?_
    refine sw_iret dX6_back_44 rfl rfl ?_ ?_
    all_goals (first | with_reducible rfl | (first | (rw [p_back, if_pos (by have := hk.2; have e := hk.1; rw [h4, ← nI_0, nI_eq (by omega) (by omega)] at e; exact e.symm)]) | (rw [p_back, if_neg hk9])))
  · refine sw_bipush (v := -2) dX6_back_7 (by decide) ?_
    refine sw_iret dX6_back_9 rfl rfl ?_ ?_
    all_goals (first | with_reducible rfl | (first | (rw [p_back, if_pos (by have := hk.2; have e := hk.1; rw [h4, ← nI_0, nI_eq (by omega) (by omega)] at e; exact e.symm)]) | (rw [p_back, if_neg hk9])))

set_option maxHeartbeats 2000000 in
theorem c_p_count {σ : sm_St} {np : Nat} (hN : q_N σ np) (w : Int32) : sm_C yX6_count cX6_count 2 (some .int) 2 [.ref 110, .int w] σ (some (.int (p_count σ np w))) σ := by
  refine sm_C.of (own := RX6) (by decide) rfl (Nat.le_of_ble_eq_true rfl) ?_
  show sm_W RX6 cX6_count 2 (some .int) 2 (some (.int (p_count σ np w))) σ 0 [(0, .ref 110), (1, .int w)] [] σ
  refine sw_iload_n dX6_count_0 rfl ?_
  refine sw_iconst (v := 0) dX6_count_1 (by decide) ?_
  refine sw_bipush (v := 12) dX6_count_2 (by decide) ?_
  refine sw_callS dX6_count_4 lS_X6_94 (c_q_in _ _ _) rfl rfl (Nat.le_of_ble_eq_true rfl) (Nat.le_of_ble_eq_true rfl) ?_
  refine sw_if_ne (tgt := 12) dX6_count_7 (by decide) (fun h7 => ?_) (fun h7 => ?_)
  · refine sw_iload_n dX6_count_12 rfl ?_
    refine sw_tab_X6_count_13 (fun h13_0 => ?_) (fun h13_1 => ?_) (fun h13_2 => ?_) (fun h13_3 => ?_) (fun h13_4 => ?_) (fun h13_5 => ?_) (fun h13_6 => ?_) (fun h13_7 => ?_) (fun h13_8 => ?_) (fun h13_9 => ?_) (fun h13_10 => ?_) (fun h13_11 => ?_) (fun h13n0 h13n1 h13n2 h13n3 h13n4 h13n5 h13n6 h13n7 h13n8 h13n9 h13n10 h13n11 => ?_)
    · refine sw_aload_n dX6_count_76 rfl ?_
      refine sw_getI dX6_count_77 fl_X6_84 rfl rfl ?_
      refine sw_iret dX6_count_80 rfl rfl ?_ ?_
      all_goals (first | with_reducible rfl | (simp_all [-Int32.not_lt, -Int32.not_le, sm_b_e0, sm_b_e1, sm_b_0e, sm_b_1e, p_count]))
    · refine sw_aload_n dX6_count_81 rfl ?_
      refine sw_getI dX6_count_82 fl_X6_91 rfl rfl ?_
      refine sw_iret dX6_count_85 rfl rfl ?_ ?_
      all_goals (first | with_reducible rfl | (simp_all [-Int32.not_lt, -Int32.not_le, sm_b_e0, sm_b_e1, sm_b_0e, sm_b_1e, p_count]))
    · refine sw_aload_n dX6_count_86 rfl ?_
      refine sw_getI dX6_count_87 fl_X6_137 rfl rfl ?_
      refine sw_iret dX6_count_90 rfl rfl ?_ ?_
      all_goals (first | with_reducible rfl | (simp_all [-Int32.not_lt, -Int32.not_le, sm_b_e0, sm_b_e1, sm_b_0e, sm_b_1e, p_count]))
    · refine sw_aload_n dX6_count_91 rfl ?_
      refine sw_getI dX6_count_92 fl_X6_61 rfl rfl ?_
      refine sw_iret dX6_count_95 rfl rfl ?_ ?_
      all_goals (first | with_reducible rfl | (simp_all [-Int32.not_lt, -Int32.not_le, sm_b_e0, sm_b_e1, sm_b_0e, sm_b_1e, p_count]))
    · refine sw_aload_n dX6_count_96 rfl ?_
      refine sw_getI dX6_count_97 fl_X6_65 rfl rfl ?_
      refine sw_iret dX6_count_100 rfl rfl ?_ ?_
      all_goals (first | with_reducible rfl | (simp_all [-Int32.not_lt, -Int32.not_le, sm_b_e0, sm_b_e1, sm_b_0e, sm_b_1e, p_count]))
    · refine sw_aload_n dX6_count_101 rfl ?_
      refine sw_getI dX6_count_102 fl_X6_68 rfl rfl ?_
      refine sw_iret dX6_count_105 rfl rfl ?_ ?_
      all_goals (first | with_reducible rfl | (simp_all [-Int32.not_lt, -Int32.not_le, sm_b_e0, sm_b_e1, sm_b_0e, sm_b_1e, p_count]))
    · refine sw_aload_n dX6_count_106 rfl ?_
      refine sw_getI dX6_count_107 fl_X6_71 rfl rfl ?_
      refine sw_iret dX6_count_110 rfl rfl ?_ ?_
      all_goals (first | with_reducible rfl | (simp_all [-Int32.not_lt, -Int32.not_le, sm_b_e0, sm_b_e1, sm_b_0e, sm_b_1e, p_count]))
    · refine sw_aload_n dX6_count_111 rfl ?_
      refine sw_getI dX6_count_112 fl_X6_74 rfl rfl ?_
      refine sw_iret dX6_count_115 rfl rfl ?_ ?_
      all_goals (first | with_reducible rfl | (simp_all [-Int32.not_lt, -Int32.not_le, sm_b_e0, sm_b_e1, sm_b_0e, sm_b_1e, p_count]))
    · refine sw_aload_n dX6_count_116 rfl ?_
      refine sw_getI dX6_count_117 fl_X6_84 rfl rfl ?_
      refine sw_aload_n dX6_count_120 rfl ?_
      refine sw_callV dX6_count_121 lV_X6_203 (c_q_left hN) rfl rfl rfl rfl (Nat.le_of_ble_eq_true rfl) (Nat.le_of_ble_eq_true rfl) ?_
      refine sw_isub dX6_count_124 ?_
      refine sw_iret dX6_count_125 rfl rfl ?_ ?_
      all_goals (first | with_reducible rfl | (simp_all [-Int32.not_lt, -Int32.not_le, sm_b_e0, sm_b_e1, sm_b_0e, sm_b_1e, p_count]))
    · refine sw_aload_n dX6_count_126 rfl ?_
      refine sw_getI dX6_count_127 fl_X6_140 rfl rfl ?_
      refine sw_iret dX6_count_130 rfl rfl ?_ ?_
      all_goals (first | with_reducible rfl | (simp_all [-Int32.not_lt, -Int32.not_le, sm_b_e0, sm_b_e1, sm_b_0e, sm_b_1e, p_count]))
    · refine sw_aload_n dX6_count_131 rfl ?_
      refine sw_getI dX6_count_132 fl_X6_143 rfl rfl ?_
      refine sw_iret dX6_count_135 rfl rfl ?_ ?_
      all_goals (first | with_reducible rfl | (simp_all [-Int32.not_lt, -Int32.not_le, sm_b_e0, sm_b_e1, sm_b_0e, sm_b_1e, p_count]))
    · refine sw_aload_n dX6_count_136 rfl ?_
      refine sw_getI dX6_count_137 fl_X6_146 rfl rfl ?_
      refine sw_iret dX6_count_140 rfl rfl ?_ ?_
      all_goals (first | with_reducible rfl | (simp_all [-Int32.not_lt, -Int32.not_le, sm_b_e0, sm_b_e1, sm_b_0e, sm_b_1e, p_count]))
    · refine sw_aload_n dX6_count_141 rfl ?_
      refine sw_getI dX6_count_142 fl_X6_98 rfl rfl ?_
      refine sw_iret dX6_count_145 rfl rfl ?_ ?_
      all_goals (first | with_reducible rfl | (simp_all [-Int32.not_lt, -Int32.not_le, sm_b_e0, sm_b_e1, sm_b_0e, sm_b_1e, p_count]))
  · refine sw_iconst (v := -1) dX6_count_10 (by decide) ?_
    refine sw_iret dX6_count_11 rfl rfl ?_ ?_
    all_goals (first | with_reducible rfl | (simp_all [-Int32.not_lt, -Int32.not_le, sm_b_e0, sm_b_e1, sm_b_0e, sm_b_1e, p_count]))

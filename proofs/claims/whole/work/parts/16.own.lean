/-! the class's own methods: what each answers, and the numbers behind it -/
theorem sm_isF0 : sm_isF 0 := by unfold sm_isF; decide
theorem sm_isF8 : sm_isF 8 := by unfold sm_isF; decide
abbrev m_U (σ : sm_St) : Prop := vp_in (σ 104 2) 8
abbrev m_K (σ : sm_St) : Prop := vp_in (σ 106 2) 2
abbrev m_N (σ : sm_St) : Nat → Nat → Int32 := sm_V σ 0
def m_letter (σ : sm_St) (c : Int32) : sm_St := sm_set (r_set σ 98 200 (σ 97 2) c) 97 2 (σ 97 2 + 1)
def m_write (σ : sm_St) (c : Int32) : Int32 × sm_St := if sm_win c 32 126 = true then (if σ 97 2 < nI 200 then (σ 97 2 + 1, m_letter σ c) else (-3, σ)) else (-1, σ)
def m_lay (σ : sm_St) : Int32 × sm_St := if ¬ (x_into σ 8).1 = -4 ∨ (x_into σ 8).2 8 6 = 0 ∨ (x_into σ 8).2 8 7 = 0 then (-2, (x_into σ 8).2) else (g_copy (x_into σ 8).2 0 8 0 7, sm_set (sm_set (sm_set (g_copy (x_into σ 8).2 0 8) 100 3 0) 104 1 0) 106 1 0)
def m_post (σ : sm_St) (p w : Int32) : Int32 := if f_hasP (sm_V σ 0) p = true then (if w = 0 then r_at (σ 1) 6 p else if w = 1 then r_at (σ 2) 6 p else if w = 2 then r_at (σ 3) 6 p else if w = 3 then r_at (σ 4) 6 p else -1) else -1
def m_crew (σ : sm_St) (c w : Int32) : Int32 := if f_hasS (sm_V σ 0) c = true then (if w = 0 then r_at (σ 5) 8 c else if w = 1 then r_at (σ 6) 8 c else if w = 2 then r_at (σ 7) 8 c else if w = 3 then f_nearest (sm_V σ 0) c else if w = 4 then f_str (sm_V σ 0) c (f_nearest (sm_V σ 0) c) else if w = 5 then f_head (sm_V σ 0) (f_nearest (sm_V σ 0) c) (f_str (sm_V σ 0) c (f_nearest (sm_V σ 0) c)) else -1) else -1
def m_pull (σ : sm_St) (w : Int32) : Int32 := if w = 0 then f_R (sm_V σ 0) + 500 else if w = 1 then f_D (sm_V σ 0) + 500 else if w = 2 then f_goes (sm_V σ 0) else -1
abbrev m_note (σ : sm_St) : sm_St := g_push 104 16 8 σ 0
def m_pass (σ : sm_St) (n : Int32) : Int32 × sm_St := if sm_win n 1 20 = true then (if σ 0 5 + n ≤ 999 then ((g_hours (m_note σ) 0 n.toNatClampNeg).2, (g_hours (m_note σ) 0 n.toNatClampNeg).1) else (-2, σ)) else (-1, σ)
def m_wind (σ : sm_St) (d f : Int32) : Int32 × sm_St := if sm_win d 0 4 = true ∧ sm_win f 0 20 = true then (m_note σ 0 4, sm_set (sm_set (m_note σ) 0 3 d) 0 4 f) else (-1, σ)
def m_put (σ : sm_St) (p x y : Int32) : Int32 × sm_St := if f_hasP (sm_V σ 0) p = true ∧ sm_cell x y = true then (if r_at (σ 4) 6 p = 0 ∧ r_at (σ 1) 6 p = x ∧ r_at (σ 2) 6 p = y then (-2, σ) else (r_at (σ 4) 6 p, r_set (r_set (r_set (m_note σ) 1 6 p x) 2 6 p y) 4 6 p 0)) else (-1, σ)
def m_smell (σ : sm_St) (p s : Int32) : Int32 × sm_St := if f_hasP (sm_V σ 0) p = true ∧ sm_win s 0 5 = true then (if r_at (σ 3) 6 p = s ∨ ¬ r_at (σ 4) 6 p = 0 then (-2, σ) else (r_at (σ 3) 6 p, r_set (m_note σ) 3 6 p s)) else (-1, σ)
def m_take (σ : sm_St) (p : Int32) : Int32 × sm_St := if f_hasP (sm_V σ 0) p = true then (if r_at (σ 4) 6 p = 0 then (f_bc (f_stand (sm_V (r_set (m_note σ) 4 6 p 1) 0) (r_set (m_note σ) 4 6 p 1 0 6).toNatClampNeg), r_set (m_note σ) 4 6 p 1) else (-2, σ)) else (-1, σ)
def m_undo (σ : sm_St) : Int32 × sm_St := if σ 104 1 = 0 then (-2, σ) else (g_pop 104 16 8 σ 0 104 1, g_pop 104 16 8 σ 0)
def m_try (σ : sm_St) : sm_St := g_copy σ 8 0
def m_behind (σ : sm_St) (n w : Int32) : Int32 × sm_St := if sm_win n 0 40 = true ∧ sm_win w 0 1 = true then (if w = 0 then (g_hours (m_try σ) 8 n.toNatClampNeg).1 8 0 else (g_hours (m_try σ) 8 n.toNatClampNeg).1 8 1, (g_hours (m_try σ) 8 n.toNatClampNeg).1) else (-1, σ)
def m_seen (σ : sm_St) (x y d : Int32) : Int32 × sm_St := if sm_cell x y = true ∧ sm_win d 0 4 = true then (if σ 100 3 < 6 then (σ 100 3 + 1, g_seen σ x y d) else (-3, σ)) else (-1, σ)
def m_keep (σ : sm_St) : Int32 × sm_St := if σ 106 1 < 2 then (g_push 106 80 2 σ 0 106 1, g_push 106 80 2 σ 0) else (-3, σ)
def m_back (σ : sm_St) : Int32 × sm_St := if σ 106 1 = 0 then (-2, σ) else (sm_set (g_pop 106 80 2 σ 0) 104 1 0 106 1, sm_set (g_pop 106 80 2 σ 0) 104 1 0)
def m_left (σ : sm_St) : Int32 := f_bc (f_stand (sm_V σ 0) (σ 0 6).toNatClampNeg)
def m_count (σ : sm_St) (w : Int32) : Int32 := if w = 0 then σ 0 6 else if w = 1 then σ 0 7 else if w = 2 then σ 0 5 else if w = 3 then σ 0 0 else if w = 4 then σ 0 1 else if w = 5 then σ 0 2 else if w = 6 then σ 0 3 else if w = 7 then σ 0 4 else if w = 8 then σ 0 6 - m_left σ else if w = 9 then σ 100 3 else if w = 10 then σ 104 1 else if w = 11 then σ 106 1 else if w = 12 then σ 97 2 else -1
def m_draw (z h : Int32) : Int32 := (((7919 * z.toInt64 + 6151 * h.toInt64 + 1) * (7919 * z.toInt64 + 6151 * h.toInt64 + 1) - (7919 * z.toInt64 + 6151 * h.toInt64 + 1) * (7919 * z.toInt64 + 6151 * h.toInt64 + 1) / 65521 * 65521) / 2).toInt32
abbrev m_rem (a b : Int32) : Int32 := a - a / b * b
theorem g_push_off {P b n f q : Nat} {σ : sm_St} (h1 : q ≠ P) (h2 : q < b ∨ b + 8 * (g_top n (σ P 2)).toNatClampNeg + 8 ≤ q) : g_push P b n σ f q = σ q := by
  unfold g_push
  rw [sm_set_off h1, g_copy_off (by omega), sm_set_off h1]

set_option maxHeartbeats 4000000 in
theorem c_write {σ : sm_St} (c : Int32) : sm_C yX5_write cX5_write 2 (some .int) 4 [.ref 96, .int c] σ (some (.int ((m_write σ c).1))) (m_write σ c).2 := by
  refine sm_C.of (own := RX5) (by decide) rfl (Nat.le_of_ble_eq_true rfl) ?_
  show sm_W RX5 cX5_write 2 (some .int) 4 (some (.int ((m_write σ c).1))) (m_write σ c).2 0 [(0, .ref 96), (1, .int c)] [] σ
  refine sw_iload_n dX5_write_0 rfl ?_
  refine sw_bipush (v := 32) dX5_write_1 (by decide) ?_
  refine sw_bipush (v := 126) dX5_write_3 (by decide) ?_
  refine sw_callS dX5_write_5 lS_X5_75 (c_within _ _ _) rfl rfl (Nat.le_of_ble_eq_true rfl) (Nat.le_of_ble_eq_true rfl) ?_
  refine sw_if_ne (tgt := 13) dX5_write_8 (by decide) (fun h8 => ?_) (fun h8 => ?_)
  · refine sw_aload_n dX5_write_13 rfl ?_
    refine sw_getR (j := 97) dX5_write_14 fl_X5_10 rfl rfl ?_
    refine sw_iload_n dX5_write_17 rfl ?_
    refine sw_callV dX5_write_18 lV_X5_64 (c_addLetter _) rfl rfl rfl rfl (Nat.le_of_ble_eq_true rfl) (Nat.le_of_ble_eq_true rfl) ?_
    refine sw_if_eq (tgt := 34) dX5_write_21 (by decide) (fun h21 => ?_) (fun h21 => ?_)
    · refine sw_bipush (v := -3) dX5_write_34 (by decide) ?_
      refine sw_iret dX5_write_36 rfl rfl ?_ ?_
      all_goals (first | with_reducible rfl | (simp_all [-Int32.not_lt, -Int32.not_le, sm_b_e0, sm_b_e1, m_write, m_letter, sm_set_eq]))
    · refine sw_aload_n dX5_write_24 rfl ?_
      refine sw_getR (j := 97) dX5_write_25 fl_X5_10 rfl rfl ?_
      refine sw_getI dX5_write_28 fl_X5_72 rfl rfl ?_
      refine sw_goto (tgt := 36) dX5_write_31 (by decide) ?_
      refine sw_iret dX5_write_36 rfl rfl ?_ ?_
      all_goals (first | with_reducible rfl | (simp_all [-Int32.not_lt, -Int32.not_le, sm_b_e0, sm_b_e1, m_write, m_letter, sm_set_eq]))
  · refine sw_iconst (v := -1) dX5_write_11 (by decide) ?_
    refine sw_iret dX5_write_12 rfl rfl ?_ ?_
    all_goals (first | with_reducible rfl | (simp_all [-Int32.not_lt, -Int32.not_le, sm_b_e0, sm_b_e1, m_write, m_letter, sm_set_eq]))

set_option maxHeartbeats 4000000 in
theorem c_wipe {σ : sm_St}  : sm_C yX5_wipe cX5_wipe 2 (some .int) 1 [.ref 96] σ (some (.int (σ 97 2))) (sm_set σ 97 2 0) := by
  refine sm_C.of (own := RX5) (by decide) rfl (Nat.le_of_ble_eq_true rfl) ?_
  show sm_W RX5 cX5_wipe 2 (some .int) 1 (some (.int (σ 97 2))) (sm_set σ 97 2 0) 0 [(0, .ref 96)] [] σ
  refine sw_aload_n dX5_wipe_0 rfl ?_
  refine sw_getR (j := 97) dX5_wipe_1 fl_X5_10 rfl rfl ?_
  refine sw_getI dX5_wipe_4 fl_X5_72 rfl rfl ?_
  refine sw_istore_n dX5_wipe_7 (by decide) rfl ?_
  refine sw_aload_n dX5_wipe_8 rfl ?_
  refine sw_getR (j := 97) dX5_wipe_9 fl_X5_10 rfl rfl ?_
  refine sw_iconst (v := 0) dX5_wipe_12 (by decide) ?_
  refine sw_put dX5_wipe_13 fl_X5_72 fi_3_2 rfl rfl ?_
  refine sw_iload_n dX5_wipe_16 rfl ?_
  refine sw_iret dX5_wipe_17 rfl rfl ?_ ?_
  all_goals (first | with_reducible rfl | (rfl))

set_option maxHeartbeats 4000000 in
theorem c_fault {σ : sm_St}  : sm_C yX5_fault cX5_fault 1 (some .int) 7 [.ref 96] σ (some (.int ((x_into σ 8).1))) (x_into σ 8).2 := by
  refine sm_C.of (own := RX5) (by decide) rfl (Nat.le_of_ble_eq_true rfl) ?_
  show sm_W RX5 cX5_fault 1 (some .int) 7 (some (.int ((x_into σ 8).1))) (x_into σ 8).2 0 [(0, .ref 96)] [] σ
  refine sw_aload_n dX5_fault_0 rfl ?_
  refine sw_getR (j := 97) dX5_fault_1 fl_X5_10 rfl rfl ?_
  refine sw_aload_n dX5_fault_4 rfl ?_
  refine sw_getR (j := 8) dX5_fault_5 fl_X5_23 rfl rfl ?_
  refine sw_callV dX5_fault_8 lV_X5_68 (c_readInto (k := 8) sm_isF8) rfl rfl rfl rfl (Nat.le_of_ble_eq_true rfl) (Nat.le_of_ble_eq_true rfl) ?_
  refine sw_iret dX5_fault_11 rfl rfl ?_ ?_
  all_goals (first | with_reducible rfl | (rfl))

set_option maxHeartbeats 4000000 in
theorem c_lay {σ : sm_St}  : sm_C yX5_lay cX5_lay 2 (some .int) 7 [.ref 96] σ (some (.int ((m_lay σ).1))) (m_lay σ).2 := by
  refine sm_C.of (own := RX5) (by decide) rfl (Nat.le_of_ble_eq_true rfl) ?_
  show sm_W RX5 cX5_lay 2 (some .int) 7 (some (.int ((m_lay σ).1))) (m_lay σ).2 0 [(0, .ref 96)] [] σ
  refine sw_aload_n dX5_lay_0 rfl ?_
  refine sw_getR (j := 97) dX5_lay_1 fl_X5_10 rfl rfl ?_
  refine sw_aload_n dX5_lay_4 rfl ?_
  refine sw_getR (j := 8) dX5_lay_5 fl_X5_23 rfl rfl ?_
  refine sw_callV dX5_lay_8 lV_X5_68 (c_readInto (k := 8) sm_isF8) rfl rfl rfl rfl (Nat.le_of_ble_eq_true rfl) (Nat.le_of_ble_eq_true rfl) ?_
  refine sw_istore_n dX5_lay_11 (by decide) rfl ?_
  refine sw_iload_n dX5_lay_12 rfl ?_
  refine sw_bipush (v := -4) dX5_lay_13 (by decide) ?_
  refine sw_icmp_ne (tgt := 38) dX5_lay_15 (by decide) (fun h15 => ?_) (fun h15 => ?_)
  · refine sw_bipush (v := -2) dX5_lay_38 (by decide) ?_
    refine sw_iret dX5_lay_40 rfl rfl ?_ ?_
    all_goals (first | with_reducible rfl | (simp_all [-Int32.not_lt, -Int32.not_le, sm_b_e0, sm_b_e1, m_lay, sm_set_off]))
  · refine sw_aload_n dX5_lay_18 rfl ?_
    refine sw_getR (j := 8) dX5_lay_19 fl_X5_23 rfl rfl ?_
    refine sw_getI dX5_lay_22 fl_X5_79 rfl rfl ?_
    refine sw_if_eq (tgt := 38) dX5_lay_25 (by decide) (fun h25 => ?_) (fun h25 => ?_)
    · refine sw_bipush (v := -2) dX5_lay_38 (by decide) ?_
      refine sw_iret dX5_lay_40 rfl rfl ?_ ?_
      all_goals (first | with_reducible rfl | (simp_all [-Int32.not_lt, -Int32.not_le, sm_b_e0, sm_b_e1, m_lay, sm_set_off]))
    · refine sw_aload_n dX5_lay_28 rfl ?_
      refine sw_getR (j := 8) dX5_lay_29 fl_X5_23 rfl rfl ?_
      refine sw_getI dX5_lay_32 fl_X5_82 rfl rfl ?_
      refine sw_if_ne (tgt := 41) dX5_lay_35 (by decide) (fun h35 => ?_) (fun h35 => ?_)
      · refine sw_aload_n dX5_lay_41 rfl ?_
        refine sw_getR (j := 0) dX5_lay_42 fl_X5_19 rfl rfl ?_
        refine sw_aload_n dX5_lay_45 rfl ?_
        refine sw_getR (j := 8) dX5_lay_46 fl_X5_23 rfl rfl ?_
        refine sw_callV dX5_lay_49 lV_X5_85 (c_copyFrom (k := 0) (j := 8) sm_isF0 sm_isF8 (by decide)) rfl rfl rfl rfl (Nat.le_of_ble_eq_true rfl) (Nat.le_of_ble_eq_true rfl) ?_
        refine sw_aload_n dX5_lay_52 rfl ?_
        refine sw_getR (j := 100) dX5_lay_53 fl_X5_29 rfl rfl ?_
        refine sw_iconst (v := 0) dX5_lay_56 (by decide) ?_
        refine sw_put dX5_lay_57 fl_X5_89 fi_2_3 rfl rfl ?_
        refine sw_aload_n dX5_lay_60 rfl ?_
        refine sw_getR (j := 104) dX5_lay_61 fl_X5_38 rfl rfl ?_
        refine sw_iconst (v := 0) dX5_lay_64 (by decide) ?_
        refine sw_put dX5_lay_65 fl_X5_92 fi_1_1 rfl rfl ?_
        refine sw_aload_n dX5_lay_68 rfl ?_
        refine sw_getR (j := 106) dX5_lay_69 fl_X5_42 rfl rfl ?_
        refine sw_iconst (v := 0) dX5_lay_72 (by decide) ?_
        refine sw_put dX5_lay_73 fl_X5_92 fi_1_1 rfl rfl ?_
        refine sw_aload_n dX5_lay_76 rfl ?_
        refine sw_getR (j := 0) dX5_lay_77 fl_X5_19 rfl rfl ?_
        refine sw_getI dX5_lay_80 fl_X5_82 rfl rfl ?_
        refine sw_iret dX5_lay_83 rfl rfl ?_ ?_
        all_goals (first | with_reducible rfl | (simp_all [-Int32.not_lt, -Int32.not_le, sm_b_e0, sm_b_e1, m_lay, sm_set_off]))
      · refine sw_bipush (v := -2) dX5_lay_38 (by decide) ?_
        refine sw_iret dX5_lay_40 rfl rfl ?_ ?_
        all_goals (first | with_reducible rfl | (simp_all [-Int32.not_lt, -Int32.not_le, sm_b_e0, sm_b_e1, m_lay, sm_set_off]))

set_option maxHeartbeats 4000000 in
theorem c_post {σ : sm_St} (p w : Int32) : sm_C yX5_post cX5_post 3 (some .int) 3 [.ref 96, .int p, .int w] σ (some (.int (m_post σ p w))) σ := by
  refine sm_C.of (own := RX5) (by decide) rfl (Nat.le_of_ble_eq_true rfl) ?_
  show sm_W RX5 cX5_post 3 (some .int) 3 (some (.int (m_post σ p w))) σ 0 [(0, .ref 96), (1, .int p), (2, .int w)] [] σ
  refine sw_aload_n dX5_post_0 rfl ?_
  refine sw_getR (j := 0) dX5_post_1 fl_X5_19 rfl rfl ?_
  refine sw_iload_n dX5_post_4 rfl ?_
  refine sw_callV dX5_post_5 lV_X5_93 (c_hasPost (k := 0) sm_isF0 _) rfl rfl rfl rfl (Nat.le_of_ble_eq_true rfl) (Nat.le_of_ble_eq_true rfl) ?_
  refine sw_if_ne (tgt := 13) dX5_post_8 (by decide) (fun h8 => ?_) (fun h8 => ?_)
  · refine sw_iload_n dX5_post_13 rfl ?_
    refine sw_tab_X5_post_14 (fun h14_0 => ?_) (fun h14_1 => ?_) (fun h14_2 => ?_) (fun h14_3 => ?_) (fun h14n0 h14n1 h14n2 h14n3 => ?_)
    · refine sw_aload_n dX5_post_44 rfl ?_
      refine sw_getR (j := 0) dX5_post_45 fl_X5_19 rfl rfl ?_
      refine sw_getR (j := 1) dX5_post_48 fl_X5_96 rfl rfl ?_
      refine sw_iload_n dX5_post_51 rfl ?_
      refine sw_callS dX5_post_52 lS_X5_99 (c_at (k := 1) rfl _) rfl rfl (Nat.le_of_ble_eq_true rfl) (Nat.le_of_ble_eq_true rfl) ?_
      refine sw_iret dX5_post_55 rfl rfl ?_ ?_
      all_goals (first | with_reducible rfl | (simp_all [-Int32.not_lt, -Int32.not_le, sm_b_e0, sm_b_e1, m_post]))
    · refine sw_aload_n dX5_post_56 rfl ?_
      refine sw_getR (j := 0) dX5_post_57 fl_X5_19 rfl rfl ?_
      refine sw_getR (j := 2) dX5_post_60 fl_X5_105 rfl rfl ?_
      refine sw_iload_n dX5_post_63 rfl ?_
      refine sw_callS dX5_post_64 lS_X5_99 (c_at (k := 2) rfl _) rfl rfl (Nat.le_of_ble_eq_true rfl) (Nat.le_of_ble_eq_true rfl) ?_
      refine sw_iret dX5_post_67 rfl rfl ?_ ?_
      all_goals (first | with_reducible rfl | (simp_all [-Int32.not_lt, -Int32.not_le, sm_b_e0, sm_b_e1, m_post]))
    · refine sw_aload_n dX5_post_68 rfl ?_
      refine sw_getR (j := 0) dX5_post_69 fl_X5_19 rfl rfl ?_
      refine sw_getR (j := 3) dX5_post_72 fl_X5_108 rfl rfl ?_
      refine sw_iload_n dX5_post_75 rfl ?_
      refine sw_callS dX5_post_76 lS_X5_99 (c_at (k := 3) rfl _) rfl rfl (Nat.le_of_ble_eq_true rfl) (Nat.le_of_ble_eq_true rfl) ?_
      refine sw_iret dX5_post_79 rfl rfl ?_ ?_
      all_goals (first | with_reducible rfl | (simp_all [-Int32.not_lt, -Int32.not_le, sm_b_e0, sm_b_e1, m_post]))
    · refine sw_aload_n dX5_post_80 rfl ?_
      refine sw_getR (j := 0) dX5_post_81 fl_X5_19 rfl rfl ?_
      refine sw_getR (j := 4) dX5_post_84 fl_X5_111 rfl rfl ?_
      refine sw_iload_n dX5_post_87 rfl ?_
      refine sw_callS dX5_post_88 lS_X5_99 (c_at (k := 4) rfl _) rfl rfl (Nat.le_of_ble_eq_true rfl) (Nat.le_of_ble_eq_true rfl) ?_
      refine sw_iret dX5_post_91 rfl rfl ?_ ?_
      all_goals (first | with_reducible rfl | (simp_all [-Int32.not_lt, -Int32.not_le, sm_b_e0, sm_b_e1, m_post]))
    · refine sw_iconst (v := -1) dX5_post_92 (by decide) ?_
      refine sw_iret dX5_post_93 rfl rfl ?_ ?_
      all_goals (first | with_reducible rfl | (simp_all [-Int32.not_lt, -Int32.not_le, sm_b_e0, sm_b_e1, m_post]))
  · refine sw_iconst (v := -1) dX5_post_11 (by decide) ?_
    refine sw_iret dX5_post_12 rfl rfl ?_ ?_
    all_goals (first | with_reducible rfl | (simp_all [-Int32.not_lt, -Int32.not_le, sm_b_e0, sm_b_e1, m_post]))

set_option maxHeartbeats 4000000 in
theorem c_crew {σ : sm_St} (c w : Int32) : sm_C yX5_crew cX5_crew 5 (some .int) 5 [.ref 96, .int c, .int w] σ (some (.int (m_crew σ c w))) σ := by
  refine sm_C.of (own := RX5) (by decide) rfl (Nat.le_of_ble_eq_true rfl) ?_
  show sm_W RX5 cX5_crew 5 (some .int) 5 (some (.int (m_crew σ c w))) σ 0 [(0, .ref 96), (1, .int c), (2, .int w)] [] σ
  refine sw_aload_n dX5_crew_0 rfl ?_
  refine sw_getR (j := 0) dX5_crew_1 fl_X5_19 rfl rfl ?_
  refine sw_iload_n dX5_crew_4 rfl ?_
  refine sw_callV dX5_crew_5 lV_X5_114 (c_hasSailor (k := 0) sm_isF0 _) rfl rfl rfl rfl (Nat.le_of_ble_eq_true rfl) (Nat.le_of_ble_eq_true rfl) ?_
  refine sw_if_ne (tgt := 13) dX5_crew_8 (by decide) (fun h8 => ?_) (fun h8 => ?_)
  · refine sw_aload_n dX5_crew_13 rfl ?_
    refine sw_getR (j := 0) dX5_crew_14 fl_X5_19 rfl rfl ?_
    refine sw_iload_n dX5_crew_17 rfl ?_
    refine sw_callV dX5_crew_18 lV_X5_117 (c_nearestPost (k := 0) sm_isF0 _) rfl rfl rfl rfl (Nat.le_of_ble_eq_true rfl) (Nat.le_of_ble_eq_true rfl) ?_
    refine sw_istore_n dX5_crew_21 (by decide) rfl ?_
    refine sw_aload_n dX5_crew_22 rfl ?_
    refine sw_getR (j := 0) dX5_crew_23 fl_X5_19 rfl rfl ?_
    refine sw_iload_n dX5_crew_26 rfl ?_
    refine sw_iload_n dX5_crew_27 rfl ?_
    refine sw_callV dX5_crew_28 lV_X5_121 (c_strengthTo (k := 0) sm_isF0 _ _) rfl rfl rfl rfl (Nat.le_of_ble_eq_true rfl) (Nat.le_of_ble_eq_true rfl) ?_
    refine sw_istore dX5_crew_31 (by decide) rfl ?_
    refine sw_iload_n dX5_crew_33 rfl ?_
    refine sw_tab_X5_crew_34 (fun h34_0 => ?_) (fun h34_1 => ?_) (fun h34_2 => ?_) (fun h34_3 => ?_) (fun h34_4 => ?_) (fun h34_5 => ?_) (fun h34n0 h34n1 h34n2 h34n3 h34n4 h34n5 => ?_)
    · refine sw_aload_n dX5_crew_72 rfl ?_
      refine sw_getR (j := 0) dX5_crew_73 fl_X5_19 rfl rfl ?_
      refine sw_getR (j := 5) dX5_crew_76 fl_X5_125 rfl rfl ?_
      refine sw_iload_n dX5_crew_79 rfl ?_
      refine sw_callS dX5_crew_80 lS_X5_99 (c_at (k := 5) rfl _) rfl rfl (Nat.le_of_ble_eq_true rfl) (Nat.le_of_ble_eq_true rfl) ?_
      refine sw_iret dX5_crew_83 rfl rfl ?_ ?_
      all_goals (first | with_reducible rfl | (simp_all [-Int32.not_lt, -Int32.not_le, sm_b_e0, sm_b_e1, m_crew]))
    · refine sw_aload_n dX5_crew_84 rfl ?_
      refine sw_getR (j := 0) dX5_crew_85 fl_X5_19 rfl rfl ?_
      refine sw_getR (j := 6) dX5_crew_88 fl_X5_128 rfl rfl ?_
      refine sw_iload_n dX5_crew_91 rfl ?_
      refine sw_callS dX5_crew_92 lS_X5_99 (c_at (k := 6) rfl _) rfl rfl (Nat.le_of_ble_eq_true rfl) (Nat.le_of_ble_eq_true rfl) ?_
      refine sw_iret dX5_crew_95 rfl rfl ?_ ?_
      all_goals (first | with_reducible rfl | (simp_all [-Int32.not_lt, -Int32.not_le, sm_b_e0, sm_b_e1, m_crew]))
    · refine sw_aload_n dX5_crew_96 rfl ?_
      refine sw_getR (j := 0) dX5_crew_97 fl_X5_19 rfl rfl ?_
      refine sw_getR (j := 7) dX5_crew_100 fl_X5_131 rfl rfl ?_
      refine sw_iload_n dX5_crew_103 rfl ?_
      refine sw_callS dX5_crew_104 lS_X5_99 (c_at (k := 7) rfl _) rfl rfl (Nat.le_of_ble_eq_true rfl) (Nat.le_of_ble_eq_true rfl) ?_
      refine sw_iret dX5_crew_107 rfl rfl ?_ ?_
      all_goals (first | with_reducible rfl | (simp_all [-Int32.not_lt, -Int32.not_le, sm_b_e0, sm_b_e1, m_crew]))
    · refine sw_iload_n dX5_crew_108 rfl ?_
      refine sw_iret dX5_crew_109 rfl rfl ?_ ?_
      all_goals (first | with_reducible rfl | (simp_all [-Int32.not_lt, -Int32.not_le, sm_b_e0, sm_b_e1, m_crew]))
    · refine sw_iload dX5_crew_110 rfl ?_
      refine sw_iret dX5_crew_112 rfl rfl ?_ ?_
      all_goals (first | with_reducible rfl | (simp_all [-Int32.not_lt, -Int32.not_le, sm_b_e0, sm_b_e1, m_crew]))
    · refine sw_aload_n dX5_crew_113 rfl ?_
      refine sw_getR (j := 0) dX5_crew_114 fl_X5_19 rfl rfl ?_
      refine sw_iload_n dX5_crew_117 rfl ?_
      refine sw_iload dX5_crew_118 rfl ?_
      refine sw_callV dX5_crew_120 lV_X5_134 (c_headingTo (k := 0) sm_isF0 _ _) rfl rfl rfl rfl (Nat.le_of_ble_eq_true rfl) (Nat.le_of_ble_eq_true rfl) ?_
      refine sw_iret dX5_crew_123 rfl rfl ?_ ?_
      all_goals (first | with_reducible rfl | (simp_all [-Int32.not_lt, -Int32.not_le, sm_b_e0, sm_b_e1, m_crew]))
    · refine sw_iconst (v := -1) dX5_crew_124 (by decide) ?_
      refine sw_iret dX5_crew_125 rfl rfl ?_ ?_
      all_goals (first | with_reducible rfl | (simp_all [-Int32.not_lt, -Int32.not_le, sm_b_e0, sm_b_e1, m_crew]))
  · refine sw_iconst (v := -1) dX5_crew_11 (by decide) ?_
    refine sw_iret dX5_crew_12 rfl rfl ?_ ?_
    all_goals (first | with_reducible rfl | (simp_all [-Int32.not_lt, -Int32.not_le, sm_b_e0, sm_b_e1, m_crew]))

set_option maxHeartbeats 4000000 in
theorem c_pull {σ : sm_St} (w : Int32) : sm_C yX5_pull cX5_pull 3 (some .int) 6 [.ref 96, .int w] σ (some (.int (m_pull σ w))) (g_goes σ 0) := by
  refine sm_C.of (own := RX5) (by decide) rfl (Nat.le_of_ble_eq_true rfl) ?_
  show sm_W RX5 cX5_pull 3 (some .int) 6 (some (.int (m_pull σ w))) (g_goes σ 0) 0 [(0, .ref 96), (1, .int w)] [] σ
  refine sw_aload_n dX5_pull_0 rfl ?_
  refine sw_getR (j := 0) dX5_pull_1 fl_X5_19 rfl rfl ?_
  refine sw_callV dX5_pull_4 lV_X5_137 (c_goesTo (k := 0) sm_isF0) rfl rfl rfl rfl (Nat.le_of_ble_eq_true rfl) (Nat.le_of_ble_eq_true rfl) ?_
  refine sw_istore_n dX5_pull_7 (by decide) rfl ?_
  refine sw_iload_n dX5_pull_8 rfl ?_
  refine sw_tab_X5_pull_9 (fun h9_0 => ?_) (fun h9_1 => ?_) (fun h9_2 => ?_) (fun h9n0 h9n1 h9n2 => ?_)
  · refine sw_aload_n dX5_pull_36 rfl ?_
    refine sw_getR (j := 0) dX5_pull_37 fl_X5_19 rfl rfl ?_
    refine sw_getI dX5_pull_40 fl_X5_140 rfl rfl ?_
    refine sw_sipush (v := 500) dX5_pull_43 (by decide) ?_
    refine sw_iadd dX5_pull_46 ?_
    refine sw_iret dX5_pull_47 rfl rfl ?_ ?_
    all_goals (first | with_reducible rfl | (simp_all [-Int32.not_lt, -Int32.not_le, sm_b_e0, sm_b_e1, m_pull, g_goes_8, g_goes_9]))
  · refine sw_aload_n dX5_pull_48 rfl ?_
    refine sw_getR (j := 0) dX5_pull_49 fl_X5_19 rfl rfl ?_
    refine sw_getI dX5_pull_52 fl_X5_143 rfl rfl ?_
    refine sw_sipush (v := 500) dX5_pull_55 (by decide) ?_
    refine sw_iadd dX5_pull_58 ?_
    refine sw_iret dX5_pull_59 rfl rfl ?_ ?_
    all_goals (first | with_reducible rfl | (simp_all [-Int32.not_lt, -Int32.not_le, sm_b_e0, sm_b_e1, m_pull, g_goes_8, g_goes_9]))
  · refine sw_iload_n dX5_pull_60 rfl ?_
    refine sw_iret dX5_pull_61 rfl rfl ?_ ?_
    all_goals (first | with_reducible rfl | (simp_all [-Int32.not_lt, -Int32.not_le, sm_b_e0, sm_b_e1, m_pull, g_goes_8, g_goes_9]))
  · refine sw_iconst (v := -1) dX5_pull_62 (by decide) ?_
    refine sw_iret dX5_pull_63 rfl rfl ?_ ?_
    all_goals (first | with_reducible rfl | (simp_all [-Int32.not_lt, -Int32.not_le, sm_b_e0, sm_b_e1, m_pull, g_goes_8, g_goes_9]))

set_option maxHeartbeats 4000000 in
theorem c_pass {σ : sm_St} (hU : m_U σ) (n : Int32) : sm_C yX5_pass cX5_pass 2 (some .int) 7 [.ref 96, .int n] σ (some (.int ((m_pass σ n).1))) (m_pass σ n).2 := by
  refine sm_C.of (own := RX5) (by decide) rfl (Nat.le_of_ble_eq_true rfl) ?_
  show sm_W RX5 cX5_pass 2 (some .int) 7 (some (.int ((m_pass σ n).1))) (m_pass σ n).2 0 [(0, .ref 96), (1, .int n)] [] σ
  refine sw_iload_n dX5_pass_0 rfl ?_
  refine sw_iconst (v := 1) dX5_pass_1 (by decide) ?_
  refine sw_bipush (v := 20) dX5_pass_2 (by decide) ?_
  refine sw_callS dX5_pass_4 lS_X5_75 (c_within _ _ _) rfl rfl (Nat.le_of_ble_eq_true rfl) (Nat.le_of_ble_eq_true rfl) ?_
  refine sw_if_ne (tgt := 12) dX5_pass_7 (by decide) (fun h7 => ?_) (fun h7 => ?_)
  · refine sw_aload_n dX5_pass_12 rfl ?_
    refine sw_getR (j := 0) dX5_pass_13 fl_X5_19 rfl rfl ?_
    refine sw_getI dX5_pass_16 fl_X5_146 rfl rfl ?_
    refine sw_iload_n dX5_pass_19 rfl ?_
    refine sw_iadd dX5_pass_20 ?_
    refine sw_sipush (v := 999) dX5_pass_21 (by decide) ?_
    refine sw_icmp_le (tgt := 30) dX5_pass_24 (by decide) (fun h24 => ?_) (fun h24 => ?_)
    · refine sw_aload_n dX5_pass_30 rfl ?_
      refine sw_getR (j := 104) dX5_pass_31 fl_X5_38 rfl rfl ?_
      refine sw_aload_n dX5_pass_34 rfl ?_
      refine sw_getR (j := 0) dX5_pass_35 fl_X5_19 rfl rfl ?_
      refine sw_callV dX5_pass_38 lV_X5_149 (c_push104 (f := 0) sm_isF0 (by decide) hU) rfl rfl rfl rfl (Nat.le_of_ble_eq_true rfl) (Nat.le_of_ble_eq_true rfl) ?_
      refine sw_aload_n dX5_pass_41 rfl ?_
      refine sw_getR (j := 0) dX5_pass_42 fl_X5_19 rfl rfl ?_
      refine sw_iload_n dX5_pass_45 rfl ?_
      refine sw_callV dX5_pass_46 lV_X5_152 (c_goHours (k := 0) sm_isF0 _) rfl rfl rfl rfl (Nat.le_of_ble_eq_true rfl) (Nat.le_of_ble_eq_true rfl) ?_
      refine sw_iret dX5_pass_49 rfl rfl ?_ ?_
      all_goals (first | with_reducible rfl | (simp_all [-Int32.not_lt, -Int32.not_le, sm_b_e0, sm_b_e1, m_pass]))
    · refine sw_bipush (v := -2) dX5_pass_27 (by decide) ?_
      refine sw_iret dX5_pass_29 rfl rfl ?_ ?_
      all_goals (first | with_reducible rfl | (simp_all [-Int32.not_lt, -Int32.not_le, sm_b_e0, sm_b_e1, m_pass]))
  · refine sw_iconst (v := -1) dX5_pass_10 (by decide) ?_
    refine sw_iret dX5_pass_11 rfl rfl ?_ ?_
    all_goals (first | with_reducible rfl | (simp_all [-Int32.not_lt, -Int32.not_le, sm_b_e0, sm_b_e1, m_pass]))

set_option maxHeartbeats 4000000 in
theorem c_wind {σ : sm_St} (hU : m_U σ) (d f : Int32) : sm_C yX5_wind cX5_wind 4 (some .int) 5 [.ref 96, .int d, .int f] σ (some (.int ((m_wind σ d f).1))) (m_wind σ d f).2 := by
  refine sm_C.of (own := RX5) (by decide) rfl (Nat.le_of_ble_eq_true rfl) ?_
  show sm_W RX5 cX5_wind 4 (some .int) 5 (some (.int ((m_wind σ d f).1))) (m_wind σ d f).2 0 [(0, .ref 96), (1, .int d), (2, .int f)] [] σ
  refine sw_iload_n dX5_wind_0 rfl ?_
  refine sw_iconst (v := 0) dX5_wind_1 (by decide) ?_
  refine sw_iconst (v := 4) dX5_wind_2 (by decide) ?_
  refine sw_callS dX5_wind_3 lS_X5_75 (c_within _ _ _) rfl rfl (Nat.le_of_ble_eq_true rfl) (Nat.le_of_ble_eq_true rfl) ?_
  refine sw_if_eq (tgt := 19) dX5_wind_6 (by decide) (fun h6 => ?_) (fun h6 => ?_)
  · refine sw_iconst (v := -1) dX5_wind_19 (by decide) ?_
    refine sw_iret dX5_wind_20 rfl rfl ?_ ?_
    all_goals (first | with_reducible rfl | (simp_all [-Int32.not_lt, -Int32.not_le, sm_b_e0, sm_b_e1, m_wind]))
  · refine sw_iload_n dX5_wind_9 rfl ?_
    refine sw_iconst (v := 0) dX5_wind_10 (by decide) ?_
    refine sw_bipush (v := 20) dX5_wind_11 (by decide) ?_
    refine sw_callS dX5_wind_13 lS_X5_75 (c_within _ _ _) rfl rfl (Nat.le_of_ble_eq_true rfl) (Nat.le_of_ble_eq_true rfl) ?_
    refine sw_if_ne (tgt := 21) dX5_wind_16 (by decide) (fun h16 => ?_) (fun h16 => ?_)
    · refine sw_aload_n dX5_wind_21 rfl ?_
      refine sw_getR (j := 104) dX5_wind_22 fl_X5_38 rfl rfl ?_
      refine sw_aload_n dX5_wind_25 rfl ?_
      refine sw_getR (j := 0) dX5_wind_26 fl_X5_19 rfl rfl ?_
      refine sw_callV dX5_wind_29 lV_X5_149 (c_push104 (f := 0) sm_isF0 (by decide) hU) rfl rfl rfl rfl (Nat.le_of_ble_eq_true rfl) (Nat.le_of_ble_eq_true rfl) ?_
      refine sw_aload_n dX5_wind_32 rfl ?_
      refine sw_getR (j := 0) dX5_wind_33 fl_X5_19 rfl rfl ?_
      refine sw_getI dX5_wind_36 fl_X5_155 rfl rfl ?_
      refine sw_istore_n dX5_wind_39 (by decide) rfl ?_
      refine sw_aload_n dX5_wind_40 rfl ?_
      refine sw_getR (j := 0) dX5_wind_41 fl_X5_19 rfl rfl ?_
      refine sw_iload_n dX5_wind_44 rfl ?_
      refine sw_put dX5_wind_45 fl_X5_158 fi_0_3 rfl rfl ?_
      refine sw_aload_n dX5_wind_48 rfl ?_
      refine sw_getR (j := 0) dX5_wind_49 fl_X5_19 rfl rfl ?_
      refine sw_iload_n dX5_wind_52 rfl ?_
      refine sw_put dX5_wind_53 fl_X5_155 fi_0_4 rfl rfl ?_
      refine sw_iload_n dX5_wind_56 rfl ?_
      refine sw_iret dX5_wind_57 rfl rfl ?_ ?_
      all_goals (first | with_reducible rfl | (simp_all [-Int32.not_lt, -Int32.not_le, sm_b_e0, sm_b_e1, m_wind]))
    · refine sw_iconst (v := -1) dX5_wind_19 (by decide) ?_
      refine sw_iret dX5_wind_20 rfl rfl ?_ ?_
      all_goals (first | with_reducible rfl | (simp_all [-Int32.not_lt, -Int32.not_le, sm_b_e0, sm_b_e1, m_wind]))

set_option maxHeartbeats 4000000 in
theorem c_put {σ : sm_St} (hU : m_U σ) (p x y : Int32) : sm_C yX5_put cX5_put 5 (some .int) 5 [.ref 96, .int p, .int x, .int y] σ (some (.int ((m_put σ p x y).1))) (m_put σ p x y).2 := by
  refine sm_C.of (own := RX5) (by decide) rfl (Nat.le_of_ble_eq_true rfl) ?_
  show sm_W RX5 cX5_put 5 (some .int) 5 (some (.int ((m_put σ p x y).1))) (m_put σ p x y).2 0 [(0, .ref 96), (1, .int p), (2, .int x), (3, .int y)] [] σ
  refine sw_aload_n dX5_put_0 rfl ?_
  refine sw_getR (j := 0) dX5_put_1 fl_X5_19 rfl rfl ?_
  refine sw_iload_n dX5_put_4 rfl ?_
  refine sw_callV dX5_put_5 lV_X5_93 (c_hasPost (k := 0) sm_isF0 _) rfl rfl rfl rfl (Nat.le_of_ble_eq_true rfl) (Nat.le_of_ble_eq_true rfl) ?_
  refine sw_if_eq (tgt := 19) dX5_put_8 (by decide) (fun h8 => ?_) (fun h8 => ?_)
  · refine sw_iconst (v := -1) dX5_put_19 (by decide) ?_
    refine sw_iret dX5_put_20 rfl rfl ?_ ?_
    all_goals (first | with_reducible rfl | (simp_all [-Int32.not_lt, -Int32.not_le, sm_b_e0, sm_b_e1, m_put]))
  · refine sw_iload_n dX5_put_11 rfl ?_
    refine sw_iload_n dX5_put_12 rfl ?_
    refine sw_callS dX5_put_13 lS_X5_161 (c_isCell _ _) rfl rfl (Nat.le_of_ble_eq_true rfl) (Nat.le_of_ble_eq_true rfl) ?_
    refine sw_if_ne (tgt := 21) dX5_put_16 (by decide) (fun h16 => ?_) (fun h16 => ?_)
    · refine sw_aload_n dX5_put_21 rfl ?_
      refine sw_getR (j := 0) dX5_put_22 fl_X5_19 rfl rfl ?_
      refine sw_getR (j := 4) dX5_put_25 fl_X5_111 rfl rfl ?_
      refine sw_iload_n dX5_put_28 rfl ?_
      refine sw_callS dX5_put_29 lS_X5_99 (c_at (k := 4) rfl _) rfl rfl (Nat.le_of_ble_eq_true rfl) (Nat.le_of_ble_eq_true rfl) ?_
      refine sw_istore dX5_put_32 (by decide) rfl ?_
      refine sw_iload dX5_put_34 rfl ?_
      refine sw_if_ne (tgt := 72) dX5_put_36 (by decide) (fun h36 => ?_) (fun h36 => ?_)
      · refine sw_aload_n dX5_put_72 rfl ?_
        refine sw_getR (j := 104) dX5_put_73 fl_X5_38 rfl rfl ?_
        refine sw_aload_n dX5_put_76 rfl ?_
        refine sw_getR (j := 0) dX5_put_77 fl_X5_19 rfl rfl ?_
        refine sw_callV dX5_put_80 lV_X5_149 (c_push104 (f := 0) sm_isF0 (by decide) hU) rfl rfl rfl rfl (Nat.le_of_ble_eq_true rfl) (Nat.le_of_ble_eq_true rfl) ?_
        refine sw_aload_n dX5_put_83 rfl ?_
        refine sw_getR (j := 0) dX5_put_84 fl_X5_19 rfl rfl ?_
        refine sw_getR (j := 1) dX5_put_87 fl_X5_96 rfl rfl ?_
        refine sw_iload_n dX5_put_90 rfl ?_
        refine sw_iload_n dX5_put_91 rfl ?_
        refine sw_callS dX5_put_92 lS_X5_165 (c_set (k := 1) rfl _ _) rfl rfl (Nat.le_of_ble_eq_true rfl) (Nat.le_of_ble_eq_true rfl) ?_
        refine sw_aload_n dX5_put_95 rfl ?_
        refine sw_getR (j := 0) dX5_put_96 fl_X5_19 rfl rfl ?_
        refine sw_getR (j := 2) dX5_put_99 fl_X5_105 rfl rfl ?_
        refine sw_iload_n dX5_put_102 rfl ?_
        refine sw_iload_n dX5_put_103 rfl ?_
        refine sw_callS dX5_put_104 lS_X5_165 (c_set (k := 2) rfl _ _) rfl rfl (Nat.le_of_ble_eq_true rfl) (Nat.le_of_ble_eq_true rfl) ?_
        refine sw_aload_n dX5_put_107 rfl ?_
        refine sw_getR (j := 0) dX5_put_108 fl_X5_19 rfl rfl ?_
        refine sw_getR (j := 4) dX5_put_111 fl_X5_111 rfl rfl ?_
        refine sw_iload_n dX5_put_114 rfl ?_
        refine sw_iconst (v := 0) dX5_put_115 (by decide) ?_
        refine sw_callS dX5_put_116 lS_X5_165 (c_set (k := 4) rfl _ _) rfl rfl (Nat.le_of_ble_eq_true rfl) (Nat.le_of_ble_eq_true rfl) ?_
        refine sw_iload dX5_put_119 rfl ?_
        refine sw_iret dX5_put_121 rfl rfl ?_ ?_
        all_goals (first | with_reducible rfl | (simp_all [-Int32.not_lt, -Int32.not_le, sm_b_e0, sm_b_e1, m_put]))
      · refine sw_aload_n dX5_put_39 rfl ?_
        refine sw_getR (j := 0) dX5_put_40 fl_X5_19 rfl rfl ?_
        refine sw_getR (j := 1) dX5_put_43 fl_X5_96 rfl rfl ?_
        refine sw_iload_n dX5_put_46 rfl ?_
        refine sw_callS dX5_put_47 lS_X5_99 (c_at (k := 1) rfl _) rfl rfl (Nat.le_of_ble_eq_true rfl) (Nat.le_of_ble_eq_true rfl) ?_
        refine sw_iload_n dX5_put_50 rfl ?_
        refine sw_icmp_ne (tgt := 72) dX5_put_51 (by decide) (fun h51 => ?_) (fun h51 => ?_)
        · refine sw_aload_n dX5_put_72 rfl ?_
          refine sw_getR (j := 104) dX5_put_73 fl_X5_38 rfl rfl ?_
          refine sw_aload_n dX5_put_76 rfl ?_
          refine sw_getR (j := 0) dX5_put_77 fl_X5_19 rfl rfl ?_
          refine sw_callV dX5_put_80 lV_X5_149 (c_push104 (f := 0) sm_isF0 (by decide) hU) rfl rfl rfl rfl (Nat.le_of_ble_eq_true rfl) (Nat.le_of_ble_eq_true rfl) ?_
          refine sw_aload_n dX5_put_83 rfl ?_
          refine sw_getR (j := 0) dX5_put_84 fl_X5_19 rfl rfl ?_
          refine sw_getR (j := 1) dX5_put_87 fl_X5_96 rfl rfl ?_
          refine sw_iload_n dX5_put_90 rfl ?_
          refine sw_iload_n dX5_put_91 rfl ?_
          refine sw_callS dX5_put_92 lS_X5_165 (c_set (k := 1) rfl _ _) rfl rfl (Nat.le_of_ble_eq_true rfl) (Nat.le_of_ble_eq_true rfl) ?_
          refine sw_aload_n dX5_put_95 rfl ?_
          refine sw_getR (j := 0) dX5_put_96 fl_X5_19 rfl rfl ?_
          refine sw_getR (j := 2) dX5_put_99 fl_X5_105 rfl rfl ?_
          refine sw_iload_n dX5_put_102 rfl ?_
          refine sw_iload_n dX5_put_103 rfl ?_
          refine sw_callS dX5_put_104 lS_X5_165 (c_set (k := 2) rfl _ _) rfl rfl (Nat.le_of_ble_eq_true rfl) (Nat.le_of_ble_eq_true rfl) ?_
          refine sw_aload_n dX5_put_107 rfl ?_
          refine sw_getR (j := 0) dX5_put_108 fl_X5_19 rfl rfl ?_
          refine sw_getR (j := 4) dX5_put_111 fl_X5_111 rfl rfl ?_
          refine sw_iload_n dX5_put_114 rfl ?_
          refine sw_iconst (v := 0) dX5_put_115 (by decide) ?_
          refine sw_callS dX5_put_116 lS_X5_165 (c_set (k := 4) rfl _ _) rfl rfl (Nat.le_of_ble_eq_true rfl) (Nat.le_of_ble_eq_true rfl) ?_
          refine sw_iload dX5_put_119 rfl ?_
          refine sw_iret dX5_put_121 rfl rfl ?_ ?_
          all_goals (first | with_reducible rfl | (simp_all [-Int32.not_lt, -Int32.not_le, sm_b_e0, sm_b_e1, m_put]))
        · refine sw_aload_n dX5_put_54 rfl ?_
          refine sw_getR (j := 0) dX5_put_55 fl_X5_19 rfl rfl ?_
          refine sw_getR (j := 2) dX5_put_58 fl_X5_105 rfl rfl ?_
          refine sw_iload_n dX5_put_61 rfl ?_
          refine sw_callS dX5_put_62 lS_X5_99 (c_at (k := 2) rfl _) rfl rfl (Nat.le_of_ble_eq_true rfl) (Nat.le_of_ble_eq_true rfl) ?_
          refine sw_iload_n dX5_put_65 rfl ?_
          refine sw_icmp_ne (tgt := 72) dX5_put_66 (by decide) (fun h66 => ?_) (fun h66 => ?_)
          · refine sw_aload_n dX5_put_72 rfl ?_
            refine sw_getR (j := 104) dX5_put_73 fl_X5_38 rfl rfl ?_
            refine sw_aload_n dX5_put_76 rfl ?_
            refine sw_getR (j := 0) dX5_put_77 fl_X5_19 rfl rfl ?_
            refine sw_callV dX5_put_80 lV_X5_149 (c_push104 (f := 0) sm_isF0 (by decide) hU) rfl rfl rfl rfl (Nat.le_of_ble_eq_true rfl) (Nat.le_of_ble_eq_true rfl) ?_
            refine sw_aload_n dX5_put_83 rfl ?_
            refine sw_getR (j := 0) dX5_put_84 fl_X5_19 rfl rfl ?_
            refine sw_getR (j := 1) dX5_put_87 fl_X5_96 rfl rfl ?_
            refine sw_iload_n dX5_put_90 rfl ?_
            refine sw_iload_n dX5_put_91 rfl ?_
            refine sw_callS dX5_put_92 lS_X5_165 (c_set (k := 1) rfl _ _) rfl rfl (Nat.le_of_ble_eq_true rfl) (Nat.le_of_ble_eq_true rfl) ?_
            refine sw_aload_n dX5_put_95 rfl ?_
            refine sw_getR (j := 0) dX5_put_96 fl_X5_19 rfl rfl ?_
            refine sw_getR (j := 2) dX5_put_99 fl_X5_105 rfl rfl ?_
            refine sw_iload_n dX5_put_102 rfl ?_
            refine sw_iload_n dX5_put_103 rfl ?_
            refine sw_callS dX5_put_104 lS_X5_165 (c_set (k := 2) rfl _ _) rfl rfl (Nat.le_of_ble_eq_true rfl) (Nat.le_of_ble_eq_true rfl) ?_
            refine sw_aload_n dX5_put_107 rfl ?_
            refine sw_getR (j := 0) dX5_put_108 fl_X5_19 rfl rfl ?_
            refine sw_getR (j := 4) dX5_put_111 fl_X5_111 rfl rfl ?_
            refine sw_iload_n dX5_put_114 rfl ?_
            refine sw_iconst (v := 0) dX5_put_115 (by decide) ?_
            refine sw_callS dX5_put_116 lS_X5_165 (c_set (k := 4) rfl _ _) rfl rfl (Nat.le_of_ble_eq_true rfl) (Nat.le_of_ble_eq_true rfl) ?_
            refine sw_iload dX5_put_119 rfl ?_
            refine sw_iret dX5_put_121 rfl rfl ?_ ?_
            all_goals (first | with_reducible rfl | (simp_all [-Int32.not_lt, -Int32.not_le, sm_b_e0, sm_b_e1, m_put]))
          · refine sw_bipush (v := -2) dX5_put_69 (by decide) ?_
            refine sw_iret dX5_put_71 rfl rfl ?_ ?_
            all_goals (first | with_reducible rfl | (simp_all [-Int32.not_lt, -Int32.not_le, sm_b_e0, sm_b_e1, m_put]))
    · refine sw_iconst (v := -1) dX5_put_19 (by decide) ?_
      refine sw_iret dX5_put_20 rfl rfl ?_ ?_
      all_goals (first | with_reducible rfl | (simp_all [-Int32.not_lt, -Int32.not_le, sm_b_e0, sm_b_e1, m_put]))

set_option maxHeartbeats 4000000 in
theorem c_smell {σ : sm_St} (hU : m_U σ) (p s : Int32) : sm_C yX5_smell cX5_smell 4 (some .int) 5 [.ref 96, .int p, .int s] σ (some (.int ((m_smell σ p s).1))) (m_smell σ p s).2 := by
  refine sm_C.of (own := RX5) (by decide) rfl (Nat.le_of_ble_eq_true rfl) ?_
  show sm_W RX5 cX5_smell 4 (some .int) 5 (some (.int ((m_smell σ p s).1))) (m_smell σ p s).2 0 [(0, .ref 96), (1, .int p), (2, .int s)] [] σ
  refine sw_aload_n dX5_smell_0 rfl ?_
  refine sw_getR (j := 0) dX5_smell_1 fl_X5_19 rfl rfl ?_
  refine sw_iload_n dX5_smell_4 rfl ?_
  refine sw_callV dX5_smell_5 lV_X5_93 (c_hasPost (k := 0) sm_isF0 _) rfl rfl rfl rfl (Nat.le_of_ble_eq_true rfl) (Nat.le_of_ble_eq_true rfl) ?_
  refine sw_if_eq (tgt := 20) dX5_smell_8 (by decide) (fun h8 => ?_) (fun h8 => ?_)
  · refine sw_iconst (v := -1) dX5_smell_20 (by decide) ?_
    refine sw_iret dX5_smell_21 rfl rfl ?_ ?_
    all_goals (first | with_reducible rfl | (simp_all [-Int32.not_lt, -Int32.not_le, sm_b_e0, sm_b_e1, m_smell]))
  · refine sw_iload_n dX5_smell_11 rfl ?_
    refine sw_iconst (v := 0) dX5_smell_12 (by decide) ?_
    refine sw_iconst (v := 5) dX5_smell_13 (by decide) ?_
    refine sw_callS dX5_smell_14 lS_X5_75 (c_within _ _ _) rfl rfl (Nat.le_of_ble_eq_true rfl) (Nat.le_of_ble_eq_true rfl) ?_
    refine sw_if_ne (tgt := 22) dX5_smell_17 (by decide) (fun h17 => ?_) (fun h17 => ?_)
    · refine sw_aload_n dX5_smell_22 rfl ?_
      refine sw_getR (j := 0) dX5_smell_23 fl_X5_19 rfl rfl ?_
      refine sw_getR (j := 3) dX5_smell_26 fl_X5_108 rfl rfl ?_
      refine sw_iload_n dX5_smell_29 rfl ?_
      refine sw_callS dX5_smell_30 lS_X5_99 (c_at (k := 3) rfl _) rfl rfl (Nat.le_of_ble_eq_true rfl) (Nat.le_of_ble_eq_true rfl) ?_
      refine sw_istore_n dX5_smell_33 (by decide) rfl ?_
      refine sw_iload_n dX5_smell_34 rfl ?_
      refine sw_iload_n dX5_smell_35 rfl ?_
      refine sw_icmp_eq (tgt := 53) dX5_smell_36 (by decide) (fun h36 => ?_) (fun h36 => ?_)
      · refine sw_bipush (v := -2) dX5_smell_53 (by decide) ?_
        refine sw_iret dX5_smell_55 rfl rfl ?_ ?_
        all_goals (first | with_reducible rfl | (simp_all [-Int32.not_lt, -Int32.not_le, sm_b_e0, sm_b_e1, m_smell]))
      · refine sw_aload_n dX5_smell_39 rfl ?_
        refine sw_getR (j := 0) dX5_smell_40 fl_X5_19 rfl rfl ?_
        refine sw_getR (j := 4) dX5_smell_43 fl_X5_111 rfl rfl ?_
        refine sw_iload_n dX5_smell_46 rfl ?_
        refine sw_callS dX5_smell_47 lS_X5_99 (c_at (k := 4) rfl _) rfl rfl (Nat.le_of_ble_eq_true rfl) (Nat.le_of_ble_eq_true rfl) ?_
        refine sw_if_eq (tgt := 56) dX5_smell_50 (by decide) (fun h50 => ?_) (fun h50 => ?_)
        · refine sw_aload_n dX5_smell_56 rfl ?_
          refine sw_getR (j := 104) dX5_smell_57 fl_X5_38 rfl rfl ?_
          refine sw_aload_n dX5_smell_60 rfl ?_
          refine sw_getR (j := 0) dX5_smell_61 fl_X5_19 rfl rfl ?_
          refine sw_callV dX5_smell_64 lV_X5_149 (c_push104 (f := 0) sm_isF0 (by decide) hU) rfl rfl rfl rfl (Nat.le_of_ble_eq_true rfl) (Nat.le_of_ble_eq_true rfl) ?_
          refine sw_aload_n dX5_smell_67 rfl ?_
          refine sw_getR (j := 0) dX5_smell_68 fl_X5_19 rfl rfl ?_
          refine sw_getR (j := 3) dX5_smell_71 fl_X5_108 rfl rfl ?_
          refine sw_iload_n dX5_smell_74 rfl ?_
          refine sw_iload_n dX5_smell_75 rfl ?_
          refine sw_callS dX5_smell_76 lS_X5_165 (c_set (k := 3) rfl _ _) rfl rfl (Nat.le_of_ble_eq_true rfl) (Nat.le_of_ble_eq_true rfl) ?_
          refine sw_iload_n dX5_smell_79 rfl ?_
          refine sw_iret dX5_smell_80 rfl rfl ?_ ?_
          all_goals (first | with_reducible rfl | (simp_all [-Int32.not_lt, -Int32.not_le, sm_b_e0, sm_b_e1, m_smell]))
        · refine sw_bipush (v := -2) dX5_smell_53 (by decide) ?_
          refine sw_iret dX5_smell_55 rfl rfl ?_ ?_
          all_goals (first | with_reducible rfl | (simp_all [-Int32.not_lt, -Int32.not_le, sm_b_e0, sm_b_e1, m_smell]))
    · refine sw_iconst (v := -1) dX5_smell_20 (by decide) ?_
      refine sw_iret dX5_smell_21 rfl rfl ?_ ?_
      all_goals (first | with_reducible rfl | (simp_all [-Int32.not_lt, -Int32.not_le, sm_b_e0, sm_b_e1, m_smell]))

set_option maxHeartbeats 4000000 in
theorem c_take {σ : sm_St} (hU : m_U σ) (p : Int32) : sm_C yX5_take cX5_take 2 (some .int) 5 [.ref 96, .int p] σ (some (.int ((m_take σ p).1))) (m_take σ p).2 := by
  refine sm_C.of (own := RX5) (by decide) rfl (Nat.le_of_ble_eq_true rfl) ?_
  show sm_W RX5 cX5_take 2 (some .int) 5 (some (.int ((m_take σ p).1))) (m_take σ p).2 0 [(0, .ref 96), (1, .int p)] [] σ
  refine sw_aload_n dX5_take_0 rfl ?_
  refine sw_getR (j := 0) dX5_take_1 fl_X5_19 rfl rfl ?_
  refine sw_iload_n dX5_take_4 rfl ?_
  refine sw_callV dX5_take_5 lV_X5_93 (c_hasPost (k := 0) sm_isF0 _) rfl rfl rfl rfl (Nat.le_of_ble_eq_true rfl) (Nat.le_of_ble_eq_true rfl) ?_
  refine sw_if_ne (tgt := 13) dX5_take_8 (by decide) (fun h8 => ?_) (fun h8 => ?_)
  · refine sw_aload_n dX5_take_13 rfl ?_
    refine sw_getR (j := 0) dX5_take_14 fl_X5_19 rfl rfl ?_
    refine sw_getR (j := 4) dX5_take_17 fl_X5_111 rfl rfl ?_
    refine sw_iload_n dX5_take_20 rfl ?_
    refine sw_callS dX5_take_21 lS_X5_99 (c_at (k := 4) rfl _) rfl rfl (Nat.le_of_ble_eq_true rfl) (Nat.le_of_ble_eq_true rfl) ?_
    refine sw_if_eq (tgt := 30) dX5_take_24 (by decide) (fun h24 => ?_) (fun h24 => ?_)
    · refine sw_aload_n dX5_take_30 rfl ?_
      refine sw_getR (j := 104) dX5_take_31 fl_X5_38 rfl rfl ?_
      refine sw_aload_n dX5_take_34 rfl ?_
      refine sw_getR (j := 0) dX5_take_35 fl_X5_19 rfl rfl ?_
      refine sw_callV dX5_take_38 lV_X5_149 (c_push104 (f := 0) sm_isF0 (by decide) hU) rfl rfl rfl rfl (Nat.le_of_ble_eq_true rfl) (Nat.le_of_ble_eq_true rfl) ?_
      refine sw_aload_n dX5_take_41 rfl ?_
      refine sw_getR (j := 0) dX5_take_42 fl_X5_19 rfl rfl ?_
      refine sw_getR (j := 4) dX5_take_45 fl_X5_111 rfl rfl ?_
      refine sw_iload_n dX5_take_48 rfl ?_
      refine sw_iconst (v := 1) dX5_take_49 (by decide) ?_
      refine sw_callS dX5_take_50 lS_X5_165 (c_set (k := 4) rfl _ _) rfl rfl (Nat.le_of_ble_eq_true rfl) (Nat.le_of_ble_eq_true rfl) ?_
      refine sw_aload_n dX5_take_53 rfl ?_
      refine sw_getR (j := 0) dX5_take_54 fl_X5_19 rfl rfl ?_
      refine sw_callV dX5_take_57 lV_X5_169 (c_standingPosts (k := 0) sm_isF0) rfl rfl rfl rfl (Nat.le_of_ble_eq_true rfl) (Nat.le_of_ble_eq_true rfl) ?_
      refine sw_callS dX5_take_60 lS_X5_172 (c_bitCount _) rfl rfl (Nat.le_of_ble_eq_true rfl) (Nat.le_of_ble_eq_true rfl) ?_
      refine sw_iret dX5_take_63 rfl rfl ?_ ?_
      all_goals (first | with_reducible rfl | (simp_all [-Int32.not_lt, -Int32.not_le, sm_b_e0, sm_b_e1, m_take]))
    · refine sw_bipush (v := -2) dX5_take_27 (by decide) ?_
      refine sw_iret dX5_take_29 rfl rfl ?_ ?_
      all_goals (first | with_reducible rfl | (simp_all [-Int32.not_lt, -Int32.not_le, sm_b_e0, sm_b_e1, m_take]))
  · refine sw_iconst (v := -1) dX5_take_11 (by decide) ?_
    refine sw_iret dX5_take_12 rfl rfl ?_ ?_
    all_goals (first | with_reducible rfl | (simp_all [-Int32.not_lt, -Int32.not_le, sm_b_e0, sm_b_e1, m_take]))

set_option maxHeartbeats 4000000 in
theorem c_undo {σ : sm_St} (hU : m_U σ) : sm_C yX5_undo cX5_undo 1 (some .int) 5 [.ref 96] σ (some (.int ((m_undo σ).1))) (m_undo σ).2 := by
  refine sm_C.of (own := RX5) (by decide) rfl (Nat.le_of_ble_eq_true rfl) ?_
  show sm_W RX5 cX5_undo 1 (some .int) 5 (some (.int ((m_undo σ).1))) (m_undo σ).2 0 [(0, .ref 96)] [] σ
  refine sw_aload_n dX5_undo_0 rfl ?_
  refine sw_getR (j := 104) dX5_undo_1 fl_X5_38 rfl rfl ?_
  refine sw_aload_n dX5_undo_4 rfl ?_
  refine sw_getR (j := 0) dX5_undo_5 fl_X5_19 rfl rfl ?_
  refine sw_callV dX5_undo_8 lV_X5_177 (c_popInto104 (f := 0) sm_isF0 (by decide) hU) rfl rfl rfl rfl (Nat.le_of_ble_eq_true rfl) (Nat.le_of_ble_eq_true rfl) ?_
  refine sw_if_eq (tgt := 24) dX5_undo_11 (by decide) (fun h11 => ?_) (fun h11 => ?_)
  · refine sw_bipush (v := -2) dX5_undo_24 (by decide) ?_
    refine sw_iret dX5_undo_26 rfl rfl ?_ ?_
    all_goals (first | with_reducible rfl | (simp_all [-Int32.not_lt, -Int32.not_le, sm_b_e0, sm_b_e1, m_undo]))
  · refine sw_aload_n dX5_undo_14 rfl ?_
    refine sw_getR (j := 104) dX5_undo_15 fl_X5_38 rfl rfl ?_
    refine sw_getI dX5_undo_18 fl_X5_92 rfl rfl ?_
    refine sw_goto (tgt := 26) dX5_undo_21 (by decide) ?_
    refine sw_iret dX5_undo_26 rfl rfl ?_ ?_
    all_goals (first | with_reducible rfl | (simp_all [-Int32.not_lt, -Int32.not_le, sm_b_e0, sm_b_e1, m_undo]))

set_option maxHeartbeats 4000000 in
theorem c_behind {σ : sm_St} (n w : Int32) : sm_C yX5_behind cX5_behind 3 (some .int) 7 [.ref 96, .int n, .int w] σ (some (.int ((m_behind σ n w).1))) (m_behind σ n w).2 := by
  refine sm_C.of (own := RX5) (by decide) rfl (Nat.le_of_ble_eq_true rfl) ?_
  show sm_W RX5 cX5_behind 3 (some .int) 7 (some (.int ((m_behind σ n w).1))) (m_behind σ n w).2 0 [(0, .ref 96), (1, .int n), (2, .int w)] [] σ
  refine sw_iload_n dX5_behind_0 rfl ?_
  refine sw_iconst (v := 0) dX5_behind_1 (by decide) ?_
  refine sw_bipush (v := 40) dX5_behind_2 (by decide) ?_
  refine sw_callS dX5_behind_4 lS_X5_75 (c_within _ _ _) rfl rfl (Nat.le_of_ble_eq_true rfl) (Nat.le_of_ble_eq_true rfl) ?_
  refine sw_if_eq (tgt := 19) dX5_behind_7 (by decide) (fun h7 => ?_) (fun h7 => ?_)
  · refine sw_iconst (v := -1) dX5_behind_19 (by decide) ?_
    refine sw_iret dX5_behind_20 rfl rfl ?_ ?_
    all_goals (first | with_reducible rfl | (simp_all [-Int32.not_lt, -Int32.not_le, sm_b_e0, sm_b_e1, m_behind, m_try]))
  · refine sw_iload_n dX5_behind_10 rfl ?_
    refine sw_iconst (v := 0) dX5_behind_11 (by decide) ?_
    refine sw_iconst (v := 1) dX5_behind_12 (by decide) ?_
    refine sw_callS dX5_behind_13 lS_X5_75 (c_within _ _ _) rfl rfl (Nat.le_of_ble_eq_true rfl) (Nat.le_of_ble_eq_true rfl) ?_
    refine sw_if_ne (tgt := 21) dX5_behind_16 (by decide) (fun h16 => ?_) (fun h16 => ?_)
    · refine sw_aload_n dX5_behind_21 rfl ?_
      refine sw_getR (j := 8) dX5_behind_22 fl_X5_23 rfl rfl ?_
      refine sw_aload_n dX5_behind_25 rfl ?_
      refine sw_getR (j := 0) dX5_behind_26 fl_X5_19 rfl rfl ?_
      refine sw_callV dX5_behind_29 lV_X5_85 (c_copyFrom (k := 8) (j := 0) sm_isF8 sm_isF0 (by decide)) rfl rfl rfl rfl (Nat.le_of_ble_eq_true rfl) (Nat.le_of_ble_eq_true rfl) ?_
      refine sw_aload_n dX5_behind_32 rfl ?_
      refine sw_getR (j := 8) dX5_behind_33 fl_X5_23 rfl rfl ?_
      refine sw_iload_n dX5_behind_36 rfl ?_
      refine sw_callV dX5_behind_37 lV_X5_152 (c_goHours (k := 8) sm_isF8 _) rfl rfl rfl rfl (Nat.le_of_ble_eq_true rfl) (Nat.le_of_ble_eq_true rfl) ?_
      refine sw_pop dX5_behind_40 rfl ?_
      refine sw_iload_n dX5_behind_41 rfl ?_
      refine sw_if_ne (tgt := 55) dX5_behind_42 (by decide) (fun h42 => ?_) (fun h42 => ?_)
      · refine sw_aload_n dX5_behind_55 rfl ?_
        refine sw_getR (j := 8) dX5_behind_56 fl_X5_23 rfl rfl ?_
        refine sw_getI dX5_behind_59 fl_X5_184 rfl rfl ?_
        refine sw_iret dX5_behind_62 rfl rfl ?_ ?_
        all_goals (first | with_reducible rfl | (simp_all [-Int32.not_lt, -Int32.not_le, sm_b_e0, sm_b_e1, m_behind, m_try]))
      · refine sw_aload_n dX5_behind_45 rfl ?_
        refine sw_getR (j := 8) dX5_behind_46 fl_X5_23 rfl rfl ?_
        refine sw_getI dX5_behind_49 fl_X5_181 rfl rfl ?_
        refine sw_goto (tgt := 62) dX5_behind_52 (by decide) ?_
        refine sw_iret dX5_behind_62 rfl rfl ?_ ?_
        all_goals (first | with_reducible rfl | (simp_all [-Int32.not_lt, -Int32.not_le, sm_b_e0, sm_b_e1, m_behind, m_try]))
    · refine sw_iconst (v := -1) dX5_behind_19 (by decide) ?_
      refine sw_iret dX5_behind_20 rfl rfl ?_ ?_
      all_goals (first | with_reducible rfl | (simp_all [-Int32.not_lt, -Int32.not_le, sm_b_e0, sm_b_e1, m_behind, m_try]))

set_option maxHeartbeats 4000000 in
theorem c_seen {σ : sm_St} (x y d : Int32) : sm_C yX5_seen cX5_seen 4 (some .int) 4 [.ref 96, .int x, .int y, .int d] σ (some (.int ((m_seen σ x y d).1))) (m_seen σ x y d).2 := by
  refine sm_C.of (own := RX5) (by decide) rfl (Nat.le_of_ble_eq_true rfl) ?_
  show sm_W RX5 cX5_seen 4 (some .int) 4 (some (.int ((m_seen σ x y d).1))) (m_seen σ x y d).2 0 [(0, .ref 96), (1, .int x), (2, .int y), (3, .int d)] [] σ
  refine sw_iload_n dX5_seen_0 rfl ?_
  refine sw_iload_n dX5_seen_1 rfl ?_
  refine sw_callS dX5_seen_2 lS_X5_161 (c_isCell _ _) rfl rfl (Nat.le_of_ble_eq_true rfl) (Nat.le_of_ble_eq_true rfl) ?_
  refine sw_if_eq (tgt := 17) dX5_seen_5 (by decide) (fun h5 => ?_) (fun h5 => ?_)
  · refine sw_iconst (v := -1) dX5_seen_17 (by decide) ?_
    refine sw_iret dX5_seen_18 rfl rfl ?_ ?_
    all_goals (first | with_reducible rfl | (simp_all [-Int32.not_lt, -Int32.not_le, sm_b_e0, sm_b_e1, m_seen, g_seen, sm_set_eq]))
  · refine sw_iload_n dX5_seen_8 rfl ?_
    refine sw_iconst (v := 0) dX5_seen_9 (by decide) ?_
    refine sw_iconst (v := 4) dX5_seen_10 (by decide) ?_
    refine sw_callS dX5_seen_11 lS_X5_75 (c_within _ _ _) rfl rfl (Nat.le_of_ble_eq_true rfl) (Nat.le_of_ble_eq_true rfl) ?_
    refine sw_if_ne (tgt := 19) dX5_seen_14 (by decide) (fun h14 => ?_) (fun h14 => ?_)
    · refine sw_aload_n dX5_seen_19 rfl ?_
      refine sw_getR (j := 100) dX5_seen_20 fl_X5_29 rfl rfl ?_
      refine sw_iload_n dX5_seen_23 rfl ?_
      refine sw_iload_n dX5_seen_24 rfl ?_
      refine sw_iload_n dX5_seen_25 rfl ?_
      refine sw_callV dX5_seen_26 lV_X5_212 (c_addSighting _ _ _) rfl rfl rfl rfl (Nat.le_of_ble_eq_true rfl) (Nat.le_of_ble_eq_true rfl) ?_
      refine sw_if_eq (tgt := 42) dX5_seen_29 (by decide) (fun h29 => ?_) (fun h29 => ?_)
      · refine sw_bipush (v := -3) dX5_seen_42 (by decide) ?_
        refine sw_iret dX5_seen_44 rfl rfl ?_ ?_
        all_goals (first | with_reducible rfl | (simp_all [-Int32.not_lt, -Int32.not_le, sm_b_e0, sm_b_e1, m_seen, g_seen, sm_set_eq]))
      · refine sw_aload_n dX5_seen_32 rfl ?_
        refine sw_getR (j := 100) dX5_seen_33 fl_X5_29 rfl rfl ?_
        refine sw_getI dX5_seen_36 fl_X5_89 rfl rfl ?_
        refine sw_goto (tgt := 44) dX5_seen_39 (by decide) ?_
        refine sw_iret dX5_seen_44 rfl rfl ?_ ?_
        all_goals (first | with_reducible rfl | (simp_all [-Int32.not_lt, -Int32.not_le, sm_b_e0, sm_b_e1, m_seen, g_seen, sm_set_eq]))
    · refine sw_iconst (v := -1) dX5_seen_17 (by decide) ?_
      refine sw_iret dX5_seen_18 rfl rfl ?_ ?_
      all_goals (first | with_reducible rfl | (simp_all [-Int32.not_lt, -Int32.not_le, sm_b_e0, sm_b_e1, m_seen, g_seen, sm_set_eq]))

set_option maxHeartbeats 4000000 in
theorem c_forget {σ : sm_St}  : sm_C yX5_forget cX5_forget 2 (some .int) 1 [.ref 96] σ (some (.int (σ 100 3))) (sm_set σ 100 3 0) := by
  refine sm_C.of (own := RX5) (by decide) rfl (Nat.le_of_ble_eq_true rfl) ?_
  show sm_W RX5 cX5_forget 2 (some .int) 1 (some (.int (σ 100 3))) (sm_set σ 100 3 0) 0 [(0, .ref 96)] [] σ
  refine sw_aload_n dX5_forget_0 rfl ?_
  refine sw_getR (j := 100) dX5_forget_1 fl_X5_29 rfl rfl ?_
  refine sw_getI dX5_forget_4 fl_X5_89 rfl rfl ?_
  refine sw_istore_n dX5_forget_7 (by decide) rfl ?_
  refine sw_aload_n dX5_forget_8 rfl ?_
  refine sw_getR (j := 100) dX5_forget_9 fl_X5_29 rfl rfl ?_
  refine sw_iconst (v := 0) dX5_forget_12 (by decide) ?_
  refine sw_put dX5_forget_13 fl_X5_89 fi_2_3 rfl rfl ?_
  refine sw_iload_n dX5_forget_16 rfl ?_
  refine sw_iret dX5_forget_17 rfl rfl ?_ ?_
  all_goals (first | with_reducible rfl | (rfl))

set_option maxHeartbeats 4000000 in
theorem c_keep {σ : sm_St} (hK : m_K σ) : sm_C yX5_keep cX5_keep 1 (some .int) 5 [.ref 96] σ (some (.int ((m_keep σ).1))) (m_keep σ).2 := by
  refine sm_C.of (own := RX5) (by decide) rfl (Nat.le_of_ble_eq_true rfl) ?_
  show sm_W RX5 cX5_keep 1 (some .int) 5 (some (.int ((m_keep σ).1))) (m_keep σ).2 0 [(0, .ref 96)] [] σ
  refine sw_aload_n dX5_keep_0 rfl ?_
  refine sw_getR (j := 106) dX5_keep_1 fl_X5_42 rfl rfl ?_
  refine sw_getI dX5_keep_4 fl_X5_92 rfl rfl ?_
  refine sw_iconst (v := 2) dX5_keep_7 (by decide) ?_
  refine sw_icmp_lt (tgt := 14) dX5_keep_8 (by decide) (fun h8 => ?_) (fun h8 => ?_)
  · refine sw_aload_n dX5_keep_14 rfl ?_
    refine sw_getR (j := 106) dX5_keep_15 fl_X5_42 rfl rfl ?_
    refine sw_aload_n dX5_keep_18 rfl ?_
    refine sw_getR (j := 0) dX5_keep_19 fl_X5_19 rfl rfl ?_
    refine sw_callV dX5_keep_22 lV_X5_149 (c_push106 (f := 0) sm_isF0 (by decide) hK) rfl rfl rfl rfl (Nat.le_of_ble_eq_true rfl) (Nat.le_of_ble_eq_true rfl) ?_
    refine sw_aload_n dX5_keep_25 rfl ?_
    refine sw_getR (j := 106) dX5_keep_26 fl_X5_42 rfl rfl ?_
    refine sw_getI dX5_keep_29 fl_X5_92 rfl rfl ?_
    refine sw_iret dX5_keep_32 rfl rfl ?_ ?_
    all_goals (first | with_reducible rfl | (simp_all [-Int32.not_lt, -Int32.not_le, sm_b_e0, sm_b_e1, m_keep]))
  · refine sw_bipush (v := -3) dX5_keep_11 (by decide) ?_
    refine sw_iret dX5_keep_13 rfl rfl ?_ ?_
    all_goals (first | with_reducible rfl | (simp_all [-Int32.not_lt, -Int32.not_le, sm_b_e0, sm_b_e1, m_keep]))

set_option maxHeartbeats 4000000 in
theorem c_back {σ : sm_St} (hK : m_K σ) : sm_C yX5_back cX5_back 1 (some .int) 5 [.ref 96] σ (some (.int ((m_back σ).1))) (m_back σ).2 := by
  refine sm_C.of (own := RX5) (by decide) rfl (Nat.le_of_ble_eq_true rfl) ?_
  show sm_W RX5 cX5_back 1 (some .int) 5 (some (.int ((m_back σ).1))) (m_back σ).2 0 [(0, .ref 96)] [] σ
  refine sw_aload_n dX5_back_0 rfl ?_
  refine sw_getR (j := 106) dX5_back_1 fl_X5_42 rfl rfl ?_
  refine sw_aload_n dX5_back_4 rfl ?_
  refine sw_getR (j := 0) dX5_back_5 fl_X5_19 rfl rfl ?_
  refine sw_callV dX5_back_8 lV_X5_177 (c_popInto106 (f := 0) sm_isF0 (by decide) hK) rfl rfl rfl rfl (Nat.le_of_ble_eq_true rfl) (Nat.le_of_ble_eq_true rfl) ?_
  refine sw_if_ne (tgt := 17) dX5_back_11 (by decide) (fun h11 => ?_) (fun h11 => ?_)
  · refine sw_aload_n dX5_back_17 rfl ?_
    refine sw_getR (j := 104) dX5_back_18 fl_X5_38 rfl rfl ?_
    refine sw_iconst (v := 0) dX5_back_21 (by decide) ?_
    refine sw_put dX5_back_22 fl_X5_92 fi_1_1 rfl rfl ?_
    refine sw_aload_n dX5_back_25 rfl ?_
    refine sw_getR (j := 106) dX5_back_26 fl_X5_42 rfl rfl ?_
    refine sw_getI dX5_back_29 fl_X5_92 rfl rfl ?_
    refine sw_iret dX5_back_32 rfl rfl ?_ ?_
    all_goals (first | with_reducible rfl | (simp_all [-Int32.not_lt, -Int32.not_le, sm_b_e0, sm_b_e1, m_back]))
  · refine sw_bipush (v := -2) dX5_back_14 (by decide) ?_
    refine sw_iret dX5_back_16 rfl rfl ?_ ?_
    all_goals (first | with_reducible rfl | (simp_all [-Int32.not_lt, -Int32.not_le, sm_b_e0, sm_b_e1, m_back]))

set_option maxHeartbeats 4000000 in
theorem c_count {σ : sm_St} (w : Int32) : sm_C yX5_count cX5_count 2 (some .int) 5 [.ref 96, .int w] σ (some (.int (m_count σ w))) σ := by
  refine sm_C.of (own := RX5) (by decide) rfl (Nat.le_of_ble_eq_true rfl) ?_
  show sm_W RX5 cX5_count 2 (some .int) 5 (some (.int (m_count σ w))) σ 0 [(0, .ref 96), (1, .int w)] [] σ
  refine sw_iload_n dX5_count_0 rfl ?_
  refine sw_tab_X5_count_1 (fun h1_0 => ?_) (fun h1_1 => ?_) (fun h1_2 => ?_) (fun h1_3 => ?_) (fun h1_4 => ?_) (fun h1_5 => ?_) (fun h1_6 => ?_) (fun h1_7 => ?_) (fun h1_8 => ?_) (fun h1_9 => ?_) (fun h1_10 => ?_) (fun h1_11 => ?_) (fun h1_12 => ?_) (fun h1n0 h1n1 h1n2 h1n3 h1n4 h1n5 h1n6 h1n7 h1n8 h1n9 h1n10 h1n11 h1n12 => ?_)
  · refine sw_aload_n dX5_count_68 rfl ?_
    refine sw_getR (j := 0) dX5_count_69 fl_X5_19 rfl rfl ?_
    refine sw_getI dX5_count_72 fl_X5_79 rfl rfl ?_
    refine sw_iret dX5_count_75 rfl rfl ?_ ?_
    all_goals (first | with_reducible rfl | (simp_all [-Int32.not_lt, -Int32.not_le, sm_b_e0, sm_b_e1, m_count, m_left]))
  · refine sw_aload_n dX5_count_76 rfl ?_
    refine sw_getR (j := 0) dX5_count_77 fl_X5_19 rfl rfl ?_
    refine sw_getI dX5_count_80 fl_X5_82 rfl rfl ?_
    refine sw_iret dX5_count_83 rfl rfl ?_ ?_
    all_goals (first | with_reducible rfl | (simp_all [-Int32.not_lt, -Int32.not_le, sm_b_e0, sm_b_e1, m_count, m_left]))
  · refine sw_aload_n dX5_count_84 rfl ?_
    refine sw_getR (j := 0) dX5_count_85 fl_X5_19 rfl rfl ?_
    refine sw_getI dX5_count_88 fl_X5_146 rfl rfl ?_
    refine sw_iret dX5_count_91 rfl rfl ?_ ?_
    all_goals (first | with_reducible rfl | (simp_all [-Int32.not_lt, -Int32.not_le, sm_b_e0, sm_b_e1, m_count, m_left]))
  · refine sw_aload_n dX5_count_92 rfl ?_
    refine sw_getR (j := 0) dX5_count_93 fl_X5_19 rfl rfl ?_
    refine sw_getI dX5_count_96 fl_X5_181 rfl rfl ?_
    refine sw_iret dX5_count_99 rfl rfl ?_ ?_
    all_goals (first | with_reducible rfl | (simp_all [-Int32.not_lt, -Int32.not_le, sm_b_e0, sm_b_e1, m_count, m_left]))
  · refine sw_aload_n dX5_count_100 rfl ?_
    refine sw_getR (j := 0) dX5_count_101 fl_X5_19 rfl rfl ?_
    refine sw_getI dX5_count_104 fl_X5_184 rfl rfl ?_
    refine sw_iret dX5_count_107 rfl rfl ?_ ?_
    all_goals (first | with_reducible rfl | (simp_all [-Int32.not_lt, -Int32.not_le, sm_b_e0, sm_b_e1, m_count, m_left]))
  · refine sw_aload_n dX5_count_108 rfl ?_
    refine sw_getR (j := 0) dX5_count_109 fl_X5_19 rfl rfl ?_
    refine sw_getI dX5_count_112 fl_X5_243 rfl rfl ?_
    refine sw_iret dX5_count_115 rfl rfl ?_ ?_
    all_goals (first | with_reducible rfl | (simp_all [-Int32.not_lt, -Int32.not_le, sm_b_e0, sm_b_e1, m_count, m_left]))
  · refine sw_aload_n dX5_count_116 rfl ?_
    refine sw_getR (j := 0) dX5_count_117 fl_X5_19 rfl rfl ?_
    refine sw_getI dX5_count_120 fl_X5_158 rfl rfl ?_
    refine sw_iret dX5_count_123 rfl rfl ?_ ?_
    all_goals (first | with_reducible rfl | (simp_all [-Int32.not_lt, -Int32.not_le, sm_b_e0, sm_b_e1, m_count, m_left]))
  · refine sw_aload_n dX5_count_124 rfl ?_
    refine sw_getR (j := 0) dX5_count_125 fl_X5_19 rfl rfl ?_
    refine sw_getI dX5_count_128 fl_X5_155 rfl rfl ?_
    refine sw_iret dX5_count_131 rfl rfl ?_ ?_
    all_goals (first | with_reducible rfl | (simp_all [-Int32.not_lt, -Int32.not_le, sm_b_e0, sm_b_e1, m_count, m_left]))
  · refine sw_aload_n dX5_count_132 rfl ?_
    refine sw_getR (j := 0) dX5_count_133 fl_X5_19 rfl rfl ?_
    refine sw_getI dX5_count_136 fl_X5_79 rfl rfl ?_
    refine sw_aload_n dX5_count_139 rfl ?_
    refine sw_getR (j := 0) dX5_count_140 fl_X5_19 rfl rfl ?_
    refine sw_callV dX5_count_143 lV_X5_169 (c_standingPosts (k := 0) sm_isF0) rfl rfl rfl rfl (Nat.le_of_ble_eq_true rfl) (Nat.le_of_ble_eq_true rfl) ?_
    refine sw_callS dX5_count_146 lS_X5_172 (c_bitCount _) rfl rfl (Nat.le_of_ble_eq_true rfl) (Nat.le_of_ble_eq_true rfl) ?_
    refine sw_isub dX5_count_149 ?_
    refine sw_iret dX5_count_150 rfl rfl ?_ ?_
    all_goals (first | with_reducible rfl | (simp_all [-Int32.not_lt, -Int32.not_le, sm_b_e0, sm_b_e1, m_count, m_left]))
  · refine sw_aload_n dX5_count_151 rfl ?_
    refine sw_getR (j := 100) dX5_count_152 fl_X5_29 rfl rfl ?_
    refine sw_getI dX5_count_155 fl_X5_89 rfl rfl ?_
    refine sw_iret dX5_count_158 rfl rfl ?_ ?_
    all_goals (first | with_reducible rfl | (simp_all [-Int32.not_lt, -Int32.not_le, sm_b_e0, sm_b_e1, m_count, m_left]))
  · refine sw_aload_n dX5_count_159 rfl ?_
    refine sw_getR (j := 104) dX5_count_160 fl_X5_38 rfl rfl ?_
    refine sw_getI dX5_count_163 fl_X5_92 rfl rfl ?_
    refine sw_iret dX5_count_166 rfl rfl ?_ ?_
    all_goals (first | with_reducible rfl | (simp_all [-Int32.not_lt, -Int32.not_le, sm_b_e0, sm_b_e1, m_count, m_left]))
  · refine sw_aload_n dX5_count_167 rfl ?_
    refine sw_getR (j := 106) dX5_count_168 fl_X5_42 rfl rfl ?_
    refine sw_getI dX5_count_171 fl_X5_92 rfl rfl ?_
    refine sw_iret dX5_count_174 rfl rfl ?_ ?_
    all_goals (first | with_reducible rfl | (simp_all [-Int32.not_lt, -Int32.not_le, sm_b_e0, sm_b_e1, m_count, m_left]))
  · refine sw_aload_n dX5_count_175 rfl ?_
    refine sw_getR (j := 97) dX5_count_176 fl_X5_10 rfl rfl ?_
    refine sw_getI dX5_count_179 fl_X5_72 rfl rfl ?_
    refine sw_iret dX5_count_182 rfl rfl ?_ ?_
    all_goals (first | with_reducible rfl | (simp_all [-Int32.not_lt, -Int32.not_le, sm_b_e0, sm_b_e1, m_count, m_left]))
  · refine sw_iconst (v := -1) dX5_count_183 (by decide) ?_
    refine sw_iret dX5_count_184 rfl rfl ?_ ?_
    all_goals (first | with_reducible rfl | (simp_all [-Int32.not_lt, -Int32.not_le, sm_b_e0, sm_b_e1, m_count, m_left]))

set_option maxHeartbeats 4000000 in
theorem c_drawOf {σ : sm_St} (z h : Int32) : sm_C yX5_drawOf cX5_drawOf 4 (some .int) 1 [.int z, .int h] σ (some (.int (m_draw z h))) σ := by
  refine sm_C.of (own := RX5) (by decide) rfl (Nat.le_of_ble_eq_true rfl) ?_
  show sm_W RX5 cX5_drawOf 4 (some .int) 1 (some (.int (m_draw z h))) σ 0 [(0, .int z), (1, .int h)] [] σ
  refine sw_ldc2 dX5_drawOf_0 kl_X5_250 ?_
  refine sw_iload_n dX5_drawOf_3 rfl ?_
  refine sw_i2l dX5_drawOf_4 ?_
  refine sw_lmul dX5_drawOf_5 ?_
  refine sw_ldc2 dX5_drawOf_6 kl_X5_252 ?_
  refine sw_iload_n dX5_drawOf_9 rfl ?_
  refine sw_i2l dX5_drawOf_10 ?_
  refine sw_lmul dX5_drawOf_11 ?_
  refine sw_ladd dX5_drawOf_12 ?_
  refine sw_lconst (v := 1) dX5_drawOf_13 (by decide) ?_
  refine sw_ladd dX5_drawOf_14 ?_
  refine sw_lstore_n dX5_drawOf_15 (by decide) rfl ?_
  refine sw_lload_n dX5_drawOf_16 rfl ?_
  refine sw_lload_n dX5_drawOf_17 rfl ?_
  refine sw_lmul dX5_drawOf_18 ?_
  refine sw_ldc2 dX5_drawOf_19 kl_X5_254 ?_
  refine sw_lrem dX5_drawOf_22 (by decide) ?_
  refine sw_ldc2 dX5_drawOf_23 kl_X5_256 ?_
  refine sw_ldiv dX5_drawOf_26 (by decide) ?_
  refine sw_l2i dX5_drawOf_27 ?_
  refine sw_iret dX5_drawOf_28 rfl rfl ?_ ?_
  all_goals (first | with_reducible rfl | (rfl))

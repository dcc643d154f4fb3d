/-! the text: cell 97, its letters 98, its numbers 99 -/
def x_here (σ : sm_St) : Int32 := if σ 97 2 ≤ σ 97 3 then 0 else r_at (σ 98) 200 (σ 97 3)
def x_inc (σ : sm_St) : sm_St := sm_set σ 97 3 (σ 97 3 + 1)
abbrev x_dig (c : Int32) : Bool := sm_win c 48 57
def x_mx (n : Int32) : Int32 := if 0 < n then n else 0
def x_num (σ : sm_St) : Int32 × sm_St :=
  if x_dig (x_here σ) = true then
    (if x_dig (x_here (x_inc σ)) = true then (x_mx (x_mx (-4) * 10 + x_here σ - 48) * 10 + x_here (x_inc σ) - 48, x_inc (x_inc σ)) else (x_mx (-4) * 10 + x_here σ - 48, x_inc σ))
  else (-4, σ)
def x_one (σ : sm_St) (i sep : Int32) : Bool × sm_St := if (x_num σ).1 < 0 ∨ ¬ x_here (x_num σ).2 = sep then (false, (x_num σ).2) else (true, x_inc (r_set (x_num σ).2 99 3 i (x_num σ).1))
def x_two (σ : sm_St) : Bool × sm_St := if (x_one σ 0 44).1 = true then x_one (x_one σ 0 44).2 1 59 else (false, (x_one σ 0 44).2)
def x_three (σ : sm_St) : Bool × sm_St := if (x_one σ 0 44).1 = true then (if (x_one (x_one σ 0 44).2 1 44).1 = true then x_one (x_one (x_one σ 0 44).2 1 44).2 2 59 else (false, (x_one (x_one σ 0 44).2 1 44).2)) else (false, (x_one σ 0 44).2)
def t_ship (σ : sm_St) (k : Nat) (a b c : Int32) : Int32 × sm_St := if sm_cell a b = true ∧ c ≤ 20 then (1, sm_set (sm_set (sm_set σ k 0 a) k 1 b) k 2 c) else (0, σ)
def t_wind (σ : sm_St) (k : Nat) (a b : Int32) : Int32 × sm_St := if ¬ 4 < a ∧ b ≤ 20 then (1, sm_set (sm_set σ k 3 a) k 4 b) else (0, σ)
def t_post (σ : sm_St) (k : Nat) (a b c : Int32) : Int32 × sm_St := if ¬ 5 ≤ σ k 6 ∧ sm_cell a b = true ∧ c ≤ 5 then (1, g_addP σ k a b c) else (0, σ)
def t_one (σ : sm_St) (k : Nat) (a b c : Int32) : Int32 × sm_St := if ¬ 7 ≤ σ k 7 ∧ ¬ 3 < a ∧ ¬ 5 < b ∧ sm_win c 1 9 = true then (1, g_addS σ k a b c) else (0, σ)
def x_tell (σ : sm_St) (k : Nat) (L : Int32) : Int32 × sm_St :=
  if L = 115 then t_ship σ k (r_at (σ 99) 3 0) (r_at (σ 99) 3 1) (r_at (σ 99) 3 2) else if L = 119 then t_wind σ k (r_at (σ 99) 3 0) (r_at (σ 99) 3 1)
  else if L = 112 then t_post σ k (r_at (σ 99) 3 0) (r_at (σ 99) 3 1) (r_at (σ 99) 3 2) else if L = 99 then t_one σ k (r_at (σ 99) 3 0) (r_at (σ 99) 3 1) (r_at (σ 99) 3 2) else (0, σ)
def x_nums (σ : sm_St) (L : Int32) : Bool × sm_St := if L = 119 then x_two σ else x_three σ
def x_item (σ : sm_St) (k : Nat) : Int32 × sm_St := if (x_nums (x_inc σ) (x_here σ)).1 = true then x_tell (x_nums (x_inc σ) (x_here σ)).2 k (x_here σ) else (0, (x_nums (x_inc σ) (x_here σ)).2)
def x_read (k : Nat) : Nat → sm_St → Int32 × sm_St
  | 0, σ => (-4, σ)
  | n + 1, σ => if σ 97 2 ≤ σ 97 3 then (-4, σ) else if (x_item σ k).1 = 0 then (σ 97 3, (x_item σ k).2) else x_read k n (x_item σ k).2
def x_into (σ : sm_St) (k : Nat) : Int32 × sm_St := x_read k 200 (sm_set (g_clear σ k) 97 3 0)
theorem t_b01 {σ : sm_St} {k : Nat} {a b c : Int32} : ((t_ship σ k a b c).1 = 0 ∨ (t_ship σ k a b c).1 = 1) ∧ ((t_wind σ k a b).1 = 0 ∨ (t_wind σ k a b).1 = 1) ∧ ((t_post σ k a b c).1 = 0 ∨ (t_post σ k a b c).1 = 1) ∧ ((t_one σ k a b c).1 = 0 ∨ (t_one σ k a b c).1 = 1) := by
  unfold t_ship t_wind t_post t_one
  refine ⟨?_, ?_, ?_, ?_⟩ <;> split <;> simp

set_option maxHeartbeats 4000000 in
theorem c_addLetter {σ : sm_St} (c : Int32) : sm_C yX4_addLetter cX4_addLetter 2 (some .boolean) 2 [.ref 97, .int c] σ (some (.int (sm_b (σ 97 2 < nI 200)))) (if σ 97 2 < nI 200 then sm_set (r_set σ 98 200 (σ 97 2) c) 97 2 (σ 97 2 + 1) else σ) := by
  refine sm_C.of (own := RX4) (by decide) rfl (Nat.le_of_ble_eq_true rfl) ?_
  show sm_W RX4 cX4_addLetter 2 (some .boolean) 2 (some (.int (sm_b (σ 97 2 < nI 200)))) (if σ 97 2 < nI 200 then sm_set (r_set σ 98 200 (σ 97 2) c) 97 2 (σ 97 2 + 1) else σ) 0 [(0, .ref 97), (1, .int c)] [] σ
  refine sw_aload_n dX4_addLetter_0 rfl ?_
  refine sw_getI dX4_addLetter_1 fl_X4_18 rfl rfl ?_
  refine sw_aload_n dX4_addLetter_4 rfl ?_
  refine sw_getR (j := 98) dX4_addLetter_5 fl_X4_9 rfl rfl ?_
  refine sw_alen dX4_addLetter_8 rfl ?_
  refine sw_icmp_lt (tgt := 14) dX4_addLetter_9 (by decide) (fun h9 => ?_) (fun h9 => ?_)
  · refine sw_aload_n dX4_addLetter_14 rfl ?_
    refine sw_getR (j := 98) dX4_addLetter_15 fl_X4_9 rfl rfl ?_
    refine sw_aload_n dX4_addLetter_18 rfl ?_
    refine sw_getI dX4_addLetter_19 fl_X4_18 rfl rfl ?_
    refine sw_iload_n dX4_addLetter_22 rfl ?_
    refine sw_callS dX4_addLetter_23 lS_X4_22 (c_set (k := 98) rfl _ _) rfl rfl (Nat.le_of_ble_eq_true rfl) (Nat.le_of_ble_eq_true rfl) ?_
    refine sw_aload_n dX4_addLetter_26 rfl ?_
    refine sw_dup dX4_addLetter_27 rfl ?_
    refine sw_getI dX4_addLetter_28 fl_X4_18 rfl rfl ?_
    refine sw_iconst (v := 1) dX4_addLetter_31 (by decide) ?_
    refine sw_iadd dX4_addLetter_32 ?_
    refine sw_put dX4_addLetter_33 fl_X4_18 fi_3_2 rfl rfl ?_
    refine sw_iconst (v := 1) dX4_addLetter_36 (by decide) ?_
    refine sw_zret dX4_addLetter_37 rfl rfl ?_ (by decide) ?_
    all_goals (first | with_reducible rfl | (simp [sm_b, h9, r_set_off]))
  · refine sw_iconst (v := 0) dX4_addLetter_12 (by decide) ?_
    refine sw_zret dX4_addLetter_13 rfl rfl ?_ (by decide) ?_
    all_goals (first | with_reducible rfl | (simp [sm_b, h9, r_set_off]))

set_option maxHeartbeats 4000000 in
theorem c_here {σ : sm_St} : sm_C yX4_letterHere cX4_letterHere 1 (some .int) 2 [.ref 97] σ (some (.int (x_here σ))) σ := by
  refine sm_C.of (own := RX4) (by decide) rfl (Nat.le_of_ble_eq_true rfl) ?_
  show sm_W RX4 cX4_letterHere 1 (some .int) 2 (some (.int (x_here σ))) σ 0 [(0, .ref 97)] [] σ
  refine sw_aload_n dX4_letterHere_0 rfl ?_
  refine sw_getI dX4_letterHere_1 fl_X4_33 rfl rfl ?_
  refine sw_aload_n dX4_letterHere_4 rfl ?_
  refine sw_getI dX4_letterHere_5 fl_X4_18 rfl rfl ?_
  refine sw_icmp_ge (tgt := 25) dX4_letterHere_8 (by decide) (fun h8 => ?_) (fun h8 => ?_)
  · refine sw_iconst (v := 0) dX4_letterHere_25 (by decide) ?_
    refine sw_iret dX4_letterHere_26 rfl rfl ?_ ?_
    all_goals (first | with_reducible rfl | (simp [x_here, h8]))
  · refine sw_aload_n dX4_letterHere_11 rfl ?_
    refine sw_getR (j := 98) dX4_letterHere_12 fl_X4_9 rfl rfl ?_
    refine sw_aload_n dX4_letterHere_15 rfl ?_
    refine sw_getI dX4_letterHere_16 fl_X4_33 rfl rfl ?_
    refine sw_callS dX4_letterHere_19 lS_X4_47 (c_at (k := 98) rfl _) rfl rfl (Nat.le_of_ble_eq_true rfl) (Nat.le_of_ble_eq_true rfl) ?_
    refine sw_goto (tgt := 26) dX4_letterHere_22 (by decide) ?_
    refine sw_iret dX4_letterHere_26 rfl rfl ?_ ?_
    all_goals (first | with_reducible rfl | (simp [x_here, h8]))

set_option maxHeartbeats 4000000 in
theorem c_readNumber {σ : sm_St} : sm_C yX4_readNumber cX4_readNumber 3 (some .int) 3 [.ref 97] σ (some (.int (x_num σ).1)) (x_num σ).2 := by
  refine sm_C.of (own := RX4) (by decide) rfl (Nat.le_of_ble_eq_true rfl) ?_
  show sm_W RX4 cX4_readNumber 3 (some .int) 3 (some (.int (x_num σ).1)) (x_num σ).2 0 [(0, .ref 97)] [] σ
  refine sw_bipush (v := -4) dX4_readNumber_0 (by decide) ?_
  refine sw_istore_n dX4_readNumber_2 (by decide) rfl ?_
  refine sw_iconst (v := 0) dX4_readNumber_3 (by decide) ?_
  refine sw_istore_n dX4_readNumber_4 (by decide) rfl ?_
  refine sw_iload_n dX4_readNumber_5 rfl ?_
  refine sw_iconst (v := 2) dX4_readNumber_6 (by decide) ?_
  refine sw_icmp_ge (tgt := 57) dX4_readNumber_7 (by decide) (fun h => absurd h (by decide)) (fun _ => ?_)
  refine sw_aload_n dX4_readNumber_10 rfl ?_
  refine sw_callV dX4_readNumber_11 lV_X4_40 (c_here) rfl rfl rfl rfl (Nat.le_of_ble_eq_true rfl) (Nat.le_of_ble_eq_true rfl) ?_
  refine sw_bipush (v := 48) dX4_readNumber_14 (by decide) ?_
  refine sw_bipush (v := 57) dX4_readNumber_16 (by decide) ?_
  refine sw_callN dX4_readNumber_18 lN_X4_65 (c_within _ _ _) (fun h => h.2.2.2.1) rfl rfl (Nat.le_of_ble_eq_true rfl) (Nat.le_of_ble_eq_true rfl) ?_
  refine sw_if_eq (tgt := 57) dX4_readNumber_21 (by decide) (fun h21 => ?_) (fun h21 => ?_)
  · refine sw_iload_n dX4_readNumber_57 rfl ?_
    refine sw_iret dX4_readNumber_58 rfl rfl ?_ ?_
    all_goals (first | with_reducible rfl | (simp_all [x_num, x_mx, sm_b_e0]))
  · refine sw_iconst (v := 0) dX4_readNumber_24 (by decide) ?_
    refine sw_iload_n dX4_readNumber_25 rfl ?_
    refine sw_max dX4_readNumber_26 lJ_X4_69 (Nat.le_of_ble_eq_true rfl) (Nat.le_of_ble_eq_true rfl) ?_
    refine sw_bipush (v := 10) dX4_readNumber_29 (by decide) ?_
    refine sw_imul dX4_readNumber_31 ?_
    refine sw_aload_n dX4_readNumber_32 rfl ?_
    refine sw_callV dX4_readNumber_33 lV_X4_40 (c_here) rfl rfl rfl rfl (Nat.le_of_ble_eq_true rfl) (Nat.le_of_ble_eq_true rfl) ?_
    refine sw_iadd dX4_readNumber_36 ?_
    refine sw_bipush (v := 48) dX4_readNumber_37 (by decide) ?_
    refine sw_isub dX4_readNumber_39 ?_
    refine sw_istore_n dX4_readNumber_40 (by decide) rfl ?_
    refine sw_aload_n dX4_readNumber_41 rfl ?_
    refine sw_dup dX4_readNumber_42 rfl ?_
    refine sw_getI dX4_readNumber_43 fl_X4_33 rfl rfl ?_
    refine sw_iconst (v := 1) dX4_readNumber_46 (by decide) ?_
    refine sw_iadd dX4_readNumber_47 ?_
    refine sw_put dX4_readNumber_48 fl_X4_33 fi_3_3 rfl rfl ?_
    refine sw_st (σ2 := x_inc _) rfl ?_
    refine sw_iinc (v := 1) dX4_readNumber_51 rfl (by decide) (by decide) rfl ?_
    refine sw_goto (tgt := 5) dX4_readNumber_54 (by decide) ?_
    refine sw_iload_n dX4_readNumber_5 rfl ?_
    refine sw_iconst (v := 2) dX4_readNumber_6 (by decide) ?_
    refine sw_icmp_ge (tgt := 57) dX4_readNumber_7 (by decide) (fun h => absurd h (by decide)) (fun _ => ?_)
    refine sw_aload_n dX4_readNumber_10 rfl ?_
    refine sw_callV dX4_readNumber_11 lV_X4_40 (c_here) rfl rfl rfl rfl (Nat.le_of_ble_eq_true rfl) (Nat.le_of_ble_eq_true rfl) ?_
    refine sw_bipush (v := 48) dX4_readNumber_14 (by decide) ?_
    refine sw_bipush (v := 57) dX4_readNumber_16 (by decide) ?_
    refine sw_callN dX4_readNumber_18 lN_X4_65 (c_within _ _ _) (fun h => h.2.2.2.1) rfl rfl (Nat.le_of_ble_eq_true rfl) (Nat.le_of_ble_eq_true rfl) ?_
    refine sw_if_eq (tgt := 57) dX4_readNumber_21 (by decide) (fun h21 => ?_) (fun h21 => ?_)
    · refine sw_iload_n dX4_readNumber_57 rfl ?_
      refine sw_iret dX4_readNumber_58 rfl rfl ?_ ?_
      all_goals (first | with_reducible rfl | (simp_all [x_num, x_mx, sm_b_e0]))
    · refine sw_iconst (v := 0) dX4_readNumber_24 (by decide) ?_
      refine sw_iload_n dX4_readNumber_25 rfl ?_
      refine sw_max dX4_readNumber_26 lJ_X4_69 (Nat.le_of_ble_eq_true rfl) (Nat.le_of_ble_eq_true rfl) ?_
      refine sw_bipush (v := 10) dX4_readNumber_29 (by decide) ?_
      refine sw_imul dX4_readNumber_31 ?_
      refine sw_aload_n dX4_readNumber_32 rfl ?_
      refine sw_callV dX4_readNumber_33 lV_X4_40 (c_here) rfl rfl rfl rfl (Nat.le_of_ble_eq_true rfl) (Nat.le_of_ble_eq_true rfl) ?_
      refine sw_iadd dX4_readNumber_36 ?_
      refine sw_bipush (v := 48) dX4_readNumber_37 (by decide) ?_
      refine sw_isub dX4_readNumber_39 ?_
      refine sw_istore_n dX4_readNumber_40 (by decide) rfl ?_
      refine sw_aload_n dX4_readNumber_41 rfl ?_
      refine sw_dup dX4_readNumber_42 rfl ?_
      refine sw_getI dX4_readNumber_43 fl_X4_33 rfl rfl ?_
      refine sw_iconst (v := 1) dX4_readNumber_46 (by decide) ?_
      refine sw_iadd dX4_readNumber_47 ?_
      refine sw_put dX4_readNumber_48 fl_X4_33 fi_3_3 rfl rfl ?_
      refine sw_st (σ2 := x_inc _) rfl ?_
      refine sw_iinc (v := 2) dX4_readNumber_51 rfl (by decide) (by decide) rfl ?_
      refine sw_goto (tgt := 5) dX4_readNumber_54 (by decide) ?_
      refine sw_iload_n dX4_readNumber_5 rfl ?_
      refine sw_iconst (v := 2) dX4_readNumber_6 (by decide) ?_
      refine sw_icmp_ge (tgt := 57) dX4_readNumber_7 (by decide) (fun _ => ?_) (fun h => absurd (by decide) h)
      refine sw_iload_n dX4_readNumber_57 rfl ?_
      refine sw_iret dX4_readNumber_58 rfl rfl ?_ ?_
      all_goals (first | with_reducible rfl | (simp_all [x_num, x_mx, sm_b_e0]))

set_option maxHeartbeats 4000000 in
theorem c_tellShip {σ : sm_St} {k : Nat} (hk : sm_isF k) (a b c : Int32) : sm_C yX4_tellShip cX4_tellShip 4 (some .boolean) 2 [.ref k, .int a, .int b, .int c] σ (some (.int (t_ship σ k a b c).1)) (t_ship σ k a b c).2 := by
  refine sm_C.of (own := RX4) (by decide) rfl (Nat.le_of_ble_eq_true rfl) ?_
  show sm_W RX4 cX4_tellShip 4 (some .boolean) 2 (some (.int (t_ship σ k a b c).1)) (t_ship σ k a b c).2 0 [(0, .ref k), (1, .int a), (2, .int b), (3, .int c)] [] σ
  refine sw_iload_n dX4_tellShip_0 rfl ?_
  refine sw_iload_n dX4_tellShip_1 rfl ?_
  refine sw_callN dX4_tellShip_2 lN_X4_75 (c_isCell _ _) (fun h => h.2.2.2.2) rfl rfl (Nat.le_of_ble_eq_true rfl) (Nat.le_of_ble_eq_true rfl) ?_
  refine sw_if_eq (tgt := 14) dX4_tellShip_5 (by decide) (fun h5 => ?_) (fun h5 => ?_)
  · refine sw_iconst (v := 0) dX4_tellShip_14 (by decide) ?_
    refine sw_zret dX4_tellShip_15 rfl rfl ?_ (by decide) ?_
    all_goals (first | with_reducible rfl | (simp_all [-Int32.not_lt, -Int32.not_le, t_ship, sm_b_e0]))
  · refine sw_iload_n dX4_tellShip_8 rfl ?_
    refine sw_bipush (v := 20) dX4_tellShip_9 (by decide) ?_
    refine sw_icmp_le (tgt := 16) dX4_tellShip_11 (by decide) (fun h11 => ?_) (fun h11 => ?_)
    · refine sw_aload_n dX4_tellShip_16 rfl ?_
      refine sw_iload_n dX4_tellShip_17 rfl ?_
      refine sw_iload_n dX4_tellShip_18 rfl ?_
      refine sw_callV dX4_tellShip_19 lV_X4_79 (c_moveShip (k := k) hk _ _) (sm_Fo hk) rfl rfl rfl (Nat.le_of_ble_eq_true rfl) (Nat.le_of_ble_eq_true rfl) ?_
      refine sw_aload_n dX4_tellShip_22 rfl ?_
      refine sw_iload_n dX4_tellShip_23 rfl ?_
      refine sw_put dX4_tellShip_24 fl_X4_83 fi_0_2 (sm_Fo hk) rfl ?_
      refine sw_iconst (v := 1) dX4_tellShip_27 (by decide) ?_
      refine sw_zret dX4_tellShip_28 rfl rfl ?_ (by decide) ?_
      all_goals (first | with_reducible rfl | (simp_all [-Int32.not_lt, -Int32.not_le, t_ship, sm_b_e0]))
    · refine sw_iconst (v := 0) dX4_tellShip_14 (by decide) ?_
      refine sw_zret dX4_tellShip_15 rfl rfl ?_ (by decide) ?_
      all_goals (first | with_reducible rfl | (simp_all [-Int32.not_lt, -Int32.not_le, t_ship, sm_b_e0]))

set_option maxHeartbeats 4000000 in
theorem c_tellWind {σ : sm_St} {k : Nat} (hk : sm_isF k) (a b : Int32) : sm_C yX4_tellWind cX4_tellWind 3 (some .boolean) 2 [.ref k, .int a, .int b] σ (some (.int (t_wind σ k a b).1)) (t_wind σ k a b).2 := by
  refine sm_C.of (own := RX4) (by decide) rfl (Nat.le_of_ble_eq_true rfl) ?_
  show sm_W RX4 cX4_tellWind 3 (some .boolean) 2 (some (.int (t_wind σ k a b).1)) (t_wind σ k a b).2 0 [(0, .ref k), (1, .int a), (2, .int b)] [] σ
  refine sw_iload_n dX4_tellWind_0 rfl ?_
  refine sw_iconst (v := 4) dX4_tellWind_1 (by decide) ?_
  refine sw_icmp_gt (tgt := 11) dX4_tellWind_2 (by decide) (fun h2 => ?_) (fun h2 => ?_)
  · refine sw_iconst (v := 0) dX4_tellWind_11 (by decide) ?_
    refine sw_zret dX4_tellWind_12 rfl rfl ?_ (by decide) ?_
    all_goals (first | with_reducible rfl | (simp_all [-Int32.not_lt, -Int32.not_le, t_wind, sm_b_e0]))
  · refine sw_iload_n dX4_tellWind_5 rfl ?_
    refine sw_bipush (v := 20) dX4_tellWind_6 (by decide) ?_
    refine sw_icmp_le (tgt := 13) dX4_tellWind_8 (by decide) (fun h8 => ?_) (fun h8 => ?_)
    · refine sw_aload_n dX4_tellWind_13 rfl ?_
      refine sw_iload_n dX4_tellWind_14 rfl ?_
      refine sw_put dX4_tellWind_15 fl_X4_86 fi_0_3 (sm_Fo hk) rfl ?_
      refine sw_aload_n dX4_tellWind_18 rfl ?_
      refine sw_iload_n dX4_tellWind_19 rfl ?_
      refine sw_put dX4_tellWind_20 fl_X4_89 fi_0_4 (sm_Fo hk) rfl ?_
      refine sw_iconst (v := 1) dX4_tellWind_23 (by decide) ?_
      refine sw_zret dX4_tellWind_24 rfl rfl ?_ (by decide) ?_
      all_goals (first | with_reducible rfl | (simp_all [-Int32.not_lt, -Int32.not_le, t_wind, sm_b_e0]))
    · refine sw_iconst (v := 0) dX4_tellWind_11 (by decide) ?_
      refine sw_zret dX4_tellWind_12 rfl rfl ?_ (by decide) ?_
      all_goals (first | with_reducible rfl | (simp_all [-Int32.not_lt, -Int32.not_le, t_wind, sm_b_e0]))

set_option maxHeartbeats 4000000 in
theorem c_tellPost {σ : sm_St} {k : Nat} (hk : sm_isF k) (a b c : Int32) : sm_C yX4_tellPost cX4_tellPost 4 (some .boolean) 4 [.ref k, .int a, .int b, .int c] σ (some (.int (t_post σ k a b c).1)) (t_post σ k a b c).2 := by
  refine sm_C.of (own := RX4) (by decide) rfl (Nat.le_of_ble_eq_true rfl) ?_
  show sm_W RX4 cX4_tellPost 4 (some .boolean) 4 (some (.int (t_post σ k a b c).1)) (t_post σ k a b c).2 0 [(0, .ref k), (1, .int a), (2, .int b), (3, .int c)] [] σ
  refine sw_aload_n dX4_tellPost_0 rfl ?_
  refine sw_getI dX4_tellPost_1 fl_X4_92 (sm_Fo hk) rfl ?_
  refine sw_iconst (v := 5) dX4_tellPost_4 (by decide) ?_
  refine sw_icmp_ge (tgt := 21) dX4_tellPost_5 (by decide) (fun h5 => ?_) (fun h5 => ?_)
  · refine sw_iconst (v := 0) dX4_tellPost_21 (by decide) ?_
    refine sw_zret dX4_tellPost_22 rfl rfl ?_ (by decide) ?_
    all_goals (first | with_reducible rfl | (simp_all [-Int32.not_lt, -Int32.not_le, t_post, sm_b_e0]))
  · refine sw_iload_n dX4_tellPost_8 rfl ?_
    refine sw_iload_n dX4_tellPost_9 rfl ?_
    refine sw_callN dX4_tellPost_10 lN_X4_75 (c_isCell _ _) (fun h => h.2.2.2.2) rfl rfl (Nat.le_of_ble_eq_true rfl) (Nat.le_of_ble_eq_true rfl) ?_
    refine sw_if_eq (tgt := 21) dX4_tellPost_13 (by decide) (fun h13 => ?_) (fun h13 => ?_)
    · refine sw_iconst (v := 0) dX4_tellPost_21 (by decide) ?_
      refine sw_zret dX4_tellPost_22 rfl rfl ?_ (by decide) ?_
      all_goals (first | with_reducible rfl | (simp_all [-Int32.not_lt, -Int32.not_le, t_post, sm_b_e0]))
    · refine sw_iload_n dX4_tellPost_16 rfl ?_
      refine sw_iconst (v := 5) dX4_tellPost_17 (by decide) ?_
      refine sw_icmp_le (tgt := 23) dX4_tellPost_18 (by decide) (fun h18 => ?_) (fun h18 => ?_)
      · refine sw_aload_n dX4_tellPost_23 rfl ?_
        refine sw_iload_n dX4_tellPost_24 rfl ?_
        refine sw_iload_n dX4_tellPost_25 rfl ?_
        refine sw_iload_n dX4_tellPost_26 rfl ?_
        refine sw_callV dX4_tellPost_27 lV_X4_95 (c_addPost (k := k) hk _ _ _) (sm_Fo hk) rfl rfl rfl (Nat.le_of_ble_eq_true rfl) (Nat.le_of_ble_eq_true rfl) ?_
        refine sw_iconst (v := 1) dX4_tellPost_30 (by decide) ?_
        refine sw_zret dX4_tellPost_31 rfl rfl ?_ (by decide) ?_
        all_goals (first | with_reducible rfl | (simp_all [-Int32.not_lt, -Int32.not_le, t_post, sm_b_e0]))
      · refine sw_iconst (v := 0) dX4_tellPost_21 (by decide) ?_
        refine sw_zret dX4_tellPost_22 rfl rfl ?_ (by decide) ?_
        all_goals (first | with_reducible rfl | (simp_all [-Int32.not_lt, -Int32.not_le, t_post, sm_b_e0]))

set_option maxHeartbeats 4000000 in
theorem c_tellSailor {σ : sm_St} {k : Nat} (hk : sm_isF k) (a b c : Int32) : sm_C yX4_tellSailor cX4_tellSailor 4 (some .boolean) 4 [.ref k, .int a, .int b, .int c] σ (some (.int (t_one σ k a b c).1)) (t_one σ k a b c).2 := by
  refine sm_C.of (own := RX4) (by decide) rfl (Nat.le_of_ble_eq_true rfl) ?_
  show sm_W RX4 cX4_tellSailor 4 (some .boolean) 4 (some (.int (t_one σ k a b c).1)) (t_one σ k a b c).2 0 [(0, .ref k), (1, .int a), (2, .int b), (3, .int c)] [] σ
  refine sw_aload_n dX4_tellSailor_0 rfl ?_
  refine sw_getI dX4_tellSailor_1 fl_X4_99 (sm_Fo hk) rfl ?_
  refine sw_bipush (v := 7) dX4_tellSailor_4 (by decide) ?_
  refine sw_icmp_ge (tgt := 29) dX4_tellSailor_6 (by decide) (fun h6 => ?_) (fun h6 => ?_)
  · refine sw_iconst (v := 0) dX4_tellSailor_29 (by decide) ?_
    refine sw_zret dX4_tellSailor_30 rfl rfl ?_ (by decide) ?_
    all_goals (first | with_reducible rfl | (simp_all [-Int32.not_lt, -Int32.not_le, t_one, sm_b_e0]))
  · refine sw_iload_n dX4_tellSailor_9 rfl ?_
    refine sw_iconst (v := 3) dX4_tellSailor_10 (by decide) ?_
    refine sw_icmp_gt (tgt := 29) dX4_tellSailor_11 (by decide) (fun h11 => ?_) (fun h11 => ?_)
    · refine sw_iconst (v := 0) dX4_tellSailor_29 (by decide) ?_
      refine sw_zret dX4_tellSailor_30 rfl rfl ?_ (by decide) ?_
      all_goals (first | with_reducible rfl | (simp_all [-Int32.not_lt, -Int32.not_le, t_one, sm_b_e0]))
    · refine sw_iload_n dX4_tellSailor_14 rfl ?_
      refine sw_iconst (v := 5) dX4_tellSailor_15 (by decide) ?_
      refine sw_icmp_gt (tgt := 29) dX4_tellSailor_16 (by decide) (fun h16 => ?_) (fun h16 => ?_)
      · refine sw_iconst (v := 0) dX4_tellSailor_29 (by decide) ?_
        refine sw_zret dX4_tellSailor_30 rfl rfl ?_ (by decide) ?_
        all_goals (first | with_reducible rfl | (simp_all [-Int32.not_lt, -Int32.not_le, t_one, sm_b_e0]))
      · refine sw_iload_n dX4_tellSailor_19 rfl ?_
        refine sw_iconst (v := 1) dX4_tellSailor_20 (by decide) ?_
        refine sw_bipush (v := 9) dX4_tellSailor_21 (by decide) ?_
        refine sw_callN dX4_tellSailor_23 lN_X4_65 (c_within _ _ _) (fun h => h.2.2.2.1) rfl rfl (Nat.le_of_ble_eq_true rfl) (Nat.le_of_ble_eq_true rfl) ?_
        refine sw_if_ne (tgt := 31) dX4_tellSailor_26 (by decide) (fun h26 => ?_) (fun h26 => ?_)
        · refine sw_aload_n dX4_tellSailor_31 rfl ?_
          refine sw_iload_n dX4_tellSailor_32 rfl ?_
          refine sw_iload_n dX4_tellSailor_33 rfl ?_
          refine sw_iload_n dX4_tellSailor_34 rfl ?_
          refine sw_callV dX4_tellSailor_35 lV_X4_102 (c_addSailor (k := k) hk _ _ _) (sm_Fo hk) rfl rfl rfl (Nat.le_of_ble_eq_true rfl) (Nat.le_of_ble_eq_true rfl) ?_
          refine sw_iconst (v := 1) dX4_tellSailor_38 (by decide) ?_
          refine sw_zret dX4_tellSailor_39 rfl rfl ?_ (by decide) ?_
          all_goals (first | with_reducible rfl | (simp_all [-Int32.not_lt, -Int32.not_le, t_one, sm_b_e0]))
        · refine sw_iconst (v := 0) dX4_tellSailor_29 (by decide) ?_
          refine sw_zret dX4_tellSailor_30 rfl rfl ?_ (by decide) ?_
          all_goals (first | with_reducible rfl | (simp_all [-Int32.not_lt, -Int32.not_le, t_one, sm_b_e0]))

theorem sw_lk_item {nL d : Nat} {ret : Option FieldType} {r : Option Value} {σ' σ : sm_St} {lv : List (Nat × Value)} {st : List Value} {x : Int32} (k1 : x = 115 → sm_W RX4 cX4_readItem nL ret d r σ' 172 lv st σ) (k2 : x = 119 → sm_W RX4 cX4_readItem nL ret d r σ' 183 lv st σ) (k3 : x = 112 → sm_W RX4 cX4_readItem nL ret d r σ' 192 lv st σ) (k4 : x = 99 → sm_W RX4 cX4_readItem nL ret d r σ' 203 lv st σ) (kd : ¬ x = 115 → ¬ x = 119 → ¬ x = 112 → ¬ x = 99 → sm_W RX4 cX4_readItem nL ret d r σ' 214 lv st σ) : sm_W RX4 cX4_readItem nL ret d r σ' 129 lv (.int x :: st) σ := by
  by_cases h1 : x = 115
  · subst h1; exact sw_lookup (off := 43) dX4_readItem_129 (by decide) (by decide) (by decide) (k1 rfl)
  by_cases h2 : x = 119
  · subst h2; exact sw_lookup (off := 54) dX4_readItem_129 (by decide) (by decide) (by decide) (k2 rfl)
  by_cases h3 : x = 112
  · subst h3; exact sw_lookup (off := 63) dX4_readItem_129 (by decide) (by decide) (by decide) (k3 rfl)
  by_cases h4 : x = 99
  · subst h4; exact sw_lookup (off := 74) dX4_readItem_129 (by decide) (by decide) (by decide) (k4 rfl)
  have e1 : x.toInt ≠ 115 := fun e => h1 (Int32.toInt_inj.mp e)
  have e2 : x.toInt ≠ 119 := fun e => h2 (Int32.toInt_inj.mp e)
  have e3 : x.toInt ≠ 112 := fun e => h3 (Int32.toInt_inj.mp e)
  have e4 : x.toInt ≠ 99 := fun e => h4 (Int32.toInt_inj.mp e)
  refine sw_lookup (off := 85) (tgt := 214) dX4_readItem_129 (by decide) ?_ (by decide) (kd h1 h2 h3 h4)
  simp [Op.lookupswitch.offset, e1, e2, e3, e4, Ne.symm e1, Ne.symm e2, Ne.symm e3, Ne.symm e4]

set_option maxHeartbeats 4000000 in
theorem c_readItem {σ : sm_St} {k : Nat} (hk : sm_isF k) : sm_C yX4_readItem cX4_readItem 7 (some .boolean) 5 [.ref 97, .ref k] σ (some (.int (x_item σ k).1)) (x_item σ k).2 := by
  refine sm_C.of (own := RX4) (by decide) rfl (Nat.le_of_ble_eq_true rfl) ?_
  show sm_W RX4 cX4_readItem 7 (some .boolean) 5 (some (.int (x_item σ k).1)) (x_item σ k).2 0 [(0, .ref 97), (1, .ref k)] [] σ
  refine sw_aload_n dX4_readItem_0 rfl ?_
  refine sw_callV dX4_readItem_1 lV_X4_40 (c_here) rfl rfl rfl rfl (Nat.le_of_ble_eq_true rfl) (Nat.le_of_ble_eq_true rfl) ?_
  refine sw_istore_n dX4_readItem_4 (by decide) rfl ?_
  refine sw_iload_n dX4_readItem_5 rfl ?_
  refine sw_bipush (v := 119) dX4_readItem_6 (by decide) ?_
  refine sw_icmp_ne (tgt := 15) dX4_readItem_8 (by decide) (fun h8 => ?_) (fun h8 => ?_)
  · refine sw_iconst (v := 3) dX4_readItem_15 (by decide) ?_
    refine sw_istore_n dX4_readItem_16 (by decide) rfl ?_
    refine sw_aload_n dX4_readItem_17 rfl ?_
    refine sw_dup dX4_readItem_18 rfl ?_
    refine sw_getI dX4_readItem_19 fl_X4_33 rfl rfl ?_
    refine sw_iconst (v := 1) dX4_readItem_22 (by decide) ?_
    refine sw_iadd dX4_readItem_23 ?_
    refine sw_put dX4_readItem_24 fl_X4_33 fi_3_3 rfl rfl ?_
    refine sw_st (σ2 := x_inc _) rfl ?_
    refine sw_iconst (v := 0) dX4_readItem_27 (by decide) ?_
    refine sw_istore dX4_readItem_28 (by decide) rfl ?_
    refine sw_iload dX4_readItem_30 rfl ?_
    refine sw_iload_n dX4_readItem_32 rfl ?_
    refine sw_icmp_ge (tgt := 98) dX4_readItem_33 (by decide) (fun h => absurd h (by decide)) (fun _ => ?_)
    refine sw_aload_n dX4_readItem_36 rfl ?_
    refine sw_callV dX4_readItem_37 lV_X4_44 (c_readNumber) rfl rfl rfl rfl (Nat.le_of_ble_eq_true rfl) (Nat.le_of_ble_eq_true rfl) ?_
    refine sw_istore dX4_readItem_40 (by decide) rfl ?_
    refine sw_iload dX4_readItem_42 rfl ?_
    refine sw_if_lt (tgt := 69) dX4_readItem_44 (by decide) (fun h44 => ?_) (fun h44 => ?_)
    · refine sw_iconst (v := 0) dX4_readItem_69 (by decide) ?_
      refine sw_zret dX4_readItem_70 rfl rfl ?_ (by decide) ?_
      all_goals (first | with_reducible rfl | (simp_all [-Int32.not_lt, -Int32.not_le, x_item, x_nums, x_two, x_three, x_one, x_tell]))
    · refine sw_aload_n dX4_readItem_47 rfl ?_
      refine sw_callV dX4_readItem_48 lV_X4_40 (c_here) rfl rfl rfl rfl (Nat.le_of_ble_eq_true rfl) (Nat.le_of_ble_eq_true rfl) ?_
      refine sw_iload dX4_readItem_51 rfl ?_
      refine sw_iload_n dX4_readItem_53 rfl ?_
      refine sw_iconst (v := 1) dX4_readItem_54 (by decide) ?_
      refine sw_isub dX4_readItem_55 ?_
      refine sw_icmp_ge (tgt := 64) dX4_readItem_56 (by decide) (fun h => absurd h (by decide)) (fun _ => ?_)
      refine sw_bipush (v := 44) dX4_readItem_59 (by decide) ?_
      refine sw_goto (tgt := 66) dX4_readItem_61 (by decide) ?_
      refine sw_icmp_eq (tgt := 71) dX4_readItem_66 (by decide) (fun h66 => ?_) (fun h66 => ?_)
      · refine sw_aload_n dX4_readItem_71 rfl ?_
        refine sw_getR (j := 99) dX4_readItem_72 fl_X4_15 rfl rfl ?_
        refine sw_iload dX4_readItem_75 rfl ?_
        refine sw_iload dX4_readItem_77 rfl ?_
        refine sw_callS dX4_readItem_79 lS_X4_22 (c_set (k := 99) rfl _ _) rfl rfl (Nat.le_of_ble_eq_true rfl) (Nat.le_of_ble_eq_true rfl) ?_
        refine sw_aload_n dX4_readItem_82 rfl ?_
        refine sw_dup dX4_readItem_83 rfl ?_
        refine sw_getI dX4_readItem_84 fl_X4_33 rfl rfl ?_
        refine sw_iconst (v := 1) dX4_readItem_87 (by decide) ?_
        refine sw_iadd dX4_readItem_88 ?_
        refine sw_put dX4_readItem_89 fl_X4_33 fi_3_3 rfl rfl ?_
        refine sw_st (σ2 := x_inc _) rfl ?_
        refine sw_iinc (v := 1) dX4_readItem_92 rfl (by decide) (by decide) rfl ?_
        refine sw_goto (tgt := 30) dX4_readItem_95 (by decide) ?_
        refine sw_iload dX4_readItem_30 rfl ?_
        refine sw_iload_n dX4_readItem_32 rfl ?_
        refine sw_icmp_ge (tgt := 98) dX4_readItem_33 (by decide) (fun h => absurd h (by decide)) (fun _ => ?_)
        refine sw_aload_n dX4_readItem_36 rfl ?_
        refine sw_callV dX4_readItem_37 lV_X4_44 (c_readNumber) rfl rfl rfl rfl (Nat.le_of_ble_eq_true rfl) (Nat.le_of_ble_eq_true rfl) ?_
        refine sw_istore dX4_readItem_40 (by decide) rfl ?_
        refine sw_iload dX4_readItem_42 rfl ?_
        refine sw_if_lt (tgt := 69) dX4_readItem_44 (by decide) (fun h44 => ?_) (fun h44 => ?_)
        · refine sw_iconst (v := 0) dX4_readItem_69 (by decide) ?_
          refine sw_zret dX4_readItem_70 rfl rfl ?_ (by decide) ?_
          all_goals (first | with_reducible rfl | (simp_all [-Int32.not_lt, -Int32.not_le, x_item, x_nums, x_two, x_three, x_one, x_tell]))
        · refine sw_aload_n dX4_readItem_47 rfl ?_
          refine sw_callV dX4_readItem_48 lV_X4_40 (c_here) rfl rfl rfl rfl (Nat.le_of_ble_eq_true rfl) (Nat.le_of_ble_eq_true rfl) ?_
          refine sw_iload dX4_readItem_51 rfl ?_
          refine sw_iload_n dX4_readItem_53 rfl ?_
          refine sw_iconst (v := 1) dX4_readItem_54 (by decide) ?_
          refine sw_isub dX4_readItem_55 ?_
          refine sw_icmp_ge (tgt := 64) dX4_readItem_56 (by decide) (fun h => absurd h (by decide)) (fun _ => ?_)
          refine sw_bipush (v := 44) dX4_readItem_59 (by decide) ?_
          refine sw_goto (tgt := 66) dX4_readItem_61 (by decide) ?_
          refine sw_icmp_eq (tgt := 71) dX4_readItem_66 (by decide) (fun h66 => ?_) (fun h66 => ?_)
          · refine sw_aload_n dX4_readItem_71 rfl ?_
            refine sw_getR (j := 99) dX4_readItem_72 fl_X4_15 rfl rfl ?_
            refine sw_iload dX4_readItem_75 rfl ?_
            refine sw_iload dX4_readItem_77 rfl ?_
            refine sw_callS dX4_readItem_79 lS_X4_22 (c_set (k := 99) rfl _ _) rfl rfl (Nat.le_of_ble_eq_true rfl) (Nat.le_of_ble_eq_true rfl) ?_
            refine sw_aload_n dX4_readItem_82 rfl ?_
            refine sw_dup dX4_readItem_83 rfl ?_
            refine sw_getI dX4_readItem_84 fl_X4_33 rfl rfl ?_
            refine sw_iconst (v := 1) dX4_readItem_87 (by decide) ?_
            refine sw_iadd dX4_readItem_88 ?_
            refine sw_put dX4_readItem_89 fl_X4_33 fi_3_3 rfl rfl ?_
            refine sw_st (σ2 := x_inc _) rfl ?_
            refine sw_iinc (v := 2) dX4_readItem_92 rfl (by decide) (by decide) rfl ?_
            refine sw_goto (tgt := 30) dX4_readItem_95 (by decide) ?_
            refine sw_iload dX4_readItem_30 rfl ?_
            refine sw_iload_n dX4_readItem_32 rfl ?_
            refine sw_icmp_ge (tgt := 98) dX4_readItem_33 (by decide) (fun h => absurd h (by decide)) (fun _ => ?_)
            refine sw_aload_n dX4_readItem_36 rfl ?_
            refine sw_callV dX4_readItem_37 lV_X4_44 (c_readNumber) rfl rfl rfl rfl (Nat.le_of_ble_eq_true rfl) (Nat.le_of_ble_eq_true rfl) ?_
            refine sw_istore dX4_readItem_40 (by decide) rfl ?_
            refine sw_iload dX4_readItem_42 rfl ?_
            refine sw_if_lt (tgt := 69) dX4_readItem_44 (by decide) (fun h44 => ?_) (fun h44 => ?_)
            · refine sw_iconst (v := 0) dX4_readItem_69 (by decide) ?_
              refine sw_zret dX4_readItem_70 rfl rfl ?_ (by decide) ?_
              all_goals (first | with_reducible rfl | (simp_all [-Int32.not_lt, -Int32.not_le, x_item, x_nums, x_two, x_three, x_one, x_tell]))
            · refine sw_aload_n dX4_readItem_47 rfl ?_
              refine sw_callV dX4_readItem_48 lV_X4_40 (c_here) rfl rfl rfl rfl (Nat.le_of_ble_eq_true rfl) (Nat.le_of_ble_eq_true rfl) ?_
              refine sw_iload dX4_readItem_51 rfl ?_
              refine sw_iload_n dX4_readItem_53 rfl ?_
              refine sw_iconst (v := 1) dX4_readItem_54 (by decide) ?_
              refine sw_isub dX4_readItem_55 ?_
              refine sw_icmp_ge (tgt := 64) dX4_readItem_56 (by decide) (fun _ => ?_) (fun h => absurd (by decide) h)
              refine sw_bipush (v := 59) dX4_readItem_64 (by decide) ?_
              refine sw_icmp_eq (tgt := 71) dX4_readItem_66 (by decide) (fun h66 => ?_) (fun h66 => ?_)
              · refine sw_aload_n dX4_readItem_71 rfl ?_
                refine sw_getR (j := 99) dX4_readItem_72 fl_X4_15 rfl rfl ?_
                refine sw_iload dX4_readItem_75 rfl ?_
                refine sw_iload dX4_readItem_77 rfl ?_
                refine sw_callS dX4_readItem_79 lS_X4_22 (c_set (k := 99) rfl _ _) rfl rfl (Nat.le_of_ble_eq_true rfl) (Nat.le_of_ble_eq_true rfl) ?_
                refine sw_aload_n dX4_readItem_82 rfl ?_
                refine sw_dup dX4_readItem_83 rfl ?_
                refine sw_getI dX4_readItem_84 fl_X4_33 rfl rfl ?_
                refine sw_iconst (v := 1) dX4_readItem_87 (by decide) ?_
                refine sw_iadd dX4_readItem_88 ?_
                refine sw_put dX4_readItem_89 fl_X4_33 fi_3_3 rfl rfl ?_
                refine sw_st (σ2 := x_inc _) rfl ?_
                refine sw_iinc (v := 3) dX4_readItem_92 rfl (by decide) (by decide) rfl ?_
                refine sw_goto (tgt := 30) dX4_readItem_95 (by decide) ?_
                refine sw_iload dX4_readItem_30 rfl ?_
                refine sw_iload_n dX4_readItem_32 rfl ?_
                refine sw_icmp_ge (tgt := 98) dX4_readItem_33 (by decide) (fun _ => ?_) (fun h => absurd (by decide) h)
                refine sw_aload_n dX4_readItem_98 rfl ?_
                refine sw_getR (j := 99) dX4_readItem_99 fl_X4_15 rfl rfl ?_
                refine sw_iconst (v := 0) dX4_readItem_102 (by decide) ?_
                refine sw_callS dX4_readItem_103 lS_X4_47 (c_at (k := 99) rfl _) rfl rfl (Nat.le_of_ble_eq_true rfl) (Nat.le_of_ble_eq_true rfl) ?_
                refine sw_istore dX4_readItem_106 (by decide) rfl ?_
                refine sw_aload_n dX4_readItem_108 rfl ?_
                refine sw_getR (j := 99) dX4_readItem_109 fl_X4_15 rfl rfl ?_
                refine sw_iconst (v := 1) dX4_readItem_112 (by decide) ?_
                refine sw_callS dX4_readItem_113 lS_X4_47 (c_at (k := 99) rfl _) rfl rfl (Nat.le_of_ble_eq_true rfl) (Nat.le_of_ble_eq_true rfl) ?_
                refine sw_istore dX4_readItem_116 (by decide) rfl ?_
                refine sw_aload_n dX4_readItem_118 rfl ?_
                refine sw_getR (j := 99) dX4_readItem_119 fl_X4_15 rfl rfl ?_
                refine sw_iconst (v := 2) dX4_readItem_122 (by decide) ?_
                refine sw_callS dX4_readItem_123 lS_X4_47 (c_at (k := 99) rfl _) rfl rfl (Nat.le_of_ble_eq_true rfl) (Nat.le_of_ble_eq_true rfl) ?_
                refine sw_istore dX4_readItem_126 (by decide) rfl ?_
                refine sw_iload_n dX4_readItem_128 rfl ?_
                refine sw_lk_item (fun h129 => ?_) (fun h129 => ?_) (fun h129 => ?_) (fun h129 => ?_) (fun n1 n2 n3 n4 => ?_)
                · refine sw_aload_n dX4_readItem_172 rfl ?_
                  refine sw_iload dX4_readItem_173 rfl ?_
                  refine sw_iload dX4_readItem_175 rfl ?_
                  refine sw_iload dX4_readItem_177 rfl ?_
                  refine sw_callS dX4_readItem_179 lS_X4_51 (c_tellShip (k := k) hk _ _ _) rfl rfl (Nat.le_of_ble_eq_true rfl) (Nat.le_of_ble_eq_true rfl) ?_
                  refine sw_zret dX4_readItem_182 rfl rfl ?_ t_b01.1 ?_
                  all_goals (first | with_reducible rfl | (simp_all [-Int32.not_lt, -Int32.not_le, x_item, x_nums, x_two, x_three, x_one, x_tell]))
                · refine sw_aload_n dX4_readItem_183 rfl ?_
                  refine sw_iload dX4_readItem_184 rfl ?_
                  refine sw_iload dX4_readItem_186 rfl ?_
                  refine sw_callS dX4_readItem_188 lS_X4_55 (c_tellWind (k := k) hk _ _) rfl rfl (Nat.le_of_ble_eq_true rfl) (Nat.le_of_ble_eq_true rfl) ?_
                  refine sw_zret dX4_readItem_191 rfl rfl ?_ (t_b01 (c := 0)).2.1 ?_
                  all_goals (first | with_reducible rfl | (simp_all [-Int32.not_lt, -Int32.not_le, x_item, x_nums, x_two, x_three, x_one, x_tell]))
                · refine sw_aload_n dX4_readItem_192 rfl ?_
                  refine sw_iload dX4_readItem_193 rfl ?_
                  refine sw_iload dX4_readItem_195 rfl ?_
                  refine sw_iload dX4_readItem_197 rfl ?_
                  refine sw_callS dX4_readItem_199 lS_X4_59 (c_tellPost (k := k) hk _ _ _) rfl rfl (Nat.le_of_ble_eq_true rfl) (Nat.le_of_ble_eq_true rfl) ?_
                  refine sw_zret dX4_readItem_202 rfl rfl ?_ t_b01.2.2.1 ?_
                  all_goals (first | with_reducible rfl | (simp_all [-Int32.not_lt, -Int32.not_le, x_item, x_nums, x_two, x_three, x_one, x_tell]))
                · refine sw_aload_n dX4_readItem_203 rfl ?_
                  refine sw_iload dX4_readItem_204 rfl ?_
                  refine sw_iload dX4_readItem_206 rfl ?_
                  refine sw_iload dX4_readItem_208 rfl ?_
                  refine sw_callS dX4_readItem_210 lS_X4_62 (c_tellSailor (k := k) hk _ _ _) rfl rfl (Nat.le_of_ble_eq_true rfl) (Nat.le_of_ble_eq_true rfl) ?_
                  refine sw_zret dX4_readItem_213 rfl rfl ?_ t_b01.2.2.2 ?_
                  all_goals (first | with_reducible rfl | (simp_all [-Int32.not_lt, -Int32.not_le, x_item, x_nums, x_two, x_three, x_one, x_tell]))
                · refine sw_iconst (v := 0) dX4_readItem_214 (by decide) ?_
                  refine sw_zret dX4_readItem_215 rfl rfl ?_ (by decide) ?_
                  all_goals (first | with_reducible rfl | (simp_all [-Int32.not_lt, -Int32.not_le, x_item, x_nums, x_two, x_three, x_one, x_tell]))
              · refine sw_iconst (v := 0) dX4_readItem_69 (by decide) ?_
                refine sw_zret dX4_readItem_70 rfl rfl ?_ (by decide) ?_
                all_goals (first | with_reducible rfl | (simp_all [-Int32.not_lt, -Int32.not_le, x_item, x_nums, x_two, x_three, x_one, x_tell]))
          · refine sw_iconst (v := 0) dX4_readItem_69 (by decide) ?_
            refine sw_zret dX4_readItem_70 rfl rfl ?_ (by decide) ?_
            all_goals (first | with_reducible rfl | (simp_all [-Int32.not_lt, -Int32.not_le, x_item, x_nums, x_two, x_three, x_one, x_tell]))
      · refine sw_iconst (v := 0) dX4_readItem_69 (by decide) ?_
        refine sw_zret dX4_readItem_70 rfl rfl ?_ (by decide) ?_
        all_goals (first | with_reducible rfl | (simp_all [-Int32.not_lt, -Int32.not_le, x_item, x_nums, x_two, x_three, x_one, x_tell]))
  · refine sw_iconst (v := 2) dX4_readItem_11 (by decide) ?_
    refine sw_goto (tgt := 16) dX4_readItem_12 (by decide) ?_
    refine sw_istore_n dX4_readItem_16 (by decide) rfl ?_
    refine sw_aload_n dX4_readItem_17 rfl ?_
    refine sw_dup dX4_readItem_18 rfl ?_
    refine sw_getI dX4_readItem_19 fl_X4_33 rfl rfl ?_
    refine sw_iconst (v := 1) dX4_readItem_22 (by decide) ?_
    refine sw_iadd dX4_readItem_23 ?_
    refine sw_put dX4_readItem_24 fl_X4_33 fi_3_3 rfl rfl ?_
    refine sw_st (σ2 := x_inc _) rfl ?_
    refine sw_iconst (v := 0) dX4_readItem_27 (by decide) ?_
    refine sw_istore dX4_readItem_28 (by decide) rfl ?_
    refine sw_iload dX4_readItem_30 rfl ?_
    refine sw_iload_n dX4_readItem_32 rfl ?_
    refine sw_icmp_ge (tgt := 98) dX4_readItem_33 (by decide) (fun h => absurd h (by decide)) (fun _ => ?_)
    refine sw_aload_n dX4_readItem_36 rfl ?_
    refine sw_callV dX4_readItem_37 lV_X4_44 (c_readNumber) rfl rfl rfl rfl (Nat.le_of_ble_eq_true rfl) (Nat.le_of_ble_eq_true rfl) ?_
    refine sw_istore dX4_readItem_40 (by decide) rfl ?_
    refine sw_iload dX4_readItem_42 rfl ?_
    refine sw_if_lt (tgt := 69) dX4_readItem_44 (by decide) (fun h44 => ?_) (fun h44 => ?_)
    · refine sw_iconst (v := 0) dX4_readItem_69 (by decide) ?_
      refine sw_zret dX4_readItem_70 rfl rfl ?_ (by decide) ?_
      all_goals (first | with_reducible rfl | (simp_all [-Int32.not_lt, -Int32.not_le, x_item, x_nums, x_two, x_three, x_one, x_tell]))
    · refine sw_aload_n dX4_readItem_47 rfl ?_
      refine sw_callV dX4_readItem_48 lV_X4_40 (c_here) rfl rfl rfl rfl (Nat.le_of_ble_eq_true rfl) (Nat.le_of_ble_eq_true rfl) ?_
      refine sw_iload dX4_readItem_51 rfl ?_
      refine sw_iload_n dX4_readItem_53 rfl ?_
      refine sw_iconst (v := 1) dX4_readItem_54 (by decide) ?_
      refine sw_isub dX4_readItem_55 ?_
      refine sw_icmp_ge (tgt := 64) dX4_readItem_56 (by decide) (fun h => absurd h (by decide)) (fun _ => ?_)
      refine sw_bipush (v := 44) dX4_readItem_59 (by decide) ?_
      refine sw_goto (tgt := 66) dX4_readItem_61 (by decide) ?_
      refine sw_icmp_eq (tgt := 71) dX4_readItem_66 (by decide) (fun h66 => ?_) (fun h66 => ?_)
      · refine sw_aload_n dX4_readItem_71 rfl ?_
        refine sw_getR (j := 99) dX4_readItem_72 fl_X4_15 rfl rfl ?_
        refine sw_iload dX4_readItem_75 rfl ?_
        refine sw_iload dX4_readItem_77 rfl ?_
        refine sw_callS dX4_readItem_79 lS_X4_22 (c_set (k := 99) rfl _ _) rfl rfl (Nat.le_of_ble_eq_true rfl) (Nat.le_of_ble_eq_true rfl) ?_
        refine sw_aload_n dX4_readItem_82 rfl ?_
        refine sw_dup dX4_readItem_83 rfl ?_
        refine sw_getI dX4_readItem_84 fl_X4_33 rfl rfl ?_
        refine sw_iconst (v := 1) dX4_readItem_87 (by decide) ?_
        refine sw_iadd dX4_readItem_88 ?_
        refine sw_put dX4_readItem_89 fl_X4_33 fi_3_3 rfl rfl ?_
        refine sw_st (σ2 := x_inc _) rfl ?_
        refine sw_iinc (v := 1) dX4_readItem_92 rfl (by decide) (by decide) rfl ?_
        refine sw_goto (tgt := 30) dX4_readItem_95 (by decide) ?_
        refine sw_iload dX4_readItem_30 rfl ?_
        refine sw_iload_n dX4_readItem_32 rfl ?_
        refine sw_icmp_ge (tgt := 98) dX4_readItem_33 (by decide) (fun h => absurd h (by decide)) (fun _ => ?_)
        refine sw_aload_n dX4_readItem_36 rfl ?_
        refine sw_callV dX4_readItem_37 lV_X4_44 (c_readNumber) rfl rfl rfl rfl (Nat.le_of_ble_eq_true rfl) (Nat.le_of_ble_eq_true rfl) ?_
        refine sw_istore dX4_readItem_40 (by decide) rfl ?_
        refine sw_iload dX4_readItem_42 rfl ?_
        refine sw_if_lt (tgt := 69) dX4_readItem_44 (by decide) (fun h44 => ?_) (fun h44 => ?_)
        · refine sw_iconst (v := 0) dX4_readItem_69 (by decide) ?_
          refine sw_zret dX4_readItem_70 rfl rfl ?_ (by decide) ?_
          all_goals (first | with_reducible rfl | (simp_all [-Int32.not_lt, -Int32.not_le, x_item, x_nums, x_two, x_three, x_one, x_tell]))
        · refine sw_aload_n dX4_readItem_47 rfl ?_
          refine sw_callV dX4_readItem_48 lV_X4_40 (c_here) rfl rfl rfl rfl (Nat.le_of_ble_eq_true rfl) (Nat.le_of_ble_eq_true rfl) ?_
          refine sw_iload dX4_readItem_51 rfl ?_
          refine sw_iload_n dX4_readItem_53 rfl ?_
          refine sw_iconst (v := 1) dX4_readItem_54 (by decide) ?_
          refine sw_isub dX4_readItem_55 ?_
          refine sw_icmp_ge (tgt := 64) dX4_readItem_56 (by decide) (fun _ => ?_) (fun h => absurd (by decide) h)
          refine sw_bipush (v := 59) dX4_readItem_64 (by decide) ?_
          refine sw_icmp_eq (tgt := 71) dX4_readItem_66 (by decide) (fun h66 => ?_) (fun h66 => ?_)
          · refine sw_aload_n dX4_readItem_71 rfl ?_
            refine sw_getR (j := 99) dX4_readItem_72 fl_X4_15 rfl rfl ?_
            refine sw_iload dX4_readItem_75 rfl ?_
            refine sw_iload dX4_readItem_77 rfl ?_
            refine sw_callS dX4_readItem_79 lS_X4_22 (c_set (k := 99) rfl _ _) rfl rfl (Nat.le_of_ble_eq_true rfl) (Nat.le_of_ble_eq_true rfl) ?_
            refine sw_aload_n dX4_readItem_82 rfl ?_
            refine sw_dup dX4_readItem_83 rfl ?_
            refine sw_getI dX4_readItem_84 fl_X4_33 rfl rfl ?_
            refine sw_iconst (v := 1) dX4_readItem_87 (by decide) ?_
            refine sw_iadd dX4_readItem_88 ?_
            refine sw_put dX4_readItem_89 fl_X4_33 fi_3_3 rfl rfl ?_
            refine sw_st (σ2 := x_inc _) rfl ?_
            refine sw_iinc (v := 2) dX4_readItem_92 rfl (by decide) (by decide) rfl ?_
            refine sw_goto (tgt := 30) dX4_readItem_95 (by decide) ?_
            refine sw_iload dX4_readItem_30 rfl ?_
            refine sw_iload_n dX4_readItem_32 rfl ?_
            refine sw_icmp_ge (tgt := 98) dX4_readItem_33 (by decide) (fun _ => ?_) (fun h => absurd (by decide) h)
            refine sw_aload_n dX4_readItem_98 rfl ?_
            refine sw_getR (j := 99) dX4_readItem_99 fl_X4_15 rfl rfl ?_
            refine sw_iconst (v := 0) dX4_readItem_102 (by decide) ?_
            refine sw_callS dX4_readItem_103 lS_X4_47 (c_at (k := 99) rfl _) rfl rfl (Nat.le_of_ble_eq_true rfl) (Nat.le_of_ble_eq_true rfl) ?_
            refine sw_istore dX4_readItem_106 (by decide) rfl ?_
            refine sw_aload_n dX4_readItem_108 rfl ?_
            refine sw_getR (j := 99) dX4_readItem_109 fl_X4_15 rfl rfl ?_
            refine sw_iconst (v := 1) dX4_readItem_112 (by decide) ?_
            refine sw_callS dX4_readItem_113 lS_X4_47 (c_at (k := 99) rfl _) rfl rfl (Nat.le_of_ble_eq_true rfl) (Nat.le_of_ble_eq_true rfl) ?_
            refine sw_istore dX4_readItem_116 (by decide) rfl ?_
            refine sw_aload_n dX4_readItem_118 rfl ?_
            refine sw_getR (j := 99) dX4_readItem_119 fl_X4_15 rfl rfl ?_
            refine sw_iconst (v := 2) dX4_readItem_122 (by decide) ?_
            refine sw_callS dX4_readItem_123 lS_X4_47 (c_at (k := 99) rfl _) rfl rfl (Nat.le_of_ble_eq_true rfl) (Nat.le_of_ble_eq_true rfl) ?_
            refine sw_istore dX4_readItem_126 (by decide) rfl ?_
            refine sw_iload_n dX4_readItem_128 rfl ?_
            refine sw_lk_item (fun h129 => ?_) (fun h129 => ?_) (fun h129 => ?_) (fun h129 => ?_) (fun n1 n2 n3 n4 => ?_)
            · refine sw_aload_n dX4_readItem_172 rfl ?_
              refine sw_iload dX4_readItem_173 rfl ?_
              refine sw_iload dX4_readItem_175 rfl ?_
              refine sw_iload dX4_readItem_177 rfl ?_
              refine sw_callS dX4_readItem_179 lS_X4_51 (c_tellShip (k := k) hk _ _ _) rfl rfl (Nat.le_of_ble_eq_true rfl) (Nat.le_of_ble_eq_true rfl) ?_
              refine sw_zret dX4_readItem_182 rfl rfl ?_ t_b01.1 ?_
              all_goals (first | with_reducible rfl | (simp_all [-Int32.not_lt, -Int32.not_le, x_item, x_nums, x_two, x_three, x_one, x_tell]))
            · refine sw_aload_n dX4_readItem_183 rfl ?_
              refine sw_iload dX4_readItem_184 rfl ?_
              refine sw_iload dX4_readItem_186 rfl ?_
              refine sw_callS dX4_readItem_188 lS_X4_55 (c_tellWind (k := k) hk _ _) rfl rfl (Nat.le_of_ble_eq_true rfl) (Nat.le_of_ble_eq_true rfl) ?_
              refine sw_zret dX4_readItem_191 rfl rfl ?_ (t_b01 (c := 0)).2.1 ?_
              all_goals (first | with_reducible rfl | (simp_all [-Int32.not_lt, -Int32.not_le, x_item, x_nums, x_two, x_three, x_one, x_tell]))
            · refine sw_aload_n dX4_readItem_192 rfl ?_
              refine sw_iload dX4_readItem_193 rfl ?_
              refine sw_iload dX4_readItem_195 rfl ?_
              refine sw_iload dX4_readItem_197 rfl ?_
              refine sw_callS dX4_readItem_199 lS_X4_59 (c_tellPost (k := k) hk _ _ _) rfl rfl (Nat.le_of_ble_eq_true rfl) (Nat.le_of_ble_eq_true rfl) ?_
              refine sw_zret dX4_readItem_202 rfl rfl ?_ t_b01.2.2.1 ?_
              all_goals (first | with_reducible rfl | (simp_all [-Int32.not_lt, -Int32.not_le, x_item, x_nums, x_two, x_three, x_one, x_tell]))
            · refine sw_aload_n dX4_readItem_203 rfl ?_
              refine sw_iload dX4_readItem_204 rfl ?_
              refine sw_iload dX4_readItem_206 rfl ?_
              refine sw_iload dX4_readItem_208 rfl ?_
              refine sw_callS dX4_readItem_210 lS_X4_62 (c_tellSailor (k := k) hk _ _ _) rfl rfl (Nat.le_of_ble_eq_true rfl) (Nat.le_of_ble_eq_true rfl) ?_
              refine sw_zret dX4_readItem_213 rfl rfl ?_ t_b01.2.2.2 ?_
              all_goals (first | with_reducible rfl | (simp_all [-Int32.not_lt, -Int32.not_le, x_item, x_nums, x_two, x_three, x_one, x_tell]))
            · refine sw_iconst (v := 0) dX4_readItem_214 (by decide) ?_
              refine sw_zret dX4_readItem_215 rfl rfl ?_ (by decide) ?_
              all_goals (first | with_reducible rfl | (simp_all [-Int32.not_lt, -Int32.not_le, x_item, x_nums, x_two, x_three, x_one, x_tell]))
          · refine sw_iconst (v := 0) dX4_readItem_69 (by decide) ?_
            refine sw_zret dX4_readItem_70 rfl rfl ?_ (by decide) ?_
            all_goals (first | with_reducible rfl | (simp_all [-Int32.not_lt, -Int32.not_le, x_item, x_nums, x_two, x_three, x_one, x_tell]))
      · refine sw_iconst (v := 0) dX4_readItem_69 (by decide) ?_
        refine sw_zret dX4_readItem_70 rfl rfl ?_ (by decide) ?_
        all_goals (first | with_reducible rfl | (simp_all [-Int32.not_lt, -Int32.not_le, x_item, x_nums, x_two, x_three, x_one, x_tell]))

set_option maxHeartbeats 4000000 in
theorem l_readInto {k : Nat} (hk : sm_isF k) : ∀ (n i : Nat) (τ : sm_St), i + n = 200 → sm_W RX4 cX4_readInto 4 (some .int) 6 (some (.int (x_read k n τ).1)) (x_read k n τ).2 11 [(0, .ref 97), (1, .ref k), (2, .int (nI i))] [] τ := by
  intro n
  induction n with
  | zero =>
    intro i τ h1
    refine sw_iload_n dX4_readInto_11 rfl ?_
    refine sw_sipush (v := 200) dX4_readInto_12 (by decide) ?_
    refine sw_icmp_ge (tgt := 50) dX4_readInto_15 (by decide) (fun _ => ?_) (fun h => absurd ((by rw [show i = 200 by omega]; decide)) h)
    refine sw_bipush (v := -4) dX4_readInto_50 (by decide) ?_
    refine sw_iret dX4_readInto_52 rfl rfl ?_ ?_
    all_goals (first | with_reducible rfl | (rfl))
  | succ n ih =>
    intro i τ h1
    refine sw_iload_n dX4_readInto_11 rfl ?_
    refine sw_sipush (v := 200) dX4_readInto_12 (by decide) ?_
    refine sw_icmp_ge (tgt := 50) dX4_readInto_15 (by decide) (fun h => absurd h ((fun h => absurd ((nI_leI (by decide) (by omega)).mp (show nI 200 ≤ nI i from h)) (by omega)))) (fun _ => ?_)
    refine sw_aload_n dX4_readInto_18 rfl ?_
    refine sw_getI dX4_readInto_19 fl_X4_33 rfl rfl ?_
    refine sw_aload_n dX4_readInto_22 rfl ?_
    refine sw_getI dX4_readInto_23 fl_X4_18 rfl rfl ?_
    refine sw_icmp_ge (tgt := 50) dX4_readInto_26 (by decide) (fun h26 => ?_) (fun h26 => ?_)
    · refine sw_bipush (v := -4) dX4_readInto_50 (by decide) ?_
      refine sw_iret dX4_readInto_52 rfl rfl ?_ ?_
      all_goals (first | with_reducible rfl | (first | (rw [x_read, if_pos h26]) | (rw [x_read, if_neg h26, if_pos h39])))
    · refine sw_aload_n dX4_readInto_29 rfl ?_
      refine sw_getI dX4_readInto_30 fl_X4_33 rfl rfl ?_
      refine sw_istore_n dX4_readInto_33 (by decide) rfl ?_
      refine sw_aload_n dX4_readInto_34 rfl ?_
      refine sw_aload_n dX4_readInto_35 rfl ?_
      refine sw_callV dX4_readInto_36 lV_X4_36 (c_readItem (k := k) hk) rfl rfl rfl rfl (Nat.le_of_ble_eq_true rfl) (Nat.le_of_ble_eq_true rfl) ?_
      refine sw_if_ne (tgt := 44) dX4_readInto_39 (by decide) (fun h39 => ?_) (fun h39 => ?_)
      · refine sw_iinc dX4_readInto_44 rfl rfl (by decide) rfl ?_
        refine sw_goto (tgt := 11) dX4_readInto_47 (by decide) ?_
        have e : x_read k (n + 1) τ = x_read k n (x_item τ k).2 := by rw [x_read, if_neg h26, if_neg h39]
        rw [e]
        refine sw_lv (ih (i + 1) _ (by omega)) (And.intro rfl (And.intro rfl (And.intro (sm_e rfl ?_) trivial)))
        all_goals (rw [sm_i1, nI_succ])
      · refine sw_iload_n dX4_readInto_42 rfl ?_
        refine sw_iret dX4_readInto_43 rfl rfl ?_ ?_
        all_goals (first | with_reducible rfl | (first | (rw [x_read, if_pos h26]) | (rw [x_read, if_neg h26, if_pos h39])))

set_option maxHeartbeats 4000000 in
theorem c_readInto {σ : sm_St} {k : Nat} (hk : sm_isF k) : sm_C yX4_readInto cX4_readInto 4 (some .int) 6 [.ref 97, .ref k] σ (some (.int (x_into σ k).1)) (x_into σ k).2 := by
  refine sm_C.of (own := RX4) (by decide) rfl (Nat.le_of_ble_eq_true rfl) ?_
  show sm_W RX4 cX4_readInto 4 (some .int) 6 (some (.int (x_into σ k).1)) (x_into σ k).2 0 [(0, .ref 97), (1, .ref k)] [] σ
  refine sw_aload_n dX4_readInto_0 rfl ?_
  refine sw_callV dX4_readInto_1 lV_X4_28 (c_clear (k := k) hk) (sm_Fo hk) rfl rfl rfl (Nat.le_of_ble_eq_true rfl) (Nat.le_of_ble_eq_true rfl) ?_
  refine sw_aload_n dX4_readInto_4 rfl ?_
  refine sw_iconst (v := 0) dX4_readInto_5 (by decide) ?_
  refine sw_put dX4_readInto_6 fl_X4_33 fi_3_3 rfl rfl ?_
  refine sw_iconst (v := 0) dX4_readInto_9 (by decide) ?_
  refine sw_istore_n dX4_readInto_10 (by decide) rfl ?_
  refine sw_lv (l_readInto hk 200 0 _ (by omega)) (And.intro rfl (And.intro rfl (And.intro rfl trivial)))

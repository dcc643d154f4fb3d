theorem q_P_set {σ : sm_St} {n j : Nat} {v : Int32} (h1 : j ≠ 0) (h2 : j ≠ 28) (h : q_P σ n) : q_P (sm_set σ 110 j v) n := by
  unfold q_P; rw [sm_set_ne (Ne.symm h1), sm_set_ne (Ne.symm h2)]; exact h
theorem q_S_set {σ : sm_St} {n j : Nat} {v : Int32} (h1 : j ≠ 1) (h2 : j ≠ 29) (h : q_S σ n) : q_S (sm_set σ 110 j v) n := by
  unfold q_S; rw [sm_set_ne (Ne.symm h1), sm_set_ne (Ne.symm h2)]; exact h
theorem q_P_row {σ : sm_St} {n k m : Nat} {i v : Int32} (h1 : k ≠ 110) (h : q_P σ n) : q_P (r_set σ k m i v) n := by
  unfold q_P; rw [r_set_off (Ne.symm h1)]; exact h
theorem q_S_row {σ : sm_St} {n k m : Nat} {i v : Int32} (h1 : k ≠ 110) (h : q_S σ n) : q_S (r_set σ k m i v) n := by
  unfold q_S; rw [r_set_off (Ne.symm h1)]; exact h
def q_st (np nc : Nat) : Nat → Nat → sm_St → Int32 × sm_St
  | 0, i, τ => (nI i, τ)
  | n + 1, i, τ => if q_goes (q_V τ) np nc = 0 then (nI i, τ) else q_st np nc n (i + 1) (q_hour τ np nc)
def q_end40 (p : Int32 × sm_St) : Int32 × sm_St := (if 40 < p.1 then -4 else p.1, q_takes p.2 126 0)
def q_ga (np nc : Nat) : Nat → sm_St → Int32 × sm_St
  | 0, τ => (-1, τ)
  | n + 1, τ => if q_goes (q_V τ) np nc = 0 then (nI n, τ) else q_ga np nc n (sm_set τ 110 10 (nI n - 1))
def q_end0 (p : Int32 × sm_St) : Int32 × sm_St := (if p.1 < 0 then -4 else p.1, q_takes p.2 126 0)
def p_gale (σ : sm_St) (np nc : Nat) (d : Int32) : Int32 × sm_St := if sm_win d 1 4 = true then q_end0 (q_ga np nc 21 (sm_set (sm_set (q_lays σ 126 0) 110 9 d) 110 10 20)) else (-1, σ)

set_option maxHeartbeats 2000000 in
theorem l_p_stands {np nc : Nat} : ∀ (n i : Nat) (τ : sm_St), i + n = 41 → q_P τ np → q_S τ nc → sm_W RX6 cX6_stands 2 (some .int) 8 (some (.int (q_end40 (q_st np nc n i τ)).1)) (q_end40 (q_st np nc n i τ)).2 6 [(0, .ref 110), (1, .int (nI i))] [] τ := by
  intro n
  induction n with
  | zero =>
    intro i τ h1 hP hS
    refine sw_iload_n dX6_stands_6 rfl ?_
    refine sw_bipush (v := 40) dX6_stands_7 (by decide) ?_
    refine sw_icmp_gt (tgt := 30) dX6_stands_9 (by decide) (fun _ => ?_) (fun h => absurd ((by rw [show i = 41 by omega]; decide)) h)
    refine sw_aload_n dX6_stands_30 rfl ?_
    refine sw_callV dX6_stands_31 lV_X6_216 (c_q_back) rfl rfl rfl rfl (Nat.le_of_ble_eq_true rfl) (Nat.le_of_ble_eq_true rfl) ?_
    refine sw_iload_n dX6_stands_34 rfl ?_
    refine sw_bipush (v := 40) dX6_stands_35 (by decide) ?_
    refine sw_icmp_gt (tgt := 44) dX6_stands_37 (by decide) (fun _ => ?_) (fun h => absurd ((by rw [show i = 41 by omega]; decide)) h)
    refine sw_bipush (v := -4) dX6_stands_44 (by decide) ?_
    refine sw_iret dX6_stands_46 rfl rfl ?_ ?_
    all_goals (first | with_reducible rfl | (first | (rw [q_st, q_end40, show i = 41 by omega]; done) | (rw [q_st, q_end40, show i = 41 by omega, if_pos (show (40 : Int32) < nI 41 by decide)]; done)))
  | succ n ih =>
    intro i τ h1 hP hS
    have hle : ¬ (40 : Int32) < nI i := fun h => absurd ((nI_ltI (by decide) (by omega)).mp (show nI 40 < nI i from h)) (by omega)
    refine sw_iload_n dX6_stands_6 rfl ?_
    refine sw_bipush (v := 40) dX6_stands_7 (by decide) ?_
    refine sw_icmp_gt (tgt := 30) dX6_stands_9 (by decide) (fun h => absurd h (hle)) (fun _ => ?_)
    refine sw_aload_n dX6_stands_12 rfl ?_
    refine sw_callV dX6_stands_13 lV_X6_183 (c_q_goesTo hP hS) rfl rfl rfl rfl (Nat.le_of_ble_eq_true rfl) (Nat.le_of_ble_eq_true rfl) ?_
    refine sw_if_eq (tgt := 30) dX6_stands_16 (by decide) (fun h16 => ?_) (fun h16 => ?_)
    · refine sw_aload_n dX6_stands_30 rfl ?_
      refine sw_callV dX6_stands_31 lV_X6_216 (c_q_back) rfl rfl rfl rfl (Nat.le_of_ble_eq_true rfl) (Nat.le_of_ble_eq_true rfl) ?_
      refine sw_iload_n dX6_stands_34 rfl ?_
      refine sw_bipush (v := 40) dX6_stands_35 (by decide) ?_
      refine sw_icmp_gt (tgt := 44) dX6_stands_37 (by decide) (fun h => absurd h (hle)) (fun _ => ?_)
      refine sw_iload_n dX6_stands_40 rfl ?_
      refine sw_goto (tgt := 46) dX6_stands_41 (by decide) ?_
      refine sw_iret dX6_stands_46 rfl rfl ?_ ?_
      all_goals (first | with_reducible rfl | (first | (rw [q_st, if_pos h16, q_end40]; done) | (rw [q_st, if_pos h16, q_end40, if_neg hle]; done)))
    · refine sw_aload_n dX6_stands_19 rfl ?_
      refine sw_callV dX6_stands_20 lV_X6_186 (c_q_passes hP hS) rfl rfl rfl rfl (Nat.le_of_ble_eq_true rfl) (Nat.le_of_ble_eq_true rfl) ?_
      refine sw_pop dX6_stands_23 rfl ?_
      refine sw_iinc dX6_stands_24 rfl rfl (by decide) rfl ?_
      refine sw_goto (tgt := 6) dX6_stands_27 (by decide) ?_
      have e : q_st np nc (n + 1) i τ = q_st np nc n (i + 1) (q_hour τ np nc) := by rw [q_st, if_neg h16]
      rw [e]
      refine sw_lv (ih (i + 1) _ (by omega) (q_hour_P hP) (q_hour_S hS)) (And.intro rfl (And.intro (sm_e rfl ?_) trivial))
      all_goals (rw [sm_i1, nI_succ])

set_option maxHeartbeats 2000000 in
theorem c_p_stands {σ : sm_St} {np : Nat} (hN : q_N σ np) {nc : Nat} (hC : q_C σ nc) (h0 : q_0 σ)  : sm_C yX6_stands cX6_stands 2 (some .int) 8 [.ref 110] σ (some (.int ((q_end40 (q_st np nc 41 0 (q_lays σ 126 0))).1))) (q_end40 (q_st np nc 41 0 (q_lays σ 126 0))).2 := by
  refine sm_C.of (own := RX6) (by decide) rfl (Nat.le_of_ble_eq_true rfl) ?_
  have hP := q_P_of hN h0
  have hS := q_S_of hC h0
  show sm_W RX6 cX6_stands 2 (some .int) 8 (some (.int ((q_end40 (q_st np nc 41 0 (q_lays σ 126 0))).1))) (q_end40 (q_st np nc 41 0 (q_lays σ 126 0))).2 0 [(0, .ref 110)] [] σ
  refine sw_aload_n dX6_stands_0 rfl ?_
  refine sw_callV dX6_stands_1 lV_X6_209 (c_q_puts) rfl rfl rfl rfl (Nat.le_of_ble_eq_true rfl) (Nat.le_of_ble_eq_true rfl) ?_
  refine sw_iconst (v := 0) dX6_stands_4 (by decide) ?_
  refine sw_istore_n dX6_stands_5 (by decide) rfl ?_
  refine sw_lv (l_p_stands 41 0 _ (by omega) (q_lays_P (by decide) hP) (q_lays_S (by decide) hS)) (And.intro rfl (And.intro rfl trivial))

set_option maxHeartbeats 2000000 in
theorem l_p_gale {np nc : Nat} {d : Int32} : ∀ (n : Nat) (τ : sm_St), n < 100 → q_P τ np → q_S τ nc → sm_W RX6 cX6_gale 3 (some .int) 8 (some (.int (q_end0 (q_ga np nc n τ)).1)) (q_end0 (q_ga np nc n τ)).2 28 [(0, .ref 110), (1, .int d), (2, .int (nI n - 1))] [] τ := by
  intro n
  induction n with
  | zero =>
    intro τ h1 hP hS
    refine sw_iload_n dX6_gale_28 rfl ?_
    refine sw_if_lt (tgt := 50) dX6_gale_29 (by decide) (fun _ => ?_) (fun h => absurd ((by decide)) h)
    refine sw_aload_n dX6_gale_50 rfl ?_
    refine sw_callV dX6_gale_51 lV_X6_216 (c_q_back) rfl rfl rfl rfl (Nat.le_of_ble_eq_true rfl) (Nat.le_of_ble_eq_true rfl) ?_
    refine sw_iload_n dX6_gale_54 rfl ?_
    refine sw_if_lt (tgt := 62) dX6_gale_55 (by decide) (fun _ => ?_) (fun h => absurd ((by decide)) h)
    refine sw_bipush (v := -4) dX6_gale_62 (by decide) ?_
    refine sw_iret dX6_gale_64 rfl rfl ?_ ?_
    all_goals (first | with_reducible rfl | (first | (rw [q_ga, q_end0]; done) | (rw [q_ga, q_end0, if_pos (show (-1 : Int32) < 0 by decide)]; done)))
  | succ n ih =>
    intro τ h1 hP hS
    have hle : ¬ nI n < 0 := nI_pos (by omega)
    refine sw_lv (lv' := [(0, .ref 110), (1, .int d), (2, .int (nI n))]) ?_ (And.intro rfl (And.intro rfl (And.intro (sm_e rfl (nI_pred n)) trivial)))
    refine sw_iload_n dX6_gale_28 rfl ?_
    refine sw_if_lt (tgt := 50) dX6_gale_29 (by decide) (fun h => absurd h (hle)) (fun _ => ?_)
    refine sw_aload_n dX6_gale_32 rfl ?_
    refine sw_callV dX6_gale_33 lV_X6_183 (c_q_goesTo hP hS) rfl rfl rfl rfl (Nat.le_of_ble_eq_true rfl) (Nat.le_of_ble_eq_true rfl) ?_
    refine sw_if_eq (tgt := 50) dX6_gale_36 (by decide) (fun h36 => ?_) (fun h36 => ?_)
    · refine sw_aload_n dX6_gale_50 rfl ?_
      refine sw_callV dX6_gale_51 lV_X6_216 (c_q_back) rfl rfl rfl rfl (Nat.le_of_ble_eq_true rfl) (Nat.le_of_ble_eq_true rfl) ?_
      refine sw_iload_n dX6_gale_54 rfl ?_
      refine sw_if_lt (tgt := 62) dX6_gale_55 (by decide) (fun h => absurd h (hle)) (fun _ => ?_)
      refine sw_iload_n dX6_gale_58 rfl ?_
      refine sw_goto (tgt := 64) dX6_gale_59 (by decide) ?_
      refine sw_iret dX6_gale_64 rfl rfl ?_ ?_
      all_goals (first | with_reducible rfl | (first | (rw [q_ga, if_pos h36, q_end0]; done) | (rw [q_ga, if_pos h36, q_end0, if_neg hle]; done)))
    · refine sw_iinc dX6_gale_39 rfl rfl (by decide) rfl ?_
      refine sw_aload_n dX6_gale_42 rfl ?_
      refine sw_iload_n dX6_gale_43 rfl ?_
      refine sw_put dX6_gale_44 fl_X6_74 fi_5_10 rfl rfl ?_
      refine sw_goto (tgt := 28) dX6_gale_47 (by decide) ?_
      have e : q_ga np nc (n + 1) τ = q_ga np nc n (sm_set τ 110 10 (nI n - 1)) := by rw [q_ga, if_neg h36]
      rw [e]
      refine sw_st (σ2 := sm_set τ 110 10 (nI n - 1)) (by rw [sm_im1, Int32.sub_eq_add_neg]) ?_
      refine sw_lv (ih _ (by omega) (q_P_set (by decide) (by decide) hP) (q_S_set (by decide) (by decide) hS)) (And.intro rfl (And.intro rfl (And.intro (sm_e rfl ?_) trivial)))
      all_goals (rw [sm_im1, Int32.sub_eq_add_neg])

set_option maxHeartbeats 2000000 in
theorem c_p_gale {σ : sm_St} {np : Nat} (hN : q_N σ np) {nc : Nat} (hC : q_C σ nc) (h0 : q_0 σ) (d : Int32) : sm_C yX6_gale cX6_gale 3 (some .int) 8 [.ref 110, .int d] σ (some (.int ((p_gale σ np nc d).1))) (p_gale σ np nc d).2 := by
  refine sm_C.of (own := RX6) (by decide) rfl (Nat.le_of_ble_eq_true rfl) ?_
  have hP := q_P_of hN h0
  have hS := q_S_of hC h0
  show sm_W RX6 cX6_gale 3 (some .int) 8 (some (.int ((p_gale σ np nc d).1))) (p_gale σ np nc d).2 0 [(0, .ref 110), (1, .int d)] [] σ
  refine sw_iload_n dX6_gale_0 rfl ?_
  refine sw_iconst (v := 1) dX6_gale_1 (by decide) ?_
  refine sw_iconst (v := 4) dX6_gale_2 (by decide) ?_
  refine sw_callS dX6_gale_3 lS_X6_94 (c_q_in _ _ _) rfl rfl (Nat.le_of_ble_eq_true rfl) (Nat.le_of_ble_eq_true rfl) ?_
  refine sw_if_ne (tgt := 11) dX6_gale_6 (by decide) (fun h6 => ?_) (fun h6 => ?_)
  · refine sw_aload_n dX6_gale_11 rfl ?_
    refine sw_callV dX6_gale_12 lV_X6_209 (c_q_puts) rfl rfl rfl rfl (Nat.le_of_ble_eq_true rfl) (Nat.le_of_ble_eq_true rfl) ?_
    refine sw_aload_n dX6_gale_15 rfl ?_
    refine sw_iload_n dX6_gale_16 rfl ?_
    refine sw_put dX6_gale_17 fl_X6_71 fi_5_9 rfl rfl ?_
    refine sw_bipush (v := 20) dX6_gale_20 (by decide) ?_
    refine sw_istore_n dX6_gale_22 (by decide) rfl ?_
    refine sw_aload_n dX6_gale_23 rfl ?_
    refine sw_iload_n dX6_gale_24 rfl ?_
    refine sw_put dX6_gale_25 fl_X6_74 fi_5_10 rfl rfl ?_
    have e : p_gale σ np nc d = q_end0 (q_ga np nc 21 (sm_set (sm_set (q_lays σ 126 0) 110 9 d) 110 10 20)) := by simp_all [p_gale, sm_b_e0]
    rw [e]
    refine sw_lv (l_p_gale 21 _ (by decide) (q_P_set (by decide) (by decide) (q_P_set (by decide) (by decide) (q_lays_P (by decide) hP))) (q_S_set (by decide) (by decide) (q_S_set (by decide) (by decide) (q_lays_S (by decide) hS)))) (And.intro rfl (And.intro rfl (And.intro (sm_e rfl ?_) trivial)))
    all_goals (rfl)
  · refine sw_iconst (v := -1) dX6_gale_9 (by decide) ?_
    refine sw_iret dX6_gale_10 rfl rfl ?_ ?_
    all_goals (first | with_reducible rfl | (simp_all [-Int32.not_lt, -Int32.not_le, sm_b_e0, sm_b_e1, sm_b_0e, sm_b_1e, p_gale]))

def q_so1 (i : Nat) (τ : sm_St) : sm_St := sm_set (sm_set τ 110 7 (r_at (τ 118) 6 (nI i))) 110 8 (r_at (τ 119) 6 (nI i))
def q_so (np nc : Nat) : Nat → Nat → Bool → sm_St → Bool × sm_St
  | 0, _, b, τ => (b, τ)
  | n + 1, i, b, τ => q_so np nc n (i + 1) (b && decide (q_goes (q_V (q_so1 i τ)) np nc = r_at (τ 120) 6 (nI i))) (q_so1 i τ)
def q_endso (x y : Int32) (p : Bool × sm_St) : Int32 × sm_St := (sm_b (p.1 = true), sm_set (sm_set p.2 110 7 x) 110 8 y)
abbrev q_Z (σ : sm_St) (z : Nat) : Prop := σ 110 15 = nI z ∧ z ≤ 6
theorem q_so1_o {i j : Nat} {τ : sm_St} (h1 : j ≠ 7) (h2 : j ≠ 8) : q_so1 i τ 110 j = τ 110 j := by unfold q_so1; rw [sm_set_ne h2, sm_set_ne h1]
theorem q_so1_off {i q : Nat} {τ : sm_St} (h1 : q ≠ 110) : q_so1 i τ q = τ q := by unfold q_so1; rw [sm_set_off h1, sm_set_off h1]
def p_isSo (σ : sm_St) (np nc z : Nat) : Int32 × sm_St := q_endso (σ 110 7) (σ 110 8) (q_so np nc z 0 true σ)

theorem q_so1_P {i n : Nat} {τ : sm_St} (h : q_P τ n) : q_P (q_so1 i τ) n := by unfold q_P; rw [q_so1_o (by decide) (by decide), q_so1_o (by decide) (by decide)]; exact h
theorem q_so1_S {i n : Nat} {τ : sm_St} (h : q_S τ n) : q_S (q_so1 i τ) n := by unfold q_S; rw [q_so1_o (by decide) (by decide), q_so1_o (by decide) (by decide)]; exact h

set_option maxHeartbeats 2000000 in
theorem l_p_isSo {np nc z : Nat} {x y : Int32} : ∀ (n i : Nat) (b : Bool) (τ : sm_St), i + n = z → q_Z τ z → q_P τ np → q_S τ nc → sm_W RX6 cX6_isSo 5 (some .boolean) 7 (some (.int (q_endso x y (q_so np nc n i b τ)).1)) (q_endso x y (q_so np nc n i b τ)).2 15 [(0, .ref 110), (1, .int x), (2, .int y), (3, .int (sm_b (b = true))), (4, .int (nI i))] [] τ := by
  intro n
  induction n with
  | zero =>
    intro i b τ h1 hZ hP hS
    refine sw_iload dX6_isSo_15 rfl ?_
    refine sw_aload_n dX6_isSo_17 rfl ?_
    refine sw_getI dX6_isSo_18 fl_X6_140 rfl rfl ?_
    refine sw_icmp_ge (tgt := 76) dX6_isSo_21 (by decide) (fun _ => ?_) (fun h => absurd ((by rw [hZ.1]; exact nI_le (by omega) (by have := hZ.2; omega))) h)
    refine sw_aload_n dX6_isSo_76 rfl ?_
    refine sw_iload_n dX6_isSo_77 rfl ?_
    refine sw_put dX6_isSo_78 fl_X6_61 fi_5_7 rfl rfl ?_
    refine sw_aload_n dX6_isSo_81 rfl ?_
    refine sw_iload_n dX6_isSo_82 rfl ?_
    refine sw_put dX6_isSo_83 fl_X6_65 fi_5_8 rfl rfl ?_
    refine sw_iload_n dX6_isSo_86 rfl ?_
    refine sw_zret dX6_isSo_87 rfl rfl ?_ (sm_b01 _) ?_
    all_goals (first | with_reducible rfl | (rfl))
  | succ n ih =>
    intro i b τ h1 hZ hP hS
    have hlt : i < 6 := by have := hZ.2; omega
    refine sw_iload dX6_isSo_15 rfl ?_
    refine sw_aload_n dX6_isSo_17 rfl ?_
    refine sw_getI dX6_isSo_18 fl_X6_140 rfl rfl ?_
    refine sw_icmp_ge (tgt := 76) dX6_isSo_21 (by decide) (fun h => absurd h ((fun h => absurd ((nI_leI (by omega) (by omega)).mp (hZ.1 ▸ h)) (by omega)))) (fun _ => ?_)
    refine sw_aload_n dX6_isSo_24 rfl ?_
    refine sw_aload_n dX6_isSo_25 rfl ?_
    refine sw_getR (j := 118) dX6_isSo_26 fl_X6_31 rfl rfl ?_
    refine sw_iload dX6_isSo_29 rfl ?_
    refine sw_ialdR dX6_isSo_31 rfl (vp_in_nI hlt (by decide)) ?_
    refine sw_put dX6_isSo_32 fl_X6_61 fi_5_7 rfl rfl ?_
    refine sw_aload_n dX6_isSo_35 rfl ?_
    refine sw_aload_n dX6_isSo_36 rfl ?_
    refine sw_getR (j := 119) dX6_isSo_37 fl_X6_34 rfl rfl ?_
    refine sw_iload dX6_isSo_40 rfl ?_
    refine sw_ialdR dX6_isSo_42 rfl (vp_in_nI hlt (by decide)) ?_
    refine sw_top (y := r_at (τ 119) 6 (nI i)) (by rw [sm_set_off (by decide)]) ?_
    refine sw_put dX6_isSo_43 fl_X6_65 fi_5_8 rfl rfl ?_
    refine sw_st (σ2 := q_so1 i τ) rfl ?_
    refine sw_iload_n dX6_isSo_46 rfl ?_
    refine sw_if_eq (tgt := 68) dX6_isSo_47 (by decide) (fun h47 => ?_) (fun h47 => ?_)
    · refine sw_iconst (v := 0) dX6_isSo_68 (by decide) ?_
      refine sw_istore_n dX6_isSo_69 (by decide) rfl ?_
      refine sw_iinc dX6_isSo_70 rfl rfl (by decide) rfl ?_
      refine sw_goto (tgt := 15) dX6_isSo_73 (by decide) ?_
      rw [q_so]
      refine sw_lv (ih (i + 1) _ _ (by omega) (by unfold q_Z; rw [q_so1_o (by decide) (by decide)]; exact hZ) (q_so1_P hP) (q_so1_S hS)) (And.intro rfl (And.intro rfl (And.intro rfl (And.intro (sm_e rfl ?_) (And.intro (sm_e rfl ?_) trivial)))))
      all_goals (first | (rw [sm_i1, nI_succ]; done) | (simp_all [sm_b]; done))
    · refine sw_aload_n dX6_isSo_50 rfl ?_
      refine sw_callV dX6_isSo_51 lV_X6_183 (c_q_goesTo (q_so1_P hP) (q_so1_S hS)) rfl rfl rfl rfl (Nat.le_of_ble_eq_true rfl) (Nat.le_of_ble_eq_true rfl) ?_
      refine sw_aload_n dX6_isSo_54 rfl ?_
      refine sw_getR (j := 120) dX6_isSo_55 fl_X6_37 rfl rfl ?_
      refine sw_iload dX6_isSo_58 rfl ?_
      refine sw_ialdR dX6_isSo_60 rfl (vp_in_nI hlt (by decide)) ?_
      refine sw_top (y := r_at (τ 120) 6 (nI i)) (by rw [q_so1_off (by decide)]) ?_
      refine sw_icmp_ne (tgt := 68) dX6_isSo_61 (by decide) (fun h61 => ?_) (fun h61 => ?_)
      · refine sw_iconst (v := 0) dX6_isSo_68 (by decide) ?_
        refine sw_istore_n dX6_isSo_69 (by decide) rfl ?_
        refine sw_iinc dX6_isSo_70 rfl rfl (by decide) rfl ?_
        refine sw_goto (tgt := 15) dX6_isSo_73 (by decide) ?_
        rw [q_so]
        refine sw_lv (ih (i + 1) _ _ (by omega) (by unfold q_Z; rw [q_so1_o (by decide) (by decide)]; exact hZ) (q_so1_P hP) (q_so1_S hS)) (And.intro rfl (And.intro rfl (And.intro rfl (And.intro (sm_e rfl ?_) (And.intro (sm_e rfl ?_) trivial)))))
        all_goals (first | (rw [sm_i1, nI_succ]; done) | (simp_all [sm_b]; done))
      · refine sw_iconst (v := 1) dX6_isSo_64 (by decide) ?_
        refine sw_goto (tgt := 69) dX6_isSo_65 (by decide) ?_
        refine sw_istore_n dX6_isSo_69 (by decide) rfl ?_
        refine sw_iinc dX6_isSo_70 rfl rfl (by decide) rfl ?_
        refine sw_goto (tgt := 15) dX6_isSo_73 (by decide) ?_
        rw [q_so]
        refine sw_lv (ih (i + 1) _ _ (by omega) (by unfold q_Z; rw [q_so1_o (by decide) (by decide)]; exact hZ) (q_so1_P hP) (q_so1_S hS)) (And.intro rfl (And.intro rfl (And.intro rfl (And.intro (sm_e rfl ?_) (And.intro (sm_e rfl ?_) trivial)))))
        all_goals (first | (rw [sm_i1, nI_succ]; done) | (simp_all [sm_b]; done))

set_option maxHeartbeats 2000000 in
theorem c_p_isSo {σ : sm_St} {np nc z : Nat} (hZ : q_Z σ z) (hP : q_P σ np) (hS : q_S σ nc) : sm_C yX6_isSo cX6_isSo 5 (some .boolean) 7 [.ref 110] σ (some (.int ((p_isSo σ np nc z).1))) (p_isSo σ np nc z).2 := by
  refine sm_C.of (own := RX6) (by decide) rfl (Nat.le_of_ble_eq_true rfl) ?_
  show sm_W RX6 cX6_isSo 5 (some .boolean) 7 (some (.int ((p_isSo σ np nc z).1))) (p_isSo σ np nc z).2 0 [(0, .ref 110)] [] σ
  refine sw_aload_n dX6_isSo_0 rfl ?_
  refine sw_getI dX6_isSo_1 fl_X6_61 rfl rfl ?_
  refine sw_istore_n dX6_isSo_4 (by decide) rfl ?_
  refine sw_aload_n dX6_isSo_5 rfl ?_
  refine sw_getI dX6_isSo_6 fl_X6_65 rfl rfl ?_
  refine sw_istore_n dX6_isSo_9 (by decide) rfl ?_
  refine sw_iconst (v := 1) dX6_isSo_10 (by decide) ?_
  refine sw_istore_n dX6_isSo_11 (by decide) rfl ?_
  refine sw_iconst (v := 0) dX6_isSo_12 (by decide) ?_
  refine sw_istore dX6_isSo_13 (by decide) rfl ?_
  unfold p_isSo
  refine sw_lv (l_p_isSo z 0 true σ (by omega) hZ hP hS) (And.intro rfl (And.intro rfl (And.intro rfl (And.intro (sm_e rfl ?_) (And.intro rfl trivial)))))
  all_goals (rfl)

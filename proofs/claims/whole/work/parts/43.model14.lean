theorem q_takes_o {σ : sm_St} {a p j : Nat} (h : j < 6 ∨ 10 < j) : q_takes σ a p 110 j = σ 110 j := by
  unfold q_takes q_takeI
  rw [if_pos rfl]
  show (if j = 6 then _ else if j = 7 then _ else if j = 8 then _ else if j = 9 then _ else if j = 10 then _ else σ 110 j) = σ 110 j
  rw [if_neg (by omega), if_neg (by omega), if_neg (by omega), if_neg (by omega), if_neg (by omega)]
theorem q_takes_off {σ : sm_St} {a p q : Nat} (h : q ≠ 110) (h2 : q < 114 ∨ 117 < q) : q_takes σ a p q = σ q := q_takeI_off h h2
theorem q_hours_o {np nc j : Nat} (h : j < 6 ∨ 8 < j) : ∀ (n : Nat) (σ : sm_St), q_hours np nc n σ 110 j = σ 110 j
  | 0, _ => rfl
  | n + 1, σ => by
    show q_hours np nc n (q_hour σ np nc) 110 j = σ 110 j
    rw [q_hours_o h n, q_hour_o (by omega) (by omega) (by omega)]
theorem q_hours_off {np nc q : Nat} (h : q ≠ 110) : ∀ (n : Nat) (σ : sm_St), q_hours np nc n σ q = σ q
  | 0, _ => rfl
  | n + 1, σ => by
    show q_hours np nc n (q_hour σ np nc) q = σ q
    rw [q_hours_off h n, q_hour_off h]
theorem q_gone_off {s : Int32} {q : Nat} (h : q ≠ 117) : ∀ (n i : Nat) (τ : sm_St), q_gone s n i τ q = τ q
  | 0, _, _ => rfl
  | n + 1, i, τ => by
    show q_gone s n (i + 1) (r_set τ 117 6 (nI i) _) q = τ q
    rw [q_gone_off h n, r_set_off h]
theorem p_endBy_o {σ : sm_St} {np nc j : Nat} {s : Int32} (h : j < 6 ∨ 10 < j) : (p_endBy σ np nc s).2 110 j = σ 110 j := by
  show q_takes (q_hours np nc _ (q_gone s np 0 (q_lays σ 126 0))) 126 0 110 j = σ 110 j
  rw [q_takes_o h, q_hours_o (by omega), q_gone_off (by decide), q_lays_off (by decide)]
def q_all (τ : sm_St) : Nat → Int32
  | 0 => 0
  | p + 1 => q_all τ p ||| (if r_at (τ 117) 6 (nI p) = 0 then (1 : Int32) <<< (nI p &&& 31) else 0)
theorem q_or : ∀ p, p < 5 → ∀ m, m < 32 → m < 2 ^ p → nI m ||| ((1 : Int32) <<< (nI p &&& 31)) = nI (m + 2 ^ p) := by decide +kernel
theorem q_all_nI (τ : sm_St) : ∀ p, p ≤ 5 → ∃ m, m < 2 ^ p ∧ q_all τ p = nI m
  | 0, _ => ⟨0, by decide, rfl⟩
  | p + 1, h => by
    obtain ⟨m, h1, h2⟩ := q_all_nI τ p (by omega)
    have h3 : 2 ^ p ≤ 2 ^ 4 := Nat.pow_le_pow_right (by decide) (by omega)
    unfold q_all
    split
    · refine ⟨m + 2 ^ p, by rw [Nat.pow_succ]; omega, ?_⟩
      rw [h2, q_or p (by omega) m (by omega) h1]
    · refine ⟨m, by rw [Nat.pow_succ]; omega, ?_⟩
      rw [h2, Int32.or_zero]
def q_kp (np nc : Nat) (all e : Int32) : Nat → Int32 → sm_St → Int32 × sm_St
  | 0, b, τ => (b, τ)
  | n + 1, b, τ => if nI n &&& (all ^^^ (-1)) = 0 ∧ ¬ q_bits b 7 < q_bits (nI n) 7 then q_kp np nc all e n (if (p_endBy τ np nc (nI n)).1 = e then nI n else b) (p_endBy τ np nc (nI n)).2 else q_kp np nc all e n b τ
def q_endk (w : Int32) (p : Int32 × sm_St) : Int32 × sm_St := (if w = 0 then q_bits p.1 7 else p.1, p.2)
def p_keeps (σ : sm_St) (np nc : Nat) (w : Int32) : Int32 × sm_St := if sm_win w 0 1 = true then q_endk w (q_kp np nc (q_all σ np) (p_endBy σ np nc (q_all σ np)).1 ((q_all σ np).toNatClampNeg + 1) (q_all σ np) (p_endBy σ np nc (q_all σ np)).2) else (-1, σ)

set_option maxHeartbeats 2000000 in
theorem l_p_keeps {np nc : Nat} {w a e : Int32} : ∀ (n : Nat) (b : Int32) (τ : sm_St), n < 100 → q_N τ np → q_P τ np → q_S τ nc → sm_W RX6 cX6_keeps 7 (some .int) 10 (some (.int (q_endk w (q_kp np nc a e n b τ)).1)) (q_endk w (q_kp np nc a e n b τ)).2 60 [(0, .ref 110), (1, .int w), (2, .int a), (3, .int e), (4, .int b), (5, .int (nI n - 1))] [] τ := by
  intro n
  induction n with
  | zero =>
    intro b τ h1 hN hP hS
    refine sw_iload dX6_keeps_60 rfl ?_
    refine sw_if_lt (tgt := 124) dX6_keeps_62 (by decide) (fun _ => ?_) (fun h => absurd ((by decide)) h)
    refine sw_iload_n dX6_keeps_124 rfl ?_
    refine sw_if_ne (tgt := 136) dX6_keeps_125 (by decide) (fun h125 => ?_) (fun h125 => ?_)
    · refine sw_iload dX6_keeps_136 rfl ?_
      refine sw_iret dX6_keeps_138 rfl rfl ?_ ?_
      all_goals (first | with_reducible rfl | (simp_all [q_endk, q_kp]))
    · refine sw_iload dX6_keeps_128 rfl ?_
      refine sw_callS dX6_keeps_130 lS_X6_225 (c_q_bits _) rfl rfl (Nat.le_of_ble_eq_true rfl) (Nat.le_of_ble_eq_true rfl) ?_
      refine sw_goto (tgt := 138) dX6_keeps_133 (by decide) ?_
      refine sw_iret dX6_keeps_138 rfl rfl ?_ ?_
      all_goals (first | with_reducible rfl | (simp_all [q_endk, q_kp]))
  | succ n ih =>
    intro b τ h1 hN hP hS
    have hle : ¬ nI n < 0 := nI_pos (by omega)
    refine sw_lv (lv' := [(0, .ref 110), (1, .int w), (2, .int a), (3, .int e), (4, .int b), (5, .int (nI n))]) ?_ (And.intro rfl (And.intro rfl (And.intro rfl (And.intro rfl (And.intro rfl (And.intro (sm_e rfl (nI_pred n)) trivial))))))
    refine sw_iload dX6_keeps_60 rfl ?_
    refine sw_if_lt (tgt := 124) dX6_keeps_62 (by decide) (fun h => absurd h (hle)) (fun _ => ?_)
    refine sw_iload dX6_keeps_65 rfl ?_
    refine sw_iload_n dX6_keeps_67 rfl ?_
    refine sw_iconst (v := -1) dX6_keeps_68 (by decide) ?_
    refine sw_ixor dX6_keeps_69 ?_
    refine sw_iand dX6_keeps_70 ?_
    refine sw_if_ne (tgt := 91) dX6_keeps_71 (by decide) (fun h71 => ?_) (fun h71 => ?_)
    · refine sw_iconst (v := 0) dX6_keeps_91 (by decide) ?_
      refine sw_istore dX6_keeps_92 (by decide) rfl ?_
      refine sw_iload dX6_keeps_94 rfl ?_
      refine sw_if_eq (tgt := 114) dX6_keeps_96 (by decide) (fun _ => ?_) (fun h => absurd (by decide) h)
      refine sw_iload dX6_keeps_114 rfl ?_
      refine sw_istore dX6_keeps_116 (by decide) rfl ?_
      refine sw_iinc dX6_keeps_118 rfl rfl (by decide) rfl ?_
      refine sw_goto (tgt := 60) dX6_keeps_121 (by decide) ?_
      rw [q_kp, if_neg (fun hh => h71 hh.1)]
      refine sw_lv (ih _ _ (by omega) hN hP hS) (And.intro rfl (And.intro rfl (And.intro rfl (And.intro rfl (And.intro rfl (And.intro (sm_e rfl ?_) trivial))))))
      all_goals (rw [sm_im1, Int32.sub_eq_add_neg])
    · refine sw_iload dX6_keeps_74 rfl ?_
      refine sw_callS dX6_keeps_76 lS_X6_225 (c_q_bits _) rfl rfl (Nat.le_of_ble_eq_true rfl) (Nat.le_of_ble_eq_true rfl) ?_
      refine sw_iload dX6_keeps_79 rfl ?_
      refine sw_callS dX6_keeps_81 lS_X6_225 (c_q_bits _) rfl rfl (Nat.le_of_ble_eq_true rfl) (Nat.le_of_ble_eq_true rfl) ?_
      refine sw_icmp_gt (tgt := 91) dX6_keeps_84 (by decide) (fun h84 => ?_) (fun h84 => ?_)
      · refine sw_iconst (v := 0) dX6_keeps_91 (by decide) ?_
        refine sw_istore dX6_keeps_92 (by decide) rfl ?_
        refine sw_iload dX6_keeps_94 rfl ?_
        refine sw_if_eq (tgt := 114) dX6_keeps_96 (by decide) (fun _ => ?_) (fun h => absurd (by decide) h)
        refine sw_iload dX6_keeps_114 rfl ?_
        refine sw_istore dX6_keeps_116 (by decide) rfl ?_
        refine sw_iinc dX6_keeps_118 rfl rfl (by decide) rfl ?_
        refine sw_goto (tgt := 60) dX6_keeps_121 (by decide) ?_
        rw [q_kp, if_neg (fun hh => hh.2 h84)]
        refine sw_lv (ih _ _ (by omega) hN hP hS) (And.intro rfl (And.intro rfl (And.intro rfl (And.intro rfl (And.intro rfl (And.intro (sm_e rfl ?_) trivial))))))
        all_goals (rw [sm_im1, Int32.sub_eq_add_neg])
      · refine sw_iconst (v := 1) dX6_keeps_87 (by decide) ?_
        refine sw_goto (tgt := 92) dX6_keeps_88 (by decide) ?_
        refine sw_istore dX6_keeps_92 (by decide) rfl ?_
        refine sw_iload dX6_keeps_94 rfl ?_
        refine sw_if_eq (tgt := 114) dX6_keeps_96 (by decide) (fun h => absurd h (by decide)) (fun _ => ?_)
        refine sw_aload_n dX6_keeps_99 rfl ?_
        refine sw_iload dX6_keeps_100 rfl ?_
        refine sw_callV dX6_keeps_102 lV_X6_222 (c_p_endBy hN hP hS _) rfl rfl rfl rfl (Nat.le_of_ble_eq_true rfl) (Nat.le_of_ble_eq_true rfl) ?_
        refine sw_iload_n dX6_keeps_105 rfl ?_
        refine sw_icmp_ne (tgt := 114) dX6_keeps_106 (by decide) (fun h106 => ?_) (fun h106 => ?_)
        · refine sw_iload dX6_keeps_114 rfl ?_
          refine sw_istore dX6_keeps_116 (by decide) rfl ?_
          refine sw_iinc dX6_keeps_118 rfl rfl (by decide) rfl ?_
          refine sw_goto (tgt := 60) dX6_keeps_121 (by decide) ?_
          have hN2 : q_N (p_endBy τ np nc (nI n)).2 np := ⟨by rw [p_endBy_o (by decide)]; exact hN.1, hN.2⟩
          have hP2 : q_P (p_endBy τ np nc (nI n)).2 np := ⟨by rw [p_endBy_o (by decide), p_endBy_o (by decide)]; exact hP.1, hP.2⟩
          have hS2 : q_S (p_endBy τ np nc (nI n)).2 nc := ⟨by rw [p_endBy_o (by decide), p_endBy_o (by decide)]; exact hS.1, hS.2⟩
          rw [q_kp, if_pos ⟨h71, h84⟩, if_neg h106]
          refine sw_lv (ih _ _ (by omega) hN2 hP2 hS2) (And.intro rfl (And.intro rfl (And.intro rfl (And.intro rfl (And.intro rfl (And.intro (sm_e rfl ?_) trivial))))))
          all_goals (rw [sm_im1, Int32.sub_eq_add_neg])
        · refine sw_iload dX6_keeps_109 rfl ?_
          refine sw_goto (tgt := 116) dX6_keeps_111 (by decide) ?_
          refine sw_istore dX6_keeps_116 (by decide) rfl ?_
          refine sw_iinc dX6_keeps_118 rfl rfl (by decide) rfl ?_
          refine sw_goto (tgt := 60) dX6_keeps_121 (by decide) ?_
          have hN2 : q_N (p_endBy τ np nc (nI n)).2 np := ⟨by rw [p_endBy_o (by decide)]; exact hN.1, hN.2⟩
          have hP2 : q_P (p_endBy τ np nc (nI n)).2 np := ⟨by rw [p_endBy_o (by decide), p_endBy_o (by decide)]; exact hP.1, hP.2⟩
          have hS2 : q_S (p_endBy τ np nc (nI n)).2 nc := ⟨by rw [p_endBy_o (by decide), p_endBy_o (by decide)]; exact hS.1, hS.2⟩
          rw [q_kp, if_pos ⟨h71, h84⟩, if_pos h106]
          refine sw_lv (ih _ _ (by omega) hN2 hP2 hS2) (And.intro rfl (And.intro rfl (And.intro rfl (And.intro rfl (And.intro rfl (And.intro (sm_e rfl ?_) trivial))))))
          all_goals (rw [sm_im1, Int32.sub_eq_add_neg])

set_option maxHeartbeats 2000000 in
theorem l_p_all {σ : sm_St} {np : Nat} (hN : q_N σ np) {w : Int32} {r : Option Value} {σ' : sm_St} (k : sm_W RX6 cX6_keeps 7 (some .int) 10 r σ' 48 [(0, .ref 110), (1, .int w), (2, .int (q_all σ np))] [] σ) : ∀ (n i : Nat), i + n = np → sm_W RX6 cX6_keeps 7 (some .int) 10 r σ' 15 [(0, .ref 110), (1, .int w), (2, .int (q_all σ i)), (3, .int (nI i))] [] σ := by
  have hn5 := hN.2
  intro n
  induction n with
  | zero =>
    intro i h1
    refine sw_iload_n dX6_keeps_15 rfl ?_
    refine sw_aload_n dX6_keeps_16 rfl ?_
    refine sw_getI dX6_keeps_17 fl_X6_84 rfl rfl ?_
    refine sw_icmp_ge (tgt := 48) dX6_keeps_20 (by decide) (fun _ => ?_) (fun h => absurd ((by rw [hN.1]; exact nI_le (by omega) (by omega))) h)
    rw [show np = i by omega] at k
    refine sw_lv (k) (And.intro rfl (And.intro rfl (And.intro rfl trivial)))
  | succ n ih =>
    intro i h1
    refine sw_iload_n dX6_keeps_15 rfl ?_
    refine sw_aload_n dX6_keeps_16 rfl ?_
    refine sw_getI dX6_keeps_17 fl_X6_84 rfl rfl ?_
    refine sw_icmp_ge (tgt := 48) dX6_keeps_20 (by decide) (fun h => absurd h ((fun h => absurd ((nI_leI (by omega) (by omega)).mp (hN.1 ▸ h)) (by omega)))) (fun _ => ?_)
    refine sw_iload_n dX6_keeps_23 rfl ?_
    refine sw_aload_n dX6_keeps_24 rfl ?_
    refine sw_getR (j := 117) dX6_keeps_25 fl_X6_28 rfl rfl ?_
    refine sw_iload_n dX6_keeps_28 rfl ?_
    refine sw_ialdR dX6_keeps_29 rfl (vp_in_nI (by omega) (by decide)) ?_
    refine sw_if_ne (tgt := 39) dX6_keeps_30 (by decide) (fun h30 => ?_) (fun h30 => ?_)
    · refine sw_iconst (v := 0) dX6_keeps_39 (by decide) ?_
      refine sw_ior dX6_keeps_40 ?_
      refine sw_istore_n dX6_keeps_41 (by decide) rfl ?_
      refine sw_iinc dX6_keeps_42 rfl rfl (by decide) rfl ?_
      refine sw_goto (tgt := 15) dX6_keeps_45 (by decide) ?_
      refine sw_lv (ih (i + 1) (by omega)) (And.intro rfl (And.intro rfl (And.intro (sm_e rfl ?_) (And.intro (sm_e rfl ?_) trivial))))
      all_goals (first | (rw [sm_i1, nI_succ]; done) | (rw [q_all, if_neg h30]; done))
    · refine sw_iconst (v := 1) dX6_keeps_33 (by decide) ?_
      refine sw_iload_n dX6_keeps_34 rfl ?_
      refine sw_ishl dX6_keeps_35 ?_
      refine sw_goto (tgt := 40) dX6_keeps_36 (by decide) ?_
      refine sw_ior dX6_keeps_40 ?_
      refine sw_istore_n dX6_keeps_41 (by decide) rfl ?_
      refine sw_iinc dX6_keeps_42 rfl rfl (by decide) rfl ?_
      refine sw_goto (tgt := 15) dX6_keeps_45 (by decide) ?_
      refine sw_lv (ih (i + 1) (by omega)) (And.intro rfl (And.intro rfl (And.intro (sm_e rfl ?_) (And.intro (sm_e rfl ?_) trivial))))
      all_goals (first | (rw [sm_i1, nI_succ]; done) | (rw [q_all, if_pos h30]; done))

set_option maxHeartbeats 2000000 in
theorem c_p_keeps {σ : sm_St} {np : Nat} (hN : q_N σ np) {nc : Nat} (hC : q_C σ nc) (h0 : q_0 σ) (w : Int32) : sm_C yX6_keeps cX6_keeps 7 (some .int) 10 [.ref 110, .int w] σ (some (.int ((p_keeps σ np nc w).1))) (p_keeps σ np nc w).2 := by
  refine sm_C.of (own := RX6) (by decide) rfl (Nat.le_of_ble_eq_true rfl) ?_
  have hP := q_P_of hN h0
  have hS := q_S_of hC h0
  show sm_W RX6 cX6_keeps 7 (some .int) 10 (some (.int ((p_keeps σ np nc w).1))) (p_keeps σ np nc w).2 0 [(0, .ref 110), (1, .int w)] [] σ
  refine sw_iload_n dX6_keeps_0 rfl ?_
  refine sw_iconst (v := 0) dX6_keeps_1 (by decide) ?_
  refine sw_iconst (v := 1) dX6_keeps_2 (by decide) ?_
  refine sw_callS dX6_keeps_3 lS_X6_94 (c_q_in _ _ _) rfl rfl (Nat.le_of_ble_eq_true rfl) (Nat.le_of_ble_eq_true rfl) ?_
  refine sw_if_ne (tgt := 11) dX6_keeps_6 (by decide) (fun h6 => ?_) (fun h6 => ?_)
  · refine sw_iconst (v := 0) dX6_keeps_11 (by decide) ?_
    refine sw_istore_n dX6_keeps_12 (by decide) rfl ?_
    refine sw_iconst (v := 0) dX6_keeps_13 (by decide) ?_
    refine sw_istore_n dX6_keeps_14 (by decide) rfl ?_
    have e1 : p_keeps σ np nc w = q_endk w (q_kp np nc (q_all σ np) (p_endBy σ np nc (q_all σ np)).1 ((q_all σ np).toNatClampNeg + 1) (q_all σ np) (p_endBy σ np nc (q_all σ np)).2) := by simp_all [p_keeps, sm_b_e0]
    rw [e1]
    obtain ⟨m, hm1, hm2⟩ := q_all_nI σ np hN.2
    have hm3 : m < 2 ^ 5 := Nat.lt_of_lt_of_le hm1 (Nat.pow_le_pow_right (by decide) hN.2)
    refine sw_lv (l_p_all hN ?_ np 0 (by omega)) (And.intro rfl (And.intro rfl (And.intro (sm_e rfl ?_) (And.intro (sm_e rfl ?_) trivial))))
    · refine sw_aload_n dX6_keeps_48 rfl ?_
      refine sw_iload_n dX6_keeps_49 rfl ?_
      refine sw_callV dX6_keeps_50 lV_X6_222 (c_p_endBy hN hP hS _) rfl rfl rfl rfl (Nat.le_of_ble_eq_true rfl) (Nat.le_of_ble_eq_true rfl) ?_
      refine sw_istore_n dX6_keeps_53 (by decide) rfl ?_
      refine sw_iload_n dX6_keeps_54 rfl ?_
      refine sw_istore dX6_keeps_55 (by decide) rfl ?_
      refine sw_iload_n dX6_keeps_57 rfl ?_
      refine sw_istore dX6_keeps_58 (by decide) rfl ?_
      have e2 : (q_all σ np).toNatClampNeg = m := by rw [hm2]; exact nI_clamp (by omega)
      rw [e2]
      refine sw_lv (l_p_keeps (m + 1) (q_all σ np) _ (by omega) ⟨by rw [p_endBy_o (by decide)]; exact hN.1, hN.2⟩ ⟨by rw [p_endBy_o (by decide), p_endBy_o (by decide)]; exact hP.1, hP.2⟩ ⟨by rw [p_endBy_o (by decide), p_endBy_o (by decide)]; exact hS.1, hS.2⟩) (And.intro rfl (And.intro rfl (And.intro rfl (And.intro rfl (And.intro rfl (And.intro (sm_e rfl ?_) trivial))))))
      all_goals ((rw [hm2, nI_pred]))
    · rfl
    · rfl
  · refine sw_iconst (v := -1) dX6_keeps_9 (by decide) ?_
    refine sw_iret dX6_keeps_10 rfl rfl ?_ ?_
    all_goals (first | with_reducible rfl | (simp_all [-Int32.not_lt, -Int32.not_le, sm_b_e0, sm_b_e1, sm_b_0e, sm_b_1e, p_keeps]))

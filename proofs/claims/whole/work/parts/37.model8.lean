theorem sm_nge {y m : Nat} (h : y + 1 < m) (hm : m < 2 ^ 30) : ¬ nI m ≤ nI y + Int32.ofInt 1 := by
  rw [sm_i1, ← nI_succ, nI_leI (by omega) (by omega)]
  omega
theorem nI_ne4 {n : Nat} (h : n < 2 ^ 31) : ¬ nI n = -4 := by
  intro e
  have := congrArg Int32.toInt e
  rw [nI_toInt h] at this
  have e4 : (-4 : Int32).toInt = -4 := by decide
  omega
/-- with a post more at the end -/
abbrev q_P1 (σ : sm_St) (np : Nat) : Prop := q_N σ np ∧ σ 110 28 = 1
theorem q_P1_P {σ : sm_St} {np : Nat} (h : q_P1 σ np) : q_P σ (np + 1) := ⟨by rw [h.1.1, h.2, nI_1], by have := h.1.2; omega⟩
theorem q_sets_off {σ : sm_St} {p x y s : Int32} {q : Nat} (h : q < 114 ∨ 117 < q) : q_sets σ p x y s q = σ q := by
  unfold q_sets
  rw [r_set_off (by omega), r_set_off (by omega), r_set_off (by omega), r_set_off (by omega)]
def q_at (np k : Nat) (τ : sm_St) : sm_St := q_sets τ (nI np) (nI (k % 9)) (nI (k / 9 % 9)) (nI (k / 81))
def q_nm (k : Nat) : Nat := 100 * (k / 81) + 10 * (k / 9 % 9) + k % 9
theorem q_nm_e (k : Nat) : 100 * nI (k / 81) + 10 * nI (k / 9 % 9) + nI (k % 9) = nI (q_nm k) := by
  unfold q_nm
  rw [show (100 : Int32) = nI 100 from rfl, show (10 : Int32) = nI 10 from rfl, pk_mul, pk_mul, nI_add, nI_add]
theorem q_at_off {np k q : Nat} {τ : sm_St} (h : q < 114 ∨ 117 < q) : q_at np k τ q = τ q := q_sets_off h
theorem q_at_P1 {np k n : Nat} {τ : sm_St} (h : q_P1 τ n) : q_P1 (q_at np k τ) n := by
  unfold q_P1 q_N
  rw [q_at_off (by decide)]
  exact h
theorem q_at_S {np k n : Nat} {τ : sm_St} (h : q_S τ n) : q_S (q_at np k τ) n := by
  unfold q_S
  rw [q_at_off (by decide)]
  exact h
def q_ho (np nc : Nat) : Nat → Nat → sm_St → Int32 × sm_St
  | 0, _, τ => (-4, τ)
  | n + 1, k, τ => if (¬ nI (k % 9) = τ 110 7 ∨ ¬ nI (k / 9 % 9) = τ 110 8) ∧ q_goes (q_V (q_at np k τ)) (np + 1) nc = 0 then (nI (q_nm k), q_at np k τ) else q_ho np nc n (k + 1) (q_at np k τ)
def q_endh (p : Int32 × sm_St) : Int32 × sm_St := (p.1, q_takes (sm_set p.2 110 28 0) 126 0)
def p_hold (σ : sm_St) (np nc : Nat) : Int32 × sm_St := if q_goes (q_V σ) np nc = 0 then (-4, σ) else q_endh (q_ho np nc 486 0 (sm_set (q_lays σ 126 0) 110 28 1))

set_option maxHeartbeats 2000000 in
theorem l_p_hold {np nc : Nat} : ∀ (n k : Nat) (τ : sm_St), k + n = 486 → q_P1 τ np → q_S τ nc → sm_W RX6 cX6_hold 7 (some .int) 8 (some (.int (q_endh (q_ho np nc n k τ)).1)) (q_endh (q_ho np nc n k τ)).2 24 [(0, .ref 110), (1, .int (-4)), (2, .int (nI k))] [] τ := by
  intro n
  induction n with
  | zero =>
    intro k τ h1 hP1 hS
    refine sw_iload_n dX6_hold_24 rfl ?_
    refine sw_sipush (v := 486) dX6_hold_25 (by decide) ?_
    refine sw_icmp_ge (tgt := 131) dX6_hold_28 (by decide) (fun _ => ?_) (fun h => absurd ((by rw [show k = 486 by omega]; decide)) h)
    refine sw_aload_n dX6_hold_131 rfl ?_
    refine sw_iconst (v := 0) dX6_hold_132 (by decide) ?_
    refine sw_put dX6_hold_133 fl_X6_153 fi_5_28 rfl rfl ?_
    refine sw_aload_n dX6_hold_136 rfl ?_
    refine sw_callV dX6_hold_137 lV_X6_216 (c_q_back) rfl rfl rfl rfl (Nat.le_of_ble_eq_true rfl) (Nat.le_of_ble_eq_true rfl) ?_
    refine sw_iload_n dX6_hold_140 rfl ?_
    refine sw_iret dX6_hold_141 rfl rfl ?_ ?_
    all_goals (first | with_reducible rfl | (rfl))
  | succ n ih =>
    intro k τ h1 hP1 hS
    refine sw_iload_n dX6_hold_24 rfl ?_
    refine sw_sipush (v := 486) dX6_hold_25 (by decide) ?_
    refine sw_icmp_ge (tgt := 131) dX6_hold_28 (by decide) (fun h => absurd h ((fun h => absurd ((nI_leI (by decide) (by omega)).mp (show nI 486 ≤ nI k from h)) (by omega)))) (fun _ => ?_)
    refine sw_iload_n dX6_hold_31 rfl ?_
    refine sw_bipush (v := -4) dX6_hold_32 (by decide) ?_
    refine sw_icmp_ne (tgt := 131) dX6_hold_34 (by decide) (fun h => absurd (rfl) h) (fun _ => ?_)
    refine sw_iload_n dX6_hold_37 rfl ?_
    refine sw_bipush (v := 81) dX6_hold_38 (by decide) ?_
    refine sw_idiv dX6_hold_40 (by decide) ?_
    refine sw_top (y := nI (k / 81)) (show nI k / 81 = nI (k / 81) from pk_div (d := 81) (by omega) (by decide) (by decide)) ?_
    refine sw_istore_n dX6_hold_41 (by decide) rfl ?_
    refine sw_iload_n dX6_hold_42 rfl ?_
    refine sw_bipush (v := 9) dX6_hold_43 (by decide) ?_
    refine sw_idiv dX6_hold_45 (by decide) ?_
    refine sw_bipush (v := 9) dX6_hold_46 (by decide) ?_
    refine sw_irem dX6_hold_48 (by decide) ?_
    refine sw_top (y := nI (k / 9 % 9)) (by rw [(show nI k / 9 = nI (k / 9) from pk_div (d := 9) (by omega) (by decide) (by decide)), (show nI (k / 9) - nI (k / 9) / 9 * 9 = nI ((k / 9) % 9) from pk_rem (d := 9) (by omega) (by decide) (by decide))]) ?_
    refine sw_istore dX6_hold_49 (by decide) rfl ?_
    refine sw_iload_n dX6_hold_51 rfl ?_
    refine sw_bipush (v := 9) dX6_hold_52 (by decide) ?_
    refine sw_irem dX6_hold_54 (by decide) ?_
    refine sw_top (y := nI (k % 9)) (show nI k - nI k / 9 * 9 = nI (k % 9) from pk_rem (d := 9) (by omega) (by decide) (by decide)) ?_
    refine sw_istore dX6_hold_55 (by decide) rfl ?_
    refine sw_aload_n dX6_hold_57 rfl ?_
    refine sw_aload_n dX6_hold_58 rfl ?_
    refine sw_getI dX6_hold_59 fl_X6_84 rfl rfl ?_
    refine sw_iload dX6_hold_62 rfl ?_
    refine sw_iload dX6_hold_64 rfl ?_
    refine sw_iload_n dX6_hold_66 rfl ?_
    refine sw_callV dX6_hold_67 lV_X6_87 (c_q_sets _ _ _ _ (vp_in_e (j := np) hP1.1.1 (by have := hP1.1.2; omega) (by decide))) rfl rfl rfl rfl (Nat.le_of_ble_eq_true rfl) (Nat.le_of_ble_eq_true rfl) ?_
    refine sw_st (σ2 := q_at np k τ) (by rw [hP1.1.1]; rfl) ?_
    refine sw_iload dX6_hold_70 rfl ?_
    refine sw_aload_n dX6_hold_72 rfl ?_
    refine sw_getI dX6_hold_73 fl_X6_61 rfl rfl ?_
    refine sw_top (y := τ 110 7) (by rw [q_at_off (by decide)]) ?_
    refine sw_icmp_ne (tgt := 88) dX6_hold_76 (by decide) (fun h76 => ?_) (fun h76 => ?_)
    · refine sw_aload_n dX6_hold_88 rfl ?_
      refine sw_callV dX6_hold_89 lV_X6_183 (c_q_goesTo (q_P1_P (q_at_P1 hP1)) (q_at_S hS)) rfl rfl rfl rfl (Nat.le_of_ble_eq_true rfl) (Nat.le_of_ble_eq_true rfl) ?_
      refine sw_if_ne (tgt := 99) dX6_hold_92 (by decide) (fun h92 => ?_) (fun h92 => ?_)
      · refine sw_iconst (v := 0) dX6_hold_99 (by decide) ?_
        refine sw_istore dX6_hold_100 (by decide) rfl ?_
        refine sw_iload dX6_hold_102 rfl ?_
        refine sw_if_eq (tgt := 123) dX6_hold_104 (by decide) (fun _ => ?_) (fun h => absurd (by decide) h)
        refine sw_iload_n dX6_hold_123 rfl ?_
        refine sw_istore_n dX6_hold_124 (by decide) rfl ?_
        refine sw_iinc dX6_hold_125 rfl rfl (by decide) rfl ?_
        refine sw_goto (tgt := 24) dX6_hold_128 (by decide) ?_
        rw [q_ho, if_neg (fun hh => h92 hh.2)]
        refine sw_lv (ih (k + 1) _ (by omega) (q_at_P1 hP1) (q_at_S hS)) (And.intro rfl (And.intro rfl (And.intro (sm_e rfl ?_) trivial)))
        all_goals (rw [sm_i1, nI_succ])
      · refine sw_iconst (v := 1) dX6_hold_95 (by decide) ?_
        refine sw_goto (tgt := 100) dX6_hold_96 (by decide) ?_
        refine sw_istore dX6_hold_100 (by decide) rfl ?_
        refine sw_iload dX6_hold_102 rfl ?_
        refine sw_if_eq (tgt := 123) dX6_hold_104 (by decide) (fun h => absurd h (by decide)) (fun _ => ?_)
        refine sw_bipush (v := 100) dX6_hold_107 (by decide) ?_
        refine sw_iload_n dX6_hold_109 rfl ?_
        refine sw_imul dX6_hold_110 ?_
        refine sw_bipush (v := 10) dX6_hold_111 (by decide) ?_
        refine sw_iload dX6_hold_113 rfl ?_
        refine sw_imul dX6_hold_115 ?_
        refine sw_iadd dX6_hold_116 ?_
        refine sw_iload dX6_hold_117 rfl ?_
        refine sw_iadd dX6_hold_119 ?_
        refine sw_top (y := nI (q_nm k)) (q_nm_e k) ?_
        refine sw_goto (tgt := 124) dX6_hold_120 (by decide) ?_
        refine sw_istore_n dX6_hold_124 (by decide) rfl ?_
        refine sw_iinc dX6_hold_125 rfl rfl (by decide) rfl ?_
        refine sw_goto (tgt := 24) dX6_hold_128 (by decide) ?_
        rw [q_ho, if_pos ⟨(Or.inl h76), h92⟩]
        by_cases hk : k < 485
        · refine sw_iload_n dX6_hold_24 rfl ?_
          refine sw_sipush (v := 486) dX6_hold_25 (by decide) ?_
          refine sw_icmp_ge (tgt := 131) dX6_hold_28 (by decide) (fun h => absurd h ((sm_nge (m := 486) (by omega) (by decide)))) (fun _ => ?_)
          refine sw_iload_n dX6_hold_31 rfl ?_
          refine sw_bipush (v := -4) dX6_hold_32 (by decide) ?_
          refine sw_icmp_ne (tgt := 131) dX6_hold_34 (by decide) (fun _ => ?_) (fun h => absurd h (nI_ne4 (by unfold q_nm; omega)))
          refine sw_aload_n dX6_hold_131 rfl ?_
          refine sw_iconst (v := 0) dX6_hold_132 (by decide) ?_
          refine sw_put dX6_hold_133 fl_X6_153 fi_5_28 rfl rfl ?_
          refine sw_aload_n dX6_hold_136 rfl ?_
          refine sw_callV dX6_hold_137 lV_X6_216 (c_q_back) rfl rfl rfl rfl (Nat.le_of_ble_eq_true rfl) (Nat.le_of_ble_eq_true rfl) ?_
          refine sw_iload_n dX6_hold_140 rfl ?_
          refine sw_iret dX6_hold_141 rfl rfl ?_ ?_
          all_goals (first | with_reducible rfl | (rfl))
        · refine sw_iload_n dX6_hold_24 rfl ?_
          refine sw_sipush (v := 486) dX6_hold_25 (by decide) ?_
          refine sw_icmp_ge (tgt := 131) dX6_hold_28 (by decide) (fun _ => ?_) (fun h => absurd ((by rw [show k = 485 by omega]; decide)) h)
          refine sw_aload_n dX6_hold_131 rfl ?_
          refine sw_iconst (v := 0) dX6_hold_132 (by decide) ?_
          refine sw_put dX6_hold_133 fl_X6_153 fi_5_28 rfl rfl ?_
          refine sw_aload_n dX6_hold_136 rfl ?_
          refine sw_callV dX6_hold_137 lV_X6_216 (c_q_back) rfl rfl rfl rfl (Nat.le_of_ble_eq_true rfl) (Nat.le_of_ble_eq_true rfl) ?_
          refine sw_iload_n dX6_hold_140 rfl ?_
          refine sw_iret dX6_hold_141 rfl rfl ?_ ?_
          all_goals (first | with_reducible rfl | (rfl))
    · refine sw_iload dX6_hold_79 rfl ?_
      refine sw_aload_n dX6_hold_81 rfl ?_
      refine sw_getI dX6_hold_82 fl_X6_65 rfl rfl ?_
      refine sw_top (y := τ 110 8) (by rw [q_at_off (by decide)]) ?_
      refine sw_icmp_eq (tgt := 99) dX6_hold_85 (by decide) (fun h85 => ?_) (fun h85 => ?_)
      · refine sw_iconst (v := 0) dX6_hold_99 (by decide) ?_
        refine sw_istore dX6_hold_100 (by decide) rfl ?_
        refine sw_iload dX6_hold_102 rfl ?_
        refine sw_if_eq (tgt := 123) dX6_hold_104 (by decide) (fun _ => ?_) (fun h => absurd (by decide) h)
        refine sw_iload_n dX6_hold_123 rfl ?_
        refine sw_istore_n dX6_hold_124 (by decide) rfl ?_
        refine sw_iinc dX6_hold_125 rfl rfl (by decide) rfl ?_
        refine sw_goto (tgt := 24) dX6_hold_128 (by decide) ?_
        rw [q_ho, if_neg (fun hh => hh.1.elim (fun h => h h76) (fun h => h h85))]
        refine sw_lv (ih (k + 1) _ (by omega) (q_at_P1 hP1) (q_at_S hS)) (And.intro rfl (And.intro rfl (And.intro (sm_e rfl ?_) trivial)))
        all_goals (rw [sm_i1, nI_succ])
      · refine sw_aload_n dX6_hold_88 rfl ?_
        refine sw_callV dX6_hold_89 lV_X6_183 (c_q_goesTo (q_P1_P (q_at_P1 hP1)) (q_at_S hS)) rfl rfl rfl rfl (Nat.le_of_ble_eq_true rfl) (Nat.le_of_ble_eq_true rfl) ?_
        refine sw_if_ne (tgt := 99) dX6_hold_92 (by decide) (fun h92 => ?_) (fun h92 => ?_)
        · refine sw_iconst (v := 0) dX6_hold_99 (by decide) ?_
          refine sw_istore dX6_hold_100 (by decide) rfl ?_
          refine sw_iload dX6_hold_102 rfl ?_
          refine sw_if_eq (tgt := 123) dX6_hold_104 (by decide) (fun _ => ?_) (fun h => absurd (by decide) h)
          refine sw_iload_n dX6_hold_123 rfl ?_
          refine sw_istore_n dX6_hold_124 (by decide) rfl ?_
          refine sw_iinc dX6_hold_125 rfl rfl (by decide) rfl ?_
          refine sw_goto (tgt := 24) dX6_hold_128 (by decide) ?_
          rw [q_ho, if_neg (fun hh => h92 hh.2)]
          refine sw_lv (ih (k + 1) _ (by omega) (q_at_P1 hP1) (q_at_S hS)) (And.intro rfl (And.intro rfl (And.intro (sm_e rfl ?_) trivial)))
          all_goals (rw [sm_i1, nI_succ])
        · refine sw_iconst (v := 1) dX6_hold_95 (by decide) ?_
          refine sw_goto (tgt := 100) dX6_hold_96 (by decide) ?_
          refine sw_istore dX6_hold_100 (by decide) rfl ?_
          refine sw_iload dX6_hold_102 rfl ?_
          refine sw_if_eq (tgt := 123) dX6_hold_104 (by decide) (fun h => absurd h (by decide)) (fun _ => ?_)
          refine sw_bipush (v := 100) dX6_hold_107 (by decide) ?_
          refine sw_iload_n dX6_hold_109 rfl ?_
          refine sw_imul dX6_hold_110 ?_
          refine sw_bipush (v := 10) dX6_hold_111 (by decide) ?_
          refine sw_iload dX6_hold_113 rfl ?_
          refine sw_imul dX6_hold_115 ?_
          refine sw_iadd dX6_hold_116 ?_
          refine sw_iload dX6_hold_117 rfl ?_
          refine sw_iadd dX6_hold_119 ?_
          refine sw_top (y := nI (q_nm k)) (q_nm_e k) ?_
          refine sw_goto (tgt := 124) dX6_hold_120 (by decide) ?_
          refine sw_istore_n dX6_hold_124 (by decide) rfl ?_
          refine sw_iinc dX6_hold_125 rfl rfl (by decide) rfl ?_
          refine sw_goto (tgt := 24) dX6_hold_128 (by decide) ?_
          rw [q_ho, if_pos ⟨(Or.inr h85), h92⟩]
          by_cases hk : k < 485
          · refine sw_iload_n dX6_hold_24 rfl ?_
            refine sw_sipush (v := 486) dX6_hold_25 (by decide) ?_
            refine sw_icmp_ge (tgt := 131) dX6_hold_28 (by decide) (fun h => absurd h ((sm_nge (m := 486) (by omega) (by decide)))) (fun _ => ?_)
            refine sw_iload_n dX6_hold_31 rfl ?_
            refine sw_bipush (v := -4) dX6_hold_32 (by decide) ?_
            refine sw_icmp_ne (tgt := 131) dX6_hold_34 (by decide) (fun _ => ?_) (fun h => absurd h (nI_ne4 (by unfold q_nm; omega)))
            refine sw_aload_n dX6_hold_131 rfl ?_
            refine sw_iconst (v := 0) dX6_hold_132 (by decide) ?_
            refine sw_put dX6_hold_133 fl_X6_153 fi_5_28 rfl rfl ?_
            refine sw_aload_n dX6_hold_136 rfl ?_
            refine sw_callV dX6_hold_137 lV_X6_216 (c_q_back) rfl rfl rfl rfl (Nat.le_of_ble_eq_true rfl) (Nat.le_of_ble_eq_true rfl) ?_
            refine sw_iload_n dX6_hold_140 rfl ?_
            refine sw_iret dX6_hold_141 rfl rfl ?_ ?_
            all_goals (first | with_reducible rfl | (rfl))
          · refine sw_iload_n dX6_hold_24 rfl ?_
            refine sw_sipush (v := 486) dX6_hold_25 (by decide) ?_
            refine sw_icmp_ge (tgt := 131) dX6_hold_28 (by decide) (fun _ => ?_) (fun h => absurd ((by rw [show k = 485 by omega]; decide)) h)
            refine sw_aload_n dX6_hold_131 rfl ?_
            refine sw_iconst (v := 0) dX6_hold_132 (by decide) ?_
            refine sw_put dX6_hold_133 fl_X6_153 fi_5_28 rfl rfl ?_
            refine sw_aload_n dX6_hold_136 rfl ?_
            refine sw_callV dX6_hold_137 lV_X6_216 (c_q_back) rfl rfl rfl rfl (Nat.le_of_ble_eq_true rfl) (Nat.le_of_ble_eq_true rfl) ?_
            refine sw_iload_n dX6_hold_140 rfl ?_
            refine sw_iret dX6_hold_141 rfl rfl ?_ ?_
            all_goals (first | with_reducible rfl | (rfl))

set_option maxHeartbeats 2000000 in
theorem c_p_hold {σ : sm_St} {np : Nat} (hN : q_N σ np) {nc : Nat} (hC : q_C σ nc) (h0 : q_0 σ)  : sm_C yX6_hold cX6_hold 7 (some .int) 8 [.ref 110] σ (some (.int ((p_hold σ np nc).1))) (p_hold σ np nc).2 := by
  refine sm_C.of (own := RX6) (by decide) rfl (Nat.le_of_ble_eq_true rfl) ?_
  have hP := q_P_of hN h0
  have hS := q_S_of hC h0
  show sm_W RX6 cX6_hold 7 (some .int) 8 (some (.int ((p_hold σ np nc).1))) (p_hold σ np nc).2 0 [(0, .ref 110)] [] σ
  refine sw_aload_n dX6_hold_0 rfl ?_
  refine sw_callV dX6_hold_1 lV_X6_183 (c_q_goesTo hP hS) rfl rfl rfl rfl (Nat.le_of_ble_eq_true rfl) (Nat.le_of_ble_eq_true rfl) ?_
  refine sw_if_ne (tgt := 10) dX6_hold_4 (by decide) (fun h4 => ?_) (fun h4 => ?_)
  · refine sw_bipush (v := -4) dX6_hold_10 (by decide) ?_
    refine sw_istore_n dX6_hold_12 (by decide) rfl ?_
    refine sw_aload_n dX6_hold_13 rfl ?_
    refine sw_callV dX6_hold_14 lV_X6_209 (c_q_puts) rfl rfl rfl rfl (Nat.le_of_ble_eq_true rfl) (Nat.le_of_ble_eq_true rfl) ?_
    refine sw_aload_n dX6_hold_17 rfl ?_
    refine sw_iconst (v := 1) dX6_hold_18 (by decide) ?_
    refine sw_put dX6_hold_19 fl_X6_153 fi_5_28 rfl rfl ?_
    refine sw_iconst (v := 0) dX6_hold_22 (by decide) ?_
    refine sw_istore_n dX6_hold_23 (by decide) rfl ?_
    have e : p_hold σ np nc = q_endh (q_ho np nc 486 0 (sm_set (q_lays σ 126 0) 110 28 1)) := by simp_all [p_hold]
    rw [e]
    refine sw_lv (l_p_hold 486 0 _ (by decide) ⟨q_N_set (by decide) (q_N_lays (by decide) hN), sm_set_eq⟩ (q_S_set (by decide) (by decide) (q_lays_S (by decide) hS))) (And.intro rfl (And.intro rfl (And.intro rfl trivial)))
  · refine sw_bipush (v := -4) dX6_hold_7 (by decide) ?_
    refine sw_iret dX6_hold_9 rfl rfl ?_ ?_
    all_goals (first | with_reducible rfl | (simp_all [-Int32.not_lt, -Int32.not_le, sm_b_e0, sm_b_e1, sm_b_0e, sm_b_1e, p_hold]))

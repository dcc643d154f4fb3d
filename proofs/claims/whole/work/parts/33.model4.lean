abbrev q_N (σ : sm_St) (np : Nat) : Prop := σ 110 0 = nI np ∧ np ≤ 5
abbrev q_C (σ : sm_St) (nc : Nat) : Prop := σ 110 1 = nI nc ∧ nc ≤ 7
abbrev q_0 (σ : sm_St) : Prop := σ 110 28 = 0 ∧ σ 110 29 = 0
theorem q_P_of {σ : sm_St} {np : Nat} (h : q_N σ np) (h0 : q_0 σ) : q_P σ np := ⟨by rw [h.1, h0.1, Int32.add_zero], Nat.le_succ_of_le h.2⟩
theorem q_S_of {σ : sm_St} {nc : Nat} (h : q_C σ nc) (h0 : q_0 σ) : q_S σ nc := ⟨by rw [h.1, h0.2, Int32.add_zero], Nat.le_succ_of_le h.2⟩
theorem q_win {p : Int32} {n : Nat} {x : Int32} (hx : x = nI n) (hn : n < 1000) (h : sm_win p 0 (x - 1) = true) : ∃ j, j < n ∧ p = nI j := by
  subst hx
  unfold sm_win at h
  simp only [decide_eq_true_eq] at h
  obtain ⟨h1, h2⟩ := h
  rcases pk_ix p (n := n) (by omega) with h3 | h3 | h3
  · exact absurd h3 h1
  · exfalso
    apply h2
    cases n with
    | zero =>
      rw [Int32.lt_iff_toInt_lt]
      rw [Int32.lt_iff_toInt_lt] at h1
      have e : (nI 0 - 1).toInt = -1 := by decide
      have e0 : (0 : Int32).toInt = 0 := rfl
      omega
    | succ m =>
      rw [nI_pred, Int32.lt_iff_toInt_lt]
      rw [Int32.le_iff_toInt_le] at h3
      rw [nI_toInt (by omega)] at h3 ⊢
      omega
  · exact h3
theorem q_isP {σ : sm_St} {np : Nat} {p : Int32} (hN : q_N σ np) (h : sm_win p 0 (σ 110 0 - 1) = true) : vp_in p 6 := by
  obtain ⟨j, h1, rfl⟩ := q_win hN.1 (by have := hN.2; omega) h
  exact vp_in_nI (by have := hN.2; omega) (by decide)
theorem q_isC {σ : sm_St} {nc : Nat} {c : Int32} (hC : q_C σ nc) (h : sm_win c 0 (σ 110 1 - 1) = true) : vp_in c 8 := by
  obtain ⟨j, h1, rfl⟩ := q_win hC.1 (by have := hC.2; omega) h
  exact vp_in_nI (by have := hC.2; omega) (by decide)
theorem sm_b_t {c : Prop} {h : Decidable c} (hh : ¬ @sm_b c h = 0) : c := by
  rw [sm_b_e0] at hh
  exact Decidable.not_not.mp hh
def q_sh (f : Nat → Int32) (i : Nat) : Nat → Int32 := fun j => if j < i then f (j + 29) else f j
theorem q_sh_s (f : Nat → Int32) (i : Nat) : upd (q_sh f i) i (f (i + 29)) = q_sh f (i + 1) := by
  funext j
  unfold upd q_sh
  by_cases h : j = i
  · subst h; rw [if_pos rfl, if_pos (by omega)]
  · rw [if_neg h]
    by_cases h2 : j < i
    · rw [if_pos h2, if_pos (by omega)]
    · rw [if_neg h2, if_neg (by omega)]
theorem q_sh_0 (f : Nat → Int32) : q_sh f 0 = f := by funext j; simp [q_sh]
def q_notes (σ : sm_St) (u : Nat) : sm_St := if u = 8 then sm_set (q_lays (sm_set (sm_row σ 125 (q_sh (σ 125) 203)) 110 31 7) 125 203) 110 31 8 else sm_set (q_lays σ 125 (29 * u)) 110 31 (nI (u + 1))
def q_left (σ : sm_St) : Nat → Int32
  | 0 => 0
  | p + 1 => q_left σ p + (1 - r_at (σ 117) 6 (nI p))
theorem q_lays_off {σ : sm_St} {a p q : Nat} (h : q ≠ a) : q_lays σ a p q = σ q := by unfold q_lays; rw [sm_row_off h]

set_option maxHeartbeats 2000000 in
theorem c_q_puts {σ : sm_St}  : sm_C yX6_puts cX6_puts 1 none 2 [.ref 110] σ none (q_lays σ 126 0) := by
  refine sm_C.of (own := RX6) (by decide) rfl (Nat.le_of_ble_eq_true rfl) ?_
  show sm_W RX6 cX6_puts 1 none 2 none (q_lays σ 126 0) 0 [(0, .ref 110)] [] σ
  refine sw_aload_n dX6_puts_0 rfl ?_
  refine sw_aload_n dX6_puts_1 rfl ?_
  refine sw_getR (j := 126) dX6_puts_2 fl_X6_55 rfl rfl ?_
  refine sw_iconst (v := 0) dX6_puts_5 (by decide) ?_
  refine sw_callV dX6_puts_6 lV_X6_196 (c_q_lays (a := 126) (p := 0) rfl (by decide) (by decide)) rfl rfl rfl rfl (Nat.le_of_ble_eq_true rfl) (Nat.le_of_ble_eq_true rfl) ?_
  refine sw_vret dX6_puts_9 rfl rfl ?_
  all_goals (first | with_reducible rfl | (rfl))

set_option maxHeartbeats 2000000 in
theorem c_q_back {σ : sm_St}  : sm_C yX6_puttingBack cX6_puttingBack 1 none 2 [.ref 110] σ none (q_takes σ 126 0) := by
  refine sm_C.of (own := RX6) (by decide) rfl (Nat.le_of_ble_eq_true rfl) ?_
  show sm_W RX6 cX6_puttingBack 1 none 2 none (q_takes σ 126 0) 0 [(0, .ref 110)] [] σ
  refine sw_aload_n dX6_puttingBack_0 rfl ?_
  refine sw_aload_n dX6_puttingBack_1 rfl ?_
  refine sw_getR (j := 126) dX6_puttingBack_2 fl_X6_55 rfl rfl ?_
  refine sw_iconst (v := 0) dX6_puttingBack_5 (by decide) ?_
  refine sw_callV dX6_puttingBack_6 lV_X6_206 (c_q_takes (a := 126) (p := 0) rfl (by decide) (by decide)) rfl rfl rfl rfl (Nat.le_of_ble_eq_true rfl) (Nat.le_of_ble_eq_true rfl) ?_
  refine sw_vret dX6_puttingBack_9 rfl rfl ?_
  all_goals (first | with_reducible rfl | (rfl))

set_option maxHeartbeats 2000000 in
theorem l_q_left {σ : sm_St} {np : Nat} (hN : q_N σ np) : ∀ n i : Nat, np - i < n → i ≤ np → sm_W RX6 cX6_left 3 (some .int) 0 (some (.int (q_left σ np))) σ 4 [(0, .ref 110), (1, .int (q_left σ i)), (2, .int (nI i))] [] σ := by
  have hn6 := hN.2
  intro n
  induction n with
  | zero => intro i h1 h2; omega
  | succ n ih =>
    intro i h1 h2
    refine sw_iload_n dX6_left_4 rfl ?_
    refine sw_aload_n dX6_left_5 rfl ?_
    refine sw_getI dX6_left_6 fl_X6_84 rfl rfl ?_
    refine sw_icmp_ge (tgt := 29) dX6_left_9 (by decide) (fun h9 => ?_) (fun h9 => ?_)
    · have hge : np ≤ i := by rw [hN.1, nI_leI (by omega) (by omega)] at h9; exact h9
      refine sw_iload_n dX6_left_29 rfl ?_
      refine sw_iret dX6_left_30 rfl rfl ?_ ?_
      all_goals (first | with_reducible rfl | (rw [show i = np by omega]))
    · have hlt : i < np := by rw [hN.1, nI_leI (by omega) (by omega)] at h9; omega
      refine sw_iload_n dX6_left_12 rfl ?_
      refine sw_iconst (v := 1) dX6_left_13 (by decide) ?_
      refine sw_aload_n dX6_left_14 rfl ?_
      refine sw_getR (j := 117) dX6_left_15 fl_X6_28 rfl rfl ?_
      refine sw_iload_n dX6_left_18 rfl ?_
      refine sw_ialdR dX6_left_19 rfl (vp_in_nI (by omega) (by decide)) ?_
      refine sw_isub dX6_left_20 ?_
      refine sw_iadd dX6_left_21 ?_
      refine sw_istore_n dX6_left_22 (by decide) rfl ?_
      refine sw_iinc dX6_left_23 rfl rfl (by decide) rfl ?_
      refine sw_goto (tgt := 4) dX6_left_26 (by decide) ?_
      refine sw_lv (ih (i + 1) (by omega) (by omega)) (And.intro rfl (And.intro (sm_e rfl ?_) (And.intro (sm_e rfl ?_) trivial)))
      all_goals (first | (rw [sm_i1, nI_succ]; done) | rfl)

set_option maxHeartbeats 2000000 in
theorem c_q_left {σ : sm_St} {np : Nat} (hN : q_N σ np) : sm_C yX6_left cX6_left 3 (some .int) 0 [.ref 110] σ (some (.int (q_left σ np))) σ := by
  refine sm_C.of (own := RX6) (by decide) rfl (Nat.le_of_ble_eq_true rfl) ?_
  show sm_W RX6 cX6_left 3 (some .int) 0 (some (.int (q_left σ np))) σ 0 [(0, .ref 110)] [] σ
  refine sw_iconst (v := 0) dX6_left_0 (by decide) ?_
  refine sw_istore_n dX6_left_1 (by decide) rfl ?_
  refine sw_iconst (v := 0) dX6_left_2 (by decide) ?_
  refine sw_istore_n dX6_left_3 (by decide) rfl ?_
  refine sw_lv (l_q_left hN _ 0 (Nat.lt_succ_self _) (Nat.zero_le _)) (And.intro rfl (And.intro (sm_e rfl ?_) (And.intro (sm_e rfl ?_) trivial)))
  all_goals (rfl)

set_option maxHeartbeats 2000000 in
theorem l_q_notes {σ : sm_St} (k : sm_W RX6 cX6_notes 2 none 2 none (q_notes σ 8) 39 [(0, .ref 110)] [] (sm_row σ 125 (q_sh (σ 125) 203))) : ∀ n i : Nat, 203 - i < n → i ≤ 203 → sm_W RX6 cX6_notes 2 none 2 none (q_notes σ 8) 11 [(0, .ref 110), (1, .int (nI i))] [] (sm_row σ 125 (q_sh (σ 125) i)) := by
  intro n
  induction n with
  | zero => intro i h1 h2; omega
  | succ n ih =>
    intro i h1 h2
    refine sw_iload_n dX6_notes_11 rfl ?_
    refine sw_sipush (v := 203) dX6_notes_12 (by decide) ?_
    refine sw_icmp_ge (tgt := 39) dX6_notes_15 (by decide) (fun h15 => ?_) (fun h15 => ?_)
    · have hge : 203 ≤ i := (nI_leI (by omega) (by omega)).mp (show nI 203 ≤ nI i from h15)
      refine sw_lv (lv' := [(0, .ref 110)]) ?_ (And.intro rfl trivial)
      rw [show i = 203 by omega]
      exact k
    · have hlt : i < 203 := by rw [show (203 : Int32) = nI 203 from rfl, nI_leI (by omega) (by omega)] at h15; omega
      refine sw_aload_n dX6_notes_18 rfl ?_
      refine sw_getR (j := 125) dX6_notes_19 fl_X6_52 rfl rfl ?_
      refine sw_iload_n dX6_notes_22 rfl ?_
      refine sw_aload_n dX6_notes_23 rfl ?_
      refine sw_getR (j := 125) dX6_notes_24 fl_X6_52 rfl rfl ?_
      refine sw_iload_n dX6_notes_27 rfl ?_
      refine sw_bipush (v := 29) dX6_notes_28 (by decide) ?_
      refine sw_iadd dX6_notes_30 ?_
      refine sw_ialdR dX6_notes_31 rfl (vp_in_e (j := i + 29) (nI_add i 29) (by omega) (by decide)) ?_
      refine sw_top (y := σ 125 (i + 29)) (by rw [r_at_nI (j := i + 29) (show nI i + 29 = nI (i + 29) from nI_add i 29) (by omega) (by decide), sm_row_eq, q_sh, if_neg (by omega)]) ?_
      refine sw_iastR dX6_notes_32 rfl (vp_in_nI (by omega) (by decide)) ?_
      refine sw_st (σ2 := (sm_row σ 125 (q_sh (σ 125) (i + 1)))) (by rw [r_set_nI rfl (show i < 232 by omega) (by decide), ← q_sh_s]; funext q; by_cases hq : q = 125 <;> simp [sm_set, sm_row, hq]) ?_
      refine sw_iinc dX6_notes_33 rfl rfl (by decide) rfl ?_
      refine sw_goto (tgt := 11) dX6_notes_36 (by decide) ?_
      refine sw_lv (ih (i + 1) (by omega) (by omega)) (And.intro rfl (And.intro (sm_e rfl ?_) trivial))
      all_goals (rw [sm_i1, nI_succ])

set_option maxHeartbeats 2000000 in
theorem l_q_notes2 {σ : sm_St} (hu8 : σ 110 31 = nI 8) : sm_W RX6 cX6_notes 2 none 2 none (q_notes σ 8) 39 [(0, .ref 110)] [] (sm_row σ 125 (q_sh (σ 125) 203)) := by
  refine sw_aload_n dX6_notes_39 rfl ?_
  refine sw_dup dX6_notes_40 rfl ?_
  refine sw_getI dX6_notes_41 fl_X6_143 rfl rfl ?_
  refine sw_iconst (v := 1) dX6_notes_44 (by decide) ?_
  refine sw_isub dX6_notes_45 ?_
  refine sw_top (y := 7) (by rw [sm_row_off (by decide), hu8]; decide) ?_
  refine sw_put dX6_notes_46 fl_X6_143 fi_5_31 rfl rfl ?_
  refine sw_aload_n dX6_notes_49 rfl ?_
  refine sw_aload_n dX6_notes_50 rfl ?_
  refine sw_getR (j := 125) dX6_notes_51 fl_X6_52 rfl rfl ?_
  refine sw_bipush (v := 29) dX6_notes_54 (by decide) ?_
  refine sw_aload_n dX6_notes_56 rfl ?_
  refine sw_getI dX6_notes_57 fl_X6_143 rfl rfl ?_
  refine sw_imul dX6_notes_60 ?_
  refine sw_top (y := nI 203) (by rw [sm_set_eq]; decide) ?_
  refine sw_callV dX6_notes_61 lV_X6_196 (c_q_lays (a := 125) (p := 203) rfl (by decide) (by decide)) rfl rfl rfl rfl (Nat.le_of_ble_eq_true rfl) (Nat.le_of_ble_eq_true rfl) ?_
  refine sw_aload_n dX6_notes_64 rfl ?_
  refine sw_dup dX6_notes_65 rfl ?_
  refine sw_getI dX6_notes_66 fl_X6_143 rfl rfl ?_
  refine sw_iconst (v := 1) dX6_notes_69 (by decide) ?_
  refine sw_iadd dX6_notes_70 ?_
  refine sw_top (y := 8) (by rw [q_lays_off (by decide), sm_set_eq]; decide) ?_
  refine sw_put dX6_notes_71 fl_X6_143 fi_5_31 rfl rfl ?_
  refine sw_vret dX6_notes_74 rfl rfl ?_
  all_goals (first | with_reducible rfl | (rw [q_notes, if_pos rfl]))

set_option maxHeartbeats 2000000 in
theorem c_q_notes {σ : sm_St} {u : Nat} (hu : σ 110 31 = nI u ∧ u ≤ 8) : sm_C yX6_notes cX6_notes 2 none 2 [.ref 110] σ none (q_notes σ u) := by
  refine sm_C.of (own := RX6) (by decide) rfl (Nat.le_of_ble_eq_true rfl) ?_
  show sm_W RX6 cX6_notes 2 none 2 none (q_notes σ u) 0 [(0, .ref 110)] [] σ
  refine sw_aload_n dX6_notes_0 rfl ?_
  refine sw_getI dX6_notes_1 fl_X6_143 rfl rfl ?_
  refine sw_bipush (v := 8) dX6_notes_4 (by decide) ?_
  refine sw_icmp_ne (tgt := 49) dX6_notes_6 (by decide) (fun h6 => ?_) (fun h6 => ?_)
  · have hu9 : ¬ u = 8 := fun e => h6 (by rw [hu.1, e]; rfl)
    have hu8 := hu.2
    refine sw_aload_n dX6_notes_49 rfl ?_
    refine sw_aload_n dX6_notes_50 rfl ?_
    refine sw_getR (j := 125) dX6_notes_51 fl_X6_52 rfl rfl ?_
    refine sw_bipush (v := 29) dX6_notes_54 (by decide) ?_
    refine sw_aload_n dX6_notes_56 rfl ?_
    refine sw_getI dX6_notes_57 fl_X6_143 rfl rfl ?_
    refine sw_imul dX6_notes_60 ?_
    refine sw_top (y := nI (29 * u)) (by rw [hu.1]; exact pk_mul 29 u) ?_
    refine sw_callV dX6_notes_61 lV_X6_196 (c_q_lays (a := 125) (p := (29 * u)) rfl (by omega) (by decide)) rfl rfl rfl rfl (Nat.le_of_ble_eq_true rfl) (Nat.le_of_ble_eq_true rfl) ?_
    refine sw_aload_n dX6_notes_64 rfl ?_
    refine sw_dup dX6_notes_65 rfl ?_
    refine sw_getI dX6_notes_66 fl_X6_143 rfl rfl ?_
    refine sw_iconst (v := 1) dX6_notes_69 (by decide) ?_
    refine sw_iadd dX6_notes_70 ?_
    refine sw_top (y := nI u + 1) (by rw [q_lays_off (by decide), hu.1]) ?_
    refine sw_put dX6_notes_71 fl_X6_143 fi_5_31 rfl rfl ?_
    refine sw_vret dX6_notes_74 rfl rfl ?_
    all_goals (first | with_reducible rfl | (rw [q_notes, if_neg hu9, nI_succ]))
  · have e8 : u = 8 := by rw [hu.1, show (8 : Int32) = nI 8 from rfl, nI_eq (by omega) (by omega)] at h6; exact h6
    subst e8
    refine sw_iconst (v := 0) dX6_notes_9 (by decide) ?_
    refine sw_istore_n dX6_notes_10 (by decide) rfl ?_
    refine sw_st (σ2 := (sm_row σ 125 (q_sh (σ 125) 0))) (by rw [q_sh_0, sm_row_id]) ?_
    refine sw_lv (l_q_notes (l_q_notes2 hu.1) _ 0 (Nat.lt_succ_self _) (Nat.zero_le _)) (And.intro rfl (And.intro rfl trivial))

def q_wh (np nc : Nat) (x y : Int32) : Nat → Nat → sm_St → Nat × sm_St
  | 0, i, τ => (i, τ)
  | m + 1, i, τ => if τ 110 7 = x ∧ τ 110 8 = y then (i, τ) else q_wh np nc x y m (i + 1) (q_hour τ np nc)
theorem q_wh_le {np nc : Nat} {x y : Int32} : ∀ (m i : Nat) (τ : sm_St), (q_wh np nc x y m i τ).1 ≤ i + m
  | 0, i, _ => Nat.le_refl i
  | m + 1, i, τ => by
    unfold q_wh
    split
    · exact Nat.le_add_right i _
    · have := q_wh_le (np := np) (nc := nc) (x := x) (y := y) m (i + 1) (q_hour τ np nc)
      omega
theorem q_wh_o {np nc j : Nat} {x y : Int32} (h : j < 6 ∨ 8 < j) : ∀ (m i : Nat) (τ : sm_St), (q_wh np nc x y m i τ).2 110 j = τ 110 j
  | 0, _, _ => rfl
  | m + 1, i, τ => by
    unfold q_wh
    split
    · rfl
    · rw [q_wh_o h m, q_hour_o (by omega) (by omega) (by omega)]
theorem q_wh_off {np nc q : Nat} {x y : Int32} (h : q ≠ 110) : ∀ (m i : Nat) (τ : sm_St), (q_wh np nc x y m i τ).2 q = τ q
  | 0, _, _ => rfl
  | m + 1, i, τ => by
    unfold q_wh
    split
    · rfl
    · rw [q_wh_off h m, q_hour_off h]
def q_b0 (np k : Nat) (τ : sm_St) : sm_St := q_at np k (sm_set (q_lays τ 126 0) 110 28 1)
def q_b1 (np nc : Nat) (x y : Int32) (j k : Nat) (τ : sm_St) : Nat × sm_St := q_wh (np + 1) nc x y j 0 (q_b0 np k τ)
def q_b2 (np nc : Nat) (x y : Int32) (j k : Nat) (τ : sm_St) : sm_St := q_takes (sm_set (q_b1 np nc x y j k τ).2 110 28 0) 126 0
theorem q_b2_o {np nc j k l : Nat} {x y : Int32} {τ : sm_St} (h : l < 6 ∨ 10 < l) (h2 : l ≠ 28) : q_b2 np nc x y j k τ 110 l = τ 110 l := by
  unfold q_b2 q_b1 q_b0
  rw [q_takes_o h, sm_set_ne h2, q_wh_o (by omega), q_at_off (by decide), sm_set_ne h2, q_lays_off (by decide)]
def q_br (np nc : Nat) (x y : Int32) : Nat → Nat → Nat → Int32 → sm_St → (Int32 × Nat) × sm_St
  | 0, _, j, b, τ => ((b, j), τ)
  | n + 1, k, j, b, τ => if ((q_b1 np nc x y j k τ).2 110 7 = x ∧ (q_b1 np nc x y j k τ).2 110 8 = y) ∧ ¬ nI j ≤ nI (q_b1 np nc x y j k τ).1 then q_br np nc x y n (k + 1) (q_b1 np nc x y j k τ).1 (nI (q_nm k)) (q_b2 np nc x y j k τ) else q_br np nc x y n (k + 1) j b (q_b2 np nc x y j k τ)
def q_endb (v : Int32) (p : (Int32 × Nat) × sm_St) : Int32 × sm_St := (if p.1.1 = -4 then p.1.1 else if v = 0 then p.1.1 else nI p.1.2, p.2)
def p_brings (σ : sm_St) (np nc : Nat) (x y v : Int32) : Int32 × sm_St := if sm_cell x y = true ∧ sm_win v 0 1 = true then (if σ 110 7 = x ∧ σ 110 8 = y then (-4, σ) else q_endb v (q_br np nc x y 486 0 41 (-4) σ)) else (-1, σ)

set_option maxHeartbeats 2000000 in
theorem l_q_wh {np nc j k : Nat} {x y v b : Int32} (hj : j ≤ 41) {r : Option Value} {σ' : sm_St} : ∀ (m i : Nat) (τ : sm_St), i + m = j → q_P τ np → q_S τ nc → sm_W RX6 cX6_brings 10 (some .int) 8 r σ' 138 [(0, .ref 110), (1, .int x), (2, .int y), (3, .int v), (4, .int b), (5, .int (nI j)), (6, .int 0), (7, .int (nI k)), (8, .int (nI (q_wh np nc x y m i τ).1))] [] (q_wh np nc x y m i τ).2 → sm_W RX6 cX6_brings 10 (some .int) 8 r σ' 104 [(0, .ref 110), (1, .int x), (2, .int y), (3, .int v), (4, .int b), (5, .int (nI j)), (6, .int 0), (7, .int (nI k)), (8, .int (nI i))] [] τ := by
  intro m
  induction m with
  | zero =>
    intro i τ h1 hP hS kk
    refine sw_iload dX6_brings_104 rfl ?_
    refine sw_iload dX6_brings_106 rfl ?_
    refine sw_icmp_ge (tgt := 138) dX6_brings_108 (by decide) (fun _ => ?_) (fun h => absurd ((by rw [show i = j by omega]; exact Int32.le_refl _)) h)
    refine sw_lv (kk) (And.intro rfl (And.intro rfl (And.intro rfl (And.intro rfl (And.intro rfl (And.intro rfl (And.intro rfl (And.intro rfl (And.intro rfl trivial)))))))))
  | succ m ih =>
    intro i τ h1 hP hS kk
    refine sw_iload dX6_brings_104 rfl ?_
    refine sw_iload dX6_brings_106 rfl ?_
    refine sw_icmp_ge (tgt := 138) dX6_brings_108 (by decide) (fun h => absurd h ((fun h => absurd ((nI_leI (by omega) (by omega)).mp h) (by omega)))) (fun _ => ?_)
    refine sw_aload_n dX6_brings_111 rfl ?_
    refine sw_getI dX6_brings_112 fl_X6_61 rfl rfl ?_
    refine sw_iload_n dX6_brings_115 rfl ?_
    refine sw_icmp_ne (tgt := 127) dX6_brings_116 (by decide) (fun h116 => ?_) (fun h116 => ?_)
    · refine sw_aload_n dX6_brings_127 rfl ?_
      refine sw_callV dX6_brings_128 lV_X6_186 (c_q_passes hP hS) rfl rfl rfl rfl (Nat.le_of_ble_eq_true rfl) (Nat.le_of_ble_eq_true rfl) ?_
      refine sw_pop dX6_brings_131 rfl ?_
      refine sw_iinc dX6_brings_132 rfl rfl (by decide) rfl ?_
      refine sw_goto (tgt := 104) dX6_brings_135 (by decide) ?_
      rw [q_wh, if_neg (fun hh => h116 hh.1)] at kk
      refine sw_lv (ih (i + 1) _ (by omega) ⟨by rw [q_hour_o (by decide) (by decide) (by decide), q_hour_o (by decide) (by decide) (by decide)]; exact hP.1, hP.2⟩ ⟨by rw [q_hour_o (by decide) (by decide) (by decide), q_hour_o (by decide) (by decide) (by decide)]; exact hS.1, hS.2⟩ kk) (And.intro rfl (And.intro rfl (And.intro rfl (And.intro rfl (And.intro rfl (And.intro rfl (And.intro rfl (And.intro rfl (And.intro (sm_e rfl ?_) trivial)))))))))
      all_goals (rw [sm_i1, nI_succ])
    · refine sw_aload_n dX6_brings_119 rfl ?_
      refine sw_getI dX6_brings_120 fl_X6_65 rfl rfl ?_
      refine sw_iload_n dX6_brings_123 rfl ?_
      refine sw_icmp_eq (tgt := 138) dX6_brings_124 (by decide) (fun h124 => ?_) (fun h124 => ?_)
      · rw [q_wh, if_pos ⟨h116, h124⟩] at kk
        refine sw_lv (kk) (And.intro rfl (And.intro rfl (And.intro rfl (And.intro rfl (And.intro rfl (And.intro rfl (And.intro rfl (And.intro rfl (And.intro rfl trivial)))))))))
      · refine sw_aload_n dX6_brings_127 rfl ?_
        refine sw_callV dX6_brings_128 lV_X6_186 (c_q_passes hP hS) rfl rfl rfl rfl (Nat.le_of_ble_eq_true rfl) (Nat.le_of_ble_eq_true rfl) ?_
        refine sw_pop dX6_brings_131 rfl ?_
        refine sw_iinc dX6_brings_132 rfl rfl (by decide) rfl ?_
        refine sw_goto (tgt := 104) dX6_brings_135 (by decide) ?_
        rw [q_wh, if_neg (fun hh => h124 hh.2)] at kk
        refine sw_lv (ih (i + 1) _ (by omega) ⟨by rw [q_hour_o (by decide) (by decide) (by decide), q_hour_o (by decide) (by decide) (by decide)]; exact hP.1, hP.2⟩ ⟨by rw [q_hour_o (by decide) (by decide) (by decide), q_hour_o (by decide) (by decide) (by decide)]; exact hS.1, hS.2⟩ kk) (And.intro rfl (And.intro rfl (And.intro rfl (And.intro rfl (And.intro rfl (And.intro rfl (And.intro rfl (And.intro rfl (And.intro (sm_e rfl ?_) trivial)))))))))
        all_goals (rw [sm_i1, nI_succ])

set_option maxHeartbeats 2000000 in
theorem l_p_brings {np nc : Nat} {x y v : Int32} : ∀ (n k j : Nat) (b : Int32) (τ : sm_St), k + n = 486 → j ≤ 41 → q_N τ np → q_S τ nc → sm_W RX6 cX6_brings 10 (some .int) 8 (some (.int (q_endb v (q_br np nc x y n k j b τ)).1)) (q_endb v (q_br np nc x y n k j b τ)).2 53 [(0, .ref 110), (1, .int x), (2, .int y), (3, .int v), (4, .int b), (5, .int (nI j)), (6, .int 0), (7, .int (nI k))] [] τ := by
  intro n
  induction n with
  | zero =>
    intro k j b τ h1 hj hN hS
    refine sw_iload dX6_brings_53 rfl ?_
    refine sw_sipush (v := 486) dX6_brings_55 (by decide) ?_
    refine sw_icmp_ge (tgt := 235) dX6_brings_58 (by decide) (fun _ => ?_) (fun h => absurd ((by rw [show k = 486 by omega]; decide)) h)
    refine sw_iload dX6_brings_235 rfl ?_
    refine sw_bipush (v := -4) dX6_brings_237 (by decide) ?_
    refine sw_icmp_eq (tgt := 246) dX6_brings_239 (by decide) (fun h239 => ?_) (fun h239 => ?_)
    · refine sw_iload dX6_brings_246 rfl ?_
      refine sw_goto (tgt := 253) dX6_brings_248 (by decide) ?_
      refine sw_iret dX6_brings_253 rfl rfl ?_ ?_
      all_goals (first | with_reducible rfl | (simp_all [q_endb, q_br]))
    · refine sw_iload_n dX6_brings_242 rfl ?_
      refine sw_if_ne (tgt := 251) dX6_brings_243 (by decide) (fun h243 => ?_) (fun h243 => ?_)
      · refine sw_iload dX6_brings_251 rfl ?_
        refine sw_iret dX6_brings_253 rfl rfl ?_ ?_
        all_goals (first | with_reducible rfl | (simp_all [q_endb, q_br]))
      · refine sw_iload dX6_brings_246 rfl ?_
        refine sw_goto (tgt := 253) dX6_brings_248 (by decide) ?_
        refine sw_iret dX6_brings_253 rfl rfl ?_ ?_
        all_goals (first | with_reducible rfl | (simp_all [q_endb, q_br]))
  | succ n ih =>
    intro k j b τ h1 hj hN hS
    have hP1 : q_P1 (sm_set (q_lays τ 126 0) 110 28 1) np := ⟨q_N_set (by decide) (q_N_lays (by decide) hN), sm_set_eq⟩
    have hS1 : q_S (sm_set (q_lays τ 126 0) 110 28 1) nc := q_S_set (by decide) (by decide) (q_lays_S (by decide) hS)
    have hle : (q_b1 np nc x y j k τ).1 ≤ j := by have := q_wh_le (np := np + 1) (nc := nc) (x := x) (y := y) j 0 (q_b0 np k τ); unfold q_b1; omega
    refine sw_iload dX6_brings_53 rfl ?_
    refine sw_sipush (v := 486) dX6_brings_55 (by decide) ?_
    refine sw_icmp_ge (tgt := 235) dX6_brings_58 (by decide) (fun h => absurd h ((fun h => absurd ((nI_leI (by decide) (by omega)).mp (show nI 486 ≤ nI k from h)) (by omega)))) (fun _ => ?_)
    refine sw_iload dX6_brings_61 rfl ?_
    refine sw_if_ne (tgt := 235) dX6_brings_63 (by decide) (fun h => absurd (by decide) h) (fun _ => ?_)
    refine sw_aload_n dX6_brings_66 rfl ?_
    refine sw_callV dX6_brings_67 lV_X6_209 (c_q_puts) rfl rfl rfl rfl (Nat.le_of_ble_eq_true rfl) (Nat.le_of_ble_eq_true rfl) ?_
    refine sw_aload_n dX6_brings_70 rfl ?_
    refine sw_iconst (v := 1) dX6_brings_71 (by decide) ?_
    refine sw_put dX6_brings_72 fl_X6_153 fi_5_28 rfl rfl ?_
    refine sw_aload_n dX6_brings_75 rfl ?_
    refine sw_aload_n dX6_brings_76 rfl ?_
    refine sw_getI dX6_brings_77 fl_X6_84 rfl rfl ?_
    refine sw_iload dX6_brings_80 rfl ?_
    refine sw_bipush (v := 9) dX6_brings_82 (by decide) ?_
    refine sw_irem dX6_brings_84 (by decide) ?_
    refine sw_top (y := nI (k % 9)) (show nI k - nI k / 9 * 9 = nI (k % 9) from pk_rem (d := 9) (by omega) (by decide) (by decide)) ?_
    refine sw_iload dX6_brings_85 rfl ?_
    refine sw_bipush (v := 9) dX6_brings_87 (by decide) ?_
    refine sw_idiv dX6_brings_89 (by decide) ?_
    refine sw_bipush (v := 9) dX6_brings_90 (by decide) ?_
    refine sw_irem dX6_brings_92 (by decide) ?_
    refine sw_top (y := nI (k / 9 % 9)) (by rw [(show nI k / 9 = nI (k / 9) from pk_div (d := 9) (by omega) (by decide) (by decide)), (show nI (k / 9) - nI (k / 9) / 9 * 9 = nI ((k / 9) % 9) from pk_rem (d := 9) (by omega) (by decide) (by decide))]) ?_
    refine sw_iload dX6_brings_93 rfl ?_
    refine sw_bipush (v := 81) dX6_brings_95 (by decide) ?_
    refine sw_idiv dX6_brings_97 (by decide) ?_
    refine sw_top (y := nI (k / 81)) (show nI k / 81 = nI (k / 81) from pk_div (d := 81) (by omega) (by decide) (by decide)) ?_
    refine sw_callV dX6_brings_98 lV_X6_87 (c_q_sets _ _ _ _ (vp_in_e (j := np) hP1.1.1 (by have := hP1.1.2; omega) (by decide))) rfl rfl rfl rfl (Nat.le_of_ble_eq_true rfl) (Nat.le_of_ble_eq_true rfl) ?_
    refine sw_st (σ2 := q_b0 np k τ) (by unfold q_b0; rw [hP1.1.1]; rfl) ?_
    refine sw_iconst (v := 0) dX6_brings_101 (by decide) ?_
    refine sw_istore dX6_brings_102 (by decide) rfl ?_
    have e0 : q_wh (np + 1) nc x y j 0 (q_b0 np k τ) = (q_b1 np nc x y j k τ) := by rw [q_b1]
    refine sw_lv (l_q_wh hj j 0 (q_b0 np k τ) (by omega) (q_P1_P (q_at_P1 hP1)) (q_at_S hS1) ?_) (And.intro rfl (And.intro rfl (And.intro rfl (And.intro rfl (And.intro rfl (And.intro rfl (And.intro rfl (And.intro rfl (And.intro rfl trivial)))))))))
    rw [e0]
    refine sw_aload_n dX6_brings_138 rfl ?_
    refine sw_getI dX6_brings_139 fl_X6_61 rfl rfl ?_
    refine sw_iload_n dX6_brings_142 rfl ?_
    refine sw_icmp_ne (tgt := 165) dX6_brings_143 (by decide) (fun h143 => ?_) (fun h143 => ?_)
    · refine sw_iconst (v := 0) dX6_brings_165 (by decide) ?_
      refine sw_istore dX6_brings_166 (by decide) rfl ?_
      refine sw_iload dX6_brings_168 rfl ?_
      refine sw_if_eq (tgt := 202) dX6_brings_170 (by decide) (fun _ => ?_) (fun h => absurd (by decide) h)
      refine sw_iload dX6_brings_202 rfl ?_
      refine sw_istore dX6_brings_204 (by decide) rfl ?_
      refine sw_iload dX6_brings_206 rfl ?_
      refine sw_if_eq (tgt := 216) dX6_brings_208 (by decide) (fun _ => ?_) (fun h => absurd (by decide) h)
      refine sw_iload dX6_brings_216 rfl ?_
      refine sw_istore dX6_brings_218 (by decide) rfl ?_
      refine sw_aload_n dX6_brings_220 rfl ?_
      refine sw_iconst (v := 0) dX6_brings_221 (by decide) ?_
      refine sw_put dX6_brings_222 fl_X6_153 fi_5_28 rfl rfl ?_
      refine sw_aload_n dX6_brings_225 rfl ?_
      refine sw_callV dX6_brings_226 lV_X6_216 (c_q_back) rfl rfl rfl rfl (Nat.le_of_ble_eq_true rfl) (Nat.le_of_ble_eq_true rfl) ?_
      refine sw_st (σ2 := (q_b2 np nc x y j k τ)) (by rw [q_b2]) ?_
      refine sw_iinc dX6_brings_229 rfl rfl (by decide) rfl ?_
      refine sw_goto (tgt := 53) dX6_brings_232 (by decide) ?_
      rw [q_br, if_neg (fun hh => h143 hh.1.1)]
      refine sw_lv (ih (k + 1) j b _ (by omega) hj ⟨by rw [q_b2_o (by decide) (by decide)]; exact hN.1, hN.2⟩ ⟨by rw [q_b2_o (by decide) (by decide), q_b2_o (by decide) (by decide)]; exact hS.1, hS.2⟩) (And.intro rfl (And.intro rfl (And.intro rfl (And.intro rfl (And.intro rfl (And.intro rfl (And.intro rfl (And.intro (sm_e rfl ?_) trivial))))))))
      all_goals (rw [sm_i1, nI_succ])
    · refine sw_aload_n dX6_brings_146 rfl ?_
      refine sw_getI dX6_brings_147 fl_X6_65 rfl rfl ?_
      refine sw_iload_n dX6_brings_150 rfl ?_
      refine sw_icmp_ne (tgt := 165) dX6_brings_151 (by decide) (fun h151 => ?_) (fun h151 => ?_)
      · refine sw_iconst (v := 0) dX6_brings_165 (by decide) ?_
        refine sw_istore dX6_brings_166 (by decide) rfl ?_
        refine sw_iload dX6_brings_168 rfl ?_
        refine sw_if_eq (tgt := 202) dX6_brings_170 (by decide) (fun _ => ?_) (fun h => absurd (by decide) h)
        refine sw_iload dX6_brings_202 rfl ?_
        refine sw_istore dX6_brings_204 (by decide) rfl ?_
        refine sw_iload dX6_brings_206 rfl ?_
        refine sw_if_eq (tgt := 216) dX6_brings_208 (by decide) (fun _ => ?_) (fun h => absurd (by decide) h)
        refine sw_iload dX6_brings_216 rfl ?_
        refine sw_istore dX6_brings_218 (by decide) rfl ?_
        refine sw_aload_n dX6_brings_220 rfl ?_
        refine sw_iconst (v := 0) dX6_brings_221 (by decide) ?_
        refine sw_put dX6_brings_222 fl_X6_153 fi_5_28 rfl rfl ?_
        refine sw_aload_n dX6_brings_225 rfl ?_
        refine sw_callV dX6_brings_226 lV_X6_216 (c_q_back) rfl rfl rfl rfl (Nat.le_of_ble_eq_true rfl) (Nat.le_of_ble_eq_true rfl) ?_
        refine sw_st (σ2 := (q_b2 np nc x y j k τ)) (by rw [q_b2]) ?_
        refine sw_iinc dX6_brings_229 rfl rfl (by decide) rfl ?_
        refine sw_goto (tgt := 53) dX6_brings_232 (by decide) ?_
        rw [q_br, if_neg (fun hh => h151 hh.1.2)]
        refine sw_lv (ih (k + 1) j b _ (by omega) hj ⟨by rw [q_b2_o (by decide) (by decide)]; exact hN.1, hN.2⟩ ⟨by rw [q_b2_o (by decide) (by decide), q_b2_o (by decide) (by decide)]; exact hS.1, hS.2⟩) (And.intro rfl (And.intro rfl (And.intro rfl (And.intro rfl (And.intro rfl (And.intro rfl (And.intro rfl (And.intro (sm_e rfl ?_) trivial))))))))
        all_goals (rw [sm_i1, nI_succ])
      · refine sw_iload dX6_brings_154 rfl ?_
        refine sw_iload dX6_brings_156 rfl ?_
        refine sw_icmp_ge (tgt := 165) dX6_brings_158 (by decide) (fun h158 => ?_) (fun h158 => ?_)
        · refine sw_iconst (v := 0) dX6_brings_165 (by decide) ?_
          refine sw_istore dX6_brings_166 (by decide) rfl ?_
          refine sw_iload dX6_brings_168 rfl ?_
          refine sw_if_eq (tgt := 202) dX6_brings_170 (by decide) (fun _ => ?_) (fun h => absurd (by decide) h)
          refine sw_iload dX6_brings_202 rfl ?_
          refine sw_istore dX6_brings_204 (by decide) rfl ?_
          refine sw_iload dX6_brings_206 rfl ?_
          refine sw_if_eq (tgt := 216) dX6_brings_208 (by decide) (fun _ => ?_) (fun h => absurd (by decide) h)
          refine sw_iload dX6_brings_216 rfl ?_
          refine sw_istore dX6_brings_218 (by decide) rfl ?_
          refine sw_aload_n dX6_brings_220 rfl ?_
          refine sw_iconst (v := 0) dX6_brings_221 (by decide) ?_
          refine sw_put dX6_brings_222 fl_X6_153 fi_5_28 rfl rfl ?_
          refine sw_aload_n dX6_brings_225 rfl ?_
          refine sw_callV dX6_brings_226 lV_X6_216 (c_q_back) rfl rfl rfl rfl (Nat.le_of_ble_eq_true rfl) (Nat.le_of_ble_eq_true rfl) ?_
          refine sw_st (σ2 := (q_b2 np nc x y j k τ)) (by rw [q_b2]) ?_
          refine sw_iinc dX6_brings_229 rfl rfl (by decide) rfl ?_
          refine sw_goto (tgt := 53) dX6_brings_232 (by decide) ?_
          rw [q_br, if_neg (fun hh => hh.2 h158)]
          refine sw_lv (ih (k + 1) j b _ (by omega) hj ⟨by rw [q_b2_o (by decide) (by decide)]; exact hN.1, hN.2⟩ ⟨by rw [q_b2_o (by decide) (by decide), q_b2_o (by decide) (by decide)]; exact hS.1, hS.2⟩) (And.intro rfl (And.intro rfl (And.intro rfl (And.intro rfl (And.intro rfl (And.intro rfl (And.intro rfl (And.intro (sm_e rfl ?_) trivial))))))))
          all_goals (rw [sm_i1, nI_succ])
        · refine sw_iconst (v := 1) dX6_brings_161 (by decide) ?_
          refine sw_goto (tgt := 166) dX6_brings_162 (by decide) ?_
          refine sw_istore dX6_brings_166 (by decide) rfl ?_
          refine sw_iload dX6_brings_168 rfl ?_
          refine sw_if_eq (tgt := 202) dX6_brings_170 (by decide) (fun h => absurd h (by decide)) (fun _ => ?_)
          refine sw_bipush (v := 100) dX6_brings_173 (by decide) ?_
          refine sw_iload dX6_brings_175 rfl ?_
          refine sw_bipush (v := 81) dX6_brings_177 (by decide) ?_
          refine sw_idiv dX6_brings_179 (by decide) ?_
          refine sw_top (y := nI (k / 81)) (show nI k / 81 = nI (k / 81) from pk_div (d := 81) (by omega) (by decide) (by decide)) ?_
          refine sw_imul dX6_brings_180 ?_
          refine sw_bipush (v := 10) dX6_brings_181 (by decide) ?_
          refine sw_iload dX6_brings_183 rfl ?_
          refine sw_bipush (v := 9) dX6_brings_185 (by decide) ?_
          refine sw_idiv dX6_brings_187 (by decide) ?_
          refine sw_bipush (v := 9) dX6_brings_188 (by decide) ?_
          refine sw_irem dX6_brings_190 (by decide) ?_
          refine sw_top (y := nI (k / 9 % 9)) (by rw [(show nI k / 9 = nI (k / 9) from pk_div (d := 9) (by omega) (by decide) (by decide)), (show nI (k / 9) - nI (k / 9) / 9 * 9 = nI ((k / 9) % 9) from pk_rem (d := 9) (by omega) (by decide) (by decide))]) ?_
          refine sw_imul dX6_brings_191 ?_
          refine sw_iadd dX6_brings_192 ?_
          refine sw_iload dX6_brings_193 rfl ?_
          refine sw_bipush (v := 9) dX6_brings_195 (by decide) ?_
          refine sw_irem dX6_brings_197 (by decide) ?_
          refine sw_top (y := nI (k % 9)) (show nI k - nI k / 9 * 9 = nI (k % 9) from pk_rem (d := 9) (by omega) (by decide) (by decide)) ?_
          refine sw_iadd dX6_brings_198 ?_
          refine sw_top (y := nI (q_nm k)) (q_nm_e k) ?_
          refine sw_goto (tgt := 204) dX6_brings_199 (by decide) ?_
          refine sw_istore dX6_brings_204 (by decide) rfl ?_
          refine sw_iload dX6_brings_206 rfl ?_
          refine sw_if_eq (tgt := 216) dX6_brings_208 (by decide) (fun h => absurd h (by decide)) (fun _ => ?_)
          refine sw_iload dX6_brings_211 rfl ?_
          refine sw_goto (tgt := 218) dX6_brings_213 (by decide) ?_
          refine sw_istore dX6_brings_218 (by decide) rfl ?_
          refine sw_aload_n dX6_brings_220 rfl ?_
          refine sw_iconst (v := 0) dX6_brings_221 (by decide) ?_
          refine sw_put dX6_brings_222 fl_X6_153 fi_5_28 rfl rfl ?_
          refine sw_aload_n dX6_brings_225 rfl ?_
          refine sw_callV dX6_brings_226 lV_X6_216 (c_q_back) rfl rfl rfl rfl (Nat.le_of_ble_eq_true rfl) (Nat.le_of_ble_eq_true rfl) ?_
          refine sw_st (σ2 := (q_b2 np nc x y j k τ)) (by rw [q_b2]) ?_
          refine sw_iinc dX6_brings_229 rfl rfl (by decide) rfl ?_
          refine sw_goto (tgt := 53) dX6_brings_232 (by decide) ?_
          rw [q_br, if_pos ⟨⟨h143, h151⟩, h158⟩]
          refine sw_lv (ih (k + 1) (q_b1 np nc x y j k τ).1 _ _ (by omega) (Nat.le_trans hle hj) ⟨by rw [q_b2_o (by decide) (by decide)]; exact hN.1, hN.2⟩ ⟨by rw [q_b2_o (by decide) (by decide), q_b2_o (by decide) (by decide)]; exact hS.1, hS.2⟩) (And.intro rfl (And.intro rfl (And.intro rfl (And.intro rfl (And.intro rfl (And.intro rfl (And.intro rfl (And.intro (sm_e rfl ?_) trivial))))))))
          all_goals (rw [sm_i1, nI_succ])

set_option maxHeartbeats 2000000 in
theorem c_p_brings {σ : sm_St} {np : Nat} (hN : q_N σ np) {nc : Nat} (hC : q_C σ nc) (h0 : q_0 σ) (x y v : Int32) : sm_C yX6_brings cX6_brings 10 (some .int) 8 [.ref 110, .int x, .int y, .int v] σ (some (.int ((p_brings σ np nc x y v).1))) (p_brings σ np nc x y v).2 := by
  refine sm_C.of (own := RX6) (by decide) rfl (Nat.le_of_ble_eq_true rfl) ?_
  have hP := q_P_of hN h0
  have hS := q_S_of hC h0
  show sm_W RX6 cX6_brings 10 (some .int) 8 (some (.int ((p_brings σ np nc x y v).1))) (p_brings σ np nc x y v).2 0 [(0, .ref 110), (1, .int x), (2, .int y), (3, .int v)] [] σ
  refine sw_iload_n dX6_brings_0 rfl ?_
  refine sw_iload_n dX6_brings_1 rfl ?_
  refine sw_callS dX6_brings_2 lS_X6_179 (c_q_isCell _ _) rfl rfl (Nat.le_of_ble_eq_true rfl) (Nat.le_of_ble_eq_true rfl) ?_
  refine sw_if_eq (tgt := 17) dX6_brings_5 (by decide) (fun h5 => ?_) (fun h5 => ?_)
  · refine sw_iconst (v := -1) dX6_brings_17 (by decide) ?_
    refine sw_iret dX6_brings_18 rfl rfl ?_ ?_
    all_goals (first | with_reducible rfl | (simp_all [-Int32.not_lt, -Int32.not_le, sm_b_e0, sm_b_e1, sm_b_0e, sm_b_1e, p_brings]))
  · refine sw_iload_n dX6_brings_8 rfl ?_
    refine sw_iconst (v := 0) dX6_brings_9 (by decide) ?_
    refine sw_iconst (v := 1) dX6_brings_10 (by decide) ?_
    refine sw_callS dX6_brings_11 lS_X6_94 (c_q_in _ _ _) rfl rfl (Nat.le_of_ble_eq_true rfl) (Nat.le_of_ble_eq_true rfl) ?_
    refine sw_if_ne (tgt := 19) dX6_brings_14 (by decide) (fun h14 => ?_) (fun h14 => ?_)
    · refine sw_bipush (v := -4) dX6_brings_19 (by decide) ?_
      refine sw_istore dX6_brings_21 (by decide) rfl ?_
      refine sw_bipush (v := 41) dX6_brings_23 (by decide) ?_
      refine sw_istore dX6_brings_25 (by decide) rfl ?_
      refine sw_aload_n dX6_brings_27 rfl ?_
      refine sw_getI dX6_brings_28 fl_X6_61 rfl rfl ?_
      refine sw_iload_n dX6_brings_31 rfl ?_
      refine sw_icmp_ne (tgt := 47) dX6_brings_32 (by decide) (fun h32 => ?_) (fun h32 => ?_)
      · refine sw_iconst (v := 0) dX6_brings_47 (by decide) ?_
        refine sw_istore dX6_brings_48 (by decide) rfl ?_
        refine sw_iconst (v := 0) dX6_brings_50 (by decide) ?_
        refine sw_istore dX6_brings_51 (by decide) rfl ?_
        have e : p_brings σ np nc x y v = q_endb v (q_br np nc x y 486 0 41 (-4) σ) := by simp_all [p_brings, sm_b_e0, sm_b_e1]
        rw [e]
        refine sw_lv (l_p_brings 486 0 41 (-4) σ (by decide) (by decide) hN hS) (And.intro rfl (And.intro rfl (And.intro rfl (And.intro rfl (And.intro rfl (And.intro rfl (And.intro rfl (And.intro rfl trivial))))))))
      · refine sw_aload_n dX6_brings_35 rfl ?_
        refine sw_getI dX6_brings_36 fl_X6_65 rfl rfl ?_
        refine sw_iload_n dX6_brings_39 rfl ?_
        refine sw_icmp_ne (tgt := 47) dX6_brings_40 (by decide) (fun h40 => ?_) (fun h40 => ?_)
        · refine sw_iconst (v := 0) dX6_brings_47 (by decide) ?_
          refine sw_istore dX6_brings_48 (by decide) rfl ?_
          refine sw_iconst (v := 0) dX6_brings_50 (by decide) ?_
          refine sw_istore dX6_brings_51 (by decide) rfl ?_
          have e : p_brings σ np nc x y v = q_endb v (q_br np nc x y 486 0 41 (-4) σ) := by simp_all [p_brings, sm_b_e0, sm_b_e1]
          rw [e]
          refine sw_lv (l_p_brings 486 0 41 (-4) σ (by decide) (by decide) hN hS) (And.intro rfl (And.intro rfl (And.intro rfl (And.intro rfl (And.intro rfl (And.intro rfl (And.intro rfl (And.intro rfl trivial))))))))
        · refine sw_iconst (v := 1) dX6_brings_43 (by decide) ?_
          refine sw_goto (tgt := 48) dX6_brings_44 (by decide) ?_
          refine sw_istore dX6_brings_48 (by decide) rfl ?_
          refine sw_iconst (v := 0) dX6_brings_50 (by decide) ?_
          refine sw_istore dX6_brings_51 (by decide) rfl ?_
          refine sw_iload dX6_brings_53 rfl ?_
          refine sw_sipush (v := 486) dX6_brings_55 (by decide) ?_
          refine sw_icmp_ge (tgt := 235) dX6_brings_58 (by decide) (fun h => absurd h (by decide)) (fun _ => ?_)
          refine sw_iload dX6_brings_61 rfl ?_
          refine sw_if_ne (tgt := 235) dX6_brings_63 (by decide) (fun _ => ?_) (fun h => absurd h (by decide))
          refine sw_iload dX6_brings_235 rfl ?_
          refine sw_bipush (v := -4) dX6_brings_237 (by decide) ?_
          refine sw_icmp_eq (tgt := 246) dX6_brings_239 (by decide) (fun _ => ?_) (fun h => absurd (by decide) h)
          refine sw_iload dX6_brings_246 rfl ?_
          refine sw_goto (tgt := 253) dX6_brings_248 (by decide) ?_
          refine sw_iret dX6_brings_253 rfl rfl ?_ ?_
          all_goals (first | with_reducible rfl | (simp_all [-Int32.not_lt, -Int32.not_le, sm_b_e0, sm_b_e1, sm_b_0e, sm_b_1e, p_brings]))
    · refine sw_iconst (v := -1) dX6_brings_17 (by decide) ?_
      refine sw_iret dX6_brings_18 rfl rfl ?_ ?_
      all_goals (first | with_reducible rfl | (simp_all [-Int32.not_lt, -Int32.not_le, sm_b_e0, sm_b_e1, sm_b_0e, sm_b_1e, p_brings]))

theorem y_read_R : ∀ (n : Nat) (τ : sm_St), (∃ rp rc, q_R τ rp rc) → ∃ rp rc, q_R (y_read n τ).2 rp rc
  | 0, _, h => h
  | n + 1, τ, h => by
    obtain ⟨rp, rc, hR⟩ := h
    have h2 : ∃ rp2 rc2, q_R (y_itm τ).2 rp2 rc2 := by
      rw [y_itm_e hR]
      exact y_kind_R (y_inc_R hR)
    unfold y_read
    split
    · exact ⟨rp, rc, hR⟩
    · split
      · exact y_read_R n _ h2
      · exact h2
theorem y_fault_R (σ : sm_St) : ∃ rp rc, q_R (y_fault σ).2 rp rc := y_read_R _ _ ⟨0, 0, y_start_R⟩
def y_p1 (i : Nat) (τ : sm_St) : sm_St := q_sets τ (nI i) (r_at (τ 123) 15 (3 * nI i)) (r_at (τ 123) 15 (3 * nI i + 1)) (r_at (τ 123) 15 (3 * nI i + 2))
def y_lp : Nat → Nat → sm_St → sm_St
  | 0, _, τ => τ
  | n + 1, i, τ => y_lp n (i + 1) (y_p1 i τ)
def y_c1 (i : Nat) (τ : sm_St) : sm_St := r_set (r_set (r_set τ 111 8 (nI i) (r_at (τ 124) 21 (3 * nI i))) 112 8 (nI i) (r_at (τ 124) 21 (3 * nI i + 1))) 113 8 (nI i) (r_at (τ 124) 21 (3 * nI i + 2))
def y_lc : Nat → Nat → sm_St → sm_St
  | 0, _, τ => τ
  | n + 1, i, τ => y_lc n (i + 1) (y_c1 i τ)
theorem y_p1_off {i q : Nat} {τ : sm_St} (h : q < 114 ∨ 117 < q) : y_p1 i τ q = τ q := q_sets_off h
theorem y_c1_off {i q : Nat} {τ : sm_St} (h : q < 111 ∨ 113 < q) : y_c1 i τ q = τ q := by
  unfold y_c1
  rw [r_set_off (by omega), r_set_off (by omega), r_set_off (by omega)]
theorem y_lp_off {q : Nat} (h : q < 114 ∨ 117 < q) : ∀ (n i : Nat) (τ : sm_St), y_lp n i τ q = τ q
  | 0, _, _ => rfl
  | n + 1, i, τ => by
    show y_lp n (i + 1) (y_p1 i τ) q = τ q
    rw [y_lp_off h n, y_p1_off h]
theorem y_lc_off {q : Nat} (h : q < 111 ∨ 113 < q) : ∀ (n i : Nat) (τ : sm_St), y_lc n i τ q = τ q
  | 0, _, _ => rfl
  | n + 1, i, τ => by
    show y_lc n (i + 1) (y_c1 i τ) q = τ q
    rw [y_lc_off h n, y_c1_off h]
/-- the head of what was read, laid -/
def y_head (τ : sm_St) : sm_St := sm_set (sm_set (sm_set (sm_set (sm_set (sm_set (sm_set τ 110 7 (r_at (τ 122) 5 0)) 110 8 (r_at (τ 122) 5 1)) 110 2 (r_at (τ 122) 5 2)) 110 9 (r_at (τ 122) 5 3)) 110 10 (r_at (τ 122) 5 4)) 110 0 (τ 110 22)) 110 1 (τ 110 23)
def y_tail (τ : sm_St) : sm_St := sm_set (sm_set (sm_set (sm_set τ 110 6 0) 110 15 0) 110 31 0) 110 34 0
def y_laid (τ : sm_St) : sm_St := y_tail (y_lc (τ 110 23).toNatClampNeg 0 (y_lp (τ 110 22).toNatClampNeg 0 (y_head τ)))
def p_lay (σ : sm_St) : Int32 × sm_St := if ¬ (y_fault σ).1 = -4 ∨ (y_fault σ).2 110 22 = 0 ∨ (y_fault σ).2 110 23 = 0 then (-2, (y_fault σ).2) else ((y_fault σ).2 110 23, y_laid (y_fault σ).2)

theorem y_ix (i c : Nat) : 3 * nI i + nI c = nI (3 * i + c) := by
  rw [show (3 : Int32) * nI i = nI (3 * i) from pk_mul 3 i, nI_add]

set_option maxHeartbeats 2000000 in
theorem l_y_posts {np : Nat} {r : Option Value} {σ' : sm_St} : ∀ (n i : Nat) (τ : sm_St), i + n = np → q_N τ np → sm_W RX6 cX6_lay 2 (some .int) 6 r σ' 141 [(0, .ref 110)] [] (y_lp n i τ) → sm_W RX6 cX6_lay 2 (some .int) 6 r σ' 94 [(0, .ref 110), (1, .int (nI i))] [] τ := by
  intro n
  induction n with
  | zero =>
    intro i τ h1 hN k
    have hn5 := hN.2
    refine sw_iload_n dX6_lay_94 rfl ?_
    refine sw_aload_n dX6_lay_95 rfl ?_
    refine sw_getI dX6_lay_96 fl_X6_84 rfl rfl ?_
    refine sw_icmp_ge (tgt := 141) dX6_lay_99 (by decide) (fun _ => ?_) (fun h => absurd ((by rw [hN.1]; exact nI_le (by omega) (by omega))) h)
    refine sw_lv (k) (And.intro rfl trivial)
  | succ n ih =>
    intro i τ h1 hN k
    have hn5 := hN.2
    refine sw_iload_n dX6_lay_94 rfl ?_
    refine sw_aload_n dX6_lay_95 rfl ?_
    refine sw_getI dX6_lay_96 fl_X6_84 rfl rfl ?_
    refine sw_icmp_ge (tgt := 141) dX6_lay_99 (by decide) (fun h => absurd h ((fun h => absurd ((nI_leI (by omega) (by omega)).mp (hN.1 ▸ h)) (by omega)))) (fun _ => ?_)
    refine sw_aload_n dX6_lay_102 rfl ?_
    refine sw_iload_n dX6_lay_103 rfl ?_
    refine sw_aload_n dX6_lay_104 rfl ?_
    refine sw_getR (j := 123) dX6_lay_105 fl_X6_46 rfl rfl ?_
    refine sw_iconst (v := 3) dX6_lay_108 (by decide) ?_
    refine sw_iload_n dX6_lay_109 rfl ?_
    refine sw_imul dX6_lay_110 ?_
    refine sw_ialdR dX6_lay_111 rfl (vp_in_e (j := 3 * i) (pk_mul 3 i) (by omega) (by decide)) ?_
    refine sw_aload_n dX6_lay_112 rfl ?_
    refine sw_getR (j := 123) dX6_lay_113 fl_X6_46 rfl rfl ?_
    refine sw_iconst (v := 3) dX6_lay_116 (by decide) ?_
    refine sw_iload_n dX6_lay_117 rfl ?_
    refine sw_imul dX6_lay_118 ?_
    refine sw_iconst (v := 1) dX6_lay_119 (by decide) ?_
    refine sw_iadd dX6_lay_120 ?_
    refine sw_ialdR dX6_lay_121 rfl (vp_in_e (j := 3 * i + 1) (y_ix i 1) (by omega) (by decide)) ?_
    refine sw_aload_n dX6_lay_122 rfl ?_
    refine sw_getR (j := 123) dX6_lay_123 fl_X6_46 rfl rfl ?_
    refine sw_iconst (v := 3) dX6_lay_126 (by decide) ?_
    refine sw_iload_n dX6_lay_127 rfl ?_
    refine sw_imul dX6_lay_128 ?_
    refine sw_iconst (v := 2) dX6_lay_129 (by decide) ?_
    refine sw_iadd dX6_lay_130 ?_
    refine sw_ialdR dX6_lay_131 rfl (vp_in_e (j := 3 * i + 2) (y_ix i 2) (by omega) (by decide)) ?_
    refine sw_callV dX6_lay_132 lV_X6_87 (c_q_sets _ _ _ _ (vp_in_nI (by omega) (by decide))) rfl rfl rfl rfl (Nat.le_of_ble_eq_true rfl) (Nat.le_of_ble_eq_true rfl) ?_
    refine sw_iinc dX6_lay_135 rfl rfl (by decide) rfl ?_
    refine sw_goto (tgt := 94) dX6_lay_138 (by decide) ?_
    refine sw_st (σ2 := y_p1 i τ) rfl ?_
    refine sw_lv (ih (i + 1) _ (by omega) ⟨by rw [y_p1_off (by decide)]; exact hN.1, hN.2⟩ k) (And.intro rfl (And.intro (sm_e rfl ?_) trivial))
    all_goals (rw [sm_i1, nI_succ])

set_option maxHeartbeats 2000000 in
theorem l_y_crew {nc : Nat} {r : Option Value} {σ' : sm_St} : ∀ (n i : Nat) (τ : sm_St), i + n = nc → q_C τ nc → sm_W RX6 cX6_lay 2 (some .int) 6 r σ' 203 [(0, .ref 110)] [] (y_lc n i τ) → sm_W RX6 cX6_lay 2 (some .int) 6 r σ' 143 [(0, .ref 110), (1, .int (nI i))] [] τ := by
  intro n
  induction n with
  | zero =>
    intro i τ h1 hC k
    have hn5 := hC.2
    refine sw_iload_n dX6_lay_143 rfl ?_
    refine sw_aload_n dX6_lay_144 rfl ?_
    refine sw_getI dX6_lay_145 fl_X6_91 rfl rfl ?_
    refine sw_icmp_ge (tgt := 203) dX6_lay_148 (by decide) (fun _ => ?_) (fun h => absurd ((by rw [hC.1]; exact nI_le (by omega) (by omega))) h)
    refine sw_lv (k) (And.intro rfl trivial)
  | succ n ih =>
    intro i τ h1 hC k
    have hn5 := hC.2
    refine sw_iload_n dX6_lay_143 rfl ?_
    refine sw_aload_n dX6_lay_144 rfl ?_
    refine sw_getI dX6_lay_145 fl_X6_91 rfl rfl ?_
    refine sw_icmp_ge (tgt := 203) dX6_lay_148 (by decide) (fun h => absurd h ((fun h => absurd ((nI_leI (by omega) (by omega)).mp (hC.1 ▸ h)) (by omega)))) (fun _ => ?_)
    refine sw_aload_n dX6_lay_151 rfl ?_
    refine sw_getR (j := 111) dX6_lay_152 fl_X6_9 rfl rfl ?_
    refine sw_iload_n dX6_lay_155 rfl ?_
    refine sw_aload_n dX6_lay_156 rfl ?_
    refine sw_getR (j := 124) dX6_lay_157 fl_X6_49 rfl rfl ?_
    refine sw_iconst (v := 3) dX6_lay_160 (by decide) ?_
    refine sw_iload_n dX6_lay_161 rfl ?_
    refine sw_imul dX6_lay_162 ?_
    refine sw_ialdR dX6_lay_163 rfl (vp_in_e (j := 3 * i) (pk_mul 3 i) (by omega) (by decide)) ?_
    refine sw_iastR dX6_lay_164 rfl (vp_in_nI (by omega) (by decide)) ?_
    refine sw_aload_n dX6_lay_165 rfl ?_
    refine sw_getR (j := 112) dX6_lay_166 fl_X6_13 rfl rfl ?_
    refine sw_iload_n dX6_lay_169 rfl ?_
    refine sw_aload_n dX6_lay_170 rfl ?_
    refine sw_getR (j := 124) dX6_lay_171 fl_X6_49 rfl rfl ?_
    refine sw_iconst (v := 3) dX6_lay_174 (by decide) ?_
    refine sw_iload_n dX6_lay_175 rfl ?_
    refine sw_imul dX6_lay_176 ?_
    refine sw_iconst (v := 1) dX6_lay_177 (by decide) ?_
    refine sw_iadd dX6_lay_178 ?_
    refine sw_ialdR dX6_lay_179 rfl (vp_in_e (j := 3 * i + 1) (y_ix i 1) (by omega) (by decide)) ?_
    refine sw_top (y := r_at (τ 124) 21 (3 * nI i + 1)) (by rw [r_set_off (by decide)]) ?_
    refine sw_iastR dX6_lay_180 rfl (vp_in_nI (by omega) (by decide)) ?_
    refine sw_aload_n dX6_lay_181 rfl ?_
    refine sw_getR (j := 113) dX6_lay_182 fl_X6_16 rfl rfl ?_
    refine sw_iload_n dX6_lay_185 rfl ?_
    refine sw_aload_n dX6_lay_186 rfl ?_
    refine sw_getR (j := 124) dX6_lay_187 fl_X6_49 rfl rfl ?_
    refine sw_iconst (v := 3) dX6_lay_190 (by decide) ?_
    refine sw_iload_n dX6_lay_191 rfl ?_
    refine sw_imul dX6_lay_192 ?_
    refine sw_iconst (v := 2) dX6_lay_193 (by decide) ?_
    refine sw_iadd dX6_lay_194 ?_
    refine sw_ialdR dX6_lay_195 rfl (vp_in_e (j := 3 * i + 2) (y_ix i 2) (by omega) (by decide)) ?_
    refine sw_top (y := r_at (τ 124) 21 (3 * nI i + 2)) (by rw [r_set_off (by decide), r_set_off (by decide)]) ?_
    refine sw_iastR dX6_lay_196 rfl (vp_in_nI (by omega) (by decide)) ?_
    refine sw_iinc dX6_lay_197 rfl rfl (by decide) rfl ?_
    refine sw_goto (tgt := 143) dX6_lay_200 (by decide) ?_
    refine sw_st (σ2 := y_c1 i τ) rfl ?_
    refine sw_lv (ih (i + 1) _ (by omega) ⟨by rw [y_c1_off (by decide)]; exact hC.1, hC.2⟩ k) (And.intro rfl (And.intro (sm_e rfl ?_) trivial))
    all_goals (rw [sm_i1, nI_succ])

set_option maxHeartbeats 2000000 in
theorem c_p_lay {σ : sm_St} {z : Nat} (hz : σ 110 20 = nI z ∧ z ≤ 200) : sm_C yX6_lay cX6_lay 2 (some .int) 6 [.ref 110] σ (some (.int (p_lay σ).1)) (p_lay σ).2 := by
  refine sm_C.of (own := RX6) (by decide) rfl (Nat.le_of_ble_eq_true rfl) ?_
  show sm_W RX6 cX6_lay 2 (some .int) 6 (some (.int (p_lay σ).1)) (p_lay σ).2 0 [(0, .ref 110)] [] σ
  refine sw_aload_n dX6_lay_0 rfl ?_
  refine sw_callV dX6_lay_1 lV_X6_134 (c_y_fault hz) rfl rfl rfl rfl (Nat.le_of_ble_eq_true rfl) (Nat.le_of_ble_eq_true rfl) ?_
  refine sw_bipush (v := -4) dX6_lay_4 (by decide) ?_
  refine sw_icmp_ne (tgt := 23) dX6_lay_6 (by decide) (fun h6 => ?_) (fun h6 => ?_)
  · refine sw_bipush (v := -2) dX6_lay_23 (by decide) ?_
    refine sw_iret dX6_lay_25 rfl rfl ?_ ?_
    all_goals (first | with_reducible rfl | (simp_all [-Int32.not_lt, -Int32.not_le, sm_b_e0, sm_b_e1, sm_b_0e, sm_b_1e, p_lay]))
  · refine sw_aload_n dX6_lay_9 rfl ?_
    refine sw_getI dX6_lay_10 fl_X6_125 rfl rfl ?_
    refine sw_if_eq (tgt := 23) dX6_lay_13 (by decide) (fun h13 => ?_) (fun h13 => ?_)
    · refine sw_bipush (v := -2) dX6_lay_23 (by decide) ?_
      refine sw_iret dX6_lay_25 rfl rfl ?_ ?_
      all_goals (first | with_reducible rfl | (simp_all [-Int32.not_lt, -Int32.not_le, sm_b_e0, sm_b_e1, sm_b_0e, sm_b_1e, p_lay]))
    · refine sw_aload_n dX6_lay_16 rfl ?_
      refine sw_getI dX6_lay_17 fl_X6_128 rfl rfl ?_
      refine sw_if_ne (tgt := 26) dX6_lay_20 (by decide) (fun h20 => ?_) (fun h20 => ?_)
      · have hgo : ¬ (¬ (y_fault σ).1 = -4 ∨ (y_fault σ).2 110 22 = 0 ∨ (y_fault σ).2 110 23 = 0) := by simp_all
        refine sw_aload_n dX6_lay_26 rfl ?_
        refine sw_aload_n dX6_lay_27 rfl ?_
        refine sw_getR (j := 122) dX6_lay_28 fl_X6_43 rfl rfl ?_
        refine sw_iconst (v := 0) dX6_lay_31 (by decide) ?_
        refine sw_ialdR dX6_lay_32 rfl (vp_in_nI (n := 0) (by decide) (by decide)) ?_
        refine sw_top (y := r_at ((y_fault σ).2 122) 5 0) (by simp only [sm_set_off (show (122 : Nat) ≠ 110 by decide)]) ?_
        refine sw_put dX6_lay_33 fl_X6_61 fi_5_7 rfl rfl ?_
        refine sw_aload_n dX6_lay_36 rfl ?_
        refine sw_aload_n dX6_lay_37 rfl ?_
        refine sw_getR (j := 122) dX6_lay_38 fl_X6_43 rfl rfl ?_
        refine sw_iconst (v := 1) dX6_lay_41 (by decide) ?_
        refine sw_ialdR dX6_lay_42 rfl (vp_in_nI (n := 1) (by decide) (by decide)) ?_
        refine sw_top (y := r_at ((y_fault σ).2 122) 5 1) (by simp only [sm_set_off (show (122 : Nat) ≠ 110 by decide)]) ?_
        refine sw_put dX6_lay_43 fl_X6_65 fi_5_8 rfl rfl ?_
        refine sw_aload_n dX6_lay_46 rfl ?_
        refine sw_aload_n dX6_lay_47 rfl ?_
        refine sw_getR (j := 122) dX6_lay_48 fl_X6_43 rfl rfl ?_
        refine sw_iconst (v := 2) dX6_lay_51 (by decide) ?_
        refine sw_ialdR dX6_lay_52 rfl (vp_in_nI (n := 2) (by decide) (by decide)) ?_
        refine sw_top (y := r_at ((y_fault σ).2 122) 5 2) (by simp only [sm_set_off (show (122 : Nat) ≠ 110 by decide)]) ?_
        refine sw_put dX6_lay_53 fl_X6_68 fi_5_2 rfl rfl ?_
        refine sw_aload_n dX6_lay_56 rfl ?_
        refine sw_aload_n dX6_lay_57 rfl ?_
        refine sw_getR (j := 122) dX6_lay_58 fl_X6_43 rfl rfl ?_
        refine sw_iconst (v := 3) dX6_lay_61 (by decide) ?_
        refine sw_ialdR dX6_lay_62 rfl (vp_in_nI (n := 3) (by decide) (by decide)) ?_
        refine sw_top (y := r_at ((y_fault σ).2 122) 5 3) (by simp only [sm_set_off (show (122 : Nat) ≠ 110 by decide)]) ?_
        refine sw_put dX6_lay_63 fl_X6_71 fi_5_9 rfl rfl ?_
        refine sw_aload_n dX6_lay_66 rfl ?_
        refine sw_aload_n dX6_lay_67 rfl ?_
        refine sw_getR (j := 122) dX6_lay_68 fl_X6_43 rfl rfl ?_
        refine sw_iconst (v := 4) dX6_lay_71 (by decide) ?_
        refine sw_ialdR dX6_lay_72 rfl (vp_in_nI (n := 4) (by decide) (by decide)) ?_
        refine sw_top (y := r_at ((y_fault σ).2 122) 5 4) (by simp only [sm_set_off (show (122 : Nat) ≠ 110 by decide)]) ?_
        refine sw_put dX6_lay_73 fl_X6_74 fi_5_10 rfl rfl ?_
        refine sw_aload_n dX6_lay_76 rfl ?_
        refine sw_aload_n dX6_lay_77 rfl ?_
        refine sw_getI dX6_lay_78 fl_X6_125 rfl rfl ?_
        refine sw_top (y := (y_fault σ).2 110 22) (by simp only [sm_set_ne (show (22 : Nat) ≠ 7 by decide), sm_set_ne (show (22 : Nat) ≠ 8 by decide), sm_set_ne (show (22 : Nat) ≠ 2 by decide), sm_set_ne (show (22 : Nat) ≠ 9 by decide), sm_set_ne (show (22 : Nat) ≠ 10 by decide)]) ?_
        refine sw_put dX6_lay_81 fl_X6_84 fi_5_0 rfl rfl ?_
        refine sw_aload_n dX6_lay_84 rfl ?_
        refine sw_aload_n dX6_lay_85 rfl ?_
        refine sw_getI dX6_lay_86 fl_X6_128 rfl rfl ?_
        refine sw_top (y := (y_fault σ).2 110 23) (by simp only [sm_set_ne (show (23 : Nat) ≠ 7 by decide), sm_set_ne (show (23 : Nat) ≠ 8 by decide), sm_set_ne (show (23 : Nat) ≠ 2 by decide), sm_set_ne (show (23 : Nat) ≠ 9 by decide), sm_set_ne (show (23 : Nat) ≠ 10 by decide), sm_set_ne (show (23 : Nat) ≠ 0 by decide)]) ?_
        refine sw_put dX6_lay_89 fl_X6_91 fi_5_1 rfl rfl ?_
        refine sw_iconst (v := 0) dX6_lay_92 (by decide) ?_
        refine sw_istore_n dX6_lay_93 (by decide) rfl ?_
        obtain ⟨rp, rc, ⟨hr1, hr2⟩, hr3, hr4⟩ := y_fault_R σ
        rw [p_lay, if_neg hgo]
        refine sw_st (σ2 := y_head (y_fault σ).2) rfl ?_
        have hN : q_N (y_head (y_fault σ).2) rp := ⟨by unfold y_head; rw [sm_set_ne (by decide), sm_set_eq]; exact hr1, hr2⟩
        have hC : q_C (y_lp rp 0 (y_head (y_fault σ).2)) rc := ⟨by rw [y_lp_off (by decide)]; unfold y_head; rw [sm_set_eq]; exact hr3, hr4⟩
        have eL : y_laid (y_fault σ).2 = y_tail (y_lc rc 0 (y_lp rp 0 (y_head (y_fault σ).2))) := by unfold y_laid; rw [hr1, hr3, nI_clamp (by omega), nI_clamp (by omega)]
        rw [eL]
        refine sw_lv (l_y_posts rp 0 _ (by omega) hN ?_) (And.intro rfl (And.intro rfl trivial))
        refine sw_iconst (v := 0) dX6_lay_141 (by decide) ?_
        refine sw_istore_n dX6_lay_142 (by decide) rfl ?_
        refine sw_lv (l_y_crew rc 0 _ (by omega) hC ?_) (And.intro rfl (And.intro rfl trivial))
        refine sw_aload_n dX6_lay_203 rfl ?_
        refine sw_iconst (v := 0) dX6_lay_204 (by decide) ?_
        refine sw_put dX6_lay_205 fl_X6_137 fi_5_6 rfl rfl ?_
        refine sw_aload_n dX6_lay_208 rfl ?_
        refine sw_iconst (v := 0) dX6_lay_209 (by decide) ?_
        refine sw_put dX6_lay_210 fl_X6_140 fi_5_15 rfl rfl ?_
        refine sw_aload_n dX6_lay_213 rfl ?_
        refine sw_iconst (v := 0) dX6_lay_214 (by decide) ?_
        refine sw_put dX6_lay_215 fl_X6_143 fi_5_31 rfl rfl ?_
        refine sw_aload_n dX6_lay_218 rfl ?_
        refine sw_iconst (v := 0) dX6_lay_219 (by decide) ?_
        refine sw_put dX6_lay_220 fl_X6_146 fi_5_34 rfl rfl ?_
        refine sw_aload_n dX6_lay_223 rfl ?_
        refine sw_getI dX6_lay_224 fl_X6_91 rfl rfl ?_
        refine sw_st (σ2 := y_tail (y_lc rc 0 (y_lp rp 0 (y_head (y_fault σ).2)))) rfl ?_
        refine sw_top (y := (y_fault σ).2 110 23) (by rw [sm_set_ne (by decide), sm_set_ne (by decide), sm_set_ne (by decide), sm_set_ne (by decide), y_lc_off (by decide), y_lp_off (by decide)]; unfold y_head; rw [sm_set_eq]) ?_
        refine sw_iret dX6_lay_227 rfl rfl ?_ ?_
        all_goals (first | with_reducible rfl | (rfl))
      · refine sw_bipush (v := -2) dX6_lay_23 (by decide) ?_
        refine sw_iret dX6_lay_25 rfl rfl ?_ ?_
        all_goals (first | with_reducible rfl | (simp_all [-Int32.not_lt, -Int32.not_le, sm_b_e0, sm_b_e1, sm_b_0e, sm_b_1e, p_lay]))

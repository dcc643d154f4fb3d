theorem q_so_o {np nc j : Nat} (h1 : j ≠ 7) (h2 : j ≠ 8) : ∀ (n i : Nat) (b : Bool) (τ : sm_St), (q_so np nc n i b τ).2 110 j = τ 110 j
  | 0, _, _, _ => rfl
  | n + 1, i, b, τ => by
    show (q_so np nc n (i + 1) _ (q_so1 i τ)).2 110 j = τ 110 j
    rw [q_so_o h1 h2 n, q_so1_o h1 h2]
theorem q_so_off {np nc q : Nat} (h : q ≠ 110) : ∀ (n i : Nat) (b : Bool) (τ : sm_St), (q_so np nc n i b τ).2 q = τ q
  | 0, _, _, _ => rfl
  | n + 1, i, b, τ => by
    show (q_so np nc n (i + 1) _ (q_so1 i τ)).2 q = τ q
    rw [q_so_off h n, q_so1_off h]
theorem p_isSo_o {σ : sm_St} {np nc z j : Nat} (h1 : j ≠ 7) (h2 : j ≠ 8) : (p_isSo σ np nc z).2 110 j = σ 110 j := by
  show sm_set (sm_set (q_so np nc z 0 true σ).2 110 7 (σ 110 7)) 110 8 (σ 110 8) 110 j = σ 110 j
  rw [sm_set_ne h2, sm_set_ne h1, q_so_o h1 h2]
theorem p_isSo_P {σ : sm_St} {np nc z n : Nat} (h : q_P σ n) : q_P (p_isSo σ np nc z).2 n := by unfold q_P; rw [p_isSo_o (by decide) (by decide), p_isSo_o (by decide) (by decide)]; exact h
theorem p_isSo_S {σ : sm_St} {np nc z n : Nat} (h : q_S σ n) : q_S (p_isSo σ np nc z).2 n := by unfold q_S; rw [p_isSo_o (by decide) (by decide), p_isSo_o (by decide) (by decide)]; exact h
theorem p_isSo_Z {σ : sm_St} {np nc z n : Nat} (h : q_Z σ n) : q_Z (p_isSo σ np nc z).2 n := by unfold q_Z; rw [p_isSo_o (by decide) (by decide)]; exact h
theorem q_Z_row {σ : sm_St} {n k m : Nat} {i v : Int32} (h1 : k ≠ 110) (h : q_Z σ n) : q_Z (r_set σ k m i v) n := by unfold q_Z; rw [r_set_off (Ne.symm h1)]; exact h
def q_ms (w c kd s nn v : Int32) (τ : sm_St) : sm_St := r_set (r_set (r_set τ 113 8 c (if w = 0 then v else nn)) 112 8 c (if w = 1 then v else s)) 111 8 c (if w = 2 then v else kd)
theorem q_ms_P {w c kd s nn v : Int32} {τ : sm_St} {n : Nat} (h : q_P τ n) : q_P (q_ms w c kd s nn v τ) n := q_P_row (by decide) (q_P_row (by decide) (q_P_row (by decide) h))
theorem q_ms_S {w c kd s nn v : Int32} {τ : sm_St} {n : Nat} (h : q_S τ n) : q_S (q_ms w c kd s nn v τ) n := q_S_row (by decide) (q_S_row (by decide) (q_S_row (by decide) h))
theorem q_ms_Z {w c kd s nn v : Int32} {τ : sm_St} {n : Nat} (h : q_Z τ n) : q_Z (q_ms w c kd s nn v τ) n := q_Z_row (by decide) (q_Z_row (by decide) (q_Z_row (by decide) h))
def q_my (np nc z : Nat) (w c kd s nn : Int32) : Nat → Nat → Int32 → sm_St → Int32 × sm_St
  | 0, _, b, τ => (b, τ)
  | n + 1, v, b, τ => q_my np nc z w c kd s nn n (v + 1) (b ||| (if (p_isSo (q_ms w c kd s nn (nI v) τ) np nc z).1 = 0 then (0 : Int32) else (1 : Int32) <<< (nI v &&& 31))) (p_isSo (q_ms w c kd s nn (nI v) τ) np nc z).2
def q_endm (c kd s nn : Int32) (p : Int32 × sm_St) : Int32 × sm_St := (p.1, r_set (r_set (r_set p.2 111 8 c kd) 112 8 c s) 113 8 c nn)
def p_may1 (σ : sm_St) (np nc z : Nat) (c w : Int32) (lo m : Nat) : Int32 × sm_St := q_endm c (r_at (σ 111) 8 c) (r_at (σ 112) 8 c) (r_at (σ 113) 8 c) (q_my np nc z w c (r_at (σ 111) 8 c) (r_at (σ 112) 8 c) (r_at (σ 113) 8 c) (m + 1 - lo) lo 0 σ)
def p_may (σ : sm_St) (np nc z : Nat) (c w : Int32) : Int32 × sm_St := if sm_win c 0 (σ 110 1 - 1) = true ∧ sm_win w 0 2 = true then (if w = 0 then p_may1 σ np nc z c w 1 9 else if w = 1 then p_may1 σ np nc z c w 0 5 else p_may1 σ np nc z c w 0 3) else (-1, σ)

set_option maxHeartbeats 2000000 in
theorem l_p_may {np nc z m : Nat} (hm : m < 100) {c w kd s nn : Int32} (hc : vp_in c 8) : ∀ (n v : Nat) (b : Int32) (τ : sm_St), v + n = m + 1 → q_Z τ z → q_P τ np → q_S τ nc → sm_W RX6 cX6_may 10 (some .int) 8 (some (.int (q_endm c kd s nn (q_my np nc z w c kd s nn n v b τ)).1)) (q_endm c kd s nn (q_my np nc z w c kd s nn n v b τ)).2 81 [(0, .ref 110), (1, .int c), (2, .int w), (3, .int kd), (4, .int s), (5, .int nn), (6, .int b), (8, .int (nI m)), (9, .int (nI v))] [] τ := by
  intro n
  induction n with
  | zero =>
    intro v b τ h1 hZ hP hS
    refine sw_iload dX6_may_81 rfl ?_
    refine sw_iload dX6_may_83 rfl ?_
    refine sw_icmp_gt (tgt := 166) dX6_may_85 (by decide) (fun _ => ?_) (fun h => absurd ((nI_lt (by omega) (by omega))) h)
    refine sw_aload_n dX6_may_166 rfl ?_
    refine sw_getR (j := 111) dX6_may_167 fl_X6_9 rfl rfl ?_
    refine sw_iload_n dX6_may_170 rfl ?_
    refine sw_iload_n dX6_may_171 rfl ?_
    refine sw_iastR dX6_may_172 rfl hc ?_
    refine sw_aload_n dX6_may_173 rfl ?_
    refine sw_getR (j := 112) dX6_may_174 fl_X6_13 rfl rfl ?_
    refine sw_iload_n dX6_may_177 rfl ?_
    refine sw_iload dX6_may_178 rfl ?_
    refine sw_iastR dX6_may_180 rfl hc ?_
    refine sw_aload_n dX6_may_181 rfl ?_
    refine sw_getR (j := 113) dX6_may_182 fl_X6_16 rfl rfl ?_
    refine sw_iload_n dX6_may_185 rfl ?_
    refine sw_iload dX6_may_186 rfl ?_
    refine sw_iastR dX6_may_188 rfl hc ?_
    refine sw_iload dX6_may_189 rfl ?_
    refine sw_iret dX6_may_191 rfl rfl ?_ ?_
    all_goals (first | with_reducible rfl | (rfl))
  | succ n ih =>
    intro v b τ h1 hZ hP hS
    refine sw_iload dX6_may_81 rfl ?_
    refine sw_iload dX6_may_83 rfl ?_
    refine sw_icmp_gt (tgt := 166) dX6_may_85 (by decide) (fun h => absurd h ((fun h => absurd ((nI_ltI (by omega) (by omega)).mp h) (by omega)))) (fun _ => ?_)
    refine sw_aload_n dX6_may_88 rfl ?_
    refine sw_getR (j := 113) dX6_may_89 fl_X6_16 rfl rfl ?_
    refine sw_iload_n dX6_may_92 rfl ?_
    refine sw_iload_n dX6_may_93 rfl ?_
    refine sw_if_ne (tgt := 102) dX6_may_94 (by decide) (fun h94 => ?_) (fun h94 => ?_)
    · refine sw_iload dX6_may_102 rfl ?_
      refine sw_top (y := if w = 0 then nI v else nn) (by first | (rw [if_pos h94]; done) | (rw [if_neg h94]; done)) ?_
      refine sw_iastR dX6_may_104 rfl hc ?_
      refine sw_aload_n dX6_may_105 rfl ?_
      refine sw_getR (j := 112) dX6_may_106 fl_X6_13 rfl rfl ?_
      refine sw_iload_n dX6_may_109 rfl ?_
      refine sw_iload_n dX6_may_110 rfl ?_
      refine sw_iconst (v := 1) dX6_may_111 (by decide) ?_
      refine sw_icmp_ne (tgt := 120) dX6_may_112 (by decide) (fun h112 => ?_) (fun h112 => ?_)
      · refine sw_iload dX6_may_120 rfl ?_
        refine sw_top (y := if w = 1 then nI v else s) (by first | (rw [if_pos h112]; done) | (rw [if_neg h112]; done)) ?_
        refine sw_iastR dX6_may_122 rfl hc ?_
        refine sw_aload_n dX6_may_123 rfl ?_
        refine sw_getR (j := 111) dX6_may_124 fl_X6_9 rfl rfl ?_
        refine sw_iload_n dX6_may_127 rfl ?_
        refine sw_iload_n dX6_may_128 rfl ?_
        refine sw_iconst (v := 2) dX6_may_129 (by decide) ?_
        refine sw_icmp_ne (tgt := 138) dX6_may_130 (by decide) (fun h130 => ?_) (fun h130 => ?_)
        · refine sw_iload_n dX6_may_138 rfl ?_
          refine sw_top (y := if w = 2 then nI v else kd) (by first | (rw [if_pos h130]; done) | (rw [if_neg h130]; done)) ?_
          refine sw_iastR dX6_may_139 rfl hc ?_
          refine sw_st (σ2 := q_ms w c kd s nn (nI v) τ) rfl ?_
          refine sw_iload dX6_may_140 rfl ?_
          refine sw_aload_n dX6_may_142 rfl ?_
          refine sw_callV dX6_may_143 lV_X6_228 (c_p_isSo (q_ms_Z hZ) (q_ms_P hP) (q_ms_S hS)) rfl rfl rfl rfl (Nat.le_of_ble_eq_true rfl) (Nat.le_of_ble_eq_true rfl) ?_
          refine sw_if_eq (tgt := 156) dX6_may_146 (by decide) (fun h146 => ?_) (fun h146 => ?_)
          · refine sw_iconst (v := 0) dX6_may_156 (by decide) ?_
            refine sw_ior dX6_may_157 ?_
            refine sw_istore dX6_may_158 (by decide) rfl ?_
            refine sw_iinc dX6_may_160 rfl rfl (by decide) rfl ?_
            refine sw_goto (tgt := 81) dX6_may_163 (by decide) ?_
            rw [q_my, if_pos h146]
            refine sw_lv (ih (v + 1) _ _ (by omega) (p_isSo_Z (q_ms_Z hZ)) (p_isSo_P (q_ms_P hP)) (p_isSo_S (q_ms_S hS))) (And.intro rfl (And.intro rfl (And.intro rfl (And.intro rfl (And.intro rfl (And.intro rfl (And.intro rfl (And.intro rfl (And.intro (sm_e rfl ?_) trivial)))))))))
            all_goals (rw [sm_i1, nI_succ])
          · refine sw_iconst (v := 1) dX6_may_149 (by decide) ?_
            refine sw_iload dX6_may_150 rfl ?_
            refine sw_ishl dX6_may_152 ?_
            refine sw_goto (tgt := 157) dX6_may_153 (by decide) ?_
            refine sw_ior dX6_may_157 ?_
            refine sw_istore dX6_may_158 (by decide) rfl ?_
            refine sw_iinc dX6_may_160 rfl rfl (by decide) rfl ?_
            refine sw_goto (tgt := 81) dX6_may_163 (by decide) ?_
            rw [q_my, if_neg h146]
            refine sw_lv (ih (v + 1) _ _ (by omega) (p_isSo_Z (q_ms_Z hZ)) (p_isSo_P (q_ms_P hP)) (p_isSo_S (q_ms_S hS))) (And.intro rfl (And.intro rfl (And.intro rfl (And.intro rfl (And.intro rfl (And.intro rfl (And.intro rfl (And.intro rfl (And.intro (sm_e rfl ?_) trivial)))))))))
            all_goals (rw [sm_i1, nI_succ])
        · refine sw_iload dX6_may_133 rfl ?_
          refine sw_goto (tgt := 139) dX6_may_135 (by decide) ?_
          refine sw_top (y := if w = 2 then nI v else kd) (by first | (rw [if_pos h130]; done) | (rw [if_neg h130]; done)) ?_
          refine sw_iastR dX6_may_139 rfl hc ?_
          refine sw_st (σ2 := q_ms w c kd s nn (nI v) τ) rfl ?_
          refine sw_iload dX6_may_140 rfl ?_
          refine sw_aload_n dX6_may_142 rfl ?_
          refine sw_callV dX6_may_143 lV_X6_228 (c_p_isSo (q_ms_Z hZ) (q_ms_P hP) (q_ms_S hS)) rfl rfl rfl rfl (Nat.le_of_ble_eq_true rfl) (Nat.le_of_ble_eq_true rfl) ?_
          refine sw_if_eq (tgt := 156) dX6_may_146 (by decide) (fun h146 => ?_) (fun h146 => ?_)
          · refine sw_iconst (v := 0) dX6_may_156 (by decide) ?_
            refine sw_ior dX6_may_157 ?_
            refine sw_istore dX6_may_158 (by decide) rfl ?_
            refine sw_iinc dX6_may_160 rfl rfl (by decide) rfl ?_
            refine sw_goto (tgt := 81) dX6_may_163 (by decide) ?_
            rw [q_my, if_pos h146]
            refine sw_lv (ih (v + 1) _ _ (by omega) (p_isSo_Z (q_ms_Z hZ)) (p_isSo_P (q_ms_P hP)) (p_isSo_S (q_ms_S hS))) (And.intro rfl (And.intro rfl (And.intro rfl (And.intro rfl (And.intro rfl (And.intro rfl (And.intro rfl (And.intro rfl (And.intro (sm_e rfl ?_) trivial)))))))))
            all_goals (rw [sm_i1, nI_succ])
          · refine sw_iconst (v := 1) dX6_may_149 (by decide) ?_
            refine sw_iload dX6_may_150 rfl ?_
            refine sw_ishl dX6_may_152 ?_
            refine sw_goto (tgt := 157) dX6_may_153 (by decide) ?_
            refine sw_ior dX6_may_157 ?_
            refine sw_istore dX6_may_158 (by decide) rfl ?_
            refine sw_iinc dX6_may_160 rfl rfl (by decide) rfl ?_
            refine sw_goto (tgt := 81) dX6_may_163 (by decide) ?_
            rw [q_my, if_neg h146]
            refine sw_lv (ih (v + 1) _ _ (by omega) (p_isSo_Z (q_ms_Z hZ)) (p_isSo_P (q_ms_P hP)) (p_isSo_S (q_ms_S hS))) (And.intro rfl (And.intro rfl (And.intro rfl (And.intro rfl (And.intro rfl (And.intro rfl (And.intro rfl (And.intro rfl (And.intro (sm_e rfl ?_) trivial)))))))))
            all_goals (rw [sm_i1, nI_succ])
      · refine sw_iload dX6_may_115 rfl ?_
        refine sw_goto (tgt := 122) dX6_may_117 (by decide) ?_
        refine sw_top (y := if w = 1 then nI v else s) (by first | (rw [if_pos h112]; done) | (rw [if_neg h112]; done)) ?_
        refine sw_iastR dX6_may_122 rfl hc ?_
        refine sw_aload_n dX6_may_123 rfl ?_
        refine sw_getR (j := 111) dX6_may_124 fl_X6_9 rfl rfl ?_
        refine sw_iload_n dX6_may_127 rfl ?_
        refine sw_iload_n dX6_may_128 rfl ?_
        refine sw_iconst (v := 2) dX6_may_129 (by decide) ?_
        refine sw_icmp_ne (tgt := 138) dX6_may_130 (by decide) (fun h130 => ?_) (fun h130 => ?_)
        · refine sw_iload_n dX6_may_138 rfl ?_
          refine sw_top (y := if w = 2 then nI v else kd) (by first | (rw [if_pos h130]; done) | (rw [if_neg h130]; done)) ?_
          refine sw_iastR dX6_may_139 rfl hc ?_
          refine sw_st (σ2 := q_ms w c kd s nn (nI v) τ) rfl ?_
          refine sw_iload dX6_may_140 rfl ?_
          refine sw_aload_n dX6_may_142 rfl ?_
          refine sw_callV dX6_may_143 lV_X6_228 (c_p_isSo (q_ms_Z hZ) (q_ms_P hP) (q_ms_S hS)) rfl rfl rfl rfl (Nat.le_of_ble_eq_true rfl) (Nat.le_of_ble_eq_true rfl) ?_
          refine sw_if_eq (tgt := 156) dX6_may_146 (by decide) (fun h146 => ?_) (fun h146 => ?_)
          · refine sw_iconst (v := 0) dX6_may_156 (by decide) ?_
            refine sw_ior dX6_may_157 ?_
            refine sw_istore dX6_may_158 (by decide) rfl ?_
            refine sw_iinc dX6_may_160 rfl rfl (by decide) rfl ?_
            refine sw_goto (tgt := 81) dX6_may_163 (by decide) ?_
            rw [q_my, if_pos h146]
            refine sw_lv (ih (v + 1) _ _ (by omega) (p_isSo_Z (q_ms_Z hZ)) (p_isSo_P (q_ms_P hP)) (p_isSo_S (q_ms_S hS))) (And.intro rfl (And.intro rfl (And.intro rfl (And.intro rfl (And.intro rfl (And.intro rfl (And.intro rfl (And.intro rfl (And.intro (sm_e rfl ?_) trivial)))))))))
            all_goals (rw [sm_i1, nI_succ])
          · refine sw_iconst (v := 1) dX6_may_149 (by decide) ?_
            refine sw_iload dX6_may_150 rfl ?_
            refine sw_ishl dX6_may_152 ?_
            refine sw_goto (tgt := 157) dX6_may_153 (by decide) ?_
            refine sw_ior dX6_may_157 ?_
            refine sw_istore dX6_may_158 (by decide) rfl ?_
            refine sw_iinc dX6_may_160 rfl rfl (by decide) rfl ?_
            refine sw_goto (tgt := 81) dX6_may_163 (by decide) ?_
            rw [q_my, if_neg h146]
            refine sw_lv (ih (v + 1) _ _ (by omega) (p_isSo_Z (q_ms_Z hZ)) (p_isSo_P (q_ms_P hP)) (p_isSo_S (q_ms_S hS))) (And.intro rfl (And.intro rfl (And.intro rfl (And.intro rfl (And.intro rfl (And.intro rfl (And.intro rfl (And.intro rfl (And.intro (sm_e rfl ?_) trivial)))))))))
            all_goals (rw [sm_i1, nI_succ])
        · refine sw_iload dX6_may_133 rfl ?_
          refine sw_goto (tgt := 139) dX6_may_135 (by decide) ?_
          refine sw_top (y := if w = 2 then nI v else kd) (by first | (rw [if_pos h130]; done) | (rw [if_neg h130]; done)) ?_
          refine sw_iastR dX6_may_139 rfl hc ?_
          refine sw_st (σ2 := q_ms w c kd s nn (nI v) τ) rfl ?_
          refine sw_iload dX6_may_140 rfl ?_
          refine sw_aload_n dX6_may_142 rfl ?_
          refine sw_callV dX6_may_143 lV_X6_228 (c_p_isSo (q_ms_Z hZ) (q_ms_P hP) (q_ms_S hS)) rfl rfl rfl rfl (Nat.le_of_ble_eq_true rfl) (Nat.le_of_ble_eq_true rfl) ?_
          refine sw_if_eq (tgt := 156) dX6_may_146 (by decide) (fun h146 => ?_) (fun h146 => ?_)
          · refine sw_iconst (v := 0) dX6_may_156 (by decide) ?_
            refine sw_ior dX6_may_157 ?_
            refine sw_istore dX6_may_158 (by decide) rfl ?_
            refine sw_iinc dX6_may_160 rfl rfl (by decide) rfl ?_
            refine sw_goto (tgt := 81) dX6_may_163 (by decide) ?_
            rw [q_my, if_pos h146]
            refine sw_lv (ih (v + 1) _ _ (by omega) (p_isSo_Z (q_ms_Z hZ)) (p_isSo_P (q_ms_P hP)) (p_isSo_S (q_ms_S hS))) (And.intro rfl (And.intro rfl (And.intro rfl (And.intro rfl (And.intro rfl (And.intro rfl (And.intro rfl (And.intro rfl (And.intro (sm_e rfl ?_) trivial)))))))))
            all_goals (rw [sm_i1, nI_succ])
          · refine sw_iconst (v := 1) dX6_may_149 (by decide) ?_
            refine sw_iload dX6_may_150 rfl ?_
            refine sw_ishl dX6_may_152 ?_
            refine sw_goto (tgt := 157) dX6_may_153 (by decide) ?_
            refine sw_ior dX6_may_157 ?_
            refine sw_istore dX6_may_158 (by decide) rfl ?_
            refine sw_iinc dX6_may_160 rfl rfl (by decide) rfl ?_
            refine sw_goto (tgt := 81) dX6_may_163 (by decide) ?_
            rw [q_my, if_neg h146]
            refine sw_lv (ih (v + 1) _ _ (by omega) (p_isSo_Z (q_ms_Z hZ)) (p_isSo_P (q_ms_P hP)) (p_isSo_S (q_ms_S hS))) (And.intro rfl (And.intro rfl (And.intro rfl (And.intro rfl (And.intro rfl (And.intro rfl (And.intro rfl (And.intro rfl (And.intro (sm_e rfl ?_) trivial)))))))))
            all_goals (rw [sm_i1, nI_succ])
    · refine sw_iload dX6_may_97 rfl ?_
      refine sw_goto (tgt := 104) dX6_may_99 (by decide) ?_
      refine sw_top (y := if w = 0 then nI v else nn) (by first | (rw [if_pos h94]; done) | (rw [if_neg h94]; done)) ?_
      refine sw_iastR dX6_may_104 rfl hc ?_
      refine sw_aload_n dX6_may_105 rfl ?_
      refine sw_getR (j := 112) dX6_may_106 fl_X6_13 rfl rfl ?_
      refine sw_iload_n dX6_may_109 rfl ?_
      refine sw_iload_n dX6_may_110 rfl ?_
      refine sw_iconst (v := 1) dX6_may_111 (by decide) ?_
      refine sw_icmp_ne (tgt := 120) dX6_may_112 (by decide) (fun h112 => ?_) (fun h112 => ?_)
      · refine sw_iload dX6_may_120 rfl ?_
        refine sw_top (y := if w = 1 then nI v else s) (by first | (rw [if_pos h112]; done) | (rw [if_neg h112]; done)) ?_
        refine sw_iastR dX6_may_122 rfl hc ?_
        refine sw_aload_n dX6_may_123 rfl ?_
        refine sw_getR (j := 111) dX6_may_124 fl_X6_9 rfl rfl ?_
        refine sw_iload_n dX6_may_127 rfl ?_
        refine sw_iload_n dX6_may_128 rfl ?_
        refine sw_iconst (v := 2) dX6_may_129 (by decide) ?_
        refine sw_icmp_ne (tgt := 138) dX6_may_130 (by decide) (fun h130 => ?_) (fun h130 => ?_)
        · refine sw_iload_n dX6_may_138 rfl ?_
          refine sw_top (y := if w = 2 then nI v else kd) (by first | (rw [if_pos h130]; done) | (rw [if_neg h130]; done)) ?_
          refine sw_iastR dX6_may_139 rfl hc ?_
          refine sw_st (σ2 := q_ms w c kd s nn (nI v) τ) rfl ?_
          refine sw_iload dX6_may_140 rfl ?_
          refine sw_aload_n dX6_may_142 rfl ?_
          refine sw_callV dX6_may_143 lV_X6_228 (c_p_isSo (q_ms_Z hZ) (q_ms_P hP) (q_ms_S hS)) rfl rfl rfl rfl (Nat.le_of_ble_eq_true rfl) (Nat.le_of_ble_eq_true rfl) ?_
          refine sw_if_eq (tgt := 156) dX6_may_146 (by decide) (fun h146 => ?_) (fun h146 => ?_)
          · refine sw_iconst (v := 0) dX6_may_156 (by decide) ?_
            refine sw_ior dX6_may_157 ?_
            refine sw_istore dX6_may_158 (by decide) rfl ?_
            refine sw_iinc dX6_may_160 rfl rfl (by decide) rfl ?_
            refine sw_goto (tgt := 81) dX6_may_163 (by decide) ?_
            rw [q_my, if_pos h146]
            refine sw_lv (ih (v + 1) _ _ (by omega) (p_isSo_Z (q_ms_Z hZ)) (p_isSo_P (q_ms_P hP)) (p_isSo_S (q_ms_S hS))) (And.intro rfl (And.intro rfl (And.intro rfl (And.intro rfl (And.intro rfl (And.intro rfl (And.intro rfl (And.intro rfl (And.intro (sm_e rfl ?_) trivial)))))))))
            all_goals (rw [sm_i1, nI_succ])
          · refine sw_iconst (v := 1) dX6_may_149 (by decide) ?_
            refine sw_iload dX6_may_150 rfl ?_
            refine sw_ishl dX6_may_152 ?_
            refine sw_goto (tgt := 157) dX6_may_153 (by decide) ?_
            refine sw_ior dX6_may_157 ?_
            refine sw_istore dX6_may_158 (by decide) rfl ?_
            refine sw_iinc dX6_may_160 rfl rfl (by decide) rfl ?_
            refine sw_goto (tgt := 81) dX6_may_163 (by decide) ?_
            rw [q_my, if_neg h146]
            refine sw_lv (ih (v + 1) _ _ (by omega) (p_isSo_Z (q_ms_Z hZ)) (p_isSo_P (q_ms_P hP)) (p_isSo_S (q_ms_S hS))) (And.intro rfl (And.intro rfl (And.intro rfl (And.intro rfl (And.intro rfl (And.intro rfl (And.intro rfl (And.intro rfl (And.intro (sm_e rfl ?_) trivial)))))))))
            all_goals (rw [sm_i1, nI_succ])
        · refine sw_iload dX6_may_133 rfl ?_
          refine sw_goto (tgt := 139) dX6_may_135 (by decide) ?_
          refine sw_top (y := if w = 2 then nI v else kd) (by first | (rw [if_pos h130]; done) | (rw [if_neg h130]; done)) ?_
          refine sw_iastR dX6_may_139 rfl hc ?_
          refine sw_st (σ2 := q_ms w c kd s nn (nI v) τ) rfl ?_
          refine sw_iload dX6_may_140 rfl ?_
          refine sw_aload_n dX6_may_142 rfl ?_
          refine sw_callV dX6_may_143 lV_X6_228 (c_p_isSo (q_ms_Z hZ) (q_ms_P hP) (q_ms_S hS)) rfl rfl rfl rfl (Nat.le_of_ble_eq_true rfl) (Nat.le_of_ble_eq_true rfl) ?_
          refine sw_if_eq (tgt := 156) dX6_may_146 (by decide) (fun h146 => ?_) (fun h146 => ?_)
          · refine sw_iconst (v := 0) dX6_may_156 (by decide) ?_
            refine sw_ior dX6_may_157 ?_
            refine sw_istore dX6_may_158 (by decide) rfl ?_
            refine sw_iinc dX6_may_160 rfl rfl (by decide) rfl ?_
            refine sw_goto (tgt := 81) dX6_may_163 (by decide) ?_
            rw [q_my, if_pos h146]
            refine sw_lv (ih (v + 1) _ _ (by omega) (p_isSo_Z (q_ms_Z hZ)) (p_isSo_P (q_ms_P hP)) (p_isSo_S (q_ms_S hS))) (And.intro rfl (And.intro rfl (And.intro rfl (And.intro rfl (And.intro rfl (And.intro rfl (And.intro rfl (And.intro rfl (And.intro (sm_e rfl ?_) trivial)))))))))
            all_goals (rw [sm_i1, nI_succ])
          · refine sw_iconst (v := 1) dX6_may_149 (by decide) ?_
            refine sw_iload dX6_may_150 rfl ?_
            refine sw_ishl dX6_may_152 ?_
            refine sw_goto (tgt := 157) dX6_may_153 (by decide) ?_
            refine sw_ior dX6_may_157 ?_
            refine sw_istore dX6_may_158 (by decide) rfl ?_
            refine sw_iinc dX6_may_160 rfl rfl (by decide) rfl ?_
            refine sw_goto (tgt := 81) dX6_may_163 (by decide) ?_
            rw [q_my, if_neg h146]
            refine sw_lv (ih (v + 1) _ _ (by omega) (p_isSo_Z (q_ms_Z hZ)) (p_isSo_P (q_ms_P hP)) (p_isSo_S (q_ms_S hS))) (And.intro rfl (And.intro rfl (And.intro rfl (And.intro rfl (And.intro rfl (And.intro rfl (And.intro rfl (And.intro rfl (And.intro (sm_e rfl ?_) trivial)))))))))
            all_goals (rw [sm_i1, nI_succ])
      · refine sw_iload dX6_may_115 rfl ?_
        refine sw_goto (tgt := 122) dX6_may_117 (by decide) ?_
        refine sw_top (y := if w = 1 then nI v else s) (by first | (rw [if_pos h112]; done) | (rw [if_neg h112]; done)) ?_
        refine sw_iastR dX6_may_122 rfl hc ?_
        refine sw_aload_n dX6_may_123 rfl ?_
        refine sw_getR (j := 111) dX6_may_124 fl_X6_9 rfl rfl ?_
        refine sw_iload_n dX6_may_127 rfl ?_
        refine sw_iload_n dX6_may_128 rfl ?_
        refine sw_iconst (v := 2) dX6_may_129 (by decide) ?_
        refine sw_icmp_ne (tgt := 138) dX6_may_130 (by decide) (fun h130 => ?_) (fun h130 => ?_)
        · refine sw_iload_n dX6_may_138 rfl ?_
          refine sw_top (y := if w = 2 then nI v else kd) (by first | (rw [if_pos h130]; done) | (rw [if_neg h130]; done)) ?_
          refine sw_iastR dX6_may_139 rfl hc ?_
          refine sw_st (σ2 := q_ms w c kd s nn (nI v) τ) rfl ?_
          refine sw_iload dX6_may_140 rfl ?_
          refine sw_aload_n dX6_may_142 rfl ?_
          refine sw_callV dX6_may_143 lV_X6_228 (c_p_isSo (q_ms_Z hZ) (q_ms_P hP) (q_ms_S hS)) rfl rfl rfl rfl (Nat.le_of_ble_eq_true rfl) (Nat.le_of_ble_eq_true rfl) ?_
          refine sw_if_eq (tgt := 156) dX6_may_146 (by decide) (fun h146 => ?_) (fun h146 => ?_)
          · refine sw_iconst (v := 0) dX6_may_156 (by decide) ?_
            refine sw_ior dX6_may_157 ?_
            refine sw_istore dX6_may_158 (by decide) rfl ?_
            refine sw_iinc dX6_may_160 rfl rfl (by decide) rfl ?_
            refine sw_goto (tgt := 81) dX6_may_163 (by decide) ?_
            rw [q_my, if_pos h146]
            refine sw_lv (ih (v + 1) _ _ (by omega) (p_isSo_Z (q_ms_Z hZ)) (p_isSo_P (q_ms_P hP)) (p_isSo_S (q_ms_S hS))) (And.intro rfl (And.intro rfl (And.intro rfl (And.intro rfl (And.intro rfl (And.intro rfl (And.intro rfl (And.intro rfl (And.intro (sm_e rfl ?_) trivial)))))))))
            all_goals (rw [sm_i1, nI_succ])
          · refine sw_iconst (v := 1) dX6_may_149 (by decide) ?_
            refine sw_iload dX6_may_150 rfl ?_
            refine sw_ishl dX6_may_152 ?_
            refine sw_goto (tgt := 157) dX6_may_153 (by decide) ?_
            refine sw_ior dX6_may_157 ?_
            refine sw_istore dX6_may_158 (by decide) rfl ?_
            refine sw_iinc dX6_may_160 rfl rfl (by decide) rfl ?_
            refine sw_goto (tgt := 81) dX6_may_163 (by decide) ?_
            rw [q_my, if_neg h146]
            refine sw_lv (ih (v + 1) _ _ (by omega) (p_isSo_Z (q_ms_Z hZ)) (p_isSo_P (q_ms_P hP)) (p_isSo_S (q_ms_S hS))) (And.intro rfl (And.intro rfl (And.intro rfl (And.intro rfl (And.intro rfl (And.intro rfl (And.intro rfl (And.intro rfl (And.intro (sm_e rfl ?_) trivial)))))))))
            all_goals (rw [sm_i1, nI_succ])
        · refine sw_iload dX6_may_133 rfl ?_
          refine sw_goto (tgt := 139) dX6_may_135 (by decide) ?_
          refine sw_top (y := if w = 2 then nI v else kd) (by first | (rw [if_pos h130]; done) | (rw [if_neg h130]; done)) ?_
          refine sw_iastR dX6_may_139 rfl hc ?_
          refine sw_st (σ2 := q_ms w c kd s nn (nI v) τ) rfl ?_
          refine sw_iload dX6_may_140 rfl ?_
          refine sw_aload_n dX6_may_142 rfl ?_
          refine sw_callV dX6_may_143 lV_X6_228 (c_p_isSo (q_ms_Z hZ) (q_ms_P hP) (q_ms_S hS)) rfl rfl rfl rfl (Nat.le_of_ble_eq_true rfl) (Nat.le_of_ble_eq_true rfl) ?_
          refine sw_if_eq (tgt := 156) dX6_may_146 (by decide) (fun h146 => ?_) (fun h146 => ?_)
          · refine sw_iconst (v := 0) dX6_may_156 (by decide) ?_
            refine sw_ior dX6_may_157 ?_
            refine sw_istore dX6_may_158 (by decide) rfl ?_
            refine sw_iinc dX6_may_160 rfl rfl (by decide) rfl ?_
            refine sw_goto (tgt := 81) dX6_may_163 (by decide) ?_
            rw [q_my, if_pos h146]
            refine sw_lv (ih (v + 1) _ _ (by omega) (p_isSo_Z (q_ms_Z hZ)) (p_isSo_P (q_ms_P hP)) (p_isSo_S (q_ms_S hS))) (And.intro rfl (And.intro rfl (And.intro rfl (And.intro rfl (And.intro rfl (And.intro rfl (And.intro rfl (And.intro rfl (And.intro (sm_e rfl ?_) trivial)))))))))
            all_goals (rw [sm_i1, nI_succ])
          · refine sw_iconst (v := 1) dX6_may_149 (by decide) ?_
            refine sw_iload dX6_may_150 rfl ?_
            refine sw_ishl dX6_may_152 ?_
            refine sw_goto (tgt := 157) dX6_may_153 (by decide) ?_
            refine sw_ior dX6_may_157 ?_
            refine sw_istore dX6_may_158 (by decide) rfl ?_
            refine sw_iinc dX6_may_160 rfl rfl (by decide) rfl ?_
            refine sw_goto (tgt := 81) dX6_may_163 (by decide) ?_
            rw [q_my, if_neg h146]
            refine sw_lv (ih (v + 1) _ _ (by omega) (p_isSo_Z (q_ms_Z hZ)) (p_isSo_P (q_ms_P hP)) (p_isSo_S (q_ms_S hS))) (And.intro rfl (And.intro rfl (And.intro rfl (And.intro rfl (And.intro rfl (And.intro rfl (And.intro rfl (And.intro rfl (And.intro (sm_e rfl ?_) trivial)))))))))
            all_goals (rw [sm_i1, nI_succ])

set_option maxHeartbeats 2000000 in
theorem c_p_may {σ : sm_St} {np : Nat} (hN : q_N σ np) {nc : Nat} (hC : q_C σ nc) (h0 : q_0 σ) {z : Nat} (hZ : q_Z σ z) (c w : Int32) : sm_C yX6_may cX6_may 10 (some .int) 8 [.ref 110, .int c, .int w] σ (some (.int ((p_may σ np nc z c w).1))) (p_may σ np nc z c w).2 := by
  refine sm_C.of (own := RX6) (by decide) rfl (Nat.le_of_ble_eq_true rfl) ?_
  have hP := q_P_of hN h0
  have hS := q_S_of hC h0
  show sm_W RX6 cX6_may 10 (some .int) 8 (some (.int ((p_may σ np nc z c w).1))) (p_may σ np nc z c w).2 0 [(0, .ref 110), (1, .int c), (2, .int w)] [] σ
  refine sw_aload_n dX6_may_0 rfl ?_
  refine sw_iload_n dX6_may_1 rfl ?_
  refine sw_callV dX6_may_2 lV_X6_193 (c_q_isOne _) rfl rfl rfl rfl (Nat.le_of_ble_eq_true rfl) (Nat.le_of_ble_eq_true rfl) ?_
  refine sw_if_eq (tgt := 17) dX6_may_5 (by decide) (fun h5 => ?_) (fun h5 => ?_)
  · refine sw_iconst (v := -1) dX6_may_17 (by decide) ?_
    refine sw_iret dX6_may_18 rfl rfl ?_ ?_
    all_goals (first | with_reducible rfl | (simp_all [-Int32.not_lt, -Int32.not_le, sm_b_e0, sm_b_e1, sm_b_0e, sm_b_1e, p_may]))
  · refine sw_iload_n dX6_may_8 rfl ?_
    refine sw_iconst (v := 0) dX6_may_9 (by decide) ?_
    refine sw_iconst (v := 2) dX6_may_10 (by decide) ?_
    refine sw_callS dX6_may_11 lS_X6_94 (c_q_in _ _ _) rfl rfl (Nat.le_of_ble_eq_true rfl) (Nat.le_of_ble_eq_true rfl) ?_
    refine sw_if_ne (tgt := 19) dX6_may_14 (by decide) (fun h14 => ?_) (fun h14 => ?_)
    · have hc := (q_isC hC (sm_b_t h5))
      refine sw_aload_n dX6_may_19 rfl ?_
      refine sw_getR (j := 111) dX6_may_20 fl_X6_9 rfl rfl ?_
      refine sw_iload_n dX6_may_23 rfl ?_
      refine sw_ialdR dX6_may_24 rfl (q_isC hC (sm_b_t h5)) ?_
      refine sw_istore_n dX6_may_25 (by decide) rfl ?_
      refine sw_aload_n dX6_may_26 rfl ?_
      refine sw_getR (j := 112) dX6_may_27 fl_X6_13 rfl rfl ?_
      refine sw_iload_n dX6_may_30 rfl ?_
      refine sw_ialdR dX6_may_31 rfl (q_isC hC (sm_b_t h5)) ?_
      refine sw_istore dX6_may_32 (by decide) rfl ?_
      refine sw_aload_n dX6_may_34 rfl ?_
      refine sw_getR (j := 113) dX6_may_35 fl_X6_16 rfl rfl ?_
      refine sw_iload_n dX6_may_38 rfl ?_
      refine sw_ialdR dX6_may_39 rfl (q_isC hC (sm_b_t h5)) ?_
      refine sw_istore dX6_may_40 (by decide) rfl ?_
      refine sw_iconst (v := 0) dX6_may_42 (by decide) ?_
      refine sw_istore dX6_may_43 (by decide) rfl ?_
      refine sw_iload_n dX6_may_45 rfl ?_
      refine sw_if_ne (tgt := 53) dX6_may_46 (by decide) (fun h46 => ?_) (fun h46 => ?_)
      · refine sw_iconst (v := 0) dX6_may_53 (by decide) ?_
        refine sw_istore dX6_may_54 (by decide) rfl ?_
        refine sw_iload_n dX6_may_56 rfl ?_
        refine sw_if_ne (tgt := 65) dX6_may_57 (by decide) (fun _ => ?_) (fun h => absurd h (h46))
        refine sw_iload_n dX6_may_65 rfl ?_
        refine sw_iconst (v := 1) dX6_may_66 (by decide) ?_
        refine sw_icmp_ne (tgt := 74) dX6_may_67 (by decide) (fun h67 => ?_) (fun h67 => ?_)
        · refine sw_iconst (v := 3) dX6_may_74 (by decide) ?_
          refine sw_istore dX6_may_75 (by decide) rfl ?_
          refine sw_iload dX6_may_77 rfl ?_
          refine sw_istore dX6_may_79 (by decide) rfl ?_
          rw [p_may, if_pos ⟨sm_b_t h5, sm_b_t h14⟩, if_neg h46, if_neg h67]
          unfold p_may1
          refine sw_lv (l_p_may (m := 3) (by decide) hc _ 0 0 σ (by decide) hZ hP hS) (And.intro rfl (And.intro rfl (And.intro rfl (And.intro rfl (And.intro rfl (And.intro rfl (And.intro rfl (And.intro rfl (And.intro rfl trivial)))))))))
        · refine sw_iconst (v := 5) dX6_may_70 (by decide) ?_
          refine sw_goto (tgt := 75) dX6_may_71 (by decide) ?_
          refine sw_istore dX6_may_75 (by decide) rfl ?_
          refine sw_iload dX6_may_77 rfl ?_
          refine sw_istore dX6_may_79 (by decide) rfl ?_
          rw [p_may, if_pos ⟨sm_b_t h5, sm_b_t h14⟩, if_neg h46, if_pos h67]
          unfold p_may1
          refine sw_lv (l_p_may (m := 5) (by decide) hc _ 0 0 σ (by decide) hZ hP hS) (And.intro rfl (And.intro rfl (And.intro rfl (And.intro rfl (And.intro rfl (And.intro rfl (And.intro rfl (And.intro rfl (And.intro rfl trivial)))))))))
      · refine sw_iconst (v := 1) dX6_may_49 (by decide) ?_
        refine sw_goto (tgt := 54) dX6_may_50 (by decide) ?_
        refine sw_istore dX6_may_54 (by decide) rfl ?_
        refine sw_iload_n dX6_may_56 rfl ?_
        refine sw_if_ne (tgt := 65) dX6_may_57 (by decide) (fun h => absurd (h46) h) (fun _ => ?_)
        refine sw_bipush (v := 9) dX6_may_60 (by decide) ?_
        refine sw_goto (tgt := 75) dX6_may_62 (by decide) ?_
        refine sw_istore dX6_may_75 (by decide) rfl ?_
        refine sw_iload dX6_may_77 rfl ?_
        refine sw_istore dX6_may_79 (by decide) rfl ?_
        rw [p_may, if_pos ⟨sm_b_t h5, sm_b_t h14⟩, if_pos h46]
        unfold p_may1
        refine sw_lv (l_p_may (m := 9) (by decide) hc _ 1 0 σ (by decide) hZ hP hS) (And.intro rfl (And.intro rfl (And.intro rfl (And.intro rfl (And.intro rfl (And.intro rfl (And.intro rfl (And.intro rfl (And.intro rfl trivial)))))))))
    · refine sw_iconst (v := -1) dX6_may_17 (by decide) ?_
      refine sw_iret dX6_may_18 rfl rfl ?_ ?_
      all_goals (first | with_reducible rfl | (simp_all [-Int32.not_lt, -Int32.not_le, sm_b_e0, sm_b_e1, sm_b_0e, sm_b_1e, p_may]))

abbrev q_C1 (σ : sm_St) (nc : Nat) : Prop := q_C σ nc ∧ σ 110 29 = 1
theorem q_C1_S {σ : sm_St} {nc : Nat} (h : q_C1 σ nc) : q_S σ (nc + 1) := ⟨by rw [h.1.1, h.2, nI_1], by have := h.1.2; omega⟩
def q_w1 (nc k : Nat) (τ : sm_St) : sm_St := r_set (r_set τ 112 8 (nI nc) (nI (k / 9))) 113 8 (nI nc) (nI (k % 9 + 1))
theorem q_w1_off {nc k q : Nat} {τ : sm_St} (h : q < 112 ∨ 113 < q) : q_w1 nc k τ q = τ q := by unfold q_w1; rw [r_set_off (by omega), r_set_off (by omega)]
def q_w2 (np nc z k : Nat) (τ : sm_St) : Int32 × sm_St := p_isSo (q_w1 nc k τ) np (nc + 1) z
theorem q_w2_o {np nc z k j : Nat} {τ : sm_St} (h1 : j ≠ 7) (h2 : j ≠ 8) : (q_w2 np nc z k τ).2 110 j = τ 110 j := by
  unfold q_w2
  rw [p_isSo_o h1 h2, q_w1_off (by decide)]
def q_stw (np nc z : Nat) : Nat → Nat → Int32 → Int32 → sm_St → (Int32 × Int32) × sm_St
  | 0, _, m, f, τ => ((m, f), τ)
  | n + 1, k, m, f, τ => q_stw np nc z n (k + 1) (m + (if (q_w2 np nc z k τ).1 = 0 then 0 else 1)) (if ¬ (q_w2 np nc z k τ).1 = 0 ∧ m = 0 then 10 * nI (k / 9) + nI (k % 9 + 1) else f) (q_w2 np nc z k τ).2
def q_endw (w : Int32) (p : (Int32 × Int32) × sm_St) : Int32 × sm_St := (if w = 0 then p.1.1 else p.1.2, sm_set p.2 110 29 0)
def p_stow (σ : sm_St) (np nc z : Nat) (w : Int32) : Int32 × sm_St := if sm_win w 0 1 = true then q_endw w (q_stw np nc z 54 0 0 (-4) (r_set (sm_set σ 110 29 1) 111 8 (nI nc) 0)) else (-1, σ)

set_option maxHeartbeats 2000000 in
theorem l_p_stow_n {np nc z : Nat} {w : Int32} {n : Nat} (ih : ∀ (s y : Nat) (m f : Int32) (τ : sm_St), 9 * s + y + n = 54 → s ≤ 5 → y ≤ 8 → q_Z τ z → q_P τ np → q_C1 τ nc → sm_W RX6 cX6_stowaway 7 (some .int) 8 (some (.int (q_endw w (q_stw np nc z n (9 * s + y) m f τ)).1)) (q_endw w (q_stw np nc z n (9 * s + y) m f τ)).2 44 [(0, .ref 110), (1, .int w), (2, .int m), (3, .int f), (4, .int (nI s)), (5, .int (nI (y + 1)))] [] τ) : ∀ (s y : Nat) (m f : Int32) (τ : sm_St), 9 * s + y + 1 + n = 54 → s ≤ 5 → y ≤ 8 → q_Z τ z → q_P τ np → q_C1 τ nc → sm_W RX6 cX6_stowaway 7 (some .int) 8 (some (.int (q_endw w (q_stw np nc z n (9 * s + y + 1) m f τ)).1)) (q_endw w (q_stw np nc z n (9 * s + y + 1) m f τ)).2 114 [(0, .ref 110), (1, .int w), (2, .int m), (3, .int f), (4, .int (nI s)), (5, .int (nI (y + 1)))] [] τ := by
  intro s y m f τ h1 h2 h3 hZ hP hC1
  refine sw_iinc dX6_stowaway_114 rfl rfl (by decide) rfl ?_
  refine sw_goto (tgt := 44) dX6_stowaway_117 (by decide) ?_
  by_cases hx : y < 8
  · have e : 9 * s + y + 1 = 9 * s + (y + 1) := by omega
    rw [e]
    refine sw_lv (ih s (y + 1) m f τ (by omega) (by omega) (by omega) hZ hP hC1) (And.intro rfl (And.intro rfl (And.intro rfl (And.intro rfl (And.intro rfl (And.intro (sm_e rfl ?_) trivial))))))
    all_goals (first | rfl | (rw [sm_i1, nI_succ (y + 1)]; done) | (rw [sm_i1, nI_succ]; done) | (rw [show y = 8 by omega]; decide))
  · refine sw_iload dX6_stowaway_44 rfl ?_
    refine sw_bipush (v := 9) dX6_stowaway_46 (by decide) ?_
    refine sw_icmp_gt (tgt := 120) dX6_stowaway_48 (by decide) (fun _ => ?_) (fun h => absurd ((by rw [show y = 8 by omega]; decide)) h)
    refine sw_iinc dX6_stowaway_120 rfl rfl (by decide) rfl ?_
    refine sw_goto (tgt := 34) dX6_stowaway_123 (by decide) ?_
    by_cases hs : s < 5
    · refine sw_iload dX6_stowaway_34 rfl ?_
      refine sw_bipush (v := 6) dX6_stowaway_36 (by decide) ?_
      refine sw_icmp_ge (tgt := 126) dX6_stowaway_38 (by decide) (fun h => absurd h ((sm_nge (m := 6) (by omega) (by decide)))) (fun _ => ?_)
      refine sw_iconst (v := 1) dX6_stowaway_41 (by decide) ?_
      refine sw_istore dX6_stowaway_42 (by decide) rfl ?_
      have e : 9 * s + y + 1 = 9 * (s + 1) + 0 := by omega
      rw [e]
      refine sw_lv (ih (s + 1) 0 m f τ (by omega) (by omega) (by omega) hZ hP hC1) (And.intro rfl (And.intro rfl (And.intro rfl (And.intro rfl (And.intro (sm_e rfl ?_) (And.intro rfl trivial))))))
      all_goals (first | rfl | (rw [sm_i1, nI_succ (y + 1)]; done) | (rw [sm_i1, nI_succ]; done) | (rw [show y = 8 by omega]; decide))
    · refine sw_iload dX6_stowaway_34 rfl ?_
      refine sw_bipush (v := 6) dX6_stowaway_36 (by decide) ?_
      refine sw_icmp_ge (tgt := 126) dX6_stowaway_38 (by decide) (fun _ => ?_) (fun h => absurd ((by rw [show s = 5 by omega]; decide)) h)
      refine sw_aload_n dX6_stowaway_126 rfl ?_
      refine sw_iconst (v := 0) dX6_stowaway_127 (by decide) ?_
      refine sw_put dX6_stowaway_128 fl_X6_169 fi_5_29 rfl rfl ?_
      refine sw_iload_n dX6_stowaway_131 rfl ?_
      refine sw_if_ne (tgt := 139) dX6_stowaway_132 (by decide) (fun h132 => ?_) (fun h132 => ?_)
      · refine sw_iload_n dX6_stowaway_139 rfl ?_
        refine sw_iret dX6_stowaway_140 rfl rfl ?_ ?_
        all_goals (first | with_reducible rfl | (rw [show n = 0 by omega]; clear ih; simp_all [q_endw, q_stw]))
      · refine sw_iload_n dX6_stowaway_135 rfl ?_
        refine sw_goto (tgt := 140) dX6_stowaway_136 (by decide) ?_
        refine sw_iret dX6_stowaway_140 rfl rfl ?_ ?_
        all_goals (first | with_reducible rfl | (rw [show n = 0 by omega]; clear ih; simp_all [q_endw, q_stw]))

set_option maxHeartbeats 2000000 in
theorem l_p_stow {np nc z : Nat} {w : Int32} : ∀ (n s y : Nat) (m f : Int32) (τ : sm_St), 9 * s + y + n = 54 → s ≤ 5 → y ≤ 8 → q_Z τ z → q_P τ np → q_C1 τ nc → sm_W RX6 cX6_stowaway 7 (some .int) 8 (some (.int (q_endw w (q_stw np nc z n (9 * s + y) m f τ)).1)) (q_endw w (q_stw np nc z n (9 * s + y) m f τ)).2 44 [(0, .ref 110), (1, .int w), (2, .int m), (3, .int f), (4, .int (nI s)), (5, .int (nI (y + 1)))] [] τ := by
  intro n
  induction n with
  | zero => intro s y m f τ h1 h2 h3; omega
  | succ n ih =>
    intro s y m f τ h1 h2 h3 hZ hP hC1
    have e1 : (9 * s + y) % 9 = y := by omega
    have e2 : (9 * s + y) / 9 = s := by omega
    refine sw_iload dX6_stowaway_44 rfl ?_
    refine sw_bipush (v := 9) dX6_stowaway_46 (by decide) ?_
    refine sw_icmp_gt (tgt := 120) dX6_stowaway_48 (by decide) (fun h => absurd h ((fun h => absurd ((nI_ltI (by decide) (by omega)).mp (show nI 9 < nI (y + 1) from h)) (by omega)))) (fun _ => ?_)
    refine sw_aload_n dX6_stowaway_51 rfl ?_
    refine sw_getR (j := 112) dX6_stowaway_52 fl_X6_13 rfl rfl ?_
    refine sw_aload_n dX6_stowaway_55 rfl ?_
    refine sw_getI dX6_stowaway_56 fl_X6_91 rfl rfl ?_
    refine sw_iload dX6_stowaway_59 rfl ?_
    refine sw_iastR dX6_stowaway_61 rfl (vp_in_e (j := nc) hC1.1.1 (by have := hC1.1.2; omega) (by decide)) ?_
    refine sw_aload_n dX6_stowaway_62 rfl ?_
    refine sw_getR (j := 113) dX6_stowaway_63 fl_X6_16 rfl rfl ?_
    refine sw_aload_n dX6_stowaway_66 rfl ?_
    refine sw_getI dX6_stowaway_67 fl_X6_91 rfl rfl ?_
    refine sw_iload dX6_stowaway_70 rfl ?_
    refine sw_iastR dX6_stowaway_72 rfl (vp_in_e (j := nc) (by rw [r_set_off (by decide)]; exact hC1.1.1) (by have := hC1.1.2; omega) (by decide)) ?_
    refine sw_st (σ2 := q_w1 nc (9 * s + y) τ) (by unfold q_w1; rw [e1, e2, r_set_off (show (110 : Nat) ≠ 112 by decide), hC1.1.1]) ?_
    refine sw_aload_n dX6_stowaway_73 rfl ?_
    refine sw_callV dX6_stowaway_74 lV_X6_228 (c_p_isSo (q_Z_row (by decide) (q_Z_row (by decide) hZ)) (q_P_row (by decide) (q_P_row (by decide) hP)) (q_C1_S (nc := nc) ⟨⟨by rw [q_w1_off (by decide)]; exact hC1.1.1, hC1.1.2⟩, by rw [q_w1_off (by decide)]; exact hC1.2⟩)) rfl rfl rfl rfl (Nat.le_of_ble_eq_true rfl) (Nat.le_of_ble_eq_true rfl) ?_
    refine sw_istore dX6_stowaway_77 (by decide) rfl ?_
    refine sw_iload dX6_stowaway_79 rfl ?_
    refine sw_if_eq (tgt := 99) dX6_stowaway_81 (by decide) (fun h81 => ?_) (fun h81 => ?_)
    · refine sw_iload_n dX6_stowaway_99 rfl ?_
      refine sw_istore_n dX6_stowaway_100 (by decide) rfl ?_
      refine sw_iload_n dX6_stowaway_101 rfl ?_
      refine sw_iload dX6_stowaway_102 rfl ?_
      refine sw_if_eq (tgt := 111) dX6_stowaway_104 (by decide) (fun _ => ?_) (fun h => absurd (h81) h)
      refine sw_iconst (v := 0) dX6_stowaway_111 (by decide) ?_
      refine sw_iadd dX6_stowaway_112 ?_
      refine sw_istore_n dX6_stowaway_113 (by decide) rfl ?_
      have e3 : q_stw np nc z (n + 1) (9 * s + y) m f τ = q_stw np nc z n (9 * s + y + 1) (m + (if (q_w2 np nc z (9 * s + y) τ).1 = 0 then 0 else 1)) (if ¬ (q_w2 np nc z (9 * s + y) τ).1 = 0 ∧ m = 0 then 10 * nI s + nI (y + 1) else f) (q_w2 np nc z (9 * s + y) τ).2 := by rw [q_stw, e1, e2]
      rw [e3]
      rw [if_pos (show (q_w2 np nc z (9 * s + y) τ).1 = 0 from h81), if_neg (fun hh => hh.1 h81)]
      refine sw_lv (l_p_stow_n ih s y _ _ _ (by omega) h2 h3 (p_isSo_Z (q_Z_row (by decide) (q_Z_row (by decide) hZ))) (p_isSo_P (q_P_row (by decide) (q_P_row (by decide) hP))) ⟨⟨by rw [q_w2_o (by decide) (by decide)]; exact hC1.1.1, hC1.1.2⟩, by rw [q_w2_o (by decide) (by decide)]; exact hC1.2⟩) (And.intro rfl (And.intro rfl (And.intro rfl (And.intro rfl (And.intro rfl (And.intro rfl trivial))))))
    · refine sw_iload_n dX6_stowaway_84 rfl ?_
      refine sw_if_ne (tgt := 99) dX6_stowaway_85 (by decide) (fun h85 => ?_) (fun h85 => ?_)
      · refine sw_iload_n dX6_stowaway_99 rfl ?_
        refine sw_istore_n dX6_stowaway_100 (by decide) rfl ?_
        refine sw_iload_n dX6_stowaway_101 rfl ?_
        refine sw_iload dX6_stowaway_102 rfl ?_
        refine sw_if_eq (tgt := 111) dX6_stowaway_104 (by decide) (fun h => absurd h (h81)) (fun _ => ?_)
        refine sw_iconst (v := 1) dX6_stowaway_107 (by decide) ?_
        refine sw_goto (tgt := 112) dX6_stowaway_108 (by decide) ?_
        refine sw_iadd dX6_stowaway_112 ?_
        refine sw_istore_n dX6_stowaway_113 (by decide) rfl ?_
        have e3 : q_stw np nc z (n + 1) (9 * s + y) m f τ = q_stw np nc z n (9 * s + y + 1) (m + (if (q_w2 np nc z (9 * s + y) τ).1 = 0 then 0 else 1)) (if ¬ (q_w2 np nc z (9 * s + y) τ).1 = 0 ∧ m = 0 then 10 * nI s + nI (y + 1) else f) (q_w2 np nc z (9 * s + y) τ).2 := by rw [q_stw, e1, e2]
        rw [e3]
        rw [if_neg (show ¬ (q_w2 np nc z (9 * s + y) τ).1 = 0 from h81), if_neg (fun hh => h85 hh.2)]
        refine sw_lv (l_p_stow_n ih s y _ _ _ (by omega) h2 h3 (p_isSo_Z (q_Z_row (by decide) (q_Z_row (by decide) hZ))) (p_isSo_P (q_P_row (by decide) (q_P_row (by decide) hP))) ⟨⟨by rw [q_w2_o (by decide) (by decide)]; exact hC1.1.1, hC1.1.2⟩, by rw [q_w2_o (by decide) (by decide)]; exact hC1.2⟩) (And.intro rfl (And.intro rfl (And.intro rfl (And.intro rfl (And.intro rfl (And.intro rfl trivial))))))
      · refine sw_bipush (v := 10) dX6_stowaway_88 (by decide) ?_
        refine sw_iload dX6_stowaway_90 rfl ?_
        refine sw_imul dX6_stowaway_92 ?_
        refine sw_iload dX6_stowaway_93 rfl ?_
        refine sw_iadd dX6_stowaway_95 ?_
        refine sw_goto (tgt := 100) dX6_stowaway_96 (by decide) ?_
        refine sw_istore_n dX6_stowaway_100 (by decide) rfl ?_
        refine sw_iload_n dX6_stowaway_101 rfl ?_
        refine sw_iload dX6_stowaway_102 rfl ?_
        refine sw_if_eq (tgt := 111) dX6_stowaway_104 (by decide) (fun h => absurd h (h81)) (fun _ => ?_)
        refine sw_iconst (v := 1) dX6_stowaway_107 (by decide) ?_
        refine sw_goto (tgt := 112) dX6_stowaway_108 (by decide) ?_
        refine sw_iadd dX6_stowaway_112 ?_
        refine sw_istore_n dX6_stowaway_113 (by decide) rfl ?_
        have e3 : q_stw np nc z (n + 1) (9 * s + y) m f τ = q_stw np nc z n (9 * s + y + 1) (m + (if (q_w2 np nc z (9 * s + y) τ).1 = 0 then 0 else 1)) (if ¬ (q_w2 np nc z (9 * s + y) τ).1 = 0 ∧ m = 0 then 10 * nI s + nI (y + 1) else f) (q_w2 np nc z (9 * s + y) τ).2 := by rw [q_stw, e1, e2]
        rw [e3]
        rw [if_neg (show ¬ (q_w2 np nc z (9 * s + y) τ).1 = 0 from h81), if_pos ⟨h81, h85⟩]
        refine sw_lv (l_p_stow_n ih s y _ _ _ (by omega) h2 h3 (p_isSo_Z (q_Z_row (by decide) (q_Z_row (by decide) hZ))) (p_isSo_P (q_P_row (by decide) (q_P_row (by decide) hP))) ⟨⟨by rw [q_w2_o (by decide) (by decide)]; exact hC1.1.1, hC1.1.2⟩, by rw [q_w2_o (by decide) (by decide)]; exact hC1.2⟩) (And.intro rfl (And.intro rfl (And.intro rfl (And.intro rfl (And.intro rfl (And.intro rfl trivial))))))

set_option maxHeartbeats 2000000 in
theorem c_p_stow {σ : sm_St} {np : Nat} (hN : q_N σ np) {nc : Nat} (hC : q_C σ nc) (h0 : q_0 σ) {z : Nat} (hZ : q_Z σ z) (w : Int32) : sm_C yX6_stowaway cX6_stowaway 7 (some .int) 8 [.ref 110, .int w] σ (some (.int ((p_stow σ np nc z w).1))) (p_stow σ np nc z w).2 := by
  refine sm_C.of (own := RX6) (by decide) rfl (Nat.le_of_ble_eq_true rfl) ?_
  have hP := q_P_of hN h0
  have hS := q_S_of hC h0
  show sm_W RX6 cX6_stowaway 7 (some .int) 8 (some (.int ((p_stow σ np nc z w).1))) (p_stow σ np nc z w).2 0 [(0, .ref 110), (1, .int w)] [] σ
  refine sw_iload_n dX6_stowaway_0 rfl ?_
  refine sw_iconst (v := 0) dX6_stowaway_1 (by decide) ?_
  refine sw_iconst (v := 1) dX6_stowaway_2 (by decide) ?_
  refine sw_callS dX6_stowaway_3 lS_X6_94 (c_q_in _ _ _) rfl rfl (Nat.le_of_ble_eq_true rfl) (Nat.le_of_ble_eq_true rfl) ?_
  refine sw_if_ne (tgt := 11) dX6_stowaway_6 (by decide) (fun h6 => ?_) (fun h6 => ?_)
  · refine sw_iconst (v := 0) dX6_stowaway_11 (by decide) ?_
    refine sw_istore_n dX6_stowaway_12 (by decide) rfl ?_
    refine sw_bipush (v := -4) dX6_stowaway_13 (by decide) ?_
    refine sw_istore_n dX6_stowaway_15 (by decide) rfl ?_
    refine sw_aload_n dX6_stowaway_16 rfl ?_
    refine sw_iconst (v := 1) dX6_stowaway_17 (by decide) ?_
    refine sw_put dX6_stowaway_18 fl_X6_169 fi_5_29 rfl rfl ?_
    refine sw_aload_n dX6_stowaway_21 rfl ?_
    refine sw_getR (j := 111) dX6_stowaway_22 fl_X6_9 rfl rfl ?_
    refine sw_aload_n dX6_stowaway_25 rfl ?_
    refine sw_getI dX6_stowaway_26 fl_X6_91 rfl rfl ?_
    refine sw_iconst (v := 0) dX6_stowaway_29 (by decide) ?_
    refine sw_iastR dX6_stowaway_30 rfl (vp_in_e (j := nc) (by rw [sm_set_ne (by decide)]; exact hC.1) (by have := hC.2; omega) (by decide)) ?_
    refine sw_iconst (v := 0) dX6_stowaway_31 (by decide) ?_
    refine sw_istore dX6_stowaway_32 (by decide) rfl ?_
    refine sw_iload dX6_stowaway_34 rfl ?_
    refine sw_bipush (v := 6) dX6_stowaway_36 (by decide) ?_
    refine sw_icmp_ge (tgt := 126) dX6_stowaway_38 (by decide) (fun h => absurd h (by decide)) (fun _ => ?_)
    refine sw_iconst (v := 1) dX6_stowaway_41 (by decide) ?_
    refine sw_istore dX6_stowaway_42 (by decide) rfl ?_
    have e : p_stow σ np nc z w = q_endw w (q_stw np nc z 54 (9 * 0 + 0) 0 (-4) (r_set (sm_set σ 110 29 1) 111 8 (nI nc) 0)) := by simp_all [p_stow, sm_b_e0]
    rw [e]
    refine sw_st (σ2 := r_set (sm_set σ 110 29 1) 111 8 (nI nc) 0) (by rw [sm_set_ne (by decide), hC.1]) ?_
    refine sw_lv (l_p_stow 54 0 0 0 (-4) _ (by decide) (by decide) (by decide) (q_Z_row (by decide) (by unfold q_Z; rw [sm_set_ne (by decide)]; exact hZ)) (q_P_row (by decide) (q_P_set (by decide) (by decide) hP)) ⟨⟨by rw [r_set_off (by decide), sm_set_ne (by decide)]; exact hC.1, hC.2⟩, by rw [r_set_off (by decide), sm_set_eq]⟩) (And.intro rfl (And.intro rfl (And.intro rfl (And.intro rfl (And.intro rfl (And.intro rfl trivial))))))
  · refine sw_iconst (v := -1) dX6_stowaway_9 (by decide) ?_
    refine sw_iret dX6_stowaway_10 rfl rfl ?_ ?_
    all_goals (first | with_reducible rfl | (simp_all [-Int32.not_lt, -Int32.not_le, sm_b_e0, sm_b_e1, sm_b_0e, sm_b_1e, p_stow]))

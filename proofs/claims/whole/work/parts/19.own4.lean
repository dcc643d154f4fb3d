def g_red1 (d : Int32) (p : Int32 × Int32) : Int32 × Int32 := if m_rem p.1 d = 0 ∧ m_rem p.2 d = 0 then (p.1 / d, p.2 / d) else p
def g_red : Nat → Int32 × Int32 → Int32 × Int32
  | 0, p => p
  | n + 1, p => g_red n (g_red1 5 (g_red1 2 p))
def g_lik (x : Int32) : Nat → Int32 → sm_St → Int32 × sm_St
  | 0, b, τ => (b, τ)
  | n + 1, b, τ => g_lik x n (b * 10) (g_hour81 τ x)
def m_part (w : Int32) (p : Int32 × Int32) : Int32 := if w = 0 then p.1 else p.2
def m_lik (w here : Int32) (N : Nat) (q : Int32 × sm_St) : Int32 × sm_St := (m_part w (g_red N (r_at (q.2 108) 81 here, q.1)), q.2)
def m_chance0 (σ : sm_St) : sm_St := r_set (sm_row σ 108 (f_fill (σ 108) 0 81)) 108 81 (σ 0 1 * 9 + σ 0 0) 1
def m_likely (σ : sm_St) (t x w : Int32) : Int32 × sm_St := if sm_win t 0 7 = true ∧ sm_win x 0 10 = true ∧ sm_win w 0 1 = true then m_lik w (σ 0 1 * 9 + σ 0 0) t.toNatClampNeg (g_lik x t.toNatClampNeg 1 (m_chance0 σ)) else (-1, σ)

set_option maxHeartbeats 4000000 in
theorem l_red {t x w here : Int32} : ∀ (n : Nat) (i : Nat) (p : Int32 × Int32) (τ : sm_St), i + n = t.toNatClampNeg → sm_W RX5 cX5_likely 8 (some .int) 7 (some (.int (m_part w (g_red n p)))) τ 112 [(0, .ref 96), (1, .int t), (2, .int x), (3, .int w), (4, .int here), (5, .int p.2), (6, .int p.1), (7, .int (nI i))] [] τ := by
  intro n
  induction n with
  | zero =>
    intro i p τ h1
    refine sw_iload dX5_likely_112 rfl ?_
    refine sw_iload_n dX5_likely_114 rfl ?_
    refine sw_icmp_ge (tgt := 176) dX5_likely_115 (by decide) (fun _ => ?_) (fun h => absurd ((sm_le_clamp (by have := sm_clamp_lt t; omega)).mpr (by omega)) h)
    refine sw_iload_n dX5_likely_176 rfl ?_
    refine sw_if_ne (tgt := 185) dX5_likely_177 (by decide) (fun h177 => ?_) (fun h177 => ?_)
    · refine sw_iload dX5_likely_185 rfl ?_
      refine sw_iret dX5_likely_187 rfl rfl ?_ ?_
      all_goals (first | with_reducible rfl | (simp_all [m_part, g_red]))
    · refine sw_iload dX5_likely_180 rfl ?_
      refine sw_goto (tgt := 187) dX5_likely_182 (by decide) ?_
      refine sw_iret dX5_likely_187 rfl rfl ?_ ?_
      all_goals (first | with_reducible rfl | (simp_all [m_part, g_red]))
  | succ n ih =>
    intro i p τ h1
    refine sw_iload dX5_likely_112 rfl ?_
    refine sw_iload_n dX5_likely_114 rfl ?_
    refine sw_icmp_ge (tgt := 176) dX5_likely_115 (by decide) (fun h => absurd h ((fun h => absurd ((sm_le_clamp (by have := sm_clamp_lt t; omega)).mp h) (by omega)))) (fun _ => ?_)
    refine sw_iload dX5_likely_118 rfl ?_
    refine sw_iconst (v := 2) dX5_likely_120 (by decide) ?_
    refine sw_irem dX5_likely_121 (by decide) ?_
    refine sw_if_ne (tgt := 144) dX5_likely_122 (by decide) (fun h122 => ?_) (fun h122 => ?_)
    · refine sw_iload dX5_likely_144 rfl ?_
      refine sw_iconst (v := 5) dX5_likely_146 (by decide) ?_
      refine sw_irem dX5_likely_147 (by decide) ?_
      refine sw_if_ne (tgt := 170) dX5_likely_148 (by decide) (fun h148 => ?_) (fun h148 => ?_)
      · refine sw_iinc dX5_likely_170 rfl rfl (by decide) rfl ?_
        refine sw_goto (tgt := 112) dX5_likely_173 (by decide) ?_
        have e : g_red (n + 1) p = g_red n (g_red1 5 (g_red1 2 p)) := rfl
        rw [e]
        refine sw_lv (ih (i + 1) (g_red1 5 (g_red1 2 p)) τ (by omega)) (And.intro rfl (And.intro rfl (And.intro rfl (And.intro rfl (And.intro rfl (And.intro (sm_e rfl ?_) (And.intro (sm_e rfl ?_) (And.intro (sm_e rfl ?_) trivial))))))))
        all_goals first | (rw [sm_i1, nI_succ]; done) | (simp_all [g_red1]; done)
      · refine sw_iload dX5_likely_151 rfl ?_
        refine sw_iconst (v := 5) dX5_likely_153 (by decide) ?_
        refine sw_irem dX5_likely_154 (by decide) ?_
        refine sw_if_ne (tgt := 170) dX5_likely_155 (by decide) (fun h155 => ?_) (fun h155 => ?_)
        · refine sw_iinc dX5_likely_170 rfl rfl (by decide) rfl ?_
          refine sw_goto (tgt := 112) dX5_likely_173 (by decide) ?_
          have e : g_red (n + 1) p = g_red n (g_red1 5 (g_red1 2 p)) := rfl
          rw [e]
          refine sw_lv (ih (i + 1) (g_red1 5 (g_red1 2 p)) τ (by omega)) (And.intro rfl (And.intro rfl (And.intro rfl (And.intro rfl (And.intro rfl (And.intro (sm_e rfl ?_) (And.intro (sm_e rfl ?_) (And.intro (sm_e rfl ?_) trivial))))))))
          all_goals first | (rw [sm_i1, nI_succ]; done) | (simp_all [g_red1]; done)
        · refine sw_iload dX5_likely_158 rfl ?_
          refine sw_iconst (v := 5) dX5_likely_160 (by decide) ?_
          refine sw_idiv dX5_likely_161 (by decide) ?_
          refine sw_istore dX5_likely_162 (by decide) rfl ?_
          refine sw_iload dX5_likely_164 rfl ?_
          refine sw_iconst (v := 5) dX5_likely_166 (by decide) ?_
          refine sw_idiv dX5_likely_167 (by decide) ?_
          refine sw_istore dX5_likely_168 (by decide) rfl ?_
          refine sw_iinc dX5_likely_170 rfl rfl (by decide) rfl ?_
          refine sw_goto (tgt := 112) dX5_likely_173 (by decide) ?_
          have e : g_red (n + 1) p = g_red n (g_red1 5 (g_red1 2 p)) := rfl
          rw [e]
          refine sw_lv (ih (i + 1) (g_red1 5 (g_red1 2 p)) τ (by omega)) (And.intro rfl (And.intro rfl (And.intro rfl (And.intro rfl (And.intro rfl (And.intro (sm_e rfl ?_) (And.intro (sm_e rfl ?_) (And.intro (sm_e rfl ?_) trivial))))))))
          all_goals first | (rw [sm_i1, nI_succ]; done) | (simp_all [g_red1]; done)
    · refine sw_iload dX5_likely_125 rfl ?_
      refine sw_iconst (v := 2) dX5_likely_127 (by decide) ?_
      refine sw_irem dX5_likely_128 (by decide) ?_
      refine sw_if_ne (tgt := 144) dX5_likely_129 (by decide) (fun h129 => ?_) (fun h129 => ?_)
      · refine sw_iload dX5_likely_144 rfl ?_
        refine sw_iconst (v := 5) dX5_likely_146 (by decide) ?_
        refine sw_irem dX5_likely_147 (by decide) ?_
        refine sw_if_ne (tgt := 170) dX5_likely_148 (by decide) (fun h148 => ?_) (fun h148 => ?_)
        · refine sw_iinc dX5_likely_170 rfl rfl (by decide) rfl ?_
          refine sw_goto (tgt := 112) dX5_likely_173 (by decide) ?_
          have e : g_red (n + 1) p = g_red n (g_red1 5 (g_red1 2 p)) := rfl
          rw [e]
          refine sw_lv (ih (i + 1) (g_red1 5 (g_red1 2 p)) τ (by omega)) (And.intro rfl (And.intro rfl (And.intro rfl (And.intro rfl (And.intro rfl (And.intro (sm_e rfl ?_) (And.intro (sm_e rfl ?_) (And.intro (sm_e rfl ?_) trivial))))))))
          all_goals first | (rw [sm_i1, nI_succ]; done) | (simp_all [g_red1]; done)
        · refine sw_iload dX5_likely_151 rfl ?_
          refine sw_iconst (v := 5) dX5_likely_153 (by decide) ?_
          refine sw_irem dX5_likely_154 (by decide) ?_
          refine sw_if_ne (tgt := 170) dX5_likely_155 (by decide) (fun h155 => ?_) (fun h155 => ?_)
          · refine sw_iinc dX5_likely_170 rfl rfl (by decide) rfl ?_
            refine sw_goto (tgt := 112) dX5_likely_173 (by decide) ?_
            have e : g_red (n + 1) p = g_red n (g_red1 5 (g_red1 2 p)) := rfl
            rw [e]
            refine sw_lv (ih (i + 1) (g_red1 5 (g_red1 2 p)) τ (by omega)) (And.intro rfl (And.intro rfl (And.intro rfl (And.intro rfl (And.intro rfl (And.intro (sm_e rfl ?_) (And.intro (sm_e rfl ?_) (And.intro (sm_e rfl ?_) trivial))))))))
            all_goals first | (rw [sm_i1, nI_succ]; done) | (simp_all [g_red1]; done)
          · refine sw_iload dX5_likely_158 rfl ?_
            refine sw_iconst (v := 5) dX5_likely_160 (by decide) ?_
            refine sw_idiv dX5_likely_161 (by decide) ?_
            refine sw_istore dX5_likely_162 (by decide) rfl ?_
            refine sw_iload dX5_likely_164 rfl ?_
            refine sw_iconst (v := 5) dX5_likely_166 (by decide) ?_
            refine sw_idiv dX5_likely_167 (by decide) ?_
            refine sw_istore dX5_likely_168 (by decide) rfl ?_
            refine sw_iinc dX5_likely_170 rfl rfl (by decide) rfl ?_
            refine sw_goto (tgt := 112) dX5_likely_173 (by decide) ?_
            have e : g_red (n + 1) p = g_red n (g_red1 5 (g_red1 2 p)) := rfl
            rw [e]
            refine sw_lv (ih (i + 1) (g_red1 5 (g_red1 2 p)) τ (by omega)) (And.intro rfl (And.intro rfl (And.intro rfl (And.intro rfl (And.intro rfl (And.intro (sm_e rfl ?_) (And.intro (sm_e rfl ?_) (And.intro (sm_e rfl ?_) trivial))))))))
            all_goals first | (rw [sm_i1, nI_succ]; done) | (simp_all [g_red1]; done)
      · refine sw_iload dX5_likely_132 rfl ?_
        refine sw_iconst (v := 2) dX5_likely_134 (by decide) ?_
        refine sw_idiv dX5_likely_135 (by decide) ?_
        refine sw_istore dX5_likely_136 (by decide) rfl ?_
        refine sw_iload dX5_likely_138 rfl ?_
        refine sw_iconst (v := 2) dX5_likely_140 (by decide) ?_
        refine sw_idiv dX5_likely_141 (by decide) ?_
        refine sw_istore dX5_likely_142 (by decide) rfl ?_
        refine sw_iload dX5_likely_144 rfl ?_
        refine sw_iconst (v := 5) dX5_likely_146 (by decide) ?_
        refine sw_irem dX5_likely_147 (by decide) ?_
        refine sw_if_ne (tgt := 170) dX5_likely_148 (by decide) (fun h148 => ?_) (fun h148 => ?_)
        · refine sw_iinc dX5_likely_170 rfl rfl (by decide) rfl ?_
          refine sw_goto (tgt := 112) dX5_likely_173 (by decide) ?_
          have e : g_red (n + 1) p = g_red n (g_red1 5 (g_red1 2 p)) := rfl
          rw [e]
          refine sw_lv (ih (i + 1) (g_red1 5 (g_red1 2 p)) τ (by omega)) (And.intro rfl (And.intro rfl (And.intro rfl (And.intro rfl (And.intro rfl (And.intro (sm_e rfl ?_) (And.intro (sm_e rfl ?_) (And.intro (sm_e rfl ?_) trivial))))))))
          all_goals first | (rw [sm_i1, nI_succ]; done) | (simp_all [g_red1]; done)
        · refine sw_iload dX5_likely_151 rfl ?_
          refine sw_iconst (v := 5) dX5_likely_153 (by decide) ?_
          refine sw_irem dX5_likely_154 (by decide) ?_
          refine sw_if_ne (tgt := 170) dX5_likely_155 (by decide) (fun h155 => ?_) (fun h155 => ?_)
          · refine sw_iinc dX5_likely_170 rfl rfl (by decide) rfl ?_
            refine sw_goto (tgt := 112) dX5_likely_173 (by decide) ?_
            have e : g_red (n + 1) p = g_red n (g_red1 5 (g_red1 2 p)) := rfl
            rw [e]
            refine sw_lv (ih (i + 1) (g_red1 5 (g_red1 2 p)) τ (by omega)) (And.intro rfl (And.intro rfl (And.intro rfl (And.intro rfl (And.intro rfl (And.intro (sm_e rfl ?_) (And.intro (sm_e rfl ?_) (And.intro (sm_e rfl ?_) trivial))))))))
            all_goals first | (rw [sm_i1, nI_succ]; done) | (simp_all [g_red1]; done)
          · refine sw_iload dX5_likely_158 rfl ?_
            refine sw_iconst (v := 5) dX5_likely_160 (by decide) ?_
            refine sw_idiv dX5_likely_161 (by decide) ?_
            refine sw_istore dX5_likely_162 (by decide) rfl ?_
            refine sw_iload dX5_likely_164 rfl ?_
            refine sw_iconst (v := 5) dX5_likely_166 (by decide) ?_
            refine sw_idiv dX5_likely_167 (by decide) ?_
            refine sw_istore dX5_likely_168 (by decide) rfl ?_
            refine sw_iinc dX5_likely_170 rfl rfl (by decide) rfl ?_
            refine sw_goto (tgt := 112) dX5_likely_173 (by decide) ?_
            have e : g_red (n + 1) p = g_red n (g_red1 5 (g_red1 2 p)) := rfl
            rw [e]
            refine sw_lv (ih (i + 1) (g_red1 5 (g_red1 2 p)) τ (by omega)) (And.intro rfl (And.intro rfl (And.intro rfl (And.intro rfl (And.intro rfl (And.intro (sm_e rfl ?_) (And.intro (sm_e rfl ?_) (And.intro (sm_e rfl ?_) trivial))))))))
            all_goals first | (rw [sm_i1, nI_succ]; done) | (simp_all [g_red1]; done)

set_option maxHeartbeats 4000000 in
theorem l_lik {t x w here : Int32} : ∀ (n : Nat) (i : Nat) (b : Int32) (τ : sm_St), i + n = t.toNatClampNeg → sm_W RX5 cX5_likely 8 (some .int) 7 (some (.int (m_lik w here t.toNatClampNeg (g_lik x n b τ)).1)) (m_lik w here t.toNatClampNeg (g_lik x n b τ)).2 74 [(0, .ref 96), (1, .int t), (2, .int x), (3, .int w), (4, .int here), (5, .int b), (6, .int (nI i))] [] τ := by
  intro n
  induction n with
  | zero =>
    intro i b τ h1
    refine sw_iload dX5_likely_74 rfl ?_
    refine sw_iload_n dX5_likely_76 rfl ?_
    refine sw_icmp_ge (tgt := 98) dX5_likely_77 (by decide) (fun _ => ?_) (fun h => absurd ((sm_le_clamp (by have := sm_clamp_lt t; omega)).mpr (by omega)) h)
    refine sw_aload_n dX5_likely_98 rfl ?_
    refine sw_getR (j := 108) dX5_likely_99 fl_X5_45 rfl rfl ?_
    refine sw_iload dX5_likely_102 rfl ?_
    refine sw_callS dX5_likely_104 lS_X5_99 (c_at (k := 108) rfl _) rfl rfl (Nat.le_of_ble_eq_true rfl) (Nat.le_of_ble_eq_true rfl) ?_
    refine sw_istore dX5_likely_107 (by decide) rfl ?_
    refine sw_iconst (v := 0) dX5_likely_109 (by decide) ?_
    refine sw_istore dX5_likely_110 (by decide) rfl ?_
    refine sw_lv (l_red _ 0 (_, _) τ (by omega)) (And.intro rfl (And.intro rfl (And.intro rfl (And.intro rfl (And.intro rfl (And.intro rfl (And.intro rfl (And.intro rfl trivial))))))))
  | succ n ih =>
    intro i b τ h1
    refine sw_iload dX5_likely_74 rfl ?_
    refine sw_iload_n dX5_likely_76 rfl ?_
    refine sw_icmp_ge (tgt := 98) dX5_likely_77 (by decide) (fun h => absurd h ((fun h => absurd ((sm_le_clamp (by have := sm_clamp_lt t; omega)).mp h) (by omega)))) (fun _ => ?_)
    refine sw_aload_n dX5_likely_80 rfl ?_
    refine sw_iload_n dX5_likely_81 rfl ?_
    refine sw_callV dX5_likely_82 lV_X5_234 (c_spreadAnHour _) rfl rfl rfl rfl (Nat.le_of_ble_eq_true rfl) (Nat.le_of_ble_eq_true rfl) ?_
    refine sw_iload dX5_likely_85 rfl ?_
    refine sw_bipush (v := 10) dX5_likely_87 (by decide) ?_
    refine sw_imul dX5_likely_89 ?_
    refine sw_istore dX5_likely_90 (by decide) rfl ?_
    refine sw_iinc dX5_likely_92 rfl rfl (by decide) rfl ?_
    refine sw_goto (tgt := 74) dX5_likely_95 (by decide) ?_
    refine sw_lv (ih (i + 1) _ _ (by omega)) (And.intro rfl (And.intro rfl (And.intro rfl (And.intro rfl (And.intro rfl (And.intro rfl (And.intro (sm_e rfl ?_) trivial)))))))
    all_goals (rw [sm_i1, nI_succ])

set_option maxHeartbeats 4000000 in
theorem c_likely {σ : sm_St} (t x w : Int32) : sm_C yX5_likely cX5_likely 8 (some .int) 7 [.ref 96, .int t, .int x, .int w] σ (some (.int ((m_likely σ t x w).1))) (m_likely σ t x w).2 := by
  refine sm_C.of (own := RX5) (by decide) rfl (Nat.le_of_ble_eq_true rfl) ?_
  show sm_W RX5 cX5_likely 8 (some .int) 7 (some (.int ((m_likely σ t x w).1))) (m_likely σ t x w).2 0 [(0, .ref 96), (1, .int t), (2, .int x), (3, .int w)] [] σ
  refine sw_iload_n dX5_likely_0 rfl ?_
  refine sw_iconst (v := 0) dX5_likely_1 (by decide) ?_
  refine sw_bipush (v := 7) dX5_likely_2 (by decide) ?_
  refine sw_callS dX5_likely_4 lS_X5_75 (c_within _ _ _) rfl rfl (Nat.le_of_ble_eq_true rfl) (Nat.le_of_ble_eq_true rfl) ?_
  refine sw_if_eq (tgt := 29) dX5_likely_7 (by decide) (fun h7 => ?_) (fun h7 => ?_)
  · refine sw_iconst (v := -1) dX5_likely_29 (by decide) ?_
    refine sw_iret dX5_likely_30 rfl rfl ?_ ?_
    all_goals (first | with_reducible rfl | (simp_all [-Int32.not_lt, -Int32.not_le, sm_b_e0, sm_b_e1, m_likely]))
  · refine sw_iload_n dX5_likely_10 rfl ?_
    refine sw_iconst (v := 0) dX5_likely_11 (by decide) ?_
    refine sw_bipush (v := 10) dX5_likely_12 (by decide) ?_
    refine sw_callS dX5_likely_14 lS_X5_75 (c_within _ _ _) rfl rfl (Nat.le_of_ble_eq_true rfl) (Nat.le_of_ble_eq_true rfl) ?_
    refine sw_if_eq (tgt := 29) dX5_likely_17 (by decide) (fun h17 => ?_) (fun h17 => ?_)
    · refine sw_iconst (v := -1) dX5_likely_29 (by decide) ?_
      refine sw_iret dX5_likely_30 rfl rfl ?_ ?_
      all_goals (first | with_reducible rfl | (simp_all [-Int32.not_lt, -Int32.not_le, sm_b_e0, sm_b_e1, m_likely]))
    · refine sw_iload_n dX5_likely_20 rfl ?_
      refine sw_iconst (v := 0) dX5_likely_21 (by decide) ?_
      refine sw_iconst (v := 1) dX5_likely_22 (by decide) ?_
      refine sw_callS dX5_likely_23 lS_X5_75 (c_within _ _ _) rfl rfl (Nat.le_of_ble_eq_true rfl) (Nat.le_of_ble_eq_true rfl) ?_
      refine sw_if_ne (tgt := 31) dX5_likely_26 (by decide) (fun h26 => ?_) (fun h26 => ?_)
      · refine sw_aload_n dX5_likely_31 rfl ?_
        refine sw_getR (j := 0) dX5_likely_32 fl_X5_19 rfl rfl ?_
        refine sw_getI dX5_likely_35 fl_X5_181 rfl rfl ?_
        refine sw_aload_n dX5_likely_38 rfl ?_
        refine sw_getR (j := 0) dX5_likely_39 fl_X5_19 rfl rfl ?_
        refine sw_getI dX5_likely_42 fl_X5_184 rfl rfl ?_
        refine sw_callS dX5_likely_45 lS_X5_225 (c_cellOf _ _) rfl rfl (Nat.le_of_ble_eq_true rfl) (Nat.le_of_ble_eq_true rfl) ?_
        refine sw_istore dX5_likely_48 (by decide) rfl ?_
        refine sw_aload_n dX5_likely_50 rfl ?_
        refine sw_getR (j := 108) dX5_likely_51 fl_X5_45 rfl rfl ?_
        refine sw_iconst (v := 0) dX5_likely_54 (by decide) ?_
        refine sw_callS dX5_likely_55 lS_X5_228 (c_fill (k := 108) rfl _) rfl rfl (Nat.le_of_ble_eq_true rfl) (Nat.le_of_ble_eq_true rfl) ?_
        refine sw_aload_n dX5_likely_58 rfl ?_
        refine sw_getR (j := 108) dX5_likely_59 fl_X5_45 rfl rfl ?_
        refine sw_iload dX5_likely_62 rfl ?_
        refine sw_iconst (v := 1) dX5_likely_64 (by decide) ?_
        refine sw_callS dX5_likely_65 lS_X5_165 (c_set (k := 108) rfl _ _) rfl rfl (Nat.le_of_ble_eq_true rfl) (Nat.le_of_ble_eq_true rfl) ?_
        refine sw_iconst (v := 1) dX5_likely_68 (by decide) ?_
        refine sw_istore dX5_likely_69 (by decide) rfl ?_
        refine sw_iconst (v := 0) dX5_likely_71 (by decide) ?_
        refine sw_istore dX5_likely_72 (by decide) rfl ?_
        have e : m_likely σ t x w = m_lik w (σ 0 1 * 9 + σ 0 0) t.toNatClampNeg (g_lik x t.toNatClampNeg 1 (m_chance0 σ)) := by simp_all [m_likely, sm_b_e0]
        rw [e]
        refine sw_lv (l_lik _ 0 1 _ (by omega)) (And.intro rfl (And.intro rfl (And.intro rfl (And.intro rfl (And.intro rfl (And.intro rfl (And.intro rfl trivial)))))))
      · refine sw_iconst (v := -1) dX5_likely_29 (by decide) ?_
        refine sw_iret dX5_likely_30 rfl rfl ?_ ?_
        all_goals (first | with_reducible rfl | (simp_all [-Int32.not_lt, -Int32.not_le, sm_b_e0, sm_b_e1, m_likely]))

theorem sm_ngt {y m : Nat} (h : y < m) (hm : m < 2 ^ 30) : ¬ nI m < nI y + Int32.ofInt 1 := by
  rw [sm_i1, ← nI_succ, nI_ltI (by omega) (by omega)]
  omega

def g_hold (more : Int32) : Nat → Nat → sm_St → Int32 × sm_St
  | 0, _, τ => (-4, τ)
  | n + 1, c, τ =>
    if f_isAt (sm_V (r_set (r_set (r_set τ 9 6 more (nI (c % 9))) 10 6 more (nI (c / 9 % 9))) 11 6 more (nI (c / 81))) 0) (nI (c % 9)) (nI (c / 9 % 9)) = true then g_hold more n (c + 1) (r_set (r_set (r_set τ 9 6 more (nI (c % 9))) 10 6 more (nI (c / 9 % 9))) 11 6 more (nI (c / 81)))
    else if f_goes (sm_V (r_set (r_set (r_set τ 9 6 more (nI (c % 9))) 10 6 more (nI (c / 9 % 9))) 11 6 more (nI (c / 81))) 8) = 0 then (100 * nI (c / 81) + 10 * nI (c / 9 % 9) + nI (c % 9), g_goes (r_set (r_set (r_set τ 9 6 more (nI (c % 9))) 10 6 more (nI (c / 9 % 9))) 11 6 more (nI (c / 81))) 8)
    else g_hold more n (c + 1) (g_goes (r_set (r_set (r_set τ 9 6 more (nI (c % 9))) 10 6 more (nI (c / 9 % 9))) 11 6 more (nI (c / 81))) 8)
def m_more (σ : sm_St) : sm_St := g_addP (m_try σ) 8 0 0 0
def m_hold (σ : sm_St) : Int32 × sm_St := if f_goes (sm_V σ 0) = 0 then (-4, g_goes σ 0) else g_hold (m_try (g_goes σ 0) 8 6) 486 0 (m_more (g_goes σ 0))

set_option maxHeartbeats 4000000 in
theorem l_hold_n {more : Int32} {n : Nat} (ih : ∀ (s y x : Nat) (τ : sm_St), 81 * s + 9 * y + x + n = 486 → s ≤ 5 → y ≤ 8 → x ≤ 8 → sm_W RX5 cX5_hold 5 (some .int) 6 (some (.int (g_hold more n (81 * s + 9 * y + x) τ).1)) (g_hold more n (81 * s + 9 * y + x) τ).2 60 [(0, .ref 96), (1, .int more), (2, .int (nI s)), (3, .int (nI y)), (4, .int (nI x))] [] τ) : ∀ (s y x : Nat) (τ : sm_St), 81 * s + 9 * y + x + 1 + n = 486 → s ≤ 5 → y ≤ 8 → x ≤ 8 → sm_W RX5 cX5_hold 5 (some .int) 6 (some (.int (g_hold more n (81 * s + 9 * y + x + 1) τ).1)) (g_hold more n (81 * s + 9 * y + x + 1) τ).2 110 [(0, .ref 96), (1, .int more), (2, .int (nI s)), (3, .int (nI y)), (4, .int (nI x))] [] τ := by
  intro s y x τ h1 h2 h3 h4
  refine sw_iinc dX5_hold_110 rfl rfl (by decide) rfl ?_
  refine sw_goto (tgt := 60) dX5_hold_113 (by decide) ?_
  by_cases hx : x < 8
  · have e : 81 * s + 9 * y + x + 1 = 81 * s + 9 * y + (x + 1) := by omega
    rw [e]
    refine sw_lv (ih s y (x + 1) τ (by omega) (by omega) (by omega) (by omega)) (And.intro rfl (And.intro rfl (And.intro rfl (And.intro rfl (And.intro (sm_e rfl ?_) trivial)))))
    all_goals (first | rfl | (rw [sm_i1, nI_succ]; done) | (rw [show x = 8 by omega]; decide))
  · refine sw_iload dX5_hold_60 rfl ?_
    refine sw_bipush (v := 8) dX5_hold_62 (by decide) ?_
    refine sw_icmp_gt (tgt := 116) dX5_hold_64 (by decide) (fun _ => ?_) (fun h => absurd ((by rw [show x = 8 by omega]; decide)) h)
    refine sw_iinc dX5_hold_116 rfl rfl (by decide) rfl ?_
    refine sw_goto (tgt := 51) dX5_hold_119 (by decide) ?_
    by_cases hy : y < 8
    · refine sw_iload_n dX5_hold_51 rfl ?_
      refine sw_bipush (v := 8) dX5_hold_52 (by decide) ?_
      refine sw_icmp_gt (tgt := 122) dX5_hold_54 (by decide) (fun h => absurd h ((sm_ngt (m := 8) hy (by decide)))) (fun _ => ?_)
      refine sw_iconst (v := 0) dX5_hold_57 (by decide) ?_
      refine sw_istore dX5_hold_58 (by decide) rfl ?_
      have e : 81 * s + 9 * y + x + 1 = 81 * s + 9 * (y + 1) + 0 := by omega
      rw [e]
      refine sw_lv (ih s (y + 1) 0 τ (by omega) (by omega) (by omega) (by omega)) (And.intro rfl (And.intro rfl (And.intro rfl (And.intro (sm_e rfl ?_) (And.intro (sm_e rfl ?_) trivial)))))
      all_goals (first | rfl | (rw [sm_i1, nI_succ]; done) | (rw [show x = 8 by omega]; decide))
    · refine sw_iload_n dX5_hold_51 rfl ?_
      refine sw_bipush (v := 8) dX5_hold_52 (by decide) ?_
      refine sw_icmp_gt (tgt := 122) dX5_hold_54 (by decide) (fun _ => ?_) (fun h => absurd ((by rw [show y = 8 by omega]; decide)) h)
      refine sw_iinc dX5_hold_122 rfl rfl (by decide) rfl ?_
      refine sw_goto (tgt := 44) dX5_hold_125 (by decide) ?_
      by_cases hs : s < 5
      · refine sw_iload_n dX5_hold_44 rfl ?_
        refine sw_iconst (v := 5) dX5_hold_45 (by decide) ?_
        refine sw_icmp_gt (tgt := 128) dX5_hold_46 (by decide) (fun h => absurd h ((sm_ngt (m := 5) hs (by decide)))) (fun _ => ?_)
        refine sw_iconst (v := 0) dX5_hold_49 (by decide) ?_
        refine sw_istore_n dX5_hold_50 (by decide) rfl ?_
        refine sw_iload_n dX5_hold_51 rfl ?_
        refine sw_bipush (v := 8) dX5_hold_52 (by decide) ?_
        refine sw_icmp_gt (tgt := 122) dX5_hold_54 (by decide) (fun h => absurd h (by decide)) (fun _ => ?_)
        refine sw_iconst (v := 0) dX5_hold_57 (by decide) ?_
        refine sw_istore dX5_hold_58 (by decide) rfl ?_
        have e : 81 * s + 9 * y + x + 1 = 81 * (s + 1) + 9 * 0 + 0 := by omega
        rw [e]
        refine sw_lv (ih (s + 1) 0 0 τ (by omega) (by omega) (by omega) (by omega)) (And.intro rfl (And.intro rfl (And.intro (sm_e rfl ?_) (And.intro (sm_e rfl ?_) (And.intro (sm_e rfl ?_) trivial)))))
        all_goals (first | rfl | (rw [sm_i1, nI_succ]; done) | (rw [show x = 8 by omega]; decide))
      · refine sw_iload_n dX5_hold_44 rfl ?_
        refine sw_iconst (v := 5) dX5_hold_45 (by decide) ?_
        refine sw_icmp_gt (tgt := 128) dX5_hold_46 (by decide) (fun _ => ?_) (fun h => absurd ((by rw [show s = 5 by omega]; decide)) h)
        refine sw_bipush (v := -4) dX5_hold_128 (by decide) ?_
        refine sw_iret dX5_hold_130 rfl rfl ?_ ?_
        all_goals (first | with_reducible rfl | (rw [show n = 0 by omega]; rfl))

set_option maxHeartbeats 4000000 in
theorem l_hold {more : Int32} : ∀ (n s y x : Nat) (τ : sm_St), 81 * s + 9 * y + x + n = 486 → s ≤ 5 → y ≤ 8 → x ≤ 8 → sm_W RX5 cX5_hold 5 (some .int) 6 (some (.int (g_hold more n (81 * s + 9 * y + x) τ).1)) (g_hold more n (81 * s + 9 * y + x) τ).2 60 [(0, .ref 96), (1, .int more), (2, .int (nI s)), (3, .int (nI y)), (4, .int (nI x))] [] τ := by
  intro n
  induction n with
  | zero => intro s y x τ h1 h2 h3 h4; omega
  | succ n ih =>
    intro s y x τ h1 h2 h3 h4
    have e1 : (81 * s + 9 * y + x) % 9 = x := by omega
    have e2 : (81 * s + 9 * y + x) / 9 % 9 = y := by omega
    have e3 : (81 * s + 9 * y + x) / 81 = s := by omega
    refine sw_iload dX5_hold_60 rfl ?_
    refine sw_bipush (v := 8) dX5_hold_62 (by decide) ?_
    refine sw_icmp_gt (tgt := 116) dX5_hold_64 (by decide) (fun h => absurd h ((fun h => absurd ((nI_ltI (by decide) (by omega)).mp (show nI 8 < nI x from h)) (by omega)))) (fun _ => ?_)
    refine sw_aload_n dX5_hold_67 rfl ?_
    refine sw_getR (j := 8) dX5_hold_68 fl_X5_23 rfl rfl ?_
    refine sw_iload_n dX5_hold_71 rfl ?_
    refine sw_iload dX5_hold_72 rfl ?_
    refine sw_iload_n dX5_hold_74 rfl ?_
    refine sw_iload_n dX5_hold_75 rfl ?_
    refine sw_callV dX5_hold_76 lV_X5_191 (c_changePost (k := 8) sm_isF8 _ _ _ _) rfl rfl rfl rfl (Nat.le_of_ble_eq_true rfl) (Nat.le_of_ble_eq_true rfl) ?_
    refine sw_aload_n dX5_hold_79 rfl ?_
    refine sw_getR (j := 0) dX5_hold_80 fl_X5_19 rfl rfl ?_
    refine sw_iload dX5_hold_83 rfl ?_
    refine sw_iload_n dX5_hold_85 rfl ?_
    refine sw_callV dX5_hold_86 lV_X5_195 (c_isShipAt (k := 0) sm_isF0 _ _) rfl rfl rfl rfl (Nat.le_of_ble_eq_true rfl) (Nat.le_of_ble_eq_true rfl) ?_
    refine sw_if_ne (tgt := 110) dX5_hold_89 (by decide) (fun h89 => ?_) (fun h89 => ?_)
    · rw [g_hold, e1, e2, e3, if_pos (by simpa [sm_b_e0] using h89)]
      refine sw_lv (l_hold_n ih s y x _ (by omega) h2 h3 h4) (And.intro rfl (And.intro rfl (And.intro rfl (And.intro rfl (And.intro rfl trivial)))))
    · refine sw_aload_n dX5_hold_92 rfl ?_
      refine sw_getR (j := 8) dX5_hold_93 fl_X5_23 rfl rfl ?_
      refine sw_callV dX5_hold_96 lV_X5_137 (c_goesTo (k := 8) sm_isF8) rfl rfl rfl rfl (Nat.le_of_ble_eq_true rfl) (Nat.le_of_ble_eq_true rfl) ?_
      refine sw_if_ne (tgt := 110) dX5_hold_99 (by decide) (fun h99 => ?_) (fun h99 => ?_)
      · rw [g_hold, e1, e2, e3, if_neg (by simpa [sm_b_e0] using h89), if_neg (by simpa using h99)]
        refine sw_lv (l_hold_n ih s y x _ (by omega) h2 h3 h4) (And.intro rfl (And.intro rfl (And.intro rfl (And.intro rfl (And.intro rfl trivial)))))
      · refine sw_iload_n dX5_hold_102 rfl ?_
        refine sw_iload_n dX5_hold_103 rfl ?_
        refine sw_iload dX5_hold_104 rfl ?_
        refine sw_callS dX5_hold_106 lS_X5_198 (c_nameOf _ _ _) rfl rfl (Nat.le_of_ble_eq_true rfl) (Nat.le_of_ble_eq_true rfl) ?_
        refine sw_iret dX5_hold_109 rfl rfl ?_ ?_
        all_goals (first | with_reducible rfl | (rw [g_hold, e1, e2, e3, if_neg (by simpa [sm_b_e0] using h89), if_pos (by simpa using h99)]))

set_option maxHeartbeats 4000000 in
theorem c_hold {σ : sm_St}  : sm_C yX5_hold cX5_hold 5 (some .int) 6 [.ref 96] σ (some (.int ((m_hold σ).1))) (m_hold σ).2 := by
  refine sm_C.of (own := RX5) (by decide) rfl (Nat.le_of_ble_eq_true rfl) ?_
  show sm_W RX5 cX5_hold 5 (some .int) 6 (some (.int ((m_hold σ).1))) (m_hold σ).2 0 [(0, .ref 96)] [] σ
  refine sw_aload_n dX5_hold_0 rfl ?_
  refine sw_getR (j := 0) dX5_hold_1 fl_X5_19 rfl rfl ?_
  refine sw_callV dX5_hold_4 lV_X5_137 (c_goesTo (k := 0) sm_isF0) rfl rfl rfl rfl (Nat.le_of_ble_eq_true rfl) (Nat.le_of_ble_eq_true rfl) ?_
  refine sw_if_ne (tgt := 13) dX5_hold_7 (by decide) (fun h7 => ?_) (fun h7 => ?_)
  · refine sw_aload_n dX5_hold_13 rfl ?_
    refine sw_getR (j := 8) dX5_hold_14 fl_X5_23 rfl rfl ?_
    refine sw_aload_n dX5_hold_17 rfl ?_
    refine sw_getR (j := 0) dX5_hold_18 fl_X5_19 rfl rfl ?_
    refine sw_callV dX5_hold_21 lV_X5_85 (c_copyFrom (k := 8) (j := 0) sm_isF8 sm_isF0 (by decide)) rfl rfl rfl rfl (Nat.le_of_ble_eq_true rfl) (Nat.le_of_ble_eq_true rfl) ?_
    refine sw_aload_n dX5_hold_24 rfl ?_
    refine sw_getR (j := 8) dX5_hold_25 fl_X5_23 rfl rfl ?_
    refine sw_getI dX5_hold_28 fl_X5_79 rfl rfl ?_
    refine sw_istore_n dX5_hold_31 (by decide) rfl ?_
    refine sw_aload_n dX5_hold_32 rfl ?_
    refine sw_getR (j := 8) dX5_hold_33 fl_X5_23 rfl rfl ?_
    refine sw_iconst (v := 0) dX5_hold_36 (by decide) ?_
    refine sw_iconst (v := 0) dX5_hold_37 (by decide) ?_
    refine sw_iconst (v := 0) dX5_hold_38 (by decide) ?_
    refine sw_callV dX5_hold_39 lV_X5_187 (c_addPost (k := 8) sm_isF8 _ _ _) rfl rfl rfl rfl (Nat.le_of_ble_eq_true rfl) (Nat.le_of_ble_eq_true rfl) ?_
    refine sw_iconst (v := 0) dX5_hold_42 (by decide) ?_
    refine sw_istore_n dX5_hold_43 (by decide) rfl ?_
    refine sw_iload_n dX5_hold_44 rfl ?_
    refine sw_iconst (v := 5) dX5_hold_45 (by decide) ?_
    refine sw_icmp_gt (tgt := 128) dX5_hold_46 (by decide) (fun h => absurd h (by decide)) (fun _ => ?_)
    refine sw_iconst (v := 0) dX5_hold_49 (by decide) ?_
    refine sw_istore_n dX5_hold_50 (by decide) rfl ?_
    refine sw_iload_n dX5_hold_51 rfl ?_
    refine sw_bipush (v := 8) dX5_hold_52 (by decide) ?_
    refine sw_icmp_gt (tgt := 122) dX5_hold_54 (by decide) (fun h => absurd h (by decide)) (fun _ => ?_)
    refine sw_iconst (v := 0) dX5_hold_57 (by decide) ?_
    refine sw_istore dX5_hold_58 (by decide) rfl ?_
    have e : m_hold σ = g_hold (m_try (g_goes σ 0) 8 6) 486 (81 * 0 + 9 * 0 + 0) (m_more (g_goes σ 0)) := by simp_all [m_hold]
    rw [e]
    refine sw_lv (l_hold 486 0 0 0 _ (by decide) (by decide) (by decide) (by decide)) (And.intro rfl (And.intro rfl (And.intro rfl (And.intro rfl (And.intro rfl trivial)))))
  · refine sw_bipush (v := -4) dX5_hold_10 (by decide) ?_
    refine sw_iret dX5_hold_12 rfl rfl ?_ ?_
    all_goals (first | with_reducible rfl | (simp_all [-Int32.not_lt, -Int32.not_le, sm_b_e0, sm_b_e1, m_hold]))

def g_voy (z : Int32) : Nat → Nat → Int32 → sm_St → Int32 × sm_St
  | 0, _, s, τ => (s, τ)
  | n + 1, i, s, τ => g_voy z n (i + 1) (s + (g_hours (m_change τ (m_draw z (nI i))) 8 (1 : Int32).toNatClampNeg).2) (g_hours (m_change τ (m_draw z (nI i))) 8 (1 : Int32).toNatClampNeg).1
def m_voy (w : Int32) (p : Int32 × sm_St) : Int32 × sm_St := (if w = 2 then p.1 else if w = 0 then p.2 8 0 else p.2 8 1, p.2)
def m_voyage (σ : sm_St) (z n w : Int32) : Int32 × sm_St := if sm_win z 0 9999 = true ∧ sm_win n 1 60 = true ∧ sm_win w 0 2 = true then m_voy w (g_voy z n.toNatClampNeg 0 0 (m_try σ)) else (-1, σ)

set_option maxHeartbeats 4000000 in
theorem l_voyage {z t w : Int32} : ∀ (n : Nat) (i : Nat) (s : Int32) (τ : sm_St), i + n = t.toNatClampNeg → sm_W RX5 cX5_voyage 6 (some .int) 6 (some (.int (m_voy w (g_voy z n i s τ)).1)) (m_voy w (g_voy z n i s τ)).2 49 [(0, .ref 96), (1, .int z), (2, .int t), (3, .int w), (4, .int s), (5, .int (nI i))] [] τ := by
  intro n
  induction n with
  | zero =>
    intro i s τ h1
    refine sw_iload dX5_voyage_49 rfl ?_
    refine sw_iload_n dX5_voyage_51 rfl ?_
    refine sw_icmp_ge (tgt := 84) dX5_voyage_52 (by decide) (fun _ => ?_) (fun h => absurd ((sm_le_clamp (by have := sm_clamp_lt t; omega)).mpr (by omega)) h)
    refine sw_iload_n dX5_voyage_84 rfl ?_
    refine sw_iconst (v := 2) dX5_voyage_85 (by decide) ?_
    refine sw_icmp_ne (tgt := 92) dX5_voyage_86 (by decide) (fun h86 => ?_) (fun h86 => ?_)
    · refine sw_iload_n dX5_voyage_92 rfl ?_
      refine sw_if_ne (tgt := 106) dX5_voyage_93 (by decide) (fun h93 => ?_) (fun h93 => ?_)
      · refine sw_aload_n dX5_voyage_106 rfl ?_
        refine sw_getR (j := 8) dX5_voyage_107 fl_X5_23 rfl rfl ?_
        refine sw_getI dX5_voyage_110 fl_X5_184 rfl rfl ?_
        refine sw_iret dX5_voyage_113 rfl rfl ?_ ?_
        all_goals (first | with_reducible rfl | (simp_all [m_voy, g_voy]))
      · refine sw_aload_n dX5_voyage_96 rfl ?_
        refine sw_getR (j := 8) dX5_voyage_97 fl_X5_23 rfl rfl ?_
        refine sw_getI dX5_voyage_100 fl_X5_181 rfl rfl ?_
        refine sw_goto (tgt := 113) dX5_voyage_103 (by decide) ?_
        refine sw_iret dX5_voyage_113 rfl rfl ?_ ?_
        all_goals (first | with_reducible rfl | (simp_all [m_voy, g_voy]))
    · refine sw_iload dX5_voyage_89 rfl ?_
      refine sw_iret dX5_voyage_91 rfl rfl ?_ ?_
      all_goals (first | with_reducible rfl | (simp_all [m_voy, g_voy]))
  | succ n ih =>
    intro i s τ h1
    refine sw_iload dX5_voyage_49 rfl ?_
    refine sw_iload_n dX5_voyage_51 rfl ?_
    refine sw_icmp_ge (tgt := 84) dX5_voyage_52 (by decide) (fun h => absurd h ((fun h => absurd ((sm_le_clamp (by have := sm_clamp_lt t; omega)).mp h) (by omega)))) (fun _ => ?_)
    refine sw_aload_n dX5_voyage_55 rfl ?_
    refine sw_iload_n dX5_voyage_56 rfl ?_
    refine sw_iload dX5_voyage_57 rfl ?_
    refine sw_callS dX5_voyage_59 lS_X5_237 (c_drawOf _ _) rfl rfl (Nat.le_of_ble_eq_true rfl) (Nat.le_of_ble_eq_true rfl) ?_
    refine sw_callV dX5_voyage_62 lV_X5_240 (c_changeByDraw _) rfl rfl rfl rfl (Nat.le_of_ble_eq_true rfl) (Nat.le_of_ble_eq_true rfl) ?_
    refine sw_iload dX5_voyage_65 rfl ?_
    refine sw_aload_n dX5_voyage_67 rfl ?_
    refine sw_getR (j := 8) dX5_voyage_68 fl_X5_23 rfl rfl ?_
    refine sw_iconst (v := 1) dX5_voyage_71 (by decide) ?_
    refine sw_callV dX5_voyage_72 lV_X5_152 (c_goHours (k := 8) sm_isF8 _) rfl rfl rfl rfl (Nat.le_of_ble_eq_true rfl) (Nat.le_of_ble_eq_true rfl) ?_
    refine sw_iadd dX5_voyage_75 ?_
    refine sw_istore dX5_voyage_76 (by decide) rfl ?_
    refine sw_iinc dX5_voyage_78 rfl rfl (by decide) rfl ?_
    refine sw_goto (tgt := 49) dX5_voyage_81 (by decide) ?_
    refine sw_lv (ih (i + 1) _ _ (by omega)) (And.intro rfl (And.intro rfl (And.intro rfl (And.intro rfl (And.intro rfl (And.intro (sm_e rfl ?_) trivial))))))
    all_goals (rw [sm_i1, nI_succ])

set_option maxHeartbeats 4000000 in
theorem c_voyage {σ : sm_St} (z t w : Int32) : sm_C yX5_voyage cX5_voyage 6 (some .int) 6 [.ref 96, .int z, .int t, .int w] σ (some (.int ((m_voyage σ z t w).1))) (m_voyage σ z t w).2 := by
  refine sm_C.of (own := RX5) (by decide) rfl (Nat.le_of_ble_eq_true rfl) ?_
  show sm_W RX5 cX5_voyage 6 (some .int) 6 (some (.int ((m_voyage σ z t w).1))) (m_voyage σ z t w).2 0 [(0, .ref 96), (1, .int z), (2, .int t), (3, .int w)] [] σ
  refine sw_iload_n dX5_voyage_0 rfl ?_
  refine sw_iconst (v := 0) dX5_voyage_1 (by decide) ?_
  refine sw_sipush (v := 9999) dX5_voyage_2 (by decide) ?_
  refine sw_callS dX5_voyage_5 lS_X5_75 (c_within _ _ _) rfl rfl (Nat.le_of_ble_eq_true rfl) (Nat.le_of_ble_eq_true rfl) ?_
  refine sw_if_eq (tgt := 30) dX5_voyage_8 (by decide) (fun h8 => ?_) (fun h8 => ?_)
  · refine sw_iconst (v := -1) dX5_voyage_30 (by decide) ?_
    refine sw_iret dX5_voyage_31 rfl rfl ?_ ?_
    all_goals (first | with_reducible rfl | (simp_all [-Int32.not_lt, -Int32.not_le, sm_b_e0, sm_b_e1, m_voyage]))
  · refine sw_iload_n dX5_voyage_11 rfl ?_
    refine sw_iconst (v := 1) dX5_voyage_12 (by decide) ?_
    refine sw_bipush (v := 60) dX5_voyage_13 (by decide) ?_
    refine sw_callS dX5_voyage_15 lS_X5_75 (c_within _ _ _) rfl rfl (Nat.le_of_ble_eq_true rfl) (Nat.le_of_ble_eq_true rfl) ?_
    refine sw_if_eq (tgt := 30) dX5_voyage_18 (by decide) (fun h18 => ?_) (fun h18 => ?_)
    · refine sw_iconst (v := -1) dX5_voyage_30 (by decide) ?_
      refine sw_iret dX5_voyage_31 rfl rfl ?_ ?_
      all_goals (first | with_reducible rfl | (simp_all [-Int32.not_lt, -Int32.not_le, sm_b_e0, sm_b_e1, m_voyage]))
    · refine sw_iload_n dX5_voyage_21 rfl ?_
      refine sw_iconst (v := 0) dX5_voyage_22 (by decide) ?_
      refine sw_iconst (v := 2) dX5_voyage_23 (by decide) ?_
      refine sw_callS dX5_voyage_24 lS_X5_75 (c_within _ _ _) rfl rfl (Nat.le_of_ble_eq_true rfl) (Nat.le_of_ble_eq_true rfl) ?_
      refine sw_if_ne (tgt := 32) dX5_voyage_27 (by decide) (fun h27 => ?_) (fun h27 => ?_)
      · refine sw_aload_n dX5_voyage_32 rfl ?_
        refine sw_getR (j := 8) dX5_voyage_33 fl_X5_23 rfl rfl ?_
        refine sw_aload_n dX5_voyage_36 rfl ?_
        refine sw_getR (j := 0) dX5_voyage_37 fl_X5_19 rfl rfl ?_
        refine sw_callV dX5_voyage_40 lV_X5_85 (c_copyFrom (k := 8) (j := 0) sm_isF8 sm_isF0 (by decide)) rfl rfl rfl rfl (Nat.le_of_ble_eq_true rfl) (Nat.le_of_ble_eq_true rfl) ?_
        refine sw_iconst (v := 0) dX5_voyage_43 (by decide) ?_
        refine sw_istore dX5_voyage_44 (by decide) rfl ?_
        refine sw_iconst (v := 0) dX5_voyage_46 (by decide) ?_
        refine sw_istore dX5_voyage_47 (by decide) rfl ?_
        have e : m_voyage σ z t w = m_voy w (g_voy z t.toNatClampNeg 0 0 (m_try σ)) := by simp_all [m_voyage, sm_b_e0]
        rw [e]
        refine sw_lv (l_voyage _ 0 0 _ (by omega)) (And.intro rfl (And.intro rfl (And.intro rfl (And.intro rfl (And.intro rfl (And.intro rfl trivial))))))
      · refine sw_iconst (v := -1) dX5_voyage_30 (by decide) ?_
        refine sw_iret dX5_voyage_31 rfl rfl ?_ ?_
        all_goals (first | with_reducible rfl | (simp_all [-Int32.not_lt, -Int32.not_le, sm_b_e0, sm_b_e1, m_voyage]))

def g_sp1 (i wt x : Int32) (σ : sm_St) (wf t : Int32) : sm_St := (g_hours (sm_set (sm_set (sm_set σ 8 0 (m_rem i 9)) 8 1 (i / 9)) 8 4 wf) 8 (1 : Int32).toNatClampNeg).1
def g_cell (σ : sm_St) : Int32 := σ 8 1 * 9 + σ 8 0
def g_spr (i wt wf t : Int32) (σ : sm_St) : sm_St := r_set (g_sp1 i wt 0 σ wf t) 109 81 (g_cell (g_sp1 i wt 0 σ wf t)) (r_at (g_sp1 i wt 0 σ wf t 109) 81 (g_cell (g_sp1 i wt 0 σ wf t)) + wt * t)
/-- the cells from the i-th on -/
def g_spread (x : Int32) : Nat → Nat → sm_St → sm_St
  | 0, _, τ => τ
  | n + 1, i, τ => g_spread x n (i + 1) (if r_at (τ 108) 81 (nI i) ≤ 0 then τ else g_spr (nI i) (r_at (τ 108) 81 (nI i)) 0 x (g_spr (nI i) (r_at (τ 108) 81 (nI i)) (τ 0 4) (10 - x) τ))
def g_hour81 (σ : sm_St) (x : Int32) : sm_St := sm_row (g_spread x 81 0 (sm_row (m_try σ) 109 (f_fill (m_try σ 109) 0 81))) 108 (va_cpy (g_spread x 81 0 (sm_row (m_try σ) 109 (f_fill (m_try σ 109) 0 81)) 109) (g_spread x 81 0 (sm_row (m_try σ) 109 (f_fill (m_try σ 109) 0 81)) 108) 0 0 81)
theorem g_hours_off {σ : sm_St} {k q : Nat} (h : q ≠ k) : ∀ n, (g_hours σ k n).1 q = σ q
  | 0 => rfl
  | n + 1 => by
    show g_hour (g_hours σ k n).1 k q = σ q
    unfold g_hour
    rw [sm_set_off h, sm_set_off h, sm_set_off h, g_goes_off h, g_hours_off h n]
theorem g_spr_off {i wt wf t : Int32} {σ : sm_St} {q : Nat} (h : q ≠ 8) (h2 : q ≠ 109) : g_spr i wt wf t σ q = σ q := by
  unfold g_spr g_sp1
  rw [r_set_off h2, g_hours_off h, sm_set_off h, sm_set_off h, sm_set_off h]

set_option maxHeartbeats 4000000 in
theorem l_spread {x : Int32} : ∀ (n : Nat) (i : Nat) (τ : sm_St), i + n = 81 → sm_W RX5 cX5_spreadAnHour 7 none 6 none (sm_row (g_spread x n i τ) 108 (va_cpy (g_spread x n i τ 109) (g_spread x n i τ 108) 0 0 81)) 21 [(0, .ref 96), (1, .int x), (2, .int (nI i))] [] τ := by
  intro n
  induction n with
  | zero =>
    intro i τ h1
    refine sw_iload_n dX5_spreadAnHour_21 rfl ?_
    refine sw_bipush (v := 81) dX5_spreadAnHour_22 (by decide) ?_
    refine sw_icmp_ge (tgt := 167) dX5_spreadAnHour_24 (by decide) (fun _ => ?_) (fun h => absurd ((by rw [show i = 81 by omega]; decide)) h)
    refine sw_aload_n dX5_spreadAnHour_167 rfl ?_
    refine sw_getR (j := 109) dX5_spreadAnHour_168 fl_X5_49 rfl rfl ?_
    refine sw_aload_n dX5_spreadAnHour_171 rfl ?_
    refine sw_getR (j := 108) dX5_spreadAnHour_172 fl_X5_45 rfl rfl ?_
    refine sw_callS dX5_spreadAnHour_175 lS_X5_246 (c_copy (a := 109) (b := 108) rfl rfl) rfl rfl (Nat.le_of_ble_eq_true rfl) (Nat.le_of_ble_eq_true rfl) ?_
    refine sw_vret dX5_spreadAnHour_178 rfl rfl ?_
    all_goals (first | with_reducible rfl | (rfl))
  | succ n ih =>
    intro i τ h1
    refine sw_iload_n dX5_spreadAnHour_21 rfl ?_
    refine sw_bipush (v := 81) dX5_spreadAnHour_22 (by decide) ?_
    refine sw_icmp_ge (tgt := 167) dX5_spreadAnHour_24 (by decide) (fun h => absurd h ((fun h => absurd ((nI_leI (by decide) (by omega)).mp (show nI 81 ≤ nI i from h)) (by omega)))) (fun _ => ?_)
    refine sw_aload_n dX5_spreadAnHour_27 rfl ?_
    refine sw_getR (j := 108) dX5_spreadAnHour_28 fl_X5_45 rfl rfl ?_
    refine sw_iload_n dX5_spreadAnHour_31 rfl ?_
    refine sw_callS dX5_spreadAnHour_32 lS_X5_99 (c_at (k := 108) rfl _) rfl rfl (Nat.le_of_ble_eq_true rfl) (Nat.le_of_ble_eq_true rfl) ?_
    refine sw_istore_n dX5_spreadAnHour_35 (by decide) rfl ?_
    refine sw_iconst (v := 0) dX5_spreadAnHour_36 (by decide) ?_
    refine sw_istore dX5_spreadAnHour_37 (by decide) rfl ?_
    refine sw_iload dX5_spreadAnHour_39 rfl ?_
    refine sw_iconst (v := 1) dX5_spreadAnHour_41 (by decide) ?_
    refine sw_icmp_gt (tgt := 161) dX5_spreadAnHour_42 (by decide) (fun h => absurd h (by decide)) (fun _ => ?_)
    refine sw_iload_n dX5_spreadAnHour_45 rfl ?_
    refine sw_if_le (tgt := 161) dX5_spreadAnHour_46 (by decide) (fun h46 => ?_) (fun h46 => ?_)
    · refine sw_iinc dX5_spreadAnHour_161 rfl rfl (by decide) rfl ?_
      refine sw_goto (tgt := 21) dX5_spreadAnHour_164 (by decide) ?_
      have e : g_spread x (n + 1) i τ = g_spread x n (i + 1) τ := by rw [g_spread, if_pos h46]
      rw [e]
      refine sw_lv (ih (i + 1) _ (by omega)) (And.intro rfl (And.intro rfl (And.intro (sm_e rfl ?_) trivial)))
      all_goals (rw [sm_i1, nI_succ])
    · refine sw_aload_n dX5_spreadAnHour_49 rfl ?_
      refine sw_getR (j := 8) dX5_spreadAnHour_50 fl_X5_23 rfl rfl ?_
      refine sw_iload_n dX5_spreadAnHour_53 rfl ?_
      refine sw_bipush (v := 9) dX5_spreadAnHour_54 (by decide) ?_
      refine sw_irem dX5_spreadAnHour_56 (by decide) ?_
      refine sw_iload_n dX5_spreadAnHour_57 rfl ?_
      refine sw_bipush (v := 9) dX5_spreadAnHour_58 (by decide) ?_
      refine sw_idiv dX5_spreadAnHour_60 (by decide) ?_
      refine sw_callV dX5_spreadAnHour_61 lV_X5_202 (c_moveShip (k := 8) sm_isF8 _ _) rfl rfl rfl rfl (Nat.le_of_ble_eq_true rfl) (Nat.le_of_ble_eq_true rfl) ?_
      refine sw_aload_n dX5_spreadAnHour_64 rfl ?_
      refine sw_getR (j := 8) dX5_spreadAnHour_65 fl_X5_23 rfl rfl ?_
      refine sw_iload dX5_spreadAnHour_68 rfl ?_
      refine sw_iconst (v := 1) dX5_spreadAnHour_70 (by decide) ?_
      refine sw_icmp_ne (tgt := 78) dX5_spreadAnHour_71 (by decide) (fun _ => ?_) (fun h => absurd h (by decide))
      refine sw_aload_n dX5_spreadAnHour_78 rfl ?_
      refine sw_getR (j := 0) dX5_spreadAnHour_79 fl_X5_19 rfl rfl ?_
      refine sw_getI dX5_spreadAnHour_82 fl_X5_155 rfl rfl ?_
      refine sw_put dX5_spreadAnHour_85 fl_X5_155 fi_0_4 rfl rfl ?_
      refine sw_aload_n dX5_spreadAnHour_88 rfl ?_
      refine sw_getR (j := 8) dX5_spreadAnHour_89 fl_X5_23 rfl rfl ?_
      refine sw_iconst (v := 1) dX5_spreadAnHour_92 (by decide) ?_
      refine sw_callV dX5_spreadAnHour_93 lV_X5_152 (c_goHours (k := 8) sm_isF8 _) rfl rfl rfl rfl (Nat.le_of_ble_eq_true rfl) (Nat.le_of_ble_eq_true rfl) ?_
      refine sw_pop dX5_spreadAnHour_96 rfl ?_
      refine sw_aload_n dX5_spreadAnHour_97 rfl ?_
      refine sw_getR (j := 8) dX5_spreadAnHour_98 fl_X5_23 rfl rfl ?_
      refine sw_getI dX5_spreadAnHour_101 fl_X5_181 rfl rfl ?_
      refine sw_aload_n dX5_spreadAnHour_104 rfl ?_
      refine sw_getR (j := 8) dX5_spreadAnHour_105 fl_X5_23 rfl rfl ?_
      refine sw_getI dX5_spreadAnHour_108 fl_X5_184 rfl rfl ?_
      refine sw_callS dX5_spreadAnHour_111 lS_X5_225 (c_cellOf _ _) rfl rfl (Nat.le_of_ble_eq_true rfl) (Nat.le_of_ble_eq_true rfl) ?_
      refine sw_istore dX5_spreadAnHour_114 (by decide) rfl ?_
      refine sw_iload dX5_spreadAnHour_116 rfl ?_
      refine sw_iconst (v := 1) dX5_spreadAnHour_118 (by decide) ?_
      refine sw_icmp_ne (tgt := 126) dX5_spreadAnHour_119 (by decide) (fun _ => ?_) (fun h => absurd h (by decide))
      refine sw_bipush (v := 10) dX5_spreadAnHour_126 (by decide) ?_
      refine sw_iload_n dX5_spreadAnHour_128 rfl ?_
      refine sw_isub dX5_spreadAnHour_129 ?_
      refine sw_istore dX5_spreadAnHour_130 (by decide) rfl ?_
      refine sw_aload_n dX5_spreadAnHour_132 rfl ?_
      refine sw_getR (j := 109) dX5_spreadAnHour_133 fl_X5_49 rfl rfl ?_
      refine sw_iload dX5_spreadAnHour_136 rfl ?_
      refine sw_aload_n dX5_spreadAnHour_138 rfl ?_
      refine sw_getR (j := 109) dX5_spreadAnHour_139 fl_X5_49 rfl rfl ?_
      refine sw_iload dX5_spreadAnHour_142 rfl ?_
      refine sw_callS dX5_spreadAnHour_144 lS_X5_99 (c_at (k := 109) rfl _) rfl rfl (Nat.le_of_ble_eq_true rfl) (Nat.le_of_ble_eq_true rfl) ?_
      refine sw_iload_n dX5_spreadAnHour_147 rfl ?_
      refine sw_iload dX5_spreadAnHour_148 rfl ?_
      refine sw_imul dX5_spreadAnHour_150 ?_
      refine sw_iadd dX5_spreadAnHour_151 ?_
      refine sw_callS dX5_spreadAnHour_152 lS_X5_165 (c_set (k := 109) rfl _ _) rfl rfl (Nat.le_of_ble_eq_true rfl) (Nat.le_of_ble_eq_true rfl) ?_
      refine sw_iinc (v := 1) dX5_spreadAnHour_155 rfl (by decide) (by decide) rfl ?_
      refine sw_goto (tgt := 39) dX5_spreadAnHour_158 (by decide) ?_
      refine sw_iload dX5_spreadAnHour_39 rfl ?_
      refine sw_iconst (v := 1) dX5_spreadAnHour_41 (by decide) ?_
      refine sw_icmp_gt (tgt := 161) dX5_spreadAnHour_42 (by decide) (fun h => absurd h (by decide)) (fun _ => ?_)
      refine sw_iload_n dX5_spreadAnHour_45 rfl ?_
      refine sw_if_le (tgt := 161) dX5_spreadAnHour_46 (by decide) (fun h => absurd h (h46)) (fun _ => ?_)
      refine sw_aload_n dX5_spreadAnHour_49 rfl ?_
      refine sw_getR (j := 8) dX5_spreadAnHour_50 fl_X5_23 rfl rfl ?_
      refine sw_iload_n dX5_spreadAnHour_53 rfl ?_
      refine sw_bipush (v := 9) dX5_spreadAnHour_54 (by decide) ?_
      refine sw_irem dX5_spreadAnHour_56 (by decide) ?_
      refine sw_iload_n dX5_spreadAnHour_57 rfl ?_
      refine sw_bipush (v := 9) dX5_spreadAnHour_58 (by decide) ?_
      refine sw_idiv dX5_spreadAnHour_60 (by decide) ?_
      refine sw_callV dX5_spreadAnHour_61 lV_X5_202 (c_moveShip (k := 8) sm_isF8 _ _) rfl rfl rfl rfl (Nat.le_of_ble_eq_true rfl) (Nat.le_of_ble_eq_true rfl) ?_
      refine sw_aload_n dX5_spreadAnHour_64 rfl ?_
      refine sw_getR (j := 8) dX5_spreadAnHour_65 fl_X5_23 rfl rfl ?_
      refine sw_iload dX5_spreadAnHour_68 rfl ?_
      refine sw_iconst (v := 1) dX5_spreadAnHour_70 (by decide) ?_
      refine sw_icmp_ne (tgt := 78) dX5_spreadAnHour_71 (by decide) (fun h => absurd (by decide) h) (fun _ => ?_)
      refine sw_iconst (v := 0) dX5_spreadAnHour_74 (by decide) ?_
      refine sw_goto (tgt := 85) dX5_spreadAnHour_75 (by decide) ?_
      refine sw_put dX5_spreadAnHour_85 fl_X5_155 fi_0_4 rfl rfl ?_
      refine sw_aload_n dX5_spreadAnHour_88 rfl ?_
      refine sw_getR (j := 8) dX5_spreadAnHour_89 fl_X5_23 rfl rfl ?_
      refine sw_iconst (v := 1) dX5_spreadAnHour_92 (by decide) ?_
      refine sw_callV dX5_spreadAnHour_93 lV_X5_152 (c_goHours (k := 8) sm_isF8 _) rfl rfl rfl rfl (Nat.le_of_ble_eq_true rfl) (Nat.le_of_ble_eq_true rfl) ?_
      refine sw_pop dX5_spreadAnHour_96 rfl ?_
      refine sw_aload_n dX5_spreadAnHour_97 rfl ?_
      refine sw_getR (j := 8) dX5_spreadAnHour_98 fl_X5_23 rfl rfl ?_
      refine sw_getI dX5_spreadAnHour_101 fl_X5_181 rfl rfl ?_
      refine sw_aload_n dX5_spreadAnHour_104 rfl ?_
      refine sw_getR (j := 8) dX5_spreadAnHour_105 fl_X5_23 rfl rfl ?_
      refine sw_getI dX5_spreadAnHour_108 fl_X5_184 rfl rfl ?_
      refine sw_callS dX5_spreadAnHour_111 lS_X5_225 (c_cellOf _ _) rfl rfl (Nat.le_of_ble_eq_true rfl) (Nat.le_of_ble_eq_true rfl) ?_
      refine sw_istore dX5_spreadAnHour_114 (by decide) rfl ?_
      refine sw_iload dX5_spreadAnHour_116 rfl ?_
      refine sw_iconst (v := 1) dX5_spreadAnHour_118 (by decide) ?_
      refine sw_icmp_ne (tgt := 126) dX5_spreadAnHour_119 (by decide) (fun h => absurd (by decide) h) (fun _ => ?_)
      refine sw_iload_n dX5_spreadAnHour_122 rfl ?_
      refine sw_goto (tgt := 130) dX5_spreadAnHour_123 (by decide) ?_
      refine sw_istore dX5_spreadAnHour_130 (by decide) rfl ?_
      refine sw_aload_n dX5_spreadAnHour_132 rfl ?_
      refine sw_getR (j := 109) dX5_spreadAnHour_133 fl_X5_49 rfl rfl ?_
      refine sw_iload dX5_spreadAnHour_136 rfl ?_
      refine sw_aload_n dX5_spreadAnHour_138 rfl ?_
      refine sw_getR (j := 109) dX5_spreadAnHour_139 fl_X5_49 rfl rfl ?_
      refine sw_iload dX5_spreadAnHour_142 rfl ?_
      refine sw_callS dX5_spreadAnHour_144 lS_X5_99 (c_at (k := 109) rfl _) rfl rfl (Nat.le_of_ble_eq_true rfl) (Nat.le_of_ble_eq_true rfl) ?_
      refine sw_iload_n dX5_spreadAnHour_147 rfl ?_
      refine sw_iload dX5_spreadAnHour_148 rfl ?_
      refine sw_imul dX5_spreadAnHour_150 ?_
      refine sw_iadd dX5_spreadAnHour_151 ?_
      refine sw_callS dX5_spreadAnHour_152 lS_X5_165 (c_set (k := 109) rfl _ _) rfl rfl (Nat.le_of_ble_eq_true rfl) (Nat.le_of_ble_eq_true rfl) ?_
      refine sw_iinc (v := 2) dX5_spreadAnHour_155 rfl (by decide) (by decide) rfl ?_
      refine sw_goto (tgt := 39) dX5_spreadAnHour_158 (by decide) ?_
      refine sw_iload dX5_spreadAnHour_39 rfl ?_
      refine sw_iconst (v := 1) dX5_spreadAnHour_41 (by decide) ?_
      refine sw_icmp_gt (tgt := 161) dX5_spreadAnHour_42 (by decide) (fun _ => ?_) (fun h => absurd (by decide) h)
      refine sw_iinc dX5_spreadAnHour_161 rfl rfl (by decide) rfl ?_
      refine sw_goto (tgt := 21) dX5_spreadAnHour_164 (by decide) ?_
      have e : g_spread x (n + 1) i τ = g_spread x n (i + 1) (g_spr (nI i) (r_at (τ 108) 81 (nI i)) 0 x (g_spr (nI i) (r_at (τ 108) 81 (nI i)) (τ 0 4) (10 - x) τ)) := by rw [g_spread, if_neg h46]
      rw [e]
      refine sw_st (σ2 := (g_spr (nI i) (r_at (τ 108) 81 (nI i)) 0 x (g_spr (nI i) (r_at (τ 108) 81 (nI i)) (τ 0 4) (10 - x) τ))) (by first | rfl | (unfold g_spr g_sp1 g_cell; rfl)) ?_
      refine sw_lv (ih (i + 1) _ (by omega)) (And.intro rfl (And.intro rfl (And.intro (sm_e rfl ?_) trivial)))
      all_goals (rw [sm_i1, nI_succ])

set_option maxHeartbeats 4000000 in
theorem c_spreadAnHour {σ : sm_St} (x : Int32) : sm_C yX5_spreadAnHour cX5_spreadAnHour 7 none 6 [.ref 96, .int x] σ none (g_hour81 σ x) := by
  refine sm_C.of (own := RX5) (by decide) rfl (Nat.le_of_ble_eq_true rfl) ?_
  show sm_W RX5 cX5_spreadAnHour 7 none 6 none (g_hour81 σ x) 0 [(0, .ref 96), (1, .int x)] [] σ
  refine sw_aload_n dX5_spreadAnHour_0 rfl ?_
  refine sw_getR (j := 8) dX5_spreadAnHour_1 fl_X5_23 rfl rfl ?_
  refine sw_aload_n dX5_spreadAnHour_4 rfl ?_
  refine sw_getR (j := 0) dX5_spreadAnHour_5 fl_X5_19 rfl rfl ?_
  refine sw_callV dX5_spreadAnHour_8 lV_X5_85 (c_copyFrom (k := 8) (j := 0) sm_isF8 sm_isF0 (by decide)) rfl rfl rfl rfl (Nat.le_of_ble_eq_true rfl) (Nat.le_of_ble_eq_true rfl) ?_
  refine sw_aload_n dX5_spreadAnHour_11 rfl ?_
  refine sw_getR (j := 109) dX5_spreadAnHour_12 fl_X5_49 rfl rfl ?_
  refine sw_iconst (v := 0) dX5_spreadAnHour_15 (by decide) ?_
  refine sw_callS dX5_spreadAnHour_16 lS_X5_228 (c_fill (k := 109) rfl _) rfl rfl (Nat.le_of_ble_eq_true rfl) (Nat.le_of_ble_eq_true rfl) ?_
  refine sw_iconst (v := 0) dX5_spreadAnHour_19 (by decide) ?_
  refine sw_istore_n dX5_spreadAnHour_20 (by decide) rfl ?_
  show sm_W _ _ _ _ _ _ (sm_row (g_spread x 81 0 _) 108 (va_cpy (g_spread x 81 0 _ 109) (g_spread x 81 0 _ 108) 0 0 81)) _ _ _ _
  refine sw_lv (l_spread 81 0 _ (by omega)) (And.intro rfl (And.intro rfl (And.intro rfl trivial)))

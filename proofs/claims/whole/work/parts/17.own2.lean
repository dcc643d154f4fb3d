def g_st : Nat → Nat → sm_St → Int32 × sm_St
  | 0, _, τ => (-4, τ)
  | n + 1, i, τ => if (g_hours τ 8 (1 : Int32).toNatClampNeg).2 ≤ 0 then g_st n (i + 1) (g_hours τ 8 (1 : Int32).toNatClampNeg).1 else (nI i, (g_hours τ 8 (1 : Int32).toNatClampNeg).1)
def g_ga : Nat → sm_St → Int32 × sm_St
  | 0, τ => (-4, τ)
  | n + 1, τ => if f_goes (sm_V (sm_set τ 8 4 (nI n)) 8) = 0 then (nI n, g_goes (sm_set τ 8 4 (nI n)) 8) else g_ga n (g_goes (sm_set τ 8 4 (nI n)) 8)
def m_gale (σ : sm_St) (d : Int32) : Int32 × sm_St := if sm_win d 1 4 = true then g_ga 21 (sm_set (m_try σ) 8 3 d) else (-1, σ)

set_option maxHeartbeats 4000000 in
theorem l_stands  : ∀ (n : Nat) (i : Nat) (τ : sm_St), i + n = 41 → sm_W RX5 cX5_stands 2 (some .int) 6 (some (.int (g_st n i τ).1)) (g_st n i τ).2 13 [(0, .ref 96), (1, .int (nI i))] [] τ := by
  intro n
  induction n with
  | zero =>
    intro i τ h1
    refine sw_iload_n dX5_stands_13 rfl ?_
    refine sw_bipush (v := 40) dX5_stands_14 (by decide) ?_
    refine sw_icmp_gt (tgt := 38) dX5_stands_16 (by decide) (fun _ => ?_) (fun h => absurd ((by rw [show i = 41 by omega]; decide)) h)
    refine sw_bipush (v := -4) dX5_stands_38 (by decide) ?_
    refine sw_iret dX5_stands_40 rfl rfl ?_ ?_
    all_goals (first | with_reducible rfl | (rfl))
  | succ n ih =>
    intro i τ h1
    refine sw_iload_n dX5_stands_13 rfl ?_
    refine sw_bipush (v := 40) dX5_stands_14 (by decide) ?_
    refine sw_icmp_gt (tgt := 38) dX5_stands_16 (by decide) (fun h => absurd h ((fun h => absurd ((nI_ltI (by decide) (by omega)).mp (show nI 40 < nI i from h)) (by omega)))) (fun _ => ?_)
    refine sw_aload_n dX5_stands_19 rfl ?_
    refine sw_getR (j := 8) dX5_stands_20 fl_X5_23 rfl rfl ?_
    refine sw_iconst (v := 1) dX5_stands_23 (by decide) ?_
    refine sw_callV dX5_stands_24 lV_X5_152 (c_goHours (k := 8) sm_isF8 _) rfl rfl rfl rfl (Nat.le_of_ble_eq_true rfl) (Nat.le_of_ble_eq_true rfl) ?_
    refine sw_if_le (tgt := 32) dX5_stands_27 (by decide) (fun h27 => ?_) (fun h27 => ?_)
    · refine sw_iinc dX5_stands_32 rfl rfl (by decide) rfl ?_
      refine sw_goto (tgt := 13) dX5_stands_35 (by decide) ?_
      have e : g_st (n + 1) i τ = g_st n (i + 1) (g_hours τ 8 (1 : Int32).toNatClampNeg).1 := by rw [g_st, if_pos h27]
      rw [e]
      refine sw_lv (ih (i + 1) _ (by omega)) (And.intro rfl (And.intro (sm_e rfl ?_) trivial))
      all_goals (rw [sm_i1, nI_succ])
    · refine sw_iload_n dX5_stands_30 rfl ?_
      refine sw_iret dX5_stands_31 rfl rfl ?_ ?_
      all_goals (first | with_reducible rfl | (rw [g_st, if_neg h27]))

set_option maxHeartbeats 4000000 in
theorem c_stands {σ : sm_St}  : sm_C yX5_stands cX5_stands 2 (some .int) 6 [.ref 96] σ (some (.int ((g_st 41 0 (m_try σ)).1))) (g_st 41 0 (m_try σ)).2 := by
  refine sm_C.of (own := RX5) (by decide) rfl (Nat.le_of_ble_eq_true rfl) ?_
  show sm_W RX5 cX5_stands 2 (some .int) 6 (some (.int ((g_st 41 0 (m_try σ)).1))) (g_st 41 0 (m_try σ)).2 0 [(0, .ref 96)] [] σ
  refine sw_aload_n dX5_stands_0 rfl ?_
  refine sw_getR (j := 8) dX5_stands_1 fl_X5_23 rfl rfl ?_
  refine sw_aload_n dX5_stands_4 rfl ?_
  refine sw_getR (j := 0) dX5_stands_5 fl_X5_19 rfl rfl ?_
  refine sw_callV dX5_stands_8 lV_X5_85 (c_copyFrom (k := 8) (j := 0) sm_isF8 sm_isF0 (by decide)) rfl rfl rfl rfl (Nat.le_of_ble_eq_true rfl) (Nat.le_of_ble_eq_true rfl) ?_
  refine sw_iconst (v := 0) dX5_stands_11 (by decide) ?_
  refine sw_istore_n dX5_stands_12 (by decide) rfl ?_
  refine sw_lv (l_stands 41 0 _ (by omega)) (And.intro rfl (And.intro rfl trivial))

set_option maxHeartbeats 4000000 in
theorem l_gale {d : Int32} : ∀ (n : Nat) (τ : sm_St), n < 100 → sm_W RX5 cX5_gale 3 (some .int) 6 (some (.int (g_ga n τ).1)) (g_ga n τ).2 33 [(0, .ref 96), (1, .int d), (2, .int (nI n - 1))] [] τ := by
  intro n
  induction n with
  | zero =>
    intro τ hn
    refine sw_iload_n dX5_gale_33 rfl ?_
    refine sw_if_lt (tgt := 63) dX5_gale_34 (by decide) (fun _ => ?_) (fun h => absurd ((by decide)) h)
    refine sw_bipush (v := -4) dX5_gale_63 (by decide) ?_
    refine sw_iret dX5_gale_65 rfl rfl ?_ ?_
    all_goals (first | with_reducible rfl | (rfl))
  | succ n ih =>
    intro τ hn
    refine sw_lv (lv' := [(0, .ref 96), (1, .int d), (2, .int (nI n))]) ?_ (And.intro rfl (And.intro rfl (And.intro (sm_e rfl (nI_pred n)) trivial)))
    refine sw_iload_n dX5_gale_33 rfl ?_
    refine sw_if_lt (tgt := 63) dX5_gale_34 (by decide) (fun h => absurd h ((nI_pos (by omega)))) (fun _ => ?_)
    refine sw_aload_n dX5_gale_37 rfl ?_
    refine sw_getR (j := 8) dX5_gale_38 fl_X5_23 rfl rfl ?_
    refine sw_iload_n dX5_gale_41 rfl ?_
    refine sw_put dX5_gale_42 fl_X5_155 fi_0_4 rfl rfl ?_
    refine sw_aload_n dX5_gale_45 rfl ?_
    refine sw_getR (j := 8) dX5_gale_46 fl_X5_23 rfl rfl ?_
    refine sw_callV dX5_gale_49 lV_X5_137 (c_goesTo (k := 8) sm_isF8) rfl rfl rfl rfl (Nat.le_of_ble_eq_true rfl) (Nat.le_of_ble_eq_true rfl) ?_
    refine sw_if_ne (tgt := 57) dX5_gale_52 (by decide) (fun h52 => ?_) (fun h52 => ?_)
    · refine sw_iinc dX5_gale_57 rfl rfl (by decide) rfl ?_
      refine sw_goto (tgt := 33) dX5_gale_60 (by decide) ?_
      have e : g_ga (n + 1) τ = g_ga n (g_goes (sm_set τ 8 4 (nI n)) 8) := by rw [g_ga, if_neg h52]
      rw [e]
      refine sw_lv (ih _ (by omega)) (And.intro rfl (And.intro rfl (And.intro (sm_e rfl ?_) trivial)))
      all_goals (rw [sm_im1, Int32.sub_eq_add_neg])
    · refine sw_iload_n dX5_gale_55 rfl ?_
      refine sw_iret dX5_gale_56 rfl rfl ?_ ?_
      all_goals (first | with_reducible rfl | (rw [g_ga, if_pos h52]))

set_option maxHeartbeats 4000000 in
theorem c_gale {σ : sm_St} (d : Int32) : sm_C yX5_gale cX5_gale 3 (some .int) 6 [.ref 96, .int d] σ (some (.int ((m_gale σ d).1))) (m_gale σ d).2 := by
  refine sm_C.of (own := RX5) (by decide) rfl (Nat.le_of_ble_eq_true rfl) ?_
  show sm_W RX5 cX5_gale 3 (some .int) 6 (some (.int ((m_gale σ d).1))) (m_gale σ d).2 0 [(0, .ref 96), (1, .int d)] [] σ
  refine sw_iload_n dX5_gale_0 rfl ?_
  refine sw_iconst (v := 1) dX5_gale_1 (by decide) ?_
  refine sw_iconst (v := 4) dX5_gale_2 (by decide) ?_
  refine sw_callS dX5_gale_3 lS_X5_75 (c_within _ _ _) rfl rfl (Nat.le_of_ble_eq_true rfl) (Nat.le_of_ble_eq_true rfl) ?_
  refine sw_if_ne (tgt := 11) dX5_gale_6 (by decide) (fun h6 => ?_) (fun h6 => ?_)
  · refine sw_aload_n dX5_gale_11 rfl ?_
    refine sw_getR (j := 8) dX5_gale_12 fl_X5_23 rfl rfl ?_
    refine sw_aload_n dX5_gale_15 rfl ?_
    refine sw_getR (j := 0) dX5_gale_16 fl_X5_19 rfl rfl ?_
    refine sw_callV dX5_gale_19 lV_X5_85 (c_copyFrom (k := 8) (j := 0) sm_isF8 sm_isF0 (by decide)) rfl rfl rfl rfl (Nat.le_of_ble_eq_true rfl) (Nat.le_of_ble_eq_true rfl) ?_
    refine sw_aload_n dX5_gale_22 rfl ?_
    refine sw_getR (j := 8) dX5_gale_23 fl_X5_23 rfl rfl ?_
    refine sw_iload_n dX5_gale_26 rfl ?_
    refine sw_put dX5_gale_27 fl_X5_158 fi_0_3 rfl rfl ?_
    refine sw_bipush (v := 20) dX5_gale_30 (by decide) ?_
    refine sw_istore_n dX5_gale_32 (by decide) rfl ?_
    have e : m_gale σ d = g_ga 21 (sm_set (m_try σ) 8 3 d) := by simp_all [m_gale, sm_b_e0]
    rw [e]
    refine sw_lv (l_gale 21 _ (by decide)) (And.intro rfl (And.intro rfl (And.intro (sm_e rfl ?_) trivial)))
    all_goals (rfl)
  · refine sw_iconst (v := -1) dX5_gale_9 (by decide) ?_
    refine sw_iret dX5_gale_10 rfl rfl ?_ ?_
    all_goals (first | with_reducible rfl | (simp_all [-Int32.not_lt, -Int32.not_le, sm_b_e0, sm_b_e1, m_gale]))

def m_change (σ : sm_St) (x : Int32) : sm_St := if m_rem x 8 = 0 then sm_set (sm_set σ 8 3 (m_rem (x / 8) 5)) 8 4 (m_rem (x / 64) 10) else if m_rem x 8 = 1 ∧ ¬ σ 8 6 ≤ 0 then r_set σ 11 6 (m_rem (x / 8) (σ 8 6)) (m_rem (x / 64) 6) else σ

set_option maxHeartbeats 4000000 in
theorem c_changeByDraw {σ : sm_St} (x : Int32) : sm_C yX5_changeByDraw cX5_changeByDraw 3 none 2 [.ref 96, .int x] σ none (m_change σ x) := by
  refine sm_C.of (own := RX5) (by decide) rfl (Nat.le_of_ble_eq_true rfl) ?_
  show sm_W RX5 cX5_changeByDraw 3 none 2 none (m_change σ x) 0 [(0, .ref 96), (1, .int x)] [] σ
  refine sw_iload_n dX5_changeByDraw_0 rfl ?_
  refine sw_bipush (v := 8) dX5_changeByDraw_1 (by decide) ?_
  refine sw_irem dX5_changeByDraw_3 (by decide) ?_
  refine sw_istore_n dX5_changeByDraw_4 (by decide) rfl ?_
  refine sw_iload_n dX5_changeByDraw_5 rfl ?_
  refine sw_if_ne (tgt := 39) dX5_changeByDraw_6 (by decide) (fun h6 => ?_) (fun h6 => ?_)
  · refine sw_iload_n dX5_changeByDraw_39 rfl ?_
    refine sw_iconst (v := 1) dX5_changeByDraw_40 (by decide) ?_
    refine sw_icmp_ne (tgt := 83) dX5_changeByDraw_41 (by decide) (fun h41 => ?_) (fun h41 => ?_)
    · refine sw_vret dX5_changeByDraw_83 rfl rfl ?_
      all_goals (first | with_reducible rfl | (simp_all [-Int32.not_lt, -Int32.not_le, sm_b_e0, sm_b_e1, m_change]))
    · refine sw_aload_n dX5_changeByDraw_44 rfl ?_
      refine sw_getR (j := 8) dX5_changeByDraw_45 fl_X5_23 rfl rfl ?_
      refine sw_getI dX5_changeByDraw_48 fl_X5_79 rfl rfl ?_
      refine sw_if_le (tgt := 83) dX5_changeByDraw_51 (by decide) (fun h51 => ?_) (fun h51 => ?_)
      · refine sw_vret dX5_changeByDraw_83 rfl rfl ?_
        all_goals (first | with_reducible rfl | (simp_all [-Int32.not_lt, -Int32.not_le, sm_b_e0, sm_b_e1, m_change]))
      · refine sw_aload_n dX5_changeByDraw_54 rfl ?_
        refine sw_getR (j := 8) dX5_changeByDraw_55 fl_X5_23 rfl rfl ?_
        refine sw_getR (j := 11) dX5_changeByDraw_58 fl_X5_108 rfl rfl ?_
        refine sw_iload_n dX5_changeByDraw_61 rfl ?_
        refine sw_bipush (v := 8) dX5_changeByDraw_62 (by decide) ?_
        refine sw_idiv dX5_changeByDraw_64 (by decide) ?_
        refine sw_aload_n dX5_changeByDraw_65 rfl ?_
        refine sw_getR (j := 8) dX5_changeByDraw_66 fl_X5_23 rfl rfl ?_
        refine sw_getI dX5_changeByDraw_69 fl_X5_79 rfl rfl ?_
        refine sw_irem dX5_changeByDraw_72 (fun h => h51 (by rw [h]; decide)) ?_
        refine sw_iload_n dX5_changeByDraw_73 rfl ?_
        refine sw_bipush (v := 64) dX5_changeByDraw_74 (by decide) ?_
        refine sw_idiv dX5_changeByDraw_76 (by decide) ?_
        refine sw_bipush (v := 6) dX5_changeByDraw_77 (by decide) ?_
        refine sw_irem dX5_changeByDraw_79 (by decide) ?_
        refine sw_callS dX5_changeByDraw_80 lS_X5_165 (c_set (k := 11) rfl _ _) rfl rfl (Nat.le_of_ble_eq_true rfl) (Nat.le_of_ble_eq_true rfl) ?_
        refine sw_vret dX5_changeByDraw_83 rfl rfl ?_
        all_goals (first | with_reducible rfl | (simp_all [-Int32.not_lt, -Int32.not_le, sm_b_e0, sm_b_e1, m_change]))
  · refine sw_aload_n dX5_changeByDraw_9 rfl ?_
    refine sw_getR (j := 8) dX5_changeByDraw_10 fl_X5_23 rfl rfl ?_
    refine sw_iload_n dX5_changeByDraw_13 rfl ?_
    refine sw_bipush (v := 8) dX5_changeByDraw_14 (by decide) ?_
    refine sw_idiv dX5_changeByDraw_16 (by decide) ?_
    refine sw_iconst (v := 5) dX5_changeByDraw_17 (by decide) ?_
    refine sw_irem dX5_changeByDraw_18 (by decide) ?_
    refine sw_put dX5_changeByDraw_19 fl_X5_158 fi_0_3 rfl rfl ?_
    refine sw_aload_n dX5_changeByDraw_22 rfl ?_
    refine sw_getR (j := 8) dX5_changeByDraw_23 fl_X5_23 rfl rfl ?_
    refine sw_iload_n dX5_changeByDraw_26 rfl ?_
    refine sw_bipush (v := 64) dX5_changeByDraw_27 (by decide) ?_
    refine sw_idiv dX5_changeByDraw_29 (by decide) ?_
    refine sw_bipush (v := 10) dX5_changeByDraw_30 (by decide) ?_
    refine sw_irem dX5_changeByDraw_32 (by decide) ?_
    refine sw_put dX5_changeByDraw_33 fl_X5_155 fi_0_4 rfl rfl ?_
    refine sw_goto (tgt := 83) dX5_changeByDraw_36 (by decide) ?_
    refine sw_vret dX5_changeByDraw_83 rfl rfl ?_
    all_goals (first | with_reducible rfl | (simp_all [-Int32.not_lt, -Int32.not_le, sm_b_e0, sm_b_e1, m_change]))

def g_gone (s : Int32) : Nat → Nat → sm_St → sm_St
  | 0, _, τ => τ
  | n + 1, i, τ => g_gone s n (i + 1) (r_set τ 12 6 (nI i) (1 - ((s >>> (nI i &&& 31)) &&& 1)))
def m_end (σ : sm_St) (s : Int32) : sm_St := (g_hours (g_gone s (m_try σ 8 6).toNatClampNeg 0 (m_try σ)) 8 (10 : Int32).toNatClampNeg).1

set_option maxHeartbeats 4000000 in
theorem l_endsAt {s x y : Int32} : ∀ (n : Nat) (i : Nat) (τ : sm_St), i + n = (τ 8 6).toNatClampNeg → sm_W RX5 cX5_endsAt 5 (some .boolean) 6 (some (.int (sm_b (f_isAt (sm_V (g_hours (g_gone s n i τ) 8 (10 : Int32).toNatClampNeg).1 8) x y = true)))) (g_hours (g_gone s n i τ) 8 (10 : Int32).toNatClampNeg).1 14 [(0, .ref 96), (1, .int s), (2, .int x), (3, .int y), (4, .int (nI i))] [] τ := by
  intro n
  induction n with
  | zero =>
    intro i τ h1
    refine sw_iload dX5_endsAt_14 rfl ?_
    refine sw_aload_n dX5_endsAt_16 rfl ?_
    refine sw_getR (j := 8) dX5_endsAt_17 fl_X5_23 rfl rfl ?_
    refine sw_getI dX5_endsAt_20 fl_X5_79 rfl rfl ?_
    refine sw_icmp_ge (tgt := 52) dX5_endsAt_23 (by decide) (fun _ => ?_) (fun h => absurd ((sm_le_clamp (by have := sm_clamp_lt (τ 8 6); omega)).mpr (by omega)) h)
    refine sw_aload_n dX5_endsAt_52 rfl ?_
    refine sw_getR (j := 8) dX5_endsAt_53 fl_X5_23 rfl rfl ?_
    refine sw_bipush (v := 10) dX5_endsAt_56 (by decide) ?_
    refine sw_callV dX5_endsAt_58 lV_X5_152 (c_goHours (k := 8) sm_isF8 _) rfl rfl rfl rfl (Nat.le_of_ble_eq_true rfl) (Nat.le_of_ble_eq_true rfl) ?_
    refine sw_pop dX5_endsAt_61 rfl ?_
    refine sw_aload_n dX5_endsAt_62 rfl ?_
    refine sw_getR (j := 8) dX5_endsAt_63 fl_X5_23 rfl rfl ?_
    refine sw_iload_n dX5_endsAt_66 rfl ?_
    refine sw_iload_n dX5_endsAt_67 rfl ?_
    refine sw_callV dX5_endsAt_68 lV_X5_195 (c_isShipAt (k := 8) sm_isF8 _ _) rfl rfl rfl rfl (Nat.le_of_ble_eq_true rfl) (Nat.le_of_ble_eq_true rfl) ?_
    refine sw_zret dX5_endsAt_71 rfl rfl ?_ (sm_b01 _) ?_
    all_goals (first | with_reducible rfl | (rfl))
  | succ n ih =>
    intro i τ h1
    refine sw_iload dX5_endsAt_14 rfl ?_
    refine sw_aload_n dX5_endsAt_16 rfl ?_
    refine sw_getR (j := 8) dX5_endsAt_17 fl_X5_23 rfl rfl ?_
    refine sw_getI dX5_endsAt_20 fl_X5_79 rfl rfl ?_
    refine sw_icmp_ge (tgt := 52) dX5_endsAt_23 (by decide) (fun h => absurd h ((fun h => absurd ((sm_le_clamp (by have := sm_clamp_lt (τ 8 6); omega)).mp h) (by omega)))) (fun _ => ?_)
    refine sw_aload_n dX5_endsAt_26 rfl ?_
    refine sw_getR (j := 8) dX5_endsAt_27 fl_X5_23 rfl rfl ?_
    refine sw_getR (j := 12) dX5_endsAt_30 fl_X5_111 rfl rfl ?_
    refine sw_iload dX5_endsAt_33 rfl ?_
    refine sw_iconst (v := 1) dX5_endsAt_35 (by decide) ?_
    refine sw_iload_n dX5_endsAt_36 rfl ?_
    refine sw_iload dX5_endsAt_37 rfl ?_
    refine sw_ishr dX5_endsAt_39 ?_
    refine sw_iconst (v := 1) dX5_endsAt_40 (by decide) ?_
    refine sw_iand dX5_endsAt_41 ?_
    refine sw_isub dX5_endsAt_42 ?_
    refine sw_callS dX5_endsAt_43 lS_X5_165 (c_set (k := 12) rfl _ _) rfl rfl (Nat.le_of_ble_eq_true rfl) (Nat.le_of_ble_eq_true rfl) ?_
    refine sw_iinc dX5_endsAt_46 rfl rfl (by decide) rfl ?_
    refine sw_goto (tgt := 14) dX5_endsAt_49 (by decide) ?_
    refine sw_lv (ih (i + 1) _ (by rw [r_set_off (by decide)]; omega)) (And.intro rfl (And.intro rfl (And.intro rfl (And.intro rfl (And.intro (sm_e rfl ?_) trivial)))))
    all_goals (rw [sm_i1, nI_succ])

set_option maxHeartbeats 4000000 in
theorem c_endsAt {σ : sm_St} (s x y : Int32) : sm_C yX5_endsAt cX5_endsAt 5 (some .boolean) 6 [.ref 96, .int s, .int x, .int y] σ (some (.int (sm_b (f_isAt (sm_V (m_end σ s) 8) x y = true)))) (m_end σ s) := by
  refine sm_C.of (own := RX5) (by decide) rfl (Nat.le_of_ble_eq_true rfl) ?_
  show sm_W RX5 cX5_endsAt 5 (some .boolean) 6 (some (.int (sm_b (f_isAt (sm_V (m_end σ s) 8) x y = true)))) (m_end σ s) 0 [(0, .ref 96), (1, .int s), (2, .int x), (3, .int y)] [] σ
  refine sw_aload_n dX5_endsAt_0 rfl ?_
  refine sw_getR (j := 8) dX5_endsAt_1 fl_X5_23 rfl rfl ?_
  refine sw_aload_n dX5_endsAt_4 rfl ?_
  refine sw_getR (j := 0) dX5_endsAt_5 fl_X5_19 rfl rfl ?_
  refine sw_callV dX5_endsAt_8 lV_X5_85 (c_copyFrom (k := 8) (j := 0) sm_isF8 sm_isF0 (by decide)) rfl rfl rfl rfl (Nat.le_of_ble_eq_true rfl) (Nat.le_of_ble_eq_true rfl) ?_
  refine sw_iconst (v := 0) dX5_endsAt_11 (by decide) ?_
  refine sw_istore dX5_endsAt_12 (by decide) rfl ?_
  refine sw_lv (l_endsAt _ 0 _ (by omega)) (And.intro rfl (And.intro rfl (And.intro rfl (And.intro rfl (And.intro rfl trivial)))))

def g_bits (a : Nat) (c : Int32) : Nat → Nat → Int32 → sm_St → Int32 × sm_St
  | 0, _, b, τ => (b, τ)
  | n + 1, i, b, τ => g_bits a c n (i + 1) (if (g_so 8 (r_set τ a 8 c (nI i) 100 3).toNatClampNeg 0 (r_set τ a 8 c (nI i))).1 = 0 then b else b ||| (1 <<< (nI i &&& 31))) (g_so 8 (r_set τ a 8 c (nI i) 100 3).toNatClampNeg 0 (r_set τ a 8 c (nI i))).2

set_option maxHeartbeats 4000000 in
theorem l_bits {a : Nat} (ha : sm_aln a = some 8) {c lo : Int32} {m : Nat} (hm : m < 100) : ∀ (n : Nat) (i : Nat) (b : Int32) (τ : sm_St), i + n = m + 1 → sm_W RX5 cX5_bitsThatFit 7 (some .int) 6 (some (.int (g_bits a c n i b τ).1)) (g_bits a c n i b τ).2 6 [(0, .ref 96), (1, .ref a), (2, .int c), (3, .int lo), (4, .int (nI m)), (5, .int b), (6, .int (nI i))] [] τ := by
  intro n
  induction n with
  | zero =>
    intro i b τ h1
    refine sw_iload dX5_bitsThatFit_6 rfl ?_
    refine sw_iload dX5_bitsThatFit_8 rfl ?_
    refine sw_icmp_gt (tgt := 49) dX5_bitsThatFit_10 (by decide) (fun _ => ?_) (fun h => absurd ((nI_lt (by omega) (by omega))) h)
    refine sw_iload dX5_bitsThatFit_49 rfl ?_
    refine sw_iret dX5_bitsThatFit_51 rfl rfl ?_ ?_
    all_goals (first | with_reducible rfl | (rfl))
  | succ n ih =>
    intro i b τ h1
    refine sw_iload dX5_bitsThatFit_6 rfl ?_
    refine sw_iload dX5_bitsThatFit_8 rfl ?_
    refine sw_icmp_gt (tgt := 49) dX5_bitsThatFit_10 (by decide) (fun h => absurd h ((fun h => absurd ((nI_ltI (by omega) (by omega)).mp h) (by omega)))) (fun _ => ?_)
    refine sw_aload_n dX5_bitsThatFit_13 rfl ?_
    refine sw_iload_n dX5_bitsThatFit_14 rfl ?_
    refine sw_iload dX5_bitsThatFit_15 rfl ?_
    refine sw_callS dX5_bitsThatFit_17 lS_X5_165 (c_set (k := a) ha _ _) rfl rfl (Nat.le_of_ble_eq_true rfl) (Nat.le_of_ble_eq_true rfl) ?_
    refine sw_aload_n dX5_bitsThatFit_20 rfl ?_
    refine sw_getR (j := 100) dX5_bitsThatFit_21 fl_X5_29 rfl rfl ?_
    refine sw_aload_n dX5_bitsThatFit_24 rfl ?_
    refine sw_getR (j := 8) dX5_bitsThatFit_25 fl_X5_23 rfl rfl ?_
    refine sw_callV dX5_bitsThatFit_28 lV_X5_222 (c_areSoIn (k := 8) sm_isF8) rfl rfl rfl rfl (Nat.le_of_ble_eq_true rfl) (Nat.le_of_ble_eq_true rfl) ?_
    refine sw_if_eq (tgt := 43) dX5_bitsThatFit_31 (by decide) (fun h31 => ?_) (fun h31 => ?_)
    · refine sw_iinc dX5_bitsThatFit_43 rfl rfl (by decide) rfl ?_
      refine sw_goto (tgt := 6) dX5_bitsThatFit_46 (by decide) ?_
      have e : g_bits a c (n + 1) i b τ = g_bits a c n (i + 1) b (g_so 8 (r_set τ a 8 c (nI i) 100 3).toNatClampNeg 0 (r_set τ a 8 c (nI i))).2 := by rw [g_bits, if_pos h31]
      rw [e]
      refine sw_lv (ih (i + 1) _ _ (by omega)) (And.intro rfl (And.intro rfl (And.intro rfl (And.intro rfl (And.intro rfl (And.intro rfl (And.intro (sm_e rfl ?_) trivial)))))))
      all_goals (rw [sm_i1, nI_succ])
    · refine sw_iload dX5_bitsThatFit_34 rfl ?_
      refine sw_iconst (v := 1) dX5_bitsThatFit_36 (by decide) ?_
      refine sw_iload dX5_bitsThatFit_37 rfl ?_
      refine sw_ishl dX5_bitsThatFit_39 ?_
      refine sw_ior dX5_bitsThatFit_40 ?_
      refine sw_istore dX5_bitsThatFit_41 (by decide) rfl ?_
      refine sw_iinc dX5_bitsThatFit_43 rfl rfl (by decide) rfl ?_
      refine sw_goto (tgt := 6) dX5_bitsThatFit_46 (by decide) ?_
      have e : g_bits a c (n + 1) i b τ = g_bits a c n (i + 1) (b ||| (1 <<< (nI i &&& 31))) (g_so 8 (r_set τ a 8 c (nI i) 100 3).toNatClampNeg 0 (r_set τ a 8 c (nI i))).2 := by rw [g_bits, if_neg h31]
      rw [e]
      refine sw_lv (ih (i + 1) _ _ (by omega)) (And.intro rfl (And.intro rfl (And.intro rfl (And.intro rfl (And.intro rfl (And.intro rfl (And.intro (sm_e rfl ?_) trivial)))))))
      all_goals (rw [sm_i1, nI_succ])

set_option maxHeartbeats 4000000 in
theorem c_bitsThatFit {σ : sm_St} {a : Nat} (ha : sm_aln a = some 8) (c : Int32) (lo m : Nat) (hm : m < 100 ∧ lo ≤ m) : sm_C yX5_bitsThatFit cX5_bitsThatFit 7 (some .int) 6 [.ref 96, .ref a, .int c, .int (nI lo), .int (nI m)] σ (some (.int (g_bits a c (m + 1 - lo) lo 0 σ).1)) (g_bits a c (m + 1 - lo) lo 0 σ).2 := by
  refine sm_C.of (own := RX5) (by decide) rfl (Nat.le_of_ble_eq_true rfl) ?_
  show sm_W RX5 cX5_bitsThatFit 7 (some .int) 6 (some (.int (g_bits a c (m + 1 - lo) lo 0 σ).1)) (g_bits a c (m + 1 - lo) lo 0 σ).2 0 [(0, .ref 96), (1, .ref a), (2, .int c), (3, .int (nI lo)), (4, .int (nI m))] [] σ
  refine sw_iconst (v := 0) dX5_bitsThatFit_0 (by decide) ?_
  refine sw_istore dX5_bitsThatFit_1 (by decide) rfl ?_
  refine sw_iload_n dX5_bitsThatFit_3 rfl ?_
  refine sw_istore dX5_bitsThatFit_4 (by decide) rfl ?_
  refine sw_lv (l_bits ha hm.1 _ lo 0 σ (by omega)) (And.intro rfl (And.intro rfl (And.intro rfl (And.intro rfl (And.intro rfl (And.intro rfl (And.intro rfl trivial)))))))

def m_may (σ : sm_St) (c w : Int32) : Int32 × sm_St := if f_hasS (sm_V σ 0) c = true then (if w = 0 then g_bits 15 c 9 1 0 (m_try σ) else if w = 1 then g_bits 14 c 6 0 0 (m_try σ) else if w = 2 then g_bits 13 c 4 0 0 (m_try σ) else (-1, m_try σ)) else (-1, σ)

set_option maxHeartbeats 4000000 in
theorem c_may {σ : sm_St} (c w : Int32) : sm_C yX5_may cX5_may 3 (some .int) 7 [.ref 96, .int c, .int w] σ (some (.int ((m_may σ c w).1))) (m_may σ c w).2 := by
  refine sm_C.of (own := RX5) (by decide) rfl (Nat.le_of_ble_eq_true rfl) ?_
  show sm_W RX5 cX5_may 3 (some .int) 7 (some (.int ((m_may σ c w).1))) (m_may σ c w).2 0 [(0, .ref 96), (1, .int c), (2, .int w)] [] σ
  refine sw_aload_n dX5_may_0 rfl ?_
  refine sw_getR (j := 0) dX5_may_1 fl_X5_19 rfl rfl ?_
  refine sw_iload_n dX5_may_4 rfl ?_
  refine sw_callV dX5_may_5 lV_X5_114 (c_hasSailor (k := 0) sm_isF0 _) rfl rfl rfl rfl (Nat.le_of_ble_eq_true rfl) (Nat.le_of_ble_eq_true rfl) ?_
  refine sw_if_ne (tgt := 13) dX5_may_8 (by decide) (fun h8 => ?_) (fun h8 => ?_)
  · refine sw_aload_n dX5_may_13 rfl ?_
    refine sw_getR (j := 8) dX5_may_14 fl_X5_23 rfl rfl ?_
    refine sw_aload_n dX5_may_17 rfl ?_
    refine sw_getR (j := 0) dX5_may_18 fl_X5_19 rfl rfl ?_
    refine sw_callV dX5_may_21 lV_X5_85 (c_copyFrom (k := 8) (j := 0) sm_isF8 sm_isF0 (by decide)) rfl rfl rfl rfl (Nat.le_of_ble_eq_true rfl) (Nat.le_of_ble_eq_true rfl) ?_
    refine sw_iload_n dX5_may_24 rfl ?_
    refine sw_tab_X5_may_25 (fun h25_0 => ?_) (fun h25_1 => ?_) (fun h25_2 => ?_) (fun h25n0 h25n1 h25n2 => ?_)
    · refine sw_aload_n dX5_may_52 rfl ?_
      refine sw_aload_n dX5_may_53 rfl ?_
      refine sw_getR (j := 8) dX5_may_54 fl_X5_23 rfl rfl ?_
      refine sw_getR (j := 15) dX5_may_57 fl_X5_131 rfl rfl ?_
      refine sw_iload_n dX5_may_60 rfl ?_
      refine sw_iconst (v := 1) dX5_may_61 (by decide) ?_
      refine sw_bipush (v := 9) dX5_may_62 (by decide) ?_
      refine sw_callV dX5_may_64 lV_X5_215 (c_bitsThatFit (a := 15) rfl _ 1 9 (by decide)) rfl rfl rfl rfl (Nat.le_of_ble_eq_true rfl) (Nat.le_of_ble_eq_true rfl) ?_
      refine sw_iret dX5_may_67 rfl rfl ?_ ?_
      all_goals (first | with_reducible rfl | (simp_all [-Int32.not_lt, -Int32.not_le, sm_b_e0, sm_b_e1, m_may, m_try]))
    · refine sw_aload_n dX5_may_68 rfl ?_
      refine sw_aload_n dX5_may_69 rfl ?_
      refine sw_getR (j := 8) dX5_may_70 fl_X5_23 rfl rfl ?_
      refine sw_getR (j := 14) dX5_may_73 fl_X5_128 rfl rfl ?_
      refine sw_iload_n dX5_may_76 rfl ?_
      refine sw_iconst (v := 0) dX5_may_77 (by decide) ?_
      refine sw_iconst (v := 5) dX5_may_78 (by decide) ?_
      refine sw_callV dX5_may_79 lV_X5_215 (c_bitsThatFit (a := 14) rfl _ 0 5 (by decide)) rfl rfl rfl rfl (Nat.le_of_ble_eq_true rfl) (Nat.le_of_ble_eq_true rfl) ?_
      refine sw_iret dX5_may_82 rfl rfl ?_ ?_
      all_goals (first | with_reducible rfl | (simp_all [-Int32.not_lt, -Int32.not_le, sm_b_e0, sm_b_e1, m_may, m_try]))
    · refine sw_aload_n dX5_may_83 rfl ?_
      refine sw_aload_n dX5_may_84 rfl ?_
      refine sw_getR (j := 8) dX5_may_85 fl_X5_23 rfl rfl ?_
      refine sw_getR (j := 13) dX5_may_88 fl_X5_125 rfl rfl ?_
      refine sw_iload_n dX5_may_91 rfl ?_
      refine sw_iconst (v := 0) dX5_may_92 (by decide) ?_
      refine sw_iconst (v := 3) dX5_may_93 (by decide) ?_
      refine sw_callV dX5_may_94 lV_X5_215 (c_bitsThatFit (a := 13) rfl _ 0 3 (by decide)) rfl rfl rfl rfl (Nat.le_of_ble_eq_true rfl) (Nat.le_of_ble_eq_true rfl) ?_
      refine sw_iret dX5_may_97 rfl rfl ?_ ?_
      all_goals (first | with_reducible rfl | (simp_all [-Int32.not_lt, -Int32.not_le, sm_b_e0, sm_b_e1, m_may, m_try]))
    · refine sw_iconst (v := -1) dX5_may_98 (by decide) ?_
      refine sw_iret dX5_may_99 rfl rfl ?_ ?_
      all_goals (first | with_reducible rfl | (simp_all [-Int32.not_lt, -Int32.not_le, sm_b_e0, sm_b_e1, m_may, m_try]))
  · refine sw_iconst (v := -1) dX5_may_11 (by decide) ?_
    refine sw_iret dX5_may_12 rfl rfl ?_ ?_
    all_goals (first | with_reducible rfl | (simp_all [-Int32.not_lt, -Int32.not_le, sm_b_e0, sm_b_e1, m_may, m_try]))

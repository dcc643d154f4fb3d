def g_sw1 (more : Int32) (c : Nat) (τ : sm_St) : Int32 × sm_St := g_so 8 (r_set τ 15 8 more (nI (c % 9 + 1)) 100 3).toNatClampNeg 0 (r_set τ 15 8 more (nI (c % 9 + 1)))
def g_sw2 (more : Int32) (c n : Nat) (τ : sm_St) : sm_St := if c % 9 = 8 ∧ ¬ n = 0 then r_set τ 14 8 more (nI (c / 9 + 1)) else τ
def g_sw (more : Int32) : Nat → Nat → Int32 → Int32 → sm_St → (Int32 × Int32) × sm_St
  | 0, _, m, f, τ => ((m, f), τ)
  | n + 1, c, m, f, τ => if (g_sw1 more c τ).1 = 0 then g_sw more n (c + 1) m f (g_sw2 more c n (g_sw1 more c τ).2)
      else g_sw more n (c + 1) (m + 1) (if f = -4 then 10 * nI (c / 9) + nI (c % 9 + 1) else f) (g_sw2 more c n (g_sw1 more c τ).2)
def m_sw (w : Int32) (p : (Int32 × Int32) × sm_St) : Int32 × sm_St := (if w = 0 then p.1.1 else p.1.2, p.2)
def m_sw0 (σ : sm_St) : sm_St := g_addS (m_try σ) 8 0 0 1
def m_stow (σ : sm_St) (w : Int32) : Int32 × sm_St := if sm_win w 0 1 = true then m_sw w (g_sw (m_try σ 8 7) 54 0 0 (-4) (r_set (m_sw0 σ) 14 8 (m_try σ 8 7) 0)) else (-1, σ)

set_option maxHeartbeats 1000000 in
theorem l_stow_n {w more : Int32} {n : Nat} (ih : ∀ (s z : Nat) (m f : Int32) (τ : sm_St), 9 * s + z + n = 54 → s ≤ 5 → z ≤ 8 → sm_W RX5 cX5_stowaway 7 (some .int) 6 (some (.int (m_sw w (g_sw more n (9 * s + z) m f τ)).1)) (m_sw w (g_sw more n (9 * s + z) m f τ)).2 71 [(0, .ref 96), (1, .int w), (2, .int more), (3, .int m), (4, .int f), (5, .int (nI s)), (6, .int (nI (z + 1)))] [] τ) : ∀ (s z : Nat) (m f : Int32) (τ : sm_St), 9 * s + z + 1 + n = 54 → s ≤ 5 → z ≤ 8 → sm_W RX5 cX5_stowaway 7 (some .int) 6 (some (.int (m_sw w (g_sw more n (9 * s + z + 1) m f (g_sw2 more (9 * s + z) n τ))).1)) (m_sw w (g_sw more n (9 * s + z + 1) m f (g_sw2 more (9 * s + z) n τ))).2 130 [(0, .ref 96), (1, .int w), (2, .int more), (3, .int m), (4, .int f), (5, .int (nI s)), (6, .int (nI (z + 1)))] [] τ := by
  intro s z m f τ h1 h2 h3
  refine sw_iinc dX5_stowaway_130 rfl rfl (by decide) rfl ?_
  refine sw_goto (tgt := 71) dX5_stowaway_133 (by decide) ?_
  by_cases hx : z < 8
  · rw [g_sw2, if_neg (by omega)]
    have e : 9 * s + z + 1 = 9 * s + (z + 1) := by omega
    rw [e]
    refine sw_lv (ih s (z + 1) m f _ (by omega) (by omega) (by omega)) (And.intro rfl (And.intro rfl (And.intro rfl (And.intro rfl (And.intro rfl (And.intro rfl (And.intro (sm_e rfl ?_) trivial)))))))
    all_goals (first | rfl | (rw [sm_i1, nI_succ (z + 1)]; done) | (rw [sm_i1, nI_succ]; done) | (rw [show z = 8 by omega]; decide))
  · refine sw_iload dX5_stowaway_71 rfl ?_
    refine sw_bipush (v := 9) dX5_stowaway_73 (by decide) ?_
    refine sw_icmp_gt (tgt := 136) dX5_stowaway_75 (by decide) (fun _ => ?_) (fun h => absurd ((by rw [show z = 8 by omega]; decide)) h)
    refine sw_iinc dX5_stowaway_136 rfl rfl (by decide) rfl ?_
    refine sw_goto (tgt := 49) dX5_stowaway_139 (by decide) ?_
    by_cases hs : s < 5
    · refine sw_iload dX5_stowaway_49 rfl ?_
      refine sw_iconst (v := 5) dX5_stowaway_51 (by decide) ?_
      refine sw_icmp_gt (tgt := 142) dX5_stowaway_52 (by decide) (fun h => absurd h ((sm_ngt (m := 5) hs (by decide)))) (fun _ => ?_)
      refine sw_aload_n dX5_stowaway_55 rfl ?_
      refine sw_getR (j := 8) dX5_stowaway_56 fl_X5_23 rfl rfl ?_
      refine sw_getR (j := 14) dX5_stowaway_59 fl_X5_128 rfl rfl ?_
      refine sw_iload_n dX5_stowaway_62 rfl ?_
      refine sw_iload dX5_stowaway_63 rfl ?_
      refine sw_callS dX5_stowaway_65 lS_X5_165 (c_set (k := 14) rfl _ _) rfl rfl (Nat.le_of_ble_eq_true rfl) (Nat.le_of_ble_eq_true rfl) ?_
      refine sw_iconst (v := 1) dX5_stowaway_68 (by decide) ?_
      refine sw_istore dX5_stowaway_69 (by decide) rfl ?_
      rw [g_sw2, if_pos (by omega), show (9 * s + z) / 9 = s by omega]
      refine sw_st (σ2 := r_set τ 14 8 more (nI (s + 1))) (by rw [sm_i1, nI_succ]) ?_
      have e : 9 * s + z + 1 = 9 * (s + 1) + 0 := by omega
      rw [e]
      refine sw_lv (ih (s + 1) 0 m f _ (by omega) (by omega) (by omega)) (And.intro rfl (And.intro rfl (And.intro rfl (And.intro rfl (And.intro rfl (And.intro (sm_e rfl ?_) (And.intro rfl trivial)))))))
      all_goals (first | rfl | (rw [sm_i1, nI_succ (z + 1)]; done) | (rw [sm_i1, nI_succ]; done) | (rw [show z = 8 by omega]; decide))
    · refine sw_iload dX5_stowaway_49 rfl ?_
      refine sw_iconst (v := 5) dX5_stowaway_51 (by decide) ?_
      refine sw_icmp_gt (tgt := 142) dX5_stowaway_52 (by decide) (fun _ => ?_) (fun h => absurd ((by rw [show s = 5 by omega]; decide)) h)
      refine sw_iload_n dX5_stowaway_142 rfl ?_
      refine sw_if_ne (tgt := 150) dX5_stowaway_143 (by decide) (fun h143 => ?_) (fun h143 => ?_)
      · refine sw_iload dX5_stowaway_150 rfl ?_
        refine sw_iret dX5_stowaway_152 rfl rfl ?_ ?_
        all_goals (first | with_reducible rfl | (rw [show n = 0 by omega]; clear ih; simp_all [m_sw, g_sw, g_sw2]))
      · refine sw_iload_n dX5_stowaway_146 rfl ?_
        refine sw_goto (tgt := 152) dX5_stowaway_147 (by decide) ?_
        refine sw_iret dX5_stowaway_152 rfl rfl ?_ ?_
        all_goals (first | with_reducible rfl | (rw [show n = 0 by omega]; clear ih; simp_all [m_sw, g_sw, g_sw2]))

set_option maxHeartbeats 1000000 in
theorem l_stow {w more : Int32} : ∀ (n s z : Nat) (m f : Int32) (τ : sm_St), 9 * s + z + n = 54 → s ≤ 5 → z ≤ 8 → sm_W RX5 cX5_stowaway 7 (some .int) 6 (some (.int (m_sw w (g_sw more n (9 * s + z) m f τ)).1)) (m_sw w (g_sw more n (9 * s + z) m f τ)).2 71 [(0, .ref 96), (1, .int w), (2, .int more), (3, .int m), (4, .int f), (5, .int (nI s)), (6, .int (nI (z + 1)))] [] τ := by
  intro n
  induction n with
  | zero => intro s z m f τ h1 h2 h3; omega
  | succ n ih =>
    intro s z m f τ h1 h2 h3
    have e1 : (9 * s + z) % 9 = z := by omega
    have e2 : (9 * s + z) / 9 = s := by omega
    refine sw_iload dX5_stowaway_71 rfl ?_
    refine sw_bipush (v := 9) dX5_stowaway_73 (by decide) ?_
    refine sw_icmp_gt (tgt := 136) dX5_stowaway_75 (by decide) (fun h => absurd h ((fun h => absurd ((nI_ltI (by decide) (by omega)).mp (show nI 9 < nI (z + 1) from h)) (by omega)))) (fun _ => ?_)
    refine sw_aload_n dX5_stowaway_78 rfl ?_
    refine sw_getR (j := 8) dX5_stowaway_79 fl_X5_23 rfl rfl ?_
    refine sw_getR (j := 15) dX5_stowaway_82 fl_X5_131 rfl rfl ?_
    refine sw_iload_n dX5_stowaway_85 rfl ?_
    refine sw_iload dX5_stowaway_86 rfl ?_
    refine sw_callS dX5_stowaway_88 lS_X5_165 (c_set (k := 15) rfl _ _) rfl rfl (Nat.le_of_ble_eq_true rfl) (Nat.le_of_ble_eq_true rfl) ?_
    refine sw_aload_n dX5_stowaway_91 rfl ?_
    refine sw_getR (j := 100) dX5_stowaway_92 fl_X5_29 rfl rfl ?_
    refine sw_aload_n dX5_stowaway_95 rfl ?_
    refine sw_getR (j := 8) dX5_stowaway_96 fl_X5_23 rfl rfl ?_
    refine sw_callV dX5_stowaway_99 lV_X5_222 (c_areSoIn (k := 8) sm_isF8) rfl rfl rfl rfl (Nat.le_of_ble_eq_true rfl) (Nat.le_of_ble_eq_true rfl) ?_
    refine sw_if_eq (tgt := 130) dX5_stowaway_102 (by decide) (fun h102 => ?_) (fun h102 => ?_)
    · rw [g_sw, if_pos (by simpa only [g_sw1, e1, ] using h102)]
      refine sw_st (σ2 := (g_sw1 more (9 * s + z) τ).2) (by unfold g_sw1; rw [e1]) ?_
      refine sw_lv (l_stow_n ih s z m f _ (by omega) h2 h3) (And.intro rfl (And.intro rfl (And.intro rfl (And.intro rfl (And.intro rfl (And.intro rfl (And.intro rfl trivial)))))))
    · refine sw_iinc dX5_stowaway_105 rfl rfl (by decide) rfl ?_
      refine sw_iload dX5_stowaway_108 rfl ?_
      refine sw_bipush (v := -4) dX5_stowaway_110 (by decide) ?_
      refine sw_icmp_ne (tgt := 126) dX5_stowaway_112 (by decide) (fun h112 => ?_) (fun h112 => ?_)
      · refine sw_iload dX5_stowaway_126 rfl ?_
        refine sw_istore dX5_stowaway_128 (by decide) rfl ?_
        rw [g_sw, if_neg (by simpa only [g_sw1, e1] using h102), e1, e2, if_neg h112]
        refine sw_st (σ2 := (g_sw1 more (9 * s + z) τ).2) (by unfold g_sw1; rw [e1]) ?_
        refine sw_lv (l_stow_n ih s z _ _ _ (by omega) h2 h3) (And.intro rfl (And.intro rfl (And.intro rfl (And.intro rfl (And.intro rfl (And.intro rfl (And.intro rfl trivial)))))))
      · refine sw_bipush (v := 10) dX5_stowaway_115 (by decide) ?_
        refine sw_iload dX5_stowaway_117 rfl ?_
        refine sw_imul dX5_stowaway_119 ?_
        refine sw_iload dX5_stowaway_120 rfl ?_
        refine sw_iadd dX5_stowaway_122 ?_
        refine sw_goto (tgt := 128) dX5_stowaway_123 (by decide) ?_
        refine sw_istore dX5_stowaway_128 (by decide) rfl ?_
        rw [g_sw, if_neg (by simpa only [g_sw1, e1] using h102), e1, e2, if_pos h112]
        refine sw_st (σ2 := (g_sw1 more (9 * s + z) τ).2) (by unfold g_sw1; rw [e1]) ?_
        refine sw_lv (l_stow_n ih s z _ _ _ (by omega) h2 h3) (And.intro rfl (And.intro rfl (And.intro rfl (And.intro rfl (And.intro rfl (And.intro rfl (And.intro rfl trivial)))))))

set_option maxHeartbeats 1000000 in
theorem c_stowaway {σ : sm_St} (w : Int32) : sm_C yX5_stowaway cX5_stowaway 7 (some .int) 6 [.ref 96, .int w] σ (some (.int ((m_stow σ w).1))) (m_stow σ w).2 := by
  refine sm_C.of (own := RX5) (by decide) rfl (Nat.le_of_ble_eq_true rfl) ?_
  show sm_W RX5 cX5_stowaway 7 (some .int) 6 (some (.int ((m_stow σ w).1))) (m_stow σ w).2 0 [(0, .ref 96), (1, .int w)] [] σ
  refine sw_iload_n dX5_stowaway_0 rfl ?_
  refine sw_iconst (v := 0) dX5_stowaway_1 (by decide) ?_
  refine sw_iconst (v := 1) dX5_stowaway_2 (by decide) ?_
  refine sw_callS dX5_stowaway_3 lS_X5_75 (c_within _ _ _) rfl rfl (Nat.le_of_ble_eq_true rfl) (Nat.le_of_ble_eq_true rfl) ?_
  refine sw_if_ne (tgt := 11) dX5_stowaway_6 (by decide) (fun h6 => ?_) (fun h6 => ?_)
  · refine sw_aload_n dX5_stowaway_11 rfl ?_
    refine sw_getR (j := 8) dX5_stowaway_12 fl_X5_23 rfl rfl ?_
    refine sw_aload_n dX5_stowaway_15 rfl ?_
    refine sw_getR (j := 0) dX5_stowaway_16 fl_X5_19 rfl rfl ?_
    refine sw_callV dX5_stowaway_19 lV_X5_85 (c_copyFrom (k := 8) (j := 0) sm_isF8 sm_isF0 (by decide)) rfl rfl rfl rfl (Nat.le_of_ble_eq_true rfl) (Nat.le_of_ble_eq_true rfl) ?_
    refine sw_aload_n dX5_stowaway_22 rfl ?_
    refine sw_getR (j := 8) dX5_stowaway_23 fl_X5_23 rfl rfl ?_
    refine sw_getI dX5_stowaway_26 fl_X5_82 rfl rfl ?_
    refine sw_istore_n dX5_stowaway_29 (by decide) rfl ?_
    refine sw_aload_n dX5_stowaway_30 rfl ?_
    refine sw_getR (j := 8) dX5_stowaway_31 fl_X5_23 rfl rfl ?_
    refine sw_iconst (v := 0) dX5_stowaway_34 (by decide) ?_
    refine sw_iconst (v := 0) dX5_stowaway_35 (by decide) ?_
    refine sw_iconst (v := 1) dX5_stowaway_36 (by decide) ?_
    refine sw_callV dX5_stowaway_37 lV_X5_219 (c_addSailor (k := 8) sm_isF8 _ _ _) rfl rfl rfl rfl (Nat.le_of_ble_eq_true rfl) (Nat.le_of_ble_eq_true rfl) ?_
    refine sw_iconst (v := 0) dX5_stowaway_40 (by decide) ?_
    refine sw_istore_n dX5_stowaway_41 (by decide) rfl ?_
    refine sw_bipush (v := -4) dX5_stowaway_42 (by decide) ?_
    refine sw_istore dX5_stowaway_44 (by decide) rfl ?_
    refine sw_iconst (v := 0) dX5_stowaway_46 (by decide) ?_
    refine sw_istore dX5_stowaway_47 (by decide) rfl ?_
    refine sw_iload dX5_stowaway_49 rfl ?_
    refine sw_iconst (v := 5) dX5_stowaway_51 (by decide) ?_
    refine sw_icmp_gt (tgt := 142) dX5_stowaway_52 (by decide) (fun h => absurd h (by decide)) (fun _ => ?_)
    refine sw_aload_n dX5_stowaway_55 rfl ?_
    refine sw_getR (j := 8) dX5_stowaway_56 fl_X5_23 rfl rfl ?_
    refine sw_getR (j := 14) dX5_stowaway_59 fl_X5_128 rfl rfl ?_
    refine sw_iload_n dX5_stowaway_62 rfl ?_
    refine sw_iload dX5_stowaway_63 rfl ?_
    refine sw_callS dX5_stowaway_65 lS_X5_165 (c_set (k := 14) rfl _ _) rfl rfl (Nat.le_of_ble_eq_true rfl) (Nat.le_of_ble_eq_true rfl) ?_
    refine sw_iconst (v := 1) dX5_stowaway_68 (by decide) ?_
    refine sw_istore dX5_stowaway_69 (by decide) rfl ?_
    have e : m_stow σ w = m_sw w (g_sw (m_try σ 8 7) 54 (9 * 0 + 0) 0 (-4) (r_set (m_sw0 σ) 14 8 (m_try σ 8 7) 0)) := by simp_all [m_stow, sm_b_e0]
    rw [e]
    refine sw_lv (l_stow 54 0 0 0 (-4) _ (by decide) (by decide) (by decide)) (And.intro rfl (And.intro rfl (And.intro rfl (And.intro rfl (And.intro rfl (And.intro rfl (And.intro rfl trivial)))))))
  · refine sw_iconst (v := -1) dX5_stowaway_9 (by decide) ?_
    refine sw_iret dX5_stowaway_10 rfl rfl ?_ ?_
    all_goals (first | with_reducible rfl | (simp_all [-Int32.not_lt, -Int32.not_le, sm_b_e0, sm_b_e1, m_stow]))

def g_in (own p : Int32) : Nat → Nat → sm_St → Option Int32 × sm_St
  | 0, _, τ => (none, τ)
  | n + 1, s, τ => if nI s = own then g_in own p n (s + 1) (r_set τ 11 6 p (nI s)) else if f_goes (sm_V (r_set τ 11 6 p (nI s)) 8) = 0 then (some (10 * p + nI s), g_goes (r_set τ 11 6 p (nI s)) 8) else g_in own p n (s + 1) (g_goes (r_set τ 11 6 p (nI s)) 8)
def g_in1 (i : Nat) (τ : sm_St) : Option Int32 × sm_St := if r_at (τ 4) 6 (nI i) = 0 then g_in (r_at (τ 3) 6 (nI i)) (nI i) 6 0 τ else (none, τ)
def g_ins : Nat → Nat → sm_St → Int32 × sm_St
  | 0, _, τ => (-4, τ)
  | n + 1, i, τ => match (g_in1 i τ).1 with
    | some v => (v, (g_in1 i τ).2)
    | none => g_ins n (i + 1) (r_set (g_in1 i τ).2 11 6 (nI i) (r_at (τ 3) 6 (nI i)))
theorem g_in_off {own p : Int32} {q : Nat} (h : q ≠ 8) (h2 : q ≠ 11) : ∀ (n s : Nat) (τ : sm_St), (g_in own p n s τ).2 q = τ q
  | 0, _, _ => rfl
  | n + 1, s, τ => by
    unfold g_in
    split
    · rw [g_in_off h h2 n, r_set_off h2]
    · split
      · show g_goes (r_set τ 11 6 p (nI s)) 8 q = τ q
        rw [g_goes_off h, r_set_off h2]
      · rw [g_in_off h h2 n, g_goes_off h, r_set_off h2]
theorem g_in1_off {i q : Nat} (h : q ≠ 8) (h2 : q ≠ 11) (τ : sm_St) : (g_in1 i τ).2 q = τ q := by
  unfold g_in1
  split
  · exact g_in_off h h2 _ _ _
  · rfl
def m_instead (σ : sm_St) : Int32 × sm_St := g_ins (σ 0 6).toNatClampNeg 0 (m_try σ)

set_option maxHeartbeats 1000000 in
theorem l_in {own p : Int32} {r : Option Value} {σ' : sm_St} : ∀ (n s : Nat) (τ : sm_St), s + n = 6 → (∀ v, (g_in own p n s τ).1 = some v → r = some (.int v) ∧ (g_in own p n s τ).2 = σ') → ((g_in own p n s τ).1 = none → sm_W RX5 cX5_instead 5 (some .int) 6 r σ' 112 [(0, .ref 96), (1, .int p), (2, .int own), (3, .int 0)] [] (g_in own p n s τ).2) → sm_W RX5 cX5_instead 5 (some .int) 6 r σ' 59 [(0, .ref 96), (1, .int p), (2, .int own), (3, .int 0), (4, .int (nI s))] [] τ := by
  intro n
  induction n with
  | zero =>
    intro s τ h1 k1 k2
    refine sw_iload dX5_instead_59 rfl ?_
    refine sw_iconst (v := 5) dX5_instead_61 (by decide) ?_
    refine sw_icmp_gt (tgt := 112) dX5_instead_62 (by decide) (fun _ => ?_) (fun h => absurd ((by rw [show s = 6 by omega]; decide)) h)
    refine sw_lv (k2 rfl) (And.intro rfl (And.intro rfl (And.intro rfl (And.intro rfl trivial))))
  | succ n ih =>
    intro s τ h1 k1 k2
    refine sw_iload dX5_instead_59 rfl ?_
    refine sw_iconst (v := 5) dX5_instead_61 (by decide) ?_
    refine sw_icmp_gt (tgt := 112) dX5_instead_62 (by decide) (fun h => absurd h ((fun h => absurd ((nI_ltI (by decide) (by omega)).mp (show nI 5 < nI s from h)) (by omega)))) (fun _ => ?_)
    refine sw_iload_n dX5_instead_65 rfl ?_
    refine sw_if_ne (tgt := 112) dX5_instead_66 (by decide) (fun h => absurd (by decide) h) (fun _ => ?_)
    refine sw_aload_n dX5_instead_69 rfl ?_
    refine sw_getR (j := 8) dX5_instead_70 fl_X5_23 rfl rfl ?_
    refine sw_getR (j := 11) dX5_instead_73 fl_X5_108 rfl rfl ?_
    refine sw_iload_n dX5_instead_76 rfl ?_
    refine sw_iload dX5_instead_77 rfl ?_
    refine sw_callS dX5_instead_79 lS_X5_165 (c_set (k := 11) rfl _ _) rfl rfl (Nat.le_of_ble_eq_true rfl) (Nat.le_of_ble_eq_true rfl) ?_
    refine sw_iload dX5_instead_82 rfl ?_
    refine sw_iload_n dX5_instead_84 rfl ?_
    refine sw_icmp_eq (tgt := 106) dX5_instead_85 (by decide) (fun h85 => ?_) (fun h85 => ?_)
    · refine sw_iinc dX5_instead_106 rfl rfl (by decide) rfl ?_
      refine sw_goto (tgt := 59) dX5_instead_109 (by decide) ?_
      rw [g_in, if_pos h85] at k1 k2
      refine sw_lv (ih (s + 1) _ (by omega) k1 k2) (And.intro rfl (And.intro rfl (And.intro rfl (And.intro rfl (And.intro (sm_e rfl ?_) trivial)))))
      all_goals (rw [sm_i1, nI_succ])
    · refine sw_aload_n dX5_instead_88 rfl ?_
      refine sw_getR (j := 8) dX5_instead_89 fl_X5_23 rfl rfl ?_
      refine sw_callV dX5_instead_92 lV_X5_137 (c_goesTo (k := 8) sm_isF8) rfl rfl rfl rfl (Nat.le_of_ble_eq_true rfl) (Nat.le_of_ble_eq_true rfl) ?_
      refine sw_if_ne (tgt := 106) dX5_instead_95 (by decide) (fun h95 => ?_) (fun h95 => ?_)
      · refine sw_iinc dX5_instead_106 rfl rfl (by decide) rfl ?_
        refine sw_goto (tgt := 59) dX5_instead_109 (by decide) ?_
        rw [g_in, if_neg h85, if_neg h95] at k1 k2
        refine sw_lv (ih (s + 1) _ (by omega) k1 k2) (And.intro rfl (And.intro rfl (And.intro rfl (And.intro rfl (And.intro (sm_e rfl ?_) trivial)))))
        all_goals (rw [sm_i1, nI_succ])
      · refine sw_bipush (v := 10) dX5_instead_98 (by decide) ?_
        refine sw_iload_n dX5_instead_100 rfl ?_
        refine sw_imul dX5_instead_101 ?_
        refine sw_iload dX5_instead_102 rfl ?_
        refine sw_iadd dX5_instead_104 ?_
        rw [g_in, if_neg h85, if_pos h95] at k1
        exact sw_iret dX5_instead_105 rfl (k1 _ rfl).1 rfl (k1 _ rfl).2

set_option maxHeartbeats 1000000 in
theorem l_instead : ∀ (n i : Nat) (τ : sm_St), i + n = (τ 0 6).toNatClampNeg → sm_W RX5 cX5_instead 5 (some .int) 6 (some (.int (g_ins n i τ).1)) (g_ins n i τ).2 13 [(0, .ref 96), (1, .int (nI i))] [] τ := by
  intro n
  induction n with
  | zero =>
    intro i τ h1
    refine sw_iload_n dX5_instead_13 rfl ?_
    refine sw_aload_n dX5_instead_14 rfl ?_
    refine sw_getR (j := 0) dX5_instead_15 fl_X5_19 rfl rfl ?_
    refine sw_getI dX5_instead_18 fl_X5_79 rfl rfl ?_
    refine sw_icmp_ge (tgt := 130) dX5_instead_21 (by decide) (fun _ => ?_) (fun h => absurd ((sm_le_clamp (by have := sm_clamp_lt (τ 0 6); omega)).mpr (by omega)) h)
    refine sw_bipush (v := -4) dX5_instead_130 (by decide) ?_
    refine sw_iret dX5_instead_132 rfl rfl ?_ ?_
    all_goals (first | with_reducible rfl | (rfl))
  | succ n ih =>
    intro i τ h1
    refine sw_iload_n dX5_instead_13 rfl ?_
    refine sw_aload_n dX5_instead_14 rfl ?_
    refine sw_getR (j := 0) dX5_instead_15 fl_X5_19 rfl rfl ?_
    refine sw_getI dX5_instead_18 fl_X5_79 rfl rfl ?_
    refine sw_icmp_ge (tgt := 130) dX5_instead_21 (by decide) (fun h => absurd h ((fun h => absurd ((sm_le_clamp (by have := sm_clamp_lt (τ 0 6); omega)).mp h) (by omega)))) (fun _ => ?_)
    refine sw_aload_n dX5_instead_24 rfl ?_
    refine sw_getR (j := 0) dX5_instead_25 fl_X5_19 rfl rfl ?_
    refine sw_getR (j := 3) dX5_instead_28 fl_X5_108 rfl rfl ?_
    refine sw_iload_n dX5_instead_31 rfl ?_
    refine sw_callS dX5_instead_32 lS_X5_99 (c_at (k := 3) rfl _) rfl rfl (Nat.le_of_ble_eq_true rfl) (Nat.le_of_ble_eq_true rfl) ?_
    refine sw_istore_n dX5_instead_35 (by decide) rfl ?_
    refine sw_aload_n dX5_instead_36 rfl ?_
    refine sw_getR (j := 0) dX5_instead_37 fl_X5_19 rfl rfl ?_
    refine sw_getR (j := 4) dX5_instead_40 fl_X5_111 rfl rfl ?_
    refine sw_iload_n dX5_instead_43 rfl ?_
    refine sw_callS dX5_instead_44 lS_X5_99 (c_at (k := 4) rfl _) rfl rfl (Nat.le_of_ble_eq_true rfl) (Nat.le_of_ble_eq_true rfl) ?_
    refine sw_if_eq (tgt := 54) dX5_instead_47 (by decide) (fun h47 => ?_) (fun h47 => ?_)
    · refine sw_iconst (v := 0) dX5_instead_54 (by decide) ?_
      refine sw_istore_n dX5_instead_55 (by decide) rfl ?_
      refine sw_iconst (v := 0) dX5_instead_56 (by decide) ?_
      refine sw_istore dX5_instead_57 (by decide) rfl ?_
      have eg : (g_in1 i τ) = g_in (r_at (τ 3) 6 (nI i)) (nI i) 6 0 τ := by rw [g_in1, if_pos h47]
      refine sw_lv (l_in 6 0 τ (by decide) (fun v hv => ?_) (fun hn => ?_)) (And.intro rfl (And.intro rfl (And.intro rfl (And.intro rfl (And.intro rfl trivial)))))
      · rw [← eg] at hv ⊢
        exact ⟨by rw [g_ins, hv], by rw [g_ins, hv]⟩
      · rw [← eg] at hn ⊢
        refine sw_aload_n dX5_instead_112 rfl ?_
        refine sw_getR (j := 8) dX5_instead_113 fl_X5_23 rfl rfl ?_
        refine sw_getR (j := 11) dX5_instead_116 fl_X5_108 rfl rfl ?_
        refine sw_iload_n dX5_instead_119 rfl ?_
        refine sw_iload_n dX5_instead_120 rfl ?_
        refine sw_callS dX5_instead_121 lS_X5_165 (c_set (k := 11) rfl _ _) rfl rfl (Nat.le_of_ble_eq_true rfl) (Nat.le_of_ble_eq_true rfl) ?_
        refine sw_iinc dX5_instead_124 rfl rfl (by decide) rfl ?_
        refine sw_goto (tgt := 13) dX5_instead_127 (by decide) ?_
        have e : g_ins (n + 1) i τ = g_ins n (i + 1) (r_set (g_in1 i τ).2 11 6 (nI i) (r_at (τ 3) 6 (nI i))) := by rw [g_ins, hn]
        rw [e]
        refine sw_lv (ih (i + 1) _ (by rw [r_set_off (by decide), g_in1_off (by decide) (by decide)]; omega)) (And.intro rfl (And.intro (sm_e rfl ?_) trivial))
        all_goals (rw [sm_i1, nI_succ])
    · refine sw_iconst (v := 1) dX5_instead_50 (by decide) ?_
      refine sw_goto (tgt := 55) dX5_instead_51 (by decide) ?_
      refine sw_istore_n dX5_instead_55 (by decide) rfl ?_
      refine sw_iconst (v := 0) dX5_instead_56 (by decide) ?_
      refine sw_istore dX5_instead_57 (by decide) rfl ?_
      refine sw_iload dX5_instead_59 rfl ?_
      refine sw_iconst (v := 5) dX5_instead_61 (by decide) ?_
      refine sw_icmp_gt (tgt := 112) dX5_instead_62 (by decide) (fun h => absurd h (by decide)) (fun _ => ?_)
      refine sw_iload_n dX5_instead_65 rfl ?_
      refine sw_if_ne (tgt := 112) dX5_instead_66 (by decide) (fun _ => ?_) (fun h => absurd h (by decide))
      have eg : (g_in1 i τ) = (none, τ) := by rw [g_in1, if_neg h47]
      have hn : (g_in1 i τ).1 = none := by rw [eg]
      refine sw_st (σ2 := (g_in1 i τ).2) (by rw [eg]) ?_
      refine sw_aload_n dX5_instead_112 rfl ?_
      refine sw_getR (j := 8) dX5_instead_113 fl_X5_23 rfl rfl ?_
      refine sw_getR (j := 11) dX5_instead_116 fl_X5_108 rfl rfl ?_
      refine sw_iload_n dX5_instead_119 rfl ?_
      refine sw_iload_n dX5_instead_120 rfl ?_
      refine sw_callS dX5_instead_121 lS_X5_165 (c_set (k := 11) rfl _ _) rfl rfl (Nat.le_of_ble_eq_true rfl) (Nat.le_of_ble_eq_true rfl) ?_
      refine sw_iinc dX5_instead_124 rfl rfl (by decide) rfl ?_
      refine sw_goto (tgt := 13) dX5_instead_127 (by decide) ?_
      have e : g_ins (n + 1) i τ = g_ins n (i + 1) (r_set (g_in1 i τ).2 11 6 (nI i) (r_at (τ 3) 6 (nI i))) := by rw [g_ins, hn]
      rw [e]
      refine sw_lv (ih (i + 1) _ (by rw [r_set_off (by decide), g_in1_off (by decide) (by decide)]; omega)) (And.intro rfl (And.intro (sm_e rfl ?_) trivial))
      all_goals (rw [sm_i1, nI_succ])

set_option maxHeartbeats 1000000 in
theorem c_instead {σ : sm_St}  : sm_C yX5_instead cX5_instead 5 (some .int) 6 [.ref 96] σ (some (.int ((m_instead σ).1))) (m_instead σ).2 := by
  refine sm_C.of (own := RX5) (by decide) rfl (Nat.le_of_ble_eq_true rfl) ?_
  show sm_W RX5 cX5_instead 5 (some .int) 6 (some (.int ((m_instead σ).1))) (m_instead σ).2 0 [(0, .ref 96)] [] σ
  refine sw_aload_n dX5_instead_0 rfl ?_
  refine sw_getR (j := 8) dX5_instead_1 fl_X5_23 rfl rfl ?_
  refine sw_aload_n dX5_instead_4 rfl ?_
  refine sw_getR (j := 0) dX5_instead_5 fl_X5_19 rfl rfl ?_
  refine sw_callV dX5_instead_8 lV_X5_85 (c_copyFrom (k := 8) (j := 0) sm_isF8 sm_isF0 (by decide)) rfl rfl rfl rfl (Nat.le_of_ble_eq_true rfl) (Nat.le_of_ble_eq_true rfl) ?_
  refine sw_iconst (v := 0) dX5_instead_11 (by decide) ?_
  refine sw_istore_n dX5_instead_12 (by decide) rfl ?_
  refine sw_lv (l_instead (σ 0 6).toNatClampNeg 0 (m_try σ) (by unfold m_try; rw [g_copy_off (by left; decide)]; omega)) (And.intro rfl (And.intro rfl trivial))

theorem q_hour_N {σ : sm_St} {a b n : Nat} (h : q_N σ n) : q_N (q_hour σ a b) n := by unfold q_N; rw [q_hour_o (by decide) (by decide) (by decide)]; exact h
theorem q_N_set {σ : sm_St} {n j : Nat} {v : Int32} (h1 : j ≠ 0) (h : q_N σ n) : q_N (sm_set σ 110 j v) n := by unfold q_N; rw [sm_set_ne (Ne.symm h1)]; exact h
theorem q_N_row {σ : sm_St} {n k m : Nat} {i v : Int32} (h1 : k ≠ 110) (h : q_N σ n) : q_N (r_set σ k m i v) n := by unfold q_N; rw [r_set_off (Ne.symm h1)]; exact h
theorem q_N_lays {σ : sm_St} {n a p : Nat} (h1 : a ≠ 110) (h : q_N σ n) : q_N (q_lays σ a p) n := by unfold q_N; rw [q_lays_off (Ne.symm h1)]; exact h
def q_gone (s : Int32) : Nat → Nat → sm_St → sm_St
  | 0, _, τ => τ
  | n + 1, i, τ => q_gone s n (i + 1) (r_set τ 117 6 (nI i) (if q_has s (nI i) = true then 0 else 1))
def q_by10 (np nc : Nat) (τ : sm_St) : sm_St := q_hours np nc (10 : Int32).toNatClampNeg τ
def q_endc (τ : sm_St) : Int32 × sm_St := (9 * τ 110 8 + τ 110 7, q_takes τ 126 0)
def p_endBy (σ : sm_St) (np nc : Nat) (s : Int32) : Int32 × sm_St := q_endc (q_by10 np nc (q_gone s np 0 (q_lays σ 126 0)))

set_option maxHeartbeats 2000000 in
theorem l_p_endBy {np nc : Nat} {s : Int32} : ∀ (n i : Nat) (τ : sm_St), i + n = np → q_N τ np → q_P τ np → q_S τ nc → sm_W RX6 cX6_endBy 3 (some .int) 9 (some (.int (q_endc (q_by10 np nc (q_gone s n i τ))).1)) (q_endc (q_by10 np nc (q_gone s n i τ))).2 6 [(0, .ref 110), (1, .int s), (2, .int (nI i))] [] τ := by
  intro n
  induction n with
  | zero =>
    intro i τ h1 hN hP hS
    refine sw_iload_n dX6_endBy_6 rfl ?_
    refine sw_aload_n dX6_endBy_7 rfl ?_
    refine sw_getI dX6_endBy_8 fl_X6_84 rfl rfl ?_
    refine sw_icmp_ge (tgt := 39) dX6_endBy_11 (by decide) (fun _ => ?_) (fun h => absurd ((by rw [hN.1]; exact nI_le (by omega) (by have := hN.2; omega))) h)
    refine sw_aload_n dX6_endBy_39 rfl ?_
    refine sw_bipush (v := 10) dX6_endBy_40 (by decide) ?_
    refine sw_callV dX6_endBy_42 lV_X6_212 (c_q_goesOn _ hP hS) rfl rfl rfl rfl (Nat.le_of_ble_eq_true rfl) (Nat.le_of_ble_eq_true rfl) ?_
    refine sw_bipush (v := 9) dX6_endBy_45 (by decide) ?_
    refine sw_aload_n dX6_endBy_47 rfl ?_
    refine sw_getI dX6_endBy_48 fl_X6_65 rfl rfl ?_
    refine sw_imul dX6_endBy_51 ?_
    refine sw_aload_n dX6_endBy_52 rfl ?_
    refine sw_getI dX6_endBy_53 fl_X6_61 rfl rfl ?_
    refine sw_iadd dX6_endBy_56 ?_
    refine sw_istore_n dX6_endBy_57 (by decide) rfl ?_
    refine sw_aload_n dX6_endBy_58 rfl ?_
    refine sw_callV dX6_endBy_59 lV_X6_216 (c_q_back) rfl rfl rfl rfl (Nat.le_of_ble_eq_true rfl) (Nat.le_of_ble_eq_true rfl) ?_
    refine sw_iload_n dX6_endBy_62 rfl ?_
    refine sw_iret dX6_endBy_63 rfl rfl ?_ ?_
    all_goals (first | with_reducible rfl | (rfl))
  | succ n ih =>
    intro i τ h1 hN hP hS
    refine sw_iload_n dX6_endBy_6 rfl ?_
    refine sw_aload_n dX6_endBy_7 rfl ?_
    refine sw_getI dX6_endBy_8 fl_X6_84 rfl rfl ?_
    refine sw_icmp_ge (tgt := 39) dX6_endBy_11 (by decide) (fun h => absurd h ((fun h => absurd ((nI_leI (by have := hN.2; omega) (by omega)).mp (hN.1 ▸ h)) (by omega)))) (fun _ => ?_)
    refine sw_aload_n dX6_endBy_14 rfl ?_
    refine sw_getR (j := 117) dX6_endBy_15 fl_X6_28 rfl rfl ?_
    refine sw_iload_n dX6_endBy_18 rfl ?_
    refine sw_iload_n dX6_endBy_19 rfl ?_
    refine sw_iload_n dX6_endBy_20 rfl ?_
    refine sw_callS dX6_endBy_21 lS_X6_219 (c_q_has _ _) rfl rfl (Nat.le_of_ble_eq_true rfl) (Nat.le_of_ble_eq_true rfl) ?_
    refine sw_if_eq (tgt := 31) dX6_endBy_24 (by decide) (fun h24 => ?_) (fun h24 => ?_)
    · refine sw_iconst (v := 1) dX6_endBy_31 (by decide) ?_
      refine sw_top (y := if q_has s (nI i) = true then 0 else 1) (by first | (rw [if_pos (sm_b_t h24)]; done) | (rw [if_neg (by simpa [sm_b_e0] using h24)])) ?_
      refine sw_iastR dX6_endBy_32 rfl (vp_in_nI (by have := hN.2; omega) (by decide)) ?_
      refine sw_iinc dX6_endBy_33 rfl rfl (by decide) rfl ?_
      refine sw_goto (tgt := 6) dX6_endBy_36 (by decide) ?_
      refine sw_lv (ih (i + 1) _ (by omega) (q_N_row (by decide) hN) (q_P_row (by decide) hP) (q_S_row (by decide) hS)) (And.intro rfl (And.intro rfl (And.intro (sm_e rfl ?_) trivial)))
      all_goals (rw [sm_i1, nI_succ])
    · refine sw_iconst (v := 0) dX6_endBy_27 (by decide) ?_
      refine sw_goto (tgt := 32) dX6_endBy_28 (by decide) ?_
      refine sw_top (y := if q_has s (nI i) = true then 0 else 1) (by first | (rw [if_pos (sm_b_t h24)]; done) | (rw [if_neg (by simpa [sm_b_e0] using h24)])) ?_
      refine sw_iastR dX6_endBy_32 rfl (vp_in_nI (by have := hN.2; omega) (by decide)) ?_
      refine sw_iinc dX6_endBy_33 rfl rfl (by decide) rfl ?_
      refine sw_goto (tgt := 6) dX6_endBy_36 (by decide) ?_
      refine sw_lv (ih (i + 1) _ (by omega) (q_N_row (by decide) hN) (q_P_row (by decide) hP) (q_S_row (by decide) hS)) (And.intro rfl (And.intro rfl (And.intro (sm_e rfl ?_) trivial)))
      all_goals (rw [sm_i1, nI_succ])

set_option maxHeartbeats 2000000 in
theorem c_p_endBy {σ : sm_St} {np nc : Nat} (hN : q_N σ np) (hP : q_P σ np) (hS : q_S σ nc) (s : Int32) : sm_C yX6_endBy cX6_endBy 3 (some .int) 9 [.ref 110, .int s] σ (some (.int ((p_endBy σ np nc s).1))) (p_endBy σ np nc s).2 := by
  refine sm_C.of (own := RX6) (by decide) rfl (Nat.le_of_ble_eq_true rfl) ?_
  show sm_W RX6 cX6_endBy 3 (some .int) 9 (some (.int ((p_endBy σ np nc s).1))) (p_endBy σ np nc s).2 0 [(0, .ref 110), (1, .int s)] [] σ
  refine sw_aload_n dX6_endBy_0 rfl ?_
  refine sw_callV dX6_endBy_1 lV_X6_209 (c_q_puts) rfl rfl rfl rfl (Nat.le_of_ble_eq_true rfl) (Nat.le_of_ble_eq_true rfl) ?_
  refine sw_iconst (v := 0) dX6_endBy_4 (by decide) ?_
  refine sw_istore_n dX6_endBy_5 (by decide) rfl ?_
  unfold p_endBy
  refine sw_lv (l_p_endBy np 0 _ (by omega) (q_N_lays (by decide) hN) (q_lays_P (by decide) hP) (q_lays_S (by decide) hS)) (And.intro rfl (And.intro rfl (And.intro rfl trivial)))

theorem m_draw_nI {z i : Nat} (hz : z ≤ 9999) (hi : i < 60) : m_draw (nI z) (nI i) = nI ((7919 * z + 6151 * i + 1) * (7919 * z + 6151 * i + 1) % 65521 / 2) := by
  have hX : 7919 * z + 6151 * i + 1 < 79600000 := by omega
  have hXX : (7919 * z + 6151 * i + 1) * (7919 * z + 6151 * i + 1) < 79600000 * 79600000 := Nat.mul_lt_mul'' hX hX
  have e1 : 7919 * (nI z).toInt64 + 6151 * (nI i).toInt64 + 1 = lN (7919 * z + 6151 * i + 1) := by
    rw [nI_l (by omega), nI_l (by omega), show (7919 : Int64) = lN 7919 from rfl, show (6151 : Int64) = lN 6151 from rfl, lN_mul, lN_mul, lN_add, lN_1]
  unfold m_draw
  rw [e1, lN_mul]
  generalize (7919 * z + 6151 * i + 1) * (7919 * z + 6151 * i + 1) = Y at hXX ⊢
  rw [show (65521 : Int64) = lN 65521 from rfl, show (2 : Int64) = lN 2 from rfl, pk_lRem (by omega) (by decide) (by decide), pk_lDiv (by omega) (by decide) (by decide), lN_i]
def q_ch (τ : sm_St) (x : Int32) : sm_St := if m_rem x 8 = 0 then sm_set (sm_set τ 110 9 (m_rem (x / 8) 5)) 110 10 (m_rem (x / 64) 10) else if m_rem x 8 = 1 then r_set τ 116 6 (m_rem (x / 8) (τ 110 0)) (m_rem (x / 64) 6) else τ
def q_vo (np nc : Nat) (z : Int32) : Nat → Nat → Int32 → sm_St → Int32 × sm_St
  | 0, _, s, τ => (s, τ)
  | n + 1, i, s, τ => q_vo np nc z n (i + 1) (s + (if q_goes (q_V (q_ch τ (m_draw z (nI i)))) np nc = 0 then 1 else 0)) (q_hour (q_ch τ (m_draw z (nI i))) np nc)
def q_endv (w : Int32) (p : Int32 × sm_St) : Int32 × sm_St := (if w = 0 then p.2 110 7 else if w = 1 then p.2 110 8 else p.1, q_takes p.2 126 0)
def p_voyage (σ : sm_St) (np nc : Nat) (z t w : Int32) : Int32 × sm_St := if sm_win z 0 9999 = true ∧ sm_win t 1 60 = true ∧ sm_win w 0 2 = true then q_endv w (q_vo np nc z t.toNatClampNeg 0 0 (q_lays σ 126 0)) else (-1, σ)
theorem q_ch_P {τ : sm_St} {x : Int32} {n : Nat} (h : q_P τ n) : q_P (q_ch τ x) n := by
  unfold q_ch
  split
  · exact q_P_set (by decide) (by decide) (q_P_set (by decide) (by decide) h)
  · split
    · exact q_P_row (by decide) h
    · exact h
theorem q_ch_S {τ : sm_St} {x : Int32} {n : Nat} (h : q_S τ n) : q_S (q_ch τ x) n := by
  unfold q_ch
  split
  · exact q_S_set (by decide) (by decide) (q_S_set (by decide) (by decide) h)
  · split
    · exact q_S_row (by decide) h
    · exact h
theorem q_ch_N {τ : sm_St} {x : Int32} {n : Nat} (h : q_N τ n) : q_N (q_ch τ x) n := by
  unfold q_ch
  split
  · exact q_N_set (by decide) (q_N_set (by decide) h)
  · split
    · exact q_N_row (by decide) h
    · exact h
theorem q_ch_in {zz i np : Nat} (hz : zz ≤ 9999) (hi : i < 60) (h1 : 1 ≤ np) (h2 : np ≤ 6) : vp_in (m_draw (nI zz) (nI i) / 8 - m_draw (nI zz) (nI i) / 8 / nI np * nI np) 6 := by
  rw [m_draw_nI hz hi]
  have hb : (7919 * zz + 6151 * i + 1) * (7919 * zz + 6151 * i + 1) % 65521 / 2 < 65521 := by omega
  generalize (7919 * zz + 6151 * i + 1) * (7919 * zz + 6151 * i + 1) % 65521 / 2 = Y at hb ⊢
  rw [show (8 : Int32) = nI 8 from rfl, pk_div (by omega) (by decide) (by decide), pk_rem (by omega) h1 (by omega)]
  exact vp_in_nI (Nat.lt_of_lt_of_le (Nat.mod_lt _ h1) h2) (by decide)
theorem sm_win_nI {x : Int32} {m : Nat} {b : Int32} (hb : b = nI m) (hm : m < 2 ^ 30) (h : sm_win x 0 b = true) : ∃ j, j ≤ m ∧ x = nI j := by
  subst hb
  unfold sm_win at h
  simp only [decide_eq_true_eq] at h
  rcases pk_ix x (n := m + 1) (by omega) with h3 | h3 | ⟨j, h3, h4⟩
  · exact absurd h3 h.1
  · exfalso
    apply h.2
    rw [Int32.lt_iff_toInt_lt]
    rw [Int32.le_iff_toInt_le] at h3
    rw [nI_toInt (by omega)] at h3 ⊢
    omega
  · exact ⟨j, by omega, h4⟩

set_option maxHeartbeats 2000000 in
theorem l_p_voyage {np nc zz : Nat} (hzz : zz ≤ 9999) (h1p : 1 ≤ np) {t w : Int32} (ht : t.toNatClampNeg ≤ 60) : ∀ (n i : Nat) (s : Int32) (τ : sm_St), i + n = t.toNatClampNeg → q_N τ np → q_P τ np → q_S τ nc → sm_W RX6 cX6_voyage 10 (some .int) 8 (some (.int (q_endv w (q_vo np nc (nI zz) n i s τ)).1)) (q_endv w (q_vo np nc (nI zz) n i s τ)).2 42 [(0, .ref 110), (1, .int (nI zz)), (2, .int t), (3, .int w), (4, .int s), (5, .int (nI i))] [] τ := by
  intro n
  induction n with
  | zero =>
    intro i s τ h1 hN hP hS
    refine sw_iload dX6_voyage_42 rfl ?_
    refine sw_iload_n dX6_voyage_44 rfl ?_
    refine sw_icmp_ge (tgt := 175) dX6_voyage_45 (by decide) (fun _ => ?_) (fun h => absurd ((sm_le_clamp (by have := sm_clamp_lt t; omega)).mpr (by omega)) h)
    refine sw_iload_n dX6_voyage_175 rfl ?_
    refine sw_if_ne (tgt := 186) dX6_voyage_176 (by decide) (fun h176 => ?_) (fun h176 => ?_)
    · refine sw_iload_n dX6_voyage_186 rfl ?_
      refine sw_iconst (v := 1) dX6_voyage_187 (by decide) ?_
      refine sw_icmp_ne (tgt := 198) dX6_voyage_188 (by decide) (fun h188 => ?_) (fun h188 => ?_)
      · refine sw_iload dX6_voyage_198 rfl ?_
        refine sw_istore dX6_voyage_200 (by decide) rfl ?_
        refine sw_aload_n dX6_voyage_202 rfl ?_
        refine sw_callV dX6_voyage_203 lV_X6_216 (c_q_back) rfl rfl rfl rfl (Nat.le_of_ble_eq_true rfl) (Nat.le_of_ble_eq_true rfl) ?_
        refine sw_iload dX6_voyage_206 rfl ?_
        refine sw_iret dX6_voyage_208 rfl rfl ?_ ?_
        all_goals (first | with_reducible rfl | (simp_all [q_endv, q_vo]))
      · refine sw_aload_n dX6_voyage_191 rfl ?_
        refine sw_getI dX6_voyage_192 fl_X6_65 rfl rfl ?_
        refine sw_goto (tgt := 200) dX6_voyage_195 (by decide) ?_
        refine sw_istore dX6_voyage_200 (by decide) rfl ?_
        refine sw_aload_n dX6_voyage_202 rfl ?_
        refine sw_callV dX6_voyage_203 lV_X6_216 (c_q_back) rfl rfl rfl rfl (Nat.le_of_ble_eq_true rfl) (Nat.le_of_ble_eq_true rfl) ?_
        refine sw_iload dX6_voyage_206 rfl ?_
        refine sw_iret dX6_voyage_208 rfl rfl ?_ ?_
        all_goals (first | with_reducible rfl | (simp_all [q_endv, q_vo]))
    · refine sw_aload_n dX6_voyage_179 rfl ?_
      refine sw_getI dX6_voyage_180 fl_X6_61 rfl rfl ?_
      refine sw_goto (tgt := 200) dX6_voyage_183 (by decide) ?_
      refine sw_istore dX6_voyage_200 (by decide) rfl ?_
      refine sw_aload_n dX6_voyage_202 rfl ?_
      refine sw_callV dX6_voyage_203 lV_X6_216 (c_q_back) rfl rfl rfl rfl (Nat.le_of_ble_eq_true rfl) (Nat.le_of_ble_eq_true rfl) ?_
      refine sw_iload dX6_voyage_206 rfl ?_
      refine sw_iret dX6_voyage_208 rfl rfl ?_ ?_
      all_goals (first | with_reducible rfl | (simp_all [q_endv, q_vo]))
  | succ n ih =>
    intro i s τ h1 hN hP hS
    refine sw_iload dX6_voyage_42 rfl ?_
    refine sw_iload_n dX6_voyage_44 rfl ?_
    refine sw_icmp_ge (tgt := 175) dX6_voyage_45 (by decide) (fun h => absurd h ((fun h => absurd ((sm_le_clamp (by have := sm_clamp_lt t; omega)).mp h) (by omega)))) (fun _ => ?_)
    refine sw_ldc2 dX6_voyage_48 kl_X6_237 ?_
    refine sw_iload_n dX6_voyage_51 rfl ?_
    refine sw_i2l dX6_voyage_52 ?_
    refine sw_lmul dX6_voyage_53 ?_
    refine sw_ldc2 dX6_voyage_54 kl_X6_239 ?_
    refine sw_iload dX6_voyage_57 rfl ?_
    refine sw_i2l dX6_voyage_59 ?_
    refine sw_lmul dX6_voyage_60 ?_
    refine sw_ladd dX6_voyage_61 ?_
    refine sw_lconst (v := 1) dX6_voyage_62 (by decide) ?_
    refine sw_ladd dX6_voyage_63 ?_
    refine sw_lstore dX6_voyage_64 (by decide) rfl ?_
    refine sw_lload dX6_voyage_66 rfl ?_
    refine sw_lload dX6_voyage_68 rfl ?_
    refine sw_lmul dX6_voyage_70 ?_
    refine sw_ldc2 dX6_voyage_71 kl_X6_241 ?_
    refine sw_lrem dX6_voyage_74 (by decide) ?_
    refine sw_ldc2 dX6_voyage_75 kl_X6_243 ?_
    refine sw_ldiv dX6_voyage_78 (by decide) ?_
    refine sw_l2i dX6_voyage_79 ?_
    refine sw_top (y := (m_draw (nI zz) (nI i))) rfl ?_
    refine sw_istore dX6_voyage_80 (by decide) rfl ?_
    refine sw_iload dX6_voyage_82 rfl ?_
    refine sw_bipush (v := 8) dX6_voyage_84 (by decide) ?_
    refine sw_irem dX6_voyage_86 (by decide) ?_
    refine sw_if_ne (tgt := 116) dX6_voyage_87 (by decide) (fun h87 => ?_) (fun h87 => ?_)
    · refine sw_iload dX6_voyage_116 rfl ?_
      refine sw_bipush (v := 8) dX6_voyage_118 (by decide) ?_
      refine sw_irem dX6_voyage_120 (by decide) ?_
      refine sw_iconst (v := 1) dX6_voyage_121 (by decide) ?_
      refine sw_icmp_ne (tgt := 148) dX6_voyage_122 (by decide) (fun h122 => ?_) (fun h122 => ?_)
      · refine sw_st (σ2 := q_ch τ (m_draw (nI zz) (nI i))) (by unfold q_ch; rw [if_neg h87, if_neg h122]) ?_
        refine sw_aload_n dX6_voyage_148 rfl ?_
        refine sw_callV dX6_voyage_149 lV_X6_186 (c_q_passes (q_ch_P hP) (q_ch_S hS)) rfl rfl rfl rfl (Nat.le_of_ble_eq_true rfl) (Nat.le_of_ble_eq_true rfl) ?_
        refine sw_istore dX6_voyage_152 (by decide) rfl ?_
        refine sw_iload dX6_voyage_154 rfl ?_
        refine sw_iload dX6_voyage_156 rfl ?_
        refine sw_if_eq (tgt := 165) dX6_voyage_158 (by decide) (fun h158 => ?_) (fun h158 => ?_)
        · refine sw_iconst (v := 0) dX6_voyage_165 (by decide) ?_
          refine sw_iadd dX6_voyage_166 ?_
          refine sw_istore dX6_voyage_167 (by decide) rfl ?_
          refine sw_iinc dX6_voyage_169 rfl rfl (by decide) rfl ?_
          refine sw_goto (tgt := 42) dX6_voyage_172 (by decide) ?_
          refine sw_lv (ih (i + 1) _ _ (by omega) (q_hour_N (q_ch_N hN)) (q_hour_P (q_ch_P hP)) (q_hour_S (q_ch_S hS))) (And.intro rfl (And.intro rfl (And.intro rfl (And.intro rfl (And.intro (sm_e rfl ?_) (And.intro (sm_e rfl ?_) trivial))))))
          all_goals (first | (rw [sm_i1, nI_succ]; done) | (simp_all [sm_b_e0]; done))
        · refine sw_iconst (v := 1) dX6_voyage_161 (by decide) ?_
          refine sw_goto (tgt := 166) dX6_voyage_162 (by decide) ?_
          refine sw_iadd dX6_voyage_166 ?_
          refine sw_istore dX6_voyage_167 (by decide) rfl ?_
          refine sw_iinc dX6_voyage_169 rfl rfl (by decide) rfl ?_
          refine sw_goto (tgt := 42) dX6_voyage_172 (by decide) ?_
          refine sw_lv (ih (i + 1) _ _ (by omega) (q_hour_N (q_ch_N hN)) (q_hour_P (q_ch_P hP)) (q_hour_S (q_ch_S hS))) (And.intro rfl (And.intro rfl (And.intro rfl (And.intro rfl (And.intro (sm_e rfl ?_) (And.intro (sm_e rfl ?_) trivial))))))
          all_goals (first | (rw [sm_i1, nI_succ]; done) | (simp_all [sm_b_e0]; done))
      · refine sw_aload_n dX6_voyage_125 rfl ?_
        refine sw_getR (j := 116) dX6_voyage_126 fl_X6_25 rfl rfl ?_
        refine sw_iload dX6_voyage_129 rfl ?_
        refine sw_bipush (v := 8) dX6_voyage_131 (by decide) ?_
        refine sw_idiv dX6_voyage_133 (by decide) ?_
        refine sw_aload_n dX6_voyage_134 rfl ?_
        refine sw_getI dX6_voyage_135 fl_X6_84 rfl rfl ?_
        refine sw_irem dX6_voyage_138 (fun h => absurd (hN.1 ▸ h) (nI_ne0 h1p (by have := hN.2; omega))) ?_
        refine sw_iload dX6_voyage_139 rfl ?_
        refine sw_bipush (v := 64) dX6_voyage_141 (by decide) ?_
        refine sw_idiv dX6_voyage_143 (by decide) ?_
        refine sw_bipush (v := 6) dX6_voyage_144 (by decide) ?_
        refine sw_irem dX6_voyage_146 (by decide) ?_
        refine sw_iastR dX6_voyage_147 rfl (by rw [hN.1]; exact q_ch_in hzz (by omega) h1p (by have := hN.2; omega)) ?_
        refine sw_st (σ2 := q_ch τ (m_draw (nI zz) (nI i))) (by unfold q_ch; rw [if_neg h87, if_pos h122]) ?_
        refine sw_aload_n dX6_voyage_148 rfl ?_
        refine sw_callV dX6_voyage_149 lV_X6_186 (c_q_passes (q_ch_P hP) (q_ch_S hS)) rfl rfl rfl rfl (Nat.le_of_ble_eq_true rfl) (Nat.le_of_ble_eq_true rfl) ?_
        refine sw_istore dX6_voyage_152 (by decide) rfl ?_
        refine sw_iload dX6_voyage_154 rfl ?_
        refine sw_iload dX6_voyage_156 rfl ?_
        refine sw_if_eq (tgt := 165) dX6_voyage_158 (by decide) (fun h158 => ?_) (fun h158 => ?_)
        · refine sw_iconst (v := 0) dX6_voyage_165 (by decide) ?_
          refine sw_iadd dX6_voyage_166 ?_
          refine sw_istore dX6_voyage_167 (by decide) rfl ?_
          refine sw_iinc dX6_voyage_169 rfl rfl (by decide) rfl ?_
          refine sw_goto (tgt := 42) dX6_voyage_172 (by decide) ?_
          refine sw_lv (ih (i + 1) _ _ (by omega) (q_hour_N (q_ch_N hN)) (q_hour_P (q_ch_P hP)) (q_hour_S (q_ch_S hS))) (And.intro rfl (And.intro rfl (And.intro rfl (And.intro rfl (And.intro (sm_e rfl ?_) (And.intro (sm_e rfl ?_) trivial))))))
          all_goals (first | (rw [sm_i1, nI_succ]; done) | (simp_all [sm_b_e0]; done))
        · refine sw_iconst (v := 1) dX6_voyage_161 (by decide) ?_
          refine sw_goto (tgt := 166) dX6_voyage_162 (by decide) ?_
          refine sw_iadd dX6_voyage_166 ?_
          refine sw_istore dX6_voyage_167 (by decide) rfl ?_
          refine sw_iinc dX6_voyage_169 rfl rfl (by decide) rfl ?_
          refine sw_goto (tgt := 42) dX6_voyage_172 (by decide) ?_
          refine sw_lv (ih (i + 1) _ _ (by omega) (q_hour_N (q_ch_N hN)) (q_hour_P (q_ch_P hP)) (q_hour_S (q_ch_S hS))) (And.intro rfl (And.intro rfl (And.intro rfl (And.intro rfl (And.intro (sm_e rfl ?_) (And.intro (sm_e rfl ?_) trivial))))))
          all_goals (first | (rw [sm_i1, nI_succ]; done) | (simp_all [sm_b_e0]; done))
    · refine sw_aload_n dX6_voyage_90 rfl ?_
      refine sw_iload dX6_voyage_91 rfl ?_
      refine sw_bipush (v := 8) dX6_voyage_93 (by decide) ?_
      refine sw_idiv dX6_voyage_95 (by decide) ?_
      refine sw_iconst (v := 5) dX6_voyage_96 (by decide) ?_
      refine sw_irem dX6_voyage_97 (by decide) ?_
      refine sw_put dX6_voyage_98 fl_X6_71 fi_5_9 rfl rfl ?_
      refine sw_aload_n dX6_voyage_101 rfl ?_
      refine sw_iload dX6_voyage_102 rfl ?_
      refine sw_bipush (v := 64) dX6_voyage_104 (by decide) ?_
      refine sw_idiv dX6_voyage_106 (by decide) ?_
      refine sw_bipush (v := 10) dX6_voyage_107 (by decide) ?_
      refine sw_irem dX6_voyage_109 (by decide) ?_
      refine sw_put dX6_voyage_110 fl_X6_74 fi_5_10 rfl rfl ?_
      refine sw_goto (tgt := 148) dX6_voyage_113 (by decide) ?_
      refine sw_st (σ2 := q_ch τ (m_draw (nI zz) (nI i))) (by unfold q_ch; rw [if_pos h87]) ?_
      refine sw_aload_n dX6_voyage_148 rfl ?_
      refine sw_callV dX6_voyage_149 lV_X6_186 (c_q_passes (q_ch_P hP) (q_ch_S hS)) rfl rfl rfl rfl (Nat.le_of_ble_eq_true rfl) (Nat.le_of_ble_eq_true rfl) ?_
      refine sw_istore dX6_voyage_152 (by decide) rfl ?_
      refine sw_iload dX6_voyage_154 rfl ?_
      refine sw_iload dX6_voyage_156 rfl ?_
      refine sw_if_eq (tgt := 165) dX6_voyage_158 (by decide) (fun h158 => ?_) (fun h158 => ?_)
      · refine sw_iconst (v := 0) dX6_voyage_165 (by decide) ?_
        refine sw_iadd dX6_voyage_166 ?_
        refine sw_istore dX6_voyage_167 (by decide) rfl ?_
        refine sw_iinc dX6_voyage_169 rfl rfl (by decide) rfl ?_
        refine sw_goto (tgt := 42) dX6_voyage_172 (by decide) ?_
        refine sw_lv (ih (i + 1) _ _ (by omega) (q_hour_N (q_ch_N hN)) (q_hour_P (q_ch_P hP)) (q_hour_S (q_ch_S hS))) (And.intro rfl (And.intro rfl (And.intro rfl (And.intro rfl (And.intro (sm_e rfl ?_) (And.intro (sm_e rfl ?_) trivial))))))
        all_goals (first | (rw [sm_i1, nI_succ]; done) | (simp_all [sm_b_e0]; done))
      · refine sw_iconst (v := 1) dX6_voyage_161 (by decide) ?_
        refine sw_goto (tgt := 166) dX6_voyage_162 (by decide) ?_
        refine sw_iadd dX6_voyage_166 ?_
        refine sw_istore dX6_voyage_167 (by decide) rfl ?_
        refine sw_iinc dX6_voyage_169 rfl rfl (by decide) rfl ?_
        refine sw_goto (tgt := 42) dX6_voyage_172 (by decide) ?_
        refine sw_lv (ih (i + 1) _ _ (by omega) (q_hour_N (q_ch_N hN)) (q_hour_P (q_ch_P hP)) (q_hour_S (q_ch_S hS))) (And.intro rfl (And.intro rfl (And.intro rfl (And.intro rfl (And.intro (sm_e rfl ?_) (And.intro (sm_e rfl ?_) trivial))))))
        all_goals (first | (rw [sm_i1, nI_succ]; done) | (simp_all [sm_b_e0]; done))

theorem q_t60 {t : Int32} (h : sm_win t 1 60 = true) : t.toNatClampNeg ≤ 60 := by
  unfold sm_win at h
  simp only [decide_eq_true_eq] at h
  have h2 := h.2
  rw [Int32.lt_iff_toInt_lt] at h2
  have e : (60 : Int32).toInt = 60 := rfl
  show t.toInt.toNat ≤ 60
  omega

set_option maxHeartbeats 2000000 in
theorem c_p_voyage {σ : sm_St} {np : Nat} (hN : q_N σ np) {nc : Nat} (hC : q_C σ nc) (h0 : q_0 σ) (h1p : 1 ≤ np) (z t w : Int32) : sm_C yX6_voyage cX6_voyage 10 (some .int) 8 [.ref 110, .int z, .int t, .int w] σ (some (.int ((p_voyage σ np nc z t w).1))) (p_voyage σ np nc z t w).2 := by
  refine sm_C.of (own := RX6) (by decide) rfl (Nat.le_of_ble_eq_true rfl) ?_
  have hP := q_P_of hN h0
  have hS := q_S_of hC h0
  show sm_W RX6 cX6_voyage 10 (some .int) 8 (some (.int ((p_voyage σ np nc z t w).1))) (p_voyage σ np nc z t w).2 0 [(0, .ref 110), (1, .int z), (2, .int t), (3, .int w)] [] σ
  refine sw_iload_n dX6_voyage_0 rfl ?_
  refine sw_iconst (v := 0) dX6_voyage_1 (by decide) ?_
  refine sw_sipush (v := 9999) dX6_voyage_2 (by decide) ?_
  refine sw_callS dX6_voyage_5 lS_X6_94 (c_q_in _ _ _) rfl rfl (Nat.le_of_ble_eq_true rfl) (Nat.le_of_ble_eq_true rfl) ?_
  refine sw_if_eq (tgt := 30) dX6_voyage_8 (by decide) (fun h8 => ?_) (fun h8 => ?_)
  · refine sw_iconst (v := -1) dX6_voyage_30 (by decide) ?_
    refine sw_iret dX6_voyage_31 rfl rfl ?_ ?_
    all_goals (first | with_reducible rfl | (simp_all [-Int32.not_lt, -Int32.not_le, sm_b_e0, sm_b_e1, sm_b_0e, sm_b_1e, p_voyage]))
  · refine sw_iload_n dX6_voyage_11 rfl ?_
    refine sw_iconst (v := 1) dX6_voyage_12 (by decide) ?_
    refine sw_bipush (v := 60) dX6_voyage_13 (by decide) ?_
    refine sw_callS dX6_voyage_15 lS_X6_94 (c_q_in _ _ _) rfl rfl (Nat.le_of_ble_eq_true rfl) (Nat.le_of_ble_eq_true rfl) ?_
    refine sw_if_eq (tgt := 30) dX6_voyage_18 (by decide) (fun h18 => ?_) (fun h18 => ?_)
    · refine sw_iconst (v := -1) dX6_voyage_30 (by decide) ?_
      refine sw_iret dX6_voyage_31 rfl rfl ?_ ?_
      all_goals (first | with_reducible rfl | (simp_all [-Int32.not_lt, -Int32.not_le, sm_b_e0, sm_b_e1, sm_b_0e, sm_b_1e, p_voyage]))
    · refine sw_iload_n dX6_voyage_21 rfl ?_
      refine sw_iconst (v := 0) dX6_voyage_22 (by decide) ?_
      refine sw_iconst (v := 2) dX6_voyage_23 (by decide) ?_
      refine sw_callS dX6_voyage_24 lS_X6_94 (c_q_in _ _ _) rfl rfl (Nat.le_of_ble_eq_true rfl) (Nat.le_of_ble_eq_true rfl) ?_
      refine sw_if_ne (tgt := 32) dX6_voyage_27 (by decide) (fun h27 => ?_) (fun h27 => ?_)
      · refine sw_aload_n dX6_voyage_32 rfl ?_
        refine sw_callV dX6_voyage_33 lV_X6_209 (c_q_puts) rfl rfl rfl rfl (Nat.le_of_ble_eq_true rfl) (Nat.le_of_ble_eq_true rfl) ?_
        refine sw_iconst (v := 0) dX6_voyage_36 (by decide) ?_
        refine sw_istore dX6_voyage_37 (by decide) rfl ?_
        refine sw_iconst (v := 0) dX6_voyage_39 (by decide) ?_
        refine sw_istore dX6_voyage_40 (by decide) rfl ?_
        have e : p_voyage σ np nc z t w = q_endv w (q_vo np nc z t.toNatClampNeg 0 0 (q_lays σ 126 0)) := by simp_all [p_voyage, sm_b_e0]
        rw [e]
        obtain ⟨zz, hzz, rfl⟩ := sm_win_nI (m := 9999) rfl (by decide) (sm_b_t h8)
        have ht : t.toNatClampNeg ≤ 60 := q_t60 (sm_b_t h18)
        refine sw_lv (l_p_voyage hzz h1p ht _ 0 0 _ (by omega) (q_N_lays (by decide) hN) (q_lays_P (by decide) hP) (q_lays_S (by decide) hS)) (And.intro rfl (And.intro rfl (And.intro rfl (And.intro rfl (And.intro rfl (And.intro rfl trivial))))))
      · refine sw_iconst (v := -1) dX6_voyage_30 (by decide) ?_
        refine sw_iret dX6_voyage_31 rfl rfl ?_ ?_
        all_goals (first | with_reducible rfl | (simp_all [-Int32.not_lt, -Int32.not_le, sm_b_e0, sm_b_e1, sm_b_0e, sm_b_1e, p_voyage]))

set_option maxHeartbeats 2000000 in
theorem l_p_common {σ : sm_St} {a b : Nat} : ∀ (n x y : Nat), y ≤ n → x < 2 ^ 31 → y < 2 ^ 31 → sm_W RX6 cX6_common 10 (some .long) 2 (some (.long (lN (Nat.gcd x y)))) σ 6 [(0, .long (lN a)), (2, .long (lN b)), (4, .long (lN x)), (6, .long (lN y))] [] σ := by
  intro n
  induction n with
  | zero =>
    intro x y h1 hx hy
    have h0 : y = 0 := by omega
    · skip
      refine sw_lload dX6_common_6 rfl ?_
      refine sw_lconst (v := 0) dX6_common_8 (by decide) ?_
      refine sw_lcmp dX6_common_9 ?_
      refine sw_if_eq (tgt := 31) dX6_common_10 (by decide) (fun _ => ?_) (fun h => absurd ((lg_cmp_eq _ _).mpr (by rw [h0]; rfl)) h)
      refine sw_lload dX6_common_31 rfl ?_
      refine sw_lret dX6_common_33 rfl rfl ?_ ?_
      all_goals (first | with_reducible rfl | (rw [h0, Nat.gcd_zero_right]))
  | succ n ih =>
    intro x y h1 hx hy
    by_cases h0 : y = 0
    · skip
      refine sw_lload dX6_common_6 rfl ?_
      refine sw_lconst (v := 0) dX6_common_8 (by decide) ?_
      refine sw_lcmp dX6_common_9 ?_
      refine sw_if_eq (tgt := 31) dX6_common_10 (by decide) (fun _ => ?_) (fun h => absurd ((lg_cmp_eq _ _).mpr (by rw [h0]; rfl)) h)
      refine sw_lload dX6_common_31 rfl ?_
      refine sw_lret dX6_common_33 rfl rfl ?_ ?_
      all_goals (first | with_reducible rfl | (rw [h0, Nat.gcd_zero_right]))
    · skip
      refine sw_lload dX6_common_6 rfl ?_
      refine sw_lconst (v := 0) dX6_common_8 (by decide) ?_
      refine sw_lcmp dX6_common_9 ?_
      refine sw_if_eq (tgt := 31) dX6_common_10 (by decide) (fun h => absurd h ((fun h => h0 ((lN_eq hy (by decide)).mp (show lN y = lN 0 from (lg_cmp_eq _ _).mp h))))) (fun _ => ?_)
      refine sw_lload dX6_common_13 rfl ?_
      refine sw_lload dX6_common_15 rfl ?_
      refine sw_lrem dX6_common_17 (fun h => h0 ((lN_eq hy (by decide)).mp (show lN y = lN 0 from h))) ?_
      refine sw_lstore dX6_common_18 (by decide) rfl ?_
      refine sw_lload dX6_common_20 rfl ?_
      refine sw_lstore dX6_common_22 (by decide) rfl ?_
      refine sw_lload dX6_common_24 rfl ?_
      refine sw_lstore dX6_common_26 (by decide) rfl ?_
      refine sw_goto (tgt := 6) dX6_common_28 (by decide) ?_
      have hm : x % y < y := Nat.mod_lt _ (by omega)
      have e : Nat.gcd x y = Nat.gcd y (x % y) := by rw [Nat.gcd_comm, Nat.gcd_rec, Nat.gcd_comm]
      rw [e]
      refine sw_lv (ih y (x % y) (by omega) hy (by omega)) (And.intro rfl (And.intro rfl (And.intro rfl (And.intro (sm_el rfl ?_) trivial))))
      all_goals (exact pk_lRem (by omega) (by omega) (by omega))

set_option maxHeartbeats 2000000 in
theorem c_p_common {σ : sm_St} {a b : Nat} (ha : a < 2 ^ 31) (hb : b < 2 ^ 31) : sm_C yX6_common cX6_common 10 (some .long) 2 [.long (lN a), .long (lN b)] σ (some (.long (lN (Nat.gcd a b)))) σ := by
  refine sm_C.of (own := RX6) (by decide) rfl (Nat.le_of_ble_eq_true rfl) ?_
  show sm_W RX6 cX6_common 10 (some .long) 2 (some (.long (lN (Nat.gcd a b)))) σ 0 [(0, .long (lN a)), (2, .long (lN b))] [] σ
  refine sw_lload_n dX6_common_0 rfl ?_
  refine sw_lstore dX6_common_1 (by decide) rfl ?_
  refine sw_lload_n dX6_common_3 rfl ?_
  refine sw_lstore dX6_common_4 (by decide) rfl ?_
  refine sw_lv (l_p_common b a b (Nat.le_refl _) ha hb) (And.intro rfl (And.intro rfl (And.intro rfl (And.intro rfl trivial))))

def q_li (np nc d x : Nat) (f : Int32) : Nat → Nat → Nat → sm_St → Nat × sm_St
  | 0, _, w, τ => (w, τ)
  | m + 1, k, w, τ => q_li np nc d x f m (k + 1) (w * (if q_has (nI d) (nI k) = true then x else 10 - x)) (q_hour (sm_set τ 110 10 (if q_has (nI d) (nI k) = true then 0 else f)) np nc)
theorem q_li_le {np nc d x : Nat} {f : Int32} (hx : x ≤ 10) : ∀ (m k w : Nat) (τ : sm_St), (q_li np nc d x f m k w τ).1 ≤ w * 10 ^ m
  | 0, _, w, _ => by simp [q_li]
  | m + 1, k, w, τ => by
    unfold q_li
    refine Nat.le_trans (q_li_le hx m (k + 1) _ _) ?_
    rw [Nat.pow_succ, Nat.mul_comm (10 ^ m) 10, ← Nat.mul_assoc]
    refine Nat.mul_le_mul_right _ (Nat.mul_le_mul_left _ ?_)
    split <;> omega
theorem q_li_o {np nc d x j : Nat} {f : Int32} (h : j < 6 ∨ 10 < j) : ∀ (m k w : Nat) (τ : sm_St), (q_li np nc d x f m k w τ).2 110 j = τ 110 j
  | 0, _, _, _ => rfl
  | m + 1, k, w, τ => by
    unfold q_li
    rw [q_li_o h m, q_hour_o (by omega) (by omega) (by omega), sm_set_ne (by omega)]
theorem q_li_off {np nc d x q : Nat} {f : Int32} (h : q ≠ 110) : ∀ (m k w : Nat) (τ : sm_St), (q_li np nc d x f m k w τ).2 q = τ q
  | 0, _, _, _ => rfl
  | m + 1, k, w, τ => by
    unfold q_li
    rw [q_li_off h m, q_hour_off h, sm_set_off h]
def q_li1 (np nc n x d : Nat) (τ : sm_St) : Nat × sm_St := q_li np nc d x (q_lays τ 126 0 110 10) n 0 1 (q_lays τ 126 0)
def q_li2 (np nc n x d : Nat) (τ : sm_St) : sm_St := q_takes (q_li1 np nc n x d τ).2 126 0
theorem q_li2_o {np nc n x d j : Nat} {τ : sm_St} (h : j < 6 ∨ 10 < j) : q_li2 np nc n x d τ 110 j = τ 110 j := by
  unfold q_li2 q_li1
  rw [q_takes_o h, q_li_o h, q_lays_off (by decide)]
def q_ls (np nc n x : Nat) : Nat → Nat → Nat → sm_St → Nat × sm_St
  | 0, _, s, τ => (s, τ)
  | m + 1, d, s, τ => q_ls np nc n x m (d + 1) (s + (if (q_li1 np nc n x d τ).2 110 7 = q_lays τ 126 0 110 7 ∧ (q_li1 np nc n x d τ).2 110 8 = q_lays τ 126 0 110 8 then (q_li1 np nc n x d τ).1 else 0)) (q_li2 np nc n x d τ)
def q_endl (w : Int32) (W : Nat) (p : Nat × sm_St) : Int32 × sm_St := (if w = 0 then nI (p.1 / Nat.gcd p.1 W) else nI (W / Nat.gcd p.1 W), p.2)
def p_likely (σ : sm_St) (np nc : Nat) (t x w : Int32) : Int32 × sm_St := if sm_win t 0 7 = true ∧ sm_win x 0 10 = true ∧ sm_win w 0 1 = true then q_endl w (10 ^ t.toNatClampNeg) (q_ls np nc t.toNatClampNeg x.toNatClampNeg (2 ^ t.toNatClampNeg) 0 0 σ) else (-1, σ)
theorem q_sh1 : ∀ n, n < 8 → (1 : Int32) <<< (nI n &&& 31) = nI (2 ^ n) := by decide +kernel
theorem q_10m : ∀ x, x < 11 → (10 : Int32) - nI x = nI (10 - x) := by decide +kernel

set_option maxHeartbeats 2000000 in
theorem l_p_lik1 {n x : Nat} {w : Int32} (hn : n < 8) {r : Option Value} {σ' τ : sm_St} : ∀ (m i : Nat), i + m = n → sm_W RX6 cX6_likely 15 (some .int) 10 r σ' 60 [(0, .ref 110), (1, .int (nI n)), (2, .int (nI x)), (3, .int w), (4, .long 0), (6, .long (lN (10 ^ n)))] [] τ → sm_W RX6 cX6_likely 15 (some .int) 10 r σ' 40 [(0, .ref 110), (1, .int (nI n)), (2, .int (nI x)), (3, .int w), (4, .long 0), (6, .long (lN (10 ^ i))), (8, .int (nI i))] [] τ := by
  intro m
  induction m with
  | zero =>
    intro i h1 kk
    refine sw_iload dX6_likely_40 rfl ?_
    refine sw_iload_n dX6_likely_42 rfl ?_
    refine sw_icmp_ge (tgt := 60) dX6_likely_43 (by decide) (fun _ => ?_) (fun h => absurd ((by rw [show i = n by omega]; exact Int32.le_refl _)) h)
    rw [show n = i by omega] at kk ⊢
    refine sw_lv (kk) (And.intro rfl (And.intro rfl (And.intro rfl (And.intro rfl (And.intro rfl (And.intro rfl trivial))))))
  | succ m ih =>
    intro i h1 kk
    refine sw_iload dX6_likely_40 rfl ?_
    refine sw_iload_n dX6_likely_42 rfl ?_
    refine sw_icmp_ge (tgt := 60) dX6_likely_43 (by decide) (fun h => absurd h ((fun h => absurd ((nI_leI (by omega) (by omega)).mp h) (by omega)))) (fun _ => ?_)
    refine sw_lload dX6_likely_46 rfl ?_
    refine sw_ldc2 dX6_likely_48 kl_X6_231 ?_
    refine sw_lmul dX6_likely_51 ?_
    refine sw_lstore dX6_likely_52 (by decide) rfl ?_
    refine sw_iinc dX6_likely_54 rfl rfl (by decide) rfl ?_
    refine sw_goto (tgt := 40) dX6_likely_57 (by decide) ?_
    refine sw_lv (ih (i + 1) (by omega) kk) (And.intro rfl (And.intro rfl (And.intro rfl (And.intro rfl (And.intro rfl (And.intro (sm_el rfl ?_) (And.intro (sm_e rfl ?_) trivial)))))))
    all_goals (first | (rw [sm_i1, nI_succ]; done) | (rw [show (10 : Int64) = lN 10 from rfl, lN_mul, Nat.pow_succ]))

set_option maxHeartbeats 2000000 in
theorem l_p_lik3 {n x d np nc : Nat} {w f fx fy : Int32} {s W : Int64} (hn : n < 8) (hx : x ≤ 10) {r : Option Value} {σ' : sm_St} : ∀ (m k wt : Nat) (τ : sm_St), k + m = n → q_P τ np → q_S τ nc → sm_W RX6 cX6_likely 15 (some .int) 10 r σ' 161 [(0, .ref 110), (1, .int (nI n)), (2, .int (nI x)), (3, .int w), (4, .long s), (6, .long W), (8, .int (nI d)), (9, .long (lN (q_li np nc d x f m k wt τ).1)), (11, .int f), (12, .int fx), (13, .int fy)] [] (q_li np nc d x f m k wt τ).2 → sm_W RX6 cX6_likely 15 (some .int) 10 r σ' 99 [(0, .ref 110), (1, .int (nI n)), (2, .int (nI x)), (3, .int w), (4, .long s), (6, .long W), (8, .int (nI d)), (9, .long (lN wt)), (11, .int f), (12, .int fx), (13, .int fy), (14, .int (nI k))] [] τ := by
  intro m
  induction m with
  | zero =>
    intro k wt τ h1 hP hS kk
    refine sw_iload dX6_likely_99 rfl ?_
    refine sw_iload_n dX6_likely_101 rfl ?_
    refine sw_icmp_ge (tgt := 161) dX6_likely_102 (by decide) (fun _ => ?_) (fun h => absurd ((by rw [show k = n by omega]; exact Int32.le_refl _)) h)
    refine sw_lv (kk) (And.intro rfl (And.intro rfl (And.intro rfl (And.intro rfl (And.intro rfl (And.intro rfl (And.intro rfl (And.intro rfl (And.intro rfl (And.intro rfl (And.intro rfl trivial)))))))))))
  | succ m ih =>
    intro k wt τ h1 hP hS kk
    refine sw_iload dX6_likely_99 rfl ?_
    refine sw_iload_n dX6_likely_101 rfl ?_
    refine sw_icmp_ge (tgt := 161) dX6_likely_102 (by decide) (fun h => absurd h ((fun h => absurd ((nI_leI (by omega) (by omega)).mp h) (by omega)))) (fun _ => ?_)
    refine sw_aload_n dX6_likely_105 rfl ?_
    refine sw_iload dX6_likely_106 rfl ?_
    refine sw_iload dX6_likely_108 rfl ?_
    refine sw_callS dX6_likely_110 lS_X6_219 (c_q_has _ _) rfl rfl (Nat.le_of_ble_eq_true rfl) (Nat.le_of_ble_eq_true rfl) ?_
    refine sw_if_eq (tgt := 120) dX6_likely_113 (by decide) (fun h113 => ?_) (fun h113 => ?_)
    · refine sw_iload dX6_likely_120 rfl ?_
      refine sw_put dX6_likely_122 fl_X6_74 fi_5_10 rfl rfl ?_
      refine sw_st (σ2 := sm_set τ 110 10 (if q_has (nI d) (nI k) = true then 0 else f)) (by rw [if_neg (by simpa [sm_b_e0] using h113)]) ?_
      refine sw_lload dX6_likely_125 rfl ?_
      refine sw_iload dX6_likely_127 rfl ?_
      refine sw_iload dX6_likely_129 rfl ?_
      refine sw_callS dX6_likely_131 lS_X6_219 (c_q_has _ _) rfl rfl (Nat.le_of_ble_eq_true rfl) (Nat.le_of_ble_eq_true rfl) ?_
      refine sw_if_eq (tgt := 142) dX6_likely_134 (by decide) (fun _ => ?_) (fun h => absurd (h113) h)
      refine sw_bipush (v := 10) dX6_likely_142 (by decide) ?_
      refine sw_iload_n dX6_likely_144 rfl ?_
      refine sw_isub dX6_likely_145 ?_
      refine sw_i2l dX6_likely_146 ?_
      refine sw_lmul dX6_likely_147 ?_
      refine sw_lstore dX6_likely_148 (by decide) rfl ?_
      refine sw_aload_n dX6_likely_150 rfl ?_
      refine sw_callV dX6_likely_151 lV_X6_186 (c_q_passes (q_P_set (by decide) (by decide) hP) (q_S_set (by decide) (by decide) hS)) rfl rfl rfl rfl (Nat.le_of_ble_eq_true rfl) (Nat.le_of_ble_eq_true rfl) ?_
      refine sw_pop dX6_likely_154 rfl ?_
      refine sw_iinc dX6_likely_155 rfl rfl (by decide) rfl ?_
      refine sw_goto (tgt := 99) dX6_likely_158 (by decide) ?_
      refine sw_lv (ih (k + 1) _ _ (by omega) ⟨by rw [q_hour_o (by decide) (by decide) (by decide), q_hour_o (by decide) (by decide) (by decide), sm_set_ne (by decide), sm_set_ne (by decide)]; exact hP.1, hP.2⟩ ⟨by rw [q_hour_o (by decide) (by decide) (by decide), q_hour_o (by decide) (by decide) (by decide), sm_set_ne (by decide), sm_set_ne (by decide)]; exact hS.1, hS.2⟩ kk) (And.intro rfl (And.intro rfl (And.intro rfl (And.intro rfl (And.intro rfl (And.intro rfl (And.intro rfl (And.intro (sm_el rfl ?_) (And.intro rfl (And.intro rfl (And.intro rfl (And.intro (sm_e rfl ?_) trivial))))))))))))
      all_goals (first | (rw [sm_i1, nI_succ]; done) | (rw [q_10m x (by omega), nI_l (by omega), if_neg (by simpa [sm_b_e0] using h113), lN_mul]))
    · refine sw_iconst (v := 0) dX6_likely_116 (by decide) ?_
      refine sw_goto (tgt := 122) dX6_likely_117 (by decide) ?_
      refine sw_put dX6_likely_122 fl_X6_74 fi_5_10 rfl rfl ?_
      refine sw_st (σ2 := sm_set τ 110 10 (if q_has (nI d) (nI k) = true then 0 else f)) (by rw [if_pos (sm_b_t h113)]) ?_
      refine sw_lload dX6_likely_125 rfl ?_
      refine sw_iload dX6_likely_127 rfl ?_
      refine sw_iload dX6_likely_129 rfl ?_
      refine sw_callS dX6_likely_131 lS_X6_219 (c_q_has _ _) rfl rfl (Nat.le_of_ble_eq_true rfl) (Nat.le_of_ble_eq_true rfl) ?_
      refine sw_if_eq (tgt := 142) dX6_likely_134 (by decide) (fun h => absurd h (h113)) (fun _ => ?_)
      refine sw_iload_n dX6_likely_137 rfl ?_
      refine sw_i2l dX6_likely_138 ?_
      refine sw_goto (tgt := 147) dX6_likely_139 (by decide) ?_
      refine sw_lmul dX6_likely_147 ?_
      refine sw_lstore dX6_likely_148 (by decide) rfl ?_
      refine sw_aload_n dX6_likely_150 rfl ?_
      refine sw_callV dX6_likely_151 lV_X6_186 (c_q_passes (q_P_set (by decide) (by decide) hP) (q_S_set (by decide) (by decide) hS)) rfl rfl rfl rfl (Nat.le_of_ble_eq_true rfl) (Nat.le_of_ble_eq_true rfl) ?_
      refine sw_pop dX6_likely_154 rfl ?_
      refine sw_iinc dX6_likely_155 rfl rfl (by decide) rfl ?_
      refine sw_goto (tgt := 99) dX6_likely_158 (by decide) ?_
      refine sw_lv (ih (k + 1) _ _ (by omega) ⟨by rw [q_hour_o (by decide) (by decide) (by decide), q_hour_o (by decide) (by decide) (by decide), sm_set_ne (by decide), sm_set_ne (by decide)]; exact hP.1, hP.2⟩ ⟨by rw [q_hour_o (by decide) (by decide) (by decide), q_hour_o (by decide) (by decide) (by decide), sm_set_ne (by decide), sm_set_ne (by decide)]; exact hS.1, hS.2⟩ kk) (And.intro rfl (And.intro rfl (And.intro rfl (And.intro rfl (And.intro rfl (And.intro rfl (And.intro rfl (And.intro (sm_el rfl ?_) (And.intro rfl (And.intro rfl (And.intro rfl (And.intro (sm_e rfl ?_) trivial))))))))))))
      all_goals (first | (rw [sm_i1, nI_succ]; done) | (rw [nI_l (by omega), if_pos (sm_b_t h113), lN_mul]))

set_option maxHeartbeats 2000000 in
theorem l_p_lik2 {n x np nc W : Nat} {w : Int32} (hn : n < 8) (hx : x ≤ 10) (hW : W = 10 ^ n) (hW7 : W ≤ 10000000) (hW0 : 0 < W) : ∀ (m d s : Nat) (τ : sm_St), d + m = 2 ^ n → s ≤ d * W → q_P τ np → q_S τ nc → sm_W RX6 cX6_likely 15 (some .int) 10 (some (.int (q_endl w W (q_ls np nc n x m d s τ)).1)) (q_endl w W (q_ls np nc n x m d s τ)).2 63 [(0, .ref 110), (1, .int (nI n)), (2, .int (nI x)), (3, .int w), (4, .long (lN s)), (6, .long (lN W)), (8, .int (nI d))] [] τ := by
  intro m
  induction m with
  | zero =>
    intro d s τ h1 hs hP hS
    have h2n : 2 ^ n ≤ 2 ^ 7 := Nat.pow_le_pow_right (by decide) (by omega)
    have hdW : d * W ≤ 128 * W := Nat.mul_le_mul_right _ (by omega)
    have hg : 0 < Nat.gcd s W := Nat.gcd_pos_of_pos_right _ hW0
    have hg2 : Nat.gcd s W ≤ W := Nat.le_of_dvd hW0 (Nat.gcd_dvd_right s W)
    have hg0 : ¬ lN (Nat.gcd s W) = 0 := fun h => absurd ((lN_eq (by omega) (by decide)).mp (show lN (Nat.gcd s W) = lN 0 from h)) (by omega)
    refine sw_iload dX6_likely_63 rfl ?_
    refine sw_iconst (v := 1) dX6_likely_65 (by decide) ?_
    refine sw_iload_n dX6_likely_66 rfl ?_
    refine sw_ishl dX6_likely_67 ?_
    refine sw_top (y := nI (2 ^ n)) (q_sh1 n hn) ?_
    refine sw_icmp_ge (tgt := 200) dX6_likely_68 (by decide) (fun _ => ?_) (fun h => absurd ((by rw [show d = 2 ^ n by omega]; exact Int32.le_refl _)) h)
    refine sw_lload dX6_likely_200 rfl ?_
    refine sw_lload dX6_likely_202 rfl ?_
    refine sw_callS dX6_likely_204 lS_X6_233 (c_p_common (by omega) (by omega)) rfl rfl (Nat.le_of_ble_eq_true rfl) (Nat.le_of_ble_eq_true rfl) ?_
    refine sw_lstore dX6_likely_207 (by decide) rfl ?_
    refine sw_iload_n dX6_likely_209 rfl ?_
    refine sw_if_ne (tgt := 221) dX6_likely_210 (by decide) (fun h210 => ?_) (fun h210 => ?_)
    · refine sw_lload dX6_likely_221 rfl ?_
      refine sw_lload dX6_likely_223 rfl ?_
      refine sw_ldiv dX6_likely_225 hg0 ?_
      refine sw_l2i dX6_likely_226 ?_
      refine sw_iret dX6_likely_227 rfl rfl ?_ ?_
      all_goals (first | with_reducible rfl | (first | (rw [pk_lDiv (by omega) hg (by omega), lN_i]; simp_all [q_endl, q_ls]; done) | (rw [q_ls, q_endl])))
    · refine sw_lload dX6_likely_213 rfl ?_
      refine sw_lload dX6_likely_215 rfl ?_
      refine sw_ldiv dX6_likely_217 hg0 ?_
      refine sw_goto (tgt := 226) dX6_likely_218 (by decide) ?_
      refine sw_l2i dX6_likely_226 ?_
      refine sw_iret dX6_likely_227 rfl rfl ?_ ?_
      all_goals (first | with_reducible rfl | (first | (rw [pk_lDiv (by omega) hg (by omega), lN_i]; simp_all [q_endl, q_ls]; done) | (rw [q_ls, q_endl])))
  | succ m ih =>
    intro d s τ h1 hs hP hS
    have h2n : 2 ^ n ≤ 2 ^ 7 := Nat.pow_le_pow_right (by decide) (by omega)
    have hdW : d * W ≤ 128 * W := Nat.mul_le_mul_right _ (by omega)
    have hle : (q_li1 np nc n x d τ).1 ≤ W := by have := q_li_le (np := np) (nc := nc) (d := d) (f := q_lays τ 126 0 110 10) hx n 0 1 (q_lays τ 126 0); rw [Nat.one_mul, ← hW] at this; exact this
    refine sw_iload dX6_likely_63 rfl ?_
    refine sw_iconst (v := 1) dX6_likely_65 (by decide) ?_
    refine sw_iload_n dX6_likely_66 rfl ?_
    refine sw_ishl dX6_likely_67 ?_
    refine sw_top (y := nI (2 ^ n)) (q_sh1 n hn) ?_
    refine sw_icmp_ge (tgt := 200) dX6_likely_68 (by decide) (fun h => absurd h ((fun h => absurd ((nI_leI (by omega) (by omega)).mp h) (by omega)))) (fun _ => ?_)
    refine sw_lconst (v := 1) dX6_likely_71 (by decide) ?_
    refine sw_lstore dX6_likely_72 (by decide) rfl ?_
    refine sw_aload_n dX6_likely_74 rfl ?_
    refine sw_callV dX6_likely_75 lV_X6_209 (c_q_puts) rfl rfl rfl rfl (Nat.le_of_ble_eq_true rfl) (Nat.le_of_ble_eq_true rfl) ?_
    refine sw_aload_n dX6_likely_78 rfl ?_
    refine sw_getI dX6_likely_79 fl_X6_74 rfl rfl ?_
    refine sw_istore dX6_likely_82 (by decide) rfl ?_
    refine sw_aload_n dX6_likely_84 rfl ?_
    refine sw_getI dX6_likely_85 fl_X6_61 rfl rfl ?_
    refine sw_istore dX6_likely_88 (by decide) rfl ?_
    refine sw_aload_n dX6_likely_90 rfl ?_
    refine sw_getI dX6_likely_91 fl_X6_65 rfl rfl ?_
    refine sw_istore dX6_likely_94 (by decide) rfl ?_
    refine sw_iconst (v := 0) dX6_likely_96 (by decide) ?_
    refine sw_istore dX6_likely_97 (by decide) rfl ?_
    have e0 : q_li np nc d x (q_lays τ 126 0 110 10) n 0 1 (q_lays τ 126 0) = (q_li1 np nc n x d τ) := by rw [q_li1]
    refine sw_lv (l_p_lik3 hn hx n 0 1 (q_lays τ 126 0) (by omega) (q_lays_P (by decide) hP) (q_lays_S (by decide) hS) ?_) (And.intro rfl (And.intro rfl (And.intro rfl (And.intro rfl (And.intro rfl (And.intro rfl (And.intro rfl (And.intro rfl (And.intro rfl (And.intro rfl (And.intro rfl (And.intro rfl trivial))))))))))))
    rw [e0]
    refine sw_lload dX6_likely_161 rfl ?_
    refine sw_aload_n dX6_likely_163 rfl ?_
    refine sw_getI dX6_likely_164 fl_X6_61 rfl rfl ?_
    refine sw_iload dX6_likely_167 rfl ?_
    refine sw_icmp_ne (tgt := 186) dX6_likely_169 (by decide) (fun h169 => ?_) (fun h169 => ?_)
    · refine sw_lconst (v := 0) dX6_likely_186 (by decide) ?_
      refine sw_ladd dX6_likely_187 ?_
      refine sw_lstore dX6_likely_188 (by decide) rfl ?_
      refine sw_aload_n dX6_likely_190 rfl ?_
      refine sw_callV dX6_likely_191 lV_X6_216 (c_q_back) rfl rfl rfl rfl (Nat.le_of_ble_eq_true rfl) (Nat.le_of_ble_eq_true rfl) ?_
      refine sw_st (σ2 := q_li2 np nc n x d τ) (by rw [q_li2]) ?_
      refine sw_iinc dX6_likely_194 rfl rfl (by decide) rfl ?_
      refine sw_goto (tgt := 63) dX6_likely_197 (by decide) ?_
      rw [q_ls, if_neg (fun hh => h169 hh.1)]
      refine sw_lv (ih (d + 1) _ _ (by omega) (by rw [Nat.succ_mul]; omega) ⟨by rw [q_li2_o (by decide), q_li2_o (by decide)]; exact hP.1, hP.2⟩ ⟨by rw [q_li2_o (by decide), q_li2_o (by decide)]; exact hS.1, hS.2⟩) (And.intro rfl (And.intro rfl (And.intro rfl (And.intro rfl (And.intro (sm_el rfl ?_) (And.intro rfl (And.intro (sm_e rfl ?_) trivial)))))))
      all_goals (first | (rw [sm_i1, nI_succ]; done) | (rw [lN_add]; done) | (rw [show (0 : Int64) = lN 0 from rfl, lN_add]))
    · refine sw_aload_n dX6_likely_172 rfl ?_
      refine sw_getI dX6_likely_173 fl_X6_65 rfl rfl ?_
      refine sw_iload dX6_likely_176 rfl ?_
      refine sw_icmp_ne (tgt := 186) dX6_likely_178 (by decide) (fun h178 => ?_) (fun h178 => ?_)
      · refine sw_lconst (v := 0) dX6_likely_186 (by decide) ?_
        refine sw_ladd dX6_likely_187 ?_
        refine sw_lstore dX6_likely_188 (by decide) rfl ?_
        refine sw_aload_n dX6_likely_190 rfl ?_
        refine sw_callV dX6_likely_191 lV_X6_216 (c_q_back) rfl rfl rfl rfl (Nat.le_of_ble_eq_true rfl) (Nat.le_of_ble_eq_true rfl) ?_
        refine sw_st (σ2 := q_li2 np nc n x d τ) (by rw [q_li2]) ?_
        refine sw_iinc dX6_likely_194 rfl rfl (by decide) rfl ?_
        refine sw_goto (tgt := 63) dX6_likely_197 (by decide) ?_
        rw [q_ls, if_neg (fun hh => h178 hh.2)]
        refine sw_lv (ih (d + 1) _ _ (by omega) (by rw [Nat.succ_mul]; omega) ⟨by rw [q_li2_o (by decide), q_li2_o (by decide)]; exact hP.1, hP.2⟩ ⟨by rw [q_li2_o (by decide), q_li2_o (by decide)]; exact hS.1, hS.2⟩) (And.intro rfl (And.intro rfl (And.intro rfl (And.intro rfl (And.intro (sm_el rfl ?_) (And.intro rfl (And.intro (sm_e rfl ?_) trivial)))))))
        all_goals (first | (rw [sm_i1, nI_succ]; done) | (rw [lN_add]; done) | (rw [show (0 : Int64) = lN 0 from rfl, lN_add]))
      · refine sw_lload dX6_likely_181 rfl ?_
        refine sw_goto (tgt := 187) dX6_likely_183 (by decide) ?_
        refine sw_ladd dX6_likely_187 ?_
        refine sw_lstore dX6_likely_188 (by decide) rfl ?_
        refine sw_aload_n dX6_likely_190 rfl ?_
        refine sw_callV dX6_likely_191 lV_X6_216 (c_q_back) rfl rfl rfl rfl (Nat.le_of_ble_eq_true rfl) (Nat.le_of_ble_eq_true rfl) ?_
        refine sw_st (σ2 := q_li2 np nc n x d τ) (by rw [q_li2]) ?_
        refine sw_iinc dX6_likely_194 rfl rfl (by decide) rfl ?_
        refine sw_goto (tgt := 63) dX6_likely_197 (by decide) ?_
        rw [q_ls, if_pos ⟨h169, h178⟩]
        refine sw_lv (ih (d + 1) _ _ (by omega) (Nat.le_trans (Nat.add_le_add_left hle _) (by rw [Nat.succ_mul]; omega)) ⟨by rw [q_li2_o (by decide), q_li2_o (by decide)]; exact hP.1, hP.2⟩ ⟨by rw [q_li2_o (by decide), q_li2_o (by decide)]; exact hS.1, hS.2⟩) (And.intro rfl (And.intro rfl (And.intro rfl (And.intro rfl (And.intro (sm_el rfl ?_) (And.intro rfl (And.intro (sm_e rfl ?_) trivial)))))))
        all_goals (first | (rw [sm_i1, nI_succ]; done) | (rw [lN_add]; done) | (rw [show (0 : Int64) = lN 0 from rfl, lN_add]))

set_option maxHeartbeats 2000000 in
theorem c_p_likely {σ : sm_St} {np : Nat} (hN : q_N σ np) {nc : Nat} (hC : q_C σ nc) (h0 : q_0 σ) (t x w : Int32) : sm_C yX6_likely cX6_likely 15 (some .int) 10 [.ref 110, .int t, .int x, .int w] σ (some (.int ((p_likely σ np nc t x w).1))) (p_likely σ np nc t x w).2 := by
  refine sm_C.of (own := RX6) (by decide) rfl (Nat.le_of_ble_eq_true rfl) ?_
  have hP := q_P_of hN h0
  have hS := q_S_of hC h0
  show sm_W RX6 cX6_likely 15 (some .int) 10 (some (.int ((p_likely σ np nc t x w).1))) (p_likely σ np nc t x w).2 0 [(0, .ref 110), (1, .int t), (2, .int x), (3, .int w)] [] σ
  refine sw_iload_n dX6_likely_0 rfl ?_
  refine sw_iconst (v := 0) dX6_likely_1 (by decide) ?_
  refine sw_bipush (v := 7) dX6_likely_2 (by decide) ?_
  refine sw_callS dX6_likely_4 lS_X6_94 (c_q_in _ _ _) rfl rfl (Nat.le_of_ble_eq_true rfl) (Nat.le_of_ble_eq_true rfl) ?_
  refine sw_if_eq (tgt := 29) dX6_likely_7 (by decide) (fun h7 => ?_) (fun h7 => ?_)
  · refine sw_iconst (v := -1) dX6_likely_29 (by decide) ?_
    refine sw_iret dX6_likely_30 rfl rfl ?_ ?_
    all_goals (first | with_reducible rfl | (simp_all [-Int32.not_lt, -Int32.not_le, sm_b_e0, sm_b_e1, sm_b_0e, sm_b_1e, p_likely]))
  · refine sw_iload_n dX6_likely_10 rfl ?_
    refine sw_iconst (v := 0) dX6_likely_11 (by decide) ?_
    refine sw_bipush (v := 10) dX6_likely_12 (by decide) ?_
    refine sw_callS dX6_likely_14 lS_X6_94 (c_q_in _ _ _) rfl rfl (Nat.le_of_ble_eq_true rfl) (Nat.le_of_ble_eq_true rfl) ?_
    refine sw_if_eq (tgt := 29) dX6_likely_17 (by decide) (fun h17 => ?_) (fun h17 => ?_)
    · refine sw_iconst (v := -1) dX6_likely_29 (by decide) ?_
      refine sw_iret dX6_likely_30 rfl rfl ?_ ?_
      all_goals (first | with_reducible rfl | (simp_all [-Int32.not_lt, -Int32.not_le, sm_b_e0, sm_b_e1, sm_b_0e, sm_b_1e, p_likely]))
    · refine sw_iload_n dX6_likely_20 rfl ?_
      refine sw_iconst (v := 0) dX6_likely_21 (by decide) ?_
      refine sw_iconst (v := 1) dX6_likely_22 (by decide) ?_
      refine sw_callS dX6_likely_23 lS_X6_94 (c_q_in _ _ _) rfl rfl (Nat.le_of_ble_eq_true rfl) (Nat.le_of_ble_eq_true rfl) ?_
      refine sw_if_ne (tgt := 31) dX6_likely_26 (by decide) (fun h26 => ?_) (fun h26 => ?_)
      · refine sw_lconst (v := 0) dX6_likely_31 (by decide) ?_
        refine sw_lstore dX6_likely_32 (by decide) rfl ?_
        refine sw_lconst (v := 1) dX6_likely_34 (by decide) ?_
        refine sw_lstore dX6_likely_35 (by decide) rfl ?_
        refine sw_iconst (v := 0) dX6_likely_37 (by decide) ?_
        refine sw_istore dX6_likely_38 (by decide) rfl ?_
        obtain ⟨n, hn, rfl⟩ := sm_win_nI (m := 7) rfl (by decide) (sm_b_t h7)
        obtain ⟨xx, hx, rfl⟩ := sm_win_nI (m := 10) rfl (by decide) (sm_b_t h17)
        have e : p_likely σ np nc (nI n) (nI xx) w = q_endl w (10 ^ n) (q_ls np nc n xx (2 ^ n) 0 0 σ) := by rw [p_likely, if_pos ⟨sm_b_t h7, sm_b_t h17, sm_b_t h26⟩, nI_clamp (by omega), nI_clamp (by omega)]
        rw [e]
        refine sw_lv (l_p_lik1 (by omega) n 0 (by omega) ?_) (And.intro rfl (And.intro rfl (And.intro rfl (And.intro rfl (And.intro rfl (And.intro rfl (And.intro rfl trivial)))))))
        refine sw_iconst (v := 0) dX6_likely_60 (by decide) ?_
        refine sw_istore dX6_likely_61 (by decide) rfl ?_
        have hW7 : 10 ^ n ≤ 10 ^ 7 := Nat.pow_le_pow_right (by decide) hn
        refine sw_lv (l_p_lik2 (by omega) hx rfl (by omega) (Nat.pow_pos (by decide)) (2 ^ n) 0 0 σ (by omega) (by omega) hP hS) (And.intro rfl (And.intro rfl (And.intro rfl (And.intro rfl (And.intro rfl (And.intro rfl (And.intro rfl trivial)))))))
      · refine sw_iconst (v := -1) dX6_likely_29 (by decide) ?_
        refine sw_iret dX6_likely_30 rfl rfl ?_ ?_
        all_goals (first | with_reducible rfl | (simp_all [-Int32.not_lt, -Int32.not_le, sm_b_e0, sm_b_e1, sm_b_0e, sm_b_1e, p_likely]))

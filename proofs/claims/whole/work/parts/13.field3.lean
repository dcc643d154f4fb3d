theorem r_set_off {σ : sm_St} {k n q : Nat} {i v : Int32} (h : q ≠ k) : r_set σ k n i v q = σ q := by
  unfold r_set
  split
  · exact sm_set_off h
  · rfl
theorem sm_lt_clamp {x : Int32} {i : Nat} (h1 : 1 ≤ i) (hi : i < 2 ^ 31) : x < nI i ↔ x.toNatClampNeg < i := by
  rw [Int32.lt_iff_toInt_lt, nI_toInt hi]
  show x.toInt < i ↔ x.toInt.toNat < i
  omega
def g_addP (σ : sm_St) (k : Nat) (x y s : Int32) : sm_St := if nI 6 ≤ σ k 6 then σ else sm_set (r_set (r_set (r_set (r_set σ (k + 1) 6 (σ k 6) x) (k + 2) 6 (σ k 6) y) (k + 3) 6 (σ k 6) s) (k + 4) 6 (σ k 6) 0) k 6 (σ k 6 + 1)
def g_addS (σ : sm_St) (k : Nat) (a s n : Int32) : sm_St := if nI 8 ≤ σ k 7 then σ else sm_set (r_set (r_set (r_set σ (k + 5) 8 (σ k 7) a) (k + 6) 8 (σ k 7) s) (k + 7) 8 (σ k 7) n) k 7 (σ k 7 + 1)

set_option maxHeartbeats 4000000 in
theorem c_addPost {σ : sm_St} {k : Nat} (hk : sm_isF k) (x y s : Int32) : sm_C yX0_addPost cX0_addPost 4 none 3 [.ref k, .int x, .int y, .int s] σ none (g_addP σ k x y s) := by
  refine sm_C.of (own := RX0) (by decide) rfl (Nat.le_of_ble_eq_true rfl) ?_
  show sm_W RX0 cX0_addPost 4 none 3 none (g_addP σ k x y s) 0 [(0, .ref k), (1, .int x), (2, .int y), (3, .int s)] [] σ
  refine sw_aload_n dX0_addPost_0 rfl ?_
  refine sw_getI dX0_addPost_1 fl_X0_52 (sm_Fo hk) rfl ?_
  refine sw_aload_n dX0_addPost_4 rfl ?_
  refine sw_getR (j := k + 1) dX0_addPost_5 fl_X0_9 (sm_Fo hk) rfl ?_
  refine sw_alen dX0_addPost_8 (sm_Fa1 hk) ?_
  refine sw_icmp_ge (tgt := 45) dX0_addPost_9 (by decide) (fun h9 => ?_) (fun h9 => ?_)
  · refine sw_vret dX0_addPost_45 rfl rfl ?_
    all_goals (first | with_reducible rfl | (first | (rw [g_addP, if_pos h9]) | (rw [g_addP, if_neg h9]; simp [r_set_off])))
  · refine sw_aload_n dX0_addPost_12 rfl ?_
    refine sw_aload_n dX0_addPost_13 rfl ?_
    refine sw_getI dX0_addPost_14 fl_X0_52 (sm_Fo hk) rfl ?_
    refine sw_iload_n dX0_addPost_17 rfl ?_
    refine sw_iload_n dX0_addPost_18 rfl ?_
    refine sw_iload_n dX0_addPost_19 rfl ?_
    refine sw_callV dX0_addPost_20 lV_X0_64 (c_changePost (k := k) hk _ _ _ _) (sm_Fo hk) rfl rfl rfl (Nat.le_of_ble_eq_true rfl) (Nat.le_of_ble_eq_true rfl) ?_
    refine sw_aload_n dX0_addPost_23 rfl ?_
    refine sw_getR (j := k + 4) dX0_addPost_24 fl_X0_21 (sm_Fo hk) rfl ?_
    refine sw_aload_n dX0_addPost_27 rfl ?_
    refine sw_getI dX0_addPost_28 fl_X0_52 (sm_Fo hk) rfl ?_
    refine sw_top (y := σ k 6) (by simp [r_set_off]) ?_
    refine sw_iconst (v := 0) dX0_addPost_31 (by decide) ?_
    refine sw_callS dX0_addPost_32 lS_X0_68 (c_set (k := k + 4) (sm_Fa4 hk) _ _) rfl rfl (Nat.le_of_ble_eq_true rfl) (Nat.le_of_ble_eq_true rfl) ?_
    refine sw_aload_n dX0_addPost_35 rfl ?_
    refine sw_dup dX0_addPost_36 rfl ?_
    refine sw_getI dX0_addPost_37 fl_X0_52 (sm_Fo hk) rfl ?_
    refine sw_iconst (v := 1) dX0_addPost_40 (by decide) ?_
    refine sw_iadd dX0_addPost_41 ?_
    refine sw_put dX0_addPost_42 fl_X0_52 fi_0_6 (sm_Fo hk) rfl ?_
    refine sw_vret dX0_addPost_45 rfl rfl ?_
    all_goals (first | with_reducible rfl | (first | (rw [g_addP, if_pos h9]) | (rw [g_addP, if_neg h9]; simp [r_set_off])))

set_option maxHeartbeats 4000000 in
theorem c_addSailor {σ : sm_St} {k : Nat} (hk : sm_isF k) (a s n : Int32) : sm_C yX0_addSailor cX0_addSailor 4 none 3 [.ref k, .int a, .int s, .int n] σ none (g_addS σ k a s n) := by
  refine sm_C.of (own := RX0) (by decide) rfl (Nat.le_of_ble_eq_true rfl) ?_
  show sm_W RX0 cX0_addSailor 4 none 3 none (g_addS σ k a s n) 0 [(0, .ref k), (1, .int a), (2, .int s), (3, .int n)] [] σ
  refine sw_aload_n dX0_addSailor_0 rfl ?_
  refine sw_getI dX0_addSailor_1 fl_X0_55 (sm_Fo hk) rfl ?_
  refine sw_aload_n dX0_addSailor_4 rfl ?_
  refine sw_getR (j := k + 5) dX0_addSailor_5 fl_X0_24 (sm_Fo hk) rfl ?_
  refine sw_alen dX0_addSailor_8 (sm_Fa5 hk) ?_
  refine sw_icmp_ge (tgt := 58) dX0_addSailor_9 (by decide) (fun h9 => ?_) (fun h9 => ?_)
  · refine sw_vret dX0_addSailor_58 rfl rfl ?_
    all_goals (first | with_reducible rfl | (first | (rw [g_addS, if_pos h9]) | (rw [g_addS, if_neg h9]; simp [r_set_off])))
  · refine sw_aload_n dX0_addSailor_12 rfl ?_
    refine sw_getR (j := k + 5) dX0_addSailor_13 fl_X0_24 (sm_Fo hk) rfl ?_
    refine sw_aload_n dX0_addSailor_16 rfl ?_
    refine sw_getI dX0_addSailor_17 fl_X0_55 (sm_Fo hk) rfl ?_
    refine sw_iload_n dX0_addSailor_20 rfl ?_
    refine sw_callS dX0_addSailor_21 lS_X0_68 (c_set (k := k + 5) (sm_Fa5 hk) _ _) rfl rfl (Nat.le_of_ble_eq_true rfl) (Nat.le_of_ble_eq_true rfl) ?_
    refine sw_aload_n dX0_addSailor_24 rfl ?_
    refine sw_getR (j := k + 6) dX0_addSailor_25 fl_X0_27 (sm_Fo hk) rfl ?_
    refine sw_aload_n dX0_addSailor_28 rfl ?_
    refine sw_getI dX0_addSailor_29 fl_X0_55 (sm_Fo hk) rfl ?_
    refine sw_iload_n dX0_addSailor_32 rfl ?_
    refine sw_callS dX0_addSailor_33 lS_X0_68 (c_set (k := k + 6) (sm_Fa6 hk) _ _) rfl rfl (Nat.le_of_ble_eq_true rfl) (Nat.le_of_ble_eq_true rfl) ?_
    refine sw_aload_n dX0_addSailor_36 rfl ?_
    refine sw_getR (j := k + 7) dX0_addSailor_37 fl_X0_30 (sm_Fo hk) rfl ?_
    refine sw_aload_n dX0_addSailor_40 rfl ?_
    refine sw_getI dX0_addSailor_41 fl_X0_55 (sm_Fo hk) rfl ?_
    refine sw_iload_n dX0_addSailor_44 rfl ?_
    refine sw_callS dX0_addSailor_45 lS_X0_68 (c_set (k := k + 7) (sm_Fa7 hk) _ _) rfl rfl (Nat.le_of_ble_eq_true rfl) (Nat.le_of_ble_eq_true rfl) ?_
    refine sw_aload_n dX0_addSailor_48 rfl ?_
    refine sw_dup dX0_addSailor_49 rfl ?_
    refine sw_getI dX0_addSailor_50 fl_X0_55 (sm_Fo hk) rfl ?_
    refine sw_iconst (v := 1) dX0_addSailor_53 (by decide) ?_
    refine sw_iadd dX0_addSailor_54 ?_
    refine sw_put dX0_addSailor_55 fl_X0_55 fi_0_7 (sm_Fo hk) rfl ?_
    refine sw_vret dX0_addSailor_58 rfl rfl ?_
    all_goals (first | with_reducible rfl | (first | (rw [g_addS, if_pos h9]) | (rw [g_addS, if_neg h9]; simp [r_set_off])))

def f_stand (V : Nat → Nat → Int32) : Nat → Int32
  | 0 => 0
  | p + 1 => if r_at (V 4) 6 (nI p) = 0 then f_stand V p ||| (1 <<< (nI p &&& 31)) else f_stand V p

set_option maxHeartbeats 4000000 in
theorem l_standing {σ : sm_St} {k : Nat} (hk : sm_isF k) : ∀ n i : Nat, (σ k 6).toNatClampNeg - i < n → i ≤ (σ k 6).toNatClampNeg → sm_W RX0 cX0_standingPosts 3 (some .int) 3 (some (.int (f_stand (sm_V σ k) (σ k 6).toNatClampNeg))) σ 4 [(0, .ref k), (1, .int (f_stand (sm_V σ k) i)), (2, .int (nI i))] [] σ := by
  intro n
  induction n with
  | zero => intro i h1 h2; omega
  | succ n ih =>
    intro i h1 h2
    have hib : i < 2 ^ 31 := Nat.lt_of_le_of_lt h2 (sm_clamp_lt _)
    refine sw_iload_n dX0_standingPosts_4 rfl ?_
    refine sw_aload_n dX0_standingPosts_5 rfl ?_
    refine sw_getI dX0_standingPosts_6 fl_X0_52 (sm_Fo hk) rfl ?_
    refine sw_icmp_ge (tgt := 35) dX0_standingPosts_9 (by decide) (fun h9 => ?_) (fun h9 => ?_)
    · have hge : (σ k 6).toNatClampNeg ≤ i := (sm_le_clamp hib).mp h9
      refine sw_iload_n dX0_standingPosts_35 rfl ?_
      refine sw_iret dX0_standingPosts_36 rfl rfl ?_ ?_
      all_goals (first | with_reducible rfl | (rw [show i = (σ k 6).toNatClampNeg by omega]))
    · have hlt : i < (σ k 6).toNatClampNeg := by rw [sm_le_clamp hib] at h9; omega
      refine sw_aload_n dX0_standingPosts_12 rfl ?_
      refine sw_getR (j := k + 4) dX0_standingPosts_13 fl_X0_21 (sm_Fo hk) rfl ?_
      refine sw_iload_n dX0_standingPosts_16 rfl ?_
      refine sw_callS dX0_standingPosts_17 lS_X0_72 (c_at (sm_Fa4 hk) _) rfl rfl (Nat.le_of_ble_eq_true rfl) (Nat.le_of_ble_eq_true rfl) ?_
      refine sw_if_ne (tgt := 29) dX0_standingPosts_20 (by decide) (fun h20 => ?_) (fun h20 => ?_)
      · refine sw_iinc dX0_standingPosts_29 rfl rfl (by decide) rfl ?_
        refine sw_goto (tgt := 4) dX0_standingPosts_32 (by decide) ?_
        refine sw_lv (ih (i + 1) (by omega) (by omega)) (And.intro rfl (And.intro (sm_e rfl ?_) (And.intro (sm_e rfl ?_) trivial)))
        all_goals (first | (rw [sm_i1, nI_succ]; done) | (show _ = (if r_at (σ (k + 4)) 6 (nI i) = 0 then _ else _); first | rw [if_pos h20] | rw [if_neg h20]))
      · refine sw_iload_n dX0_standingPosts_23 rfl ?_
        refine sw_iconst (v := 1) dX0_standingPosts_24 (by decide) ?_
        refine sw_iload_n dX0_standingPosts_25 rfl ?_
        refine sw_ishl dX0_standingPosts_26 ?_
        refine sw_ior dX0_standingPosts_27 ?_
        refine sw_istore_n dX0_standingPosts_28 (by decide) rfl ?_
        refine sw_iinc dX0_standingPosts_29 rfl rfl (by decide) rfl ?_
        refine sw_goto (tgt := 4) dX0_standingPosts_32 (by decide) ?_
        refine sw_lv (ih (i + 1) (by omega) (by omega)) (And.intro rfl (And.intro (sm_e rfl ?_) (And.intro (sm_e rfl ?_) trivial)))
        all_goals (first | (rw [sm_i1, nI_succ]; done) | (show _ = (if r_at (σ (k + 4)) 6 (nI i) = 0 then _ else _); first | rw [if_pos h20] | rw [if_neg h20]))

set_option maxHeartbeats 4000000 in
theorem c_standingPosts {σ : sm_St} {k : Nat} (hk : sm_isF k) : sm_C yX0_standingPosts cX0_standingPosts 3 (some .int) 3 [.ref k] σ (some (.int (f_stand (sm_V σ k) (σ k 6).toNatClampNeg))) σ := by
  refine sm_C.of (own := RX0) (by decide) rfl (Nat.le_of_ble_eq_true rfl) ?_
  show sm_W RX0 cX0_standingPosts 3 (some .int) 3 (some (.int (f_stand (sm_V σ k) (σ k 6).toNatClampNeg))) σ 0 [(0, .ref k)] [] σ
  refine sw_iconst (v := 0) dX0_standingPosts_0 (by decide) ?_
  refine sw_istore_n dX0_standingPosts_1 (by decide) rfl ?_
  refine sw_iconst (v := 0) dX0_standingPosts_2 (by decide) ?_
  refine sw_istore_n dX0_standingPosts_3 (by decide) rfl ?_
  refine sw_lv (l_standing hk _ 0 (Nat.lt_succ_self _) (Nat.zero_le _)) (And.intro rfl (And.intro (sm_e rfl ?_) (And.intro (sm_e rfl ?_) trivial)))
  all_goals (rfl)

def u_sh (x s : Int32) : Int32 := (x.toUInt32 >>> (s.toUInt32 &&& Int32.toUInt32 31)).toInt32
def f_bc1 (x : Int32) : Int32 := x - (u_sh x 1 &&& 1431655765)
def f_bc2 (x : Int32) : Int32 := (x &&& 858993459) + (u_sh x 2 &&& 858993459)
def f_bc3 (x : Int32) : Int32 := (x + u_sh x 4) &&& 252645135
def f_bc4 (x : Int32) : Int32 := x + u_sh x 8
def f_bc5 (x : Int32) : Int32 := x + u_sh x 16
def f_bc (x : Int32) : Int32 := f_bc5 (f_bc4 (f_bc3 (f_bc2 (f_bc1 x)))) &&& 63

set_option maxHeartbeats 4000000 in
theorem c_bitCount {σ : sm_St} (x : Int32) : sm_C yJ6_bitCount_0f7a4 cJ6_bitCount_0f7a4 1 (some .int) 0 [.int x] σ (some (.int (f_bc x))) σ := by
  refine sm_C.of (own := RJ6) (by decide) rfl (Nat.le_of_ble_eq_true rfl) ?_
  show sm_W RJ6 cJ6_bitCount_0f7a4 1 (some .int) 0 (some (.int (f_bc x))) σ 0 [(0, .int x)] [] σ
  refine sw_iload_n dJ6_bitCount_0f7a4_0 rfl ?_
  refine sw_iload_n dJ6_bitCount_0f7a4_1 rfl ?_
  refine sw_iconst (v := 1) dJ6_bitCount_0f7a4_2 (by decide) ?_
  refine sw_iushr dJ6_bitCount_0f7a4_3 ?_
  refine sw_ldcw dJ6_bitCount_0f7a4_4 kc_J6_265 ?_
  refine sw_iand dJ6_bitCount_0f7a4_7 ?_
  refine sw_isub dJ6_bitCount_0f7a4_8 ?_
  refine sw_top (y := f_bc1 x) rfl ?_
  refine sw_istore_n dJ6_bitCount_0f7a4_9 (by decide) rfl ?_
  refine sw_iload_n dJ6_bitCount_0f7a4_10 rfl ?_
  refine sw_ldcw dJ6_bitCount_0f7a4_11 kc_J6_266 ?_
  refine sw_iand dJ6_bitCount_0f7a4_14 ?_
  refine sw_iload_n dJ6_bitCount_0f7a4_15 rfl ?_
  refine sw_iconst (v := 2) dJ6_bitCount_0f7a4_16 (by decide) ?_
  refine sw_iushr dJ6_bitCount_0f7a4_17 ?_
  refine sw_ldcw dJ6_bitCount_0f7a4_18 kc_J6_266 ?_
  refine sw_iand dJ6_bitCount_0f7a4_21 ?_
  refine sw_iadd dJ6_bitCount_0f7a4_22 ?_
  refine sw_top (y := f_bc2 (f_bc1 x)) rfl ?_
  refine sw_istore_n dJ6_bitCount_0f7a4_23 (by decide) rfl ?_
  refine sw_iload_n dJ6_bitCount_0f7a4_24 rfl ?_
  refine sw_iload_n dJ6_bitCount_0f7a4_25 rfl ?_
  refine sw_iconst (v := 4) dJ6_bitCount_0f7a4_26 (by decide) ?_
  refine sw_iushr dJ6_bitCount_0f7a4_27 ?_
  refine sw_iadd dJ6_bitCount_0f7a4_28 ?_
  refine sw_ldcw dJ6_bitCount_0f7a4_29 kc_J6_267 ?_
  refine sw_iand dJ6_bitCount_0f7a4_32 ?_
  refine sw_top (y := f_bc3 (f_bc2 (f_bc1 x))) rfl ?_
  refine sw_istore_n dJ6_bitCount_0f7a4_33 (by decide) rfl ?_
  refine sw_iload_n dJ6_bitCount_0f7a4_34 rfl ?_
  refine sw_iload_n dJ6_bitCount_0f7a4_35 rfl ?_
  refine sw_bipush (v := 8) dJ6_bitCount_0f7a4_36 (by decide) ?_
  refine sw_iushr dJ6_bitCount_0f7a4_38 ?_
  refine sw_iadd dJ6_bitCount_0f7a4_39 ?_
  refine sw_top (y := f_bc4 (f_bc3 (f_bc2 (f_bc1 x)))) rfl ?_
  refine sw_istore_n dJ6_bitCount_0f7a4_40 (by decide) rfl ?_
  refine sw_iload_n dJ6_bitCount_0f7a4_41 rfl ?_
  refine sw_iload_n dJ6_bitCount_0f7a4_42 rfl ?_
  refine sw_bipush (v := 16) dJ6_bitCount_0f7a4_43 (by decide) ?_
  refine sw_iushr dJ6_bitCount_0f7a4_45 ?_
  refine sw_iadd dJ6_bitCount_0f7a4_46 ?_
  refine sw_top (y := f_bc5 (f_bc4 (f_bc3 (f_bc2 (f_bc1 x))))) rfl ?_
  refine sw_istore_n dJ6_bitCount_0f7a4_47 (by decide) rfl ?_
  refine sw_iload_n dJ6_bitCount_0f7a4_48 rfl ?_
  refine sw_bipush (v := 63) dJ6_bitCount_0f7a4_49 (by decide) ?_
  refine sw_iand dJ6_bitCount_0f7a4_51 ?_
  refine sw_iret dJ6_bitCount_0f7a4_52 rfl rfl ?_ ?_
  all_goals (first | with_reducible rfl | (rfl))

/-- n hours more, from the hour h on, until it is at x, y; 0 if it isn't in them or goes round -/
def g_hT (k : Nat) (x y : Int32) : Nat → Int32 → Int32 → Int32 → sm_St → Int32 × sm_St
  | 0, _, _, _, σ => (0, σ)
  | n + 1, h, mx, my, σ => if f_isAt (sm_V (g_hour σ k) k) x y = true then (h, g_hour σ k) else if f_isAt (sm_V (g_hour σ k) k) mx my = true then (0, g_hour σ k) else
      if f_bc h = 1 then g_hT k x y n (h + 1) (g_hour σ k k 0) (g_hour σ k k 1) (g_hour σ k) else g_hT k x y n (h + 1) mx my (g_hour σ k)

set_option maxHeartbeats 4000000 in
theorem l_hoursTo {k : Nat} (hk : sm_isF k) {x y m : Int32} (hm : m.toNatClampNeg < 1000) : ∀ (n i : Nat) (mx my : Int32) (τ : sm_St), 1 ≤ i → i + n = m.toNatClampNeg + 1 → sm_W RX0 cX0_hoursTo 7 (some .int) 6 (some (.int (g_hT k x y n (nI i) mx my τ).1)) (g_hT k x y n (nI i) mx my τ).2 15 [(0, .ref k), (1, .int x), (2, .int y), (3, .int m), (4, .int mx), (5, .int my), (6, .int (nI i))] [] τ := by
  intro n
  induction n with
  | zero =>
    intro i mx my τ h1 h2
    refine sw_iload dX0_hoursTo_15 rfl ?_
    refine sw_iload_n dX0_hoursTo_17 rfl ?_
    refine sw_icmp_gt (tgt := 79) dX0_hoursTo_18 (by decide) (fun _ => ?_) (fun h => absurd ((sm_lt_clamp h1 (by omega)).mpr (by omega)) h)
    refine sw_iconst (v := 0) dX0_hoursTo_79 (by decide) ?_
    refine sw_iret dX0_hoursTo_80 rfl rfl ?_ ?_
    all_goals (first | with_reducible rfl | (rfl))
  | succ n ih =>
    intro i mx my τ h1 h2
    refine sw_iload dX0_hoursTo_15 rfl ?_
    refine sw_iload_n dX0_hoursTo_17 rfl ?_
    refine sw_icmp_gt (tgt := 79) dX0_hoursTo_18 (by decide) (fun h => absurd h ((fun h => absurd ((sm_lt_clamp h1 (by omega)).mp h) (by omega)))) (fun _ => ?_)
    refine sw_aload_n dX0_hoursTo_21 rfl ?_
    refine sw_iconst (v := 1) dX0_hoursTo_22 (by decide) ?_
    refine sw_callV dX0_hoursTo_23 lV_X0_129 (c_goHours (k := k) hk _) (sm_Fo hk) rfl rfl rfl (Nat.le_of_ble_eq_true rfl) (Nat.le_of_ble_eq_true rfl) ?_
    refine sw_st (σ2 := g_hour τ k) rfl ?_
    refine sw_pop dX0_hoursTo_26 rfl ?_
    refine sw_aload_n dX0_hoursTo_27 rfl ?_
    refine sw_iload_n dX0_hoursTo_28 rfl ?_
    refine sw_iload_n dX0_hoursTo_29 rfl ?_
    refine sw_callV dX0_hoursTo_30 lV_X0_132 (c_isShipAt (k := k) hk _ _) (sm_Fo hk) rfl rfl rfl (Nat.le_of_ble_eq_true rfl) (Nat.le_of_ble_eq_true rfl) ?_
    refine sw_if_eq (tgt := 39) dX0_hoursTo_33 (by decide) (fun h33 => ?_) (fun h33 => ?_)
    · refine sw_aload_n dX0_hoursTo_39 rfl ?_
      refine sw_iload dX0_hoursTo_40 rfl ?_
      refine sw_iload dX0_hoursTo_42 rfl ?_
      refine sw_callV dX0_hoursTo_44 lV_X0_132 (c_isShipAt (k := k) hk _ _) (sm_Fo hk) rfl rfl rfl (Nat.le_of_ble_eq_true rfl) (Nat.le_of_ble_eq_true rfl) ?_
      refine sw_if_eq (tgt := 52) dX0_hoursTo_47 (by decide) (fun h47 => ?_) (fun h47 => ?_)
      · refine sw_iload dX0_hoursTo_52 rfl ?_
        refine sw_callS dX0_hoursTo_54 lS_X0_135 (c_bitCount _) rfl rfl (Nat.le_of_ble_eq_true rfl) (Nat.le_of_ble_eq_true rfl) ?_
        refine sw_iconst (v := 1) dX0_hoursTo_57 (by decide) ?_
        refine sw_icmp_ne (tgt := 73) dX0_hoursTo_58 (by decide) (fun h58 => ?_) (fun h58 => ?_)
        · refine sw_iinc dX0_hoursTo_73 rfl rfl (by decide) rfl ?_
          refine sw_goto (tgt := 15) dX0_hoursTo_76 (by decide) ?_
          have e : g_hT k x y (n + 1) (nI i) mx my τ = g_hT k x y n (nI (i + 1)) mx my (g_hour τ k) := by
            rw [g_hT, if_neg (by simpa [sm_b_e0] using h33), if_neg (by simpa [sm_b_e0] using h47), if_neg h58, nI_succ]
          rw [e]
          refine sw_lv (ih (i + 1) _ _ _ (by omega) (by omega)) (And.intro rfl (And.intro rfl (And.intro rfl (And.intro rfl (And.intro rfl (And.intro rfl (And.intro (sm_e rfl ?_) trivial)))))))
          all_goals (rw [sm_i1, nI_succ])
        · refine sw_aload_n dX0_hoursTo_61 rfl ?_
          refine sw_getI dX0_hoursTo_62 fl_X0_33 (sm_Fo hk) rfl ?_
          refine sw_istore dX0_hoursTo_65 (by decide) rfl ?_
          refine sw_aload_n dX0_hoursTo_67 rfl ?_
          refine sw_getI dX0_hoursTo_68 fl_X0_37 (sm_Fo hk) rfl ?_
          refine sw_istore dX0_hoursTo_71 (by decide) rfl ?_
          refine sw_iinc dX0_hoursTo_73 rfl rfl (by decide) rfl ?_
          refine sw_goto (tgt := 15) dX0_hoursTo_76 (by decide) ?_
          have e : g_hT k x y (n + 1) (nI i) mx my τ = g_hT k x y n (nI (i + 1)) (g_hour τ k k 0) (g_hour τ k k 1) (g_hour τ k) := by
            rw [g_hT, if_neg (by simpa [sm_b_e0] using h33), if_neg (by simpa [sm_b_e0] using h47), if_pos h58, nI_succ]
          rw [e]
          refine sw_lv (ih (i + 1) _ _ _ (by omega) (by omega)) (And.intro rfl (And.intro rfl (And.intro rfl (And.intro rfl (And.intro rfl (And.intro rfl (And.intro (sm_e rfl ?_) trivial)))))))
          all_goals (rw [sm_i1, nI_succ])
      · refine sw_iconst (v := 0) dX0_hoursTo_50 (by decide) ?_
        refine sw_iret dX0_hoursTo_51 rfl rfl ?_ ?_
        all_goals (first | with_reducible rfl | (rw [g_hT]; simp_all [sm_b_e0]))
    · refine sw_iload dX0_hoursTo_36 rfl ?_
      refine sw_iret dX0_hoursTo_38 rfl rfl ?_ ?_
      all_goals (first | with_reducible rfl | (rw [g_hT]; simp_all [sm_b_e0]))

set_option maxHeartbeats 4000000 in
theorem c_hoursTo {σ : sm_St} {k : Nat} (hk : sm_isF k) (x y m : Int32) (hm : m.toNatClampNeg < 1000) : sm_C yX0_hoursTo cX0_hoursTo 7 (some .int) 6 [.ref k, .int x, .int y, .int m] σ (some (.int (g_hT k x y m.toNatClampNeg 1 (σ k 0) (σ k 1) σ).1)) (g_hT k x y m.toNatClampNeg 1 (σ k 0) (σ k 1) σ).2 := by
  refine sm_C.of (own := RX0) (by decide) rfl (Nat.le_of_ble_eq_true rfl) ?_
  show sm_W RX0 cX0_hoursTo 7 (some .int) 6 (some (.int (g_hT k x y m.toNatClampNeg 1 (σ k 0) (σ k 1) σ).1)) (g_hT k x y m.toNatClampNeg 1 (σ k 0) (σ k 1) σ).2 0 [(0, .ref k), (1, .int x), (2, .int y), (3, .int m)] [] σ
  refine sw_aload_n dX0_hoursTo_0 rfl ?_
  refine sw_getI dX0_hoursTo_1 fl_X0_33 (sm_Fo hk) rfl ?_
  refine sw_istore dX0_hoursTo_4 (by decide) rfl ?_
  refine sw_aload_n dX0_hoursTo_6 rfl ?_
  refine sw_getI dX0_hoursTo_7 fl_X0_37 (sm_Fo hk) rfl ?_
  refine sw_istore dX0_hoursTo_10 (by decide) rfl ?_
  refine sw_iconst (v := 1) dX0_hoursTo_12 (by decide) ?_
  refine sw_istore dX0_hoursTo_13 (by decide) rfl ?_
  refine sw_lv (l_hoursTo hk hm _ 1 _ _ _ (Nat.le_refl _) (Nat.add_comm 1 _)) (And.intro rfl (And.intro rfl (And.intro rfl (And.intro rfl (And.intro rfl (And.intro rfl (And.intro rfl trivial)))))))

def f_fill (f : Nat → Int32) (v : Int32) (n : Nat) : Nat → Int32 := fun i => if i < n then v else f i
theorem f_fill_s (f : Nat → Int32) (v : Int32) (n : Nat) : upd (f_fill f v n) n v = f_fill f v (n + 1) := by
  funext i
  unfold upd f_fill
  by_cases h : i = n
  · subst h; simp
  · by_cases h2 : i < n
    · rw [if_neg h, if_pos h2, if_pos (by omega)]
    · rw [if_neg h, if_neg h2, if_neg (by omega)]
theorem f_fill_0 (f : Nat → Int32) (v : Int32) : f_fill f v 0 = f := by funext i; simp [f_fill]
theorem sm_row_id (σ : sm_St) (k : Nat) : sm_row σ k (σ k) = σ := by
  funext j
  unfold sm_row
  split
  · rename_i h; rw [h]
  · rfl

set_option maxHeartbeats 4000000 in
theorem l_fill {σ : sm_St} {k N : Nat} (ha : sm_aln k = some N) (v : Int32) : ∀ n i : Nat, N - i < n → i ≤ N → sm_W RJ7 cJ7_fill_53178 4 none 0 none (sm_row σ k (f_fill (σ k) v N)) 5 [(0, .ref k), (1, .int v), (2, .int (nI i)), (3, .int (nI N))] [] (sm_row σ k (f_fill (σ k) v i)) := by
  have hN := (sm_aln_lt ha).2.2.2
  intro n
  induction n with
  | zero => intro i h1 h2; omega
  | succ n ih =>
    intro i h1 h2
    have hib : i < 2 ^ 31 := by omega
    refine sw_iload_n dJ7_fill_53178_5 rfl ?_
    refine sw_iload_n dJ7_fill_53178_6 rfl ?_
    refine sw_icmp_ge (tgt := 20) dJ7_fill_53178_7 (by decide) (fun h7 => ?_) (fun h7 => ?_)
    · have hge : N ≤ i := (nI_leI (by omega) hib).mp h7
      refine sw_vret dJ7_fill_53178_20 rfl rfl ?_
      all_goals (first | with_reducible rfl | (rw [show i = N by omega]))
    · have hlt : i < N := by rw [nI_leI (by omega) hib] at h7; omega
      refine sw_aload_n dJ7_fill_53178_10 rfl ?_
      refine sw_iload_n dJ7_fill_53178_11 rfl ?_
      refine sw_iload_n dJ7_fill_53178_12 rfl ?_
      refine sw_iast dJ7_fill_53178_13 ha (vp_in_nI hlt (by omega)) ?_
      refine sw_iinc dJ7_fill_53178_14 rfl rfl (by decide) rfl ?_
      refine sw_goto (tgt := 5) dJ7_fill_53178_17 (by decide) ?_
      refine sw_st (σ2 := sm_row σ k (f_fill (σ k) v (i + 1))) ?_ ?_
      · rw [← f_fill_s, nI_clamp hib]
        funext q
        by_cases hq : q = k <;> simp [sm_set, sm_row, hq]
      refine sw_lv (ih (i + 1) (by omega) (by omega)) (And.intro rfl (And.intro rfl (And.intro (sm_e rfl ?_) (And.intro rfl trivial))))
      all_goals (rw [sm_i1, nI_succ])

set_option maxHeartbeats 4000000 in
theorem c_fill {σ : sm_St} {k N : Nat} (ha : sm_aln k = some N) (v : Int32) : sm_C yJ7_fill_53178 cJ7_fill_53178 4 none 0 [.ref k, .int v] σ none (sm_row σ k (f_fill (σ k) v N)) := by
  refine sm_C.of (own := RJ7) (by decide) rfl (Nat.le_of_ble_eq_true rfl) ?_
  show sm_W RJ7 cJ7_fill_53178 4 none 0 none (sm_row σ k (f_fill (σ k) v N)) 0 [(0, .ref k), (1, .int v)] [] σ
  refine sw_iconst (v := 0) dJ7_fill_53178_0 (by decide) ?_
  refine sw_istore_n dJ7_fill_53178_1 (by decide) rfl ?_
  refine sw_aload_n dJ7_fill_53178_2 rfl ?_
  refine sw_alen dJ7_fill_53178_3 ha ?_
  refine sw_istore_n dJ7_fill_53178_4 (by decide) rfl ?_
  refine sw_st (σ2 := sm_row σ k (f_fill (σ k) v 0)) (by rw [f_fill_0, sm_row_id]) ?_
  refine sw_lv (l_fill ha v _ 0 (Nat.lt_succ_self _) (Nat.zero_le _)) (And.intro rfl (And.intro rfl (And.intro rfl (And.intro rfl trivial))))

def g_kp (x y all : Int32) : Nat → Nat → Int32 → sm_St → Int32 × sm_St
  | 0, _, f, τ => (f, τ)
  | n + 1, i, f, τ => if ¬ f_bc f ≤ f_bc (nI i) ∧ nI i &&& (all ^^^ (-1)) = 0 then (if f_isAt (sm_V (m_end τ (nI i)) 8) x y = true then g_kp x y all n (i + 1) (nI i) (m_end τ (nI i)) else g_kp x y all n (i + 1) f (m_end τ (nI i))) else g_kp x y all n (i + 1) f τ
def m_ten (σ : sm_St) : sm_St := (g_hours (m_try σ) 8 (10 : Int32).toNatClampNeg).1
def m_all (σ : sm_St) : Int32 := f_stand (sm_V σ 0) (σ 0 6).toNatClampNeg
def m_kp (w : Int32) (p : Int32 × sm_St) : Int32 × sm_St := (if w = 0 then f_bc p.1 else p.1, p.2)
def m_keeps (σ : sm_St) (w : Int32) : Int32 × sm_St := if sm_win w 0 1 = true then m_kp w (g_kp (m_ten σ 8 0) (m_ten σ 8 1) (m_all (m_ten σ)) (m_all (m_ten σ)).toNatClampNeg 0 (m_all (m_ten σ)) (m_ten σ)) else (-1, σ)

set_option maxHeartbeats 1000000 in
theorem l_keeps {w x y a : Int32} : ∀ (n : Nat) (i : Nat) (f : Int32) (τ : sm_St), i + n = a.toNatClampNeg → sm_W RX5 cX5_keeps 8 (some .int) 7 (some (.int (m_kp w (g_kp x y a n i f τ)).1)) (m_kp w (g_kp x y a n i f τ)).2 64 [(0, .ref 96), (1, .int w), (2, .int x), (3, .int y), (4, .int a), (5, .int f), (6, .int (nI i))] [] τ := by
  intro n
  induction n with
  | zero =>
    intro i f τ h1
    refine sw_iload dX5_keeps_64 rfl ?_
    refine sw_iload dX5_keeps_66 rfl ?_
    refine sw_icmp_ge (tgt := 127) dX5_keeps_68 (by decide) (fun _ => ?_) (fun h => absurd ((sm_le_clamp (by have := sm_clamp_lt a; omega)).mpr (by omega)) h)
    refine sw_iload_n dX5_keeps_127 rfl ?_
    refine sw_if_ne (tgt := 139) dX5_keeps_128 (by decide) (fun h128 => ?_) (fun h128 => ?_)
    · refine sw_iload dX5_keeps_139 rfl ?_
      refine sw_iret dX5_keeps_141 rfl rfl ?_ ?_
      all_goals (first | with_reducible rfl | (simp_all [m_kp, g_kp]))
    · refine sw_iload dX5_keeps_131 rfl ?_
      refine sw_callS dX5_keeps_133 lS_X5_172 (c_bitCount _) rfl rfl (Nat.le_of_ble_eq_true rfl) (Nat.le_of_ble_eq_true rfl) ?_
      refine sw_goto (tgt := 141) dX5_keeps_136 (by decide) ?_
      refine sw_iret dX5_keeps_141 rfl rfl ?_ ?_
      all_goals (first | with_reducible rfl | (simp_all [m_kp, g_kp]))
  | succ n ih =>
    intro i f τ h1
    refine sw_iload dX5_keeps_64 rfl ?_
    refine sw_iload dX5_keeps_66 rfl ?_
    refine sw_icmp_ge (tgt := 127) dX5_keeps_68 (by decide) (fun h => absurd h ((fun h => absurd ((sm_le_clamp (by have := sm_clamp_lt a; omega)).mp h) (by omega)))) (fun _ => ?_)
    refine sw_iload dX5_keeps_71 rfl ?_
    refine sw_callS dX5_keeps_73 lS_X5_172 (c_bitCount _) rfl rfl (Nat.le_of_ble_eq_true rfl) (Nat.le_of_ble_eq_true rfl) ?_
    refine sw_iload dX5_keeps_76 rfl ?_
    refine sw_callS dX5_keeps_78 lS_X5_172 (c_bitCount _) rfl rfl (Nat.le_of_ble_eq_true rfl) (Nat.le_of_ble_eq_true rfl) ?_
    refine sw_icmp_ge (tgt := 88) dX5_keeps_81 (by decide) (fun h81 => ?_) (fun h81 => ?_)
    · refine sw_iconst (v := 0) dX5_keeps_88 (by decide) ?_
      refine sw_istore dX5_keeps_89 (by decide) rfl ?_
      refine sw_iload dX5_keeps_91 rfl ?_
      refine sw_if_eq (tgt := 121) dX5_keeps_93 (by decide) (fun _ => ?_) (fun h => absurd (by decide) h)
      refine sw_iinc dX5_keeps_121 rfl rfl (by decide) rfl ?_
      refine sw_goto (tgt := 64) dX5_keeps_124 (by decide) ?_
      rw [g_kp, if_neg (fun hh => hh.1 h81)]
      refine sw_lv (ih (i + 1) _ _ (by omega)) (And.intro rfl (And.intro rfl (And.intro rfl (And.intro rfl (And.intro rfl (And.intro rfl (And.intro (sm_e rfl ?_) trivial)))))))
      all_goals (rw [sm_i1, nI_succ])
    · refine sw_iconst (v := 1) dX5_keeps_84 (by decide) ?_
      refine sw_goto (tgt := 89) dX5_keeps_85 (by decide) ?_
      refine sw_istore dX5_keeps_89 (by decide) rfl ?_
      refine sw_iload dX5_keeps_91 rfl ?_
      refine sw_if_eq (tgt := 121) dX5_keeps_93 (by decide) (fun h => absurd h (by decide)) (fun _ => ?_)
      refine sw_iload dX5_keeps_96 rfl ?_
      refine sw_iload dX5_keeps_98 rfl ?_
      refine sw_iconst (v := -1) dX5_keeps_100 (by decide) ?_
      refine sw_ixor dX5_keeps_101 ?_
      refine sw_iand dX5_keeps_102 ?_
      refine sw_if_ne (tgt := 121) dX5_keeps_103 (by decide) (fun h103 => ?_) (fun h103 => ?_)
      · refine sw_iinc dX5_keeps_121 rfl rfl (by decide) rfl ?_
        refine sw_goto (tgt := 64) dX5_keeps_124 (by decide) ?_
        rw [g_kp, if_neg (fun hh => h103 hh.2)]
        refine sw_lv (ih (i + 1) _ _ (by omega)) (And.intro rfl (And.intro rfl (And.intro rfl (And.intro rfl (And.intro rfl (And.intro rfl (And.intro (sm_e rfl ?_) trivial)))))))
        all_goals (rw [sm_i1, nI_succ])
      · refine sw_aload_n dX5_keeps_106 rfl ?_
        refine sw_iload dX5_keeps_107 rfl ?_
        refine sw_iload_n dX5_keeps_109 rfl ?_
        refine sw_iload_n dX5_keeps_110 rfl ?_
        refine sw_callV dX5_keeps_111 lV_X5_209 (c_endsAt _ _ _) rfl rfl rfl rfl (Nat.le_of_ble_eq_true rfl) (Nat.le_of_ble_eq_true rfl) ?_
        refine sw_if_eq (tgt := 121) dX5_keeps_114 (by decide) (fun h114 => ?_) (fun h114 => ?_)
        · refine sw_iinc dX5_keeps_121 rfl rfl (by decide) rfl ?_
          refine sw_goto (tgt := 64) dX5_keeps_124 (by decide) ?_
          rw [g_kp, if_pos ⟨h81, h103⟩, if_neg (by simpa [sm_b_e0] using h114)]
          refine sw_lv (ih (i + 1) _ _ (by omega)) (And.intro rfl (And.intro rfl (And.intro rfl (And.intro rfl (And.intro rfl (And.intro rfl (And.intro (sm_e rfl ?_) trivial)))))))
          all_goals (rw [sm_i1, nI_succ])
        · refine sw_iload dX5_keeps_117 rfl ?_
          refine sw_istore dX5_keeps_119 (by decide) rfl ?_
          refine sw_iinc dX5_keeps_121 rfl rfl (by decide) rfl ?_
          refine sw_goto (tgt := 64) dX5_keeps_124 (by decide) ?_
          rw [g_kp, if_pos ⟨h81, h103⟩, if_pos (by simpa [sm_b_e0] using h114)]
          refine sw_lv (ih (i + 1) _ _ (by omega)) (And.intro rfl (And.intro rfl (And.intro rfl (And.intro rfl (And.intro rfl (And.intro rfl (And.intro (sm_e rfl ?_) trivial)))))))
          all_goals (rw [sm_i1, nI_succ])

set_option maxHeartbeats 1000000 in
theorem c_keeps {σ : sm_St} (w : Int32) : sm_C yX5_keeps cX5_keeps 8 (some .int) 7 [.ref 96, .int w] σ (some (.int ((m_keeps σ w).1))) (m_keeps σ w).2 := by
  refine sm_C.of (own := RX5) (by decide) rfl (Nat.le_of_ble_eq_true rfl) ?_
  show sm_W RX5 cX5_keeps 8 (some .int) 7 (some (.int ((m_keeps σ w).1))) (m_keeps σ w).2 0 [(0, .ref 96), (1, .int w)] [] σ
  refine sw_iload_n dX5_keeps_0 rfl ?_
  refine sw_iconst (v := 0) dX5_keeps_1 (by decide) ?_
  refine sw_iconst (v := 1) dX5_keeps_2 (by decide) ?_
  refine sw_callS dX5_keeps_3 lS_X5_75 (c_within _ _ _) rfl rfl (Nat.le_of_ble_eq_true rfl) (Nat.le_of_ble_eq_true rfl) ?_
  refine sw_if_ne (tgt := 11) dX5_keeps_6 (by decide) (fun h6 => ?_) (fun h6 => ?_)
  · refine sw_aload_n dX5_keeps_11 rfl ?_
    refine sw_getR (j := 8) dX5_keeps_12 fl_X5_23 rfl rfl ?_
    refine sw_aload_n dX5_keeps_15 rfl ?_
    refine sw_getR (j := 0) dX5_keeps_16 fl_X5_19 rfl rfl ?_
    refine sw_callV dX5_keeps_19 lV_X5_85 (c_copyFrom (k := 8) (j := 0) sm_isF8 sm_isF0 (by decide)) rfl rfl rfl rfl (Nat.le_of_ble_eq_true rfl) (Nat.le_of_ble_eq_true rfl) ?_
    refine sw_aload_n dX5_keeps_22 rfl ?_
    refine sw_getR (j := 8) dX5_keeps_23 fl_X5_23 rfl rfl ?_
    refine sw_bipush (v := 10) dX5_keeps_26 (by decide) ?_
    refine sw_callV dX5_keeps_28 lV_X5_152 (c_goHours (k := 8) sm_isF8 _) rfl rfl rfl rfl (Nat.le_of_ble_eq_true rfl) (Nat.le_of_ble_eq_true rfl) ?_
    refine sw_pop dX5_keeps_31 rfl ?_
    refine sw_aload_n dX5_keeps_32 rfl ?_
    refine sw_getR (j := 8) dX5_keeps_33 fl_X5_23 rfl rfl ?_
    refine sw_getI dX5_keeps_36 fl_X5_181 rfl rfl ?_
    refine sw_istore_n dX5_keeps_39 (by decide) rfl ?_
    refine sw_aload_n dX5_keeps_40 rfl ?_
    refine sw_getR (j := 8) dX5_keeps_41 fl_X5_23 rfl rfl ?_
    refine sw_getI dX5_keeps_44 fl_X5_184 rfl rfl ?_
    refine sw_istore_n dX5_keeps_47 (by decide) rfl ?_
    refine sw_aload_n dX5_keeps_48 rfl ?_
    refine sw_getR (j := 0) dX5_keeps_49 fl_X5_19 rfl rfl ?_
    refine sw_callV dX5_keeps_52 lV_X5_169 (c_standingPosts (k := 0) sm_isF0) rfl rfl rfl rfl (Nat.le_of_ble_eq_true rfl) (Nat.le_of_ble_eq_true rfl) ?_
    refine sw_istore dX5_keeps_55 (by decide) rfl ?_
    refine sw_iload dX5_keeps_57 rfl ?_
    refine sw_istore dX5_keeps_59 (by decide) rfl ?_
    refine sw_iconst (v := 0) dX5_keeps_61 (by decide) ?_
    refine sw_istore dX5_keeps_62 (by decide) rfl ?_
    have e : m_keeps σ w = m_kp w (g_kp (m_ten σ 8 0) (m_ten σ 8 1) (m_all (m_ten σ)) (m_all (m_ten σ)).toNatClampNeg 0 (m_all (m_ten σ)) (m_ten σ)) := by simp_all [m_keeps, sm_b_e0]
    rw [e]
    refine sw_lv (l_keeps _ 0 _ _ (by omega)) (And.intro rfl (And.intro rfl (And.intro rfl (And.intro rfl (And.intro rfl (And.intro rfl (And.intro rfl trivial)))))))
  · refine sw_iconst (v := -1) dX5_keeps_9 (by decide) ?_
    refine sw_iret dX5_keeps_10 rfl rfl ?_ ?_
    all_goals (first | with_reducible rfl | (simp_all [-Int32.not_lt, -Int32.not_le, sm_b_e0, sm_b_e1, m_keeps]))

def g_br0 (more : Int32) (c : Nat) (τ : sm_St) : sm_St := r_set (r_set (r_set τ 9 6 more (m_rem (nI (c % 81)) 9)) 10 6 more (nI (c % 81) / 9)) 11 6 more (nI (c / 81))
def g_br2 (more : Int32) (c : Nat) (τ : sm_St) : sm_St := sm_set (sm_set (g_br0 more c τ) 8 0 (g_br0 more c τ 0 0)) 8 1 (g_br0 more c τ 0 1)
def g_br1 (x y more : Int32) (c : Nat) (q : Int32) (τ : sm_St) : Int32 × sm_St := g_hT 8 x y (q - 1).toNatClampNeg 1 (g_br2 more c τ 8 0) (g_br2 more c τ 8 1) (g_br2 more c τ)
def g_br (x y more : Int32) : Nat → Nat → Int32 → Int32 → sm_St → (Int32 × Int32) × sm_St
  | 0, _, q, w, τ => ((w, q), τ)
  | n + 1, c, q, w, τ => if (g_br1 x y more c q τ).1 ≤ 0 then g_br x y more n (c + 1) q w (g_br1 x y more c q τ).2
      else g_br x y more n (c + 1) (g_br1 x y more c q τ).1 (100 * nI (c / 81) + 10 * (nI (c % 81) / 9) + m_rem (nI (c % 81)) 9) (g_br1 x y more c q τ).2
def m_br (v : Int32) (p : (Int32 × Int32) × sm_St) : Int32 × sm_St := (if p.1.1 = -4 then p.1.1 else if v = 0 then p.1.1 else p.1.2, p.2)
def m_brings (σ : sm_St) (x y v : Int32) : Int32 × sm_St := if sm_cell x y = true ∧ sm_win v 0 1 = true then (if f_isAt (sm_V σ 0) x y = true then (-4, σ) else m_br v (g_br x y (m_try σ 8 6) 486 0 41 (-4) (m_more σ))) else (-1, σ)
theorem g_hT_in {k : Nat} {x y : Int32} : ∀ (n i : Nat) (mx my : Int32) (σ : sm_St), (g_hT k x y n (nI i) mx my σ).1 = 0 ∨ ∃ j, i ≤ j ∧ j < i + n ∧ (g_hT k x y n (nI i) mx my σ).1 = nI j
  | 0, _, _, _, _ => Or.inl rfl
  | n + 1, i, mx, my, σ => by
    unfold g_hT
    split
    · exact Or.inr ⟨i, Nat.le_refl _, by omega, rfl⟩
    · split
      · exact Or.inl rfl
      · rw [← nI_succ]
        split
        all_goals
          rcases g_hT_in n (i + 1) _ _ _ with h | ⟨j, h1, h2, h3⟩
          · exact Or.inl h
          · exact Or.inr ⟨j, by omega, by omega, h3⟩
theorem g_br1_in {x y more : Int32} {c j : Nat} {τ : sm_St} (hj : 1 ≤ j) (hj2 : j ≤ 41) (h : ¬ (g_br1 x y more c (nI j) τ).1 ≤ 0) : ∃ i, 1 ≤ i ∧ i ≤ 41 ∧ (g_br1 x y more c (nI j) τ).1 = nI i := by
  obtain ⟨m, rfl⟩ : ∃ m, j = m + 1 := ⟨j - 1, by omega⟩
  unfold g_br1 at h ⊢
  rw [nI_pred, nI_clamp (by omega)] at h ⊢
  rcases g_hT_in m 1 (g_br2 more c τ 8 0) (g_br2 more c τ 8 1) (g_br2 more c τ) with h1 | ⟨i, h1, h2, h3⟩
  · exact absurd (show (g_hT 8 x y m 1 (g_br2 more c τ 8 0) (g_br2 more c τ 8 1) (g_br2 more c τ)).1 ≤ 0 by rw [show (1 : Int32) = nI 1 from rfl, h1]; decide) h
  · exact ⟨i, h1, by omega, h3⟩

set_option maxHeartbeats 1000000 in
theorem l_brings_n {x y v more : Int32} {n : Nat} (ih : ∀ (s z j : Nat) (w : Int32) (τ : sm_St), 81 * s + z + n = 486 → s ≤ 5 → z ≤ 80 → 1 ≤ j → j ≤ 41 → sm_W RX5 cX5_brings 10 (some .int) 7 (some (.int (m_br v (g_br x y more n (81 * s + z) (nI j) w τ)).1)) (m_br v (g_br x y more n (81 * s + z) (nI j) w τ)).2 84 [(0, .ref 96), (1, .int x), (2, .int y), (3, .int v), (4, .int more), (5, .int (nI j)), (6, .int w), (7, .int (nI s)), (8, .int (nI z))] [] τ) : ∀ (s z j : Nat) (w : Int32) (τ : sm_St), 81 * s + z + 1 + n = 486 → s ≤ 5 → z ≤ 80 → 1 ≤ j → j ≤ 41 → sm_W RX5 cX5_brings 10 (some .int) 7 (some (.int (m_br v (g_br x y more n (81 * s + z + 1) (nI j) w τ)).1)) (m_br v (g_br x y more n (81 * s + z + 1) (nI j) w τ)).2 174 [(0, .ref 96), (1, .int x), (2, .int y), (3, .int v), (4, .int more), (5, .int (nI j)), (6, .int w), (7, .int (nI s)), (8, .int (nI z))] [] τ := by
  intro s z j w τ h1 h2 h3 hj hj2
  refine sw_iinc dX5_brings_174 rfl rfl (by decide) rfl ?_
  refine sw_goto (tgt := 84) dX5_brings_177 (by decide) ?_
  by_cases hx : z < 80
  · have e : 81 * s + z + 1 = 81 * s + (z + 1) := by omega
    rw [e]
    refine sw_lv (ih s (z + 1) j w τ (by omega) (by omega) (by omega) hj hj2) (And.intro rfl (And.intro rfl (And.intro rfl (And.intro rfl (And.intro rfl (And.intro rfl (And.intro rfl (And.intro rfl (And.intro (sm_e rfl ?_) trivial)))))))))
    all_goals (first | rfl | (rw [sm_i1, nI_succ]; done) | (rw [show z = 80 by omega]; decide))
  · refine sw_iload dX5_brings_84 rfl ?_
    refine sw_bipush (v := 81) dX5_brings_86 (by decide) ?_
    refine sw_icmp_ge (tgt := 180) dX5_brings_88 (by decide) (fun _ => ?_) (fun h => absurd ((by rw [show z = 80 by omega]; decide)) h)
    refine sw_iinc dX5_brings_180 rfl rfl (by decide) rfl ?_
    refine sw_goto (tgt := 75) dX5_brings_183 (by decide) ?_
    by_cases hs : s < 5
    · refine sw_iload dX5_brings_75 rfl ?_
      refine sw_iconst (v := 5) dX5_brings_77 (by decide) ?_
      refine sw_icmp_gt (tgt := 186) dX5_brings_78 (by decide) (fun h => absurd h ((sm_ngt (m := 5) hs (by decide)))) (fun _ => ?_)
      refine sw_iconst (v := 0) dX5_brings_81 (by decide) ?_
      refine sw_istore dX5_brings_82 (by decide) rfl ?_
      have e : 81 * s + z + 1 = 81 * (s + 1) + 0 := by omega
      rw [e]
      refine sw_lv (ih (s + 1) 0 j w τ (by omega) (by omega) (by omega) hj hj2) (And.intro rfl (And.intro rfl (And.intro rfl (And.intro rfl (And.intro rfl (And.intro rfl (And.intro rfl (And.intro (sm_e rfl ?_) (And.intro (sm_e rfl ?_) trivial)))))))))
      all_goals (first | rfl | (rw [sm_i1, nI_succ]; done) | (rw [show z = 80 by omega]; decide))
    · refine sw_iload dX5_brings_75 rfl ?_
      refine sw_iconst (v := 5) dX5_brings_77 (by decide) ?_
      refine sw_icmp_gt (tgt := 186) dX5_brings_78 (by decide) (fun _ => ?_) (fun h => absurd ((by rw [show s = 5 by omega]; decide)) h)
      refine sw_iload dX5_brings_186 rfl ?_
      refine sw_bipush (v := -4) dX5_brings_188 (by decide) ?_
      refine sw_icmp_eq (tgt := 197) dX5_brings_190 (by decide) (fun h190 => ?_) (fun h190 => ?_)
      · refine sw_iload dX5_brings_197 rfl ?_
        refine sw_goto (tgt := 204) dX5_brings_199 (by decide) ?_
        refine sw_iret dX5_brings_204 rfl rfl ?_ ?_
        all_goals (first | with_reducible rfl | (rw [show n = 0 by omega]; clear ih; simp_all [m_br, g_br]))
      · refine sw_iload_n dX5_brings_193 rfl ?_
        refine sw_if_ne (tgt := 202) dX5_brings_194 (by decide) (fun h194 => ?_) (fun h194 => ?_)
        · refine sw_iload dX5_brings_202 rfl ?_
          refine sw_iret dX5_brings_204 rfl rfl ?_ ?_
          all_goals (first | with_reducible rfl | (rw [show n = 0 by omega]; clear ih; simp_all [m_br, g_br]))
        · refine sw_iload dX5_brings_197 rfl ?_
          refine sw_goto (tgt := 204) dX5_brings_199 (by decide) ?_
          refine sw_iret dX5_brings_204 rfl rfl ?_ ?_
          all_goals (first | with_reducible rfl | (rw [show n = 0 by omega]; clear ih; simp_all [m_br, g_br]))

set_option maxHeartbeats 1000000 in
theorem l_brings {x y v more : Int32} : ∀ (n s z j : Nat) (w : Int32) (τ : sm_St), 81 * s + z + n = 486 → s ≤ 5 → z ≤ 80 → 1 ≤ j → j ≤ 41 → sm_W RX5 cX5_brings 10 (some .int) 7 (some (.int (m_br v (g_br x y more n (81 * s + z) (nI j) w τ)).1)) (m_br v (g_br x y more n (81 * s + z) (nI j) w τ)).2 84 [(0, .ref 96), (1, .int x), (2, .int y), (3, .int v), (4, .int more), (5, .int (nI j)), (6, .int w), (7, .int (nI s)), (8, .int (nI z))] [] τ := by
  intro n
  induction n with
  | zero => intro s z j w τ h1 h2 h3; omega
  | succ n ih =>
    intro s z j w τ h1 h2 h3 hj hj2
    have e1 : (81 * s + z) % 81 = z := by omega
    have e2 : (81 * s + z) / 81 = s := by omega
    refine sw_iload dX5_brings_84 rfl ?_
    refine sw_bipush (v := 81) dX5_brings_86 (by decide) ?_
    refine sw_icmp_ge (tgt := 180) dX5_brings_88 (by decide) (fun h => absurd h ((fun h => absurd ((nI_leI (by decide) (by omega)).mp (show nI 81 ≤ nI z from h)) (by omega)))) (fun _ => ?_)
    refine sw_aload_n dX5_brings_91 rfl ?_
    refine sw_getR (j := 8) dX5_brings_92 fl_X5_23 rfl rfl ?_
    refine sw_iload dX5_brings_95 rfl ?_
    refine sw_iload dX5_brings_97 rfl ?_
    refine sw_bipush (v := 9) dX5_brings_99 (by decide) ?_
    refine sw_irem dX5_brings_101 (by decide) ?_
    refine sw_iload dX5_brings_102 rfl ?_
    refine sw_bipush (v := 9) dX5_brings_104 (by decide) ?_
    refine sw_idiv dX5_brings_106 (by decide) ?_
    refine sw_iload dX5_brings_107 rfl ?_
    refine sw_callV dX5_brings_109 lV_X5_191 (c_changePost (k := 8) sm_isF8 _ _ _ _) rfl rfl rfl rfl (Nat.le_of_ble_eq_true rfl) (Nat.le_of_ble_eq_true rfl) ?_
    refine sw_aload_n dX5_brings_112 rfl ?_
    refine sw_getR (j := 8) dX5_brings_113 fl_X5_23 rfl rfl ?_
    refine sw_aload_n dX5_brings_116 rfl ?_
    refine sw_getR (j := 0) dX5_brings_117 fl_X5_19 rfl rfl ?_
    refine sw_getI dX5_brings_120 fl_X5_181 rfl rfl ?_
    refine sw_aload_n dX5_brings_123 rfl ?_
    refine sw_getR (j := 0) dX5_brings_124 fl_X5_19 rfl rfl ?_
    refine sw_getI dX5_brings_127 fl_X5_184 rfl rfl ?_
    refine sw_callV dX5_brings_130 lV_X5_202 (c_moveShip (k := 8) sm_isF8 _ _) rfl rfl rfl rfl (Nat.le_of_ble_eq_true rfl) (Nat.le_of_ble_eq_true rfl) ?_
    refine sw_aload_n dX5_brings_133 rfl ?_
    refine sw_getR (j := 8) dX5_brings_134 fl_X5_23 rfl rfl ?_
    refine sw_iload_n dX5_brings_137 rfl ?_
    refine sw_iload_n dX5_brings_138 rfl ?_
    refine sw_iload dX5_brings_139 rfl ?_
    refine sw_iconst (v := 1) dX5_brings_141 (by decide) ?_
    refine sw_isub dX5_brings_142 ?_
    refine sw_callV dX5_brings_143 lV_X5_206 (c_hoursTo (k := 8) sm_isF8 _ _ _ (by obtain ⟨m, rfl⟩ : ∃ m, j = m + 1 := ⟨j - 1, by omega⟩; rw [nI_pred, nI_clamp (by omega)]; omega)) rfl rfl rfl rfl (Nat.le_of_ble_eq_true rfl) (Nat.le_of_ble_eq_true rfl) ?_
    refine sw_istore dX5_brings_146 (by decide) rfl ?_
    refine sw_iload dX5_brings_148 rfl ?_
    refine sw_if_le (tgt := 174) dX5_brings_150 (by decide) (fun h150 => ?_) (fun h150 => ?_)
    · rw [g_br, if_pos (by simpa only [g_br1, g_br2, g_br0, e1, e2] using h150)]
      refine sw_st (σ2 := (g_br1 x y more (81 * s + z) (nI j) τ).2) (by unfold g_br1 g_br2 g_br0; rw [e1, e2]) ?_
      refine sw_lv (l_brings_n ih s z j w _ (by omega) h2 h3 hj hj2) (And.intro rfl (And.intro rfl (And.intro rfl (And.intro rfl (And.intro rfl (And.intro rfl (And.intro rfl (And.intro rfl (And.intro rfl trivial)))))))))
    · refine sw_iload dX5_brings_153 rfl ?_
      refine sw_istore dX5_brings_155 (by decide) rfl ?_
      refine sw_iload dX5_brings_157 rfl ?_
      refine sw_iload dX5_brings_159 rfl ?_
      refine sw_bipush (v := 9) dX5_brings_161 (by decide) ?_
      refine sw_idiv dX5_brings_163 (by decide) ?_
      refine sw_iload dX5_brings_164 rfl ?_
      refine sw_bipush (v := 9) dX5_brings_166 (by decide) ?_
      refine sw_irem dX5_brings_168 (by decide) ?_
      refine sw_callS dX5_brings_169 lS_X5_198 (c_nameOf _ _ _) rfl rfl (Nat.le_of_ble_eq_true rfl) (Nat.le_of_ble_eq_true rfl) ?_
      refine sw_istore dX5_brings_172 (by decide) rfl ?_
      have h150 : ¬ (g_br1 x y more (81 * s + z) (nI j) τ).1 ≤ 0 := by simpa only [g_br1, g_br2, g_br0, e1, e2] using h150
      rw [g_br, if_neg h150]
      obtain ⟨j2, a1, a2, a3⟩ := g_br1_in hj hj2 h150
      rw [a3, e1, e2]
      refine sw_st (σ2 := (g_br1 x y more (81 * s + z) (nI j) τ).2) (by unfold g_br1 g_br2 g_br0; rw [e1, e2]) ?_
      refine sw_lv (l_brings_n ih s z j2 _ _ (by omega) h2 h3 a1 a2) (And.intro rfl (And.intro rfl (And.intro rfl (And.intro rfl (And.intro rfl (And.intro (sm_e rfl ?_) (And.intro rfl (And.intro rfl (And.intro rfl trivial)))))))))
      all_goals ((rw [← a3]; unfold g_br1 g_br2 g_br0; rw [e1, e2]))

set_option maxHeartbeats 1000000 in
theorem c_brings {σ : sm_St} (x y v : Int32) : sm_C yX5_brings cX5_brings 10 (some .int) 7 [.ref 96, .int x, .int y, .int v] σ (some (.int ((m_brings σ x y v).1))) (m_brings σ x y v).2 := by
  refine sm_C.of (own := RX5) (by decide) rfl (Nat.le_of_ble_eq_true rfl) ?_
  show sm_W RX5 cX5_brings 10 (some .int) 7 (some (.int ((m_brings σ x y v).1))) (m_brings σ x y v).2 0 [(0, .ref 96), (1, .int x), (2, .int y), (3, .int v)] [] σ
  refine sw_iload_n dX5_brings_0 rfl ?_
  refine sw_iload_n dX5_brings_1 rfl ?_
  refine sw_callS dX5_brings_2 lS_X5_161 (c_isCell _ _) rfl rfl (Nat.le_of_ble_eq_true rfl) (Nat.le_of_ble_eq_true rfl) ?_
  refine sw_if_eq (tgt := 17) dX5_brings_5 (by decide) (fun h5 => ?_) (fun h5 => ?_)
  · refine sw_iconst (v := -1) dX5_brings_17 (by decide) ?_
    refine sw_iret dX5_brings_18 rfl rfl ?_ ?_
    all_goals (first | with_reducible rfl | (simp_all [-Int32.not_lt, -Int32.not_le, sm_b_e0, sm_b_e1, m_brings]))
  · refine sw_iload_n dX5_brings_8 rfl ?_
    refine sw_iconst (v := 0) dX5_brings_9 (by decide) ?_
    refine sw_iconst (v := 1) dX5_brings_10 (by decide) ?_
    refine sw_callS dX5_brings_11 lS_X5_75 (c_within _ _ _) rfl rfl (Nat.le_of_ble_eq_true rfl) (Nat.le_of_ble_eq_true rfl) ?_
    refine sw_if_ne (tgt := 19) dX5_brings_14 (by decide) (fun h14 => ?_) (fun h14 => ?_)
    · refine sw_aload_n dX5_brings_19 rfl ?_
      refine sw_getR (j := 0) dX5_brings_20 fl_X5_19 rfl rfl ?_
      refine sw_iload_n dX5_brings_23 rfl ?_
      refine sw_iload_n dX5_brings_24 rfl ?_
      refine sw_callV dX5_brings_25 lV_X5_195 (c_isShipAt (k := 0) sm_isF0 _ _) rfl rfl rfl rfl (Nat.le_of_ble_eq_true rfl) (Nat.le_of_ble_eq_true rfl) ?_
      refine sw_if_eq (tgt := 34) dX5_brings_28 (by decide) (fun h28 => ?_) (fun h28 => ?_)
      · refine sw_aload_n dX5_brings_34 rfl ?_
        refine sw_getR (j := 8) dX5_brings_35 fl_X5_23 rfl rfl ?_
        refine sw_aload_n dX5_brings_38 rfl ?_
        refine sw_getR (j := 0) dX5_brings_39 fl_X5_19 rfl rfl ?_
        refine sw_callV dX5_brings_42 lV_X5_85 (c_copyFrom (k := 8) (j := 0) sm_isF8 sm_isF0 (by decide)) rfl rfl rfl rfl (Nat.le_of_ble_eq_true rfl) (Nat.le_of_ble_eq_true rfl) ?_
        refine sw_aload_n dX5_brings_45 rfl ?_
        refine sw_getR (j := 8) dX5_brings_46 fl_X5_23 rfl rfl ?_
        refine sw_getI dX5_brings_49 fl_X5_79 rfl rfl ?_
        refine sw_istore dX5_brings_52 (by decide) rfl ?_
        refine sw_aload_n dX5_brings_54 rfl ?_
        refine sw_getR (j := 8) dX5_brings_55 fl_X5_23 rfl rfl ?_
        refine sw_iconst (v := 0) dX5_brings_58 (by decide) ?_
        refine sw_iconst (v := 0) dX5_brings_59 (by decide) ?_
        refine sw_iconst (v := 0) dX5_brings_60 (by decide) ?_
        refine sw_callV dX5_brings_61 lV_X5_187 (c_addPost (k := 8) sm_isF8 _ _ _) rfl rfl rfl rfl (Nat.le_of_ble_eq_true rfl) (Nat.le_of_ble_eq_true rfl) ?_
        refine sw_bipush (v := 41) dX5_brings_64 (by decide) ?_
        refine sw_istore dX5_brings_66 (by decide) rfl ?_
        refine sw_bipush (v := -4) dX5_brings_68 (by decide) ?_
        refine sw_istore dX5_brings_70 (by decide) rfl ?_
        refine sw_iconst (v := 0) dX5_brings_72 (by decide) ?_
        refine sw_istore dX5_brings_73 (by decide) rfl ?_
        refine sw_iload dX5_brings_75 rfl ?_
        refine sw_iconst (v := 5) dX5_brings_77 (by decide) ?_
        refine sw_icmp_gt (tgt := 186) dX5_brings_78 (by decide) (fun h => absurd h (by decide)) (fun _ => ?_)
        refine sw_iconst (v := 0) dX5_brings_81 (by decide) ?_
        refine sw_istore dX5_brings_82 (by decide) rfl ?_
        have e : m_brings σ x y v = m_br v (g_br x y (m_try σ 8 6) 486 (81 * 0 + 0) (nI 41) (-4) (m_more σ)) := by simp_all [m_brings, sm_b_e0]; rfl
        rw [e]
        refine sw_lv (l_brings 486 0 0 41 (-4) _ (by decide) (by decide) (by decide) (by decide) (by decide)) (And.intro rfl (And.intro rfl (And.intro rfl (And.intro rfl (And.intro rfl (And.intro rfl (And.intro rfl (And.intro rfl (And.intro rfl trivial)))))))))
      · refine sw_bipush (v := -4) dX5_brings_31 (by decide) ?_
        refine sw_iret dX5_brings_33 rfl rfl ?_ ?_
        all_goals (first | with_reducible rfl | (simp_all [-Int32.not_lt, -Int32.not_le, sm_b_e0, sm_b_e1, m_brings]))
    · refine sw_iconst (v := -1) dX5_brings_17 (by decide) ?_
      refine sw_iret dX5_brings_18 rfl rfl ?_ ?_
      all_goals (first | with_reducible rfl | (simp_all [-Int32.not_lt, -Int32.not_le, sm_b_e0, sm_b_e1, m_brings]))

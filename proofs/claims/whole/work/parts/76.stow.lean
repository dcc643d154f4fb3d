/-! class and model: stowaway -/
def w_1 (τ : sm_St) : sm_St := sm_set τ 110 29 1
theorem w_1_off {τ : sm_St} {q : Nat} (h : q ≠ 110) : w_1 τ q = τ q := sm_set_off h
theorem w_1_o {τ : sm_St} {j : Nat} (h : j ≠ 29) : w_1 τ 110 j = τ 110 j := sm_set_ne h
theorem q_w1_at {nc k q l : Nat} {τ : sm_St} (hn : nc < 8) : q_w1 nc k τ q l = if q = 113 ∧ l = nc then nI (k % 9 + 1) else if q = 112 ∧ l = nc then nI (k / 9) else τ q l := by
  unfold q_w1
  rw [r_set_nI rfl hn (by decide), r_set_nI rfl hn (by decide), sm_set_at, sm_set_at]
/-- the trial Field with one more of the crew, at the k-th trial -/
def w_G (np nc k : Nat) (σ τ : sm_St) : Prop := (∀ i, 2 ≤ i → i < 8 → σ 8 i = q_V (w_1 τ) 0 i) ∧ (∀ m, 1 ≤ m → m < 8 → ∀ i, i < (if m < 5 then np else nc) → σ (8 + m) i = q_V τ m i) ∧ σ 13 nc = 0 ∧ σ 14 nc = nI (k / 9)
theorem w_G_F {np nc k : Nat} {σ τ τ' : sm_St} (hn : nc < 8) (h : w_G np nc k σ τ) (hU : w_U nc τ' (w_1 τ)) (h0 : τ' 111 nc = 0) : w_F np (nc + 1) (r_set σ 15 8 (nI nc) (nI (k % 9 + 1))) (q_w1 nc k τ') := by
  obtain ⟨g1, g2, g3, g4⟩ := h
  have hU2 : ∀ q l, 111 ≤ q → ¬ (l = nc ∧ 111 ≤ q ∧ q ≤ 113) → τ' q l = τ q l := fun q l a b => by rw [hU q l b, w_1_off (by omega)]
  refine ⟨fun i h2 h8 => ?_, fun m m1 m2 i hi => ?_⟩
  · rw [r_set_off (by decide), q_V0_e (show q_w1 nc k τ' 110 = w_1 τ 110 by rw [q_w1_off (by decide), hU.off (by decide)])]
    exact g1 i h2 h8
  · rw [r_set_nI rfl hn (by decide), sm_set_at]
    by_cases hm : m < 5
    · rw [if_pos hm] at hi
      have e : q_V (q_w1 nc k τ') m = q_V τ m := by
        rcases (show m = 1 ∨ m = 2 ∨ m = 3 ∨ m = 4 by omega) with rfl | rfl | rfl | rfl
        · show q_w1 nc k τ' 114 = τ 114
          rw [q_w1_off (by decide), hU.off (by decide), w_1_off (by decide)]
        · show q_w1 nc k τ' 115 = τ 115
          rw [q_w1_off (by decide), hU.off (by decide), w_1_off (by decide)]
        · show q_w1 nc k τ' 116 = τ 116
          rw [q_w1_off (by decide), hU.off (by decide), w_1_off (by decide)]
        · show q_w1 nc k τ' 117 = τ 117
          rw [q_w1_off (by decide), hU.off (by decide), w_1_off (by decide)]
      rw [e, if_neg (fun hh => by omega)]
      exact g2 m m1 m2 i (by rw [if_pos hm]; exact hi)
    · rw [if_neg hm] at hi
      have hg : i < nc → σ (8 + m) i = q_V τ m i := fun a => g2 m m1 m2 i (by rw [if_neg hm]; exact a)
      rcases (show m = 5 ∨ m = 6 ∨ m = 7 by omega) with rfl | rfl | rfl
      · show (if 8 + 5 = 15 ∧ i = nc then nI (k % 9 + 1) else σ (8 + 5) i) = q_w1 nc k τ' 111 i
        rw [q_w1_at hn, if_neg (by omega), if_neg (by omega), if_neg (by omega)]
        by_cases e : i = nc
        · rw [e]
          exact g3.trans h0.symm
        · exact (hg (by omega)).trans (hU2 111 i (by decide) (fun hh => e hh.1)).symm
      · show (if 8 + 6 = 15 ∧ i = nc then nI (k % 9 + 1) else σ (8 + 6) i) = q_w1 nc k τ' 112 i
        rw [q_w1_at hn, if_neg (by omega), if_neg (by omega)]
        by_cases e : i = nc
        · rw [if_pos ⟨rfl, e⟩, e]
          exact g4
        · rw [if_neg (fun hh => e hh.2)]
          exact (hg (by omega)).trans (hU2 112 i (by decide) (fun hh => e hh.1)).symm
      · show (if 8 + 7 = 15 ∧ i = nc then nI (k % 9 + 1) else σ (8 + 7) i) = q_w1 nc k τ' 113 i
        rw [q_w1_at hn]
        by_cases e : i = nc
        · rw [if_pos ⟨rfl, e⟩, if_pos ⟨rfl, e⟩]
        · rw [if_neg (fun hh => e hh.2), if_neg (fun hh => e hh.2), if_neg (fun hh => e hh.2)]
          exact (hg (by omega)).trans (hU2 113 i (by decide) (fun hh => e hh.1)).symm
theorem w_G_ok {np nc k : Nat} {τ τ' : sm_St} (hw : w_ok (q_V τ) np nc) (hC : q_C τ nc) (hU : w_U nc τ' (w_1 τ)) : w_ok (q_V (q_w1 nc k τ')) np (nc + 1) := by
  have c7 := hC.2
  have e : q_V (q_w1 nc k τ') 0 = q_V (w_1 τ) 0 := q_V0_e (by rw [q_w1_off (by decide), hU.off (by decide)])
  have er : ∀ q, 113 < q → q ≤ 117 → q_w1 nc k τ' q = τ q := fun q a b => by rw [q_w1_off (by omega), hU.off (by omega), w_1_off (by omega)]
  refine ⟨?_, hw.n1, ?_, by omega, ?_, ?_, ?_, ?_, ?_, fun c hc => ?_⟩
  · rw [e]
    show w_1 τ 110 0 + w_1 τ 110 28 = nI np
    rw [w_1_o (by decide), w_1_o (by decide)]
    exact hw.n0
  · rw [e]
    show w_1 τ 110 1 + w_1 τ 110 29 = nI (nc + 1)
    rw [w_1_o (by decide), show w_1 τ 110 29 = 1 from sm_set_eq, hC.1, nI_1]
  · rw [e]
    show ∃ x, x < 5 ∧ w_1 τ 110 9 = nI x
    rw [w_1_o (by decide)]; exact hw.w0
  · rw [e]
    show ∃ x, x < 9 ∧ w_1 τ 110 7 = nI x
    rw [w_1_o (by decide)]; exact hw.x0
  · rw [e]
    show ∃ x, x < 9 ∧ w_1 τ 110 8 = nI x
    rw [w_1_o (by decide)]; exact hw.y0
  · rw [show q_V (q_w1 nc k τ') 1 = q_V τ 1 from er 114 (by decide) (by decide)]; exact hw.px
  · rw [show q_V (q_w1 nc k τ') 2 = q_V τ 2 from er 115 (by decide) (by decide)]; exact hw.py
  · show ∃ a, a < 10 ∧ q_w1 nc k τ' 113 c = nI a
    rw [q_w1_at (by omega)]
    by_cases a : c = nc
    · rw [if_pos ⟨rfl, a⟩]
      exact ⟨k % 9 + 1, by omega, rfl⟩
    · rw [if_neg (fun hh => a hh.2), if_neg (fun hh => a hh.2), hU 113 c (fun hh => a hh.1), w_1_off (by decide)]
      exact hw.cn c (by omega)
theorem w_sw {np nc z : Nat} {τ : sm_St} (hw : w_ok (q_V τ) np nc) (hC : q_C τ nc) (hz : z ≤ 6) : ∀ (n k t : Nat) (f : Int32) (σ τ' : sm_St), k + n = 54 → t ≤ k → (f = -4 ↔ t = 0) → σ 100 3 = nI z → (0 < n → w_G np nc k σ τ) → w_U nc τ' (w_1 τ) → τ' 111 nc = 0 → (∀ i, i < z → w_s1 σ τ i) →
    (g_sw (nI nc) n k (nI t) f σ).1 = (q_stw np nc z n k (nI t) f τ').1 ∧ w_U nc (q_stw np nc z n k (nI t) f τ').2 (w_1 τ)
  | 0, _, _, _, _, _, _, _, _, _, _, hU, _, _ => ⟨rfl, hU⟩
  | n + 1, k, t, f, σ, τ', hk, ht, hf, hz3, hG, hU, h0, hs => by
    have c7 := hC.2
    have hn : nc < 8 := by omega
    obtain ⟨g1, g2, g3, g4⟩ := hG (by omega)
    have e1 : (r_set σ 15 8 (nI nc) (nI (k % 9 + 1)) 100 3).toNatClampNeg = z := by
      rw [r_set_off (by decide), hz3, nI_clamp (by omega)]
    have hso : (g_sw1 (nI nc) k σ).1 = (q_w2 np nc z k τ').1 := by
      unfold g_sw1 q_w2
      rw [e1]
      exact w_isSo hz (w_G_F hn ⟨g1, g2, g3, g4⟩ hU h0) (w_G_ok hw hC hU) (fun i hi => w_s1_e (hs i hi) (fun q a b => r_set_off (by omega)) (fun q a b => by rw [q_w1_off (by omega), hU.off (by omega), w_1_off (by omega)]))
    have e2 : (q_w2 np nc z k τ').2 = q_w1 nc k τ' := p_isSo_id
    have r1 : (g_sw1 (nI nc) k σ).2 = (g_so 8 z 0 (r_set σ 15 8 (nI nc) (nI (k % 9 + 1)))).2 := by
      unfold g_sw1
      rw [e1]
    have off : ∀ q, q ≠ 8 → q ≠ 14 → q ≠ 15 → g_sw2 (nI nc) k n (g_sw1 (nI nc) k σ).2 q = σ q := fun q a b c => by
      have e : (g_sw1 (nI nc) k σ).2 q = σ q := by rw [r1, g_so_off a, r_set_off c]
      unfold g_sw2
      split
      · rw [r_set_off b, e]
      · exact e
    have o8 : ∀ i, 2 ≤ i → i < 8 → g_sw2 (nI nc) k n (g_sw1 (nI nc) k σ).2 8 i = σ 8 i := fun i a b => by
      have e : (g_sw1 (nI nc) k σ).2 8 i = σ 8 i := by rw [r1, g_so_o a b, r_set_off (by decide)]
      unfold g_sw2
      split
      · rw [r_set_off (by decide), e]
      · exact e
    have o14 : ∀ i, i ≠ nc → g_sw2 (nI nc) k n (g_sw1 (nI nc) k σ).2 14 i = σ 14 i := fun i a => by
      have e : (g_sw1 (nI nc) k σ).2 14 i = σ 14 i := by rw [r1, g_so_off (by decide), r_set_off (by decide)]
      unfold g_sw2
      split
      · rw [r_set_nI rfl hn (by decide), sm_set_ne a, e]
      · exact e
    have o15 : ∀ i, i ≠ nc → g_sw2 (nI nc) k n (g_sw1 (nI nc) k σ).2 15 i = σ 15 i := fun i a => by
      have e : (g_sw1 (nI nc) k σ).2 15 i = σ 15 i := by rw [r1, g_so_off (by decide), r_set_nI rfl hn (by decide), sm_set_ne a]
      unfold g_sw2
      split
      · rw [r_set_off (by decide), e]
      · exact e
    have hG2 : 0 < n → w_G np nc (k + 1) (g_sw2 (nI nc) k n (g_sw1 (nI nc) k σ).2) τ := fun h0n => by
      refine ⟨fun i a b => by rw [o8 i a b]; exact g1 i a b, fun m m1 m2 i hi => ?_, ?_, ?_⟩
      · have g := g2 m m1 m2 i hi
        by_cases a6 : m = 6
        · subst a6
          rw [if_neg (by decide)] at hi
          exact (o14 i (by omega)).trans g
        · by_cases a7 : m = 7
          · subst a7
            rw [if_neg (by decide)] at hi
            exact (o15 i (by omega)).trans g
          · rw [off (8 + m) (by omega) (by omega) (by omega)]
            exact g
      · rw [off 13 (by decide) (by decide) (by decide)]
        exact g3
      · have e : (g_sw1 (nI nc) k σ).2 14 nc = σ 14 nc := by rw [r1, g_so_off (by decide), r_set_off (by decide)]
        unfold g_sw2
        by_cases h8 : k % 9 = 8
        · rw [if_pos ⟨h8, by omega⟩, r_set_nI rfl hn (by decide), sm_set_eq, show (k + 1) / 9 = k / 9 + 1 by omega]
        · rw [if_neg (fun hh => h8 hh.1), e, g4, show (k + 1) / 9 = k / 9 by omega]
    have hz4 : g_sw2 (nI nc) k n (g_sw1 (nI nc) k σ).2 100 3 = nI z := by rw [off 100 (by decide) (by decide) (by decide)]; exact hz3
    have hs4 : ∀ i, i < z → w_s1 (g_sw2 (nI nc) k n (g_sw1 (nI nc) k σ).2) τ i := fun i hi => w_s1_e (hs i hi) (fun q a b => off q (by omega) (by omega) (by omega)) (fun _ _ _ => rfl)
    have hU2 : w_U nc (q_w1 nc k τ') (w_1 τ) := fun q l hh => by
      rw [q_w1_at hn, if_neg (fun a => hh (by omega)), if_neg (fun a => hh (by omega))]
      exact hU q l hh
    have h02 : q_w1 nc k τ' 111 nc = 0 := by
      rw [q_w1_off (by decide)]
      exact h0
    have t0 : nI t = 0 ↔ t = 0 := ⟨fun hh => by
      have h2 := congrArg Int32.toInt (show nI t = nI 0 from hh)
      rw [nI_toInt (by omega), nI_toInt (by decide)] at h2
      omega, fun hh => by rw [hh]; rfl⟩
    unfold g_sw q_stw
    rw [hso, e2]
    by_cases hq : (q_w2 np nc z k τ').1 = 0
    · rw [if_pos hq, if_pos hq, if_neg (fun hh => hh.1 hq), Int32.add_zero]
      exact w_sw hw hC hz n (k + 1) t f _ _ (by omega) (by omega) hf hz4 hG2 hU2 h02 hs4
    · rw [if_neg hq, if_neg hq, nI_1]
      by_cases ht0 : t = 0
      · have ef : f = -4 := hf.mpr ht0
        have e10 : 10 * nI (k / 9) + nI (k % 9 + 1) = nI (10 * (k / 9) + (k % 9 + 1)) := by
          rw [show (10 : Int32) = nI 10 from rfl, pk_mul, nI_add]
        rw [if_pos ef, if_pos ⟨hq, t0.mpr ht0⟩]
        exact w_sw hw hC hz n (k + 1) (t + 1) _ _ _ (by omega) (by omega) ⟨fun hh => absurd (e10 ▸ hh) (nI_ne4 (by omega)), fun hh => by omega⟩ hz4 hG2 hU2 h02 hs4
      · rw [if_neg (fun hh => ht0 (hf.mp hh)), if_neg (fun hh => ht0 (t0.mp hh.2))]
        exact w_sw hw hC hz n (k + 1) (t + 1) f _ _ (by omega) (by omega) ⟨fun hh => absurd (hf.mp hh) ht0, fun hh => by omega⟩ hz4 hG2 hU2 h02 hs4
theorem w_stow {σ τ : sm_St} {np nc z : Nat} (h : w_now σ τ np nc) (hs : w_see σ τ z) (w : Int32) : (m_stow σ w).1 = (p_stow τ np nc z w).1 ∧ w_U nc (p_stow τ np nc z w).2 τ := by
  obtain ⟨⟨hz1, hz2, hz⟩, hs2⟩ := hs
  have hC := h.2.2.2.1.1
  have c7 := hC.2
  have hn : nc < 8 := by omega
  unfold m_stow p_stow
  by_cases hw : sm_win w 0 1 = true
  · rw [if_pos hw, if_pos hw]
    have hag : w_ag np nc (sm_V (m_try σ) 8) (q_V τ) := (w_copy h.2.1.n1 h.2.1.c1).tr h.1
    have e7 : m_try σ 8 7 = nI nc := (hag.1 7 (by decide)).trans h.2.1.c0
    have hx : m_sw0 σ = sm_set (sm_set (sm_set (sm_set (m_try σ) 13 nc 0) 14 nc 0) 15 nc 1) 8 7 (nI (nc + 1)) := by
      unfold m_sw0 g_addS
      rw [e7, if_neg (fun hh => absurd ((nI_leI (by decide) (by omega)).mp hh) (by omega)), nI_1, r_set_nI rfl hn (by decide), r_set_nI rfl hn (by decide), r_set_nI rfl hn (by decide)]
    have s0 : ∀ q l, r_set (m_sw0 σ) 14 8 (nI nc) 0 q l = if q = 14 ∧ l = nc then 0 else if q = 8 ∧ l = 7 then nI (nc + 1) else if q = 15 ∧ l = nc then 1 else if q = 14 ∧ l = nc then 0 else if q = 13 ∧ l = nc then 0 else m_try σ q l := fun q l => by
      rw [r_set_nI rfl hn (by decide), hx, sm_set_at, sm_set_at, sm_set_at, sm_set_at, sm_set_at]
    have sf : ∀ q l, q ≠ 8 → ¬ (l = nc ∧ 13 ≤ q ∧ q ≤ 15) → r_set (m_sw0 σ) 14 8 (nI nc) 0 q l = m_try σ q l := fun q l a b => by
      rw [s0, if_neg (fun c => b (by omega)), if_neg (fun c => a c.1), if_neg (fun c => b (by omega)), if_neg (fun c => b (by omega)), if_neg (fun c => b (by omega))]
    have sr : ∀ q, 16 ≤ q → r_set (m_sw0 σ) 14 8 (nI nc) 0 q = σ q := fun q a => by
      funext l
      rw [sf q l (by omega) (by omega)]
      unfold m_try
      rw [g_copy_off (by right; omega)]
    have hG : w_G np nc 0 (r_set (m_sw0 σ) 14 8 (nI nc) 0) τ := by
      refine ⟨fun i h2 h8 => ?_, fun m m1 m2 i hi => ?_, ?_, ?_⟩
      · rw [s0, if_neg (by omega)]
        by_cases e : i = 7
        · subst e
          rw [if_pos ⟨rfl, rfl⟩]
          show nI (nc + 1) = w_1 τ 110 1 + w_1 τ 110 29
          rw [w_1_o (by decide), show w_1 τ 110 29 = 1 from sm_set_eq, hC.1, nI_1]
        · rw [if_neg (fun hh => e hh.2), if_neg (by omega), if_neg (by omega), if_neg (by omega)]
          have g : m_try σ 8 i = q_V τ 0 i := hag.1 i h8
          rw [g]
          rcases (show i = 2 ∨ i = 3 ∨ i = 4 ∨ i = 5 ∨ i = 6 by omega) with rfl | rfl | rfl | rfl | rfl
          · exact (w_1_o (by decide)).symm
          · exact (w_1_o (by decide)).symm
          · exact (w_1_o (by decide)).symm
          · exact (w_1_o (by decide)).symm
          · show τ 110 0 + τ 110 28 = w_1 τ 110 0 + w_1 τ 110 28
            rw [w_1_o (by decide), w_1_o (by decide)]
      · rw [sf (8 + m) i (by omega) (fun hh => by
          rw [if_neg (by omega)] at hi
          omega)]
        exact hag.2 m m1 m2 i hi
      · rw [s0, if_neg (by omega), if_neg (by omega), if_neg (by omega), if_neg (by omega), if_pos ⟨rfl, rfl⟩]
      · rw [s0, if_pos ⟨rfl, rfl⟩]
        rfl
    have hT : ∀ q l, r_set (sm_set τ 110 29 1) 111 8 (nI nc) 0 q l = if q = 111 ∧ l = nc then 0 else w_1 τ q l := fun q l => by
      rw [r_set_nI rfl hn (by decide), sm_set_at]
      rfl
    obtain ⟨b1, b2⟩ := w_sw h.2.1 hC hz 54 0 0 (-4) (r_set (m_sw0 σ) 14 8 (nI nc) 0) (r_set (sm_set τ 110 29 1) 111 8 (nI nc) 0) rfl (Nat.le_refl _) ⟨fun _ => rfl, fun _ => rfl⟩ (by rw [sr 100 (by decide)]; exact hz1) (fun _ => hG) (fun q l hh => by rw [hT, if_neg (fun a => hh (by omega))]) (by rw [hT, if_pos ⟨rfl, rfl⟩]) (fun i hi => w_s1_e (hs2 i hi) (fun q a b => sr q (by omega)) (fun _ _ _ => rfl))
    rw [e7]
    refine ⟨?_, fun q l hh => ?_⟩
    · unfold m_sw q_endw
      dsimp only
      rw [show (0 : Int32) = nI 0 from rfl] at b1 ⊢
      rw [b1]
    · unfold q_endw
      dsimp only
      rw [show (0 : Int32) = nI 0 from rfl] at b2 ⊢
      rw [sm_set_at]
      by_cases e : q = 110 ∧ l = 29
      · rw [if_pos e, e.1, e.2, h.2.2.2.2.2]
        rfl
      · rw [if_neg e, b2 q l hh]
        unfold w_1
        rw [sm_set_at, if_neg e]
  · rw [if_neg hw, if_neg hw]
    exact ⟨rfl, fun _ _ _ => rfl⟩
theorem g_sw_c {more : Int32} {q : Nat} (h : q ≠ 8) (h14 : q ≠ 14) (h15 : q ≠ 15) : ∀ (n c : Nat) (m f : Int32) (τ : sm_St), (g_sw more n c m f τ).2 q = τ q
  | 0, _, _, _, _ => rfl
  | n + 1, c, m, f, τ => by
    have e : g_sw2 more c n (g_sw1 more c τ).2 q = τ q := by
      have e1 : (g_sw1 more c τ).2 q = τ q := by
        unfold g_sw1
        rw [g_so_off h, r_set_off h15]
      unfold g_sw2
      split
      · rw [r_set_off h14, e1]
      · exact e1
    unfold g_sw
    split
    · rw [g_sw_c h h14 h15 n, e]
    · rw [g_sw_c h h14 h15 n, e]
theorem m_sw_2 (w : Int32) (p : (Int32 × Int32) × sm_St) : (m_sw w p).2 = p.2 := rfl
theorem w_stow_c {σ : sm_St} {w : Int32} {q : Nat} (h : q < 8 ∨ 16 ≤ q) : (m_stow σ w).2 q = σ q := by
  have e : m_try σ q = σ q := g_copy_off (by omega)
  unfold m_stow
  split
  · rw [m_sw_2, g_sw_c (by omega) (by omega) (by omega), r_set_off (by omega)]
    unfold m_sw0 g_addS
    split
    · exact e
    · rw [sm_set_off (by omega), r_set_off (by omega), r_set_off (by omega), r_set_off (by omega), e]
  · rfl

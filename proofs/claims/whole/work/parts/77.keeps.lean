/-! class and model: keeps -/
def w_pc (i : Nat) : Nat := i % 2 + i / 2 % 2 + i / 4 % 2 + i / 8 % 2 + i / 16 % 2
theorem w_bc : ∀ i, i < 32 → f_bc (nI i) = nI (w_pc i) := by decide +kernel
theorem w_qb : ∀ i, i < 32 → q_bits (nI i) 7 = nI (w_pc i) := by decide +kernel
theorem w_pc_lt : ∀ i, i < 32 → w_pc i < 6 := by decide +kernel
theorem w_sub : ∀ a, a < 32 → ∀ i, i < a → nI i &&& (nI a ^^^ (-1)) = 0 → w_pc i < w_pc a := by decide +kernel
theorem w_sub_a : ∀ a, a < 32 → nI a &&& (nI a ^^^ (-1)) = 0 := by decide +kernel
theorem w_gb : ∀ s, s < 32 → ∀ i, i < 5 → (1 : Int32) - ((nI s >>> (nI i &&& 31)) &&& 1) = if q_has (nI s) (nI i) = true then 0 else 1 := by decide +kernel
def w_kF (P : Nat → Bool) : Nat → Nat → Nat → Nat
  | 0, _, f => f
  | n + 1, i, f => w_kF P n (i + 1) (if w_pc i < w_pc f ∧ P i = true then i else f)
def w_kG (P : Nat → Bool) : Nat → Nat → Nat
  | 0, b => b
  | n + 1, b => w_kG P n (if P n = true ∧ w_pc n ≤ w_pc b then n else b)
def w_kB (P : Nat → Bool) (Q : Nat → Prop) (A r : Nat) : Prop := P r = true ∧ r ≤ A ∧ ∀ s, Q s → s ≤ A → P s = true → w_pc r < w_pc s ∨ (w_pc r = w_pc s ∧ r ≤ s)
theorem w_kF_b {P : Nat → Bool} {A : Nat} (hP : ∀ i, i < A → P i = true → w_pc i < w_pc A) : ∀ (n i f : Nat), i + n = A → (f = A ∨ f < i) → w_kB P (fun s => s < i ∨ s = A) A f → w_kB P (fun _ => True) A (w_kF P n i f)
  | 0, i, f, hi, _, h => ⟨h.1, h.2.1, fun s _ hs => h.2.2 s (by omega) hs⟩
  | n + 1, i, f, hi, hf, h => by
    unfold w_kF
    by_cases hc : w_pc i < w_pc f ∧ P i = true
    · rw [if_pos hc]
      refine w_kF_b hP n (i + 1) i (by omega) (Or.inr (by omega)) ⟨hc.2, by omega, fun s hs hsA hsP => ?_⟩
      by_cases e : s = i
      · subst e
        exact Or.inr ⟨rfl, Nat.le_refl _⟩
      · have := h.2.2 s (by omega) hsA hsP
        omega
    · rw [if_neg hc]
      refine w_kF_b hP n (i + 1) f (by omega) (by omega) ⟨h.1, h.2.1, fun s hs hsA hsP => ?_⟩
      by_cases e : s = i
      · subst e
        have h1 : ¬ w_pc s < w_pc f := fun hh => hc ⟨hh, hsP⟩
        rcases hf with rfl | hf
        · exact absurd (hP s (by omega) hsP) h1
        · omega
      · exact h.2.2 s (by omega) hsA hsP
theorem w_kG_b {P : Nat → Bool} {A : Nat} : ∀ (n b : Nat), n ≤ A + 1 → (b = A ∨ n ≤ b) → w_kB P (fun s => n ≤ s) A b → w_kB P (fun _ => True) A (w_kG P n b)
  | 0, b, _, _, h => ⟨h.1, h.2.1, fun s _ hs => h.2.2 s (Nat.zero_le _) hs⟩
  | n + 1, b, hn, hb, h => by
    unfold w_kG
    by_cases hc : P n = true ∧ w_pc n ≤ w_pc b
    · rw [if_pos hc]
      refine w_kG_b n n (by omega) (Or.inr (Nat.le_refl _)) ⟨hc.1, by omega, fun s hs hsA hsP => ?_⟩
      by_cases e : s = n
      · subst e
        exact Or.inr ⟨rfl, Nat.le_refl _⟩
      · have := h.2.2 s (by omega) hsA hsP
        omega
    · rw [if_neg hc]
      refine w_kG_b n b (by omega) (by omega) ⟨h.1, h.2.1, fun s hs hsA hsP => ?_⟩
      by_cases e : s = n
      · subst e
        have h1 : ¬ w_pc s ≤ w_pc b := fun hh => hc ⟨hsP, hh⟩
        omega
      · exact h.2.2 s (by omega) hsA hsP
theorem w_kFG {P : Nat → Bool} {A : Nat} (hA : P A = true) (hP : ∀ i, i < A → P i = true → w_pc i < w_pc A) : w_kF P A 0 A = w_kG P (A + 1) A := by
  have h1 := w_kF_b hP A 0 A (by omega) (Or.inl rfl) ⟨hA, Nat.le_refl _, fun s hs hsA _ => by
    rcases hs with hs | hs
    · omega
    · subst hs
      exact Or.inr ⟨rfl, Nat.le_refl _⟩⟩
  have h2 := w_kG_b (P := P) (A := A) (A + 1) A (Nat.le_refl _) (Or.inl rfl) ⟨hA, Nat.le_refl _, fun s hs hsA _ => by omega⟩
  have a := h1.2.2 _ trivial h2.2.1 h2.1
  have b := h2.2.2 _ trivial h1.2.1 h1.1
  omega
theorem w_row12 {σ τ : sm_St} {i np nc : Nat} {v : Int32} (hi : i < 6) (h : w_ag np nc (sm_V σ 8) (q_V τ)) : w_ag np nc (sm_V (r_set σ 12 6 (nI i) v) 8) (q_V (r_set τ 117 6 (nI i) v)) := by
  refine ⟨fun l hl => ?_, fun m a b l hl => ?_⟩
  · show r_set σ 12 6 (nI i) v 8 l = _
    rw [r_set_off (by decide), q_V0_e (r_set_off (by decide))]
    exact h.1 l hl
  · have g := h.2 m a b l hl
    rcases (show m = 1 ∨ m = 2 ∨ m = 3 ∨ m = 4 ∨ m = 5 ∨ m = 6 ∨ m = 7 by omega) with rfl | rfl | rfl | rfl | rfl | rfl | rfl
    · show r_set σ 12 6 (nI i) v 9 l = r_set τ 117 6 (nI i) v 114 l
      rw [r_set_off (by decide), r_set_off (by decide)]; exact g
    · show r_set σ 12 6 (nI i) v 10 l = r_set τ 117 6 (nI i) v 115 l
      rw [r_set_off (by decide), r_set_off (by decide)]; exact g
    · show r_set σ 12 6 (nI i) v 11 l = r_set τ 117 6 (nI i) v 116 l
      rw [r_set_off (by decide), r_set_off (by decide)]; exact g
    · show r_set σ 12 6 (nI i) v 12 l = r_set τ 117 6 (nI i) v 117 l
      rw [w_rs hi, w_rs hi]
      by_cases e : l = i
      · rw [if_pos e, if_pos e]
      · rw [if_neg e, if_neg e]; exact g
    · show r_set σ 12 6 (nI i) v 13 l = r_set τ 117 6 (nI i) v 111 l
      rw [r_set_off (by decide), r_set_off (by decide)]; exact g
    · show r_set σ 12 6 (nI i) v 14 l = r_set τ 117 6 (nI i) v 112 l
      rw [r_set_off (by decide), r_set_off (by decide)]; exact g
    · show r_set σ 12 6 (nI i) v 15 l = r_set τ 117 6 (nI i) v 113 l
      rw [r_set_off (by decide), r_set_off (by decide)]; exact g
theorem w_row12_ok {τ : sm_St} {np nc i : Nat} {v : Int32} (h : w_ok (q_V τ) np nc) : w_ok (q_V (r_set τ 117 6 (nI i) v)) np nc := by
  have e : q_V (r_set τ 117 6 (nI i) v) 0 = q_V τ 0 := q_V0_e (r_set_off (by decide))
  refine ⟨?_, h.n1, ?_, h.c1, ?_, ?_, ?_, ?_, ?_, ?_⟩
  · rw [e]; exact h.n0
  · rw [e]; exact h.c0
  · rw [e]; exact h.w0
  · rw [e]; exact h.x0
  · rw [e]; exact h.y0
  · rw [show q_V (r_set τ 117 6 (nI i) v) 1 = q_V τ 1 from r_set_off (by decide)]; exact h.px
  · rw [show q_V (r_set τ 117 6 (nI i) v) 2 = q_V τ 2 from r_set_off (by decide)]; exact h.py
  · rw [show q_V (r_set τ 117 6 (nI i) v) 7 = q_V τ 7 from r_set_off (by decide)]; exact h.cn
theorem w_gone {np nc s : Nat} (hs : s < 32) (hn : np ≤ 5) : ∀ (n i : Nat) (σ τ : sm_St), i + n = np → w_ag np nc (sm_V σ 8) (q_V τ) → w_ok (q_V τ) np nc → w_ag np nc (sm_V (g_gone (nI s) n i σ) 8) (q_V (q_gone (nI s) n i τ)) ∧ w_ok (q_V (q_gone (nI s) n i τ)) np nc
  | 0, _, _, _, _, h, hw => ⟨h, hw⟩
  | n + 1, i, σ, τ, hi, h, hw => by
    unfold g_gone q_gone
    rw [w_gb s hs i (by omega)]
    exact w_gone hs hn n (i + 1) _ _ (by omega) (w_row12 (by omega) h) (w_row12_ok hw)
theorem w_end {np nc s : Nat} {σ τ : sm_St} (hs : s < 32) (hn : np ≤ 5) (h : w_ag np nc (sm_V σ 0) (q_V τ)) (hw : w_ok (q_V τ) np nc) : w_ag np nc (sm_V (m_end σ (nI s)) 8) (q_V (q_by10 np nc (q_gone (nI s) np 0 (q_lays τ 126 0)))) ∧ w_ok (q_V (q_by10 np nc (q_gone (nI s) np 0 (q_lays τ 126 0)))) np nc := by
  have h1 : w_ag np nc (sm_V (m_try σ) 8) (q_V (q_lays τ 126 0)) := by
    rw [w_lays_V (by decide)]
    exact (w_copy hw.n1 hw.c1).tr h
  have hw1 : w_ok (q_V (q_lays τ 126 0)) np nc := by rw [w_lays_V (by decide)]; exact hw
  have e6 : m_try σ 8 6 = nI np := (h1.1 6 (by decide)).trans hw1.n0
  obtain ⟨a1, a2⟩ := w_gone hs hn np 0 _ _ (by omega) h1 hw1
  unfold m_end q_by10
  rw [e6, nI_clamp (by omega)]
  exact w_hours _ _ _ a1 a2
theorem w_9yx : ∀ a, a < 9 → ∀ b, b < 9 → ∀ c, c < 9 → ∀ d, d < 9 → (9 * nI b + nI a = 9 * nI d + nI c ↔ (nI a = nI c ∧ nI b = nI d)) := by
  intro a ha b hb c hc d hd
  rw [show (9 : Int32) = nI 9 from rfl, pk_mul, pk_mul, nI_add, nI_add]
  constructor
  · intro h
    have h2 := congrArg Int32.toInt h
    rw [nI_toInt (by omega), nI_toInt (by omega)] at h2
    have e1 : a = c := by omega
    have e2 : b = d := by omega
    exact ⟨by rw [e1], by rw [e2]⟩
  · rintro ⟨h1, h2⟩
    have h3 := congrArg Int32.toInt h1
    have h4 := congrArg Int32.toInt h2
    rw [nI_toInt (by omega), nI_toInt (by omega)] at h3 h4
    have e1 : a = c := by omega
    have e2 : b = d := by omega
    rw [e1, e2]
theorem m_end_c {σ : sm_St} {s : Int32} {q : Nat} (h : q < 8 ∨ 16 ≤ q) : m_end σ s q = σ q := by
  have key : ∀ (n i : Nat) (τ : sm_St), g_gone s n i τ q = τ q := by
    intro n
    induction n with
    | zero => intro i τ; rfl
    | succ n ih =>
      intro i τ
      unfold g_gone
      rw [ih, r_set_off (by omega)]
  unfold m_end
  rw [g_hours_off (by omega), key]
  exact g_copy_off (by omega)
theorem q_gone_tr {τ : sm_St} {s : Int32} : ∀ (n i : Nat) (X : sm_St), w_tr τ X → w_tr τ (q_gone s n i X)
  | 0, _, _, h => h
  | n + 1, i, X, h => by
    unfold q_gone
    exact q_gone_tr n (i + 1) _ (w_tr_row (by omega) h)
theorem q_hours_tr {τ : sm_St} {np nc : Nat} : ∀ (n : Nat) (X : sm_St), w_tr τ X → w_tr τ (q_hours np nc n X)
  | 0, _, h => h
  | n + 1, X, h => by
    unfold q_hours
    exact q_hours_tr n _ (w_tr_hour h)
theorem p_endBy_m {τ : sm_St} {np nc : Nat} {s : Int32} : ∀ q, q ≠ 126 → (p_endBy τ np nc s).2 q = τ q := by
  unfold p_endBy q_endc q_by10
  exact w_tr_b (q_hours_tr _ _ (q_gone_tr np 0 _ (w_tr_0 τ)))
theorem w_ag0_e {np nc : Nat} {σ σ' τ τ' : sm_St} (h : w_ag np nc (sm_V σ 0) (q_V τ)) (a : ∀ q, q < 8 → σ' q = σ q) (b : ∀ q, q ≠ 126 → τ' q = τ q) : w_ag np nc (sm_V σ' 0) (q_V τ') := by
  rw [q_V_e (X := τ') (Y := τ) (fun q _ _ => b q (by omega))]
  refine ⟨fun i hi => ?_, fun m m1 m2 i hi => ?_⟩
  · show σ' (0 + 0) i = _
    rw [a _ (by decide)]
    exact h.1 i hi
  · show σ' (0 + m) i = _
    rw [a _ (by omega)]
    exact h.2 m m1 m2 i hi
/-- which sets of posts she would be with where she will be with all -/
def w_P (σ : sm_St) (A : Nat) (x y : Int32) (s : Nat) : Bool := decide (nI s &&& (nI A ^^^ (-1)) = 0 ∧ (m_end σ (nI s) 8 0 = x ∧ m_end σ (nI s) 8 1 = y))
theorem w_kp_c {np nc A : Nat} {x y : Int32} {σ τ : sm_St} (h : w_ag np nc (sm_V σ 0) (q_V τ)) (hw : w_ok (q_V τ) np nc) (hn : np ≤ 5) (hA : A < 32) : ∀ (n i f : Nat) (σ' : sm_St), i + n = A → f < 32 → (∀ q, q < 8 → σ' q = σ q) → (g_kp x y (nI A) n i (nI f) σ').1 = nI (w_kF (w_P σ A x y) n i f)
  | 0, _, _, _, _, _, _ => rfl
  | n + 1, i, f, σ', hi, hf, hq => by
    have hi32 : i < 32 := by omega
    obtain ⟨b1, b2⟩ := w_end (s := i) hi32 hn h hw
    obtain ⟨d1, d2⟩ := w_end (s := i) hi32 hn (w_ag0_e (σ' := σ') (τ' := τ) h hq (fun _ _ => rfl)) hw
    have e0 : m_end σ' (nI i) 8 0 = m_end σ (nI i) 8 0 := (d1.1 0 (by decide)).trans (b1.1 0 (by decide)).symm
    have e1 : m_end σ' (nI i) 8 1 = m_end σ (nI i) 8 1 := (d1.1 1 (by decide)).trans (b1.1 1 (by decide)).symm
    have hat : f_isAt (sm_V (m_end σ' (nI i)) 8) x y = decide (m_end σ (nI i) 8 0 = x ∧ m_end σ (nI i) 8 1 = y) := by
      unfold f_isAt
      show decide (m_end σ' (nI i) 8 0 = x ∧ m_end σ' (nI i) 8 1 = y) = _
      rw [e0, e1]
    have hlt : ¬ f_bc (nI f) ≤ f_bc (nI i) ↔ w_pc i < w_pc f := by
      rw [w_bc f hf, w_bc i hi32]
      have p1 := w_pc_lt f hf
      have p2 := w_pc_lt i hi32
      rw [nI_leI (by omega) (by omega)]
      omega
    have hq2 : ∀ q, q < 8 → m_end σ' (nI i) q = σ q := fun q a => by rw [m_end_c (Or.inl a)]; exact hq q a
    unfold g_kp w_kF
    by_cases c1 : w_pc i < w_pc f
    · by_cases c2 : nI i &&& (nI A ^^^ (-1)) = 0
      · rw [if_pos ⟨hlt.mpr c1, c2⟩, hat]
        by_cases c3 : m_end σ (nI i) 8 0 = x ∧ m_end σ (nI i) 8 1 = y
        · rw [if_pos (decide_eq_true c3), if_pos ⟨c1, decide_eq_true ⟨c2, c3⟩⟩]
          exact w_kp_c h hw hn hA n (i + 1) i _ (by omega) hi32 hq2
        · rw [if_neg (fun hh => c3 (of_decide_eq_true hh)), if_neg (fun hh => c3 (of_decide_eq_true hh.2).2)]
          exact w_kp_c h hw hn hA n (i + 1) f _ (by omega) hf hq2
      · rw [if_neg (fun hh => c2 hh.2), if_neg (fun hh => c2 (of_decide_eq_true hh.2).1)]
        exact w_kp_c h hw hn hA n (i + 1) f _ (by omega) hf hq
    · rw [if_neg (fun hh => c1 (hlt.mp hh.1)), if_neg (fun hh => c1 hh.1)]
      exact w_kp_c h hw hn hA n (i + 1) f _ (by omega) hf hq
theorem q_V_00 (τ : sm_St) : q_V τ 0 0 = τ 110 7 := rfl
theorem q_V_01 (τ : sm_St) : q_V τ 0 1 = τ 110 8 := rfl
theorem q_endc_1 (X : sm_St) : (q_endc X).1 = 9 * X 110 8 + X 110 7 := rfl
theorem p_endBy_1 (τ : sm_St) (np nc : Nat) (s : Int32) : (p_endBy τ np nc s).1 = 9 * q_by10 np nc (q_gone s np 0 (q_lays τ 126 0)) 110 8 + q_by10 np nc (q_gone s np 0 (q_lays τ 126 0)) 110 7 := by
  unfold p_endBy
  exact q_endc_1 _
theorem w_endBy {np nc n : Nat} {σ τ τ' : sm_St} (h : w_ag np nc (sm_V σ 0) (q_V τ)) (hw : w_ok (q_V τ) np nc) (hn : np ≤ 5) (hn32 : n < 32) (hq : ∀ q, q ≠ 126 → τ' q = τ q) : ∃ a c, a < 9 ∧ c < 9 ∧ m_end σ (nI n) 8 0 = nI a ∧ m_end σ (nI n) 8 1 = nI c ∧ (p_endBy τ' np nc (nI n)).1 = 9 * nI c + nI a := by
  have hw' : w_ok (q_V τ') np nc := by
    rw [q_V_e (X := τ') (Y := τ) (fun q _ _ => hq q (by omega))]
    exact hw
  obtain ⟨d1, d2⟩ := w_end (s := n) hn32 hn (w_ag0_e (σ' := σ) (τ' := τ') h (fun _ _ => rfl) hq) hw'
  obtain ⟨a, ha, ea⟩ := d2.x0
  obtain ⟨c, hc, ec⟩ := d2.y0
  refine ⟨a, c, ha, hc, (d1.1 0 (by decide)).trans ea, (d1.1 1 (by decide)).trans ec, ?_⟩
  rw [q_V_00] at ea
  rw [q_V_01] at ec
  rw [p_endBy_1, ea, ec]
theorem w_kp_m {np nc A X Y : Nat} {e : Int32} {σ τ : sm_St} (h : w_ag np nc (sm_V σ 0) (q_V τ)) (hw : w_ok (q_V τ) np nc) (hn : np ≤ 5) (hA : A < 32) (hX : X < 9) (hY : Y < 9) (he : e = 9 * nI Y + nI X) : ∀ (n b : Nat) (τ' : sm_St), n ≤ A + 1 → b < 32 → (∀ q, q ≠ 126 → τ' q = τ q) →
    (q_kp np nc (nI A) e n (nI b) τ').1 = nI (w_kG (w_P σ A (nI X) (nI Y)) n b) ∧ ∀ q, q ≠ 126 → (q_kp np nc (nI A) e n (nI b) τ').2 q = τ q
  | 0, _, _, _, _, hq => ⟨rfl, hq⟩
  | n + 1, b, τ', hn1, hb, hq => by
    have hn32 : n < 32 := by omega
    obtain ⟨a, c, ha, hc, e0, e1, ee⟩ := w_endBy h hw hn hn32 hq
    have hiff : ((p_endBy τ' np nc (nI n)).1 = e) ↔ (m_end σ (nI n) 8 0 = nI X ∧ m_end σ (nI n) 8 1 = nI Y) := by
      rw [ee, he, e0, e1]
      exact w_9yx a ha c hc X hX Y hY
    have hle : ¬ q_bits (nI b) 7 < q_bits (nI n) 7 ↔ w_pc n ≤ w_pc b := by
      rw [w_qb b hb, w_qb n hn32]
      have p1 := w_pc_lt b hb
      have p2 := w_pc_lt n hn32
      rw [nI_ltI (by omega) (by omega)]
      omega
    have hq2 : ∀ q, q ≠ 126 → (p_endBy τ' np nc (nI n)).2 q = τ q := fun q hh => by rw [p_endBy_m q hh]; exact hq q hh
    unfold q_kp w_kG
    by_cases c2 : nI n &&& (nI A ^^^ (-1)) = 0
    · by_cases c1 : w_pc n ≤ w_pc b
      · rw [if_pos ⟨c2, hle.mpr c1⟩]
        by_cases c3 : m_end σ (nI n) 8 0 = nI X ∧ m_end σ (nI n) 8 1 = nI Y
        · rw [if_pos (hiff.mpr c3), if_pos ⟨decide_eq_true ⟨c2, c3⟩, c1⟩]
          exact w_kp_m h hw hn hA hX hY he n n _ (by omega) hn32 hq2
        · rw [if_neg (fun hh => c3 (hiff.mp hh)), if_neg (fun hh => c3 (of_decide_eq_true hh.1).2)]
          exact w_kp_m h hw hn hA hX hY he n b _ (by omega) hb hq2
      · rw [if_neg (fun hh => c1 (hle.mp hh.2)), if_neg (fun hh => c1 hh.2)]
        exact w_kp_m h hw hn hA hX hY he n b _ (by omega) hb hq
    · rw [if_neg (fun hh => c2 hh.1), if_neg (fun hh => c2 (of_decide_eq_true hh.1).1)]
      exact w_kp_m h hw hn hA hX hY he n b _ (by omega) hb hq
/-- which posts are not taken away, as bits -/
theorem w_bit1 : ∀ n, n < 5 → ∀ m, m < 16 → m < 2 ^ n → (∀ p, p < n → q_has (nI (m + 2 ^ n)) (nI p) = q_has (nI m) (nI p)) ∧ q_has (nI (m + 2 ^ n)) (nI n) = true ∧ q_has (nI m) (nI n) = false := by decide +kernel
theorem w_all_bits (τ : sm_St) : ∀ n, n ≤ 5 → ∃ m, m < 2 ^ n ∧ q_all τ n = nI m ∧ ∀ p, p < n → (q_has (nI m) (nI p) = true ↔ τ 117 p = 0)
  | 0, _ => ⟨0, by decide, rfl, fun p hp => by omega⟩
  | n + 1, hn => by
    obtain ⟨m, hm, em, hb⟩ := w_all_bits τ n (by omega)
    have p2 : 2 ^ (n + 1) = 2 ^ n + 2 ^ n := by omega
    have p16 : 2 ^ n ≤ 16 := by
      have := Nat.pow_le_pow_right (show 0 < 2 by decide) (show n ≤ 4 by omega)
      exact this
    obtain ⟨b1, b2, b3⟩ := w_bit1 n (by omega) m (by omega) hm
    unfold q_all
    rw [em, r_at_nI rfl (show n < 6 by omega) (by decide)]
    by_cases h0 : τ 117 n = 0
    · rw [if_pos h0, q_or n (by omega) m (by omega) hm]
      refine ⟨m + 2 ^ n, by omega, rfl, fun p hp => ?_⟩
      by_cases e : p = n
      · subst e
        exact ⟨fun _ => h0, fun _ => b2⟩
      · rw [b1 p (by omega)]
        exact hb p (by omega)
    · rw [if_neg h0, Int32.or_zero]
      refine ⟨m, by omega, rfl, fun p hp => ?_⟩
      by_cases e : p = n
      · subst e
        exact ⟨fun hh => absurd (b3.symm.trans hh) (by decide), fun hh => absurd hh h0⟩
      · exact hb p (by omega)
theorem w_stand_all {np nc : Nat} {V : Nat → Nat → Int32} {τ : sm_St} (h : w_ag np nc V (q_V τ)) (hn : np ≤ 6) : ∀ n, n ≤ np → f_stand V n = q_all τ n
  | 0, _ => rfl
  | n + 1, hh => by
    have e : r_at (V 4) 6 (nI n) = r_at (τ 117) 6 (nI n) := h.rp hn 4 (by decide) (by decide) (by omega)
    unfold f_stand q_all
    rw [w_stand_all h hn n (by omega), e]
    by_cases c : r_at (τ 117) 6 (nI n) = 0
    · rw [if_pos c, if_pos c]
    · rw [if_neg c, if_neg c, Int32.or_zero]
theorem q_gone_at {s : Int32} {p : Nat} : ∀ (n i : Nat) (τ : sm_St), i + n ≤ 6 → q_gone s n i τ 117 p = if i ≤ p ∧ p < i + n then (if q_has s (nI p) = true then 0 else 1) else τ 117 p
  | 0, i, τ, _ => by
    rw [if_neg (by omega)]
    rfl
  | n + 1, i, τ, hi => by
    unfold q_gone
    rw [q_gone_at n (i + 1) _ (by omega), r_set_nI rfl (show i < 6 by omega) (by decide), sm_set_at]
    by_cases e : p = i
    · subst e
      rw [if_neg (by omega), if_pos ⟨rfl, rfl⟩, if_pos (show p ≤ p ∧ p < p + (n + 1) by omega)]
    · rw [if_neg (c := 117 = 117 ∧ p = i) (fun hh => e hh.2)]
      by_cases c : i ≤ p ∧ p < i + (n + 1)
      · rw [if_pos c, if_pos (by omega)]
      · rw [if_neg c, if_neg (by omega)]
/-- taken away, or not -/
def w_aw (τ : sm_St) (np : Nat) : Prop := ∀ p, p < np → τ 117 p = 0 ∨ τ 117 p = 1
theorem w_gone_all {np nc A : Nat} {τ : sm_St} (hn : np ≤ 5) (ha : w_aw τ np) (hb : ∀ p, p < np → (q_has (nI A) (nI p) = true ↔ τ 117 p = 0)) : w_ag np nc (q_V τ) (q_V (q_gone (nI A) np 0 (q_lays τ 126 0))) := by
  have e : ∀ q, q ≠ 117 → q ≠ 126 → q_gone (nI A) np 0 (q_lays τ 126 0) q = τ q := fun q a b => by rw [q_gone_off a, q_lays_off b]
  refine ⟨fun i hi => ?_, fun m m1 m2 i hi => ?_⟩
  · rw [q_V0_e (e 110 (by decide) (by decide))]
  · rcases (show m = 1 ∨ m = 2 ∨ m = 3 ∨ m = 4 ∨ m = 5 ∨ m = 6 ∨ m = 7 by omega) with rfl | rfl | rfl | rfl | rfl | rfl | rfl
    · exact (congrFun (e 114 (by decide) (by decide)) i).symm
    · exact (congrFun (e 115 (by decide) (by decide)) i).symm
    · exact (congrFun (e 116 (by decide) (by decide)) i).symm
    · rw [if_pos (by decide)] at hi
      show τ 117 i = q_gone (nI A) np 0 (q_lays τ 126 0) 117 i
      rw [q_gone_at np 0 _ (by omega), if_pos (by omega)]
      by_cases c : q_has (nI A) (nI i) = true
      · rw [if_pos c]
        exact (hb i hi).mp c
      · rw [if_neg c]
        exact (ha i hi).resolve_left (fun hh => c ((hb i hi).mpr hh))
    · exact (congrFun (e 111 (by decide) (by decide)) i).symm
    · exact (congrFun (e 112 (by decide) (by decide)) i).symm
    · exact (congrFun (e 113 (by decide) (by decide)) i).symm
theorem m_ten_c {σ : sm_St} {q : Nat} (h : q < 8 ∨ 16 ≤ q) : m_ten σ q = σ q := by
  unfold m_ten
  rw [g_hours_off (by omega)]
  exact g_copy_off (by omega)
theorem w_keeps {σ τ : sm_St} {np nc : Nat} (h : w_now σ τ np nc) (ha : w_aw τ np) (w : Int32) : (m_keeps σ w).1 = (p_keeps τ np nc w).1 ∧ ∀ q, q ≠ 126 → (p_keeps τ np nc w).2 q = τ q := by
  have hn := h.2.2.1.1.2
  unfold m_keeps p_keeps
  by_cases hc : sm_win w 0 1 = true
  · rw [if_pos hc, if_pos hc]
    obtain ⟨A, hA, eA, hb⟩ := w_all_bits τ np hn
    have hA32 : A < 32 := by
      have : 2 ^ np ≤ 32 := Nat.pow_le_pow_right (show 0 < 2 by decide) hn
      omega
    have h10 := w_ag0_e (σ' := m_ten σ) (τ' := τ) h.1 (fun q a => m_ten_c (Or.inl a)) (fun _ _ => rfl)
    have eM : m_all (m_ten σ) = nI A := by
      unfold m_all
      have e6 : m_ten σ 0 6 = nI np := (h10.1 6 (by decide)).trans h.2.1.n0
      rw [e6, nI_clamp (by omega), w_stand_all h10 h.2.1.n1 np (Nat.le_refl _), eA]
    obtain ⟨t1, t2⟩ := w_try h
    have t3 : w_ag np nc (sm_V (m_try σ) 8) (q_V (q_gone (nI A) np 0 (q_lays τ 126 0))) := by
      rw [w_lays_V (by decide)] at t1
      exact t1.tr (w_gone_all hn ha hb)
    obtain ⟨d1, d2⟩ := w_end hA32 hn h.1 h.2.1
    have hwg : w_ok (q_V (q_gone (nI A) np 0 (q_lays τ 126 0))) np nc := w_ok_w (w_gone_all hn ha hb).sy h.2.1
    have t4 : w_ag np nc (sm_V (m_ten σ) 8) (q_V (q_by10 np nc (q_gone (nI A) np 0 (q_lays τ 126 0)))) := by
      unfold m_ten q_by10
      exact (w_hours _ _ _ t3 hwg).1
    obtain ⟨X, Y, hX, hY, x2, y2, ee⟩ := w_endBy h.1 h.2.1 hn hA32 (fun _ _ => rfl)
    have x1 : m_ten σ 8 0 = nI X := ((t4.1 0 (by decide)).trans (d1.1 0 (by decide)).symm).trans x2
    have y1 : m_ten σ 8 1 = nI Y := ((t4.1 1 (by decide)).trans (d1.1 1 (by decide)).symm).trans y2
    rw [eM, eA, x1, y1, nI_clamp (by omega)]
    have r1 := w_kp_c (x := nI X) (y := nI Y) h.1 h.2.1 hn hA32 A 0 A (m_ten σ) (by omega) hA32 (fun q a => m_ten_c (Or.inl a))
    obtain ⟨r2, r3⟩ := w_kp_m h.1 h.2.1 hn hA32 hX hY ee (A + 1) A (p_endBy τ np nc (nI A)).2 (Nat.le_refl _) hA32 (fun q hh => p_endBy_m q hh)
    have hFG : w_kF (w_P σ A (nI X) (nI Y)) A 0 A = w_kG (w_P σ A (nI X) (nI Y)) (A + 1) A := w_kFG (decide_eq_true ⟨w_sub_a A hA32, x2, y2⟩) (fun i hi hP => w_sub A hA32 i hi (of_decide_eq_true hP).1)
    have hb2 := (w_kG_b (P := w_P σ A (nI X) (nI Y)) (A := A) (A + 1) A (Nat.le_refl _) (Or.inl rfl) ⟨decide_eq_true ⟨w_sub_a A hA32, x2, y2⟩, Nat.le_refl _, fun s hs hsA _ => by omega⟩).2.1
    refine ⟨?_, r3⟩
    unfold m_kp q_endk
    dsimp only
    rw [r1, r2, hFG, w_bc _ (by omega), w_qb _ (by omega)]
  · rw [if_neg hc, if_neg hc]
    exact ⟨rfl, fun _ _ => rfl⟩
theorem w_kp_cc {x y a : Int32} {q : Nat} (h : q < 8 ∨ 16 ≤ q) : ∀ (n i : Nat) (f : Int32) (τ : sm_St), (g_kp x y a n i f τ).2 q = τ q
  | 0, _, _, _ => rfl
  | n + 1, i, f, τ => by
    unfold g_kp
    split
    · split
      · rw [w_kp_cc h n, m_end_c h]
      · rw [w_kp_cc h n, m_end_c h]
    · exact w_kp_cc h n _ _ _
theorem m_kp_2 (w : Int32) (p : Int32 × sm_St) : (m_kp w p).2 = p.2 := rfl
theorem w_keeps_c {σ : sm_St} {w : Int32} {q : Nat} (h : q < 8 ∨ 16 ≤ q) : (m_keeps σ w).2 q = σ q := by
  unfold m_keeps
  split
  · rw [m_kp_2, w_kp_cc h, m_ten_c h]
  · rfl

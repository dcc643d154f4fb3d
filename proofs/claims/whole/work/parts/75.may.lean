/-! class and model: what was seen: may, stowaway -/
theorem sm_set_at {σ : sm_St} {k i q l : Nat} {v : Int32} : sm_set σ k i v q l = if q = k ∧ l = i then v else σ q l := by
  by_cases a : q = k
  · subst a
    by_cases b : l = i
    · rw [b, sm_set_eq, if_pos ⟨rfl, rfl⟩]
    · rw [sm_set_ne b, if_neg (fun h => b h.2)]
  · rw [sm_set_off a, if_neg (fun h => a h.1)]
/-- the trial Field and the model, but for where the ship is -/
def w_F (np nc : Nat) (σ τ : sm_St) : Prop := (∀ i, 2 ≤ i → i < 8 → σ 8 i = q_V τ 0 i) ∧ ∀ m, 1 ≤ m → m < 8 → ∀ i, i < (if m < 5 then np else nc) → σ (8 + m) i = q_V τ m i
/-- the i-th that is seen -/
def w_s1 (σ τ : sm_St) (i : Nat) : Prop := (σ 101 i = τ 118 i ∧ σ 102 i = τ 119 i ∧ σ 103 i = τ 120 i) ∧ (∃ a, a < 9 ∧ τ 118 i = nI a) ∧ (∃ b, b < 9 ∧ τ 119 i = nI b) ∧ ∃ k, k < 5 ∧ τ 120 i = nI k
theorem w_s1_e {σ τ σ' τ' : sm_St} {i : Nat} (h : w_s1 σ τ i) (a : ∀ q, 101 ≤ q → q ≤ 103 → σ' q = σ q) (b : ∀ q, 118 ≤ q → q ≤ 120 → τ' q = τ q) : w_s1 σ' τ' i := by
  unfold w_s1
  rw [a 101 (by decide) (by decide), a 102 (by decide) (by decide), a 103 (by decide) (by decide), b 118 (by decide) (by decide), b 119 (by decide) (by decide), b 120 (by decide) (by decide)]
  exact h
theorem q_so1_V {i m : Nat} {τ : sm_St} (hm : 1 ≤ m) : q_V (q_so1 i τ) m = q_V τ m := q_Vm_e hm (fun q a b => q_so1_off (by omega))
theorem q_so1_V0 {i j : Nat} {τ : sm_St} (hj : 2 ≤ j) : q_V (q_so1 i τ) 0 j = q_V τ 0 j := by
  match j with
  | 0 => omega
  | 1 => omega
  | 2 => exact q_so1_o (by decide) (by decide)
  | 3 => exact q_so1_o (by decide) (by decide)
  | 4 => exact q_so1_o (by decide) (by decide)
  | 5 => exact q_so1_o (by decide) (by decide)
  | 6 =>
    show q_so1 i τ 110 0 + q_so1 i τ 110 28 = τ 110 0 + τ 110 28
    rw [q_so1_o (by decide) (by decide), q_so1_o (by decide) (by decide)]
  | n + 7 =>
    show q_so1 i τ 110 1 + q_so1 i τ 110 29 = τ 110 1 + τ 110 29
    rw [q_so1_o (by decide) (by decide), q_so1_o (by decide) (by decide)]
def g_at1 (i : Nat) (σ : sm_St) : sm_St := sm_set (sm_set σ 8 0 (r_at (σ 101) 6 (nI i))) 8 1 (r_at (σ 102) 6 (nI i))
theorem g_at1_off {i q : Nat} {σ : sm_St} (h : q ≠ 8) : g_at1 i σ q = σ q := by unfold g_at1; rw [sm_set_off h, sm_set_off h]
theorem g_at1_o {i j : Nat} {σ : sm_St} (h : 2 ≤ j) : g_at1 i σ 8 j = σ 8 j := by unfold g_at1; rw [sm_set_ne (by omega), sm_set_ne (by omega)]
theorem w_F_ag {np nc i : Nat} {σ τ : sm_St} (h : w_F np nc σ τ) (hs : w_s1 σ τ i) (hi : i < 6) : w_ag np nc (sm_V (g_at1 i σ) 8) (q_V (q_so1 i τ)) := by
  refine ⟨fun j hj => ?_, fun m a b j hj => ?_⟩
  · show g_at1 i σ 8 j = q_V (q_so1 i τ) 0 j
    by_cases e0 : j = 0
    · subst e0
      show g_at1 i σ 8 0 = q_so1 i τ 110 7
      unfold g_at1 q_so1
      rw [sm_set_ne (by decide), sm_set_eq, sm_set_ne (by decide), sm_set_eq, r_at_nI rfl hi (by decide), r_at_nI rfl hi (by decide)]
      exact hs.1.1
    · by_cases e1 : j = 1
      · subst e1
        show g_at1 i σ 8 1 = q_so1 i τ 110 8
        unfold g_at1 q_so1
        rw [sm_set_eq, sm_set_eq, r_at_nI rfl hi (by decide), r_at_nI rfl hi (by decide)]
        exact hs.1.2.1
      · rw [q_so1_V0 (by omega), g_at1_o (by omega)]
        exact h.1 j (by omega) hj
  · show g_at1 i σ (8 + m) j = _
    rw [q_so1_V a, g_at1_off (by omega)]
    exact h.2 m a b j hj
theorem w_F_next {np nc i : Nat} {σ τ : sm_St} (h : w_F np nc σ τ) : w_F np nc (g_goes (g_at1 i σ) 8) (q_so1 i τ) :=
  ⟨fun j h2 h8 => by rw [q_so1_V0 h2, g_goes_o h8, g_at1_o h2]; exact h.1 j h2 h8, fun m a b j hj => by rw [q_so1_V a, g_goes_off (by omega), g_at1_off (by omega)]; exact h.2 m a b j hj⟩
theorem w_ok_so1 {np nc i : Nat} {σ τ : sm_St} (hw : w_ok (q_V τ) np nc) (hs : w_s1 σ τ i) (hi : i < 6) : w_ok (q_V (q_so1 i τ)) np nc := by
  refine ⟨?_, hw.n1, ?_, hw.c1, ?_, ?_, ?_, ?_, ?_, ?_⟩
  · rw [q_so1_V0 (by decide)]; exact hw.n0
  · rw [q_so1_V0 (by decide)]; exact hw.c0
  · rw [q_so1_V0 (by decide)]; exact hw.w0
  · show ∃ x, x < 9 ∧ q_so1 i τ 110 7 = nI x
    unfold q_so1
    rw [sm_set_ne (by decide), sm_set_eq, r_at_nI rfl hi (by decide)]
    exact hs.2.1
  · show ∃ x, x < 9 ∧ q_so1 i τ 110 8 = nI x
    unfold q_so1
    rw [sm_set_eq, r_at_nI rfl hi (by decide)]
    exact hs.2.2.1
  · rw [q_so1_V (by decide)]; exact hw.px
  · rw [q_so1_V (by decide)]; exact hw.py
  · rw [q_so1_V (by decide)]; exact hw.cn
theorem q_so_f {np nc : Nat} : ∀ (n i : Nat) (τ : sm_St), (q_so np nc n i false τ).1 = false
  | 0, _, _ => rfl
  | n + 1, i, τ => by
    unfold q_so
    rw [Bool.false_and]
    exact q_so_f n (i + 1) _
theorem w_so {np nc z : Nat} (hz : z ≤ 6) : ∀ (n i : Nat) (σ τ : sm_St), i + n = z → w_F np nc σ τ → w_ok (q_V τ) np nc → (∀ i, i < z → w_s1 σ τ i) → (g_so 8 n i σ).1 = sm_b ((q_so np nc n i true τ).1 = true)
  | 0, _, _, _, _, _, _, _ => by
    show (1 : Int32) = sm_b (true = true)
    unfold sm_b
    rw [if_pos rfl]
  | n + 1, i, σ, τ, hi, hF, hw, hs => by
    have s1 := hs i (by omega)
    have hw2 := w_ok_so1 hw s1 (by omega)
    have hg : f_goes (sm_V (g_at1 i σ) 8) = q_goes (q_V (q_so1 i τ)) np nc := w_goesA (w_F_ag hF s1 (by omega)) hw2
    have e3 : r_at (σ 103) 6 (nI i) = r_at (τ 120) 6 (nI i) := by
      rw [r_at_nI rfl (show i < 6 by omega) (by decide), r_at_nI rfl (show i < 6 by omega) (by decide)]
      exact s1.1.2.2
    unfold g_so q_so
    change (if f_goes (sm_V (g_at1 i σ) 8) = r_at (σ 103) 6 (nI i) then g_so 8 n (i + 1) (g_goes (g_at1 i σ) 8) else (0, g_goes (g_at1 i σ) 8)).1 = _
    rw [hg, e3, Bool.true_and]
    by_cases hh : q_goes (q_V (q_so1 i τ)) np nc = r_at (τ 120) 6 (nI i)
    · rw [if_pos hh, decide_eq_true hh]
      exact w_so hz n (i + 1) _ _ (by omega) (w_F_next hF) hw2 (fun l hl => w_s1_e (hs l hl) (fun q a b => by rw [g_goes_off (by omega), g_at1_off (by omega)]) (fun q a b => q_so1_off (by omega)))
    · rw [if_neg hh, decide_eq_false hh, q_so_f]
      show (0 : Int32) = sm_b (false = true)
      unfold sm_b
      rw [if_neg (by decide)]
theorem g_so_off {k q : Nat} (h : q ≠ k) : ∀ (n i : Nat) (σ : sm_St), (g_so k n i σ).2 q = σ q
  | 0, _, _ => rfl
  | n + 1, i, σ => by
    unfold g_so
    split
    · rw [g_so_off h n, g_goes_off h, sm_set_off h, sm_set_off h]
    · show g_goes _ k q = σ q
      rw [g_goes_off h, sm_set_off h, sm_set_off h]
theorem g_so_o {k j : Nat} (h2 : 2 ≤ j) (h8 : j < 8) : ∀ (n i : Nat) (σ : sm_St), (g_so k n i σ).2 k j = σ k j
  | 0, _, _ => rfl
  | n + 1, i, σ => by
    unfold g_so
    split
    · rw [g_so_o h2 h8 n, g_goes_o h8, sm_set_ne (by omega), sm_set_ne (by omega)]
    · show g_goes _ k k j = σ k j
      rw [g_goes_o h8, sm_set_ne (by omega), sm_set_ne (by omega)]
theorem p_isSo_id {σ : sm_St} {np nc z : Nat} : (p_isSo σ np nc z).2 = σ := by
  unfold p_isSo q_endso
  show sm_set (sm_set (q_so np nc z 0 true σ).2 110 7 (σ 110 7)) 110 8 (σ 110 8) = σ
  funext q
  by_cases e : q = 110
  · subst e
    funext j
    by_cases a : j = 8
    · subst a
      rw [sm_set_eq]
    · rw [sm_set_ne a]
      by_cases b : j = 7
      · subst b
        rw [sm_set_eq]
      · rw [sm_set_ne b, q_so_o b a]
  · rw [sm_set_off e, sm_set_off e, q_so_off e]
theorem w_isSo {np nc z : Nat} {σ τ : sm_St} (hz : z ≤ 6) (hF : w_F np nc σ τ) (hw : w_ok (q_V τ) np nc) (hs : ∀ i, i < z → w_s1 σ τ i) : (g_so 8 z 0 σ).1 = (p_isSo τ np nc z).1 := w_so hz z 0 σ τ (by omega) hF hw hs
/-! may -/
theorem q_ms_at {w kd s nn v : Int32} {j q l : Nat} {τ : sm_St} (hj : j < 8) : q_ms w (nI j) kd s nn v τ q l = if q = 111 ∧ l = j then (if w = 2 then v else kd) else if q = 112 ∧ l = j then (if w = 1 then v else s) else if q = 113 ∧ l = j then (if w = 0 then v else nn) else τ q l := by
  unfold q_ms
  rw [r_set_nI rfl hj (by decide), r_set_nI rfl hj (by decide), r_set_nI rfl hj (by decide), sm_set_at, sm_set_at, sm_set_at]
theorem q_ms_off {w kd s nn v c : Int32} {q : Nat} {τ : sm_St} (h : q < 111 ∨ 113 < q) : q_ms w c kd s nn v τ q = τ q := by
  unfold q_ms
  rw [r_set_off (by omega), r_set_off (by omega), r_set_off (by omega)]
/-- alike but for the one of the crew that is asked about -/
def w_U (j : Nat) (τ' τ : sm_St) : Prop := ∀ q l, ¬ (l = j ∧ 111 ≤ q ∧ q ≤ 113) → τ' q l = τ q l
theorem w_U.off {j q : Nat} {τ' τ : sm_St} (h : w_U j τ' τ) (hq : q < 111 ∨ 113 < q) : τ' q = τ q := by
  funext l
  exact h q l (fun hh => by omega)
theorem w_U_ms {w kd s nn v : Int32} {j : Nat} {τ' τ : sm_St} (hj : j < 8) (h : w_U j τ' τ) : q_ms w (nI j) kd s nn v τ' = q_ms w (nI j) kd s nn v τ := by
  funext q l
  rw [q_ms_at hj, q_ms_at hj]
  by_cases a : q = 111 ∧ l = j
  · rw [if_pos a, if_pos a]
  · rw [if_neg a, if_neg a]
    by_cases b : q = 112 ∧ l = j
    · rw [if_pos b, if_pos b]
    · rw [if_neg b, if_neg b]
      by_cases c : q = 113 ∧ l = j
      · rw [if_pos c, if_pos c]
      · rw [if_neg c, if_neg c]
        exact h q l (fun hh => by omega)
theorem w_U_ms2 {w kd s nn v : Int32} {j : Nat} {τ : sm_St} (hj : j < 8) : w_U j (q_ms w (nI j) kd s nn v τ) τ := by
  intro q l hh
  rw [q_ms_at hj, if_neg (fun a => hh (by omega)), if_neg (fun a => hh (by omega)), if_neg (fun a => hh (by omega))]
def w_wa (w : Int32) (a : Nat) : Prop := (w = 0 ∧ a = 15) ∨ (w = 1 ∧ a = 14) ∨ (w = 2 ∧ a = 13)
/-- the trial Field and the model, but for the ship's place and what is asked of the one of the crew -/
def w_E (np nc a j : Nat) (σ τ : sm_St) : Prop := (∀ i, 2 ≤ i → i < 8 → σ 8 i = q_V τ 0 i) ∧ ∀ m, 1 ≤ m → m < 8 → ∀ i, i < (if m < 5 then np else nc) → ¬ (8 + m = a ∧ i = j) → σ (8 + m) i = q_V τ m i
theorem w_E_F {np nc a j : Nat} {w v : Int32} {σ τ : sm_St} (ha : w_wa w a) (hj : j < nc) (hc : nc ≤ 8) (h : w_E np nc a j σ τ) : w_F np nc (r_set σ a 8 (nI j) v) (q_ms w (nI j) (τ 111 j) (τ 112 j) (τ 113 j) v τ) := by
  have hj8 : j < 8 := by omega
  have ha2 : 13 ≤ a ∧ a ≤ 15 := by
    rcases ha with ⟨-, rfl⟩ | ⟨-, rfl⟩ | ⟨-, rfl⟩
    · omega
    · omega
    · omega
  refine ⟨fun i h2 h8 => ?_, fun m m1 m2 i hi => ?_⟩
  · rw [r_set_off (by omega), q_V0_e (q_ms_off (by decide))]
    exact h.1 i h2 h8
  · rw [r_set_nI rfl hj8 (by decide), sm_set_at]
    by_cases hm : m < 5
    · have e : q_V (q_ms w (nI j) (τ 111 j) (τ 112 j) (τ 113 j) v τ) m = q_V τ m := by
        rcases (show m = 1 ∨ m = 2 ∨ m = 3 ∨ m = 4 by omega) with rfl | rfl | rfl | rfl
        · exact q_ms_off (q := 114) (by decide)
        · exact q_ms_off (q := 115) (by decide)
        · exact q_ms_off (q := 116) (by decide)
        · exact q_ms_off (q := 117) (by decide)
      rw [e, if_neg (fun hh => by omega)]
      exact h.2 m m1 m2 i hi (fun hh => by omega)
    · have hg : ¬ (8 + m = a ∧ i = j) → σ (8 + m) i = q_V τ m i := h.2 m m1 m2 i hi
      rcases (show m = 5 ∨ m = 6 ∨ m = 7 by omega) with rfl | rfl | rfl
      · show (if 8 + 5 = a ∧ i = j then v else σ (8 + 5) i) = q_ms w (nI j) (τ 111 j) (τ 112 j) (τ 113 j) v τ 111 i
        rw [q_ms_at hj8]
        by_cases e : i = j
        · subst e
          rw [if_pos (show 111 = 111 ∧ i = i from ⟨rfl, rfl⟩)]
          rcases ha with ⟨rfl, rfl⟩ | ⟨rfl, rfl⟩ | ⟨rfl, rfl⟩
          · rw [if_neg (by omega), if_neg (by decide)]; exact hg (by omega)
          · rw [if_neg (by omega), if_neg (by decide)]; exact hg (by omega)
          · rw [if_pos ⟨rfl, rfl⟩, if_pos rfl]
        · rw [if_neg (fun hh => e hh.2), if_neg (fun hh => e hh.2), if_neg (fun hh => e hh.2), if_neg (fun hh => e hh.2)]
          exact hg (fun hh => e hh.2)
      · show (if 8 + 6 = a ∧ i = j then v else σ (8 + 6) i) = q_ms w (nI j) (τ 111 j) (τ 112 j) (τ 113 j) v τ 112 i
        rw [q_ms_at hj8]
        by_cases e : i = j
        · subst e
          rw [if_neg (show ¬ (112 = 111 ∧ i = i) by omega), if_pos (show 112 = 112 ∧ i = i from ⟨rfl, rfl⟩)]
          rcases ha with ⟨rfl, rfl⟩ | ⟨rfl, rfl⟩ | ⟨rfl, rfl⟩
          · rw [if_neg (by omega), if_neg (by decide)]; exact hg (by omega)
          · rw [if_pos ⟨rfl, rfl⟩, if_pos rfl]
          · rw [if_neg (by omega), if_neg (by decide)]; exact hg (by omega)
        · rw [if_neg (fun hh => e hh.2), if_neg (fun hh => e hh.2), if_neg (fun hh => e hh.2), if_neg (fun hh => e hh.2)]
          exact hg (fun hh => e hh.2)
      · show (if 8 + 7 = a ∧ i = j then v else σ (8 + 7) i) = q_ms w (nI j) (τ 111 j) (τ 112 j) (τ 113 j) v τ 113 i
        rw [q_ms_at hj8]
        by_cases e : i = j
        · subst e
          rw [if_neg (show ¬ (113 = 111 ∧ i = i) by omega), if_neg (show ¬ (113 = 112 ∧ i = i) by omega), if_pos (show 113 = 113 ∧ i = i from ⟨rfl, rfl⟩)]
          rcases ha with ⟨rfl, rfl⟩ | ⟨rfl, rfl⟩ | ⟨rfl, rfl⟩
          · rw [if_pos ⟨rfl, rfl⟩, if_pos rfl]
          · rw [if_neg (by omega), if_neg (by decide)]; exact hg (by omega)
          · rw [if_neg (by omega), if_neg (by decide)]; exact hg (by omega)
        · rw [if_neg (fun hh => e hh.2), if_neg (fun hh => e hh.2), if_neg (fun hh => e hh.2), if_neg (fun hh => e hh.2)]
          exact hg (fun hh => e hh.2)
theorem w_ok_ms {np nc j v : Nat} {w : Int32} {τ : sm_St} (hj : j < nc) (hw : w_ok (q_V τ) np nc) (hv : w = 0 → v < 10) : w_ok (q_V (q_ms w (nI j) (τ 111 j) (τ 112 j) (τ 113 j) (nI v) τ)) np nc := by
  have e : q_V (q_ms w (nI j) (τ 111 j) (τ 112 j) (τ 113 j) (nI v) τ) 0 = q_V τ 0 := q_V0_e (q_ms_off (by decide))
  have c8 := hw.c1
  refine ⟨?_, hw.n1, ?_, hw.c1, ?_, ?_, ?_, ?_, ?_, fun c hc => ?_⟩
  · rw [e]; exact hw.n0
  · rw [e]; exact hw.c0
  · rw [e]; exact hw.w0
  · rw [e]; exact hw.x0
  · rw [e]; exact hw.y0
  · rw [show q_V (q_ms w (nI j) (τ 111 j) (τ 112 j) (τ 113 j) (nI v) τ) 1 = q_V τ 1 from q_ms_off (q := 114) (by decide)]; exact hw.px
  · rw [show q_V (q_ms w (nI j) (τ 111 j) (τ 112 j) (τ 113 j) (nI v) τ) 2 = q_V τ 2 from q_ms_off (q := 115) (by decide)]; exact hw.py
  · show ∃ a, a < 10 ∧ q_ms w (nI j) (τ 111 j) (τ 112 j) (τ 113 j) (nI v) τ 113 c = nI a
    rw [q_ms_at (by omega), if_neg (by omega), if_neg (by omega)]
    by_cases e : c = j
    · rw [if_pos ⟨rfl, e⟩]
      by_cases e0 : w = 0
      · rw [if_pos e0]; exact ⟨v, hv e0, rfl⟩
      · rw [if_neg e0]; exact hw.cn j hj
    · rw [if_neg (fun hh => e hh.2)]; exact hw.cn c hc
theorem w_bits {np nc z a j : Nat} {w : Int32} {τ : sm_St} (ha : w_wa w a) (hj : j < nc) (hw : w_ok (q_V τ) np nc) (hz : z ≤ 6) : ∀ (n v : Nat) (b : Int32) (σ τ' : sm_St), (w = 0 → v + n ≤ 10) → σ 100 3 = nI z → w_E np nc a j σ τ → w_U j τ' τ → (∀ i, i < z → w_s1 σ τ i) →
    (g_bits a (nI j) n v b σ).1 = (q_my np nc z w (nI j) (τ 111 j) (τ 112 j) (τ 113 j) n v b τ').1 ∧ w_U j (q_my np nc z w (nI j) (τ 111 j) (τ 112 j) (τ 113 j) n v b τ').2 τ
  | 0, _, _, _, _, _, _, _, hU, _ => ⟨rfl, hU⟩
  | n + 1, v, b, σ, τ', hv, hz3, hE, hU, hs => by
    have c8 := hw.c1
    have ha2 : 13 ≤ a ∧ a ≤ 15 := by
      rcases ha with ⟨-, rfl⟩ | ⟨-, rfl⟩ | ⟨-, rfl⟩
      · omega
      · omega
      · omega
    have e1 : (r_set σ a 8 (nI j) (nI v) 100 3).toNatClampNeg = z := by
      rw [r_set_off (by omega), hz3, nI_clamp (by omega)]
    have hso := w_isSo hz (w_E_F (v := nI v) ha hj c8 hE) (w_ok_ms (v := v) hj hw (fun h0 => by have := hv h0; omega)) (fun i hi => w_s1_e (hs i hi) (fun q a b => r_set_off (by omega)) (fun q a b => q_ms_off (by omega)))
    have eU : q_ms w (nI j) (τ 111 j) (τ 112 j) (τ 113 j) (nI v) τ' = q_ms w (nI j) (τ 111 j) (τ 112 j) (τ 113 j) (nI v) τ := w_U_ms (by omega) hU
    unfold g_bits q_my
    rw [e1, eU, hso, p_isSo_id]
    have hE2 : w_E np nc a j (g_so 8 z 0 (r_set σ a 8 (nI j) (nI v))).2 τ := by
      refine ⟨fun i h2 h8 => ?_, fun m m1 m2 i hi hne => ?_⟩
      · rw [g_so_o h2 h8, r_set_off (by omega)]
        exact hE.1 i h2 h8
      · rw [g_so_off (by omega), r_set_nI rfl (show j < 8 by omega) (by decide), sm_set_at, if_neg hne]
        exact hE.2 m m1 m2 i hi hne
    have eb : (if (p_isSo (q_ms w (nI j) (τ 111 j) (τ 112 j) (τ 113 j) (nI v) τ) np nc z).1 = 0 then b else b ||| (1 <<< (nI v &&& 31))) = b ||| (if (p_isSo (q_ms w (nI j) (τ 111 j) (τ 112 j) (τ 113 j) (nI v) τ) np nc z).1 = 0 then (0 : Int32) else (1 : Int32) <<< (nI v &&& 31)) := by
      by_cases h : (p_isSo (q_ms w (nI j) (τ 111 j) (τ 112 j) (τ 113 j) (nI v) τ) np nc z).1 = 0
      · rw [if_pos h, if_pos h, Int32.or_zero]
      · rw [if_neg h, if_neg h]
    rw [eb]
    exact w_bits ha hj hw hz n (v + 1) _ _ _ (fun h0 => by have := hv h0; omega) (by rw [g_so_off (by decide), r_set_off (by omega)]; exact hz3) hE2 (w_U_ms2 (by omega)) (fun i hi => w_s1_e (hs i hi) (fun q a b => by rw [g_so_off (by omega), r_set_off (by omega)]) (fun _ _ _ => rfl))
theorem w_U_end {j : Nat} {τ' τ : sm_St} (hj : j < 8) (h : w_U j τ' τ) : r_set (r_set (r_set τ' 111 8 (nI j) (τ 111 j)) 112 8 (nI j) (τ 112 j)) 113 8 (nI j) (τ 113 j) = τ := by
  rw [r_set_nI rfl hj (by decide), r_set_nI rfl hj (by decide), r_set_nI rfl hj (by decide)]
  funext q l
  rw [sm_set_at, sm_set_at, sm_set_at]
  by_cases a : q = 113 ∧ l = j
  · rw [if_pos a, a.1, a.2]
  · rw [if_neg a]
    by_cases b : q = 112 ∧ l = j
    · rw [if_pos b, b.1, b.2]
    · rw [if_neg b]
      by_cases c : q = 111 ∧ l = j
      · rw [if_pos c, c.1, c.2]
      · rw [if_neg c]
        exact h q l (fun hh => by omega)
theorem w_try_E {σ τ : sm_St} {np nc a j : Nat} (h : w_now σ τ np nc) : w_E np nc a j (m_try σ) τ := by
  have hag : w_ag np nc (sm_V (m_try σ) 8) (q_V τ) := (w_copy h.2.1.n1 h.2.1.c1).tr h.1
  exact ⟨fun i _ h8 => hag.1 i h8, fun m a b i hi _ => hag.2 m a b i hi⟩
theorem w_may {σ τ : sm_St} {np nc z : Nat} (h : w_now σ τ np nc) (hs : w_see σ τ z) (c w : Int32) : (m_may σ c w).1 = (p_may τ np nc z c w).1 ∧ (p_may τ np nc z c w).2 = τ := by
  obtain ⟨⟨hz1, hz2, hz⟩, hs2⟩ := hs
  unfold m_may p_may
  rw [w_hasS h]
  by_cases hc : f_hasS (sm_V σ 0) c = true
  · obtain ⟨j, hj, rfl⟩ := w_hasS_in h hc
    have c8 := h.2.1.c1
    have h3 : m_try σ 100 3 = nI z := by
      unfold m_try
      rw [g_copy_off (by right; decide)]
      exact hz1
    have hs3 : ∀ i, i < z → w_s1 (m_try σ) τ i := fun i hi => w_s1_e (hs2 i hi) (fun q a b => g_copy_off (by right; omega)) (fun _ _ _ => rfl)
    have e1 : r_at (τ 111) 8 (nI j) = τ 111 j := r_at_nI rfl (by omega) (by decide)
    have e2 : r_at (τ 112) 8 (nI j) = τ 112 j := r_at_nI rfl (by omega) (by decide)
    have e3 : r_at (τ 113) 8 (nI j) = τ 113 j := r_at_nI rfl (by omega) (by decide)
    have key : ∀ (w : Int32) (a lo m : Nat), w_wa w a → (w = 0 → lo + (m + 1 - lo) ≤ 10) → (g_bits a (nI j) (m + 1 - lo) lo 0 (m_try σ)).1 = (p_may1 τ np nc z (nI j) w lo m).1 ∧ (p_may1 τ np nc z (nI j) w lo m).2 = τ := fun w a lo m ha hv => by
      obtain ⟨b1, b2⟩ := w_bits ha hj h.2.1 hz (m + 1 - lo) lo 0 (m_try σ) τ hv h3 (w_try_E h) (fun _ _ _ => rfl) hs3
      unfold p_may1 q_endm
      rw [e1, e2, e3]
      exact ⟨b1, w_U_end (by omega) b2⟩
    rw [if_pos hc]
    by_cases hw : sm_win w 0 2 = true
    · rw [if_pos (And.intro hc hw)]
      obtain ⟨l, hl, rfl⟩ := sm_win_nI (m := 2) rfl (by decide) hw
      rcases (show l = 0 ∨ l = 1 ∨ l = 2 by omega) with rfl | rfl | rfl
      · rw [if_pos (show nI 0 = 0 by decide), if_pos (show nI 0 = 0 by decide)]
        exact key (nI 0) 15 1 9 (Or.inl ⟨by decide, rfl⟩) (fun _ => by decide)
      · rw [if_neg (show ¬ nI 1 = 0 by decide), if_neg (show ¬ nI 1 = 0 by decide), if_pos (show nI 1 = 1 by decide), if_pos (show nI 1 = 1 by decide)]
        exact key (nI 1) 14 0 5 (Or.inr (Or.inl ⟨by decide, rfl⟩)) (fun hh => absurd hh (by decide))
      · rw [if_neg (show ¬ nI 2 = 0 by decide), if_neg (show ¬ nI 2 = 0 by decide), if_neg (show ¬ nI 2 = 1 by decide), if_neg (show ¬ nI 2 = 1 by decide), if_pos (show nI 2 = 2 by decide)]
        exact key (nI 2) 13 0 3 (Or.inr (Or.inr ⟨by decide, rfl⟩)) (fun hh => absurd hh (by decide))
    · rw [if_neg (c := f_hasS (sm_V σ 0) (nI j) = true ∧ sm_win w 0 2 = true) (fun hh => hw hh.2)]
      rw [if_neg (show ¬ w = 0 from fun h => hw (by rw [h]; decide)), if_neg (show ¬ w = 1 from fun h => hw (by rw [h]; decide)), if_neg (show ¬ w = 2 from fun h => hw (by rw [h]; decide))]
      exact ⟨rfl, rfl⟩
  · rw [if_neg hc, if_neg (fun hh => hc hh.1)]
    exact ⟨rfl, rfl⟩
theorem g_bits_c {a q : Nat} {c : Int32} (h : q ≠ 8) (ha : q ≠ a) : ∀ (n i : Nat) (b : Int32) (τ : sm_St), (g_bits a c n i b τ).2 q = τ q
  | 0, _, _, _ => rfl
  | n + 1, i, b, τ => by
    unfold g_bits
    rw [g_bits_c h ha n, g_so_off h, r_set_off ha]
theorem w_may_c {σ : sm_St} {c w : Int32} {q : Nat} (h : q < 8 ∨ 16 ≤ q) : (m_may σ c w).2 q = σ q := by
  have e : m_try σ q = σ q := g_copy_off (by omega)
  unfold m_may
  split
  · split
    · rw [g_bits_c (by omega) (by omega), e]
    · split
      · rw [g_bits_c (by omega) (by omega), e]
      · split
        · rw [g_bits_c (by omega) (by omega), e]
        · exact e
  · rfl

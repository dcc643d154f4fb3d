/-! likely: the class's chances, hour by hour; class and model alike -/
theorem k_set_c {B : Nat → Nat → Int32} {np nc c0 c : Nat} {f : Int32} {σ : sm_St} (h : k_I B np nc c0 (sm_V σ 8)) : k_I B np nc c (sm_V (sm_set (sm_set (sm_set σ 8 0 (nI (c % 9))) 8 1 (nI (c / 9))) 8 4 f) 8) := by
  refine k_I_to h ?_ ?_ ?_ ?_ ?_ ?_ (fun m m1 m2 => ?_)
  · show sm_set (sm_set (sm_set σ 8 0 (nI (c % 9))) 8 1 (nI (c / 9))) 8 4 f 8 0 = _
    rw [sm_set_ne (by decide), sm_set_ne (by decide), sm_set_eq]
  · show sm_set (sm_set (sm_set σ 8 0 (nI (c % 9))) 8 1 (nI (c / 9))) 8 4 f 8 1 = _
    rw [sm_set_ne (by decide), sm_set_eq]
  · show sm_set (sm_set (sm_set σ 8 0 (nI (c % 9))) 8 1 (nI (c / 9))) 8 4 f 8 2 = σ 8 2
    rw [sm_set_ne (by decide), sm_set_ne (by decide), sm_set_ne (by decide)]
  · show sm_set (sm_set (sm_set σ 8 0 (nI (c % 9))) 8 1 (nI (c / 9))) 8 4 f 8 3 = σ 8 3
    rw [sm_set_ne (by decide), sm_set_ne (by decide), sm_set_ne (by decide)]
  · show sm_set (sm_set (sm_set σ 8 0 (nI (c % 9))) 8 1 (nI (c / 9))) 8 4 f 8 6 = σ 8 6
    rw [sm_set_ne (by decide), sm_set_ne (by decide), sm_set_ne (by decide)]
  · show sm_set (sm_set (sm_set σ 8 0 (nI (c % 9))) 8 1 (nI (c / 9))) 8 4 f 8 7 = σ 8 7
    rw [sm_set_ne (by decide), sm_set_ne (by decide), sm_set_ne (by decide)]
  · show sm_set (sm_set (sm_set σ 8 0 (nI (c % 9))) 8 1 (nI (c / 9))) 8 4 f (8 + m) = σ (8 + m)
    rw [sm_set_off (by omega), sm_set_off (by omega), sm_set_off (by omega)]
theorem k_I_set {B : Nat → Nat → Int32} {np nc c k i : Nat} {v : Int32} {σ : sm_St} (hk : 16 ≤ k) (h : k_I B np nc c (sm_V σ 8)) : k_I B np nc c (sm_V (sm_set σ k i v) 8) := by
  have e : ∀ m, m < 8 → sm_V (sm_set σ k i v) 8 m = sm_V σ 8 m := fun m hm => sm_set_off (by omega)
  exact k_I_to h ((congrFun (e 0 (by decide)) 0).trans (h.1 0 (by decide))) ((congrFun (e 0 (by decide)) 1).trans (h.1 1 (by decide))) (congrFun (e 0 (by decide)) 2) (congrFun (e 0 (by decide)) 3) (congrFun (e 0 (by decide)) 6) (congrFun (e 0 (by decide)) 7) (fun m _ m2 => e m m2)
theorem k_cellI {s : Nat} : nI (s / 9) * 9 + nI (s % 9) = nI s := by
  rw [show (9 : Int32) = nI 9 from rfl, pk_mul, nI_add, show s / 9 * 9 + s % 9 = s by omega]
theorem k_spr {B : Nat → Nat → Int32} {np nc c0 i P T : Nat} {wf : Int32} {τ : sm_St} {R : Nat → Nat} (hB : w_ok B np nc) (hi : i < 81) (h : k_I B np nc c0 (sm_V τ 8)) (hR : ∀ j, j < 81 → τ 109 j = nI (R j)) : k_I B np nc (k_st B np nc wf i) (sm_V (g_spr (nI i) (nI P) wf (nI T) τ) 8) ∧ ∀ j, j < 81 → g_spr (nI i) (nI P) wf (nI T) τ 109 j = nI (if j = k_st B np nc wf i then R j + P * T else R j) := by
  have d9 : nI i / 9 = nI (i / 9) := pk_div (d := 9) (by omega) (by decide) (by decide)
  have eX : g_sp1 (nI i) (nI P) 0 τ wf (nI T) = g_hour (sm_set (sm_set (sm_set τ 8 0 (nI (i % 9))) 8 1 (nI (i / 9))) 8 4 wf) 8 := by
    unfold g_sp1
    rw [(w_h1 _).2, w_m (X := i) (D := 9) (d := 9) rfl (by omega) (by decide) (by decide), d9]
  obtain ⟨a1, a2, a3⟩ := k_hour_c hB hi (k_set_c (c := i) (f := wf) h)
  rw [sm_set_eq] at a1 a2 a3
  obtain ⟨-, -, hs⟩ := k_st_s (B := B) (np := np) (nc := nc) (f := wf) hi
  have ec : g_cell (g_hour (sm_set (sm_set (sm_set τ 8 0 (nI (i % 9))) 8 1 (nI (i / 9))) 8 4 wf) 8) = nI (k_st B np nc wf i) := by
    unfold g_cell
    rw [a2, a3, k_cellI]
  have e9 : g_hour (sm_set (sm_set (sm_set τ 8 0 (nI (i % 9))) 8 1 (nI (i / 9))) 8 4 wf) 8 109 = τ 109 := by
    rw [w_hour_f (by decide), sm_set_off (by decide), sm_set_off (by decide), sm_set_off (by decide)]
  unfold g_spr
  rw [eX, ec, e9, r_set_nI rfl hs (by decide), r_at_nI rfl hs (by decide), hR _ hs, pk_mul, nI_add]
  refine ⟨k_I_set (by decide) a1, fun j hj => ?_⟩
  by_cases e : j = k_st B np nc wf i
  · subst e
    rw [sm_set_eq, if_pos rfl]
  · rw [sm_set_ne e, if_neg e, e9, hR j hj]
theorem g_spread_off {x : Int32} {q : Nat} (h : q ≠ 8) (h2 : q ≠ 109) : ∀ (n i : Nat) (τ : sm_St), g_spread x n i τ q = τ q
  | 0, _, _ => rfl
  | n + 1, i, τ => by
    unfold g_spread
    rw [g_spread_off h h2 n]
    split
    · rfl
    · rw [g_spr_off h h2, g_spr_off h h2]
theorem k_spread {B : Nat → Nat → Int32} {np nc X : Nat} {F : Int32} {P : Nat → Nat} (hB : w_ok B np nc) (hX : X ≤ 10) (hP : ∀ j, j < 81 → P j < 2 ^ 31) : ∀ (n i : Nat) (τ : sm_St) (R : Nat → Nat) (c : Nat), i + n = 81 → k_I B np nc c (sm_V τ 8) → (∀ j, j < 81 → τ 108 j = nI (P j)) → (∀ j, j < 81 → τ 109 j = nI (R j)) → τ 0 4 = F → ∃ R' : Nat → Nat, (∀ j, j < 81 → g_spread (nI X) n i τ 109 j = nI (R' j)) ∧ ∀ g : Nat → Nat, sF (fun c => R' c * g c) 0 81 = sF (fun c => R c * g c) 0 81 + sF (fun c => P c * k_g2 B np nc X F g c) i n
  | 0, i, τ, R, c, hi, h, h8, h9, hF => ⟨R, h9, fun g => by rw [sF_n, Nat.add_zero]⟩
  | n + 1, i, τ, R, c, hi, h, h8, h9, hF => by
    have i81 : i < 81 := by omega
    have er : r_at (τ 108) 81 (nI i) = nI (P i) := by rw [r_at_nI rfl i81 (by decide), h8 i i81]
    unfold g_spread
    rw [er]
    by_cases hz : P i = 0
    · rw [if_pos (show nI (P i) ≤ 0 by rw [hz]; decide)]
      obtain ⟨R', r1, r2⟩ := k_spread hB hX hP n (i + 1) τ R c (by omega) h h8 h9 hF
      refine ⟨R', r1, fun g => ?_⟩
      rw [r2 g, sF_s (i := i) (n := n), hz, Nat.zero_mul, Nat.zero_add]
    · rw [if_neg (fun hh => hz (by
        have := (nI_leI (b := 0) (hP i i81) (by decide)).mp hh
        omega)), q_10m X (by omega), hF]
      obtain ⟨a1, a2⟩ := k_spr (P := P i) (T := 10 - X) (wf := F) hB i81 h h9
      obtain ⟨b1, b2⟩ := k_spr (P := P i) (T := X) (wf := 0) hB i81 a1 a2
      have o : ∀ q, q ≠ 8 → q ≠ 109 → g_spr (nI i) (nI (P i)) 0 (nI X) (g_spr (nI i) (nI (P i)) F (nI (10 - X)) τ) q = τ q := fun q x y => by rw [g_spr_off x y, g_spr_off x y]
      obtain ⟨R', r1, r2⟩ := k_spread (F := F) hB hX hP n (i + 1) _ _ _ (by omega) b1 (fun j hj => by rw [o 108 (by decide) (by decide)]; exact h8 j hj) b2 (by rw [o 0 (by decide) (by decide)]; exact hF)
      refine ⟨R', r1, fun g => ?_⟩
      have hk : P i * k_g2 B np nc X F g i = P i * (10 - X) * g (k_st B np nc F i) + P i * X * g (k_st B np nc 0 i) := by
        unfold k_g2
        rw [Nat.mul_add, Nat.mul_assoc, Nat.mul_assoc]
      have s1 := k_st_s (B := B) (np := np) (nc := nc) (f := F) i81
      have s0 := k_st_s (B := B) (np := np) (nc := nc) (f := 0) i81
      rw [r2 g, sF_upd s0.2.2, sF_upd s1.2.2, sF_s (i := i) (n := n), hk]
      omega
theorem g_hour81_off {σ : sm_St} {x : Int32} {q : Nat} (h : q < 8 ∨ (16 ≤ q ∧ q ≠ 108 ∧ q ≠ 109)) : g_hour81 σ x q = σ q := by
  unfold g_hour81 sm_row
  rw [if_neg (by omega), g_spread_off (by omega) (by omega), if_neg (by omega)]
  exact g_copy_off (by omega)
theorem k_hour81 {B : Nat → Nat → Int32} {np nc X : Nat} {P : Nat → Nat} {σ : sm_St} (hB : w_ok B np nc) (hX : X ≤ 10) (hP : ∀ j, j < 81 → P j < 2 ^ 31) (h : w_ag np nc (sm_V σ 0) B) (h8 : ∀ j, j < 81 → σ 108 j = nI (P j)) : ∃ P' : Nat → Nat, (∀ j, j < 81 → g_hour81 σ (nI X) 108 j = nI (P' j)) ∧ ∀ g : Nat → Nat, sF (fun c => P' c * g c) 0 81 = sF (fun c => P c * k_g2 B np nc X (B 0 4) g c) 0 81 := by
  obtain ⟨bx, hx, ex⟩ := hB.x0
  obtain ⟨by_, hy, ey⟩ := hB.y0
  have hT : w_ag np nc (sm_V (sm_row (m_try σ) 109 (f_fill (m_try σ 109) 0 81)) 8) B := ((w_ag_c (σ := m_try σ) (σ' := sm_row (m_try σ) 109 (f_fill (m_try σ 109) 0 81)) 8 (fun i _ => by unfold sm_row; rw [if_neg (by decide)]) (fun q a b => by unfold sm_row; rw [if_neg (by omega)])).tr (w_copy hB.n1 hB.c1)).tr h
  have hI : k_I B np nc (by_ * 9 + bx) (sm_V (sm_row (m_try σ) 109 (f_fill (m_try σ 109) 0 81)) 8) := by
    refine ⟨fun i hi => ?_, fun m m1 m2 i hi => ?_⟩
    · have a := hT.1 i hi
      rcases (show i = 0 ∨ i = 1 ∨ i = 2 ∨ i = 3 ∨ i = 4 ∨ i = 5 ∨ i = 6 ∨ i = 7 by omega) with rfl | rfl | rfl | rfl | rfl | rfl | rfl | rfl
      · rw [a, ex, k_V0, if_pos rfl, show (by_ * 9 + bx) % 9 = bx by omega]
      · rw [a, ey, k_V0, if_neg (by decide), if_pos rfl, show (by_ * 9 + bx) / 9 = by_ by omega]
      · exact a
      · exact a
      · rfl
      · rfl
      · exact a
      · exact a
    · rw [k_Vm m1]
      exact hT.2 m m1 m2 i hi
  have o8 : ∀ j, j < 81 → sm_row (m_try σ) 109 (f_fill (m_try σ 109) 0 81) 108 j = nI (P j) := fun j hj => by
    unfold sm_row
    rw [if_neg (by decide)]
    exact (congrFun (g_copy_off (by omega)) j).trans (h8 j hj)
  have o9 : ∀ j, j < 81 → sm_row (m_try σ) 109 (f_fill (m_try σ 109) 0 81) 109 j = nI ((fun _ => 0) j) := fun j hj => by
    unfold sm_row f_fill
    rw [if_pos rfl]
    dsimp only
    rw [if_pos hj]
    rfl
  have o4 : sm_row (m_try σ) 109 (f_fill (m_try σ 109) 0 81) 0 4 = B 0 4 := by
    unfold sm_row
    rw [if_neg (by decide)]
    exact (congrFun (g_copy_off (by omega)) 4).trans (h.1 4 (by decide))
  obtain ⟨R', r1, r2⟩ := k_spread hB hX hP 81 0 _ _ _ (by decide) hI o8 o9 o4
  refine ⟨R', fun j hj => ?_, fun g => ?_⟩
  · rw [← r1 j hj]
    unfold g_hour81
    generalize g_spread (nI X) 81 0 (sm_row (m_try σ) 109 (f_fill (m_try σ 109) 0 81)) = Z
    unfold sm_row va_cpy
    rw [if_pos rfl]
    (try dsimp only)
    rw [if_pos ⟨Nat.zero_le _, by omega⟩, Nat.sub_zero, Nat.zero_add]
  · rw [r2 g, show (fun c => (fun _ => 0) c * g c) = fun _ => 0 from funext fun c => Nat.zero_mul _, sF_0, Nat.zero_add]
theorem k_gi_1 {B : Nat → Nat → Int32} {np nc X : Nat} {F : Int32} (hX : X ≤ 10) : ∀ n c, k_gi B np nc X F (fun _ => 1) n c = 10 ^ n
  | 0, _ => rfl
  | n + 1, c => by
    unfold k_gi k_g2
    rw [k_gi_1 hX n, k_gi_1 hX n, ← Nat.add_mul, Nat.pow_succ, Nat.mul_comm, show 10 - X + X = 10 by omega]
theorem k_lik {B : Nat → Nat → Int32} {np nc X M : Nat} (hB : w_ok B np nc) (hX : X ≤ 10) (hM : M < 2 ^ 31) (n : Nat) : ∀ (b : Nat) (P : Nat → Nat) (σ : sm_St), w_ag np nc (sm_V σ 0) B → (∀ j, j < 81 → σ 108 j = nI (P j)) → sF P 0 81 * 10 ^ n ≤ M → ∃ P' : Nat → Nat, (g_lik (nI X) n (nI b) σ).1 = nI (b * 10 ^ n) ∧ (∀ j, j < 81 → (g_lik (nI X) n (nI b) σ).2 108 j = nI (P' j)) ∧ ∀ g : Nat → Nat, sF (fun c => P' c * g c) 0 81 = sF (fun c => P c * k_gi B np nc X (B 0 4) g n c) 0 81 := by
  induction n with
  | zero =>
    intro b P σ h h8 hs
    refine ⟨P, ?_, ?_, fun g => ?_⟩
    · rw [Nat.pow_zero, Nat.mul_one, g_lik]
    · intro j hj
      rw [g_lik]
      exact h8 j hj
    · refine sF_c _ _ (fun j _ _ => ?_)
      rw [k_gi]
  | succ n ih =>
    intro b P σ h h8 hs
    have t1 : sF P 0 81 ≤ M := Nat.le_trans (Nat.le_mul_of_pos_right _ (Nat.pow_pos (by decide))) hs
    have hP : ∀ j, j < 81 → P j < 2 ^ 31 := fun j hj => by
      have := sF_le (f := P) 81 0 (Nat.zero_le j) (by omega)
      omega
    obtain ⟨P1, p1, p2⟩ := k_hour81 hB hX hP h h8
    have e1 : sF P1 0 81 = sF P 0 81 * 10 := by
      have a := p2 (fun _ => 1)
      have b1 : sF (fun c => P1 c * 1) 0 81 = sF P1 0 81 := sF_c _ _ (fun j _ _ => Nat.mul_one _)
      rw [b1] at a
      rw [a, ← sF_mul]
      refine sF_c _ _ (fun j _ _ => ?_)
      unfold k_g2
      rw [Nat.mul_one, Nat.mul_one, show 10 - X + X = 10 by omega]
    have hag : w_ag np nc (sm_V (g_hour81 σ (nI X)) 0) B := (w_ag_c (σ := σ) (σ' := g_hour81 σ (nI X)) 0 (fun i _ => by rw [g_hour81_off (Or.inl (by decide))]) (fun q a b => g_hour81_off (by omega))).tr h
    obtain ⟨P2, q1, q2, q3⟩ := ih (b * 10) P1 (g_hour81 σ (nI X)) hag p1 (by
      rw [e1, Nat.mul_assoc, ← Nat.pow_succ']
      exact hs)
    have eb : nI b * 10 = nI (b * 10) := by rw [show (10 : Int32) = nI 10 from rfl, pk_mul]
    refine ⟨P2, ?_, fun j hj => ?_, fun g => ?_⟩
    · rw [g_lik, eb, q1, Nat.mul_assoc, ← Nat.pow_succ']
    · rw [g_lik, eb]
      exact q2 j hj
    · rw [q3 g, p2]
      refine sF_c _ _ (fun j _ _ => ?_)
      rw [k_gi]
/-- the ship is here -/
def k_dl (here : Nat) : Nat → Nat := fun c => if c = here then 1 else 0
theorem k_class {B : Nat → Nat → Int32} {np nc n X bx by_ : Nat} {σ : sm_St} (hB : w_ok B np nc) (hX : X ≤ 10) (hn : n < 8) (h : w_ag np nc (sm_V σ 0) B) (hx : bx < 9) (hy : by_ < 9) (ex : B 0 0 = nI bx) (ey : B 0 1 = nI by_) (w : Int32) : (m_lik w (σ 0 1 * 9 + σ 0 0) n (g_lik (nI X) n 1 (m_chance0 σ))).1 = (if w = 0 then nI (k_gi B np nc X (B 0 4) (k_dl (by_ * 9 + bx)) n (by_ * 9 + bx) / Nat.gcd (k_gi B np nc X (B 0 4) (k_dl (by_ * 9 + bx)) n (by_ * 9 + bx)) (10 ^ n)) else nI (10 ^ n / Nat.gcd (k_gi B np nc X (B 0 4) (k_dl (by_ * 9 + bx)) n (by_ * 9 + bx)) (10 ^ n))) := by
  have hh : by_ * 9 + bx < 81 := by omega
  have eh : σ 0 1 * 9 + σ 0 0 = nI (by_ * 9 + bx) := by
    have a0 : σ 0 0 = nI bx := (h.1 0 (by decide)).trans ex
    have a1 : σ 0 1 = nI by_ := (h.1 1 (by decide)).trans ey
    rw [a0, a1, show (9 : Int32) = nI 9 from rfl, pk_mul, nI_add]
  generalize by_ * 9 + bx = here at hh eh ⊢
  rw [eh]
  have e8 : ∀ j, j < 81 → m_chance0 σ 108 j = nI (if j = here then 1 else 0) := fun j hj => by
    unfold m_chance0
    rw [eh, r_set_nI rfl hh (by decide)]
    by_cases e : j = here
    · subst e
      rw [sm_set_eq, if_pos rfl]
      rfl
    · rw [sm_set_ne e, if_neg e]
      unfold sm_row f_fill
      rw [if_pos rfl]
      (try dsimp only)
      rw [if_pos hj]
      rfl
  have e0 : w_ag np nc (sm_V (m_chance0 σ) 0) B := (w_ag_c 0 (fun i _ => by
    unfold m_chance0
    rw [r_set_off (by decide)]
    rfl) (fun q a b => by
    unfold m_chance0
    rw [r_set_off (by omega)]
    unfold sm_row
    rw [if_neg (by omega)])).tr h
  have one : ∀ g : Nat → Nat, sF (fun c => (if c = here then 1 else 0) * g c) 0 81 = g here := fun g => by
    rw [sF_one, if_pos (by omega), Nat.one_mul]
  have t1 : sF (fun c => if c = here then 1 else 0) 0 81 = 1 := by
    exact (sF_c (g := fun c => (if c = here then 1 else 0) * 1) 81 0 (fun j _ _ => (Nat.mul_one _).symm)).trans (one (fun _ => 1))
  have hW : 10 ^ n ≤ 10 ^ 7 := Nat.pow_le_pow_right (by decide) (by omega)
  have e7 : (10 : Nat) ^ 7 = 10000000 := by decide
  obtain ⟨P', p1, p2, p3⟩ := k_lik (M := 10 ^ n) hB hX (by omega) n 1 _ _ e0 e8 (by rw [t1, Nat.one_mul]; exact Nat.le_refl _)
  have v1 : P' here = k_gi B np nc X (B 0 4) (k_dl here) n here := by
    have a := p3 (k_dl here)
    rw [one] at a
    rw [← a]
    have b : sF (fun c => P' c * k_dl here c) 0 81 = sF (fun c => (if c = here then 1 else 0) * P' c) 0 81 := sF_c _ _ (fun j _ _ => Nat.mul_comm _ _)
    rw [b, one]
  have v2 : P' here ≤ 10 ^ n := by
    have a := p3 (fun _ => 1)
    rw [one, k_gi_1 hX] at a
    rw [← a]
    have := sF_le (f := fun c => P' c * 1) 81 0 (Nat.zero_le here) (by omega)
    omega
  unfold m_lik m_part
  dsimp only
  rw [show (1 : Int32) = nI 1 from rfl, p1, r_at_nI rfl hh (by decide), p2 here hh, Nat.one_mul, g_low hn v2, v1]
theorem k_VE {τ τ0 : sm_St} (h : ∀ q, q ≠ 126 → τ q = τ0 q) : q_V τ = q_V τ0 := by
  funext m
  match m with
  | 0 => exact q_V0_e (h 110 (by decide))
  | 1 => exact h 114 (by decide)
  | 2 => exact h 115 (by decide)
  | 3 => exact h 116 (by decide)
  | 4 => exact h 117 (by decide)
  | 5 => exact h 111 (by decide)
  | 6 => exact h 112 (by decide)
  | n + 7 => exact h 113 (by decide)
theorem k_ls {np nc n X bx by_ : Nat} {τ0 : sm_St} (hB : w_ok (q_V τ0) np nc) (hx : bx < 9) (hy : by_ < 9) (ex : τ0 110 7 = nI bx) (ey : τ0 110 8 = nI by_) : ∀ (m d s : Nat) (τ : sm_St), (∀ q, q ≠ 126 → τ q = τ0 q) → (q_ls np nc n X m d s τ).1 = s + sF (fun d => (k_li (q_V τ0) np nc X (τ0 110 10) d n 0 1 (by_ * 9 + bx)).1 * k_dl (by_ * 9 + bx) (k_li (q_V τ0) np nc X (τ0 110 10) d n 0 1 (by_ * 9 + bx)).2) d m ∧ ∀ q, q ≠ 126 → (q_ls np nc n X m d s τ).2 q = τ0 q
  | 0, d, s, τ, h => ⟨rfl, h⟩
  | m + 1, d, s, τ, h => by
    have l7 : q_lays τ 126 0 110 7 = nI bx := by rw [q_lays_off (by decide), h 110 (by decide), ex]
    have l8 : q_lays τ 126 0 110 8 = nI by_ := by rw [q_lays_off (by decide), h 110 (by decide), ey]
    have lF : q_lays τ 126 0 110 10 = τ0 110 10 := by rw [q_lays_off (by decide), h 110 (by decide)]
    have hI : k_I (q_V τ0) np nc (by_ * 9 + bx) (q_V (q_lays τ 126 0)) := by
      rw [w_lays_V (by decide), k_VE h]
      refine ⟨fun i hi => ?_, fun m m1 m2 i hi => by rw [k_Vm m1]⟩
      rcases (show i = 0 ∨ i = 1 ∨ i = 2 ∨ i = 3 ∨ i = 4 ∨ i = 5 ∨ i = 6 ∨ i = 7 by omega) with rfl | rfl | rfl | rfl | rfl | rfl | rfl | rfl
      · rw [k_V0, if_pos rfl, show (by_ * 9 + bx) % 9 = bx by omega]
        exact ex
      · rw [k_V0, if_neg (by decide), if_pos rfl, show (by_ * 9 + bx) / 9 = by_ by omega]
        exact ey
      · rfl
      · rfl
      · rfl
      · rfl
      · rfl
      · rfl
    obtain ⟨a1, a2, a3⟩ := k_li_m (X := X) (F := τ0 110 10) (d := d) hB n 0 1 (by_ * 9 + bx) _ (by omega) hI
    have tr : w_tr τ (q_li1 np nc n X d τ).2 := w_tr_li n 0 1 _ (w_tr_0 τ)
    have hb : ∀ q, q ≠ 126 → q_li2 np nc n X d τ q = τ0 q := fun q hq => (w_tr_b tr q hq).trans (h q hq)
    obtain ⟨r1, r2⟩ := k_ls (m := m) hB hx hy ex ey (d := d + 1) (s := s + (if (q_li1 np nc n X d τ).2 110 7 = q_lays τ 126 0 110 7 ∧ (q_li1 np nc n X d τ).2 110 8 = q_lays τ 126 0 110 8 then (q_li1 np nc n X d τ).1 else 0)) (τ := q_li2 np nc n X d τ) hb
    unfold q_ls
    refine ⟨?_, r2⟩
    rw [r1, sF_s]
    have e : (if (q_li1 np nc n X d τ).2 110 7 = q_lays τ 126 0 110 7 ∧ (q_li1 np nc n X d τ).2 110 8 = q_lays τ 126 0 110 8 then (q_li1 np nc n X d τ).1 else 0) = (k_li (q_V τ0) np nc X (τ0 110 10) d n 0 1 (by_ * 9 + bx)).1 * k_dl (by_ * 9 + bx) (k_li (q_V τ0) np nc X (τ0 110 10) d n 0 1 (by_ * 9 + bx)).2 := by
      unfold q_li1
      rw [lF, l7, l8, a1]
      have b0 : (q_li np nc d X (τ0 110 10) n 0 1 (q_lays τ 126 0)).2 110 7 = nI ((k_li (q_V τ0) np nc X (τ0 110 10) d n 0 1 (by_ * 9 + bx)).2 % 9) := a2.1 0 (by decide)
      have b1 : (q_li np nc d X (τ0 110 10) n 0 1 (q_lays τ 126 0)).2 110 8 = nI ((k_li (q_V τ0) np nc X (τ0 110 10) d n 0 1 (by_ * 9 + bx)).2 / 9) := a2.1 1 (by decide)
      rw [b0, b1]
      generalize k_li (q_V τ0) np nc X (τ0 110 10) d n 0 1 (by_ * 9 + bx) = p at a3
      unfold k_dl
      by_cases e : p.2 = by_ * 9 + bx
      · rw [if_pos e, if_pos ⟨by rw [e, show (by_ * 9 + bx) % 9 = bx by omega], by rw [e, show (by_ * 9 + bx) / 9 = by_ by omega]⟩, Nat.mul_one]
      · rw [if_neg e, if_neg (fun hh => e (by
          have h1 := congrArg Int32.toInt hh.1
          have h2 := congrArg Int32.toInt hh.2
          rw [nI_toInt (by omega), nI_toInt (by omega)] at h1 h2
          omega)), Nat.mul_zero]
    rw [e]
    omega
theorem w_likely {σ τ : sm_St} {np nc : Nat} (h : w_now σ τ np nc) (t x w : Int32) : (m_likely σ t x w).1 = (p_likely τ np nc t x w).1 := by
  unfold m_likely p_likely
  by_cases hc : sm_win t 0 7 = true ∧ sm_win x 0 10 = true ∧ sm_win w 0 1 = true
  · rw [if_pos hc, if_pos hc]
    obtain ⟨n, hn, rfl⟩ := sm_win_nI (m := 7) rfl (by decide) hc.1
    obtain ⟨X, hX, rfl⟩ := sm_win_nI (m := 10) rfl (by decide) hc.2.1
    rw [nI_clamp (by omega), nI_clamp (by omega)]
    obtain ⟨bx, hx, ex⟩ := h.2.1.x0
    obtain ⟨by_, hy, ey⟩ := h.2.1.y0
    rw [k_class h.2.1 hX (by omega) h.1 hx hy ex ey w]
    obtain ⟨r1, -⟩ := k_ls (n := n) (X := X) (τ0 := τ) h.2.1 hx hy ex ey (2 ^ n) 0 0 τ (fun _ _ => rfl)
    have e := k_E_gi (B := q_V τ) (np := np) (nc := nc) (X := X) (F := τ 110 10) (here := by_ * 9 + bx) (g := k_dl (by_ * 9 + bx)) n (by omega)
    unfold k_E at e
    rw [Nat.zero_add, e] at r1
    unfold q_endl
    dsimp only
    rw [r1]
    rfl
  · rw [if_neg hc, if_neg hc]
theorem w_likely_m {τ : sm_St} {np nc : Nat} {t x w : Int32} (h : w_ok (q_V τ) np nc) : ∀ q, q ≠ 126 → (p_likely τ np nc t x w).2 q = τ q := by
  unfold p_likely
  split
  · obtain ⟨bx, hx, ex⟩ := h.x0
    obtain ⟨by_, hy, ey⟩ := h.y0
    exact (k_ls (τ0 := τ) h hx hy ex ey _ 0 0 τ (fun _ _ => rfl)).2
  · exact fun q _ => rfl
theorem g_lik_off {x : Int32} {q : Nat} (h : q < 8 ∨ (16 ≤ q ∧ q ≠ 108 ∧ q ≠ 109)) : ∀ (n : Nat) (b : Int32) (σ : sm_St), (g_lik x n b σ).2 q = σ q
  | 0, _, _ => rfl
  | n + 1, b, σ => by
    unfold g_lik
    rw [g_lik_off h n, g_hour81_off h]
theorem w_likely_c {σ : sm_St} {t x w : Int32} {q : Nat} (h : q < 8 ∨ (16 ≤ q ∧ q ≠ 108 ∧ q ≠ 109)) : (m_likely σ t x w).2 q = σ q := by
  unfold m_likely
  split
  · unfold m_lik
    dsimp only
    rw [g_lik_off h]
    unfold m_chance0
    rw [r_set_off (by omega)]
    unfold sm_row
    rw [if_neg (by omega)]
  · rfl

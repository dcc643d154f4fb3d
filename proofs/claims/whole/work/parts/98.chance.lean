/-! likely: a cell, the next cell with and without wind -/
def k_V (B : Nat → Nat → Int32) (c : Nat) (f h : Int32) : Nat → Nat → Int32 := fun m i => if m = 0 then (if i = 0 then nI (c % 9) else if i = 1 then nI (c / 9) else if i = 4 then f else if i = 5 then h else B 0 i) else B m i
theorem k_V0 {B : Nat → Nat → Int32} {c : Nat} {f h : Int32} {i : Nat} : k_V B c f h 0 i = (if i = 0 then nI (c % 9) else if i = 1 then nI (c / 9) else if i = 4 then f else if i = 5 then h else B 0 i) := rfl
theorem k_Vm {B : Nat → Nat → Int32} {c : Nat} {f h : Int32} {m : Nat} (hm : 1 ≤ m) : k_V B c f h m = B m := by
  funext i
  unfold k_V
  rw [if_neg (by omega)]
def k_d (B : Nat → Nat → Int32) (np nc c : Nat) (f : Int32) : Int32 := q_goes (k_V B c f 0) np nc
def k_st (B : Nat → Nat → Int32) (np nc : Nat) (f : Int32) (c : Nat) : Nat := (nI (c / 9) + q_dy (k_d B np nc c f)).toNatClampNeg * 9 + (nI (c % 9) + q_dx (k_d B np nc c f)).toNatClampNeg
theorem k_st_s {B : Nat → Nat → Int32} {np nc c : Nat} {f : Int32} (hc : c < 81) : nI (c % 9) + q_dx (k_d B np nc c f) = nI (k_st B np nc f c % 9) ∧ nI (c / 9) + q_dy (k_d B np nc c f) = nI (k_st B np nc f c / 9) ∧ k_st B np nc f c < 81 := by
  obtain ⟨k, hk, e, h⟩ := w_goes_in (k_V B c f 0) np nc
  unfold k_st k_d
  rw [e]
  rcases h with rfl | h
  · rw [show q_dx (nI 0) = 0 from rfl, show q_dy (nI 0) = 0 from rfl, Int32.add_zero, Int32.add_zero, nI_clamp (by omega), nI_clamp (by omega)]
    rw [show c / 9 * 9 + c % 9 = c by omega]
    exact ⟨rfl, rfl, hc⟩
  · have h : sm_cell (nI (c % 9) + q_dx (nI k)) (nI (c / 9) + q_dy (nI k)) = true := h
    obtain ⟨⟨a, ha, ea⟩, ⟨b, hb, eb⟩⟩ := w_cell h
    rw [ea, eb, nI_clamp (by omega), nI_clamp (by omega)]
    rw [show (b * 9 + a) % 9 = a by omega, show (b * 9 + a) / 9 = b by omega]
    exact ⟨rfl, rfl, by omega⟩
/-- V is the view B with the ship at c, whatever the wind's force and the hour -/
def k_I (B : Nat → Nat → Int32) (np nc c : Nat) (V : Nat → Nat → Int32) : Prop := w_ag np nc V (k_V B c (V 0 4) (V 0 5))
theorem k_ok {B : Nat → Nat → Int32} {np nc c : Nat} {f h : Int32} (hB : w_ok B np nc) (hc : c < 81) : w_ok (k_V B c f h) np nc := by
  obtain ⟨h1, h2, h3, h4, h5, h6, h7, h8, h9, h10⟩ := hB
  exact ⟨h1, h2, h3, h4, h5, ⟨c % 9, by omega, rfl⟩, ⟨c / 9, by omega, rfl⟩, h8, h9, h10⟩
theorem k_goes_h {B : Nat → Nat → Int32} {np nc c : Nat} {f h : Int32} : q_goes (k_V B c f h) np nc = k_d B np nc c f := w_goes_5 ⟨fun i hi => by
  rw [k_V0, k_V0]
  have : i ≠ 5 := by omega
  rw [if_neg this, if_neg this], fun m hm => by rw [k_Vm hm, k_Vm hm]⟩ np nc
theorem k_goesA {B V : Nat → Nat → Int32} {np nc c : Nat} (hB : w_ok B np nc) (hc : c < 81) (h : k_I B np nc c V) : f_goes V = k_d B np nc c (V 0 4) := (w_goesA h (k_ok hB hc)).trans k_goes_h
theorem k_goesM {B V : Nat → Nat → Int32} {np nc c : Nat} (hB : w_ok B np nc) (h : k_I B np nc c V) : q_goes V np nc = k_d B np nc c (V 0 4) := (w_goes_w h hB.n1 hB.c1).trans k_goes_h
/-- a view with the ship elsewhere -/
theorem k_I_to {B V W : Nat → Nat → Int32} {np nc c c' : Nat} (h : k_I B np nc c V) (h0 : W 0 0 = nI (c' % 9)) (h1 : W 0 1 = nI (c' / 9)) (h2 : W 0 2 = V 0 2) (h3 : W 0 3 = V 0 3) (h6 : W 0 6 = V 0 6) (h7 : W 0 7 = V 0 7) (hr : ∀ m, 1 ≤ m → m < 8 → W m = V m) : k_I B np nc c' W := by
  refine ⟨fun i hi => ?_, fun m m1 m2 i hi => ?_⟩
  · rcases (show i = 0 ∨ i = 1 ∨ i = 2 ∨ i = 3 ∨ i = 4 ∨ i = 5 ∨ i = 6 ∨ i = 7 by omega) with rfl | rfl | rfl | rfl | rfl | rfl | rfl | rfl
    · exact h0
    · exact h1
    · exact h2.trans (h.1 2 (by decide))
    · exact h3.trans (h.1 3 (by decide))
    · rfl
    · rfl
    · exact h6.trans (h.1 6 (by decide))
    · exact h7.trans (h.1 7 (by decide))
  · rw [hr m m1 m2, k_Vm m1]
    have := h.2 m m1 m2 i hi
    rw [k_Vm m1] at this
    exact this
theorem k_hour_c {B : Nat → Nat → Int32} {np nc c : Nat} {σ : sm_St} (hB : w_ok B np nc) (hc : c < 81) (h : k_I B np nc c (sm_V σ 8)) : k_I B np nc (k_st B np nc (σ 8 4) c) (sm_V (g_hour σ 8) 8) ∧ g_hour σ 8 8 0 = nI (k_st B np nc (σ 8 4) c % 9) ∧ g_hour σ 8 8 1 = nI (k_st B np nc (σ 8 4) c / 9) := by
  have e : f_goes (sm_V σ 8) = k_d B np nc c (σ 8 4) := k_goesA hB hc h
  obtain ⟨s0, s1, -⟩ := k_st_s (B := B) (np := np) (nc := nc) (f := σ 8 4) hc
  obtain ⟨t, ht, et, -⟩ := w_goes_in (k_V B c (σ 8 4) 0) np nc
  have et : k_d B np nc c (σ 8 4) = nI t := et
  have a0 : σ 8 0 = nI (c % 9) := h.1 0 (by decide)
  have a1 : σ 8 1 = nI (c / 9) := h.1 1 (by decide)
  have x0 : g_hour σ 8 8 0 = nI (k_st B np nc (σ 8 4) c % 9) := by
    rw [g_hour_0, e, et, w_sx t ht, a0, ← et, s0]
  have x1 : g_hour σ 8 8 1 = nI (k_st B np nc (σ 8 4) c / 9) := by
    rw [g_hour_1, e, et, w_sy t ht, a1, ← et, s1]
  refine ⟨k_I_to h x0 x1 ?_ ?_ ?_ ?_ (fun m m1 m2 => ?_), x0, x1⟩
  · exact g_hour_i (by decide) (by decide) (by decide) (by decide)
  · exact g_hour_i (by decide) (by decide) (by decide) (by decide)
  · exact g_hour_i (by decide) (by decide) (by decide) (by decide)
  · exact g_hour_i (by decide) (by decide) (by decide) (by decide)
  · exact w_hour_f (by omega)
theorem k_hour_m {B : Nat → Nat → Int32} {np nc c : Nat} {τ : sm_St} (hB : w_ok B np nc) (hc : c < 81) (h : k_I B np nc c (q_V τ)) : k_I B np nc (k_st B np nc (τ 110 10) c) (q_V (q_hour τ np nc)) := by
  have e : q_goes (q_V τ) np nc = k_d B np nc c (τ 110 10) := k_goesM hB h
  obtain ⟨s0, s1, -⟩ := k_st_s (B := B) (np := np) (nc := nc) (f := τ 110 10) hc
  have a0 : τ 110 7 = nI (c % 9) := h.1 0 (by decide)
  have a1 : τ 110 8 = nI (c / 9) := h.1 1 (by decide)
  refine k_I_to h ?_ ?_ ?_ ?_ ?_ ?_ (fun m m1 m2 => q_hour_Vm m1)
  · show q_hour τ np nc 110 7 = _
    rw [q_hour_7, e, a0, s0]
  · show q_hour τ np nc 110 8 = _
    rw [q_hour_8, e, a1, s1]
  · show q_hour τ np nc 110 2 = _
    rw [q_hour_o (by decide) (by decide) (by decide)]
    rfl
  · show q_hour τ np nc 110 9 = _
    rw [q_hour_o (by decide) (by decide) (by decide)]
    rfl
  · show q_hour τ np nc 110 0 + q_hour τ np nc 110 28 = _
    rw [q_hour_o (by decide) (by decide) (by decide), q_hour_o (by decide) (by decide) (by decide)]
    rfl
  · show q_hour τ np nc 110 1 + q_hour τ np nc 110 29 = _
    rw [q_hour_o (by decide) (by decide) (by decide), q_hour_o (by decide) (by decide) (by decide)]
    rfl
theorem k_wind_m {B : Nat → Nat → Int32} {np nc c : Nat} {τ : sm_St} {v : Int32} (h : k_I B np nc c (q_V τ)) : k_I B np nc c (q_V (sm_set τ 110 10 v)) := by
  have o : ∀ j, j ≠ 10 → sm_set τ 110 10 v 110 j = τ 110 j := fun j hj => sm_set_ne hj
  refine k_I_to h ?_ ?_ ?_ ?_ ?_ ?_ (fun m m1 m2 => ?_)
  · exact (o 7 (by decide)).trans (h.1 0 (by decide))
  · exact (o 8 (by decide)).trans (h.1 1 (by decide))
  · exact o 2 (by decide)
  · exact o 9 (by decide)
  · show sm_set τ 110 10 v 110 0 + sm_set τ 110 10 v 110 28 = _
    rw [o 0 (by decide), o 28 (by decide)]
    rfl
  · show sm_set τ 110 10 v 110 1 + sm_set τ 110 10 v 110 29 = _
    rw [o 1 (by decide), o 29 (by decide)]
    rfl
  · by_cases e : m < 5
    · rw [q_V4 m1 (by omega), q_V4 m1 (by omega)]
      exact sm_set_off (by omega)
    · rw [q_V7 (by omega) m2, q_V7 (by omega) m2]
      exact sm_set_off (by omega)
/-- a test over the next cells -/
def k_g2 (B : Nat → Nat → Int32) (np nc X : Nat) (F : Int32) (g : Nat → Nat) : Nat → Nat := fun c => (10 - X) * g (k_st B np nc F c) + X * g (k_st B np nc 0 c)
def k_gi (B : Nat → Nat → Int32) (np nc X : Nat) (F : Int32) (g : Nat → Nat) : Nat → Nat → Nat
  | 0 => g
  | n + 1 => k_g2 B np nc X F (k_gi B np nc X F g n)
theorem k_gi_s {B : Nat → Nat → Int32} {np nc X : Nat} {F : Int32} {g : Nat → Nat} : ∀ n, k_gi B np nc X F (k_g2 B np nc X F g) n = k_g2 B np nc X F (k_gi B np nc X F g n)
  | 0 => rfl
  | n + 1 => by
    unfold k_gi
    rw [k_gi_s n]
/-! the model's sum over what may drop -/
def k_li (B : Nat → Nat → Int32) (np nc X : Nat) (F : Int32) (d : Nat) : Nat → Nat → Nat → Nat → Nat × Nat
  | 0, _, w, c => (w, c)
  | m + 1, k, w, c => k_li B np nc X F d m (k + 1) (w * (if q_has (nI d) (nI k) = true then X else 10 - X)) (k_st B np nc (if q_has (nI d) (nI k) = true then 0 else F) c)
section
variable {B : Nat → Nat → Int32} {np nc X : Nat} {F : Int32}
theorem k_li_c {d d' : Nat} : ∀ (m k w c : Nat), (∀ j, k ≤ j → j < k + m → q_has (nI d) (nI j) = q_has (nI d') (nI j)) → k_li B np nc X F d m k w c = k_li B np nc X F d' m k w c
  | 0, _, _, _, _ => rfl
  | m + 1, k, w, c, h => by
    unfold k_li
    rw [h k (Nat.le_refl _) (by omega), k_li_c m (k + 1) _ _ (fun j a b => h j (by omega) (by omega))]
theorem k_li_s {d : Nat} : ∀ (m k w c : Nat), k_li B np nc X F d (m + 1) k w c = ((k_li B np nc X F d m k w c).1 * (if q_has (nI d) (nI (k + m)) = true then X else 10 - X), k_st B np nc (if q_has (nI d) (nI (k + m)) = true then 0 else F) (k_li B np nc X F d m k w c).2)
  | 0, _, _, _ => rfl
  | m + 1, k, w, c => by
    rw [k_li, k_li_s m (k + 1), show k + 1 + m = k + (m + 1) by omega]
    rfl
def k_E (B : Nat → Nat → Int32) (np nc X : Nat) (F : Int32) (here : Nat) (h : Nat) (g : Nat → Nat) : Nat := sF (fun d => (k_li B np nc X F d h 0 1 here).1 * g (k_li B np nc X F d h 0 1 here).2) 0 (2 ^ h)
theorem k_bits : ∀ h, h < 7 → ∀ d, d < 2 ^ h → (q_has (nI d) (nI h) = false ∧ q_has (nI (2 ^ h + d)) (nI h) = true ∧ ∀ k, k < h → q_has (nI (2 ^ h + d)) (nI k) = q_has (nI d) (nI k)) := by decide +kernel
theorem k_E_s {here : Nat} {g : Nat → Nat} {h : Nat} (hh : h < 7) : k_E B np nc X F here (h + 1) g = k_E B np nc X F here h (k_g2 B np nc X F g) := by
  unfold k_E
  rw [show 2 ^ (h + 1) = 2 ^ h + 2 ^ h by rw [Nat.pow_succ]; omega, sF_add, Nat.zero_add, show sF (fun d => (k_li B np nc X F d (h + 1) 0 1 here).1 * g (k_li B np nc X F d (h + 1) 0 1 here).2) (2 ^ h) (2 ^ h) = sF (fun d => (k_li B np nc X F (2 ^ h + d) (h + 1) 0 1 here).1 * g (k_li B np nc X F (2 ^ h + d) (h + 1) 0 1 here).2) 0 (2 ^ h) from sF_shift (k := 2 ^ h) (2 ^ h) 0, ← sF_sum]
  refine sF_c _ _ (fun d _ hd => ?_)
  obtain ⟨b1, b2, b3⟩ := k_bits h hh d (by omega)
  rw [k_li_s, k_li_s, Nat.zero_add, b1, b2, if_neg (by decide), if_neg (by decide), if_pos rfl, if_pos rfl, k_li_c (d := 2 ^ h + d) (d' := d) h 0 1 here (fun j _ hj => b3 j (by omega))]
  dsimp only
  unfold k_g2
  rw [Nat.mul_add, Nat.mul_assoc, Nat.mul_assoc]
theorem k_E_gi {here : Nat} {g : Nat → Nat} : ∀ h, h < 8 → k_E B np nc X F here h g = k_gi B np nc X F g h here
  | 0, _ => by
    show 1 * g here + 0 = g here
    rw [Nat.one_mul, Nat.add_zero]
  | h + 1, hh => by
    rw [k_E_s (by omega)]
    have : ∀ g', k_E B np nc X F here h g' = k_gi B np nc X F g' h here := fun g' => k_E_gi h (by omega)
    rw [this, k_gi_s]
    rfl
theorem w_tr_li {τ : sm_St} {d : Nat} {f : Int32} : ∀ (m k w : Nat) (τ1 : sm_St), w_tr τ τ1 → w_tr τ (q_li np nc d X f m k w τ1).2
  | 0, _, _, _, h => h
  | m + 1, k, w, τ1, h => by
    unfold q_li
    exact w_tr_li m (k + 1) _ _ (w_tr_hour (w_tr_set (by omega) h))
theorem k_li_m {d : Nat} (hB : w_ok B np nc) : ∀ (m k w c : Nat) (τ : sm_St), c < 81 → k_I B np nc c (q_V τ) → (q_li np nc d X F m k w τ).1 = (k_li B np nc X F d m k w c).1 ∧ k_I B np nc (k_li B np nc X F d m k w c).2 (q_V (q_li np nc d X F m k w τ).2) ∧ (k_li B np nc X F d m k w c).2 < 81
  | 0, _, _, _, _, hc, h => ⟨rfl, h, hc⟩
  | m + 1, k, w, c, τ, hc, h => by
    have h1 := k_hour_m hB hc (k_wind_m (v := if q_has (nI d) (nI k) = true then 0 else F) h)
    rw [sm_set_eq] at h1
    have := k_li_m (d := d) hB m (k + 1) (w * (if q_has (nI d) (nI k) = true then X else 10 - X)) _ _ (k_st_s (B := B) (np := np) (nc := nc) (f := if q_has (nI d) (nI k) = true then 0 else F) hc).2.2 h1
    unfold q_li k_li
    exact this
end

/-! sums of numbers; lowest terms by 2 and 5 -/
def sF (f : Nat → Nat) : Nat → Nat → Nat
  | _, 0 => 0
  | i, n + 1 => f i + sF f (i + 1) n
theorem sF_c {f g : Nat → Nat} : ∀ (n i : Nat), (∀ j, i ≤ j → j < i + n → f j = g j) → sF f i n = sF g i n
  | 0, _, _ => rfl
  | n + 1, i, h => by
    unfold sF
    rw [h i (Nat.le_refl _) (by omega), sF_c n (i + 1) (fun j a b => h j (by omega) (by omega))]
theorem sF_s {f : Nat → Nat} {i n : Nat} : sF f i (n + 1) = f i + sF f (i + 1) n := rfl
theorem sF_n {f : Nat → Nat} {i : Nat} : sF f i 0 = 0 := rfl
theorem sF_add {f : Nat → Nat} : ∀ (a i b : Nat), sF f i (a + b) = sF f i a + sF f (i + a) b
  | 0, i, b => by rw [Nat.zero_add, Nat.add_zero]; unfold sF; rw [Nat.zero_add]
  | a + 1, i, b => by
    rw [show a + 1 + b = (a + b) + 1 by omega, sF_s, sF_s, sF_add a (i + 1) b, show i + (a + 1) = i + 1 + a by omega]
    omega
theorem sF_shift {f : Nat → Nat} {k : Nat} : ∀ (n i : Nat), sF f (k + i) n = sF (fun j => f (k + j)) i n
  | 0, _ => rfl
  | n + 1, i => by
    unfold sF
    rw [show k + i + 1 = k + (i + 1) by omega, sF_shift n (i + 1)]
theorem sF_sum {f g : Nat → Nat} : ∀ (n i : Nat), sF (fun j => f j + g j) i n = sF f i n + sF g i n
  | 0, _ => rfl
  | n + 1, i => by
    unfold sF
    rw [sF_sum n (i + 1)]
    omega
theorem sF_0 : ∀ (n i : Nat), sF (fun _ => 0) i n = 0
  | 0, _ => rfl
  | n + 1, i => by
    unfold sF
    rw [sF_0 n (i + 1)]
theorem sF_mul {f : Nat → Nat} {k : Nat} : ∀ (n i : Nat), sF (fun j => f j * k) i n = sF f i n * k
  | 0, _ => by unfold sF; rw [Nat.zero_mul]
  | n + 1, i => by
    unfold sF
    rw [sF_mul n (i + 1), Nat.add_mul]
theorem sF_le {f : Nat → Nat} {j : Nat} : ∀ (n i : Nat), i ≤ j → j < i + n → f j ≤ sF f i n
  | 0, _, _, _ => by omega
  | n + 1, i, h1, h2 => by
    unfold sF
    by_cases e : j = i
    · subst e
      omega
    · have := sF_le (f := f) (j := j) n (i + 1) (by omega) (by omega)
      omega
theorem sF_one {v : Nat} {t : Nat} {g : Nat → Nat} : ∀ (n i : Nat), sF (fun c => (if c = t then v else 0) * g c) i n = if i ≤ t ∧ t < i + n then v * g t else 0
  | 0, i => by
    rw [if_neg (by omega)]
    rfl
  | n + 1, i => by
    unfold sF
    rw [sF_one n (i + 1)]
    by_cases e : i = t
    · subst e
      rw [if_pos rfl, if_neg (by omega), if_pos (by omega), Nat.add_zero]
    · rw [if_neg e, Nat.zero_mul, Nat.zero_add]
      by_cases h : i + 1 ≤ t ∧ t < i + 1 + n
      · rw [if_pos h, if_pos (by omega)]
      · rw [if_neg h, if_neg (by omega)]
theorem sF_upd {P g : Nat → Nat} {t v n : Nat} (h : t < n) : sF (fun c => (if c = t then P c + v else P c) * g c) 0 n = sF (fun c => P c * g c) 0 n + v * g t := by
  have e : sF (fun c => (if c = t then P c + v else P c) * g c) 0 n = sF (fun c => P c * g c + (if c = t then v else 0) * g c) 0 n := sF_c n 0 (fun j _ _ => by
    by_cases e : j = t
    · rw [if_pos e, if_pos e, Nat.add_mul]
    · rw [if_neg e, if_neg e, Nat.zero_mul, Nat.add_zero])
  rw [e, sF_sum, sF_one, if_pos (by omega)]
def n_red1 (d : Nat) (p : Nat × Nat) : Nat × Nat := if p.1 % d = 0 ∧ p.2 % d = 0 then (p.1 / d, p.2 / d) else p
def n_red : Nat → Nat × Nat → Nat × Nat
  | 0, p => p
  | n + 1, p => n_red n (n_red1 5 (n_red1 2 p))
theorem n_cop {d g : Nat} (hd : d = 2 ∨ d = 5) (h : ¬ d ∣ g) : Nat.Coprime g d := by
  have h1 : Nat.gcd g d ∣ d := Nat.gcd_dvd_right g d
  have h2 : Nat.gcd g d ∣ g := Nat.gcd_dvd_left g d
  have h3 : Nat.gcd g d ≤ d := Nat.le_of_dvd (by omega) h1
  show Nat.gcd g d = 1
  generalize Nat.gcd g d = e at h1 h2 h3
  rcases hd with rfl | rfl
  · rcases (show e = 0 ∨ e = 1 ∨ e = 2 by omega) with rfl | rfl | rfl
    · exact absurd h1 (by decide)
    · rfl
    · exact absurd h2 h
  · rcases (show e = 0 ∨ e = 1 ∨ e = 2 ∨ e = 3 ∨ e = 4 ∨ e = 5 by omega) with rfl | rfl | rfl | rfl | rfl | rfl
    · exact absurd h1 (by decide)
    · rfl
    · exact absurd h1 (by decide)
    · exact absurd h1 (by decide)
    · exact absurd h1 (by decide)
    · exact absurd h2 h
theorem n_red1_g {d m : Nat} {p : Nat × Nat} (hd : d = 2 ∨ d = 5) (hb : 0 < p.2) (h : Nat.gcd p.1 p.2 ∣ d * m) : 0 < (n_red1 d p).2 ∧ Nat.gcd (n_red1 d p).1 (n_red1 d p).2 ∣ m ∧ (n_red1 d p).1 / Nat.gcd (n_red1 d p).1 (n_red1 d p).2 = p.1 / Nat.gcd p.1 p.2 ∧ (n_red1 d p).2 / Nat.gcd (n_red1 d p).1 (n_red1 d p).2 = p.2 / Nat.gcd p.1 p.2 := by
  obtain ⟨a, b⟩ := p
  have d0 : 0 < d := by omega
  unfold n_red1
  dsimp only at hb h ⊢
  by_cases hc : a % d = 0 ∧ b % d = 0
  · rw [if_pos hc]
    obtain ⟨a1, rfl⟩ := Nat.dvd_of_mod_eq_zero hc.1
    obtain ⟨b1, rfl⟩ := Nat.dvd_of_mod_eq_zero hc.2
    dsimp only
    rw [Nat.mul_div_cancel_left _ d0, Nat.mul_div_cancel_left _ d0]
    rw [Nat.gcd_mul_left] at h ⊢
    refine ⟨Nat.pos_of_ne_zero (fun e => by rw [e] at hb; omega), Nat.dvd_of_mul_dvd_mul_left d0 h, ?_, ?_⟩
    · rw [Nat.mul_div_mul_left _ _ d0]
    · rw [Nat.mul_div_mul_left _ _ d0]
  · rw [if_neg hc]
    dsimp only
    have hn : ¬ d ∣ Nat.gcd a b := fun hh => hc ⟨Nat.mod_eq_zero_of_dvd (Nat.dvd_trans hh (Nat.gcd_dvd_left a b)), Nat.mod_eq_zero_of_dvd (Nat.dvd_trans hh (Nat.gcd_dvd_right a b))⟩
    exact ⟨hb, (n_cop hd hn).dvd_of_dvd_mul_left h, rfl, rfl⟩
theorem n_red_g : ∀ (n : Nat) (p : Nat × Nat), 0 < p.2 → Nat.gcd p.1 p.2 ∣ 2 ^ n * 5 ^ n → n_red n p = (p.1 / Nat.gcd p.1 p.2, p.2 / Nat.gcd p.1 p.2)
  | 0, p, hb, h => by
    have e : Nat.gcd p.1 p.2 = 1 := Nat.dvd_one.mp h
    rw [e, Nat.div_one, Nat.div_one]
    rfl
  | n + 1, p, hb, h => by
    have e1 : 2 ^ (n + 1) * 5 ^ (n + 1) = 2 * (2 ^ n * 5 ^ (n + 1)) := by
      rw [Nat.pow_succ 2 n, Nat.mul_comm (2 ^ n) 2, Nat.mul_assoc]
    have e2 : 2 ^ n * 5 ^ (n + 1) = 5 * (2 ^ n * 5 ^ n) := by
      rw [Nat.pow_succ 5 n, ← Nat.mul_assoc, Nat.mul_comm _ 5]
    rw [e1] at h
    obtain ⟨a1, a2, a3, a4⟩ := n_red1_g (d := 2) (Or.inl rfl) hb h
    rw [e2] at a2
    obtain ⟨b1, b2, b3, b4⟩ := n_red1_g (d := 5) (Or.inr rfl) a1 a2
    unfold n_red
    rw [n_red_g n _ b1 b2, b3, b4, a3, a4]
theorem n_red1_le {d : Nat} {p : Nat × Nat} : (n_red1 d p).1 ≤ p.1 ∧ (n_red1 d p).2 ≤ p.2 := by
  unfold n_red1
  split
  · exact ⟨Nat.div_le_self _ _, Nat.div_le_self _ _⟩
  · exact ⟨Nat.le_refl _, Nat.le_refl _⟩
theorem nI_z0 {n : Nat} (h : n < 2 ^ 31) : nI n = 0 ↔ n = 0 := by
  refine ⟨fun e => ?_, fun e => by rw [e]; rfl⟩
  have e2 := congrArg Int32.toInt (show nI n = nI 0 from e)
  rw [nI_toInt h, nI_toInt (by decide)] at e2
  omega
theorem g_red1_n {d a b : Nat} {D : Int32} (e : D = nI d) (h0 : 0 < d) (hd : d < 2 ^ 31) (ha : a < 2 ^ 31) (hb : b < 2 ^ 31) : g_red1 D (nI a, nI b) = (nI (n_red1 d (a, b)).1, nI (n_red1 d (a, b)).2) := by
  unfold g_red1 n_red1
  dsimp only
  rw [w_m e ha h0 hd, w_m e hb h0 hd]
  have iff : (nI (a % d) = 0 ∧ nI (b % d) = 0) ↔ (a % d = 0 ∧ b % d = 0) := and_congr (nI_z0 (Nat.lt_of_le_of_lt (Nat.mod_le _ _) ha)) (nI_z0 (Nat.lt_of_le_of_lt (Nat.mod_le _ _) hb))
  by_cases hc : a % d = 0 ∧ b % d = 0
  · rw [if_pos (iff.mpr hc), if_pos hc, e, pk_div ha h0 hd, pk_div hb h0 hd]
  · rw [if_neg (fun hh => hc (iff.mp hh)), if_neg hc]
theorem g_red_n : ∀ (n a b : Nat), a < 2 ^ 31 → b < 2 ^ 31 → g_red n (nI a, nI b) = (nI (n_red n (a, b)).1, nI (n_red n (a, b)).2)
  | 0, _, _, _, _ => rfl
  | n + 1, a, b, ha, hb => by
    have l1 := n_red1_le (d := 2) (p := (a, b))
    have l2 := n_red1_le (d := 5) (p := n_red1 2 (a, b))
    dsimp only at l1
    unfold g_red n_red
    rw [g_red1_n (D := 2) (d := 2) rfl (by decide) (by decide) ha hb, g_red1_n (D := 5) (d := 5) rfl (by decide) (by decide) (Nat.lt_of_le_of_lt l1.1 ha) (Nat.lt_of_le_of_lt l1.2 hb)]
    exact g_red_n n _ _ (Nat.lt_of_le_of_lt (Nat.le_trans l2.1 l1.1) ha) (Nat.lt_of_le_of_lt (Nat.le_trans l2.2 l1.2) hb)
theorem g_low {n a : Nat} (hn : n < 8) (ha : a ≤ 10 ^ n) : g_red n (nI a, nI (10 ^ n)) = (nI (a / Nat.gcd a (10 ^ n)), nI (10 ^ n / Nat.gcd a (10 ^ n))) := by
  have hW : 10 ^ n ≤ 10 ^ 7 := Nat.pow_le_pow_right (by decide) (by omega)
  have e7 : (10 : Nat) ^ 7 = 10000000 := by decide
  have h0 : 0 < 10 ^ n := Nat.pow_pos (by decide)
  have hg : Nat.gcd a (10 ^ n) ∣ 2 ^ n * 5 ^ n := by
    rw [← Nat.mul_pow]
    exact Nat.gcd_dvd_right _ _
  rw [g_red_n n a (10 ^ n) (by omega) (by omega), n_red_g n (a, 10 ^ n) h0 hg]

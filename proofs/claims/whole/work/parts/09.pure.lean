/-! what a Field answers, as functions of its numbers: V 0 is the object, V 1.. its rows -/
def sm_V (σ : sm_St) (k m : Nat) : Nat → Int32 := σ (k + m)
theorem sm_V0 {σ : sm_St} {k i : Nat} : sm_V σ k 0 i = σ k i := rfl
theorem sm_set_eq {σ : sm_St} {k i : Nat} {v : Int32} : sm_set σ k i v k i = v := by simp [sm_set, upd]
theorem sm_set_ne {σ : sm_St} {k i j : Nat} {v : Int32} (h : j ≠ i) : sm_set σ k i v k j = σ k j := by simp [sm_set, upd, h]
theorem sm_set_off {σ : sm_St} {k i q : Nat} {v : Int32} (h : q ≠ k) : sm_set σ k i v q = σ q := by simp [sm_set, h]
theorem sm_set_set {σ : sm_St} {k i : Nat} {v w : Int32} : sm_set (sm_set σ k i v) k i w = sm_set σ k i w := by
  funext q
  by_cases h : q = k
  · subst h
    funext j
    by_cases hj : j = i <;> simp [sm_set, upd, hj]
  · simp [sm_set, h]
theorem sm_set_comm {σ : sm_St} {k i j : Nat} {v w : Int32} (h : i ≠ j) : sm_set (sm_set σ k i v) k j w = sm_set (sm_set σ k j w) k i v := by
  funext q
  by_cases hq : q = k
  · subst hq
    funext a
    by_cases hi : a = i
    · subst hi; simp [sm_set, upd, h]
    · by_cases hj : a = j
      · subst hj; simp [sm_set, upd, hi]
      · simp [sm_set, upd, hi, hj]
  · simp [sm_set, hq]
def f_ab (x : Int32) : Int32 := if 0 ≤ x then x else 0 - x
def f_hasP (V : Nat → Nat → Int32) (p : Int32) : Bool := decide (¬ p < 0 ∧ ¬ V 0 6 ≤ p)
def f_hasS (V : Nat → Nat → Int32) (c : Int32) : Bool := decide (¬ c < 0 ∧ ¬ V 0 7 ≤ c)
def f_isAt (V : Nat → Nat → Int32) (x y : Int32) : Bool := decide (V 0 0 = x ∧ V 0 1 = y)
def f_apart (V : Nat → Nat → Int32) (p : Int32) : Int32 := f_ab (r_at (V 1) 6 p - V 0 0) + f_ab (r_at (V 2) 6 p - V 0 1)
def f_near (V : Nat → Nat → Int32) (w : Int32) : Nat → Int32 × Int32
  | 0 => (-4, 0)
  | p + 1 => if r_at (V 3) 6 (nI p) = w ∧ r_at (V 4) 6 (nI p) = 0 ∧ ((f_near V w p).1 = -4 ∨ ¬ (f_near V w p).2 ≤ f_apart V (nI p)) then (nI p, f_apart V (nI p)) else f_near V w p
def f_nearest (V : Nat → Nat → Int32) (c : Int32) : Int32 := (f_near V (r_at (V 6) 8 c) (V 0 6).toNatClampNeg).1
def f_far (V : Nat → Nat → Int32) (p : Int32) : Int32 := if f_hasP V p then f_apart V p else 0
def f_by (kind nose far : Int32) : Int32 :=
  if far = 0 then 0 else if kind = 1 then nose else if kind = 2 then (if nose + far < 12 then nose + far else 12) else if kind = 3 then (if 2 < far then 0 else 2 * nose) else (if 0 < nose - far then nose - far else 0)
def f_str (V : Nat → Nat → Int32) (c p : Int32) : Int32 := f_by (r_at (V 5) 8 c) (r_at (V 7) 8 c) (f_far V p)
def f_dir (right down : Int32) : Int32 := if f_ab right < f_ab down then (if down ≤ 0 then 1 else 3) else (if right ≤ 0 then 4 else 2)
def f_head (V : Nat → Nat → Int32) (p s : Int32) : Int32 := if s = 0 ∨ ¬ f_hasP V p = true then 0 else f_dir (r_at (V 1) 6 p - V 0 0) (r_at (V 2) 6 p - V 0 1)
def f_pull (V : Nat → Nat → Int32) : Nat → Int32 × Int32
  | 0 => (0 + r_at sm_sx 5 (V 0 3) * V 0 4, 0 + r_at sm_sy 5 (V 0 3) * V 0 4)
  | c + 1 => ((f_pull V c).1 + r_at sm_sx 5 (f_head V (f_nearest V (nI c)) (f_str V (nI c) (f_nearest V (nI c)))) * f_str V (nI c) (f_nearest V (nI c)), (f_pull V c).2 + r_at sm_sy 5 (f_head V (f_nearest V (nI c)) (f_str V (nI c) (f_nearest V (nI c)))) * f_str V (nI c) (f_nearest V (nI c)))
def f_R (V : Nat → Nat → Int32) : Int32 := (f_pull V (V 0 7).toNatClampNeg).1
def f_D (V : Nat → Nat → Int32) : Int32 := (f_pull V (V 0 7).toNatClampNeg).2
def f_to (V : Nat → Nat → Int32) : Int32 := f_dir (f_R V) (f_D V)
def f_goes (V : Nat → Nat → Int32) : Int32 :=
  if ¬ V 0 2 < f_ab (f_R V) ∧ ¬ V 0 2 < f_ab (f_D V) then 0 else if sm_cell (V 0 0 + r_at sm_sx 5 (f_to V)) (V 0 1 + r_at sm_sy 5 (f_to V)) then f_to V else 0
/-- behind goesTo: what it has reckoned stays -/
def g_goes (σ : sm_St) (k : Nat) : sm_St := sm_set (sm_set σ k 8 (f_R (sm_V σ k))) k 9 (f_D (sm_V σ k))
/-- an hour -/
def g_hour (σ : sm_St) (k : Nat) : sm_St := sm_set (sm_set (sm_set (g_goes σ k) k 0 (σ k 0 + r_at sm_sx 5 (f_goes (sm_V σ k)))) k 1 (σ k 1 + r_at sm_sy 5 (f_goes (sm_V σ k)))) k 5 (σ k 5 + 1)
def g_hours (σ : sm_St) (k : Nat) : Nat → sm_St × Int32
  | 0 => (σ, 0)
  | n + 1 => (g_hour (g_hours σ k n).1 k, (g_hours σ k n).2 + (if f_goes (sm_V (g_hours σ k n).1 k) = 0 then 1 else 0))
/-- they hang on no other numbers -/
def f_ag (V W : Nat → Nat → Int32) : Prop := (∀ i, i < 8 → V 0 i = W 0 i) ∧ ∀ m, 1 ≤ m → m < 8 → ∀ i, i < (if m < 5 then 6 else 8) → V m i = W m i
theorem f_ag.rf (V : Nat → Nat → Int32) : f_ag V V := ⟨fun _ _ => rfl, fun _ _ _ _ _ => rfl⟩
theorem r_at_ag {f g : Nat → Int32} {n : Nat} (hn : n < 2 ^ 31) (h : ∀ i, i < n → f i = g i) (x : Int32) : r_at f n x = r_at g n x := by
  unfold r_at
  by_cases hx : ¬ x < 0 ∧ ¬ nI n ≤ x
  · rw [if_pos hx, if_pos hx]
    have := sm_vin hx.1 hx.2 hn
    exact h _ (Nat.not_le.mp fun q => this (Or.inr q))
  · rw [if_neg hx, if_neg hx]
section
variable {V W : Nat → Nat → Int32}
theorem f_ag.p (h : f_ag V W) (m : Nat) (h1 : 1 ≤ m) (h2 : m < 5) (x : Int32) : r_at (V m) 6 x = r_at (W m) 6 x := r_at_ag (by decide) (fun i hi => h.2 m h1 (by omega) i (by rw [if_pos h2]; exact hi)) x
theorem f_ag.s (h : f_ag V W) (m : Nat) (h1 : 5 ≤ m) (h2 : m < 8) (x : Int32) : r_at (V m) 8 x = r_at (W m) 8 x := r_at_ag (by decide) (fun i hi => h.2 m (by omega) h2 i (by rw [if_neg (by omega)]; exact hi)) x
theorem f_apart_ag (h : f_ag V W) (p : Int32) : f_apart V p = f_apart W p := by
  unfold f_apart
  rw [h.p 1 (by decide) (by decide), h.p 2 (by decide) (by decide), h.1 0 (by decide), h.1 1 (by decide)]
theorem f_near_ag (h : f_ag V W) (w : Int32) : ∀ n, f_near V w n = f_near W w n
  | 0 => rfl
  | n + 1 => by
    unfold f_near
    rw [f_near_ag h w n, h.p 3 (by decide) (by decide), h.p 4 (by decide) (by decide), f_apart_ag h]
theorem f_nearest_ag (h : f_ag V W) (c : Int32) : f_nearest V c = f_nearest W c := by
  unfold f_nearest
  rw [f_near_ag h, h.s 6 (by decide) (by decide), h.1 6 (by decide)]
theorem f_far_ag (h : f_ag V W) (p : Int32) : f_far V p = f_far W p := by
  unfold f_far f_hasP
  rw [f_apart_ag h, h.1 6 (by decide)]
theorem f_str_ag (h : f_ag V W) (c p : Int32) : f_str V c p = f_str W c p := by
  unfold f_str
  rw [f_far_ag h, h.s 5 (by decide) (by decide), h.s 7 (by decide) (by decide)]
theorem f_head_ag (h : f_ag V W) (p s : Int32) : f_head V p s = f_head W p s := by
  unfold f_head f_hasP
  rw [h.1 6 (by decide), h.1 0 (by decide), h.1 1 (by decide), h.p 1 (by decide) (by decide), h.p 2 (by decide) (by decide)]
theorem f_pull_ag (h : f_ag V W) : ∀ n, f_pull V n = f_pull W n
  | 0 => by
    unfold f_pull
    rw [h.1 3 (by decide), h.1 4 (by decide)]
  | n + 1 => by
    unfold f_pull
    rw [f_pull_ag h n, f_nearest_ag h, f_str_ag h, f_head_ag h]
theorem f_R_ag (h : f_ag V W) : f_R V = f_R W := by unfold f_R; rw [f_pull_ag h, h.1 7 (by decide)]
theorem f_D_ag (h : f_ag V W) : f_D V = f_D W := by unfold f_D; rw [f_pull_ag h, h.1 7 (by decide)]
theorem f_to_ag (h : f_ag V W) : f_to V = f_to W := by unfold f_to; rw [f_R_ag h, f_D_ag h]
theorem f_goes_ag (h : f_ag V W) : f_goes V = f_goes W := by unfold f_goes; rw [f_R_ag h, f_D_ag h, f_to_ag h, h.1 0 (by decide), h.1 1 (by decide), h.1 2 (by decide)]
end
theorem f_ag_set {σ : sm_St} {k i : Nat} {v : Int32} (hi : 8 ≤ i) : f_ag (sm_V (sm_set σ k i v) k) (sm_V σ k) := by
  refine ⟨fun j hj => ?_, fun m h1 h2 j _ => ?_⟩
  · show sm_set σ k i v k j = σ k j
    exact sm_set_ne (by omega)
  · show sm_set σ k i v (k + m) j = σ (k + m) j
    rw [sm_set_off (by omega)]
theorem f_ag.tr {U V W : Nat → Nat → Int32} (h : f_ag U V) (h2 : f_ag V W) : f_ag U W := ⟨fun i hi => (h.1 i hi).trans (h2.1 i hi), fun m a b i hi => (h.2 m a b i hi).trans (h2.2 m a b i hi)⟩
theorem f_ag.sy {V W : Nat → Nat → Int32} (h : f_ag V W) : f_ag W V := ⟨fun i hi => (h.1 i hi).symm, fun m a b i hi => (h.2 m a b i hi).symm⟩
theorem f_ag_89 {σ : sm_St} {k : Nat} {v w : Int32} : f_ag (sm_V (sm_set (sm_set σ k 8 v) k 9 w) k) (sm_V σ k) := (f_ag_set (by decide)).tr (f_ag_set (by decide))
/-- counters -/
theorem sm_le_clamp {x : Int32} {i : Nat} (hi : i < 2 ^ 31) : x ≤ nI i ↔ x.toNatClampNeg ≤ i := by
  rw [Int32.le_iff_toInt_le, nI_toInt hi]
  show x.toInt ≤ i ↔ x.toInt.toNat ≤ i
  omega
theorem sm_clamp_lt (x : Int32) : x.toNatClampNeg < 2 ^ 31 := by
  have h := Int32.toInt_lt x
  show x.toInt.toNat < 2 ^ 31
  omega

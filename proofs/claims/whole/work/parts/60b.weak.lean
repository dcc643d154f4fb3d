/-! two views alike as far as there are posts and crew: behind these the rows may differ -/
def w_ag (np nc : Nat) (V W : Nat → Nat → Int32) : Prop := (∀ i, i < 8 → V 0 i = W 0 i) ∧ ∀ m, 1 ≤ m → m < 8 → ∀ i, i < (if m < 5 then np else nc) → V m i = W m i
theorem w_ag.rf {np nc : Nat} (V : Nat → Nat → Int32) : w_ag np nc V V := ⟨fun _ _ => rfl, fun _ _ _ _ _ => rfl⟩
theorem w_ag.tr {np nc : Nat} {U V W : Nat → Nat → Int32} (h : w_ag np nc U V) (h2 : w_ag np nc V W) : w_ag np nc U W := ⟨fun i hi => (h.1 i hi).trans (h2.1 i hi), fun m a b i hi => (h.2 m a b i hi).trans (h2.2 m a b i hi)⟩
theorem w_ag.sy {np nc : Nat} {V W : Nat → Nat → Int32} (h : w_ag np nc V W) : w_ag np nc W V := ⟨fun i hi => (h.1 i hi).symm, fun m a b i hi => (h.2 m a b i hi).symm⟩
theorem w_ag.p {np nc : Nat} {V W : Nat → Nat → Int32} (h : w_ag np nc V W) (m : Nat) (h1 : 1 ≤ m) (h2 : m < 5) {p : Nat} (hp : p < np) : V m p = W m p := h.2 m h1 (by omega) p (by rw [if_pos h2]; exact hp)
theorem w_ag.s {np nc : Nat} {V W : Nat → Nat → Int32} (h : w_ag np nc V W) (m : Nat) (h1 : 5 ≤ m) (h2 : m < 8) {c : Nat} (hc : c < nc) : V m c = W m c := h.2 m (by omega) h2 c (by rw [if_neg (by omega)]; exact hc)
theorem w_ag_f {np nc : Nat} {V W : Nat → Nat → Int32} (h : f_ag V W) (hn : np ≤ 6) (hc : nc ≤ 8) : w_ag np nc V W := ⟨h.1, fun m a b i hi => h.2 m a b i (by
  by_cases e : m < 5
  · rw [if_pos e] at hi ⊢; omega
  · rw [if_neg e] at hi ⊢; omega)⟩
theorem w_ag89 {np nc k : Nat} {σ : sm_St} {v w : Int32} : w_ag np nc (sm_V (sm_set (sm_set σ k 8 v) k 9 w) k) (sm_V σ k) := by
  refine ⟨fun i hi => ?_, fun m a b i hi => ?_⟩
  · show sm_set (sm_set σ k 8 v) k 9 w k i = σ k i
    rw [sm_set_ne (by omega), sm_set_ne (by omega)]
  · show sm_set (sm_set σ k 8 v) k 9 w (k + m) i = σ (k + m) i
    rw [sm_set_off (by omega), sm_set_off (by omega)]
section
variable {np nc : Nat} {V W : Nat → Nat → Int32} (h : w_ag np nc V W) (hn : np ≤ 6) (hn8 : nc ≤ 8)
theorem w_apart_w (h : w_ag np nc V W) (hn : np ≤ 6) {p : Nat} (hp : p < np) : f_apart V (nI p) = f_apart W (nI p) := by
  unfold f_apart
  rw [r_at_nI rfl (show p < 6 by omega) (by decide), r_at_nI rfl (show p < 6 by omega) (by decide), r_at_nI rfl (show p < 6 by omega) (by decide), r_at_nI rfl (show p < 6 by omega) (by decide), h.1 0 (by decide), h.1 1 (by decide), h.p 1 (by decide) (by decide) hp, h.p 2 (by decide) (by decide) hp]
theorem w_near_w (h : w_ag np nc V W) (hn : np ≤ 6) (w : Int32) : ∀ n, n ≤ np → f_near V w n = f_near W w n
  | 0, _ => rfl
  | n + 1, hh => by
    unfold f_near
    rw [w_near_w h hn w n (by omega), w_apart_w h hn (by omega), r_at_nI rfl (show n < 6 by omega) (by decide), r_at_nI rfl (show n < 6 by omega) (by decide), r_at_nI rfl (show n < 6 by omega) (by decide), r_at_nI rfl (show n < 6 by omega) (by decide), h.p 3 (by decide) (by decide) (show n < np by omega), h.p 4 (by decide) (by decide) (show n < np by omega)]
theorem w_nearest_w (h : w_ag np nc V W) (hn : np ≤ 6) (w : Int32) : q_nearest V np w = q_nearest W np w := by
  unfold q_nearest
  rw [w_near_w h hn w np (Nat.le_refl _)]
theorem w_str_w (h : w_ag np nc V W) (hn : np ≤ 6) (hn8 : nc ≤ 8) {c : Nat} (hc : c < nc) : q_str V np (nI c) = q_str W np (nI c) := by
  have e5 := h.s 5 (by decide) (by decide) hc
  have e6 := h.s 6 (by decide) (by decide) hc
  have e7 := h.s 7 (by decide) (by decide) hc
  unfold q_str
  rw [w_nearest_w h hn, r_at_nI (f := V 5) rfl (show c < 8 by omega) (by decide), r_at_nI (f := W 5) rfl (show c < 8 by omega) (by decide), r_at_nI (f := V 6) rfl (show c < 8 by omega) (by decide), r_at_nI (f := W 6) rfl (show c < 8 by omega) (by decide), r_at_nI (f := V 7) rfl (show c < 8 by omega) (by decide), r_at_nI (f := W 7) rfl (show c < 8 by omega) (by decide), e5, e6, e7]
  have hh := f_near_in W (W 6 c) np
  rcases hh with e | ⟨j, hj, ej, -⟩
  · have e2 : q_nearest W np (W 6 c) = -4 := e
    rw [e2, if_pos rfl, if_pos rfl]
  · have e2 : q_nearest W np (W 6 c) = nI j := ej
    rw [e2, w_apart_w h hn hj]
theorem w_to_w (h : w_ag np nc V W) (hn : np ≤ 6) (hn8 : nc ≤ 8) {c : Nat} (hc : c < nc) : q_to V np (nI c) = q_to W np (nI c) := by
  have e6 := h.s 6 (by decide) (by decide) hc
  unfold q_to
  rw [w_str_w h hn hn8 hc]
  by_cases hs : q_str W np (nI c) = 0
  · rw [if_pos hs, if_pos hs]
  · rw [if_neg hs, if_neg hs, w_nearest_w h hn, r_at_nI (f := V 6) rfl (show c < 8 by omega) (by decide), e6, ← r_at_nI (f := W 6) rfl (show c < 8 by omega) (by decide)]
    have hne := q_str_ne hs
    rcases f_near_in W (r_at (W 6) 8 (nI c)) np with e | ⟨j, hj, ej, -⟩
    · exact absurd e hne
    · have e2 : q_nearest W np (r_at (W 6) 8 (nI c)) = nI j := ej
      rw [e2, r_at_nI (f := V 1) rfl (show j < 6 by omega) (by decide), r_at_nI (f := V 2) rfl (show j < 6 by omega) (by decide), r_at_nI (f := W 1) rfl (show j < 6 by omega) (by decide), r_at_nI (f := W 2) rfl (show j < 6 by omega) (by decide), h.1 0 (by decide), h.1 1 (by decide), h.p 1 (by decide) (by decide) hj, h.p 2 (by decide) (by decide) hj]
theorem w_pull_w (h : w_ag np nc V W) (hn : np ≤ 6) (hn8 : nc ≤ 8) (a b : Int32) : ∀ c, c ≤ nc → q_pull V np a b c = q_pull W np a b c
  | 0, _ => by
    unfold q_pull
    rw [h.1 3 (by decide), h.1 4 (by decide)]
  | c + 1, hc => by
    unfold q_pull
    rw [w_pull_w h hn hn8 a b c (by omega), w_to_w h hn hn8 (by omega), w_str_w h hn hn8 (by omega)]
theorem w_goes_w (h : w_ag np nc V W) (hn : np ≤ 6) (hn8 : nc ≤ 8) : q_goes V np nc = q_goes W np nc := by
  unfold q_goes
  rw [w_pull_w h hn hn8 _ _ nc (Nat.le_refl _), w_pull_w h hn hn8 _ _ nc (Nat.le_refl _), h.1 0 (by decide), h.1 1 (by decide), h.1 2 (by decide)]
theorem w_ok_w (h : w_ag np nc V W) (hw : w_ok W np nc) : w_ok V np nc := by
  refine ⟨?_, hw.n1, ?_, hw.c1, ?_, ?_, ?_, fun p hp => ?_, fun p hp => ?_, fun c hc => ?_⟩
  · rw [h.1 6 (by decide)]; exact hw.n0
  · rw [h.1 7 (by decide)]; exact hw.c0
  · rw [h.1 3 (by decide)]; exact hw.w0
  · rw [h.1 0 (by decide)]; exact hw.x0
  · rw [h.1 1 (by decide)]; exact hw.y0
  · rw [h.p 1 (by decide) (by decide) hp]; exact hw.px p hp
  · rw [h.p 2 (by decide) (by decide) hp]; exact hw.py p hp
  · rw [h.s 7 (by decide) (by decide) hc]; exact hw.cn c hc
theorem w_goesA (h : w_ag np nc V W) (hw : w_ok W np nc) : f_goes V = q_goes W np nc := (w_goes (w_ok_w h hw)).trans (w_goes_w h hw.n1 hw.c1)
theorem w_RA (h : w_ag np nc V W) (hw : w_ok W np nc) : f_R V = q_pull W np 2 4 nc := (w_R (w_ok_w h hw)).trans (w_pull_w h hw.n1 hw.c1 _ _ nc (Nat.le_refl _))
theorem w_DA (h : w_ag np nc V W) (hw : w_ok W np nc) : f_D V = q_pull W np 3 1 nc := (w_D (w_ok_w h hw)).trans (w_pull_w h hw.n1 hw.c1 _ _ nc (Nat.le_refl _))
end
theorem w_ag.rp {np nc : Nat} {V W : Nat → Nat → Int32} (h : w_ag np nc V W) (hn : np ≤ 6) (m : Nat) (h1 : 1 ≤ m) (h2 : m < 5) {p : Nat} (hp : p < np) : r_at (V m) 6 (nI p) = r_at (W m) 6 (nI p) := by
  rw [r_at_nI rfl (show p < 6 by omega) (by decide), r_at_nI rfl (show p < 6 by omega) (by decide)]
  exact h.p m h1 h2 hp
theorem w_ag.rs {np nc : Nat} {V W : Nat → Nat → Int32} (h : w_ag np nc V W) (hc8 : nc ≤ 8) (m : Nat) (h1 : 5 ≤ m) (h2 : m < 8) {c : Nat} (hc : c < nc) : r_at (V m) 8 (nI c) = r_at (W m) 8 (nI c) := by
  rw [r_at_nI rfl (show c < 8 by omega) (by decide), r_at_nI rfl (show c < 8 by omega) (by decide)]
  exact h.s m h1 h2 hc

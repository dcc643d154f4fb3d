/-! the 110 cells that the constructor of SmellMoorings makes -/
theorem sk_atL {a b : va_W} {k : Nat} {q : Nat × va_E} (hk : a[k]? = some q) : (a ++ b)[k]? = some q := by rw [List.getElem?_append_left (List.getElem?_eq_some_iff.mp hk).1]; exact hk
theorem w_FL_len {cI : ClassId} {α : Nat → Nat} : ∀ n, (w_FL cI α n).length = 8 * n
  | 0 => rfl
  | n + 1 => by
    unfold w_FL
    rw [List.length_append, w_FL_len n]
    show 8 * n + 8 = _
    omega
theorem w_FL_at {cI : ClassId} {α : Nat → Nat} {q : Nat × va_E} {i j : Nat} : ∀ n, i < n → (w_Field cI (fun k => α (2 + 8 * i + k)))[j]? = some q → (w_FL cI α n)[8 * i + j]? = some q
  | 0, h, _ => by omega
  | n + 1, h, hq => by
    unfold w_FL
    by_cases e : i = n
    · subst e
      have := sk_at (a := w_FL cI α i) hq
      rw [w_FL_len] at this
      exact this
    · exact sk_atL (w_FL_at n (by omega) hq)
abbrev s_zero : sm_St := fun _ _ => 0
theorem w_Field_at {cI cF : ClassId} {ρ β : Nat → Nat} {b : Nat} (hb : sm_isF b) (hρ : ∀ i, i < 8 → ρ (b + i) = β i) {j : Nat} (hj : j < 8) : (w_Field cI β)[j]? = some (ρ (b + j), n_sm_cel ρ cI cF s_zero (b + j)) := by
  have a1 := hρ 1 (by decide)
  have a2 := hρ 2 (by decide)
  have a3 := hρ 3 (by decide)
  have a4 := hρ 4 (by decide)
  have a5 := hρ 5 (by decide)
  have a6 := hρ 6 (by decide)
  have a7 := hρ 7 (by decide)
  rcases (show j = 0 ∨ j = 1 ∨ j = 2 ∨ j = 3 ∨ j = 4 ∨ j = 5 ∨ j = 6 ∨ j = 7 by omega) with rfl | rfl | rfl | rfl | rfl | rfl | rfl | rfl
  · rw [n_sm_cel_o (k := b + 0) (n_sm_Fo hb), hρ 0 (by decide)]
    have e : (List.range (sm_c 0).2.2).map (sm_fv ρ s_zero 0 (b + 0)) = [.int 0, .int 0, .int 0, .int 0, .int 0, .int 0, .int 0, .int 0, .int 0, .int 0, .ref (ρ (b + 1)), .ref (ρ (b + 2)), .ref (ρ (b + 3)), .ref (ρ (b + 4)), .ref (ρ (b + 5)), .ref (ρ (b + 6)), .ref (ρ (b + 7))] := rfl
    rw [e, a1, a2, a3, a4, a5, a6, a7]
    rfl
  · rw [n_sm_cel_a (n_sm_Fa1 hb), a1]; rfl
  · rw [n_sm_cel_a (n_sm_Fa2 hb), a2]; rfl
  · rw [n_sm_cel_a (n_sm_Fa3 hb), a3]; rfl
  · rw [n_sm_cel_a (n_sm_Fa4 hb), a4]; rfl
  · rw [n_sm_cel_a (n_sm_Fa5 hb), a5]; rfl
  · rw [n_sm_cel_a (n_sm_Fa6 hb), a6]; rfl
  · rw [n_sm_cel_a (n_sm_Fa7 hb), a7]; rfl
/-- where the cell k stands in the order of making -/
def w_g (k : Nat) : Nat := if k < 16 then k + 4 else if k < 80 then k + 10 else if k < 96 then k + 12 else if k = 96 then 0 else if k < 100 then k - 96 else if k < 106 then k - 80 else if k < 108 then k - 16 else k
theorem w_g_inj {i j : Nat} (hi : i < 110) (hj : j < 110) (h : w_g i = w_g j) : i = j := by
  unfold w_g at h
  repeat' split at h
  all_goals omega
def w_WS (cI cF : ClassId) (h0 c1 c2 : Nat) (t a b s u v : Nat → Nat) : va_W := (h0, .inr (4, [.ref (t 0), .ref (a 0), .ref (b 0), .ref (s 0), .ref (u 0), .ref (v 0), .ref c1, .ref c2])) :: (w_Text cI t ++ (w_Field cI a ++ (w_Field cI b ++ (w_Sight cI s ++ (w_PileF cI cF 8 u ++ (w_PileF cI cF 2 v ++ [(c1, .inl (cI, 81, .inl (fun _ => 0))), (c2, .inl (cI, 81, .inl (fun _ => 0)))]))))))
def w_rho (ρ0 : Nat → Nat) (h0 c1 c2 : Nat) (t a b s u v : Nat → Nat) : Nat → Nat := fun k => if k < 8 then a k else if k < 16 then b (k - 8) else if k < 80 then u (2 + (k - 16)) else if k < 96 then v (2 + (k - 80)) else if k = 96 then h0 else if k < 100 then t (k - 97) else if k < 104 then s (k - 100) else if k < 106 then u (k - 104) else if k < 108 then v (k - 106) else if k = 108 then c1 else if k = 109 then c2 else ρ0 k
theorem w_WS_at {cI cF : ClassId} {ρ0 : Nat → Nat} {h0 c1 c2 : Nat} {t a b s u v : Nat → Nat} {k : Nat} (hk : k < 110) (hne : k ≠ 105 ∧ k ≠ 107) : (w_WS cI cF h0 c1 c2 t a b s u v)[w_g k]? = some (w_rho ρ0 h0 c1 c2 t a b s u v k, n_sm_cel (w_rho ρ0 h0 c1 c2 t a b s u v) cI cF s_zero k) := by
  have hT : (w_Text cI t).length = 3 := rfl
  have hA : ∀ β, (w_Field cI β).length = 8 := fun _ => rfl
  have hSl : (w_Sight cI s).length = 4 := rfl
  have hU : ∀ N β, (w_PileF cI cF N β).length = 2 + 8 * N := fun N β => by
    show (w_FL cI β N).length + 1 + 1 = _
    rw [w_FL_len]
    omega
  have cons : ∀ (x : Nat × va_E) (L : va_W) (i : Nat), (x :: L)[i + 1]? = L[i]? := fun _ _ _ => rfl
  unfold w_WS
  by_cases k8 : k < 8
  · have h := w_Field_at (cI := cI) (cF := cF) (ρ := w_rho ρ0 h0 c1 c2 t a b s u v) (β := a) (b := 0) sm_isF0 (fun i hi => by
      rw [Nat.zero_add]
      exact if_pos hi) k8
    rw [Nat.zero_add] at h
    rw [show w_g k = (3 + k) + 1 by unfold w_g; rw [if_pos (by omega)]; omega, cons]
    exact hT ▸ sk_at (sk_atL h)
  by_cases k16 : k < 16
  · obtain ⟨j, rfl⟩ : ∃ j, k = 8 + j := ⟨k - 8, by omega⟩
    have h := w_Field_at (cI := cI) (cF := cF) (ρ := w_rho ρ0 h0 c1 c2 t a b s u v) (β := b) (b := 8) sm_isF8 (fun i hi => by
      unfold w_rho
      rw [if_neg (by omega), if_pos (by omega), Nat.add_sub_cancel_left]) (show j < 8 by omega)
    rw [show w_g (8 + j) = (3 + (8 + j)) + 1 by unfold w_g; rw [if_pos (by omega)]; omega, cons]
    have h1 := sk_at (a := w_Field cI a) (sk_atL (b := w_Sight cI s ++ (w_PileF cI cF 8 u ++ (w_PileF cI cF 2 v ++ [(c1, .inl (cI, 81, .inl (fun _ => 0))), (c2, .inl (cI, 81, .inl (fun _ => 0)))]))) h)
    rw [hA] at h1
    exact hT ▸ sk_at h1
  by_cases k80 : k < 80
  · obtain ⟨i, j, hj, hi, rfl⟩ : ∃ i j, j < 8 ∧ i < 8 ∧ k = 16 + 8 * i + j := ⟨(k - 16) / 8, (k - 16) % 8, by omega, by omega, by omega⟩
    have h := w_Field_at (cI := cI) (cF := cF) (ρ := w_rho ρ0 h0 c1 c2 t a b s u v) (β := fun k => u (2 + 8 * i + k)) (b := 16 + 8 * i) (by unfold sm_isF; omega) (fun x hx => by
      unfold w_rho
      rw [if_neg (by omega), if_neg (by omega), if_pos (by omega)]
      congr 1
      omega) hj
    have hL := w_FL_at (α := u) 8 hi h
    have hP : (w_PileF cI cF 8 u)[8 * i + j + 1 + 1]? = _ := hL
    have h1 := sk_at (a := w_Sight cI s) (sk_atL (b := w_PileF cI cF 2 v ++ [(c1, .inl (cI, 81, .inl (fun _ => 0))), (c2, .inl (cI, 81, .inl (fun _ => 0)))]) hP)
    have h2 := sk_at (a := w_Field cI b) h1
    have h3 := sk_at (a := w_Field cI a) h2
    have h4 := sk_at (a := w_Text cI t) h3
    rw [hSl, hA, hA, hT] at h4
    rw [show w_g (16 + 8 * i + j) = (3 + (8 + (8 + (4 + (8 * i + j + 1 + 1))))) + 1 by unfold w_g; rw [if_neg (by omega), if_pos (by omega)]; omega, cons]
    exact h4
  by_cases k96 : k < 96
  · obtain ⟨i, j, hj, hi, rfl⟩ : ∃ i j, j < 8 ∧ i < 2 ∧ k = 80 + 8 * i + j := ⟨(k - 80) / 8, (k - 80) % 8, by omega, by omega, by omega⟩
    have h := w_Field_at (cI := cI) (cF := cF) (ρ := w_rho ρ0 h0 c1 c2 t a b s u v) (β := fun k => v (2 + 8 * i + k)) (b := 80 + 8 * i) (by unfold sm_isF; omega) (fun x hx => by
      unfold w_rho
      rw [if_neg (by omega), if_neg (by omega), if_neg (by omega), if_pos (by omega)]
      congr 1
      omega) hj
    have hL := w_FL_at (α := v) 2 hi h
    have hP : (w_PileF cI cF 2 v)[8 * i + j + 1 + 1]? = _ := hL
    have h0' := sk_at (a := w_PileF cI cF 8 u) (sk_atL (b := [(c1, .inl (cI, 81, .inl (fun _ => 0))), (c2, .inl (cI, 81, .inl (fun _ => 0)))]) hP)
    have h1 := sk_at (a := w_Sight cI s) h0'
    have h2 := sk_at (a := w_Field cI b) h1
    have h3 := sk_at (a := w_Field cI a) h2
    have h4 := sk_at (a := w_Text cI t) h3
    rw [hSl, hA, hA, hT, hU] at h4
    rw [show w_g (80 + 8 * i + j) = (3 + (8 + (8 + (4 + (2 + 8 * 8 + (8 * i + j + 1 + 1)))))) + 1 by unfold w_g; rw [if_neg (by omega), if_neg (by omega), if_pos (by omega)]; omega, cons]
    exact h4
  rcases (show k = 96 ∨ k = 97 ∨ k = 98 ∨ k = 99 ∨ k = 100 ∨ k = 101 ∨ k = 102 ∨ k = 103 ∨ k = 104 ∨ k = 105 ∨ k = 106 ∨ k = 107 ∨ k = 108 ∨ k = 109 by omega) with rfl | rfl | rfl | rfl | rfl | rfl | rfl | rfl | rfl | rfl | rfl | rfl | rfl | rfl
  · rfl
  · rfl
  · rfl
  · rfl
  · rfl
  · rfl
  · rfl
  · rfl
  · rfl
  · exact absurd rfl hne.1
  · rfl
  · exact absurd rfl hne.2
  · rfl
  · rfl
theorem w_WS_P {D : va_G} {cI cF : ClassId} {ρ0 : Nat → Nat} {h0 c1 c2 : Nat} {t a b s u v : Nat → Nat} {H : Heap} (h : va_P D vc6 (w_WS cI cF h0 c1 c2 t a b s u v) H) : va_P D vc6 (n_sm_ws (w_rho ρ0 h0 c1 c2 t a b s u v) cI cF s_zero) H := by
  intro k q hk
  obtain ⟨h1, rfl⟩ := n_sm_ws_of hk
  have rowE : ∀ (N : Nat) (f g : Nat → Option Nat), (∀ j, j < N → f j = g j) → vp_cell cF (N, .inr (.inr (.inr (.inr f)))) = vp_cell cF (N, .inr (.inr (.inr (.inr g)))) := fun N f g hfg => by
    rw [vp_cell_q, vp_cell_q]
    unfold arrV
    congr 2
    funext j
    dsimp only
    rw [hfg j j.2]
  by_cases e5 : k = 105
  · subst e5
    have hU := h (w_g 105) (u 1, .inl (cF, 8, .inr (.inr (.inr (.inr (fun j => some (u (2 + 8 * j)))))))) rfl
    show H[u 1]? = some (vp_cell cF (8, .inr (.inr (.inr (.inr (fun i => some (w_rho ρ0 h0 c1 c2 t a b s u v (16 + 8 * i))))))))
    rw [← rowE 8 (fun j => some (u (2 + 8 * j))) (fun i => some (w_rho ρ0 h0 c1 c2 t a b s u v (16 + 8 * i))) (fun j hj => by
      unfold w_rho
      rw [if_neg (by omega), if_neg (by omega), if_pos (by omega), Nat.add_sub_cancel_left])]
    exact hU
  · by_cases e7 : k = 107
    · subst e7
      have hU := h (w_g 107) (v 1, .inl (cF, 2, .inr (.inr (.inr (.inr (fun j => some (v (2 + 8 * j)))))))) rfl
      show H[v 1]? = some (vp_cell cF (2, .inr (.inr (.inr (.inr (fun i => some (w_rho ρ0 h0 c1 c2 t a b s u v (80 + 8 * i))))))))
      rw [← rowE 2 (fun j => some (v (2 + 8 * j))) (fun i => some (w_rho ρ0 h0 c1 c2 t a b s u v (80 + 8 * i))) (fun j hj => by
        unfold w_rho
        rw [if_neg (by omega), if_neg (by omega), if_neg (by omega), if_pos (by omega), Nat.add_sub_cancel_left])]
      exact hU
    · exact h (w_g k) _ (w_WS_at h1 ⟨e5, e7⟩)
theorem w_WS_D {A : Nat → Prop} {cI cF : ClassId} {ρ0 : Nat → Nat} {h0 c1 c2 : Nat} {t a b s u v : Nat → Nat} (h : va_D A (w_WS cI cF h0 c1 c2 t a b s u v)) : va_D A (n_sm_ws (w_rho ρ0 h0 c1 c2 t a b s u v) cI cF s_zero) := by
  have key : ∀ k, k < 110 → ∃ e, (w_WS cI cF h0 c1 c2 t a b s u v)[w_g k]? = some (w_rho ρ0 h0 c1 c2 t a b s u v k, e) := fun k hk => by
    by_cases e5 : k = 105
    · subst e5
      exact ⟨_, rfl⟩
    · by_cases e7 : k = 107
      · subst e7
        exact ⟨_, rfl⟩
      · exact ⟨_, w_WS_at hk ⟨e5, e7⟩⟩
  refine ⟨fun i j p q hi hj e => ?_, fun k q hk => ?_⟩
  · obtain ⟨h1, rfl⟩ := n_sm_ws_of hi
    obtain ⟨h2, rfl⟩ := n_sm_ws_of hj
    obtain ⟨e1, k1⟩ := key i h1
    obtain ⟨e2, k2⟩ := key j h2
    exact w_g_inj h1 h2 (h.1 _ _ _ _ k1 k2 e)
  · obtain ⟨h1, rfl⟩ := n_sm_ws_of hk
    obtain ⟨e1, k1⟩ := key k h1
    have := h.2 _ _ k1
    exact this

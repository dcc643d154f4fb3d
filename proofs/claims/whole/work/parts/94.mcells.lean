/-! the 128 cells: those of SmellMoorings, the Model and its 17 rows -/
def wm_rho (ρ : Nat → Nat) (h0 : Nat) (c : Nat → Nat) : Nat → Nat := fun k => if k < 110 then ρ k else if k = 110 then h0 else if k < 128 then c (k - 111) else ρ k
def wm_st (σ : sm_St) : sm_St := fun k => if k < 110 then σ k else fun _ => 0
def wm_R (cI : ClassId) (c : Nat → Nat) : va_W := [(c 0, .inl (cI, 8, .inl (fun _ => 0))), (c 1, .inl (cI, 8, .inl (fun _ => 0))), (c 2, .inl (cI, 8, .inl (fun _ => 0))), (c 3, .inl (cI, 6, .inl (fun _ => 0))), (c 4, .inl (cI, 6, .inl (fun _ => 0))), (c 5, .inl (cI, 6, .inl (fun _ => 0))), (c 6, .inl (cI, 6, .inl (fun _ => 0))), (c 7, .inl (cI, 6, .inl (fun _ => 0))), (c 8, .inl (cI, 6, .inl (fun _ => 0))), (c 9, .inl (cI, 6, .inl (fun _ => 0))), (c 10, .inl (cI, 200, .inl (fun _ => 0))), (c 11, .inl (cI, 5, .inl (fun _ => 0))), (c 12, .inl (cI, 15, .inl (fun _ => 0))), (c 13, .inl (cI, 21, .inl (fun _ => 0))), (c 14, .inl (cI, 232, .inl (fun _ => 0))), (c 15, .inl (cI, 29, .inl (fun _ => 0))), (c 16, .inl (cI, 58, .inl (fun _ => 0)))]
def wm_W (cI cF : ClassId) (ρ : Nat → Nat) (σ : sm_St) (h0 : Nat) (c : Nat → Nat) : va_W := (h0, .inr (5, [.int 0, .int 0, .int 0, .ref (c 0), .ref (c 1), .ref (c 2), .int 0, .int 0, .int 0, .int 0, .int 0, .ref (c 3), .ref (c 4), .ref (c 5), .ref (c 6), .int 0, .ref (c 7), .ref (c 8), .ref (c 9), .ref (c 10), .int 0, .int 0, .int 0, .int 0, .ref (c 11), .ref (c 12), .ref (c 13), .int 0, .int 0, .int 0, .ref (c 14), .int 0, .ref (c 15), .ref (c 16), .int 0])) :: (n_sm_ws ρ cI cF σ ++ wm_R cI c)
theorem wm_ocl {k : Nat} (h : k < 110) : n_sm_ocl k = sm_ocl k := by
  have : ∀ k, k < 110 → n_sm_ocl k = sm_ocl k := by decide +kernel
  exact this k h
theorem wm_aln {k : Nat} (h : k < 110) : n_sm_aln k = sm_aln k := by
  have : ∀ k, k < 110 → n_sm_aln k = sm_aln k := by decide +kernel
  exact this k h
theorem wm_rfs {k i ci r : Nat} (h : k < 110) (hi : i < 35) (ho : n_sm_ocl k = some ci) (hN : i < (sm_c ci).2.2) (hr : sm_rf ci k i = some r) : r < 110 := by
  have := (show ∀ k, k < 110 → ∀ i, i < 35 → (match n_sm_ocl k with | some ci => if i < (sm_c ci).2.2 then (sm_rf ci k i).getD 0 else 0 | none => 0) < 110 by decide +kernel) k h i hi
  rw [ho] at this
  dsimp only at this
  rw [if_pos hN, hr] at this
  exact this
theorem wm_cel {cI cF : ClassId} {ρ : Nat → Nat} {σ : sm_St} {h0 : Nat} {c : Nat → Nat} {k : Nat} (hk : k < 110) (hne : k ≠ 105 ∧ k ≠ 107) : sm_cel (wm_rho ρ h0 c) cI cF (wm_st σ) k = n_sm_cel ρ cI cF σ k := by
  have es : wm_st σ k = σ k := if_pos hk
  unfold sm_cel n_sm_cel
  rw [← wm_ocl hk, ← wm_aln hk]
  cases ho : n_sm_ocl k with
  | some ci =>
    dsimp only
    congr 2
    refine List.map_congr_left (fun i hi => ?_)
    have hi35 : i < 35 := Nat.lt_of_lt_of_le (List.mem_range.mp hi) (by
      match ci, (n_sm_ocl_lt ho).2 with
      | 0, _ => decide
      | 1, _ => decide
      | 2, _ => decide
      | 3, _ => decide
      | 4, _ => decide
      | 5, _ => decide
      | n + 6, h => exact absurd h (by omega))
    unfold sm_fv
    cases hr : sm_rf ci k i with
    | some r =>
      dsimp only
      have := wm_rfs hk hi35 ho (List.mem_range.mp hi) hr
      unfold wm_rho
      rw [if_pos this]
    | none =>
      dsimp only
      rw [es]
  | none =>
    have e : sm_rln k = none := by
      unfold sm_rln
      rw [if_neg hne.1, if_neg hne.2]
    rw [e]
    dsimp only
    rw [es]
theorem n_sm_len {ρ : Nat → Nat} {cI cF : ClassId} {σ : sm_St} : (n_sm_ws ρ cI cF σ).length = 110 := by simp [n_sm_ws]
def wm_g (k : Nat) : Nat := if k < 110 then k + 1 else if k = 110 then 0 else k
theorem wm_g_inj {i j : Nat} (hi : i < 128) (hj : j < 128) (h : wm_g i = wm_g j) : i = j := by
  unfold wm_g at h
  repeat' split at h
  all_goals omega
theorem wm_cons {x : Nat × va_E} {L : va_W} {i : Nat} : (x :: L)[i + 1]? = L[i]? := rfl
theorem wm_old {cI cF : ClassId} {ρ : Nat → Nat} {σ : sm_St} {h0 : Nat} {c : Nat → Nat} {k : Nat} (hk : k < 110) : (wm_W cI cF ρ σ h0 c)[wm_g k]? = some (wm_rho ρ h0 c k, n_sm_cel ρ cI cF σ k) := by
  unfold wm_W
  rw [show wm_g k = k + 1 from if_pos hk, wm_cons, show wm_rho ρ h0 c k = ρ k from if_pos hk]
  exact sk_atL (n_sm_ws_at hk)
theorem wm_new {cI cF : ClassId} {ρ : Nat → Nat} {σ : sm_St} {h0 : Nat} {c : Nat → Nat} {k : Nat} (h1 : 110 < k) (hk : k < 128) : (wm_W cI cF ρ σ h0 c)[wm_g k]? = some (wm_rho ρ h0 c k, sm_cel (wm_rho ρ h0 c) cI cF (wm_st σ) k) := by
  obtain ⟨j, rfl⟩ : ∃ j, k = 110 + j + 1 := ⟨k - 111, by omega⟩
  unfold wm_W
  rw [show wm_g (110 + j + 1) = 110 + j + 1 by unfold wm_g; rw [if_neg (by omega), if_neg (by omega)], wm_cons]
  have key : (wm_R cI c)[j]? = some (wm_rho ρ h0 c (110 + j + 1), sm_cel (wm_rho ρ h0 c) cI cF (wm_st σ) (110 + j + 1)) := by
    rcases (show j = 0 ∨ j = 1 ∨ j = 2 ∨ j = 3 ∨ j = 4 ∨ j = 5 ∨ j = 6 ∨ j = 7 ∨ j = 8 ∨ j = 9 ∨ j = 10 ∨ j = 11 ∨ j = 12 ∨ j = 13 ∨ j = 14 ∨ j = 15 ∨ j = 16 by omega) with rfl | rfl | rfl | rfl | rfl | rfl | rfl | rfl | rfl | rfl | rfl | rfl | rfl | rfl | rfl | rfl | rfl
    · rfl
    · rfl
    · rfl
    · rfl
    · rfl
    · rfl
    · rfl
    · rfl
    · rfl
    · rfl
    · rfl
    · rfl
    · rfl
    · rfl
    · rfl
    · rfl
    · rfl
  have := sk_at (a := n_sm_ws ρ cI cF σ) key
  rw [n_sm_len] at this
  exact this
theorem wm_obj {cI cF : ClassId} {ρ : Nat → Nat} {σ : sm_St} {h0 : Nat} {c : Nat → Nat} : (wm_W cI cF ρ σ h0 c)[wm_g 110]? = some (wm_rho ρ h0 c 110, sm_cel (wm_rho ρ h0 c) cI cF (wm_st σ) 110) := by
  rw [sm_cel_o (ci := 5) rfl]
  rfl
theorem wm_P {D : va_G} {cI cF : ClassId} {ρ : Nat → Nat} {σ : sm_St} {h0 : Nat} {c : Nat → Nat} {H : Heap} (h : va_P D vc6 (wm_W cI cF ρ σ h0 c) H) : va_P D vc6 (sm_ws (wm_rho ρ h0 c) cI cF (wm_st σ)) H := by
  intro k q hk
  obtain ⟨h1, rfl⟩ := sm_ws_of hk
  have rowE : ∀ (N : Nat) (f g : Nat → Option Nat), (∀ j, j < N → f j = g j) → vp_cell cF (N, .inr (.inr (.inr (.inr f)))) = vp_cell cF (N, .inr (.inr (.inr (.inr g)))) := fun N f g hfg => by
    rw [vp_cell_q, vp_cell_q]
    unfold arrV
    congr 2
    funext j
    dsimp only
    rw [hfg j j.2]
  by_cases k1 : k < 110
  · by_cases e5 : k = 105
    · subst e5
      have hU := h (wm_g 105) _ (wm_old k1)
      show H[ρ 105]? = some (vp_cell cF (8, .inr (.inr (.inr (.inr (fun i => some (wm_rho ρ h0 c (16 + 8 * i))))))))
      rw [← rowE 8 (fun i => some (ρ (16 + 8 * i))) (fun i => some (wm_rho ρ h0 c (16 + 8 * i))) (fun j hj => by
        unfold wm_rho
        rw [if_pos (by omega)])]
      exact hU
    · by_cases e7 : k = 107
      · subst e7
        have hU := h (wm_g 107) _ (wm_old k1)
        show H[ρ 107]? = some (vp_cell cF (2, .inr (.inr (.inr (.inr (fun i => some (wm_rho ρ h0 c (80 + 8 * i))))))))
        rw [← rowE 2 (fun i => some (ρ (80 + 8 * i))) (fun i => some (wm_rho ρ h0 c (80 + 8 * i))) (fun j hj => by
          unfold wm_rho
          rw [if_pos (by omega)])]
        exact hU
      · exact h (wm_g k) _ ((wm_old k1).trans (by rw [wm_cel k1 ⟨e5, e7⟩]))
  · by_cases e : k = 110
    · subst e
      exact h (wm_g 110) _ wm_obj
    · exact h (wm_g k) _ (wm_new (by omega) h1)
theorem wm_D {A : Nat → Prop} {cI cF : ClassId} {ρ : Nat → Nat} {σ : sm_St} {h0 : Nat} {c : Nat → Nat} (h : va_D A (wm_W cI cF ρ σ h0 c)) : va_D A (sm_ws (wm_rho ρ h0 c) cI cF (wm_st σ)) := by
  have key : ∀ k, k < 128 → ∃ e, (wm_W cI cF ρ σ h0 c)[wm_g k]? = some (wm_rho ρ h0 c k, e) := fun k hk => by
    by_cases k1 : k < 110
    · exact ⟨_, wm_old k1⟩
    · by_cases e : k = 110
      · subst e
        exact ⟨_, wm_obj⟩
      · exact ⟨_, wm_new (by omega) hk⟩
  refine ⟨fun i j p q hi hj e => ?_, fun k q hk => ?_⟩
  · obtain ⟨h1, rfl⟩ := sm_ws_of hi
    obtain ⟨h2, rfl⟩ := sm_ws_of hj
    obtain ⟨e1, k1⟩ := key i h1
    obtain ⟨e2, k2⟩ := key j h2
    exact wm_g_inj h1 h2 (h.1 _ _ _ _ k1 k2 e)
  · obtain ⟨h1, rfl⟩ := sm_ws_of hk
    obtain ⟨e1, k1⟩ := key k h1
    have := h.2 _ _ k1
    exact this
/-! the first posts and sailors of the model -/
def q_first1 (σ : sm_St) (x y s : Int32) : sm_St := sm_set (q_sets σ (σ 110 0) x y s) 110 0 (q_sets σ (σ 110 0) x y s 110 0 + 1)
def q_one_a (σ : sm_St) (k : Int32) : sm_St := r_set σ 111 8 (σ 110 1) k
def q_one_b (σ : sm_St) (k s : Int32) : sm_St := r_set (q_one_a σ k) 112 8 (q_one_a σ k 110 1) s
def q_one_c (σ : sm_St) (k s n : Int32) : sm_St := r_set (q_one_b σ k s) 113 8 (q_one_b σ k s 110 1) n
def q_one1 (σ : sm_St) (k s n : Int32) : sm_St := sm_set (q_one_c σ k s n) 110 1 (q_one_c σ k s n 110 1 + 1)
theorem q_one_a1 {σ : sm_St} {k : Int32} {q : Nat} (h : q < 111 ∨ 113 < q) : q_one_a σ k q = σ q := r_set_off (by omega)
theorem q_one_b1 {σ : sm_St} {k s : Int32} {q : Nat} (h : q < 111 ∨ 113 < q) : q_one_b σ k s q = σ q := (r_set_off (by omega)).trans (q_one_a1 h)
theorem q_one_c1 {σ : sm_St} {k s n : Int32} {q : Nat} (h : q < 111 ∨ 113 < q) : q_one_c σ k s n q = σ q := (r_set_off (by omega)).trans (q_one_b1 h)
theorem q_first_0 {σ : sm_St} {x y s : Int32} : q_first1 σ x y s 110 0 = σ 110 0 + 1 := by
  unfold q_first1
  rw [sm_set_eq, q_sets_off (Or.inl (by decide))]
theorem q_first_1 {σ : sm_St} {x y s : Int32} : q_first1 σ x y s 110 1 = σ 110 1 := by
  unfold q_first1
  rw [sm_set_ne (by decide), q_sets_off (Or.inl (by decide))]
theorem q_one_0 {σ : sm_St} {x y s : Int32} : q_one1 σ x y s 110 0 = σ 110 0 := by
  unfold q_one1
  rw [sm_set_ne (by decide), q_one_c1 (Or.inl (by decide))]
theorem q_one_1 {σ : sm_St} {x y s : Int32} : q_one1 σ x y s 110 1 = σ 110 1 + 1 := by
  unfold q_one1
  rw [sm_set_eq, q_one_c1 (Or.inl (by decide))]
set_option maxHeartbeats 2000000 in
theorem c_firstPost {σ : sm_St} (x y s : Int32) (hp : vp_in (σ 110 0) 6) : sm_C yX6_firstPost cX6_firstPost 4 none 2 [.ref 110, .int x, .int y, .int s] σ none (q_first1 σ x y s) := by
  refine sm_C.of (own := RX6) (by decide) rfl (Nat.le_of_ble_eq_true rfl) ?_
  show sm_W RX6 cX6_firstPost 4 none 2 none (q_first1 σ x y s) 0 [(0, .ref 110), (1, .int x), (2, .int y), (3, .int s)] [] σ
  refine sw_aload_n dX6_firstPost_0 rfl ?_
  refine sw_aload_n dX6_firstPost_1 rfl ?_
  refine sw_getI dX6_firstPost_2 fl_X6_84 rfl rfl ?_
  refine sw_iload_n dX6_firstPost_5 rfl ?_
  refine sw_iload_n dX6_firstPost_6 rfl ?_
  refine sw_iload_n dX6_firstPost_7 rfl ?_
  refine sw_callV dX6_firstPost_8 lV_X6_87 (c_q_sets _ _ _ _ hp) rfl rfl rfl rfl (Nat.le_of_ble_eq_true rfl) (Nat.le_of_ble_eq_true rfl) ?_
  refine sw_aload_n dX6_firstPost_11 rfl ?_
  refine sw_dup dX6_firstPost_12 rfl ?_
  refine sw_getI dX6_firstPost_13 fl_X6_84 rfl rfl ?_
  refine sw_iconst (v := 1) dX6_firstPost_16 (by decide) ?_
  refine sw_iadd dX6_firstPost_17 ?_
  refine sw_put dX6_firstPost_18 fl_X6_84 fi_5_0 rfl rfl ?_
  refine sw_vret dX6_firstPost_21 rfl rfl ?_
  all_goals (first | with_reducible rfl | (rfl))
set_option maxHeartbeats 2000000 in
theorem c_firstOne {σ : sm_St} (k s n : Int32) (hp : vp_in (σ 110 1) 8) : sm_C yX6_firstOne cX6_firstOne 4 none 2 [.ref 110, .int k, .int s, .int n] σ none (q_one1 σ k s n) := by
  refine sm_C.of (own := RX6) (by decide) rfl (Nat.le_of_ble_eq_true rfl) ?_
  show sm_W RX6 cX6_firstOne 4 none 2 none (q_one1 σ k s n) 0 [(0, .ref 110), (1, .int k), (2, .int s), (3, .int n)] [] σ
  have hb : vp_in (q_one_a σ k 110 1) 8 := by rw [q_one_a1 (Or.inl (by decide))]; exact hp
  have hc : vp_in (q_one_b σ k s 110 1) 8 := by rw [q_one_b1 (Or.inl (by decide))]; exact hp
  refine sw_aload_n dX6_firstOne_0 rfl ?_
  refine sw_getR (j := 111) dX6_firstOne_1 fl_X6_9 rfl rfl ?_
  refine sw_aload_n dX6_firstOne_4 rfl ?_
  refine sw_getI dX6_firstOne_5 fl_X6_91 rfl rfl ?_
  refine sw_iload_n dX6_firstOne_8 rfl ?_
  refine sw_iastR dX6_firstOne_9 rfl hp ?_
  refine sw_aload_n dX6_firstOne_10 rfl ?_
  refine sw_getR (j := 112) dX6_firstOne_11 fl_X6_13 rfl rfl ?_
  refine sw_aload_n dX6_firstOne_14 rfl ?_
  refine sw_getI dX6_firstOne_15 fl_X6_91 rfl rfl ?_
  refine sw_iload_n dX6_firstOne_18 rfl ?_
  refine sw_iastR dX6_firstOne_19 rfl hb ?_
  refine sw_aload_n dX6_firstOne_20 rfl ?_
  refine sw_getR (j := 113) dX6_firstOne_21 fl_X6_16 rfl rfl ?_
  refine sw_aload_n dX6_firstOne_24 rfl ?_
  refine sw_getI dX6_firstOne_25 fl_X6_91 rfl rfl ?_
  refine sw_iload_n dX6_firstOne_28 rfl ?_
  refine sw_iastR dX6_firstOne_29 rfl hc ?_
  refine sw_aload_n dX6_firstOne_30 rfl ?_
  refine sw_dup dX6_firstOne_31 rfl ?_
  refine sw_getI dX6_firstOne_32 fl_X6_91 rfl rfl ?_
  refine sw_iconst (v := 1) dX6_firstOne_35 (by decide) ?_
  refine sw_iadd dX6_firstOne_36 ?_
  refine sw_put dX6_firstOne_37 fl_X6_91 fi_5_1 rfl rfl ?_
  refine sw_vret dX6_firstOne_40 rfl rfl ?_
  all_goals (first | with_reducible rfl | (rfl))
/-! a number put into a field, in any room -/
section
variable {p : Program} {l : Launch} {e : Env} {R : Room} {s : State} {m : MethodId} {args : Array Value} {below : List Frame} {meth : Method} {c : Code} {H : Heap} {locs : List Loc} {cells slots : Nat} {Q : State → Prop}
variable {cc : ByteArray} {pc : Nat} {ls : Array Slot} {D : va_G} {A : Nat → Prop} {cI cF : ClassId} {ρ : Nat → Nat}
theorem lw_putI {own : String} {idx i k ci : Nat} {st : List Value} {σ : sm_St} {v : Int32} (x1 : p.tables.exec = Jvm.exec) (x2 : c.code = cc) (x4 : s.vm.findClass own = some m.cls) (x5 : ∀ w ∈ gw, w.before args s = true) (hK : va_K D vc6 (sm_ty cI cF) s) (hd : decode cc pc = .ok (.putfield idx, 3)) (hf : sm_fl own idx ci i) (hi : sm_fi ci i) (ho : sm_ocl k = some ci) (hr : sm_rf ci k i = none) (hP : va_P D vc6 (sm_ws ρ cI cF σ) H) (hD : va_D A (sm_ws ρ cI cF σ)) (hS : va_S A s.heap H locs)
    (kk : ∀ (H1 : Heap) (locs1 : List Loc), va_P D vc6 (sm_ws ρ cI cF (sm_set σ k i v)) H1 → va_D A (sm_ws ρ cI cF (sm_set σ k i v)) → va_S A s.heap H1 locs1 → W p l e R s m args below meth c H1 locs1 cells slots Q (F0 m (pc + 3) ls st)) : W p l e R s m args below meth c H locs cells slots Q (F0 m pc ls (.int v :: .ref (ρ k) :: st)) := by
  have hk := (sm_ocl_lt ho).1
  obtain ⟨ty, ht, hnm⟩ := sm_nm ci hf.1
  refine va_put (D := D) (ws := sm_ws ρ cI cF σ) (C := (sm_c ci).1) (T := (sm_c ci).2.1) (N := (sm_c ci).2.2) (ref := ((sm_c ci).2.1 i).1) (fs := (List.range (sm_c ci).2.2).map (sm_fv ρ σ ci k)) (v := .int v) (ty := .int) x1 x2 (Ts := gw) x5 (sm_in ci hf.1) ty ht hnm x4 hK hP hD hS k (ci := ci) ((sm_ws_at hk).trans (by rw [sm_cel_o ho])) (sm_c_at ci hf.1) i hf.2.1 (x5 _ hf.2.2) (fun _ h => h) hi.1 hi.2 rfl rfl (by simp; exact hf.2.1) hd (fun H1 locs1 hP1 hD1 hS1 => ?_)
  rw [sm_ws_put ho hr hf.2.1] at hP1 hD1
  exact kk H1 locs1 hP1 hD1 hS1
end

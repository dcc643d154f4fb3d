/-! a call in any room: over the world of 128 cells, over that of 110 -/
section
variable {p : Program} {l : Launch} {e : Env} {R : Room} {s : State} {m : MethodId} {args : Array Value} {below : List Frame} {meth : Method} {c : Code} {H : Heap} {locs : List Loc} {cells slots : Nat} {Q : State → Prop}
variable {cc : ByteArray} {pc : Nat} {ls : Array Slot} {D : va_G} {A : Nat → Prop} {cI cF : ClassId} {ρ : Nat → Nat}
theorem lw_callV {own : String} {nL : Nat} {y : MethodName} {cy : ByteArray} {nLy dy idx n k ci : Nat} {rety : Option FieldType} {as st stk : List Value} {r1 : Option Value} {σ σ1 : sm_St} (x1 : p.tables.exec = Jvm.exec) (x2 : c.code = cc) (x3 : c.maxLocals = nL) (x4 : s.vm.findClass own = some m.cls) (x5 : ∀ w ∈ gw, w.before args s = true) (hK : va_K D vc6 (sm_ty cI cF) s) (hG : sm_G ρ A s s.heap) (hA : ∀ q : Nat, s.heap.size ≤ q → A q) (hd : decode cc pc = .ok (.invokevirtual idx, 3)) (hL : sm_lV own idx y cy nLy rety n) (hc : sm_C y cy nLy rety dy (.ref k :: as) σ r1 σ1) (ho : sm_ocl k = some ci) (hci : y.cls = (sm_c ci).1)
    (hs : stk = (as.map (sm_cv ρ)).reverse ++ .ref (ρ k) :: st) (hn : as.length = n) (hsz : ls.size = nL) (hdd : dy + 1 ≤ R.frames) (hdl : 40 * (dy + 1) ≤ R.locals) (hcs : cells ≤ R.cells ∧ slots ≤ R.slots) (hst : (st.map fun v => v.category).sum ≤ 8) (hP : va_P D vc6 (sm_ws ρ cI cF σ) H) (hD : va_D A (sm_ws ρ cI cF σ)) (hS : va_S A s.heap H locs)
    (kk : ∀ (H1 : Heap) (locs1 : List Loc), va_P D vc6 (sm_ws ρ cI cF σ1) H1 → va_D A (sm_ws ρ cI cF σ1) → va_S A s.heap H1 locs1 → W p l e R s m args below meth c H1 locs1 cells slots Q (F0 m (pc + 3) ls ((r1.map (sm_cv ρ)).toList ++ st))) : W p l e R s m args below meth c H locs cells slots Q (F0 m pc ls stk) := by
  subst hs
  have hF := sm_free hD hA hS
  have hk := sm_ocl_lt ho
  have hM := hc l ρ D cI cF H.size
  refine sm_call (va_runV (b := ρ k) (As := as.map (sm_cv ρ)) (rest := st) ⟨x1, x2, x3, x4, x5⟩ hM (cwV n x5 (sm_gV hL) rfl rfl rfl ⟨rfl, hL.2.1⟩ ⟨hdd, ?_⟩) ⟨sm_blind, ?_, fun U hU hW => ⟨rfl, ?_⟩⟩ rfl (by rw [List.length_map]; exact hn) hsz rfl (lv_room hst) hd hcs) hS (fun q _ h => hF q h) hF (fun H1 locs1 hP1 hS1 => kk H1 locs1 hP1 (sm_D hD) hS1)
  · show 8 + (nLy + 11) + 40 * dy ≤ R.locals
    have := hL.2.2
    omega
  · rw [hci]
    exact va_recv (ws := sm_ws ρ cI cF σ) hK hP (sm_c_at ci hk.2) (q0 := k) (fs := (List.range (sm_c ci).2.2).map (sm_fv ρ σ ci k)) ((sm_ws_at hk.1).trans (by rw [sm_cel_o ho]))
  · exact ⟨by rw [hU], by rw [hU]; exact hP, va_K.moved hW.alike hK, hD.weaken (fun _ _ _ _ => trivial), by rw [hU]; exact hG.warm hW hS hF⟩
theorem n_lw_callV {own : String} {nL : Nat} {y : MethodName} {cy : ByteArray} {nLy dy idx n k ci : Nat} {rety : Option FieldType} {as st stk : List Value} {r1 : Option Value} {σ σ1 : sm_St} (x1 : p.tables.exec = Jvm.exec) (x2 : c.code = cc) (x3 : c.maxLocals = nL) (x4 : s.vm.findClass own = some m.cls) (x5 : ∀ w ∈ gw, w.before args s = true) (hK : va_K D vc6 (sm_ty cI cF) s) (hG : sm_G ρ A s s.heap) (hA : ∀ q : Nat, s.heap.size ≤ q → A q) (hd : decode cc pc = .ok (.invokevirtual idx, 3)) (hL : sm_lV own idx y cy nLy rety n) (hc : n_sm_C y cy nLy rety dy (.ref k :: as) σ r1 σ1) (ho : n_sm_ocl k = some ci) (hci : y.cls = (sm_c ci).1)
    (hs : stk = (as.map (sm_cv ρ)).reverse ++ .ref (ρ k) :: st) (hn : as.length = n) (hsz : ls.size = nL) (hdd : dy + 1 ≤ R.frames) (hdl : 40 * (dy + 1) ≤ R.locals) (hcs : cells ≤ R.cells ∧ slots ≤ R.slots) (hst : (st.map fun v => v.category).sum ≤ 8) (hP : va_P D vc6 (n_sm_ws ρ cI cF σ) H) (hD : va_D A (n_sm_ws ρ cI cF σ)) (hS : va_S A s.heap H locs)
    (kk : ∀ (H1 : Heap) (locs1 : List Loc), va_P D vc6 (n_sm_ws ρ cI cF σ1) H1 → va_D A (n_sm_ws ρ cI cF σ1) → va_S A s.heap H1 locs1 → W p l e R s m args below meth c H1 locs1 cells slots Q (F0 m (pc + 3) ls ((r1.map (sm_cv ρ)).toList ++ st))) : W p l e R s m args below meth c H locs cells slots Q (F0 m pc ls stk) := by
  subst hs
  have hF := n_sm_free hD hA hS
  have hk := n_sm_ocl_lt ho
  have hM := hc l ρ D cI cF H.size
  refine n_sm_call (va_runV (b := ρ k) (As := as.map (sm_cv ρ)) (rest := st) ⟨x1, x2, x3, x4, x5⟩ hM (cwV n x5 (sm_gV hL) rfl rfl rfl ⟨rfl, hL.2.1⟩ ⟨hdd, ?_⟩) ⟨n_sm_blind, ?_, fun U hU hW => ⟨rfl, ?_⟩⟩ rfl (by rw [List.length_map]; exact hn) hsz rfl (lv_room hst) hd hcs) hS (fun q _ h => hF q h) hF (fun H1 locs1 hP1 hS1 => kk H1 locs1 hP1 (n_sm_D hD) hS1)
  · show 8 + (nLy + 11) + 40 * dy ≤ R.locals
    have := hL.2.2
    omega
  · rw [hci]
    exact va_recv (ws := n_sm_ws ρ cI cF σ) hK hP (sm_c_at ci hk.2) (q0 := k) (fs := (List.range (sm_c ci).2.2).map (sm_fv ρ σ ci k)) ((n_sm_ws_at hk.1).trans (by rw [n_sm_cel_o ho]))
  · exact ⟨by rw [hU], by rw [hU]; exact hP, va_K.moved hW.alike hK, hD.weaken (fun _ _ _ _ => trivial), by rw [hU]; exact hG.warm hW hS hF⟩
end

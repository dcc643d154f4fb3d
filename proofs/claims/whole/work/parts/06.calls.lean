/-! calls -/
section
variable {p : Program} {l : Launch} {e : Env} {R : Room} {s : State} {m : MethodId} {args : Array Value} {below : List Frame} {meth : Method} {c : Code} {H : Heap} {locs : List Loc} {cells slots : Nat} {Q : State → Prop}
variable {pc : Nat} {ls : Array Slot} {rest st0 : List Value} {a : Array Value} {A0 A1 : Nat → Prop} {H0 : Heap} {free : Addr → Prop}
theorem sm_call {ρ : Nat → Nat} {D : va_G} {cI cF : ClassId} {r1 : Option Value} {σ1 : sm_St} (hr : va_Run p l e R s m args below meth c H locs cells slots 0 0 (F0 m pc ls st0) rest (sm_Q ρ D cI cF A1 r1 σ1 a) free) (hS : va_S A0 H0 H locs) (hA : ∀ q, q < H.size → A1 q → A0 q) (hf : ∀ q, free q → A0 q)
    (kk : ∀ (H1 : Heap) (locs1 : List Loc), va_P D vc6 (sm_ws ρ cI cF σ1) H1 → va_S A0 H0 H1 locs1 → W p l e R s m args below meth c H1 locs1 cells slots Q (F0 m (pc + 3) ls ((r1.map (sm_cv ρ)).toList ++ rest))) : W p l e R s m args below meth c H locs cells slots Q (F0 m pc ls st0) := by
  intro T hT X
  obtain ⟨v, st₀, t, T', L, h0, X', hL, e1, e2, ⟨⟨hv, hp, hb⟩, hz, hk⟩, st⟩ := hr T hT X
  cases hv
  rw [h0] at hz hk
  obtain ⟨t2, a1, b1⟩ := kk T'.heap (locs ++ L) (by rw [e1]; exact hp)
    ⟨Nat.le_trans hS.1 (by rw [e1]; exact hz), fun q h1 h2 => by rw [e1, hk q (Nat.lt_of_lt_of_le h1 hS.1) (fun z => h2 (hA q (Nat.lt_of_lt_of_le h1 hS.1) z))]; exact hS.2.1 q h1 h2, fun q hq => by
      rcases List.mem_append.mp hq with h | h
      · exact hS.2.2 q h
      · exact hf _ (hL q h)⟩ T' rfl X'
  exact ⟨t2, st t2 a1, b1⟩
end
theorem sm_blind {ρ : Nat → Nat} {D : va_G} {cI cF : ClassId} {σ : sm_St} {sz : Nat} {as : List Value} : FrameBlind (va_Pc as (sm_Wd ρ D cI cF σ sz)) := by
  intro a U g mk h
  obtain ⟨h0, h1, h2, h3, h4, h5⟩ := h
  exact ⟨h0, h1, h2, va_K.moved (u := U) (U := U.calling g mk a) (Vm.Alike.refl U.vm) h3, h4, sm_G.same (u := U) (U := U.calling g mk a) h5 rfl⟩
/-- what the tables say of a call: of the object's own class; static, of the same class; static, of another class of ours -/
def sm_lV (own : String) (idx : Nat) (y : MethodName) (cc : ByteArray) (nL : Nat) (ret : Option FieldType) (n : Nat) : Prop :=
  (Cond.methodLink own idx y ∈ gw ∧ Cond.instanceMethod y ∈ gw ∧ Cond.selects y.cls y y ∈ gw ∧ Cond.initialized y.cls ∈ gw ∧ Cond.code y cc nL ret ∈ gw) ∧ (y.cls ≠ "java/lang/invoke/MethodHandle" ∧ y.cls ≠ "java/lang/invoke/VarHandle" ∧ (parseMethodDescriptor y.desc).map (fun d => d.parameters.length) = some n) ∧ nL ≤ 21
def sm_lS (own : String) (idx : Nat) (y : MethodName) (cc : ByteArray) (nL : Nat) (ret : Option FieldType) (n : Nat) : Prop :=
  (Cond.methodLink own idx y ∈ gw ∧ Cond.static y ∈ gw ∧ Cond.initialized y.cls ∈ gw ∧ Cond.code y cc nL ret ∈ gw) ∧ (y.cls ≠ "java/lang/invoke/MethodHandle" ∧ y.cls ≠ "java/lang/invoke/VarHandle" ∧ (parseMethodDescriptor y.desc).map (fun d => d.parameters.length) = some n) ∧ nL ≤ 21
def sm_lN (y : MethodName) (cc : ByteArray) (nL : Nat) (ret : Option FieldType) (n : Nat) : Prop :=
  (Cond.static y ∈ gw ∧ Cond.initialized y.cls ∈ gw ∧ Cond.code y cc nL ret ∈ gw) ∧ (y.cls ≠ "java/lang/invoke/MethodHandle" ∧ y.cls ≠ "java/lang/invoke/VarHandle" ∧ (parseMethodDescriptor y.desc).map (fun d => d.parameters.length) = some n) ∧ nL ≤ 21
theorem sm_good {w : Cond} (h : w ∈ gw) : w ∈ gw ∧ ((w.onTables && w.keeps) = true ∨ ∃ ty, w = .arrayClass ty) := gw_good w h
theorem sm_gV {own : String} {idx nL n : Nat} {y : MethodName} {cc : ByteArray} {ret : Option FieldType} (h : sm_lV own idx y cc nL ret n) : GoodIn gw (wsV own idx y.cls y (.code y cc nL ret :: gw)) := by
  intro w hw
  simp only [wsV, List.cons_append, List.nil_append, List.mem_cons] at hw
  obtain ⟨⟨h1, h2, h3, h4, h5⟩, -⟩ := h
  rcases hw with rfl | rfl | rfl | rfl | rfl | hw
  · exact sm_good h1
  · exact sm_good h2
  · exact sm_good h3
  · exact sm_good h4
  · exact sm_good h5
  · exact sm_good hw
theorem sm_gS {own : String} {idx nL n : Nat} {y : MethodName} {cc : ByteArray} {ret : Option FieldType} (h : sm_lS own idx y cc nL ret n) : GoodIn gw (va_wsS own idx y (.code y cc nL ret :: gw)) := by
  intro w hw
  simp only [va_wsS, List.cons_append, List.nil_append, List.mem_cons] at hw
  obtain ⟨⟨h1, h2, h3, h4⟩, -⟩ := h
  rcases hw with rfl | rfl | rfl | rfl | hw
  · exact sm_good h1
  · exact sm_good h2
  · exact sm_good h3
  · exact sm_good h4
  · exact sm_good hw
theorem sm_gN {nL n : Nat} {y : MethodName} {cc : ByteArray} {ret : Option FieldType} (h : sm_lN y cc nL ret n) : GoodIn gw (.code y cc nL ret :: gw) := by
  intro w hw
  rcases List.mem_cons.mp hw with rfl | hw
  · exact sm_good h.1.2.2
  · exact sm_good hw
section
variable {own : String} {cc : ByteArray} {nL d : Nat} {ret : Option FieldType} {r : Option Value} {σ' σ : sm_St} {pc : Nat} {lv : List (Nat × Value)}
theorem sw_callV {y : MethodName} {cy : ByteArray} {nLy dy idx n k ci : Nat} {rety : Option FieldType} {as st stk : List Value} {r1 : Option Value} {σ1 : sm_St} (hd : decode cc pc = .ok (.invokevirtual idx, 3)) (hL : sm_lV own idx y cy nLy rety n) (hc : sm_C y cy nLy rety dy (.ref k :: as) σ r1 σ1) (ho : sm_ocl k = some ci) (hci : y.cls = (sm_c ci).1)
    (hs : stk = as.reverse ++ .ref k :: st) (hn : as.length = n) (hdd : dy + 1 ≤ d) (hst : (st.map fun v => v.category).sum ≤ 8) (kk : sm_W own cc nL ret d r σ' (pc + 3) lv (r1.toList ++ st) σ1) : sm_W own cc nL ret d r σ' pc lv stk σ := by
  subst hs
  intro p l e s m args below meth c ρ D cI cF A H locs ls X hl hP hD hS
  obtain ⟨x1, x2, x3, x4, x5, x6, x7, x8, x9, x10⟩ := id X
  have hF := sm_free hD x10 hS
  have hk := sm_ocl_lt ho
  have hM := hc l ρ D cI cF H.size
  refine sm_call (va_runV (b := ρ k) (As := as.map (sm_cv ρ)) (rest := st.map (sm_cv ρ)) ⟨x1, x2, x3, x4, x5⟩ hM (cwV n x5 (sm_gV hL) rfl rfl rfl ⟨rfl, hL.2.1⟩ ⟨hdd, ?_⟩) ⟨sm_blind, ?_, fun U hU hW => ⟨rfl, ?_⟩⟩ rfl (by rw [List.length_map]; exact hn) hl.1 ?_ (lv_room ?_) hd ⟨Nat.le_refl _, Nat.le_refl _⟩) hS (fun q _ h => hF q h) hF (fun H1 locs1 hP1 hS1 => ?_)
  · show 8 + (nLy + 11) + 40 * dy ≤ 40 * d
    have := hL.2.2
    omega
  · rw [hci]
    exact va_recv (ws := sm_ws ρ cI cF σ) x8 hP (sm_c_at ci hk.2) (q0 := k) (fs := (List.range (sm_c ci).2.2).map (sm_fv ρ σ ci k)) ((sm_ws_at hk.1).trans (by rw [sm_cel_o ho]))
  · exact ⟨by rw [hU], by rw [hU]; exact hP, va_K.moved hW.alike x8, hD.weaken (fun _ _ _ _ => trivial), by rw [hU]; exact x9.warm hW hS hF⟩
  · show (as.reverse ++ .ref k :: st).map (sm_cv ρ) = _
    rw [List.map_append, List.map_reverse]
    rfl
  · rw [List.map_map]
    refine Nat.le_trans (Nat.le_of_eq ?_) hst
    congr 2
    funext v
    exact sm_cv_cat ρ v
  · have h := kk (l := l) (e := e) (below := below) X hl hP1 (sm_D hD) hS1
    rw [List.map_append] at h
    cases r1 <;> exact h
theorem sw_callS {y : MethodName} {cy : ByteArray} {nLy dy idx n : Nat} {rety : Option FieldType} {as st stk : List Value} {r1 : Option Value} {σ1 : sm_St} (hd : decode cc pc = .ok (.invokestatic idx, 3)) (hL : sm_lS own idx y cy nLy rety n) (hc : sm_C y cy nLy rety dy as σ r1 σ1)
    (hs : stk = as.reverse ++ st) (hn : as.length = n) (hdd : dy + 1 ≤ d) (hst : (st.map fun v => v.category).sum ≤ 8) (kk : sm_W own cc nL ret d r σ' (pc + 3) lv (r1.toList ++ st) σ1) : sm_W own cc nL ret d r σ' pc lv stk σ := by
  subst hs
  intro p l e s m args below meth c ρ D cI cF A H locs ls X hl hP hD hS
  obtain ⟨x1, x2, x3, x4, x5, x6, x7, x8, x9, x10⟩ := id X
  have hF := sm_free hD x10 hS
  have hM := hc l ρ D cI cF H.size
  refine sm_call (va_runS (As := as.map (sm_cv ρ)) (rest := st.map (sm_cv ρ)) ⟨x1, x2, x3, x4, x5⟩ hM (va_cwS n x5 (sm_gS hL) rfl rfl rfl hL.2.1 ⟨hdd, ?_⟩) ⟨sm_blind, fun U hU hW => ⟨rfl, ?_⟩⟩ rfl (by rw [List.length_map]; exact hn) hl.1 ?_ (lv_room ?_) hd ⟨Nat.le_refl _, Nat.le_refl _⟩) hS (fun q _ h => hF q h) hF (fun H1 locs1 hP1 hS1 => ?_)
  · show 8 + (nLy + 11) + 40 * dy ≤ 40 * d
    have := hL.2.2
    omega
  · exact ⟨by rw [hU], by rw [hU]; exact hP, va_K.moved hW.alike x8, hD.weaken (fun _ _ _ _ => trivial), by rw [hU]; exact x9.warm hW hS hF⟩
  · show (as.reverse ++ st).map (sm_cv ρ) = _
    rw [List.map_append, List.map_reverse]
  · rw [List.map_map]
    refine Nat.le_trans (Nat.le_of_eq ?_) hst
    congr 2
    funext v
    exact sm_cv_cat ρ v
  · have h := kk (l := l) (e := e) (below := below) X hl hP1 (sm_D hD) hS1
    rw [List.map_append] at h
    cases r1 <;> exact h
/-- a static method of a nest mate, private there -/
theorem sw_callN {y : MethodName} {cy : ByteArray} {nLy dy idx n : Nat} {rety : Option FieldType} {as st stk : List Value} {r1 : Option Value} {σ1 : sm_St} (hd : decode cc pc = .ok (.invokestatic idx, 3)) (hL : sm_lN y cy nLy rety n) (hc : sm_C y cy nLy rety dy as σ r1 σ1) (hG : ∀ {ρ : Nat → Nat} {A : Nat → Prop} {U : State} {H : Heap}, sm_G ρ A U H → va_Nw (.methodLinkNest own idx y RX5) U)
    (hs : stk = as.reverse ++ st) (hn : as.length = n) (hdd : dy + 1 ≤ d) (hst : (st.map fun v => v.category).sum ≤ 8) (kk : sm_W own cc nL ret d r σ' (pc + 3) lv (r1.toList ++ st) σ1) : sm_W own cc nL ret d r σ' pc lv stk σ := by
  subst hs
  intro p l e s m args below meth c ρ D cI cF A H locs ls X hl hP hD hS
  obtain ⟨x1, x2, x3, x4, x5, x6, x7, x8, x9, x10⟩ := id X
  have hF := sm_free hD x10 hS
  have hM := hc l ρ D cI cF H.size
  refine sm_call (va_runSN (As := as.map (sm_cv ρ)) (rest := st.map (sm_cv ρ)) ⟨x1, x2, x3, x4, x5⟩ hM ⟨va_cnB n x5 (sm_gN hL) rfl rfl rfl (hG x9) (x5 _ hL.1.2.1) hL.2.1 ⟨hdd, ?_⟩, x5 _ hL.1.1, trivial⟩ ⟨sm_blind, fun U hU hW => ⟨rfl, ?_⟩⟩ rfl (by rw [List.length_map]; exact hn) hl.1 ?_ (lv_room ?_) hd ⟨Nat.le_refl _, Nat.le_refl _⟩) hS (fun q _ h => hF q h) hF (fun H1 locs1 hP1 hS1 => ?_)
  · show 8 + (nLy + 11) + 40 * dy ≤ 40 * d
    have := hL.2.2
    omega
  · exact ⟨by rw [hU], by rw [hU]; exact hP, va_K.moved hW.alike x8, hD.weaken (fun _ _ _ _ => trivial), by rw [hU]; exact x9.warm hW hS hF⟩
  · show (as.reverse ++ st).map (sm_cv ρ) = _
    rw [List.map_append, List.map_reverse]
  · rw [List.map_map]
    refine Nat.le_trans (Nat.le_of_eq ?_) hst
    congr 2
    funext v
    exact sm_cv_cat ρ v
  · have h := kk (l := l) (e := e) (below := below) X hl hP1 (sm_D hD) hS1
    rw [List.map_append] at h
    cases r1 <;> exact h
theorem sm_sum {ρ : Nat → Nat} {st : List Value} (h : (st.map fun v => v.category).sum ≤ 8) : ((st.map (sm_cv ρ)).map fun v => v.category).sum ≤ 8 := by
  rw [List.map_map]
  refine Nat.le_trans (Nat.le_of_eq ?_) h
  congr 2
  funext v
  exact sm_cv_cat ρ v
/-! the JDK's: abs, min, max, arraycopy -/
def sm_lJ (own : String) (idx : Nat) (y : MethodName) (cls : String) (cc : ByteArray) (nL : Nat) : Prop := Cond.methodLink own idx y ∈ gw ∧ Cond.static y ∈ gw ∧ Cond.initialized cls ∈ gw ∧ Cond.code y cc nL (some .int) ∈ gw
theorem sw_abs {idx : Nat} {st : List Value} {x : Int32} (hd : decode cc pc = .ok (.invokestatic idx, 3)) (hL : sm_lJ own idx Lib.Math.abs.name "java/lang/Math" Lib.Math.abs.code 1) (hdd : 1 ≤ d) (hst : (st.map fun v => v.category).sum ≤ 8) (kk : sm_W own cc nL ret d r σ' (pc + 3) lv (.int (if 0 ≤ x then x else 0 - x) :: st) σ) : sm_W own cc nL ret d r σ' pc lv (.int x :: st) σ := by
  intro p l e s m args below meth c ρ D cI cF A H locs ls X hl hP hD hS
  obtain ⟨x1, x2, x3, x4, x5, x6, x7, x8, x9, x10⟩ := id X
  have h8 := sm_sum (ρ := ρ) hst
  exact va_mabs x1 x2 (by rw [x3]; exact hl.1.symm) x4 (x5 _ hL.1) (x5 _ hL.2.1) (x5 _ hL.2.2.1) (x5 _ hL.2.2.2) hdd (by show _ ≤ 40 * d; omega) (Nat.le_refl _) (Nat.le_refl _) hd (kk X hl hP hD hS)
theorem sw_min {idx : Nat} {st : List Value} {x y : Int32} (hd : decode cc pc = .ok (.invokestatic idx, 3)) (hL : sm_lJ own idx Lib.Math.min.name "java/lang/Math" Lib.Math.min.code 2) (hdd : 1 ≤ d) (hst : (st.map fun v => v.category).sum ≤ 8) (kk : sm_W own cc nL ret d r σ' (pc + 3) lv (.int (if y < x then y else x) :: st) σ) : sm_W own cc nL ret d r σ' pc lv (.int y :: .int x :: st) σ := by
  intro p l e s m args below meth c ρ D cI cF A H locs ls X hl hP hD hS
  obtain ⟨x1, x2, x3, x4, x5, x6, x7, x8, x9, x10⟩ := id X
  have h8 := sm_sum (ρ := ρ) hst
  exact va_mmin x1 x2 (by rw [x3]; exact hl.1.symm) x4 (x5 _ hL.1) (x5 _ hL.2.1) (x5 _ hL.2.2.1) (x5 _ hL.2.2.2) hdd (by show _ ≤ 40 * d; omega) (Nat.le_refl _) (Nat.le_refl _) hd (kk X hl hP hD hS)
theorem sw_max {idx : Nat} {st : List Value} {x y : Int32} (hd : decode cc pc = .ok (.invokestatic idx, 3)) (hL : sm_lJ own idx Lib.Math.max.name "java/lang/Math" Lib.Math.max.code 2) (hdd : 1 ≤ d) (hst : (st.map fun v => v.category).sum ≤ 8) (kk : sm_W own cc nL ret d r σ' (pc + 3) lv (.int (if x < y then y else x) :: st) σ) : sm_W own cc nL ret d r σ' pc lv (.int y :: .int x :: st) σ := by
  intro p l e s m args below meth c ρ D cI cF A H locs ls X hl hP hD hS
  obtain ⟨x1, x2, x3, x4, x5, x6, x7, x8, x9, x10⟩ := id X
  have h8 := sm_sum (ρ := ρ) hst
  exact va_mmax x1 x2 (by rw [x3]; exact hl.1.symm) x4 (x5 _ hL.1) (x5 _ hL.2.1) (x5 _ hL.2.2.1) (x5 _ hL.2.2.2) hdd (by show _ ≤ 40 * d; omega) (Nat.le_refl _) (Nat.le_refl _) hd (kk X hl hP hD hS)
theorem sw_copy {idx a0 a1 n0 n1 : Nat} {n : Int32} {st : List Value} (hd : decode cc pc = .ok (.invokestatic idx, 3)) (hL : Cond.methodLink own idx arraycopyName ∈ gw ∧ Cond.native arraycopyName ∈ gw ∧ Cond.static arraycopyName ∈ gw ∧ Cond.initialized "java/lang/System" ∈ gw) (hdd : 1 ≤ d) (hst : (st.map fun v => v.category).sum ≤ 8)
    (h0 : sm_aln a0 = some n0) (h1 : sm_aln a1 = some n1) (hn : ¬ n < 0) (hn0 : n.toNatClampNeg ≤ n0) (hn1 : n.toNatClampNeg ≤ n1) (kk : sm_W own cc nL ret d r σ' (pc + 3) lv st (sm_row σ a1 (va_cpy (σ a0) (σ a1) 0 0 n.toNatClampNeg))) : sm_W own cc nL ret d r σ' pc lv (.int n :: .int 0 :: .ref a1 :: .int 0 :: .ref a0 :: st) σ := by
  intro p l e s m args below meth c ρ D cI cF A H locs ls X hl hP hD hS
  obtain ⟨x1, x2, x3, x4, x5, x6, x7, x8, x9, x10⟩ := id X
  have h8 := sm_sum (ρ := ρ) hst
  refine va_copyi (ws := sm_ws ρ cI cF σ) (c0 := cI) (c1 := cI) (n0 := n0) (n1 := n1) (f := σ a0) (g := σ a1) (ty := .int) (sp := 0) (dp := 0) x1 x2 (by rw [x3]; exact hl.1.symm) x4 (x5 _ hL.1) (x5 _ hL.2.1) (x5 _ hL.2.2.1) (x5 _ hL.2.2.2) x8 hP hD hS a0 a1 0 0 ((sm_ws_at (sm_aln_lt h0).1).trans (by rw [sm_cel_a h0])) ((sm_ws_at (sm_aln_lt h1).1).trans (by rw [sm_cel_a h1])) rfl rfl rfl (by decide) (by decide) hn (by rw [sb_cl0]; omega) (by rw [sb_cl0]; omega) (fun i _ => rfl) hdd ?_ hd (fun H1 locs1 hP1 hD1 hS1 => ?_)
  · have h9 : nativeFrameWords "java/lang/System" "arraycopy" 5 + 11 ≤ 30 := by decide +kernel
    show _ ≤ 40 * d
    omega
  · rw [sm_ws_row h1, sb_cl0] at hP1 hD1
    exact kk X hl hP1 hD1 hS1
end

/-! constructors: an array made and put into a field; Field, Text, Sightings -/
theorem arr_I : Cond.arrayClass .int ∈ gw := List.mem_filter.mpr ⟨by decide +kernel, rfl⟩
theorem obj_i : Cond.instanceMethod objectInit ∈ gw := List.mem_filter.mpr ⟨by decide +kernel, rfl⟩
theorem obj_c : Cond.code objectInit ⟨#[0xb1]⟩ 1 none ∈ gw := List.mem_filter.mpr ⟨by decide +kernel, by decide +kernel⟩
theorem sk_cI {D : va_G} {cl : List vw_C} {cI cF cA : ClassId} {s : State} (h : va_K D cl (sm_ty cI cF ++ [(cA, .int)]) s) : cA = cI := by
  have h0 := (h.2 0 (cI, .int) rfl).2
  have h2 := (h.2 2 (cA, .int) rfl).2
  exact Option.some.inj (h2.symm.trans h0)
theorem sk_cF {D : va_G} {cl : List vw_C} {cI cF cA : ClassId} {s : State} (h : va_K D cl (sm_ty cI cF ++ [(cA, .object RX0)]) s) : cA = cF := by
  obtain ⟨k0, c0, -, -, -, h0⟩ := (h.2 1 (cF, .object RX0) rfl).2
  obtain ⟨k2, c2, -, -, -, h2⟩ := (h.2 2 (cA, .object RX0) rfl).2
  exact Option.some.inj (h2.symm.trans h0)
theorem sk_tK {D : va_G} {cl : List vw_C} {cI cF : ClassId} {x : ClassId × FieldType} {s : State} (h : va_K D cl (sm_ty cI cF ++ [x]) s) : va_K D cl (sm_ty cI cF) s := h.sub [0, 1] rfl
section
variable {p : Program} {l : Launch} {e : Env} {R : Room} {s : State} {m : MethodId} {args : Array Value} {below : List Frame} {meth : Method} {c : Code} {H : Heap} {locs : List Loc} {cells slots : Nat} {Q : State → Prop}
variable {cc : ByteArray} {pc : Nat} {ls : Array Slot} {rest : List Value} {D : va_G} {A : Nat → Prop} {cI cF : ClassId}
theorem sk_newput (x1 : p.tables.exec = Jvm.exec) (x2 : c.code = cc) {own : String} (x4 : s.vm.findClass own = some m.cls) (x5 : ∀ w ∈ gw, w.before args s = true) (hin : meth.name = "<init>") {ci k idx : Nat} (hf : sm_fl own idx ci k) (hO : ((sm_c ci).2.1 k).1 = own) (hfin : ((sm_c ci).2.1 k).2.2.2 = true) (hds : parseFieldDescriptor ((sm_c ci).2.1 k).2.2.1 = some (.array .int))
    (hK : va_K D vc6 (sm_ty cI cF) s) {h0 : Nat} {fs : List Value} {w : va_W} (hP : va_P D vc6 ((h0, .inr (ci, fs)) :: w) H) (hD : va_D A ((h0, .inr (ci, fs)) :: w)) (hS : va_S A s.heap H locs) (hA : ∀ q : Nat, s.heap.size ≤ q → A q) (hl : k < fs.length)
    {n : Int32} {N : Nat} (hn : ¬ n < 0) (hN : n.toNatClampNeg = N) (hb : N ≤ 1000) (hc : cells + 1 ≤ R.cells) (hs : slots + N ≤ R.slots) (d1 : decode cc pc = .ok (.newarray .int, 2)) (d2 : decode cc (pc + 2) = .ok (.putfield idx, 3))
    (kk : ∀ (q : Nat) (H1 : Heap) (locs1 : List Loc), va_P D vc6 ((h0, .inr (ci, fs.set k (.ref q))) :: (w ++ [(q, .inl (cI, N, .inl (fun _ => 0)))])) H1 → va_D A ((h0, .inr (ci, fs.set k (.ref q))) :: (w ++ [(q, .inl (cI, N, .inl (fun _ => 0)))])) → va_S A s.heap H1 locs1 → W p l e R s m args below meth c H1 locs1 (cells + 1) (slots + N) Q (F0 m (pc + 2 + 3) ls rest)) : W p l e R s m args below meth c H locs cells slots Q (F0 m pc ls (.int n :: .ref h0 :: rest)) := by
  refine va_newa (atype := .int) (ty := .int) (a0 := (N, .inl (fun _ => 0))) (N' := N) x1 x2 (x5 _ arr_I) rfl hK hP hD hS hA (fun _ => rfl) hn hN ?_ hc hs d1 (fun q cA H1 hK1 hP1 hD1 hS1 => ?_)
  · show N * 4 ≤ 536870912
    omega
  obtain rfl := sk_cI hK1
  obtain ⟨ty, ht, hnm⟩ := sm_nm ci hf.1
  refine va_putF (D := D) (C := (sm_c ci).1) (T := (sm_c ci).2.1) (N := (sm_c ci).2.2) (ref := ((sm_c ci).2.1 k).1) (Ts := gw) (v := .ref q) (ty := .array .int) x1 x2 x5 (sm_in ci hf.1) ty ht hnm x4 (sk_tK hK1) hP1 hD1 hS1 0 (ci := ci) (fs := fs) rfl (sm_c_at ci hf.1) k hf.2.1 (x5 _ hf.2.2) (fun _ h => h) hfin hin hO hds rfl rfl hl d2 (fun H2 locs2 hP2 hD2 hS2 => ?_)
  exact kk q H2 locs2 hP2 hD2 hS2
end
def sk_Pc (D : va_G) (cI cF : ClassId) (as : List Value) (ws : va_W) (sz : Nat) : Array Value → State → Prop := va_Pc as (fun U => U.heap.size = sz ∧ va_P D vc6 ws U.heap ∧ va_K D vc6 (sm_ty cI cF) U ∧ va_D (fun _ => True) ws)
def sk_Q (D : va_G) (cI cF : ClassId) (A : Nat → Prop) (h0 : Nat) (F : (Nat → Nat) → va_W) : Array Value → State → Outcome → State → Prop := va_Qv (fun α : Nat → Nat => α 0 = h0) (fun α t => va_P D vc6 (F α) t.heap ∧ va_K D vc6 (sm_ty cI cF) t ∧ va_D A (F α)) A
theorem sk_blind {D : va_G} {cI cF : ClassId} {as : List Value} {ws : va_W} {sz : Nat} : FrameBlind (sk_Pc D cI cF as ws sz) := by
  intro a U g mk h
  obtain ⟨h0, h1, h2, h3, h4⟩ := h
  exact ⟨h0, h1, h2, va_K.moved (u := U) (U := U.calling g mk a) (Vm.Alike.refl U.vm) h3, h4⟩

def w_Text (cI : ClassId) (α : Nat → Nat) : va_W := [(α 0, .inr (3, [.ref (α 1), .ref (α 2), .int 0, .int 0])), (α 1, .inl (cI, 200, .inl (fun _ => 0))), (α 2, .inl (cI, 3, .inl (fun _ => 0)))]
abbrev w_Text0 : List Value := [.null, .null, .int 0, .int 0]
theorem lk_Text_9 : sm_fl RX4 9 3 0 := ⟨by decide, by decide, List.mem_filter.mpr ⟨by decide +kernel, by decide +kernel⟩⟩
theorem lk_Text_15 : sm_fl RX4 15 3 1 := ⟨by decide, by decide, List.mem_filter.mpr ⟨by decide +kernel, by decide +kernel⟩⟩
theorem lo_Text : Cond.methodLink RX4 3 objectInit ∈ gw := List.mem_filter.mpr ⟨by decide +kernel, by decide +kernel⟩
set_option maxHeartbeats 4000000 in
set_option maxRecDepth 100000 in
theorem k_Text (l : Launch) (D : va_G) (cI cF : ClassId) (h0 sz : Nat) : Met l yX4_init (.code yX4_init cX4_init 1 none :: gw) ({ frames := 1, cells := 2, slots := 203, locals := 40 } : Room) (sk_Pc D cI cF [.ref h0] [(h0, .inr (3, w_Text0))] sz) (sk_Q D cI cF (va_A [(h0, .inr (3, w_Text0))] sz) h0 (w_Text cI)) 2 203 (va_A [(h0, .inr (3, w_Text0))] sz) := by
  refine Met.ofW (cc := cX4_init) (maxL := 1) (ret := none) (by decide) rfl ?_
  intro p e s m args below meth c s₁ B hml hv
  obtain ⟨rfl, hsz, hP, hK, hD0⟩ := hv
  have x1 := B.exec
  have x2 := B.bytes
  have x6 := B.returns
  have hts0 := atoms_spec (ws := .code yX4_init cX4_init 1 none :: gw) B.pre
  have x5 : ∀ w ∈ gw, w.before #[Value.ref h0] s = true := fun w hw => hts0 w (List.mem_cons_of_mem _ hw)
  have x4 : s.vm.findClass RX4 = some m.cls := findClass_of_methodNamed B.named
  have x7 := B.notSynchronized
  have hin : meth.name = "<init>" := (name_of_methodNamed B.named B.method).1
  subst hsz
  have hD := hD0.self (sz := s.heap.size)
  generalize hAe : va_A [(h0, .inr (3, w_Text0))] s.heap.size = A at hD ⊢
  have hA : ∀ q : Nat, s.heap.size ≤ q → A q := fun q h => by rw [← hAe]; exact Or.inr h
  have hS : va_S A s.heap s.heap [] := va_S.rf
  have hl := lv_entry ([.ref h0]) (n := 1) (Nat.le_of_ble_eq_true rfl)
  rw [lg_entry_eq]
  generalize (lg_sl ([.ref h0]) ++ List.replicate (1 - (lg_sl ([.ref h0])).length) Slot.unset).toArray = ls at hl ⊢
  have hl : lv_has ls 1 [(0, .ref h0)] := hl
  refine lv_aload_n x1 x2 dX4_init_0 rfl (lv_at hl 0 rfl) ?_
  refine W.objInit x1 x2 x4 (x5 _ lo_Text) (x5 _ obj_i) (x5 _ obj_c) rfl (by rw [hml]; exact hl.1) rfl dX4_init_1 (Nat.le_of_ble_eq_true rfl) (Nat.le_of_ble_eq_true rfl) ?_
  refine W.eq (g2 := F0 m 4 ls []) rfl ?_
  refine lv_aload_n x1 x2 dX4_init_4 rfl (lv_at hl 0 rfl) ?_
  refine lv_sipush (v := 200) x1 x2 dX4_init_5 (by decide) ?_
  refine sk_newput (N := 200) x1 x2 x4 x5 hin lk_Text_9 (by decide) (by decide) (by decide) hK hP hD hS hA (Nat.le_of_ble_eq_true rfl) (by decide) (by decide) (by decide) (Nat.le_of_ble_eq_true rfl) (Nat.le_of_ble_eq_true rfl) dX4_init_8 dX4_init_10 (fun q1 H locs hP hD hS => ?_)
  refine lv_aload_n x1 x2 dX4_init_13 rfl (lv_at hl 0 rfl) ?_
  refine lv_iconst (v := 3) x1 x2 dX4_init_14 (by decide) ?_
  refine sk_newput (N := 3) x1 x2 x4 x5 hin lk_Text_15 (by decide) (by decide) (by decide) hK hP hD hS hA (Nat.le_of_ble_eq_true rfl) (by decide) (by decide) (by decide) (Nat.le_of_ble_eq_true rfl) (Nat.le_of_ble_eq_true rfl) dX4_init_15 dX4_init_17 (fun q2 H locs hP hD hS => ?_)
  have hP9 : va_P D vc6 (w_Text cI (fun i => match i with | 0 => h0 | 1 => q1 | _ => q2)) H := hP
  have hD9 : va_D A (w_Text cI (fun i => match i with | 0 => h0 | 1 => q1 | _ => q2)) := hD
  exact W.vret x1 x2 x6 (fun t ht hW => ⟨⟨_, rfl, rfl, by rw [ht]; exact hP9, va_K.moved hW.alike hK, hD9⟩, hS.F ht⟩) hS.2.2 dX4_init_20 x7
def w_Sight (cI : ClassId) (α : Nat → Nat) : va_W := [(α 0, .inr (2, [.ref (α 1), .ref (α 2), .ref (α 3), .int 0])), (α 1, .inl (cI, 6, .inl (fun _ => 0))), (α 2, .inl (cI, 6, .inl (fun _ => 0))), (α 3, .inl (cI, 6, .inl (fun _ => 0)))]
abbrev w_Sight0 : List Value := [.null, .null, .null, .int 0]
theorem lk_Sight_9 : sm_fl RX3 9 2 0 := ⟨by decide, by decide, List.mem_filter.mpr ⟨by decide +kernel, by decide +kernel⟩⟩
theorem lk_Sight_15 : sm_fl RX3 15 2 1 := ⟨by decide, by decide, List.mem_filter.mpr ⟨by decide +kernel, by decide +kernel⟩⟩
theorem lk_Sight_18 : sm_fl RX3 18 2 2 := ⟨by decide, by decide, List.mem_filter.mpr ⟨by decide +kernel, by decide +kernel⟩⟩
theorem lo_Sight : Cond.methodLink RX3 3 objectInit ∈ gw := List.mem_filter.mpr ⟨by decide +kernel, by decide +kernel⟩
set_option maxHeartbeats 4000000 in
set_option maxRecDepth 100000 in
theorem k_Sight (l : Launch) (D : va_G) (cI cF : ClassId) (h0 sz : Nat) : Met l yX3_init (.code yX3_init cX3_init 1 none :: gw) ({ frames := 1, cells := 3, slots := 18, locals := 40 } : Room) (sk_Pc D cI cF [.ref h0] [(h0, .inr (2, w_Sight0))] sz) (sk_Q D cI cF (va_A [(h0, .inr (2, w_Sight0))] sz) h0 (w_Sight cI)) 3 18 (va_A [(h0, .inr (2, w_Sight0))] sz) := by
  refine Met.ofW (cc := cX3_init) (maxL := 1) (ret := none) (by decide) rfl ?_
  intro p e s m args below meth c s₁ B hml hv
  obtain ⟨rfl, hsz, hP, hK, hD0⟩ := hv
  have x1 := B.exec
  have x2 := B.bytes
  have x6 := B.returns
  have hts0 := atoms_spec (ws := .code yX3_init cX3_init 1 none :: gw) B.pre
  have x5 : ∀ w ∈ gw, w.before #[Value.ref h0] s = true := fun w hw => hts0 w (List.mem_cons_of_mem _ hw)
  have x4 : s.vm.findClass RX3 = some m.cls := findClass_of_methodNamed B.named
  have x7 := B.notSynchronized
  have hin : meth.name = "<init>" := (name_of_methodNamed B.named B.method).1
  subst hsz
  have hD := hD0.self (sz := s.heap.size)
  generalize hAe : va_A [(h0, .inr (2, w_Sight0))] s.heap.size = A at hD ⊢
  have hA : ∀ q : Nat, s.heap.size ≤ q → A q := fun q h => by rw [← hAe]; exact Or.inr h
  have hS : va_S A s.heap s.heap [] := va_S.rf
  have hl := lv_entry ([.ref h0]) (n := 1) (Nat.le_of_ble_eq_true rfl)
  rw [lg_entry_eq]
  generalize (lg_sl ([.ref h0]) ++ List.replicate (1 - (lg_sl ([.ref h0])).length) Slot.unset).toArray = ls at hl ⊢
  have hl : lv_has ls 1 [(0, .ref h0)] := hl
  refine lv_aload_n x1 x2 dX3_init_0 rfl (lv_at hl 0 rfl) ?_
  refine W.objInit x1 x2 x4 (x5 _ lo_Sight) (x5 _ obj_i) (x5 _ obj_c) rfl (by rw [hml]; exact hl.1) rfl dX3_init_1 (Nat.le_of_ble_eq_true rfl) (Nat.le_of_ble_eq_true rfl) ?_
  refine W.eq (g2 := F0 m 4 ls []) rfl ?_
  refine lv_aload_n x1 x2 dX3_init_4 rfl (lv_at hl 0 rfl) ?_
  refine lv_bipush (v := 6) x1 x2 dX3_init_5 (by decide) ?_
  refine sk_newput (N := 6) x1 x2 x4 x5 hin lk_Sight_9 (by decide) (by decide) (by decide) hK hP hD hS hA (Nat.le_of_ble_eq_true rfl) (by decide) (by decide) (by decide) (Nat.le_of_ble_eq_true rfl) (Nat.le_of_ble_eq_true rfl) dX3_init_7 dX3_init_9 (fun q1 H locs hP hD hS => ?_)
  refine lv_aload_n x1 x2 dX3_init_12 rfl (lv_at hl 0 rfl) ?_
  refine lv_bipush (v := 6) x1 x2 dX3_init_13 (by decide) ?_
  refine sk_newput (N := 6) x1 x2 x4 x5 hin lk_Sight_15 (by decide) (by decide) (by decide) hK hP hD hS hA (Nat.le_of_ble_eq_true rfl) (by decide) (by decide) (by decide) (Nat.le_of_ble_eq_true rfl) (Nat.le_of_ble_eq_true rfl) dX3_init_15 dX3_init_17 (fun q2 H locs hP hD hS => ?_)
  refine lv_aload_n x1 x2 dX3_init_20 rfl (lv_at hl 0 rfl) ?_
  refine lv_bipush (v := 6) x1 x2 dX3_init_21 (by decide) ?_
  refine sk_newput (N := 6) x1 x2 x4 x5 hin lk_Sight_18 (by decide) (by decide) (by decide) hK hP hD hS hA (Nat.le_of_ble_eq_true rfl) (by decide) (by decide) (by decide) (Nat.le_of_ble_eq_true rfl) (Nat.le_of_ble_eq_true rfl) dX3_init_23 dX3_init_25 (fun q3 H locs hP hD hS => ?_)
  have hP9 : va_P D vc6 (w_Sight cI (fun i => match i with | 0 => h0 | 1 => q1 | 2 => q2 | _ => q3)) H := hP
  have hD9 : va_D A (w_Sight cI (fun i => match i with | 0 => h0 | 1 => q1 | 2 => q2 | _ => q3)) := hD
  exact W.vret x1 x2 x6 (fun t ht hW => ⟨⟨_, rfl, rfl, by rw [ht]; exact hP9, va_K.moved hW.alike hK, hD9⟩, hS.F ht⟩) hS.2.2 dX3_init_28 x7
def w_Field (cI : ClassId) (α : Nat → Nat) : va_W := [(α 0, .inr (0, [.int 0, .int 0, .int 0, .int 0, .int 0, .int 0, .int 0, .int 0, .int 0, .int 0, .ref (α 1), .ref (α 2), .ref (α 3), .ref (α 4), .ref (α 5), .ref (α 6), .ref (α 7)])), (α 1, .inl (cI, 6, .inl (fun _ => 0))), (α 2, .inl (cI, 6, .inl (fun _ => 0))), (α 3, .inl (cI, 6, .inl (fun _ => 0))), (α 4, .inl (cI, 6, .inl (fun _ => 0))), (α 5, .inl (cI, 8, .inl (fun _ => 0))), (α 6, .inl (cI, 8, .inl (fun _ => 0))), (α 7, .inl (cI, 8, .inl (fun _ => 0)))]
abbrev w_Field0 : List Value := [.int 0, .int 0, .int 0, .int 0, .int 0, .int 0, .int 0, .int 0, .int 0, .int 0, .null, .null, .null, .null, .null, .null, .null]
theorem lk_Field_9 : sm_fl RX0 9 0 10 := ⟨by decide, by decide, List.mem_filter.mpr ⟨by decide +kernel, by decide +kernel⟩⟩
theorem lk_Field_15 : sm_fl RX0 15 0 11 := ⟨by decide, by decide, List.mem_filter.mpr ⟨by decide +kernel, by decide +kernel⟩⟩
theorem lk_Field_18 : sm_fl RX0 18 0 12 := ⟨by decide, by decide, List.mem_filter.mpr ⟨by decide +kernel, by decide +kernel⟩⟩
theorem lk_Field_21 : sm_fl RX0 21 0 13 := ⟨by decide, by decide, List.mem_filter.mpr ⟨by decide +kernel, by decide +kernel⟩⟩
theorem lk_Field_24 : sm_fl RX0 24 0 14 := ⟨by decide, by decide, List.mem_filter.mpr ⟨by decide +kernel, by decide +kernel⟩⟩
theorem lk_Field_27 : sm_fl RX0 27 0 15 := ⟨by decide, by decide, List.mem_filter.mpr ⟨by decide +kernel, by decide +kernel⟩⟩
theorem lk_Field_30 : sm_fl RX0 30 0 16 := ⟨by decide, by decide, List.mem_filter.mpr ⟨by decide +kernel, by decide +kernel⟩⟩
theorem lo_Field : Cond.methodLink RX0 3 objectInit ∈ gw := List.mem_filter.mpr ⟨by decide +kernel, by decide +kernel⟩
set_option maxHeartbeats 4000000 in
set_option maxRecDepth 100000 in
theorem k_Field (l : Launch) (D : va_G) (cI cF : ClassId) (h0 sz : Nat) : Met l yX0_init (.code yX0_init cX0_init 1 none :: gw) ({ frames := 1, cells := 7, slots := 48, locals := 40 } : Room) (sk_Pc D cI cF [.ref h0] [(h0, .inr (0, w_Field0))] sz) (sk_Q D cI cF (va_A [(h0, .inr (0, w_Field0))] sz) h0 (w_Field cI)) 7 48 (va_A [(h0, .inr (0, w_Field0))] sz) := by
  refine Met.ofW (cc := cX0_init) (maxL := 1) (ret := none) (by decide) rfl ?_
  intro p e s m args below meth c s₁ B hml hv
  obtain ⟨rfl, hsz, hP, hK, hD0⟩ := hv
  have x1 := B.exec
  have x2 := B.bytes
  have x6 := B.returns
  have hts0 := atoms_spec (ws := .code yX0_init cX0_init 1 none :: gw) B.pre
  have x5 : ∀ w ∈ gw, w.before #[Value.ref h0] s = true := fun w hw => hts0 w (List.mem_cons_of_mem _ hw)
  have x4 : s.vm.findClass RX0 = some m.cls := findClass_of_methodNamed B.named
  have x7 := B.notSynchronized
  have hin : meth.name = "<init>" := (name_of_methodNamed B.named B.method).1
  subst hsz
  have hD := hD0.self (sz := s.heap.size)
  generalize hAe : va_A [(h0, .inr (0, w_Field0))] s.heap.size = A at hD ⊢
  have hA : ∀ q : Nat, s.heap.size ≤ q → A q := fun q h => by rw [← hAe]; exact Or.inr h
  have hS : va_S A s.heap s.heap [] := va_S.rf
  have hl := lv_entry ([.ref h0]) (n := 1) (Nat.le_of_ble_eq_true rfl)
  rw [lg_entry_eq]
  generalize (lg_sl ([.ref h0]) ++ List.replicate (1 - (lg_sl ([.ref h0])).length) Slot.unset).toArray = ls at hl ⊢
  have hl : lv_has ls 1 [(0, .ref h0)] := hl
  refine lv_aload_n x1 x2 dX0_init_0 rfl (lv_at hl 0 rfl) ?_
  refine W.objInit x1 x2 x4 (x5 _ lo_Field) (x5 _ obj_i) (x5 _ obj_c) rfl (by rw [hml]; exact hl.1) rfl dX0_init_1 (Nat.le_of_ble_eq_true rfl) (Nat.le_of_ble_eq_true rfl) ?_
  refine W.eq (g2 := F0 m 4 ls []) rfl ?_
  refine lv_aload_n x1 x2 dX0_init_4 rfl (lv_at hl 0 rfl) ?_
  refine lv_bipush (v := 6) x1 x2 dX0_init_5 (by decide) ?_
  refine sk_newput (N := 6) x1 x2 x4 x5 hin lk_Field_9 (by decide) (by decide) (by decide) hK hP hD hS hA (Nat.le_of_ble_eq_true rfl) (by decide) (by decide) (by decide) (Nat.le_of_ble_eq_true rfl) (Nat.le_of_ble_eq_true rfl) dX0_init_7 dX0_init_9 (fun q1 H locs hP hD hS => ?_)
  refine lv_aload_n x1 x2 dX0_init_12 rfl (lv_at hl 0 rfl) ?_
  refine lv_bipush (v := 6) x1 x2 dX0_init_13 (by decide) ?_
  refine sk_newput (N := 6) x1 x2 x4 x5 hin lk_Field_15 (by decide) (by decide) (by decide) hK hP hD hS hA (Nat.le_of_ble_eq_true rfl) (by decide) (by decide) (by decide) (Nat.le_of_ble_eq_true rfl) (Nat.le_of_ble_eq_true rfl) dX0_init_15 dX0_init_17 (fun q2 H locs hP hD hS => ?_)
  refine lv_aload_n x1 x2 dX0_init_20 rfl (lv_at hl 0 rfl) ?_
  refine lv_bipush (v := 6) x1 x2 dX0_init_21 (by decide) ?_
  refine sk_newput (N := 6) x1 x2 x4 x5 hin lk_Field_18 (by decide) (by decide) (by decide) hK hP hD hS hA (Nat.le_of_ble_eq_true rfl) (by decide) (by decide) (by decide) (Nat.le_of_ble_eq_true rfl) (Nat.le_of_ble_eq_true rfl) dX0_init_23 dX0_init_25 (fun q3 H locs hP hD hS => ?_)
  refine lv_aload_n x1 x2 dX0_init_28 rfl (lv_at hl 0 rfl) ?_
  refine lv_bipush (v := 6) x1 x2 dX0_init_29 (by decide) ?_
  refine sk_newput (N := 6) x1 x2 x4 x5 hin lk_Field_21 (by decide) (by decide) (by decide) hK hP hD hS hA (Nat.le_of_ble_eq_true rfl) (by decide) (by decide) (by decide) (Nat.le_of_ble_eq_true rfl) (Nat.le_of_ble_eq_true rfl) dX0_init_31 dX0_init_33 (fun q4 H locs hP hD hS => ?_)
  refine lv_aload_n x1 x2 dX0_init_36 rfl (lv_at hl 0 rfl) ?_
  refine lv_bipush (v := 8) x1 x2 dX0_init_37 (by decide) ?_
  refine sk_newput (N := 8) x1 x2 x4 x5 hin lk_Field_24 (by decide) (by decide) (by decide) hK hP hD hS hA (Nat.le_of_ble_eq_true rfl) (by decide) (by decide) (by decide) (Nat.le_of_ble_eq_true rfl) (Nat.le_of_ble_eq_true rfl) dX0_init_39 dX0_init_41 (fun q5 H locs hP hD hS => ?_)
  refine lv_aload_n x1 x2 dX0_init_44 rfl (lv_at hl 0 rfl) ?_
  refine lv_bipush (v := 8) x1 x2 dX0_init_45 (by decide) ?_
  refine sk_newput (N := 8) x1 x2 x4 x5 hin lk_Field_27 (by decide) (by decide) (by decide) hK hP hD hS hA (Nat.le_of_ble_eq_true rfl) (by decide) (by decide) (by decide) (Nat.le_of_ble_eq_true rfl) (Nat.le_of_ble_eq_true rfl) dX0_init_47 dX0_init_49 (fun q6 H locs hP hD hS => ?_)
  refine lv_aload_n x1 x2 dX0_init_52 rfl (lv_at hl 0 rfl) ?_
  refine lv_bipush (v := 8) x1 x2 dX0_init_53 (by decide) ?_
  refine sk_newput (N := 8) x1 x2 x4 x5 hin lk_Field_30 (by decide) (by decide) (by decide) hK hP hD hS hA (Nat.le_of_ble_eq_true rfl) (by decide) (by decide) (by decide) (Nat.le_of_ble_eq_true rfl) (Nat.le_of_ble_eq_true rfl) dX0_init_55 dX0_init_57 (fun q7 H locs hP hD hS => ?_)
  have hP9 : va_P D vc6 (w_Field cI (fun i => match i with | 0 => h0 | 1 => q1 | 2 => q2 | 3 => q3 | 4 => q4 | 5 => q5 | 6 => q6 | _ => q7)) H := hP
  have hD9 : va_D A (w_Field cI (fun i => match i with | 0 => h0 | 1 => q1 | 2 => q2 | 3 => q3 | 4 => q4 | 5 => q5 | 6 => q6 | _ => q7)) := hD
  exact W.vret x1 x2 x6 (fun t ht hW => ⟨⟨_, rfl, rfl, by rw [ht]; exact hP9, va_K.moved hW.alike hK, hD9⟩, hS.F ht⟩) hS.2.2 dX0_init_60 x7

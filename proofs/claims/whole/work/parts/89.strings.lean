/-! the String constant: its length, its letters -/
def sx_b : List Int32 := [115, 52, 44, 52, 44, 50, 59, 119, 50, 44, 49, 59, 112, 49, 44, 52, 44, 48, 59, 112, 55, 44, 50, 44, 49, 59, 112, 52, 44, 55, 44, 50, 59, 112, 56, 44, 56, 44, 48, 59, 99, 48, 44, 48, 44, 54, 59, 99, 49, 44, 49, 44, 51, 59, 99, 50, 44, 50, 44, 49, 59, 99, 51, 44, 48, 44, 53, 59, 99, 48, 44, 49, 44, 57, 59]
def sx_len : List Nat := [75]
def sx_byt : List (List Int32) := [sx_b]
def sx_S (adK adV : Nat → Nat) (A : Nat → Prop) (U : State) (H : Heap) : Prop := vk_S 1 sx_len sx_byt adK adV A U H ∧ va_Z "java/lang/String" "COMPACT_STRINGS" "Z" (.int 1) A U H ∧ va_Zq "jdk/internal/util/Preconditions" "SIOOBE_FORMATTER" "Ljava/util/function/BiFunction;" A U H
theorem sx_S.moved {adK adV : Nat → Nat} {A : Nat → Prop} {u U : State} {H : Heap} (hvm : u.vm.Alike U.vm) (h : sx_S adK adV A u H) : sx_S adK adV A U H := ⟨h.1.moved hvm, h.2.1.moved hvm, h.2.2.moved hvm⟩
theorem sx_S.warm {adK adV : Nat → Nat} {A A1 : Nat → Prop} {s U : State} {H : Heap} {locs : List Loc} (h : sx_S adK adV A s s.heap) (hW : s.WarmedH U.vm) (hS : va_S A s.heap H locs) (hA : ∀ q, A1 q → A q) : sx_S adK adV A1 U H := ⟨((h.1.kept hS.2.1).narrow hA).moved hW.alike, ((h.2.1.kept hS.2.1).narrow hA).moved hW.alike, ((h.2.2.kept hS.2.1).narrow hA).moved hW.alike⟩
def sx_Pc (adK adV : Nat → Nat) (as : List Value) (sz : Nat) : Array Value → State → Prop := va_Pc as (fun U => U.heap.size = sz ∧ sx_S adK adV (fun q => sz ≤ q) U U.heap)
def sx_Q (sz : Nat) (r : Option Value) : Array Value → State → Outcome → State → Prop := fun _ st oc t => oc = .returned r ∧ va_F (fun q => sz ≤ q) st t
theorem sx_blind {adK adV : Nat → Nat} {as : List Value} {sz : Nat} : FrameBlind (sx_Pc adK adV as sz) := by
  intro a U g mk h
  obtain ⟨h0, h1, h2⟩ := h
  exact ⟨h0, h1, h2.moved (u := U) (U := U.calling g mk a) (Vm.Alike.refl U.vm)⟩
/-- what holds all through such a method -/
def sx_X (own : String) (cc : ByteArray) (nL : Nat) (ret : Option FieldType) (p : Program) (s : State) (m : MethodId) (args : Array Value) (meth : Method) (c : Code) (adK adV : Nat → Nat) : Prop :=
  p.tables.exec = Jvm.exec ∧ c.code = cc ∧ c.maxLocals = nL ∧ s.vm.findClass own = some m.cls ∧ (∀ w ∈ gw, w.before args s = true) ∧ meth.sig.returnType = ret ∧ meth.locks = false ∧ sx_S adK adV (fun q => s.heap.size ≤ q) s s.heap
def sx_C (y : MethodName) (cc : ByteArray) (nL : Nat) (ret : Option FieldType) (d : Nat) (adK adV : Nat → Nat) (as : List Value) (r : Option Value) : Prop :=
  ∀ (l : Launch) (sz : Nat), Met l y (.code y cc nL ret :: gw) (sm_rm d) (sx_Pc adK adV as sz) (sx_Q sz r) 0 0 (fun q => sz ≤ q)
theorem sx_C.of {y : MethodName} {own : String} {cc : ByteArray} {nL d : Nat} {ret : Option FieldType} {adK adV : Nat → Nat} {as : List Value} {r : Option Value} (hy : plainName y.cls = true) (ho : y.cls = own) (hn : (lg_sl as).length ≤ nL)
    (h : ∀ ⦃p : Program⦄ ⦃l : Launch⦄ ⦃e : Env⦄ ⦃s : State⦄ ⦃m : MethodId⦄ ⦃args : Array Value⦄ ⦃below : List Frame⦄ ⦃meth : Method⦄ ⦃c : Code⦄ ⦃ls : Array Slot⦄, sx_X own cc nL ret p s m args meth c adK adV → lv_has ls nL (lv_args 0 as) → W p l e (sm_rm d) s m args below meth c s.heap [] 0 0 (MQ below (sx_Q s.heap.size r) args s 0 0 (fun q => s.heap.size ≤ q)) (F0 m 0 ls [])) : sx_C y cc nL ret d adK adV as r := by
  intro l sz
  refine Met.ofW (cc := cc) (maxL := nL) (ret := ret) hy rfl ?_
  intro p e s m args below meth c s₁ B hml hv
  obtain ⟨rfl, hsz, hG⟩ := hv
  have hts0 := atoms_spec (ws := .code y cc nL ret :: gw) B.pre
  have hown : s.vm.findClass own = some m.cls := ho ▸ findClass_of_methodNamed B.named
  subst hsz
  have hl := lv_entry as (n := nL) hn
  rw [lg_entry_eq]
  exact h ⟨B.exec, B.bytes, hml, hown, fun w hw => hts0 w (List.mem_cons_of_mem _ hw), B.returns, B.notSynchronized, hG⟩ hl
section
variable {p : Program} {l : Launch} {e : Env} {R : Room} {s : State} {m : MethodId} {args : Array Value} {below : List Frame} {meth : Method} {c : Code} {H : Heap} {locs : List Loc} {cells slots : Nat} {Q : State → Prop}
variable {pc : Nat} {ls : Array Slot} {rest st0 : List Value} {a : Array Value} {A : Nat → Prop} {adK adV : Nat → Nat} {cc : ByteArray} {nL : Nat} {own : String}
theorem sx_call {r : Option Value} (hr : va_Run p l e R s m args below meth c H locs cells slots 0 0 (F0 m pc ls st0) rest (sx_Q H.size r a) (fun q => H.size ≤ q)) (hS : va_S A s.heap H locs) (hA : ∀ q : Nat, s.heap.size ≤ q → A q)
    (kk : ∀ (H1 : Heap) (locs1 : List Loc), (∀ q : Nat, q < H.size → H1[q]? = H[q]?) → va_S A s.heap H1 locs1 → W p l e R s m args below meth c H1 locs1 cells slots Q (F0 m (pc + 3) ls (r.toList ++ rest))) : W p l e R s m args below meth c H locs cells slots Q (F0 m pc ls st0) := by
  intro T hT X
  obtain ⟨v, st₀, t, T', L, h0, X', hL, e1, e2, ⟨hv, hz, hk⟩, st⟩ := hr T hT X
  cases hv
  rw [h0] at hz hk
  have ho : ∀ q : Nat, q < H.size → T'.heap[q]? = H[q]? := fun q hq => by rw [e1, hk q hq (Nat.not_le.mpr hq)]
  obtain ⟨t2, a1, b1⟩ := kk T'.heap (locs ++ L) ho
    ⟨Nat.le_trans hS.1 (by rw [e1]; exact hz), fun q h1 h2 => by rw [ho q (Nat.lt_of_lt_of_le h1 hS.1)]; exact hS.2.1 q h1 h2, fun q hq => by
      rcases List.mem_append.mp hq with h | h
      · exact hS.2.2 q h
      · exact hA _ (Nat.le_trans hS.1 (hL q h))⟩ T' rfl X'
  exact ⟨t2, st t2 a1, b1⟩
theorem sx_callV {y : MethodName} {cy : ByteArray} {nLy dy idx n : Nat} {rety : Option FieldType} {as st stk : List Value} {r1 : Option Value} (x1 : p.tables.exec = Jvm.exec) (x2 : c.code = cc) (x3 : c.maxLocals = nL) (x4 : s.vm.findClass own = some m.cls) (x5 : ∀ w ∈ gw, w.before args s = true) (hG : sx_S adK adV A s s.heap) (hd : decode cc pc = .ok (.invokevirtual idx, 3)) (hL : sm_lV own idx y cy nLy rety n) (hc : sx_C y cy nLy rety dy adK adV (.ref (adK 0) :: as) r1) (hci : y.cls = "java/lang/String")
    (hs : stk = as.reverse ++ .ref (adK 0) :: st) (hn : as.length = n) (hsz : ls.size = nL) (hdd : dy + 1 ≤ R.frames) (hdl : 40 * (dy + 1) ≤ R.locals) (hcs : cells ≤ R.cells ∧ slots ≤ R.slots) (hst : (st.map fun v => v.category).sum ≤ 8) (hS : va_S A s.heap H locs) (hA : ∀ q : Nat, s.heap.size ≤ q → A q)
    (kk : ∀ (H1 : Heap) (locs1 : List Loc), (∀ q : Nat, q < H.size → H1[q]? = H[q]?) → va_S A s.heap H1 locs1 → W p l e R s m args below meth c H1 locs1 cells slots Q (F0 m (pc + 3) ls (r1.toList ++ st))) : W p l e R s m args below meth c H locs cells slots Q (F0 m pc ls stk) := by
  subst hs
  have hM := hc l H.size
  refine sx_call (va_runV (b := adK 0) (As := as) (rest := st) ⟨x1, x2, x3, x4, x5⟩ hM (cwV n x5 (sm_gV hL) rfl rfl rfl ⟨rfl, hL.2.1⟩ ⟨hdd, ?_⟩) ⟨sx_blind, ?_, fun U hU hW => ⟨rfl, ?_⟩⟩ rfl hn hsz rfl (lv_room hst) hd hcs) hS hA kk
  · show 8 + (nLy + 11) + 40 * dy ≤ R.locals
    have := hL.2.2
    omega
  · rw [hci]
    exact vk_recv hG.1 (by decide) hS
  · exact ⟨by rw [hU], by rw [hU]; exact hG.warm hW hS (fun q h => hA q (Nat.le_trans hS.1 h))⟩
theorem sx_callS {y : MethodName} {cy : ByteArray} {nLy dy idx n : Nat} {rety : Option FieldType} {as st stk : List Value} {r1 : Option Value} (x1 : p.tables.exec = Jvm.exec) (x2 : c.code = cc) (x3 : c.maxLocals = nL) (x4 : s.vm.findClass own = some m.cls) (x5 : ∀ w ∈ gw, w.before args s = true) (hG : sx_S adK adV A s s.heap) (hd : decode cc pc = .ok (.invokestatic idx, 3)) (hL : sm_lS own idx y cy nLy rety n) (hc : sx_C y cy nLy rety dy adK adV as r1)
    (hs : stk = as.reverse ++ st) (hn : as.length = n) (hsz : ls.size = nL) (hdd : dy + 1 ≤ R.frames) (hdl : 40 * (dy + 1) ≤ R.locals) (hcs : cells ≤ R.cells ∧ slots ≤ R.slots) (hst : (st.map fun v => v.category).sum ≤ 8) (hS : va_S A s.heap H locs) (hA : ∀ q : Nat, s.heap.size ≤ q → A q)
    (kk : ∀ (H1 : Heap) (locs1 : List Loc), (∀ q : Nat, q < H.size → H1[q]? = H[q]?) → va_S A s.heap H1 locs1 → W p l e R s m args below meth c H1 locs1 cells slots Q (F0 m (pc + 3) ls (r1.toList ++ st))) : W p l e R s m args below meth c H locs cells slots Q (F0 m pc ls stk) := by
  subst hs
  have hM := hc l H.size
  refine sx_call (va_runS (As := as) (rest := st) ⟨x1, x2, x3, x4, x5⟩ hM (va_cwS n x5 (sm_gS hL) rfl rfl rfl hL.2.1 ⟨hdd, ?_⟩) ⟨sx_blind, fun U hU hW => ⟨rfl, ?_⟩⟩ rfl hn hsz rfl (lv_room hst) hd hcs) hS hA kk
  · show 8 + (nLy + 11) + 40 * dy ≤ R.locals
    have := hL.2.2
    omega
  · exact ⟨by rw [hU], by rw [hU]; exact hG.warm hW hS (fun q h => hA q (Nat.le_trans hS.1 h))⟩
end
theorem lx_CS : Cond.fieldLink RJ0 38 "java/lang/String" "COMPACT_STRINGS" "Z" ∈ gw := List.mem_filter.mpr ⟨by decide +kernel, by decide +kernel⟩
theorem lx_co : Cond.fieldLink RJ0 15 "java/lang/String" "coder" "B" ∈ gw := List.mem_filter.mpr ⟨by decide +kernel, by decide +kernel⟩
theorem lx_va : Cond.fieldLink RJ0 9 "java/lang/String" "value" "[B" ∈ gw := List.mem_filter.mpr ⟨by decide +kernel, by decide +kernel⟩
theorem lx_SI : Cond.fieldLink RJ0 1053 "jdk/internal/util/Preconditions" "SIOOBE_FORMATTER" "Ljava/util/function/BiFunction;" ∈ gw := List.mem_filter.mpr ⟨by decide +kernel, by decide +kernel⟩
theorem lx_335 : sm_lV RJ0 335 yJ0_coder_7d493 cJ0_coder_7d493 1 (some .byte) 0 := ⟨⟨List.mem_filter.mpr ⟨by decide +kernel, by decide +kernel⟩, List.mem_filter.mpr ⟨by decide +kernel, by decide +kernel⟩, List.mem_filter.mpr ⟨by decide +kernel, by decide +kernel⟩, List.mem_filter.mpr ⟨by decide +kernel, by decide +kernel⟩, List.mem_filter.mpr ⟨by decide +kernel, by decide +kernel⟩⟩, ⟨by decide, by decide, by decide +kernel⟩, by decide⟩
theorem lx_492 : sm_lV RJ0 492 yJ0_isLatin1_aae02 cJ0_isLatin1_aae02 1 (some .boolean) 0 := ⟨⟨List.mem_filter.mpr ⟨by decide +kernel, by decide +kernel⟩, List.mem_filter.mpr ⟨by decide +kernel, by decide +kernel⟩, List.mem_filter.mpr ⟨by decide +kernel, by decide +kernel⟩, List.mem_filter.mpr ⟨by decide +kernel, by decide +kernel⟩, List.mem_filter.mpr ⟨by decide +kernel, by decide +kernel⟩⟩, ⟨by decide, by decide, by decide +kernel⟩, by decide⟩
theorem lx_1059 : sm_lS RJ0 1059 yJ3_checkIndex_8e157 cJ3_checkIndex_8e157 3 (some .int) 3 := ⟨⟨List.mem_filter.mpr ⟨by decide +kernel, by decide +kernel⟩, List.mem_filter.mpr ⟨by decide +kernel, by decide +kernel⟩, List.mem_filter.mpr ⟨by decide +kernel, by decide +kernel⟩, List.mem_filter.mpr ⟨by decide +kernel, by decide +kernel⟩⟩, ⟨by decide, by decide, by decide +kernel⟩, by decide⟩
theorem lx_9 : sm_lS RJ1 9 yJ0_checkIndex_df160 cJ0_checkIndex_df160 2 none 2 := ⟨⟨List.mem_filter.mpr ⟨by decide +kernel, by decide +kernel⟩, List.mem_filter.mpr ⟨by decide +kernel, by decide +kernel⟩, List.mem_filter.mpr ⟨by decide +kernel, by decide +kernel⟩, List.mem_filter.mpr ⟨by decide +kernel, by decide +kernel⟩⟩, ⟨by decide, by decide, by decide +kernel⟩, by decide⟩
theorem lx_495 : sm_lS RJ0 495 yJ1_charAt_3b067 cJ1_charAt_3b067 2 (some .char) 2 := ⟨⟨List.mem_filter.mpr ⟨by decide +kernel, by decide +kernel⟩, List.mem_filter.mpr ⟨by decide +kernel, by decide +kernel⟩, List.mem_filter.mpr ⟨by decide +kernel, by decide +kernel⟩, List.mem_filter.mpr ⟨by decide +kernel, by decide +kernel⟩⟩, ⟨by decide, by decide, by decide +kernel⟩, by decide⟩
theorem c_coder {adK adV : Nat → Nat} : sx_C yJ0_coder_7d493 cJ0_coder_7d493 1 (some .byte) 0 adK adV [.ref (adK 0)] (some (.int 0)) := by
  refine sx_C.of (own := RJ0) (by decide) rfl (Nat.le_of_ble_eq_true rfl) (fun p l e s m args below meth c ls X hl => ?_)
  obtain ⟨x1, x2, x3, x4, x5, x6, x7, hG⟩ := X
  have hA : ∀ q : Nat, s.heap.size ≤ q → (fun q : Nat => s.heap.size ≤ q) q := fun _ h => h
  have hS : va_S (fun q : Nat => s.heap.size ≤ q) s.heap s.heap [] := va_S.rf
  obtain ⟨⟨hK, -⟩, hZ, hZq⟩ := id hG
  obtain ⟨k1, k2, k3, k4⟩ := hK 0 (by decide)
  have hl : lv_has ls 1 [(0, .ref (adK 0))] := hl
  refine va_gets x1 x2 hZ hS x4 (x5 _ lx_CS) (fun _ h => h) dJ0_coder_7d493_0 ?_
  refine lv_if_eq (tgt := 13) x1 x2 dJ0_coder_7d493_3 (by decide) (fun h => absurd h (by decide)) (fun _ => ?_)
  refine lv_aload_n x1 x2 dJ0_coder_7d493_6 rfl (lv_at hl 0 rfl) ?_
  refine vk_getf x1 x2 k2 hS x4 (x5 _ lx_co) (fun _ h => h) dJ0_coder_7d493_7 ?_
  refine lv_goto (tgt := 14) x1 x2 dJ0_coder_7d493_10 (by decide) ?_
  exact W.zret x1 x2 x6 rfl (fun t ht hW => ⟨rfl, hS.F ht⟩) hS.2.2 dJ0_coder_7d493_14 x7
theorem c_isLatin1 {adK adV : Nat → Nat} : sx_C yJ0_isLatin1_aae02 cJ0_isLatin1_aae02 1 (some .boolean) 0 adK adV [.ref (adK 0)] (some (.int 1)) := by
  refine sx_C.of (own := RJ0) (by decide) rfl (Nat.le_of_ble_eq_true rfl) (fun p l e s m args below meth c ls X hl => ?_)
  obtain ⟨x1, x2, x3, x4, x5, x6, x7, hG⟩ := X
  have hA : ∀ q : Nat, s.heap.size ≤ q → (fun q : Nat => s.heap.size ≤ q) q := fun _ h => h
  have hS : va_S (fun q : Nat => s.heap.size ≤ q) s.heap s.heap [] := va_S.rf
  obtain ⟨⟨hK, -⟩, hZ, hZq⟩ := id hG
  obtain ⟨k1, k2, k3, k4⟩ := hK 0 (by decide)
  have hl : lv_has ls 1 [(0, .ref (adK 0))] := hl
  refine va_gets x1 x2 hZ hS x4 (x5 _ lx_CS) (fun _ h => h) dJ0_isLatin1_aae02_0 ?_
  refine lv_if_eq (tgt := 17) x1 x2 dJ0_isLatin1_aae02_3 (by decide) (fun h => absurd h (by decide)) (fun _ => ?_)
  refine lv_aload_n x1 x2 dJ0_isLatin1_aae02_6 rfl (lv_at hl 0 rfl) ?_
  refine vk_getf x1 x2 k2 hS x4 (x5 _ lx_co) (fun _ h => h) dJ0_isLatin1_aae02_7 ?_
  refine lv_if_ne (tgt := 17) x1 x2 dJ0_isLatin1_aae02_10 (by decide) (fun h => absurd rfl h) (fun _ => ?_)
  refine lv_iconst (v := 1) x1 x2 dJ0_isLatin1_aae02_13 (by decide) ?_
  refine lv_goto (tgt := 18) x1 x2 dJ0_isLatin1_aae02_14 (by decide) ?_
  exact W.zret x1 x2 x6 rfl (fun t ht hW => ⟨rfl, hS.F ht⟩) hS.2.2 dJ0_isLatin1_aae02_18 x7
theorem c_slength {adK adV : Nat → Nat} : sx_C yJ0_length_8abf5 cJ0_length_8abf5 1 (some .int) 1 adK adV [.ref (adK 0)] (some (.int 75)) := by
  refine sx_C.of (own := RJ0) (by decide) rfl (Nat.le_of_ble_eq_true rfl) (fun p l e s m args below meth c ls X hl => ?_)
  obtain ⟨x1, x2, x3, x4, x5, x6, x7, hG⟩ := X
  have hA : ∀ q : Nat, s.heap.size ≤ q → (fun q : Nat => s.heap.size ≤ q) q := fun _ h => h
  have hS : va_S (fun q : Nat => s.heap.size ≤ q) s.heap s.heap [] := va_S.rf
  obtain ⟨⟨hK, -⟩, hZ, hZq⟩ := id hG
  obtain ⟨k1, k2, k3, k4⟩ := hK 0 (by decide)
  have hl : lv_has ls 1 [(0, .ref (adK 0))] := hl
  refine lv_aload_n x1 x2 dJ0_length_8abf5_0 rfl (lv_at hl 0 rfl) ?_
  refine vk_getf x1 x2 k3 hS x4 (x5 _ lx_va) (fun _ h => h) dJ0_length_8abf5_1 ?_
  refine va_tlen (v := 75) x1 x2 k4 hS rfl dJ0_length_8abf5_4 ?_
  refine lv_aload_n x1 x2 dJ0_length_8abf5_5 rfl (lv_at hl 0 rfl) ?_
  refine sx_callV (as := []) (st := [.int 75]) x1 x2 x3 x4 x5 hG dJ0_length_8abf5_6 lx_335 c_coder rfl rfl rfl hl.1 (Nat.le_refl _) (Nat.le_refl _) ⟨Nat.le_refl _, Nat.le_refl _⟩ (Nat.le_of_ble_eq_true rfl) hS hA (fun H1 locs1 ho hS => ?_)
  refine lv_ishr x1 x2 dJ0_length_8abf5_9 ?_
  exact W.iret (v := 75 >>> ((0 : Int32) &&& 31)) x1 x2 x6 (fun t ht hW => ⟨rfl, hS.F ht⟩) hS.2.2 dJ0_length_8abf5_10 x7
theorem c_pcheck {adK adV : Nat → Nat} {i n : Int32} {f : Value} (h0 : ¬ i < 0) (h1 : i < n) (hf : f = .null ∨ ∃ t, f = .ref t) : sx_C yJ3_checkIndex_8e157 cJ3_checkIndex_8e157 3 (some .int) 0 adK adV [.int i, .int n, f] (some (.int i)) := by
  have hfc : f.category = 1 := by rcases hf with rfl | ⟨t, rfl⟩ <;> rfl
  refine sx_C.of (own := RJ3) (by decide) rfl (by rcases hf with rfl | ⟨t, rfl⟩ <;> exact Nat.le_of_ble_eq_true rfl) (fun p l e s m args below meth c ls X hl => ?_)
  obtain ⟨x1, x2, x3, x4, x5, x6, x7, hG⟩ := X
  have hS : va_S (fun q : Nat => s.heap.size ≤ q) s.heap s.heap [] := va_S.rf
  have hl : lv_has ls 3 [(0, .int i), (1, .int n), (2, f)] := by rcases hf with rfl | ⟨t, rfl⟩ <;> exact hl
  refine lv_iload_n x1 x2 dJ3_checkIndex_8e157_0 rfl (lv_at hl 0 rfl) ?_
  refine lv_if_lt (tgt := 9) x1 x2 dJ3_checkIndex_8e157_1 (by decide) (fun h => absurd h h0) (fun _ => ?_)
  refine lv_iload_n x1 x2 dJ3_checkIndex_8e157_4 rfl (lv_at hl 0 rfl) ?_
  refine lv_iload_n x1 x2 dJ3_checkIndex_8e157_5 rfl (lv_at hl 1 rfl) ?_
  refine lv_icmp_lt (tgt := 16) x1 x2 dJ3_checkIndex_8e157_6 (by decide) (fun _ => ?_) (fun h => absurd h1 h)
  refine lv_iload_n x1 x2 dJ3_checkIndex_8e157_16 rfl (lv_at hl 0 rfl) ?_
  exact W.iret x1 x2 x6 (fun t ht hW => ⟨rfl, hS.F ht⟩) hS.2.2 dJ3_checkIndex_8e157_17 x7
theorem c_scheck {adK adV : Nat → Nat} {i n : Int32} (h0 : ¬ i < 0) (h1 : i < n) : sx_C yJ0_checkIndex_df160 cJ0_checkIndex_df160 2 none 1 adK adV [.int i, .int n] none := by
  refine sx_C.of (own := RJ0) (by decide) rfl (Nat.le_of_ble_eq_true rfl) (fun p l e s m args below meth c ls X hl => ?_)
  obtain ⟨x1, x2, x3, x4, x5, x6, x7, hG⟩ := X
  have hA : ∀ q : Nat, s.heap.size ≤ q → (fun q : Nat => s.heap.size ≤ q) q := fun _ h => h
  have hS : va_S (fun q : Nat => s.heap.size ≤ q) s.heap s.heap [] := va_S.rf
  obtain ⟨⟨hK, -⟩, hZ, hZq⟩ := id hG
  obtain ⟨k1, k2, k3, k4⟩ := hK 0 (by decide)
  have hl : lv_has ls 2 [(0, .int i), (1, .int n)] := hl
  refine lv_iload_n x1 x2 dJ0_checkIndex_df160_0 rfl (lv_at hl 0 rfl) ?_
  refine lv_iload_n x1 x2 dJ0_checkIndex_df160_1 rfl (lv_at hl 1 rfl) ?_
  have key : ∀ f : Value, (f = .null ∨ ∃ t, f = .ref t) → va_Z "jdk/internal/util/Preconditions" "SIOOBE_FORMATTER" "Ljava/util/function/BiFunction;" f (fun q : Nat => s.heap.size ≤ q) s s.heap → W p l e (sm_rm 1) s m args below meth c s.heap [] 0 0 (MQ below (sx_Q s.heap.size none) args s 0 0 (fun q => s.heap.size ≤ q)) (F0 m 2 ls [.int n, .int i]) := fun f hf hz => by
    refine va_gets x1 x2 hz hS x4 (x5 _ lx_SI) (fun _ h => h) dJ0_checkIndex_df160_2 ?_
    refine sx_callS (as := [.int i, .int n, f]) (st := []) x1 x2 x3 x4 x5 hG dJ0_checkIndex_df160_5 lx_1059 (c_pcheck h0 h1 hf) rfl rfl hl.1 (Nat.le_refl _) (Nat.le_refl _) ⟨Nat.le_refl _, Nat.le_refl _⟩ (Nat.le_of_ble_eq_true rfl) hS hA (fun H1 locs1 ho hS => ?_)
    refine lv_pop x1 x2 dJ0_checkIndex_df160_8 rfl ?_
    exact W.vret x1 x2 x6 (fun t ht hW => ⟨rfl, hS.F ht⟩) hS.2.2 dJ0_checkIndex_df160_9 x7
  rcases hZq with hz | ⟨t, hz⟩
  · exact key .null (Or.inl rfl) hz
  · exact key (.ref t) (Or.inr ⟨t, rfl⟩) hz
theorem sx_b_ok : ∀ j, j < 75 → ((sx_b.getD j 0 &&& 255).toUInt32 % 65536).toInt32 = sx_b.getD j 0 ∧ narrow .char (.int (sx_b.getD j 0)) = .int (sx_b.getD j 0) := by decide +kernel
theorem c_lcharAt {adK adV : Nat → Nat} {i : Nat} (hi : i < 75) : sx_C yJ1_charAt_3b067 cJ1_charAt_3b067 2 (some .char) 2 adK adV [.ref (adV 0), .int (nI i)] (some (.int (sx_b.getD i 0))) := by
  refine sx_C.of (own := RJ1) (by decide) rfl (Nat.le_of_ble_eq_true rfl) (fun p l e s m args below meth c ls X hl => ?_)
  obtain ⟨x1, x2, x3, x4, x5, x6, x7, hG⟩ := X
  have hA : ∀ q : Nat, s.heap.size ≤ q → (fun q : Nat => s.heap.size ≤ q) q := fun _ h => h
  have hS : va_S (fun q : Nat => s.heap.size ≤ q) s.heap s.heap [] := va_S.rf
  obtain ⟨⟨hK, -⟩, hZ, hZq⟩ := id hG
  obtain ⟨k1, k2, k3, k4⟩ := hK 0 (by decide)
  have hl : lv_has ls 2 [(0, .ref (adV 0)), (1, .int (nI i))] := hl
  refine lv_iload_n x1 x2 dJ1_charAt_3b067_0 rfl (lv_at hl 1 rfl) ?_
  refine lv_aload_n x1 x2 dJ1_charAt_3b067_1 rfl (lv_at hl 0 rfl) ?_
  refine va_tlen (v := 75) x1 x2 k4 hS rfl dJ1_charAt_3b067_2 ?_
  refine sx_callS (as := [.int (nI i), .int 75]) (st := []) x1 x2 x3 x4 x5 hG dJ1_charAt_3b067_3 lx_9 (c_scheck (nI_pos (by omega)) (show nI i < nI 75 from (nI_ltI (by omega) (by decide)).mpr hi)) rfl rfl hl.1 (Nat.le_refl _) (Nat.le_refl _) ⟨Nat.le_refl _, Nat.le_refl _⟩ (Nat.le_of_ble_eq_true rfl) hS hA (fun H1 locs1 ho hS => ?_)
  refine lv_aload_n x1 x2 dJ1_charAt_3b067_6 rfl (lv_at hl 0 rfl) ?_
  refine lv_iload_n x1 x2 dJ1_charAt_3b067_7 rfl (lv_at hl 1 rfl) ?_
  refine va_tb (v := .int (sx_b.getD i 0)) x1 x2 k4 hS (vp_in_nI hi (by decide)) (by rw [nI_clamp (by omega)]; rfl) dJ1_charAt_3b067_8 ?_
  refine lv_sipush (v := 255) x1 x2 dJ1_charAt_3b067_9 (by decide) ?_
  refine lv_iand x1 x2 dJ1_charAt_3b067_12 ?_
  refine lv_i2c x1 x2 dJ1_charAt_3b067_13 (sx_b_ok i hi).1 ?_
  exact W.zret x1 x2 x6 (sx_b_ok i hi).2 (fun t ht hW => ⟨rfl, hS.F ht⟩) hS.2.2 dJ1_charAt_3b067_14 x7
theorem c_charAt {adK adV : Nat → Nat} {i : Nat} (hi : i < 75) : sx_C yJ0_charAt_5068e cJ0_charAt_5068e 2 (some .char) 3 adK adV [.ref (adK 0), .int (nI i)] (some (.int (sx_b.getD i 0))) := by
  refine sx_C.of (own := RJ0) (by decide) rfl (Nat.le_of_ble_eq_true rfl) (fun p l e s m args below meth c ls X hl => ?_)
  obtain ⟨x1, x2, x3, x4, x5, x6, x7, hG⟩ := X
  have hA : ∀ q : Nat, s.heap.size ≤ q → (fun q : Nat => s.heap.size ≤ q) q := fun _ h => h
  have hS : va_S (fun q : Nat => s.heap.size ≤ q) s.heap s.heap [] := va_S.rf
  obtain ⟨⟨hK, -⟩, hZ, hZq⟩ := id hG
  obtain ⟨k1, k2, k3, k4⟩ := hK 0 (by decide)
  have hl : lv_has ls 2 [(0, .ref (adK 0)), (1, .int (nI i))] := hl
  refine lv_aload_n x1 x2 dJ0_charAt_5068e_0 rfl (lv_at hl 0 rfl) ?_
  refine sx_callV (as := []) (st := []) x1 x2 x3 x4 x5 hG dJ0_charAt_5068e_1 lx_492 c_isLatin1 rfl rfl rfl hl.1 (Nat.le_of_ble_eq_true rfl) (Nat.le_of_ble_eq_true rfl) ⟨Nat.le_refl _, Nat.le_refl _⟩ (Nat.le_of_ble_eq_true rfl) hS hA (fun H1 locs1 ho hS => ?_)
  refine lv_if_eq (tgt := 16) x1 x2 dJ0_charAt_5068e_4 (by decide) (fun h => absurd h (by decide)) (fun _ => ?_)
  refine lv_aload_n x1 x2 dJ0_charAt_5068e_7 rfl (lv_at hl 0 rfl) ?_
  refine vk_getf x1 x2 k3 hS x4 (x5 _ lx_va) (fun _ h => h) dJ0_charAt_5068e_8 ?_
  refine lv_iload_n x1 x2 dJ0_charAt_5068e_11 rfl (lv_at hl 1 rfl) ?_
  refine sx_callS (as := [.ref (adV 0), .int (nI i)]) (st := []) x1 x2 x3 x4 x5 hG dJ0_charAt_5068e_12 lx_495 (c_lcharAt hi) rfl rfl hl.1 (Nat.le_refl _) (Nat.le_refl _) ⟨Nat.le_refl _, Nat.le_refl _⟩ (Nat.le_of_ble_eq_true rfl) hS hA (fun H1 locs1 ho hS => ?_)
  exact W.zret x1 x2 x6 (sx_b_ok i hi).2 (fun t ht hW => ⟨rfl, hS.F ht⟩) hS.2.2 dJ0_charAt_5068e_15 x7

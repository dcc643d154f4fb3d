def R_law : String := "SmellMooringsLaw"
def lw_P (b : Addr) (xs : List Int32) (args : Array Value) (s : State) : Prop := args = #[.ref b] ∧ s.IntsAt b xs ∧ xs.length ≤ 256 ∧ (Jvm.Cond.and given_1 narrow_1).before args s = true
def lw_Q (_ : Array Value) (s : State) (o : Outcome) (t : State) : Prop := o = .returned (some (.int 1)) ∧ Framed s o t [] 600000 7302250
def lw_Z (below : List Frame) (a : Array Value) (s : State) : State → Prop := fun t => ∃ o, t.status = .running ∧ Ended t below o ∧ lw_Q a s o t
/-- the law's own end, with 1 on the stack, nothing written that was there before, its room as the claim has it -/
theorem lw_ret {p : Program} {l : Launch} {e : Env} {s : State} {m : MethodId} {below : List Frame} {meth : Method} {c : Code} {b : Nat} (hx : p.tables.exec = Jvm.exec) (hb : c.code = code) (hr : meth.sig.returnType = ret) (hlocks : meth.locks = false) {pc : Nat} {H : Heap} {ls : Array Slot} (hdg : decode code pc = .ok (.ireturn, 1)) : W p l e room_1 s m #[Value.ref b] below meth c H [] 600000 7302250 (lw_Z below #[Value.ref b] s) (F0 m pc ls [.int 1]) := by
  intro T hT X
  obtain ⟨fs, hret, hrun, hended, hW, hframe⟩ := X.leave (v := some (.int 1)) (hlocks := hlocks) (fun h => by rw [hr] at h; cases h)
  have hmeth' : T.vm.method? m = some meth := X.method'
  refine ⟨T.setFrames fs, ?_, .returned (some (.int 1)), hrun, hended, rfl, ⟨_, rfl⟩, hW, hframe⟩
  jvm_step X.here [X.here.top, hx, hb, hdg, hmeth', hr, ret, narrow_b1]
  (try refine ⟨rfl, ?_⟩); (try refine ⟨rfl, ?_⟩)
  first | (intro acts; rw [hret _ acts rfl rfl rfl]) | rw [hret _ _ rfl rfl rfl]
  exact Steps.refl _
/-- what holds at the law's entry: the machine, the code, the tables' words (any of lw_tbl by 'hts w (by decide +kernel)'), the script of L ints xs at the cell b, what the Statement gives of the start (any of its parts by flat_of_before) -/
def lw_At (p : Program) (s : State) (m : MethodId) (meth : Method) (c : Code) (b L : Nat) (xs : Nat → Int32) : Prop :=
  p.tables.exec = Jvm.exec ∧ c.code = code ∧ meth.sig.returnType = ret ∧ c.maxLocals = 4 ∧ s.vm.findClass R_law = some m.cls ∧ (∀ w ∈ lw_tbl, w.before #[Value.ref b] s = true) ∧ va_X b L xs s s.heap ∧ b < s.heap.size ∧ meth.locks = false ∧ (Jvm.Cond.and given_1 narrow_1).before #[Value.ref b] s = true
/-! the law: one turn of each kind -/
abbrev lw_A (s : State) : Nat → Prop := fun q : Nat => s.heap.size ≤ q
section
variable {p : Program} {l : Launch} {e : Env} {s : State} {m : MethodId} {below : List Frame} {meth : Method} {c : Code} {D : va_G} {b L : Nat} {xs : Nat → Int32} {cI cF : ClassId} {ρ : Nat → Nat} {cells slots : Nat} {H : Heap} {locs : List Loc} {ls : Array Slot} {σ : sm_St} {i : Nat}
theorem lw_v {k : Int32} {j : Nat} (e : k = nI j) (hj : j < 4) (hi : i + 4 ≤ L) (hL : L ≤ 256) : vp_in (nI i + k) L := by
  rw [e, nI_add]
  exact vp_in_nI (by omega) (by omega)
set_option maxHeartbeats 2000000 in
theorem law_t0 (hL : L ≤ 256) (C0 : lw_At p s m meth c b L xs) (hK : va_K D vc6 (sm_ty cI cF) s) (hG : sm_G ρ (lw_A s) s s.heap) (hcs : cells ≤ 600000 ∧ slots ≤ 7302250) (hi : i + 4 ≤ L) (hJ : w_Al σ) (hP : va_P D vc6 (sm_ws ρ cI cF σ) H) (hD : va_D (lw_A s) (sm_ws ρ cI cF σ)) (hS : va_S (lw_A s) s.heap H locs) (hl : lv_has ls 4 [(0, .ref b), (1, .ref (ρ 96)), (2, .ref (ρ 110)), (3, .int (nI i))])
    (kk : ∀ (σ2 : sm_St) (H2 : Heap) (locs2 : List Loc), w_Al σ2 → va_P D vc6 (sm_ws ρ cI cF σ2) H2 → va_D (lw_A s) (sm_ws ρ cI cF σ2) → va_S (lw_A s) s.heap H2 locs2 → W p l e room_1 s m #[Value.ref b] below meth c H2 locs2 cells slots (lw_Z below #[Value.ref b] s) (F0 m 891 ls [])) : W p l e room_1 s m #[Value.ref b] below meth c H locs cells slots (lw_Z below #[Value.ref b] s) (F0 m 164 ls []) := by
  obtain ⟨hx, hb, hr, hml, hown, hts, hX, hbl, hlocks, hgv⟩ := C0
  have x5 : ∀ w ∈ gw, w.before #[Value.ref b] s = true := fun w hw => hts w (List.mem_filter.mp hw).1
  have hA : ∀ q : Nat, s.heap.size ≤ q → lw_A s q := fun _ h => h
  have hbA : ¬ lw_A s b := Nat.not_le.mpr hbl
  obtain ⟨a, σ1, σ2, h5, h6, hJ2⟩ := j_write hJ (xs (nI i + 1).toNatClampNeg)
  refine lv_aload_n hx hb dL_law_164 rfl (lv_at hl 1 rfl) ?_
  refine lv_aload_n hx hb dL_law_165 rfl (lv_at hl 0 rfl) ?_
  refine lv_iload_n hx hb dL_law_166 rfl (lv_at hl 3 rfl) ?_
  refine lv_iconst (v := 1) hx hb dL_law_167 (by decide) ?_
  refine lv_iadd hx hb dL_law_168 ?_
  refine va_sld hx hb hX hbl hbA hS (lw_v (k := 1) (j := 1) rfl (by decide) hi hL) dL_law_169 ?_
  refine lw_callV (own := RL) (ρ := ρ) (k := 96) (ci := 4) (as := [.int (xs (nI i + 1).toNatClampNeg)]) (st := []) hx hb hml hown x5 hK hG hA dL_law_170 lV_L_13 h5 rfl rfl rfl rfl hl.1 (Nat.le_of_ble_eq_true rfl) (Nat.le_of_ble_eq_true rfl) hcs (Nat.le_of_ble_eq_true rfl) hP hD hS (fun H1 locs1 hP1 hD1 hS1 => ?_)
  refine lv_aload_n hx hb dL_law_173 rfl (lv_at hl 2 rfl) ?_
  refine lv_aload_n hx hb dL_law_174 rfl (lv_at hl 0 rfl) ?_
  refine lv_iload_n hx hb dL_law_175 rfl (lv_at hl 3 rfl) ?_
  refine lv_iconst (v := 1) hx hb dL_law_176 (by decide) ?_
  refine lv_iadd hx hb dL_law_177 ?_
  refine va_sld hx hb hX hbl hbA hS1 (lw_v (k := 1) (j := 1) rfl (by decide) hi hL) dL_law_178 ?_
  refine lw_callV (own := RL) (ρ := ρ) (k := 110) (ci := 5) (as := [.int (xs (nI i + 1).toNatClampNeg)]) (st := [.int a]) hx hb hml hown x5 hK hG hA dL_law_179 lV_L_17 h6 rfl rfl rfl rfl hl.1 (Nat.le_of_ble_eq_true rfl) (Nat.le_of_ble_eq_true rfl) hcs (Nat.le_of_ble_eq_true rfl) hP1 hD1 hS1 (fun H2 locs2 hP2 hD2 hS2 => ?_)
  exact lv_icmp_eq (tgt := 891) hx hb dL_law_182 (by decide) (fun _ => kk σ2 H2 locs2 hJ2 hP2 hD2 hS2) (fun h => absurd rfl h)
set_option maxHeartbeats 2000000 in
theorem law_t1 (hL : L ≤ 256) (C0 : lw_At p s m meth c b L xs) (hK : va_K D vc6 (sm_ty cI cF) s) (hG : sm_G ρ (lw_A s) s s.heap) (hcs : cells ≤ 600000 ∧ slots ≤ 7302250) (hi : i + 4 ≤ L) (hJ : w_Al σ) (hP : va_P D vc6 (sm_ws ρ cI cF σ) H) (hD : va_D (lw_A s) (sm_ws ρ cI cF σ)) (hS : va_S (lw_A s) s.heap H locs) (hl : lv_has ls 4 [(0, .ref b), (1, .ref (ρ 96)), (2, .ref (ρ 110)), (3, .int (nI i))])
    (kk : ∀ (σ2 : sm_St) (H2 : Heap) (locs2 : List Loc), w_Al σ2 → va_P D vc6 (sm_ws ρ cI cF σ2) H2 → va_D (lw_A s) (sm_ws ρ cI cF σ2) → va_S (lw_A s) s.heap H2 locs2 → W p l e room_1 s m #[Value.ref b] below meth c H2 locs2 cells slots (lw_Z below #[Value.ref b] s) (F0 m 891 ls [])) : W p l e room_1 s m #[Value.ref b] below meth c H locs cells slots (lw_Z below #[Value.ref b] s) (F0 m 187 ls []) := by
  obtain ⟨hx, hb, hr, hml, hown, hts, hX, hbl, hlocks, hgv⟩ := C0
  have x5 : ∀ w ∈ gw, w.before #[Value.ref b] s = true := fun w hw => hts w (List.mem_filter.mp hw).1
  have hA : ∀ q : Nat, s.heap.size ≤ q → lw_A s q := fun _ h => h
  have hbA : ¬ lw_A s b := Nat.not_le.mpr hbl
  obtain ⟨a, σ1, σ2, h5, h6, hJ2⟩ := j_wipe hJ 
  refine lv_aload_n hx hb dL_law_187 rfl (lv_at hl 1 rfl) ?_
  refine lw_callV (own := RL) (ρ := ρ) (k := 96) (ci := 4) (as := []) (st := []) hx hb hml hown x5 hK hG hA dL_law_188 lV_L_18 h5 rfl rfl rfl rfl hl.1 (Nat.le_of_ble_eq_true rfl) (Nat.le_of_ble_eq_true rfl) hcs (Nat.le_of_ble_eq_true rfl) hP hD hS (fun H1 locs1 hP1 hD1 hS1 => ?_)
  refine lv_aload_n hx hb dL_law_191 rfl (lv_at hl 2 rfl) ?_
  refine lw_callV (own := RL) (ρ := ρ) (k := 110) (ci := 5) (as := []) (st := [.int a]) hx hb hml hown x5 hK hG hA dL_law_192 lV_L_22 h6 rfl rfl rfl rfl hl.1 (Nat.le_of_ble_eq_true rfl) (Nat.le_of_ble_eq_true rfl) hcs (Nat.le_of_ble_eq_true rfl) hP1 hD1 hS1 (fun H2 locs2 hP2 hD2 hS2 => ?_)
  exact lv_icmp_eq (tgt := 891) hx hb dL_law_195 (by decide) (fun _ => kk σ2 H2 locs2 hJ2 hP2 hD2 hS2) (fun h => absurd rfl h)
set_option maxHeartbeats 2000000 in
theorem law_t2 (hL : L ≤ 256) (C0 : lw_At p s m meth c b L xs) (hK : va_K D vc6 (sm_ty cI cF) s) (hG : sm_G ρ (lw_A s) s s.heap) (hcs : cells ≤ 600000 ∧ slots ≤ 7302250) (hi : i + 4 ≤ L) (hJ : w_Al σ) (hP : va_P D vc6 (sm_ws ρ cI cF σ) H) (hD : va_D (lw_A s) (sm_ws ρ cI cF σ)) (hS : va_S (lw_A s) s.heap H locs) (hl : lv_has ls 4 [(0, .ref b), (1, .ref (ρ 96)), (2, .ref (ρ 110)), (3, .int (nI i))])
    (kk : ∀ (σ2 : sm_St) (H2 : Heap) (locs2 : List Loc), w_Al σ2 → va_P D vc6 (sm_ws ρ cI cF σ2) H2 → va_D (lw_A s) (sm_ws ρ cI cF σ2) → va_S (lw_A s) s.heap H2 locs2 → W p l e room_1 s m #[Value.ref b] below meth c H2 locs2 cells slots (lw_Z below #[Value.ref b] s) (F0 m 891 ls [])) : W p l e room_1 s m #[Value.ref b] below meth c H locs cells slots (lw_Z below #[Value.ref b] s) (F0 m 200 ls []) := by
  obtain ⟨hx, hb, hr, hml, hown, hts, hX, hbl, hlocks, hgv⟩ := C0
  have x5 : ∀ w ∈ gw, w.before #[Value.ref b] s = true := fun w hw => hts w (List.mem_filter.mp hw).1
  have hA : ∀ q : Nat, s.heap.size ≤ q → lw_A s q := fun _ h => h
  have hbA : ¬ lw_A s b := Nat.not_le.mpr hbl
  obtain ⟨a, σ1, σ2, h5, h6, hJ2⟩ := j_fault hJ 
  refine lv_aload_n hx hb dL_law_200 rfl (lv_at hl 1 rfl) ?_
  refine lw_callV (own := RL) (ρ := ρ) (k := 96) (ci := 4) (as := []) (st := []) hx hb hml hown x5 hK hG hA dL_law_201 lV_L_23 h5 rfl rfl rfl rfl hl.1 (Nat.le_of_ble_eq_true rfl) (Nat.le_of_ble_eq_true rfl) hcs (Nat.le_of_ble_eq_true rfl) hP hD hS (fun H1 locs1 hP1 hD1 hS1 => ?_)
  refine lv_aload_n hx hb dL_law_204 rfl (lv_at hl 2 rfl) ?_
  refine lw_callV (own := RL) (ρ := ρ) (k := 110) (ci := 5) (as := []) (st := [.int a]) hx hb hml hown x5 hK hG hA dL_law_205 lV_L_26 h6 rfl rfl rfl rfl hl.1 (Nat.le_of_ble_eq_true rfl) (Nat.le_of_ble_eq_true rfl) hcs (Nat.le_of_ble_eq_true rfl) hP1 hD1 hS1 (fun H2 locs2 hP2 hD2 hS2 => ?_)
  exact lv_icmp_eq (tgt := 891) hx hb dL_law_208 (by decide) (fun _ => kk σ2 H2 locs2 hJ2 hP2 hD2 hS2) (fun h => absurd rfl h)
set_option maxHeartbeats 2000000 in
theorem law_t3 (hL : L ≤ 256) (C0 : lw_At p s m meth c b L xs) (hK : va_K D vc6 (sm_ty cI cF) s) (hG : sm_G ρ (lw_A s) s s.heap) (hcs : cells ≤ 600000 ∧ slots ≤ 7302250) (hi : i + 4 ≤ L) (hJ : w_Al σ) (hP : va_P D vc6 (sm_ws ρ cI cF σ) H) (hD : va_D (lw_A s) (sm_ws ρ cI cF σ)) (hS : va_S (lw_A s) s.heap H locs) (hl : lv_has ls 4 [(0, .ref b), (1, .ref (ρ 96)), (2, .ref (ρ 110)), (3, .int (nI i))])
    (kk : ∀ (σ2 : sm_St) (H2 : Heap) (locs2 : List Loc), w_Al σ2 → va_P D vc6 (sm_ws ρ cI cF σ2) H2 → va_D (lw_A s) (sm_ws ρ cI cF σ2) → va_S (lw_A s) s.heap H2 locs2 → W p l e room_1 s m #[Value.ref b] below meth c H2 locs2 cells slots (lw_Z below #[Value.ref b] s) (F0 m 891 ls [])) : W p l e room_1 s m #[Value.ref b] below meth c H locs cells slots (lw_Z below #[Value.ref b] s) (F0 m 213 ls []) := by
  obtain ⟨hx, hb, hr, hml, hown, hts, hX, hbl, hlocks, hgv⟩ := C0
  have x5 : ∀ w ∈ gw, w.before #[Value.ref b] s = true := fun w hw => hts w (List.mem_filter.mp hw).1
  have hA : ∀ q : Nat, s.heap.size ≤ q → lw_A s q := fun _ h => h
  have hbA : ¬ lw_A s b := Nat.not_le.mpr hbl
  obtain ⟨a, σ1, σ2, h5, h6, hJ2⟩ := j_lay hJ 
  refine lv_aload_n hx hb dL_law_213 rfl (lv_at hl 1 rfl) ?_
  refine lw_callV (own := RL) (ρ := ρ) (k := 96) (ci := 4) (as := []) (st := []) hx hb hml hown x5 hK hG hA dL_law_214 lV_L_27 h5 rfl rfl rfl rfl hl.1 (Nat.le_of_ble_eq_true rfl) (Nat.le_of_ble_eq_true rfl) hcs (Nat.le_of_ble_eq_true rfl) hP hD hS (fun H1 locs1 hP1 hD1 hS1 => ?_)
  refine lv_aload_n hx hb dL_law_217 rfl (lv_at hl 2 rfl) ?_
  refine lw_callV (own := RL) (ρ := ρ) (k := 110) (ci := 5) (as := []) (st := [.int a]) hx hb hml hown x5 hK hG hA dL_law_218 lV_L_30 h6 rfl rfl rfl rfl hl.1 (Nat.le_of_ble_eq_true rfl) (Nat.le_of_ble_eq_true rfl) hcs (Nat.le_of_ble_eq_true rfl) hP1 hD1 hS1 (fun H2 locs2 hP2 hD2 hS2 => ?_)
  exact lv_icmp_eq (tgt := 891) hx hb dL_law_221 (by decide) (fun _ => kk σ2 H2 locs2 hJ2 hP2 hD2 hS2) (fun h => absurd rfl h)
set_option maxHeartbeats 2000000 in
theorem law_t4 (hL : L ≤ 256) (C0 : lw_At p s m meth c b L xs) (hK : va_K D vc6 (sm_ty cI cF) s) (hG : sm_G ρ (lw_A s) s s.heap) (hcs : cells ≤ 600000 ∧ slots ≤ 7302250) (hi : i + 4 ≤ L) (hJ : w_Al σ) (hP : va_P D vc6 (sm_ws ρ cI cF σ) H) (hD : va_D (lw_A s) (sm_ws ρ cI cF σ)) (hS : va_S (lw_A s) s.heap H locs) (hl : lv_has ls 4 [(0, .ref b), (1, .ref (ρ 96)), (2, .ref (ρ 110)), (3, .int (nI i))])
    (kk : ∀ (σ2 : sm_St) (H2 : Heap) (locs2 : List Loc), w_Al σ2 → va_P D vc6 (sm_ws ρ cI cF σ2) H2 → va_D (lw_A s) (sm_ws ρ cI cF σ2) → va_S (lw_A s) s.heap H2 locs2 → W p l e room_1 s m #[Value.ref b] below meth c H2 locs2 cells slots (lw_Z below #[Value.ref b] s) (F0 m 891 ls [])) : W p l e room_1 s m #[Value.ref b] below meth c H locs cells slots (lw_Z below #[Value.ref b] s) (F0 m 226 ls []) := by
  obtain ⟨hx, hb, hr, hml, hown, hts, hX, hbl, hlocks, hgv⟩ := C0
  have x5 : ∀ w ∈ gw, w.before #[Value.ref b] s = true := fun w hw => hts w (List.mem_filter.mp hw).1
  have hA : ∀ q : Nat, s.heap.size ≤ q → lw_A s q := fun _ h => h
  have hbA : ¬ lw_A s b := Nat.not_le.mpr hbl
  obtain ⟨a, σ1, σ2, h5, h6, hJ2⟩ := j_post hJ (xs (nI i + 1).toNatClampNeg) (xs (nI i + 2).toNatClampNeg)
  refine lv_aload_n hx hb dL_law_226 rfl (lv_at hl 1 rfl) ?_
  refine lv_aload_n hx hb dL_law_227 rfl (lv_at hl 0 rfl) ?_
  refine lv_iload_n hx hb dL_law_228 rfl (lv_at hl 3 rfl) ?_
  refine lv_iconst (v := 1) hx hb dL_law_229 (by decide) ?_
  refine lv_iadd hx hb dL_law_230 ?_
  refine va_sld hx hb hX hbl hbA hS (lw_v (k := 1) (j := 1) rfl (by decide) hi hL) dL_law_231 ?_
  refine lv_aload_n hx hb dL_law_232 rfl (lv_at hl 0 rfl) ?_
  refine lv_iload_n hx hb dL_law_233 rfl (lv_at hl 3 rfl) ?_
  refine lv_iconst (v := 2) hx hb dL_law_234 (by decide) ?_
  refine lv_iadd hx hb dL_law_235 ?_
  refine va_sld hx hb hX hbl hbA hS (lw_v (k := 2) (j := 2) rfl (by decide) hi hL) dL_law_236 ?_
  refine lw_callV (own := RL) (ρ := ρ) (k := 96) (ci := 4) (as := [.int (xs (nI i + 1).toNatClampNeg), .int (xs (nI i + 2).toNatClampNeg)]) (st := []) hx hb hml hown x5 hK hG hA dL_law_237 lV_L_31 h5 rfl rfl rfl rfl hl.1 (Nat.le_of_ble_eq_true rfl) (Nat.le_of_ble_eq_true rfl) hcs (Nat.le_of_ble_eq_true rfl) hP hD hS (fun H1 locs1 hP1 hD1 hS1 => ?_)
  refine lv_aload_n hx hb dL_law_240 rfl (lv_at hl 2 rfl) ?_
  refine lv_aload_n hx hb dL_law_241 rfl (lv_at hl 0 rfl) ?_
  refine lv_iload_n hx hb dL_law_242 rfl (lv_at hl 3 rfl) ?_
  refine lv_iconst (v := 1) hx hb dL_law_243 (by decide) ?_
  refine lv_iadd hx hb dL_law_244 ?_
  refine va_sld hx hb hX hbl hbA hS1 (lw_v (k := 1) (j := 1) rfl (by decide) hi hL) dL_law_245 ?_
  refine lv_aload_n hx hb dL_law_246 rfl (lv_at hl 0 rfl) ?_
  refine lv_iload_n hx hb dL_law_247 rfl (lv_at hl 3 rfl) ?_
  refine lv_iconst (v := 2) hx hb dL_law_248 (by decide) ?_
  refine lv_iadd hx hb dL_law_249 ?_
  refine va_sld hx hb hX hbl hbA hS1 (lw_v (k := 2) (j := 2) rfl (by decide) hi hL) dL_law_250 ?_
  refine lw_callV (own := RL) (ρ := ρ) (k := 110) (ci := 5) (as := [.int (xs (nI i + 1).toNatClampNeg), .int (xs (nI i + 2).toNatClampNeg)]) (st := [.int a]) hx hb hml hown x5 hK hG hA dL_law_251 lV_L_35 h6 rfl rfl rfl rfl hl.1 (Nat.le_of_ble_eq_true rfl) (Nat.le_of_ble_eq_true rfl) hcs (Nat.le_of_ble_eq_true rfl) hP1 hD1 hS1 (fun H2 locs2 hP2 hD2 hS2 => ?_)
  exact lv_icmp_eq (tgt := 891) hx hb dL_law_254 (by decide) (fun _ => kk σ2 H2 locs2 hJ2 hP2 hD2 hS2) (fun h => absurd rfl h)
set_option maxHeartbeats 2000000 in
theorem law_t5 (hL : L ≤ 256) (C0 : lw_At p s m meth c b L xs) (hK : va_K D vc6 (sm_ty cI cF) s) (hG : sm_G ρ (lw_A s) s s.heap) (hcs : cells ≤ 600000 ∧ slots ≤ 7302250) (hi : i + 4 ≤ L) (hJ : w_Al σ) (hP : va_P D vc6 (sm_ws ρ cI cF σ) H) (hD : va_D (lw_A s) (sm_ws ρ cI cF σ)) (hS : va_S (lw_A s) s.heap H locs) (hl : lv_has ls 4 [(0, .ref b), (1, .ref (ρ 96)), (2, .ref (ρ 110)), (3, .int (nI i))])
    (kk : ∀ (σ2 : sm_St) (H2 : Heap) (locs2 : List Loc), w_Al σ2 → va_P D vc6 (sm_ws ρ cI cF σ2) H2 → va_D (lw_A s) (sm_ws ρ cI cF σ2) → va_S (lw_A s) s.heap H2 locs2 → W p l e room_1 s m #[Value.ref b] below meth c H2 locs2 cells slots (lw_Z below #[Value.ref b] s) (F0 m 891 ls [])) : W p l e room_1 s m #[Value.ref b] below meth c H locs cells slots (lw_Z below #[Value.ref b] s) (F0 m 259 ls []) := by
  obtain ⟨hx, hb, hr, hml, hown, hts, hX, hbl, hlocks, hgv⟩ := C0
  have x5 : ∀ w ∈ gw, w.before #[Value.ref b] s = true := fun w hw => hts w (List.mem_filter.mp hw).1
  have hA : ∀ q : Nat, s.heap.size ≤ q → lw_A s q := fun _ h => h
  have hbA : ¬ lw_A s b := Nat.not_le.mpr hbl
  obtain ⟨a, σ1, σ2, h5, h6, hJ2⟩ := j_crew hJ (xs (nI i + 1).toNatClampNeg) (xs (nI i + 2).toNatClampNeg)
  refine lv_aload_n hx hb dL_law_259 rfl (lv_at hl 1 rfl) ?_
  refine lv_aload_n hx hb dL_law_260 rfl (lv_at hl 0 rfl) ?_
  refine lv_iload_n hx hb dL_law_261 rfl (lv_at hl 3 rfl) ?_
  refine lv_iconst (v := 1) hx hb dL_law_262 (by decide) ?_
  refine lv_iadd hx hb dL_law_263 ?_
  refine va_sld hx hb hX hbl hbA hS (lw_v (k := 1) (j := 1) rfl (by decide) hi hL) dL_law_264 ?_
  refine lv_aload_n hx hb dL_law_265 rfl (lv_at hl 0 rfl) ?_
  refine lv_iload_n hx hb dL_law_266 rfl (lv_at hl 3 rfl) ?_
  refine lv_iconst (v := 2) hx hb dL_law_267 (by decide) ?_
  refine lv_iadd hx hb dL_law_268 ?_
  refine va_sld hx hb hX hbl hbA hS (lw_v (k := 2) (j := 2) rfl (by decide) hi hL) dL_law_269 ?_
  refine lw_callV (own := RL) (ρ := ρ) (k := 96) (ci := 4) (as := [.int (xs (nI i + 1).toNatClampNeg), .int (xs (nI i + 2).toNatClampNeg)]) (st := []) hx hb hml hown x5 hK hG hA dL_law_270 lV_L_36 h5 rfl rfl rfl rfl hl.1 (Nat.le_of_ble_eq_true rfl) (Nat.le_of_ble_eq_true rfl) hcs (Nat.le_of_ble_eq_true rfl) hP hD hS (fun H1 locs1 hP1 hD1 hS1 => ?_)
  refine lv_aload_n hx hb dL_law_273 rfl (lv_at hl 2 rfl) ?_
  refine lv_aload_n hx hb dL_law_274 rfl (lv_at hl 0 rfl) ?_
  refine lv_iload_n hx hb dL_law_275 rfl (lv_at hl 3 rfl) ?_
  refine lv_iconst (v := 1) hx hb dL_law_276 (by decide) ?_
  refine lv_iadd hx hb dL_law_277 ?_
  refine va_sld hx hb hX hbl hbA hS1 (lw_v (k := 1) (j := 1) rfl (by decide) hi hL) dL_law_278 ?_
  refine lv_aload_n hx hb dL_law_279 rfl (lv_at hl 0 rfl) ?_
  refine lv_iload_n hx hb dL_law_280 rfl (lv_at hl 3 rfl) ?_
  refine lv_iconst (v := 2) hx hb dL_law_281 (by decide) ?_
  refine lv_iadd hx hb dL_law_282 ?_
  refine va_sld hx hb hX hbl hbA hS1 (lw_v (k := 2) (j := 2) rfl (by decide) hi hL) dL_law_283 ?_
  refine lw_callV (own := RL) (ρ := ρ) (k := 110) (ci := 5) (as := [.int (xs (nI i + 1).toNatClampNeg), .int (xs (nI i + 2).toNatClampNeg)]) (st := [.int a]) hx hb hml hown x5 hK hG hA dL_law_284 lV_L_39 h6 rfl rfl rfl rfl hl.1 (Nat.le_of_ble_eq_true rfl) (Nat.le_of_ble_eq_true rfl) hcs (Nat.le_of_ble_eq_true rfl) hP1 hD1 hS1 (fun H2 locs2 hP2 hD2 hS2 => ?_)
  exact lv_icmp_eq (tgt := 891) hx hb dL_law_287 (by decide) (fun _ => kk σ2 H2 locs2 hJ2 hP2 hD2 hS2) (fun h => absurd rfl h)
set_option maxHeartbeats 2000000 in
theorem law_t6 (hL : L ≤ 256) (C0 : lw_At p s m meth c b L xs) (hK : va_K D vc6 (sm_ty cI cF) s) (hG : sm_G ρ (lw_A s) s s.heap) (hcs : cells ≤ 600000 ∧ slots ≤ 7302250) (hi : i + 4 ≤ L) (hJ : w_Al σ) (hP : va_P D vc6 (sm_ws ρ cI cF σ) H) (hD : va_D (lw_A s) (sm_ws ρ cI cF σ)) (hS : va_S (lw_A s) s.heap H locs) (hl : lv_has ls 4 [(0, .ref b), (1, .ref (ρ 96)), (2, .ref (ρ 110)), (3, .int (nI i))])
    (kk : ∀ (σ2 : sm_St) (H2 : Heap) (locs2 : List Loc), w_Al σ2 → va_P D vc6 (sm_ws ρ cI cF σ2) H2 → va_D (lw_A s) (sm_ws ρ cI cF σ2) → va_S (lw_A s) s.heap H2 locs2 → W p l e room_1 s m #[Value.ref b] below meth c H2 locs2 cells slots (lw_Z below #[Value.ref b] s) (F0 m 891 ls [])) : W p l e room_1 s m #[Value.ref b] below meth c H locs cells slots (lw_Z below #[Value.ref b] s) (F0 m 292 ls []) := by
  obtain ⟨hx, hb, hr, hml, hown, hts, hX, hbl, hlocks, hgv⟩ := C0
  have x5 : ∀ w ∈ gw, w.before #[Value.ref b] s = true := fun w hw => hts w (List.mem_filter.mp hw).1
  have hA : ∀ q : Nat, s.heap.size ≤ q → lw_A s q := fun _ h => h
  have hbA : ¬ lw_A s b := Nat.not_le.mpr hbl
  obtain ⟨a, σ1, σ2, h5, h6, hJ2⟩ := j_pull hJ (xs (nI i + 1).toNatClampNeg)
  refine lv_aload_n hx hb dL_law_292 rfl (lv_at hl 1 rfl) ?_
  refine lv_aload_n hx hb dL_law_293 rfl (lv_at hl 0 rfl) ?_
  refine lv_iload_n hx hb dL_law_294 rfl (lv_at hl 3 rfl) ?_
  refine lv_iconst (v := 1) hx hb dL_law_295 (by decide) ?_
  refine lv_iadd hx hb dL_law_296 ?_
  refine va_sld hx hb hX hbl hbA hS (lw_v (k := 1) (j := 1) rfl (by decide) hi hL) dL_law_297 ?_
  refine lw_callV (own := RL) (ρ := ρ) (k := 96) (ci := 4) (as := [.int (xs (nI i + 1).toNatClampNeg)]) (st := []) hx hb hml hown x5 hK hG hA dL_law_298 lV_L_40 h5 rfl rfl rfl rfl hl.1 (Nat.le_of_ble_eq_true rfl) (Nat.le_of_ble_eq_true rfl) hcs (Nat.le_of_ble_eq_true rfl) hP hD hS (fun H1 locs1 hP1 hD1 hS1 => ?_)
  refine lv_aload_n hx hb dL_law_301 rfl (lv_at hl 2 rfl) ?_
  refine lv_aload_n hx hb dL_law_302 rfl (lv_at hl 0 rfl) ?_
  refine lv_iload_n hx hb dL_law_303 rfl (lv_at hl 3 rfl) ?_
  refine lv_iconst (v := 1) hx hb dL_law_304 (by decide) ?_
  refine lv_iadd hx hb dL_law_305 ?_
  refine va_sld hx hb hX hbl hbA hS1 (lw_v (k := 1) (j := 1) rfl (by decide) hi hL) dL_law_306 ?_
  refine lw_callV (own := RL) (ρ := ρ) (k := 110) (ci := 5) (as := [.int (xs (nI i + 1).toNatClampNeg)]) (st := [.int a]) hx hb hml hown x5 hK hG hA dL_law_307 lV_L_43 h6 rfl rfl rfl rfl hl.1 (Nat.le_of_ble_eq_true rfl) (Nat.le_of_ble_eq_true rfl) hcs (Nat.le_of_ble_eq_true rfl) hP1 hD1 hS1 (fun H2 locs2 hP2 hD2 hS2 => ?_)
  exact lv_icmp_eq (tgt := 891) hx hb dL_law_310 (by decide) (fun _ => kk σ2 H2 locs2 hJ2 hP2 hD2 hS2) (fun h => absurd rfl h)
set_option maxHeartbeats 2000000 in
theorem law_t7 (hL : L ≤ 256) (C0 : lw_At p s m meth c b L xs) (hK : va_K D vc6 (sm_ty cI cF) s) (hG : sm_G ρ (lw_A s) s s.heap) (hcs : cells ≤ 600000 ∧ slots ≤ 7302250) (hi : i + 4 ≤ L) (hJ : w_Al σ) (hP : va_P D vc6 (sm_ws ρ cI cF σ) H) (hD : va_D (lw_A s) (sm_ws ρ cI cF σ)) (hS : va_S (lw_A s) s.heap H locs) (hl : lv_has ls 4 [(0, .ref b), (1, .ref (ρ 96)), (2, .ref (ρ 110)), (3, .int (nI i))])
    (kk : ∀ (σ2 : sm_St) (H2 : Heap) (locs2 : List Loc), w_Al σ2 → va_P D vc6 (sm_ws ρ cI cF σ2) H2 → va_D (lw_A s) (sm_ws ρ cI cF σ2) → va_S (lw_A s) s.heap H2 locs2 → W p l e room_1 s m #[Value.ref b] below meth c H2 locs2 cells slots (lw_Z below #[Value.ref b] s) (F0 m 891 ls [])) : W p l e room_1 s m #[Value.ref b] below meth c H locs cells slots (lw_Z below #[Value.ref b] s) (F0 m 315 ls []) := by
  obtain ⟨hx, hb, hr, hml, hown, hts, hX, hbl, hlocks, hgv⟩ := C0
  have x5 : ∀ w ∈ gw, w.before #[Value.ref b] s = true := fun w hw => hts w (List.mem_filter.mp hw).1
  have hA : ∀ q : Nat, s.heap.size ≤ q → lw_A s q := fun _ h => h
  have hbA : ¬ lw_A s b := Nat.not_le.mpr hbl
  obtain ⟨a, σ1, σ2, h5, h6, hJ2⟩ := j_pass hJ (xs (nI i + 1).toNatClampNeg)
  refine lv_aload_n hx hb dL_law_315 rfl (lv_at hl 1 rfl) ?_
  refine lv_aload_n hx hb dL_law_316 rfl (lv_at hl 0 rfl) ?_
  refine lv_iload_n hx hb dL_law_317 rfl (lv_at hl 3 rfl) ?_
  refine lv_iconst (v := 1) hx hb dL_law_318 (by decide) ?_
  refine lv_iadd hx hb dL_law_319 ?_
  refine va_sld hx hb hX hbl hbA hS (lw_v (k := 1) (j := 1) rfl (by decide) hi hL) dL_law_320 ?_
  refine lw_callV (own := RL) (ρ := ρ) (k := 96) (ci := 4) (as := [.int (xs (nI i + 1).toNatClampNeg)]) (st := []) hx hb hml hown x5 hK hG hA dL_law_321 lV_L_44 h5 rfl rfl rfl rfl hl.1 (Nat.le_of_ble_eq_true rfl) (Nat.le_of_ble_eq_true rfl) hcs (Nat.le_of_ble_eq_true rfl) hP hD hS (fun H1 locs1 hP1 hD1 hS1 => ?_)
  refine lv_aload_n hx hb dL_law_324 rfl (lv_at hl 2 rfl) ?_
  refine lv_aload_n hx hb dL_law_325 rfl (lv_at hl 0 rfl) ?_
  refine lv_iload_n hx hb dL_law_326 rfl (lv_at hl 3 rfl) ?_
  refine lv_iconst (v := 1) hx hb dL_law_327 (by decide) ?_
  refine lv_iadd hx hb dL_law_328 ?_
  refine va_sld hx hb hX hbl hbA hS1 (lw_v (k := 1) (j := 1) rfl (by decide) hi hL) dL_law_329 ?_
  refine lw_callV (own := RL) (ρ := ρ) (k := 110) (ci := 5) (as := [.int (xs (nI i + 1).toNatClampNeg)]) (st := [.int a]) hx hb hml hown x5 hK hG hA dL_law_330 lV_L_47 h6 rfl rfl rfl rfl hl.1 (Nat.le_of_ble_eq_true rfl) (Nat.le_of_ble_eq_true rfl) hcs (Nat.le_of_ble_eq_true rfl) hP1 hD1 hS1 (fun H2 locs2 hP2 hD2 hS2 => ?_)
  exact lv_icmp_eq (tgt := 891) hx hb dL_law_333 (by decide) (fun _ => kk σ2 H2 locs2 hJ2 hP2 hD2 hS2) (fun h => absurd rfl h)
set_option maxHeartbeats 2000000 in
theorem law_t8 (hL : L ≤ 256) (C0 : lw_At p s m meth c b L xs) (hK : va_K D vc6 (sm_ty cI cF) s) (hG : sm_G ρ (lw_A s) s s.heap) (hcs : cells ≤ 600000 ∧ slots ≤ 7302250) (hi : i + 4 ≤ L) (hJ : w_Al σ) (hP : va_P D vc6 (sm_ws ρ cI cF σ) H) (hD : va_D (lw_A s) (sm_ws ρ cI cF σ)) (hS : va_S (lw_A s) s.heap H locs) (hl : lv_has ls 4 [(0, .ref b), (1, .ref (ρ 96)), (2, .ref (ρ 110)), (3, .int (nI i))])
    (kk : ∀ (σ2 : sm_St) (H2 : Heap) (locs2 : List Loc), w_Al σ2 → va_P D vc6 (sm_ws ρ cI cF σ2) H2 → va_D (lw_A s) (sm_ws ρ cI cF σ2) → va_S (lw_A s) s.heap H2 locs2 → W p l e room_1 s m #[Value.ref b] below meth c H2 locs2 cells slots (lw_Z below #[Value.ref b] s) (F0 m 891 ls [])) : W p l e room_1 s m #[Value.ref b] below meth c H locs cells slots (lw_Z below #[Value.ref b] s) (F0 m 338 ls []) := by
  obtain ⟨hx, hb, hr, hml, hown, hts, hX, hbl, hlocks, hgv⟩ := C0
  have x5 : ∀ w ∈ gw, w.before #[Value.ref b] s = true := fun w hw => hts w (List.mem_filter.mp hw).1
  have hA : ∀ q : Nat, s.heap.size ≤ q → lw_A s q := fun _ h => h
  have hbA : ¬ lw_A s b := Nat.not_le.mpr hbl
  obtain ⟨a, σ1, σ2, h5, h6, hJ2⟩ := j_wind hJ (xs (nI i + 1).toNatClampNeg) (xs (nI i + 2).toNatClampNeg)
  refine lv_aload_n hx hb dL_law_338 rfl (lv_at hl 1 rfl) ?_
  refine lv_aload_n hx hb dL_law_339 rfl (lv_at hl 0 rfl) ?_
  refine lv_iload_n hx hb dL_law_340 rfl (lv_at hl 3 rfl) ?_
  refine lv_iconst (v := 1) hx hb dL_law_341 (by decide) ?_
  refine lv_iadd hx hb dL_law_342 ?_
  refine va_sld hx hb hX hbl hbA hS (lw_v (k := 1) (j := 1) rfl (by decide) hi hL) dL_law_343 ?_
  refine lv_aload_n hx hb dL_law_344 rfl (lv_at hl 0 rfl) ?_
  refine lv_iload_n hx hb dL_law_345 rfl (lv_at hl 3 rfl) ?_
  refine lv_iconst (v := 2) hx hb dL_law_346 (by decide) ?_
  refine lv_iadd hx hb dL_law_347 ?_
  refine va_sld hx hb hX hbl hbA hS (lw_v (k := 2) (j := 2) rfl (by decide) hi hL) dL_law_348 ?_
  refine lw_callV (own := RL) (ρ := ρ) (k := 96) (ci := 4) (as := [.int (xs (nI i + 1).toNatClampNeg), .int (xs (nI i + 2).toNatClampNeg)]) (st := []) hx hb hml hown x5 hK hG hA dL_law_349 lV_L_48 h5 rfl rfl rfl rfl hl.1 (Nat.le_of_ble_eq_true rfl) (Nat.le_of_ble_eq_true rfl) hcs (Nat.le_of_ble_eq_true rfl) hP hD hS (fun H1 locs1 hP1 hD1 hS1 => ?_)
  refine lv_aload_n hx hb dL_law_352 rfl (lv_at hl 2 rfl) ?_
  refine lv_aload_n hx hb dL_law_353 rfl (lv_at hl 0 rfl) ?_
  refine lv_iload_n hx hb dL_law_354 rfl (lv_at hl 3 rfl) ?_
  refine lv_iconst (v := 1) hx hb dL_law_355 (by decide) ?_
  refine lv_iadd hx hb dL_law_356 ?_
  refine va_sld hx hb hX hbl hbA hS1 (lw_v (k := 1) (j := 1) rfl (by decide) hi hL) dL_law_357 ?_
  refine lv_aload_n hx hb dL_law_358 rfl (lv_at hl 0 rfl) ?_
  refine lv_iload_n hx hb dL_law_359 rfl (lv_at hl 3 rfl) ?_
  refine lv_iconst (v := 2) hx hb dL_law_360 (by decide) ?_
  refine lv_iadd hx hb dL_law_361 ?_
  refine va_sld hx hb hX hbl hbA hS1 (lw_v (k := 2) (j := 2) rfl (by decide) hi hL) dL_law_362 ?_
  refine lw_callV (own := RL) (ρ := ρ) (k := 110) (ci := 5) (as := [.int (xs (nI i + 1).toNatClampNeg), .int (xs (nI i + 2).toNatClampNeg)]) (st := [.int a]) hx hb hml hown x5 hK hG hA dL_law_363 lV_L_51 h6 rfl rfl rfl rfl hl.1 (Nat.le_of_ble_eq_true rfl) (Nat.le_of_ble_eq_true rfl) hcs (Nat.le_of_ble_eq_true rfl) hP1 hD1 hS1 (fun H2 locs2 hP2 hD2 hS2 => ?_)
  exact lv_icmp_eq (tgt := 891) hx hb dL_law_366 (by decide) (fun _ => kk σ2 H2 locs2 hJ2 hP2 hD2 hS2) (fun h => absurd rfl h)
set_option maxHeartbeats 2000000 in
theorem law_t9 (hL : L ≤ 256) (C0 : lw_At p s m meth c b L xs) (hK : va_K D vc6 (sm_ty cI cF) s) (hG : sm_G ρ (lw_A s) s s.heap) (hcs : cells ≤ 600000 ∧ slots ≤ 7302250) (hi : i + 4 ≤ L) (hJ : w_Al σ) (hP : va_P D vc6 (sm_ws ρ cI cF σ) H) (hD : va_D (lw_A s) (sm_ws ρ cI cF σ)) (hS : va_S (lw_A s) s.heap H locs) (hl : lv_has ls 4 [(0, .ref b), (1, .ref (ρ 96)), (2, .ref (ρ 110)), (3, .int (nI i))])
    (kk : ∀ (σ2 : sm_St) (H2 : Heap) (locs2 : List Loc), w_Al σ2 → va_P D vc6 (sm_ws ρ cI cF σ2) H2 → va_D (lw_A s) (sm_ws ρ cI cF σ2) → va_S (lw_A s) s.heap H2 locs2 → W p l e room_1 s m #[Value.ref b] below meth c H2 locs2 cells slots (lw_Z below #[Value.ref b] s) (F0 m 891 ls [])) : W p l e room_1 s m #[Value.ref b] below meth c H locs cells slots (lw_Z below #[Value.ref b] s) (F0 m 371 ls []) := by
  obtain ⟨hx, hb, hr, hml, hown, hts, hX, hbl, hlocks, hgv⟩ := C0
  have x5 : ∀ w ∈ gw, w.before #[Value.ref b] s = true := fun w hw => hts w (List.mem_filter.mp hw).1
  have hA : ∀ q : Nat, s.heap.size ≤ q → lw_A s q := fun _ h => h
  have hbA : ¬ lw_A s b := Nat.not_le.mpr hbl
  obtain ⟨a, σ1, σ2, h5, h6, hJ2⟩ := j_put hJ (xs (nI i + 1).toNatClampNeg) (xs (nI i + 2).toNatClampNeg) (xs (nI i + 3).toNatClampNeg)
  refine lv_aload_n hx hb dL_law_371 rfl (lv_at hl 1 rfl) ?_
  refine lv_aload_n hx hb dL_law_372 rfl (lv_at hl 0 rfl) ?_
  refine lv_iload_n hx hb dL_law_373 rfl (lv_at hl 3 rfl) ?_
  refine lv_iconst (v := 1) hx hb dL_law_374 (by decide) ?_
  refine lv_iadd hx hb dL_law_375 ?_
  refine va_sld hx hb hX hbl hbA hS (lw_v (k := 1) (j := 1) rfl (by decide) hi hL) dL_law_376 ?_
  refine lv_aload_n hx hb dL_law_377 rfl (lv_at hl 0 rfl) ?_
  refine lv_iload_n hx hb dL_law_378 rfl (lv_at hl 3 rfl) ?_
  refine lv_iconst (v := 2) hx hb dL_law_379 (by decide) ?_
  refine lv_iadd hx hb dL_law_380 ?_
  refine va_sld hx hb hX hbl hbA hS (lw_v (k := 2) (j := 2) rfl (by decide) hi hL) dL_law_381 ?_
  refine lv_aload_n hx hb dL_law_382 rfl (lv_at hl 0 rfl) ?_
  refine lv_iload_n hx hb dL_law_383 rfl (lv_at hl 3 rfl) ?_
  refine lv_iconst (v := 3) hx hb dL_law_384 (by decide) ?_
  refine lv_iadd hx hb dL_law_385 ?_
  refine va_sld hx hb hX hbl hbA hS (lw_v (k := 3) (j := 3) rfl (by decide) hi hL) dL_law_386 ?_
  refine lw_callV (own := RL) (ρ := ρ) (k := 96) (ci := 4) (as := [.int (xs (nI i + 1).toNatClampNeg), .int (xs (nI i + 2).toNatClampNeg), .int (xs (nI i + 3).toNatClampNeg)]) (st := []) hx hb hml hown x5 hK hG hA dL_law_387 lV_L_52 h5 rfl rfl rfl rfl hl.1 (Nat.le_of_ble_eq_true rfl) (Nat.le_of_ble_eq_true rfl) hcs (Nat.le_of_ble_eq_true rfl) hP hD hS (fun H1 locs1 hP1 hD1 hS1 => ?_)
  refine lv_aload_n hx hb dL_law_390 rfl (lv_at hl 2 rfl) ?_
  refine lv_aload_n hx hb dL_law_391 rfl (lv_at hl 0 rfl) ?_
  refine lv_iload_n hx hb dL_law_392 rfl (lv_at hl 3 rfl) ?_
  refine lv_iconst (v := 1) hx hb dL_law_393 (by decide) ?_
  refine lv_iadd hx hb dL_law_394 ?_
  refine va_sld hx hb hX hbl hbA hS1 (lw_v (k := 1) (j := 1) rfl (by decide) hi hL) dL_law_395 ?_
  refine lv_aload_n hx hb dL_law_396 rfl (lv_at hl 0 rfl) ?_
  refine lv_iload_n hx hb dL_law_397 rfl (lv_at hl 3 rfl) ?_
  refine lv_iconst (v := 2) hx hb dL_law_398 (by decide) ?_
  refine lv_iadd hx hb dL_law_399 ?_
  refine va_sld hx hb hX hbl hbA hS1 (lw_v (k := 2) (j := 2) rfl (by decide) hi hL) dL_law_400 ?_
  refine lv_aload_n hx hb dL_law_401 rfl (lv_at hl 0 rfl) ?_
  refine lv_iload_n hx hb dL_law_402 rfl (lv_at hl 3 rfl) ?_
  refine lv_iconst (v := 3) hx hb dL_law_403 (by decide) ?_
  refine lv_iadd hx hb dL_law_404 ?_
  refine va_sld hx hb hX hbl hbA hS1 (lw_v (k := 3) (j := 3) rfl (by decide) hi hL) dL_law_405 ?_
  refine lw_callV (own := RL) (ρ := ρ) (k := 110) (ci := 5) (as := [.int (xs (nI i + 1).toNatClampNeg), .int (xs (nI i + 2).toNatClampNeg), .int (xs (nI i + 3).toNatClampNeg)]) (st := [.int a]) hx hb hml hown x5 hK hG hA dL_law_406 lV_L_56 h6 rfl rfl rfl rfl hl.1 (Nat.le_of_ble_eq_true rfl) (Nat.le_of_ble_eq_true rfl) hcs (Nat.le_of_ble_eq_true rfl) hP1 hD1 hS1 (fun H2 locs2 hP2 hD2 hS2 => ?_)
  exact lv_icmp_eq (tgt := 891) hx hb dL_law_409 (by decide) (fun _ => kk σ2 H2 locs2 hJ2 hP2 hD2 hS2) (fun h => absurd rfl h)
set_option maxHeartbeats 2000000 in
theorem law_t10 (hL : L ≤ 256) (C0 : lw_At p s m meth c b L xs) (hK : va_K D vc6 (sm_ty cI cF) s) (hG : sm_G ρ (lw_A s) s s.heap) (hcs : cells ≤ 600000 ∧ slots ≤ 7302250) (hi : i + 4 ≤ L) (hJ : w_Al σ) (hP : va_P D vc6 (sm_ws ρ cI cF σ) H) (hD : va_D (lw_A s) (sm_ws ρ cI cF σ)) (hS : va_S (lw_A s) s.heap H locs) (hl : lv_has ls 4 [(0, .ref b), (1, .ref (ρ 96)), (2, .ref (ρ 110)), (3, .int (nI i))])
    (kk : ∀ (σ2 : sm_St) (H2 : Heap) (locs2 : List Loc), w_Al σ2 → va_P D vc6 (sm_ws ρ cI cF σ2) H2 → va_D (lw_A s) (sm_ws ρ cI cF σ2) → va_S (lw_A s) s.heap H2 locs2 → W p l e room_1 s m #[Value.ref b] below meth c H2 locs2 cells slots (lw_Z below #[Value.ref b] s) (F0 m 891 ls [])) : W p l e room_1 s m #[Value.ref b] below meth c H locs cells slots (lw_Z below #[Value.ref b] s) (F0 m 414 ls []) := by
  obtain ⟨hx, hb, hr, hml, hown, hts, hX, hbl, hlocks, hgv⟩ := C0
  have x5 : ∀ w ∈ gw, w.before #[Value.ref b] s = true := fun w hw => hts w (List.mem_filter.mp hw).1
  have hA : ∀ q : Nat, s.heap.size ≤ q → lw_A s q := fun _ h => h
  have hbA : ¬ lw_A s b := Nat.not_le.mpr hbl
  obtain ⟨a, σ1, σ2, h5, h6, hJ2⟩ := j_smell hJ (xs (nI i + 1).toNatClampNeg) (xs (nI i + 2).toNatClampNeg)
  refine lv_aload_n hx hb dL_law_414 rfl (lv_at hl 1 rfl) ?_
  refine lv_aload_n hx hb dL_law_415 rfl (lv_at hl 0 rfl) ?_
  refine lv_iload_n hx hb dL_law_416 rfl (lv_at hl 3 rfl) ?_
  refine lv_iconst (v := 1) hx hb dL_law_417 (by decide) ?_
  refine lv_iadd hx hb dL_law_418 ?_
  refine va_sld hx hb hX hbl hbA hS (lw_v (k := 1) (j := 1) rfl (by decide) hi hL) dL_law_419 ?_
  refine lv_aload_n hx hb dL_law_420 rfl (lv_at hl 0 rfl) ?_
  refine lv_iload_n hx hb dL_law_421 rfl (lv_at hl 3 rfl) ?_
  refine lv_iconst (v := 2) hx hb dL_law_422 (by decide) ?_
  refine lv_iadd hx hb dL_law_423 ?_
  refine va_sld hx hb hX hbl hbA hS (lw_v (k := 2) (j := 2) rfl (by decide) hi hL) dL_law_424 ?_
  refine lw_callV (own := RL) (ρ := ρ) (k := 96) (ci := 4) (as := [.int (xs (nI i + 1).toNatClampNeg), .int (xs (nI i + 2).toNatClampNeg)]) (st := []) hx hb hml hown x5 hK hG hA dL_law_425 lV_L_57 h5 rfl rfl rfl rfl hl.1 (Nat.le_of_ble_eq_true rfl) (Nat.le_of_ble_eq_true rfl) hcs (Nat.le_of_ble_eq_true rfl) hP hD hS (fun H1 locs1 hP1 hD1 hS1 => ?_)
  refine lv_aload_n hx hb dL_law_428 rfl (lv_at hl 2 rfl) ?_
  refine lv_aload_n hx hb dL_law_429 rfl (lv_at hl 0 rfl) ?_
  refine lv_iload_n hx hb dL_law_430 rfl (lv_at hl 3 rfl) ?_
  refine lv_iconst (v := 1) hx hb dL_law_431 (by decide) ?_
  refine lv_iadd hx hb dL_law_432 ?_
  refine va_sld hx hb hX hbl hbA hS1 (lw_v (k := 1) (j := 1) rfl (by decide) hi hL) dL_law_433 ?_
  refine lv_aload_n hx hb dL_law_434 rfl (lv_at hl 0 rfl) ?_
  refine lv_iload_n hx hb dL_law_435 rfl (lv_at hl 3 rfl) ?_
  refine lv_iconst (v := 2) hx hb dL_law_436 (by decide) ?_
  refine lv_iadd hx hb dL_law_437 ?_
  refine va_sld hx hb hX hbl hbA hS1 (lw_v (k := 2) (j := 2) rfl (by decide) hi hL) dL_law_438 ?_
  refine lw_callV (own := RL) (ρ := ρ) (k := 110) (ci := 5) (as := [.int (xs (nI i + 1).toNatClampNeg), .int (xs (nI i + 2).toNatClampNeg)]) (st := [.int a]) hx hb hml hown x5 hK hG hA dL_law_439 lV_L_60 h6 rfl rfl rfl rfl hl.1 (Nat.le_of_ble_eq_true rfl) (Nat.le_of_ble_eq_true rfl) hcs (Nat.le_of_ble_eq_true rfl) hP1 hD1 hS1 (fun H2 locs2 hP2 hD2 hS2 => ?_)
  exact lv_icmp_eq (tgt := 891) hx hb dL_law_442 (by decide) (fun _ => kk σ2 H2 locs2 hJ2 hP2 hD2 hS2) (fun h => absurd rfl h)
set_option maxHeartbeats 2000000 in
theorem law_t11 (hL : L ≤ 256) (C0 : lw_At p s m meth c b L xs) (hK : va_K D vc6 (sm_ty cI cF) s) (hG : sm_G ρ (lw_A s) s s.heap) (hcs : cells ≤ 600000 ∧ slots ≤ 7302250) (hi : i + 4 ≤ L) (hJ : w_Al σ) (hP : va_P D vc6 (sm_ws ρ cI cF σ) H) (hD : va_D (lw_A s) (sm_ws ρ cI cF σ)) (hS : va_S (lw_A s) s.heap H locs) (hl : lv_has ls 4 [(0, .ref b), (1, .ref (ρ 96)), (2, .ref (ρ 110)), (3, .int (nI i))])
    (kk : ∀ (σ2 : sm_St) (H2 : Heap) (locs2 : List Loc), w_Al σ2 → va_P D vc6 (sm_ws ρ cI cF σ2) H2 → va_D (lw_A s) (sm_ws ρ cI cF σ2) → va_S (lw_A s) s.heap H2 locs2 → W p l e room_1 s m #[Value.ref b] below meth c H2 locs2 cells slots (lw_Z below #[Value.ref b] s) (F0 m 891 ls [])) : W p l e room_1 s m #[Value.ref b] below meth c H locs cells slots (lw_Z below #[Value.ref b] s) (F0 m 447 ls []) := by
  obtain ⟨hx, hb, hr, hml, hown, hts, hX, hbl, hlocks, hgv⟩ := C0
  have x5 : ∀ w ∈ gw, w.before #[Value.ref b] s = true := fun w hw => hts w (List.mem_filter.mp hw).1
  have hA : ∀ q : Nat, s.heap.size ≤ q → lw_A s q := fun _ h => h
  have hbA : ¬ lw_A s b := Nat.not_le.mpr hbl
  obtain ⟨a, σ1, σ2, h5, h6, hJ2⟩ := j_take hJ (xs (nI i + 1).toNatClampNeg)
  refine lv_aload_n hx hb dL_law_447 rfl (lv_at hl 1 rfl) ?_
  refine lv_aload_n hx hb dL_law_448 rfl (lv_at hl 0 rfl) ?_
  refine lv_iload_n hx hb dL_law_449 rfl (lv_at hl 3 rfl) ?_
  refine lv_iconst (v := 1) hx hb dL_law_450 (by decide) ?_
  refine lv_iadd hx hb dL_law_451 ?_
  refine va_sld hx hb hX hbl hbA hS (lw_v (k := 1) (j := 1) rfl (by decide) hi hL) dL_law_452 ?_
  refine lw_callV (own := RL) (ρ := ρ) (k := 96) (ci := 4) (as := [.int (xs (nI i + 1).toNatClampNeg)]) (st := []) hx hb hml hown x5 hK hG hA dL_law_453 lV_L_61 h5 rfl rfl rfl rfl hl.1 (Nat.le_of_ble_eq_true rfl) (Nat.le_of_ble_eq_true rfl) hcs (Nat.le_of_ble_eq_true rfl) hP hD hS (fun H1 locs1 hP1 hD1 hS1 => ?_)
  refine lv_aload_n hx hb dL_law_456 rfl (lv_at hl 2 rfl) ?_
  refine lv_aload_n hx hb dL_law_457 rfl (lv_at hl 0 rfl) ?_
  refine lv_iload_n hx hb dL_law_458 rfl (lv_at hl 3 rfl) ?_
  refine lv_iconst (v := 1) hx hb dL_law_459 (by decide) ?_
  refine lv_iadd hx hb dL_law_460 ?_
  refine va_sld hx hb hX hbl hbA hS1 (lw_v (k := 1) (j := 1) rfl (by decide) hi hL) dL_law_461 ?_
  refine lw_callV (own := RL) (ρ := ρ) (k := 110) (ci := 5) (as := [.int (xs (nI i + 1).toNatClampNeg)]) (st := [.int a]) hx hb hml hown x5 hK hG hA dL_law_462 lV_L_64 h6 rfl rfl rfl rfl hl.1 (Nat.le_of_ble_eq_true rfl) (Nat.le_of_ble_eq_true rfl) hcs (Nat.le_of_ble_eq_true rfl) hP1 hD1 hS1 (fun H2 locs2 hP2 hD2 hS2 => ?_)
  exact lv_icmp_eq (tgt := 891) hx hb dL_law_465 (by decide) (fun _ => kk σ2 H2 locs2 hJ2 hP2 hD2 hS2) (fun h => absurd rfl h)
set_option maxHeartbeats 2000000 in
theorem law_t12 (hL : L ≤ 256) (C0 : lw_At p s m meth c b L xs) (hK : va_K D vc6 (sm_ty cI cF) s) (hG : sm_G ρ (lw_A s) s s.heap) (hcs : cells ≤ 600000 ∧ slots ≤ 7302250) (hi : i + 4 ≤ L) (hJ : w_Al σ) (hP : va_P D vc6 (sm_ws ρ cI cF σ) H) (hD : va_D (lw_A s) (sm_ws ρ cI cF σ)) (hS : va_S (lw_A s) s.heap H locs) (hl : lv_has ls 4 [(0, .ref b), (1, .ref (ρ 96)), (2, .ref (ρ 110)), (3, .int (nI i))])
    (kk : ∀ (σ2 : sm_St) (H2 : Heap) (locs2 : List Loc), w_Al σ2 → va_P D vc6 (sm_ws ρ cI cF σ2) H2 → va_D (lw_A s) (sm_ws ρ cI cF σ2) → va_S (lw_A s) s.heap H2 locs2 → W p l e room_1 s m #[Value.ref b] below meth c H2 locs2 cells slots (lw_Z below #[Value.ref b] s) (F0 m 891 ls [])) : W p l e room_1 s m #[Value.ref b] below meth c H locs cells slots (lw_Z below #[Value.ref b] s) (F0 m 470 ls []) := by
  obtain ⟨hx, hb, hr, hml, hown, hts, hX, hbl, hlocks, hgv⟩ := C0
  have x5 : ∀ w ∈ gw, w.before #[Value.ref b] s = true := fun w hw => hts w (List.mem_filter.mp hw).1
  have hA : ∀ q : Nat, s.heap.size ≤ q → lw_A s q := fun _ h => h
  have hbA : ¬ lw_A s b := Nat.not_le.mpr hbl
  obtain ⟨a, σ1, σ2, h5, h6, hJ2⟩ := j_undo hJ 
  refine lv_aload_n hx hb dL_law_470 rfl (lv_at hl 1 rfl) ?_
  refine lw_callV (own := RL) (ρ := ρ) (k := 96) (ci := 4) (as := []) (st := []) hx hb hml hown x5 hK hG hA dL_law_471 lV_L_65 h5 rfl rfl rfl rfl hl.1 (Nat.le_of_ble_eq_true rfl) (Nat.le_of_ble_eq_true rfl) hcs (Nat.le_of_ble_eq_true rfl) hP hD hS (fun H1 locs1 hP1 hD1 hS1 => ?_)
  refine lv_aload_n hx hb dL_law_474 rfl (lv_at hl 2 rfl) ?_
  refine lw_callV (own := RL) (ρ := ρ) (k := 110) (ci := 5) (as := []) (st := [.int a]) hx hb hml hown x5 hK hG hA dL_law_475 lV_L_68 h6 rfl rfl rfl rfl hl.1 (Nat.le_of_ble_eq_true rfl) (Nat.le_of_ble_eq_true rfl) hcs (Nat.le_of_ble_eq_true rfl) hP1 hD1 hS1 (fun H2 locs2 hP2 hD2 hS2 => ?_)
  exact lv_icmp_eq (tgt := 891) hx hb dL_law_478 (by decide) (fun _ => kk σ2 H2 locs2 hJ2 hP2 hD2 hS2) (fun h => absurd rfl h)
set_option maxHeartbeats 2000000 in
theorem law_t13 (hL : L ≤ 256) (C0 : lw_At p s m meth c b L xs) (hK : va_K D vc6 (sm_ty cI cF) s) (hG : sm_G ρ (lw_A s) s s.heap) (hcs : cells ≤ 600000 ∧ slots ≤ 7302250) (hi : i + 4 ≤ L) (hJ : w_Al σ) (hP : va_P D vc6 (sm_ws ρ cI cF σ) H) (hD : va_D (lw_A s) (sm_ws ρ cI cF σ)) (hS : va_S (lw_A s) s.heap H locs) (hl : lv_has ls 4 [(0, .ref b), (1, .ref (ρ 96)), (2, .ref (ρ 110)), (3, .int (nI i))])
    (kk : ∀ (σ2 : sm_St) (H2 : Heap) (locs2 : List Loc), w_Al σ2 → va_P D vc6 (sm_ws ρ cI cF σ2) H2 → va_D (lw_A s) (sm_ws ρ cI cF σ2) → va_S (lw_A s) s.heap H2 locs2 → W p l e room_1 s m #[Value.ref b] below meth c H2 locs2 cells slots (lw_Z below #[Value.ref b] s) (F0 m 891 ls [])) : W p l e room_1 s m #[Value.ref b] below meth c H locs cells slots (lw_Z below #[Value.ref b] s) (F0 m 483 ls []) := by
  obtain ⟨hx, hb, hr, hml, hown, hts, hX, hbl, hlocks, hgv⟩ := C0
  have x5 : ∀ w ∈ gw, w.before #[Value.ref b] s = true := fun w hw => hts w (List.mem_filter.mp hw).1
  have hA : ∀ q : Nat, s.heap.size ≤ q → lw_A s q := fun _ h => h
  have hbA : ¬ lw_A s b := Nat.not_le.mpr hbl
  obtain ⟨a, σ1, σ2, h5, h6, hJ2⟩ := j_behind hJ (xs (nI i + 1).toNatClampNeg) (xs (nI i + 2).toNatClampNeg)
  refine lv_aload_n hx hb dL_law_483 rfl (lv_at hl 1 rfl) ?_
  refine lv_aload_n hx hb dL_law_484 rfl (lv_at hl 0 rfl) ?_
  refine lv_iload_n hx hb dL_law_485 rfl (lv_at hl 3 rfl) ?_
  refine lv_iconst (v := 1) hx hb dL_law_486 (by decide) ?_
  refine lv_iadd hx hb dL_law_487 ?_
  refine va_sld hx hb hX hbl hbA hS (lw_v (k := 1) (j := 1) rfl (by decide) hi hL) dL_law_488 ?_
  refine lv_aload_n hx hb dL_law_489 rfl (lv_at hl 0 rfl) ?_
  refine lv_iload_n hx hb dL_law_490 rfl (lv_at hl 3 rfl) ?_
  refine lv_iconst (v := 2) hx hb dL_law_491 (by decide) ?_
  refine lv_iadd hx hb dL_law_492 ?_
  refine va_sld hx hb hX hbl hbA hS (lw_v (k := 2) (j := 2) rfl (by decide) hi hL) dL_law_493 ?_
  refine lw_callV (own := RL) (ρ := ρ) (k := 96) (ci := 4) (as := [.int (xs (nI i + 1).toNatClampNeg), .int (xs (nI i + 2).toNatClampNeg)]) (st := []) hx hb hml hown x5 hK hG hA dL_law_494 lV_L_69 h5 rfl rfl rfl rfl hl.1 (Nat.le_of_ble_eq_true rfl) (Nat.le_of_ble_eq_true rfl) hcs (Nat.le_of_ble_eq_true rfl) hP hD hS (fun H1 locs1 hP1 hD1 hS1 => ?_)
  refine lv_aload_n hx hb dL_law_497 rfl (lv_at hl 2 rfl) ?_
  refine lv_aload_n hx hb dL_law_498 rfl (lv_at hl 0 rfl) ?_
  refine lv_iload_n hx hb dL_law_499 rfl (lv_at hl 3 rfl) ?_
  refine lv_iconst (v := 1) hx hb dL_law_500 (by decide) ?_
  refine lv_iadd hx hb dL_law_501 ?_
  refine va_sld hx hb hX hbl hbA hS1 (lw_v (k := 1) (j := 1) rfl (by decide) hi hL) dL_law_502 ?_
  refine lv_aload_n hx hb dL_law_503 rfl (lv_at hl 0 rfl) ?_
  refine lv_iload_n hx hb dL_law_504 rfl (lv_at hl 3 rfl) ?_
  refine lv_iconst (v := 2) hx hb dL_law_505 (by decide) ?_
  refine lv_iadd hx hb dL_law_506 ?_
  refine va_sld hx hb hX hbl hbA hS1 (lw_v (k := 2) (j := 2) rfl (by decide) hi hL) dL_law_507 ?_
  refine lw_callV (own := RL) (ρ := ρ) (k := 110) (ci := 5) (as := [.int (xs (nI i + 1).toNatClampNeg), .int (xs (nI i + 2).toNatClampNeg)]) (st := [.int a]) hx hb hml hown x5 hK hG hA dL_law_508 lV_L_72 h6 rfl rfl rfl rfl hl.1 (Nat.le_of_ble_eq_true rfl) (Nat.le_of_ble_eq_true rfl) hcs (Nat.le_of_ble_eq_true rfl) hP1 hD1 hS1 (fun H2 locs2 hP2 hD2 hS2 => ?_)
  exact lv_icmp_eq (tgt := 891) hx hb dL_law_511 (by decide) (fun _ => kk σ2 H2 locs2 hJ2 hP2 hD2 hS2) (fun h => absurd rfl h)
set_option maxHeartbeats 2000000 in
theorem law_t14 (hL : L ≤ 256) (C0 : lw_At p s m meth c b L xs) (hK : va_K D vc6 (sm_ty cI cF) s) (hG : sm_G ρ (lw_A s) s s.heap) (hcs : cells ≤ 600000 ∧ slots ≤ 7302250) (hi : i + 4 ≤ L) (hJ : w_Al σ) (hP : va_P D vc6 (sm_ws ρ cI cF σ) H) (hD : va_D (lw_A s) (sm_ws ρ cI cF σ)) (hS : va_S (lw_A s) s.heap H locs) (hl : lv_has ls 4 [(0, .ref b), (1, .ref (ρ 96)), (2, .ref (ρ 110)), (3, .int (nI i))])
    (kk : ∀ (σ2 : sm_St) (H2 : Heap) (locs2 : List Loc), w_Al σ2 → va_P D vc6 (sm_ws ρ cI cF σ2) H2 → va_D (lw_A s) (sm_ws ρ cI cF σ2) → va_S (lw_A s) s.heap H2 locs2 → W p l e room_1 s m #[Value.ref b] below meth c H2 locs2 cells slots (lw_Z below #[Value.ref b] s) (F0 m 891 ls [])) : W p l e room_1 s m #[Value.ref b] below meth c H locs cells slots (lw_Z below #[Value.ref b] s) (F0 m 516 ls []) := by
  obtain ⟨hx, hb, hr, hml, hown, hts, hX, hbl, hlocks, hgv⟩ := C0
  have x5 : ∀ w ∈ gw, w.before #[Value.ref b] s = true := fun w hw => hts w (List.mem_filter.mp hw).1
  have hA : ∀ q : Nat, s.heap.size ≤ q → lw_A s q := fun _ h => h
  have hbA : ¬ lw_A s b := Nat.not_le.mpr hbl
  obtain ⟨a, σ1, σ2, h5, h6, hJ2⟩ := j_stands hJ 
  refine lv_aload_n hx hb dL_law_516 rfl (lv_at hl 1 rfl) ?_
  refine lw_callV (own := RL) (ρ := ρ) (k := 96) (ci := 4) (as := []) (st := []) hx hb hml hown x5 hK hG hA dL_law_517 lV_L_73 h5 rfl rfl rfl rfl hl.1 (Nat.le_of_ble_eq_true rfl) (Nat.le_of_ble_eq_true rfl) hcs (Nat.le_of_ble_eq_true rfl) hP hD hS (fun H1 locs1 hP1 hD1 hS1 => ?_)
  refine lv_aload_n hx hb dL_law_520 rfl (lv_at hl 2 rfl) ?_
  refine lw_callV (own := RL) (ρ := ρ) (k := 110) (ci := 5) (as := []) (st := [.int a]) hx hb hml hown x5 hK hG hA dL_law_521 lV_L_76 h6 rfl rfl rfl rfl hl.1 (Nat.le_of_ble_eq_true rfl) (Nat.le_of_ble_eq_true rfl) hcs (Nat.le_of_ble_eq_true rfl) hP1 hD1 hS1 (fun H2 locs2 hP2 hD2 hS2 => ?_)
  exact lv_icmp_eq (tgt := 891) hx hb dL_law_524 (by decide) (fun _ => kk σ2 H2 locs2 hJ2 hP2 hD2 hS2) (fun h => absurd rfl h)
set_option maxHeartbeats 2000000 in
theorem law_t15 (hL : L ≤ 256) (C0 : lw_At p s m meth c b L xs) (hK : va_K D vc6 (sm_ty cI cF) s) (hG : sm_G ρ (lw_A s) s s.heap) (hcs : cells ≤ 600000 ∧ slots ≤ 7302250) (hi : i + 4 ≤ L) (hJ : w_Al σ) (hP : va_P D vc6 (sm_ws ρ cI cF σ) H) (hD : va_D (lw_A s) (sm_ws ρ cI cF σ)) (hS : va_S (lw_A s) s.heap H locs) (hl : lv_has ls 4 [(0, .ref b), (1, .ref (ρ 96)), (2, .ref (ρ 110)), (3, .int (nI i))])
    (kk : ∀ (σ2 : sm_St) (H2 : Heap) (locs2 : List Loc), w_Al σ2 → va_P D vc6 (sm_ws ρ cI cF σ2) H2 → va_D (lw_A s) (sm_ws ρ cI cF σ2) → va_S (lw_A s) s.heap H2 locs2 → W p l e room_1 s m #[Value.ref b] below meth c H2 locs2 cells slots (lw_Z below #[Value.ref b] s) (F0 m 891 ls [])) : W p l e room_1 s m #[Value.ref b] below meth c H locs cells slots (lw_Z below #[Value.ref b] s) (F0 m 529 ls []) := by
  obtain ⟨hx, hb, hr, hml, hown, hts, hX, hbl, hlocks, hgv⟩ := C0
  have x5 : ∀ w ∈ gw, w.before #[Value.ref b] s = true := fun w hw => hts w (List.mem_filter.mp hw).1
  have hA : ∀ q : Nat, s.heap.size ≤ q → lw_A s q := fun _ h => h
  have hbA : ¬ lw_A s b := Nat.not_le.mpr hbl
  obtain ⟨a, σ1, σ2, h5, h6, hJ2⟩ := j_gale hJ (xs (nI i + 1).toNatClampNeg)
  refine lv_aload_n hx hb dL_law_529 rfl (lv_at hl 1 rfl) ?_
  refine lv_aload_n hx hb dL_law_530 rfl (lv_at hl 0 rfl) ?_
  refine lv_iload_n hx hb dL_law_531 rfl (lv_at hl 3 rfl) ?_
  refine lv_iconst (v := 1) hx hb dL_law_532 (by decide) ?_
  refine lv_iadd hx hb dL_law_533 ?_
  refine va_sld hx hb hX hbl hbA hS (lw_v (k := 1) (j := 1) rfl (by decide) hi hL) dL_law_534 ?_
  refine lw_callV (own := RL) (ρ := ρ) (k := 96) (ci := 4) (as := [.int (xs (nI i + 1).toNatClampNeg)]) (st := []) hx hb hml hown x5 hK hG hA dL_law_535 lV_L_77 h5 rfl rfl rfl rfl hl.1 (Nat.le_of_ble_eq_true rfl) (Nat.le_of_ble_eq_true rfl) hcs (Nat.le_of_ble_eq_true rfl) hP hD hS (fun H1 locs1 hP1 hD1 hS1 => ?_)
  refine lv_aload_n hx hb dL_law_538 rfl (lv_at hl 2 rfl) ?_
  refine lv_aload_n hx hb dL_law_539 rfl (lv_at hl 0 rfl) ?_
  refine lv_iload_n hx hb dL_law_540 rfl (lv_at hl 3 rfl) ?_
  refine lv_iconst (v := 1) hx hb dL_law_541 (by decide) ?_
  refine lv_iadd hx hb dL_law_542 ?_
  refine va_sld hx hb hX hbl hbA hS1 (lw_v (k := 1) (j := 1) rfl (by decide) hi hL) dL_law_543 ?_
  refine lw_callV (own := RL) (ρ := ρ) (k := 110) (ci := 5) (as := [.int (xs (nI i + 1).toNatClampNeg)]) (st := [.int a]) hx hb hml hown x5 hK hG hA dL_law_544 lV_L_80 h6 rfl rfl rfl rfl hl.1 (Nat.le_of_ble_eq_true rfl) (Nat.le_of_ble_eq_true rfl) hcs (Nat.le_of_ble_eq_true rfl) hP1 hD1 hS1 (fun H2 locs2 hP2 hD2 hS2 => ?_)
  exact lv_icmp_eq (tgt := 891) hx hb dL_law_547 (by decide) (fun _ => kk σ2 H2 locs2 hJ2 hP2 hD2 hS2) (fun h => absurd rfl h)
set_option maxHeartbeats 2000000 in
theorem law_t16 (hL : L ≤ 256) (C0 : lw_At p s m meth c b L xs) (hK : va_K D vc6 (sm_ty cI cF) s) (hG : sm_G ρ (lw_A s) s s.heap) (hcs : cells ≤ 600000 ∧ slots ≤ 7302250) (hi : i + 4 ≤ L) (hJ : w_Al σ) (hP : va_P D vc6 (sm_ws ρ cI cF σ) H) (hD : va_D (lw_A s) (sm_ws ρ cI cF σ)) (hS : va_S (lw_A s) s.heap H locs) (hl : lv_has ls 4 [(0, .ref b), (1, .ref (ρ 96)), (2, .ref (ρ 110)), (3, .int (nI i))])
    (kk : ∀ (σ2 : sm_St) (H2 : Heap) (locs2 : List Loc), w_Al σ2 → va_P D vc6 (sm_ws ρ cI cF σ2) H2 → va_D (lw_A s) (sm_ws ρ cI cF σ2) → va_S (lw_A s) s.heap H2 locs2 → W p l e room_1 s m #[Value.ref b] below meth c H2 locs2 cells slots (lw_Z below #[Value.ref b] s) (F0 m 891 ls [])) : W p l e room_1 s m #[Value.ref b] below meth c H locs cells slots (lw_Z below #[Value.ref b] s) (F0 m 552 ls []) := by
  obtain ⟨hx, hb, hr, hml, hown, hts, hX, hbl, hlocks, hgv⟩ := C0
  have x5 : ∀ w ∈ gw, w.before #[Value.ref b] s = true := fun w hw => hts w (List.mem_filter.mp hw).1
  have hA : ∀ q : Nat, s.heap.size ≤ q → lw_A s q := fun _ h => h
  have hbA : ¬ lw_A s b := Nat.not_le.mpr hbl
  obtain ⟨a, σ1, σ2, h5, h6, hJ2⟩ := j_hold hJ 
  refine lv_aload_n hx hb dL_law_552 rfl (lv_at hl 1 rfl) ?_
  refine lw_callV (own := RL) (ρ := ρ) (k := 96) (ci := 4) (as := []) (st := []) hx hb hml hown x5 hK hG hA dL_law_553 lV_L_81 h5 rfl rfl rfl rfl hl.1 (Nat.le_of_ble_eq_true rfl) (Nat.le_of_ble_eq_true rfl) hcs (Nat.le_of_ble_eq_true rfl) hP hD hS (fun H1 locs1 hP1 hD1 hS1 => ?_)
  refine lv_aload_n hx hb dL_law_556 rfl (lv_at hl 2 rfl) ?_
  refine lw_callV (own := RL) (ρ := ρ) (k := 110) (ci := 5) (as := []) (st := [.int a]) hx hb hml hown x5 hK hG hA dL_law_557 lV_L_84 h6 rfl rfl rfl rfl hl.1 (Nat.le_of_ble_eq_true rfl) (Nat.le_of_ble_eq_true rfl) hcs (Nat.le_of_ble_eq_true rfl) hP1 hD1 hS1 (fun H2 locs2 hP2 hD2 hS2 => ?_)
  exact lv_icmp_eq (tgt := 891) hx hb dL_law_560 (by decide) (fun _ => kk σ2 H2 locs2 hJ2 hP2 hD2 hS2) (fun h => absurd rfl h)
set_option maxHeartbeats 2000000 in
theorem law_t17 (hL : L ≤ 256) (C0 : lw_At p s m meth c b L xs) (hK : va_K D vc6 (sm_ty cI cF) s) (hG : sm_G ρ (lw_A s) s s.heap) (hcs : cells ≤ 600000 ∧ slots ≤ 7302250) (hi : i + 4 ≤ L) (hJ : w_Al σ) (hP : va_P D vc6 (sm_ws ρ cI cF σ) H) (hD : va_D (lw_A s) (sm_ws ρ cI cF σ)) (hS : va_S (lw_A s) s.heap H locs) (hl : lv_has ls 4 [(0, .ref b), (1, .ref (ρ 96)), (2, .ref (ρ 110)), (3, .int (nI i))])
    (kk : ∀ (σ2 : sm_St) (H2 : Heap) (locs2 : List Loc), w_Al σ2 → va_P D vc6 (sm_ws ρ cI cF σ2) H2 → va_D (lw_A s) (sm_ws ρ cI cF σ2) → va_S (lw_A s) s.heap H2 locs2 → W p l e room_1 s m #[Value.ref b] below meth c H2 locs2 cells slots (lw_Z below #[Value.ref b] s) (F0 m 891 ls [])) : W p l e room_1 s m #[Value.ref b] below meth c H locs cells slots (lw_Z below #[Value.ref b] s) (F0 m 565 ls []) := by
  obtain ⟨hx, hb, hr, hml, hown, hts, hX, hbl, hlocks, hgv⟩ := C0
  have x5 : ∀ w ∈ gw, w.before #[Value.ref b] s = true := fun w hw => hts w (List.mem_filter.mp hw).1
  have hA : ∀ q : Nat, s.heap.size ≤ q → lw_A s q := fun _ h => h
  have hbA : ¬ lw_A s b := Nat.not_le.mpr hbl
  obtain ⟨a, σ1, σ2, h5, h6, hJ2⟩ := j_brings hJ (xs (nI i + 1).toNatClampNeg) (xs (nI i + 2).toNatClampNeg) (xs (nI i + 3).toNatClampNeg)
  refine lv_aload_n hx hb dL_law_565 rfl (lv_at hl 1 rfl) ?_
  refine lv_aload_n hx hb dL_law_566 rfl (lv_at hl 0 rfl) ?_
  refine lv_iload_n hx hb dL_law_567 rfl (lv_at hl 3 rfl) ?_
  refine lv_iconst (v := 1) hx hb dL_law_568 (by decide) ?_
  refine lv_iadd hx hb dL_law_569 ?_
  refine va_sld hx hb hX hbl hbA hS (lw_v (k := 1) (j := 1) rfl (by decide) hi hL) dL_law_570 ?_
  refine lv_aload_n hx hb dL_law_571 rfl (lv_at hl 0 rfl) ?_
  refine lv_iload_n hx hb dL_law_572 rfl (lv_at hl 3 rfl) ?_
  refine lv_iconst (v := 2) hx hb dL_law_573 (by decide) ?_
  refine lv_iadd hx hb dL_law_574 ?_
  refine va_sld hx hb hX hbl hbA hS (lw_v (k := 2) (j := 2) rfl (by decide) hi hL) dL_law_575 ?_
  refine lv_aload_n hx hb dL_law_576 rfl (lv_at hl 0 rfl) ?_
  refine lv_iload_n hx hb dL_law_577 rfl (lv_at hl 3 rfl) ?_
  refine lv_iconst (v := 3) hx hb dL_law_578 (by decide) ?_
  refine lv_iadd hx hb dL_law_579 ?_
  refine va_sld hx hb hX hbl hbA hS (lw_v (k := 3) (j := 3) rfl (by decide) hi hL) dL_law_580 ?_
  refine lw_callV (own := RL) (ρ := ρ) (k := 96) (ci := 4) (as := [.int (xs (nI i + 1).toNatClampNeg), .int (xs (nI i + 2).toNatClampNeg), .int (xs (nI i + 3).toNatClampNeg)]) (st := []) hx hb hml hown x5 hK hG hA dL_law_581 lV_L_85 h5 rfl rfl rfl rfl hl.1 (Nat.le_of_ble_eq_true rfl) (Nat.le_of_ble_eq_true rfl) hcs (Nat.le_of_ble_eq_true rfl) hP hD hS (fun H1 locs1 hP1 hD1 hS1 => ?_)
  refine lv_aload_n hx hb dL_law_584 rfl (lv_at hl 2 rfl) ?_
  refine lv_aload_n hx hb dL_law_585 rfl (lv_at hl 0 rfl) ?_
  refine lv_iload_n hx hb dL_law_586 rfl (lv_at hl 3 rfl) ?_
  refine lv_iconst (v := 1) hx hb dL_law_587 (by decide) ?_
  refine lv_iadd hx hb dL_law_588 ?_
  refine va_sld hx hb hX hbl hbA hS1 (lw_v (k := 1) (j := 1) rfl (by decide) hi hL) dL_law_589 ?_
  refine lv_aload_n hx hb dL_law_590 rfl (lv_at hl 0 rfl) ?_
  refine lv_iload_n hx hb dL_law_591 rfl (lv_at hl 3 rfl) ?_
  refine lv_iconst (v := 2) hx hb dL_law_592 (by decide) ?_
  refine lv_iadd hx hb dL_law_593 ?_
  refine va_sld hx hb hX hbl hbA hS1 (lw_v (k := 2) (j := 2) rfl (by decide) hi hL) dL_law_594 ?_
  refine lv_aload_n hx hb dL_law_595 rfl (lv_at hl 0 rfl) ?_
  refine lv_iload_n hx hb dL_law_596 rfl (lv_at hl 3 rfl) ?_
  refine lv_iconst (v := 3) hx hb dL_law_597 (by decide) ?_
  refine lv_iadd hx hb dL_law_598 ?_
  refine va_sld hx hb hX hbl hbA hS1 (lw_v (k := 3) (j := 3) rfl (by decide) hi hL) dL_law_599 ?_
  refine lw_callV (own := RL) (ρ := ρ) (k := 110) (ci := 5) (as := [.int (xs (nI i + 1).toNatClampNeg), .int (xs (nI i + 2).toNatClampNeg), .int (xs (nI i + 3).toNatClampNeg)]) (st := [.int a]) hx hb hml hown x5 hK hG hA dL_law_600 lV_L_88 h6 rfl rfl rfl rfl hl.1 (Nat.le_of_ble_eq_true rfl) (Nat.le_of_ble_eq_true rfl) hcs (Nat.le_of_ble_eq_true rfl) hP1 hD1 hS1 (fun H2 locs2 hP2 hD2 hS2 => ?_)
  exact lv_icmp_eq (tgt := 891) hx hb dL_law_603 (by decide) (fun _ => kk σ2 H2 locs2 hJ2 hP2 hD2 hS2) (fun h => absurd rfl h)
set_option maxHeartbeats 2000000 in
theorem law_t18 (hL : L ≤ 256) (C0 : lw_At p s m meth c b L xs) (hK : va_K D vc6 (sm_ty cI cF) s) (hG : sm_G ρ (lw_A s) s s.heap) (hcs : cells ≤ 600000 ∧ slots ≤ 7302250) (hi : i + 4 ≤ L) (hJ : w_Al σ) (hP : va_P D vc6 (sm_ws ρ cI cF σ) H) (hD : va_D (lw_A s) (sm_ws ρ cI cF σ)) (hS : va_S (lw_A s) s.heap H locs) (hl : lv_has ls 4 [(0, .ref b), (1, .ref (ρ 96)), (2, .ref (ρ 110)), (3, .int (nI i))])
    (kk : ∀ (σ2 : sm_St) (H2 : Heap) (locs2 : List Loc), w_Al σ2 → va_P D vc6 (sm_ws ρ cI cF σ2) H2 → va_D (lw_A s) (sm_ws ρ cI cF σ2) → va_S (lw_A s) s.heap H2 locs2 → W p l e room_1 s m #[Value.ref b] below meth c H2 locs2 cells slots (lw_Z below #[Value.ref b] s) (F0 m 891 ls [])) : W p l e room_1 s m #[Value.ref b] below meth c H locs cells slots (lw_Z below #[Value.ref b] s) (F0 m 608 ls []) := by
  obtain ⟨hx, hb, hr, hml, hown, hts, hX, hbl, hlocks, hgv⟩ := C0
  have x5 : ∀ w ∈ gw, w.before #[Value.ref b] s = true := fun w hw => hts w (List.mem_filter.mp hw).1
  have hA : ∀ q : Nat, s.heap.size ≤ q → lw_A s q := fun _ h => h
  have hbA : ¬ lw_A s b := Nat.not_le.mpr hbl
  obtain ⟨a, σ1, σ2, h5, h6, hJ2⟩ := j_keeps hJ (xs (nI i + 1).toNatClampNeg)
  refine lv_aload_n hx hb dL_law_608 rfl (lv_at hl 1 rfl) ?_
  refine lv_aload_n hx hb dL_law_609 rfl (lv_at hl 0 rfl) ?_
  refine lv_iload_n hx hb dL_law_610 rfl (lv_at hl 3 rfl) ?_
  refine lv_iconst (v := 1) hx hb dL_law_611 (by decide) ?_
  refine lv_iadd hx hb dL_law_612 ?_
  refine va_sld hx hb hX hbl hbA hS (lw_v (k := 1) (j := 1) rfl (by decide) hi hL) dL_law_613 ?_
  refine lw_callV (own := RL) (ρ := ρ) (k := 96) (ci := 4) (as := [.int (xs (nI i + 1).toNatClampNeg)]) (st := []) hx hb hml hown x5 hK hG hA dL_law_614 lV_L_89 h5 rfl rfl rfl rfl hl.1 (Nat.le_of_ble_eq_true rfl) (Nat.le_of_ble_eq_true rfl) hcs (Nat.le_of_ble_eq_true rfl) hP hD hS (fun H1 locs1 hP1 hD1 hS1 => ?_)
  refine lv_aload_n hx hb dL_law_617 rfl (lv_at hl 2 rfl) ?_
  refine lv_aload_n hx hb dL_law_618 rfl (lv_at hl 0 rfl) ?_
  refine lv_iload_n hx hb dL_law_619 rfl (lv_at hl 3 rfl) ?_
  refine lv_iconst (v := 1) hx hb dL_law_620 (by decide) ?_
  refine lv_iadd hx hb dL_law_621 ?_
  refine va_sld hx hb hX hbl hbA hS1 (lw_v (k := 1) (j := 1) rfl (by decide) hi hL) dL_law_622 ?_
  refine lw_callV (own := RL) (ρ := ρ) (k := 110) (ci := 5) (as := [.int (xs (nI i + 1).toNatClampNeg)]) (st := [.int a]) hx hb hml hown x5 hK hG hA dL_law_623 lV_L_92 h6 rfl rfl rfl rfl hl.1 (Nat.le_of_ble_eq_true rfl) (Nat.le_of_ble_eq_true rfl) hcs (Nat.le_of_ble_eq_true rfl) hP1 hD1 hS1 (fun H2 locs2 hP2 hD2 hS2 => ?_)
  exact lv_icmp_eq (tgt := 891) hx hb dL_law_626 (by decide) (fun _ => kk σ2 H2 locs2 hJ2 hP2 hD2 hS2) (fun h => absurd rfl h)
set_option maxHeartbeats 2000000 in
theorem law_t19 (hL : L ≤ 256) (C0 : lw_At p s m meth c b L xs) (hK : va_K D vc6 (sm_ty cI cF) s) (hG : sm_G ρ (lw_A s) s s.heap) (hcs : cells ≤ 600000 ∧ slots ≤ 7302250) (hi : i + 4 ≤ L) (hJ : w_Al σ) (hP : va_P D vc6 (sm_ws ρ cI cF σ) H) (hD : va_D (lw_A s) (sm_ws ρ cI cF σ)) (hS : va_S (lw_A s) s.heap H locs) (hl : lv_has ls 4 [(0, .ref b), (1, .ref (ρ 96)), (2, .ref (ρ 110)), (3, .int (nI i))])
    (kk : ∀ (σ2 : sm_St) (H2 : Heap) (locs2 : List Loc), w_Al σ2 → va_P D vc6 (sm_ws ρ cI cF σ2) H2 → va_D (lw_A s) (sm_ws ρ cI cF σ2) → va_S (lw_A s) s.heap H2 locs2 → W p l e room_1 s m #[Value.ref b] below meth c H2 locs2 cells slots (lw_Z below #[Value.ref b] s) (F0 m 891 ls [])) : W p l e room_1 s m #[Value.ref b] below meth c H locs cells slots (lw_Z below #[Value.ref b] s) (F0 m 631 ls []) := by
  obtain ⟨hx, hb, hr, hml, hown, hts, hX, hbl, hlocks, hgv⟩ := C0
  have x5 : ∀ w ∈ gw, w.before #[Value.ref b] s = true := fun w hw => hts w (List.mem_filter.mp hw).1
  have hA : ∀ q : Nat, s.heap.size ≤ q → lw_A s q := fun _ h => h
  have hbA : ¬ lw_A s b := Nat.not_le.mpr hbl
  obtain ⟨a, σ1, σ2, h5, h6, hJ2⟩ := j_instead hJ 
  refine lv_aload_n hx hb dL_law_631 rfl (lv_at hl 1 rfl) ?_
  refine lw_callV (own := RL) (ρ := ρ) (k := 96) (ci := 4) (as := []) (st := []) hx hb hml hown x5 hK hG hA dL_law_632 lV_L_93 h5 rfl rfl rfl rfl hl.1 (Nat.le_of_ble_eq_true rfl) (Nat.le_of_ble_eq_true rfl) hcs (Nat.le_of_ble_eq_true rfl) hP hD hS (fun H1 locs1 hP1 hD1 hS1 => ?_)
  refine lv_aload_n hx hb dL_law_635 rfl (lv_at hl 2 rfl) ?_
  refine lw_callV (own := RL) (ρ := ρ) (k := 110) (ci := 5) (as := []) (st := [.int a]) hx hb hml hown x5 hK hG hA dL_law_636 lV_L_96 h6 rfl rfl rfl rfl hl.1 (Nat.le_of_ble_eq_true rfl) (Nat.le_of_ble_eq_true rfl) hcs (Nat.le_of_ble_eq_true rfl) hP1 hD1 hS1 (fun H2 locs2 hP2 hD2 hS2 => ?_)
  exact lv_icmp_eq (tgt := 891) hx hb dL_law_639 (by decide) (fun _ => kk σ2 H2 locs2 hJ2 hP2 hD2 hS2) (fun h => absurd rfl h)
set_option maxHeartbeats 2000000 in
theorem law_t20 (hL : L ≤ 256) (C0 : lw_At p s m meth c b L xs) (hK : va_K D vc6 (sm_ty cI cF) s) (hG : sm_G ρ (lw_A s) s s.heap) (hcs : cells ≤ 600000 ∧ slots ≤ 7302250) (hi : i + 4 ≤ L) (hJ : w_Al σ) (hP : va_P D vc6 (sm_ws ρ cI cF σ) H) (hD : va_D (lw_A s) (sm_ws ρ cI cF σ)) (hS : va_S (lw_A s) s.heap H locs) (hl : lv_has ls 4 [(0, .ref b), (1, .ref (ρ 96)), (2, .ref (ρ 110)), (3, .int (nI i))])
    (kk : ∀ (σ2 : sm_St) (H2 : Heap) (locs2 : List Loc), w_Al σ2 → va_P D vc6 (sm_ws ρ cI cF σ2) H2 → va_D (lw_A s) (sm_ws ρ cI cF σ2) → va_S (lw_A s) s.heap H2 locs2 → W p l e room_1 s m #[Value.ref b] below meth c H2 locs2 cells slots (lw_Z below #[Value.ref b] s) (F0 m 891 ls [])) : W p l e room_1 s m #[Value.ref b] below meth c H locs cells slots (lw_Z below #[Value.ref b] s) (F0 m 644 ls []) := by
  obtain ⟨hx, hb, hr, hml, hown, hts, hX, hbl, hlocks, hgv⟩ := C0
  have x5 : ∀ w ∈ gw, w.before #[Value.ref b] s = true := fun w hw => hts w (List.mem_filter.mp hw).1
  have hA : ∀ q : Nat, s.heap.size ≤ q → lw_A s q := fun _ h => h
  have hbA : ¬ lw_A s b := Nat.not_le.mpr hbl
  obtain ⟨a, σ1, σ2, h5, h6, hJ2⟩ := j_seen hJ (xs (nI i + 1).toNatClampNeg) (xs (nI i + 2).toNatClampNeg) (xs (nI i + 3).toNatClampNeg)
  refine lv_aload_n hx hb dL_law_644 rfl (lv_at hl 1 rfl) ?_
  refine lv_aload_n hx hb dL_law_645 rfl (lv_at hl 0 rfl) ?_
  refine lv_iload_n hx hb dL_law_646 rfl (lv_at hl 3 rfl) ?_
  refine lv_iconst (v := 1) hx hb dL_law_647 (by decide) ?_
  refine lv_iadd hx hb dL_law_648 ?_
  refine va_sld hx hb hX hbl hbA hS (lw_v (k := 1) (j := 1) rfl (by decide) hi hL) dL_law_649 ?_
  refine lv_aload_n hx hb dL_law_650 rfl (lv_at hl 0 rfl) ?_
  refine lv_iload_n hx hb dL_law_651 rfl (lv_at hl 3 rfl) ?_
  refine lv_iconst (v := 2) hx hb dL_law_652 (by decide) ?_
  refine lv_iadd hx hb dL_law_653 ?_
  refine va_sld hx hb hX hbl hbA hS (lw_v (k := 2) (j := 2) rfl (by decide) hi hL) dL_law_654 ?_
  refine lv_aload_n hx hb dL_law_655 rfl (lv_at hl 0 rfl) ?_
  refine lv_iload_n hx hb dL_law_656 rfl (lv_at hl 3 rfl) ?_
  refine lv_iconst (v := 3) hx hb dL_law_657 (by decide) ?_
  refine lv_iadd hx hb dL_law_658 ?_
  refine va_sld hx hb hX hbl hbA hS (lw_v (k := 3) (j := 3) rfl (by decide) hi hL) dL_law_659 ?_
  refine lw_callV (own := RL) (ρ := ρ) (k := 96) (ci := 4) (as := [.int (xs (nI i + 1).toNatClampNeg), .int (xs (nI i + 2).toNatClampNeg), .int (xs (nI i + 3).toNatClampNeg)]) (st := []) hx hb hml hown x5 hK hG hA dL_law_660 lV_L_97 h5 rfl rfl rfl rfl hl.1 (Nat.le_of_ble_eq_true rfl) (Nat.le_of_ble_eq_true rfl) hcs (Nat.le_of_ble_eq_true rfl) hP hD hS (fun H1 locs1 hP1 hD1 hS1 => ?_)
  refine lv_aload_n hx hb dL_law_663 rfl (lv_at hl 2 rfl) ?_
  refine lv_aload_n hx hb dL_law_664 rfl (lv_at hl 0 rfl) ?_
  refine lv_iload_n hx hb dL_law_665 rfl (lv_at hl 3 rfl) ?_
  refine lv_iconst (v := 1) hx hb dL_law_666 (by decide) ?_
  refine lv_iadd hx hb dL_law_667 ?_
  refine va_sld hx hb hX hbl hbA hS1 (lw_v (k := 1) (j := 1) rfl (by decide) hi hL) dL_law_668 ?_
  refine lv_aload_n hx hb dL_law_669 rfl (lv_at hl 0 rfl) ?_
  refine lv_iload_n hx hb dL_law_670 rfl (lv_at hl 3 rfl) ?_
  refine lv_iconst (v := 2) hx hb dL_law_671 (by decide) ?_
  refine lv_iadd hx hb dL_law_672 ?_
  refine va_sld hx hb hX hbl hbA hS1 (lw_v (k := 2) (j := 2) rfl (by decide) hi hL) dL_law_673 ?_
  refine lv_aload_n hx hb dL_law_674 rfl (lv_at hl 0 rfl) ?_
  refine lv_iload_n hx hb dL_law_675 rfl (lv_at hl 3 rfl) ?_
  refine lv_iconst (v := 3) hx hb dL_law_676 (by decide) ?_
  refine lv_iadd hx hb dL_law_677 ?_
  refine va_sld hx hb hX hbl hbA hS1 (lw_v (k := 3) (j := 3) rfl (by decide) hi hL) dL_law_678 ?_
  refine lw_callV (own := RL) (ρ := ρ) (k := 110) (ci := 5) (as := [.int (xs (nI i + 1).toNatClampNeg), .int (xs (nI i + 2).toNatClampNeg), .int (xs (nI i + 3).toNatClampNeg)]) (st := [.int a]) hx hb hml hown x5 hK hG hA dL_law_679 lV_L_100 h6 rfl rfl rfl rfl hl.1 (Nat.le_of_ble_eq_true rfl) (Nat.le_of_ble_eq_true rfl) hcs (Nat.le_of_ble_eq_true rfl) hP1 hD1 hS1 (fun H2 locs2 hP2 hD2 hS2 => ?_)
  exact lv_icmp_eq (tgt := 891) hx hb dL_law_682 (by decide) (fun _ => kk σ2 H2 locs2 hJ2 hP2 hD2 hS2) (fun h => absurd rfl h)
set_option maxHeartbeats 2000000 in
theorem law_t21 (hL : L ≤ 256) (C0 : lw_At p s m meth c b L xs) (hK : va_K D vc6 (sm_ty cI cF) s) (hG : sm_G ρ (lw_A s) s s.heap) (hcs : cells ≤ 600000 ∧ slots ≤ 7302250) (hi : i + 4 ≤ L) (hJ : w_Al σ) (hP : va_P D vc6 (sm_ws ρ cI cF σ) H) (hD : va_D (lw_A s) (sm_ws ρ cI cF σ)) (hS : va_S (lw_A s) s.heap H locs) (hl : lv_has ls 4 [(0, .ref b), (1, .ref (ρ 96)), (2, .ref (ρ 110)), (3, .int (nI i))])
    (kk : ∀ (σ2 : sm_St) (H2 : Heap) (locs2 : List Loc), w_Al σ2 → va_P D vc6 (sm_ws ρ cI cF σ2) H2 → va_D (lw_A s) (sm_ws ρ cI cF σ2) → va_S (lw_A s) s.heap H2 locs2 → W p l e room_1 s m #[Value.ref b] below meth c H2 locs2 cells slots (lw_Z below #[Value.ref b] s) (F0 m 891 ls [])) : W p l e room_1 s m #[Value.ref b] below meth c H locs cells slots (lw_Z below #[Value.ref b] s) (F0 m 687 ls []) := by
  obtain ⟨hx, hb, hr, hml, hown, hts, hX, hbl, hlocks, hgv⟩ := C0
  have x5 : ∀ w ∈ gw, w.before #[Value.ref b] s = true := fun w hw => hts w (List.mem_filter.mp hw).1
  have hA : ∀ q : Nat, s.heap.size ≤ q → lw_A s q := fun _ h => h
  have hbA : ¬ lw_A s b := Nat.not_le.mpr hbl
  obtain ⟨a, σ1, σ2, h5, h6, hJ2⟩ := j_forget hJ 
  refine lv_aload_n hx hb dL_law_687 rfl (lv_at hl 1 rfl) ?_
  refine lw_callV (own := RL) (ρ := ρ) (k := 96) (ci := 4) (as := []) (st := []) hx hb hml hown x5 hK hG hA dL_law_688 lV_L_101 h5 rfl rfl rfl rfl hl.1 (Nat.le_of_ble_eq_true rfl) (Nat.le_of_ble_eq_true rfl) hcs (Nat.le_of_ble_eq_true rfl) hP hD hS (fun H1 locs1 hP1 hD1 hS1 => ?_)
  refine lv_aload_n hx hb dL_law_691 rfl (lv_at hl 2 rfl) ?_
  refine lw_callV (own := RL) (ρ := ρ) (k := 110) (ci := 5) (as := []) (st := [.int a]) hx hb hml hown x5 hK hG hA dL_law_692 lV_L_104 h6 rfl rfl rfl rfl hl.1 (Nat.le_of_ble_eq_true rfl) (Nat.le_of_ble_eq_true rfl) hcs (Nat.le_of_ble_eq_true rfl) hP1 hD1 hS1 (fun H2 locs2 hP2 hD2 hS2 => ?_)
  exact lv_icmp_eq (tgt := 891) hx hb dL_law_695 (by decide) (fun _ => kk σ2 H2 locs2 hJ2 hP2 hD2 hS2) (fun h => absurd rfl h)
set_option maxHeartbeats 2000000 in
theorem law_t22 (hL : L ≤ 256) (C0 : lw_At p s m meth c b L xs) (hK : va_K D vc6 (sm_ty cI cF) s) (hG : sm_G ρ (lw_A s) s s.heap) (hcs : cells ≤ 600000 ∧ slots ≤ 7302250) (hi : i + 4 ≤ L) (hJ : w_Al σ) (hP : va_P D vc6 (sm_ws ρ cI cF σ) H) (hD : va_D (lw_A s) (sm_ws ρ cI cF σ)) (hS : va_S (lw_A s) s.heap H locs) (hl : lv_has ls 4 [(0, .ref b), (1, .ref (ρ 96)), (2, .ref (ρ 110)), (3, .int (nI i))])
    (kk : ∀ (σ2 : sm_St) (H2 : Heap) (locs2 : List Loc), w_Al σ2 → va_P D vc6 (sm_ws ρ cI cF σ2) H2 → va_D (lw_A s) (sm_ws ρ cI cF σ2) → va_S (lw_A s) s.heap H2 locs2 → W p l e room_1 s m #[Value.ref b] below meth c H2 locs2 cells slots (lw_Z below #[Value.ref b] s) (F0 m 891 ls [])) : W p l e room_1 s m #[Value.ref b] below meth c H locs cells slots (lw_Z below #[Value.ref b] s) (F0 m 700 ls []) := by
  obtain ⟨hx, hb, hr, hml, hown, hts, hX, hbl, hlocks, hgv⟩ := C0
  have x5 : ∀ w ∈ gw, w.before #[Value.ref b] s = true := fun w hw => hts w (List.mem_filter.mp hw).1
  have hA : ∀ q : Nat, s.heap.size ≤ q → lw_A s q := fun _ h => h
  have hbA : ¬ lw_A s b := Nat.not_le.mpr hbl
  obtain ⟨a, σ1, σ2, h5, h6, hJ2⟩ := j_may hJ (xs (nI i + 1).toNatClampNeg) (xs (nI i + 2).toNatClampNeg)
  refine lv_aload_n hx hb dL_law_700 rfl (lv_at hl 1 rfl) ?_
  refine lv_aload_n hx hb dL_law_701 rfl (lv_at hl 0 rfl) ?_
  refine lv_iload_n hx hb dL_law_702 rfl (lv_at hl 3 rfl) ?_
  refine lv_iconst (v := 1) hx hb dL_law_703 (by decide) ?_
  refine lv_iadd hx hb dL_law_704 ?_
  refine va_sld hx hb hX hbl hbA hS (lw_v (k := 1) (j := 1) rfl (by decide) hi hL) dL_law_705 ?_
  refine lv_aload_n hx hb dL_law_706 rfl (lv_at hl 0 rfl) ?_
  refine lv_iload_n hx hb dL_law_707 rfl (lv_at hl 3 rfl) ?_
  refine lv_iconst (v := 2) hx hb dL_law_708 (by decide) ?_
  refine lv_iadd hx hb dL_law_709 ?_
  refine va_sld hx hb hX hbl hbA hS (lw_v (k := 2) (j := 2) rfl (by decide) hi hL) dL_law_710 ?_
  refine lw_callV (own := RL) (ρ := ρ) (k := 96) (ci := 4) (as := [.int (xs (nI i + 1).toNatClampNeg), .int (xs (nI i + 2).toNatClampNeg)]) (st := []) hx hb hml hown x5 hK hG hA dL_law_711 lV_L_105 h5 rfl rfl rfl rfl hl.1 (Nat.le_of_ble_eq_true rfl) (Nat.le_of_ble_eq_true rfl) hcs (Nat.le_of_ble_eq_true rfl) hP hD hS (fun H1 locs1 hP1 hD1 hS1 => ?_)
  refine lv_aload_n hx hb dL_law_714 rfl (lv_at hl 2 rfl) ?_
  refine lv_aload_n hx hb dL_law_715 rfl (lv_at hl 0 rfl) ?_
  refine lv_iload_n hx hb dL_law_716 rfl (lv_at hl 3 rfl) ?_
  refine lv_iconst (v := 1) hx hb dL_law_717 (by decide) ?_
  refine lv_iadd hx hb dL_law_718 ?_
  refine va_sld hx hb hX hbl hbA hS1 (lw_v (k := 1) (j := 1) rfl (by decide) hi hL) dL_law_719 ?_
  refine lv_aload_n hx hb dL_law_720 rfl (lv_at hl 0 rfl) ?_
  refine lv_iload_n hx hb dL_law_721 rfl (lv_at hl 3 rfl) ?_
  refine lv_iconst (v := 2) hx hb dL_law_722 (by decide) ?_
  refine lv_iadd hx hb dL_law_723 ?_
  refine va_sld hx hb hX hbl hbA hS1 (lw_v (k := 2) (j := 2) rfl (by decide) hi hL) dL_law_724 ?_
  refine lw_callV (own := RL) (ρ := ρ) (k := 110) (ci := 5) (as := [.int (xs (nI i + 1).toNatClampNeg), .int (xs (nI i + 2).toNatClampNeg)]) (st := [.int a]) hx hb hml hown x5 hK hG hA dL_law_725 lV_L_108 h6 rfl rfl rfl rfl hl.1 (Nat.le_of_ble_eq_true rfl) (Nat.le_of_ble_eq_true rfl) hcs (Nat.le_of_ble_eq_true rfl) hP1 hD1 hS1 (fun H2 locs2 hP2 hD2 hS2 => ?_)
  exact lv_icmp_eq (tgt := 891) hx hb dL_law_728 (by decide) (fun _ => kk σ2 H2 locs2 hJ2 hP2 hD2 hS2) (fun h => absurd rfl h)
set_option maxHeartbeats 2000000 in
theorem law_t23 (hL : L ≤ 256) (C0 : lw_At p s m meth c b L xs) (hK : va_K D vc6 (sm_ty cI cF) s) (hG : sm_G ρ (lw_A s) s s.heap) (hcs : cells ≤ 600000 ∧ slots ≤ 7302250) (hi : i + 4 ≤ L) (hJ : w_Al σ) (hP : va_P D vc6 (sm_ws ρ cI cF σ) H) (hD : va_D (lw_A s) (sm_ws ρ cI cF σ)) (hS : va_S (lw_A s) s.heap H locs) (hl : lv_has ls 4 [(0, .ref b), (1, .ref (ρ 96)), (2, .ref (ρ 110)), (3, .int (nI i))])
    (kk : ∀ (σ2 : sm_St) (H2 : Heap) (locs2 : List Loc), w_Al σ2 → va_P D vc6 (sm_ws ρ cI cF σ2) H2 → va_D (lw_A s) (sm_ws ρ cI cF σ2) → va_S (lw_A s) s.heap H2 locs2 → W p l e room_1 s m #[Value.ref b] below meth c H2 locs2 cells slots (lw_Z below #[Value.ref b] s) (F0 m 891 ls [])) : W p l e room_1 s m #[Value.ref b] below meth c H locs cells slots (lw_Z below #[Value.ref b] s) (F0 m 733 ls []) := by
  obtain ⟨hx, hb, hr, hml, hown, hts, hX, hbl, hlocks, hgv⟩ := C0
  have x5 : ∀ w ∈ gw, w.before #[Value.ref b] s = true := fun w hw => hts w (List.mem_filter.mp hw).1
  have hA : ∀ q : Nat, s.heap.size ≤ q → lw_A s q := fun _ h => h
  have hbA : ¬ lw_A s b := Nat.not_le.mpr hbl
  obtain ⟨a, σ1, σ2, h5, h6, hJ2⟩ := j_stowaway hJ (xs (nI i + 1).toNatClampNeg)
  refine lv_aload_n hx hb dL_law_733 rfl (lv_at hl 1 rfl) ?_
  refine lv_aload_n hx hb dL_law_734 rfl (lv_at hl 0 rfl) ?_
  refine lv_iload_n hx hb dL_law_735 rfl (lv_at hl 3 rfl) ?_
  refine lv_iconst (v := 1) hx hb dL_law_736 (by decide) ?_
  refine lv_iadd hx hb dL_law_737 ?_
  refine va_sld hx hb hX hbl hbA hS (lw_v (k := 1) (j := 1) rfl (by decide) hi hL) dL_law_738 ?_
  refine lw_callV (own := RL) (ρ := ρ) (k := 96) (ci := 4) (as := [.int (xs (nI i + 1).toNatClampNeg)]) (st := []) hx hb hml hown x5 hK hG hA dL_law_739 lV_L_109 h5 rfl rfl rfl rfl hl.1 (Nat.le_of_ble_eq_true rfl) (Nat.le_of_ble_eq_true rfl) hcs (Nat.le_of_ble_eq_true rfl) hP hD hS (fun H1 locs1 hP1 hD1 hS1 => ?_)
  refine lv_aload_n hx hb dL_law_742 rfl (lv_at hl 2 rfl) ?_
  refine lv_aload_n hx hb dL_law_743 rfl (lv_at hl 0 rfl) ?_
  refine lv_iload_n hx hb dL_law_744 rfl (lv_at hl 3 rfl) ?_
  refine lv_iconst (v := 1) hx hb dL_law_745 (by decide) ?_
  refine lv_iadd hx hb dL_law_746 ?_
  refine va_sld hx hb hX hbl hbA hS1 (lw_v (k := 1) (j := 1) rfl (by decide) hi hL) dL_law_747 ?_
  refine lw_callV (own := RL) (ρ := ρ) (k := 110) (ci := 5) (as := [.int (xs (nI i + 1).toNatClampNeg)]) (st := [.int a]) hx hb hml hown x5 hK hG hA dL_law_748 lV_L_112 h6 rfl rfl rfl rfl hl.1 (Nat.le_of_ble_eq_true rfl) (Nat.le_of_ble_eq_true rfl) hcs (Nat.le_of_ble_eq_true rfl) hP1 hD1 hS1 (fun H2 locs2 hP2 hD2 hS2 => ?_)
  exact lv_icmp_eq (tgt := 891) hx hb dL_law_751 (by decide) (fun _ => kk σ2 H2 locs2 hJ2 hP2 hD2 hS2) (fun h => absurd rfl h)
set_option maxHeartbeats 2000000 in
theorem law_t24 (hL : L ≤ 256) (C0 : lw_At p s m meth c b L xs) (hK : va_K D vc6 (sm_ty cI cF) s) (hG : sm_G ρ (lw_A s) s s.heap) (hcs : cells ≤ 600000 ∧ slots ≤ 7302250) (hi : i + 4 ≤ L) (hJ : w_Al σ) (hP : va_P D vc6 (sm_ws ρ cI cF σ) H) (hD : va_D (lw_A s) (sm_ws ρ cI cF σ)) (hS : va_S (lw_A s) s.heap H locs) (hl : lv_has ls 4 [(0, .ref b), (1, .ref (ρ 96)), (2, .ref (ρ 110)), (3, .int (nI i))])
    (kk : ∀ (σ2 : sm_St) (H2 : Heap) (locs2 : List Loc), w_Al σ2 → va_P D vc6 (sm_ws ρ cI cF σ2) H2 → va_D (lw_A s) (sm_ws ρ cI cF σ2) → va_S (lw_A s) s.heap H2 locs2 → W p l e room_1 s m #[Value.ref b] below meth c H2 locs2 cells slots (lw_Z below #[Value.ref b] s) (F0 m 891 ls [])) : W p l e room_1 s m #[Value.ref b] below meth c H locs cells slots (lw_Z below #[Value.ref b] s) (F0 m 756 ls []) := by
  obtain ⟨hx, hb, hr, hml, hown, hts, hX, hbl, hlocks, hgv⟩ := C0
  have x5 : ∀ w ∈ gw, w.before #[Value.ref b] s = true := fun w hw => hts w (List.mem_filter.mp hw).1
  have hA : ∀ q : Nat, s.heap.size ≤ q → lw_A s q := fun _ h => h
  have hbA : ¬ lw_A s b := Nat.not_le.mpr hbl
  obtain ⟨a, σ1, σ2, h5, h6, hJ2⟩ := j_likely hJ (xs (nI i + 1).toNatClampNeg) (xs (nI i + 2).toNatClampNeg) (xs (nI i + 3).toNatClampNeg)
  refine lv_aload_n hx hb dL_law_756 rfl (lv_at hl 1 rfl) ?_
  refine lv_aload_n hx hb dL_law_757 rfl (lv_at hl 0 rfl) ?_
  refine lv_iload_n hx hb dL_law_758 rfl (lv_at hl 3 rfl) ?_
  refine lv_iconst (v := 1) hx hb dL_law_759 (by decide) ?_
  refine lv_iadd hx hb dL_law_760 ?_
  refine va_sld hx hb hX hbl hbA hS (lw_v (k := 1) (j := 1) rfl (by decide) hi hL) dL_law_761 ?_
  refine lv_aload_n hx hb dL_law_762 rfl (lv_at hl 0 rfl) ?_
  refine lv_iload_n hx hb dL_law_763 rfl (lv_at hl 3 rfl) ?_
  refine lv_iconst (v := 2) hx hb dL_law_764 (by decide) ?_
  refine lv_iadd hx hb dL_law_765 ?_
  refine va_sld hx hb hX hbl hbA hS (lw_v (k := 2) (j := 2) rfl (by decide) hi hL) dL_law_766 ?_
  refine lv_aload_n hx hb dL_law_767 rfl (lv_at hl 0 rfl) ?_
  refine lv_iload_n hx hb dL_law_768 rfl (lv_at hl 3 rfl) ?_
  refine lv_iconst (v := 3) hx hb dL_law_769 (by decide) ?_
  refine lv_iadd hx hb dL_law_770 ?_
  refine va_sld hx hb hX hbl hbA hS (lw_v (k := 3) (j := 3) rfl (by decide) hi hL) dL_law_771 ?_
  refine lw_callV (own := RL) (ρ := ρ) (k := 96) (ci := 4) (as := [.int (xs (nI i + 1).toNatClampNeg), .int (xs (nI i + 2).toNatClampNeg), .int (xs (nI i + 3).toNatClampNeg)]) (st := []) hx hb hml hown x5 hK hG hA dL_law_772 lV_L_113 h5 rfl rfl rfl rfl hl.1 (Nat.le_of_ble_eq_true rfl) (Nat.le_of_ble_eq_true rfl) hcs (Nat.le_of_ble_eq_true rfl) hP hD hS (fun H1 locs1 hP1 hD1 hS1 => ?_)
  refine lv_aload_n hx hb dL_law_775 rfl (lv_at hl 2 rfl) ?_
  refine lv_aload_n hx hb dL_law_776 rfl (lv_at hl 0 rfl) ?_
  refine lv_iload_n hx hb dL_law_777 rfl (lv_at hl 3 rfl) ?_
  refine lv_iconst (v := 1) hx hb dL_law_778 (by decide) ?_
  refine lv_iadd hx hb dL_law_779 ?_
  refine va_sld hx hb hX hbl hbA hS1 (lw_v (k := 1) (j := 1) rfl (by decide) hi hL) dL_law_780 ?_
  refine lv_aload_n hx hb dL_law_781 rfl (lv_at hl 0 rfl) ?_
  refine lv_iload_n hx hb dL_law_782 rfl (lv_at hl 3 rfl) ?_
  refine lv_iconst (v := 2) hx hb dL_law_783 (by decide) ?_
  refine lv_iadd hx hb dL_law_784 ?_
  refine va_sld hx hb hX hbl hbA hS1 (lw_v (k := 2) (j := 2) rfl (by decide) hi hL) dL_law_785 ?_
  refine lv_aload_n hx hb dL_law_786 rfl (lv_at hl 0 rfl) ?_
  refine lv_iload_n hx hb dL_law_787 rfl (lv_at hl 3 rfl) ?_
  refine lv_iconst (v := 3) hx hb dL_law_788 (by decide) ?_
  refine lv_iadd hx hb dL_law_789 ?_
  refine va_sld hx hb hX hbl hbA hS1 (lw_v (k := 3) (j := 3) rfl (by decide) hi hL) dL_law_790 ?_
  refine lw_callV (own := RL) (ρ := ρ) (k := 110) (ci := 5) (as := [.int (xs (nI i + 1).toNatClampNeg), .int (xs (nI i + 2).toNatClampNeg), .int (xs (nI i + 3).toNatClampNeg)]) (st := [.int a]) hx hb hml hown x5 hK hG hA dL_law_791 lV_L_116 h6 rfl rfl rfl rfl hl.1 (Nat.le_of_ble_eq_true rfl) (Nat.le_of_ble_eq_true rfl) hcs (Nat.le_of_ble_eq_true rfl) hP1 hD1 hS1 (fun H2 locs2 hP2 hD2 hS2 => ?_)
  exact lv_icmp_eq (tgt := 891) hx hb dL_law_794 (by decide) (fun _ => kk σ2 H2 locs2 hJ2 hP2 hD2 hS2) (fun h => absurd rfl h)
set_option maxHeartbeats 2000000 in
theorem law_t25 (hL : L ≤ 256) (C0 : lw_At p s m meth c b L xs) (hK : va_K D vc6 (sm_ty cI cF) s) (hG : sm_G ρ (lw_A s) s s.heap) (hcs : cells ≤ 600000 ∧ slots ≤ 7302250) (hi : i + 4 ≤ L) (hJ : w_Al σ) (hP : va_P D vc6 (sm_ws ρ cI cF σ) H) (hD : va_D (lw_A s) (sm_ws ρ cI cF σ)) (hS : va_S (lw_A s) s.heap H locs) (hl : lv_has ls 4 [(0, .ref b), (1, .ref (ρ 96)), (2, .ref (ρ 110)), (3, .int (nI i))])
    (kk : ∀ (σ2 : sm_St) (H2 : Heap) (locs2 : List Loc), w_Al σ2 → va_P D vc6 (sm_ws ρ cI cF σ2) H2 → va_D (lw_A s) (sm_ws ρ cI cF σ2) → va_S (lw_A s) s.heap H2 locs2 → W p l e room_1 s m #[Value.ref b] below meth c H2 locs2 cells slots (lw_Z below #[Value.ref b] s) (F0 m 891 ls [])) : W p l e room_1 s m #[Value.ref b] below meth c H locs cells slots (lw_Z below #[Value.ref b] s) (F0 m 799 ls []) := by
  obtain ⟨hx, hb, hr, hml, hown, hts, hX, hbl, hlocks, hgv⟩ := C0
  have x5 : ∀ w ∈ gw, w.before #[Value.ref b] s = true := fun w hw => hts w (List.mem_filter.mp hw).1
  have hA : ∀ q : Nat, s.heap.size ≤ q → lw_A s q := fun _ h => h
  have hbA : ¬ lw_A s b := Nat.not_le.mpr hbl
  obtain ⟨a, σ1, σ2, h5, h6, hJ2⟩ := j_voyage hJ (xs (nI i + 1).toNatClampNeg) (xs (nI i + 2).toNatClampNeg) (xs (nI i + 3).toNatClampNeg)
  refine lv_aload_n hx hb dL_law_799 rfl (lv_at hl 1 rfl) ?_
  refine lv_aload_n hx hb dL_law_800 rfl (lv_at hl 0 rfl) ?_
  refine lv_iload_n hx hb dL_law_801 rfl (lv_at hl 3 rfl) ?_
  refine lv_iconst (v := 1) hx hb dL_law_802 (by decide) ?_
  refine lv_iadd hx hb dL_law_803 ?_
  refine va_sld hx hb hX hbl hbA hS (lw_v (k := 1) (j := 1) rfl (by decide) hi hL) dL_law_804 ?_
  refine lv_aload_n hx hb dL_law_805 rfl (lv_at hl 0 rfl) ?_
  refine lv_iload_n hx hb dL_law_806 rfl (lv_at hl 3 rfl) ?_
  refine lv_iconst (v := 2) hx hb dL_law_807 (by decide) ?_
  refine lv_iadd hx hb dL_law_808 ?_
  refine va_sld hx hb hX hbl hbA hS (lw_v (k := 2) (j := 2) rfl (by decide) hi hL) dL_law_809 ?_
  refine lv_aload_n hx hb dL_law_810 rfl (lv_at hl 0 rfl) ?_
  refine lv_iload_n hx hb dL_law_811 rfl (lv_at hl 3 rfl) ?_
  refine lv_iconst (v := 3) hx hb dL_law_812 (by decide) ?_
  refine lv_iadd hx hb dL_law_813 ?_
  refine va_sld hx hb hX hbl hbA hS (lw_v (k := 3) (j := 3) rfl (by decide) hi hL) dL_law_814 ?_
  refine lw_callV (own := RL) (ρ := ρ) (k := 96) (ci := 4) (as := [.int (xs (nI i + 1).toNatClampNeg), .int (xs (nI i + 2).toNatClampNeg), .int (xs (nI i + 3).toNatClampNeg)]) (st := []) hx hb hml hown x5 hK hG hA dL_law_815 lV_L_117 h5 rfl rfl rfl rfl hl.1 (Nat.le_of_ble_eq_true rfl) (Nat.le_of_ble_eq_true rfl) hcs (Nat.le_of_ble_eq_true rfl) hP hD hS (fun H1 locs1 hP1 hD1 hS1 => ?_)
  refine lv_aload_n hx hb dL_law_818 rfl (lv_at hl 2 rfl) ?_
  refine lv_aload_n hx hb dL_law_819 rfl (lv_at hl 0 rfl) ?_
  refine lv_iload_n hx hb dL_law_820 rfl (lv_at hl 3 rfl) ?_
  refine lv_iconst (v := 1) hx hb dL_law_821 (by decide) ?_
  refine lv_iadd hx hb dL_law_822 ?_
  refine va_sld hx hb hX hbl hbA hS1 (lw_v (k := 1) (j := 1) rfl (by decide) hi hL) dL_law_823 ?_
  refine lv_aload_n hx hb dL_law_824 rfl (lv_at hl 0 rfl) ?_
  refine lv_iload_n hx hb dL_law_825 rfl (lv_at hl 3 rfl) ?_
  refine lv_iconst (v := 2) hx hb dL_law_826 (by decide) ?_
  refine lv_iadd hx hb dL_law_827 ?_
  refine va_sld hx hb hX hbl hbA hS1 (lw_v (k := 2) (j := 2) rfl (by decide) hi hL) dL_law_828 ?_
  refine lv_aload_n hx hb dL_law_829 rfl (lv_at hl 0 rfl) ?_
  refine lv_iload_n hx hb dL_law_830 rfl (lv_at hl 3 rfl) ?_
  refine lv_iconst (v := 3) hx hb dL_law_831 (by decide) ?_
  refine lv_iadd hx hb dL_law_832 ?_
  refine va_sld hx hb hX hbl hbA hS1 (lw_v (k := 3) (j := 3) rfl (by decide) hi hL) dL_law_833 ?_
  refine lw_callV (own := RL) (ρ := ρ) (k := 110) (ci := 5) (as := [.int (xs (nI i + 1).toNatClampNeg), .int (xs (nI i + 2).toNatClampNeg), .int (xs (nI i + 3).toNatClampNeg)]) (st := [.int a]) hx hb hml hown x5 hK hG hA dL_law_834 lV_L_120 h6 rfl rfl rfl rfl hl.1 (Nat.le_of_ble_eq_true rfl) (Nat.le_of_ble_eq_true rfl) hcs (Nat.le_of_ble_eq_true rfl) hP1 hD1 hS1 (fun H2 locs2 hP2 hD2 hS2 => ?_)
  exact lv_icmp_eq (tgt := 891) hx hb dL_law_837 (by decide) (fun _ => kk σ2 H2 locs2 hJ2 hP2 hD2 hS2) (fun h => absurd rfl h)
set_option maxHeartbeats 2000000 in
theorem law_t26 (hL : L ≤ 256) (C0 : lw_At p s m meth c b L xs) (hK : va_K D vc6 (sm_ty cI cF) s) (hG : sm_G ρ (lw_A s) s s.heap) (hcs : cells ≤ 600000 ∧ slots ≤ 7302250) (hi : i + 4 ≤ L) (hJ : w_Al σ) (hP : va_P D vc6 (sm_ws ρ cI cF σ) H) (hD : va_D (lw_A s) (sm_ws ρ cI cF σ)) (hS : va_S (lw_A s) s.heap H locs) (hl : lv_has ls 4 [(0, .ref b), (1, .ref (ρ 96)), (2, .ref (ρ 110)), (3, .int (nI i))])
    (kk : ∀ (σ2 : sm_St) (H2 : Heap) (locs2 : List Loc), w_Al σ2 → va_P D vc6 (sm_ws ρ cI cF σ2) H2 → va_D (lw_A s) (sm_ws ρ cI cF σ2) → va_S (lw_A s) s.heap H2 locs2 → W p l e room_1 s m #[Value.ref b] below meth c H2 locs2 cells slots (lw_Z below #[Value.ref b] s) (F0 m 891 ls [])) : W p l e room_1 s m #[Value.ref b] below meth c H locs cells slots (lw_Z below #[Value.ref b] s) (F0 m 842 ls []) := by
  obtain ⟨hx, hb, hr, hml, hown, hts, hX, hbl, hlocks, hgv⟩ := C0
  have x5 : ∀ w ∈ gw, w.before #[Value.ref b] s = true := fun w hw => hts w (List.mem_filter.mp hw).1
  have hA : ∀ q : Nat, s.heap.size ≤ q → lw_A s q := fun _ h => h
  have hbA : ¬ lw_A s b := Nat.not_le.mpr hbl
  obtain ⟨a, σ1, σ2, h5, h6, hJ2⟩ := j_keep hJ 
  refine lv_aload_n hx hb dL_law_842 rfl (lv_at hl 1 rfl) ?_
  refine lw_callV (own := RL) (ρ := ρ) (k := 96) (ci := 4) (as := []) (st := []) hx hb hml hown x5 hK hG hA dL_law_843 lV_L_121 h5 rfl rfl rfl rfl hl.1 (Nat.le_of_ble_eq_true rfl) (Nat.le_of_ble_eq_true rfl) hcs (Nat.le_of_ble_eq_true rfl) hP hD hS (fun H1 locs1 hP1 hD1 hS1 => ?_)
  refine lv_aload_n hx hb dL_law_846 rfl (lv_at hl 2 rfl) ?_
  refine lw_callV (own := RL) (ρ := ρ) (k := 110) (ci := 5) (as := []) (st := [.int a]) hx hb hml hown x5 hK hG hA dL_law_847 lV_L_124 h6 rfl rfl rfl rfl hl.1 (Nat.le_of_ble_eq_true rfl) (Nat.le_of_ble_eq_true rfl) hcs (Nat.le_of_ble_eq_true rfl) hP1 hD1 hS1 (fun H2 locs2 hP2 hD2 hS2 => ?_)
  exact lv_icmp_eq (tgt := 891) hx hb dL_law_850 (by decide) (fun _ => kk σ2 H2 locs2 hJ2 hP2 hD2 hS2) (fun h => absurd rfl h)
set_option maxHeartbeats 2000000 in
theorem law_t27 (hL : L ≤ 256) (C0 : lw_At p s m meth c b L xs) (hK : va_K D vc6 (sm_ty cI cF) s) (hG : sm_G ρ (lw_A s) s s.heap) (hcs : cells ≤ 600000 ∧ slots ≤ 7302250) (hi : i + 4 ≤ L) (hJ : w_Al σ) (hP : va_P D vc6 (sm_ws ρ cI cF σ) H) (hD : va_D (lw_A s) (sm_ws ρ cI cF σ)) (hS : va_S (lw_A s) s.heap H locs) (hl : lv_has ls 4 [(0, .ref b), (1, .ref (ρ 96)), (2, .ref (ρ 110)), (3, .int (nI i))])
    (kk : ∀ (σ2 : sm_St) (H2 : Heap) (locs2 : List Loc), w_Al σ2 → va_P D vc6 (sm_ws ρ cI cF σ2) H2 → va_D (lw_A s) (sm_ws ρ cI cF σ2) → va_S (lw_A s) s.heap H2 locs2 → W p l e room_1 s m #[Value.ref b] below meth c H2 locs2 cells slots (lw_Z below #[Value.ref b] s) (F0 m 891 ls [])) : W p l e room_1 s m #[Value.ref b] below meth c H locs cells slots (lw_Z below #[Value.ref b] s) (F0 m 855 ls []) := by
  obtain ⟨hx, hb, hr, hml, hown, hts, hX, hbl, hlocks, hgv⟩ := C0
  have x5 : ∀ w ∈ gw, w.before #[Value.ref b] s = true := fun w hw => hts w (List.mem_filter.mp hw).1
  have hA : ∀ q : Nat, s.heap.size ≤ q → lw_A s q := fun _ h => h
  have hbA : ¬ lw_A s b := Nat.not_le.mpr hbl
  obtain ⟨a, σ1, σ2, h5, h6, hJ2⟩ := j_back hJ 
  refine lv_aload_n hx hb dL_law_855 rfl (lv_at hl 1 rfl) ?_
  refine lw_callV (own := RL) (ρ := ρ) (k := 96) (ci := 4) (as := []) (st := []) hx hb hml hown x5 hK hG hA dL_law_856 lV_L_125 h5 rfl rfl rfl rfl hl.1 (Nat.le_of_ble_eq_true rfl) (Nat.le_of_ble_eq_true rfl) hcs (Nat.le_of_ble_eq_true rfl) hP hD hS (fun H1 locs1 hP1 hD1 hS1 => ?_)
  refine lv_aload_n hx hb dL_law_859 rfl (lv_at hl 2 rfl) ?_
  refine lw_callV (own := RL) (ρ := ρ) (k := 110) (ci := 5) (as := []) (st := [.int a]) hx hb hml hown x5 hK hG hA dL_law_860 lV_L_128 h6 rfl rfl rfl rfl hl.1 (Nat.le_of_ble_eq_true rfl) (Nat.le_of_ble_eq_true rfl) hcs (Nat.le_of_ble_eq_true rfl) hP1 hD1 hS1 (fun H2 locs2 hP2 hD2 hS2 => ?_)
  exact lv_icmp_eq (tgt := 891) hx hb dL_law_863 (by decide) (fun _ => kk σ2 H2 locs2 hJ2 hP2 hD2 hS2) (fun h => absurd rfl h)
set_option maxHeartbeats 2000000 in
theorem law_t28 (hL : L ≤ 256) (C0 : lw_At p s m meth c b L xs) (hK : va_K D vc6 (sm_ty cI cF) s) (hG : sm_G ρ (lw_A s) s s.heap) (hcs : cells ≤ 600000 ∧ slots ≤ 7302250) (hi : i + 4 ≤ L) (hJ : w_Al σ) (hP : va_P D vc6 (sm_ws ρ cI cF σ) H) (hD : va_D (lw_A s) (sm_ws ρ cI cF σ)) (hS : va_S (lw_A s) s.heap H locs) (hl : lv_has ls 4 [(0, .ref b), (1, .ref (ρ 96)), (2, .ref (ρ 110)), (3, .int (nI i))])
    (kk : ∀ (σ2 : sm_St) (H2 : Heap) (locs2 : List Loc), w_Al σ2 → va_P D vc6 (sm_ws ρ cI cF σ2) H2 → va_D (lw_A s) (sm_ws ρ cI cF σ2) → va_S (lw_A s) s.heap H2 locs2 → W p l e room_1 s m #[Value.ref b] below meth c H2 locs2 cells slots (lw_Z below #[Value.ref b] s) (F0 m 891 ls [])) : W p l e room_1 s m #[Value.ref b] below meth c H locs cells slots (lw_Z below #[Value.ref b] s) (F0 m 868 ls []) := by
  obtain ⟨hx, hb, hr, hml, hown, hts, hX, hbl, hlocks, hgv⟩ := C0
  have x5 : ∀ w ∈ gw, w.before #[Value.ref b] s = true := fun w hw => hts w (List.mem_filter.mp hw).1
  have hA : ∀ q : Nat, s.heap.size ≤ q → lw_A s q := fun _ h => h
  have hbA : ¬ lw_A s b := Nat.not_le.mpr hbl
  obtain ⟨a, σ1, σ2, h5, h6, hJ2⟩ := j_count hJ (xs (nI i + 1).toNatClampNeg)
  refine lv_aload_n hx hb dL_law_868 rfl (lv_at hl 1 rfl) ?_
  refine lv_aload_n hx hb dL_law_869 rfl (lv_at hl 0 rfl) ?_
  refine lv_iload_n hx hb dL_law_870 rfl (lv_at hl 3 rfl) ?_
  refine lv_iconst (v := 1) hx hb dL_law_871 (by decide) ?_
  refine lv_iadd hx hb dL_law_872 ?_
  refine va_sld hx hb hX hbl hbA hS (lw_v (k := 1) (j := 1) rfl (by decide) hi hL) dL_law_873 ?_
  refine lw_callV (own := RL) (ρ := ρ) (k := 96) (ci := 4) (as := [.int (xs (nI i + 1).toNatClampNeg)]) (st := []) hx hb hml hown x5 hK hG hA dL_law_874 lV_L_129 h5 rfl rfl rfl rfl hl.1 (Nat.le_of_ble_eq_true rfl) (Nat.le_of_ble_eq_true rfl) hcs (Nat.le_of_ble_eq_true rfl) hP hD hS (fun H1 locs1 hP1 hD1 hS1 => ?_)
  refine lv_aload_n hx hb dL_law_877 rfl (lv_at hl 2 rfl) ?_
  refine lv_aload_n hx hb dL_law_878 rfl (lv_at hl 0 rfl) ?_
  refine lv_iload_n hx hb dL_law_879 rfl (lv_at hl 3 rfl) ?_
  refine lv_iconst (v := 1) hx hb dL_law_880 (by decide) ?_
  refine lv_iadd hx hb dL_law_881 ?_
  refine va_sld hx hb hX hbl hbA hS1 (lw_v (k := 1) (j := 1) rfl (by decide) hi hL) dL_law_882 ?_
  refine lw_callV (own := RL) (ρ := ρ) (k := 110) (ci := 5) (as := [.int (xs (nI i + 1).toNatClampNeg)]) (st := [.int a]) hx hb hml hown x5 hK hG hA dL_law_883 lV_L_132 h6 rfl rfl rfl rfl hl.1 (Nat.le_of_ble_eq_true rfl) (Nat.le_of_ble_eq_true rfl) hcs (Nat.le_of_ble_eq_true rfl) hP1 hD1 hS1 (fun H2 locs2 hP2 hD2 hS2 => ?_)
  exact lv_icmp_eq (tgt := 891) hx hb dL_law_886 (by decide) (fun _ => kk σ2 H2 locs2 hJ2 hP2 hD2 hS2) (fun h => absurd rfl h)
end

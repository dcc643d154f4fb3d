/-! the constructor of SmellMoorings -/
theorem lo_SM : Cond.methodLink RX5 1 objectInit ∈ gw := List.mem_filter.mpr ⟨by decide +kernel, by decide +kernel⟩
theorem ln_Text : Cond.classLink RX5 7 RX4 ∈ gw ∧ Cond.instantiable RX4 4 ∈ gw ∧ Cond.initialized RX4 ∈ gw := ⟨List.mem_filter.mpr ⟨by decide +kernel, by decide +kernel⟩, List.mem_filter.mpr ⟨by decide +kernel, by decide +kernel⟩, List.mem_filter.mpr ⟨by decide +kernel, by decide +kernel⟩⟩
theorem ln_Field : Cond.classLink RX5 16 RX0 ∈ gw ∧ Cond.instantiable RX0 17 ∈ gw ∧ Cond.initialized RX0 ∈ gw := ⟨List.mem_filter.mpr ⟨by decide +kernel, by decide +kernel⟩, List.mem_filter.mpr ⟨by decide +kernel, by decide +kernel⟩, List.mem_filter.mpr ⟨by decide +kernel, by decide +kernel⟩⟩
theorem ln_Sight : Cond.classLink RX5 26 RX3 ∈ gw ∧ Cond.instantiable RX3 4 ∈ gw ∧ Cond.initialized RX3 ∈ gw := ⟨List.mem_filter.mpr ⟨by decide +kernel, by decide +kernel⟩, List.mem_filter.mpr ⟨by decide +kernel, by decide +kernel⟩, List.mem_filter.mpr ⟨by decide +kernel, by decide +kernel⟩⟩
theorem ln_Pile : Cond.classLink RX5 33 RX1 ∈ gw ∧ Cond.instantiable RX1 3 ∈ gw ∧ Cond.initialized RX1 ∈ gw := ⟨List.mem_filter.mpr ⟨by decide +kernel, by decide +kernel⟩, List.mem_filter.mpr ⟨by decide +kernel, by decide +kernel⟩, List.mem_filter.mpr ⟨by decide +kernel, by decide +kernel⟩⟩
theorem lm_PileI : Cond.methodLink RX5 35 yX1_init ∈ gw := List.mem_filter.mpr ⟨by decide +kernel, by decide +kernel⟩
theorem lk_SM_10 : sm_fl RX5 10 4 0 := ⟨by decide, by decide, List.mem_filter.mpr ⟨by decide +kernel, by decide +kernel⟩⟩
theorem lk_SM_19 : sm_fl RX5 19 4 1 := ⟨by decide, by decide, List.mem_filter.mpr ⟨by decide +kernel, by decide +kernel⟩⟩
theorem lk_SM_23 : sm_fl RX5 23 4 2 := ⟨by decide, by decide, List.mem_filter.mpr ⟨by decide +kernel, by decide +kernel⟩⟩
theorem lk_SM_29 : sm_fl RX5 29 4 3 := ⟨by decide, by decide, List.mem_filter.mpr ⟨by decide +kernel, by decide +kernel⟩⟩
theorem lk_SM_38 : sm_fl RX5 38 4 4 := ⟨by decide, by decide, List.mem_filter.mpr ⟨by decide +kernel, by decide +kernel⟩⟩
theorem lk_SM_42 : sm_fl RX5 42 4 5 := ⟨by decide, by decide, List.mem_filter.mpr ⟨by decide +kernel, by decide +kernel⟩⟩
theorem lk_SM_45 : sm_fl RX5 45 4 6 := ⟨by decide, by decide, List.mem_filter.mpr ⟨by decide +kernel, by decide +kernel⟩⟩
theorem lk_SM_49 : sm_fl RX5 49 4 7 := ⟨by decide, by decide, List.mem_filter.mpr ⟨by decide +kernel, by decide +kernel⟩⟩
theorem lk_SM_72 : sm_fl RX5 72 3 2 := ⟨by decide, by decide, List.mem_filter.mpr ⟨by decide +kernel, by decide +kernel⟩⟩
theorem lv_54 : sm_lV RX5 54 yJ0_length_8abf5 cJ0_length_8abf5 1 (some .int) 0 := ⟨⟨List.mem_filter.mpr ⟨by decide +kernel, by decide +kernel⟩, List.mem_filter.mpr ⟨by decide +kernel, by decide +kernel⟩, List.mem_filter.mpr ⟨by decide +kernel, by decide +kernel⟩, List.mem_filter.mpr ⟨by decide +kernel, by decide +kernel⟩, List.mem_filter.mpr ⟨by decide +kernel, by decide +kernel⟩⟩, ⟨by decide, by decide, by decide +kernel⟩, by decide⟩
theorem lv_60 : sm_lV RX5 60 yJ0_charAt_5068e cJ0_charAt_5068e 2 (some .char) 1 := ⟨⟨List.mem_filter.mpr ⟨by decide +kernel, by decide +kernel⟩, List.mem_filter.mpr ⟨by decide +kernel, by decide +kernel⟩, List.mem_filter.mpr ⟨by decide +kernel, by decide +kernel⟩, List.mem_filter.mpr ⟨by decide +kernel, by decide +kernel⟩, List.mem_filter.mpr ⟨by decide +kernel, by decide +kernel⟩⟩, ⟨by decide, by decide, by decide +kernel⟩, by decide⟩
theorem lv_64 : sm_lV RX5 64 yX4_addLetter cX4_addLetter 2 (some .boolean) 1 := ⟨⟨List.mem_filter.mpr ⟨by decide +kernel, by decide +kernel⟩, List.mem_filter.mpr ⟨by decide +kernel, by decide +kernel⟩, List.mem_filter.mpr ⟨by decide +kernel, by decide +kernel⟩, List.mem_filter.mpr ⟨by decide +kernel, by decide +kernel⟩, List.mem_filter.mpr ⟨by decide +kernel, by decide +kernel⟩⟩, ⟨by decide, by decide, by decide +kernel⟩, by decide⟩
theorem lv_68 : sm_lV RX5 68 yX4_readInto cX4_readInto 4 (some .int) 1 := ⟨⟨List.mem_filter.mpr ⟨by decide +kernel, by decide +kernel⟩, List.mem_filter.mpr ⟨by decide +kernel, by decide +kernel⟩, List.mem_filter.mpr ⟨by decide +kernel, by decide +kernel⟩, List.mem_filter.mpr ⟨by decide +kernel, by decide +kernel⟩, List.mem_filter.mpr ⟨by decide +kernel, by decide +kernel⟩⟩, ⟨by decide, by decide, by decide +kernel⟩, by decide⟩
/-- numbers with n letters of the first text written -/
def s_lett : Nat → sm_St
  | 0 => fun _ _ => 0
  | n + 1 => sm_set (sm_set (s_lett n) 98 n (sx_b.getD n 0)) 97 2 (nI (n + 1))
theorem s_lett_2 : ∀ n, s_lett n 97 2 = nI n
  | 0 => rfl
  | n + 1 => sm_set_eq
def s_first : sm_St := sm_set (x_into (s_lett 75) 0).2 97 2 0
/-- what the constructor of SmellMoorings needs of the start -/
def sk_E (ρ0 adK adV : Nat → Nat) (A : Nat → Prop) (U : State) (H : Heap) : Prop := sm_G ρ0 A U H ∧ sx_S adK adV A U H ∧ vk_R RX5 52 "s4,4,2;w2,1;p1,4,0;p7,2,1;p4,7,2;p8,8,0;c0,0,6;c1,1,3;c2,2,1;c3,0,5;c0,1,9;" (adK 0) U ∧ sk_N U ∧ va_Nw (.methodLinkNest RX5 9 yX4_init RX5) U ∧ va_Nw (.methodLinkNest RX5 18 yX0_init RX5) U ∧ va_Nw (.methodLinkNest RX5 28 yX3_init RX5) U
theorem sk_E.warm {ρ0 adK adV : Nat → Nat} {A A1 : Nat → Prop} {s U : State} {H : Heap} {locs : List Loc} (h : sk_E ρ0 adK adV A s s.heap) (hW : s.WarmedH U.vm) (hS : va_S A s.heap H locs) (hA : ∀ q, A1 q → A q) : sk_E ρ0 adK adV A1 U H := by
  obtain ⟨h1, h2, h3, h4, h5, h6, h7⟩ := h
  exact ⟨h1.warm hW hS hA, h2.warm hW hS hA, h3.warm hW, h4.warm hW, va_Nw.warmM hW h5, va_Nw.warmM hW h6, va_Nw.warmM hW h7⟩
theorem sm_G_e {ρ ρ0 : Nat → Nat} {A : Nat → Prop} {U : State} {H : Heap} (a : ρ 200 = ρ0 200) (b : ρ 201 = ρ0 201) (h : sm_G ρ0 A U H) : sm_G ρ A U H := by
  unfold sm_G at h ⊢
  rw [a, b]
  exact h
def sk_PcE (ρ0 adK adV : Nat → Nat) (D : va_G) (cI cF : ClassId) (as : List Value) (ws : va_W) (sz : Nat) : Array Value → State → Prop := va_Pc as (fun U => U.heap.size = sz ∧ va_P D vc6 ws U.heap ∧ va_K D vc6 (sm_ty cI cF) U ∧ va_D (fun _ => True) ws ∧ sk_E ρ0 adK adV (va_A ws sz) U U.heap)
theorem sk_blindE {ρ0 adK adV : Nat → Nat} {D : va_G} {cI cF : ClassId} {as : List Value} {ws : va_W} {sz : Nat} : FrameBlind (sk_PcE ρ0 adK adV D cI cF as ws sz) := by
  intro a U g mk h
  obtain ⟨h0, h1, h2, h3, h4, h5, h6, h7, h8, h9, h10, h11⟩ := h
  exact ⟨h0, h1, h2, va_K.moved (u := U) (U := U.calling g mk a) (Vm.Alike.refl U.vm) h3, h4, sm_G.same (u := U) (U := U.calling g mk a) h5 rfl, h6.moved (u := U) (U := U.calling g mk a) (Vm.Alike.refl U.vm), vk_R.same (u := U) (U := U.calling g mk a) rfl h7, ⟨h8.1.moved (u := U) (U := U.calling g mk a) (Vm.Alike.refl U.vm), h8.2.same rfl rfl⟩, h9.same rfl rfl, h10.same rfl rfl, h11.same rfl rfl⟩
def sk_QE (ρ0 : Nat → Nat) (D : va_G) (cI cF : ClassId) (A : Nat → Prop) (h0 : Nat) : Array Value → State → Outcome → State → Prop := va_Qv (fun ρ : Nat → Nat => ρ 96 = h0 ∧ ρ 200 = ρ0 200 ∧ ρ 201 = ρ0 201) (fun ρ t => va_P D vc6 (n_sm_ws ρ cI cF s_first) t.heap ∧ va_K D vc6 (sm_ty cI cF) t ∧ va_D A (n_sm_ws ρ cI cF s_first)) A

set_option maxHeartbeats 4000000 in
set_option maxRecDepth 100000 in
theorem l_SM {p : Program} {l : Launch} {e : Env} {s : State} {m : MethodId} {args : Array Value} {below : List Frame} {meth : Method} {c : Code} {D : va_G} {A : Nat → Prop} {cI cF : ClassId} {R : Room} {Q : State → Prop} {ρ ρ0 adK adV : Nat → Nat} (x1 : p.tables.exec = Jvm.exec) (x2 : c.code = cX5_init) (x3 : c.maxLocals = 2) (x4 : s.vm.findClass RX5 = some m.cls) (x5 : ∀ w ∈ gw, w.before args s = true) (hK : va_K D vc6 (sm_ty cI cF) s) (hE : sk_E ρ0 adK adV A s s.heap) (h200 : ρ 200 = ρ0 200) (h201 : ρ 201 = ρ0 201) (hA : ∀ q : Nat, s.heap.size ≤ q → A q) (hR : 8 ≤ R.frames ∧ 320 ≤ R.locals) {cells slots : Nat} (hcs : cells ≤ R.cells ∧ slots ≤ R.slots)
    (kk : ∀ (H : Heap) (locs : List Loc) (ls : Array Slot), va_P D vc6 (n_sm_ws ρ cI cF s_first) H → va_D A (n_sm_ws ρ cI cF s_first) → va_S A s.heap H locs → W p l e R s m args below meth c H locs cells slots Q (F0 m 140 ls [])) :
    ∀ (n i : Nat) (H : Heap) (locs : List Loc) (ls : Array Slot), i + n = 75 → va_P D vc6 (n_sm_ws ρ cI cF (s_lett i)) H → va_D A (n_sm_ws ρ cI cF (s_lett i)) → va_S A s.heap H locs → lv_has ls 2 [(0, .ref (ρ 96)), (1, .int (nI i))] → W p l e R s m args below meth c H locs cells slots Q (F0 m 91 ls []) := by
  obtain ⟨hG0, hX, hR52, -⟩ := id hE
  have hG := sm_G_e h200 h201 hG0
  have hgt : ∀ {σ : sm_St} {H : Heap} {locs : List Loc} {ls : Array Slot} {st : List Value} {pc idx j : Nat}, sm_fl RX5 idx 4 j → va_P D vc6 (n_sm_ws ρ cI cF σ) H → va_S A s.heap H locs → decode cX5_init pc = .ok (.getfield idx, 3) → W p l e R s m args below meth c H locs cells slots Q (F0 m (pc + 3) ls (sm_fv ρ σ 4 96 j :: st)) → W p l e R s m args below meth c H locs cells slots Q (F0 m pc ls (.ref (ρ 96) :: st)) := fun {σ H locs ls st pc idx j} hf hP hS hd k => by
    refine va_get (D := D) (ws := n_sm_ws ρ cI cF σ) (C := RX5) (T := TX5) (N := 8) (ref := (TX5 j).1) (fs := (List.range 8).map (sm_fv ρ σ 4 96)) x1 x2 (Ts := gw) x5 (sm_in 4 (by decide)) x4 hK hP 96 (ci := 4) ((n_sm_ws_at (by decide)).trans (by rw [n_sm_cel_o (ci := 4) rfl]; rfl)) rfl j hf.2.1 (x5 _ hf.2.2) (fun _ h => h) (v := sm_fv ρ σ 4 96 j) ?_ hd k
    rw [List.getElem?_map, List.getElem?_range (show j < 8 from hf.2.1)]
    rfl
  intro n
  induction n with
  | zero =>
    intro i H locs ls hi hP hD hS hl
    obtain rfl : i = 75 := by omega
    refine lv_iload_n x1 x2 dX5_init_91 rfl (lv_at hl 1 rfl) ?_
    refine va_ldcS x1 x2 x4 hR52 dX5_init_92 ?_
    refine sx_callV (as := []) (st := [.int (nI 75)]) x1 x2 x3 x4 x5 hX dX5_init_94 lv_54 c_slength rfl rfl rfl hl.1 (by omega) (by omega) hcs (Nat.le_of_ble_eq_true rfl) hS hA (fun H1 locs1 ho hS1 => ?_)
    have hP1 : va_P D vc6 (n_sm_ws ρ cI cF (s_lett 75)) H1 := hP.kept (fun k q hk => ho q.1 (hP k q hk).lt)
    refine lv_icmp_ge (tgt := 120) x1 x2 dX5_init_97 (by decide) (fun _ => ?_) (fun h => absurd (Int32.le_refl (nI 75)) h)
    refine lv_aload_n x1 x2 dX5_init_120 rfl (lv_at hl 0 rfl) ?_
    refine hgt lk_SM_10 hP1 hS1 dX5_init_121 ?_
    refine lv_aload_n x1 x2 dX5_init_124 rfl (lv_at hl 0 rfl) ?_
    refine hgt lk_SM_19 hP1 hS1 dX5_init_125 ?_
    refine n_lw_callV (ρ := ρ) (k := 97) (ci := 3) (as := [.ref 0]) (st := []) x1 x2 x3 x4 x5 hK hG hA dX5_init_128 lv_68 (n_c_readInto (σ := s_lett 75) sm_isF0) rfl rfl rfl rfl hl.1 (by omega) (by omega) hcs (Nat.le_of_ble_eq_true rfl) hP1 hD hS1 (fun H2 locs2 hP2 hD2 hS2 => ?_)
    refine lv_pop x1 x2 dX5_init_131 rfl ?_
    refine lv_aload_n x1 x2 dX5_init_132 rfl (lv_at hl 0 rfl) ?_
    refine hgt lk_SM_10 hP2 hS2 dX5_init_133 ?_
    refine lv_iconst (v := 0) x1 x2 dX5_init_136 (by decide) ?_
    refine va_put (D := D) (ws := n_sm_ws ρ cI cF (x_into (s_lett 75) 0).2) (C := RX4) (T := TX4) (N := 4) (ref := (TX4 2).1) (fs := (List.range 4).map (sm_fv ρ (x_into (s_lett 75) 0).2 3 97)) (v := .int 0) (ty := .int) x1 x2 (Ts := gw) x5 (sm_in 3 (by decide)) tyX4 tyX4_ok nmX4 x4 hK hP2 hD2 hS2 97 (ci := 3) ((n_sm_ws_at (by decide)).trans (by rw [n_sm_cel_o (ci := 3) rfl]; rfl)) rfl 2 (by decide) (x5 _ lk_SM_72.2.2) (fun _ h => h) rfl (by decide +kernel) rfl rfl (by simp) dX5_init_137 (fun H3 locs3 hP3 hD3 hS3 => ?_)
    have e : (n_sm_ws ρ cI cF (x_into (s_lett 75) 0).2).set 97 (ρ 97, .inr (3, ((List.range 4).map (sm_fv ρ (x_into (s_lett 75) 0).2 3 97)).set 2 (.int 0))) = n_sm_ws ρ cI cF s_first := n_sm_ws_put (ci := 3) (i := 2) rfl rfl (by decide)
    have hP3 : va_P D vc6 (n_sm_ws ρ cI cF s_first) H3 := e ▸ hP3
    have hD3 : va_D A (n_sm_ws ρ cI cF s_first) := e ▸ hD3
    exact kk H3 locs3 ls hP3 hD3 hS3
  | succ n ih =>
    intro i H locs ls hi hP hD hS hl
    have hi75 : i < 75 := by omega
    refine lv_iload_n x1 x2 dX5_init_91 rfl (lv_at hl 1 rfl) ?_
    refine va_ldcS x1 x2 x4 hR52 dX5_init_92 ?_
    refine sx_callV (as := []) (st := [.int (nI i)]) x1 x2 x3 x4 x5 hX dX5_init_94 lv_54 c_slength rfl rfl rfl hl.1 (by omega) (by omega) hcs (Nat.le_of_ble_eq_true rfl) hS hA (fun H1 locs1 ho hS1 => ?_)
    have hP1 : va_P D vc6 (n_sm_ws ρ cI cF (s_lett i)) H1 := hP.kept (fun k q hk => ho q.1 (hP k q hk).lt)
    refine lv_icmp_ge (tgt := 120) x1 x2 dX5_init_97 (by decide) (fun h => absurd ((nI_leI (by decide) (by omega)).mp (show nI 75 ≤ nI i from h)) (by omega)) (fun _ => ?_)
    refine lv_aload_n x1 x2 dX5_init_100 rfl (lv_at hl 0 rfl) ?_
    refine hgt lk_SM_10 hP1 hS1 dX5_init_101 ?_
    refine va_ldcS x1 x2 x4 hR52 dX5_init_104 ?_
    refine lv_iload_n x1 x2 dX5_init_106 rfl (lv_at hl 1 rfl) ?_
    refine sx_callV (as := [.int (nI i)]) (st := [.ref (ρ 97)]) x1 x2 x3 x4 x5 hX dX5_init_107 lv_60 (c_charAt hi75) rfl rfl rfl hl.1 (by omega) (by omega) hcs (Nat.le_of_ble_eq_true rfl) hS1 hA (fun H2 locs2 ho2 hS2 => ?_)
    have hP2 : va_P D vc6 (n_sm_ws ρ cI cF (s_lett i)) H2 := hP1.kept (fun k q hk => ho2 q.1 (hP1 k q hk).lt)
    refine n_lw_callV (ρ := ρ) (k := 97) (ci := 3) (as := [.int (sx_b.getD i 0)]) (st := []) x1 x2 x3 x4 x5 hK hG hA dX5_init_110 lv_64 (n_c_addLetter (σ := s_lett i) (sx_b.getD i 0)) rfl rfl rfl rfl hl.1 (by omega) (by omega) hcs (Nat.le_of_ble_eq_true rfl) hP2 hD hS2 (fun H3 locs3 hP3 hD3 hS3 => ?_)
    have e : (if s_lett i 97 2 < nI 200 then sm_set (r_set (s_lett i) 98 200 (s_lett i 97 2) (sx_b.getD i 0)) 97 2 (s_lett i 97 2 + 1) else s_lett i) = s_lett (i + 1) := by
      rw [s_lett_2, if_pos ((nI_ltI (by omega) (by decide)).mpr (by omega)), r_set_nI rfl (show i < 200 by omega) (by decide), nI_1]
      rfl
    rw [e] at hP3 hD3
    refine lv_pop x1 x2 dX5_init_113 rfl ?_
    refine lv_iinc (v := nI (i + 1)) (lv' := [(1, .int (nI (i + 1))), (0, .ref (ρ 96))]) x1 x2 dX5_init_114 hl (k := 1) rfl (nI_1 i) (by decide) rfl (fun ls hl => ?_)
    refine lv_goto (tgt := 91) x1 x2 dX5_init_117 (by decide) ?_
    exact ih (i + 1) H3 locs3 ls (by omega) hP3 hD3 hS3 (lv_sub hl [1, 0] rfl)

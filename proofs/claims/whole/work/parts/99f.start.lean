/-! the law from its entry: both made, then the loop -/
theorem li_SM : Cond.initialized yX5_init.cls ∈ gw ∧ Cond.code yX5_init cX5_init 2 none ∈ gw ∧ Cond.instanceMethod yX5_init ∈ gw := ⟨List.mem_filter.mpr ⟨by decide +kernel, by decide +kernel⟩, List.mem_filter.mpr ⟨by decide +kernel, by decide +kernel⟩, List.mem_filter.mpr ⟨by decide +kernel, by decide +kernel⟩⟩
theorem li_M : Cond.initialized yX6_init.cls ∈ gw ∧ Cond.code yX6_init cX6_init 1 none ∈ gw ∧ Cond.instanceMethod yX6_init ∈ gw := ⟨List.mem_filter.mpr ⟨by decide +kernel, by decide +kernel⟩, List.mem_filter.mpr ⟨by decide +kernel, by decide +kernel⟩, List.mem_filter.mpr ⟨by decide +kernel, by decide +kernel⟩⟩
theorem lm_L9 : Cond.methodLink RL 9 yX5_init ∈ gw := List.mem_filter.mpr ⟨by decide +kernel, by decide +kernel⟩
theorem lm_L12 : Cond.methodLink RL 12 yX6_init ∈ gw := List.mem_filter.mpr ⟨by decide +kernel, by decide +kernel⟩
theorem ln_SM : Cond.classLink RL 7 RX5 ∈ gw ∧ Cond.instantiable RX5 8 ∈ gw ∧ Cond.initialized RX5 ∈ gw := ⟨List.mem_filter.mpr ⟨by decide +kernel, by decide +kernel⟩, List.mem_filter.mpr ⟨by decide +kernel, by decide +kernel⟩, List.mem_filter.mpr ⟨by decide +kernel, by decide +kernel⟩⟩
theorem ln_M : Cond.classLink RL 10 RX6 ∈ gw ∧ Cond.instantiable RX6 35 ∈ gw ∧ Cond.initialized RX6 ∈ gw := ⟨List.mem_filter.mpr ⟨by decide +kernel, by decide +kernel⟩, List.mem_filter.mpr ⟨by decide +kernel, by decide +kernel⟩, List.mem_filter.mpr ⟨by decide +kernel, by decide +kernel⟩⟩
theorem rot_at {a : va_W} {x q : Nat × va_E} {k : Nat} (h : (x :: a)[k]? = some q) : (a ++ [x])[if k = 0 then a.length else k - 1]? = some q := by
  match k, h with
  | 0, h =>
    rw [if_pos rfl]
    have := sk_at (a := a) (b := [x]) (k := 0) (q := q) h
    exact this
  | k + 1, h =>
    rw [if_neg (by omega)]
    exact sk_atL (b := [x]) h
theorem rot_P {D : va_G} {cl : List vw_C} {a : va_W} {x : Nat × va_E} {H : Heap} (h : va_P D cl (a ++ [x]) H) : va_P D cl (x :: a) H := fun k q hk => h _ q (rot_at hk)
theorem rot_D {A : Nat → Prop} {a : va_W} {x : Nat × va_E} (h : va_D A (a ++ [x])) : va_D A (x :: a) := by
  refine ⟨fun i j p q hi hj e => ?_, fun k q hk => h.2 _ q (rot_at hk)⟩
  have hlt : ∀ {k : Nat} {q : Nat × va_E}, (x :: a)[k]? = some q → k < a.length + 1 := fun hk => (List.getElem?_eq_some_iff.mp hk).1
  have h1 := hlt hi
  have h2 := hlt hj
  have h3 := h.1 _ _ p q (rot_at hi) (rot_at hj) e
  by_cases a0 : i = 0
  · by_cases b0 : j = 0
    · omega
    · rw [if_pos a0, if_neg b0] at h3
      omega
  · by_cases b0 : j = 0
    · rw [if_neg a0, if_pos b0] at h3
      omega
    · rw [if_neg a0, if_neg b0] at h3
      omega
theorem w_free {A : Nat → Prop} {c : va_W} {s : State} {H : Heap} {locs : List Loc} (hD : va_D A c) (hS : va_S A s.heap H locs) (hA : ∀ q : Nat, s.heap.size ≤ q → A q) : ∀ q, va_A c H.size q → A q := fun q h => by
  rcases h with ⟨k, e, h⟩ | h
  · exact hD.2 k _ h
  · exact hA q (Nat.le_trans hS.1 h)
/-- what the Statement gives of the start -/
theorem w_given {s : State} {b : Nat} (hts : ∀ w ∈ lw_tbl, w.before #[Value.ref b] s = true) (hgv : (Jvm.Cond.and given_1 narrow_1).before #[Value.ref b] s = true) : ∃ ρ0 adK adV : Nat → Nat, sk_E ρ0 adK adV (lw_A s) s s.heap := by
  have hf := flat_of_before _ hgv
  have hA0 : ∀ a : Nat, a < s.heap.size → ¬ lw_A s a := fun a h => Nat.not_le.mpr h
  have x5 : ∀ w ∈ gw, w.before #[Value.ref b] s = true := fun w hw => hts w (List.mem_filter.mp hw).1
  have qx : ∀ j, j < 5 → Cond.eq (.elem (.static RX0 "STEP_X" "[I") (.int (Int32.ofNat j))) (.int (sm_sx j)) ∈ flatC (Jvm.Cond.and given_1 narrow_1) := by decide +kernel
  have qy : ∀ j, j < 5 → Cond.eq (.elem (.static RX0 "STEP_Y" "[I") (.int (Int32.ofNat j))) (.int (sm_sy j)) ∈ flatC (Jvm.Cond.and given_1 narrow_1) := by decide +kernel
  have qs : ∀ j, j < 75 → Cond.eq (.elem (.field (.string RX5 52) "java/lang/String" "value" "[B") (.int (Int32.ofNat j))) (.int (sx_b.getD j 0)) ∈ flatC (Jvm.Cond.and given_1 narrow_1) := by decide +kernel
  obtain ⟨tx, ex, hTx⟩ := va_Tof (args := #[Value.ref b]) (s := s) (tm := .static RX0 "STEP_X" "[I") (ty := .int) (N := 5) (f := fun j => .int (sm_sx j)) (A := lw_A s) (by decide) (hf _ (by decide +kernel)) (va_eqt (z := 5) (hf _ (by decide +kernel))) (fun j hj => va_eqt (hf _ (qx j hj))) hA0
  obtain ⟨ty, ey, hTy⟩ := va_Tof (args := #[Value.ref b]) (s := s) (tm := .static RX0 "STEP_Y" "[I") (ty := .int) (N := 5) (f := fun j => .int (sm_sy j)) (A := lw_A s) (by decide) (hf _ (by decide +kernel)) (va_eqt (z := 5) (hf _ (by decide +kernel))) (fun j hj => va_eqt (hf _ (qy j hj))) hA0
  have hZx : va_Z RX0 "STEP_X" "[I" (.ref tx) (lw_A s) s s.heap := va_Zof (hts (.laysStatic RX0 "STEP_X" "[I") (by decide +kernel)) (hts (.initialized RX0) (by decide +kernel)) ex hA0
  have hZy : va_Z RX0 "STEP_Y" "[I" (.ref ty) (lw_A s) s s.heap := va_Zof (hts (.laysStatic RX0 "STEP_Y" "[I") (by decide +kernel)) (hts (.initialized RX0) (by decide +kernel)) ey hA0
  obtain ⟨adK, adV, hSt, hev⟩ := vk_Sof (args := #[Value.ref b]) (s := s) (N := 1) (tm := fun _ => .string RX5 52) (len := sx_len) (byt := sx_byt) (A := lw_A s)
    (fun i hi => by obtain rfl : i = 0 := by omega
                    decide)
    (fun i hi => hf _ (by decide +kernel)) (fun i hi => hf _ (by decide +kernel)) (fun i hi => hf _ (by decide +kernel))
    (fun i hi => by obtain rfl : i = 0 := by omega
                    exact hf _ (by decide +kernel))
    (fun i hi j hj => by obtain rfl : i = 0 := by omega
                         exact hf _ (qs j hj))
    (fun i j hi hj hne => absurd (show i = j by omega) hne) hA0
  have hC : va_Z "java/lang/String" "COMPACT_STRINGS" "Z" (.int 1) (lw_A s) s s.heap := va_Zof (hts (.laysStatic "java/lang/String" "COMPACT_STRINGS" "Z") (by decide +kernel)) (hts (.initialized "java/lang/String") (by decide +kernel)) (va_eqt (hf _ (by decide +kernel))) hA0
  have hQ : va_Zq "jdk/internal/util/Preconditions" "SIOOBE_FORMATTER" "Ljava/util/function/BiFunction;" (lw_A s) s s.heap := va_Zqof (hts (.laysStatic "jdk/internal/util/Preconditions" "SIOOBE_FORMATTER" "Ljava/util/function/BiFunction;") (by decide +kernel)) (hts (.initialized "jdk/internal/util/Preconditions") (by decide +kernel)) (hf _ (by decide +kernel)) hA0
  refine ⟨fun k => if k = 200 then tx else ty, adK, adV, ⟨⟨hZx, hTx⟩, ⟨hZy, hTy⟩, va_Nw.of rfl (hts (.methodLinkNest RX0 121 yX5_isCell RX5) (by decide +kernel)), va_Nw.of rfl (hts (.methodLinkNest RX4 65 yX5_within RX5) (by decide +kernel)), va_Nw.of rfl (hts (.methodLinkNest RX4 75 yX5_isCell RX5) (by decide +kernel))⟩, ⟨hSt, hC, hQ⟩, vk_R.of (hts (.stringRef RX5 52 "s4,4,2;w2,1;p1,4,0;p7,2,1;p4,7,2;p8,8,0;c0,0,6;c1,1,3;c2,2,1;c3,0,5;c0,1,9;") (by decide +kernel)) (hev 0 (by decide)), ⟨va_AO.of (hts (.arrayOver (.object RX0)) (by decide +kernel)), va_Nw.of rfl (hts (.methodLinkNest RX1 21 yX0_init RX5) (by decide +kernel))⟩, va_Nw.of rfl (hts (.methodLinkNest RX5 9 yX4_init RX5) (by decide +kernel)), va_Nw.of rfl (hts (.methodLinkNest RX5 18 yX0_init RX5) (by decide +kernel)), va_Nw.of rfl (hts (.methodLinkNest RX5 28 yX3_init RX5) (by decide +kernel))⟩
theorem w_known {s : State} {b : Nat} (hts : ∀ w ∈ lw_tbl, w.before #[Value.ref b] s = true) : ∃ (D : va_G) (cI cF : ClassId), va_K D vc6 (sm_ty cI cF) s := by
  have x5 : ∀ w ∈ gw, w.before #[Value.ref b] s = true := fun w hw => hts w (List.mem_filter.mp hw).1
  obtain ⟨c0, i0, h0⟩ := u_known (C := RX0) (T := TX0) (N := 17) (n := 17) x5 (sm_in 0 (by decide)) (x5 _ ln_Field.2.1)
  obtain ⟨c1, i1, h1⟩ := u_known (C := RX1) (T := TX1) (N := 3) (n := 3) x5 (sm_in 1 (by decide)) (x5 _ ln_Pile.2.1)
  obtain ⟨c2, i2, h2⟩ := u_known (C := RX3) (T := TX3) (N := 4) (n := 4) x5 (sm_in 2 (by decide)) (x5 _ ln_Sight.2.1)
  obtain ⟨c3, i3, h3⟩ := u_known (C := RX4) (T := TX4) (N := 4) (n := 4) x5 (sm_in 3 (by decide)) (x5 _ ln_Text.2.1)
  obtain ⟨c4, i4, h4⟩ := u_known (C := RX5) (T := TX5) (N := 8) (n := 8) x5 (sm_in 4 (by decide)) (x5 _ ln_SM.2.1)
  obtain ⟨c5, i5, h5⟩ := u_known (C := RX6) (T := TX6) (N := 35) (n := 35) x5 (sm_in 5 (by decide)) (x5 _ ln_M.2.1)
  obtain ⟨cI, kI, compI, fI, kkI, kdI⟩ := Cond.arrayClass_spec (x5 _ arr_I)
  obtain ⟨compF, cF, kF, f1, f2, f3, f4, f5⟩ := Cond.arrayOver_spec (hts (.arrayOver (.object RX0)) (by decide +kernel))
  refine ⟨(fun k => match k with | 0 => c0 | 1 => c1 | 2 => c2 | 3 => c3 | 4 => c4 | _ => c5, fun k => match k with | 0 => i0 | 1 => i1 | 2 => i2 | 3 => i3 | 4 => i4 | _ => i5), cI, cF, ?_, ?_⟩
  · intro k q hq
    match k, hq with
    | 0, hq => cases hq; exact h0
    | 1, hq => cases hq; exact h1
    | 2, hq => cases hq; exact h2
    | 3, hq => cases hq; exact h3
    | 4, hq => cases hq; exact h4
    | 5, hq => cases hq; exact h5
    | k + 6, hq => exact absurd (List.getElem?_eq_some_iff.mp hq).1 (by simp)
  · intro k q hq
    match k, hq with
    | 0, hq =>
      cases hq
      exact ⟨fun n z => ⟨fun k h => (by cases h), kI, kkI, compI, kdI⟩, fI⟩
    | 1, hq =>
      cases hq
      exact ⟨fun n z => ⟨fun k h => (by cases h), kF, f3, compF, f4⟩, kF, compF, f3, f4, f1, f5⟩
    | k + 2, hq => exact absurd (List.getElem?_eq_some_iff.mp hq).1 (by simp)
set_option maxHeartbeats 8000000 in
set_option maxRecDepth 100000 in
/-- YOUR PART: from the entry, for every script of at most 256 ints, the law comes to its end with true -/
theorem whole_start {p : Program} {e : Env} {s : State} {m : MethodId} {below : List Frame} {meth : Method} {c : Code} (l : Launch) (hflags : l.flags = flags0) {b L : Nat} {xs : Nat → Int32} (hL : L ≤ 256) (C0 : lw_At p s m meth c b L xs) : W p l e room_1 s m #[Value.ref b] below meth c s.heap [] 0 0 (lw_Z below #[Value.ref b] s) (entryFrame m ([Value.ref b] : List Value).toArray 4) := by
  obtain ⟨hx, hb, hr, hml, hown, hts, hX, hbl, hlocks, hgv⟩ := id C0
  have x5 : ∀ w ∈ gw, w.before #[Value.ref b] s = true := fun w hw => hts w (List.mem_filter.mp hw).1
  have hA : ∀ q : Nat, s.heap.size ≤ q → lw_A s q := fun _ h => h
  obtain ⟨ρ0, adK, adV, hE⟩ := w_given hts hgv
  obtain ⟨D, cI, cF, hK⟩ := w_known hts
  have hS : va_S (lw_A s) s.heap s.heap [] := va_S.rf
  have hP : va_P D vc6 [] s.heap := fun k q h => by simp at h
  have hD : va_D (lw_A s) [] := ⟨fun i j p q h => by simp at h, fun k q h => by simp at h⟩
  have hl := lv_entry ([.ref b]) (n := 4) (Nat.le_of_ble_eq_true rfl)
  rw [lg_entry_eq]
  generalize (lg_sl ([.ref b]) ++ List.replicate (4 - (lg_sl ([.ref b])).length) Slot.unset).toArray = ls at hl ⊢
  have hl : lv_has ls 4 [(0, .ref b)] := hl
  refine va_new (ci := 4) (fs := [.null, .null, .null, .null, .null, .null, .null, .null]) (own := RL) (C := RX5) (T := TX5) (N := 8) hx hb x5 (sm_in 4 (by decide)) tyX5 tyX5_ok hown (x5 _ ln_SM.1) (x5 _ ln_SM.2.1) (x5 _ ln_SM.2.2) hK hP hD hS hA rfl (fun j hj => by rcases (show j = 0 ∨ j = 1 ∨ j = 2 ∨ j = 3 ∨ j = 4 ∨ j = 5 ∨ j = 6 ∨ j = 7 by omega) with rfl | rfl | rfl | rfl | rfl | rfl | rfl | rfl <;> rfl) (Nat.le_of_ble_eq_true rfl) (Nat.le_of_ble_eq_true rfl) dL_law_0 (fun q0 H hP hD hS => ?_)
  have hP : va_P D vc6 [(q0, .inr (4, [.null, .null, .null, .null, .null, .null, .null, .null]))] H := hP
  have hD : va_D (lw_A s) [(q0, .inr (4, [.null, .null, .null, .null, .null, .null, .null, .null]))] := hD
  refine lv_dup hx hb dL_law_3 rfl ?_
  have hF := w_free hD hS hA
  refine va_callv (va_runI (As := []) (rest := [.ref q0]) (own := RL) (Ts := gw) (nL := 4) ⟨hx, hb, hml, hown, x5⟩ (k_SM l D cI cF ρ0 adK adV q0 H.size) (cwI 0 x5 (wd_init li_SM) rfl rfl rfl (x5 _ li_SM.1) (x5 _ lm_L9) (x5 _ li_SM.2.2) rfl (by decide +kernel) ⟨Nat.le_of_ble_eq_true rfl, Nat.le_of_ble_eq_true rfl⟩) ⟨sk_blindE, fun U hU hW => ⟨rfl, by rw [hU], by rw [hU]; exact hP, va_K.moved hW.alike hK, hD.weaken (fun _ _ _ _ => trivial), by rw [hU]; exact hE.warm hW hS hF⟩⟩ rfl rfl hl.1 rfl (lv_room (Nat.le_of_ble_eq_true rfl)) dL_law_4 ⟨Nat.le_of_ble_eq_true rfl, Nat.le_of_ble_eq_true rfl⟩) hS (fun q _ h => hF q h) hF (fun ρ t H1 locs1 ht hvm hw hB hz1 hk1 hS => ?_)
  obtain ⟨w96, w200, w201⟩ := hw
  obtain ⟨hP, -, hD⟩ := hB
  rw [ht] at hP
  have hD : va_D (lw_A s) (n_sm_ws ρ cI cF s_first) := hD.weaken (fun k q _ h => hF q.1 h)
  clear hF hk1 hz1 ht hvm
  refine lv_astore_n (lv' := [(1, .ref q0), (0, .ref b)]) hx hb dL_law_7 rfl hl (by decide) rfl (fun ls hl => ?_)
  refine va_new (ci := 5) (fs := wm_0) (own := RL) (C := RX6) (T := TX6) (N := 35) hx hb x5 (sm_in 5 (by decide)) tyX6 tyX6_ok hown (x5 _ ln_M.1) (x5 _ ln_M.2.1) (x5 _ ln_M.2.2) hK hP hD hS hA rfl (fun j hj => by rcases (show j = 0 ∨ j = 1 ∨ j = 2 ∨ j = 3 ∨ j = 4 ∨ j = 5 ∨ j = 6 ∨ j = 7 ∨ j = 8 ∨ j = 9 ∨ j = 10 ∨ j = 11 ∨ j = 12 ∨ j = 13 ∨ j = 14 ∨ j = 15 ∨ j = 16 ∨ j = 17 ∨ j = 18 ∨ j = 19 ∨ j = 20 ∨ j = 21 ∨ j = 22 ∨ j = 23 ∨ j = 24 ∨ j = 25 ∨ j = 26 ∨ j = 27 ∨ j = 28 ∨ j = 29 ∨ j = 30 ∨ j = 31 ∨ j = 32 ∨ j = 33 ∨ j = 34 by omega) with rfl | rfl | rfl | rfl | rfl | rfl | rfl | rfl | rfl | rfl | rfl | rfl | rfl | rfl | rfl | rfl | rfl | rfl | rfl | rfl | rfl | rfl | rfl | rfl | rfl | rfl | rfl | rfl | rfl | rfl | rfl | rfl | rfl | rfl | rfl <;> rfl) (Nat.le_of_ble_eq_true rfl) (Nat.le_of_ble_eq_true rfl) dL_law_8 (fun q1 H hP hD hS => ?_)
  have hP := rot_P hP
  have hD := rot_D hD
  refine lv_dup hx hb dL_law_11 rfl ?_
  have hF := w_free hD hS hA
  refine va_callv (va_runI (As := []) (rest := [.ref q1]) (own := RL) (Ts := gw) (nL := 4) ⟨hx, hb, hml, hown, x5⟩ (k_M l D cI cF ρ ρ0 adK adV s_first w200 w201 q1 H.size) (cwI 0 x5 (wd_init li_M) rfl rfl rfl (x5 _ li_M.1) (x5 _ lm_L12) (x5 _ li_M.2.2) rfl (by decide +kernel) ⟨Nat.le_of_ble_eq_true rfl, Nat.le_of_ble_eq_true rfl⟩) ⟨sk_blindE, fun U hU hW => ⟨rfl, by rw [hU], by rw [hU]; exact hP, va_K.moved hW.alike hK, hD.weaken (fun _ _ _ _ => trivial), by rw [hU]; exact hE.warm hW hS hF⟩⟩ rfl rfl hl.1 rfl (lv_room (Nat.le_of_ble_eq_true rfl)) dL_law_12 ⟨Nat.le_of_ble_eq_true rfl, Nat.le_of_ble_eq_true rfl⟩) hS (fun q _ h => hF q h) hF (fun ρ1 t H1 locs1 ht hvm hw hB hz1 hk1 hS => ?_)
  obtain ⟨v96, v110, v200, v201⟩ := hw
  obtain ⟨hP, -, hD⟩ := hB
  rw [ht] at hP
  have hD : va_D (lw_A s) (sm_ws ρ1 cI cF (m_c5 s_first)) := hD.weaken (fun k q _ h => hF q.1 h)
  have hG : sm_G ρ1 (lw_A s) s s.heap := sm_G_e v200 v201 hE.1
  clear hF hk1 hz1 ht hvm
  refine lv_astore_n (lv' := [(2, .ref q1), (1, .ref q0), (0, .ref b)]) hx hb dL_law_15 rfl hl (by decide) rfl (fun ls hl => ?_)
  refine lv_iconst (v := 0) hx hb dL_law_16 (by decide) ?_
  refine lv_istore_n (lv' := [(3, .int 0), (2, .ref q1), (1, .ref q0), (0, .ref b)]) hx hb dL_law_17 rfl hl (by decide) rfl (fun ls hl => ?_)
  have hl : lv_has ls 4 [(0, .ref b), (1, .ref (ρ1 96)), (2, .ref (ρ1 110)), (3, .int (nI 0))] := by
    rw [v96, w96, v110, nI_0]
    exact lv_sub hl [3, 2, 1, 0] rfl
  exact law_loop hL C0 hK hG ⟨Nat.le_of_ble_eq_true rfl, Nat.le_of_ble_eq_true rfl⟩ L 0 (m_c5 s_first) _ _ ls (Nat.zero_le _) (by omega) ⟨4, 5, 0, 0, 0, 0, 0, 0, w_I_start⟩ hP hD hS hl

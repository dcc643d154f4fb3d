/-! the constructor of SmellMoorings, whole -/
set_option maxHeartbeats 8000000 in
set_option maxRecDepth 100000 in
theorem k_SM (l : Launch) (D : va_G) (cI cF : ClassId) (ρ0 adK adV : Nat → Nat) (h0 sz : Nat) : Met l yX5_init (.code yX5_init cX5_init 2 none :: gw) ({ frames := 9, cells := 109, slots := 1187, locals := 400 } : Room) (sk_PcE ρ0 adK adV D cI cF [.ref h0] [(h0, .inr (4, [.null, .null, .null, .null, .null, .null, .null, .null]))] sz) (sk_QE ρ0 D cI cF (va_A [(h0, .inr (4, [.null, .null, .null, .null, .null, .null, .null, .null]))] sz) h0) 109 1187 (va_A [(h0, .inr (4, [.null, .null, .null, .null, .null, .null, .null, .null]))] sz) := by
  refine Met.ofW (cc := cX5_init) (maxL := 2) (ret := none) (by decide) rfl ?_
  intro p e s m args below meth c s₁ B hml hv
  obtain ⟨rfl, hsz, hP, hK, hD0, hE⟩ := hv
  have x1 := B.exec
  have x2 := B.bytes
  have x6 := B.returns
  have hts0 := atoms_spec (ws := .code yX5_init cX5_init 2 none :: gw) B.pre
  have x5 : ∀ w ∈ gw, w.before #[Value.ref h0] s = true := fun w hw => hts0 w (List.mem_cons_of_mem _ hw)
  have x4 : s.vm.findClass RX5 = some m.cls := findClass_of_methodNamed B.named
  have x7 := B.notSynchronized
  have hin : meth.name = "<init>" := (name_of_methodNamed B.named B.method).1
  subst hsz
  have hD := hD0.self (sz := s.heap.size)
  generalize hAe : va_A [(h0, .inr (4, [.null, .null, .null, .null, .null, .null, .null, .null]))] s.heap.size = A at hD hE ⊢
  have hA : ∀ q : Nat, s.heap.size ≤ q → A q := fun q h => by rw [← hAe]; exact Or.inr h
  have hS : va_S A s.heap s.heap [] := va_S.rf
  obtain ⟨hG0, hXS, hR52, hN, n9, n18, n28⟩ := id hE
  have hl := lv_entry ([.ref h0]) (n := 2) (Nat.le_of_ble_eq_true rfl)
  rw [lg_entry_eq]
  generalize (lg_sl ([.ref h0]) ++ List.replicate (2 - (lg_sl ([.ref h0])).length) Slot.unset).toArray = ls at hl ⊢
  have hl : lv_has ls 2 [(0, .ref h0)] := hl
  refine lv_aload_n x1 x2 dX5_init_0 rfl (lv_at hl 0 rfl) ?_
  refine W.objInit x1 x2 x4 (x5 _ lo_SM) (x5 _ obj_i) (x5 _ obj_c) rfl (by rw [hml]; exact hl.1) rfl dX5_init_1 (Nat.le_of_ble_eq_true rfl) (Nat.le_of_ble_eq_true rfl) ?_
  refine W.eq (g2 := F0 m 4 ls []) rfl ?_
  refine lv_aload_n x1 x2 dX5_init_4 rfl (lv_at hl 0 rfl) ?_
  refine va_new (ci := 3) (fs := w_Text0) (C := RX4) (T := TX4) (N := 4) x1 x2 x5 (sm_in 3 (by decide)) tyX4 tyX4_ok x4 (x5 _ ln_Text.1) (x5 _ ln_Text.2.1) (x5 _ ln_Text.2.2) hK hP hD hS hA rfl (fun j hj => by rcases (show j = 0 ∨ j = 1 ∨ j = 2 ∨ j = 3 by omega) with rfl | rfl | rfl | rfl <;> rfl) (Nat.le_of_ble_eq_true rfl) (Nat.le_of_ble_eq_true rfl) dX5_init_5 (fun q H hP hD hS => ?_)
  refine lv_dup x1 x2 dX5_init_8 rfl ?_
  refine sk_ctor (mc := 2) (ms := 203) (F := w_Text cI) (va_runIN (As := []) (host := RX5) (own := RX5) (Ts := gw) (nL := 2) ⟨x1, x2, hml, x4, x5⟩ (k_Text l D cI cF q H.size) ⟨va_cnB 0 x5 (wd_init li_Text) rfl rfl rfl n9 (x5 _ li_Text.1) (by decide +kernel) ⟨Nat.le_of_ble_eq_true rfl, Nat.le_of_ble_eq_true rfl⟩, rfl, x5 _ li_Text.2.2⟩ (sk_pre (sk_right hP) hK (sk_rightD hD)) rfl rfl hl.1 rfl (lv_room (Nat.le_of_ble_eq_true rfl)) dX5_init_9 ⟨Nat.le_of_ble_eq_true rfl, Nat.le_of_ble_eq_true rfl⟩) hP hD hS hA (fun t H locs ht hP hD hS => ?_)
  rw [← ht]
  have hP : va_P D vc6 ((h0, .inr (4, [.null, .null, .null, .null, .null, .null, .null, .null])) :: (w_Text cI t)) H := hP
  have hD : va_D A ((h0, .inr (4, [.null, .null, .null, .null, .null, .null, .null, .null])) :: (w_Text cI t)) := hD
  refine va_putF (D := D) (ci := 4) (v := .ref (t 0)) (ty := .object RX4) (C := RX5) (T := TX5) (N := 8) (ref := "SmellMoorings") x1 x2 x5 (sm_in 4 (by decide)) tyX5 tyX5_ok nmX5 x4 hK hP hD hS 0 rfl rfl 0 (by decide) (x5 _ lk_SM_10.2.2) (fun _ h => h) rfl hin rfl (by decide +kernel) rfl rfl (Nat.le_of_ble_eq_true rfl) dX5_init_12 (fun H locs hP hD hS => ?_)
  have hP : va_P D vc6 ((h0, .inr (4, [.ref (t 0), .null, .null, .null, .null, .null, .null, .null])) :: (w_Text cI t)) H := hP
  have hD : va_D A ((h0, .inr (4, [.ref (t 0), .null, .null, .null, .null, .null, .null, .null])) :: (w_Text cI t)) := hD
  refine lv_aload_n x1 x2 dX5_init_15 rfl (lv_at hl 0 rfl) ?_
  refine va_new (ci := 0) (fs := w_Field0) (C := RX0) (T := TX0) (N := 17) x1 x2 x5 (sm_in 0 (by decide)) tyX0 tyX0_ok x4 (x5 _ ln_Field.1) (x5 _ ln_Field.2.1) (x5 _ ln_Field.2.2) hK hP hD hS hA rfl (fun j hj => by rcases (show j = 0 ∨ j = 1 ∨ j = 2 ∨ j = 3 ∨ j = 4 ∨ j = 5 ∨ j = 6 ∨ j = 7 ∨ j = 8 ∨ j = 9 ∨ j = 10 ∨ j = 11 ∨ j = 12 ∨ j = 13 ∨ j = 14 ∨ j = 15 ∨ j = 16 by omega) with rfl | rfl | rfl | rfl | rfl | rfl | rfl | rfl | rfl | rfl | rfl | rfl | rfl | rfl | rfl | rfl | rfl <;> rfl) (Nat.le_of_ble_eq_true rfl) (Nat.le_of_ble_eq_true rfl) dX5_init_16 (fun q H hP hD hS => ?_)
  refine lv_dup x1 x2 dX5_init_19 rfl ?_
  refine sk_ctor (mc := 7) (ms := 48) (F := w_Field cI) (va_runIN (As := []) (host := RX5) (own := RX5) (Ts := gw) (nL := 2) ⟨x1, x2, hml, x4, x5⟩ (k_Field l D cI cF q H.size) ⟨va_cnB 0 x5 (wd_init li_Field) rfl rfl rfl n18 (x5 _ li_Field.1) (by decide +kernel) ⟨Nat.le_of_ble_eq_true rfl, Nat.le_of_ble_eq_true rfl⟩, rfl, x5 _ li_Field.2.2⟩ (sk_pre (sk_right hP) hK (sk_rightD hD)) rfl rfl hl.1 rfl (lv_room (Nat.le_of_ble_eq_true rfl)) dX5_init_20 ⟨Nat.le_of_ble_eq_true rfl, Nat.le_of_ble_eq_true rfl⟩) hP hD hS hA (fun a H locs ha hP hD hS => ?_)
  rw [← ha]
  have hP : va_P D vc6 ((h0, .inr (4, [.ref (t 0), .null, .null, .null, .null, .null, .null, .null])) :: ((w_Text cI t) ++ (w_Field cI a))) H := hP
  have hD : va_D A ((h0, .inr (4, [.ref (t 0), .null, .null, .null, .null, .null, .null, .null])) :: ((w_Text cI t) ++ (w_Field cI a))) := hD
  refine va_putF (D := D) (ci := 4) (v := .ref (a 0)) (ty := .object RX0) (C := RX5) (T := TX5) (N := 8) (ref := "SmellMoorings") x1 x2 x5 (sm_in 4 (by decide)) tyX5 tyX5_ok nmX5 x4 hK hP hD hS 0 rfl rfl 1 (by decide) (x5 _ lk_SM_19.2.2) (fun _ h => h) rfl hin rfl (by decide +kernel) rfl rfl (Nat.le_of_ble_eq_true rfl) dX5_init_23 (fun H locs hP hD hS => ?_)
  have hP : va_P D vc6 ((h0, .inr (4, [.ref (t 0), .ref (a 0), .null, .null, .null, .null, .null, .null])) :: ((w_Text cI t) ++ (w_Field cI a))) H := hP
  have hD : va_D A ((h0, .inr (4, [.ref (t 0), .ref (a 0), .null, .null, .null, .null, .null, .null])) :: ((w_Text cI t) ++ (w_Field cI a))) := hD
  refine lv_aload_n x1 x2 dX5_init_26 rfl (lv_at hl 0 rfl) ?_
  refine va_new (ci := 0) (fs := w_Field0) (C := RX0) (T := TX0) (N := 17) x1 x2 x5 (sm_in 0 (by decide)) tyX0 tyX0_ok x4 (x5 _ ln_Field.1) (x5 _ ln_Field.2.1) (x5 _ ln_Field.2.2) hK hP hD hS hA rfl (fun j hj => by rcases (show j = 0 ∨ j = 1 ∨ j = 2 ∨ j = 3 ∨ j = 4 ∨ j = 5 ∨ j = 6 ∨ j = 7 ∨ j = 8 ∨ j = 9 ∨ j = 10 ∨ j = 11 ∨ j = 12 ∨ j = 13 ∨ j = 14 ∨ j = 15 ∨ j = 16 by omega) with rfl | rfl | rfl | rfl | rfl | rfl | rfl | rfl | rfl | rfl | rfl | rfl | rfl | rfl | rfl | rfl | rfl <;> rfl) (Nat.le_of_ble_eq_true rfl) (Nat.le_of_ble_eq_true rfl) dX5_init_27 (fun q H hP hD hS => ?_)
  refine lv_dup x1 x2 dX5_init_30 rfl ?_
  refine sk_ctor (mc := 7) (ms := 48) (F := w_Field cI) (va_runIN (As := []) (host := RX5) (own := RX5) (Ts := gw) (nL := 2) ⟨x1, x2, hml, x4, x5⟩ (k_Field l D cI cF q H.size) ⟨va_cnB 0 x5 (wd_init li_Field) rfl rfl rfl n18 (x5 _ li_Field.1) (by decide +kernel) ⟨Nat.le_of_ble_eq_true rfl, Nat.le_of_ble_eq_true rfl⟩, rfl, x5 _ li_Field.2.2⟩ (sk_pre (sk_right hP) hK (sk_rightD hD)) rfl rfl hl.1 rfl (lv_room (Nat.le_of_ble_eq_true rfl)) dX5_init_31 ⟨Nat.le_of_ble_eq_true rfl, Nat.le_of_ble_eq_true rfl⟩) hP hD hS hA (fun b H locs hb hP hD hS => ?_)
  rw [← hb]
  have hP : va_P D vc6 ((h0, .inr (4, [.ref (t 0), .ref (a 0), .null, .null, .null, .null, .null, .null])) :: (((w_Text cI t) ++ (w_Field cI a)) ++ (w_Field cI b))) H := hP
  have hD : va_D A ((h0, .inr (4, [.ref (t 0), .ref (a 0), .null, .null, .null, .null, .null, .null])) :: (((w_Text cI t) ++ (w_Field cI a)) ++ (w_Field cI b))) := hD
  refine va_putF (D := D) (ci := 4) (v := .ref (b 0)) (ty := .object RX0) (C := RX5) (T := TX5) (N := 8) (ref := "SmellMoorings") x1 x2 x5 (sm_in 4 (by decide)) tyX5 tyX5_ok nmX5 x4 hK hP hD hS 0 rfl rfl 2 (by decide) (x5 _ lk_SM_23.2.2) (fun _ h => h) rfl hin rfl (by decide +kernel) rfl rfl (Nat.le_of_ble_eq_true rfl) dX5_init_34 (fun H locs hP hD hS => ?_)
  have hP : va_P D vc6 ((h0, .inr (4, [.ref (t 0), .ref (a 0), .ref (b 0), .null, .null, .null, .null, .null])) :: (((w_Text cI t) ++ (w_Field cI a)) ++ (w_Field cI b))) H := hP
  have hD : va_D A ((h0, .inr (4, [.ref (t 0), .ref (a 0), .ref (b 0), .null, .null, .null, .null, .null])) :: (((w_Text cI t) ++ (w_Field cI a)) ++ (w_Field cI b))) := hD
  refine lv_aload_n x1 x2 dX5_init_37 rfl (lv_at hl 0 rfl) ?_
  refine va_new (ci := 2) (fs := w_Sight0) (C := RX3) (T := TX3) (N := 4) x1 x2 x5 (sm_in 2 (by decide)) tyX3 tyX3_ok x4 (x5 _ ln_Sight.1) (x5 _ ln_Sight.2.1) (x5 _ ln_Sight.2.2) hK hP hD hS hA rfl (fun j hj => by rcases (show j = 0 ∨ j = 1 ∨ j = 2 ∨ j = 3 by omega) with rfl | rfl | rfl | rfl <;> rfl) (Nat.le_of_ble_eq_true rfl) (Nat.le_of_ble_eq_true rfl) dX5_init_38 (fun q H hP hD hS => ?_)
  refine lv_dup x1 x2 dX5_init_41 rfl ?_
  refine sk_ctor (mc := 3) (ms := 18) (F := w_Sight cI) (va_runIN (As := []) (host := RX5) (own := RX5) (Ts := gw) (nL := 2) ⟨x1, x2, hml, x4, x5⟩ (k_Sight l D cI cF q H.size) ⟨va_cnB 0 x5 (wd_init li_Sight) rfl rfl rfl n28 (x5 _ li_Sight.1) (by decide +kernel) ⟨Nat.le_of_ble_eq_true rfl, Nat.le_of_ble_eq_true rfl⟩, rfl, x5 _ li_Sight.2.2⟩ (sk_pre (sk_right hP) hK (sk_rightD hD)) rfl rfl hl.1 rfl (lv_room (Nat.le_of_ble_eq_true rfl)) dX5_init_42 ⟨Nat.le_of_ble_eq_true rfl, Nat.le_of_ble_eq_true rfl⟩) hP hD hS hA (fun sg H locs hsg hP hD hS => ?_)
  rw [← hsg]
  have hP : va_P D vc6 ((h0, .inr (4, [.ref (t 0), .ref (a 0), .ref (b 0), .null, .null, .null, .null, .null])) :: ((((w_Text cI t) ++ (w_Field cI a)) ++ (w_Field cI b)) ++ (w_Sight cI sg))) H := hP
  have hD : va_D A ((h0, .inr (4, [.ref (t 0), .ref (a 0), .ref (b 0), .null, .null, .null, .null, .null])) :: ((((w_Text cI t) ++ (w_Field cI a)) ++ (w_Field cI b)) ++ (w_Sight cI sg))) := hD
  refine va_putF (D := D) (ci := 4) (v := .ref (sg 0)) (ty := .object RX3) (C := RX5) (T := TX5) (N := 8) (ref := "SmellMoorings") x1 x2 x5 (sm_in 4 (by decide)) tyX5 tyX5_ok nmX5 x4 hK hP hD hS 0 rfl rfl 3 (by decide) (x5 _ lk_SM_29.2.2) (fun _ h => h) rfl hin rfl (by decide +kernel) rfl rfl (Nat.le_of_ble_eq_true rfl) dX5_init_45 (fun H locs hP hD hS => ?_)
  have hP : va_P D vc6 ((h0, .inr (4, [.ref (t 0), .ref (a 0), .ref (b 0), .ref (sg 0), .null, .null, .null, .null])) :: ((((w_Text cI t) ++ (w_Field cI a)) ++ (w_Field cI b)) ++ (w_Sight cI sg))) H := hP
  have hD : va_D A ((h0, .inr (4, [.ref (t 0), .ref (a 0), .ref (b 0), .ref (sg 0), .null, .null, .null, .null])) :: ((((w_Text cI t) ++ (w_Field cI a)) ++ (w_Field cI b)) ++ (w_Sight cI sg))) := hD
  refine lv_aload_n x1 x2 dX5_init_48 rfl (lv_at hl 0 rfl) ?_
  refine va_new (ci := 1) (fs := [.null, .int 0, .int 0]) (C := RX1) (T := TX1) (N := 3) x1 x2 x5 (sm_in 1 (by decide)) tyX1 tyX1_ok x4 (x5 _ ln_Pile.1) (x5 _ ln_Pile.2.1) (x5 _ ln_Pile.2.2) hK hP hD hS hA rfl (fun j hj => by rcases (show j = 0 ∨ j = 1 ∨ j = 2 by omega) with rfl | rfl | rfl <;> rfl) (Nat.le_of_ble_eq_true rfl) (Nat.le_of_ble_eq_true rfl) dX5_init_49 (fun q H hP hD hS => ?_)
  refine lv_dup x1 x2 dX5_init_52 rfl ?_
  refine lv_bipush (v := 8) x1 x2 dX5_init_53 (by decide) ?_
  refine sk_ctor (mc := 65) (ms := 528) (F := w_PileF cI cF 8) (va_runI (As := [.int (nI 8)]) (own := RX5) (Ts := gw) (nL := 2) ⟨x1, x2, hml, x4, x5⟩ (k_Pile l D cI cF q H.size 8 (by decide) (by decide)) (cwI 1 x5 (wd_init li_Pile) rfl rfl rfl (x5 _ li_Pile.1) (x5 _ lm_PileI) (x5 _ li_Pile.2.2) rfl (by decide +kernel) ⟨Nat.le_of_ble_eq_true rfl, Nat.le_of_ble_eq_true rfl⟩) ⟨sk_blindN, fun U hU hW => ⟨rfl, by rw [hU], by rw [hU]; exact sk_right hP, va_K.moved hW.alike hK, (sk_rightD hD).weaken (fun _ _ _ _ => trivial), hN.warm hW⟩⟩ rfl rfl hl.1 rfl (lv_room (Nat.le_of_ble_eq_true rfl)) dX5_init_55 ⟨Nat.le_of_ble_eq_true rfl, Nat.le_of_ble_eq_true rfl⟩) hP hD hS hA (fun u H locs hu hP hD hS => ?_)
  rw [← hu]
  have hP : va_P D vc6 ((h0, .inr (4, [.ref (t 0), .ref (a 0), .ref (b 0), .ref (sg 0), .null, .null, .null, .null])) :: (((((w_Text cI t) ++ (w_Field cI a)) ++ (w_Field cI b)) ++ (w_Sight cI sg)) ++ (w_PileF cI cF 8 u))) H := hP
  have hD : va_D A ((h0, .inr (4, [.ref (t 0), .ref (a 0), .ref (b 0), .ref (sg 0), .null, .null, .null, .null])) :: (((((w_Text cI t) ++ (w_Field cI a)) ++ (w_Field cI b)) ++ (w_Sight cI sg)) ++ (w_PileF cI cF 8 u))) := hD
  refine va_putF (D := D) (ci := 4) (v := .ref (u 0)) (ty := .object RX1) (C := RX5) (T := TX5) (N := 8) (ref := "SmellMoorings") x1 x2 x5 (sm_in 4 (by decide)) tyX5 tyX5_ok nmX5 x4 hK hP hD hS 0 rfl rfl 4 (by decide) (x5 _ lk_SM_38.2.2) (fun _ h => h) rfl hin rfl (by decide +kernel) rfl rfl (Nat.le_of_ble_eq_true rfl) dX5_init_58 (fun H locs hP hD hS => ?_)
  have hP : va_P D vc6 ((h0, .inr (4, [.ref (t 0), .ref (a 0), .ref (b 0), .ref (sg 0), .ref (u 0), .null, .null, .null])) :: (((((w_Text cI t) ++ (w_Field cI a)) ++ (w_Field cI b)) ++ (w_Sight cI sg)) ++ (w_PileF cI cF 8 u))) H := hP
  have hD : va_D A ((h0, .inr (4, [.ref (t 0), .ref (a 0), .ref (b 0), .ref (sg 0), .ref (u 0), .null, .null, .null])) :: (((((w_Text cI t) ++ (w_Field cI a)) ++ (w_Field cI b)) ++ (w_Sight cI sg)) ++ (w_PileF cI cF 8 u))) := hD
  refine lv_aload_n x1 x2 dX5_init_61 rfl (lv_at hl 0 rfl) ?_
  refine va_new (ci := 1) (fs := [.null, .int 0, .int 0]) (C := RX1) (T := TX1) (N := 3) x1 x2 x5 (sm_in 1 (by decide)) tyX1 tyX1_ok x4 (x5 _ ln_Pile.1) (x5 _ ln_Pile.2.1) (x5 _ ln_Pile.2.2) hK hP hD hS hA rfl (fun j hj => by rcases (show j = 0 ∨ j = 1 ∨ j = 2 by omega) with rfl | rfl | rfl <;> rfl) (Nat.le_of_ble_eq_true rfl) (Nat.le_of_ble_eq_true rfl) dX5_init_62 (fun q H hP hD hS => ?_)
  refine lv_dup x1 x2 dX5_init_65 rfl ?_
  refine lv_iconst (v := 2) x1 x2 dX5_init_66 (by decide) ?_
  refine sk_ctor (mc := 17) (ms := 132) (F := w_PileF cI cF 2) (va_runI (As := [.int (nI 2)]) (own := RX5) (Ts := gw) (nL := 2) ⟨x1, x2, hml, x4, x5⟩ (k_Pile l D cI cF q H.size 2 (by decide) (by decide)) (cwI 1 x5 (wd_init li_Pile) rfl rfl rfl (x5 _ li_Pile.1) (x5 _ lm_PileI) (x5 _ li_Pile.2.2) rfl (by decide +kernel) ⟨Nat.le_of_ble_eq_true rfl, Nat.le_of_ble_eq_true rfl⟩) ⟨sk_blindN, fun U hU hW => ⟨rfl, by rw [hU], by rw [hU]; exact sk_right hP, va_K.moved hW.alike hK, (sk_rightD hD).weaken (fun _ _ _ _ => trivial), hN.warm hW⟩⟩ rfl rfl hl.1 rfl (lv_room (Nat.le_of_ble_eq_true rfl)) dX5_init_67 ⟨Nat.le_of_ble_eq_true rfl, Nat.le_of_ble_eq_true rfl⟩) hP hD hS hA (fun v H locs hv hP hD hS => ?_)
  rw [← hv]
  have hP : va_P D vc6 ((h0, .inr (4, [.ref (t 0), .ref (a 0), .ref (b 0), .ref (sg 0), .ref (u 0), .null, .null, .null])) :: ((((((w_Text cI t) ++ (w_Field cI a)) ++ (w_Field cI b)) ++ (w_Sight cI sg)) ++ (w_PileF cI cF 8 u)) ++ (w_PileF cI cF 2 v))) H := hP
  have hD : va_D A ((h0, .inr (4, [.ref (t 0), .ref (a 0), .ref (b 0), .ref (sg 0), .ref (u 0), .null, .null, .null])) :: ((((((w_Text cI t) ++ (w_Field cI a)) ++ (w_Field cI b)) ++ (w_Sight cI sg)) ++ (w_PileF cI cF 8 u)) ++ (w_PileF cI cF 2 v))) := hD
  refine va_putF (D := D) (ci := 4) (v := .ref (v 0)) (ty := .object RX1) (C := RX5) (T := TX5) (N := 8) (ref := "SmellMoorings") x1 x2 x5 (sm_in 4 (by decide)) tyX5 tyX5_ok nmX5 x4 hK hP hD hS 0 rfl rfl 5 (by decide) (x5 _ lk_SM_42.2.2) (fun _ h => h) rfl hin rfl (by decide +kernel) rfl rfl (Nat.le_of_ble_eq_true rfl) dX5_init_70 (fun H locs hP hD hS => ?_)
  have hP : va_P D vc6 ((h0, .inr (4, [.ref (t 0), .ref (a 0), .ref (b 0), .ref (sg 0), .ref (u 0), .ref (v 0), .null, .null])) :: ((((((w_Text cI t) ++ (w_Field cI a)) ++ (w_Field cI b)) ++ (w_Sight cI sg)) ++ (w_PileF cI cF 8 u)) ++ (w_PileF cI cF 2 v))) H := hP
  have hD : va_D A ((h0, .inr (4, [.ref (t 0), .ref (a 0), .ref (b 0), .ref (sg 0), .ref (u 0), .ref (v 0), .null, .null])) :: ((((((w_Text cI t) ++ (w_Field cI a)) ++ (w_Field cI b)) ++ (w_Sight cI sg)) ++ (w_PileF cI cF 8 u)) ++ (w_PileF cI cF 2 v))) := hD
  refine lv_aload_n x1 x2 dX5_init_73 rfl (lv_at hl 0 rfl) ?_
  refine lv_bipush (v := 81) x1 x2 dX5_init_74 (by decide) ?_
  refine sk_newput (N := 81) x1 x2 x4 x5 hin lk_SM_45 (by decide) (by decide) (by decide) hK hP hD hS hA (Nat.le_of_ble_eq_true rfl) (by decide) (by decide) (by decide) (Nat.le_of_ble_eq_true rfl) (Nat.le_of_ble_eq_true rfl) dX5_init_76 dX5_init_78 (fun c1 H locs hP hD hS => ?_)
  refine lv_aload_n x1 x2 dX5_init_81 rfl (lv_at hl 0 rfl) ?_
  refine lv_bipush (v := 81) x1 x2 dX5_init_82 (by decide) ?_
  refine sk_newput (N := 81) x1 x2 x4 x5 hin lk_SM_49 (by decide) (by decide) (by decide) hK hP hD hS hA (Nat.le_of_ble_eq_true rfl) (by decide) (by decide) (by decide) (Nat.le_of_ble_eq_true rfl) (Nat.le_of_ble_eq_true rfl) dX5_init_84 dX5_init_86 (fun c2 H locs hP hD hS => ?_)
  have e1 : (h0, .inr (4, [.ref (t 0), .ref (a 0), .ref (b 0), .ref (sg 0), .ref (u 0), .ref (v 0), .ref c1, .ref c2])) :: ((((((((w_Text cI t) ++ (w_Field cI a)) ++ (w_Field cI b)) ++ (w_Sight cI sg)) ++ (w_PileF cI cF 8 u)) ++ (w_PileF cI cF 2 v)) ++ [(c1, .inl (cI, 81, .inl (fun _ => 0)))]) ++ [(c2, .inl (cI, 81, .inl (fun _ => 0)))]) = w_WS cI cF h0 c1 c2 t a b sg u v := by
    unfold w_WS
    simp only [List.append_assoc]
    rfl
  have hP : va_P D vc6 (w_WS cI cF h0 c1 c2 t a b sg u v) H := e1 ▸ hP
  have hD : va_D A (w_WS cI cF h0 c1 c2 t a b sg u v) := e1 ▸ hD
  have hP := w_WS_P (ρ0 := ρ0) hP
  have hD := w_WS_D (ρ0 := ρ0) hD
  refine lv_iconst (v := 0) x1 x2 dX5_init_89 (by decide) ?_
  refine lv_istore_n (lv' := [(1, .int 0), (0, .ref h0)]) x1 x2 dX5_init_90 rfl hl (by decide) rfl (fun ls hl => ?_)
  refine l_SM (ρ := w_rho ρ0 h0 c1 c2 t a b sg u v) (ρ0 := ρ0) x1 x2 hml x4 x5 hK hE rfl rfl hA ⟨Nat.le_of_ble_eq_true rfl, Nat.le_of_ble_eq_true rfl⟩ ⟨Nat.le_of_ble_eq_true rfl, Nat.le_of_ble_eq_true rfl⟩ (fun H locs ls hP hD hS => ?_) 75 0 H locs ls rfl hP hD hS (lv_sub hl [1, 0] rfl)
  exact W.vret x1 x2 x6 (fun T hT hW => ⟨⟨w_rho ρ0 h0 c1 c2 t a b sg u v, rfl, ⟨rfl, rfl, rfl⟩, by rw [hT]; exact hP, va_K.moved hW.alike hK, hD⟩, hS.F hT⟩) hS.2.2 dX5_init_140 x7

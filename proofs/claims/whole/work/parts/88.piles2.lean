/-! constructors that call constructors; the piles -/
theorem sk_right {D : va_G} {cl : List vw_C} {a b : va_W} {H : Heap} (h : va_P D cl (a ++ b) H) : va_P D cl b H := fun k q hk => h (a.length + k) q (by rw [List.getElem?_append_right (by omega), Nat.add_sub_cancel_left]; exact hk)
theorem sk_left {D : va_G} {cl : List vw_C} {a b : va_W} {H : Heap} (h : va_P D cl (a ++ b) H) : va_P D cl a H := fun k q hk => h k q (by rw [List.getElem?_append_left (List.getElem?_eq_some_iff.mp hk).1]; exact hk)
theorem sk_at {a b : va_W} {k : Nat} {q : Nat × va_E} (hk : b[k]? = some q) : (a ++ b)[a.length + k]? = some q := by rw [List.getElem?_append_right (by omega), Nat.add_sub_cancel_left]; exact hk
theorem sk_rightD {A : Nat → Prop} {a b : va_W} (h : va_D A (a ++ b)) : va_D A b := ⟨fun i j p q hi hj e => by have := h.1 _ _ p q (sk_at hi) (sk_at hj) e; omega, fun k q hk => h.2 _ q (sk_at hk)⟩
theorem sk_leftD {A : Nat → Prop} {a b : va_W} (h : va_D A (a ++ b)) : va_D A a := ⟨fun i j p q hi hj e => h.1 i j p q (by rw [List.getElem?_append_left (List.getElem?_eq_some_iff.mp hi).1]; exact hi) (by rw [List.getElem?_append_left (List.getElem?_eq_some_iff.mp hj).1]; exact hj) e, fun k q hk => h.2 k q (by rw [List.getElem?_append_left (List.getElem?_eq_some_iff.mp hk).1]; exact hk)⟩
theorem sk_join {A0 : Nat → Prop} {D : va_G} {cl : List vw_C} {a c c1 : va_W} {H H1 : Heap} (hP : va_P D cl (a ++ c) H) (hD : va_D A0 (a ++ c)) (hk : ∀ q : Nat, q < H.size → ¬ va_A c H.size q → H1[q]? = H[q]?) (hF : ∀ q, va_A c H.size q → A0 q) (hP1 : va_P D cl c1 H1) (hD1 : va_D (va_A c H.size) c1) : va_P D cl (a ++ c1) H1 ∧ va_D A0 (a ++ c1) := by
  have apart : ∀ (i : Nat) (x : Nat × va_E), a[i]? = some x → x.1 < H.size ∧ ¬ va_A c H.size x.1 := fun i x hx => by
    have hl := (sk_left hP i x hx).lt
    refine ⟨hl, fun h => ?_⟩
    rcases h with ⟨k, e, h⟩ | h
    · have h3 : (a ++ c)[i]? = some x := by rw [List.getElem?_append_left (List.getElem?_eq_some_iff.mp hx).1]; exact hx
      have := hD.1 i (a.length + k) x (x.1, e) h3 (sk_at h) rfl
      have := (List.getElem?_eq_some_iff.mp hx).1
      omega
    · omega
  refine ⟨va_P.app (fun k q hq => ?_) hP1, va_D.app (sk_leftD hD) (hD1.weaken (fun k q _ h => hF q.1 h)) (fun i j x y hx hy hxy => ?_)⟩
  · obtain ⟨g1, g2⟩ := apart k q hq
    exact (sk_left hP k q hq).kept (hk q.1 g1 g2)
  · exact (apart i x hx).2 (by rw [hxy]; exact hD1.2 j y hy)
theorem sk_free {A : Nat → Prop} {a c : va_W} {s : State} {H : Heap} {locs : List Loc} (hD : va_D A (a ++ c)) (hS : va_S A s.heap H locs) (hA : ∀ q : Nat, s.heap.size ≤ q → A q) : ∀ q, va_A c H.size q → A q := fun q h => by
  rcases h with ⟨k, e, h⟩ | h
  · exact (sk_rightD hD).2 k _ h
  · exact hA q (Nat.le_trans hS.1 h)
theorem sk_pre {D : va_G} {cI cF : ClassId} {A : Nat → Prop} {s : State} {H : Heap} {as : List Value} {ws : va_W} (hP : va_P D vc6 ws H) (hK : va_K D vc6 (sm_ty cI cF) s) (hD : va_D A ws) : PreS s H (sk_Pc D cI cF as ws H.size) as := ⟨sk_blind, fun U hU hW => ⟨rfl, by rw [hU], by rw [hU]; exact hP, va_K.moved hW.alike hK, hD.weaken (fun _ _ _ _ => trivial)⟩⟩
section
variable {p : Program} {l : Launch} {e : Env} {R : Room} {s : State} {m : MethodId} {args : Array Value} {below : List Frame} {meth : Method} {c : Code} {H : Heap} {locs : List Loc} {cells slots : Nat} {Q : State → Prop}
variable {cc : ByteArray} {pc : Nat} {ls : Array Slot} {rest st0 : List Value} {D : va_G} {A : Nat → Prop} {cI cF : ClassId}
/-- behind a constructor's call: the world's last cell has become its cells -/
theorem sk_ctor {w : va_W} {q : Nat} {e0 : va_E} {F : (Nat → Nat) → va_W} {mc ms : Nat} {a0 : Array Value} (hr : va_Run p l e R s m args below meth c H locs cells slots mc ms (F0 m pc ls st0) rest (sk_Q D cI cF (va_A [(q, e0)] H.size) q F a0) (va_A [(q, e0)] H.size)) (hP : va_P D vc6 (w ++ [(q, e0)]) H) (hD : va_D A (w ++ [(q, e0)])) (hS : va_S A s.heap H locs) (hA : ∀ q : Nat, s.heap.size ≤ q → A q)
    (kk : ∀ (α : Nat → Nat) (H1 : Heap) (locs1 : List Loc), α 0 = q → va_P D vc6 (w ++ F α) H1 → va_D A (w ++ F α) → va_S A s.heap H1 locs1 → W p l e R s m args below meth c H1 locs1 (cells + mc) (slots + ms) Q (F0 m (pc + 3) ls rest)) : W p l e R s m args below meth c H locs cells slots Q (F0 m pc ls st0) := by
  have hF := sk_free hD hS hA
  refine va_callv hr hS (fun q _ h => hF q h) hF (fun α t H1 locs1 ht hvm hw hB hz1 hk1 hS1 => ?_)
  obtain ⟨hP1, hK1, hD1⟩ := hB
  rw [ht] at hP1
  obtain ⟨a, b⟩ := sk_join hP hD hk1 hF hP1 hD1
  exact kk α H1 locs1 hw a b hS1
end
theorem wd_init {X : MethodName} {cc : ByteArray} {n : Nat} (h : Cond.initialized X.cls ∈ gw ∧ Cond.code X cc n none ∈ gw ∧ Cond.instanceMethod X ∈ gw) : GoodIn gw (.code X cc n none :: gw) := by
  intro w hw
  rcases List.mem_cons.mp hw with rfl | hw
  · exact sm_good h.2.1
  · exact sm_good hw
theorem li_Field : Cond.initialized yX0_init.cls ∈ gw ∧ Cond.code yX0_init cX0_init 1 none ∈ gw ∧ Cond.instanceMethod yX0_init ∈ gw := ⟨List.mem_filter.mpr ⟨by decide +kernel, by decide +kernel⟩, List.mem_filter.mpr ⟨by decide +kernel, by decide +kernel⟩, List.mem_filter.mpr ⟨by decide +kernel, by decide +kernel⟩⟩
theorem li_Text : Cond.initialized yX4_init.cls ∈ gw ∧ Cond.code yX4_init cX4_init 1 none ∈ gw ∧ Cond.instanceMethod yX4_init ∈ gw := ⟨List.mem_filter.mpr ⟨by decide +kernel, by decide +kernel⟩, List.mem_filter.mpr ⟨by decide +kernel, by decide +kernel⟩, List.mem_filter.mpr ⟨by decide +kernel, by decide +kernel⟩⟩
theorem li_Sight : Cond.initialized yX3_init.cls ∈ gw ∧ Cond.code yX3_init cX3_init 1 none ∈ gw ∧ Cond.instanceMethod yX3_init ∈ gw := ⟨List.mem_filter.mpr ⟨by decide +kernel, by decide +kernel⟩, List.mem_filter.mpr ⟨by decide +kernel, by decide +kernel⟩, List.mem_filter.mpr ⟨by decide +kernel, by decide +kernel⟩⟩
theorem li_Pile : Cond.initialized yX1_init.cls ∈ gw ∧ Cond.code yX1_init cX1_init 3 none ∈ gw ∧ Cond.instanceMethod yX1_init ∈ gw := ⟨List.mem_filter.mpr ⟨by decide +kernel, by decide +kernel⟩, List.mem_filter.mpr ⟨by decide +kernel, by decide +kernel⟩, List.mem_filter.mpr ⟨by decide +kernel, by decide +kernel⟩⟩
/-- a class's object can be made -/
theorem ln_Pile_Field : Cond.classLink RX1 13 RX0 ∈ gw ∧ Cond.instantiable RX0 17 ∈ gw ∧ Cond.initialized RX0 ∈ gw := ⟨List.mem_filter.mpr ⟨by decide +kernel, by decide +kernel⟩, List.mem_filter.mpr ⟨by decide +kernel, by decide +kernel⟩, List.mem_filter.mpr ⟨by decide +kernel, by decide +kernel⟩⟩
theorem lo_Pile : Cond.methodLink RX1 1 objectInit ∈ gw := List.mem_filter.mpr ⟨by decide +kernel, by decide +kernel⟩
theorem lf_Pile : sm_fl RX1 15 1 0 := ⟨by decide, by decide, List.mem_filter.mpr ⟨by decide +kernel, by decide +kernel⟩⟩
theorem lm_Pile : Cond.methodLink RX1 7 Lib.Math.max.name ∈ gw ∧ Cond.static Lib.Math.max.name ∈ gw ∧ Cond.initialized "java/lang/Math" ∈ gw ∧ Cond.code Lib.Math.max.name Lib.Math.max.code 2 (some .int) ∈ gw := ⟨List.mem_filter.mpr ⟨by decide +kernel, by decide +kernel⟩, List.mem_filter.mpr ⟨by decide +kernel, by decide +kernel⟩, List.mem_filter.mpr ⟨by decide +kernel, by decide +kernel⟩, List.mem_filter.mpr ⟨by decide +kernel, by decide +kernel⟩⟩
theorem w_Field_e {cI : ClassId} {a b : Nat → Nat} (h : ∀ k, k < 8 → a k = b k) : w_Field cI a = w_Field cI b := by
  unfold w_Field
  rw [h 0 (by decide), h 1 (by decide), h 2 (by decide), h 3 (by decide), h 4 (by decide), h 5 (by decide), h 6 (by decide), h 7 (by decide)]
def w_FL (cI : ClassId) (α : Nat → Nat) : Nat → va_W
  | 0 => []
  | i + 1 => w_FL cI α i ++ w_Field cI (fun k => α (2 + 8 * i + k))
theorem w_FL_e {cI : ClassId} {a b : Nat → Nat} : ∀ i, (∀ k, k < 2 + 8 * i → a k = b k) → w_FL cI a i = w_FL cI b i
  | 0, _ => rfl
  | i + 1, h => by
    unfold w_FL
    rw [w_FL_e i (fun k hk => h k (by omega)), w_Field_e (a := fun k => a (2 + 8 * i + k)) (b := fun k => b (2 + 8 * i + k)) (fun k hk => h _ (by omega))]
def w_PR (α : Nat → Nat) (i : Nat) : Nat → Option Nat := fun j => if j < i then some (α (2 + 8 * j)) else none
def w_Pile (cI cF : ClassId) (N : Nat) (i : Nat) (α : Nat → Nat) : va_W := (α 0, .inr (1, [.ref (α 1), .int 0, .int 0])) :: (α 1, .inl (cF, N, .inr (.inr (.inr (.inr (w_PR α i)))))) :: w_FL cI α i
/-- what a pile's constructor needs of the tables -/
def sk_N (U : State) : Prop := va_AO RX0 U ∧ va_Nw (.methodLinkNest RX1 21 yX0_init RX5) U
theorem sk_N.warm {s U : State} (hW : s.WarmedH U.vm) (h : sk_N s) : sk_N U := ⟨h.1.moved hW.alike, va_Nw.warmM hW h.2⟩
def sk_PcN (D : va_G) (cI cF : ClassId) (as : List Value) (ws : va_W) (sz : Nat) : Array Value → State → Prop := va_Pc as (fun U => U.heap.size = sz ∧ va_P D vc6 ws U.heap ∧ va_K D vc6 (sm_ty cI cF) U ∧ va_D (fun _ => True) ws ∧ sk_N U)
theorem sk_blindN {D : va_G} {cI cF : ClassId} {as : List Value} {ws : va_W} {sz : Nat} : FrameBlind (sk_PcN D cI cF as ws sz) := by
  intro a U g mk h
  obtain ⟨h0, h1, h2, h3, h4, h5⟩ := h
  exact ⟨h0, h1, h2, va_K.moved (u := U) (U := U.calling g mk a) (Vm.Alike.refl U.vm) h3, h4, h5.1.moved (u := U) (U := U.calling g mk a) (Vm.Alike.refl U.vm), h5.2.same rfl rfl⟩
set_option maxHeartbeats 4000000 in
set_option maxRecDepth 100000 in
/-- the loop of Pile: i Fields stand -/
theorem l_Pile {p : Program} {l : Launch} {e : Env} {s : State} {m : MethodId} {args : Array Value} {below : List Frame} {meth : Method} {c : Code} {D : va_G} {A : Nat → Prop} {cI cF : ClassId} {N : Nat} {R : Room} {Q : State → Prop} (x1 : p.tables.exec = Jvm.exec) (x2 : c.code = cX1_init) (x3 : c.maxLocals = 3) (x4 : s.vm.findClass RX1 = some m.cls) (x5 : ∀ w ∈ gw, w.before args s = true) (hK : va_K D vc6 (sm_ty cI cF) s) (hN : sk_N s) (hA : ∀ q : Nat, s.heap.size ≤ q → A q) (hN8 : N ≤ 8) (hR : 2 ≤ R.frames ∧ 80 ≤ R.locals) (C0 S0 : Nat) (hRc : C0 + 8 * N ≤ R.cells) (hRs : S0 + 65 * N ≤ R.slots) (hz : Nat)
    (kk : ∀ (α : Nat → Nat) (H : Heap) (locs : List Loc) (ls : Array Slot), va_P D vc6 (w_Pile cI cF N N α) H → va_D A (w_Pile cI cF N N α) → va_S A s.heap H locs → α 0 = hz → W p l e R s m args below meth c H locs (C0 + 8 * N) (S0 + 65 * N) Q (F0 m 46 ls [])) :
    ∀ (n i : Nat) (α : Nat → Nat) (H : Heap) (locs : List Loc) (ls : Array Slot) (h0 : Nat), i + n = N → α 0 = h0 ∧ h0 = hz → va_P D vc6 (w_Pile cI cF N i α) H → va_D A (w_Pile cI cF N i α) → va_S A s.heap H locs → lv_has ls 3 [(0, .ref h0), (2, .int (nI i))] → W p l e R s m args below meth c H locs (C0 + 8 * i) (S0 + 65 * i) Q (F0 m 18 ls []) := by
  intro n
  induction n with
  | zero =>
    intro i α H locs ls h0 hi ha hP hD hS hl
    obtain rfl : i = N := by omega
    obtain ⟨ha, hz0⟩ := ha
    subst ha
    refine lv_iload_n x1 x2 dX1_init_18 rfl (lv_at hl 1 rfl) ?_
    refine lv_aload_n x1 x2 dX1_init_19 rfl (lv_at hl 0 rfl) ?_
    refine va_get (D := D) (ws := w_Pile cI cF i i α) (ci := 1) (v := .ref (α 1)) (C := RX1) (T := TX1) (N := 3) (ref := "SmellMoorings$Pile") x1 x2 x5 (sm_in 1 (by decide)) x4 hK hP 0 rfl rfl 0 (by decide) (x5 _ lf_Pile.2.2) (fun _ h => h) rfl dX1_init_20 ?_
    refine va_alen (ws := w_Pile cI cF i i α) (v := nI i) x1 x2 hK hP 1 1 rfl rfl rfl dX1_init_23 ?_
    refine lv_icmp_ge (tgt := 46) x1 x2 dX1_init_24 (by decide) (fun _ => kk α H locs ls hP hD hS hz0) (fun h => absurd (Int32.le_refl _) h)
  | succ n ih =>
    intro i α H locs ls h0 hi ha hP hD hS hl
    obtain ⟨ha, hz0⟩ := ha
    subst ha
    have hiN : i < N := by omega
    refine lv_iload_n x1 x2 dX1_init_18 rfl (lv_at hl 1 rfl) ?_
    refine lv_aload_n x1 x2 dX1_init_19 rfl (lv_at hl 0 rfl) ?_
    refine va_get (D := D) (ws := w_Pile cI cF N i α) (ci := 1) (v := .ref (α 1)) (C := RX1) (T := TX1) (N := 3) (ref := "SmellMoorings$Pile") x1 x2 x5 (sm_in 1 (by decide)) x4 hK hP 0 rfl rfl 0 (by decide) (x5 _ lf_Pile.2.2) (fun _ h => h) rfl dX1_init_20 ?_
    refine va_alen (ws := w_Pile cI cF N i α) (v := nI N) x1 x2 hK hP 1 1 rfl rfl rfl dX1_init_23 ?_
    refine lv_icmp_ge (tgt := 46) x1 x2 dX1_init_24 (by decide) (fun h => absurd ((nI_leI (by omega) (by omega)).mp h) (by omega)) (fun _ => ?_)
    refine lv_aload_n x1 x2 dX1_init_27 rfl (lv_at hl 0 rfl) ?_
    refine va_get (D := D) (ws := w_Pile cI cF N i α) (ci := 1) (v := .ref (α 1)) (C := RX1) (T := TX1) (N := 3) (ref := "SmellMoorings$Pile") x1 x2 x5 (sm_in 1 (by decide)) x4 hK hP 0 rfl rfl 0 (by decide) (x5 _ lf_Pile.2.2) (fun _ h => h) rfl dX1_init_28 ?_
    refine lv_iload_n x1 x2 dX1_init_31 rfl (lv_at hl 1 rfl) ?_
    refine va_new (ci := 0) (fs := w_Field0) (C := RX0) (T := TX0) (N := 17) x1 x2 x5 (sm_in 0 (by decide)) tyX0 tyX0_ok x4 (x5 _ ln_Pile_Field.1) (x5 _ ln_Pile_Field.2.1) (x5 _ ln_Pile_Field.2.2) hK hP hD hS hA rfl (fun j hj => by rcases (show j = 0 ∨ j = 1 ∨ j = 2 ∨ j = 3 ∨ j = 4 ∨ j = 5 ∨ j = 6 ∨ j = 7 ∨ j = 8 ∨ j = 9 ∨ j = 10 ∨ j = 11 ∨ j = 12 ∨ j = 13 ∨ j = 14 ∨ j = 15 ∨ j = 16 by omega) with rfl | rfl | rfl | rfl | rfl | rfl | rfl | rfl | rfl | rfl | rfl | rfl | rfl | rfl | rfl | rfl | rfl <;> rfl) (by omega) (by omega) dX1_init_32 (fun q H hP hD hS => ?_)
    refine lv_dup x1 x2 dX1_init_35 rfl ?_
    refine sk_ctor (mc := 7) (ms := 48) (F := w_Field cI) (va_runIN (As := []) (host := RX5) (own := RX1) (Ts := gw) (nL := 3) ⟨x1, x2, x3, x4, x5⟩ (k_Field l D cI cF q H.size) ⟨va_cnB 0 x5 (wd_init li_Field) rfl rfl rfl hN.2 (x5 _ li_Field.1) (by decide +kernel) ⟨by show 1 + 1 ≤ R.frames; omega, by show 8 + (1 + 11) + 40 ≤ R.locals; omega⟩, rfl, x5 _ li_Field.2.2⟩ (sk_pre (sk_right hP) hK (sk_rightD hD)) rfl rfl hl.1 rfl (lv_room (Nat.le_of_ble_eq_true rfl)) dX1_init_36 ⟨by omega, by omega⟩) hP hD hS hA (fun β H locs hβ hP hD hS => ?_)
    have hqk : (w_Pile cI cF N i α ++ w_Field cI β)[(w_Pile cI cF N i α).length + 0]? = some (q, .inr (0, [.int 0, .int 0, .int 0, .int 0, .int 0, .int 0, .int 0, .int 0, .int 0, .int 0, .ref (β 1), .ref (β 2), .ref (β 3), .ref (β 4), .ref (β 5), .ref (β 6), .ref (β 7)])) := sk_at (by rw [← hβ]; rfl)
    refine va_astq (ws := w_Pile cI cF N i α ++ w_Field cI β) x1 x2 hK hP hD hS 1 1 ((w_Pile cI cF N i α).length + 0) 0 (cA := cF) (n := N) (f := w_PR α i) (r := (RX0, TX0, 17)) rfl rfl hqk rfl (vp_in_nI hiN (by omega)) dX1_init_39 (fun H locs hP hD hS => ?_)
    refine lv_iinc (v := nI (i + 1)) (lv' := [(2, .int (nI (i + 1))), (0, .ref (α 0))]) x1 x2 dX1_init_40 hl (k := 1) rfl (nI_1 i) (by decide) rfl (fun ls hl => ?_)
    refine lv_goto (tgt := 18) x1 x2 dX1_init_43 (by decide) ?_
    have e : (w_Pile cI cF N i α ++ w_Field cI β).set 1 (α 1, .inl (cF, N, .inr (.inr (.inr (.inr (va_up (w_PR α i) (nI i).toNatClampNeg (some q))))))) = w_Pile cI cF N (i + 1) (fun k => if k < 2 + 8 * i then α k else β (k - (2 + 8 * i))) := by
      have e1 : w_FL cI (fun k => if k < 2 + 8 * i then α k else β (k - (2 + 8 * i))) (i + 1) = w_FL cI α i ++ w_Field cI β := by
        show w_FL cI (fun k => if k < 2 + 8 * i then α k else β (k - (2 + 8 * i))) i ++ w_Field cI (fun k => (fun k => if k < 2 + 8 * i then α k else β (k - (2 + 8 * i))) (2 + 8 * i + k)) = _
        rw [w_FL_e (b := α) i (fun k hk => if_pos hk), w_Field_e (b := β) (fun k _ => by
          dsimp only
          rw [if_neg (by omega)]
          congr 1
          omega)]
      have e2 : va_up (w_PR α i) (nI i).toNatClampNeg (some q) = w_PR (fun k => if k < 2 + 8 * i then α k else β (k - (2 + 8 * i))) (i + 1) := by
        funext j
        rw [nI_clamp (by omega)]
        unfold va_up w_PR
        dsimp only
        by_cases a : j = i
        · rw [if_pos a, if_pos (by omega), if_neg (by omega), ← hβ, a, Nat.sub_self]
        · rw [if_neg a]
          by_cases b : j < i
          · rw [if_pos b, if_pos (by omega), if_pos (by omega)]
          · rw [if_neg b, if_neg (by omega)]
      rw [e2]
      have a0 : (fun k => if k < 2 + 8 * i then α k else β (k - (2 + 8 * i))) 0 = α 0 := if_pos (by omega)
      have a1 : (fun k => if k < 2 + 8 * i then α k else β (k - (2 + 8 * i))) 1 = α 1 := if_pos (by omega)
      unfold w_Pile
      rw [e1, a0, a1]
      rfl
    rw [e] at hP hD
    have h8 : C0 + 8 * i + 1 + 7 = C0 + 8 * (i + 1) := by omega
    have h65 : S0 + 65 * i + 17 + 48 = S0 + 65 * (i + 1) := by omega
    rw [h8, h65]
    exact ih (i + 1) (fun k => if k < 2 + 8 * i then α k else β (k - (2 + 8 * i))) H locs ls (α 0) (by omega) ⟨if_pos (by omega), hz0⟩ hP hD hS (lv_sub hl [1, 0] rfl)
def w_PileF (cI cF : ClassId) (N : Nat) (α : Nat → Nat) : va_W := (α 0, .inr (1, [.ref (α 1), .int 0, .int 0])) :: (α 1, .inl (cF, N, .inr (.inr (.inr (.inr (fun j => some (α (2 + 8 * j)))))))) :: w_FL cI α N
theorem w_PileF_P {D : va_G} {cI cF : ClassId} {N : Nat} {α : Nat → Nat} {H : Heap} (h : va_P D vc6 (w_Pile cI cF N N α) H) : va_P D vc6 (w_PileF cI cF N α) H := by
  intro k q hk
  match k with
  | 0 => exact h 0 q hk
  | 1 =>
    cases hk
    have h1 : H[α 1]? = some (vp_cell cF (N, .inr (.inr (.inr (.inr (w_PR α N)))))) := h 1 _ rfl
    show H[α 1]? = some (vp_cell cF (N, .inr (.inr (.inr (.inr (fun j => some (α (2 + 8 * j))))))))
    rw [h1, vp_cell_q, vp_cell_q]
    congr 1
    unfold arrV
    congr 2
    funext j
    unfold w_PR
    dsimp only
    rw [if_pos j.2]
  | k + 2 => exact h (k + 2) q hk
theorem w_PileF_D {A : Nat → Prop} {cI cF : ClassId} {N : Nat} {α : Nat → Nat} (h : va_D A (w_Pile cI cF N N α)) : va_D A (w_PileF cI cF N α) := h.set (p := 1) (a := α 1) (e := .inl (cF, N, .inr (.inr (.inr (.inr (fun j => some (α (2 + 8 * j)))))))) (e0 := .inl (cF, N, .inr (.inr (.inr (.inr (w_PR α N)))))) rfl
set_option maxHeartbeats 4000000 in
set_option maxRecDepth 100000 in
theorem k_Pile (l : Launch) (D : va_G) (cI cF : ClassId) (h0 sz N : Nat) (hN1 : 1 ≤ N) (hN8 : N ≤ 8) : Met l yX1_init (.code yX1_init cX1_init 3 none :: gw) ({ frames := 2, cells := 1 + 8 * N, slots := N + 65 * N, locals := 100 } : Room) (sk_PcN D cI cF [.ref h0, .int (nI N)] [(h0, .inr (1, [.null, .int 0, .int 0]))] sz) (sk_Q D cI cF (va_A [(h0, .inr (1, [.null, .int 0, .int 0]))] sz) h0 (w_PileF cI cF N)) (1 + 8 * N) (N + 65 * N) (va_A [(h0, .inr (1, [.null, .int 0, .int 0]))] sz) := by
  refine Met.ofW (cc := cX1_init) (maxL := 3) (ret := none) (by decide) rfl ?_
  intro p e s m args below meth c s₁ B hml hv
  obtain ⟨rfl, hsz, hP, hK, hD0, hN⟩ := hv
  have x1 := B.exec
  have x2 := B.bytes
  have x6 := B.returns
  have hts0 := atoms_spec (ws := .code yX1_init cX1_init 3 none :: gw) B.pre
  have x5 : ∀ w ∈ gw, w.before #[Value.ref h0, Value.int (nI N)] s = true := fun w hw => hts0 w (List.mem_cons_of_mem _ hw)
  have x4 : s.vm.findClass RX1 = some m.cls := findClass_of_methodNamed B.named
  have x7 := B.notSynchronized
  have hin : meth.name = "<init>" := (name_of_methodNamed B.named B.method).1
  subst hsz
  have hD := hD0.self (sz := s.heap.size)
  generalize hAe : va_A [(h0, .inr (1, [.null, .int 0, .int 0]))] s.heap.size = A at hD ⊢
  have hA : ∀ q : Nat, s.heap.size ≤ q → A q := fun q h => by rw [← hAe]; exact Or.inr h
  have hS : va_S A s.heap s.heap [] := va_S.rf
  have hl := lv_entry ([.ref h0, .int (nI N)]) (n := 3) (Nat.le_of_ble_eq_true rfl)
  rw [lg_entry_eq]
  generalize (lg_sl ([.ref h0, .int (nI N)]) ++ List.replicate (3 - (lg_sl ([.ref h0, .int (nI N)])).length) Slot.unset).toArray = ls at hl ⊢
  have hl : lv_has ls 3 [(0, .ref h0), (1, .int (nI N))] := hl
  refine lv_aload_n x1 x2 dX1_init_0 rfl (lv_at hl 0 rfl) ?_
  refine W.objInit x1 x2 x4 (x5 _ lo_Pile) (x5 _ obj_i) (x5 _ obj_c) rfl (by rw [hml]; exact hl.1) rfl dX1_init_1 (Nat.le_of_ble_eq_true rfl) (Nat.le_of_ble_eq_true rfl) ?_
  refine W.eq (g2 := F0 m 4 ls []) rfl ?_
  refine lv_aload_n x1 x2 dX1_init_4 rfl (lv_at hl 0 rfl) ?_
  refine lv_iconst (v := 1) x1 x2 dX1_init_5 (by decide) ?_
  refine lv_iload_n x1 x2 dX1_init_6 rfl (lv_at hl 1 rfl) ?_
  refine va_mmax x1 x2 (by rw [hml]; exact hl.1.symm) x4 (x5 _ lm_Pile.1) (x5 _ lm_Pile.2.1) (x5 _ lm_Pile.2.2.1) (x5 _ lm_Pile.2.2.2) (Nat.le_of_ble_eq_true rfl) (Nat.le_of_ble_eq_true rfl) (Nat.zero_le _) (Nat.zero_le _) dX1_init_7 ?_
  have em : (if (1 : Int32) < nI N then nI N else 1) = nI N := by
    by_cases h : N = 1
    · rw [h]
      rfl
    · rw [if_pos (show (1 : Int32) < nI N from (nI_ltI (a := 1) (by decide) (by omega)).mpr (by omega))]
  rw [em]
  refine va_newq (N' := N) x1 x2 x4 (x5 _ ln_Pile_Field.1) hN.1 hK hP hD hS hA (nI_pos (by omega)) (nI_clamp (by omega)) (by omega) (by show 0 + 1 ≤ 1 + 8 * N; omega) (by show 0 + N ≤ N + 65 * N; omega) dX1_init_10 (fun r cA H hK1 hP hD hS => ?_)
  obtain rfl := sk_cF hK1
  have hP : va_P D vc6 [(h0, .inr (1, [.null, .int 0, .int 0])), (r, .inl (cA, N, .inr (.inr (.inr (.inr (fun _ => none))))))] H := hP
  have hD : va_D A [(h0, .inr (1, [.null, .int 0, .int 0])), (r, .inl (cA, N, .inr (.inr (.inr (.inr (fun _ => none))))))] := hD
  refine va_putF (D := D) (ci := 1) (v := .ref r) (ty := .array (.object "SmellMoorings$Field")) (C := RX1) (T := TX1) (N := 3) (ref := "SmellMoorings$Pile") x1 x2 x5 (sm_in 1 (by decide)) tyX1 tyX1_ok nmX1 x4 hK hP hD hS 0 rfl rfl 0 (by decide) (x5 _ lf_Pile.2.2) (fun _ h => h) rfl hin rfl (by decide +kernel) rfl rfl (Nat.le_of_ble_eq_true rfl) dX1_init_13 (fun H locs hP hD hS => ?_)
  refine lv_iconst (v := 0) x1 x2 dX1_init_16 (by decide) ?_
  refine lv_istore_n (lv' := [(2, .int 0), (0, .ref h0), (1, .int (nI N))]) x1 x2 dX1_init_17 rfl hl (by decide) rfl (fun ls hl => ?_)
  have e0 : w_Pile cI cA N 0 (fun k => if k = 0 then h0 else r) = [(h0, .inr (1, [.ref r, .int 0, .int 0])), (r, .inl (cA, N, .inr (.inr (.inr (.inr (fun _ => none))))))] := by
    unfold w_Pile w_FL
    have : w_PR (fun k => if k = 0 then h0 else r) 0 = fun _ => none := by
      funext j
      unfold w_PR
      rw [if_neg (by omega)]
    rw [this]
    rfl
  have hP : va_P D vc6 (w_Pile cI cA N 0 (fun k => if k = 0 then h0 else r)) H := by rw [e0]; exact hP
  have hD : va_D A (w_Pile cI cA N 0 (fun k => if k = 0 then h0 else r)) := by rw [e0]; exact hD
  rw [show 0 + N = N + 65 * 0 by omega]
  refine l_Pile (R := ({ frames := 2, cells := 1 + 8 * N, slots := N + 65 * N, locals := 100 } : Room)) x1 x2 hml x4 x5 hK hN hA hN8 ⟨Nat.le_refl _, Nat.le_of_ble_eq_true rfl⟩ 1 N (Nat.le_refl _) (Nat.le_refl _) h0 (fun α H locs ls hP hD hS hα => ?_) N 0 (fun k => if k = 0 then h0 else r) H locs ls h0 (by omega) ⟨rfl, rfl⟩ hP hD hS (lv_sub hl [1, 0] rfl)
  exact W.vret x1 x2 x6 (fun t ht hW => ⟨⟨α, rfl, hα, by rw [ht]; exact w_PileF_P hP, va_K.moved hW.alike hK, w_PileF_D hD⟩, hS.F ht⟩) hS.2.2 dX1_init_46 x7

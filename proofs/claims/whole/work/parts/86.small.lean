/-! the contracts of addLetter and readInto over a world of 110 cells, written by ncopy.py: the model does not exist yet -/
def n_sm_ocl (k : Nat) : Option Nat := if k < 96 then (if k % 8 = 0 then some 0 else none) else
  if k = 96 then some 4 else if k = 97 then some 3 else if k = 100 then some 2 else if k = 104 then some 1 else if k = 106 then some 1 else none
def n_sm_aln (k : Nat) : Option Nat := if k < 96 then (if k % 8 = 0 then none else if k % 8 < 5 then some 6 else some 8) else
  if k = 98 then some 200 else if k = 99 then some 3 else if k = 101 then some 6 else if k = 102 then some 6 else if k = 103 then some 6 else if k = 108 then some 81 else if k = 109 then some 81 else none
def n_sm_cel (ρ : Nat → Nat) (cI cF : ClassId) (σ : sm_St) (k : Nat) : va_E := match n_sm_ocl k with
  | some ci => .inr (ci, (List.range (sm_c ci).2.2).map (sm_fv ρ σ ci k))
  | none => match sm_rln k with
    | some nb => .inl (cF, nb.1, .inr (.inr (.inr (.inr (fun i => some (ρ (nb.2 + 8 * i)))))))
    | none => .inl (cI, (n_sm_aln k).getD 0, .inl (σ k))
def n_sm_ws (ρ : Nat → Nat) (cI cF : ClassId) (σ : sm_St) : va_W := (List.range 110).map (fun k => (ρ k, n_sm_cel ρ cI cF σ k))
theorem n_sm_ws_at {ρ : Nat → Nat} {cI cF : ClassId} {σ : sm_St} {k : Nat} (hk : k < 110) : (n_sm_ws ρ cI cF σ)[k]? = some (ρ k, n_sm_cel ρ cI cF σ k) := by
  unfold n_sm_ws
  rw [List.getElem?_map, List.getElem?_range hk]
  rfl
theorem n_sm_ws_of {ρ : Nat → Nat} {cI cF : ClassId} {σ : sm_St} {k : Nat} {q : Nat × va_E} (h : (n_sm_ws ρ cI cF σ)[k]? = some q) : k < 110 ∧ q = (ρ k, n_sm_cel ρ cI cF σ k) := by
  have hk : k < 110 := by
    have := (List.getElem?_eq_some_iff.mp h).1
    simpa [n_sm_ws] using this
  exact ⟨hk, (Option.some.inj ((n_sm_ws_at hk).symm.trans h)).symm⟩
/-- which cells are apart doesn't hang on what they hold -/
theorem n_sm_D {A : Nat → Prop} {ρ : Nat → Nat} {cI cF : ClassId} {σ σ' : sm_St} (h : va_D A (n_sm_ws ρ cI cF σ)) : va_D A (n_sm_ws ρ cI cF σ') := by
  refine ⟨fun i j p q hi hj e => ?_, fun k q hk => ?_⟩
  · obtain ⟨h1, rfl⟩ := n_sm_ws_of hi
    obtain ⟨h2, rfl⟩ := n_sm_ws_of hj
    exact h.1 i j _ _ (n_sm_ws_at h1) (n_sm_ws_at h2) e
  · obtain ⟨h1, rfl⟩ := n_sm_ws_of hk
    exact h.2 k (ρ k, n_sm_cel ρ cI cF σ k) (n_sm_ws_at h1)
theorem n_sm_ocl_lt {k ci : Nat} (h : n_sm_ocl k = some ci) : k < 110 ∧ ci < 6 := by
  unfold n_sm_ocl at h
  repeat' split at h
  all_goals first | (cases h; omega) | cases h
theorem n_sm_aln_ok : ∀ k, k < 110 → (n_sm_aln k = none ∨ (n_sm_ocl k = none ∧ sm_rln k = none ∧ (n_sm_aln k).getD 0 < 1000)) := by decide +kernel
theorem n_sm_aln_lt {k n : Nat} (h : n_sm_aln k = some n) : k < 110 ∧ n_sm_ocl k = none ∧ sm_rln k = none ∧ n < 1000 := by
  have hk : k < 110 := by
    refine Nat.not_le.mp fun hk => ?_
    unfold n_sm_aln at h
    repeat rw [if_neg (by omega)] at h
    cases h
  rcases n_sm_aln_ok k hk with h1 | ⟨h1, h2, h3⟩
  · rw [h1] at h; cases h
  · rw [h] at h3
    exact ⟨hk, h1, h2, h3⟩
theorem n_sm_cel_o {ρ : Nat → Nat} {cI cF : ClassId} {σ : sm_St} {k ci : Nat} (h : n_sm_ocl k = some ci) : n_sm_cel ρ cI cF σ k = .inr (ci, (List.range (sm_c ci).2.2).map (sm_fv ρ σ ci k)) := by
  unfold n_sm_cel
  rw [h]
theorem n_sm_cel_a {ρ : Nat → Nat} {cI cF : ClassId} {σ : sm_St} {k n : Nat} (h : n_sm_aln k = some n) : n_sm_cel ρ cI cF σ k = .inl (cI, n, .inl (σ k)) := by
  obtain ⟨-, h1, h2, -⟩ := n_sm_aln_lt h
  unfold n_sm_cel
  rw [h1, h2, h]
  rfl
theorem n_sm_ws_put {ρ : Nat → Nat} {cI cF : ClassId} {σ : sm_St} {k i ci : Nat} {v : Int32} (h : n_sm_ocl k = some ci) (hr : sm_rf ci k i = none) (hi : i < (sm_c ci).2.2) :
    (n_sm_ws ρ cI cF σ).set k (ρ k, .inr (ci, ((List.range (sm_c ci).2.2).map (sm_fv ρ σ ci k)).set i (.int v))) = n_sm_ws ρ cI cF (sm_set σ k i v) := by
  have hk := (n_sm_ocl_lt h).1
  apply List.ext_getElem?
  intro j
  by_cases hj : j = k
  · subst hj
    rw [List.getElem?_set_self (by simp [n_sm_ws]; omega), n_sm_ws_at hk, n_sm_cel_o h]
    congr 4
    apply List.ext_getElem?
    intro a
    by_cases ha : a = i
    · subst ha
      rw [List.getElem?_set_self (by simp; omega), List.getElem?_map, List.getElem?_range hi]
      show some (Value.int v) = some (sm_fv ρ (sm_set σ j a v) ci j a)
      unfold sm_fv
      rw [hr]
      simp [sm_set, upd]
    · rw [List.getElem?_set_ne (Ne.symm ha), List.getElem?_map, List.getElem?_map]
      by_cases hb : a < (sm_c ci).2.2
      · rw [List.getElem?_range hb]
        show some (sm_fv ρ σ ci j a) = some (sm_fv ρ (sm_set σ j i v) ci j a)
        unfold sm_fv
        cases sm_rf ci j a with
        | some r => rfl
        | none => simp [sm_set, upd, ha]
      · rw [List.getElem?_eq_none (by simp; omega)]
        rfl
  · rw [List.getElem?_set_ne (Ne.symm hj)]
    by_cases hb : j < 110
    · rw [n_sm_ws_at hb, n_sm_ws_at hb]
      have e : sm_set σ k i v j = σ j := by simp [sm_set, hj]
      unfold n_sm_cel sm_fv
      rw [e]
    · rw [List.getElem?_eq_none (by simp [n_sm_ws]; omega), List.getElem?_eq_none (by simp [n_sm_ws]; omega)]
theorem n_sm_ws_row {ρ : Nat → Nat} {cI cF : ClassId} {σ : sm_St} {k n : Nat} {f : Nat → Int32} (h : n_sm_aln k = some n) :
    (n_sm_ws ρ cI cF σ).set k (ρ k, .inl (cI, n, .inl f)) = n_sm_ws ρ cI cF (sm_row σ k f) := by
  have hk := (n_sm_aln_lt h).1
  apply List.ext_getElem?
  intro j
  by_cases hj : j = k
  · subst hj
    rw [List.getElem?_set_self (by simp [n_sm_ws]; omega), n_sm_ws_at hk, n_sm_cel_a h]
    simp [sm_row]
  · rw [List.getElem?_set_ne (Ne.symm hj)]
    by_cases hb : j < 110
    · rw [n_sm_ws_at hb, n_sm_ws_at hb]
      have e : sm_row σ k f j = σ j := by simp [sm_row, hj]
      unfold n_sm_cel sm_fv
      rw [e]
    · rw [List.getElem?_eq_none (by simp [n_sm_ws]; omega), List.getElem?_eq_none (by simp [n_sm_ws]; omega)]
/-- a method's start -/
def n_sm_Wd (ρ : Nat → Nat) (D : va_G) (cI cF : ClassId) (σ : sm_St) (sz : Nat) (U : State) : Prop :=
  U.heap.size = sz ∧ va_P D vc6 (n_sm_ws ρ cI cF σ) U.heap ∧ va_K D vc6 (sm_ty cI cF) U ∧ va_D (fun _ => True) (n_sm_ws ρ cI cF σ) ∧ sm_G ρ (va_A (n_sm_ws ρ cI cF σ) sz) U U.heap
/-- a method's end -/
def n_sm_Q (ρ : Nat → Nat) (D : va_G) (cI cF : ClassId) (A : Nat → Prop) (r : Option Value) (σ' : sm_St) : Array Value → State → Outcome → State → Prop :=
  fun _ st oc t => (oc = .returned (r.map (sm_cv ρ)) ∧ va_P D vc6 (n_sm_ws ρ cI cF σ') t.heap ∧ va_K D vc6 (sm_ty cI cF) t) ∧ va_F A st t
/-- a contract: from the numbers σ and the arguments as, the answer is r and the numbers are σ' -/
def n_sm_C (y : MethodName) (cc : ByteArray) (nL : Nat) (ret : Option FieldType) (d : Nat) (as : List Value) (σ : sm_St) (r : Option Value) (σ' : sm_St) : Prop :=
  ∀ (l : Launch) (ρ : Nat → Nat) (D : va_G) (cI cF : ClassId) (sz : Nat), Met l y (.code y cc nL ret :: gw) (sm_rm d) (va_Pc (as.map (sm_cv ρ)) (n_sm_Wd ρ D cI cF σ sz)) (n_sm_Q ρ D cI cF (va_A (n_sm_ws ρ cI cF σ) sz) r σ') 0 0 (va_A (n_sm_ws ρ cI cF σ) sz)
/-- the walk: at pc, with these locals, this stack, these numbers, the method comes to its end with r and σ' -/
def n_sm_W (own : String) (cc : ByteArray) (nL : Nat) (ret : Option FieldType) (d : Nat) (r : Option Value) (σ' : sm_St) (pc : Nat) (lv : List (Nat × Value)) (st : List Value) (σ : sm_St) : Prop :=
  ∀ ⦃p : Program⦄ ⦃l : Launch⦄ ⦃e : Env⦄ ⦃s : State⦄ ⦃m : MethodId⦄ ⦃args : Array Value⦄ ⦃below : List Frame⦄ ⦃meth : Method⦄ ⦃c : Code⦄ ⦃ρ : Nat → Nat⦄ ⦃D : va_G⦄ ⦃cI cF : ClassId⦄ ⦃A : Nat → Prop⦄ ⦃H : Heap⦄ ⦃locs : List Loc⦄ ⦃ls : Array Slot⦄,
    sm_X own cc nL ret p s m args meth c ρ D cI cF A → lv_has ls nL (sm_cl ρ lv) → va_P D vc6 (n_sm_ws ρ cI cF σ) H → va_D A (n_sm_ws ρ cI cF σ) → va_S A s.heap H locs →
    W p l e (sm_rm d) s m args below meth c H locs 0 0 (MQ below (n_sm_Q ρ D cI cF A r σ') args s 0 0 A) (F0 m pc ls (st.map (sm_cv ρ)))
/-- a contract out of a walk -/
theorem n_sm_C.of {y : MethodName} {own : String} {cc : ByteArray} {nL d : Nat} {ret : Option FieldType} {as : List Value} {σ σ' : sm_St} {r : Option Value} (hy : plainName y.cls = true) (ho : y.cls = own) (hn : (lg_sl as).length ≤ nL)
    (h : n_sm_W own cc nL ret d r σ' 0 (lv_args 0 as) [] σ) : n_sm_C y cc nL ret d as σ r σ' := by
  intro l ρ D cI cF sz
  refine Met.ofW (cc := cc) (maxL := nL) (ret := ret) hy rfl ?_
  intro p e s m args below meth c s₁ B hml hv
  obtain ⟨rfl, hsz, hP, hK, hD0, hG⟩ := hv
  have hts0 := atoms_spec (ws := .code y cc nL ret :: gw) B.pre
  have hown : s.vm.findClass own = some m.cls := ho ▸ findClass_of_methodNamed B.named
  subst hsz
  have hD := hD0.self (sz := s.heap.size)
  have hA : ∀ q : Nat, s.heap.size ≤ q → va_A (n_sm_ws ρ cI cF σ) s.heap.size q := fun q h => Or.inr h
  have hcat : ∀ vs : List Value, (lg_sl (vs.map (sm_cv ρ))).length = (lg_sl vs).length := by
    intro vs
    induction vs with
    | nil => rfl
    | cons v vs ih =>
      simp only [lg_sl, List.map_cons, List.flatMap_cons, List.length_append] at ih ⊢
      rw [ih]
      cases v <;> rfl
  have hargs : ∀ (vs : List Value) (i : Nat), lv_args i (vs.map (sm_cv ρ)) = sm_cl ρ (lv_args i vs) := by
    intro vs
    induction vs with
    | nil => intro i; rfl
    | cons v vs ih =>
      intro i
      show (i, sm_cv ρ v) :: lv_args _ (vs.map (sm_cv ρ)) = (i, sm_cv ρ v) :: sm_cl ρ (lv_args _ vs)
      rw [sm_cv_cat, ih]
  have hl := lv_entry (as.map (sm_cv ρ)) (n := nL) (by rw [hcat]; exact hn)
  rw [lg_entry_eq]
  rw [hargs] at hl
  exact h ⟨B.exec, B.bytes, hml, hown, fun w hw => hts0 w (List.mem_cons_of_mem _ hw), B.returns, B.notSynchronized, hK, hG, hA⟩ hl hP hD va_S.rf

section
variable {own : String} {cc : ByteArray} {nL d : Nat} {ret : Option FieldType} {r : Option Value} {σ' σ : sm_St} {pc : Nat} {lv : List (Nat × Value)} {st : List Value}
theorem n_sw_iconst {n : Int} {v : Int32} (hd : decode cc pc = .ok (.iconst n, 1)) (hv : Int32.ofInt n = v) (k : n_sm_W own cc nL ret d r σ' (pc + 1) lv (.int v :: st) σ) : n_sm_W own cc nL ret d r σ' pc lv st σ := by
  intro p l e s m args below meth c ρ D cI cF A H locs ls X hl hP hD hS
  exact lv_iconst X.1 X.2.1 hd hv (k X hl hP hD hS)
theorem n_sw_bipush {n : Int} {v : Int32} (hd : decode cc pc = .ok (.bipush n, 2)) (hv : (Int8.ofInt n).toInt32 = v) (k : n_sm_W own cc nL ret d r σ' (pc + 2) lv (.int v :: st) σ) : n_sm_W own cc nL ret d r σ' pc lv st σ := by
  intro p l e s m args below meth c ρ D cI cF A H locs ls X hl hP hD hS
  exact lv_bipush X.1 X.2.1 hd hv (k X hl hP hD hS)
theorem n_sw_sipush {n : Int} {v : Int32} (hd : decode cc pc = .ok (.sipush n, 3)) (hv : (Int16.ofInt n).toInt32 = v) (k : n_sm_W own cc nL ret d r σ' (pc + 3) lv (.int v :: st) σ) : n_sm_W own cc nL ret d r σ' pc lv st σ := by
  intro p l e s m args below meth c ρ D cI cF A H locs ls X hl hP hD hS
  exact lv_sipush X.1 X.2.1 hd hv (k X hl hP hD hS)
theorem n_sw_iload_n {kk : Fin 4} {x : Int32} (hd : decode cc pc = .ok (.iload_n kk, 1)) (h : sm_lk lv kk = some (.int x)) (k : n_sm_W own cc nL ret d r σ' (pc + 1) lv (.int x :: st) σ) : n_sm_W own cc nL ret d r σ' pc lv st σ := by
  intro p l e s m args below meth c ρ D cI cF A H locs ls X hl hP hD hS
  exact lv_iload_n X.1 X.2.1 hd rfl (sm_lk_at hl h) (k X hl hP hD hS)
theorem n_sw_iload {i : Nat} {x : Int32} (hd : decode cc pc = .ok (.iload i, 2)) (h : sm_lk lv i = some (.int x)) (k : n_sm_W own cc nL ret d r σ' (pc + 2) lv (.int x :: st) σ) : n_sm_W own cc nL ret d r σ' pc lv st σ := by
  intro p l e s m args below meth c ρ D cI cF A H locs ls X hl hP hD hS
  exact lv_iload X.1 X.2.1 hd (sm_lk_at hl h) (k X hl hP hD hS)
theorem n_sw_aload_n {kk : Fin 4} {x : Nat} (hd : decode cc pc = .ok (.aload_n kk, 1)) (h : sm_lk lv kk = some (.ref x)) (k : n_sm_W own cc nL ret d r σ' (pc + 1) lv (.ref x :: st) σ) : n_sm_W own cc nL ret d r σ' pc lv st σ := by
  intro p l e s m args below meth c ρ D cI cF A H locs ls X hl hP hD hS
  exact lv_aload_n X.1 X.2.1 hd rfl (sm_lk_at hl h) (k X hl hP hD hS)
theorem n_sw_istore_n {kk : Fin 4} {x : Int32} {lv' : List (Nat × Value)} (hd : decode cc pc = .ok (.istore_n kk, 1)) (hn : (kk : Nat) < nL) (h : sm_s1 kk (.int x) lv = lv') (k : n_sm_W own cc nL ret d r σ' (pc + 1) lv' st σ) : n_sm_W own cc nL ret d r σ' pc lv (.int x :: st) σ := by
  subst h
  intro p l e s m args below meth c ρ D cI cF A H locs ls X hl hP hD hS
  exact lv_istore_n X.1 X.2.1 hd rfl hl hn (sm_cl_s1 ρ kk (.int x) lv) (fun ls' h' => k X h' hP hD hS)
theorem n_sw_istore {i : Nat} {x : Int32} {lv' : List (Nat × Value)} (hd : decode cc pc = .ok (.istore i, 2)) (hn : i < nL) (h : sm_s1 i (.int x) lv = lv') (k : n_sm_W own cc nL ret d r σ' (pc + 2) lv' st σ) : n_sm_W own cc nL ret d r σ' pc lv (.int x :: st) σ := by
  subst h
  intro p l e s m args below meth c ρ D cI cF A H locs ls X hl hP hD hS
  exact lv_istore X.1 X.2.1 hd hl hn (sm_cl_s1 ρ i (.int x) lv) (fun ls' h' => k X h' hP hD hS)
theorem n_sw_iinc {i : Nat} {n : Int} {x v : Int32} {lv' : List (Nat × Value)} (hd : decode cc pc = .ok (.iinc i n, 3)) (hk : sm_lk lv i = some (.int x)) (hv : x + Int32.ofInt n = v) (hn : i < nL) (h : sm_s1 i (.int v) lv = lv') (k : n_sm_W own cc nL ret d r σ' (pc + 3) lv' st σ) : n_sm_W own cc nL ret d r σ' pc lv st σ := by
  subst h
  intro p l e s m args below meth c ρ D cI cF A H locs ls X hl hP hD hS
  have h2 : ∃ kk : Nat, (sm_cl ρ lv)[kk]? = some (i, .int x) := by
    have key : ∀ lv : List (Nat × Value), sm_lk lv i = some (.int x) → ∃ kk : Nat, (sm_cl ρ lv)[kk]? = some (i, .int x) := by
      intro lv
      induction lv with
      | nil => intro h; cases h
      | cons q t ih =>
        intro h
        unfold sm_lk at h
        by_cases hq : q.1 = i
        · rw [if_pos hq] at h
          refine ⟨0, ?_⟩
          show some (q.1, sm_cv ρ q.2) = _
          rw [hq, Option.some.inj h]
          rfl
        · rw [if_neg hq] at h
          obtain ⟨kk, h⟩ := ih h
          exact ⟨kk + 1, h⟩
    exact key lv hk
  obtain ⟨kk, h2⟩ := h2
  exact lv_iinc X.1 X.2.1 hd hl h2 hv hn (sm_cl_s1 ρ i (.int v) lv) (fun ls' h' => k X h' hP hD hS)
theorem n_sw_iadd {x y : Int32} (hd : decode cc pc = .ok (.iadd, 1)) (k : n_sm_W own cc nL ret d r σ' (pc + 1) lv (.int (x + y) :: st) σ) : n_sm_W own cc nL ret d r σ' pc lv (.int y :: .int x :: st) σ := by
  intro p l e s m args below meth c ρ D cI cF A H locs ls X hl hP hD hS
  exact lv_iadd X.1 X.2.1 hd (k X hl hP hD hS)
theorem n_sw_isub {x y : Int32} (hd : decode cc pc = .ok (.isub, 1)) (k : n_sm_W own cc nL ret d r σ' (pc + 1) lv (.int (x - y) :: st) σ) : n_sm_W own cc nL ret d r σ' pc lv (.int y :: .int x :: st) σ := by
  intro p l e s m args below meth c ρ D cI cF A H locs ls X hl hP hD hS
  exact lv_isub X.1 X.2.1 hd (k X hl hP hD hS)
theorem n_sw_imul {x y : Int32} (hd : decode cc pc = .ok (.imul, 1)) (k : n_sm_W own cc nL ret d r σ' (pc + 1) lv (.int (x * y) :: st) σ) : n_sm_W own cc nL ret d r σ' pc lv (.int y :: .int x :: st) σ := by
  intro p l e s m args below meth c ρ D cI cF A H locs ls X hl hP hD hS
  exact lv_imul X.1 X.2.1 hd (k X hl hP hD hS)
theorem n_sw_dup {v : Value} (hd : decode cc pc = .ok (.dup, 1)) (hc : v.category = 1) (k : n_sm_W own cc nL ret d r σ' (pc + 1) lv (v :: v :: st) σ) : n_sm_W own cc nL ret d r σ' pc lv (v :: st) σ := by
  intro p l e s m args below meth c ρ D cI cF A H locs ls X hl hP hD hS
  exact lv_dup X.1 X.2.1 hd (by rw [sm_cv_cat]; exact hc) (k X hl hP hD hS)
theorem n_sw_goto {off : Int} {tgt : Nat} (hd : decode cc pc = .ok (.goto off, 3)) (ht : (pc : Int) + off = (tgt : Int)) (k : n_sm_W own cc nL ret d r σ' tgt lv st σ) : n_sm_W own cc nL ret d r σ' pc lv st σ := by
  intro p l e s m args below meth c ρ D cI cF A H locs ls X hl hP hD hS
  exact lv_goto X.1 X.2.1 hd ht (k X hl hP hD hS)
theorem n_sw_if_eq {x : Int32} {off : Int} {tgt : Nat} (hd : decode cc pc = .ok (.ifCond .eq off, 3)) (ht : (pc : Int) + off = (tgt : Int)) (kt : x = 0 → n_sm_W own cc nL ret d r σ' tgt lv st σ) (kf : ¬ x = 0 → n_sm_W own cc nL ret d r σ' (pc + 3) lv st σ) : n_sm_W own cc nL ret d r σ' pc lv (.int x :: st) σ := by
  intro p l e s m args below meth c ρ D cI cF A H locs ls X hl hP hD hS
  exact lv_if_eq X.1 X.2.1 hd ht (fun h => kt h X hl hP hD hS) (fun h => kf h X hl hP hD hS)
theorem n_sw_if_ne {x : Int32} {off : Int} {tgt : Nat} (hd : decode cc pc = .ok (.ifCond .ne off, 3)) (ht : (pc : Int) + off = (tgt : Int)) (kt : ¬ x = 0 → n_sm_W own cc nL ret d r σ' tgt lv st σ) (kf : x = 0 → n_sm_W own cc nL ret d r σ' (pc + 3) lv st σ) : n_sm_W own cc nL ret d r σ' pc lv (.int x :: st) σ := by
  intro p l e s m args below meth c ρ D cI cF A H locs ls X hl hP hD hS
  exact lv_if_ne X.1 X.2.1 hd ht (fun h => kt h X hl hP hD hS) (fun h => kf h X hl hP hD hS)
theorem n_sw_if_lt {x : Int32} {off : Int} {tgt : Nat} (hd : decode cc pc = .ok (.ifCond .lt off, 3)) (ht : (pc : Int) + off = (tgt : Int)) (kt : x < 0 → n_sm_W own cc nL ret d r σ' tgt lv st σ) (kf : ¬ x < 0 → n_sm_W own cc nL ret d r σ' (pc + 3) lv st σ) : n_sm_W own cc nL ret d r σ' pc lv (.int x :: st) σ := by
  intro p l e s m args below meth c ρ D cI cF A H locs ls X hl hP hD hS
  exact lv_if_lt X.1 X.2.1 hd ht (fun h => kt h X hl hP hD hS) (fun h => kf h X hl hP hD hS)
theorem n_sw_icmp_eq {x y : Int32} {off : Int} {tgt : Nat} (hd : decode cc pc = .ok (.if_icmp .eq off, 3)) (ht : (pc : Int) + off = (tgt : Int)) (kt : x = y → n_sm_W own cc nL ret d r σ' tgt lv st σ) (kf : ¬ x = y → n_sm_W own cc nL ret d r σ' (pc + 3) lv st σ) : n_sm_W own cc nL ret d r σ' pc lv (.int y :: .int x :: st) σ := by
  intro p l e s m args below meth c ρ D cI cF A H locs ls X hl hP hD hS
  exact lv_icmp_eq X.1 X.2.1 hd ht (fun h => kt h X hl hP hD hS) (fun h => kf h X hl hP hD hS)
theorem n_sw_icmp_ne {x y : Int32} {off : Int} {tgt : Nat} (hd : decode cc pc = .ok (.if_icmp .ne off, 3)) (ht : (pc : Int) + off = (tgt : Int)) (kt : ¬ x = y → n_sm_W own cc nL ret d r σ' tgt lv st σ) (kf : x = y → n_sm_W own cc nL ret d r σ' (pc + 3) lv st σ) : n_sm_W own cc nL ret d r σ' pc lv (.int y :: .int x :: st) σ := by
  intro p l e s m args below meth c ρ D cI cF A H locs ls X hl hP hD hS
  exact lv_icmp_ne X.1 X.2.1 hd ht (fun h => kt h X hl hP hD hS) (fun h => kf h X hl hP hD hS)
theorem n_sw_icmp_lt {x y : Int32} {off : Int} {tgt : Nat} (hd : decode cc pc = .ok (.if_icmp .lt off, 3)) (ht : (pc : Int) + off = (tgt : Int)) (kt : x < y → n_sm_W own cc nL ret d r σ' tgt lv st σ) (kf : ¬ x < y → n_sm_W own cc nL ret d r σ' (pc + 3) lv st σ) : n_sm_W own cc nL ret d r σ' pc lv (.int y :: .int x :: st) σ := by
  intro p l e s m args below meth c ρ D cI cF A H locs ls X hl hP hD hS
  exact lv_icmp_lt X.1 X.2.1 hd ht (fun h => kt h X hl hP hD hS) (fun h => kf h X hl hP hD hS)
theorem n_sw_icmp_ge {x y : Int32} {off : Int} {tgt : Nat} (hd : decode cc pc = .ok (.if_icmp .ge off, 3)) (ht : (pc : Int) + off = (tgt : Int)) (kt : y ≤ x → n_sm_W own cc nL ret d r σ' tgt lv st σ) (kf : ¬ y ≤ x → n_sm_W own cc nL ret d r σ' (pc + 3) lv st σ) : n_sm_W own cc nL ret d r σ' pc lv (.int y :: .int x :: st) σ := by
  intro p l e s m args below meth c ρ D cI cF A H locs ls X hl hP hD hS
  exact lv_icmp_ge X.1 X.2.1 hd ht (fun h => kt h X hl hP hD hS) (fun h => kf h X hl hP hD hS)
theorem n_sw_icmp_gt {x y : Int32} {off : Int} {tgt : Nat} (hd : decode cc pc = .ok (.if_icmp .gt off, 3)) (ht : (pc : Int) + off = (tgt : Int)) (kt : y < x → n_sm_W own cc nL ret d r σ' tgt lv st σ) (kf : ¬ y < x → n_sm_W own cc nL ret d r σ' (pc + 3) lv st σ) : n_sm_W own cc nL ret d r σ' pc lv (.int y :: .int x :: st) σ := by
  intro p l e s m args below meth c ρ D cI cF A H locs ls X hl hP hD hS
  exact lv_icmp_gt X.1 X.2.1 hd ht (fun h => kt h X hl hP hD hS) (fun h => kf h X hl hP hD hS)
theorem n_sw_icmp_le {x y : Int32} {off : Int} {tgt : Nat} (hd : decode cc pc = .ok (.if_icmp .le off, 3)) (ht : (pc : Int) + off = (tgt : Int)) (kt : x ≤ y → n_sm_W own cc nL ret d r σ' tgt lv st σ) (kf : ¬ x ≤ y → n_sm_W own cc nL ret d r σ' (pc + 3) lv st σ) : n_sm_W own cc nL ret d r σ' pc lv (.int y :: .int x :: st) σ := by
  intro p l e s m args below meth c ρ D cI cF A H locs ls X hl hP hD hS
  exact lv_icmp_le X.1 X.2.1 hd ht (fun h => kt h X hl hP hD hS) (fun h => kf h X hl hP hD hS)
theorem n_sw_lookup {dflt : Int} {ps : Array (Int × Int)} {len : Nat} {x : Int32} {off : Int} {tgt : Nat} (hd : decode cc pc = .ok (.lookupswitch dflt ps, len)) (hp : (ps.toList.zip (ps.toList.drop 1)).all (fun (a, next) => a.1 < next.1) = true) (ho : Op.lookupswitch.offset ps.toList dflt x.toInt = off) (ht : (pc : Int) + off = (tgt : Int)) (k : n_sm_W own cc nL ret d r σ' tgt lv st σ) : n_sm_W own cc nL ret d r σ' pc lv (.int x :: st) σ := by
  intro p l e s m args below meth c ρ D cI cF A H locs ls X hl hP hD hS
  exact lv_lookup X.1 X.2.1 hd hp ho ht (k X hl hP hD hS)
end
theorem n_sm_free {A : Nat → Prop} {ρ : Nat → Nat} {cI cF : ClassId} {σ : sm_St} {s : State} {H : Heap} {locs : List Loc} (hD : va_D A (n_sm_ws ρ cI cF σ)) (hA : ∀ q : Nat, s.heap.size ≤ q → A q) (hS : va_S A s.heap H locs) : ∀ q, va_A (n_sm_ws ρ cI cF σ) H.size q → A q := by
  intro q h
  rcases h with ⟨k, e, h⟩ | h
  · exact hD.2 k _ h
  · exact hA q (Nat.le_trans hS.1 h)
section
variable {own : String} {cc : ByteArray} {nL d : Nat} {ret : Option FieldType} {r : Option Value} {σ' σ : sm_St} {pc : Nat} {lv : List (Nat × Value)} {st : List Value}
theorem n_sw_getV {idx ci i k : Nat} (hd : decode cc pc = .ok (.getfield idx, 3)) (hf : sm_fl own idx ci i) (ho : n_sm_ocl k = some ci) {v : Value} (hv : ∀ ρ, sm_fv ρ σ ci k i = sm_cv ρ v) (kk : n_sm_W own cc nL ret d r σ' (pc + 3) lv (v :: st) σ) : n_sm_W own cc nL ret d r σ' pc lv (.ref k :: st) σ := by
  intro p l e s m args below meth c ρ D cI cF A H locs ls X hl hP hD hS
  obtain ⟨x1, x2, x3, x4, x5, x6, x7, x8, x9, x10⟩ := id X
  have hk := (n_sm_ocl_lt ho).1
  refine va_get (D := D) (ws := n_sm_ws ρ cI cF σ) (C := (sm_c ci).1) (T := (sm_c ci).2.1) (N := (sm_c ci).2.2) (ref := ((sm_c ci).2.1 i).1) (fs := (List.range (sm_c ci).2.2).map (sm_fv ρ σ ci k)) x1 x2 (Ts := gw) x5 (sm_in ci hf.1) x4 x8 hP k (ci := ci) ((n_sm_ws_at hk).trans (by rw [n_sm_cel_o ho])) (sm_c_at ci hf.1) i hf.2.1 (x5 _ hf.2.2) (fun _ h => h) (v := sm_cv ρ v) ?_ hd (kk X hl hP hD hS)
  rw [List.getElem?_map, List.getElem?_range hf.2.1, ← hv]
  rfl
theorem n_sw_getI {idx ci i k : Nat} (hd : decode cc pc = .ok (.getfield idx, 3)) (hf : sm_fl own idx ci i) (ho : n_sm_ocl k = some ci) (hr : sm_rf ci k i = none) (kk : n_sm_W own cc nL ret d r σ' (pc + 3) lv (.int (σ k i) :: st) σ) : n_sm_W own cc nL ret d r σ' pc lv (.ref k :: st) σ :=
  n_sw_getV hd hf ho (v := .int (σ k i)) (fun ρ => by unfold sm_fv; rw [hr]; rfl) kk
theorem n_sw_getR {idx ci i k j : Nat} (hd : decode cc pc = .ok (.getfield idx, 3)) (hf : sm_fl own idx ci i) (ho : n_sm_ocl k = some ci) (hr : sm_rf ci k i = some j) (kk : n_sm_W own cc nL ret d r σ' (pc + 3) lv (.ref j :: st) σ) : n_sm_W own cc nL ret d r σ' pc lv (.ref k :: st) σ :=
  n_sw_getV hd hf ho (v := .ref j) (fun ρ => by unfold sm_fv; rw [hr]; rfl) kk
theorem n_sw_put {idx ci i k : Nat} {v : Int32} (hd : decode cc pc = .ok (.putfield idx, 3)) (hf : sm_fl own idx ci i) (hi : sm_fi ci i) (ho : n_sm_ocl k = some ci) (hr : sm_rf ci k i = none) (kk : n_sm_W own cc nL ret d r σ' (pc + 3) lv st (sm_set σ k i v)) : n_sm_W own cc nL ret d r σ' pc lv (.int v :: .ref k :: st) σ := by
  intro p l e s m args below meth c ρ D cI cF A H locs ls X hl hP hD hS
  obtain ⟨x1, x2, x3, x4, x5, x6, x7, x8, x9, x10⟩ := id X
  have hk := (n_sm_ocl_lt ho).1
  obtain ⟨ty, ht, hnm⟩ := sm_nm ci hf.1
  refine va_put (D := D) (ws := n_sm_ws ρ cI cF σ) (C := (sm_c ci).1) (T := (sm_c ci).2.1) (N := (sm_c ci).2.2) (ref := ((sm_c ci).2.1 i).1) (fs := (List.range (sm_c ci).2.2).map (sm_fv ρ σ ci k)) (v := .int v) (ty := .int) x1 x2 (Ts := gw) x5 (sm_in ci hf.1) ty ht hnm x4 x8 hP hD hS k (ci := ci) ((n_sm_ws_at hk).trans (by rw [n_sm_cel_o ho])) (sm_c_at ci hf.1) i hf.2.1 (x5 _ hf.2.2) (fun _ h => h) hi.1 hi.2 rfl rfl (by simp; exact hf.2.1) hd (fun H1 locs1 hP1 hD1 hS1 => ?_)
  rw [n_sm_ws_put ho hr hf.2.1] at hP1 hD1
  exact kk X hl hP1 hD1 hS1
theorem n_sw_iald {k n : Nat} {i : Int32} {x : Int32} (hd : decode cc pc = .ok (.iaload, 1)) (ha : n_sm_aln k = some n) (hin : vp_in i n) (hx : σ k i.toNatClampNeg = x) (kk : n_sm_W own cc nL ret d r σ' (pc + 1) lv (.int x :: st) σ) : n_sm_W own cc nL ret d r σ' pc lv (.int i :: .ref k :: st) σ := by
  subst hx
  intro p l e s m args below meth c ρ D cI cF A H locs ls X hl hP hD hS
  obtain ⟨x1, x2, x3, x4, x5, x6, x7, x8, x9, x10⟩ := id X
  exact va_iald (ws := n_sm_ws ρ cI cF σ) x1 x2 x8 hP k 0 ((n_sm_ws_at (n_sm_aln_lt ha).1).trans (by rw [n_sm_cel_a ha])) rfl hin hd (kk X hl hP hD hS)
theorem n_sw_iast {k n : Nat} {i v : Int32} (hd : decode cc pc = .ok (.iastore, 1)) (ha : n_sm_aln k = some n) (hin : vp_in i n) (kk : n_sm_W own cc nL ret d r σ' (pc + 1) lv st (sm_set σ k i.toNatClampNeg v)) : n_sm_W own cc nL ret d r σ' pc lv (.int v :: .int i :: .ref k :: st) σ := by
  intro p l e s m args below meth c ρ D cI cF A H locs ls X hl hP hD hS
  obtain ⟨x1, x2, x3, x4, x5, x6, x7, x8, x9, x10⟩ := id X
  refine va_iast (ws := n_sm_ws ρ cI cF σ) x1 x2 x8 hP hD hS k 0 ((n_sm_ws_at (n_sm_aln_lt ha).1).trans (by rw [n_sm_cel_a ha])) rfl hin hd (fun H1 locs1 hP1 hD1 hS1 => ?_)
  rw [n_sm_ws_row ha] at hP1 hD1
  exact kk X hl hP1 hD1 hS1
theorem n_sw_alen {k n : Nat} (hd : decode cc pc = .ok (.arraylength, 1)) (ha : n_sm_aln k = some n) (kk : n_sm_W own cc nL ret d r σ' (pc + 1) lv (.int (nI n) :: st) σ) : n_sm_W own cc nL ret d r σ' pc lv (.ref k :: st) σ := by
  intro p l e s m args below meth c ρ D cI cF A H locs ls X hl hP hD hS
  obtain ⟨x1, x2, x3, x4, x5, x6, x7, x8, x9, x10⟩ := id X
  exact va_alen (ws := n_sm_ws ρ cI cF σ) x1 x2 x8 hP k 0 ((n_sm_ws_at (n_sm_aln_lt ha).1).trans (by rw [n_sm_cel_a ha])) rfl rfl hd (kk X hl hP hD hS)
theorem n_sw_iret {v w : Int32} (hd : decode cc pc = .ok (.ireturn, 1)) (hr : ret = some .int) (hq : r = some (.int w)) (hv : v = w) (hs : σ = σ') : n_sm_W own cc nL ret d r σ' pc lv [.int v] σ := by
  subst hr; subst hq; subst hv; subst hs
  intro p l e s m args below meth c ρ D cI cF A H locs ls X hl hP hD hS
  obtain ⟨x1, x2, x3, x4, x5, x6, x7, x8, x9, x10⟩ := id X
  exact W.iret x1 x2 x6 (fun t ht hW => ⟨⟨rfl, by rw [ht]; exact hP, va_K.moved hW.alike x8⟩, hS.F ht⟩) hS.2.2 hd x7
theorem n_sw_zret {v w : Int32} (hd : decode cc pc = .ok (.ireturn, 1)) (hr : ret = some .boolean) (hq : r = some (.int w)) (hv : v = w) (h01 : v = 0 ∨ v = 1) (hs : σ = σ') : n_sm_W own cc nL ret d r σ' pc lv [.int v] σ := by
  subst hr; subst hq; subst hv; subst hs
  intro p l e s m args below meth c ρ D cI cF A H locs ls X hl hP hD hS
  obtain ⟨x1, x2, x3, x4, x5, x6, x7, x8, x9, x10⟩ := id X
  exact W.zret x1 x2 x6 (by rcases h01 with rfl | rfl <;> rfl) (fun t ht hW => ⟨⟨rfl, by rw [ht]; exact hP, va_K.moved hW.alike x8⟩, hS.F ht⟩) hS.2.2 hd x7
theorem n_sw_vret (hd : decode cc pc = .ok (.return_, 1)) (hr : ret = none) (hq : r = none) (hs : σ = σ') : n_sm_W own cc nL ret d r σ' pc lv [] σ := by
  subst hr; subst hq; subst hs
  intro p l e s m args below meth c ρ D cI cF A H locs ls X hl hP hD hS
  obtain ⟨x1, x2, x3, x4, x5, x6, x7, x8, x9, x10⟩ := id X
  exact W.vret x1 x2 x6 (fun t ht hW => ⟨⟨rfl, by rw [ht]; exact hP, va_K.moved hW.alike x8⟩, hS.F ht⟩) hS.2.2 hd x7
end
section
variable {p : Program} {l : Launch} {e : Env} {R : Room} {s : State} {m : MethodId} {args : Array Value} {below : List Frame} {meth : Method} {c : Code} {H : Heap} {locs : List Loc} {cells slots : Nat} {Q : State → Prop}
variable {pc : Nat} {ls : Array Slot} {rest st0 : List Value} {a : Array Value} {A0 A1 : Nat → Prop} {H0 : Heap} {free : Addr → Prop}
theorem n_sm_call {ρ : Nat → Nat} {D : va_G} {cI cF : ClassId} {r1 : Option Value} {σ1 : sm_St} (hr : va_Run p l e R s m args below meth c H locs cells slots 0 0 (F0 m pc ls st0) rest (n_sm_Q ρ D cI cF A1 r1 σ1 a) free) (hS : va_S A0 H0 H locs) (hA : ∀ q, q < H.size → A1 q → A0 q) (hf : ∀ q, free q → A0 q)
    (kk : ∀ (H1 : Heap) (locs1 : List Loc), va_P D vc6 (n_sm_ws ρ cI cF σ1) H1 → va_S A0 H0 H1 locs1 → W p l e R s m args below meth c H1 locs1 cells slots Q (F0 m (pc + 3) ls ((r1.map (sm_cv ρ)).toList ++ rest))) : W p l e R s m args below meth c H locs cells slots Q (F0 m pc ls st0) := by
  intro T hT X
  obtain ⟨v, st₀, t, T', L, h0, X', hL, e1, e2, ⟨⟨hv, hp, hb⟩, hz, hk⟩, st⟩ := hr T hT X
  cases hv
  rw [h0] at hz hk
  obtain ⟨t2, a1, b1⟩ := kk T'.heap (locs ++ L) (by rw [e1]; exact hp)
    ⟨Nat.le_trans hS.1 (by rw [e1]; exact hz), fun q h1 h2 => by rw [e1, hk q (Nat.lt_of_lt_of_le h1 hS.1) (fun z => h2 (hA q (Nat.lt_of_lt_of_le h1 hS.1) z))]; exact hS.2.1 q h1 h2, fun q hq => by
      rcases List.mem_append.mp hq with h | h
      · exact hS.2.2 q h
      · exact hf _ (hL q h)⟩ T' rfl X'
  exact ⟨t2, st t2 a1, b1⟩
end
theorem n_sm_blind {ρ : Nat → Nat} {D : va_G} {cI cF : ClassId} {σ : sm_St} {sz : Nat} {as : List Value} : FrameBlind (va_Pc as (n_sm_Wd ρ D cI cF σ sz)) := by
  intro a U g mk h
  obtain ⟨h0, h1, h2, h3, h4, h5⟩ := h
  exact ⟨h0, h1, h2, va_K.moved (u := U) (U := U.calling g mk a) (Vm.Alike.refl U.vm) h3, h4, sm_G.same (u := U) (U := U.calling g mk a) h5 rfl⟩
section
variable {own : String} {cc : ByteArray} {nL d : Nat} {ret : Option FieldType} {r : Option Value} {σ' σ : sm_St} {pc : Nat} {lv : List (Nat × Value)}
theorem n_sw_callV {y : MethodName} {cy : ByteArray} {nLy dy idx n k ci : Nat} {rety : Option FieldType} {as st stk : List Value} {r1 : Option Value} {σ1 : sm_St} (hd : decode cc pc = .ok (.invokevirtual idx, 3)) (hL : sm_lV own idx y cy nLy rety n) (hc : n_sm_C y cy nLy rety dy (.ref k :: as) σ r1 σ1) (ho : n_sm_ocl k = some ci) (hci : y.cls = (sm_c ci).1)
    (hs : stk = as.reverse ++ .ref k :: st) (hn : as.length = n) (hdd : dy + 1 ≤ d) (hst : (st.map fun v => v.category).sum ≤ 8) (kk : n_sm_W own cc nL ret d r σ' (pc + 3) lv (r1.toList ++ st) σ1) : n_sm_W own cc nL ret d r σ' pc lv stk σ := by
  subst hs
  intro p l e s m args below meth c ρ D cI cF A H locs ls X hl hP hD hS
  obtain ⟨x1, x2, x3, x4, x5, x6, x7, x8, x9, x10⟩ := id X
  have hF := n_sm_free hD x10 hS
  have hk := n_sm_ocl_lt ho
  have hM := hc l ρ D cI cF H.size
  refine n_sm_call (va_runV (b := ρ k) (As := as.map (sm_cv ρ)) (rest := st.map (sm_cv ρ)) ⟨x1, x2, x3, x4, x5⟩ hM (cwV n x5 (sm_gV hL) rfl rfl rfl ⟨rfl, hL.2.1⟩ ⟨hdd, ?_⟩) ⟨n_sm_blind, ?_, fun U hU hW => ⟨rfl, ?_⟩⟩ rfl (by rw [List.length_map]; exact hn) hl.1 ?_ (lv_room ?_) hd ⟨Nat.le_refl _, Nat.le_refl _⟩) hS (fun q _ h => hF q h) hF (fun H1 locs1 hP1 hS1 => ?_)
  · show 8 + (nLy + 11) + 40 * dy ≤ 40 * d
    have := hL.2.2
    omega
  · rw [hci]
    exact va_recv (ws := n_sm_ws ρ cI cF σ) x8 hP (sm_c_at ci hk.2) (q0 := k) (fs := (List.range (sm_c ci).2.2).map (sm_fv ρ σ ci k)) ((n_sm_ws_at hk.1).trans (by rw [n_sm_cel_o ho]))
  · exact ⟨by rw [hU], by rw [hU]; exact hP, va_K.moved hW.alike x8, hD.weaken (fun _ _ _ _ => trivial), by rw [hU]; exact x9.warm hW hS hF⟩
  · show (as.reverse ++ .ref k :: st).map (sm_cv ρ) = _
    rw [List.map_append, List.map_reverse]
    rfl
  · rw [List.map_map]
    refine Nat.le_trans (Nat.le_of_eq ?_) hst
    congr 2
    funext v
    exact sm_cv_cat ρ v
  · have h := kk (l := l) (e := e) (below := below) X hl hP1 (n_sm_D hD) hS1
    rw [List.map_append] at h
    cases r1 <;> exact h
theorem n_sw_callS {y : MethodName} {cy : ByteArray} {nLy dy idx n : Nat} {rety : Option FieldType} {as st stk : List Value} {r1 : Option Value} {σ1 : sm_St} (hd : decode cc pc = .ok (.invokestatic idx, 3)) (hL : sm_lS own idx y cy nLy rety n) (hc : n_sm_C y cy nLy rety dy as σ r1 σ1)
    (hs : stk = as.reverse ++ st) (hn : as.length = n) (hdd : dy + 1 ≤ d) (hst : (st.map fun v => v.category).sum ≤ 8) (kk : n_sm_W own cc nL ret d r σ' (pc + 3) lv (r1.toList ++ st) σ1) : n_sm_W own cc nL ret d r σ' pc lv stk σ := by
  subst hs
  intro p l e s m args below meth c ρ D cI cF A H locs ls X hl hP hD hS
  obtain ⟨x1, x2, x3, x4, x5, x6, x7, x8, x9, x10⟩ := id X
  have hF := n_sm_free hD x10 hS
  have hM := hc l ρ D cI cF H.size
  refine n_sm_call (va_runS (As := as.map (sm_cv ρ)) (rest := st.map (sm_cv ρ)) ⟨x1, x2, x3, x4, x5⟩ hM (va_cwS n x5 (sm_gS hL) rfl rfl rfl hL.2.1 ⟨hdd, ?_⟩) ⟨n_sm_blind, fun U hU hW => ⟨rfl, ?_⟩⟩ rfl (by rw [List.length_map]; exact hn) hl.1 ?_ (lv_room ?_) hd ⟨Nat.le_refl _, Nat.le_refl _⟩) hS (fun q _ h => hF q h) hF (fun H1 locs1 hP1 hS1 => ?_)
  · show 8 + (nLy + 11) + 40 * dy ≤ 40 * d
    have := hL.2.2
    omega
  · exact ⟨by rw [hU], by rw [hU]; exact hP, va_K.moved hW.alike x8, hD.weaken (fun _ _ _ _ => trivial), by rw [hU]; exact x9.warm hW hS hF⟩
  · show (as.reverse ++ st).map (sm_cv ρ) = _
    rw [List.map_append, List.map_reverse]
  · rw [List.map_map]
    refine Nat.le_trans (Nat.le_of_eq ?_) hst
    congr 2
    funext v
    exact sm_cv_cat ρ v
  · have h := kk (l := l) (e := e) (below := below) X hl hP1 (n_sm_D hD) hS1
    rw [List.map_append] at h
    cases r1 <;> exact h
/-- a static method of a nest mate, private there -/
theorem n_sw_callN {y : MethodName} {cy : ByteArray} {nLy dy idx n : Nat} {rety : Option FieldType} {as st stk : List Value} {r1 : Option Value} {σ1 : sm_St} (hd : decode cc pc = .ok (.invokestatic idx, 3)) (hL : sm_lN y cy nLy rety n) (hc : n_sm_C y cy nLy rety dy as σ r1 σ1) (hG : ∀ {ρ : Nat → Nat} {A : Nat → Prop} {U : State} {H : Heap}, sm_G ρ A U H → va_Nw (.methodLinkNest own idx y RX5) U)
    (hs : stk = as.reverse ++ st) (hn : as.length = n) (hdd : dy + 1 ≤ d) (hst : (st.map fun v => v.category).sum ≤ 8) (kk : n_sm_W own cc nL ret d r σ' (pc + 3) lv (r1.toList ++ st) σ1) : n_sm_W own cc nL ret d r σ' pc lv stk σ := by
  subst hs
  intro p l e s m args below meth c ρ D cI cF A H locs ls X hl hP hD hS
  obtain ⟨x1, x2, x3, x4, x5, x6, x7, x8, x9, x10⟩ := id X
  have hF := n_sm_free hD x10 hS
  have hM := hc l ρ D cI cF H.size
  refine n_sm_call (va_runSN (As := as.map (sm_cv ρ)) (rest := st.map (sm_cv ρ)) ⟨x1, x2, x3, x4, x5⟩ hM ⟨va_cnB n x5 (sm_gN hL) rfl rfl rfl (hG x9) (x5 _ hL.1.2.1) hL.2.1 ⟨hdd, ?_⟩, x5 _ hL.1.1, trivial⟩ ⟨n_sm_blind, fun U hU hW => ⟨rfl, ?_⟩⟩ rfl (by rw [List.length_map]; exact hn) hl.1 ?_ (lv_room ?_) hd ⟨Nat.le_refl _, Nat.le_refl _⟩) hS (fun q _ h => hF q h) hF (fun H1 locs1 hP1 hS1 => ?_)
  · show 8 + (nLy + 11) + 40 * dy ≤ 40 * d
    have := hL.2.2
    omega
  · exact ⟨by rw [hU], by rw [hU]; exact hP, va_K.moved hW.alike x8, hD.weaken (fun _ _ _ _ => trivial), by rw [hU]; exact x9.warm hW hS hF⟩
  · show (as.reverse ++ st).map (sm_cv ρ) = _
    rw [List.map_append, List.map_reverse]
  · rw [List.map_map]
    refine Nat.le_trans (Nat.le_of_eq ?_) hst
    congr 2
    funext v
    exact sm_cv_cat ρ v
  · have h := kk (l := l) (e := e) (below := below) X hl hP1 (n_sm_D hD) hS1
    rw [List.map_append] at h
    cases r1 <;> exact h
theorem n_sw_max {idx : Nat} {st : List Value} {x y : Int32} (hd : decode cc pc = .ok (.invokestatic idx, 3)) (hL : sm_lJ own idx Lib.Math.max.name "java/lang/Math" Lib.Math.max.code 2) (hdd : 1 ≤ d) (hst : (st.map fun v => v.category).sum ≤ 8) (kk : n_sm_W own cc nL ret d r σ' (pc + 3) lv (.int (if x < y then y else x) :: st) σ) : n_sm_W own cc nL ret d r σ' pc lv (.int y :: .int x :: st) σ := by
  intro p l e s m args below meth c ρ D cI cF A H locs ls X hl hP hD hS
  obtain ⟨x1, x2, x3, x4, x5, x6, x7, x8, x9, x10⟩ := id X
  have h8 := sm_sum (ρ := ρ) hst
  exact va_mmax x1 x2 (by rw [x3]; exact hl.1.symm) x4 (x5 _ hL.1) (x5 _ hL.2.1) (x5 _ hL.2.2.1) (x5 _ hL.2.2.2) hdd (by show _ ≤ 40 * d; omega) (Nat.le_refl _) (Nat.le_refl _) hd (kk X hl hP hD hS)
end
theorem n_sw_lv {own : String} {cc : ByteArray} {nL d : Nat} {ret : Option FieldType} {r : Option Value} {σ' σ : sm_St} {pc : Nat} {lv lv' : List (Nat × Value)} {st : List Value} (k : n_sm_W own cc nL ret d r σ' pc lv' st σ) (h : sm_has lv lv') : n_sm_W own cc nL ret d r σ' pc lv st σ := by
  intro p l e s m args below meth c ρ D cI cF A H locs ls X hl hP hD hS
  refine k X ⟨hl.1, hl.2.1, fun q hq => ?_⟩ hP hD hS
  obtain ⟨q0, h0, rfl⟩ := List.mem_map.mp hq
  exact sm_lk_at hl (sm_has_mem h q0 h0)
theorem n_sw_st {own : String} {cc : ByteArray} {nL d : Nat} {ret : Option FieldType} {r : Option Value} {σ' σ σ2 : sm_St} {pc : Nat} {lv : List (Nat × Value)} {st : List Value} (e : σ = σ2) (k : n_sm_W own cc nL ret d r σ' pc lv st σ2) : n_sm_W own cc nL ret d r σ' pc lv st σ := e ▸ k
/-- the number on top, under another name -/
theorem n_sw_top {own : String} {cc : ByteArray} {nL d : Nat} {ret : Option FieldType} {r : Option Value} {σ' σ : sm_St} {pc : Nat} {lv : List (Nat × Value)} {st : List Value} {x y : Int32} (e : x = y) (k : n_sm_W own cc nL ret d r σ' pc lv (.int y :: st) σ) : n_sm_W own cc nL ret d r σ' pc lv (.int x :: st) σ := e ▸ k
theorem n_sm_Fo {k : Nat} (h : sm_isF k) : n_sm_ocl k = some 0 := by unfold n_sm_ocl; rw [if_pos h.1, if_pos h.2]
theorem n_sm_Fa1 {k : Nat} (h : sm_isF k) : n_sm_aln (k + 1) = some 6 := by obtain ⟨a, b⟩ := sm_Fs h (m := 1) (by decide) (by decide); unfold n_sm_aln; rw [if_pos a, b]; rfl

theorem n_sm_Fa2 {k : Nat} (h : sm_isF k) : n_sm_aln (k + 2) = some 6 := by obtain ⟨a, b⟩ := sm_Fs h (m := 2) (by decide) (by decide); unfold n_sm_aln; rw [if_pos a, b]; rfl

theorem n_sm_Fa3 {k : Nat} (h : sm_isF k) : n_sm_aln (k + 3) = some 6 := by obtain ⟨a, b⟩ := sm_Fs h (m := 3) (by decide) (by decide); unfold n_sm_aln; rw [if_pos a, b]; rfl

theorem n_sm_Fa4 {k : Nat} (h : sm_isF k) : n_sm_aln (k + 4) = some 6 := by obtain ⟨a, b⟩ := sm_Fs h (m := 4) (by decide) (by decide); unfold n_sm_aln; rw [if_pos a, b]; rfl

theorem n_sm_Fa5 {k : Nat} (h : sm_isF k) : n_sm_aln (k + 5) = some 8 := by obtain ⟨a, b⟩ := sm_Fs h (m := 5) (by decide) (by decide); unfold n_sm_aln; rw [if_pos a, b]; rfl

theorem n_sm_Fa6 {k : Nat} (h : sm_isF k) : n_sm_aln (k + 6) = some 8 := by obtain ⟨a, b⟩ := sm_Fs h (m := 6) (by decide) (by decide); unfold n_sm_aln; rw [if_pos a, b]; rfl

theorem n_sm_Fa7 {k : Nat} (h : sm_isF k) : n_sm_aln (k + 7) = some 8 := by obtain ⟨a, b⟩ := sm_Fs h (m := 7) (by decide) (by decide); unfold n_sm_aln; rw [if_pos a, b]; rfl

theorem n_c_at {σ : sm_St} {k n : Nat} (ha : n_sm_aln k = some n) (i : Int32) : n_sm_C yX2_at cX2_at 2 (some .int) 1 [.ref k, .int i] σ (some (.int (r_at (σ k) n i))) σ := by
  refine n_sm_C.of (own := RX2) (by decide) rfl (Nat.le_of_ble_eq_true rfl) ?_
  show n_sm_W RX2 cX2_at 2 (some .int) 1 (some (.int (r_at (σ k) n i))) σ 0 [(0, .ref k), (1, .int i)] [] σ
  refine n_sw_iload_n dX2_at_0 rfl ?_
  refine n_sw_if_lt (tgt := 16) dX2_at_1 (by decide) (fun h1 => ?_) (fun h1 => ?_)
  · refine n_sw_iconst (v := 0) dX2_at_16 (by decide) ?_
    refine n_sw_iret dX2_at_17 rfl rfl ?_ ?_
    all_goals (first | with_reducible rfl | (simp_all [r_at]))
  · refine n_sw_iload_n dX2_at_4 rfl ?_
    refine n_sw_aload_n dX2_at_5 rfl ?_
    refine n_sw_alen dX2_at_6 ha ?_
    refine n_sw_icmp_ge (tgt := 16) dX2_at_7 (by decide) (fun h7 => ?_) (fun h7 => ?_)
    · refine n_sw_iconst (v := 0) dX2_at_16 (by decide) ?_
      refine n_sw_iret dX2_at_17 rfl rfl ?_ ?_
      all_goals (first | with_reducible rfl | (simp_all [r_at]))
    · refine n_sw_aload_n dX2_at_10 rfl ?_
      refine n_sw_iload_n dX2_at_11 rfl ?_
      refine n_sw_iald dX2_at_12 ha (sm_vin h1 h7 (by have := (n_sm_aln_lt ha).2.2.2; omega)) rfl ?_
      refine n_sw_goto (tgt := 17) dX2_at_13 (by decide) ?_
      refine n_sw_iret dX2_at_17 rfl rfl ?_ ?_
      all_goals (first | with_reducible rfl | (simp_all [r_at]))

theorem n_c_set {σ : sm_St} {k n : Nat} (ha : n_sm_aln k = some n) (i v : Int32) : n_sm_C yX2_set cX2_set 3 none 1 [.ref k, .int i, .int v] σ none (r_set σ k n i v) := by
  refine n_sm_C.of (own := RX2) (by decide) rfl (Nat.le_of_ble_eq_true rfl) ?_
  show n_sm_W RX2 cX2_set 3 none 1 none (r_set σ k n i v) 0 [(0, .ref k), (1, .int i), (2, .int v)] [] σ
  refine n_sw_iload_n dX2_set_0 rfl ?_
  refine n_sw_if_lt (tgt := 14) dX2_set_1 (by decide) (fun h1 => ?_) (fun h1 => ?_)
  · refine n_sw_vret dX2_set_14 rfl rfl ?_
    all_goals (first | with_reducible rfl | (simp_all [r_set]))
  · refine n_sw_iload_n dX2_set_4 rfl ?_
    refine n_sw_aload_n dX2_set_5 rfl ?_
    refine n_sw_alen dX2_set_6 ha ?_
    refine n_sw_icmp_ge (tgt := 14) dX2_set_7 (by decide) (fun h7 => ?_) (fun h7 => ?_)
    · refine n_sw_vret dX2_set_14 rfl rfl ?_
      all_goals (first | with_reducible rfl | (simp_all [r_set]))
    · refine n_sw_aload_n dX2_set_10 rfl ?_
      refine n_sw_iload_n dX2_set_11 rfl ?_
      refine n_sw_iload_n dX2_set_12 rfl ?_
      refine n_sw_iast dX2_set_13 ha (sm_vin h1 h7 (by have := (n_sm_aln_lt ha).2.2.2; omega)) ?_
      refine n_sw_vret dX2_set_14 rfl rfl ?_
      all_goals (first | with_reducible rfl | (simp_all [r_set]))

theorem n_c_within {σ : sm_St} (x a b : Int32) : n_sm_C yX5_within cX5_within 3 (some .boolean) 0 [.int x, .int a, .int b] σ (some (.int (sm_b (sm_win x a b = true)))) σ := by
  refine n_sm_C.of (own := RX5) (by decide) rfl (Nat.le_of_ble_eq_true rfl) ?_
  show n_sm_W RX5 cX5_within 3 (some .boolean) 0 (some (.int (sm_b (sm_win x a b = true)))) σ 0 [(0, .int x), (1, .int a), (2, .int b)] [] σ
  refine n_sw_iload_n dX5_within_0 rfl ?_
  refine n_sw_iload_n dX5_within_1 rfl ?_
  refine n_sw_icmp_lt (tgt := 14) dX5_within_2 (by decide) (fun h2 => ?_) (fun h2 => ?_)
  · refine n_sw_iconst (v := 0) dX5_within_14 (by decide) ?_
    refine n_sw_zret dX5_within_15 rfl rfl ?_ (by decide) ?_
    all_goals (first | with_reducible rfl | (simp_all [sm_b_0e, sm_b_1e, sm_win]))
  · refine n_sw_iload_n dX5_within_5 rfl ?_
    refine n_sw_iload_n dX5_within_6 rfl ?_
    refine n_sw_icmp_gt (tgt := 14) dX5_within_7 (by decide) (fun h7 => ?_) (fun h7 => ?_)
    · refine n_sw_iconst (v := 0) dX5_within_14 (by decide) ?_
      refine n_sw_zret dX5_within_15 rfl rfl ?_ (by decide) ?_
      all_goals (first | with_reducible rfl | (simp_all [sm_b_0e, sm_b_1e, sm_win]))
    · refine n_sw_iconst (v := 1) dX5_within_10 (by decide) ?_
      refine n_sw_goto (tgt := 15) dX5_within_11 (by decide) ?_
      refine n_sw_zret dX5_within_15 rfl rfl ?_ (by decide) ?_
      all_goals (first | with_reducible rfl | (simp_all [sm_b_0e, sm_b_1e, sm_win]))

theorem n_c_isCell {σ : sm_St} (x y : Int32) : n_sm_C yX5_isCell cX5_isCell 2 (some .boolean) 0 [.int x, .int y] σ (some (.int (sm_b (sm_cell x y)))) σ := by
  refine n_sm_C.of (own := RX5) (by decide) rfl (Nat.le_of_ble_eq_true rfl) ?_
  show n_sm_W RX5 cX5_isCell 2 (some .boolean) 0 (some (.int (sm_b (sm_cell x y)))) σ 0 [(0, .int x), (1, .int y)] [] σ
  refine n_sw_iload_n dX5_isCell_0 rfl ?_
  refine n_sw_if_lt (tgt := 24) dX5_isCell_1 (by decide) (fun h1 => ?_) (fun h1 => ?_)
  · refine n_sw_iconst (v := 0) dX5_isCell_24 (by decide) ?_
    refine n_sw_zret dX5_isCell_25 rfl rfl ?_ (by decide) ?_
    all_goals (first | with_reducible rfl | (simp_all [sm_b_0e, sm_b_1e, sm_cell]))
  · refine n_sw_iload_n dX5_isCell_4 rfl ?_
    refine n_sw_bipush (v := 8) dX5_isCell_5 (by decide) ?_
    refine n_sw_icmp_gt (tgt := 24) dX5_isCell_7 (by decide) (fun h7 => ?_) (fun h7 => ?_)
    · refine n_sw_iconst (v := 0) dX5_isCell_24 (by decide) ?_
      refine n_sw_zret dX5_isCell_25 rfl rfl ?_ (by decide) ?_
      all_goals (first | with_reducible rfl | (simp_all [sm_b_0e, sm_b_1e, sm_cell]))
    · refine n_sw_iload_n dX5_isCell_10 rfl ?_
      refine n_sw_if_lt (tgt := 24) dX5_isCell_11 (by decide) (fun h11 => ?_) (fun h11 => ?_)
      · refine n_sw_iconst (v := 0) dX5_isCell_24 (by decide) ?_
        refine n_sw_zret dX5_isCell_25 rfl rfl ?_ (by decide) ?_
        all_goals (first | with_reducible rfl | (simp_all [sm_b_0e, sm_b_1e, sm_cell]))
      · refine n_sw_iload_n dX5_isCell_14 rfl ?_
        refine n_sw_bipush (v := 8) dX5_isCell_15 (by decide) ?_
        refine n_sw_icmp_gt (tgt := 24) dX5_isCell_17 (by decide) (fun h17 => ?_) (fun h17 => ?_)
        · refine n_sw_iconst (v := 0) dX5_isCell_24 (by decide) ?_
          refine n_sw_zret dX5_isCell_25 rfl rfl ?_ (by decide) ?_
          all_goals (first | with_reducible rfl | (simp_all [sm_b_0e, sm_b_1e, sm_cell]))
        · refine n_sw_iconst (v := 1) dX5_isCell_20 (by decide) ?_
          refine n_sw_goto (tgt := 25) dX5_isCell_21 (by decide) ?_
          refine n_sw_zret dX5_isCell_25 rfl rfl ?_ (by decide) ?_
          all_goals (first | with_reducible rfl | (simp_all [sm_b_0e, sm_b_1e, sm_cell]))

section
variable {V W : Nat → Nat → Int32}
end
theorem n_c_moveShip {σ : sm_St} {k : Nat} (hk : sm_isF k) (x y : Int32) : n_sm_C yX0_moveShip cX0_moveShip 3 none 0 [.ref k, .int x, .int y] σ none (sm_set (sm_set σ k 0 x) k 1 y) := by
  refine n_sm_C.of (own := RX0) (by decide) rfl (Nat.le_of_ble_eq_true rfl) ?_
  show n_sm_W RX0 cX0_moveShip 3 none 0 none (sm_set (sm_set σ k 0 x) k 1 y) 0 [(0, .ref k), (1, .int x), (2, .int y)] [] σ
  refine n_sw_aload_n dX0_moveShip_0 rfl ?_
  refine n_sw_iload_n dX0_moveShip_1 rfl ?_
  refine n_sw_put dX0_moveShip_2 fl_X0_33 fi_0_0 (n_sm_Fo hk) rfl ?_
  refine n_sw_aload_n dX0_moveShip_5 rfl ?_
  refine n_sw_iload_n dX0_moveShip_6 rfl ?_
  refine n_sw_put dX0_moveShip_7 fl_X0_37 fi_0_1 (n_sm_Fo hk) rfl ?_
  refine n_sw_vret dX0_moveShip_10 rfl rfl ?_
  all_goals (first | with_reducible rfl | (rfl))

set_option maxHeartbeats 4000000 in
theorem n_c_clear {σ : sm_St} {k : Nat} (hk : sm_isF k) : n_sm_C yX0_clear cX0_clear 1 none 0 [.ref k] σ none (g_clear σ k) := by
  refine n_sm_C.of (own := RX0) (by decide) rfl (Nat.le_of_ble_eq_true rfl) ?_
  show n_sm_W RX0 cX0_clear 1 none 0 none (g_clear σ k) 0 [(0, .ref k)] [] σ
  refine n_sw_aload_n dX0_clear_0 rfl ?_
  refine n_sw_iconst (v := 4) dX0_clear_1 (by decide) ?_
  refine n_sw_put dX0_clear_2 fl_X0_33 fi_0_0 (n_sm_Fo hk) rfl ?_
  refine n_sw_aload_n dX0_clear_5 rfl ?_
  refine n_sw_iconst (v := 4) dX0_clear_6 (by decide) ?_
  refine n_sw_put dX0_clear_7 fl_X0_37 fi_0_1 (n_sm_Fo hk) rfl ?_
  refine n_sw_aload_n dX0_clear_10 rfl ?_
  refine n_sw_iconst (v := 2) dX0_clear_11 (by decide) ?_
  refine n_sw_put dX0_clear_12 fl_X0_40 fi_0_2 (n_sm_Fo hk) rfl ?_
  refine n_sw_aload_n dX0_clear_15 rfl ?_
  refine n_sw_iconst (v := 0) dX0_clear_16 (by decide) ?_
  refine n_sw_put dX0_clear_17 fl_X0_43 fi_0_3 (n_sm_Fo hk) rfl ?_
  refine n_sw_aload_n dX0_clear_20 rfl ?_
  refine n_sw_iconst (v := 0) dX0_clear_21 (by decide) ?_
  refine n_sw_put dX0_clear_22 fl_X0_46 fi_0_4 (n_sm_Fo hk) rfl ?_
  refine n_sw_aload_n dX0_clear_25 rfl ?_
  refine n_sw_iconst (v := 0) dX0_clear_26 (by decide) ?_
  refine n_sw_put dX0_clear_27 fl_X0_49 fi_0_5 (n_sm_Fo hk) rfl ?_
  refine n_sw_aload_n dX0_clear_30 rfl ?_
  refine n_sw_iconst (v := 0) dX0_clear_31 (by decide) ?_
  refine n_sw_put dX0_clear_32 fl_X0_52 fi_0_6 (n_sm_Fo hk) rfl ?_
  refine n_sw_aload_n dX0_clear_35 rfl ?_
  refine n_sw_iconst (v := 0) dX0_clear_36 (by decide) ?_
  refine n_sw_put dX0_clear_37 fl_X0_55 fi_0_7 (n_sm_Fo hk) rfl ?_
  refine n_sw_vret dX0_clear_40 rfl rfl ?_
  all_goals (first | with_reducible rfl | (rfl))

set_option maxHeartbeats 4000000 in
theorem n_c_changePost {σ : sm_St} {k : Nat} (hk : sm_isF k) (p x y s : Int32) : n_sm_C yX0_changePost cX0_changePost 5 none 2 [.ref k, .int p, .int x, .int y, .int s] σ none (r_set (r_set (r_set σ (k + 1) 6 p x) (k + 2) 6 p y) (k + 3) 6 p s) := by
  refine n_sm_C.of (own := RX0) (by decide) rfl (Nat.le_of_ble_eq_true rfl) ?_
  show n_sm_W RX0 cX0_changePost 5 none 2 none (r_set (r_set (r_set σ (k + 1) 6 p x) (k + 2) 6 p y) (k + 3) 6 p s) 0 [(0, .ref k), (1, .int p), (2, .int x), (3, .int y), (4, .int s)] [] σ
  refine n_sw_aload_n dX0_changePost_0 rfl ?_
  refine n_sw_getR (j := k + 1) dX0_changePost_1 fl_X0_9 (n_sm_Fo hk) rfl ?_
  refine n_sw_iload_n dX0_changePost_4 rfl ?_
  refine n_sw_iload_n dX0_changePost_5 rfl ?_
  refine n_sw_callS dX0_changePost_6 lS_X0_68 (n_c_set (k := k + 1) (n_sm_Fa1 hk) _ _) rfl rfl (Nat.le_of_ble_eq_true rfl) (Nat.le_of_ble_eq_true rfl) ?_
  refine n_sw_aload_n dX0_changePost_9 rfl ?_
  refine n_sw_getR (j := k + 2) dX0_changePost_10 fl_X0_15 (n_sm_Fo hk) rfl ?_
  refine n_sw_iload_n dX0_changePost_13 rfl ?_
  refine n_sw_iload_n dX0_changePost_14 rfl ?_
  refine n_sw_callS dX0_changePost_15 lS_X0_68 (n_c_set (k := k + 2) (n_sm_Fa2 hk) _ _) rfl rfl (Nat.le_of_ble_eq_true rfl) (Nat.le_of_ble_eq_true rfl) ?_
  refine n_sw_aload_n dX0_changePost_18 rfl ?_
  refine n_sw_getR (j := k + 3) dX0_changePost_19 fl_X0_18 (n_sm_Fo hk) rfl ?_
  refine n_sw_iload_n dX0_changePost_22 rfl ?_
  refine n_sw_iload dX0_changePost_23 rfl ?_
  refine n_sw_callS dX0_changePost_25 lS_X0_68 (n_c_set (k := k + 3) (n_sm_Fa3 hk) _ _) rfl rfl (Nat.le_of_ble_eq_true rfl) (Nat.le_of_ble_eq_true rfl) ?_
  refine n_sw_vret dX0_changePost_28 rfl rfl ?_
  all_goals (first | with_reducible rfl | (rfl))

set_option maxHeartbeats 4000000 in
theorem n_c_addPost {σ : sm_St} {k : Nat} (hk : sm_isF k) (x y s : Int32) : n_sm_C yX0_addPost cX0_addPost 4 none 3 [.ref k, .int x, .int y, .int s] σ none (g_addP σ k x y s) := by
  refine n_sm_C.of (own := RX0) (by decide) rfl (Nat.le_of_ble_eq_true rfl) ?_
  show n_sm_W RX0 cX0_addPost 4 none 3 none (g_addP σ k x y s) 0 [(0, .ref k), (1, .int x), (2, .int y), (3, .int s)] [] σ
  refine n_sw_aload_n dX0_addPost_0 rfl ?_
  refine n_sw_getI dX0_addPost_1 fl_X0_52 (n_sm_Fo hk) rfl ?_
  refine n_sw_aload_n dX0_addPost_4 rfl ?_
  refine n_sw_getR (j := k + 1) dX0_addPost_5 fl_X0_9 (n_sm_Fo hk) rfl ?_
  refine n_sw_alen dX0_addPost_8 (n_sm_Fa1 hk) ?_
  refine n_sw_icmp_ge (tgt := 45) dX0_addPost_9 (by decide) (fun h9 => ?_) (fun h9 => ?_)
  · refine n_sw_vret dX0_addPost_45 rfl rfl ?_
    all_goals (first | with_reducible rfl | (first | (rw [g_addP, if_pos h9]) | (rw [g_addP, if_neg h9]; simp [r_set_off])))
  · refine n_sw_aload_n dX0_addPost_12 rfl ?_
    refine n_sw_aload_n dX0_addPost_13 rfl ?_
    refine n_sw_getI dX0_addPost_14 fl_X0_52 (n_sm_Fo hk) rfl ?_
    refine n_sw_iload_n dX0_addPost_17 rfl ?_
    refine n_sw_iload_n dX0_addPost_18 rfl ?_
    refine n_sw_iload_n dX0_addPost_19 rfl ?_
    refine n_sw_callV dX0_addPost_20 lV_X0_64 (n_c_changePost (k := k) hk _ _ _ _) (n_sm_Fo hk) rfl rfl rfl (Nat.le_of_ble_eq_true rfl) (Nat.le_of_ble_eq_true rfl) ?_
    refine n_sw_aload_n dX0_addPost_23 rfl ?_
    refine n_sw_getR (j := k + 4) dX0_addPost_24 fl_X0_21 (n_sm_Fo hk) rfl ?_
    refine n_sw_aload_n dX0_addPost_27 rfl ?_
    refine n_sw_getI dX0_addPost_28 fl_X0_52 (n_sm_Fo hk) rfl ?_
    refine n_sw_top (y := σ k 6) (by simp [r_set_off]) ?_
    refine n_sw_iconst (v := 0) dX0_addPost_31 (by decide) ?_
    refine n_sw_callS dX0_addPost_32 lS_X0_68 (n_c_set (k := k + 4) (n_sm_Fa4 hk) _ _) rfl rfl (Nat.le_of_ble_eq_true rfl) (Nat.le_of_ble_eq_true rfl) ?_
    refine n_sw_aload_n dX0_addPost_35 rfl ?_
    refine n_sw_dup dX0_addPost_36 rfl ?_
    refine n_sw_getI dX0_addPost_37 fl_X0_52 (n_sm_Fo hk) rfl ?_
    refine n_sw_iconst (v := 1) dX0_addPost_40 (by decide) ?_
    refine n_sw_iadd dX0_addPost_41 ?_
    refine n_sw_put dX0_addPost_42 fl_X0_52 fi_0_6 (n_sm_Fo hk) rfl ?_
    refine n_sw_vret dX0_addPost_45 rfl rfl ?_
    all_goals (first | with_reducible rfl | (first | (rw [g_addP, if_pos h9]) | (rw [g_addP, if_neg h9]; simp [r_set_off])))

set_option maxHeartbeats 4000000 in
theorem n_c_addSailor {σ : sm_St} {k : Nat} (hk : sm_isF k) (a s n : Int32) : n_sm_C yX0_addSailor cX0_addSailor 4 none 3 [.ref k, .int a, .int s, .int n] σ none (g_addS σ k a s n) := by
  refine n_sm_C.of (own := RX0) (by decide) rfl (Nat.le_of_ble_eq_true rfl) ?_
  show n_sm_W RX0 cX0_addSailor 4 none 3 none (g_addS σ k a s n) 0 [(0, .ref k), (1, .int a), (2, .int s), (3, .int n)] [] σ
  refine n_sw_aload_n dX0_addSailor_0 rfl ?_
  refine n_sw_getI dX0_addSailor_1 fl_X0_55 (n_sm_Fo hk) rfl ?_
  refine n_sw_aload_n dX0_addSailor_4 rfl ?_
  refine n_sw_getR (j := k + 5) dX0_addSailor_5 fl_X0_24 (n_sm_Fo hk) rfl ?_
  refine n_sw_alen dX0_addSailor_8 (n_sm_Fa5 hk) ?_
  refine n_sw_icmp_ge (tgt := 58) dX0_addSailor_9 (by decide) (fun h9 => ?_) (fun h9 => ?_)
  · refine n_sw_vret dX0_addSailor_58 rfl rfl ?_
    all_goals (first | with_reducible rfl | (first | (rw [g_addS, if_pos h9]) | (rw [g_addS, if_neg h9]; simp [r_set_off])))
  · refine n_sw_aload_n dX0_addSailor_12 rfl ?_
    refine n_sw_getR (j := k + 5) dX0_addSailor_13 fl_X0_24 (n_sm_Fo hk) rfl ?_
    refine n_sw_aload_n dX0_addSailor_16 rfl ?_
    refine n_sw_getI dX0_addSailor_17 fl_X0_55 (n_sm_Fo hk) rfl ?_
    refine n_sw_iload_n dX0_addSailor_20 rfl ?_
    refine n_sw_callS dX0_addSailor_21 lS_X0_68 (n_c_set (k := k + 5) (n_sm_Fa5 hk) _ _) rfl rfl (Nat.le_of_ble_eq_true rfl) (Nat.le_of_ble_eq_true rfl) ?_
    refine n_sw_aload_n dX0_addSailor_24 rfl ?_
    refine n_sw_getR (j := k + 6) dX0_addSailor_25 fl_X0_27 (n_sm_Fo hk) rfl ?_
    refine n_sw_aload_n dX0_addSailor_28 rfl ?_
    refine n_sw_getI dX0_addSailor_29 fl_X0_55 (n_sm_Fo hk) rfl ?_
    refine n_sw_iload_n dX0_addSailor_32 rfl ?_
    refine n_sw_callS dX0_addSailor_33 lS_X0_68 (n_c_set (k := k + 6) (n_sm_Fa6 hk) _ _) rfl rfl (Nat.le_of_ble_eq_true rfl) (Nat.le_of_ble_eq_true rfl) ?_
    refine n_sw_aload_n dX0_addSailor_36 rfl ?_
    refine n_sw_getR (j := k + 7) dX0_addSailor_37 fl_X0_30 (n_sm_Fo hk) rfl ?_
    refine n_sw_aload_n dX0_addSailor_40 rfl ?_
    refine n_sw_getI dX0_addSailor_41 fl_X0_55 (n_sm_Fo hk) rfl ?_
    refine n_sw_iload_n dX0_addSailor_44 rfl ?_
    refine n_sw_callS dX0_addSailor_45 lS_X0_68 (n_c_set (k := k + 7) (n_sm_Fa7 hk) _ _) rfl rfl (Nat.le_of_ble_eq_true rfl) (Nat.le_of_ble_eq_true rfl) ?_
    refine n_sw_aload_n dX0_addSailor_48 rfl ?_
    refine n_sw_dup dX0_addSailor_49 rfl ?_
    refine n_sw_getI dX0_addSailor_50 fl_X0_55 (n_sm_Fo hk) rfl ?_
    refine n_sw_iconst (v := 1) dX0_addSailor_53 (by decide) ?_
    refine n_sw_iadd dX0_addSailor_54 ?_
    refine n_sw_put dX0_addSailor_55 fl_X0_55 fi_0_7 (n_sm_Fo hk) rfl ?_
    refine n_sw_vret dX0_addSailor_58 rfl rfl ?_
    all_goals (first | with_reducible rfl | (first | (rw [g_addS, if_pos h9]) | (rw [g_addS, if_neg h9]; simp [r_set_off])))

set_option maxHeartbeats 4000000 in
theorem n_c_addLetter {σ : sm_St} (c : Int32) : n_sm_C yX4_addLetter cX4_addLetter 2 (some .boolean) 2 [.ref 97, .int c] σ (some (.int (sm_b (σ 97 2 < nI 200)))) (if σ 97 2 < nI 200 then sm_set (r_set σ 98 200 (σ 97 2) c) 97 2 (σ 97 2 + 1) else σ) := by
  refine n_sm_C.of (own := RX4) (by decide) rfl (Nat.le_of_ble_eq_true rfl) ?_
  show n_sm_W RX4 cX4_addLetter 2 (some .boolean) 2 (some (.int (sm_b (σ 97 2 < nI 200)))) (if σ 97 2 < nI 200 then sm_set (r_set σ 98 200 (σ 97 2) c) 97 2 (σ 97 2 + 1) else σ) 0 [(0, .ref 97), (1, .int c)] [] σ
  refine n_sw_aload_n dX4_addLetter_0 rfl ?_
  refine n_sw_getI dX4_addLetter_1 fl_X4_18 rfl rfl ?_
  refine n_sw_aload_n dX4_addLetter_4 rfl ?_
  refine n_sw_getR (j := 98) dX4_addLetter_5 fl_X4_9 rfl rfl ?_
  refine n_sw_alen dX4_addLetter_8 rfl ?_
  refine n_sw_icmp_lt (tgt := 14) dX4_addLetter_9 (by decide) (fun h9 => ?_) (fun h9 => ?_)
  · refine n_sw_aload_n dX4_addLetter_14 rfl ?_
    refine n_sw_getR (j := 98) dX4_addLetter_15 fl_X4_9 rfl rfl ?_
    refine n_sw_aload_n dX4_addLetter_18 rfl ?_
    refine n_sw_getI dX4_addLetter_19 fl_X4_18 rfl rfl ?_
    refine n_sw_iload_n dX4_addLetter_22 rfl ?_
    refine n_sw_callS dX4_addLetter_23 lS_X4_22 (n_c_set (k := 98) rfl _ _) rfl rfl (Nat.le_of_ble_eq_true rfl) (Nat.le_of_ble_eq_true rfl) ?_
    refine n_sw_aload_n dX4_addLetter_26 rfl ?_
    refine n_sw_dup dX4_addLetter_27 rfl ?_
    refine n_sw_getI dX4_addLetter_28 fl_X4_18 rfl rfl ?_
    refine n_sw_iconst (v := 1) dX4_addLetter_31 (by decide) ?_
    refine n_sw_iadd dX4_addLetter_32 ?_
    refine n_sw_put dX4_addLetter_33 fl_X4_18 fi_3_2 rfl rfl ?_
    refine n_sw_iconst (v := 1) dX4_addLetter_36 (by decide) ?_
    refine n_sw_zret dX4_addLetter_37 rfl rfl ?_ (by decide) ?_
    all_goals (first | with_reducible rfl | (simp [sm_b, h9, r_set_off]))
  · refine n_sw_iconst (v := 0) dX4_addLetter_12 (by decide) ?_
    refine n_sw_zret dX4_addLetter_13 rfl rfl ?_ (by decide) ?_
    all_goals (first | with_reducible rfl | (simp [sm_b, h9, r_set_off]))

set_option maxHeartbeats 4000000 in
theorem n_c_here {σ : sm_St} : n_sm_C yX4_letterHere cX4_letterHere 1 (some .int) 2 [.ref 97] σ (some (.int (x_here σ))) σ := by
  refine n_sm_C.of (own := RX4) (by decide) rfl (Nat.le_of_ble_eq_true rfl) ?_
  show n_sm_W RX4 cX4_letterHere 1 (some .int) 2 (some (.int (x_here σ))) σ 0 [(0, .ref 97)] [] σ
  refine n_sw_aload_n dX4_letterHere_0 rfl ?_
  refine n_sw_getI dX4_letterHere_1 fl_X4_33 rfl rfl ?_
  refine n_sw_aload_n dX4_letterHere_4 rfl ?_
  refine n_sw_getI dX4_letterHere_5 fl_X4_18 rfl rfl ?_
  refine n_sw_icmp_ge (tgt := 25) dX4_letterHere_8 (by decide) (fun h8 => ?_) (fun h8 => ?_)
  · refine n_sw_iconst (v := 0) dX4_letterHere_25 (by decide) ?_
    refine n_sw_iret dX4_letterHere_26 rfl rfl ?_ ?_
    all_goals (first | with_reducible rfl | (simp [x_here, h8]))
  · refine n_sw_aload_n dX4_letterHere_11 rfl ?_
    refine n_sw_getR (j := 98) dX4_letterHere_12 fl_X4_9 rfl rfl ?_
    refine n_sw_aload_n dX4_letterHere_15 rfl ?_
    refine n_sw_getI dX4_letterHere_16 fl_X4_33 rfl rfl ?_
    refine n_sw_callS dX4_letterHere_19 lS_X4_47 (n_c_at (k := 98) rfl _) rfl rfl (Nat.le_of_ble_eq_true rfl) (Nat.le_of_ble_eq_true rfl) ?_
    refine n_sw_goto (tgt := 26) dX4_letterHere_22 (by decide) ?_
    refine n_sw_iret dX4_letterHere_26 rfl rfl ?_ ?_
    all_goals (first | with_reducible rfl | (simp [x_here, h8]))

set_option maxHeartbeats 4000000 in
theorem n_c_readNumber {σ : sm_St} : n_sm_C yX4_readNumber cX4_readNumber 3 (some .int) 3 [.ref 97] σ (some (.int (x_num σ).1)) (x_num σ).2 := by
  refine n_sm_C.of (own := RX4) (by decide) rfl (Nat.le_of_ble_eq_true rfl) ?_
  show n_sm_W RX4 cX4_readNumber 3 (some .int) 3 (some (.int (x_num σ).1)) (x_num σ).2 0 [(0, .ref 97)] [] σ
  refine n_sw_bipush (v := -4) dX4_readNumber_0 (by decide) ?_
  refine n_sw_istore_n dX4_readNumber_2 (by decide) rfl ?_
  refine n_sw_iconst (v := 0) dX4_readNumber_3 (by decide) ?_
  refine n_sw_istore_n dX4_readNumber_4 (by decide) rfl ?_
  refine n_sw_iload_n dX4_readNumber_5 rfl ?_
  refine n_sw_iconst (v := 2) dX4_readNumber_6 (by decide) ?_
  refine n_sw_icmp_ge (tgt := 57) dX4_readNumber_7 (by decide) (fun h => absurd h (by decide)) (fun _ => ?_)
  refine n_sw_aload_n dX4_readNumber_10 rfl ?_
  refine n_sw_callV dX4_readNumber_11 lV_X4_40 (n_c_here) rfl rfl rfl rfl (Nat.le_of_ble_eq_true rfl) (Nat.le_of_ble_eq_true rfl) ?_
  refine n_sw_bipush (v := 48) dX4_readNumber_14 (by decide) ?_
  refine n_sw_bipush (v := 57) dX4_readNumber_16 (by decide) ?_
  refine n_sw_callN dX4_readNumber_18 lN_X4_65 (n_c_within _ _ _) (fun h => h.2.2.2.1) rfl rfl (Nat.le_of_ble_eq_true rfl) (Nat.le_of_ble_eq_true rfl) ?_
  refine n_sw_if_eq (tgt := 57) dX4_readNumber_21 (by decide) (fun h21 => ?_) (fun h21 => ?_)
  · refine n_sw_iload_n dX4_readNumber_57 rfl ?_
    refine n_sw_iret dX4_readNumber_58 rfl rfl ?_ ?_
    all_goals (first | with_reducible rfl | (simp_all [x_num, x_mx, sm_b_e0]))
  · refine n_sw_iconst (v := 0) dX4_readNumber_24 (by decide) ?_
    refine n_sw_iload_n dX4_readNumber_25 rfl ?_
    refine n_sw_max dX4_readNumber_26 lJ_X4_69 (Nat.le_of_ble_eq_true rfl) (Nat.le_of_ble_eq_true rfl) ?_
    refine n_sw_bipush (v := 10) dX4_readNumber_29 (by decide) ?_
    refine n_sw_imul dX4_readNumber_31 ?_
    refine n_sw_aload_n dX4_readNumber_32 rfl ?_
    refine n_sw_callV dX4_readNumber_33 lV_X4_40 (n_c_here) rfl rfl rfl rfl (Nat.le_of_ble_eq_true rfl) (Nat.le_of_ble_eq_true rfl) ?_
    refine n_sw_iadd dX4_readNumber_36 ?_
    refine n_sw_bipush (v := 48) dX4_readNumber_37 (by decide) ?_
    refine n_sw_isub dX4_readNumber_39 ?_
    refine n_sw_istore_n dX4_readNumber_40 (by decide) rfl ?_
    refine n_sw_aload_n dX4_readNumber_41 rfl ?_
    refine n_sw_dup dX4_readNumber_42 rfl ?_
    refine n_sw_getI dX4_readNumber_43 fl_X4_33 rfl rfl ?_
    refine n_sw_iconst (v := 1) dX4_readNumber_46 (by decide) ?_
    refine n_sw_iadd dX4_readNumber_47 ?_
    refine n_sw_put dX4_readNumber_48 fl_X4_33 fi_3_3 rfl rfl ?_
    refine n_sw_st (σ2 := x_inc _) rfl ?_
    refine n_sw_iinc (v := 1) dX4_readNumber_51 rfl (by decide) (by decide) rfl ?_
    refine n_sw_goto (tgt := 5) dX4_readNumber_54 (by decide) ?_
    refine n_sw_iload_n dX4_readNumber_5 rfl ?_
    refine n_sw_iconst (v := 2) dX4_readNumber_6 (by decide) ?_
    refine n_sw_icmp_ge (tgt := 57) dX4_readNumber_7 (by decide) (fun h => absurd h (by decide)) (fun _ => ?_)
    refine n_sw_aload_n dX4_readNumber_10 rfl ?_
    refine n_sw_callV dX4_readNumber_11 lV_X4_40 (n_c_here) rfl rfl rfl rfl (Nat.le_of_ble_eq_true rfl) (Nat.le_of_ble_eq_true rfl) ?_
    refine n_sw_bipush (v := 48) dX4_readNumber_14 (by decide) ?_
    refine n_sw_bipush (v := 57) dX4_readNumber_16 (by decide) ?_
    refine n_sw_callN dX4_readNumber_18 lN_X4_65 (n_c_within _ _ _) (fun h => h.2.2.2.1) rfl rfl (Nat.le_of_ble_eq_true rfl) (Nat.le_of_ble_eq_true rfl) ?_
    refine n_sw_if_eq (tgt := 57) dX4_readNumber_21 (by decide) (fun h21 => ?_) (fun h21 => ?_)
    · refine n_sw_iload_n dX4_readNumber_57 rfl ?_
      refine n_sw_iret dX4_readNumber_58 rfl rfl ?_ ?_
      all_goals (first | with_reducible rfl | (simp_all [x_num, x_mx, sm_b_e0]))
    · refine n_sw_iconst (v := 0) dX4_readNumber_24 (by decide) ?_
      refine n_sw_iload_n dX4_readNumber_25 rfl ?_
      refine n_sw_max dX4_readNumber_26 lJ_X4_69 (Nat.le_of_ble_eq_true rfl) (Nat.le_of_ble_eq_true rfl) ?_
      refine n_sw_bipush (v := 10) dX4_readNumber_29 (by decide) ?_
      refine n_sw_imul dX4_readNumber_31 ?_
      refine n_sw_aload_n dX4_readNumber_32 rfl ?_
      refine n_sw_callV dX4_readNumber_33 lV_X4_40 (n_c_here) rfl rfl rfl rfl (Nat.le_of_ble_eq_true rfl) (Nat.le_of_ble_eq_true rfl) ?_
      refine n_sw_iadd dX4_readNumber_36 ?_
      refine n_sw_bipush (v := 48) dX4_readNumber_37 (by decide) ?_
      refine n_sw_isub dX4_readNumber_39 ?_
      refine n_sw_istore_n dX4_readNumber_40 (by decide) rfl ?_
      refine n_sw_aload_n dX4_readNumber_41 rfl ?_
      refine n_sw_dup dX4_readNumber_42 rfl ?_
      refine n_sw_getI dX4_readNumber_43 fl_X4_33 rfl rfl ?_
      refine n_sw_iconst (v := 1) dX4_readNumber_46 (by decide) ?_
      refine n_sw_iadd dX4_readNumber_47 ?_
      refine n_sw_put dX4_readNumber_48 fl_X4_33 fi_3_3 rfl rfl ?_
      refine n_sw_st (σ2 := x_inc _) rfl ?_
      refine n_sw_iinc (v := 2) dX4_readNumber_51 rfl (by decide) (by decide) rfl ?_
      refine n_sw_goto (tgt := 5) dX4_readNumber_54 (by decide) ?_
      refine n_sw_iload_n dX4_readNumber_5 rfl ?_
      refine n_sw_iconst (v := 2) dX4_readNumber_6 (by decide) ?_
      refine n_sw_icmp_ge (tgt := 57) dX4_readNumber_7 (by decide) (fun _ => ?_) (fun h => absurd (by decide) h)
      refine n_sw_iload_n dX4_readNumber_57 rfl ?_
      refine n_sw_iret dX4_readNumber_58 rfl rfl ?_ ?_
      all_goals (first | with_reducible rfl | (simp_all [x_num, x_mx, sm_b_e0]))

set_option maxHeartbeats 4000000 in
theorem n_c_tellShip {σ : sm_St} {k : Nat} (hk : sm_isF k) (a b c : Int32) : n_sm_C yX4_tellShip cX4_tellShip 4 (some .boolean) 2 [.ref k, .int a, .int b, .int c] σ (some (.int (t_ship σ k a b c).1)) (t_ship σ k a b c).2 := by
  refine n_sm_C.of (own := RX4) (by decide) rfl (Nat.le_of_ble_eq_true rfl) ?_
  show n_sm_W RX4 cX4_tellShip 4 (some .boolean) 2 (some (.int (t_ship σ k a b c).1)) (t_ship σ k a b c).2 0 [(0, .ref k), (1, .int a), (2, .int b), (3, .int c)] [] σ
  refine n_sw_iload_n dX4_tellShip_0 rfl ?_
  refine n_sw_iload_n dX4_tellShip_1 rfl ?_
  refine n_sw_callN dX4_tellShip_2 lN_X4_75 (n_c_isCell _ _) (fun h => h.2.2.2.2) rfl rfl (Nat.le_of_ble_eq_true rfl) (Nat.le_of_ble_eq_true rfl) ?_
  refine n_sw_if_eq (tgt := 14) dX4_tellShip_5 (by decide) (fun h5 => ?_) (fun h5 => ?_)
  · refine n_sw_iconst (v := 0) dX4_tellShip_14 (by decide) ?_
    refine n_sw_zret dX4_tellShip_15 rfl rfl ?_ (by decide) ?_
    all_goals (first | with_reducible rfl | (simp_all [-Int32.not_lt, -Int32.not_le, t_ship, sm_b_e0]))
  · refine n_sw_iload_n dX4_tellShip_8 rfl ?_
    refine n_sw_bipush (v := 20) dX4_tellShip_9 (by decide) ?_
    refine n_sw_icmp_le (tgt := 16) dX4_tellShip_11 (by decide) (fun h11 => ?_) (fun h11 => ?_)
    · refine n_sw_aload_n dX4_tellShip_16 rfl ?_
      refine n_sw_iload_n dX4_tellShip_17 rfl ?_
      refine n_sw_iload_n dX4_tellShip_18 rfl ?_
      refine n_sw_callV dX4_tellShip_19 lV_X4_79 (n_c_moveShip (k := k) hk _ _) (n_sm_Fo hk) rfl rfl rfl (Nat.le_of_ble_eq_true rfl) (Nat.le_of_ble_eq_true rfl) ?_
      refine n_sw_aload_n dX4_tellShip_22 rfl ?_
      refine n_sw_iload_n dX4_tellShip_23 rfl ?_
      refine n_sw_put dX4_tellShip_24 fl_X4_83 fi_0_2 (n_sm_Fo hk) rfl ?_
      refine n_sw_iconst (v := 1) dX4_tellShip_27 (by decide) ?_
      refine n_sw_zret dX4_tellShip_28 rfl rfl ?_ (by decide) ?_
      all_goals (first | with_reducible rfl | (simp_all [-Int32.not_lt, -Int32.not_le, t_ship, sm_b_e0]))
    · refine n_sw_iconst (v := 0) dX4_tellShip_14 (by decide) ?_
      refine n_sw_zret dX4_tellShip_15 rfl rfl ?_ (by decide) ?_
      all_goals (first | with_reducible rfl | (simp_all [-Int32.not_lt, -Int32.not_le, t_ship, sm_b_e0]))

set_option maxHeartbeats 4000000 in
theorem n_c_tellWind {σ : sm_St} {k : Nat} (hk : sm_isF k) (a b : Int32) : n_sm_C yX4_tellWind cX4_tellWind 3 (some .boolean) 2 [.ref k, .int a, .int b] σ (some (.int (t_wind σ k a b).1)) (t_wind σ k a b).2 := by
  refine n_sm_C.of (own := RX4) (by decide) rfl (Nat.le_of_ble_eq_true rfl) ?_
  show n_sm_W RX4 cX4_tellWind 3 (some .boolean) 2 (some (.int (t_wind σ k a b).1)) (t_wind σ k a b).2 0 [(0, .ref k), (1, .int a), (2, .int b)] [] σ
  refine n_sw_iload_n dX4_tellWind_0 rfl ?_
  refine n_sw_iconst (v := 4) dX4_tellWind_1 (by decide) ?_
  refine n_sw_icmp_gt (tgt := 11) dX4_tellWind_2 (by decide) (fun h2 => ?_) (fun h2 => ?_)
  · refine n_sw_iconst (v := 0) dX4_tellWind_11 (by decide) ?_
    refine n_sw_zret dX4_tellWind_12 rfl rfl ?_ (by decide) ?_
    all_goals (first | with_reducible rfl | (simp_all [-Int32.not_lt, -Int32.not_le, t_wind, sm_b_e0]))
  · refine n_sw_iload_n dX4_tellWind_5 rfl ?_
    refine n_sw_bipush (v := 20) dX4_tellWind_6 (by decide) ?_
    refine n_sw_icmp_le (tgt := 13) dX4_tellWind_8 (by decide) (fun h8 => ?_) (fun h8 => ?_)
    · refine n_sw_aload_n dX4_tellWind_13 rfl ?_
      refine n_sw_iload_n dX4_tellWind_14 rfl ?_
      refine n_sw_put dX4_tellWind_15 fl_X4_86 fi_0_3 (n_sm_Fo hk) rfl ?_
      refine n_sw_aload_n dX4_tellWind_18 rfl ?_
      refine n_sw_iload_n dX4_tellWind_19 rfl ?_
      refine n_sw_put dX4_tellWind_20 fl_X4_89 fi_0_4 (n_sm_Fo hk) rfl ?_
      refine n_sw_iconst (v := 1) dX4_tellWind_23 (by decide) ?_
      refine n_sw_zret dX4_tellWind_24 rfl rfl ?_ (by decide) ?_
      all_goals (first | with_reducible rfl | (simp_all [-Int32.not_lt, -Int32.not_le, t_wind, sm_b_e0]))
    · refine n_sw_iconst (v := 0) dX4_tellWind_11 (by decide) ?_
      refine n_sw_zret dX4_tellWind_12 rfl rfl ?_ (by decide) ?_
      all_goals (first | with_reducible rfl | (simp_all [-Int32.not_lt, -Int32.not_le, t_wind, sm_b_e0]))

set_option maxHeartbeats 4000000 in
theorem n_c_tellPost {σ : sm_St} {k : Nat} (hk : sm_isF k) (a b c : Int32) : n_sm_C yX4_tellPost cX4_tellPost 4 (some .boolean) 4 [.ref k, .int a, .int b, .int c] σ (some (.int (t_post σ k a b c).1)) (t_post σ k a b c).2 := by
  refine n_sm_C.of (own := RX4) (by decide) rfl (Nat.le_of_ble_eq_true rfl) ?_
  show n_sm_W RX4 cX4_tellPost 4 (some .boolean) 4 (some (.int (t_post σ k a b c).1)) (t_post σ k a b c).2 0 [(0, .ref k), (1, .int a), (2, .int b), (3, .int c)] [] σ
  refine n_sw_aload_n dX4_tellPost_0 rfl ?_
  refine n_sw_getI dX4_tellPost_1 fl_X4_92 (n_sm_Fo hk) rfl ?_
  refine n_sw_iconst (v := 5) dX4_tellPost_4 (by decide) ?_
  refine n_sw_icmp_ge (tgt := 21) dX4_tellPost_5 (by decide) (fun h5 => ?_) (fun h5 => ?_)
  · refine n_sw_iconst (v := 0) dX4_tellPost_21 (by decide) ?_
    refine n_sw_zret dX4_tellPost_22 rfl rfl ?_ (by decide) ?_
    all_goals (first | with_reducible rfl | (simp_all [-Int32.not_lt, -Int32.not_le, t_post, sm_b_e0]))
  · refine n_sw_iload_n dX4_tellPost_8 rfl ?_
    refine n_sw_iload_n dX4_tellPost_9 rfl ?_
    refine n_sw_callN dX4_tellPost_10 lN_X4_75 (n_c_isCell _ _) (fun h => h.2.2.2.2) rfl rfl (Nat.le_of_ble_eq_true rfl) (Nat.le_of_ble_eq_true rfl) ?_
    refine n_sw_if_eq (tgt := 21) dX4_tellPost_13 (by decide) (fun h13 => ?_) (fun h13 => ?_)
    · refine n_sw_iconst (v := 0) dX4_tellPost_21 (by decide) ?_
      refine n_sw_zret dX4_tellPost_22 rfl rfl ?_ (by decide) ?_
      all_goals (first | with_reducible rfl | (simp_all [-Int32.not_lt, -Int32.not_le, t_post, sm_b_e0]))
    · refine n_sw_iload_n dX4_tellPost_16 rfl ?_
      refine n_sw_iconst (v := 5) dX4_tellPost_17 (by decide) ?_
      refine n_sw_icmp_le (tgt := 23) dX4_tellPost_18 (by decide) (fun h18 => ?_) (fun h18 => ?_)
      · refine n_sw_aload_n dX4_tellPost_23 rfl ?_
        refine n_sw_iload_n dX4_tellPost_24 rfl ?_
        refine n_sw_iload_n dX4_tellPost_25 rfl ?_
        refine n_sw_iload_n dX4_tellPost_26 rfl ?_
        refine n_sw_callV dX4_tellPost_27 lV_X4_95 (n_c_addPost (k := k) hk _ _ _) (n_sm_Fo hk) rfl rfl rfl (Nat.le_of_ble_eq_true rfl) (Nat.le_of_ble_eq_true rfl) ?_
        refine n_sw_iconst (v := 1) dX4_tellPost_30 (by decide) ?_
        refine n_sw_zret dX4_tellPost_31 rfl rfl ?_ (by decide) ?_
        all_goals (first | with_reducible rfl | (simp_all [-Int32.not_lt, -Int32.not_le, t_post, sm_b_e0]))
      · refine n_sw_iconst (v := 0) dX4_tellPost_21 (by decide) ?_
        refine n_sw_zret dX4_tellPost_22 rfl rfl ?_ (by decide) ?_
        all_goals (first | with_reducible rfl | (simp_all [-Int32.not_lt, -Int32.not_le, t_post, sm_b_e0]))

set_option maxHeartbeats 4000000 in
theorem n_c_tellSailor {σ : sm_St} {k : Nat} (hk : sm_isF k) (a b c : Int32) : n_sm_C yX4_tellSailor cX4_tellSailor 4 (some .boolean) 4 [.ref k, .int a, .int b, .int c] σ (some (.int (t_one σ k a b c).1)) (t_one σ k a b c).2 := by
  refine n_sm_C.of (own := RX4) (by decide) rfl (Nat.le_of_ble_eq_true rfl) ?_
  show n_sm_W RX4 cX4_tellSailor 4 (some .boolean) 4 (some (.int (t_one σ k a b c).1)) (t_one σ k a b c).2 0 [(0, .ref k), (1, .int a), (2, .int b), (3, .int c)] [] σ
  refine n_sw_aload_n dX4_tellSailor_0 rfl ?_
  refine n_sw_getI dX4_tellSailor_1 fl_X4_99 (n_sm_Fo hk) rfl ?_
  refine n_sw_bipush (v := 7) dX4_tellSailor_4 (by decide) ?_
  refine n_sw_icmp_ge (tgt := 29) dX4_tellSailor_6 (by decide) (fun h6 => ?_) (fun h6 => ?_)
  · refine n_sw_iconst (v := 0) dX4_tellSailor_29 (by decide) ?_
    refine n_sw_zret dX4_tellSailor_30 rfl rfl ?_ (by decide) ?_
    all_goals (first | with_reducible rfl | (simp_all [-Int32.not_lt, -Int32.not_le, t_one, sm_b_e0]))
  · refine n_sw_iload_n dX4_tellSailor_9 rfl ?_
    refine n_sw_iconst (v := 3) dX4_tellSailor_10 (by decide) ?_
    refine n_sw_icmp_gt (tgt := 29) dX4_tellSailor_11 (by decide) (fun h11 => ?_) (fun h11 => ?_)
    · refine n_sw_iconst (v := 0) dX4_tellSailor_29 (by decide) ?_
      refine n_sw_zret dX4_tellSailor_30 rfl rfl ?_ (by decide) ?_
      all_goals (first | with_reducible rfl | (simp_all [-Int32.not_lt, -Int32.not_le, t_one, sm_b_e0]))
    · refine n_sw_iload_n dX4_tellSailor_14 rfl ?_
      refine n_sw_iconst (v := 5) dX4_tellSailor_15 (by decide) ?_
      refine n_sw_icmp_gt (tgt := 29) dX4_tellSailor_16 (by decide) (fun h16 => ?_) (fun h16 => ?_)
      · refine n_sw_iconst (v := 0) dX4_tellSailor_29 (by decide) ?_
        refine n_sw_zret dX4_tellSailor_30 rfl rfl ?_ (by decide) ?_
        all_goals (first | with_reducible rfl | (simp_all [-Int32.not_lt, -Int32.not_le, t_one, sm_b_e0]))
      · refine n_sw_iload_n dX4_tellSailor_19 rfl ?_
        refine n_sw_iconst (v := 1) dX4_tellSailor_20 (by decide) ?_
        refine n_sw_bipush (v := 9) dX4_tellSailor_21 (by decide) ?_
        refine n_sw_callN dX4_tellSailor_23 lN_X4_65 (n_c_within _ _ _) (fun h => h.2.2.2.1) rfl rfl (Nat.le_of_ble_eq_true rfl) (Nat.le_of_ble_eq_true rfl) ?_
        refine n_sw_if_ne (tgt := 31) dX4_tellSailor_26 (by decide) (fun h26 => ?_) (fun h26 => ?_)
        · refine n_sw_aload_n dX4_tellSailor_31 rfl ?_
          refine n_sw_iload_n dX4_tellSailor_32 rfl ?_
          refine n_sw_iload_n dX4_tellSailor_33 rfl ?_
          refine n_sw_iload_n dX4_tellSailor_34 rfl ?_
          refine n_sw_callV dX4_tellSailor_35 lV_X4_102 (n_c_addSailor (k := k) hk _ _ _) (n_sm_Fo hk) rfl rfl rfl (Nat.le_of_ble_eq_true rfl) (Nat.le_of_ble_eq_true rfl) ?_
          refine n_sw_iconst (v := 1) dX4_tellSailor_38 (by decide) ?_
          refine n_sw_zret dX4_tellSailor_39 rfl rfl ?_ (by decide) ?_
          all_goals (first | with_reducible rfl | (simp_all [-Int32.not_lt, -Int32.not_le, t_one, sm_b_e0]))
        · refine n_sw_iconst (v := 0) dX4_tellSailor_29 (by decide) ?_
          refine n_sw_zret dX4_tellSailor_30 rfl rfl ?_ (by decide) ?_
          all_goals (first | with_reducible rfl | (simp_all [-Int32.not_lt, -Int32.not_le, t_one, sm_b_e0]))

theorem n_sw_lk_item {nL d : Nat} {ret : Option FieldType} {r : Option Value} {σ' σ : sm_St} {lv : List (Nat × Value)} {st : List Value} {x : Int32} (k1 : x = 115 → n_sm_W RX4 cX4_readItem nL ret d r σ' 172 lv st σ) (k2 : x = 119 → n_sm_W RX4 cX4_readItem nL ret d r σ' 183 lv st σ) (k3 : x = 112 → n_sm_W RX4 cX4_readItem nL ret d r σ' 192 lv st σ) (k4 : x = 99 → n_sm_W RX4 cX4_readItem nL ret d r σ' 203 lv st σ) (kd : ¬ x = 115 → ¬ x = 119 → ¬ x = 112 → ¬ x = 99 → n_sm_W RX4 cX4_readItem nL ret d r σ' 214 lv st σ) : n_sm_W RX4 cX4_readItem nL ret d r σ' 129 lv (.int x :: st) σ := by
  by_cases h1 : x = 115
  · subst h1; exact n_sw_lookup (off := 43) dX4_readItem_129 (by decide) (by decide) (by decide) (k1 rfl)
  by_cases h2 : x = 119
  · subst h2; exact n_sw_lookup (off := 54) dX4_readItem_129 (by decide) (by decide) (by decide) (k2 rfl)
  by_cases h3 : x = 112
  · subst h3; exact n_sw_lookup (off := 63) dX4_readItem_129 (by decide) (by decide) (by decide) (k3 rfl)
  by_cases h4 : x = 99
  · subst h4; exact n_sw_lookup (off := 74) dX4_readItem_129 (by decide) (by decide) (by decide) (k4 rfl)
  have e1 : x.toInt ≠ 115 := fun e => h1 (Int32.toInt_inj.mp e)
  have e2 : x.toInt ≠ 119 := fun e => h2 (Int32.toInt_inj.mp e)
  have e3 : x.toInt ≠ 112 := fun e => h3 (Int32.toInt_inj.mp e)
  have e4 : x.toInt ≠ 99 := fun e => h4 (Int32.toInt_inj.mp e)
  refine n_sw_lookup (off := 85) (tgt := 214) dX4_readItem_129 (by decide) ?_ (by decide) (kd h1 h2 h3 h4)
  simp [Op.lookupswitch.offset, e1, e2, e3, e4, Ne.symm e1, Ne.symm e2, Ne.symm e3, Ne.symm e4]

set_option maxHeartbeats 4000000 in
theorem n_c_readItem {σ : sm_St} {k : Nat} (hk : sm_isF k) : n_sm_C yX4_readItem cX4_readItem 7 (some .boolean) 5 [.ref 97, .ref k] σ (some (.int (x_item σ k).1)) (x_item σ k).2 := by
  refine n_sm_C.of (own := RX4) (by decide) rfl (Nat.le_of_ble_eq_true rfl) ?_
  show n_sm_W RX4 cX4_readItem 7 (some .boolean) 5 (some (.int (x_item σ k).1)) (x_item σ k).2 0 [(0, .ref 97), (1, .ref k)] [] σ
  refine n_sw_aload_n dX4_readItem_0 rfl ?_
  refine n_sw_callV dX4_readItem_1 lV_X4_40 (n_c_here) rfl rfl rfl rfl (Nat.le_of_ble_eq_true rfl) (Nat.le_of_ble_eq_true rfl) ?_
  refine n_sw_istore_n dX4_readItem_4 (by decide) rfl ?_
  refine n_sw_iload_n dX4_readItem_5 rfl ?_
  refine n_sw_bipush (v := 119) dX4_readItem_6 (by decide) ?_
  refine n_sw_icmp_ne (tgt := 15) dX4_readItem_8 (by decide) (fun h8 => ?_) (fun h8 => ?_)
  · refine n_sw_iconst (v := 3) dX4_readItem_15 (by decide) ?_
    refine n_sw_istore_n dX4_readItem_16 (by decide) rfl ?_
    refine n_sw_aload_n dX4_readItem_17 rfl ?_
    refine n_sw_dup dX4_readItem_18 rfl ?_
    refine n_sw_getI dX4_readItem_19 fl_X4_33 rfl rfl ?_
    refine n_sw_iconst (v := 1) dX4_readItem_22 (by decide) ?_
    refine n_sw_iadd dX4_readItem_23 ?_
    refine n_sw_put dX4_readItem_24 fl_X4_33 fi_3_3 rfl rfl ?_
    refine n_sw_st (σ2 := x_inc _) rfl ?_
    refine n_sw_iconst (v := 0) dX4_readItem_27 (by decide) ?_
    refine n_sw_istore dX4_readItem_28 (by decide) rfl ?_
    refine n_sw_iload dX4_readItem_30 rfl ?_
    refine n_sw_iload_n dX4_readItem_32 rfl ?_
    refine n_sw_icmp_ge (tgt := 98) dX4_readItem_33 (by decide) (fun h => absurd h (by decide)) (fun _ => ?_)
    refine n_sw_aload_n dX4_readItem_36 rfl ?_
    refine n_sw_callV dX4_readItem_37 lV_X4_44 (n_c_readNumber) rfl rfl rfl rfl (Nat.le_of_ble_eq_true rfl) (Nat.le_of_ble_eq_true rfl) ?_
    refine n_sw_istore dX4_readItem_40 (by decide) rfl ?_
    refine n_sw_iload dX4_readItem_42 rfl ?_
    refine n_sw_if_lt (tgt := 69) dX4_readItem_44 (by decide) (fun h44 => ?_) (fun h44 => ?_)
    · refine n_sw_iconst (v := 0) dX4_readItem_69 (by decide) ?_
      refine n_sw_zret dX4_readItem_70 rfl rfl ?_ (by decide) ?_
      all_goals (first | with_reducible rfl | (simp_all [-Int32.not_lt, -Int32.not_le, x_item, x_nums, x_two, x_three, x_one, x_tell]))
    · refine n_sw_aload_n dX4_readItem_47 rfl ?_
      refine n_sw_callV dX4_readItem_48 lV_X4_40 (n_c_here) rfl rfl rfl rfl (Nat.le_of_ble_eq_true rfl) (Nat.le_of_ble_eq_true rfl) ?_
      refine n_sw_iload dX4_readItem_51 rfl ?_
      refine n_sw_iload_n dX4_readItem_53 rfl ?_
      refine n_sw_iconst (v := 1) dX4_readItem_54 (by decide) ?_
      refine n_sw_isub dX4_readItem_55 ?_
      refine n_sw_icmp_ge (tgt := 64) dX4_readItem_56 (by decide) (fun h => absurd h (by decide)) (fun _ => ?_)
      refine n_sw_bipush (v := 44) dX4_readItem_59 (by decide) ?_
      refine n_sw_goto (tgt := 66) dX4_readItem_61 (by decide) ?_
      refine n_sw_icmp_eq (tgt := 71) dX4_readItem_66 (by decide) (fun h66 => ?_) (fun h66 => ?_)
      · refine n_sw_aload_n dX4_readItem_71 rfl ?_
        refine n_sw_getR (j := 99) dX4_readItem_72 fl_X4_15 rfl rfl ?_
        refine n_sw_iload dX4_readItem_75 rfl ?_
        refine n_sw_iload dX4_readItem_77 rfl ?_
        refine n_sw_callS dX4_readItem_79 lS_X4_22 (n_c_set (k := 99) rfl _ _) rfl rfl (Nat.le_of_ble_eq_true rfl) (Nat.le_of_ble_eq_true rfl) ?_
        refine n_sw_aload_n dX4_readItem_82 rfl ?_
        refine n_sw_dup dX4_readItem_83 rfl ?_
        refine n_sw_getI dX4_readItem_84 fl_X4_33 rfl rfl ?_
        refine n_sw_iconst (v := 1) dX4_readItem_87 (by decide) ?_
        refine n_sw_iadd dX4_readItem_88 ?_
        refine n_sw_put dX4_readItem_89 fl_X4_33 fi_3_3 rfl rfl ?_
        refine n_sw_st (σ2 := x_inc _) rfl ?_
        refine n_sw_iinc (v := 1) dX4_readItem_92 rfl (by decide) (by decide) rfl ?_
        refine n_sw_goto (tgt := 30) dX4_readItem_95 (by decide) ?_
        refine n_sw_iload dX4_readItem_30 rfl ?_
        refine n_sw_iload_n dX4_readItem_32 rfl ?_
        refine n_sw_icmp_ge (tgt := 98) dX4_readItem_33 (by decide) (fun h => absurd h (by decide)) (fun _ => ?_)
        refine n_sw_aload_n dX4_readItem_36 rfl ?_
        refine n_sw_callV dX4_readItem_37 lV_X4_44 (n_c_readNumber) rfl rfl rfl rfl (Nat.le_of_ble_eq_true rfl) (Nat.le_of_ble_eq_true rfl) ?_
        refine n_sw_istore dX4_readItem_40 (by decide) rfl ?_
        refine n_sw_iload dX4_readItem_42 rfl ?_
        refine n_sw_if_lt (tgt := 69) dX4_readItem_44 (by decide) (fun h44 => ?_) (fun h44 => ?_)
        · refine n_sw_iconst (v := 0) dX4_readItem_69 (by decide) ?_
          refine n_sw_zret dX4_readItem_70 rfl rfl ?_ (by decide) ?_
          all_goals (first | with_reducible rfl | (simp_all [-Int32.not_lt, -Int32.not_le, x_item, x_nums, x_two, x_three, x_one, x_tell]))
        · refine n_sw_aload_n dX4_readItem_47 rfl ?_
          refine n_sw_callV dX4_readItem_48 lV_X4_40 (n_c_here) rfl rfl rfl rfl (Nat.le_of_ble_eq_true rfl) (Nat.le_of_ble_eq_true rfl) ?_
          refine n_sw_iload dX4_readItem_51 rfl ?_
          refine n_sw_iload_n dX4_readItem_53 rfl ?_
          refine n_sw_iconst (v := 1) dX4_readItem_54 (by decide) ?_
          refine n_sw_isub dX4_readItem_55 ?_
          refine n_sw_icmp_ge (tgt := 64) dX4_readItem_56 (by decide) (fun h => absurd h (by decide)) (fun _ => ?_)
          refine n_sw_bipush (v := 44) dX4_readItem_59 (by decide) ?_
          refine n_sw_goto (tgt := 66) dX4_readItem_61 (by decide) ?_
          refine n_sw_icmp_eq (tgt := 71) dX4_readItem_66 (by decide) (fun h66 => ?_) (fun h66 => ?_)
          · refine n_sw_aload_n dX4_readItem_71 rfl ?_
            refine n_sw_getR (j := 99) dX4_readItem_72 fl_X4_15 rfl rfl ?_
            refine n_sw_iload dX4_readItem_75 rfl ?_
            refine n_sw_iload dX4_readItem_77 rfl ?_
            refine n_sw_callS dX4_readItem_79 lS_X4_22 (n_c_set (k := 99) rfl _ _) rfl rfl (Nat.le_of_ble_eq_true rfl) (Nat.le_of_ble_eq_true rfl) ?_
            refine n_sw_aload_n dX4_readItem_82 rfl ?_
            refine n_sw_dup dX4_readItem_83 rfl ?_
            refine n_sw_getI dX4_readItem_84 fl_X4_33 rfl rfl ?_
            refine n_sw_iconst (v := 1) dX4_readItem_87 (by decide) ?_
            refine n_sw_iadd dX4_readItem_88 ?_
            refine n_sw_put dX4_readItem_89 fl_X4_33 fi_3_3 rfl rfl ?_
            refine n_sw_st (σ2 := x_inc _) rfl ?_
            refine n_sw_iinc (v := 2) dX4_readItem_92 rfl (by decide) (by decide) rfl ?_
            refine n_sw_goto (tgt := 30) dX4_readItem_95 (by decide) ?_
            refine n_sw_iload dX4_readItem_30 rfl ?_
            refine n_sw_iload_n dX4_readItem_32 rfl ?_
            refine n_sw_icmp_ge (tgt := 98) dX4_readItem_33 (by decide) (fun h => absurd h (by decide)) (fun _ => ?_)
            refine n_sw_aload_n dX4_readItem_36 rfl ?_
            refine n_sw_callV dX4_readItem_37 lV_X4_44 (n_c_readNumber) rfl rfl rfl rfl (Nat.le_of_ble_eq_true rfl) (Nat.le_of_ble_eq_true rfl) ?_
            refine n_sw_istore dX4_readItem_40 (by decide) rfl ?_
            refine n_sw_iload dX4_readItem_42 rfl ?_
            refine n_sw_if_lt (tgt := 69) dX4_readItem_44 (by decide) (fun h44 => ?_) (fun h44 => ?_)
            · refine n_sw_iconst (v := 0) dX4_readItem_69 (by decide) ?_
              refine n_sw_zret dX4_readItem_70 rfl rfl ?_ (by decide) ?_
              all_goals (first | with_reducible rfl | (simp_all [-Int32.not_lt, -Int32.not_le, x_item, x_nums, x_two, x_three, x_one, x_tell]))
            · refine n_sw_aload_n dX4_readItem_47 rfl ?_
              refine n_sw_callV dX4_readItem_48 lV_X4_40 (n_c_here) rfl rfl rfl rfl (Nat.le_of_ble_eq_true rfl) (Nat.le_of_ble_eq_true rfl) ?_
              refine n_sw_iload dX4_readItem_51 rfl ?_
              refine n_sw_iload_n dX4_readItem_53 rfl ?_
              refine n_sw_iconst (v := 1) dX4_readItem_54 (by decide) ?_
              refine n_sw_isub dX4_readItem_55 ?_
              refine n_sw_icmp_ge (tgt := 64) dX4_readItem_56 (by decide) (fun _ => ?_) (fun h => absurd (by decide) h)
              refine n_sw_bipush (v := 59) dX4_readItem_64 (by decide) ?_
              refine n_sw_icmp_eq (tgt := 71) dX4_readItem_66 (by decide) (fun h66 => ?_) (fun h66 => ?_)
              · refine n_sw_aload_n dX4_readItem_71 rfl ?_
                refine n_sw_getR (j := 99) dX4_readItem_72 fl_X4_15 rfl rfl ?_
                refine n_sw_iload dX4_readItem_75 rfl ?_
                refine n_sw_iload dX4_readItem_77 rfl ?_
                refine n_sw_callS dX4_readItem_79 lS_X4_22 (n_c_set (k := 99) rfl _ _) rfl rfl (Nat.le_of_ble_eq_true rfl) (Nat.le_of_ble_eq_true rfl) ?_
                refine n_sw_aload_n dX4_readItem_82 rfl ?_
                refine n_sw_dup dX4_readItem_83 rfl ?_
                refine n_sw_getI dX4_readItem_84 fl_X4_33 rfl rfl ?_
                refine n_sw_iconst (v := 1) dX4_readItem_87 (by decide) ?_
                refine n_sw_iadd dX4_readItem_88 ?_
                refine n_sw_put dX4_readItem_89 fl_X4_33 fi_3_3 rfl rfl ?_
                refine n_sw_st (σ2 := x_inc _) rfl ?_
                refine n_sw_iinc (v := 3) dX4_readItem_92 rfl (by decide) (by decide) rfl ?_
                refine n_sw_goto (tgt := 30) dX4_readItem_95 (by decide) ?_
                refine n_sw_iload dX4_readItem_30 rfl ?_
                refine n_sw_iload_n dX4_readItem_32 rfl ?_
                refine n_sw_icmp_ge (tgt := 98) dX4_readItem_33 (by decide) (fun _ => ?_) (fun h => absurd (by decide) h)
                refine n_sw_aload_n dX4_readItem_98 rfl ?_
                refine n_sw_getR (j := 99) dX4_readItem_99 fl_X4_15 rfl rfl ?_
                refine n_sw_iconst (v := 0) dX4_readItem_102 (by decide) ?_
                refine n_sw_callS dX4_readItem_103 lS_X4_47 (n_c_at (k := 99) rfl _) rfl rfl (Nat.le_of_ble_eq_true rfl) (Nat.le_of_ble_eq_true rfl) ?_
                refine n_sw_istore dX4_readItem_106 (by decide) rfl ?_
                refine n_sw_aload_n dX4_readItem_108 rfl ?_
                refine n_sw_getR (j := 99) dX4_readItem_109 fl_X4_15 rfl rfl ?_
                refine n_sw_iconst (v := 1) dX4_readItem_112 (by decide) ?_
                refine n_sw_callS dX4_readItem_113 lS_X4_47 (n_c_at (k := 99) rfl _) rfl rfl (Nat.le_of_ble_eq_true rfl) (Nat.le_of_ble_eq_true rfl) ?_
                refine n_sw_istore dX4_readItem_116 (by decide) rfl ?_
                refine n_sw_aload_n dX4_readItem_118 rfl ?_
                refine n_sw_getR (j := 99) dX4_readItem_119 fl_X4_15 rfl rfl ?_
                refine n_sw_iconst (v := 2) dX4_readItem_122 (by decide) ?_
                refine n_sw_callS dX4_readItem_123 lS_X4_47 (n_c_at (k := 99) rfl _) rfl rfl (Nat.le_of_ble_eq_true rfl) (Nat.le_of_ble_eq_true rfl) ?_
                refine n_sw_istore dX4_readItem_126 (by decide) rfl ?_
                refine n_sw_iload_n dX4_readItem_128 rfl ?_
                refine n_sw_lk_item (fun h129 => ?_) (fun h129 => ?_) (fun h129 => ?_) (fun h129 => ?_) (fun n1 n2 n3 n4 => ?_)
                · refine n_sw_aload_n dX4_readItem_172 rfl ?_
                  refine n_sw_iload dX4_readItem_173 rfl ?_
                  refine n_sw_iload dX4_readItem_175 rfl ?_
                  refine n_sw_iload dX4_readItem_177 rfl ?_
                  refine n_sw_callS dX4_readItem_179 lS_X4_51 (n_c_tellShip (k := k) hk _ _ _) rfl rfl (Nat.le_of_ble_eq_true rfl) (Nat.le_of_ble_eq_true rfl) ?_
                  refine n_sw_zret dX4_readItem_182 rfl rfl ?_ t_b01.1 ?_
                  all_goals (first | with_reducible rfl | (simp_all [-Int32.not_lt, -Int32.not_le, x_item, x_nums, x_two, x_three, x_one, x_tell]))
                · refine n_sw_aload_n dX4_readItem_183 rfl ?_
                  refine n_sw_iload dX4_readItem_184 rfl ?_
                  refine n_sw_iload dX4_readItem_186 rfl ?_
                  refine n_sw_callS dX4_readItem_188 lS_X4_55 (n_c_tellWind (k := k) hk _ _) rfl rfl (Nat.le_of_ble_eq_true rfl) (Nat.le_of_ble_eq_true rfl) ?_
                  refine n_sw_zret dX4_readItem_191 rfl rfl ?_ (t_b01 (c := 0)).2.1 ?_
                  all_goals (first | with_reducible rfl | (simp_all [-Int32.not_lt, -Int32.not_le, x_item, x_nums, x_two, x_three, x_one, x_tell]))
                · refine n_sw_aload_n dX4_readItem_192 rfl ?_
                  refine n_sw_iload dX4_readItem_193 rfl ?_
                  refine n_sw_iload dX4_readItem_195 rfl ?_
                  refine n_sw_iload dX4_readItem_197 rfl ?_
                  refine n_sw_callS dX4_readItem_199 lS_X4_59 (n_c_tellPost (k := k) hk _ _ _) rfl rfl (Nat.le_of_ble_eq_true rfl) (Nat.le_of_ble_eq_true rfl) ?_
                  refine n_sw_zret dX4_readItem_202 rfl rfl ?_ t_b01.2.2.1 ?_
                  all_goals (first | with_reducible rfl | (simp_all [-Int32.not_lt, -Int32.not_le, x_item, x_nums, x_two, x_three, x_one, x_tell]))
                · refine n_sw_aload_n dX4_readItem_203 rfl ?_
                  refine n_sw_iload dX4_readItem_204 rfl ?_
                  refine n_sw_iload dX4_readItem_206 rfl ?_
                  refine n_sw_iload dX4_readItem_208 rfl ?_
                  refine n_sw_callS dX4_readItem_210 lS_X4_62 (n_c_tellSailor (k := k) hk _ _ _) rfl rfl (Nat.le_of_ble_eq_true rfl) (Nat.le_of_ble_eq_true rfl) ?_
                  refine n_sw_zret dX4_readItem_213 rfl rfl ?_ t_b01.2.2.2 ?_
                  all_goals (first | with_reducible rfl | (simp_all [-Int32.not_lt, -Int32.not_le, x_item, x_nums, x_two, x_three, x_one, x_tell]))
                · refine n_sw_iconst (v := 0) dX4_readItem_214 (by decide) ?_
                  refine n_sw_zret dX4_readItem_215 rfl rfl ?_ (by decide) ?_
                  all_goals (first | with_reducible rfl | (simp_all [-Int32.not_lt, -Int32.not_le, x_item, x_nums, x_two, x_three, x_one, x_tell]))
              · refine n_sw_iconst (v := 0) dX4_readItem_69 (by decide) ?_
                refine n_sw_zret dX4_readItem_70 rfl rfl ?_ (by decide) ?_
                all_goals (first | with_reducible rfl | (simp_all [-Int32.not_lt, -Int32.not_le, x_item, x_nums, x_two, x_three, x_one, x_tell]))
          · refine n_sw_iconst (v := 0) dX4_readItem_69 (by decide) ?_
            refine n_sw_zret dX4_readItem_70 rfl rfl ?_ (by decide) ?_
            all_goals (first | with_reducible rfl | (simp_all [-Int32.not_lt, -Int32.not_le, x_item, x_nums, x_two, x_three, x_one, x_tell]))
      · refine n_sw_iconst (v := 0) dX4_readItem_69 (by decide) ?_
        refine n_sw_zret dX4_readItem_70 rfl rfl ?_ (by decide) ?_
        all_goals (first | with_reducible rfl | (simp_all [-Int32.not_lt, -Int32.not_le, x_item, x_nums, x_two, x_three, x_one, x_tell]))
  · refine n_sw_iconst (v := 2) dX4_readItem_11 (by decide) ?_
    refine n_sw_goto (tgt := 16) dX4_readItem_12 (by decide) ?_
    refine n_sw_istore_n dX4_readItem_16 (by decide) rfl ?_
    refine n_sw_aload_n dX4_readItem_17 rfl ?_
    refine n_sw_dup dX4_readItem_18 rfl ?_
    refine n_sw_getI dX4_readItem_19 fl_X4_33 rfl rfl ?_
    refine n_sw_iconst (v := 1) dX4_readItem_22 (by decide) ?_
    refine n_sw_iadd dX4_readItem_23 ?_
    refine n_sw_put dX4_readItem_24 fl_X4_33 fi_3_3 rfl rfl ?_
    refine n_sw_st (σ2 := x_inc _) rfl ?_
    refine n_sw_iconst (v := 0) dX4_readItem_27 (by decide) ?_
    refine n_sw_istore dX4_readItem_28 (by decide) rfl ?_
    refine n_sw_iload dX4_readItem_30 rfl ?_
    refine n_sw_iload_n dX4_readItem_32 rfl ?_
    refine n_sw_icmp_ge (tgt := 98) dX4_readItem_33 (by decide) (fun h => absurd h (by decide)) (fun _ => ?_)
    refine n_sw_aload_n dX4_readItem_36 rfl ?_
    refine n_sw_callV dX4_readItem_37 lV_X4_44 (n_c_readNumber) rfl rfl rfl rfl (Nat.le_of_ble_eq_true rfl) (Nat.le_of_ble_eq_true rfl) ?_
    refine n_sw_istore dX4_readItem_40 (by decide) rfl ?_
    refine n_sw_iload dX4_readItem_42 rfl ?_
    refine n_sw_if_lt (tgt := 69) dX4_readItem_44 (by decide) (fun h44 => ?_) (fun h44 => ?_)
    · refine n_sw_iconst (v := 0) dX4_readItem_69 (by decide) ?_
      refine n_sw_zret dX4_readItem_70 rfl rfl ?_ (by decide) ?_
      all_goals (first | with_reducible rfl | (simp_all [-Int32.not_lt, -Int32.not_le, x_item, x_nums, x_two, x_three, x_one, x_tell]))
    · refine n_sw_aload_n dX4_readItem_47 rfl ?_
      refine n_sw_callV dX4_readItem_48 lV_X4_40 (n_c_here) rfl rfl rfl rfl (Nat.le_of_ble_eq_true rfl) (Nat.le_of_ble_eq_true rfl) ?_
      refine n_sw_iload dX4_readItem_51 rfl ?_
      refine n_sw_iload_n dX4_readItem_53 rfl ?_
      refine n_sw_iconst (v := 1) dX4_readItem_54 (by decide) ?_
      refine n_sw_isub dX4_readItem_55 ?_
      refine n_sw_icmp_ge (tgt := 64) dX4_readItem_56 (by decide) (fun h => absurd h (by decide)) (fun _ => ?_)
      refine n_sw_bipush (v := 44) dX4_readItem_59 (by decide) ?_
      refine n_sw_goto (tgt := 66) dX4_readItem_61 (by decide) ?_
      refine n_sw_icmp_eq (tgt := 71) dX4_readItem_66 (by decide) (fun h66 => ?_) (fun h66 => ?_)
      · refine n_sw_aload_n dX4_readItem_71 rfl ?_
        refine n_sw_getR (j := 99) dX4_readItem_72 fl_X4_15 rfl rfl ?_
        refine n_sw_iload dX4_readItem_75 rfl ?_
        refine n_sw_iload dX4_readItem_77 rfl ?_
        refine n_sw_callS dX4_readItem_79 lS_X4_22 (n_c_set (k := 99) rfl _ _) rfl rfl (Nat.le_of_ble_eq_true rfl) (Nat.le_of_ble_eq_true rfl) ?_
        refine n_sw_aload_n dX4_readItem_82 rfl ?_
        refine n_sw_dup dX4_readItem_83 rfl ?_
        refine n_sw_getI dX4_readItem_84 fl_X4_33 rfl rfl ?_
        refine n_sw_iconst (v := 1) dX4_readItem_87 (by decide) ?_
        refine n_sw_iadd dX4_readItem_88 ?_
        refine n_sw_put dX4_readItem_89 fl_X4_33 fi_3_3 rfl rfl ?_
        refine n_sw_st (σ2 := x_inc _) rfl ?_
        refine n_sw_iinc (v := 1) dX4_readItem_92 rfl (by decide) (by decide) rfl ?_
        refine n_sw_goto (tgt := 30) dX4_readItem_95 (by decide) ?_
        refine n_sw_iload dX4_readItem_30 rfl ?_
        refine n_sw_iload_n dX4_readItem_32 rfl ?_
        refine n_sw_icmp_ge (tgt := 98) dX4_readItem_33 (by decide) (fun h => absurd h (by decide)) (fun _ => ?_)
        refine n_sw_aload_n dX4_readItem_36 rfl ?_
        refine n_sw_callV dX4_readItem_37 lV_X4_44 (n_c_readNumber) rfl rfl rfl rfl (Nat.le_of_ble_eq_true rfl) (Nat.le_of_ble_eq_true rfl) ?_
        refine n_sw_istore dX4_readItem_40 (by decide) rfl ?_
        refine n_sw_iload dX4_readItem_42 rfl ?_
        refine n_sw_if_lt (tgt := 69) dX4_readItem_44 (by decide) (fun h44 => ?_) (fun h44 => ?_)
        · refine n_sw_iconst (v := 0) dX4_readItem_69 (by decide) ?_
          refine n_sw_zret dX4_readItem_70 rfl rfl ?_ (by decide) ?_
          all_goals (first | with_reducible rfl | (simp_all [-Int32.not_lt, -Int32.not_le, x_item, x_nums, x_two, x_three, x_one, x_tell]))
        · refine n_sw_aload_n dX4_readItem_47 rfl ?_
          refine n_sw_callV dX4_readItem_48 lV_X4_40 (n_c_here) rfl rfl rfl rfl (Nat.le_of_ble_eq_true rfl) (Nat.le_of_ble_eq_true rfl) ?_
          refine n_sw_iload dX4_readItem_51 rfl ?_
          refine n_sw_iload_n dX4_readItem_53 rfl ?_
          refine n_sw_iconst (v := 1) dX4_readItem_54 (by decide) ?_
          refine n_sw_isub dX4_readItem_55 ?_
          refine n_sw_icmp_ge (tgt := 64) dX4_readItem_56 (by decide) (fun _ => ?_) (fun h => absurd (by decide) h)
          refine n_sw_bipush (v := 59) dX4_readItem_64 (by decide) ?_
          refine n_sw_icmp_eq (tgt := 71) dX4_readItem_66 (by decide) (fun h66 => ?_) (fun h66 => ?_)
          · refine n_sw_aload_n dX4_readItem_71 rfl ?_
            refine n_sw_getR (j := 99) dX4_readItem_72 fl_X4_15 rfl rfl ?_
            refine n_sw_iload dX4_readItem_75 rfl ?_
            refine n_sw_iload dX4_readItem_77 rfl ?_
            refine n_sw_callS dX4_readItem_79 lS_X4_22 (n_c_set (k := 99) rfl _ _) rfl rfl (Nat.le_of_ble_eq_true rfl) (Nat.le_of_ble_eq_true rfl) ?_
            refine n_sw_aload_n dX4_readItem_82 rfl ?_
            refine n_sw_dup dX4_readItem_83 rfl ?_
            refine n_sw_getI dX4_readItem_84 fl_X4_33 rfl rfl ?_
            refine n_sw_iconst (v := 1) dX4_readItem_87 (by decide) ?_
            refine n_sw_iadd dX4_readItem_88 ?_
            refine n_sw_put dX4_readItem_89 fl_X4_33 fi_3_3 rfl rfl ?_
            refine n_sw_st (σ2 := x_inc _) rfl ?_
            refine n_sw_iinc (v := 2) dX4_readItem_92 rfl (by decide) (by decide) rfl ?_
            refine n_sw_goto (tgt := 30) dX4_readItem_95 (by decide) ?_
            refine n_sw_iload dX4_readItem_30 rfl ?_
            refine n_sw_iload_n dX4_readItem_32 rfl ?_
            refine n_sw_icmp_ge (tgt := 98) dX4_readItem_33 (by decide) (fun _ => ?_) (fun h => absurd (by decide) h)
            refine n_sw_aload_n dX4_readItem_98 rfl ?_
            refine n_sw_getR (j := 99) dX4_readItem_99 fl_X4_15 rfl rfl ?_
            refine n_sw_iconst (v := 0) dX4_readItem_102 (by decide) ?_
            refine n_sw_callS dX4_readItem_103 lS_X4_47 (n_c_at (k := 99) rfl _) rfl rfl (Nat.le_of_ble_eq_true rfl) (Nat.le_of_ble_eq_true rfl) ?_
            refine n_sw_istore dX4_readItem_106 (by decide) rfl ?_
            refine n_sw_aload_n dX4_readItem_108 rfl ?_
            refine n_sw_getR (j := 99) dX4_readItem_109 fl_X4_15 rfl rfl ?_
            refine n_sw_iconst (v := 1) dX4_readItem_112 (by decide) ?_
            refine n_sw_callS dX4_readItem_113 lS_X4_47 (n_c_at (k := 99) rfl _) rfl rfl (Nat.le_of_ble_eq_true rfl) (Nat.le_of_ble_eq_true rfl) ?_
            refine n_sw_istore dX4_readItem_116 (by decide) rfl ?_
            refine n_sw_aload_n dX4_readItem_118 rfl ?_
            refine n_sw_getR (j := 99) dX4_readItem_119 fl_X4_15 rfl rfl ?_
            refine n_sw_iconst (v := 2) dX4_readItem_122 (by decide) ?_
            refine n_sw_callS dX4_readItem_123 lS_X4_47 (n_c_at (k := 99) rfl _) rfl rfl (Nat.le_of_ble_eq_true rfl) (Nat.le_of_ble_eq_true rfl) ?_
            refine n_sw_istore dX4_readItem_126 (by decide) rfl ?_
            refine n_sw_iload_n dX4_readItem_128 rfl ?_
            refine n_sw_lk_item (fun h129 => ?_) (fun h129 => ?_) (fun h129 => ?_) (fun h129 => ?_) (fun n1 n2 n3 n4 => ?_)
            · refine n_sw_aload_n dX4_readItem_172 rfl ?_
              refine n_sw_iload dX4_readItem_173 rfl ?_
              refine n_sw_iload dX4_readItem_175 rfl ?_
              refine n_sw_iload dX4_readItem_177 rfl ?_
              refine n_sw_callS dX4_readItem_179 lS_X4_51 (n_c_tellShip (k := k) hk _ _ _) rfl rfl (Nat.le_of_ble_eq_true rfl) (Nat.le_of_ble_eq_true rfl) ?_
              refine n_sw_zret dX4_readItem_182 rfl rfl ?_ t_b01.1 ?_
              all_goals (first | with_reducible rfl | (simp_all [-Int32.not_lt, -Int32.not_le, x_item, x_nums, x_two, x_three, x_one, x_tell]))
            · refine n_sw_aload_n dX4_readItem_183 rfl ?_
              refine n_sw_iload dX4_readItem_184 rfl ?_
              refine n_sw_iload dX4_readItem_186 rfl ?_
              refine n_sw_callS dX4_readItem_188 lS_X4_55 (n_c_tellWind (k := k) hk _ _) rfl rfl (Nat.le_of_ble_eq_true rfl) (Nat.le_of_ble_eq_true rfl) ?_
              refine n_sw_zret dX4_readItem_191 rfl rfl ?_ (t_b01 (c := 0)).2.1 ?_
              all_goals (first | with_reducible rfl | (simp_all [-Int32.not_lt, -Int32.not_le, x_item, x_nums, x_two, x_three, x_one, x_tell]))
            · refine n_sw_aload_n dX4_readItem_192 rfl ?_
              refine n_sw_iload dX4_readItem_193 rfl ?_
              refine n_sw_iload dX4_readItem_195 rfl ?_
              refine n_sw_iload dX4_readItem_197 rfl ?_
              refine n_sw_callS dX4_readItem_199 lS_X4_59 (n_c_tellPost (k := k) hk _ _ _) rfl rfl (Nat.le_of_ble_eq_true rfl) (Nat.le_of_ble_eq_true rfl) ?_
              refine n_sw_zret dX4_readItem_202 rfl rfl ?_ t_b01.2.2.1 ?_
              all_goals (first | with_reducible rfl | (simp_all [-Int32.not_lt, -Int32.not_le, x_item, x_nums, x_two, x_three, x_one, x_tell]))
            · refine n_sw_aload_n dX4_readItem_203 rfl ?_
              refine n_sw_iload dX4_readItem_204 rfl ?_
              refine n_sw_iload dX4_readItem_206 rfl ?_
              refine n_sw_iload dX4_readItem_208 rfl ?_
              refine n_sw_callS dX4_readItem_210 lS_X4_62 (n_c_tellSailor (k := k) hk _ _ _) rfl rfl (Nat.le_of_ble_eq_true rfl) (Nat.le_of_ble_eq_true rfl) ?_
              refine n_sw_zret dX4_readItem_213 rfl rfl ?_ t_b01.2.2.2 ?_
              all_goals (first | with_reducible rfl | (simp_all [-Int32.not_lt, -Int32.not_le, x_item, x_nums, x_two, x_three, x_one, x_tell]))
            · refine n_sw_iconst (v := 0) dX4_readItem_214 (by decide) ?_
              refine n_sw_zret dX4_readItem_215 rfl rfl ?_ (by decide) ?_
              all_goals (first | with_reducible rfl | (simp_all [-Int32.not_lt, -Int32.not_le, x_item, x_nums, x_two, x_three, x_one, x_tell]))
          · refine n_sw_iconst (v := 0) dX4_readItem_69 (by decide) ?_
            refine n_sw_zret dX4_readItem_70 rfl rfl ?_ (by decide) ?_
            all_goals (first | with_reducible rfl | (simp_all [-Int32.not_lt, -Int32.not_le, x_item, x_nums, x_two, x_three, x_one, x_tell]))
      · refine n_sw_iconst (v := 0) dX4_readItem_69 (by decide) ?_
        refine n_sw_zret dX4_readItem_70 rfl rfl ?_ (by decide) ?_
        all_goals (first | with_reducible rfl | (simp_all [-Int32.not_lt, -Int32.not_le, x_item, x_nums, x_two, x_three, x_one, x_tell]))

set_option maxHeartbeats 4000000 in
theorem n_l_readInto {k : Nat} (hk : sm_isF k) : ∀ (n i : Nat) (τ : sm_St), i + n = 200 → n_sm_W RX4 cX4_readInto 4 (some .int) 6 (some (.int (x_read k n τ).1)) (x_read k n τ).2 11 [(0, .ref 97), (1, .ref k), (2, .int (nI i))] [] τ := by
  intro n
  induction n with
  | zero =>
    intro i τ h1
    refine n_sw_iload_n dX4_readInto_11 rfl ?_
    refine n_sw_sipush (v := 200) dX4_readInto_12 (by decide) ?_
    refine n_sw_icmp_ge (tgt := 50) dX4_readInto_15 (by decide) (fun _ => ?_) (fun h => absurd ((by rw [show i = 200 by omega]; decide)) h)
    refine n_sw_bipush (v := -4) dX4_readInto_50 (by decide) ?_
    refine n_sw_iret dX4_readInto_52 rfl rfl ?_ ?_
    all_goals (first | with_reducible rfl | (rfl))
  | succ n ih =>
    intro i τ h1
    refine n_sw_iload_n dX4_readInto_11 rfl ?_
    refine n_sw_sipush (v := 200) dX4_readInto_12 (by decide) ?_
    refine n_sw_icmp_ge (tgt := 50) dX4_readInto_15 (by decide) (fun h => absurd h ((fun h => absurd ((nI_leI (by decide) (by omega)).mp (show nI 200 ≤ nI i from h)) (by omega)))) (fun _ => ?_)
    refine n_sw_aload_n dX4_readInto_18 rfl ?_
    refine n_sw_getI dX4_readInto_19 fl_X4_33 rfl rfl ?_
    refine n_sw_aload_n dX4_readInto_22 rfl ?_
    refine n_sw_getI dX4_readInto_23 fl_X4_18 rfl rfl ?_
    refine n_sw_icmp_ge (tgt := 50) dX4_readInto_26 (by decide) (fun h26 => ?_) (fun h26 => ?_)
    · refine n_sw_bipush (v := -4) dX4_readInto_50 (by decide) ?_
      refine n_sw_iret dX4_readInto_52 rfl rfl ?_ ?_
      all_goals (first | with_reducible rfl | (first | (rw [x_read, if_pos h26]) | (rw [x_read, if_neg h26, if_pos h39])))
    · refine n_sw_aload_n dX4_readInto_29 rfl ?_
      refine n_sw_getI dX4_readInto_30 fl_X4_33 rfl rfl ?_
      refine n_sw_istore_n dX4_readInto_33 (by decide) rfl ?_
      refine n_sw_aload_n dX4_readInto_34 rfl ?_
      refine n_sw_aload_n dX4_readInto_35 rfl ?_
      refine n_sw_callV dX4_readInto_36 lV_X4_36 (n_c_readItem (k := k) hk) rfl rfl rfl rfl (Nat.le_of_ble_eq_true rfl) (Nat.le_of_ble_eq_true rfl) ?_
      refine n_sw_if_ne (tgt := 44) dX4_readInto_39 (by decide) (fun h39 => ?_) (fun h39 => ?_)
      · refine n_sw_iinc dX4_readInto_44 rfl rfl (by decide) rfl ?_
        refine n_sw_goto (tgt := 11) dX4_readInto_47 (by decide) ?_
        have e : x_read k (n + 1) τ = x_read k n (x_item τ k).2 := by rw [x_read, if_neg h26, if_neg h39]
        rw [e]
        refine n_sw_lv (ih (i + 1) _ (by omega)) (And.intro rfl (And.intro rfl (And.intro (sm_e rfl ?_) trivial)))
        all_goals (rw [sm_i1, nI_succ])
      · refine n_sw_iload_n dX4_readInto_42 rfl ?_
        refine n_sw_iret dX4_readInto_43 rfl rfl ?_ ?_
        all_goals (first | with_reducible rfl | (first | (rw [x_read, if_pos h26]) | (rw [x_read, if_neg h26, if_pos h39])))

set_option maxHeartbeats 4000000 in
theorem n_c_readInto {σ : sm_St} {k : Nat} (hk : sm_isF k) : n_sm_C yX4_readInto cX4_readInto 4 (some .int) 6 [.ref 97, .ref k] σ (some (.int (x_into σ k).1)) (x_into σ k).2 := by
  refine n_sm_C.of (own := RX4) (by decide) rfl (Nat.le_of_ble_eq_true rfl) ?_
  show n_sm_W RX4 cX4_readInto 4 (some .int) 6 (some (.int (x_into σ k).1)) (x_into σ k).2 0 [(0, .ref 97), (1, .ref k)] [] σ
  refine n_sw_aload_n dX4_readInto_0 rfl ?_
  refine n_sw_callV dX4_readInto_1 lV_X4_28 (n_c_clear (k := k) hk) (n_sm_Fo hk) rfl rfl rfl (Nat.le_of_ble_eq_true rfl) (Nat.le_of_ble_eq_true rfl) ?_
  refine n_sw_aload_n dX4_readInto_4 rfl ?_
  refine n_sw_iconst (v := 0) dX4_readInto_5 (by decide) ?_
  refine n_sw_put dX4_readInto_6 fl_X4_33 fi_3_3 rfl rfl ?_
  refine n_sw_iconst (v := 0) dX4_readInto_9 (by decide) ?_
  refine n_sw_istore_n dX4_readInto_10 (by decide) rfl ?_
  refine n_sw_lv (n_l_readInto hk 200 0 _ (by omega)) (And.intro rfl (And.intro rfl (And.intro rfl trivial)))


/-! The world: 128 cells at unknown places; what is whole numbers in them is sm_St; the rest (classes, lengths, references) never changes once all is made. A method's contract is an equation: its answer and the numbers behind it. -/
abbrev sm_St : Type := Nat → Nat → Int32
def gw : List Cond := lw_tbl.filter goodWord
theorem gw_good : GoodIn gw gw := fun w h => ⟨h, good_of_word (List.mem_filter.mp h).2⟩
theorem gw_mem {w : Cond} (i : Nat) (h : lw_tbl[i]? = some w) (hg : goodWord w = true) : w ∈ gw := List.mem_filter.mpr ⟨List.mem_of_getElem? h, hg⟩
abbrev vc6 : List vw_C := [(RX0, TX0, 17), (RX1, TX1, 3), (RX3, TX3, 4), (RX4, TX4, 4), (RX5, TX5, 8), (RX6, TX6, 35)]
def sm_c (ci : Nat) : vw_C := match ci with
  | 0 => (RX0, TX0, 17)
  | 1 => (RX1, TX1, 3)
  | 2 => (RX3, TX3, 4)
  | 3 => (RX4, TX4, 4)
  | 4 => (RX5, TX5, 8)
  | _ => (RX6, TX6, 35)
theorem sm_c_at : ∀ ci, ci < 6 → vc6[ci]? = some (sm_c ci)
  | 0, _ => rfl
  | 1, _ => rfl
  | 2, _ => rfl
  | 3, _ => rfl
  | 4, _ => rfl
  | 5, _ => rfl
  | n + 6, h => by omega
def sm_ocl (k : Nat) : Option Nat := if k < 96 then (if k % 8 = 0 then some 0 else none) else
  if k = 96 then some 4 else if k = 97 then some 3 else if k = 100 then some 2 else if k = 104 then some 1 else if k = 106 then some 1 else if k = 110 then some 5 else none
def sm_aln (k : Nat) : Option Nat := if k < 96 then (if k % 8 = 0 then none else if k % 8 < 5 then some 6 else some 8) else
  if k = 98 then some 200 else if k = 99 then some 3 else if k = 101 then some 6 else if k = 102 then some 6 else if k = 103 then some 6 else if k = 108 then some 81 else if k = 109 then some 81 else
  if k = 111 then some 8 else if k = 112 then some 8 else if k = 113 then some 8 else if k = 114 then some 6 else if k = 115 then some 6 else if k = 116 then some 6 else if k = 117 then some 6 else
  if k = 118 then some 6 else if k = 119 then some 6 else if k = 120 then some 6 else if k = 121 then some 200 else if k = 122 then some 5 else if k = 123 then some 15 else if k = 124 then some 21 else
  if k = 125 then some 232 else if k = 126 then some 29 else if k = 127 then some 58 else none
/-- rows of Fields: how many, the first one's cell -/
def sm_rln (k : Nat) : Option (Nat × Nat) := if k = 105 then some (8, 16) else if k = 107 then some (2, 80) else none
/-- the references that the objects hold -/
def sm_rf (ci k i : Nat) : Option Nat := match ci with
  | 0 => if 10 ≤ i then some (k + (i - 9)) else none
  | 1 => if i = 0 then some (k + 1) else none
  | 2 => if i < 3 then some (k + 1 + i) else none
  | 3 => if i < 2 then some (k + 1 + i) else none
  | 4 => match i with
    | 0 => some 97
    | 1 => some 0
    | 2 => some 8
    | 3 => some 100
    | 4 => some 104
    | 5 => some 106
    | 6 => some 108
    | _ => some 109
  | _ => match i with
    | 3 => some 111
    | 4 => some 112
    | 5 => some 113
    | 11 => some 114
    | 12 => some 115
    | 13 => some 116
    | 14 => some 117
    | 16 => some 118
    | 17 => some 119
    | 18 => some 120
    | 19 => some 121
    | 24 => some 122
    | 25 => some 123
    | 26 => some 124
    | 30 => some 125
    | 32 => some 126
    | 33 => some 127
    | _ => none
def sm_fv (ρ : Nat → Nat) (σ : sm_St) (ci k i : Nat) : Value := match sm_rf ci k i with
  | some r => .ref (ρ r)
  | none => .int (σ k i)
def sm_cel (ρ : Nat → Nat) (cI cF : ClassId) (σ : sm_St) (k : Nat) : va_E := match sm_ocl k with
  | some ci => .inr (ci, (List.range (sm_c ci).2.2).map (sm_fv ρ σ ci k))
  | none => match sm_rln k with
    | some nb => .inl (cF, nb.1, .inr (.inr (.inr (.inr (fun i => some (ρ (nb.2 + 8 * i)))))))
    | none => .inl (cI, (sm_aln k).getD 0, .inl (σ k))
def sm_ws (ρ : Nat → Nat) (cI cF : ClassId) (σ : sm_St) : va_W := (List.range 128).map (fun k => (ρ k, sm_cel ρ cI cF σ k))
theorem sm_ws_at {ρ : Nat → Nat} {cI cF : ClassId} {σ : sm_St} {k : Nat} (hk : k < 128) : (sm_ws ρ cI cF σ)[k]? = some (ρ k, sm_cel ρ cI cF σ k) := by
  unfold sm_ws
  rw [List.getElem?_map, List.getElem?_range hk]
  rfl
theorem sm_ws_of {ρ : Nat → Nat} {cI cF : ClassId} {σ : sm_St} {k : Nat} {q : Nat × va_E} (h : (sm_ws ρ cI cF σ)[k]? = some q) : k < 128 ∧ q = (ρ k, sm_cel ρ cI cF σ k) := by
  have hk : k < 128 := by
    have := (List.getElem?_eq_some_iff.mp h).1
    simpa [sm_ws] using this
  exact ⟨hk, (Option.some.inj ((sm_ws_at hk).symm.trans h)).symm⟩
/-- which cells are apart doesn't hang on what they hold -/
theorem sm_D {A : Nat → Prop} {ρ : Nat → Nat} {cI cF : ClassId} {σ σ' : sm_St} (h : va_D A (sm_ws ρ cI cF σ)) : va_D A (sm_ws ρ cI cF σ') := by
  refine ⟨fun i j p q hi hj e => ?_, fun k q hk => ?_⟩
  · obtain ⟨h1, rfl⟩ := sm_ws_of hi
    obtain ⟨h2, rfl⟩ := sm_ws_of hj
    exact h.1 i j _ _ (sm_ws_at h1) (sm_ws_at h2) e
  · obtain ⟨h1, rfl⟩ := sm_ws_of hk
    exact h.2 k (ρ k, sm_cel ρ cI cF σ k) (sm_ws_at h1)
theorem sm_A {ρ : Nat → Nat} {cI cF : ClassId} {σ σ' : sm_St} {sz q : Nat} (h : va_A (sm_ws ρ cI cF σ) sz q) : va_A (sm_ws ρ cI cF σ') sz q := by
  rcases h with ⟨k, e, h⟩ | h
  · obtain ⟨h1, h2⟩ := sm_ws_of h
    cases h2
    exact Or.inl ⟨k, _, sm_ws_at h1⟩
  · exact Or.inr h
theorem sm_ocl_lt {k ci : Nat} (h : sm_ocl k = some ci) : k < 128 ∧ ci < 6 := by
  unfold sm_ocl at h
  repeat' split at h
  all_goals first | (cases h; omega) | cases h
theorem sm_aln_ok : ∀ k, k < 128 → (sm_aln k = none ∨ (sm_ocl k = none ∧ sm_rln k = none ∧ (sm_aln k).getD 0 < 1000)) := by decide +kernel
theorem sm_aln_lt {k n : Nat} (h : sm_aln k = some n) : k < 128 ∧ sm_ocl k = none ∧ sm_rln k = none ∧ n < 1000 := by
  have hk : k < 128 := by
    refine Nat.not_le.mp fun hk => ?_
    unfold sm_aln at h
    repeat rw [if_neg (by omega)] at h
    cases h
  rcases sm_aln_ok k hk with h1 | ⟨h1, h2, h3⟩
  · rw [h1] at h; cases h
  · rw [h] at h3
    exact ⟨hk, h1, h2, h3⟩
theorem sm_cel_o {ρ : Nat → Nat} {cI cF : ClassId} {σ : sm_St} {k ci : Nat} (h : sm_ocl k = some ci) : sm_cel ρ cI cF σ k = .inr (ci, (List.range (sm_c ci).2.2).map (sm_fv ρ σ ci k)) := by
  unfold sm_cel
  rw [h]
theorem sm_cel_a {ρ : Nat → Nat} {cI cF : ClassId} {σ : sm_St} {k n : Nat} (h : sm_aln k = some n) : sm_cel ρ cI cF σ k = .inl (cI, n, .inl (σ k)) := by
  obtain ⟨-, h1, h2, -⟩ := sm_aln_lt h
  unfold sm_cel
  rw [h1, h2, h]
  rfl
/-- the number k, i is v now -/
def sm_set (σ : sm_St) (k i : Nat) (v : Int32) : sm_St := fun j => if j = k then upd (σ k) i v else σ j
theorem sm_ws_put {ρ : Nat → Nat} {cI cF : ClassId} {σ : sm_St} {k i ci : Nat} {v : Int32} (h : sm_ocl k = some ci) (hr : sm_rf ci k i = none) (hi : i < (sm_c ci).2.2) :
    (sm_ws ρ cI cF σ).set k (ρ k, .inr (ci, ((List.range (sm_c ci).2.2).map (sm_fv ρ σ ci k)).set i (.int v))) = sm_ws ρ cI cF (sm_set σ k i v) := by
  have hk := (sm_ocl_lt h).1
  apply List.ext_getElem?
  intro j
  by_cases hj : j = k
  · subst hj
    rw [List.getElem?_set_self (by simp [sm_ws]; omega), sm_ws_at hk, sm_cel_o h]
    congr 4
    apply List.ext_getElem?
    intro a
    by_cases ha : a = i
    · subst ha
      rw [List.getElem?_set_self (by simp; omega), List.getElem?_map, List.getElem?_range hi]
      show some (Value.int v) = some (sm_fv ρ (sm_set σ j a v) ci j a)
      unfold sm_fv
      rw [hr]
      simp [sm_set, upd]
    · rw [List.getElem?_set_ne (Ne.symm ha), List.getElem?_map, List.getElem?_map]
      by_cases hb : a < (sm_c ci).2.2
      · rw [List.getElem?_range hb]
        show some (sm_fv ρ σ ci j a) = some (sm_fv ρ (sm_set σ j i v) ci j a)
        unfold sm_fv
        cases sm_rf ci j a with
        | some r => rfl
        | none => simp [sm_set, upd, ha]
      · rw [List.getElem?_eq_none (by simp; omega)]
        rfl
  · rw [List.getElem?_set_ne (Ne.symm hj)]
    by_cases hb : j < 128
    · rw [sm_ws_at hb, sm_ws_at hb]
      have e : sm_set σ k i v j = σ j := by simp [sm_set, hj]
      unfold sm_cel sm_fv
      rw [e]
    · rw [List.getElem?_eq_none (by simp [sm_ws]; omega), List.getElem?_eq_none (by simp [sm_ws]; omega)]
/-- a whole row is f now -/
def sm_row (σ : sm_St) (k : Nat) (f : Nat → Int32) : sm_St := fun j => if j = k then f else σ j
theorem sm_ws_row {ρ : Nat → Nat} {cI cF : ClassId} {σ : sm_St} {k n : Nat} {f : Nat → Int32} (h : sm_aln k = some n) :
    (sm_ws ρ cI cF σ).set k (ρ k, .inl (cI, n, .inl f)) = sm_ws ρ cI cF (sm_row σ k f) := by
  have hk := (sm_aln_lt h).1
  apply List.ext_getElem?
  intro j
  by_cases hj : j = k
  · subst hj
    rw [List.getElem?_set_self (by simp [sm_ws]; omega), sm_ws_at hk, sm_cel_a h]
    simp [sm_row]
  · rw [List.getElem?_set_ne (Ne.symm hj)]
    by_cases hb : j < 128
    · rw [sm_ws_at hb, sm_ws_at hb]
      have e : sm_row σ k f j = σ j := by simp [sm_row, hj]
      unfold sm_cel sm_fv
      rw [e]
    · rw [List.getElem?_eq_none (by simp [sm_ws]; omega), List.getElem?_eq_none (by simp [sm_ws]; omega)]
theorem sm_set_row (σ : sm_St) (k i : Nat) (v : Int32) : sm_row σ k (upd (σ k) i v) = sm_set σ k i v := rfl
/-- values as places in the world: a reference names its cell; 200, 201 are the two static tables -/
def sm_cv (ρ : Nat → Nat) (v : Value) : Value := match v with
  | .ref k => .ref (ρ k)
  | w => w
theorem sm_cv_cat (ρ : Nat → Nat) (v : Value) : (sm_cv ρ v).category = v.category := by
  cases v <;> rfl
def sm_cl (ρ : Nat → Nat) (lv : List (Nat × Value)) : List (Nat × Value) := lv.map (fun q => (q.1, sm_cv ρ q.2))
def sm_lk (lv : List (Nat × Value)) (i : Nat) : Option Value := match lv with
  | [] => none
  | q :: r => if q.1 = i then some q.2 else sm_lk r i
theorem sm_lk_at {ρ : Nat → Nat} {ls : Array Slot} {nL i : Nat} {lv : List (Nat × Value)} {v : Value} (h : lv_has ls nL (sm_cl ρ lv)) (hk : sm_lk lv i = some v) : ls[i]? = some (.val (sm_cv ρ v)) := by
  have key : ∀ lv : List (Nat × Value), sm_lk lv i = some v → (i, v) ∈ lv := by
    intro lv
    induction lv with
    | nil => intro h; cases h
    | cons q r ih =>
      intro h
      unfold sm_lk at h
      by_cases hq : q.1 = i
      · rw [if_pos hq] at h
        cases h
        cases hq
        exact List.mem_cons_self
      · rw [if_neg hq] at h
        exact List.mem_cons_of_mem _ (ih h)
  exact h.2.2 (i, sm_cv ρ v) (List.mem_map.mpr ⟨(i, v), key lv hk, rfl⟩)
def sm_s1 (i : Nat) (v : Value) (lv : List (Nat × Value)) : List (Nat × Value) := (i, v) :: lv.filter (fun q => !(q.1 == i) && !(q.1 + 1 == i && q.2.category == 2))
def sm_s2 (i : Nat) (v : Value) (lv : List (Nat × Value)) : List (Nat × Value) := (i, v) :: lv.filter (fun q => !(q.1 == i) && (!(q.1 == i + 1) && !(q.1 + 1 == i && q.2.category == 2)))
theorem sm_cl_s1 (ρ : Nat → Nat) (i : Nat) (v : Value) (lv : List (Nat × Value)) : (i, sm_cv ρ v) :: (sm_cl ρ lv).filter (fun q => !(q.1 == i) && !(q.1 + 1 == i && q.2.category == 2)) = sm_cl ρ (sm_s1 i v lv) := by
  unfold sm_cl sm_s1
  rw [List.filter_map, List.map_cons]
  congr 2
  apply List.filter_congr
  intro q _
  simp only [Function.comp, sm_cv_cat]
theorem sm_cl_s2 (ρ : Nat → Nat) (i : Nat) (v : Value) (lv : List (Nat × Value)) : (i, sm_cv ρ v) :: (sm_cl ρ lv).filter (fun q => !(q.1 == i) && (!(q.1 == i + 1) && !(q.1 + 1 == i && q.2.category == 2))) = sm_cl ρ (sm_s2 i v lv) := by
  unfold sm_cl sm_s2
  rw [List.filter_map, List.map_cons]
  congr 2
  apply List.filter_congr
  intro q _
  simp only [Function.comp, sm_cv_cat]
def sm_sx (j : Nat) : Int32 := match j with
  | 2 => 1
  | 4 => -1
  | _ => 0
def sm_sy (j : Nat) : Int32 := match j with
  | 1 => -1
  | 3 => 1
  | _ => 0
/-- what else a method needs of a state: the two tables, and three links to nest mates -/
def sm_G (ρ : Nat → Nat) (A : Nat → Prop) (U : State) (H : Heap) : Prop :=
  (va_Z RX0 "STEP_X" "[I" (.ref (ρ 200)) A U H ∧ va_T .int (ρ 200) 5 (fun j => .int (sm_sx j)) A U H) ∧ (va_Z RX0 "STEP_Y" "[I" (.ref (ρ 201)) A U H ∧ va_T .int (ρ 201) 5 (fun j => .int (sm_sy j)) A U H) ∧
  va_Nw (.methodLinkNest RX0 121 yX5_isCell RX5) U ∧ va_Nw (.methodLinkNest RX4 65 yX5_within RX5) U ∧ va_Nw (.methodLinkNest RX4 75 yX5_isCell RX5) U
theorem sm_G.warm {ρ : Nat → Nat} {A A1 : Nat → Prop} {s U : State} {H : Heap} {locs : List Loc} (h : sm_G ρ A s s.heap) (hW : s.WarmedH U.vm) (hS : va_S A s.heap H locs) (hA : ∀ q, A1 q → A q) : sm_G ρ A1 U H := by
  obtain ⟨⟨a1, a2⟩, ⟨a3, a4⟩, a5, a6, a7⟩ := h
  have hk : ∀ a : Nat, a < s.heap.size → ¬ A a → H[a]? = s.heap[a]? := hS.2.1
  exact ⟨⟨((va_Z.kept a1 hk).narrow hA).moved hW.alike, ((va_T.kept a2 hk).narrow hA).moved hW.alike⟩, ⟨((va_Z.kept a3 hk).narrow hA).moved hW.alike, ((va_T.kept a4 hk).narrow hA).moved hW.alike⟩, va_Nw.warmM hW a5, va_Nw.warmM hW a6, va_Nw.warmM hW a7⟩
theorem sm_G.same {ρ : Nat → Nat} {A : Nat → Prop} {u U : State} {H : Heap} (h : sm_G ρ A u H) (hvm : u.vm = U.vm) : sm_G ρ A U H := by
  obtain ⟨⟨a1, a2⟩, ⟨a3, a4⟩, a5, a6, a7⟩ := h
  have ha : u.vm.Alike U.vm := hvm ▸ Vm.Alike.refl u.vm
  exact ⟨⟨a1.moved ha, a2.moved ha⟩, ⟨a3.moved ha, a4.moved ha⟩, a5.same rfl hvm, a6.same rfl hvm, a7.same rfl hvm⟩
abbrev sm_ty (cI cF : ClassId) : List (ClassId × FieldType) := [(cI, .int), (cF, .object RX0)]
def sm_rm (d : Nat) : Room := { frames := d, cells := 0, slots := 0, locals := 40 * d }
/-- a method's start -/
def sm_Wd (ρ : Nat → Nat) (D : va_G) (cI cF : ClassId) (σ : sm_St) (sz : Nat) (U : State) : Prop :=
  U.heap.size = sz ∧ va_P D vc6 (sm_ws ρ cI cF σ) U.heap ∧ va_K D vc6 (sm_ty cI cF) U ∧ va_D (fun _ => True) (sm_ws ρ cI cF σ) ∧ sm_G ρ (va_A (sm_ws ρ cI cF σ) sz) U U.heap
/-- a method's end -/
def sm_Q (ρ : Nat → Nat) (D : va_G) (cI cF : ClassId) (A : Nat → Prop) (r : Option Value) (σ' : sm_St) : Array Value → State → Outcome → State → Prop :=
  fun _ st oc t => (oc = .returned (r.map (sm_cv ρ)) ∧ va_P D vc6 (sm_ws ρ cI cF σ') t.heap ∧ va_K D vc6 (sm_ty cI cF) t) ∧ va_F A st t
/-- a contract: from the numbers σ and the arguments as, the answer is r and the numbers are σ' -/
def sm_C (y : MethodName) (cc : ByteArray) (nL : Nat) (ret : Option FieldType) (d : Nat) (as : List Value) (σ : sm_St) (r : Option Value) (σ' : sm_St) : Prop :=
  ∀ (l : Launch) (ρ : Nat → Nat) (D : va_G) (cI cF : ClassId) (sz : Nat), Met l y (.code y cc nL ret :: gw) (sm_rm d) (va_Pc (as.map (sm_cv ρ)) (sm_Wd ρ D cI cF σ sz)) (sm_Q ρ D cI cF (va_A (sm_ws ρ cI cF σ) sz) r σ') 0 0 (va_A (sm_ws ρ cI cF σ) sz)
/-- what holds all through a method -/
def sm_X (own : String) (cc : ByteArray) (nL : Nat) (ret : Option FieldType) (p : Program) (s : State) (m : MethodId) (args : Array Value) (meth : Method) (c : Code) (ρ : Nat → Nat) (D : va_G) (cI cF : ClassId) (A : Nat → Prop) : Prop :=
  p.tables.exec = Jvm.exec ∧ c.code = cc ∧ c.maxLocals = nL ∧ s.vm.findClass own = some m.cls ∧ (∀ w ∈ gw, w.before args s = true) ∧ meth.sig.returnType = ret ∧ meth.locks = false ∧ va_K D vc6 (sm_ty cI cF) s ∧ sm_G ρ A s s.heap ∧ ∀ q : Nat, s.heap.size ≤ q → A q
/-- the walk: at pc, with these locals, this stack, these numbers, the method comes to its end with r and σ' -/
def sm_W (own : String) (cc : ByteArray) (nL : Nat) (ret : Option FieldType) (d : Nat) (r : Option Value) (σ' : sm_St) (pc : Nat) (lv : List (Nat × Value)) (st : List Value) (σ : sm_St) : Prop :=
  ∀ ⦃p : Program⦄ ⦃l : Launch⦄ ⦃e : Env⦄ ⦃s : State⦄ ⦃m : MethodId⦄ ⦃args : Array Value⦄ ⦃below : List Frame⦄ ⦃meth : Method⦄ ⦃c : Code⦄ ⦃ρ : Nat → Nat⦄ ⦃D : va_G⦄ ⦃cI cF : ClassId⦄ ⦃A : Nat → Prop⦄ ⦃H : Heap⦄ ⦃locs : List Loc⦄ ⦃ls : Array Slot⦄,
    sm_X own cc nL ret p s m args meth c ρ D cI cF A → lv_has ls nL (sm_cl ρ lv) → va_P D vc6 (sm_ws ρ cI cF σ) H → va_D A (sm_ws ρ cI cF σ) → va_S A s.heap H locs →
    W p l e (sm_rm d) s m args below meth c H locs 0 0 (MQ below (sm_Q ρ D cI cF A r σ') args s 0 0 A) (F0 m pc ls (st.map (sm_cv ρ)))
/-- a contract out of a walk -/
theorem sm_C.of {y : MethodName} {own : String} {cc : ByteArray} {nL d : Nat} {ret : Option FieldType} {as : List Value} {σ σ' : sm_St} {r : Option Value} (hy : plainName y.cls = true) (ho : y.cls = own) (hn : (lg_sl as).length ≤ nL)
    (h : sm_W own cc nL ret d r σ' 0 (lv_args 0 as) [] σ) : sm_C y cc nL ret d as σ r σ' := by
  intro l ρ D cI cF sz
  refine Met.ofW (cc := cc) (maxL := nL) (ret := ret) hy rfl ?_
  intro p e s m args below meth c s₁ B hml hv
  obtain ⟨rfl, hsz, hP, hK, hD0, hG⟩ := hv
  have hts0 := atoms_spec (ws := .code y cc nL ret :: gw) B.pre
  have hown : s.vm.findClass own = some m.cls := ho ▸ findClass_of_methodNamed B.named
  subst hsz
  have hD := hD0.self (sz := s.heap.size)
  have hA : ∀ q : Nat, s.heap.size ≤ q → va_A (sm_ws ρ cI cF σ) s.heap.size q := fun q h => Or.inr h
  have hcat : ∀ vs : List Value, (lg_sl (vs.map (sm_cv ρ))).length = (lg_sl vs).length := by
    intro vs
    induction vs with
    | nil => rfl
    | cons v vs ih =>
      simp only [lg_sl, List.map_cons, List.flatMap_cons, List.length_append] at ih ⊢
      rw [ih]
      cases v <;> rfl
  have hargs : ∀ (vs : List Value) (i : Nat), lv_args i (vs.map (sm_cv ρ)) = sm_cl ρ (lv_args i vs) := by
    intro vs
    induction vs with
    | nil => intro i; rfl
    | cons v vs ih =>
      intro i
      show (i, sm_cv ρ v) :: lv_args _ (vs.map (sm_cv ρ)) = (i, sm_cv ρ v) :: sm_cl ρ (lv_args _ vs)
      rw [sm_cv_cat, ih]
  have hl := lv_entry (as.map (sm_cv ρ)) (n := nL) (by rw [hcat]; exact hn)
  rw [lg_entry_eq]
  rw [hargs] at hl
  exact h ⟨B.exec, B.bytes, hml, hown, fun w hw => hts0 w (List.mem_cons_of_mem _ hw), B.returns, B.notSynchronized, hK, hG, hA⟩ hl hP hD va_S.rf

section
variable {own : String} {cc : ByteArray} {nL d : Nat} {ret : Option FieldType} {r : Option Value} {σ' σ : sm_St} {pc : Nat} {lv : List (Nat × Value)} {st : List Value}
theorem sw_iconst {n : Int} {v : Int32} (hd : decode cc pc = .ok (.iconst n, 1)) (hv : Int32.ofInt n = v) (k : sm_W own cc nL ret d r σ' (pc + 1) lv (.int v :: st) σ) : sm_W own cc nL ret d r σ' pc lv st σ := by
  intro p l e s m args below meth c ρ D cI cF A H locs ls X hl hP hD hS
  exact lv_iconst X.1 X.2.1 hd hv (k X hl hP hD hS)
theorem sw_bipush {n : Int} {v : Int32} (hd : decode cc pc = .ok (.bipush n, 2)) (hv : (Int8.ofInt n).toInt32 = v) (k : sm_W own cc nL ret d r σ' (pc + 2) lv (.int v :: st) σ) : sm_W own cc nL ret d r σ' pc lv st σ := by
  intro p l e s m args below meth c ρ D cI cF A H locs ls X hl hP hD hS
  exact lv_bipush X.1 X.2.1 hd hv (k X hl hP hD hS)
theorem sw_sipush {n : Int} {v : Int32} (hd : decode cc pc = .ok (.sipush n, 3)) (hv : (Int16.ofInt n).toInt32 = v) (k : sm_W own cc nL ret d r σ' (pc + 3) lv (.int v :: st) σ) : sm_W own cc nL ret d r σ' pc lv st σ := by
  intro p l e s m args below meth c ρ D cI cF A H locs ls X hl hP hD hS
  exact lv_sipush X.1 X.2.1 hd hv (k X hl hP hD hS)
theorem sw_lconst {n : Fin 2} {v : Int64} (hd : decode cc pc = .ok (.lconst n, 1)) (hv : Int64.ofNat (n : Nat) = v) (k : sm_W own cc nL ret d r σ' (pc + 1) lv (.long v :: st) σ) : sm_W own cc nL ret d r σ' pc lv st σ := by
  intro p l e s m args below meth c ρ D cI cF A H locs ls X hl hP hD hS
  exact lv_lconst X.1 X.2.1 hd hv (k X hl hP hD hS)
theorem sw_ldc {index : Nat} {v : Int32} (hd : decode cc pc = .ok (.ldc index, 2)) (hw : Cond.constant own index v ∈ gw) (k : sm_W own cc nL ret d r σ' (pc + 2) lv (.int v :: st) σ) : sm_W own cc nL ret d r σ' pc lv st σ := by
  intro p l e s m args below meth c ρ D cI cF A H locs ls X hl hP hD hS
  exact lv_ldc X.1 X.2.1 X.2.2.2.1 (X.2.2.2.2.1 _ hw) hd (k X hl hP hD hS)
theorem sw_ldc2 {index : Nat} {v : Int64} (hd : decode cc pc = .ok (.ldc2_w index, 3)) (hw : Cond.constantLong own index v ∈ gw) (k : sm_W own cc nL ret d r σ' (pc + 3) lv (.long v :: st) σ) : sm_W own cc nL ret d r σ' pc lv st σ := by
  intro p l e s m args below meth c ρ D cI cF A H locs ls X hl hP hD hS
  exact lv_ldc2 X.1 X.2.1 X.2.2.2.1 (X.2.2.2.2.1 _ hw) hd (k X hl hP hD hS)
theorem sw_iload_n {kk : Fin 4} {x : Int32} (hd : decode cc pc = .ok (.iload_n kk, 1)) (h : sm_lk lv kk = some (.int x)) (k : sm_W own cc nL ret d r σ' (pc + 1) lv (.int x :: st) σ) : sm_W own cc nL ret d r σ' pc lv st σ := by
  intro p l e s m args below meth c ρ D cI cF A H locs ls X hl hP hD hS
  exact lv_iload_n X.1 X.2.1 hd rfl (sm_lk_at hl h) (k X hl hP hD hS)
theorem sw_iload {i : Nat} {x : Int32} (hd : decode cc pc = .ok (.iload i, 2)) (h : sm_lk lv i = some (.int x)) (k : sm_W own cc nL ret d r σ' (pc + 2) lv (.int x :: st) σ) : sm_W own cc nL ret d r σ' pc lv st σ := by
  intro p l e s m args below meth c ρ D cI cF A H locs ls X hl hP hD hS
  exact lv_iload X.1 X.2.1 hd (sm_lk_at hl h) (k X hl hP hD hS)
theorem sw_lload_n {kk : Fin 4} {x : Int64} (hd : decode cc pc = .ok (.lload_n kk, 1)) (h : sm_lk lv kk = some (.long x)) (k : sm_W own cc nL ret d r σ' (pc + 1) lv (.long x :: st) σ) : sm_W own cc nL ret d r σ' pc lv st σ := by
  intro p l e s m args below meth c ρ D cI cF A H locs ls X hl hP hD hS
  exact lv_lload_n X.1 X.2.1 hd rfl (sm_lk_at hl h) (k X hl hP hD hS)
theorem sw_lload {i : Nat} {x : Int64} (hd : decode cc pc = .ok (.lload i, 2)) (h : sm_lk lv i = some (.long x)) (k : sm_W own cc nL ret d r σ' (pc + 2) lv (.long x :: st) σ) : sm_W own cc nL ret d r σ' pc lv st σ := by
  intro p l e s m args below meth c ρ D cI cF A H locs ls X hl hP hD hS
  exact lv_lload X.1 X.2.1 hd (sm_lk_at hl h) (k X hl hP hD hS)
theorem sw_aload_n {kk : Fin 4} {x : Nat} (hd : decode cc pc = .ok (.aload_n kk, 1)) (h : sm_lk lv kk = some (.ref x)) (k : sm_W own cc nL ret d r σ' (pc + 1) lv (.ref x :: st) σ) : sm_W own cc nL ret d r σ' pc lv st σ := by
  intro p l e s m args below meth c ρ D cI cF A H locs ls X hl hP hD hS
  exact lv_aload_n X.1 X.2.1 hd rfl (sm_lk_at hl h) (k X hl hP hD hS)
theorem sw_aload {i x : Nat} (hd : decode cc pc = .ok (.aload i, 2)) (h : sm_lk lv i = some (.ref x)) (k : sm_W own cc nL ret d r σ' (pc + 2) lv (.ref x :: st) σ) : sm_W own cc nL ret d r σ' pc lv st σ := by
  intro p l e s m args below meth c ρ D cI cF A H locs ls X hl hP hD hS
  exact lv_aload X.1 X.2.1 hd (sm_lk_at hl h) (k X hl hP hD hS)
theorem sw_istore_n {kk : Fin 4} {x : Int32} {lv' : List (Nat × Value)} (hd : decode cc pc = .ok (.istore_n kk, 1)) (hn : (kk : Nat) < nL) (h : sm_s1 kk (.int x) lv = lv') (k : sm_W own cc nL ret d r σ' (pc + 1) lv' st σ) : sm_W own cc nL ret d r σ' pc lv (.int x :: st) σ := by
  subst h
  intro p l e s m args below meth c ρ D cI cF A H locs ls X hl hP hD hS
  exact lv_istore_n X.1 X.2.1 hd rfl hl hn (sm_cl_s1 ρ kk (.int x) lv) (fun ls' h' => k X h' hP hD hS)
theorem sw_istore {i : Nat} {x : Int32} {lv' : List (Nat × Value)} (hd : decode cc pc = .ok (.istore i, 2)) (hn : i < nL) (h : sm_s1 i (.int x) lv = lv') (k : sm_W own cc nL ret d r σ' (pc + 2) lv' st σ) : sm_W own cc nL ret d r σ' pc lv (.int x :: st) σ := by
  subst h
  intro p l e s m args below meth c ρ D cI cF A H locs ls X hl hP hD hS
  exact lv_istore X.1 X.2.1 hd hl hn (sm_cl_s1 ρ i (.int x) lv) (fun ls' h' => k X h' hP hD hS)
theorem sw_astore_n {kk : Fin 4} {x : Nat} {lv' : List (Nat × Value)} (hd : decode cc pc = .ok (.astore_n kk, 1)) (hn : (kk : Nat) < nL) (h : sm_s1 kk (.ref x) lv = lv') (k : sm_W own cc nL ret d r σ' (pc + 1) lv' st σ) : sm_W own cc nL ret d r σ' pc lv (.ref x :: st) σ := by
  subst h
  intro p l e s m args below meth c ρ D cI cF A H locs ls X hl hP hD hS
  exact lv_astore_n X.1 X.2.1 hd rfl hl hn (sm_cl_s1 ρ kk (.ref x) lv) (fun ls' h' => k X h' hP hD hS)
theorem sw_lstore_n {kk : Fin 4} {x : Int64} {lv' : List (Nat × Value)} (hd : decode cc pc = .ok (.lstore_n kk, 1)) (hn : (kk : Nat) + 1 < nL) (h : sm_s2 kk (.long x) lv = lv') (k : sm_W own cc nL ret d r σ' (pc + 1) lv' st σ) : sm_W own cc nL ret d r σ' pc lv (.long x :: st) σ := by
  subst h
  intro p l e s m args below meth c ρ D cI cF A H locs ls X hl hP hD hS
  exact lv_lstore_n X.1 X.2.1 hd rfl hl hn (sm_cl_s2 ρ kk (.long x) lv) (fun ls' h' => k X h' hP hD hS)
theorem sw_lstore {i : Nat} {x : Int64} {lv' : List (Nat × Value)} (hd : decode cc pc = .ok (.lstore i, 2)) (hn : i + 1 < nL) (h : sm_s2 i (.long x) lv = lv') (k : sm_W own cc nL ret d r σ' (pc + 2) lv' st σ) : sm_W own cc nL ret d r σ' pc lv (.long x :: st) σ := by
  subst h
  intro p l e s m args below meth c ρ D cI cF A H locs ls X hl hP hD hS
  exact lv_lstore X.1 X.2.1 hd hl hn (sm_cl_s2 ρ i (.long x) lv) (fun ls' h' => k X h' hP hD hS)
theorem sw_iinc {i : Nat} {n : Int} {x v : Int32} {lv' : List (Nat × Value)} (hd : decode cc pc = .ok (.iinc i n, 3)) (hk : sm_lk lv i = some (.int x)) (hv : x + Int32.ofInt n = v) (hn : i < nL) (h : sm_s1 i (.int v) lv = lv') (k : sm_W own cc nL ret d r σ' (pc + 3) lv' st σ) : sm_W own cc nL ret d r σ' pc lv st σ := by
  subst h
  intro p l e s m args below meth c ρ D cI cF A H locs ls X hl hP hD hS
  have h2 : ∃ kk : Nat, (sm_cl ρ lv)[kk]? = some (i, .int x) := by
    have key : ∀ lv : List (Nat × Value), sm_lk lv i = some (.int x) → ∃ kk : Nat, (sm_cl ρ lv)[kk]? = some (i, .int x) := by
      intro lv
      induction lv with
      | nil => intro h; cases h
      | cons q t ih =>
        intro h
        unfold sm_lk at h
        by_cases hq : q.1 = i
        · rw [if_pos hq] at h
          refine ⟨0, ?_⟩
          show some (q.1, sm_cv ρ q.2) = _
          rw [hq, Option.some.inj h]
          rfl
        · rw [if_neg hq] at h
          obtain ⟨kk, h⟩ := ih h
          exact ⟨kk + 1, h⟩
    exact key lv hk
  obtain ⟨kk, h2⟩ := h2
  exact lv_iinc X.1 X.2.1 hd hl h2 hv hn (sm_cl_s1 ρ i (.int v) lv) (fun ls' h' => k X h' hP hD hS)
theorem sw_iadd {x y : Int32} (hd : decode cc pc = .ok (.iadd, 1)) (k : sm_W own cc nL ret d r σ' (pc + 1) lv (.int (x + y) :: st) σ) : sm_W own cc nL ret d r σ' pc lv (.int y :: .int x :: st) σ := by
  intro p l e s m args below meth c ρ D cI cF A H locs ls X hl hP hD hS
  exact lv_iadd X.1 X.2.1 hd (k X hl hP hD hS)
theorem sw_isub {x y : Int32} (hd : decode cc pc = .ok (.isub, 1)) (k : sm_W own cc nL ret d r σ' (pc + 1) lv (.int (x - y) :: st) σ) : sm_W own cc nL ret d r σ' pc lv (.int y :: .int x :: st) σ := by
  intro p l e s m args below meth c ρ D cI cF A H locs ls X hl hP hD hS
  exact lv_isub X.1 X.2.1 hd (k X hl hP hD hS)
theorem sw_imul {x y : Int32} (hd : decode cc pc = .ok (.imul, 1)) (k : sm_W own cc nL ret d r σ' (pc + 1) lv (.int (x * y) :: st) σ) : sm_W own cc nL ret d r σ' pc lv (.int y :: .int x :: st) σ := by
  intro p l e s m args below meth c ρ D cI cF A H locs ls X hl hP hD hS
  exact lv_imul X.1 X.2.1 hd (k X hl hP hD hS)
theorem sw_iand {x y : Int32} (hd : decode cc pc = .ok (.iand, 1)) (k : sm_W own cc nL ret d r σ' (pc + 1) lv (.int (x &&& y) :: st) σ) : sm_W own cc nL ret d r σ' pc lv (.int y :: .int x :: st) σ := by
  intro p l e s m args below meth c ρ D cI cF A H locs ls X hl hP hD hS
  exact lv_iand X.1 X.2.1 hd (k X hl hP hD hS)
theorem sw_ior {x y : Int32} (hd : decode cc pc = .ok (.ior, 1)) (k : sm_W own cc nL ret d r σ' (pc + 1) lv (.int (x ||| y) :: st) σ) : sm_W own cc nL ret d r σ' pc lv (.int y :: .int x :: st) σ := by
  intro p l e s m args below meth c ρ D cI cF A H locs ls X hl hP hD hS
  exact lv_ior X.1 X.2.1 hd (k X hl hP hD hS)
theorem sw_ixor {x y : Int32} (hd : decode cc pc = .ok (.ixor, 1)) (k : sm_W own cc nL ret d r σ' (pc + 1) lv (.int (x ^^^ y) :: st) σ) : sm_W own cc nL ret d r σ' pc lv (.int y :: .int x :: st) σ := by
  intro p l e s m args below meth c ρ D cI cF A H locs ls X hl hP hD hS
  exact lv_ixor X.1 X.2.1 hd (k X hl hP hD hS)
theorem sw_ishl {x y : Int32} (hd : decode cc pc = .ok (.ishl, 1)) (k : sm_W own cc nL ret d r σ' (pc + 1) lv (.int (x <<< (y &&& 31)) :: st) σ) : sm_W own cc nL ret d r σ' pc lv (.int y :: .int x :: st) σ := by
  intro p l e s m args below meth c ρ D cI cF A H locs ls X hl hP hD hS
  exact lv_ishl X.1 X.2.1 hd (k X hl hP hD hS)
theorem sw_ishr {x y : Int32} (hd : decode cc pc = .ok (.ishr, 1)) (k : sm_W own cc nL ret d r σ' (pc + 1) lv (.int (x >>> (y &&& 31)) :: st) σ) : sm_W own cc nL ret d r σ' pc lv (.int y :: .int x :: st) σ := by
  intro p l e s m args below meth c ρ D cI cF A H locs ls X hl hP hD hS
  exact lv_ishr X.1 X.2.1 hd (k X hl hP hD hS)
theorem sw_iushr {x y : Int32} (hd : decode cc pc = .ok (.iushr, 1)) (k : sm_W own cc nL ret d r σ' (pc + 1) lv (.int ((x.toUInt32 >>> (y.toUInt32 &&& Int32.toUInt32 31)).toInt32) :: st) σ) : sm_W own cc nL ret d r σ' pc lv (.int y :: .int x :: st) σ := by
  intro p l e s m args below meth c ρ D cI cF A H locs ls X hl hP hD hS
  exact lv_iushr X.1 X.2.1 hd rfl (k X hl hP hD hS)
theorem sw_idiv {x y : Int32} (hd : decode cc pc = .ok (.idiv, 1)) (hne : ¬ y = 0) (k : sm_W own cc nL ret d r σ' (pc + 1) lv (.int (x / y) :: st) σ) : sm_W own cc nL ret d r σ' pc lv (.int y :: .int x :: st) σ := by
  intro p l e s m args below meth c ρ D cI cF A H locs ls X hl hP hD hS
  exact lv_idiv X.1 X.2.1 hd hne (k X hl hP hD hS)
theorem sw_irem {x y : Int32} (hd : decode cc pc = .ok (.irem, 1)) (hne : ¬ y = 0) (k : sm_W own cc nL ret d r σ' (pc + 1) lv (.int (x - x / y * y) :: st) σ) : sm_W own cc nL ret d r σ' pc lv (.int y :: .int x :: st) σ := by
  intro p l e s m args below meth c ρ D cI cF A H locs ls X hl hP hD hS
  exact lv_irem X.1 X.2.1 hd hne (k X hl hP hD hS)
theorem sw_ineg {x : Int32} (hd : decode cc pc = .ok (.ineg, 1)) (k : sm_W own cc nL ret d r σ' (pc + 1) lv (.int (-x) :: st) σ) : sm_W own cc nL ret d r σ' pc lv (.int x :: st) σ := by
  intro p l e s m args below meth c ρ D cI cF A H locs ls X hl hP hD hS
  exact lv_ineg X.1 X.2.1 hd (k X hl hP hD hS)
theorem sw_ladd {x y : Int64} (hd : decode cc pc = .ok (.ladd, 1)) (k : sm_W own cc nL ret d r σ' (pc + 1) lv (.long (x + y) :: st) σ) : sm_W own cc nL ret d r σ' pc lv (.long y :: .long x :: st) σ := by
  intro p l e s m args below meth c ρ D cI cF A H locs ls X hl hP hD hS
  exact lv_ladd X.1 X.2.1 hd (k X hl hP hD hS)
theorem sw_lmul {x y : Int64} (hd : decode cc pc = .ok (.lmul, 1)) (k : sm_W own cc nL ret d r σ' (pc + 1) lv (.long (x * y) :: st) σ) : sm_W own cc nL ret d r σ' pc lv (.long y :: .long x :: st) σ := by
  intro p l e s m args below meth c ρ D cI cF A H locs ls X hl hP hD hS
  exact lv_lmul X.1 X.2.1 hd (k X hl hP hD hS)
theorem sw_ldiv {x y : Int64} (hd : decode cc pc = .ok (.ldiv, 1)) (hne : ¬ y = 0) (k : sm_W own cc nL ret d r σ' (pc + 1) lv (.long (x / y) :: st) σ) : sm_W own cc nL ret d r σ' pc lv (.long y :: .long x :: st) σ := by
  intro p l e s m args below meth c ρ D cI cF A H locs ls X hl hP hD hS
  exact lv_ldiv X.1 X.2.1 hd hne (k X hl hP hD hS)
theorem sw_lrem {x y : Int64} (hd : decode cc pc = .ok (.lrem, 1)) (hne : ¬ y = 0) (k : sm_W own cc nL ret d r σ' (pc + 1) lv (.long (x - x / y * y) :: st) σ) : sm_W own cc nL ret d r σ' pc lv (.long y :: .long x :: st) σ := by
  intro p l e s m args below meth c ρ D cI cF A H locs ls X hl hP hD hS
  exact lv_lrem X.1 X.2.1 hd hne (k X hl hP hD hS)
theorem sw_lcmp {x y : Int64} (hd : decode cc pc = .ok (.lcmp, 1)) (k : sm_W own cc nL ret d r σ' (pc + 1) lv (.int (lg_cmp x y) :: st) σ) : sm_W own cc nL ret d r σ' pc lv (.long y :: .long x :: st) σ := by
  intro p l e s m args below meth c ρ D cI cF A H locs ls X hl hP hD hS
  exact W.lcmp X.1 X.2.1 hd (k X hl hP hD hS)
theorem sw_i2l {x : Int32} (hd : decode cc pc = .ok (.i2l, 1)) (k : sm_W own cc nL ret d r σ' (pc + 1) lv (.long x.toInt64 :: st) σ) : sm_W own cc nL ret d r σ' pc lv (.int x :: st) σ := by
  intro p l e s m args below meth c ρ D cI cF A H locs ls X hl hP hD hS
  exact lv_i2l X.1 X.2.1 hd rfl (k X hl hP hD hS)
theorem sw_l2i {x : Int64} (hd : decode cc pc = .ok (.l2i, 1)) (k : sm_W own cc nL ret d r σ' (pc + 1) lv (.int x.toInt32 :: st) σ) : sm_W own cc nL ret d r σ' pc lv (.long x :: st) σ := by
  intro p l e s m args below meth c ρ D cI cF A H locs ls X hl hP hD hS
  exact lv_l2i X.1 X.2.1 hd rfl (k X hl hP hD hS)
theorem sw_dup {v : Value} (hd : decode cc pc = .ok (.dup, 1)) (hc : v.category = 1) (k : sm_W own cc nL ret d r σ' (pc + 1) lv (v :: v :: st) σ) : sm_W own cc nL ret d r σ' pc lv (v :: st) σ := by
  intro p l e s m args below meth c ρ D cI cF A H locs ls X hl hP hD hS
  exact lv_dup X.1 X.2.1 hd (by rw [sm_cv_cat]; exact hc) (k X hl hP hD hS)
theorem sw_pop {v : Value} (hd : decode cc pc = .ok (.pop, 1)) (hc : v.category = 1) (k : sm_W own cc nL ret d r σ' (pc + 1) lv st σ) : sm_W own cc nL ret d r σ' pc lv (v :: st) σ := by
  intro p l e s m args below meth c ρ D cI cF A H locs ls X hl hP hD hS
  exact lv_pop X.1 X.2.1 hd (by rw [sm_cv_cat]; exact hc) (k X hl hP hD hS)
theorem sw_goto {off : Int} {tgt : Nat} (hd : decode cc pc = .ok (.goto off, 3)) (ht : (pc : Int) + off = (tgt : Int)) (k : sm_W own cc nL ret d r σ' tgt lv st σ) : sm_W own cc nL ret d r σ' pc lv st σ := by
  intro p l e s m args below meth c ρ D cI cF A H locs ls X hl hP hD hS
  exact lv_goto X.1 X.2.1 hd ht (k X hl hP hD hS)
theorem sw_if_eq {x : Int32} {off : Int} {tgt : Nat} (hd : decode cc pc = .ok (.ifCond .eq off, 3)) (ht : (pc : Int) + off = (tgt : Int)) (kt : x = 0 → sm_W own cc nL ret d r σ' tgt lv st σ) (kf : ¬ x = 0 → sm_W own cc nL ret d r σ' (pc + 3) lv st σ) : sm_W own cc nL ret d r σ' pc lv (.int x :: st) σ := by
  intro p l e s m args below meth c ρ D cI cF A H locs ls X hl hP hD hS
  exact lv_if_eq X.1 X.2.1 hd ht (fun h => kt h X hl hP hD hS) (fun h => kf h X hl hP hD hS)
theorem sw_if_ne {x : Int32} {off : Int} {tgt : Nat} (hd : decode cc pc = .ok (.ifCond .ne off, 3)) (ht : (pc : Int) + off = (tgt : Int)) (kt : ¬ x = 0 → sm_W own cc nL ret d r σ' tgt lv st σ) (kf : x = 0 → sm_W own cc nL ret d r σ' (pc + 3) lv st σ) : sm_W own cc nL ret d r σ' pc lv (.int x :: st) σ := by
  intro p l e s m args below meth c ρ D cI cF A H locs ls X hl hP hD hS
  exact lv_if_ne X.1 X.2.1 hd ht (fun h => kt h X hl hP hD hS) (fun h => kf h X hl hP hD hS)
theorem sw_if_lt {x : Int32} {off : Int} {tgt : Nat} (hd : decode cc pc = .ok (.ifCond .lt off, 3)) (ht : (pc : Int) + off = (tgt : Int)) (kt : x < 0 → sm_W own cc nL ret d r σ' tgt lv st σ) (kf : ¬ x < 0 → sm_W own cc nL ret d r σ' (pc + 3) lv st σ) : sm_W own cc nL ret d r σ' pc lv (.int x :: st) σ := by
  intro p l e s m args below meth c ρ D cI cF A H locs ls X hl hP hD hS
  exact lv_if_lt X.1 X.2.1 hd ht (fun h => kt h X hl hP hD hS) (fun h => kf h X hl hP hD hS)
theorem sw_if_ge {x : Int32} {off : Int} {tgt : Nat} (hd : decode cc pc = .ok (.ifCond .ge off, 3)) (ht : (pc : Int) + off = (tgt : Int)) (kt : 0 ≤ x → sm_W own cc nL ret d r σ' tgt lv st σ) (kf : ¬ 0 ≤ x → sm_W own cc nL ret d r σ' (pc + 3) lv st σ) : sm_W own cc nL ret d r σ' pc lv (.int x :: st) σ := by
  intro p l e s m args below meth c ρ D cI cF A H locs ls X hl hP hD hS
  exact lv_if_ge X.1 X.2.1 hd ht (fun h => kt h X hl hP hD hS) (fun h => kf h X hl hP hD hS)
theorem sw_if_gt {x : Int32} {off : Int} {tgt : Nat} (hd : decode cc pc = .ok (.ifCond .gt off, 3)) (ht : (pc : Int) + off = (tgt : Int)) (kt : 0 < x → sm_W own cc nL ret d r σ' tgt lv st σ) (kf : ¬ 0 < x → sm_W own cc nL ret d r σ' (pc + 3) lv st σ) : sm_W own cc nL ret d r σ' pc lv (.int x :: st) σ := by
  intro p l e s m args below meth c ρ D cI cF A H locs ls X hl hP hD hS
  exact lv_if_gt X.1 X.2.1 hd ht (fun h => kt h X hl hP hD hS) (fun h => kf h X hl hP hD hS)
theorem sw_if_le {x : Int32} {off : Int} {tgt : Nat} (hd : decode cc pc = .ok (.ifCond .le off, 3)) (ht : (pc : Int) + off = (tgt : Int)) (kt : x ≤ 0 → sm_W own cc nL ret d r σ' tgt lv st σ) (kf : ¬ x ≤ 0 → sm_W own cc nL ret d r σ' (pc + 3) lv st σ) : sm_W own cc nL ret d r σ' pc lv (.int x :: st) σ := by
  intro p l e s m args below meth c ρ D cI cF A H locs ls X hl hP hD hS
  exact lv_if_le X.1 X.2.1 hd ht (fun h => kt h X hl hP hD hS) (fun h => kf h X hl hP hD hS)
theorem sw_icmp_eq {x y : Int32} {off : Int} {tgt : Nat} (hd : decode cc pc = .ok (.if_icmp .eq off, 3)) (ht : (pc : Int) + off = (tgt : Int)) (kt : x = y → sm_W own cc nL ret d r σ' tgt lv st σ) (kf : ¬ x = y → sm_W own cc nL ret d r σ' (pc + 3) lv st σ) : sm_W own cc nL ret d r σ' pc lv (.int y :: .int x :: st) σ := by
  intro p l e s m args below meth c ρ D cI cF A H locs ls X hl hP hD hS
  exact lv_icmp_eq X.1 X.2.1 hd ht (fun h => kt h X hl hP hD hS) (fun h => kf h X hl hP hD hS)
theorem sw_icmp_ne {x y : Int32} {off : Int} {tgt : Nat} (hd : decode cc pc = .ok (.if_icmp .ne off, 3)) (ht : (pc : Int) + off = (tgt : Int)) (kt : ¬ x = y → sm_W own cc nL ret d r σ' tgt lv st σ) (kf : x = y → sm_W own cc nL ret d r σ' (pc + 3) lv st σ) : sm_W own cc nL ret d r σ' pc lv (.int y :: .int x :: st) σ := by
  intro p l e s m args below meth c ρ D cI cF A H locs ls X hl hP hD hS
  exact lv_icmp_ne X.1 X.2.1 hd ht (fun h => kt h X hl hP hD hS) (fun h => kf h X hl hP hD hS)
theorem sw_icmp_lt {x y : Int32} {off : Int} {tgt : Nat} (hd : decode cc pc = .ok (.if_icmp .lt off, 3)) (ht : (pc : Int) + off = (tgt : Int)) (kt : x < y → sm_W own cc nL ret d r σ' tgt lv st σ) (kf : ¬ x < y → sm_W own cc nL ret d r σ' (pc + 3) lv st σ) : sm_W own cc nL ret d r σ' pc lv (.int y :: .int x :: st) σ := by
  intro p l e s m args below meth c ρ D cI cF A H locs ls X hl hP hD hS
  exact lv_icmp_lt X.1 X.2.1 hd ht (fun h => kt h X hl hP hD hS) (fun h => kf h X hl hP hD hS)
theorem sw_icmp_ge {x y : Int32} {off : Int} {tgt : Nat} (hd : decode cc pc = .ok (.if_icmp .ge off, 3)) (ht : (pc : Int) + off = (tgt : Int)) (kt : y ≤ x → sm_W own cc nL ret d r σ' tgt lv st σ) (kf : ¬ y ≤ x → sm_W own cc nL ret d r σ' (pc + 3) lv st σ) : sm_W own cc nL ret d r σ' pc lv (.int y :: .int x :: st) σ := by
  intro p l e s m args below meth c ρ D cI cF A H locs ls X hl hP hD hS
  exact lv_icmp_ge X.1 X.2.1 hd ht (fun h => kt h X hl hP hD hS) (fun h => kf h X hl hP hD hS)
theorem sw_icmp_gt {x y : Int32} {off : Int} {tgt : Nat} (hd : decode cc pc = .ok (.if_icmp .gt off, 3)) (ht : (pc : Int) + off = (tgt : Int)) (kt : y < x → sm_W own cc nL ret d r σ' tgt lv st σ) (kf : ¬ y < x → sm_W own cc nL ret d r σ' (pc + 3) lv st σ) : sm_W own cc nL ret d r σ' pc lv (.int y :: .int x :: st) σ := by
  intro p l e s m args below meth c ρ D cI cF A H locs ls X hl hP hD hS
  exact lv_icmp_gt X.1 X.2.1 hd ht (fun h => kt h X hl hP hD hS) (fun h => kf h X hl hP hD hS)
theorem sw_icmp_le {x y : Int32} {off : Int} {tgt : Nat} (hd : decode cc pc = .ok (.if_icmp .le off, 3)) (ht : (pc : Int) + off = (tgt : Int)) (kt : x ≤ y → sm_W own cc nL ret d r σ' tgt lv st σ) (kf : ¬ x ≤ y → sm_W own cc nL ret d r σ' (pc + 3) lv st σ) : sm_W own cc nL ret d r σ' pc lv (.int y :: .int x :: st) σ := by
  intro p l e s m args below meth c ρ D cI cF A H locs ls X hl hP hD hS
  exact lv_icmp_le X.1 X.2.1 hd ht (fun h => kt h X hl hP hD hS) (fun h => kf h X hl hP hD hS)
theorem sw_tableIn {dflt lo hi : Int} {offs : Array Int} {len : Nat} {x : Int32} {off : Int} {tgt : Nat} (hd : decode cc pc = .ok (.tableswitch dflt lo hi offs, len)) (h1 : ¬ x.toInt < lo) (h2 : ¬ hi < x.toInt) (ho : offs[(x.toInt - lo).toNat]? = some off) (ht : (pc : Int) + off = (tgt : Int)) (k : sm_W own cc nL ret d r σ' tgt lv st σ) : sm_W own cc nL ret d r σ' pc lv (.int x :: st) σ := by
  intro p l e s m args below meth c ρ D cI cF A H locs ls X hl hP hD hS
  exact lv_tableIn X.1 X.2.1 hd h1 h2 ho ht (k X hl hP hD hS)
theorem sw_tableOut {dflt lo hi : Int} {offs : Array Int} {len : Nat} {x : Int32} {tgt : Nat} (hd : decode cc pc = .ok (.tableswitch dflt lo hi offs, len)) (h : x.toInt < lo ∨ hi < x.toInt) (ht : (pc : Int) + dflt = (tgt : Int)) (k : sm_W own cc nL ret d r σ' tgt lv st σ) : sm_W own cc nL ret d r σ' pc lv (.int x :: st) σ := by
  intro p l e s m args below meth c ρ D cI cF A H locs ls X hl hP hD hS
  exact lv_tableOut X.1 X.2.1 hd h ht (k X hl hP hD hS)
theorem sw_lookup {dflt : Int} {ps : Array (Int × Int)} {len : Nat} {x : Int32} {off : Int} {tgt : Nat} (hd : decode cc pc = .ok (.lookupswitch dflt ps, len)) (hp : (ps.toList.zip (ps.toList.drop 1)).all (fun (a, next) => a.1 < next.1) = true) (ho : Op.lookupswitch.offset ps.toList dflt x.toInt = off) (ht : (pc : Int) + off = (tgt : Int)) (k : sm_W own cc nL ret d r σ' tgt lv st σ) : sm_W own cc nL ret d r σ' pc lv (.int x :: st) σ := by
  intro p l e s m args below meth c ρ D cI cF A H locs ls X hl hP hD hS
  exact lv_lookup X.1 X.2.1 hd hp ho ht (k X hl hP hD hS)
theorem sw_ifnull {x : Nat} {off : Int} (hd : decode cc pc = .ok (.ifnull off, 3)) (k : sm_W own cc nL ret d r σ' (pc + 3) lv st σ) : sm_W own cc nL ret d r σ' pc lv (.ref x :: st) σ := by
  intro p l e s m args below meth c ρ D cI cF A H locs ls X hl hP hD hS
  exact lv_ifnull X.1 X.2.1 hd (k X hl hP hD hS)
end
/-! fields -/
theorem sm_in : ∀ ci, ci < 6 → ∀ w ∈ u_ws (sm_c ci).1 (sm_c ci).2.1 (sm_c ci).2.2, w ∈ gw
  | 0, _ => by decide +kernel
  | 1, _ => by decide +kernel
  | 2, _ => by decide +kernel
  | 3, _ => by decide +kernel
  | 4, _ => by decide +kernel
  | 5, _ => by decide +kernel
  | n + 6, h => by omega
theorem sm_nm : ∀ ci, ci < 6 → ∃ ty : Nat → FieldType, (∀ k, k < (sm_c ci).2.2 → parseFieldDescriptor ((sm_c ci).2.1 k).2.2.1 = some (ty k)) ∧ (∀ a, a < (sm_c ci).2.2 → ∀ b, b < (sm_c ci).2.2 → a ≠ b → ((sm_c ci).2.1 a).2.1 ≠ ((sm_c ci).2.1 b).2.1)
  | 0, _ => ⟨tyX0, tyX0_ok, nmX0⟩
  | 1, _ => ⟨tyX1, tyX1_ok, nmX1⟩
  | 2, _ => ⟨tyX3, tyX3_ok, nmX3⟩
  | 3, _ => ⟨tyX4, tyX4_ok, nmX4⟩
  | 4, _ => ⟨tyX5, tyX5_ok, nmX5⟩
  | 5, _ => ⟨tyX6, tyX6_ok, nmX6⟩
  | n + 6, h => by omega
/-- a link of the constant pool: the field i of the class ci -/
def sm_fl (own : String) (idx ci i : Nat) : Prop := ci < 6 ∧ i < (sm_c ci).2.2 ∧ Cond.fieldLink own idx ((sm_c ci).2.1 i).1 ((sm_c ci).2.1 i).2.1 ((sm_c ci).2.1 i).2.2.1 ∈ gw
/-- and it's a whole number that isn't final -/
def sm_fi (ci i : Nat) : Prop := ((sm_c ci).2.1 i).2.2.2 = false ∧ parseFieldDescriptor ((sm_c ci).2.1 i).2.2.1 = some .int
theorem sm_free {A : Nat → Prop} {ρ : Nat → Nat} {cI cF : ClassId} {σ : sm_St} {s : State} {H : Heap} {locs : List Loc} (hD : va_D A (sm_ws ρ cI cF σ)) (hA : ∀ q : Nat, s.heap.size ≤ q → A q) (hS : va_S A s.heap H locs) : ∀ q, va_A (sm_ws ρ cI cF σ) H.size q → A q := by
  intro q h
  rcases h with ⟨k, e, h⟩ | h
  · exact hD.2 k _ h
  · exact hA q (Nat.le_trans hS.1 h)
section
variable {own : String} {cc : ByteArray} {nL d : Nat} {ret : Option FieldType} {r : Option Value} {σ' σ : sm_St} {pc : Nat} {lv : List (Nat × Value)} {st : List Value}
theorem sw_getV {idx ci i k : Nat} (hd : decode cc pc = .ok (.getfield idx, 3)) (hf : sm_fl own idx ci i) (ho : sm_ocl k = some ci) {v : Value} (hv : ∀ ρ, sm_fv ρ σ ci k i = sm_cv ρ v) (kk : sm_W own cc nL ret d r σ' (pc + 3) lv (v :: st) σ) : sm_W own cc nL ret d r σ' pc lv (.ref k :: st) σ := by
  intro p l e s m args below meth c ρ D cI cF A H locs ls X hl hP hD hS
  obtain ⟨x1, x2, x3, x4, x5, x6, x7, x8, x9, x10⟩ := id X
  have hk := (sm_ocl_lt ho).1
  refine va_get (D := D) (ws := sm_ws ρ cI cF σ) (C := (sm_c ci).1) (T := (sm_c ci).2.1) (N := (sm_c ci).2.2) (ref := ((sm_c ci).2.1 i).1) (fs := (List.range (sm_c ci).2.2).map (sm_fv ρ σ ci k)) x1 x2 (Ts := gw) x5 (sm_in ci hf.1) x4 x8 hP k (ci := ci) ((sm_ws_at hk).trans (by rw [sm_cel_o ho])) (sm_c_at ci hf.1) i hf.2.1 (x5 _ hf.2.2) (fun _ h => h) (v := sm_cv ρ v) ?_ hd (kk X hl hP hD hS)
  rw [List.getElem?_map, List.getElem?_range hf.2.1, ← hv]
  rfl
theorem sw_getI {idx ci i k : Nat} (hd : decode cc pc = .ok (.getfield idx, 3)) (hf : sm_fl own idx ci i) (ho : sm_ocl k = some ci) (hr : sm_rf ci k i = none) (kk : sm_W own cc nL ret d r σ' (pc + 3) lv (.int (σ k i) :: st) σ) : sm_W own cc nL ret d r σ' pc lv (.ref k :: st) σ :=
  sw_getV hd hf ho (v := .int (σ k i)) (fun ρ => by unfold sm_fv; rw [hr]; rfl) kk
theorem sw_getR {idx ci i k j : Nat} (hd : decode cc pc = .ok (.getfield idx, 3)) (hf : sm_fl own idx ci i) (ho : sm_ocl k = some ci) (hr : sm_rf ci k i = some j) (kk : sm_W own cc nL ret d r σ' (pc + 3) lv (.ref j :: st) σ) : sm_W own cc nL ret d r σ' pc lv (.ref k :: st) σ :=
  sw_getV hd hf ho (v := .ref j) (fun ρ => by unfold sm_fv; rw [hr]; rfl) kk
theorem sw_put {idx ci i k : Nat} {v : Int32} (hd : decode cc pc = .ok (.putfield idx, 3)) (hf : sm_fl own idx ci i) (hi : sm_fi ci i) (ho : sm_ocl k = some ci) (hr : sm_rf ci k i = none) (kk : sm_W own cc nL ret d r σ' (pc + 3) lv st (sm_set σ k i v)) : sm_W own cc nL ret d r σ' pc lv (.int v :: .ref k :: st) σ := by
  intro p l e s m args below meth c ρ D cI cF A H locs ls X hl hP hD hS
  obtain ⟨x1, x2, x3, x4, x5, x6, x7, x8, x9, x10⟩ := id X
  have hk := (sm_ocl_lt ho).1
  obtain ⟨ty, ht, hnm⟩ := sm_nm ci hf.1
  refine va_put (D := D) (ws := sm_ws ρ cI cF σ) (C := (sm_c ci).1) (T := (sm_c ci).2.1) (N := (sm_c ci).2.2) (ref := ((sm_c ci).2.1 i).1) (fs := (List.range (sm_c ci).2.2).map (sm_fv ρ σ ci k)) (v := .int v) (ty := .int) x1 x2 (Ts := gw) x5 (sm_in ci hf.1) ty ht hnm x4 x8 hP hD hS k (ci := ci) ((sm_ws_at hk).trans (by rw [sm_cel_o ho])) (sm_c_at ci hf.1) i hf.2.1 (x5 _ hf.2.2) (fun _ h => h) hi.1 hi.2 rfl rfl (by simp; exact hf.2.1) hd (fun H1 locs1 hP1 hD1 hS1 => ?_)
  rw [sm_ws_put ho hr hf.2.1] at hP1 hD1
  exact kk X hl hP1 hD1 hS1
/-! rows of numbers -/
theorem sw_iald {k n : Nat} {i : Int32} {x : Int32} (hd : decode cc pc = .ok (.iaload, 1)) (ha : sm_aln k = some n) (hin : vp_in i n) (hx : σ k i.toNatClampNeg = x) (kk : sm_W own cc nL ret d r σ' (pc + 1) lv (.int x :: st) σ) : sm_W own cc nL ret d r σ' pc lv (.int i :: .ref k :: st) σ := by
  subst hx
  intro p l e s m args below meth c ρ D cI cF A H locs ls X hl hP hD hS
  obtain ⟨x1, x2, x3, x4, x5, x6, x7, x8, x9, x10⟩ := id X
  exact va_iald (ws := sm_ws ρ cI cF σ) x1 x2 x8 hP k 0 ((sm_ws_at (sm_aln_lt ha).1).trans (by rw [sm_cel_a ha])) rfl hin hd (kk X hl hP hD hS)
theorem sw_iast {k n : Nat} {i v : Int32} (hd : decode cc pc = .ok (.iastore, 1)) (ha : sm_aln k = some n) (hin : vp_in i n) (kk : sm_W own cc nL ret d r σ' (pc + 1) lv st (sm_set σ k i.toNatClampNeg v)) : sm_W own cc nL ret d r σ' pc lv (.int v :: .int i :: .ref k :: st) σ := by
  intro p l e s m args below meth c ρ D cI cF A H locs ls X hl hP hD hS
  obtain ⟨x1, x2, x3, x4, x5, x6, x7, x8, x9, x10⟩ := id X
  refine va_iast (ws := sm_ws ρ cI cF σ) x1 x2 x8 hP hD hS k 0 ((sm_ws_at (sm_aln_lt ha).1).trans (by rw [sm_cel_a ha])) rfl hin hd (fun H1 locs1 hP1 hD1 hS1 => ?_)
  rw [sm_ws_row ha] at hP1 hD1
  exact kk X hl hP1 hD1 hS1
theorem sw_alen {k n : Nat} (hd : decode cc pc = .ok (.arraylength, 1)) (ha : sm_aln k = some n) (kk : sm_W own cc nL ret d r σ' (pc + 1) lv (.int (nI n) :: st) σ) : sm_W own cc nL ret d r σ' pc lv (.ref k :: st) σ := by
  intro p l e s m args below meth c ρ D cI cF A H locs ls X hl hP hD hS
  obtain ⟨x1, x2, x3, x4, x5, x6, x7, x8, x9, x10⟩ := id X
  exact va_alen (ws := sm_ws ρ cI cF σ) x1 x2 x8 hP k 0 ((sm_ws_at (sm_aln_lt ha).1).trans (by rw [sm_cel_a ha])) rfl rfl hd (kk X hl hP hD hS)
theorem sw_alenR {k n b : Nat} (hd : decode cc pc = .ok (.arraylength, 1)) (ha : sm_rln k = some (n, b)) (hk : k < 128) (ho : sm_ocl k = none) (kk : sm_W own cc nL ret d r σ' (pc + 1) lv (.int (nI n) :: st) σ) : sm_W own cc nL ret d r σ' pc lv (.ref k :: st) σ := by
  intro p l e s m args below meth c ρ D cI cF A H locs ls X hl hP hD hS
  obtain ⟨x1, x2, x3, x4, x5, x6, x7, x8, x9, x10⟩ := id X
  exact va_alen (ws := sm_ws ρ cI cF σ) x1 x2 x8 hP k 1 (cA := cF) (x := (n, .inr (.inr (.inr (.inr (fun i => some (ρ (b + 8 * i)))))))) ((sm_ws_at hk).trans (by unfold sm_cel; rw [ho, ha])) (ty := .object RX0) rfl rfl hd (kk X hl hP hD hS)
theorem sw_aald {k n b j : Nat} {i : Int32} (hd : decode cc pc = .ok (.aaload, 1)) (ha : sm_rln k = some (n, b)) (hk : k < 128) (ho : sm_ocl k = none) (hin : vp_in i n) (hj : b + 8 * i.toNatClampNeg = j) (kk : sm_W own cc nL ret d r σ' (pc + 1) lv (.ref j :: st) σ) : sm_W own cc nL ret d r σ' pc lv (.int i :: .ref k :: st) σ := by
  subst hj
  intro p l e s m args below meth c ρ D cI cF A H locs ls X hl hP hD hS
  obtain ⟨x1, x2, x3, x4, x5, x6, x7, x8, x9, x10⟩ := id X
  exact va_aldq (ws := sm_ws ρ cI cF σ) (f := fun i => some (ρ (b + 8 * i))) x1 x2 x8 hP k 1 (cA := cF) (C := RX0) (n := n) ((sm_ws_at hk).trans (by unfold sm_cel; rw [ho, ha])) rfl hin hd (kk X hl hP hD hS)
/-! the two static tables -/
theorem sw_getX {idx : Nat} (hd : decode cc pc = .ok (.getstatic idx, 3)) (hf : Cond.fieldLink own idx RX0 "STEP_X" "[I" ∈ gw) (kk : sm_W own cc nL ret d r σ' (pc + 3) lv (.ref 200 :: st) σ) : sm_W own cc nL ret d r σ' pc lv st σ := by
  intro p l e s m args below meth c ρ D cI cF A H locs ls X hl hP hD hS
  obtain ⟨x1, x2, x3, x4, x5, x6, x7, x8, x9, x10⟩ := id X
  exact va_gets x1 x2 x9.1.1 hS x4 (x5 _ hf) (fun _ h => h) hd (kk X hl hP hD hS)
theorem sw_getY {idx : Nat} (hd : decode cc pc = .ok (.getstatic idx, 3)) (hf : Cond.fieldLink own idx RX0 "STEP_Y" "[I" ∈ gw) (kk : sm_W own cc nL ret d r σ' (pc + 3) lv (.ref 201 :: st) σ) : sm_W own cc nL ret d r σ' pc lv st σ := by
  intro p l e s m args below meth c ρ D cI cF A H locs ls X hl hP hD hS
  obtain ⟨x1, x2, x3, x4, x5, x6, x7, x8, x9, x10⟩ := id X
  exact va_gets x1 x2 x9.2.1.1 hS x4 (x5 _ hf) (fun _ h => h) hd (kk X hl hP hD hS)
theorem sw_ialdX {i : Int32} {x : Int32} (hd : decode cc pc = .ok (.iaload, 1)) (hin : vp_in i 5) (hx : sm_sx i.toNatClampNeg = x) (kk : sm_W own cc nL ret d r σ' (pc + 1) lv (.int x :: st) σ) : sm_W own cc nL ret d r σ' pc lv (.int i :: .ref 200 :: st) σ := by
  subst hx
  intro p l e s m args below meth c ρ D cI cF A H locs ls X hl hP hD hS
  obtain ⟨x1, x2, x3, x4, x5, x6, x7, x8, x9, x10⟩ := id X
  exact va_ti x1 x2 x9.1.2 hS hin rfl hd (kk X hl hP hD hS)
theorem sw_ialdY {i : Int32} {x : Int32} (hd : decode cc pc = .ok (.iaload, 1)) (hin : vp_in i 5) (hx : sm_sy i.toNatClampNeg = x) (kk : sm_W own cc nL ret d r σ' (pc + 1) lv (.int x :: st) σ) : sm_W own cc nL ret d r σ' pc lv (.int i :: .ref 201 :: st) σ := by
  subst hx
  intro p l e s m args below meth c ρ D cI cF A H locs ls X hl hP hD hS
  obtain ⟨x1, x2, x3, x4, x5, x6, x7, x8, x9, x10⟩ := id X
  exact va_ti x1 x2 x9.2.1.2 hS hin rfl hd (kk X hl hP hD hS)
theorem sw_alenX (hd : decode cc pc = .ok (.arraylength, 1)) (kk : sm_W own cc nL ret d r σ' (pc + 1) lv (.int (nI 5) :: st) σ) : sm_W own cc nL ret d r σ' pc lv (.ref 200 :: st) σ := by
  intro p l e s m args below meth c ρ D cI cF A H locs ls X hl hP hD hS
  obtain ⟨x1, x2, x3, x4, x5, x6, x7, x8, x9, x10⟩ := id X
  obtain ⟨cell, h1, h2, h3, h4, h5, h6, h7⟩ := x9.1.2
  exact W.alen (n := nI 5) x1 x2 (by rw [hS.2.1 (ρ 200) (Array.getElem?_eq_some_iff.mp h1).1 h7]; exact h1) h2 h5 rfl rfl hd (kk X hl hP hD hS)
theorem sw_alenY (hd : decode cc pc = .ok (.arraylength, 1)) (kk : sm_W own cc nL ret d r σ' (pc + 1) lv (.int (nI 5) :: st) σ) : sm_W own cc nL ret d r σ' pc lv (.ref 201 :: st) σ := by
  intro p l e s m args below meth c ρ D cI cF A H locs ls X hl hP hD hS
  obtain ⟨x1, x2, x3, x4, x5, x6, x7, x8, x9, x10⟩ := id X
  obtain ⟨cell, h1, h2, h3, h4, h5, h6, h7⟩ := x9.2.1.2
  exact W.alen (n := nI 5) x1 x2 (by rw [hS.2.1 (ρ 201) (Array.getElem?_eq_some_iff.mp h1).1 h7]; exact h1) h2 h5 rfl rfl hd (kk X hl hP hD hS)
/-! ends -/
theorem sw_iret {v w : Int32} (hd : decode cc pc = .ok (.ireturn, 1)) (hr : ret = some .int) (hq : r = some (.int w)) (hv : v = w) (hs : σ = σ') : sm_W own cc nL ret d r σ' pc lv [.int v] σ := by
  subst hr; subst hq; subst hv; subst hs
  intro p l e s m args below meth c ρ D cI cF A H locs ls X hl hP hD hS
  obtain ⟨x1, x2, x3, x4, x5, x6, x7, x8, x9, x10⟩ := id X
  exact W.iret x1 x2 x6 (fun t ht hW => ⟨⟨rfl, by rw [ht]; exact hP, va_K.moved hW.alike x8⟩, hS.F ht⟩) hS.2.2 hd x7
theorem sw_zret {v w : Int32} (hd : decode cc pc = .ok (.ireturn, 1)) (hr : ret = some .boolean) (hq : r = some (.int w)) (hv : v = w) (h01 : v = 0 ∨ v = 1) (hs : σ = σ') : sm_W own cc nL ret d r σ' pc lv [.int v] σ := by
  subst hr; subst hq; subst hv; subst hs
  intro p l e s m args below meth c ρ D cI cF A H locs ls X hl hP hD hS
  obtain ⟨x1, x2, x3, x4, x5, x6, x7, x8, x9, x10⟩ := id X
  exact W.zret x1 x2 x6 (by rcases h01 with rfl | rfl <;> rfl) (fun t ht hW => ⟨⟨rfl, by rw [ht]; exact hP, va_K.moved hW.alike x8⟩, hS.F ht⟩) hS.2.2 hd x7
theorem sw_vret (hd : decode cc pc = .ok (.return_, 1)) (hr : ret = none) (hq : r = none) (hs : σ = σ') : sm_W own cc nL ret d r σ' pc lv [] σ := by
  subst hr; subst hq; subst hs
  intro p l e s m args below meth c ρ D cI cF A H locs ls X hl hP hD hS
  obtain ⟨x1, x2, x3, x4, x5, x6, x7, x8, x9, x10⟩ := id X
  exact W.vret x1 x2 x6 (fun t ht hW => ⟨⟨rfl, by rw [ht]; exact hP, va_K.moved hW.alike x8⟩, hS.F ht⟩) hS.2.2 hd x7
theorem sw_lret {v w : Int64} (hd : decode cc pc = .ok (.lreturn, 1)) (hr : ret = some .long) (hq : r = some (.long w)) (hv : v = w) (hs : σ = σ') : sm_W own cc nL ret d r σ' pc lv [.long v] σ := by
  subst hr; subst hq; subst hv; subst hs
  intro p l e s m args below meth c ρ D cI cF A H locs ls X hl hP hD hS
  obtain ⟨x1, x2, x3, x4, x5, x6, x7, x8, x9, x10⟩ := id X
  exact W.lret x1 x2 x6 (fun t ht hW => ⟨⟨rfl, by rw [ht]; exact hP, va_K.moved hW.alike x8⟩, hS.F ht⟩) hS.2.2 hd x7
theorem sw_aret {k : Nat} {C : String} (hd : decode cc pc = .ok (.areturn, 1)) (hr : ret = some (.object C)) (hq : r = some (.ref k)) (hs : σ = σ') : sm_W own cc nL ret d r σ' pc lv [.ref k] σ := by
  subst hr; subst hq; subst hs
  intro p l e s m args below meth c ρ D cI cF A H locs ls X hl hP hD hS
  obtain ⟨x1, x2, x3, x4, x5, x6, x7, x8, x9, x10⟩ := id X
  exact W.aret x1 x2 x6 (Or.inl ⟨_, rfl⟩) (Or.inr ⟨_, rfl⟩) (fun t ht hW => ⟨⟨rfl, by rw [ht]; exact hP, va_K.moved hW.alike x8⟩, hS.F ht⟩) hS.2.2 hd x7
end

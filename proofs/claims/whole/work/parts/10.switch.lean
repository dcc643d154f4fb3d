theorem sw_ldcw {own : String} {cc : ByteArray} {nL d : Nat} {ret : Option FieldType} {r : Option Value} {σ' σ : sm_St} {pc : Nat} {lv : List (Nat × Value)} {st : List Value} {index : Nat} {v : Int32} (hd : decode cc pc = .ok (.ldc_w index, 3)) (hw : Cond.constant own index v ∈ gw) (k : sm_W own cc nL ret d r σ' (pc + 3) lv (.int v :: st) σ) : sm_W own cc nL ret d r σ' pc lv st σ := by
  intro p l e s m args below meth c ρ D cI cF A H locs ls X hl hP hD hS
  exact lv_ldcw X.1 X.2.1 X.2.2.2.1 (X.2.2.2.2.1 _ hw) hd (k X hl hP hD hS)

theorem sw_ab {own : String} {cc : ByteArray} {nL d : Nat} {ret : Option FieldType} {r : Option Value} {σ' σ : sm_St} {pc : Nat} {lv : List (Nat × Value)} {idx : Nat} {st : List Value} {x : Int32} (hd : decode cc pc = .ok (.invokestatic idx, 3)) (hL : sm_lJ own idx Lib.Math.abs.name "java/lang/Math" Lib.Math.abs.code 1) (hdd : 1 ≤ d) (hst : (st.map fun v => v.category).sum ≤ 8) (kk : sm_W own cc nL ret d r σ' (pc + 3) lv (.int (f_ab x) :: st) σ) : sm_W own cc nL ret d r σ' pc lv (.int x :: st) σ := sw_abs hd hL hdd hst kk

theorem sw_tab_X0_strengthTo_42 {nL d : Nat} {ret : Option FieldType} {r : Option Value} {σ' σ : sm_St} {lv : List (Nat × Value)} {st : List Value} {x : Int32} (k1 : x = 1 → sm_W RX0 cX0_strengthTo nL ret d r σ' 68 lv st σ) (k2 : x = 2 → sm_W RX0 cX0_strengthTo nL ret d r σ' 71 lv st σ) (k3 : x = 3 → sm_W RX0 cX0_strengthTo nL ret d r σ' 81 lv st σ) (kd : ¬ x = 1 → ¬ x = 2 → ¬ x = 3 → sm_W RX0 cX0_strengthTo nL ret d r σ' 95 lv st σ) : sm_W RX0 cX0_strengthTo nL ret d r σ' 42 lv (.int x :: st) σ := by
  by_cases h1 : x = 1
  · subst h1; exact sw_tableIn dX0_strengthTo_42 (by decide) (by decide) (show _ = some (26) from rfl) (by decide) (k1 rfl)
  by_cases h2 : x = 2
  · subst h2; exact sw_tableIn dX0_strengthTo_42 (by decide) (by decide) (show _ = some (29) from rfl) (by decide) (k2 rfl)
  by_cases h3 : x = 3
  · subst h3; exact sw_tableIn dX0_strengthTo_42 (by decide) (by decide) (show _ = some (39) from rfl) (by decide) (k3 rfl)
  have e1 : x.toInt ≠ 1 := fun e => h1 (Int32.toInt_inj.mp e)
  have e2 : x.toInt ≠ 2 := fun e => h2 (Int32.toInt_inj.mp e)
  have e3 : x.toInt ≠ 3 := fun e => h3 (Int32.toInt_inj.mp e)
  exact sw_tableOut (tgt := 95) dX0_strengthTo_42 (by omega) (by decide) (kd h1 h2 h3)

theorem sw_tab_X5_count_1 {nL d : Nat} {ret : Option FieldType} {r : Option Value} {σ' σ : sm_St} {lv : List (Nat × Value)} {st : List Value} {x : Int32} (k0 : x = 0 → sm_W RX5 cX5_count nL ret d r σ' 68 lv st σ) (k1 : x = 1 → sm_W RX5 cX5_count nL ret d r σ' 76 lv st σ) (k2 : x = 2 → sm_W RX5 cX5_count nL ret d r σ' 84 lv st σ) (k3 : x = 3 → sm_W RX5 cX5_count nL ret d r σ' 92 lv st σ) (k4 : x = 4 → sm_W RX5 cX5_count nL ret d r σ' 100 lv st σ) (k5 : x = 5 → sm_W RX5 cX5_count nL ret d r σ' 108 lv st σ) (k6 : x = 6 → sm_W RX5 cX5_count nL ret d r σ' 116 lv st σ) (k7 : x = 7 → sm_W RX5 cX5_count nL ret d r σ' 124 lv st σ) (k8 : x = 8 → sm_W RX5 cX5_count nL ret d r σ' 132 lv st σ) (k9 : x = 9 → sm_W RX5 cX5_count nL ret d r σ' 151 lv st σ) (k10 : x = 10 → sm_W RX5 cX5_count nL ret d r σ' 159 lv st σ) (k11 : x = 11 → sm_W RX5 cX5_count nL ret d r σ' 167 lv st σ) (k12 : x = 12 → sm_W RX5 cX5_count nL ret d r σ' 175 lv st σ) (kd : ¬ x = 0 → ¬ x = 1 → ¬ x = 2 → ¬ x = 3 → ¬ x = 4 → ¬ x = 5 → ¬ x = 6 → ¬ x = 7 → ¬ x = 8 → ¬ x = 9 → ¬ x = 10 → ¬ x = 11 → ¬ x = 12 → sm_W RX5 cX5_count nL ret d r σ' 183 lv st σ) : sm_W RX5 cX5_count nL ret d r σ' 1 lv (.int x :: st) σ := by
  by_cases h0 : x = 0
  · subst h0; exact sw_tableIn dX5_count_1 (by decide) (by decide) (show _ = some (67) from rfl) (by decide) (k0 rfl)
  by_cases h1 : x = 1
  · subst h1; exact sw_tableIn dX5_count_1 (by decide) (by decide) (show _ = some (75) from rfl) (by decide) (k1 rfl)
  by_cases h2 : x = 2
  · subst h2; exact sw_tableIn dX5_count_1 (by decide) (by decide) (show _ = some (83) from rfl) (by decide) (k2 rfl)
  by_cases h3 : x = 3
  · subst h3; exact sw_tableIn dX5_count_1 (by decide) (by decide) (show _ = some (91) from rfl) (by decide) (k3 rfl)
  by_cases h4 : x = 4
  · subst h4; exact sw_tableIn dX5_count_1 (by decide) (by decide) (show _ = some (99) from rfl) (by decide) (k4 rfl)
  by_cases h5 : x = 5
  · subst h5; exact sw_tableIn dX5_count_1 (by decide) (by decide) (show _ = some (107) from rfl) (by decide) (k5 rfl)
  by_cases h6 : x = 6
  · subst h6; exact sw_tableIn dX5_count_1 (by decide) (by decide) (show _ = some (115) from rfl) (by decide) (k6 rfl)
  by_cases h7 : x = 7
  · subst h7; exact sw_tableIn dX5_count_1 (by decide) (by decide) (show _ = some (123) from rfl) (by decide) (k7 rfl)
  by_cases h8 : x = 8
  · subst h8; exact sw_tableIn dX5_count_1 (by decide) (by decide) (show _ = some (131) from rfl) (by decide) (k8 rfl)
  by_cases h9 : x = 9
  · subst h9; exact sw_tableIn dX5_count_1 (by decide) (by decide) (show _ = some (150) from rfl) (by decide) (k9 rfl)
  by_cases h10 : x = 10
  · subst h10; exact sw_tableIn dX5_count_1 (by decide) (by decide) (show _ = some (158) from rfl) (by decide) (k10 rfl)
  by_cases h11 : x = 11
  · subst h11; exact sw_tableIn dX5_count_1 (by decide) (by decide) (show _ = some (166) from rfl) (by decide) (k11 rfl)
  by_cases h12 : x = 12
  · subst h12; exact sw_tableIn dX5_count_1 (by decide) (by decide) (show _ = some (174) from rfl) (by decide) (k12 rfl)
  have e0 : x.toInt ≠ 0 := fun e => h0 (Int32.toInt_inj.mp e)
  have e1 : x.toInt ≠ 1 := fun e => h1 (Int32.toInt_inj.mp e)
  have e2 : x.toInt ≠ 2 := fun e => h2 (Int32.toInt_inj.mp e)
  have e3 : x.toInt ≠ 3 := fun e => h3 (Int32.toInt_inj.mp e)
  have e4 : x.toInt ≠ 4 := fun e => h4 (Int32.toInt_inj.mp e)
  have e5 : x.toInt ≠ 5 := fun e => h5 (Int32.toInt_inj.mp e)
  have e6 : x.toInt ≠ 6 := fun e => h6 (Int32.toInt_inj.mp e)
  have e7 : x.toInt ≠ 7 := fun e => h7 (Int32.toInt_inj.mp e)
  have e8 : x.toInt ≠ 8 := fun e => h8 (Int32.toInt_inj.mp e)
  have e9 : x.toInt ≠ 9 := fun e => h9 (Int32.toInt_inj.mp e)
  have e10 : x.toInt ≠ 10 := fun e => h10 (Int32.toInt_inj.mp e)
  have e11 : x.toInt ≠ 11 := fun e => h11 (Int32.toInt_inj.mp e)
  have e12 : x.toInt ≠ 12 := fun e => h12 (Int32.toInt_inj.mp e)
  exact sw_tableOut (tgt := 183) dX5_count_1 (by omega) (by decide) (kd h0 h1 h2 h3 h4 h5 h6 h7 h8 h9 h10 h11 h12)

theorem sw_tab_X5_crew_34 {nL d : Nat} {ret : Option FieldType} {r : Option Value} {σ' σ : sm_St} {lv : List (Nat × Value)} {st : List Value} {x : Int32} (k0 : x = 0 → sm_W RX5 cX5_crew nL ret d r σ' 72 lv st σ) (k1 : x = 1 → sm_W RX5 cX5_crew nL ret d r σ' 84 lv st σ) (k2 : x = 2 → sm_W RX5 cX5_crew nL ret d r σ' 96 lv st σ) (k3 : x = 3 → sm_W RX5 cX5_crew nL ret d r σ' 108 lv st σ) (k4 : x = 4 → sm_W RX5 cX5_crew nL ret d r σ' 110 lv st σ) (k5 : x = 5 → sm_W RX5 cX5_crew nL ret d r σ' 113 lv st σ) (kd : ¬ x = 0 → ¬ x = 1 → ¬ x = 2 → ¬ x = 3 → ¬ x = 4 → ¬ x = 5 → sm_W RX5 cX5_crew nL ret d r σ' 124 lv st σ) : sm_W RX5 cX5_crew nL ret d r σ' 34 lv (.int x :: st) σ := by
  by_cases h0 : x = 0
  · subst h0; exact sw_tableIn dX5_crew_34 (by decide) (by decide) (show _ = some (38) from rfl) (by decide) (k0 rfl)
  by_cases h1 : x = 1
  · subst h1; exact sw_tableIn dX5_crew_34 (by decide) (by decide) (show _ = some (50) from rfl) (by decide) (k1 rfl)
  by_cases h2 : x = 2
  · subst h2; exact sw_tableIn dX5_crew_34 (by decide) (by decide) (show _ = some (62) from rfl) (by decide) (k2 rfl)
  by_cases h3 : x = 3
  · subst h3; exact sw_tableIn dX5_crew_34 (by decide) (by decide) (show _ = some (74) from rfl) (by decide) (k3 rfl)
  by_cases h4 : x = 4
  · subst h4; exact sw_tableIn dX5_crew_34 (by decide) (by decide) (show _ = some (76) from rfl) (by decide) (k4 rfl)
  by_cases h5 : x = 5
  · subst h5; exact sw_tableIn dX5_crew_34 (by decide) (by decide) (show _ = some (79) from rfl) (by decide) (k5 rfl)
  have e0 : x.toInt ≠ 0 := fun e => h0 (Int32.toInt_inj.mp e)
  have e1 : x.toInt ≠ 1 := fun e => h1 (Int32.toInt_inj.mp e)
  have e2 : x.toInt ≠ 2 := fun e => h2 (Int32.toInt_inj.mp e)
  have e3 : x.toInt ≠ 3 := fun e => h3 (Int32.toInt_inj.mp e)
  have e4 : x.toInt ≠ 4 := fun e => h4 (Int32.toInt_inj.mp e)
  have e5 : x.toInt ≠ 5 := fun e => h5 (Int32.toInt_inj.mp e)
  exact sw_tableOut (tgt := 124) dX5_crew_34 (by omega) (by decide) (kd h0 h1 h2 h3 h4 h5)

theorem sw_tab_X5_may_25 {nL d : Nat} {ret : Option FieldType} {r : Option Value} {σ' σ : sm_St} {lv : List (Nat × Value)} {st : List Value} {x : Int32} (k0 : x = 0 → sm_W RX5 cX5_may nL ret d r σ' 52 lv st σ) (k1 : x = 1 → sm_W RX5 cX5_may nL ret d r σ' 68 lv st σ) (k2 : x = 2 → sm_W RX5 cX5_may nL ret d r σ' 83 lv st σ) (kd : ¬ x = 0 → ¬ x = 1 → ¬ x = 2 → sm_W RX5 cX5_may nL ret d r σ' 98 lv st σ) : sm_W RX5 cX5_may nL ret d r σ' 25 lv (.int x :: st) σ := by
  by_cases h0 : x = 0
  · subst h0; exact sw_tableIn dX5_may_25 (by decide) (by decide) (show _ = some (27) from rfl) (by decide) (k0 rfl)
  by_cases h1 : x = 1
  · subst h1; exact sw_tableIn dX5_may_25 (by decide) (by decide) (show _ = some (43) from rfl) (by decide) (k1 rfl)
  by_cases h2 : x = 2
  · subst h2; exact sw_tableIn dX5_may_25 (by decide) (by decide) (show _ = some (58) from rfl) (by decide) (k2 rfl)
  have e0 : x.toInt ≠ 0 := fun e => h0 (Int32.toInt_inj.mp e)
  have e1 : x.toInt ≠ 1 := fun e => h1 (Int32.toInt_inj.mp e)
  have e2 : x.toInt ≠ 2 := fun e => h2 (Int32.toInt_inj.mp e)
  exact sw_tableOut (tgt := 98) dX5_may_25 (by omega) (by decide) (kd h0 h1 h2)

theorem sw_tab_X5_post_14 {nL d : Nat} {ret : Option FieldType} {r : Option Value} {σ' σ : sm_St} {lv : List (Nat × Value)} {st : List Value} {x : Int32} (k0 : x = 0 → sm_W RX5 cX5_post nL ret d r σ' 44 lv st σ) (k1 : x = 1 → sm_W RX5 cX5_post nL ret d r σ' 56 lv st σ) (k2 : x = 2 → sm_W RX5 cX5_post nL ret d r σ' 68 lv st σ) (k3 : x = 3 → sm_W RX5 cX5_post nL ret d r σ' 80 lv st σ) (kd : ¬ x = 0 → ¬ x = 1 → ¬ x = 2 → ¬ x = 3 → sm_W RX5 cX5_post nL ret d r σ' 92 lv st σ) : sm_W RX5 cX5_post nL ret d r σ' 14 lv (.int x :: st) σ := by
  by_cases h0 : x = 0
  · subst h0; exact sw_tableIn dX5_post_14 (by decide) (by decide) (show _ = some (30) from rfl) (by decide) (k0 rfl)
  by_cases h1 : x = 1
  · subst h1; exact sw_tableIn dX5_post_14 (by decide) (by decide) (show _ = some (42) from rfl) (by decide) (k1 rfl)
  by_cases h2 : x = 2
  · subst h2; exact sw_tableIn dX5_post_14 (by decide) (by decide) (show _ = some (54) from rfl) (by decide) (k2 rfl)
  by_cases h3 : x = 3
  · subst h3; exact sw_tableIn dX5_post_14 (by decide) (by decide) (show _ = some (66) from rfl) (by decide) (k3 rfl)
  have e0 : x.toInt ≠ 0 := fun e => h0 (Int32.toInt_inj.mp e)
  have e1 : x.toInt ≠ 1 := fun e => h1 (Int32.toInt_inj.mp e)
  have e2 : x.toInt ≠ 2 := fun e => h2 (Int32.toInt_inj.mp e)
  have e3 : x.toInt ≠ 3 := fun e => h3 (Int32.toInt_inj.mp e)
  exact sw_tableOut (tgt := 92) dX5_post_14 (by omega) (by decide) (kd h0 h1 h2 h3)

theorem sw_tab_X5_pull_9 {nL d : Nat} {ret : Option FieldType} {r : Option Value} {σ' σ : sm_St} {lv : List (Nat × Value)} {st : List Value} {x : Int32} (k0 : x = 0 → sm_W RX5 cX5_pull nL ret d r σ' 36 lv st σ) (k1 : x = 1 → sm_W RX5 cX5_pull nL ret d r σ' 48 lv st σ) (k2 : x = 2 → sm_W RX5 cX5_pull nL ret d r σ' 60 lv st σ) (kd : ¬ x = 0 → ¬ x = 1 → ¬ x = 2 → sm_W RX5 cX5_pull nL ret d r σ' 62 lv st σ) : sm_W RX5 cX5_pull nL ret d r σ' 9 lv (.int x :: st) σ := by
  by_cases h0 : x = 0
  · subst h0; exact sw_tableIn dX5_pull_9 (by decide) (by decide) (show _ = some (27) from rfl) (by decide) (k0 rfl)
  by_cases h1 : x = 1
  · subst h1; exact sw_tableIn dX5_pull_9 (by decide) (by decide) (show _ = some (39) from rfl) (by decide) (k1 rfl)
  by_cases h2 : x = 2
  · subst h2; exact sw_tableIn dX5_pull_9 (by decide) (by decide) (show _ = some (51) from rfl) (by decide) (k2 rfl)
  have e0 : x.toInt ≠ 0 := fun e => h0 (Int32.toInt_inj.mp e)
  have e1 : x.toInt ≠ 1 := fun e => h1 (Int32.toInt_inj.mp e)
  have e2 : x.toInt ≠ 2 := fun e => h2 (Int32.toInt_inj.mp e)
  exact sw_tableOut (tgt := 62) dX5_pull_9 (by omega) (by decide) (kd h0 h1 h2)

theorem sw_tab_X6_count_13 {nL d : Nat} {ret : Option FieldType} {r : Option Value} {σ' σ : sm_St} {lv : List (Nat × Value)} {st : List Value} {x : Int32} (k0 : x = 0 → sm_W RX6 cX6_count nL ret d r σ' 76 lv st σ) (k1 : x = 1 → sm_W RX6 cX6_count nL ret d r σ' 81 lv st σ) (k2 : x = 2 → sm_W RX6 cX6_count nL ret d r σ' 86 lv st σ) (k3 : x = 3 → sm_W RX6 cX6_count nL ret d r σ' 91 lv st σ) (k4 : x = 4 → sm_W RX6 cX6_count nL ret d r σ' 96 lv st σ) (k5 : x = 5 → sm_W RX6 cX6_count nL ret d r σ' 101 lv st σ) (k6 : x = 6 → sm_W RX6 cX6_count nL ret d r σ' 106 lv st σ) (k7 : x = 7 → sm_W RX6 cX6_count nL ret d r σ' 111 lv st σ) (k8 : x = 8 → sm_W RX6 cX6_count nL ret d r σ' 116 lv st σ) (k9 : x = 9 → sm_W RX6 cX6_count nL ret d r σ' 126 lv st σ) (k10 : x = 10 → sm_W RX6 cX6_count nL ret d r σ' 131 lv st σ) (k11 : x = 11 → sm_W RX6 cX6_count nL ret d r σ' 136 lv st σ) (kd : ¬ x = 0 → ¬ x = 1 → ¬ x = 2 → ¬ x = 3 → ¬ x = 4 → ¬ x = 5 → ¬ x = 6 → ¬ x = 7 → ¬ x = 8 → ¬ x = 9 → ¬ x = 10 → ¬ x = 11 → sm_W RX6 cX6_count nL ret d r σ' 141 lv st σ) : sm_W RX6 cX6_count nL ret d r σ' 13 lv (.int x :: st) σ := by
  by_cases h0 : x = 0
  · subst h0; exact sw_tableIn dX6_count_13 (by decide) (by decide) (show _ = some (63) from rfl) (by decide) (k0 rfl)
  by_cases h1 : x = 1
  · subst h1; exact sw_tableIn dX6_count_13 (by decide) (by decide) (show _ = some (68) from rfl) (by decide) (k1 rfl)
  by_cases h2 : x = 2
  · subst h2; exact sw_tableIn dX6_count_13 (by decide) (by decide) (show _ = some (73) from rfl) (by decide) (k2 rfl)
  by_cases h3 : x = 3
  · subst h3; exact sw_tableIn dX6_count_13 (by decide) (by decide) (show _ = some (78) from rfl) (by decide) (k3 rfl)
  by_cases h4 : x = 4
  · subst h4; exact sw_tableIn dX6_count_13 (by decide) (by decide) (show _ = some (83) from rfl) (by decide) (k4 rfl)
  by_cases h5 : x = 5
  · subst h5; exact sw_tableIn dX6_count_13 (by decide) (by decide) (show _ = some (88) from rfl) (by decide) (k5 rfl)
  by_cases h6 : x = 6
  · subst h6; exact sw_tableIn dX6_count_13 (by decide) (by decide) (show _ = some (93) from rfl) (by decide) (k6 rfl)
  by_cases h7 : x = 7
  · subst h7; exact sw_tableIn dX6_count_13 (by decide) (by decide) (show _ = some (98) from rfl) (by decide) (k7 rfl)
  by_cases h8 : x = 8
  · subst h8; exact sw_tableIn dX6_count_13 (by decide) (by decide) (show _ = some (103) from rfl) (by decide) (k8 rfl)
  by_cases h9 : x = 9
  · subst h9; exact sw_tableIn dX6_count_13 (by decide) (by decide) (show _ = some (113) from rfl) (by decide) (k9 rfl)
  by_cases h10 : x = 10
  · subst h10; exact sw_tableIn dX6_count_13 (by decide) (by decide) (show _ = some (118) from rfl) (by decide) (k10 rfl)
  by_cases h11 : x = 11
  · subst h11; exact sw_tableIn dX6_count_13 (by decide) (by decide) (show _ = some (123) from rfl) (by decide) (k11 rfl)
  have e0 : x.toInt ≠ 0 := fun e => h0 (Int32.toInt_inj.mp e)
  have e1 : x.toInt ≠ 1 := fun e => h1 (Int32.toInt_inj.mp e)
  have e2 : x.toInt ≠ 2 := fun e => h2 (Int32.toInt_inj.mp e)
  have e3 : x.toInt ≠ 3 := fun e => h3 (Int32.toInt_inj.mp e)
  have e4 : x.toInt ≠ 4 := fun e => h4 (Int32.toInt_inj.mp e)
  have e5 : x.toInt ≠ 5 := fun e => h5 (Int32.toInt_inj.mp e)
  have e6 : x.toInt ≠ 6 := fun e => h6 (Int32.toInt_inj.mp e)
  have e7 : x.toInt ≠ 7 := fun e => h7 (Int32.toInt_inj.mp e)
  have e8 : x.toInt ≠ 8 := fun e => h8 (Int32.toInt_inj.mp e)
  have e9 : x.toInt ≠ 9 := fun e => h9 (Int32.toInt_inj.mp e)
  have e10 : x.toInt ≠ 10 := fun e => h10 (Int32.toInt_inj.mp e)
  have e11 : x.toInt ≠ 11 := fun e => h11 (Int32.toInt_inj.mp e)
  exact sw_tableOut (tgt := 141) dX6_count_13 (by omega) (by decide) (kd h0 h1 h2 h3 h4 h5 h6 h7 h8 h9 h10 h11)

theorem sw_tab_X6_crew_20 {nL d : Nat} {ret : Option FieldType} {r : Option Value} {σ' σ : sm_St} {lv : List (Nat × Value)} {st : List Value} {x : Int32} (k0 : x = 0 → sm_W RX6 cX6_crew nL ret d r σ' 56 lv st σ) (k1 : x = 1 → sm_W RX6 cX6_crew nL ret d r σ' 63 lv st σ) (k2 : x = 2 → sm_W RX6 cX6_crew nL ret d r σ' 70 lv st σ) (k3 : x = 3 → sm_W RX6 cX6_crew nL ret d r σ' 77 lv st σ) (k4 : x = 4 → sm_W RX6 cX6_crew nL ret d r σ' 88 lv st σ) (kd : ¬ x = 0 → ¬ x = 1 → ¬ x = 2 → ¬ x = 3 → ¬ x = 4 → sm_W RX6 cX6_crew nL ret d r σ' 94 lv st σ) : sm_W RX6 cX6_crew nL ret d r σ' 20 lv (.int x :: st) σ := by
  by_cases h0 : x = 0
  · subst h0; exact sw_tableIn dX6_crew_20 (by decide) (by decide) (show _ = some (36) from rfl) (by decide) (k0 rfl)
  by_cases h1 : x = 1
  · subst h1; exact sw_tableIn dX6_crew_20 (by decide) (by decide) (show _ = some (43) from rfl) (by decide) (k1 rfl)
  by_cases h2 : x = 2
  · subst h2; exact sw_tableIn dX6_crew_20 (by decide) (by decide) (show _ = some (50) from rfl) (by decide) (k2 rfl)
  by_cases h3 : x = 3
  · subst h3; exact sw_tableIn dX6_crew_20 (by decide) (by decide) (show _ = some (57) from rfl) (by decide) (k3 rfl)
  by_cases h4 : x = 4
  · subst h4; exact sw_tableIn dX6_crew_20 (by decide) (by decide) (show _ = some (68) from rfl) (by decide) (k4 rfl)
  have e0 : x.toInt ≠ 0 := fun e => h0 (Int32.toInt_inj.mp e)
  have e1 : x.toInt ≠ 1 := fun e => h1 (Int32.toInt_inj.mp e)
  have e2 : x.toInt ≠ 2 := fun e => h2 (Int32.toInt_inj.mp e)
  have e3 : x.toInt ≠ 3 := fun e => h3 (Int32.toInt_inj.mp e)
  have e4 : x.toInt ≠ 4 := fun e => h4 (Int32.toInt_inj.mp e)
  exact sw_tableOut (tgt := 94) dX6_crew_20 (by omega) (by decide) (kd h0 h1 h2 h3 h4)

theorem sw_tab_X6_strengthBy_7 {nL d : Nat} {ret : Option FieldType} {r : Option Value} {σ' σ : sm_St} {lv : List (Nat × Value)} {st : List Value} {x : Int32} (k1 : x = 1 → sm_W RX6 cX6_strengthBy nL ret d r σ' 32 lv st σ) (k2 : x = 2 → sm_W RX6 cX6_strengthBy nL ret d r σ' 34 lv st σ) (k3 : x = 3 → sm_W RX6 cX6_strengthBy nL ret d r σ' 51 lv st σ) (kd : ¬ x = 1 → ¬ x = 2 → ¬ x = 3 → sm_W RX6 cX6_strengthBy nL ret d r σ' 64 lv st σ) : sm_W RX6 cX6_strengthBy nL ret d r σ' 7 lv (.int x :: st) σ := by
  by_cases h1 : x = 1
  · subst h1; exact sw_tableIn dX6_strengthBy_7 (by decide) (by decide) (show _ = some (25) from rfl) (by decide) (k1 rfl)
  by_cases h2 : x = 2
  · subst h2; exact sw_tableIn dX6_strengthBy_7 (by decide) (by decide) (show _ = some (27) from rfl) (by decide) (k2 rfl)
  by_cases h3 : x = 3
  · subst h3; exact sw_tableIn dX6_strengthBy_7 (by decide) (by decide) (show _ = some (44) from rfl) (by decide) (k3 rfl)
  have e1 : x.toInt ≠ 1 := fun e => h1 (Int32.toInt_inj.mp e)
  have e2 : x.toInt ≠ 2 := fun e => h2 (Int32.toInt_inj.mp e)
  have e3 : x.toInt ≠ 3 := fun e => h3 (Int32.toInt_inj.mp e)
  exact sw_tableOut (tgt := 64) dX6_strengthBy_7 (by omega) (by decide) (kd h1 h2 h3)

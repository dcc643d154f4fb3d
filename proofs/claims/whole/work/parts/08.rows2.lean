/-! small rows for the walks -/
def sm_has (lv : List (Nat × Value)) (l : List (Nat × Value)) : Prop := match l with
  | [] => True
  | q :: t => sm_lk lv q.1 = some q.2 ∧ sm_has lv t
theorem sm_has_mem {lv : List (Nat × Value)} : ∀ {l : List (Nat × Value)}, sm_has lv l → ∀ q ∈ l, sm_lk lv q.1 = some q.2
  | [], _, _, h => by cases h
  | a :: t, h, q, hq => by
    rcases List.mem_cons.mp hq with rfl | hq
    · exact h.1
    · exact sm_has_mem h.2 q hq
theorem sm_e {lv : List (Nat × Value)} {i : Nat} {x y : Int32} (h : sm_lk lv i = some (.int x)) (e : x = y) : sm_lk lv i = some (.int y) := e ▸ h
theorem sm_el {lv : List (Nat × Value)} {i : Nat} {x y : Int64} (h : sm_lk lv i = some (.long x)) (e : x = y) : sm_lk lv i = some (.long y) := e ▸ h
theorem sm_i1 : Int32.ofInt 1 = 1 := by decide
theorem sm_im1 : Int32.ofInt (-1) = -1 := by decide
theorem sw_lv {own : String} {cc : ByteArray} {nL d : Nat} {ret : Option FieldType} {r : Option Value} {σ' σ : sm_St} {pc : Nat} {lv lv' : List (Nat × Value)} {st : List Value} (k : sm_W own cc nL ret d r σ' pc lv' st σ) (h : sm_has lv lv') : sm_W own cc nL ret d r σ' pc lv st σ := by
  intro p l e s m args below meth c ρ D cI cF A H locs ls X hl hP hD hS
  refine k X ⟨hl.1, hl.2.1, fun q hq => ?_⟩ hP hD hS
  obtain ⟨q0, h0, rfl⟩ := List.mem_map.mp hq
  exact sm_lk_at hl (sm_has_mem h q0 h0)
theorem sw_st {own : String} {cc : ByteArray} {nL d : Nat} {ret : Option FieldType} {r : Option Value} {σ' σ σ2 : sm_St} {pc : Nat} {lv : List (Nat × Value)} {st : List Value} (e : σ = σ2) (k : sm_W own cc nL ret d r σ' pc lv st σ2) : sm_W own cc nL ret d r σ' pc lv st σ := e ▸ k
/-- the number on top, under another name -/
theorem sw_top {own : String} {cc : ByteArray} {nL d : Nat} {ret : Option FieldType} {r : Option Value} {σ' σ : sm_St} {pc : Nat} {lv : List (Nat × Value)} {st : List Value} {x y : Int32} (e : x = y) (k : sm_W own cc nL ret d r σ' pc lv (.int y :: st) σ) : sm_W own cc nL ret d r σ' pc lv (.int x :: st) σ := e ▸ k
theorem sw_ifnonnull {own : String} {cc : ByteArray} {nL d : Nat} {ret : Option FieldType} {r : Option Value} {σ' σ : sm_St} {pc : Nat} {lv : List (Nat × Value)} {st : List Value} {x : Nat} {off : Int} {tgt : Nat} (hd : decode cc pc = .ok (.ifnonnull off, 3)) (ht : (pc : Int) + off = (tgt : Int)) (k : sm_W own cc nL ret d r σ' tgt lv st σ) : sm_W own cc nL ret d r σ' pc lv (.ref x :: st) σ := by
  intro p l e s m args below meth c ρ D cI cF A H locs ls X hl hP hD hS
  exact lv_ifnonnull X.1 X.2.1 hd ht (k X hl hP hD hS)
theorem lC_X2_13 : Cond.methodLink RX2 13 arraycopyName ∈ gw ∧ Cond.native arraycopyName ∈ gw ∧ Cond.static arraycopyName ∈ gw ∧ Cond.initialized "java/lang/System" ∈ gw := ⟨(gw_mem (i := 367) (by decide +kernel) rfl), (gw_mem (i := 369) (by decide +kernel) rfl), (gw_mem (i := 368) (by decide +kernel) rfl), (gw_mem (i := 44) (by decide +kernel) rfl)⟩
def sm_isF (k : Nat) : Prop := k < 96 ∧ k % 8 = 0
theorem sm_Fo {k : Nat} (h : sm_isF k) : sm_ocl k = some 0 := by unfold sm_ocl; rw [if_pos h.1, if_pos h.2]
theorem sm_Fs {k : Nat} (h : sm_isF k) {m : Nat} (h1 : 1 ≤ m) (h2 : m < 8) : k + m < 96 ∧ (k + m) % 8 = m := by
  obtain ⟨a, b⟩ := h
  omega

theorem sm_Fa1 {k : Nat} (h : sm_isF k) : sm_aln (k + 1) = some 6 := by obtain ⟨a, b⟩ := sm_Fs h (m := 1) (by decide) (by decide); unfold sm_aln; rw [if_pos a, b]; rfl

theorem sm_Fa2 {k : Nat} (h : sm_isF k) : sm_aln (k + 2) = some 6 := by obtain ⟨a, b⟩ := sm_Fs h (m := 2) (by decide) (by decide); unfold sm_aln; rw [if_pos a, b]; rfl

theorem sm_Fa3 {k : Nat} (h : sm_isF k) : sm_aln (k + 3) = some 6 := by obtain ⟨a, b⟩ := sm_Fs h (m := 3) (by decide) (by decide); unfold sm_aln; rw [if_pos a, b]; rfl

theorem sm_Fa4 {k : Nat} (h : sm_isF k) : sm_aln (k + 4) = some 6 := by obtain ⟨a, b⟩ := sm_Fs h (m := 4) (by decide) (by decide); unfold sm_aln; rw [if_pos a, b]; rfl

theorem sm_Fa5 {k : Nat} (h : sm_isF k) : sm_aln (k + 5) = some 8 := by obtain ⟨a, b⟩ := sm_Fs h (m := 5) (by decide) (by decide); unfold sm_aln; rw [if_pos a, b]; rfl

theorem sm_Fa6 {k : Nat} (h : sm_isF k) : sm_aln (k + 6) = some 8 := by obtain ⟨a, b⟩ := sm_Fs h (m := 6) (by decide) (by decide); unfold sm_aln; rw [if_pos a, b]; rfl

theorem sm_Fa7 {k : Nat} (h : sm_isF k) : sm_aln (k + 7) = some 8 := by obtain ⟨a, b⟩ := sm_Fs h (m := 7) (by decide) (by decide); unfold sm_aln; rw [if_pos a, b]; rfl

theorem sm_vin {i : Int32} {n : Nat} (h1 : ¬ i < 0) (h2 : ¬ nI n ≤ i) (hn : n < 2 ^ 31) : vp_in i n := by
  rw [vp_in_iff]
  rw [Int32.lt_iff_toInt_lt] at h1
  rw [Int32.le_iff_toInt_le, nI_toInt hn] at h2
  have : (0 : Int32).toInt = 0 := rfl
  omega
theorem sm_nin {i : Int32} {n : Nat} (h : ¬ (¬ i < 0 ∧ ¬ nI n ≤ i)) (h1 : ¬ i < 0) : nI n ≤ i := by
  by_cases h2 : nI n ≤ i
  · exact h2
  · exact absurd ⟨h1, h2⟩ h
/-- a row read as 0 beyond its ends; not written there -/
def r_at (f : Nat → Int32) (n : Nat) (i : Int32) : Int32 := if ¬ i < 0 ∧ ¬ nI n ≤ i then f i.toNatClampNeg else 0
def r_set (σ : sm_St) (k n : Nat) (i v : Int32) : sm_St := if ¬ i < 0 ∧ ¬ nI n ≤ i then sm_set σ k i.toNatClampNeg v else σ
def sm_b (c : Prop) [Decidable c] : Int32 := if c then 1 else 0
theorem sm_b_e0 {c : Prop} {h : Decidable c} : (@sm_b c h = 0) = ¬ c := by unfold sm_b; split <;> simp_all
theorem sm_b_e1 {c : Prop} {h : Decidable c} : (@sm_b c h = 1) = c := by unfold sm_b; split <;> simp_all
theorem sm_b_0e {c : Prop} {h : Decidable c} : (0 = @sm_b c h) = ¬ c := by unfold sm_b; split <;> simp_all
theorem sm_b_1e {c : Prop} {h : Decidable c} : (1 = @sm_b c h) = c := by unfold sm_b; split <;> simp_all
theorem sm_b01 (c : Prop) [Decidable c] : sm_b c = 0 ∨ sm_b c = 1 := by unfold sm_b; split <;> simp

theorem c_at {σ : sm_St} {k n : Nat} (ha : sm_aln k = some n) (i : Int32) : sm_C yX2_at cX2_at 2 (some .int) 1 [.ref k, .int i] σ (some (.int (r_at (σ k) n i))) σ := by
  refine sm_C.of (own := RX2) (by decide) rfl (Nat.le_of_ble_eq_true rfl) ?_
  show sm_W RX2 cX2_at 2 (some .int) 1 (some (.int (r_at (σ k) n i))) σ 0 [(0, .ref k), (1, .int i)] [] σ
  refine sw_iload_n dX2_at_0 rfl ?_
  refine sw_if_lt (tgt := 16) dX2_at_1 (by decide) (fun h1 => ?_) (fun h1 => ?_)
  · refine sw_iconst (v := 0) dX2_at_16 (by decide) ?_
    refine sw_iret dX2_at_17 rfl rfl ?_ ?_
    all_goals (first | with_reducible rfl | (simp_all [r_at]))
  · refine sw_iload_n dX2_at_4 rfl ?_
    refine sw_aload_n dX2_at_5 rfl ?_
    refine sw_alen dX2_at_6 ha ?_
    refine sw_icmp_ge (tgt := 16) dX2_at_7 (by decide) (fun h7 => ?_) (fun h7 => ?_)
    · refine sw_iconst (v := 0) dX2_at_16 (by decide) ?_
      refine sw_iret dX2_at_17 rfl rfl ?_ ?_
      all_goals (first | with_reducible rfl | (simp_all [r_at]))
    · refine sw_aload_n dX2_at_10 rfl ?_
      refine sw_iload_n dX2_at_11 rfl ?_
      refine sw_iald dX2_at_12 ha (sm_vin h1 h7 (by have := (sm_aln_lt ha).2.2.2; omega)) rfl ?_
      refine sw_goto (tgt := 17) dX2_at_13 (by decide) ?_
      refine sw_iret dX2_at_17 rfl rfl ?_ ?_
      all_goals (first | with_reducible rfl | (simp_all [r_at]))

theorem c_atX {σ : sm_St} (i : Int32) : sm_C yX2_at cX2_at 2 (some .int) 1 [.ref 200, .int i] σ (some (.int (r_at sm_sx 5 i))) σ := by
  refine sm_C.of (own := RX2) (by decide) rfl (Nat.le_of_ble_eq_true rfl) ?_
  show sm_W RX2 cX2_at 2 (some .int) 1 (some (.int (r_at sm_sx 5 i))) σ 0 [(0, .ref 200), (1, .int i)] [] σ
  refine sw_iload_n dX2_at_0 rfl ?_
  refine sw_if_lt (tgt := 16) dX2_at_1 (by decide) (fun h1 => ?_) (fun h1 => ?_)
  · refine sw_iconst (v := 0) dX2_at_16 (by decide) ?_
    refine sw_iret dX2_at_17 rfl rfl ?_ ?_
    all_goals (first | with_reducible rfl | (simp_all [r_at]))
  · refine sw_iload_n dX2_at_4 rfl ?_
    refine sw_aload_n dX2_at_5 rfl ?_
    refine sw_alenX dX2_at_6 ?_
    refine sw_icmp_ge (tgt := 16) dX2_at_7 (by decide) (fun h7 => ?_) (fun h7 => ?_)
    · refine sw_iconst (v := 0) dX2_at_16 (by decide) ?_
      refine sw_iret dX2_at_17 rfl rfl ?_ ?_
      all_goals (first | with_reducible rfl | (simp_all [r_at]))
    · refine sw_aload_n dX2_at_10 rfl ?_
      refine sw_iload_n dX2_at_11 rfl ?_
      refine sw_ialdX dX2_at_12 (sm_vin h1 h7 (by decide)) rfl ?_
      refine sw_goto (tgt := 17) dX2_at_13 (by decide) ?_
      refine sw_iret dX2_at_17 rfl rfl ?_ ?_
      all_goals (first | with_reducible rfl | (simp_all [r_at]))

theorem c_atY {σ : sm_St} (i : Int32) : sm_C yX2_at cX2_at 2 (some .int) 1 [.ref 201, .int i] σ (some (.int (r_at sm_sy 5 i))) σ := by
  refine sm_C.of (own := RX2) (by decide) rfl (Nat.le_of_ble_eq_true rfl) ?_
  show sm_W RX2 cX2_at 2 (some .int) 1 (some (.int (r_at sm_sy 5 i))) σ 0 [(0, .ref 201), (1, .int i)] [] σ
  refine sw_iload_n dX2_at_0 rfl ?_
  refine sw_if_lt (tgt := 16) dX2_at_1 (by decide) (fun h1 => ?_) (fun h1 => ?_)
  · refine sw_iconst (v := 0) dX2_at_16 (by decide) ?_
    refine sw_iret dX2_at_17 rfl rfl ?_ ?_
    all_goals (first | with_reducible rfl | (simp_all [r_at]))
  · refine sw_iload_n dX2_at_4 rfl ?_
    refine sw_aload_n dX2_at_5 rfl ?_
    refine sw_alenY dX2_at_6 ?_
    refine sw_icmp_ge (tgt := 16) dX2_at_7 (by decide) (fun h7 => ?_) (fun h7 => ?_)
    · refine sw_iconst (v := 0) dX2_at_16 (by decide) ?_
      refine sw_iret dX2_at_17 rfl rfl ?_ ?_
      all_goals (first | with_reducible rfl | (simp_all [r_at]))
    · refine sw_aload_n dX2_at_10 rfl ?_
      refine sw_iload_n dX2_at_11 rfl ?_
      refine sw_ialdY dX2_at_12 (sm_vin h1 h7 (by decide)) rfl ?_
      refine sw_goto (tgt := 17) dX2_at_13 (by decide) ?_
      refine sw_iret dX2_at_17 rfl rfl ?_ ?_
      all_goals (first | with_reducible rfl | (simp_all [r_at]))

theorem c_set {σ : sm_St} {k n : Nat} (ha : sm_aln k = some n) (i v : Int32) : sm_C yX2_set cX2_set 3 none 1 [.ref k, .int i, .int v] σ none (r_set σ k n i v) := by
  refine sm_C.of (own := RX2) (by decide) rfl (Nat.le_of_ble_eq_true rfl) ?_
  show sm_W RX2 cX2_set 3 none 1 none (r_set σ k n i v) 0 [(0, .ref k), (1, .int i), (2, .int v)] [] σ
  refine sw_iload_n dX2_set_0 rfl ?_
  refine sw_if_lt (tgt := 14) dX2_set_1 (by decide) (fun h1 => ?_) (fun h1 => ?_)
  · refine sw_vret dX2_set_14 rfl rfl ?_
    all_goals (first | with_reducible rfl | (simp_all [r_set]))
  · refine sw_iload_n dX2_set_4 rfl ?_
    refine sw_aload_n dX2_set_5 rfl ?_
    refine sw_alen dX2_set_6 ha ?_
    refine sw_icmp_ge (tgt := 14) dX2_set_7 (by decide) (fun h7 => ?_) (fun h7 => ?_)
    · refine sw_vret dX2_set_14 rfl rfl ?_
      all_goals (first | with_reducible rfl | (simp_all [r_set]))
    · refine sw_aload_n dX2_set_10 rfl ?_
      refine sw_iload_n dX2_set_11 rfl ?_
      refine sw_iload_n dX2_set_12 rfl ?_
      refine sw_iast dX2_set_13 ha (sm_vin h1 h7 (by have := (sm_aln_lt ha).2.2.2; omega)) ?_
      refine sw_vret dX2_set_14 rfl rfl ?_
      all_goals (first | with_reducible rfl | (simp_all [r_set]))

theorem c_copy {σ : sm_St} {a b n : Nat} (ha : sm_aln a = some n) (hb : sm_aln b = some n) : sm_C yX2_copy cX2_copy 2 none 1 [.ref a, .ref b] σ none (sm_row σ b (va_cpy (σ a) (σ b) 0 0 n)) := by
  refine sm_C.of (own := RX2) (by decide) rfl (Nat.le_of_ble_eq_true rfl) ?_
  have hn := (sm_aln_lt ha).2.2.2
  have hcl : (nI n).toNatClampNeg = n := nI_clamp (by omega)
  have hn0 : ¬ nI n < 0 := nI_pos (by omega)
  show sm_W RX2 cX2_copy 2 none 1 none (sm_row σ b (va_cpy (σ a) (σ b) 0 0 n)) 0 [(0, .ref a), (1, .ref b)] [] σ
  refine sw_aload_n dX2_copy_0 rfl ?_
  refine sw_iconst (v := 0) dX2_copy_1 (by decide) ?_
  refine sw_aload_n dX2_copy_2 rfl ?_
  refine sw_iconst (v := 0) dX2_copy_3 (by decide) ?_
  refine sw_aload_n dX2_copy_4 rfl ?_
  refine sw_alen dX2_copy_5 ha ?_
  refine sw_aload_n dX2_copy_6 rfl ?_
  refine sw_alen dX2_copy_7 hb ?_
  refine sw_min dX2_copy_8 lJ_X2_7 (Nat.le_of_ble_eq_true rfl) (Nat.le_of_ble_eq_true rfl) ?_
  refine sw_top (y := nI n) (by rw [if_neg (by rw [Int32.lt_iff_toInt_lt]; omega)]) ?_
  refine sw_copy dX2_copy_11 lC_X2_13 (Nat.le_of_ble_eq_true rfl) (Nat.le_of_ble_eq_true rfl) ha hb hn0 (by rw [hcl]; exact Nat.le_refl n) (by rw [hcl]; exact Nat.le_refl n) ?_
  refine sw_vret dX2_copy_14 rfl rfl ?_
  all_goals (first | with_reducible rfl | (rw [hcl]))

def sm_win (x a b : Int32) : Bool := decide (¬ x < a ∧ ¬ b < x)

theorem c_within {σ : sm_St} (x a b : Int32) : sm_C yX5_within cX5_within 3 (some .boolean) 0 [.int x, .int a, .int b] σ (some (.int (sm_b (sm_win x a b = true)))) σ := by
  refine sm_C.of (own := RX5) (by decide) rfl (Nat.le_of_ble_eq_true rfl) ?_
  show sm_W RX5 cX5_within 3 (some .boolean) 0 (some (.int (sm_b (sm_win x a b = true)))) σ 0 [(0, .int x), (1, .int a), (2, .int b)] [] σ
  refine sw_iload_n dX5_within_0 rfl ?_
  refine sw_iload_n dX5_within_1 rfl ?_
  refine sw_icmp_lt (tgt := 14) dX5_within_2 (by decide) (fun h2 => ?_) (fun h2 => ?_)
  · refine sw_iconst (v := 0) dX5_within_14 (by decide) ?_
    refine sw_zret dX5_within_15 rfl rfl ?_ (by decide) ?_
    all_goals (first | with_reducible rfl | (simp_all [sm_b_0e, sm_b_1e, sm_win]))
  · refine sw_iload_n dX5_within_5 rfl ?_
    refine sw_iload_n dX5_within_6 rfl ?_
    refine sw_icmp_gt (tgt := 14) dX5_within_7 (by decide) (fun h7 => ?_) (fun h7 => ?_)
    · refine sw_iconst (v := 0) dX5_within_14 (by decide) ?_
      refine sw_zret dX5_within_15 rfl rfl ?_ (by decide) ?_
      all_goals (first | with_reducible rfl | (simp_all [sm_b_0e, sm_b_1e, sm_win]))
    · refine sw_iconst (v := 1) dX5_within_10 (by decide) ?_
      refine sw_goto (tgt := 15) dX5_within_11 (by decide) ?_
      refine sw_zret dX5_within_15 rfl rfl ?_ (by decide) ?_
      all_goals (first | with_reducible rfl | (simp_all [sm_b_0e, sm_b_1e, sm_win]))

def sm_cell (x y : Int32) : Bool := decide (¬ x < 0 ∧ ¬ 8 < x ∧ ¬ y < 0 ∧ ¬ 8 < y)

theorem c_isCell {σ : sm_St} (x y : Int32) : sm_C yX5_isCell cX5_isCell 2 (some .boolean) 0 [.int x, .int y] σ (some (.int (sm_b (sm_cell x y)))) σ := by
  refine sm_C.of (own := RX5) (by decide) rfl (Nat.le_of_ble_eq_true rfl) ?_
  show sm_W RX5 cX5_isCell 2 (some .boolean) 0 (some (.int (sm_b (sm_cell x y)))) σ 0 [(0, .int x), (1, .int y)] [] σ
  refine sw_iload_n dX5_isCell_0 rfl ?_
  refine sw_if_lt (tgt := 24) dX5_isCell_1 (by decide) (fun h1 => ?_) (fun h1 => ?_)
  · refine sw_iconst (v := 0) dX5_isCell_24 (by decide) ?_
    refine sw_zret dX5_isCell_25 rfl rfl ?_ (by decide) ?_
    all_goals (first | with_reducible rfl | (simp_all [sm_b_0e, sm_b_1e, sm_cell]))
  · refine sw_iload_n dX5_isCell_4 rfl ?_
    refine sw_bipush (v := 8) dX5_isCell_5 (by decide) ?_
    refine sw_icmp_gt (tgt := 24) dX5_isCell_7 (by decide) (fun h7 => ?_) (fun h7 => ?_)
    · refine sw_iconst (v := 0) dX5_isCell_24 (by decide) ?_
      refine sw_zret dX5_isCell_25 rfl rfl ?_ (by decide) ?_
      all_goals (first | with_reducible rfl | (simp_all [sm_b_0e, sm_b_1e, sm_cell]))
    · refine sw_iload_n dX5_isCell_10 rfl ?_
      refine sw_if_lt (tgt := 24) dX5_isCell_11 (by decide) (fun h11 => ?_) (fun h11 => ?_)
      · refine sw_iconst (v := 0) dX5_isCell_24 (by decide) ?_
        refine sw_zret dX5_isCell_25 rfl rfl ?_ (by decide) ?_
        all_goals (first | with_reducible rfl | (simp_all [sm_b_0e, sm_b_1e, sm_cell]))
      · refine sw_iload_n dX5_isCell_14 rfl ?_
        refine sw_bipush (v := 8) dX5_isCell_15 (by decide) ?_
        refine sw_icmp_gt (tgt := 24) dX5_isCell_17 (by decide) (fun h17 => ?_) (fun h17 => ?_)
        · refine sw_iconst (v := 0) dX5_isCell_24 (by decide) ?_
          refine sw_zret dX5_isCell_25 rfl rfl ?_ (by decide) ?_
          all_goals (first | with_reducible rfl | (simp_all [sm_b_0e, sm_b_1e, sm_cell]))
        · refine sw_iconst (v := 1) dX5_isCell_20 (by decide) ?_
          refine sw_goto (tgt := 25) dX5_isCell_21 (by decide) ?_
          refine sw_zret dX5_isCell_25 rfl rfl ?_ (by decide) ?_
          all_goals (first | with_reducible rfl | (simp_all [sm_b_0e, sm_b_1e, sm_cell]))

theorem c_cellOf {σ : sm_St} (x y : Int32) : sm_C yX5_cellOf cX5_cellOf 2 (some .int) 0 [.int x, .int y] σ (some (.int (y * 9 + x))) σ := by
  refine sm_C.of (own := RX5) (by decide) rfl (Nat.le_of_ble_eq_true rfl) ?_
  show sm_W RX5 cX5_cellOf 2 (some .int) 0 (some (.int (y * 9 + x))) σ 0 [(0, .int x), (1, .int y)] [] σ
  refine sw_iload_n dX5_cellOf_0 rfl ?_
  refine sw_bipush (v := 9) dX5_cellOf_1 (by decide) ?_
  refine sw_imul dX5_cellOf_3 ?_
  refine sw_iload_n dX5_cellOf_4 rfl ?_
  refine sw_iadd dX5_cellOf_5 ?_
  refine sw_iret dX5_cellOf_6 rfl rfl ?_ ?_
  all_goals (first | with_reducible rfl | (rfl))

theorem c_nameOf {σ : sm_St} (s y x : Int32) : sm_C yX5_nameOf cX5_nameOf 3 (some .int) 0 [.int s, .int y, .int x] σ (some (.int (100 * s + 10 * y + x))) σ := by
  refine sm_C.of (own := RX5) (by decide) rfl (Nat.le_of_ble_eq_true rfl) ?_
  show sm_W RX5 cX5_nameOf 3 (some .int) 0 (some (.int (100 * s + 10 * y + x))) σ 0 [(0, .int s), (1, .int y), (2, .int x)] [] σ
  refine sw_bipush (v := 100) dX5_nameOf_0 (by decide) ?_
  refine sw_iload_n dX5_nameOf_2 rfl ?_
  refine sw_imul dX5_nameOf_3 ?_
  refine sw_bipush (v := 10) dX5_nameOf_4 (by decide) ?_
  refine sw_iload_n dX5_nameOf_6 rfl ?_
  refine sw_imul dX5_nameOf_7 ?_
  refine sw_iadd dX5_nameOf_8 ?_
  refine sw_iload_n dX5_nameOf_9 rfl ?_
  refine sw_iadd dX5_nameOf_10 ?_
  refine sw_iret dX5_nameOf_11 rfl rfl ?_ ?_
  all_goals (first | with_reducible rfl | (rfl))

theorem r_at_vin {f : Nat → Int32} {n : Nat} {i : Int32} (h : vp_in i n) (hn : n < 2 ^ 31) : f i.toNatClampNeg = r_at f n i := by
  unfold r_at
  rw [if_pos ⟨sm_vin_1 h, sm_vin_2 h hn⟩]
theorem r_set_vin {σ : sm_St} {k n : Nat} {i v : Int32} (h : vp_in i n) (hn : n < 2 ^ 31) : sm_set σ k i.toNatClampNeg v = r_set σ k n i v := by
  unfold r_set
  rw [if_pos ⟨sm_vin_1 h, sm_vin_2 h hn⟩]
section
variable {own : String} {cc : ByteArray} {nL d : Nat} {ret : Option FieldType} {r : Option Value} {σ' σ : sm_St} {pc : Nat} {lv : List (Nat × Value)} {st : List Value}
theorem sw_ialdR {k n : Nat} {i : Int32} (hd : decode cc pc = .ok (.iaload, 1)) (ha : sm_aln k = some n) (hin : vp_in i n) (kk : sm_W own cc nL ret d r σ' (pc + 1) lv (.int (r_at (σ k) n i) :: st) σ) : sm_W own cc nL ret d r σ' pc lv (.int i :: .ref k :: st) σ :=
  sw_iald hd ha hin (r_at_vin hin (by have := (sm_aln_lt ha).2.2.2; omega)) kk
theorem sw_iastR {k n : Nat} {i v : Int32} (hd : decode cc pc = .ok (.iastore, 1)) (ha : sm_aln k = some n) (hin : vp_in i n) (kk : sm_W own cc nL ret d r σ' (pc + 1) lv st (r_set σ k n i v)) : sm_W own cc nL ret d r σ' pc lv (.int v :: .int i :: .ref k :: st) σ :=
  sw_iast hd ha hin (sw_st (r_set_vin hin (by have := (sm_aln_lt ha).2.2.2; omega)) kk)
end
/-! the model: cell 110 -/
def q_V (σ : sm_St) : Nat → Nat → Int32
  | 0 => fun i => match i with
    | 0 => σ 110 7
    | 1 => σ 110 8
    | 2 => σ 110 2
    | 3 => σ 110 9
    | 4 => σ 110 10
    | 5 => σ 110 6
    | 6 => σ 110 0 + σ 110 28
    | _ => σ 110 1 + σ 110 29
  | 1 => σ 114
  | 2 => σ 115
  | 3 => σ 116
  | 4 => σ 117
  | 5 => σ 111
  | 6 => σ 112
  | _ => σ 113
abbrev q_P (σ : sm_St) (n : Nat) : Prop := σ 110 0 + σ 110 28 = nI n ∧ n ≤ 6
abbrev q_S (σ : sm_St) (n : Nat) : Prop := σ 110 1 + σ 110 29 = nI n ∧ n ≤ 8
def q_has (s k : Int32) : Bool := decide ((s >>> (k &&& 31)) &&& 1 = 1)
def q_bits (s : Int32) : Nat → Int32
  | 0 => 0
  | k + 1 => q_bits s k + ((s >>> (nI k &&& 31)) &&& 1)
def q_by (kind nose off : Int32) : Int32 :=
  if off = 0 then 0 else if kind = 1 then nose else if kind = 2 then (if nose + off ≤ 12 then nose + off else 12) else if kind = 3 then (if 2 < off then 0 else 2 * nose) else (if nose ≤ off then 0 else nose - off)
/-- the model's own, over the same view -/
def q_nearest (V : Nat → Nat → Int32) (n : Nat) (s : Int32) : Int32 := (f_near V s n).1
def q_str (V : Nat → Nat → Int32) (n : Nat) (c : Int32) : Int32 := if q_nearest V n (r_at (V 6) 8 c) = -4 then 0 else q_by (r_at (V 5) 8 c) (r_at (V 7) 8 c) (f_apart V (q_nearest V n (r_at (V 6) 8 c)))
def q_to (V : Nat → Nat → Int32) (n : Nat) (c : Int32) : Int32 := if q_str V n c = 0 then 0 else f_dir (r_at (V 1) 6 (q_nearest V n (r_at (V 6) 8 c)) - V 0 0) (r_at (V 2) 6 (q_nearest V n (r_at (V 6) 8 c)) - V 0 1)
def q_pull (V : Nat → Nat → Int32) (np : Nat) (plus minus : Int32) : Nat → Int32
  | 0 => if V 0 3 = plus then V 0 4 else if V 0 3 = minus then -(V 0 4) else 0
  | c + 1 => q_pull V np plus minus c + (if q_to V np (nI c) = plus then q_str V np (nI c) else if q_to V np (nI c) = minus then -(q_str V np (nI c)) else 0)
def q_dx (t : Int32) : Int32 := if t = 2 then 1 else if t = 4 then -1 else 0
def q_dy (t : Int32) : Int32 := if t = 3 then 1 else if t = 1 then -1 else 0
def q_goes (V : Nat → Nat → Int32) (np nc : Nat) : Int32 :=
  if ¬ V 0 2 < f_ab (q_pull V np 2 4 nc) ∧ ¬ V 0 2 < f_ab (q_pull V np 3 1 nc) then 0 else
  if sm_cell (V 0 0 + q_dx (f_dir (q_pull V np 2 4 nc) (q_pull V np 3 1 nc))) (V 0 1 + q_dy (f_dir (q_pull V np 2 4 nc) (q_pull V np 3 1 nc))) = true then f_dir (q_pull V np 2 4 nc) (q_pull V np 3 1 nc) else 0
def q_hour (σ : sm_St) (np nc : Nat) : sm_St := sm_set (sm_set (sm_set σ 110 7 (σ 110 7 + q_dx (q_goes (q_V σ) np nc))) 110 8 (σ 110 8 + q_dy (q_goes (q_V σ) np nc))) 110 6 (σ 110 6 + 1)
theorem q_hour_o {σ : sm_St} {np nc j : Nat} (h : j ≠ 7) (h2 : j ≠ 8) (h3 : j ≠ 6) : q_hour σ np nc 110 j = σ 110 j := by
  unfold q_hour
  rw [sm_set_ne h3, sm_set_ne h2, sm_set_ne h]
theorem q_hour_off {σ : sm_St} {np nc k : Nat} (h : k ≠ 110) : q_hour σ np nc k = σ k := by
  unfold q_hour
  rw [sm_set_off h, sm_set_off h, sm_set_off h]
theorem q_hour_P {σ : sm_St} {np nc n : Nat} (h : q_P σ n) : q_P (q_hour σ np nc) n := by
  unfold q_P
  rw [q_hour_o (by decide) (by decide) (by decide), q_hour_o (by decide) (by decide) (by decide)]
  exact h
theorem q_hour_S {σ : sm_St} {np nc n : Nat} (h : q_S σ n) : q_S (q_hour σ np nc) n := by
  unfold q_S
  rw [q_hour_o (by decide) (by decide) (by decide), q_hour_o (by decide) (by decide) (by decide)]
  exact h
def q_hours (np nc : Nat) : Nat → sm_St → sm_St
  | 0, σ => σ
  | n + 1, σ => q_hours np nc n (q_hour σ np nc)
theorem f_near_in (V : Nat → Nat → Int32) (w : Int32) : ∀ n, (f_near V w n).1 = -4 ∨ ∃ j, j < n ∧ (f_near V w n).1 = nI j ∧ (f_near V w n).2 = f_apart V (nI j)
  | 0 => Or.inl rfl
  | n + 1 => by
    unfold f_near
    split
    · exact Or.inr ⟨n, by omega, rfl, rfl⟩
    · rcases f_near_in V w n with h | ⟨j, h1, h2, h3⟩
      · exact Or.inl h
      · exact Or.inr ⟨j, by omega, h2, h3⟩
theorem f_near_vin {V : Nat → Nat → Int32} {w : Int32} {n : Nat} (h : ¬ (f_near V w n).1 = -4) (hn : n ≤ 6) : vp_in (f_near V w n).1 6 := by
  rcases f_near_in V w n with h1 | ⟨j, h1, h2, h3⟩
  · exact absurd h1 h
  · rw [h2]; exact vp_in_nI (by omega) (by decide)
theorem f_near_2 {V : Nat → Nat → Int32} {w : Int32} {n : Nat} (h : ¬ (f_near V w n).1 = -4) : (f_near V w n).2 = f_apart V (f_near V w n).1 := by
  rcases f_near_in V w n with h1 | ⟨j, h1, h2, h3⟩
  · exact absurd h1 h
  · rw [h2, h3]

set_option maxHeartbeats 1000000 in
theorem c_q_in {σ : sm_St} (v a b : Int32) : sm_C yX6_in cX6_in 3 (some .boolean) 0 [.int v, .int a, .int b] σ (some (.int (sm_b (sm_win v a b = true)))) σ := by
  refine sm_C.of (own := RX6) (by decide) rfl (Nat.le_of_ble_eq_true rfl) ?_
  show sm_W RX6 cX6_in 3 (some .boolean) 0 (some (.int (sm_b (sm_win v a b = true)))) σ 0 [(0, .int v), (1, .int a), (2, .int b)] [] σ
  refine sw_iload_n dX6_in_0 rfl ?_
  refine sw_iload_n dX6_in_1 rfl ?_
  refine sw_icmp_lt (tgt := 14) dX6_in_2 (by decide) (fun h2 => ?_) (fun h2 => ?_)
  · refine sw_iconst (v := 0) dX6_in_14 (by decide) ?_
    refine sw_zret dX6_in_15 rfl rfl ?_ (by decide) ?_
    all_goals (first | with_reducible rfl | (simp_all [-Int32.not_lt, -Int32.not_le, sm_b_e0, sm_b_e1, sm_b_0e, sm_b_1e, sm_win]))
  · refine sw_iload_n dX6_in_5 rfl ?_
    refine sw_iload_n dX6_in_6 rfl ?_
    refine sw_icmp_gt (tgt := 14) dX6_in_7 (by decide) (fun h7 => ?_) (fun h7 => ?_)
    · refine sw_iconst (v := 0) dX6_in_14 (by decide) ?_
      refine sw_zret dX6_in_15 rfl rfl ?_ (by decide) ?_
      all_goals (first | with_reducible rfl | (simp_all [-Int32.not_lt, -Int32.not_le, sm_b_e0, sm_b_e1, sm_b_0e, sm_b_1e, sm_win]))
    · refine sw_iconst (v := 1) dX6_in_10 (by decide) ?_
      refine sw_goto (tgt := 15) dX6_in_11 (by decide) ?_
      refine sw_zret dX6_in_15 rfl rfl ?_ (by decide) ?_
      all_goals (first | with_reducible rfl | (simp_all [-Int32.not_lt, -Int32.not_le, sm_b_e0, sm_b_e1, sm_b_0e, sm_b_1e, sm_win]))

set_option maxHeartbeats 1000000 in
theorem c_q_has {σ : sm_St} (s k : Int32) : sm_C yX6_has cX6_has 2 (some .boolean) 0 [.int s, .int k] σ (some (.int (sm_b (q_has s k = true)))) σ := by
  refine sm_C.of (own := RX6) (by decide) rfl (Nat.le_of_ble_eq_true rfl) ?_
  show sm_W RX6 cX6_has 2 (some .boolean) 0 (some (.int (sm_b (q_has s k = true)))) σ 0 [(0, .int s), (1, .int k)] [] σ
  refine sw_iload_n dX6_has_0 rfl ?_
  refine sw_iload_n dX6_has_1 rfl ?_
  refine sw_ishr dX6_has_2 ?_
  refine sw_iconst (v := 1) dX6_has_3 (by decide) ?_
  refine sw_iand dX6_has_4 ?_
  refine sw_iconst (v := 1) dX6_has_5 (by decide) ?_
  refine sw_icmp_ne (tgt := 13) dX6_has_6 (by decide) (fun h6 => ?_) (fun h6 => ?_)
  · refine sw_iconst (v := 0) dX6_has_13 (by decide) ?_
    refine sw_zret dX6_has_14 rfl rfl ?_ (by decide) ?_
    all_goals (first | with_reducible rfl | (simp_all [-Int32.not_lt, -Int32.not_le, sm_b_e0, sm_b_e1, sm_b_0e, sm_b_1e, q_has]))
  · refine sw_iconst (v := 1) dX6_has_9 (by decide) ?_
    refine sw_goto (tgt := 14) dX6_has_10 (by decide) ?_
    refine sw_zret dX6_has_14 rfl rfl ?_ (by decide) ?_
    all_goals (first | with_reducible rfl | (simp_all [-Int32.not_lt, -Int32.not_le, sm_b_e0, sm_b_e1, sm_b_0e, sm_b_1e, q_has]))

set_option maxHeartbeats 1000000 in
theorem c_q_far {σ : sm_St} (v : Int32) : sm_C yX6_far cX6_far 1 (some .int) 0 [.int v] σ (some (.int (f_ab v))) σ := by
  refine sm_C.of (own := RX6) (by decide) rfl (Nat.le_of_ble_eq_true rfl) ?_
  show sm_W RX6 cX6_far 1 (some .int) 0 (some (.int (f_ab v))) σ 0 [(0, .int v)] [] σ
  refine sw_iload_n dX6_far_0 rfl ?_
  refine sw_if_ge (tgt := 9) dX6_far_1 (by decide) (fun h1 => ?_) (fun h1 => ?_)
  · refine sw_iload_n dX6_far_9 rfl ?_
    refine sw_iret dX6_far_10 rfl rfl ?_ ?_
    all_goals (first | with_reducible rfl | (simp_all [-Int32.not_lt, -Int32.not_le, f_ab]))
  · refine sw_iload_n dX6_far_4 rfl ?_
    refine sw_ineg dX6_far_5 ?_
    refine sw_goto (tgt := 10) dX6_far_6 (by decide) ?_
    refine sw_iret dX6_far_10 rfl rfl ?_ ?_
    all_goals (first | with_reducible rfl | (simp_all [-Int32.not_lt, -Int32.not_le, f_ab]))

set_option maxHeartbeats 1000000 in
theorem l_q_bits {σ : sm_St} {s : Int32} : ∀ n i : Nat, 7 - i < n → i ≤ 7 → sm_W RX6 cX6_bits 3 (some .int) 0 (some (.int (q_bits s 7))) σ 4 [(0, .int s), (1, .int (q_bits s i)), (2, .int (nI i))] [] σ := by
  intro n
  induction n with
  | zero => intro i h1 h2; omega
  | succ n ih =>
    intro i h1 h2
    refine sw_iload_n dX6_bits_4 rfl ?_
    refine sw_bipush (v := 7) dX6_bits_5 (by decide) ?_
    refine sw_icmp_ge (tgt := 24) dX6_bits_7 (by decide) (fun h7 => ?_) (fun h7 => ?_)
    · have hge : 7 ≤ i := (nI_leI (by omega) (by omega)).mp (show nI 7 ≤ nI i from h7)
      refine sw_iload_n dX6_bits_24 rfl ?_
      refine sw_iret dX6_bits_25 rfl rfl ?_ ?_
      all_goals (first | with_reducible rfl | (rw [show i = 7 by omega]))
    · have hlt : i < 7 := by rw [show (7 : Int32) = nI 7 from rfl, nI_leI (by omega) (by omega)] at h7; omega
      refine sw_iload_n dX6_bits_10 rfl ?_
      refine sw_iload_n dX6_bits_11 rfl ?_
      refine sw_iload_n dX6_bits_12 rfl ?_
      refine sw_ishr dX6_bits_13 ?_
      refine sw_iconst (v := 1) dX6_bits_14 (by decide) ?_
      refine sw_iand dX6_bits_15 ?_
      refine sw_iadd dX6_bits_16 ?_
      refine sw_istore_n dX6_bits_17 (by decide) rfl ?_
      refine sw_iinc dX6_bits_18 rfl rfl (by decide) rfl ?_
      refine sw_goto (tgt := 4) dX6_bits_21 (by decide) ?_
      refine sw_lv (ih (i + 1) (by omega) (by omega)) (And.intro rfl (And.intro (sm_e rfl ?_) (And.intro (sm_e rfl ?_) trivial)))
      all_goals (first | (rw [sm_i1, nI_succ]; done) | rfl)

set_option maxHeartbeats 1000000 in
theorem c_q_bits {σ : sm_St} (s : Int32) : sm_C yX6_bits cX6_bits 3 (some .int) 0 [.int s] σ (some (.int (q_bits s 7))) σ := by
  refine sm_C.of (own := RX6) (by decide) rfl (Nat.le_of_ble_eq_true rfl) ?_
  show sm_W RX6 cX6_bits 3 (some .int) 0 (some (.int (q_bits s 7))) σ 0 [(0, .int s)] [] σ
  refine sw_iconst (v := 0) dX6_bits_0 (by decide) ?_
  refine sw_istore_n dX6_bits_1 (by decide) rfl ?_
  refine sw_iconst (v := 0) dX6_bits_2 (by decide) ?_
  refine sw_istore_n dX6_bits_3 (by decide) rfl ?_
  refine sw_lv (l_q_bits _ 0 (Nat.lt_succ_self _) (Nat.zero_le _)) (And.intro rfl (And.intro (sm_e rfl ?_) (And.intro (sm_e rfl ?_) trivial)))
  all_goals (rfl)

set_option maxHeartbeats 1000000 in
theorem c_q_isPost {σ : sm_St} (p : Int32) : sm_C yX6_isPost cX6_isPost 2 (some .boolean) 1 [.ref 110, .int p] σ (some (.int (sm_b (sm_win p 0 (σ 110 0 - 1) = true)))) σ := by
  refine sm_C.of (own := RX6) (by decide) rfl (Nat.le_of_ble_eq_true rfl) ?_
  show sm_W RX6 cX6_isPost 2 (some .boolean) 1 (some (.int (sm_b (sm_win p 0 (σ 110 0 - 1) = true)))) σ 0 [(0, .ref 110), (1, .int p)] [] σ
  refine sw_iload_n dX6_isPost_0 rfl ?_
  refine sw_iconst (v := 0) dX6_isPost_1 (by decide) ?_
  refine sw_aload_n dX6_isPost_2 rfl ?_
  refine sw_getI dX6_isPost_3 fl_X6_84 rfl rfl ?_
  refine sw_iconst (v := 1) dX6_isPost_6 (by decide) ?_
  refine sw_isub dX6_isPost_7 ?_
  refine sw_callS dX6_isPost_8 lS_X6_94 (c_q_in _ _ _) rfl rfl (Nat.le_of_ble_eq_true rfl) (Nat.le_of_ble_eq_true rfl) ?_
  refine sw_zret dX6_isPost_11 rfl rfl ?_ (sm_b01 _) ?_
  all_goals (first | with_reducible rfl | (rfl))

set_option maxHeartbeats 1000000 in
theorem c_q_isOne {σ : sm_St} (c : Int32) : sm_C yX6_isOne cX6_isOne 2 (some .boolean) 1 [.ref 110, .int c] σ (some (.int (sm_b (sm_win c 0 (σ 110 1 - 1) = true)))) σ := by
  refine sm_C.of (own := RX6) (by decide) rfl (Nat.le_of_ble_eq_true rfl) ?_
  show sm_W RX6 cX6_isOne 2 (some .boolean) 1 (some (.int (sm_b (sm_win c 0 (σ 110 1 - 1) = true)))) σ 0 [(0, .ref 110), (1, .int c)] [] σ
  refine sw_iload_n dX6_isOne_0 rfl ?_
  refine sw_iconst (v := 0) dX6_isOne_1 (by decide) ?_
  refine sw_aload_n dX6_isOne_2 rfl ?_
  refine sw_getI dX6_isOne_3 fl_X6_91 rfl rfl ?_
  refine sw_iconst (v := 1) dX6_isOne_6 (by decide) ?_
  refine sw_isub dX6_isOne_7 ?_
  refine sw_callS dX6_isOne_8 lS_X6_94 (c_q_in _ _ _) rfl rfl (Nat.le_of_ble_eq_true rfl) (Nat.le_of_ble_eq_true rfl) ?_
  refine sw_zret dX6_isOne_11 rfl rfl ?_ (sm_b01 _) ?_
  all_goals (first | with_reducible rfl | (rfl))

set_option maxHeartbeats 1000000 in
theorem c_q_isCell {σ : sm_St} (x y : Int32) : sm_C yX6_isCell cX6_isCell 2 (some .boolean) 1 [.int x, .int y] σ (some (.int (sm_b (sm_cell x y = true)))) σ := by
  refine sm_C.of (own := RX6) (by decide) rfl (Nat.le_of_ble_eq_true rfl) ?_
  show sm_W RX6 cX6_isCell 2 (some .boolean) 1 (some (.int (sm_b (sm_cell x y = true)))) σ 0 [(0, .int x), (1, .int y)] [] σ
  refine sw_iload_n dX6_isCell_0 rfl ?_
  refine sw_iconst (v := 0) dX6_isCell_1 (by decide) ?_
  refine sw_bipush (v := 8) dX6_isCell_2 (by decide) ?_
  refine sw_callS dX6_isCell_4 lS_X6_94 (c_q_in _ _ _) rfl rfl (Nat.le_of_ble_eq_true rfl) (Nat.le_of_ble_eq_true rfl) ?_
  refine sw_if_eq (tgt := 24) dX6_isCell_7 (by decide) (fun h7 => ?_) (fun h7 => ?_)
  · refine sw_iconst (v := 0) dX6_isCell_24 (by decide) ?_
    refine sw_zret dX6_isCell_25 rfl rfl ?_ (by decide) ?_
    all_goals (first | with_reducible rfl | (simp_all [-Int32.not_lt, -Int32.not_le, sm_b_e0, sm_b_e1, sm_b_0e, sm_b_1e, sm_cell, sm_win]))
  · refine sw_iload_n dX6_isCell_10 rfl ?_
    refine sw_iconst (v := 0) dX6_isCell_11 (by decide) ?_
    refine sw_bipush (v := 8) dX6_isCell_12 (by decide) ?_
    refine sw_callS dX6_isCell_14 lS_X6_94 (c_q_in _ _ _) rfl rfl (Nat.le_of_ble_eq_true rfl) (Nat.le_of_ble_eq_true rfl) ?_
    refine sw_if_eq (tgt := 24) dX6_isCell_17 (by decide) (fun h17 => ?_) (fun h17 => ?_)
    · refine sw_iconst (v := 0) dX6_isCell_24 (by decide) ?_
      refine sw_zret dX6_isCell_25 rfl rfl ?_ (by decide) ?_
      all_goals (first | with_reducible rfl | (simp_all [-Int32.not_lt, -Int32.not_le, sm_b_e0, sm_b_e1, sm_b_0e, sm_b_1e, sm_cell, sm_win]))
    · refine sw_iconst (v := 1) dX6_isCell_20 (by decide) ?_
      refine sw_goto (tgt := 25) dX6_isCell_21 (by decide) ?_
      refine sw_zret dX6_isCell_25 rfl rfl ?_ (by decide) ?_
      all_goals (first | with_reducible rfl | (simp_all [-Int32.not_lt, -Int32.not_le, sm_b_e0, sm_b_e1, sm_b_0e, sm_b_1e, sm_cell, sm_win]))

set_option maxHeartbeats 1000000 in
theorem c_q_farTo {σ : sm_St} (p : Int32) (hp : vp_in p 6) : sm_C yX6_farTo cX6_farTo 2 (some .int) 1 [.ref 110, .int p] σ (some (.int (f_apart (q_V σ) p))) σ := by
  refine sm_C.of (own := RX6) (by decide) rfl (Nat.le_of_ble_eq_true rfl) ?_
  show sm_W RX6 cX6_farTo 2 (some .int) 1 (some (.int (f_apart (q_V σ) p))) σ 0 [(0, .ref 110), (1, .int p)] [] σ
  refine sw_aload_n dX6_farTo_0 rfl ?_
  refine sw_getR (j := 114) dX6_farTo_1 fl_X6_19 rfl rfl ?_
  refine sw_iload_n dX6_farTo_4 rfl ?_
  refine sw_ialdR dX6_farTo_5 rfl hp ?_
  refine sw_aload_n dX6_farTo_6 rfl ?_
  refine sw_getI dX6_farTo_7 fl_X6_61 rfl rfl ?_
  refine sw_isub dX6_farTo_10 ?_
  refine sw_callS dX6_farTo_11 lS_X6_149 (c_q_far _) rfl rfl (Nat.le_of_ble_eq_true rfl) (Nat.le_of_ble_eq_true rfl) ?_
  refine sw_aload_n dX6_farTo_14 rfl ?_
  refine sw_getR (j := 115) dX6_farTo_15 fl_X6_22 rfl rfl ?_
  refine sw_iload_n dX6_farTo_18 rfl ?_
  refine sw_ialdR dX6_farTo_19 rfl hp ?_
  refine sw_aload_n dX6_farTo_20 rfl ?_
  refine sw_getI dX6_farTo_21 fl_X6_65 rfl rfl ?_
  refine sw_isub dX6_farTo_24 ?_
  refine sw_callS dX6_farTo_25 lS_X6_149 (c_q_far _) rfl rfl (Nat.le_of_ble_eq_true rfl) (Nat.le_of_ble_eq_true rfl) ?_
  refine sw_iadd dX6_farTo_28 ?_
  refine sw_iret dX6_farTo_29 rfl rfl ?_ ?_
  all_goals (first | with_reducible rfl | (rfl))

set_option maxHeartbeats 1000000 in
theorem c_q_by {σ : sm_St} (kind nose off : Int32) : sm_C yX6_strengthBy cX6_strengthBy 3 (some .int) 0 [.int kind, .int nose, .int off] σ (some (.int (q_by kind nose off))) σ := by
  refine sm_C.of (own := RX6) (by decide) rfl (Nat.le_of_ble_eq_true rfl) ?_
  show sm_W RX6 cX6_strengthBy 3 (some .int) 0 (some (.int (q_by kind nose off))) σ 0 [(0, .int kind), (1, .int nose), (2, .int off)] [] σ
  refine sw_iload_n dX6_strengthBy_0 rfl ?_
  refine sw_if_ne (tgt := 6) dX6_strengthBy_1 (by decide) (fun h1 => ?_) (fun h1 => ?_)
  · refine sw_iload_n dX6_strengthBy_6 rfl ?_
    refine sw_tab_X6_strengthBy_7 (fun h7_1 => ?_) (fun h7_2 => ?_) (fun h7_3 => ?_) (fun h7n1 h7n2 h7n3 => ?_)
    · refine sw_iload_n dX6_strengthBy_32 rfl ?_
      refine sw_iret dX6_strengthBy_33 rfl rfl ?_ ?_
      all_goals (first | with_reducible rfl | (simp_all [-Int32.not_lt, -Int32.not_le, sm_b_e0, sm_b_e1, sm_b_0e, sm_b_1e, q_by]))
    · refine sw_iload_n dX6_strengthBy_34 rfl ?_
      refine sw_iload_n dX6_strengthBy_35 rfl ?_
      refine sw_iadd dX6_strengthBy_36 ?_
      refine sw_bipush (v := 12) dX6_strengthBy_37 (by decide) ?_
      refine sw_icmp_le (tgt := 47) dX6_strengthBy_39 (by decide) (fun h39 => ?_) (fun h39 => ?_)
      · refine sw_iload_n dX6_strengthBy_47 rfl ?_
        refine sw_iload_n dX6_strengthBy_48 rfl ?_
        refine sw_iadd dX6_strengthBy_49 ?_
        refine sw_iret dX6_strengthBy_50 rfl rfl ?_ ?_
        all_goals (first | with_reducible rfl | (simp_all [-Int32.not_lt, -Int32.not_le, sm_b_e0, sm_b_e1, sm_b_0e, sm_b_1e, q_by]))
      · refine sw_bipush (v := 12) dX6_strengthBy_42 (by decide) ?_
        refine sw_goto (tgt := 50) dX6_strengthBy_44 (by decide) ?_
        refine sw_iret dX6_strengthBy_50 rfl rfl ?_ ?_
        all_goals (first | with_reducible rfl | (simp_all [-Int32.not_lt, -Int32.not_le, sm_b_e0, sm_b_e1, sm_b_0e, sm_b_1e, q_by]))
    · refine sw_iload_n dX6_strengthBy_51 rfl ?_
      refine sw_iconst (v := 2) dX6_strengthBy_52 (by decide) ?_
      refine sw_icmp_gt (tgt := 62) dX6_strengthBy_53 (by decide) (fun h53 => ?_) (fun h53 => ?_)
      · refine sw_iconst (v := 0) dX6_strengthBy_62 (by decide) ?_
        refine sw_iret dX6_strengthBy_63 rfl rfl ?_ ?_
        all_goals (first | with_reducible rfl | (simp_all [-Int32.not_lt, -Int32.not_le, sm_b_e0, sm_b_e1, sm_b_0e, sm_b_1e, q_by]))
      · refine sw_iconst (v := 2) dX6_strengthBy_56 (by decide) ?_
        refine sw_iload_n dX6_strengthBy_57 rfl ?_
        refine sw_imul dX6_strengthBy_58 ?_
        refine sw_goto (tgt := 63) dX6_strengthBy_59 (by decide) ?_
        refine sw_iret dX6_strengthBy_63 rfl rfl ?_ ?_
        all_goals (first | with_reducible rfl | (simp_all [-Int32.not_lt, -Int32.not_le, sm_b_e0, sm_b_e1, sm_b_0e, sm_b_1e, q_by]))
    · refine sw_iload_n dX6_strengthBy_64 rfl ?_
      refine sw_iload_n dX6_strengthBy_65 rfl ?_
      refine sw_icmp_le (tgt := 75) dX6_strengthBy_66 (by decide) (fun h66 => ?_) (fun h66 => ?_)
      · refine sw_iconst (v := 0) dX6_strengthBy_75 (by decide) ?_
        refine sw_iret dX6_strengthBy_76 rfl rfl ?_ ?_
        all_goals (first | with_reducible rfl | (simp_all [-Int32.not_lt, -Int32.not_le, sm_b_e0, sm_b_e1, sm_b_0e, sm_b_1e, q_by]))
      · refine sw_iload_n dX6_strengthBy_69 rfl ?_
        refine sw_iload_n dX6_strengthBy_70 rfl ?_
        refine sw_isub dX6_strengthBy_71 ?_
        refine sw_goto (tgt := 76) dX6_strengthBy_72 (by decide) ?_
        refine sw_iret dX6_strengthBy_76 rfl rfl ?_ ?_
        all_goals (first | with_reducible rfl | (simp_all [-Int32.not_lt, -Int32.not_le, sm_b_e0, sm_b_e1, sm_b_0e, sm_b_1e, q_by]))
  · refine sw_iconst (v := 0) dX6_strengthBy_4 (by decide) ?_
    refine sw_iret dX6_strengthBy_5 rfl rfl ?_ ?_
    all_goals (first | with_reducible rfl | (simp_all [-Int32.not_lt, -Int32.not_le, sm_b_e0, sm_b_e1, sm_b_0e, sm_b_1e, q_by]))

set_option maxHeartbeats 1000000 in
theorem l_q_nearest {σ : sm_St} {np : Nat} (hP : q_P σ np) {s : Int32} : ∀ n i : Nat, np - i < n → i ≤ np → sm_W RX6 cX6_nearest 5 (some .int) 2 (some (.int (f_near (q_V σ) s np).1)) σ 5 [(0, .ref 110), (1, .int s), (2, .int (f_near (q_V σ) s i).1), (3, .int (nI i))] [] σ := by
  have hn6 := hP.2
  intro n
  induction n with
  | zero => intro i h1 h2; omega
  | succ n ih =>
    intro i h1 h2
    refine sw_iload_n dX6_nearest_5 rfl ?_
    refine sw_aload_n dX6_nearest_6 rfl ?_
    refine sw_getI dX6_nearest_7 fl_X6_84 rfl rfl ?_
    refine sw_aload_n dX6_nearest_10 rfl ?_
    refine sw_getI dX6_nearest_11 fl_X6_153 rfl rfl ?_
    refine sw_iadd dX6_nearest_14 ?_
    refine sw_icmp_ge (tgt := 80) dX6_nearest_15 (by decide) (fun h15 => ?_) (fun h15 => ?_)
    · have hge : np ≤ i := by rw [hP.1, nI_leI (by omega) (by omega)] at h15; exact h15
      refine sw_iload_n dX6_nearest_80 rfl ?_
      refine sw_iret dX6_nearest_81 rfl rfl ?_ ?_
      all_goals (first | with_reducible rfl | (rw [show i = np by omega]))
    · have hlt : i < np := by rw [hP.1, nI_leI (by omega) (by omega)] at h15; omega
      refine sw_aload_n dX6_nearest_18 rfl ?_
      refine sw_getR (j := 117) dX6_nearest_19 fl_X6_28 rfl rfl ?_
      refine sw_iload_n dX6_nearest_22 rfl ?_
      refine sw_ialdR dX6_nearest_23 rfl (vp_in_nI (by omega) (by decide)) ?_
      refine sw_if_ne (tgt := 41) dX6_nearest_24 (by decide) (fun h24 => ?_) (fun h24 => ?_)
      · refine sw_iconst (v := 0) dX6_nearest_41 (by decide) ?_
        refine sw_istore dX6_nearest_42 (by decide) rfl ?_
        refine sw_iload dX6_nearest_44 rfl ?_
        refine sw_if_eq (tgt := 72) dX6_nearest_46 (by decide) (fun _ => ?_) (fun h => absurd (by decide) h)
        refine sw_iload_n dX6_nearest_72 rfl ?_
        refine sw_istore_n dX6_nearest_73 (by decide) rfl ?_
        refine sw_iinc dX6_nearest_74 rfl rfl (by decide) rfl ?_
        refine sw_goto (tgt := 5) dX6_nearest_77 (by decide) ?_
        refine sw_lv (ih (i + 1) (by omega) (by omega)) (And.intro rfl (And.intro rfl (And.intro (sm_e rfl ?_) (And.intro (sm_e rfl ?_) trivial))))
        all_goals (first | (rw [sm_i1, nI_succ]; done) | (rw [f_near]; simp_all [q_V, f_near_2]; done))
      · refine sw_aload_n dX6_nearest_27 rfl ?_
        refine sw_getR (j := 116) dX6_nearest_28 fl_X6_25 rfl rfl ?_
        refine sw_iload_n dX6_nearest_31 rfl ?_
        refine sw_ialdR dX6_nearest_32 rfl (vp_in_nI (by omega) (by decide)) ?_
        refine sw_iload_n dX6_nearest_33 rfl ?_
        refine sw_icmp_ne (tgt := 41) dX6_nearest_34 (by decide) (fun h34 => ?_) (fun h34 => ?_)
        · refine sw_iconst (v := 0) dX6_nearest_41 (by decide) ?_
          refine sw_istore dX6_nearest_42 (by decide) rfl ?_
          refine sw_iload dX6_nearest_44 rfl ?_
          refine sw_if_eq (tgt := 72) dX6_nearest_46 (by decide) (fun _ => ?_) (fun h => absurd (by decide) h)
          refine sw_iload_n dX6_nearest_72 rfl ?_
          refine sw_istore_n dX6_nearest_73 (by decide) rfl ?_
          refine sw_iinc dX6_nearest_74 rfl rfl (by decide) rfl ?_
          refine sw_goto (tgt := 5) dX6_nearest_77 (by decide) ?_
          refine sw_lv (ih (i + 1) (by omega) (by omega)) (And.intro rfl (And.intro rfl (And.intro (sm_e rfl ?_) (And.intro (sm_e rfl ?_) trivial))))
          all_goals (first | (rw [sm_i1, nI_succ]; done) | (rw [f_near]; simp_all [q_V, f_near_2]; done))
        · refine sw_iconst (v := 1) dX6_nearest_37 (by decide) ?_
          refine sw_goto (tgt := 42) dX6_nearest_38 (by decide) ?_
          refine sw_istore dX6_nearest_42 (by decide) rfl ?_
          refine sw_iload dX6_nearest_44 rfl ?_
          refine sw_if_eq (tgt := 72) dX6_nearest_46 (by decide) (fun h => absurd h (by decide)) (fun _ => ?_)
          refine sw_iload_n dX6_nearest_49 rfl ?_
          refine sw_bipush (v := -4) dX6_nearest_50 (by decide) ?_
          refine sw_icmp_eq (tgt := 68) dX6_nearest_52 (by decide) (fun h52 => ?_) (fun h52 => ?_)
          · refine sw_iload_n dX6_nearest_68 rfl ?_
            refine sw_goto (tgt := 73) dX6_nearest_69 (by decide) ?_
            refine sw_istore_n dX6_nearest_73 (by decide) rfl ?_
            refine sw_iinc dX6_nearest_74 rfl rfl (by decide) rfl ?_
            refine sw_goto (tgt := 5) dX6_nearest_77 (by decide) ?_
            refine sw_lv (ih (i + 1) (by omega) (by omega)) (And.intro rfl (And.intro rfl (And.intro (sm_e rfl ?_) (And.intro (sm_e rfl ?_) trivial))))
            all_goals (first | (rw [sm_i1, nI_succ]; done) | (rw [f_near]; simp_all [q_V, f_near_2]; done))
          · refine sw_aload_n dX6_nearest_55 rfl ?_
            refine sw_iload_n dX6_nearest_56 rfl ?_
            refine sw_callV dX6_nearest_57 lV_X6_156 (c_q_farTo _ (vp_in_nI (by omega) (by decide))) rfl rfl rfl rfl (Nat.le_of_ble_eq_true rfl) (Nat.le_of_ble_eq_true rfl) ?_
            refine sw_aload_n dX6_nearest_60 rfl ?_
            refine sw_iload_n dX6_nearest_61 rfl ?_
            refine sw_callV dX6_nearest_62 lV_X6_156 (c_q_farTo _ (f_near_vin h52 (by omega))) rfl rfl rfl rfl (Nat.le_of_ble_eq_true rfl) (Nat.le_of_ble_eq_true rfl) ?_
            refine sw_icmp_ge (tgt := 72) dX6_nearest_65 (by decide) (fun h65 => ?_) (fun h65 => ?_)
            · refine sw_iload_n dX6_nearest_72 rfl ?_
              refine sw_istore_n dX6_nearest_73 (by decide) rfl ?_
              refine sw_iinc dX6_nearest_74 rfl rfl (by decide) rfl ?_
              refine sw_goto (tgt := 5) dX6_nearest_77 (by decide) ?_
              refine sw_lv (ih (i + 1) (by omega) (by omega)) (And.intro rfl (And.intro rfl (And.intro (sm_e rfl ?_) (And.intro (sm_e rfl ?_) trivial))))
              all_goals (first | (rw [sm_i1, nI_succ]; done) | (rw [f_near]; simp_all [q_V, f_near_2]; done))
            · refine sw_iload_n dX6_nearest_68 rfl ?_
              refine sw_goto (tgt := 73) dX6_nearest_69 (by decide) ?_
              refine sw_istore_n dX6_nearest_73 (by decide) rfl ?_
              refine sw_iinc dX6_nearest_74 rfl rfl (by decide) rfl ?_
              refine sw_goto (tgt := 5) dX6_nearest_77 (by decide) ?_
              refine sw_lv (ih (i + 1) (by omega) (by omega)) (And.intro rfl (And.intro rfl (And.intro (sm_e rfl ?_) (And.intro (sm_e rfl ?_) trivial))))
              all_goals (first | (rw [sm_i1, nI_succ]; done) | (rw [f_near]; simp_all [q_V, f_near_2]; done))

set_option maxHeartbeats 1000000 in
theorem c_q_nearest {σ : sm_St} {np : Nat} (s : Int32) (hP : q_P σ np) : sm_C yX6_nearest cX6_nearest 5 (some .int) 2 [.ref 110, .int s] σ (some (.int (q_nearest (q_V σ) np s))) σ := by
  refine sm_C.of (own := RX6) (by decide) rfl (Nat.le_of_ble_eq_true rfl) ?_
  show sm_W RX6 cX6_nearest 5 (some .int) 2 (some (.int (q_nearest (q_V σ) np s))) σ 0 [(0, .ref 110), (1, .int s)] [] σ
  refine sw_bipush (v := -4) dX6_nearest_0 (by decide) ?_
  refine sw_istore_n dX6_nearest_2 (by decide) rfl ?_
  refine sw_iconst (v := 0) dX6_nearest_3 (by decide) ?_
  refine sw_istore_n dX6_nearest_4 (by decide) rfl ?_
  refine sw_lv (l_q_nearest hP _ 0 (Nat.lt_succ_self _) (Nat.zero_le _)) (And.intro rfl (And.intro rfl (And.intro rfl (And.intro rfl trivial))))

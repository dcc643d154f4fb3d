def q_sets (σ : sm_St) (p x y s : Int32) : sm_St := r_set (r_set (r_set (r_set σ 114 6 p x) 115 6 p y) 116 6 p s) 117 6 p 0
/-- the 29 numbers of a note -/
def q_num (σ : sm_St) (k : Nat) : Int32 := if k = 0 then σ 110 6 else if k = 1 then σ 110 7 else if k = 2 then σ 110 8 else if k = 3 then σ 110 9 else if k = 4 then σ 110 10 else σ (114 + (k - 5) / 6) ((k - 5) % 6)
def q_noteI (σ : sm_St) (f : Nat → Int32) (p i : Nat) : Nat → Int32 := fun j => if p ≤ j ∧ j < p + 29 ∧ (j < p + 5 ∨ (j - p - 5) % 6 < i) then q_num σ (j - p) else f j
def q_lays (σ : sm_St) (a p : Nat) : sm_St := sm_row σ a (q_noteI σ (σ a) p 6)
theorem q_noteI_0 {σ : sm_St} {f : Nat → Int32} {p : Nat} : upd (upd (upd (upd (upd f p (σ 110 6)) (p + 1) (σ 110 7)) (p + 2) (σ 110 8)) (p + 3) (σ 110 9)) (p + 4) (σ 110 10) = q_noteI σ f p 0 := by
  funext j
  unfold q_noteI upd q_num
  by_cases h : p ≤ j ∧ j < p + 5
  · rcases (show j = p ∨ j = p + 1 ∨ j = p + 2 ∨ j = p + 3 ∨ j = p + 4 by omega) with rfl | rfl | rfl | rfl | rfl <;> simp
  · rw [if_neg (by omega), if_neg (by omega), if_neg (by omega), if_neg (by omega), if_neg (by omega), if_neg (by omega)]
theorem q_noteI_s {σ : sm_St} {f : Nat → Int32} {p i : Nat} (hi : i < 6) : upd (upd (upd (upd (q_noteI σ f p i) (p + 5 + i) (σ 114 i)) (p + 11 + i) (σ 115 i)) (p + 17 + i) (σ 116 i)) (p + 23 + i) (σ 117 i) = q_noteI σ f p (i + 1) := by
  funext j
  unfold upd
  by_cases h0 : j = p + 23 + i
  · subst h0
    rw [if_pos rfl, q_noteI, if_pos (by omega), q_num, if_neg (by omega), if_neg (by omega), if_neg (by omega), if_neg (by omega), if_neg (by omega), show (p + 23 + i - p - 5) / 6 = 3 by omega, show (p + 23 + i - p - 5) % 6 = i by omega]
  · rw [if_neg h0]
    by_cases h1 : j = p + 17 + i
    · subst h1
      rw [if_pos rfl, q_noteI, if_pos (by omega), q_num, if_neg (by omega), if_neg (by omega), if_neg (by omega), if_neg (by omega), if_neg (by omega), show (p + 17 + i - p - 5) / 6 = 2 by omega, show (p + 17 + i - p - 5) % 6 = i by omega]
    · rw [if_neg h1]
      by_cases h2 : j = p + 11 + i
      · subst h2
        rw [if_pos rfl, q_noteI, if_pos (by omega), q_num, if_neg (by omega), if_neg (by omega), if_neg (by omega), if_neg (by omega), if_neg (by omega), show (p + 11 + i - p - 5) / 6 = 1 by omega, show (p + 11 + i - p - 5) % 6 = i by omega]
      · rw [if_neg h2]
        by_cases h3 : j = p + 5 + i
        · subst h3
          rw [if_pos rfl, q_noteI, if_pos (by omega), q_num, if_neg (by omega), if_neg (by omega), if_neg (by omega), if_neg (by omega), if_neg (by omega), show (p + 5 + i - p - 5) / 6 = 0 by omega, show (p + 5 + i - p - 5) % 6 = i by omega]
        · rw [if_neg h3]
          unfold q_noteI
          by_cases h4 : p ≤ j ∧ j < p + 29 ∧ (j < p + 5 ∨ (j - p - 5) % 6 < i)
          · rw [if_pos h4, if_pos (by omega)]
          · rw [if_neg h4, if_neg (by omega)]
/-- behind takes: the numbers of the note at p of the row a -/
def q_takeI (σ : sm_St) (f : Nat → Int32) (p i : Nat) : sm_St := fun q =>
  if q = 110 then (fun j => if j = 6 then f p else if j = 7 then f (p + 1) else if j = 8 then f (p + 2) else if j = 9 then f (p + 3) else if j = 10 then f (p + 4) else σ 110 j)
  else if 114 ≤ q ∧ q ≤ 117 then (fun j => if j < i then f (p + 5 + 6 * (q - 114) + j) else σ q j) else σ q
def q_takes (σ : sm_St) (a p : Nat) : sm_St := q_takeI σ (σ a) p 6
theorem q_takeI_0 {σ : sm_St} {f : Nat → Int32} {p : Nat} : sm_set (sm_set (sm_set (sm_set (sm_set σ 110 6 (f p)) 110 7 (f (p + 1))) 110 8 (f (p + 2))) 110 9 (f (p + 3))) 110 10 (f (p + 4)) = q_takeI σ f p 0 := by
  funext q
  by_cases h : q = 110
  · subst h
    funext j
    unfold q_takeI
    rw [if_pos rfl]
    by_cases h6 : j = 6
    · subst h6; simp [sm_set, upd]
    · by_cases h7 : j = 7
      · subst h7; simp [sm_set, upd]
      · by_cases h8 : j = 8
        · subst h8; simp [sm_set, upd]
        · by_cases h9 : j = 9
          · subst h9; simp [sm_set, upd]
          · by_cases h10 : j = 10
            · subst h10; simp [sm_set, upd]
            · simp [sm_set, upd, h6, h7, h8, h9, h10]
  · unfold q_takeI
    rw [if_neg h]
    by_cases h1 : 114 ≤ q ∧ q ≤ 117
    · rw [if_pos h1]
      funext j
      simp [sm_set, h]
    · rw [if_neg h1]
      simp [sm_set, h]
theorem q_takeI_off {σ : sm_St} {f : Nat → Int32} {p i q : Nat} (h : q ≠ 110) (h2 : q < 114 ∨ 117 < q) : q_takeI σ f p i q = σ q := by
  unfold q_takeI
  rw [if_neg h, if_neg (by omega)]
theorem q_takeI_s {σ : sm_St} {f : Nat → Int32} {p i : Nat} : sm_set (sm_set (sm_set (sm_set (q_takeI σ f p i) 114 i (f (p + 5 + i))) 115 i (f (p + 11 + i))) 116 i (f (p + 17 + i))) 117 i (f (p + 23 + i)) = q_takeI σ f p (i + 1) := by
  funext q
  by_cases h : q = 114 ∨ q = 115 ∨ q = 116 ∨ q = 117
  · funext j
    rcases h with rfl | rfl | rfl | rfl
    all_goals
      by_cases hj : j = i
      · subst hj
        simp [sm_set, upd, q_takeI]
        try (congr 1; omega)
      · by_cases hk : j < i
        · simp [sm_set, upd, q_takeI, hj, hk, show j < i + 1 by omega]
        · simp [sm_set, upd, q_takeI, hj, hk, show ¬ j < i + 1 by omega]
  · have e : ∀ v w x y : Int32, sm_set (sm_set (sm_set (sm_set (q_takeI σ f p i) 114 i v) 115 i w) 116 i x) 117 i y q = q_takeI σ f p i q := by
      intro v w x y
      rw [sm_set_off (by omega), sm_set_off (by omega), sm_set_off (by omega), sm_set_off (by omega)]
    rw [e]
    unfold q_takeI
    by_cases h0 : q = 110
    · rw [if_pos h0, if_pos h0]
    · rw [if_neg h0, if_neg h0, if_neg (by omega), if_neg (by omega)]
theorem r_set_nI {σ : sm_St} {k n j : Nat} {i v : Int32} (e : i = nI j) (h : j < n) (hn : n < 1000) : r_set σ k n i v = sm_set σ k j v := by
  subst e
  rw [← r_set_vin (vp_in_nI h (by omega)) (by omega), nI_clamp (by omega)]
theorem r_at_nI {f : Nat → Int32} {n j : Nat} {i : Int32} (e : i = nI j) (h : j < n) (hn : n < 1000) : r_at f n i = f j := by
  subst e
  rw [← r_at_vin (vp_in_nI h (by omega)) (by omega), nI_clamp (by omega)]
theorem vp_in_e {i : Int32} {n j : Nat} (e : i = nI j) (h : j < n) (hn : n < 1000) : vp_in i n := e ▸ vp_in_nI h (by omega)

set_option maxHeartbeats 2000000 in
theorem c_q_sets {σ : sm_St} (p x y s : Int32) (hp : vp_in p 6) : sm_C yX6_setsPost cX6_setsPost 5 none 1 [.ref 110, .int p, .int x, .int y, .int s] σ none (q_sets σ p x y s) := by
  refine sm_C.of (own := RX6) (by decide) rfl (Nat.le_of_ble_eq_true rfl) ?_
  show sm_W RX6 cX6_setsPost 5 none 1 none (q_sets σ p x y s) 0 [(0, .ref 110), (1, .int p), (2, .int x), (3, .int y), (4, .int s)] [] σ
  refine sw_aload_n dX6_setsPost_0 rfl ?_
  refine sw_getR (j := 114) dX6_setsPost_1 fl_X6_19 rfl rfl ?_
  refine sw_iload_n dX6_setsPost_4 rfl ?_
  refine sw_iload_n dX6_setsPost_5 rfl ?_
  refine sw_iastR dX6_setsPost_6 rfl hp ?_
  refine sw_aload_n dX6_setsPost_7 rfl ?_
  refine sw_getR (j := 115) dX6_setsPost_8 fl_X6_22 rfl rfl ?_
  refine sw_iload_n dX6_setsPost_11 rfl ?_
  refine sw_iload_n dX6_setsPost_12 rfl ?_
  refine sw_iastR dX6_setsPost_13 rfl hp ?_
  refine sw_aload_n dX6_setsPost_14 rfl ?_
  refine sw_getR (j := 116) dX6_setsPost_15 fl_X6_25 rfl rfl ?_
  refine sw_iload_n dX6_setsPost_18 rfl ?_
  refine sw_iload dX6_setsPost_19 rfl ?_
  refine sw_iastR dX6_setsPost_21 rfl hp ?_
  refine sw_aload_n dX6_setsPost_22 rfl ?_
  refine sw_getR (j := 117) dX6_setsPost_23 fl_X6_28 rfl rfl ?_
  refine sw_iload_n dX6_setsPost_26 rfl ?_
  refine sw_iconst (v := 0) dX6_setsPost_27 (by decide) ?_
  refine sw_iastR dX6_setsPost_28 rfl hp ?_
  refine sw_vret dX6_setsPost_29 rfl rfl ?_
  all_goals (first | with_reducible rfl | (rfl))

set_option maxHeartbeats 2000000 in
theorem l_q_lays {σ : sm_St} {a N p : Nat} (ha : sm_aln a = some N) (hp : p + 29 ≤ N) (ha2 : 118 ≤ a) : ∀ n i : Nat, 6 - i < n → i ≤ 6 → sm_W RX6 cX6_lays 4 none 1 none (q_lays σ a p) 45 [(0, .ref 110), (1, .ref a), (2, .int (nI p)), (3, .int (nI i))] [] (sm_row σ a (q_noteI σ (σ a) p i)) := by
  have hN := (sm_aln_lt ha).2.2.2
  intro n
  induction n with
  | zero => intro i h1 h2; omega
  | succ n ih =>
    intro i h1 h2
    refine sw_iload_n dX6_lays_45 rfl ?_
    refine sw_bipush (v := 6) dX6_lays_46 (by decide) ?_
    refine sw_icmp_ge (tgt := 112) dX6_lays_48 (by decide) (fun h48 => ?_) (fun h48 => ?_)
    · have hge : 6 ≤ i := (nI_leI (by omega) (by omega)).mp (show nI 6 ≤ nI i from h48)
      refine sw_vret dX6_lays_112 rfl rfl ?_
      all_goals (first | with_reducible rfl | (rw [show i = 6 by omega]; rfl))
    · have hlt : i < 6 := by rw [show (6 : Int32) = nI 6 from rfl, nI_leI (by omega) (by omega)] at h48; omega
      refine sw_aload_n dX6_lays_51 rfl ?_
      refine sw_iload_n dX6_lays_52 rfl ?_
      refine sw_iconst (v := 5) dX6_lays_53 (by decide) ?_
      refine sw_iadd dX6_lays_54 ?_
      refine sw_iload_n dX6_lays_55 rfl ?_
      refine sw_iadd dX6_lays_56 ?_
      refine sw_aload_n dX6_lays_57 rfl ?_
      refine sw_getR (j := 114) dX6_lays_58 fl_X6_19 rfl rfl ?_
      refine sw_iload_n dX6_lays_61 rfl ?_
      refine sw_ialdR dX6_lays_62 rfl (vp_in_nI hlt (by decide)) ?_
      refine sw_top (y := σ 114 i) (by rw [r_at_nI rfl (show i < 6 by omega) (by decide), sm_row_off (by omega)]) ?_
      refine sw_iastR dX6_lays_63 ha (vp_in_e (j := p + 5 + i) (by rw [show (5 : Int32) = nI 5 from rfl, nI_add, nI_add]) (by omega) hN) ?_
      refine sw_st (σ2 := (sm_row σ a (upd (q_noteI σ (σ a) p i) (p + 5 + i) (σ 114 i)))) (by rw [r_set_nI (j := p + 5 + i) (by rw [show (5 : Int32) = nI 5 from rfl, nI_add, nI_add]) (by omega) hN]; funext q; by_cases hq : q = a <;> simp [sm_set, sm_row, hq]) ?_
      refine sw_aload_n dX6_lays_64 rfl ?_
      refine sw_iload_n dX6_lays_65 rfl ?_
      refine sw_bipush (v := 11) dX6_lays_66 (by decide) ?_
      refine sw_iadd dX6_lays_68 ?_
      refine sw_iload_n dX6_lays_69 rfl ?_
      refine sw_iadd dX6_lays_70 ?_
      refine sw_aload_n dX6_lays_71 rfl ?_
      refine sw_getR (j := 115) dX6_lays_72 fl_X6_22 rfl rfl ?_
      refine sw_iload_n dX6_lays_75 rfl ?_
      refine sw_ialdR dX6_lays_76 rfl (vp_in_nI hlt (by decide)) ?_
      refine sw_top (y := σ 115 i) (by rw [r_at_nI rfl (show i < 6 by omega) (by decide), sm_row_off (by omega)]) ?_
      refine sw_iastR dX6_lays_77 ha (vp_in_e (j := p + 11 + i) (by rw [show (11 : Int32) = nI 11 from rfl, nI_add, nI_add]) (by omega) hN) ?_
      refine sw_st (σ2 := (sm_row σ a (upd (upd (q_noteI σ (σ a) p i) (p + 5 + i) (σ 114 i)) (p + 11 + i) (σ 115 i)))) (by rw [r_set_nI (j := p + 11 + i) (by rw [show (11 : Int32) = nI 11 from rfl, nI_add, nI_add]) (by omega) hN]; funext q; by_cases hq : q = a <;> simp [sm_set, sm_row, hq]) ?_
      refine sw_aload_n dX6_lays_78 rfl ?_
      refine sw_iload_n dX6_lays_79 rfl ?_
      refine sw_bipush (v := 17) dX6_lays_80 (by decide) ?_
      refine sw_iadd dX6_lays_82 ?_
      refine sw_iload_n dX6_lays_83 rfl ?_
      refine sw_iadd dX6_lays_84 ?_
      refine sw_aload_n dX6_lays_85 rfl ?_
      refine sw_getR (j := 116) dX6_lays_86 fl_X6_25 rfl rfl ?_
      refine sw_iload_n dX6_lays_89 rfl ?_
      refine sw_ialdR dX6_lays_90 rfl (vp_in_nI hlt (by decide)) ?_
      refine sw_top (y := σ 116 i) (by rw [r_at_nI rfl (show i < 6 by omega) (by decide), sm_row_off (by omega)]) ?_
      refine sw_iastR dX6_lays_91 ha (vp_in_e (j := p + 17 + i) (by rw [show (17 : Int32) = nI 17 from rfl, nI_add, nI_add]) (by omega) hN) ?_
      refine sw_st (σ2 := (sm_row σ a (upd (upd (upd (q_noteI σ (σ a) p i) (p + 5 + i) (σ 114 i)) (p + 11 + i) (σ 115 i)) (p + 17 + i) (σ 116 i)))) (by rw [r_set_nI (j := p + 17 + i) (by rw [show (17 : Int32) = nI 17 from rfl, nI_add, nI_add]) (by omega) hN]; funext q; by_cases hq : q = a <;> simp [sm_set, sm_row, hq]) ?_
      refine sw_aload_n dX6_lays_92 rfl ?_
      refine sw_iload_n dX6_lays_93 rfl ?_
      refine sw_bipush (v := 23) dX6_lays_94 (by decide) ?_
      refine sw_iadd dX6_lays_96 ?_
      refine sw_iload_n dX6_lays_97 rfl ?_
      refine sw_iadd dX6_lays_98 ?_
      refine sw_aload_n dX6_lays_99 rfl ?_
      refine sw_getR (j := 117) dX6_lays_100 fl_X6_28 rfl rfl ?_
      refine sw_iload_n dX6_lays_103 rfl ?_
      refine sw_ialdR dX6_lays_104 rfl (vp_in_nI hlt (by decide)) ?_
      refine sw_top (y := σ 117 i) (by rw [r_at_nI rfl (show i < 6 by omega) (by decide), sm_row_off (by omega)]) ?_
      refine sw_iastR dX6_lays_105 ha (vp_in_e (j := p + 23 + i) (by rw [show (23 : Int32) = nI 23 from rfl, nI_add, nI_add]) (by omega) hN) ?_
      refine sw_st (σ2 := (sm_row σ a (upd (upd (upd (upd (q_noteI σ (σ a) p i) (p + 5 + i) (σ 114 i)) (p + 11 + i) (σ 115 i)) (p + 17 + i) (σ 116 i)) (p + 23 + i) (σ 117 i)))) (by rw [r_set_nI (j := p + 23 + i) (by rw [show (23 : Int32) = nI 23 from rfl, nI_add, nI_add]) (by omega) hN]; funext q; by_cases hq : q = a <;> simp [sm_set, sm_row, hq]) ?_
      refine sw_iinc dX6_lays_106 rfl rfl (by decide) rfl ?_
      refine sw_goto (tgt := 45) dX6_lays_109 (by decide) ?_
      refine sw_st (σ2 := sm_row σ a (q_noteI σ (σ a) p (i + 1))) (by rw [q_noteI_s hlt]) ?_
      refine sw_lv (ih (i + 1) (by omega) (by omega)) (And.intro rfl (And.intro rfl (And.intro rfl (And.intro (sm_e rfl ?_) trivial))))
      all_goals (rw [sm_i1, nI_succ])

set_option maxHeartbeats 2000000 in
theorem c_q_lays {σ : sm_St} {a N p : Nat} (ha : sm_aln a = some N) (hp : p + 29 ≤ N) (ha2 : 118 ≤ a) : sm_C yX6_lays cX6_lays 4 none 1 [.ref 110, .ref a, .int (nI p)] σ none (q_lays σ a p) := by
  refine sm_C.of (own := RX6) (by decide) rfl (Nat.le_of_ble_eq_true rfl) ?_
  have hN := (sm_aln_lt ha).2.2.2
  show sm_W RX6 cX6_lays 4 none 1 none (q_lays σ a p) 0 [(0, .ref 110), (1, .ref a), (2, .int (nI p))] [] σ
  refine sw_aload_n dX6_lays_0 rfl ?_
  refine sw_iload_n dX6_lays_1 rfl ?_
  refine sw_aload_n dX6_lays_2 rfl ?_
  refine sw_getI dX6_lays_3 fl_X6_137 rfl rfl ?_
  refine sw_iastR dX6_lays_6 ha (vp_in_e (j := p) rfl (by omega) hN) ?_
  refine sw_st (σ2 := sm_row σ a (upd (σ a) p (σ 110 6))) (by rw [r_set_nI (j := p) rfl (by omega) hN]; funext q; by_cases hq : q = a <;> simp [sm_set, sm_row, hq]) ?_
  refine sw_aload_n dX6_lays_7 rfl ?_
  refine sw_iload_n dX6_lays_8 rfl ?_
  refine sw_iconst (v := 1) dX6_lays_9 (by decide) ?_
  refine sw_iadd dX6_lays_10 ?_
  refine sw_aload_n dX6_lays_11 rfl ?_
  refine sw_getI dX6_lays_12 fl_X6_61 rfl rfl ?_
  refine sw_top (y := σ 110 7) (by rw [sm_row_off (by omega)]) ?_
  refine sw_iastR dX6_lays_15 ha (vp_in_e (j := p + 1) (by rw [nI_succ]) (by omega) hN) ?_
  refine sw_st (σ2 := sm_row σ a (upd (upd (σ a) p (σ 110 6)) (p + 1) (σ 110 7))) (by rw [r_set_nI (j := (p + 1)) (by rw [nI_succ]) (by omega) hN]; funext q; by_cases hq : q = a <;> simp [sm_set, sm_row, hq]) ?_
  refine sw_aload_n dX6_lays_16 rfl ?_
  refine sw_iload_n dX6_lays_17 rfl ?_
  refine sw_iconst (v := 2) dX6_lays_18 (by decide) ?_
  refine sw_iadd dX6_lays_19 ?_
  refine sw_aload_n dX6_lays_20 rfl ?_
  refine sw_getI dX6_lays_21 fl_X6_65 rfl rfl ?_
  refine sw_top (y := σ 110 8) (by rw [sm_row_off (by omega)]) ?_
  refine sw_iastR dX6_lays_24 ha (vp_in_e (j := p + 2) (nI_add p 2) (by omega) hN) ?_
  refine sw_st (σ2 := sm_row σ a (upd (upd (upd (σ a) p (σ 110 6)) (p + 1) (σ 110 7)) (p + 2) (σ 110 8))) (by rw [r_set_nI (j := (p + 2)) (show nI p + 2 = nI (p + 2) from nI_add p 2) (by omega) hN]; funext q; by_cases hq : q = a <;> simp [sm_set, sm_row, hq]) ?_
  refine sw_aload_n dX6_lays_25 rfl ?_
  refine sw_iload_n dX6_lays_26 rfl ?_
  refine sw_iconst (v := 3) dX6_lays_27 (by decide) ?_
  refine sw_iadd dX6_lays_28 ?_
  refine sw_aload_n dX6_lays_29 rfl ?_
  refine sw_getI dX6_lays_30 fl_X6_71 rfl rfl ?_
  refine sw_top (y := σ 110 9) (by rw [sm_row_off (by omega)]) ?_
  refine sw_iastR dX6_lays_33 ha (vp_in_e (j := p + 3) (nI_add p 3) (by omega) hN) ?_
  refine sw_st (σ2 := sm_row σ a (upd (upd (upd (upd (σ a) p (σ 110 6)) (p + 1) (σ 110 7)) (p + 2) (σ 110 8)) (p + 3) (σ 110 9))) (by rw [r_set_nI (j := (p + 3)) (show nI p + 3 = nI (p + 3) from nI_add p 3) (by omega) hN]; funext q; by_cases hq : q = a <;> simp [sm_set, sm_row, hq]) ?_
  refine sw_aload_n dX6_lays_34 rfl ?_
  refine sw_iload_n dX6_lays_35 rfl ?_
  refine sw_iconst (v := 4) dX6_lays_36 (by decide) ?_
  refine sw_iadd dX6_lays_37 ?_
  refine sw_aload_n dX6_lays_38 rfl ?_
  refine sw_getI dX6_lays_39 fl_X6_74 rfl rfl ?_
  refine sw_top (y := σ 110 10) (by rw [sm_row_off (by omega)]) ?_
  refine sw_iastR dX6_lays_42 ha (vp_in_e (j := p + 4) (nI_add p 4) (by omega) hN) ?_
  refine sw_st (σ2 := sm_row σ a (upd (upd (upd (upd (upd (σ a) p (σ 110 6)) (p + 1) (σ 110 7)) (p + 2) (σ 110 8)) (p + 3) (σ 110 9)) (p + 4) (σ 110 10))) (by rw [r_set_nI (j := (p + 4)) (show nI p + 4 = nI (p + 4) from nI_add p 4) (by omega) hN]; funext q; by_cases hq : q = a <;> simp [sm_set, sm_row, hq]) ?_
  refine sw_iconst (v := 0) dX6_lays_43 (by decide) ?_
  refine sw_istore_n dX6_lays_44 (by decide) rfl ?_
  refine sw_st (σ2 := sm_row σ a (q_noteI σ (σ a) p 0)) (by rw [q_noteI_0]) ?_
  refine sw_lv (l_q_lays ha hp ha2 _ 0 (Nat.lt_succ_self _) (Nat.zero_le _)) (And.intro rfl (And.intro rfl (And.intro rfl (And.intro rfl trivial))))

theorem vp_top {τ σ : sm_St} {a : Nat} (h : τ a = σ a) (j : Nat) : τ a j = σ a j := by rw [h]

set_option maxHeartbeats 2000000 in
theorem l_q_takes {σ : sm_St} {a N p : Nat} (ha : sm_aln a = some N) (hp : p + 29 ≤ N) (ha2 : 118 ≤ a) : ∀ n i : Nat, 6 - i < n → i ≤ 6 → sm_W RX6 cX6_takes 4 none 1 none (q_takes σ a p) 45 [(0, .ref 110), (1, .ref a), (2, .int (nI p)), (3, .int (nI i))] [] (q_takeI σ (σ a) p i) := by
  have hN := (sm_aln_lt ha).2.2.2
  intro n
  induction n with
  | zero => intro i h1 h2; omega
  | succ n ih =>
    intro i h1 h2
    refine sw_iload_n dX6_takes_45 rfl ?_
    refine sw_bipush (v := 6) dX6_takes_46 (by decide) ?_
    refine sw_icmp_ge (tgt := 112) dX6_takes_48 (by decide) (fun h48 => ?_) (fun h48 => ?_)
    · have hge : 6 ≤ i := (nI_leI (by omega) (by omega)).mp (show nI 6 ≤ nI i from h48)
      refine sw_vret dX6_takes_112 rfl rfl ?_
      all_goals (first | with_reducible rfl | (rw [show i = 6 by omega]; rfl))
    · have hlt : i < 6 := by rw [show (6 : Int32) = nI 6 from rfl, nI_leI (by omega) (by omega)] at h48; omega
      refine sw_aload_n dX6_takes_51 rfl ?_
      refine sw_getR (j := 114) dX6_takes_52 fl_X6_19 rfl rfl ?_
      refine sw_iload_n dX6_takes_55 rfl ?_
      refine sw_aload_n dX6_takes_56 rfl ?_
      refine sw_iload_n dX6_takes_57 rfl ?_
      refine sw_iconst (v := 5) dX6_takes_58 (by decide) ?_
      refine sw_iadd dX6_takes_59 ?_
      refine sw_iload_n dX6_takes_60 rfl ?_
      refine sw_iadd dX6_takes_61 ?_
      refine sw_ialdR dX6_takes_62 ha (vp_in_e (j := p + 5 + i) (by rw [show (5 : Int32) = nI 5 from rfl, nI_add, nI_add]) (by omega) hN) ?_
      refine sw_top (y := σ a (p + 5 + i)) (by rw [r_at_nI (j := p + 5 + i) (by rw [show (5 : Int32) = nI 5 from rfl, nI_add, nI_add]) (by omega) hN]; rw [q_takeI_off (by omega) (by omega)]) ?_
      refine sw_iastR dX6_takes_63 rfl (vp_in_nI hlt (by decide)) ?_
      refine sw_st (r_set_nI rfl (show i < 6 by omega) (by decide)) ?_
      refine sw_aload_n dX6_takes_64 rfl ?_
      refine sw_getR (j := 115) dX6_takes_65 fl_X6_22 rfl rfl ?_
      refine sw_iload_n dX6_takes_68 rfl ?_
      refine sw_aload_n dX6_takes_69 rfl ?_
      refine sw_iload_n dX6_takes_70 rfl ?_
      refine sw_bipush (v := 11) dX6_takes_71 (by decide) ?_
      refine sw_iadd dX6_takes_73 ?_
      refine sw_iload_n dX6_takes_74 rfl ?_
      refine sw_iadd dX6_takes_75 ?_
      refine sw_ialdR dX6_takes_76 ha (vp_in_e (j := p + 11 + i) (by rw [show (11 : Int32) = nI 11 from rfl, nI_add, nI_add]) (by omega) hN) ?_
      refine sw_top (y := σ a (p + 11 + i)) (by rw [r_at_nI (j := p + 11 + i) (by rw [show (11 : Int32) = nI 11 from rfl, nI_add, nI_add]) (by omega) hN]; rw [sm_set_off (by omega)]; rw [q_takeI_off (by omega) (by omega)]) ?_
      refine sw_iastR dX6_takes_77 rfl (vp_in_nI hlt (by decide)) ?_
      refine sw_st (r_set_nI rfl (show i < 6 by omega) (by decide)) ?_
      refine sw_aload_n dX6_takes_78 rfl ?_
      refine sw_getR (j := 116) dX6_takes_79 fl_X6_25 rfl rfl ?_
      refine sw_iload_n dX6_takes_82 rfl ?_
      refine sw_aload_n dX6_takes_83 rfl ?_
      refine sw_iload_n dX6_takes_84 rfl ?_
      refine sw_bipush (v := 17) dX6_takes_85 (by decide) ?_
      refine sw_iadd dX6_takes_87 ?_
      refine sw_iload_n dX6_takes_88 rfl ?_
      refine sw_iadd dX6_takes_89 ?_
      refine sw_ialdR dX6_takes_90 ha (vp_in_e (j := p + 17 + i) (by rw [show (17 : Int32) = nI 17 from rfl, nI_add, nI_add]) (by omega) hN) ?_
      refine sw_top (y := σ a (p + 17 + i)) (by rw [r_at_nI (j := p + 17 + i) (by rw [show (17 : Int32) = nI 17 from rfl, nI_add, nI_add]) (by omega) hN]; rw [sm_set_off (by omega)]; rw [sm_set_off (by omega)]; rw [q_takeI_off (by omega) (by omega)]) ?_
      refine sw_iastR dX6_takes_91 rfl (vp_in_nI hlt (by decide)) ?_
      refine sw_st (r_set_nI rfl (show i < 6 by omega) (by decide)) ?_
      refine sw_aload_n dX6_takes_92 rfl ?_
      refine sw_getR (j := 117) dX6_takes_93 fl_X6_28 rfl rfl ?_
      refine sw_iload_n dX6_takes_96 rfl ?_
      refine sw_aload_n dX6_takes_97 rfl ?_
      refine sw_iload_n dX6_takes_98 rfl ?_
      refine sw_bipush (v := 23) dX6_takes_99 (by decide) ?_
      refine sw_iadd dX6_takes_101 ?_
      refine sw_iload_n dX6_takes_102 rfl ?_
      refine sw_iadd dX6_takes_103 ?_
      refine sw_ialdR dX6_takes_104 ha (vp_in_e (j := p + 23 + i) (by rw [show (23 : Int32) = nI 23 from rfl, nI_add, nI_add]) (by omega) hN) ?_
      refine sw_top (y := σ a (p + 23 + i)) (by rw [r_at_nI (j := p + 23 + i) (by rw [show (23 : Int32) = nI 23 from rfl, nI_add, nI_add]) (by omega) hN]; rw [sm_set_off (by omega)]; rw [sm_set_off (by omega)]; rw [sm_set_off (by omega)]; rw [q_takeI_off (by omega) (by omega)]) ?_
      refine sw_iastR dX6_takes_105 rfl (vp_in_nI hlt (by decide)) ?_
      refine sw_st (r_set_nI rfl (show i < 6 by omega) (by decide)) ?_
      refine sw_iinc dX6_takes_106 rfl rfl (by decide) rfl ?_
      refine sw_goto (tgt := 45) dX6_takes_109 (by decide) ?_
      refine sw_st (σ2 := q_takeI σ (σ a) p (i + 1)) q_takeI_s ?_
      refine sw_lv (ih (i + 1) (by omega) (by omega)) (And.intro rfl (And.intro rfl (And.intro rfl (And.intro (sm_e rfl ?_) trivial))))
      all_goals (rw [sm_i1, nI_succ])

set_option maxHeartbeats 2000000 in
theorem c_q_takes {σ : sm_St} {a N p : Nat} (ha : sm_aln a = some N) (hp : p + 29 ≤ N) (ha2 : 118 ≤ a) : sm_C yX6_takes cX6_takes 4 none 1 [.ref 110, .ref a, .int (nI p)] σ none (q_takes σ a p) := by
  refine sm_C.of (own := RX6) (by decide) rfl (Nat.le_of_ble_eq_true rfl) ?_
  have hN := (sm_aln_lt ha).2.2.2
  show sm_W RX6 cX6_takes 4 none 1 none (q_takes σ a p) 0 [(0, .ref 110), (1, .ref a), (2, .int (nI p))] [] σ
  refine sw_aload_n dX6_takes_0 rfl ?_
  refine sw_aload_n dX6_takes_1 rfl ?_
  refine sw_iload_n dX6_takes_2 rfl ?_
  refine sw_ialdR dX6_takes_3 ha (vp_in_e (j := p) rfl (by omega) hN) ?_
  refine sw_top (y := σ a p) (by rw [r_at_nI (j := p) rfl (by omega) hN]) ?_
  refine sw_put dX6_takes_4 fl_X6_137 fi_5_6 rfl rfl ?_
  refine sw_aload_n dX6_takes_7 rfl ?_
  refine sw_aload_n dX6_takes_8 rfl ?_
  refine sw_iload_n dX6_takes_9 rfl ?_
  refine sw_iconst (v := 1) dX6_takes_10 (by decide) ?_
  refine sw_iadd dX6_takes_11 ?_
  refine sw_ialdR dX6_takes_12 ha (vp_in_e (j := (p + 1)) (by rw [nI_succ]) (by omega) hN) ?_
  refine sw_top (y := σ a (p + 1)) (by rw [r_at_nI (j := (p + 1)) (by rw [nI_succ]) (by omega) hN]; try rw [sm_set_off (by omega)]) ?_
  refine sw_put dX6_takes_13 fl_X6_61 fi_5_7 rfl rfl ?_
  refine sw_aload_n dX6_takes_16 rfl ?_
  refine sw_aload_n dX6_takes_17 rfl ?_
  refine sw_iload_n dX6_takes_18 rfl ?_
  refine sw_iconst (v := 2) dX6_takes_19 (by decide) ?_
  refine sw_iadd dX6_takes_20 ?_
  refine sw_ialdR dX6_takes_21 ha (vp_in_e (j := (p + 2)) (show nI p + 2 = nI (p + 2) from nI_add p 2) (by omega) hN) ?_
  refine sw_top (y := σ a (p + 2)) (by rw [r_at_nI (j := (p + 2)) (show nI p + 2 = nI (p + 2) from nI_add p 2) (by omega) hN]; try rw [sm_set_off (by omega)]; try rw [sm_set_off (by omega)]) ?_
  refine sw_put dX6_takes_22 fl_X6_65 fi_5_8 rfl rfl ?_
  refine sw_aload_n dX6_takes_25 rfl ?_
  refine sw_aload_n dX6_takes_26 rfl ?_
  refine sw_iload_n dX6_takes_27 rfl ?_
  refine sw_iconst (v := 3) dX6_takes_28 (by decide) ?_
  refine sw_iadd dX6_takes_29 ?_
  refine sw_ialdR dX6_takes_30 ha (vp_in_e (j := (p + 3)) (show nI p + 3 = nI (p + 3) from nI_add p 3) (by omega) hN) ?_
  refine sw_top (y := σ a (p + 3)) (by rw [r_at_nI (j := (p + 3)) (show nI p + 3 = nI (p + 3) from nI_add p 3) (by omega) hN]; try rw [sm_set_off (by omega)]; try rw [sm_set_off (by omega)]; try rw [sm_set_off (by omega)]) ?_
  refine sw_put dX6_takes_31 fl_X6_71 fi_5_9 rfl rfl ?_
  refine sw_aload_n dX6_takes_34 rfl ?_
  refine sw_aload_n dX6_takes_35 rfl ?_
  refine sw_iload_n dX6_takes_36 rfl ?_
  refine sw_iconst (v := 4) dX6_takes_37 (by decide) ?_
  refine sw_iadd dX6_takes_38 ?_
  refine sw_ialdR dX6_takes_39 ha (vp_in_e (j := (p + 4)) (show nI p + 4 = nI (p + 4) from nI_add p 4) (by omega) hN) ?_
  refine sw_top (y := σ a (p + 4)) (by rw [r_at_nI (j := (p + 4)) (show nI p + 4 = nI (p + 4) from nI_add p 4) (by omega) hN]; try rw [sm_set_off (by omega)]; try rw [sm_set_off (by omega)]; try rw [sm_set_off (by omega)]; try rw [sm_set_off (by omega)]) ?_
  refine sw_put dX6_takes_40 fl_X6_74 fi_5_10 rfl rfl ?_
  refine sw_iconst (v := 0) dX6_takes_43 (by decide) ?_
  refine sw_istore_n dX6_takes_44 (by decide) rfl ?_
  refine sw_st (σ2 := q_takeI σ (σ a) p 0) q_takeI_0 ?_
  refine sw_lv (l_q_takes ha hp ha2 _ 0 (Nat.lt_succ_self _) (Nat.zero_le _)) (And.intro rfl (And.intro rfl (And.intro rfl (And.intro rfl trivial))))

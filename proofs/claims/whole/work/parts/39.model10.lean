theorem sm_bF {h : Decidable False} : @sm_b False h = 0 := by unfold sm_b; simp
theorem sm_bT {h : Decidable True} : @sm_b True h = 1 := by unfold sm_b; simp
abbrev q_R (σ : sm_St) (rp rc : Nat) : Prop := (σ 110 22 = nI rp ∧ rp ≤ 5) ∧ σ 110 23 = nI rc ∧ rc ≤ 7
/-- a post, one of the crew: only where there is room; how many there are then -/
def y_post (σ : sm_St) (rp : Nat) : Bool × sm_St := if rp < 5 then y_three σ 123 15 (3 * rp) 8 8 0 5 else (false, σ)
def y_one (σ : sm_St) (L : Int32) (rc : Nat) : Bool × sm_St := if L = 99 ∧ rc < 7 then y_three σ 124 21 (3 * rc) 3 5 1 9 else (false, σ)
def y_up (j : Nat) (p : Bool × sm_St) : Bool × sm_St := (p.1, sm_set p.2 110 j (p.2 110 j + sm_b (p.1 = true)))
def y_kind (σ : sm_St) (L : Int32) (rp rc : Nat) : Bool × sm_St :=
  if L = 115 then y_three σ 122 5 0 8 8 0 20 else if L = 119 then y_wind σ else if L = 112 then y_up 22 (y_post σ rp) else y_up 23 (y_one σ L rc)
def y_item (σ : sm_St) (rp rc : Nat) : Bool × sm_St := y_kind (y_inc σ) (y_here σ) rp rc
theorem y_num_o {σ : sm_St} {a b e : Int32} {j : Nat} (h : j ≠ 21) (h2 : j ≠ 27) : (y_num σ a b e).2 110 j = σ 110 j := by
  have i1 : ∀ τ : sm_St, y_inc τ 110 j = τ 110 j := fun τ => by unfold y_inc; rw [sm_set_ne h]
  have i2 : ∀ p : Int32 × sm_St, y_put p 110 j = p.2 110 j := fun p => by unfold y_put; rw [sm_set_ne h2]
  have i3 : (y_val σ).2 110 j = σ 110 j := by
    unfold y_val
    split
    · show y_inc (y_inc σ) 110 j = _; rw [i1, i1]
    · show y_inc σ 110 j = _; rw [i1]
  unfold y_num
  split
  · split
    · show y_inc (y_put (y_val σ)) 110 j = _; rw [i1, i2, i3]
    · show y_put (y_val σ) 110 j = _; rw [i2, i3]
  · rfl
theorem y_three_o {σ : sm_St} {a N p : Nat} {h0 h1 l2 h2 : Int32} {j : Nat} (ha : a ≠ 110) (h : j ≠ 21) (hh : j ≠ 27) : (y_three σ a N p h0 h1 l2 h2).2 110 j = σ 110 j := by
  unfold y_three
  split
  · split
    · split
      · show r_set _ a N _ _ 110 j = _
        rw [r_set_off (Ne.symm ha), y_num_o h hh, r_set_off (Ne.symm ha), y_num_o h hh, r_set_off (Ne.symm ha), y_num_o h hh]
      · show (y_num _ l2 h2 59).2 110 j = _
        rw [y_num_o h hh, r_set_off (Ne.symm ha), y_num_o h hh, r_set_off (Ne.symm ha), y_num_o h hh]
    · show (y_num _ 0 h1 44).2 110 j = _
      rw [y_num_o h hh, r_set_off (Ne.symm ha), y_num_o h hh]
  · exact y_num_o h hh
theorem y_wind_o {σ : sm_St} {j : Nat} (h : j ≠ 21) (hh : j ≠ 27) : (y_wind σ).2 110 j = σ 110 j := by
  unfold y_wind
  split
  · split
    · dsimp only
      rw [r_set_off (by decide), y_num_o h hh, r_set_off (by decide), y_num_o h hh]
    · dsimp only
      rw [y_num_o h hh, r_set_off (by decide), y_num_o h hh]
  · exact y_num_o h hh

set_option maxHeartbeats 2000000 in
theorem c_y_item {σ : sm_St} {lo hi rp rc : Nat} (hT : q_T σ lo hi) (hh : hi < 600) (hR : q_R σ rp rc) : sm_C yX6_readsItem cX6_readsItem 3 (some .boolean) 4 [.ref 110] σ (some (.int (sm_b ((y_item σ rp rc).1 = true)))) (y_item σ rp rc).2 := by
  refine sm_C.of (own := RX6) (by decide) rfl (Nat.le_of_ble_eq_true rfl) ?_
  obtain ⟨⟨hr1, hr2⟩, hr3, hr4⟩ := id hR
  have i22 : y_inc σ 110 22 = nI rp := by unfold y_inc; rw [sm_set_ne (by decide)]; exact hr1
  have i23 : y_inc σ 110 23 = nI rc := by unfold y_inc; rw [sm_set_ne (by decide)]; exact hr3
  show sm_W RX6 cX6_readsItem 3 (some .boolean) 4 (some (.int (sm_b ((y_item σ rp rc).1 = true)))) (y_item σ rp rc).2 0 [(0, .ref 110)] [] σ
  refine sw_aload_n dX6_readsItem_0 rfl ?_
  refine sw_callV dX6_readsItem_1 lV_X6_104 (c_y_here hT (by omega)) rfl rfl rfl rfl (Nat.le_of_ble_eq_true rfl) (Nat.le_of_ble_eq_true rfl) ?_
  refine sw_istore_n dX6_readsItem_4 (by decide) rfl ?_
  refine sw_aload_n dX6_readsItem_5 rfl ?_
  refine sw_dup dX6_readsItem_6 rfl ?_
  refine sw_getI dX6_readsItem_7 fl_X6_101 rfl rfl ?_
  refine sw_iconst (v := 1) dX6_readsItem_10 (by decide) ?_
  refine sw_iadd dX6_readsItem_11 ?_
  refine sw_put dX6_readsItem_12 fl_X6_101 fi_5_21 rfl rfl ?_
  refine sw_st (σ2 := y_inc _) rfl ?_
  refine sw_iload_n dX6_readsItem_15 rfl ?_
  refine sw_bipush (v := 115) dX6_readsItem_16 (by decide) ?_
  refine sw_icmp_ne (tgt := 38) dX6_readsItem_18 (by decide) (fun h18 => ?_) (fun h18 => ?_)
  · refine sw_iload_n dX6_readsItem_38 rfl ?_
    refine sw_bipush (v := 119) dX6_readsItem_39 (by decide) ?_
    refine sw_icmp_ne (tgt := 49) dX6_readsItem_41 (by decide) (fun h41 => ?_) (fun h41 => ?_)
    · refine sw_iload_n dX6_readsItem_49 rfl ?_
      refine sw_bipush (v := 112) dX6_readsItem_50 (by decide) ?_
      refine sw_icmp_ne (tgt := 112) dX6_readsItem_52 (by decide) (fun h52 => ?_) (fun h52 => ?_)
      · refine sw_iload_n dX6_readsItem_112 rfl ?_
        refine sw_bipush (v := 99) dX6_readsItem_113 (by decide) ?_
        refine sw_icmp_ne (tgt := 153) dX6_readsItem_115 (by decide) (fun h115 => ?_) (fun h115 => ?_)
        · refine sw_iconst (v := 0) dX6_readsItem_153 (by decide) ?_
          refine sw_istore_n dX6_readsItem_154 (by decide) rfl ?_
          refine sw_aload_n dX6_readsItem_155 rfl ?_
          refine sw_dup dX6_readsItem_156 rfl ?_
          refine sw_getI dX6_readsItem_157 fl_X6_128 rfl rfl ?_
          refine sw_iload_n dX6_readsItem_160 rfl ?_
          refine sw_if_eq (tgt := 168) dX6_readsItem_161 (by decide) (fun _ => ?_) (fun h => absurd (by decide) h)
          refine sw_iconst (v := 0) dX6_readsItem_168 (by decide) ?_
          refine sw_iadd dX6_readsItem_169 ?_
          refine sw_put dX6_readsItem_170 fl_X6_128 fi_5_23 rfl rfl ?_
          refine sw_iload_n dX6_readsItem_173 rfl ?_
          refine sw_zret dX6_readsItem_174 rfl rfl ?_ (by decide) ?_
          all_goals (first | with_reducible rfl | (clear hT hR hr1 hr3 i22 i23; simp_all [-Int32.not_lt, -Int32.not_le, sm_b_e0, sm_b_e1, sm_b_0e, sm_b_1e, -Nat.not_lt, sm_bF, sm_bT, y_item, y_kind, y_up, y_post, y_one]))
        · refine sw_aload_n dX6_readsItem_118 rfl ?_
          refine sw_getI dX6_readsItem_119 fl_X6_128 rfl rfl ?_
          refine sw_bipush (v := 7) dX6_readsItem_122 (by decide) ?_
          refine sw_icmp_ge (tgt := 153) dX6_readsItem_124 (by decide) (fun h124 => ?_) (fun h124 => ?_)
          · have hrc : ¬ rc < 7 := fun h => by rw [i23, show (7 : Int32) = nI 7 from rfl, nI_leI (by omega) (by omega)] at h124; omega
            refine sw_iconst (v := 0) dX6_readsItem_153 (by decide) ?_
            refine sw_istore_n dX6_readsItem_154 (by decide) rfl ?_
            refine sw_aload_n dX6_readsItem_155 rfl ?_
            refine sw_dup dX6_readsItem_156 rfl ?_
            refine sw_getI dX6_readsItem_157 fl_X6_128 rfl rfl ?_
            refine sw_iload_n dX6_readsItem_160 rfl ?_
            refine sw_if_eq (tgt := 168) dX6_readsItem_161 (by decide) (fun _ => ?_) (fun h => absurd (by decide) h)
            refine sw_iconst (v := 0) dX6_readsItem_168 (by decide) ?_
            refine sw_iadd dX6_readsItem_169 ?_
            refine sw_put dX6_readsItem_170 fl_X6_128 fi_5_23 rfl rfl ?_
            refine sw_iload_n dX6_readsItem_173 rfl ?_
            refine sw_zret dX6_readsItem_174 rfl rfl ?_ (by decide) ?_
            all_goals (first | with_reducible rfl | (clear hT hR hr1 hr3 i22 i23; simp_all [-Int32.not_lt, -Int32.not_le, sm_b_e0, sm_b_e1, sm_b_0e, sm_b_1e, -Nat.not_lt, sm_bF, sm_bT, y_item, y_kind, y_up, y_post, y_one]))
          · have hrc : rc < 7 := by rw [i23, show (7 : Int32) = nI 7 from rfl, nI_leI (by omega) (by omega)] at h124; omega
            refine sw_aload_n dX6_readsItem_127 rfl ?_
            refine sw_aload_n dX6_readsItem_128 rfl ?_
            refine sw_getR (j := 124) dX6_readsItem_129 fl_X6_49 rfl rfl ?_
            refine sw_iconst (v := 3) dX6_readsItem_132 (by decide) ?_
            refine sw_aload_n dX6_readsItem_133 rfl ?_
            refine sw_getI dX6_readsItem_134 fl_X6_128 rfl rfl ?_
            refine sw_imul dX6_readsItem_137 ?_
            refine sw_top (y := nI (3 * rc)) (by rw [i23]; exact pk_mul 3 rc) ?_
            refine sw_iconst (v := 3) dX6_readsItem_138 (by decide) ?_
            refine sw_iconst (v := 5) dX6_readsItem_139 (by decide) ?_
            refine sw_iconst (v := 1) dX6_readsItem_140 (by decide) ?_
            refine sw_bipush (v := 9) dX6_readsItem_141 (by decide) ?_
            refine sw_callV dX6_readsItem_143 lV_X6_118 (c_y_three rfl (by decide) (by omega) hT.inc (by omega) (p := 3 * rc)) rfl rfl rfl rfl (Nat.le_of_ble_eq_true rfl) (Nat.le_of_ble_eq_true rfl) ?_
            refine sw_if_eq (tgt := 153) dX6_readsItem_146 (by decide) (fun h146 => ?_) (fun h146 => ?_)
            · refine sw_iconst (v := 0) dX6_readsItem_153 (by decide) ?_
              refine sw_istore_n dX6_readsItem_154 (by decide) rfl ?_
              refine sw_aload_n dX6_readsItem_155 rfl ?_
              refine sw_dup dX6_readsItem_156 rfl ?_
              refine sw_getI dX6_readsItem_157 fl_X6_128 rfl rfl ?_
              refine sw_iload_n dX6_readsItem_160 rfl ?_
              refine sw_if_eq (tgt := 168) dX6_readsItem_161 (by decide) (fun _ => ?_) (fun h => absurd (by decide) h)
              refine sw_iconst (v := 0) dX6_readsItem_168 (by decide) ?_
              refine sw_iadd dX6_readsItem_169 ?_
              refine sw_put dX6_readsItem_170 fl_X6_128 fi_5_23 rfl rfl ?_
              refine sw_iload_n dX6_readsItem_173 rfl ?_
              refine sw_zret dX6_readsItem_174 rfl rfl ?_ (by decide) ?_
              all_goals (first | with_reducible rfl | (clear hT hR hr1 hr3 i22 i23; simp_all [-Int32.not_lt, -Int32.not_le, sm_b_e0, sm_b_e1, sm_b_0e, sm_b_1e, -Nat.not_lt, sm_bF, sm_bT, y_item, y_kind, y_up, y_post, y_one]))
            · refine sw_iconst (v := 1) dX6_readsItem_149 (by decide) ?_
              refine sw_goto (tgt := 154) dX6_readsItem_150 (by decide) ?_
              refine sw_istore_n dX6_readsItem_154 (by decide) rfl ?_
              refine sw_aload_n dX6_readsItem_155 rfl ?_
              refine sw_dup dX6_readsItem_156 rfl ?_
              refine sw_getI dX6_readsItem_157 fl_X6_128 rfl rfl ?_
              refine sw_iload_n dX6_readsItem_160 rfl ?_
              refine sw_if_eq (tgt := 168) dX6_readsItem_161 (by decide) (fun h => absurd h (by decide)) (fun _ => ?_)
              refine sw_iconst (v := 1) dX6_readsItem_164 (by decide) ?_
              refine sw_goto (tgt := 169) dX6_readsItem_165 (by decide) ?_
              refine sw_iadd dX6_readsItem_169 ?_
              refine sw_put dX6_readsItem_170 fl_X6_128 fi_5_23 rfl rfl ?_
              refine sw_iload_n dX6_readsItem_173 rfl ?_
              refine sw_zret dX6_readsItem_174 rfl rfl ?_ (by decide) ?_
              all_goals (first | with_reducible rfl | (clear hT hR hr1 hr3 i22 i23; simp_all [-Int32.not_lt, -Int32.not_le, sm_b_e0, sm_b_e1, sm_b_0e, sm_b_1e, -Nat.not_lt, sm_bF, sm_bT, y_item, y_kind, y_up, y_post, y_one]))
      · refine sw_aload_n dX6_readsItem_55 rfl ?_
        refine sw_getI dX6_readsItem_56 fl_X6_125 rfl rfl ?_
        refine sw_iconst (v := 5) dX6_readsItem_59 (by decide) ?_
        refine sw_icmp_ge (tgt := 90) dX6_readsItem_60 (by decide) (fun h60 => ?_) (fun h60 => ?_)
        · have hrp : ¬ rp < 5 := fun h => by rw [i22, show (5 : Int32) = nI 5 from rfl, nI_leI (by omega) (by omega)] at h60; omega
          refine sw_iconst (v := 0) dX6_readsItem_90 (by decide) ?_
          refine sw_istore_n dX6_readsItem_91 (by decide) rfl ?_
          refine sw_aload_n dX6_readsItem_92 rfl ?_
          refine sw_dup dX6_readsItem_93 rfl ?_
          refine sw_getI dX6_readsItem_94 fl_X6_125 rfl rfl ?_
          refine sw_iload_n dX6_readsItem_97 rfl ?_
          refine sw_if_eq (tgt := 105) dX6_readsItem_98 (by decide) (fun _ => ?_) (fun h => absurd (by decide) h)
          refine sw_iconst (v := 0) dX6_readsItem_105 (by decide) ?_
          refine sw_iadd dX6_readsItem_106 ?_
          refine sw_put dX6_readsItem_107 fl_X6_125 fi_5_22 rfl rfl ?_
          refine sw_iload_n dX6_readsItem_110 rfl ?_
          refine sw_zret dX6_readsItem_111 rfl rfl ?_ (by decide) ?_
          all_goals (first | with_reducible rfl | (clear hT hR hr1 hr3 i22 i23; simp_all [-Int32.not_lt, -Int32.not_le, sm_b_e0, sm_b_e1, sm_b_0e, sm_b_1e, -Nat.not_lt, sm_bF, sm_bT, y_item, y_kind, y_up, y_post, y_one]))
        · have hrp : rp < 5 := by rw [i22, show (5 : Int32) = nI 5 from rfl, nI_leI (by omega) (by omega)] at h60; omega
          refine sw_aload_n dX6_readsItem_63 rfl ?_
          refine sw_aload_n dX6_readsItem_64 rfl ?_
          refine sw_getR (j := 123) dX6_readsItem_65 fl_X6_46 rfl rfl ?_
          refine sw_iconst (v := 3) dX6_readsItem_68 (by decide) ?_
          refine sw_aload_n dX6_readsItem_69 rfl ?_
          refine sw_getI dX6_readsItem_70 fl_X6_125 rfl rfl ?_
          refine sw_imul dX6_readsItem_73 ?_
          refine sw_top (y := nI (3 * rp)) (by rw [i22]; exact pk_mul 3 rp) ?_
          refine sw_bipush (v := 8) dX6_readsItem_74 (by decide) ?_
          refine sw_bipush (v := 8) dX6_readsItem_76 (by decide) ?_
          refine sw_iconst (v := 0) dX6_readsItem_78 (by decide) ?_
          refine sw_iconst (v := 5) dX6_readsItem_79 (by decide) ?_
          refine sw_callV dX6_readsItem_80 lV_X6_118 (c_y_three rfl (by decide) (by omega) hT.inc (by omega) (p := 3 * rp)) rfl rfl rfl rfl (Nat.le_of_ble_eq_true rfl) (Nat.le_of_ble_eq_true rfl) ?_
          refine sw_if_eq (tgt := 90) dX6_readsItem_83 (by decide) (fun h83 => ?_) (fun h83 => ?_)
          · refine sw_iconst (v := 0) dX6_readsItem_90 (by decide) ?_
            refine sw_istore_n dX6_readsItem_91 (by decide) rfl ?_
            refine sw_aload_n dX6_readsItem_92 rfl ?_
            refine sw_dup dX6_readsItem_93 rfl ?_
            refine sw_getI dX6_readsItem_94 fl_X6_125 rfl rfl ?_
            refine sw_iload_n dX6_readsItem_97 rfl ?_
            refine sw_if_eq (tgt := 105) dX6_readsItem_98 (by decide) (fun _ => ?_) (fun h => absurd (by decide) h)
            refine sw_iconst (v := 0) dX6_readsItem_105 (by decide) ?_
            refine sw_iadd dX6_readsItem_106 ?_
            refine sw_put dX6_readsItem_107 fl_X6_125 fi_5_22 rfl rfl ?_
            refine sw_iload_n dX6_readsItem_110 rfl ?_
            refine sw_zret dX6_readsItem_111 rfl rfl ?_ (by decide) ?_
            all_goals (first | with_reducible rfl | (clear hT hR hr1 hr3 i22 i23; simp_all [-Int32.not_lt, -Int32.not_le, sm_b_e0, sm_b_e1, sm_b_0e, sm_b_1e, -Nat.not_lt, sm_bF, sm_bT, y_item, y_kind, y_up, y_post, y_one]))
          · refine sw_iconst (v := 1) dX6_readsItem_86 (by decide) ?_
            refine sw_goto (tgt := 91) dX6_readsItem_87 (by decide) ?_
            refine sw_istore_n dX6_readsItem_91 (by decide) rfl ?_
            refine sw_aload_n dX6_readsItem_92 rfl ?_
            refine sw_dup dX6_readsItem_93 rfl ?_
            refine sw_getI dX6_readsItem_94 fl_X6_125 rfl rfl ?_
            refine sw_iload_n dX6_readsItem_97 rfl ?_
            refine sw_if_eq (tgt := 105) dX6_readsItem_98 (by decide) (fun h => absurd h (by decide)) (fun _ => ?_)
            refine sw_iconst (v := 1) dX6_readsItem_101 (by decide) ?_
            refine sw_goto (tgt := 106) dX6_readsItem_102 (by decide) ?_
            refine sw_iadd dX6_readsItem_106 ?_
            refine sw_put dX6_readsItem_107 fl_X6_125 fi_5_22 rfl rfl ?_
            refine sw_iload_n dX6_readsItem_110 rfl ?_
            refine sw_zret dX6_readsItem_111 rfl rfl ?_ (by decide) ?_
            all_goals (first | with_reducible rfl | (clear hT hR hr1 hr3 i22 i23; simp_all [-Int32.not_lt, -Int32.not_le, sm_b_e0, sm_b_e1, sm_b_0e, sm_b_1e, -Nat.not_lt, sm_bF, sm_bT, y_item, y_kind, y_up, y_post, y_one]))
    · refine sw_aload_n dX6_readsItem_44 rfl ?_
      refine sw_callV dX6_readsItem_45 lV_X6_122 (c_y_wind hT.inc (by omega)) rfl rfl rfl rfl (Nat.le_of_ble_eq_true rfl) (Nat.le_of_ble_eq_true rfl) ?_
      refine sw_zret dX6_readsItem_48 rfl rfl ?_ (sm_b01 _) ?_
      all_goals (first | with_reducible rfl | (clear hT hR hr1 hr3 i22 i23; simp_all [-Int32.not_lt, -Int32.not_le, sm_b_e0, sm_b_e1, sm_b_0e, sm_b_1e, -Nat.not_lt, sm_bF, sm_bT, y_item, y_kind, y_up, y_post, y_one]))
  · refine sw_aload_n dX6_readsItem_21 rfl ?_
    refine sw_aload_n dX6_readsItem_22 rfl ?_
    refine sw_getR (j := 122) dX6_readsItem_23 fl_X6_43 rfl rfl ?_
    refine sw_iconst (v := 0) dX6_readsItem_26 (by decide) ?_
    refine sw_bipush (v := 8) dX6_readsItem_27 (by decide) ?_
    refine sw_bipush (v := 8) dX6_readsItem_29 (by decide) ?_
    refine sw_iconst (v := 0) dX6_readsItem_31 (by decide) ?_
    refine sw_bipush (v := 20) dX6_readsItem_32 (by decide) ?_
    refine sw_callV dX6_readsItem_34 lV_X6_118 (c_y_three rfl (by decide) (by decide) hT.inc (by omega) (p := 0)) rfl rfl rfl rfl (Nat.le_of_ble_eq_true rfl) (Nat.le_of_ble_eq_true rfl) ?_
    refine sw_zret dX6_readsItem_37 rfl rfl ?_ (sm_b01 _) ?_
    all_goals (first | with_reducible rfl | (clear hT hR hr1 hr3 i22 i23; simp_all [-Int32.not_lt, -Int32.not_le, sm_b_e0, sm_b_e1, sm_b_0e, sm_b_1e, -Nat.not_lt, sm_bF, sm_bT, y_item, y_kind, y_up, y_post, y_one]))

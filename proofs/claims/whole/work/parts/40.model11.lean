theorem y_kind_T {σ : sm_St} {lo hi rp rc : Nat} {L : Int32} (h : q_T σ lo hi) : q_T (y_kind σ L rp rc).2 lo (hi + 9) := by
  unfold y_kind
  split
  · exact y_three_T h (by decide)
  · split
    · exact (y_wind_T h).mono (by omega) (by omega)
    · split
      · have h1 : q_T (y_post σ rp).2 lo (hi + 9) := by
          unfold y_post
          split
          · exact y_three_T h (by decide)
          · exact h.mono (by omega) (by omega)
        exact h1.set (by decide) (by decide)
      · have h1 : q_T (y_one σ L rc).2 lo (hi + 9) := by
          unfold y_one
          split
          · exact y_three_T h (by decide)
          · exact h.mono (by omega) (by omega)
        exact h1.set (by decide) (by decide)
theorem y_item_T {σ : sm_St} {lo hi rp rc : Nat} (h : q_T σ lo hi) : q_T (y_item σ rp rc).2 (lo + 1) (hi + 10) := (y_kind_T h.inc).mono (by omega) (by omega)
theorem y_kind_R {σ : sm_St} {rp rc : Nat} {L : Int32} (h : q_R σ rp rc) : ∃ rp' rc', q_R (y_kind σ L rp rc).2 rp' rc' := by
  obtain ⟨⟨h1, h2⟩, h3, h4⟩ := h
  unfold y_kind
  split
  · exact ⟨rp, rc, ⟨by rw [y_three_o (by decide) (by decide) (by decide)]; exact h1, h2⟩, by rw [y_three_o (by decide) (by decide) (by decide)]; exact h3, h4⟩
  · split
    · exact ⟨rp, rc, ⟨by rw [y_wind_o (by decide) (by decide)]; exact h1, h2⟩, by rw [y_wind_o (by decide) (by decide)]; exact h3, h4⟩
    · split
      · have e : ∀ j, j ≠ 21 → j ≠ 27 → (y_post σ rp).2 110 j = σ 110 j := by
          intro j a b
          unfold y_post
          split
          · exact y_three_o (by decide) a b
          · rfl
        by_cases hb : (y_post σ rp).1 = true
        · have hlt : rp < 5 := by
            unfold y_post at hb
            by_cases hq : rp < 5
            · exact hq
            · rw [if_neg hq] at hb; cases hb
          refine ⟨rp + 1, rc, ⟨?_, by omega⟩, ?_, h4⟩
          · unfold y_up; dsimp only
            rw [sm_set_eq, e 22 (by decide) (by decide), h1]
            simp only [hb, sm_b, if_true]
            exact nI_1 rp
          · unfold y_up; dsimp only
            rw [sm_set_ne (by decide), e 23 (by decide) (by decide)]; exact h3
        · refine ⟨rp, rc, ⟨?_, h2⟩, ?_, h4⟩
          · unfold y_up; dsimp only
            rw [sm_set_eq, e 22 (by decide) (by decide), h1]
            simp [hb, sm_b]
          · unfold y_up; dsimp only
            rw [sm_set_ne (by decide), e 23 (by decide) (by decide)]; exact h3
      · have e : ∀ j, j ≠ 21 → j ≠ 27 → (y_one σ L rc).2 110 j = σ 110 j := by
          intro j a b
          unfold y_one
          split
          · exact y_three_o (by decide) a b
          · rfl
        by_cases hb : (y_one σ L rc).1 = true
        · have hlt : rc < 7 := by
            unfold y_one at hb
            by_cases hq : L = 99 ∧ rc < 7
            · exact hq.2
            · rw [if_neg hq] at hb; cases hb
          refine ⟨rp, rc + 1, ⟨?_, h2⟩, ?_, by omega⟩
          · unfold y_up; dsimp only
            rw [sm_set_ne (by decide), e 22 (by decide) (by decide)]; exact h1
          · unfold y_up; dsimp only
            rw [sm_set_eq, e 23 (by decide) (by decide), h3]
            simp only [hb, sm_b, if_true]
            exact nI_1 rc
        · refine ⟨rp, rc, ⟨?_, h2⟩, ?_, h4⟩
          · unfold y_up; dsimp only
            rw [sm_set_ne (by decide), e 22 (by decide) (by decide)]; exact h1
          · unfold y_up; dsimp only
            rw [sm_set_eq, e 23 (by decide) (by decide), h3]
            simp [hb, sm_b]
theorem y_inc_R {σ : sm_St} {rp rc : Nat} (h : q_R σ rp rc) : q_R (y_inc σ) rp rc := by
  obtain ⟨⟨h1, h2⟩, h3, h4⟩ := h
  unfold y_inc
  exact ⟨⟨by rw [sm_set_ne (by decide)]; exact h1, h2⟩, by rw [sm_set_ne (by decide)]; exact h3, h4⟩
def y_itm (σ : sm_St) : Bool × sm_St := y_item σ (σ 110 22).toNatClampNeg (σ 110 23).toNatClampNeg
theorem y_itm_e {σ : sm_St} {rp rc : Nat} (h : q_R σ rp rc) : y_itm σ = y_item σ rp rc := by
  unfold y_itm
  rw [h.1.1, h.2.1, nI_clamp (by have := h.1.2; omega), nI_clamp (by have := h.2.2; omega)]
def y_read : Nat → sm_St → Int32 × sm_St
  | 0, σ => (-4, σ)
  | n + 1, σ => if σ 110 20 ≤ σ 110 21 then (-4, σ) else if (y_itm σ).1 = true then y_read n (y_itm σ).2 else (σ 110 21, (y_itm σ).2)
def y_start (σ : sm_St) : sm_St := r_set (r_set (r_set (r_set (r_set (sm_set (sm_set (sm_set σ 110 21 0) 110 22 0) 110 23 0) 122 5 0 4) 122 5 1 4) 122 5 2 2) 122 5 3 0) 122 5 4 0
def y_fault (σ : sm_St) : Int32 × sm_St := y_read 201 (y_start σ)
theorem y_start_o {σ : sm_St} {j : Nat} (h1 : j ≠ 21) (h2 : j ≠ 22) (h3 : j ≠ 23) : y_start σ 110 j = σ 110 j := by
  unfold y_start
  rw [r_set_off (by decide), r_set_off (by decide), r_set_off (by decide), r_set_off (by decide), r_set_off (by decide), sm_set_ne h3, sm_set_ne h2, sm_set_ne h1]
theorem y_start_T {σ : sm_St} {z : Nat} (hz : σ 110 20 = nI z ∧ z ≤ 200) : q_T (y_start σ) 0 0 := by
  refine ⟨0, z, ?_, by omega, by omega, by rw [y_start_o (by decide) (by decide) (by decide)]; exact hz.1, hz.2⟩
  unfold y_start
  rw [r_set_off (by decide), r_set_off (by decide), r_set_off (by decide), r_set_off (by decide), r_set_off (by decide), sm_set_ne (by decide), sm_set_ne (by decide), sm_set_eq]
  rfl
theorem y_start_R {σ : sm_St} : q_R (y_start σ) 0 0 := by
  refine ⟨⟨?_, by decide⟩, ?_, by decide⟩
  · unfold y_start
    rw [r_set_off (by decide), r_set_off (by decide), r_set_off (by decide), r_set_off (by decide), r_set_off (by decide), sm_set_ne (by decide), sm_set_eq]
    rfl
  · unfold y_start
    rw [r_set_off (by decide), r_set_off (by decide), r_set_off (by decide), r_set_off (by decide), r_set_off (by decide), sm_set_eq]
    rfl

theorem y_lt {σ : sm_St} {lo hi : Nat} (h : q_T σ lo hi) (hc : ¬ σ 110 20 ≤ σ 110 21) (hh : hi < 1000 := by omega) : q_T σ lo 200 := by
  obtain ⟨a, z, e1, e2, e3, e4, e5⟩ := h
  rw [e1, e4, nI_leI (by omega) (by omega)] at hc
  exact ⟨a, z, e1, e2, by omega, e4, e5⟩
theorem y_last {σ : sm_St} {lo hi : Nat} (h : q_T σ lo hi) (hh : hi < 1000) (h2 : 201 ≤ lo) : σ 110 20 ≤ σ 110 21 := by
  obtain ⟨a, z, e1, e2, e3, e4, e5⟩ := h
  rw [e1, e4, nI_leI (by omega) (by omega)]
  omega

set_option maxHeartbeats 2000000 in
theorem l_y_fault : ∀ (n : Nat) (τ : sm_St) (lo rp rc : Nat), 201 ≤ lo + n → q_T τ lo 250 → q_R τ rp rc → sm_W RX6 cX6_fault 2 (some .int) 5 (some (.int (y_read n τ).1)) (y_read n τ).2 50 [(0, .ref 110)] [] τ := by
  intro n
  induction n with
  | zero =>
    intro τ lo rp rc h1 hT hR
    have hlast := y_last hT (by decide) h1
    refine sw_aload_n dX6_fault_50 rfl ?_
    refine sw_getI dX6_fault_51 fl_X6_101 rfl rfl ?_
    refine sw_aload_n dX6_fault_54 rfl ?_
    refine sw_getI dX6_fault_55 fl_X6_98 rfl rfl ?_
    refine sw_icmp_ge (tgt := 78) dX6_fault_58 (by decide) (fun _ => ?_) (fun h => absurd (hlast) h)
    refine sw_bipush (v := -4) dX6_fault_78 (by decide) ?_
    refine sw_iret dX6_fault_80 rfl rfl ?_ ?_
    all_goals (first | with_reducible rfl | (rfl))
  | succ n ih =>
    intro τ lo rp rc h1 hT hR
    refine sw_aload_n dX6_fault_50 rfl ?_
    refine sw_getI dX6_fault_51 fl_X6_101 rfl rfl ?_
    refine sw_aload_n dX6_fault_54 rfl ?_
    refine sw_getI dX6_fault_55 fl_X6_98 rfl rfl ?_
    refine sw_icmp_ge (tgt := 78) dX6_fault_58 (by decide) (fun h58 => ?_) (fun h58 => ?_)
    · refine sw_bipush (v := -4) dX6_fault_78 (by decide) ?_
      refine sw_iret dX6_fault_80 rfl rfl ?_ ?_
      all_goals (first | with_reducible rfl | (first | (rw [y_read, if_pos h58]; done) | (rw [y_read, if_neg h58, if_neg (by simpa [sm_b_e0, y_itm_e hR] using h70), y_itm_e hR])))
    · refine sw_aload_n dX6_fault_61 rfl ?_
      refine sw_getI dX6_fault_62 fl_X6_101 rfl rfl ?_
      refine sw_istore_n dX6_fault_65 (by decide) rfl ?_
      refine sw_aload_n dX6_fault_66 rfl ?_
      refine sw_callV dX6_fault_67 lV_X6_131 (c_y_item (hT.mono (Nat.le_refl _) (show 250 ≤ 250 by omega)) (by omega) hR) rfl rfl rfl rfl (Nat.le_of_ble_eq_true rfl) (Nat.le_of_ble_eq_true rfl) ?_
      refine sw_if_ne (tgt := 75) dX6_fault_70 (by decide) (fun h70 => ?_) (fun h70 => ?_)
      · refine sw_goto (tgt := 50) dX6_fault_75 (by decide) ?_
        rw [y_read, if_neg h58, y_itm_e hR, if_pos (by simpa [sm_b_e0] using h70)]
        obtain ⟨rp2, rc2, hR2⟩ := y_kind_R (L := y_here τ) (y_inc_R hR)
        refine sw_lv (ih _ (lo + 1) rp2 rc2 (by omega) ((y_item_T (y_lt hT h58)).mono (by omega) (by omega)) hR2) (And.intro rfl trivial)
      · refine sw_iload_n dX6_fault_73 rfl ?_
        refine sw_iret dX6_fault_74 rfl rfl ?_ ?_
        all_goals (first | with_reducible rfl | (first | (rw [y_read, if_pos h58]; done) | (rw [y_read, if_neg h58, if_neg (by simpa [sm_b_e0, y_itm_e hR] using h70), y_itm_e hR])))

set_option maxHeartbeats 2000000 in
theorem c_y_fault {σ : sm_St} {z : Nat} (hz : σ 110 20 = nI z ∧ z ≤ 200) : sm_C yX6_fault cX6_fault 2 (some .int) 5 [.ref 110] σ (some (.int ((y_fault σ).1))) (y_fault σ).2 := by
  refine sm_C.of (own := RX6) (by decide) rfl (Nat.le_of_ble_eq_true rfl) ?_
  show sm_W RX6 cX6_fault 2 (some .int) 5 (some (.int ((y_fault σ).1))) (y_fault σ).2 0 [(0, .ref 110)] [] σ
  refine sw_aload_n dX6_fault_0 rfl ?_
  refine sw_iconst (v := 0) dX6_fault_1 (by decide) ?_
  refine sw_put dX6_fault_2 fl_X6_101 fi_5_21 rfl rfl ?_
  refine sw_aload_n dX6_fault_5 rfl ?_
  refine sw_iconst (v := 0) dX6_fault_6 (by decide) ?_
  refine sw_put dX6_fault_7 fl_X6_125 fi_5_22 rfl rfl ?_
  refine sw_aload_n dX6_fault_10 rfl ?_
  refine sw_iconst (v := 0) dX6_fault_11 (by decide) ?_
  refine sw_put dX6_fault_12 fl_X6_128 fi_5_23 rfl rfl ?_
  refine sw_aload_n dX6_fault_15 rfl ?_
  refine sw_getR (j := 122) dX6_fault_16 fl_X6_43 rfl rfl ?_
  refine sw_iconst (v := 0) dX6_fault_19 (by decide) ?_
  refine sw_iconst (v := 4) dX6_fault_20 (by decide) ?_
  refine sw_iastR dX6_fault_21 rfl (vp_in_nI (n := 0) (by decide) (by decide)) ?_
  refine sw_aload_n dX6_fault_22 rfl ?_
  refine sw_getR (j := 122) dX6_fault_23 fl_X6_43 rfl rfl ?_
  refine sw_iconst (v := 1) dX6_fault_26 (by decide) ?_
  refine sw_iconst (v := 4) dX6_fault_27 (by decide) ?_
  refine sw_iastR dX6_fault_28 rfl (vp_in_nI (n := 1) (by decide) (by decide)) ?_
  refine sw_aload_n dX6_fault_29 rfl ?_
  refine sw_getR (j := 122) dX6_fault_30 fl_X6_43 rfl rfl ?_
  refine sw_iconst (v := 2) dX6_fault_33 (by decide) ?_
  refine sw_iconst (v := 2) dX6_fault_34 (by decide) ?_
  refine sw_iastR dX6_fault_35 rfl (vp_in_nI (n := 2) (by decide) (by decide)) ?_
  refine sw_aload_n dX6_fault_36 rfl ?_
  refine sw_getR (j := 122) dX6_fault_37 fl_X6_43 rfl rfl ?_
  refine sw_iconst (v := 3) dX6_fault_40 (by decide) ?_
  refine sw_iconst (v := 0) dX6_fault_41 (by decide) ?_
  refine sw_iastR dX6_fault_42 rfl (vp_in_nI (n := 3) (by decide) (by decide)) ?_
  refine sw_aload_n dX6_fault_43 rfl ?_
  refine sw_getR (j := 122) dX6_fault_44 fl_X6_43 rfl rfl ?_
  refine sw_iconst (v := 4) dX6_fault_47 (by decide) ?_
  refine sw_iconst (v := 0) dX6_fault_48 (by decide) ?_
  refine sw_iastR dX6_fault_49 rfl (vp_in_nI (n := 4) (by decide) (by decide)) ?_
  refine sw_lv (l_y_fault 201 (y_start σ) 0 0 0 (by omega) ((y_start_T hz).mono (by omega) (by omega)) y_start_R) (And.intro rfl trivial)

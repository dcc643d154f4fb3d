theorem sm_vin_1 {x : Int32} {n : Nat} (h : vp_in x n) : ¬ x < 0 := fun q => h (Or.inl q)
theorem sm_vin_2 {x : Int32} {n : Nat} (h : vp_in x n) (hn : n < 2 ^ 31) : ¬ nI n ≤ x := by
  rw [vp_in_iff] at h
  rw [Int32.le_iff_toInt_le, nI_toInt hn]
  omega
theorem sm_vin_3 {x : Int32} {n : Nat} (h : vp_in x n) : x.toNatClampNeg < n := Nat.not_le.mp fun q => h (Or.inr q)
theorem sm_pF8 {t : Int32} (h : vp_in t 8) : sm_isF (16 + 8 * t.toNatClampNeg) := by
  have := sm_vin_3 h
  exact ⟨by omega, by omega⟩
theorem sm_pF2 {t : Int32} (h : vp_in t 2) : sm_isF (80 + 8 * t.toNatClampNeg) := by
  have := sm_vin_3 h
  exact ⟨by omega, by omega⟩
theorem g_copy_off {σ : sm_St} {k j q : Nat} (h : q < k ∨ k + 8 ≤ q) : g_copy σ k j q = σ q := by
  unfold g_copy
  rw [if_neg (by omega), if_neg (by omega)]
def g_top (n : Nat) (t : Int32) : Int32 := if nI n ≤ t + 1 then 0 else t + 1
def g_pot (n : Nat) (t : Int32) : Int32 := if t ≤ 0 then nI n - 1 else t - 1
theorem g_top_in {n : Nat} {t : Int32} (h : vp_in t n) (h0 : 0 < n) (hn : n < 2 ^ 30) : vp_in (g_top n t) n := by
  obtain ⟨j, hj, rfl⟩ := vp_in_of h (by omega)
  unfold g_top
  rw [nI_1]
  by_cases hq : nI n ≤ nI (j + 1)
  · rw [if_pos hq, ← nI_0]; exact vp_in_nI h0 (by omega)
  · rw [if_neg hq]
    rw [nI_leI (by omega) (by omega)] at hq
    exact vp_in_nI (by omega) (by omega)
theorem g_pot_in {n : Nat} {t : Int32} (h : vp_in t n) (h0 : 0 < n) (hn : n < 2 ^ 30) : vp_in (g_pot n t) n := by
  obtain ⟨j, hj, rfl⟩ := vp_in_of h (by omega)
  unfold g_pot
  by_cases hq : nI j ≤ 0
  · rw [if_pos hq]
    obtain ⟨m, rfl⟩ : ∃ m, n = m + 1 := ⟨n - 1, by omega⟩
    rw [nI_pred]; exact vp_in_nI (by omega) (by omega)
  · rw [if_neg hq]
    rw [← nI_0, nI_leI (by omega) (by omega)] at hq
    obtain ⟨m, rfl⟩ : ∃ m, j = m + 1 := ⟨j - 1, by omega⟩
    rw [nI_pred]; exact vp_in_nI (by omega) (by omega)
def g_push (P b n : Nat) (σ : sm_St) (f : Nat) : sm_St := sm_set (g_copy (sm_set σ P 2 (g_top n (σ P 2))) (b + 8 * (g_top n (σ P 2)).toNatClampNeg) f) P 1 (if nI n < σ P 1 + 1 then nI n else σ P 1 + 1)
def g_pop (P b n : Nat) (σ : sm_St) (f : Nat) : sm_St := sm_set (sm_set (g_copy σ f (b + 8 * (σ P 2).toNatClampNeg)) P 2 (g_pot n (σ P 2))) P 1 (σ P 1 - 1)

set_option maxHeartbeats 4000000 in
theorem c_topField104 {σ : sm_St} {t : Int32} (ht : σ 104 2 = t) (hin : vp_in t 8) : sm_C yX1_topField cX1_topField 1 (some (.object "SmellMoorings$Field")) 0 [.ref 104] σ (some (.ref (16 + 8 * t.toNatClampNeg))) σ := by
  refine sm_C.of (own := RX1) (by decide) rfl (Nat.le_of_ble_eq_true rfl) ?_
  show sm_W RX1 cX1_topField 1 (some (.object "SmellMoorings$Field")) 0 (some (.ref (16 + 8 * t.toNatClampNeg))) σ 0 [(0, .ref 104)] [] σ
  refine sw_aload_n dX1_topField_0 rfl ?_
  refine sw_getI dX1_topField_1 fl_X1_22 rfl rfl ?_
  refine sw_if_lt (tgt := 31) dX1_topField_4 (by decide) (fun h => absurd h (sm_vin_1 (ht ▸ hin))) (fun _ => ?_)
  refine sw_aload_n dX1_topField_7 rfl ?_
  refine sw_getI dX1_topField_8 fl_X1_22 rfl rfl ?_
  refine sw_aload_n dX1_topField_11 rfl ?_
  refine sw_getR (j := 105) dX1_topField_12 fl_X1_15 rfl rfl ?_
  refine sw_alenR (n := 8) (b := 16) dX1_topField_15 rfl (by decide) rfl ?_
  refine sw_icmp_ge (tgt := 31) dX1_topField_16 (by decide) (fun h => absurd h (sm_vin_2 (ht ▸ hin) (by decide))) (fun _ => ?_)
  refine sw_aload_n dX1_topField_19 rfl ?_
  refine sw_getR (j := 105) dX1_topField_20 fl_X1_15 rfl rfl ?_
  refine sw_aload_n dX1_topField_23 rfl ?_
  refine sw_getI dX1_topField_24 fl_X1_22 rfl rfl ?_
  refine sw_aald (n := 8) (b := 16) dX1_topField_27 rfl (by decide) rfl (ht ▸ hin) rfl ?_
  refine sw_goto (tgt := 32) dX1_topField_28 (by decide) ?_
  rw [ht]
  refine sw_aret dX1_topField_32 rfl ?_ ?_
  all_goals (first | with_reducible rfl | (rfl))

set_option maxHeartbeats 4000000 in
theorem c_push104 {σ : sm_St} {f : Nat} (hf : sm_isF f) (hf16 : f < 16) (hin : vp_in (σ 104 2) 8) : sm_C yX1_push cX1_push 3 none 3 [.ref 104, .ref f] σ none (g_push 104 16 8 σ f) := by
  refine sm_C.of (own := RX1) (by decide) rfl (Nat.le_of_ble_eq_true rfl) ?_
  show sm_W RX1 cX1_push 3 none 3 none (g_push 104 16 8 σ f) 0 [(0, .ref 104), (1, .ref f)] [] σ
  refine sw_aload_n dX1_push_0 rfl ?_
  refine sw_aload_n dX1_push_1 rfl ?_
  refine sw_getI dX1_push_2 fl_X1_22 rfl rfl ?_
  refine sw_iconst (v := 1) dX1_push_5 (by decide) ?_
  refine sw_iadd dX1_push_6 ?_
  refine sw_aload_n dX1_push_7 rfl ?_
  refine sw_getR (j := 105) dX1_push_8 fl_X1_15 rfl rfl ?_
  refine sw_alenR (n := 8) (b := 16) dX1_push_11 rfl (by decide) rfl ?_
  refine sw_icmp_ge (tgt := 24) dX1_push_12 (by decide) (fun h12 => ?_) (fun h12 => ?_)
  · refine sw_iconst (v := 0) dX1_push_24 (by decide) ?_
    refine sw_top (y := (g_top 8 (σ 104 2))) (by first | (rw [g_top, if_pos h12]) | (rw [g_top, if_neg h12])) ?_
    refine sw_put dX1_push_25 fl_X1_22 fi_1_2 rfl rfl ?_
    refine sw_aload_n dX1_push_28 rfl ?_
    refine sw_callV dX1_push_29 lV_X1_26 (c_topField104 (t := (g_top 8 (σ 104 2))) sm_set_eq (g_top_in hin (by decide) (by decide))) rfl rfl rfl rfl (Nat.le_of_ble_eq_true rfl) (Nat.le_of_ble_eq_true rfl) ?_
    refine sw_astore_n dX1_push_32 (by decide) rfl ?_
    refine sw_aload_n dX1_push_33 rfl ?_
    refine sw_ifnull dX1_push_34 ?_
    refine sw_aload_n dX1_push_37 rfl ?_
    refine sw_aload_n dX1_push_38 rfl ?_
    refine sw_callV dX1_push_39 lV_X1_30 (c_copyFrom (k := (16 + 8 * (g_top 8 (σ 104 2)).toNatClampNeg)) (j := f) (sm_pF8 (g_top_in hin (by decide) (by decide))) hf (by omega)) (sm_Fo (sm_pF8 (g_top_in hin (by decide) (by decide)))) rfl rfl rfl (Nat.le_of_ble_eq_true rfl) (Nat.le_of_ble_eq_true rfl) ?_
    refine sw_aload_n dX1_push_42 rfl ?_
    refine sw_aload_n dX1_push_43 rfl ?_
    refine sw_getI dX1_push_44 fl_X1_34 rfl rfl ?_
    refine sw_top (y := σ 104 1) (by rw [g_copy_off (by have := (sm_pF8 (g_top_in hin (by decide) (by decide))).1; have := (sm_pF8 (g_top_in hin (by decide) (by decide))).2; right; omega), sm_set_ne (by decide)]) ?_
    refine sw_iconst (v := 1) dX1_push_47 (by decide) ?_
    refine sw_iadd dX1_push_48 ?_
    refine sw_aload_n dX1_push_49 rfl ?_
    refine sw_getR (j := 105) dX1_push_50 fl_X1_15 rfl rfl ?_
    refine sw_alenR (n := 8) (b := 16) dX1_push_53 rfl (by decide) rfl ?_
    refine sw_min dX1_push_54 lJ_X1_37 (Nat.le_of_ble_eq_true rfl) (Nat.le_of_ble_eq_true rfl) ?_
    refine sw_put dX1_push_57 fl_X1_34 fi_1_1 rfl rfl ?_
    refine sw_vret dX1_push_60 rfl rfl ?_
    all_goals (first | with_reducible rfl | (simp only [g_push]))
  · refine sw_aload_n dX1_push_15 rfl ?_
    refine sw_getI dX1_push_16 fl_X1_22 rfl rfl ?_
    refine sw_iconst (v := 1) dX1_push_19 (by decide) ?_
    refine sw_iadd dX1_push_20 ?_
    refine sw_goto (tgt := 25) dX1_push_21 (by decide) ?_
    refine sw_top (y := (g_top 8 (σ 104 2))) (by first | (rw [g_top, if_pos h12]) | (rw [g_top, if_neg h12])) ?_
    refine sw_put dX1_push_25 fl_X1_22 fi_1_2 rfl rfl ?_
    refine sw_aload_n dX1_push_28 rfl ?_
    refine sw_callV dX1_push_29 lV_X1_26 (c_topField104 (t := (g_top 8 (σ 104 2))) sm_set_eq (g_top_in hin (by decide) (by decide))) rfl rfl rfl rfl (Nat.le_of_ble_eq_true rfl) (Nat.le_of_ble_eq_true rfl) ?_
    refine sw_astore_n dX1_push_32 (by decide) rfl ?_
    refine sw_aload_n dX1_push_33 rfl ?_
    refine sw_ifnull dX1_push_34 ?_
    refine sw_aload_n dX1_push_37 rfl ?_
    refine sw_aload_n dX1_push_38 rfl ?_
    refine sw_callV dX1_push_39 lV_X1_30 (c_copyFrom (k := (16 + 8 * (g_top 8 (σ 104 2)).toNatClampNeg)) (j := f) (sm_pF8 (g_top_in hin (by decide) (by decide))) hf (by omega)) (sm_Fo (sm_pF8 (g_top_in hin (by decide) (by decide)))) rfl rfl rfl (Nat.le_of_ble_eq_true rfl) (Nat.le_of_ble_eq_true rfl) ?_
    refine sw_aload_n dX1_push_42 rfl ?_
    refine sw_aload_n dX1_push_43 rfl ?_
    refine sw_getI dX1_push_44 fl_X1_34 rfl rfl ?_
    refine sw_top (y := σ 104 1) (by rw [g_copy_off (by have := (sm_pF8 (g_top_in hin (by decide) (by decide))).1; have := (sm_pF8 (g_top_in hin (by decide) (by decide))).2; right; omega), sm_set_ne (by decide)]) ?_
    refine sw_iconst (v := 1) dX1_push_47 (by decide) ?_
    refine sw_iadd dX1_push_48 ?_
    refine sw_aload_n dX1_push_49 rfl ?_
    refine sw_getR (j := 105) dX1_push_50 fl_X1_15 rfl rfl ?_
    refine sw_alenR (n := 8) (b := 16) dX1_push_53 rfl (by decide) rfl ?_
    refine sw_min dX1_push_54 lJ_X1_37 (Nat.le_of_ble_eq_true rfl) (Nat.le_of_ble_eq_true rfl) ?_
    refine sw_put dX1_push_57 fl_X1_34 fi_1_1 rfl rfl ?_
    refine sw_vret dX1_push_60 rfl rfl ?_
    all_goals (first | with_reducible rfl | (simp only [g_push]))

set_option maxHeartbeats 4000000 in
theorem c_popInto104 {σ : sm_St} {f : Nat} (hf : sm_isF f) (hf16 : f < 16) (hin : vp_in (σ 104 2) 8) : sm_C yX1_popInto cX1_popInto 3 (some .boolean) 3 [.ref 104, .ref f] σ (some (.int (sm_b (¬ σ 104 1 = 0)))) (if σ 104 1 = 0 then σ else g_pop 104 16 8 σ f) := by
  refine sm_C.of (own := RX1) (by decide) rfl (Nat.le_of_ble_eq_true rfl) ?_
  show sm_W RX1 cX1_popInto 3 (some .boolean) 3 (some (.int (sm_b (¬ σ 104 1 = 0)))) (if σ 104 1 = 0 then σ else g_pop 104 16 8 σ f) 0 [(0, .ref 104), (1, .ref f)] [] σ
  refine sw_aload_n dX1_popInto_0 rfl ?_
  refine sw_callV dX1_popInto_1 lV_X1_26 (c_topField104 (t := σ 104 2) rfl hin) rfl rfl rfl rfl (Nat.le_of_ble_eq_true rfl) (Nat.le_of_ble_eq_true rfl) ?_
  refine sw_astore_n dX1_popInto_4 (by decide) rfl ?_
  refine sw_aload_n dX1_popInto_5 rfl ?_
  refine sw_getI dX1_popInto_6 fl_X1_34 rfl rfl ?_
  refine sw_if_eq (tgt := 16) dX1_popInto_9 (by decide) (fun h9 => ?_) (fun h9 => ?_)
  · refine sw_iconst (v := 0) dX1_popInto_16 (by decide) ?_
    refine sw_zret dX1_popInto_17 rfl rfl ?_ (by decide) ?_
    all_goals (first | with_reducible rfl | (simp [sm_b, h9, g_pop]))
  · refine sw_aload_n dX1_popInto_12 rfl ?_
    refine sw_ifnonnull (tgt := 18) dX1_popInto_13 (by decide) ?_
    refine sw_aload_n dX1_popInto_18 rfl ?_
    refine sw_aload_n dX1_popInto_19 rfl ?_
    refine sw_callV dX1_popInto_20 lV_X1_30 (c_copyFrom (k := f) (j := (16 + 8 * (σ 104 2).toNatClampNeg)) hf (sm_pF8 hin) (by omega)) (sm_Fo hf) rfl rfl rfl (Nat.le_of_ble_eq_true rfl) (Nat.le_of_ble_eq_true rfl) ?_
    refine sw_aload_n dX1_popInto_23 rfl ?_
    refine sw_aload_n dX1_popInto_24 rfl ?_
    refine sw_getI dX1_popInto_25 fl_X1_22 rfl rfl ?_
    refine sw_top (y := σ 104 2) (by rw [g_copy_off (by have := hf.1; right; omega)]) ?_
    refine sw_if_le (tgt := 40) dX1_popInto_28 (by decide) (fun h28 => ?_) (fun h28 => ?_)
    · refine sw_aload_n dX1_popInto_40 rfl ?_
      refine sw_getR (j := 105) dX1_popInto_41 fl_X1_15 rfl rfl ?_
      refine sw_alenR (n := 8) (b := 16) dX1_popInto_44 rfl (by decide) rfl ?_
      refine sw_iconst (v := 1) dX1_popInto_45 (by decide) ?_
      refine sw_isub dX1_popInto_46 ?_
      refine sw_top (y := g_pot 8 (σ 104 2)) (by first | (rw [g_pot, if_pos h28]; done) | (rw [g_pot, if_pos h28]; rfl) | (rw [g_pot, if_neg h28])) ?_
      refine sw_put dX1_popInto_47 fl_X1_22 fi_1_2 rfl rfl ?_
      refine sw_aload_n dX1_popInto_50 rfl ?_
      refine sw_dup dX1_popInto_51 rfl ?_
      refine sw_getI dX1_popInto_52 fl_X1_34 rfl rfl ?_
      refine sw_top (y := σ 104 1) (by rw [sm_set_ne (by decide), g_copy_off (by have := hf.1; right; omega)]) ?_
      refine sw_iconst (v := 1) dX1_popInto_55 (by decide) ?_
      refine sw_isub dX1_popInto_56 ?_
      refine sw_put dX1_popInto_57 fl_X1_34 fi_1_1 rfl rfl ?_
      refine sw_iconst (v := 1) dX1_popInto_60 (by decide) ?_
      refine sw_zret dX1_popInto_61 rfl rfl ?_ (by decide) ?_
      all_goals (first | with_reducible rfl | (simp [sm_b, h9, g_pop]))
    · refine sw_aload_n dX1_popInto_31 rfl ?_
      refine sw_getI dX1_popInto_32 fl_X1_22 rfl rfl ?_
      refine sw_top (y := σ 104 2) (by rw [g_copy_off (by have := hf.1; right; omega)]) ?_
      refine sw_iconst (v := 1) dX1_popInto_35 (by decide) ?_
      refine sw_isub dX1_popInto_36 ?_
      refine sw_goto (tgt := 47) dX1_popInto_37 (by decide) ?_
      refine sw_top (y := g_pot 8 (σ 104 2)) (by first | (rw [g_pot, if_pos h28]; done) | (rw [g_pot, if_pos h28]; rfl) | (rw [g_pot, if_neg h28])) ?_
      refine sw_put dX1_popInto_47 fl_X1_22 fi_1_2 rfl rfl ?_
      refine sw_aload_n dX1_popInto_50 rfl ?_
      refine sw_dup dX1_popInto_51 rfl ?_
      refine sw_getI dX1_popInto_52 fl_X1_34 rfl rfl ?_
      refine sw_top (y := σ 104 1) (by rw [sm_set_ne (by decide), g_copy_off (by have := hf.1; right; omega)]) ?_
      refine sw_iconst (v := 1) dX1_popInto_55 (by decide) ?_
      refine sw_isub dX1_popInto_56 ?_
      refine sw_put dX1_popInto_57 fl_X1_34 fi_1_1 rfl rfl ?_
      refine sw_iconst (v := 1) dX1_popInto_60 (by decide) ?_
      refine sw_zret dX1_popInto_61 rfl rfl ?_ (by decide) ?_
      all_goals (first | with_reducible rfl | (simp [sm_b, h9, g_pop]))

set_option maxHeartbeats 4000000 in
theorem c_topField106 {σ : sm_St} {t : Int32} (ht : σ 106 2 = t) (hin : vp_in t 2) : sm_C yX1_topField cX1_topField 1 (some (.object "SmellMoorings$Field")) 0 [.ref 106] σ (some (.ref (80 + 8 * t.toNatClampNeg))) σ := by
  refine sm_C.of (own := RX1) (by decide) rfl (Nat.le_of_ble_eq_true rfl) ?_
  show sm_W RX1 cX1_topField 1 (some (.object "SmellMoorings$Field")) 0 (some (.ref (80 + 8 * t.toNatClampNeg))) σ 0 [(0, .ref 106)] [] σ
  refine sw_aload_n dX1_topField_0 rfl ?_
  refine sw_getI dX1_topField_1 fl_X1_22 rfl rfl ?_
  refine sw_if_lt (tgt := 31) dX1_topField_4 (by decide) (fun h => absurd h (sm_vin_1 (ht ▸ hin))) (fun _ => ?_)
  refine sw_aload_n dX1_topField_7 rfl ?_
  refine sw_getI dX1_topField_8 fl_X1_22 rfl rfl ?_
  refine sw_aload_n dX1_topField_11 rfl ?_
  refine sw_getR (j := 107) dX1_topField_12 fl_X1_15 rfl rfl ?_
  refine sw_alenR (n := 2) (b := 80) dX1_topField_15 rfl (by decide) rfl ?_
  refine sw_icmp_ge (tgt := 31) dX1_topField_16 (by decide) (fun h => absurd h (sm_vin_2 (ht ▸ hin) (by decide))) (fun _ => ?_)
  refine sw_aload_n dX1_topField_19 rfl ?_
  refine sw_getR (j := 107) dX1_topField_20 fl_X1_15 rfl rfl ?_
  refine sw_aload_n dX1_topField_23 rfl ?_
  refine sw_getI dX1_topField_24 fl_X1_22 rfl rfl ?_
  refine sw_aald (n := 2) (b := 80) dX1_topField_27 rfl (by decide) rfl (ht ▸ hin) rfl ?_
  refine sw_goto (tgt := 32) dX1_topField_28 (by decide) ?_
  rw [ht]
  refine sw_aret dX1_topField_32 rfl ?_ ?_
  all_goals (first | with_reducible rfl | (rfl))

set_option maxHeartbeats 4000000 in
theorem c_push106 {σ : sm_St} {f : Nat} (hf : sm_isF f) (hf16 : f < 16) (hin : vp_in (σ 106 2) 2) : sm_C yX1_push cX1_push 3 none 3 [.ref 106, .ref f] σ none (g_push 106 80 2 σ f) := by
  refine sm_C.of (own := RX1) (by decide) rfl (Nat.le_of_ble_eq_true rfl) ?_
  show sm_W RX1 cX1_push 3 none 3 none (g_push 106 80 2 σ f) 0 [(0, .ref 106), (1, .ref f)] [] σ
  refine sw_aload_n dX1_push_0 rfl ?_
  refine sw_aload_n dX1_push_1 rfl ?_
  refine sw_getI dX1_push_2 fl_X1_22 rfl rfl ?_
  refine sw_iconst (v := 1) dX1_push_5 (by decide) ?_
  refine sw_iadd dX1_push_6 ?_
  refine sw_aload_n dX1_push_7 rfl ?_
  refine sw_getR (j := 107) dX1_push_8 fl_X1_15 rfl rfl ?_
  refine sw_alenR (n := 2) (b := 80) dX1_push_11 rfl (by decide) rfl ?_
  refine sw_icmp_ge (tgt := 24) dX1_push_12 (by decide) (fun h12 => ?_) (fun h12 => ?_)
  · refine sw_iconst (v := 0) dX1_push_24 (by decide) ?_
    refine sw_top (y := (g_top 2 (σ 106 2))) (by first | (rw [g_top, if_pos h12]) | (rw [g_top, if_neg h12])) ?_
    refine sw_put dX1_push_25 fl_X1_22 fi_1_2 rfl rfl ?_
    refine sw_aload_n dX1_push_28 rfl ?_
    refine sw_callV dX1_push_29 lV_X1_26 (c_topField106 (t := (g_top 2 (σ 106 2))) sm_set_eq (g_top_in hin (by decide) (by decide))) rfl rfl rfl rfl (Nat.le_of_ble_eq_true rfl) (Nat.le_of_ble_eq_true rfl) ?_
    refine sw_astore_n dX1_push_32 (by decide) rfl ?_
    refine sw_aload_n dX1_push_33 rfl ?_
    refine sw_ifnull dX1_push_34 ?_
    refine sw_aload_n dX1_push_37 rfl ?_
    refine sw_aload_n dX1_push_38 rfl ?_
    refine sw_callV dX1_push_39 lV_X1_30 (c_copyFrom (k := (80 + 8 * (g_top 2 (σ 106 2)).toNatClampNeg)) (j := f) (sm_pF2 (g_top_in hin (by decide) (by decide))) hf (by omega)) (sm_Fo (sm_pF2 (g_top_in hin (by decide) (by decide)))) rfl rfl rfl (Nat.le_of_ble_eq_true rfl) (Nat.le_of_ble_eq_true rfl) ?_
    refine sw_aload_n dX1_push_42 rfl ?_
    refine sw_aload_n dX1_push_43 rfl ?_
    refine sw_getI dX1_push_44 fl_X1_34 rfl rfl ?_
    refine sw_top (y := σ 106 1) (by rw [g_copy_off (by have := (sm_pF2 (g_top_in hin (by decide) (by decide))).1; have := (sm_pF2 (g_top_in hin (by decide) (by decide))).2; right; omega), sm_set_ne (by decide)]) ?_
    refine sw_iconst (v := 1) dX1_push_47 (by decide) ?_
    refine sw_iadd dX1_push_48 ?_
    refine sw_aload_n dX1_push_49 rfl ?_
    refine sw_getR (j := 107) dX1_push_50 fl_X1_15 rfl rfl ?_
    refine sw_alenR (n := 2) (b := 80) dX1_push_53 rfl (by decide) rfl ?_
    refine sw_min dX1_push_54 lJ_X1_37 (Nat.le_of_ble_eq_true rfl) (Nat.le_of_ble_eq_true rfl) ?_
    refine sw_put dX1_push_57 fl_X1_34 fi_1_1 rfl rfl ?_
    refine sw_vret dX1_push_60 rfl rfl ?_
    all_goals (first | with_reducible rfl | (simp only [g_push]))
  · refine sw_aload_n dX1_push_15 rfl ?_
    refine sw_getI dX1_push_16 fl_X1_22 rfl rfl ?_
    refine sw_iconst (v := 1) dX1_push_19 (by decide) ?_
    refine sw_iadd dX1_push_20 ?_
    refine sw_goto (tgt := 25) dX1_push_21 (by decide) ?_
    refine sw_top (y := (g_top 2 (σ 106 2))) (by first | (rw [g_top, if_pos h12]) | (rw [g_top, if_neg h12])) ?_
    refine sw_put dX1_push_25 fl_X1_22 fi_1_2 rfl rfl ?_
    refine sw_aload_n dX1_push_28 rfl ?_
    refine sw_callV dX1_push_29 lV_X1_26 (c_topField106 (t := (g_top 2 (σ 106 2))) sm_set_eq (g_top_in hin (by decide) (by decide))) rfl rfl rfl rfl (Nat.le_of_ble_eq_true rfl) (Nat.le_of_ble_eq_true rfl) ?_
    refine sw_astore_n dX1_push_32 (by decide) rfl ?_
    refine sw_aload_n dX1_push_33 rfl ?_
    refine sw_ifnull dX1_push_34 ?_
    refine sw_aload_n dX1_push_37 rfl ?_
    refine sw_aload_n dX1_push_38 rfl ?_
    refine sw_callV dX1_push_39 lV_X1_30 (c_copyFrom (k := (80 + 8 * (g_top 2 (σ 106 2)).toNatClampNeg)) (j := f) (sm_pF2 (g_top_in hin (by decide) (by decide))) hf (by omega)) (sm_Fo (sm_pF2 (g_top_in hin (by decide) (by decide)))) rfl rfl rfl (Nat.le_of_ble_eq_true rfl) (Nat.le_of_ble_eq_true rfl) ?_
    refine sw_aload_n dX1_push_42 rfl ?_
    refine sw_aload_n dX1_push_43 rfl ?_
    refine sw_getI dX1_push_44 fl_X1_34 rfl rfl ?_
    refine sw_top (y := σ 106 1) (by rw [g_copy_off (by have := (sm_pF2 (g_top_in hin (by decide) (by decide))).1; have := (sm_pF2 (g_top_in hin (by decide) (by decide))).2; right; omega), sm_set_ne (by decide)]) ?_
    refine sw_iconst (v := 1) dX1_push_47 (by decide) ?_
    refine sw_iadd dX1_push_48 ?_
    refine sw_aload_n dX1_push_49 rfl ?_
    refine sw_getR (j := 107) dX1_push_50 fl_X1_15 rfl rfl ?_
    refine sw_alenR (n := 2) (b := 80) dX1_push_53 rfl (by decide) rfl ?_
    refine sw_min dX1_push_54 lJ_X1_37 (Nat.le_of_ble_eq_true rfl) (Nat.le_of_ble_eq_true rfl) ?_
    refine sw_put dX1_push_57 fl_X1_34 fi_1_1 rfl rfl ?_
    refine sw_vret dX1_push_60 rfl rfl ?_
    all_goals (first | with_reducible rfl | (simp only [g_push]))

set_option maxHeartbeats 4000000 in
theorem c_popInto106 {σ : sm_St} {f : Nat} (hf : sm_isF f) (hf16 : f < 16) (hin : vp_in (σ 106 2) 2) : sm_C yX1_popInto cX1_popInto 3 (some .boolean) 3 [.ref 106, .ref f] σ (some (.int (sm_b (¬ σ 106 1 = 0)))) (if σ 106 1 = 0 then σ else g_pop 106 80 2 σ f) := by
  refine sm_C.of (own := RX1) (by decide) rfl (Nat.le_of_ble_eq_true rfl) ?_
  show sm_W RX1 cX1_popInto 3 (some .boolean) 3 (some (.int (sm_b (¬ σ 106 1 = 0)))) (if σ 106 1 = 0 then σ else g_pop 106 80 2 σ f) 0 [(0, .ref 106), (1, .ref f)] [] σ
  refine sw_aload_n dX1_popInto_0 rfl ?_
  refine sw_callV dX1_popInto_1 lV_X1_26 (c_topField106 (t := σ 106 2) rfl hin) rfl rfl rfl rfl (Nat.le_of_ble_eq_true rfl) (Nat.le_of_ble_eq_true rfl) ?_
  refine sw_astore_n dX1_popInto_4 (by decide) rfl ?_
  refine sw_aload_n dX1_popInto_5 rfl ?_
  refine sw_getI dX1_popInto_6 fl_X1_34 rfl rfl ?_
  refine sw_if_eq (tgt := 16) dX1_popInto_9 (by decide) (fun h9 => ?_) (fun h9 => ?_)
  · refine sw_iconst (v := 0) dX1_popInto_16 (by decide) ?_
    refine sw_zret dX1_popInto_17 rfl rfl ?_ (by decide) ?_
    all_goals (first | with_reducible rfl | (simp [sm_b, h9, g_pop]))
  · refine sw_aload_n dX1_popInto_12 rfl ?_
    refine sw_ifnonnull (tgt := 18) dX1_popInto_13 (by decide) ?_
    refine sw_aload_n dX1_popInto_18 rfl ?_
    refine sw_aload_n dX1_popInto_19 rfl ?_
    refine sw_callV dX1_popInto_20 lV_X1_30 (c_copyFrom (k := f) (j := (80 + 8 * (σ 106 2).toNatClampNeg)) hf (sm_pF2 hin) (by omega)) (sm_Fo hf) rfl rfl rfl (Nat.le_of_ble_eq_true rfl) (Nat.le_of_ble_eq_true rfl) ?_
    refine sw_aload_n dX1_popInto_23 rfl ?_
    refine sw_aload_n dX1_popInto_24 rfl ?_
    refine sw_getI dX1_popInto_25 fl_X1_22 rfl rfl ?_
    refine sw_top (y := σ 106 2) (by rw [g_copy_off (by have := hf.1; right; omega)]) ?_
    refine sw_if_le (tgt := 40) dX1_popInto_28 (by decide) (fun h28 => ?_) (fun h28 => ?_)
    · refine sw_aload_n dX1_popInto_40 rfl ?_
      refine sw_getR (j := 107) dX1_popInto_41 fl_X1_15 rfl rfl ?_
      refine sw_alenR (n := 2) (b := 80) dX1_popInto_44 rfl (by decide) rfl ?_
      refine sw_iconst (v := 1) dX1_popInto_45 (by decide) ?_
      refine sw_isub dX1_popInto_46 ?_
      refine sw_top (y := g_pot 2 (σ 106 2)) (by first | (rw [g_pot, if_pos h28]; done) | (rw [g_pot, if_pos h28]; rfl) | (rw [g_pot, if_neg h28])) ?_
      refine sw_put dX1_popInto_47 fl_X1_22 fi_1_2 rfl rfl ?_
      refine sw_aload_n dX1_popInto_50 rfl ?_
      refine sw_dup dX1_popInto_51 rfl ?_
      refine sw_getI dX1_popInto_52 fl_X1_34 rfl rfl ?_
      refine sw_top (y := σ 106 1) (by rw [sm_set_ne (by decide), g_copy_off (by have := hf.1; right; omega)]) ?_
      refine sw_iconst (v := 1) dX1_popInto_55 (by decide) ?_
      refine sw_isub dX1_popInto_56 ?_
      refine sw_put dX1_popInto_57 fl_X1_34 fi_1_1 rfl rfl ?_
      refine sw_iconst (v := 1) dX1_popInto_60 (by decide) ?_
      refine sw_zret dX1_popInto_61 rfl rfl ?_ (by decide) ?_
      all_goals (first | with_reducible rfl | (simp [sm_b, h9, g_pop]))
    · refine sw_aload_n dX1_popInto_31 rfl ?_
      refine sw_getI dX1_popInto_32 fl_X1_22 rfl rfl ?_
      refine sw_top (y := σ 106 2) (by rw [g_copy_off (by have := hf.1; right; omega)]) ?_
      refine sw_iconst (v := 1) dX1_popInto_35 (by decide) ?_
      refine sw_isub dX1_popInto_36 ?_
      refine sw_goto (tgt := 47) dX1_popInto_37 (by decide) ?_
      refine sw_top (y := g_pot 2 (σ 106 2)) (by first | (rw [g_pot, if_pos h28]; done) | (rw [g_pot, if_pos h28]; rfl) | (rw [g_pot, if_neg h28])) ?_
      refine sw_put dX1_popInto_47 fl_X1_22 fi_1_2 rfl rfl ?_
      refine sw_aload_n dX1_popInto_50 rfl ?_
      refine sw_dup dX1_popInto_51 rfl ?_
      refine sw_getI dX1_popInto_52 fl_X1_34 rfl rfl ?_
      refine sw_top (y := σ 106 1) (by rw [sm_set_ne (by decide), g_copy_off (by have := hf.1; right; omega)]) ?_
      refine sw_iconst (v := 1) dX1_popInto_55 (by decide) ?_
      refine sw_isub dX1_popInto_56 ?_
      refine sw_put dX1_popInto_57 fl_X1_34 fi_1_1 rfl rfl ?_
      refine sw_iconst (v := 1) dX1_popInto_60 (by decide) ?_
      refine sw_zret dX1_popInto_61 rfl rfl ?_ (by decide) ?_
      all_goals (first | with_reducible rfl | (simp [sm_b, h9, g_pop]))

def g_seen (σ : sm_St) (x y d : Int32) : sm_St := sm_set (r_set (r_set (r_set σ 101 6 (σ 100 3) x) 102 6 (σ 100 3) y) 103 6 (σ 100 3) d) 100 3 (σ 100 3 + 1)
/-- whether all that is seen from the i-th on would be so for the Field k -/
def g_so (k : Nat) : Nat → Nat → sm_St → Int32 × sm_St
  | 0, _, σ => (1, σ)
  | n + 1, i, σ => if f_goes (sm_V (sm_set (sm_set σ k 0 (r_at (σ 101) 6 (nI i))) k 1 (r_at (σ 102) 6 (nI i))) k) = r_at (σ 103) 6 (nI i) then g_so k n (i + 1) (g_goes (sm_set (sm_set σ k 0 (r_at (σ 101) 6 (nI i))) k 1 (r_at (σ 102) 6 (nI i))) k)
      else (0, g_goes (sm_set (sm_set σ k 0 (r_at (σ 101) 6 (nI i))) k 1 (r_at (σ 102) 6 (nI i))) k)
theorem g_goes_off {σ : sm_St} {k q : Nat} (h : q ≠ k) : g_goes σ k q = σ q := by unfold g_goes; rw [sm_set_off h, sm_set_off h]

set_option maxHeartbeats 4000000 in
theorem c_addSighting {σ : sm_St} (x y d : Int32) : sm_C yX3_addSighting cX3_addSighting 4 (some .boolean) 2 [.ref 100, .int x, .int y, .int d] σ (some (.int (sm_b (σ 100 3 < 6)))) (if σ 100 3 < 6 then g_seen σ x y d else σ) := by
  refine sm_C.of (own := RX3) (by decide) rfl (Nat.le_of_ble_eq_true rfl) ?_
  show sm_W RX3 cX3_addSighting 4 (some .boolean) 2 (some (.int (sm_b (σ 100 3 < 6)))) (if σ 100 3 < 6 then g_seen σ x y d else σ) 0 [(0, .ref 100), (1, .int x), (2, .int y), (3, .int d)] [] σ
  refine sw_aload_n dX3_addSighting_0 rfl ?_
  refine sw_getI dX3_addSighting_1 fl_X3_21 rfl rfl ?_
  refine sw_bipush (v := 6) dX3_addSighting_4 (by decide) ?_
  refine sw_icmp_lt (tgt := 11) dX3_addSighting_6 (by decide) (fun h6 => ?_) (fun h6 => ?_)
  · refine sw_aload_n dX3_addSighting_11 rfl ?_
    refine sw_getR (j := 101) dX3_addSighting_12 fl_X3_9 rfl rfl ?_
    refine sw_aload_n dX3_addSighting_15 rfl ?_
    refine sw_getI dX3_addSighting_16 fl_X3_21 rfl rfl ?_
    refine sw_iload_n dX3_addSighting_19 rfl ?_
    refine sw_callS dX3_addSighting_20 lS_X3_25 (c_set (k := 101) rfl _ _) rfl rfl (Nat.le_of_ble_eq_true rfl) (Nat.le_of_ble_eq_true rfl) ?_
    refine sw_aload_n dX3_addSighting_23 rfl ?_
    refine sw_getR (j := 102) dX3_addSighting_24 fl_X3_15 rfl rfl ?_
    refine sw_aload_n dX3_addSighting_27 rfl ?_
    refine sw_getI dX3_addSighting_28 fl_X3_21 rfl rfl ?_
    refine sw_iload_n dX3_addSighting_31 rfl ?_
    refine sw_callS dX3_addSighting_32 lS_X3_25 (c_set (k := 102) rfl _ _) rfl rfl (Nat.le_of_ble_eq_true rfl) (Nat.le_of_ble_eq_true rfl) ?_
    refine sw_aload_n dX3_addSighting_35 rfl ?_
    refine sw_getR (j := 103) dX3_addSighting_36 fl_X3_18 rfl rfl ?_
    refine sw_aload_n dX3_addSighting_39 rfl ?_
    refine sw_getI dX3_addSighting_40 fl_X3_21 rfl rfl ?_
    refine sw_iload_n dX3_addSighting_43 rfl ?_
    refine sw_callS dX3_addSighting_44 lS_X3_25 (c_set (k := 103) rfl _ _) rfl rfl (Nat.le_of_ble_eq_true rfl) (Nat.le_of_ble_eq_true rfl) ?_
    refine sw_aload_n dX3_addSighting_47 rfl ?_
    refine sw_dup dX3_addSighting_48 rfl ?_
    refine sw_getI dX3_addSighting_49 fl_X3_21 rfl rfl ?_
    refine sw_iconst (v := 1) dX3_addSighting_52 (by decide) ?_
    refine sw_iadd dX3_addSighting_53 ?_
    refine sw_put dX3_addSighting_54 fl_X3_21 fi_2_3 rfl rfl ?_
    refine sw_iconst (v := 1) dX3_addSighting_57 (by decide) ?_
    refine sw_zret dX3_addSighting_58 rfl rfl ?_ (by decide) ?_
    all_goals (first | with_reducible rfl | (simp [sm_b, h6, g_seen, r_set_off]))
  · refine sw_iconst (v := 0) dX3_addSighting_9 (by decide) ?_
    refine sw_zret dX3_addSighting_10 rfl rfl ?_ (by decide) ?_
    all_goals (first | with_reducible rfl | (simp [sm_b, h6, g_seen, r_set_off]))

set_option maxHeartbeats 4000000 in
theorem l_areSoIn {k : Nat} (hk : sm_isF k) : ∀ (n i : Nat) (τ : sm_St), i + n = (τ 100 3).toNatClampNeg → sm_W RX3 cX3_areSoIn 3 (some .boolean) 5 (some (.int (g_so k n i τ).1)) (g_so k n i τ).2 2 [(0, .ref 100), (1, .ref k), (2, .int (nI i))] [] τ := by
  have hk1 := hk.1
  intro n
  induction n with
  | zero =>
    intro i τ h1
    refine sw_iload_n dX3_areSoIn_2 rfl ?_
    refine sw_aload_n dX3_areSoIn_3 rfl ?_
    refine sw_getI dX3_areSoIn_4 fl_X3_21 rfl rfl ?_
    refine sw_icmp_ge (tgt := 53) dX3_areSoIn_7 (by decide) (fun _ => ?_) (fun h => absurd ((sm_le_clamp (by have := sm_clamp_lt (τ 100 3); omega)).mpr (by omega)) h)
    refine sw_iconst (v := 1) dX3_areSoIn_53 (by decide) ?_
    refine sw_zret dX3_areSoIn_54 rfl rfl ?_ (by decide) ?_
    all_goals (first | with_reducible rfl | (rfl))
  | succ n ih =>
    intro i τ h1
    refine sw_iload_n dX3_areSoIn_2 rfl ?_
    refine sw_aload_n dX3_areSoIn_3 rfl ?_
    refine sw_getI dX3_areSoIn_4 fl_X3_21 rfl rfl ?_
    refine sw_icmp_ge (tgt := 53) dX3_areSoIn_7 (by decide) (fun h => absurd h ((fun h => absurd ((sm_le_clamp (by have := sm_clamp_lt (τ 100 3); omega)).mp h) (by omega)))) (fun _ => ?_)
    refine sw_aload_n dX3_areSoIn_10 rfl ?_
    refine sw_aload_n dX3_areSoIn_11 rfl ?_
    refine sw_getR (j := 101) dX3_areSoIn_12 fl_X3_9 rfl rfl ?_
    refine sw_iload_n dX3_areSoIn_15 rfl ?_
    refine sw_callS dX3_areSoIn_16 lS_X3_31 (c_at (k := 101) rfl _) rfl rfl (Nat.le_of_ble_eq_true rfl) (Nat.le_of_ble_eq_true rfl) ?_
    refine sw_aload_n dX3_areSoIn_19 rfl ?_
    refine sw_getR (j := 102) dX3_areSoIn_20 fl_X3_15 rfl rfl ?_
    refine sw_iload_n dX3_areSoIn_23 rfl ?_
    refine sw_callS dX3_areSoIn_24 lS_X3_31 (c_at (k := 102) rfl _) rfl rfl (Nat.le_of_ble_eq_true rfl) (Nat.le_of_ble_eq_true rfl) ?_
    refine sw_callV dX3_areSoIn_27 lV_X3_35 (c_moveShip (k := k) hk _ _) (sm_Fo hk) rfl rfl rfl (Nat.le_of_ble_eq_true rfl) (Nat.le_of_ble_eq_true rfl) ?_
    refine sw_aload_n dX3_areSoIn_30 rfl ?_
    refine sw_callV dX3_areSoIn_31 lV_X3_41 (c_goesTo (k := k) hk) (sm_Fo hk) rfl rfl rfl (Nat.le_of_ble_eq_true rfl) (Nat.le_of_ble_eq_true rfl) ?_
    refine sw_aload_n dX3_areSoIn_34 rfl ?_
    refine sw_getR (j := 103) dX3_areSoIn_35 fl_X3_18 rfl rfl ?_
    refine sw_iload_n dX3_areSoIn_38 rfl ?_
    refine sw_callS dX3_areSoIn_39 lS_X3_31 (c_at (k := 103) rfl _) rfl rfl (Nat.le_of_ble_eq_true rfl) (Nat.le_of_ble_eq_true rfl) ?_
    refine sw_top (y := r_at (τ 103) 6 (nI i)) (by rw [g_goes_off (by omega), sm_set_off (by omega), sm_set_off (by omega)]) ?_
    refine sw_icmp_eq (tgt := 47) dX3_areSoIn_42 (by decide) (fun h42 => ?_) (fun h42 => ?_)
    · refine sw_iinc dX3_areSoIn_47 rfl rfl (by decide) rfl ?_
      refine sw_goto (tgt := 2) dX3_areSoIn_50 (by decide) ?_
      have e : g_so k (n + 1) i τ = g_so k n (i + 1) (g_goes (sm_set (sm_set τ k 0 (r_at (τ 101) 6 (nI i))) k 1 (r_at (τ 102) 6 (nI i))) k) := by rw [g_so, if_pos h42]
      rw [e]
      refine sw_lv (ih (i + 1) _ (by rw [g_goes_off (by omega), sm_set_off (by omega), sm_set_off (by omega)]; omega)) (And.intro rfl (And.intro rfl (And.intro (sm_e rfl ?_) trivial)))
      all_goals (rw [sm_i1, nI_succ])
    · refine sw_iconst (v := 0) dX3_areSoIn_45 (by decide) ?_
      refine sw_zret dX3_areSoIn_46 rfl rfl ?_ (by decide) ?_
      all_goals (first | with_reducible rfl | (rw [g_so, if_neg h42]))

set_option maxHeartbeats 4000000 in
theorem c_areSoIn {σ : sm_St} {k : Nat} (hk : sm_isF k) : sm_C yX3_areSoIn cX3_areSoIn 3 (some .boolean) 5 [.ref 100, .ref k] σ (some (.int (g_so k (σ 100 3).toNatClampNeg 0 σ).1)) (g_so k (σ 100 3).toNatClampNeg 0 σ).2 := by
  refine sm_C.of (own := RX3) (by decide) rfl (Nat.le_of_ble_eq_true rfl) ?_
  show sm_W RX3 cX3_areSoIn 3 (some .boolean) 5 (some (.int (g_so k (σ 100 3).toNatClampNeg 0 σ).1)) (g_so k (σ 100 3).toNatClampNeg 0 σ).2 0 [(0, .ref 100), (1, .ref k)] [] σ
  refine sw_iconst (v := 0) dX3_areSoIn_0 (by decide) ?_
  refine sw_istore_n dX3_areSoIn_1 (by decide) rfl ?_
  refine sw_lv (l_areSoIn hk _ 0 σ (by omega)) (And.intro rfl (And.intro rfl (And.intro rfl trivial)))

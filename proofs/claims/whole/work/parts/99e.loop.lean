/-! the law: its loop -/
theorem lw_L : ∀ n, n < 300 → (nI n - 4).toInt = (n : Int) - 4 := by decide +kernel
theorem lw_gt {L i : Nat} (hL : L ≤ 256) (hi : i < 300) : (nI L - 4 < nI i) ↔ L < i + 4 := by
  rw [Int32.lt_iff_toInt_lt, lw_L L (by omega), nI_toInt (by omega)]
  omega
set_option maxHeartbeats 8000000 in
set_option maxRecDepth 100000 in
theorem law_loop {p : Program} {l : Launch} {e : Env} {s : State} {m : MethodId} {below : List Frame} {meth : Method} {c : Code} {D : va_G} {b L : Nat} {xs : Nat → Int32} {cI cF : ClassId} {ρ : Nat → Nat} {cells slots : Nat} (hL : L ≤ 256) (C0 : lw_At p s m meth c b L xs) (hK : va_K D vc6 (sm_ty cI cF) s) (hG : sm_G ρ (lw_A s) s s.heap) (hcs : cells ≤ 600000 ∧ slots ≤ 7302250) :
    ∀ (n i : Nat) (σ : sm_St) (H : Heap) (locs : List Loc) (ls : Array Slot), i ≤ L + 4 → L ≤ i + 4 * n + 3 → w_Al σ → va_P D vc6 (sm_ws ρ cI cF σ) H → va_D (lw_A s) (sm_ws ρ cI cF σ) → va_S (lw_A s) s.heap H locs → lv_has ls 4 [(0, .ref b), (1, .ref (ρ 96)), (2, .ref (ρ 110)), (3, .int (nI i))] → W p l e room_1 s m #[Value.ref b] below meth c H locs cells slots (lw_Z below #[Value.ref b] s) (F0 m 18 ls []) := by
  obtain ⟨hx, hb, hr, hml, hown, hts, hX, hbl, hlocks, hgv⟩ := id C0
  have hbA : ¬ lw_A s b := Nat.not_le.mpr hbl
  intro n
  induction n with
  | zero =>
    intro i σ H locs ls hi hn hJ hP hD hS hl
    refine lv_iload_n hx hb dL_law_18 rfl (lv_at hl 3 rfl) ?_
    refine lv_aload_n hx hb dL_law_19 rfl (lv_at hl 0 rfl) ?_
    refine va_slen hx hb hX hbl hbA hS dL_law_20 ?_
    refine lv_iconst (v := 4) hx hb dL_law_21 (by decide) ?_
    refine lv_isub hx hb dL_law_22 ?_
    refine lv_icmp_gt (tgt := 897) hx hb dL_law_23 (by decide) (fun _ => ?_) (fun h => absurd ((lw_gt hL (by omega)).mpr (by omega)) h)
    refine lv_iconst (v := 1) hx hb dL_law_897 (by decide) ?_
    refine va_forget (fun q hq => hS.2.2 q hq) ?_
    refine W.widen (k := 600000) (n := 7302250) hcs.1 hcs.2 ?_
    exact lw_ret hx hb hr hlocks dL_law_898
  | succ n ih =>
    intro i σ H locs ls hi hn hJ hP hD hS hl
    refine lv_iload_n hx hb dL_law_18 rfl (lv_at hl 3 rfl) ?_
    refine lv_aload_n hx hb dL_law_19 rfl (lv_at hl 0 rfl) ?_
    refine va_slen hx hb hX hbl hbA hS dL_law_20 ?_
    refine lv_iconst (v := 4) hx hb dL_law_21 (by decide) ?_
    refine lv_isub hx hb dL_law_22 ?_
    refine lv_icmp_gt (tgt := 897) hx hb dL_law_23 (by decide) (fun _ => ?_) (fun h => ?_)
    · refine lv_iconst (v := 1) hx hb dL_law_897 (by decide) ?_
      refine va_forget (fun q hq => hS.2.2 q hq) ?_
      refine W.widen (k := 600000) (n := 7302250) hcs.1 hcs.2 ?_
      exact lw_ret hx hb hr hlocks dL_law_898
    · have hi4 : i + 4 ≤ L := by
        rcases Nat.lt_or_ge L (i + 4) with q | q
        · exact absurd ((lw_gt hL (by omega)).mpr q) h
        · exact q
      have kk : ∀ (σ2 : sm_St) (H2 : Heap) (locs2 : List Loc), w_Al σ2 → va_P D vc6 (sm_ws ρ cI cF σ2) H2 → va_D (lw_A s) (sm_ws ρ cI cF σ2) → va_S (lw_A s) s.heap H2 locs2 → W p l e room_1 s m #[Value.ref b] below meth c H2 locs2 cells slots (lw_Z below #[Value.ref b] s) (F0 m 891 ls []) := fun σ2 H2 locs2 hJ2 hP2 hD2 hS2 => by
        refine lv_iinc (v := nI (i + 4)) (lv' := [(3, .int (nI (i + 4))), (0, .ref b), (1, .ref (ρ 96)), (2, .ref (ρ 110))]) hx hb dL_law_891 hl (k := 3) rfl (show nI i + nI 4 = nI (i + 4) from nI_add i 4) (by decide) rfl (fun ls hl => ?_)
        refine lv_goto (tgt := 18) hx hb dL_law_894 (by decide) ?_
        exact ih (i + 4) σ2 H2 locs2 ls (by omega) (by omega) hJ2 hP2 hD2 hS2 (lv_sub hl [1, 2, 3, 0] rfl)
      refine lv_aload_n hx hb dL_law_26 rfl (lv_at hl 0 rfl) ?_
      refine lv_iload_n hx hb dL_law_27 rfl (lv_at hl 3 rfl) ?_
      refine va_sld hx hb hX hbl hbA hS (vp_in_nI (by omega) (by omega)) dL_law_28 ?_
      refine lv_bipush (v := 31) hx hb dL_law_29 (by decide) ?_
      refine lv_iand hx hb dL_law_31 ?_
      generalize xs (nI i).toNatClampNeg &&& 31 = X
      by_cases hw : sm_win X 0 28 = true
      · obtain ⟨j, hj, rfl⟩ := sm_win_nI (m := 28) rfl (by decide) hw
        rcases (show j = 0 ∨ j = 1 ∨ j = 2 ∨ j = 3 ∨ j = 4 ∨ j = 5 ∨ j = 6 ∨ j = 7 ∨ j = 8 ∨ j = 9 ∨ j = 10 ∨ j = 11 ∨ j = 12 ∨ j = 13 ∨ j = 14 ∨ j = 15 ∨ j = 16 ∨ j = 17 ∨ j = 18 ∨ j = 19 ∨ j = 20 ∨ j = 21 ∨ j = 22 ∨ j = 23 ∨ j = 24 ∨ j = 25 ∨ j = 26 ∨ j = 27 ∨ j = 28 by omega) with rfl | rfl | rfl | rfl | rfl | rfl | rfl | rfl | rfl | rfl | rfl | rfl | rfl | rfl | rfl | rfl | rfl | rfl | rfl | rfl | rfl | rfl | rfl | rfl | rfl | rfl | rfl | rfl | rfl
        · exact lv_tableIn hx hb dL_law_32 (by decide) (by decide) (show _ = some (132) from rfl) (by decide) (law_t0 hL C0 hK hG hcs hi4 hJ hP hD hS hl kk)
        · exact lv_tableIn hx hb dL_law_32 (by decide) (by decide) (show _ = some (155) from rfl) (by decide) (law_t1 hL C0 hK hG hcs hi4 hJ hP hD hS hl kk)
        · exact lv_tableIn hx hb dL_law_32 (by decide) (by decide) (show _ = some (168) from rfl) (by decide) (law_t2 hL C0 hK hG hcs hi4 hJ hP hD hS hl kk)
        · exact lv_tableIn hx hb dL_law_32 (by decide) (by decide) (show _ = some (181) from rfl) (by decide) (law_t3 hL C0 hK hG hcs hi4 hJ hP hD hS hl kk)
        · exact lv_tableIn hx hb dL_law_32 (by decide) (by decide) (show _ = some (194) from rfl) (by decide) (law_t4 hL C0 hK hG hcs hi4 hJ hP hD hS hl kk)
        · exact lv_tableIn hx hb dL_law_32 (by decide) (by decide) (show _ = some (227) from rfl) (by decide) (law_t5 hL C0 hK hG hcs hi4 hJ hP hD hS hl kk)
        · exact lv_tableIn hx hb dL_law_32 (by decide) (by decide) (show _ = some (260) from rfl) (by decide) (law_t6 hL C0 hK hG hcs hi4 hJ hP hD hS hl kk)
        · exact lv_tableIn hx hb dL_law_32 (by decide) (by decide) (show _ = some (283) from rfl) (by decide) (law_t7 hL C0 hK hG hcs hi4 hJ hP hD hS hl kk)
        · exact lv_tableIn hx hb dL_law_32 (by decide) (by decide) (show _ = some (306) from rfl) (by decide) (law_t8 hL C0 hK hG hcs hi4 hJ hP hD hS hl kk)
        · exact lv_tableIn hx hb dL_law_32 (by decide) (by decide) (show _ = some (339) from rfl) (by decide) (law_t9 hL C0 hK hG hcs hi4 hJ hP hD hS hl kk)
        · exact lv_tableIn hx hb dL_law_32 (by decide) (by decide) (show _ = some (382) from rfl) (by decide) (law_t10 hL C0 hK hG hcs hi4 hJ hP hD hS hl kk)
        · exact lv_tableIn hx hb dL_law_32 (by decide) (by decide) (show _ = some (415) from rfl) (by decide) (law_t11 hL C0 hK hG hcs hi4 hJ hP hD hS hl kk)
        · exact lv_tableIn hx hb dL_law_32 (by decide) (by decide) (show _ = some (438) from rfl) (by decide) (law_t12 hL C0 hK hG hcs hi4 hJ hP hD hS hl kk)
        · exact lv_tableIn hx hb dL_law_32 (by decide) (by decide) (show _ = some (451) from rfl) (by decide) (law_t13 hL C0 hK hG hcs hi4 hJ hP hD hS hl kk)
        · exact lv_tableIn hx hb dL_law_32 (by decide) (by decide) (show _ = some (484) from rfl) (by decide) (law_t14 hL C0 hK hG hcs hi4 hJ hP hD hS hl kk)
        · exact lv_tableIn hx hb dL_law_32 (by decide) (by decide) (show _ = some (497) from rfl) (by decide) (law_t15 hL C0 hK hG hcs hi4 hJ hP hD hS hl kk)
        · exact lv_tableIn hx hb dL_law_32 (by decide) (by decide) (show _ = some (520) from rfl) (by decide) (law_t16 hL C0 hK hG hcs hi4 hJ hP hD hS hl kk)
        · exact lv_tableIn hx hb dL_law_32 (by decide) (by decide) (show _ = some (533) from rfl) (by decide) (law_t17 hL C0 hK hG hcs hi4 hJ hP hD hS hl kk)
        · exact lv_tableIn hx hb dL_law_32 (by decide) (by decide) (show _ = some (576) from rfl) (by decide) (law_t18 hL C0 hK hG hcs hi4 hJ hP hD hS hl kk)
        · exact lv_tableIn hx hb dL_law_32 (by decide) (by decide) (show _ = some (599) from rfl) (by decide) (law_t19 hL C0 hK hG hcs hi4 hJ hP hD hS hl kk)
        · exact lv_tableIn hx hb dL_law_32 (by decide) (by decide) (show _ = some (612) from rfl) (by decide) (law_t20 hL C0 hK hG hcs hi4 hJ hP hD hS hl kk)
        · exact lv_tableIn hx hb dL_law_32 (by decide) (by decide) (show _ = some (655) from rfl) (by decide) (law_t21 hL C0 hK hG hcs hi4 hJ hP hD hS hl kk)
        · exact lv_tableIn hx hb dL_law_32 (by decide) (by decide) (show _ = some (668) from rfl) (by decide) (law_t22 hL C0 hK hG hcs hi4 hJ hP hD hS hl kk)
        · exact lv_tableIn hx hb dL_law_32 (by decide) (by decide) (show _ = some (701) from rfl) (by decide) (law_t23 hL C0 hK hG hcs hi4 hJ hP hD hS hl kk)
        · exact lv_tableIn hx hb dL_law_32 (by decide) (by decide) (show _ = some (724) from rfl) (by decide) (law_t24 hL C0 hK hG hcs hi4 hJ hP hD hS hl kk)
        · exact lv_tableIn hx hb dL_law_32 (by decide) (by decide) (show _ = some (767) from rfl) (by decide) (law_t25 hL C0 hK hG hcs hi4 hJ hP hD hS hl kk)
        · exact lv_tableIn hx hb dL_law_32 (by decide) (by decide) (show _ = some (810) from rfl) (by decide) (law_t26 hL C0 hK hG hcs hi4 hJ hP hD hS hl kk)
        · exact lv_tableIn hx hb dL_law_32 (by decide) (by decide) (show _ = some (823) from rfl) (by decide) (law_t27 hL C0 hK hG hcs hi4 hJ hP hD hS hl kk)
        · exact lv_tableIn hx hb dL_law_32 (by decide) (by decide) (show _ = some (836) from rfl) (by decide) (law_t28 hL C0 hK hG hcs hi4 hJ hP hD hS hl kk)
      · have ho : X.toInt < 0 ∨ 28 < X.toInt := by
          by_cases h0 : X < 0
          · exact Or.inl (Int32.lt_iff_toInt_lt.mp h0)
          · by_cases h28 : (28 : Int32) < X
            · exact Or.inr (Int32.lt_iff_toInt_lt.mp h28)
            · exact absurd (by unfold sm_win; exact decide_eq_true ⟨h0, h28⟩) hw
        exact lv_tableOut (tgt := 891) hx hb dL_law_32 ho (by decide) (kk σ H locs hJ hP hD hS)

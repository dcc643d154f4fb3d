theorem c_hasPost {σ : sm_St} {k : Nat} (hk : sm_isF k) (p : Int32) : sm_C yX0_hasPost cX0_hasPost 2 (some .boolean) 0 [.ref k, .int p] σ (some (.int (sm_b (f_hasP (sm_V σ k) p)))) σ := by
  refine sm_C.of (own := RX0) (by decide) rfl (Nat.le_of_ble_eq_true rfl) ?_
  show sm_W RX0 cX0_hasPost 2 (some .boolean) 0 (some (.int (sm_b (f_hasP (sm_V σ k) p)))) σ 0 [(0, .ref k), (1, .int p)] [] σ
  refine sw_iload_n dX0_hasPost_0 rfl ?_
  refine sw_if_lt (tgt := 16) dX0_hasPost_1 (by decide) (fun h1 => ?_) (fun h1 => ?_)
  · refine sw_iconst (v := 0) dX0_hasPost_16 (by decide) ?_
    refine sw_zret dX0_hasPost_17 rfl rfl ?_ (by decide) ?_
    all_goals (first | with_reducible rfl | (simp_all [-Int32.not_lt, -Int32.not_le, sm_V, f_hasP, f_hasS, f_isAt, sm_b_e0, sm_b_e1, sm_b_0e, sm_b_1e, sm_V0]))
  · refine sw_iload_n dX0_hasPost_4 rfl ?_
    refine sw_aload_n dX0_hasPost_5 rfl ?_
    refine sw_getI dX0_hasPost_6 fl_X0_52 (sm_Fo hk) rfl ?_
    refine sw_icmp_ge (tgt := 16) dX0_hasPost_9 (by decide) (fun h9 => ?_) (fun h9 => ?_)
    · refine sw_iconst (v := 0) dX0_hasPost_16 (by decide) ?_
      refine sw_zret dX0_hasPost_17 rfl rfl ?_ (by decide) ?_
      all_goals (first | with_reducible rfl | (simp_all [-Int32.not_lt, -Int32.not_le, sm_V, f_hasP, f_hasS, f_isAt, sm_b_e0, sm_b_e1, sm_b_0e, sm_b_1e, sm_V0]))
    · refine sw_iconst (v := 1) dX0_hasPost_12 (by decide) ?_
      refine sw_goto (tgt := 17) dX0_hasPost_13 (by decide) ?_
      refine sw_zret dX0_hasPost_17 rfl rfl ?_ (by decide) ?_
      all_goals (first | with_reducible rfl | (simp_all [-Int32.not_lt, -Int32.not_le, sm_V, f_hasP, f_hasS, f_isAt, sm_b_e0, sm_b_e1, sm_b_0e, sm_b_1e, sm_V0]))

theorem c_hasSailor {σ : sm_St} {k : Nat} (hk : sm_isF k) (c : Int32) : sm_C yX0_hasSailor cX0_hasSailor 2 (some .boolean) 0 [.ref k, .int c] σ (some (.int (sm_b (f_hasS (sm_V σ k) c)))) σ := by
  refine sm_C.of (own := RX0) (by decide) rfl (Nat.le_of_ble_eq_true rfl) ?_
  show sm_W RX0 cX0_hasSailor 2 (some .boolean) 0 (some (.int (sm_b (f_hasS (sm_V σ k) c)))) σ 0 [(0, .ref k), (1, .int c)] [] σ
  refine sw_iload_n dX0_hasSailor_0 rfl ?_
  refine sw_if_lt (tgt := 16) dX0_hasSailor_1 (by decide) (fun h1 => ?_) (fun h1 => ?_)
  · refine sw_iconst (v := 0) dX0_hasSailor_16 (by decide) ?_
    refine sw_zret dX0_hasSailor_17 rfl rfl ?_ (by decide) ?_
    all_goals (first | with_reducible rfl | (simp_all [-Int32.not_lt, -Int32.not_le, sm_V, f_hasP, f_hasS, f_isAt, sm_b_e0, sm_b_e1, sm_b_0e, sm_b_1e, sm_V0]))
  · refine sw_iload_n dX0_hasSailor_4 rfl ?_
    refine sw_aload_n dX0_hasSailor_5 rfl ?_
    refine sw_getI dX0_hasSailor_6 fl_X0_55 (sm_Fo hk) rfl ?_
    refine sw_icmp_ge (tgt := 16) dX0_hasSailor_9 (by decide) (fun h9 => ?_) (fun h9 => ?_)
    · refine sw_iconst (v := 0) dX0_hasSailor_16 (by decide) ?_
      refine sw_zret dX0_hasSailor_17 rfl rfl ?_ (by decide) ?_
      all_goals (first | with_reducible rfl | (simp_all [-Int32.not_lt, -Int32.not_le, sm_V, f_hasP, f_hasS, f_isAt, sm_b_e0, sm_b_e1, sm_b_0e, sm_b_1e, sm_V0]))
    · refine sw_iconst (v := 1) dX0_hasSailor_12 (by decide) ?_
      refine sw_goto (tgt := 17) dX0_hasSailor_13 (by decide) ?_
      refine sw_zret dX0_hasSailor_17 rfl rfl ?_ (by decide) ?_
      all_goals (first | with_reducible rfl | (simp_all [-Int32.not_lt, -Int32.not_le, sm_V, f_hasP, f_hasS, f_isAt, sm_b_e0, sm_b_e1, sm_b_0e, sm_b_1e, sm_V0]))

theorem c_isShipAt {σ : sm_St} {k : Nat} (hk : sm_isF k) (x y : Int32) : sm_C yX0_isShipAt cX0_isShipAt 3 (some .boolean) 0 [.ref k, .int x, .int y] σ (some (.int (sm_b (f_isAt (sm_V σ k) x y)))) σ := by
  refine sm_C.of (own := RX0) (by decide) rfl (Nat.le_of_ble_eq_true rfl) ?_
  show sm_W RX0 cX0_isShipAt 3 (some .boolean) 0 (some (.int (sm_b (f_isAt (sm_V σ k) x y)))) σ 0 [(0, .ref k), (1, .int x), (2, .int y)] [] σ
  refine sw_aload_n dX0_isShipAt_0 rfl ?_
  refine sw_getI dX0_isShipAt_1 fl_X0_33 (sm_Fo hk) rfl ?_
  refine sw_iload_n dX0_isShipAt_4 rfl ?_
  refine sw_icmp_ne (tgt := 20) dX0_isShipAt_5 (by decide) (fun h5 => ?_) (fun h5 => ?_)
  · refine sw_iconst (v := 0) dX0_isShipAt_20 (by decide) ?_
    refine sw_zret dX0_isShipAt_21 rfl rfl ?_ (by decide) ?_
    all_goals (first | with_reducible rfl | (simp_all [-Int32.not_lt, -Int32.not_le, sm_V, f_hasP, f_hasS, f_isAt, sm_b_e0, sm_b_e1, sm_b_0e, sm_b_1e, sm_V0]))
  · refine sw_aload_n dX0_isShipAt_8 rfl ?_
    refine sw_getI dX0_isShipAt_9 fl_X0_37 (sm_Fo hk) rfl ?_
    refine sw_iload_n dX0_isShipAt_12 rfl ?_
    refine sw_icmp_ne (tgt := 20) dX0_isShipAt_13 (by decide) (fun h13 => ?_) (fun h13 => ?_)
    · refine sw_iconst (v := 0) dX0_isShipAt_20 (by decide) ?_
      refine sw_zret dX0_isShipAt_21 rfl rfl ?_ (by decide) ?_
      all_goals (first | with_reducible rfl | (simp_all [-Int32.not_lt, -Int32.not_le, sm_V, f_hasP, f_hasS, f_isAt, sm_b_e0, sm_b_e1, sm_b_0e, sm_b_1e, sm_V0]))
    · refine sw_iconst (v := 1) dX0_isShipAt_16 (by decide) ?_
      refine sw_goto (tgt := 21) dX0_isShipAt_17 (by decide) ?_
      refine sw_zret dX0_isShipAt_21 rfl rfl ?_ (by decide) ?_
      all_goals (first | with_reducible rfl | (simp_all [-Int32.not_lt, -Int32.not_le, sm_V, f_hasP, f_hasS, f_isAt, sm_b_e0, sm_b_e1, sm_b_0e, sm_b_1e, sm_V0]))

theorem c_moveShip {σ : sm_St} {k : Nat} (hk : sm_isF k) (x y : Int32) : sm_C yX0_moveShip cX0_moveShip 3 none 0 [.ref k, .int x, .int y] σ none (sm_set (sm_set σ k 0 x) k 1 y) := by
  refine sm_C.of (own := RX0) (by decide) rfl (Nat.le_of_ble_eq_true rfl) ?_
  show sm_W RX0 cX0_moveShip 3 none 0 none (sm_set (sm_set σ k 0 x) k 1 y) 0 [(0, .ref k), (1, .int x), (2, .int y)] [] σ
  refine sw_aload_n dX0_moveShip_0 rfl ?_
  refine sw_iload_n dX0_moveShip_1 rfl ?_
  refine sw_put dX0_moveShip_2 fl_X0_33 fi_0_0 (sm_Fo hk) rfl ?_
  refine sw_aload_n dX0_moveShip_5 rfl ?_
  refine sw_iload_n dX0_moveShip_6 rfl ?_
  refine sw_put dX0_moveShip_7 fl_X0_37 fi_0_1 (sm_Fo hk) rfl ?_
  refine sw_vret dX0_moveShip_10 rfl rfl ?_
  all_goals (first | with_reducible rfl | (rfl))

theorem c_apart {σ : sm_St} {k : Nat} (hk : sm_isF k) (p : Int32) : sm_C yX0_apart cX0_apart 2 (some .int) 2 [.ref k, .int p] σ (some (.int (f_apart (sm_V σ k) p))) σ := by
  refine sm_C.of (own := RX0) (by decide) rfl (Nat.le_of_ble_eq_true rfl) ?_
  show sm_W RX0 cX0_apart 2 (some .int) 2 (some (.int (f_apart (sm_V σ k) p))) σ 0 [(0, .ref k), (1, .int p)] [] σ
  refine sw_aload_n dX0_apart_0 rfl ?_
  refine sw_getR (j := k + 1) dX0_apart_1 fl_X0_9 (sm_Fo hk) rfl ?_
  refine sw_iload_n dX0_apart_4 rfl ?_
  refine sw_callS dX0_apart_5 lS_X0_72 (c_at (sm_Fa1 hk) _) rfl rfl (Nat.le_of_ble_eq_true rfl) (Nat.le_of_ble_eq_true rfl) ?_
  refine sw_aload_n dX0_apart_8 rfl ?_
  refine sw_getI dX0_apart_9 fl_X0_33 (sm_Fo hk) rfl ?_
  refine sw_isub dX0_apart_12 ?_
  refine sw_ab dX0_apart_13 lJ_X0_76 (Nat.le_of_ble_eq_true rfl) (Nat.le_of_ble_eq_true rfl) ?_
  refine sw_aload_n dX0_apart_16 rfl ?_
  refine sw_getR (j := k + 2) dX0_apart_17 fl_X0_15 (sm_Fo hk) rfl ?_
  refine sw_iload_n dX0_apart_20 rfl ?_
  refine sw_callS dX0_apart_21 lS_X0_72 (c_at (sm_Fa2 hk) _) rfl rfl (Nat.le_of_ble_eq_true rfl) (Nat.le_of_ble_eq_true rfl) ?_
  refine sw_aload_n dX0_apart_24 rfl ?_
  refine sw_getI dX0_apart_25 fl_X0_37 (sm_Fo hk) rfl ?_
  refine sw_isub dX0_apart_28 ?_
  refine sw_ab dX0_apart_29 lJ_X0_76 (Nat.le_of_ble_eq_true rfl) (Nat.le_of_ble_eq_true rfl) ?_
  refine sw_iadd dX0_apart_32 ?_
  refine sw_iret dX0_apart_33 rfl rfl ?_ ?_
  all_goals (first | with_reducible rfl | (rfl))

theorem l_nearest {σ : sm_St} {k : Nat} (hk : sm_isF k) (c w : Int32) : ∀ n i : Nat, (σ k 6).toNatClampNeg - i < n → i ≤ (σ k 6).toNatClampNeg → sm_W RX0 cX0_nearestPost 7 (some .int) 3 (some (.int ((f_near (sm_V σ k) w (σ k 6).toNatClampNeg).1))) σ 18 [(0, .ref k), (1, .int c), (2, .int w), (3, .int (f_near (sm_V σ k) w i).1), (4, .int (f_near (sm_V σ k) w i).2), (5, .int (nI i))] [] σ := by
  intro n
  induction n with
  | zero => intro i h1 h2; omega
  | succ n ih =>
    intro i h1 h2
    have hib : i < 2 ^ 31 := Nat.lt_of_le_of_lt h2 (sm_clamp_lt _)
    refine sw_iload dX0_nearestPost_18 rfl ?_
    refine sw_aload_n dX0_nearestPost_20 rfl ?_
    refine sw_getI dX0_nearestPost_21 fl_X0_52 (sm_Fo hk) rfl ?_
    refine sw_icmp_ge (tgt := 86) dX0_nearestPost_24 (by decide) (fun h24 => ?_) (fun h24 => ?_)
    · have hge : (σ k 6).toNatClampNeg ≤ i := (sm_le_clamp hib).mp h24
      refine sw_iload_n dX0_nearestPost_86 rfl ?_
      refine sw_iret dX0_nearestPost_87 rfl rfl ?_ ?_
      all_goals (first | with_reducible rfl | (rw [show i = (σ k 6).toNatClampNeg by omega]))
    · have hlt : i < (σ k 6).toNatClampNeg := by rw [sm_le_clamp hib] at h24; omega
      refine sw_aload_n dX0_nearestPost_27 rfl ?_
      refine sw_getR (j := k + 3) dX0_nearestPost_28 fl_X0_18 (sm_Fo hk) rfl ?_
      refine sw_iload dX0_nearestPost_31 rfl ?_
      refine sw_callS dX0_nearestPost_33 lS_X0_72 (c_at (sm_Fa3 hk) _) rfl rfl (Nat.le_of_ble_eq_true rfl) (Nat.le_of_ble_eq_true rfl) ?_
      refine sw_iload_n dX0_nearestPost_36 rfl ?_
      refine sw_icmp_ne (tgt := 80) dX0_nearestPost_37 (by decide) (fun h37 => ?_) (fun h37 => ?_)
      · refine sw_iinc dX0_nearestPost_80 rfl rfl (by decide) rfl ?_
        refine sw_goto (tgt := 18) dX0_nearestPost_83 (by decide) ?_
        refine sw_lv (ih (i + 1) (by omega) (by omega)) (And.intro rfl (And.intro rfl (And.intro rfl (And.intro (sm_e rfl ?_) (And.intro (sm_e rfl ?_) (And.intro (sm_e rfl ?_) trivial))))))
        all_goals (simp_all [-Int32.not_lt, -Int32.not_le, sm_V, sm_i1, f_near, nI_succ])
      · refine sw_aload_n dX0_nearestPost_40 rfl ?_
        refine sw_getR (j := k + 4) dX0_nearestPost_41 fl_X0_21 (sm_Fo hk) rfl ?_
        refine sw_iload dX0_nearestPost_44 rfl ?_
        refine sw_callS dX0_nearestPost_46 lS_X0_72 (c_at (sm_Fa4 hk) _) rfl rfl (Nat.le_of_ble_eq_true rfl) (Nat.le_of_ble_eq_true rfl) ?_
        refine sw_if_ne (tgt := 80) dX0_nearestPost_49 (by decide) (fun h49 => ?_) (fun h49 => ?_)
        · refine sw_iinc dX0_nearestPost_80 rfl rfl (by decide) rfl ?_
          refine sw_goto (tgt := 18) dX0_nearestPost_83 (by decide) ?_
          refine sw_lv (ih (i + 1) (by omega) (by omega)) (And.intro rfl (And.intro rfl (And.intro rfl (And.intro (sm_e rfl ?_) (And.intro (sm_e rfl ?_) (And.intro (sm_e rfl ?_) trivial))))))
          all_goals (simp_all [-Int32.not_lt, -Int32.not_le, sm_V, sm_i1, f_near, nI_succ])
        · refine sw_aload_n dX0_nearestPost_52 rfl ?_
          refine sw_iload dX0_nearestPost_53 rfl ?_
          refine sw_callV dX0_nearestPost_55 lV_X0_82 (c_apart (k := k) hk _) (sm_Fo hk) rfl rfl rfl (Nat.le_of_ble_eq_true rfl) (Nat.le_of_ble_eq_true rfl) ?_
          refine sw_istore dX0_nearestPost_58 (by decide) rfl ?_
          refine sw_iload_n dX0_nearestPost_60 rfl ?_
          refine sw_bipush (v := -4) dX0_nearestPost_61 (by decide) ?_
          refine sw_icmp_eq (tgt := 73) dX0_nearestPost_63 (by decide) (fun h63 => ?_) (fun h63 => ?_)
          · refine sw_iload dX0_nearestPost_73 rfl ?_
            refine sw_istore_n dX0_nearestPost_75 (by decide) rfl ?_
            refine sw_iload dX0_nearestPost_76 rfl ?_
            refine sw_istore dX0_nearestPost_78 (by decide) rfl ?_
            refine sw_iinc dX0_nearestPost_80 rfl rfl (by decide) rfl ?_
            refine sw_goto (tgt := 18) dX0_nearestPost_83 (by decide) ?_
            refine sw_lv (ih (i + 1) (by omega) (by omega)) (And.intro rfl (And.intro rfl (And.intro rfl (And.intro (sm_e rfl ?_) (And.intro (sm_e rfl ?_) (And.intro (sm_e rfl ?_) trivial))))))
            all_goals (simp_all [-Int32.not_lt, -Int32.not_le, sm_V, sm_i1, f_near, nI_succ])
          · refine sw_iload dX0_nearestPost_66 rfl ?_
            refine sw_iload dX0_nearestPost_68 rfl ?_
            refine sw_icmp_ge (tgt := 80) dX0_nearestPost_70 (by decide) (fun h70 => ?_) (fun h70 => ?_)
            · refine sw_iinc dX0_nearestPost_80 rfl rfl (by decide) rfl ?_
              refine sw_goto (tgt := 18) dX0_nearestPost_83 (by decide) ?_
              refine sw_lv (ih (i + 1) (by omega) (by omega)) (And.intro rfl (And.intro rfl (And.intro rfl (And.intro (sm_e rfl ?_) (And.intro (sm_e rfl ?_) (And.intro (sm_e rfl ?_) trivial))))))
              all_goals (simp_all [-Int32.not_lt, -Int32.not_le, sm_V, sm_i1, f_near, nI_succ])
            · refine sw_iload dX0_nearestPost_73 rfl ?_
              refine sw_istore_n dX0_nearestPost_75 (by decide) rfl ?_
              refine sw_iload dX0_nearestPost_76 rfl ?_
              refine sw_istore dX0_nearestPost_78 (by decide) rfl ?_
              refine sw_iinc dX0_nearestPost_80 rfl rfl (by decide) rfl ?_
              refine sw_goto (tgt := 18) dX0_nearestPost_83 (by decide) ?_
              refine sw_lv (ih (i + 1) (by omega) (by omega)) (And.intro rfl (And.intro rfl (And.intro rfl (And.intro (sm_e rfl ?_) (And.intro (sm_e rfl ?_) (And.intro (sm_e rfl ?_) trivial))))))
              all_goals (simp_all [-Int32.not_lt, -Int32.not_le, sm_V, sm_i1, f_near, nI_succ])

theorem c_nearestPost {σ : sm_St} {k : Nat} (hk : sm_isF k) (c : Int32) : sm_C yX0_nearestPost cX0_nearestPost 7 (some .int) 3 [.ref k, .int c] σ (some (.int (f_nearest (sm_V σ k) c))) σ := by
  refine sm_C.of (own := RX0) (by decide) rfl (Nat.le_of_ble_eq_true rfl) ?_
  show sm_W RX0 cX0_nearestPost 7 (some .int) 3 (some (.int (f_nearest (sm_V σ k) c))) σ 0 [(0, .ref k), (1, .int c)] [] σ
  refine sw_aload_n dX0_nearestPost_0 rfl ?_
  refine sw_getR (j := k + 6) dX0_nearestPost_1 fl_X0_27 (sm_Fo hk) rfl ?_
  refine sw_iload_n dX0_nearestPost_4 rfl ?_
  refine sw_callS dX0_nearestPost_5 lS_X0_72 (c_at (sm_Fa6 hk) _) rfl rfl (Nat.le_of_ble_eq_true rfl) (Nat.le_of_ble_eq_true rfl) ?_
  refine sw_istore_n dX0_nearestPost_8 (by decide) rfl ?_
  refine sw_bipush (v := -4) dX0_nearestPost_9 (by decide) ?_
  refine sw_istore_n dX0_nearestPost_11 (by decide) rfl ?_
  refine sw_iconst (v := 0) dX0_nearestPost_12 (by decide) ?_
  refine sw_istore dX0_nearestPost_13 (by decide) rfl ?_
  refine sw_iconst (v := 0) dX0_nearestPost_15 (by decide) ?_
  refine sw_istore dX0_nearestPost_16 (by decide) rfl ?_
  refine sw_lv (l_nearest hk c _ _ 0 (Nat.lt_succ_self _) (Nat.zero_le _)) (And.intro rfl (And.intro rfl (And.intro rfl (And.intro (sm_e rfl ?_) (And.intro (sm_e rfl ?_) (And.intro (sm_e rfl ?_) trivial))))))
  all_goals (rfl)

theorem c_strengthTo {σ : sm_St} {k : Nat} (hk : sm_isF k) (c p : Int32) : sm_C yX0_strengthTo cX0_strengthTo 5 (some .int) 3 [.ref k, .int c, .int p] σ (some (.int (f_str (sm_V σ k) c p))) σ := by
  refine sm_C.of (own := RX0) (by decide) rfl (Nat.le_of_ble_eq_true rfl) ?_
  show sm_W RX0 cX0_strengthTo 5 (some .int) 3 (some (.int (f_str (sm_V σ k) c p))) σ 0 [(0, .ref k), (1, .int c), (2, .int p)] [] σ
  refine sw_aload_n dX0_strengthTo_0 rfl ?_
  refine sw_iload_n dX0_strengthTo_1 rfl ?_
  refine sw_callV dX0_strengthTo_2 lV_X0_85 (c_hasPost (k := k) hk _) (sm_Fo hk) rfl rfl rfl (Nat.le_of_ble_eq_true rfl) (Nat.le_of_ble_eq_true rfl) ?_
  refine sw_if_eq (tgt := 16) dX0_strengthTo_5 (by decide) (fun h5 => ?_) (fun h5 => ?_)
  · refine sw_iconst (v := 0) dX0_strengthTo_16 (by decide) ?_
    refine sw_istore_n dX0_strengthTo_17 (by decide) rfl ?_
    refine sw_iload_n dX0_strengthTo_18 rfl ?_
    refine sw_if_ne (tgt := 24) dX0_strengthTo_19 (by decide) (fun h => absurd h (by decide)) (fun _ => ?_)
    refine sw_iconst (v := 0) dX0_strengthTo_22 (by decide) ?_
    refine sw_iret dX0_strengthTo_23 rfl rfl ?_ ?_
    all_goals (first | with_reducible rfl | (simp_all [-Int32.not_lt, -Int32.not_le, sm_V, f_str, f_far, f_by, sm_b_e0, sm_b_e1, sm_b_0e, sm_b_1e]))
  · refine sw_aload_n dX0_strengthTo_8 rfl ?_
    refine sw_iload_n dX0_strengthTo_9 rfl ?_
    refine sw_callV dX0_strengthTo_10 lV_X0_82 (c_apart (k := k) hk _) (sm_Fo hk) rfl rfl rfl (Nat.le_of_ble_eq_true rfl) (Nat.le_of_ble_eq_true rfl) ?_
    refine sw_goto (tgt := 17) dX0_strengthTo_13 (by decide) ?_
    refine sw_istore_n dX0_strengthTo_17 (by decide) rfl ?_
    refine sw_iload_n dX0_strengthTo_18 rfl ?_
    refine sw_if_ne (tgt := 24) dX0_strengthTo_19 (by decide) (fun h19 => ?_) (fun h19 => ?_)
    · refine sw_aload_n dX0_strengthTo_24 rfl ?_
      refine sw_getR (j := k + 7) dX0_strengthTo_25 fl_X0_30 (sm_Fo hk) rfl ?_
      refine sw_iload_n dX0_strengthTo_28 rfl ?_
      refine sw_callS dX0_strengthTo_29 lS_X0_72 (c_at (sm_Fa7 hk) _) rfl rfl (Nat.le_of_ble_eq_true rfl) (Nat.le_of_ble_eq_true rfl) ?_
      refine sw_istore dX0_strengthTo_32 (by decide) rfl ?_
      refine sw_aload_n dX0_strengthTo_34 rfl ?_
      refine sw_getR (j := k + 5) dX0_strengthTo_35 fl_X0_24 (sm_Fo hk) rfl ?_
      refine sw_iload_n dX0_strengthTo_38 rfl ?_
      refine sw_callS dX0_strengthTo_39 lS_X0_72 (c_at (sm_Fa5 hk) _) rfl rfl (Nat.le_of_ble_eq_true rfl) (Nat.le_of_ble_eq_true rfl) ?_
      refine sw_tab_X0_strengthTo_42 (fun h42_1 => ?_) (fun h42_2 => ?_) (fun h42_3 => ?_) (fun h42n1 h42n2 h42n3 => ?_)
      · refine sw_iload dX0_strengthTo_68 rfl ?_
        refine sw_iret dX0_strengthTo_70 rfl rfl ?_ ?_
        all_goals (first | with_reducible rfl | (simp_all [-Int32.not_lt, -Int32.not_le, sm_V, f_str, f_far, f_by, sm_b_e0, sm_b_e1, sm_b_0e, sm_b_1e]))
      · refine sw_bipush (v := 12) dX0_strengthTo_71 (by decide) ?_
        refine sw_iload dX0_strengthTo_73 rfl ?_
        refine sw_iload_n dX0_strengthTo_75 rfl ?_
        refine sw_iadd dX0_strengthTo_76 ?_
        refine sw_min dX0_strengthTo_77 lJ_X0_89 (Nat.le_of_ble_eq_true rfl) (Nat.le_of_ble_eq_true rfl) ?_
        refine sw_iret dX0_strengthTo_80 rfl rfl ?_ ?_
        all_goals (first | with_reducible rfl | (simp_all [-Int32.not_lt, -Int32.not_le, sm_V, f_str, f_far, f_by, sm_b_e0, sm_b_e1, sm_b_0e, sm_b_1e]))
      · refine sw_iload_n dX0_strengthTo_81 rfl ?_
        refine sw_iconst (v := 2) dX0_strengthTo_82 (by decide) ?_
        refine sw_icmp_gt (tgt := 93) dX0_strengthTo_83 (by decide) (fun h83 => ?_) (fun h83 => ?_)
        · refine sw_iconst (v := 0) dX0_strengthTo_93 (by decide) ?_
          refine sw_iret dX0_strengthTo_94 rfl rfl ?_ ?_
          all_goals (first | with_reducible rfl | (simp_all [-Int32.not_lt, -Int32.not_le, sm_V, f_str, f_far, f_by, sm_b_e0, sm_b_e1, sm_b_0e, sm_b_1e]))
        · refine sw_iconst (v := 2) dX0_strengthTo_86 (by decide) ?_
          refine sw_iload dX0_strengthTo_87 rfl ?_
          refine sw_imul dX0_strengthTo_89 ?_
          refine sw_goto (tgt := 94) dX0_strengthTo_90 (by decide) ?_
          refine sw_iret dX0_strengthTo_94 rfl rfl ?_ ?_
          all_goals (first | with_reducible rfl | (simp_all [-Int32.not_lt, -Int32.not_le, sm_V, f_str, f_far, f_by, sm_b_e0, sm_b_e1, sm_b_0e, sm_b_1e]))
      · refine sw_iconst (v := 0) dX0_strengthTo_95 (by decide) ?_
        refine sw_iload dX0_strengthTo_96 rfl ?_
        refine sw_iload_n dX0_strengthTo_98 rfl ?_
        refine sw_isub dX0_strengthTo_99 ?_
        refine sw_max dX0_strengthTo_100 lJ_X0_93 (Nat.le_of_ble_eq_true rfl) (Nat.le_of_ble_eq_true rfl) ?_
        refine sw_iret dX0_strengthTo_103 rfl rfl ?_ ?_
        all_goals (first | with_reducible rfl | (simp_all [-Int32.not_lt, -Int32.not_le, sm_V, f_str, f_far, f_by, sm_b_e0, sm_b_e1, sm_b_0e, sm_b_1e]))
    · refine sw_iconst (v := 0) dX0_strengthTo_22 (by decide) ?_
      refine sw_iret dX0_strengthTo_23 rfl rfl ?_ ?_
      all_goals (first | with_reducible rfl | (simp_all [-Int32.not_lt, -Int32.not_le, sm_V, f_str, f_far, f_by, sm_b_e0, sm_b_e1, sm_b_0e, sm_b_1e]))

theorem c_headingTo {σ : sm_St} {k : Nat} (hk : sm_isF k) (p s : Int32) : sm_C yX0_headingTo cX0_headingTo 5 (some .int) 3 [.ref k, .int p, .int s] σ (some (.int (f_head (sm_V σ k) p s))) σ := by
  refine sm_C.of (own := RX0) (by decide) rfl (Nat.le_of_ble_eq_true rfl) ?_
  show sm_W RX0 cX0_headingTo 5 (some .int) 3 (some (.int (f_head (sm_V σ k) p s))) σ 0 [(0, .ref k), (1, .int p), (2, .int s)] [] σ
  refine sw_iload_n dX0_headingTo_0 rfl ?_
  refine sw_if_eq (tgt := 12) dX0_headingTo_1 (by decide) (fun h1 => ?_) (fun h1 => ?_)
  · refine sw_iconst (v := 0) dX0_headingTo_12 (by decide) ?_
    refine sw_iret dX0_headingTo_13 rfl rfl ?_ ?_
    all_goals (first | with_reducible rfl | (simp_all [-Int32.not_lt, -Int32.not_le, sm_V, f_head, f_dir, sm_b_e0, sm_b_e1, sm_b_0e, sm_b_1e]))
  · refine sw_aload_n dX0_headingTo_4 rfl ?_
    refine sw_iload_n dX0_headingTo_5 rfl ?_
    refine sw_callV dX0_headingTo_6 lV_X0_85 (c_hasPost (k := k) hk _) (sm_Fo hk) rfl rfl rfl (Nat.le_of_ble_eq_true rfl) (Nat.le_of_ble_eq_true rfl) ?_
    refine sw_if_ne (tgt := 14) dX0_headingTo_9 (by decide) (fun h9 => ?_) (fun h9 => ?_)
    · refine sw_aload_n dX0_headingTo_14 rfl ?_
      refine sw_getR (j := k + 1) dX0_headingTo_15 fl_X0_9 (sm_Fo hk) rfl ?_
      refine sw_iload_n dX0_headingTo_18 rfl ?_
      refine sw_callS dX0_headingTo_19 lS_X0_72 (c_at (sm_Fa1 hk) _) rfl rfl (Nat.le_of_ble_eq_true rfl) (Nat.le_of_ble_eq_true rfl) ?_
      refine sw_aload_n dX0_headingTo_22 rfl ?_
      refine sw_getI dX0_headingTo_23 fl_X0_33 (sm_Fo hk) rfl ?_
      refine sw_isub dX0_headingTo_26 ?_
      refine sw_istore_n dX0_headingTo_27 (by decide) rfl ?_
      refine sw_aload_n dX0_headingTo_28 rfl ?_
      refine sw_getR (j := k + 2) dX0_headingTo_29 fl_X0_15 (sm_Fo hk) rfl ?_
      refine sw_iload_n dX0_headingTo_32 rfl ?_
      refine sw_callS dX0_headingTo_33 lS_X0_72 (c_at (sm_Fa2 hk) _) rfl rfl (Nat.le_of_ble_eq_true rfl) (Nat.le_of_ble_eq_true rfl) ?_
      refine sw_aload_n dX0_headingTo_36 rfl ?_
      refine sw_getI dX0_headingTo_37 fl_X0_37 (sm_Fo hk) rfl ?_
      refine sw_isub dX0_headingTo_40 ?_
      refine sw_istore dX0_headingTo_41 (by decide) rfl ?_
      refine sw_iload_n dX0_headingTo_43 rfl ?_
      refine sw_ab dX0_headingTo_44 lJ_X0_76 (Nat.le_of_ble_eq_true rfl) (Nat.le_of_ble_eq_true rfl) ?_
      refine sw_iload dX0_headingTo_47 rfl ?_
      refine sw_ab dX0_headingTo_49 lJ_X0_76 (Nat.le_of_ble_eq_true rfl) (Nat.le_of_ble_eq_true rfl) ?_
      refine sw_icmp_lt (tgt := 65) dX0_headingTo_52 (by decide) (fun h52 => ?_) (fun h52 => ?_)
      · refine sw_iload dX0_headingTo_65 rfl ?_
        refine sw_if_le (tgt := 74) dX0_headingTo_67 (by decide) (fun h67 => ?_) (fun h67 => ?_)
        · refine sw_iconst (v := 1) dX0_headingTo_74 (by decide) ?_
          refine sw_iret dX0_headingTo_75 rfl rfl ?_ ?_
          all_goals (first | with_reducible rfl | (simp_all [-Int32.not_lt, -Int32.not_le, sm_V, f_head, f_dir, sm_b_e0, sm_b_e1, sm_b_0e, sm_b_1e]))
        · refine sw_iconst (v := 3) dX0_headingTo_70 (by decide) ?_
          refine sw_goto (tgt := 75) dX0_headingTo_71 (by decide) ?_
          refine sw_iret dX0_headingTo_75 rfl rfl ?_ ?_
          all_goals (first | with_reducible rfl | (simp_all [-Int32.not_lt, -Int32.not_le, sm_V, f_head, f_dir, sm_b_e0, sm_b_e1, sm_b_0e, sm_b_1e]))
      · refine sw_iload_n dX0_headingTo_55 rfl ?_
        refine sw_if_le (tgt := 63) dX0_headingTo_56 (by decide) (fun h56 => ?_) (fun h56 => ?_)
        · refine sw_iconst (v := 4) dX0_headingTo_63 (by decide) ?_
          refine sw_iret dX0_headingTo_64 rfl rfl ?_ ?_
          all_goals (first | with_reducible rfl | (simp_all [-Int32.not_lt, -Int32.not_le, sm_V, f_head, f_dir, sm_b_e0, sm_b_e1, sm_b_0e, sm_b_1e]))
        · refine sw_iconst (v := 2) dX0_headingTo_59 (by decide) ?_
          refine sw_goto (tgt := 64) dX0_headingTo_60 (by decide) ?_
          refine sw_iret dX0_headingTo_64 rfl rfl ?_ ?_
          all_goals (first | with_reducible rfl | (simp_all [-Int32.not_lt, -Int32.not_le, sm_V, f_head, f_dir, sm_b_e0, sm_b_e1, sm_b_0e, sm_b_1e]))
    · refine sw_iconst (v := 0) dX0_headingTo_12 (by decide) ?_
      refine sw_iret dX0_headingTo_13 rfl rfl ?_ ?_
      all_goals (first | with_reducible rfl | (simp_all [-Int32.not_lt, -Int32.not_le, sm_V, f_head, f_dir, sm_b_e0, sm_b_e1, sm_b_0e, sm_b_1e]))

theorem c_addPull {σ : sm_St} {k : Nat} (hk : sm_isF k) (t f : Int32) : sm_C yX0_addPull cX0_addPull 3 none 2 [.ref k, .int t, .int f] σ none (sm_set (sm_set σ k 8 (σ k 8 + r_at sm_sx 5 t * f)) k 9 (σ k 9 + r_at sm_sy 5 t * f)) := by
  refine sm_C.of (own := RX0) (by decide) rfl (Nat.le_of_ble_eq_true rfl) ?_
  show sm_W RX0 cX0_addPull 3 none 2 none (sm_set (sm_set σ k 8 (σ k 8 + r_at sm_sx 5 t * f)) k 9 (σ k 9 + r_at sm_sy 5 t * f)) 0 [(0, .ref k), (1, .int t), (2, .int f)] [] σ
  refine sw_aload_n dX0_addPull_0 rfl ?_
  refine sw_dup dX0_addPull_1 rfl ?_
  refine sw_getI dX0_addPull_2 fl_X0_96 (sm_Fo hk) rfl ?_
  refine sw_getX dX0_addPull_5 fs_X0_99 ?_
  refine sw_iload_n dX0_addPull_8 rfl ?_
  refine sw_callS dX0_addPull_9 lS_X0_72 (c_atX _) rfl rfl (Nat.le_of_ble_eq_true rfl) (Nat.le_of_ble_eq_true rfl) ?_
  refine sw_iload_n dX0_addPull_12 rfl ?_
  refine sw_imul dX0_addPull_13 ?_
  refine sw_iadd dX0_addPull_14 ?_
  refine sw_put dX0_addPull_15 fl_X0_96 fi_0_8 (sm_Fo hk) rfl ?_
  refine sw_aload_n dX0_addPull_18 rfl ?_
  refine sw_dup dX0_addPull_19 rfl ?_
  refine sw_getI dX0_addPull_20 fl_X0_102 (sm_Fo hk) rfl ?_
  refine sw_getY dX0_addPull_23 fs_X0_105 ?_
  refine sw_iload_n dX0_addPull_26 rfl ?_
  refine sw_callS dX0_addPull_27 lS_X0_72 (c_atY _) rfl rfl (Nat.le_of_ble_eq_true rfl) (Nat.le_of_ble_eq_true rfl) ?_
  refine sw_iload_n dX0_addPull_30 rfl ?_
  refine sw_imul dX0_addPull_31 ?_
  refine sw_iadd dX0_addPull_32 ?_
  refine sw_put dX0_addPull_33 fl_X0_102 fi_0_9 (sm_Fo hk) rfl ?_
  refine sw_vret dX0_addPull_36 rfl rfl ?_
  all_goals (first | with_reducible rfl | (simp [sm_set_ne]))

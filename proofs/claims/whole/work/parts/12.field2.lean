theorem sm_89 {σ : sm_St} {k : Nat} {a b c d : Int32} : sm_set (sm_set (sm_set (sm_set σ k 8 a) k 9 b) k 8 c) k 9 d = sm_set (sm_set σ k 8 c) k 9 d := by
  rw [sm_set_comm (i := 9) (j := 8) (by decide), sm_set_set, sm_set_set]
theorem g_goes_8 {σ : sm_St} {k : Nat} : g_goes σ k k 8 = f_R (sm_V σ k) := by unfold g_goes; rw [sm_set_ne (by decide), sm_set_eq]
theorem g_goes_9 {σ : sm_St} {k : Nat} : g_goes σ k k 9 = f_D (sm_V σ k) := by unfold g_goes; rw [sm_set_eq]
theorem g_goes_o {σ : sm_St} {k j : Nat} (h : j < 8) : g_goes σ k k j = σ k j := by unfold g_goes; rw [sm_set_ne (by omega), sm_set_ne (by omega)]

set_option maxHeartbeats 4000000 in
theorem l_goesTo {σ : sm_St} {k : Nat} (hk : sm_isF k) : ∀ n i : Nat, (σ k 7).toNatClampNeg - i < n → i ≤ (σ k 7).toNatClampNeg → sm_W RX0 cX0_goesTo 4 (some .int) 4 (some (.int (f_goes (sm_V σ k)))) (g_goes σ k) 24 [(0, .ref k), (1, .int (nI i))] [] (sm_set (sm_set σ k 8 (f_pull (sm_V σ k) i).1) k 9 (f_pull (sm_V σ k) i).2) := by
  intro n
  induction n with
  | zero => intro i h1 h2; omega
  | succ n ih =>
    intro i h1 h2
    have hib : i < 2 ^ 31 := Nat.lt_of_le_of_lt h2 (sm_clamp_lt _)
    refine sw_iload_n dX0_goesTo_24 rfl ?_
    refine sw_aload_n dX0_goesTo_25 rfl ?_
    refine sw_getI dX0_goesTo_26 fl_X0_55 (sm_Fo hk) rfl ?_
    refine sw_icmp_ge (tgt := 62) dX0_goesTo_29 (by decide) (fun h29 => ?_) (fun h29 => ?_)
    · clear ih
      rw [sm_set_ne (by decide), sm_set_ne (by decide), sm_le_clamp hib] at h29
      have e : i = (σ k 7).toNatClampNeg := by omega
      subst e
      refine sw_st (σ2 := g_goes σ k) rfl ?_
      refine sw_aload_n dX0_goesTo_62 rfl ?_
      refine sw_getI dX0_goesTo_63 fl_X0_96 (sm_Fo hk) rfl ?_
      refine sw_ab dX0_goesTo_66 lJ_X0_76 (Nat.le_of_ble_eq_true rfl) (Nat.le_of_ble_eq_true rfl) ?_
      refine sw_istore_n dX0_goesTo_69 (by decide) rfl ?_
      refine sw_aload_n dX0_goesTo_70 rfl ?_
      refine sw_getI dX0_goesTo_71 fl_X0_102 (sm_Fo hk) rfl ?_
      refine sw_ab dX0_goesTo_74 lJ_X0_76 (Nat.le_of_ble_eq_true rfl) (Nat.le_of_ble_eq_true rfl) ?_
      refine sw_istore_n dX0_goesTo_77 (by decide) rfl ?_
      refine sw_iload_n dX0_goesTo_78 rfl ?_
      refine sw_aload_n dX0_goesTo_79 rfl ?_
      refine sw_getI dX0_goesTo_80 fl_X0_40 (sm_Fo hk) rfl ?_
      refine sw_icmp_gt (tgt := 96) dX0_goesTo_83 (by decide) (fun h83 => ?_) (fun h83 => ?_)
      · refine sw_aload_n dX0_goesTo_96 rfl ?_
        refine sw_getI dX0_goesTo_97 fl_X0_102 (sm_Fo hk) rfl ?_
        refine sw_if_le (tgt := 107) dX0_goesTo_100 (by decide) (fun h100 => ?_) (fun h100 => ?_)
        · refine sw_iconst (v := 1) dX0_goesTo_107 (by decide) ?_
          refine sw_istore_n dX0_goesTo_108 (by decide) rfl ?_
          refine sw_iload_n dX0_goesTo_109 rfl ?_
          refine sw_iload_n dX0_goesTo_110 rfl ?_
          refine sw_icmp_lt (tgt := 127) dX0_goesTo_111 (by decide) (fun h111 => ?_) (fun h111 => ?_)
          · refine sw_aload_n dX0_goesTo_127 rfl ?_
            refine sw_getI dX0_goesTo_128 fl_X0_33 (sm_Fo hk) rfl ?_
            refine sw_getX dX0_goesTo_131 fs_X0_99 ?_
            refine sw_iload_n dX0_goesTo_134 rfl ?_
            refine sw_callS dX0_goesTo_135 lS_X0_72 (c_atX _) rfl rfl (Nat.le_of_ble_eq_true rfl) (Nat.le_of_ble_eq_true rfl) ?_
            refine sw_iadd dX0_goesTo_138 ?_
            refine sw_aload_n dX0_goesTo_139 rfl ?_
            refine sw_getI dX0_goesTo_140 fl_X0_37 (sm_Fo hk) rfl ?_
            refine sw_getY dX0_goesTo_143 fs_X0_105 ?_
            refine sw_iload_n dX0_goesTo_146 rfl ?_
            refine sw_callS dX0_goesTo_147 lS_X0_72 (c_atY _) rfl rfl (Nat.le_of_ble_eq_true rfl) (Nat.le_of_ble_eq_true rfl) ?_
            refine sw_iadd dX0_goesTo_150 ?_
            refine sw_callN dX0_goesTo_151 lN_X0_121 (c_isCell _ _) (fun h => h.2.2.1) rfl rfl (Nat.le_of_ble_eq_true rfl) (Nat.le_of_ble_eq_true rfl) ?_
            refine sw_if_eq (tgt := 161) dX0_goesTo_154 (by decide) (fun h154 => ?_) (fun h154 => ?_)
            · refine sw_iconst (v := 0) dX0_goesTo_161 (by decide) ?_
              refine sw_iret dX0_goesTo_162 rfl rfl ?_ ?_
              all_goals (first | with_reducible rfl | (simp_all [-Int32.not_lt, -Int32.not_le, f_goes, f_to, f_dir, sm_b_e0, sm_b_e1, sm_b_0e, sm_b_1e, sm_V0, g_goes_8, g_goes_9, g_goes_o]))
            · refine sw_iload_n dX0_goesTo_157 rfl ?_
              refine sw_goto (tgt := 162) dX0_goesTo_158 (by decide) ?_
              refine sw_iret dX0_goesTo_162 rfl rfl ?_ ?_
              all_goals (first | with_reducible rfl | (simp_all [-Int32.not_lt, -Int32.not_le, f_goes, f_to, f_dir, sm_b_e0, sm_b_e1, sm_b_0e, sm_b_1e, sm_V0, g_goes_8, g_goes_9, g_goes_o]))
          · refine sw_aload_n dX0_goesTo_114 rfl ?_
            refine sw_getI dX0_goesTo_115 fl_X0_96 (sm_Fo hk) rfl ?_
            refine sw_if_le (tgt := 125) dX0_goesTo_118 (by decide) (fun h118 => ?_) (fun h118 => ?_)
            · refine sw_iconst (v := 4) dX0_goesTo_125 (by decide) ?_
              refine sw_istore_n dX0_goesTo_126 (by decide) rfl ?_
              refine sw_aload_n dX0_goesTo_127 rfl ?_
              refine sw_getI dX0_goesTo_128 fl_X0_33 (sm_Fo hk) rfl ?_
              refine sw_getX dX0_goesTo_131 fs_X0_99 ?_
              refine sw_iload_n dX0_goesTo_134 rfl ?_
              refine sw_callS dX0_goesTo_135 lS_X0_72 (c_atX _) rfl rfl (Nat.le_of_ble_eq_true rfl) (Nat.le_of_ble_eq_true rfl) ?_
              refine sw_iadd dX0_goesTo_138 ?_
              refine sw_aload_n dX0_goesTo_139 rfl ?_
              refine sw_getI dX0_goesTo_140 fl_X0_37 (sm_Fo hk) rfl ?_
              refine sw_getY dX0_goesTo_143 fs_X0_105 ?_
              refine sw_iload_n dX0_goesTo_146 rfl ?_
              refine sw_callS dX0_goesTo_147 lS_X0_72 (c_atY _) rfl rfl (Nat.le_of_ble_eq_true rfl) (Nat.le_of_ble_eq_true rfl) ?_
              refine sw_iadd dX0_goesTo_150 ?_
              refine sw_callN dX0_goesTo_151 lN_X0_121 (c_isCell _ _) (fun h => h.2.2.1) rfl rfl (Nat.le_of_ble_eq_true rfl) (Nat.le_of_ble_eq_true rfl) ?_
              refine sw_if_eq (tgt := 161) dX0_goesTo_154 (by decide) (fun h154 => ?_) (fun h154 => ?_)
              · refine sw_iconst (v := 0) dX0_goesTo_161 (by decide) ?_
                refine sw_iret dX0_goesTo_162 rfl rfl ?_ ?_
                all_goals (first | with_reducible rfl | (simp_all [-Int32.not_lt, -Int32.not_le, f_goes, f_to, f_dir, sm_b_e0, sm_b_e1, sm_b_0e, sm_b_1e, sm_V0, g_goes_8, g_goes_9, g_goes_o]))
              · refine sw_iload_n dX0_goesTo_157 rfl ?_
                refine sw_goto (tgt := 162) dX0_goesTo_158 (by decide) ?_
                refine sw_iret dX0_goesTo_162 rfl rfl ?_ ?_
                all_goals (first | with_reducible rfl | (simp_all [-Int32.not_lt, -Int32.not_le, f_goes, f_to, f_dir, sm_b_e0, sm_b_e1, sm_b_0e, sm_b_1e, sm_V0, g_goes_8, g_goes_9, g_goes_o]))
            · refine sw_iconst (v := 2) dX0_goesTo_121 (by decide) ?_
              refine sw_goto (tgt := 126) dX0_goesTo_122 (by decide) ?_
              refine sw_istore_n dX0_goesTo_126 (by decide) rfl ?_
              refine sw_aload_n dX0_goesTo_127 rfl ?_
              refine sw_getI dX0_goesTo_128 fl_X0_33 (sm_Fo hk) rfl ?_
              refine sw_getX dX0_goesTo_131 fs_X0_99 ?_
              refine sw_iload_n dX0_goesTo_134 rfl ?_
              refine sw_callS dX0_goesTo_135 lS_X0_72 (c_atX _) rfl rfl (Nat.le_of_ble_eq_true rfl) (Nat.le_of_ble_eq_true rfl) ?_
              refine sw_iadd dX0_goesTo_138 ?_
              refine sw_aload_n dX0_goesTo_139 rfl ?_
              refine sw_getI dX0_goesTo_140 fl_X0_37 (sm_Fo hk) rfl ?_
              refine sw_getY dX0_goesTo_143 fs_X0_105 ?_
              refine sw_iload_n dX0_goesTo_146 rfl ?_
              refine sw_callS dX0_goesTo_147 lS_X0_72 (c_atY _) rfl rfl (Nat.le_of_ble_eq_true rfl) (Nat.le_of_ble_eq_true rfl) ?_
              refine sw_iadd dX0_goesTo_150 ?_
              refine sw_callN dX0_goesTo_151 lN_X0_121 (c_isCell _ _) (fun h => h.2.2.1) rfl rfl (Nat.le_of_ble_eq_true rfl) (Nat.le_of_ble_eq_true rfl) ?_
              refine sw_if_eq (tgt := 161) dX0_goesTo_154 (by decide) (fun h154 => ?_) (fun h154 => ?_)
              · refine sw_iconst (v := 0) dX0_goesTo_161 (by decide) ?_
                refine sw_iret dX0_goesTo_162 rfl rfl ?_ ?_
                all_goals (first | with_reducible rfl | (simp_all [-Int32.not_lt, -Int32.not_le, f_goes, f_to, f_dir, sm_b_e0, sm_b_e1, sm_b_0e, sm_b_1e, sm_V0, g_goes_8, g_goes_9, g_goes_o]))
              · refine sw_iload_n dX0_goesTo_157 rfl ?_
                refine sw_goto (tgt := 162) dX0_goesTo_158 (by decide) ?_
                refine sw_iret dX0_goesTo_162 rfl rfl ?_ ?_
                all_goals (first | with_reducible rfl | (simp_all [-Int32.not_lt, -Int32.not_le, f_goes, f_to, f_dir, sm_b_e0, sm_b_e1, sm_b_0e, sm_b_1e, sm_V0, g_goes_8, g_goes_9, g_goes_o]))
        · refine sw_iconst (v := 3) dX0_goesTo_103 (by decide) ?_
          refine sw_goto (tgt := 108) dX0_goesTo_104 (by decide) ?_
          refine sw_istore_n dX0_goesTo_108 (by decide) rfl ?_
          refine sw_iload_n dX0_goesTo_109 rfl ?_
          refine sw_iload_n dX0_goesTo_110 rfl ?_
          refine sw_icmp_lt (tgt := 127) dX0_goesTo_111 (by decide) (fun h111 => ?_) (fun h111 => ?_)
          · refine sw_aload_n dX0_goesTo_127 rfl ?_
            refine sw_getI dX0_goesTo_128 fl_X0_33 (sm_Fo hk) rfl ?_
            refine sw_getX dX0_goesTo_131 fs_X0_99 ?_
            refine sw_iload_n dX0_goesTo_134 rfl ?_
            refine sw_callS dX0_goesTo_135 lS_X0_72 (c_atX _) rfl rfl (Nat.le_of_ble_eq_true rfl) (Nat.le_of_ble_eq_true rfl) ?_
            refine sw_iadd dX0_goesTo_138 ?_
            refine sw_aload_n dX0_goesTo_139 rfl ?_
            refine sw_getI dX0_goesTo_140 fl_X0_37 (sm_Fo hk) rfl ?_
            refine sw_getY dX0_goesTo_143 fs_X0_105 ?_
            refine sw_iload_n dX0_goesTo_146 rfl ?_
            refine sw_callS dX0_goesTo_147 lS_X0_72 (c_atY _) rfl rfl (Nat.le_of_ble_eq_true rfl) (Nat.le_of_ble_eq_true rfl) ?_
            refine sw_iadd dX0_goesTo_150 ?_
            refine sw_callN dX0_goesTo_151 lN_X0_121 (c_isCell _ _) (fun h => h.2.2.1) rfl rfl (Nat.le_of_ble_eq_true rfl) (Nat.le_of_ble_eq_true rfl) ?_
            refine sw_if_eq (tgt := 161) dX0_goesTo_154 (by decide) (fun h154 => ?_) (fun h154 => ?_)
            · refine sw_iconst (v := 0) dX0_goesTo_161 (by decide) ?_
              refine sw_iret dX0_goesTo_162 rfl rfl ?_ ?_
              all_goals (first | with_reducible rfl | (simp_all [-Int32.not_lt, -Int32.not_le, f_goes, f_to, f_dir, sm_b_e0, sm_b_e1, sm_b_0e, sm_b_1e, sm_V0, g_goes_8, g_goes_9, g_goes_o]))
            · refine sw_iload_n dX0_goesTo_157 rfl ?_
              refine sw_goto (tgt := 162) dX0_goesTo_158 (by decide) ?_
              refine sw_iret dX0_goesTo_162 rfl rfl ?_ ?_
              all_goals (first | with_reducible rfl | (simp_all [-Int32.not_lt, -Int32.not_le, f_goes, f_to, f_dir, sm_b_e0, sm_b_e1, sm_b_0e, sm_b_1e, sm_V0, g_goes_8, g_goes_9, g_goes_o]))
          · refine sw_aload_n dX0_goesTo_114 rfl ?_
            refine sw_getI dX0_goesTo_115 fl_X0_96 (sm_Fo hk) rfl ?_
            refine sw_if_le (tgt := 125) dX0_goesTo_118 (by decide) (fun h118 => ?_) (fun h118 => ?_)
            · refine sw_iconst (v := 4) dX0_goesTo_125 (by decide) ?_
              refine sw_istore_n dX0_goesTo_126 (by decide) rfl ?_
              refine sw_aload_n dX0_goesTo_127 rfl ?_
              refine sw_getI dX0_goesTo_128 fl_X0_33 (sm_Fo hk) rfl ?_
              refine sw_getX dX0_goesTo_131 fs_X0_99 ?_
              refine sw_iload_n dX0_goesTo_134 rfl ?_
              refine sw_callS dX0_goesTo_135 lS_X0_72 (c_atX _) rfl rfl (Nat.le_of_ble_eq_true rfl) (Nat.le_of_ble_eq_true rfl) ?_
              refine sw_iadd dX0_goesTo_138 ?_
              refine sw_aload_n dX0_goesTo_139 rfl ?_
              refine sw_getI dX0_goesTo_140 fl_X0_37 (sm_Fo hk) rfl ?_
              refine sw_getY dX0_goesTo_143 fs_X0_105 ?_
              refine sw_iload_n dX0_goesTo_146 rfl ?_
              refine sw_callS dX0_goesTo_147 lS_X0_72 (c_atY _) rfl rfl (Nat.le_of_ble_eq_true rfl) (Nat.le_of_ble_eq_true rfl) ?_
              refine sw_iadd dX0_goesTo_150 ?_
              refine sw_callN dX0_goesTo_151 lN_X0_121 (c_isCell _ _) (fun h => h.2.2.1) rfl rfl (Nat.le_of_ble_eq_true rfl) (Nat.le_of_ble_eq_true rfl) ?_
              refine sw_if_eq (tgt := 161) dX0_goesTo_154 (by decide) (fun h154 => ?_) (fun h154 => ?_)
              · refine sw_iconst (v := 0) dX0_goesTo_161 (by decide) ?_
                refine sw_iret dX0_goesTo_162 rfl rfl ?_ ?_
                all_goals (first | with_reducible rfl | (simp_all [-Int32.not_lt, -Int32.not_le, f_goes, f_to, f_dir, sm_b_e0, sm_b_e1, sm_b_0e, sm_b_1e, sm_V0, g_goes_8, g_goes_9, g_goes_o]))
              · refine sw_iload_n dX0_goesTo_157 rfl ?_
                refine sw_goto (tgt := 162) dX0_goesTo_158 (by decide) ?_
                refine sw_iret dX0_goesTo_162 rfl rfl ?_ ?_
                all_goals (first | with_reducible rfl | (simp_all [-Int32.not_lt, -Int32.not_le, f_goes, f_to, f_dir, sm_b_e0, sm_b_e1, sm_b_0e, sm_b_1e, sm_V0, g_goes_8, g_goes_9, g_goes_o]))
            · refine sw_iconst (v := 2) dX0_goesTo_121 (by decide) ?_
              refine sw_goto (tgt := 126) dX0_goesTo_122 (by decide) ?_
              refine sw_istore_n dX0_goesTo_126 (by decide) rfl ?_
              refine sw_aload_n dX0_goesTo_127 rfl ?_
              refine sw_getI dX0_goesTo_128 fl_X0_33 (sm_Fo hk) rfl ?_
              refine sw_getX dX0_goesTo_131 fs_X0_99 ?_
              refine sw_iload_n dX0_goesTo_134 rfl ?_
              refine sw_callS dX0_goesTo_135 lS_X0_72 (c_atX _) rfl rfl (Nat.le_of_ble_eq_true rfl) (Nat.le_of_ble_eq_true rfl) ?_
              refine sw_iadd dX0_goesTo_138 ?_
              refine sw_aload_n dX0_goesTo_139 rfl ?_
              refine sw_getI dX0_goesTo_140 fl_X0_37 (sm_Fo hk) rfl ?_
              refine sw_getY dX0_goesTo_143 fs_X0_105 ?_
              refine sw_iload_n dX0_goesTo_146 rfl ?_
              refine sw_callS dX0_goesTo_147 lS_X0_72 (c_atY _) rfl rfl (Nat.le_of_ble_eq_true rfl) (Nat.le_of_ble_eq_true rfl) ?_
              refine sw_iadd dX0_goesTo_150 ?_
              refine sw_callN dX0_goesTo_151 lN_X0_121 (c_isCell _ _) (fun h => h.2.2.1) rfl rfl (Nat.le_of_ble_eq_true rfl) (Nat.le_of_ble_eq_true rfl) ?_
              refine sw_if_eq (tgt := 161) dX0_goesTo_154 (by decide) (fun h154 => ?_) (fun h154 => ?_)
              · refine sw_iconst (v := 0) dX0_goesTo_161 (by decide) ?_
                refine sw_iret dX0_goesTo_162 rfl rfl ?_ ?_
                all_goals (first | with_reducible rfl | (simp_all [-Int32.not_lt, -Int32.not_le, f_goes, f_to, f_dir, sm_b_e0, sm_b_e1, sm_b_0e, sm_b_1e, sm_V0, g_goes_8, g_goes_9, g_goes_o]))
              · refine sw_iload_n dX0_goesTo_157 rfl ?_
                refine sw_goto (tgt := 162) dX0_goesTo_158 (by decide) ?_
                refine sw_iret dX0_goesTo_162 rfl rfl ?_ ?_
                all_goals (first | with_reducible rfl | (simp_all [-Int32.not_lt, -Int32.not_le, f_goes, f_to, f_dir, sm_b_e0, sm_b_e1, sm_b_0e, sm_b_1e, sm_V0, g_goes_8, g_goes_9, g_goes_o]))
      · refine sw_iload_n dX0_goesTo_86 rfl ?_
        refine sw_aload_n dX0_goesTo_87 rfl ?_
        refine sw_getI dX0_goesTo_88 fl_X0_40 (sm_Fo hk) rfl ?_
        refine sw_icmp_gt (tgt := 96) dX0_goesTo_91 (by decide) (fun h91 => ?_) (fun h91 => ?_)
        · refine sw_aload_n dX0_goesTo_96 rfl ?_
          refine sw_getI dX0_goesTo_97 fl_X0_102 (sm_Fo hk) rfl ?_
          refine sw_if_le (tgt := 107) dX0_goesTo_100 (by decide) (fun h100 => ?_) (fun h100 => ?_)
          · refine sw_iconst (v := 1) dX0_goesTo_107 (by decide) ?_
            refine sw_istore_n dX0_goesTo_108 (by decide) rfl ?_
            refine sw_iload_n dX0_goesTo_109 rfl ?_
            refine sw_iload_n dX0_goesTo_110 rfl ?_
            refine sw_icmp_lt (tgt := 127) dX0_goesTo_111 (by decide) (fun h111 => ?_) (fun h111 => ?_)
            · refine sw_aload_n dX0_goesTo_127 rfl ?_
              refine sw_getI dX0_goesTo_128 fl_X0_33 (sm_Fo hk) rfl ?_
              refine sw_getX dX0_goesTo_131 fs_X0_99 ?_
              refine sw_iload_n dX0_goesTo_134 rfl ?_
              refine sw_callS dX0_goesTo_135 lS_X0_72 (c_atX _) rfl rfl (Nat.le_of_ble_eq_true rfl) (Nat.le_of_ble_eq_true rfl) ?_
              refine sw_iadd dX0_goesTo_138 ?_
              refine sw_aload_n dX0_goesTo_139 rfl ?_
              refine sw_getI dX0_goesTo_140 fl_X0_37 (sm_Fo hk) rfl ?_
              refine sw_getY dX0_goesTo_143 fs_X0_105 ?_
              refine sw_iload_n dX0_goesTo_146 rfl ?_
              refine sw_callS dX0_goesTo_147 lS_X0_72 (c_atY _) rfl rfl (Nat.le_of_ble_eq_true rfl) (Nat.le_of_ble_eq_true rfl) ?_
              refine sw_iadd dX0_goesTo_150 ?_
              refine sw_callN dX0_goesTo_151 lN_X0_121 (c_isCell _ _) (fun h => h.2.2.1) rfl rfl (Nat.le_of_ble_eq_true rfl) (Nat.le_of_ble_eq_true rfl) ?_
              refine sw_if_eq (tgt := 161) dX0_goesTo_154 (by decide) (fun h154 => ?_) (fun h154 => ?_)
              · refine sw_iconst (v := 0) dX0_goesTo_161 (by decide) ?_
                refine sw_iret dX0_goesTo_162 rfl rfl ?_ ?_
                all_goals (first | with_reducible rfl | (simp_all [-Int32.not_lt, -Int32.not_le, f_goes, f_to, f_dir, sm_b_e0, sm_b_e1, sm_b_0e, sm_b_1e, sm_V0, g_goes_8, g_goes_9, g_goes_o]))
              · refine sw_iload_n dX0_goesTo_157 rfl ?_
                refine sw_goto (tgt := 162) dX0_goesTo_158 (by decide) ?_
                refine sw_iret dX0_goesTo_162 rfl rfl ?_ ?_
                all_goals (first | with_reducible rfl | (simp_all [-Int32.not_lt, -Int32.not_le, f_goes, f_to, f_dir, sm_b_e0, sm_b_e1, sm_b_0e, sm_b_1e, sm_V0, g_goes_8, g_goes_9, g_goes_o]))
            · refine sw_aload_n dX0_goesTo_114 rfl ?_
              refine sw_getI dX0_goesTo_115 fl_X0_96 (sm_Fo hk) rfl ?_
              refine sw_if_le (tgt := 125) dX0_goesTo_118 (by decide) (fun h118 => ?_) (fun h118 => ?_)
              · refine sw_iconst (v := 4) dX0_goesTo_125 (by decide) ?_
                refine sw_istore_n dX0_goesTo_126 (by decide) rfl ?_
                refine sw_aload_n dX0_goesTo_127 rfl ?_
                refine sw_getI dX0_goesTo_128 fl_X0_33 (sm_Fo hk) rfl ?_
                refine sw_getX dX0_goesTo_131 fs_X0_99 ?_
                refine sw_iload_n dX0_goesTo_134 rfl ?_
                refine sw_callS dX0_goesTo_135 lS_X0_72 (c_atX _) rfl rfl (Nat.le_of_ble_eq_true rfl) (Nat.le_of_ble_eq_true rfl) ?_
                refine sw_iadd dX0_goesTo_138 ?_
                refine sw_aload_n dX0_goesTo_139 rfl ?_
                refine sw_getI dX0_goesTo_140 fl_X0_37 (sm_Fo hk) rfl ?_
                refine sw_getY dX0_goesTo_143 fs_X0_105 ?_
                refine sw_iload_n dX0_goesTo_146 rfl ?_
                refine sw_callS dX0_goesTo_147 lS_X0_72 (c_atY _) rfl rfl (Nat.le_of_ble_eq_true rfl) (Nat.le_of_ble_eq_true rfl) ?_
                refine sw_iadd dX0_goesTo_150 ?_
                refine sw_callN dX0_goesTo_151 lN_X0_121 (c_isCell _ _) (fun h => h.2.2.1) rfl rfl (Nat.le_of_ble_eq_true rfl) (Nat.le_of_ble_eq_true rfl) ?_
                refine sw_if_eq (tgt := 161) dX0_goesTo_154 (by decide) (fun h154 => ?_) (fun h154 => ?_)
                · refine sw_iconst (v := 0) dX0_goesTo_161 (by decide) ?_
                  refine sw_iret dX0_goesTo_162 rfl rfl ?_ ?_
                  all_goals (first | with_reducible rfl | (simp_all [-Int32.not_lt, -Int32.not_le, f_goes, f_to, f_dir, sm_b_e0, sm_b_e1, sm_b_0e, sm_b_1e, sm_V0, g_goes_8, g_goes_9, g_goes_o]))
                · refine sw_iload_n dX0_goesTo_157 rfl ?_
                  refine sw_goto (tgt := 162) dX0_goesTo_158 (by decide) ?_
                  refine sw_iret dX0_goesTo_162 rfl rfl ?_ ?_
                  all_goals (first | with_reducible rfl | (simp_all [-Int32.not_lt, -Int32.not_le, f_goes, f_to, f_dir, sm_b_e0, sm_b_e1, sm_b_0e, sm_b_1e, sm_V0, g_goes_8, g_goes_9, g_goes_o]))
              · refine sw_iconst (v := 2) dX0_goesTo_121 (by decide) ?_
                refine sw_goto (tgt := 126) dX0_goesTo_122 (by decide) ?_
                refine sw_istore_n dX0_goesTo_126 (by decide) rfl ?_
                refine sw_aload_n dX0_goesTo_127 rfl ?_
                refine sw_getI dX0_goesTo_128 fl_X0_33 (sm_Fo hk) rfl ?_
                refine sw_getX dX0_goesTo_131 fs_X0_99 ?_
                refine sw_iload_n dX0_goesTo_134 rfl ?_
                refine sw_callS dX0_goesTo_135 lS_X0_72 (c_atX _) rfl rfl (Nat.le_of_ble_eq_true rfl) (Nat.le_of_ble_eq_true rfl) ?_
                refine sw_iadd dX0_goesTo_138 ?_
                refine sw_aload_n dX0_goesTo_139 rfl ?_
                refine sw_getI dX0_goesTo_140 fl_X0_37 (sm_Fo hk) rfl ?_
                refine sw_getY dX0_goesTo_143 fs_X0_105 ?_
                refine sw_iload_n dX0_goesTo_146 rfl ?_
                refine sw_callS dX0_goesTo_147 lS_X0_72 (c_atY _) rfl rfl (Nat.le_of_ble_eq_true rfl) (Nat.le_of_ble_eq_true rfl) ?_
                refine sw_iadd dX0_goesTo_150 ?_
                refine sw_callN dX0_goesTo_151 lN_X0_121 (c_isCell _ _) (fun h => h.2.2.1) rfl rfl (Nat.le_of_ble_eq_true rfl) (Nat.le_of_ble_eq_true rfl) ?_
                refine sw_if_eq (tgt := 161) dX0_goesTo_154 (by decide) (fun h154 => ?_) (fun h154 => ?_)
                · refine sw_iconst (v := 0) dX0_goesTo_161 (by decide) ?_
                  refine sw_iret dX0_goesTo_162 rfl rfl ?_ ?_
                  all_goals (first | with_reducible rfl | (simp_all [-Int32.not_lt, -Int32.not_le, f_goes, f_to, f_dir, sm_b_e0, sm_b_e1, sm_b_0e, sm_b_1e, sm_V0, g_goes_8, g_goes_9, g_goes_o]))
                · refine sw_iload_n dX0_goesTo_157 rfl ?_
                  refine sw_goto (tgt := 162) dX0_goesTo_158 (by decide) ?_
                  refine sw_iret dX0_goesTo_162 rfl rfl ?_ ?_
                  all_goals (first | with_reducible rfl | (simp_all [-Int32.not_lt, -Int32.not_le, f_goes, f_to, f_dir, sm_b_e0, sm_b_e1, sm_b_0e, sm_b_1e, sm_V0, g_goes_8, g_goes_9, g_goes_o]))
          · refine sw_iconst (v := 3) dX0_goesTo_103 (by decide) ?_
            refine sw_goto (tgt := 108) dX0_goesTo_104 (by decide) ?_
            refine sw_istore_n dX0_goesTo_108 (by decide) rfl ?_
            refine sw_iload_n dX0_goesTo_109 rfl ?_
            refine sw_iload_n dX0_goesTo_110 rfl ?_
            refine sw_icmp_lt (tgt := 127) dX0_goesTo_111 (by decide) (fun h111 => ?_) (fun h111 => ?_)
            · refine sw_aload_n dX0_goesTo_127 rfl ?_
              refine sw_getI dX0_goesTo_128 fl_X0_33 (sm_Fo hk) rfl ?_
              refine sw_getX dX0_goesTo_131 fs_X0_99 ?_
              refine sw_iload_n dX0_goesTo_134 rfl ?_
              refine sw_callS dX0_goesTo_135 lS_X0_72 (c_atX _) rfl rfl (Nat.le_of_ble_eq_true rfl) (Nat.le_of_ble_eq_true rfl) ?_
              refine sw_iadd dX0_goesTo_138 ?_
              refine sw_aload_n dX0_goesTo_139 rfl ?_
              refine sw_getI dX0_goesTo_140 fl_X0_37 (sm_Fo hk) rfl ?_
              refine sw_getY dX0_goesTo_143 fs_X0_105 ?_
              refine sw_iload_n dX0_goesTo_146 rfl ?_
              refine sw_callS dX0_goesTo_147 lS_X0_72 (c_atY _) rfl rfl (Nat.le_of_ble_eq_true rfl) (Nat.le_of_ble_eq_true rfl) ?_
              refine sw_iadd dX0_goesTo_150 ?_
              refine sw_callN dX0_goesTo_151 lN_X0_121 (c_isCell _ _) (fun h => h.2.2.1) rfl rfl (Nat.le_of_ble_eq_true rfl) (Nat.le_of_ble_eq_true rfl) ?_
              refine sw_if_eq (tgt := 161) dX0_goesTo_154 (by decide) (fun h154 => ?_) (fun h154 => ?_)
              · refine sw_iconst (v := 0) dX0_goesTo_161 (by decide) ?_
                refine sw_iret dX0_goesTo_162 rfl rfl ?_ ?_
                all_goals (first | with_reducible rfl | (simp_all [-Int32.not_lt, -Int32.not_le, f_goes, f_to, f_dir, sm_b_e0, sm_b_e1, sm_b_0e, sm_b_1e, sm_V0, g_goes_8, g_goes_9, g_goes_o]))
              · refine sw_iload_n dX0_goesTo_157 rfl ?_
                refine sw_goto (tgt := 162) dX0_goesTo_158 (by decide) ?_
                refine sw_iret dX0_goesTo_162 rfl rfl ?_ ?_
                all_goals (first | with_reducible rfl | (simp_all [-Int32.not_lt, -Int32.not_le, f_goes, f_to, f_dir, sm_b_e0, sm_b_e1, sm_b_0e, sm_b_1e, sm_V0, g_goes_8, g_goes_9, g_goes_o]))
            · refine sw_aload_n dX0_goesTo_114 rfl ?_
              refine sw_getI dX0_goesTo_115 fl_X0_96 (sm_Fo hk) rfl ?_
              refine sw_if_le (tgt := 125) dX0_goesTo_118 (by decide) (fun h118 => ?_) (fun h118 => ?_)
              · refine sw_iconst (v := 4) dX0_goesTo_125 (by decide) ?_
                refine sw_istore_n dX0_goesTo_126 (by decide) rfl ?_
                refine sw_aload_n dX0_goesTo_127 rfl ?_
                refine sw_getI dX0_goesTo_128 fl_X0_33 (sm_Fo hk) rfl ?_
                refine sw_getX dX0_goesTo_131 fs_X0_99 ?_
                refine sw_iload_n dX0_goesTo_134 rfl ?_
                refine sw_callS dX0_goesTo_135 lS_X0_72 (c_atX _) rfl rfl (Nat.le_of_ble_eq_true rfl) (Nat.le_of_ble_eq_true rfl) ?_
                refine sw_iadd dX0_goesTo_138 ?_
                refine sw_aload_n dX0_goesTo_139 rfl ?_
                refine sw_getI dX0_goesTo_140 fl_X0_37 (sm_Fo hk) rfl ?_
                refine sw_getY dX0_goesTo_143 fs_X0_105 ?_
                refine sw_iload_n dX0_goesTo_146 rfl ?_
                refine sw_callS dX0_goesTo_147 lS_X0_72 (c_atY _) rfl rfl (Nat.le_of_ble_eq_true rfl) (Nat.le_of_ble_eq_true rfl) ?_
                refine sw_iadd dX0_goesTo_150 ?_
                refine sw_callN dX0_goesTo_151 lN_X0_121 (c_isCell _ _) (fun h => h.2.2.1) rfl rfl (Nat.le_of_ble_eq_true rfl) (Nat.le_of_ble_eq_true rfl) ?_
                refine sw_if_eq (tgt := 161) dX0_goesTo_154 (by decide) (fun h154 => ?_) (fun h154 => ?_)
                · refine sw_iconst (v := 0) dX0_goesTo_161 (by decide) ?_
                  refine sw_iret dX0_goesTo_162 rfl rfl ?_ ?_
                  all_goals (first | with_reducible rfl | (simp_all [-Int32.not_lt, -Int32.not_le, f_goes, f_to, f_dir, sm_b_e0, sm_b_e1, sm_b_0e, sm_b_1e, sm_V0, g_goes_8, g_goes_9, g_goes_o]))
                · refine sw_iload_n dX0_goesTo_157 rfl ?_
                  refine sw_goto (tgt := 162) dX0_goesTo_158 (by decide) ?_
                  refine sw_iret dX0_goesTo_162 rfl rfl ?_ ?_
                  all_goals (first | with_reducible rfl | (simp_all [-Int32.not_lt, -Int32.not_le, f_goes, f_to, f_dir, sm_b_e0, sm_b_e1, sm_b_0e, sm_b_1e, sm_V0, g_goes_8, g_goes_9, g_goes_o]))
              · refine sw_iconst (v := 2) dX0_goesTo_121 (by decide) ?_
                refine sw_goto (tgt := 126) dX0_goesTo_122 (by decide) ?_
                refine sw_istore_n dX0_goesTo_126 (by decide) rfl ?_
                refine sw_aload_n dX0_goesTo_127 rfl ?_
                refine sw_getI dX0_goesTo_128 fl_X0_33 (sm_Fo hk) rfl ?_
                refine sw_getX dX0_goesTo_131 fs_X0_99 ?_
                refine sw_iload_n dX0_goesTo_134 rfl ?_
                refine sw_callS dX0_goesTo_135 lS_X0_72 (c_atX _) rfl rfl (Nat.le_of_ble_eq_true rfl) (Nat.le_of_ble_eq_true rfl) ?_
                refine sw_iadd dX0_goesTo_138 ?_
                refine sw_aload_n dX0_goesTo_139 rfl ?_
                refine sw_getI dX0_goesTo_140 fl_X0_37 (sm_Fo hk) rfl ?_
                refine sw_getY dX0_goesTo_143 fs_X0_105 ?_
                refine sw_iload_n dX0_goesTo_146 rfl ?_
                refine sw_callS dX0_goesTo_147 lS_X0_72 (c_atY _) rfl rfl (Nat.le_of_ble_eq_true rfl) (Nat.le_of_ble_eq_true rfl) ?_
                refine sw_iadd dX0_goesTo_150 ?_
                refine sw_callN dX0_goesTo_151 lN_X0_121 (c_isCell _ _) (fun h => h.2.2.1) rfl rfl (Nat.le_of_ble_eq_true rfl) (Nat.le_of_ble_eq_true rfl) ?_
                refine sw_if_eq (tgt := 161) dX0_goesTo_154 (by decide) (fun h154 => ?_) (fun h154 => ?_)
                · refine sw_iconst (v := 0) dX0_goesTo_161 (by decide) ?_
                  refine sw_iret dX0_goesTo_162 rfl rfl ?_ ?_
                  all_goals (first | with_reducible rfl | (simp_all [-Int32.not_lt, -Int32.not_le, f_goes, f_to, f_dir, sm_b_e0, sm_b_e1, sm_b_0e, sm_b_1e, sm_V0, g_goes_8, g_goes_9, g_goes_o]))
                · refine sw_iload_n dX0_goesTo_157 rfl ?_
                  refine sw_goto (tgt := 162) dX0_goesTo_158 (by decide) ?_
                  refine sw_iret dX0_goesTo_162 rfl rfl ?_ ?_
                  all_goals (first | with_reducible rfl | (simp_all [-Int32.not_lt, -Int32.not_le, f_goes, f_to, f_dir, sm_b_e0, sm_b_e1, sm_b_0e, sm_b_1e, sm_V0, g_goes_8, g_goes_9, g_goes_o]))
        · refine sw_iconst (v := 0) dX0_goesTo_94 (by decide) ?_
          refine sw_iret dX0_goesTo_95 rfl rfl ?_ ?_
          all_goals (first | with_reducible rfl | (simp_all [-Int32.not_lt, -Int32.not_le, f_goes, f_to, f_dir, sm_b_e0, sm_b_e1, sm_b_0e, sm_b_1e, sm_V0, g_goes_8, g_goes_9, g_goes_o]))
    · have hlt : i < (σ k 7).toNatClampNeg := by rw [sm_set_ne (by decide), sm_set_ne (by decide), sm_le_clamp hib] at h29; omega
      refine sw_aload_n dX0_goesTo_32 rfl ?_
      refine sw_iload_n dX0_goesTo_33 rfl ?_
      refine sw_callV dX0_goesTo_34 lV_X0_112 (c_nearestPost (k := k) hk _) (sm_Fo hk) rfl rfl rfl (Nat.le_of_ble_eq_true rfl) (Nat.le_of_ble_eq_true rfl) ?_
      refine sw_istore_n dX0_goesTo_37 (by decide) rfl ?_
      refine sw_aload_n dX0_goesTo_38 rfl ?_
      refine sw_iload_n dX0_goesTo_39 rfl ?_
      refine sw_iload_n dX0_goesTo_40 rfl ?_
      refine sw_callV dX0_goesTo_41 lV_X0_115 (c_strengthTo (k := k) hk _ _) (sm_Fo hk) rfl rfl rfl (Nat.le_of_ble_eq_true rfl) (Nat.le_of_ble_eq_true rfl) ?_
      refine sw_istore_n dX0_goesTo_44 (by decide) rfl ?_
      refine sw_aload_n dX0_goesTo_45 rfl ?_
      refine sw_aload_n dX0_goesTo_46 rfl ?_
      refine sw_iload_n dX0_goesTo_47 rfl ?_
      refine sw_iload_n dX0_goesTo_48 rfl ?_
      refine sw_callV dX0_goesTo_49 lV_X0_118 (c_headingTo (k := k) hk _ _) (sm_Fo hk) rfl rfl rfl (Nat.le_of_ble_eq_true rfl) (Nat.le_of_ble_eq_true rfl) ?_
      refine sw_iload_n dX0_goesTo_52 rfl ?_
      refine sw_callV dX0_goesTo_53 lV_X0_108 (c_addPull (k := k) hk _ _) (sm_Fo hk) rfl rfl rfl (Nat.le_of_ble_eq_true rfl) (Nat.le_of_ble_eq_true rfl) ?_
      refine sw_iinc dX0_goesTo_56 rfl rfl (by decide) rfl ?_
      refine sw_goto (tgt := 24) dX0_goesTo_59 (by decide) ?_
      refine sw_st (σ2 := (sm_set (sm_set σ k 8 (f_pull (sm_V σ k) (i + 1)).1) k 9 (f_pull (sm_V σ k) (i + 1)).2)) ?_ ?_
      · rw [sm_89]
        simp only [f_head_ag f_ag_89, f_nearest_ag f_ag_89, f_str_ag f_ag_89, sm_set_eq, sm_set_ne (show 8 ≠ 9 by decide)]
        rfl
      refine sw_lv (ih (i + 1) (by omega) (by omega)) (And.intro rfl (And.intro (sm_e rfl ?_) trivial))
      all_goals (rw [sm_i1, nI_succ])

set_option maxHeartbeats 4000000 in
theorem c_goesTo {σ : sm_St} {k : Nat} (hk : sm_isF k) : sm_C yX0_goesTo cX0_goesTo 4 (some .int) 4 [.ref k] σ (some (.int (f_goes (sm_V σ k)))) (g_goes σ k) := by
  refine sm_C.of (own := RX0) (by decide) rfl (Nat.le_of_ble_eq_true rfl) ?_
  show sm_W RX0 cX0_goesTo 4 (some .int) 4 (some (.int (f_goes (sm_V σ k)))) (g_goes σ k) 0 [(0, .ref k)] [] σ
  refine sw_aload_n dX0_goesTo_0 rfl ?_
  refine sw_iconst (v := 0) dX0_goesTo_1 (by decide) ?_
  refine sw_put dX0_goesTo_2 fl_X0_96 fi_0_8 (sm_Fo hk) rfl ?_
  refine sw_aload_n dX0_goesTo_5 rfl ?_
  refine sw_iconst (v := 0) dX0_goesTo_6 (by decide) ?_
  refine sw_put dX0_goesTo_7 fl_X0_102 fi_0_9 (sm_Fo hk) rfl ?_
  refine sw_aload_n dX0_goesTo_10 rfl ?_
  refine sw_aload_n dX0_goesTo_11 rfl ?_
  refine sw_getI dX0_goesTo_12 fl_X0_43 (sm_Fo hk) rfl ?_
  refine sw_aload_n dX0_goesTo_15 rfl ?_
  refine sw_getI dX0_goesTo_16 fl_X0_46 (sm_Fo hk) rfl ?_
  refine sw_callV dX0_goesTo_19 lV_X0_108 (c_addPull (k := k) hk _ _) (sm_Fo hk) rfl rfl rfl (Nat.le_of_ble_eq_true rfl) (Nat.le_of_ble_eq_true rfl) ?_
  refine sw_iconst (v := 0) dX0_goesTo_22 (by decide) ?_
  refine sw_istore_n dX0_goesTo_23 (by decide) rfl ?_
  refine sw_st (σ2 := (sm_set (sm_set σ k 8 (f_pull (sm_V σ k) 0).1) k 9 (f_pull (sm_V σ k) 0).2)) ?_ ?_
  · rw [sm_89]
    simp only [sm_set_eq, sm_set_ne (show 8 ≠ 9 by decide), sm_set_ne (show 3 ≠ 9 by decide), sm_set_ne (show 4 ≠ 9 by decide), sm_set_ne (show 3 ≠ 8 by decide), sm_set_ne (show 4 ≠ 8 by decide)]
    rfl
  refine sw_lv (l_goesTo hk _ 0 (Nat.lt_succ_self _) (Nat.zero_le _)) (And.intro rfl (And.intro (sm_e rfl ?_) trivial))
  all_goals (rfl)

set_option maxHeartbeats 4000000 in
theorem l_goHours {σ : sm_St} {k : Nat} (hk : sm_isF k) (t : Int32) : ∀ n i : Nat, t.toNatClampNeg - i < n → i ≤ t.toNatClampNeg → sm_W RX0 cX0_goHours 5 (some .int) 5 (some (.int ((g_hours σ k t.toNatClampNeg).2))) (g_hours σ k t.toNatClampNeg).1 4 [(0, .ref k), (1, .int t), (2, .int (g_hours σ k i).2), (3, .int (nI i))] [] (g_hours σ k i).1 := by
  intro n
  induction n with
  | zero => intro i h1 h2; omega
  | succ n ih =>
    intro i h1 h2
    have hib : i < 2 ^ 31 := Nat.lt_of_le_of_lt h2 (sm_clamp_lt _)
    refine sw_iload_n dX0_goHours_4 rfl ?_
    refine sw_iload_n dX0_goHours_5 rfl ?_
    refine sw_icmp_ge (tgt := 78) dX0_goHours_6 (by decide) (fun h6 => ?_) (fun h6 => ?_)
    · have hge : t.toNatClampNeg ≤ i := (sm_le_clamp hib).mp h6
      refine sw_iload_n dX0_goHours_78 rfl ?_
      refine sw_iret dX0_goHours_79 rfl rfl ?_ ?_
      all_goals (first | with_reducible rfl | (rw [show i = t.toNatClampNeg by omega]))
    · have hlt : i < t.toNatClampNeg := by rw [sm_le_clamp hib] at h6; omega
      refine sw_aload_n dX0_goHours_9 rfl ?_
      refine sw_callV dX0_goHours_10 lV_X0_125 (c_goesTo (k := k) hk) (sm_Fo hk) rfl rfl rfl (Nat.le_of_ble_eq_true rfl) (Nat.le_of_ble_eq_true rfl) ?_
      refine sw_istore dX0_goHours_13 (by decide) rfl ?_
      refine sw_iload_n dX0_goHours_15 rfl ?_
      refine sw_iload dX0_goHours_16 rfl ?_
      refine sw_if_ne (tgt := 25) dX0_goHours_18 (by decide) (fun h18 => ?_) (fun h18 => ?_)
      · refine sw_iconst (v := 0) dX0_goHours_25 (by decide) ?_
        refine sw_iadd dX0_goHours_26 ?_
        refine sw_istore_n dX0_goHours_27 (by decide) rfl ?_
        refine sw_aload_n dX0_goHours_28 rfl ?_
        refine sw_dup dX0_goHours_29 rfl ?_
        refine sw_getI dX0_goHours_30 fl_X0_33 (sm_Fo hk) rfl ?_
        refine sw_getX dX0_goHours_33 fs_X0_99 ?_
        refine sw_iload dX0_goHours_36 rfl ?_
        refine sw_callS dX0_goHours_38 lS_X0_72 (c_atX _) rfl rfl (Nat.le_of_ble_eq_true rfl) (Nat.le_of_ble_eq_true rfl) ?_
        refine sw_iadd dX0_goHours_41 ?_
        refine sw_put dX0_goHours_42 fl_X0_33 fi_0_0 (sm_Fo hk) rfl ?_
        refine sw_aload_n dX0_goHours_45 rfl ?_
        refine sw_dup dX0_goHours_46 rfl ?_
        refine sw_getI dX0_goHours_47 fl_X0_37 (sm_Fo hk) rfl ?_
        refine sw_getY dX0_goHours_50 fs_X0_105 ?_
        refine sw_iload dX0_goHours_53 rfl ?_
        refine sw_callS dX0_goHours_55 lS_X0_72 (c_atY _) rfl rfl (Nat.le_of_ble_eq_true rfl) (Nat.le_of_ble_eq_true rfl) ?_
        refine sw_iadd dX0_goHours_58 ?_
        refine sw_put dX0_goHours_59 fl_X0_37 fi_0_1 (sm_Fo hk) rfl ?_
        refine sw_aload_n dX0_goHours_62 rfl ?_
        refine sw_dup dX0_goHours_63 rfl ?_
        refine sw_getI dX0_goHours_64 fl_X0_49 (sm_Fo hk) rfl ?_
        refine sw_iconst (v := 1) dX0_goHours_67 (by decide) ?_
        refine sw_iadd dX0_goHours_68 ?_
        refine sw_put dX0_goHours_69 fl_X0_49 fi_0_5 (sm_Fo hk) rfl ?_
        refine sw_iinc dX0_goHours_72 rfl rfl (by decide) rfl ?_
        refine sw_goto (tgt := 4) dX0_goHours_75 (by decide) ?_
        refine sw_st (σ2 := (g_hours σ k (i + 1)).1) ?_ ?_
        · show _ = g_hour (g_hours σ k i).1 k
          unfold g_hour
          simp [g_goes_o, sm_set_ne]
        refine sw_lv (ih (i + 1) (by omega) (by omega)) (And.intro rfl (And.intro rfl (And.intro (sm_e rfl ?_) (And.intro (sm_e rfl ?_) trivial))))
        all_goals (first | (rw [sm_i1, nI_succ]; done) | (show _ = (g_hours σ k i).2 + _; simp only [if_pos, if_neg, not_false_eq_true, *]))
      · refine sw_iconst (v := 1) dX0_goHours_21 (by decide) ?_
        refine sw_goto (tgt := 26) dX0_goHours_22 (by decide) ?_
        refine sw_iadd dX0_goHours_26 ?_
        refine sw_istore_n dX0_goHours_27 (by decide) rfl ?_
        refine sw_aload_n dX0_goHours_28 rfl ?_
        refine sw_dup dX0_goHours_29 rfl ?_
        refine sw_getI dX0_goHours_30 fl_X0_33 (sm_Fo hk) rfl ?_
        refine sw_getX dX0_goHours_33 fs_X0_99 ?_
        refine sw_iload dX0_goHours_36 rfl ?_
        refine sw_callS dX0_goHours_38 lS_X0_72 (c_atX _) rfl rfl (Nat.le_of_ble_eq_true rfl) (Nat.le_of_ble_eq_true rfl) ?_
        refine sw_iadd dX0_goHours_41 ?_
        refine sw_put dX0_goHours_42 fl_X0_33 fi_0_0 (sm_Fo hk) rfl ?_
        refine sw_aload_n dX0_goHours_45 rfl ?_
        refine sw_dup dX0_goHours_46 rfl ?_
        refine sw_getI dX0_goHours_47 fl_X0_37 (sm_Fo hk) rfl ?_
        refine sw_getY dX0_goHours_50 fs_X0_105 ?_
        refine sw_iload dX0_goHours_53 rfl ?_
        refine sw_callS dX0_goHours_55 lS_X0_72 (c_atY _) rfl rfl (Nat.le_of_ble_eq_true rfl) (Nat.le_of_ble_eq_true rfl) ?_
        refine sw_iadd dX0_goHours_58 ?_
        refine sw_put dX0_goHours_59 fl_X0_37 fi_0_1 (sm_Fo hk) rfl ?_
        refine sw_aload_n dX0_goHours_62 rfl ?_
        refine sw_dup dX0_goHours_63 rfl ?_
        refine sw_getI dX0_goHours_64 fl_X0_49 (sm_Fo hk) rfl ?_
        refine sw_iconst (v := 1) dX0_goHours_67 (by decide) ?_
        refine sw_iadd dX0_goHours_68 ?_
        refine sw_put dX0_goHours_69 fl_X0_49 fi_0_5 (sm_Fo hk) rfl ?_
        refine sw_iinc dX0_goHours_72 rfl rfl (by decide) rfl ?_
        refine sw_goto (tgt := 4) dX0_goHours_75 (by decide) ?_
        refine sw_st (σ2 := (g_hours σ k (i + 1)).1) ?_ ?_
        · show _ = g_hour (g_hours σ k i).1 k
          unfold g_hour
          simp [g_goes_o, sm_set_ne]
        refine sw_lv (ih (i + 1) (by omega) (by omega)) (And.intro rfl (And.intro rfl (And.intro (sm_e rfl ?_) (And.intro (sm_e rfl ?_) trivial))))
        all_goals (first | (rw [sm_i1, nI_succ]; done) | (show _ = (g_hours σ k i).2 + _; simp only [if_pos, if_neg, not_false_eq_true, *]))

set_option maxHeartbeats 4000000 in
theorem c_goHours {σ : sm_St} {k : Nat} (hk : sm_isF k) (t : Int32) : sm_C yX0_goHours cX0_goHours 5 (some .int) 5 [.ref k, .int t] σ (some (.int ((g_hours σ k t.toNatClampNeg).2))) (g_hours σ k t.toNatClampNeg).1 := by
  refine sm_C.of (own := RX0) (by decide) rfl (Nat.le_of_ble_eq_true rfl) ?_
  show sm_W RX0 cX0_goHours 5 (some .int) 5 (some (.int ((g_hours σ k t.toNatClampNeg).2))) (g_hours σ k t.toNatClampNeg).1 0 [(0, .ref k), (1, .int t)] [] σ
  refine sw_iconst (v := 0) dX0_goHours_0 (by decide) ?_
  refine sw_istore_n dX0_goHours_1 (by decide) rfl ?_
  refine sw_iconst (v := 0) dX0_goHours_2 (by decide) ?_
  refine sw_istore_n dX0_goHours_3 (by decide) rfl ?_
  refine sw_lv (l_goHours hk t _ 0 (Nat.lt_succ_self _) (Nat.zero_le _)) (And.intro rfl (And.intro rfl (And.intro (sm_e rfl ?_) (And.intro (sm_e rfl ?_) trivial))))
  all_goals (rfl)

def g_clear (σ : sm_St) (k : Nat) : sm_St := sm_set (sm_set (sm_set (sm_set (sm_set (sm_set (sm_set (sm_set σ k 0 4) k 1 4) k 2 2) k 3 0) k 4 0) k 5 0) k 6 0) k 7 0

set_option maxHeartbeats 4000000 in
theorem c_clear {σ : sm_St} {k : Nat} (hk : sm_isF k) : sm_C yX0_clear cX0_clear 1 none 0 [.ref k] σ none (g_clear σ k) := by
  refine sm_C.of (own := RX0) (by decide) rfl (Nat.le_of_ble_eq_true rfl) ?_
  show sm_W RX0 cX0_clear 1 none 0 none (g_clear σ k) 0 [(0, .ref k)] [] σ
  refine sw_aload_n dX0_clear_0 rfl ?_
  refine sw_iconst (v := 4) dX0_clear_1 (by decide) ?_
  refine sw_put dX0_clear_2 fl_X0_33 fi_0_0 (sm_Fo hk) rfl ?_
  refine sw_aload_n dX0_clear_5 rfl ?_
  refine sw_iconst (v := 4) dX0_clear_6 (by decide) ?_
  refine sw_put dX0_clear_7 fl_X0_37 fi_0_1 (sm_Fo hk) rfl ?_
  refine sw_aload_n dX0_clear_10 rfl ?_
  refine sw_iconst (v := 2) dX0_clear_11 (by decide) ?_
  refine sw_put dX0_clear_12 fl_X0_40 fi_0_2 (sm_Fo hk) rfl ?_
  refine sw_aload_n dX0_clear_15 rfl ?_
  refine sw_iconst (v := 0) dX0_clear_16 (by decide) ?_
  refine sw_put dX0_clear_17 fl_X0_43 fi_0_3 (sm_Fo hk) rfl ?_
  refine sw_aload_n dX0_clear_20 rfl ?_
  refine sw_iconst (v := 0) dX0_clear_21 (by decide) ?_
  refine sw_put dX0_clear_22 fl_X0_46 fi_0_4 (sm_Fo hk) rfl ?_
  refine sw_aload_n dX0_clear_25 rfl ?_
  refine sw_iconst (v := 0) dX0_clear_26 (by decide) ?_
  refine sw_put dX0_clear_27 fl_X0_49 fi_0_5 (sm_Fo hk) rfl ?_
  refine sw_aload_n dX0_clear_30 rfl ?_
  refine sw_iconst (v := 0) dX0_clear_31 (by decide) ?_
  refine sw_put dX0_clear_32 fl_X0_52 fi_0_6 (sm_Fo hk) rfl ?_
  refine sw_aload_n dX0_clear_35 rfl ?_
  refine sw_iconst (v := 0) dX0_clear_36 (by decide) ?_
  refine sw_put dX0_clear_37 fl_X0_55 fi_0_7 (sm_Fo hk) rfl ?_
  refine sw_vret dX0_clear_40 rfl rfl ?_
  all_goals (first | with_reducible rfl | (rfl))

/-- all but what was reckoned last: as in j -/
def g_copy (σ : sm_St) (k j : Nat) : sm_St := fun q => if q = k then (fun i => if i < 8 then σ j i else σ k i) else if k < q ∧ q < k + 8 then va_cpy (σ (j + (q - k))) (σ q) 0 0 (if q - k < 5 then 6 else 8) else σ q
theorem sm_row_eq {σ : sm_St} {k : Nat} {f : Nat → Int32} : sm_row σ k f k = f := by simp [sm_row]
theorem sm_row_off {σ : sm_St} {k q : Nat} {f : Nat → Int32} (h : q ≠ k) : sm_row σ k f q = σ q := by simp [sm_row, h]

theorem g_copy_eq {σ : sm_St} {k j : Nat} (hk : sm_isF k) (hj : sm_isF j) (hne : k ≠ j) : (sm_row (sm_row (sm_row (sm_row (sm_row (sm_row (sm_row (sm_set (sm_set (sm_set (sm_set (sm_set (sm_set (sm_set (sm_set σ k 0 (σ j 0)) k 1 (σ j 1)) k 2 (σ j 2)) k 3 (σ j 3)) k 4 (σ j 4)) k 5 (σ j 5)) k 6 (σ j 6)) k 7 (σ j 7)) (k + 1) (va_cpy (σ (j + 1)) (σ (k + 1)) 0 0 6)) (k + 2) (va_cpy (σ (j + 2)) (σ (k + 2)) 0 0 6)) (k + 3) (va_cpy (σ (j + 3)) (σ (k + 3)) 0 0 6)) (k + 4) (va_cpy (σ (j + 4)) (σ (k + 4)) 0 0 6)) (k + 5) (va_cpy (σ (j + 5)) (σ (k + 5)) 0 0 8)) (k + 6) (va_cpy (σ (j + 6)) (σ (k + 6)) 0 0 8)) (k + 7) (va_cpy (σ (j + 7)) (σ (k + 7)) 0 0 8)) = g_copy σ k j := by
  have e1 := hk.2
  have e2 := hj.2
  funext q
  by_cases h0 : q = k
  · subst h0
    have e3 : g_copy σ q j q = (fun i => if i < 8 then σ j i else σ q i) := by unfold g_copy; rw [if_pos rfl]
    rw [e3]
    simp only [sm_row_off (show q ≠ q + 1 by omega), sm_row_off (show q ≠ q + 2 by omega), sm_row_off (show q ≠ q + 3 by omega), sm_row_off (show q ≠ q + 4 by omega), sm_row_off (show q ≠ q + 5 by omega), sm_row_off (show q ≠ q + 6 by omega), sm_row_off (show q ≠ q + 7 by omega)]
    funext i
    by_cases hi : i < 8
    · rw [if_pos hi]
      rcases (show i = 0 ∨ i = 1 ∨ i = 2 ∨ i = 3 ∨ i = 4 ∨ i = 5 ∨ i = 6 ∨ i = 7 by omega) with rfl | rfl | rfl | rfl | rfl | rfl | rfl | rfl <;> simp [sm_set, upd]
    · rw [if_neg hi]
      simp [sm_set, upd, show i ≠ 0 by omega, show i ≠ 1 by omega, show i ≠ 2 by omega, show i ≠ 3 by omega, show i ≠ 4 by omega, show i ≠ 5 by omega, show i ≠ 6 by omega, show i ≠ 7 by omega]
  · by_cases h1 : k < q ∧ q < k + 8
    · rcases (show q = k + 1 ∨ q = k + 2 ∨ q = k + 3 ∨ q = k + 4 ∨ q = k + 5 ∨ q = k + 6 ∨ q = k + 7 by omega) with rfl | rfl | rfl | rfl | rfl | rfl | rfl <;> simp [g_copy, sm_row]
    · have e3 : g_copy σ k j q = σ q := by unfold g_copy; rw [if_neg h0, if_neg h1]
      rw [e3]
      simp [sm_row, sm_set, h0, show q ≠ k + 1 by omega, show q ≠ k + 2 by omega, show q ≠ k + 3 by omega, show q ≠ k + 4 by omega, show q ≠ k + 5 by omega, show q ≠ k + 6 by omega, show q ≠ k + 7 by omega]
theorem g_cpy_row {τ : sm_St} {k j a n : Nat} {f g : Nat → Int32} (h1 : τ (j + a) = f) (h2 : τ (k + a) = g) : sm_row τ (k + a) (va_cpy (τ (j + a)) (τ (k + a)) 0 0 n) = sm_row τ (k + a) (va_cpy f g 0 0 n) := by rw [h1, h2]

set_option maxHeartbeats 4000000 in
theorem c_copyFrom {σ : sm_St} {k j : Nat} (hk : sm_isF k) (hj : sm_isF j) (hne : k ≠ j) : sm_C yX0_copyFrom cX0_copyFrom 2 none 2 [.ref k, .ref j] σ none (g_copy σ k j) := by
  refine sm_C.of (own := RX0) (by decide) rfl (Nat.le_of_ble_eq_true rfl) ?_
  have hq : ∀ a b : Nat, a < 8 → b < 8 → j + a ≠ k + b := by have e1 := hk.2; have e2 := hj.2; intro a b ha hb; omega
  have hq0 : ∀ a : Nat, a < 8 → j + a ≠ k := by have e1 := hk.2; have e2 := hj.2; intro a ha; omega
  show sm_W RX0 cX0_copyFrom 2 none 2 none (g_copy σ k j) 0 [(0, .ref k), (1, .ref j)] [] σ
  refine sw_aload_n dX0_copyFrom_0 rfl ?_
  refine sw_aload_n dX0_copyFrom_1 rfl ?_
  refine sw_getI dX0_copyFrom_2 fl_X0_33 (sm_Fo hj) rfl ?_
  refine sw_top (y := σ j 0) (by simp [sm_set, Ne.symm hne]) ?_
  refine sw_put dX0_copyFrom_5 fl_X0_33 fi_0_0 (sm_Fo hk) rfl ?_
  refine sw_aload_n dX0_copyFrom_8 rfl ?_
  refine sw_aload_n dX0_copyFrom_9 rfl ?_
  refine sw_getI dX0_copyFrom_10 fl_X0_37 (sm_Fo hj) rfl ?_
  refine sw_top (y := σ j 1) (by simp [sm_set, Ne.symm hne]) ?_
  refine sw_put dX0_copyFrom_13 fl_X0_37 fi_0_1 (sm_Fo hk) rfl ?_
  refine sw_aload_n dX0_copyFrom_16 rfl ?_
  refine sw_aload_n dX0_copyFrom_17 rfl ?_
  refine sw_getI dX0_copyFrom_18 fl_X0_40 (sm_Fo hj) rfl ?_
  refine sw_top (y := σ j 2) (by simp [sm_set, Ne.symm hne]) ?_
  refine sw_put dX0_copyFrom_21 fl_X0_40 fi_0_2 (sm_Fo hk) rfl ?_
  refine sw_aload_n dX0_copyFrom_24 rfl ?_
  refine sw_aload_n dX0_copyFrom_25 rfl ?_
  refine sw_getI dX0_copyFrom_26 fl_X0_43 (sm_Fo hj) rfl ?_
  refine sw_top (y := σ j 3) (by simp [sm_set, Ne.symm hne]) ?_
  refine sw_put dX0_copyFrom_29 fl_X0_43 fi_0_3 (sm_Fo hk) rfl ?_
  refine sw_aload_n dX0_copyFrom_32 rfl ?_
  refine sw_aload_n dX0_copyFrom_33 rfl ?_
  refine sw_getI dX0_copyFrom_34 fl_X0_46 (sm_Fo hj) rfl ?_
  refine sw_top (y := σ j 4) (by simp [sm_set, Ne.symm hne]) ?_
  refine sw_put dX0_copyFrom_37 fl_X0_46 fi_0_4 (sm_Fo hk) rfl ?_
  refine sw_aload_n dX0_copyFrom_40 rfl ?_
  refine sw_aload_n dX0_copyFrom_41 rfl ?_
  refine sw_getI dX0_copyFrom_42 fl_X0_49 (sm_Fo hj) rfl ?_
  refine sw_top (y := σ j 5) (by simp [sm_set, Ne.symm hne]) ?_
  refine sw_put dX0_copyFrom_45 fl_X0_49 fi_0_5 (sm_Fo hk) rfl ?_
  refine sw_aload_n dX0_copyFrom_48 rfl ?_
  refine sw_aload_n dX0_copyFrom_49 rfl ?_
  refine sw_getI dX0_copyFrom_50 fl_X0_52 (sm_Fo hj) rfl ?_
  refine sw_top (y := σ j 6) (by simp [sm_set, Ne.symm hne]) ?_
  refine sw_put dX0_copyFrom_53 fl_X0_52 fi_0_6 (sm_Fo hk) rfl ?_
  refine sw_aload_n dX0_copyFrom_56 rfl ?_
  refine sw_aload_n dX0_copyFrom_57 rfl ?_
  refine sw_getI dX0_copyFrom_58 fl_X0_55 (sm_Fo hj) rfl ?_
  refine sw_top (y := σ j 7) (by simp [sm_set, Ne.symm hne]) ?_
  refine sw_put dX0_copyFrom_61 fl_X0_55 fi_0_7 (sm_Fo hk) rfl ?_
  refine sw_aload_n dX0_copyFrom_64 rfl ?_
  refine sw_getR (j := j + 1) dX0_copyFrom_65 fl_X0_9 (sm_Fo hj) rfl ?_
  refine sw_aload_n dX0_copyFrom_68 rfl ?_
  refine sw_getR (j := k + 1) dX0_copyFrom_69 fl_X0_9 (sm_Fo hk) rfl ?_
  refine sw_callS dX0_copyFrom_72 lS_X0_58 (c_copy (a := j + 1) (b := k + 1) (sm_Fa1 hj) (sm_Fa1 hk)) rfl rfl (Nat.le_of_ble_eq_true rfl) (Nat.le_of_ble_eq_true rfl) ?_
  refine sw_st (g_cpy_row (f := σ (j + 1)) (g := σ (k + 1)) (by simp [sm_row, sm_set, hq0 1 (by decide), hq 1 _ (by decide)]) (by simp [sm_row, sm_set])) ?_
  refine sw_aload_n dX0_copyFrom_75 rfl ?_
  refine sw_getR (j := j + 2) dX0_copyFrom_76 fl_X0_15 (sm_Fo hj) rfl ?_
  refine sw_aload_n dX0_copyFrom_79 rfl ?_
  refine sw_getR (j := k + 2) dX0_copyFrom_80 fl_X0_15 (sm_Fo hk) rfl ?_
  refine sw_callS dX0_copyFrom_83 lS_X0_58 (c_copy (a := j + 2) (b := k + 2) (sm_Fa2 hj) (sm_Fa2 hk)) rfl rfl (Nat.le_of_ble_eq_true rfl) (Nat.le_of_ble_eq_true rfl) ?_
  refine sw_st (g_cpy_row (f := σ (j + 2)) (g := σ (k + 2)) (by simp [sm_row, sm_set, hq0 2 (by decide), hq 2 _ (by decide)]) (by simp [sm_row, sm_set])) ?_
  refine sw_aload_n dX0_copyFrom_86 rfl ?_
  refine sw_getR (j := j + 3) dX0_copyFrom_87 fl_X0_18 (sm_Fo hj) rfl ?_
  refine sw_aload_n dX0_copyFrom_90 rfl ?_
  refine sw_getR (j := k + 3) dX0_copyFrom_91 fl_X0_18 (sm_Fo hk) rfl ?_
  refine sw_callS dX0_copyFrom_94 lS_X0_58 (c_copy (a := j + 3) (b := k + 3) (sm_Fa3 hj) (sm_Fa3 hk)) rfl rfl (Nat.le_of_ble_eq_true rfl) (Nat.le_of_ble_eq_true rfl) ?_
  refine sw_st (g_cpy_row (f := σ (j + 3)) (g := σ (k + 3)) (by simp [sm_row, sm_set, hq0 3 (by decide), hq 3 _ (by decide)]) (by simp [sm_row, sm_set])) ?_
  refine sw_aload_n dX0_copyFrom_97 rfl ?_
  refine sw_getR (j := j + 4) dX0_copyFrom_98 fl_X0_21 (sm_Fo hj) rfl ?_
  refine sw_aload_n dX0_copyFrom_101 rfl ?_
  refine sw_getR (j := k + 4) dX0_copyFrom_102 fl_X0_21 (sm_Fo hk) rfl ?_
  refine sw_callS dX0_copyFrom_105 lS_X0_58 (c_copy (a := j + 4) (b := k + 4) (sm_Fa4 hj) (sm_Fa4 hk)) rfl rfl (Nat.le_of_ble_eq_true rfl) (Nat.le_of_ble_eq_true rfl) ?_
  refine sw_st (g_cpy_row (f := σ (j + 4)) (g := σ (k + 4)) (by simp [sm_row, sm_set, hq0 4 (by decide), hq 4 _ (by decide)]) (by simp [sm_row, sm_set])) ?_
  refine sw_aload_n dX0_copyFrom_108 rfl ?_
  refine sw_getR (j := j + 5) dX0_copyFrom_109 fl_X0_24 (sm_Fo hj) rfl ?_
  refine sw_aload_n dX0_copyFrom_112 rfl ?_
  refine sw_getR (j := k + 5) dX0_copyFrom_113 fl_X0_24 (sm_Fo hk) rfl ?_
  refine sw_callS dX0_copyFrom_116 lS_X0_58 (c_copy (a := j + 5) (b := k + 5) (sm_Fa5 hj) (sm_Fa5 hk)) rfl rfl (Nat.le_of_ble_eq_true rfl) (Nat.le_of_ble_eq_true rfl) ?_
  refine sw_st (g_cpy_row (f := σ (j + 5)) (g := σ (k + 5)) (by simp [sm_row, sm_set, hq0 5 (by decide), hq 5 _ (by decide)]) (by simp [sm_row, sm_set])) ?_
  refine sw_aload_n dX0_copyFrom_119 rfl ?_
  refine sw_getR (j := j + 6) dX0_copyFrom_120 fl_X0_27 (sm_Fo hj) rfl ?_
  refine sw_aload_n dX0_copyFrom_123 rfl ?_
  refine sw_getR (j := k + 6) dX0_copyFrom_124 fl_X0_27 (sm_Fo hk) rfl ?_
  refine sw_callS dX0_copyFrom_127 lS_X0_58 (c_copy (a := j + 6) (b := k + 6) (sm_Fa6 hj) (sm_Fa6 hk)) rfl rfl (Nat.le_of_ble_eq_true rfl) (Nat.le_of_ble_eq_true rfl) ?_
  refine sw_st (g_cpy_row (f := σ (j + 6)) (g := σ (k + 6)) (by simp [sm_row, sm_set, hq0 6 (by decide), hq 6 _ (by decide)]) (by simp [sm_row, sm_set])) ?_
  refine sw_aload_n dX0_copyFrom_130 rfl ?_
  refine sw_getR (j := j + 7) dX0_copyFrom_131 fl_X0_30 (sm_Fo hj) rfl ?_
  refine sw_aload_n dX0_copyFrom_134 rfl ?_
  refine sw_getR (j := k + 7) dX0_copyFrom_135 fl_X0_30 (sm_Fo hk) rfl ?_
  refine sw_callS dX0_copyFrom_138 lS_X0_58 (c_copy (a := j + 7) (b := k + 7) (sm_Fa7 hj) (sm_Fa7 hk)) rfl rfl (Nat.le_of_ble_eq_true rfl) (Nat.le_of_ble_eq_true rfl) ?_
  refine sw_st (g_cpy_row (f := σ (j + 7)) (g := σ (k + 7)) (by simp [sm_row, sm_set, hq0 7 (by decide), hq 7 _ (by decide)]) (by simp [sm_row, sm_set])) ?_
  refine sw_vret dX0_copyFrom_141 rfl rfl ?_
  all_goals (first | with_reducible rfl | (exact g_copy_eq hk hj hne))

set_option maxHeartbeats 4000000 in
theorem c_changePost {σ : sm_St} {k : Nat} (hk : sm_isF k) (p x y s : Int32) : sm_C yX0_changePost cX0_changePost 5 none 2 [.ref k, .int p, .int x, .int y, .int s] σ none (r_set (r_set (r_set σ (k + 1) 6 p x) (k + 2) 6 p y) (k + 3) 6 p s) := by
  refine sm_C.of (own := RX0) (by decide) rfl (Nat.le_of_ble_eq_true rfl) ?_
  show sm_W RX0 cX0_changePost 5 none 2 none (r_set (r_set (r_set σ (k + 1) 6 p x) (k + 2) 6 p y) (k + 3) 6 p s) 0 [(0, .ref k), (1, .int p), (2, .int x), (3, .int y), (4, .int s)] [] σ
  refine sw_aload_n dX0_changePost_0 rfl ?_
  refine sw_getR (j := k + 1) dX0_changePost_1 fl_X0_9 (sm_Fo hk) rfl ?_
  refine sw_iload_n dX0_changePost_4 rfl ?_
  refine sw_iload_n dX0_changePost_5 rfl ?_
  refine sw_callS dX0_changePost_6 lS_X0_68 (c_set (k := k + 1) (sm_Fa1 hk) _ _) rfl rfl (Nat.le_of_ble_eq_true rfl) (Nat.le_of_ble_eq_true rfl) ?_
  refine sw_aload_n dX0_changePost_9 rfl ?_
  refine sw_getR (j := k + 2) dX0_changePost_10 fl_X0_15 (sm_Fo hk) rfl ?_
  refine sw_iload_n dX0_changePost_13 rfl ?_
  refine sw_iload_n dX0_changePost_14 rfl ?_
  refine sw_callS dX0_changePost_15 lS_X0_68 (c_set (k := k + 2) (sm_Fa2 hk) _ _) rfl rfl (Nat.le_of_ble_eq_true rfl) (Nat.le_of_ble_eq_true rfl) ?_
  refine sw_aload_n dX0_changePost_18 rfl ?_
  refine sw_getR (j := k + 3) dX0_changePost_19 fl_X0_18 (sm_Fo hk) rfl ?_
  refine sw_iload_n dX0_changePost_22 rfl ?_
  refine sw_iload dX0_changePost_23 rfl ?_
  refine sw_callS dX0_changePost_25 lS_X0_68 (c_set (k := k + 3) (sm_Fa3 hk) _ _) rfl rfl (Nat.le_of_ble_eq_true rfl) (Nat.le_of_ble_eq_true rfl) ?_
  refine sw_vret dX0_changePost_28 rfl rfl ?_
  all_goals (first | with_reducible rfl | (rfl))

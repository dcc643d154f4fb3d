/-! class and model: lay -/
theorem y_p1_at {i q l : Nat} {τ : sm_St} (hi : i < 5) : y_p1 i τ q l = if q = 117 ∧ l = i then 0 else if q = 116 ∧ l = i then τ 123 (3 * i + 2) else if q = 115 ∧ l = i then τ 123 (3 * i + 1) else if q = 114 ∧ l = i then τ 123 (3 * i) else τ q l := by
  unfold y_p1 q_sets
  have e0 : (3 : Int32) * nI i = nI (3 * i) := by rw [show (3 : Int32) = nI 3 from rfl, pk_mul]
  rw [e0, show nI (3 * i) + 1 = nI (3 * i + 1) from nI_1 _, show nI (3 * i) + 2 = nI (3 * i + 2) by rw [show (2 : Int32) = nI 2 from rfl, nI_add], r_at_nI rfl (show 3 * i < 15 by omega) (by decide), r_at_nI rfl (show 3 * i + 1 < 15 by omega) (by decide), r_at_nI rfl (show 3 * i + 2 < 15 by omega) (by decide), r_set_nI rfl (show i < 6 by omega) (by decide), r_set_nI rfl (show i < 6 by omega) (by decide), r_set_nI rfl (show i < 6 by omega) (by decide), r_set_nI rfl (show i < 6 by omega) (by decide), sm_set_at, sm_set_at, sm_set_at, sm_set_at]
theorem y_lp_at {p : Nat} : ∀ (n i : Nat) (τ : sm_St), i + n ≤ 5 → (i ≤ p ∧ p < i + n → y_lp n i τ 114 p = τ 123 (3 * p) ∧ y_lp n i τ 115 p = τ 123 (3 * p + 1) ∧ y_lp n i τ 116 p = τ 123 (3 * p + 2) ∧ y_lp n i τ 117 p = 0) ∧ (¬ (i ≤ p ∧ p < i + n) → ∀ q, y_lp n i τ q p = τ q p)
  | 0, i, τ, _ => ⟨fun h => by omega, fun _ q => rfl⟩
  | n + 1, i, τ, h => by
    obtain ⟨h1, h2⟩ := y_lp_at (p := p) n (i + 1) (y_p1 i τ) (by omega)
    have r123 : y_p1 i τ 123 = τ 123 := y_p1_off (by omega)
    unfold y_lp
    refine ⟨fun hp => ?_, fun hp q => ?_⟩
    · by_cases e : p = i
      · have h3 := h2 (by omega)
        rw [h3, h3, h3, h3, y_p1_at (by omega), y_p1_at (by omega), y_p1_at (by omega), y_p1_at (by omega)]
        subst e
        simp
      · have h3 := h1 (by omega)
        rw [r123] at h3
        exact h3
    · rw [h2 (by omega), y_p1_at (by omega), if_neg (by omega), if_neg (by omega), if_neg (by omega), if_neg (by omega)]
theorem y_c1_at {i q l : Nat} {τ : sm_St} (hi : i < 7) : y_c1 i τ q l = if q = 113 ∧ l = i then τ 124 (3 * i + 2) else if q = 112 ∧ l = i then τ 124 (3 * i + 1) else if q = 111 ∧ l = i then τ 124 (3 * i) else τ q l := by
  unfold y_c1
  have e0 : (3 : Int32) * nI i = nI (3 * i) := by rw [show (3 : Int32) = nI 3 from rfl, pk_mul]
  rw [e0, show nI (3 * i) + 1 = nI (3 * i + 1) from nI_1 _, show nI (3 * i) + 2 = nI (3 * i + 2) by rw [show (2 : Int32) = nI 2 from rfl, nI_add], r_at_nI rfl (show 3 * i < 21 by omega) (by decide), r_at_nI rfl (show 3 * i + 1 < 21 by omega) (by decide), r_at_nI rfl (show 3 * i + 2 < 21 by omega) (by decide), r_set_nI rfl (show i < 8 by omega) (by decide), r_set_nI rfl (show i < 8 by omega) (by decide), r_set_nI rfl (show i < 8 by omega) (by decide), sm_set_at, sm_set_at, sm_set_at]
theorem y_lc_at {p : Nat} : ∀ (n i : Nat) (τ : sm_St), i + n ≤ 7 → (i ≤ p ∧ p < i + n → y_lc n i τ 111 p = τ 124 (3 * p) ∧ y_lc n i τ 112 p = τ 124 (3 * p + 1) ∧ y_lc n i τ 113 p = τ 124 (3 * p + 2)) ∧ (¬ (i ≤ p ∧ p < i + n) → ∀ q, y_lc n i τ q p = τ q p)
  | 0, i, τ, _ => ⟨fun h => by omega, fun _ q => rfl⟩
  | n + 1, i, τ, h => by
    obtain ⟨h1, h2⟩ := y_lc_at (p := p) n (i + 1) (y_c1 i τ) (by omega)
    have r124 : y_c1 i τ 124 = τ 124 := y_c1_off (by omega)
    unfold y_lc
    refine ⟨fun hp => ?_, fun hp q => ?_⟩
    · by_cases e : p = i
      · have h3 := h2 (by omega)
        rw [h3, h3, h3, y_c1_at (by omega), y_c1_at (by omega), y_c1_at (by omega)]
        subst e
        simp
      · have h3 := h1 (by omega)
        rw [r124] at h3
        exact h3
    · rw [h2 (by omega), y_c1_at (by omega), if_neg (by omega), if_neg (by omega), if_neg (by omega)]
theorem y_head_at {τ : sm_St} {q l : Nat} : y_head τ q l = if q = 110 ∧ l = 1 then τ 110 23 else if q = 110 ∧ l = 0 then τ 110 22 else if q = 110 ∧ l = 10 then τ 122 4 else if q = 110 ∧ l = 9 then τ 122 3 else if q = 110 ∧ l = 2 then τ 122 2 else if q = 110 ∧ l = 8 then τ 122 1 else if q = 110 ∧ l = 7 then τ 122 0 else τ q l := by
  unfold y_head
  rw [sm_set_at, sm_set_at, sm_set_at, sm_set_at, sm_set_at, sm_set_at, sm_set_at, r_at_nI (j := 0) (show (0 : Int32) = nI 0 from rfl) (by decide) (by decide), r_at_nI (j := 1) (show (1 : Int32) = nI 1 from rfl) (by decide) (by decide), r_at_nI (j := 2) (show (2 : Int32) = nI 2 from rfl) (by decide) (by decide), r_at_nI (j := 3) (show (3 : Int32) = nI 3 from rfl) (by decide) (by decide), r_at_nI (j := 4) (show (4 : Int32) = nI 4 from rfl) (by decide) (by decide)]
theorem y_tail_at {τ : sm_St} {q l : Nat} : y_tail τ q l = if q = 110 ∧ l = 34 then 0 else if q = 110 ∧ l = 31 then 0 else if q = 110 ∧ l = 15 then 0 else if q = 110 ∧ l = 6 then 0 else τ q l := by
  unfold y_tail
  rw [sm_set_at, sm_set_at, sm_set_at, sm_set_at]
theorem y_head_off {τ : sm_St} {q : Nat} (h : q ≠ 110) : y_head τ q = τ q := by
  funext l
  rw [y_head_at, if_neg (fun a => h a.1), if_neg (fun a => h a.1), if_neg (fun a => h a.1), if_neg (fun a => h a.1), if_neg (fun a => h a.1), if_neg (fun a => h a.1), if_neg (fun a => h a.1)]
theorem y_tail_off {τ : sm_St} {q : Nat} (h : q ≠ 110) : y_tail τ q = τ q := by
  funext l
  rw [y_tail_at, if_neg (fun a => h a.1), if_neg (fun a => h a.1), if_neg (fun a => h a.1), if_neg (fun a => h a.1)]
theorem w_lay {σ τ : sm_St} {np nc z t u tp kk tk : Nat} (hI : w_I σ τ np nc z t u tp kk tk) : (m_lay σ).1 = (p_lay τ).1 ∧ ∃ np' nc' z' u' kk', w_I (m_lay σ).2 (p_lay τ).2 np' nc' z' t u' tp kk' tk := by
  obtain ⟨f1, f2⟩ := w_faultA hI.2.2.2.1
  obtain ⟨-, hIf⟩ := w_fault hI
  unfold m_lay p_lay
  rw [← f1]
  by_cases h4 : (x_into σ 8).1 = -4
  · obtain ⟨a, rp, rc, ⟨⟨r1, r2, r3⟩, ⟨r4, r5⟩, ⟨r6, r7, r8⟩, ⟨r9, r10, r11⟩, ⟨⟨u0, u1, u2, u3, u4, u5⟩, u6, u7, u8⟩, rpo, rcr⟩⟩ := f2 h4
    rw [r6, r7, r9, r10]
    by_cases h0 : nI rp = 0 ∨ nI rc = 0
    · rw [if_pos (Or.inr h0), if_pos (Or.inr h0)]
      exact ⟨rfl, np, nc, z, u, kk, hIf⟩
    · have hn : ¬ (¬ (x_into σ 8).1 = -4 ∨ nI rp = 0 ∨ nI rc = 0) := fun hh => hh.elim (fun q => q h4) h0
      rw [if_neg hn, if_neg hn]
      dsimp only
      have rp1 : 1 ≤ rp := by
        rcases Nat.eq_zero_or_pos rp with e | e
        · exact absurd (Or.inl (by rw [e]; rfl)) h0
        · exact e
      have rc1 : 1 ≤ rc := by
        rcases Nat.eq_zero_or_pos rc with e | e
        · exact absurd (Or.inr (by rw [e]; rfl)) h0
        · exact e
      generalize hX : (x_into σ 8).2 = X at *
      generalize hY : (y_fault τ).2 = Y at *
      have yl : y_laid Y = y_tail (y_lc rc 0 (y_lp rp 0 (y_head Y))) := by
        unfold y_laid
        rw [r7, r10, nI_clamp (by omega), nI_clamp (by omega)]
      -- the model's numbers behind it
      have y110 : ∀ l, y_laid Y 110 l = if l = 34 ∨ l = 31 ∨ l = 15 ∨ l = 6 then 0 else if l = 1 then nI rc else if l = 0 then nI rp else if l = 10 then Y 122 4 else if l = 9 then Y 122 3 else if l = 2 then Y 122 2 else if l = 8 then Y 122 1 else if l = 7 then Y 122 0 else Y 110 l := fun l => by
        rw [yl, y_tail_at, y_lc_off (by omega), y_lp_off (by omega), y_head_at, r7, r10]
        by_cases e34 : l = 34
        · subst e34; rfl
        · by_cases e31 : l = 31
          · subst e31; rfl
          · by_cases e15 : l = 15
            · subst e15; rfl
            · by_cases e6 : l = 6
              · subst e6; rfl
              · rw [if_neg (fun hh => e34 hh.2), if_neg (fun hh => e31 hh.2), if_neg (fun hh => e15 hh.2), if_neg (fun hh => e6 hh.2), if_neg (c := l = 34 ∨ l = 31 ∨ l = 15 ∨ l = 6) (by omega)]
                simp only [true_and]
      have yoff : ∀ q, q < 110 ∨ 117 < q → y_laid Y q = Y q := fun q hq => by
        rw [yl, y_tail_off (by omega), y_lc_off (by omega), y_lp_off (by omega), y_head_off (by omega)]
      have yp : ∀ q p, 114 ≤ q → q ≤ 117 → y_laid Y q p = y_lp rp 0 (y_head Y) q p := fun q p a b => by
        rw [yl, y_tail_off (by omega), y_lc_off (by omega)]
      have yc : ∀ q p, 111 ≤ q → q ≤ 113 → y_laid Y q p = y_lc rc 0 (y_lp rp 0 (y_head Y)) q p := fun q p a b => by
        rw [yl, y_tail_off (by omega)]
      have h123 : y_head Y 123 = Y 123 := y_head_off (by decide)
      have h124 : y_lp rp 0 (y_head Y) 124 = Y 124 := by rw [y_lp_off (by omega), y_head_off (by decide)]
      have yP : ∀ p, p < rp → y_laid Y 114 p = Y 123 (3 * p) ∧ y_laid Y 115 p = Y 123 (3 * p + 1) ∧ y_laid Y 116 p = Y 123 (3 * p + 2) ∧ y_laid Y 117 p = 0 := fun p hp => by
        have := (y_lp_at (p := p) rp 0 (y_head Y) (by omega)).1 (by omega)
        rw [h123] at this
        rw [yp 114 p (by decide) (by decide), yp 115 p (by decide) (by decide), yp 116 p (by decide) (by decide), yp 117 p (by decide) (by decide)]
        exact this
      have yC : ∀ p, p < rc → y_laid Y 111 p = Y 124 (3 * p) ∧ y_laid Y 112 p = Y 124 (3 * p + 1) ∧ y_laid Y 113 p = Y 124 (3 * p + 2) := fun p hp => by
        have := (y_lc_at (p := p) rc 0 (y_lp rp 0 (y_head Y)) (by omega)).1 (by omega)
        rw [h124] at this
        rw [yc 111 p (by decide) (by decide), yc 112 p (by decide) (by decide), yc 113 p (by decide) (by decide)]
        exact this
      have y28 : y_laid Y 110 28 = 0 := by
        rw [y110]
        show Y 110 28 = 0
        exact hIf.1.2.2.2.2.1
      have y29 : y_laid Y 110 29 = 0 := by
        rw [y110]
        show Y 110 29 = 0
        exact hIf.1.2.2.2.2.2
      have y0 : y_laid Y 110 0 = nI rp := by rw [y110]; rfl
      have y1 : y_laid Y 110 1 = nI rc := by rw [y110]; rfl
      have y7 : y_laid Y 110 7 = Y 122 0 := by rw [y110]; rfl
      have y8 : y_laid Y 110 8 = Y 122 1 := by rw [y110]; rfl
      have y2 : y_laid Y 110 2 = Y 122 2 := by rw [y110]; rfl
      have y9 : y_laid Y 110 9 = Y 122 3 := by rw [y110]; rfl
      have y10 : y_laid Y 110 10 = Y 122 4 := by rw [y110]; rfl
      have y6 : y_laid Y 110 6 = 0 := by rw [y110]; rfl
      -- the class's
      have cX : ∀ q, q < 8 → sm_set (sm_set (sm_set (g_copy X 0 8) 100 3 0) 104 1 0) 106 1 0 q = g_copy X 0 8 q := fun q hq => by rw [sm_set_off (by omega), sm_set_off (by omega), sm_set_off (by omega)]
      have cY : ∀ q l, 8 ≤ q → ¬ (q = 100 ∧ l = 3) → ¬ (q = 104 ∧ l = 1) → ¬ (q = 106 ∧ l = 1) → sm_set (sm_set (sm_set (g_copy X 0 8) 100 3 0) 104 1 0) 106 1 0 q l = X q l := fun q l a b c d => by
        rw [sm_set_at, if_neg d, sm_set_at, if_neg c, sm_set_at, if_neg b, g_copy_off (by omega)]
      have hag : w_ag rp rc (sm_V (sm_set (sm_set (sm_set (g_copy X 0 8) 100 3 0) 104 1 0) 106 1 0) 0) (q_V (y_laid Y)) := by
        have e1 : w_ag rp rc (sm_V (sm_set (sm_set (sm_set (g_copy X 0 8) 100 3 0) 104 1 0) 106 1 0) 0) (sm_V X 8) :=
          (w_ag_c 0 (fun i _ => by rw [cX 0 (by decide)]) (fun q a b => cX q (by omega))).tr (w_copy (by omega) (by omega))
        refine e1.tr ⟨fun i hi => ?_, fun m m1 m2 i hi => ?_⟩
        · rcases (show i = 0 ∨ i = 1 ∨ i = 2 ∨ i = 3 ∨ i = 4 ∨ i = 5 ∨ i = 6 ∨ i = 7 by omega) with rfl | rfl | rfl | rfl | rfl | rfl | rfl | rfl
          · exact u0.trans y7.symm
          · exact u1.trans y8.symm
          · exact u2.trans y2.symm
          · exact u3.trans y9.symm
          · exact u4.trans y10.symm
          · exact u5.trans y6.symm
          · show X 8 6 = y_laid Y 110 0 + y_laid Y 110 28
            rw [y0, y28, Int32.add_zero]
            exact r6
          · show X 8 7 = y_laid Y 110 1 + y_laid Y 110 29
            rw [y1, y29, Int32.add_zero]
            exact r9
        · rcases (show m = 1 ∨ m = 2 ∨ m = 3 ∨ m = 4 ∨ m = 5 ∨ m = 6 ∨ m = 7 by omega) with rfl | rfl | rfl | rfl | rfl | rfl | rfl
          · rw [if_pos (by decide)] at hi
            exact (rpo i hi).1.1.trans (yP i hi).1.symm
          · rw [if_pos (by decide)] at hi
            exact (rpo i hi).1.2.1.trans (yP i hi).2.1.symm
          · rw [if_pos (by decide)] at hi
            exact (rpo i hi).1.2.2.1.trans (yP i hi).2.2.1.symm
          · rw [if_pos (by decide)] at hi
            exact (rpo i hi).1.2.2.2.trans (yP i hi).2.2.2.symm
          · rw [if_neg (by decide)] at hi
            exact (rcr i hi).1.1.trans (yC i hi).1.symm
          · rw [if_neg (by decide)] at hi
            exact (rcr i hi).1.2.1.trans (yC i hi).2.1.symm
          · rw [if_neg (by decide)] at hi
            exact (rcr i hi).1.2.2.trans (yC i hi).2.2.symm
      have hok : w_ok (q_V (y_laid Y)) rp rc := by
        refine ⟨?_, by omega, ?_, by omega, ?_, ?_, ?_, fun p hp => ?_, fun p hp => ?_, fun c hc => ?_⟩
        · show y_laid Y 110 0 + y_laid Y 110 28 = nI rp
          rw [y0, y28, Int32.add_zero]
        · show y_laid Y 110 1 + y_laid Y 110 29 = nI rc
          rw [y1, y29, Int32.add_zero]
        · show ∃ k, k < 5 ∧ y_laid Y 110 9 = nI k
          rw [y9]; exact u8
        · show ∃ k, k < 9 ∧ y_laid Y 110 7 = nI k
          rw [y7]; exact u6
        · show ∃ k, k < 9 ∧ y_laid Y 110 8 = nI k
          rw [y8]; exact u7
        · show ∃ k, k < 9 ∧ y_laid Y 114 p = nI k
          rw [(yP p hp).1]; exact (rpo p hp).2.1
        · show ∃ k, k < 9 ∧ y_laid Y 115 p = nI k
          rw [(yP p hp).2.1]; exact (rpo p hp).2.2
        · show ∃ k, k < 10 ∧ y_laid Y 113 c = nI k
          rw [(yC c hc).2.2]; exact (rcr c hc).2
      have t104 := hIf.2.2.2.2.1.2.1
      have t106 := hIf.2.2.2.2.2.2.1
      refine ⟨?_, rp, rc, 0, 0, 0, ⟨hag, hok, ⟨⟨y0, r8⟩, rp1⟩, ⟨⟨y1, r11⟩, rc1⟩, y28, y29⟩, fun p hp => Or.inl (yP p hp).2.2.2, ⟨⟨?_, ?_, by decide⟩, fun i hi => by omega⟩, ?_, w_pl_0 ?_ ?_ ?_ t104.2, w_pl_0 ?_ ?_ ?_ t106.2⟩
      · exact (show g_copy X 0 8 0 7 = X 8 7 by unfold g_copy; rw [if_pos rfl, if_pos (by decide)]).trans r9
      · rw [sm_set_off (by decide), sm_set_off (by decide), sm_set_eq]; rfl
      · rw [y110]; rfl
      · refine w_txt_e (cY 97 2 (by decide) (by omega) (by omega) (by omega)) ?_ ?_ (yoff 121 (by omega)) hIf.2.2.2.1
        · funext l
          exact cY 98 l (by decide) (by omega) (by omega) (by omega)
        · rw [y110]; rfl
      · rw [sm_set_off (by decide), sm_set_eq]
      · rw [y110]; rfl
      · rw [cY 104 2 (by decide) (by omega) (by omega) (by omega)]; exact t104.1
      · rw [sm_set_eq]
      · rw [y110]; rfl
      · rw [cY 106 2 (by decide) (by omega) (by omega) (by omega)]; exact t106.1
  · rw [if_pos (Or.inl h4), if_pos (Or.inl h4)]
    exact ⟨rfl, np, nc, z, u, kk, hIf⟩

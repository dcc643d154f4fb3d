/-! class and model: voyage -/
theorem w_m {X d : Nat} {D : Int32} (e : D = nI d) (hX : X < 2 ^ 31) (h0 : 0 < d) (hd : d < 2 ^ 31) : m_rem (nI X) D = nI (X % d) := by
  subst e
  exact pk_rem hX h0 hd
theorem w_change {σ τ : sm_St} {np nc X : Nat} (hX : X < 65536) (h : w_ag np nc (sm_V σ 8) (q_V τ)) (hw : w_ok (q_V τ) np nc) (hN : q_N τ np) (h1 : 1 ≤ np) : w_ag np nc (sm_V (m_change σ (nI X)) 8) (q_V (q_ch τ (nI X))) ∧ w_ok (q_V (q_ch τ (nI X))) np nc := by
  have hn := hN.2
  have e6 : σ 8 6 = nI np := (h.1 6 (by decide)).trans hw.n0
  have d8 : nI X / 8 = nI (X / 8) := pk_div (d := 8) (by omega) (by decide) (by decide)
  unfold m_change q_ch
  rw [e6, hN.1, d8]
  by_cases a : m_rem (nI X) 8 = 0
  · rw [if_pos a, if_pos a]
    refine ⟨w_set (by omega) (w_set (by omega) h), w_ok_wind (Or.inr rfl) (w_ok_wind (Or.inl ⟨rfl, X / 8 % 5, by omega, ?_⟩) hw)⟩
    exact w_m (d := 5) rfl (by omega) (by decide) (by decide)
  · rw [if_neg a, if_neg a]
    by_cases b : m_rem (nI X) 8 = 1
    · have hlt : X / 8 % np < np := Nat.mod_lt _ h1
      have np0 : ¬ nI np ≤ 0 := fun hh => absurd ((nI_leI (b := 0) (by omega) (by decide)).mp hh) (by omega)
      rw [if_pos ⟨b, np0⟩, if_pos b, w_m (X := X / 8) rfl (by omega) h1 (by omega)]
      exact ⟨w_smell (by omega) h, w_smell_ok hw⟩
    · rw [if_neg (fun hh => b hh.1), if_neg b]
      exact ⟨h, hw⟩
theorem w_voy {np nc zz : Nat} (hz : zz ≤ 9999) (h1 : 1 ≤ np) : ∀ (n i : Nat) (s : Int32) (σ τ : sm_St), i + n ≤ 60 → w_ag np nc (sm_V σ 8) (q_V τ) → w_ok (q_V τ) np nc → q_N τ np →
    (g_voy (nI zz) n i s σ).1 = (q_vo np nc (nI zz) n i s τ).1 ∧ w_ag np nc (sm_V (g_voy (nI zz) n i s σ).2 8) (q_V (q_vo np nc (nI zz) n i s τ).2)
  | 0, _, _, _, _, _, h, _, _ => ⟨rfl, h⟩
  | n + 1, i, s, σ, τ, hi, h, hw, hN => by
    obtain ⟨X, hX, eX⟩ : ∃ X, X < 65536 ∧ m_draw (nI zz) (nI i) = nI X := ⟨_, by omega, m_draw_nI hz (by omega)⟩
    obtain ⟨h2, hw2⟩ := w_change hX h hw hN h1
    have e : f_goes (sm_V (m_change σ (nI X)) 8) = q_goes (q_V (q_ch τ (nI X))) np nc := w_goesA h2 hw2
    obtain ⟨e1, e2⟩ := w_h1 (m_change σ (nI X))
    unfold g_voy q_vo
    rw [eX, e1, e2, e]
    exact w_voy hz h1 n (i + 1) _ _ _ (by omega) (w_hour_ag h2 hw2) (w_hour_ok hw2) (q_hour_N (q_ch_N hN))
theorem w_voyage {σ τ : sm_St} {np nc : Nat} (h : w_now σ τ np nc) (z t w : Int32) : (m_voyage σ z t w).1 = (p_voyage τ np nc z t w).1 := by
  unfold m_voyage p_voyage
  by_cases hc : sm_win z 0 9999 = true ∧ sm_win t 1 60 = true ∧ sm_win w 0 2 = true
  · rw [if_pos hc, if_pos hc]
    obtain ⟨zz, hzz, rfl⟩ := sm_win_nI (m := 9999) rfl (by decide) hc.1
    have ht : t.toNatClampNeg ≤ 60 := q_t60 hc.2.1
    obtain ⟨h1, h2⟩ := w_try h
    obtain ⟨a1, a2⟩ := w_voy (np := np) (nc := nc) hzz h.2.2.1.2 t.toNatClampNeg 0 0 _ _ (by omega) h1 h2 (q_N_lays (by decide) h.2.2.1.1)
    have b0 : (g_voy (nI zz) t.toNatClampNeg 0 0 (m_try σ)).2 8 0 = (q_vo np nc (nI zz) t.toNatClampNeg 0 0 (q_lays τ 126 0)).2 110 7 := a2.1 0 (by decide)
    have b1 : (g_voy (nI zz) t.toNatClampNeg 0 0 (m_try σ)).2 8 1 = (q_vo np nc (nI zz) t.toNatClampNeg 0 0 (q_lays τ 126 0)).2 110 8 := a2.1 1 (by decide)
    unfold m_voy q_endv
    dsimp only
    rw [a1, b0, b1]
    obtain ⟨j, hj, rfl⟩ := sm_win_nI (m := 2) rfl (by decide) hc.2.2
    rcases (show j = 0 ∨ j = 1 ∨ j = 2 by omega) with rfl | rfl | rfl
    · rw [if_neg (show ¬ nI 0 = 2 by decide), if_pos (show nI 0 = 0 by decide), if_pos (show nI 0 = 0 by decide)]
    · rw [if_neg (show ¬ nI 1 = 2 by decide), if_neg (show ¬ nI 1 = 0 by decide), if_neg (show ¬ nI 1 = 0 by decide), if_pos (show nI 1 = 1 by decide)]
    · rw [if_pos (show nI 2 = 2 by decide), if_neg (show ¬ nI 2 = 0 by decide), if_neg (show ¬ nI 2 = 1 by decide)]
  · rw [if_neg hc, if_neg hc]

/-! class and model: the text as written, what has been seen -/
def w_txt (σ τ : sm_St) (t : Nat) : Prop := (σ 97 2 = nI t ∧ τ 110 20 = nI t ∧ t ≤ 200) ∧ ∀ i, i < t → σ 98 i = τ 121 i ∧ ∃ c, 32 ≤ c ∧ c ≤ 126 ∧ τ 121 i = nI c
def w_see (σ τ : sm_St) (z : Nat) : Prop := (σ 100 3 = nI z ∧ τ 110 15 = nI z ∧ z ≤ 6) ∧ ∀ i, i < z → (σ 101 i = τ 118 i ∧ σ 102 i = τ 119 i ∧ σ 103 i = τ 120 i) ∧ (∃ a, a < 9 ∧ τ 118 i = nI a) ∧ (∃ b, b < 9 ∧ τ 119 i = nI b) ∧ ∃ k, k < 5 ∧ τ 120 i = nI k
theorem w_rsn {σ : sm_St} {k n j i : Nat} {v : Int32} (hj : j < n) (hn : n < 1000) : r_set σ k n (nI j) v k i = if i = j then v else σ k i := by
  rw [r_set_nI rfl hj hn]
  by_cases h : i = j
  · rw [h, sm_set_eq, if_pos rfl]
  · rw [sm_set_ne h, if_neg h]
theorem w_winab {c : Int32} (h : sm_win c 32 126 = true) : ∃ j, 32 ≤ j ∧ j ≤ 126 ∧ c = nI j := by
  unfold sm_win at h
  obtain ⟨h1, h2⟩ := of_decide_eq_true h
  have h3 : ¬ c < 0 := fun hh => h1 (Int32.lt_trans hh (by decide))
  obtain ⟨j, hj, ej⟩ := sm_win_nI (x := c) (m := 126) (b := 126) rfl (by decide) (by unfold sm_win; exact decide_eq_true ⟨h3, h2⟩)
  refine ⟨j, ?_, hj, ej⟩
  rcases Nat.lt_or_ge j 32 with h5 | h5
  · exact absurd (by rw [ej]; exact (nI_ltI (by omega) (by decide)).mpr h5) h1
  · exact h5
theorem w_write {σ τ : sm_St} {t : Nat} (h : w_txt σ τ t) (c : Int32) : (m_write σ c).1 = (p_write τ c).1 ∧ ∃ t', w_txt (m_write σ c).2 (p_write τ c).2 t' := by
  obtain ⟨⟨h1, h2, h3⟩, h4⟩ := h
  unfold m_write p_write
  by_cases hc : sm_win c 32 126 = true
  · rw [if_pos hc, if_pos hc, h1, h2]
    by_cases ht : t = 200
    · rw [if_neg (fun hh => absurd ((nI_ltI (by omega) (by decide)).mp hh) (by omega)), if_pos (by rw [ht]; rfl)]
      exact ⟨rfl, t, ⟨h1, h2, h3⟩, h4⟩
    · rw [if_pos ((nI_ltI (by omega) (by decide)).mpr (by omega)), if_neg (fun hh => ht (by
        have hh2 := congrArg Int32.toInt (show nI t = nI 200 from hh)
        rw [nI_toInt (by omega), nI_toInt (by decide)] at hh2
        omega))]
      refine ⟨rfl, t + 1, ⟨?_, ?_, by omega⟩, fun i hi => ?_⟩
      · show sm_set (r_set σ 98 200 (σ 97 2) c) 97 2 (σ 97 2 + 1) 97 2 = nI (t + 1)
        rw [sm_set_eq, h1, nI_1]
      · show sm_set (r_set τ 121 200 (nI t) c) 110 20 (nI t + 1) 110 20 = nI (t + 1)
        rw [sm_set_eq, nI_1]
      · show sm_set (r_set σ 98 200 (σ 97 2) c) 97 2 (σ 97 2 + 1) 98 i = sm_set (r_set τ 121 200 (nI t) c) 110 20 (nI t + 1) 121 i ∧ ∃ k, 32 ≤ k ∧ k ≤ 126 ∧ sm_set (r_set τ 121 200 (nI t) c) 110 20 (nI t + 1) 121 i = nI k
        rw [sm_set_off (by decide), sm_set_off (by decide), h1, w_rsn (by omega) (by decide), w_rsn (by omega) (by decide)]
        by_cases e : i = t
        · rw [if_pos e, if_pos e]
          exact ⟨rfl, w_winab hc⟩
        · rw [if_neg e, if_neg e]
          exact h4 i (by omega)
  · rw [if_neg hc, if_neg hc]
    exact ⟨rfl, t, ⟨h1, h2, h3⟩, h4⟩
theorem w_wipe {σ τ : sm_St} {t : Nat} (h : w_txt σ τ t) : σ 97 2 = τ 110 20 ∧ w_txt (sm_set σ 97 2 0) (sm_set τ 110 20 0) 0 :=
  ⟨h.1.1.trans h.1.2.1.symm, ⟨sm_set_eq, sm_set_eq, by omega⟩, fun i hi => absurd hi (by omega)⟩
theorem w_forget {σ τ : sm_St} {z : Nat} (h : w_see σ τ z) : σ 100 3 = τ 110 15 ∧ w_see (sm_set σ 100 3 0) (sm_set τ 110 15 0) 0 :=
  ⟨h.1.1.trans h.1.2.1.symm, ⟨sm_set_eq, sm_set_eq, by omega⟩, fun i hi => absurd hi (by omega)⟩
theorem w_seen {σ τ : sm_St} {z : Nat} (h : w_see σ τ z) (x y d : Int32) : (m_seen σ x y d).1 = (p_seen τ x y d).1 ∧ ∃ z', w_see (m_seen σ x y d).2 (p_seen τ x y d).2 z' := by
  obtain ⟨⟨h1, h2, h3⟩, h4⟩ := h
  unfold m_seen p_seen
  by_cases hc : sm_cell x y = true ∧ sm_win d 0 4 = true
  · rw [if_pos hc, if_pos hc, h1, h2]
    by_cases hz : z = 6
    · rw [if_neg (show ¬ nI z < 6 from fun hh => absurd ((nI_ltI (by omega) (by decide)).mp (show nI z < nI 6 from hh)) (by omega)), if_pos (show nI z = 6 by rw [hz]; rfl)]
      exact ⟨rfl, z, ⟨h1, h2, h3⟩, h4⟩
    · rw [if_pos (show nI z < 6 from (nI_ltI (b := 6) (by omega) (by decide)).mpr (by omega)), if_neg (show ¬ nI z = 6 from fun hh => hz (by
        have hh2 := congrArg Int32.toInt (show nI z = nI 6 from hh)
        rw [nI_toInt (by omega), nI_toInt (by decide)] at hh2
        omega))]
      refine ⟨rfl, z + 1, ⟨?_, ?_, by omega⟩, fun i hi => ?_⟩
      · show sm_set (r_set (r_set (r_set σ 101 6 (σ 100 3) x) 102 6 (σ 100 3) y) 103 6 (σ 100 3) d) 100 3 (σ 100 3 + 1) 100 3 = nI (z + 1)
        rw [sm_set_eq, h1, nI_1]
      · show sm_set (r_set (r_set (r_set τ 118 6 (nI z) x) 119 6 (nI z) y) 120 6 (nI z) d) 110 15 (nI z + 1) 110 15 = nI (z + 1)
        rw [sm_set_eq, nI_1]
      · have a1 : ∀ i, g_seen σ x y d 101 i = if i = z then x else σ 101 i := fun i => by
          unfold g_seen
          rw [sm_set_off (by decide), r_set_off (by decide), r_set_off (by decide), h1, w_rsn (by omega) (by decide)]
        have a2 : ∀ i, g_seen σ x y d 102 i = if i = z then y else σ 102 i := fun i => by
          unfold g_seen
          rw [sm_set_off (by decide), r_set_off (by decide), h1, w_rsn (by omega) (by decide), r_set_off (by decide)]
        have a3 : ∀ i, g_seen σ x y d 103 i = if i = z then d else σ 103 i := fun i => by
          unfold g_seen
          rw [sm_set_off (by decide), h1, w_rsn (by omega) (by decide), r_set_off (by decide), r_set_off (by decide)]
        have b1 : ∀ i, sm_set (r_set (r_set (r_set τ 118 6 (nI z) x) 119 6 (nI z) y) 120 6 (nI z) d) 110 15 (nI z + 1) 118 i = if i = z then x else τ 118 i := fun i => by
          rw [sm_set_off (by decide), r_set_off (by decide), r_set_off (by decide), w_rsn (by omega) (by decide)]
        have b2 : ∀ i, sm_set (r_set (r_set (r_set τ 118 6 (nI z) x) 119 6 (nI z) y) 120 6 (nI z) d) 110 15 (nI z + 1) 119 i = if i = z then y else τ 119 i := fun i => by
          rw [sm_set_off (by decide), r_set_off (by decide), w_rsn (by omega) (by decide), r_set_off (by decide)]
        have b3 : ∀ i, sm_set (r_set (r_set (r_set τ 118 6 (nI z) x) 119 6 (nI z) y) 120 6 (nI z) d) 110 15 (nI z + 1) 120 i = if i = z then d else τ 120 i := fun i => by
          rw [sm_set_off (by decide), w_rsn (by omega) (by decide), r_set_off (by decide), r_set_off (by decide)]
        dsimp only
        rw [a1, a2, a3, b1, b2, b3]
        by_cases e : i = z
        · rw [if_pos e, if_pos e, if_pos e, if_pos e, if_pos e, if_pos e]
          obtain ⟨w1, w2⟩ := w_cell hc.1
          obtain ⟨k, hk, ek⟩ := sm_win_nI (m := 4) rfl (by decide) hc.2
          exact ⟨⟨rfl, rfl, rfl⟩, w1, w2, k, by omega, ek⟩
        · rw [if_neg e, if_neg e, if_neg e, if_neg e, if_neg e, if_neg e]
          exact h4 i (by omega)
  · rw [if_neg hc, if_neg hc]
    exact ⟨rfl, z, ⟨h1, h2, h3⟩, h4⟩

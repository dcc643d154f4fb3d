/-! three numbers, an item, the text -/
def s_T3 (L : Nat → Nat) (a : Nat) (p0 p1 p2 : Nat × Nat) : Prop := s_one L 44 a = some p0 ∧ s_one L 44 p0.2 = some p1 ∧ s_one L 59 p1.2 = some p2
def s_T2 (L : Nat → Nat) (a : Nat) (p0 p1 : Nat × Nat) : Prop := s_one L 44 a = some p0 ∧ s_one L 59 p0.2 = some p1
theorem s_one_u {L : Nat → Nat} {a e : Nat} {p q : Nat × Nat} (h : s_one L e a = some p) (h2 : s_one L e a = some q) : p = q := Option.some.inj (h.symm.trans h2)
theorem x_three_s {L : Nat → Nat} {t a : Nat} {σ : sm_St} (hL : s_L L t) (h : s_C L t σ) (ha : σ 97 3 = nI a) (ha2 : a < 800) :
    (∃ p0 p1 p2 σ', s_T3 L a p0 p1 p2 ∧ x_three σ = (true, σ') ∧ σ' 97 3 = nI p2.2 ∧ (σ' 99 0 = nI p0.1 ∧ σ' 99 1 = nI p1.1 ∧ σ' 99 2 = nI p2.1) ∧ s_f σ' σ) ∨ ((∀ p0 p1 p2, ¬ s_T3 L a p0 p1 p2) ∧ (x_three σ).1 = false) := by
  have h1 := x_one_s (i := 0) (e := 44) hL h ha (by omega) (by decide) (by decide)
  rw [show nI 0 = (0 : Int32) from rfl, show nI 44 = (44 : Int32) from rfl] at h1
  rcases h1 with ⟨p0, σ1, a1, a2, a3, a4, a5, a6⟩ | ⟨a1, a2⟩
  · obtain ⟨b1, b2, b3⟩ := s_one_a a1 hL.2.2
    have h2 := x_one_s (i := 1) (e := 44) hL (a6.C h) a3 (by omega) (by decide) (by decide)
    rw [show nI 1 = (1 : Int32) from rfl, show nI 44 = (44 : Int32) from rfl] at h2
    rcases h2 with ⟨p1, σ2, c1, c2, c3, c4, c5, c6⟩ | ⟨c1, c2⟩
    · obtain ⟨d1, d2, d3⟩ := s_one_a c1 hL.2.2
      have h3 := x_one_s (i := 2) (e := 59) hL (c6.C (a6.C h)) c3 (by omega) (by decide) (by decide)
      rw [show nI 2 = (2 : Int32) from rfl, show nI 59 = (59 : Int32) from rfl] at h3
      rcases h3 with ⟨p2, σ3, e1, e2, e3, e4, e5, e6⟩ | ⟨e1, e2⟩
      · refine Or.inl ⟨p0, p1, p2, σ3, ⟨a1, c1, e1⟩, ?_, e3, ⟨?_, ?_, e4⟩, (e6.tr c6).tr a6⟩
        · unfold x_three
          rw [a2]
          dsimp only
          rw [if_pos rfl, c2]
          dsimp only
          rw [if_pos rfl, e2]
        · rw [e5 0 (by decide), c5 0 (by decide), a4]
        · rw [e5 1 (by decide), c4]
      · refine Or.inr ⟨fun q0 q1 q2 hq => ?_, ?_⟩
        · obtain rfl := s_one_u hq.1 a1
          obtain rfl := s_one_u hq.2.1 c1
          cases (e1.symm.trans hq.2.2)
        · unfold x_three
          rw [a2]
          dsimp only
          rw [if_pos rfl, c2]
          dsimp only
          rw [if_pos rfl]
          exact e2
    · refine Or.inr ⟨fun q0 q1 q2 hq => ?_, ?_⟩
      · obtain rfl := s_one_u hq.1 a1
        cases (c1.symm.trans hq.2.1)
      · unfold x_three
        rw [a2]
        dsimp only
        rw [if_pos rfl, c2, if_neg (by decide)]
  · refine Or.inr ⟨fun q0 q1 q2 hq => ?_, ?_⟩
    · cases (a1.symm.trans hq.1)
    · unfold x_three
      rw [a2, if_neg (by decide)]
theorem x_two_s {L : Nat → Nat} {t a : Nat} {σ : sm_St} (hL : s_L L t) (h : s_C L t σ) (ha : σ 97 3 = nI a) (ha2 : a < 800) :
    (∃ p0 p1 σ', s_T2 L a p0 p1 ∧ x_two σ = (true, σ') ∧ σ' 97 3 = nI p1.2 ∧ (σ' 99 0 = nI p0.1 ∧ σ' 99 1 = nI p1.1) ∧ s_f σ' σ) ∨ ((∀ p0 p1, ¬ s_T2 L a p0 p1) ∧ (x_two σ).1 = false) := by
  have h1 := x_one_s (i := 0) (e := 44) hL h ha (by omega) (by decide) (by decide)
  rw [show nI 0 = (0 : Int32) from rfl, show nI 44 = (44 : Int32) from rfl] at h1
  rcases h1 with ⟨p0, σ1, a1, a2, a3, a4, a5, a6⟩ | ⟨a1, a2⟩
  · obtain ⟨b1, b2, b3⟩ := s_one_a a1 hL.2.2
    have h2 := x_one_s (i := 1) (e := 59) hL (a6.C h) a3 (by omega) (by decide) (by decide)
    rw [show nI 1 = (1 : Int32) from rfl, show nI 59 = (59 : Int32) from rfl] at h2
    rcases h2 with ⟨p1, σ2, c1, c2, c3, c4, c5, c6⟩ | ⟨c1, c2⟩
    · refine Or.inl ⟨p0, p1, σ2, ⟨a1, c1⟩, ?_, c3, ⟨?_, c4⟩, c6.tr a6⟩
      · unfold x_two
        rw [a2]
        dsimp only
        rw [if_pos rfl, c2]
      · rw [c5 0 (by decide), a4]
    · refine Or.inr ⟨fun q0 q1 hq => ?_, ?_⟩
      · obtain rfl := s_one_u hq.1 a1
        cases (c1.symm.trans hq.2)
      · unfold x_two
        rw [a2]
        dsimp only
        rw [if_pos rfl]
        exact c2
  · refine Or.inr ⟨fun q0 q1 hq => ?_, ?_⟩
    · cases (a1.symm.trans hq.1)
    · unfold x_two
      rw [a2, if_neg (by decide)]
theorem s_g_row {r N i : Nat} {v : Int32} {τ' τ : sm_St} (hi : i < N) (hN : N < 1000) (h : s_g r τ' τ) : s_g r (r_set τ' r N (nI i) v) τ := fun q l x y => by
  rw [r_set_off y]
  exact h q l x y
theorem y_three_s {L : Nat → Nat} {t a r N p h0 h1 l2 h2 : Nat} {τ : sm_St} (hL : s_L L t) (h : s_M L t τ) (ha : τ 110 21 = nI a) (ha2 : a < 800) (hr : 122 ≤ r) (hp : p + 2 < N) (hN : N < 1000) (k0 : h0 < 1000) (k1 : h1 < 1000) (k2 : l2 < 1000) (k3 : h2 < 1000) :
    (∃ p0 p1 p2 τ', s_T3 L a p0 p1 p2 ∧ (p0.1 ≤ h0 ∧ p1.1 ≤ h1 ∧ l2 ≤ p2.1 ∧ p2.1 ≤ h2) ∧ y_three τ r N p (nI h0) (nI h1) (nI l2) (nI h2) = (true, τ') ∧ τ' 110 21 = nI p2.2 ∧ (τ' r p = nI p0.1 ∧ τ' r (p + 1) = nI p1.1 ∧ τ' r (p + 2) = nI p2.1) ∧ (∀ j, j ≠ p → j ≠ p + 1 → j ≠ p + 2 → τ' r j = τ r j) ∧ s_g r τ' τ) ∨
      ((∀ p0 p1 p2, s_T3 L a p0 p1 p2 → ¬ (p0.1 ≤ h0 ∧ p1.1 ≤ h1 ∧ l2 ≤ p2.1 ∧ p2.1 ≤ h2)) ∧ (y_three τ r N p (nI h0) (nI h1) (nI l2) (nI h2)).1 = false) := by
  have x1 := y_num_s (e := 44) (lo := 0) (hi := h0) hL h ha (by omega) (by decide) (by decide) k0 hr
  rw [show nI 0 = (0 : Int32) from rfl, show nI 44 = (44 : Int32) from rfl] at x1
  rcases x1 with ⟨p0, τ1, a1, a2, a3, a4, a5, a6, a7⟩ | ⟨a1, a2⟩
  · obtain ⟨b1, b2, b3⟩ := s_one_a a1 hL.2.2
    have g1 : s_g r (r_set τ1 r N (nI p) (τ1 110 27)) τ := s_g_row (by omega) hN a6
    have p1' : r_set τ1 r N (nI p) (τ1 110 27) 110 21 = nI p0.2 := by rw [r_set_off (by omega)]; exact a4
    have x2 := y_num_s (e := 44) (lo := 0) (hi := h1) hL (g1.M hr h) p1' (by omega) (by decide) (by decide) k1 hr
    rw [show nI 0 = (0 : Int32) from rfl, show nI 44 = (44 : Int32) from rfl] at x2
    rcases x2 with ⟨p1, τ2, c1, c2, c3, c4, c5, c6, c7⟩ | ⟨c1, c2⟩
    · obtain ⟨d1, d2, d3⟩ := s_one_a c1 hL.2.2
      have g2 : s_g r (r_set τ2 r N (nI p + 1) (τ2 110 27)) τ := by
        rw [nI_1]
        exact s_g_row (by omega) hN (c6.tr g1)
      have p2' : r_set τ2 r N (nI p + 1) (τ2 110 27) 110 21 = nI p1.2 := by rw [r_set_off (by omega)]; exact c4
      have x3 := y_num_s (e := 59) (lo := l2) (hi := h2) hL (g2.M hr h) p2' (by omega) (by decide) k2 k3 hr
      rw [show nI 59 = (59 : Int32) from rfl] at x3
      rcases x3 with ⟨p2, τ3, e1, e2, e3, e4, e5, e6, e7⟩ | ⟨e1, e2⟩
      · have i2 : nI p + 2 = nI (p + 2) := by rw [show (2 : Int32) = nI 2 from rfl, nI_add]
        have row : ∀ j, r_set τ3 r N (nI p + 2) (τ3 110 27) r j = if j = p + 2 then nI p2.1 else if j = p + 1 then nI p1.1 else if j = p then nI p0.1 else τ r j := fun j => by
          rw [i2, w_rsn (by omega) hN, e5]
          by_cases y : j = p + 2
          · rw [if_pos y, if_pos y]
          · rw [if_neg y, if_neg y, e7, nI_1, w_rsn (by omega) hN, c5]
            by_cases y1 : j = p + 1
            · rw [if_pos y1, if_pos y1]
            · rw [if_neg y1, if_neg y1, c7, w_rsn (by omega) hN, a5]
              by_cases y2 : j = p
              · rw [if_pos y2, if_pos y2]
              · rw [if_neg y2, if_neg y2, a7]
        refine Or.inl ⟨p0, p1, p2, r_set τ3 r N (nI p + 2) (τ3 110 27), ⟨a1, c1, e1⟩, ⟨a2.2, c2.2, e2.1, e2.2⟩, ?_, ?_, ⟨?_, ?_, ?_⟩, fun j j0 j1 j2 => ?_, ?_⟩
        · unfold y_three
          rw [a3]
          dsimp only
          rw [if_pos rfl, c3]
          dsimp only
          rw [if_pos rfl, e3]
          dsimp only
          rw [if_pos rfl]
        · rw [r_set_off (by omega)]; exact e4
        · rw [row, if_neg (by omega), if_neg (by omega), if_pos rfl]
        · rw [row, if_neg (by omega), if_pos rfl]
        · rw [row, if_pos rfl]
        · rw [row, if_neg j2, if_neg j1, if_neg j0]
        · rw [i2]
          exact s_g_row (by omega) hN (e6.tr g2)
      · refine Or.inr ⟨fun q0 q1 q2 hq hr => ?_, ?_⟩
        · obtain rfl := s_one_u hq.1 a1
          obtain rfl := s_one_u hq.2.1 c1
          exact e1 _ hq.2.2 ⟨hr.2.2.1, hr.2.2.2⟩
        · unfold y_three
          rw [a3]
          dsimp only
          rw [if_pos rfl, c3]
          dsimp only
          rw [if_pos rfl, e2, if_neg (by decide)]
    · refine Or.inr ⟨fun q0 q1 q2 hq hr => ?_, ?_⟩
      · obtain rfl := s_one_u hq.1 a1
        exact c1 _ hq.2.1 ⟨Nat.zero_le _, hr.2.1⟩
      · unfold y_three
        rw [a3]
        dsimp only
        rw [if_pos rfl, c2, if_neg (by decide)]
  · refine Or.inr ⟨fun q0 q1 q2 hq hr => ?_, ?_⟩
    · exact a1 _ hq.1 ⟨Nat.zero_le _, hr.1⟩
    · unfold y_three
      rw [a2, if_neg (by decide)]
theorem y_wind_s {L : Nat → Nat} {t a : Nat} {τ : sm_St} (hL : s_L L t) (h : s_M L t τ) (ha : τ 110 21 = nI a) (ha2 : a < 800) :
    (∃ p0 p1 τ', s_T2 L a p0 p1 ∧ (p0.1 ≤ 4 ∧ p1.1 ≤ 20) ∧ y_wind τ = (true, τ') ∧ τ' 110 21 = nI p1.2 ∧ (τ' 122 3 = nI p0.1 ∧ τ' 122 4 = nI p1.1) ∧ (∀ j, j ≠ 3 → j ≠ 4 → τ' 122 j = τ 122 j) ∧ s_g 122 τ' τ) ∨
      ((∀ p0 p1, s_T2 L a p0 p1 → ¬ (p0.1 ≤ 4 ∧ p1.1 ≤ 20)) ∧ (y_wind τ).1 = false) := by
  have x1 := y_num_s (e := 44) (lo := 0) (hi := 4) (r := 122) hL h ha (by omega) (by decide) (by decide) (by decide) (by decide)
  rw [show nI 0 = (0 : Int32) from rfl, show nI 44 = (44 : Int32) from rfl, show nI 4 = (4 : Int32) from rfl] at x1
  rcases x1 with ⟨p0, τ1, a1, a2, a3, a4, a5, a6, a7⟩ | ⟨a1, a2⟩
  · obtain ⟨b1, b2, b3⟩ := s_one_a a1 hL.2.2
    have g1 : s_g 122 (r_set τ1 122 5 3 (τ1 110 27)) τ := s_g_row (i := 3) (by decide) (by decide) a6
    have p1' : r_set τ1 122 5 3 (τ1 110 27) 110 21 = nI p0.2 := by rw [r_set_off (by decide)]; exact a4
    have x2 := y_num_s (e := 59) (lo := 0) (hi := 20) (r := 122) hL (g1.M (by decide) h) p1' (by omega) (by decide) (by decide) (by decide) (by decide)
    rw [show nI 0 = (0 : Int32) from rfl, show nI 59 = (59 : Int32) from rfl, show nI 20 = (20 : Int32) from rfl] at x2
    rcases x2 with ⟨p1, τ2, c1, c2, c3, c4, c5, c6, c7⟩ | ⟨c1, c2⟩
    · have row : ∀ j, r_set τ2 122 5 4 (τ2 110 27) 122 j = if j = 4 then nI p1.1 else if j = 3 then nI p0.1 else τ 122 j := fun j => by
        rw [show (4 : Int32) = nI 4 from rfl, w_rsn (by decide) (by decide), c5]
        by_cases y : j = 4
        · rw [if_pos y, if_pos y]
        · rw [if_neg y, if_neg y, c7, show (3 : Int32) = nI 3 from rfl, w_rsn (by decide) (by decide), a5]
          by_cases y1 : j = 3
          · rw [if_pos y1, if_pos y1]
          · rw [if_neg y1, if_neg y1, a7]
      refine Or.inl ⟨p0, p1, r_set τ2 122 5 4 (τ2 110 27), ⟨a1, c1⟩, ⟨a2.2, c2.2⟩, ?_, ?_, ⟨?_, ?_⟩, fun j j0 j1 => ?_, ?_⟩
      · unfold y_wind
        rw [a3]
        dsimp only
        rw [if_pos rfl, c3]
        dsimp only
        rw [if_pos rfl]
      · rw [r_set_off (by decide)]; exact c4
      · rw [row, if_neg (by decide), if_pos rfl]
      · rw [row, if_pos rfl]
      · rw [row, if_neg j1, if_neg j0]
      · exact s_g_row (i := 4) (by decide) (by decide) (c6.tr g1)
    · refine Or.inr ⟨fun q0 q1 hq hr => ?_, ?_⟩
      · obtain rfl := s_one_u hq.1 a1
        exact c1 _ hq.2 ⟨Nat.zero_le _, hr.2⟩
      · unfold y_wind
        rw [a3]
        dsimp only
        rw [if_pos rfl, c2, if_neg (by decide)]
  · refine Or.inr ⟨fun q0 q1 hq hr => ?_, ?_⟩
    · exact a1 _ hq.1 ⟨Nat.zero_le _, hr.1⟩
    · unfold y_wind
      rw [a2, if_neg (by decide)]
theorem s_one_t {L : Nat → Nat} {t a e : Nat} {p : Nat × Nat} (hL : s_L L t) (he : e ≠ 0) (h : s_one L e a = some p) : p.2 ≤ t := by
  unfold s_one at h
  cases hn : s_num L a with
  | none => rw [hn] at h; cases h
  | some q =>
    rw [hn] at h
    dsimp only at h
    split at h
    · rename_i hc
      cases h
      dsimp only
      rcases Nat.lt_or_ge q.2 t with hh | hh
      · omega
      · exact absurd (hL.2.1 _ hh ▸ hc).symm he
    · cases h

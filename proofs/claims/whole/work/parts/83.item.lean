/-! class and model: an item, the text read, laid -/
def rd_h (σ τ : sm_St) : Prop := (σ 8 0 = τ 122 0 ∧ σ 8 1 = τ 122 1 ∧ σ 8 2 = τ 122 2 ∧ σ 8 3 = τ 122 3 ∧ σ 8 4 = τ 122 4 ∧ σ 8 5 = 0) ∧ (∃ x, x < 9 ∧ τ 122 0 = nI x) ∧ (∃ y, y < 9 ∧ τ 122 1 = nI y) ∧ ∃ d, d < 5 ∧ τ 122 3 = nI d
def rd_p (σ τ : sm_St) (rp : Nat) : Prop := ∀ i, i < rp → (σ 9 i = τ 123 (3 * i) ∧ σ 10 i = τ 123 (3 * i + 1) ∧ σ 11 i = τ 123 (3 * i + 2) ∧ σ 12 i = 0) ∧ (∃ x, x < 9 ∧ τ 123 (3 * i) = nI x) ∧ ∃ y, y < 9 ∧ τ 123 (3 * i + 1) = nI y
def rd_c (σ τ : sm_St) (rc : Nat) : Prop := ∀ i, i < rc → (σ 13 i = τ 124 (3 * i) ∧ σ 14 i = τ 124 (3 * i + 1) ∧ σ 15 i = τ 124 (3 * i + 2)) ∧ ∃ n, n < 10 ∧ τ 124 (3 * i + 2) = nI n
def w_rd (L : Nat → Nat) (t : Nat) (σ τ : sm_St) (a rp rc : Nat) : Prop := (σ 97 3 = nI a ∧ τ 110 21 = nI a ∧ a ≤ t) ∧ (s_C L t σ ∧ s_M L t τ) ∧ (σ 8 6 = nI rp ∧ τ 110 22 = nI rp ∧ rp ≤ 5) ∧ (σ 8 7 = nI rc ∧ τ 110 23 = nI rc ∧ rc ≤ 7) ∧ rd_h σ τ ∧ rd_p σ τ rp ∧ rd_c σ τ rc
theorem rd_h_e {σ σ' τ τ' : sm_St} (h1 : ∀ i, i < 6 → σ' 8 i = σ 8 i) (h2 : τ' 122 = τ 122) (h : rd_h σ τ) : rd_h σ' τ' := by
  unfold rd_h
  rw [h2, h1 0 (by decide), h1 1 (by decide), h1 2 (by decide), h1 3 (by decide), h1 4 (by decide), h1 5 (by decide)]
  exact h
theorem rd_p_e {σ σ' τ τ' : sm_St} {rp : Nat} (h1 : ∀ q, 9 ≤ q → q ≤ 12 → σ' q = σ q) (h2 : τ' 123 = τ 123) (h : rd_p σ τ rp) : rd_p σ' τ' rp := fun i hi => by
  rw [h2, h1 9 (by decide) (by decide), h1 10 (by decide) (by decide), h1 11 (by decide) (by decide), h1 12 (by decide) (by decide)]
  exact h i hi
theorem rd_c_e {σ σ' τ τ' : sm_St} {rc : Nat} (h1 : ∀ q, 13 ≤ q → q ≤ 15 → σ' q = σ q) (h2 : τ' 124 = τ 124) (h : rd_c σ τ rc) : rd_c σ' τ' rc := fun i hi => by
  rw [h2, h1 13 (by decide) (by decide), h1 14 (by decide) (by decide), h1 15 (by decide) (by decide)]
  exact h i hi
theorem s_f.row {σ' σ : sm_St} (h : s_f σ' σ) {q : Nat} (h1 : q ≠ 97) (h2 : q ≠ 99) : σ' q = σ q := by
  funext l
  exact h q l (fun hh => h1 hh.1) h2
theorem s_g.row {r : Nat} {τ' τ : sm_St} (h : s_g r τ' τ) {q : Nat} (h1 : q ≠ 110) (h2 : q ≠ r) : τ' q = τ q := by
  funext l
  exact h q l (fun hh => h1 hh.1) h2
theorem s_cell {a b : Nat} (ha : a < 1000) (hb : b < 1000) : sm_cell (nI a) (nI b) = decide (a ≤ 8 ∧ b ≤ 8) := by
  unfold sm_cell
  apply Bool.eq_iff_iff.mpr
  rw [decide_eq_true_eq, decide_eq_true_eq, show (8 : Int32) = nI 8 from rfl, nI_ltI (by decide) (by omega), nI_ltI (by decide) (by omega)]
  have h1 : ¬ nI a < 0 := nI_pos (by omega)
  have h2 : ¬ nI b < 0 := nI_pos (by omega)
  constructor
  · intro h; omega
  · intro h; exact ⟨h1, by omega, h2, by omega⟩
theorem s_le {a b : Nat} {v : Int32} (e : v = nI b) (ha : a < 1000) (hb : b < 1000) : nI a ≤ v ↔ a ≤ b := by
  rw [e]
  exact nI_leI (by omega) (by omega)
theorem s_eq {a b : Nat} {v : Int32} (e : v = nI b) (ha : a < 1000) (hb : b < 1000) : nI a = v ↔ a = b := by
  rw [e]
  constructor
  · intro hh
    have h2 := congrArg Int32.toInt hh
    rw [nI_toInt (by omega), nI_toInt (by omega)] at h2
    omega
  · intro hh; rw [hh]
/-- three numbers, in class and model -/
theorem w_three {L : Nat → Nat} {t b r N p h0 h1 l2 h2 : Nat} {σ τ : sm_St} (hL : s_L L t) (hC : s_C L t σ) (hM : s_M L t τ) (hσ : σ 97 3 = nI b) (hτ : τ 110 21 = nI b) (hb : b < 800) (hr : 122 ≤ r) (hp : p + 2 < N) (hN : N < 1000) (k0 : h0 < 1000) (k1 : h1 < 1000) (k2 : l2 < 1000) (k3 : h2 < 1000) :
    (∃ (p0 p1 p2 : Nat × Nat) (σ' : sm_St), (p0.1 ≤ 99 ∧ p1.1 ≤ 99 ∧ p2.1 ≤ 99 ∧ b < p2.2 ∧ p2.2 ≤ t) ∧ x_three σ = (true, σ') ∧ σ' 97 3 = nI p2.2 ∧ (σ' 99 0 = nI p0.1 ∧ σ' 99 1 = nI p1.1 ∧ σ' 99 2 = nI p2.1) ∧ s_f σ' σ ∧
      (((p0.1 ≤ h0 ∧ p1.1 ≤ h1 ∧ l2 ≤ p2.1 ∧ p2.1 ≤ h2) ∧ ∃ τ', y_three τ r N p (nI h0) (nI h1) (nI l2) (nI h2) = (true, τ') ∧ τ' 110 21 = nI p2.2 ∧ (τ' r p = nI p0.1 ∧ τ' r (p + 1) = nI p1.1 ∧ τ' r (p + 2) = nI p2.1) ∧ (∀ j, j ≠ p → j ≠ p + 1 → j ≠ p + 2 → τ' r j = τ r j) ∧ s_g r τ' τ) ∨
       (¬ (p0.1 ≤ h0 ∧ p1.1 ≤ h1 ∧ l2 ≤ p2.1 ∧ p2.1 ≤ h2) ∧ (y_three τ r N p (nI h0) (nI h1) (nI l2) (nI h2)).1 = false))) ∨
    ((x_three σ).1 = false ∧ (y_three τ r N p (nI h0) (nI h1) (nI l2) (nI h2)).1 = false) := by
  have hy := y_three_s (r := r) (N := N) (p := p) (h0 := h0) (h1 := h1) (l2 := l2) (h2 := h2) hL hM hτ hb hr hp hN k0 k1 k2 k3
  rcases x_three_s hL hC hσ hb with ⟨p0, p1, p2, σ', a1, a2, a3, a4, a5⟩ | ⟨a1, a2⟩
  · obtain ⟨b1, b2, b3⟩ := s_one_a a1.1 hL.2.2
    obtain ⟨c1, c2, c3⟩ := s_one_a a1.2.1 hL.2.2
    obtain ⟨d1, d2, d3⟩ := s_one_a a1.2.2 hL.2.2
    refine Or.inl ⟨p0, p1, p2, σ', ⟨b1, c1, d1, by omega, s_one_t hL (by decide) a1.2.2⟩, a2, a3, a4, a5, ?_⟩
    rcases hy with ⟨q0, q1, q2, τ', e1, e2, e3, e4, e5, e6, e7⟩ | ⟨e1, e2⟩
    · obtain rfl := s_one_u e1.1 a1.1
      obtain rfl := s_one_u e1.2.1 a1.2.1
      obtain rfl := s_one_u e1.2.2 a1.2.2
      exact Or.inl ⟨e2, τ', e3, e4, e5, e6, e7⟩
    · exact Or.inr ⟨e1 _ _ _ a1, e2⟩
  · refine Or.inr ⟨a2, ?_⟩
    rcases hy with ⟨q0, q1, q2, τ', e1, -⟩ | ⟨e1, e2⟩
    · exact absurd e1 (a1 _ _ _)
    · exact e2
theorem w_itm {L : Nat → Nat} {t a rp rc : Nat} {σ τ : sm_St} (hL : s_L L t) (R : w_rd L t σ τ a rp rc) (ha : a < t) : ((x_item σ 8).1 = 0 ∧ (y_itm τ).1 = false) ∨ ((x_item σ 8).1 = 1 ∧ (y_itm τ).1 = true ∧ ∃ a' rp' rc', a < a' ∧ w_rd L t (x_item σ 8).2 (y_itm τ).2 a' rp' rc') := by
  obtain ⟨⟨r1, r2, r3⟩, ⟨r4, r5⟩, ⟨r6, r7, r8⟩, ⟨r9, r10, r11⟩, rh, rpo, rcr⟩ := R
  have t200 := hL.1
  have l126 := hL.2.2 a
  have ex : x_here σ = nI (L a) := s_here hL r4 r1 (by omega)
  have ey : y_here τ = nI (L a) := s_hereM hL r5 r2 (by omega)
  have ix : x_inc σ = sm_set σ 97 3 (nI (a + 1)) := x_inc_at r1
  have iy : y_inc τ = sm_set τ 110 21 (nI (a + 1)) := by
    unfold y_inc
    rw [r2, nI_1]
  have C1 : s_C L t (sm_set σ 97 3 (nI (a + 1))) := ⟨by rw [sm_set_ne (by decide)]; exact r4.1, fun i hi => by rw [sm_set_off (by decide)]; exact r4.2 i hi⟩
  have M1 : s_M L t (sm_set τ 110 21 (nI (a + 1))) := ⟨by rw [sm_set_ne (by decide)]; exact r5.1, fun i hi => by rw [sm_set_off (by decide)]; exact r5.2 i hi⟩
  have F1 : s_f (sm_set σ 97 3 (nI (a + 1))) σ := fun q l x y => by rw [sm_set_at, if_neg x]
  have G1 : ∀ r, s_g r (sm_set τ 110 21 (nI (a + 1))) τ := fun r q l x y => by rw [sm_set_at, if_neg (by omega)]
  have ei : y_itm τ = y_kind (sm_set τ 110 21 (nI (a + 1))) (nI (L a)) rp rc := by
    rw [y_itm_e (rp := rp) (rc := rc) ⟨⟨r7, r8⟩, r10, r11⟩]
    unfold y_item
    rw [ey, iy]
  have q115 : nI (L a) = 115 ↔ L a = 115 := s_eq rfl (by omega) (by decide)
  have q119 : nI (L a) = 119 ↔ L a = 119 := s_eq rfl (by omega) (by decide)
  have q112 : nI (L a) = 112 ↔ L a = 112 := s_eq rfl (by omega) (by decide)
  have q99 : nI (L a) = 99 ↔ L a = 99 := s_eq rfl (by omega) (by decide)
  rw [ei]
  unfold x_item
  rw [ex, ix]
  have R0 : ∀ (X : sm_St) (x y z : Int32), X 99 0 = x → X 99 1 = y → X 99 2 = z → r_at (X 99) 3 0 = x ∧ r_at (X 99) 3 1 = y ∧ r_at (X 99) 3 2 = z := fun X x y z h0 h1 h2 => ⟨(r_at_nI (j := 0) rfl (by decide) (by decide)).trans h0, (r_at_nI (j := 1) rfl (by decide) (by decide)).trans h1, (r_at_nI (j := 2) rfl (by decide) (by decide)).trans h2⟩
  by_cases c115 : L a = 115
  · have en : x_nums (sm_set σ 97 3 (nI (a + 1))) (nI (L a)) = x_three (sm_set σ 97 3 (nI (a + 1))) := by
      unfold x_nums
      rw [if_neg (fun hh => by have := q119.mp hh; omega)]
    have ek : y_kind (sm_set τ 110 21 (nI (a + 1))) (nI (L a)) rp rc = y_three (sm_set τ 110 21 (nI (a + 1))) 122 5 0 8 8 0 20 := by
      unfold y_kind
      rw [if_pos (q115.mpr c115)]
    rw [en, ek]
    have hw := w_three (r := 122) (N := 5) (p := 0) (h0 := 8) (h1 := 8) (l2 := 0) (h2 := 20) hL C1 M1 sm_set_eq sm_set_eq (by omega) (by decide) (by decide) (by decide) (by decide) (by decide) (by decide) (by decide)
    rw [show nI 8 = (8 : Int32) from rfl, show nI 0 = (0 : Int32) from rfl, show nI 20 = (20 : Int32) from rfl] at hw
    rcases hw with ⟨p0, p1, p2, σ', ⟨v0, v1, v2, v3, v4⟩, b1, b2, ⟨b3, b4, b5⟩, b6, hy⟩ | ⟨b1, b2⟩
    · obtain ⟨z0, z1, z2⟩ := R0 σ' _ _ _ b3 b4 b5
      have f := b6.tr F1
      rw [b1]
      dsimp only
      rw [if_pos rfl]
      unfold x_tell t_ship
      rw [if_pos (q115.mpr c115), z0, z1, z2, s_cell (by omega) (by omega)]
      rcases hy with ⟨⟨k0, k1, k2, k3⟩, τ', y1, y2, ⟨y3, y4, y5⟩, y6, y7⟩ | ⟨k, y1⟩
      · have g := y7.tr (G1 122)
        rw [if_pos ⟨decide_eq_true ⟨k0, k1⟩, (s_le (b := 20) rfl (by omega) (by decide)).mpr k3⟩, y1]
        refine Or.inr ⟨rfl, rfl, p2.2, rp, rc, by omega, ⟨?_, y2, v4⟩, ⟨⟨?_, fun i hi => ?_⟩, g.M (by decide) r5⟩, ⟨?_, ?_, r8⟩, ⟨?_, ?_, r11⟩, ?_, ?_, ?_⟩
        · dsimp only
          rw [sm_set_off (by decide), sm_set_off (by decide), sm_set_off (by decide)]; exact b2
        · dsimp only
          rw [sm_set_off (by decide), sm_set_off (by decide), sm_set_off (by decide)]; exact (f.C r4).1
        · dsimp only
          rw [sm_set_off (by decide), sm_set_off (by decide), sm_set_off (by decide)]; exact (f.C r4).2 i hi
        · dsimp only
          rw [sm_set_ne (by decide), sm_set_ne (by decide), sm_set_ne (by decide), f.row (by decide) (by decide)]; exact r6
        · exact (g 110 22 (by omega) (by decide)).trans r7
        · dsimp only
          rw [sm_set_ne (by decide), sm_set_ne (by decide), sm_set_ne (by decide), f.row (by decide) (by decide)]; exact r9
        · exact (g 110 23 (by omega) (by decide)).trans r10
        · obtain ⟨⟨u0, u1, u2, u3, u4, u5⟩, u6, u7, u8⟩ := rh
          have t3 : τ' 122 3 = τ 122 3 := (y6 3 (by decide) (by decide) (by decide)).trans (by rw [sm_set_off (by decide)])
          have t4 : τ' 122 4 = τ 122 4 := (y6 4 (by decide) (by decide) (by decide)).trans (by rw [sm_set_off (by decide)])
          have f8 := f.row (q := 8) (by decide) (by decide)
          refine ⟨⟨?_, ?_, ?_, ?_, ?_, ?_⟩, ⟨p0.1, by omega, y3⟩, ⟨p1.1, by omega, y4⟩, show ∃ d, d < 5 ∧ τ' 122 3 = nI d by rw [t3]; exact u8⟩
          · dsimp only
            rw [sm_set_ne (by decide), sm_set_ne (by decide), sm_set_eq]; exact y3.symm
          · dsimp only
            rw [sm_set_ne (by decide), sm_set_eq]; exact y4.symm
          · dsimp only
            rw [sm_set_eq]; exact y5.symm
          · dsimp only
            rw [sm_set_ne (by decide), sm_set_ne (by decide), sm_set_ne (by decide), f8, t3]; exact u3
          · dsimp only
            rw [sm_set_ne (by decide), sm_set_ne (by decide), sm_set_ne (by decide), f8, t4]; exact u4
          · dsimp only
            rw [sm_set_ne (by decide), sm_set_ne (by decide), sm_set_ne (by decide), f8]; exact u5
        · refine rd_p_e (fun q q1 q2 => ?_) (g.row (by decide) (by decide)) rpo
          dsimp only
          rw [sm_set_off (by omega), sm_set_off (by omega), sm_set_off (by omega), f.row (by omega) (by omega)]
        · refine rd_c_e (fun q q1 q2 => ?_) (g.row (by decide) (by decide)) rcr
          dsimp only
          rw [sm_set_off (by omega), sm_set_off (by omega), sm_set_off (by omega), f.row (by omega) (by omega)]
      · rw [if_neg (fun hh => k (by
          have h1 := of_decide_eq_true hh.1
          have h2 := (s_le (b := 20) rfl (by omega) (by decide)).mp hh.2
          omega))]
        exact Or.inl ⟨rfl, y1⟩
    · rw [if_neg (by rw [b1]; decide)]
      exact Or.inl ⟨rfl, b2⟩
  · by_cases c119 : L a = 119
    · have en : x_nums (sm_set σ 97 3 (nI (a + 1))) (nI (L a)) = x_two (sm_set σ 97 3 (nI (a + 1))) := by
        unfold x_nums
        rw [if_pos (q119.mpr c119)]
      have ek : y_kind (sm_set τ 110 21 (nI (a + 1))) (nI (L a)) rp rc = y_wind (sm_set τ 110 21 (nI (a + 1))) := by
        unfold y_kind
        rw [if_neg (fun hh => c115 (q115.mp hh)), if_pos (q119.mpr c119)]
      rw [en, ek]
      have hy := y_wind_s hL M1 (a := a + 1) sm_set_eq (by omega)
      rcases x_two_s hL C1 (a := a + 1) sm_set_eq (by omega) with ⟨p0, p1, σ', a1, b1, b2, ⟨b3, b4⟩, b6⟩ | ⟨a1, b1⟩
      · obtain ⟨v0, w0, w1⟩ := s_one_a a1.1 hL.2.2
        obtain ⟨v1, w2, w3⟩ := s_one_a a1.2 hL.2.2
        have v4 := s_one_t hL (by decide) a1.2
        have z0 : r_at (σ' 99) 3 0 = nI p0.1 := (r_at_nI (j := 0) rfl (by decide) (by decide)).trans b3
        have z1 : r_at (σ' 99) 3 1 = nI p1.1 := (r_at_nI (j := 1) rfl (by decide) (by decide)).trans b4
        have f := b6.tr F1
        rw [b1]
        dsimp only
        rw [if_pos rfl]
        unfold x_tell t_wind
        rw [if_neg (fun hh => c115 (q115.mp hh)), if_pos (q119.mpr c119), z0, z1]
        have n4 : ¬ (4 : Int32) < nI p0.1 ↔ p0.1 ≤ 4 := by
          rw [show (4 : Int32) = nI 4 from rfl, nI_ltI (by decide) (by omega)]
          omega
        rcases hy with ⟨q0, q1, τ', e1, ⟨k0, k1⟩, y1, y2, ⟨y3, y4⟩, y6, y7⟩ | ⟨k, y1⟩
        · obtain rfl := s_one_u e1.1 a1.1
          obtain rfl := s_one_u e1.2 a1.2
          have g := y7.tr (G1 122)
          rw [if_pos ⟨n4.mpr k0, (s_le (b := 20) rfl (by omega) (by decide)).mpr k1⟩, y1]
          refine Or.inr ⟨rfl, rfl, q1.2, rp, rc, by omega, ⟨?_, y2, v4⟩, ⟨⟨?_, fun i hi => ?_⟩, g.M (by decide) r5⟩, ⟨?_, ?_, r8⟩, ⟨?_, ?_, r11⟩, ?_, ?_, ?_⟩
          · dsimp only
            rw [sm_set_off (by decide), sm_set_off (by decide)]; exact b2
          · dsimp only
            rw [sm_set_off (by decide), sm_set_off (by decide)]; exact (f.C r4).1
          · dsimp only
            rw [sm_set_off (by decide), sm_set_off (by decide)]; exact (f.C r4).2 i hi
          · dsimp only
            rw [sm_set_ne (by decide), sm_set_ne (by decide), f.row (by decide) (by decide)]; exact r6
          · exact (g 110 22 (by omega) (by decide)).trans r7
          · dsimp only
            rw [sm_set_ne (by decide), sm_set_ne (by decide), f.row (by decide) (by decide)]; exact r9
          · exact (g 110 23 (by omega) (by decide)).trans r10
          · obtain ⟨⟨u0, u1, u2, u3, u4, u5⟩, u6, u7, u8⟩ := rh
            have tj : ∀ j, j ≠ 3 → j ≠ 4 → τ' 122 j = τ 122 j := fun j j1 j2 => (y6 j j1 j2).trans (by rw [sm_set_off (by decide)])
            have f8 := f.row (q := 8) (by decide) (by decide)
            refine ⟨⟨?_, ?_, ?_, ?_, ?_, ?_⟩, show ∃ x, x < 9 ∧ τ' 122 0 = nI x by rw [tj 0 (by decide) (by decide)]; exact u6, show ∃ y, y < 9 ∧ τ' 122 1 = nI y by rw [tj 1 (by decide) (by decide)]; exact u7, ⟨q0.1, by omega, y3⟩⟩
            · dsimp only
              rw [sm_set_ne (by decide), sm_set_ne (by decide), f8, tj 0 (by decide) (by decide)]; exact u0
            · dsimp only
              rw [sm_set_ne (by decide), sm_set_ne (by decide), f8, tj 1 (by decide) (by decide)]; exact u1
            · dsimp only
              rw [sm_set_ne (by decide), sm_set_ne (by decide), f8, tj 2 (by decide) (by decide)]; exact u2
            · dsimp only
              rw [sm_set_ne (by decide), sm_set_eq]; exact y3.symm
            · dsimp only
              rw [sm_set_eq]; exact y4.symm
            · dsimp only
              rw [sm_set_ne (by decide), sm_set_ne (by decide), f8]; exact u5
          · refine rd_p_e (fun q q1 q2 => ?_) (g.row (by decide) (by decide)) rpo
            dsimp only
            rw [sm_set_off (by omega), sm_set_off (by omega), f.row (by omega) (by omega)]
          · refine rd_c_e (fun q q1 q2 => ?_) (g.row (by decide) (by decide)) rcr
            dsimp only
            rw [sm_set_off (by omega), sm_set_off (by omega), f.row (by omega) (by omega)]
        · have k := k _ _ a1
          rw [if_neg (fun hh => k ⟨n4.mp hh.1, (s_le (b := 20) rfl (by omega) (by decide)).mp hh.2⟩)]
          exact Or.inl ⟨rfl, y1⟩
      · rw [if_neg (by rw [b1]; decide)]
        refine Or.inl ⟨rfl, ?_⟩
        rcases hy with ⟨q0, q1, τ', e1, -⟩ | ⟨k, y1⟩
        · exact absurd e1 (a1 _ _)
        · exact y1
    · have en : x_nums (sm_set σ 97 3 (nI (a + 1))) (nI (L a)) = x_three (sm_set σ 97 3 (nI (a + 1))) := by
        unfold x_nums
        rw [if_neg (fun hh => c119 (q119.mp hh))]
      rw [en]
      have l200 : a + 1 < 800 := by omega
      by_cases c112 : L a = 112
      · have ek : y_kind (sm_set τ 110 21 (nI (a + 1))) (nI (L a)) rp rc = y_up 22 (y_post (sm_set τ 110 21 (nI (a + 1))) rp) := by
          unfold y_kind
          rw [if_neg (fun hh => c115 (q115.mp hh)), if_neg (fun hh => c119 (q119.mp hh)), if_pos (q112.mpr c112)]
        rw [ek]
        by_cases cr : rp < 5
        · have ep : y_post (sm_set τ 110 21 (nI (a + 1))) rp = y_three (sm_set τ 110 21 (nI (a + 1))) 123 15 (3 * rp) 8 8 0 5 := by
            unfold y_post
            rw [if_pos cr]
          rw [ep]
          have hw := w_three (r := 123) (N := 15) (p := 3 * rp) (h0 := 8) (h1 := 8) (l2 := 0) (h2 := 5) hL C1 M1 sm_set_eq sm_set_eq l200 (by decide) (by omega) (by decide) (by decide) (by decide) (by decide) (by decide)
          rw [show nI 8 = (8 : Int32) from rfl, show nI 0 = (0 : Int32) from rfl, show nI 5 = (5 : Int32) from rfl] at hw
          rcases hw with ⟨p0, p1, p2, σ', ⟨v0, v1, v2, v3, v4⟩, b1, b2, ⟨b3, b4, b5⟩, b6, hy⟩ | ⟨b1, b2⟩
          · obtain ⟨z0, z1, z2⟩ := R0 σ' _ _ _ b3 b4 b5
            have f := b6.tr F1
            have f8 := f.row (q := 8) (by decide) (by decide)
            rw [b1]
            dsimp only
            rw [if_pos rfl]
            unfold x_tell t_post
            have n5 : ¬ (5 : Int32) ≤ σ' 8 6 := by
              rw [f8, r6, show (5 : Int32) = nI 5 from rfl, nI_leI (by decide) (by omega)]
              omega
            rw [if_neg (fun hh => c115 (q115.mp hh)), if_neg (fun hh => c119 (q119.mp hh)), if_pos (q112.mpr c112), z0, z1, z2, s_cell (by omega) (by omega)]
            rcases hy with ⟨⟨k0, k1, k2, k3⟩, τ', y1, y2, ⟨y3, y4, y5⟩, y6, y7⟩ | ⟨k, y1⟩
            · have g := y7.tr (G1 123)
              rw [if_pos ⟨n5, decide_eq_true ⟨k0, k1⟩, (s_le (b := 5) rfl (by omega) (by decide)).mpr k3⟩, y1]
              have eg : ∀ q l, g_addP σ' 8 (nI p0.1) (nI p1.1) (nI p2.1) q l = if q = 8 ∧ l = 6 then nI (rp + 1) else if q = 12 ∧ l = rp then 0 else if q = 11 ∧ l = rp then nI p2.1 else if q = 10 ∧ l = rp then nI p1.1 else if q = 9 ∧ l = rp then nI p0.1 else σ' q l := fun q l => by
                unfold g_addP
                rw [f8, r6, if_neg (fun hh => by have := (nI_leI (by decide) (by omega)).mp hh; omega), nI_1, r_set_nI rfl (show rp < 6 by omega) (by decide), r_set_nI rfl (show rp < 6 by omega) (by decide), r_set_nI rfl (show rp < 6 by omega) (by decide), r_set_nI rfl (show rp < 6 by omega) (by decide), sm_set_at, sm_set_at, sm_set_at, sm_set_at, sm_set_at]
              have eo : ∀ q, q ≠ 8 → q < 9 ∨ 12 < q → g_addP σ' 8 (nI p0.1) (nI p1.1) (nI p2.1) q = σ' q := fun q x y => by
                funext l
                rw [eg, if_neg (by omega), if_neg (by omega), if_neg (by omega), if_neg (by omega), if_neg (by omega)]
              have e8 : ∀ i, i ≠ 6 → g_addP σ' 8 (nI p0.1) (nI p1.1) (nI p2.1) 8 i = σ 8 i := fun i x => by
                rw [eg, if_neg (by omega), if_neg (by omega), if_neg (by omega), if_neg (by omega), if_neg (by omega), f8]
              have eu : y_up 22 (true, τ') = (true, sm_set τ' 110 22 (nI (rp + 1))) := by
                unfold y_up sm_b
                dsimp only
                rw [if_pos rfl, g 110 22 (by omega) (by decide), r7, nI_1]
              rw [eu]
              refine Or.inr ⟨rfl, rfl, p2.2, rp + 1, rc, by omega, ⟨?_, ?_, v4⟩, ⟨⟨?_, fun i hi => ?_⟩, ⟨?_, fun i hi => ?_⟩⟩, ⟨?_, ?_, by omega⟩, ⟨?_, ?_, r11⟩, ?_, ?_, ?_⟩
              · dsimp only
                rw [eo 97 (by decide) (by omega)]; exact b2
              · dsimp only
                rw [sm_set_ne (by decide)]; exact y2
              · dsimp only
                rw [eo 97 (by decide) (by omega)]; exact (f.C r4).1
              · dsimp only
                rw [eo 98 (by decide) (by omega)]; exact (f.C r4).2 i hi
              · dsimp only
                rw [sm_set_ne (by decide)]; exact (g.M (by decide) r5).1
              · dsimp only
                rw [sm_set_off (by decide)]; exact (g.M (by decide) r5).2 i hi
              · dsimp only
                rw [eg, if_pos ⟨rfl, rfl⟩]
              · dsimp only
                rw [sm_set_eq]
              · dsimp only
                rw [e8 7 (by decide)]; exact r9
              · dsimp only
                rw [sm_set_ne (by decide)]; exact (g 110 23 (by omega) (by decide)).trans r10
              · refine rd_h_e (fun i hi => ?_) ?_ rh
                · dsimp only
                  exact e8 i (by omega)
                · dsimp only
                  rw [sm_set_off (by decide)]; exact g.row (by decide) (by decide)
              · intro i hi
                dsimp only
                have g9 : g_addP σ' 8 (nI p0.1) (nI p1.1) (nI p2.1) 9 i = if i = rp then nI p0.1 else σ' 9 i := by
                  rw [eg]
                  by_cases e : i = rp <;> simp [e]
                have g10 : g_addP σ' 8 (nI p0.1) (nI p1.1) (nI p2.1) 10 i = if i = rp then nI p1.1 else σ' 10 i := by
                  rw [eg]
                  by_cases e : i = rp <;> simp [e]
                have g11 : g_addP σ' 8 (nI p0.1) (nI p1.1) (nI p2.1) 11 i = if i = rp then nI p2.1 else σ' 11 i := by
                  rw [eg]
                  by_cases e : i = rp <;> simp [e]
                have g12 : g_addP σ' 8 (nI p0.1) (nI p1.1) (nI p2.1) 12 i = if i = rp then 0 else σ' 12 i := by
                  rw [eg]
                  by_cases e : i = rp <;> simp [e]
                rw [sm_set_off (by decide), g9, g10, g11, g12]
                by_cases e : i = rp
                · rw [if_pos e, if_pos e, if_pos e, if_pos e, e]
                  exact ⟨⟨y3.symm, y4.symm, y5.symm, rfl⟩, ⟨p0.1, by omega, y3⟩, p1.1, by omega, y4⟩
                · have hlt : i < rp := by omega
                  have row : ∀ j, j < 3 * rp → τ' 123 j = τ 123 j := fun j hj => (y6 j (by omega) (by omega) (by omega)).trans (by rw [sm_set_off (by decide)])
                  rw [if_neg e, if_neg e, if_neg e, if_neg e, row _ (by omega), row _ (by omega), row _ (by omega), f.row (q := 9) (by decide) (by decide), f.row (q := 10) (by decide) (by decide), f.row (q := 11) (by decide) (by decide), f.row (q := 12) (by decide) (by decide)]
                  exact rpo i hlt
              · refine rd_c_e (fun q q1 q2 => ?_) ?_ rcr
                · dsimp only
                  rw [eo q (by omega) (by omega), f.row (by omega) (by omega)]
                · dsimp only
                  rw [sm_set_off (by decide)]; exact g.row (by decide) (by decide)
            · rw [if_neg (fun hh => k (by
                have h1 := of_decide_eq_true hh.2.1
                have h2 := (s_le (b := 5) rfl (by omega) (by decide)).mp hh.2.2
                omega))]
              exact Or.inl ⟨rfl, y1⟩
          · rw [if_neg (by rw [b1]; decide)]
            exact Or.inl ⟨rfl, b2⟩
        · have ep : (y_up 22 (y_post (sm_set τ 110 21 (nI (a + 1))) rp)).1 = false := by
            unfold y_post y_up
            rw [if_neg cr]
          refine Or.inl ⟨?_, ep⟩
          rcases x_three_s hL C1 (a := a + 1) sm_set_eq (by omega) with ⟨p0, p1, p2, σ', a1, b1, b2, b3, b6⟩ | ⟨a1, b1⟩
          · rw [b1]
            dsimp only
            rw [if_pos rfl]
            unfold x_tell t_post
            rw [if_neg (fun hh => c115 (q115.mp hh)), if_neg (fun hh => c119 (q119.mp hh)), if_pos (q112.mpr c112), if_neg (fun hh => hh.1 (by
              rw [(b6.tr F1).row (by decide) (by decide), r6, show (5 : Int32) = nI 5 from rfl, nI_leI (by decide) (by omega)]
              omega))]
          · rw [if_neg (by rw [b1]; decide)]
      · have ek : y_kind (sm_set τ 110 21 (nI (a + 1))) (nI (L a)) rp rc = y_up 23 (y_one (sm_set τ 110 21 (nI (a + 1))) (nI (L a)) rc) := by
          unfold y_kind
          rw [if_neg (fun hh => c115 (q115.mp hh)), if_neg (fun hh => c119 (q119.mp hh)), if_neg (fun hh => c112 (q112.mp hh))]
        rw [ek]
        by_cases cr : L a = 99 ∧ rc < 7
        · have ep : y_one (sm_set τ 110 21 (nI (a + 1))) (nI (L a)) rc = y_three (sm_set τ 110 21 (nI (a + 1))) 124 21 (3 * rc) 3 5 1 9 := by
            unfold y_one
            rw [if_pos ⟨q99.mpr cr.1, cr.2⟩]
          rw [ep]
          have hw := w_three (r := 124) (N := 21) (p := 3 * rc) (h0 := 3) (h1 := 5) (l2 := 1) (h2 := 9) hL C1 M1 sm_set_eq sm_set_eq l200 (by decide) (by omega) (by decide) (by decide) (by decide) (by decide) (by decide)
          rw [show nI 3 = (3 : Int32) from rfl, show nI 5 = (5 : Int32) from rfl, show nI 1 = (1 : Int32) from rfl, show nI 9 = (9 : Int32) from rfl] at hw
          rcases hw with ⟨p0, p1, p2, σ', ⟨v0, v1, v2, v3, v4⟩, b1, b2, ⟨b3, b4, b5⟩, b6, hy⟩ | ⟨b1, b2⟩
          · obtain ⟨z0, z1, z2⟩ := R0 σ' _ _ _ b3 b4 b5
            have f := b6.tr F1
            have f8 := f.row (q := 8) (by decide) (by decide)
            rw [b1]
            dsimp only
            rw [if_pos rfl]
            unfold x_tell t_one
            have n7 : ¬ (7 : Int32) ≤ σ' 8 7 := by
              rw [f8, r9, show (7 : Int32) = nI 7 from rfl, nI_leI (by decide) (by omega)]
              omega
            have n3 : ¬ (3 : Int32) < nI p0.1 ↔ p0.1 ≤ 3 := by
              rw [show (3 : Int32) = nI 3 from rfl, nI_ltI (by decide) (by omega)]
              omega
            have n5 : ¬ (5 : Int32) < nI p1.1 ↔ p1.1 ≤ 5 := by
              rw [show (5 : Int32) = nI 5 from rfl, nI_ltI (by decide) (by omega)]
              omega
            have n9 : sm_win (nI p2.1) 1 9 = decide (1 ≤ p2.1 ∧ p2.1 ≤ 9) := by
              unfold sm_win
              apply Bool.eq_iff_iff.mpr
              rw [decide_eq_true_eq, decide_eq_true_eq, show (1 : Int32) = nI 1 from rfl, show (9 : Int32) = nI 9 from rfl, nI_ltI (by omega) (by decide), nI_ltI (by decide) (by omega)]
              omega
            rw [if_neg (fun hh => c115 (q115.mp hh)), if_neg (fun hh => c119 (q119.mp hh)), if_neg (fun hh => c112 (q112.mp hh)), if_pos (q99.mpr cr.1), z0, z1, z2, n9]
            rcases hy with ⟨⟨k0, k1, k2, k3⟩, τ', y1, y2, ⟨y3, y4, y5⟩, y6, y7⟩ | ⟨k, y1⟩
            · have g := y7.tr (G1 124)
              rw [if_pos ⟨n7, n3.mpr k0, n5.mpr k1, decide_eq_true ⟨k2, k3⟩⟩, y1]
              have eg : ∀ q l, g_addS σ' 8 (nI p0.1) (nI p1.1) (nI p2.1) q l = if q = 8 ∧ l = 7 then nI (rc + 1) else if q = 15 ∧ l = rc then nI p2.1 else if q = 14 ∧ l = rc then nI p1.1 else if q = 13 ∧ l = rc then nI p0.1 else σ' q l := fun q l => by
                unfold g_addS
                rw [f8, r9, if_neg (fun hh => by have := (nI_leI (by decide) (by omega)).mp hh; omega), nI_1, r_set_nI rfl (show rc < 8 by omega) (by decide), r_set_nI rfl (show rc < 8 by omega) (by decide), r_set_nI rfl (show rc < 8 by omega) (by decide), sm_set_at, sm_set_at, sm_set_at, sm_set_at]
              have eo : ∀ q, q ≠ 8 → q < 13 ∨ 15 < q → g_addS σ' 8 (nI p0.1) (nI p1.1) (nI p2.1) q = σ' q := fun q x y => by
                funext l
                rw [eg, if_neg (by omega), if_neg (by omega), if_neg (by omega), if_neg (by omega)]
              have e8 : ∀ i, i ≠ 7 → g_addS σ' 8 (nI p0.1) (nI p1.1) (nI p2.1) 8 i = σ 8 i := fun i x => by
                rw [eg, if_neg (by omega), if_neg (by omega), if_neg (by omega), if_neg (by omega), f8]
              have eu : y_up 23 (true, τ') = (true, sm_set τ' 110 23 (nI (rc + 1))) := by
                unfold y_up sm_b
                dsimp only
                rw [if_pos rfl, g 110 23 (by omega) (by decide), r10, nI_1]
              rw [eu]
              refine Or.inr ⟨rfl, rfl, p2.2, rp, rc + 1, by omega, ⟨?_, ?_, v4⟩, ⟨⟨?_, fun i hi => ?_⟩, ⟨?_, fun i hi => ?_⟩⟩, ⟨?_, ?_, r8⟩, ⟨?_, ?_, by omega⟩, ?_, ?_, ?_⟩
              · dsimp only
                rw [eo 97 (by decide) (by omega)]; exact b2
              · dsimp only
                rw [sm_set_ne (by decide)]; exact y2
              · dsimp only
                rw [eo 97 (by decide) (by omega)]; exact (f.C r4).1
              · dsimp only
                rw [eo 98 (by decide) (by omega)]; exact (f.C r4).2 i hi
              · dsimp only
                rw [sm_set_ne (by decide)]; exact (g.M (by decide) r5).1
              · dsimp only
                rw [sm_set_off (by decide)]; exact (g.M (by decide) r5).2 i hi
              · dsimp only
                rw [e8 6 (by decide)]; exact r6
              · dsimp only
                rw [sm_set_ne (by decide)]; exact (g 110 22 (by omega) (by decide)).trans r7
              · dsimp only
                rw [eg, if_pos ⟨rfl, rfl⟩]
              · dsimp only
                rw [sm_set_eq]
              · refine rd_h_e (fun i hi => ?_) ?_ rh
                · dsimp only
                  exact e8 i (by omega)
                · dsimp only
                  rw [sm_set_off (by decide)]; exact g.row (by decide) (by decide)
              · refine rd_p_e (fun q q1 q2 => ?_) ?_ rpo
                · dsimp only
                  rw [eo q (by omega) (by omega), f.row (by omega) (by omega)]
                · dsimp only
                  rw [sm_set_off (by decide)]; exact g.row (by decide) (by decide)
              · intro i hi
                dsimp only
                have g13 : g_addS σ' 8 (nI p0.1) (nI p1.1) (nI p2.1) 13 i = if i = rc then nI p0.1 else σ' 13 i := by
                  rw [eg]
                  by_cases e : i = rc <;> simp [e]
                have g14 : g_addS σ' 8 (nI p0.1) (nI p1.1) (nI p2.1) 14 i = if i = rc then nI p1.1 else σ' 14 i := by
                  rw [eg]
                  by_cases e : i = rc <;> simp [e]
                have g15 : g_addS σ' 8 (nI p0.1) (nI p1.1) (nI p2.1) 15 i = if i = rc then nI p2.1 else σ' 15 i := by
                  rw [eg]
                  by_cases e : i = rc <;> simp [e]
                rw [sm_set_off (by decide), g13, g14, g15]
                by_cases e : i = rc
                · rw [if_pos e, if_pos e, if_pos e, e]
                  exact ⟨⟨y3.symm, y4.symm, y5.symm⟩, p2.1, by omega, y5⟩
                · have hlt : i < rc := by omega
                  have row : ∀ j, j < 3 * rc → τ' 124 j = τ 124 j := fun j hj => (y6 j (by omega) (by omega) (by omega)).trans (by rw [sm_set_off (by decide)])
                  rw [if_neg e, if_neg e, if_neg e, row _ (by omega), row _ (by omega), row _ (by omega), f.row (q := 13) (by decide) (by decide), f.row (q := 14) (by decide) (by decide), f.row (q := 15) (by decide) (by decide)]
                  exact rcr i hlt
            · rw [if_neg (fun hh => k (by
                have h0 := n3.mp hh.2.1
                have h1 := n5.mp hh.2.2.1
                have h2 := of_decide_eq_true hh.2.2.2
                omega))]
              exact Or.inl ⟨rfl, y1⟩
          · rw [if_neg (by rw [b1]; decide)]
            exact Or.inl ⟨rfl, b2⟩
        · have ep : (y_up 23 (y_one (sm_set τ 110 21 (nI (a + 1))) (nI (L a)) rc)).1 = false := by
            unfold y_one y_up
            rw [if_neg (fun hh => cr ⟨q99.mp hh.1, hh.2⟩)]
          refine Or.inl ⟨?_, ep⟩
          rcases x_three_s hL C1 (a := a + 1) sm_set_eq (by omega) with ⟨p0, p1, p2, σ', a1, b1, b2, b3, b6⟩ | ⟨a1, b1⟩
          · rw [b1]
            dsimp only
            rw [if_pos rfl]
            unfold x_tell t_one
            rw [if_neg (fun hh => c115 (q115.mp hh)), if_neg (fun hh => c119 (q119.mp hh)), if_neg (fun hh => c112 (q112.mp hh))]
            by_cases e : L a = 99
            · rw [if_pos (q99.mpr e), if_neg (fun hh => hh.1 (by
                rw [(b6.tr F1).row (by decide) (by decide), r9, show (7 : Int32) = nI 7 from rfl, nI_leI (by decide) (by omega)]
                omega))]
            · rw [if_neg (fun hh => e (q99.mp hh))]
          · rw [if_neg (by rw [b1]; decide)]

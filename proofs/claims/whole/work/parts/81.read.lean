/-! the text read: numbers, items -/
def s_dig (c : Nat) : Bool := decide (48 ≤ c ∧ c ≤ 57)
def s_num (L : Nat → Nat) (a : Nat) : Option (Nat × Nat) := if s_dig (L a) = true then (if s_dig (L (a + 1)) = true then some (10 * (L a - 48) + (L (a + 1) - 48), a + 2) else some (L a - 48, a + 1)) else none
def s_one (L : Nat → Nat) (e a : Nat) : Option (Nat × Nat) := match s_num L a with
  | some p => if L p.2 = e then some (p.1, p.2 + 1) else none
  | none => none
/-- letters as numbers, 0 behind the text -/
def s_L (L : Nat → Nat) (t : Nat) : Prop := t ≤ 200 ∧ (∀ i, t ≤ i → L i = 0) ∧ ∀ i, L i ≤ 126
def s_C (L : Nat → Nat) (t : Nat) (σ : sm_St) : Prop := σ 97 2 = nI t ∧ ∀ i, i < t → σ 98 i = nI (L i)
def s_M (L : Nat → Nat) (t : Nat) (τ : sm_St) : Prop := τ 110 20 = nI t ∧ ∀ i, i < t → τ 121 i = nI (L i)
theorem s_dig_I {c : Nat} (hc : c < 1000) : x_dig (nI c) = s_dig c := by
  unfold x_dig sm_win s_dig
  apply Bool.eq_iff_iff.mpr
  rw [decide_eq_true_eq, decide_eq_true_eq, show (48 : Int32) = nI 48 from rfl, show (57 : Int32) = nI 57 from rfl, nI_ltI (by omega) (by decide), nI_ltI (by decide) (by omega)]
  omega
theorem s_here {L : Nat → Nat} {t a : Nat} {σ : sm_St} (hL : s_L L t) (h : s_C L t σ) (ha : σ 97 3 = nI a) (ha2 : a < 1000) : x_here σ = nI (L a) := by
  obtain ⟨l1, l2, l3⟩ := hL
  unfold x_here
  rw [h.1, ha]
  by_cases e : t ≤ a
  · rw [if_pos ((nI_leI (by omega) (by omega)).mpr e), l2 a e]
    rfl
  · rw [if_neg (fun hh => e ((nI_leI (by omega) (by omega)).mp hh)), r_at_nI rfl (show a < 200 by omega) (by decide)]
    exact h.2 a (by omega)
theorem s_hereM {L : Nat → Nat} {t a : Nat} {τ : sm_St} (hL : s_L L t) (h : s_M L t τ) (ha : τ 110 21 = nI a) (ha2 : a < 1000) : y_here τ = nI (L a) := by
  obtain ⟨l1, l2, l3⟩ := hL
  unfold y_here
  rw [h.1, ha]
  by_cases e : t ≤ a
  · rw [if_pos ((nI_leI (by omega) (by omega)).mpr e), l2 a e]
    rfl
  · rw [if_neg (fun hh => e ((nI_leI (by omega) (by omega)).mp hh)), r_at_nI rfl (show a < 200 by omega) (by decide)]
    exact h.2 a (by omega)
/-- alike but for the class's place and its row of numbers -/
def s_f (σ' σ : sm_St) : Prop := ∀ q l, ¬ (q = 97 ∧ l = 3) → q ≠ 99 → σ' q l = σ q l
theorem s_f.rf (σ : sm_St) : s_f σ σ := fun _ _ _ _ => rfl
theorem s_f.tr {a b c : sm_St} (h : s_f a b) (h2 : s_f b c) : s_f a c := fun q l x y => (h q l x y).trans (h2 q l x y)
theorem s_f.C {L : Nat → Nat} {t : Nat} {σ' σ : sm_St} (h : s_f σ' σ) (hC : s_C L t σ) : s_C L t σ' := ⟨(h 97 2 (by omega) (by decide)).trans hC.1, fun i hi => (h 98 i (by omega) (by decide)).trans (hC.2 i hi)⟩
/-- alike but for the model's place and number, and the row a -/
def s_g (a : Nat) (τ' τ : sm_St) : Prop := ∀ q l, ¬ (q = 110 ∧ (l = 21 ∨ l = 27)) → q ≠ a → τ' q l = τ q l
theorem s_g.tr {r : Nat} {a b c : sm_St} (h : s_g r a b) (h2 : s_g r b c) : s_g r a c := fun q l x y => (h q l x y).trans (h2 q l x y)
theorem s_g.M {L : Nat → Nat} {t r : Nat} {τ' τ : sm_St} (hr : 122 ≤ r) (h : s_g r τ' τ) (hM : s_M L t τ) : s_M L t τ' := ⟨(h 110 20 (by omega) (by omega)).trans hM.1, fun i hi => (h 121 i (by omega) (by omega)).trans (hM.2 i hi)⟩
theorem s_num_a {L : Nat → Nat} {a : Nat} {p : Nat × Nat} (h : s_num L a = some p) (hL : ∀ i, L i ≤ 126) : p.1 ≤ 99 ∧ a < p.2 ∧ p.2 ≤ a + 2 := by
  unfold s_num s_dig at h
  split at h
  · rename_i h1
    have h1 := of_decide_eq_true h1
    split at h
    · rename_i h2
      have h2 := of_decide_eq_true h2
      cases h
      refine ⟨?_, ?_, ?_⟩ <;> dsimp only <;> omega
    · cases h
      refine ⟨?_, ?_, ?_⟩ <;> dsimp only <;> omega
  · cases h
theorem s_one_a {L : Nat → Nat} {a e : Nat} {p : Nat × Nat} (h : s_one L e a = some p) (hL : ∀ i, L i ≤ 126) : p.1 ≤ 99 ∧ a < p.2 ∧ p.2 ≤ a + 3 := by
  unfold s_one at h
  cases hn : s_num L a with
  | none => rw [hn] at h; cases h
  | some q =>
    rw [hn] at h
    dsimp only at h
    obtain ⟨h1, h2, h3⟩ := s_num_a hn hL
    split at h
    · cases h
      refine ⟨?_, ?_, ?_⟩ <;> dsimp only <;> omega
    · cases h
theorem x_inc_at {σ : sm_St} {a : Nat} (h : σ 97 3 = nI a) : x_inc σ = sm_set σ 97 3 (nI (a + 1)) := by
  unfold x_inc
  rw [h, nI_1]
theorem x_num_s {L : Nat → Nat} {t a : Nat} {σ : sm_St} (hL : s_L L t) (h : s_C L t σ) (ha : σ 97 3 = nI a) (ha2 : a < 900) :
    (∃ p, s_num L a = some p ∧ x_num σ = (nI p.1, sm_set σ 97 3 (nI p.2))) ∨ (s_num L a = none ∧ x_num σ = (-4, σ)) := by
  have hL2 := hL.2.2
  have e0 : x_here σ = nI (L a) := s_here hL h ha (by omega)
  have ei : x_inc σ = sm_set σ 97 3 (nI (a + 1)) := x_inc_at ha
  have fC : s_C L t (sm_set σ 97 3 (nI (a + 1))) := ⟨by rw [sm_set_ne (by decide)]; exact h.1, fun i hi => by rw [sm_set_off (by decide)]; exact h.2 i hi⟩
  have e1 : x_here (sm_set σ 97 3 (nI (a + 1))) = nI (L (a + 1)) := s_here hL fC sm_set_eq (by omega)
  have ei2 : x_inc (sm_set σ 97 3 (nI (a + 1))) = sm_set σ 97 3 (nI (a + 2)) := by
    rw [x_inc_at (a := a + 1) sm_set_eq, sm_set_set]
  have b0 := hL2 a
  have b1 := hL2 (a + 1)
  unfold x_num s_num
  rw [ei, e0, e1, ei2, s_dig_I (by omega), s_dig_I (by omega)]
  by_cases h0 : s_dig (L a) = true
  · have d0 := of_decide_eq_true h0
    obtain ⟨c0, ec0⟩ : ∃ c, L a = 48 + c := ⟨L a - 48, by omega⟩
    have v0 : x_mx (-4) * 10 + nI (L a) - 48 = nI c0 := by
      have : ∀ c, c < 10 → x_mx (-4) * 10 + nI (48 + c) - 48 = nI c := by decide +kernel
      rw [ec0]
      exact this c0 (by omega)
    rw [if_pos h0, if_pos h0, v0]
    by_cases h1 : s_dig (L (a + 1)) = true
    · have d1 := of_decide_eq_true h1
      obtain ⟨c1, ec1⟩ : ∃ c, L (a + 1) = 48 + c := ⟨L (a + 1) - 48, by omega⟩
      have v1 : x_mx (nI c0) * 10 + nI (L (a + 1)) - 48 = nI (10 * c0 + c1) := by
        have : ∀ c, c < 10 → ∀ d, d < 10 → x_mx (nI c) * 10 + nI (48 + d) - 48 = nI (10 * c + d) := by decide +kernel
        rw [ec1]
        exact this c0 (by omega) c1 (by omega)
      rw [if_pos h1, if_pos h1, v1]
      exact Or.inl ⟨_, rfl, by rw [show 10 * (L a - 48) + (L (a + 1) - 48) = 10 * c0 + c1 by omega]⟩
    · rw [if_neg h1, if_neg h1]
      exact Or.inl ⟨_, rfl, by rw [show L a - 48 = c0 by omega]⟩
  · rw [if_neg h0, if_neg h0]
    exact Or.inr ⟨rfl, rfl⟩
theorem x_one_s {L : Nat → Nat} {t a i e : Nat} {σ : sm_St} (hL : s_L L t) (h : s_C L t σ) (ha : σ 97 3 = nI a) (ha2 : a < 900) (hi : i < 3) (he : e < 1000) :
    (∃ p σ', s_one L e a = some p ∧ x_one σ (nI i) (nI e) = (true, σ') ∧ σ' 97 3 = nI p.2 ∧ σ' 99 i = nI p.1 ∧ (∀ j, j ≠ i → σ' 99 j = σ 99 j) ∧ s_f σ' σ) ∨ (s_one L e a = none ∧ (x_one σ (nI i) (nI e)).1 = false) := by
  have hL2 := hL.2.2
  unfold x_one s_one
  rcases x_num_s hL h ha ha2 with ⟨p, e1, e2⟩ | ⟨e1, e2⟩
  · obtain ⟨p1, p2, p3⟩ := s_num_a e1 hL2
    rw [e1, e2]
    dsimp only
    have fC : s_C L t (sm_set σ 97 3 (nI p.2)) := ⟨by rw [sm_set_ne (by decide)]; exact h.1, fun i hi => by rw [sm_set_off (by decide)]; exact h.2 i hi⟩
    have eh : x_here (sm_set σ 97 3 (nI p.2)) = nI (L p.2) := s_here hL fC sm_set_eq (by omega)
    have hne : ¬ nI p.1 < 0 := nI_pos (by omega)
    have hb := hL2 p.2
    rw [eh]
    by_cases c : L p.2 = e
    · rw [if_pos c, if_neg (fun hh => hh.elim hne (fun h2 => h2 (by rw [c])))]
      refine Or.inl ⟨_, _, rfl, rfl, ?_, ?_, fun j hj => ?_, fun q l x y => ?_⟩
      · rw [r_set_nI rfl hi (by decide)]
        unfold x_inc
        rw [sm_set_eq, sm_set_off (by decide), sm_set_eq, nI_1]
      · rw [r_set_nI rfl hi (by decide)]
        unfold x_inc
        rw [sm_set_off (by decide), sm_set_eq]
      · rw [r_set_nI rfl hi (by decide)]
        unfold x_inc
        rw [sm_set_off (by decide), sm_set_ne hj, sm_set_off (by decide)]
      · rw [r_set_nI rfl hi (by decide)]
        unfold x_inc
        rw [sm_set_at, if_neg x, sm_set_off y, sm_set_at, if_neg x]
    · rw [if_neg c, if_pos (Or.inr (fun hh => c (by
        have h2 := congrArg Int32.toInt hh
        rw [nI_toInt (by omega), nI_toInt (by omega)] at h2
        omega)))]
      exact Or.inr ⟨rfl, rfl⟩
  · rw [e1, e2]
    dsimp only
    rw [if_pos (Or.inl (by decide))]
    exact Or.inr ⟨rfl, rfl⟩
theorem y_num_s {L : Nat → Nat} {t a e lo hi r : Nat} {τ : sm_St} (hL : s_L L t) (h : s_M L t τ) (ha : τ 110 21 = nI a) (ha2 : a < 900) (he : e < 1000) (hlo : lo < 1000) (hhi : hi < 1000) (hr : 122 ≤ r) :
    (∃ p τ', s_one L e a = some p ∧ (lo ≤ p.1 ∧ p.1 ≤ hi) ∧ y_num τ (nI lo) (nI hi) (nI e) = (true, τ') ∧ τ' 110 21 = nI p.2 ∧ τ' 110 27 = nI p.1 ∧ s_g r τ' τ ∧ τ' r = τ r) ∨ ((∀ p, s_one L e a = some p → ¬ (lo ≤ p.1 ∧ p.1 ≤ hi)) ∧ (y_num τ (nI lo) (nI hi) (nI e)).1 = false) := by
  have hL2 := hL.2.2
  have e0 : y_here τ = nI (L a) := s_hereM hL h ha (by omega)
  have inc : ∀ (X : sm_St) (b : Nat), X 110 21 = nI b → y_inc X = sm_set X 110 21 (nI (b + 1)) := fun X b hb => by
    unfold y_inc
    rw [hb, nI_1]
  have ei : y_inc τ = sm_set τ 110 21 (nI (a + 1)) := inc τ a ha
  have gM : ∀ b, s_M L t (sm_set τ 110 21 (nI b)) := fun b => ⟨by rw [sm_set_ne (by decide)]; exact h.1, fun i hi => by rw [sm_set_off (by decide)]; exact h.2 i hi⟩
  have e1 : y_here (sm_set τ 110 21 (nI (a + 1))) = nI (L (a + 1)) := s_hereM hL (gM _) sm_set_eq (by omega)
  have ei2 : y_inc (sm_set τ 110 21 (nI (a + 1))) = sm_set τ 110 21 (nI (a + 2)) := by
    rw [inc _ (a + 1) sm_set_eq, sm_set_set]
  have b0 := hL2 a
  have b1 := hL2 (a + 1)
  have key : s_dig (L a) = true → ∃ p, s_num L a = some p ∧ y_val τ = (nI p.1, sm_set τ 110 21 (nI p.2)) := fun h0 => by
    have d0 := of_decide_eq_true h0
    obtain ⟨c0, ec0⟩ : ∃ c, L a = 48 + c := ⟨L a - 48, by omega⟩
    have v0 : nI (L a) - 48 = nI c0 := by
      have : ∀ c, c < 10 → nI (48 + c) - 48 = nI c := by decide +kernel
      rw [ec0]
      exact this c0 (by omega)
    unfold y_val s_num
    rw [ei, e0, e1, ei2, if_pos h0, v0, show sm_win (nI (L (a + 1))) 48 57 = s_dig (L (a + 1)) from s_dig_I (by omega)]
    by_cases h1 : s_dig (L (a + 1)) = true
    · have d1 := of_decide_eq_true h1
      obtain ⟨c1, ec1⟩ : ∃ c, L (a + 1) = 48 + c := ⟨L (a + 1) - 48, by omega⟩
      have v1 : 10 * nI c0 + nI (L (a + 1)) - 48 = nI (10 * c0 + c1) := by
        have : ∀ c, c < 10 → ∀ d, d < 10 → 10 * nI c + nI (48 + d) - 48 = nI (10 * c + d) := by decide +kernel
        rw [ec1]
        exact this c0 (by omega) c1 (by omega)
      rw [if_pos h1, if_pos h1, v1]
      exact ⟨_, rfl, by rw [show 10 * (L a - 48) + (L (a + 1) - 48) = 10 * c0 + c1 by omega]⟩
    · rw [if_neg h1, if_neg h1]
      exact ⟨_, rfl, by rw [show L a - 48 = c0 by omega]⟩
  unfold y_num s_one
  rw [e0, show sm_win (nI (L a)) 48 57 = s_dig (L a) from s_dig_I (by omega)]
  by_cases h0 : s_dig (L a) = true
  · obtain ⟨p, k1, k2⟩ := key h0
    obtain ⟨p1, p2, p3⟩ := s_num_a k1 hL2
    have hb := hL2 p.2
    have ep : y_put (y_val τ) = sm_set (sm_set τ 110 21 (nI p.2)) 110 27 (nI p.1) := by
      unfold y_put
      rw [k2]
    have gP : s_M L t (sm_set (sm_set τ 110 21 (nI p.2)) 110 27 (nI p.1)) := ⟨by rw [sm_set_ne (by decide)]; exact (gM _).1, fun i hi => by rw [sm_set_off (by decide)]; exact (gM _).2 i hi⟩
    have p21 : sm_set (sm_set τ 110 21 (nI p.2)) 110 27 (nI p.1) 110 21 = nI p.2 := by rw [sm_set_ne (by decide), sm_set_eq]
    have eh : y_here (sm_set (sm_set τ 110 21 (nI p.2)) 110 27 (nI p.1)) = nI (L p.2) := s_hereM hL gP p21 (by omega)
    have ew : sm_win (nI p.1) (nI lo) (nI hi) = decide (lo ≤ p.1 ∧ p.1 ≤ hi) := by
      unfold sm_win
      apply Bool.eq_iff_iff.mpr
      rw [decide_eq_true_eq, decide_eq_true_eq, nI_ltI (by omega) (by omega), nI_ltI (by omega) (by omega)]
      omega
    rw [if_pos h0, k1, ep, eh, k2]
    dsimp only
    rw [ew]
    by_cases c : L p.2 = e
    · by_cases d : lo ≤ p.1 ∧ p.1 ≤ hi
      · rw [if_pos c, if_pos ⟨by rw [c], decide_eq_true d⟩]
        refine Or.inl ⟨_, _, rfl, d, rfl, ?_, ?_, fun q l x y => ?_, ?_⟩
        · rw [inc _ _ p21, sm_set_eq]
        · rw [inc _ _ p21, sm_set_ne (by decide), sm_set_eq]
        · rw [inc _ _ p21, sm_set_at, if_neg (by omega), sm_set_at, if_neg (by omega), sm_set_at, if_neg (by omega)]
        · rw [inc _ _ p21, sm_set_off (by omega), sm_set_off (by omega), sm_set_off (by omega)]
      · rw [if_pos c, if_neg (fun hh => d (of_decide_eq_true hh.2))]
        refine Or.inr ⟨fun q hq => ?_, rfl⟩
        cases hq
        exact d
    · rw [if_neg c, if_neg (fun hh => c (by
        have h2 := congrArg Int32.toInt hh.1
        rw [nI_toInt (by omega), nI_toInt (by omega)] at h2
        omega))]
      exact Or.inr ⟨fun q hq => (by cases hq), rfl⟩
  · rw [if_neg h0]
    refine Or.inr ⟨fun q hq => ?_, rfl⟩
    unfold s_num at hq
    rw [if_neg h0] at hq
    cases hq

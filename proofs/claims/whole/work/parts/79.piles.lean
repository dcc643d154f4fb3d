/-! the piles: a field more, a field taken back -/
def w_pk (P b n a sl : Nat) : Prop := (P = 104 ∧ b = 16 ∧ n = 8 ∧ a = 125 ∧ sl = 31) ∨ (P = 106 ∧ b = 80 ∧ n = 2 ∧ a = 127 ∧ sl = 34)
def w_nx (n tp : Nat) : Nat := if tp + 1 < n then tp + 1 else 0
def w_pv (n tp : Nat) : Nat := if tp = 0 then n - 1 else tp - 1
theorem w_top {n tp : Nat} (hn : n < 100) (h : tp < n) : g_top n (nI tp) = nI (w_nx n tp) := by
  unfold g_top w_nx
  rw [nI_1]
  by_cases e : tp + 1 < n
  · rw [if_pos e, if_neg (fun hh => absurd ((nI_leI (by omega) (by omega)).mp hh) (by omega))]
  · rw [if_neg e, if_pos ((nI_leI (by omega) (by omega)).mpr (by omega))]
    rfl
theorem w_pot {n tp : Nat} (hn : n < 100) (h : tp < n) : g_pot n (nI tp) = nI (w_pv n tp) := by
  unfold g_pot w_pv
  by_cases e : tp = 0
  · obtain ⟨m, rfl⟩ : ∃ m, n = m + 1 := ⟨n - 1, by omega⟩
    rw [if_pos e, e, if_pos (show nI 0 ≤ 0 from Int32.le_refl _), nI_pred]
    rfl
  · obtain ⟨m, rfl⟩ : ∃ m, tp = m + 1 := ⟨tp - 1, by omega⟩
    rw [if_neg e, if_neg (show ¬ nI (m + 1) ≤ 0 from fun hh => absurd ((nI_leI (b := 0) (by omega) (by decide)).mp hh) (by omega)), nI_pred]
    rfl
theorem w_push_off {P b n u tp q : Nat} {σ : sm_St} (hn : n < 100) (h2 : σ P 2 = nI tp) (ht : tp < n) (hq : q ≠ P) (hr : q < b + 8 * w_nx n tp ∨ b + 8 * w_nx n tp + 8 ≤ q) : g_push P b n σ 0 q = σ q := by
  have hlt : w_nx n tp < n := by unfold w_nx; split <;> omega
  unfold g_push
  rw [sm_set_off hq, h2, w_top hn ht, nI_clamp (by omega), g_copy_off hr, sm_set_off hq]
theorem w_push_V {P b n tp np nc : Nat} {σ : sm_St} (hn : n < 100) (hb : 8 ≤ b) (hP : 8 ≤ P) (h2 : σ P 2 = nI tp) (ht : tp < n) (hPb : P < b + 8 * w_nx n tp ∨ b + 8 * w_nx n tp + 8 ≤ P) (h6 : np ≤ 6) (h8 : nc ≤ 8) : w_ag np nc (sm_V (g_push P b n σ 0) (b + 8 * w_nx n tp)) (sm_V σ 0) := by
  have hlt : w_nx n tp < n := by unfold w_nx; split <;> omega
  have e1 : w_ag np nc (sm_V (g_push P b n σ 0) (b + 8 * w_nx n tp)) (sm_V (g_copy (sm_set σ P 2 (g_top n (σ P 2))) (b + 8 * w_nx n tp) 0) (b + 8 * w_nx n tp)) := by
    refine w_ag_c _ (fun i hi => ?_) (fun q a c => ?_)
    · unfold g_push
      rw [sm_set_off (by omega), h2, w_top hn ht, nI_clamp (by omega)]
    · unfold g_push
      rw [sm_set_off (by omega), h2, w_top hn ht, nI_clamp (by omega)]
  refine (e1.tr (w_copy h6 h8)).tr (w_ag_c 0 (fun i hi => ?_) (fun q a c => ?_))
  · rw [sm_set_off (by omega)]
  · rw [sm_set_off (by omega)]
theorem w_push {P b n a sl np nc u tp : Nat} {σ τ τ2 : sm_St} (hk : w_pk P b n a sl) (h : w_pl P b n a sl σ τ np nc u tp) (hnow : w_now σ τ np nc) (haw : w_aw τ np) (u' d : Nat) (hu' : (u < n ∧ u' = u + 1 ∧ d = 0) ∨ (u = n ∧ u' = n ∧ d = 1)) (hsl : τ2 110 sl = nI u') (hold : ∀ j k, j + 1 < u' → k < 29 → τ2 a (29 * j + k) = τ a (29 * (j + d) + k)) (hnew : ∀ k, k < 29 → τ2 a (29 * (u' - 1) + k) = q_num τ k)
    (h1 : ∀ j, j = 0 ∨ j = 1 ∨ j = 2 ∨ j = 28 ∨ j = 29 → τ2 110 j = τ 110 j) (hc : ∀ q i, 111 ≤ q → q ≤ 113 → i < nc → τ2 q i = τ q i) : w_pl P b n a sl (g_push P b n σ 0) τ2 np nc u' (w_nx n tp) := by
  obtain ⟨⟨x1, x2, x3⟩, ⟨x4, x5⟩, x6⟩ := h
  have hn1 : n < 100 ∧ 1 ≤ n ∧ 8 ≤ b ∧ 8 ≤ P ∧ 118 ≤ a := by rcases hk with ⟨rfl, rfl, rfl, rfl, rfl⟩ | ⟨rfl, rfl, rfl, rfl, rfl⟩ <;> omega
  obtain ⟨n1, n2, n3, n4, n5⟩ := hn1
  have hlt : w_nx n tp < n := by unfold w_nx; split <;> omega
  have hPb : P < b + 8 * w_nx n tp ∨ b + 8 * w_nx n tp + 8 ≤ P := by rcases hk with ⟨rfl, rfl, rfl, rfl, rfl⟩ | ⟨rfl, rfl, rfl, rfl, rfl⟩ <;> omega
  have p5 := hnow.2.2.1.1.2
  have c8 := hnow.2.1.c1
  refine ⟨⟨?_, hsl, by omega⟩, ⟨?_, hlt⟩, fun j hj => ?_⟩
  · unfold g_push
    rw [sm_set_eq, x1, nI_1]
    by_cases e : u < n
    · rw [if_neg (fun hh => absurd ((nI_ltI (by omega) (by omega)).mp hh) (by omega))]
      congr 1
      omega
    · rw [if_pos ((nI_ltI (by omega) (by omega)).mpr (by omega))]
      congr 1
      omega
  · unfold g_push
    rw [sm_set_ne (by decide), x4, w_top n1 x5, nI_clamp (by omega), g_copy_off (by omega), sm_set_eq]
  · by_cases e : j + 1 < u'
    · obtain ⟨y1, y2, y3⟩ := x6 (j + d) (by omega)
      have hI : (w_nx n tp + n + 1 - u' + j) % n = (tp + n + 1 - u + (j + d)) % n ∧ (tp + n + 1 - u + (j + d)) % n ≠ w_nx n tp := by
        unfold w_nx
        rcases hk with ⟨rfl, rfl, rfl, rfl, rfl⟩ | ⟨rfl, rfl, rfl, rfl, rfl⟩
        · split <;> omega
        · split <;> omega
      have hIl : (tp + n + 1 - u + (j + d)) % n < n := Nat.mod_lt _ (by omega)
      rw [hI.1]
      have hkk : ∀ k, k < 29 → τ2 a (29 * j + k) = q_num (q_takes τ a (29 * (j + d))) k := fun k hk => by rw [q_num_takes hk, hold j k e hk]
      have ht : w_ag np nc (q_V (q_takes τ2 a (29 * j))) (q_V (q_takes τ a (29 * (j + d)))) := w_tk n5 (by omega) hkk (fun i hi => by rw [q_takes_o (by omega)]; exact h1 i hi) (fun q i q1 q2 hi => by rw [q_takes_off (by omega) (by omega)]; exact hc q i q1 q2 hi)
      have hoff : ∀ q, b + 8 * ((tp + n + 1 - u + (j + d)) % n) ≤ q → q < b + 8 * ((tp + n + 1 - u + (j + d)) % n) + 8 → g_push P b n σ 0 q = σ q := fun q q1 q2 => by
        refine w_push_off (u := u) n1 x4 x5 ?_ ?_
        · rcases hk with ⟨rfl, rfl, rfl, rfl, rfl⟩ | ⟨rfl, rfl, rfl, rfl, rfl⟩ <;> omega
        · have := hI.2
          omega
      refine ⟨((w_ag_c _ (fun i _ => by rw [hoff _ (by omega) (by omega)]) (fun q q1 q2 => hoff q (by omega) (by omega))).tr y1).tr ht.sy, w_ok_w ht y2, w_tk_aw (by omega) hkk y3⟩
    · have ej : j = u' - 1 := by omega
      have hI : (w_nx n tp + n + 1 - u' + j) % n = w_nx n tp := by
        rcases hk with ⟨rfl, rfl, rfl, rfl, rfl⟩ | ⟨rfl, rfl, rfl, rfl, rfl⟩ <;> omega
      rw [hI, ej]
      have ht : w_ag np nc (q_V (q_takes τ2 a (29 * (u' - 1)))) (q_V τ) := w_tk n5 (by omega) hnew h1 hc
      exact ⟨((w_push_V n1 n3 n4 x4 x5 hPb (by omega) c8).tr hnow.1).tr ht.sy, w_ok_w ht hnow.2.1, w_tk_aw (by omega) hnew haw⟩
theorem q_num_e {τ τ' : sm_St} (h : ∀ j, 6 ≤ j → j ≤ 10 → τ' 110 j = τ 110 j) (hr : ∀ q, 114 ≤ q → q ≤ 117 → τ' q = τ q) {k : Nat} (hk : k < 29) : q_num τ' k = q_num τ k := by
  unfold q_num
  rw [h 6 (by decide) (by decide), h 7 (by decide) (by decide), h 8 (by decide) (by decide), h 9 (by decide) (by decide), h 10 (by decide) (by decide)]
  by_cases h5 : k < 5
  · rcases (show k = 0 ∨ k = 1 ∨ k = 2 ∨ k = 3 ∨ k = 4 by omega) with rfl | rfl | rfl | rfl | rfl <;> rfl
  · rw [if_neg (by omega), if_neg (by omega), if_neg (by omega), if_neg (by omega), if_neg (by omega), if_neg (by omega), if_neg (by omega), if_neg (by omega), if_neg (by omega), if_neg (by omega), hr _ (by omega) (by omega)]
/-- the undo pile, one note more -/
theorem w_note {np nc u tp : Nat} {σ τ : sm_St} (h : w_pl 104 16 8 125 31 σ τ np nc u tp) (hnow : w_now σ τ np nc) (haw : w_aw τ np) : ∃ u' tp', w_pl 104 16 8 125 31 (m_note σ) (q_notes τ u) np nc u' tp' := by
  have hu := h.1.2.2
  have e1 : ∀ j, j = 0 ∨ j = 1 ∨ j = 2 ∨ j = 28 ∨ j = 29 → q_notes τ u 110 j = τ 110 j := fun j hj => q_notes_o (by omega)
  have ec : ∀ q i, 111 ≤ q → q ≤ 113 → i < nc → q_notes τ u q i = τ q i := fun q i a b _ => by rw [q_notes_off (by omega) (by omega)]
  by_cases e : u = 8
  · refine ⟨8, w_nx 8 tp, w_push (Or.inl ⟨rfl, rfl, rfl, rfl, rfl⟩) h hnow haw 8 1 (Or.inr ⟨e, rfl, rfl⟩) ?_ (fun j k hj hk => ?_) (fun k hk => ?_) e1 ec⟩
    · unfold q_notes
      rw [if_pos e, sm_set_eq]
      rfl
    · unfold q_notes
      rw [if_pos e, sm_set_off (by decide), w_note_off (by omega), sm_set_off (by decide), sm_row_eq]
      unfold q_sh
      rw [if_pos (by omega)]
      congr 1
      omega
    · unfold q_notes
      rw [if_pos e, sm_set_off (by decide)]
      show q_lays (sm_set (sm_row τ 125 (q_sh (τ 125) 203)) 110 31 7) 125 203 125 (203 + k) = _
      rw [w_note_at hk]
      exact q_num_e (fun j a b => by rw [sm_set_ne (by omega), sm_row_off (by decide)]) (fun q a b => by rw [sm_set_off (by omega), sm_row_off (by omega)]) hk
  · refine ⟨u + 1, w_nx 8 tp, w_push (Or.inl ⟨rfl, rfl, rfl, rfl, rfl⟩) h hnow haw (u + 1) 0 (Or.inl ⟨by omega, rfl, rfl⟩) ?_ (fun j k hj hk => ?_) (fun k hk => ?_) e1 ec⟩
    · unfold q_notes
      rw [if_neg e, sm_set_eq]
    · unfold q_notes
      rw [if_neg e, sm_set_off (by decide), w_note_off (by omega), Nat.add_zero]
    · unfold q_notes
      rw [if_neg e, sm_set_off (by decide)]
      exact w_note_at hk
theorem w_keep_pl {np nc u tp : Nat} {σ τ : sm_St} (h : w_pl 106 80 2 127 34 σ τ np nc u tp) (hnow : w_now σ τ np nc) (haw : w_aw τ np) (hu : u < 2) : w_pl 106 80 2 127 34 (g_push 106 80 2 σ 0) (sm_set (q_lays τ 127 (29 * u)) 110 34 (nI u + 1)) np nc (u + 1) (w_nx 2 tp) := by
  refine w_push (Or.inr ⟨rfl, rfl, rfl, rfl, rfl⟩) h hnow haw (u + 1) 0 (Or.inl ⟨hu, rfl, rfl⟩) ?_ (fun j k hj hk => ?_) (fun k hk => ?_) (fun j hj => ?_) (fun q i a b _ => ?_)
  · rw [sm_set_eq, nI_1]
  · rw [sm_set_off (by decide), w_note_off (by omega), Nat.add_zero]
  · rw [sm_set_off (by decide)]
    exact w_note_at hk
  · rw [sm_set_ne (by omega), q_lays_off (by decide)]
  · rw [sm_set_off (by omega), q_lays_off (by omega)]
/-- a field is taken back -/
theorem w_pop {P b n a sl np nc u tp : Nat} {σ τ : sm_St} (hk : w_pk P b n a sl) (h : w_pl P b n a sl σ τ np nc u tp) (hu : 0 < u) (hn : np ≤ 6) (hc8 : nc ≤ 8) :
    w_ag np nc (sm_V (g_pop P b n σ 0) 0) (q_V (q_takes (sm_set τ 110 sl (nI (u - 1))) a (29 * (u - 1)))) ∧ w_ok (q_V (q_takes (sm_set τ 110 sl (nI (u - 1))) a (29 * (u - 1)))) np nc ∧ w_aw (q_takes (sm_set τ 110 sl (nI (u - 1))) a (29 * (u - 1))) np ∧
    w_pl P b n a sl (g_pop P b n σ 0) (q_takes (sm_set τ 110 sl (nI (u - 1))) a (29 * (u - 1))) np nc (u - 1) (w_pv n tp) := by
  obtain ⟨⟨x1, x2, x3⟩, ⟨x4, x5⟩, x6⟩ := h
  have hn1 : n < 100 ∧ 1 ≤ n ∧ 8 ≤ b ∧ 8 ≤ P ∧ 118 ≤ a ∧ a ≠ 110 ∧ sl ≠ 0 ∧ sl ≠ 1 ∧ sl ≠ 2 ∧ sl ≠ 28 ∧ sl ≠ 29 ∧ 10 < sl := by rcases hk with ⟨rfl, rfl, rfl, rfl, rfl⟩ | ⟨rfl, rfl, rfl, rfl, rfl⟩ <;> omega
  obtain ⟨n1, n2, n3, n4, n5, n6, s0, s1, s2, s28, s29, s10⟩ := hn1
  have hpv : w_pv n tp < n := by unfold w_pv; split <;> omega
  have hbP : b + 8 * n ≤ P ∨ P < b := by rcases hk with ⟨rfl, rfl, rfl, rfl, rfl⟩ | ⟨rfl, rfl, rfl, rfl, rfl⟩ <;> omega
  obtain ⟨y1, y2, y3⟩ := x6 (u - 1) (by omega)
  have hI : (tp + n + 1 - u + (u - 1)) % n = tp := by
    rcases hk with ⟨rfl, rfl, rfl, rfl, rfl⟩ | ⟨rfl, rfl, rfl, rfl, rfl⟩ <;> omega
  rw [hI] at y1
  have key : ∀ j, w_ag np nc (q_V (q_takes (sm_set τ 110 sl (nI (u - 1))) a (29 * j))) (q_V (q_takes τ a (29 * j))) ∧ ∀ k, k < 29 → sm_set τ 110 sl (nI (u - 1)) a (29 * j + k) = q_num (q_takes τ a (29 * j)) k := fun j => by
    have hkk : ∀ k, k < 29 → sm_set τ 110 sl (nI (u - 1)) a (29 * j + k) = q_num (q_takes τ a (29 * j)) k := fun k hk => by rw [q_num_takes hk, sm_set_off n6]
    exact ⟨w_tk n5 hn hkk (fun i hi => by rw [q_takes_o (by omega), sm_set_ne (by omega)]) (fun q i q1 q2 hi => by rw [q_takes_off (by omega) (by omega), sm_set_off (by omega)]), hkk⟩
  have eF : ∀ q, q ≠ P → (8 ≤ q) → g_pop P b n σ 0 q = σ q := fun q a1 a2 => by
    unfold g_pop
    rw [sm_set_off a1, sm_set_off a1, g_copy_off (by omega)]
  have e0 : w_ag np nc (sm_V (g_pop P b n σ 0) 0) (sm_V σ (b + 8 * tp)) := by
    refine (w_ag_c 0 (fun i hi => ?_) (fun q q1 q2 => ?_)).tr (w_copy (σ := σ) (k := 0) (j := b + 8 * tp) hn hc8)
    · unfold g_pop
      rw [sm_set_off (by omega), sm_set_off (by omega), x4, nI_clamp (by omega)]
    · unfold g_pop
      rw [sm_set_off (by omega), sm_set_off (by omega), x4, nI_clamp (by omega)]
  refine ⟨(e0.tr y1).tr (key (u - 1)).1.sy, w_ok_w (key (u - 1)).1 y2, w_tk_aw hn (key (u - 1)).2 y3, ⟨?_, ?_, by omega⟩, ⟨?_, hpv⟩, fun j hj => ?_⟩
  · obtain ⟨m, rfl⟩ : ∃ m, u = m + 1 := ⟨u - 1, by omega⟩
    unfold g_pop
    rw [sm_set_eq, x1, nI_pred]
    rfl
  · rw [q_takes_o (by omega), sm_set_eq]
  · unfold g_pop
    rw [sm_set_ne (by decide), sm_set_eq, x4, w_pot n1 x5]
  · obtain ⟨z1, z2, z3⟩ := x6 j (by omega)
    have hJ : (w_pv n tp + n + 1 - (u - 1) + j) % n = (tp + n + 1 - u + j) % n := by
      unfold w_pv
      rcases hk with ⟨rfl, rfl, rfl, rfl, rfl⟩ | ⟨rfl, rfl, rfl, rfl, rfl⟩
      · split <;> omega
      · split <;> omega
    have hJl : (tp + n + 1 - u + j) % n < n := Nat.mod_lt _ (by omega)
    rw [hJ]
    have hkk : ∀ k, k < 29 → q_takes (sm_set τ 110 sl (nI (u - 1))) a (29 * (u - 1)) a (29 * j + k) = q_num (q_takes τ a (29 * j)) k := fun k hk => by rw [q_takes_off n6 (by omega)]; exact (key j).2 k hk
    have ht : w_ag np nc (q_V (q_takes (q_takes (sm_set τ 110 sl (nI (u - 1))) a (29 * (u - 1))) a (29 * j))) (q_V (q_takes τ a (29 * j))) := w_tk n5 hn hkk (fun i hi => by rw [q_takes_o (by omega), q_takes_o (by omega), sm_set_ne (by omega)]) (fun q i q1 q2 hi => by rw [q_takes_off (by omega) (by omega), q_takes_off (by omega) (by omega), sm_set_off (by omega)])
    refine ⟨((w_ag_c _ (fun i _ => by rw [eF _ (by omega) (by omega)]) (fun q q1 q2 => eF q (by omega) (by omega))).tr z1).tr ht.sy, w_ok_w ht z2, w_tk_aw hn hkk z3⟩

/-! one call of each in turn, from one state: answers alike, and alike behind it -/
def w_Al (σ : sm_St) : Prop := ∃ np nc z t u tp kk tk, w_I σ σ np nc z t u tp kk tk
def j_2 (y5 : MethodName) (c5 : ByteArray) (n5 d5 : Nat) (y6 : MethodName) (c6 : ByteArray) (n6 d6 : Nat) (as : List Value) (σ : sm_St) : Prop := ∃ (a : Int32) (σ1 σ2 : sm_St), sm_C y5 c5 n5 (some .int) d5 (.ref 96 :: as) σ (some (.int a)) σ1 ∧ sm_C y6 c6 n6 (some .int) d6 (.ref 110 :: as) σ1 (some (.int a)) σ2 ∧ w_Al σ2
section
variable {σ σ1 σ2 τ σ' τ' : sm_St} {np nc z t u tp kk tk : Nat}
theorem w_cs_lt {q i : Nat} (h : w_cs q i) : q < 110 := by unfold w_cs at h; omega
theorem w_ms_ge {nc q i : Nat} (h : w_ms nc q i) : 110 ≤ q := by unfold w_ms at h; omega
theorem w_Al_of (h : w_I σ1 σ2 np nc z t u tp kk tk) (off : ∀ q, q < 110 → σ2 q = σ1 q) : w_Al σ2 := ⟨np, nc, z, t, u, tp, kk, tk, w_I_e (fun q i hq => congrFun (off q (w_cs_lt hq)) i) (fun _ _ _ => rfl) h⟩
theorem w_I_on (h : w_I σ σ np nc z t u tp kk tk) (off : ∀ q, 110 ≤ q → σ1 q = σ q) : w_I σ σ1 np nc z t u tp kk tk := w_I_e (fun _ _ _ => rfl) (fun q i hq => congrFun (off q (w_ms_ge hq)) i) h
theorem w_Al_try (I : w_I σ σ np nc z t u tp kk tk) (c : ∀ q i, w_cs q i → σ1 q i = σ q i) (c2 : ∀ q, 110 ≤ q → σ1 q = σ q) (m : ∀ q i, w_ms nc q i → σ2 q i = σ1 q i) (mo : ∀ q, q < 110 → σ2 q = σ1 q) : w_Al σ2 :=
  w_Al_of (w_I_e c (fun q i hq => (m q i hq).trans (congrFun (c2 q (w_ms_ge hq)) i)) I) mo
theorem w_Al_t (I : w_I σ σ np nc z t u tp kk tk) (c : ∀ q, q < 8 ∨ 16 ≤ q → σ1 q = σ q) (m : ∀ q, q ≠ 126 → σ2 q = σ1 q) : w_Al σ2 :=
  w_Al_try I (fun q i hq => congrFun (c q (by unfold w_cs at hq; omega)) i) (fun q hq => c q (by omega)) (fun q i hq => congrFun (m q (by unfold w_ms at hq; omega)) i) (fun q hq => m q (by omega))
theorem w_I_ts {z' t' : Nat} (hc : ∀ q i, w_cs q i → q < 97 ∨ 103 < q → σ' q i = σ q i) (hm : ∀ q i, w_ms nc q i → q < 118 ∨ 121 < q → ¬ (q = 110 ∧ (i = 15 ∨ i = 20)) → τ' q i = τ q i) (hs : w_see σ' τ' z') (ht : w_txt σ' τ' t') (h : w_I σ τ np nc z t u tp kk tk) : w_I σ' τ' np nc z' t' u tp kk tk := by
  obtain ⟨h1, h2, h3, h4, h5, h6⟩ := h
  have n5 := h1.2.2.1.1.2
  have r : ∀ q, (1 ≤ q ∧ q < 8) ∨ (16 ≤ q ∧ q < 97) ∨ (104 ≤ q ∧ q < 108) → σ' q = σ q := fun q hq => by
    funext i
    exact hc q i (by unfold w_cs; omega) (by omega)
  have rm : ∀ q, (114 ≤ q ∧ q < 118) ∨ q = 125 ∨ q = 127 → τ' q = τ q := fun q hq => by
    funext i
    exact hm q i (by unfold w_ms; omega) (by omega) (by omega)
  have m0 : ∀ j, w_m0 j → τ' 110 j = τ 110 j := fun j hj => hm 110 j (by unfold w_m0 at hj; unfold w_ms; omega) (by omega) (by unfold w_m0 at hj; omega)
  have mc : ∀ q i, 111 ≤ q → q ≤ 113 → i < nc → τ' q i = τ q i := fun q i a b c => hm q i (by unfold w_ms; omega) (by omega) (by omega)
  refine ⟨w_now_e (fun i hi => hc 0 i (by unfold w_cs; omega) (by omega)) (fun q a b => r q (by omega)) m0 mc (fun q i a b _ => by rw [rm q (by omega)]) h1, fun p hp => by rw [rm 117 (by omega)]; exact h2 p hp, hs, ht, ?_, ?_⟩
  · exact w_pl_e (by decide) (by omega) ⟨by rw [r 104 (by omega)], by rw [r 104 (by omega)]⟩ (fun q a b => r q (by omega)) (hm 110 31 (by unfold w_ms; omega) (by omega) (by omega)) (rm 125 (by omega)) (fun j hj => hm 110 j (by unfold w_ms; omega) (by omega) (by omega)) mc h5
  · exact w_pl_e (by decide) (by omega) ⟨by rw [r 106 (by omega)], by rw [r 106 (by omega)]⟩ (fun q a b => r q (by omega)) (hm 110 34 (by unfold w_ms; omega) (by omega) (by omega)) (rm 127 (by omega)) (fun j hj => hm 110 j (by unfold w_ms; omega) (by omega) (by omega)) mc h6
/-! which rows the calls leave -/
theorem cf_write {c : Int32} {q : Nat} (h : q ≠ 97) (h2 : q ≠ 98) : (m_write σ c).2 q = σ q := by
  unfold m_write
  split
  · split
    · unfold m_letter
      dsimp only
      rw [sm_set_off h, r_set_off h2]
    · rfl
  · rfl
theorem pf_write_o {c : Int32} {q i : Nat} (h : ¬ (q = 110 ∧ i = 20)) (h2 : q ≠ 121) : (p_write τ c).2 q i = τ q i := by
  unfold p_write
  split
  · split
    · rfl
    · dsimp only
      rw [sm_set_at, if_neg h, r_set_off h2]
  · rfl
theorem cf_into {q : Nat} (hq : 110 ≤ q) : (x_into σ 8).2 q = σ q := by
  funext l
  exact x_into_k q l (by omega) (by omega) (by omega)
theorem pf_fault {q : Nat} (hq : q < 110) : (y_fault τ).2 q = τ q := by
  funext l
  exact y_fault_h q l (by omega) (by omega)
theorem cf_lay {q : Nat} (hq : 110 ≤ q) : (m_lay σ).2 q = σ q := by
  unfold m_lay
  split
  · exact cf_into hq
  · dsimp only
    rw [sm_set_off (by omega), sm_set_off (by omega), sm_set_off (by omega), g_copy_off (by omega), cf_into hq]
theorem pf_lay {q : Nat} (hq : q < 110) : (p_lay τ).2 q = τ q := by
  unfold p_lay
  split
  · exact pf_fault hq
  · dsimp only
    unfold y_laid
    rw [y_tail_off (by omega), y_lc_off (by omega), y_lp_off (by omega), y_head_off (by omega), pf_fault hq]
theorem cf_note {q : Nat} (h : w_I σ σ np nc z t u tp kk tk) (hq : 110 ≤ q) : m_note σ q = σ q := w_note_c h.2.2.2.2.1.2.1.1 h.2.2.2.2.1.2.1.2 (by omega) (by omega)
theorem cf_pass {n : Int32} {q : Nat} (h : w_I σ σ np nc z t u tp kk tk) (hq : 110 ≤ q) : (m_pass σ n).2 q = σ q := by
  unfold m_pass
  split
  · split
    · dsimp only
      rw [g_hours_off (by omega), cf_note h hq]
    · rfl
  · rfl
theorem q_ps_off {q : Nat} (h : q ≠ 110) : ∀ (n : Nat) (s : Int32) (τ : sm_St), (q_ps np nc n s τ).2 q = τ q
  | 0, _, _ => rfl
  | n + 1, s, τ => by
    unfold q_ps
    rw [q_ps_off h n, q_hour_off h]
theorem pf_pass {n : Int32} {q : Nat} (hq : q < 110) : (p_pass τ np nc u n).2 q = τ q := by
  unfold p_pass
  split
  · split
    · rw [q_ps_off (by omega), q_notes_off (by omega) (by omega)]
    · rfl
  · rfl
theorem cf_wind {d f : Int32} {q : Nat} (h : w_I σ σ np nc z t u tp kk tk) (hq : 110 ≤ q) : (m_wind σ d f).2 q = σ q := by
  unfold m_wind
  split
  · dsimp only
    rw [sm_set_off (by omega), sm_set_off (by omega), cf_note h hq]
  · rfl
theorem pf_wind {d f : Int32} {q : Nat} (hq : q < 110) : (p_wind τ u d f).2 q = τ q := by
  unfold p_wind
  split
  · dsimp only
    rw [sm_set_off (by omega), sm_set_off (by omega), q_notes_off (by omega) (by omega)]
  · rfl
theorem cf_put {p x y : Int32} {q : Nat} (h : w_I σ σ np nc z t u tp kk tk) (hq : 110 ≤ q) : (m_put σ p x y).2 q = σ q := by
  unfold m_put
  split
  · split
    · rfl
    · dsimp only
      rw [r_set_off (by omega), r_set_off (by omega), r_set_off (by omega), cf_note h hq]
  · rfl
theorem pf_put {p x y : Int32} {q : Nat} (hq : q < 110) : (p_put τ u p x y).2 q = τ q := by
  unfold p_put
  split
  · split
    · rfl
    · dsimp only
      rw [q_sets_off (by omega), q_notes_off (by omega) (by omega)]
  · rfl
theorem cf_smell {p s : Int32} {q : Nat} (h : w_I σ σ np nc z t u tp kk tk) (hq : 110 ≤ q) : (m_smell σ p s).2 q = σ q := by
  unfold m_smell
  split
  · split
    · rfl
    · dsimp only
      rw [r_set_off (by omega), cf_note h hq]
  · rfl
theorem pf_smell {p s : Int32} {q : Nat} (hq : q < 110) : (p_smell τ u p s).2 q = τ q := by
  unfold p_smell
  split
  · split
    · rfl
    · dsimp only
      rw [r_set_off (by omega), q_notes_off (by omega) (by omega)]
  · rfl
theorem cf_take {p : Int32} {q : Nat} (h : w_I σ σ np nc z t u tp kk tk) (hq : 110 ≤ q) : (m_take σ p).2 q = σ q := by
  unfold m_take
  split
  · split
    · dsimp only
      rw [r_set_off (by omega), cf_note h hq]
    · rfl
  · rfl
theorem pf_take {p : Int32} {q : Nat} (hq : q < 110) : (p_take τ np u p).2 q = τ q := by
  unfold p_take
  split
  · split
    · rfl
    · dsimp only
      rw [r_set_off (by omega), q_notes_off (by omega) (by omega)]
  · rfl
theorem g_pop_off {P b n q : Nat} (h : q ≠ P) (h2 : 8 ≤ q) : g_pop P b n σ 0 q = σ q := by
  unfold g_pop
  rw [sm_set_off h, sm_set_off h, g_copy_off (by omega)]
theorem cf_undo {q : Nat} (hq : 110 ≤ q) : (m_undo σ).2 q = σ q := by
  unfold m_undo
  split
  · rfl
  · exact g_pop_off (by omega) (by omega)
theorem pf_undo {q : Nat} (hq : q < 110) : (p_undo τ u).2 q = τ q := by
  unfold p_undo
  split
  · rfl
  · dsimp only
    rw [q_takes_off (by omega) (by omega), sm_set_off (by omega)]
theorem cf_keep {q : Nat} (h : w_I σ σ np nc z t u tp kk tk) (hq : 110 ≤ q) : (m_keep σ).2 q = σ q := by
  have x := h.2.2.2.2.2.2.1
  have hlt : w_nx 2 tk < 2 := by unfold w_nx; split <;> omega
  unfold m_keep
  split
  · exact w_push_off (u := 0) (by decide) x.1 x.2 (by omega) (by omega)
  · rfl
theorem pf_keep {q : Nat} (hq : q < 110) : (p_keep τ kk).2 q = τ q := by
  unfold p_keep
  split
  · rfl
  · dsimp only
    rw [sm_set_off (by omega), q_lays_off (by omega)]
theorem cf_back {q : Nat} (hq : 110 ≤ q) : (m_back σ).2 q = σ q := by
  unfold m_back
  split
  · rfl
  · dsimp only
    rw [sm_set_off (by omega), g_pop_off (by omega) (by omega)]
theorem pf_back {q : Nat} (hq : q < 110) : (p_back τ kk).2 q = τ q := by
  unfold p_back
  split
  · rfl
  · dsimp only
    rw [sm_set_off (by omega), q_takes_off (by omega) (by omega), sm_set_off (by omega)]
theorem cf_seen {x y d : Int32} {q : Nat} (h : q < 100 ∨ 103 < q) : (m_seen σ x y d).2 q = σ q := by
  unfold m_seen
  split
  · split
    · unfold g_seen
      dsimp only
      rw [sm_set_off (by omega), r_set_off (by omega), r_set_off (by omega), r_set_off (by omega)]
    · rfl
  · rfl
theorem pf_seen_o {x y d : Int32} {q i : Nat} (h : ¬ (q = 110 ∧ i = 15)) (h2 : q < 118 ∨ 120 < q) : (p_seen τ x y d).2 q i = τ q i := by
  unfold p_seen
  split
  · split
    · rfl
    · dsimp only
      rw [sm_set_at, if_neg h, r_set_off (by omega), r_set_off (by omega), r_set_off (by omega)]
  · rfl
end
/-! each call -/
theorem j_pass {σ : sm_St} (h : w_Al σ) (n : Int32) : j_2 yX5_pass cX5_pass 2 7 yX6_pass cX6_pass 5 8 [.int n] σ := by
  obtain ⟨np, nc, z, t, u, tp, kk, tk, I⟩ := h
  have I1 := w_I_on (σ1 := (m_pass σ n).2) I (fun q hq => cf_pass I hq)
  obtain ⟨e, u2, tp2, I2⟩ := w_pass I1 n
  refine ⟨_, (m_pass σ n).2, _, ?_, c_p_pass (σ := (m_pass σ n).2) (np := np) (I1.1.2.2.1.1) (nc := nc) (I1.1.2.2.2.1.1) (I1.1.2.2.2.2) (u := u) ⟨I1.2.2.2.2.1.1.2.1, I1.2.2.2.2.1.1.2.2⟩ n, w_Al_of I2 (fun q hq => pf_pass hq)⟩
  rw [← e]
  exact c_pass (vp_in_e I.2.2.2.2.1.2.1.1 I.2.2.2.2.1.2.1.2 (by decide)) n
theorem j_wind {σ : sm_St} (h : w_Al σ) (d f : Int32) : j_2 yX5_wind cX5_wind 4 5 yX6_wind cX6_wind 4 3 [.int d, .int f] σ := by
  obtain ⟨np, nc, z, t, u, tp, kk, tk, I⟩ := h
  have I1 := w_I_on (σ1 := (m_wind σ d f).2) I (fun q hq => cf_wind I hq)
  obtain ⟨e, u2, tp2, I2⟩ := w_wind I1 d f
  refine ⟨_, (m_wind σ d f).2, _, ?_, c_p_wind (σ := (m_wind σ d f).2) (u := u) ⟨I1.2.2.2.2.1.1.2.1, I1.2.2.2.2.1.1.2.2⟩ d f, w_Al_of I2 (fun q hq => pf_wind hq)⟩
  rw [← e]
  exact c_wind (vp_in_e I.2.2.2.2.1.2.1.1 I.2.2.2.2.1.2.1.2 (by decide)) d f
theorem j_put {σ : sm_St} (h : w_Al σ) (p x y : Int32) : j_2 yX5_put cX5_put 5 5 yX6_put cX6_put 5 3 [.int p, .int x, .int y] σ := by
  obtain ⟨np, nc, z, t, u, tp, kk, tk, I⟩ := h
  have I1 := w_I_on (σ1 := (m_put σ p x y).2) I (fun q hq => cf_put I hq)
  obtain ⟨e, u2, tp2, I2⟩ := w_put I1 p x y
  refine ⟨_, (m_put σ p x y).2, _, ?_, c_p_put (σ := (m_put σ p x y).2) (np := np) (I1.1.2.2.1.1) (u := u) ⟨I1.2.2.2.2.1.1.2.1, I1.2.2.2.2.1.1.2.2⟩ p x y, w_Al_of I2 (fun q hq => pf_put hq)⟩
  rw [← e]
  exact c_put (vp_in_e I.2.2.2.2.1.2.1.1 I.2.2.2.2.1.2.1.2 (by decide)) p x y
theorem j_smell {σ : sm_St} (h : w_Al σ) (p s : Int32) : j_2 yX5_smell cX5_smell 4 5 yX6_smell cX6_smell 4 3 [.int p, .int s] σ := by
  obtain ⟨np, nc, z, t, u, tp, kk, tk, I⟩ := h
  have I1 := w_I_on (σ1 := (m_smell σ p s).2) I (fun q hq => cf_smell I hq)
  obtain ⟨e, u2, tp2, I2⟩ := w_smellA I1 p s
  refine ⟨_, (m_smell σ p s).2, _, ?_, c_p_smell (σ := (m_smell σ p s).2) (np := np) (I1.1.2.2.1.1) (u := u) ⟨I1.2.2.2.2.1.1.2.1, I1.2.2.2.2.1.1.2.2⟩ p s, w_Al_of I2 (fun q hq => pf_smell hq)⟩
  rw [← e]
  exact c_smell (vp_in_e I.2.2.2.2.1.2.1.1 I.2.2.2.2.1.2.1.2 (by decide)) p s
theorem j_take {σ : sm_St} (h : w_Al σ) (p : Int32) : j_2 yX5_take cX5_take 2 5 yX6_take cX6_take 2 3 [.int p] σ := by
  obtain ⟨np, nc, z, t, u, tp, kk, tk, I⟩ := h
  have I1 := w_I_on (σ1 := (m_take σ p).2) I (fun q hq => cf_take I hq)
  obtain ⟨e, u2, tp2, I2⟩ := w_take I1 p
  refine ⟨_, (m_take σ p).2, _, ?_, c_p_take (σ := (m_take σ p).2) (np := np) (I1.1.2.2.1.1) (u := u) ⟨I1.2.2.2.2.1.1.2.1, I1.2.2.2.2.1.1.2.2⟩ p, w_Al_of I2 (fun q hq => pf_take hq)⟩
  rw [← e]
  exact c_take (vp_in_e I.2.2.2.2.1.2.1.1 I.2.2.2.2.1.2.1.2 (by decide)) p
theorem j_undo {σ : sm_St} (h : w_Al σ) : j_2 yX5_undo cX5_undo 1 5 yX6_undo cX6_undo 1 2 [] σ := by
  obtain ⟨np, nc, z, t, u, tp, kk, tk, I⟩ := h
  have I1 := w_I_on (σ1 := (m_undo σ).2) I (fun q hq => cf_undo hq)
  obtain ⟨e, u2, tp2, I2⟩ := w_undo I1
  refine ⟨_, (m_undo σ).2, _, ?_, c_p_undo (σ := (m_undo σ).2) (u := u) ⟨I1.2.2.2.2.1.1.2.1, I1.2.2.2.2.1.1.2.2⟩, w_Al_of I2 (fun q hq => pf_undo hq)⟩
  rw [← e]
  exact c_undo (vp_in_e I.2.2.2.2.1.2.1.1 I.2.2.2.2.1.2.1.2 (by decide))
theorem j_keep {σ : sm_St} (h : w_Al σ) : j_2 yX5_keep cX5_keep 1 5 yX6_keep cX6_keep 1 2 [] σ := by
  obtain ⟨np, nc, z, t, u, tp, kk, tk, I⟩ := h
  have I1 := w_I_on (σ1 := (m_keep σ).2) I (fun q hq => cf_keep I hq)
  obtain ⟨e, k2, tk2, I2⟩ := w_keep I1
  refine ⟨_, (m_keep σ).2, _, ?_, c_p_keep (σ := (m_keep σ).2) (k := kk) ⟨I1.2.2.2.2.2.1.2.1, I1.2.2.2.2.2.1.2.2⟩, w_Al_of I2 (fun q hq => pf_keep hq)⟩
  rw [← e]
  exact c_keep (vp_in_e I.2.2.2.2.2.2.1.1 I.2.2.2.2.2.2.1.2 (by decide))
theorem j_back {σ : sm_St} (h : w_Al σ) : j_2 yX5_back cX5_back 1 5 yX6_back cX6_back 1 2 [] σ := by
  obtain ⟨np, nc, z, t, u, tp, kk, tk, I⟩ := h
  have I1 := w_I_on (σ1 := (m_back σ).2) I (fun q hq => cf_back hq)
  obtain ⟨e, u2, k2, tk2, I2⟩ := w_backA I1
  refine ⟨_, (m_back σ).2, _, ?_, c_p_back (σ := (m_back σ).2) (k := kk) ⟨I1.2.2.2.2.2.1.2.1, I1.2.2.2.2.2.1.2.2⟩, w_Al_of I2 (fun q hq => pf_back hq)⟩
  rw [← e]
  exact c_back (vp_in_e I.2.2.2.2.2.2.1.1 I.2.2.2.2.2.2.1.2 (by decide))
theorem j_lay {σ : sm_St} (h : w_Al σ) : j_2 yX5_lay cX5_lay 2 7 yX6_lay cX6_lay 2 6 [] σ := by
  obtain ⟨np, nc, z, t, u, tp, kk, tk, I⟩ := h
  have I1 := w_I_on (σ1 := (m_lay σ).2) I (fun q hq => cf_lay hq)
  obtain ⟨e, a1, a2, a3, a4, a5, I2⟩ := w_lay I1
  refine ⟨_, (m_lay σ).2, _, ?_, c_p_lay (σ := (m_lay σ).2) (z := t) I1.2.2.2.1.1.2, w_Al_of I2 (fun q hq => pf_lay hq)⟩
  rw [← e]
  exact c_lay
theorem j_fault {σ : sm_St} (h : w_Al σ) : j_2 yX5_fault cX5_fault 1 7 yX6_fault cX6_fault 2 5 [] σ := by
  obtain ⟨np, nc, z, t, u, tp, kk, tk, I⟩ := h
  have I1 := w_I_on (σ1 := (x_into σ 8).2) I (fun q hq => cf_into hq)
  obtain ⟨e, I2⟩ := w_fault I1
  refine ⟨_, (x_into σ 8).2, _, ?_, c_y_fault (σ := (x_into σ 8).2) (z := t) I1.2.2.2.1.1.2, w_Al_of I2 (fun q hq => pf_fault hq)⟩
  rw [← e]
  exact c_fault
theorem j_write {σ : sm_St} (h : w_Al σ) (c : Int32) : j_2 yX5_write cX5_write 2 4 yX6_write cX6_write 2 1 [.int c] σ := by
  obtain ⟨np, nc, z, t, u, tp, kk, tk, I⟩ := h
  have I1 := w_I_on (σ1 := (m_write σ c).2) I (fun q hq => cf_write (by omega) (by omega))
  obtain ⟨e, t', ht⟩ := w_write I1.2.2.2.1 c
  have I2 : w_I (m_write σ c).2 (p_write (m_write σ c).2 c).2 np nc z t' u tp kk tk := w_I_ts (fun q i _ b => congrFun (cf_write (by omega) (by omega)) i) (fun q i _ a b => pf_write_o (by omega) (by omega)) (w_see_e (congrFun (cf_write (by omega) (by omega)) 3) (fun q a b => cf_write (by omega) (by omega)) (pf_write_o (by omega) (by omega)) (fun q a b => by funext i; exact pf_write_o (by omega) (by omega)) I1.2.2.1) ht I1
  refine ⟨_, (m_write σ c).2, _, ?_, c_p_write (σ := (m_write σ c).2) (z := t) I1.2.2.2.1.1.2 c, w_Al_of I2 (fun q hq => by funext i; exact pf_write_o (by omega) (by omega))⟩
  rw [← e]
  exact c_write c
theorem j_wipe {σ : sm_St} (h : w_Al σ) : j_2 yX5_wipe cX5_wipe 2 1 yX6_wipe cX6_wipe 2 0 [] σ := by
  obtain ⟨np, nc, z, t, u, tp, kk, tk, I⟩ := h
  have I1 := w_I_on (σ1 := sm_set σ 97 2 0) I (fun q hq => sm_set_off (by omega))
  obtain ⟨e, ht⟩ := w_wipe I1.2.2.2.1
  have I2 : w_I (sm_set σ 97 2 0) (sm_set (sm_set σ 97 2 0) 110 20 0) np nc z 0 u tp kk tk := w_I_ts (fun q i _ b => congrFun (sm_set_off (by omega)) i) (fun q i _ a b => by rw [sm_set_at, if_neg (by omega)]) (w_see_e (congrFun (sm_set_off (by omega)) 3) (fun q a b => sm_set_off (by omega)) (sm_set_ne (by decide)) (fun q a b => sm_set_off (by omega)) I1.2.2.1) ht I1
  refine ⟨_, sm_set σ 97 2 0, _, ?_, c_p_wipe (σ := sm_set σ 97 2 0), w_Al_of I2 (fun q hq => sm_set_off (by omega))⟩
  rw [← e]
  exact c_wipe
theorem j_seen {σ : sm_St} (h : w_Al σ) (x y d : Int32) : j_2 yX5_seen cX5_seen 4 4 yX6_seen cX6_seen 4 2 [.int x, .int y, .int d] σ := by
  obtain ⟨np, nc, z, t, u, tp, kk, tk, I⟩ := h
  have I1 := w_I_on (σ1 := (m_seen σ x y d).2) I (fun q hq => cf_seen (by omega))
  obtain ⟨e, z', hs⟩ := w_seen I1.2.2.1 x y d
  have I2 : w_I (m_seen σ x y d).2 (p_seen (m_seen σ x y d).2 x y d).2 np nc z' t u tp kk tk := w_I_ts (fun q i _ b => congrFun (cf_seen (by omega)) i) (fun q i _ a b => pf_seen_o (by omega) (by omega)) hs (w_txt_e (congrFun (cf_seen (by omega)) 2) (cf_seen (by omega)) (pf_seen_o (by omega) (by omega)) (by funext i; exact pf_seen_o (by omega) (by omega)) I1.2.2.2.1) I1
  refine ⟨_, (m_seen σ x y d).2, _, ?_, c_p_seen (σ := (m_seen σ x y d).2) (z := z) I1.2.2.1.1.2 x y d, w_Al_of I2 (fun q hq => by funext i; exact pf_seen_o (by omega) (by omega))⟩
  rw [← e]
  exact c_seen x y d
theorem j_forget {σ : sm_St} (h : w_Al σ) : j_2 yX5_forget cX5_forget 2 1 yX6_forget cX6_forget 2 0 [] σ := by
  obtain ⟨np, nc, z, t, u, tp, kk, tk, I⟩ := h
  have I1 := w_I_on (σ1 := sm_set σ 100 3 0) I (fun q hq => sm_set_off (by omega))
  obtain ⟨e, hs⟩ := w_forget I1.2.2.1
  have I2 : w_I (sm_set σ 100 3 0) (sm_set (sm_set σ 100 3 0) 110 15 0) np nc 0 t u tp kk tk := w_I_ts (fun q i _ b => by rw [sm_set_off (by omega)]) (fun q i _ a b => by rw [sm_set_at, if_neg (by omega)]) hs (w_txt_e (congrFun (sm_set_off (by omega)) 2) (sm_set_off (by omega)) (sm_set_ne (by decide)) (sm_set_off (by omega)) I1.2.2.2.1) I1
  refine ⟨_, sm_set σ 100 3 0, _, ?_, c_p_forget (σ := sm_set σ 100 3 0), w_Al_of I2 (fun q hq => sm_set_off (by omega))⟩
  rw [← e]
  exact c_forget
theorem j_post {σ : sm_St} (h : w_Al σ) (p w : Int32) : j_2 yX5_post cX5_post 3 3 yX6_post cX6_post 3 2 [.int p, .int w] σ := by
  obtain ⟨np, nc, z, t, u, tp, kk, tk, I⟩ := h
  refine ⟨p_post σ p w, σ, σ, ?_, c_p_post (np := np) I.1.2.2.1.1 p w, np, nc, z, t, u, tp, kk, tk, I⟩
  rw [← w_post I.1]
  exact c_post p w
theorem j_crew {σ : sm_St} (h : w_Al σ) (c w : Int32) : j_2 yX5_crew cX5_crew 5 5 yX6_crew cX6_crew 3 5 [.int c, .int w] σ := by
  obtain ⟨np, nc, z, t, u, tp, kk, tk, I⟩ := h
  refine ⟨p_crew σ np c w, σ, σ, ?_, c_p_crew (np := np) I.1.2.2.1.1 (nc := nc) I.1.2.2.2.1.1 I.1.2.2.2.2 c w, np, nc, z, t, u, tp, kk, tk, I⟩
  rw [← w_crew I.1]
  exact c_crew c w
theorem j_count {σ : sm_St} (h : w_Al σ) (w : Int32) : j_2 yX5_count cX5_count 2 5 yX6_count cX6_count 2 2 [.int w] σ := by
  obtain ⟨np, nc, z, t, u, tp, kk, tk, I⟩ := h
  refine ⟨p_count σ np w, σ, σ, ?_, c_p_count (np := np) I.1.2.2.1.1 w, np, nc, z, t, u, tp, kk, tk, I⟩
  rw [← w_count I]
  exact c_count w
theorem j_pull {σ : sm_St} (h : w_Al σ) (w : Int32) : j_2 yX5_pull cX5_pull 3 6 yX6_pull cX6_pull 2 7 [.int w] σ := by
  obtain ⟨np, nc, z, t, u, tp, kk, tk, I⟩ := h
  have I1 := w_I_on (σ1 := g_goes σ 0) I (fun q hq => g_goes_off (by omega))
  refine ⟨p_pull (g_goes σ 0) np nc w, g_goes σ 0, g_goes σ 0, ?_, c_p_pull (np := np) (I1.1.2.2.1.1) (nc := nc) (I1.1.2.2.2.1.1) (I1.1.2.2.2.2) w, w_Al_try I (fun q i hq => ?_) (fun q hq => g_goes_off (by omega)) (fun _ _ _ => rfl) (fun _ _ => rfl)⟩
  · rw [← w_pull_a I1.1]
    exact c_pull w
  · by_cases e : q = 0
    · subst e
      exact g_goes_o (by unfold w_cs at hq; omega)
    · rw [g_goes_off e]
theorem j_behind {σ : sm_St} (h : w_Al σ) (n w : Int32) : j_2 yX5_behind cX5_behind 3 7 yX6_behind cX6_behind 4 9 [.int n, .int w] σ := by
  obtain ⟨np, nc, z, t, u, tp, kk, tk, I⟩ := h
  have I1 := w_I_on (σ1 := (m_behind σ n w).2) I (fun q hq => w_behind_c (by omega))
  have e := w_behind I1.1 n w
  refine ⟨_, (m_behind σ n w).2, _, ?_, c_p_behind (σ := (m_behind σ n w).2) (np := np) (I1.1.2.2.1.1) (nc := nc) (I1.1.2.2.2.1.1) (I1.1.2.2.2.2) n w, w_Al_t I (fun q hq => w_behind_c hq) w_behind_m⟩
  rw [← e]
  exact c_behind n w
theorem j_stands {σ : sm_St} (h : w_Al σ) : j_2 yX5_stands cX5_stands 2 6 yX6_stands cX6_stands 2 8 [] σ := by
  obtain ⟨np, nc, z, t, u, tp, kk, tk, I⟩ := h
  have I1 := w_I_on (σ1 := (g_st 41 0 (m_try σ)).2) I (fun q hq => w_stands_c (by omega))
  have e := w_stands I1.1
  refine ⟨_, (g_st 41 0 (m_try σ)).2, _, ?_, c_p_stands (σ := (g_st 41 0 (m_try σ)).2) (np := np) (I1.1.2.2.1.1) (nc := nc) (I1.1.2.2.2.1.1) (I1.1.2.2.2.2), w_Al_t I (fun q hq => w_stands_c hq) w_stands_m⟩
  rw [← e]
  exact c_stands
theorem j_gale {σ : sm_St} (h : w_Al σ) (d : Int32) : j_2 yX5_gale cX5_gale 3 6 yX6_gale cX6_gale 3 8 [.int d] σ := by
  obtain ⟨np, nc, z, t, u, tp, kk, tk, I⟩ := h
  have I1 := w_I_on (σ1 := (m_gale σ d).2) I (fun q hq => w_gale_c (by omega))
  have e := w_gale I1.1 d
  refine ⟨_, (m_gale σ d).2, _, ?_, c_p_gale (σ := (m_gale σ d).2) (np := np) (I1.1.2.2.1.1) (nc := nc) (I1.1.2.2.2.1.1) (I1.1.2.2.2.2) d, w_Al_t I (fun q hq => w_gale_c hq) w_gale_m⟩
  rw [← e]
  exact c_gale d
theorem j_brings {σ : sm_St} (h : w_Al σ) (x y v : Int32) : j_2 yX5_brings cX5_brings 10 7 yX6_brings cX6_brings 10 8 [.int x, .int y, .int v] σ := by
  obtain ⟨np, nc, z, t, u, tp, kk, tk, I⟩ := h
  have I1 := w_I_on (σ1 := (m_brings σ x y v).2) I (fun q hq => w_brings_c (by omega))
  obtain ⟨e, em⟩ := w_brings I1.1 x y v
  refine ⟨_, (m_brings σ x y v).2, _, ?_, c_p_brings (σ := (m_brings σ x y v).2) (np := np) (I1.1.2.2.1.1) (nc := nc) (I1.1.2.2.2.1.1) (I1.1.2.2.2.2) x y v, w_Al_t I (fun q hq => w_brings_c hq) em⟩
  rw [← e]
  exact c_brings x y v
theorem j_keeps {σ : sm_St} (h : w_Al σ) (w : Int32) : j_2 yX5_keeps cX5_keeps 8 7 yX6_keeps cX6_keeps 7 10 [.int w] σ := by
  obtain ⟨np, nc, z, t, u, tp, kk, tk, I⟩ := h
  have I1 := w_I_on (σ1 := (m_keeps σ w).2) I (fun q hq => w_keeps_c (by omega))
  obtain ⟨e, em⟩ := w_keeps I1.1 I1.2.1 w
  refine ⟨_, (m_keeps σ w).2, _, ?_, c_p_keeps (σ := (m_keeps σ w).2) (np := np) (I1.1.2.2.1.1) (nc := nc) (I1.1.2.2.2.1.1) (I1.1.2.2.2.2) w, w_Al_t I (fun q hq => w_keeps_c hq) em⟩
  rw [← e]
  exact c_keeps w
theorem j_instead {σ : sm_St} (h : w_Al σ) : j_2 yX5_instead cX5_instead 5 6 yX6_instead cX6_instead 5 8 [] σ := by
  obtain ⟨np, nc, z, t, u, tp, kk, tk, I⟩ := h
  have I1 := w_I_on (σ1 := (m_instead σ).2) I (fun q hq => w_instead_c (by omega))
  obtain ⟨e, em⟩ := w_instead I1.1
  refine ⟨_, (m_instead σ).2, _, ?_, c_p_instead (σ := (m_instead σ).2) (np := np) (I1.1.2.2.1.1) (nc := nc) (I1.1.2.2.2.1.1) (I1.1.2.2.2.2), w_Al_t I (fun q hq => w_instead_c hq) (fun q _ => congrFun em q)⟩
  rw [← e]
  exact c_instead
theorem j_may {σ : sm_St} (h : w_Al σ) (c w : Int32) : j_2 yX5_may cX5_may 3 7 yX6_may cX6_may 10 8 [.int c, .int w] σ := by
  obtain ⟨np, nc, z, t, u, tp, kk, tk, I⟩ := h
  have I1 := w_I_on (σ1 := (m_may σ c w).2) I (fun q hq => w_may_c (by omega))
  obtain ⟨e, em⟩ := w_may I1.1 I1.2.2.1 c w
  refine ⟨_, (m_may σ c w).2, _, ?_, c_p_may (σ := (m_may σ c w).2) (np := np) (I1.1.2.2.1.1) (nc := nc) (I1.1.2.2.2.1.1) (I1.1.2.2.2.2) (z := z) I1.2.2.1.1.2 c w, w_Al_t I (fun q hq => w_may_c hq) (fun q _ => congrFun em q)⟩
  rw [← e]
  exact c_may c w
theorem j_stowaway {σ : sm_St} (h : w_Al σ) (w : Int32) : j_2 yX5_stowaway cX5_stowaway 7 6 yX6_stowaway cX6_stowaway 7 8 [.int w] σ := by
  obtain ⟨np, nc, z, t, u, tp, kk, tk, I⟩ := h
  have I1 := w_I_on (σ1 := (m_stow σ w).2) I (fun q hq => w_stow_c (by omega))
  obtain ⟨e, em⟩ := w_stow I1.1 I1.2.2.1 w
  refine ⟨_, (m_stow σ w).2, _, ?_, c_p_stow (σ := (m_stow σ w).2) (np := np) (I1.1.2.2.1.1) (nc := nc) (I1.1.2.2.2.1.1) (I1.1.2.2.2.2) (z := z) I1.2.2.1.1.2 w, w_Al_try I (fun q i hq => congrFun (w_stow_c (by unfold w_cs at hq; omega)) i) (fun q hq => w_stow_c (by omega)) (fun q i hq => em q i (by unfold w_ms at hq; omega)) (fun q hq => em.off (by omega))⟩
  rw [← e]
  exact c_stowaway w
theorem j_voyage {σ : sm_St} (h : w_Al σ) (z0 t0 w : Int32) : j_2 yX5_voyage cX5_voyage 6 6 yX6_voyage cX6_voyage 10 8 [.int z0, .int t0, .int w] σ := by
  obtain ⟨np, nc, z, t, u, tp, kk, tk, I⟩ := h
  have I1 := w_I_on (σ1 := (m_voyage σ z0 t0 w).2) I (fun q hq => w_voyage_c (by omega))
  have e := w_voyage I1.1 z0 t0 w
  refine ⟨_, (m_voyage σ z0 t0 w).2, _, ?_, c_p_voyage (σ := (m_voyage σ z0 t0 w).2) (np := np) (I1.1.2.2.1.1) (nc := nc) (I1.1.2.2.2.1.1) (I1.1.2.2.2.2) I1.1.2.2.1.2 z0 t0 w, w_Al_t I (fun q hq => w_voyage_c hq) w_voyage_m⟩
  rw [← e]
  exact c_voyage z0 t0 w
theorem j_likely {σ : sm_St} (h : w_Al σ) (t0 x w : Int32) : j_2 yX5_likely cX5_likely 8 7 yX6_likely cX6_likely 15 10 [.int t0, .int x, .int w] σ := by
  obtain ⟨np, nc, z, t, u, tp, kk, tk, I⟩ := h
  have I1 := w_I_on (σ1 := (m_likely σ t0 x w).2) I (fun q hq => w_likely_c (by omega))
  have e := w_likely I1.1 t0 x w
  refine ⟨_, (m_likely σ t0 x w).2, _, ?_, c_p_likely (σ := (m_likely σ t0 x w).2) (np := np) (I1.1.2.2.1.1) (nc := nc) (I1.1.2.2.2.1.1) (I1.1.2.2.2.2) t0 x w, w_Al_try I (fun q i hq => congrFun (w_likely_c (by unfold w_cs at hq; omega)) i) (fun q hq => w_likely_c (by omega)) (fun q i hq => congrFun (w_likely_m I1.1.2.1 q (by unfold w_ms at hq; omega)) i) (fun q hq => w_likely_m I1.1.2.1 q (by omega))⟩
  rw [← e]
  exact c_likely t0 x w
theorem j_hold {σ : sm_St} (h : w_Al σ) : j_2 yX5_hold cX5_hold 5 6 yX6_hold cX6_hold 7 8 [] σ := by
  obtain ⟨np, nc, z, t, u, tp, kk, tk, I⟩ := h
  have cc : ∀ q, q < 8 ∨ 16 ≤ q → (m_hold σ).2 q = g_goes σ 0 q := fun q hq => w_hold_c hq
  have I1 := w_I_on (σ1 := (m_hold σ).2) I (fun q hq => (cc q (by omega)).trans (g_goes_off (by omega)))
  have e := w_hold I1.1
  refine ⟨_, (m_hold σ).2, _, ?_, c_p_hold (σ := (m_hold σ).2) (np := np) (I1.1.2.2.1.1) (nc := nc) (I1.1.2.2.2.1.1) (I1.1.2.2.2.2), w_Al_try I (fun q i hq => ?_) (fun q hq => (cc q (by omega)).trans (g_goes_off (by omega))) (fun q i hq => congrFun (w_hold_m I1.1.2.2.2.2 q (by unfold w_ms at hq; omega)) i) (fun q hq => w_hold_m I1.1.2.2.2.2 q (by omega))⟩
  · rw [← e]
    exact c_hold
  · rw [cc q (by unfold w_cs at hq; omega)]
    by_cases e : q = 0
    · subst e
      exact g_goes_o (by unfold w_cs at hq; omega)
    · rw [g_goes_off e]

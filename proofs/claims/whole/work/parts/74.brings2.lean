/-! class and model: brings -/
theorem q_V_e {X Y : sm_St} (h : ∀ q, 110 ≤ q → q ≤ 117 → X q = Y q) : q_V X = q_V Y := by
  funext m
  match m with
  | 0 => exact q_V0_e (h 110 (by decide) (by decide))
  | 1 => exact h 114 (by decide) (by decide)
  | 2 => exact h 115 (by decide) (by decide)
  | 3 => exact h 116 (by decide) (by decide)
  | 4 => exact h 117 (by decide) (by decide)
  | 5 => exact h 111 (by decide) (by decide)
  | 6 => exact h 112 (by decide) (by decide)
  | n + 7 => exact h 113 (by decide) (by decide)
theorem q_Vm_e {X Y : sm_St} {m : Nat} (hm : 1 ≤ m) (h : ∀ q, 111 ≤ q → q ≤ 117 → X q = Y q) : q_V X m = q_V Y m := by
  match m with
  | 0 => omega
  | 1 => exact h 114 (by decide) (by decide)
  | 2 => exact h 115 (by decide) (by decide)
  | 3 => exact h 116 (by decide) (by decide)
  | 4 => exact h 117 (by decide) (by decide)
  | 5 => exact h 111 (by decide) (by decide)
  | 6 => exact h 112 (by decide) (by decide)
  | n + 7 => exact h 113 (by decide) (by decide)
theorem sm_set_e {X Y : sm_St} {k q i : Nat} {v : Int32} (h : X q = Y q) : sm_set X k i v q = sm_set Y k i v q := by
  show (if q = k then upd (X k) i v else X q) = (if q = k then upd (Y k) i v else Y q)
  by_cases e : q = k
  · subst e
    rw [if_pos rfl, if_pos rfl, h]
  · rw [if_neg e, if_neg e, h]
theorem r_set_e {X Y : sm_St} {k n q : Nat} {i v : Int32} (h : X q = Y q) : r_set X k n i v q = r_set Y k n i v q := by
  unfold r_set
  split
  · exact sm_set_e h
  · exact h
theorem q_sets_e {X Y : sm_St} {p x y s : Int32} {q : Nat} (h : X q = Y q) : q_sets X p x y s q = q_sets Y p x y s q := by
  unfold q_sets
  exact r_set_e (r_set_e (r_set_e (r_set_e h)))
theorem w_r3_e {X Y : sm_St} {np q : Nat} {x y s : Int32} (h : X q = Y q) : w_r3 X np x y s q = w_r3 Y np x y s q := by
  unfold w_r3
  exact r_set_e (r_set_e (r_set_e h))
theorem w_r3_set {σ : sm_St} {np i : Nat} {x y s v : Int32} : w_r3 (sm_set σ 8 i v) np x y s = sm_set (w_r3 σ np x y s) 8 i v := by
  funext q
  by_cases e : q = 8
  · subst e
    rw [w_r3_off (by decide)]
    exact sm_set_e (w_r3_off (by decide)).symm
  · rw [sm_set_off e]
    exact w_r3_e (sm_set_off e)
theorem w_hT_o {k i : Nat} {x y : Int32} (hi : i < 8) (h0 : i ≠ 0) (h1 : i ≠ 1) (h5 : i ≠ 5) : ∀ (n : Nat) (h mx my : Int32) (σ : sm_St), (g_hT k x y n h mx my σ).2 k i = σ k i
  | 0, _, _, _, _ => rfl
  | n + 1, h, mx, my, σ => by
    unfold g_hT
    split
    · exact g_hour_i hi h0 h1 h5
    · split
      · exact g_hour_i hi h0 h1 h5
      · split
        · rw [w_hT_o hi h0 h1 h5 n]
          exact g_hour_i hi h0 h1 h5
        · rw [w_hT_o hi h0 h1 h5 n]
          exact g_hour_i hi h0 h1 h5
theorem w_hT_off {k q : Nat} {x y : Int32} (hq : q ≠ k) : ∀ (n : Nat) (h mx my : Int32) (σ : sm_St), (g_hT k x y n h mx my σ).2 q = σ q
  | 0, _, _, _, _ => rfl
  | n + 1, h, mx, my, σ => by
    unfold g_hT
    split
    · exact w_hour_f hq
    · split
      · exact w_hour_f hq
      · split
        · rw [w_hT_off hq n]
          exact w_hour_f hq
        · rw [w_hT_off hq n]
          exact w_hour_f hq
def w_S (σ : sm_St) : sm_St := sm_set (sm_set σ 8 0 (σ 0 0)) 8 1 (σ 0 1)
def w_T (τ : sm_St) (v : Int32) : sm_St := sm_set (sm_set (q_lays τ 126 0) 110 28 1) 110 6 v
theorem w_S_o {σ : sm_St} {i : Nat} (h0 : i ≠ 0) (h1 : i ≠ 1) : w_S σ 8 i = σ 8 i := by unfold w_S; rw [sm_set_ne h1, sm_set_ne h0]
theorem w_S_0 {σ : sm_St} : w_S σ 8 0 = σ 0 0 := by unfold w_S; rw [sm_set_ne (by decide), sm_set_eq]
theorem w_S_1 {σ : sm_St} : w_S σ 8 1 = σ 0 1 := by unfold w_S; rw [sm_set_eq]
theorem w_S_off {σ : sm_St} {q : Nat} (h : q ≠ 8) : w_S σ q = σ q := by unfold w_S; rw [sm_set_off h, sm_set_off h]
theorem w_T_o {τ : sm_St} {v : Int32} {i : Nat} (h0 : i ≠ 6) (h1 : i ≠ 28) : w_T τ v 110 i = τ 110 i := by unfold w_T; rw [sm_set_ne h0, sm_set_ne h1, q_lays_off (by decide)]
theorem w_T_6 {τ : sm_St} {v : Int32} : w_T τ v 110 6 = v := by unfold w_T; rw [sm_set_eq]
theorem w_T_28 {τ : sm_St} {v : Int32} : w_T τ v 110 28 = 1 := by unfold w_T; rw [sm_set_ne (by decide), sm_set_eq]
theorem w_T_off {τ : sm_St} {v : Int32} {q : Nat} (h : q ≠ 110) (h2 : q ≠ 126) : w_T τ v q = τ q := by unfold w_T; rw [sm_set_off h, sm_set_off h, q_lays_off h2]
theorem w_T_V {τ : sm_St} {v w : Int32} {i : Nat} (hi : i < 8) (h5 : i ≠ 5) : q_V (w_T τ v) 0 i = q_V (w_T τ w) 0 i := by
  rcases (show i = 0 ∨ i = 1 ∨ i = 2 ∨ i = 3 ∨ i = 4 ∨ i = 6 ∨ i = 7 by omega) with rfl | rfl | rfl | rfl | rfl | rfl | rfl
  · exact (w_T_o (by decide) (by decide)).trans (w_T_o (by decide) (by decide)).symm
  · exact (w_T_o (by decide) (by decide)).trans (w_T_o (by decide) (by decide)).symm
  · exact (w_T_o (by decide) (by decide)).trans (w_T_o (by decide) (by decide)).symm
  · exact (w_T_o (by decide) (by decide)).trans (w_T_o (by decide) (by decide)).symm
  · exact (w_T_o (by decide) (by decide)).trans (w_T_o (by decide) (by decide)).symm
  · show w_T τ v 110 0 + w_T τ v 110 28 = w_T τ w 110 0 + w_T τ w 110 28
    rw [w_T_28, w_T_28, w_T_o (by decide) (by decide), w_T_o (by decide) (by decide)]
  · show w_T τ v 110 1 + w_T τ v 110 29 = w_T τ w 110 1 + w_T τ w 110 29
    rw [w_T_o (by decide) (by decide), w_T_o (by decide) (by decide), w_T_o (by decide) (by decide), w_T_o (by decide) (by decide)]
theorem w_J_next {σ σ2 τ : sm_St} {np nc : Nat} {x y s : Int32} (hn : np < 6) (e0 : σ 0 0 = τ 110 7) (e1 : σ 0 1 = τ 110 8) (hJ : w_J (w_S σ) (w_T τ (σ 8 5)) np nc) (h9 : ∀ q, q ≠ 8 → σ2 q = w_r3 (w_S σ) np x y s q) (h8 : ∀ i, i < 8 → i ≠ 0 → i ≠ 1 → i ≠ 5 → σ2 8 i = σ 8 i) : w_J (w_S σ2) (w_T τ (σ2 8 5)) np nc := by
  obtain ⟨g1, g2, g3, g4⟩ := hJ
  have hz : σ2 0 = σ 0 := by rw [h9 0 (by decide), w_r3_off (by decide), w_S_off (by decide)]
  refine ⟨fun i hi => ?_, fun i hi => ?_, fun i hi => ?_, ?_⟩
  · by_cases a : i = 0
    · subst a
      rw [w_S_0, hz, e0]
      exact (w_T_o (by decide) (by decide)).symm
    · by_cases b : i = 1
      · subst b
        rw [w_S_1, hz, e1]
        exact (w_T_o (by decide) (by decide)).symm
      · by_cases c : i = 5
        · subst c
          rw [w_S_o (by decide) (by decide)]
          exact w_T_6.symm
        · rw [w_S_o a b, h8 i hi a b c]
          have g := g1 i hi
          rw [w_S_o a b] at g
          exact g.trans (w_T_V hi c)
  · have hne : i ≠ np := by omega
    have g := g2 i hi
    rw [w_T_off (by decide) (by decide), w_T_off (by decide) (by decide), w_T_off (by decide) (by decide), w_T_off (by decide) (by decide)] at g ⊢
    rw [w_S_off (σ := σ2) (by decide), w_S_off (σ := σ2) (by decide), w_S_off (σ := σ2) (by decide), w_S_off (σ := σ2) (by decide), h9 9 (by decide), h9 10 (by decide), h9 11 (by decide), h9 12 (by decide), w_r3_9 hn, w_r3_10 hn, w_r3_11 hn, w_r3_off (by decide), if_neg hne, if_neg hne, if_neg hne]
    exact g
  · have g := g3 i hi
    rw [w_T_off (by decide) (by decide), w_T_off (by decide) (by decide), w_T_off (by decide) (by decide)] at g ⊢
    rw [w_S_off (σ := σ2) (by decide), w_S_off (σ := σ2) (by decide), w_S_off (σ := σ2) (by decide), h9 13 (by decide), h9 14 (by decide), h9 15 (by decide), w_r3_off (by decide), w_r3_off (by decide), w_r3_off (by decide)]
    exact g
  · rw [w_S_off (by decide), h9 12 (by decide), w_r3_off (by decide)]
    exact g4
theorem w_pre_6 {τ : sm_St} {np nc : Nat} {v : Int32} (h : w_pre τ np nc) : w_pre (sm_set τ 110 6 v) np nc := by
  unfold w_pre at h ⊢
  rw [sm_set_off (q := 114) (by decide), sm_set_off (q := 115) (by decide), sm_set_off (q := 113) (by decide), sm_set_ne (j := 0) (by decide), sm_set_ne (j := 28) (by decide), sm_set_ne (j := 1) (by decide), sm_set_ne (j := 29) (by decide), sm_set_ne (j := 9) (by decide), sm_set_ne (j := 7) (by decide), sm_set_ne (j := 8) (by decide)]
  exact h
theorem w_tr1_set {τ X : sm_St} {j : Nat} {v : Int32} (hj : 6 ≤ j ∧ j ≤ 10) (h : w_tr τ (sm_set X 110 28 0)) : w_tr τ (sm_set (sm_set X 110 j v) 110 28 0) := by
  rw [sm_set_comm (show j ≠ 28 by omega)]
  exact w_tr_set hj h
theorem w_tr1_hour {τ X : sm_St} {np nc : Nat} (h : w_tr τ (sm_set X 110 28 0)) : w_tr τ (sm_set (q_hour X np nc) 110 28 0) := w_tr1_set (by omega) (w_tr1_set (by omega) (w_tr1_set (by omega) h))
theorem w_tr1_wh {τ : sm_St} {np nc : Nat} {x y : Int32} : ∀ (m i : Nat) (X : sm_St), w_tr τ (sm_set X 110 28 0) → w_tr τ (sm_set (q_wh np nc x y m i X).2 110 28 0)
  | 0, _, _, h => h
  | m + 1, i, X, h => by
    unfold q_wh
    split
    · exact h
    · exact w_tr1_wh m (i + 1) _ (w_tr1_hour h)
theorem q_b2_m {τ : sm_St} {np nc j k : Nat} {x y : Int32} (h0 : q_0 τ) : ∀ q, q ≠ 126 → q_b2 np nc x y j k τ q = τ q := by
  unfold q_b2 q_b1 q_b0
  exact w_tr_b (w_tr1_wh j 0 _ (w_tr1_at (w_tr1_0 h0)))
theorem w_br {np nc : Nat} {x y : Int32} {τ : sm_St} (hw : w_ok (q_V τ) np nc) (hN : q_N τ np) (h0 : q_0 τ) (hx : ¬ (τ 110 7 = x ∧ τ 110 8 = y)) : ∀ (n k j : Nat) (b : Int32) (σ τ' : sm_St), k + n = 486 → 1 ≤ j → j ≤ 41 → (∀ q, q ≠ 126 → τ' q = τ q) → σ 0 0 = τ 110 7 → σ 0 1 = τ 110 8 → w_J (w_S σ) (w_T τ (σ 8 5)) np nc →
    (g_br x y (nI np) n k (nI j) b σ).1.1 = (q_br np nc x y n k j b τ').1.1 ∧ (g_br x y (nI np) n k (nI j) b σ).1.2 = nI (q_br np nc x y n k j b τ').1.2 ∧ ∀ q, q ≠ 126 → (q_br np nc x y n k j b τ').2 q = τ q
  | 0, _, _, _, _, _, _, _, _, hq, _, _, _ => ⟨rfl, rfl, hq⟩
  | n + 1, k, j, b, σ, τ', hk, hj1, hj2, hq, e0, e1, hJ => by
    have hn : np < 6 := by have := hN.2; omega
    have a9 : m_rem (nI (k % 81)) 9 = nI (k % 9) := by
      have e := w_m (X := k % 81) (d := 9) (D := 9) rfl (by omega) (by decide) (by decide)
      rw [e, show k % 81 % 9 = k % 9 by omega]
    have ad : nI (k % 81) / 9 = nI (k / 9 % 9) := by
      rw [show (9 : Int32) = nI 9 from rfl, pk_div (by omega) (by decide) (by decide), show k % 81 / 9 = k / 9 % 9 by omega]
    have eG0 : g_br0 (nI np) k σ = w_r3 σ np (nI (k % 9)) (nI (k / 9 % 9)) (nI (k / 81)) := by
      unfold g_br0 w_r3
      rw [a9, ad]
    have eG : g_br2 (nI np) k σ = w_r3 (w_S σ) np (nI (k % 9)) (nI (k / 9 % 9)) (nI (k / 81)) := by
      unfold g_br2 w_S
      rw [eG0, w_r3_set, w_r3_set, w_r3_off (q := 0) (by decide)]
    have hag := w_J_ag (x := nI (k % 9)) (y := nI (k / 9 % 9)) (s := nI (k / 81)) hJ hn
    have hwl : w_ok (q_V (q_lays τ 126 0)) np nc := by rw [w_lays_V (by decide)]; exact hw
    have hpre : w_pre (w_T τ (σ 8 5)) np nc := w_pre_6 (w_pre_0 hwl (q_N_lays (by decide) hN))
    have hok := w_pre_ok (x := k % 9) (y := k / 9 % 9) (s := nI (k / 81)) hpre (by omega) (by omega)
    have m7 : ∀ l, l ≠ 6 → l ≠ 28 → q_sets (w_T τ (σ 8 5)) (nI np) (nI (k % 9)) (nI (k / 9 % 9)) (nI (k / 81)) 110 l = τ 110 l := fun l a c => by rw [q_sets_off (by decide)]; exact w_T_o a c
    have c7 : ∀ l, l ≠ 6 → l ≠ 28 → q_b0 np k τ' 110 l = τ 110 l := fun l a c => by
      unfold q_b0
      rw [q_at_off (by decide), sm_set_ne c, q_lays_off (by decide), hq 110 (by decide)]
    have a5 : w_a5 (q_V (q_sets (w_T τ (σ 8 5)) (nI np) (nI (k % 9)) (nI (k / 9 % 9)) (nI (k / 81)))) (q_V (q_b0 np k τ')) := by
      refine ⟨fun i hi => ?_, fun m hm => q_Vm_e hm (fun q q1 q2 => ?_)⟩
      · rcases (show i = 0 ∨ i = 1 ∨ i = 2 ∨ i = 3 ∨ i = 4 by omega) with rfl | rfl | rfl | rfl | rfl
        · exact (m7 7 (by decide) (by decide)).trans (c7 7 (by decide) (by decide)).symm
        · exact (m7 8 (by decide) (by decide)).trans (c7 8 (by decide) (by decide)).symm
        · exact (m7 2 (by decide) (by decide)).trans (c7 2 (by decide) (by decide)).symm
        · exact (m7 9 (by decide) (by decide)).trans (c7 9 (by decide) (by decide)).symm
        · exact (m7 10 (by decide) (by decide)).trans (c7 10 (by decide) (by decide)).symm
      · unfold q_b0 q_at
        refine q_sets_e ?_
        rw [w_T_off (by omega) (by omega), sm_set_off (by omega), q_lays_off (by omega), hq q (by omega)]
    have hcell : ∀ i, (q_hours (np + 1) nc i (q_sets (w_T τ (σ 8 5)) (nI np) (nI (k % 9)) (nI (k / 9 % 9)) (nI (k / 81))) 110 7 = x ∧ q_hours (np + 1) nc i (q_sets (w_T τ (σ 8 5)) (nI np) (nI (k % 9)) (nI (k / 9 % 9)) (nI (k / 81))) 110 8 = y) ↔ (q_hours (np + 1) nc i (q_b0 np k τ') 110 7 = x ∧ q_hours (np + 1) nc i (q_b0 np k τ') 110 8 = y) := fun i => by
      have hh := w_hours_5 (np := np + 1) (nc := nc) i _ _ a5
      have h7 : q_hours (np + 1) nc i (q_sets (w_T τ (σ 8 5)) (nI np) (nI (k % 9)) (nI (k / 9 % 9)) (nI (k / 81))) 110 7 = q_hours (np + 1) nc i (q_b0 np k τ') 110 7 := hh.1 0 (by decide)
      have h8 : q_hours (np + 1) nc i (q_sets (w_T τ (σ 8 5)) (nI np) (nI (k % 9)) (nI (k / 9 % 9)) (nI (k / 81))) 110 8 = q_hours (np + 1) nc i (q_b0 np k τ') 110 8 := hh.1 1 (by decide)
      rw [h7, h8]
    obtain ⟨j', rfl⟩ : ∃ j', j = j' + 1 := ⟨j - 1, by omega⟩
    have e1r : g_br1 x y (nI np) k (nI (j' + 1)) σ = g_hT 8 x y j' (nI (0 + 1)) (w_r3 (w_S σ) np (nI (k % 9)) (nI (k / 9 % 9)) (nI (k / 81)) 8 0) (w_r3 (w_S σ) np (nI (k % 9)) (nI (k / 9 % 9)) (nI (k / 81)) 8 1) (w_r3 (w_S σ) np (nI (k % 9)) (nI (k / 9 % 9)) (nI (k / 81))) := by
      unfold g_br1
      rw [eG, nI_pred, nI_clamp (by omega), show (1 : Int32) = nI (0 + 1) from rfl]
    have hT := w_hT (np := np + 1) (nc := nc) (x := x) (y := y) (τ := q_sets (w_T τ (σ 8 5)) (nI np) (nI (k % 9)) (nI (k / 9 % 9)) (nI (k / 81))) j' 0 0 (w_r3 (w_S σ) np (nI (k % 9)) (nI (k / 9 % 9)) (nI (k / 81)) 8 0) (w_r3 (w_S σ) np (nI (k % 9)) (nI (k / 9 % 9)) (nI (k / 81)) 8 1) (w_r3 (w_S σ) np (nI (k % 9)) (nI (k / 9 % 9)) (nI (k / 81))) (Nat.le_refl 0) hag hok (hag.1 0 (by decide)) (hag.1 1 (by decide)) (fun i hi => by
      obtain rfl : i = 0 := by omega
      intro hh
      exact hx ⟨(m7 7 (by decide) (by decide)).symm.trans hh.1, (m7 8 (by decide) (by decide)).symm.trans hh.2⟩)
    rw [← e1r] at hT
    have h9 : ∀ q, q ≠ 8 → (g_br1 x y (nI np) k (nI (j' + 1)) σ).2 q = w_r3 (w_S σ) np (nI (k % 9)) (nI (k / 9 % 9)) (nI (k / 81)) q := fun q hq8 => by rw [e1r, w_hT_off hq8]
    have h8 : ∀ i, i < 8 → i ≠ 0 → i ≠ 1 → i ≠ 5 → (g_br1 x y (nI np) k (nI (j' + 1)) σ).2 8 i = σ 8 i := fun i a c d e => by rw [e1r, w_hT_o a c d e, w_r3_off (by decide), w_S_o c d]
    have hz : (g_br1 x y (nI np) k (nI (j' + 1)) σ).2 0 = σ 0 := by rw [h9 0 (by decide), w_r3_off (by decide), w_S_off (by decide)]
    have hJ2 := w_J_next hn e0 e1 hJ h9 h8
    have hq2 : ∀ (j : Nat) (q : Nat), q ≠ 126 → q_b2 np nc x y j k τ' q = τ q := fun j q hh => by
      rw [q_b2_m (by unfold q_0; rw [hq 110 (by decide)]; exact h0) q hh]
      exact hq q hh
    unfold g_br q_br
    rcases hT with ⟨t1, t2⟩ | ⟨i, t1, t2, t3, t4, t5⟩
    · have em : q_b1 np nc x y (j' + 1) k τ' = (0 + (j' + 1), q_hours (np + 1) nc (j' + 1) (q_b0 np k τ')) := by
        unfold q_b1
        exact w_wh (j' + 1) 0 (j' + 1) _ (Nat.le_refl _) (fun s hs hh => t2 s (by omega) ((hcell s).mpr hh)) (Or.inl rfl)
      rw [t1, if_pos (by decide), if_neg (by
        rw [em]
        intro hh
        exact hh.2 (by rw [Nat.zero_add]; exact Int32.le_refl _))]
      exact w_br hw hN h0 hx n (k + 1) (j' + 1) b _ _ (by omega) hj1 hj2 (hq2 _) (by rw [hz]; exact e0) (by rw [hz]; exact e1) hJ2
    · have em : q_b1 np nc x y (j' + 1) k τ' = (0 + i, q_hours (np + 1) nc i (q_b0 np k τ')) := by
        unfold q_b1
        exact w_wh (j' + 1) 0 i _ (by omega) (fun s hs hh => t5 s hs ((hcell s).mpr hh)) (Or.inr ((hcell i).mp t4))
      rw [t3, if_neg (show ¬ nI i ≤ 0 from fun hh => absurd ((nI_leI (b := 0) (by omega) (by decide)).mp hh) (by omega)), if_pos (by
        rw [em]
        refine ⟨(hcell i).mp t4, fun hh => ?_⟩
        have := (nI_leI (by omega) (by omega)).mp hh
        omega), a9, ad, q_nm_e, em]
      show (g_br x y (nI np) n (k + 1) (nI i) (nI (q_nm k)) _).1.1 = (q_br np nc x y n (k + 1) (0 + i) (nI (q_nm k)) _).1.1 ∧ (g_br x y (nI np) n (k + 1) (nI i) (nI (q_nm k)) _).1.2 = nI (q_br np nc x y n (k + 1) (0 + i) (nI (q_nm k)) _).1.2 ∧ ∀ q, q ≠ 126 → (q_br np nc x y n (k + 1) (0 + i) (nI (q_nm k)) _).2 q = τ q
      rw [Nat.zero_add]
      exact w_br hw hN h0 hx n (k + 1) i (nI (q_nm k)) _ _ (by omega) (by omega) (by omega) (hq2 _) (by rw [hz]; exact e0) (by rw [hz]; exact e1) hJ2
theorem w_brings {σ τ : sm_St} {np nc : Nat} (h : w_now σ τ np nc) (x y v : Int32) : (m_brings σ x y v).1 = (p_brings τ np nc x y v).1 ∧ ∀ q, q ≠ 126 → (p_brings τ np nc x y v).2 q = τ q := by
  have e0 : σ 0 0 = τ 110 7 := h.1.1 0 (by decide)
  have e1 : σ 0 1 = τ 110 8 := h.1.1 1 (by decide)
  unfold m_brings p_brings
  by_cases hc : sm_cell x y = true ∧ sm_win v 0 1 = true
  · rw [if_pos hc, if_pos hc]
    have ha : f_isAt (sm_V σ 0) x y = decide (τ 110 7 = x ∧ τ 110 8 = y) := by
      unfold f_isAt
      show decide (σ 0 0 = x ∧ σ 0 1 = y) = _
      rw [e0, e1]
    by_cases hx : τ 110 7 = x ∧ τ 110 8 = y
    · rw [if_pos (ha.trans (decide_eq_true hx)), if_pos hx]
      exact ⟨rfl, fun _ _ => rfl⟩
    · rw [if_neg (fun hh => hx (of_decide_eq_true (ha.symm.trans hh))), if_neg hx]
      have hN : q_N (q_lays τ 126 0) np := q_N_lays (by decide) h.2.2.1.1
      have h0 : q_0 (q_lays τ 126 0) := by unfold q_0; rw [q_lays_off (by decide)]; exact h.2.2.2.2
      have hw : w_ok (q_V (q_lays τ 126 0)) np nc := by rw [w_lays_V (by decide)]; exact h.2.1
      have hag : w_ag np nc (sm_V (m_try σ) 8) (q_V (q_lays τ 126 0)) := (w_try h).1
      have e6 : m_try σ 8 6 = nI np := (hag.1 6 (by decide)).trans hw.n0
      have hn : np < 6 := by have := hN.2; omega
      have hz : m_more σ 0 = σ 0 := by
        unfold m_more
        rw [w_addP_r e6 hn (by decide) (by decide), w_r3_off (by decide)]
        exact g_copy_off (by left; decide)
      have hJ0 : w_J (m_more σ) (sm_set (q_lays τ 126 0) 110 28 1) np nc := w_J_0 hag hw hN h0
      have eS : ∀ i, i < 8 → w_S (m_more σ) 8 i = m_more σ 8 i := fun i hi => by
        by_cases a : i = 0
        · subst a
          rw [w_S_0, hz, e0, hJ0.1 0 (by decide)]
          show τ 110 7 = sm_set (q_lays τ 126 0) 110 28 1 110 7
          rw [sm_set_ne (by decide), q_lays_off (by decide)]
        · by_cases b : i = 1
          · subst b
            rw [w_S_1, hz, e1, hJ0.1 1 (by decide)]
            show τ 110 8 = sm_set (q_lays τ 126 0) 110 28 1 110 8
            rw [sm_set_ne (by decide), q_lays_off (by decide)]
          · exact w_S_o a b
      have eT : w_T τ (m_more σ 8 5) = sm_set (q_lays τ 126 0) 110 28 1 := by
        have : m_more σ 8 5 = sm_set (q_lays τ 126 0) 110 28 1 110 6 := hJ0.1 5 (by decide)
        unfold w_T
        rw [this]
        funext q
        by_cases a : q = 110
        · subst a
          funext l
          by_cases b : l = 6
          · subst b
            rw [sm_set_eq]
          · rw [sm_set_ne b]
        · rw [sm_set_off a]
      have hJ : w_J (w_S (m_more σ)) (w_T τ (m_more σ 8 5)) np nc := by
        rw [eT]
        refine ⟨fun i hi => ?_, ?_, ?_, ?_⟩
        · rw [eS i hi]
          exact hJ0.1 i hi
        · rw [w_S_off (by decide), w_S_off (by decide), w_S_off (by decide), w_S_off (by decide)]
          exact hJ0.2.1
        · rw [w_S_off (by decide), w_S_off (by decide), w_S_off (by decide)]
          exact hJ0.2.2.1
        · rw [w_S_off (by decide)]
          exact hJ0.2.2.2
      obtain ⟨b1, b2, b3⟩ := w_br (x := x) (y := y) h.2.1 h.2.2.1.1 h.2.2.2.2 hx 486 0 41 (-4) (m_more σ) τ rfl (by decide) (by decide) (fun _ _ => rfl) (by rw [hz]; exact e0) (by rw [hz]; exact e1) hJ
      rw [e6]
      refine ⟨?_, b3⟩
      unfold m_br q_endb
      dsimp only
      rw [show (41 : Int32) = nI 41 from rfl, b1, b2]
  · rw [if_neg hc, if_neg hc]
    exact ⟨rfl, fun _ _ => rfl⟩
theorem w_br_c {x y more : Int32} {q : Nat} (h : q < 8 ∨ 16 ≤ q) : ∀ (n c : Nat) (j w : Int32) (τ : sm_St), (g_br x y more n c j w τ).2 q = τ q
  | 0, _, _, _, _ => rfl
  | n + 1, c, j, w, τ => by
    have e : (g_br1 x y more c j τ).2 q = τ q := by
      unfold g_br1 g_br2 g_br0
      rw [w_hT_off (by omega), sm_set_off (by omega), sm_set_off (by omega), r_set_off (by omega), r_set_off (by omega), r_set_off (by omega)]
    unfold g_br
    split
    · rw [w_br_c h n, e]
    · rw [w_br_c h n, e]
theorem w_more_c {σ : sm_St} {q : Nat} (h : q < 8 ∨ 16 ≤ q) : m_more σ q = σ q := by
  unfold m_more g_addP
  split
  · exact g_copy_off (by omega)
  · rw [sm_set_off (by omega), r_set_off (by omega), r_set_off (by omega), r_set_off (by omega), r_set_off (by omega)]
    exact g_copy_off (by omega)
theorem m_br_2 (v : Int32) (p : (Int32 × Int32) × sm_St) : (m_br v p).2 = p.2 := rfl
theorem w_brings_c {σ : sm_St} {x y v : Int32} {q : Nat} (h : q < 8 ∨ 16 ≤ q) : (m_brings σ x y v).2 q = σ q := by
  unfold m_brings
  split
  · split
    · rfl
    · rw [m_br_2, w_br_c h, w_more_c h]
  · rfl
theorem w_hold_c1 {more : Int32} {q : Nat} (h : q < 8 ∨ 16 ≤ q) : ∀ (n c : Nat) (τ : sm_St), (g_hold more n c τ).2 q = τ q
  | 0, _, _ => rfl
  | n + 1, c, τ => by
    unfold g_hold
    split
    · rw [w_hold_c1 h n, r_set_off (by omega), r_set_off (by omega), r_set_off (by omega)]
    · split
      · show g_goes _ 8 q = τ q
        rw [g_goes_off (by omega), r_set_off (by omega), r_set_off (by omega), r_set_off (by omega)]
      · rw [w_hold_c1 h n, g_goes_off (by omega), r_set_off (by omega), r_set_off (by omega), r_set_off (by omega)]
/-- hold leaves what goesTo has reckoned of the Field of now -/
theorem w_hold_c {σ : sm_St} {q : Nat} (h : q < 8 ∨ 16 ≤ q) : (m_hold σ).2 q = g_goes σ 0 q := by
  unfold m_hold
  split
  · rfl
  · rw [w_hold_c1 h, w_more_c h]

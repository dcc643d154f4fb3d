/-! class and model: the hours to a cell -/
theorem w_isAt {σ τ : sm_St} {np nc : Nat} {x y : Int32} (h : w_ag np nc (sm_V σ 8) (q_V τ)) : (f_isAt (sm_V σ 8) x y = true) = (τ 110 7 = x ∧ τ 110 8 = y) := by
  have e0 : sm_V σ 8 0 0 = τ 110 7 := h.1 0 (by decide)
  have e1 : sm_V σ 8 0 1 = τ 110 8 := h.1 1 (by decide)
  unfold f_isAt
  rw [e0, e1, decide_eq_true_eq]
theorem w_hT {np nc : Nat} {x y : Int32} {τ : sm_St} : ∀ (n g m : Nat) (mx my : Int32) (σ : sm_St), m ≤ g → w_ag np nc (sm_V σ 8) (q_V (q_hours np nc g τ)) → w_ok (q_V (q_hours np nc g τ)) np nc → mx = q_hours np nc m τ 110 7 → my = q_hours np nc m τ 110 8 →
    (∀ j, j ≤ g → ¬ (q_hours np nc j τ 110 7 = x ∧ q_hours np nc j τ 110 8 = y)) →
    ((g_hT 8 x y n (nI (g + 1)) mx my σ).1 = 0 ∧ ∀ j, j ≤ g + n → ¬ (q_hours np nc j τ 110 7 = x ∧ q_hours np nc j τ 110 8 = y)) ∨
      ∃ j, g < j ∧ j ≤ g + n ∧ (g_hT 8 x y n (nI (g + 1)) mx my σ).1 = nI j ∧ (q_hours np nc j τ 110 7 = x ∧ q_hours np nc j τ 110 8 = y) ∧ ∀ i, i < j → ¬ (q_hours np nc i τ 110 7 = x ∧ q_hours np nc i τ 110 8 = y)
  | 0, g, m, mx, my, σ, hm, h, hw, e7, e8, hno => Or.inl ⟨rfl, hno⟩
  | n + 1, g, m, mx, my, σ, hm, h, hw, e7, e8, hno => by
    have eM : q_hours np nc (g + 1) τ = q_hour (q_hours np nc g τ) np nc := q_hours_add g 1 τ
    have h2 : w_ag np nc (sm_V (g_hour σ 8) 8) (q_V (q_hours np nc (g + 1) τ)) := by rw [eM]; exact w_hour_ag h hw
    have hw2 : w_ok (q_V (q_hours np nc (g + 1) τ)) np nc := by rw [eM]; exact w_hour_ok hw
    unfold g_hT
    by_cases ht : q_hours np nc (g + 1) τ 110 7 = x ∧ q_hours np nc (g + 1) τ 110 8 = y
    · rw [if_pos ((w_isAt h2).mpr ht)]
      exact Or.inr ⟨g + 1, by omega, by omega, rfl, ht, fun i hi => hno i (by omega)⟩
    · rw [if_neg (fun hh => ht ((w_isAt h2).mp hh))]
      have hno2 : ∀ j, j ≤ g + 1 → ¬ (q_hours np nc j τ 110 7 = x ∧ q_hours np nc j τ 110 8 = y) := fun j hj => by
        by_cases e : j = g + 1
        · rw [e]; exact ht
        · exact hno j (by omega)
      by_cases hk : q_hours np nc (g + 1) τ 110 7 = mx ∧ q_hours np nc (g + 1) τ 110 8 = my
      · rw [if_pos ((w_isAt h2).mpr hk)]
        exact Or.inl ⟨rfl, fun j hj => w_ring (a := m) (b := g + 1) (by omega) (e7 ▸ hk.1.symm) (e8 ▸ hk.2.symm) hno2 (g + (n + 1)) j hj⟩
      · rw [if_neg (fun hh => hk ((w_isAt h2).mp hh)), nI_1]
        have p0 : g_hour σ 8 8 0 = q_hours np nc (g + 1) τ 110 7 := h2.1 0 (by decide)
        have p1 : g_hour σ 8 8 1 = q_hours np nc (g + 1) τ 110 8 := h2.1 1 (by decide)
        have ih : ∀ (m2 : Nat) (ax ay : Int32), m2 ≤ g + 1 → ax = q_hours np nc m2 τ 110 7 → ay = q_hours np nc m2 τ 110 8 → _ := fun m2 ax ay a b c => w_hT (x := x) (y := y) n (g + 1) m2 ax ay (g_hour σ 8) a h2 hw2 b c hno2
        by_cases hb : f_bc (nI (g + 1)) = 1
        · rw [if_pos hb]
          rcases ih (g + 1) _ _ (Nat.le_refl _) p0 p1 with ⟨a, b⟩ | ⟨j, a, b, c, d, e⟩
          · exact Or.inl ⟨a, fun j hj => b j (by omega)⟩
          · exact Or.inr ⟨j, by omega, by omega, c, d, e⟩
        · rw [if_neg hb]
          rcases ih m _ _ (by omega) e7 e8 with ⟨a, b⟩ | ⟨j, a, b, c, d, e⟩
          · exact Or.inl ⟨a, fun j hj => b j (by omega)⟩
          · exact Or.inr ⟨j, by omega, by omega, c, d, e⟩
theorem w_wh {np nc : Nat} {x y : Int32} : ∀ (m i t : Nat) (τ : sm_St), t ≤ m → (∀ s, s < t → ¬ (q_hours np nc s τ 110 7 = x ∧ q_hours np nc s τ 110 8 = y)) → (t = m ∨ (q_hours np nc t τ 110 7 = x ∧ q_hours np nc t τ 110 8 = y)) → q_wh np nc x y m i τ = (i + t, q_hours np nc t τ)
  | 0, i, t, τ, ht, _, _ => by
    obtain rfl : t = 0 := by omega
    rfl
  | m + 1, i, t, τ, ht, hs, he => by
    unfold q_wh
    cases t with
    | zero =>
      rcases he with he | he
      · omega
      · rw [if_pos (show τ 110 7 = x ∧ τ 110 8 = y from he)]
        rfl
    | succ t =>
      rw [if_neg (show ¬ (τ 110 7 = x ∧ τ 110 8 = y) from hs 0 (by omega))]
      rw [w_wh m (i + 1) t (q_hour τ np nc) (by omega) (fun s h => hs (s + 1) (by omega)) (he.elim (fun a => Or.inl (by omega)) (fun a => Or.inr a))]
      rw [show i + 1 + t = i + (t + 1) by omega]
      rfl

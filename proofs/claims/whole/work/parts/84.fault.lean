/-! what the reading leaves as it was -/
theorem x_inc_f {σ : sm_St} : s_f (x_inc σ) σ := fun q l x y => by
  unfold x_inc
  rw [sm_set_at, if_neg x]
theorem x_num_f {σ : sm_St} : s_f (x_num σ).2 σ := by
  unfold x_num
  split
  · split
    · exact x_inc_f.tr x_inc_f
    · exact x_inc_f
  · exact s_f.rf σ
theorem s_f_99 {σ : sm_St} {i v : Int32} : s_f (r_set σ 99 3 i v) σ := fun q l x y => by rw [r_set_off y]
theorem x_one_f {σ : sm_St} {i e : Int32} : s_f (x_one σ i e).2 σ := by
  unfold x_one
  split
  · exact x_num_f
  · exact (x_inc_f.tr s_f_99).tr x_num_f
theorem x_two_f {σ : sm_St} : s_f (x_two σ).2 σ := by
  unfold x_two
  split
  · exact x_one_f.tr x_one_f
  · exact x_one_f
theorem x_three_f {σ : sm_St} : s_f (x_three σ).2 σ := by
  unfold x_three
  split
  · split
    · exact (x_one_f.tr x_one_f).tr x_one_f
    · dsimp only
      exact x_one_f.tr x_one_f
  · dsimp only
    exact x_one_f
/-- alike but for the Field k and what reads -/
def s_k (k : Nat) (σ' σ : sm_St) : Prop := ∀ q l, ¬ (k ≤ q ∧ q < k + 8) → ¬ (q = 97 ∧ l = 3) → q ≠ 99 → σ' q l = σ q l
theorem s_k.tr {k : Nat} {a b c : sm_St} (h : s_k k a b) (h2 : s_k k b c) : s_k k a c := fun q l x y z => (h q l x y z).trans (h2 q l x y z)
theorem s_f.k {k : Nat} {a b : sm_St} (h : s_f a b) : s_k k a b := fun q l _ y z => h q l y z
theorem s_k_set {k i : Nat} {v : Int32} {a b : sm_St} (h : s_k k a b) : s_k k (sm_set a k i v) b := fun q l x y z => by
  rw [sm_set_off (by omega)]
  exact h q l x y z
theorem s_k_row {k r n : Nat} {i v : Int32} {a b : sm_St} (hr : k ≤ r ∧ r < k + 8) (h : s_k k a b) : s_k k (r_set a r n i v) b := fun q l x y z => by
  rw [r_set_off (by omega)]
  exact h q l x y z
theorem s_k_rf (k : Nat) (σ : sm_St) : s_k k σ σ := fun _ _ _ _ _ => rfl
theorem g_addP_k {σ : sm_St} {k : Nat} {x y s : Int32} : s_k k (g_addP σ k x y s) σ := by
  unfold g_addP
  split
  · exact s_k_rf k σ
  · exact s_k_set (s_k_row (by omega) (s_k_row (by omega) (s_k_row (by omega) (s_k_row (by omega) (s_k_rf k σ)))))
theorem g_addS_k {σ : sm_St} {k : Nat} {x y s : Int32} : s_k k (g_addS σ k x y s) σ := by
  unfold g_addS
  split
  · exact s_k_rf k σ
  · exact s_k_set (s_k_row (by omega) (s_k_row (by omega) (s_k_row (by omega) (s_k_rf k σ))))
theorem x_tell_k {σ : sm_St} {k : Nat} {L : Int32} : s_k k (x_tell σ k L).2 σ := by
  unfold x_tell
  split
  · unfold t_ship
    split
    · exact s_k_set (s_k_set (s_k_set (s_k_rf k σ)))
    · exact s_k_rf k σ
  · split
    · unfold t_wind
      split
      · exact s_k_set (s_k_set (s_k_rf k σ))
      · exact s_k_rf k σ
    · split
      · unfold t_post
        split
        · exact g_addP_k
        · exact s_k_rf k σ
      · split
        · unfold t_one
          split
          · exact g_addS_k
          · exact s_k_rf k σ
        · exact s_k_rf k σ
theorem x_nums_f {σ : sm_St} {L : Int32} : s_f (x_nums σ L).2 σ := by
  unfold x_nums
  split
  · exact x_two_f
  · exact x_three_f
theorem x_item_k {σ : sm_St} {k : Nat} : s_k k (x_item σ k).2 σ := by
  unfold x_item
  split
  · exact x_tell_k.tr ((x_nums_f.tr x_inc_f).k)
  · exact (x_nums_f.tr x_inc_f).k
theorem x_read_k {k : Nat} : ∀ (n : Nat) (σ : sm_St), s_k k (x_read k n σ).2 σ
  | 0, σ => s_k_rf k σ
  | n + 1, σ => by
    unfold x_read
    split
    · exact s_k_rf k σ
    · split
      · exact x_item_k
      · exact (x_read_k n _).tr x_item_k
theorem x_into_k {σ : sm_St} {k : Nat} : s_k k (x_into σ k).2 σ := by
  unfold x_into
  refine (x_read_k 200 _).tr (fun q l x y z => ?_)
  rw [sm_set_at, if_neg y]
  unfold g_clear
  exact s_k_set (s_k_set (s_k_set (s_k_set (s_k_set (s_k_set (s_k_set (s_k_set (s_k_rf k σ)))))))) q l x y z
/-- alike but for what reads in the model -/
def s_h (τ' τ : sm_St) : Prop := ∀ q l, ¬ (q = 110 ∧ (l = 21 ∨ l = 22 ∨ l = 23 ∨ l = 27)) → ¬ (122 ≤ q ∧ q ≤ 124) → τ' q l = τ q l
theorem s_h.tr {a b c : sm_St} (h : s_h a b) (h2 : s_h b c) : s_h a c := fun q l x y => (h q l x y).trans (h2 q l x y)
theorem s_h_rf (τ : sm_St) : s_h τ τ := fun _ _ _ _ => rfl
theorem s_h_set {j : Nat} {v : Int32} {a b : sm_St} (hj : j = 21 ∨ j = 22 ∨ j = 23 ∨ j = 27) (h : s_h a b) : s_h (sm_set a 110 j v) b := fun q l x y => by
  rw [sm_set_at, if_neg (by omega)]
  exact h q l x y
theorem s_h_row {r n : Nat} {i v : Int32} {a b : sm_St} (hr : 122 ≤ r ∧ r ≤ 124) (h : s_h a b) : s_h (r_set a r n i v) b := fun q l x y => by
  rw [r_set_off (by omega)]
  exact h q l x y
theorem y_inc_h {τ : sm_St} : s_h (y_inc τ) τ := s_h_set (by omega) (s_h_rf τ)
theorem y_num_h {τ : sm_St} {a b e : Int32} : s_h (y_num τ a b e).2 τ := by
  have hv : s_h (y_put (y_val τ)) τ := by
    unfold y_put y_val
    split
    · exact s_h_set (by omega) (y_inc_h.tr y_inc_h)
    · exact s_h_set (by omega) y_inc_h
  unfold y_num
  split
  · split
    · exact y_inc_h.tr hv
    · exact hv
  · exact s_h_rf τ
theorem y_three_h {τ : sm_St} {r N p : Nat} {h0 h1 l2 h2 : Int32} (hr : 122 ≤ r ∧ r ≤ 124) : s_h (y_three τ r N p h0 h1 l2 h2).2 τ := by
  unfold y_three
  split
  · split
    · split
      · exact s_h_row hr (y_num_h.tr (s_h_row hr (y_num_h.tr (s_h_row hr y_num_h))))
      · exact y_num_h.tr (s_h_row hr (y_num_h.tr (s_h_row hr y_num_h)))
    · exact y_num_h.tr (s_h_row hr y_num_h)
  · exact y_num_h
theorem y_wind_h {τ : sm_St} : s_h (y_wind τ).2 τ := by
  unfold y_wind
  split
  · split
    · dsimp only
      exact s_h_row (r := 122) (by omega) (y_num_h.tr (s_h_row (r := 122) (by omega) y_num_h))
    · dsimp only
      exact y_num_h.tr (s_h_row (r := 122) (by omega) y_num_h)
  · exact y_num_h
theorem y_kind_h {τ : sm_St} {L : Int32} {rp rc : Nat} : s_h (y_kind τ L rp rc).2 τ := by
  unfold y_kind
  split
  · exact y_three_h (by omega)
  · split
    · exact y_wind_h
    · split
      · unfold y_up y_post
        split
        · exact s_h_set (by omega) (y_three_h (by omega))
        · exact s_h_set (by omega) (s_h_rf τ)
      · unfold y_up y_one
        split
        · exact s_h_set (by omega) (y_three_h (by omega))
        · exact s_h_set (by omega) (s_h_rf τ)
theorem y_itm_h {τ : sm_St} : s_h (y_itm τ).2 τ := by
  unfold y_itm y_item
  exact y_kind_h.tr y_inc_h
theorem y_read_h : ∀ (n : Nat) (τ : sm_St), s_h (y_read n τ).2 τ
  | 0, τ => s_h_rf τ
  | n + 1, τ => by
    unfold y_read
    split
    · exact s_h_rf τ
    · split
      · exact (y_read_h n _).tr y_itm_h
      · exact y_itm_h
theorem y_start_h {τ : sm_St} : s_h (y_start τ) τ := by
  unfold y_start
  exact s_h_row (by omega) (s_h_row (by omega) (s_h_row (by omega) (s_h_row (by omega) (s_h_row (by omega) (s_h_set (by omega) (s_h_set (by omega) (s_h_set (by omega) (s_h_rf τ))))))))
theorem y_fault_h {τ : sm_St} : s_h (y_fault τ).2 τ := by
  unfold y_fault
  exact (y_read_h 201 _).tr y_start_h
/-! the whole text -/
theorem w_read {L : Nat → Nat} {t : Nat} (hL : s_L L t) : ∀ (n n' a rp rc : Nat) (σ τ : sm_St), w_rd L t σ τ a rp rc → t - a ≤ n → t - a ≤ n' → (x_read 8 n σ).1 = (y_read n' τ).1 ∧ ((x_read 8 n σ).1 = -4 → ∃ a' rp' rc', w_rd L t (x_read 8 n σ).2 (y_read n' τ).2 a' rp' rc')
  | 0, n', a, rp, rc, σ, τ, R, hn, hn' => by
    have hat : a = t := by have := R.1.2.2; omega
    cases n' with
    | zero => exact ⟨rfl, fun _ => ⟨a, rp, rc, R⟩⟩
    | succ n' =>
      unfold y_read
      rw [R.2.1.2.1, R.1.2.1, hat, if_pos (Int32.le_refl _)]
      exact ⟨rfl, fun _ => ⟨a, rp, rc, R⟩⟩
  | n + 1, n', a, rp, rc, σ, τ, R, hn, hn' => by
    have t200 := hL.1
    have hat := R.1.2.2
    by_cases e : a = t
    · have ex : x_read 8 (n + 1) σ = (-4, σ) := by
        unfold x_read
        rw [R.2.1.1.1, R.1.1, e, if_pos (Int32.le_refl _)]
      have ey : y_read n' τ = (-4, τ) := by
        cases n' with
        | zero => rfl
        | succ n' =>
          unfold y_read
          rw [R.2.1.2.1, R.1.2.1, e, if_pos (Int32.le_refl _)]
      rw [ex, ey]
      exact ⟨rfl, fun _ => ⟨a, rp, rc, R⟩⟩
    · cases n' with
      | zero => omega
      | succ n' =>
        have nle : ¬ nI t ≤ nI a := fun hh => by
          have := (nI_leI (by omega) (by omega)).mp hh
          omega
        unfold x_read y_read
        rw [R.2.1.1.1, R.1.1, R.2.1.2.1, R.1.2.1, if_neg nle, if_neg nle]
        rcases w_itm hL R (by omega) with ⟨h1, h2⟩ | ⟨h1, h2, a', rp', rc', h3, h4⟩
        · rw [if_pos h1, if_neg (by rw [h2]; decide)]
          exact ⟨rfl, fun hh => absurd hh (nI_ne4 (by omega))⟩
        · rw [if_neg (by rw [h1]; decide), if_pos h2]
          exact w_read hL n n' a' rp' rc' _ _ h4 (by omega) (by omega)
def s_let (τ : sm_St) (t : Nat) (i : Nat) : Nat := if i < t then (τ 121 i).toNatClampNeg else 0
theorem s_let_ok {σ τ : sm_St} {t : Nat} (h : w_txt σ τ t) : s_L (s_let τ t) t ∧ s_C (s_let τ t) t σ ∧ s_M (s_let τ t) t τ := by
  obtain ⟨⟨h1, h2, h3⟩, h4⟩ := h
  have key : ∀ i, i < t → τ 121 i = nI (s_let τ t i) ∧ s_let τ t i ≤ 126 := fun i hi => by
    obtain ⟨-, c, c1, c2, ec⟩ := h4 i hi
    unfold s_let
    rw [if_pos hi, ec, nI_clamp (by omega)]
    exact ⟨rfl, c2⟩
  refine ⟨⟨h3, fun i hi => by unfold s_let; rw [if_neg (by omega)], fun i => ?_⟩, ⟨h1, fun i hi => (h4 i hi).1.trans (key i hi).1⟩, ⟨h2, fun i hi => (key i hi).1⟩⟩
  by_cases hi : i < t
  · exact (key i hi).2
  · unfold s_let
    rw [if_neg hi]
    omega
theorem g_clear_at {σ : sm_St} {k q l : Nat} : g_clear σ k q l = if q = k ∧ l = 7 then 0 else if q = k ∧ l = 6 then 0 else if q = k ∧ l = 5 then 0 else if q = k ∧ l = 4 then 0 else if q = k ∧ l = 3 then 0 else if q = k ∧ l = 2 then 2 else if q = k ∧ l = 1 then 4 else if q = k ∧ l = 0 then 4 else σ q l := by
  unfold g_clear
  rw [sm_set_at, sm_set_at, sm_set_at, sm_set_at, sm_set_at, sm_set_at, sm_set_at, sm_set_at]
theorem y_start_122 {τ : sm_St} : y_start τ 122 0 = nI 4 ∧ y_start τ 122 1 = nI 4 ∧ y_start τ 122 2 = nI 2 ∧ y_start τ 122 3 = nI 0 ∧ y_start τ 122 4 = nI 0 := by
  unfold y_start
  rw [r_set_nI (j := 4) (show (4 : Int32) = nI 4 from rfl) (by decide) (by decide), r_set_nI (j := 3) (show (3 : Int32) = nI 3 from rfl) (by decide) (by decide), r_set_nI (j := 2) (show (2 : Int32) = nI 2 from rfl) (by decide) (by decide), r_set_nI (j := 1) (show (1 : Int32) = nI 1 from rfl) (by decide) (by decide), r_set_nI (j := 0) (show (0 : Int32) = nI 0 from rfl) (by decide) (by decide)]
  refine ⟨?_, ?_, ?_, ?_, ?_⟩
  · rw [sm_set_ne (by decide), sm_set_ne (by decide), sm_set_ne (by decide), sm_set_ne (by decide), sm_set_eq]; rfl
  · rw [sm_set_ne (by decide), sm_set_ne (by decide), sm_set_ne (by decide), sm_set_eq]; rfl
  · rw [sm_set_ne (by decide), sm_set_ne (by decide), sm_set_eq]; rfl
  · rw [sm_set_ne (by decide), sm_set_eq]; rfl
  · rw [sm_set_eq]; rfl
theorem y_start_j {τ : sm_St} {j : Nat} (h : j = 21 ∨ j = 22 ∨ j = 23) : y_start τ 110 j = nI 0 := by
  unfold y_start
  rw [r_set_off (by decide), r_set_off (by decide), r_set_off (by decide), r_set_off (by decide), r_set_off (by decide)]
  rcases h with rfl | rfl | rfl
  · rw [sm_set_ne (by decide), sm_set_ne (by decide), sm_set_eq]; rfl
  · rw [sm_set_ne (by decide), sm_set_eq]; rfl
  · rw [sm_set_eq]; rfl
theorem w_rd_0 {σ τ : sm_St} {t : Nat} (h : w_txt σ τ t) : w_rd (s_let τ t) t (sm_set (g_clear σ 8) 97 3 0) (y_start τ) 0 0 0 := by
  obtain ⟨-, hC, hM⟩ := s_let_ok h
  obtain ⟨a0, a1, a2, a3, a4⟩ := y_start_122 (τ := τ)
  have c : ∀ q l, q ≠ 8 → ¬ (q = 97 ∧ l = 3) → sm_set (g_clear σ 8) 97 3 0 q l = σ q l := fun q l x y => by
    rw [sm_set_at, if_neg y, g_clear_at, if_neg (fun hh => x hh.1), if_neg (fun hh => x hh.1), if_neg (fun hh => x hh.1), if_neg (fun hh => x hh.1), if_neg (fun hh => x hh.1), if_neg (fun hh => x hh.1), if_neg (fun hh => x hh.1), if_neg (fun hh => x hh.1)]
  have c8 : ∀ l, sm_set (g_clear σ 8) 97 3 0 8 l = g_clear σ 8 8 l := fun l => by rw [sm_set_off (by decide)]
  refine ⟨⟨?_, y_start_j (by omega), Nat.zero_le _⟩, ⟨⟨?_, fun i hi => ?_⟩, ⟨?_, fun i hi => ?_⟩⟩, ⟨?_, y_start_j (by omega), by decide⟩, ⟨?_, y_start_j (by omega), by decide⟩, ⟨⟨?_, ?_, ?_, ?_, ?_, ?_⟩, ⟨4, by decide, a0⟩, ⟨4, by decide, a1⟩, ⟨0, by decide, a3⟩⟩, fun i hi => by omega, fun i hi => by omega⟩
  · rw [sm_set_eq]; rfl
  · rw [c 97 2 (by decide) (by omega)]; exact hC.1
  · rw [c 98 i (by decide) (by omega)]; exact hC.2 i hi
  · rw [y_start_h 110 20 (by omega) (by omega)]; exact hM.1
  · rw [y_start_h 121 i (by omega) (by omega)]; exact hM.2 i hi
  · rw [c8, g_clear_at, if_neg (by decide), if_pos (by decide)]; rfl
  · rw [c8, g_clear_at, if_pos (by decide)]; rfl
  · rw [c8, g_clear_at, a0]
    rfl
  · rw [c8, g_clear_at, a1]
    rfl
  · rw [c8, g_clear_at, a2]
    rfl
  · rw [c8, g_clear_at, a3]
    rfl
  · rw [c8, g_clear_at, a4]
    rfl
  · rw [c8, g_clear_at]
    rfl
theorem w_faultA {σ τ : sm_St} {t : Nat} (h : w_txt σ τ t) : (x_into σ 8).1 = (y_fault τ).1 ∧ ((x_into σ 8).1 = -4 → ∃ a' rp' rc', w_rd (s_let τ t) t (x_into σ 8).2 (y_fault τ).2 a' rp' rc') := by
  obtain ⟨hL, hC, hM⟩ := s_let_ok h
  unfold x_into y_fault
  exact w_read hL 200 201 0 0 0 _ _ (w_rd_0 h) (by have := hL.1; omega) (by have := hL.1; omega)
theorem w_fault {σ τ : sm_St} {np nc z t u tp kk tk : Nat} (hI : w_I σ τ np nc z t u tp kk tk) : (x_into σ 8).1 = (y_fault τ).1 ∧ w_I (x_into σ 8).2 (y_fault τ).2 np nc z t u tp kk tk :=
  ⟨(w_faultA hI.2.2.2.1).1, w_I_e (fun q i hq => x_into_k q i (by unfold w_cs at hq; omega) (by unfold w_cs at hq; omega) (by unfold w_cs at hq; omega)) (fun q i hq => y_fault_h q i (by unfold w_ms at hq; omega) (by unfold w_ms at hq; omega)) hI⟩

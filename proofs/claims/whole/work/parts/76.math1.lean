/-! counts, kinds of axes, bounds -/
def cntN (P : Nat → Prop) [DecidablePred P] : Nat → Nat
  | 0 => 0
  | i + 1 => cntN P i + (if P i then 1 else 0)
theorem cntN_congr {P Q : Nat → Prop} [DecidablePred P] [DecidablePred Q] {n : Nat} (h : ∀ i, i < n → (P i ↔ Q i)) : cntN P n = cntN Q n := by
  induction n with
  | zero => rfl
  | succ n ih =>
    have h1 := ih (fun i hi => h i (by omega))
    have h2 := h n (by omega)
    by_cases hp : P n
    · simp [cntN, h1, hp, h2.mp hp]
    · have hq : ¬ Q n := fun q => hp (h2.mpr q)
      simp [cntN, h1, hp, hq]
theorem fX_home {n : Nat} (hn : n ≤ 60) (nO nT : Nat → Int32) : f_X_home (nI n) nO nT = some (nI (cntN (fun i => nO i = nI i ∧ nT i = 0) n)) := by
  unfold f_X_home
  refine loop2_run (n := n) (fun i => nI (cntN (fun i => nO i = nI i ∧ nT i = 0) i)) (fun i => nI i) _ ?_ ?_ (by omega)
  · intro rec
    simp only [f_X_home_L4]
    rw [if_pos (nI_le (Nat.le_refl n) (by omega))]
  · intro rec i hi
    simp only [f_X_home_L4, f_X_home_J43, oLet_t]
    rw [if_neg (nI_ge hi (by omega)), oIn_n (by omega) (by omega), oIn_n (by omega) (by omega), nI_clamp (by omega)]
    by_cases h1 : nO i = nI i
    · rw [if_pos h1]
      by_cases h2 : nT i = 0
      · rw [if_pos h2]; simp [cntN, h1, h2, nI_1]
      · rw [if_neg h2]; simp [cntN, h1, h2, nI_1]
    · rw [if_neg h1]; simp [cntN, h1, nI_1]
theorem fM_home {n : Nat} (hn : n ≤ 60) (t : Int32) (nO nT : Nat → Int32) : f_M_home t (nI n) nO nT = some (nI (cntN (fun i => nO i = nI i ∧ nT i = 0) n), 0) := by
  unfold f_M_home
  refine loop2_run (n := n) (fun i => nI (cntN (fun i => nO i = nI i ∧ nT i = 0) i)) (fun i => nI i) _ ?_ ?_ (by omega)
  · intro rec
    simp only [f_M_home_L9]
    rw [if_pos (nI_le (Nat.le_refl n) (by omega))]
  · intro rec i hi
    simp only [f_M_home_L9, f_M_home_J41, f_M_home_J42, oLet_t]
    rw [if_neg (nI_ge hi (by omega)), oIn_n (by omega) (by omega), oIn_n (by omega) (by omega), nI_clamp (by omega)]
    by_cases h1 : nO i = nI i
    · rw [if_pos h1]
      by_cases h2 : nT i = 0
      · rw [if_pos h2]; simp [cntN, h1, h2, nI_1]
      · rw [if_neg h2]; simp [cntN, h1, h2, nI_1]
    · rw [if_neg h1]; simp [cntN, h1, nI_1]
theorem in_i3 {ρ : Type} {i j : Nat} {k : Option ρ} (h : 3 * i + j < 39) : oIn (3 * nI i + nI j) 39 k = k := by rw [nI_3]; exact oIn_n h (by omega)
theorem fM_kind {i : Nat} (hi : i < 13) (ca : Nat → Int32) : f_M_kind ca (nI i) = some (nI (cntN (fun j => ¬ ca (3 * i + j) = 0) 3)) := by
  unfold f_M_kind
  refine loop2_run (n := 3) (fun j => nI (cntN (fun j => ¬ ca (3 * i + j) = 0) j)) (fun j => nI j) _ ?_ ?_ (by omega)
  · intro rec
    simp only [f_M_kind_L4]
    rw [if_pos (by decide)]
  · intro rec j hj
    simp only [f_M_kind_L4, f_M_kind_J28, oLet_t]
    rw [if_neg (show ¬ (3 : Int32) ≤ nI j from nI_ge (b := 3) hj (by omega)), in_i3 (by omega), nI_3, nI_clamp (by omega)]
    by_cases h1 : ca (3 * i + j) = 0
    · rw [if_pos h1]; simp [cntN, h1, nI_1]
    · rw [if_neg h1]; simp [cntN, h1, nI_1]
theorem arr_of {x : Int32} (h1 : ¬ x < -1) (h2 : ¬ 1 < x) : arr1 x := by
  have e1 : (-1 : Int32).toInt = -1 := by decide
  have e2 : (1 : Int32).toInt = 1 := by decide
  have h3 : -1 ≤ x.toInt := by
    have := Int32.not_lt.mp h1
    have := Int32.le_iff_toInt_le.mp this
    omega
  have h4 : x.toInt ≤ 1 := by
    have := Int32.not_lt.mp h2
    have := Int32.le_iff_toInt_le.mp this
    omega
  rcases (show x.toInt = -1 ∨ x.toInt = 0 ∨ x.toInt = 1 by omega) with h | h | h
  · exact Or.inl (Int32.toInt_inj.mp (by rw [h]; decide))
  · exact Or.inr (Or.inl (Int32.toInt_inj.mp (by rw [h]; decide)))
  · exact Or.inr (Or.inr (Int32.toInt_inj.mp (by rw [h]; decide)))
theorem sm9_of {x : Int32} (h1 : ¬ x < -9) (h2 : ¬ 9 < x) : sm9 x := by
  have e1 : (-9 : Int32).toInt = -9 := by decide
  have e2 : (9 : Int32).toInt = 9 := by decide
  have := Int32.le_iff_toInt_le.mp (Int32.not_lt.mp h1)
  have := Int32.le_iff_toInt_le.mp (Int32.not_lt.mp h2)
  exact ⟨by omega, by omega⟩
def L3 : List Int32 := [-1, 0, 1]
theorem arr_L3 {x : Int32} (h : arr1 x) : x ∈ L3 := by
  rcases h with rfl | rfl | rfl <;> decide
def ordV (u v w : Int32) : Int32 := if (if u = 0 then (0 : Int32) else 1) + (if v = 0 then 0 else 1) + (if w = 0 then 0 else 1) = 1 then 4 else if (if u = 0 then (0 : Int32) else 1) + (if v = 0 then 0 else 1) + (if w = 0 then 0 else 1) = 2 then 2 else 3
theorem ax_tab : ∀ u ∈ L3, ∀ v ∈ L3, ∀ w ∈ L3, ¬ (u = 0 ∧ v = 0 ∧ w = 0) → ∃ k, k < 24 ∧ f_W_stepAbout u v w = some (nI k) ∧ f_W_orderOf (nI k) = some (ordV u v w) := by decide +kernel
theorem kind_V (ca : Nat → Int32) (i : Nat) : nI (cntN (fun j => ¬ ca (3 * i + j) = 0) 3) = (if ca (3 * i) = 0 then 0 else 1) + (if ca (3 * i + 1) = 0 then 0 else 1) + (if ca (3 * i + 2) = 0 then 0 else 1) := by
  by_cases h0 : ca (3 * i) = 0 <;> by_cases h1 : ca (3 * i + 1) = 0 <;> by_cases h2 : ca (3 * i + 2) = 0 <;> simp [cntN, h0, h1, h2] <;> decide

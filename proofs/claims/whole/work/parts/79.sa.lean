theorem gate_ok {n : Nat} {sd T : Nat → Nat} (hG : Gate n sd T) (hi : ∀ p q, p < n → q < n → T p < n → T p = T q → p = q) : okM n (mvP sd T) (fun _ => 0) := ⟨fun q hq => ⟨mvP_lt hG hq, show (0 : Nat) < 24 by decide⟩, fun p q hp hq e => mvP_inj hG hi hp hq e⟩
theorem gate_up {n : Nat} {sd T : Nat → Nat} (hG : Gate n sd T) {p : Nat} (hp : p < n) (hu : sd p = 2) : ∀ j, itR (mvP sd T) j p < n ∧ sd (itR (mvP sd T) j p) = 2 ∧ itR (mvP sd T) (j + 1) p = T (itR (mvP sd T) j p) := by
  have st : ∀ x, x < n → sd x = 2 → mvP sd T x = T x := by
    intro x hx e
    unfold mvP
    rw [if_pos e]
  intro j
  induction j with
  | zero => exact ⟨hp, hu, by rw [itR_s]; exact st p hp hu⟩
  | succ j ih =>
    obtain ⟨h1, h2, h3⟩ := ih
    have h4 := hG _ h1 h2
    rw [← h3] at h4
    exact ⟨h4.1, h4.2, by rw [itR_s]; exact st _ h4.1 h4.2⟩
theorem cyc_X {n p l : Nat} (hn : n ≤ 60) {nA nP nQ : Int32} {bX bY bZ sT tG : Nat → Int32} {bS : Nat → Int64} {sd T : Nat → Nat} (hG : Gate n sd T) (hp : p < n) (hu : sd p = 2) (htg : ∀ p, p < n → tG p = tgv sd T p) (l1 : 1 ≤ l) (l2 : l ≤ n) (l3 : itR (mvP sd T) l p = p) (l4 : ∀ j, 1 ≤ j → j < l → itR (mvP sd T) j p ≠ p) : oLoop2 (f_X_cycle_L55 nA nP nQ bX bY bZ bS sT (nI p) tG) 100 1 (tG p) = some (nI l, tG) := by
  have tv : ∀ j, tG (itR (mvP sd T) j p) = nI (itR (mvP sd T) (j + 1) p) := by
    intro j
    obtain ⟨h1, h2, h3⟩ := gate_up hG hp hu j
    rw [htg _ h1, h3]
    unfold tgv
    rw [if_pos h2]
  have h := loop2_run (f := f_X_cycle_L55 nA nP nQ bX bY bZ bS sT (nI p) tG) (n := l - 1) (fuel := 100) (fun i => nI (i + 1)) (fun i => nI (itR (mvP sd T) (i + 1) p)) (nI l, tG) ?_ ?_ (by omega)
  · have t0 := tv 0
    rw [← t0] at h
    exact h
  · intro rec
    simp only [f_X_cycle_L55]
    rw [show l - 1 + 1 = l by omega, l3, if_neg (nI_neg1 (by omega)), if_pos rfl]
  · intro rec i hi2
    obtain ⟨h1, h2, h3⟩ := gate_up hG hp hu (i + 1)
    simp only [f_X_cycle_L55, oLet_t]
    rw [if_neg (nI_neg1 (by omega)), if_neg (nI_ne (by omega) (by omega) (l4 (i + 1) (by omega) (by omega))), if_neg (show ¬ (60 : Int32) ≤ nI (i + 1) from nI_ge (b := 60) (by omega) (by omega)), oIn_n (by omega) (by omega), nI_clamp (by omega), tv (i + 1), nI_1]
theorem cyc_M {n p l i : Nat} (hn : n ≤ 60) {vp vq va : Int32} {cx cy cz pl ca : Nat → Int32} {sd T : Nat → Nat} {F : Nat → Int32 × Int32 × Int32} (hG : Gate n sd T) (hI : ∀ p, p < n → ∀ x y z, f_M_imageOf vp x y z cx cy cz ca (nI i) (nI p) = some (if T p < n then nI (T p) else -1, F p)) (hp : p < n) (hu : sd p = 2) (l1 : 1 ≤ l) (l2 : l ≤ n) (l3 : itR (mvP sd T) l p = p) (l4 : ∀ j, 1 ≤ j → j < l → itR (mvP sd T) j p ≠ p) : ∃ c : Int32 × Int32 × Int32, oLoop5 (f_M_cycle_L63 vp vq va cx cy cz pl ca (nI i) (nI p) 0) 100 1 (nI (T p)) (F p).1 (F p).2.1 (F p).2.2 = some (nI l, 0, c.1, c.2.1, c.2.2) := by
  refine ⟨F (itR (mvP sd T) (l - 1) p), ?_⟩
  have h := loop5_run (f := f_M_cycle_L63 vp vq va cx cy cz pl ca (nI i) (nI p) 0) (n := l - 1) (fuel := 100) (fun i => nI (i + 1)) (fun i => nI (itR (mvP sd T) (i + 1) p)) (fun i => (F (itR (mvP sd T) i p)).1) (fun i => (F (itR (mvP sd T) i p)).2.1) (fun i => (F (itR (mvP sd T) i p)).2.2) (nI l, 0, (F (itR (mvP sd T) (l - 1) p)).1, (F (itR (mvP sd T) (l - 1) p)).2.1, (F (itR (mvP sd T) (l - 1) p)).2.2) ?_ ?_ (by omega)
  · have t0 := (gate_up hG hp hu 0).2.2
    rw [t0] at h
    exact h
  · intro rec
    simp only [f_M_cycle_L63]
    rw [show l - 1 + 1 = l by omega, l3, if_pos rfl]
  · intro rec j hj
    obtain ⟨h1, h2, h3⟩ := gate_up hG hp hu (j + 1)
    simp only [f_M_cycle_L63, oLet_t]
    rw [if_neg (nI_ne (by omega) (by omega) (l4 (j + 1) (by omega) (by omega))), hI _ h1, if_pos (hG _ h1 h2).1, h3, nI_1]
    rfl

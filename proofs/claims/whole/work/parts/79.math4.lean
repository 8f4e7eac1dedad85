/-! planes and points come -/
theorem updL_at (f : Nat → Int64) (k : Nat) (x : Int64) (j : Nat) : vp_updL f k x j = if j = k then x else f j := rfl
def setS (f v : Nat → Int64) (i : Nat) : Nat → Int64 := fun j => if j < i then v j else f j
theorem setS_0 (f v : Nat → Int64) : setS f v 0 = f := by funext j; unfold setS; rw [if_neg (by omega)]
theorem setS_s (f v : Nat → Int64) (i : Nat) : vp_updL (setS f v i) i (v i) = setS f v (i + 1) := by
  funext j
  rw [updL_at]
  unfold setS
  by_cases h : j = i
  · rw [if_pos h, if_pos (by omega), h]
  · rw [if_neg h]
    by_cases h2 : j < i
    · rw [if_pos h2, if_pos (by omega)]
    · rw [if_neg h2, if_neg (by omega)]
theorem fB_noteSide {p q : Nat} (hp : p < 60) (hq : q < 20) (bX bY bZ bA bB bC bD : Nat → Int32) (bS : Nat → Int64) : f_B_noteSide bX bY bZ bA bB bC bD bS (nI p) (nI q) = some (vp_updL bS p (bS p ||| (lN (sgn3 (bA q * bX p + bB q * bY p + bC q * bZ p - bD q)) <<< ((2 * nI q).toInt64 &&& 63)))) := by
  have hj : ∀ t0 : Int64, f_B_noteSide_J68 bX bY bZ bA bB bC bD (nI p) (nI q) t0 bS = some (vp_updL bS p (bS p ||| (t0 <<< ((2 * nI q).toInt64 &&& 63)))) := by
    intro t0
    unfold f_B_noteSide_J68
    rw [oIn_n hp (by omega), oIn_n hp (by omega), oLet_t, nI_clamp (by omega)]
  unfold f_B_noteSide
  rw [oIn_n hq (by omega), oIn_n hp (by omega), oIn_n hq (by omega), oIn_n hp (by omega), oIn_n hq (by omega), oIn_n hp (by omega), oIn_n hq (by omega), oLet_t, nI_clamp (by omega), nI_clamp (by omega), hj, hj, hj]
  generalize bA q * bX p + bB q * bY p + bC q * bZ p - bD q = v
  unfold sgn3
  by_cases h : v < 0
  · rw [if_pos h, if_neg (fun h2 => Int32.not_le.mpr h h2)]; rfl
  · rw [if_neg h, if_pos (Int32.not_lt.mp h)]
    by_cases h3 : v = 0
    · rw [if_pos h3, if_pos h3]; rfl
    · rw [if_neg h3, if_neg h3]; rfl
theorem sdS_congr {s t : Nat → Nat} {m : Nat} (h : ∀ q, q < m → s q = t q) : sdS s m = sdS t m := by
  induction m with
  | zero => rfl
  | succ m ih =>
    show sdS s m + s m * 4 ^ m = sdS t m + t m * 4 ^ m
    rw [ih (fun q hq => h q (by omega)), h m (by omega)]
/-- the sides' loop of a new plane -/
theorem fB_planeLoop {n m : Nat} (hn : n ≤ 60) (hm : m < 20) (bX bY bZ bA bB bC bD : Nat → Int32) (bS : Nat → Int64) (s : Nat → Nat → Nat) (hs : ∀ p q, s p q < 3) (h : ∀ p, p < n → bS p = lN (sdS (s p) m)) (he : ∀ p, p < n → s p m = sgn3 (bA m * bX p + bB m * bY p + bC m * bZ p - bD m)) (r nQ : Int32) (hr : r = nI m) :
    oLoop2 (f_B_addPlane_L116 (nI n) bX bY bZ r nQ bA bB bC bD) 100 0 bS = some (r, nQ, bA, bB, bC, bD, setS bS (fun p => lN (sdS (s p) (m + 1))) n) := by
  have hh := loop2_run (f := f_B_addPlane_L116 (nI n) bX bY bZ r nQ bA bB bC bD) (n := n) (fuel := 100) (fun i => nI i) (fun i => setS bS (fun p => lN (sdS (s p) (m + 1))) i) (r, nQ, bA, bB, bC, bD, setS bS (fun p => lN (sdS (s p) (m + 1))) n) ?_ ?_ (by omega)
  · rw [setS_0] at hh; exact hh
  · intro rec
    simp only [f_B_addPlane_L116]
    rw [if_pos (nI_le (Nat.le_refl n) (by omega))]
  · intro rec i hi
    simp only [f_B_addPlane_L116]
    have e1 : setS bS (fun p => lN (sdS (s p) (m + 1))) i i = lN (sdS (s i) m) := by
      unfold setS; rw [if_neg (by omega)]; exact h i hi
    rw [if_neg (nI_ge hi (by omega)), hr, fB_noteSide (by omega) hm, oCall1_t, oLet_t, nI_1, e1, ← he i hi, lN_or_shl (sdS_lt (hs i) m) (hs i m) hm]
    have := setS_s bS (fun p => lN (sdS (s p) (m + 1))) i
    rw [← this]
    rfl
/-- the sides' loop of a new point -/
theorem fB_pointLoop {n m : Nat} (hn : n < 60) (hm : m ≤ 20) (bX bY bZ bA bB bC bD : Nat → Int32) (bS : Nat → Int64) (s : Nat → Nat) (hs : ∀ q, s q < 3) (h0 : bS n = 0) (he : ∀ q, q < m → s q = sgn3 (bA q * bX n + bB q * bY n + bC q * bZ n - bD q)) (r nP : Int32) (hr : r = nI n) :
    oLoop2 (f_B_addPoint_L94 (nI m) bA bB bC bD r nP bX bY bZ) 100 0 bS = some (r, nP, bX, bY, bZ, vp_updL bS n (lN (sdS s m))) := by
  have hu : ∀ a b, vp_updL (vp_updL bS n a) n b = vp_updL bS n b := by
    intro a b; funext j; rw [updL_at, updL_at, updL_at]; by_cases h : j = n
    · rw [if_pos h, if_pos h]
    · rw [if_neg h, if_neg h, if_neg h]
  have hh := loop2_run (f := f_B_addPoint_L94 (nI m) bA bB bC bD r nP bX bY bZ) (n := m) (fuel := 100) (fun i => nI i) (fun i => vp_updL bS n (lN (sdS s i))) (r, nP, bX, bY, bZ, vp_updL bS n (lN (sdS s m))) ?_ ?_ (by omega)
  · have e0 : vp_updL bS n (lN (sdS s 0)) = bS := by
      funext j; rw [updL_at]; by_cases h : j = n
      · rw [if_pos h, h, h0]; rfl
      · rw [if_neg h]
    rw [e0] at hh; exact hh
  · intro rec
    simp only [f_B_addPoint_L94]
    rw [if_pos (nI_le (Nat.le_refl m) (by omega))]
  · intro rec i hi
    simp only [f_B_addPoint_L94]
    have e1 : vp_updL bS n (lN (sdS s i)) n = lN (sdS s i) := by rw [updL_at, if_pos rfl]
    rw [if_neg (nI_ge hi (by omega)), hr, fB_noteSide hn (by omega), oCall1_t, oLet_t, nI_1, e1, ← he i hi, lN_or_shl (sdS_lt hs i) (hs i) (by omega), hu]
    rfl
theorem fB_pointAt {n r : Nat} (hn : n ≤ 60) (X Y Z : Nat → Int32) {a b c : Int32} (h1 : r ≤ n) (h2 : ∀ j, j < r → ¬ (X j = a ∧ Y j = b ∧ Z j = c)) (h3 : r < n → X r = a ∧ Y r = b ∧ Z r = c) : f_B_pointAt (nI n) X Y Z a b c = some (if r < n then nI r else -1) := by
  unfold f_B_pointAt
  refine loop1_run (n := r) (fun i => nI i) _ ?_ ?_ (by omega)
  · intro rec
    simp only [f_B_pointAt_L3]
    by_cases h : r < n
    · obtain ⟨e1, e2, e3⟩ := h3 h
      rw [if_neg (nI_ge h (by omega)), oIn_n (by omega) (by omega), nI_clamp (by omega), if_pos e1, oIn_n (by omega) (by omega), if_pos e2, oIn_n (by omega) (by omega), if_pos e3, if_pos h]
    · rw [if_pos (nI_le (by omega) (by omega)), if_neg h]
  · intro rec i hi
    simp only [f_B_pointAt_L3, f_B_pointAt_J48, oLet_t]
    rw [if_neg (nI_ge (show i < n by omega) (by omega)), oIn_n (by omega) (by omega), nI_clamp (by omega), oIn_n (by omega) (by omega), oIn_n (by omega) (by omega), nI_1]
    by_cases e1 : X i = a
    · rw [if_pos e1]
      by_cases e2 : Y i = b
      · rw [if_pos e2, if_neg (fun e3 => h2 i hi ⟨e1, e2, e3⟩)]
      · rw [if_neg e2]
    · rw [if_neg e1]
theorem fM_pointAt {n r : Nat} (hn : n ≤ 60) (X Y Z : Nat → Int32) {a b c : Int32} (h1 : r ≤ n) (h2 : ∀ j, j < r → ¬ (X j = a ∧ Y j = b ∧ Z j = c)) (h3 : r < n → X r = a ∧ Y r = b ∧ Z r = c) : f_M_pointAt (nI n) X Y Z a b c = some (if r < n then nI r else -1) := by
  unfold f_M_pointAt
  refine loop1_run (n := r) (fun i => nI i) _ ?_ ?_ (by omega)
  · intro rec
    simp only [f_M_pointAt_L3]
    by_cases h : r < n
    · obtain ⟨e1, e2, e3⟩ := h3 h
      rw [if_neg (nI_ge h (by omega)), oIn_n (by omega) (by omega), nI_clamp (by omega), if_pos e1, oIn_n (by omega) (by omega), if_pos e2, oIn_n (by omega) (by omega), if_pos e3, if_pos h]
    · rw [if_pos (nI_le (by omega) (by omega)), if_neg h]
  · intro rec i hi
    simp only [f_M_pointAt_L3, f_M_pointAt_J48, oLet_t]
    rw [if_neg (nI_ge (show i < n by omega) (by omega)), oIn_n (by omega) (by omega), nI_clamp (by omega), oIn_n (by omega) (by omega), oIn_n (by omega) (by omega), nI_1]
    by_cases e1 : X i = a
    · rw [if_pos e1]
      by_cases e2 : Y i = b
      · rw [if_pos e2, if_neg (fun e3 => h2 i hi ⟨e1, e2, e3⟩)]
      · rw [if_neg e2]
    · rw [if_neg e1]
/-- a place among the points, looked up on both sides -/
theorem pt_both {n : Nat} {nP vp : Int32} {bX bY bZ cx cy cz : Nat → Int32} (hP : RelP n nP bX bY bZ vp cx cy cz) (a b c : Int32) : ∃ r, r ≤ n ∧ (∀ j, j < r → ¬ (cx j = a ∧ cy j = b ∧ cz j = c)) ∧ (r < n → cx r = a ∧ cy r = b ∧ cz r = c) ∧ f_B_pointAt nP bX bY bZ a b c = some (if r < n then nI r else -1) ∧ f_M_pointAt vp cx cy cz a b c = some (if r < n then nI r else -1) := by
  obtain ⟨eP, eV, hn, hp, hd⟩ := hP
  obtain ⟨r, h1, h2, h3⟩ := least_ex (fun j => cx j = a ∧ cy j = b ∧ cz j = c) n
  refine ⟨r, h1, h2, h3, ?_, ?_⟩
  · rw [eP]
    refine fB_pointAt hn bX bY bZ h1 (fun j hj => ?_) (fun h => ?_)
    · rw [(hp j (by omega)).1, (hp j (by omega)).2.1, (hp j (by omega)).2.2.1]; exact h2 j hj
    · rw [(hp r h).1, (hp r h).2.1, (hp r h).2.2.1]; exact h3 h
  · rw [eV]; exact fM_pointAt hn cx cy cz h1 h2 h3

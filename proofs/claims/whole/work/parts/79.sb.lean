/-! the cube: the same points in the same order on both sides -/
def cV (c k : Nat) : Int32 := nI k - nI c
theorem cV_tab : ∀ c, c < 3 → ∀ k, k < 6 → (nI c < cV c k ↔ 2 * c < k) ∧ cV c k + 1 = cV c (k + 1) ∧ ¬ (cV c k < -9 ∨ 9 < cV c k) := by decide +kernel
theorem cV_0 : ∀ c, c < 3 → -(nI c) = cV c 0 := by decide +kernel
abbrev AR := Nat → Int32
abbrev XR := Option (Int32 × Int32 × AR × AR × AR × (Nat → Int64) × AR × AR)
abbrev MR := Option (Int32 × Int32 × Int32 × AR × AR × AR × AR × AR)
section Cube
variable {m n0 c : Nat} {nQ vq : Int32} {bA bB bC bD pl nO nT cwas cways : AR}
def cOut (m n0 : Nat) (pl nO nT cwas cways : AR) (A : XR) (B : MR) : Prop := ∃ (r : Int32) (n : Nat) (nP : Int32) (bX bY bZ : AR) (bS : Nat → Int64) (vp : Int32) (cx cy cz : AR), n0 ≤ n ∧ RelP n nP bX bY bZ vp cx cy cz ∧ RelS n m bS cx cy cz pl ∧ A = some (r, nP, bX, bY, bZ, bS, cpyTo nO 0 nI 60, cpyTo nT 0 (fun _ => 0) 60) ∧ B = some (r, 0, vp, cx, cy, cz, cpyTo cwas 0 nI n, cpyTo cways 0 (fun _ => 0) n)
def cLink (m n0 : Nat) (pl nO nT cwas cways : AR) (RX : Int32 → Int32 → Int32 → AR → AR → AR → (Nat → Int64) → XR) (RM : Int32 → Int32 → Int32 → AR → AR → AR → MR) (x : Int32) : Prop := ∀ (x2 : Int32) (n : Nat) (nP : Int32) (bX bY bZ : AR) (bS : Nat → Int64) (vp : Int32) (cx cy cz : AR), n0 ≤ n → RelP n nP bX bY bZ vp cx cy cz → RelS n m bS cx cy cz pl → cOut m n0 pl nO nT cwas cways (RX x2 x nP bX bY bZ bS) (RM x2 x vp cx cy cz)
theorem cube3 (hc : c < 3) (hQ : RelQ m nQ bA bB bC bD vq pl) {x3 x4 : Int32} (s3 : ¬ (x3 < -9 ∨ 9 < x3)) (s4 : ¬ (x4 < -9 ∨ 9 < x4)) {r16 r25 : Int32 → Int32 → Int32 → AR → AR → AR → (Nat → Int64) → XR} {r21 r30 : Int32 → Int32 → Int32 → AR → AR → AR → MR} (hL : cLink m n0 pl nO nT cwas cways r25 r30 (x4 + 1)) : ∀ d k, k + d = 2 * c + 1 → ∀ fuel, d < fuel → cLink m n0 pl nO nT cwas cways (oLoop7 (f_X_cube_L35 r16 r25 nQ bA bB bC bD (nI c) x3 nO nT x4) fuel) (oLoop6 (f_M_cube_L40 r21 r30 (nI c) x3 0 cwas cways x4) fuel) (cV c k) := by
  intro d
  induction d with
  | zero =>
    intro k hk fuel hf x2 n nP bX bY bZ bS vp cx cy cz hn hP hS
    obtain ⟨g, rfl⟩ : ∃ g, fuel = g + 1 := ⟨fuel - 1, by omega⟩
    obtain ⟨t1, -, -⟩ := cV_tab c hc k (by omega)
    show cOut m n0 pl nO nT cwas cways (f_X_cube_L35 _ _ _ _ _ _ _ _ _ _ _ _ _ _ _ _ _ _ _ _) (f_M_cube_L40 _ _ _ _ _ _ _ _ _ _ _ _ _ _ _)
    simp only [f_X_cube_L35, f_M_cube_L40, oLet_t]
    rw [if_pos (t1.mpr (by omega)), if_pos (t1.mpr (by omega))]
    exact hL x2 n nP bX bY bZ bS vp cx cy cz hn hP hS
  | succ d ih =>
    intro k hk fuel hf x2 n nP bX bY bZ bS vp cx cy cz hn hP hS
    obtain ⟨g, rfl⟩ : ∃ g, fuel = g + 1 := ⟨fuel - 1, by omega⟩
    obtain ⟨t1, t2, t3⟩ := cV_tab c hc k (by omega)
    show cOut m n0 pl nO nT cwas cways (f_X_cube_L35 _ _ _ _ _ _ _ _ _ _ _ _ _ _ _ _ _ _ _ _) (f_M_cube_L40 _ _ _ _ _ _ _ _ _ _ _ _ _ _ _)
    simp only [f_X_cube_L35, f_M_cube_L40, f_X_cube_J60, f_M_cube_J64, oLet_t]
    rw [if_neg (fun h => by have := t1.mp h; omega), if_neg (fun h => by have := t1.mp h; omega), t2]
    have hi := ih (k + 1) (by omega) g (by omega)
    rcases add_both hP hQ hS s3 s4 t3 with ⟨eB, eM⟩ | ⟨hn6, bX', bY', bZ', cx', cy', cz', bS', eB, eM, hP', hS'⟩
    · rw [eB, eM]
      simp only [oCall6_t, oCall5_t]
      rw [if_pos trivial, if_pos trivial, Int32.add_zero]
      exact hi x2 n nP bX bY bZ bS vp cx cy cz hn hP hS
    · rw [eB, eM]
      simp only [oCall6_t, oCall5_t]
      rw [if_neg (nI_neg1 (by omega)), if_neg (by decide)]
      exact hi (x2 + 1) (n + 1) _ bX' bY' bZ' bS' _ cx' cy' cz' (by omega) hP' hS'
theorem cube2 (hc : c < 3) (hQ : RelQ m nQ bA bB bC bD vq pl) {x3 : Int32} (s3 : ¬ (x3 < -9 ∨ 9 < x3)) {r16 : Int32 → Int32 → Int32 → AR → AR → AR → (Nat → Int64) → XR} {r21 : Int32 → Int32 → Int32 → AR → AR → AR → MR} (hL : cLink m n0 pl nO nT cwas cways r16 r21 (x3 + 1)) : ∀ d k, k + d = 2 * c + 1 → ∀ fuel, d < fuel → cLink m n0 pl nO nT cwas cways (oLoop7 (f_X_cube_L25 r16 nQ bA bB bC bD (nI c) nO nT x3) fuel) (oLoop6 (f_M_cube_L30 r21 (nI c) 0 cwas cways x3) fuel) (cV c k) := by
  intro d
  induction d with
  | zero =>
    intro k hk fuel hf x2 n nP bX bY bZ bS vp cx cy cz hn hP hS
    obtain ⟨g, rfl⟩ : ∃ g, fuel = g + 1 := ⟨fuel - 1, by omega⟩
    obtain ⟨t1, -, -⟩ := cV_tab c hc k (by omega)
    show cOut m n0 pl nO nT cwas cways (f_X_cube_L25 _ _ _ _ _ _ _ _ _ _ _ _ _ _ _ _ _ _) (f_M_cube_L30 _ _ _ _ _ _ _ _ _ _ _ _ _)
    simp only [f_X_cube_L25, f_M_cube_L30, oLet_t]
    rw [if_pos (t1.mpr (by omega)), if_pos (t1.mpr (by omega))]
    exact hL x2 n nP bX bY bZ bS vp cx cy cz hn hP hS
  | succ d ih =>
    intro k hk fuel hf x2 n nP bX bY bZ bS vp cx cy cz hn hP hS
    obtain ⟨g, rfl⟩ : ∃ g, fuel = g + 1 := ⟨fuel - 1, by omega⟩
    obtain ⟨t1, t2, t3⟩ := cV_tab c hc k (by omega)
    have hi := ih (k + 1) (by omega) g (by omega)
    rw [← t2] at hi
    have h3 := cube3 (r16 := r16) (r21 := r21) hc hQ s3 t3 hi (2 * c + 1) 0 (by omega) 100 (by omega) x2 n nP bX bY bZ bS vp cx cy cz hn hP hS
    rw [← cV_0 c hc] at h3
    show cOut m n0 pl nO nT cwas cways (f_X_cube_L25 _ _ _ _ _ _ _ _ _ _ _ _ _ _ _ _ _ _) (f_M_cube_L30 _ _ _ _ _ _ _ _ _ _ _ _ _)
    simp only [f_X_cube_L25, f_M_cube_L30, oLet_t]
    rw [if_neg (fun h => by have := t1.mp h; omega), if_neg (fun h => by have := t1.mp h; omega)]
    exact h3
theorem cube1 (hc : c < 3) (hQ : RelQ m nQ bA bB bC bD vq pl) : ∀ d k, k + d = 2 * c + 1 → ∀ fuel, d < fuel → cLink m n0 pl nO nT cwas cways (oLoop7 (f_X_cube_L16 nQ bA bB bC bD (nI c) nO nT) fuel) (oLoop6 (f_M_cube_L21 (nI c) 0 cwas cways) fuel) (cV c k) := by
  intro d
  induction d with
  | zero =>
    intro k hk fuel hf x2 n nP bX bY bZ bS vp cx cy cz hn hP hS
    obtain ⟨g, rfl⟩ : ∃ g, fuel = g + 1 := ⟨fuel - 1, by omega⟩
    obtain ⟨t1, -, -⟩ := cV_tab c hc k (by omega)
    have hn6 : n ≤ 60 := hP.2.2.1
    have eV : vp = nI n := hP.2.1
    show cOut m n0 pl nO nT cwas cways (f_X_cube_L16 _ _ _ _ _ _ _ _ _ _ _ _ _ _ _ _) (f_M_cube_L21 _ _ _ _ _ _ _ _ _ _ _)
    simp only [f_X_cube_L16, f_M_cube_L21, oLet_t]
    rw [if_pos (t1.mpr (by omega)), if_pos (t1.mpr (by omega)), fC_home]
    have ho := fM_own hn6 cwas cways
    rw [← eV] at ho
    rw [ho]
    exact ⟨x2, n, nP, bX, bY, bZ, bS, vp, cx, cy, cz, hn, hP, hS, rfl, rfl⟩
  | succ d ih =>
    intro k hk fuel hf x2 n nP bX bY bZ bS vp cx cy cz hn hP hS
    obtain ⟨g, rfl⟩ : ∃ g, fuel = g + 1 := ⟨fuel - 1, by omega⟩
    obtain ⟨t1, t2, t3⟩ := cV_tab c hc k (by omega)
    have hi := ih (k + 1) (by omega) g (by omega)
    rw [← t2] at hi
    have h3 := cube2 hc hQ t3 hi (2 * c + 1) 0 (by omega) 100 (by omega) x2 n nP bX bY bZ bS vp cx cy cz hn hP hS
    rw [← cV_0 c hc] at h3
    show cOut m n0 pl nO nT cwas cways (f_X_cube_L16 _ _ _ _ _ _ _ _ _ _ _ _ _ _ _ _) (f_M_cube_L21 _ _ _ _ _ _ _ _ _ _ _)
    simp only [f_X_cube_L16, f_M_cube_L21, oLet_t]
    rw [if_neg (fun h => by have := t1.mp h; omega), if_neg (fun h => by have := t1.mp h; omega)]
    exact h3
end Cube

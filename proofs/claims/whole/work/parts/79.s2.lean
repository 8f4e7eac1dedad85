def sameM (pl : Nat → Int32) (G : Int32 × Int32 × Int32) (d : Int32) (j : Nat) : Prop := G.1 * pl (4 * j + 1) = G.2.1 * pl (4 * j) ∧ G.1 * pl (4 * j + 2) = G.2.2 * pl (4 * j) ∧ G.2.1 * pl (4 * j + 2) = G.2.2 * pl (4 * j + 1) ∧ G.1 * pl (4 * j + 3) = d * pl (4 * j) ∧ G.2.1 * pl (4 * j + 3) = d * pl (4 * j + 1) ∧ G.2.2 * pl (4 * j + 3) = d * pl (4 * j + 2)
theorem cr_t {a b c d : Int32} (h : a * d = b * c) : f_M_isCross a b c d = some 1 := by unfold f_M_isCross; rw [if_pos h]
theorem cr_f {a b c d : Int32} (h : ¬ a * d = b * c) : f_M_isCross a b c d = some 0 := by unfold f_M_isCross; rw [if_neg h]
theorem fM_thereL {m j : Nat} (hj : j < m) (hm : m ≤ 20) (pl ca : Nat → Int32) (d : Int32) (G : Int32 × Int32 × Int32) (rec : Int32 → Option (Int32 × Int32 × Int32 × Int32)) : (sameM pl G d j → f_M_isThere_L47 (nI m) pl ca d G.1 G.2.1 G.2.2 rec (nI j) = some (1, G)) ∧ (¬ sameM pl G d j → f_M_isThere_L47 (nI m) pl ca d G.1 G.2.1 G.2.2 rec (nI j) = rec (nI (j + 1))) := by
  simp only [f_M_isThere_L47, f_M_isThere_J207, oLet_t]
  rw [if_neg (nI_ge hj (by omega)), n4b, n4c, n4d, n4a, oIn_n (by omega) (by omega), oIn_n (by omega) (by omega), oIn_n (by omega) (by omega), oIn_n (by omega) (by omega), nI_clamp (by omega), nI_clamp (by omega), nI_clamp (by omega), nI_clamp (by omega), nI_1]
  unfold sameM
  by_cases h1 : G.1 * pl (4 * j + 1) = G.2.1 * pl (4 * j)
  · rw [cr_t h1, oCall1_t, if_neg (by decide)]
    by_cases h2 : G.1 * pl (4 * j + 2) = G.2.2 * pl (4 * j)
    · rw [cr_t h2, oCall1_t, if_neg (by decide)]
      by_cases h3 : G.2.1 * pl (4 * j + 2) = G.2.2 * pl (4 * j + 1)
      · rw [cr_t h3, oCall1_t, if_neg (by decide)]
        by_cases h4 : G.1 * pl (4 * j + 3) = d * pl (4 * j)
        · rw [cr_t h4, oCall1_t, if_neg (by decide)]
          by_cases h5 : G.2.1 * pl (4 * j + 3) = d * pl (4 * j + 1)
          · rw [cr_t h5, oCall1_t, if_neg (by decide)]
            by_cases h6 : G.2.2 * pl (4 * j + 3) = d * pl (4 * j + 2)
            · rw [cr_t h6, oCall1_t, if_neg (by decide)]
              exact ⟨fun _ => rfl, fun h => absurd ⟨h1, h2, h3, h4, h5, h6⟩ h⟩
            · rw [cr_f h6, oCall1_t, if_pos rfl]
              exact ⟨fun h => absurd h.2.2.2.2.2 h6, fun _ => rfl⟩
          · rw [cr_f h5, oCall1_t, if_pos rfl]
            exact ⟨fun h => absurd h.2.2.2.2.1 h5, fun _ => rfl⟩
        · rw [cr_f h4, oCall1_t, if_pos rfl]
          exact ⟨fun h => absurd h.2.2.2.1 h4, fun _ => rfl⟩
      · rw [cr_f h3, oCall1_t, if_pos rfl]
        exact ⟨fun h => absurd h.2.2.1 h3, fun _ => rfl⟩
    · rw [cr_f h2, oCall1_t, if_pos rfl]
      exact ⟨fun h => absurd h.2.1 h2, fun _ => rfl⟩
  · rw [cr_f h1, oCall1_t, if_pos rfl]
    exact ⟨fun h => absurd h.1 h1, fun _ => rfl⟩
theorem fM_there {m k i k0 : Nat} (hm : m ≤ 20) (hk : k < m) (hi : i < 13) {pl ca : Nat → Int32} {g : Int32 → Int32 → Int32 → Int32 × Int32 × Int32} (hg : isRot (ca (3 * i)) (ca (3 * i + 1)) (ca (3 * i + 2)) k0 g) (s1 : sm9 (pl (4 * k))) (s2 : sm9 (pl (4 * k + 1))) (s3 : sm9 (pl (4 * k + 2))) : ∃ b : Int32, (∀ x y z, f_M_isThere (nI m) x y z pl ca (nI i) (nI k) = some (b, g (pl (4 * k)) (pl (4 * k + 1)) (pl (4 * k + 2)))) ∧ (b = 0 ↔ ¬ ∃ j, j < m ∧ sameM pl (g (pl (4 * k)) (pl (4 * k + 1)) (pl (4 * k + 2))) (pl (4 * k + 3)) j) := by
  obtain ⟨-, -, -, hsv, -⟩ := hg
  have hst := fun (x y z : Int32) => fM_step hi x y z ca (pl (4 * k)) (pl (4 * k + 1)) (pl (4 * k + 2))
  rw [hsv _ _ _ s1 s2 s3] at hst
  generalize g (pl (4 * k)) (pl (4 * k + 1)) (pl (4 * k + 2)) = G at hst ⊢
  have hdec : DecidablePred (fun j => sameM pl G (pl (4 * k + 3)) j) := fun j => Classical.propDecidable _
  obtain ⟨r, r1, r2, r3⟩ := least_ex (fun j => sameM pl G (pl (4 * k + 3)) j) m
  refine ⟨if r < m then 1 else 0, fun x y z => ?_, ?_⟩
  · unfold f_M_isThere
    rw [n4b, n4c, n4d, n4a, oIn_n (by omega) (by omega), oIn_n (by omega) (by omega), oIn_n (by omega) (by omega), nI_clamp (by omega), nI_clamp (by omega), nI_clamp (by omega), hst]
    show oIn (nI (4 * k + 3)) 80 _ = _
    rw [oIn_n (by omega) (by omega), oLet_t, nI_clamp (by omega)]
    refine loop1_run (n := r) (fun i => nI i) _ ?_ ?_ (by omega)
    · intro rec
      by_cases e : r < m
      · rw [if_pos e]; exact (fM_thereL e hm pl ca _ G rec).1 (r3 e)
      · rw [if_neg e]
        simp only [f_M_isThere_L47]
        rw [if_pos (nI_le (by omega) (by omega))]
    · intro rec j hj
      exact (fM_thereL (show j < m by omega) hm pl ca _ G rec).2 (r2 j hj)
  · by_cases e : r < m
    · rw [if_pos e]
      exact ⟨fun h => absurd h (by decide), fun h => absurd ⟨r, e, r3 e⟩ h⟩
    · rw [if_neg e]
      exact ⟨fun _ ⟨j, hj, hs⟩ => r2 j (by omega) hs, fun _ => rfl⟩
theorem same_iff {m q j : Nat} {nQ vq : Int32} {A B C D pl : Nat → Int32} (hQ : RelQ m nQ A B C D vq pl) (hj : j < m) (G : Int32 × Int32 × Int32) (d : Int32) : sameP A B C D G.1 G.2.1 G.2.2 d j ↔ sameM pl G d j := by
  obtain ⟨-, -, -, hq⟩ := hQ
  obtain ⟨e1, e2, e3, e4, -⟩ := hq j hj
  unfold sameP sameM
  rw [e1, e2, e3, e4]
  constructor
  · rintro ⟨h1, h2, h3, h4, h5, h6⟩
    refine ⟨?_, ?_, ?_, ?_, ?_, ?_⟩ <;> grind
  · rintro ⟨h1, h2, h3, h4, h5, h6⟩
    refine ⟨?_, ?_, ?_, ?_, ?_, ?_⟩ <;> grind
theorem fB_tpts {n k0 : Nat} {nP : Int32} (hn : n ≤ 60) (eP : nP = nI n) {bX bY bZ : Nat → Int32} {T : Nat → Nat} (hT : ∀ p, p < n → T p ≤ n) (hI : ∀ p, p < n → f_B_imageOf nP bX bY bZ (nI p) (nI k0) = some (if T p < n then nI (T p) else -1)) {r : Nat} (r1 : r ≤ n) (r2 : ∀ j, j < r → T j < n) (r3 : r < n → ¬ T r < n) : f_B_takesPointsToPoints nP bX bY bZ (nI k0) = some (if r < n then 0 else 1) := by
  unfold f_B_takesPointsToPoints
  refine loop1_run (n := r) (fun i => nI i) _ ?_ ?_ (by omega)
  · intro rec
    simp only [f_B_takesPointsToPoints_L2]
    by_cases e : r < n
    · rw [if_neg (by rw [eP]; exact nI_ge e (by omega)), hI r e, oCall1_t, if_pos ((m1_lt _ _ (by have := hT r e; omega)).1.mpr (r3 e)), if_pos e]
    · rw [if_pos (by rw [eP]; exact nI_le (by omega) (by omega)), if_neg e]
  · intro rec i hi
    simp only [f_B_takesPointsToPoints_L2, oLet_t]
    rw [if_neg (by rw [eP]; exact nI_ge (show i < n by omega) (by omega)), hI i (by omega), oCall1_t, if_neg (fun q => (m1_lt _ _ (by have := hT i (by omega); omega)).1.mp q (r2 i hi)), nI_1]
theorem fB_tpls {m k0 : Nat} (hm : m ≤ 20) {A B C D : Nat → Int32} {u v w : Int32} {g : Int32 → Int32 → Int32 → Int32 × Int32 × Int32} (hg : isRot u v w k0 g) {r : Nat} (r1 : r ≤ m) (r2 : ∀ q, q < r → ∃ j, j < m ∧ sameP A B C D (g (A q) (B q) (C q)).1 (g (A q) (B q) (C q)).2.1 (g (A q) (B q) (C q)).2.2 (D q) j) (r3 : r < m → ¬ ∃ j, j < m ∧ sameP A B C D (g (A r) (B r) (C r)).1 (g (A r) (B r) (C r)).2.1 (g (A r) (B r) (C r)).2.2 (D r) j) : f_B_takesPlanesToPlanes (nI m) A B C D (nI k0) = some (if r < m then 0 else 1) := by
  obtain ⟨-, -, hco, -, -⟩ := hg
  have step : ∀ (rec : Int32 → Option Int32) (q : Nat), q < m → ∃ b : Int32, f_B_takesPlanesToPlanes_L2 (nI m) A B C D (nI k0) rec (nI q) = (if b = 0 then some 0 else rec (nI (q + 1))) ∧ (b = 0 ↔ ¬ ∃ j, j < m ∧ sameP A B C D (g (A q) (B q) (C q)).1 (g (A q) (B q) (C q)).2.1 (g (A q) (B q) (C q)).2.2 (D q) j) := by
    intro rec q hq
    have hin : ∀ {ρ : Type} {k : Option ρ}, oIn (nI q) 20 k = k := fun {_ _} => oIn_n (show q < 20 by omega) (by omega)
    obtain ⟨b, e1, e2⟩ := fB_where hm A B C D (g (A q) (B q) (C q)).1 (g (A q) (B q) (C q)).2.1 (g (A q) (B q) (C q)).2.2 (D q)
    refine ⟨b, ?_, e2⟩
    simp only [f_B_takesPlanesToPlanes_L2, hin, nI_clamp (show q < 2 ^ 31 by omega), (hco _ _ _).1, (hco _ _ _).2.1, (hco _ _ _).2.2, oCall1_t, oLet_t, e1, nI_1]
    rw [if_neg (nI_ge hq (by omega))]
  unfold f_B_takesPlanesToPlanes
  refine loop1_run (n := r) (fun i => nI i) _ ?_ ?_ (by omega)
  · intro rec
    by_cases e : r < m
    · obtain ⟨b, e1, e2⟩ := step rec r e
      rw [e1, if_pos (e2.mpr (r3 e)), if_pos e]
    · simp only [f_B_takesPlanesToPlanes_L2]
      rw [if_pos (nI_le (by omega) (by omega)), if_neg e]
  · intro rec q hq
    obtain ⟨b, e1, e2⟩ := step rec q (by omega)
    rw [e1, if_neg (fun h => (e2.mp h) (r2 q hq))]

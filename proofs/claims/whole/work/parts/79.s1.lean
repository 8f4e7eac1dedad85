/-! images, and whether an axis maps the body -/
abbrev P3 (x y z : Nat → Int32) (p : Nat) (c : Int32 × Int32 × Int32) : Prop := x p = c.1 ∧ y p = c.2.1 ∧ z p = c.2.2
theorem img_one {n i k0 p : Nat} {nP vp : Int32} {bX bY bZ cx cy cz ca : Nat → Int32} {g : Int32 → Int32 → Int32 → Int32 × Int32 × Int32} (hP : RelP n nP bX bY bZ vp cx cy cz) (hi : i < 13) (hg : isRot (ca (3 * i)) (ca (3 * i + 1)) (ca (3 * i + 2)) k0 g) (hp : p < n) : ∃ r, r ≤ n ∧ (r < n → P3 cx cy cz r (g (cx p) (cy p) (cz p))) ∧ (∀ j, j < r → ¬ P3 cx cy cz j (g (cx p) (cy p) (cz p))) ∧ f_B_imageOf nP bX bY bZ (nI p) (nI k0) = some (if r < n then nI r else -1) ∧ ∀ a b c, f_M_imageOf vp a b c cx cy cz ca (nI i) (nI p) = some (if r < n then nI r else -1, g (cx p) (cy p) (cz p)) := by
  obtain ⟨hk, hst, hco, hsv, hinj⟩ := hg
  obtain ⟨r, r1, r2, r3, eB, eM⟩ := pt_both hP (g (cx p) (cy p) (cz p)).1 (g (cx p) (cy p) (cz p)).2.1 (g (cx p) (cy p) (cz p)).2.2
  obtain ⟨eP, eV, hn, hpt, hd⟩ := hP
  obtain ⟨q1, q2, q3, s1, s2, s3⟩ := hpt p hp
  refine ⟨r, r1, r3, r2, ?_, fun a b c => ?_⟩
  · unfold f_B_imageOf
    rw [oIn_n (by omega) (by omega), oLet_t, oIn_n (by omega) (by omega), oLet_t, oIn_n (by omega) (by omega), oLet_t, nI_clamp (by omega), q1, q2, q3, (hco _ _ _).1, oCall1_t, (hco _ _ _).2.1, oCall1_t, (hco _ _ _).2.2, oCall1_t, eB, oCall1_t]
  · unfold f_M_imageOf
    rw [oIn_n (by omega) (by omega), oIn_n (by omega) (by omega), oIn_n (by omega) (by omega), nI_clamp (by omega), fM_step hi, hsv _ _ _ s1 s2 s3]
    show oCall1 (f_M_pointAt vp cx cy cz (g (cx p) (cy p) (cz p)).1 (g (cx p) (cy p) (cz p)).2.1 (g (cx p) (cy p) (cz p)).2.2) _ = _
    rw [eM, oCall1_t]
/-- the images of the points under a step, as numbers (n: none) -/
def isImg (n : Nat) (cx cy cz : Nat → Int32) (g : Int32 → Int32 → Int32 → Int32 × Int32 × Int32) (T : Nat → Nat) : Prop := ∀ p, p < n → T p ≤ n ∧ (T p < n → P3 cx cy cz (T p) (g (cx p) (cy p) (cz p))) ∧ (∀ j, j < T p → ¬ P3 cx cy cz j (g (cx p) (cy p) (cz p)))
theorem img_fn {n a i : Nat} {nP vp nA va : Int32} {bX bY bZ cx cy cz ca sT : Nat → Int32} (hP : RelP n nP bX bY bZ vp cx cy cz) (hA : RelA a nA sT va ca) (hi : i < a) : ∃ (k0 : Nat) (g : Int32 → Int32 → Int32 → Int32 × Int32 × Int32) (T : Nat → Nat), sT i = nI k0 ∧ isRot (ca (3 * i)) (ca (3 * i + 1)) (ca (3 * i + 2)) k0 g ∧ isImg n cx cy cz g T ∧ ∀ p, p < n → f_B_imageOf nP bX bY bZ (nI p) (nI k0) = some (if T p < n then nI (T p) else -1) ∧ ∀ x y z, f_M_imageOf vp x y z cx cy cz ca (nI i) (nI p) = some (if T p < n then nI (T p) else -1, g (cx p) (cy p) (cz p)) := by
  obtain ⟨eA, eV, ha, hax⟩ := hA
  obtain ⟨a1, a2, a3, hz, hst⟩ := hax i hi
  obtain ⟨k0, g, hg⟩ := rot_tab a1 a2 a3 hz
  have h1 : ∀ p, ∃ r, p < n → r ≤ n ∧ (r < n → P3 cx cy cz r (g (cx p) (cy p) (cz p))) ∧ (∀ j, j < r → ¬ P3 cx cy cz j (g (cx p) (cy p) (cz p))) ∧ f_B_imageOf nP bX bY bZ (nI p) (nI k0) = some (if r < n then nI r else -1) ∧ ∀ x y z, f_M_imageOf vp x y z cx cy cz ca (nI i) (nI p) = some (if r < n then nI r else -1, g (cx p) (cy p) (cz p)) := by
    intro p
    by_cases hp : p < n
    · obtain ⟨r, hr⟩ := img_one hP (by omega) hg hp
      exact ⟨r, fun _ => hr⟩
    · exact ⟨0, fun h => absurd h hp⟩
  obtain ⟨T, hT⟩ := Classical.axiomOfChoice h1
  exact ⟨k0, g, T, Option.some.inj (hst.symm.trans hg.2.1), hg, fun p hp => ⟨(hT p hp).1, (hT p hp).2.1, (hT p hp).2.2.1⟩, fun p hp => (hT p hp).2.2.2⟩
theorem img_inj {n : Nat} {nP vp : Int32} {bX bY bZ cx cy cz : Nat → Int32} {u v w : Int32} {k0 : Nat} {g : Int32 → Int32 → Int32 → Int32 × Int32 × Int32} {T : Nat → Nat} (hP : RelP n nP bX bY bZ vp cx cy cz) (hg : isRot u v w k0 g) (hT : isImg n cx cy cz g T) {p q : Nat} (hp : p < n) (hq : q < n) (h1 : T p < n) (e : T p = T q) : p = q := by
  have e1 := (hT p hp).2.1 h1
  have e2 := (hT q hq).2.1 (by omega)
  rw [← e] at e2
  have e3 : g (cx p) (cy p) (cz p) = g (cx q) (cy q) (cz q) := by
    have a1 := e1.1.symm.trans e2.1
    have a2 := e1.2.1.symm.trans e2.2.1
    have a3 := e1.2.2.symm.trans e2.2.2
    exact Prod.ext a1 (Prod.ext a2 a3)
  obtain ⟨b1, b2, b3⟩ := hg.2.2.2.2 _ _ _ _ _ _ e3
  exact hP.2.2.2.2 p q hp hq b1 b2 b3
theorem m1_lt (c : Prop) [Decidable c] (r : Nat) (hr : r < 2 ^ 31) : ((if c then nI r else -1) = (-1 : Int32) ↔ ¬ c) ∧ ((if c then nI r else -1) < (0 : Int32) ↔ ¬ c) ∧ ((0 : Int32) ≤ (if c then nI r else -1) ↔ c) := by
  by_cases h : c
  · simp only [if_pos h]
    exact ⟨⟨fun e => absurd e (nI_neg1 hr), fun e => absurd h e⟩, ⟨fun e => absurd e (nI_pos hr), fun e => absurd h e⟩, ⟨fun _ => h, fun _ => nI_pos' hr⟩⟩
  · simp only [if_neg h]
    exact ⟨⟨fun _ => h, fun _ => trivial⟩, ⟨fun _ => h, fun _ => by decide⟩, ⟨fun e => absurd e (by decide), fun e => absurd e h⟩⟩
def sameP (A B C D : Nat → Int32) (pa pb pc pd : Int32) (j : Nat) : Prop := A j * pb = B j * pa ∧ A j * pc = C j * pa ∧ B j * pc = C j * pb ∧ A j * pd = D j * pa ∧ B j * pd = D j * pb ∧ C j * pd = D j * pc
theorem fB_same {j : Nat} (hj : j < 20) (A B C D : Nat → Int32) (pa pb pc pd : Int32) : ∃ b : Int32, f_B_isSamePlane A B C D (nI j) pa pb pc pd = some b ∧ (b = 0 ↔ ¬ sameP A B C D pa pb pc pd j) := by
  have hin : ∀ {ρ : Type} {k : Option ρ}, oIn (nI j) 20 k = k := fun {_ _} => oIn_n hj (by omega)
  unfold f_B_isSamePlane sameP
  simp only [hin, nI_clamp (show j < 2 ^ 31 by omega)]
  by_cases h1 : A j * pb = B j * pa
  · by_cases h2 : A j * pc = C j * pa
    · by_cases h3 : B j * pc = C j * pb
      · by_cases h4 : A j * pd = D j * pa
        · by_cases h5 : B j * pd = D j * pb
          · by_cases h6 : C j * pd = D j * pc
            · exact ⟨1, by simp [h1, h2, h3, h4, h5, h6], by simp [h1, h2, h3, h4, h5, h6]⟩
            · exact ⟨0, by simp [h1, h2, h3, h4, h5, h6], by simp [h6]⟩
          · exact ⟨0, by simp [h1, h2, h3, h4, h5], by simp [h5]⟩
        · exact ⟨0, by simp [h1, h2, h3, h4], by simp [h4]⟩
      · exact ⟨0, by simp [h1, h2, h3], by simp [h3]⟩
    · exact ⟨0, by simp [h1, h2], by simp [h2]⟩
  · exact ⟨0, by simp [h1], by simp [h1]⟩
theorem fB_where {m : Nat} (hm : m ≤ 20) (A B C D : Nat → Int32) (pa pb pc pd : Int32) : ∃ b : Int32, f_B_hasPlaneWhere (nI m) A B C D pa pb pc pd = some b ∧ (b = 0 ↔ ¬ ∃ j, j < m ∧ sameP A B C D pa pb pc pd j) := by
  have hdec : DecidablePred (fun j => sameP A B C D pa pb pc pd j) := fun j => Classical.propDecidable _
  obtain ⟨r, r1, r2, r3⟩ := least_ex (fun j => sameP A B C D pa pb pc pd j) m
  refine ⟨if r < m then 1 else 0, ?_, ?_⟩
  · unfold f_B_hasPlaneWhere
    refine loop1_run (n := r) (fun i => nI i) _ ?_ ?_ (by omega)
    · intro rec
      simp only [f_B_hasPlaneWhere_L3]
      by_cases e : r < m
      · obtain ⟨b, e1, e2⟩ := fB_same (show r < 20 by omega) A B C D pa pb pc pd
        rw [if_neg (nI_ge e (by omega)), e1, oCall1_t, if_neg (fun q => (e2.mp q) (r3 e)), if_pos e]
      · rw [if_pos (nI_le (by omega) (by omega)), if_neg e]
    · intro rec i hi
      simp only [f_B_hasPlaneWhere_L3, oLet_t]
      obtain ⟨b, e1, e2⟩ := fB_same (show i < 20 by omega) A B C D pa pb pc pd
      rw [if_neg (nI_ge (show i < m by omega) (by omega)), e1, oCall1_t, if_pos (e2.mpr (r2 i hi)), nI_1]
  · by_cases e : r < m
    · rw [if_pos e]
      exact ⟨fun h => absurd h (by decide), fun h => absurd ⟨r, e, r3 e⟩ h⟩
    · rw [if_neg e]
      exact ⟨fun _ ⟨j, hj, hs⟩ => r2 j (by omega) hs, fun _ => rfl⟩

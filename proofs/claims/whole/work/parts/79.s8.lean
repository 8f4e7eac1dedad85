/-! one turn about axis i of what lies above plane j: blocked where, or a move, the same for both -/
theorem gate_pb {n k0 : Nat} (hk : k0 < 24) {sd T : Nat → Nat} (hG : Gate n sd T) (hi : ∀ p q, p < n → q < n → T p < n → T p = T q → p = q) : ∃ ρ c, okM n ρ c ∧ ∀ (cO cT : Nat → Int32) (w : Nat → Nat), (∀ p, p < n → w p < 24 ∧ cT p = nI (w p)) → PB n ρ c cO cT (puts (fun p => sd p = 2) T cO cO n) (puts (fun p => sd p = 2) T (fun p => nI (cmpN k0 (w p))) cT n) := by
  have hx : ∀ j, ∃ i, j < n → i < n ∧ mvP sd T i = j := by
    intro j
    by_cases hj : j < n
    · obtain ⟨i, h1, h2⟩ := pig n (mvP sd T) (fun i hi2 => mvP_lt hG hi2) (fun i j hi2 hj2 e => mvP_inj hG hi hi2 hj2 e) j hj
      exact ⟨i, fun _ => ⟨h1, h2⟩⟩
    · exact ⟨0, fun h => absurd h hj⟩
  obtain ⟨ρ, hρ⟩ := Classical.skolem.mp hx
  refine ⟨ρ, fun q => mvC k0 sd (ρ q), ⟨fun q hq => ⟨(hρ q hq).1, ?_⟩, fun p q hp hq e => ?_⟩, fun cO cT w hw q hq => ⟨?_, fun v hv e => ?_⟩⟩
  · show mvC k0 sd (ρ q) < 24
    unfold mvC
    by_cases e : sd (ρ q) = 2
    · rw [if_pos e]; exact hk
    · rw [if_neg e]; omega
  · rw [← (hρ p hp).2, ← (hρ q hq).2, e]
  · have h := puts_mv hG hi cO cO (hρ q hq).1
    rw [(hρ q hq).2] at h
    rw [h]
    by_cases e : sd (ρ q) = 2
    · rw [if_pos e]
    · rw [if_neg e]
  · have h := puts_mv hG hi (fun p => nI (cmpN k0 (w p))) cT (hρ q hq).1
    rw [(hρ q hq).2] at h
    obtain ⟨w1, w2⟩ := hw _ (hρ q hq).1
    have ev : w (ρ q) = v := (nI_eq (by omega) (by omega)).mp (by rw [← w2]; exact e)
    rw [h]
    show _ = nI (cmpN (mvC k0 sd (ρ q)) v)
    unfold mvC
    by_cases e2 : sd (ρ q) = 2
    · rw [if_pos e2, if_pos e2, ev]
    · rw [if_neg e2, if_neg e2, (cmp_id v hv).1]; exact e
theorem okW_fn {n : Nat} {cT : Nat → Int32} (h : okW n cT) : ∃ w : Nat → Nat, ∀ p, p < n → w p < 24 ∧ cT p = nI (w p) := by
  have hx : ∀ p, ∃ v, p < n → v < 24 ∧ cT p = nI v := by
    intro p
    by_cases hp : p < n
    · obtain ⟨v, h1, h2⟩ := h p hp; exact ⟨v, fun _ => ⟨h1, h2⟩⟩
    · exact ⟨0, fun h => absurd h hp⟩
  exact Classical.skolem.mp hx
/-- the step of the class for a planned move -/
def StX (n k0 : Nat) (nP : Int32) (tg : Nat → Int32) (ρ c : Nat → Nat) : Prop := ∀ sO sP tG cO cT : Nat → Int32, (∀ p, p < n → tG p = tg p) → okW n cT → ∃ sO' sP' cO' cT', f_X_turnByTargets nP sO sP tG cO cT (nI k0) = some (sO', sP', cO', cT') ∧ PB n ρ c cO cT cO' cT'
/-- the step of the reference for a planned move -/
def StM (n i : Nat) (vp : Int32) (ca : Nat → Int32) (tg : Nat → Int32) (ρ c : Nat → Nat) : Prop := ∀ sl, sl < 14 → ∀ ct : Nat → Int32, (∀ p, p < n → ct (60 * sl + p) = tg p) → ∀ (a : Int32 × Int32 × Int32) (cwas cways nW nY : Nat → Int32), okW n cways → ∃ (c' : Int32 × Int32 × Int32) (was' ways' nW' nY' : Nat → Int32), f_M_turnOnce vp a.1 a.2.1 a.2.2 ca cwas cways nW nY ct (nI sl) (nI i) = some (c'.1, c'.2.1, c'.2.2, was', ways', nW', nY') ∧ PB n ρ c cwas cways was' ways'
theorem law_ij {n m a i j : Nat} {nP vp nQ vq nA va : Int32} {bX bY bZ bA bB bC bD cx cy cz pl ca sT : Nat → Int32} {bS : Nat → Int64} (hP : RelP n nP bX bY bZ vp cx cy cz) (hQ : RelQ m nQ bA bB bC bD vq pl) (hS : RelS n m bS cx cy cz pl) (hA : RelA a nA sT va ca) (hi : i < a) (hj : j < m) : ∃ (k0 r : Nat) (T : Nat → Nat) (F : Nat → Int32 × Int32 × Int32), k0 < 24 ∧ sT i = nI k0 ∧ r ≤ n ∧
    (∀ tG, ∃ tG', f_X_findTargets nP bX bY bZ bS sT tG (nI i) (nI j) = some (if r < n then nI r else -1, tG') ∧ (¬ r < n → ∀ p, p < n → tG' p = tgv (fun p => sdN cx cy cz pl p j) T p)) ∧
    (∀ a0 : Int32 × Int32 × Int32, ∃ c0 : Int32 × Int32 × Int32, f_M_blocked vp a0.1 a0.2.1 a0.2.2 cx cy cz pl ca (nI i) (nI j) = some (if r < n then nI (r + 1) else 0, c0)) ∧
    (∀ p, p < n → ∀ x y z, f_M_imageOf vp x y z cx cy cz ca (nI i) (nI p) = some (if T p < n then nI (T p) else -1, F p)) ∧
    (∀ p q, p < n → q < n → T p < n → T p = T q → p = q) ∧
    (¬ r < n → Gate n (fun p => sdN cx cy cz pl p j) T ∧
      (∀ sl, sl < 14 → ∀ (a0 : Int32 × Int32 × Int32) (ct : Nat → Int32), ∃ c0 : Int32 × Int32 × Int32, f_M_plan vp a0.1 a0.2.1 a0.2.2 cx cy cz pl ca ct (nI sl) (nI i) (nI j) = some (c0.1, c0.2.1, c0.2.2, cpyTo ct (60 * sl) (tgv (fun p => sdN cx cy cz pl p j) T) n)) ∧
      ∃ ρ c, okM n ρ c ∧ StX n k0 nP (tgv (fun p => sdN cx cy cz pl p j) T) ρ c ∧ StM n i vp ca (tgv (fun p => sdN cx cy cz pl p j) T) ρ c) := by
  obtain ⟨eP, eV, hn, hpt, hd⟩ := id hP
  obtain ⟨eQ, eY, hm, hq⟩ := id hQ
  obtain ⟨eA, eW, ha, hax⟩ := id hA
  obtain ⟨k0, g, T, es, hg, hT, hI⟩ := img_fn hP hA hi
  have hsd : ∀ p, (fun p => sdN cx cy cz pl p j) p < 3 := fun p => sdN_lt _ _ _ _ _ _
  have hBx : ∀ p, p < n → f_B_sideOf bS (nI p) (nI j) = some (nI ((fun p => sdN cx cy cz pl p j) p)) := fun p hp => fB_sideOf (s := sdN cx cy cz pl p) (by omega) hj hm (fun q => sdN_lt _ _ _ _ _ _) (hS.1 p hp)
  have hBm : ∀ p, p < n → f_M_sideOf cx cy cz pl (nI p) (nI j) = some (nI ((fun p => sdN cx cy cz pl p j) p)) := fun p hp => fM_sideOf (by omega) (by omega) _ _ _ _
  have hT1 : ∀ p, p < n → T p ≤ n := fun p hp => (hT p hp).1
  have hIn : ∀ p q, p < n → q < n → T p < n → T p = T q → p = q := fun p q hp hq2 h1 e => img_inj hP hg hT hp hq2 h1 e
  generalize hsdd : (fun p => sdN cx cy cz pl p j) = sd at hsd hBx hBm
  have hdec : DecidablePred (badP n sd T) := fun p => Classical.propDecidable _
  obtain ⟨r, r1, r2, r3⟩ := least_ex (badP n sd T) n
  obtain ⟨x1, x2, x3, xz, xs⟩ := hax i hi
  refine ⟨k0, r, T, fun p => g (cx p) (cy p) (cz p), hg.1, es, r1, fun tG => ?_, fun a0 => ?_, fun p hp => (hI p hp).2, hIn, fun hr => ?_⟩
  · refine ⟨_, fX_find hn (by omega) eP es hsd hT1 hBx (fun p hp => (hI p hp).1) r1 r2 r3 tG, fun hr p hp => ?_⟩
    rw [if_neg hr]
    exact cpy0_in hp
  · exact ⟨_, fM_block hn eV hsd hT1 hBm (fun p hp => (hI p hp).2) r1 r2 r3 a0⟩
  · have hG : Gate n sd T := by
      intro p hp e
      apply Classical.byContradiction
      intro hno
      exact r2 p (by omega) ⟨e, hno⟩
    obtain ⟨ρ, c, hok, hpb⟩ := gate_pb hg.1 hG hIn
    refine ⟨hG, fun sl hsl a0 ct => fM_plan hn hsl eV hsd hBm (fun p hp => (hI p hp).2) hG a0 ct, ρ, c, hok, ?_, ?_⟩
    · intro sO sP tG cO cT htg hw
      obtain ⟨w, hw2⟩ := okW_fn hw
      exact ⟨_, _, _, _, fX_tbt hn hg.1 eP hG sO sP htg hw2, hpb cO cT w hw2⟩
    · intro sl hsl ct hct a0 cwas cways nW nY hw
      obtain ⟨w, hw2⟩ := okW_fn hw
      have hx : ∀ p, ∃ s : Int32 × Int32 × Int32, p < n → ∀ a b c, f_M_wayBehind a b c ca (nI i) (cways p) = some (nI (cmpN k0 (w p)), s) := by
        intro p
        by_cases hp : p < n
        · obtain ⟨s, hs⟩ := fM_wbc (show i < 13 by omega) (hw2 p hp).1 x1 x2 x3 xz hg
          exact ⟨s, fun _ a b c => by rw [(hw2 p hp).2]; exact hs a b c⟩
        · exact ⟨(0, 0, 0), fun h => absurd h hp⟩
      obtain ⟨S, hSS⟩ := Classical.skolem.mp hx
      obtain ⟨c', was', ways', nW', nY', e1, e2⟩ := fM_once (cwas := cwas) hn hsl eV hG hct S hSS a0 nW nY
      refine ⟨c', was', ways', nW', nY', e1, fun q hq2 => ?_⟩
      rw [(e2 q hq2).1, (e2 q hq2).2]
      exact hpb cwas cways w hw2 q hq2

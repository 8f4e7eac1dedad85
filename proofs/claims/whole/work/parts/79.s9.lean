theorem turn_sim {n i k0 N : Nat} (hi : i < 13) (hN : N ≤ 12) {nA nP nQ vp vq va : Int32} {bX bY bZ cx cy cz pl ca sT tG ct : Nat → Int32} {bS : Nat → Int64} {tg : Nat → Int32} {ρ c : Nat → Nat} (hok : okM n ρ c) (es : sT i = nI k0) (hX : StX n k0 nP tg ρ c) (hM : StM n i vp ca tg ρ c) (htg : ∀ p, p < n → tG p = tg p) (hct : ∀ p, p < n → ct p = tg p) : ∀ d t, t + d = N → ∀ fuel, d < fuel → ∀ (nO nT sO sP : Nat → Int32) (a : Int32 × Int32 × Int32) (cwas cways nW nY : Nat → Int32), RelC n nO nT cwas cways → ∃ (nO' nT' sO' sP' : Nat → Int32) (c' : Int32 × Int32 × Int32) (was' ways' nW' nY' : Nat → Int32), oLoop5 (f_X_turn_L54 nA nP nQ bX bY bZ bS sT (nI i) (nI N) tG) fuel (nI t) nO nT sO sP = some (0, nO', nT', sO', sP', tG) ∧ oLoop8 (f_M_turn_L60 vp vq va cx cy cz pl ca (nI i) (nI N) 0 ct) fuel (nI t) a.1 a.2.1 a.2.2 cwas cways nW nY = some (0, 0, c'.1, c'.2.1, c'.2.2, was', ways', nW', nY', ct) ∧ RelC n nO' nT' was' ways' := by
  intro d
  induction d with
  | zero =>
    intro t ht fuel hf nO nT sO sP a cwas cways nW nY hC
    obtain ⟨g, rfl⟩ : ∃ g, fuel = g + 1 := ⟨fuel - 1, by omega⟩
    refine ⟨nO, nT, sO, sP, a, cwas, cways, nW, nY, ?_, ?_, hC⟩
    · show f_X_turn_L54 _ _ _ _ _ _ _ _ _ _ _ _ _ _ _ _ _ = _
      simp only [f_X_turn_L54]
      rw [if_pos (nI_le (by omega) (by omega))]
    · show f_M_turn_L60 _ _ _ _ _ _ _ _ _ _ _ _ _ _ _ _ _ _ _ _ _ = _
      simp only [f_M_turn_L60]
      rw [if_pos (nI_le (by omega) (by omega))]
  | succ d ih =>
    intro t ht fuel hf nO nT sO sP a cwas cways nW nY hC
    obtain ⟨g, rfl⟩ : ∃ g, fuel = g + 1 := ⟨fuel - 1, by omega⟩
    obtain ⟨w1, w2⟩ := relC_okW hC
    obtain ⟨sO1, sP1, nO1, nT1, e1, p1⟩ := hX sO sP tG nO nT htg w1
    obtain ⟨c1, was1, ways1, nW1, nY1, e2, p2⟩ := hM 0 (by omega) ct (fun p hp => by rw [Nat.mul_zero, Nat.zero_add]; exact hct p hp) a cwas cways nW nY w2
    obtain ⟨nO', nT', sO', sP', c', was', ways', nW', nY', r1, r2, r3⟩ := ih (t + 1) (by omega) g (by omega) nO1 nT1 sO1 sP1 c1 was1 ways1 nW1 nY1 (pb_relC hok hC p1 p2)
    refine ⟨nO', nT', sO', sP', c', was', ways', nW', nY', ?_, ?_, r3⟩
    · show f_X_turn_L54 _ _ _ _ _ _ _ _ _ _ _ _ _ _ _ _ _ = _
      simp only [f_X_turn_L54]
      rw [if_neg (nI_ge (by omega) (by omega)), oIn_n hi (by omega), nI_clamp (by omega), es, e1]
      simp only [oCall4_t, oLet_t]
      rw [nI_1]
      exact r1
    · show f_M_turn_L60 _ _ _ _ _ _ _ _ _ _ _ _ _ _ _ _ _ _ _ _ _ = _
      simp only [f_M_turn_L60]
      rw [show (0 : Int32) = nI 0 from rfl, if_neg (nI_ge (by omega) (by omega)), e2]
      simp only [oCall7_t, oLet_t]
      rw [nI_1]
      exact r2

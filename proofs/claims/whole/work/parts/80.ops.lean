set_option maxHeartbeats 4000000 in
theorem op_at {k : Nat} {nA nK nP nQ : Int32} {bX bY bZ bA bB bC bD : Nat → Int32} {bS : Nat → Int64} {sT nO nT kQ : Nat → Int32} {KO KT : Nat → Nat → Int32} {vpoints vplanes vaxes vkept : Int32} {cpx cpy cpz cplane caxis cwas cways ckeptWas ckeptWays ckeptPoints : Nat → Int32} (hR : Rel k nA nK nP nQ bX bY bZ bA bB bC bD bS sT nO nT kQ KO KT vpoints vplanes vaxes vkept cpx cpy cpz cplane caxis cwas cways ckeptWas ckeptWays ckeptPoints) (vthrown : Int32) (x1 : Int32) : ∃ (r : Int32) (p_vthrown : Int32), f_X_at nP nO x1 = some r ∧ f_M_at vthrown vpoints cwas x1 = some (r, p_vthrown) ∧ Rel k nA nK nP nQ bX bY bZ bA bB bC bD bS sT nO nT kQ KO KT vpoints vplanes vaxes vkept cpx cpy cpz cplane caxis cwas cways ckeptWas ckeptWays ckeptPoints := by
  obtain ⟨n, m, a, hP, hQ, hS, hA, hC, hK⟩ := id hR
  obtain ⟨eP, eV, hn, -, -⟩ := hP
  rcases ix_cases x1 (n := n) (by omega) with h | ⟨h0, h⟩ | ⟨i, hi, e, h0, h⟩
  · exact ⟨-1, 0, by simp [f_X_at, f_B_hasPoint, eP, h, oCall1_t], by simp [f_M_at, f_M_isPoint, eV, h, oCall1_t], hR⟩
  · exact ⟨-1, 0, by simp [f_X_at, f_B_hasPoint, eP, h0, h, oCall1_t], by simp [f_M_at, f_M_isPoint, eV, h0, h, oCall1_t], hR⟩
  · exact ⟨cwas i, 0, by simp [f_X_at, f_B_hasPoint, eP, h0, h, oCall1_t]; rw [e, oIn_n (by omega) (by omega), nI_clamp (by omega), (hC.1 i hi).1], by simp [f_M_at, f_M_isPoint, eV, h0, h, oCall1_t]; rw [e, oIn_n (by omega) (by omega), nI_clamp (by omega)], hR⟩
set_option maxHeartbeats 4000000 in
theorem op_way {k : Nat} {nA nK nP nQ : Int32} {bX bY bZ bA bB bC bD : Nat → Int32} {bS : Nat → Int64} {sT nO nT kQ : Nat → Int32} {KO KT : Nat → Nat → Int32} {vpoints vplanes vaxes vkept : Int32} {cpx cpy cpz cplane caxis cwas cways ckeptWas ckeptWays ckeptPoints : Nat → Int32} (hR : Rel k nA nK nP nQ bX bY bZ bA bB bC bD bS sT nO nT kQ KO KT vpoints vplanes vaxes vkept cpx cpy cpz cplane caxis cwas cways ckeptWas ckeptWays ckeptPoints) (vthrown : Int32) (x1 : Int32) : ∃ (r : Int32) (p_vthrown : Int32), f_X_way nP nT x1 = some r ∧ f_M_way vthrown vpoints cways x1 = some (r, p_vthrown) ∧ Rel k nA nK nP nQ bX bY bZ bA bB bC bD bS sT nO nT kQ KO KT vpoints vplanes vaxes vkept cpx cpy cpz cplane caxis cwas cways ckeptWas ckeptWays ckeptPoints := by
  obtain ⟨n, m, a, hP, hQ, hS, hA, hC, hK⟩ := id hR
  obtain ⟨eP, eV, hn, -, -⟩ := hP
  rcases ix_cases x1 (n := n) (by omega) with h | ⟨h0, h⟩ | ⟨i, hi, e, h0, h⟩
  · exact ⟨-1, 0, by simp [f_X_way, f_B_hasPoint, eP, h, oCall1_t], by simp [f_M_way, f_M_isPoint, eV, h, oCall1_t], hR⟩
  · exact ⟨-1, 0, by simp [f_X_way, f_B_hasPoint, eP, h0, h, oCall1_t], by simp [f_M_way, f_M_isPoint, eV, h0, h, oCall1_t], hR⟩
  · exact ⟨cways i, 0, by simp [f_X_way, f_B_hasPoint, eP, h0, h, oCall1_t]; rw [e, oIn_n (by omega) (by omega), nI_clamp (by omega), (hC.1 i hi).2.1], by simp [f_M_way, f_M_isPoint, eV, h0, h, oCall1_t]; rw [e, oIn_n (by omega) (by omega), nI_clamp (by omega)], hR⟩
set_option maxHeartbeats 4000000 in
theorem op_home {k : Nat} {nA nK nP nQ : Int32} {bX bY bZ bA bB bC bD : Nat → Int32} {bS : Nat → Int64} {sT nO nT kQ : Nat → Int32} {KO KT : Nat → Nat → Int32} {vpoints vplanes vaxes vkept : Int32} {cpx cpy cpz cplane caxis cwas cways ckeptWas ckeptWays ckeptPoints : Nat → Int32} (hR : Rel k nA nK nP nQ bX bY bZ bA bB bC bD bS sT nO nT kQ KO KT vpoints vplanes vaxes vkept cpx cpy cpz cplane caxis cwas cways ckeptWas ckeptWays ckeptPoints) (vthrown : Int32) : ∃ (r : Int32) (p_vthrown : Int32), f_X_home nP nO nT = some r ∧ f_M_home vthrown vpoints cwas cways = some (r, p_vthrown) ∧ Rel k nA nK nP nQ bX bY bZ bA bB bC bD bS sT nO nT kQ KO KT vpoints vplanes vaxes vkept cpx cpy cpz cplane caxis cwas cways ckeptWas ckeptWays ckeptPoints := by
  obtain ⟨n, m, a, hP, hQ, hS, hA, hC, hK⟩ := id hR
  obtain ⟨eP, eV, hn, -, -⟩ := hP
  refine ⟨_, 0, by rw [eP]; exact fX_home hn nO nT, ?_, hR⟩
  rw [eV, fM_home hn]
  congr 2
  congr 1
  exact cntN_congr (fun i hi => by rw [(hC.1 i hi).1, (hC.1 i hi).2.1])
set_option maxHeartbeats 4000000 in
theorem op_order {k : Nat} {nA nK nP nQ : Int32} {bX bY bZ bA bB bC bD : Nat → Int32} {bS : Nat → Int64} {sT nO nT kQ : Nat → Int32} {KO KT : Nat → Nat → Int32} {vpoints vplanes vaxes vkept : Int32} {cpx cpy cpz cplane caxis cwas cways ckeptWas ckeptWays ckeptPoints : Nat → Int32} (hR : Rel k nA nK nP nQ bX bY bZ bA bB bC bD bS sT nO nT kQ KO KT vpoints vplanes vaxes vkept cpx cpy cpz cplane caxis cwas cways ckeptWas ckeptWays ckeptPoints) (vthrown : Int32) (x1 : Int32) : ∃ (r : Int32) (p_vthrown : Int32), f_X_order nA sT x1 = some r ∧ f_M_order vthrown vaxes caxis x1 = some (r, p_vthrown) ∧ Rel k nA nK nP nQ bX bY bZ bA bB bC bD bS sT nO nT kQ KO KT vpoints vplanes vaxes vkept cpx cpy cpz cplane caxis cwas cways ckeptWas ckeptWays ckeptPoints := by
  obtain ⟨n, m, a, hP, hQ, hS, hA, hC, hK⟩ := id hR
  obtain ⟨eA, eV, ha, hax⟩ := hA
  rcases ix_cases x1 (n := a) (by omega) with h | ⟨h0, h⟩ | ⟨i, hi, e, h0, h⟩
  · exact ⟨0, 0, by simp [f_X_order, f_X_hasAxis, eA, h, oCall1_t], by simp [f_M_order, f_M_isAxis, eV, h, oCall1_t], hR⟩
  · exact ⟨0, 0, by simp [f_X_order, f_X_hasAxis, eA, h0, h, oCall1_t], by simp [f_M_order, f_M_isAxis, eV, h0, h, oCall1_t], hR⟩
  · obtain ⟨a1, a2, a3, hz, hst⟩ := hax i hi
    obtain ⟨k0, hk0, e1, e2⟩ := ax_tab _ (arr_L3 a1) _ (arr_L3 a2) _ (arr_L3 a3) hz
    have es : sT i = nI k0 := Option.some.inj (hst.symm.trans e1)
    refine ⟨ordV (caxis (3 * i)) (caxis (3 * i + 1)) (caxis (3 * i + 2)), 0, ?_, ?_, hR⟩
    · simp [f_X_order, f_X_hasAxis, eA, h0, h, oCall1_t]
      rw [e, oIn_n (by omega) (by omega), nI_clamp (by omega), es, e2]
      rfl
    · simp [f_M_order, f_M_isAxis, eV, h0, h, oCall1_t]
      rw [e, fM_kind (by omega), oCall1_t, oCall1_t, kind_V]
      unfold ordV
      generalize (if caxis (3 * i) = 0 then (0 : Int32) else 1) + (if caxis (3 * i + 1) = 0 then 0 else 1) + (if caxis (3 * i + 2) = 0 then 0 else 1) = q
      by_cases q1 : q = 1
      · rw [if_pos q1, if_pos q1]
      · rw [if_neg q1, if_neg q1]
        by_cases q2 : q = 2
        · rw [if_pos q2, if_pos q2]
        · rw [if_neg q2, if_neg q2]
set_option maxHeartbeats 4000000 in
theorem op_side {k : Nat} {nA nK nP nQ : Int32} {bX bY bZ bA bB bC bD : Nat → Int32} {bS : Nat → Int64} {sT nO nT kQ : Nat → Int32} {KO KT : Nat → Nat → Int32} {vpoints vplanes vaxes vkept : Int32} {cpx cpy cpz cplane caxis cwas cways ckeptWas ckeptWays ckeptPoints : Nat → Int32} (hR : Rel k nA nK nP nQ bX bY bZ bA bB bC bD bS sT nO nT kQ KO KT vpoints vplanes vaxes vkept cpx cpy cpz cplane caxis cwas cways ckeptWas ckeptWays ckeptPoints) (vthrown : Int32) (x1 : Int32) (x2 : Int32) : ∃ (r : Int32) (p_vthrown : Int32), f_X_side nP nQ bS x1 x2 = some r ∧ f_M_side vthrown vpoints vplanes cpx cpy cpz cplane x1 x2 = some (r, p_vthrown) ∧ Rel k nA nK nP nQ bX bY bZ bA bB bC bD bS sT nO nT kQ KO KT vpoints vplanes vaxes vkept cpx cpy cpz cplane caxis cwas cways ckeptWas ckeptWays ckeptPoints := by
  obtain ⟨n, m, a, hP, hQ, hS, hA, hC, hK⟩ := id hR
  obtain ⟨eP, eV, hn, -, -⟩ := hP
  obtain ⟨eQ, eW, hm, -⟩ := hQ
  rcases ix_cases x1 (n := n) (by omega) with h | ⟨h0, h⟩ | ⟨i, hi, e, h0, h⟩
  · exact ⟨-1, 0, by simp [f_X_side, f_B_hasPoint, eP, h, oCall1_t], by simp [f_M_side, f_M_isPoint, eV, h, oCall1_t], hR⟩
  · exact ⟨-1, 0, by simp [f_X_side, f_B_hasPoint, eP, h0, h, oCall1_t], by simp [f_M_side, f_M_isPoint, eV, h0, h, oCall1_t], hR⟩
  · rcases ix_cases x2 (n := m) (by omega) with g | ⟨g0, g⟩ | ⟨j, hj, e2, g0, g⟩
    · exact ⟨-1, 0, by simp [f_X_side, f_B_hasPoint, f_B_hasPlane, eP, eQ, h0, h, g, oCall1_t], by simp [f_M_side, f_M_isPoint, f_M_isPlane, eV, eW, h0, h, g, oCall1_t], hR⟩
    · exact ⟨-1, 0, by simp [f_X_side, f_B_hasPoint, f_B_hasPlane, eP, eQ, h0, h, g0, g, oCall1_t], by simp [f_M_side, f_M_isPoint, f_M_isPlane, eV, eW, h0, h, g0, g, oCall1_t], hR⟩
    · refine ⟨nI (sdN cpx cpy cpz cplane i j), 0, ?_, ?_, hR⟩
      · simp [f_X_side, f_B_hasPoint, f_B_hasPlane, eP, eQ, h0, h, g0, g, oCall1_t]
        rw [e, e2, fB_sideOf (by omega) hj hm (sdN_lt cpx cpy cpz cplane i) (hS.1 i hi)]
        rfl
      · simp [f_M_side, f_M_isPoint, f_M_isPlane, eV, eW, h0, h, g0, g, oCall1_t]
        rw [e, e2, fM_sideOf (by omega) (by omega)]
        rfl
set_option maxHeartbeats 4000000 in
theorem op_axis {k : Nat} {nA nK nP nQ : Int32} {bX bY bZ bA bB bC bD : Nat → Int32} {bS : Nat → Int64} {sT nO nT kQ : Nat → Int32} {KO KT : Nat → Nat → Int32} {vpoints vplanes vaxes vkept : Int32} {cpx cpy cpz cplane caxis cwas cways ckeptWas ckeptWays ckeptPoints : Nat → Int32} (hR : Rel k nA nK nP nQ bX bY bZ bA bB bC bD bS sT nO nT kQ KO KT vpoints vplanes vaxes vkept cpx cpy cpz cplane caxis cwas cways ckeptWas ckeptWays ckeptPoints) (vthrown : Int32) (x1 : Int32) (x2 : Int32) (x3 : Int32) : ∃ (r : Int32) (o_nA : Int32) (o_sT : Nat → Int32) (p_vthrown : Int32) (p_vaxes : Int32) (p_caxis : Nat → Int32), f_X_axis nA sT x1 x2 x3 = some (r, o_nA, o_sT) ∧ f_M_axis vthrown vaxes caxis x1 x2 x3 = some (r, p_vthrown, p_vaxes, p_caxis) ∧ Rel k o_nA nK nP nQ bX bY bZ bA bB bC bD bS o_sT nO nT kQ KO KT vpoints vplanes p_vaxes vkept cpx cpy cpz cplane p_caxis cwas cways ckeptWas ckeptWays ckeptPoints := by
  obtain ⟨n, m, a, hP, hQ, hS, hA, hC, hK⟩ := id hR
  obtain ⟨eA, eV, ha, hax⟩ := hA
  by_cases h1 : x1 < -1 ∨ 1 < x1
  · exact ⟨-1, nA, sT, 0, vaxes, caxis, by simp [f_X_axis, wi_bad h1, oCall1_t], by simp [f_M_axis, ia_bad h1, oCall1_t], hR⟩
  have w1 := wi_ok (k := 1) (fun h => h1 (Or.inl h)) (fun h => h1 (Or.inr h))
  have i1 := ia_ok (fun h => h1 (Or.inl h)) (fun h => h1 (Or.inr h))
  by_cases h2 : x2 < -1 ∨ 1 < x2
  · exact ⟨-1, nA, sT, 0, vaxes, caxis, by simp [f_X_axis, w1, wi_bad h2, oCall1_t], by simp [f_M_axis, i1, ia_bad h2, oCall1_t], hR⟩
  have w2 := wi_ok (k := 1) (fun h => h2 (Or.inl h)) (fun h => h2 (Or.inr h))
  have i2 := ia_ok (fun h => h2 (Or.inl h)) (fun h => h2 (Or.inr h))
  by_cases h3 : x3 < -1 ∨ 1 < x3
  · exact ⟨-1, nA, sT, 0, vaxes, caxis, by simp [f_X_axis, w1, w2, wi_bad h3, oCall1_t], by simp [f_M_axis, i1, i2, ia_bad h3, oCall1_t], hR⟩
  have w3 := wi_ok (k := 1) (fun h => h3 (Or.inl h)) (fun h => h3 (Or.inr h))
  have i3 := ia_ok (fun h => h3 (Or.inl h)) (fun h => h3 (Or.inr h))
  by_cases hz : x1 = 0 ∧ x2 = 0 ∧ x3 = 0
  · exact ⟨-1, nA, sT, 0, vaxes, caxis, by simp only [f_X_axis, w1, w2, w3, oCall1_t]; simp [hz.1, hz.2.1, hz.2.2], by simp only [f_M_axis, i1, i2, i3, oCall1_t]; simp [hz.1, hz.2.1, hz.2.2], hR⟩
  by_cases hf : a = 13
  · have c1 : ¬ nI a < 13 := by rw [hf]; decide
    have c2 : nI a = 13 := by rw [hf]; rfl
    refine ⟨-1, nA, sT, 0, vaxes, caxis, ?_, ?_, hR⟩
    · simp only [f_X_axis, w1, w2, w3, oCall1_t, f_X_axis_J38, eA, if_neg c1]
      simp
    · simp only [f_M_axis, i1, i2, i3, oCall1_t, f_M_axis_J38, eV, if_pos c2]
      simp
  · have q1 := arr_of (fun h => h1 (Or.inl h)) (fun h => h1 (Or.inr h))
    have q2 := arr_of (fun h => h2 (Or.inl h)) (fun h => h2 (Or.inr h))
    have q3 := arr_of (fun h => h3 (Or.inl h)) (fun h => h3 (Or.inr h))
    obtain ⟨k0, hk0, e1, e2⟩ := ax_tab _ (arr_L3 q1) _ (arr_L3 q2) _ (arr_L3 q3) hz
    refine ⟨nI a, nI (a + 1), upd sT a (nI k0), 0, nI (a + 1), upd (upd (upd caxis (3 * a) x1) (3 * a + 1) x2) (3 * a + 2) x3, ?_, ?_, n, m, a + 1, hP, hQ, hS, ?_, hC, hK⟩
    · rw [eA]; exact fX_axis_go (by omega) sT h1 h2 h3 hz e1
    · rw [eV]; exact fM_axis_go (by omega) vthrown caxis h1 h2 h3 hz
    · refine ⟨rfl, rfl, by omega, fun i hi => ?_⟩
      by_cases hia : i = a
      · subst hia
        have u0 : upd (upd (upd caxis (3 * i) x1) (3 * i + 1) x2) (3 * i + 2) x3 (3 * i) = x1 := by
          rw [upd_at, if_neg (by omega), upd_at, if_neg (by omega), upd_at, if_pos rfl]
        have u1 : upd (upd (upd caxis (3 * i) x1) (3 * i + 1) x2) (3 * i + 2) x3 (3 * i + 1) = x2 := by
          rw [upd_at, if_neg (by omega), upd_at, if_pos rfl]
        have u2 : upd (upd (upd caxis (3 * i) x1) (3 * i + 1) x2) (3 * i + 2) x3 (3 * i + 2) = x3 := by
          rw [upd_at, if_pos rfl]
        rw [u0, u1, u2, upd_at, if_pos rfl]
        exact ⟨q1, q2, q3, hz, e1⟩
      · have hlt : i < a := by omega
        have u : ∀ j, j < 3 * a → upd (upd (upd caxis (3 * a) x1) (3 * a + 1) x2) (3 * a + 2) x3 j = caxis j := fun j hj => by
          rw [upd_at, if_neg (by omega), upd_at, if_neg (by omega), upd_at, if_neg (by omega)]
        rw [u _ (by omega), u _ (by omega), u _ (by omega), upd_at, if_neg (by omega)]
        exact hax i hlt
set_option maxHeartbeats 4000000 in
theorem op_ix {k : Nat} {nA nK nP nQ : Int32} {bX bY bZ bA bB bC bD : Nat → Int32} {bS : Nat → Int64} {sT nO nT kQ : Nat → Int32} {KO KT : Nat → Nat → Int32} {vpoints vplanes vaxes vkept : Int32} {cpx cpy cpz cplane caxis cwas cways ckeptWas ckeptWays ckeptPoints : Nat → Int32} (hR : Rel k nA nK nP nQ bX bY bZ bA bB bC bD bS sT nO nT kQ KO KT vpoints vplanes vaxes vkept cpx cpy cpz cplane caxis cwas cways ckeptWas ckeptWays ckeptPoints) {x1 : Int32} (h1 : ¬ x1 < 0) (h2 : x1 < nK) : x1.toNatClampNeg < k := by
  obtain ⟨n, m, a, hP, hQ, hS, hA, hC, hK⟩ := hR
  obtain ⟨j, hj, e⟩ := nI_of h1
  rw [e, hK.1, nI_ltI hj (by have := hK.2.2.1; omega)] at h2
  rw [e, nI_clamp hj]
  exact h2
set_option maxHeartbeats 4000000 in
theorem op_keep_no {k : Nat} {nA nK nP nQ : Int32} {bX bY bZ bA bB bC bD : Nat → Int32} {bS : Nat → Int64} {sT nO nT kQ : Nat → Int32} {KO KT : Nat → Nat → Int32} {vpoints vplanes vaxes vkept : Int32} {cpx cpy cpz cplane caxis cwas cways ckeptWas ckeptWays ckeptPoints : Nat → Int32} (hR : Rel k nA nK nP nQ bX bY bZ bA bB bC bD bS sT nO nT kQ KO KT vpoints vplanes vaxes vkept cpx cpy cpz cplane caxis cwas cways ckeptWas ckeptWays ckeptPoints) (h6 : ¬ nK < 10) (vthrown : Int32) : ∃ (r : Int32) (p_vthrown : Int32) (p_vkept : Int32) (p_ckeptWas : Nat → Int32) (p_ckeptWays : Nat → Int32) (p_ckeptPoints : Nat → Int32), f_X_keep_no nK = some r ∧ f_M_keep vthrown vpoints vkept cwas cways ckeptWas ckeptWays ckeptPoints = some (r, p_vthrown, p_vkept, p_ckeptWas, p_ckeptWays, p_ckeptPoints) ∧ Rel k nA nK nP nQ bX bY bZ bA bB bC bD bS sT nO nT kQ KO KT vpoints vplanes vaxes p_vkept cpx cpy cpz cplane caxis cwas cways p_ckeptWas p_ckeptWays p_ckeptPoints := by
  obtain ⟨n, m, a, hP, hQ, hS, hA, hC, hK⟩ := id hR
  obtain ⟨eK, eV, hk, hkk⟩ := hK
  have hk10 : k = 10 := by
    rcases Nat.lt_or_ge k 10 with h | h
    · exact absurd (by rw [eK]; exact nI_lt (b := 10) h (by omega)) h6
    · omega
  exact ⟨-1, 0, vkept, ckeptWas, ckeptWays, ckeptPoints, rfl, by simp [f_M_keep, eV, hk10, show nI 10 = 10 from rfl], hR⟩
set_option maxHeartbeats 4000000 in
theorem op_keep_yes {k : Nat} {nA nK nP nQ : Int32} {bX bY bZ bA bB bC bD : Nat → Int32} {bS : Nat → Int64} {sT nO nT kQ : Nat → Int32} {KO KT : Nat → Nat → Int32} {vpoints vplanes vaxes vkept : Int32} {cpx cpy cpz cplane caxis cwas cways ckeptWas ckeptWays ckeptPoints : Nat → Int32} (hR : Rel k nA nK nP nQ bX bY bZ bA bB bC bD bS sT nO nT kQ KO KT vpoints vplanes vaxes vkept cpx cpy cpz cplane caxis cwas cways ckeptWas ckeptWays ckeptPoints) (h6 : nK < 10) (vthrown : Int32) : nK.toNatClampNeg = k ∧ ∃ (r : Int32) (o_nK : Int32) (o_kQ o_O o_T : Nat → Int32) (p_vthrown : Int32) (p_vkept : Int32) (p_ckeptWas : Nat → Int32) (p_ckeptWays : Nat → Int32) (p_ckeptPoints : Nat → Int32), f_X_keep_yes nK nP nO nT kQ = some (r, o_nK, o_kQ, o_O, o_T) ∧ f_M_keep vthrown vpoints vkept cwas cways ckeptWas ckeptWays ckeptPoints = some (r, p_vthrown, p_vkept, p_ckeptWas, p_ckeptWays, p_ckeptPoints) ∧ Rel (k + 1) nA o_nK nP nQ bX bY bZ bA bB bC bD bS sT nO nT o_kQ (va_up KO k o_O) (va_up KT k o_T) vpoints vplanes vaxes p_vkept cpx cpy cpz cplane caxis cwas cways p_ckeptWas p_ckeptWays p_ckeptPoints := by
  obtain ⟨n, m, a, hP, hQ, hS, hA, hC, hK⟩ := id hR
  obtain ⟨eK, eV, hk, hkk⟩ := hK
  obtain ⟨eP, eW, hn, hpt, hdi⟩ := id hP
  have hk10 : k < 10 := by
    rw [eK] at h6
    exact (nI_ltI (b := 10) (by omega) (by omega)).mp h6
  refine ⟨by rw [eK]; exact nI_clamp (by omega), nI k, nI (k + 1), upd kQ k (nI n), va_cpy nO (cpyTo (fun _ => 0) 0 nI 60) 0 0 60, va_cpy nT (fun _ => 0) 0 0 60, 0, nI (k + 1), cpyTo ckeptWas (60 * k) cwas n, cpyTo ckeptWays (60 * k) cways n, upd ckeptPoints k (nI n), ?_, ?_, n, m, a, hP, hQ, hS, hA, hC, rfl, rfl, by omega, fun j hj => ?_⟩
  · simp only [f_X_keep_yes, fC_init, oCall2_t, f_C_copyFrom, oLet_t, eK, eP, oIn_n hk10 (show 10 < 2 ^ 31 by omega), nI_clamp (show k < 2 ^ 31 by omega), nI_1, nIm1]
  · rw [eV, eW]; exact fM_keep_go hn hk10 _ _ _ _ _ _
  · by_cases hjk : j = k
    · subst hjk
      refine ⟨n, Nat.le_refl n, by rw [upd_at, if_pos rfl], by rw [upd_at, if_pos rfl], ?_⟩
      rw [va_up_self, va_up_self]
      refine relC_grow hC (fun p hp => ⟨?_, ?_, cpyTo_in hp, cpyTo_in hp⟩)
      · rw [pk_cpy_in (by omega) (by omega)]; simp
      · rw [pk_cpy_in (by omega) (by omega)]; simp
    · obtain ⟨c, hc, e1, e2, hcc⟩ := hkk j (by omega)
      refine ⟨c, hc, by rw [upd_at, if_neg hjk]; exact e1, by rw [upd_at, if_neg hjk]; exact e2, ?_⟩
      rw [va_up_ne _ _ hjk, va_up_ne _ _ hjk]
      exact relC_grow hcc (fun p hp => ⟨rfl, rfl, cpyTo_out (by omega), cpyTo_out (by omega)⟩)
set_option maxHeartbeats 4000000 in
theorem op_back_neg {k : Nat} {nA nK nP nQ : Int32} {bX bY bZ bA bB bC bD : Nat → Int32} {bS : Nat → Int64} {sT nO nT kQ : Nat → Int32} {KO KT : Nat → Nat → Int32} {vpoints vplanes vaxes vkept : Int32} {cpx cpy cpz cplane caxis cwas cways ckeptWas ckeptWays ckeptPoints : Nat → Int32} (hR : Rel k nA nK nP nQ bX bY bZ bA bB bC bD bS sT nO nT kQ KO KT vpoints vplanes vaxes vkept cpx cpy cpz cplane caxis cwas cways ckeptWas ckeptWays ckeptPoints) (vthrown : Int32) (x1 : Int32) (h1 : x1 < 0) : ∃ (r : Int32) (p_vthrown : Int32) (p_cwas : Nat → Int32) (p_cways : Nat → Int32), f_X_back_neg x1 = some r ∧ f_M_back vthrown vpoints vkept cwas cways ckeptWas ckeptWays ckeptPoints x1 = some (r, p_vthrown, p_cwas, p_cways) ∧ Rel k nA nK nP nQ bX bY bZ bA bB bC bD bS sT nO nT kQ KO KT vpoints vplanes vaxes vkept cpx cpy cpz cplane caxis p_cwas p_cways ckeptWas ckeptWays ckeptPoints := by
  exact ⟨0, 0, cwas, cways, rfl, by simp [f_M_back, h1], hR⟩
set_option maxHeartbeats 4000000 in
theorem op_back_big {k : Nat} {nA nK nP nQ : Int32} {bX bY bZ bA bB bC bD : Nat → Int32} {bS : Nat → Int64} {sT nO nT kQ : Nat → Int32} {KO KT : Nat → Nat → Int32} {vpoints vplanes vaxes vkept : Int32} {cpx cpy cpz cplane caxis cwas cways ckeptWas ckeptWays ckeptPoints : Nat → Int32} (hR : Rel k nA nK nP nQ bX bY bZ bA bB bC bD bS sT nO nT kQ KO KT vpoints vplanes vaxes vkept cpx cpy cpz cplane caxis cwas cways ckeptWas ckeptWays ckeptPoints) (vthrown : Int32) (x1 : Int32) (h1 : ¬ x1 < 0) (h2 : ¬ x1 < nK) : ∃ (r : Int32) (p_vthrown : Int32) (p_cwas : Nat → Int32) (p_cways : Nat → Int32), f_X_back_big nK x1 = some r ∧ f_M_back vthrown vpoints vkept cwas cways ckeptWas ckeptWays ckeptPoints x1 = some (r, p_vthrown, p_cwas, p_cways) ∧ Rel k nA nK nP nQ bX bY bZ bA bB bC bD bS sT nO nT kQ KO KT vpoints vplanes vaxes vkept cpx cpy cpz cplane caxis p_cwas p_cways ckeptWas ckeptWays ckeptPoints := by
  obtain ⟨n, m, a, hP, hQ, hS, hA, hC, hK⟩ := id hR
  obtain ⟨eK, eV, hk, hkk⟩ := hK
  exact ⟨0, 0, cwas, cways, rfl, by rw [eK] at h2; simp only [f_M_back, eV, if_neg h1, if_pos (Int32.not_lt.mp h2)], hR⟩
set_option maxHeartbeats 4000000 in
theorem op_back_came {k : Nat} {nA nK nP nQ : Int32} {bX bY bZ bA bB bC bD : Nat → Int32} {bS : Nat → Int64} {sT nO nT kQ : Nat → Int32} {KO KT : Nat → Nat → Int32} {vpoints vplanes vaxes vkept : Int32} {cpx cpy cpz cplane caxis cwas cways ckeptWas ckeptWays ckeptPoints : Nat → Int32} (hR : Rel k nA nK nP nQ bX bY bZ bA bB bC bD bS sT nO nT kQ KO KT vpoints vplanes vaxes vkept cpx cpy cpz cplane caxis cwas cways ckeptWas ckeptWays ckeptPoints) (vthrown : Int32) (x1 : Int32) (h1 : ¬ x1 < 0) (h2 : x1 < nK) (h3 : ¬ (kQ x1.toNatClampNeg) = nP) : ∃ (r : Int32) (p_vthrown : Int32) (p_cwas : Nat → Int32) (p_cways : Nat → Int32), f_X_back_came nK nP kQ x1 = some r ∧ f_M_back vthrown vpoints vkept cwas cways ckeptWas ckeptWays ckeptPoints x1 = some (r, p_vthrown, p_cwas, p_cways) ∧ Rel k nA nK nP nQ bX bY bZ bA bB bC bD bS sT nO nT kQ KO KT vpoints vplanes vaxes vkept cpx cpy cpz cplane caxis p_cwas p_cways ckeptWas ckeptWays ckeptPoints := by
  have hix := op_ix hR h1 h2
  obtain ⟨n, m, a, hP, hQ, hS, hA, hC, hK⟩ := id hR
  obtain ⟨eK, eV, hk, hkk⟩ := hK
  obtain ⟨eP, eW, hn, -, -⟩ := hP
  obtain ⟨j, hj, e⟩ := nI_of h1
  rw [e, nI_clamp hj] at hix
  rw [e, nI_clamp hj] at h3
  obtain ⟨c, hc, e1, e2, -⟩ := hkk j hix
  have hne : ¬ ckeptPoints j = nI n := fun q => h3 (by rw [e1, eP, ← q, e2])
  refine ⟨0, 0, cwas, cways, ?_, ?_, hR⟩
  · simp only [f_X_back_came, e, oIn_n (show j < 10 by omega) (show 10 < 2 ^ 31 by omega)]
  · simp only [f_M_back, e, eV, eW]
    rw [if_neg (nI_pos (by omega)), if_neg (nI_ge hix (by omega)), oIn_n (by omega) (by omega), nI_clamp (by omega), if_neg hne]
set_option maxHeartbeats 4000000 in
theorem op_back_yes {k : Nat} {nA nK nP nQ : Int32} {bX bY bZ bA bB bC bD : Nat → Int32} {bS : Nat → Int64} {sT nO nT kQ : Nat → Int32} {KO KT : Nat → Nat → Int32} {vpoints vplanes vaxes vkept : Int32} {cpx cpy cpz cplane caxis cwas cways ckeptWas ckeptWays ckeptPoints : Nat → Int32} (hR : Rel k nA nK nP nQ bX bY bZ bA bB bC bD bS sT nO nT kQ KO KT vpoints vplanes vaxes vkept cpx cpy cpz cplane caxis cwas cways ckeptWas ckeptWays ckeptPoints) (vthrown : Int32) (x1 : Int32) (h1 : ¬ x1 < 0) (h2 : x1 < nK) (h3 : (kQ x1.toNatClampNeg) = nP) : ∃ (r : Int32) (o_nO o_nT : Nat → Int32) (p_vthrown : Int32) (p_cwas : Nat → Int32) (p_cways : Nat → Int32), f_X_back_yes nK nP nO nT kQ (KO x1.toNatClampNeg) (KT x1.toNatClampNeg) x1 = some (r, o_nO, o_nT) ∧ f_M_back vthrown vpoints vkept cwas cways ckeptWas ckeptWays ckeptPoints x1 = some (r, p_vthrown, p_cwas, p_cways) ∧ Rel k nA nK nP nQ bX bY bZ bA bB bC bD bS sT o_nO o_nT kQ KO KT vpoints vplanes vaxes vkept cpx cpy cpz cplane caxis p_cwas p_cways ckeptWas ckeptWays ckeptPoints := by
  have hix := op_ix hR h1 h2
  obtain ⟨n, m, a, hP, hQ, hS, hA, hC, hK⟩ := id hR
  obtain ⟨eK, eV, hk, hkk⟩ := id hK
  obtain ⟨eP, eW, hn, -, -⟩ := id hP
  obtain ⟨j, hj, e⟩ := nI_of h1
  subst e
  rw [nI_clamp hj] at hix h3 ⊢
  obtain ⟨c, hc, e1, e2, hcc⟩ := hkk j hix
  have ec : c = n := by
    rw [e1, eP] at h3
    exact (nI_eq (by omega) (by omega)).mp h3
  subst ec
  refine ⟨1, va_cpy (KO j) nO 0 0 60, va_cpy (KT j) nT 0 0 60, 0, cpyTo cwas 0 (fun p => ckeptWas (60 * j + p)) c, cpyTo cways 0 (fun p => ckeptWays (60 * j + p)) c, ?_, ?_, c, m, a, hP, hQ, hS, hA, ?_, hK⟩
  · simp only [f_X_back_yes, oIn_n (show j < 10 by omega) (show 10 < 2 ^ 31 by omega), f_C_copyFrom, oLet_t, oCall2_t]
  · rw [eV, eW]; exact fM_back_go hn hix (by omega) _ _ _ _ _ _ e2
  · refine relC_grow hcc (fun p hp => ⟨?_, ?_, ?_, ?_⟩)
    · rw [pk_cpy_in (by omega) (by omega)]; simp
    · rw [pk_cpy_in (by omega) (by omega)]; simp
    · have := cpyTo_in (f := cwas) (g := fun p => ckeptWas (60 * j + p)) (b := 0) hp
      rw [Nat.zero_add] at this; exact this
    · have := cpyTo_in (f := cways) (g := fun p => ckeptWays (60 * j + p)) (b := 0) hp
      rw [Nat.zero_add] at this; exact this
set_option maxHeartbeats 4000000 in
theorem op_init : ∃ (o_nA : Int32) (o_nK : Int32) (o_nP : Int32) (o_nQ : Int32) (o_bX : Nat → Int32) (o_bY : Nat → Int32) (o_bZ : Nat → Int32) (o_bA : Nat → Int32) (o_bB : Nat → Int32) (o_bC : Nat → Int32) (o_bD : Nat → Int32) (o_bS : Nat → Int64) (o_sT : Nat → Int32) (o_nO : Nat → Int32) (o_nT : Nat → Int32) (o_rO : Nat → Int32) (o_rT : Nat → Int32) (o_sO : Nat → Int32) (o_sP : Nat → Int32) (o_tG : Nat → Int32) (o_kQ : Nat → Int32) (p_cpx : Nat → Int32) (p_cpy : Nat → Int32) (p_cpz : Nat → Int32) (p_cplane : Nat → Int32) (p_caxis : Nat → Int32) (p_cwas : Nat → Int32) (p_cways : Nat → Int32) (p_ckeptWas : Nat → Int32) (p_ckeptWays : Nat → Int32) (p_ckeptPoints : Nat → Int32) (p_cnextWas : Nat → Int32) (p_cnextWays : Nat → Int32) (p_cnowWas : Nat → Int32) (p_cnowWays : Nat → Int32) (p_cto : Nat → Int32), f_X_init 0 0 = some (o_nA, o_nK, o_nP, o_nQ, o_bX, o_bY, o_bZ, o_bA, o_bB, o_bC, o_bD, o_bS, o_sT, o_nO, o_nT, o_rO, o_rT, o_sO, o_sP, o_tG, o_kQ) ∧ f_M_init = some (p_cpx, p_cpy, p_cpz, p_cplane, p_caxis, p_cwas, p_cways, p_ckeptWas, p_ckeptWays, p_ckeptPoints, p_cnextWas, p_cnextWays, p_cnowWas, p_cnowWays, p_cto) ∧ ∀ KO KT, Rel 0 o_nA o_nK o_nP o_nQ o_bX o_bY o_bZ o_bA o_bB o_bC o_bD o_bS o_sT o_nO o_nT o_kQ KO KT 0 0 0 0 p_cpx p_cpy p_cpz p_cplane p_caxis p_cwas p_cways p_ckeptWas p_ckeptWays p_ckeptPoints := by
  refine ⟨0, 0, 0, 0, fun _ => 0, fun _ => 0, fun _ => 0, fun _ => 0, fun _ => 0, fun _ => 0, fun _ => 0, fun _ => 0, fun _ => 0, cpyTo (fun _ => 0) 0 nI 60, fun _ => 0, cpyTo (fun _ => 0) 0 nI 60, fun _ => 0, cpyTo (fun _ => 0) 0 nI 60, fun _ => 0, fun _ => 0, fun _ => 0, fun _ => 0, fun _ => 0, fun _ => 0, fun _ => 0, fun _ => 0, fun _ => 0, fun _ => 0, fun _ => 0, fun _ => 0, fun _ => 0, fun _ => 0, fun _ => 0, fun _ => 0, fun _ => 0, fun _ => 0, ?_, rfl, fun KO KT => ⟨0, 0, 0, ?_, ?_, ?_, ?_, ?_, ?_⟩⟩
  · simp only [f_X_init, f_B_init, fC_init, oCall10_t, oCall2_t]
  · exact ⟨rfl, rfl, by omega, fun p hp => absurd hp (Nat.not_lt_zero p), fun p q hp => absurd hp (Nat.not_lt_zero p)⟩
  · exact ⟨rfl, rfl, by omega, fun p hp => absurd hp (Nat.not_lt_zero p)⟩
  · exact ⟨fun p hp => absurd hp (Nat.not_lt_zero p), fun p _ _ => rfl⟩
  · exact ⟨rfl, rfl, by omega, fun p hp => absurd hp (Nat.not_lt_zero p)⟩
  · exact ⟨fun p hp => absurd hp (Nat.not_lt_zero p), fun p q hp => absurd hp (Nat.not_lt_zero p)⟩
  · exact ⟨rfl, rfl, by omega, fun p hp => absurd hp (Nat.not_lt_zero p)⟩
set_option maxHeartbeats 4000000 in
theorem op_plane {k : Nat} {nA nK nP nQ : Int32} {bX bY bZ bA bB bC bD : Nat → Int32} {bS : Nat → Int64} {sT nO nT kQ : Nat → Int32} {KO KT : Nat → Nat → Int32} {vpoints vplanes vaxes vkept : Int32} {cpx cpy cpz cplane caxis cwas cways ckeptWas ckeptWays ckeptPoints : Nat → Int32} (hR : Rel k nA nK nP nQ bX bY bZ bA bB bC bD bS sT nO nT kQ KO KT vpoints vplanes vaxes vkept cpx cpy cpz cplane caxis cwas cways ckeptWas ckeptWays ckeptPoints) (vthrown : Int32) (x1 : Int32) (x2 : Int32) (x3 : Int32) (x4 : Int32) : ∃ (r : Int32) (o_nQ : Int32) (o_bA : Nat → Int32) (o_bB : Nat → Int32) (o_bC : Nat → Int32) (o_bD : Nat → Int32) (o_bS : Nat → Int64) (p_vthrown : Int32) (p_vplanes : Int32) (p_cplane : Nat → Int32), f_X_plane nP nQ bX bY bZ bA bB bC bD bS x1 x2 x3 x4 = some (r, o_nQ, o_bA, o_bB, o_bC, o_bD, o_bS) ∧ f_M_plane vthrown vplanes cplane x1 x2 x3 x4 = some (r, p_vthrown, p_vplanes, p_cplane) ∧ Rel k nA nK nP o_nQ bX bY bZ o_bA o_bB o_bC o_bD o_bS sT nO nT kQ KO KT vpoints p_vplanes vaxes vkept cpx cpy cpz p_cplane caxis cwas cways ckeptWas ckeptWays ckeptPoints := by
  obtain ⟨n, m, a, hP, hQ, hS, hA, hC, hK⟩ := id hR
  obtain ⟨eP, eV, hn, hp, hd⟩ := id hP
  obtain ⟨eQ, eW, hm, hq⟩ := hQ
  have bad : f_X_plane nP nQ bX bY bZ bA bB bC bD bS x1 x2 x3 x4 = some (-1, nQ, bA, bB, bC, bD, bS) → f_M_plane vthrown vplanes cplane x1 x2 x3 x4 = some (-1, 0, vplanes, cplane) → ∃ (r : Int32) (o_nQ : Int32) (o_bA : Nat → Int32) (o_bB : Nat → Int32) (o_bC : Nat → Int32) (o_bD : Nat → Int32) (o_bS : Nat → Int64) (p_vthrown : Int32) (p_vplanes : Int32) (p_cplane : Nat → Int32), f_X_plane nP nQ bX bY bZ bA bB bC bD bS x1 x2 x3 x4 = some (r, o_nQ, o_bA, o_bB, o_bC, o_bD, o_bS) ∧ f_M_plane vthrown vplanes cplane x1 x2 x3 x4 = some (r, p_vthrown, p_vplanes, p_cplane) ∧ Rel k nA nK nP o_nQ bX bY bZ o_bA o_bB o_bC o_bD o_bS sT nO nT kQ KO KT vpoints p_vplanes vaxes vkept cpx cpy cpz p_cplane caxis cwas cways ckeptWas ckeptWays ckeptPoints := fun e1 e2 => ⟨-1, nQ, bA, bB, bC, bD, bS, 0, vplanes, cplane, e1, e2, hR⟩
  by_cases h1 : x1 < -9 ∨ 9 < x1
  · exact bad (by simp [f_X_plane, f_B_addPlane, wi_bad h1, oCall1_t, oCall7_t]) (by simp [f_M_plane, is_bad h1, oCall1_t])
  have w1 := wi_ok (k := 9) (fun h => h1 (Or.inl h)) (fun h => h1 (Or.inr h))
  have i1 := is_ok (fun h => h1 (Or.inl h)) (fun h => h1 (Or.inr h))
  by_cases h2 : x2 < -9 ∨ 9 < x2
  · exact bad (by simp [f_X_plane, f_B_addPlane, w1, wi_bad h2, oCall1_t, oCall7_t]) (by simp [f_M_plane, i1, is_bad h2, oCall1_t])
  have w2 := wi_ok (k := 9) (fun h => h2 (Or.inl h)) (fun h => h2 (Or.inr h))
  have i2 := is_ok (fun h => h2 (Or.inl h)) (fun h => h2 (Or.inr h))
  by_cases h3 : x3 < -9 ∨ 9 < x3
  · exact bad (by simp [f_X_plane, f_B_addPlane, w1, w2, wi_bad h3, oCall1_t, oCall7_t]) (by simp [f_M_plane, i1, i2, is_bad h3, oCall1_t])
  have w3 := wi_ok (k := 9) (fun h => h3 (Or.inl h)) (fun h => h3 (Or.inr h))
  have i3 := is_ok (fun h => h3 (Or.inl h)) (fun h => h3 (Or.inr h))
  by_cases hz : x1 = 0 ∧ x2 = 0 ∧ x3 = 0
  · exact bad (by simp only [f_X_plane, f_B_addPlane, w1, w2, w3, oCall1_t]; simp [hz.1, hz.2.1, hz.2.2, oCall7_t]) (by simp only [f_M_plane, i1, i2, i3, oCall1_t]; simp [hz.1, hz.2.1, hz.2.2])
  have jx : f_B_addPlane nP nQ bX bY bZ bA bB bC bD bS x1 x2 x3 x4 = f_B_addPlane_J41 nP bX bY bZ x1 x2 x3 x4 nQ bA bB bC bD bS := by
    simp only [f_B_addPlane, w1, w2, w3, oCall1_t]
    rw [if_neg (by decide), if_neg (by decide), if_neg (by decide)]
    by_cases e1 : x1 = 0
    · rw [if_pos e1]
      by_cases e2 : x2 = 0
      · rw [if_pos e2, if_neg (fun e3 => hz ⟨e1, e2, e3⟩)]
      · rw [if_neg e2]
    · rw [if_neg e1]
  have jm : f_M_plane vthrown vplanes cplane x1 x2 x3 x4 = f_M_plane_J38 x1 x2 x3 x4 0 vplanes cplane := by
    simp only [f_M_plane, i1, i2, i3, oCall1_t]
    rw [if_neg (by decide), if_neg (by decide), if_neg (by decide)]
    by_cases e1 : x1 = 0
    · rw [if_pos e1]
      by_cases e2 : x2 = 0
      · rw [if_pos e2, if_neg (fun e3 => hz ⟨e1, e2, e3⟩)]
      · rw [if_neg e2]
    · rw [if_neg e1]
  by_cases h4 : x4 < -99 ∨ 99 < x4
  · refine bad (by simp [f_X_plane, jx, f_B_addPlane_J41, wi_bad h4, oCall1_t, oCall7_t]) ?_
    rw [jm]
    unfold f_M_plane_J38
    rcases h4 with h4 | h4
    · rw [if_pos h4]
    · by_cases h5 : x4 < -99
      · rw [if_pos h5]
      · rw [if_neg h5, if_pos h4]
  have w4 := wi_ok (k := 99) (fun h => h4 (Or.inl h)) (fun h => h4 (Or.inr h))
  have m4 : f_M_plane_J38 x1 x2 x3 x4 0 vplanes cplane = if vplanes = 20 then some (-1, 0, vplanes, cplane) else oIn (4 * vplanes) 80 (oLet (upd cplane (4 * vplanes).toNatClampNeg x1) (fun a5 => oIn ((4 * vplanes) + 1) 80 (oLet (upd a5 ((4 * vplanes) + 1).toNatClampNeg x2) (fun a7 => oIn ((4 * vplanes) + 2) 80 (oLet (upd a7 ((4 * vplanes) + 2).toNatClampNeg x3) (fun a9 => oIn ((4 * vplanes) + 3) 80 (oLet (upd a9 ((4 * vplanes) + 3).toNatClampNeg x4) (fun a11 => oLet (vplanes + 1) (fun v12 => some ((v12 - 1), 0, v12, a11)))))))))) := by
    unfold f_M_plane_J38
    rw [if_neg (fun h => h4 (Or.inl h)), if_neg (fun h => h4 (Or.inr h))]
  by_cases hf : m = 20
  · refine bad ?_ ?_
    · simp only [f_X_plane, jx, f_B_addPlane_J41, w4, oCall1_t]
      rw [if_neg (by decide), if_neg (by rw [eQ, hf]; decide), oCall7_t]
    · rw [jm, m4, if_pos (by rw [eW, hf]; rfl)]
  have hm' : m < 20 := by omega
  have u0 : ∀ j, j < 4 * m → upd (upd (upd (upd cplane (4 * m) x1) (4 * m + 1) x2) (4 * m + 2) x3) (4 * m + 3) x4 j = cplane j := fun j hj => by
    rw [upd_at, if_neg (by omega), upd_at, if_neg (by omega), upd_at, if_neg (by omega), upd_at, if_neg (by omega)]
  have v0 : upd (upd (upd (upd cplane (4 * m) x1) (4 * m + 1) x2) (4 * m + 2) x3) (4 * m + 3) x4 (4 * m) = x1 := by
    rw [upd_at, if_neg (by omega), upd_at, if_neg (by omega), upd_at, if_neg (by omega), upd_at, if_pos rfl]
  have v1 : upd (upd (upd (upd cplane (4 * m) x1) (4 * m + 1) x2) (4 * m + 2) x3) (4 * m + 3) x4 (4 * m + 1) = x2 := by
    rw [upd_at, if_neg (by omega), upd_at, if_neg (by omega), upd_at, if_pos rfl]
  have v2 : upd (upd (upd (upd cplane (4 * m) x1) (4 * m + 1) x2) (4 * m + 2) x3) (4 * m + 3) x4 (4 * m + 2) = x3 := by
    rw [upd_at, if_neg (by omega), upd_at, if_pos rfl]
  have v3 : upd (upd (upd (upd cplane (4 * m) x1) (4 * m + 1) x2) (4 * m + 2) x3) (4 * m + 3) x4 (4 * m + 3) = x4 := by
    rw [upd_at, if_pos rfl]
  generalize hpl : upd (upd (upd (upd cplane (4 * m) x1) (4 * m + 1) x2) (4 * m + 2) x3) (4 * m + 3) x4 = pl' at u0 v0 v1 v2 v3
  refine ⟨nI m, nI (m + 1), upd bA m x1, upd bB m x2, upd bC m x3, upd bD m x4, setS bS (fun p => lN (sdS (sdN cpx cpy cpz pl' p) (m + 1))) n, 0, nI (m + 1), pl', ?_, ?_, n, m + 1, a, hP, ?_, ?_, hA, hC, hK⟩
  · simp only [f_X_plane, jx, f_B_addPlane_J41, w4, oCall1_t]
    rw [if_neg (by decide), if_pos (by rw [eQ]; exact nI_lt (b := 20) hm' (by omega)), eQ, oIn_n hm' (by omega), oLet_t, oIn_n hm' (by omega), oLet_t, oIn_n hm' (by omega), oLet_t, oIn_n hm' (by omega), oLet_t, oLet_t, nI_clamp (by omega), nI_1, eP]
    rw [fB_planeLoop hn hm' bX bY bZ (upd bA m x1) (upd bB m x2) (upd bC m x3) (upd bD m x4) bS (fun p => sdN cpx cpy cpz pl' p) (fun p q => sdN_lt _ _ _ _ p q) (fun p hp2 => ?_) (fun p hp2 => ?_) (nI m) (nI (m + 1)) rfl, oCall7_t]
    · rw [hS.1 p hp2]
      congr 1
      refine sdS_congr (fun q hq2 => ?_)
      show sdN cpx cpy cpz cplane p q = sdN cpx cpy cpz pl' p q
      unfold sdN
      rw [u0 _ (by omega), u0 _ (by omega), u0 _ (by omega), u0 _ (by omega)]
    · show sdN cpx cpy cpz pl' p m = _
      unfold sdN
      rw [v0, v1, v2, v3, upd_at, upd_at, upd_at, upd_at, if_pos rfl, if_pos rfl, if_pos rfl, if_pos rfl, (hp p hp2).1, (hp p hp2).2.1, (hp p hp2).2.2.1]
  · rw [jm, m4, eW, if_neg (show ¬ nI m = 20 from nI_ne (b := 20) (by omega) (by omega) hf), n4b, n4c, n4d, n4a, oIn_n (by omega) (by omega), oLet_t, oIn_n (by omega) (by omega), oLet_t, oIn_n (by omega) (by omega), oLet_t, oIn_n (by omega) (by omega), oLet_t, oLet_t, nI_clamp (by omega), nI_clamp (by omega), nI_clamp (by omega), nI_clamp (by omega), nI_1, nIm1, hpl]
  · refine ⟨rfl, rfl, by omega, fun q hq2 => ?_⟩
    by_cases e : q = m
    · subst e
      rw [v0, v1, v2, v3, upd_at, upd_at, upd_at, upd_at, if_pos rfl, if_pos rfl, if_pos rfl, if_pos rfl]
      exact ⟨rfl, rfl, rfl, rfl, sm9_of (fun h => h1 (Or.inl h)) (fun h => h1 (Or.inr h)), sm9_of (fun h => h2 (Or.inl h)) (fun h => h2 (Or.inr h)), sm9_of (fun h => h3 (Or.inl h)) (fun h => h3 (Or.inr h))⟩
    · rw [u0 _ (by omega), u0 _ (by omega), u0 _ (by omega), u0 _ (by omega), upd_at, upd_at, upd_at, upd_at, if_neg e, if_neg e, if_neg e, if_neg e]
      exact hq q (by omega)
  · refine ⟨fun p hp2 => ?_, fun p hp2 hp3 => ?_⟩
    · unfold setS; rw [if_pos hp2]
    · unfold setS; rw [if_neg (by omega)]; exact hS.2 p hp2 hp3
set_option maxHeartbeats 4000000 in
theorem op_point {k : Nat} {nA nK nP nQ : Int32} {bX bY bZ bA bB bC bD : Nat → Int32} {bS : Nat → Int64} {sT nO nT kQ : Nat → Int32} {KO KT : Nat → Nat → Int32} {vpoints vplanes vaxes vkept : Int32} {cpx cpy cpz cplane caxis cwas cways ckeptWas ckeptWays ckeptPoints : Nat → Int32} (hR : Rel k nA nK nP nQ bX bY bZ bA bB bC bD bS sT nO nT kQ KO KT vpoints vplanes vaxes vkept cpx cpy cpz cplane caxis cwas cways ckeptWas ckeptWays ckeptPoints) (vthrown : Int32) (x1 : Int32) (x2 : Int32) (x3 : Int32) : ∃ (r : Int32) (o_nP : Int32) (o_bX : Nat → Int32) (o_bY : Nat → Int32) (o_bZ : Nat → Int32) (o_bS : Nat → Int64) (o_nO : Nat → Int32) (o_nT : Nat → Int32) (p_vthrown : Int32) (p_vpoints : Int32) (p_cpx : Nat → Int32) (p_cpy : Nat → Int32) (p_cpz : Nat → Int32) (p_cwas : Nat → Int32) (p_cways : Nat → Int32), f_X_point nP nQ bX bY bZ bA bB bC bD bS nO nT x1 x2 x3 = some (r, o_nP, o_bX, o_bY, o_bZ, o_bS, o_nO, o_nT) ∧ f_M_point vthrown vpoints cpx cpy cpz cwas cways x1 x2 x3 = some (r, p_vthrown, p_vpoints, p_cpx, p_cpy, p_cpz, p_cwas, p_cways) ∧ Rel k nA nK o_nP nQ o_bX o_bY o_bZ bA bB bC bD o_bS sT o_nO o_nT kQ KO KT p_vpoints vplanes vaxes vkept p_cpx p_cpy p_cpz cplane caxis p_cwas p_cways ckeptWas ckeptWays ckeptPoints := by
  obtain ⟨n, m, a, hP, hQ, hS, hA, hC, hK⟩ := id hR
  by_cases h1 : x1 < -9 ∨ 9 < x1
  · exact ⟨-1, nP, bX, bY, bZ, bS, nO, nT, 0, vpoints, cpx, cpy, cpz, cwas, cways, by simp [f_X_point, f_B_addPoint, wi_bad h1, oCall1_t, oCall6_t], by simp [f_M_point, is_bad h1, oCall1_t], hR⟩
  have w1 := wi_ok (k := 9) (fun h => h1 (Or.inl h)) (fun h => h1 (Or.inr h))
  have i1 := is_ok (fun h => h1 (Or.inl h)) (fun h => h1 (Or.inr h))
  by_cases h2 : x2 < -9 ∨ 9 < x2
  · exact ⟨-1, nP, bX, bY, bZ, bS, nO, nT, 0, vpoints, cpx, cpy, cpz, cwas, cways, by simp [f_X_point, f_B_addPoint, w1, wi_bad h2, oCall1_t, oCall6_t], by simp [f_M_point, i1, is_bad h2, oCall1_t], hR⟩
  have w2 := wi_ok (k := 9) (fun h => h2 (Or.inl h)) (fun h => h2 (Or.inr h))
  have i2 := is_ok (fun h => h2 (Or.inl h)) (fun h => h2 (Or.inr h))
  by_cases h3 : x3 < -9 ∨ 9 < x3
  · exact ⟨-1, nP, bX, bY, bZ, bS, nO, nT, 0, vpoints, cpx, cpy, cpz, cwas, cways, by simp [f_X_point, f_B_addPoint, w1, w2, wi_bad h3, oCall1_t, oCall6_t], by simp [f_M_point, i1, i2, is_bad h3, oCall1_t], hR⟩
  have i3 := is_ok (fun h => h3 (Or.inl h)) (fun h => h3 (Or.inr h))
  rcases add_both hP hQ hS h1 h2 h3 with ⟨eB, eM⟩ | ⟨hn, bX', bY', bZ', cx', cy', cz', bS', eB, eM, hP', hS'⟩
  · exact ⟨-1, nP, bX, bY, bZ, bS, nO, nT, 0, vpoints, cpx, cpy, cpz, cwas, cways, by simp [f_X_point, eB, oCall6_t], by simp [f_M_point, i1, i2, i3, eM, oCall1_t, oCall5_t], hR⟩
  · refine ⟨nI n, nI (n + 1), bX', bY', bZ', bS', cpyTo nO 0 nI 60, cpyTo nT 0 (fun _ => 0) 60, 0, nI (n + 1), cx', cy', cz', cpyTo cwas 0 nI (n + 1), cpyTo cways 0 (fun _ => 0) (n + 1), ?_, ?_, n + 1, m, a, hP', hQ, hS', hA, relC_home (by omega) _ _ _ _, relK_grow hK (by omega)⟩
    · simp only [f_X_point, eB, oCall6_t]
      rw [if_neg (nI_neg1 (by omega)), fC_home, oCall2_t]
    · simp only [f_M_point, i1, i2, i3, eM, oCall1_t, oCall5_t, fM_own (show n + 1 ≤ 60 by omega), oCall2_t, nIm1]
      simp
set_option maxHeartbeats 4000000 in
theorem op_cube {k : Nat} {nA nK nP nQ : Int32} {bX bY bZ bA bB bC bD : Nat → Int32} {bS : Nat → Int64} {sT nO nT kQ : Nat → Int32} {KO KT : Nat → Nat → Int32} {vpoints vplanes vaxes vkept : Int32} {cpx cpy cpz cplane caxis cwas cways ckeptWas ckeptWays ckeptPoints : Nat → Int32} (hR : Rel k nA nK nP nQ bX bY bZ bA bB bC bD bS sT nO nT kQ KO KT vpoints vplanes vaxes vkept cpx cpy cpz cplane caxis cwas cways ckeptWas ckeptWays ckeptPoints) (vthrown : Int32) (x1 : Int32) : ∃ (r : Int32) (o_nP : Int32) (o_bX : Nat → Int32) (o_bY : Nat → Int32) (o_bZ : Nat → Int32) (o_bS : Nat → Int64) (o_nO : Nat → Int32) (o_nT : Nat → Int32) (p_vthrown : Int32) (p_vpoints : Int32) (p_cpx : Nat → Int32) (p_cpy : Nat → Int32) (p_cpz : Nat → Int32) (p_cwas : Nat → Int32) (p_cways : Nat → Int32), f_X_cube nP nQ bX bY bZ bA bB bC bD bS nO nT x1 = some (r, o_nP, o_bX, o_bY, o_bZ, o_bS, o_nO, o_nT) ∧ f_M_cube vthrown vpoints cpx cpy cpz cwas cways x1 = some (r, p_vthrown, p_vpoints, p_cpx, p_cpy, p_cpz, p_cwas, p_cways) ∧ Rel k nA nK o_nP nQ o_bX o_bY o_bZ bA bB bC bD o_bS sT o_nO o_nT kQ KO KT p_vpoints vplanes vaxes vkept p_cpx p_cpy p_cpz cplane caxis p_cwas p_cways ckeptWas ckeptWays ckeptPoints := by
  obtain ⟨n, m, a, hP, hQ, hS, hA, hC, hK⟩ := id hR
  rcases ix_cases x1 (n := 3) (by omega) with h | ⟨h0, h⟩ | ⟨c, hc, e, h0, h⟩
  · exact ⟨-1, nP, bX, bY, bZ, bS, nO, nT, 0, vpoints, cpx, cpy, cpz, cwas, cways, by simp [f_X_cube, h], by simp [f_M_cube, h], hR⟩
  · have h2 : ¬ x1 ≤ 2 := fun q => absurd (Int32.le_trans h q) (by decide)
    exact ⟨-1, nP, bX, bY, bZ, bS, nO, nT, 0, vpoints, cpx, cpy, cpz, cwas, cways, by simp [f_X_cube, h0, h2], by simp [f_M_cube, h0, h2], hR⟩
  · have h2 : x1 ≤ 2 := by rw [e]; exact nI_le (b := 2) (by omega) (by omega)
    obtain ⟨r, n', nP', bX', bY', bZ', bS', vp', cx', cy', cz', hn', hP', hS', eX, eM⟩ := cube1 (n0 := n) (nO := nO) (nT := nT) (cwas := cwas) (cways := cways) hc hQ (2 * c + 1) 0 (by omega) 100 (by omega) 0 n nP bX bY bZ bS vpoints cpx cpy cpz (Nat.le_refl _) hP hS
    rw [← cV_0 c hc, ← e] at eX eM
    refine ⟨r, nP', bX', bY', bZ', bS', cpyTo nO 0 nI 60, cpyTo nT 0 (fun _ => 0) 60, 0, vp', cx', cy', cz', cpyTo cwas 0 nI n', cpyTo cways 0 (fun _ => 0) n', ?_, ?_, n', m, a, hP', hQ, hS', hA, relC_home hP'.2.2.1 _ _ _ _, relK_grow hK hn'⟩
    · simp only [f_X_cube, oLet_t]
      rw [if_neg h0, if_pos h2]
      exact eX
    · simp only [f_M_cube, oLet_t]
      rw [if_neg h0, if_pos h2]
      exact eM
set_option maxHeartbeats 4000000 in
theorem op_pieces {k : Nat} {nA nK nP nQ : Int32} {bX bY bZ bA bB bC bD : Nat → Int32} {bS : Nat → Int64} {sT nO nT kQ : Nat → Int32} {KO KT : Nat → Nat → Int32} {vpoints vplanes vaxes vkept : Int32} {cpx cpy cpz cplane caxis cwas cways ckeptWas ckeptWays ckeptPoints : Nat → Int32} (hR : Rel k nA nK nP nQ bX bY bZ bA bB bC bD bS sT nO nT kQ KO KT vpoints vplanes vaxes vkept cpx cpy cpz cplane caxis cwas cways ckeptWas ckeptWays ckeptPoints) (vthrown : Int32) : ∃ (r : Int32) (p_vthrown : Int32), f_X_pieces nP bS = some r ∧ f_M_pieces vthrown vpoints vplanes cpx cpy cpz cplane = some (r, p_vthrown) ∧ Rel k nA nK nP nQ bX bY bZ bA bB bC bD bS sT nO nT kQ KO KT vpoints vplanes vaxes vkept cpx cpy cpz cplane caxis cwas cways ckeptWas ckeptWays ckeptPoints := by
  obtain ⟨n, m, a, hP, hQ, hS, hA, hC, hK⟩ := id hR
  obtain ⟨eP, eV, hn, hp, hd⟩ := id hP
  obtain ⟨eQ, eW, hm, hq⟩ := hQ
  refine ⟨nI (cntN (fun p => ∀ j, j < p → ¬ sdS (sdN cpx cpy cpz cplane j) m = sdS (sdN cpx cpy cpz cplane p) m) n), 0, ?_, ?_, hR⟩
  · simp only [f_X_pieces, eP]
    rw [fB_pieces hn hm (Nat.le_refl n) (fun i q => sdN_lt cpx cpy cpz cplane i q) hS.1, oCall1_t]
  · simp only [f_M_pieces, eV, eW]
    rw [fM_pieces hn hm (Nat.le_refl n), oCall1_t]
set_option maxHeartbeats 4000000 in
theorem op_piece {k : Nat} {nA nK nP nQ : Int32} {bX bY bZ bA bB bC bD : Nat → Int32} {bS : Nat → Int64} {sT nO nT kQ : Nat → Int32} {KO KT : Nat → Nat → Int32} {vpoints vplanes vaxes vkept : Int32} {cpx cpy cpz cplane caxis cwas cways ckeptWas ckeptWays ckeptPoints : Nat → Int32} (hR : Rel k nA nK nP nQ bX bY bZ bA bB bC bD bS sT nO nT kQ KO KT vpoints vplanes vaxes vkept cpx cpy cpz cplane caxis cwas cways ckeptWas ckeptWays ckeptPoints) (vthrown : Int32) (x1 : Int32) : ∃ (r : Int32) (p_vthrown : Int32), f_X_piece nP bS x1 = some r ∧ f_M_piece vthrown vpoints vplanes cpx cpy cpz cplane x1 = some (r, p_vthrown) ∧ Rel k nA nK nP nQ bX bY bZ bA bB bC bD bS sT nO nT kQ KO KT vpoints vplanes vaxes vkept cpx cpy cpz cplane caxis cwas cways ckeptWas ckeptWays ckeptPoints := by
  obtain ⟨n, m, a, hP, hQ, hS, hA, hC, hK⟩ := id hR
  obtain ⟨eP, eV, hn, hp, hd⟩ := id hP
  obtain ⟨eQ, eW, hm, hq⟩ := hQ
  rcases ix_cases x1 (n := n) (by omega) with h | ⟨h0, h⟩ | ⟨i, hi, e, h0, h⟩
  · exact ⟨-1, 0, by simp [f_X_piece, f_B_hasPoint, eP, h, oCall1_t], by simp [f_M_piece, f_M_isPoint, eV, h, oCall1_t], hR⟩
  · exact ⟨-1, 0, by simp [f_X_piece, f_B_hasPoint, eP, h0, h, oCall1_t], by simp [f_M_piece, f_M_isPoint, eV, h0, h, oCall1_t], hR⟩
  · obtain ⟨r, r1, r2, r3⟩ := least_ex (fun j => sdS (sdN cpx cpy cpz cplane j) m = sdS (sdN cpx cpy cpz cplane i) m) i
    have r4 : sdS (sdN cpx cpy cpz cplane r) m = sdS (sdN cpx cpy cpz cplane i) m := by
      by_cases e : r < i
      · exact r3 e
      · rw [show r = i by omega]
    refine ⟨nI (cntN (fun p => ∀ j, j < p → ¬ sdS (sdN cpx cpy cpz cplane j) m = sdS (sdN cpx cpy cpz cplane p) m) r), 0, ?_, ?_, hR⟩
    · simp only [f_X_piece, f_B_hasPoint, eP, if_neg h0, if_neg h, oCall1_t]
      rw [if_neg (by decide), e, fB_least hn hm hi (fun i q => sdN_lt cpx cpy cpz cplane i q) hS.1 r1 r2 r3, oCall1_t, fB_pieces hn hm (show r ≤ n by omega) (fun i q => sdN_lt cpx cpy cpz cplane i q) hS.1, oCall1_t]
    · simp only [f_M_piece, f_M_isPoint, eV, eW, if_neg h0, if_neg h, oCall1_t]
      rw [if_neg (by decide), e, fM_least hm (by omega) cpx cpy cpz cplane r1 r2 r4, oCall1_t, fM_pieces hn hm (show r ≤ n by omega), oCall1_t]
set_option maxHeartbeats 4000000 in
theorem op_image {k : Nat} {nA nK nP nQ : Int32} {bX bY bZ bA bB bC bD : Nat → Int32} {bS : Nat → Int64} {sT nO nT kQ : Nat → Int32} {KO KT : Nat → Nat → Int32} {vpoints vplanes vaxes vkept : Int32} {cpx cpy cpz cplane caxis cwas cways ckeptWas ckeptWays ckeptPoints : Nat → Int32} (hR : Rel k nA nK nP nQ bX bY bZ bA bB bC bD bS sT nO nT kQ KO KT vpoints vplanes vaxes vkept cpx cpy cpz cplane caxis cwas cways ckeptWas ckeptWays ckeptPoints) (vthrown : Int32) (vax : Int32) (vay : Int32) (vaz : Int32) (x1 : Int32) (x2 : Int32) : ∃ (r : Int32) (p_vthrown : Int32) (p_vax : Int32) (p_vay : Int32) (p_vaz : Int32), f_X_image nA nP bX bY bZ sT x1 x2 = some r ∧ f_M_image vthrown vpoints vaxes vax vay vaz cpx cpy cpz caxis x1 x2 = some (r, p_vthrown, p_vax, p_vay, p_vaz) ∧ Rel k nA nK nP nQ bX bY bZ bA bB bC bD bS sT nO nT kQ KO KT vpoints vplanes vaxes vkept cpx cpy cpz cplane caxis cwas cways ckeptWas ckeptWays ckeptPoints := by
  obtain ⟨n, m, a, hP, hQ, hS, hA, hC, hK⟩ := id hR
  obtain ⟨eP, eV, hn, hpt, hd⟩ := id hP
  obtain ⟨eA, eW, ha, hax⟩ := id hA
  rcases ix_cases x1 (n := a) (by omega) with h | ⟨h0, h⟩ | ⟨i, hi, e, h0, h⟩
  · exact ⟨-1, 0, vax, vay, vaz, by simp [f_X_image, f_X_hasAxis, eA, h, oCall1_t], by simp [f_M_image, f_M_isAxis, eW, h, oCall1_t], hR⟩
  · exact ⟨-1, 0, vax, vay, vaz, by simp [f_X_image, f_X_hasAxis, eA, h0, h, oCall1_t], by simp [f_M_image, f_M_isAxis, eW, h0, h, oCall1_t], hR⟩
  · rcases ix_cases x2 (n := n) (by omega) with k1 | ⟨k0, k1⟩ | ⟨p, hp, e2, k0, k1⟩
    · exact ⟨-1, 0, vax, vay, vaz, by simp [f_X_image, f_X_hasAxis, f_B_hasPoint, eA, eP, h0, h, k1, oCall1_t], by simp [f_M_image, f_M_isAxis, f_M_isPoint, eW, eV, h0, h, k1, oCall1_t], hR⟩
    · exact ⟨-1, 0, vax, vay, vaz, by simp [f_X_image, f_X_hasAxis, f_B_hasPoint, eA, eP, h0, h, k0, k1, oCall1_t], by simp [f_M_image, f_M_isAxis, f_M_isPoint, eW, eV, h0, h, k0, k1, oCall1_t], hR⟩
    · obtain ⟨kw, g, T, es, hg, hT, hI⟩ := img_fn hP hA hi
      refine ⟨if T p < n then nI (T p) else -1, 0, (g (cpx p) (cpy p) (cpz p)).1, (g (cpx p) (cpy p) (cpz p)).2.1, (g (cpx p) (cpy p) (cpz p)).2.2, ?_, ?_, hR⟩
      · have hb := (hI p hp).1
        rw [eP] at hb
        simp only [f_X_image, f_X_hasAxis, f_B_hasPoint, eA, eP, if_neg h0, if_neg h, if_neg k0, if_neg k1, oCall1_t]
        rw [if_neg (by decide), if_neg (by decide), e, e2, oIn_n (by omega) (by omega), nI_clamp (by omega), es, hb, oCall1_t]
      · have hb := (hI p hp).2 vax vay vaz
        rw [eV] at hb
        simp only [f_M_image, f_M_isAxis, f_M_isPoint, eW, eV, if_neg h0, if_neg h, if_neg k0, if_neg k1, oCall1_t]
        rw [if_neg (by decide), if_neg (by decide), e, e2, hb]
        rfl
set_option maxHeartbeats 4000000 in
theorem op_maps {k : Nat} {nA nK nP nQ : Int32} {bX bY bZ bA bB bC bD : Nat → Int32} {bS : Nat → Int64} {sT nO nT kQ : Nat → Int32} {KO KT : Nat → Nat → Int32} {vpoints vplanes vaxes vkept : Int32} {cpx cpy cpz cplane caxis cwas cways ckeptWas ckeptWays ckeptPoints : Nat → Int32} (hR : Rel k nA nK nP nQ bX bY bZ bA bB bC bD bS sT nO nT kQ KO KT vpoints vplanes vaxes vkept cpx cpy cpz cplane caxis cwas cways ckeptWas ckeptWays ckeptPoints) (vthrown : Int32) (vax : Int32) (vay : Int32) (vaz : Int32) (x1 : Int32) : ∃ (r : Int32) (p_vthrown : Int32) (p_vax : Int32) (p_vay : Int32) (p_vaz : Int32), f_X_maps nA nP nQ bX bY bZ bA bB bC bD sT x1 = some r ∧ f_M_maps vthrown vpoints vplanes vaxes vax vay vaz cpx cpy cpz cplane caxis x1 = some (r, p_vthrown, p_vax, p_vay, p_vaz) ∧ Rel k nA nK nP nQ bX bY bZ bA bB bC bD bS sT nO nT kQ KO KT vpoints vplanes vaxes vkept cpx cpy cpz cplane caxis cwas cways ckeptWas ckeptWays ckeptPoints := by
  obtain ⟨n, m, a, hP, hQ, hS, hA, hC, hK⟩ := id hR
  obtain ⟨eP, eV, hn, hpt, hd⟩ := id hP
  obtain ⟨eQ, eY, hm, hq⟩ := id hQ
  obtain ⟨eA, eW, ha, hax⟩ := id hA
  rcases ix_cases x1 (n := a) (by omega) with h | ⟨h0, h⟩ | ⟨i, hi, e, h0, h⟩
  · exact ⟨0, 0, vax, vay, vaz, by simp [f_X_maps, f_X_hasAxis, eA, h, oCall1_t], by simp [f_M_maps, f_M_isAxis, eW, h, oCall1_t], hR⟩
  · exact ⟨0, 0, vax, vay, vaz, by simp [f_X_maps, f_X_hasAxis, eA, h0, h, oCall1_t], by simp [f_M_maps, f_M_isAxis, eW, h0, h, oCall1_t], hR⟩
  · obtain ⟨kw, g, T, es, hg, hT, hI⟩ := img_fn hP hA hi
    have hdec : DecidablePred (fun p => ¬ T p < n) := fun p => Classical.propDecidable _
    obtain ⟨r, r1, r2, r3⟩ := least_ex (fun p => ¬ T p < n) n
    have r2' : ∀ j, j < r → T j < n := fun j hj => Nat.lt_of_not_le (fun q => r2 j hj (by omega))
    have hdec2 : DecidablePred (fun q => ¬ ∃ j, j < m ∧ sameM cplane (g (cplane (4 * q)) (cplane (4 * q + 1)) (cplane (4 * q + 2))) (cplane (4 * q + 3)) j) := fun p => Classical.propDecidable _
    obtain ⟨t, t1, t2, t3⟩ := least_ex (fun q => ¬ ∃ j, j < m ∧ sameM cplane (g (cplane (4 * q)) (cplane (4 * q + 1)) (cplane (4 * q + 2))) (cplane (4 * q + 3)) j) m
    have t2' : ∀ q, q < t → ∃ j, j < m ∧ sameM cplane (g (cplane (4 * q)) (cplane (4 * q + 1)) (cplane (4 * q + 2))) (cplane (4 * q + 3)) j := fun q hq2 => Classical.not_not.mp (t2 q hq2)
    have tr : ∀ q, q < m → ((∃ j, j < m ∧ sameP bA bB bC bD (g (bA q) (bB q) (bC q)).1 (g (bA q) (bB q) (bC q)).2.1 (g (bA q) (bB q) (bC q)).2.2 (bD q) j) ↔ ∃ j, j < m ∧ sameM cplane (g (cplane (4 * q)) (cplane (4 * q + 1)) (cplane (4 * q + 2))) (cplane (4 * q + 3)) j) := by
      intro q hq2
      obtain ⟨e1, e2, e3, e4, -⟩ := hq q hq2
      rw [e1, e2, e3, e4]
      exact ⟨fun ⟨j, hj, hs⟩ => ⟨j, hj, (same_iff (q := q) hQ hj _ _).mp hs⟩, fun ⟨j, hj, hs⟩ => ⟨j, hj, (same_iff (q := q) hQ hj _ _).mpr hs⟩⟩
    have fpt := fB_tpts hn eP (fun p hp => (hT p hp).1) (fun p hp => (hI p hp).1) r1 r2' r3
    have fpl := fB_tpls hm (A := bA) (B := bB) (C := bC) (D := bD) hg t1 (fun q hq2 => (tr q (by omega)).mpr (t2' q hq2)) (fun hh hq2 => t3 hh ((tr t hh).mp hq2))
    obtain ⟨c, hc⟩ := fM_mapsPt (va := vaxes) (vq := vplanes) (pl := cplane) hn eV (fun p hp => (hT p hp).1) (fun p hp => (hI p hp).2) r1 r2' r3 (if t < m then 0 else 1) (fun a0 => fM_mapsPl hm (by omega) eY hg (fun q hq2 => ⟨(hq q hq2).2.2.2.2.1, (hq q hq2).2.2.2.2.2.1, (hq q hq2).2.2.2.2.2.2⟩) t1 t2' t3 a0) (vax, vay, vaz)
    refine ⟨if r < n then 0 else if t < m then 0 else 1, 0, c.1, c.2.1, c.2.2, ?_, ?_, hR⟩
    · rw [eP] at fpt
      simp only [f_X_maps, f_X_hasAxis, eA, eP, eQ, if_neg h0, if_neg h, oCall1_t]
      rw [if_neg (by decide), e, oIn_n (by omega) (by omega), nI_clamp (by omega), es, fpt, oCall1_t]
      by_cases q1 : r < n
      · rw [if_pos q1, if_pos rfl, if_pos q1]
      · rw [if_neg q1, if_neg (by decide), oIn_n (by omega) (by omega), fpl, oCall1_t, if_neg q1]
        by_cases q2 : t < m
        · rw [if_pos q2, if_pos rfl]
        · rw [if_neg q2, if_neg (by decide)]
    · simp only [f_M_maps, f_M_isAxis, eW, if_neg h0, if_neg h, oCall1_t]
      rw [if_neg (by decide), e]
      rw [eW] at hc
      exact hc
set_option maxHeartbeats 4000000 in
theorem op_cycle {k : Nat} {nA nK nP nQ : Int32} {bX bY bZ bA bB bC bD : Nat → Int32} {bS : Nat → Int64} {sT nO nT kQ : Nat → Int32} {KO KT : Nat → Nat → Int32} {vpoints vplanes vaxes vkept : Int32} {cpx cpy cpz cplane caxis cwas cways ckeptWas ckeptWays ckeptPoints : Nat → Int32} (hR : Rel k nA nK nP nQ bX bY bZ bA bB bC bD bS sT nO nT kQ KO KT vpoints vplanes vaxes vkept cpx cpy cpz cplane caxis cwas cways ckeptWas ckeptWays ckeptPoints) (tG : Nat → Int32) (vthrown : Int32) (vax : Int32) (vay : Int32) (vaz : Int32) (x1 : Int32) (x2 : Int32) (x3 : Int32) : ∃ (r : Int32) (o_tG : Nat → Int32) (p_vthrown : Int32) (p_vax : Int32) (p_vay : Int32) (p_vaz : Int32), f_X_cycle nA nP nQ bX bY bZ bS sT tG x1 x2 x3 = some (r, o_tG) ∧ f_M_cycle vthrown vpoints vplanes vaxes vax vay vaz cpx cpy cpz cplane caxis x1 x2 x3 = some (r, p_vthrown, p_vax, p_vay, p_vaz) ∧ Rel k nA nK nP nQ bX bY bZ bA bB bC bD bS sT nO nT kQ KO KT vpoints vplanes vaxes vkept cpx cpy cpz cplane caxis cwas cways ckeptWas ckeptWays ckeptPoints := by
  obtain ⟨n, m, a, hP, hQ, hS, hA, hC, hK⟩ := id hR
  obtain ⟨eP, eV, hn, hpt, hd⟩ := id hP
  obtain ⟨eQ, eY, hm, hq⟩ := id hQ
  obtain ⟨eA, eW, ha, hax⟩ := id hA
  rcases ix_cases x1 (n := a) (by omega) with h | ⟨h0, h⟩ | ⟨i, hi, e, h0, h⟩
  · exact ⟨0, tG, 0, vax, vay, vaz, by simp [f_X_cycle, f_X_hasAxis, eA, h, oCall1_t], by simp [f_M_cycle, f_M_isAxis, eW, h, oCall1_t], hR⟩
  · exact ⟨0, tG, 0, vax, vay, vaz, by simp [f_X_cycle, f_X_hasAxis, eA, h0, h, oCall1_t], by simp [f_M_cycle, f_M_isAxis, eW, h0, h, oCall1_t], hR⟩
  · rcases ix_cases x2 (n := m) (by omega) with k1 | ⟨k0, k1⟩ | ⟨j, hj, e2, k0, k1⟩
    · exact ⟨0, tG, 0, vax, vay, vaz, by simp [f_X_cycle, f_X_hasAxis, f_B_hasPlane, eA, eQ, h0, h, k1, oCall1_t], by simp [f_M_cycle, f_M_isAxis, f_M_isPlane, eW, eY, h0, h, k1, oCall1_t], hR⟩
    · exact ⟨0, tG, 0, vax, vay, vaz, by simp [f_X_cycle, f_X_hasAxis, f_B_hasPlane, eA, eQ, h0, h, k0, k1, oCall1_t], by simp [f_M_cycle, f_M_isAxis, f_M_isPlane, eW, eY, h0, h, k0, k1, oCall1_t], hR⟩
    · rcases ix_cases x3 (n := n) (by omega) with m1 | ⟨m0, m1⟩ | ⟨p, hp, e3, m0, m1⟩
      · exact ⟨0, tG, 0, vax, vay, vaz, by simp [f_X_cycle, f_X_hasAxis, f_B_hasPlane, f_B_hasPoint, eA, eQ, eP, h0, h, k0, k1, m1, oCall1_t], by simp [f_M_cycle, f_M_isAxis, f_M_isPlane, f_M_isPoint, eW, eY, eV, h0, h, k0, k1, m1, oCall1_t], hR⟩
      · exact ⟨0, tG, 0, vax, vay, vaz, by simp [f_X_cycle, f_X_hasAxis, f_B_hasPlane, f_B_hasPoint, eA, eQ, eP, h0, h, k0, k1, m0, m1, oCall1_t], by simp [f_M_cycle, f_M_isAxis, f_M_isPlane, f_M_isPoint, eW, eY, eV, h0, h, k0, k1, m0, m1, oCall1_t], hR⟩
      · obtain ⟨kw, r, T, F, hkw, es, r1, hf, hb, hI, hIn, hg⟩ := law_ij hP hQ hS hA hi hj
        obtain ⟨tG', f1, f2⟩ := hf tG
        obtain ⟨c0, b1⟩ := hb (vax, vay, vaz)
        by_cases hr : r < n
        · rw [if_pos hr] at f1 b1
          refine ⟨0, tG', 0, c0.1, c0.2.1, c0.2.2, ?_, ?_, hR⟩
          · rw [eP] at f1
            simp only [f_X_cycle, f_X_hasAxis, f_B_hasPlane, f_B_hasPoint, eA, eQ, eP, if_neg h0, if_neg h, if_neg k0, if_neg k1, if_neg m0, if_neg m1, oCall1_t]
            rw [if_neg (by decide), if_neg (by decide), if_neg (by decide), e, e2, f1, oCall2_t, if_neg (nI_neg1 (by omega))]
          · rw [eV] at b1
            simp only [f_M_cycle, f_M_isAxis, f_M_isPlane, f_M_isPoint, eW, eY, eV, if_neg h0, if_neg h, if_neg k0, if_neg k1, if_neg m0, if_neg m1, oCall1_t]
            rw [if_neg (by decide), if_neg (by decide), if_neg (by decide), e, e2, b1, oCall4_t, if_neg (show ¬ nI (r + 1) ≤ (0 : Int32) from nI_ge (a := 0) (by omega) (by omega))]
        · rw [if_neg hr] at f1 b1
          obtain ⟨hG, -⟩ := hg hr
          have htg := f2 hr
          have hsM : f_M_sideOf cpx cpy cpz cplane (nI p) (nI j) = some (nI (sdN cpx cpy cpz cplane p j)) := fM_sideOf (by omega) (by omega) _ _ _ _
          by_cases hu : sdN cpx cpy cpz cplane p j = 2
          · obtain ⟨l, l1, l2, l3, l4⟩ := back_ex (gate_ok hG hIn) hp
            have hx := cyc_X (nA := nA) (nP := nP) (nQ := nQ) (bX := bX) (bY := bY) (bZ := bZ) (sT := sT) (bS := bS) hn hG hp hu htg l1 l2 l3 l4
            obtain ⟨c, hc⟩ := cyc_M (vp := vpoints) (vq := vplanes) (va := vaxes) (cx := cpx) (cy := cpy) (cz := cpz) (pl := cplane) (ca := caxis) hn hG hI hp hu l1 l2 l3 l4
            have hI0 := hI p hp c0.1 c0.2.1 c0.2.2
            rw [if_pos (hG p hp hu).1] at hI0
            refine ⟨nI l, tG', 0, c.1, c.2.1, c.2.2, ?_, ?_, hR⟩
            · rw [eP] at f1
              rw [eA, eP, eQ] at hx
              simp only [f_X_cycle, f_X_hasAxis, f_B_hasPlane, f_B_hasPoint, eA, eQ, eP, if_neg h0, if_neg h, if_neg k0, if_neg k1, if_neg m0, if_neg m1, oCall1_t]
              rw [if_neg (by decide), if_neg (by decide), if_neg (by decide), e, e2, f1, oCall2_t, if_pos rfl, e3, oIn_n (by omega) (by omega), oLet_t, nI_clamp (by omega)]
              exact hx
            · rw [eV] at b1 hI0
              rw [eV, eY, eW] at hc
              simp only [f_M_cycle, f_M_isAxis, f_M_isPlane, f_M_isPoint, eW, eY, eV, if_neg h0, if_neg h, if_neg k0, if_neg k1, if_neg m0, if_neg m1, oCall1_t]
              rw [if_neg (by decide), if_neg (by decide), if_neg (by decide), e, e2, b1, oCall4_t, if_pos (by decide), e3, hsM, oCall1_t, if_pos (by rw [hu]; rfl), hI0]
              exact hc
          · refine ⟨1, tG', 0, c0.1, c0.2.1, c0.2.2, ?_, ?_, hR⟩
            · have ht : tG' p = -1 := by
                rw [htg p hp]
                unfold tgv
                exact if_neg hu
              rw [eP] at f1
              simp only [f_X_cycle, f_X_hasAxis, f_B_hasPlane, f_B_hasPoint, eA, eQ, eP, if_neg h0, if_neg h, if_neg k0, if_neg k1, if_neg m0, if_neg m1, oCall1_t]
              rw [if_neg (by decide), if_neg (by decide), if_neg (by decide), e, e2, f1, oCall2_t, if_pos rfl, e3, oIn_n (by omega) (by omega), oLet_t, nI_clamp (by omega), ht]
              show f_X_cycle_L55 _ _ _ _ _ _ _ _ _ _ _ _ _ = _
              simp only [f_X_cycle_L55]
              rw [if_pos trivial]
            · rw [eV] at b1
              simp only [f_M_cycle, f_M_isAxis, f_M_isPlane, f_M_isPoint, eW, eY, eV, if_neg h0, if_neg h, if_neg k0, if_neg k1, if_neg m0, if_neg m1, oCall1_t]
              rw [if_neg (by decide), if_neg (by decide), if_neg (by decide), e, e2, b1, oCall4_t, if_pos (by decide), e3, hsM, oCall1_t, if_neg (fun q => hu ((nI2 (sdN_lt _ _ _ _ _ _)).mp q))]
set_option maxHeartbeats 4000000 in
theorem op_turn {k : Nat} {nA nK nP nQ : Int32} {bX bY bZ bA bB bC bD : Nat → Int32} {bS : Nat → Int64} {sT nO nT kQ : Nat → Int32} {KO KT : Nat → Nat → Int32} {vpoints vplanes vaxes vkept : Int32} {cpx cpy cpz cplane caxis cwas cways ckeptWas ckeptWays ckeptPoints : Nat → Int32} (hR : Rel k nA nK nP nQ bX bY bZ bA bB bC bD bS sT nO nT kQ KO KT vpoints vplanes vaxes vkept cpx cpy cpz cplane caxis cwas cways ckeptWas ckeptWays ckeptPoints) (sO : Nat → Int32) (sP : Nat → Int32) (tG : Nat → Int32) (vthrown : Int32) (vax : Int32) (vay : Int32) (vaz : Int32) (cnextWas : Nat → Int32) (cnextWays : Nat → Int32) (cto : Nat → Int32) (x1 : Int32) (x2 : Int32) (x3 : Int32) : ∃ (r : Int32) (o_nO : Nat → Int32) (o_nT : Nat → Int32) (o_sO : Nat → Int32) (o_sP : Nat → Int32) (o_tG : Nat → Int32) (p_vthrown : Int32) (p_vax : Int32) (p_vay : Int32) (p_vaz : Int32) (p_cwas : Nat → Int32) (p_cways : Nat → Int32) (p_cnextWas : Nat → Int32) (p_cnextWays : Nat → Int32) (p_cto : Nat → Int32), f_X_turn nA nP nQ bX bY bZ bS sT nO nT sO sP tG x1 x2 x3 = some (r, o_nO, o_nT, o_sO, o_sP, o_tG) ∧ f_M_turn vthrown vpoints vplanes vaxes vax vay vaz cpx cpy cpz cplane caxis cwas cways cnextWas cnextWays cto x1 x2 x3 = some (r, p_vthrown, p_vax, p_vay, p_vaz, p_cwas, p_cways, p_cnextWas, p_cnextWays, p_cto) ∧ Rel k nA nK nP nQ bX bY bZ bA bB bC bD bS sT o_nO o_nT kQ KO KT vpoints vplanes vaxes vkept cpx cpy cpz cplane caxis p_cwas p_cways ckeptWas ckeptWays ckeptPoints := by
  obtain ⟨n, m, a, hP, hQ, hS, hA, hC, hK⟩ := id hR
  obtain ⟨eP, eV, hn, hpt, hd⟩ := id hP
  obtain ⟨eQ, eY, hm, hq⟩ := id hQ
  obtain ⟨eA, eW, ha, hax⟩ := id hA
  rcases ix_cases x1 (n := a) (by omega) with h | ⟨h0, h⟩ | ⟨i, hi, e, h0, h⟩
  · exact ⟨-1, nO, nT, sO, sP, tG, 0, vax, vay, vaz, cwas, cways, cnextWas, cnextWays, cto, by simp [f_X_turn, f_X_hasAxis, eA, h, oCall1_t], by simp [f_M_turn, f_M_isAxis, eW, h, oCall1_t], hR⟩
  · exact ⟨-1, nO, nT, sO, sP, tG, 0, vax, vay, vaz, cwas, cways, cnextWas, cnextWays, cto, by simp [f_X_turn, f_X_hasAxis, eA, h0, h, oCall1_t], by simp [f_M_turn, f_M_isAxis, eW, h0, h, oCall1_t], hR⟩
  · rcases ix_cases x2 (n := m) (by omega) with k1 | ⟨k0, k1⟩ | ⟨j, hj, e2, k0, k1⟩
    · exact ⟨-1, nO, nT, sO, sP, tG, 0, vax, vay, vaz, cwas, cways, cnextWas, cnextWays, cto, by simp [f_X_turn, f_X_hasAxis, f_B_hasPlane, eA, eQ, h0, h, k1, oCall1_t], by simp [f_M_turn, f_M_isAxis, f_M_isPlane, eW, eY, h0, h, k1, oCall1_t], hR⟩
    · exact ⟨-1, nO, nT, sO, sP, tG, 0, vax, vay, vaz, cwas, cways, cnextWas, cnextWays, cto, by simp [f_X_turn, f_X_hasAxis, f_B_hasPlane, eA, eQ, h0, h, k0, k1, oCall1_t], by simp [f_M_turn, f_M_isAxis, f_M_isPlane, eW, eY, h0, h, k0, k1, oCall1_t], hR⟩
    · by_cases t1 : x3 < 1
      · exact ⟨-1, nO, nT, sO, sP, tG, 0, vax, vay, vaz, cwas, cways, cnextWas, cnextWays, cto, by simp [f_X_turn, f_X_hasAxis, f_B_hasPlane, eA, eQ, h0, h, k0, k1, t1, oCall1_t], by simp [f_M_turn, f_M_isAxis, f_M_isPlane, eW, eY, h0, h, k0, k1, t1, oCall1_t], hR⟩
      · by_cases t2 : x3 ≤ 12
        · obtain ⟨N, hN, e3⟩ : ∃ N : Nat, N ≤ 12 ∧ x3 = nI N := by
            rcases ix_cases x3 (n := 13) (by omega) with q | ⟨q0, q⟩ | ⟨N, q1, q2, -, -⟩
            · exact absurd (Int32.lt_trans q (by decide : (0 : Int32) < 1)) t1
            · exact absurd (Int32.le_trans q t2) (by decide)
            · exact ⟨N, by omega, q2⟩
          obtain ⟨kw, r, T, F, hkw, es, r1, hf, hb, -, -, hg⟩ := law_ij hP hQ hS hA hi hj
          obtain ⟨tG', f1, f2⟩ := hf tG
          obtain ⟨c0, b1⟩ := hb (vax, vay, vaz)
          by_cases hr : r < n
          · rw [if_pos hr] at f1 b1
            refine ⟨nI (r + 1), nO, nT, sO, sP, tG', 0, c0.1, c0.2.1, c0.2.2, cwas, cways, cnextWas, cnextWays, cto, ?_, ?_, hR⟩
            · simp only [f_X_turn, f_X_hasAxis, f_B_hasPlane, eA, eQ, if_neg h0, if_neg h, if_neg k0, if_neg k1, oCall1_t, if_neg t1, if_pos t2]
              rw [if_neg (by decide), if_neg (by decide), e, e2, f1, oCall2_t, if_neg (nI_neg1 (by omega)), Int32.add_comm, nI_1]
            · simp only [f_M_turn, f_M_isAxis, f_M_isPlane, eW, eY, if_neg h0, if_neg h, if_neg k0, if_neg k1, oCall1_t, if_neg t1, if_pos t2]
              rw [if_neg (by decide), if_neg (by decide), e, e2, b1, oCall4_t, if_neg (show ¬ nI (r + 1) ≤ (0 : Int32) from nI_ge (a := 0) (by omega) (by omega))]
          · rw [if_neg hr] at f1 b1
            obtain ⟨hG, hpl, ρ, c, hok, hX, hM⟩ := hg hr
            obtain ⟨c1, pl1⟩ := hpl 0 (by omega) c0 cto
            obtain ⟨nO', nT', sO', sP', c', was', ways', nW', nY', q1, q2, q3⟩ := turn_sim (nA := nA) (nQ := nQ) (vq := vplanes) (va := vaxes) (bX := bX) (bY := bY) (bZ := bZ) (cx := cpx) (cy := cpy) (cz := cpz) (pl := cplane) (bS := bS) (ct := cpyTo cto (60 * 0) (tgv (fun p => sdN cpx cpy cpz cplane p j) T) n) (show i < 13 by omega) hN hok es hX hM (f2 hr) (fun p hp => cpy0_in hp) N 0 (by omega) 100 (by omega) nO nT sO sP c1 cwas cways cnextWas cnextWays hC
            refine ⟨0, nO', nT', sO', sP', tG', 0, c'.1, c'.2.1, c'.2.2, was', ways', nW', nY', cpyTo cto (60 * 0) (tgv (fun p => sdN cpx cpy cpz cplane p j) T) n, ?_, ?_, n, m, a, hP, hQ, hS, hA, q3, hK⟩
            · rw [eA, eQ] at q1
              simp only [f_X_turn, f_X_hasAxis, f_B_hasPlane, eA, eQ, if_neg h0, if_neg h, if_neg k0, if_neg k1, oCall1_t, if_neg t1, if_pos t2]
              rw [if_neg (by decide), if_neg (by decide), e, e2, f1, oCall2_t, if_pos rfl, e3]
              exact q1
            · rw [eW, eY] at q2
              simp only [f_M_turn, f_M_isAxis, f_M_isPlane, eW, eY, if_neg h0, if_neg h, if_neg k0, if_neg k1, oCall1_t, if_neg t1, if_pos t2]
              rw [if_neg (by decide), if_neg (by decide), e, e2, b1, oCall4_t, if_pos (by decide), show (0 : Int32) = nI 0 from rfl, pl1, oCall4_t, e3]
              exact q2
        · exact ⟨-1, nO, nT, sO, sP, tG, 0, vax, vay, vaz, cwas, cways, cnextWas, cnextWays, cto, by simp [f_X_turn, f_X_hasAxis, f_B_hasPlane, eA, eQ, h0, h, k0, k1, t1, t2, oCall1_t], by simp [f_M_turn, f_M_isAxis, f_M_isPlane, eW, eY, h0, h, k0, k1, t1, t2, oCall1_t], hR⟩
set_option maxHeartbeats 4000000 in
theorem op_rounds {k : Nat} {nA nK nP nQ : Int32} {bX bY bZ bA bB bC bD : Nat → Int32} {bS : Nat → Int64} {sT nO nT kQ : Nat → Int32} {KO KT : Nat → Nat → Int32} {vpoints vplanes vaxes vkept : Int32} {cpx cpy cpz cplane caxis cwas cways ckeptWas ckeptWays ckeptPoints : Nat → Int32} (hR : Rel k nA nK nP nQ bX bY bZ bA bB bC bD bS sT nO nT kQ KO KT vpoints vplanes vaxes vkept cpx cpy cpz cplane caxis cwas cways ckeptWas ckeptWays ckeptPoints) (rO : Nat → Int32) (rT : Nat → Int32) (sO : Nat → Int32) (sP : Nat → Int32) (tG : Nat → Int32) (vthrown : Int32) (vax : Int32) (vay : Int32) (vaz : Int32) (cnextWas : Nat → Int32) (cnextWays : Nat → Int32) (cnowWas : Nat → Int32) (cnowWays : Nat → Int32) (cto : Nat → Int32) (x1 : Int32) : ∃ (r : Int32) (o_rO : Nat → Int32) (o_rT : Nat → Int32) (o_sO : Nat → Int32) (o_sP : Nat → Int32) (o_tG : Nat → Int32) (p_vthrown : Int32) (p_vax : Int32) (p_vay : Int32) (p_vaz : Int32) (p_cwas : Nat → Int32) (p_cways : Nat → Int32) (p_cnextWas : Nat → Int32) (p_cnextWays : Nat → Int32) (p_cnowWas : Nat → Int32) (p_cnowWays : Nat → Int32) (p_cto : Nat → Int32), f_X_rounds nA nP nQ bX bY bZ bS sT rO rT sO sP tG x1 = some (r, o_rO, o_rT, o_sO, o_sP, o_tG) ∧ f_M_rounds vthrown vpoints vplanes vaxes vax vay vaz cpx cpy cpz cplane caxis cwas cways cnextWas cnextWays cnowWas cnowWays cto x1 = some (r, p_vthrown, p_vax, p_vay, p_vaz, p_cwas, p_cways, p_cnextWas, p_cnextWays, p_cnowWas, p_cnowWays, p_cto) ∧ Rel k nA nK nP nQ bX bY bZ bA bB bC bD bS sT nO nT kQ KO KT vpoints vplanes vaxes vkept cpx cpy cpz cplane caxis p_cwas p_cways ckeptWas ckeptWays ckeptPoints := by
  obtain ⟨n, m, a, hP, hQ, hS, hA, hC, hK⟩ := id hR
  obtain ⟨eP, eV, hn, hpt, hd⟩ := id hP
  obtain ⟨eQ, eY, hm, hq⟩ := id hQ
  obtain ⟨eA, eW, ha, hax⟩ := id hA
  by_cases x0 : x1 < 1
  · exact ⟨0, rO, rT, sO, sP, tG, 0, vax, vay, vaz, cwas, cways, cnextWas, cnextWays, cnowWas, cnowWays, cto, by simp [f_X_rounds, x0], by simp [f_M_rounds, x0], hR⟩
  by_cases xa : nI a < x1
  · refine ⟨0, rO, rT, sO, sP, tG, 0, vax, vay, vaz, cwas, cways, cnextWas, cnextWays, cnowWas, cnowWays, cto, by simp [f_X_rounds, x0, eA, xa], ?_, hR⟩
    by_cases x13 : (13 : Int32) < x1
    · simp [f_M_rounds, x0, x13]
    · simp [f_M_rounds, x0, x13, eW, xa]
  obtain ⟨N, hNa, eN⟩ : ∃ N : Nat, N ≤ a ∧ x1 = nI N := by
    rcases ix_cases x1 (n := a + 1) (by omega) with q | ⟨q0, q⟩ | ⟨N, q1, q2, -, -⟩
    · exact absurd (Int32.lt_trans q (by decide : (0 : Int32) < 1)) x0
    · exact absurd (Int32.lt_of_lt_of_le (nI_lt (show a < a + 1 by omega) (by omega)) q) xa
    · exact ⟨N, by omega, q2⟩
  have x13 : ¬ (13 : Int32) < x1 := by
    rw [eN]
    intro h
    have := (nI_ltI (a := 13) (by omega) (by omega)).mp h
    omega
  by_cases xm : x1 ≤ nI m
  case neg =>
    exact ⟨0, rO, rT, sO, sP, tG, 0, vax, vay, vaz, cwas, cways, cnextWas, cnextWays, cnowWas, cnowWays, cto, by simp [f_X_rounds, x0, eA, xa, eQ, xm], by simp [f_M_rounds, x0, x13, eW, xa, eY, xm], hR⟩
  have hNm : N ≤ m := by
    rw [eN] at xm
    exact (nI_leI (by omega) (by omega)).mp xm
  obtain ⟨r, D, hr, hD, hblk⟩ := row_free hP hQ hS hA hNa hNm
  have w0 : okW n (cpyTo rT 0 (fun _ => 0) 60) := fun p hp => ⟨0, by omega, by rw [cpy0_in (show p < 60 by omega)]; rfl⟩
  obtain ⟨rO', rT', sO', sP', tG', g, qX, pX⟩ := rowX (nA := nA) (nQ := nQ) (show N ≤ 13 by omega) hr hD (hO := cpyTo rO 0 nI 60) w0 r 0 (by omega) 100 (by omega) (cpyTo rO 0 nI 60) (cpyTo rT 0 (fun _ => 0) 60) sO sP tG (pb_id n _ _)
  obtain ⟨a1, g1, qM⟩ := blkM (vq := vplanes) (va := vaxes) (show N ≤ 13 by omega) hr hD cwas cways cnextWas cnextWays cnowWas cnowWays cto r 0 (by omega) 2100 (by omega) (vax, vay, vaz)
  have fX : ∀ z, f_X_rounds_L35 nA nP nQ bX bY bZ bS sT (nI N) (oLoop6 (f_X_rounds_L35 nA nP nQ bX bY bZ bS sT (nI N)) g) (nI r) rO' rT' sO' sP' tG' = some z → f_X_rounds nA nP nQ bX bY bZ bS sT rO rT sO sP tG x1 = some z := by
    intro z hz
    rw [eA, eQ] at hz qX
    simp only [f_X_rounds, eA, eQ, if_neg x0, if_neg xa, if_pos xm, fC_home, oCall2_t]
    rw [eN]
    exact qX.trans hz
  have fM : ∀ z, f_M_rounds_L36 vpoints vplanes vaxes cpx cpy cpz cplane caxis (nI N) 0 cwas cways cnextWas cnextWays cnowWas cnowWays cto (oLoop4 (f_M_rounds_L36 vpoints vplanes vaxes cpx cpy cpz cplane caxis (nI N) 0 cwas cways cnextWas cnextWays cnowWas cnowWays cto) g1) (nI r) a1.1 a1.2.1 a1.2.2 = some z → f_M_rounds vthrown vpoints vplanes vaxes vax vay vaz cpx cpy cpz cplane caxis cwas cways cnextWas cnextWays cnowWas cnowWays cto x1 = some z := by
    intro z hz
    rw [eW, eY] at hz qM
    simp only [f_M_rounds, eW, eY, if_neg x0, if_neg x13, if_neg xa, if_pos xm]
    rw [eN]
    exact qM.trans hz
  by_cases hrN : r < N
  · obtain ⟨bX1, bM1⟩ := hblk hrN
    obtain ⟨v, tG2, hv, ev⟩ := bX1 tG'
    obtain ⟨u, c0, hu, eu⟩ := bM1 a1
    refine ⟨0, rO', rT', sO', sP', tG2, 0, c0.1, c0.2.1, c0.2.2, cwas, cways, cnextWas, cnextWays, cnowWas, cnowWays, cto, fX _ ?_, fM _ ?_, hR⟩
    · simp only [f_X_rounds_L35]
      rw [if_neg (nI_ge hrN (by omega)), ev, oCall2_t, if_neg hv]
    · simp only [f_M_rounds_L36]
      rw [if_neg (nI_ge hrN (by omega)), eu, oCall4_t, if_neg hu]
  · obtain rfl : r = N := by omega
    have hok := row_ok hD r (Nat.le_refl _)
    have hO : ∀ p, p < n → rO' p = nI (rowR D r p) ∧ rT' p = nI (rowC D r p) := by
      intro p hp
      have l := hok.1 p hp
      refine ⟨by rw [(pX p hp).1, cpy0_in (show rowR D r p < 60 by omega)], ?_⟩
      rw [(pX p hp).2 0 (by omega) (by rw [cpy0_in (show rowR D r p < 60 by omega)]; rfl), (cmp_id _ l.2).2]
    obtain ⟨res, e1, alt⟩ := fX_rows hn hok hO
    have hx1 : 1 ≤ r := by
      rcases Nat.eq_zero_or_pos r with h | h
      · exact absurd (by rw [eN, h]; decide) x0
      · exact h
    obtain ⟨a2, ct2, g2, qP, hct⟩ := planM (vq := vplanes) (va := vaxes) hn (show r ≤ 13 by omega) hD cwas cways cnextWas cnextWays cnowWas cnowWays r 0 (by omega) 2100 (by omega) a1 cto (fun j hj => absurd hj (Nat.not_lt_zero j))
    have hnow : ∀ q, q < n → cpyTo cnowWas 0 cwas n q = cwas q ∧ cpyTo cnowWays 0 cways n q = cways q := fun q hq2 => ⟨cpy0_in hq2, cpy0_in hq2⟩
    have hv0 := (relC_okW hC).2
    have main : ∃ (a3 : I3) (w' v' nW' nY' : AR), oLoop9 (f_M_rounds_L122 vpoints vplanes vaxes cpx cpy cpz cplane caxis (nI r) 0 (cpyTo cnowWas 0 cwas n) (cpyTo cnowWays 0 cways n) ct2) 2100 (nI 0) 0 a2.1 a2.2.1 a2.2.2 cwas cways cnextWas cnextWays = some (res, 0, a3.1, a3.2.1, a3.2.2, cpyTo w' 0 (cpyTo cnowWas 0 cwas n) n, cpyTo v' 0 (cpyTo cnowWays 0 cways n) n, nW', nY', cpyTo cnowWas 0 cwas n, cpyTo cnowWays 0 cways n, ct2) := by
      rcases alt with ⟨L, L1, L2, L3, L4⟩ | ⟨L1, L2⟩
      · exact rowsM hn (show r ≤ 13 by omega) eV hD hct hC.2 hv0 hnow L2 (fun k k1 k2 hk => by have := Nat.le_of_dvd k1 ((L4 k).mp hk); omega) (Or.inl ⟨(L4 L).mpr (Nat.dvd_refl L), L3⟩) L1 L 0 (by omega) 2100 (by omega) 0 a2 cwas cways cnextWas cnextWays (pb_id n _ _) (fun _ => rfl) (fun h => by omega)
      · exact rowsM hn (show r ≤ 13 by omega) eV hD hct hC.2 hv0 hnow (Nat.le_refl 2000) (fun k k1 k2 hk => L2 k k1 (by omega) hk) (Or.inr ⟨L2 2000 (by omega) (by omega), rfl, L1⟩) (by omega) 2000 0 (by omega) 2100 (by omega) 0 a2 cwas cways cnextWas cnextWays (pb_id n _ _) (fun _ => rfl) (fun h => by omega)
    obtain ⟨a3, w', v', nW', nY', q3⟩ := main
    refine ⟨res, rO', rT', sO', sP', tG', 0, a3.1, a3.2.1, a3.2.2, cpyTo w' 0 (cpyTo cnowWas 0 cwas n) n, cpyTo v' 0 (cpyTo cnowWays 0 cways n) n, nW', nY', cpyTo cnowWas 0 cwas n, cpyTo cnowWays 0 cways n, ct2, fX _ ?_, fM _ ?_, n, m, a, hP, hQ, hS, hA, relC_grow hC (fun p hp => ⟨rfl, rfl, by rw [cpy0_in hp, cpy0_in hp], by rw [cpy0_in hp, cpy0_in hp]⟩), hK⟩
    · simp only [f_X_rounds_L35]
      rw [if_pos (nI_le (Nat.le_refl _) (by omega)), eP, e1, oCall1_t]
    · simp only [f_M_rounds_L36]
      rw [if_pos (nI_le (Nat.le_refl _) (by omega))]
      refine qP.trans ?_
      simp only [f_M_rounds_L60]
      rw [if_pos (nI_le (Nat.le_refl _) (by omega))]
      have h := loop3_run (f := f_M_rounds_L80 vpoints vplanes vaxes cpx cpy cpz cplane caxis (nI r) 0 a2.1 a2.2.1 a2.2.2 cwas cways cnextWas cnextWays ct2) (n := n) (fuel := 2100) (fun j => nI j) (fun j => cpyTo cnowWas 0 cwas j) (fun j => cpyTo cnowWays 0 cways j) (res, 0, a3.1, a3.2.1, a3.2.2, cpyTo w' 0 (cpyTo cnowWas 0 cwas n) n, cpyTo v' 0 (cpyTo cnowWays 0 cways n) n, nW', nY', cpyTo cnowWas 0 cwas n, cpyTo cnowWays 0 cways n, ct2) ?_ ?_ (by omega)
      · rw [cpyTo_0, cpyTo_0] at h; exact h
      · intro rec
        simp only [f_M_rounds_L80]
        rw [if_pos (by rw [eV]; exact nI_le (Nat.le_refl _) (by omega))]
        exact q3
      · intro rec p hp
        simp only [f_M_rounds_L80, oLet_t]
        rw [if_neg (by rw [eV]; exact nI_ge hp (by omega)), oIn_n (by omega) (by omega), oIn_n (by omega) (by omega), oIn_n (by omega) (by omega), oIn_n (by omega) (by omega), nI_clamp (by omega), nI_1, cpy0_s, cpy0_s]

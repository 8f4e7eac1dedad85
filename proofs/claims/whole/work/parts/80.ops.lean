set_option maxHeartbeats 4000000 in
theorem op_at {k : Nat} {nA nK nP nQ : Int32} {bX bY bZ bA bB bC bD : Nat → Int32} {bS : Nat → Int64} {sT nO nT kQ : Nat → Int32} {KO KT : Nat → Nat → Int32} {vpoints vplanes vaxes vkept : Int32} {cpx cpy cpz cplane caxis cwas cways ckeptWas ckeptWays ckeptPoints : Nat → Int32} (hR : Rel k nA nK nP nQ bX bY bZ bA bB bC bD bS sT nO nT kQ KO KT vpoints vplanes vaxes vkept cpx cpy cpz cplane caxis cwas cways ckeptWas ckeptWays ckeptPoints) (vthrown : Int32) (x1 : Int32) : ∃ (r : Int32) (p_vthrown : Int32), f_X_at nP nO x1 = some r ∧ f_M_at vthrown vpoints cwas x1 = some (r, p_vthrown) ∧ Rel k nA nK nP nQ bX bY bZ bA bB bC bD bS sT nO nT kQ KO KT vpoints vplanes vaxes vkept cpx cpy cpz cplane caxis cwas cways ckeptWas ckeptWays ckeptPoints := by
  obtain ⟨n, m, a, hP, hQ, hS, hA, hC, hK⟩ := id hR
  obtain ⟨eP, eV, hn, -, -⟩ := hP
  rcases ix_cases x1 (n := n) (by omega) with h | ⟨h0, h⟩ | ⟨i, hi, e, h0, h⟩
  · exact ⟨-1, 0, by simp [f_X_at, f_B_hasPoint, eP, h, oCall1_t], by simp [f_M_at, f_M_isPoint, eV, h, oCall1_t], hR⟩
  · exact ⟨-1, 0, by simp [f_X_at, f_B_hasPoint, eP, h0, h, oCall1_t], by simp [f_M_at, f_M_isPoint, eV, h0, h, oCall1_t], hR⟩
  · exact ⟨cwas i, 0, by simp [f_X_at, f_B_hasPoint, eP, h0, h, oCall1_t]; rw [e, oIn_n (by omega) (by omega), nI_clamp (by omega), (hC.1 i hi).1], by simp [f_M_at, f_M_isPoint, eV, h0, h, oCall1_t]; rw [e, oIn_n (by omega) (by omega), nI_clamp (by omega)], hR⟩
set_option maxHeartbeats 4000000 in
theorem op_way {k : Nat} {nA nK nP nQ : Int32} {bX bY bZ bA bB bC bD : Nat → Int32} {bS : Nat → Int64} {sT nO nT kQ : Nat → Int32} {KO KT : Nat → Nat → Int32} {vpoints vplanes vaxes vkept : Int32} {cpx cpy cpz cplane caxis cwas cways ckeptWas ckeptWays ckeptPoints : Nat → Int32} (hR : Rel k nA nK nP nQ bX bY bZ bA bB bC bD bS sT nO nT kQ KO KT vpoints vplanes vaxes vkept cpx cpy cpz cplane caxis cwas cways ckeptWas ckeptWays ckeptPoints) (vthrown : Int32) (x1 : Int32) : ∃ (r : Int32) (p_vthrown : Int32), f_X_way nP nT x1 = some r ∧ f_M_way vthrown vpoints cways x1 = some (r, p_vthrown) ∧ Rel k nA nK nP nQ bX bY bZ bA bB bC bD bS sT nO nT kQ KO KT vpoints vplanes vaxes vkept cpx cpy cpz cplane caxis cwas cways ckeptWas ckeptWays ckeptPoints := by
  obtain ⟨n, m, a, hP, hQ, hS, hA, hC, hK⟩ := id hR
  obtain ⟨eP, eV, hn, -, -⟩ := hP
  rcases ix_cases x1 (n := n) (by omega) with h | ⟨h0, h⟩ | ⟨i, hi, e, h0, h⟩
  · exact ⟨-1, 0, by simp [f_X_way, f_B_hasPoint, eP, h, oCall1_t], by simp [f_M_way, f_M_isPoint, eV, h, oCall1_t], hR⟩
  · exact ⟨-1, 0, by simp [f_X_way, f_B_hasPoint, eP, h0, h, oCall1_t], by simp [f_M_way, f_M_isPoint, eV, h0, h, oCall1_t], hR⟩
  · exact ⟨cways i, 0, by simp [f_X_way, f_B_hasPoint, eP, h0, h, oCall1_t]; rw [e, oIn_n (by omega) (by omega), nI_clamp (by omega), (hC.1 i hi).2.1], by simp [f_M_way, f_M_isPoint, eV, h0, h, oCall1_t]; rw [e, oIn_n (by omega) (by omega), nI_clamp (by omega)], hR⟩
set_option maxHeartbeats 4000000 in
theorem op_home {k : Nat} {nA nK nP nQ : Int32} {bX bY bZ bA bB bC bD : Nat → Int32} {bS : Nat → Int64} {sT nO nT kQ : Nat → Int32} {KO KT : Nat → Nat → Int32} {vpoints vplanes vaxes vkept : Int32} {cpx cpy cpz cplane caxis cwas cways ckeptWas ckeptWays ckeptPoints : Nat → Int32} (hR : Rel k nA nK nP nQ bX bY bZ bA bB bC bD bS sT nO nT kQ KO KT vpoints vplanes vaxes vkept cpx cpy cpz cplane caxis cwas cways ckeptWas ckeptWays ckeptPoints) (vthrown : Int32) : ∃ (r : Int32) (p_vthrown : Int32), f_X_home nP nO nT = some r ∧ f_M_home vthrown vpoints cwas cways = some (r, p_vthrown) ∧ Rel k nA nK nP nQ bX bY bZ bA bB bC bD bS sT nO nT kQ KO KT vpoints vplanes vaxes vkept cpx cpy cpz cplane caxis cwas cways ckeptWas ckeptWays ckeptPoints := by
  obtain ⟨n, m, a, hP, hQ, hS, hA, hC, hK⟩ := id hR
  obtain ⟨eP, eV, hn, -, -⟩ := hP
  refine ⟨_, 0, by rw [eP]; exact fX_home hn nO nT, ?_, hR⟩
  rw [eV, fM_home hn]
  congr 2
  congr 1
  exact cntN_congr (fun i hi => by rw [(hC.1 i hi).1, (hC.1 i hi).2.1])
set_option maxHeartbeats 4000000 in
theorem op_order {k : Nat} {nA nK nP nQ : Int32} {bX bY bZ bA bB bC bD : Nat → Int32} {bS : Nat → Int64} {sT nO nT kQ : Nat → Int32} {KO KT : Nat → Nat → Int32} {vpoints vplanes vaxes vkept : Int32} {cpx cpy cpz cplane caxis cwas cways ckeptWas ckeptWays ckeptPoints : Nat → Int32} (hR : Rel k nA nK nP nQ bX bY bZ bA bB bC bD bS sT nO nT kQ KO KT vpoints vplanes vaxes vkept cpx cpy cpz cplane caxis cwas cways ckeptWas ckeptWays ckeptPoints) (vthrown : Int32) (x1 : Int32) : ∃ (r : Int32) (p_vthrown : Int32), f_X_order nA sT x1 = some r ∧ f_M_order vthrown vaxes caxis x1 = some (r, p_vthrown) ∧ Rel k nA nK nP nQ bX bY bZ bA bB bC bD bS sT nO nT kQ KO KT vpoints vplanes vaxes vkept cpx cpy cpz cplane caxis cwas cways ckeptWas ckeptWays ckeptPoints := by
  obtain ⟨n, m, a, hP, hQ, hS, hA, hC, hK⟩ := id hR
  obtain ⟨eA, eV, ha, hax⟩ := hA
  rcases ix_cases x1 (n := a) (by omega) with h | ⟨h0, h⟩ | ⟨i, hi, e, h0, h⟩
  · exact ⟨0, 0, by simp [f_X_order, f_X_hasAxis, eA, h, oCall1_t], by simp [f_M_order, f_M_isAxis, eV, h, oCall1_t], hR⟩
  · exact ⟨0, 0, by simp [f_X_order, f_X_hasAxis, eA, h0, h, oCall1_t], by simp [f_M_order, f_M_isAxis, eV, h0, h, oCall1_t], hR⟩
  · obtain ⟨a1, a2, a3, hz, hst⟩ := hax i hi
    obtain ⟨k0, hk0, e1, e2⟩ := ax_tab _ (arr_L3 a1) _ (arr_L3 a2) _ (arr_L3 a3) hz
    have es : sT i = nI k0 := Option.some.inj (hst.symm.trans e1)
    refine ⟨ordV (caxis (3 * i)) (caxis (3 * i + 1)) (caxis (3 * i + 2)), 0, ?_, ?_, hR⟩
    · simp [f_X_order, f_X_hasAxis, eA, h0, h, oCall1_t]
      rw [e, oIn_n (by omega) (by omega), nI_clamp (by omega), es, e2]
      rfl
    · simp [f_M_order, f_M_isAxis, eV, h0, h, oCall1_t]
      rw [e, fM_kind (by omega), oCall1_t, oCall1_t, kind_V]
      unfold ordV
      split
      · rfl
      · split <;> rfl
theorem op_side {k : Nat} {nA nK nP nQ : Int32} {bX bY bZ bA bB bC bD : Nat → Int32} {bS : Nat → Int64} {sT nO nT kQ : Nat → Int32} {KO KT : Nat → Nat → Int32} {vpoints vplanes vaxes vkept : Int32} {cpx cpy cpz cplane caxis cwas cways ckeptWas ckeptWays ckeptPoints : Nat → Int32} (hR : Rel k nA nK nP nQ bX bY bZ bA bB bC bD bS sT nO nT kQ KO KT vpoints vplanes vaxes vkept cpx cpy cpz cplane caxis cwas cways ckeptWas ckeptWays ckeptPoints) (vthrown : Int32) (x1 : Int32) (x2 : Int32) : ∃ (r : Int32) (p_vthrown : Int32), f_X_side nP nQ bS x1 x2 = some r ∧ f_M_side vthrown vpoints vplanes cpx cpy cpz cplane x1 x2 = some (r, p_vthrown) ∧ Rel k nA nK nP nQ bX bY bZ bA bB bC bD bS sT nO nT kQ KO KT vpoints vplanes vaxes vkept cpx cpy cpz cplane caxis cwas cways ckeptWas ckeptWays ckeptPoints := by sorry
set_option maxHeartbeats 4000000 in
theorem op_axis {k : Nat} {nA nK nP nQ : Int32} {bX bY bZ bA bB bC bD : Nat → Int32} {bS : Nat → Int64} {sT nO nT kQ : Nat → Int32} {KO KT : Nat → Nat → Int32} {vpoints vplanes vaxes vkept : Int32} {cpx cpy cpz cplane caxis cwas cways ckeptWas ckeptWays ckeptPoints : Nat → Int32} (hR : Rel k nA nK nP nQ bX bY bZ bA bB bC bD bS sT nO nT kQ KO KT vpoints vplanes vaxes vkept cpx cpy cpz cplane caxis cwas cways ckeptWas ckeptWays ckeptPoints) (vthrown : Int32) (x1 : Int32) (x2 : Int32) (x3 : Int32) : ∃ (r : Int32) (o_nA : Int32) (o_sT : Nat → Int32) (p_vthrown : Int32) (p_vaxes : Int32) (p_caxis : Nat → Int32), f_X_axis nA sT x1 x2 x3 = some (r, o_nA, o_sT) ∧ f_M_axis vthrown vaxes caxis x1 x2 x3 = some (r, p_vthrown, p_vaxes, p_caxis) ∧ Rel k o_nA nK nP nQ bX bY bZ bA bB bC bD bS o_sT nO nT kQ KO KT vpoints vplanes p_vaxes vkept cpx cpy cpz cplane p_caxis cwas cways ckeptWas ckeptWays ckeptPoints := by
  obtain ⟨n, m, a, hP, hQ, hS, hA, hC, hK⟩ := id hR
  obtain ⟨eA, eV, ha, hax⟩ := hA
  by_cases h1 : x1 < -1 ∨ 1 < x1
  · exact ⟨-1, nA, sT, 0, vaxes, caxis, by simp [f_X_axis, wi_bad h1, oCall1_t], by simp [f_M_axis, ia_bad h1, oCall1_t], hR⟩
  have w1 := wi_ok (k := 1) (fun h => h1 (Or.inl h)) (fun h => h1 (Or.inr h))
  have i1 := ia_ok (fun h => h1 (Or.inl h)) (fun h => h1 (Or.inr h))
  by_cases h2 : x2 < -1 ∨ 1 < x2
  · exact ⟨-1, nA, sT, 0, vaxes, caxis, by simp [f_X_axis, w1, wi_bad h2, oCall1_t], by simp [f_M_axis, i1, ia_bad h2, oCall1_t], hR⟩
  have w2 := wi_ok (k := 1) (fun h => h2 (Or.inl h)) (fun h => h2 (Or.inr h))
  have i2 := ia_ok (fun h => h2 (Or.inl h)) (fun h => h2 (Or.inr h))
  by_cases h3 : x3 < -1 ∨ 1 < x3
  · exact ⟨-1, nA, sT, 0, vaxes, caxis, by simp [f_X_axis, w1, w2, wi_bad h3, oCall1_t], by simp [f_M_axis, i1, i2, ia_bad h3, oCall1_t], hR⟩
  have w3 := wi_ok (k := 1) (fun h => h3 (Or.inl h)) (fun h => h3 (Or.inr h))
  have i3 := ia_ok (fun h => h3 (Or.inl h)) (fun h => h3 (Or.inr h))
  by_cases hz : x1 = 0 ∧ x2 = 0 ∧ x3 = 0
  · exact ⟨-1, nA, sT, 0, vaxes, caxis, by simp [f_X_axis, w1, w2, w3, hz, oCall1_t], by simp [f_M_axis, i1, i2, i3, hz, oCall1_t], hR⟩
  by_cases hf : a = 13
  · have c1 : ¬ nI a < 13 := by rw [hf]; decide
    have c2 : nI a = 13 := by rw [hf]; rfl
    refine ⟨-1, nA, sT, 0, vaxes, caxis, ?_, ?_, hR⟩
    · simp only [f_X_axis, w1, w2, w3, oCall1_t, f_X_axis_J38, eA, if_neg c1]
      simp
    · simp only [f_M_axis, i1, i2, i3, oCall1_t, f_M_axis_J38, eV, if_pos c2]
      simp
  · have q1 := arr_of (fun h => h1 (Or.inl h)) (fun h => h1 (Or.inr h))
    have q2 := arr_of (fun h => h2 (Or.inl h)) (fun h => h2 (Or.inr h))
    have q3 := arr_of (fun h => h3 (Or.inl h)) (fun h => h3 (Or.inr h))
    obtain ⟨k0, hk0, e1, e2⟩ := ax_tab _ (arr_L3 q1) _ (arr_L3 q2) _ (arr_L3 q3) hz
    refine ⟨nI a, nI (a + 1), upd sT a (nI k0), 0, nI (a + 1), upd (upd (upd caxis (3 * a) x1) (3 * a + 1) x2) (3 * a + 2) x3, ?_, ?_, n, m, a + 1, hP, hQ, hS, ?_, hC, hK⟩
    · rw [eA]; exact fX_axis_go (by omega) sT h1 h2 h3 hz e1
    · rw [eV]; exact fM_axis_go (by omega) vthrown caxis h1 h2 h3 hz
    · refine ⟨rfl, rfl, by omega, fun i hi => ?_⟩
      by_cases hia : i = a
      · subst hia
        have u0 : upd (upd (upd caxis (3 * i) x1) (3 * i + 1) x2) (3 * i + 2) x3 (3 * i) = x1 := by
          rw [upd_at, if_neg (by omega), upd_at, if_neg (by omega), upd_at, if_pos rfl]
        have u1 : upd (upd (upd caxis (3 * i) x1) (3 * i + 1) x2) (3 * i + 2) x3 (3 * i + 1) = x2 := by
          rw [upd_at, if_neg (by omega), upd_at, if_pos rfl]
        have u2 : upd (upd (upd caxis (3 * i) x1) (3 * i + 1) x2) (3 * i + 2) x3 (3 * i + 2) = x3 := by
          rw [upd_at, if_pos rfl]
        rw [u0, u1, u2, upd_at, if_pos rfl]
        exact ⟨q1, q2, q3, hz, e1⟩
      · have hlt : i < a := by omega
        have u : ∀ j, j < 3 * a → upd (upd (upd caxis (3 * a) x1) (3 * a + 1) x2) (3 * a + 2) x3 j = caxis j := fun j hj => by
          rw [upd_at, if_neg (by omega), upd_at, if_neg (by omega), upd_at, if_neg (by omega)]
        rw [u _ (by omega), u _ (by omega), u _ (by omega), upd_at, if_neg (by omega)]
        exact hax i hlt
set_option maxHeartbeats 4000000 in
theorem op_ix {k : Nat} {nA nK nP nQ : Int32} {bX bY bZ bA bB bC bD : Nat → Int32} {bS : Nat → Int64} {sT nO nT kQ : Nat → Int32} {KO KT : Nat → Nat → Int32} {vpoints vplanes vaxes vkept : Int32} {cpx cpy cpz cplane caxis cwas cways ckeptWas ckeptWays ckeptPoints : Nat → Int32} (hR : Rel k nA nK nP nQ bX bY bZ bA bB bC bD bS sT nO nT kQ KO KT vpoints vplanes vaxes vkept cpx cpy cpz cplane caxis cwas cways ckeptWas ckeptWays ckeptPoints) {x1 : Int32} (h1 : ¬ x1 < 0) (h2 : x1 < nK) : x1.toNatClampNeg < k := by
  obtain ⟨n, m, a, hP, hQ, hS, hA, hC, hK⟩ := hR
  obtain ⟨j, hj, e⟩ := nI_of h1
  rw [e, hK.1, nI_ltI hj (by have := hK.2.2.1; omega)] at h2
  rw [e, nI_clamp hj]
  exact h2
set_option maxHeartbeats 4000000 in
theorem op_keep_no {k : Nat} {nA nK nP nQ : Int32} {bX bY bZ bA bB bC bD : Nat → Int32} {bS : Nat → Int64} {sT nO nT kQ : Nat → Int32} {KO KT : Nat → Nat → Int32} {vpoints vplanes vaxes vkept : Int32} {cpx cpy cpz cplane caxis cwas cways ckeptWas ckeptWays ckeptPoints : Nat → Int32} (hR : Rel k nA nK nP nQ bX bY bZ bA bB bC bD bS sT nO nT kQ KO KT vpoints vplanes vaxes vkept cpx cpy cpz cplane caxis cwas cways ckeptWas ckeptWays ckeptPoints) (h6 : ¬ nK < 10) (vthrown : Int32) : ∃ (r : Int32) (p_vthrown : Int32) (p_vkept : Int32) (p_ckeptWas : Nat → Int32) (p_ckeptWays : Nat → Int32) (p_ckeptPoints : Nat → Int32), f_X_keep_no nK = some r ∧ f_M_keep vthrown vpoints vkept cwas cways ckeptWas ckeptWays ckeptPoints = some (r, p_vthrown, p_vkept, p_ckeptWas, p_ckeptWays, p_ckeptPoints) ∧ Rel k nA nK nP nQ bX bY bZ bA bB bC bD bS sT nO nT kQ KO KT vpoints vplanes vaxes p_vkept cpx cpy cpz cplane caxis cwas cways p_ckeptWas p_ckeptWays p_ckeptPoints := by
  obtain ⟨n, m, a, hP, hQ, hS, hA, hC, hK⟩ := id hR
  obtain ⟨eK, eV, hk, hkk⟩ := hK
  have hk10 : k = 10 := by
    rcases Nat.lt_or_ge k 10 with h | h
    · exact absurd (by rw [eK]; exact nI_lt (b := 10) h (by omega)) h6
    · omega
  exact ⟨-1, 0, vkept, ckeptWas, ckeptWays, ckeptPoints, rfl, by simp [f_M_keep, eV, hk10, show nI 10 = 10 from rfl], hR⟩
set_option maxHeartbeats 4000000 in
theorem op_keep_yes {k : Nat} {nA nK nP nQ : Int32} {bX bY bZ bA bB bC bD : Nat → Int32} {bS : Nat → Int64} {sT nO nT kQ : Nat → Int32} {KO KT : Nat → Nat → Int32} {vpoints vplanes vaxes vkept : Int32} {cpx cpy cpz cplane caxis cwas cways ckeptWas ckeptWays ckeptPoints : Nat → Int32} (hR : Rel k nA nK nP nQ bX bY bZ bA bB bC bD bS sT nO nT kQ KO KT vpoints vplanes vaxes vkept cpx cpy cpz cplane caxis cwas cways ckeptWas ckeptWays ckeptPoints) (h6 : nK < 10) (vthrown : Int32) : nK.toNatClampNeg = k ∧ ∃ (r : Int32) (o_nK : Int32) (o_kQ o_O o_T : Nat → Int32) (p_vthrown : Int32) (p_vkept : Int32) (p_ckeptWas : Nat → Int32) (p_ckeptWays : Nat → Int32) (p_ckeptPoints : Nat → Int32), f_X_keep_yes nK nP nO nT kQ = some (r, o_nK, o_kQ, o_O, o_T) ∧ f_M_keep vthrown vpoints vkept cwas cways ckeptWas ckeptWays ckeptPoints = some (r, p_vthrown, p_vkept, p_ckeptWas, p_ckeptWays, p_ckeptPoints) ∧ Rel (k + 1) nA o_nK nP nQ bX bY bZ bA bB bC bD bS sT nO nT o_kQ (va_up KO k o_O) (va_up KT k o_T) vpoints vplanes vaxes p_vkept cpx cpy cpz cplane caxis cwas cways p_ckeptWas p_ckeptWays p_ckeptPoints := by
  obtain ⟨n, m, a, hP, hQ, hS, hA, hC, hK⟩ := id hR
  obtain ⟨eK, eV, hk, hkk⟩ := hK
  obtain ⟨eP, eW, hn, hpt, hdi⟩ := id hP
  have hk10 : k < 10 := by
    rw [eK] at h6
    exact (nI_ltI (b := 10) (by omega) (by omega)).mp h6
  refine ⟨by rw [eK]; exact nI_clamp (by omega), nI k, nI (k + 1), upd kQ k (nI n), va_cpy nO (cpyTo (fun _ => 0) 0 nI 60) 0 0 60, va_cpy nT (fun _ => 0) 0 0 60, 0, nI (k + 1), cpyTo ckeptWas (60 * k) cwas n, cpyTo ckeptWays (60 * k) cways n, upd ckeptPoints k (nI n), ?_, ?_, n, m, a, hP, hQ, hS, hA, hC, rfl, rfl, by omega, fun j hj => ?_⟩
  · simp only [f_X_keep_yes, fC_init, oCall2_t, f_C_copyFrom, oLet_t, eK, eP, oIn_n hk10 (show 10 < 2 ^ 31 by omega), nI_clamp (show k < 2 ^ 31 by omega), nI_1, nIm1]
  · rw [eV, eW]; exact fM_keep_go hn hk10 _ _ _ _ _ _
  · by_cases hjk : j = k
    · subst hjk
      refine ⟨n, Nat.le_refl n, by rw [upd_at, if_pos rfl], by rw [upd_at, if_pos rfl], ?_⟩
      rw [va_up_self, va_up_self]
      refine relC_grow hC (fun p hp => ⟨?_, ?_, cpyTo_in hp, cpyTo_in hp⟩)
      · rw [pk_cpy_in (by omega) (by omega)]; simp
      · rw [pk_cpy_in (by omega) (by omega)]; simp
    · obtain ⟨c, hc, e1, e2, hcc⟩ := hkk j (by omega)
      refine ⟨c, hc, by rw [upd_at, if_neg hjk]; exact e1, by rw [upd_at, if_neg hjk]; exact e2, ?_⟩
      rw [va_up_ne _ _ hjk, va_up_ne _ _ hjk]
      exact relC_grow hcc (fun p hp => ⟨rfl, rfl, cpyTo_out (by omega), cpyTo_out (by omega)⟩)
set_option maxHeartbeats 4000000 in
theorem op_back_neg {k : Nat} {nA nK nP nQ : Int32} {bX bY bZ bA bB bC bD : Nat → Int32} {bS : Nat → Int64} {sT nO nT kQ : Nat → Int32} {KO KT : Nat → Nat → Int32} {vpoints vplanes vaxes vkept : Int32} {cpx cpy cpz cplane caxis cwas cways ckeptWas ckeptWays ckeptPoints : Nat → Int32} (hR : Rel k nA nK nP nQ bX bY bZ bA bB bC bD bS sT nO nT kQ KO KT vpoints vplanes vaxes vkept cpx cpy cpz cplane caxis cwas cways ckeptWas ckeptWays ckeptPoints) (vthrown : Int32) (x1 : Int32) (h1 : x1 < 0) : ∃ (r : Int32) (p_vthrown : Int32) (p_cwas : Nat → Int32) (p_cways : Nat → Int32), f_X_back_neg x1 = some r ∧ f_M_back vthrown vpoints vkept cwas cways ckeptWas ckeptWays ckeptPoints x1 = some (r, p_vthrown, p_cwas, p_cways) ∧ Rel k nA nK nP nQ bX bY bZ bA bB bC bD bS sT nO nT kQ KO KT vpoints vplanes vaxes vkept cpx cpy cpz cplane caxis p_cwas p_cways ckeptWas ckeptWays ckeptPoints := by
  exact ⟨0, 0, cwas, cways, rfl, by simp [f_M_back, h1], hR⟩
set_option maxHeartbeats 4000000 in
theorem op_back_big {k : Nat} {nA nK nP nQ : Int32} {bX bY bZ bA bB bC bD : Nat → Int32} {bS : Nat → Int64} {sT nO nT kQ : Nat → Int32} {KO KT : Nat → Nat → Int32} {vpoints vplanes vaxes vkept : Int32} {cpx cpy cpz cplane caxis cwas cways ckeptWas ckeptWays ckeptPoints : Nat → Int32} (hR : Rel k nA nK nP nQ bX bY bZ bA bB bC bD bS sT nO nT kQ KO KT vpoints vplanes vaxes vkept cpx cpy cpz cplane caxis cwas cways ckeptWas ckeptWays ckeptPoints) (vthrown : Int32) (x1 : Int32) (h1 : ¬ x1 < 0) (h2 : ¬ x1 < nK) : ∃ (r : Int32) (p_vthrown : Int32) (p_cwas : Nat → Int32) (p_cways : Nat → Int32), f_X_back_big nK x1 = some r ∧ f_M_back vthrown vpoints vkept cwas cways ckeptWas ckeptWays ckeptPoints x1 = some (r, p_vthrown, p_cwas, p_cways) ∧ Rel k nA nK nP nQ bX bY bZ bA bB bC bD bS sT nO nT kQ KO KT vpoints vplanes vaxes vkept cpx cpy cpz cplane caxis p_cwas p_cways ckeptWas ckeptWays ckeptPoints := by
  obtain ⟨n, m, a, hP, hQ, hS, hA, hC, hK⟩ := id hR
  obtain ⟨eK, eV, hk, hkk⟩ := hK
  exact ⟨0, 0, cwas, cways, rfl, by rw [eK] at h2; simp only [f_M_back, eV, if_neg h1, if_pos (Int32.not_lt.mp h2)], hR⟩
set_option maxHeartbeats 4000000 in
theorem op_back_came {k : Nat} {nA nK nP nQ : Int32} {bX bY bZ bA bB bC bD : Nat → Int32} {bS : Nat → Int64} {sT nO nT kQ : Nat → Int32} {KO KT : Nat → Nat → Int32} {vpoints vplanes vaxes vkept : Int32} {cpx cpy cpz cplane caxis cwas cways ckeptWas ckeptWays ckeptPoints : Nat → Int32} (hR : Rel k nA nK nP nQ bX bY bZ bA bB bC bD bS sT nO nT kQ KO KT vpoints vplanes vaxes vkept cpx cpy cpz cplane caxis cwas cways ckeptWas ckeptWays ckeptPoints) (vthrown : Int32) (x1 : Int32) (h1 : ¬ x1 < 0) (h2 : x1 < nK) (h3 : ¬ (kQ x1.toNatClampNeg) = nP) : ∃ (r : Int32) (p_vthrown : Int32) (p_cwas : Nat → Int32) (p_cways : Nat → Int32), f_X_back_came nK nP kQ x1 = some r ∧ f_M_back vthrown vpoints vkept cwas cways ckeptWas ckeptWays ckeptPoints x1 = some (r, p_vthrown, p_cwas, p_cways) ∧ Rel k nA nK nP nQ bX bY bZ bA bB bC bD bS sT nO nT kQ KO KT vpoints vplanes vaxes vkept cpx cpy cpz cplane caxis p_cwas p_cways ckeptWas ckeptWays ckeptPoints := by
  have hix := op_ix hR h1 h2
  obtain ⟨n, m, a, hP, hQ, hS, hA, hC, hK⟩ := id hR
  obtain ⟨eK, eV, hk, hkk⟩ := hK
  obtain ⟨eP, eW, hn, -, -⟩ := hP
  obtain ⟨j, hj, e⟩ := nI_of h1
  rw [e, nI_clamp hj] at hix
  rw [e, nI_clamp hj] at h3
  obtain ⟨c, hc, e1, e2, -⟩ := hkk j hix
  have hne : ¬ ckeptPoints j = nI n := fun q => h3 (by rw [e1, eP, ← q, e2])
  refine ⟨0, 0, cwas, cways, ?_, ?_, hR⟩
  · simp only [f_X_back_came, e, oIn_n (show j < 10 by omega) (show 10 < 2 ^ 31 by omega)]
  · simp only [f_M_back, e, eV, eW]
    rw [if_neg (nI_pos (by omega)), if_neg (nI_ge hix (by omega)), oIn_n (by omega) (by omega), nI_clamp (by omega), if_neg hne]
set_option maxHeartbeats 4000000 in
theorem op_back_yes {k : Nat} {nA nK nP nQ : Int32} {bX bY bZ bA bB bC bD : Nat → Int32} {bS : Nat → Int64} {sT nO nT kQ : Nat → Int32} {KO KT : Nat → Nat → Int32} {vpoints vplanes vaxes vkept : Int32} {cpx cpy cpz cplane caxis cwas cways ckeptWas ckeptWays ckeptPoints : Nat → Int32} (hR : Rel k nA nK nP nQ bX bY bZ bA bB bC bD bS sT nO nT kQ KO KT vpoints vplanes vaxes vkept cpx cpy cpz cplane caxis cwas cways ckeptWas ckeptWays ckeptPoints) (vthrown : Int32) (x1 : Int32) (h1 : ¬ x1 < 0) (h2 : x1 < nK) (h3 : (kQ x1.toNatClampNeg) = nP) : ∃ (r : Int32) (o_nO o_nT : Nat → Int32) (p_vthrown : Int32) (p_cwas : Nat → Int32) (p_cways : Nat → Int32), f_X_back_yes nK nP nO nT kQ (KO x1.toNatClampNeg) (KT x1.toNatClampNeg) x1 = some (r, o_nO, o_nT) ∧ f_M_back vthrown vpoints vkept cwas cways ckeptWas ckeptWays ckeptPoints x1 = some (r, p_vthrown, p_cwas, p_cways) ∧ Rel k nA nK nP nQ bX bY bZ bA bB bC bD bS sT o_nO o_nT kQ KO KT vpoints vplanes vaxes vkept cpx cpy cpz cplane caxis p_cwas p_cways ckeptWas ckeptWays ckeptPoints := by
  have hix := op_ix hR h1 h2
  obtain ⟨n, m, a, hP, hQ, hS, hA, hC, hK⟩ := id hR
  obtain ⟨eK, eV, hk, hkk⟩ := id hK
  obtain ⟨eP, eW, hn, -, -⟩ := id hP
  obtain ⟨j, hj, e⟩ := nI_of h1
  subst e
  rw [nI_clamp hj] at hix h3 ⊢
  obtain ⟨c, hc, e1, e2, hcc⟩ := hkk j hix
  have ec : c = n := by
    rw [e1, eP] at h3
    exact (nI_eq (by omega) (by omega)).mp h3
  subst ec
  refine ⟨1, va_cpy (KO j) nO 0 0 60, va_cpy (KT j) nT 0 0 60, 0, cpyTo cwas 0 (fun p => ckeptWas (60 * j + p)) c, cpyTo cways 0 (fun p => ckeptWays (60 * j + p)) c, ?_, ?_, c, m, a, hP, hQ, hS, hA, ?_, hK⟩
  · simp only [f_X_back_yes, oIn_n (show j < 10 by omega) (show 10 < 2 ^ 31 by omega), f_C_copyFrom, oLet_t, oCall2_t]
  · rw [eV, eW]; exact fM_back_go hn hix (by omega) _ _ _ _ _ _ e2
  · refine relC_grow hcc (fun p hp => ⟨?_, ?_, ?_, ?_⟩)
    · rw [pk_cpy_in (by omega) (by omega)]; simp
    · rw [pk_cpy_in (by omega) (by omega)]; simp
    · have := cpyTo_in (f := cwas) (g := fun p => ckeptWas (60 * j + p)) (b := 0) hp
      rw [Nat.zero_add] at this; exact this
    · have := cpyTo_in (f := cways) (g := fun p => ckeptWays (60 * j + p)) (b := 0) hp
      rw [Nat.zero_add] at this; exact this
theorem op_init : ∃ (o_nA : Int32) (o_nK : Int32) (o_nP : Int32) (o_nQ : Int32) (o_bX : Nat → Int32) (o_bY : Nat → Int32) (o_bZ : Nat → Int32) (o_bA : Nat → Int32) (o_bB : Nat → Int32) (o_bC : Nat → Int32) (o_bD : Nat → Int32) (o_bS : Nat → Int64) (o_sT : Nat → Int32) (o_nO : Nat → Int32) (o_nT : Nat → Int32) (o_rO : Nat → Int32) (o_rT : Nat → Int32) (o_sO : Nat → Int32) (o_sP : Nat → Int32) (o_tG : Nat → Int32) (o_kQ : Nat → Int32) (p_cpx : Nat → Int32) (p_cpy : Nat → Int32) (p_cpz : Nat → Int32) (p_cplane : Nat → Int32) (p_caxis : Nat → Int32) (p_cwas : Nat → Int32) (p_cways : Nat → Int32) (p_ckeptWas : Nat → Int32) (p_ckeptWays : Nat → Int32) (p_ckeptPoints : Nat → Int32) (p_cnextWas : Nat → Int32) (p_cnextWays : Nat → Int32) (p_cnowWas : Nat → Int32) (p_cnowWays : Nat → Int32) (p_cto : Nat → Int32), f_X_init 0 0 = some (o_nA, o_nK, o_nP, o_nQ, o_bX, o_bY, o_bZ, o_bA, o_bB, o_bC, o_bD, o_bS, o_sT, o_nO, o_nT, o_rO, o_rT, o_sO, o_sP, o_tG, o_kQ) ∧ f_M_init = some (p_cpx, p_cpy, p_cpz, p_cplane, p_caxis, p_cwas, p_cways, p_ckeptWas, p_ckeptWays, p_ckeptPoints, p_cnextWas, p_cnextWays, p_cnowWas, p_cnowWays, p_cto) ∧ ∀ KO KT, Rel 0 o_nA o_nK o_nP o_nQ o_bX o_bY o_bZ o_bA o_bB o_bC o_bD o_bS o_sT o_nO o_nT o_kQ KO KT 0 0 0 0 p_cpx p_cpy p_cpz p_cplane p_caxis p_cwas p_cways p_ckeptWas p_ckeptWays p_ckeptPoints := by sorry
theorem op_plane {k : Nat} {nA nK nP nQ : Int32} {bX bY bZ bA bB bC bD : Nat → Int32} {bS : Nat → Int64} {sT nO nT kQ : Nat → Int32} {KO KT : Nat → Nat → Int32} {vpoints vplanes vaxes vkept : Int32} {cpx cpy cpz cplane caxis cwas cways ckeptWas ckeptWays ckeptPoints : Nat → Int32} (hR : Rel k nA nK nP nQ bX bY bZ bA bB bC bD bS sT nO nT kQ KO KT vpoints vplanes vaxes vkept cpx cpy cpz cplane caxis cwas cways ckeptWas ckeptWays ckeptPoints) (vthrown : Int32) (x1 : Int32) (x2 : Int32) (x3 : Int32) (x4 : Int32) : ∃ (r : Int32) (o_nQ : Int32) (o_bA : Nat → Int32) (o_bB : Nat → Int32) (o_bC : Nat → Int32) (o_bD : Nat → Int32) (o_bS : Nat → Int64) (p_vthrown : Int32) (p_vplanes : Int32) (p_cplane : Nat → Int32), f_X_plane nP nQ bX bY bZ bA bB bC bD bS x1 x2 x3 x4 = some (r, o_nQ, o_bA, o_bB, o_bC, o_bD, o_bS) ∧ f_M_plane vthrown vplanes cplane x1 x2 x3 x4 = some (r, p_vthrown, p_vplanes, p_cplane) ∧ Rel k nA nK nP o_nQ bX bY bZ o_bA o_bB o_bC o_bD o_bS sT nO nT kQ KO KT vpoints p_vplanes vaxes vkept cpx cpy cpz p_cplane caxis cwas cways ckeptWas ckeptWays ckeptPoints := by sorry
theorem op_point {k : Nat} {nA nK nP nQ : Int32} {bX bY bZ bA bB bC bD : Nat → Int32} {bS : Nat → Int64} {sT nO nT kQ : Nat → Int32} {KO KT : Nat → Nat → Int32} {vpoints vplanes vaxes vkept : Int32} {cpx cpy cpz cplane caxis cwas cways ckeptWas ckeptWays ckeptPoints : Nat → Int32} (hR : Rel k nA nK nP nQ bX bY bZ bA bB bC bD bS sT nO nT kQ KO KT vpoints vplanes vaxes vkept cpx cpy cpz cplane caxis cwas cways ckeptWas ckeptWays ckeptPoints) (vthrown : Int32) (x1 : Int32) (x2 : Int32) (x3 : Int32) : ∃ (r : Int32) (o_nP : Int32) (o_bX : Nat → Int32) (o_bY : Nat → Int32) (o_bZ : Nat → Int32) (o_bS : Nat → Int64) (o_nO : Nat → Int32) (o_nT : Nat → Int32) (p_vthrown : Int32) (p_vpoints : Int32) (p_cpx : Nat → Int32) (p_cpy : Nat → Int32) (p_cpz : Nat → Int32) (p_cwas : Nat → Int32) (p_cways : Nat → Int32), f_X_point nP nQ bX bY bZ bA bB bC bD bS nO nT x1 x2 x3 = some (r, o_nP, o_bX, o_bY, o_bZ, o_bS, o_nO, o_nT) ∧ f_M_point vthrown vpoints cpx cpy cpz cwas cways x1 x2 x3 = some (r, p_vthrown, p_vpoints, p_cpx, p_cpy, p_cpz, p_cwas, p_cways) ∧ Rel k nA nK o_nP nQ o_bX o_bY o_bZ bA bB bC bD o_bS sT o_nO o_nT kQ KO KT p_vpoints vplanes vaxes vkept p_cpx p_cpy p_cpz cplane caxis p_cwas p_cways ckeptWas ckeptWays ckeptPoints := by sorry
theorem op_cube {k : Nat} {nA nK nP nQ : Int32} {bX bY bZ bA bB bC bD : Nat → Int32} {bS : Nat → Int64} {sT nO nT kQ : Nat → Int32} {KO KT : Nat → Nat → Int32} {vpoints vplanes vaxes vkept : Int32} {cpx cpy cpz cplane caxis cwas cways ckeptWas ckeptWays ckeptPoints : Nat → Int32} (hR : Rel k nA nK nP nQ bX bY bZ bA bB bC bD bS sT nO nT kQ KO KT vpoints vplanes vaxes vkept cpx cpy cpz cplane caxis cwas cways ckeptWas ckeptWays ckeptPoints) (vthrown : Int32) (x1 : Int32) : ∃ (r : Int32) (o_nP : Int32) (o_bX : Nat → Int32) (o_bY : Nat → Int32) (o_bZ : Nat → Int32) (o_bS : Nat → Int64) (o_nO : Nat → Int32) (o_nT : Nat → Int32) (p_vthrown : Int32) (p_vpoints : Int32) (p_cpx : Nat → Int32) (p_cpy : Nat → Int32) (p_cpz : Nat → Int32) (p_cwas : Nat → Int32) (p_cways : Nat → Int32), f_X_cube nP nQ bX bY bZ bA bB bC bD bS nO nT x1 = some (r, o_nP, o_bX, o_bY, o_bZ, o_bS, o_nO, o_nT) ∧ f_M_cube vthrown vpoints cpx cpy cpz cwas cways x1 = some (r, p_vthrown, p_vpoints, p_cpx, p_cpy, p_cpz, p_cwas, p_cways) ∧ Rel k nA nK o_nP nQ o_bX o_bY o_bZ bA bB bC bD o_bS sT o_nO o_nT kQ KO KT p_vpoints vplanes vaxes vkept p_cpx p_cpy p_cpz cplane caxis p_cwas p_cways ckeptWas ckeptWays ckeptPoints := by sorry
theorem op_pieces {k : Nat} {nA nK nP nQ : Int32} {bX bY bZ bA bB bC bD : Nat → Int32} {bS : Nat → Int64} {sT nO nT kQ : Nat → Int32} {KO KT : Nat → Nat → Int32} {vpoints vplanes vaxes vkept : Int32} {cpx cpy cpz cplane caxis cwas cways ckeptWas ckeptWays ckeptPoints : Nat → Int32} (hR : Rel k nA nK nP nQ bX bY bZ bA bB bC bD bS sT nO nT kQ KO KT vpoints vplanes vaxes vkept cpx cpy cpz cplane caxis cwas cways ckeptWas ckeptWays ckeptPoints) (vthrown : Int32) : ∃ (r : Int32) (p_vthrown : Int32), f_X_pieces nP bS = some r ∧ f_M_pieces vthrown vpoints vplanes cpx cpy cpz cplane = some (r, p_vthrown) ∧ Rel k nA nK nP nQ bX bY bZ bA bB bC bD bS sT nO nT kQ KO KT vpoints vplanes vaxes vkept cpx cpy cpz cplane caxis cwas cways ckeptWas ckeptWays ckeptPoints := by sorry
theorem op_piece {k : Nat} {nA nK nP nQ : Int32} {bX bY bZ bA bB bC bD : Nat → Int32} {bS : Nat → Int64} {sT nO nT kQ : Nat → Int32} {KO KT : Nat → Nat → Int32} {vpoints vplanes vaxes vkept : Int32} {cpx cpy cpz cplane caxis cwas cways ckeptWas ckeptWays ckeptPoints : Nat → Int32} (hR : Rel k nA nK nP nQ bX bY bZ bA bB bC bD bS sT nO nT kQ KO KT vpoints vplanes vaxes vkept cpx cpy cpz cplane caxis cwas cways ckeptWas ckeptWays ckeptPoints) (vthrown : Int32) (x1 : Int32) : ∃ (r : Int32) (p_vthrown : Int32), f_X_piece nP bS x1 = some r ∧ f_M_piece vthrown vpoints vplanes cpx cpy cpz cplane x1 = some (r, p_vthrown) ∧ Rel k nA nK nP nQ bX bY bZ bA bB bC bD bS sT nO nT kQ KO KT vpoints vplanes vaxes vkept cpx cpy cpz cplane caxis cwas cways ckeptWas ckeptWays ckeptPoints := by sorry
theorem op_image {k : Nat} {nA nK nP nQ : Int32} {bX bY bZ bA bB bC bD : Nat → Int32} {bS : Nat → Int64} {sT nO nT kQ : Nat → Int32} {KO KT : Nat → Nat → Int32} {vpoints vplanes vaxes vkept : Int32} {cpx cpy cpz cplane caxis cwas cways ckeptWas ckeptWays ckeptPoints : Nat → Int32} (hR : Rel k nA nK nP nQ bX bY bZ bA bB bC bD bS sT nO nT kQ KO KT vpoints vplanes vaxes vkept cpx cpy cpz cplane caxis cwas cways ckeptWas ckeptWays ckeptPoints) (vthrown : Int32) (vax : Int32) (vay : Int32) (vaz : Int32) (x1 : Int32) (x2 : Int32) : ∃ (r : Int32) (p_vthrown : Int32) (p_vax : Int32) (p_vay : Int32) (p_vaz : Int32), f_X_image nA nP bX bY bZ sT x1 x2 = some r ∧ f_M_image vthrown vpoints vaxes vax vay vaz cpx cpy cpz caxis x1 x2 = some (r, p_vthrown, p_vax, p_vay, p_vaz) ∧ Rel k nA nK nP nQ bX bY bZ bA bB bC bD bS sT nO nT kQ KO KT vpoints vplanes vaxes vkept cpx cpy cpz cplane caxis cwas cways ckeptWas ckeptWays ckeptPoints := by sorry
theorem op_maps {k : Nat} {nA nK nP nQ : Int32} {bX bY bZ bA bB bC bD : Nat → Int32} {bS : Nat → Int64} {sT nO nT kQ : Nat → Int32} {KO KT : Nat → Nat → Int32} {vpoints vplanes vaxes vkept : Int32} {cpx cpy cpz cplane caxis cwas cways ckeptWas ckeptWays ckeptPoints : Nat → Int32} (hR : Rel k nA nK nP nQ bX bY bZ bA bB bC bD bS sT nO nT kQ KO KT vpoints vplanes vaxes vkept cpx cpy cpz cplane caxis cwas cways ckeptWas ckeptWays ckeptPoints) (vthrown : Int32) (vax : Int32) (vay : Int32) (vaz : Int32) (x1 : Int32) : ∃ (r : Int32) (p_vthrown : Int32) (p_vax : Int32) (p_vay : Int32) (p_vaz : Int32), f_X_maps nA nP nQ bX bY bZ bA bB bC bD sT x1 = some r ∧ f_M_maps vthrown vpoints vplanes vaxes vax vay vaz cpx cpy cpz cplane caxis x1 = some (r, p_vthrown, p_vax, p_vay, p_vaz) ∧ Rel k nA nK nP nQ bX bY bZ bA bB bC bD bS sT nO nT kQ KO KT vpoints vplanes vaxes vkept cpx cpy cpz cplane caxis cwas cways ckeptWas ckeptWays ckeptPoints := by sorry
theorem op_cycle {k : Nat} {nA nK nP nQ : Int32} {bX bY bZ bA bB bC bD : Nat → Int32} {bS : Nat → Int64} {sT nO nT kQ : Nat → Int32} {KO KT : Nat → Nat → Int32} {vpoints vplanes vaxes vkept : Int32} {cpx cpy cpz cplane caxis cwas cways ckeptWas ckeptWays ckeptPoints : Nat → Int32} (hR : Rel k nA nK nP nQ bX bY bZ bA bB bC bD bS sT nO nT kQ KO KT vpoints vplanes vaxes vkept cpx cpy cpz cplane caxis cwas cways ckeptWas ckeptWays ckeptPoints) (tG : Nat → Int32) (vthrown : Int32) (vax : Int32) (vay : Int32) (vaz : Int32) (x1 : Int32) (x2 : Int32) (x3 : Int32) : ∃ (r : Int32) (o_tG : Nat → Int32) (p_vthrown : Int32) (p_vax : Int32) (p_vay : Int32) (p_vaz : Int32), f_X_cycle nA nP nQ bX bY bZ bS sT tG x1 x2 x3 = some (r, o_tG) ∧ f_M_cycle vthrown vpoints vplanes vaxes vax vay vaz cpx cpy cpz cplane caxis x1 x2 x3 = some (r, p_vthrown, p_vax, p_vay, p_vaz) ∧ Rel k nA nK nP nQ bX bY bZ bA bB bC bD bS sT nO nT kQ KO KT vpoints vplanes vaxes vkept cpx cpy cpz cplane caxis cwas cways ckeptWas ckeptWays ckeptPoints := by sorry
theorem op_turn {k : Nat} {nA nK nP nQ : Int32} {bX bY bZ bA bB bC bD : Nat → Int32} {bS : Nat → Int64} {sT nO nT kQ : Nat → Int32} {KO KT : Nat → Nat → Int32} {vpoints vplanes vaxes vkept : Int32} {cpx cpy cpz cplane caxis cwas cways ckeptWas ckeptWays ckeptPoints : Nat → Int32} (hR : Rel k nA nK nP nQ bX bY bZ bA bB bC bD bS sT nO nT kQ KO KT vpoints vplanes vaxes vkept cpx cpy cpz cplane caxis cwas cways ckeptWas ckeptWays ckeptPoints) (sO : Nat → Int32) (sP : Nat → Int32) (tG : Nat → Int32) (vthrown : Int32) (vax : Int32) (vay : Int32) (vaz : Int32) (cnextWas : Nat → Int32) (cnextWays : Nat → Int32) (cto : Nat → Int32) (x1 : Int32) (x2 : Int32) (x3 : Int32) : ∃ (r : Int32) (o_nO : Nat → Int32) (o_nT : Nat → Int32) (o_sO : Nat → Int32) (o_sP : Nat → Int32) (o_tG : Nat → Int32) (p_vthrown : Int32) (p_vax : Int32) (p_vay : Int32) (p_vaz : Int32) (p_cwas : Nat → Int32) (p_cways : Nat → Int32) (p_cnextWas : Nat → Int32) (p_cnextWays : Nat → Int32) (p_cto : Nat → Int32), f_X_turn nA nP nQ bX bY bZ bS sT nO nT sO sP tG x1 x2 x3 = some (r, o_nO, o_nT, o_sO, o_sP, o_tG) ∧ f_M_turn vthrown vpoints vplanes vaxes vax vay vaz cpx cpy cpz cplane caxis cwas cways cnextWas cnextWays cto x1 x2 x3 = some (r, p_vthrown, p_vax, p_vay, p_vaz, p_cwas, p_cways, p_cnextWas, p_cnextWays, p_cto) ∧ Rel k nA nK nP nQ bX bY bZ bA bB bC bD bS sT o_nO o_nT kQ KO KT vpoints vplanes vaxes vkept cpx cpy cpz cplane caxis p_cwas p_cways ckeptWas ckeptWays ckeptPoints := by sorry
theorem op_rounds {k : Nat} {nA nK nP nQ : Int32} {bX bY bZ bA bB bC bD : Nat → Int32} {bS : Nat → Int64} {sT nO nT kQ : Nat → Int32} {KO KT : Nat → Nat → Int32} {vpoints vplanes vaxes vkept : Int32} {cpx cpy cpz cplane caxis cwas cways ckeptWas ckeptWays ckeptPoints : Nat → Int32} (hR : Rel k nA nK nP nQ bX bY bZ bA bB bC bD bS sT nO nT kQ KO KT vpoints vplanes vaxes vkept cpx cpy cpz cplane caxis cwas cways ckeptWas ckeptWays ckeptPoints) (rO : Nat → Int32) (rT : Nat → Int32) (sO : Nat → Int32) (sP : Nat → Int32) (tG : Nat → Int32) (vthrown : Int32) (vax : Int32) (vay : Int32) (vaz : Int32) (cnextWas : Nat → Int32) (cnextWays : Nat → Int32) (cnowWas : Nat → Int32) (cnowWays : Nat → Int32) (cto : Nat → Int32) (x1 : Int32) : ∃ (r : Int32) (o_rO : Nat → Int32) (o_rT : Nat → Int32) (o_sO : Nat → Int32) (o_sP : Nat → Int32) (o_tG : Nat → Int32) (p_vthrown : Int32) (p_vax : Int32) (p_vay : Int32) (p_vaz : Int32) (p_cwas : Nat → Int32) (p_cways : Nat → Int32) (p_cnextWas : Nat → Int32) (p_cnextWays : Nat → Int32) (p_cnowWas : Nat → Int32) (p_cnowWays : Nat → Int32) (p_cto : Nat → Int32), f_X_rounds nA nP nQ bX bY bZ bS sT rO rT sO sP tG x1 = some (r, o_rO, o_rT, o_sO, o_sP, o_tG) ∧ f_M_rounds vthrown vpoints vplanes vaxes vax vay vaz cpx cpy cpz cplane caxis cwas cways cnextWas cnextWays cnowWas cnowWays cto x1 = some (r, p_vthrown, p_vax, p_vay, p_vaz, p_cwas, p_cways, p_cnextWas, p_cnextWays, p_cnowWas, p_cnowWays, p_cto) ∧ Rel k nA nK nP nQ bX bY bZ bA bB bC bD bS sT nO nT kQ KO KT vpoints vplanes vaxes vkept cpx cpy cpz cplane caxis p_cwas p_cways ckeptWas ckeptWays ckeptPoints := by sorry

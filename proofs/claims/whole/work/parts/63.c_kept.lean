set_option maxHeartbeats 4000000 in
set_option maxRecDepth 100000 in
theorem c_X_keep_no (l : Launch) (dC : Nat → ClassId) (dI : Nat → Nat → Nat) (qX qB qSt qN qR qS qTg qKp qKq qBx qBy qBz qBa qBb qBc qBd qBs qNo qNt qRo qRt qSo qSp : Nat) (cI cJ cQ : ClassId) (nA : Int32) (nK : Int32) (nP : Int32) (nQ : Int32) (bX : Nat → Int32) (bY : Nat → Int32) (bZ : Nat → Int32) (bA : Nat → Int32) (bB : Nat → Int32) (bC : Nat → Int32) (bD : Nat → Int32) (bS : Nat → Int64) (sT : Nat → Int32) (nO : Nat → Int32) (nT : Nat → Int32) (rO : Nat → Int32) (rT : Nat → Int32) (sO : Nat → Int32) (sP : Nat → Int32) (tG : Nat → Int32) (kQ : Nat → Int32) (r_ : Int32) (ha_6 : ¬ (nK < 10)) (hf : f_X_keep_no nK = some r_) : Met l y_X_keep w_X_keep ({ frames := 0, cells := 0, slots := 0, locals := 0 }) (va_Pc [.ref qX] (fun U => va_P (dC, dI) vwCl (w_X qX qB qSt qN qR qS qTg qKp qKq qBx qBy qBz qBa qBb qBc qBd qBs qNo qNt qRo qRt qSo qSp cI cJ nA nK nP nQ bX bY bZ bA bB bC bD bS sT nO nT rO rT sO sP tG kQ) U.heap ∧ va_K (dC, dI) vwCl [(cI, .int), (cJ, .long), (cQ, .object "CutBodies$Contents")] U ∧ nestZ U)) (vp_Si (fun r9 => r9 = r_)) 0 0 (fun _ => False) := by
  refine Met.ofW (cc := b_X_keep) (maxL := 2) (ret := (some .int)) (by decide) rfl ?_
  intro p e s m args below meth c s₁ B hml hv
  obtain ⟨rfl, hP, hK, hZ⟩ := hv
  have hx := B.exec
  have hb := B.bytes
  have hr := B.returns
  have hts := atoms_spec (ws := w_X_keep) B.pre
  have ht : ∀ w ∈ wAll, w.before _ s = true := fun w h => hts w (List.mem_cons_of_mem _ h)
  have hown : s.vm.findClass R_X = some m.cls := findClass_of_methodNamed B.named
  have hlocks := B.notSynchronized
  have hP : va_P (dC, dI) vwCl (w_X qX qB qSt qN qR qS qTg qKp qKq qBx qBy qBz qBa qBb qBc qBd qBs qNo qNt qRo qRt qSo qSp cI cJ nA nK nP nQ bX bY bZ bA bB bC bD bS sT nO nT rO rT sO sP tG kQ) s.heap := hP
  have hl := lv_entry ([.ref qX]) (n := 2) (Nat.le_of_ble_eq_true rfl)
  rw [lg_entry_eq]
  generalize (lg_sl ([.ref qX]) ++ List.replicate (2 - (lg_sl ([.ref qX])).length) Slot.unset).toArray = ls at hl ⊢
  have hl : lv_has ls 2 [(0, .ref qX)] := hl
  unfold f_X_keep_no at hf
  refine lv_aload_n hx hb d_X_keep_0 rfl (lv_at hl 0 rfl) ?_
  refine va_get (D := (dC, dI)) (ci := 2) (v := .int nK) (C := R_X) (T := T_X) (N := 10) hx hb ht in_X hown hK hP 0 rfl rfl 9 (by decide) (ht _ m_109) (fun _ h9 => h9) rfl d_X_keep_1 ?_
  refine lv_bipush (v := 10) hx hb d_X_keep_4 (by decide) ?_
  refine lv_icmp_lt (tgt := 11) hx hb d_X_keep_6 (by decide) (fun c9 => (ha_6 c9).elim) (fun _ => ?_)
  refine lv_iconst (v := (-1)) hx hb d_X_keep_9 (by decide) ?_
  cases hf
  exact W.iret hx hb hr (fun t ht hW => ⟨_, rfl, rfl, ht⟩) (fun q h => by cases h) d_X_keep_10
set_option maxHeartbeats 4000000 in
set_option maxRecDepth 100000 in
theorem c_X_keep_yes (l : Launch) (dC : Nat → ClassId) (dI : Nat → Nat → Nat) (qX qB qSt qN qR qS qTg qKp qKq qBx qBy qBz qBa qBb qBc qBd qBs qNo qNt qRo qRt qSo qSp : Nat) (cI cJ cQ : ClassId) (sz : Nat) (nA : Int32) (nK : Int32) (nP : Int32) (nQ : Int32) (bX : Nat → Int32) (bY : Nat → Int32) (bZ : Nat → Int32) (bA : Nat → Int32) (bB : Nat → Int32) (bC : Nat → Int32) (bD : Nat → Int32) (bS : Nat → Int64) (sT : Nat → Int32) (nO : Nat → Int32) (nT : Nat → Int32) (rO : Nat → Int32) (rT : Nat → Int32) (sO : Nat → Int32) (sP : Nat → Int32) (tG : Nat → Int32) (kQ : Nat → Int32) (kP : Nat → Option Nat) (r_ : Int32) (o_nK : Int32) (o_kQ : Nat → Int32) (o_u15_w7 : Nat → Int32) (o_u15_w15 : Nat → Int32) (ha_6 : nK < 10) (hf : f_X_keep_yes nK nP nO nT kQ = some (r_, o_nK, o_kQ, o_u15_w7, o_u15_w15)) : Met l y_X_keep w_X_keep ({ frames := 2, cells := 3, slots := 122, locals := 69 }) (va_Pc [.ref qX] (fun U => U.heap.size = sz ∧ va_P (dC, dI) vwCl (w_XK qX qB qSt qN qR qS qTg qKp qKq qBx qBy qBz qBa qBb qBc qBd qBs qNo qNt qRo qRt qSo qSp cI cJ cQ nA nK nP nQ bX bY bZ bA bB bC bD bS sT nO nT rO rT sO sP tG kQ kP) U.heap ∧ va_K (dC, dI) vwCl [(cI, .int), (cJ, .long), (cQ, .object "CutBodies$Contents")] U ∧ nestZ U ∧ va_D (fun _ => True) (w_XK qX qB qSt qN qR qS qTg qKp qKq qBx qBy qBz qBa qBb qBc qBd qBs qNo qNt qRo qRt qSo qSp cI cJ cQ nA nK nP nQ bX bY bZ bA bB bC bD bS sT nO nT rO rT sO sP tG kQ kP))) (va_Qi (fun (r9 : Int32) (_ : Nat × Nat × Nat) => r9 = r_) (fun u t => va_P (dC, dI) vwCl [(qX, .inr (2, [.ref qB, .ref qSt, .int nA, .ref qN, .ref qR, .ref qS, .ref qTg, .ref qKp, .ref qKq, .int o_nK])), (qB, .inr (0, [.ref qBx, .ref qBy, .ref qBz, .int nP, .ref qBa, .ref qBb, .ref qBc, .ref qBd, .int nQ, .ref qBs])), (qBx, .inl (cI, 60, .inl bX)), (qBy, .inl (cI, 60, .inl bY)), (qBz, .inl (cI, 60, .inl bZ)), (qBa, .inl (cI, 20, .inl bA)), (qBb, .inl (cI, 20, .inl bB)), (qBc, .inl (cI, 20, .inl bC)), (qBd, .inl (cI, 20, .inl bD)), (qBs, .inl (cJ, 60, .inr (.inl bS))), (qSt, .inl (cI, 13, .inl sT)), (qN, .inr (1, [.ref qNo, .ref qNt])), (qNo, .inl (cI, 60, .inl nO)), (qNt, .inl (cI, 60, .inl nT)), (qR, .inr (1, [.ref qRo, .ref qRt])), (qRo, .inl (cI, 60, .inl rO)), (qRt, .inl (cI, 60, .inl rT)), (qS, .inr (1, [.ref qSo, .ref qSp])), (qSo, .inl (cI, 60, .inl sO)), (qSp, .inl (cI, 60, .inl sP)), (qTg, .inl (cI, 60, .inl tG)), (qKq, .inl (cI, 10, .inl o_kQ)), (qKp, .inl (cQ, 10, .inr (.inr (.inr (.inr (va_up kP nK.toNatClampNeg (some u.1))))))), (u.1, .inr (1, [.ref u.2.1, .ref u.2.2])), (u.2.1, .inl (cI, 60, .inl o_u15_w7)), (u.2.2, .inl (cI, 60, .inl o_u15_w15))] t.heap ∧ va_D (va_A (w_XK qX qB qSt qN qR qS qTg qKp qKq qBx qBy qBz qBa qBb qBc qBd qBs qNo qNt qRo qRt qSo qSp cI cJ cQ nA nK nP nQ bX bY bZ bA bB bC bD bS sT nO nT rO rT sO sP tG kQ kP) sz) [(qX, .inr (2, [.ref qB, .ref qSt, .int nA, .ref qN, .ref qR, .ref qS, .ref qTg, .ref qKp, .ref qKq, .int o_nK])), (qB, .inr (0, [.ref qBx, .ref qBy, .ref qBz, .int nP, .ref qBa, .ref qBb, .ref qBc, .ref qBd, .int nQ, .ref qBs])), (qBx, .inl (cI, 60, .inl bX)), (qBy, .inl (cI, 60, .inl bY)), (qBz, .inl (cI, 60, .inl bZ)), (qBa, .inl (cI, 20, .inl bA)), (qBb, .inl (cI, 20, .inl bB)), (qBc, .inl (cI, 20, .inl bC)), (qBd, .inl (cI, 20, .inl bD)), (qBs, .inl (cJ, 60, .inr (.inl bS))), (qSt, .inl (cI, 13, .inl sT)), (qN, .inr (1, [.ref qNo, .ref qNt])), (qNo, .inl (cI, 60, .inl nO)), (qNt, .inl (cI, 60, .inl nT)), (qR, .inr (1, [.ref qRo, .ref qRt])), (qRo, .inl (cI, 60, .inl rO)), (qRt, .inl (cI, 60, .inl rT)), (qS, .inr (1, [.ref qSo, .ref qSp])), (qSo, .inl (cI, 60, .inl sO)), (qSp, .inl (cI, 60, .inl sP)), (qTg, .inl (cI, 60, .inl tG)), (qKq, .inl (cI, 10, .inl o_kQ)), (qKp, .inl (cQ, 10, .inr (.inr (.inr (.inr (va_up kP nK.toNatClampNeg (some u.1))))))), (u.1, .inr (1, [.ref u.2.1, .ref u.2.2])), (u.2.1, .inl (cI, 60, .inl o_u15_w7)), (u.2.2, .inl (cI, 60, .inl o_u15_w15))]) (va_A (w_XK qX qB qSt qN qR qS qTg qKp qKq qBx qBy qBz qBa qBb qBc qBd qBs qNo qNt qRo qRt qSo qSp cI cJ cQ nA nK nP nQ bX bY bZ bA bB bC bD bS sT nO nT rO rT sO sP tG kQ kP) sz)) 3 122 (va_A (w_XK qX qB qSt qN qR qS qTg qKp qKq qBx qBy qBz qBa qBb qBc qBd qBs qNo qNt qRo qRt qSo qSp cI cJ cQ nA nK nP nQ bX bY bZ bA bB bC bD bS sT nO nT rO rT sO sP tG kQ kP) sz) := by
  refine Met.ofW (cc := b_X_keep) (maxL := 2) (ret := (some .int)) (by decide) rfl ?_
  intro p e s m args below meth c s₁ B hml hv
  obtain ⟨rfl, hsz, hP, hK, hZ, hD0⟩ := hv
  have hx := B.exec
  have hb := B.bytes
  have hr := B.returns
  have hts := atoms_spec (ws := w_X_keep) B.pre
  have ht : ∀ w ∈ wAll, w.before _ s = true := fun w h => hts w (List.mem_cons_of_mem _ h)
  have hown : s.vm.findClass R_X = some m.cls := findClass_of_methodNamed B.named
  have hlocks := B.notSynchronized
  subst hsz
  have hD := hD0.self (sz := s.heap.size)
  generalize hAe : va_A (w_XK qX qB qSt qN qR qS qTg qKp qKq qBx qBy qBz qBa qBb qBc qBd qBs qNo qNt qRo qRt qSo qSp cI cJ cQ nA nK nP nQ bX bY bZ bA bB bC bD bS sT nO nT rO rT sO sP tG kQ kP) s.heap.size = A at hD ⊢
  have hA : ∀ q : Nat, s.heap.size ≤ q → A q := fun q h => by rw [← hAe]; exact Or.inr h
  have hS : va_S A s.heap s.heap [] := va_S.rf
  have hP : va_P (dC, dI) vwCl (w_XK qX qB qSt qN qR qS qTg qKp qKq qBx qBy qBz qBa qBb qBc qBd qBs qNo qNt qRo qRt qSo qSp cI cJ cQ nA nK nP nQ bX bY bZ bA bB bC bD bS sT nO nT rO rT sO sP tG kQ kP) s.heap := hP
  have hl := lv_entry ([.ref qX]) (n := 2) (Nat.le_of_ble_eq_true rfl)
  rw [lg_entry_eq]
  generalize (lg_sl ([.ref qX]) ++ List.replicate (2 - (lg_sl ([.ref qX])).length) Slot.unset).toArray = ls at hl ⊢
  have hl : lv_has ls 2 [(0, .ref qX)] := hl
  unfold f_X_keep_yes at hf
  obtain ⟨H, hH⟩ : ∃ z, z = s.heap := ⟨_, rfl⟩
  have hS : va_S A s.heap H [] := by rw [hH]; exact hS
  have hP : va_P (dC, dI) vwCl (w_XK qX qB qSt qN qR qS qTg qKp qKq qBx qBy qBz qBa qBb qBc qBd qBs qNo qNt qRo qRt qSo qSp cI cJ cQ nA nK nP nQ bX bY bZ bA bB bC bD bS sT nO nT rO rT sO sP tG kQ kP) H := by rw [hH]; exact hP
  refine w_heap hH ?_
  refine lv_aload_n hx hb d_X_keep_0 rfl (lv_at hl 0 rfl) ?_
  refine va_get (D := (dC, dI)) (ci := 2) (v := .int nK) (C := R_X) (T := T_X) (N := 10) hx hb ht in_X hown hK hP 0 rfl rfl 9 (by decide) (ht _ m_109) (fun _ h9 => h9) rfl d_X_keep_1 ?_
  refine lv_bipush (v := 10) hx hb d_X_keep_4 (by decide) ?_
  refine lv_icmp_lt (tgt := 11) hx hb d_X_keep_6 (by decide) (fun _ => ?_) (fun c9 => (c9 ha_6).elim)
  refine va_new (ci := 1) (fs := [.null, .null]) (C := R_C) (T := T_C) (N := 2) hx hb ht in_C t_C t_C_ok hown (ht _ m_84) (ht _ m_85) (ht _ m_30) hK hP hD hS hA rfl fs_C (Nat.le_of_ble_eq_true rfl) (Nat.le_of_ble_eq_true rfl) d_X_keep_11 (fun q11 H hP hD hS => ?_)
  have hP : va_P (dC, dI) vwCl [(qX, .inr (2, [.ref qB, .ref qSt, .int nA, .ref qN, .ref qR, .ref qS, .ref qTg, .ref qKp, .ref qKq, .int nK])), (qB, .inr (0, [.ref qBx, .ref qBy, .ref qBz, .int nP, .ref qBa, .ref qBb, .ref qBc, .ref qBd, .int nQ, .ref qBs])), (qBx, .inl (cI, 60, .inl bX)), (qBy, .inl (cI, 60, .inl bY)), (qBz, .inl (cI, 60, .inl bZ)), (qBa, .inl (cI, 20, .inl bA)), (qBb, .inl (cI, 20, .inl bB)), (qBc, .inl (cI, 20, .inl bC)), (qBd, .inl (cI, 20, .inl bD)), (qBs, .inl (cJ, 60, .inr (.inl bS))), (qSt, .inl (cI, 13, .inl sT)), (qN, .inr (1, [.ref qNo, .ref qNt])), (qNo, .inl (cI, 60, .inl nO)), (qNt, .inl (cI, 60, .inl nT)), (qR, .inr (1, [.ref qRo, .ref qRt])), (qRo, .inl (cI, 60, .inl rO)), (qRt, .inl (cI, 60, .inl rT)), (qS, .inr (1, [.ref qSo, .ref qSp])), (qSo, .inl (cI, 60, .inl sO)), (qSp, .inl (cI, 60, .inl sP)), (qTg, .inl (cI, 60, .inl tG)), (qKq, .inl (cI, 10, .inl kQ)), (qKp, .inl (cQ, 10, .inr (.inr (.inr (.inr kP))))), (q11, .inr (1, [.null, .null]))] H := hP
  have hD : va_D A [(qX, .inr (2, [.ref qB, .ref qSt, .int nA, .ref qN, .ref qR, .ref qS, .ref qTg, .ref qKp, .ref qKq, .int nK])), (qB, .inr (0, [.ref qBx, .ref qBy, .ref qBz, .int nP, .ref qBa, .ref qBb, .ref qBc, .ref qBd, .int nQ, .ref qBs])), (qBx, .inl (cI, 60, .inl bX)), (qBy, .inl (cI, 60, .inl bY)), (qBz, .inl (cI, 60, .inl bZ)), (qBa, .inl (cI, 20, .inl bA)), (qBb, .inl (cI, 20, .inl bB)), (qBc, .inl (cI, 20, .inl bC)), (qBd, .inl (cI, 20, .inl bD)), (qBs, .inl (cJ, 60, .inr (.inl bS))), (qSt, .inl (cI, 13, .inl sT)), (qN, .inr (1, [.ref qNo, .ref qNt])), (qNo, .inl (cI, 60, .inl nO)), (qNt, .inl (cI, 60, .inl nT)), (qR, .inr (1, [.ref qRo, .ref qRt])), (qRo, .inl (cI, 60, .inl rO)), (qRt, .inl (cI, 60, .inl rT)), (qS, .inr (1, [.ref qSo, .ref qSp])), (qSo, .inl (cI, 60, .inl sO)), (qSp, .inl (cI, 60, .inl sP)), (qTg, .inl (cI, 60, .inl tG)), (qKq, .inl (cI, 10, .inl kQ)), (qKp, .inl (cQ, 10, .inr (.inr (.inr (.inr kP))))), (q11, .inr (1, [.null, .null]))] := hD
  refine W.widen (k := 1) (n := 2) (Nat.le_of_ble_eq_true rfl) (Nat.le_of_ble_eq_true rfl) ?_
  refine lv_dup hx hb d_X_keep_14 rfl ?_
  obtain ⟨u15_w7, u15_w15, hfc, hf⟩ := oCall2_some hf
  have hPc := hP.sub (ws' := (w_Ci q11)) [23] rfl
  have hDc := hD.sub (ws' := (w_Ci q11)) [23] (by decide) rfl
  have hFc := va_free (wc := (w_Ci q11)) hD hS hA [23] rfl
  refine va_callv (va_runI (As := []) (rest := [.ref q11]) ⟨hx, hb, hml, hown, ht⟩ (c_C_init l dC dI q11 cI cJ cQ H.size u15_w7 u15_w15 hfc) (cwI 0 ht (gA m_88) rfl rfl rfl (ht _ m_30) (ht _ m_86) (ht _ m_87) rfl (by decide +kernel) ⟨Nat.le_of_ble_eq_true rfl, Nat.le_of_ble_eq_true rfl⟩) (preM hPc hK hZ hDc) rfl rfl hl.1 rfl (lv_room (Nat.le_of_ble_eq_true rfl)) d_X_keep_15 ⟨Nat.le_of_ble_eq_true rfl, Nat.le_of_ble_eq_true rfl⟩) hS (fun q _ h => hFc q h) hFc (fun u t H1 locs ht9 hvm hw hB hz1 hk1 hS => ?_)
  obtain ⟨q15_0, q15_1⟩ := u
  obtain ⟨hP1, hD1⟩ := hB
  rw [ht9] at hP1
  obtain ⟨hP, hD⟩ := va_join (wr := [(qX, .inr (2, [.ref qB, .ref qSt, .int nA, .ref qN, .ref qR, .ref qS, .ref qTg, .ref qKp, .ref qKq, .int nK])), (qB, .inr (0, [.ref qBx, .ref qBy, .ref qBz, .int nP, .ref qBa, .ref qBb, .ref qBc, .ref qBd, .int nQ, .ref qBs])), (qBx, .inl (cI, 60, .inl bX)), (qBy, .inl (cI, 60, .inl bY)), (qBz, .inl (cI, 60, .inl bZ)), (qBa, .inl (cI, 20, .inl bA)), (qBb, .inl (cI, 20, .inl bB)), (qBc, .inl (cI, 20, .inl bC)), (qBd, .inl (cI, 20, .inl bD)), (qBs, .inl (cJ, 60, .inr (.inl bS))), (qSt, .inl (cI, 13, .inl sT)), (qN, .inr (1, [.ref qNo, .ref qNt])), (qNo, .inl (cI, 60, .inl nO)), (qNt, .inl (cI, 60, .inl nT)), (qR, .inr (1, [.ref qRo, .ref qRt])), (qRo, .inl (cI, 60, .inl rO)), (qRt, .inl (cI, 60, .inl rT)), (qS, .inr (1, [.ref qSo, .ref qSp])), (qSo, .inl (cI, 60, .inl sO)), (qSp, .inl (cI, 60, .inl sP)), (qTg, .inl (cI, 60, .inl tG)), (qKq, .inl (cI, 10, .inl kQ)), (qKp, .inl (cQ, 10, .inr (.inr (.inr (.inr kP)))))]) (w1 := [(q11, .inr (1, [.ref q15_0, .ref q15_1])), (q15_0, .inl (cI, 60, .inl u15_w7)), (q15_1, .inl (cI, 60, .inl u15_w15))]) hP hD [23] [0, 1, 2, 3, 4, 5, 6, 7, 8, 9, 10, 11, 12, 13, 14, 15, 16, 17, 18, 19, 20, 21, 22] rfl rfl (by decide) (by decide) hk1 hFc hP1 hD1
  clear hPc hDc hFc hP1 hD1 hz1 hk1 ht9 hvm hfc
  generalize H1 = H at hP hS ⊢
  have hP : va_P (dC, dI) vwCl [(qX, .inr (2, [.ref qB, .ref qSt, .int nA, .ref qN, .ref qR, .ref qS, .ref qTg, .ref qKp, .ref qKq, .int nK])), (qB, .inr (0, [.ref qBx, .ref qBy, .ref qBz, .int nP, .ref qBa, .ref qBb, .ref qBc, .ref qBd, .int nQ, .ref qBs])), (qBx, .inl (cI, 60, .inl bX)), (qBy, .inl (cI, 60, .inl bY)), (qBz, .inl (cI, 60, .inl bZ)), (qBa, .inl (cI, 20, .inl bA)), (qBb, .inl (cI, 20, .inl bB)), (qBc, .inl (cI, 20, .inl bC)), (qBd, .inl (cI, 20, .inl bD)), (qBs, .inl (cJ, 60, .inr (.inl bS))), (qSt, .inl (cI, 13, .inl sT)), (qN, .inr (1, [.ref qNo, .ref qNt])), (qNo, .inl (cI, 60, .inl nO)), (qNt, .inl (cI, 60, .inl nT)), (qR, .inr (1, [.ref qRo, .ref qRt])), (qRo, .inl (cI, 60, .inl rO)), (qRt, .inl (cI, 60, .inl rT)), (qS, .inr (1, [.ref qSo, .ref qSp])), (qSo, .inl (cI, 60, .inl sO)), (qSp, .inl (cI, 60, .inl sP)), (qTg, .inl (cI, 60, .inl tG)), (qKq, .inl (cI, 10, .inl kQ)), (qKp, .inl (cQ, 10, .inr (.inr (.inr (.inr kP))))), (q11, .inr (1, [.ref q15_0, .ref q15_1])), (q15_0, .inl (cI, 60, .inl u15_w7)), (q15_1, .inl (cI, 60, .inl u15_w15))] H := hP
  have hD : va_D A [(qX, .inr (2, [.ref qB, .ref qSt, .int nA, .ref qN, .ref qR, .ref qS, .ref qTg, .ref qKp, .ref qKq, .int nK])), (qB, .inr (0, [.ref qBx, .ref qBy, .ref qBz, .int nP, .ref qBa, .ref qBb, .ref qBc, .ref qBd, .int nQ, .ref qBs])), (qBx, .inl (cI, 60, .inl bX)), (qBy, .inl (cI, 60, .inl bY)), (qBz, .inl (cI, 60, .inl bZ)), (qBa, .inl (cI, 20, .inl bA)), (qBb, .inl (cI, 20, .inl bB)), (qBc, .inl (cI, 20, .inl bC)), (qBd, .inl (cI, 20, .inl bD)), (qBs, .inl (cJ, 60, .inr (.inl bS))), (qSt, .inl (cI, 13, .inl sT)), (qN, .inr (1, [.ref qNo, .ref qNt])), (qNo, .inl (cI, 60, .inl nO)), (qNt, .inl (cI, 60, .inl nT)), (qR, .inr (1, [.ref qRo, .ref qRt])), (qRo, .inl (cI, 60, .inl rO)), (qRt, .inl (cI, 60, .inl rT)), (qS, .inr (1, [.ref qSo, .ref qSp])), (qSo, .inl (cI, 60, .inl sO)), (qSp, .inl (cI, 60, .inl sP)), (qTg, .inl (cI, 60, .inl tG)), (qKq, .inl (cI, 10, .inl kQ)), (qKp, .inl (cQ, 10, .inr (.inr (.inr (.inr kP))))), (q11, .inr (1, [.ref q15_0, .ref q15_1])), (q15_0, .inl (cI, 60, .inl u15_w7)), (q15_1, .inl (cI, 60, .inl u15_w15))] := hD
  refine W.widen (k := 3) (n := 122) (Nat.le_of_ble_eq_true rfl) (Nat.le_of_ble_eq_true rfl) ?_
  refine lv_astore_n (lv' := [(1, .ref q11), (0, .ref qX)]) hx hb d_X_keep_18 rfl hl (by decide) rfl (fun ls hl => ?_)
  refine lv_aload_n hx hb d_X_keep_19 rfl (lv_at hl 0 rfl) ?_
  refine lv_aload_n hx hb d_X_keep_20 rfl (lv_at hl 1 rfl) ?_
  refine va_get (D := (dC, dI)) (ci := 2) (v := .ref qN) (C := R_X) (T := T_X) (N := 10) hx hb ht in_X hown hK hP 0 rfl rfl 3 (by decide) (ht _ m_103) (fun _ h9 => h9) rfl d_X_keep_21 ?_
  obtain ⟨o1, o2, hfc, hf⟩ := oCall2_some hf
  have hPc := hP.sub (ws' := (w_CC q11 q15_0 q15_1 qN qNo qNt cI u15_w7 u15_w15 nO nT)) [23, 24, 25, 11, 12, 13] rfl
  have hDc := hD.sub (ws' := (w_CC q11 q15_0 q15_1 qN qNo qNt cI u15_w7 u15_w15 nO nT)) [23, 24, 25, 11, 12, 13] (by decide) rfl
  have hFc := va_free (wc := (w_CC q11 q15_0 q15_1 qN qNo qNt cI u15_w7 u15_w15 nO nT)) hD hS hA [23, 24, 25, 11, 12, 13] rfl
  refine va_callv (va_runV (As := [.ref qN]) (rest := []) ⟨hx, hb, hml, hown, ht⟩ (c_C_copyFrom l dC dI q11 q15_0 q15_1 qN qNo qNt cI cJ cQ H.size u15_w7 u15_w15 nO nT o1 o2 hfc) (cwV 1 ht (gV m_270 m_271 m_272 m_30 m_273) rfl rfl rfl (by decide +kernel) ⟨Nat.le_of_ble_eq_true rfl, Nat.le_of_ble_eq_true rfl⟩) (preMV hPc hK hZ hDc (va_recv hK hPc (ci := 1) (q0 := 0) rfl rfl)) rfl rfl hl.1 rfl (lv_room (Nat.le_of_ble_eq_true rfl)) d_X_keep_24 ⟨Nat.le_of_ble_eq_true rfl, Nat.le_of_ble_eq_true rfl⟩) hS (fun q _ h => hFc q h) hFc (fun u t H1 locs ht9 hvm hw hB hz1 hk1 hS => ?_)
  obtain ⟨hP1, hD1⟩ := hB
  rw [ht9] at hP1
  obtain ⟨hP, hD⟩ := va_join (wr := [(qX, .inr (2, [.ref qB, .ref qSt, .int nA, .ref qN, .ref qR, .ref qS, .ref qTg, .ref qKp, .ref qKq, .int nK])), (qB, .inr (0, [.ref qBx, .ref qBy, .ref qBz, .int nP, .ref qBa, .ref qBb, .ref qBc, .ref qBd, .int nQ, .ref qBs])), (qBx, .inl (cI, 60, .inl bX)), (qBy, .inl (cI, 60, .inl bY)), (qBz, .inl (cI, 60, .inl bZ)), (qBa, .inl (cI, 20, .inl bA)), (qBb, .inl (cI, 20, .inl bB)), (qBc, .inl (cI, 20, .inl bC)), (qBd, .inl (cI, 20, .inl bD)), (qBs, .inl (cJ, 60, .inr (.inl bS))), (qSt, .inl (cI, 13, .inl sT)), (qR, .inr (1, [.ref qRo, .ref qRt])), (qRo, .inl (cI, 60, .inl rO)), (qRt, .inl (cI, 60, .inl rT)), (qS, .inr (1, [.ref qSo, .ref qSp])), (qSo, .inl (cI, 60, .inl sO)), (qSp, .inl (cI, 60, .inl sP)), (qTg, .inl (cI, 60, .inl tG)), (qKq, .inl (cI, 10, .inl kQ)), (qKp, .inl (cQ, 10, .inr (.inr (.inr (.inr kP)))))]) (w1 := (w_CC q11 q15_0 q15_1 qN qNo qNt cI o1 o2 nO nT)) hP hD [23, 24, 25, 11, 12, 13] [0, 1, 2, 3, 4, 5, 6, 7, 8, 9, 10, 14, 15, 16, 17, 18, 19, 20, 21, 22] rfl rfl (by decide) (by decide) hk1 hFc hP1 hD1
  have hP := hP.sub (ws' := [(qX, .inr (2, [.ref qB, .ref qSt, .int nA, .ref qN, .ref qR, .ref qS, .ref qTg, .ref qKp, .ref qKq, .int nK])), (qB, .inr (0, [.ref qBx, .ref qBy, .ref qBz, .int nP, .ref qBa, .ref qBb, .ref qBc, .ref qBd, .int nQ, .ref qBs])), (qBx, .inl (cI, 60, .inl bX)), (qBy, .inl (cI, 60, .inl bY)), (qBz, .inl (cI, 60, .inl bZ)), (qBa, .inl (cI, 20, .inl bA)), (qBb, .inl (cI, 20, .inl bB)), (qBc, .inl (cI, 20, .inl bC)), (qBd, .inl (cI, 20, .inl bD)), (qBs, .inl (cJ, 60, .inr (.inl bS))), (qSt, .inl (cI, 13, .inl sT)), (qN, .inr (1, [.ref qNo, .ref qNt])), (qNo, .inl (cI, 60, .inl nO)), (qNt, .inl (cI, 60, .inl nT)), (qR, .inr (1, [.ref qRo, .ref qRt])), (qRo, .inl (cI, 60, .inl rO)), (qRt, .inl (cI, 60, .inl rT)), (qS, .inr (1, [.ref qSo, .ref qSp])), (qSo, .inl (cI, 60, .inl sO)), (qSp, .inl (cI, 60, .inl sP)), (qTg, .inl (cI, 60, .inl tG)), (qKq, .inl (cI, 10, .inl kQ)), (qKp, .inl (cQ, 10, .inr (.inr (.inr (.inr kP))))), (q11, .inr (1, [.ref q15_0, .ref q15_1])), (q15_0, .inl (cI, 60, .inl o1)), (q15_1, .inl (cI, 60, .inl o2))]) [0, 1, 2, 3, 4, 5, 6, 7, 8, 9, 10, 23, 24, 25, 11, 12, 13, 14, 15, 16, 17, 18, 19, 20, 21, 22] rfl
  have hD := hD.sub (ws' := [(qX, .inr (2, [.ref qB, .ref qSt, .int nA, .ref qN, .ref qR, .ref qS, .ref qTg, .ref qKp, .ref qKq, .int nK])), (qB, .inr (0, [.ref qBx, .ref qBy, .ref qBz, .int nP, .ref qBa, .ref qBb, .ref qBc, .ref qBd, .int nQ, .ref qBs])), (qBx, .inl (cI, 60, .inl bX)), (qBy, .inl (cI, 60, .inl bY)), (qBz, .inl (cI, 60, .inl bZ)), (qBa, .inl (cI, 20, .inl bA)), (qBb, .inl (cI, 20, .inl bB)), (qBc, .inl (cI, 20, .inl bC)), (qBd, .inl (cI, 20, .inl bD)), (qBs, .inl (cJ, 60, .inr (.inl bS))), (qSt, .inl (cI, 13, .inl sT)), (qN, .inr (1, [.ref qNo, .ref qNt])), (qNo, .inl (cI, 60, .inl nO)), (qNt, .inl (cI, 60, .inl nT)), (qR, .inr (1, [.ref qRo, .ref qRt])), (qRo, .inl (cI, 60, .inl rO)), (qRt, .inl (cI, 60, .inl rT)), (qS, .inr (1, [.ref qSo, .ref qSp])), (qSo, .inl (cI, 60, .inl sO)), (qSp, .inl (cI, 60, .inl sP)), (qTg, .inl (cI, 60, .inl tG)), (qKq, .inl (cI, 10, .inl kQ)), (qKp, .inl (cQ, 10, .inr (.inr (.inr (.inr kP))))), (q11, .inr (1, [.ref q15_0, .ref q15_1])), (q15_0, .inl (cI, 60, .inl o1)), (q15_1, .inl (cI, 60, .inl o2))]) [0, 1, 2, 3, 4, 5, 6, 7, 8, 9, 10, 23, 24, 25, 11, 12, 13, 14, 15, 16, 17, 18, 19, 20, 21, 22] (by decide) rfl
  clear hPc hDc hFc hP1 hD1 hz1 hk1 ht9 hvm hfc
  generalize H1 = H at hP hS ⊢
  refine lv_aload_n hx hb d_X_keep_27 rfl (lv_at hl 1 rfl) ?_
  refine va_get (D := (dC, dI)) (ci := 2) (v := .ref qKp) (C := R_X) (T := T_X) (N := 10) hx hb ht in_X hown hK hP 0 rfl rfl 7 (by decide) (ht _ m_107) (fun _ h9 => h9) rfl d_X_keep_28 ?_
  refine lv_aload_n hx hb d_X_keep_31 rfl (lv_at hl 1 rfl) ?_
  refine va_get (D := (dC, dI)) (ci := 2) (v := .int nK) (C := R_X) (T := T_X) (N := 10) hx hb ht in_X hown hK hP 0 rfl rfl 9 (by decide) (ht _ m_109) (fun _ h9 => h9) rfl d_X_keep_32 ?_
  refine lv_aload_n hx hb d_X_keep_35 rfl (lv_at hl 0 rfl) ?_
  obtain ⟨hi3, hf⟩ := oIn_some hf
  refine va_astq hx hb hK hP hD hS 22 2 23 1 rfl rfl rfl rfl hi3 d_X_keep_36 (fun H locs hP hD hS => ?_)
  have hP : va_P (dC, dI) vwCl [(qX, .inr (2, [.ref qB, .ref qSt, .int nA, .ref qN, .ref qR, .ref qS, .ref qTg, .ref qKp, .ref qKq, .int nK])), (qB, .inr (0, [.ref qBx, .ref qBy, .ref qBz, .int nP, .ref qBa, .ref qBb, .ref qBc, .ref qBd, .int nQ, .ref qBs])), (qBx, .inl (cI, 60, .inl bX)), (qBy, .inl (cI, 60, .inl bY)), (qBz, .inl (cI, 60, .inl bZ)), (qBa, .inl (cI, 20, .inl bA)), (qBb, .inl (cI, 20, .inl bB)), (qBc, .inl (cI, 20, .inl bC)), (qBd, .inl (cI, 20, .inl bD)), (qBs, .inl (cJ, 60, .inr (.inl bS))), (qSt, .inl (cI, 13, .inl sT)), (qN, .inr (1, [.ref qNo, .ref qNt])), (qNo, .inl (cI, 60, .inl nO)), (qNt, .inl (cI, 60, .inl nT)), (qR, .inr (1, [.ref qRo, .ref qRt])), (qRo, .inl (cI, 60, .inl rO)), (qRt, .inl (cI, 60, .inl rT)), (qS, .inr (1, [.ref qSo, .ref qSp])), (qSo, .inl (cI, 60, .inl sO)), (qSp, .inl (cI, 60, .inl sP)), (qTg, .inl (cI, 60, .inl tG)), (qKq, .inl (cI, 10, .inl kQ)), (qKp, .inl (cQ, 10, .inr (.inr (.inr (.inr (va_up kP nK.toNatClampNeg (some q11))))))), (q11, .inr (1, [.ref q15_0, .ref q15_1])), (q15_0, .inl (cI, 60, .inl o1)), (q15_1, .inl (cI, 60, .inl o2))] H := hP
  have hD : va_D A [(qX, .inr (2, [.ref qB, .ref qSt, .int nA, .ref qN, .ref qR, .ref qS, .ref qTg, .ref qKp, .ref qKq, .int nK])), (qB, .inr (0, [.ref qBx, .ref qBy, .ref qBz, .int nP, .ref qBa, .ref qBb, .ref qBc, .ref qBd, .int nQ, .ref qBs])), (qBx, .inl (cI, 60, .inl bX)), (qBy, .inl (cI, 60, .inl bY)), (qBz, .inl (cI, 60, .inl bZ)), (qBa, .inl (cI, 20, .inl bA)), (qBb, .inl (cI, 20, .inl bB)), (qBc, .inl (cI, 20, .inl bC)), (qBd, .inl (cI, 20, .inl bD)), (qBs, .inl (cJ, 60, .inr (.inl bS))), (qSt, .inl (cI, 13, .inl sT)), (qN, .inr (1, [.ref qNo, .ref qNt])), (qNo, .inl (cI, 60, .inl nO)), (qNt, .inl (cI, 60, .inl nT)), (qR, .inr (1, [.ref qRo, .ref qRt])), (qRo, .inl (cI, 60, .inl rO)), (qRt, .inl (cI, 60, .inl rT)), (qS, .inr (1, [.ref qSo, .ref qSp])), (qSo, .inl (cI, 60, .inl sO)), (qSp, .inl (cI, 60, .inl sP)), (qTg, .inl (cI, 60, .inl tG)), (qKq, .inl (cI, 10, .inl kQ)), (qKp, .inl (cQ, 10, .inr (.inr (.inr (.inr (va_up kP nK.toNatClampNeg (some q11))))))), (q11, .inr (1, [.ref q15_0, .ref q15_1])), (q15_0, .inl (cI, 60, .inl o1)), (q15_1, .inl (cI, 60, .inl o2))] := hD
  refine lv_aload_n hx hb d_X_keep_37 rfl (lv_at hl 1 rfl) ?_
  refine va_get (D := (dC, dI)) (ci := 2) (v := .ref qKq) (C := R_X) (T := T_X) (N := 10) hx hb ht in_X hown hK hP 0 rfl rfl 8 (by decide) (ht _ m_108) (fun _ h9 => h9) rfl d_X_keep_38 ?_
  refine lv_aload_n hx hb d_X_keep_41 rfl (lv_at hl 1 rfl) ?_
  refine va_get (D := (dC, dI)) (ci := 2) (v := .int nK) (C := R_X) (T := T_X) (N := 10) hx hb ht in_X hown hK hP 0 rfl rfl 9 (by decide) (ht _ m_109) (fun _ h9 => h9) rfl d_X_keep_42 ?_
  refine lv_aload_n hx hb d_X_keep_45 rfl (lv_at hl 1 rfl) ?_
  refine va_get (D := (dC, dI)) (ci := 2) (v := .ref qB) (C := R_X) (T := T_X) (N := 10) hx hb ht in_X hown hK hP 0 rfl rfl 0 (by decide) (ht _ m_100) (fun _ h9 => h9) rfl d_X_keep_46 ?_
  refine va_getN (D := (dC, dI)) (ci := 0) (v := .int nP) (C := R_B) (T := T_B) (N := 10) hx hb ht in_B hown hK hP 1 rfl rfl 3 (by decide) (nz hZ (List.mem_of_getElem? (i := 1) rfl)) (fun _ h9 => h9) rfl d_X_keep_49 ?_
  obtain ⟨hi4, hf⟩ := oIn_some hf
  refine va_iast hx hb hK hP hD hS 21 0 rfl rfl hi4 d_X_keep_52 (fun H locs hP hD hS => ?_)
  obtain ⟨a5, ea5, hf⟩ := oLet_ex hf
  have hP : va_P (dC, dI) vwCl [(qX, .inr (2, [.ref qB, .ref qSt, .int nA, .ref qN, .ref qR, .ref qS, .ref qTg, .ref qKp, .ref qKq, .int nK])), (qB, .inr (0, [.ref qBx, .ref qBy, .ref qBz, .int nP, .ref qBa, .ref qBb, .ref qBc, .ref qBd, .int nQ, .ref qBs])), (qBx, .inl (cI, 60, .inl bX)), (qBy, .inl (cI, 60, .inl bY)), (qBz, .inl (cI, 60, .inl bZ)), (qBa, .inl (cI, 20, .inl bA)), (qBb, .inl (cI, 20, .inl bB)), (qBc, .inl (cI, 20, .inl bC)), (qBd, .inl (cI, 20, .inl bD)), (qBs, .inl (cJ, 60, .inr (.inl bS))), (qSt, .inl (cI, 13, .inl sT)), (qN, .inr (1, [.ref qNo, .ref qNt])), (qNo, .inl (cI, 60, .inl nO)), (qNt, .inl (cI, 60, .inl nT)), (qR, .inr (1, [.ref qRo, .ref qRt])), (qRo, .inl (cI, 60, .inl rO)), (qRt, .inl (cI, 60, .inl rT)), (qS, .inr (1, [.ref qSo, .ref qSp])), (qSo, .inl (cI, 60, .inl sO)), (qSp, .inl (cI, 60, .inl sP)), (qTg, .inl (cI, 60, .inl tG)), (qKq, .inl (cI, 10, .inl a5)), (qKp, .inl (cQ, 10, .inr (.inr (.inr (.inr (va_up kP nK.toNatClampNeg (some q11))))))), (q11, .inr (1, [.ref q15_0, .ref q15_1])), (q15_0, .inl (cI, 60, .inl o1)), (q15_1, .inl (cI, 60, .inl o2))] H := by rw [ea5]; exact hP
  have hD : va_D A [(qX, .inr (2, [.ref qB, .ref qSt, .int nA, .ref qN, .ref qR, .ref qS, .ref qTg, .ref qKp, .ref qKq, .int nK])), (qB, .inr (0, [.ref qBx, .ref qBy, .ref qBz, .int nP, .ref qBa, .ref qBb, .ref qBc, .ref qBd, .int nQ, .ref qBs])), (qBx, .inl (cI, 60, .inl bX)), (qBy, .inl (cI, 60, .inl bY)), (qBz, .inl (cI, 60, .inl bZ)), (qBa, .inl (cI, 20, .inl bA)), (qBb, .inl (cI, 20, .inl bB)), (qBc, .inl (cI, 20, .inl bC)), (qBd, .inl (cI, 20, .inl bD)), (qBs, .inl (cJ, 60, .inr (.inl bS))), (qSt, .inl (cI, 13, .inl sT)), (qN, .inr (1, [.ref qNo, .ref qNt])), (qNo, .inl (cI, 60, .inl nO)), (qNt, .inl (cI, 60, .inl nT)), (qR, .inr (1, [.ref qRo, .ref qRt])), (qRo, .inl (cI, 60, .inl rO)), (qRt, .inl (cI, 60, .inl rT)), (qS, .inr (1, [.ref qSo, .ref qSp])), (qSo, .inl (cI, 60, .inl sO)), (qSp, .inl (cI, 60, .inl sP)), (qTg, .inl (cI, 60, .inl tG)), (qKq, .inl (cI, 10, .inl a5)), (qKp, .inl (cQ, 10, .inr (.inr (.inr (.inr (va_up kP nK.toNatClampNeg (some q11))))))), (q11, .inr (1, [.ref q15_0, .ref q15_1])), (q15_0, .inl (cI, 60, .inl o1)), (q15_1, .inl (cI, 60, .inl o2))] := by rw [ea5]; exact hD
  refine lv_aload_n hx hb d_X_keep_53 rfl (lv_at hl 1 rfl) ?_
  refine lv_dup hx hb d_X_keep_54 rfl ?_
  refine va_get (D := (dC, dI)) (ci := 2) (v := .int nK) (C := R_X) (T := T_X) (N := 10) hx hb ht in_X hown hK hP 0 rfl rfl 9 (by decide) (ht _ m_109) (fun _ h9 => h9) rfl d_X_keep_55 ?_
  refine lv_iconst (v := 1) hx hb d_X_keep_58 (by decide) ?_
  refine lv_iadd hx hb d_X_keep_59 ?_
  refine lv_topi (fun v6 ev6 => ?_)
  have hf := oLet_some hf ev6
  refine va_put (D := (dC, dI)) (ci := 2) (v := .int v6) (ty := .int) (C := R_X) (T := T_X) (N := 10) hx hb ht in_X t_X t_X_ok n_X hown hK hP hD hS 0 rfl rfl 9 (by decide) (ht _ m_109) (fun _ h9 => h9) rfl (by decide +kernel) rfl rfl (Nat.le_of_ble_eq_true rfl) d_X_keep_60 (fun H locs hP hD hS => ?_)
  have hP : va_P (dC, dI) vwCl [(qX, .inr (2, [.ref qB, .ref qSt, .int nA, .ref qN, .ref qR, .ref qS, .ref qTg, .ref qKp, .ref qKq, .int v6])), (qB, .inr (0, [.ref qBx, .ref qBy, .ref qBz, .int nP, .ref qBa, .ref qBb, .ref qBc, .ref qBd, .int nQ, .ref qBs])), (qBx, .inl (cI, 60, .inl bX)), (qBy, .inl (cI, 60, .inl bY)), (qBz, .inl (cI, 60, .inl bZ)), (qBa, .inl (cI, 20, .inl bA)), (qBb, .inl (cI, 20, .inl bB)), (qBc, .inl (cI, 20, .inl bC)), (qBd, .inl (cI, 20, .inl bD)), (qBs, .inl (cJ, 60, .inr (.inl bS))), (qSt, .inl (cI, 13, .inl sT)), (qN, .inr (1, [.ref qNo, .ref qNt])), (qNo, .inl (cI, 60, .inl nO)), (qNt, .inl (cI, 60, .inl nT)), (qR, .inr (1, [.ref qRo, .ref qRt])), (qRo, .inl (cI, 60, .inl rO)), (qRt, .inl (cI, 60, .inl rT)), (qS, .inr (1, [.ref qSo, .ref qSp])), (qSo, .inl (cI, 60, .inl sO)), (qSp, .inl (cI, 60, .inl sP)), (qTg, .inl (cI, 60, .inl tG)), (qKq, .inl (cI, 10, .inl a5)), (qKp, .inl (cQ, 10, .inr (.inr (.inr (.inr (va_up kP nK.toNatClampNeg (some q11))))))), (q11, .inr (1, [.ref q15_0, .ref q15_1])), (q15_0, .inl (cI, 60, .inl o1)), (q15_1, .inl (cI, 60, .inl o2))] H := hP
  have hD : va_D A [(qX, .inr (2, [.ref qB, .ref qSt, .int nA, .ref qN, .ref qR, .ref qS, .ref qTg, .ref qKp, .ref qKq, .int v6])), (qB, .inr (0, [.ref qBx, .ref qBy, .ref qBz, .int nP, .ref qBa, .ref qBb, .ref qBc, .ref qBd, .int nQ, .ref qBs])), (qBx, .inl (cI, 60, .inl bX)), (qBy, .inl (cI, 60, .inl bY)), (qBz, .inl (cI, 60, .inl bZ)), (qBa, .inl (cI, 20, .inl bA)), (qBb, .inl (cI, 20, .inl bB)), (qBc, .inl (cI, 20, .inl bC)), (qBd, .inl (cI, 20, .inl bD)), (qBs, .inl (cJ, 60, .inr (.inl bS))), (qSt, .inl (cI, 13, .inl sT)), (qN, .inr (1, [.ref qNo, .ref qNt])), (qNo, .inl (cI, 60, .inl nO)), (qNt, .inl (cI, 60, .inl nT)), (qR, .inr (1, [.ref qRo, .ref qRt])), (qRo, .inl (cI, 60, .inl rO)), (qRt, .inl (cI, 60, .inl rT)), (qS, .inr (1, [.ref qSo, .ref qSp])), (qSo, .inl (cI, 60, .inl sO)), (qSp, .inl (cI, 60, .inl sP)), (qTg, .inl (cI, 60, .inl tG)), (qKq, .inl (cI, 10, .inl a5)), (qKp, .inl (cQ, 10, .inr (.inr (.inr (.inr (va_up kP nK.toNatClampNeg (some q11))))))), (q11, .inr (1, [.ref q15_0, .ref q15_1])), (q15_0, .inl (cI, 60, .inl o1)), (q15_1, .inl (cI, 60, .inl o2))] := hD
  refine lv_aload_n hx hb d_X_keep_63 rfl (lv_at hl 1 rfl) ?_
  refine va_get (D := (dC, dI)) (ci := 2) (v := .int v6) (C := R_X) (T := T_X) (N := 10) hx hb ht in_X hown hK hP 0 rfl rfl 9 (by decide) (ht _ m_109) (fun _ h9 => h9) rfl d_X_keep_64 ?_
  refine lv_iconst (v := 1) hx hb d_X_keep_67 (by decide) ?_
  refine lv_isub hx hb d_X_keep_68 ?_
  cases hf
  exact W.iret hx hb hr (fun t ht hW => ⟨⟨_, (q11, q15_0, q15_1), rfl, rfl, by rw [ht]; exact hP, hD⟩, hS.F ht⟩) hS.2.2 d_X_keep_69
set_option maxHeartbeats 4000000 in
set_option maxRecDepth 100000 in
theorem c_X_back_neg (l : Launch) (dC : Nat → ClassId) (dI : Nat → Nat → Nat) (qX qB qSt qN qR qS qTg qKp qKq qBx qBy qBz qBa qBb qBc qBd qBs qNo qNt qRo qRt qSo qSp : Nat) (cI cJ cQ : ClassId) (nA : Int32) (nK : Int32) (nP : Int32) (nQ : Int32) (bX : Nat → Int32) (bY : Nat → Int32) (bZ : Nat → Int32) (bA : Nat → Int32) (bB : Nat → Int32) (bC : Nat → Int32) (bD : Nat → Int32) (bS : Nat → Int64) (sT : Nat → Int32) (nO : Nat → Int32) (nT : Nat → Int32) (rO : Nat → Int32) (rT : Nat → Int32) (sO : Nat → Int32) (sP : Nat → Int32) (tG : Nat → Int32) (kQ : Nat → Int32) (x1 : Int32) (r_ : Int32) (ha_1 : x1 < 0) (hf : f_X_back_neg x1 = some r_) : Met l y_X_back w_X_back ({ frames := 0, cells := 0, slots := 0, locals := 0 }) (va_Pc [.ref qX, .int x1] (fun U => va_P (dC, dI) vwCl (w_X qX qB qSt qN qR qS qTg qKp qKq qBx qBy qBz qBa qBb qBc qBd qBs qNo qNt qRo qRt qSo qSp cI cJ nA nK nP nQ bX bY bZ bA bB bC bD bS sT nO nT rO rT sO sP tG kQ) U.heap ∧ va_K (dC, dI) vwCl [(cI, .int), (cJ, .long), (cQ, .object "CutBodies$Contents")] U ∧ nestZ U)) (vp_Si (fun r9 => r9 = r_)) 0 0 (fun _ => False) := by
  refine Met.ofW (cc := b_X_back) (maxL := 3) (ret := (some .boolean)) (by decide) rfl ?_
  intro p e s m args below meth c s₁ B hml hv
  obtain ⟨rfl, hP, hK, hZ⟩ := hv
  have hx := B.exec
  have hb := B.bytes
  have hr := B.returns
  have hts := atoms_spec (ws := w_X_back) B.pre
  have ht : ∀ w ∈ wAll, w.before _ s = true := fun w h => hts w (List.mem_cons_of_mem _ h)
  have hown : s.vm.findClass R_X = some m.cls := findClass_of_methodNamed B.named
  have hlocks := B.notSynchronized
  have hP : va_P (dC, dI) vwCl (w_X qX qB qSt qN qR qS qTg qKp qKq qBx qBy qBz qBa qBb qBc qBd qBs qNo qNt qRo qRt qSo qSp cI cJ nA nK nP nQ bX bY bZ bA bB bC bD bS sT nO nT rO rT sO sP tG kQ) s.heap := hP
  have hl := lv_entry ([.ref qX, .int x1]) (n := 3) (Nat.le_of_ble_eq_true rfl)
  rw [lg_entry_eq]
  generalize (lg_sl ([.ref qX, .int x1]) ++ List.replicate (3 - (lg_sl ([.ref qX, .int x1])).length) Slot.unset).toArray = ls at hl ⊢
  have hl : lv_has ls 3 [(0, .ref qX), (1, .int x1)] := hl
  unfold f_X_back_neg at hf
  refine lv_iload_n hx hb d_X_back_0 rfl (lv_at hl 1 rfl) ?_
  refine lv_if_lt (tgt := 12) hx hb d_X_back_1 (by decide) (fun _ => ?_) (fun c9 => (c9 ha_1).elim)
  refine lv_iconst (v := 0) hx hb d_X_back_12 (by decide) ?_
  cases hf
  exact W.zret (ty := .boolean) hx hb hr rfl (fun t ht hW => ⟨_, rfl, rfl, ht⟩) (fun q h => by cases h) d_X_back_13
set_option maxHeartbeats 4000000 in
set_option maxRecDepth 100000 in
theorem c_X_back_big (l : Launch) (dC : Nat → ClassId) (dI : Nat → Nat → Nat) (qX qB qSt qN qR qS qTg qKp qKq qBx qBy qBz qBa qBb qBc qBd qBs qNo qNt qRo qRt qSo qSp : Nat) (cI cJ cQ : ClassId) (nA : Int32) (nK : Int32) (nP : Int32) (nQ : Int32) (bX : Nat → Int32) (bY : Nat → Int32) (bZ : Nat → Int32) (bA : Nat → Int32) (bB : Nat → Int32) (bC : Nat → Int32) (bD : Nat → Int32) (bS : Nat → Int64) (sT : Nat → Int32) (nO : Nat → Int32) (nT : Nat → Int32) (rO : Nat → Int32) (rT : Nat → Int32) (sO : Nat → Int32) (sP : Nat → Int32) (tG : Nat → Int32) (kQ : Nat → Int32) (x1 : Int32) (r_ : Int32) (ha_1 : ¬ (x1 < 0)) (ha_9 : ¬ (x1 < nK)) (hf : f_X_back_big nK x1 = some r_) : Met l y_X_back w_X_back ({ frames := 0, cells := 0, slots := 0, locals := 0 }) (va_Pc [.ref qX, .int x1] (fun U => va_P (dC, dI) vwCl (w_X qX qB qSt qN qR qS qTg qKp qKq qBx qBy qBz qBa qBb qBc qBd qBs qNo qNt qRo qRt qSo qSp cI cJ nA nK nP nQ bX bY bZ bA bB bC bD bS sT nO nT rO rT sO sP tG kQ) U.heap ∧ va_K (dC, dI) vwCl [(cI, .int), (cJ, .long), (cQ, .object "CutBodies$Contents")] U ∧ nestZ U)) (vp_Si (fun r9 => r9 = r_)) 0 0 (fun _ => False) := by
  refine Met.ofW (cc := b_X_back) (maxL := 3) (ret := (some .boolean)) (by decide) rfl ?_
  intro p e s m args below meth c s₁ B hml hv
  obtain ⟨rfl, hP, hK, hZ⟩ := hv
  have hx := B.exec
  have hb := B.bytes
  have hr := B.returns
  have hts := atoms_spec (ws := w_X_back) B.pre
  have ht : ∀ w ∈ wAll, w.before _ s = true := fun w h => hts w (List.mem_cons_of_mem _ h)
  have hown : s.vm.findClass R_X = some m.cls := findClass_of_methodNamed B.named
  have hlocks := B.notSynchronized
  have hP : va_P (dC, dI) vwCl (w_X qX qB qSt qN qR qS qTg qKp qKq qBx qBy qBz qBa qBb qBc qBd qBs qNo qNt qRo qRt qSo qSp cI cJ nA nK nP nQ bX bY bZ bA bB bC bD bS sT nO nT rO rT sO sP tG kQ) s.heap := hP
  have hl := lv_entry ([.ref qX, .int x1]) (n := 3) (Nat.le_of_ble_eq_true rfl)
  rw [lg_entry_eq]
  generalize (lg_sl ([.ref qX, .int x1]) ++ List.replicate (3 - (lg_sl ([.ref qX, .int x1])).length) Slot.unset).toArray = ls at hl ⊢
  have hl : lv_has ls 3 [(0, .ref qX), (1, .int x1)] := hl
  unfold f_X_back_big at hf
  refine lv_iload_n hx hb d_X_back_0 rfl (lv_at hl 1 rfl) ?_
  refine lv_if_lt (tgt := 12) hx hb d_X_back_1 (by decide) (fun c9 => (ha_1 c9).elim) (fun _ => ?_)
  refine lv_iload_n hx hb d_X_back_4 rfl (lv_at hl 1 rfl) ?_
  refine lv_aload_n hx hb d_X_back_5 rfl (lv_at hl 0 rfl) ?_
  refine va_get (D := (dC, dI)) (ci := 2) (v := .int nK) (C := R_X) (T := T_X) (N := 10) hx hb ht in_X hown hK hP 0 rfl rfl 9 (by decide) (ht _ m_109) (fun _ h9 => h9) rfl d_X_back_6 ?_
  refine lv_icmp_lt (tgt := 14) hx hb d_X_back_9 (by decide) (fun c9 => (ha_9 c9).elim) (fun _ => ?_)
  refine lv_iconst (v := 0) hx hb d_X_back_12 (by decide) ?_
  cases hf
  exact W.zret (ty := .boolean) hx hb hr rfl (fun t ht hW => ⟨_, rfl, rfl, ht⟩) (fun q h => by cases h) d_X_back_13
set_option maxHeartbeats 4000000 in
set_option maxRecDepth 100000 in
theorem c_X_back_came (l : Launch) (dC : Nat → ClassId) (dI : Nat → Nat → Nat) (qX qB qSt qN qR qS qTg qKp qKq qBx qBy qBz qBa qBb qBc qBd qBs qNo qNt qRo qRt qSo qSp qY : Nat) (cI cJ cQ : ClassId) (nA : Int32) (nK : Int32) (nP : Int32) (nQ : Int32) (bX : Nat → Int32) (bY : Nat → Int32) (bZ : Nat → Int32) (bA : Nat → Int32) (bB : Nat → Int32) (bC : Nat → Int32) (bD : Nat → Int32) (bS : Nat → Int64) (sT : Nat → Int32) (nO : Nat → Int32) (nT : Nat → Int32) (rO : Nat → Int32) (rT : Nat → Int32) (sO : Nat → Int32) (sP : Nat → Int32) (tG : Nat → Int32) (kQ : Nat → Int32) (kP : Nat → Option Nat) (x1 : Int32) (r_ : Int32) (ha_1 : ¬ (x1 < 0)) (ha_9 : x1 < nK) (hq_19 : kP x1.toNatClampNeg = some qY) (ha_38 : ¬ ((kQ x1.toNatClampNeg) = nP)) (hf : f_X_back_came nK nP kQ x1 = some r_) : Met l y_X_back w_X_back ({ frames := 0, cells := 0, slots := 0, locals := 0 }) (va_Pc [.ref qX, .int x1] (fun U => va_P (dC, dI) vwCl (w_XK qX qB qSt qN qR qS qTg qKp qKq qBx qBy qBz qBa qBb qBc qBd qBs qNo qNt qRo qRt qSo qSp cI cJ cQ nA nK nP nQ bX bY bZ bA bB bC bD bS sT nO nT rO rT sO sP tG kQ kP) U.heap ∧ va_K (dC, dI) vwCl [(cI, .int), (cJ, .long), (cQ, .object "CutBodies$Contents")] U ∧ nestZ U)) (vp_Si (fun r9 => r9 = r_)) 0 0 (fun _ => False) := by
  refine Met.ofW (cc := b_X_back) (maxL := 3) (ret := (some .boolean)) (by decide) rfl ?_
  intro p e s m args below meth c s₁ B hml hv
  obtain ⟨rfl, hP, hK, hZ⟩ := hv
  have hx := B.exec
  have hb := B.bytes
  have hr := B.returns
  have hts := atoms_spec (ws := w_X_back) B.pre
  have ht : ∀ w ∈ wAll, w.before _ s = true := fun w h => hts w (List.mem_cons_of_mem _ h)
  have hown : s.vm.findClass R_X = some m.cls := findClass_of_methodNamed B.named
  have hlocks := B.notSynchronized
  have hP : va_P (dC, dI) vwCl (w_XK qX qB qSt qN qR qS qTg qKp qKq qBx qBy qBz qBa qBb qBc qBd qBs qNo qNt qRo qRt qSo qSp cI cJ cQ nA nK nP nQ bX bY bZ bA bB bC bD bS sT nO nT rO rT sO sP tG kQ kP) s.heap := hP
  have hl := lv_entry ([.ref qX, .int x1]) (n := 3) (Nat.le_of_ble_eq_true rfl)
  rw [lg_entry_eq]
  generalize (lg_sl ([.ref qX, .int x1]) ++ List.replicate (3 - (lg_sl ([.ref qX, .int x1])).length) Slot.unset).toArray = ls at hl ⊢
  have hl : lv_has ls 3 [(0, .ref qX), (1, .int x1)] := hl
  unfold f_X_back_came at hf
  refine lv_iload_n hx hb d_X_back_0 rfl (lv_at hl 1 rfl) ?_
  refine lv_if_lt (tgt := 12) hx hb d_X_back_1 (by decide) (fun c9 => (ha_1 c9).elim) (fun _ => ?_)
  refine lv_iload_n hx hb d_X_back_4 rfl (lv_at hl 1 rfl) ?_
  refine lv_aload_n hx hb d_X_back_5 rfl (lv_at hl 0 rfl) ?_
  refine va_get (D := (dC, dI)) (ci := 2) (v := .int nK) (C := R_X) (T := T_X) (N := 10) hx hb ht in_X hown hK hP 0 rfl rfl 9 (by decide) (ht _ m_109) (fun _ h9 => h9) rfl d_X_back_6 ?_
  refine lv_icmp_lt (tgt := 14) hx hb d_X_back_9 (by decide) (fun _ => ?_) (fun c9 => (c9 ha_9).elim)
  refine lv_aload_n hx hb d_X_back_14 rfl (lv_at hl 0 rfl) ?_
  refine va_get (D := (dC, dI)) (ci := 2) (v := .ref qKp) (C := R_X) (T := T_X) (N := 10) hx hb ht in_X hown hK hP 0 rfl rfl 7 (by decide) (ht _ m_107) (fun _ h9 => h9) rfl d_X_back_15 ?_
  refine lv_iload_n hx hb d_X_back_18 rfl (lv_at hl 1 rfl) ?_
  obtain ⟨hi1, hf⟩ := oIn_some hf
  refine va_aldq hx hb hK hP 22 2 rfl rfl hi1 d_X_back_19 ?_
  rw [hq_19]
  refine lv_astore_n (lv' := [(2, .ref qY), (0, .ref qX), (1, .int x1)]) hx hb d_X_back_20 rfl hl (by decide) rfl (fun ls hl => ?_)
  refine lv_aload_n hx hb d_X_back_21 rfl (lv_at hl 0 rfl) ?_
  refine lv_ifnull hx hb d_X_back_22 ?_
  refine lv_aload_n hx hb d_X_back_25 rfl (lv_at hl 1 rfl) ?_
  refine va_get (D := (dC, dI)) (ci := 2) (v := .ref qKq) (C := R_X) (T := T_X) (N := 10) hx hb ht in_X hown hK hP 0 rfl rfl 8 (by decide) (ht _ m_108) (fun _ h9 => h9) rfl d_X_back_26 ?_
  refine lv_iload_n hx hb d_X_back_29 rfl (lv_at hl 2 rfl) ?_
  obtain ⟨hi2, hf⟩ := oIn_some hf
  refine va_iald hx hb hK hP 21 0 rfl rfl hi2 d_X_back_30 ?_
  refine lv_aload_n hx hb d_X_back_31 rfl (lv_at hl 1 rfl) ?_
  refine va_get (D := (dC, dI)) (ci := 2) (v := .ref qB) (C := R_X) (T := T_X) (N := 10) hx hb ht in_X hown hK hP 0 rfl rfl 0 (by decide) (ht _ m_100) (fun _ h9 => h9) rfl d_X_back_32 ?_
  refine va_getN (D := (dC, dI)) (ci := 0) (v := .int nP) (C := R_B) (T := T_B) (N := 10) hx hb ht in_B hown hK hP 1 rfl rfl 3 (by decide) (nz hZ (List.mem_of_getElem? (i := 1) rfl)) (fun _ h9 => h9) rfl d_X_back_35 ?_
  refine lv_icmp_eq (tgt := 43) hx hb d_X_back_38 (by decide) (fun c9 => (ha_38 c9).elim) (fun _ => ?_)
  refine lv_iconst (v := 0) hx hb d_X_back_41 (by decide) ?_
  cases hf
  exact W.zret (ty := .boolean) hx hb hr rfl (fun t ht hW => ⟨_, rfl, rfl, ht⟩) (fun q h => by cases h) d_X_back_42
set_option maxHeartbeats 4000000 in
set_option maxRecDepth 100000 in
theorem c_X_back_yes (l : Launch) (dC : Nat → ClassId) (dI : Nat → Nat → Nat) (qX qB qSt qN qR qS qTg qKp qKq qBx qBy qBz qBa qBb qBc qBd qBs qNo qNt qRo qRt qSo qSp qY qYo qYt : Nat) (cI cJ cQ : ClassId) (sz : Nat) (nA : Int32) (nK : Int32) (nP : Int32) (nQ : Int32) (bX : Nat → Int32) (bY : Nat → Int32) (bZ : Nat → Int32) (bA : Nat → Int32) (bB : Nat → Int32) (bC : Nat → Int32) (bD : Nat → Int32) (bS : Nat → Int64) (sT : Nat → Int32) (nO : Nat → Int32) (nT : Nat → Int32) (rO : Nat → Int32) (rT : Nat → Int32) (sO : Nat → Int32) (sP : Nat → Int32) (tG : Nat → Int32) (kQ : Nat → Int32) (kP : Nat → Option Nat) (yO : Nat → Int32) (yT : Nat → Int32) (x1 : Int32) (r_ : Int32) (o_nO : Nat → Int32) (o_nT : Nat → Int32) (ha_1 : ¬ (x1 < 0)) (ha_9 : x1 < nK) (hq_19 : kP x1.toNatClampNeg = some qY) (ha_38 : (kQ x1.toNatClampNeg) = nP) (hf : f_X_back_yes nK nP nO nT kQ yO yT x1 = some (r_, o_nO, o_nT)) : Met l y_X_back w_X_back ({ frames := 2, cells := 0, slots := 0, locals := 69 }) (va_Pc [.ref qX, .int x1] (fun U => U.heap.size = sz ∧ va_P (dC, dI) vwCl (w_XKY qX qB qSt qN qR qS qTg qKp qKq qBx qBy qBz qBa qBb qBc qBd qBs qNo qNt qRo qRt qSo qSp qY qYo qYt cI cJ cQ nA nK nP nQ bX bY bZ bA bB bC bD bS sT nO nT rO rT sO sP tG kQ kP yO yT) U.heap ∧ va_K (dC, dI) vwCl [(cI, .int), (cJ, .long), (cQ, .object "CutBodies$Contents")] U ∧ nestZ U ∧ va_D (fun _ => True) (w_XKY qX qB qSt qN qR qS qTg qKp qKq qBx qBy qBz qBa qBb qBc qBd qBs qNo qNt qRo qRt qSo qSp qY qYo qYt cI cJ cQ nA nK nP nQ bX bY bZ bA bB bC bD bS sT nO nT rO rT sO sP tG kQ kP yO yT))) (va_Qi (fun (r9 : Int32) (_ : Unit) => r9 = r_) (fun _ t => va_P (dC, dI) vwCl (w_XKY qX qB qSt qN qR qS qTg qKp qKq qBx qBy qBz qBa qBb qBc qBd qBs qNo qNt qRo qRt qSo qSp qY qYo qYt cI cJ cQ nA nK nP nQ bX bY bZ bA bB bC bD bS sT o_nO o_nT rO rT sO sP tG kQ kP yO yT) t.heap ∧ va_D (va_A (w_XKY qX qB qSt qN qR qS qTg qKp qKq qBx qBy qBz qBa qBb qBc qBd qBs qNo qNt qRo qRt qSo qSp qY qYo qYt cI cJ cQ nA nK nP nQ bX bY bZ bA bB bC bD bS sT nO nT rO rT sO sP tG kQ kP yO yT) sz) (w_XKY qX qB qSt qN qR qS qTg qKp qKq qBx qBy qBz qBa qBb qBc qBd qBs qNo qNt qRo qRt qSo qSp qY qYo qYt cI cJ cQ nA nK nP nQ bX bY bZ bA bB bC bD bS sT o_nO o_nT rO rT sO sP tG kQ kP yO yT)) (va_A (w_XKY qX qB qSt qN qR qS qTg qKp qKq qBx qBy qBz qBa qBb qBc qBd qBs qNo qNt qRo qRt qSo qSp qY qYo qYt cI cJ cQ nA nK nP nQ bX bY bZ bA bB bC bD bS sT nO nT rO rT sO sP tG kQ kP yO yT) sz)) 0 0 (va_A (w_XKY qX qB qSt qN qR qS qTg qKp qKq qBx qBy qBz qBa qBb qBc qBd qBs qNo qNt qRo qRt qSo qSp qY qYo qYt cI cJ cQ nA nK nP nQ bX bY bZ bA bB bC bD bS sT nO nT rO rT sO sP tG kQ kP yO yT) sz) := by
  refine Met.ofW (cc := b_X_back) (maxL := 3) (ret := (some .boolean)) (by decide) rfl ?_
  intro p e s m args below meth c s₁ B hml hv
  obtain ⟨rfl, hsz, hP, hK, hZ, hD0⟩ := hv
  have hx := B.exec
  have hb := B.bytes
  have hr := B.returns
  have hts := atoms_spec (ws := w_X_back) B.pre
  have ht : ∀ w ∈ wAll, w.before _ s = true := fun w h => hts w (List.mem_cons_of_mem _ h)
  have hown : s.vm.findClass R_X = some m.cls := findClass_of_methodNamed B.named
  have hlocks := B.notSynchronized
  subst hsz
  have hD := hD0.self (sz := s.heap.size)
  generalize hAe : va_A (w_XKY qX qB qSt qN qR qS qTg qKp qKq qBx qBy qBz qBa qBb qBc qBd qBs qNo qNt qRo qRt qSo qSp qY qYo qYt cI cJ cQ nA nK nP nQ bX bY bZ bA bB bC bD bS sT nO nT rO rT sO sP tG kQ kP yO yT) s.heap.size = A at hD ⊢
  have hA : ∀ q : Nat, s.heap.size ≤ q → A q := fun q h => by rw [← hAe]; exact Or.inr h
  have hS : va_S A s.heap s.heap [] := va_S.rf
  have hP : va_P (dC, dI) vwCl (w_XKY qX qB qSt qN qR qS qTg qKp qKq qBx qBy qBz qBa qBb qBc qBd qBs qNo qNt qRo qRt qSo qSp qY qYo qYt cI cJ cQ nA nK nP nQ bX bY bZ bA bB bC bD bS sT nO nT rO rT sO sP tG kQ kP yO yT) s.heap := hP
  have hl := lv_entry ([.ref qX, .int x1]) (n := 3) (Nat.le_of_ble_eq_true rfl)
  rw [lg_entry_eq]
  generalize (lg_sl ([.ref qX, .int x1]) ++ List.replicate (3 - (lg_sl ([.ref qX, .int x1])).length) Slot.unset).toArray = ls at hl ⊢
  have hl : lv_has ls 3 [(0, .ref qX), (1, .int x1)] := hl
  unfold f_X_back_yes at hf
  obtain ⟨H, hH⟩ : ∃ z, z = s.heap := ⟨_, rfl⟩
  have hS : va_S A s.heap H [] := by rw [hH]; exact hS
  have hP : va_P (dC, dI) vwCl (w_XKY qX qB qSt qN qR qS qTg qKp qKq qBx qBy qBz qBa qBb qBc qBd qBs qNo qNt qRo qRt qSo qSp qY qYo qYt cI cJ cQ nA nK nP nQ bX bY bZ bA bB bC bD bS sT nO nT rO rT sO sP tG kQ kP yO yT) H := by rw [hH]; exact hP
  refine w_heap hH ?_
  refine lv_iload_n hx hb d_X_back_0 rfl (lv_at hl 1 rfl) ?_
  refine lv_if_lt (tgt := 12) hx hb d_X_back_1 (by decide) (fun c9 => (ha_1 c9).elim) (fun _ => ?_)
  refine lv_iload_n hx hb d_X_back_4 rfl (lv_at hl 1 rfl) ?_
  refine lv_aload_n hx hb d_X_back_5 rfl (lv_at hl 0 rfl) ?_
  refine va_get (D := (dC, dI)) (ci := 2) (v := .int nK) (C := R_X) (T := T_X) (N := 10) hx hb ht in_X hown hK hP 0 rfl rfl 9 (by decide) (ht _ m_109) (fun _ h9 => h9) rfl d_X_back_6 ?_
  refine lv_icmp_lt (tgt := 14) hx hb d_X_back_9 (by decide) (fun _ => ?_) (fun c9 => (c9 ha_9).elim)
  refine lv_aload_n hx hb d_X_back_14 rfl (lv_at hl 0 rfl) ?_
  refine va_get (D := (dC, dI)) (ci := 2) (v := .ref qKp) (C := R_X) (T := T_X) (N := 10) hx hb ht in_X hown hK hP 0 rfl rfl 7 (by decide) (ht _ m_107) (fun _ h9 => h9) rfl d_X_back_15 ?_
  refine lv_iload_n hx hb d_X_back_18 rfl (lv_at hl 1 rfl) ?_
  obtain ⟨hi1, hf⟩ := oIn_some hf
  refine va_aldq hx hb hK hP 22 2 rfl rfl hi1 d_X_back_19 ?_
  rw [hq_19]
  refine lv_astore_n (lv' := [(2, .ref qY), (0, .ref qX), (1, .int x1)]) hx hb d_X_back_20 rfl hl (by decide) rfl (fun ls hl => ?_)
  refine lv_aload_n hx hb d_X_back_21 rfl (lv_at hl 0 rfl) ?_
  refine lv_ifnull hx hb d_X_back_22 ?_
  refine lv_aload_n hx hb d_X_back_25 rfl (lv_at hl 1 rfl) ?_
  refine va_get (D := (dC, dI)) (ci := 2) (v := .ref qKq) (C := R_X) (T := T_X) (N := 10) hx hb ht in_X hown hK hP 0 rfl rfl 8 (by decide) (ht _ m_108) (fun _ h9 => h9) rfl d_X_back_26 ?_
  refine lv_iload_n hx hb d_X_back_29 rfl (lv_at hl 2 rfl) ?_
  obtain ⟨hi2, hf⟩ := oIn_some hf
  refine va_iald hx hb hK hP 21 0 rfl rfl hi2 d_X_back_30 ?_
  refine lv_aload_n hx hb d_X_back_31 rfl (lv_at hl 1 rfl) ?_
  refine va_get (D := (dC, dI)) (ci := 2) (v := .ref qB) (C := R_X) (T := T_X) (N := 10) hx hb ht in_X hown hK hP 0 rfl rfl 0 (by decide) (ht _ m_100) (fun _ h9 => h9) rfl d_X_back_32 ?_
  refine va_getN (D := (dC, dI)) (ci := 0) (v := .int nP) (C := R_B) (T := T_B) (N := 10) hx hb ht in_B hown hK hP 1 rfl rfl 3 (by decide) (nz hZ (List.mem_of_getElem? (i := 1) rfl)) (fun _ h9 => h9) rfl d_X_back_35 ?_
  refine lv_icmp_eq (tgt := 43) hx hb d_X_back_38 (by decide) (fun _ => ?_) (fun c9 => (c9 ha_38).elim)
  refine lv_aload_n hx hb d_X_back_43 rfl (lv_at hl 1 rfl) ?_
  refine va_get (D := (dC, dI)) (ci := 2) (v := .ref qN) (C := R_X) (T := T_X) (N := 10) hx hb ht in_X hown hK hP 0 rfl rfl 3 (by decide) (ht _ m_103) (fun _ h9 => h9) rfl d_X_back_44 ?_
  refine lv_aload_n hx hb d_X_back_47 rfl (lv_at hl 0 rfl) ?_
  obtain ⟨o3, o4, hfc, hf⟩ := oCall2_some hf
  have hPc := hP.sub (ws' := (w_CC qN qNo qNt qY qYo qYt cI nO nT yO yT)) [11, 12, 13, 23, 24, 25] rfl
  have hDc := hD.sub (ws' := (w_CC qN qNo qNt qY qYo qYt cI nO nT yO yT)) [11, 12, 13, 23, 24, 25] (by decide) rfl
  have hFc := va_free (wc := (w_CC qN qNo qNt qY qYo qYt cI nO nT yO yT)) hD hS hA [11, 12, 13, 23, 24, 25] rfl
  refine va_callv (va_runV (As := [.ref qY]) (rest := []) ⟨hx, hb, hml, hown, ht⟩ (c_C_copyFrom l dC dI qN qNo qNt qY qYo qYt cI cJ cQ H.size nO nT yO yT o3 o4 hfc) (cwV 1 ht (gV m_270 m_271 m_272 m_30 m_273) rfl rfl rfl (by decide +kernel) ⟨Nat.le_of_ble_eq_true rfl, Nat.le_of_ble_eq_true rfl⟩) (preMV hPc hK hZ hDc (va_recv hK hPc (ci := 1) (q0 := 0) rfl rfl)) rfl rfl hl.1 rfl (lv_room (Nat.le_of_ble_eq_true rfl)) d_X_back_48 ⟨Nat.le_of_ble_eq_true rfl, Nat.le_of_ble_eq_true rfl⟩) hS (fun q _ h => hFc q h) hFc (fun u t H1 locs ht9 hvm hw hB hz1 hk1 hS => ?_)
  obtain ⟨hP1, hD1⟩ := hB
  rw [ht9] at hP1
  obtain ⟨hP, hD⟩ := va_join (wr := [(qX, .inr (2, [.ref qB, .ref qSt, .int nA, .ref qN, .ref qR, .ref qS, .ref qTg, .ref qKp, .ref qKq, .int nK])), (qB, .inr (0, [.ref qBx, .ref qBy, .ref qBz, .int nP, .ref qBa, .ref qBb, .ref qBc, .ref qBd, .int nQ, .ref qBs])), (qBx, .inl (cI, 60, .inl bX)), (qBy, .inl (cI, 60, .inl bY)), (qBz, .inl (cI, 60, .inl bZ)), (qBa, .inl (cI, 20, .inl bA)), (qBb, .inl (cI, 20, .inl bB)), (qBc, .inl (cI, 20, .inl bC)), (qBd, .inl (cI, 20, .inl bD)), (qBs, .inl (cJ, 60, .inr (.inl bS))), (qSt, .inl (cI, 13, .inl sT)), (qR, .inr (1, [.ref qRo, .ref qRt])), (qRo, .inl (cI, 60, .inl rO)), (qRt, .inl (cI, 60, .inl rT)), (qS, .inr (1, [.ref qSo, .ref qSp])), (qSo, .inl (cI, 60, .inl sO)), (qSp, .inl (cI, 60, .inl sP)), (qTg, .inl (cI, 60, .inl tG)), (qKq, .inl (cI, 10, .inl kQ)), (qKp, .inl (cQ, 10, .inr (.inr (.inr (.inr kP)))))]) (w1 := (w_CC qN qNo qNt qY qYo qYt cI o3 o4 yO yT)) hP hD [11, 12, 13, 23, 24, 25] [0, 1, 2, 3, 4, 5, 6, 7, 8, 9, 10, 14, 15, 16, 17, 18, 19, 20, 21, 22] rfl rfl (by decide) (by decide) hk1 hFc hP1 hD1
  have hP := hP.sub (ws' := (w_XKY qX qB qSt qN qR qS qTg qKp qKq qBx qBy qBz qBa qBb qBc qBd qBs qNo qNt qRo qRt qSo qSp qY qYo qYt cI cJ cQ nA nK nP nQ bX bY bZ bA bB bC bD bS sT o3 o4 rO rT sO sP tG kQ kP yO yT)) [0, 1, 2, 3, 4, 5, 6, 7, 8, 9, 10, 20, 21, 22, 11, 12, 13, 14, 15, 16, 17, 18, 19, 23, 24, 25] rfl
  have hD := hD.sub (ws' := (w_XKY qX qB qSt qN qR qS qTg qKp qKq qBx qBy qBz qBa qBb qBc qBd qBs qNo qNt qRo qRt qSo qSp qY qYo qYt cI cJ cQ nA nK nP nQ bX bY bZ bA bB bC bD bS sT o3 o4 rO rT sO sP tG kQ kP yO yT)) [0, 1, 2, 3, 4, 5, 6, 7, 8, 9, 10, 20, 21, 22, 11, 12, 13, 14, 15, 16, 17, 18, 19, 23, 24, 25] (by decide) rfl
  clear hPc hDc hFc hP1 hD1 hz1 hk1 ht9 hvm hfc
  generalize H1 = H at hP hS ⊢
  refine lv_iconst (v := 1) hx hb d_X_back_51 (by decide) ?_
  cases hf
  exact W.zret (ty := .boolean) hx hb hr rfl (fun t ht hW => ⟨⟨_, (), rfl, rfl, by rw [ht]; exact hP, hD⟩, hS.F ht⟩) hS.2.2 d_X_back_52

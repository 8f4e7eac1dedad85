set_option maxHeartbeats 4000000 in
set_option maxRecDepth 100000 in
theorem c_X_hasAxis (l : Launch) (dC : Nat → ClassId) (dI : Nat → Nat → Nat) (qX qB qSt qN qR qS qTg qKp qKq qBx qBy qBz qBa qBb qBc qBd qBs qNo qNt qRo qRt qSo qSp : Nat) (cI cJ cQ : ClassId) (nA : Int32) (nK : Int32) (nP : Int32) (nQ : Int32) (bX : Nat → Int32) (bY : Nat → Int32) (bZ : Nat → Int32) (bA : Nat → Int32) (bB : Nat → Int32) (bC : Nat → Int32) (bD : Nat → Int32) (bS : Nat → Int64) (sT : Nat → Int32) (nO : Nat → Int32) (nT : Nat → Int32) (rO : Nat → Int32) (rT : Nat → Int32) (sO : Nat → Int32) (sP : Nat → Int32) (tG : Nat → Int32) (kQ : Nat → Int32) (x1 : Int32) (r_ : Int32) (hf : f_X_hasAxis nA x1 = some r_) : Met l y_X_hasAxis w_X_hasAxis ({ frames := 0, cells := 0, slots := 0, locals := 0 }) (va_Pc [.ref qX, .int x1] (fun U => va_P (dC, dI) vwCl (w_X qX qB qSt qN qR qS qTg qKp qKq qBx qBy qBz qBa qBb qBc qBd qBs qNo qNt qRo qRt qSo qSp cI cJ nA nK nP nQ bX bY bZ bA bB bC bD bS sT nO nT rO rT sO sP tG kQ) U.heap ∧ va_K (dC, dI) vwCl [(cI, .int), (cJ, .long), (cQ, .object "CutBodies$Contents")] U ∧ nestZ U)) (vp_Si (fun r9 => r9 = r_)) 0 0 (fun _ => False) := by
  refine Met.ofW (cc := b_X_hasAxis) (maxL := 2) (ret := (some .boolean)) (by decide) rfl ?_
  intro p e s m args below meth c s₁ B hml hv
  obtain ⟨rfl, hP, hK, hZ⟩ := hv
  have hx := B.exec
  have hb := B.bytes
  have hr := B.returns
  have hts := atoms_spec (ws := w_X_hasAxis) B.pre
  have ht : ∀ w ∈ wAll, w.before _ s = true := fun w h => hts w (List.mem_cons_of_mem _ h)
  have hown : s.vm.findClass R_X = some m.cls := findClass_of_methodNamed B.named
  have hlocks := B.notSynchronized
  have hP : va_P (dC, dI) vwCl (w_X qX qB qSt qN qR qS qTg qKp qKq qBx qBy qBz qBa qBb qBc qBd qBs qNo qNt qRo qRt qSo qSp cI cJ nA nK nP nQ bX bY bZ bA bB bC bD bS sT nO nT rO rT sO sP tG kQ) s.heap := hP
  have hl := lv_entry ([.ref qX, .int x1]) (n := 2) (Nat.le_of_ble_eq_true rfl)
  rw [lg_entry_eq]
  generalize (lg_sl ([.ref qX, .int x1]) ++ List.replicate (2 - (lg_sl ([.ref qX, .int x1])).length) Slot.unset).toArray = ls at hl ⊢
  have hl : lv_has ls 2 [(0, .ref qX), (1, .int x1)] := hl
  unfold f_X_hasAxis at hf
  refine lv_iload_n hx hb d_X_hasAxis_0 rfl (lv_at hl 1 rfl) ?_
  refine lv_if_lt (tgt := 16) hx hb d_X_hasAxis_1 (by decide) (fun c1 => ?_) (fun c1 => ?_)
  · have hf := oIf_t hf c1
    refine lv_iconst (v := 0) hx hb d_X_hasAxis_16 (by decide) ?_
    cases hf
    exact W.zret (ty := .boolean) hx hb hr rfl (fun t ht hW => ⟨_, rfl, rfl, ht⟩) (fun q h => by cases h) d_X_hasAxis_17
  · have hf := oIf_f hf c1
    refine lv_iload_n hx hb d_X_hasAxis_4 rfl (lv_at hl 1 rfl) ?_
    refine lv_aload_n hx hb d_X_hasAxis_5 rfl (lv_at hl 0 rfl) ?_
    refine va_get (D := (dC, dI)) (ci := 2) (v := .int nA) (C := R_X) (T := T_X) (N := 10) hx hb ht in_X hown hK hP 0 rfl rfl 2 (by decide) (ht _ m_102) (fun _ h9 => h9) rfl d_X_hasAxis_6 ?_
    refine lv_icmp_ge (tgt := 16) hx hb d_X_hasAxis_9 (by decide) (fun c2 => ?_) (fun c2 => ?_)
    · have hf := oIf_t hf c2
      refine lv_iconst (v := 0) hx hb d_X_hasAxis_16 (by decide) ?_
      cases hf
      exact W.zret (ty := .boolean) hx hb hr rfl (fun t ht hW => ⟨_, rfl, rfl, ht⟩) (fun q h => by cases h) d_X_hasAxis_17
    · have hf := oIf_f hf c2
      refine lv_iconst (v := 1) hx hb d_X_hasAxis_12 (by decide) ?_
      refine lv_goto (tgt := 17) hx hb d_X_hasAxis_13 (by decide) ?_
      cases hf
      exact W.zret (ty := .boolean) hx hb hr rfl (fun t ht hW => ⟨_, rfl, rfl, ht⟩) (fun q h => by cases h) d_X_hasAxis_17
set_option maxHeartbeats 4000000 in
set_option maxRecDepth 100000 in
theorem c_X_order (l : Launch) (dC : Nat → ClassId) (dI : Nat → Nat → Nat) (qX qB qSt qN qR qS qTg qKp qKq qBx qBy qBz qBa qBb qBc qBd qBs qNo qNt qRo qRt qSo qSp : Nat) (cI cJ cQ : ClassId) (nA : Int32) (nK : Int32) (nP : Int32) (nQ : Int32) (bX : Nat → Int32) (bY : Nat → Int32) (bZ : Nat → Int32) (bA : Nat → Int32) (bB : Nat → Int32) (bC : Nat → Int32) (bD : Nat → Int32) (bS : Nat → Int64) (sT : Nat → Int32) (nO : Nat → Int32) (nT : Nat → Int32) (rO : Nat → Int32) (rT : Nat → Int32) (sO : Nat → Int32) (sP : Nat → Int32) (tG : Nat → Int32) (kQ : Nat → Int32) (x1 : Int32) (r_ : Int32) (hf : f_X_order nA sT x1 = some r_) : Met l y_X_order w_X_order ({ frames := 4, cells := 0, slots := 0, locals := 91 }) (va_Pc [.ref qX, .int x1] (fun U => va_P (dC, dI) vwCl (w_X qX qB qSt qN qR qS qTg qKp qKq qBx qBy qBz qBa qBb qBc qBd qBs qNo qNt qRo qRt qSo qSp cI cJ nA nK nP nQ bX bY bZ bA bB bC bD bS sT nO nT rO rT sO sP tG kQ) U.heap ∧ va_K (dC, dI) vwCl [(cI, .int), (cJ, .long), (cQ, .object "CutBodies$Contents")] U ∧ nestZ U)) (vp_Si (fun r9 => r9 = r_)) 0 0 (fun _ => False) := by
  refine Met.ofW (cc := b_X_order) (maxL := 2) (ret := (some .int)) (by decide) rfl ?_
  intro p e s m args below meth c s₁ B hml hv
  obtain ⟨rfl, hP, hK, hZ⟩ := hv
  have hx := B.exec
  have hb := B.bytes
  have hr := B.returns
  have hts := atoms_spec (ws := w_X_order) B.pre
  have ht : ∀ w ∈ wAll, w.before _ s = true := fun w h => hts w (List.mem_cons_of_mem _ h)
  have hown : s.vm.findClass R_X = some m.cls := findClass_of_methodNamed B.named
  have hlocks := B.notSynchronized
  have hP : va_P (dC, dI) vwCl (w_X qX qB qSt qN qR qS qTg qKp qKq qBx qBy qBz qBa qBb qBc qBd qBs qNo qNt qRo qRt qSo qSp cI cJ nA nK nP nQ bX bY bZ bA bB bC bD bS sT nO nT rO rT sO sP tG kQ) s.heap := hP
  have hl := lv_entry ([.ref qX, .int x1]) (n := 2) (Nat.le_of_ble_eq_true rfl)
  rw [lg_entry_eq]
  generalize (lg_sl ([.ref qX, .int x1]) ++ List.replicate (2 - (lg_sl ([.ref qX, .int x1])).length) Slot.unset).toArray = ls at hl ⊢
  have hl : lv_has ls 2 [(0, .ref qX), (1, .int x1)] := hl
  unfold f_X_order at hf
  refine lv_aload_n hx hb d_X_order_0 rfl (lv_at hl 0 rfl) ?_
  refine lv_iload_n hx hb d_X_order_1 rfl (lv_at hl 1 rfl) ?_
  obtain ⟨r1z, hfc, hf⟩ := oCall1_some hf
  have hPc := hP.sub (ws' := (w_X qX qB qSt qN qR qS qTg qKp qKq qBx qBy qBz qBa qBb qBc qBd qBs qNo qNt qRo qRt qSo qSp cI cJ nA nK nP nQ bX bY bZ bA bB bC bD bS sT nO nT rO rT sO sP tG kQ)) [0, 1, 2, 3, 4, 5, 6, 7, 8, 9, 10, 11, 12, 13, 14, 15, 16, 17, 18, 19, 20, 21] rfl
  refine vp_callSi (va_runV (As := [.int x1]) (rest := []) ⟨hx, hb, hml, hown, ht⟩ (c_X_hasAxis l dC dI qX qB qSt qN qR qS qTg qKp qKq qBx qBy qBz qBa qBb qBc qBd qBs qNo qNt qRo qRt qSo qSp cI cJ cQ nA nK nP nQ bX bY bZ bA bB bC bD bS sT nO nT rO rT sO sP tG kQ x1 r1z hfc) (cwV 1 ht (gV m_188 m_190 m_1 m_28 m_191) rfl rfl rfl (by decide +kernel) ⟨Nat.le_of_ble_eq_true rfl, Nat.le_of_ble_eq_true rfl⟩) (preRV hPc hK hZ (va_recv hK hPc (ci := 2) (q0 := 0) rfl rfl)) rfl rfl hl.1 rfl (lv_room (Nat.le_of_ble_eq_true rfl)) d_X_order_2 ⟨Nat.le_of_ble_eq_true rfl, Nat.le_of_ble_eq_true rfl⟩).run (fun r1 hw => ?_)
  subst hw
  clear hPc hfc
  refine lv_if_eq (tgt := 20) hx hb d_X_order_5 (by decide) (fun c2 => ?_) (fun c2 => ?_)
  · have hf := oIf_t hf c2
    refine lv_iconst (v := 0) hx hb d_X_order_20 (by decide) ?_
    cases hf
    exact W.iret hx hb hr (fun t ht hW => ⟨_, rfl, rfl, ht⟩) (fun q h => by cases h) d_X_order_21
  · have hf := oIf_f hf c2
    refine lv_aload_n hx hb d_X_order_8 rfl (lv_at hl 0 rfl) ?_
    refine va_get (D := (dC, dI)) (ci := 2) (v := .ref qSt) (C := R_X) (T := T_X) (N := 10) hx hb ht in_X hown hK hP 0 rfl rfl 1 (by decide) (ht _ m_101) (fun _ h9 => h9) rfl d_X_order_9 ?_
    refine lv_iload_n hx hb d_X_order_12 rfl (lv_at hl 1 rfl) ?_
    obtain ⟨hi3, hf⟩ := oIn_some hf
    refine va_iald hx hb hK hP 10 0 rfl rfl hi3 d_X_order_13 ?_
    obtain ⟨r4z, hfc, hf⟩ := oCall1_some hf
    have hPc := hP.sub (ws' := []) [] rfl
    refine vp_callSi (va_runS (As := [.int (sT x1.toNatClampNeg)]) (rest := []) ⟨hx, hb, hml, hown, ht⟩ (c_W_orderOf l dC dI cI cJ cQ (sT x1.toNatClampNeg) r4z hfc) (va_cwS 1 ht (gS m_192 m_193 m_33 m_194) rfl rfl rfl (by decide +kernel) ⟨Nat.le_of_ble_eq_true rfl, Nat.le_of_ble_eq_true rfl⟩) (preR hPc hK hZ) rfl rfl hl.1 rfl (lv_room (Nat.le_of_ble_eq_true rfl)) d_X_order_14 ⟨Nat.le_of_ble_eq_true rfl, Nat.le_of_ble_eq_true rfl⟩).run (fun r4 hw => ?_)
    subst hw
    clear hPc hfc
    refine lv_goto (tgt := 21) hx hb d_X_order_17 (by decide) ?_
    cases hf
    exact W.iret hx hb hr (fun t ht hW => ⟨_, rfl, rfl, ht⟩) (fun q h => by cases h) d_X_order_21
set_option maxHeartbeats 4000000 in
set_option maxRecDepth 100000 in
theorem c_X_side (l : Launch) (dC : Nat → ClassId) (dI : Nat → Nat → Nat) (qX qB qSt qN qR qS qTg qKp qKq qBx qBy qBz qBa qBb qBc qBd qBs qNo qNt qRo qRt qSo qSp : Nat) (cI cJ cQ : ClassId) (nA : Int32) (nK : Int32) (nP : Int32) (nQ : Int32) (bX : Nat → Int32) (bY : Nat → Int32) (bZ : Nat → Int32) (bA : Nat → Int32) (bB : Nat → Int32) (bC : Nat → Int32) (bD : Nat → Int32) (bS : Nat → Int64) (sT : Nat → Int32) (nO : Nat → Int32) (nT : Nat → Int32) (rO : Nat → Int32) (rT : Nat → Int32) (sO : Nat → Int32) (sP : Nat → Int32) (tG : Nat → Int32) (kQ : Nat → Int32) (x1 : Int32) (x2 : Int32) (r_ : Int32) (hf : f_X_side nP nQ bS x1 x2 = some r_) : Met l y_X_side w_X_side ({ frames := 1, cells := 0, slots := 0, locals := 22 }) (va_Pc [.ref qX, .int x1, .int x2] (fun U => va_P (dC, dI) vwCl (w_X qX qB qSt qN qR qS qTg qKp qKq qBx qBy qBz qBa qBb qBc qBd qBs qNo qNt qRo qRt qSo qSp cI cJ nA nK nP nQ bX bY bZ bA bB bC bD bS sT nO nT rO rT sO sP tG kQ) U.heap ∧ va_K (dC, dI) vwCl [(cI, .int), (cJ, .long), (cQ, .object "CutBodies$Contents")] U ∧ nestZ U)) (vp_Si (fun r9 => r9 = r_)) 0 0 (fun _ => False) := by
  refine Met.ofW (cc := b_X_side) (maxL := 3) (ret := (some .int)) (by decide) rfl ?_
  intro p e s m args below meth c s₁ B hml hv
  obtain ⟨rfl, hP, hK, hZ⟩ := hv
  have hx := B.exec
  have hb := B.bytes
  have hr := B.returns
  have hts := atoms_spec (ws := w_X_side) B.pre
  have ht : ∀ w ∈ wAll, w.before _ s = true := fun w h => hts w (List.mem_cons_of_mem _ h)
  have hown : s.vm.findClass R_X = some m.cls := findClass_of_methodNamed B.named
  have hlocks := B.notSynchronized
  have hP : va_P (dC, dI) vwCl (w_X qX qB qSt qN qR qS qTg qKp qKq qBx qBy qBz qBa qBb qBc qBd qBs qNo qNt qRo qRt qSo qSp cI cJ nA nK nP nQ bX bY bZ bA bB bC bD bS sT nO nT rO rT sO sP tG kQ) s.heap := hP
  have hl := lv_entry ([.ref qX, .int x1, .int x2]) (n := 3) (Nat.le_of_ble_eq_true rfl)
  rw [lg_entry_eq]
  generalize (lg_sl ([.ref qX, .int x1, .int x2]) ++ List.replicate (3 - (lg_sl ([.ref qX, .int x1, .int x2])).length) Slot.unset).toArray = ls at hl ⊢
  have hl : lv_has ls 3 [(0, .ref qX), (1, .int x1), (2, .int x2)] := hl
  unfold f_X_side at hf
  refine lv_aload_n hx hb d_X_side_0 rfl (lv_at hl 0 rfl) ?_
  refine va_get (D := (dC, dI)) (ci := 2) (v := .ref qB) (C := R_X) (T := T_X) (N := 10) hx hb ht in_X hown hK hP 0 rfl rfl 0 (by decide) (ht _ m_100) (fun _ h9 => h9) rfl d_X_side_1 ?_
  refine lv_iload_n hx hb d_X_side_4 rfl (lv_at hl 1 rfl) ?_
  obtain ⟨r1z, hfc, hf⟩ := oCall1_some hf
  have hPc := hP.sub (ws' := (w_B qB qBx qBy qBz qBa qBb qBc qBd qBs cI cJ nP nQ bX bY bZ bA bB bC bD bS)) [1, 2, 3, 4, 5, 6, 7, 8, 9] rfl
  refine vp_callSi (va_runV (As := [.int x1]) (rest := []) ⟨hx, hb, hml, hown, ht⟩ (c_B_hasPoint l dC dI qB qBx qBy qBz qBa qBb qBc qBd qBs cI cJ cQ nP nQ bX bY bZ bA bB bC bD bS x1 r1z hfc) (cwV 1 ht (gV m_214 m_215 m_216 m_29 m_217) rfl rfl rfl (by decide +kernel) ⟨Nat.le_of_ble_eq_true rfl, Nat.le_of_ble_eq_true rfl⟩) (preRV hPc hK hZ (va_recv hK hPc (ci := 0) (q0 := 0) rfl rfl)) rfl rfl hl.1 rfl (lv_room (Nat.le_of_ble_eq_true rfl)) d_X_side_5 ⟨Nat.le_of_ble_eq_true rfl, Nat.le_of_ble_eq_true rfl⟩).run (fun r1 hw => ?_)
  subst hw
  clear hPc hfc
  refine lv_if_eq (tgt := 34) hx hb d_X_side_8 (by decide) (fun c2 => ?_) (fun c2 => ?_)
  · have hf := oIf_t hf c2
    refine lv_iconst (v := (-1)) hx hb d_X_side_34 (by decide) ?_
    cases hf
    exact W.iret hx hb hr (fun t ht hW => ⟨_, rfl, rfl, ht⟩) (fun q h => by cases h) d_X_side_35
  · have hf := oIf_f hf c2
    refine lv_aload_n hx hb d_X_side_11 rfl (lv_at hl 0 rfl) ?_
    refine va_get (D := (dC, dI)) (ci := 2) (v := .ref qB) (C := R_X) (T := T_X) (N := 10) hx hb ht in_X hown hK hP 0 rfl rfl 0 (by decide) (ht _ m_100) (fun _ h9 => h9) rfl d_X_side_12 ?_
    refine lv_iload_n hx hb d_X_side_15 rfl (lv_at hl 2 rfl) ?_
    obtain ⟨r3z, hfc, hf⟩ := oCall1_some hf
    have hPc := hP.sub (ws' := (w_B qB qBx qBy qBz qBa qBb qBc qBd qBs cI cJ nP nQ bX bY bZ bA bB bC bD bS)) [1, 2, 3, 4, 5, 6, 7, 8, 9] rfl
    refine vp_callSi (va_runV (As := [.int x2]) (rest := []) ⟨hx, hb, hml, hown, ht⟩ (c_B_hasPlane l dC dI qB qBx qBy qBz qBa qBb qBc qBd qBs cI cJ cQ nP nQ bX bY bZ bA bB bC bD bS x2 r3z hfc) (cwV 1 ht (gV m_218 m_219 m_220 m_29 m_221) rfl rfl rfl (by decide +kernel) ⟨Nat.le_of_ble_eq_true rfl, Nat.le_of_ble_eq_true rfl⟩) (preRV hPc hK hZ (va_recv hK hPc (ci := 0) (q0 := 0) rfl rfl)) rfl rfl hl.1 rfl (lv_room (Nat.le_of_ble_eq_true rfl)) d_X_side_16 ⟨Nat.le_of_ble_eq_true rfl, Nat.le_of_ble_eq_true rfl⟩).run (fun r3 hw => ?_)
    subst hw
    clear hPc hfc
    refine lv_if_eq (tgt := 34) hx hb d_X_side_19 (by decide) (fun c4 => ?_) (fun c4 => ?_)
    · have hf := oIf_t hf c4
      refine lv_iconst (v := (-1)) hx hb d_X_side_34 (by decide) ?_
      cases hf
      exact W.iret hx hb hr (fun t ht hW => ⟨_, rfl, rfl, ht⟩) (fun q h => by cases h) d_X_side_35
    · have hf := oIf_f hf c4
      refine lv_aload_n hx hb d_X_side_22 rfl (lv_at hl 0 rfl) ?_
      refine va_get (D := (dC, dI)) (ci := 2) (v := .ref qB) (C := R_X) (T := T_X) (N := 10) hx hb ht in_X hown hK hP 0 rfl rfl 0 (by decide) (ht _ m_100) (fun _ h9 => h9) rfl d_X_side_23 ?_
      refine lv_iload_n hx hb d_X_side_26 rfl (lv_at hl 1 rfl) ?_
      refine lv_iload_n hx hb d_X_side_27 rfl (lv_at hl 2 rfl) ?_
      obtain ⟨r5z, hfc, hf⟩ := oCall1_some hf
      have hPc := hP.sub (ws' := (w_B qB qBx qBy qBz qBa qBb qBc qBd qBs cI cJ nP nQ bX bY bZ bA bB bC bD bS)) [1, 2, 3, 4, 5, 6, 7, 8, 9] rfl
      refine vp_callSi (va_runV (As := [.int x1, .int x2]) (rest := []) ⟨hx, hb, hml, hown, ht⟩ (c_B_sideOf l dC dI qB qBx qBy qBz qBa qBb qBc qBd qBs cI cJ cQ nP nQ bX bY bZ bA bB bC bD bS x1 x2 r5z hfc) (cwV 2 ht (gV m_222 m_223 m_224 m_29 m_225) rfl rfl rfl (by decide +kernel) ⟨Nat.le_of_ble_eq_true rfl, Nat.le_of_ble_eq_true rfl⟩) (preRV hPc hK hZ (va_recv hK hPc (ci := 0) (q0 := 0) rfl rfl)) rfl rfl hl.1 rfl (lv_room (Nat.le_of_ble_eq_true rfl)) d_X_side_28 ⟨Nat.le_of_ble_eq_true rfl, Nat.le_of_ble_eq_true rfl⟩).run (fun r5 hw => ?_)
      subst hw
      clear hPc hfc
      refine lv_goto (tgt := 35) hx hb d_X_side_31 (by decide) ?_
      cases hf
      exact W.iret hx hb hr (fun t ht hW => ⟨_, rfl, rfl, ht⟩) (fun q h => by cases h) d_X_side_35
set_option maxHeartbeats 4000000 in
set_option maxRecDepth 100000 in
theorem c_X_pieces (l : Launch) (dC : Nat → ClassId) (dI : Nat → Nat → Nat) (qX qB qSt qN qR qS qTg qKp qKq qBx qBy qBz qBa qBb qBc qBd qBs qNo qNt qRo qRt qSo qSp : Nat) (cI cJ cQ : ClassId) (nA : Int32) (nK : Int32) (nP : Int32) (nQ : Int32) (bX : Nat → Int32) (bY : Nat → Int32) (bZ : Nat → Int32) (bA : Nat → Int32) (bB : Nat → Int32) (bC : Nat → Int32) (bD : Nat → Int32) (bS : Nat → Int64) (sT : Nat → Int32) (nO : Nat → Int32) (nT : Nat → Int32) (rO : Nat → Int32) (rT : Nat → Int32) (sO : Nat → Int32) (sP : Nat → Int32) (tG : Nat → Int32) (kQ : Nat → Int32) (r_ : Int32) (hf : f_X_pieces nP bS = some r_) : Met l y_X_pieces w_X_pieces ({ frames := 2, cells := 0, slots := 0, locals := 45 }) (va_Pc [.ref qX] (fun U => va_P (dC, dI) vwCl (w_X qX qB qSt qN qR qS qTg qKp qKq qBx qBy qBz qBa qBb qBc qBd qBs qNo qNt qRo qRt qSo qSp cI cJ nA nK nP nQ bX bY bZ bA bB bC bD bS sT nO nT rO rT sO sP tG kQ) U.heap ∧ va_K (dC, dI) vwCl [(cI, .int), (cJ, .long), (cQ, .object "CutBodies$Contents")] U ∧ nestZ U)) (vp_Si (fun r9 => r9 = r_)) 0 0 (fun _ => False) := by
  refine Met.ofW (cc := b_X_pieces) (maxL := 1) (ret := (some .int)) (by decide) rfl ?_
  intro p e s m args below meth c s₁ B hml hv
  obtain ⟨rfl, hP, hK, hZ⟩ := hv
  have hx := B.exec
  have hb := B.bytes
  have hr := B.returns
  have hts := atoms_spec (ws := w_X_pieces) B.pre
  have ht : ∀ w ∈ wAll, w.before _ s = true := fun w h => hts w (List.mem_cons_of_mem _ h)
  have hown : s.vm.findClass R_X = some m.cls := findClass_of_methodNamed B.named
  have hlocks := B.notSynchronized
  have hP : va_P (dC, dI) vwCl (w_X qX qB qSt qN qR qS qTg qKp qKq qBx qBy qBz qBa qBb qBc qBd qBs qNo qNt qRo qRt qSo qSp cI cJ nA nK nP nQ bX bY bZ bA bB bC bD bS sT nO nT rO rT sO sP tG kQ) s.heap := hP
  have hl := lv_entry ([.ref qX]) (n := 1) (Nat.le_of_ble_eq_true rfl)
  rw [lg_entry_eq]
  generalize (lg_sl ([.ref qX]) ++ List.replicate (1 - (lg_sl ([.ref qX])).length) Slot.unset).toArray = ls at hl ⊢
  have hl : lv_has ls 1 [(0, .ref qX)] := hl
  unfold f_X_pieces at hf
  refine lv_aload_n hx hb d_X_pieces_0 rfl (lv_at hl 0 rfl) ?_
  refine va_get (D := (dC, dI)) (ci := 2) (v := .ref qB) (C := R_X) (T := T_X) (N := 10) hx hb ht in_X hown hK hP 0 rfl rfl 0 (by decide) (ht _ m_100) (fun _ h9 => h9) rfl d_X_pieces_1 ?_
  refine lv_aload_n hx hb d_X_pieces_4 rfl (lv_at hl 0 rfl) ?_
  refine va_get (D := (dC, dI)) (ci := 2) (v := .ref qB) (C := R_X) (T := T_X) (N := 10) hx hb ht in_X hown hK hP 0 rfl rfl 0 (by decide) (ht _ m_100) (fun _ h9 => h9) rfl d_X_pieces_5 ?_
  refine va_getN (D := (dC, dI)) (ci := 0) (v := .int nP) (C := R_B) (T := T_B) (N := 10) hx hb ht in_B hown hK hP 1 rfl rfl 3 (by decide) (nz hZ (List.mem_of_getElem? (i := 1) rfl)) (fun _ h9 => h9) rfl d_X_pieces_8 ?_
  obtain ⟨r1z, hfc, hf⟩ := oCall1_some hf
  have hPc := hP.sub (ws' := (w_B qB qBx qBy qBz qBa qBb qBc qBd qBs cI cJ nP nQ bX bY bZ bA bB bC bD bS)) [1, 2, 3, 4, 5, 6, 7, 8, 9] rfl
  refine vp_callSi (va_runV (As := [.int nP]) (rest := []) ⟨hx, hb, hml, hown, ht⟩ (c_B_piecesBefore l dC dI qB qBx qBy qBz qBa qBb qBc qBd qBs cI cJ cQ nP nQ bX bY bZ bA bB bC bD bS nP r1z hfc) (cwV 1 ht (gV m_231 m_232 m_233 m_29 m_234) rfl rfl rfl (by decide +kernel) ⟨Nat.le_of_ble_eq_true rfl, Nat.le_of_ble_eq_true rfl⟩) (preRV hPc hK hZ (va_recv hK hPc (ci := 0) (q0 := 0) rfl rfl)) rfl rfl hl.1 rfl (lv_room (Nat.le_of_ble_eq_true rfl)) d_X_pieces_11 ⟨Nat.le_of_ble_eq_true rfl, Nat.le_of_ble_eq_true rfl⟩).run (fun r1 hw => ?_)
  subst hw
  clear hPc hfc
  cases hf
  exact W.iret hx hb hr (fun t ht hW => ⟨_, rfl, rfl, ht⟩) (fun q h => by cases h) d_X_pieces_14
set_option maxHeartbeats 4000000 in
set_option maxRecDepth 100000 in
theorem c_X_piece (l : Launch) (dC : Nat → ClassId) (dI : Nat → Nat → Nat) (qX qB qSt qN qR qS qTg qKp qKq qBx qBy qBz qBa qBb qBc qBd qBs qNo qNt qRo qRt qSo qSp : Nat) (cI cJ cQ : ClassId) (nA : Int32) (nK : Int32) (nP : Int32) (nQ : Int32) (bX : Nat → Int32) (bY : Nat → Int32) (bZ : Nat → Int32) (bA : Nat → Int32) (bB : Nat → Int32) (bC : Nat → Int32) (bD : Nat → Int32) (bS : Nat → Int64) (sT : Nat → Int32) (nO : Nat → Int32) (nT : Nat → Int32) (rO : Nat → Int32) (rT : Nat → Int32) (sO : Nat → Int32) (sP : Nat → Int32) (tG : Nat → Int32) (kQ : Nat → Int32) (x1 : Int32) (r_ : Int32) (hf : f_X_piece nP bS x1 = some r_) : Met l y_X_piece w_X_piece ({ frames := 2, cells := 0, slots := 0, locals := 45 }) (va_Pc [.ref qX, .int x1] (fun U => va_P (dC, dI) vwCl (w_X qX qB qSt qN qR qS qTg qKp qKq qBx qBy qBz qBa qBb qBc qBd qBs qNo qNt qRo qRt qSo qSp cI cJ nA nK nP nQ bX bY bZ bA bB bC bD bS sT nO nT rO rT sO sP tG kQ) U.heap ∧ va_K (dC, dI) vwCl [(cI, .int), (cJ, .long), (cQ, .object "CutBodies$Contents")] U ∧ nestZ U)) (vp_Si (fun r9 => r9 = r_)) 0 0 (fun _ => False) := by
  refine Met.ofW (cc := b_X_piece) (maxL := 2) (ret := (some .int)) (by decide) rfl ?_
  intro p e s m args below meth c s₁ B hml hv
  obtain ⟨rfl, hP, hK, hZ⟩ := hv
  have hx := B.exec
  have hb := B.bytes
  have hr := B.returns
  have hts := atoms_spec (ws := w_X_piece) B.pre
  have ht : ∀ w ∈ wAll, w.before _ s = true := fun w h => hts w (List.mem_cons_of_mem _ h)
  have hown : s.vm.findClass R_X = some m.cls := findClass_of_methodNamed B.named
  have hlocks := B.notSynchronized
  have hP : va_P (dC, dI) vwCl (w_X qX qB qSt qN qR qS qTg qKp qKq qBx qBy qBz qBa qBb qBc qBd qBs qNo qNt qRo qRt qSo qSp cI cJ nA nK nP nQ bX bY bZ bA bB bC bD bS sT nO nT rO rT sO sP tG kQ) s.heap := hP
  have hl := lv_entry ([.ref qX, .int x1]) (n := 2) (Nat.le_of_ble_eq_true rfl)
  rw [lg_entry_eq]
  generalize (lg_sl ([.ref qX, .int x1]) ++ List.replicate (2 - (lg_sl ([.ref qX, .int x1])).length) Slot.unset).toArray = ls at hl ⊢
  have hl : lv_has ls 2 [(0, .ref qX), (1, .int x1)] := hl
  unfold f_X_piece at hf
  refine lv_aload_n hx hb d_X_piece_0 rfl (lv_at hl 0 rfl) ?_
  refine va_get (D := (dC, dI)) (ci := 2) (v := .ref qB) (C := R_X) (T := T_X) (N := 10) hx hb ht in_X hown hK hP 0 rfl rfl 0 (by decide) (ht _ m_100) (fun _ h9 => h9) rfl d_X_piece_1 ?_
  refine lv_iload_n hx hb d_X_piece_4 rfl (lv_at hl 1 rfl) ?_
  obtain ⟨r1z, hfc, hf⟩ := oCall1_some hf
  have hPc := hP.sub (ws' := (w_B qB qBx qBy qBz qBa qBb qBc qBd qBs cI cJ nP nQ bX bY bZ bA bB bC bD bS)) [1, 2, 3, 4, 5, 6, 7, 8, 9] rfl
  refine vp_callSi (va_runV (As := [.int x1]) (rest := []) ⟨hx, hb, hml, hown, ht⟩ (c_B_hasPoint l dC dI qB qBx qBy qBz qBa qBb qBc qBd qBs cI cJ cQ nP nQ bX bY bZ bA bB bC bD bS x1 r1z hfc) (cwV 1 ht (gV m_214 m_215 m_216 m_29 m_217) rfl rfl rfl (by decide +kernel) ⟨Nat.le_of_ble_eq_true rfl, Nat.le_of_ble_eq_true rfl⟩) (preRV hPc hK hZ (va_recv hK hPc (ci := 0) (q0 := 0) rfl rfl)) rfl rfl hl.1 rfl (lv_room (Nat.le_of_ble_eq_true rfl)) d_X_piece_5 ⟨Nat.le_of_ble_eq_true rfl, Nat.le_of_ble_eq_true rfl⟩).run (fun r1 hw => ?_)
  subst hw
  clear hPc hfc
  refine lv_if_eq (tgt := 29) hx hb d_X_piece_8 (by decide) (fun c2 => ?_) (fun c2 => ?_)
  · have hf := oIf_t hf c2
    refine lv_iconst (v := (-1)) hx hb d_X_piece_29 (by decide) ?_
    cases hf
    exact W.iret hx hb hr (fun t ht hW => ⟨_, rfl, rfl, ht⟩) (fun q h => by cases h) d_X_piece_30
  · have hf := oIf_f hf c2
    refine lv_aload_n hx hb d_X_piece_11 rfl (lv_at hl 0 rfl) ?_
    refine va_get (D := (dC, dI)) (ci := 2) (v := .ref qB) (C := R_X) (T := T_X) (N := 10) hx hb ht in_X hown hK hP 0 rfl rfl 0 (by decide) (ht _ m_100) (fun _ h9 => h9) rfl d_X_piece_12 ?_
    refine lv_aload_n hx hb d_X_piece_15 rfl (lv_at hl 0 rfl) ?_
    refine va_get (D := (dC, dI)) (ci := 2) (v := .ref qB) (C := R_X) (T := T_X) (N := 10) hx hb ht in_X hown hK hP 0 rfl rfl 0 (by decide) (ht _ m_100) (fun _ h9 => h9) rfl d_X_piece_16 ?_
    refine lv_iload_n hx hb d_X_piece_19 rfl (lv_at hl 1 rfl) ?_
    obtain ⟨r3z, hfc, hf⟩ := oCall1_some hf
    have hPc := hP.sub (ws' := (w_B qB qBx qBy qBz qBa qBb qBc qBd qBs cI cJ nP nQ bX bY bZ bA bB bC bD bS)) [1, 2, 3, 4, 5, 6, 7, 8, 9] rfl
    refine vp_callSi (va_runV (As := [.int x1]) (rest := [.ref qB]) ⟨hx, hb, hml, hown, ht⟩ (c_B_leastAlike l dC dI qB qBx qBy qBz qBa qBb qBc qBd qBs cI cJ cQ nP nQ bX bY bZ bA bB bC bD bS x1 r3z hfc) (cwV 1 ht (gV m_243 m_236 m_237 m_29 m_238) rfl rfl rfl (by decide +kernel) ⟨Nat.le_of_ble_eq_true rfl, Nat.le_of_ble_eq_true rfl⟩) (preRV hPc hK hZ (va_recv hK hPc (ci := 0) (q0 := 0) rfl rfl)) rfl rfl hl.1 rfl (lv_room (Nat.le_of_ble_eq_true rfl)) d_X_piece_20 ⟨Nat.le_of_ble_eq_true rfl, Nat.le_of_ble_eq_true rfl⟩).run (fun r3 hw => ?_)
    subst hw
    clear hPc hfc
    obtain ⟨r4z, hfc, hf⟩ := oCall1_some hf
    have hPc := hP.sub (ws' := (w_B qB qBx qBy qBz qBa qBb qBc qBd qBs cI cJ nP nQ bX bY bZ bA bB bC bD bS)) [1, 2, 3, 4, 5, 6, 7, 8, 9] rfl
    refine vp_callSi (va_runV (As := [.int r3]) (rest := []) ⟨hx, hb, hml, hown, ht⟩ (c_B_piecesBefore l dC dI qB qBx qBy qBz qBa qBb qBc qBd qBs cI cJ cQ nP nQ bX bY bZ bA bB bC bD bS r3 r4z hfc) (cwV 1 ht (gV m_231 m_232 m_233 m_29 m_234) rfl rfl rfl (by decide +kernel) ⟨Nat.le_of_ble_eq_true rfl, Nat.le_of_ble_eq_true rfl⟩) (preRV hPc hK hZ (va_recv hK hPc (ci := 0) (q0 := 0) rfl rfl)) rfl rfl hl.1 rfl (lv_room (Nat.le_of_ble_eq_true rfl)) d_X_piece_23 ⟨Nat.le_of_ble_eq_true rfl, Nat.le_of_ble_eq_true rfl⟩).run (fun r4 hw => ?_)
    subst hw
    clear hPc hfc
    refine lv_goto (tgt := 30) hx hb d_X_piece_26 (by decide) ?_
    cases hf
    exact W.iret hx hb hr (fun t ht hW => ⟨_, rfl, rfl, ht⟩) (fun q h => by cases h) d_X_piece_30
set_option maxHeartbeats 4000000 in
set_option maxRecDepth 100000 in
theorem c_X_image (l : Launch) (dC : Nat → ClassId) (dI : Nat → Nat → Nat) (qX qB qSt qN qR qS qTg qKp qKq qBx qBy qBz qBa qBb qBc qBd qBs qNo qNt qRo qRt qSo qSp : Nat) (cI cJ cQ : ClassId) (nA : Int32) (nK : Int32) (nP : Int32) (nQ : Int32) (bX : Nat → Int32) (bY : Nat → Int32) (bZ : Nat → Int32) (bA : Nat → Int32) (bB : Nat → Int32) (bC : Nat → Int32) (bD : Nat → Int32) (bS : Nat → Int64) (sT : Nat → Int32) (nO : Nat → Int32) (nT : Nat → Int32) (rO : Nat → Int32) (rT : Nat → Int32) (sO : Nat → Int32) (sP : Nat → Int32) (tG : Nat → Int32) (kQ : Nat → Int32) (x1 : Int32) (x2 : Int32) (r_ : Int32) (hf : f_X_image nA nP bX bY bZ sT x1 x2 = some r_) : Met l y_X_image w_X_image ({ frames := 3, cells := 0, slots := 0, locals := 74 }) (va_Pc [.ref qX, .int x1, .int x2] (fun U => va_P (dC, dI) vwCl (w_X qX qB qSt qN qR qS qTg qKp qKq qBx qBy qBz qBa qBb qBc qBd qBs qNo qNt qRo qRt qSo qSp cI cJ nA nK nP nQ bX bY bZ bA bB bC bD bS sT nO nT rO rT sO sP tG kQ) U.heap ∧ va_K (dC, dI) vwCl [(cI, .int), (cJ, .long), (cQ, .object "CutBodies$Contents")] U ∧ nestZ U)) (vp_Si (fun r9 => r9 = r_)) 0 0 (fun _ => False) := by
  refine Met.ofW (cc := b_X_image) (maxL := 3) (ret := (some .int)) (by decide) rfl ?_
  intro p e s m args below meth c s₁ B hml hv
  obtain ⟨rfl, hP, hK, hZ⟩ := hv
  have hx := B.exec
  have hb := B.bytes
  have hr := B.returns
  have hts := atoms_spec (ws := w_X_image) B.pre
  have ht : ∀ w ∈ wAll, w.before _ s = true := fun w h => hts w (List.mem_cons_of_mem _ h)
  have hown : s.vm.findClass R_X = some m.cls := findClass_of_methodNamed B.named
  have hlocks := B.notSynchronized
  have hP : va_P (dC, dI) vwCl (w_X qX qB qSt qN qR qS qTg qKp qKq qBx qBy qBz qBa qBb qBc qBd qBs qNo qNt qRo qRt qSo qSp cI cJ nA nK nP nQ bX bY bZ bA bB bC bD bS sT nO nT rO rT sO sP tG kQ) s.heap := hP
  have hl := lv_entry ([.ref qX, .int x1, .int x2]) (n := 3) (Nat.le_of_ble_eq_true rfl)
  rw [lg_entry_eq]
  generalize (lg_sl ([.ref qX, .int x1, .int x2]) ++ List.replicate (3 - (lg_sl ([.ref qX, .int x1, .int x2])).length) Slot.unset).toArray = ls at hl ⊢
  have hl : lv_has ls 3 [(0, .ref qX), (1, .int x1), (2, .int x2)] := hl
  unfold f_X_image at hf
  refine lv_aload_n hx hb d_X_image_0 rfl (lv_at hl 0 rfl) ?_
  refine lv_iload_n hx hb d_X_image_1 rfl (lv_at hl 1 rfl) ?_
  obtain ⟨r1z, hfc, hf⟩ := oCall1_some hf
  have hPc := hP.sub (ws' := (w_X qX qB qSt qN qR qS qTg qKp qKq qBx qBy qBz qBa qBb qBc qBd qBs qNo qNt qRo qRt qSo qSp cI cJ nA nK nP nQ bX bY bZ bA bB bC bD bS sT nO nT rO rT sO sP tG kQ)) [0, 1, 2, 3, 4, 5, 6, 7, 8, 9, 10, 11, 12, 13, 14, 15, 16, 17, 18, 19, 20, 21] rfl
  refine vp_callSi (va_runV (As := [.int x1]) (rest := []) ⟨hx, hb, hml, hown, ht⟩ (c_X_hasAxis l dC dI qX qB qSt qN qR qS qTg qKp qKq qBx qBy qBz qBa qBb qBc qBd qBs qNo qNt qRo qRt qSo qSp cI cJ cQ nA nK nP nQ bX bY bZ bA bB bC bD bS sT nO nT rO rT sO sP tG kQ x1 r1z hfc) (cwV 1 ht (gV m_188 m_190 m_1 m_28 m_191) rfl rfl rfl (by decide +kernel) ⟨Nat.le_of_ble_eq_true rfl, Nat.le_of_ble_eq_true rfl⟩) (preRV hPc hK hZ (va_recv hK hPc (ci := 2) (q0 := 0) rfl rfl)) rfl rfl hl.1 rfl (lv_room (Nat.le_of_ble_eq_true rfl)) d_X_image_2 ⟨Nat.le_of_ble_eq_true rfl, Nat.le_of_ble_eq_true rfl⟩).run (fun r1 hw => ?_)
  subst hw
  clear hPc hfc
  refine lv_if_eq (tgt := 36) hx hb d_X_image_5 (by decide) (fun c2 => ?_) (fun c2 => ?_)
  · have hf := oIf_t hf c2
    refine lv_iconst (v := (-1)) hx hb d_X_image_36 (by decide) ?_
    cases hf
    exact W.iret hx hb hr (fun t ht hW => ⟨_, rfl, rfl, ht⟩) (fun q h => by cases h) d_X_image_37
  · have hf := oIf_f hf c2
    refine lv_aload_n hx hb d_X_image_8 rfl (lv_at hl 0 rfl) ?_
    refine va_get (D := (dC, dI)) (ci := 2) (v := .ref qB) (C := R_X) (T := T_X) (N := 10) hx hb ht in_X hown hK hP 0 rfl rfl 0 (by decide) (ht _ m_100) (fun _ h9 => h9) rfl d_X_image_9 ?_
    refine lv_iload_n hx hb d_X_image_12 rfl (lv_at hl 2 rfl) ?_
    obtain ⟨r3z, hfc, hf⟩ := oCall1_some hf
    have hPc := hP.sub (ws' := (w_B qB qBx qBy qBz qBa qBb qBc qBd qBs cI cJ nP nQ bX bY bZ bA bB bC bD bS)) [1, 2, 3, 4, 5, 6, 7, 8, 9] rfl
    refine vp_callSi (va_runV (As := [.int x2]) (rest := []) ⟨hx, hb, hml, hown, ht⟩ (c_B_hasPoint l dC dI qB qBx qBy qBz qBa qBb qBc qBd qBs cI cJ cQ nP nQ bX bY bZ bA bB bC bD bS x2 r3z hfc) (cwV 1 ht (gV m_214 m_215 m_216 m_29 m_217) rfl rfl rfl (by decide +kernel) ⟨Nat.le_of_ble_eq_true rfl, Nat.le_of_ble_eq_true rfl⟩) (preRV hPc hK hZ (va_recv hK hPc (ci := 0) (q0 := 0) rfl rfl)) rfl rfl hl.1 rfl (lv_room (Nat.le_of_ble_eq_true rfl)) d_X_image_13 ⟨Nat.le_of_ble_eq_true rfl, Nat.le_of_ble_eq_true rfl⟩).run (fun r3 hw => ?_)
    subst hw
    clear hPc hfc
    refine lv_if_eq (tgt := 36) hx hb d_X_image_16 (by decide) (fun c4 => ?_) (fun c4 => ?_)
    · have hf := oIf_t hf c4
      refine lv_iconst (v := (-1)) hx hb d_X_image_36 (by decide) ?_
      cases hf
      exact W.iret hx hb hr (fun t ht hW => ⟨_, rfl, rfl, ht⟩) (fun q h => by cases h) d_X_image_37
    · have hf := oIf_f hf c4
      refine lv_aload_n hx hb d_X_image_19 rfl (lv_at hl 0 rfl) ?_
      refine va_get (D := (dC, dI)) (ci := 2) (v := .ref qB) (C := R_X) (T := T_X) (N := 10) hx hb ht in_X hown hK hP 0 rfl rfl 0 (by decide) (ht _ m_100) (fun _ h9 => h9) rfl d_X_image_20 ?_
      refine lv_iload_n hx hb d_X_image_23 rfl (lv_at hl 2 rfl) ?_
      refine lv_aload_n hx hb d_X_image_24 rfl (lv_at hl 0 rfl) ?_
      refine va_get (D := (dC, dI)) (ci := 2) (v := .ref qSt) (C := R_X) (T := T_X) (N := 10) hx hb ht in_X hown hK hP 0 rfl rfl 1 (by decide) (ht _ m_101) (fun _ h9 => h9) rfl d_X_image_25 ?_
      refine lv_iload_n hx hb d_X_image_28 rfl (lv_at hl 1 rfl) ?_
      obtain ⟨hi5, hf⟩ := oIn_some hf
      refine va_iald hx hb hK hP 10 0 rfl rfl hi5 d_X_image_29 ?_
      obtain ⟨r6z, hfc, hf⟩ := oCall1_some hf
      have hPc := hP.sub (ws' := (w_B qB qBx qBy qBz qBa qBb qBc qBd qBs cI cJ nP nQ bX bY bZ bA bB bC bD bS)) [1, 2, 3, 4, 5, 6, 7, 8, 9] rfl
      refine vp_callSi (va_runV (As := [.int x2, .int (sT x1.toNatClampNeg)]) (rest := []) ⟨hx, hb, hml, hown, ht⟩ (c_B_imageOf l dC dI qB qBx qBy qBz qBa qBb qBc qBd qBs cI cJ cQ nP nQ bX bY bZ bA bB bC bD bS x2 (sT x1.toNatClampNeg) r6z hfc) (cwV 2 ht (gV m_248 m_249 m_250 m_29 m_251) rfl rfl rfl (by decide +kernel) ⟨Nat.le_of_ble_eq_true rfl, Nat.le_of_ble_eq_true rfl⟩) (preRV hPc hK hZ (va_recv hK hPc (ci := 0) (q0 := 0) rfl rfl)) rfl rfl hl.1 rfl (lv_room (Nat.le_of_ble_eq_true rfl)) d_X_image_30 ⟨Nat.le_of_ble_eq_true rfl, Nat.le_of_ble_eq_true rfl⟩).run (fun r6 hw => ?_)
      subst hw
      clear hPc hfc
      refine lv_goto (tgt := 37) hx hb d_X_image_33 (by decide) ?_
      cases hf
      exact W.iret hx hb hr (fun t ht hW => ⟨_, rfl, rfl, ht⟩) (fun q h => by cases h) d_X_image_37
set_option maxHeartbeats 4000000 in
set_option maxRecDepth 100000 in
theorem c_X_at (l : Launch) (dC : Nat → ClassId) (dI : Nat → Nat → Nat) (qX qB qSt qN qR qS qTg qKp qKq qBx qBy qBz qBa qBb qBc qBd qBs qNo qNt qRo qRt qSo qSp : Nat) (cI cJ cQ : ClassId) (nA : Int32) (nK : Int32) (nP : Int32) (nQ : Int32) (bX : Nat → Int32) (bY : Nat → Int32) (bZ : Nat → Int32) (bA : Nat → Int32) (bB : Nat → Int32) (bC : Nat → Int32) (bD : Nat → Int32) (bS : Nat → Int64) (sT : Nat → Int32) (nO : Nat → Int32) (nT : Nat → Int32) (rO : Nat → Int32) (rT : Nat → Int32) (sO : Nat → Int32) (sP : Nat → Int32) (tG : Nat → Int32) (kQ : Nat → Int32) (x1 : Int32) (r_ : Int32) (hf : f_X_at nP nO x1 = some r_) : Met l y_X_at w_X_at ({ frames := 1, cells := 0, slots := 0, locals := 21 }) (va_Pc [.ref qX, .int x1] (fun U => va_P (dC, dI) vwCl (w_X qX qB qSt qN qR qS qTg qKp qKq qBx qBy qBz qBa qBb qBc qBd qBs qNo qNt qRo qRt qSo qSp cI cJ nA nK nP nQ bX bY bZ bA bB bC bD bS sT nO nT rO rT sO sP tG kQ) U.heap ∧ va_K (dC, dI) vwCl [(cI, .int), (cJ, .long), (cQ, .object "CutBodies$Contents")] U ∧ nestZ U)) (vp_Si (fun r9 => r9 = r_)) 0 0 (fun _ => False) := by
  refine Met.ofW (cc := b_X_at) (maxL := 2) (ret := (some .int)) (by decide) rfl ?_
  intro p e s m args below meth c s₁ B hml hv
  obtain ⟨rfl, hP, hK, hZ⟩ := hv
  have hx := B.exec
  have hb := B.bytes
  have hr := B.returns
  have hts := atoms_spec (ws := w_X_at) B.pre
  have ht : ∀ w ∈ wAll, w.before _ s = true := fun w h => hts w (List.mem_cons_of_mem _ h)
  have hown : s.vm.findClass R_X = some m.cls := findClass_of_methodNamed B.named
  have hlocks := B.notSynchronized
  have hP : va_P (dC, dI) vwCl (w_X qX qB qSt qN qR qS qTg qKp qKq qBx qBy qBz qBa qBb qBc qBd qBs qNo qNt qRo qRt qSo qSp cI cJ nA nK nP nQ bX bY bZ bA bB bC bD bS sT nO nT rO rT sO sP tG kQ) s.heap := hP
  have hl := lv_entry ([.ref qX, .int x1]) (n := 2) (Nat.le_of_ble_eq_true rfl)
  rw [lg_entry_eq]
  generalize (lg_sl ([.ref qX, .int x1]) ++ List.replicate (2 - (lg_sl ([.ref qX, .int x1])).length) Slot.unset).toArray = ls at hl ⊢
  have hl : lv_has ls 2 [(0, .ref qX), (1, .int x1)] := hl
  unfold f_X_at at hf
  refine lv_aload_n hx hb d_X_at_0 rfl (lv_at hl 0 rfl) ?_
  refine va_get (D := (dC, dI)) (ci := 2) (v := .ref qB) (C := R_X) (T := T_X) (N := 10) hx hb ht in_X hown hK hP 0 rfl rfl 0 (by decide) (ht _ m_100) (fun _ h9 => h9) rfl d_X_at_1 ?_
  refine lv_iload_n hx hb d_X_at_4 rfl (lv_at hl 1 rfl) ?_
  obtain ⟨r1z, hfc, hf⟩ := oCall1_some hf
  have hPc := hP.sub (ws' := (w_B qB qBx qBy qBz qBa qBb qBc qBd qBs cI cJ nP nQ bX bY bZ bA bB bC bD bS)) [1, 2, 3, 4, 5, 6, 7, 8, 9] rfl
  refine vp_callSi (va_runV (As := [.int x1]) (rest := []) ⟨hx, hb, hml, hown, ht⟩ (c_B_hasPoint l dC dI qB qBx qBy qBz qBa qBb qBc qBd qBs cI cJ cQ nP nQ bX bY bZ bA bB bC bD bS x1 r1z hfc) (cwV 1 ht (gV m_214 m_215 m_216 m_29 m_217) rfl rfl rfl (by decide +kernel) ⟨Nat.le_of_ble_eq_true rfl, Nat.le_of_ble_eq_true rfl⟩) (preRV hPc hK hZ (va_recv hK hPc (ci := 0) (q0 := 0) rfl rfl)) rfl rfl hl.1 rfl (lv_room (Nat.le_of_ble_eq_true rfl)) d_X_at_5 ⟨Nat.le_of_ble_eq_true rfl, Nat.le_of_ble_eq_true rfl⟩).run (fun r1 hw => ?_)
  subst hw
  clear hPc hfc
  refine lv_if_eq (tgt := 23) hx hb d_X_at_8 (by decide) (fun c2 => ?_) (fun c2 => ?_)
  · have hf := oIf_t hf c2
    refine lv_iconst (v := (-1)) hx hb d_X_at_23 (by decide) ?_
    cases hf
    exact W.iret hx hb hr (fun t ht hW => ⟨_, rfl, rfl, ht⟩) (fun q h => by cases h) d_X_at_24
  · have hf := oIf_f hf c2
    refine lv_aload_n hx hb d_X_at_11 rfl (lv_at hl 0 rfl) ?_
    refine va_get (D := (dC, dI)) (ci := 2) (v := .ref qN) (C := R_X) (T := T_X) (N := 10) hx hb ht in_X hown hK hP 0 rfl rfl 3 (by decide) (ht _ m_103) (fun _ h9 => h9) rfl d_X_at_12 ?_
    refine va_getN (D := (dC, dI)) (ci := 1) (v := .ref qNo) (C := R_C) (T := T_C) (N := 2) hx hb ht in_C hown hK hP 11 rfl rfl 0 (by decide) (nz hZ (List.mem_of_getElem? (i := 2) rfl)) (fun _ h9 => h9) rfl d_X_at_15 ?_
    refine lv_iload_n hx hb d_X_at_18 rfl (lv_at hl 1 rfl) ?_
    obtain ⟨hi3, hf⟩ := oIn_some hf
    refine va_iald hx hb hK hP 12 0 rfl rfl hi3 d_X_at_19 ?_
    refine lv_goto (tgt := 24) hx hb d_X_at_20 (by decide) ?_
    cases hf
    exact W.iret hx hb hr (fun t ht hW => ⟨_, rfl, rfl, ht⟩) (fun q h => by cases h) d_X_at_24
set_option maxHeartbeats 4000000 in
set_option maxRecDepth 100000 in
theorem c_X_way (l : Launch) (dC : Nat → ClassId) (dI : Nat → Nat → Nat) (qX qB qSt qN qR qS qTg qKp qKq qBx qBy qBz qBa qBb qBc qBd qBs qNo qNt qRo qRt qSo qSp : Nat) (cI cJ cQ : ClassId) (nA : Int32) (nK : Int32) (nP : Int32) (nQ : Int32) (bX : Nat → Int32) (bY : Nat → Int32) (bZ : Nat → Int32) (bA : Nat → Int32) (bB : Nat → Int32) (bC : Nat → Int32) (bD : Nat → Int32) (bS : Nat → Int64) (sT : Nat → Int32) (nO : Nat → Int32) (nT : Nat → Int32) (rO : Nat → Int32) (rT : Nat → Int32) (sO : Nat → Int32) (sP : Nat → Int32) (tG : Nat → Int32) (kQ : Nat → Int32) (x1 : Int32) (r_ : Int32) (hf : f_X_way nP nT x1 = some r_) : Met l y_X_way w_X_way ({ frames := 1, cells := 0, slots := 0, locals := 21 }) (va_Pc [.ref qX, .int x1] (fun U => va_P (dC, dI) vwCl (w_X qX qB qSt qN qR qS qTg qKp qKq qBx qBy qBz qBa qBb qBc qBd qBs qNo qNt qRo qRt qSo qSp cI cJ nA nK nP nQ bX bY bZ bA bB bC bD bS sT nO nT rO rT sO sP tG kQ) U.heap ∧ va_K (dC, dI) vwCl [(cI, .int), (cJ, .long), (cQ, .object "CutBodies$Contents")] U ∧ nestZ U)) (vp_Si (fun r9 => r9 = r_)) 0 0 (fun _ => False) := by
  refine Met.ofW (cc := b_X_way) (maxL := 2) (ret := (some .int)) (by decide) rfl ?_
  intro p e s m args below meth c s₁ B hml hv
  obtain ⟨rfl, hP, hK, hZ⟩ := hv
  have hx := B.exec
  have hb := B.bytes
  have hr := B.returns
  have hts := atoms_spec (ws := w_X_way) B.pre
  have ht : ∀ w ∈ wAll, w.before _ s = true := fun w h => hts w (List.mem_cons_of_mem _ h)
  have hown : s.vm.findClass R_X = some m.cls := findClass_of_methodNamed B.named
  have hlocks := B.notSynchronized
  have hP : va_P (dC, dI) vwCl (w_X qX qB qSt qN qR qS qTg qKp qKq qBx qBy qBz qBa qBb qBc qBd qBs qNo qNt qRo qRt qSo qSp cI cJ nA nK nP nQ bX bY bZ bA bB bC bD bS sT nO nT rO rT sO sP tG kQ) s.heap := hP
  have hl := lv_entry ([.ref qX, .int x1]) (n := 2) (Nat.le_of_ble_eq_true rfl)
  rw [lg_entry_eq]
  generalize (lg_sl ([.ref qX, .int x1]) ++ List.replicate (2 - (lg_sl ([.ref qX, .int x1])).length) Slot.unset).toArray = ls at hl ⊢
  have hl : lv_has ls 2 [(0, .ref qX), (1, .int x1)] := hl
  unfold f_X_way at hf
  refine lv_aload_n hx hb d_X_way_0 rfl (lv_at hl 0 rfl) ?_
  refine va_get (D := (dC, dI)) (ci := 2) (v := .ref qB) (C := R_X) (T := T_X) (N := 10) hx hb ht in_X hown hK hP 0 rfl rfl 0 (by decide) (ht _ m_100) (fun _ h9 => h9) rfl d_X_way_1 ?_
  refine lv_iload_n hx hb d_X_way_4 rfl (lv_at hl 1 rfl) ?_
  obtain ⟨r1z, hfc, hf⟩ := oCall1_some hf
  have hPc := hP.sub (ws' := (w_B qB qBx qBy qBz qBa qBb qBc qBd qBs cI cJ nP nQ bX bY bZ bA bB bC bD bS)) [1, 2, 3, 4, 5, 6, 7, 8, 9] rfl
  refine vp_callSi (va_runV (As := [.int x1]) (rest := []) ⟨hx, hb, hml, hown, ht⟩ (c_B_hasPoint l dC dI qB qBx qBy qBz qBa qBb qBc qBd qBs cI cJ cQ nP nQ bX bY bZ bA bB bC bD bS x1 r1z hfc) (cwV 1 ht (gV m_214 m_215 m_216 m_29 m_217) rfl rfl rfl (by decide +kernel) ⟨Nat.le_of_ble_eq_true rfl, Nat.le_of_ble_eq_true rfl⟩) (preRV hPc hK hZ (va_recv hK hPc (ci := 0) (q0 := 0) rfl rfl)) rfl rfl hl.1 rfl (lv_room (Nat.le_of_ble_eq_true rfl)) d_X_way_5 ⟨Nat.le_of_ble_eq_true rfl, Nat.le_of_ble_eq_true rfl⟩).run (fun r1 hw => ?_)
  subst hw
  clear hPc hfc
  refine lv_if_eq (tgt := 23) hx hb d_X_way_8 (by decide) (fun c2 => ?_) (fun c2 => ?_)
  · have hf := oIf_t hf c2
    refine lv_iconst (v := (-1)) hx hb d_X_way_23 (by decide) ?_
    cases hf
    exact W.iret hx hb hr (fun t ht hW => ⟨_, rfl, rfl, ht⟩) (fun q h => by cases h) d_X_way_24
  · have hf := oIf_f hf c2
    refine lv_aload_n hx hb d_X_way_11 rfl (lv_at hl 0 rfl) ?_
    refine va_get (D := (dC, dI)) (ci := 2) (v := .ref qN) (C := R_X) (T := T_X) (N := 10) hx hb ht in_X hown hK hP 0 rfl rfl 3 (by decide) (ht _ m_103) (fun _ h9 => h9) rfl d_X_way_12 ?_
    refine va_getN (D := (dC, dI)) (ci := 1) (v := .ref qNt) (C := R_C) (T := T_C) (N := 2) hx hb ht in_C hown hK hP 11 rfl rfl 1 (by decide) (nz hZ (List.mem_of_getElem? (i := 3) rfl)) (fun _ h9 => h9) rfl d_X_way_15 ?_
    refine lv_iload_n hx hb d_X_way_18 rfl (lv_at hl 1 rfl) ?_
    obtain ⟨hi3, hf⟩ := oIn_some hf
    refine va_iald hx hb hK hP 13 0 rfl rfl hi3 d_X_way_19 ?_
    refine lv_goto (tgt := 24) hx hb d_X_way_20 (by decide) ?_
    cases hf
    exact W.iret hx hb hr (fun t ht hW => ⟨_, rfl, rfl, ht⟩) (fun q h => by cases h) d_X_way_24
set_option maxHeartbeats 4000000 in
set_option maxRecDepth 100000 in
theorem c_X_home (l : Launch) (dC : Nat → ClassId) (dI : Nat → Nat → Nat) (qX qB qSt qN qR qS qTg qKp qKq qBx qBy qBz qBa qBb qBc qBd qBs qNo qNt qRo qRt qSo qSp : Nat) (cI cJ cQ : ClassId) (nA : Int32) (nK : Int32) (nP : Int32) (nQ : Int32) (bX : Nat → Int32) (bY : Nat → Int32) (bZ : Nat → Int32) (bA : Nat → Int32) (bB : Nat → Int32) (bC : Nat → Int32) (bD : Nat → Int32) (bS : Nat → Int64) (sT : Nat → Int32) (nO : Nat → Int32) (nT : Nat → Int32) (rO : Nat → Int32) (rT : Nat → Int32) (sO : Nat → Int32) (sP : Nat → Int32) (tG : Nat → Int32) (kQ : Nat → Int32) (r_ : Int32) (hf : f_X_home nP nO nT = some r_) : Met l y_X_home w_X_home ({ frames := 0, cells := 0, slots := 0, locals := 0 }) (va_Pc [.ref qX] (fun U => va_P (dC, dI) vwCl (w_X qX qB qSt qN qR qS qTg qKp qKq qBx qBy qBz qBa qBb qBc qBd qBs qNo qNt qRo qRt qSo qSp cI cJ nA nK nP nQ bX bY bZ bA bB bC bD bS sT nO nT rO rT sO sP tG kQ) U.heap ∧ va_K (dC, dI) vwCl [(cI, .int), (cJ, .long), (cQ, .object "CutBodies$Contents")] U ∧ nestZ U)) (vp_Si (fun r9 => r9 = r_)) 0 0 (fun _ => False) := by
  refine Met.ofW (cc := b_X_home) (maxL := 3) (ret := (some .int)) (by decide) rfl ?_
  intro p e s m args below meth c s₁ B hml hv
  obtain ⟨rfl, hP, hK, hZ⟩ := hv
  have hx := B.exec
  have hb := B.bytes
  have hr := B.returns
  have hts := atoms_spec (ws := w_X_home) B.pre
  have ht : ∀ w ∈ wAll, w.before _ s = true := fun w h => hts w (List.mem_cons_of_mem _ h)
  have hown : s.vm.findClass R_X = some m.cls := findClass_of_methodNamed B.named
  have hlocks := B.notSynchronized
  have hP : va_P (dC, dI) vwCl (w_X qX qB qSt qN qR qS qTg qKp qKq qBx qBy qBz qBa qBb qBc qBd qBs qNo qNt qRo qRt qSo qSp cI cJ nA nK nP nQ bX bY bZ bA bB bC bD bS sT nO nT rO rT sO sP tG kQ) s.heap := hP
  have hl := lv_entry ([.ref qX]) (n := 3) (Nat.le_of_ble_eq_true rfl)
  rw [lg_entry_eq]
  generalize (lg_sl ([.ref qX]) ++ List.replicate (3 - (lg_sl ([.ref qX])).length) Slot.unset).toArray = ls at hl ⊢
  have hl : lv_has ls 3 [(0, .ref qX)] := hl
  refine w_abs (fun Wx toX ofX => ?_)
  have K4 : ∀ (n : Nat) (x1 : Int32) (x2 : Int32) (ls : Array Slot), oLoop2 (f_X_home_L4  nP nO nT) n x1 x2 = some r_ → lv_has ls 3 [(0, .ref qX), (1, .int x1), (2, .int x2)] → Wx s.heap [] 0 0 (F0 m 4 ls []) := by
    intro  n
    induction n with
    | zero => intro x1 x2 ls hf; exact (oLoop2_0 hf).elim
    | succ n ih4 =>
      obtain ⟨rec4, hrec4⟩ : ∃ z, z = oLoop2 (f_X_home_L4  nP nO nT) n := ⟨_, rfl⟩
      rw [← hrec4] at ih4
      have K43 : ∀ (x1 : Int32) (x2 : Int32) (ls : Array Slot), f_X_home_J43 rec4 nP nO nT x1 x2 = some r_ → lv_has ls 3 [(0, .ref qX), (1, .int x1), (2, .int x2)] → Wx s.heap [] 0 0 (F0 m 43 ls []) := by
        intro x1 x2 ls hf hl
        refine toX _ _ _ _ _ ?_
        unfold f_X_home_J43 at hf
        obtain ⟨v1, ev1, hf⟩ := oLet_ex hf
        refine lv_iinc (v := v1) (lv' := [(2, .int v1), (0, .ref qX), (1, .int x1)]) hx hb d_X_home_43 hl (k := 2) rfl (by rw [ev1]; rfl) (by decide) rfl (fun ls hl => ?_)
        refine lv_goto (tgt := 4) hx hb d_X_home_46 (by decide) ?_
        exact ofX _ _ _ _ _ (ih4 x1 v1 _ hf (lv_sub hl [1, 2, 0] rfl))
      intro x1 x2 ls hf hl
      refine toX _ _ _ _ _ ?_
      have hf := oLoop2_s hf
      rw [← hrec4] at hf
      unfold f_X_home_L4 at hf
      refine lv_iload_n hx hb d_X_home_4 rfl (lv_at hl 2 rfl) ?_
      refine lv_aload_n hx hb d_X_home_5 rfl (lv_at hl 0 rfl) ?_
      refine va_get (D := (dC, dI)) (ci := 2) (v := .ref qB) (C := R_X) (T := T_X) (N := 10) hx hb ht in_X hown hK hP 0 rfl rfl 0 (by decide) (ht _ m_100) (fun _ h9 => h9) rfl d_X_home_6 ?_
      refine va_getN (D := (dC, dI)) (ci := 0) (v := .int nP) (C := R_B) (T := T_B) (N := 10) hx hb ht in_B hown hK hP 1 rfl rfl 3 (by decide) (nz hZ (List.mem_of_getElem? (i := 1) rfl)) (fun _ h9 => h9) rfl d_X_home_9 ?_
      refine lv_icmp_ge (tgt := 49) hx hb d_X_home_12 (by decide) (fun c2 => ?_) (fun c2 => ?_)
      · have hf := oIf_t hf c2
        refine lv_iload_n hx hb d_X_home_49 rfl (lv_at hl 1 rfl) ?_
        cases hf
        exact W.iret hx hb hr (fun t ht hW => ⟨_, rfl, rfl, ht⟩) (fun q h => by cases h) d_X_home_50
      · have hf := oIf_f hf c2
        refine lv_aload_n hx hb d_X_home_15 rfl (lv_at hl 0 rfl) ?_
        refine va_get (D := (dC, dI)) (ci := 2) (v := .ref qN) (C := R_X) (T := T_X) (N := 10) hx hb ht in_X hown hK hP 0 rfl rfl 3 (by decide) (ht _ m_103) (fun _ h9 => h9) rfl d_X_home_16 ?_
        refine va_getN (D := (dC, dI)) (ci := 1) (v := .ref qNo) (C := R_C) (T := T_C) (N := 2) hx hb ht in_C hown hK hP 11 rfl rfl 0 (by decide) (nz hZ (List.mem_of_getElem? (i := 2) rfl)) (fun _ h9 => h9) rfl d_X_home_19 ?_
        refine lv_iload_n hx hb d_X_home_22 rfl (lv_at hl 2 rfl) ?_
        obtain ⟨hi3, hf⟩ := oIn_some hf
        refine va_iald hx hb hK hP 12 0 rfl rfl hi3 d_X_home_23 ?_
        refine lv_iload_n hx hb d_X_home_24 rfl (lv_at hl 2 rfl) ?_
        refine lv_icmp_ne (tgt := 43) hx hb d_X_home_25 (by decide) (fun c4 => ?_) (fun c4 => ?_)
        · have hf := oIf_f hf c4
          exact ofX _ _ _ _ _ (K43  x1 x2 _ hf (lv_sub hl [0, 1, 2] rfl))
        · have hf := oIf_t hf c4
          refine lv_aload_n hx hb d_X_home_28 rfl (lv_at hl 0 rfl) ?_
          refine va_get (D := (dC, dI)) (ci := 2) (v := .ref qN) (C := R_X) (T := T_X) (N := 10) hx hb ht in_X hown hK hP 0 rfl rfl 3 (by decide) (ht _ m_103) (fun _ h9 => h9) rfl d_X_home_29 ?_
          refine va_getN (D := (dC, dI)) (ci := 1) (v := .ref qNt) (C := R_C) (T := T_C) (N := 2) hx hb ht in_C hown hK hP 11 rfl rfl 1 (by decide) (nz hZ (List.mem_of_getElem? (i := 3) rfl)) (fun _ h9 => h9) rfl d_X_home_32 ?_
          refine lv_iload_n hx hb d_X_home_35 rfl (lv_at hl 2 rfl) ?_
          obtain ⟨hi5, hf⟩ := oIn_some hf
          refine va_iald hx hb hK hP 13 0 rfl rfl hi5 d_X_home_36 ?_
          refine lv_if_ne (tgt := 43) hx hb d_X_home_37 (by decide) (fun c6 => ?_) (fun c6 => ?_)
          · have hf := oIf_f hf c6
            exact ofX _ _ _ _ _ (K43  x1 x2 _ hf (lv_sub hl [0, 1, 2] rfl))
          · have hf := oIf_t hf c6
            obtain ⟨v7, ev7, hf⟩ := oLet_ex hf
            refine lv_iinc (v := v7) (lv' := [(1, .int v7), (0, .ref qX), (2, .int x2)]) hx hb d_X_home_40 hl (k := 1) rfl (by rw [ev7]; rfl) (by decide) rfl (fun ls hl => ?_)
            exact ofX _ _ _ _ _ (K43  v7 x2 _ hf (lv_sub hl [1, 0, 2] rfl))
  refine toX _ _ _ _ _ ?_
  unfold f_X_home at hf
  refine lv_iconst (v := 0) hx hb d_X_home_0 (by decide) ?_
  refine lv_istore_n (lv' := [(1, .int 0), (0, .ref qX)]) hx hb d_X_home_1 rfl hl (by decide) rfl (fun ls hl => ?_)
  refine lv_iconst (v := 0) hx hb d_X_home_2 (by decide) ?_
  refine lv_istore_n (lv' := [(2, .int 0), (1, .int 0), (0, .ref qX)]) hx hb d_X_home_3 rfl hl (by decide) rfl (fun ls hl => ?_)
  exact ofX _ _ _ _ _ (K4  _ 0 0 _ hf (lv_sub hl [2, 1, 0] rfl))
set_option maxHeartbeats 4000000 in
set_option maxRecDepth 100000 in
theorem c_X_maps (l : Launch) (dC : Nat → ClassId) (dI : Nat → Nat → Nat) (qX qB qSt qN qR qS qTg qKp qKq qBx qBy qBz qBa qBb qBc qBd qBs qNo qNt qRo qRt qSo qSp : Nat) (cI cJ cQ : ClassId) (nA : Int32) (nK : Int32) (nP : Int32) (nQ : Int32) (bX : Nat → Int32) (bY : Nat → Int32) (bZ : Nat → Int32) (bA : Nat → Int32) (bB : Nat → Int32) (bC : Nat → Int32) (bD : Nat → Int32) (bS : Nat → Int64) (sT : Nat → Int32) (nO : Nat → Int32) (nT : Nat → Int32) (rO : Nat → Int32) (rT : Nat → Int32) (sO : Nat → Int32) (sP : Nat → Int32) (tG : Nat → Int32) (kQ : Nat → Int32) (x1 : Int32) (r_ : Int32) (hf : f_X_maps nA nP nQ bX bY bZ bA bB bC bD sT x1 = some r_) : Met l y_X_maps w_X_maps ({ frames := 4, cells := 0, slots := 0, locals := 96 }) (va_Pc [.ref qX, .int x1] (fun U => va_P (dC, dI) vwCl (w_X qX qB qSt qN qR qS qTg qKp qKq qBx qBy qBz qBa qBb qBc qBd qBs qNo qNt qRo qRt qSo qSp cI cJ nA nK nP nQ bX bY bZ bA bB bC bD bS sT nO nT rO rT sO sP tG kQ) U.heap ∧ va_K (dC, dI) vwCl [(cI, .int), (cJ, .long), (cQ, .object "CutBodies$Contents")] U ∧ nestZ U)) (vp_Si (fun r9 => r9 = r_)) 0 0 (fun _ => False) := by
  refine Met.ofW (cc := b_X_maps) (maxL := 2) (ret := (some .boolean)) (by decide) rfl ?_
  intro p e s m args below meth c s₁ B hml hv
  obtain ⟨rfl, hP, hK, hZ⟩ := hv
  have hx := B.exec
  have hb := B.bytes
  have hr := B.returns
  have hts := atoms_spec (ws := w_X_maps) B.pre
  have ht : ∀ w ∈ wAll, w.before _ s = true := fun w h => hts w (List.mem_cons_of_mem _ h)
  have hown : s.vm.findClass R_X = some m.cls := findClass_of_methodNamed B.named
  have hlocks := B.notSynchronized
  have hP : va_P (dC, dI) vwCl (w_X qX qB qSt qN qR qS qTg qKp qKq qBx qBy qBz qBa qBb qBc qBd qBs qNo qNt qRo qRt qSo qSp cI cJ nA nK nP nQ bX bY bZ bA bB bC bD bS sT nO nT rO rT sO sP tG kQ) s.heap := hP
  have hl := lv_entry ([.ref qX, .int x1]) (n := 2) (Nat.le_of_ble_eq_true rfl)
  rw [lg_entry_eq]
  generalize (lg_sl ([.ref qX, .int x1]) ++ List.replicate (2 - (lg_sl ([.ref qX, .int x1])).length) Slot.unset).toArray = ls at hl ⊢
  have hl : lv_has ls 2 [(0, .ref qX), (1, .int x1)] := hl
  unfold f_X_maps at hf
  refine lv_aload_n hx hb d_X_maps_0 rfl (lv_at hl 0 rfl) ?_
  refine lv_iload_n hx hb d_X_maps_1 rfl (lv_at hl 1 rfl) ?_
  obtain ⟨r1z, hfc, hf⟩ := oCall1_some hf
  have hPc := hP.sub (ws' := (w_X qX qB qSt qN qR qS qTg qKp qKq qBx qBy qBz qBa qBb qBc qBd qBs qNo qNt qRo qRt qSo qSp cI cJ nA nK nP nQ bX bY bZ bA bB bC bD bS sT nO nT rO rT sO sP tG kQ)) [0, 1, 2, 3, 4, 5, 6, 7, 8, 9, 10, 11, 12, 13, 14, 15, 16, 17, 18, 19, 20, 21] rfl
  refine vp_callSi (va_runV (As := [.int x1]) (rest := []) ⟨hx, hb, hml, hown, ht⟩ (c_X_hasAxis l dC dI qX qB qSt qN qR qS qTg qKp qKq qBx qBy qBz qBa qBb qBc qBd qBs qNo qNt qRo qRt qSo qSp cI cJ cQ nA nK nP nQ bX bY bZ bA bB bC bD bS sT nO nT rO rT sO sP tG kQ x1 r1z hfc) (cwV 1 ht (gV m_188 m_190 m_1 m_28 m_191) rfl rfl rfl (by decide +kernel) ⟨Nat.le_of_ble_eq_true rfl, Nat.le_of_ble_eq_true rfl⟩) (preRV hPc hK hZ (va_recv hK hPc (ci := 2) (q0 := 0) rfl rfl)) rfl rfl hl.1 rfl (lv_room (Nat.le_of_ble_eq_true rfl)) d_X_maps_2 ⟨Nat.le_of_ble_eq_true rfl, Nat.le_of_ble_eq_true rfl⟩).run (fun r1 hw => ?_)
  subst hw
  clear hPc hfc
  refine lv_if_eq (tgt := 44) hx hb d_X_maps_5 (by decide) (fun c2 => ?_) (fun c2 => ?_)
  · have hf := oIf_t hf c2
    refine lv_iconst (v := 0) hx hb d_X_maps_44 (by decide) ?_
    cases hf
    exact W.zret (ty := .boolean) hx hb hr rfl (fun t ht hW => ⟨_, rfl, rfl, ht⟩) (fun q h => by cases h) d_X_maps_45
  · have hf := oIf_f hf c2
    refine lv_aload_n hx hb d_X_maps_8 rfl (lv_at hl 0 rfl) ?_
    refine va_get (D := (dC, dI)) (ci := 2) (v := .ref qB) (C := R_X) (T := T_X) (N := 10) hx hb ht in_X hown hK hP 0 rfl rfl 0 (by decide) (ht _ m_100) (fun _ h9 => h9) rfl d_X_maps_9 ?_
    refine lv_aload_n hx hb d_X_maps_12 rfl (lv_at hl 0 rfl) ?_
    refine va_get (D := (dC, dI)) (ci := 2) (v := .ref qSt) (C := R_X) (T := T_X) (N := 10) hx hb ht in_X hown hK hP 0 rfl rfl 1 (by decide) (ht _ m_101) (fun _ h9 => h9) rfl d_X_maps_13 ?_
    refine lv_iload_n hx hb d_X_maps_16 rfl (lv_at hl 1 rfl) ?_
    obtain ⟨hi3, hf⟩ := oIn_some hf
    refine va_iald hx hb hK hP 10 0 rfl rfl hi3 d_X_maps_17 ?_
    obtain ⟨r4z, hfc, hf⟩ := oCall1_some hf
    have hPc := hP.sub (ws' := (w_B qB qBx qBy qBz qBa qBb qBc qBd qBs cI cJ nP nQ bX bY bZ bA bB bC bD bS)) [1, 2, 3, 4, 5, 6, 7, 8, 9] rfl
    refine vp_callSi (va_runV (As := [.int (sT x1.toNatClampNeg)]) (rest := []) ⟨hx, hb, hml, hown, ht⟩ (c_B_takesPointsToPoints l dC dI qB qBx qBy qBz qBa qBb qBc qBd qBs cI cJ cQ nP nQ bX bY bZ bA bB bC bD bS (sT x1.toNatClampNeg) r4z hfc) (cwV 1 ht (gV m_294 m_295 m_296 m_29 m_297) rfl rfl rfl (by decide +kernel) ⟨Nat.le_of_ble_eq_true rfl, Nat.le_of_ble_eq_true rfl⟩) (preRV hPc hK hZ (va_recv hK hPc (ci := 0) (q0 := 0) rfl rfl)) rfl rfl hl.1 rfl (lv_room (Nat.le_of_ble_eq_true rfl)) d_X_maps_18 ⟨Nat.le_of_ble_eq_true rfl, Nat.le_of_ble_eq_true rfl⟩).run (fun r4 hw => ?_)
    subst hw
    clear hPc hfc
    refine lv_if_eq (tgt := 44) hx hb d_X_maps_21 (by decide) (fun c5 => ?_) (fun c5 => ?_)
    · have hf := oIf_t hf c5
      refine lv_iconst (v := 0) hx hb d_X_maps_44 (by decide) ?_
      cases hf
      exact W.zret (ty := .boolean) hx hb hr rfl (fun t ht hW => ⟨_, rfl, rfl, ht⟩) (fun q h => by cases h) d_X_maps_45
    · have hf := oIf_f hf c5
      refine lv_aload_n hx hb d_X_maps_24 rfl (lv_at hl 0 rfl) ?_
      refine va_get (D := (dC, dI)) (ci := 2) (v := .ref qB) (C := R_X) (T := T_X) (N := 10) hx hb ht in_X hown hK hP 0 rfl rfl 0 (by decide) (ht _ m_100) (fun _ h9 => h9) rfl d_X_maps_25 ?_
      refine lv_aload_n hx hb d_X_maps_28 rfl (lv_at hl 0 rfl) ?_
      refine va_get (D := (dC, dI)) (ci := 2) (v := .ref qSt) (C := R_X) (T := T_X) (N := 10) hx hb ht in_X hown hK hP 0 rfl rfl 1 (by decide) (ht _ m_101) (fun _ h9 => h9) rfl d_X_maps_29 ?_
      refine lv_iload_n hx hb d_X_maps_32 rfl (lv_at hl 1 rfl) ?_
      obtain ⟨hi6, hf⟩ := oIn_some hf
      refine va_iald hx hb hK hP 10 0 rfl rfl hi6 d_X_maps_33 ?_
      obtain ⟨r7z, hfc, hf⟩ := oCall1_some hf
      have hPc := hP.sub (ws' := (w_B qB qBx qBy qBz qBa qBb qBc qBd qBs cI cJ nP nQ bX bY bZ bA bB bC bD bS)) [1, 2, 3, 4, 5, 6, 7, 8, 9] rfl
      refine vp_callSi (va_runV (As := [.int (sT x1.toNatClampNeg)]) (rest := []) ⟨hx, hb, hml, hown, ht⟩ (c_B_takesPlanesToPlanes l dC dI qB qBx qBy qBz qBa qBb qBc qBd qBs cI cJ cQ nP nQ bX bY bZ bA bB bC bD bS (sT x1.toNatClampNeg) r7z hfc) (cwV 1 ht (gV m_299 m_300 m_301 m_29 m_302) rfl rfl rfl (by decide +kernel) ⟨Nat.le_of_ble_eq_true rfl, Nat.le_of_ble_eq_true rfl⟩) (preRV hPc hK hZ (va_recv hK hPc (ci := 0) (q0 := 0) rfl rfl)) rfl rfl hl.1 rfl (lv_room (Nat.le_of_ble_eq_true rfl)) d_X_maps_34 ⟨Nat.le_of_ble_eq_true rfl, Nat.le_of_ble_eq_true rfl⟩).run (fun r7 hw => ?_)
      subst hw
      clear hPc hfc
      refine lv_if_eq (tgt := 44) hx hb d_X_maps_37 (by decide) (fun c8 => ?_) (fun c8 => ?_)
      · have hf := oIf_t hf c8
        refine lv_iconst (v := 0) hx hb d_X_maps_44 (by decide) ?_
        cases hf
        exact W.zret (ty := .boolean) hx hb hr rfl (fun t ht hW => ⟨_, rfl, rfl, ht⟩) (fun q h => by cases h) d_X_maps_45
      · have hf := oIf_f hf c8
        refine lv_iconst (v := 1) hx hb d_X_maps_40 (by decide) ?_
        refine lv_goto (tgt := 45) hx hb d_X_maps_41 (by decide) ?_
        cases hf
        exact W.zret (ty := .boolean) hx hb hr rfl (fun t ht hW => ⟨_, rfl, rfl, ht⟩) (fun q h => by cases h) d_X_maps_45
set_option maxHeartbeats 4000000 in
set_option maxRecDepth 100000 in
theorem c_X_rowsUntilBack (l : Launch) (dC : Nat → ClassId) (dI : Nat → Nat → Nat) (qX qB qSt qN qR qS qTg qKp qKq qBx qBy qBz qBa qBb qBc qBd qBs qNo qNt qRo qRt qSo qSp : Nat) (cI cJ cQ : ClassId) (nA : Int32) (nK : Int32) (nP : Int32) (nQ : Int32) (bX : Nat → Int32) (bY : Nat → Int32) (bZ : Nat → Int32) (bA : Nat → Int32) (bB : Nat → Int32) (bC : Nat → Int32) (bD : Nat → Int32) (bS : Nat → Int64) (sT : Nat → Int32) (nO : Nat → Int32) (nT : Nat → Int32) (rO : Nat → Int32) (rT : Nat → Int32) (sO : Nat → Int32) (sP : Nat → Int32) (tG : Nat → Int32) (kQ : Nat → Int32) (r_ : Int32) (hf : f_X_rowsUntilBack nP rO rT = some r_) : Met l y_X_rowsUntilBack w_X_rowsUntilBack ({ frames := 5, cells := 0, slots := 0, locals := 115 }) (va_Pc [.ref qX] (fun U => va_P (dC, dI) vwCl (w_X qX qB qSt qN qR qS qTg qKp qKq qBx qBy qBz qBa qBb qBc qBd qBs qNo qNt qRo qRt qSo qSp cI cJ nA nK nP nQ bX bY bZ bA bB bC bD bS sT nO nT rO rT sO sP tG kQ) U.heap ∧ va_K (dC, dI) vwCl [(cI, .int), (cJ, .long), (cQ, .object "CutBodies$Contents")] U ∧ nestZ U)) (vp_Si (fun r9 => r9 = r_)) 0 0 (fun _ => False) := by
  refine Met.ofW (cc := b_X_rowsUntilBack) (maxL := 3) (ret := (some .int)) (by decide) rfl ?_
  intro p e s m args below meth c s₁ B hml hv
  obtain ⟨rfl, hP, hK, hZ⟩ := hv
  have hx := B.exec
  have hb := B.bytes
  have hr := B.returns
  have hts := atoms_spec (ws := w_X_rowsUntilBack) B.pre
  have ht : ∀ w ∈ wAll, w.before _ s = true := fun w h => hts w (List.mem_cons_of_mem _ h)
  have hown : s.vm.findClass R_X = some m.cls := findClass_of_methodNamed B.named
  have hlocks := B.notSynchronized
  have hP : va_P (dC, dI) vwCl (w_X qX qB qSt qN qR qS qTg qKp qKq qBx qBy qBz qBa qBb qBc qBd qBs qNo qNt qRo qRt qSo qSp cI cJ nA nK nP nQ bX bY bZ bA bB bC bD bS sT nO nT rO rT sO sP tG kQ) s.heap := hP
  have hl := lv_entry ([.ref qX]) (n := 3) (Nat.le_of_ble_eq_true rfl)
  rw [lg_entry_eq]
  generalize (lg_sl ([.ref qX]) ++ List.replicate (3 - (lg_sl ([.ref qX])).length) Slot.unset).toArray = ls at hl ⊢
  have hl : lv_has ls 3 [(0, .ref qX)] := hl
  refine w_abs (fun Wx toX ofX => ?_)
  have K41 : ∀ (x1 : Int32) (ls : Array Slot), f_X_rowsUntilBack_J41  nP rO rT x1 = some r_ → lv_has ls 3 [(1, .int x1)] → Wx s.heap [] 0 0 (F0 m 41 ls []) := by
    intro x1 ls hf hl
    refine toX _ _ _ _ _ ?_
    unfold f_X_rowsUntilBack_J41 at hf
    refine lv_iload_n hx hb d_X_rowsUntilBack_41 rfl (lv_at hl 0 rfl) ?_
    refine lv_sipush (v := 2000) hx hb d_X_rowsUntilBack_42 (by decide) ?_
    refine lv_icmp_gt (tgt := 52) hx hb d_X_rowsUntilBack_45 (by decide) (fun c1 => ?_) (fun c1 => ?_)
    · have hf := oIf_t hf c1
      refine lv_iconst (v := (-1)) hx hb d_X_rowsUntilBack_52 (by decide) ?_
      cases hf
      exact W.iret hx hb hr (fun t ht hW => ⟨_, rfl, rfl, ht⟩) (fun q h => by cases h) d_X_rowsUntilBack_53
    · have hf := oIf_f hf c1
      refine lv_iload_n hx hb d_X_rowsUntilBack_48 rfl (lv_at hl 0 rfl) ?_
      refine lv_goto (tgt := 53) hx hb d_X_rowsUntilBack_49 (by decide) ?_
      cases hf
      exact W.iret hx hb hr (fun t ht hW => ⟨_, rfl, rfl, ht⟩) (fun q h => by cases h) d_X_rowsUntilBack_53
  have K4 : ∀ (n : Nat) (x1 : Int32) (x2 : Int32) (ls : Array Slot), oLoop2 (f_X_rowsUntilBack_L4  nP rO rT) n x1 x2 = some r_ → lv_has ls 3 [(0, .ref qX), (1, .int x1), (2, .int x2)] → Wx s.heap [] 0 0 (F0 m 4 ls []) := by
    intro  n
    induction n with
    | zero => intro x1 x2 ls hf; exact (oLoop2_0 hf).elim
    | succ n ih4 =>
      obtain ⟨rec4, hrec4⟩ : ∃ z, z = oLoop2 (f_X_rowsUntilBack_L4  nP rO rT) n := ⟨_, rfl⟩
      rw [← hrec4] at ih4
      intro x1 x2 ls hf hl
      refine toX _ _ _ _ _ ?_
      have hf := oLoop2_s hf
      rw [← hrec4] at hf
      unfold f_X_rowsUntilBack_L4 at hf
      refine lv_iload_n hx hb d_X_rowsUntilBack_4 rfl (lv_at hl 2 rfl) ?_
      refine lv_aload_n hx hb d_X_rowsUntilBack_5 rfl (lv_at hl 0 rfl) ?_
      refine va_get (D := (dC, dI)) (ci := 2) (v := .ref qB) (C := R_X) (T := T_X) (N := 10) hx hb ht in_X hown hK hP 0 rfl rfl 0 (by decide) (ht _ m_100) (fun _ h9 => h9) rfl d_X_rowsUntilBack_6 ?_
      refine va_getN (D := (dC, dI)) (ci := 0) (v := .int nP) (C := R_B) (T := T_B) (N := 10) hx hb ht in_B hown hK hP 1 rfl rfl 3 (by decide) (nz hZ (List.mem_of_getElem? (i := 1) rfl)) (fun _ h9 => h9) rfl d_X_rowsUntilBack_9 ?_
      refine lv_icmp_ge (tgt := 41) hx hb d_X_rowsUntilBack_12 (by decide) (fun c2 => ?_) (fun c2 => ?_)
      · have hf := oIf_t hf c2
        exact ofX _ _ _ _ _ (K41  x1 _ hf (lv_sub hl [1] rfl))
      · have hf := oIf_f hf c2
        refine lv_iload_n hx hb d_X_rowsUntilBack_15 rfl (lv_at hl 1 rfl) ?_
        refine lv_sipush (v := 2000) hx hb d_X_rowsUntilBack_16 (by decide) ?_
        refine lv_icmp_gt (tgt := 41) hx hb d_X_rowsUntilBack_19 (by decide) (fun c3 => ?_) (fun c3 => ?_)
        · have hf := oIf_t hf c3
          exact ofX _ _ _ _ _ (K41  x1 _ hf (lv_sub hl [1] rfl))
        · have hf := oIf_f hf c3
          refine lv_iload_n hx hb d_X_rowsUntilBack_22 rfl (lv_at hl 1 rfl) ?_
          refine lv_aload_n hx hb d_X_rowsUntilBack_23 rfl (lv_at hl 0 rfl) ?_
          refine va_get (D := (dC, dI)) (ci := 2) (v := .ref qR) (C := R_X) (T := T_X) (N := 10) hx hb ht in_X hown hK hP 0 rfl rfl 4 (by decide) (ht _ m_104) (fun _ h9 => h9) rfl d_X_rowsUntilBack_24 ?_
          refine lv_iload_n hx hb d_X_rowsUntilBack_27 rfl (lv_at hl 2 rfl) ?_
          obtain ⟨r4z, hfc, hf⟩ := oCall1_some hf
          have hPc := hP.sub (ws' := (w_C qR qRo qRt cI rO rT)) [14, 15, 16] rfl
          refine vp_callSi (va_runV (As := [.int x2]) (rest := [.int x1]) ⟨hx, hb, hml, hown, ht⟩ (c_C_rowsUntilBackAt l dC dI qR qRo qRt cI cJ cQ rO rT x2 r4z hfc) (cwV 1 ht (gV m_323 m_324 m_325 m_30 m_326) rfl rfl rfl (by decide +kernel) ⟨Nat.le_of_ble_eq_true rfl, Nat.le_of_ble_eq_true rfl⟩) (preRV hPc hK hZ (va_recv hK hPc (ci := 1) (q0 := 0) rfl rfl)) rfl rfl hl.1 rfl (lv_room (Nat.le_of_ble_eq_true rfl)) d_X_rowsUntilBack_28 ⟨Nat.le_of_ble_eq_true rfl, Nat.le_of_ble_eq_true rfl⟩).run (fun r4 hw => ?_)
          subst hw
          clear hPc hfc
          obtain ⟨r5z, hfc, hf⟩ := oCall1_some hf
          have hPc := hP.sub (ws' := []) [] rfl
          refine vp_callSi (va_runS (As := [.int x1, .int r4]) (rest := []) ⟨hx, hb, hml, hown, ht⟩ (c_X_commonMultiple l dC dI cI cJ cQ x1 r4 r5z hfc) (va_cwS 2 ht (gS m_329 m_330 m_28 m_331) rfl rfl rfl (by decide +kernel) ⟨Nat.le_of_ble_eq_true rfl, Nat.le_of_ble_eq_true rfl⟩) (preR hPc hK hZ) rfl rfl hl.1 rfl (lv_room (Nat.le_of_ble_eq_true rfl)) d_X_rowsUntilBack_31 ⟨Nat.le_of_ble_eq_true rfl, Nat.le_of_ble_eq_true rfl⟩).run (fun r5 hw => ?_)
          subst hw
          clear hPc hfc
          refine lv_istore_n (lv' := [(1, .int r5), (0, .ref qX), (2, .int x2)]) hx hb d_X_rowsUntilBack_34 rfl hl (by decide) rfl (fun ls hl => ?_)
          obtain ⟨v6, ev6, hf⟩ := oLet_ex hf
          refine lv_iinc (v := v6) (lv' := [(2, .int v6), (1, .int r5), (0, .ref qX)]) hx hb d_X_rowsUntilBack_35 hl (k := 2) rfl (by rw [ev6]; rfl) (by decide) rfl (fun ls hl => ?_)
          refine lv_goto (tgt := 4) hx hb d_X_rowsUntilBack_38 (by decide) ?_
          exact ofX _ _ _ _ _ (ih4 r5 v6 _ hf (lv_sub hl [2, 1, 0] rfl))
  refine toX _ _ _ _ _ ?_
  unfold f_X_rowsUntilBack at hf
  refine lv_iconst (v := 1) hx hb d_X_rowsUntilBack_0 (by decide) ?_
  refine lv_istore_n (lv' := [(1, .int 1), (0, .ref qX)]) hx hb d_X_rowsUntilBack_1 rfl hl (by decide) rfl (fun ls hl => ?_)
  refine lv_iconst (v := 0) hx hb d_X_rowsUntilBack_2 (by decide) ?_
  refine lv_istore_n (lv' := [(2, .int 0), (1, .int 1), (0, .ref qX)]) hx hb d_X_rowsUntilBack_3 rfl hl (by decide) rfl (fun ls hl => ?_)
  exact ofX _ _ _ _ _ (K4  _ 1 0 _ hf (lv_sub hl [2, 1, 0] rfl))

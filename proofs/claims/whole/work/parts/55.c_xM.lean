set_option maxHeartbeats 4000000 in
set_option maxRecDepth 100000 in
theorem c_X_findTargets (l : Launch) (dC : Nat → ClassId) (dI : Nat → Nat → Nat) (qX qB qSt qN qR qS qTg qKp qKq qBx qBy qBz qBa qBb qBc qBd qBs qNo qNt qRo qRt qSo qSp : Nat) (cI cJ cQ : ClassId) (sz : Nat) (nA : Int32) (nK : Int32) (nP : Int32) (nQ : Int32) (bX : Nat → Int32) (bY : Nat → Int32) (bZ : Nat → Int32) (bA : Nat → Int32) (bB : Nat → Int32) (bC : Nat → Int32) (bD : Nat → Int32) (bS : Nat → Int64) (sT : Nat → Int32) (nO : Nat → Int32) (nT : Nat → Int32) (rO : Nat → Int32) (rT : Nat → Int32) (sO : Nat → Int32) (sP : Nat → Int32) (tG : Nat → Int32) (kQ : Nat → Int32) (x1 : Int32) (x2 : Int32) (r_ : Int32) (o_tG : Nat → Int32) (hf : f_X_findTargets nP bX bY bZ bS sT tG x1 x2 = some (r_, o_tG)) : Met l y_X_findTargets w_X_findTargets ({ frames := 3, cells := 0, slots := 0, locals := 74 }) (va_Pc [.ref qX, .int x1, .int x2] (fun U => U.heap.size = sz ∧ va_P (dC, dI) vwCl (w_X qX qB qSt qN qR qS qTg qKp qKq qBx qBy qBz qBa qBb qBc qBd qBs qNo qNt qRo qRt qSo qSp cI cJ nA nK nP nQ bX bY bZ bA bB bC bD bS sT nO nT rO rT sO sP tG kQ) U.heap ∧ va_K (dC, dI) vwCl [(cI, .int), (cJ, .long), (cQ, .object "CutBodies$Contents")] U ∧ nestZ U ∧ va_D (fun _ => True) (w_X qX qB qSt qN qR qS qTg qKp qKq qBx qBy qBz qBa qBb qBc qBd qBs qNo qNt qRo qRt qSo qSp cI cJ nA nK nP nQ bX bY bZ bA bB bC bD bS sT nO nT rO rT sO sP tG kQ))) (va_Qi (fun (r9 : Int32) (_ : Unit) => r9 = r_) (fun _ t => va_P (dC, dI) vwCl (w_X qX qB qSt qN qR qS qTg qKp qKq qBx qBy qBz qBa qBb qBc qBd qBs qNo qNt qRo qRt qSo qSp cI cJ nA nK nP nQ bX bY bZ bA bB bC bD bS sT nO nT rO rT sO sP o_tG kQ) t.heap ∧ va_D (va_A (w_X qX qB qSt qN qR qS qTg qKp qKq qBx qBy qBz qBa qBb qBc qBd qBs qNo qNt qRo qRt qSo qSp cI cJ nA nK nP nQ bX bY bZ bA bB bC bD bS sT nO nT rO rT sO sP tG kQ) sz) (w_X qX qB qSt qN qR qS qTg qKp qKq qBx qBy qBz qBa qBb qBc qBd qBs qNo qNt qRo qRt qSo qSp cI cJ nA nK nP nQ bX bY bZ bA bB bC bD bS sT nO nT rO rT sO sP o_tG kQ)) (va_A (w_X qX qB qSt qN qR qS qTg qKp qKq qBx qBy qBz qBa qBb qBc qBd qBs qNo qNt qRo qRt qSo qSp cI cJ nA nK nP nQ bX bY bZ bA bB bC bD bS sT nO nT rO rT sO sP tG kQ) sz)) 0 0 (va_A (w_X qX qB qSt qN qR qS qTg qKp qKq qBx qBy qBz qBa qBb qBc qBd qBs qNo qNt qRo qRt qSo qSp cI cJ nA nK nP nQ bX bY bZ bA bB bC bD bS sT nO nT rO rT sO sP tG kQ) sz) := by
  refine Met.ofW (cc := b_X_findTargets) (maxL := 5) (ret := (some .int)) (by decide) rfl ?_
  intro p e s m args below meth c s₁ B hml hv
  obtain ⟨rfl, hsz, hP, hK, hZ, hD0⟩ := hv
  have hx := B.exec
  have hb := B.bytes
  have hr := B.returns
  have hts := atoms_spec (ws := w_X_findTargets) B.pre
  have ht : ∀ w ∈ wAll, w.before _ s = true := fun w h => hts w (List.mem_cons_of_mem _ h)
  have hown : s.vm.findClass R_X = some m.cls := findClass_of_methodNamed B.named
  have hlocks := B.notSynchronized
  subst hsz
  have hD := hD0.self (sz := s.heap.size)
  generalize hAe : va_A (w_X qX qB qSt qN qR qS qTg qKp qKq qBx qBy qBz qBa qBb qBc qBd qBs qNo qNt qRo qRt qSo qSp cI cJ nA nK nP nQ bX bY bZ bA bB bC bD bS sT nO nT rO rT sO sP tG kQ) s.heap.size = A at hD ⊢
  have hA : ∀ q : Nat, s.heap.size ≤ q → A q := fun q h => by rw [← hAe]; exact Or.inr h
  have hS : va_S A s.heap s.heap [] := va_S.rf
  have hP : va_P (dC, dI) vwCl (w_X qX qB qSt qN qR qS qTg qKp qKq qBx qBy qBz qBa qBb qBc qBd qBs qNo qNt qRo qRt qSo qSp cI cJ nA nK nP nQ bX bY bZ bA bB bC bD bS sT nO nT rO rT sO sP tG kQ) s.heap := hP
  have hl := lv_entry ([.ref qX, .int x1, .int x2]) (n := 5) (Nat.le_of_ble_eq_true rfl)
  rw [lg_entry_eq]
  generalize (lg_sl ([.ref qX, .int x1, .int x2]) ++ List.replicate (5 - (lg_sl ([.ref qX, .int x1, .int x2])).length) Slot.unset).toArray = ls at hl ⊢
  have hl : lv_has ls 5 [(0, .ref qX), (1, .int x1), (2, .int x2)] := hl
  refine w_abs (fun Wx toX ofX => ?_)
  have K2 : ∀ (x1 : Int32) (x2 : Int32) (n : Nat) (x3 : Int32) (tG : Nat → Int32) (H : Heap) (locs : List Loc) (ls : Array Slot), oLoop2 (f_X_findTargets_L2  nP bX bY bZ bS sT x1 x2) n x3 tG = some (r_, o_tG) → va_P (dC, dI) vwCl (w_X qX qB qSt qN qR qS qTg qKp qKq qBx qBy qBz qBa qBb qBc qBd qBs qNo qNt qRo qRt qSo qSp cI cJ nA nK nP nQ bX bY bZ bA bB bC bD bS sT nO nT rO rT sO sP tG kQ) H → va_D A (w_X qX qB qSt qN qR qS qTg qKp qKq qBx qBy qBz qBa qBb qBc qBd qBs qNo qNt qRo qRt qSo qSp cI cJ nA nK nP nQ bX bY bZ bA bB bC bD bS sT nO nT rO rT sO sP tG kQ) → va_S A s.heap H locs → lv_has ls 5 [(0, .ref qX), (1, .int x1), (2, .int x2), (3, .int x3)] → Wx H locs 0 0 (F0 m 2 ls []) := by
    intro x1 x2 n
    induction n with
    | zero => intro x3 tG H locs ls hf; exact (oLoop2_0 hf).elim
    | succ n ih2 =>
      obtain ⟨rec2, hrec2⟩ : ∃ z, z = oLoop2 (f_X_findTargets_L2  nP bX bY bZ bS sT x1 x2) n := ⟨_, rfl⟩
      rw [← hrec2] at ih2
      have K79 : ∀ (x3 : Int32) (tG : Nat → Int32) (H : Heap) (locs : List Loc) (ls : Array Slot), f_X_findTargets_J79 rec2 nP bX bY bZ bS sT x1 x2 x3 tG = some (r_, o_tG) → va_P (dC, dI) vwCl (w_X qX qB qSt qN qR qS qTg qKp qKq qBx qBy qBz qBa qBb qBc qBd qBs qNo qNt qRo qRt qSo qSp cI cJ nA nK nP nQ bX bY bZ bA bB bC bD bS sT nO nT rO rT sO sP tG kQ) H → va_D A (w_X qX qB qSt qN qR qS qTg qKp qKq qBx qBy qBz qBa qBb qBc qBd qBs qNo qNt qRo qRt qSo qSp cI cJ nA nK nP nQ bX bY bZ bA bB bC bD bS sT nO nT rO rT sO sP tG kQ) → va_S A s.heap H locs → lv_has ls 5 [(0, .ref qX), (1, .int x1), (2, .int x2), (3, .int x3)] → Wx H locs 0 0 (F0 m 79 ls []) := by
        intro x3 tG H locs ls hf hP hD hS hl
        refine toX _ _ _ _ _ ?_
        unfold f_X_findTargets_J79 at hf
        obtain ⟨v1, ev1, hf⟩ := oLet_ex hf
        refine lv_iinc (v := v1) (lv' := [(3, .int v1), (0, .ref qX), (1, .int x1), (2, .int x2)]) hx hb d_X_findTargets_79 hl (k := 3) rfl (by rw [ev1]; rfl) (by decide) rfl (fun ls hl => ?_)
        refine lv_goto (tgt := 2) hx hb d_X_findTargets_82 (by decide) ?_
        exact ofX _ _ _ _ _ (ih2 v1 tG _ _ _ hf hP hD hS (lv_sub hl [1, 2, 3, 0] rfl))
      intro x3 tG H locs ls hf hP hD hS hl
      refine toX _ _ _ _ _ ?_
      have hf := oLoop2_s hf
      rw [← hrec2] at hf
      unfold f_X_findTargets_L2 at hf
      refine lv_iload_n hx hb d_X_findTargets_2 rfl (lv_at hl 3 rfl) ?_
      refine lv_aload_n hx hb d_X_findTargets_3 rfl (lv_at hl 0 rfl) ?_
      refine va_get (D := (dC, dI)) (ci := 2) (v := .ref qB) (C := R_X) (T := T_X) (N := 10) hx hb ht in_X hown hK hP 0 rfl rfl 0 (by decide) (ht _ m_100) (fun _ h9 => h9) rfl d_X_findTargets_4 ?_
      refine va_getN (D := (dC, dI)) (ci := 0) (v := .int nP) (C := R_B) (T := T_B) (N := 10) hx hb ht in_B hown hK hP 1 rfl rfl 3 (by decide) (nz hZ (List.mem_of_getElem? (i := 1) rfl)) (fun _ h9 => h9) rfl d_X_findTargets_7 ?_
      refine lv_icmp_ge (tgt := 85) hx hb d_X_findTargets_10 (by decide) (fun c2 => ?_) (fun c2 => ?_)
      · have hf := oIf_t hf c2
        refine lv_iconst (v := (-1)) hx hb d_X_findTargets_85 (by decide) ?_
        cases hf
        exact W.iret hx hb hr (fun t ht hW => ⟨⟨_, (), rfl, rfl, by rw [ht]; exact hP, hD⟩, hS.F ht⟩) hS.2.2 d_X_findTargets_86
      · have hf := oIf_f hf c2
        refine lv_aload_n hx hb d_X_findTargets_13 rfl (lv_at hl 0 rfl) ?_
        refine va_get (D := (dC, dI)) (ci := 2) (v := .ref qTg) (C := R_X) (T := T_X) (N := 10) hx hb ht in_X hown hK hP 0 rfl rfl 6 (by decide) (ht _ m_106) (fun _ h9 => h9) rfl d_X_findTargets_14 ?_
        refine lv_iload_n hx hb d_X_findTargets_17 rfl (lv_at hl 3 rfl) ?_
        refine lv_iconst (v := (-1)) hx hb d_X_findTargets_18 (by decide) ?_
        obtain ⟨hi3, hf⟩ := oIn_some hf
        refine va_iast hx hb hK hP hD hS 20 0 rfl rfl hi3 d_X_findTargets_19 (fun H locs hP hD hS => ?_)
        obtain ⟨a4, ea4, hf⟩ := oLet_ex hf
        have hP : va_P (dC, dI) vwCl (w_X qX qB qSt qN qR qS qTg qKp qKq qBx qBy qBz qBa qBb qBc qBd qBs qNo qNt qRo qRt qSo qSp cI cJ nA nK nP nQ bX bY bZ bA bB bC bD bS sT nO nT rO rT sO sP a4 kQ) H := by rw [ea4]; exact hP
        have hD : va_D A (w_X qX qB qSt qN qR qS qTg qKp qKq qBx qBy qBz qBa qBb qBc qBd qBs qNo qNt qRo qRt qSo qSp cI cJ nA nK nP nQ bX bY bZ bA bB bC bD bS sT nO nT rO rT sO sP a4 kQ) := by rw [ea4]; exact hD
        refine lv_aload_n hx hb d_X_findTargets_20 rfl (lv_at hl 0 rfl) ?_
        refine va_get (D := (dC, dI)) (ci := 2) (v := .ref qB) (C := R_X) (T := T_X) (N := 10) hx hb ht in_X hown hK hP 0 rfl rfl 0 (by decide) (ht _ m_100) (fun _ h9 => h9) rfl d_X_findTargets_21 ?_
        refine lv_iload_n hx hb d_X_findTargets_24 rfl (lv_at hl 3 rfl) ?_
        refine lv_iload_n hx hb d_X_findTargets_25 rfl (lv_at hl 2 rfl) ?_
        obtain ⟨r5z, hfc, hf⟩ := oCall1_some hf
        have hPc := hP.sub (ws' := (w_B qB qBx qBy qBz qBa qBb qBc qBd qBs cI cJ nP nQ bX bY bZ bA bB bC bD bS)) [1, 2, 3, 4, 5, 6, 7, 8, 9] rfl
        refine vp_callSi (va_runV (As := [.int x3, .int x2]) (rest := []) ⟨hx, hb, hml, hown, ht⟩ (c_B_sideOf l dC dI qB qBx qBy qBz qBa qBb qBc qBd qBs cI cJ cQ nP nQ bX bY bZ bA bB bC bD bS x3 x2 r5z hfc) (cwV 2 ht (gV m_222 m_223 m_224 m_29 m_225) rfl rfl rfl (by decide +kernel) ⟨Nat.le_of_ble_eq_true rfl, Nat.le_of_ble_eq_true rfl⟩) (preRV hPc hK hZ (va_recv hK hPc (ci := 0) (q0 := 0) rfl rfl)) rfl rfl hl.1 rfl (lv_room (Nat.le_of_ble_eq_true rfl)) d_X_findTargets_26 ⟨Nat.le_of_ble_eq_true rfl, Nat.le_of_ble_eq_true rfl⟩).run (fun r5 hw => ?_)
        subst hw
        clear hPc hfc
        refine lv_iconst (v := 2) hx hb d_X_findTargets_29 (by decide) ?_
        refine lv_icmp_ne (tgt := 79) hx hb d_X_findTargets_30 (by decide) (fun c6 => ?_) (fun c6 => ?_)
        · have hf := oIf_f hf c6
          exact ofX _ _ _ _ _ (K79  x3 a4 _ _ _ hf hP hD hS (lv_sub hl [0, 1, 2, 3] rfl))
        · have hf := oIf_t hf c6
          refine lv_aload_n hx hb d_X_findTargets_33 rfl (lv_at hl 0 rfl) ?_
          refine va_get (D := (dC, dI)) (ci := 2) (v := .ref qB) (C := R_X) (T := T_X) (N := 10) hx hb ht in_X hown hK hP 0 rfl rfl 0 (by decide) (ht _ m_100) (fun _ h9 => h9) rfl d_X_findTargets_34 ?_
          refine lv_iload_n hx hb d_X_findTargets_37 rfl (lv_at hl 3 rfl) ?_
          refine lv_aload_n hx hb d_X_findTargets_38 rfl (lv_at hl 0 rfl) ?_
          refine va_get (D := (dC, dI)) (ci := 2) (v := .ref qSt) (C := R_X) (T := T_X) (N := 10) hx hb ht in_X hown hK hP 0 rfl rfl 1 (by decide) (ht _ m_101) (fun _ h9 => h9) rfl d_X_findTargets_39 ?_
          refine lv_iload_n hx hb d_X_findTargets_42 rfl (lv_at hl 1 rfl) ?_
          obtain ⟨hi7, hf⟩ := oIn_some hf
          refine va_iald hx hb hK hP 10 0 rfl rfl hi7 d_X_findTargets_43 ?_
          obtain ⟨r8z, hfc, hf⟩ := oCall1_some hf
          have hPc := hP.sub (ws' := (w_B qB qBx qBy qBz qBa qBb qBc qBd qBs cI cJ nP nQ bX bY bZ bA bB bC bD bS)) [1, 2, 3, 4, 5, 6, 7, 8, 9] rfl
          refine vp_callSi (va_runV (As := [.int x3, .int (sT x1.toNatClampNeg)]) (rest := []) ⟨hx, hb, hml, hown, ht⟩ (c_B_imageOf l dC dI qB qBx qBy qBz qBa qBb qBc qBd qBs cI cJ cQ nP nQ bX bY bZ bA bB bC bD bS x3 (sT x1.toNatClampNeg) r8z hfc) (cwV 2 ht (gV m_248 m_249 m_250 m_29 m_251) rfl rfl rfl (by decide +kernel) ⟨Nat.le_of_ble_eq_true rfl, Nat.le_of_ble_eq_true rfl⟩) (preRV hPc hK hZ (va_recv hK hPc (ci := 0) (q0 := 0) rfl rfl)) rfl rfl hl.1 rfl (lv_room (Nat.le_of_ble_eq_true rfl)) d_X_findTargets_44 ⟨Nat.le_of_ble_eq_true rfl, Nat.le_of_ble_eq_true rfl⟩).run (fun r8 hw => ?_)
          subst hw
          clear hPc hfc
          refine lv_istore (lv' := [(4, .int r8), (0, .ref qX), (1, .int x1), (2, .int x2), (3, .int x3)]) hx hb d_X_findTargets_47 hl (by decide) rfl (fun ls hl => ?_)
          refine lv_iload hx hb d_X_findTargets_49 (lv_at hl 0 rfl) ?_
          refine lv_iconst (v := (-1)) hx hb d_X_findTargets_51 (by decide) ?_
          refine lv_icmp_eq (tgt := 69) hx hb d_X_findTargets_52 (by decide) (fun c9 => ?_) (fun c9 => ?_)
          · have hf := oIf_t hf c9
            refine lv_iload_n hx hb d_X_findTargets_69 rfl (lv_at hl 4 rfl) ?_
            cases hf
            exact W.iret hx hb hr (fun t ht hW => ⟨⟨_, (), rfl, rfl, by rw [ht]; exact hP, hD⟩, hS.F ht⟩) hS.2.2 d_X_findTargets_70
          · have hf := oIf_f hf c9
            refine lv_aload_n hx hb d_X_findTargets_55 rfl (lv_at hl 1 rfl) ?_
            refine va_get (D := (dC, dI)) (ci := 2) (v := .ref qB) (C := R_X) (T := T_X) (N := 10) hx hb ht in_X hown hK hP 0 rfl rfl 0 (by decide) (ht _ m_100) (fun _ h9 => h9) rfl d_X_findTargets_56 ?_
            refine lv_iload hx hb d_X_findTargets_59 (lv_at hl 0 rfl) ?_
            refine lv_iload_n hx hb d_X_findTargets_61 rfl (lv_at hl 3 rfl) ?_
            obtain ⟨r10z, hfc, hf⟩ := oCall1_some hf
            have hPc := hP.sub (ws' := (w_B qB qBx qBy qBz qBa qBb qBc qBd qBs cI cJ nP nQ bX bY bZ bA bB bC bD bS)) [1, 2, 3, 4, 5, 6, 7, 8, 9] rfl
            refine vp_callSi (va_runV (As := [.int r8, .int x2]) (rest := []) ⟨hx, hb, hml, hown, ht⟩ (c_B_sideOf l dC dI qB qBx qBy qBz qBa qBb qBc qBd qBs cI cJ cQ nP nQ bX bY bZ bA bB bC bD bS r8 x2 r10z hfc) (cwV 2 ht (gV m_222 m_223 m_224 m_29 m_225) rfl rfl rfl (by decide +kernel) ⟨Nat.le_of_ble_eq_true rfl, Nat.le_of_ble_eq_true rfl⟩) (preRV hPc hK hZ (va_recv hK hPc (ci := 0) (q0 := 0) rfl rfl)) rfl rfl hl.1 rfl (lv_room (Nat.le_of_ble_eq_true rfl)) d_X_findTargets_62 ⟨Nat.le_of_ble_eq_true rfl, Nat.le_of_ble_eq_true rfl⟩).run (fun r10 hw => ?_)
            subst hw
            clear hPc hfc
            refine lv_iconst (v := 2) hx hb d_X_findTargets_65 (by decide) ?_
            refine lv_icmp_eq (tgt := 71) hx hb d_X_findTargets_66 (by decide) (fun c11 => ?_) (fun c11 => ?_)
            · have hf := oIf_t hf c11
              refine lv_aload_n hx hb d_X_findTargets_71 rfl (lv_at hl 1 rfl) ?_
              refine va_get (D := (dC, dI)) (ci := 2) (v := .ref qTg) (C := R_X) (T := T_X) (N := 10) hx hb ht in_X hown hK hP 0 rfl rfl 6 (by decide) (ht _ m_106) (fun _ h9 => h9) rfl d_X_findTargets_72 ?_
              refine lv_iload_n hx hb d_X_findTargets_75 rfl (lv_at hl 4 rfl) ?_
              refine lv_iload hx hb d_X_findTargets_76 (lv_at hl 0 rfl) ?_
              obtain ⟨hi12, hf⟩ := oIn_some hf
              refine va_iast hx hb hK hP hD hS 20 0 rfl rfl hi12 d_X_findTargets_78 (fun H locs hP hD hS => ?_)
              obtain ⟨a13, ea13, hf⟩ := oLet_ex hf
              have hP : va_P (dC, dI) vwCl (w_X qX qB qSt qN qR qS qTg qKp qKq qBx qBy qBz qBa qBb qBc qBd qBs qNo qNt qRo qRt qSo qSp cI cJ nA nK nP nQ bX bY bZ bA bB bC bD bS sT nO nT rO rT sO sP a13 kQ) H := by rw [ea13]; exact hP
              have hD : va_D A (w_X qX qB qSt qN qR qS qTg qKp qKq qBx qBy qBz qBa qBb qBc qBd qBs qNo qNt qRo qRt qSo qSp cI cJ nA nK nP nQ bX bY bZ bA bB bC bD bS sT nO nT rO rT sO sP a13 kQ) := by rw [ea13]; exact hD
              exact ofX _ _ _ _ _ (K79  x3 a13 _ _ _ hf hP hD hS (lv_sub hl [1, 2, 3, 4] rfl))
            · have hf := oIf_f hf c11
              refine lv_iload_n hx hb d_X_findTargets_69 rfl (lv_at hl 4 rfl) ?_
              cases hf
              exact W.iret hx hb hr (fun t ht hW => ⟨⟨_, (), rfl, rfl, by rw [ht]; exact hP, hD⟩, hS.F ht⟩) hS.2.2 d_X_findTargets_70
  refine toX _ _ _ _ _ ?_
  unfold f_X_findTargets at hf
  obtain ⟨H, hH⟩ : ∃ z, z = s.heap := ⟨_, rfl⟩
  have hS : va_S A s.heap H [] := by rw [hH]; exact hS
  have hP : va_P (dC, dI) vwCl (w_X qX qB qSt qN qR qS qTg qKp qKq qBx qBy qBz qBa qBb qBc qBd qBs qNo qNt qRo qRt qSo qSp cI cJ nA nK nP nQ bX bY bZ bA bB bC bD bS sT nO nT rO rT sO sP tG kQ) H := by rw [hH]; exact hP
  refine w_heap hH ?_
  refine lv_iconst (v := 0) hx hb d_X_findTargets_0 (by decide) ?_
  refine lv_istore_n (lv' := [(3, .int 0), (0, .ref qX), (1, .int x1), (2, .int x2)]) hx hb d_X_findTargets_1 rfl hl (by decide) rfl (fun ls hl => ?_)
  exact ofX _ _ _ _ _ (K2 x1 x2 _ 0 tG _ _ _ hf hP hD hS (lv_sub hl [1, 2, 3, 0] rfl))
set_option maxHeartbeats 4000000 in
set_option maxRecDepth 100000 in
theorem c_X_turnByTargets (l : Launch) (dC : Nat → ClassId) (dI : Nat → Nat → Nat) (qX qB qSt qN qR qS qTg qKp qKq qBx qBy qBz qBa qBb qBc qBd qBs qSo qSp qC qCo qCt : Nat) (cI cJ cQ : ClassId) (sz : Nat) (nA : Int32) (nK : Int32) (nP : Int32) (nQ : Int32) (sO : Nat → Int32) (sP : Nat → Int32) (tG : Nat → Int32) (cO : Nat → Int32) (cT : Nat → Int32) (x2 : Int32) (o_sO : Nat → Int32) (o_sP : Nat → Int32) (o_cO : Nat → Int32) (o_cT : Nat → Int32) (hf : f_X_turnByTargets nP sO sP tG cO cT x2 = some (o_sO, o_sP, o_cO, o_cT)) : Met l y_X_turnByTargets w_X_turnByTargets ({ frames := 3, cells := 0, slots := 0, locals := 69 }) (va_Pc [.ref qX, .ref qC, .int x2] (fun U => U.heap.size = sz ∧ va_P (dC, dI) vwCl (w_T qX qB qSt qN qR qS qTg qKp qKq qBx qBy qBz qBa qBb qBc qBd qBs qSo qSp qC qCo qCt cI nA nK nP nQ sO sP tG cO cT) U.heap ∧ va_K (dC, dI) vwCl [(cI, .int), (cJ, .long), (cQ, .object "CutBodies$Contents")] U ∧ nestZ U ∧ va_D (fun _ => True) (w_T qX qB qSt qN qR qS qTg qKp qKq qBx qBy qBz qBa qBb qBc qBd qBs qSo qSp qC qCo qCt cI nA nK nP nQ sO sP tG cO cT))) (va_Qv (fun (_ : Unit) => True) (fun _ t => va_P (dC, dI) vwCl (w_T qX qB qSt qN qR qS qTg qKp qKq qBx qBy qBz qBa qBb qBc qBd qBs qSo qSp qC qCo qCt cI nA nK nP nQ o_sO o_sP tG o_cO o_cT) t.heap ∧ va_D (va_A (w_T qX qB qSt qN qR qS qTg qKp qKq qBx qBy qBz qBa qBb qBc qBd qBs qSo qSp qC qCo qCt cI nA nK nP nQ sO sP tG cO cT) sz) (w_T qX qB qSt qN qR qS qTg qKp qKq qBx qBy qBz qBa qBb qBc qBd qBs qSo qSp qC qCo qCt cI nA nK nP nQ o_sO o_sP tG o_cO o_cT)) (va_A (w_T qX qB qSt qN qR qS qTg qKp qKq qBx qBy qBz qBa qBb qBc qBd qBs qSo qSp qC qCo qCt cI nA nK nP nQ sO sP tG cO cT) sz)) 0 0 (va_A (w_T qX qB qSt qN qR qS qTg qKp qKq qBx qBy qBz qBa qBb qBc qBd qBs qSo qSp qC qCo qCt cI nA nK nP nQ sO sP tG cO cT) sz) := by
  refine Met.ofW (cc := b_X_turnByTargets) (maxL := 5) (ret := none) (by decide) rfl ?_
  intro p e s m args below meth c s₁ B hml hv
  obtain ⟨rfl, hsz, hP, hK, hZ, hD0⟩ := hv
  have hx := B.exec
  have hb := B.bytes
  have hr := B.returns
  have hts := atoms_spec (ws := w_X_turnByTargets) B.pre
  have ht : ∀ w ∈ wAll, w.before _ s = true := fun w h => hts w (List.mem_cons_of_mem _ h)
  have hown : s.vm.findClass R_X = some m.cls := findClass_of_methodNamed B.named
  have hlocks := B.notSynchronized
  subst hsz
  have hD := hD0.self (sz := s.heap.size)
  generalize hAe : va_A (w_T qX qB qSt qN qR qS qTg qKp qKq qBx qBy qBz qBa qBb qBc qBd qBs qSo qSp qC qCo qCt cI nA nK nP nQ sO sP tG cO cT) s.heap.size = A at hD ⊢
  have hA : ∀ q : Nat, s.heap.size ≤ q → A q := fun q h => by rw [← hAe]; exact Or.inr h
  have hS : va_S A s.heap s.heap [] := va_S.rf
  have hP : va_P (dC, dI) vwCl (w_T qX qB qSt qN qR qS qTg qKp qKq qBx qBy qBz qBa qBb qBc qBd qBs qSo qSp qC qCo qCt cI nA nK nP nQ sO sP tG cO cT) s.heap := hP
  have hl := lv_entry ([.ref qX, .ref qC, .int x2]) (n := 5) (Nat.le_of_ble_eq_true rfl)
  rw [lg_entry_eq]
  generalize (lg_sl ([.ref qX, .ref qC, .int x2]) ++ List.replicate (5 - (lg_sl ([.ref qX, .ref qC, .int x2])).length) Slot.unset).toArray = ls at hl ⊢
  have hl : lv_has ls 5 [(0, .ref qX), (1, .ref qC), (2, .int x2)] := hl
  refine w_abs (fun Wx toX ofX => ?_)
  have K10 : ∀ (x2 : Int32) (sO : Nat → Int32) (sP : Nat → Int32) (n : Nat) (x3 : Int32) (cO : Nat → Int32) (cT : Nat → Int32) (H : Heap) (locs : List Loc) (ls : Array Slot), oLoop3 (f_X_turnByTargets_L10  nP tG x2 sO sP) n x3 cO cT = some (o_sO, o_sP, o_cO, o_cT) → va_P (dC, dI) vwCl (w_T qX qB qSt qN qR qS qTg qKp qKq qBx qBy qBz qBa qBb qBc qBd qBs qSo qSp qC qCo qCt cI nA nK nP nQ sO sP tG cO cT) H → va_D A (w_T qX qB qSt qN qR qS qTg qKp qKq qBx qBy qBz qBa qBb qBc qBd qBs qSo qSp qC qCo qCt cI nA nK nP nQ sO sP tG cO cT) → va_S A s.heap H locs → lv_has ls 5 [(0, .ref qX), (1, .ref qC), (2, .int x2), (3, .int x3)] → Wx H locs 0 0 (F0 m 10 ls []) := by
    intro x2 sO sP n
    induction n with
    | zero => intro x3 cO cT H locs ls hf; exact (oLoop3_0 hf).elim
    | succ n ih10 =>
      obtain ⟨rec10, hrec10⟩ : ∃ z, z = oLoop3 (f_X_turnByTargets_L10  nP tG x2 sO sP) n := ⟨_, rfl⟩
      rw [← hrec10] at ih10
      have K71 : ∀ (x3 : Int32) (cO : Nat → Int32) (cT : Nat → Int32) (H : Heap) (locs : List Loc) (ls : Array Slot), f_X_turnByTargets_J71 rec10 nP tG x2 sO sP x3 cO cT = some (o_sO, o_sP, o_cO, o_cT) → va_P (dC, dI) vwCl (w_T qX qB qSt qN qR qS qTg qKp qKq qBx qBy qBz qBa qBb qBc qBd qBs qSo qSp qC qCo qCt cI nA nK nP nQ sO sP tG cO cT) H → va_D A (w_T qX qB qSt qN qR qS qTg qKp qKq qBx qBy qBz qBa qBb qBc qBd qBs qSo qSp qC qCo qCt cI nA nK nP nQ sO sP tG cO cT) → va_S A s.heap H locs → lv_has ls 5 [(0, .ref qX), (1, .ref qC), (2, .int x2), (3, .int x3)] → Wx H locs 0 0 (F0 m 71 ls []) := by
        intro x3 cO cT H locs ls hf hP hD hS hl
        refine toX _ _ _ _ _ ?_
        unfold f_X_turnByTargets_J71 at hf
        obtain ⟨v1, ev1, hf⟩ := oLet_ex hf
        refine lv_iinc (v := v1) (lv' := [(3, .int v1), (0, .ref qX), (1, .ref qC), (2, .int x2)]) hx hb d_X_turnByTargets_71 hl (k := 3) rfl (by rw [ev1]; rfl) (by decide) rfl (fun ls hl => ?_)
        refine lv_goto (tgt := 10) hx hb d_X_turnByTargets_74 (by decide) ?_
        exact ofX _ _ _ _ _ (ih10 v1 cO cT _ _ _ hf hP hD hS (lv_sub hl [1, 2, 3, 0] rfl))
      intro x3 cO cT H locs ls hf hP hD hS hl
      refine toX _ _ _ _ _ ?_
      have hf := oLoop3_s hf
      rw [← hrec10] at hf
      unfold f_X_turnByTargets_L10 at hf
      refine lv_iload_n hx hb d_X_turnByTargets_10 rfl (lv_at hl 3 rfl) ?_
      refine lv_aload_n hx hb d_X_turnByTargets_11 rfl (lv_at hl 0 rfl) ?_
      refine va_get (D := (dC, dI)) (ci := 2) (v := .ref qB) (C := R_X) (T := T_X) (N := 10) hx hb ht in_X hown hK hP 0 rfl rfl 0 (by decide) (ht _ m_100) (fun _ h9 => h9) rfl d_X_turnByTargets_12 ?_
      refine va_getN (D := (dC, dI)) (ci := 0) (v := .int nP) (C := R_B) (T := T_B) (N := 10) hx hb ht in_B hown hK hP 1 rfl rfl 3 (by decide) (nz hZ (List.mem_of_getElem? (i := 1) rfl)) (fun _ h9 => h9) rfl d_X_turnByTargets_15 ?_
      refine lv_icmp_ge (tgt := 77) hx hb d_X_turnByTargets_18 (by decide) (fun c2 => ?_) (fun c2 => ?_)
      · have hf := oIf_t hf c2
        cases hf
        exact W.vret hx hb hr (fun t ht hW => ⟨⟨(), rfl, trivial, by rw [ht]; exact hP, hD⟩, hS.F ht⟩) hS.2.2 d_X_turnByTargets_77
      · have hf := oIf_f hf c2
        refine lv_aload_n hx hb d_X_turnByTargets_21 rfl (lv_at hl 0 rfl) ?_
        refine va_get (D := (dC, dI)) (ci := 2) (v := .ref qTg) (C := R_X) (T := T_X) (N := 10) hx hb ht in_X hown hK hP 0 rfl rfl 6 (by decide) (ht _ m_106) (fun _ h9 => h9) rfl d_X_turnByTargets_22 ?_
        refine lv_iload_n hx hb d_X_turnByTargets_25 rfl (lv_at hl 3 rfl) ?_
        obtain ⟨hi3, hf⟩ := oIn_some hf
        refine va_iald hx hb hK hP 5 0 rfl rfl hi3 d_X_turnByTargets_26 ?_
        refine lv_topi (fun v4 ev4 => ?_)
        have hf := oLet_some hf ev4
        refine lv_istore (lv' := [(4, .int v4), (0, .ref qX), (1, .ref qC), (2, .int x2), (3, .int x3)]) hx hb d_X_turnByTargets_27 hl (by decide) rfl (fun ls hl => ?_)
        refine lv_iload hx hb d_X_turnByTargets_29 (lv_at hl 0 rfl) ?_
        refine lv_iconst (v := (-1)) hx hb d_X_turnByTargets_31 (by decide) ?_
        refine lv_icmp_eq (tgt := 71) hx hb d_X_turnByTargets_32 (by decide) (fun c5 => ?_) (fun c5 => ?_)
        · have hf := oIf_t hf c5
          exact ofX _ _ _ _ _ (K71  x3 cO cT _ _ _ hf hP hD hS (lv_sub hl [1, 2, 3, 4] rfl))
        · have hf := oIf_f hf c5
          refine lv_aload_n hx hb d_X_turnByTargets_35 rfl (lv_at hl 2 rfl) ?_
          refine va_getN (D := (dC, dI)) (ci := 1) (v := .ref qCo) (C := R_C) (T := T_C) (N := 2) hx hb ht in_C hown hK hP 6 rfl rfl 0 (by decide) (nz hZ (List.mem_of_getElem? (i := 2) rfl)) (fun _ h9 => h9) rfl d_X_turnByTargets_36 ?_
          refine lv_iload hx hb d_X_turnByTargets_39 (lv_at hl 0 rfl) ?_
          refine lv_aload_n hx hb d_X_turnByTargets_41 rfl (lv_at hl 1 rfl) ?_
          refine va_get (D := (dC, dI)) (ci := 2) (v := .ref qS) (C := R_X) (T := T_X) (N := 10) hx hb ht in_X hown hK hP 0 rfl rfl 5 (by decide) (ht _ m_105) (fun _ h9 => h9) rfl d_X_turnByTargets_42 ?_
          refine va_getN (D := (dC, dI)) (ci := 1) (v := .ref qSo) (C := R_C) (T := T_C) (N := 2) hx hb ht in_C hown hK hP 2 rfl rfl 0 (by decide) (nz hZ (List.mem_of_getElem? (i := 2) rfl)) (fun _ h9 => h9) rfl d_X_turnByTargets_45 ?_
          refine lv_iload_n hx hb d_X_turnByTargets_48 rfl (lv_at hl 4 rfl) ?_
          obtain ⟨hi6, hf⟩ := oIn_some hf
          refine va_iald hx hb hK hP 3 0 rfl rfl hi6 d_X_turnByTargets_49 ?_
          obtain ⟨hi7, hf⟩ := oIn_some hf
          refine va_iast hx hb hK hP hD hS 7 0 rfl rfl hi7 d_X_turnByTargets_50 (fun H locs hP hD hS => ?_)
          obtain ⟨a8, ea8, hf⟩ := oLet_ex hf
          have hP : va_P (dC, dI) vwCl (w_T qX qB qSt qN qR qS qTg qKp qKq qBx qBy qBz qBa qBb qBc qBd qBs qSo qSp qC qCo qCt cI nA nK nP nQ sO sP tG a8 cT) H := by rw [ea8]; exact hP
          have hD : va_D A (w_T qX qB qSt qN qR qS qTg qKp qKq qBx qBy qBz qBa qBb qBc qBd qBs qSo qSp qC qCo qCt cI nA nK nP nQ sO sP tG a8 cT) := by rw [ea8]; exact hD
          refine lv_aload_n hx hb d_X_turnByTargets_51 rfl (lv_at hl 2 rfl) ?_
          refine va_getN (D := (dC, dI)) (ci := 1) (v := .ref qCt) (C := R_C) (T := T_C) (N := 2) hx hb ht in_C hown hK hP 6 rfl rfl 1 (by decide) (nz hZ (List.mem_of_getElem? (i := 3) rfl)) (fun _ h9 => h9) rfl d_X_turnByTargets_52 ?_
          refine lv_iload hx hb d_X_turnByTargets_55 (lv_at hl 0 rfl) ?_
          refine lv_iload_n hx hb d_X_turnByTargets_57 rfl (lv_at hl 3 rfl) ?_
          refine lv_aload_n hx hb d_X_turnByTargets_58 rfl (lv_at hl 1 rfl) ?_
          refine va_get (D := (dC, dI)) (ci := 2) (v := .ref qS) (C := R_X) (T := T_X) (N := 10) hx hb ht in_X hown hK hP 0 rfl rfl 5 (by decide) (ht _ m_105) (fun _ h9 => h9) rfl d_X_turnByTargets_59 ?_
          refine va_getN (D := (dC, dI)) (ci := 1) (v := .ref qSp) (C := R_C) (T := T_C) (N := 2) hx hb ht in_C hown hK hP 2 rfl rfl 1 (by decide) (nz hZ (List.mem_of_getElem? (i := 3) rfl)) (fun _ h9 => h9) rfl d_X_turnByTargets_62 ?_
          refine lv_iload_n hx hb d_X_turnByTargets_65 rfl (lv_at hl 4 rfl) ?_
          obtain ⟨hi9, hf⟩ := oIn_some hf
          refine va_iald hx hb hK hP 4 0 rfl rfl hi9 d_X_turnByTargets_66 ?_
          obtain ⟨r10z, hfc, hf⟩ := oCall1_some hf
          have hPc := hP.sub (ws' := []) [] rfl
          refine vp_callSi (va_runS (As := [.int x2, .int (sP x3.toNatClampNeg)]) (rest := [.int v4, .ref qCt]) ⟨hx, hb, hml, hown, ht⟩ (c_W_compose l dC dI cI cJ cQ x2 (sP x3.toNatClampNeg) r10z hfc) (va_cwS 2 ht (gS m_277 m_196 m_33 m_197) rfl rfl rfl (by decide +kernel) ⟨Nat.le_of_ble_eq_true rfl, Nat.le_of_ble_eq_true rfl⟩) (preR hPc hK hZ) rfl rfl hl.1 rfl (lv_room (Nat.le_of_ble_eq_true rfl)) d_X_turnByTargets_67 ⟨Nat.le_of_ble_eq_true rfl, Nat.le_of_ble_eq_true rfl⟩).run (fun r10 hw => ?_)
          subst hw
          clear hPc hfc
          obtain ⟨hi11, hf⟩ := oIn_some hf
          refine va_iast hx hb hK hP hD hS 8 0 rfl rfl hi11 d_X_turnByTargets_70 (fun H locs hP hD hS => ?_)
          obtain ⟨a12, ea12, hf⟩ := oLet_ex hf
          have hP : va_P (dC, dI) vwCl (w_T qX qB qSt qN qR qS qTg qKp qKq qBx qBy qBz qBa qBb qBc qBd qBs qSo qSp qC qCo qCt cI nA nK nP nQ sO sP tG a8 a12) H := by rw [ea12]; exact hP
          have hD : va_D A (w_T qX qB qSt qN qR qS qTg qKp qKq qBx qBy qBz qBa qBb qBc qBd qBs qSo qSp qC qCo qCt cI nA nK nP nQ sO sP tG a8 a12) := by rw [ea12]; exact hD
          exact ofX _ _ _ _ _ (K71  x3 a8 a12 _ _ _ hf hP hD hS (lv_sub hl [1, 2, 3, 4] rfl))
  refine toX _ _ _ _ _ ?_
  unfold f_X_turnByTargets at hf
  obtain ⟨H, hH⟩ : ∃ z, z = s.heap := ⟨_, rfl⟩
  have hS : va_S A s.heap H [] := by rw [hH]; exact hS
  have hP : va_P (dC, dI) vwCl (w_T qX qB qSt qN qR qS qTg qKp qKq qBx qBy qBz qBa qBb qBc qBd qBs qSo qSp qC qCo qCt cI nA nK nP nQ sO sP tG cO cT) H := by rw [hH]; exact hP
  refine w_heap hH ?_
  refine lv_aload_n hx hb d_X_turnByTargets_0 rfl (lv_at hl 0 rfl) ?_
  refine va_get (D := (dC, dI)) (ci := 2) (v := .ref qS) (C := R_X) (T := T_X) (N := 10) hx hb ht in_X hown hK hP 0 rfl rfl 5 (by decide) (ht _ m_105) (fun _ h9 => h9) rfl d_X_turnByTargets_1 ?_
  refine lv_aload_n hx hb d_X_turnByTargets_4 rfl (lv_at hl 1 rfl) ?_
  obtain ⟨o13, o14, hfc, hf⟩ := oCall2_some hf
  have hPc := hP.sub (ws' := (w_CC qS qSo qSp qC qCo qCt cI sO sP cO cT)) [2, 3, 4, 6, 7, 8] rfl
  have hDc := hD.sub (ws' := (w_CC qS qSo qSp qC qCo qCt cI sO sP cO cT)) [2, 3, 4, 6, 7, 8] (by decide) rfl
  have hFc := va_free (wc := (w_CC qS qSo qSp qC qCo qCt cI sO sP cO cT)) hD hS hA [2, 3, 4, 6, 7, 8] rfl
  refine va_callv (va_runV (As := [.ref qC]) (rest := []) ⟨hx, hb, hml, hown, ht⟩ (c_C_copyFrom l dC dI qS qSo qSp qC qCo qCt cI cJ cQ H.size sO sP cO cT o13 o14 hfc) (cwV 1 ht (gV m_270 m_271 m_272 m_30 m_273) rfl rfl rfl (by decide +kernel) ⟨Nat.le_of_ble_eq_true rfl, Nat.le_of_ble_eq_true rfl⟩) (preMV hPc hK hZ hDc (va_recv hK hPc (ci := 1) (q0 := 0) rfl rfl)) rfl rfl hl.1 rfl (lv_room (Nat.le_of_ble_eq_true rfl)) d_X_turnByTargets_5 ⟨Nat.le_of_ble_eq_true rfl, Nat.le_of_ble_eq_true rfl⟩) hS (fun q _ h => hFc q h) hFc (fun u t H1 locs ht9 hvm hw hB hz1 hk1 hS => ?_)
  obtain ⟨hP1, hD1⟩ := hB
  rw [ht9] at hP1
  obtain ⟨hP, hD⟩ := va_join (wr := [(qX, .inr (2, [.ref qB, .ref qSt, .int nA, .ref qN, .ref qR, .ref qS, .ref qTg, .ref qKp, .ref qKq, .int nK])), (qB, .inr (0, [.ref qBx, .ref qBy, .ref qBz, .int nP, .ref qBa, .ref qBb, .ref qBc, .ref qBd, .int nQ, .ref qBs])), (qTg, .inl (cI, 60, .inl tG))]) (w1 := (w_CC qS qSo qSp qC qCo qCt cI o13 o14 cO cT)) hP hD [2, 3, 4, 6, 7, 8] [0, 1, 5] rfl rfl (by decide) (by decide) hk1 hFc hP1 hD1
  have hP := hP.sub (ws' := (w_T qX qB qSt qN qR qS qTg qKp qKq qBx qBy qBz qBa qBb qBc qBd qBs qSo qSp qC qCo qCt cI nA nK nP nQ o13 o14 tG cO cT)) [0, 1, 3, 4, 5, 2, 6, 7, 8] rfl
  have hD := hD.sub (ws' := (w_T qX qB qSt qN qR qS qTg qKp qKq qBx qBy qBz qBa qBb qBc qBd qBs qSo qSp qC qCo qCt cI nA nK nP nQ o13 o14 tG cO cT)) [0, 1, 3, 4, 5, 2, 6, 7, 8] (by decide) rfl
  clear hPc hDc hFc hP1 hD1 hz1 hk1 ht9 hvm hfc
  generalize H1 = H at hP hS ⊢
  refine lv_iconst (v := 0) hx hb d_X_turnByTargets_8 (by decide) ?_
  refine lv_istore_n (lv' := [(3, .int 0), (0, .ref qX), (1, .ref qC), (2, .int x2)]) hx hb d_X_turnByTargets_9 rfl hl (by decide) rfl (fun ls hl => ?_)
  exact ofX _ _ _ _ _ (K10 x2 o13 o14 _ 0 cO cT _ _ _ hf hP hD hS (lv_sub hl [1, 2, 3, 0] rfl))
set_option maxHeartbeats 4000000 in
set_option maxRecDepth 100000 in
theorem c_X_plane (l : Launch) (dC : Nat → ClassId) (dI : Nat → Nat → Nat) (qX qB qSt qN qR qS qTg qKp qKq qBx qBy qBz qBa qBb qBc qBd qBs qNo qNt qRo qRt qSo qSp : Nat) (cI cJ cQ : ClassId) (sz : Nat) (nA : Int32) (nK : Int32) (nP : Int32) (nQ : Int32) (bX : Nat → Int32) (bY : Nat → Int32) (bZ : Nat → Int32) (bA : Nat → Int32) (bB : Nat → Int32) (bC : Nat → Int32) (bD : Nat → Int32) (bS : Nat → Int64) (sT : Nat → Int32) (nO : Nat → Int32) (nT : Nat → Int32) (rO : Nat → Int32) (rT : Nat → Int32) (sO : Nat → Int32) (sP : Nat → Int32) (tG : Nat → Int32) (kQ : Nat → Int32) (x1 : Int32) (x2 : Int32) (x3 : Int32) (x4 : Int32) (r_ : Int32) (o_nQ : Int32) (o_bA : Nat → Int32) (o_bB : Nat → Int32) (o_bC : Nat → Int32) (o_bD : Nat → Int32) (o_bS : Nat → Int64) (hf : f_X_plane nP nQ bX bY bZ bA bB bC bD bS x1 x2 x3 x4 = some (r_, o_nQ, o_bA, o_bB, o_bC, o_bD, o_bS)) : Met l y_X_plane w_X_plane ({ frames := 2, cells := 0, slots := 0, locals := 51 }) (va_Pc [.ref qX, .int x1, .int x2, .int x3, .int x4] (fun U => U.heap.size = sz ∧ va_P (dC, dI) vwCl (w_X qX qB qSt qN qR qS qTg qKp qKq qBx qBy qBz qBa qBb qBc qBd qBs qNo qNt qRo qRt qSo qSp cI cJ nA nK nP nQ bX bY bZ bA bB bC bD bS sT nO nT rO rT sO sP tG kQ) U.heap ∧ va_K (dC, dI) vwCl [(cI, .int), (cJ, .long), (cQ, .object "CutBodies$Contents")] U ∧ nestZ U ∧ va_D (fun _ => True) (w_X qX qB qSt qN qR qS qTg qKp qKq qBx qBy qBz qBa qBb qBc qBd qBs qNo qNt qRo qRt qSo qSp cI cJ nA nK nP nQ bX bY bZ bA bB bC bD bS sT nO nT rO rT sO sP tG kQ))) (va_Qi (fun (r9 : Int32) (_ : Unit) => r9 = r_) (fun _ t => va_P (dC, dI) vwCl (w_X qX qB qSt qN qR qS qTg qKp qKq qBx qBy qBz qBa qBb qBc qBd qBs qNo qNt qRo qRt qSo qSp cI cJ nA nK nP o_nQ bX bY bZ o_bA o_bB o_bC o_bD o_bS sT nO nT rO rT sO sP tG kQ) t.heap ∧ va_D (va_A (w_X qX qB qSt qN qR qS qTg qKp qKq qBx qBy qBz qBa qBb qBc qBd qBs qNo qNt qRo qRt qSo qSp cI cJ nA nK nP nQ bX bY bZ bA bB bC bD bS sT nO nT rO rT sO sP tG kQ) sz) (w_X qX qB qSt qN qR qS qTg qKp qKq qBx qBy qBz qBa qBb qBc qBd qBs qNo qNt qRo qRt qSo qSp cI cJ nA nK nP o_nQ bX bY bZ o_bA o_bB o_bC o_bD o_bS sT nO nT rO rT sO sP tG kQ)) (va_A (w_X qX qB qSt qN qR qS qTg qKp qKq qBx qBy qBz qBa qBb qBc qBd qBs qNo qNt qRo qRt qSo qSp cI cJ nA nK nP nQ bX bY bZ bA bB bC bD bS sT nO nT rO rT sO sP tG kQ) sz)) 0 0 (va_A (w_X qX qB qSt qN qR qS qTg qKp qKq qBx qBy qBz qBa qBb qBc qBd qBs qNo qNt qRo qRt qSo qSp cI cJ nA nK nP nQ bX bY bZ bA bB bC bD bS sT nO nT rO rT sO sP tG kQ) sz) := by
  refine Met.ofW (cc := b_X_plane) (maxL := 5) (ret := (some .int)) (by decide) rfl ?_
  intro p e s m args below meth c s₁ B hml hv
  obtain ⟨rfl, hsz, hP, hK, hZ, hD0⟩ := hv
  have hx := B.exec
  have hb := B.bytes
  have hr := B.returns
  have hts := atoms_spec (ws := w_X_plane) B.pre
  have ht : ∀ w ∈ wAll, w.before _ s = true := fun w h => hts w (List.mem_cons_of_mem _ h)
  have hown : s.vm.findClass R_X = some m.cls := findClass_of_methodNamed B.named
  have hlocks := B.notSynchronized
  subst hsz
  have hD := hD0.self (sz := s.heap.size)
  generalize hAe : va_A (w_X qX qB qSt qN qR qS qTg qKp qKq qBx qBy qBz qBa qBb qBc qBd qBs qNo qNt qRo qRt qSo qSp cI cJ nA nK nP nQ bX bY bZ bA bB bC bD bS sT nO nT rO rT sO sP tG kQ) s.heap.size = A at hD ⊢
  have hA : ∀ q : Nat, s.heap.size ≤ q → A q := fun q h => by rw [← hAe]; exact Or.inr h
  have hS : va_S A s.heap s.heap [] := va_S.rf
  have hP : va_P (dC, dI) vwCl (w_X qX qB qSt qN qR qS qTg qKp qKq qBx qBy qBz qBa qBb qBc qBd qBs qNo qNt qRo qRt qSo qSp cI cJ nA nK nP nQ bX bY bZ bA bB bC bD bS sT nO nT rO rT sO sP tG kQ) s.heap := hP
  have hl := lv_entry ([.ref qX, .int x1, .int x2, .int x3, .int x4]) (n := 5) (Nat.le_of_ble_eq_true rfl)
  rw [lg_entry_eq]
  generalize (lg_sl ([.ref qX, .int x1, .int x2, .int x3, .int x4]) ++ List.replicate (5 - (lg_sl ([.ref qX, .int x1, .int x2, .int x3, .int x4])).length) Slot.unset).toArray = ls at hl ⊢
  have hl : lv_has ls 5 [(0, .ref qX), (1, .int x1), (2, .int x2), (3, .int x3), (4, .int x4)] := hl
  unfold f_X_plane at hf
  obtain ⟨H, hH⟩ : ∃ z, z = s.heap := ⟨_, rfl⟩
  have hS : va_S A s.heap H [] := by rw [hH]; exact hS
  have hP : va_P (dC, dI) vwCl (w_X qX qB qSt qN qR qS qTg qKp qKq qBx qBy qBz qBa qBb qBc qBd qBs qNo qNt qRo qRt qSo qSp cI cJ nA nK nP nQ bX bY bZ bA bB bC bD bS sT nO nT rO rT sO sP tG kQ) H := by rw [hH]; exact hP
  refine w_heap hH ?_
  refine lv_aload_n hx hb d_X_plane_0 rfl (lv_at hl 0 rfl) ?_
  refine va_get (D := (dC, dI)) (ci := 2) (v := .ref qB) (C := R_X) (T := T_X) (N := 10) hx hb ht in_X hown hK hP 0 rfl rfl 0 (by decide) (ht _ m_100) (fun _ h9 => h9) rfl d_X_plane_1 ?_
  refine lv_iload_n hx hb d_X_plane_4 rfl (lv_at hl 1 rfl) ?_
  refine lv_iload_n hx hb d_X_plane_5 rfl (lv_at hl 2 rfl) ?_
  refine lv_iload_n hx hb d_X_plane_6 rfl (lv_at hl 3 rfl) ?_
  refine lv_iload hx hb d_X_plane_7 (lv_at hl 4 rfl) ?_
  obtain ⟨r7z, o1, o2, o3, o4, o5, o6, hfc, hf⟩ := oCall7_some hf
  have hPc := hP.sub (ws' := (w_B qB qBx qBy qBz qBa qBb qBc qBd qBs cI cJ nP nQ bX bY bZ bA bB bC bD bS)) [1, 2, 3, 4, 5, 6, 7, 8, 9] rfl
  have hDc := hD.sub (ws' := (w_B qB qBx qBy qBz qBa qBb qBc qBd qBs cI cJ nP nQ bX bY bZ bA bB bC bD bS)) [1, 2, 3, 4, 5, 6, 7, 8, 9] (by decide) rfl
  have hFc := va_free (wc := (w_B qB qBx qBy qBz qBa qBb qBc qBd qBs cI cJ nP nQ bX bY bZ bA bB bC bD bS)) hD hS hA [1, 2, 3, 4, 5, 6, 7, 8, 9] rfl
  refine va_calli (va_runV (As := [.int x1, .int x2, .int x3, .int x4]) (rest := []) ⟨hx, hb, hml, hown, ht⟩ (c_B_addPlane l dC dI qB qBx qBy qBz qBa qBb qBc qBd qBs cI cJ cQ H.size nP nQ bX bY bZ bA bB bC bD bS x1 x2 x3 x4 r7z o1 o2 o3 o4 o5 o6 hfc) (cwV 4 ht (gV m_166 m_167 m_168 m_29 m_169) rfl rfl rfl (by decide +kernel) ⟨Nat.le_of_ble_eq_true rfl, Nat.le_of_ble_eq_true rfl⟩) (preMV hPc hK hZ hDc (va_recv hK hPc (ci := 0) (q0 := 0) rfl rfl)) rfl rfl hl.1 rfl (lv_room (Nat.le_of_ble_eq_true rfl)) d_X_plane_9 ⟨Nat.le_of_ble_eq_true rfl, Nat.le_of_ble_eq_true rfl⟩) hS (fun q _ h => hFc q h) hFc (fun r7 u t H1 locs ht9 hvm hw hB hz1 hk1 hS => ?_)
  obtain ⟨hP1, hD1⟩ := hB
  rw [ht9] at hP1
  subst hw
  obtain ⟨hP, hD⟩ := va_join (wr := [(qX, .inr (2, [.ref qB, .ref qSt, .int nA, .ref qN, .ref qR, .ref qS, .ref qTg, .ref qKp, .ref qKq, .int nK])), (qSt, .inl (cI, 13, .inl sT)), (qN, .inr (1, [.ref qNo, .ref qNt])), (qNo, .inl (cI, 60, .inl nO)), (qNt, .inl (cI, 60, .inl nT)), (qR, .inr (1, [.ref qRo, .ref qRt])), (qRo, .inl (cI, 60, .inl rO)), (qRt, .inl (cI, 60, .inl rT)), (qS, .inr (1, [.ref qSo, .ref qSp])), (qSo, .inl (cI, 60, .inl sO)), (qSp, .inl (cI, 60, .inl sP)), (qTg, .inl (cI, 60, .inl tG)), (qKq, .inl (cI, 10, .inl kQ))]) (w1 := (w_B qB qBx qBy qBz qBa qBb qBc qBd qBs cI cJ nP o1 bX bY bZ o2 o3 o4 o5 o6)) hP hD [1, 2, 3, 4, 5, 6, 7, 8, 9] [0, 10, 11, 12, 13, 14, 15, 16, 17, 18, 19, 20, 21] rfl rfl (by decide) (by decide) hk1 hFc hP1 hD1
  have hP := hP.sub (ws' := (w_X qX qB qSt qN qR qS qTg qKp qKq qBx qBy qBz qBa qBb qBc qBd qBs qNo qNt qRo qRt qSo qSp cI cJ nA nK nP o1 bX bY bZ o2 o3 o4 o5 o6 sT nO nT rO rT sO sP tG kQ)) [0, 13, 14, 15, 16, 17, 18, 19, 20, 21, 1, 2, 3, 4, 5, 6, 7, 8, 9, 10, 11, 12] rfl
  have hD := hD.sub (ws' := (w_X qX qB qSt qN qR qS qTg qKp qKq qBx qBy qBz qBa qBb qBc qBd qBs qNo qNt qRo qRt qSo qSp cI cJ nA nK nP o1 bX bY bZ o2 o3 o4 o5 o6 sT nO nT rO rT sO sP tG kQ)) [0, 13, 14, 15, 16, 17, 18, 19, 20, 21, 1, 2, 3, 4, 5, 6, 7, 8, 9, 10, 11, 12] (by decide) rfl
  clear hPc hDc hFc hP1 hD1 hz1 hk1 ht9 hvm hfc
  generalize H1 = H at hP hS ⊢
  cases hf
  exact W.iret hx hb hr (fun t ht hW => ⟨⟨_, (), rfl, rfl, by rw [ht]; exact hP, hD⟩, hS.F ht⟩) hS.2.2 d_X_plane_12
set_option maxHeartbeats 4000000 in
set_option maxRecDepth 100000 in
theorem c_X_axis (l : Launch) (dC : Nat → ClassId) (dI : Nat → Nat → Nat) (qX qB qSt qN qR qS qTg qKp qKq qBx qBy qBz qBa qBb qBc qBd qBs qNo qNt qRo qRt qSo qSp : Nat) (cI cJ cQ : ClassId) (sz : Nat) (nA : Int32) (nK : Int32) (nP : Int32) (nQ : Int32) (bX : Nat → Int32) (bY : Nat → Int32) (bZ : Nat → Int32) (bA : Nat → Int32) (bB : Nat → Int32) (bC : Nat → Int32) (bD : Nat → Int32) (bS : Nat → Int64) (sT : Nat → Int32) (nO : Nat → Int32) (nT : Nat → Int32) (rO : Nat → Int32) (rT : Nat → Int32) (sO : Nat → Int32) (sP : Nat → Int32) (tG : Nat → Int32) (kQ : Nat → Int32) (x1 : Int32) (x2 : Int32) (x3 : Int32) (r_ : Int32) (o_nA : Int32) (o_sT : Nat → Int32) (hf : f_X_axis nA sT x1 x2 x3 = some (r_, o_nA, o_sT)) : Met l y_X_axis w_X_axis ({ frames := 2, cells := 0, slots := 0, locals := 49 }) (va_Pc [.ref qX, .int x1, .int x2, .int x3] (fun U => U.heap.size = sz ∧ va_P (dC, dI) vwCl (w_X qX qB qSt qN qR qS qTg qKp qKq qBx qBy qBz qBa qBb qBc qBd qBs qNo qNt qRo qRt qSo qSp cI cJ nA nK nP nQ bX bY bZ bA bB bC bD bS sT nO nT rO rT sO sP tG kQ) U.heap ∧ va_K (dC, dI) vwCl [(cI, .int), (cJ, .long), (cQ, .object "CutBodies$Contents")] U ∧ nestZ U ∧ va_D (fun _ => True) (w_X qX qB qSt qN qR qS qTg qKp qKq qBx qBy qBz qBa qBb qBc qBd qBs qNo qNt qRo qRt qSo qSp cI cJ nA nK nP nQ bX bY bZ bA bB bC bD bS sT nO nT rO rT sO sP tG kQ))) (va_Qi (fun (r9 : Int32) (_ : Unit) => r9 = r_) (fun _ t => va_P (dC, dI) vwCl (w_X qX qB qSt qN qR qS qTg qKp qKq qBx qBy qBz qBa qBb qBc qBd qBs qNo qNt qRo qRt qSo qSp cI cJ o_nA nK nP nQ bX bY bZ bA bB bC bD bS o_sT nO nT rO rT sO sP tG kQ) t.heap ∧ va_D (va_A (w_X qX qB qSt qN qR qS qTg qKp qKq qBx qBy qBz qBa qBb qBc qBd qBs qNo qNt qRo qRt qSo qSp cI cJ nA nK nP nQ bX bY bZ bA bB bC bD bS sT nO nT rO rT sO sP tG kQ) sz) (w_X qX qB qSt qN qR qS qTg qKp qKq qBx qBy qBz qBa qBb qBc qBd qBs qNo qNt qRo qRt qSo qSp cI cJ o_nA nK nP nQ bX bY bZ bA bB bC bD bS o_sT nO nT rO rT sO sP tG kQ)) (va_A (w_X qX qB qSt qN qR qS qTg qKp qKq qBx qBy qBz qBa qBb qBc qBd qBs qNo qNt qRo qRt qSo qSp cI cJ nA nK nP nQ bX bY bZ bA bB bC bD bS sT nO nT rO rT sO sP tG kQ) sz)) 0 0 (va_A (w_X qX qB qSt qN qR qS qTg qKp qKq qBx qBy qBz qBa qBb qBc qBd qBs qNo qNt qRo qRt qSo qSp cI cJ nA nK nP nQ bX bY bZ bA bB bC bD bS sT nO nT rO rT sO sP tG kQ) sz) := by
  refine Met.ofW (cc := b_X_axis) (maxL := 4) (ret := (some .int)) (by decide) rfl ?_
  intro p e s m args below meth c s₁ B hml hv
  obtain ⟨rfl, hsz, hP, hK, hZ, hD0⟩ := hv
  have hx := B.exec
  have hb := B.bytes
  have hr := B.returns
  have hts := atoms_spec (ws := w_X_axis) B.pre
  have ht : ∀ w ∈ wAll, w.before _ s = true := fun w h => hts w (List.mem_cons_of_mem _ h)
  have hown : s.vm.findClass R_X = some m.cls := findClass_of_methodNamed B.named
  have hlocks := B.notSynchronized
  subst hsz
  have hD := hD0.self (sz := s.heap.size)
  generalize hAe : va_A (w_X qX qB qSt qN qR qS qTg qKp qKq qBx qBy qBz qBa qBb qBc qBd qBs qNo qNt qRo qRt qSo qSp cI cJ nA nK nP nQ bX bY bZ bA bB bC bD bS sT nO nT rO rT sO sP tG kQ) s.heap.size = A at hD ⊢
  have hA : ∀ q : Nat, s.heap.size ≤ q → A q := fun q h => by rw [← hAe]; exact Or.inr h
  have hS : va_S A s.heap s.heap [] := va_S.rf
  have hP : va_P (dC, dI) vwCl (w_X qX qB qSt qN qR qS qTg qKp qKq qBx qBy qBz qBa qBb qBc qBd qBs qNo qNt qRo qRt qSo qSp cI cJ nA nK nP nQ bX bY bZ bA bB bC bD bS sT nO nT rO rT sO sP tG kQ) s.heap := hP
  have hl := lv_entry ([.ref qX, .int x1, .int x2, .int x3]) (n := 4) (Nat.le_of_ble_eq_true rfl)
  rw [lg_entry_eq]
  generalize (lg_sl ([.ref qX, .int x1, .int x2, .int x3]) ++ List.replicate (4 - (lg_sl ([.ref qX, .int x1, .int x2, .int x3])).length) Slot.unset).toArray = ls at hl ⊢
  have hl : lv_has ls 4 [(0, .ref qX), (1, .int x1), (2, .int x2), (3, .int x3)] := hl
  refine w_abs (fun Wx toX ofX => ?_)
  have K38 : ∀ (x1 : Int32) (x2 : Int32) (x3 : Int32) (nA : Int32) (sT : Nat → Int32) (H : Heap) (locs : List Loc) (ls : Array Slot), f_X_axis_J38  x1 x2 x3 nA sT = some (r_, o_nA, o_sT) → va_P (dC, dI) vwCl (w_X qX qB qSt qN qR qS qTg qKp qKq qBx qBy qBz qBa qBb qBc qBd qBs qNo qNt qRo qRt qSo qSp cI cJ nA nK nP nQ bX bY bZ bA bB bC bD bS sT nO nT rO rT sO sP tG kQ) H → va_D A (w_X qX qB qSt qN qR qS qTg qKp qKq qBx qBy qBz qBa qBb qBc qBd qBs qNo qNt qRo qRt qSo qSp cI cJ nA nK nP nQ bX bY bZ bA bB bC bD bS sT nO nT rO rT sO sP tG kQ) → va_S A s.heap H locs → lv_has ls 4 [(0, .ref qX), (1, .int x1), (2, .int x2), (3, .int x3)] → Wx H locs 0 0 (F0 m 38 ls []) := by
    intro x1 x2 x3 nA sT H locs ls hf hP hD hS hl
    refine toX _ _ _ _ _ ?_
    unfold f_X_axis_J38 at hf
    refine lv_aload_n hx hb d_X_axis_38 rfl (lv_at hl 0 rfl) ?_
    refine va_get (D := (dC, dI)) (ci := 2) (v := .int nA) (C := R_X) (T := T_X) (N := 10) hx hb ht in_X hown hK hP 0 rfl rfl 2 (by decide) (ht _ m_102) (fun _ h9 => h9) rfl d_X_axis_39 ?_
    refine lv_bipush (v := 13) hx hb d_X_axis_42 (by decide) ?_
    refine lv_icmp_lt (tgt := 49) hx hb d_X_axis_44 (by decide) (fun c1 => ?_) (fun c1 => ?_)
    · have hf := oIf_t hf c1
      refine lv_aload_n hx hb d_X_axis_49 rfl (lv_at hl 0 rfl) ?_
      refine va_get (D := (dC, dI)) (ci := 2) (v := .ref qSt) (C := R_X) (T := T_X) (N := 10) hx hb ht in_X hown hK hP 0 rfl rfl 1 (by decide) (ht _ m_101) (fun _ h9 => h9) rfl d_X_axis_50 ?_
      refine lv_aload_n hx hb d_X_axis_53 rfl (lv_at hl 0 rfl) ?_
      refine va_get (D := (dC, dI)) (ci := 2) (v := .int nA) (C := R_X) (T := T_X) (N := 10) hx hb ht in_X hown hK hP 0 rfl rfl 2 (by decide) (ht _ m_102) (fun _ h9 => h9) rfl d_X_axis_54 ?_
      refine lv_iload_n hx hb d_X_axis_57 rfl (lv_at hl 1 rfl) ?_
      refine lv_iload_n hx hb d_X_axis_58 rfl (lv_at hl 2 rfl) ?_
      refine lv_iload_n hx hb d_X_axis_59 rfl (lv_at hl 3 rfl) ?_
      obtain ⟨r2z, hfc, hf⟩ := oCall1_some hf
      have hPc := hP.sub (ws' := []) [] rfl
      refine vp_callSi (va_runS (As := [.int x1, .int x2, .int x3]) (rest := [.int nA, .ref qSt]) ⟨hx, hb, hml, hown, ht⟩ (c_W_stepAbout l dC dI cI cJ cQ x1 x2 x3 r2z hfc) (va_cwS 3 ht (gS m_175 m_176 m_33 m_177) rfl rfl rfl (by decide +kernel) ⟨Nat.le_of_ble_eq_true rfl, Nat.le_of_ble_eq_true rfl⟩) (preR hPc hK hZ) rfl rfl hl.1 rfl (lv_room (Nat.le_of_ble_eq_true rfl)) d_X_axis_60 ⟨Nat.le_of_ble_eq_true rfl, Nat.le_of_ble_eq_true rfl⟩).run (fun r2 hw => ?_)
      subst hw
      clear hPc hfc
      obtain ⟨hi3, hf⟩ := oIn_some hf
      refine va_iast hx hb hK hP hD hS 10 0 rfl rfl hi3 d_X_axis_63 (fun H locs hP hD hS => ?_)
      obtain ⟨a4, ea4, hf⟩ := oLet_ex hf
      have hP : va_P (dC, dI) vwCl (w_X qX qB qSt qN qR qS qTg qKp qKq qBx qBy qBz qBa qBb qBc qBd qBs qNo qNt qRo qRt qSo qSp cI cJ nA nK nP nQ bX bY bZ bA bB bC bD bS a4 nO nT rO rT sO sP tG kQ) H := by rw [ea4]; exact hP
      have hD : va_D A (w_X qX qB qSt qN qR qS qTg qKp qKq qBx qBy qBz qBa qBb qBc qBd qBs qNo qNt qRo qRt qSo qSp cI cJ nA nK nP nQ bX bY bZ bA bB bC bD bS a4 nO nT rO rT sO sP tG kQ) := by rw [ea4]; exact hD
      refine lv_aload_n hx hb d_X_axis_64 rfl (lv_at hl 0 rfl) ?_
      refine lv_dup hx hb d_X_axis_65 rfl ?_
      refine va_get (D := (dC, dI)) (ci := 2) (v := .int nA) (C := R_X) (T := T_X) (N := 10) hx hb ht in_X hown hK hP 0 rfl rfl 2 (by decide) (ht _ m_102) (fun _ h9 => h9) rfl d_X_axis_66 ?_
      refine lv_iconst (v := 1) hx hb d_X_axis_69 (by decide) ?_
      refine lv_iadd hx hb d_X_axis_70 ?_
      refine lv_topi (fun v5 ev5 => ?_)
      have hf := oLet_some hf ev5
      refine va_put (D := (dC, dI)) (ci := 2) (v := .int v5) (ty := .int) (C := R_X) (T := T_X) (N := 10) hx hb ht in_X t_X t_X_ok n_X hown hK hP hD hS 0 rfl rfl 2 (by decide) (ht _ m_102) (fun _ h9 => h9) rfl (by decide +kernel) rfl rfl (Nat.le_of_ble_eq_true rfl) d_X_axis_71 (fun H locs hP hD hS => ?_)
      have hP : va_P (dC, dI) vwCl (w_X qX qB qSt qN qR qS qTg qKp qKq qBx qBy qBz qBa qBb qBc qBd qBs qNo qNt qRo qRt qSo qSp cI cJ v5 nK nP nQ bX bY bZ bA bB bC bD bS a4 nO nT rO rT sO sP tG kQ) H := hP
      have hD : va_D A (w_X qX qB qSt qN qR qS qTg qKp qKq qBx qBy qBz qBa qBb qBc qBd qBs qNo qNt qRo qRt qSo qSp cI cJ v5 nK nP nQ bX bY bZ bA bB bC bD bS a4 nO nT rO rT sO sP tG kQ) := hD
      refine lv_aload_n hx hb d_X_axis_74 rfl (lv_at hl 0 rfl) ?_
      refine va_get (D := (dC, dI)) (ci := 2) (v := .int v5) (C := R_X) (T := T_X) (N := 10) hx hb ht in_X hown hK hP 0 rfl rfl 2 (by decide) (ht _ m_102) (fun _ h9 => h9) rfl d_X_axis_75 ?_
      refine lv_iconst (v := 1) hx hb d_X_axis_78 (by decide) ?_
      refine lv_isub hx hb d_X_axis_79 ?_
      cases hf
      exact W.iret hx hb hr (fun t ht hW => ⟨⟨_, (), rfl, rfl, by rw [ht]; exact hP, hD⟩, hS.F ht⟩) hS.2.2 d_X_axis_80
    · have hf := oIf_f hf c1
      refine lv_iconst (v := (-1)) hx hb d_X_axis_47 (by decide) ?_
      cases hf
      exact W.iret hx hb hr (fun t ht hW => ⟨⟨_, (), rfl, rfl, by rw [ht]; exact hP, hD⟩, hS.F ht⟩) hS.2.2 d_X_axis_48
  refine toX _ _ _ _ _ ?_
  unfold f_X_axis at hf
  obtain ⟨H, hH⟩ : ∃ z, z = s.heap := ⟨_, rfl⟩
  have hS : va_S A s.heap H [] := by rw [hH]; exact hS
  have hP : va_P (dC, dI) vwCl (w_X qX qB qSt qN qR qS qTg qKp qKq qBx qBy qBz qBa qBb qBc qBd qBs qNo qNt qRo qRt qSo qSp cI cJ nA nK nP nQ bX bY bZ bA bB bC bD bS sT nO nT rO rT sO sP tG kQ) H := by rw [hH]; exact hP
  refine w_heap hH ?_
  refine lv_iload_n hx hb d_X_axis_0 rfl (lv_at hl 1 rfl) ?_
  refine lv_iconst (v := 1) hx hb d_X_axis_1 (by decide) ?_
  obtain ⟨r6z, hfc, hf⟩ := oCall1_some hf
  have hPc := hP.sub (ws' := []) [] rfl
  refine vp_callSi (va_runS (As := [.int x1, .int 1]) (rest := []) ⟨hx, hb, hml, hown, ht⟩ (c_X_isWithin l dC dI cI cJ cQ x1 1 r6z hfc) (va_cwS 2 ht (gS m_174 m_140 m_28 m_141) rfl rfl rfl (by decide +kernel) ⟨Nat.le_of_ble_eq_true rfl, Nat.le_of_ble_eq_true rfl⟩) (preR hPc hK hZ) rfl rfl hl.1 rfl (lv_room (Nat.le_of_ble_eq_true rfl)) d_X_axis_2 ⟨Nat.le_of_ble_eq_true rfl, Nat.le_of_ble_eq_true rfl⟩).run (fun r6 hw => ?_)
  subst hw
  clear hPc hfc
  refine lv_if_eq (tgt := 24) hx hb d_X_axis_5 (by decide) (fun c7 => ?_) (fun c7 => ?_)
  · have hf := oIf_t hf c7
    refine lv_iconst (v := (-1)) hx hb d_X_axis_24 (by decide) ?_
    cases hf
    exact W.iret hx hb hr (fun t ht hW => ⟨⟨_, (), rfl, rfl, by rw [ht]; exact hP, hD⟩, hS.F ht⟩) hS.2.2 d_X_axis_25
  · have hf := oIf_f hf c7
    refine lv_iload_n hx hb d_X_axis_8 rfl (lv_at hl 2 rfl) ?_
    refine lv_iconst (v := 1) hx hb d_X_axis_9 (by decide) ?_
    obtain ⟨r8z, hfc, hf⟩ := oCall1_some hf
    have hPc := hP.sub (ws' := []) [] rfl
    refine vp_callSi (va_runS (As := [.int x2, .int 1]) (rest := []) ⟨hx, hb, hml, hown, ht⟩ (c_X_isWithin l dC dI cI cJ cQ x2 1 r8z hfc) (va_cwS 2 ht (gS m_174 m_140 m_28 m_141) rfl rfl rfl (by decide +kernel) ⟨Nat.le_of_ble_eq_true rfl, Nat.le_of_ble_eq_true rfl⟩) (preR hPc hK hZ) rfl rfl hl.1 rfl (lv_room (Nat.le_of_ble_eq_true rfl)) d_X_axis_10 ⟨Nat.le_of_ble_eq_true rfl, Nat.le_of_ble_eq_true rfl⟩).run (fun r8 hw => ?_)
    subst hw
    clear hPc hfc
    refine lv_if_eq (tgt := 24) hx hb d_X_axis_13 (by decide) (fun c9 => ?_) (fun c9 => ?_)
    · have hf := oIf_t hf c9
      refine lv_iconst (v := (-1)) hx hb d_X_axis_24 (by decide) ?_
      cases hf
      exact W.iret hx hb hr (fun t ht hW => ⟨⟨_, (), rfl, rfl, by rw [ht]; exact hP, hD⟩, hS.F ht⟩) hS.2.2 d_X_axis_25
    · have hf := oIf_f hf c9
      refine lv_iload_n hx hb d_X_axis_16 rfl (lv_at hl 3 rfl) ?_
      refine lv_iconst (v := 1) hx hb d_X_axis_17 (by decide) ?_
      obtain ⟨r10z, hfc, hf⟩ := oCall1_some hf
      have hPc := hP.sub (ws' := []) [] rfl
      refine vp_callSi (va_runS (As := [.int x3, .int 1]) (rest := []) ⟨hx, hb, hml, hown, ht⟩ (c_X_isWithin l dC dI cI cJ cQ x3 1 r10z hfc) (va_cwS 2 ht (gS m_174 m_140 m_28 m_141) rfl rfl rfl (by decide +kernel) ⟨Nat.le_of_ble_eq_true rfl, Nat.le_of_ble_eq_true rfl⟩) (preR hPc hK hZ) rfl rfl hl.1 rfl (lv_room (Nat.le_of_ble_eq_true rfl)) d_X_axis_18 ⟨Nat.le_of_ble_eq_true rfl, Nat.le_of_ble_eq_true rfl⟩).run (fun r10 hw => ?_)
      subst hw
      clear hPc hfc
      refine lv_if_ne (tgt := 26) hx hb d_X_axis_21 (by decide) (fun c11 => ?_) (fun c11 => ?_)
      · have hf := oIf_f hf c11
        refine lv_iload_n hx hb d_X_axis_26 rfl (lv_at hl 1 rfl) ?_
        refine lv_if_ne (tgt := 38) hx hb d_X_axis_27 (by decide) (fun c12 => ?_) (fun c12 => ?_)
        · have hf := oIf_f hf c12
          exact ofX _ _ _ _ _ (K38  x1 x2 x3 nA sT _ _ _ hf hP hD hS (lv_sub hl [0, 1, 2, 3] rfl))
        · have hf := oIf_t hf c12
          refine lv_iload_n hx hb d_X_axis_30 rfl (lv_at hl 2 rfl) ?_
          refine lv_if_ne (tgt := 38) hx hb d_X_axis_31 (by decide) (fun c13 => ?_) (fun c13 => ?_)
          · have hf := oIf_f hf c13
            exact ofX _ _ _ _ _ (K38  x1 x2 x3 nA sT _ _ _ hf hP hD hS (lv_sub hl [0, 1, 2, 3] rfl))
          · have hf := oIf_t hf c13
            refine lv_iload_n hx hb d_X_axis_34 rfl (lv_at hl 3 rfl) ?_
            refine lv_if_eq (tgt := 47) hx hb d_X_axis_35 (by decide) (fun c14 => ?_) (fun c14 => ?_)
            · have hf := oIf_t hf c14
              refine lv_iconst (v := (-1)) hx hb d_X_axis_47 (by decide) ?_
              cases hf
              exact W.iret hx hb hr (fun t ht hW => ⟨⟨_, (), rfl, rfl, by rw [ht]; exact hP, hD⟩, hS.F ht⟩) hS.2.2 d_X_axis_48
            · have hf := oIf_f hf c14
              exact ofX _ _ _ _ _ (K38  x1 x2 x3 nA sT _ _ _ hf hP hD hS (lv_sub hl [0, 1, 2, 3] rfl))
      · have hf := oIf_t hf c11
        refine lv_iconst (v := (-1)) hx hb d_X_axis_24 (by decide) ?_
        cases hf
        exact W.iret hx hb hr (fun t ht hW => ⟨⟨_, (), rfl, rfl, by rw [ht]; exact hP, hD⟩, hS.F ht⟩) hS.2.2 d_X_axis_25
set_option maxHeartbeats 4000000 in
set_option maxRecDepth 100000 in
theorem c_X_point (l : Launch) (dC : Nat → ClassId) (dI : Nat → Nat → Nat) (qX qB qSt qN qR qS qTg qKp qKq qBx qBy qBz qBa qBb qBc qBd qBs qNo qNt qRo qRt qSo qSp : Nat) (cI cJ cQ : ClassId) (sz : Nat) (nA : Int32) (nK : Int32) (nP : Int32) (nQ : Int32) (bX : Nat → Int32) (bY : Nat → Int32) (bZ : Nat → Int32) (bA : Nat → Int32) (bB : Nat → Int32) (bC : Nat → Int32) (bD : Nat → Int32) (bS : Nat → Int64) (sT : Nat → Int32) (nO : Nat → Int32) (nT : Nat → Int32) (rO : Nat → Int32) (rT : Nat → Int32) (sO : Nat → Int32) (sP : Nat → Int32) (tG : Nat → Int32) (kQ : Nat → Int32) (x1 : Int32) (x2 : Int32) (x3 : Int32) (r_ : Int32) (o_nP : Int32) (o_bX : Nat → Int32) (o_bY : Nat → Int32) (o_bZ : Nat → Int32) (o_bS : Nat → Int64) (o_nO : Nat → Int32) (o_nT : Nat → Int32) (hf : f_X_point nP nQ bX bY bZ bA bB bC bD bS nO nT x1 x2 x3 = some (r_, o_nP, o_bX, o_bY, o_bZ, o_bS, o_nO, o_nT)) : Met l y_X_point w_X_point ({ frames := 2, cells := 0, slots := 0, locals := 50 }) (va_Pc [.ref qX, .int x1, .int x2, .int x3] (fun U => U.heap.size = sz ∧ va_P (dC, dI) vwCl (w_X qX qB qSt qN qR qS qTg qKp qKq qBx qBy qBz qBa qBb qBc qBd qBs qNo qNt qRo qRt qSo qSp cI cJ nA nK nP nQ bX bY bZ bA bB bC bD bS sT nO nT rO rT sO sP tG kQ) U.heap ∧ va_K (dC, dI) vwCl [(cI, .int), (cJ, .long), (cQ, .object "CutBodies$Contents")] U ∧ nestZ U ∧ va_D (fun _ => True) (w_X qX qB qSt qN qR qS qTg qKp qKq qBx qBy qBz qBa qBb qBc qBd qBs qNo qNt qRo qRt qSo qSp cI cJ nA nK nP nQ bX bY bZ bA bB bC bD bS sT nO nT rO rT sO sP tG kQ))) (va_Qi (fun (r9 : Int32) (_ : Unit) => r9 = r_) (fun _ t => va_P (dC, dI) vwCl (w_X qX qB qSt qN qR qS qTg qKp qKq qBx qBy qBz qBa qBb qBc qBd qBs qNo qNt qRo qRt qSo qSp cI cJ nA nK o_nP nQ o_bX o_bY o_bZ bA bB bC bD o_bS sT o_nO o_nT rO rT sO sP tG kQ) t.heap ∧ va_D (va_A (w_X qX qB qSt qN qR qS qTg qKp qKq qBx qBy qBz qBa qBb qBc qBd qBs qNo qNt qRo qRt qSo qSp cI cJ nA nK nP nQ bX bY bZ bA bB bC bD bS sT nO nT rO rT sO sP tG kQ) sz) (w_X qX qB qSt qN qR qS qTg qKp qKq qBx qBy qBz qBa qBb qBc qBd qBs qNo qNt qRo qRt qSo qSp cI cJ nA nK o_nP nQ o_bX o_bY o_bZ bA bB bC bD o_bS sT o_nO o_nT rO rT sO sP tG kQ)) (va_A (w_X qX qB qSt qN qR qS qTg qKp qKq qBx qBy qBz qBa qBb qBc qBd qBs qNo qNt qRo qRt qSo qSp cI cJ nA nK nP nQ bX bY bZ bA bB bC bD bS sT nO nT rO rT sO sP tG kQ) sz)) 0 0 (va_A (w_X qX qB qSt qN qR qS qTg qKp qKq qBx qBy qBz qBa qBb qBc qBd qBs qNo qNt qRo qRt qSo qSp cI cJ nA nK nP nQ bX bY bZ bA bB bC bD bS sT nO nT rO rT sO sP tG kQ) sz) := by
  refine Met.ofW (cc := b_X_point) (maxL := 5) (ret := (some .int)) (by decide) rfl ?_
  intro p e s m args below meth c s₁ B hml hv
  obtain ⟨rfl, hsz, hP, hK, hZ, hD0⟩ := hv
  have hx := B.exec
  have hb := B.bytes
  have hr := B.returns
  have hts := atoms_spec (ws := w_X_point) B.pre
  have ht : ∀ w ∈ wAll, w.before _ s = true := fun w h => hts w (List.mem_cons_of_mem _ h)
  have hown : s.vm.findClass R_X = some m.cls := findClass_of_methodNamed B.named
  have hlocks := B.notSynchronized
  subst hsz
  have hD := hD0.self (sz := s.heap.size)
  generalize hAe : va_A (w_X qX qB qSt qN qR qS qTg qKp qKq qBx qBy qBz qBa qBb qBc qBd qBs qNo qNt qRo qRt qSo qSp cI cJ nA nK nP nQ bX bY bZ bA bB bC bD bS sT nO nT rO rT sO sP tG kQ) s.heap.size = A at hD ⊢
  have hA : ∀ q : Nat, s.heap.size ≤ q → A q := fun q h => by rw [← hAe]; exact Or.inr h
  have hS : va_S A s.heap s.heap [] := va_S.rf
  have hP : va_P (dC, dI) vwCl (w_X qX qB qSt qN qR qS qTg qKp qKq qBx qBy qBz qBa qBb qBc qBd qBs qNo qNt qRo qRt qSo qSp cI cJ nA nK nP nQ bX bY bZ bA bB bC bD bS sT nO nT rO rT sO sP tG kQ) s.heap := hP
  have hl := lv_entry ([.ref qX, .int x1, .int x2, .int x3]) (n := 5) (Nat.le_of_ble_eq_true rfl)
  rw [lg_entry_eq]
  generalize (lg_sl ([.ref qX, .int x1, .int x2, .int x3]) ++ List.replicate (5 - (lg_sl ([.ref qX, .int x1, .int x2, .int x3])).length) Slot.unset).toArray = ls at hl ⊢
  have hl : lv_has ls 5 [(0, .ref qX), (1, .int x1), (2, .int x2), (3, .int x3)] := hl
  unfold f_X_point at hf
  obtain ⟨H, hH⟩ : ∃ z, z = s.heap := ⟨_, rfl⟩
  have hS : va_S A s.heap H [] := by rw [hH]; exact hS
  have hP : va_P (dC, dI) vwCl (w_X qX qB qSt qN qR qS qTg qKp qKq qBx qBy qBz qBa qBb qBc qBd qBs qNo qNt qRo qRt qSo qSp cI cJ nA nK nP nQ bX bY bZ bA bB bC bD bS sT nO nT rO rT sO sP tG kQ) H := by rw [hH]; exact hP
  refine w_heap hH ?_
  refine lv_aload_n hx hb d_X_point_0 rfl (lv_at hl 0 rfl) ?_
  refine va_get (D := (dC, dI)) (ci := 2) (v := .ref qB) (C := R_X) (T := T_X) (N := 10) hx hb ht in_X hown hK hP 0 rfl rfl 0 (by decide) (ht _ m_100) (fun _ h9 => h9) rfl d_X_point_1 ?_
  refine lv_iload_n hx hb d_X_point_4 rfl (lv_at hl 1 rfl) ?_
  refine lv_iload_n hx hb d_X_point_5 rfl (lv_at hl 2 rfl) ?_
  refine lv_iload_n hx hb d_X_point_6 rfl (lv_at hl 3 rfl) ?_
  obtain ⟨r6z, o1, o2, o3, o4, o5, hfc, hf⟩ := oCall6_some hf
  have hPc := hP.sub (ws' := (w_B qB qBx qBy qBz qBa qBb qBc qBd qBs cI cJ nP nQ bX bY bZ bA bB bC bD bS)) [1, 2, 3, 4, 5, 6, 7, 8, 9] rfl
  have hDc := hD.sub (ws' := (w_B qB qBx qBy qBz qBa qBb qBc qBd qBs cI cJ nP nQ bX bY bZ bA bB bC bD bS)) [1, 2, 3, 4, 5, 6, 7, 8, 9] (by decide) rfl
  have hFc := va_free (wc := (w_B qB qBx qBy qBz qBa qBb qBc qBd qBs cI cJ nP nQ bX bY bZ bA bB bC bD bS)) hD hS hA [1, 2, 3, 4, 5, 6, 7, 8, 9] rfl
  refine va_calli (va_runV (As := [.int x1, .int x2, .int x3]) (rest := []) ⟨hx, hb, hml, hown, ht⟩ (c_B_addPoint l dC dI qB qBx qBy qBz qBa qBb qBc qBd qBs cI cJ cQ H.size nP nQ bX bY bZ bA bB bC bD bS x1 x2 x3 r6z o1 o2 o3 o4 o5 hfc) (cwV 3 ht (gV m_135 m_136 m_137 m_29 m_138) rfl rfl rfl (by decide +kernel) ⟨Nat.le_of_ble_eq_true rfl, Nat.le_of_ble_eq_true rfl⟩) (preMV hPc hK hZ hDc (va_recv hK hPc (ci := 0) (q0 := 0) rfl rfl)) rfl rfl hl.1 rfl (lv_room (Nat.le_of_ble_eq_true rfl)) d_X_point_7 ⟨Nat.le_of_ble_eq_true rfl, Nat.le_of_ble_eq_true rfl⟩) hS (fun q _ h => hFc q h) hFc (fun r6 u t H1 locs ht9 hvm hw hB hz1 hk1 hS => ?_)
  obtain ⟨hP1, hD1⟩ := hB
  rw [ht9] at hP1
  subst hw
  obtain ⟨hP, hD⟩ := va_join (wr := [(qX, .inr (2, [.ref qB, .ref qSt, .int nA, .ref qN, .ref qR, .ref qS, .ref qTg, .ref qKp, .ref qKq, .int nK])), (qSt, .inl (cI, 13, .inl sT)), (qN, .inr (1, [.ref qNo, .ref qNt])), (qNo, .inl (cI, 60, .inl nO)), (qNt, .inl (cI, 60, .inl nT)), (qR, .inr (1, [.ref qRo, .ref qRt])), (qRo, .inl (cI, 60, .inl rO)), (qRt, .inl (cI, 60, .inl rT)), (qS, .inr (1, [.ref qSo, .ref qSp])), (qSo, .inl (cI, 60, .inl sO)), (qSp, .inl (cI, 60, .inl sP)), (qTg, .inl (cI, 60, .inl tG)), (qKq, .inl (cI, 10, .inl kQ))]) (w1 := (w_B qB qBx qBy qBz qBa qBb qBc qBd qBs cI cJ o1 nQ o2 o3 o4 bA bB bC bD o5)) hP hD [1, 2, 3, 4, 5, 6, 7, 8, 9] [0, 10, 11, 12, 13, 14, 15, 16, 17, 18, 19, 20, 21] rfl rfl (by decide) (by decide) hk1 hFc hP1 hD1
  have hP := hP.sub (ws' := (w_X qX qB qSt qN qR qS qTg qKp qKq qBx qBy qBz qBa qBb qBc qBd qBs qNo qNt qRo qRt qSo qSp cI cJ nA nK o1 nQ o2 o3 o4 bA bB bC bD o5 sT nO nT rO rT sO sP tG kQ)) [0, 13, 14, 15, 16, 17, 18, 19, 20, 21, 1, 2, 3, 4, 5, 6, 7, 8, 9, 10, 11, 12] rfl
  have hD := hD.sub (ws' := (w_X qX qB qSt qN qR qS qTg qKp qKq qBx qBy qBz qBa qBb qBc qBd qBs qNo qNt qRo qRt qSo qSp cI cJ nA nK o1 nQ o2 o3 o4 bA bB bC bD o5 sT nO nT rO rT sO sP tG kQ)) [0, 13, 14, 15, 16, 17, 18, 19, 20, 21, 1, 2, 3, 4, 5, 6, 7, 8, 9, 10, 11, 12] (by decide) rfl
  clear hPc hDc hFc hP1 hD1 hz1 hk1 ht9 hvm hfc
  generalize H1 = H at hP hS ⊢
  refine lv_istore (lv' := [(4, .int r6), (0, .ref qX), (1, .int x1), (2, .int x2), (3, .int x3)]) hx hb d_X_point_10 hl (by decide) rfl (fun ls hl => ?_)
  refine lv_iload hx hb d_X_point_12 (lv_at hl 0 rfl) ?_
  refine lv_iconst (v := (-1)) hx hb d_X_point_14 (by decide) ?_
  refine lv_icmp_eq (tgt := 25) hx hb d_X_point_15 (by decide) (fun c7 => ?_) (fun c7 => ?_)
  · have hf := oIf_t hf c7
    refine lv_iload hx hb d_X_point_25 (lv_at hl 0 rfl) ?_
    cases hf
    exact W.iret hx hb hr (fun t ht hW => ⟨⟨_, (), rfl, rfl, by rw [ht]; exact hP, hD⟩, hS.F ht⟩) hS.2.2 d_X_point_27
  · have hf := oIf_f hf c7
    refine lv_aload_n hx hb d_X_point_18 rfl (lv_at hl 1 rfl) ?_
    refine va_get (D := (dC, dI)) (ci := 2) (v := .ref qN) (C := R_X) (T := T_X) (N := 10) hx hb ht in_X hown hK hP 0 rfl rfl 3 (by decide) (ht _ m_103) (fun _ h9 => h9) rfl d_X_point_19 ?_
    obtain ⟨o8, o9, hfc, hf⟩ := oCall2_some hf
    have hPc := hP.sub (ws' := (w_C qN qNo qNt cI nO nT)) [11, 12, 13] rfl
    have hDc := hD.sub (ws' := (w_C qN qNo qNt cI nO nT)) [11, 12, 13] (by decide) rfl
    have hFc := va_free (wc := (w_C qN qNo qNt cI nO nT)) hD hS hA [11, 12, 13] rfl
    refine va_callv (va_runV (As := []) (rest := []) ⟨hx, hb, hml, hown, ht⟩ (c_C_putAllHome l dC dI qN qNo qNt cI cJ cQ H.size nO nT o8 o9 hfc) (cwV 0 ht (gV m_151 m_152 m_153 m_30 m_154) rfl rfl rfl (by decide +kernel) ⟨Nat.le_of_ble_eq_true rfl, Nat.le_of_ble_eq_true rfl⟩) (preMV hPc hK hZ hDc (va_recv hK hPc (ci := 1) (q0 := 0) rfl rfl)) rfl rfl hl.1 rfl (lv_room (Nat.le_of_ble_eq_true rfl)) d_X_point_22 ⟨Nat.le_of_ble_eq_true rfl, Nat.le_of_ble_eq_true rfl⟩) hS (fun q _ h => hFc q h) hFc (fun u t H1 locs ht9 hvm hw hB hz1 hk1 hS => ?_)
    obtain ⟨hP1, hD1⟩ := hB
    rw [ht9] at hP1
    obtain ⟨hP, hD⟩ := va_join (wr := [(qX, .inr (2, [.ref qB, .ref qSt, .int nA, .ref qN, .ref qR, .ref qS, .ref qTg, .ref qKp, .ref qKq, .int nK])), (qB, .inr (0, [.ref qBx, .ref qBy, .ref qBz, .int o1, .ref qBa, .ref qBb, .ref qBc, .ref qBd, .int nQ, .ref qBs])), (qBx, .inl (cI, 60, .inl o2)), (qBy, .inl (cI, 60, .inl o3)), (qBz, .inl (cI, 60, .inl o4)), (qBa, .inl (cI, 20, .inl bA)), (qBb, .inl (cI, 20, .inl bB)), (qBc, .inl (cI, 20, .inl bC)), (qBd, .inl (cI, 20, .inl bD)), (qBs, .inl (cJ, 60, .inr (.inl o5))), (qSt, .inl (cI, 13, .inl sT)), (qR, .inr (1, [.ref qRo, .ref qRt])), (qRo, .inl (cI, 60, .inl rO)), (qRt, .inl (cI, 60, .inl rT)), (qS, .inr (1, [.ref qSo, .ref qSp])), (qSo, .inl (cI, 60, .inl sO)), (qSp, .inl (cI, 60, .inl sP)), (qTg, .inl (cI, 60, .inl tG)), (qKq, .inl (cI, 10, .inl kQ))]) (w1 := (w_C qN qNo qNt cI o8 o9)) hP hD [11, 12, 13] [0, 1, 2, 3, 4, 5, 6, 7, 8, 9, 10, 14, 15, 16, 17, 18, 19, 20, 21] rfl rfl (by decide) (by decide) hk1 hFc hP1 hD1
    have hP := hP.sub (ws' := (w_X qX qB qSt qN qR qS qTg qKp qKq qBx qBy qBz qBa qBb qBc qBd qBs qNo qNt qRo qRt qSo qSp cI cJ nA nK o1 nQ o2 o3 o4 bA bB bC bD o5 sT o8 o9 rO rT sO sP tG kQ)) [0, 1, 2, 3, 4, 5, 6, 7, 8, 9, 10, 19, 20, 21, 11, 12, 13, 14, 15, 16, 17, 18] rfl
    have hD := hD.sub (ws' := (w_X qX qB qSt qN qR qS qTg qKp qKq qBx qBy qBz qBa qBb qBc qBd qBs qNo qNt qRo qRt qSo qSp cI cJ nA nK o1 nQ o2 o3 o4 bA bB bC bD o5 sT o8 o9 rO rT sO sP tG kQ)) [0, 1, 2, 3, 4, 5, 6, 7, 8, 9, 10, 19, 20, 21, 11, 12, 13, 14, 15, 16, 17, 18] (by decide) rfl
    clear hPc hDc hFc hP1 hD1 hz1 hk1 ht9 hvm hfc
    generalize H1 = H at hP hS ⊢
    refine lv_iload hx hb d_X_point_25 (lv_at hl 0 rfl) ?_
    cases hf
    exact W.iret hx hb hr (fun t ht hW => ⟨⟨_, (), rfl, rfl, by rw [ht]; exact hP, hD⟩, hS.F ht⟩) hS.2.2 d_X_point_27
set_option maxHeartbeats 4000000 in
set_option maxRecDepth 100000 in
theorem c_X_cycle (l : Launch) (dC : Nat → ClassId) (dI : Nat → Nat → Nat) (qX qB qSt qN qR qS qTg qKp qKq qBx qBy qBz qBa qBb qBc qBd qBs qNo qNt qRo qRt qSo qSp : Nat) (cI cJ cQ : ClassId) (sz : Nat) (nA : Int32) (nK : Int32) (nP : Int32) (nQ : Int32) (bX : Nat → Int32) (bY : Nat → Int32) (bZ : Nat → Int32) (bA : Nat → Int32) (bB : Nat → Int32) (bC : Nat → Int32) (bD : Nat → Int32) (bS : Nat → Int64) (sT : Nat → Int32) (nO : Nat → Int32) (nT : Nat → Int32) (rO : Nat → Int32) (rT : Nat → Int32) (sO : Nat → Int32) (sP : Nat → Int32) (tG : Nat → Int32) (kQ : Nat → Int32) (x1 : Int32) (x2 : Int32) (x3 : Int32) (r_ : Int32) (o_tG : Nat → Int32) (hf : f_X_cycle nA nP nQ bX bY bZ bS sT tG x1 x2 x3 = some (r_, o_tG)) : Met l y_X_cycle w_X_cycle ({ frames := 4, cells := 0, slots := 0, locals := 98 }) (va_Pc [.ref qX, .int x1, .int x2, .int x3] (fun U => U.heap.size = sz ∧ va_P (dC, dI) vwCl (w_X qX qB qSt qN qR qS qTg qKp qKq qBx qBy qBz qBa qBb qBc qBd qBs qNo qNt qRo qRt qSo qSp cI cJ nA nK nP nQ bX bY bZ bA bB bC bD bS sT nO nT rO rT sO sP tG kQ) U.heap ∧ va_K (dC, dI) vwCl [(cI, .int), (cJ, .long), (cQ, .object "CutBodies$Contents")] U ∧ nestZ U ∧ va_D (fun _ => True) (w_X qX qB qSt qN qR qS qTg qKp qKq qBx qBy qBz qBa qBb qBc qBd qBs qNo qNt qRo qRt qSo qSp cI cJ nA nK nP nQ bX bY bZ bA bB bC bD bS sT nO nT rO rT sO sP tG kQ))) (va_Qi (fun (r9 : Int32) (_ : Unit) => r9 = r_) (fun _ t => va_P (dC, dI) vwCl (w_X qX qB qSt qN qR qS qTg qKp qKq qBx qBy qBz qBa qBb qBc qBd qBs qNo qNt qRo qRt qSo qSp cI cJ nA nK nP nQ bX bY bZ bA bB bC bD bS sT nO nT rO rT sO sP o_tG kQ) t.heap ∧ va_D (va_A (w_X qX qB qSt qN qR qS qTg qKp qKq qBx qBy qBz qBa qBb qBc qBd qBs qNo qNt qRo qRt qSo qSp cI cJ nA nK nP nQ bX bY bZ bA bB bC bD bS sT nO nT rO rT sO sP tG kQ) sz) (w_X qX qB qSt qN qR qS qTg qKp qKq qBx qBy qBz qBa qBb qBc qBd qBs qNo qNt qRo qRt qSo qSp cI cJ nA nK nP nQ bX bY bZ bA bB bC bD bS sT nO nT rO rT sO sP o_tG kQ)) (va_A (w_X qX qB qSt qN qR qS qTg qKp qKq qBx qBy qBz qBa qBb qBc qBd qBs qNo qNt qRo qRt qSo qSp cI cJ nA nK nP nQ bX bY bZ bA bB bC bD bS sT nO nT rO rT sO sP tG kQ) sz)) 0 0 (va_A (w_X qX qB qSt qN qR qS qTg qKp qKq qBx qBy qBz qBa qBb qBc qBd qBs qNo qNt qRo qRt qSo qSp cI cJ nA nK nP nQ bX bY bZ bA bB bC bD bS sT nO nT rO rT sO sP tG kQ) sz) := by
  refine Met.ofW (cc := b_X_cycle) (maxL := 6) (ret := (some .int)) (by decide) rfl ?_
  intro p e s m args below meth c s₁ B hml hv
  obtain ⟨rfl, hsz, hP, hK, hZ, hD0⟩ := hv
  have hx := B.exec
  have hb := B.bytes
  have hr := B.returns
  have hts := atoms_spec (ws := w_X_cycle) B.pre
  have ht : ∀ w ∈ wAll, w.before _ s = true := fun w h => hts w (List.mem_cons_of_mem _ h)
  have hown : s.vm.findClass R_X = some m.cls := findClass_of_methodNamed B.named
  have hlocks := B.notSynchronized
  subst hsz
  have hD := hD0.self (sz := s.heap.size)
  generalize hAe : va_A (w_X qX qB qSt qN qR qS qTg qKp qKq qBx qBy qBz qBa qBb qBc qBd qBs qNo qNt qRo qRt qSo qSp cI cJ nA nK nP nQ bX bY bZ bA bB bC bD bS sT nO nT rO rT sO sP tG kQ) s.heap.size = A at hD ⊢
  have hA : ∀ q : Nat, s.heap.size ≤ q → A q := fun q h => by rw [← hAe]; exact Or.inr h
  have hS : va_S A s.heap s.heap [] := va_S.rf
  have hP : va_P (dC, dI) vwCl (w_X qX qB qSt qN qR qS qTg qKp qKq qBx qBy qBz qBa qBb qBc qBd qBs qNo qNt qRo qRt qSo qSp cI cJ nA nK nP nQ bX bY bZ bA bB bC bD bS sT nO nT rO rT sO sP tG kQ) s.heap := hP
  have hl := lv_entry ([.ref qX, .int x1, .int x2, .int x3]) (n := 6) (Nat.le_of_ble_eq_true rfl)
  rw [lg_entry_eq]
  generalize (lg_sl ([.ref qX, .int x1, .int x2, .int x3]) ++ List.replicate (6 - (lg_sl ([.ref qX, .int x1, .int x2, .int x3])).length) Slot.unset).toArray = ls at hl ⊢
  have hl : lv_has ls 6 [(0, .ref qX), (1, .int x1), (2, .int x2), (3, .int x3)] := hl
  refine w_abs (fun Wx toX ofX => ?_)
  have K55 : ∀ (x3 : Int32) (tG : Nat → Int32) (n : Nat) (x4 : Int32) (x5 : Int32) (H : Heap) (locs : List Loc) (ls : Array Slot), oLoop2 (f_X_cycle_L55  nA nP nQ bX bY bZ bS sT x3 tG) n x4 x5 = some (r_, o_tG) → va_P (dC, dI) vwCl (w_X qX qB qSt qN qR qS qTg qKp qKq qBx qBy qBz qBa qBb qBc qBd qBs qNo qNt qRo qRt qSo qSp cI cJ nA nK nP nQ bX bY bZ bA bB bC bD bS sT nO nT rO rT sO sP tG kQ) H → va_D A (w_X qX qB qSt qN qR qS qTg qKp qKq qBx qBy qBz qBa qBb qBc qBd qBs qNo qNt qRo qRt qSo qSp cI cJ nA nK nP nQ bX bY bZ bA bB bC bD bS sT nO nT rO rT sO sP tG kQ) → va_S A s.heap H locs → lv_has ls 6 [(0, .ref qX), (3, .int x3), (4, .int x4), (5, .int x5)] → Wx H locs 0 0 (F0 m 55 ls []) := by
    intro x3 tG n
    induction n with
    | zero => intro x4 x5 H locs ls hf; exact (oLoop2_0 hf).elim
    | succ n ih55 =>
      obtain ⟨rec55, hrec55⟩ : ∃ z, z = oLoop2 (f_X_cycle_L55  nA nP nQ bX bY bZ bS sT x3 tG) n := ⟨_, rfl⟩
      rw [← hrec55] at ih55
      intro x4 x5 H locs ls hf hP hD hS hl
      refine toX _ _ _ _ _ ?_
      have hf := oLoop2_s hf
      rw [← hrec55] at hf
      unfold f_X_cycle_L55 at hf
      refine lv_iload hx hb d_X_cycle_55 (lv_at hl 3 rfl) ?_
      refine lv_iconst (v := (-1)) hx hb d_X_cycle_57 (by decide) ?_
      refine lv_icmp_eq (tgt := 89) hx hb d_X_cycle_58 (by decide) (fun c1 => ?_) (fun c1 => ?_)
      · have hf := oIf_t hf c1
        refine lv_iload hx hb d_X_cycle_89 (lv_at hl 2 rfl) ?_
        cases hf
        exact W.iret hx hb hr (fun t ht hW => ⟨⟨_, (), rfl, rfl, by rw [ht]; exact hP, hD⟩, hS.F ht⟩) hS.2.2 d_X_cycle_91
      · have hf := oIf_f hf c1
        refine lv_iload hx hb d_X_cycle_61 (lv_at hl 3 rfl) ?_
        refine lv_iload_n hx hb d_X_cycle_63 rfl (lv_at hl 1 rfl) ?_
        refine lv_icmp_eq (tgt := 89) hx hb d_X_cycle_64 (by decide) (fun c2 => ?_) (fun c2 => ?_)
        · have hf := oIf_t hf c2
          refine lv_iload hx hb d_X_cycle_89 (lv_at hl 2 rfl) ?_
          cases hf
          exact W.iret hx hb hr (fun t ht hW => ⟨⟨_, (), rfl, rfl, by rw [ht]; exact hP, hD⟩, hS.F ht⟩) hS.2.2 d_X_cycle_91
        · have hf := oIf_f hf c2
          refine lv_iload hx hb d_X_cycle_67 (lv_at hl 2 rfl) ?_
          refine lv_bipush (v := 60) hx hb d_X_cycle_69 (by decide) ?_
          refine lv_icmp_ge (tgt := 89) hx hb d_X_cycle_71 (by decide) (fun c3 => ?_) (fun c3 => ?_)
          · have hf := oIf_t hf c3
            refine lv_iload hx hb d_X_cycle_89 (lv_at hl 2 rfl) ?_
            cases hf
            exact W.iret hx hb hr (fun t ht hW => ⟨⟨_, (), rfl, rfl, by rw [ht]; exact hP, hD⟩, hS.F ht⟩) hS.2.2 d_X_cycle_91
          · have hf := oIf_f hf c3
            refine lv_aload_n hx hb d_X_cycle_74 rfl (lv_at hl 0 rfl) ?_
            refine va_get (D := (dC, dI)) (ci := 2) (v := .ref qTg) (C := R_X) (T := T_X) (N := 10) hx hb ht in_X hown hK hP 0 rfl rfl 6 (by decide) (ht _ m_106) (fun _ h9 => h9) rfl d_X_cycle_75 ?_
            refine lv_iload hx hb d_X_cycle_78 (lv_at hl 3 rfl) ?_
            obtain ⟨hi4, hf⟩ := oIn_some hf
            refine va_iald hx hb hK hP 20 0 rfl rfl hi4 d_X_cycle_80 ?_
            refine lv_topi (fun v5 ev5 => ?_)
            have hf := oLet_some hf ev5
            refine lv_istore (lv' := [(5, .int v5), (0, .ref qX), (3, .int x3), (4, .int x4)]) hx hb d_X_cycle_81 hl (by decide) rfl (fun ls hl => ?_)
            obtain ⟨v6, ev6, hf⟩ := oLet_ex hf
            refine lv_iinc (v := v6) (lv' := [(4, .int v6), (5, .int v5), (0, .ref qX), (3, .int x3)]) hx hb d_X_cycle_83 hl (k := 3) rfl (by rw [ev6]; rfl) (by decide) rfl (fun ls hl => ?_)
            refine lv_goto (tgt := 55) hx hb d_X_cycle_86 (by decide) ?_
            exact ofX _ _ _ _ _ (ih55 v6 v5 _ _ _ hf hP hD hS (lv_sub hl [2, 3, 0, 1] rfl))
  refine toX _ _ _ _ _ ?_
  unfold f_X_cycle at hf
  obtain ⟨H, hH⟩ : ∃ z, z = s.heap := ⟨_, rfl⟩
  have hS : va_S A s.heap H [] := by rw [hH]; exact hS
  have hP : va_P (dC, dI) vwCl (w_X qX qB qSt qN qR qS qTg qKp qKq qBx qBy qBz qBa qBb qBc qBd qBs qNo qNt qRo qRt qSo qSp cI cJ nA nK nP nQ bX bY bZ bA bB bC bD bS sT nO nT rO rT sO sP tG kQ) H := by rw [hH]; exact hP
  refine w_heap hH ?_
  refine lv_aload_n hx hb d_X_cycle_0 rfl (lv_at hl 0 rfl) ?_
  refine lv_iload_n hx hb d_X_cycle_1 rfl (lv_at hl 1 rfl) ?_
  obtain ⟨r7z, hfc, hf⟩ := oCall1_some hf
  have hPc := hP.sub (ws' := (w_X qX qB qSt qN qR qS qTg qKp qKq qBx qBy qBz qBa qBb qBc qBd qBs qNo qNt qRo qRt qSo qSp cI cJ nA nK nP nQ bX bY bZ bA bB bC bD bS sT nO nT rO rT sO sP tG kQ)) [0, 1, 2, 3, 4, 5, 6, 7, 8, 9, 10, 11, 12, 13, 14, 15, 16, 17, 18, 19, 20, 21] rfl
  refine vp_callSi (va_runV (As := [.int x1]) (rest := []) ⟨hx, hb, hml, hown, ht⟩ (c_X_hasAxis l dC dI qX qB qSt qN qR qS qTg qKp qKq qBx qBy qBz qBa qBb qBc qBd qBs qNo qNt qRo qRt qSo qSp cI cJ cQ nA nK nP nQ bX bY bZ bA bB bC bD bS sT nO nT rO rT sO sP tG kQ x1 r7z hfc) (cwV 1 ht (gV m_188 m_190 m_1 m_28 m_191) rfl rfl rfl (by decide +kernel) ⟨Nat.le_of_ble_eq_true rfl, Nat.le_of_ble_eq_true rfl⟩) (preRV hPc hK hZ (va_recv hK hPc (ci := 2) (q0 := 0) rfl rfl)) rfl rfl hl.1 rfl (lv_room (Nat.le_of_ble_eq_true rfl)) d_X_cycle_2 ⟨Nat.le_of_ble_eq_true rfl, Nat.le_of_ble_eq_true rfl⟩).run (fun r7 hw => ?_)
  subst hw
  clear hPc hfc
  refine lv_if_eq (tgt := 30) hx hb d_X_cycle_5 (by decide) (fun c8 => ?_) (fun c8 => ?_)
  · have hf := oIf_t hf c8
    refine lv_iconst (v := 0) hx hb d_X_cycle_30 (by decide) ?_
    cases hf
    exact W.iret hx hb hr (fun t ht hW => ⟨⟨_, (), rfl, rfl, by rw [ht]; exact hP, hD⟩, hS.F ht⟩) hS.2.2 d_X_cycle_31
  · have hf := oIf_f hf c8
    refine lv_aload_n hx hb d_X_cycle_8 rfl (lv_at hl 0 rfl) ?_
    refine va_get (D := (dC, dI)) (ci := 2) (v := .ref qB) (C := R_X) (T := T_X) (N := 10) hx hb ht in_X hown hK hP 0 rfl rfl 0 (by decide) (ht _ m_100) (fun _ h9 => h9) rfl d_X_cycle_9 ?_
    refine lv_iload_n hx hb d_X_cycle_12 rfl (lv_at hl 2 rfl) ?_
    obtain ⟨r9z, hfc, hf⟩ := oCall1_some hf
    have hPc := hP.sub (ws' := (w_B qB qBx qBy qBz qBa qBb qBc qBd qBs cI cJ nP nQ bX bY bZ bA bB bC bD bS)) [1, 2, 3, 4, 5, 6, 7, 8, 9] rfl
    refine vp_callSi (va_runV (As := [.int x2]) (rest := []) ⟨hx, hb, hml, hown, ht⟩ (c_B_hasPlane l dC dI qB qBx qBy qBz qBa qBb qBc qBd qBs cI cJ cQ nP nQ bX bY bZ bA bB bC bD bS x2 r9z hfc) (cwV 1 ht (gV m_218 m_219 m_220 m_29 m_221) rfl rfl rfl (by decide +kernel) ⟨Nat.le_of_ble_eq_true rfl, Nat.le_of_ble_eq_true rfl⟩) (preRV hPc hK hZ (va_recv hK hPc (ci := 0) (q0 := 0) rfl rfl)) rfl rfl hl.1 rfl (lv_room (Nat.le_of_ble_eq_true rfl)) d_X_cycle_13 ⟨Nat.le_of_ble_eq_true rfl, Nat.le_of_ble_eq_true rfl⟩).run (fun r9 hw => ?_)
    subst hw
    clear hPc hfc
    refine lv_if_eq (tgt := 30) hx hb d_X_cycle_16 (by decide) (fun c10 => ?_) (fun c10 => ?_)
    · have hf := oIf_t hf c10
      refine lv_iconst (v := 0) hx hb d_X_cycle_30 (by decide) ?_
      cases hf
      exact W.iret hx hb hr (fun t ht hW => ⟨⟨_, (), rfl, rfl, by rw [ht]; exact hP, hD⟩, hS.F ht⟩) hS.2.2 d_X_cycle_31
    · have hf := oIf_f hf c10
      refine lv_aload_n hx hb d_X_cycle_19 rfl (lv_at hl 0 rfl) ?_
      refine va_get (D := (dC, dI)) (ci := 2) (v := .ref qB) (C := R_X) (T := T_X) (N := 10) hx hb ht in_X hown hK hP 0 rfl rfl 0 (by decide) (ht _ m_100) (fun _ h9 => h9) rfl d_X_cycle_20 ?_
      refine lv_iload_n hx hb d_X_cycle_23 rfl (lv_at hl 3 rfl) ?_
      obtain ⟨r11z, hfc, hf⟩ := oCall1_some hf
      have hPc := hP.sub (ws' := (w_B qB qBx qBy qBz qBa qBb qBc qBd qBs cI cJ nP nQ bX bY bZ bA bB bC bD bS)) [1, 2, 3, 4, 5, 6, 7, 8, 9] rfl
      refine vp_callSi (va_runV (As := [.int x3]) (rest := []) ⟨hx, hb, hml, hown, ht⟩ (c_B_hasPoint l dC dI qB qBx qBy qBz qBa qBb qBc qBd qBs cI cJ cQ nP nQ bX bY bZ bA bB bC bD bS x3 r11z hfc) (cwV 1 ht (gV m_214 m_215 m_216 m_29 m_217) rfl rfl rfl (by decide +kernel) ⟨Nat.le_of_ble_eq_true rfl, Nat.le_of_ble_eq_true rfl⟩) (preRV hPc hK hZ (va_recv hK hPc (ci := 0) (q0 := 0) rfl rfl)) rfl rfl hl.1 rfl (lv_room (Nat.le_of_ble_eq_true rfl)) d_X_cycle_24 ⟨Nat.le_of_ble_eq_true rfl, Nat.le_of_ble_eq_true rfl⟩).run (fun r11 hw => ?_)
      subst hw
      clear hPc hfc
      refine lv_if_ne (tgt := 32) hx hb d_X_cycle_27 (by decide) (fun c12 => ?_) (fun c12 => ?_)
      · have hf := oIf_f hf c12
        refine lv_aload_n hx hb d_X_cycle_32 rfl (lv_at hl 0 rfl) ?_
        refine lv_iload_n hx hb d_X_cycle_33 rfl (lv_at hl 1 rfl) ?_
        refine lv_iload_n hx hb d_X_cycle_34 rfl (lv_at hl 2 rfl) ?_
        obtain ⟨r14z, o13, hfc, hf⟩ := oCall2_some hf
        have hPc := hP.sub (ws' := (w_X qX qB qSt qN qR qS qTg qKp qKq qBx qBy qBz qBa qBb qBc qBd qBs qNo qNt qRo qRt qSo qSp cI cJ nA nK nP nQ bX bY bZ bA bB bC bD bS sT nO nT rO rT sO sP tG kQ)) [0, 1, 2, 3, 4, 5, 6, 7, 8, 9, 10, 11, 12, 13, 14, 15, 16, 17, 18, 19, 20, 21] rfl
        have hDc := hD.sub (ws' := (w_X qX qB qSt qN qR qS qTg qKp qKq qBx qBy qBz qBa qBb qBc qBd qBs qNo qNt qRo qRt qSo qSp cI cJ nA nK nP nQ bX bY bZ bA bB bC bD bS sT nO nT rO rT sO sP tG kQ)) [0, 1, 2, 3, 4, 5, 6, 7, 8, 9, 10, 11, 12, 13, 14, 15, 16, 17, 18, 19, 20, 21] (by decide) rfl
        have hFc := va_free (wc := (w_X qX qB qSt qN qR qS qTg qKp qKq qBx qBy qBz qBa qBb qBc qBd qBs qNo qNt qRo qRt qSo qSp cI cJ nA nK nP nQ bX bY bZ bA bB bC bD bS sT nO nT rO rT sO sP tG kQ)) hD hS hA [0, 1, 2, 3, 4, 5, 6, 7, 8, 9, 10, 11, 12, 13, 14, 15, 16, 17, 18, 19, 20, 21] rfl
        refine va_calli (va_runV (As := [.int x1, .int x2]) (rest := []) ⟨hx, hb, hml, hown, ht⟩ (c_X_findTargets l dC dI qX qB qSt qN qR qS qTg qKp qKq qBx qBy qBz qBa qBb qBc qBd qBs qNo qNt qRo qRt qSo qSp cI cJ cQ H.size nA nK nP nQ bX bY bZ bA bB bC bD bS sT nO nT rO rT sO sP tG kQ x1 x2 r14z o13 hfc) (cwV 2 ht (gV m_262 m_264 m_2 m_28 m_265) rfl rfl rfl (by decide +kernel) ⟨Nat.le_of_ble_eq_true rfl, Nat.le_of_ble_eq_true rfl⟩) (preMV hPc hK hZ hDc (va_recv hK hPc (ci := 2) (q0 := 0) rfl rfl)) rfl rfl hl.1 rfl (lv_room (Nat.le_of_ble_eq_true rfl)) d_X_cycle_35 ⟨Nat.le_of_ble_eq_true rfl, Nat.le_of_ble_eq_true rfl⟩) hS (fun q _ h => hFc q h) hFc (fun r14 u t H1 locs ht9 hvm hw hB hz1 hk1 hS => ?_)
        obtain ⟨hP1, hD1⟩ := hB
        rw [ht9] at hP1
        subst hw
        obtain ⟨hP, hD⟩ := va_join (wr := []) (w1 := (w_X qX qB qSt qN qR qS qTg qKp qKq qBx qBy qBz qBa qBb qBc qBd qBs qNo qNt qRo qRt qSo qSp cI cJ nA nK nP nQ bX bY bZ bA bB bC bD bS sT nO nT rO rT sO sP o13 kQ)) hP hD [0, 1, 2, 3, 4, 5, 6, 7, 8, 9, 10, 11, 12, 13, 14, 15, 16, 17, 18, 19, 20, 21] [] rfl rfl (by decide) (by decide) hk1 hFc hP1 hD1
        have hP := hP.sub (ws' := (w_X qX qB qSt qN qR qS qTg qKp qKq qBx qBy qBz qBa qBb qBc qBd qBs qNo qNt qRo qRt qSo qSp cI cJ nA nK nP nQ bX bY bZ bA bB bC bD bS sT nO nT rO rT sO sP o13 kQ)) [0, 1, 2, 3, 4, 5, 6, 7, 8, 9, 10, 11, 12, 13, 14, 15, 16, 17, 18, 19, 20, 21] rfl
        have hD := hD.sub (ws' := (w_X qX qB qSt qN qR qS qTg qKp qKq qBx qBy qBz qBa qBb qBc qBd qBs qNo qNt qRo qRt qSo qSp cI cJ nA nK nP nQ bX bY bZ bA bB bC bD bS sT nO nT rO rT sO sP o13 kQ)) [0, 1, 2, 3, 4, 5, 6, 7, 8, 9, 10, 11, 12, 13, 14, 15, 16, 17, 18, 19, 20, 21] (by decide) rfl
        clear hPc hDc hFc hP1 hD1 hz1 hk1 ht9 hvm hfc
        generalize H1 = H at hP hS ⊢
        refine lv_iconst (v := (-1)) hx hb d_X_cycle_38 (by decide) ?_
        refine lv_icmp_eq (tgt := 44) hx hb d_X_cycle_39 (by decide) (fun c15 => ?_) (fun c15 => ?_)
        · have hf := oIf_t hf c15
          refine lv_iconst (v := 1) hx hb d_X_cycle_44 (by decide) ?_
          refine lv_istore (lv' := [(4, .int 1), (0, .ref qX), (1, .int x1), (2, .int x2), (3, .int x3)]) hx hb d_X_cycle_45 hl (by decide) rfl (fun ls hl => ?_)
          refine lv_aload_n hx hb d_X_cycle_47 rfl (lv_at hl 1 rfl) ?_
          refine va_get (D := (dC, dI)) (ci := 2) (v := .ref qTg) (C := R_X) (T := T_X) (N := 10) hx hb ht in_X hown hK hP 0 rfl rfl 6 (by decide) (ht _ m_106) (fun _ h9 => h9) rfl d_X_cycle_48 ?_
          refine lv_iload_n hx hb d_X_cycle_51 rfl (lv_at hl 4 rfl) ?_
          obtain ⟨hi16, hf⟩ := oIn_some hf
          refine va_iald hx hb hK hP 20 0 rfl rfl hi16 d_X_cycle_52 ?_
          refine lv_topi (fun v17 ev17 => ?_)
          have hf := oLet_some hf ev17
          refine lv_istore (lv' := [(5, .int v17), (4, .int 1), (0, .ref qX), (1, .int x1), (2, .int x2), (3, .int x3)]) hx hb d_X_cycle_53 hl (by decide) rfl (fun ls hl => ?_)
          exact ofX _ _ _ _ _ (K55 x3 o13 _ 1 v17 _ _ _ hf hP hD hS (lv_sub hl [2, 5, 1, 0] rfl))
        · have hf := oIf_f hf c15
          refine lv_iconst (v := 0) hx hb d_X_cycle_42 (by decide) ?_
          cases hf
          exact W.iret hx hb hr (fun t ht hW => ⟨⟨_, (), rfl, rfl, by rw [ht]; exact hP, hD⟩, hS.F ht⟩) hS.2.2 d_X_cycle_43
      · have hf := oIf_t hf c12
        refine lv_iconst (v := 0) hx hb d_X_cycle_30 (by decide) ?_
        cases hf
        exact W.iret hx hb hr (fun t ht hW => ⟨⟨_, (), rfl, rfl, by rw [ht]; exact hP, hD⟩, hS.F ht⟩) hS.2.2 d_X_cycle_31
set_option maxHeartbeats 4000000 in
set_option maxRecDepth 100000 in
theorem c_X_turn (l : Launch) (dC : Nat → ClassId) (dI : Nat → Nat → Nat) (qX qB qSt qN qR qS qTg qKp qKq qBx qBy qBz qBa qBb qBc qBd qBs qNo qNt qRo qRt qSo qSp : Nat) (cI cJ cQ : ClassId) (sz : Nat) (nA : Int32) (nK : Int32) (nP : Int32) (nQ : Int32) (bX : Nat → Int32) (bY : Nat → Int32) (bZ : Nat → Int32) (bA : Nat → Int32) (bB : Nat → Int32) (bC : Nat → Int32) (bD : Nat → Int32) (bS : Nat → Int64) (sT : Nat → Int32) (nO : Nat → Int32) (nT : Nat → Int32) (rO : Nat → Int32) (rT : Nat → Int32) (sO : Nat → Int32) (sP : Nat → Int32) (tG : Nat → Int32) (kQ : Nat → Int32) (x1 : Int32) (x2 : Int32) (x3 : Int32) (r_ : Int32) (o_nO : Nat → Int32) (o_nT : Nat → Int32) (o_sO : Nat → Int32) (o_sP : Nat → Int32) (o_tG : Nat → Int32) (hf : f_X_turn nA nP nQ bX bY bZ bS sT nO nT sO sP tG x1 x2 x3 = some (r_, o_nO, o_nT, o_sO, o_sP, o_tG)) : Met l y_X_turn w_X_turn ({ frames := 4, cells := 0, slots := 0, locals := 98 }) (va_Pc [.ref qX, .int x1, .int x2, .int x3] (fun U => U.heap.size = sz ∧ va_P (dC, dI) vwCl (w_X qX qB qSt qN qR qS qTg qKp qKq qBx qBy qBz qBa qBb qBc qBd qBs qNo qNt qRo qRt qSo qSp cI cJ nA nK nP nQ bX bY bZ bA bB bC bD bS sT nO nT rO rT sO sP tG kQ) U.heap ∧ va_K (dC, dI) vwCl [(cI, .int), (cJ, .long), (cQ, .object "CutBodies$Contents")] U ∧ nestZ U ∧ va_D (fun _ => True) (w_X qX qB qSt qN qR qS qTg qKp qKq qBx qBy qBz qBa qBb qBc qBd qBs qNo qNt qRo qRt qSo qSp cI cJ nA nK nP nQ bX bY bZ bA bB bC bD bS sT nO nT rO rT sO sP tG kQ))) (va_Qi (fun (r9 : Int32) (_ : Unit) => r9 = r_) (fun _ t => va_P (dC, dI) vwCl (w_X qX qB qSt qN qR qS qTg qKp qKq qBx qBy qBz qBa qBb qBc qBd qBs qNo qNt qRo qRt qSo qSp cI cJ nA nK nP nQ bX bY bZ bA bB bC bD bS sT o_nO o_nT rO rT o_sO o_sP o_tG kQ) t.heap ∧ va_D (va_A (w_X qX qB qSt qN qR qS qTg qKp qKq qBx qBy qBz qBa qBb qBc qBd qBs qNo qNt qRo qRt qSo qSp cI cJ nA nK nP nQ bX bY bZ bA bB bC bD bS sT nO nT rO rT sO sP tG kQ) sz) (w_X qX qB qSt qN qR qS qTg qKp qKq qBx qBy qBz qBa qBb qBc qBd qBs qNo qNt qRo qRt qSo qSp cI cJ nA nK nP nQ bX bY bZ bA bB bC bD bS sT o_nO o_nT rO rT o_sO o_sP o_tG kQ)) (va_A (w_X qX qB qSt qN qR qS qTg qKp qKq qBx qBy qBz qBa qBb qBc qBd qBs qNo qNt qRo qRt qSo qSp cI cJ nA nK nP nQ bX bY bZ bA bB bC bD bS sT nO nT rO rT sO sP tG kQ) sz)) 0 0 (va_A (w_X qX qB qSt qN qR qS qTg qKp qKq qBx qBy qBz qBa qBb qBc qBd qBs qNo qNt qRo qRt qSo qSp cI cJ nA nK nP nQ bX bY bZ bA bB bC bD bS sT nO nT rO rT sO sP tG kQ) sz) := by
  refine Met.ofW (cc := b_X_turn) (maxL := 6) (ret := (some .int)) (by decide) rfl ?_
  intro p e s m args below meth c s₁ B hml hv
  obtain ⟨rfl, hsz, hP, hK, hZ, hD0⟩ := hv
  have hx := B.exec
  have hb := B.bytes
  have hr := B.returns
  have hts := atoms_spec (ws := w_X_turn) B.pre
  have ht : ∀ w ∈ wAll, w.before _ s = true := fun w h => hts w (List.mem_cons_of_mem _ h)
  have hown : s.vm.findClass R_X = some m.cls := findClass_of_methodNamed B.named
  have hlocks := B.notSynchronized
  subst hsz
  have hD := hD0.self (sz := s.heap.size)
  generalize hAe : va_A (w_X qX qB qSt qN qR qS qTg qKp qKq qBx qBy qBz qBa qBb qBc qBd qBs qNo qNt qRo qRt qSo qSp cI cJ nA nK nP nQ bX bY bZ bA bB bC bD bS sT nO nT rO rT sO sP tG kQ) s.heap.size = A at hD ⊢
  have hA : ∀ q : Nat, s.heap.size ≤ q → A q := fun q h => by rw [← hAe]; exact Or.inr h
  have hS : va_S A s.heap s.heap [] := va_S.rf
  have hP : va_P (dC, dI) vwCl (w_X qX qB qSt qN qR qS qTg qKp qKq qBx qBy qBz qBa qBb qBc qBd qBs qNo qNt qRo qRt qSo qSp cI cJ nA nK nP nQ bX bY bZ bA bB bC bD bS sT nO nT rO rT sO sP tG kQ) s.heap := hP
  have hl := lv_entry ([.ref qX, .int x1, .int x2, .int x3]) (n := 6) (Nat.le_of_ble_eq_true rfl)
  rw [lg_entry_eq]
  generalize (lg_sl ([.ref qX, .int x1, .int x2, .int x3]) ++ List.replicate (6 - (lg_sl ([.ref qX, .int x1, .int x2, .int x3])).length) Slot.unset).toArray = ls at hl ⊢
  have hl : lv_has ls 6 [(0, .ref qX), (1, .int x1), (2, .int x2), (3, .int x3)] := hl
  refine w_abs (fun Wx toX ofX => ?_)
  have K54 : ∀ (x1 : Int32) (x3 : Int32) (tG : Nat → Int32) (n : Nat) (x5 : Int32) (nO : Nat → Int32) (nT : Nat → Int32) (sO : Nat → Int32) (sP : Nat → Int32) (H : Heap) (locs : List Loc) (ls : Array Slot), oLoop5 (f_X_turn_L54  nA nP nQ bX bY bZ bS sT x1 x3 tG) n x5 nO nT sO sP = some (r_, o_nO, o_nT, o_sO, o_sP, o_tG) → va_P (dC, dI) vwCl (w_X qX qB qSt qN qR qS qTg qKp qKq qBx qBy qBz qBa qBb qBc qBd qBs qNo qNt qRo qRt qSo qSp cI cJ nA nK nP nQ bX bY bZ bA bB bC bD bS sT nO nT rO rT sO sP tG kQ) H → va_D A (w_X qX qB qSt qN qR qS qTg qKp qKq qBx qBy qBz qBa qBb qBc qBd qBs qNo qNt qRo qRt qSo qSp cI cJ nA nK nP nQ bX bY bZ bA bB bC bD bS sT nO nT rO rT sO sP tG kQ) → va_S A s.heap H locs → lv_has ls 6 [(0, .ref qX), (1, .int x1), (3, .int x3), (5, .int x5)] → Wx H locs 0 0 (F0 m 54 ls []) := by
    intro x1 x3 tG n
    induction n with
    | zero => intro x5 nO nT sO sP H locs ls hf; exact (oLoop5_0 hf).elim
    | succ n ih54 =>
      obtain ⟨rec54, hrec54⟩ : ∃ z, z = oLoop5 (f_X_turn_L54  nA nP nQ bX bY bZ bS sT x1 x3 tG) n := ⟨_, rfl⟩
      rw [← hrec54] at ih54
      intro x5 nO nT sO sP H locs ls hf hP hD hS hl
      refine toX _ _ _ _ _ ?_
      have hf := oLoop5_s hf
      rw [← hrec54] at hf
      unfold f_X_turn_L54 at hf
      refine lv_iload hx hb d_X_turn_54 (lv_at hl 3 rfl) ?_
      refine lv_iload_n hx hb d_X_turn_56 rfl (lv_at hl 2 rfl) ?_
      refine lv_icmp_ge (tgt := 80) hx hb d_X_turn_57 (by decide) (fun c1 => ?_) (fun c1 => ?_)
      · have hf := oIf_t hf c1
        refine lv_iconst (v := 0) hx hb d_X_turn_80 (by decide) ?_
        cases hf
        exact W.iret hx hb hr (fun t ht hW => ⟨⟨_, (), rfl, rfl, by rw [ht]; exact hP, hD⟩, hS.F ht⟩) hS.2.2 d_X_turn_81
      · have hf := oIf_f hf c1
        refine lv_aload_n hx hb d_X_turn_60 rfl (lv_at hl 0 rfl) ?_
        refine lv_aload_n hx hb d_X_turn_61 rfl (lv_at hl 0 rfl) ?_
        refine va_get (D := (dC, dI)) (ci := 2) (v := .ref qN) (C := R_X) (T := T_X) (N := 10) hx hb ht in_X hown hK hP 0 rfl rfl 3 (by decide) (ht _ m_103) (fun _ h9 => h9) rfl d_X_turn_62 ?_
        refine lv_aload_n hx hb d_X_turn_65 rfl (lv_at hl 0 rfl) ?_
        refine va_get (D := (dC, dI)) (ci := 2) (v := .ref qSt) (C := R_X) (T := T_X) (N := 10) hx hb ht in_X hown hK hP 0 rfl rfl 1 (by decide) (ht _ m_101) (fun _ h9 => h9) rfl d_X_turn_66 ?_
        refine lv_iload_n hx hb d_X_turn_69 rfl (lv_at hl 1 rfl) ?_
        obtain ⟨hi2, hf⟩ := oIn_some hf
        refine va_iald hx hb hK hP 10 0 rfl rfl hi2 d_X_turn_70 ?_
        obtain ⟨o3, o4, o5, o6, hfc, hf⟩ := oCall4_some hf
        have hPc := hP.sub (ws' := (w_T qX qB qSt qN qR qS qTg qKp qKq qBx qBy qBz qBa qBb qBc qBd qBs qSo qSp qN qNo qNt cI nA nK nP nQ sO sP tG nO nT)) [0, 1, 17, 18, 19, 20, 11, 12, 13] rfl
        have hDc := hD.sub (ws' := (w_T qX qB qSt qN qR qS qTg qKp qKq qBx qBy qBz qBa qBb qBc qBd qBs qSo qSp qN qNo qNt cI nA nK nP nQ sO sP tG nO nT)) [0, 1, 17, 18, 19, 20, 11, 12, 13] (by decide) rfl
        have hFc := va_free (wc := (w_T qX qB qSt qN qR qS qTg qKp qKq qBx qBy qBz qBa qBb qBc qBd qBs qSo qSp qN qNo qNt cI nA nK nP nQ sO sP tG nO nT)) hD hS hA [0, 1, 17, 18, 19, 20, 11, 12, 13] rfl
        refine va_callv (va_runV (As := [.ref qN, .int (sT x1.toNatClampNeg)]) (rest := []) ⟨hx, hb, hml, hown, ht⟩ (c_X_turnByTargets l dC dI qX qB qSt qN qR qS qTg qKp qKq qBx qBy qBz qBa qBb qBc qBd qBs qSo qSp qN qNo qNt cI cJ cQ H.size nA nK nP nQ sO sP tG nO nT (sT x1.toNatClampNeg) o3 o4 o5 o6 hfc) (cwV 2 ht (gV m_266 m_268 m_3 m_28 m_269) rfl rfl rfl (by decide +kernel) ⟨Nat.le_of_ble_eq_true rfl, Nat.le_of_ble_eq_true rfl⟩) (preMV hPc hK hZ hDc (va_recv hK hPc (ci := 2) (q0 := 0) rfl rfl)) rfl rfl hl.1 rfl (lv_room (Nat.le_of_ble_eq_true rfl)) d_X_turn_71 ⟨Nat.le_of_ble_eq_true rfl, Nat.le_of_ble_eq_true rfl⟩) hS (fun q _ h => hFc q h) hFc (fun u t H1 locs ht9 hvm hw hB hz1 hk1 hS => ?_)
        obtain ⟨hP1, hD1⟩ := hB
        rw [ht9] at hP1
        obtain ⟨hP, hD⟩ := va_join (wr := [(qBx, .inl (cI, 60, .inl bX)), (qBy, .inl (cI, 60, .inl bY)), (qBz, .inl (cI, 60, .inl bZ)), (qBa, .inl (cI, 20, .inl bA)), (qBb, .inl (cI, 20, .inl bB)), (qBc, .inl (cI, 20, .inl bC)), (qBd, .inl (cI, 20, .inl bD)), (qBs, .inl (cJ, 60, .inr (.inl bS))), (qSt, .inl (cI, 13, .inl sT)), (qR, .inr (1, [.ref qRo, .ref qRt])), (qRo, .inl (cI, 60, .inl rO)), (qRt, .inl (cI, 60, .inl rT)), (qKq, .inl (cI, 10, .inl kQ))]) (w1 := (w_T qX qB qSt qN qR qS qTg qKp qKq qBx qBy qBz qBa qBb qBc qBd qBs qSo qSp qN qNo qNt cI nA nK nP nQ o3 o4 tG o5 o6)) hP hD [0, 1, 17, 18, 19, 20, 11, 12, 13] [2, 3, 4, 5, 6, 7, 8, 9, 10, 14, 15, 16, 21] rfl rfl (by decide) (by decide) hk1 hFc hP1 hD1
        have hP := hP.sub (ws' := (w_X qX qB qSt qN qR qS qTg qKp qKq qBx qBy qBz qBa qBb qBc qBd qBs qNo qNt qRo qRt qSo qSp cI cJ nA nK nP nQ bX bY bZ bA bB bC bD bS sT o5 o6 rO rT o3 o4 tG kQ)) [13, 14, 0, 1, 2, 3, 4, 5, 6, 7, 8, 19, 20, 21, 9, 10, 11, 15, 16, 17, 18, 12] rfl
        have hD := hD.sub (ws' := (w_X qX qB qSt qN qR qS qTg qKp qKq qBx qBy qBz qBa qBb qBc qBd qBs qNo qNt qRo qRt qSo qSp cI cJ nA nK nP nQ bX bY bZ bA bB bC bD bS sT o5 o6 rO rT o3 o4 tG kQ)) [13, 14, 0, 1, 2, 3, 4, 5, 6, 7, 8, 19, 20, 21, 9, 10, 11, 15, 16, 17, 18, 12] (by decide) rfl
        clear hPc hDc hFc hP1 hD1 hz1 hk1 ht9 hvm hfc
        generalize H1 = H at hP hS ⊢
        obtain ⟨v7, ev7, hf⟩ := oLet_ex hf
        refine lv_iinc (v := v7) (lv' := [(5, .int v7), (0, .ref qX), (1, .int x1), (3, .int x3)]) hx hb d_X_turn_74 hl (k := 3) rfl (by rw [ev7]; rfl) (by decide) rfl (fun ls hl => ?_)
        refine lv_goto (tgt := 54) hx hb d_X_turn_77 (by decide) ?_
        exact ofX _ _ _ _ _ (ih54 v7 o5 o6 o3 o4 _ _ _ hf hP hD hS (lv_sub hl [1, 2, 3, 0] rfl))
  refine toX _ _ _ _ _ ?_
  unfold f_X_turn at hf
  obtain ⟨H, hH⟩ : ∃ z, z = s.heap := ⟨_, rfl⟩
  have hS : va_S A s.heap H [] := by rw [hH]; exact hS
  have hP : va_P (dC, dI) vwCl (w_X qX qB qSt qN qR qS qTg qKp qKq qBx qBy qBz qBa qBb qBc qBd qBs qNo qNt qRo qRt qSo qSp cI cJ nA nK nP nQ bX bY bZ bA bB bC bD bS sT nO nT rO rT sO sP tG kQ) H := by rw [hH]; exact hP
  refine w_heap hH ?_
  refine lv_aload_n hx hb d_X_turn_0 rfl (lv_at hl 0 rfl) ?_
  refine lv_iload_n hx hb d_X_turn_1 rfl (lv_at hl 1 rfl) ?_
  obtain ⟨r8z, hfc, hf⟩ := oCall1_some hf
  have hPc := hP.sub (ws' := (w_X qX qB qSt qN qR qS qTg qKp qKq qBx qBy qBz qBa qBb qBc qBd qBs qNo qNt qRo qRt qSo qSp cI cJ nA nK nP nQ bX bY bZ bA bB bC bD bS sT nO nT rO rT sO sP tG kQ)) [0, 1, 2, 3, 4, 5, 6, 7, 8, 9, 10, 11, 12, 13, 14, 15, 16, 17, 18, 19, 20, 21] rfl
  refine vp_callSi (va_runV (As := [.int x1]) (rest := []) ⟨hx, hb, hml, hown, ht⟩ (c_X_hasAxis l dC dI qX qB qSt qN qR qS qTg qKp qKq qBx qBy qBz qBa qBb qBc qBd qBs qNo qNt qRo qRt qSo qSp cI cJ cQ nA nK nP nQ bX bY bZ bA bB bC bD bS sT nO nT rO rT sO sP tG kQ x1 r8z hfc) (cwV 1 ht (gV m_188 m_190 m_1 m_28 m_191) rfl rfl rfl (by decide +kernel) ⟨Nat.le_of_ble_eq_true rfl, Nat.le_of_ble_eq_true rfl⟩) (preRV hPc hK hZ (va_recv hK hPc (ci := 2) (q0 := 0) rfl rfl)) rfl rfl hl.1 rfl (lv_room (Nat.le_of_ble_eq_true rfl)) d_X_turn_2 ⟨Nat.le_of_ble_eq_true rfl, Nat.le_of_ble_eq_true rfl⟩).run (fun r8 hw => ?_)
  subst hw
  clear hPc hfc
  refine lv_if_eq (tgt := 30) hx hb d_X_turn_5 (by decide) (fun c9 => ?_) (fun c9 => ?_)
  · have hf := oIf_t hf c9
    refine lv_iconst (v := (-1)) hx hb d_X_turn_30 (by decide) ?_
    cases hf
    exact W.iret hx hb hr (fun t ht hW => ⟨⟨_, (), rfl, rfl, by rw [ht]; exact hP, hD⟩, hS.F ht⟩) hS.2.2 d_X_turn_31
  · have hf := oIf_f hf c9
    refine lv_aload_n hx hb d_X_turn_8 rfl (lv_at hl 0 rfl) ?_
    refine va_get (D := (dC, dI)) (ci := 2) (v := .ref qB) (C := R_X) (T := T_X) (N := 10) hx hb ht in_X hown hK hP 0 rfl rfl 0 (by decide) (ht _ m_100) (fun _ h9 => h9) rfl d_X_turn_9 ?_
    refine lv_iload_n hx hb d_X_turn_12 rfl (lv_at hl 2 rfl) ?_
    obtain ⟨r10z, hfc, hf⟩ := oCall1_some hf
    have hPc := hP.sub (ws' := (w_B qB qBx qBy qBz qBa qBb qBc qBd qBs cI cJ nP nQ bX bY bZ bA bB bC bD bS)) [1, 2, 3, 4, 5, 6, 7, 8, 9] rfl
    refine vp_callSi (va_runV (As := [.int x2]) (rest := []) ⟨hx, hb, hml, hown, ht⟩ (c_B_hasPlane l dC dI qB qBx qBy qBz qBa qBb qBc qBd qBs cI cJ cQ nP nQ bX bY bZ bA bB bC bD bS x2 r10z hfc) (cwV 1 ht (gV m_218 m_219 m_220 m_29 m_221) rfl rfl rfl (by decide +kernel) ⟨Nat.le_of_ble_eq_true rfl, Nat.le_of_ble_eq_true rfl⟩) (preRV hPc hK hZ (va_recv hK hPc (ci := 0) (q0 := 0) rfl rfl)) rfl rfl hl.1 rfl (lv_room (Nat.le_of_ble_eq_true rfl)) d_X_turn_13 ⟨Nat.le_of_ble_eq_true rfl, Nat.le_of_ble_eq_true rfl⟩).run (fun r10 hw => ?_)
    subst hw
    clear hPc hfc
    refine lv_if_eq (tgt := 30) hx hb d_X_turn_16 (by decide) (fun c11 => ?_) (fun c11 => ?_)
    · have hf := oIf_t hf c11
      refine lv_iconst (v := (-1)) hx hb d_X_turn_30 (by decide) ?_
      cases hf
      exact W.iret hx hb hr (fun t ht hW => ⟨⟨_, (), rfl, rfl, by rw [ht]; exact hP, hD⟩, hS.F ht⟩) hS.2.2 d_X_turn_31
    · have hf := oIf_f hf c11
      refine lv_iload_n hx hb d_X_turn_19 rfl (lv_at hl 3 rfl) ?_
      refine lv_iconst (v := 1) hx hb d_X_turn_20 (by decide) ?_
      refine lv_icmp_lt (tgt := 30) hx hb d_X_turn_21 (by decide) (fun c12 => ?_) (fun c12 => ?_)
      · have hf := oIf_t hf c12
        refine lv_iconst (v := (-1)) hx hb d_X_turn_30 (by decide) ?_
        cases hf
        exact W.iret hx hb hr (fun t ht hW => ⟨⟨_, (), rfl, rfl, by rw [ht]; exact hP, hD⟩, hS.F ht⟩) hS.2.2 d_X_turn_31
      · have hf := oIf_f hf c12
        refine lv_iload_n hx hb d_X_turn_24 rfl (lv_at hl 3 rfl) ?_
        refine lv_bipush (v := 12) hx hb d_X_turn_25 (by decide) ?_
        refine lv_icmp_le (tgt := 32) hx hb d_X_turn_27 (by decide) (fun c13 => ?_) (fun c13 => ?_)
        · have hf := oIf_t hf c13
          refine lv_aload_n hx hb d_X_turn_32 rfl (lv_at hl 0 rfl) ?_
          refine lv_iload_n hx hb d_X_turn_33 rfl (lv_at hl 1 rfl) ?_
          refine lv_iload_n hx hb d_X_turn_34 rfl (lv_at hl 2 rfl) ?_
          obtain ⟨r15z, o14, hfc, hf⟩ := oCall2_some hf
          have hPc := hP.sub (ws' := (w_X qX qB qSt qN qR qS qTg qKp qKq qBx qBy qBz qBa qBb qBc qBd qBs qNo qNt qRo qRt qSo qSp cI cJ nA nK nP nQ bX bY bZ bA bB bC bD bS sT nO nT rO rT sO sP tG kQ)) [0, 1, 2, 3, 4, 5, 6, 7, 8, 9, 10, 11, 12, 13, 14, 15, 16, 17, 18, 19, 20, 21] rfl
          have hDc := hD.sub (ws' := (w_X qX qB qSt qN qR qS qTg qKp qKq qBx qBy qBz qBa qBb qBc qBd qBs qNo qNt qRo qRt qSo qSp cI cJ nA nK nP nQ bX bY bZ bA bB bC bD bS sT nO nT rO rT sO sP tG kQ)) [0, 1, 2, 3, 4, 5, 6, 7, 8, 9, 10, 11, 12, 13, 14, 15, 16, 17, 18, 19, 20, 21] (by decide) rfl
          have hFc := va_free (wc := (w_X qX qB qSt qN qR qS qTg qKp qKq qBx qBy qBz qBa qBb qBc qBd qBs qNo qNt qRo qRt qSo qSp cI cJ nA nK nP nQ bX bY bZ bA bB bC bD bS sT nO nT rO rT sO sP tG kQ)) hD hS hA [0, 1, 2, 3, 4, 5, 6, 7, 8, 9, 10, 11, 12, 13, 14, 15, 16, 17, 18, 19, 20, 21] rfl
          refine va_calli (va_runV (As := [.int x1, .int x2]) (rest := []) ⟨hx, hb, hml, hown, ht⟩ (c_X_findTargets l dC dI qX qB qSt qN qR qS qTg qKp qKq qBx qBy qBz qBa qBb qBc qBd qBs qNo qNt qRo qRt qSo qSp cI cJ cQ H.size nA nK nP nQ bX bY bZ bA bB bC bD bS sT nO nT rO rT sO sP tG kQ x1 x2 r15z o14 hfc) (cwV 2 ht (gV m_262 m_264 m_2 m_28 m_265) rfl rfl rfl (by decide +kernel) ⟨Nat.le_of_ble_eq_true rfl, Nat.le_of_ble_eq_true rfl⟩) (preMV hPc hK hZ hDc (va_recv hK hPc (ci := 2) (q0 := 0) rfl rfl)) rfl rfl hl.1 rfl (lv_room (Nat.le_of_ble_eq_true rfl)) d_X_turn_35 ⟨Nat.le_of_ble_eq_true rfl, Nat.le_of_ble_eq_true rfl⟩) hS (fun q _ h => hFc q h) hFc (fun r15 u t H1 locs ht9 hvm hw hB hz1 hk1 hS => ?_)
          obtain ⟨hP1, hD1⟩ := hB
          rw [ht9] at hP1
          subst hw
          obtain ⟨hP, hD⟩ := va_join (wr := []) (w1 := (w_X qX qB qSt qN qR qS qTg qKp qKq qBx qBy qBz qBa qBb qBc qBd qBs qNo qNt qRo qRt qSo qSp cI cJ nA nK nP nQ bX bY bZ bA bB bC bD bS sT nO nT rO rT sO sP o14 kQ)) hP hD [0, 1, 2, 3, 4, 5, 6, 7, 8, 9, 10, 11, 12, 13, 14, 15, 16, 17, 18, 19, 20, 21] [] rfl rfl (by decide) (by decide) hk1 hFc hP1 hD1
          have hP := hP.sub (ws' := (w_X qX qB qSt qN qR qS qTg qKp qKq qBx qBy qBz qBa qBb qBc qBd qBs qNo qNt qRo qRt qSo qSp cI cJ nA nK nP nQ bX bY bZ bA bB bC bD bS sT nO nT rO rT sO sP o14 kQ)) [0, 1, 2, 3, 4, 5, 6, 7, 8, 9, 10, 11, 12, 13, 14, 15, 16, 17, 18, 19, 20, 21] rfl
          have hD := hD.sub (ws' := (w_X qX qB qSt qN qR qS qTg qKp qKq qBx qBy qBz qBa qBb qBc qBd qBs qNo qNt qRo qRt qSo qSp cI cJ nA nK nP nQ bX bY bZ bA bB bC bD bS sT nO nT rO rT sO sP o14 kQ)) [0, 1, 2, 3, 4, 5, 6, 7, 8, 9, 10, 11, 12, 13, 14, 15, 16, 17, 18, 19, 20, 21] (by decide) rfl
          clear hPc hDc hFc hP1 hD1 hz1 hk1 ht9 hvm hfc
          generalize H1 = H at hP hS ⊢
          refine lv_istore (lv' := [(4, .int r15), (0, .ref qX), (1, .int x1), (2, .int x2), (3, .int x3)]) hx hb d_X_turn_38 hl (by decide) rfl (fun ls hl => ?_)
          refine lv_iload hx hb d_X_turn_40 (lv_at hl 0 rfl) ?_
          refine lv_iconst (v := (-1)) hx hb d_X_turn_42 (by decide) ?_
          refine lv_icmp_eq (tgt := 51) hx hb d_X_turn_43 (by decide) (fun c16 => ?_) (fun c16 => ?_)
          · have hf := oIf_t hf c16
            refine lv_iconst (v := 0) hx hb d_X_turn_51 (by decide) ?_
            refine lv_istore (lv' := [(5, .int 0), (4, .int r15), (0, .ref qX), (1, .int x1), (2, .int x2), (3, .int x3)]) hx hb d_X_turn_52 hl (by decide) rfl (fun ls hl => ?_)
            exact ofX _ _ _ _ _ (K54 x1 x3 o14 _ 0 nO nT sO sP _ _ _ hf hP hD hS (lv_sub hl [2, 3, 5, 0] rfl))
          · have hf := oIf_f hf c16
            refine lv_iconst (v := 1) hx hb d_X_turn_46 (by decide) ?_
            refine lv_iload hx hb d_X_turn_47 (lv_at hl 0 rfl) ?_
            refine lv_iadd hx hb d_X_turn_49 ?_
            cases hf
            exact W.iret hx hb hr (fun t ht hW => ⟨⟨_, (), rfl, rfl, by rw [ht]; exact hP, hD⟩, hS.F ht⟩) hS.2.2 d_X_turn_50
        · have hf := oIf_f hf c13
          refine lv_iconst (v := (-1)) hx hb d_X_turn_30 (by decide) ?_
          cases hf
          exact W.iret hx hb hr (fun t ht hW => ⟨⟨_, (), rfl, rfl, by rw [ht]; exact hP, hD⟩, hS.F ht⟩) hS.2.2 d_X_turn_31
set_option maxHeartbeats 4000000 in
set_option maxRecDepth 100000 in
theorem c_X_rounds (l : Launch) (dC : Nat → ClassId) (dI : Nat → Nat → Nat) (qX qB qSt qN qR qS qTg qKp qKq qBx qBy qBz qBa qBb qBc qBd qBs qNo qNt qRo qRt qSo qSp : Nat) (cI cJ cQ : ClassId) (sz : Nat) (nA : Int32) (nK : Int32) (nP : Int32) (nQ : Int32) (bX : Nat → Int32) (bY : Nat → Int32) (bZ : Nat → Int32) (bA : Nat → Int32) (bB : Nat → Int32) (bC : Nat → Int32) (bD : Nat → Int32) (bS : Nat → Int64) (sT : Nat → Int32) (nO : Nat → Int32) (nT : Nat → Int32) (rO : Nat → Int32) (rT : Nat → Int32) (sO : Nat → Int32) (sP : Nat → Int32) (tG : Nat → Int32) (kQ : Nat → Int32) (x1 : Int32) (r_ : Int32) (o_rO : Nat → Int32) (o_rT : Nat → Int32) (o_sO : Nat → Int32) (o_sP : Nat → Int32) (o_tG : Nat → Int32) (hf : f_X_rounds nA nP nQ bX bY bZ bS sT rO rT sO sP tG x1 = some (r_, o_rO, o_rT, o_sO, o_sP, o_tG)) : Met l y_X_rounds w_X_rounds ({ frames := 6, cells := 0, slots := 0, locals := 137 }) (va_Pc [.ref qX, .int x1] (fun U => U.heap.size = sz ∧ va_P (dC, dI) vwCl (w_X qX qB qSt qN qR qS qTg qKp qKq qBx qBy qBz qBa qBb qBc qBd qBs qNo qNt qRo qRt qSo qSp cI cJ nA nK nP nQ bX bY bZ bA bB bC bD bS sT nO nT rO rT sO sP tG kQ) U.heap ∧ va_K (dC, dI) vwCl [(cI, .int), (cJ, .long), (cQ, .object "CutBodies$Contents")] U ∧ nestZ U ∧ va_D (fun _ => True) (w_X qX qB qSt qN qR qS qTg qKp qKq qBx qBy qBz qBa qBb qBc qBd qBs qNo qNt qRo qRt qSo qSp cI cJ nA nK nP nQ bX bY bZ bA bB bC bD bS sT nO nT rO rT sO sP tG kQ))) (va_Qi (fun (r9 : Int32) (_ : Unit) => r9 = r_) (fun _ t => va_P (dC, dI) vwCl (w_X qX qB qSt qN qR qS qTg qKp qKq qBx qBy qBz qBa qBb qBc qBd qBs qNo qNt qRo qRt qSo qSp cI cJ nA nK nP nQ bX bY bZ bA bB bC bD bS sT nO nT o_rO o_rT o_sO o_sP o_tG kQ) t.heap ∧ va_D (va_A (w_X qX qB qSt qN qR qS qTg qKp qKq qBx qBy qBz qBa qBb qBc qBd qBs qNo qNt qRo qRt qSo qSp cI cJ nA nK nP nQ bX bY bZ bA bB bC bD bS sT nO nT rO rT sO sP tG kQ) sz) (w_X qX qB qSt qN qR qS qTg qKp qKq qBx qBy qBz qBa qBb qBc qBd qBs qNo qNt qRo qRt qSo qSp cI cJ nA nK nP nQ bX bY bZ bA bB bC bD bS sT nO nT o_rO o_rT o_sO o_sP o_tG kQ)) (va_A (w_X qX qB qSt qN qR qS qTg qKp qKq qBx qBy qBz qBa qBb qBc qBd qBs qNo qNt qRo qRt qSo qSp cI cJ nA nK nP nQ bX bY bZ bA bB bC bD bS sT nO nT rO rT sO sP tG kQ) sz)) 0 0 (va_A (w_X qX qB qSt qN qR qS qTg qKp qKq qBx qBy qBz qBa qBb qBc qBd qBs qNo qNt qRo qRt qSo qSp cI cJ nA nK nP nQ bX bY bZ bA bB bC bD bS sT nO nT rO rT sO sP tG kQ) sz) := by
  refine Met.ofW (cc := b_X_rounds) (maxL := 3) (ret := (some .int)) (by decide) rfl ?_
  intro p e s m args below meth c s₁ B hml hv
  obtain ⟨rfl, hsz, hP, hK, hZ, hD0⟩ := hv
  have hx := B.exec
  have hb := B.bytes
  have hr := B.returns
  have hts := atoms_spec (ws := w_X_rounds) B.pre
  have ht : ∀ w ∈ wAll, w.before _ s = true := fun w h => hts w (List.mem_cons_of_mem _ h)
  have hown : s.vm.findClass R_X = some m.cls := findClass_of_methodNamed B.named
  have hlocks := B.notSynchronized
  subst hsz
  have hD := hD0.self (sz := s.heap.size)
  generalize hAe : va_A (w_X qX qB qSt qN qR qS qTg qKp qKq qBx qBy qBz qBa qBb qBc qBd qBs qNo qNt qRo qRt qSo qSp cI cJ nA nK nP nQ bX bY bZ bA bB bC bD bS sT nO nT rO rT sO sP tG kQ) s.heap.size = A at hD ⊢
  have hA : ∀ q : Nat, s.heap.size ≤ q → A q := fun q h => by rw [← hAe]; exact Or.inr h
  have hS : va_S A s.heap s.heap [] := va_S.rf
  have hP : va_P (dC, dI) vwCl (w_X qX qB qSt qN qR qS qTg qKp qKq qBx qBy qBz qBa qBb qBc qBd qBs qNo qNt qRo qRt qSo qSp cI cJ nA nK nP nQ bX bY bZ bA bB bC bD bS sT nO nT rO rT sO sP tG kQ) s.heap := hP
  have hl := lv_entry ([.ref qX, .int x1]) (n := 3) (Nat.le_of_ble_eq_true rfl)
  rw [lg_entry_eq]
  generalize (lg_sl ([.ref qX, .int x1]) ++ List.replicate (3 - (lg_sl ([.ref qX, .int x1])).length) Slot.unset).toArray = ls at hl ⊢
  have hl : lv_has ls 3 [(0, .ref qX), (1, .int x1)] := hl
  refine w_abs (fun Wx toX ofX => ?_)
  have K35 : ∀ (x1 : Int32) (n : Nat) (x2 : Int32) (rO : Nat → Int32) (rT : Nat → Int32) (sO : Nat → Int32) (sP : Nat → Int32) (tG : Nat → Int32) (H : Heap) (locs : List Loc) (ls : Array Slot), oLoop6 (f_X_rounds_L35  nA nP nQ bX bY bZ bS sT x1) n x2 rO rT sO sP tG = some (r_, o_rO, o_rT, o_sO, o_sP, o_tG) → va_P (dC, dI) vwCl (w_X qX qB qSt qN qR qS qTg qKp qKq qBx qBy qBz qBa qBb qBc qBd qBs qNo qNt qRo qRt qSo qSp cI cJ nA nK nP nQ bX bY bZ bA bB bC bD bS sT nO nT rO rT sO sP tG kQ) H → va_D A (w_X qX qB qSt qN qR qS qTg qKp qKq qBx qBy qBz qBa qBb qBc qBd qBs qNo qNt qRo qRt qSo qSp cI cJ nA nK nP nQ bX bY bZ bA bB bC bD bS sT nO nT rO rT sO sP tG kQ) → va_S A s.heap H locs → lv_has ls 3 [(0, .ref qX), (1, .int x1), (2, .int x2)] → Wx H locs 0 0 (F0 m 35 ls []) := by
    intro x1 n
    induction n with
    | zero => intro x2 rO rT sO sP tG H locs ls hf; exact (oLoop6_0 hf).elim
    | succ n ih35 =>
      obtain ⟨rec35, hrec35⟩ : ∃ z, z = oLoop6 (f_X_rounds_L35  nA nP nQ bX bY bZ bS sT x1) n := ⟨_, rfl⟩
      rw [← hrec35] at ih35
      intro x2 rO rT sO sP tG H locs ls hf hP hD hS hl
      refine toX _ _ _ _ _ ?_
      have hf := oLoop6_s hf
      rw [← hrec35] at hf
      unfold f_X_rounds_L35 at hf
      refine lv_iload_n hx hb d_X_rounds_35 rfl (lv_at hl 2 rfl) ?_
      refine lv_iload_n hx hb d_X_rounds_36 rfl (lv_at hl 1 rfl) ?_
      refine lv_icmp_ge (tgt := 72) hx hb d_X_rounds_37 (by decide) (fun c1 => ?_) (fun c1 => ?_)
      · have hf := oIf_t hf c1
        refine lv_aload_n hx hb d_X_rounds_72 rfl (lv_at hl 0 rfl) ?_
        obtain ⟨r2z, hfc, hf⟩ := oCall1_some hf
        have hPc := hP.sub (ws' := (w_X qX qB qSt qN qR qS qTg qKp qKq qBx qBy qBz qBa qBb qBc qBd qBs qNo qNt qRo qRt qSo qSp cI cJ nA nK nP nQ bX bY bZ bA bB bC bD bS sT nO nT rO rT sO sP tG kQ)) [0, 1, 2, 3, 4, 5, 6, 7, 8, 9, 10, 11, 12, 13, 14, 15, 16, 17, 18, 19, 20, 21] rfl
        refine vp_callSi (va_runV (As := []) (rest := []) ⟨hx, hb, hml, hown, ht⟩ (c_X_rowsUntilBack l dC dI qX qB qSt qN qR qS qTg qKp qKq qBx qBy qBz qBa qBb qBc qBd qBs qNo qNt qRo qRt qSo qSp cI cJ cQ nA nK nP nQ bX bY bZ bA bB bC bD bS sT nO nT rO rT sO sP tG kQ r2z hfc) (cwV 0 ht (gV m_319 m_321 m_6 m_28 m_322) rfl rfl rfl (by decide +kernel) ⟨Nat.le_of_ble_eq_true rfl, Nat.le_of_ble_eq_true rfl⟩) (preRV hPc hK hZ (va_recv hK hPc (ci := 2) (q0 := 0) rfl rfl)) rfl rfl hl.1 rfl (lv_room (Nat.le_of_ble_eq_true rfl)) d_X_rounds_73 ⟨Nat.le_of_ble_eq_true rfl, Nat.le_of_ble_eq_true rfl⟩).run (fun r2 hw => ?_)
        subst hw
        clear hPc hfc
        cases hf
        exact W.iret hx hb hr (fun t ht hW => ⟨⟨_, (), rfl, rfl, by rw [ht]; exact hP, hD⟩, hS.F ht⟩) hS.2.2 d_X_rounds_76
      · have hf := oIf_f hf c1
        refine lv_aload_n hx hb d_X_rounds_40 rfl (lv_at hl 0 rfl) ?_
        refine lv_iload_n hx hb d_X_rounds_41 rfl (lv_at hl 2 rfl) ?_
        refine lv_iload_n hx hb d_X_rounds_42 rfl (lv_at hl 2 rfl) ?_
        obtain ⟨r4z, o3, hfc, hf⟩ := oCall2_some hf
        have hPc := hP.sub (ws' := (w_X qX qB qSt qN qR qS qTg qKp qKq qBx qBy qBz qBa qBb qBc qBd qBs qNo qNt qRo qRt qSo qSp cI cJ nA nK nP nQ bX bY bZ bA bB bC bD bS sT nO nT rO rT sO sP tG kQ)) [0, 1, 2, 3, 4, 5, 6, 7, 8, 9, 10, 11, 12, 13, 14, 15, 16, 17, 18, 19, 20, 21] rfl
        have hDc := hD.sub (ws' := (w_X qX qB qSt qN qR qS qTg qKp qKq qBx qBy qBz qBa qBb qBc qBd qBs qNo qNt qRo qRt qSo qSp cI cJ nA nK nP nQ bX bY bZ bA bB bC bD bS sT nO nT rO rT sO sP tG kQ)) [0, 1, 2, 3, 4, 5, 6, 7, 8, 9, 10, 11, 12, 13, 14, 15, 16, 17, 18, 19, 20, 21] (by decide) rfl
        have hFc := va_free (wc := (w_X qX qB qSt qN qR qS qTg qKp qKq qBx qBy qBz qBa qBb qBc qBd qBs qNo qNt qRo qRt qSo qSp cI cJ nA nK nP nQ bX bY bZ bA bB bC bD bS sT nO nT rO rT sO sP tG kQ)) hD hS hA [0, 1, 2, 3, 4, 5, 6, 7, 8, 9, 10, 11, 12, 13, 14, 15, 16, 17, 18, 19, 20, 21] rfl
        refine va_calli (va_runV (As := [.int x2, .int x2]) (rest := []) ⟨hx, hb, hml, hown, ht⟩ (c_X_findTargets l dC dI qX qB qSt qN qR qS qTg qKp qKq qBx qBy qBz qBa qBb qBc qBd qBs qNo qNt qRo qRt qSo qSp cI cJ cQ H.size nA nK nP nQ bX bY bZ bA bB bC bD bS sT nO nT rO rT sO sP tG kQ x2 x2 r4z o3 hfc) (cwV 2 ht (gV m_262 m_264 m_2 m_28 m_265) rfl rfl rfl (by decide +kernel) ⟨Nat.le_of_ble_eq_true rfl, Nat.le_of_ble_eq_true rfl⟩) (preMV hPc hK hZ hDc (va_recv hK hPc (ci := 2) (q0 := 0) rfl rfl)) rfl rfl hl.1 rfl (lv_room (Nat.le_of_ble_eq_true rfl)) d_X_rounds_43 ⟨Nat.le_of_ble_eq_true rfl, Nat.le_of_ble_eq_true rfl⟩) hS (fun q _ h => hFc q h) hFc (fun r4 u t H1 locs ht9 hvm hw hB hz1 hk1 hS => ?_)
        obtain ⟨hP1, hD1⟩ := hB
        rw [ht9] at hP1
        subst hw
        obtain ⟨hP, hD⟩ := va_join (wr := []) (w1 := (w_X qX qB qSt qN qR qS qTg qKp qKq qBx qBy qBz qBa qBb qBc qBd qBs qNo qNt qRo qRt qSo qSp cI cJ nA nK nP nQ bX bY bZ bA bB bC bD bS sT nO nT rO rT sO sP o3 kQ)) hP hD [0, 1, 2, 3, 4, 5, 6, 7, 8, 9, 10, 11, 12, 13, 14, 15, 16, 17, 18, 19, 20, 21] [] rfl rfl (by decide) (by decide) hk1 hFc hP1 hD1
        have hP := hP.sub (ws' := (w_X qX qB qSt qN qR qS qTg qKp qKq qBx qBy qBz qBa qBb qBc qBd qBs qNo qNt qRo qRt qSo qSp cI cJ nA nK nP nQ bX bY bZ bA bB bC bD bS sT nO nT rO rT sO sP o3 kQ)) [0, 1, 2, 3, 4, 5, 6, 7, 8, 9, 10, 11, 12, 13, 14, 15, 16, 17, 18, 19, 20, 21] rfl
        have hD := hD.sub (ws' := (w_X qX qB qSt qN qR qS qTg qKp qKq qBx qBy qBz qBa qBb qBc qBd qBs qNo qNt qRo qRt qSo qSp cI cJ nA nK nP nQ bX bY bZ bA bB bC bD bS sT nO nT rO rT sO sP o3 kQ)) [0, 1, 2, 3, 4, 5, 6, 7, 8, 9, 10, 11, 12, 13, 14, 15, 16, 17, 18, 19, 20, 21] (by decide) rfl
        clear hPc hDc hFc hP1 hD1 hz1 hk1 ht9 hvm hfc
        generalize H1 = H at hP hS ⊢
        refine lv_iconst (v := (-1)) hx hb d_X_rounds_46 (by decide) ?_
        refine lv_icmp_eq (tgt := 52) hx hb d_X_rounds_47 (by decide) (fun c5 => ?_) (fun c5 => ?_)
        · have hf := oIf_t hf c5
          refine lv_aload_n hx hb d_X_rounds_52 rfl (lv_at hl 0 rfl) ?_
          refine lv_aload_n hx hb d_X_rounds_53 rfl (lv_at hl 0 rfl) ?_
          refine va_get (D := (dC, dI)) (ci := 2) (v := .ref qR) (C := R_X) (T := T_X) (N := 10) hx hb ht in_X hown hK hP 0 rfl rfl 4 (by decide) (ht _ m_104) (fun _ h9 => h9) rfl d_X_rounds_54 ?_
          refine lv_aload_n hx hb d_X_rounds_57 rfl (lv_at hl 0 rfl) ?_
          refine va_get (D := (dC, dI)) (ci := 2) (v := .ref qSt) (C := R_X) (T := T_X) (N := 10) hx hb ht in_X hown hK hP 0 rfl rfl 1 (by decide) (ht _ m_101) (fun _ h9 => h9) rfl d_X_rounds_58 ?_
          refine lv_iload_n hx hb d_X_rounds_61 rfl (lv_at hl 2 rfl) ?_
          obtain ⟨hi6, hf⟩ := oIn_some hf
          refine va_iald hx hb hK hP 10 0 rfl rfl hi6 d_X_rounds_62 ?_
          obtain ⟨o7, o8, o9, o10, hfc, hf⟩ := oCall4_some hf
          have hPc := hP.sub (ws' := (w_T qX qB qSt qN qR qS qTg qKp qKq qBx qBy qBz qBa qBb qBc qBd qBs qSo qSp qR qRo qRt cI nA nK nP nQ sO sP o3 rO rT)) [0, 1, 17, 18, 19, 20, 14, 15, 16] rfl
          have hDc := hD.sub (ws' := (w_T qX qB qSt qN qR qS qTg qKp qKq qBx qBy qBz qBa qBb qBc qBd qBs qSo qSp qR qRo qRt cI nA nK nP nQ sO sP o3 rO rT)) [0, 1, 17, 18, 19, 20, 14, 15, 16] (by decide) rfl
          have hFc := va_free (wc := (w_T qX qB qSt qN qR qS qTg qKp qKq qBx qBy qBz qBa qBb qBc qBd qBs qSo qSp qR qRo qRt cI nA nK nP nQ sO sP o3 rO rT)) hD hS hA [0, 1, 17, 18, 19, 20, 14, 15, 16] rfl
          refine va_callv (va_runV (As := [.ref qR, .int (sT x2.toNatClampNeg)]) (rest := []) ⟨hx, hb, hml, hown, ht⟩ (c_X_turnByTargets l dC dI qX qB qSt qN qR qS qTg qKp qKq qBx qBy qBz qBa qBb qBc qBd qBs qSo qSp qR qRo qRt cI cJ cQ H.size nA nK nP nQ sO sP o3 rO rT (sT x2.toNatClampNeg) o7 o8 o9 o10 hfc) (cwV 2 ht (gV m_266 m_268 m_3 m_28 m_269) rfl rfl rfl (by decide +kernel) ⟨Nat.le_of_ble_eq_true rfl, Nat.le_of_ble_eq_true rfl⟩) (preMV hPc hK hZ hDc (va_recv hK hPc (ci := 2) (q0 := 0) rfl rfl)) rfl rfl hl.1 rfl (lv_room (Nat.le_of_ble_eq_true rfl)) d_X_rounds_63 ⟨Nat.le_of_ble_eq_true rfl, Nat.le_of_ble_eq_true rfl⟩) hS (fun q _ h => hFc q h) hFc (fun u t H1 locs ht9 hvm hw hB hz1 hk1 hS => ?_)
          obtain ⟨hP1, hD1⟩ := hB
          rw [ht9] at hP1
          obtain ⟨hP, hD⟩ := va_join (wr := [(qBx, .inl (cI, 60, .inl bX)), (qBy, .inl (cI, 60, .inl bY)), (qBz, .inl (cI, 60, .inl bZ)), (qBa, .inl (cI, 20, .inl bA)), (qBb, .inl (cI, 20, .inl bB)), (qBc, .inl (cI, 20, .inl bC)), (qBd, .inl (cI, 20, .inl bD)), (qBs, .inl (cJ, 60, .inr (.inl bS))), (qSt, .inl (cI, 13, .inl sT)), (qN, .inr (1, [.ref qNo, .ref qNt])), (qNo, .inl (cI, 60, .inl nO)), (qNt, .inl (cI, 60, .inl nT)), (qKq, .inl (cI, 10, .inl kQ))]) (w1 := (w_T qX qB qSt qN qR qS qTg qKp qKq qBx qBy qBz qBa qBb qBc qBd qBs qSo qSp qR qRo qRt cI nA nK nP nQ o7 o8 o3 o9 o10)) hP hD [0, 1, 17, 18, 19, 20, 14, 15, 16] [2, 3, 4, 5, 6, 7, 8, 9, 10, 11, 12, 13, 21] rfl rfl (by decide) (by decide) hk1 hFc hP1 hD1
          have hP := hP.sub (ws' := (w_X qX qB qSt qN qR qS qTg qKp qKq qBx qBy qBz qBa qBb qBc qBd qBs qNo qNt qRo qRt qSo qSp cI cJ nA nK nP nQ bX bY bZ bA bB bC bD bS sT nO nT o9 o10 o7 o8 o3 kQ)) [13, 14, 0, 1, 2, 3, 4, 5, 6, 7, 8, 9, 10, 11, 19, 20, 21, 15, 16, 17, 18, 12] rfl
          have hD := hD.sub (ws' := (w_X qX qB qSt qN qR qS qTg qKp qKq qBx qBy qBz qBa qBb qBc qBd qBs qNo qNt qRo qRt qSo qSp cI cJ nA nK nP nQ bX bY bZ bA bB bC bD bS sT nO nT o9 o10 o7 o8 o3 kQ)) [13, 14, 0, 1, 2, 3, 4, 5, 6, 7, 8, 9, 10, 11, 19, 20, 21, 15, 16, 17, 18, 12] (by decide) rfl
          clear hPc hDc hFc hP1 hD1 hz1 hk1 ht9 hvm hfc
          generalize H1 = H at hP hS ⊢
          obtain ⟨v11, ev11, hf⟩ := oLet_ex hf
          refine lv_iinc (v := v11) (lv' := [(2, .int v11), (0, .ref qX), (1, .int x1)]) hx hb d_X_rounds_66 hl (k := 2) rfl (by rw [ev11]; rfl) (by decide) rfl (fun ls hl => ?_)
          refine lv_goto (tgt := 35) hx hb d_X_rounds_69 (by decide) ?_
          exact ofX _ _ _ _ _ (ih35 v11 o9 o10 o7 o8 o3 _ _ _ hf hP hD hS (lv_sub hl [1, 2, 0] rfl))
        · have hf := oIf_f hf c5
          refine lv_iconst (v := 0) hx hb d_X_rounds_50 (by decide) ?_
          cases hf
          exact W.iret hx hb hr (fun t ht hW => ⟨⟨_, (), rfl, rfl, by rw [ht]; exact hP, hD⟩, hS.F ht⟩) hS.2.2 d_X_rounds_51
  refine toX _ _ _ _ _ ?_
  unfold f_X_rounds at hf
  obtain ⟨H, hH⟩ : ∃ z, z = s.heap := ⟨_, rfl⟩
  have hS : va_S A s.heap H [] := by rw [hH]; exact hS
  have hP : va_P (dC, dI) vwCl (w_X qX qB qSt qN qR qS qTg qKp qKq qBx qBy qBz qBa qBb qBc qBd qBs qNo qNt qRo qRt qSo qSp cI cJ nA nK nP nQ bX bY bZ bA bB bC bD bS sT nO nT rO rT sO sP tG kQ) H := by rw [hH]; exact hP
  refine w_heap hH ?_
  refine lv_iload_n hx hb d_X_rounds_0 rfl (lv_at hl 1 rfl) ?_
  refine lv_iconst (v := 1) hx hb d_X_rounds_1 (by decide) ?_
  refine lv_icmp_lt (tgt := 24) hx hb d_X_rounds_2 (by decide) (fun c12 => ?_) (fun c12 => ?_)
  · have hf := oIf_t hf c12
    refine lv_iconst (v := 0) hx hb d_X_rounds_24 (by decide) ?_
    cases hf
    exact W.iret hx hb hr (fun t ht hW => ⟨⟨_, (), rfl, rfl, by rw [ht]; exact hP, hD⟩, hS.F ht⟩) hS.2.2 d_X_rounds_25
  · have hf := oIf_f hf c12
    refine lv_iload_n hx hb d_X_rounds_5 rfl (lv_at hl 1 rfl) ?_
    refine lv_aload_n hx hb d_X_rounds_6 rfl (lv_at hl 0 rfl) ?_
    refine va_get (D := (dC, dI)) (ci := 2) (v := .int nA) (C := R_X) (T := T_X) (N := 10) hx hb ht in_X hown hK hP 0 rfl rfl 2 (by decide) (ht _ m_102) (fun _ h9 => h9) rfl d_X_rounds_7 ?_
    refine lv_icmp_gt (tgt := 24) hx hb d_X_rounds_10 (by decide) (fun c13 => ?_) (fun c13 => ?_)
    · have hf := oIf_t hf c13
      refine lv_iconst (v := 0) hx hb d_X_rounds_24 (by decide) ?_
      cases hf
      exact W.iret hx hb hr (fun t ht hW => ⟨⟨_, (), rfl, rfl, by rw [ht]; exact hP, hD⟩, hS.F ht⟩) hS.2.2 d_X_rounds_25
    · have hf := oIf_f hf c13
      refine lv_iload_n hx hb d_X_rounds_13 rfl (lv_at hl 1 rfl) ?_
      refine lv_aload_n hx hb d_X_rounds_14 rfl (lv_at hl 0 rfl) ?_
      refine va_get (D := (dC, dI)) (ci := 2) (v := .ref qB) (C := R_X) (T := T_X) (N := 10) hx hb ht in_X hown hK hP 0 rfl rfl 0 (by decide) (ht _ m_100) (fun _ h9 => h9) rfl d_X_rounds_15 ?_
      refine va_getN (D := (dC, dI)) (ci := 0) (v := .int nQ) (C := R_B) (T := T_B) (N := 10) hx hb ht in_B hown hK hP 1 rfl rfl 8 (by decide) (nz hZ (List.mem_of_getElem? (i := 4) rfl)) (fun _ h9 => h9) rfl d_X_rounds_18 ?_
      refine lv_icmp_le (tgt := 26) hx hb d_X_rounds_21 (by decide) (fun c14 => ?_) (fun c14 => ?_)
      · have hf := oIf_t hf c14
        refine lv_aload_n hx hb d_X_rounds_26 rfl (lv_at hl 0 rfl) ?_
        refine va_get (D := (dC, dI)) (ci := 2) (v := .ref qR) (C := R_X) (T := T_X) (N := 10) hx hb ht in_X hown hK hP 0 rfl rfl 4 (by decide) (ht _ m_104) (fun _ h9 => h9) rfl d_X_rounds_27 ?_
        obtain ⟨o15, o16, hfc, hf⟩ := oCall2_some hf
        have hPc := hP.sub (ws' := (w_C qR qRo qRt cI rO rT)) [14, 15, 16] rfl
        have hDc := hD.sub (ws' := (w_C qR qRo qRt cI rO rT)) [14, 15, 16] (by decide) rfl
        have hFc := va_free (wc := (w_C qR qRo qRt cI rO rT)) hD hS hA [14, 15, 16] rfl
        refine va_callv (va_runV (As := []) (rest := []) ⟨hx, hb, hml, hown, ht⟩ (c_C_putAllHome l dC dI qR qRo qRt cI cJ cQ H.size rO rT o15 o16 hfc) (cwV 0 ht (gV m_151 m_152 m_153 m_30 m_154) rfl rfl rfl (by decide +kernel) ⟨Nat.le_of_ble_eq_true rfl, Nat.le_of_ble_eq_true rfl⟩) (preMV hPc hK hZ hDc (va_recv hK hPc (ci := 1) (q0 := 0) rfl rfl)) rfl rfl hl.1 rfl (lv_room (Nat.le_of_ble_eq_true rfl)) d_X_rounds_30 ⟨Nat.le_of_ble_eq_true rfl, Nat.le_of_ble_eq_true rfl⟩) hS (fun q _ h => hFc q h) hFc (fun u t H1 locs ht9 hvm hw hB hz1 hk1 hS => ?_)
        obtain ⟨hP1, hD1⟩ := hB
        rw [ht9] at hP1
        obtain ⟨hP, hD⟩ := va_join (wr := [(qX, .inr (2, [.ref qB, .ref qSt, .int nA, .ref qN, .ref qR, .ref qS, .ref qTg, .ref qKp, .ref qKq, .int nK])), (qB, .inr (0, [.ref qBx, .ref qBy, .ref qBz, .int nP, .ref qBa, .ref qBb, .ref qBc, .ref qBd, .int nQ, .ref qBs])), (qBx, .inl (cI, 60, .inl bX)), (qBy, .inl (cI, 60, .inl bY)), (qBz, .inl (cI, 60, .inl bZ)), (qBa, .inl (cI, 20, .inl bA)), (qBb, .inl (cI, 20, .inl bB)), (qBc, .inl (cI, 20, .inl bC)), (qBd, .inl (cI, 20, .inl bD)), (qBs, .inl (cJ, 60, .inr (.inl bS))), (qSt, .inl (cI, 13, .inl sT)), (qN, .inr (1, [.ref qNo, .ref qNt])), (qNo, .inl (cI, 60, .inl nO)), (qNt, .inl (cI, 60, .inl nT)), (qS, .inr (1, [.ref qSo, .ref qSp])), (qSo, .inl (cI, 60, .inl sO)), (qSp, .inl (cI, 60, .inl sP)), (qTg, .inl (cI, 60, .inl tG)), (qKq, .inl (cI, 10, .inl kQ))]) (w1 := (w_C qR qRo qRt cI o15 o16)) hP hD [14, 15, 16] [0, 1, 2, 3, 4, 5, 6, 7, 8, 9, 10, 11, 12, 13, 17, 18, 19, 20, 21] rfl rfl (by decide) (by decide) hk1 hFc hP1 hD1
        have hP := hP.sub (ws' := (w_X qX qB qSt qN qR qS qTg qKp qKq qBx qBy qBz qBa qBb qBc qBd qBs qNo qNt qRo qRt qSo qSp cI cJ nA nK nP nQ bX bY bZ bA bB bC bD bS sT nO nT o15 o16 sO sP tG kQ)) [0, 1, 2, 3, 4, 5, 6, 7, 8, 9, 10, 11, 12, 13, 19, 20, 21, 14, 15, 16, 17, 18] rfl
        have hD := hD.sub (ws' := (w_X qX qB qSt qN qR qS qTg qKp qKq qBx qBy qBz qBa qBb qBc qBd qBs qNo qNt qRo qRt qSo qSp cI cJ nA nK nP nQ bX bY bZ bA bB bC bD bS sT nO nT o15 o16 sO sP tG kQ)) [0, 1, 2, 3, 4, 5, 6, 7, 8, 9, 10, 11, 12, 13, 19, 20, 21, 14, 15, 16, 17, 18] (by decide) rfl
        clear hPc hDc hFc hP1 hD1 hz1 hk1 ht9 hvm hfc
        generalize H1 = H at hP hS ⊢
        refine lv_iconst (v := 0) hx hb d_X_rounds_33 (by decide) ?_
        refine lv_istore_n (lv' := [(2, .int 0), (0, .ref qX), (1, .int x1)]) hx hb d_X_rounds_34 rfl hl (by decide) rfl (fun ls hl => ?_)
        exact ofX _ _ _ _ _ (K35 x1 _ 0 o15 o16 sO sP tG _ _ _ hf hP hD hS (lv_sub hl [1, 2, 0] rfl))
      · have hf := oIf_f hf c14
        refine lv_iconst (v := 0) hx hb d_X_rounds_24 (by decide) ?_
        cases hf
        exact W.iret hx hb hr (fun t ht hW => ⟨⟨_, (), rfl, rfl, by rw [ht]; exact hP, hD⟩, hS.F ht⟩) hS.2.2 d_X_rounds_25
set_option maxHeartbeats 4000000 in
set_option maxRecDepth 100000 in
theorem c_X_cube (l : Launch) (dC : Nat → ClassId) (dI : Nat → Nat → Nat) (qX qB qSt qN qR qS qTg qKp qKq qBx qBy qBz qBa qBb qBc qBd qBs qNo qNt qRo qRt qSo qSp : Nat) (cI cJ cQ : ClassId) (sz : Nat) (nA : Int32) (nK : Int32) (nP : Int32) (nQ : Int32) (bX : Nat → Int32) (bY : Nat → Int32) (bZ : Nat → Int32) (bA : Nat → Int32) (bB : Nat → Int32) (bC : Nat → Int32) (bD : Nat → Int32) (bS : Nat → Int64) (sT : Nat → Int32) (nO : Nat → Int32) (nT : Nat → Int32) (rO : Nat → Int32) (rT : Nat → Int32) (sO : Nat → Int32) (sP : Nat → Int32) (tG : Nat → Int32) (kQ : Nat → Int32) (x1 : Int32) (r_ : Int32) (o_nP : Int32) (o_bX : Nat → Int32) (o_bY : Nat → Int32) (o_bZ : Nat → Int32) (o_bS : Nat → Int64) (o_nO : Nat → Int32) (o_nT : Nat → Int32) (hf : f_X_cube nP nQ bX bY bZ bA bB bC bD bS nO nT x1 = some (r_, o_nP, o_bX, o_bY, o_bZ, o_bS, o_nO, o_nT)) : Met l y_X_cube w_X_cube ({ frames := 2, cells := 0, slots := 0, locals := 50 }) (va_Pc [.ref qX, .int x1] (fun U => U.heap.size = sz ∧ va_P (dC, dI) vwCl (w_X qX qB qSt qN qR qS qTg qKp qKq qBx qBy qBz qBa qBb qBc qBd qBs qNo qNt qRo qRt qSo qSp cI cJ nA nK nP nQ bX bY bZ bA bB bC bD bS sT nO nT rO rT sO sP tG kQ) U.heap ∧ va_K (dC, dI) vwCl [(cI, .int), (cJ, .long), (cQ, .object "CutBodies$Contents")] U ∧ nestZ U ∧ va_D (fun _ => True) (w_X qX qB qSt qN qR qS qTg qKp qKq qBx qBy qBz qBa qBb qBc qBd qBs qNo qNt qRo qRt qSo qSp cI cJ nA nK nP nQ bX bY bZ bA bB bC bD bS sT nO nT rO rT sO sP tG kQ))) (va_Qi (fun (r9 : Int32) (_ : Unit) => r9 = r_) (fun _ t => va_P (dC, dI) vwCl (w_X qX qB qSt qN qR qS qTg qKp qKq qBx qBy qBz qBa qBb qBc qBd qBs qNo qNt qRo qRt qSo qSp cI cJ nA nK o_nP nQ o_bX o_bY o_bZ bA bB bC bD o_bS sT o_nO o_nT rO rT sO sP tG kQ) t.heap ∧ va_D (va_A (w_X qX qB qSt qN qR qS qTg qKp qKq qBx qBy qBz qBa qBb qBc qBd qBs qNo qNt qRo qRt qSo qSp cI cJ nA nK nP nQ bX bY bZ bA bB bC bD bS sT nO nT rO rT sO sP tG kQ) sz) (w_X qX qB qSt qN qR qS qTg qKp qKq qBx qBy qBz qBa qBb qBc qBd qBs qNo qNt qRo qRt qSo qSp cI cJ nA nK o_nP nQ o_bX o_bY o_bZ bA bB bC bD o_bS sT o_nO o_nT rO rT sO sP tG kQ)) (va_A (w_X qX qB qSt qN qR qS qTg qKp qKq qBx qBy qBz qBa qBb qBc qBd qBs qNo qNt qRo qRt qSo qSp cI cJ nA nK nP nQ bX bY bZ bA bB bC bD bS sT nO nT rO rT sO sP tG kQ) sz)) 0 0 (va_A (w_X qX qB qSt qN qR qS qTg qKp qKq qBx qBy qBz qBa qBb qBc qBd qBs qNo qNt qRo qRt qSo qSp cI cJ nA nK nP nQ bX bY bZ bA bB bC bD bS sT nO nT rO rT sO sP tG kQ) sz) := by
  refine Met.ofW (cc := b_X_cube) (maxL := 6) (ret := (some .int)) (by decide) rfl ?_
  intro p e s m args below meth c s₁ B hml hv
  obtain ⟨rfl, hsz, hP, hK, hZ, hD0⟩ := hv
  have hx := B.exec
  have hb := B.bytes
  have hr := B.returns
  have hts := atoms_spec (ws := w_X_cube) B.pre
  have ht : ∀ w ∈ wAll, w.before _ s = true := fun w h => hts w (List.mem_cons_of_mem _ h)
  have hown : s.vm.findClass R_X = some m.cls := findClass_of_methodNamed B.named
  have hlocks := B.notSynchronized
  subst hsz
  have hD := hD0.self (sz := s.heap.size)
  generalize hAe : va_A (w_X qX qB qSt qN qR qS qTg qKp qKq qBx qBy qBz qBa qBb qBc qBd qBs qNo qNt qRo qRt qSo qSp cI cJ nA nK nP nQ bX bY bZ bA bB bC bD bS sT nO nT rO rT sO sP tG kQ) s.heap.size = A at hD ⊢
  have hA : ∀ q : Nat, s.heap.size ≤ q → A q := fun q h => by rw [← hAe]; exact Or.inr h
  have hS : va_S A s.heap s.heap [] := va_S.rf
  have hP : va_P (dC, dI) vwCl (w_X qX qB qSt qN qR qS qTg qKp qKq qBx qBy qBz qBa qBb qBc qBd qBs qNo qNt qRo qRt qSo qSp cI cJ nA nK nP nQ bX bY bZ bA bB bC bD bS sT nO nT rO rT sO sP tG kQ) s.heap := hP
  have hl := lv_entry ([.ref qX, .int x1]) (n := 6) (Nat.le_of_ble_eq_true rfl)
  rw [lg_entry_eq]
  generalize (lg_sl ([.ref qX, .int x1]) ++ List.replicate (6 - (lg_sl ([.ref qX, .int x1])).length) Slot.unset).toArray = ls at hl ⊢
  have hl : lv_has ls 6 [(0, .ref qX), (1, .int x1)] := hl
  refine w_abs (fun Wx toX ofX => ?_)
  have K16 : ∀ (x1 : Int32) (nO : Nat → Int32) (nT : Nat → Int32) (n : Nat) (x2 : Int32) (x3 : Int32) (nP : Int32) (bX : Nat → Int32) (bY : Nat → Int32) (bZ : Nat → Int32) (bS : Nat → Int64) (H : Heap) (locs : List Loc) (ls : Array Slot), oLoop7 (f_X_cube_L16  nQ bA bB bC bD x1 nO nT) n x2 x3 nP bX bY bZ bS = some (r_, o_nP, o_bX, o_bY, o_bZ, o_bS, o_nO, o_nT) → va_P (dC, dI) vwCl (w_X qX qB qSt qN qR qS qTg qKp qKq qBx qBy qBz qBa qBb qBc qBd qBs qNo qNt qRo qRt qSo qSp cI cJ nA nK nP nQ bX bY bZ bA bB bC bD bS sT nO nT rO rT sO sP tG kQ) H → va_D A (w_X qX qB qSt qN qR qS qTg qKp qKq qBx qBy qBz qBa qBb qBc qBd qBs qNo qNt qRo qRt qSo qSp cI cJ nA nK nP nQ bX bY bZ bA bB bC bD bS sT nO nT rO rT sO sP tG kQ) → va_S A s.heap H locs → lv_has ls 6 [(0, .ref qX), (1, .int x1), (2, .int x2), (3, .int x3)] → Wx H locs 0 0 (F0 m 16 ls []) := by
    intro x1 nO nT n
    induction n with
    | zero => intro x2 x3 nP bX bY bZ bS H locs ls hf; exact (oLoop7_0 hf).elim
    | succ n ih16 =>
      obtain ⟨rec16, hrec16⟩ : ∃ z, z = oLoop7 (f_X_cube_L16  nQ bA bB bC bD x1 nO nT) n := ⟨_, rfl⟩
      rw [← hrec16] at ih16
      have K25 : ∀ (x3 : Int32) (n : Nat) (x2 : Int32) (x4 : Int32) (nP : Int32) (bX : Nat → Int32) (bY : Nat → Int32) (bZ : Nat → Int32) (bS : Nat → Int64) (H : Heap) (locs : List Loc) (ls : Array Slot), oLoop7 (f_X_cube_L25 rec16 nQ bA bB bC bD x1 nO nT x3) n x2 x4 nP bX bY bZ bS = some (r_, o_nP, o_bX, o_bY, o_bZ, o_bS, o_nO, o_nT) → va_P (dC, dI) vwCl (w_X qX qB qSt qN qR qS qTg qKp qKq qBx qBy qBz qBa qBb qBc qBd qBs qNo qNt qRo qRt qSo qSp cI cJ nA nK nP nQ bX bY bZ bA bB bC bD bS sT nO nT rO rT sO sP tG kQ) H → va_D A (w_X qX qB qSt qN qR qS qTg qKp qKq qBx qBy qBz qBa qBb qBc qBd qBs qNo qNt qRo qRt qSo qSp cI cJ nA nK nP nQ bX bY bZ bA bB bC bD bS sT nO nT rO rT sO sP tG kQ) → va_S A s.heap H locs → lv_has ls 6 [(0, .ref qX), (1, .int x1), (2, .int x2), (3, .int x3), (4, .int x4)] → Wx H locs 0 0 (F0 m 25 ls []) := by
        intro x3 n
        induction n with
        | zero => intro x2 x4 nP bX bY bZ bS H locs ls hf; exact (oLoop7_0 hf).elim
        | succ n ih25 =>
          obtain ⟨rec25, hrec25⟩ : ∃ z, z = oLoop7 (f_X_cube_L25 rec16 nQ bA bB bC bD x1 nO nT x3) n := ⟨_, rfl⟩
          rw [← hrec25] at ih25
          have K35 : ∀ (x4 : Int32) (n : Nat) (x2 : Int32) (x5 : Int32) (nP : Int32) (bX : Nat → Int32) (bY : Nat → Int32) (bZ : Nat → Int32) (bS : Nat → Int64) (H : Heap) (locs : List Loc) (ls : Array Slot), oLoop7 (f_X_cube_L35 rec16 rec25 nQ bA bB bC bD x1 x3 nO nT x4) n x2 x5 nP bX bY bZ bS = some (r_, o_nP, o_bX, o_bY, o_bZ, o_bS, o_nO, o_nT) → va_P (dC, dI) vwCl (w_X qX qB qSt qN qR qS qTg qKp qKq qBx qBy qBz qBa qBb qBc qBd qBs qNo qNt qRo qRt qSo qSp cI cJ nA nK nP nQ bX bY bZ bA bB bC bD bS sT nO nT rO rT sO sP tG kQ) H → va_D A (w_X qX qB qSt qN qR qS qTg qKp qKq qBx qBy qBz qBa qBb qBc qBd qBs qNo qNt qRo qRt qSo qSp cI cJ nA nK nP nQ bX bY bZ bA bB bC bD bS sT nO nT rO rT sO sP tG kQ) → va_S A s.heap H locs → lv_has ls 6 [(0, .ref qX), (1, .int x1), (2, .int x2), (3, .int x3), (4, .int x4), (5, .int x5)] → Wx H locs 0 0 (F0 m 35 ls []) := by
            intro x4 n
            induction n with
            | zero => intro x2 x5 nP bX bY bZ bS H locs ls hf; exact (oLoop7_0 hf).elim
            | succ n ih35 =>
              obtain ⟨rec35, hrec35⟩ : ∃ z, z = oLoop7 (f_X_cube_L35 rec16 rec25 nQ bA bB bC bD x1 x3 nO nT x4) n := ⟨_, rfl⟩
              rw [← hrec35] at ih35
              have K60 : ∀ (x2 : Int32) (x5 : Int32) (nP : Int32) (bX : Nat → Int32) (bY : Nat → Int32) (bZ : Nat → Int32) (bS : Nat → Int64) (H : Heap) (locs : List Loc) (ls : Array Slot), f_X_cube_J60 rec16 rec25 rec35 nQ bA bB bC bD x1 x3 x4 nO nT x2 x5 nP bX bY bZ bS = some (r_, o_nP, o_bX, o_bY, o_bZ, o_bS, o_nO, o_nT) → va_P (dC, dI) vwCl (w_X qX qB qSt qN qR qS qTg qKp qKq qBx qBy qBz qBa qBb qBc qBd qBs qNo qNt qRo qRt qSo qSp cI cJ nA nK nP nQ bX bY bZ bA bB bC bD bS sT nO nT rO rT sO sP tG kQ) H → va_D A (w_X qX qB qSt qN qR qS qTg qKp qKq qBx qBy qBz qBa qBb qBc qBd qBs qNo qNt qRo qRt qSo qSp cI cJ nA nK nP nQ bX bY bZ bA bB bC bD bS sT nO nT rO rT sO sP tG kQ) → va_S A s.heap H locs → lv_has ls 6 [(0, .ref qX), (1, .int x1), (2, .int x2), (3, .int x3), (4, .int x4), (5, .int x5)] → Wx H locs 0 0 (F0 m 60 ls []) := by
                intro x2 x5 nP bX bY bZ bS H locs ls hf hP hD hS hl
                refine toX _ _ _ _ _ ?_
                unfold f_X_cube_J60 at hf
                obtain ⟨v1, ev1, hf⟩ := oLet_ex hf
                refine lv_iinc (v := v1) (lv' := [(5, .int v1), (0, .ref qX), (1, .int x1), (2, .int x2), (3, .int x3), (4, .int x4)]) hx hb d_X_cube_60 hl (k := 5) rfl (by rw [ev1]; rfl) (by decide) rfl (fun ls hl => ?_)
                refine lv_goto (tgt := 35) hx hb d_X_cube_63 (by decide) ?_
                exact ofX _ _ _ _ _ (ih35 x2 v1 nP bX bY bZ bS _ _ _ hf hP hD hS (lv_sub hl [1, 2, 3, 4, 5, 0] rfl))
              intro x2 x5 nP bX bY bZ bS H locs ls hf hP hD hS hl
              refine toX _ _ _ _ _ ?_
              have hf := oLoop7_s hf
              rw [← hrec35] at hf
              unfold f_X_cube_L35 at hf
              refine lv_iload hx hb d_X_cube_35 (lv_at hl 5 rfl) ?_
              refine lv_iload_n hx hb d_X_cube_37 rfl (lv_at hl 1 rfl) ?_
              refine lv_icmp_gt (tgt := 66) hx hb d_X_cube_38 (by decide) (fun c2 => ?_) (fun c2 => ?_)
              · have hf := oIf_t hf c2
                obtain ⟨v3, ev3, hf⟩ := oLet_ex hf
                refine lv_iinc (v := v3) (lv' := [(4, .int v3), (0, .ref qX), (1, .int x1), (2, .int x2), (3, .int x3), (5, .int x5)]) hx hb d_X_cube_66 hl (k := 4) rfl (by rw [ev3]; rfl) (by decide) rfl (fun ls hl => ?_)
                refine lv_goto (tgt := 25) hx hb d_X_cube_69 (by decide) ?_
                exact ofX _ _ _ _ _ (ih25 x2 v3 nP bX bY bZ bS _ _ _ hf hP hD hS (lv_sub hl [1, 2, 3, 4, 0] rfl))
              · have hf := oIf_f hf c2
                refine lv_aload_n hx hb d_X_cube_41 rfl (lv_at hl 0 rfl) ?_
                refine va_get (D := (dC, dI)) (ci := 2) (v := .ref qB) (C := R_X) (T := T_X) (N := 10) hx hb ht in_X hown hK hP 0 rfl rfl 0 (by decide) (ht _ m_100) (fun _ h9 => h9) rfl d_X_cube_42 ?_
                refine lv_iload_n hx hb d_X_cube_45 rfl (lv_at hl 3 rfl) ?_
                refine lv_iload hx hb d_X_cube_46 (lv_at hl 4 rfl) ?_
                refine lv_iload hx hb d_X_cube_48 (lv_at hl 5 rfl) ?_
                obtain ⟨r9z, o4, o5, o6, o7, o8, hfc, hf⟩ := oCall6_some hf
                have hPc := hP.sub (ws' := (w_B qB qBx qBy qBz qBa qBb qBc qBd qBs cI cJ nP nQ bX bY bZ bA bB bC bD bS)) [1, 2, 3, 4, 5, 6, 7, 8, 9] rfl
                have hDc := hD.sub (ws' := (w_B qB qBx qBy qBz qBa qBb qBc qBd qBs cI cJ nP nQ bX bY bZ bA bB bC bD bS)) [1, 2, 3, 4, 5, 6, 7, 8, 9] (by decide) rfl
                have hFc := va_free (wc := (w_B qB qBx qBy qBz qBa qBb qBc qBd qBs cI cJ nP nQ bX bY bZ bA bB bC bD bS)) hD hS hA [1, 2, 3, 4, 5, 6, 7, 8, 9] rfl
                refine va_calli (va_runV (As := [.int x3, .int x4, .int x5]) (rest := []) ⟨hx, hb, hml, hown, ht⟩ (c_B_addPoint l dC dI qB qBx qBy qBz qBa qBb qBc qBd qBs cI cJ cQ H.size nP nQ bX bY bZ bA bB bC bD bS x3 x4 x5 r9z o4 o5 o6 o7 o8 hfc) (cwV 3 ht (gV m_135 m_136 m_137 m_29 m_138) rfl rfl rfl (by decide +kernel) ⟨Nat.le_of_ble_eq_true rfl, Nat.le_of_ble_eq_true rfl⟩) (preMV hPc hK hZ hDc (va_recv hK hPc (ci := 0) (q0 := 0) rfl rfl)) rfl rfl hl.1 rfl (lv_room (Nat.le_of_ble_eq_true rfl)) d_X_cube_50 ⟨Nat.le_of_ble_eq_true rfl, Nat.le_of_ble_eq_true rfl⟩) hS (fun q _ h => hFc q h) hFc (fun r9 u t H1 locs ht9 hvm hw hB hz1 hk1 hS => ?_)
                obtain ⟨hP1, hD1⟩ := hB
                rw [ht9] at hP1
                subst hw
                obtain ⟨hP, hD⟩ := va_join (wr := [(qX, .inr (2, [.ref qB, .ref qSt, .int nA, .ref qN, .ref qR, .ref qS, .ref qTg, .ref qKp, .ref qKq, .int nK])), (qSt, .inl (cI, 13, .inl sT)), (qN, .inr (1, [.ref qNo, .ref qNt])), (qNo, .inl (cI, 60, .inl nO)), (qNt, .inl (cI, 60, .inl nT)), (qR, .inr (1, [.ref qRo, .ref qRt])), (qRo, .inl (cI, 60, .inl rO)), (qRt, .inl (cI, 60, .inl rT)), (qS, .inr (1, [.ref qSo, .ref qSp])), (qSo, .inl (cI, 60, .inl sO)), (qSp, .inl (cI, 60, .inl sP)), (qTg, .inl (cI, 60, .inl tG)), (qKq, .inl (cI, 10, .inl kQ))]) (w1 := (w_B qB qBx qBy qBz qBa qBb qBc qBd qBs cI cJ o4 nQ o5 o6 o7 bA bB bC bD o8)) hP hD [1, 2, 3, 4, 5, 6, 7, 8, 9] [0, 10, 11, 12, 13, 14, 15, 16, 17, 18, 19, 20, 21] rfl rfl (by decide) (by decide) hk1 hFc hP1 hD1
                have hP := hP.sub (ws' := (w_X qX qB qSt qN qR qS qTg qKp qKq qBx qBy qBz qBa qBb qBc qBd qBs qNo qNt qRo qRt qSo qSp cI cJ nA nK o4 nQ o5 o6 o7 bA bB bC bD o8 sT nO nT rO rT sO sP tG kQ)) [0, 13, 14, 15, 16, 17, 18, 19, 20, 21, 1, 2, 3, 4, 5, 6, 7, 8, 9, 10, 11, 12] rfl
                have hD := hD.sub (ws' := (w_X qX qB qSt qN qR qS qTg qKp qKq qBx qBy qBz qBa qBb qBc qBd qBs qNo qNt qRo qRt qSo qSp cI cJ nA nK o4 nQ o5 o6 o7 bA bB bC bD o8 sT nO nT rO rT sO sP tG kQ)) [0, 13, 14, 15, 16, 17, 18, 19, 20, 21, 1, 2, 3, 4, 5, 6, 7, 8, 9, 10, 11, 12] (by decide) rfl
                clear hPc hDc hFc hP1 hD1 hz1 hk1 ht9 hvm hfc
                generalize H1 = H at hP hS ⊢
                refine lv_iconst (v := (-1)) hx hb d_X_cube_53 (by decide) ?_
                refine lv_icmp_eq (tgt := 60) hx hb d_X_cube_54 (by decide) (fun c10 => ?_) (fun c10 => ?_)
                · have hf := oIf_t hf c10
                  exact ofX _ _ _ _ _ (K60  x2 x5 o4 o5 o6 o7 o8 _ _ _ hf hP hD hS (lv_sub hl [0, 1, 2, 3, 4, 5] rfl))
                · have hf := oIf_f hf c10
                  obtain ⟨v11, ev11, hf⟩ := oLet_ex hf
                  refine lv_iinc (v := v11) (lv' := [(2, .int v11), (0, .ref qX), (1, .int x1), (3, .int x3), (4, .int x4), (5, .int x5)]) hx hb d_X_cube_57 hl (k := 2) rfl (by rw [ev11]; rfl) (by decide) rfl (fun ls hl => ?_)
                  exact ofX _ _ _ _ _ (K60  v11 x5 o4 o5 o6 o7 o8 _ _ _ hf hP hD hS (lv_sub hl [1, 2, 0, 3, 4, 5] rfl))
          intro x2 x4 nP bX bY bZ bS H locs ls hf hP hD hS hl
          refine toX _ _ _ _ _ ?_
          have hf := oLoop7_s hf
          rw [← hrec25] at hf
          unfold f_X_cube_L25 at hf
          refine lv_iload hx hb d_X_cube_25 (lv_at hl 4 rfl) ?_
          refine lv_iload_n hx hb d_X_cube_27 rfl (lv_at hl 1 rfl) ?_
          refine lv_icmp_gt (tgt := 72) hx hb d_X_cube_28 (by decide) (fun c12 => ?_) (fun c12 => ?_)
          · have hf := oIf_t hf c12
            obtain ⟨v13, ev13, hf⟩ := oLet_ex hf
            refine lv_iinc (v := v13) (lv' := [(3, .int v13), (0, .ref qX), (1, .int x1), (2, .int x2), (4, .int x4)]) hx hb d_X_cube_72 hl (k := 3) rfl (by rw [ev13]; rfl) (by decide) rfl (fun ls hl => ?_)
            refine lv_goto (tgt := 16) hx hb d_X_cube_75 (by decide) ?_
            exact ofX _ _ _ _ _ (ih16 x2 v13 nP bX bY bZ bS _ _ _ hf hP hD hS (lv_sub hl [1, 2, 3, 0] rfl))
          · have hf := oIf_f hf c12
            refine lv_iload_n hx hb d_X_cube_31 rfl (lv_at hl 1 rfl) ?_
            refine lv_ineg hx hb d_X_cube_32 ?_
            refine lv_topi (fun v14 ev14 => ?_)
            have hf := oLet_some hf ev14
            refine lv_istore (lv' := [(5, .int v14), (0, .ref qX), (1, .int x1), (2, .int x2), (3, .int x3), (4, .int x4)]) hx hb d_X_cube_33 hl (by decide) rfl (fun ls hl => ?_)
            exact ofX _ _ _ _ _ (K35 x4 _ x2 v14 nP bX bY bZ bS _ _ _ hf hP hD hS (lv_sub hl [1, 2, 3, 4, 5, 0] rfl))
      intro x2 x3 nP bX bY bZ bS H locs ls hf hP hD hS hl
      refine toX _ _ _ _ _ ?_
      have hf := oLoop7_s hf
      rw [← hrec16] at hf
      unfold f_X_cube_L16 at hf
      refine lv_iload_n hx hb d_X_cube_16 rfl (lv_at hl 3 rfl) ?_
      refine lv_iload_n hx hb d_X_cube_17 rfl (lv_at hl 1 rfl) ?_
      refine lv_icmp_gt (tgt := 78) hx hb d_X_cube_18 (by decide) (fun c15 => ?_) (fun c15 => ?_)
      · have hf := oIf_t hf c15
        refine lv_aload_n hx hb d_X_cube_78 rfl (lv_at hl 0 rfl) ?_
        refine va_get (D := (dC, dI)) (ci := 2) (v := .ref qN) (C := R_X) (T := T_X) (N := 10) hx hb ht in_X hown hK hP 0 rfl rfl 3 (by decide) (ht _ m_103) (fun _ h9 => h9) rfl d_X_cube_79 ?_
        obtain ⟨o16, o17, hfc, hf⟩ := oCall2_some hf
        have hPc := hP.sub (ws' := (w_C qN qNo qNt cI nO nT)) [11, 12, 13] rfl
        have hDc := hD.sub (ws' := (w_C qN qNo qNt cI nO nT)) [11, 12, 13] (by decide) rfl
        have hFc := va_free (wc := (w_C qN qNo qNt cI nO nT)) hD hS hA [11, 12, 13] rfl
        refine va_callv (va_runV (As := []) (rest := []) ⟨hx, hb, hml, hown, ht⟩ (c_C_putAllHome l dC dI qN qNo qNt cI cJ cQ H.size nO nT o16 o17 hfc) (cwV 0 ht (gV m_151 m_152 m_153 m_30 m_154) rfl rfl rfl (by decide +kernel) ⟨Nat.le_of_ble_eq_true rfl, Nat.le_of_ble_eq_true rfl⟩) (preMV hPc hK hZ hDc (va_recv hK hPc (ci := 1) (q0 := 0) rfl rfl)) rfl rfl hl.1 rfl (lv_room (Nat.le_of_ble_eq_true rfl)) d_X_cube_82 ⟨Nat.le_of_ble_eq_true rfl, Nat.le_of_ble_eq_true rfl⟩) hS (fun q _ h => hFc q h) hFc (fun u t H1 locs ht9 hvm hw hB hz1 hk1 hS => ?_)
        obtain ⟨hP1, hD1⟩ := hB
        rw [ht9] at hP1
        obtain ⟨hP, hD⟩ := va_join (wr := [(qX, .inr (2, [.ref qB, .ref qSt, .int nA, .ref qN, .ref qR, .ref qS, .ref qTg, .ref qKp, .ref qKq, .int nK])), (qB, .inr (0, [.ref qBx, .ref qBy, .ref qBz, .int nP, .ref qBa, .ref qBb, .ref qBc, .ref qBd, .int nQ, .ref qBs])), (qBx, .inl (cI, 60, .inl bX)), (qBy, .inl (cI, 60, .inl bY)), (qBz, .inl (cI, 60, .inl bZ)), (qBa, .inl (cI, 20, .inl bA)), (qBb, .inl (cI, 20, .inl bB)), (qBc, .inl (cI, 20, .inl bC)), (qBd, .inl (cI, 20, .inl bD)), (qBs, .inl (cJ, 60, .inr (.inl bS))), (qSt, .inl (cI, 13, .inl sT)), (qR, .inr (1, [.ref qRo, .ref qRt])), (qRo, .inl (cI, 60, .inl rO)), (qRt, .inl (cI, 60, .inl rT)), (qS, .inr (1, [.ref qSo, .ref qSp])), (qSo, .inl (cI, 60, .inl sO)), (qSp, .inl (cI, 60, .inl sP)), (qTg, .inl (cI, 60, .inl tG)), (qKq, .inl (cI, 10, .inl kQ))]) (w1 := (w_C qN qNo qNt cI o16 o17)) hP hD [11, 12, 13] [0, 1, 2, 3, 4, 5, 6, 7, 8, 9, 10, 14, 15, 16, 17, 18, 19, 20, 21] rfl rfl (by decide) (by decide) hk1 hFc hP1 hD1
        have hP := hP.sub (ws' := (w_X qX qB qSt qN qR qS qTg qKp qKq qBx qBy qBz qBa qBb qBc qBd qBs qNo qNt qRo qRt qSo qSp cI cJ nA nK nP nQ bX bY bZ bA bB bC bD bS sT o16 o17 rO rT sO sP tG kQ)) [0, 1, 2, 3, 4, 5, 6, 7, 8, 9, 10, 19, 20, 21, 11, 12, 13, 14, 15, 16, 17, 18] rfl
        have hD := hD.sub (ws' := (w_X qX qB qSt qN qR qS qTg qKp qKq qBx qBy qBz qBa qBb qBc qBd qBs qNo qNt qRo qRt qSo qSp cI cJ nA nK nP nQ bX bY bZ bA bB bC bD bS sT o16 o17 rO rT sO sP tG kQ)) [0, 1, 2, 3, 4, 5, 6, 7, 8, 9, 10, 19, 20, 21, 11, 12, 13, 14, 15, 16, 17, 18] (by decide) rfl
        clear hPc hDc hFc hP1 hD1 hz1 hk1 ht9 hvm hfc
        generalize H1 = H at hP hS ⊢
        refine lv_iload_n hx hb d_X_cube_85 rfl (lv_at hl 2 rfl) ?_
        cases hf
        exact W.iret hx hb hr (fun t ht hW => ⟨⟨_, (), rfl, rfl, by rw [ht]; exact hP, hD⟩, hS.F ht⟩) hS.2.2 d_X_cube_86
      · have hf := oIf_f hf c15
        refine lv_iload_n hx hb d_X_cube_21 rfl (lv_at hl 1 rfl) ?_
        refine lv_ineg hx hb d_X_cube_22 ?_
        refine lv_topi (fun v18 ev18 => ?_)
        have hf := oLet_some hf ev18
        refine lv_istore (lv' := [(4, .int v18), (0, .ref qX), (1, .int x1), (2, .int x2), (3, .int x3)]) hx hb d_X_cube_23 hl (by decide) rfl (fun ls hl => ?_)
        exact ofX _ _ _ _ _ (K25 x3 _ x2 v18 nP bX bY bZ bS _ _ _ hf hP hD hS (lv_sub hl [1, 2, 3, 4, 0] rfl))
  refine toX _ _ _ _ _ ?_
  unfold f_X_cube at hf
  obtain ⟨H, hH⟩ : ∃ z, z = s.heap := ⟨_, rfl⟩
  have hS : va_S A s.heap H [] := by rw [hH]; exact hS
  have hP : va_P (dC, dI) vwCl (w_X qX qB qSt qN qR qS qTg qKp qKq qBx qBy qBz qBa qBb qBc qBd qBs qNo qNt qRo qRt qSo qSp cI cJ nA nK nP nQ bX bY bZ bA bB bC bD bS sT nO nT rO rT sO sP tG kQ) H := by rw [hH]; exact hP
  refine w_heap hH ?_
  refine lv_iload_n hx hb d_X_cube_0 rfl (lv_at hl 1 rfl) ?_
  refine lv_if_lt (tgt := 9) hx hb d_X_cube_1 (by decide) (fun c19 => ?_) (fun c19 => ?_)
  · have hf := oIf_t hf c19
    refine lv_iconst (v := (-1)) hx hb d_X_cube_9 (by decide) ?_
    cases hf
    exact W.iret hx hb hr (fun t ht hW => ⟨⟨_, (), rfl, rfl, by rw [ht]; exact hP, hD⟩, hS.F ht⟩) hS.2.2 d_X_cube_10
  · have hf := oIf_f hf c19
    refine lv_iload_n hx hb d_X_cube_4 rfl (lv_at hl 1 rfl) ?_
    refine lv_iconst (v := 2) hx hb d_X_cube_5 (by decide) ?_
    refine lv_icmp_le (tgt := 11) hx hb d_X_cube_6 (by decide) (fun c20 => ?_) (fun c20 => ?_)
    · have hf := oIf_t hf c20
      refine lv_iconst (v := 0) hx hb d_X_cube_11 (by decide) ?_
      refine lv_istore_n (lv' := [(2, .int 0), (0, .ref qX), (1, .int x1)]) hx hb d_X_cube_12 rfl hl (by decide) rfl (fun ls hl => ?_)
      refine lv_iload_n hx hb d_X_cube_13 rfl (lv_at hl 2 rfl) ?_
      refine lv_ineg hx hb d_X_cube_14 ?_
      refine lv_topi (fun v21 ev21 => ?_)
      have hf := oLet_some hf ev21
      refine lv_istore_n (lv' := [(3, .int v21), (2, .int 0), (0, .ref qX), (1, .int x1)]) hx hb d_X_cube_15 rfl hl (by decide) rfl (fun ls hl => ?_)
      exact ofX _ _ _ _ _ (K16 x1 nO nT _ 0 v21 nP bX bY bZ bS _ _ _ hf hP hD hS (lv_sub hl [2, 3, 1, 0] rfl))
    · have hf := oIf_f hf c20
      refine lv_iconst (v := (-1)) hx hb d_X_cube_9 (by decide) ?_
      cases hf
      exact W.iret hx hb hr (fun t ht hW => ⟨⟨_, (), rfl, rfl, by rw [ht]; exact hP, hD⟩, hS.F ht⟩) hS.2.2 d_X_cube_10

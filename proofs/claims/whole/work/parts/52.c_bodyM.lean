set_option maxHeartbeats 4000000 in
set_option maxRecDepth 100000 in
theorem c_B_noteSide (l : Launch) (dC : Nat → ClassId) (dI : Nat → Nat → Nat) (qB qBx qBy qBz qBa qBb qBc qBd qBs : Nat) (cI cJ cQ : ClassId) (sz : Nat) (nP : Int32) (nQ : Int32) (bX : Nat → Int32) (bY : Nat → Int32) (bZ : Nat → Int32) (bA : Nat → Int32) (bB : Nat → Int32) (bC : Nat → Int32) (bD : Nat → Int32) (bS : Nat → Int64) (x1 : Int32) (x2 : Int32) (o_bS : Nat → Int64) (hf : f_B_noteSide bX bY bZ bA bB bC bD bS x1 x2 = some o_bS) : Met l y_B_noteSide w_B_noteSide ({ frames := 0, cells := 0, slots := 0, locals := 0 }) (va_Pc [.ref qB, .int x1, .int x2] (fun U => U.heap.size = sz ∧ va_P (dC, dI) vwCl (w_B qB qBx qBy qBz qBa qBb qBc qBd qBs cI cJ nP nQ bX bY bZ bA bB bC bD bS) U.heap ∧ va_K (dC, dI) vwCl [(cI, .int), (cJ, .long), (cQ, .object "CutBodies$Contents")] U ∧ nestZ U ∧ va_D (fun _ => True) (w_B qB qBx qBy qBz qBa qBb qBc qBd qBs cI cJ nP nQ bX bY bZ bA bB bC bD bS))) (va_Qv (fun (_ : Unit) => True) (fun _ t => va_P (dC, dI) vwCl (w_B qB qBx qBy qBz qBa qBb qBc qBd qBs cI cJ nP nQ bX bY bZ bA bB bC bD o_bS) t.heap ∧ va_D (va_A (w_B qB qBx qBy qBz qBa qBb qBc qBd qBs cI cJ nP nQ bX bY bZ bA bB bC bD bS) sz) (w_B qB qBx qBy qBz qBa qBb qBc qBd qBs cI cJ nP nQ bX bY bZ bA bB bC bD o_bS)) (va_A (w_B qB qBx qBy qBz qBa qBb qBc qBd qBs cI cJ nP nQ bX bY bZ bA bB bC bD bS) sz)) 0 0 (va_A (w_B qB qBx qBy qBz qBa qBb qBc qBd qBs cI cJ nP nQ bX bY bZ bA bB bC bD bS) sz) := by
  refine Met.ofW (cc := b_B_noteSide) (maxL := 6) (ret := none) (by decide) rfl ?_
  intro p e s m args below meth c s₁ B hml hv
  obtain ⟨rfl, hsz, hP, hK, hZ, hD0⟩ := hv
  have hx := B.exec
  have hb := B.bytes
  have hr := B.returns
  have hts := atoms_spec (ws := w_B_noteSide) B.pre
  have ht : ∀ w ∈ wAll, w.before _ s = true := fun w h => hts w (List.mem_cons_of_mem _ h)
  have hown : s.vm.findClass R_B = some m.cls := findClass_of_methodNamed B.named
  have hlocks := B.notSynchronized
  subst hsz
  have hD := hD0.self (sz := s.heap.size)
  generalize hAe : va_A (w_B qB qBx qBy qBz qBa qBb qBc qBd qBs cI cJ nP nQ bX bY bZ bA bB bC bD bS) s.heap.size = A at hD ⊢
  have hA : ∀ q : Nat, s.heap.size ≤ q → A q := fun q h => by rw [← hAe]; exact Or.inr h
  have hS : va_S A s.heap s.heap [] := va_S.rf
  have hP : va_P (dC, dI) vwCl (w_B qB qBx qBy qBz qBa qBb qBc qBd qBs cI cJ nP nQ bX bY bZ bA bB bC bD bS) s.heap := hP
  have hl := lv_entry ([.ref qB, .int x1, .int x2]) (n := 6) (Nat.le_of_ble_eq_true rfl)
  rw [lg_entry_eq]
  generalize (lg_sl ([.ref qB, .int x1, .int x2]) ++ List.replicate (6 - (lg_sl ([.ref qB, .int x1, .int x2])).length) Slot.unset).toArray = ls at hl ⊢
  have hl : lv_has ls 6 [(0, .ref qB), (1, .int x1), (2, .int x2)] := hl
  refine w_abs (fun Wx toX ofX => ?_)
  have K68 : ∀ (x1 : Int32) (x2 : Int32) (t0 : Int64) (bS : Nat → Int64) (H : Heap) (locs : List Loc) (ls : Array Slot), f_B_noteSide_J68  bX bY bZ bA bB bC bD x1 x2 t0 bS = some o_bS → va_P (dC, dI) vwCl (w_B qB qBx qBy qBz qBa qBb qBc qBd qBs cI cJ nP nQ bX bY bZ bA bB bC bD bS) H → va_D A (w_B qB qBx qBy qBz qBa qBb qBc qBd qBs cI cJ nP nQ bX bY bZ bA bB bC bD bS) → va_S A s.heap H locs → lv_has ls 6 [(0, .ref qB), (1, .int x1), (2, .int x2)] → Wx H locs 0 0 (F0 m 68 ls [.long t0]) := by
    intro x1 x2 t0 bS H locs ls hf hP hD hS hl
    refine toX _ _ _ _ _ ?_
    unfold f_B_noteSide_J68 at hf
    refine lv_lstore (lv' := [(4, .long t0), (0, .ref qB), (1, .int x1), (2, .int x2)]) hx hb d_B_noteSide_68 hl (by decide) rfl (fun ls hl => ?_)
    refine lv_aload_n hx hb d_B_noteSide_70 rfl (lv_at hl 1 rfl) ?_
    refine va_get (D := (dC, dI)) (ci := 0) (v := .ref qBs) (C := R_B) (T := T_B) (N := 10) hx hb ht in_B hown hK hP 0 rfl rfl 9 (by decide) (ht _ m_60) (fun _ h9 => h9) rfl d_B_noteSide_71 ?_
    refine lv_iload_n hx hb d_B_noteSide_74 rfl (lv_at hl 2 rfl) ?_
    refine lv_dup2_11 hx hb d_B_noteSide_75 rfl rfl ?_
    obtain ⟨hi1, hf⟩ := oIn_some hf
    refine va_lald hx hb hK hP 8 1 rfl rfl hi1 d_B_noteSide_76 ?_
    refine lv_lload hx hb d_B_noteSide_77 (lv_at hl 0 rfl) ?_
    refine lv_iconst (v := 2) hx hb d_B_noteSide_79 (by decide) ?_
    refine lv_iload_n hx hb d_B_noteSide_80 rfl (lv_at hl 3 rfl) ?_
    refine lv_imul hx hb d_B_noteSide_81 ?_
    refine lv_lshl hx hb d_B_noteSide_82 rfl ?_
    refine lv_lor hx hb d_B_noteSide_83 ?_
    obtain ⟨hi2, hf⟩ := oIn_some hf
    refine va_last hx hb hK hP hD hS 8 1 rfl rfl hi2 d_B_noteSide_84 (fun H locs hP hD hS => ?_)
    obtain ⟨a3, ea3, hf⟩ := oLet_ex hf
    have hP : va_P (dC, dI) vwCl (w_B qB qBx qBy qBz qBa qBb qBc qBd qBs cI cJ nP nQ bX bY bZ bA bB bC bD a3) H := by rw [ea3]; exact hP
    have hD : va_D A (w_B qB qBx qBy qBz qBa qBb qBc qBd qBs cI cJ nP nQ bX bY bZ bA bB bC bD a3) := by rw [ea3]; exact hD
    cases hf
    exact W.vret hx hb hr (fun t ht hW => ⟨⟨(), rfl, trivial, by rw [ht]; exact hP, hD⟩, hS.F ht⟩) hS.2.2 d_B_noteSide_85
  refine toX _ _ _ _ _ ?_
  unfold f_B_noteSide at hf
  obtain ⟨H, hH⟩ : ∃ z, z = s.heap := ⟨_, rfl⟩
  have hS : va_S A s.heap H [] := by rw [hH]; exact hS
  have hP : va_P (dC, dI) vwCl (w_B qB qBx qBy qBz qBa qBb qBc qBd qBs cI cJ nP nQ bX bY bZ bA bB bC bD bS) H := by rw [hH]; exact hP
  refine w_heap hH ?_
  refine lv_aload_n hx hb d_B_noteSide_0 rfl (lv_at hl 0 rfl) ?_
  refine va_get (D := (dC, dI)) (ci := 0) (v := .ref qBa) (C := R_B) (T := T_B) (N := 10) hx hb ht in_B hown hK hP 0 rfl rfl 4 (by decide) (ht _ m_54) (fun _ h9 => h9) rfl d_B_noteSide_1 ?_
  refine lv_iload_n hx hb d_B_noteSide_4 rfl (lv_at hl 2 rfl) ?_
  obtain ⟨hi4, hf⟩ := oIn_some hf
  refine va_iald hx hb hK hP 4 0 rfl rfl hi4 d_B_noteSide_5 ?_
  refine lv_aload_n hx hb d_B_noteSide_6 rfl (lv_at hl 0 rfl) ?_
  refine va_get (D := (dC, dI)) (ci := 0) (v := .ref qBx) (C := R_B) (T := T_B) (N := 10) hx hb ht in_B hown hK hP 0 rfl rfl 0 (by decide) (ht _ m_49) (fun _ h9 => h9) rfl d_B_noteSide_7 ?_
  refine lv_iload_n hx hb d_B_noteSide_10 rfl (lv_at hl 1 rfl) ?_
  obtain ⟨hi5, hf⟩ := oIn_some hf
  refine va_iald hx hb hK hP 1 0 rfl rfl hi5 d_B_noteSide_11 ?_
  refine lv_imul hx hb d_B_noteSide_12 ?_
  refine lv_aload_n hx hb d_B_noteSide_13 rfl (lv_at hl 0 rfl) ?_
  refine va_get (D := (dC, dI)) (ci := 0) (v := .ref qBb) (C := R_B) (T := T_B) (N := 10) hx hb ht in_B hown hK hP 0 rfl rfl 5 (by decide) (ht _ m_55) (fun _ h9 => h9) rfl d_B_noteSide_14 ?_
  refine lv_iload_n hx hb d_B_noteSide_17 rfl (lv_at hl 2 rfl) ?_
  obtain ⟨hi6, hf⟩ := oIn_some hf
  refine va_iald hx hb hK hP 5 0 rfl rfl hi6 d_B_noteSide_18 ?_
  refine lv_aload_n hx hb d_B_noteSide_19 rfl (lv_at hl 0 rfl) ?_
  refine va_get (D := (dC, dI)) (ci := 0) (v := .ref qBy) (C := R_B) (T := T_B) (N := 10) hx hb ht in_B hown hK hP 0 rfl rfl 1 (by decide) (ht _ m_50) (fun _ h9 => h9) rfl d_B_noteSide_20 ?_
  refine lv_iload_n hx hb d_B_noteSide_23 rfl (lv_at hl 1 rfl) ?_
  obtain ⟨hi7, hf⟩ := oIn_some hf
  refine va_iald hx hb hK hP 2 0 rfl rfl hi7 d_B_noteSide_24 ?_
  refine lv_imul hx hb d_B_noteSide_25 ?_
  refine lv_iadd hx hb d_B_noteSide_26 ?_
  refine lv_aload_n hx hb d_B_noteSide_27 rfl (lv_at hl 0 rfl) ?_
  refine va_get (D := (dC, dI)) (ci := 0) (v := .ref qBc) (C := R_B) (T := T_B) (N := 10) hx hb ht in_B hown hK hP 0 rfl rfl 6 (by decide) (ht _ m_56) (fun _ h9 => h9) rfl d_B_noteSide_28 ?_
  refine lv_iload_n hx hb d_B_noteSide_31 rfl (lv_at hl 2 rfl) ?_
  obtain ⟨hi8, hf⟩ := oIn_some hf
  refine va_iald hx hb hK hP 6 0 rfl rfl hi8 d_B_noteSide_32 ?_
  refine lv_aload_n hx hb d_B_noteSide_33 rfl (lv_at hl 0 rfl) ?_
  refine va_get (D := (dC, dI)) (ci := 0) (v := .ref qBz) (C := R_B) (T := T_B) (N := 10) hx hb ht in_B hown hK hP 0 rfl rfl 2 (by decide) (ht _ m_51) (fun _ h9 => h9) rfl d_B_noteSide_34 ?_
  refine lv_iload_n hx hb d_B_noteSide_37 rfl (lv_at hl 1 rfl) ?_
  obtain ⟨hi9, hf⟩ := oIn_some hf
  refine va_iald hx hb hK hP 3 0 rfl rfl hi9 d_B_noteSide_38 ?_
  refine lv_imul hx hb d_B_noteSide_39 ?_
  refine lv_iadd hx hb d_B_noteSide_40 ?_
  refine lv_aload_n hx hb d_B_noteSide_41 rfl (lv_at hl 0 rfl) ?_
  refine va_get (D := (dC, dI)) (ci := 0) (v := .ref qBd) (C := R_B) (T := T_B) (N := 10) hx hb ht in_B hown hK hP 0 rfl rfl 7 (by decide) (ht _ m_57) (fun _ h9 => h9) rfl d_B_noteSide_42 ?_
  refine lv_iload_n hx hb d_B_noteSide_45 rfl (lv_at hl 2 rfl) ?_
  obtain ⟨hi10, hf⟩ := oIn_some hf
  refine va_iald hx hb hK hP 7 0 rfl rfl hi10 d_B_noteSide_46 ?_
  refine lv_isub hx hb d_B_noteSide_47 ?_
  refine lv_topi (fun v11 ev11 => ?_)
  have hf := oLet_some hf ev11
  refine lv_istore_n (lv' := [(3, .int v11), (0, .ref qB), (1, .int x1), (2, .int x2)]) hx hb d_B_noteSide_48 rfl hl (by decide) rfl (fun ls hl => ?_)
  refine lv_iload_n hx hb d_B_noteSide_49 rfl (lv_at hl 0 rfl) ?_
  refine lv_if_ge (tgt := 57) hx hb d_B_noteSide_50 (by decide) (fun c12 => ?_) (fun c12 => ?_)
  · have hf := oIf_t hf c12
    refine lv_iload_n hx hb d_B_noteSide_57 rfl (lv_at hl 0 rfl) ?_
    refine lv_if_ne (tgt := 65) hx hb d_B_noteSide_58 (by decide) (fun c13 => ?_) (fun c13 => ?_)
    · have hf := oIf_f hf c13
      refine lv_ldc2 (v := 2) hx hb hown (ht _ m_150) d_B_noteSide_65 ?_
      exact ofX _ _ _ _ _ (K68  x1 x2 2 bS _ _ _ hf hP hD hS (lv_sub hl [1, 2, 3] rfl))
    · have hf := oIf_t hf c13
      refine lv_lconst (v := 1) hx hb d_B_noteSide_61 (by decide) ?_
      refine lv_goto (tgt := 68) hx hb d_B_noteSide_62 (by decide) ?_
      exact ofX _ _ _ _ _ (K68  x1 x2 1 bS _ _ _ hf hP hD hS (lv_sub hl [1, 2, 3] rfl))
  · have hf := oIf_f hf c12
    refine lv_lconst (v := 0) hx hb d_B_noteSide_53 (by decide) ?_
    refine lv_goto (tgt := 68) hx hb d_B_noteSide_54 (by decide) ?_
    exact ofX _ _ _ _ _ (K68  x1 x2 0 bS _ _ _ hf hP hD hS (lv_sub hl [1, 2, 3] rfl))
set_option maxHeartbeats 4000000 in
set_option maxRecDepth 100000 in
theorem c_B_addPoint (l : Launch) (dC : Nat → ClassId) (dI : Nat → Nat → Nat) (qB qBx qBy qBz qBa qBb qBc qBd qBs : Nat) (cI cJ cQ : ClassId) (sz : Nat) (nP : Int32) (nQ : Int32) (bX : Nat → Int32) (bY : Nat → Int32) (bZ : Nat → Int32) (bA : Nat → Int32) (bB : Nat → Int32) (bC : Nat → Int32) (bD : Nat → Int32) (bS : Nat → Int64) (x1 : Int32) (x2 : Int32) (x3 : Int32) (r_ : Int32) (o_nP : Int32) (o_bX : Nat → Int32) (o_bY : Nat → Int32) (o_bZ : Nat → Int32) (o_bS : Nat → Int64) (hf : f_B_addPoint nP nQ bX bY bZ bA bB bC bD bS x1 x2 x3 = some (r_, o_nP, o_bX, o_bY, o_bZ, o_bS)) : Met l y_B_addPoint w_B_addPoint ({ frames := 1, cells := 0, slots := 0, locals := 25 }) (va_Pc [.ref qB, .int x1, .int x2, .int x3] (fun U => U.heap.size = sz ∧ va_P (dC, dI) vwCl (w_B qB qBx qBy qBz qBa qBb qBc qBd qBs cI cJ nP nQ bX bY bZ bA bB bC bD bS) U.heap ∧ va_K (dC, dI) vwCl [(cI, .int), (cJ, .long), (cQ, .object "CutBodies$Contents")] U ∧ nestZ U ∧ va_D (fun _ => True) (w_B qB qBx qBy qBz qBa qBb qBc qBd qBs cI cJ nP nQ bX bY bZ bA bB bC bD bS))) (va_Qi (fun (r9 : Int32) (_ : Unit) => r9 = r_) (fun _ t => va_P (dC, dI) vwCl (w_B qB qBx qBy qBz qBa qBb qBc qBd qBs cI cJ o_nP nQ o_bX o_bY o_bZ bA bB bC bD o_bS) t.heap ∧ va_D (va_A (w_B qB qBx qBy qBz qBa qBb qBc qBd qBs cI cJ nP nQ bX bY bZ bA bB bC bD bS) sz) (w_B qB qBx qBy qBz qBa qBb qBc qBd qBs cI cJ o_nP nQ o_bX o_bY o_bZ bA bB bC bD o_bS)) (va_A (w_B qB qBx qBy qBz qBa qBb qBc qBd qBs cI cJ nP nQ bX bY bZ bA bB bC bD bS) sz)) 0 0 (va_A (w_B qB qBx qBy qBz qBa qBb qBc qBd qBs cI cJ nP nQ bX bY bZ bA bB bC bD bS) sz) := by
  refine Met.ofW (cc := b_B_addPoint) (maxL := 6) (ret := (some .int)) (by decide) rfl ?_
  intro p e s m args below meth c s₁ B hml hv
  obtain ⟨rfl, hsz, hP, hK, hZ, hD0⟩ := hv
  have hx := B.exec
  have hb := B.bytes
  have hr := B.returns
  have hts := atoms_spec (ws := w_B_addPoint) B.pre
  have ht : ∀ w ∈ wAll, w.before _ s = true := fun w h => hts w (List.mem_cons_of_mem _ h)
  have hown : s.vm.findClass R_B = some m.cls := findClass_of_methodNamed B.named
  have hlocks := B.notSynchronized
  subst hsz
  have hD := hD0.self (sz := s.heap.size)
  generalize hAe : va_A (w_B qB qBx qBy qBz qBa qBb qBc qBd qBs cI cJ nP nQ bX bY bZ bA bB bC bD bS) s.heap.size = A at hD ⊢
  have hA : ∀ q : Nat, s.heap.size ≤ q → A q := fun q h => by rw [← hAe]; exact Or.inr h
  have hS : va_S A s.heap s.heap [] := va_S.rf
  have hP : va_P (dC, dI) vwCl (w_B qB qBx qBy qBz qBa qBb qBc qBd qBs cI cJ nP nQ bX bY bZ bA bB bC bD bS) s.heap := hP
  have hl := lv_entry ([.ref qB, .int x1, .int x2, .int x3]) (n := 6) (Nat.le_of_ble_eq_true rfl)
  rw [lg_entry_eq]
  generalize (lg_sl ([.ref qB, .int x1, .int x2, .int x3]) ++ List.replicate (6 - (lg_sl ([.ref qB, .int x1, .int x2, .int x3])).length) Slot.unset).toArray = ls at hl ⊢
  have hl : lv_has ls 6 [(0, .ref qB), (1, .int x1), (2, .int x2), (3, .int x3)] := hl
  refine w_abs (fun Wx toX ofX => ?_)
  have K94 : ∀ (x4 : Int32) (nP : Int32) (bX : Nat → Int32) (bY : Nat → Int32) (bZ : Nat → Int32) (n : Nat) (x5 : Int32) (bS : Nat → Int64) (H : Heap) (locs : List Loc) (ls : Array Slot), oLoop2 (f_B_addPoint_L94  nQ bA bB bC bD x4 nP bX bY bZ) n x5 bS = some (r_, o_nP, o_bX, o_bY, o_bZ, o_bS) → va_P (dC, dI) vwCl (w_B qB qBx qBy qBz qBa qBb qBc qBd qBs cI cJ nP nQ bX bY bZ bA bB bC bD bS) H → va_D A (w_B qB qBx qBy qBz qBa qBb qBc qBd qBs cI cJ nP nQ bX bY bZ bA bB bC bD bS) → va_S A s.heap H locs → lv_has ls 6 [(0, .ref qB), (4, .int x4), (5, .int x5)] → Wx H locs 0 0 (F0 m 94 ls []) := by
    intro x4 nP bX bY bZ n
    induction n with
    | zero => intro x5 bS H locs ls hf; exact (oLoop2_0 hf).elim
    | succ n ih94 =>
      obtain ⟨rec94, hrec94⟩ : ∃ z, z = oLoop2 (f_B_addPoint_L94  nQ bA bB bC bD x4 nP bX bY bZ) n := ⟨_, rfl⟩
      rw [← hrec94] at ih94
      intro x5 bS H locs ls hf hP hD hS hl
      refine toX _ _ _ _ _ ?_
      have hf := oLoop2_s hf
      rw [← hrec94] at hf
      unfold f_B_addPoint_L94 at hf
      refine lv_iload hx hb d_B_addPoint_94 (lv_at hl 2 rfl) ?_
      refine lv_aload_n hx hb d_B_addPoint_96 rfl (lv_at hl 0 rfl) ?_
      refine va_get (D := (dC, dI)) (ci := 0) (v := .int nQ) (C := R_B) (T := T_B) (N := 10) hx hb ht in_B hown hK hP 0 rfl rfl 8 (by decide) (ht _ m_58) (fun _ h9 => h9) rfl d_B_addPoint_97 ?_
      refine lv_icmp_ge (tgt := 117) hx hb d_B_addPoint_100 (by decide) (fun c1 => ?_) (fun c1 => ?_)
      · have hf := oIf_t hf c1
        refine lv_iload hx hb d_B_addPoint_117 (lv_at hl 1 rfl) ?_
        cases hf
        exact W.iret hx hb hr (fun t ht hW => ⟨⟨_, (), rfl, rfl, by rw [ht]; exact hP, hD⟩, hS.F ht⟩) hS.2.2 d_B_addPoint_119
      · have hf := oIf_f hf c1
        refine lv_aload_n hx hb d_B_addPoint_103 rfl (lv_at hl 0 rfl) ?_
        refine lv_iload hx hb d_B_addPoint_104 (lv_at hl 1 rfl) ?_
        refine lv_iload hx hb d_B_addPoint_106 (lv_at hl 2 rfl) ?_
        obtain ⟨o2, hfc, hf⟩ := oCall1_some hf
        have hPc := hP.sub (ws' := (w_B qB qBx qBy qBz qBa qBb qBc qBd qBs cI cJ nP nQ bX bY bZ bA bB bC bD bS)) [0, 1, 2, 3, 4, 5, 6, 7, 8] rfl
        have hDc := hD.sub (ws' := (w_B qB qBx qBy qBz qBa qBb qBc qBd qBs cI cJ nP nQ bX bY bZ bA bB bC bD bS)) [0, 1, 2, 3, 4, 5, 6, 7, 8] (by decide) rfl
        have hFc := va_free (wc := (w_B qB qBx qBy qBz qBa qBb qBc qBd qBs cI cJ nP nQ bX bY bZ bA bB bC bD bS)) hD hS hA [0, 1, 2, 3, 4, 5, 6, 7, 8] rfl
        refine va_callv (va_runV (As := [.int x4, .int x5]) (rest := []) ⟨hx, hb, hml, hown, ht⟩ (c_B_noteSide l dC dI qB qBx qBy qBz qBa qBb qBc qBd qBs cI cJ cQ H.size nP nQ bX bY bZ bA bB bC bD bS x4 x5 o2 hfc) (cwV 2 ht (gV m_146 m_148 m_0 m_29 m_149) rfl rfl rfl (by decide +kernel) ⟨Nat.le_of_ble_eq_true rfl, Nat.le_of_ble_eq_true rfl⟩) (preMV hPc hK hZ hDc (va_recv hK hPc (ci := 0) (q0 := 0) rfl rfl)) rfl rfl hl.1 rfl (lv_room (Nat.le_of_ble_eq_true rfl)) d_B_addPoint_108 ⟨Nat.le_of_ble_eq_true rfl, Nat.le_of_ble_eq_true rfl⟩) hS (fun q _ h => hFc q h) hFc (fun u t H1 locs ht9 hvm hw hB hz1 hk1 hS => ?_)
        obtain ⟨hP1, hD1⟩ := hB
        rw [ht9] at hP1
        obtain ⟨hP, hD⟩ := va_join (wr := []) (w1 := (w_B qB qBx qBy qBz qBa qBb qBc qBd qBs cI cJ nP nQ bX bY bZ bA bB bC bD o2)) hP hD [0, 1, 2, 3, 4, 5, 6, 7, 8] [] rfl rfl (by decide) (by decide) hk1 hFc hP1 hD1
        have hP := hP.sub (ws' := (w_B qB qBx qBy qBz qBa qBb qBc qBd qBs cI cJ nP nQ bX bY bZ bA bB bC bD o2)) [0, 1, 2, 3, 4, 5, 6, 7, 8] rfl
        have hD := hD.sub (ws' := (w_B qB qBx qBy qBz qBa qBb qBc qBd qBs cI cJ nP nQ bX bY bZ bA bB bC bD o2)) [0, 1, 2, 3, 4, 5, 6, 7, 8] (by decide) rfl
        clear hPc hDc hFc hP1 hD1 hz1 hk1 ht9 hvm hfc
        generalize H1 = H at hP hS ⊢
        obtain ⟨v3, ev3, hf⟩ := oLet_ex hf
        refine lv_iinc (v := v3) (lv' := [(5, .int v3), (0, .ref qB), (4, .int x4)]) hx hb d_B_addPoint_111 hl (k := 2) rfl (by rw [ev3]; rfl) (by decide) rfl (fun ls hl => ?_)
        refine lv_goto (tgt := 94) hx hb d_B_addPoint_114 (by decide) ?_
        exact ofX _ _ _ _ _ (ih94 v3 o2 _ _ _ hf hP hD hS (lv_sub hl [1, 2, 0] rfl))
  refine toX _ _ _ _ _ ?_
  unfold f_B_addPoint at hf
  obtain ⟨H, hH⟩ : ∃ z, z = s.heap := ⟨_, rfl⟩
  have hS : va_S A s.heap H [] := by rw [hH]; exact hS
  have hP : va_P (dC, dI) vwCl (w_B qB qBx qBy qBz qBa qBb qBc qBd qBs cI cJ nP nQ bX bY bZ bA bB bC bD bS) H := by rw [hH]; exact hP
  refine w_heap hH ?_
  refine lv_iload_n hx hb d_B_addPoint_0 rfl (lv_at hl 1 rfl) ?_
  refine lv_bipush (v := 9) hx hb d_B_addPoint_1 (by decide) ?_
  obtain ⟨r4z, hfc, hf⟩ := oCall1_some hf
  have hPc := hP.sub (ws' := []) [] rfl
  refine vp_callSi (va_runSN (As := [.int x1, .int 9]) (rest := []) ⟨hx, hb, hml, hown, ht⟩ (c_X_isWithin l dC dI cI cJ cQ x1 9 r4z hfc) ⟨va_cnB 2 ht (gA m_141) rfl rfl rfl (hZ.1 _ (List.mem_of_getElem? (i := 0) rfl)) (ht _ m_28) (by decide +kernel) ⟨Nat.le_of_ble_eq_true rfl, Nat.le_of_ble_eq_true rfl⟩, ht _ m_140, trivial⟩ (preR hPc hK hZ) rfl rfl hl.1 rfl (lv_room (Nat.le_of_ble_eq_true rfl)) d_B_addPoint_3 ⟨Nat.le_of_ble_eq_true rfl, Nat.le_of_ble_eq_true rfl⟩).run (fun r4 hw => ?_)
  subst hw
  clear hPc hfc
  refine lv_if_eq (tgt := 27) hx hb d_B_addPoint_6 (by decide) (fun c5 => ?_) (fun c5 => ?_)
  · have hf := oIf_t hf c5
    refine lv_iconst (v := (-1)) hx hb d_B_addPoint_27 (by decide) ?_
    cases hf
    exact W.iret hx hb hr (fun t ht hW => ⟨⟨_, (), rfl, rfl, by rw [ht]; exact hP, hD⟩, hS.F ht⟩) hS.2.2 d_B_addPoint_28
  · have hf := oIf_f hf c5
    refine lv_iload_n hx hb d_B_addPoint_9 rfl (lv_at hl 2 rfl) ?_
    refine lv_bipush (v := 9) hx hb d_B_addPoint_10 (by decide) ?_
    obtain ⟨r6z, hfc, hf⟩ := oCall1_some hf
    have hPc := hP.sub (ws' := []) [] rfl
    refine vp_callSi (va_runSN (As := [.int x2, .int 9]) (rest := []) ⟨hx, hb, hml, hown, ht⟩ (c_X_isWithin l dC dI cI cJ cQ x2 9 r6z hfc) ⟨va_cnB 2 ht (gA m_141) rfl rfl rfl (hZ.1 _ (List.mem_of_getElem? (i := 0) rfl)) (ht _ m_28) (by decide +kernel) ⟨Nat.le_of_ble_eq_true rfl, Nat.le_of_ble_eq_true rfl⟩, ht _ m_140, trivial⟩ (preR hPc hK hZ) rfl rfl hl.1 rfl (lv_room (Nat.le_of_ble_eq_true rfl)) d_B_addPoint_12 ⟨Nat.le_of_ble_eq_true rfl, Nat.le_of_ble_eq_true rfl⟩).run (fun r6 hw => ?_)
    subst hw
    clear hPc hfc
    refine lv_if_eq (tgt := 27) hx hb d_B_addPoint_15 (by decide) (fun c7 => ?_) (fun c7 => ?_)
    · have hf := oIf_t hf c7
      refine lv_iconst (v := (-1)) hx hb d_B_addPoint_27 (by decide) ?_
      cases hf
      exact W.iret hx hb hr (fun t ht hW => ⟨⟨_, (), rfl, rfl, by rw [ht]; exact hP, hD⟩, hS.F ht⟩) hS.2.2 d_B_addPoint_28
    · have hf := oIf_f hf c7
      refine lv_iload_n hx hb d_B_addPoint_18 rfl (lv_at hl 3 rfl) ?_
      refine lv_bipush (v := 9) hx hb d_B_addPoint_19 (by decide) ?_
      obtain ⟨r8z, hfc, hf⟩ := oCall1_some hf
      have hPc := hP.sub (ws' := []) [] rfl
      refine vp_callSi (va_runSN (As := [.int x3, .int 9]) (rest := []) ⟨hx, hb, hml, hown, ht⟩ (c_X_isWithin l dC dI cI cJ cQ x3 9 r8z hfc) ⟨va_cnB 2 ht (gA m_141) rfl rfl rfl (hZ.1 _ (List.mem_of_getElem? (i := 0) rfl)) (ht _ m_28) (by decide +kernel) ⟨Nat.le_of_ble_eq_true rfl, Nat.le_of_ble_eq_true rfl⟩, ht _ m_140, trivial⟩ (preR hPc hK hZ) rfl rfl hl.1 rfl (lv_room (Nat.le_of_ble_eq_true rfl)) d_B_addPoint_21 ⟨Nat.le_of_ble_eq_true rfl, Nat.le_of_ble_eq_true rfl⟩).run (fun r8 hw => ?_)
      subst hw
      clear hPc hfc
      refine lv_if_ne (tgt := 29) hx hb d_B_addPoint_24 (by decide) (fun c9 => ?_) (fun c9 => ?_)
      · have hf := oIf_f hf c9
        refine lv_aload_n hx hb d_B_addPoint_29 rfl (lv_at hl 0 rfl) ?_
        refine va_get (D := (dC, dI)) (ci := 0) (v := .int nP) (C := R_B) (T := T_B) (N := 10) hx hb ht in_B hown hK hP 0 rfl rfl 3 (by decide) (ht _ m_52) (fun _ h9 => h9) rfl d_B_addPoint_30 ?_
        refine lv_bipush (v := 60) hx hb d_B_addPoint_33 (by decide) ?_
        refine lv_icmp_ge (tgt := 49) hx hb d_B_addPoint_35 (by decide) (fun c10 => ?_) (fun c10 => ?_)
        · have hf := oIf_t hf c10
          refine lv_iconst (v := (-1)) hx hb d_B_addPoint_49 (by decide) ?_
          cases hf
          exact W.iret hx hb hr (fun t ht hW => ⟨⟨_, (), rfl, rfl, by rw [ht]; exact hP, hD⟩, hS.F ht⟩) hS.2.2 d_B_addPoint_50
        · have hf := oIf_f hf c10
          refine lv_aload_n hx hb d_B_addPoint_38 rfl (lv_at hl 0 rfl) ?_
          refine lv_iload_n hx hb d_B_addPoint_39 rfl (lv_at hl 1 rfl) ?_
          refine lv_iload_n hx hb d_B_addPoint_40 rfl (lv_at hl 2 rfl) ?_
          refine lv_iload_n hx hb d_B_addPoint_41 rfl (lv_at hl 3 rfl) ?_
          obtain ⟨r11z, hfc, hf⟩ := oCall1_some hf
          have hPc := hP.sub (ws' := (w_B qB qBx qBy qBz qBa qBb qBc qBd qBs cI cJ nP nQ bX bY bZ bA bB bC bD bS)) [0, 1, 2, 3, 4, 5, 6, 7, 8] rfl
          refine vp_callSi (va_runV (As := [.int x1, .int x2, .int x3]) (rest := []) ⟨hx, hb, hml, hown, ht⟩ (c_B_pointAt l dC dI qB qBx qBy qBz qBa qBb qBc qBd qBs cI cJ cQ nP nQ bX bY bZ bA bB bC bD bS x1 x2 x3 r11z hfc) (cwV 3 ht (gV m_142 m_143 m_144 m_29 m_145) rfl rfl rfl (by decide +kernel) ⟨Nat.le_of_ble_eq_true rfl, Nat.le_of_ble_eq_true rfl⟩) (preRV hPc hK hZ (va_recv hK hPc (ci := 0) (q0 := 0) rfl rfl)) rfl rfl hl.1 rfl (lv_room (Nat.le_of_ble_eq_true rfl)) d_B_addPoint_42 ⟨Nat.le_of_ble_eq_true rfl, Nat.le_of_ble_eq_true rfl⟩).run (fun r11 hw => ?_)
          subst hw
          clear hPc hfc
          refine lv_iconst (v := (-1)) hx hb d_B_addPoint_45 (by decide) ?_
          refine lv_icmp_eq (tgt := 51) hx hb d_B_addPoint_46 (by decide) (fun c12 => ?_) (fun c12 => ?_)
          · have hf := oIf_t hf c12
            refine lv_aload_n hx hb d_B_addPoint_51 rfl (lv_at hl 0 rfl) ?_
            refine va_get (D := (dC, dI)) (ci := 0) (v := .int nP) (C := R_B) (T := T_B) (N := 10) hx hb ht in_B hown hK hP 0 rfl rfl 3 (by decide) (ht _ m_52) (fun _ h9 => h9) rfl d_B_addPoint_52 ?_
            refine lv_istore (lv' := [(4, .int nP), (0, .ref qB), (1, .int x1), (2, .int x2), (3, .int x3)]) hx hb d_B_addPoint_55 hl (by decide) rfl (fun ls hl => ?_)
            refine lv_aload_n hx hb d_B_addPoint_57 rfl (lv_at hl 1 rfl) ?_
            refine va_get (D := (dC, dI)) (ci := 0) (v := .ref qBx) (C := R_B) (T := T_B) (N := 10) hx hb ht in_B hown hK hP 0 rfl rfl 0 (by decide) (ht _ m_49) (fun _ h9 => h9) rfl d_B_addPoint_58 ?_
            refine lv_iload hx hb d_B_addPoint_61 (lv_at hl 0 rfl) ?_
            refine lv_iload_n hx hb d_B_addPoint_63 rfl (lv_at hl 2 rfl) ?_
            obtain ⟨hi13, hf⟩ := oIn_some hf
            refine va_iast hx hb hK hP hD hS 1 0 rfl rfl hi13 d_B_addPoint_64 (fun H locs hP hD hS => ?_)
            obtain ⟨a14, ea14, hf⟩ := oLet_ex hf
            have hP : va_P (dC, dI) vwCl (w_B qB qBx qBy qBz qBa qBb qBc qBd qBs cI cJ nP nQ a14 bY bZ bA bB bC bD bS) H := by rw [ea14]; exact hP
            have hD : va_D A (w_B qB qBx qBy qBz qBa qBb qBc qBd qBs cI cJ nP nQ a14 bY bZ bA bB bC bD bS) := by rw [ea14]; exact hD
            refine lv_aload_n hx hb d_B_addPoint_65 rfl (lv_at hl 1 rfl) ?_
            refine va_get (D := (dC, dI)) (ci := 0) (v := .ref qBy) (C := R_B) (T := T_B) (N := 10) hx hb ht in_B hown hK hP 0 rfl rfl 1 (by decide) (ht _ m_50) (fun _ h9 => h9) rfl d_B_addPoint_66 ?_
            refine lv_iload hx hb d_B_addPoint_69 (lv_at hl 0 rfl) ?_
            refine lv_iload_n hx hb d_B_addPoint_71 rfl (lv_at hl 3 rfl) ?_
            obtain ⟨hi15, hf⟩ := oIn_some hf
            refine va_iast hx hb hK hP hD hS 2 0 rfl rfl hi15 d_B_addPoint_72 (fun H locs hP hD hS => ?_)
            obtain ⟨a16, ea16, hf⟩ := oLet_ex hf
            have hP : va_P (dC, dI) vwCl (w_B qB qBx qBy qBz qBa qBb qBc qBd qBs cI cJ nP nQ a14 a16 bZ bA bB bC bD bS) H := by rw [ea16]; exact hP
            have hD : va_D A (w_B qB qBx qBy qBz qBa qBb qBc qBd qBs cI cJ nP nQ a14 a16 bZ bA bB bC bD bS) := by rw [ea16]; exact hD
            refine lv_aload_n hx hb d_B_addPoint_73 rfl (lv_at hl 1 rfl) ?_
            refine va_get (D := (dC, dI)) (ci := 0) (v := .ref qBz) (C := R_B) (T := T_B) (N := 10) hx hb ht in_B hown hK hP 0 rfl rfl 2 (by decide) (ht _ m_51) (fun _ h9 => h9) rfl d_B_addPoint_74 ?_
            refine lv_iload hx hb d_B_addPoint_77 (lv_at hl 0 rfl) ?_
            refine lv_iload_n hx hb d_B_addPoint_79 rfl (lv_at hl 4 rfl) ?_
            obtain ⟨hi17, hf⟩ := oIn_some hf
            refine va_iast hx hb hK hP hD hS 3 0 rfl rfl hi17 d_B_addPoint_80 (fun H locs hP hD hS => ?_)
            obtain ⟨a18, ea18, hf⟩ := oLet_ex hf
            have hP : va_P (dC, dI) vwCl (w_B qB qBx qBy qBz qBa qBb qBc qBd qBs cI cJ nP nQ a14 a16 a18 bA bB bC bD bS) H := by rw [ea18]; exact hP
            have hD : va_D A (w_B qB qBx qBy qBz qBa qBb qBc qBd qBs cI cJ nP nQ a14 a16 a18 bA bB bC bD bS) := by rw [ea18]; exact hD
            refine lv_aload_n hx hb d_B_addPoint_81 rfl (lv_at hl 1 rfl) ?_
            refine lv_dup hx hb d_B_addPoint_82 rfl ?_
            refine va_get (D := (dC, dI)) (ci := 0) (v := .int nP) (C := R_B) (T := T_B) (N := 10) hx hb ht in_B hown hK hP 0 rfl rfl 3 (by decide) (ht _ m_52) (fun _ h9 => h9) rfl d_B_addPoint_83 ?_
            refine lv_iconst (v := 1) hx hb d_B_addPoint_86 (by decide) ?_
            refine lv_iadd hx hb d_B_addPoint_87 ?_
            refine lv_topi (fun v19 ev19 => ?_)
            have hf := oLet_some hf ev19
            refine va_put (D := (dC, dI)) (ci := 0) (v := .int v19) (ty := .int) (C := R_B) (T := T_B) (N := 10) hx hb ht in_B t_B t_B_ok n_B hown hK hP hD hS 0 rfl rfl 3 (by decide) (ht _ m_52) (fun _ h9 => h9) rfl (by decide +kernel) rfl rfl (Nat.le_of_ble_eq_true rfl) d_B_addPoint_88 (fun H locs hP hD hS => ?_)
            have hP : va_P (dC, dI) vwCl (w_B qB qBx qBy qBz qBa qBb qBc qBd qBs cI cJ v19 nQ a14 a16 a18 bA bB bC bD bS) H := hP
            have hD : va_D A (w_B qB qBx qBy qBz qBa qBb qBc qBd qBs cI cJ v19 nQ a14 a16 a18 bA bB bC bD bS) := hD
            refine lv_iconst (v := 0) hx hb d_B_addPoint_91 (by decide) ?_
            refine lv_istore (lv' := [(5, .int 0), (4, .int nP), (0, .ref qB), (1, .int x1), (2, .int x2), (3, .int x3)]) hx hb d_B_addPoint_92 hl (by decide) rfl (fun ls hl => ?_)
            exact ofX _ _ _ _ _ (K94 nP v19 a14 a16 a18 _ 0 bS _ _ _ hf hP hD hS (lv_sub hl [2, 1, 0] rfl))
          · have hf := oIf_f hf c12
            refine lv_iconst (v := (-1)) hx hb d_B_addPoint_49 (by decide) ?_
            cases hf
            exact W.iret hx hb hr (fun t ht hW => ⟨⟨_, (), rfl, rfl, by rw [ht]; exact hP, hD⟩, hS.F ht⟩) hS.2.2 d_B_addPoint_50
      · have hf := oIf_t hf c9
        refine lv_iconst (v := (-1)) hx hb d_B_addPoint_27 (by decide) ?_
        cases hf
        exact W.iret hx hb hr (fun t ht hW => ⟨⟨_, (), rfl, rfl, by rw [ht]; exact hP, hD⟩, hS.F ht⟩) hS.2.2 d_B_addPoint_28
set_option maxHeartbeats 4000000 in
set_option maxRecDepth 100000 in
theorem c_B_addPlane (l : Launch) (dC : Nat → ClassId) (dI : Nat → Nat → Nat) (qB qBx qBy qBz qBa qBb qBc qBd qBs : Nat) (cI cJ cQ : ClassId) (sz : Nat) (nP : Int32) (nQ : Int32) (bX : Nat → Int32) (bY : Nat → Int32) (bZ : Nat → Int32) (bA : Nat → Int32) (bB : Nat → Int32) (bC : Nat → Int32) (bD : Nat → Int32) (bS : Nat → Int64) (x1 : Int32) (x2 : Int32) (x3 : Int32) (x4 : Int32) (r_ : Int32) (o_nQ : Int32) (o_bA : Nat → Int32) (o_bB : Nat → Int32) (o_bC : Nat → Int32) (o_bD : Nat → Int32) (o_bS : Nat → Int64) (hf : f_B_addPlane nP nQ bX bY bZ bA bB bC bD bS x1 x2 x3 x4 = some (r_, o_nQ, o_bA, o_bB, o_bC, o_bD, o_bS)) : Met l y_B_addPlane w_B_addPlane ({ frames := 1, cells := 0, slots := 0, locals := 25 }) (va_Pc [.ref qB, .int x1, .int x2, .int x3, .int x4] (fun U => U.heap.size = sz ∧ va_P (dC, dI) vwCl (w_B qB qBx qBy qBz qBa qBb qBc qBd qBs cI cJ nP nQ bX bY bZ bA bB bC bD bS) U.heap ∧ va_K (dC, dI) vwCl [(cI, .int), (cJ, .long), (cQ, .object "CutBodies$Contents")] U ∧ nestZ U ∧ va_D (fun _ => True) (w_B qB qBx qBy qBz qBa qBb qBc qBd qBs cI cJ nP nQ bX bY bZ bA bB bC bD bS))) (va_Qi (fun (r9 : Int32) (_ : Unit) => r9 = r_) (fun _ t => va_P (dC, dI) vwCl (w_B qB qBx qBy qBz qBa qBb qBc qBd qBs cI cJ nP o_nQ bX bY bZ o_bA o_bB o_bC o_bD o_bS) t.heap ∧ va_D (va_A (w_B qB qBx qBy qBz qBa qBb qBc qBd qBs cI cJ nP nQ bX bY bZ bA bB bC bD bS) sz) (w_B qB qBx qBy qBz qBa qBb qBc qBd qBs cI cJ nP o_nQ bX bY bZ o_bA o_bB o_bC o_bD o_bS)) (va_A (w_B qB qBx qBy qBz qBa qBb qBc qBd qBs cI cJ nP nQ bX bY bZ bA bB bC bD bS) sz)) 0 0 (va_A (w_B qB qBx qBy qBz qBa qBb qBc qBd qBs cI cJ nP nQ bX bY bZ bA bB bC bD bS) sz) := by
  refine Met.ofW (cc := b_B_addPlane) (maxL := 7) (ret := (some .int)) (by decide) rfl ?_
  intro p e s m args below meth c s₁ B hml hv
  obtain ⟨rfl, hsz, hP, hK, hZ, hD0⟩ := hv
  have hx := B.exec
  have hb := B.bytes
  have hr := B.returns
  have hts := atoms_spec (ws := w_B_addPlane) B.pre
  have ht : ∀ w ∈ wAll, w.before _ s = true := fun w h => hts w (List.mem_cons_of_mem _ h)
  have hown : s.vm.findClass R_B = some m.cls := findClass_of_methodNamed B.named
  have hlocks := B.notSynchronized
  subst hsz
  have hD := hD0.self (sz := s.heap.size)
  generalize hAe : va_A (w_B qB qBx qBy qBz qBa qBb qBc qBd qBs cI cJ nP nQ bX bY bZ bA bB bC bD bS) s.heap.size = A at hD ⊢
  have hA : ∀ q : Nat, s.heap.size ≤ q → A q := fun q h => by rw [← hAe]; exact Or.inr h
  have hS : va_S A s.heap s.heap [] := va_S.rf
  have hP : va_P (dC, dI) vwCl (w_B qB qBx qBy qBz qBa qBb qBc qBd qBs cI cJ nP nQ bX bY bZ bA bB bC bD bS) s.heap := hP
  have hl := lv_entry ([.ref qB, .int x1, .int x2, .int x3, .int x4]) (n := 7) (Nat.le_of_ble_eq_true rfl)
  rw [lg_entry_eq]
  generalize (lg_sl ([.ref qB, .int x1, .int x2, .int x3, .int x4]) ++ List.replicate (7 - (lg_sl ([.ref qB, .int x1, .int x2, .int x3, .int x4])).length) Slot.unset).toArray = ls at hl ⊢
  have hl : lv_has ls 7 [(0, .ref qB), (1, .int x1), (2, .int x2), (3, .int x3), (4, .int x4)] := hl
  refine w_abs (fun Wx toX ofX => ?_)
  have K116 : ∀ (x5 : Int32) (nQ : Int32) (bA : Nat → Int32) (bB : Nat → Int32) (bC : Nat → Int32) (bD : Nat → Int32) (n : Nat) (x6 : Int32) (bS : Nat → Int64) (H : Heap) (locs : List Loc) (ls : Array Slot), oLoop2 (f_B_addPlane_L116  nP bX bY bZ x5 nQ bA bB bC bD) n x6 bS = some (r_, o_nQ, o_bA, o_bB, o_bC, o_bD, o_bS) → va_P (dC, dI) vwCl (w_B qB qBx qBy qBz qBa qBb qBc qBd qBs cI cJ nP nQ bX bY bZ bA bB bC bD bS) H → va_D A (w_B qB qBx qBy qBz qBa qBb qBc qBd qBs cI cJ nP nQ bX bY bZ bA bB bC bD bS) → va_S A s.heap H locs → lv_has ls 7 [(0, .ref qB), (5, .int x5), (6, .int x6)] → Wx H locs 0 0 (F0 m 116 ls []) := by
    intro x5 nQ bA bB bC bD n
    induction n with
    | zero => intro x6 bS H locs ls hf; exact (oLoop2_0 hf).elim
    | succ n ih116 =>
      obtain ⟨rec116, hrec116⟩ : ∃ z, z = oLoop2 (f_B_addPlane_L116  nP bX bY bZ x5 nQ bA bB bC bD) n := ⟨_, rfl⟩
      rw [← hrec116] at ih116
      intro x6 bS H locs ls hf hP hD hS hl
      refine toX _ _ _ _ _ ?_
      have hf := oLoop2_s hf
      rw [← hrec116] at hf
      unfold f_B_addPlane_L116 at hf
      refine lv_iload hx hb d_B_addPlane_116 (lv_at hl 2 rfl) ?_
      refine lv_aload_n hx hb d_B_addPlane_118 rfl (lv_at hl 0 rfl) ?_
      refine va_get (D := (dC, dI)) (ci := 0) (v := .int nP) (C := R_B) (T := T_B) (N := 10) hx hb ht in_B hown hK hP 0 rfl rfl 3 (by decide) (ht _ m_52) (fun _ h9 => h9) rfl d_B_addPlane_119 ?_
      refine lv_icmp_ge (tgt := 139) hx hb d_B_addPlane_122 (by decide) (fun c1 => ?_) (fun c1 => ?_)
      · have hf := oIf_t hf c1
        refine lv_iload hx hb d_B_addPlane_139 (lv_at hl 1 rfl) ?_
        cases hf
        exact W.iret hx hb hr (fun t ht hW => ⟨⟨_, (), rfl, rfl, by rw [ht]; exact hP, hD⟩, hS.F ht⟩) hS.2.2 d_B_addPlane_141
      · have hf := oIf_f hf c1
        refine lv_aload_n hx hb d_B_addPlane_125 rfl (lv_at hl 0 rfl) ?_
        refine lv_iload hx hb d_B_addPlane_126 (lv_at hl 2 rfl) ?_
        refine lv_iload hx hb d_B_addPlane_128 (lv_at hl 1 rfl) ?_
        obtain ⟨o2, hfc, hf⟩ := oCall1_some hf
        have hPc := hP.sub (ws' := (w_B qB qBx qBy qBz qBa qBb qBc qBd qBs cI cJ nP nQ bX bY bZ bA bB bC bD bS)) [0, 1, 2, 3, 4, 5, 6, 7, 8] rfl
        have hDc := hD.sub (ws' := (w_B qB qBx qBy qBz qBa qBb qBc qBd qBs cI cJ nP nQ bX bY bZ bA bB bC bD bS)) [0, 1, 2, 3, 4, 5, 6, 7, 8] (by decide) rfl
        have hFc := va_free (wc := (w_B qB qBx qBy qBz qBa qBb qBc qBd qBs cI cJ nP nQ bX bY bZ bA bB bC bD bS)) hD hS hA [0, 1, 2, 3, 4, 5, 6, 7, 8] rfl
        refine va_callv (va_runV (As := [.int x6, .int x5]) (rest := []) ⟨hx, hb, hml, hown, ht⟩ (c_B_noteSide l dC dI qB qBx qBy qBz qBa qBb qBc qBd qBs cI cJ cQ H.size nP nQ bX bY bZ bA bB bC bD bS x6 x5 o2 hfc) (cwV 2 ht (gV m_146 m_148 m_0 m_29 m_149) rfl rfl rfl (by decide +kernel) ⟨Nat.le_of_ble_eq_true rfl, Nat.le_of_ble_eq_true rfl⟩) (preMV hPc hK hZ hDc (va_recv hK hPc (ci := 0) (q0 := 0) rfl rfl)) rfl rfl hl.1 rfl (lv_room (Nat.le_of_ble_eq_true rfl)) d_B_addPlane_130 ⟨Nat.le_of_ble_eq_true rfl, Nat.le_of_ble_eq_true rfl⟩) hS (fun q _ h => hFc q h) hFc (fun u t H1 locs ht9 hvm hw hB hz1 hk1 hS => ?_)
        obtain ⟨hP1, hD1⟩ := hB
        rw [ht9] at hP1
        obtain ⟨hP, hD⟩ := va_join (wr := []) (w1 := (w_B qB qBx qBy qBz qBa qBb qBc qBd qBs cI cJ nP nQ bX bY bZ bA bB bC bD o2)) hP hD [0, 1, 2, 3, 4, 5, 6, 7, 8] [] rfl rfl (by decide) (by decide) hk1 hFc hP1 hD1
        have hP := hP.sub (ws' := (w_B qB qBx qBy qBz qBa qBb qBc qBd qBs cI cJ nP nQ bX bY bZ bA bB bC bD o2)) [0, 1, 2, 3, 4, 5, 6, 7, 8] rfl
        have hD := hD.sub (ws' := (w_B qB qBx qBy qBz qBa qBb qBc qBd qBs cI cJ nP nQ bX bY bZ bA bB bC bD o2)) [0, 1, 2, 3, 4, 5, 6, 7, 8] (by decide) rfl
        clear hPc hDc hFc hP1 hD1 hz1 hk1 ht9 hvm hfc
        generalize H1 = H at hP hS ⊢
        obtain ⟨v3, ev3, hf⟩ := oLet_ex hf
        refine lv_iinc (v := v3) (lv' := [(6, .int v3), (0, .ref qB), (5, .int x5)]) hx hb d_B_addPlane_133 hl (k := 2) rfl (by rw [ev3]; rfl) (by decide) rfl (fun ls hl => ?_)
        refine lv_goto (tgt := 116) hx hb d_B_addPlane_136 (by decide) ?_
        exact ofX _ _ _ _ _ (ih116 v3 o2 _ _ _ hf hP hD hS (lv_sub hl [1, 2, 0] rfl))
  have K41 : ∀ (x1 : Int32) (x2 : Int32) (x3 : Int32) (x4 : Int32) (nQ : Int32) (bA : Nat → Int32) (bB : Nat → Int32) (bC : Nat → Int32) (bD : Nat → Int32) (bS : Nat → Int64) (H : Heap) (locs : List Loc) (ls : Array Slot), f_B_addPlane_J41  nP bX bY bZ x1 x2 x3 x4 nQ bA bB bC bD bS = some (r_, o_nQ, o_bA, o_bB, o_bC, o_bD, o_bS) → va_P (dC, dI) vwCl (w_B qB qBx qBy qBz qBa qBb qBc qBd qBs cI cJ nP nQ bX bY bZ bA bB bC bD bS) H → va_D A (w_B qB qBx qBy qBz qBa qBb qBc qBd qBs cI cJ nP nQ bX bY bZ bA bB bC bD bS) → va_S A s.heap H locs → lv_has ls 7 [(0, .ref qB), (1, .int x1), (2, .int x2), (3, .int x3), (4, .int x4)] → Wx H locs 0 0 (F0 m 41 ls []) := by
    intro x1 x2 x3 x4 nQ bA bB bC bD bS H locs ls hf hP hD hS hl
    refine toX _ _ _ _ _ ?_
    unfold f_B_addPlane_J41 at hf
    refine lv_iload hx hb d_B_addPlane_41 (lv_at hl 4 rfl) ?_
    refine lv_bipush (v := 99) hx hb d_B_addPlane_43 (by decide) ?_
    obtain ⟨r4z, hfc, hf⟩ := oCall1_some hf
    have hPc := hP.sub (ws' := []) [] rfl
    refine vp_callSi (va_runSN (As := [.int x4, .int 99]) (rest := []) ⟨hx, hb, hml, hown, ht⟩ (c_X_isWithin l dC dI cI cJ cQ x4 99 r4z hfc) ⟨va_cnB 2 ht (gA m_141) rfl rfl rfl (hZ.1 _ (List.mem_of_getElem? (i := 0) rfl)) (ht _ m_28) (by decide +kernel) ⟨Nat.le_of_ble_eq_true rfl, Nat.le_of_ble_eq_true rfl⟩, ht _ m_140, trivial⟩ (preR hPc hK hZ) rfl rfl hl.1 rfl (lv_room (Nat.le_of_ble_eq_true rfl)) d_B_addPlane_45 ⟨Nat.le_of_ble_eq_true rfl, Nat.le_of_ble_eq_true rfl⟩).run (fun r4 hw => ?_)
    subst hw
    clear hPc hfc
    refine lv_if_ne (tgt := 53) hx hb d_B_addPlane_48 (by decide) (fun c5 => ?_) (fun c5 => ?_)
    · have hf := oIf_f hf c5
      refine lv_aload_n hx hb d_B_addPlane_53 rfl (lv_at hl 0 rfl) ?_
      refine va_get (D := (dC, dI)) (ci := 0) (v := .int nQ) (C := R_B) (T := T_B) (N := 10) hx hb ht in_B hown hK hP 0 rfl rfl 8 (by decide) (ht _ m_58) (fun _ h9 => h9) rfl d_B_addPlane_54 ?_
      refine lv_bipush (v := 20) hx hb d_B_addPlane_57 (by decide) ?_
      refine lv_icmp_lt (tgt := 64) hx hb d_B_addPlane_59 (by decide) (fun c6 => ?_) (fun c6 => ?_)
      · have hf := oIf_t hf c6
        refine lv_aload_n hx hb d_B_addPlane_64 rfl (lv_at hl 0 rfl) ?_
        refine va_get (D := (dC, dI)) (ci := 0) (v := .int nQ) (C := R_B) (T := T_B) (N := 10) hx hb ht in_B hown hK hP 0 rfl rfl 8 (by decide) (ht _ m_58) (fun _ h9 => h9) rfl d_B_addPlane_65 ?_
        refine lv_istore (lv' := [(5, .int nQ), (0, .ref qB), (1, .int x1), (2, .int x2), (3, .int x3), (4, .int x4)]) hx hb d_B_addPlane_68 hl (by decide) rfl (fun ls hl => ?_)
        refine lv_aload_n hx hb d_B_addPlane_70 rfl (lv_at hl 1 rfl) ?_
        refine va_get (D := (dC, dI)) (ci := 0) (v := .ref qBa) (C := R_B) (T := T_B) (N := 10) hx hb ht in_B hown hK hP 0 rfl rfl 4 (by decide) (ht _ m_54) (fun _ h9 => h9) rfl d_B_addPlane_71 ?_
        refine lv_iload hx hb d_B_addPlane_74 (lv_at hl 0 rfl) ?_
        refine lv_iload_n hx hb d_B_addPlane_76 rfl (lv_at hl 2 rfl) ?_
        obtain ⟨hi7, hf⟩ := oIn_some hf
        refine va_iast hx hb hK hP hD hS 4 0 rfl rfl hi7 d_B_addPlane_77 (fun H locs hP hD hS => ?_)
        obtain ⟨a8, ea8, hf⟩ := oLet_ex hf
        have hP : va_P (dC, dI) vwCl (w_B qB qBx qBy qBz qBa qBb qBc qBd qBs cI cJ nP nQ bX bY bZ a8 bB bC bD bS) H := by rw [ea8]; exact hP
        have hD : va_D A (w_B qB qBx qBy qBz qBa qBb qBc qBd qBs cI cJ nP nQ bX bY bZ a8 bB bC bD bS) := by rw [ea8]; exact hD
        refine lv_aload_n hx hb d_B_addPlane_78 rfl (lv_at hl 1 rfl) ?_
        refine va_get (D := (dC, dI)) (ci := 0) (v := .ref qBb) (C := R_B) (T := T_B) (N := 10) hx hb ht in_B hown hK hP 0 rfl rfl 5 (by decide) (ht _ m_55) (fun _ h9 => h9) rfl d_B_addPlane_79 ?_
        refine lv_iload hx hb d_B_addPlane_82 (lv_at hl 0 rfl) ?_
        refine lv_iload_n hx hb d_B_addPlane_84 rfl (lv_at hl 3 rfl) ?_
        obtain ⟨hi9, hf⟩ := oIn_some hf
        refine va_iast hx hb hK hP hD hS 5 0 rfl rfl hi9 d_B_addPlane_85 (fun H locs hP hD hS => ?_)
        obtain ⟨a10, ea10, hf⟩ := oLet_ex hf
        have hP : va_P (dC, dI) vwCl (w_B qB qBx qBy qBz qBa qBb qBc qBd qBs cI cJ nP nQ bX bY bZ a8 a10 bC bD bS) H := by rw [ea10]; exact hP
        have hD : va_D A (w_B qB qBx qBy qBz qBa qBb qBc qBd qBs cI cJ nP nQ bX bY bZ a8 a10 bC bD bS) := by rw [ea10]; exact hD
        refine lv_aload_n hx hb d_B_addPlane_86 rfl (lv_at hl 1 rfl) ?_
        refine va_get (D := (dC, dI)) (ci := 0) (v := .ref qBc) (C := R_B) (T := T_B) (N := 10) hx hb ht in_B hown hK hP 0 rfl rfl 6 (by decide) (ht _ m_56) (fun _ h9 => h9) rfl d_B_addPlane_87 ?_
        refine lv_iload hx hb d_B_addPlane_90 (lv_at hl 0 rfl) ?_
        refine lv_iload_n hx hb d_B_addPlane_92 rfl (lv_at hl 4 rfl) ?_
        obtain ⟨hi11, hf⟩ := oIn_some hf
        refine va_iast hx hb hK hP hD hS 6 0 rfl rfl hi11 d_B_addPlane_93 (fun H locs hP hD hS => ?_)
        obtain ⟨a12, ea12, hf⟩ := oLet_ex hf
        have hP : va_P (dC, dI) vwCl (w_B qB qBx qBy qBz qBa qBb qBc qBd qBs cI cJ nP nQ bX bY bZ a8 a10 a12 bD bS) H := by rw [ea12]; exact hP
        have hD : va_D A (w_B qB qBx qBy qBz qBa qBb qBc qBd qBs cI cJ nP nQ bX bY bZ a8 a10 a12 bD bS) := by rw [ea12]; exact hD
        refine lv_aload_n hx hb d_B_addPlane_94 rfl (lv_at hl 1 rfl) ?_
        refine va_get (D := (dC, dI)) (ci := 0) (v := .ref qBd) (C := R_B) (T := T_B) (N := 10) hx hb ht in_B hown hK hP 0 rfl rfl 7 (by decide) (ht _ m_57) (fun _ h9 => h9) rfl d_B_addPlane_95 ?_
        refine lv_iload hx hb d_B_addPlane_98 (lv_at hl 0 rfl) ?_
        refine lv_iload hx hb d_B_addPlane_100 (lv_at hl 5 rfl) ?_
        obtain ⟨hi13, hf⟩ := oIn_some hf
        refine va_iast hx hb hK hP hD hS 7 0 rfl rfl hi13 d_B_addPlane_102 (fun H locs hP hD hS => ?_)
        obtain ⟨a14, ea14, hf⟩ := oLet_ex hf
        have hP : va_P (dC, dI) vwCl (w_B qB qBx qBy qBz qBa qBb qBc qBd qBs cI cJ nP nQ bX bY bZ a8 a10 a12 a14 bS) H := by rw [ea14]; exact hP
        have hD : va_D A (w_B qB qBx qBy qBz qBa qBb qBc qBd qBs cI cJ nP nQ bX bY bZ a8 a10 a12 a14 bS) := by rw [ea14]; exact hD
        refine lv_aload_n hx hb d_B_addPlane_103 rfl (lv_at hl 1 rfl) ?_
        refine lv_dup hx hb d_B_addPlane_104 rfl ?_
        refine va_get (D := (dC, dI)) (ci := 0) (v := .int nQ) (C := R_B) (T := T_B) (N := 10) hx hb ht in_B hown hK hP 0 rfl rfl 8 (by decide) (ht _ m_58) (fun _ h9 => h9) rfl d_B_addPlane_105 ?_
        refine lv_iconst (v := 1) hx hb d_B_addPlane_108 (by decide) ?_
        refine lv_iadd hx hb d_B_addPlane_109 ?_
        refine lv_topi (fun v15 ev15 => ?_)
        have hf := oLet_some hf ev15
        refine va_put (D := (dC, dI)) (ci := 0) (v := .int v15) (ty := .int) (C := R_B) (T := T_B) (N := 10) hx hb ht in_B t_B t_B_ok n_B hown hK hP hD hS 0 rfl rfl 8 (by decide) (ht _ m_58) (fun _ h9 => h9) rfl (by decide +kernel) rfl rfl (Nat.le_of_ble_eq_true rfl) d_B_addPlane_110 (fun H locs hP hD hS => ?_)
        have hP : va_P (dC, dI) vwCl (w_B qB qBx qBy qBz qBa qBb qBc qBd qBs cI cJ nP v15 bX bY bZ a8 a10 a12 a14 bS) H := hP
        have hD : va_D A (w_B qB qBx qBy qBz qBa qBb qBc qBd qBs cI cJ nP v15 bX bY bZ a8 a10 a12 a14 bS) := hD
        refine lv_iconst (v := 0) hx hb d_B_addPlane_113 (by decide) ?_
        refine lv_istore (lv' := [(6, .int 0), (5, .int nQ), (0, .ref qB), (1, .int x1), (2, .int x2), (3, .int x3), (4, .int x4)]) hx hb d_B_addPlane_114 hl (by decide) rfl (fun ls hl => ?_)
        exact ofX _ _ _ _ _ (K116 nQ v15 a8 a10 a12 a14 _ 0 bS _ _ _ hf hP hD hS (lv_sub hl [2, 1, 0] rfl))
      · have hf := oIf_f hf c6
        refine lv_iconst (v := (-1)) hx hb d_B_addPlane_62 (by decide) ?_
        cases hf
        exact W.iret hx hb hr (fun t ht hW => ⟨⟨_, (), rfl, rfl, by rw [ht]; exact hP, hD⟩, hS.F ht⟩) hS.2.2 d_B_addPlane_63
    · have hf := oIf_t hf c5
      refine lv_iconst (v := (-1)) hx hb d_B_addPlane_51 (by decide) ?_
      cases hf
      exact W.iret hx hb hr (fun t ht hW => ⟨⟨_, (), rfl, rfl, by rw [ht]; exact hP, hD⟩, hS.F ht⟩) hS.2.2 d_B_addPlane_52
  refine toX _ _ _ _ _ ?_
  unfold f_B_addPlane at hf
  obtain ⟨H, hH⟩ : ∃ z, z = s.heap := ⟨_, rfl⟩
  have hS : va_S A s.heap H [] := by rw [hH]; exact hS
  have hP : va_P (dC, dI) vwCl (w_B qB qBx qBy qBz qBa qBb qBc qBd qBs cI cJ nP nQ bX bY bZ bA bB bC bD bS) H := by rw [hH]; exact hP
  refine w_heap hH ?_
  refine lv_iload_n hx hb d_B_addPlane_0 rfl (lv_at hl 1 rfl) ?_
  refine lv_bipush (v := 9) hx hb d_B_addPlane_1 (by decide) ?_
  obtain ⟨r16z, hfc, hf⟩ := oCall1_some hf
  have hPc := hP.sub (ws' := []) [] rfl
  refine vp_callSi (va_runSN (As := [.int x1, .int 9]) (rest := []) ⟨hx, hb, hml, hown, ht⟩ (c_X_isWithin l dC dI cI cJ cQ x1 9 r16z hfc) ⟨va_cnB 2 ht (gA m_141) rfl rfl rfl (hZ.1 _ (List.mem_of_getElem? (i := 0) rfl)) (ht _ m_28) (by decide +kernel) ⟨Nat.le_of_ble_eq_true rfl, Nat.le_of_ble_eq_true rfl⟩, ht _ m_140, trivial⟩ (preR hPc hK hZ) rfl rfl hl.1 rfl (lv_room (Nat.le_of_ble_eq_true rfl)) d_B_addPlane_3 ⟨Nat.le_of_ble_eq_true rfl, Nat.le_of_ble_eq_true rfl⟩).run (fun r16 hw => ?_)
  subst hw
  clear hPc hfc
  refine lv_if_eq (tgt := 27) hx hb d_B_addPlane_6 (by decide) (fun c17 => ?_) (fun c17 => ?_)
  · have hf := oIf_t hf c17
    refine lv_iconst (v := (-1)) hx hb d_B_addPlane_27 (by decide) ?_
    cases hf
    exact W.iret hx hb hr (fun t ht hW => ⟨⟨_, (), rfl, rfl, by rw [ht]; exact hP, hD⟩, hS.F ht⟩) hS.2.2 d_B_addPlane_28
  · have hf := oIf_f hf c17
    refine lv_iload_n hx hb d_B_addPlane_9 rfl (lv_at hl 2 rfl) ?_
    refine lv_bipush (v := 9) hx hb d_B_addPlane_10 (by decide) ?_
    obtain ⟨r18z, hfc, hf⟩ := oCall1_some hf
    have hPc := hP.sub (ws' := []) [] rfl
    refine vp_callSi (va_runSN (As := [.int x2, .int 9]) (rest := []) ⟨hx, hb, hml, hown, ht⟩ (c_X_isWithin l dC dI cI cJ cQ x2 9 r18z hfc) ⟨va_cnB 2 ht (gA m_141) rfl rfl rfl (hZ.1 _ (List.mem_of_getElem? (i := 0) rfl)) (ht _ m_28) (by decide +kernel) ⟨Nat.le_of_ble_eq_true rfl, Nat.le_of_ble_eq_true rfl⟩, ht _ m_140, trivial⟩ (preR hPc hK hZ) rfl rfl hl.1 rfl (lv_room (Nat.le_of_ble_eq_true rfl)) d_B_addPlane_12 ⟨Nat.le_of_ble_eq_true rfl, Nat.le_of_ble_eq_true rfl⟩).run (fun r18 hw => ?_)
    subst hw
    clear hPc hfc
    refine lv_if_eq (tgt := 27) hx hb d_B_addPlane_15 (by decide) (fun c19 => ?_) (fun c19 => ?_)
    · have hf := oIf_t hf c19
      refine lv_iconst (v := (-1)) hx hb d_B_addPlane_27 (by decide) ?_
      cases hf
      exact W.iret hx hb hr (fun t ht hW => ⟨⟨_, (), rfl, rfl, by rw [ht]; exact hP, hD⟩, hS.F ht⟩) hS.2.2 d_B_addPlane_28
    · have hf := oIf_f hf c19
      refine lv_iload_n hx hb d_B_addPlane_18 rfl (lv_at hl 3 rfl) ?_
      refine lv_bipush (v := 9) hx hb d_B_addPlane_19 (by decide) ?_
      obtain ⟨r20z, hfc, hf⟩ := oCall1_some hf
      have hPc := hP.sub (ws' := []) [] rfl
      refine vp_callSi (va_runSN (As := [.int x3, .int 9]) (rest := []) ⟨hx, hb, hml, hown, ht⟩ (c_X_isWithin l dC dI cI cJ cQ x3 9 r20z hfc) ⟨va_cnB 2 ht (gA m_141) rfl rfl rfl (hZ.1 _ (List.mem_of_getElem? (i := 0) rfl)) (ht _ m_28) (by decide +kernel) ⟨Nat.le_of_ble_eq_true rfl, Nat.le_of_ble_eq_true rfl⟩, ht _ m_140, trivial⟩ (preR hPc hK hZ) rfl rfl hl.1 rfl (lv_room (Nat.le_of_ble_eq_true rfl)) d_B_addPlane_21 ⟨Nat.le_of_ble_eq_true rfl, Nat.le_of_ble_eq_true rfl⟩).run (fun r20 hw => ?_)
      subst hw
      clear hPc hfc
      refine lv_if_ne (tgt := 29) hx hb d_B_addPlane_24 (by decide) (fun c21 => ?_) (fun c21 => ?_)
      · have hf := oIf_f hf c21
        refine lv_iload_n hx hb d_B_addPlane_29 rfl (lv_at hl 1 rfl) ?_
        refine lv_if_ne (tgt := 41) hx hb d_B_addPlane_30 (by decide) (fun c22 => ?_) (fun c22 => ?_)
        · have hf := oIf_f hf c22
          exact ofX _ _ _ _ _ (K41  x1 x2 x3 x4 nQ bA bB bC bD bS _ _ _ hf hP hD hS (lv_sub hl [0, 1, 2, 3, 4] rfl))
        · have hf := oIf_t hf c22
          refine lv_iload_n hx hb d_B_addPlane_33 rfl (lv_at hl 2 rfl) ?_
          refine lv_if_ne (tgt := 41) hx hb d_B_addPlane_34 (by decide) (fun c23 => ?_) (fun c23 => ?_)
          · have hf := oIf_f hf c23
            exact ofX _ _ _ _ _ (K41  x1 x2 x3 x4 nQ bA bB bC bD bS _ _ _ hf hP hD hS (lv_sub hl [0, 1, 2, 3, 4] rfl))
          · have hf := oIf_t hf c23
            refine lv_iload_n hx hb d_B_addPlane_37 rfl (lv_at hl 3 rfl) ?_
            refine lv_if_eq (tgt := 51) hx hb d_B_addPlane_38 (by decide) (fun c24 => ?_) (fun c24 => ?_)
            · have hf := oIf_t hf c24
              refine lv_iconst (v := (-1)) hx hb d_B_addPlane_51 (by decide) ?_
              cases hf
              exact W.iret hx hb hr (fun t ht hW => ⟨⟨_, (), rfl, rfl, by rw [ht]; exact hP, hD⟩, hS.F ht⟩) hS.2.2 d_B_addPlane_52
            · have hf := oIf_f hf c24
              exact ofX _ _ _ _ _ (K41  x1 x2 x3 x4 nQ bA bB bC bD bS _ _ _ hf hP hD hS (lv_sub hl [0, 1, 2, 3, 4] rfl))
      · have hf := oIf_t hf c21
        refine lv_iconst (v := (-1)) hx hb d_B_addPlane_27 (by decide) ?_
        cases hf
        exact W.iret hx hb hr (fun t ht hW => ⟨⟨_, (), rfl, rfl, by rw [ht]; exact hP, hD⟩, hS.F ht⟩) hS.2.2 d_B_addPlane_28

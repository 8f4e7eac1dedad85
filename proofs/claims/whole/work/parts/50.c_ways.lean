set_option maxHeartbeats 4000000 in
set_option maxRecDepth 100000 in
theorem c_W_xGoesTo (l : Launch) (dC : Nat → ClassId) (dI : Nat → Nat → Nat) (cI cJ cQ : ClassId) (x0 : Int32) (r_ : Int32) (hf : f_W_xGoesTo x0 = some r_) : Met l y_W_xGoesTo w_W_xGoesTo ({ frames := 0, cells := 0, slots := 0, locals := 0 }) (va_Pc [.int x0] (fun U => va_P (dC, dI) vwCl [] U.heap ∧ va_K (dC, dI) vwCl [(cI, .int), (cJ, .long), (cQ, .object "CutBodies$Contents")] U ∧ nestZ U)) (vp_Si (fun r9 => r9 = r_)) 0 0 (fun _ => False) := by
  refine Met.ofW (cc := b_W_xGoesTo) (maxL := 1) (ret := (some .int)) (by decide) rfl ?_
  intro p e s m args below meth c s₁ B hml hv
  obtain ⟨rfl, hP, hK, hZ⟩ := hv
  have hx := B.exec
  have hb := B.bytes
  have hr := B.returns
  have hts := atoms_spec (ws := w_W_xGoesTo) B.pre
  have ht : ∀ w ∈ wAll, w.before _ s = true := fun w h => hts w (List.mem_cons_of_mem _ h)
  have hown : s.vm.findClass R_W = some m.cls := findClass_of_methodNamed B.named
  have hlocks := B.notSynchronized
  have hP : va_P (dC, dI) vwCl [] s.heap := hP
  have hl := lv_entry ([.int x0]) (n := 1) (Nat.le_of_ble_eq_true rfl)
  rw [lg_entry_eq]
  generalize (lg_sl ([.int x0]) ++ List.replicate (1 - (lg_sl ([.int x0])).length) Slot.unset).toArray = ls at hl ⊢
  have hl : lv_has ls 1 [(0, .int x0)] := hl
  unfold f_W_xGoesTo at hf
  refine lv_iload_n hx hb d_W_xGoesTo_0 rfl (lv_at hl 0 rfl) ?_
  refine lv_iconst (v := 4) hx hb d_W_xGoesTo_1 (by decide) ?_
  refine lv_idiv hx hb d_W_xGoesTo_2 (by decide) ?_
  cases hf
  exact W.iret hx hb hr (fun t ht hW => ⟨_, rfl, rfl, ht⟩) (fun q h => by cases h) d_W_xGoesTo_3
set_option maxHeartbeats 4000000 in
set_option maxRecDepth 100000 in
theorem c_W_yGoesTo (l : Launch) (dC : Nat → ClassId) (dI : Nat → Nat → Nat) (cI cJ cQ : ClassId) (x0 : Int32) (r_ : Int32) (hf : f_W_yGoesTo x0 = some r_) : Met l y_W_yGoesTo w_W_yGoesTo ({ frames := 1, cells := 0, slots := 0, locals := 20 }) (va_Pc [.int x0] (fun U => va_P (dC, dI) vwCl [] U.heap ∧ va_K (dC, dI) vwCl [(cI, .int), (cJ, .long), (cQ, .object "CutBodies$Contents")] U ∧ nestZ U)) (vp_Si (fun r9 => r9 = r_)) 0 0 (fun _ => False) := by
  refine Met.ofW (cc := b_W_yGoesTo) (maxL := 3) (ret := (some .int)) (by decide) rfl ?_
  intro p e s m args below meth c s₁ B hml hv
  obtain ⟨rfl, hP, hK, hZ⟩ := hv
  have hx := B.exec
  have hb := B.bytes
  have hr := B.returns
  have hts := atoms_spec (ws := w_W_yGoesTo) B.pre
  have ht : ∀ w ∈ wAll, w.before _ s = true := fun w h => hts w (List.mem_cons_of_mem _ h)
  have hown : s.vm.findClass R_W = some m.cls := findClass_of_methodNamed B.named
  have hlocks := B.notSynchronized
  have hP : va_P (dC, dI) vwCl [] s.heap := hP
  have hl := lv_entry ([.int x0]) (n := 3) (Nat.le_of_ble_eq_true rfl)
  rw [lg_entry_eq]
  generalize (lg_sl ([.int x0]) ++ List.replicate (3 - (lg_sl ([.int x0])).length) Slot.unset).toArray = ls at hl ⊢
  have hl : lv_has ls 3 [(0, .int x0)] := hl
  unfold f_W_yGoesTo at hf
  refine lv_iload_n hx hb d_W_yGoesTo_0 rfl (lv_at hl 0 rfl) ?_
  refine lv_iconst (v := 4) hx hb d_W_yGoesTo_1 (by decide) ?_
  refine lv_irem hx hb d_W_yGoesTo_2 (by decide) ?_
  refine lv_topi (fun v1 ev1 => ?_)
  have hf := oLet_some hf ev1
  refine lv_istore_n (lv' := [(1, .int v1), (0, .int x0)]) hx hb d_W_yGoesTo_3 rfl hl (by decide) rfl (fun ls hl => ?_)
  refine lv_iload_n hx hb d_W_yGoesTo_4 rfl (lv_at hl 1 rfl) ?_
  obtain ⟨r2z, hfc, hf⟩ := oCall1_some hf
  have hPc := hP.sub (ws' := []) [] rfl
  refine vp_callSi (va_runS (As := [.int x0]) (rest := []) ⟨hx, hb, hml, hown, ht⟩ (c_W_xGoesTo l dC dI cI cJ cQ x0 r2z hfc) (va_cwS 1 ht (gS m_198 m_199 m_33 m_200) rfl rfl rfl (by decide +kernel) ⟨Nat.le_of_ble_eq_true rfl, Nat.le_of_ble_eq_true rfl⟩) (preR hPc hK hZ) rfl rfl hl.1 rfl (lv_room (Nat.le_of_ble_eq_true rfl)) d_W_yGoesTo_5 ⟨Nat.le_of_ble_eq_true rfl, Nat.le_of_ble_eq_true rfl⟩).run (fun r2 hw => ?_)
  subst hw
  clear hPc hfc
  refine lv_iconst (v := 2) hx hb d_W_yGoesTo_8 (by decide) ?_
  refine lv_idiv hx hb d_W_yGoesTo_9 (by decide) ?_
  refine lv_iconst (v := 2) hx hb d_W_yGoesTo_10 (by decide) ?_
  refine lv_imul hx hb d_W_yGoesTo_11 ?_
  refine lv_topi (fun v3 ev3 => ?_)
  have hf := oLet_some hf ev3
  refine lv_istore_n (lv' := [(2, .int v3), (1, .int v1), (0, .int x0)]) hx hb d_W_yGoesTo_12 rfl hl (by decide) rfl (fun ls hl => ?_)
  refine lv_iload_n hx hb d_W_yGoesTo_13 rfl (lv_at hl 1 rfl) ?_
  refine lv_iload_n hx hb d_W_yGoesTo_14 rfl (lv_at hl 0 rfl) ?_
  refine lv_icmp_ge (tgt := 22) hx hb d_W_yGoesTo_15 (by decide) (fun c4 => ?_) (fun c4 => ?_)
  · have hf := oIf_t hf c4
    refine lv_iload_n hx hb d_W_yGoesTo_22 rfl (lv_at hl 1 rfl) ?_
    refine lv_iconst (v := 2) hx hb d_W_yGoesTo_23 (by decide) ?_
    refine lv_iadd hx hb d_W_yGoesTo_24 ?_
    cases hf
    exact W.iret hx hb hr (fun t ht hW => ⟨_, rfl, rfl, ht⟩) (fun q h => by cases h) d_W_yGoesTo_25
  · have hf := oIf_f hf c4
    refine lv_iload_n hx hb d_W_yGoesTo_18 rfl (lv_at hl 1 rfl) ?_
    refine lv_goto (tgt := 25) hx hb d_W_yGoesTo_19 (by decide) ?_
    cases hf
    exact W.iret hx hb hr (fun t ht hW => ⟨_, rfl, rfl, ht⟩) (fun q h => by cases h) d_W_yGoesTo_25
set_option maxHeartbeats 4000000 in
set_option maxRecDepth 100000 in
theorem c_W_zGoesTo (l : Launch) (dC : Nat → ClassId) (dI : Nat → Nat → Nat) (cI cJ cQ : ClassId) (x0 : Int32) (r_ : Int32) (hf : f_W_zGoesTo x0 = some r_) : Met l y_W_zGoesTo w_W_zGoesTo ({ frames := 2, cells := 0, slots := 0, locals := 42 }) (va_Pc [.int x0] (fun U => va_P (dC, dI) vwCl [] U.heap ∧ va_K (dC, dI) vwCl [(cI, .int), (cJ, .long), (cQ, .object "CutBodies$Contents")] U ∧ nestZ U)) (vp_Si (fun r9 => r9 = r_)) 0 0 (fun _ => False) := by
  refine Met.ofW (cc := b_W_zGoesTo) (maxL := 5) (ret := (some .int)) (by decide) rfl ?_
  intro p e s m args below meth c s₁ B hml hv
  obtain ⟨rfl, hP, hK, hZ⟩ := hv
  have hx := B.exec
  have hb := B.bytes
  have hr := B.returns
  have hts := atoms_spec (ws := w_W_zGoesTo) B.pre
  have ht : ∀ w ∈ wAll, w.before _ s = true := fun w h => hts w (List.mem_cons_of_mem _ h)
  have hown : s.vm.findClass R_W = some m.cls := findClass_of_methodNamed B.named
  have hlocks := B.notSynchronized
  have hP : va_P (dC, dI) vwCl [] s.heap := hP
  have hl := lv_entry ([.int x0]) (n := 5) (Nat.le_of_ble_eq_true rfl)
  rw [lg_entry_eq]
  generalize (lg_sl ([.int x0]) ++ List.replicate (5 - (lg_sl ([.int x0])).length) Slot.unset).toArray = ls at hl ⊢
  have hl : lv_has ls 5 [(0, .int x0)] := hl
  refine w_abs (fun Wx toX ofX => ?_)
  have K38 : ∀ (x1 : Int32) (x2 : Int32) (x3 : Int32) (t0 : Int32) (ls : Array Slot), f_W_zGoesTo_J38  x1 x2 x3 t0 = some r_ → lv_has ls 5 [(1, .int x1), (2, .int x2), (3, .int x3)] → Wx s.heap [] 0 0 (F0 m 38 ls [.int t0]) := by
    intro x1 x2 x3 t0 ls hf hl
    refine toX _ _ _ _ _ ?_
    unfold f_W_zGoesTo_J38 at hf
    refine lv_istore (lv' := [(4, .int t0), (1, .int x1), (2, .int x2), (3, .int x3)]) hx hb d_W_zGoesTo_38 hl (by decide) rfl (fun ls hl => ?_)
    refine lv_iconst (v := 2) hx hb d_W_zGoesTo_40 (by decide) ?_
    refine lv_iload_n hx hb d_W_zGoesTo_41 rfl (lv_at hl 3 rfl) ?_
    refine lv_imul hx hb d_W_zGoesTo_42 ?_
    refine lv_iload_n hx hb d_W_zGoesTo_43 rfl (lv_at hl 1 rfl) ?_
    refine lv_iload_n hx hb d_W_zGoesTo_44 rfl (lv_at hl 2 rfl) ?_
    refine lv_iadd hx hb d_W_zGoesTo_45 ?_
    refine lv_iload hx hb d_W_zGoesTo_46 (lv_at hl 0 rfl) ?_
    refine lv_iadd hx hb d_W_zGoesTo_48 ?_
    refine lv_iconst (v := 2) hx hb d_W_zGoesTo_49 (by decide) ?_
    refine lv_irem hx hb d_W_zGoesTo_50 (by decide) ?_
    refine lv_iadd hx hb d_W_zGoesTo_51 ?_
    cases hf
    exact W.iret hx hb hr (fun t ht hW => ⟨_, rfl, rfl, ht⟩) (fun q h => by cases h) d_W_zGoesTo_52
  refine toX _ _ _ _ _ ?_
  unfold f_W_zGoesTo at hf
  refine lv_iload_n hx hb d_W_zGoesTo_0 rfl (lv_at hl 0 rfl) ?_
  obtain ⟨r1z, hfc, hf⟩ := oCall1_some hf
  have hPc := hP.sub (ws' := []) [] rfl
  refine vp_callSi (va_runS (As := [.int x0]) (rest := []) ⟨hx, hb, hml, hown, ht⟩ (c_W_xGoesTo l dC dI cI cJ cQ x0 r1z hfc) (va_cwS 1 ht (gS m_198 m_199 m_33 m_200) rfl rfl rfl (by decide +kernel) ⟨Nat.le_of_ble_eq_true rfl, Nat.le_of_ble_eq_true rfl⟩) (preR hPc hK hZ) rfl rfl hl.1 rfl (lv_room (Nat.le_of_ble_eq_true rfl)) d_W_zGoesTo_1 ⟨Nat.le_of_ble_eq_true rfl, Nat.le_of_ble_eq_true rfl⟩).run (fun r1 hw => ?_)
  subst hw
  clear hPc hfc
  refine lv_istore_n (lv' := [(1, .int r1), (0, .int x0)]) hx hb d_W_zGoesTo_4 rfl hl (by decide) rfl (fun ls hl => ?_)
  refine lv_iload_n hx hb d_W_zGoesTo_5 rfl (lv_at hl 1 rfl) ?_
  obtain ⟨r2z, hfc, hf⟩ := oCall1_some hf
  have hPc := hP.sub (ws' := []) [] rfl
  refine vp_callSi (va_runS (As := [.int x0]) (rest := []) ⟨hx, hb, hml, hown, ht⟩ (c_W_yGoesTo l dC dI cI cJ cQ x0 r2z hfc) (va_cwS 1 ht (gS m_204 m_205 m_33 m_206) rfl rfl rfl (by decide +kernel) ⟨Nat.le_of_ble_eq_true rfl, Nat.le_of_ble_eq_true rfl⟩) (preR hPc hK hZ) rfl rfl hl.1 rfl (lv_room (Nat.le_of_ble_eq_true rfl)) d_W_zGoesTo_6 ⟨Nat.le_of_ble_eq_true rfl, Nat.le_of_ble_eq_true rfl⟩).run (fun r2 hw => ?_)
  subst hw
  clear hPc hfc
  refine lv_istore_n (lv' := [(2, .int r2), (1, .int r1), (0, .int x0)]) hx hb d_W_zGoesTo_9 rfl hl (by decide) rfl (fun ls hl => ?_)
  refine lv_iconst (v := 3) hx hb d_W_zGoesTo_10 (by decide) ?_
  refine lv_iload_n hx hb d_W_zGoesTo_11 rfl (lv_at hl 1 rfl) ?_
  refine lv_iconst (v := 2) hx hb d_W_zGoesTo_12 (by decide) ?_
  refine lv_idiv hx hb d_W_zGoesTo_13 (by decide) ?_
  refine lv_isub hx hb d_W_zGoesTo_14 ?_
  refine lv_iload_n hx hb d_W_zGoesTo_15 rfl (lv_at hl 0 rfl) ?_
  refine lv_iconst (v := 2) hx hb d_W_zGoesTo_16 (by decide) ?_
  refine lv_idiv hx hb d_W_zGoesTo_17 (by decide) ?_
  refine lv_isub hx hb d_W_zGoesTo_18 ?_
  refine lv_topi (fun v3 ev3 => ?_)
  have hf := oLet_some hf ev3
  refine lv_istore_n (lv' := [(3, .int v3), (2, .int r2), (1, .int r1), (0, .int x0)]) hx hb d_W_zGoesTo_19 rfl hl (by decide) rfl (fun ls hl => ?_)
  refine lv_iload_n hx hb d_W_zGoesTo_20 rfl (lv_at hl 2 rfl) ?_
  refine lv_iconst (v := 2) hx hb d_W_zGoesTo_21 (by decide) ?_
  refine lv_idiv hx hb d_W_zGoesTo_22 (by decide) ?_
  refine lv_iconst (v := 1) hx hb d_W_zGoesTo_23 (by decide) ?_
  refine lv_iadd hx hb d_W_zGoesTo_24 ?_
  refine lv_iconst (v := 3) hx hb d_W_zGoesTo_25 (by decide) ?_
  refine lv_irem hx hb d_W_zGoesTo_26 (by decide) ?_
  refine lv_iload_n hx hb d_W_zGoesTo_27 rfl (lv_at hl 1 rfl) ?_
  refine lv_iconst (v := 2) hx hb d_W_zGoesTo_28 (by decide) ?_
  refine lv_idiv hx hb d_W_zGoesTo_29 (by decide) ?_
  refine lv_icmp_ne (tgt := 37) hx hb d_W_zGoesTo_30 (by decide) (fun c4 => ?_) (fun c4 => ?_)
  · have hf := oIf_f hf c4
    refine lv_iconst (v := 1) hx hb d_W_zGoesTo_37 (by decide) ?_
    exact ofX _ _ _ _ _ (K38  r1 r2 v3 1 _ hf (lv_sub hl [2, 1, 0] rfl))
  · have hf := oIf_t hf c4
    refine lv_iconst (v := 0) hx hb d_W_zGoesTo_33 (by decide) ?_
    refine lv_goto (tgt := 38) hx hb d_W_zGoesTo_34 (by decide) ?_
    exact ofX _ _ _ _ _ (K38  r1 r2 v3 0 _ hf (lv_sub hl [2, 1, 0] rfl))
set_option maxHeartbeats 4000000 in
set_option maxRecDepth 100000 in
theorem c_W_numberOf (l : Launch) (dC : Nat → ClassId) (dI : Nat → Nat → Nat) (cI cJ cQ : ClassId) (x0 : Int32) (x1 : Int32) (r_ : Int32) (hf : f_W_numberOf x0 x1 = some r_) : Met l y_W_numberOf w_W_numberOf ({ frames := 0, cells := 0, slots := 0, locals := 0 }) (va_Pc [.int x0, .int x1] (fun U => va_P (dC, dI) vwCl [] U.heap ∧ va_K (dC, dI) vwCl [(cI, .int), (cJ, .long), (cQ, .object "CutBodies$Contents")] U ∧ nestZ U)) (vp_Si (fun r9 => r9 = r_)) 0 0 (fun _ => False) := by
  refine Met.ofW (cc := b_W_numberOf) (maxL := 2) (ret := (some .int)) (by decide) rfl ?_
  intro p e s m args below meth c s₁ B hml hv
  obtain ⟨rfl, hP, hK, hZ⟩ := hv
  have hx := B.exec
  have hb := B.bytes
  have hr := B.returns
  have hts := atoms_spec (ws := w_W_numberOf) B.pre
  have ht : ∀ w ∈ wAll, w.before _ s = true := fun w h => hts w (List.mem_cons_of_mem _ h)
  have hown : s.vm.findClass R_W = some m.cls := findClass_of_methodNamed B.named
  have hlocks := B.notSynchronized
  have hP : va_P (dC, dI) vwCl [] s.heap := hP
  have hl := lv_entry ([.int x0, .int x1]) (n := 2) (Nat.le_of_ble_eq_true rfl)
  rw [lg_entry_eq]
  generalize (lg_sl ([.int x0, .int x1]) ++ List.replicate (2 - (lg_sl ([.int x0, .int x1])).length) Slot.unset).toArray = ls at hl ⊢
  have hl : lv_has ls 2 [(0, .int x0), (1, .int x1)] := hl
  unfold f_W_numberOf at hf
  refine lv_iconst (v := 4) hx hb d_W_numberOf_0 (by decide) ?_
  refine lv_iload_n hx hb d_W_numberOf_1 rfl (lv_at hl 0 rfl) ?_
  refine lv_imul hx hb d_W_numberOf_2 ?_
  refine lv_iload_n hx hb d_W_numberOf_3 rfl (lv_at hl 1 rfl) ?_
  refine lv_iload_n hx hb d_W_numberOf_4 rfl (lv_at hl 0 rfl) ?_
  refine lv_icmp_ge (tgt := 12) hx hb d_W_numberOf_5 (by decide) (fun c1 => ?_) (fun c1 => ?_)
  · have hf := oIf_t hf c1
    refine lv_iload_n hx hb d_W_numberOf_12 rfl (lv_at hl 1 rfl) ?_
    refine lv_iconst (v := 2) hx hb d_W_numberOf_13 (by decide) ?_
    refine lv_isub hx hb d_W_numberOf_14 ?_
    refine lv_iadd hx hb d_W_numberOf_15 ?_
    cases hf
    exact W.iret hx hb hr (fun t ht hW => ⟨_, rfl, rfl, ht⟩) (fun q h => by cases h) d_W_numberOf_16
  · have hf := oIf_f hf c1
    refine lv_iload_n hx hb d_W_numberOf_8 rfl (lv_at hl 1 rfl) ?_
    refine lv_goto (tgt := 15) hx hb d_W_numberOf_9 (by decide) ?_
    refine lv_iadd hx hb d_W_numberOf_15 ?_
    cases hf
    exact W.iret hx hb hr (fun t ht hW => ⟨_, rfl, rfl, ht⟩) (fun q h => by cases h) d_W_numberOf_16
set_option maxHeartbeats 4000000 in
set_option maxRecDepth 100000 in
theorem c_W_directionTo (l : Launch) (dC : Nat → ClassId) (dI : Nat → Nat → Nat) (cI cJ cQ : ClassId) (x0 : Int32) (x1 : Int32) (r_ : Int32) (hf : f_W_directionTo x0 x1 = some r_) : Met l y_W_directionTo w_W_directionTo ({ frames := 3, cells := 0, slots := 0, locals := 66 }) (va_Pc [.int x0, .int x1] (fun U => va_P (dC, dI) vwCl [] U.heap ∧ va_K (dC, dI) vwCl [(cI, .int), (cJ, .long), (cQ, .object "CutBodies$Contents")] U ∧ nestZ U)) (vp_Si (fun r9 => r9 = r_)) 0 0 (fun _ => False) := by
  refine Met.ofW (cc := b_W_directionTo) (maxL := 4) (ret := (some .int)) (by decide) rfl ?_
  intro p e s m args below meth c s₁ B hml hv
  obtain ⟨rfl, hP, hK, hZ⟩ := hv
  have hx := B.exec
  have hb := B.bytes
  have hr := B.returns
  have hts := atoms_spec (ws := w_W_directionTo) B.pre
  have ht : ∀ w ∈ wAll, w.before _ s = true := fun w h => hts w (List.mem_cons_of_mem _ h)
  have hown : s.vm.findClass R_W = some m.cls := findClass_of_methodNamed B.named
  have hlocks := B.notSynchronized
  have hP : va_P (dC, dI) vwCl [] s.heap := hP
  have hl := lv_entry ([.int x0, .int x1]) (n := 4) (Nat.le_of_ble_eq_true rfl)
  rw [lg_entry_eq]
  generalize (lg_sl ([.int x0, .int x1]) ++ List.replicate (4 - (lg_sl ([.int x0, .int x1])).length) Slot.unset).toArray = ls at hl ⊢
  have hl : lv_has ls 4 [(0, .int x0), (1, .int x1)] := hl
  refine w_abs (fun Wx toX ofX => ?_)
  have K31 : ∀ (x1 : Int32) (t0 : Int32) (ls : Array Slot), f_W_directionTo_J31  x1 t0 = some r_ → lv_has ls 4 [(1, .int x1)] → Wx s.heap [] 0 0 (F0 m 31 ls [.int t0]) := by
    intro x1 t0 ls hf hl
    refine toX _ _ _ _ _ ?_
    unfold f_W_directionTo_J31 at hf
    refine lv_istore_n (lv' := [(3, .int t0), (1, .int x1)]) hx hb d_W_directionTo_31 rfl hl (by decide) rfl (fun ls hl => ?_)
    refine lv_iload_n hx hb d_W_directionTo_32 rfl (lv_at hl 0 rfl) ?_
    refine lv_iload_n hx hb d_W_directionTo_33 rfl (lv_at hl 1 rfl) ?_
    refine lv_iconst (v := 1) hx hb d_W_directionTo_34 (by decide) ?_
    refine lv_iand hx hb d_W_directionTo_35 ?_
    refine lv_ixor hx hb d_W_directionTo_36 ?_
    cases hf
    exact W.iret hx hb hr (fun t ht hW => ⟨_, rfl, rfl, ht⟩) (fun q h => by cases h) d_W_directionTo_37
  refine toX _ _ _ _ _ ?_
  unfold f_W_directionTo at hf
  refine lv_iload_n hx hb d_W_directionTo_0 rfl (lv_at hl 1 rfl) ?_
  refine lv_iconst (v := 2) hx hb d_W_directionTo_1 (by decide) ?_
  refine lv_idiv hx hb d_W_directionTo_2 (by decide) ?_
  refine lv_topi (fun v1 ev1 => ?_)
  have hf := oLet_some hf ev1
  refine lv_istore_n (lv' := [(2, .int v1), (0, .int x0), (1, .int x1)]) hx hb d_W_directionTo_3 rfl hl (by decide) rfl (fun ls hl => ?_)
  refine lv_iload_n hx hb d_W_directionTo_4 rfl (lv_at hl 0 rfl) ?_
  refine lv_if_ne (tgt := 15) hx hb d_W_directionTo_5 (by decide) (fun c2 => ?_) (fun c2 => ?_)
  · have hf := oIf_f hf c2
    refine lv_iload_n hx hb d_W_directionTo_15 rfl (lv_at hl 0 rfl) ?_
    refine lv_iconst (v := 1) hx hb d_W_directionTo_16 (by decide) ?_
    refine lv_icmp_ne (tgt := 27) hx hb d_W_directionTo_17 (by decide) (fun c3 => ?_) (fun c3 => ?_)
    · have hf := oIf_f hf c3
      refine lv_iload_n hx hb d_W_directionTo_27 rfl (lv_at hl 1 rfl) ?_
      obtain ⟨r4z, hfc, hf⟩ := oCall1_some hf
      have hPc := hP.sub (ws' := []) [] rfl
      refine vp_callSi (va_runS (As := [.int x0]) (rest := []) ⟨hx, hb, hml, hown, ht⟩ (c_W_zGoesTo l dC dI cI cJ cQ x0 r4z hfc) (va_cwS 1 ht (gS m_207 m_208 m_33 m_209) rfl rfl rfl (by decide +kernel) ⟨Nat.le_of_ble_eq_true rfl, Nat.le_of_ble_eq_true rfl⟩) (preR hPc hK hZ) rfl rfl hl.1 rfl (lv_room (Nat.le_of_ble_eq_true rfl)) d_W_directionTo_28 ⟨Nat.le_of_ble_eq_true rfl, Nat.le_of_ble_eq_true rfl⟩).run (fun r4 hw => ?_)
      subst hw
      clear hPc hfc
      exact ofX _ _ _ _ _ (K31  x1 r4 _ hf (lv_sub hl [2] rfl))
    · have hf := oIf_t hf c3
      refine lv_iload_n hx hb d_W_directionTo_20 rfl (lv_at hl 1 rfl) ?_
      obtain ⟨r5z, hfc, hf⟩ := oCall1_some hf
      have hPc := hP.sub (ws' := []) [] rfl
      refine vp_callSi (va_runS (As := [.int x0]) (rest := []) ⟨hx, hb, hml, hown, ht⟩ (c_W_yGoesTo l dC dI cI cJ cQ x0 r5z hfc) (va_cwS 1 ht (gS m_204 m_205 m_33 m_206) rfl rfl rfl (by decide +kernel) ⟨Nat.le_of_ble_eq_true rfl, Nat.le_of_ble_eq_true rfl⟩) (preR hPc hK hZ) rfl rfl hl.1 rfl (lv_room (Nat.le_of_ble_eq_true rfl)) d_W_directionTo_21 ⟨Nat.le_of_ble_eq_true rfl, Nat.le_of_ble_eq_true rfl⟩).run (fun r5 hw => ?_)
      subst hw
      clear hPc hfc
      refine lv_goto (tgt := 31) hx hb d_W_directionTo_24 (by decide) ?_
      exact ofX _ _ _ _ _ (K31  x1 r5 _ hf (lv_sub hl [2] rfl))
  · have hf := oIf_t hf c2
    refine lv_iload_n hx hb d_W_directionTo_8 rfl (lv_at hl 1 rfl) ?_
    obtain ⟨r6z, hfc, hf⟩ := oCall1_some hf
    have hPc := hP.sub (ws' := []) [] rfl
    refine vp_callSi (va_runS (As := [.int x0]) (rest := []) ⟨hx, hb, hml, hown, ht⟩ (c_W_xGoesTo l dC dI cI cJ cQ x0 r6z hfc) (va_cwS 1 ht (gS m_198 m_199 m_33 m_200) rfl rfl rfl (by decide +kernel) ⟨Nat.le_of_ble_eq_true rfl, Nat.le_of_ble_eq_true rfl⟩) (preR hPc hK hZ) rfl rfl hl.1 rfl (lv_room (Nat.le_of_ble_eq_true rfl)) d_W_directionTo_9 ⟨Nat.le_of_ble_eq_true rfl, Nat.le_of_ble_eq_true rfl⟩).run (fun r6 hw => ?_)
    subst hw
    clear hPc hfc
    refine lv_goto (tgt := 31) hx hb d_W_directionTo_12 (by decide) ?_
    exact ofX _ _ _ _ _ (K31  x1 r6 _ hf (lv_sub hl [2] rfl))
set_option maxHeartbeats 4000000 in
set_option maxRecDepth 100000 in
theorem c_W_compose (l : Launch) (dC : Nat → ClassId) (dI : Nat → Nat → Nat) (cI cJ cQ : ClassId) (x0 : Int32) (x1 : Int32) (r_ : Int32) (hf : f_W_compose x0 x1 = some r_) : Met l y_W_compose w_W_compose ({ frames := 4, cells := 0, slots := 0, locals := 89 }) (va_Pc [.int x0, .int x1] (fun U => va_P (dC, dI) vwCl [] U.heap ∧ va_K (dC, dI) vwCl [(cI, .int), (cJ, .long), (cQ, .object "CutBodies$Contents")] U ∧ nestZ U)) (vp_Si (fun r9 => r9 = r_)) 0 0 (fun _ => False) := by
  refine Met.ofW (cc := b_W_compose) (maxL := 2) (ret := (some .int)) (by decide) rfl ?_
  intro p e s m args below meth c s₁ B hml hv
  obtain ⟨rfl, hP, hK, hZ⟩ := hv
  have hx := B.exec
  have hb := B.bytes
  have hr := B.returns
  have hts := atoms_spec (ws := w_W_compose) B.pre
  have ht : ∀ w ∈ wAll, w.before _ s = true := fun w h => hts w (List.mem_cons_of_mem _ h)
  have hown : s.vm.findClass R_W = some m.cls := findClass_of_methodNamed B.named
  have hlocks := B.notSynchronized
  have hP : va_P (dC, dI) vwCl [] s.heap := hP
  have hl := lv_entry ([.int x0, .int x1]) (n := 2) (Nat.le_of_ble_eq_true rfl)
  rw [lg_entry_eq]
  generalize (lg_sl ([.int x0, .int x1]) ++ List.replicate (2 - (lg_sl ([.int x0, .int x1])).length) Slot.unset).toArray = ls at hl ⊢
  have hl : lv_has ls 2 [(0, .int x0), (1, .int x1)] := hl
  unfold f_W_compose at hf
  refine lv_iload_n hx hb d_W_compose_0 rfl (lv_at hl 0 rfl) ?_
  refine lv_iload_n hx hb d_W_compose_1 rfl (lv_at hl 1 rfl) ?_
  obtain ⟨r1z, hfc, hf⟩ := oCall1_some hf
  have hPc := hP.sub (ws' := []) [] rfl
  refine vp_callSi (va_runS (As := [.int x1]) (rest := [.int x0]) ⟨hx, hb, hml, hown, ht⟩ (c_W_xGoesTo l dC dI cI cJ cQ x1 r1z hfc) (va_cwS 1 ht (gS m_198 m_199 m_33 m_200) rfl rfl rfl (by decide +kernel) ⟨Nat.le_of_ble_eq_true rfl, Nat.le_of_ble_eq_true rfl⟩) (preR hPc hK hZ) rfl rfl hl.1 rfl (lv_room (Nat.le_of_ble_eq_true rfl)) d_W_compose_2 ⟨Nat.le_of_ble_eq_true rfl, Nat.le_of_ble_eq_true rfl⟩).run (fun r1 hw => ?_)
  subst hw
  clear hPc hfc
  obtain ⟨r2z, hfc, hf⟩ := oCall1_some hf
  have hPc := hP.sub (ws' := []) [] rfl
  refine vp_callSi (va_runS (As := [.int x0, .int r1]) (rest := []) ⟨hx, hb, hml, hown, ht⟩ (c_W_directionTo l dC dI cI cJ cQ x0 r1 r2z hfc) (va_cwS 2 ht (gS m_201 m_202 m_33 m_203) rfl rfl rfl (by decide +kernel) ⟨Nat.le_of_ble_eq_true rfl, Nat.le_of_ble_eq_true rfl⟩) (preR hPc hK hZ) rfl rfl hl.1 rfl (lv_room (Nat.le_of_ble_eq_true rfl)) d_W_compose_5 ⟨Nat.le_of_ble_eq_true rfl, Nat.le_of_ble_eq_true rfl⟩).run (fun r2 hw => ?_)
  subst hw
  clear hPc hfc
  refine lv_iload_n hx hb d_W_compose_8 rfl (lv_at hl 0 rfl) ?_
  refine lv_iload_n hx hb d_W_compose_9 rfl (lv_at hl 1 rfl) ?_
  obtain ⟨r3z, hfc, hf⟩ := oCall1_some hf
  have hPc := hP.sub (ws' := []) [] rfl
  refine vp_callSi (va_runS (As := [.int x1]) (rest := [.int x0, .int r2]) ⟨hx, hb, hml, hown, ht⟩ (c_W_yGoesTo l dC dI cI cJ cQ x1 r3z hfc) (va_cwS 1 ht (gS m_204 m_205 m_33 m_206) rfl rfl rfl (by decide +kernel) ⟨Nat.le_of_ble_eq_true rfl, Nat.le_of_ble_eq_true rfl⟩) (preR hPc hK hZ) rfl rfl hl.1 rfl (lv_room (Nat.le_of_ble_eq_true rfl)) d_W_compose_10 ⟨Nat.le_of_ble_eq_true rfl, Nat.le_of_ble_eq_true rfl⟩).run (fun r3 hw => ?_)
  subst hw
  clear hPc hfc
  obtain ⟨r4z, hfc, hf⟩ := oCall1_some hf
  have hPc := hP.sub (ws' := []) [] rfl
  refine vp_callSi (va_runS (As := [.int x0, .int r3]) (rest := [.int r2]) ⟨hx, hb, hml, hown, ht⟩ (c_W_directionTo l dC dI cI cJ cQ x0 r3 r4z hfc) (va_cwS 2 ht (gS m_201 m_202 m_33 m_203) rfl rfl rfl (by decide +kernel) ⟨Nat.le_of_ble_eq_true rfl, Nat.le_of_ble_eq_true rfl⟩) (preR hPc hK hZ) rfl rfl hl.1 rfl (lv_room (Nat.le_of_ble_eq_true rfl)) d_W_compose_13 ⟨Nat.le_of_ble_eq_true rfl, Nat.le_of_ble_eq_true rfl⟩).run (fun r4 hw => ?_)
  subst hw
  clear hPc hfc
  obtain ⟨r5z, hfc, hf⟩ := oCall1_some hf
  have hPc := hP.sub (ws' := []) [] rfl
  refine vp_callSi (va_runS (As := [.int r2, .int r4]) (rest := []) ⟨hx, hb, hml, hown, ht⟩ (c_W_numberOf l dC dI cI cJ cQ r2 r4 r5z hfc) (va_cwS 2 ht (gS m_181 m_182 m_33 m_183) rfl rfl rfl (by decide +kernel) ⟨Nat.le_of_ble_eq_true rfl, Nat.le_of_ble_eq_true rfl⟩) (preR hPc hK hZ) rfl rfl hl.1 rfl (lv_room (Nat.le_of_ble_eq_true rfl)) d_W_compose_16 ⟨Nat.le_of_ble_eq_true rfl, Nat.le_of_ble_eq_true rfl⟩).run (fun r5 hw => ?_)
  subst hw
  clear hPc hfc
  cases hf
  exact W.iret hx hb hr (fun t ht hW => ⟨_, rfl, rfl, ht⟩) (fun q h => by cases h) d_W_compose_19
set_option maxHeartbeats 4000000 in
set_option maxRecDepth 100000 in
theorem c_W_orderOf (l : Launch) (dC : Nat → ClassId) (dI : Nat → Nat → Nat) (cI cJ cQ : ClassId) (x0 : Int32) (r_ : Int32) (hf : f_W_orderOf x0 = some r_) : Met l y_W_orderOf w_W_orderOf ({ frames := 5, cells := 0, slots := 0, locals := 110 }) (va_Pc [.int x0] (fun U => va_P (dC, dI) vwCl [] U.heap ∧ va_K (dC, dI) vwCl [(cI, .int), (cJ, .long), (cQ, .object "CutBodies$Contents")] U ∧ nestZ U)) (vp_Si (fun r9 => r9 = r_)) 0 0 (fun _ => False) := by
  refine Met.ofW (cc := b_W_orderOf) (maxL := 3) (ret := (some .int)) (by decide) rfl ?_
  intro p e s m args below meth c s₁ B hml hv
  obtain ⟨rfl, hP, hK, hZ⟩ := hv
  have hx := B.exec
  have hb := B.bytes
  have hr := B.returns
  have hts := atoms_spec (ws := w_W_orderOf) B.pre
  have ht : ∀ w ∈ wAll, w.before _ s = true := fun w h => hts w (List.mem_cons_of_mem _ h)
  have hown : s.vm.findClass R_W = some m.cls := findClass_of_methodNamed B.named
  have hlocks := B.notSynchronized
  have hP : va_P (dC, dI) vwCl [] s.heap := hP
  have hl := lv_entry ([.int x0]) (n := 3) (Nat.le_of_ble_eq_true rfl)
  rw [lg_entry_eq]
  generalize (lg_sl ([.int x0]) ++ List.replicate (3 - (lg_sl ([.int x0])).length) Slot.unset).toArray = ls at hl ⊢
  have hl : lv_has ls 3 [(0, .int x0)] := hl
  refine w_abs (fun Wx toX ofX => ?_)
  have K4 : ∀ (x0 : Int32) (n : Nat) (x1 : Int32) (x2 : Int32) (ls : Array Slot), oLoop2 (f_W_orderOf_L4  x0) n x1 x2 = some r_ → lv_has ls 3 [(0, .int x0), (1, .int x1), (2, .int x2)] → Wx s.heap [] 0 0 (F0 m 4 ls []) := by
    intro x0 n
    induction n with
    | zero => intro x1 x2 ls hf; exact (oLoop2_0 hf).elim
    | succ n ih4 =>
      obtain ⟨rec4, hrec4⟩ : ∃ z, z = oLoop2 (f_W_orderOf_L4  x0) n := ⟨_, rfl⟩
      rw [← hrec4] at ih4
      intro x1 x2 ls hf hl
      refine toX _ _ _ _ _ ?_
      have hf := oLoop2_s hf
      rw [← hrec4] at hf
      unfold f_W_orderOf_L4 at hf
      refine lv_iload_n hx hb d_W_orderOf_4 rfl (lv_at hl 1 rfl) ?_
      refine lv_if_eq (tgt := 25) hx hb d_W_orderOf_5 (by decide) (fun c1 => ?_) (fun c1 => ?_)
      · have hf := oIf_t hf c1
        refine lv_iload_n hx hb d_W_orderOf_25 rfl (lv_at hl 2 rfl) ?_
        cases hf
        exact W.iret hx hb hr (fun t ht hW => ⟨_, rfl, rfl, ht⟩) (fun q h => by cases h) d_W_orderOf_26
      · have hf := oIf_f hf c1
        refine lv_iload_n hx hb d_W_orderOf_8 rfl (lv_at hl 2 rfl) ?_
        refine lv_iconst (v := 4) hx hb d_W_orderOf_9 (by decide) ?_
        refine lv_icmp_ge (tgt := 25) hx hb d_W_orderOf_10 (by decide) (fun c2 => ?_) (fun c2 => ?_)
        · have hf := oIf_t hf c2
          refine lv_iload_n hx hb d_W_orderOf_25 rfl (lv_at hl 2 rfl) ?_
          cases hf
          exact W.iret hx hb hr (fun t ht hW => ⟨_, rfl, rfl, ht⟩) (fun q h => by cases h) d_W_orderOf_26
        · have hf := oIf_f hf c2
          refine lv_iload_n hx hb d_W_orderOf_13 rfl (lv_at hl 0 rfl) ?_
          refine lv_iload_n hx hb d_W_orderOf_14 rfl (lv_at hl 1 rfl) ?_
          obtain ⟨r3z, hfc, hf⟩ := oCall1_some hf
          have hPc := hP.sub (ws' := []) [] rfl
          refine vp_callSi (va_runS (As := [.int x0, .int x1]) (rest := []) ⟨hx, hb, hml, hown, ht⟩ (c_W_compose l dC dI cI cJ cQ x0 x1 r3z hfc) (va_cwS 2 ht (gS m_195 m_196 m_33 m_197) rfl rfl rfl (by decide +kernel) ⟨Nat.le_of_ble_eq_true rfl, Nat.le_of_ble_eq_true rfl⟩) (preR hPc hK hZ) rfl rfl hl.1 rfl (lv_room (Nat.le_of_ble_eq_true rfl)) d_W_orderOf_15 ⟨Nat.le_of_ble_eq_true rfl, Nat.le_of_ble_eq_true rfl⟩).run (fun r3 hw => ?_)
          subst hw
          clear hPc hfc
          refine lv_istore_n (lv' := [(1, .int r3), (0, .int x0), (2, .int x2)]) hx hb d_W_orderOf_18 rfl hl (by decide) rfl (fun ls hl => ?_)
          obtain ⟨v4, ev4, hf⟩ := oLet_ex hf
          refine lv_iinc (v := v4) (lv' := [(2, .int v4), (1, .int r3), (0, .int x0)]) hx hb d_W_orderOf_19 hl (k := 2) rfl (by rw [ev4]; rfl) (by decide) rfl (fun ls hl => ?_)
          refine lv_goto (tgt := 4) hx hb d_W_orderOf_22 (by decide) ?_
          exact ofX _ _ _ _ _ (ih4 r3 v4 _ hf (lv_sub hl [2, 1, 0] rfl))
  refine toX _ _ _ _ _ ?_
  unfold f_W_orderOf at hf
  refine lv_iload_n hx hb d_W_orderOf_0 rfl (lv_at hl 0 rfl) ?_
  refine lv_istore_n (lv' := [(1, .int x0), (0, .int x0)]) hx hb d_W_orderOf_1 rfl hl (by decide) rfl (fun ls hl => ?_)
  refine lv_iconst (v := 1) hx hb d_W_orderOf_2 (by decide) ?_
  refine lv_istore_n (lv' := [(2, .int 1), (1, .int x0), (0, .int x0)]) hx hb d_W_orderOf_3 rfl hl (by decide) rfl (fun ls hl => ?_)
  exact ofX _ _ _ _ _ (K4 x0 _ x0 1 _ hf (lv_sub hl [2, 1, 0] rfl))
set_option maxHeartbeats 4000000 in
set_option maxRecDepth 100000 in
theorem c_W_part (l : Launch) (dC : Nat → ClassId) (dI : Nat → Nat → Nat) (cI cJ cQ : ClassId) (x0 : Int32) (x1 : Int32) (x2 : Int32) (r_ : Int32) (hf : f_W_part x0 x1 x2 = some r_) : Met l y_W_part w_W_part ({ frames := 0, cells := 0, slots := 0, locals := 0 }) (va_Pc [.int x0, .int x1, .int x2] (fun U => va_P (dC, dI) vwCl [] U.heap ∧ va_K (dC, dI) vwCl [(cI, .int), (cJ, .long), (cQ, .object "CutBodies$Contents")] U ∧ nestZ U)) (vp_Si (fun r9 => r9 = r_)) 0 0 (fun _ => False) := by
  refine Met.ofW (cc := b_W_part) (maxL := 3) (ret := (some .int)) (by decide) rfl ?_
  intro p e s m args below meth c s₁ B hml hv
  obtain ⟨rfl, hP, hK, hZ⟩ := hv
  have hx := B.exec
  have hb := B.bytes
  have hr := B.returns
  have hts := atoms_spec (ws := w_W_part) B.pre
  have ht : ∀ w ∈ wAll, w.before _ s = true := fun w h => hts w (List.mem_cons_of_mem _ h)
  have hown : s.vm.findClass R_W = some m.cls := findClass_of_methodNamed B.named
  have hlocks := B.notSynchronized
  have hP : va_P (dC, dI) vwCl [] s.heap := hP
  have hl := lv_entry ([.int x0, .int x1, .int x2]) (n := 3) (Nat.le_of_ble_eq_true rfl)
  rw [lg_entry_eq]
  generalize (lg_sl ([.int x0, .int x1, .int x2]) ++ List.replicate (3 - (lg_sl ([.int x0, .int x1, .int x2])).length) Slot.unset).toArray = ls at hl ⊢
  have hl : lv_has ls 3 [(0, .int x0), (1, .int x1), (2, .int x2)] := hl
  unfold f_W_part at hf
  refine lv_iload_n hx hb d_W_part_0 rfl (lv_at hl 0 rfl) ?_
  refine lv_iconst (v := 2) hx hb d_W_part_1 (by decide) ?_
  refine lv_idiv hx hb d_W_part_2 (by decide) ?_
  refine lv_iload_n hx hb d_W_part_3 rfl (lv_at hl 1 rfl) ?_
  refine lv_icmp_eq (tgt := 9) hx hb d_W_part_4 (by decide) (fun c1 => ?_) (fun c1 => ?_)
  · have hf := oIf_t hf c1
    refine lv_iload_n hx hb d_W_part_9 rfl (lv_at hl 0 rfl) ?_
    refine lv_iconst (v := 2) hx hb d_W_part_10 (by decide) ?_
    refine lv_irem hx hb d_W_part_11 (by decide) ?_
    refine lv_if_ne (tgt := 19) hx hb d_W_part_12 (by decide) (fun c2 => ?_) (fun c2 => ?_)
    · have hf := oIf_f hf c2
      refine lv_iload_n hx hb d_W_part_19 rfl (lv_at hl 2 rfl) ?_
      refine lv_ineg hx hb d_W_part_20 ?_
      cases hf
      exact W.iret hx hb hr (fun t ht hW => ⟨_, rfl, rfl, ht⟩) (fun q h => by cases h) d_W_part_21
    · have hf := oIf_t hf c2
      refine lv_iload_n hx hb d_W_part_15 rfl (lv_at hl 2 rfl) ?_
      refine lv_goto (tgt := 21) hx hb d_W_part_16 (by decide) ?_
      cases hf
      exact W.iret hx hb hr (fun t ht hW => ⟨_, rfl, rfl, ht⟩) (fun q h => by cases h) d_W_part_21
  · have hf := oIf_f hf c1
    refine lv_iconst (v := 0) hx hb d_W_part_7 (by decide) ?_
    cases hf
    exact W.iret hx hb hr (fun t ht hW => ⟨_, rfl, rfl, ht⟩) (fun q h => by cases h) d_W_part_8
set_option maxHeartbeats 4000000 in
set_option maxRecDepth 100000 in
theorem c_W_coordinate (l : Launch) (dC : Nat → ClassId) (dI : Nat → Nat → Nat) (cI cJ cQ : ClassId) (x0 : Int32) (x1 : Int32) (x2 : Int32) (x3 : Int32) (x4 : Int32) (r_ : Int32) (hf : f_W_coordinate x0 x1 x2 x3 x4 = some r_) : Met l y_W_coordinate w_W_coordinate ({ frames := 3, cells := 0, slots := 0, locals := 66 }) (va_Pc [.int x0, .int x1, .int x2, .int x3, .int x4] (fun U => va_P (dC, dI) vwCl [] U.heap ∧ va_K (dC, dI) vwCl [(cI, .int), (cJ, .long), (cQ, .object "CutBodies$Contents")] U ∧ nestZ U)) (vp_Si (fun r9 => r9 = r_)) 0 0 (fun _ => False) := by
  refine Met.ofW (cc := b_W_coordinate) (maxL := 5) (ret := (some .int)) (by decide) rfl ?_
  intro p e s m args below meth c s₁ B hml hv
  obtain ⟨rfl, hP, hK, hZ⟩ := hv
  have hx := B.exec
  have hb := B.bytes
  have hr := B.returns
  have hts := atoms_spec (ws := w_W_coordinate) B.pre
  have ht : ∀ w ∈ wAll, w.before _ s = true := fun w h => hts w (List.mem_cons_of_mem _ h)
  have hown : s.vm.findClass R_W = some m.cls := findClass_of_methodNamed B.named
  have hlocks := B.notSynchronized
  have hP : va_P (dC, dI) vwCl [] s.heap := hP
  have hl := lv_entry ([.int x0, .int x1, .int x2, .int x3, .int x4]) (n := 5) (Nat.le_of_ble_eq_true rfl)
  rw [lg_entry_eq]
  generalize (lg_sl ([.int x0, .int x1, .int x2, .int x3, .int x4]) ++ List.replicate (5 - (lg_sl ([.int x0, .int x1, .int x2, .int x3, .int x4])).length) Slot.unset).toArray = ls at hl ⊢
  have hl : lv_has ls 5 [(0, .int x0), (1, .int x1), (2, .int x2), (3, .int x3), (4, .int x4)] := hl
  unfold f_W_coordinate at hf
  refine lv_iload_n hx hb d_W_coordinate_0 rfl (lv_at hl 0 rfl) ?_
  obtain ⟨r1z, hfc, hf⟩ := oCall1_some hf
  have hPc := hP.sub (ws' := []) [] rfl
  refine vp_callSi (va_runS (As := [.int x0]) (rest := []) ⟨hx, hb, hml, hown, ht⟩ (c_W_xGoesTo l dC dI cI cJ cQ x0 r1z hfc) (va_cwS 1 ht (gS m_198 m_199 m_33 m_200) rfl rfl rfl (by decide +kernel) ⟨Nat.le_of_ble_eq_true rfl, Nat.le_of_ble_eq_true rfl⟩) (preR hPc hK hZ) rfl rfl hl.1 rfl (lv_room (Nat.le_of_ble_eq_true rfl)) d_W_coordinate_1 ⟨Nat.le_of_ble_eq_true rfl, Nat.le_of_ble_eq_true rfl⟩).run (fun r1 hw => ?_)
  subst hw
  clear hPc hfc
  refine lv_iload_n hx hb d_W_coordinate_4 rfl (lv_at hl 1 rfl) ?_
  refine lv_iload_n hx hb d_W_coordinate_5 rfl (lv_at hl 2 rfl) ?_
  obtain ⟨r2z, hfc, hf⟩ := oCall1_some hf
  have hPc := hP.sub (ws' := []) [] rfl
  refine vp_callSi (va_runS (As := [.int r1, .int x1, .int x2]) (rest := []) ⟨hx, hb, hml, hown, ht⟩ (c_W_part l dC dI cI cJ cQ r1 x1 x2 r2z hfc) (va_cwS 3 ht (gS m_255 m_256 m_33 m_257) rfl rfl rfl (by decide +kernel) ⟨Nat.le_of_ble_eq_true rfl, Nat.le_of_ble_eq_true rfl⟩) (preR hPc hK hZ) rfl rfl hl.1 rfl (lv_room (Nat.le_of_ble_eq_true rfl)) d_W_coordinate_6 ⟨Nat.le_of_ble_eq_true rfl, Nat.le_of_ble_eq_true rfl⟩).run (fun r2 hw => ?_)
  subst hw
  clear hPc hfc
  refine lv_iload_n hx hb d_W_coordinate_9 rfl (lv_at hl 0 rfl) ?_
  obtain ⟨r3z, hfc, hf⟩ := oCall1_some hf
  have hPc := hP.sub (ws' := []) [] rfl
  refine vp_callSi (va_runS (As := [.int x0]) (rest := [.int r2]) ⟨hx, hb, hml, hown, ht⟩ (c_W_yGoesTo l dC dI cI cJ cQ x0 r3z hfc) (va_cwS 1 ht (gS m_204 m_205 m_33 m_206) rfl rfl rfl (by decide +kernel) ⟨Nat.le_of_ble_eq_true rfl, Nat.le_of_ble_eq_true rfl⟩) (preR hPc hK hZ) rfl rfl hl.1 rfl (lv_room (Nat.le_of_ble_eq_true rfl)) d_W_coordinate_10 ⟨Nat.le_of_ble_eq_true rfl, Nat.le_of_ble_eq_true rfl⟩).run (fun r3 hw => ?_)
  subst hw
  clear hPc hfc
  refine lv_iload_n hx hb d_W_coordinate_13 rfl (lv_at hl 1 rfl) ?_
  refine lv_iload_n hx hb d_W_coordinate_14 rfl (lv_at hl 3 rfl) ?_
  obtain ⟨r4z, hfc, hf⟩ := oCall1_some hf
  have hPc := hP.sub (ws' := []) [] rfl
  refine vp_callSi (va_runS (As := [.int r3, .int x1, .int x3]) (rest := [.int r2]) ⟨hx, hb, hml, hown, ht⟩ (c_W_part l dC dI cI cJ cQ r3 x1 x3 r4z hfc) (va_cwS 3 ht (gS m_255 m_256 m_33 m_257) rfl rfl rfl (by decide +kernel) ⟨Nat.le_of_ble_eq_true rfl, Nat.le_of_ble_eq_true rfl⟩) (preR hPc hK hZ) rfl rfl hl.1 rfl (lv_room (Nat.le_of_ble_eq_true rfl)) d_W_coordinate_15 ⟨Nat.le_of_ble_eq_true rfl, Nat.le_of_ble_eq_true rfl⟩).run (fun r4 hw => ?_)
  subst hw
  clear hPc hfc
  refine lv_iadd hx hb d_W_coordinate_18 ?_
  refine lv_iload_n hx hb d_W_coordinate_19 rfl (lv_at hl 0 rfl) ?_
  obtain ⟨r5z, hfc, hf⟩ := oCall1_some hf
  have hPc := hP.sub (ws' := []) [] rfl
  refine vp_callSi (va_runS (As := [.int x0]) (rest := [.int (r2 + r4)]) ⟨hx, hb, hml, hown, ht⟩ (c_W_zGoesTo l dC dI cI cJ cQ x0 r5z hfc) (va_cwS 1 ht (gS m_207 m_208 m_33 m_209) rfl rfl rfl (by decide +kernel) ⟨Nat.le_of_ble_eq_true rfl, Nat.le_of_ble_eq_true rfl⟩) (preR hPc hK hZ) rfl rfl hl.1 rfl (lv_room (Nat.le_of_ble_eq_true rfl)) d_W_coordinate_20 ⟨Nat.le_of_ble_eq_true rfl, Nat.le_of_ble_eq_true rfl⟩).run (fun r5 hw => ?_)
  subst hw
  clear hPc hfc
  refine lv_iload_n hx hb d_W_coordinate_23 rfl (lv_at hl 1 rfl) ?_
  refine lv_iload hx hb d_W_coordinate_24 (lv_at hl 4 rfl) ?_
  obtain ⟨r6z, hfc, hf⟩ := oCall1_some hf
  have hPc := hP.sub (ws' := []) [] rfl
  refine vp_callSi (va_runS (As := [.int r5, .int x1, .int x4]) (rest := [.int (r2 + r4)]) ⟨hx, hb, hml, hown, ht⟩ (c_W_part l dC dI cI cJ cQ r5 x1 x4 r6z hfc) (va_cwS 3 ht (gS m_255 m_256 m_33 m_257) rfl rfl rfl (by decide +kernel) ⟨Nat.le_of_ble_eq_true rfl, Nat.le_of_ble_eq_true rfl⟩) (preR hPc hK hZ) rfl rfl hl.1 rfl (lv_room (Nat.le_of_ble_eq_true rfl)) d_W_coordinate_26 ⟨Nat.le_of_ble_eq_true rfl, Nat.le_of_ble_eq_true rfl⟩).run (fun r6 hw => ?_)
  subst hw
  clear hPc hfc
  refine lv_iadd hx hb d_W_coordinate_29 ?_
  cases hf
  exact W.iret hx hb hr (fun t ht hW => ⟨_, rfl, rfl, ht⟩) (fun q h => by cases h) d_W_coordinate_30
set_option maxHeartbeats 4000000 in
set_option maxRecDepth 100000 in
theorem c_W_directionOf (l : Launch) (dC : Nat → ClassId) (dI : Nat → Nat → Nat) (cI cJ cQ : ClassId) (x0 : Int32) (x1 : Int32) (x2 : Int32) (r_ : Int32) (hf : f_W_directionOf x0 x1 x2 = some r_) : Met l y_W_directionOf w_W_directionOf ({ frames := 0, cells := 0, slots := 0, locals := 0 }) (va_Pc [.int x0, .int x1, .int x2] (fun U => va_P (dC, dI) vwCl [] U.heap ∧ va_K (dC, dI) vwCl [(cI, .int), (cJ, .long), (cQ, .object "CutBodies$Contents")] U ∧ nestZ U)) (vp_Si (fun r9 => r9 = r_)) 0 0 (fun _ => False) := by
  refine Met.ofW (cc := b_W_directionOf) (maxL := 3) (ret := (some .int)) (by decide) rfl ?_
  intro p e s m args below meth c s₁ B hml hv
  obtain ⟨rfl, hP, hK, hZ⟩ := hv
  have hx := B.exec
  have hb := B.bytes
  have hr := B.returns
  have hts := atoms_spec (ws := w_W_directionOf) B.pre
  have ht : ∀ w ∈ wAll, w.before _ s = true := fun w h => hts w (List.mem_cons_of_mem _ h)
  have hown : s.vm.findClass R_W = some m.cls := findClass_of_methodNamed B.named
  have hlocks := B.notSynchronized
  have hP : va_P (dC, dI) vwCl [] s.heap := hP
  have hl := lv_entry ([.int x0, .int x1, .int x2]) (n := 3) (Nat.le_of_ble_eq_true rfl)
  rw [lg_entry_eq]
  generalize (lg_sl ([.int x0, .int x1, .int x2]) ++ List.replicate (3 - (lg_sl ([.int x0, .int x1, .int x2])).length) Slot.unset).toArray = ls at hl ⊢
  have hl : lv_has ls 3 [(0, .int x0), (1, .int x1), (2, .int x2)] := hl
  unfold f_W_directionOf at hf
  refine lv_iload_n hx hb d_W_directionOf_0 rfl (lv_at hl 0 rfl) ?_
  refine lv_if_eq (tgt := 14) hx hb d_W_directionOf_1 (by decide) (fun c1 => ?_) (fun c1 => ?_)
  · have hf := oIf_t hf c1
    refine lv_iload_n hx hb d_W_directionOf_14 rfl (lv_at hl 1 rfl) ?_
    refine lv_if_eq (tgt := 28) hx hb d_W_directionOf_15 (by decide) (fun c2 => ?_) (fun c2 => ?_)
    · have hf := oIf_t hf c2
      refine lv_iload_n hx hb d_W_directionOf_28 rfl (lv_at hl 2 rfl) ?_
      refine lv_if_le (tgt := 36) hx hb d_W_directionOf_29 (by decide) (fun c3 => ?_) (fun c3 => ?_)
      · have hf := oIf_t hf c3
        refine lv_iconst (v := 5) hx hb d_W_directionOf_36 (by decide) ?_
        cases hf
        exact W.iret hx hb hr (fun t ht hW => ⟨_, rfl, rfl, ht⟩) (fun q h => by cases h) d_W_directionOf_37
      · have hf := oIf_f hf c3
        refine lv_iconst (v := 4) hx hb d_W_directionOf_32 (by decide) ?_
        refine lv_goto (tgt := 37) hx hb d_W_directionOf_33 (by decide) ?_
        cases hf
        exact W.iret hx hb hr (fun t ht hW => ⟨_, rfl, rfl, ht⟩) (fun q h => by cases h) d_W_directionOf_37
    · have hf := oIf_f hf c2
      refine lv_iload_n hx hb d_W_directionOf_18 rfl (lv_at hl 1 rfl) ?_
      refine lv_if_le (tgt := 26) hx hb d_W_directionOf_19 (by decide) (fun c4 => ?_) (fun c4 => ?_)
      · have hf := oIf_t hf c4
        refine lv_iconst (v := 3) hx hb d_W_directionOf_26 (by decide) ?_
        cases hf
        exact W.iret hx hb hr (fun t ht hW => ⟨_, rfl, rfl, ht⟩) (fun q h => by cases h) d_W_directionOf_27
      · have hf := oIf_f hf c4
        refine lv_iconst (v := 2) hx hb d_W_directionOf_22 (by decide) ?_
        refine lv_goto (tgt := 27) hx hb d_W_directionOf_23 (by decide) ?_
        cases hf
        exact W.iret hx hb hr (fun t ht hW => ⟨_, rfl, rfl, ht⟩) (fun q h => by cases h) d_W_directionOf_27
  · have hf := oIf_f hf c1
    refine lv_iload_n hx hb d_W_directionOf_4 rfl (lv_at hl 0 rfl) ?_
    refine lv_if_le (tgt := 12) hx hb d_W_directionOf_5 (by decide) (fun c5 => ?_) (fun c5 => ?_)
    · have hf := oIf_t hf c5
      refine lv_iconst (v := 1) hx hb d_W_directionOf_12 (by decide) ?_
      cases hf
      exact W.iret hx hb hr (fun t ht hW => ⟨_, rfl, rfl, ht⟩) (fun q h => by cases h) d_W_directionOf_13
    · have hf := oIf_f hf c5
      refine lv_iconst (v := 0) hx hb d_W_directionOf_8 (by decide) ?_
      refine lv_goto (tgt := 13) hx hb d_W_directionOf_9 (by decide) ?_
      cases hf
      exact W.iret hx hb hr (fun t ht hW => ⟨_, rfl, rfl, ht⟩) (fun q h => by cases h) d_W_directionOf_13
set_option maxHeartbeats 4000000 in
set_option maxRecDepth 100000 in
theorem c_W_stepAbout (l : Launch) (dC : Nat → ClassId) (dI : Nat → Nat → Nat) (cI cJ cQ : ClassId) (x0 : Int32) (x1 : Int32) (x2 : Int32) (r_ : Int32) (hf : f_W_stepAbout x0 x1 x2 = some r_) : Met l y_W_stepAbout w_W_stepAbout ({ frames := 1, cells := 0, slots := 0, locals := 22 }) (va_Pc [.int x0, .int x1, .int x2] (fun U => va_P (dC, dI) vwCl [] U.heap ∧ va_K (dC, dI) vwCl [(cI, .int), (cJ, .long), (cQ, .object "CutBodies$Contents")] U ∧ nestZ U)) (vp_Si (fun r9 => r9 = r_)) 0 0 (fun _ => False) := by
  refine Met.ofW (cc := b_W_stepAbout) (maxL := 9) (ret := (some .int)) (by decide) rfl ?_
  intro p e s m args below meth c s₁ B hml hv
  obtain ⟨rfl, hP, hK, hZ⟩ := hv
  have hx := B.exec
  have hb := B.bytes
  have hr := B.returns
  have hts := atoms_spec (ws := w_W_stepAbout) B.pre
  have ht : ∀ w ∈ wAll, w.before _ s = true := fun w h => hts w (List.mem_cons_of_mem _ h)
  have hown : s.vm.findClass R_W = some m.cls := findClass_of_methodNamed B.named
  have hlocks := B.notSynchronized
  have hP : va_P (dC, dI) vwCl [] s.heap := hP
  have hl := lv_entry ([.int x0, .int x1, .int x2]) (n := 9) (Nat.le_of_ble_eq_true rfl)
  rw [lg_entry_eq]
  generalize (lg_sl ([.int x0, .int x1, .int x2]) ++ List.replicate (9 - (lg_sl ([.int x0, .int x1, .int x2])).length) Slot.unset).toArray = ls at hl ⊢
  have hl : lv_has ls 9 [(0, .int x0), (1, .int x1), (2, .int x2)] := hl
  refine w_abs (fun Wx toX ofX => ?_)
  have K46 : ∀ (x0 : Int32) (x1 : Int32) (x2 : Int32) (x4 : Int32) (x5 : Int32) (t0 : Int32) (ls : Array Slot), f_W_stepAbout_J46  x0 x1 x2 x4 x5 t0 = some r_ → lv_has ls 9 [(0, .int x0), (1, .int x1), (2, .int x2), (4, .int x4), (5, .int x5)] → Wx s.heap [] 0 0 (F0 m 46 ls [.int t0]) := by
    intro x0 x1 x2 x4 x5 t0 ls hf hl
    refine toX _ _ _ _ _ ?_
    unfold f_W_stepAbout_J46 at hf
    refine lv_istore (lv' := [(6, .int t0), (0, .int x0), (1, .int x1), (2, .int x2), (4, .int x4), (5, .int x5)]) hx hb d_W_stepAbout_46 hl (by decide) rfl (fun ls hl => ?_)
    refine lv_iload_n hx hb d_W_stepAbout_48 rfl (lv_at hl 1 rfl) ?_
    refine lv_iload_n hx hb d_W_stepAbout_49 rfl (lv_at hl 1 rfl) ?_
    refine lv_imul hx hb d_W_stepAbout_50 ?_
    refine lv_iload hx hb d_W_stepAbout_51 (lv_at hl 5 rfl) ?_
    refine lv_isub hx hb d_W_stepAbout_53 ?_
    refine lv_iload hx hb d_W_stepAbout_54 (lv_at hl 0 rfl) ?_
    obtain ⟨hz1, hf⟩ := oNz_some hf
    refine lv_idiv hx hb d_W_stepAbout_56 hz1 ?_
    refine lv_iload_n hx hb d_W_stepAbout_57 rfl (lv_at hl 1 rfl) ?_
    refine lv_iload_n hx hb d_W_stepAbout_58 rfl (lv_at hl 2 rfl) ?_
    refine lv_imul hx hb d_W_stepAbout_59 ?_
    refine lv_iload hx hb d_W_stepAbout_60 (lv_at hl 4 rfl) ?_
    refine lv_iload_n hx hb d_W_stepAbout_62 rfl (lv_at hl 3 rfl) ?_
    refine lv_imul hx hb d_W_stepAbout_63 ?_
    refine lv_iadd hx hb d_W_stepAbout_64 ?_
    refine lv_iload hx hb d_W_stepAbout_65 (lv_at hl 0 rfl) ?_
    obtain ⟨hz2, hf⟩ := oNz_some hf
    refine lv_idiv hx hb d_W_stepAbout_67 hz2 ?_
    refine lv_iload_n hx hb d_W_stepAbout_68 rfl (lv_at hl 1 rfl) ?_
    refine lv_iload_n hx hb d_W_stepAbout_69 rfl (lv_at hl 3 rfl) ?_
    refine lv_imul hx hb d_W_stepAbout_70 ?_
    refine lv_iload hx hb d_W_stepAbout_71 (lv_at hl 4 rfl) ?_
    refine lv_iload_n hx hb d_W_stepAbout_73 rfl (lv_at hl 2 rfl) ?_
    refine lv_imul hx hb d_W_stepAbout_74 ?_
    refine lv_isub hx hb d_W_stepAbout_75 ?_
    refine lv_iload hx hb d_W_stepAbout_76 (lv_at hl 0 rfl) ?_
    obtain ⟨hz3, hf⟩ := oNz_some hf
    refine lv_idiv hx hb d_W_stepAbout_78 hz3 ?_
    obtain ⟨r4z, hfc, hf⟩ := oCall1_some hf
    have hPc := hP.sub (ws' := []) [] rfl
    refine vp_callSi (va_runS (As := [.int (((x0 * x0) - x5) / t0), .int (((x0 * x1) + (x4 * x2)) / t0), .int (((x0 * x2) - (x4 * x1)) / t0)]) (rest := []) ⟨hx, hb, hml, hown, ht⟩ (c_W_directionOf l dC dI cI cJ cQ (((x0 * x0) - x5) / t0) (((x0 * x1) + (x4 * x2)) / t0) (((x0 * x2) - (x4 * x1)) / t0) r4z hfc) (va_cwS 3 ht (gS m_178 m_179 m_33 m_180) rfl rfl rfl (by decide +kernel) ⟨Nat.le_of_ble_eq_true rfl, Nat.le_of_ble_eq_true rfl⟩) (preR hPc hK hZ) rfl rfl hl.1 rfl (lv_room (Nat.le_of_ble_eq_true rfl)) d_W_stepAbout_79 ⟨Nat.le_of_ble_eq_true rfl, Nat.le_of_ble_eq_true rfl⟩).run (fun r4 hw => ?_)
    subst hw
    clear hPc hfc
    refine lv_istore (lv' := [(7, .int r4), (6, .int t0), (0, .int x0), (1, .int x1), (2, .int x2), (4, .int x4), (5, .int x5)]) hx hb d_W_stepAbout_82 hl (by decide) rfl (fun ls hl => ?_)
    refine lv_iload_n hx hb d_W_stepAbout_84 rfl (lv_at hl 2 rfl) ?_
    refine lv_iload_n hx hb d_W_stepAbout_85 rfl (lv_at hl 3 rfl) ?_
    refine lv_imul hx hb d_W_stepAbout_86 ?_
    refine lv_iload hx hb d_W_stepAbout_87 (lv_at hl 5 rfl) ?_
    refine lv_iload_n hx hb d_W_stepAbout_89 rfl (lv_at hl 4 rfl) ?_
    refine lv_imul hx hb d_W_stepAbout_90 ?_
    refine lv_isub hx hb d_W_stepAbout_91 ?_
    refine lv_iload hx hb d_W_stepAbout_92 (lv_at hl 1 rfl) ?_
    obtain ⟨hz5, hf⟩ := oNz_some hf
    refine lv_idiv hx hb d_W_stepAbout_94 hz5 ?_
    refine lv_iload_n hx hb d_W_stepAbout_95 rfl (lv_at hl 3 rfl) ?_
    refine lv_iload_n hx hb d_W_stepAbout_96 rfl (lv_at hl 3 rfl) ?_
    refine lv_imul hx hb d_W_stepAbout_97 ?_
    refine lv_iload hx hb d_W_stepAbout_98 (lv_at hl 6 rfl) ?_
    refine lv_isub hx hb d_W_stepAbout_100 ?_
    refine lv_iload hx hb d_W_stepAbout_101 (lv_at hl 1 rfl) ?_
    obtain ⟨hz6, hf⟩ := oNz_some hf
    refine lv_idiv hx hb d_W_stepAbout_103 hz6 ?_
    refine lv_iload_n hx hb d_W_stepAbout_104 rfl (lv_at hl 3 rfl) ?_
    refine lv_iload_n hx hb d_W_stepAbout_105 rfl (lv_at hl 4 rfl) ?_
    refine lv_imul hx hb d_W_stepAbout_106 ?_
    refine lv_iload hx hb d_W_stepAbout_107 (lv_at hl 5 rfl) ?_
    refine lv_iload_n hx hb d_W_stepAbout_109 rfl (lv_at hl 2 rfl) ?_
    refine lv_imul hx hb d_W_stepAbout_110 ?_
    refine lv_iadd hx hb d_W_stepAbout_111 ?_
    refine lv_iload hx hb d_W_stepAbout_112 (lv_at hl 1 rfl) ?_
    obtain ⟨hz7, hf⟩ := oNz_some hf
    refine lv_idiv hx hb d_W_stepAbout_114 hz7 ?_
    obtain ⟨r8z, hfc, hf⟩ := oCall1_some hf
    have hPc := hP.sub (ws' := []) [] rfl
    refine vp_callSi (va_runS (As := [.int (((x0 * x1) - (x4 * x2)) / t0), .int (((x1 * x1) - x5) / t0), .int (((x1 * x2) + (x4 * x0)) / t0)]) (rest := []) ⟨hx, hb, hml, hown, ht⟩ (c_W_directionOf l dC dI cI cJ cQ (((x0 * x1) - (x4 * x2)) / t0) (((x1 * x1) - x5) / t0) (((x1 * x2) + (x4 * x0)) / t0) r8z hfc) (va_cwS 3 ht (gS m_178 m_179 m_33 m_180) rfl rfl rfl (by decide +kernel) ⟨Nat.le_of_ble_eq_true rfl, Nat.le_of_ble_eq_true rfl⟩) (preR hPc hK hZ) rfl rfl hl.1 rfl (lv_room (Nat.le_of_ble_eq_true rfl)) d_W_stepAbout_115 ⟨Nat.le_of_ble_eq_true rfl, Nat.le_of_ble_eq_true rfl⟩).run (fun r8 hw => ?_)
    subst hw
    clear hPc hfc
    refine lv_istore (lv' := [(8, .int r8), (7, .int r4), (6, .int t0), (0, .int x0), (1, .int x1), (2, .int x2), (4, .int x4), (5, .int x5)]) hx hb d_W_stepAbout_118 hl (by decide) rfl (fun ls hl => ?_)
    refine lv_iload hx hb d_W_stepAbout_120 (lv_at hl 1 rfl) ?_
    refine lv_iload hx hb d_W_stepAbout_122 (lv_at hl 0 rfl) ?_
    obtain ⟨r9z, hfc, hf⟩ := oCall1_some hf
    have hPc := hP.sub (ws' := []) [] rfl
    refine vp_callSi (va_runS (As := [.int r4, .int r8]) (rest := []) ⟨hx, hb, hml, hown, ht⟩ (c_W_numberOf l dC dI cI cJ cQ r4 r8 r9z hfc) (va_cwS 2 ht (gS m_181 m_182 m_33 m_183) rfl rfl rfl (by decide +kernel) ⟨Nat.le_of_ble_eq_true rfl, Nat.le_of_ble_eq_true rfl⟩) (preR hPc hK hZ) rfl rfl hl.1 rfl (lv_room (Nat.le_of_ble_eq_true rfl)) d_W_stepAbout_124 ⟨Nat.le_of_ble_eq_true rfl, Nat.le_of_ble_eq_true rfl⟩).run (fun r9 hw => ?_)
    subst hw
    clear hPc hfc
    cases hf
    exact W.iret hx hb hr (fun t ht hW => ⟨_, rfl, rfl, ht⟩) (fun q h => by cases h) d_W_stepAbout_127
  have K34 : ∀ (x0 : Int32) (x1 : Int32) (x2 : Int32) (x3 : Int32) (x4 : Int32) (t0 : Int32) (ls : Array Slot), f_W_stepAbout_J34  x0 x1 x2 x3 x4 t0 = some r_ → lv_has ls 9 [(0, .int x0), (1, .int x1), (2, .int x2), (3, .int x3), (4, .int x4)] → Wx s.heap [] 0 0 (F0 m 34 ls [.int t0]) := by
    intro x0 x1 x2 x3 x4 t0 ls hf hl
    refine toX _ _ _ _ _ ?_
    unfold f_W_stepAbout_J34 at hf
    refine lv_istore (lv' := [(5, .int t0), (0, .int x0), (1, .int x1), (2, .int x2), (3, .int x3), (4, .int x4)]) hx hb d_W_stepAbout_34 hl (by decide) rfl (fun ls hl => ?_)
    refine lv_iload_n hx hb d_W_stepAbout_36 rfl (lv_at hl 4 rfl) ?_
    refine lv_iconst (v := 3) hx hb d_W_stepAbout_37 (by decide) ?_
    refine lv_icmp_ne (tgt := 45) hx hb d_W_stepAbout_38 (by decide) (fun c10 => ?_) (fun c10 => ?_)
    · have hf := oIf_f hf c10
      refine lv_iconst (v := 1) hx hb d_W_stepAbout_45 (by decide) ?_
      exact ofX _ _ _ _ _ (K46  x0 x1 x2 x4 t0 1 _ hf (lv_sub hl [1, 2, 3, 5, 0] rfl))
    · have hf := oIf_t hf c10
      refine lv_iconst (v := 2) hx hb d_W_stepAbout_41 (by decide) ?_
      refine lv_goto (tgt := 46) hx hb d_W_stepAbout_42 (by decide) ?_
      exact ofX _ _ _ _ _ (K46  x0 x1 x2 x4 t0 2 _ hf (lv_sub hl [1, 2, 3, 5, 0] rfl))
  have K22 : ∀ (x0 : Int32) (x1 : Int32) (x2 : Int32) (x3 : Int32) (t0 : Int32) (ls : Array Slot), f_W_stepAbout_J22  x0 x1 x2 x3 t0 = some r_ → lv_has ls 9 [(0, .int x0), (1, .int x1), (2, .int x2), (3, .int x3)] → Wx s.heap [] 0 0 (F0 m 22 ls [.int t0]) := by
    intro x0 x1 x2 x3 t0 ls hf hl
    refine toX _ _ _ _ _ ?_
    unfold f_W_stepAbout_J22 at hf
    refine lv_istore (lv' := [(4, .int t0), (0, .int x0), (1, .int x1), (2, .int x2), (3, .int x3)]) hx hb d_W_stepAbout_22 hl (by decide) rfl (fun ls hl => ?_)
    refine lv_iload_n hx hb d_W_stepAbout_24 rfl (lv_at hl 4 rfl) ?_
    refine lv_iconst (v := 1) hx hb d_W_stepAbout_25 (by decide) ?_
    refine lv_icmp_ne (tgt := 33) hx hb d_W_stepAbout_26 (by decide) (fun c11 => ?_) (fun c11 => ?_)
    · have hf := oIf_f hf c11
      refine lv_iconst (v := 1) hx hb d_W_stepAbout_33 (by decide) ?_
      exact ofX _ _ _ _ _ (K34  x0 x1 x2 x3 t0 1 _ hf (lv_sub hl [1, 2, 3, 4, 0] rfl))
    · have hf := oIf_t hf c11
      refine lv_iconst (v := 0) hx hb d_W_stepAbout_29 (by decide) ?_
      refine lv_goto (tgt := 34) hx hb d_W_stepAbout_30 (by decide) ?_
      exact ofX _ _ _ _ _ (K34  x0 x1 x2 x3 t0 0 _ hf (lv_sub hl [1, 2, 3, 4, 0] rfl))
  refine toX _ _ _ _ _ ?_
  unfold f_W_stepAbout at hf
  refine lv_iload_n hx hb d_W_stepAbout_0 rfl (lv_at hl 0 rfl) ?_
  refine lv_iload_n hx hb d_W_stepAbout_1 rfl (lv_at hl 0 rfl) ?_
  refine lv_imul hx hb d_W_stepAbout_2 ?_
  refine lv_iload_n hx hb d_W_stepAbout_3 rfl (lv_at hl 1 rfl) ?_
  refine lv_iload_n hx hb d_W_stepAbout_4 rfl (lv_at hl 1 rfl) ?_
  refine lv_imul hx hb d_W_stepAbout_5 ?_
  refine lv_iadd hx hb d_W_stepAbout_6 ?_
  refine lv_iload_n hx hb d_W_stepAbout_7 rfl (lv_at hl 2 rfl) ?_
  refine lv_iload_n hx hb d_W_stepAbout_8 rfl (lv_at hl 2 rfl) ?_
  refine lv_imul hx hb d_W_stepAbout_9 ?_
  refine lv_iadd hx hb d_W_stepAbout_10 ?_
  refine lv_topi (fun v12 ev12 => ?_)
  have hf := oLet_some hf ev12
  refine lv_istore_n (lv' := [(3, .int v12), (0, .int x0), (1, .int x1), (2, .int x2)]) hx hb d_W_stepAbout_11 rfl hl (by decide) rfl (fun ls hl => ?_)
  refine lv_iload_n hx hb d_W_stepAbout_12 rfl (lv_at hl 0 rfl) ?_
  refine lv_iconst (v := 2) hx hb d_W_stepAbout_13 (by decide) ?_
  refine lv_icmp_ne (tgt := 21) hx hb d_W_stepAbout_14 (by decide) (fun c13 => ?_) (fun c13 => ?_)
  · have hf := oIf_f hf c13
    refine lv_iconst (v := 1) hx hb d_W_stepAbout_21 (by decide) ?_
    exact ofX _ _ _ _ _ (K22  x0 x1 x2 v12 1 _ hf (lv_sub hl [1, 2, 3, 0] rfl))
  · have hf := oIf_t hf c13
    refine lv_iconst (v := 0) hx hb d_W_stepAbout_17 (by decide) ?_
    refine lv_goto (tgt := 22) hx hb d_W_stepAbout_18 (by decide) ?_
    exact ofX _ _ _ _ _ (K22  x0 x1 x2 v12 0 _ hf (lv_sub hl [1, 2, 3, 0] rfl))

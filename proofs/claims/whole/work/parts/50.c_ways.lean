set_option maxHeartbeats 4000000 in
set_option maxRecDepth 100000 in
theorem c_W_xGoesTo (l : Launch) (dC : Nat → ClassId) (dI : Nat → Nat → Nat) (cI cJ cQ : ClassId) (x0 : Int32) (r_ : Int32) (hf : f_W_xGoesTo x0 = some r_) : Met l y_W_xGoesTo w_W_xGoesTo ({ frames := 0, cells := 0, slots := 0, locals := 0 }) (va_Pc [.int x0] (fun U => va_P (dC, dI) vwCl [] U.heap ∧ va_K (dC, dI) vwCl [(cI, .int), (cJ, .long), (cQ, .object "CutBodies$Contents")] U ∧ nestZ U)) (vp_Si (fun r9 => r9 = r_)) 0 0 (fun _ => False) := by
  refine Met.ofW (cc := b_W_xGoesTo) (maxL := 1) (ret := (some .int)) (by decide) rfl ?_
  intro p e s m args below meth c s₁ B hml hv
  obtain ⟨rfl, hP, hK, hZ⟩ := hv
  have hx := B.exec
  have hb := B.bytes
  have hr := B.returns
  have hts := atoms_spec (ws := w_W_xGoesTo) B.pre
  have ht : ∀ w ∈ wAll, w.before _ s = true := fun w h => hts w (List.mem_cons_of_mem _ h)
  have hown : s.vm.findClass R_W = some m.cls := findClass_of_methodNamed B.named
  have hlocks := B.notSynchronized
  have hP : va_P (dC, dI) vwCl [] s.heap := hP
  have hl := lv_entry ([.int x0]) (n := 1) (Nat.le_of_ble_eq_true rfl)
  rw [lg_entry_eq]
  generalize (lg_sl ([.int x0]) ++ List.replicate (1 - (lg_sl ([.int x0])).length) Slot.unset).toArray = ls at hl ⊢
  have hl : lv_has ls 1 [(0, .int x0)] := hl
  unfold f_W_xGoesTo at hf
  refine lv_iload_n hx hb d_W_xGoesTo_0 rfl (lv_at hl 0 rfl) ?_
  refine lv_iconst (v := 4) hx hb d_W_xGoesTo_1 (by decide) ?_
  refine lv_idiv hx hb d_W_xGoesTo_2 (by decide) ?_
  cases hf
  exact W.iret hx hb hr (fun t ht hW => ⟨_, rfl, rfl, ht⟩) (fun q h => by cases h) d_W_xGoesTo_3
set_option maxHeartbeats 4000000 in
set_option maxRecDepth 100000 in
theorem c_W_yGoesTo (l : Launch) (dC : Nat → ClassId) (dI : Nat → Nat → Nat) (cI cJ cQ : ClassId) (x0 : Int32) (r_ : Int32) (hf : f_W_yGoesTo x0 = some r_) : Met l y_W_yGoesTo w_W_yGoesTo ({ frames := 0, cells := 0, slots := 0, locals := 0 }) (va_Pc [.int x0] (fun U => va_P (dC, dI) vwCl [] U.heap ∧ va_K (dC, dI) vwCl [(cI, .int), (cJ, .long), (cQ, .object "CutBodies$Contents")] U ∧ nestZ U)) (vp_Si (fun r9 => r9 = r_)) 0 0 (fun _ => False) := by
  refine Met.ofW (cc := b_W_yGoesTo) (maxL := 3) (ret := (some .int)) (by decide) rfl ?_
  intro p e s m args below meth c s₁ B hml hv
  obtain ⟨rfl, hP, hK, hZ⟩ := hv
  have hx := B.exec
  have hb := B.bytes
  have hr := B.returns
  have hts := atoms_spec (ws := w_W_yGoesTo) B.pre
  have ht : ∀ w ∈ wAll, w.before _ s = true := fun w h => hts w (List.mem_cons_of_mem _ h)
  have hown : s.vm.findClass R_W = some m.cls := findClass_of_methodNamed B.named
  have hlocks := B.notSynchronized
  have hP : va_P (dC, dI) vwCl [] s.heap := hP
  have hl := lv_entry ([.int x0]) (n := 3) (Nat.le_of_ble_eq_true rfl)
  rw [lg_entry_eq]
  generalize (lg_sl ([.int x0]) ++ List.replicate (3 - (lg_sl ([.int x0])).length) Slot.unset).toArray = ls at hl ⊢
  have hl : lv_has ls 3 [(0, .int x0)] := hl
  unfold f_W_yGoesTo at hf
  refine lv_iload_n hx hb d_W_yGoesTo_0 rfl (lv_at hl 0 rfl) ?_
  refine lv_iconst (v := 4) hx hb d_W_yGoesTo_1 (by decide) ?_
  refine lv_irem hx hb d_W_yGoesTo_2 (by decide) ?_
  refine lv_topi (fun v1 ev1 => ?_)
  have hf := oLet_some hf ev1
  refine lv_istore_n (lv' := [(1, .int v1), (0, .int x0)]) hx hb d_W_yGoesTo_3 rfl hl (by decide) rfl (fun ls hl => ?_)
  refine lv_iload_n hx hb d_W_yGoesTo_4 rfl (lv_at hl 1 rfl) ?_
  refine lv_bipush (v := 8) hx hb d_W_yGoesTo_5 (by decide) ?_
  refine lv_idiv hx hb d_W_yGoesTo_7 (by decide) ?_
  refine lv_iconst (v := 2) hx hb d_W_yGoesTo_8 (by decide) ?_
  refine lv_imul hx hb d_W_yGoesTo_9 ?_
  refine lv_topi (fun v2 ev2 => ?_)
  have hf := oLet_some hf ev2
  refine lv_istore_n (lv' := [(2, .int v2), (1, .int v1), (0, .int x0)]) hx hb d_W_yGoesTo_10 rfl hl (by decide) rfl (fun ls hl => ?_)
  refine lv_iload_n hx hb d_W_yGoesTo_11 rfl (lv_at hl 1 rfl) ?_
  refine lv_iload_n hx hb d_W_yGoesTo_12 rfl (lv_at hl 0 rfl) ?_
  refine lv_icmp_ge (tgt := 20) hx hb d_W_yGoesTo_13 (by decide) (fun c3 => ?_) (fun c3 => ?_)
  · have hf := oIf_t hf c3
    refine lv_iload_n hx hb d_W_yGoesTo_20 rfl (lv_at hl 1 rfl) ?_
    refine lv_iconst (v := 2) hx hb d_W_yGoesTo_21 (by decide) ?_
    refine lv_iadd hx hb d_W_yGoesTo_22 ?_
    cases hf
    exact W.iret hx hb hr (fun t ht hW => ⟨_, rfl, rfl, ht⟩) (fun q h => by cases h) d_W_yGoesTo_23
  · have hf := oIf_f hf c3
    refine lv_iload_n hx hb d_W_yGoesTo_16 rfl (lv_at hl 1 rfl) ?_
    refine lv_goto (tgt := 23) hx hb d_W_yGoesTo_17 (by decide) ?_
    cases hf
    exact W.iret hx hb hr (fun t ht hW => ⟨_, rfl, rfl, ht⟩) (fun q h => by cases h) d_W_yGoesTo_23
set_option maxHeartbeats 4000000 in
set_option maxRecDepth 100000 in
theorem c_W_across (l : Launch) (dC : Nat → ClassId) (dI : Nat → Nat → Nat) (cI cJ cQ : ClassId) (x0 : Int32) (x1 : Int32) (r_ : Int32) (hf : f_W_across x0 x1 = some r_) : Met l y_W_across w_W_across ({ frames := 0, cells := 0, slots := 0, locals := 0 }) (va_Pc [.int x0, .int x1] (fun U => va_P (dC, dI) vwCl [] U.heap ∧ va_K (dC, dI) vwCl [(cI, .int), (cJ, .long), (cQ, .object "CutBodies$Contents")] U ∧ nestZ U)) (vp_Si (fun r9 => r9 = r_)) 0 0 (fun _ => False) := by
  refine Met.ofW (cc := b_W_across) (maxL := 4) (ret := (some .int)) (by decide) rfl ?_
  intro p e s m args below meth c s₁ B hml hv
  obtain ⟨rfl, hP, hK, hZ⟩ := hv
  have hx := B.exec
  have hb := B.bytes
  have hr := B.returns
  have hts := atoms_spec (ws := w_W_across) B.pre
  have ht : ∀ w ∈ wAll, w.before _ s = true := fun w h => hts w (List.mem_cons_of_mem _ h)
  have hown : s.vm.findClass R_W = some m.cls := findClass_of_methodNamed B.named
  have hlocks := B.notSynchronized
  have hP : va_P (dC, dI) vwCl [] s.heap := hP
  have hl := lv_entry ([.int x0, .int x1]) (n := 4) (Nat.le_of_ble_eq_true rfl)
  rw [lg_entry_eq]
  generalize (lg_sl ([.int x0, .int x1]) ++ List.replicate (4 - (lg_sl ([.int x0, .int x1])).length) Slot.unset).toArray = ls at hl ⊢
  have hl : lv_has ls 4 [(0, .int x0), (1, .int x1)] := hl
  refine w_abs (fun Wx toX ofX => ?_)
  have K28 : ∀ (x0 : Int32) (x1 : Int32) (x2 : Int32) (t0 : Int32) (ls : Array Slot), f_W_across_J28  x0 x1 x2 t0 = some r_ → lv_has ls 4 [(0, .int x0), (1, .int x1), (2, .int x2)] → Wx s.heap [] 0 0 (F0 m 28 ls [.int t0]) := by
    intro x0 x1 x2 t0 ls hf hl
    refine toX _ _ _ _ _ ?_
    unfold f_W_across_J28 at hf
    refine lv_istore_n (lv' := [(3, .int t0), (0, .int x0), (1, .int x1), (2, .int x2)]) hx hb d_W_across_28 rfl hl (by decide) rfl (fun ls hl => ?_)
    refine lv_iconst (v := 2) hx hb d_W_across_29 (by decide) ?_
    refine lv_iload_n hx hb d_W_across_30 rfl (lv_at hl 3 rfl) ?_
    refine lv_imul hx hb d_W_across_31 ?_
    refine lv_iload_n hx hb d_W_across_32 rfl (lv_at hl 1 rfl) ?_
    refine lv_iload_n hx hb d_W_across_33 rfl (lv_at hl 2 rfl) ?_
    refine lv_iadd hx hb d_W_across_34 ?_
    refine lv_iload_n hx hb d_W_across_35 rfl (lv_at hl 0 rfl) ?_
    refine lv_iadd hx hb d_W_across_36 ?_
    refine lv_iconst (v := 2) hx hb d_W_across_37 (by decide) ?_
    refine lv_irem hx hb d_W_across_38 (by decide) ?_
    refine lv_iadd hx hb d_W_across_39 ?_
    cases hf
    exact W.iret hx hb hr (fun t ht hW => ⟨_, rfl, rfl, ht⟩) (fun q h => by cases h) d_W_across_40
  refine toX _ _ _ _ _ ?_
  unfold f_W_across at hf
  refine lv_iconst (v := 3) hx hb d_W_across_0 (by decide) ?_
  refine lv_iload_n hx hb d_W_across_1 rfl (lv_at hl 0 rfl) ?_
  refine lv_iconst (v := 2) hx hb d_W_across_2 (by decide) ?_
  refine lv_idiv hx hb d_W_across_3 (by decide) ?_
  refine lv_isub hx hb d_W_across_4 ?_
  refine lv_iload_n hx hb d_W_across_5 rfl (lv_at hl 1 rfl) ?_
  refine lv_iconst (v := 2) hx hb d_W_across_6 (by decide) ?_
  refine lv_idiv hx hb d_W_across_7 (by decide) ?_
  refine lv_isub hx hb d_W_across_8 ?_
  refine lv_topi (fun v1 ev1 => ?_)
  have hf := oLet_some hf ev1
  refine lv_istore_n (lv' := [(2, .int v1), (0, .int x0), (1, .int x1)]) hx hb d_W_across_9 rfl hl (by decide) rfl (fun ls hl => ?_)
  refine lv_iload_n hx hb d_W_across_10 rfl (lv_at hl 1 rfl) ?_
  refine lv_iconst (v := 2) hx hb d_W_across_11 (by decide) ?_
  refine lv_idiv hx hb d_W_across_12 (by decide) ?_
  refine lv_iconst (v := 1) hx hb d_W_across_13 (by decide) ?_
  refine lv_iadd hx hb d_W_across_14 ?_
  refine lv_iconst (v := 3) hx hb d_W_across_15 (by decide) ?_
  refine lv_irem hx hb d_W_across_16 (by decide) ?_
  refine lv_iload_n hx hb d_W_across_17 rfl (lv_at hl 2 rfl) ?_
  refine lv_iconst (v := 2) hx hb d_W_across_18 (by decide) ?_
  refine lv_idiv hx hb d_W_across_19 (by decide) ?_
  refine lv_icmp_ne (tgt := 27) hx hb d_W_across_20 (by decide) (fun c2 => ?_) (fun c2 => ?_)
  · have hf := oIf_f hf c2
    refine lv_iconst (v := 1) hx hb d_W_across_27 (by decide) ?_
    exact ofX _ _ _ _ _ (K28  x0 x1 v1 1 _ hf (lv_sub hl [1, 2, 0] rfl))
  · have hf := oIf_t hf c2
    refine lv_iconst (v := 0) hx hb d_W_across_23 (by decide) ?_
    refine lv_goto (tgt := 28) hx hb d_W_across_24 (by decide) ?_
    exact ofX _ _ _ _ _ (K28  x0 x1 v1 0 _ hf (lv_sub hl [1, 2, 0] rfl))
set_option maxHeartbeats 4000000 in
set_option maxRecDepth 100000 in
theorem c_W_numberOf (l : Launch) (dC : Nat → ClassId) (dI : Nat → Nat → Nat) (cI cJ cQ : ClassId) (x0 : Int32) (x1 : Int32) (r_ : Int32) (hf : f_W_numberOf x0 x1 = some r_) : Met l y_W_numberOf w_W_numberOf ({ frames := 0, cells := 0, slots := 0, locals := 0 }) (va_Pc [.int x0, .int x1] (fun U => va_P (dC, dI) vwCl [] U.heap ∧ va_K (dC, dI) vwCl [(cI, .int), (cJ, .long), (cQ, .object "CutBodies$Contents")] U ∧ nestZ U)) (vp_Si (fun r9 => r9 = r_)) 0 0 (fun _ => False) := by
  refine Met.ofW (cc := b_W_numberOf) (maxL := 2) (ret := (some .int)) (by decide) rfl ?_
  intro p e s m args below meth c s₁ B hml hv
  obtain ⟨rfl, hP, hK, hZ⟩ := hv
  have hx := B.exec
  have hb := B.bytes
  have hr := B.returns
  have hts := atoms_spec (ws := w_W_numberOf) B.pre
  have ht : ∀ w ∈ wAll, w.before _ s = true := fun w h => hts w (List.mem_cons_of_mem _ h)
  have hown : s.vm.findClass R_W = some m.cls := findClass_of_methodNamed B.named
  have hlocks := B.notSynchronized
  have hP : va_P (dC, dI) vwCl [] s.heap := hP
  have hl := lv_entry ([.int x0, .int x1]) (n := 2) (Nat.le_of_ble_eq_true rfl)
  rw [lg_entry_eq]
  generalize (lg_sl ([.int x0, .int x1]) ++ List.replicate (2 - (lg_sl ([.int x0, .int x1])).length) Slot.unset).toArray = ls at hl ⊢
  have hl : lv_has ls 2 [(0, .int x0), (1, .int x1)] := hl
  unfold f_W_numberOf at hf
  refine lv_iconst (v := 4) hx hb d_W_numberOf_0 (by decide) ?_
  refine lv_iload_n hx hb d_W_numberOf_1 rfl (lv_at hl 0 rfl) ?_
  refine lv_imul hx hb d_W_numberOf_2 ?_
  refine lv_iload_n hx hb d_W_numberOf_3 rfl (lv_at hl 1 rfl) ?_
  refine lv_iload_n hx hb d_W_numberOf_4 rfl (lv_at hl 0 rfl) ?_
  refine lv_icmp_ge (tgt := 12) hx hb d_W_numberOf_5 (by decide) (fun c1 => ?_) (fun c1 => ?_)
  · have hf := oIf_t hf c1
    refine lv_iload_n hx hb d_W_numberOf_12 rfl (lv_at hl 1 rfl) ?_
    refine lv_iconst (v := 2) hx hb d_W_numberOf_13 (by decide) ?_
    refine lv_isub hx hb d_W_numberOf_14 ?_
    refine lv_iadd hx hb d_W_numberOf_15 ?_
    cases hf
    exact W.iret hx hb hr (fun t ht hW => ⟨_, rfl, rfl, ht⟩) (fun q h => by cases h) d_W_numberOf_16
  · have hf := oIf_f hf c1
    refine lv_iload_n hx hb d_W_numberOf_8 rfl (lv_at hl 1 rfl) ?_
    refine lv_goto (tgt := 15) hx hb d_W_numberOf_9 (by decide) ?_
    refine lv_iadd hx hb d_W_numberOf_15 ?_
    cases hf
    exact W.iret hx hb hr (fun t ht hW => ⟨_, rfl, rfl, ht⟩) (fun q h => by cases h) d_W_numberOf_16
set_option maxHeartbeats 4000000 in
set_option maxRecDepth 100000 in
theorem c_W_directionTo (l : Launch) (dC : Nat → ClassId) (dI : Nat → Nat → Nat) (cI cJ cQ : ClassId) (x0 : Int32) (x1 : Int32) (r_ : Int32) (hf : f_W_directionTo x0 x1 = some r_) : Met l y_W_directionTo w_W_directionTo ({ frames := 1, cells := 0, slots := 0, locals := 23 }) (va_Pc [.int x0, .int x1] (fun U => va_P (dC, dI) vwCl [] U.heap ∧ va_K (dC, dI) vwCl [(cI, .int), (cJ, .long), (cQ, .object "CutBodies$Contents")] U ∧ nestZ U)) (vp_Si (fun r9 => r9 = r_)) 0 0 (fun _ => False) := by
  refine Met.ofW (cc := b_W_directionTo) (maxL := 6) (ret := (some .int)) (by decide) rfl ?_
  intro p e s m args below meth c s₁ B hml hv
  obtain ⟨rfl, hP, hK, hZ⟩ := hv
  have hx := B.exec
  have hb := B.bytes
  have hr := B.returns
  have hts := atoms_spec (ws := w_W_directionTo) B.pre
  have ht : ∀ w ∈ wAll, w.before _ s = true := fun w h => hts w (List.mem_cons_of_mem _ h)
  have hown : s.vm.findClass R_W = some m.cls := findClass_of_methodNamed B.named
  have hlocks := B.notSynchronized
  have hP : va_P (dC, dI) vwCl [] s.heap := hP
  have hl := lv_entry ([.int x0, .int x1]) (n := 6) (Nat.le_of_ble_eq_true rfl)
  rw [lg_entry_eq]
  generalize (lg_sl ([.int x0, .int x1]) ++ List.replicate (6 - (lg_sl ([.int x0, .int x1])).length) Slot.unset).toArray = ls at hl ⊢
  have hl : lv_has ls 6 [(0, .int x0), (1, .int x1)] := hl
  refine w_abs (fun Wx toX ofX => ?_)
  have K39 : ∀ (x1 : Int32) (t0 : Int32) (ls : Array Slot), f_W_directionTo_J39  x1 t0 = some r_ → lv_has ls 6 [(1, .int x1)] → Wx s.heap [] 0 0 (F0 m 39 ls [.int t0]) := by
    intro x1 t0 ls hf hl
    refine toX _ _ _ _ _ ?_
    unfold f_W_directionTo_J39 at hf
    refine lv_istore (lv' := [(5, .int t0), (1, .int x1)]) hx hb d_W_directionTo_39 hl (by decide) rfl (fun ls hl => ?_)
    refine lv_iload hx hb d_W_directionTo_41 (lv_at hl 0 rfl) ?_
    refine lv_iload_n hx hb d_W_directionTo_43 rfl (lv_at hl 1 rfl) ?_
    refine lv_iconst (v := 1) hx hb d_W_directionTo_44 (by decide) ?_
    refine lv_iand hx hb d_W_directionTo_45 ?_
    refine lv_ixor hx hb d_W_directionTo_46 ?_
    cases hf
    exact W.iret hx hb hr (fun t ht hW => ⟨_, rfl, rfl, ht⟩) (fun q h => by cases h) d_W_directionTo_47
  refine toX _ _ _ _ _ ?_
  unfold f_W_directionTo at hf
  refine lv_iload_n hx hb d_W_directionTo_0 rfl (lv_at hl 1 rfl) ?_
  refine lv_iconst (v := 2) hx hb d_W_directionTo_1 (by decide) ?_
  refine lv_idiv hx hb d_W_directionTo_2 (by decide) ?_
  refine lv_topi (fun v1 ev1 => ?_)
  have hf := oLet_some hf ev1
  refine lv_istore_n (lv' := [(2, .int v1), (0, .int x0), (1, .int x1)]) hx hb d_W_directionTo_3 rfl hl (by decide) rfl (fun ls hl => ?_)
  refine lv_iload_n hx hb d_W_directionTo_4 rfl (lv_at hl 1 rfl) ?_
  obtain ⟨r2z, hfc, hf⟩ := oCall1_some hf
  have hPc := hP.sub (ws' := []) [] rfl
  refine vp_callSi (va_runS (As := [.int x0]) (rest := []) ⟨hx, hb, hml, hown, ht⟩ (c_W_xGoesTo l dC dI cI cJ cQ x0 r2z hfc) (va_cwS 1 ht (gS m_198 m_199 m_33 m_200) rfl rfl rfl (by decide +kernel) ⟨Nat.le_of_ble_eq_true rfl, Nat.le_of_ble_eq_true rfl⟩) (preR hPc hK hZ) rfl rfl hl.1 rfl (lv_room (Nat.le_of_ble_eq_true rfl)) d_W_directionTo_5 ⟨Nat.le_of_ble_eq_true rfl, Nat.le_of_ble_eq_true rfl⟩).run (fun r2 hw => ?_)
  subst hw
  clear hPc hfc
  refine lv_istore_n (lv' := [(3, .int r2), (2, .int v1), (0, .int x0), (1, .int x1)]) hx hb d_W_directionTo_8 rfl hl (by decide) rfl (fun ls hl => ?_)
  refine lv_iload_n hx hb d_W_directionTo_9 rfl (lv_at hl 2 rfl) ?_
  obtain ⟨r3z, hfc, hf⟩ := oCall1_some hf
  have hPc := hP.sub (ws' := []) [] rfl
  refine vp_callSi (va_runS (As := [.int x0]) (rest := []) ⟨hx, hb, hml, hown, ht⟩ (c_W_yGoesTo l dC dI cI cJ cQ x0 r3z hfc) (va_cwS 1 ht (gS m_204 m_205 m_33 m_206) rfl rfl rfl (by decide +kernel) ⟨Nat.le_of_ble_eq_true rfl, Nat.le_of_ble_eq_true rfl⟩) (preR hPc hK hZ) rfl rfl hl.1 rfl (lv_room (Nat.le_of_ble_eq_true rfl)) d_W_directionTo_10 ⟨Nat.le_of_ble_eq_true rfl, Nat.le_of_ble_eq_true rfl⟩).run (fun r3 hw => ?_)
  subst hw
  clear hPc hfc
  refine lv_istore (lv' := [(4, .int r3), (3, .int r2), (2, .int v1), (0, .int x0), (1, .int x1)]) hx hb d_W_directionTo_13 hl (by decide) rfl (fun ls hl => ?_)
  refine lv_iload_n hx hb d_W_directionTo_15 rfl (lv_at hl 2 rfl) ?_
  refine lv_if_ne (tgt := 23) hx hb d_W_directionTo_16 (by decide) (fun c4 => ?_) (fun c4 => ?_)
  · have hf := oIf_f hf c4
    refine lv_iload_n hx hb d_W_directionTo_23 rfl (lv_at hl 2 rfl) ?_
    refine lv_iconst (v := 1) hx hb d_W_directionTo_24 (by decide) ?_
    refine lv_icmp_ne (tgt := 33) hx hb d_W_directionTo_25 (by decide) (fun c5 => ?_) (fun c5 => ?_)
    · have hf := oIf_f hf c5
      refine lv_iload_n hx hb d_W_directionTo_33 rfl (lv_at hl 1 rfl) ?_
      refine lv_iload hx hb d_W_directionTo_34 (lv_at hl 0 rfl) ?_
      obtain ⟨r6z, hfc, hf⟩ := oCall1_some hf
      have hPc := hP.sub (ws' := []) [] rfl
      refine vp_callSi (va_runS (As := [.int r2, .int r3]) (rest := []) ⟨hx, hb, hml, hown, ht⟩ (c_W_across l dC dI cI cJ cQ r2 r3 r6z hfc) (va_cwS 2 ht (gS m_207 m_208 m_33 m_209) rfl rfl rfl (by decide +kernel) ⟨Nat.le_of_ble_eq_true rfl, Nat.le_of_ble_eq_true rfl⟩) (preR hPc hK hZ) rfl rfl hl.1 rfl (lv_room (Nat.le_of_ble_eq_true rfl)) d_W_directionTo_36 ⟨Nat.le_of_ble_eq_true rfl, Nat.le_of_ble_eq_true rfl⟩).run (fun r6 hw => ?_)
      subst hw
      clear hPc hfc
      exact ofX _ _ _ _ _ (K39  x1 r6 _ hf (lv_sub hl [4] rfl))
    · have hf := oIf_t hf c5
      refine lv_iload hx hb d_W_directionTo_28 (lv_at hl 0 rfl) ?_
      refine lv_goto (tgt := 39) hx hb d_W_directionTo_30 (by decide) ?_
      exact ofX _ _ _ _ _ (K39  x1 r3 _ hf (lv_sub hl [4] rfl))
  · have hf := oIf_t hf c4
    refine lv_iload_n hx hb d_W_directionTo_19 rfl (lv_at hl 1 rfl) ?_
    refine lv_goto (tgt := 39) hx hb d_W_directionTo_20 (by decide) ?_
    exact ofX _ _ _ _ _ (K39  x1 r2 _ hf (lv_sub hl [4] rfl))
set_option maxHeartbeats 4000000 in
set_option maxRecDepth 100000 in
theorem c_W_compose (l : Launch) (dC : Nat → ClassId) (dI : Nat → Nat → Nat) (cI cJ cQ : ClassId) (x0 : Int32) (x1 : Int32) (r_ : Int32) (hf : f_W_compose x0 x1 = some r_) : Met l y_W_compose w_W_compose ({ frames := 2, cells := 0, slots := 0, locals := 48 }) (va_Pc [.int x0, .int x1] (fun U => va_P (dC, dI) vwCl [] U.heap ∧ va_K (dC, dI) vwCl [(cI, .int), (cJ, .long), (cQ, .object "CutBodies$Contents")] U ∧ nestZ U)) (vp_Si (fun r9 => r9 = r_)) 0 0 (fun _ => False) := by
  refine Met.ofW (cc := b_W_compose) (maxL := 2) (ret := (some .int)) (by decide) rfl ?_
  intro p e s m args below meth c s₁ B hml hv
  obtain ⟨rfl, hP, hK, hZ⟩ := hv
  have hx := B.exec
  have hb := B.bytes
  have hr := B.returns
  have hts := atoms_spec (ws := w_W_compose) B.pre
  have ht : ∀ w ∈ wAll, w.before _ s = true := fun w h => hts w (List.mem_cons_of_mem _ h)
  have hown : s.vm.findClass R_W = some m.cls := findClass_of_methodNamed B.named
  have hlocks := B.notSynchronized
  have hP : va_P (dC, dI) vwCl [] s.heap := hP
  have hl := lv_entry ([.int x0, .int x1]) (n := 2) (Nat.le_of_ble_eq_true rfl)
  rw [lg_entry_eq]
  generalize (lg_sl ([.int x0, .int x1]) ++ List.replicate (2 - (lg_sl ([.int x0, .int x1])).length) Slot.unset).toArray = ls at hl ⊢
  have hl : lv_has ls 2 [(0, .int x0), (1, .int x1)] := hl
  unfold f_W_compose at hf
  refine lv_iload_n hx hb d_W_compose_0 rfl (lv_at hl 0 rfl) ?_
  refine lv_iload_n hx hb d_W_compose_1 rfl (lv_at hl 1 rfl) ?_
  obtain ⟨r1z, hfc, hf⟩ := oCall1_some hf
  have hPc := hP.sub (ws' := []) [] rfl
  refine vp_callSi (va_runS (As := [.int x1]) (rest := [.int x0]) ⟨hx, hb, hml, hown, ht⟩ (c_W_xGoesTo l dC dI cI cJ cQ x1 r1z hfc) (va_cwS 1 ht (gS m_198 m_199 m_33 m_200) rfl rfl rfl (by decide +kernel) ⟨Nat.le_of_ble_eq_true rfl, Nat.le_of_ble_eq_true rfl⟩) (preR hPc hK hZ) rfl rfl hl.1 rfl (lv_room (Nat.le_of_ble_eq_true rfl)) d_W_compose_2 ⟨Nat.le_of_ble_eq_true rfl, Nat.le_of_ble_eq_true rfl⟩).run (fun r1 hw => ?_)
  subst hw
  clear hPc hfc
  obtain ⟨r2z, hfc, hf⟩ := oCall1_some hf
  have hPc := hP.sub (ws' := []) [] rfl
  refine vp_callSi (va_runS (As := [.int x0, .int r1]) (rest := []) ⟨hx, hb, hml, hown, ht⟩ (c_W_directionTo l dC dI cI cJ cQ x0 r1 r2z hfc) (va_cwS 2 ht (gS m_201 m_202 m_33 m_203) rfl rfl rfl (by decide +kernel) ⟨Nat.le_of_ble_eq_true rfl, Nat.le_of_ble_eq_true rfl⟩) (preR hPc hK hZ) rfl rfl hl.1 rfl (lv_room (Nat.le_of_ble_eq_true rfl)) d_W_compose_5 ⟨Nat.le_of_ble_eq_true rfl, Nat.le_of_ble_eq_true rfl⟩).run (fun r2 hw => ?_)
  subst hw
  clear hPc hfc
  refine lv_iload_n hx hb d_W_compose_8 rfl (lv_at hl 0 rfl) ?_
  refine lv_iload_n hx hb d_W_compose_9 rfl (lv_at hl 1 rfl) ?_
  obtain ⟨r3z, hfc, hf⟩ := oCall1_some hf
  have hPc := hP.sub (ws' := []) [] rfl
  refine vp_callSi (va_runS (As := [.int x1]) (rest := [.int x0, .int r2]) ⟨hx, hb, hml, hown, ht⟩ (c_W_yGoesTo l dC dI cI cJ cQ x1 r3z hfc) (va_cwS 1 ht (gS m_204 m_205 m_33 m_206) rfl rfl rfl (by decide +kernel) ⟨Nat.le_of_ble_eq_true rfl, Nat.le_of_ble_eq_true rfl⟩) (preR hPc hK hZ) rfl rfl hl.1 rfl (lv_room (Nat.le_of_ble_eq_true rfl)) d_W_compose_10 ⟨Nat.le_of_ble_eq_true rfl, Nat.le_of_ble_eq_true rfl⟩).run (fun r3 hw => ?_)
  subst hw
  clear hPc hfc
  obtain ⟨r4z, hfc, hf⟩ := oCall1_some hf
  have hPc := hP.sub (ws' := []) [] rfl
  refine vp_callSi (va_runS (As := [.int x0, .int r3]) (rest := [.int r2]) ⟨hx, hb, hml, hown, ht⟩ (c_W_directionTo l dC dI cI cJ cQ x0 r3 r4z hfc) (va_cwS 2 ht (gS m_201 m_202 m_33 m_203) rfl rfl rfl (by decide +kernel) ⟨Nat.le_of_ble_eq_true rfl, Nat.le_of_ble_eq_true rfl⟩) (preR hPc hK hZ) rfl rfl hl.1 rfl (lv_room (Nat.le_of_ble_eq_true rfl)) d_W_compose_13 ⟨Nat.le_of_ble_eq_true rfl, Nat.le_of_ble_eq_true rfl⟩).run (fun r4 hw => ?_)
  subst hw
  clear hPc hfc
  obtain ⟨r5z, hfc, hf⟩ := oCall1_some hf
  have hPc := hP.sub (ws' := []) [] rfl
  refine vp_callSi (va_runS (As := [.int r2, .int r4]) (rest := []) ⟨hx, hb, hml, hown, ht⟩ (c_W_numberOf l dC dI cI cJ cQ r2 r4 r5z hfc) (va_cwS 2 ht (gS m_181 m_182 m_33 m_183) rfl rfl rfl (by decide +kernel) ⟨Nat.le_of_ble_eq_true rfl, Nat.le_of_ble_eq_true rfl⟩) (preR hPc hK hZ) rfl rfl hl.1 rfl (lv_room (Nat.le_of_ble_eq_true rfl)) d_W_compose_16 ⟨Nat.le_of_ble_eq_true rfl, Nat.le_of_ble_eq_true rfl⟩).run (fun r5 hw => ?_)
  subst hw
  clear hPc hfc
  cases hf
  exact W.iret hx hb hr (fun t ht hW => ⟨_, rfl, rfl, ht⟩) (fun q h => by cases h) d_W_compose_19
set_option maxHeartbeats 4000000 in
set_option maxRecDepth 100000 in
theorem c_W_orderOf (l : Launch) (dC : Nat → ClassId) (dI : Nat → Nat → Nat) (cI cJ cQ : ClassId) (x0 : Int32) (r_ : Int32) (hf : f_W_orderOf x0 = some r_) : Met l y_W_orderOf w_W_orderOf ({ frames := 3, cells := 0, slots := 0, locals := 69 }) (va_Pc [.int x0] (fun U => va_P (dC, dI) vwCl [] U.heap ∧ va_K (dC, dI) vwCl [(cI, .int), (cJ, .long), (cQ, .object "CutBodies$Contents")] U ∧ nestZ U)) (vp_Si (fun r9 => r9 = r_)) 0 0 (fun _ => False) := by
  refine Met.ofW (cc := b_W_orderOf) (maxL := 3) (ret := (some .int)) (by decide) rfl ?_
  intro p e s m args below meth c s₁ B hml hv
  obtain ⟨rfl, hP, hK, hZ⟩ := hv
  have hx := B.exec
  have hb := B.bytes
  have hr := B.returns
  have hts := atoms_spec (ws := w_W_orderOf) B.pre
  have ht : ∀ w ∈ wAll, w.before _ s = true := fun w h => hts w (List.mem_cons_of_mem _ h)
  have hown : s.vm.findClass R_W = some m.cls := findClass_of_methodNamed B.named
  have hlocks := B.notSynchronized
  have hP : va_P (dC, dI) vwCl [] s.heap := hP
  have hl := lv_entry ([.int x0]) (n := 3) (Nat.le_of_ble_eq_true rfl)
  rw [lg_entry_eq]
  generalize (lg_sl ([.int x0]) ++ List.replicate (3 - (lg_sl ([.int x0])).length) Slot.unset).toArray = ls at hl ⊢
  have hl : lv_has ls 3 [(0, .int x0)] := hl
  refine w_abs (fun Wx toX ofX => ?_)
  have K4 : ∀ (x0 : Int32) (n : Nat) (x1 : Int32) (x2 : Int32) (ls : Array Slot), oLoop2 (f_W_orderOf_L4  x0) n x1 x2 = some r_ → lv_has ls 3 [(0, .int x0), (1, .int x1), (2, .int x2)] → Wx s.heap [] 0 0 (F0 m 4 ls []) := by
    intro x0 n
    induction n with
    | zero => intro x1 x2 ls hf; exact (oLoop2_0 hf).elim
    | succ n ih4 =>
      obtain ⟨rec4, hrec4⟩ : ∃ z, z = oLoop2 (f_W_orderOf_L4  x0) n := ⟨_, rfl⟩
      rw [← hrec4] at ih4
      intro x1 x2 ls hf hl
      refine toX _ _ _ _ _ ?_
      have hf := oLoop2_s hf
      rw [← hrec4] at hf
      unfold f_W_orderOf_L4 at hf
      refine lv_iload_n hx hb d_W_orderOf_4 rfl (lv_at hl 1 rfl) ?_
      refine lv_if_eq (tgt := 25) hx hb d_W_orderOf_5 (by decide) (fun c1 => ?_) (fun c1 => ?_)
      · have hf := oIf_t hf c1
        refine lv_iload_n hx hb d_W_orderOf_25 rfl (lv_at hl 2 rfl) ?_
        cases hf
        exact W.iret hx hb hr (fun t ht hW => ⟨_, rfl, rfl, ht⟩) (fun q h => by cases h) d_W_orderOf_26
      · have hf := oIf_f hf c1
        refine lv_iload_n hx hb d_W_orderOf_8 rfl (lv_at hl 2 rfl) ?_
        refine lv_iconst (v := 4) hx hb d_W_orderOf_9 (by decide) ?_
        refine lv_icmp_ge (tgt := 25) hx hb d_W_orderOf_10 (by decide) (fun c2 => ?_) (fun c2 => ?_)
        · have hf := oIf_t hf c2
          refine lv_iload_n hx hb d_W_orderOf_25 rfl (lv_at hl 2 rfl) ?_
          cases hf
          exact W.iret hx hb hr (fun t ht hW => ⟨_, rfl, rfl, ht⟩) (fun q h => by cases h) d_W_orderOf_26
        · have hf := oIf_f hf c2
          refine lv_iload_n hx hb d_W_orderOf_13 rfl (lv_at hl 0 rfl) ?_
          refine lv_iload_n hx hb d_W_orderOf_14 rfl (lv_at hl 1 rfl) ?_
          obtain ⟨r3z, hfc, hf⟩ := oCall1_some hf
          have hPc := hP.sub (ws' := []) [] rfl
          refine vp_callSi (va_runS (As := [.int x0, .int x1]) (rest := []) ⟨hx, hb, hml, hown, ht⟩ (c_W_compose l dC dI cI cJ cQ x0 x1 r3z hfc) (va_cwS 2 ht (gS m_195 m_196 m_33 m_197) rfl rfl rfl (by decide +kernel) ⟨Nat.le_of_ble_eq_true rfl, Nat.le_of_ble_eq_true rfl⟩) (preR hPc hK hZ) rfl rfl hl.1 rfl (lv_room (Nat.le_of_ble_eq_true rfl)) d_W_orderOf_15 ⟨Nat.le_of_ble_eq_true rfl, Nat.le_of_ble_eq_true rfl⟩).run (fun r3 hw => ?_)
          subst hw
          clear hPc hfc
          refine lv_istore_n (lv' := [(1, .int r3), (0, .int x0), (2, .int x2)]) hx hb d_W_orderOf_18 rfl hl (by decide) rfl (fun ls hl => ?_)
          obtain ⟨v4, ev4, hf⟩ := oLet_ex hf
          refine lv_iinc (v := v4) (lv' := [(2, .int v4), (1, .int r3), (0, .int x0)]) hx hb d_W_orderOf_19 hl (k := 2) rfl (by rw [ev4]; rfl) (by decide) rfl (fun ls hl => ?_)
          refine lv_goto (tgt := 4) hx hb d_W_orderOf_22 (by decide) ?_
          exact ofX _ _ _ _ _ (ih4 r3 v4 _ hf (lv_sub hl [2, 1, 0] rfl))
  refine toX _ _ _ _ _ ?_
  unfold f_W_orderOf at hf
  refine lv_iload_n hx hb d_W_orderOf_0 rfl (lv_at hl 0 rfl) ?_
  refine lv_istore_n (lv' := [(1, .int x0), (0, .int x0)]) hx hb d_W_orderOf_1 rfl hl (by decide) rfl (fun ls hl => ?_)
  refine lv_iconst (v := 1) hx hb d_W_orderOf_2 (by decide) ?_
  refine lv_istore_n (lv' := [(2, .int 1), (1, .int x0), (0, .int x0)]) hx hb d_W_orderOf_3 rfl hl (by decide) rfl (fun ls hl => ?_)
  exact ofX _ _ _ _ _ (K4 x0 _ x0 1 _ hf (lv_sub hl [2, 1, 0] rfl))
set_option maxHeartbeats 4000000 in
set_option maxRecDepth 100000 in
theorem c_W_part (l : Launch) (dC : Nat → ClassId) (dI : Nat → Nat → Nat) (cI cJ cQ : ClassId) (x0 : Int32) (x1 : Int32) (x2 : Int32) (r_ : Int32) (hf : f_W_part x0 x1 x2 = some r_) : Met l y_W_part w_W_part ({ frames := 0, cells := 0, slots := 0, locals := 0 }) (va_Pc [.int x0, .int x1, .int x2] (fun U => va_P (dC, dI) vwCl [] U.heap ∧ va_K (dC, dI) vwCl [(cI, .int), (cJ, .long), (cQ, .object "CutBodies$Contents")] U ∧ nestZ U)) (vp_Si (fun r9 => r9 = r_)) 0 0 (fun _ => False) := by
  refine Met.ofW (cc := b_W_part) (maxL := 3) (ret := (some .int)) (by decide) rfl ?_
  intro p e s m args below meth c s₁ B hml hv
  obtain ⟨rfl, hP, hK, hZ⟩ := hv
  have hx := B.exec
  have hb := B.bytes
  have hr := B.returns
  have hts := atoms_spec (ws := w_W_part) B.pre
  have ht : ∀ w ∈ wAll, w.before _ s = true := fun w h => hts w (List.mem_cons_of_mem _ h)
  have hown : s.vm.findClass R_W = some m.cls := findClass_of_methodNamed B.named
  have hlocks := B.notSynchronized
  have hP : va_P (dC, dI) vwCl [] s.heap := hP
  have hl := lv_entry ([.int x0, .int x1, .int x2]) (n := 3) (Nat.le_of_ble_eq_true rfl)
  rw [lg_entry_eq]
  generalize (lg_sl ([.int x0, .int x1, .int x2]) ++ List.replicate (3 - (lg_sl ([.int x0, .int x1, .int x2])).length) Slot.unset).toArray = ls at hl ⊢
  have hl : lv_has ls 3 [(0, .int x0), (1, .int x1), (2, .int x2)] := hl
  unfold f_W_part at hf
  refine lv_iload_n hx hb d_W_part_0 rfl (lv_at hl 0 rfl) ?_
  refine lv_iconst (v := 2) hx hb d_W_part_1 (by decide) ?_
  refine lv_idiv hx hb d_W_part_2 (by decide) ?_
  refine lv_iload_n hx hb d_W_part_3 rfl (lv_at hl 1 rfl) ?_
  refine lv_icmp_eq (tgt := 9) hx hb d_W_part_4 (by decide) (fun c1 => ?_) (fun c1 => ?_)
  · have hf := oIf_t hf c1
    refine lv_iload_n hx hb d_W_part_9 rfl (lv_at hl 0 rfl) ?_
    refine lv_iconst (v := 2) hx hb d_W_part_10 (by decide) ?_
    refine lv_irem hx hb d_W_part_11 (by decide) ?_
    refine lv_if_ne (tgt := 19) hx hb d_W_part_12 (by decide) (fun c2 => ?_) (fun c2 => ?_)
    · have hf := oIf_f hf c2
      refine lv_iload_n hx hb d_W_part_19 rfl (lv_at hl 2 rfl) ?_
      refine lv_ineg hx hb d_W_part_20 ?_
      cases hf
      exact W.iret hx hb hr (fun t ht hW => ⟨_, rfl, rfl, ht⟩) (fun q h => by cases h) d_W_part_21
    · have hf := oIf_t hf c2
      refine lv_iload_n hx hb d_W_part_15 rfl (lv_at hl 2 rfl) ?_
      refine lv_goto (tgt := 21) hx hb d_W_part_16 (by decide) ?_
      cases hf
      exact W.iret hx hb hr (fun t ht hW => ⟨_, rfl, rfl, ht⟩) (fun q h => by cases h) d_W_part_21
  · have hf := oIf_f hf c1
    refine lv_iconst (v := 0) hx hb d_W_part_7 (by decide) ?_
    cases hf
    exact W.iret hx hb hr (fun t ht hW => ⟨_, rfl, rfl, ht⟩) (fun q h => by cases h) d_W_part_8
set_option maxHeartbeats 4000000 in
set_option maxRecDepth 100000 in
theorem c_W_coordinate (l : Launch) (dC : Nat → ClassId) (dI : Nat → Nat → Nat) (cI cJ cQ : ClassId) (x0 : Int32) (x1 : Int32) (x2 : Int32) (x3 : Int32) (x4 : Int32) (r_ : Int32) (hf : f_W_coordinate x0 x1 x2 x3 x4 = some r_) : Met l y_W_coordinate w_W_coordinate ({ frames := 1, cells := 0, slots := 0, locals := 23 }) (va_Pc [.int x0, .int x1, .int x2, .int x3, .int x4] (fun U => va_P (dC, dI) vwCl [] U.heap ∧ va_K (dC, dI) vwCl [(cI, .int), (cJ, .long), (cQ, .object "CutBodies$Contents")] U ∧ nestZ U)) (vp_Si (fun r9 => r9 = r_)) 0 0 (fun _ => False) := by
  refine Met.ofW (cc := b_W_coordinate) (maxL := 7) (ret := (some .int)) (by decide) rfl ?_
  intro p e s m args below meth c s₁ B hml hv
  obtain ⟨rfl, hP, hK, hZ⟩ := hv
  have hx := B.exec
  have hb := B.bytes
  have hr := B.returns
  have hts := atoms_spec (ws := w_W_coordinate) B.pre
  have ht : ∀ w ∈ wAll, w.before _ s = true := fun w h => hts w (List.mem_cons_of_mem _ h)
  have hown : s.vm.findClass R_W = some m.cls := findClass_of_methodNamed B.named
  have hlocks := B.notSynchronized
  have hP : va_P (dC, dI) vwCl [] s.heap := hP
  have hl := lv_entry ([.int x0, .int x1, .int x2, .int x3, .int x4]) (n := 7) (Nat.le_of_ble_eq_true rfl)
  rw [lg_entry_eq]
  generalize (lg_sl ([.int x0, .int x1, .int x2, .int x3, .int x4]) ++ List.replicate (7 - (lg_sl ([.int x0, .int x1, .int x2, .int x3, .int x4])).length) Slot.unset).toArray = ls at hl ⊢
  have hl : lv_has ls 7 [(0, .int x0), (1, .int x1), (2, .int x2), (3, .int x3), (4, .int x4)] := hl
  unfold f_W_coordinate at hf
  refine lv_iload_n hx hb d_W_coordinate_0 rfl (lv_at hl 0 rfl) ?_
  obtain ⟨r1z, hfc, hf⟩ := oCall1_some hf
  have hPc := hP.sub (ws' := []) [] rfl
  refine vp_callSi (va_runS (As := [.int x0]) (rest := []) ⟨hx, hb, hml, hown, ht⟩ (c_W_xGoesTo l dC dI cI cJ cQ x0 r1z hfc) (va_cwS 1 ht (gS m_198 m_199 m_33 m_200) rfl rfl rfl (by decide +kernel) ⟨Nat.le_of_ble_eq_true rfl, Nat.le_of_ble_eq_true rfl⟩) (preR hPc hK hZ) rfl rfl hl.1 rfl (lv_room (Nat.le_of_ble_eq_true rfl)) d_W_coordinate_1 ⟨Nat.le_of_ble_eq_true rfl, Nat.le_of_ble_eq_true rfl⟩).run (fun r1 hw => ?_)
  subst hw
  clear hPc hfc
  refine lv_istore (lv' := [(5, .int r1), (0, .int x0), (1, .int x1), (2, .int x2), (3, .int x3), (4, .int x4)]) hx hb d_W_coordinate_4 hl (by decide) rfl (fun ls hl => ?_)
  refine lv_iload_n hx hb d_W_coordinate_6 rfl (lv_at hl 1 rfl) ?_
  obtain ⟨r2z, hfc, hf⟩ := oCall1_some hf
  have hPc := hP.sub (ws' := []) [] rfl
  refine vp_callSi (va_runS (As := [.int x0]) (rest := []) ⟨hx, hb, hml, hown, ht⟩ (c_W_yGoesTo l dC dI cI cJ cQ x0 r2z hfc) (va_cwS 1 ht (gS m_204 m_205 m_33 m_206) rfl rfl rfl (by decide +kernel) ⟨Nat.le_of_ble_eq_true rfl, Nat.le_of_ble_eq_true rfl⟩) (preR hPc hK hZ) rfl rfl hl.1 rfl (lv_room (Nat.le_of_ble_eq_true rfl)) d_W_coordinate_7 ⟨Nat.le_of_ble_eq_true rfl, Nat.le_of_ble_eq_true rfl⟩).run (fun r2 hw => ?_)
  subst hw
  clear hPc hfc
  refine lv_istore (lv' := [(6, .int r2), (5, .int r1), (0, .int x0), (1, .int x1), (2, .int x2), (3, .int x3), (4, .int x4)]) hx hb d_W_coordinate_10 hl (by decide) rfl (fun ls hl => ?_)
  refine lv_iload hx hb d_W_coordinate_12 (lv_at hl 1 rfl) ?_
  refine lv_iload_n hx hb d_W_coordinate_14 rfl (lv_at hl 3 rfl) ?_
  refine lv_iload_n hx hb d_W_coordinate_15 rfl (lv_at hl 4 rfl) ?_
  obtain ⟨r3z, hfc, hf⟩ := oCall1_some hf
  have hPc := hP.sub (ws' := []) [] rfl
  refine vp_callSi (va_runS (As := [.int r1, .int x1, .int x2]) (rest := []) ⟨hx, hb, hml, hown, ht⟩ (c_W_part l dC dI cI cJ cQ r1 x1 x2 r3z hfc) (va_cwS 3 ht (gS m_255 m_256 m_33 m_257) rfl rfl rfl (by decide +kernel) ⟨Nat.le_of_ble_eq_true rfl, Nat.le_of_ble_eq_true rfl⟩) (preR hPc hK hZ) rfl rfl hl.1 rfl (lv_room (Nat.le_of_ble_eq_true rfl)) d_W_coordinate_16 ⟨Nat.le_of_ble_eq_true rfl, Nat.le_of_ble_eq_true rfl⟩).run (fun r3 hw => ?_)
  subst hw
  clear hPc hfc
  refine lv_iload hx hb d_W_coordinate_19 (lv_at hl 0 rfl) ?_
  refine lv_iload_n hx hb d_W_coordinate_21 rfl (lv_at hl 3 rfl) ?_
  refine lv_iload_n hx hb d_W_coordinate_22 rfl (lv_at hl 5 rfl) ?_
  obtain ⟨r4z, hfc, hf⟩ := oCall1_some hf
  have hPc := hP.sub (ws' := []) [] rfl
  refine vp_callSi (va_runS (As := [.int r2, .int x1, .int x3]) (rest := [.int r3]) ⟨hx, hb, hml, hown, ht⟩ (c_W_part l dC dI cI cJ cQ r2 x1 x3 r4z hfc) (va_cwS 3 ht (gS m_255 m_256 m_33 m_257) rfl rfl rfl (by decide +kernel) ⟨Nat.le_of_ble_eq_true rfl, Nat.le_of_ble_eq_true rfl⟩) (preR hPc hK hZ) rfl rfl hl.1 rfl (lv_room (Nat.le_of_ble_eq_true rfl)) d_W_coordinate_23 ⟨Nat.le_of_ble_eq_true rfl, Nat.le_of_ble_eq_true rfl⟩).run (fun r4 hw => ?_)
  subst hw
  clear hPc hfc
  refine lv_iadd hx hb d_W_coordinate_26 ?_
  refine lv_iload hx hb d_W_coordinate_27 (lv_at hl 1 rfl) ?_
  refine lv_iload hx hb d_W_coordinate_29 (lv_at hl 0 rfl) ?_
  obtain ⟨r5z, hfc, hf⟩ := oCall1_some hf
  have hPc := hP.sub (ws' := []) [] rfl
  refine vp_callSi (va_runS (As := [.int r1, .int r2]) (rest := [.int (r3 + r4)]) ⟨hx, hb, hml, hown, ht⟩ (c_W_across l dC dI cI cJ cQ r1 r2 r5z hfc) (va_cwS 2 ht (gS m_207 m_208 m_33 m_209) rfl rfl rfl (by decide +kernel) ⟨Nat.le_of_ble_eq_true rfl, Nat.le_of_ble_eq_true rfl⟩) (preR hPc hK hZ) rfl rfl hl.1 rfl (lv_room (Nat.le_of_ble_eq_true rfl)) d_W_coordinate_31 ⟨Nat.le_of_ble_eq_true rfl, Nat.le_of_ble_eq_true rfl⟩).run (fun r5 hw => ?_)
  subst hw
  clear hPc hfc
  refine lv_iload_n hx hb d_W_coordinate_34 rfl (lv_at hl 3 rfl) ?_
  refine lv_iload hx hb d_W_coordinate_35 (lv_at hl 6 rfl) ?_
  obtain ⟨r6z, hfc, hf⟩ := oCall1_some hf
  have hPc := hP.sub (ws' := []) [] rfl
  refine vp_callSi (va_runS (As := [.int r5, .int x1, .int x4]) (rest := [.int (r3 + r4)]) ⟨hx, hb, hml, hown, ht⟩ (c_W_part l dC dI cI cJ cQ r5 x1 x4 r6z hfc) (va_cwS 3 ht (gS m_255 m_256 m_33 m_257) rfl rfl rfl (by decide +kernel) ⟨Nat.le_of_ble_eq_true rfl, Nat.le_of_ble_eq_true rfl⟩) (preR hPc hK hZ) rfl rfl hl.1 rfl (lv_room (Nat.le_of_ble_eq_true rfl)) d_W_coordinate_37 ⟨Nat.le_of_ble_eq_true rfl, Nat.le_of_ble_eq_true rfl⟩).run (fun r6 hw => ?_)
  subst hw
  clear hPc hfc
  refine lv_iadd hx hb d_W_coordinate_40 ?_
  cases hf
  exact W.iret hx hb hr (fun t ht hW => ⟨_, rfl, rfl, ht⟩) (fun q h => by cases h) d_W_coordinate_41
set_option maxHeartbeats 4000000 in
set_option maxRecDepth 100000 in
theorem c_W_directionOf (l : Launch) (dC : Nat → ClassId) (dI : Nat → Nat → Nat) (cI cJ cQ : ClassId) (x0 : Int32) (x1 : Int32) (x2 : Int32) (r_ : Int32) (hf : f_W_directionOf x0 x1 x2 = some r_) : Met l y_W_directionOf w_W_directionOf ({ frames := 0, cells := 0, slots := 0, locals := 0 }) (va_Pc [.int x0, .int x1, .int x2] (fun U => va_P (dC, dI) vwCl [] U.heap ∧ va_K (dC, dI) vwCl [(cI, .int), (cJ, .long), (cQ, .object "CutBodies$Contents")] U ∧ nestZ U)) (vp_Si (fun r9 => r9 = r_)) 0 0 (fun _ => False) := by
  refine Met.ofW (cc := b_W_directionOf) (maxL := 3) (ret := (some .int)) (by decide) rfl ?_
  intro p e s m args below meth c s₁ B hml hv
  obtain ⟨rfl, hP, hK, hZ⟩ := hv
  have hx := B.exec
  have hb := B.bytes
  have hr := B.returns
  have hts := atoms_spec (ws := w_W_directionOf) B.pre
  have ht : ∀ w ∈ wAll, w.before _ s = true := fun w h => hts w (List.mem_cons_of_mem _ h)
  have hown : s.vm.findClass R_W = some m.cls := findClass_of_methodNamed B.named
  have hlocks := B.notSynchronized
  have hP : va_P (dC, dI) vwCl [] s.heap := hP
  have hl := lv_entry ([.int x0, .int x1, .int x2]) (n := 3) (Nat.le_of_ble_eq_true rfl)
  rw [lg_entry_eq]
  generalize (lg_sl ([.int x0, .int x1, .int x2]) ++ List.replicate (3 - (lg_sl ([.int x0, .int x1, .int x2])).length) Slot.unset).toArray = ls at hl ⊢
  have hl : lv_has ls 3 [(0, .int x0), (1, .int x1), (2, .int x2)] := hl
  unfold f_W_directionOf at hf
  refine lv_iload_n hx hb d_W_directionOf_0 rfl (lv_at hl 0 rfl) ?_
  refine lv_if_eq (tgt := 14) hx hb d_W_directionOf_1 (by decide) (fun c1 => ?_) (fun c1 => ?_)
  · have hf := oIf_t hf c1
    refine lv_iload_n hx hb d_W_directionOf_14 rfl (lv_at hl 1 rfl) ?_
    refine lv_if_eq (tgt := 28) hx hb d_W_directionOf_15 (by decide) (fun c2 => ?_) (fun c2 => ?_)
    · have hf := oIf_t hf c2
      refine lv_iload_n hx hb d_W_directionOf_28 rfl (lv_at hl 2 rfl) ?_
      refine lv_if_le (tgt := 36) hx hb d_W_directionOf_29 (by decide) (fun c3 => ?_) (fun c3 => ?_)
      · have hf := oIf_t hf c3
        refine lv_iconst (v := 5) hx hb d_W_directionOf_36 (by decide) ?_
        cases hf
        exact W.iret hx hb hr (fun t ht hW => ⟨_, rfl, rfl, ht⟩) (fun q h => by cases h) d_W_directionOf_37
      · have hf := oIf_f hf c3
        refine lv_iconst (v := 4) hx hb d_W_directionOf_32 (by decide) ?_
        refine lv_goto (tgt := 37) hx hb d_W_directionOf_33 (by decide) ?_
        cases hf
        exact W.iret hx hb hr (fun t ht hW => ⟨_, rfl, rfl, ht⟩) (fun q h => by cases h) d_W_directionOf_37
    · have hf := oIf_f hf c2
      refine lv_iload_n hx hb d_W_directionOf_18 rfl (lv_at hl 1 rfl) ?_
      refine lv_if_le (tgt := 26) hx hb d_W_directionOf_19 (by decide) (fun c4 => ?_) (fun c4 => ?_)
      · have hf := oIf_t hf c4
        refine lv_iconst (v := 3) hx hb d_W_directionOf_26 (by decide) ?_
        cases hf
        exact W.iret hx hb hr (fun t ht hW => ⟨_, rfl, rfl, ht⟩) (fun q h => by cases h) d_W_directionOf_27
      · have hf := oIf_f hf c4
        refine lv_iconst (v := 2) hx hb d_W_directionOf_22 (by decide) ?_
        refine lv_goto (tgt := 27) hx hb d_W_directionOf_23 (by decide) ?_
        cases hf
        exact W.iret hx hb hr (fun t ht hW => ⟨_, rfl, rfl, ht⟩) (fun q h => by cases h) d_W_directionOf_27
  · have hf := oIf_f hf c1
    refine lv_iload_n hx hb d_W_directionOf_4 rfl (lv_at hl 0 rfl) ?_
    refine lv_if_le (tgt := 12) hx hb d_W_directionOf_5 (by decide) (fun c5 => ?_) (fun c5 => ?_)
    · have hf := oIf_t hf c5
      refine lv_iconst (v := 1) hx hb d_W_directionOf_12 (by decide) ?_
      cases hf
      exact W.iret hx hb hr (fun t ht hW => ⟨_, rfl, rfl, ht⟩) (fun q h => by cases h) d_W_directionOf_13
    · have hf := oIf_f hf c5
      refine lv_iconst (v := 0) hx hb d_W_directionOf_8 (by decide) ?_
      refine lv_goto (tgt := 13) hx hb d_W_directionOf_9 (by decide) ?_
      cases hf
      exact W.iret hx hb hr (fun t ht hW => ⟨_, rfl, rfl, ht⟩) (fun q h => by cases h) d_W_directionOf_13
set_option maxHeartbeats 4000000 in
set_option maxRecDepth 100000 in
theorem c_W_stepAbout (l : Launch) (dC : Nat → ClassId) (dI : Nat → Nat → Nat) (cI cJ cQ : ClassId) (x0 : Int32) (x1 : Int32) (x2 : Int32) (r_ : Int32) (hf : f_W_stepAbout x0 x1 x2 = some r_) : Met l y_W_stepAbout w_W_stepAbout ({ frames := 1, cells := 0, slots := 0, locals := 22 }) (va_Pc [.int x0, .int x1, .int x2] (fun U => va_P (dC, dI) vwCl [] U.heap ∧ va_K (dC, dI) vwCl [(cI, .int), (cJ, .long), (cQ, .object "CutBodies$Contents")] U ∧ nestZ U)) (vp_Si (fun r9 => r9 = r_)) 0 0 (fun _ => False) := by
  refine Met.ofW (cc := b_W_stepAbout) (maxL := 8) (ret := (some .int)) (by decide) rfl ?_
  intro p e s m args below meth c s₁ B hml hv
  obtain ⟨rfl, hP, hK, hZ⟩ := hv
  have hx := B.exec
  have hb := B.bytes
  have hr := B.returns
  have hts := atoms_spec (ws := w_W_stepAbout) B.pre
  have ht : ∀ w ∈ wAll, w.before _ s = true := fun w h => hts w (List.mem_cons_of_mem _ h)
  have hown : s.vm.findClass R_W = some m.cls := findClass_of_methodNamed B.named
  have hlocks := B.notSynchronized
  have hP : va_P (dC, dI) vwCl [] s.heap := hP
  have hl := lv_entry ([.int x0, .int x1, .int x2]) (n := 8) (Nat.le_of_ble_eq_true rfl)
  rw [lg_entry_eq]
  generalize (lg_sl ([.int x0, .int x1, .int x2]) ++ List.replicate (8 - (lg_sl ([.int x0, .int x1, .int x2])).length) Slot.unset).toArray = ls at hl ⊢
  have hl : lv_has ls 8 [(0, .int x0), (1, .int x1), (2, .int x2)] := hl
  refine w_abs (fun Wx toX ofX => ?_)
  have K34 : ∀ (x0 : Int32) (x1 : Int32) (x2 : Int32) (x4 : Int32) (t0 : Int32) (ls : Array Slot), f_W_stepAbout_J34  x0 x1 x2 x4 t0 = some r_ → lv_has ls 8 [(0, .int x0), (1, .int x1), (2, .int x2), (4, .int x4)] → Wx s.heap [] 0 0 (F0 m 34 ls [.int t0]) := by
    intro x0 x1 x2 x4 t0 ls hf hl
    refine toX _ _ _ _ _ ?_
    unfold f_W_stepAbout_J34 at hf
    refine lv_istore (lv' := [(5, .int t0), (0, .int x0), (1, .int x1), (2, .int x2), (4, .int x4)]) hx hb d_W_stepAbout_34 hl (by decide) rfl (fun ls hl => ?_)
    refine lv_iload_n hx hb d_W_stepAbout_36 rfl (lv_at hl 1 rfl) ?_
    refine lv_iload_n hx hb d_W_stepAbout_37 rfl (lv_at hl 1 rfl) ?_
    refine lv_imul hx hb d_W_stepAbout_38 ?_
    refine lv_iload hx hb d_W_stepAbout_39 (lv_at hl 0 rfl) ?_
    refine lv_isub hx hb d_W_stepAbout_41 ?_
    refine lv_iload_n hx hb d_W_stepAbout_42 rfl (lv_at hl 1 rfl) ?_
    refine lv_iload_n hx hb d_W_stepAbout_43 rfl (lv_at hl 2 rfl) ?_
    refine lv_imul hx hb d_W_stepAbout_44 ?_
    refine lv_iload hx hb d_W_stepAbout_45 (lv_at hl 4 rfl) ?_
    refine lv_iload_n hx hb d_W_stepAbout_47 rfl (lv_at hl 3 rfl) ?_
    refine lv_imul hx hb d_W_stepAbout_48 ?_
    refine lv_iadd hx hb d_W_stepAbout_49 ?_
    refine lv_iload_n hx hb d_W_stepAbout_50 rfl (lv_at hl 1 rfl) ?_
    refine lv_iload_n hx hb d_W_stepAbout_51 rfl (lv_at hl 3 rfl) ?_
    refine lv_imul hx hb d_W_stepAbout_52 ?_
    refine lv_iload hx hb d_W_stepAbout_53 (lv_at hl 4 rfl) ?_
    refine lv_iload_n hx hb d_W_stepAbout_55 rfl (lv_at hl 2 rfl) ?_
    refine lv_imul hx hb d_W_stepAbout_56 ?_
    refine lv_isub hx hb d_W_stepAbout_57 ?_
    obtain ⟨r1z, hfc, hf⟩ := oCall1_some hf
    have hPc := hP.sub (ws' := []) [] rfl
    refine vp_callSi (va_runS (As := [.int ((x0 * x0) - t0), .int ((x0 * x1) + (x4 * x2)), .int ((x0 * x2) - (x4 * x1))]) (rest := []) ⟨hx, hb, hml, hown, ht⟩ (c_W_directionOf l dC dI cI cJ cQ ((x0 * x0) - t0) ((x0 * x1) + (x4 * x2)) ((x0 * x2) - (x4 * x1)) r1z hfc) (va_cwS 3 ht (gS m_178 m_179 m_33 m_180) rfl rfl rfl (by decide +kernel) ⟨Nat.le_of_ble_eq_true rfl, Nat.le_of_ble_eq_true rfl⟩) (preR hPc hK hZ) rfl rfl hl.1 rfl (lv_room (Nat.le_of_ble_eq_true rfl)) d_W_stepAbout_58 ⟨Nat.le_of_ble_eq_true rfl, Nat.le_of_ble_eq_true rfl⟩).run (fun r1 hw => ?_)
    subst hw
    clear hPc hfc
    refine lv_istore (lv' := [(6, .int r1), (5, .int t0), (0, .int x0), (1, .int x1), (2, .int x2), (4, .int x4)]) hx hb d_W_stepAbout_61 hl (by decide) rfl (fun ls hl => ?_)
    refine lv_iload_n hx hb d_W_stepAbout_63 rfl (lv_at hl 2 rfl) ?_
    refine lv_iload_n hx hb d_W_stepAbout_64 rfl (lv_at hl 3 rfl) ?_
    refine lv_imul hx hb d_W_stepAbout_65 ?_
    refine lv_iload hx hb d_W_stepAbout_66 (lv_at hl 5 rfl) ?_
    refine lv_iload_n hx hb d_W_stepAbout_68 rfl (lv_at hl 4 rfl) ?_
    refine lv_imul hx hb d_W_stepAbout_69 ?_
    refine lv_isub hx hb d_W_stepAbout_70 ?_
    refine lv_iload_n hx hb d_W_stepAbout_71 rfl (lv_at hl 3 rfl) ?_
    refine lv_iload_n hx hb d_W_stepAbout_72 rfl (lv_at hl 3 rfl) ?_
    refine lv_imul hx hb d_W_stepAbout_73 ?_
    refine lv_iload hx hb d_W_stepAbout_74 (lv_at hl 1 rfl) ?_
    refine lv_isub hx hb d_W_stepAbout_76 ?_
    refine lv_iload_n hx hb d_W_stepAbout_77 rfl (lv_at hl 3 rfl) ?_
    refine lv_iload_n hx hb d_W_stepAbout_78 rfl (lv_at hl 4 rfl) ?_
    refine lv_imul hx hb d_W_stepAbout_79 ?_
    refine lv_iload hx hb d_W_stepAbout_80 (lv_at hl 5 rfl) ?_
    refine lv_iload_n hx hb d_W_stepAbout_82 rfl (lv_at hl 2 rfl) ?_
    refine lv_imul hx hb d_W_stepAbout_83 ?_
    refine lv_iadd hx hb d_W_stepAbout_84 ?_
    obtain ⟨r2z, hfc, hf⟩ := oCall1_some hf
    have hPc := hP.sub (ws' := []) [] rfl
    refine vp_callSi (va_runS (As := [.int ((x0 * x1) - (x4 * x2)), .int ((x1 * x1) - t0), .int ((x1 * x2) + (x4 * x0))]) (rest := []) ⟨hx, hb, hml, hown, ht⟩ (c_W_directionOf l dC dI cI cJ cQ ((x0 * x1) - (x4 * x2)) ((x1 * x1) - t0) ((x1 * x2) + (x4 * x0)) r2z hfc) (va_cwS 3 ht (gS m_178 m_179 m_33 m_180) rfl rfl rfl (by decide +kernel) ⟨Nat.le_of_ble_eq_true rfl, Nat.le_of_ble_eq_true rfl⟩) (preR hPc hK hZ) rfl rfl hl.1 rfl (lv_room (Nat.le_of_ble_eq_true rfl)) d_W_stepAbout_85 ⟨Nat.le_of_ble_eq_true rfl, Nat.le_of_ble_eq_true rfl⟩).run (fun r2 hw => ?_)
    subst hw
    clear hPc hfc
    refine lv_istore (lv' := [(7, .int r2), (6, .int r1), (5, .int t0), (0, .int x0), (1, .int x1), (2, .int x2), (4, .int x4)]) hx hb d_W_stepAbout_88 hl (by decide) rfl (fun ls hl => ?_)
    refine lv_iload hx hb d_W_stepAbout_90 (lv_at hl 1 rfl) ?_
    refine lv_iload hx hb d_W_stepAbout_92 (lv_at hl 0 rfl) ?_
    obtain ⟨r3z, hfc, hf⟩ := oCall1_some hf
    have hPc := hP.sub (ws' := []) [] rfl
    refine vp_callSi (va_runS (As := [.int r1, .int r2]) (rest := []) ⟨hx, hb, hml, hown, ht⟩ (c_W_numberOf l dC dI cI cJ cQ r1 r2 r3z hfc) (va_cwS 2 ht (gS m_181 m_182 m_33 m_183) rfl rfl rfl (by decide +kernel) ⟨Nat.le_of_ble_eq_true rfl, Nat.le_of_ble_eq_true rfl⟩) (preR hPc hK hZ) rfl rfl hl.1 rfl (lv_room (Nat.le_of_ble_eq_true rfl)) d_W_stepAbout_94 ⟨Nat.le_of_ble_eq_true rfl, Nat.le_of_ble_eq_true rfl⟩).run (fun r3 hw => ?_)
    subst hw
    clear hPc hfc
    cases hf
    exact W.iret hx hb hr (fun t ht hW => ⟨_, rfl, rfl, ht⟩) (fun q h => by cases h) d_W_stepAbout_97
  have K22 : ∀ (x0 : Int32) (x1 : Int32) (x2 : Int32) (x3 : Int32) (t0 : Int32) (ls : Array Slot), f_W_stepAbout_J22  x0 x1 x2 x3 t0 = some r_ → lv_has ls 8 [(0, .int x0), (1, .int x1), (2, .int x2), (3, .int x3)] → Wx s.heap [] 0 0 (F0 m 22 ls [.int t0]) := by
    intro x0 x1 x2 x3 t0 ls hf hl
    refine toX _ _ _ _ _ ?_
    unfold f_W_stepAbout_J22 at hf
    refine lv_istore (lv' := [(4, .int t0), (0, .int x0), (1, .int x1), (2, .int x2), (3, .int x3)]) hx hb d_W_stepAbout_22 hl (by decide) rfl (fun ls hl => ?_)
    refine lv_iload_n hx hb d_W_stepAbout_24 rfl (lv_at hl 4 rfl) ?_
    refine lv_iconst (v := 1) hx hb d_W_stepAbout_25 (by decide) ?_
    refine lv_icmp_ne (tgt := 33) hx hb d_W_stepAbout_26 (by decide) (fun c4 => ?_) (fun c4 => ?_)
    · have hf := oIf_f hf c4
      refine lv_iconst (v := 1) hx hb d_W_stepAbout_33 (by decide) ?_
      exact ofX _ _ _ _ _ (K34  x0 x1 x2 t0 1 _ hf (lv_sub hl [1, 2, 3, 0] rfl))
    · have hf := oIf_t hf c4
      refine lv_iconst (v := 0) hx hb d_W_stepAbout_29 (by decide) ?_
      refine lv_goto (tgt := 34) hx hb d_W_stepAbout_30 (by decide) ?_
      exact ofX _ _ _ _ _ (K34  x0 x1 x2 t0 0 _ hf (lv_sub hl [1, 2, 3, 0] rfl))
  refine toX _ _ _ _ _ ?_
  unfold f_W_stepAbout at hf
  refine lv_iload_n hx hb d_W_stepAbout_0 rfl (lv_at hl 0 rfl) ?_
  refine lv_iload_n hx hb d_W_stepAbout_1 rfl (lv_at hl 0 rfl) ?_
  refine lv_imul hx hb d_W_stepAbout_2 ?_
  refine lv_iload_n hx hb d_W_stepAbout_3 rfl (lv_at hl 1 rfl) ?_
  refine lv_iload_n hx hb d_W_stepAbout_4 rfl (lv_at hl 1 rfl) ?_
  refine lv_imul hx hb d_W_stepAbout_5 ?_
  refine lv_iadd hx hb d_W_stepAbout_6 ?_
  refine lv_iload_n hx hb d_W_stepAbout_7 rfl (lv_at hl 2 rfl) ?_
  refine lv_iload_n hx hb d_W_stepAbout_8 rfl (lv_at hl 2 rfl) ?_
  refine lv_imul hx hb d_W_stepAbout_9 ?_
  refine lv_iadd hx hb d_W_stepAbout_10 ?_
  refine lv_topi (fun v5 ev5 => ?_)
  have hf := oLet_some hf ev5
  refine lv_istore_n (lv' := [(3, .int v5), (0, .int x0), (1, .int x1), (2, .int x2)]) hx hb d_W_stepAbout_11 rfl hl (by decide) rfl (fun ls hl => ?_)
  refine lv_iload_n hx hb d_W_stepAbout_12 rfl (lv_at hl 0 rfl) ?_
  refine lv_iconst (v := 2) hx hb d_W_stepAbout_13 (by decide) ?_
  refine lv_icmp_ne (tgt := 21) hx hb d_W_stepAbout_14 (by decide) (fun c6 => ?_) (fun c6 => ?_)
  · have hf := oIf_f hf c6
    refine lv_iconst (v := 1) hx hb d_W_stepAbout_21 (by decide) ?_
    exact ofX _ _ _ _ _ (K22  x0 x1 x2 v5 1 _ hf (lv_sub hl [1, 2, 3, 0] rfl))
  · have hf := oIf_t hf c6
    refine lv_iconst (v := 0) hx hb d_W_stepAbout_17 (by decide) ?_
    refine lv_goto (tgt := 22) hx hb d_W_stepAbout_18 (by decide) ?_
    exact ofX _ _ _ _ _ (K22  x0 x1 x2 v5 0 _ hf (lv_sub hl [1, 2, 3, 0] rfl))

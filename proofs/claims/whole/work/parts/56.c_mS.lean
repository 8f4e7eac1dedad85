set_option maxHeartbeats 4000000 in
set_option maxRecDepth 100000 in
theorem c_M_isSmall (l : Launch) (dC : Nat → ClassId) (dI : Nat → Nat → Nat) (cI cJ cQ : ClassId) (x0 : Int32) (r_ : Int32) (hf : f_M_isSmall x0 = some r_) : Met l y_M_isSmall w_M_isSmall ({ frames := 0, cells := 0, slots := 0, locals := 0 }) (va_Pc [.int x0] (fun U => va_P (dC, dI) vwCl [] U.heap ∧ va_K (dC, dI) vwCl [(cI, .int), (cJ, .long), (cQ, .object "CutBodies$Contents")] U ∧ nestZ U)) (vp_Si (fun r9 => r9 = r_)) 0 0 (fun _ => False) := by
  refine Met.ofW (cc := b_M_isSmall) (maxL := 1) (ret := (some .boolean)) (by decide) rfl ?_
  intro p e s m args below meth c s₁ B hml hv
  obtain ⟨rfl, hP, hK, hZ⟩ := hv
  have hx := B.exec
  have hb := B.bytes
  have hr := B.returns
  have hts := atoms_spec (ws := w_M_isSmall) B.pre
  have ht : ∀ w ∈ wAll, w.before _ s = true := fun w h => hts w (List.mem_cons_of_mem _ h)
  have hown : s.vm.findClass R_M = some m.cls := findClass_of_methodNamed B.named
  have hlocks := B.notSynchronized
  have hP : va_P (dC, dI) vwCl [] s.heap := hP
  have hl := lv_entry ([.int x0]) (n := 1) (Nat.le_of_ble_eq_true rfl)
  rw [lg_entry_eq]
  generalize (lg_sl ([.int x0]) ++ List.replicate (1 - (lg_sl ([.int x0])).length) Slot.unset).toArray = ls at hl ⊢
  have hl : lv_has ls 1 [(0, .int x0)] := hl
  unfold f_M_isSmall at hf
  refine lv_iload_n hx hb d_M_isSmall_0 rfl (lv_at hl 0 rfl) ?_
  refine lv_bipush (v := (-9)) hx hb d_M_isSmall_1 (by decide) ?_
  refine lv_icmp_lt (tgt := 16) hx hb d_M_isSmall_3 (by decide) (fun c1 => ?_) (fun c1 => ?_)
  · have hf := oIf_t hf c1
    refine lv_iconst (v := 0) hx hb d_M_isSmall_16 (by decide) ?_
    cases hf
    exact W.zret (ty := .boolean) hx hb hr rfl (fun t ht hW => ⟨_, rfl, rfl, ht⟩) (fun q h => by cases h) d_M_isSmall_17
  · have hf := oIf_f hf c1
    refine lv_iload_n hx hb d_M_isSmall_6 rfl (lv_at hl 0 rfl) ?_
    refine lv_bipush (v := 9) hx hb d_M_isSmall_7 (by decide) ?_
    refine lv_icmp_gt (tgt := 16) hx hb d_M_isSmall_9 (by decide) (fun c2 => ?_) (fun c2 => ?_)
    · have hf := oIf_t hf c2
      refine lv_iconst (v := 0) hx hb d_M_isSmall_16 (by decide) ?_
      cases hf
      exact W.zret (ty := .boolean) hx hb hr rfl (fun t ht hW => ⟨_, rfl, rfl, ht⟩) (fun q h => by cases h) d_M_isSmall_17
    · have hf := oIf_f hf c2
      refine lv_iconst (v := 1) hx hb d_M_isSmall_12 (by decide) ?_
      refine lv_goto (tgt := 17) hx hb d_M_isSmall_13 (by decide) ?_
      cases hf
      exact W.zret (ty := .boolean) hx hb hr rfl (fun t ht hW => ⟨_, rfl, rfl, ht⟩) (fun q h => by cases h) d_M_isSmall_17
set_option maxHeartbeats 4000000 in
set_option maxRecDepth 100000 in
theorem c_M_isArrow (l : Launch) (dC : Nat → ClassId) (dI : Nat → Nat → Nat) (cI cJ cQ : ClassId) (x0 : Int32) (r_ : Int32) (hf : f_M_isArrow x0 = some r_) : Met l y_M_isArrow w_M_isArrow ({ frames := 0, cells := 0, slots := 0, locals := 0 }) (va_Pc [.int x0] (fun U => va_P (dC, dI) vwCl [] U.heap ∧ va_K (dC, dI) vwCl [(cI, .int), (cJ, .long), (cQ, .object "CutBodies$Contents")] U ∧ nestZ U)) (vp_Si (fun r9 => r9 = r_)) 0 0 (fun _ => False) := by
  refine Met.ofW (cc := b_M_isArrow) (maxL := 1) (ret := (some .boolean)) (by decide) rfl ?_
  intro p e s m args below meth c s₁ B hml hv
  obtain ⟨rfl, hP, hK, hZ⟩ := hv
  have hx := B.exec
  have hb := B.bytes
  have hr := B.returns
  have hts := atoms_spec (ws := w_M_isArrow) B.pre
  have ht : ∀ w ∈ wAll, w.before _ s = true := fun w h => hts w (List.mem_cons_of_mem _ h)
  have hown : s.vm.findClass R_M = some m.cls := findClass_of_methodNamed B.named
  have hlocks := B.notSynchronized
  have hP : va_P (dC, dI) vwCl [] s.heap := hP
  have hl := lv_entry ([.int x0]) (n := 1) (Nat.le_of_ble_eq_true rfl)
  rw [lg_entry_eq]
  generalize (lg_sl ([.int x0]) ++ List.replicate (1 - (lg_sl ([.int x0])).length) Slot.unset).toArray = ls at hl ⊢
  have hl : lv_has ls 1 [(0, .int x0)] := hl
  unfold f_M_isArrow at hf
  refine lv_iload_n hx hb d_M_isArrow_0 rfl (lv_at hl 0 rfl) ?_
  refine lv_iconst (v := (-1)) hx hb d_M_isArrow_1 (by decide) ?_
  refine lv_icmp_lt (tgt := 14) hx hb d_M_isArrow_2 (by decide) (fun c1 => ?_) (fun c1 => ?_)
  · have hf := oIf_t hf c1
    refine lv_iconst (v := 0) hx hb d_M_isArrow_14 (by decide) ?_
    cases hf
    exact W.zret (ty := .boolean) hx hb hr rfl (fun t ht hW => ⟨_, rfl, rfl, ht⟩) (fun q h => by cases h) d_M_isArrow_15
  · have hf := oIf_f hf c1
    refine lv_iload_n hx hb d_M_isArrow_5 rfl (lv_at hl 0 rfl) ?_
    refine lv_iconst (v := 1) hx hb d_M_isArrow_6 (by decide) ?_
    refine lv_icmp_gt (tgt := 14) hx hb d_M_isArrow_7 (by decide) (fun c2 => ?_) (fun c2 => ?_)
    · have hf := oIf_t hf c2
      refine lv_iconst (v := 0) hx hb d_M_isArrow_14 (by decide) ?_
      cases hf
      exact W.zret (ty := .boolean) hx hb hr rfl (fun t ht hW => ⟨_, rfl, rfl, ht⟩) (fun q h => by cases h) d_M_isArrow_15
    · have hf := oIf_f hf c2
      refine lv_iconst (v := 1) hx hb d_M_isArrow_10 (by decide) ?_
      refine lv_goto (tgt := 15) hx hb d_M_isArrow_11 (by decide) ?_
      cases hf
      exact W.zret (ty := .boolean) hx hb hr rfl (fun t ht hW => ⟨_, rfl, rfl, ht⟩) (fun q h => by cases h) d_M_isArrow_15
set_option maxHeartbeats 4000000 in
set_option maxRecDepth 100000 in
theorem c_M_arrow (l : Launch) (dC : Nat → ClassId) (dI : Nat → Nat → Nat) (cI cJ cQ : ClassId) (x0 : Int32) (x1 : Int32) (r_ : Int32) (hf : f_M_arrow x0 x1 = some r_) : Met l y_M_arrow w_M_arrow ({ frames := 0, cells := 0, slots := 0, locals := 0 }) (va_Pc [.int x0, .int x1] (fun U => va_P (dC, dI) vwCl [] U.heap ∧ va_K (dC, dI) vwCl [(cI, .int), (cJ, .long), (cQ, .object "CutBodies$Contents")] U ∧ nestZ U)) (vp_Si (fun r9 => r9 = r_)) 0 0 (fun _ => False) := by
  refine Met.ofW (cc := b_M_arrow) (maxL := 2) (ret := (some .int)) (by decide) rfl ?_
  intro p e s m args below meth c s₁ B hml hv
  obtain ⟨rfl, hP, hK, hZ⟩ := hv
  have hx := B.exec
  have hb := B.bytes
  have hr := B.returns
  have hts := atoms_spec (ws := w_M_arrow) B.pre
  have ht : ∀ w ∈ wAll, w.before _ s = true := fun w h => hts w (List.mem_cons_of_mem _ h)
  have hown : s.vm.findClass R_M = some m.cls := findClass_of_methodNamed B.named
  have hlocks := B.notSynchronized
  have hP : va_P (dC, dI) vwCl [] s.heap := hP
  have hl := lv_entry ([.int x0, .int x1]) (n := 2) (Nat.le_of_ble_eq_true rfl)
  rw [lg_entry_eq]
  generalize (lg_sl ([.int x0, .int x1]) ++ List.replicate (2 - (lg_sl ([.int x0, .int x1])).length) Slot.unset).toArray = ls at hl ⊢
  have hl : lv_has ls 2 [(0, .int x0), (1, .int x1)] := hl
  unfold f_M_arrow at hf
  refine lv_iload_n hx hb d_M_arrow_0 rfl (lv_at hl 0 rfl) ?_
  refine lv_iconst (v := 2) hx hb d_M_arrow_1 (by decide) ?_
  refine lv_idiv hx hb d_M_arrow_2 (by decide) ?_
  refine lv_iload_n hx hb d_M_arrow_3 rfl (lv_at hl 1 rfl) ?_
  refine lv_icmp_ne (tgt := 21) hx hb d_M_arrow_4 (by decide) (fun c1 => ?_) (fun c1 => ?_)
  · have hf := oIf_f hf c1
    refine lv_iconst (v := 0) hx hb d_M_arrow_21 (by decide) ?_
    cases hf
    exact W.iret hx hb hr (fun t ht hW => ⟨_, rfl, rfl, ht⟩) (fun q h => by cases h) d_M_arrow_22
  · have hf := oIf_t hf c1
    refine lv_iload_n hx hb d_M_arrow_7 rfl (lv_at hl 0 rfl) ?_
    refine lv_iconst (v := 2) hx hb d_M_arrow_8 (by decide) ?_
    refine lv_irem hx hb d_M_arrow_9 (by decide) ?_
    refine lv_if_ne (tgt := 17) hx hb d_M_arrow_10 (by decide) (fun c2 => ?_) (fun c2 => ?_)
    · have hf := oIf_f hf c2
      refine lv_iconst (v := (-1)) hx hb d_M_arrow_17 (by decide) ?_
      refine lv_goto (tgt := 22) hx hb d_M_arrow_18 (by decide) ?_
      cases hf
      exact W.iret hx hb hr (fun t ht hW => ⟨_, rfl, rfl, ht⟩) (fun q h => by cases h) d_M_arrow_22
    · have hf := oIf_t hf c2
      refine lv_iconst (v := 1) hx hb d_M_arrow_13 (by decide) ?_
      refine lv_goto (tgt := 22) hx hb d_M_arrow_14 (by decide) ?_
      cases hf
      exact W.iret hx hb hr (fun t ht hW => ⟨_, rfl, rfl, ht⟩) (fun q h => by cases h) d_M_arrow_22
set_option maxHeartbeats 4000000 in
set_option maxRecDepth 100000 in
theorem c_M_arrowOf (l : Launch) (dC : Nat → ClassId) (dI : Nat → Nat → Nat) (cI cJ cQ : ClassId) (x0 : Int32) (x1 : Int32) (x2 : Int32) (r_ : Int32) (hf : f_M_arrowOf x0 x1 x2 = some r_) : Met l y_M_arrowOf w_M_arrowOf ({ frames := 0, cells := 0, slots := 0, locals := 0 }) (va_Pc [.int x0, .int x1, .int x2] (fun U => va_P (dC, dI) vwCl [] U.heap ∧ va_K (dC, dI) vwCl [(cI, .int), (cJ, .long), (cQ, .object "CutBodies$Contents")] U ∧ nestZ U)) (vp_Si (fun r9 => r9 = r_)) 0 0 (fun _ => False) := by
  refine Met.ofW (cc := b_M_arrowOf) (maxL := 3) (ret := (some .int)) (by decide) rfl ?_
  intro p e s m args below meth c s₁ B hml hv
  obtain ⟨rfl, hP, hK, hZ⟩ := hv
  have hx := B.exec
  have hb := B.bytes
  have hr := B.returns
  have hts := atoms_spec (ws := w_M_arrowOf) B.pre
  have ht : ∀ w ∈ wAll, w.before _ s = true := fun w h => hts w (List.mem_cons_of_mem _ h)
  have hown : s.vm.findClass R_M = some m.cls := findClass_of_methodNamed B.named
  have hlocks := B.notSynchronized
  have hP : va_P (dC, dI) vwCl [] s.heap := hP
  have hl := lv_entry ([.int x0, .int x1, .int x2]) (n := 3) (Nat.le_of_ble_eq_true rfl)
  rw [lg_entry_eq]
  generalize (lg_sl ([.int x0, .int x1, .int x2]) ++ List.replicate (3 - (lg_sl ([.int x0, .int x1, .int x2])).length) Slot.unset).toArray = ls at hl ⊢
  have hl : lv_has ls 3 [(0, .int x0), (1, .int x1), (2, .int x2)] := hl
  unfold f_M_arrowOf at hf
  refine lv_iload_n hx hb d_M_arrowOf_0 rfl (lv_at hl 0 rfl) ?_
  refine lv_if_eq (tgt := 16) hx hb d_M_arrowOf_1 (by decide) (fun c1 => ?_) (fun c1 => ?_)
  · have hf := oIf_t hf c1
    refine lv_iload_n hx hb d_M_arrowOf_16 rfl (lv_at hl 1 rfl) ?_
    refine lv_if_eq (tgt := 32) hx hb d_M_arrowOf_17 (by decide) (fun c2 => ?_) (fun c2 => ?_)
    · have hf := oIf_t hf c2
      refine lv_iload_n hx hb d_M_arrowOf_32 rfl (lv_at hl 2 rfl) ?_
      refine lv_if_le (tgt := 40) hx hb d_M_arrowOf_33 (by decide) (fun c3 => ?_) (fun c3 => ?_)
      · have hf := oIf_t hf c3
        refine lv_iconst (v := 5) hx hb d_M_arrowOf_40 (by decide) ?_
        cases hf
        exact W.iret hx hb hr (fun t ht hW => ⟨_, rfl, rfl, ht⟩) (fun q h => by cases h) d_M_arrowOf_41
      · have hf := oIf_f hf c3
        refine lv_iconst (v := 4) hx hb d_M_arrowOf_36 (by decide) ?_
        refine lv_goto (tgt := 41) hx hb d_M_arrowOf_37 (by decide) ?_
        cases hf
        exact W.iret hx hb hr (fun t ht hW => ⟨_, rfl, rfl, ht⟩) (fun q h => by cases h) d_M_arrowOf_41
    · have hf := oIf_f hf c2
      refine lv_iload_n hx hb d_M_arrowOf_20 rfl (lv_at hl 1 rfl) ?_
      refine lv_if_le (tgt := 28) hx hb d_M_arrowOf_21 (by decide) (fun c4 => ?_) (fun c4 => ?_)
      · have hf := oIf_t hf c4
        refine lv_iconst (v := 3) hx hb d_M_arrowOf_28 (by decide) ?_
        refine lv_goto (tgt := 41) hx hb d_M_arrowOf_29 (by decide) ?_
        cases hf
        exact W.iret hx hb hr (fun t ht hW => ⟨_, rfl, rfl, ht⟩) (fun q h => by cases h) d_M_arrowOf_41
      · have hf := oIf_f hf c4
        refine lv_iconst (v := 2) hx hb d_M_arrowOf_24 (by decide) ?_
        refine lv_goto (tgt := 41) hx hb d_M_arrowOf_25 (by decide) ?_
        cases hf
        exact W.iret hx hb hr (fun t ht hW => ⟨_, rfl, rfl, ht⟩) (fun q h => by cases h) d_M_arrowOf_41
  · have hf := oIf_f hf c1
    refine lv_iload_n hx hb d_M_arrowOf_4 rfl (lv_at hl 0 rfl) ?_
    refine lv_if_le (tgt := 12) hx hb d_M_arrowOf_5 (by decide) (fun c5 => ?_) (fun c5 => ?_)
    · have hf := oIf_t hf c5
      refine lv_iconst (v := 1) hx hb d_M_arrowOf_12 (by decide) ?_
      refine lv_goto (tgt := 41) hx hb d_M_arrowOf_13 (by decide) ?_
      cases hf
      exact W.iret hx hb hr (fun t ht hW => ⟨_, rfl, rfl, ht⟩) (fun q h => by cases h) d_M_arrowOf_41
    · have hf := oIf_f hf c5
      refine lv_iconst (v := 0) hx hb d_M_arrowOf_8 (by decide) ?_
      refine lv_goto (tgt := 41) hx hb d_M_arrowOf_9 (by decide) ?_
      cases hf
      exact W.iret hx hb hr (fun t ht hW => ⟨_, rfl, rfl, ht⟩) (fun q h => by cases h) d_M_arrowOf_41
set_option maxHeartbeats 4000000 in
set_option maxRecDepth 100000 in
theorem c_M_wayOf (l : Launch) (dC : Nat → ClassId) (dI : Nat → Nat → Nat) (cI cJ cQ : ClassId) (x0 : Int32) (x1 : Int32) (r_ : Int32) (hf : f_M_wayOf x0 x1 = some r_) : Met l y_M_wayOf w_M_wayOf ({ frames := 0, cells := 0, slots := 0, locals := 0 }) (va_Pc [.int x0, .int x1] (fun U => va_P (dC, dI) vwCl [] U.heap ∧ va_K (dC, dI) vwCl [(cI, .int), (cJ, .long), (cQ, .object "CutBodies$Contents")] U ∧ nestZ U)) (vp_Si (fun r9 => r9 = r_)) 0 0 (fun _ => False) := by
  refine Met.ofW (cc := b_M_wayOf) (maxL := 4) (ret := (some .int)) (by decide) rfl ?_
  intro p e s m args below meth c s₁ B hml hv
  obtain ⟨rfl, hP, hK, hZ⟩ := hv
  have hx := B.exec
  have hb := B.bytes
  have hr := B.returns
  have hts := atoms_spec (ws := w_M_wayOf) B.pre
  have ht : ∀ w ∈ wAll, w.before _ s = true := fun w h => hts w (List.mem_cons_of_mem _ h)
  have hown : s.vm.findClass R_M = some m.cls := findClass_of_methodNamed B.named
  have hlocks := B.notSynchronized
  have hP : va_P (dC, dI) vwCl [] s.heap := hP
  have hl := lv_entry ([.int x0, .int x1]) (n := 4) (Nat.le_of_ble_eq_true rfl)
  rw [lg_entry_eq]
  generalize (lg_sl ([.int x0, .int x1]) ++ List.replicate (4 - (lg_sl ([.int x0, .int x1])).length) Slot.unset).toArray = ls at hl ⊢
  have hl : lv_has ls 4 [(0, .int x0), (1, .int x1)] := hl
  refine w_abs (fun Wx toX ofX => ?_)
  have K4 : ∀ (x0 : Int32) (x1 : Int32) (n : Nat) (x2 : Int32) (x3 : Int32) (ls : Array Slot), oLoop2 (f_M_wayOf_L4  x0 x1) n x2 x3 = some r_ → lv_has ls 4 [(0, .int x0), (1, .int x1), (2, .int x2), (3, .int x3)] → Wx s.heap [] 0 0 (F0 m 4 ls []) := by
    intro x0 x1 n
    induction n with
    | zero => intro x2 x3 ls hf; exact (oLoop2_0 hf).elim
    | succ n ih4 =>
      obtain ⟨rec4, hrec4⟩ : ∃ z, z = oLoop2 (f_M_wayOf_L4  x0 x1) n := ⟨_, rfl⟩
      rw [← hrec4] at ih4
      have K24 : ∀ (x3 : Int32) (t0 : Int32) (t1 : Int32) (ls : Array Slot), f_M_wayOf_J24 rec4 x0 x1 x3 t0 t1 = some r_ → lv_has ls 4 [(0, .int x0), (1, .int x1), (3, .int x3)] → Wx s.heap [] 0 0 (F0 m 24 ls [.int t1, .int t0]) := by
        intro x3 t0 t1 ls hf hl
        refine toX _ _ _ _ _ ?_
        unfold f_M_wayOf_J24 at hf
        refine lv_iadd hx hb d_M_wayOf_24 ?_
        refine lv_topi (fun v1 ev1 => ?_)
        have hf := oLet_some hf ev1
        refine lv_istore_n (lv' := [(2, .int v1), (0, .int x0), (1, .int x1), (3, .int x3)]) hx hb d_M_wayOf_25 rfl hl (by decide) rfl (fun ls hl => ?_)
        obtain ⟨v2, ev2, hf⟩ := oLet_ex hf
        refine lv_iinc (v := v2) (lv' := [(3, .int v2), (2, .int v1), (0, .int x0), (1, .int x1)]) hx hb d_M_wayOf_26 hl (k := 3) rfl (by rw [ev2]; rfl) (by decide) rfl (fun ls hl => ?_)
        refine lv_goto (tgt := 4) hx hb d_M_wayOf_29 (by decide) ?_
        exact ofX _ _ _ _ _ (ih4 v1 v2 _ hf (lv_sub hl [2, 3, 1, 0] rfl))
      intro x2 x3 ls hf hl
      refine toX _ _ _ _ _ ?_
      have hf := oLoop2_s hf
      rw [← hrec4] at hf
      unfold f_M_wayOf_L4 at hf
      refine lv_iload_n hx hb d_M_wayOf_4 rfl (lv_at hl 3 rfl) ?_
      refine lv_iload_n hx hb d_M_wayOf_5 rfl (lv_at hl 1 rfl) ?_
      refine lv_icmp_ge (tgt := 32) hx hb d_M_wayOf_6 (by decide) (fun c3 => ?_) (fun c3 => ?_)
      · have hf := oIf_t hf c3
        refine lv_iconst (v := 4) hx hb d_M_wayOf_32 (by decide) ?_
        refine lv_iload_n hx hb d_M_wayOf_33 rfl (lv_at hl 0 rfl) ?_
        refine lv_imul hx hb d_M_wayOf_34 ?_
        refine lv_iload_n hx hb d_M_wayOf_35 rfl (lv_at hl 2 rfl) ?_
        refine lv_iadd hx hb d_M_wayOf_36 ?_
        cases hf
        exact W.iret hx hb hr (fun t ht hW => ⟨_, rfl, rfl, ht⟩) (fun q h => by cases h) d_M_wayOf_37
      · have hf := oIf_f hf c3
        refine lv_iload_n hx hb d_M_wayOf_9 rfl (lv_at hl 2 rfl) ?_
        refine lv_iload_n hx hb d_M_wayOf_10 rfl (lv_at hl 3 rfl) ?_
        refine lv_iconst (v := 2) hx hb d_M_wayOf_11 (by decide) ?_
        refine lv_idiv hx hb d_M_wayOf_12 (by decide) ?_
        refine lv_iload_n hx hb d_M_wayOf_13 rfl (lv_at hl 0 rfl) ?_
        refine lv_iconst (v := 2) hx hb d_M_wayOf_14 (by decide) ?_
        refine lv_idiv hx hb d_M_wayOf_15 (by decide) ?_
        refine lv_icmp_ne (tgt := 23) hx hb d_M_wayOf_16 (by decide) (fun c4 => ?_) (fun c4 => ?_)
        · have hf := oIf_f hf c4
          refine lv_iconst (v := 1) hx hb d_M_wayOf_23 (by decide) ?_
          exact ofX _ _ _ _ _ (K24  x3 x2 1 _ hf (lv_sub hl [0, 1, 3] rfl))
        · have hf := oIf_t hf c4
          refine lv_iconst (v := 0) hx hb d_M_wayOf_19 (by decide) ?_
          refine lv_goto (tgt := 24) hx hb d_M_wayOf_20 (by decide) ?_
          exact ofX _ _ _ _ _ (K24  x3 x2 0 _ hf (lv_sub hl [0, 1, 3] rfl))
  refine toX _ _ _ _ _ ?_
  unfold f_M_wayOf at hf
  refine lv_iconst (v := 0) hx hb d_M_wayOf_0 (by decide) ?_
  refine lv_istore_n (lv' := [(2, .int 0), (0, .int x0), (1, .int x1)]) hx hb d_M_wayOf_1 rfl hl (by decide) rfl (fun ls hl => ?_)
  refine lv_iconst (v := 0) hx hb d_M_wayOf_2 (by decide) ?_
  refine lv_istore_n (lv' := [(3, .int 0), (2, .int 0), (0, .int x0), (1, .int x1)]) hx hb d_M_wayOf_3 rfl hl (by decide) rfl (fun ls hl => ?_)
  exact ofX _ _ _ _ _ (K4 x0 x1 _ 0 0 _ hf (lv_sub hl [2, 3, 1, 0] rfl))
set_option maxHeartbeats 4000000 in
set_option maxRecDepth 100000 in
theorem c_M_secondOf (l : Launch) (dC : Nat → ClassId) (dI : Nat → Nat → Nat) (cI cJ cQ : ClassId) (x0 : Int32) (r_ : Int32) (hf : f_M_secondOf x0 = some r_) : Met l y_M_secondOf w_M_secondOf ({ frames := 0, cells := 0, slots := 0, locals := 0 }) (va_Pc [.int x0] (fun U => va_P (dC, dI) vwCl [] U.heap ∧ va_K (dC, dI) vwCl [(cI, .int), (cJ, .long), (cQ, .object "CutBodies$Contents")] U ∧ nestZ U)) (vp_Si (fun r9 => r9 = r_)) 0 0 (fun _ => False) := by
  refine Met.ofW (cc := b_M_secondOf) (maxL := 4) (ret := (some .int)) (by decide) rfl ?_
  intro p e s m args below meth c s₁ B hml hv
  obtain ⟨rfl, hP, hK, hZ⟩ := hv
  have hx := B.exec
  have hb := B.bytes
  have hr := B.returns
  have hts := atoms_spec (ws := w_M_secondOf) B.pre
  have ht : ∀ w ∈ wAll, w.before _ s = true := fun w h => hts w (List.mem_cons_of_mem _ h)
  have hown : s.vm.findClass R_M = some m.cls := findClass_of_methodNamed B.named
  have hlocks := B.notSynchronized
  have hP : va_P (dC, dI) vwCl [] s.heap := hP
  have hl := lv_entry ([.int x0]) (n := 4) (Nat.le_of_ble_eq_true rfl)
  rw [lg_entry_eq]
  generalize (lg_sl ([.int x0]) ++ List.replicate (4 - (lg_sl ([.int x0])).length) Slot.unset).toArray = ls at hl ⊢
  have hl : lv_has ls 4 [(0, .int x0)] := hl
  refine w_abs (fun Wx toX ofX => ?_)
  have K10 : ∀ (x1 : Int32) (n : Nat) (x2 : Int32) (x3 : Int32) (ls : Array Slot), oLoop2 (f_M_secondOf_L10  x1) n x2 x3 = some r_ → lv_has ls 4 [(1, .int x1), (2, .int x2), (3, .int x3)] → Wx s.heap [] 0 0 (F0 m 10 ls []) := by
    intro x1 n
    induction n with
    | zero => intro x2 x3 ls hf; exact (oLoop2_0 hf).elim
    | succ n ih10 =>
      obtain ⟨rec10, hrec10⟩ : ∃ z, z = oLoop2 (f_M_secondOf_L10  x1) n := ⟨_, rfl⟩
      rw [← hrec10] at ih10
      have K38 : ∀ (x3 : Int32) (t0 : Int32) (t1 : Int32) (ls : Array Slot), f_M_secondOf_J38 rec10 x1 x3 t0 t1 = some r_ → lv_has ls 4 [(1, .int x1), (3, .int x3)] → Wx s.heap [] 0 0 (F0 m 38 ls [.int t1, .int t0]) := by
        intro x3 t0 t1 ls hf hl
        refine toX _ _ _ _ _ ?_
        unfold f_M_secondOf_J38 at hf
        refine lv_isub hx hb d_M_secondOf_38 ?_
        refine lv_topi (fun v1 ev1 => ?_)
        have hf := oLet_some hf ev1
        refine lv_istore_n (lv' := [(2, .int v1), (1, .int x1), (3, .int x3)]) hx hb d_M_secondOf_39 rfl hl (by decide) rfl (fun ls hl => ?_)
        obtain ⟨v2, ev2, hf⟩ := oLet_ex hf
        refine lv_iinc (v := v2) (lv' := [(3, .int v2), (2, .int v1), (1, .int x1)]) hx hb d_M_secondOf_40 hl (k := 2) rfl (by rw [ev2]; rfl) (by decide) rfl (fun ls hl => ?_)
        refine lv_goto (tgt := 10) hx hb d_M_secondOf_43 (by decide) ?_
        exact ofX _ _ _ _ _ (ih10 v1 v2 _ hf (lv_sub hl [2, 1, 0] rfl))
      have K23 : ∀ (x2 : Int32) (x3 : Int32) (ls : Array Slot), f_M_secondOf_J23 rec10 x1 x2 x3 = some r_ → lv_has ls 4 [(1, .int x1), (2, .int x2), (3, .int x3)] → Wx s.heap [] 0 0 (F0 m 23 ls []) := by
        intro x2 x3 ls hf hl
        refine toX _ _ _ _ _ ?_
        unfold f_M_secondOf_J23 at hf
        refine lv_iload_n hx hb d_M_secondOf_23 rfl (lv_at hl 1 rfl) ?_
        refine lv_iload_n hx hb d_M_secondOf_24 rfl (lv_at hl 2 rfl) ?_
        refine lv_iconst (v := 2) hx hb d_M_secondOf_25 (by decide) ?_
        refine lv_idiv hx hb d_M_secondOf_26 (by decide) ?_
        refine lv_iload_n hx hb d_M_secondOf_27 rfl (lv_at hl 0 rfl) ?_
        refine lv_iconst (v := 2) hx hb d_M_secondOf_28 (by decide) ?_
        refine lv_idiv hx hb d_M_secondOf_29 (by decide) ?_
        refine lv_icmp_ne (tgt := 37) hx hb d_M_secondOf_30 (by decide) (fun c3 => ?_) (fun c3 => ?_)
        · have hf := oIf_f hf c3
          refine lv_iconst (v := 1) hx hb d_M_secondOf_37 (by decide) ?_
          exact ofX _ _ _ _ _ (K38  x3 x2 1 _ hf (lv_sub hl [0, 2] rfl))
        · have hf := oIf_t hf c3
          refine lv_iconst (v := 0) hx hb d_M_secondOf_33 (by decide) ?_
          refine lv_goto (tgt := 38) hx hb d_M_secondOf_34 (by decide) ?_
          exact ofX _ _ _ _ _ (K38  x3 x2 0 _ hf (lv_sub hl [0, 2] rfl))
      intro x2 x3 ls hf hl
      refine toX _ _ _ _ _ ?_
      have hf := oLoop2_s hf
      rw [← hrec10] at hf
      unfold f_M_secondOf_L10 at hf
      refine lv_iload_n hx hb d_M_secondOf_10 rfl (lv_at hl 2 rfl) ?_
      refine lv_iconst (v := 2) hx hb d_M_secondOf_11 (by decide) ?_
      refine lv_idiv hx hb d_M_secondOf_12 (by decide) ?_
      refine lv_iload_n hx hb d_M_secondOf_13 rfl (lv_at hl 0 rfl) ?_
      refine lv_iconst (v := 2) hx hb d_M_secondOf_14 (by decide) ?_
      refine lv_idiv hx hb d_M_secondOf_15 (by decide) ?_
      refine lv_icmp_eq (tgt := 23) hx hb d_M_secondOf_16 (by decide) (fun c4 => ?_) (fun c4 => ?_)
      · have hf := oIf_t hf c4
        exact ofX _ _ _ _ _ (K23  x2 x3 _ hf (lv_sub hl [0, 1, 2] rfl))
      · have hf := oIf_f hf c4
        refine lv_iload_n hx hb d_M_secondOf_19 rfl (lv_at hl 1 rfl) ?_
        refine lv_if_le (tgt := 46) hx hb d_M_secondOf_20 (by decide) (fun c5 => ?_) (fun c5 => ?_)
        · have hf := oIf_t hf c5
          refine lv_iload_n hx hb d_M_secondOf_46 rfl (lv_at hl 2 rfl) ?_
          cases hf
          exact W.iret hx hb hr (fun t ht hW => ⟨_, rfl, rfl, ht⟩) (fun q h => by cases h) d_M_secondOf_47
        · have hf := oIf_f hf c5
          exact ofX _ _ _ _ _ (K23  x2 x3 _ hf (lv_sub hl [0, 1, 2] rfl))
  refine toX _ _ _ _ _ ?_
  unfold f_M_secondOf at hf
  refine lv_iload_n hx hb d_M_secondOf_0 rfl (lv_at hl 0 rfl) ?_
  refine lv_iconst (v := 4) hx hb d_M_secondOf_1 (by decide) ?_
  refine lv_idiv hx hb d_M_secondOf_2 (by decide) ?_
  refine lv_topi (fun v6 ev6 => ?_)
  have hf := oLet_some hf ev6
  refine lv_istore_n (lv' := [(1, .int v6), (0, .int x0)]) hx hb d_M_secondOf_3 rfl hl (by decide) rfl (fun ls hl => ?_)
  refine lv_iload_n hx hb d_M_secondOf_4 rfl (lv_at hl 1 rfl) ?_
  refine lv_iconst (v := 4) hx hb d_M_secondOf_5 (by decide) ?_
  refine lv_irem hx hb d_M_secondOf_6 (by decide) ?_
  refine lv_topi (fun v7 ev7 => ?_)
  have hf := oLet_some hf ev7
  refine lv_istore_n (lv' := [(2, .int v7), (1, .int v6), (0, .int x0)]) hx hb d_M_secondOf_7 rfl hl (by decide) rfl (fun ls hl => ?_)
  refine lv_iconst (v := 0) hx hb d_M_secondOf_8 (by decide) ?_
  refine lv_istore_n (lv' := [(3, .int 0), (2, .int v7), (1, .int v6), (0, .int x0)]) hx hb d_M_secondOf_9 rfl hl (by decide) rfl (fun ls hl => ?_)
  exact ofX _ _ _ _ _ (K10 v6 _ v7 0 _ hf (lv_sub hl [2, 1, 0] rfl))
set_option maxHeartbeats 4000000 in
set_option maxRecDepth 100000 in
theorem c_M_isCross (l : Launch) (dC : Nat → ClassId) (dI : Nat → Nat → Nat) (cI cJ cQ : ClassId) (x0 : Int32) (x1 : Int32) (x2 : Int32) (x3 : Int32) (r_ : Int32) (hf : f_M_isCross x0 x1 x2 x3 = some r_) : Met l y_M_isCross w_M_isCross ({ frames := 0, cells := 0, slots := 0, locals := 0 }) (va_Pc [.int x0, .int x1, .int x2, .int x3] (fun U => va_P (dC, dI) vwCl [] U.heap ∧ va_K (dC, dI) vwCl [(cI, .int), (cJ, .long), (cQ, .object "CutBodies$Contents")] U ∧ nestZ U)) (vp_Si (fun r9 => r9 = r_)) 0 0 (fun _ => False) := by
  refine Met.ofW (cc := b_M_isCross) (maxL := 4) (ret := (some .boolean)) (by decide) rfl ?_
  intro p e s m args below meth c s₁ B hml hv
  obtain ⟨rfl, hP, hK, hZ⟩ := hv
  have hx := B.exec
  have hb := B.bytes
  have hr := B.returns
  have hts := atoms_spec (ws := w_M_isCross) B.pre
  have ht : ∀ w ∈ wAll, w.before _ s = true := fun w h => hts w (List.mem_cons_of_mem _ h)
  have hown : s.vm.findClass R_M = some m.cls := findClass_of_methodNamed B.named
  have hlocks := B.notSynchronized
  have hP : va_P (dC, dI) vwCl [] s.heap := hP
  have hl := lv_entry ([.int x0, .int x1, .int x2, .int x3]) (n := 4) (Nat.le_of_ble_eq_true rfl)
  rw [lg_entry_eq]
  generalize (lg_sl ([.int x0, .int x1, .int x2, .int x3]) ++ List.replicate (4 - (lg_sl ([.int x0, .int x1, .int x2, .int x3])).length) Slot.unset).toArray = ls at hl ⊢
  have hl : lv_has ls 4 [(0, .int x0), (1, .int x1), (2, .int x2), (3, .int x3)] := hl
  unfold f_M_isCross at hf
  refine lv_iload_n hx hb d_M_isCross_0 rfl (lv_at hl 0 rfl) ?_
  refine lv_iload_n hx hb d_M_isCross_1 rfl (lv_at hl 3 rfl) ?_
  refine lv_imul hx hb d_M_isCross_2 ?_
  refine lv_iload_n hx hb d_M_isCross_3 rfl (lv_at hl 1 rfl) ?_
  refine lv_iload_n hx hb d_M_isCross_4 rfl (lv_at hl 2 rfl) ?_
  refine lv_imul hx hb d_M_isCross_5 ?_
  refine lv_icmp_ne (tgt := 13) hx hb d_M_isCross_6 (by decide) (fun c1 => ?_) (fun c1 => ?_)
  · have hf := oIf_f hf c1
    refine lv_iconst (v := 0) hx hb d_M_isCross_13 (by decide) ?_
    cases hf
    exact W.zret (ty := .boolean) hx hb hr rfl (fun t ht hW => ⟨_, rfl, rfl, ht⟩) (fun q h => by cases h) d_M_isCross_14
  · have hf := oIf_t hf c1
    refine lv_iconst (v := 1) hx hb d_M_isCross_9 (by decide) ?_
    refine lv_goto (tgt := 14) hx hb d_M_isCross_10 (by decide) ?_
    cases hf
    exact W.zret (ty := .boolean) hx hb hr rfl (fun t ht hW => ⟨_, rfl, rfl, ht⟩) (fun q h => by cases h) d_M_isCross_14

set_option maxHeartbeats 4000000 in
set_option maxRecDepth 100000 in
theorem c_X_isWithin (l : Launch) (dC : Nat → ClassId) (dI : Nat → Nat → Nat) (cI cJ cQ : ClassId) (x0 : Int32) (x1 : Int32) (r_ : Int32) (hf : f_X_isWithin x0 x1 = some r_) : Met l y_X_isWithin w_X_isWithin ({ frames := 0, cells := 0, slots := 0, locals := 0 }) (va_Pc [.int x0, .int x1] (fun U => va_P (dC, dI) vwCl [] U.heap ∧ va_K (dC, dI) vwCl [(cI, .int), (cJ, .long), (cQ, .object "CutBodies$Contents")] U ∧ nestZ U)) (vp_Si (fun r9 => r9 = r_)) 0 0 (fun _ => False) := by
  refine Met.ofW (cc := b_X_isWithin) (maxL := 2) (ret := (some .boolean)) (by decide) rfl ?_
  intro p e s m args below meth c s₁ B hml hv
  obtain ⟨rfl, hP, hK, hZ⟩ := hv
  have hx := B.exec
  have hb := B.bytes
  have hr := B.returns
  have hts := atoms_spec (ws := w_X_isWithin) B.pre
  have ht : ∀ w ∈ wAll, w.before _ s = true := fun w h => hts w (List.mem_cons_of_mem _ h)
  have hown : s.vm.findClass R_X = some m.cls := findClass_of_methodNamed B.named
  have hlocks := B.notSynchronized
  have hP : va_P (dC, dI) vwCl [] s.heap := hP
  have hl := lv_entry ([.int x0, .int x1]) (n := 2) (Nat.le_of_ble_eq_true rfl)
  rw [lg_entry_eq]
  generalize (lg_sl ([.int x0, .int x1]) ++ List.replicate (2 - (lg_sl ([.int x0, .int x1])).length) Slot.unset).toArray = ls at hl ⊢
  have hl : lv_has ls 2 [(0, .int x0), (1, .int x1)] := hl
  unfold f_X_isWithin at hf
  refine lv_iload_n hx hb d_X_isWithin_0 rfl (lv_at hl 0 rfl) ?_
  refine lv_iload_n hx hb d_X_isWithin_1 rfl (lv_at hl 1 rfl) ?_
  refine lv_ineg hx hb d_X_isWithin_2 ?_
  refine lv_icmp_lt (tgt := 15) hx hb d_X_isWithin_3 (by decide) (fun c1 => ?_) (fun c1 => ?_)
  · have hf := oIf_t hf c1
    refine lv_iconst (v := 0) hx hb d_X_isWithin_15 (by decide) ?_
    cases hf
    exact W.zret (ty := .boolean) hx hb hr rfl (fun t ht hW => ⟨_, rfl, rfl, ht⟩) (fun q h => by cases h) d_X_isWithin_16
  · have hf := oIf_f hf c1
    refine lv_iload_n hx hb d_X_isWithin_6 rfl (lv_at hl 0 rfl) ?_
    refine lv_iload_n hx hb d_X_isWithin_7 rfl (lv_at hl 1 rfl) ?_
    refine lv_icmp_gt (tgt := 15) hx hb d_X_isWithin_8 (by decide) (fun c2 => ?_) (fun c2 => ?_)
    · have hf := oIf_t hf c2
      refine lv_iconst (v := 0) hx hb d_X_isWithin_15 (by decide) ?_
      cases hf
      exact W.zret (ty := .boolean) hx hb hr rfl (fun t ht hW => ⟨_, rfl, rfl, ht⟩) (fun q h => by cases h) d_X_isWithin_16
    · have hf := oIf_f hf c2
      refine lv_iconst (v := 1) hx hb d_X_isWithin_11 (by decide) ?_
      refine lv_goto (tgt := 16) hx hb d_X_isWithin_12 (by decide) ?_
      cases hf
      exact W.zret (ty := .boolean) hx hb hr rfl (fun t ht hW => ⟨_, rfl, rfl, ht⟩) (fun q h => by cases h) d_X_isWithin_16
set_option maxHeartbeats 4000000 in
set_option maxRecDepth 100000 in
theorem c_B_hasPoint (l : Launch) (dC : Nat → ClassId) (dI : Nat → Nat → Nat) (qB qBx qBy qBz qBa qBb qBc qBd qBs : Nat) (cI cJ cQ : ClassId) (nP : Int32) (nQ : Int32) (bX : Nat → Int32) (bY : Nat → Int32) (bZ : Nat → Int32) (bA : Nat → Int32) (bB : Nat → Int32) (bC : Nat → Int32) (bD : Nat → Int32) (bS : Nat → Int64) (x1 : Int32) (r_ : Int32) (hf : f_B_hasPoint nP x1 = some r_) : Met l y_B_hasPoint w_B_hasPoint ({ frames := 0, cells := 0, slots := 0, locals := 0 }) (va_Pc [.ref qB, .int x1] (fun U => va_P (dC, dI) vwCl (w_B qB qBx qBy qBz qBa qBb qBc qBd qBs cI cJ nP nQ bX bY bZ bA bB bC bD bS) U.heap ∧ va_K (dC, dI) vwCl [(cI, .int), (cJ, .long), (cQ, .object "CutBodies$Contents")] U ∧ nestZ U)) (vp_Si (fun r9 => r9 = r_)) 0 0 (fun _ => False) := by
  refine Met.ofW (cc := b_B_hasPoint) (maxL := 2) (ret := (some .boolean)) (by decide) rfl ?_
  intro p e s m args below meth c s₁ B hml hv
  obtain ⟨rfl, hP, hK, hZ⟩ := hv
  have hx := B.exec
  have hb := B.bytes
  have hr := B.returns
  have hts := atoms_spec (ws := w_B_hasPoint) B.pre
  have ht : ∀ w ∈ wAll, w.before _ s = true := fun w h => hts w (List.mem_cons_of_mem _ h)
  have hown : s.vm.findClass R_B = some m.cls := findClass_of_methodNamed B.named
  have hlocks := B.notSynchronized
  have hP : va_P (dC, dI) vwCl (w_B qB qBx qBy qBz qBa qBb qBc qBd qBs cI cJ nP nQ bX bY bZ bA bB bC bD bS) s.heap := hP
  have hl := lv_entry ([.ref qB, .int x1]) (n := 2) (Nat.le_of_ble_eq_true rfl)
  rw [lg_entry_eq]
  generalize (lg_sl ([.ref qB, .int x1]) ++ List.replicate (2 - (lg_sl ([.ref qB, .int x1])).length) Slot.unset).toArray = ls at hl ⊢
  have hl : lv_has ls 2 [(0, .ref qB), (1, .int x1)] := hl
  unfold f_B_hasPoint at hf
  refine lv_iload_n hx hb d_B_hasPoint_0 rfl (lv_at hl 1 rfl) ?_
  refine lv_if_lt (tgt := 16) hx hb d_B_hasPoint_1 (by decide) (fun c1 => ?_) (fun c1 => ?_)
  · have hf := oIf_t hf c1
    refine lv_iconst (v := 0) hx hb d_B_hasPoint_16 (by decide) ?_
    cases hf
    exact W.zret (ty := .boolean) hx hb hr rfl (fun t ht hW => ⟨_, rfl, rfl, ht⟩) (fun q h => by cases h) d_B_hasPoint_17
  · have hf := oIf_f hf c1
    refine lv_iload_n hx hb d_B_hasPoint_4 rfl (lv_at hl 1 rfl) ?_
    refine lv_aload_n hx hb d_B_hasPoint_5 rfl (lv_at hl 0 rfl) ?_
    refine va_get (D := (dC, dI)) (ci := 0) (v := .int nP) (C := R_B) (T := T_B) (N := 10) hx hb ht in_B hown hK hP 0 rfl rfl 3 (by decide) (ht _ m_52) (fun _ h9 => h9) rfl d_B_hasPoint_6 ?_
    refine lv_icmp_ge (tgt := 16) hx hb d_B_hasPoint_9 (by decide) (fun c2 => ?_) (fun c2 => ?_)
    · have hf := oIf_t hf c2
      refine lv_iconst (v := 0) hx hb d_B_hasPoint_16 (by decide) ?_
      cases hf
      exact W.zret (ty := .boolean) hx hb hr rfl (fun t ht hW => ⟨_, rfl, rfl, ht⟩) (fun q h => by cases h) d_B_hasPoint_17
    · have hf := oIf_f hf c2
      refine lv_iconst (v := 1) hx hb d_B_hasPoint_12 (by decide) ?_
      refine lv_goto (tgt := 17) hx hb d_B_hasPoint_13 (by decide) ?_
      cases hf
      exact W.zret (ty := .boolean) hx hb hr rfl (fun t ht hW => ⟨_, rfl, rfl, ht⟩) (fun q h => by cases h) d_B_hasPoint_17
set_option maxHeartbeats 4000000 in
set_option maxRecDepth 100000 in
theorem c_B_hasPlane (l : Launch) (dC : Nat → ClassId) (dI : Nat → Nat → Nat) (qB qBx qBy qBz qBa qBb qBc qBd qBs : Nat) (cI cJ cQ : ClassId) (nP : Int32) (nQ : Int32) (bX : Nat → Int32) (bY : Nat → Int32) (bZ : Nat → Int32) (bA : Nat → Int32) (bB : Nat → Int32) (bC : Nat → Int32) (bD : Nat → Int32) (bS : Nat → Int64) (x1 : Int32) (r_ : Int32) (hf : f_B_hasPlane nQ x1 = some r_) : Met l y_B_hasPlane w_B_hasPlane ({ frames := 0, cells := 0, slots := 0, locals := 0 }) (va_Pc [.ref qB, .int x1] (fun U => va_P (dC, dI) vwCl (w_B qB qBx qBy qBz qBa qBb qBc qBd qBs cI cJ nP nQ bX bY bZ bA bB bC bD bS) U.heap ∧ va_K (dC, dI) vwCl [(cI, .int), (cJ, .long), (cQ, .object "CutBodies$Contents")] U ∧ nestZ U)) (vp_Si (fun r9 => r9 = r_)) 0 0 (fun _ => False) := by
  refine Met.ofW (cc := b_B_hasPlane) (maxL := 2) (ret := (some .boolean)) (by decide) rfl ?_
  intro p e s m args below meth c s₁ B hml hv
  obtain ⟨rfl, hP, hK, hZ⟩ := hv
  have hx := B.exec
  have hb := B.bytes
  have hr := B.returns
  have hts := atoms_spec (ws := w_B_hasPlane) B.pre
  have ht : ∀ w ∈ wAll, w.before _ s = true := fun w h => hts w (List.mem_cons_of_mem _ h)
  have hown : s.vm.findClass R_B = some m.cls := findClass_of_methodNamed B.named
  have hlocks := B.notSynchronized
  have hP : va_P (dC, dI) vwCl (w_B qB qBx qBy qBz qBa qBb qBc qBd qBs cI cJ nP nQ bX bY bZ bA bB bC bD bS) s.heap := hP
  have hl := lv_entry ([.ref qB, .int x1]) (n := 2) (Nat.le_of_ble_eq_true rfl)
  rw [lg_entry_eq]
  generalize (lg_sl ([.ref qB, .int x1]) ++ List.replicate (2 - (lg_sl ([.ref qB, .int x1])).length) Slot.unset).toArray = ls at hl ⊢
  have hl : lv_has ls 2 [(0, .ref qB), (1, .int x1)] := hl
  unfold f_B_hasPlane at hf
  refine lv_iload_n hx hb d_B_hasPlane_0 rfl (lv_at hl 1 rfl) ?_
  refine lv_if_lt (tgt := 16) hx hb d_B_hasPlane_1 (by decide) (fun c1 => ?_) (fun c1 => ?_)
  · have hf := oIf_t hf c1
    refine lv_iconst (v := 0) hx hb d_B_hasPlane_16 (by decide) ?_
    cases hf
    exact W.zret (ty := .boolean) hx hb hr rfl (fun t ht hW => ⟨_, rfl, rfl, ht⟩) (fun q h => by cases h) d_B_hasPlane_17
  · have hf := oIf_f hf c1
    refine lv_iload_n hx hb d_B_hasPlane_4 rfl (lv_at hl 1 rfl) ?_
    refine lv_aload_n hx hb d_B_hasPlane_5 rfl (lv_at hl 0 rfl) ?_
    refine va_get (D := (dC, dI)) (ci := 0) (v := .int nQ) (C := R_B) (T := T_B) (N := 10) hx hb ht in_B hown hK hP 0 rfl rfl 8 (by decide) (ht _ m_58) (fun _ h9 => h9) rfl d_B_hasPlane_6 ?_
    refine lv_icmp_ge (tgt := 16) hx hb d_B_hasPlane_9 (by decide) (fun c2 => ?_) (fun c2 => ?_)
    · have hf := oIf_t hf c2
      refine lv_iconst (v := 0) hx hb d_B_hasPlane_16 (by decide) ?_
      cases hf
      exact W.zret (ty := .boolean) hx hb hr rfl (fun t ht hW => ⟨_, rfl, rfl, ht⟩) (fun q h => by cases h) d_B_hasPlane_17
    · have hf := oIf_f hf c2
      refine lv_iconst (v := 1) hx hb d_B_hasPlane_12 (by decide) ?_
      refine lv_goto (tgt := 17) hx hb d_B_hasPlane_13 (by decide) ?_
      cases hf
      exact W.zret (ty := .boolean) hx hb hr rfl (fun t ht hW => ⟨_, rfl, rfl, ht⟩) (fun q h => by cases h) d_B_hasPlane_17
set_option maxHeartbeats 4000000 in
set_option maxRecDepth 100000 in
theorem c_B_pointAt (l : Launch) (dC : Nat → ClassId) (dI : Nat → Nat → Nat) (qB qBx qBy qBz qBa qBb qBc qBd qBs : Nat) (cI cJ cQ : ClassId) (nP : Int32) (nQ : Int32) (bX : Nat → Int32) (bY : Nat → Int32) (bZ : Nat → Int32) (bA : Nat → Int32) (bB : Nat → Int32) (bC : Nat → Int32) (bD : Nat → Int32) (bS : Nat → Int64) (x1 : Int32) (x2 : Int32) (x3 : Int32) (r_ : Int32) (hf : f_B_pointAt nP bX bY bZ x1 x2 x3 = some r_) : Met l y_B_pointAt w_B_pointAt ({ frames := 0, cells := 0, slots := 0, locals := 0 }) (va_Pc [.ref qB, .int x1, .int x2, .int x3] (fun U => va_P (dC, dI) vwCl (w_B qB qBx qBy qBz qBa qBb qBc qBd qBs cI cJ nP nQ bX bY bZ bA bB bC bD bS) U.heap ∧ va_K (dC, dI) vwCl [(cI, .int), (cJ, .long), (cQ, .object "CutBodies$Contents")] U ∧ nestZ U)) (vp_Si (fun r9 => r9 = r_)) 0 0 (fun _ => False) := by
  refine Met.ofW (cc := b_B_pointAt) (maxL := 5) (ret := (some .int)) (by decide) rfl ?_
  intro p e s m args below meth c s₁ B hml hv
  obtain ⟨rfl, hP, hK, hZ⟩ := hv
  have hx := B.exec
  have hb := B.bytes
  have hr := B.returns
  have hts := atoms_spec (ws := w_B_pointAt) B.pre
  have ht : ∀ w ∈ wAll, w.before _ s = true := fun w h => hts w (List.mem_cons_of_mem _ h)
  have hown : s.vm.findClass R_B = some m.cls := findClass_of_methodNamed B.named
  have hlocks := B.notSynchronized
  have hP : va_P (dC, dI) vwCl (w_B qB qBx qBy qBz qBa qBb qBc qBd qBs cI cJ nP nQ bX bY bZ bA bB bC bD bS) s.heap := hP
  have hl := lv_entry ([.ref qB, .int x1, .int x2, .int x3]) (n := 5) (Nat.le_of_ble_eq_true rfl)
  rw [lg_entry_eq]
  generalize (lg_sl ([.ref qB, .int x1, .int x2, .int x3]) ++ List.replicate (5 - (lg_sl ([.ref qB, .int x1, .int x2, .int x3])).length) Slot.unset).toArray = ls at hl ⊢
  have hl : lv_has ls 5 [(0, .ref qB), (1, .int x1), (2, .int x2), (3, .int x3)] := hl
  refine w_abs (fun Wx toX ofX => ?_)
  have K3 : ∀ (x1 : Int32) (x2 : Int32) (x3 : Int32) (n : Nat) (x4 : Int32) (ls : Array Slot), oLoop1 (f_B_pointAt_L3  nP bX bY bZ x1 x2 x3) n x4 = some r_ → lv_has ls 5 [(0, .ref qB), (1, .int x1), (2, .int x2), (3, .int x3), (4, .int x4)] → Wx s.heap [] 0 0 (F0 m 3 ls []) := by
    intro x1 x2 x3 n
    induction n with
    | zero => intro x4 ls hf; exact (oLoop1_0 hf).elim
    | succ n ih3 =>
      obtain ⟨rec3, hrec3⟩ : ∃ z, z = oLoop1 (f_B_pointAt_L3  nP bX bY bZ x1 x2 x3) n := ⟨_, rfl⟩
      rw [← hrec3] at ih3
      have K48 : ∀ (x4 : Int32) (ls : Array Slot), f_B_pointAt_J48 rec3 nP bX bY bZ x1 x2 x3 x4 = some r_ → lv_has ls 5 [(0, .ref qB), (1, .int x1), (2, .int x2), (3, .int x3), (4, .int x4)] → Wx s.heap [] 0 0 (F0 m 48 ls []) := by
        intro x4 ls hf hl
        refine toX _ _ _ _ _ ?_
        unfold f_B_pointAt_J48 at hf
        obtain ⟨v1, ev1, hf⟩ := oLet_ex hf
        refine lv_iinc (v := v1) (lv' := [(4, .int v1), (0, .ref qB), (1, .int x1), (2, .int x2), (3, .int x3)]) hx hb d_B_pointAt_48 hl (k := 4) rfl (by rw [ev1]; rfl) (by decide) rfl (fun ls hl => ?_)
        refine lv_goto (tgt := 3) hx hb d_B_pointAt_51 (by decide) ?_
        exact ofX _ _ _ _ _ (ih3 v1 _ hf (lv_sub hl [1, 2, 3, 4, 0] rfl))
      intro x4 ls hf hl
      refine toX _ _ _ _ _ ?_
      have hf := oLoop1_s hf
      rw [← hrec3] at hf
      unfold f_B_pointAt_L3 at hf
      refine lv_iload hx hb d_B_pointAt_3 (lv_at hl 4 rfl) ?_
      refine lv_aload_n hx hb d_B_pointAt_5 rfl (lv_at hl 0 rfl) ?_
      refine va_get (D := (dC, dI)) (ci := 0) (v := .int nP) (C := R_B) (T := T_B) (N := 10) hx hb ht in_B hown hK hP 0 rfl rfl 3 (by decide) (ht _ m_52) (fun _ h9 => h9) rfl d_B_pointAt_6 ?_
      refine lv_icmp_ge (tgt := 54) hx hb d_B_pointAt_9 (by decide) (fun c2 => ?_) (fun c2 => ?_)
      · have hf := oIf_t hf c2
        refine lv_iconst (v := (-1)) hx hb d_B_pointAt_54 (by decide) ?_
        cases hf
        exact W.iret hx hb hr (fun t ht hW => ⟨_, rfl, rfl, ht⟩) (fun q h => by cases h) d_B_pointAt_55
      · have hf := oIf_f hf c2
        refine lv_aload_n hx hb d_B_pointAt_12 rfl (lv_at hl 0 rfl) ?_
        refine va_get (D := (dC, dI)) (ci := 0) (v := .ref qBx) (C := R_B) (T := T_B) (N := 10) hx hb ht in_B hown hK hP 0 rfl rfl 0 (by decide) (ht _ m_49) (fun _ h9 => h9) rfl d_B_pointAt_13 ?_
        refine lv_iload hx hb d_B_pointAt_16 (lv_at hl 4 rfl) ?_
        obtain ⟨hi3, hf⟩ := oIn_some hf
        refine va_iald hx hb hK hP 1 0 rfl rfl hi3 d_B_pointAt_18 ?_
        refine lv_iload_n hx hb d_B_pointAt_19 rfl (lv_at hl 1 rfl) ?_
        refine lv_icmp_ne (tgt := 48) hx hb d_B_pointAt_20 (by decide) (fun c4 => ?_) (fun c4 => ?_)
        · have hf := oIf_f hf c4
          exact ofX _ _ _ _ _ (K48  x4 _ hf (lv_sub hl [0, 1, 2, 3, 4] rfl))
        · have hf := oIf_t hf c4
          refine lv_aload_n hx hb d_B_pointAt_23 rfl (lv_at hl 0 rfl) ?_
          refine va_get (D := (dC, dI)) (ci := 0) (v := .ref qBy) (C := R_B) (T := T_B) (N := 10) hx hb ht in_B hown hK hP 0 rfl rfl 1 (by decide) (ht _ m_50) (fun _ h9 => h9) rfl d_B_pointAt_24 ?_
          refine lv_iload hx hb d_B_pointAt_27 (lv_at hl 4 rfl) ?_
          obtain ⟨hi5, hf⟩ := oIn_some hf
          refine va_iald hx hb hK hP 2 0 rfl rfl hi5 d_B_pointAt_29 ?_
          refine lv_iload_n hx hb d_B_pointAt_30 rfl (lv_at hl 2 rfl) ?_
          refine lv_icmp_ne (tgt := 48) hx hb d_B_pointAt_31 (by decide) (fun c6 => ?_) (fun c6 => ?_)
          · have hf := oIf_f hf c6
            exact ofX _ _ _ _ _ (K48  x4 _ hf (lv_sub hl [0, 1, 2, 3, 4] rfl))
          · have hf := oIf_t hf c6
            refine lv_aload_n hx hb d_B_pointAt_34 rfl (lv_at hl 0 rfl) ?_
            refine va_get (D := (dC, dI)) (ci := 0) (v := .ref qBz) (C := R_B) (T := T_B) (N := 10) hx hb ht in_B hown hK hP 0 rfl rfl 2 (by decide) (ht _ m_51) (fun _ h9 => h9) rfl d_B_pointAt_35 ?_
            refine lv_iload hx hb d_B_pointAt_38 (lv_at hl 4 rfl) ?_
            obtain ⟨hi7, hf⟩ := oIn_some hf
            refine va_iald hx hb hK hP 3 0 rfl rfl hi7 d_B_pointAt_40 ?_
            refine lv_iload_n hx hb d_B_pointAt_41 rfl (lv_at hl 3 rfl) ?_
            refine lv_icmp_ne (tgt := 48) hx hb d_B_pointAt_42 (by decide) (fun c8 => ?_) (fun c8 => ?_)
            · have hf := oIf_f hf c8
              exact ofX _ _ _ _ _ (K48  x4 _ hf (lv_sub hl [0, 1, 2, 3, 4] rfl))
            · have hf := oIf_t hf c8
              refine lv_iload hx hb d_B_pointAt_45 (lv_at hl 4 rfl) ?_
              cases hf
              exact W.iret hx hb hr (fun t ht hW => ⟨_, rfl, rfl, ht⟩) (fun q h => by cases h) d_B_pointAt_47
  refine toX _ _ _ _ _ ?_
  unfold f_B_pointAt at hf
  refine lv_iconst (v := 0) hx hb d_B_pointAt_0 (by decide) ?_
  refine lv_istore (lv' := [(4, .int 0), (0, .ref qB), (1, .int x1), (2, .int x2), (3, .int x3)]) hx hb d_B_pointAt_1 hl (by decide) rfl (fun ls hl => ?_)
  exact ofX _ _ _ _ _ (K3 x1 x2 x3 _ 0 _ hf (lv_sub hl [1, 2, 3, 4, 0] rfl))
set_option maxHeartbeats 4000000 in
set_option maxRecDepth 100000 in
theorem c_B_sideOf (l : Launch) (dC : Nat → ClassId) (dI : Nat → Nat → Nat) (qB qBx qBy qBz qBa qBb qBc qBd qBs : Nat) (cI cJ cQ : ClassId) (nP : Int32) (nQ : Int32) (bX : Nat → Int32) (bY : Nat → Int32) (bZ : Nat → Int32) (bA : Nat → Int32) (bB : Nat → Int32) (bC : Nat → Int32) (bD : Nat → Int32) (bS : Nat → Int64) (x1 : Int32) (x2 : Int32) (r_ : Int32) (hf : f_B_sideOf bS x1 x2 = some r_) : Met l y_B_sideOf w_B_sideOf ({ frames := 0, cells := 0, slots := 0, locals := 0 }) (va_Pc [.ref qB, .int x1, .int x2] (fun U => va_P (dC, dI) vwCl (w_B qB qBx qBy qBz qBa qBb qBc qBd qBs cI cJ nP nQ bX bY bZ bA bB bC bD bS) U.heap ∧ va_K (dC, dI) vwCl [(cI, .int), (cJ, .long), (cQ, .object "CutBodies$Contents")] U ∧ nestZ U)) (vp_Si (fun r9 => r9 = r_)) 0 0 (fun _ => False) := by
  refine Met.ofW (cc := b_B_sideOf) (maxL := 3) (ret := (some .int)) (by decide) rfl ?_
  intro p e s m args below meth c s₁ B hml hv
  obtain ⟨rfl, hP, hK, hZ⟩ := hv
  have hx := B.exec
  have hb := B.bytes
  have hr := B.returns
  have hts := atoms_spec (ws := w_B_sideOf) B.pre
  have ht : ∀ w ∈ wAll, w.before _ s = true := fun w h => hts w (List.mem_cons_of_mem _ h)
  have hown : s.vm.findClass R_B = some m.cls := findClass_of_methodNamed B.named
  have hlocks := B.notSynchronized
  have hP : va_P (dC, dI) vwCl (w_B qB qBx qBy qBz qBa qBb qBc qBd qBs cI cJ nP nQ bX bY bZ bA bB bC bD bS) s.heap := hP
  have hl := lv_entry ([.ref qB, .int x1, .int x2]) (n := 3) (Nat.le_of_ble_eq_true rfl)
  rw [lg_entry_eq]
  generalize (lg_sl ([.ref qB, .int x1, .int x2]) ++ List.replicate (3 - (lg_sl ([.ref qB, .int x1, .int x2])).length) Slot.unset).toArray = ls at hl ⊢
  have hl : lv_has ls 3 [(0, .ref qB), (1, .int x1), (2, .int x2)] := hl
  unfold f_B_sideOf at hf
  refine lv_aload_n hx hb d_B_sideOf_0 rfl (lv_at hl 0 rfl) ?_
  refine va_get (D := (dC, dI)) (ci := 0) (v := .ref qBs) (C := R_B) (T := T_B) (N := 10) hx hb ht in_B hown hK hP 0 rfl rfl 9 (by decide) (ht _ m_60) (fun _ h9 => h9) rfl d_B_sideOf_1 ?_
  refine lv_iload_n hx hb d_B_sideOf_4 rfl (lv_at hl 1 rfl) ?_
  obtain ⟨hi1, hf⟩ := oIn_some hf
  refine va_lald hx hb hK hP 8 1 rfl rfl hi1 d_B_sideOf_5 ?_
  refine lv_iconst (v := 2) hx hb d_B_sideOf_6 (by decide) ?_
  refine lv_iload_n hx hb d_B_sideOf_7 rfl (lv_at hl 2 rfl) ?_
  refine lv_imul hx hb d_B_sideOf_8 ?_
  refine lv_lshr hx hb d_B_sideOf_9 rfl ?_
  refine lv_ldc2 (v := 3) hx hb hown (ht _ m_226) d_B_sideOf_10 ?_
  refine lv_land hx hb d_B_sideOf_13 ?_
  refine lv_l2i hx hb d_B_sideOf_14 rfl ?_
  cases hf
  exact W.iret hx hb hr (fun t ht hW => ⟨_, rfl, rfl, ht⟩) (fun q h => by cases h) d_B_sideOf_15
set_option maxHeartbeats 4000000 in
set_option maxRecDepth 100000 in
theorem c_B_imageOf (l : Launch) (dC : Nat → ClassId) (dI : Nat → Nat → Nat) (qB qBx qBy qBz qBa qBb qBc qBd qBs : Nat) (cI cJ cQ : ClassId) (nP : Int32) (nQ : Int32) (bX : Nat → Int32) (bY : Nat → Int32) (bZ : Nat → Int32) (bA : Nat → Int32) (bB : Nat → Int32) (bC : Nat → Int32) (bD : Nat → Int32) (bS : Nat → Int64) (x1 : Int32) (x2 : Int32) (r_ : Int32) (hf : f_B_imageOf nP bX bY bZ x1 x2 = some r_) : Met l y_B_imageOf w_B_imageOf ({ frames := 2, cells := 0, slots := 0, locals := 49 }) (va_Pc [.ref qB, .int x1, .int x2] (fun U => va_P (dC, dI) vwCl (w_B qB qBx qBy qBz qBa qBb qBc qBd qBs cI cJ nP nQ bX bY bZ bA bB bC bD bS) U.heap ∧ va_K (dC, dI) vwCl [(cI, .int), (cJ, .long), (cQ, .object "CutBodies$Contents")] U ∧ nestZ U)) (vp_Si (fun r9 => r9 = r_)) 0 0 (fun _ => False) := by
  refine Met.ofW (cc := b_B_imageOf) (maxL := 6) (ret := (some .int)) (by decide) rfl ?_
  intro p e s m args below meth c s₁ B hml hv
  obtain ⟨rfl, hP, hK, hZ⟩ := hv
  have hx := B.exec
  have hb := B.bytes
  have hr := B.returns
  have hts := atoms_spec (ws := w_B_imageOf) B.pre
  have ht : ∀ w ∈ wAll, w.before _ s = true := fun w h => hts w (List.mem_cons_of_mem _ h)
  have hown : s.vm.findClass R_B = some m.cls := findClass_of_methodNamed B.named
  have hlocks := B.notSynchronized
  have hP : va_P (dC, dI) vwCl (w_B qB qBx qBy qBz qBa qBb qBc qBd qBs cI cJ nP nQ bX bY bZ bA bB bC bD bS) s.heap := hP
  have hl := lv_entry ([.ref qB, .int x1, .int x2]) (n := 6) (Nat.le_of_ble_eq_true rfl)
  rw [lg_entry_eq]
  generalize (lg_sl ([.ref qB, .int x1, .int x2]) ++ List.replicate (6 - (lg_sl ([.ref qB, .int x1, .int x2])).length) Slot.unset).toArray = ls at hl ⊢
  have hl : lv_has ls 6 [(0, .ref qB), (1, .int x1), (2, .int x2)] := hl
  unfold f_B_imageOf at hf
  refine lv_aload_n hx hb d_B_imageOf_0 rfl (lv_at hl 0 rfl) ?_
  refine va_get (D := (dC, dI)) (ci := 0) (v := .ref qBx) (C := R_B) (T := T_B) (N := 10) hx hb ht in_B hown hK hP 0 rfl rfl 0 (by decide) (ht _ m_49) (fun _ h9 => h9) rfl d_B_imageOf_1 ?_
  refine lv_iload_n hx hb d_B_imageOf_4 rfl (lv_at hl 1 rfl) ?_
  obtain ⟨hi1, hf⟩ := oIn_some hf
  refine va_iald hx hb hK hP 1 0 rfl rfl hi1 d_B_imageOf_5 ?_
  refine lv_topi (fun v2 ev2 => ?_)
  have hf := oLet_some hf ev2
  refine lv_istore_n (lv' := [(3, .int v2), (0, .ref qB), (1, .int x1), (2, .int x2)]) hx hb d_B_imageOf_6 rfl hl (by decide) rfl (fun ls hl => ?_)
  refine lv_aload_n hx hb d_B_imageOf_7 rfl (lv_at hl 1 rfl) ?_
  refine va_get (D := (dC, dI)) (ci := 0) (v := .ref qBy) (C := R_B) (T := T_B) (N := 10) hx hb ht in_B hown hK hP 0 rfl rfl 1 (by decide) (ht _ m_50) (fun _ h9 => h9) rfl d_B_imageOf_8 ?_
  refine lv_iload_n hx hb d_B_imageOf_11 rfl (lv_at hl 2 rfl) ?_
  obtain ⟨hi3, hf⟩ := oIn_some hf
  refine va_iald hx hb hK hP 2 0 rfl rfl hi3 d_B_imageOf_12 ?_
  refine lv_topi (fun v4 ev4 => ?_)
  have hf := oLet_some hf ev4
  refine lv_istore (lv' := [(4, .int v4), (3, .int v2), (0, .ref qB), (1, .int x1), (2, .int x2)]) hx hb d_B_imageOf_13 hl (by decide) rfl (fun ls hl => ?_)
  refine lv_aload_n hx hb d_B_imageOf_15 rfl (lv_at hl 2 rfl) ?_
  refine va_get (D := (dC, dI)) (ci := 0) (v := .ref qBz) (C := R_B) (T := T_B) (N := 10) hx hb ht in_B hown hK hP 0 rfl rfl 2 (by decide) (ht _ m_51) (fun _ h9 => h9) rfl d_B_imageOf_16 ?_
  refine lv_iload_n hx hb d_B_imageOf_19 rfl (lv_at hl 3 rfl) ?_
  obtain ⟨hi5, hf⟩ := oIn_some hf
  refine va_iald hx hb hK hP 3 0 rfl rfl hi5 d_B_imageOf_20 ?_
  refine lv_topi (fun v6 ev6 => ?_)
  have hf := oLet_some hf ev6
  refine lv_istore (lv' := [(5, .int v6), (4, .int v4), (3, .int v2), (0, .ref qB), (1, .int x1), (2, .int x2)]) hx hb d_B_imageOf_21 hl (by decide) rfl (fun ls hl => ?_)
  refine lv_aload_n hx hb d_B_imageOf_23 rfl (lv_at hl 3 rfl) ?_
  refine lv_iload_n hx hb d_B_imageOf_24 rfl (lv_at hl 5 rfl) ?_
  refine lv_iconst (v := 0) hx hb d_B_imageOf_25 (by decide) ?_
  refine lv_iload_n hx hb d_B_imageOf_26 rfl (lv_at hl 2 rfl) ?_
  refine lv_iload hx hb d_B_imageOf_27 (lv_at hl 1 rfl) ?_
  refine lv_iload hx hb d_B_imageOf_29 (lv_at hl 0 rfl) ?_
  obtain ⟨r7z, hfc, hf⟩ := oCall1_some hf
  have hPc := hP.sub (ws' := []) [] rfl
  refine vp_callSi (va_runS (As := [.int x2, .int 0, .int v2, .int v4, .int v6]) (rest := [.ref qB]) ⟨hx, hb, hml, hown, ht⟩ (c_W_coordinate l dC dI cI cJ cQ x2 0 v2 v4 v6 r7z hfc) (va_cwS 5 ht (gS m_252 m_253 m_33 m_254) rfl rfl rfl (by decide +kernel) ⟨Nat.le_of_ble_eq_true rfl, Nat.le_of_ble_eq_true rfl⟩) (preR hPc hK hZ) rfl rfl hl.1 rfl (lv_room (Nat.le_of_ble_eq_true rfl)) d_B_imageOf_31 ⟨Nat.le_of_ble_eq_true rfl, Nat.le_of_ble_eq_true rfl⟩).run (fun r7 hw => ?_)
  subst hw
  clear hPc hfc
  refine lv_iload_n hx hb d_B_imageOf_34 rfl (lv_at hl 5 rfl) ?_
  refine lv_iconst (v := 1) hx hb d_B_imageOf_35 (by decide) ?_
  refine lv_iload_n hx hb d_B_imageOf_36 rfl (lv_at hl 2 rfl) ?_
  refine lv_iload hx hb d_B_imageOf_37 (lv_at hl 1 rfl) ?_
  refine lv_iload hx hb d_B_imageOf_39 (lv_at hl 0 rfl) ?_
  obtain ⟨r8z, hfc, hf⟩ := oCall1_some hf
  have hPc := hP.sub (ws' := []) [] rfl
  refine vp_callSi (va_runS (As := [.int x2, .int 1, .int v2, .int v4, .int v6]) (rest := [.int r7, .ref qB]) ⟨hx, hb, hml, hown, ht⟩ (c_W_coordinate l dC dI cI cJ cQ x2 1 v2 v4 v6 r8z hfc) (va_cwS 5 ht (gS m_252 m_253 m_33 m_254) rfl rfl rfl (by decide +kernel) ⟨Nat.le_of_ble_eq_true rfl, Nat.le_of_ble_eq_true rfl⟩) (preR hPc hK hZ) rfl rfl hl.1 rfl (lv_room (Nat.le_of_ble_eq_true rfl)) d_B_imageOf_41 ⟨Nat.le_of_ble_eq_true rfl, Nat.le_of_ble_eq_true rfl⟩).run (fun r8 hw => ?_)
  subst hw
  clear hPc hfc
  refine lv_iload_n hx hb d_B_imageOf_44 rfl (lv_at hl 5 rfl) ?_
  refine lv_iconst (v := 2) hx hb d_B_imageOf_45 (by decide) ?_
  refine lv_iload_n hx hb d_B_imageOf_46 rfl (lv_at hl 2 rfl) ?_
  refine lv_iload hx hb d_B_imageOf_47 (lv_at hl 1 rfl) ?_
  refine lv_iload hx hb d_B_imageOf_49 (lv_at hl 0 rfl) ?_
  obtain ⟨r9z, hfc, hf⟩ := oCall1_some hf
  have hPc := hP.sub (ws' := []) [] rfl
  refine vp_callSi (va_runS (As := [.int x2, .int 2, .int v2, .int v4, .int v6]) (rest := [.int r8, .int r7, .ref qB]) ⟨hx, hb, hml, hown, ht⟩ (c_W_coordinate l dC dI cI cJ cQ x2 2 v2 v4 v6 r9z hfc) (va_cwS 5 ht (gS m_252 m_253 m_33 m_254) rfl rfl rfl (by decide +kernel) ⟨Nat.le_of_ble_eq_true rfl, Nat.le_of_ble_eq_true rfl⟩) (preR hPc hK hZ) rfl rfl hl.1 rfl (lv_room (Nat.le_of_ble_eq_true rfl)) d_B_imageOf_51 ⟨Nat.le_of_ble_eq_true rfl, Nat.le_of_ble_eq_true rfl⟩).run (fun r9 hw => ?_)
  subst hw
  clear hPc hfc
  obtain ⟨r10z, hfc, hf⟩ := oCall1_some hf
  have hPc := hP.sub (ws' := (w_B qB qBx qBy qBz qBa qBb qBc qBd qBs cI cJ nP nQ bX bY bZ bA bB bC bD bS)) [0, 1, 2, 3, 4, 5, 6, 7, 8] rfl
  refine vp_callSi (va_runV (As := [.int r7, .int r8, .int r9]) (rest := []) ⟨hx, hb, hml, hown, ht⟩ (c_B_pointAt l dC dI qB qBx qBy qBz qBa qBb qBc qBd qBs cI cJ cQ nP nQ bX bY bZ bA bB bC bD bS r7 r8 r9 r10z hfc) (cwV 3 ht (gV m_142 m_143 m_144 m_29 m_145) rfl rfl rfl (by decide +kernel) ⟨Nat.le_of_ble_eq_true rfl, Nat.le_of_ble_eq_true rfl⟩) (preRV hPc hK hZ (va_recv hK hPc (ci := 0) (q0 := 0) rfl rfl)) rfl rfl hl.1 rfl (lv_room (Nat.le_of_ble_eq_true rfl)) d_B_imageOf_54 ⟨Nat.le_of_ble_eq_true rfl, Nat.le_of_ble_eq_true rfl⟩).run (fun r10 hw => ?_)
  subst hw
  clear hPc hfc
  cases hf
  exact W.iret hx hb hr (fun t ht hW => ⟨_, rfl, rfl, ht⟩) (fun q h => by cases h) d_B_imageOf_57
set_option maxHeartbeats 4000000 in
set_option maxRecDepth 100000 in
theorem c_B_leastAlike (l : Launch) (dC : Nat → ClassId) (dI : Nat → Nat → Nat) (qB qBx qBy qBz qBa qBb qBc qBd qBs : Nat) (cI cJ cQ : ClassId) (nP : Int32) (nQ : Int32) (bX : Nat → Int32) (bY : Nat → Int32) (bZ : Nat → Int32) (bA : Nat → Int32) (bB : Nat → Int32) (bC : Nat → Int32) (bD : Nat → Int32) (bS : Nat → Int64) (x1 : Int32) (r_ : Int32) (hf : f_B_leastAlike bS x1 = some r_) : Met l y_B_leastAlike w_B_leastAlike ({ frames := 0, cells := 0, slots := 0, locals := 0 }) (va_Pc [.ref qB, .int x1] (fun U => va_P (dC, dI) vwCl (w_B qB qBx qBy qBz qBa qBb qBc qBd qBs cI cJ nP nQ bX bY bZ bA bB bC bD bS) U.heap ∧ va_K (dC, dI) vwCl [(cI, .int), (cJ, .long), (cQ, .object "CutBodies$Contents")] U ∧ nestZ U)) (vp_Si (fun r9 => r9 = r_)) 0 0 (fun _ => False) := by
  refine Met.ofW (cc := b_B_leastAlike) (maxL := 3) (ret := (some .int)) (by decide) rfl ?_
  intro p e s m args below meth c s₁ B hml hv
  obtain ⟨rfl, hP, hK, hZ⟩ := hv
  have hx := B.exec
  have hb := B.bytes
  have hr := B.returns
  have hts := atoms_spec (ws := w_B_leastAlike) B.pre
  have ht : ∀ w ∈ wAll, w.before _ s = true := fun w h => hts w (List.mem_cons_of_mem _ h)
  have hown : s.vm.findClass R_B = some m.cls := findClass_of_methodNamed B.named
  have hlocks := B.notSynchronized
  have hP : va_P (dC, dI) vwCl (w_B qB qBx qBy qBz qBa qBb qBc qBd qBs cI cJ nP nQ bX bY bZ bA bB bC bD bS) s.heap := hP
  have hl := lv_entry ([.ref qB, .int x1]) (n := 3) (Nat.le_of_ble_eq_true rfl)
  rw [lg_entry_eq]
  generalize (lg_sl ([.ref qB, .int x1]) ++ List.replicate (3 - (lg_sl ([.ref qB, .int x1])).length) Slot.unset).toArray = ls at hl ⊢
  have hl : lv_has ls 3 [(0, .ref qB), (1, .int x1)] := hl
  refine w_abs (fun Wx toX ofX => ?_)
  have K2 : ∀ (x1 : Int32) (n : Nat) (x2 : Int32) (ls : Array Slot), oLoop1 (f_B_leastAlike_L2  bS x1) n x2 = some r_ → lv_has ls 3 [(0, .ref qB), (1, .int x1), (2, .int x2)] → Wx s.heap [] 0 0 (F0 m 2 ls []) := by
    intro x1 n
    induction n with
    | zero => intro x2 ls hf; exact (oLoop1_0 hf).elim
    | succ n ih2 =>
      obtain ⟨rec2, hrec2⟩ : ∃ z, z = oLoop1 (f_B_leastAlike_L2  bS x1) n := ⟨_, rfl⟩
      rw [← hrec2] at ih2
      intro x2 ls hf hl
      refine toX _ _ _ _ _ ?_
      have hf := oLoop1_s hf
      rw [← hrec2] at hf
      unfold f_B_leastAlike_L2 at hf
      refine lv_iload_n hx hb d_B_leastAlike_2 rfl (lv_at hl 2 rfl) ?_
      refine lv_iload_n hx hb d_B_leastAlike_3 rfl (lv_at hl 1 rfl) ?_
      refine lv_icmp_ge (tgt := 31) hx hb d_B_leastAlike_4 (by decide) (fun c1 => ?_) (fun c1 => ?_)
      · have hf := oIf_t hf c1
        refine lv_iload_n hx hb d_B_leastAlike_31 rfl (lv_at hl 1 rfl) ?_
        cases hf
        exact W.iret hx hb hr (fun t ht hW => ⟨_, rfl, rfl, ht⟩) (fun q h => by cases h) d_B_leastAlike_32
      · have hf := oIf_f hf c1
        refine lv_aload_n hx hb d_B_leastAlike_7 rfl (lv_at hl 0 rfl) ?_
        refine va_get (D := (dC, dI)) (ci := 0) (v := .ref qBs) (C := R_B) (T := T_B) (N := 10) hx hb ht in_B hown hK hP 0 rfl rfl 9 (by decide) (ht _ m_60) (fun _ h9 => h9) rfl d_B_leastAlike_8 ?_
        refine lv_iload_n hx hb d_B_leastAlike_11 rfl (lv_at hl 2 rfl) ?_
        obtain ⟨hi2, hf⟩ := oIn_some hf
        refine va_lald hx hb hK hP 8 1 rfl rfl hi2 d_B_leastAlike_12 ?_
        refine lv_aload_n hx hb d_B_leastAlike_13 rfl (lv_at hl 0 rfl) ?_
        refine va_get (D := (dC, dI)) (ci := 0) (v := .ref qBs) (C := R_B) (T := T_B) (N := 10) hx hb ht in_B hown hK hP 0 rfl rfl 9 (by decide) (ht _ m_60) (fun _ h9 => h9) rfl d_B_leastAlike_14 ?_
        refine lv_iload_n hx hb d_B_leastAlike_17 rfl (lv_at hl 1 rfl) ?_
        obtain ⟨hi3, hf⟩ := oIn_some hf
        refine va_lald hx hb hK hP 8 1 rfl rfl hi3 d_B_leastAlike_18 ?_
        refine W.lcmp hx hb d_B_leastAlike_19 ?_
        refine lv_if_ne (tgt := 25) hx hb d_B_leastAlike_20 (by decide) (fun c4 => ?_) (fun c4 => ?_)
        · have hf := oIf_f hf c4
          obtain ⟨v5, ev5, hf⟩ := oLet_ex hf
          refine lv_iinc (v := v5) (lv' := [(2, .int v5), (0, .ref qB), (1, .int x1)]) hx hb d_B_leastAlike_25 hl (k := 2) rfl (by rw [ev5]; rfl) (by decide) rfl (fun ls hl => ?_)
          refine lv_goto (tgt := 2) hx hb d_B_leastAlike_28 (by decide) ?_
          exact ofX _ _ _ _ _ (ih2 v5 _ hf (lv_sub hl [1, 2, 0] rfl))
        · have hf := oIf_t hf c4
          refine lv_iload_n hx hb d_B_leastAlike_23 rfl (lv_at hl 2 rfl) ?_
          cases hf
          exact W.iret hx hb hr (fun t ht hW => ⟨_, rfl, rfl, ht⟩) (fun q h => by cases h) d_B_leastAlike_24
  refine toX _ _ _ _ _ ?_
  unfold f_B_leastAlike at hf
  refine lv_iconst (v := 0) hx hb d_B_leastAlike_0 (by decide) ?_
  refine lv_istore_n (lv' := [(2, .int 0), (0, .ref qB), (1, .int x1)]) hx hb d_B_leastAlike_1 rfl hl (by decide) rfl (fun ls hl => ?_)
  exact ofX _ _ _ _ _ (K2 x1 _ 0 _ hf (lv_sub hl [1, 2, 0] rfl))
set_option maxHeartbeats 4000000 in
set_option maxRecDepth 100000 in
theorem c_B_piecesBefore (l : Launch) (dC : Nat → ClassId) (dI : Nat → Nat → Nat) (qB qBx qBy qBz qBa qBb qBc qBd qBs : Nat) (cI cJ cQ : ClassId) (nP : Int32) (nQ : Int32) (bX : Nat → Int32) (bY : Nat → Int32) (bZ : Nat → Int32) (bA : Nat → Int32) (bB : Nat → Int32) (bC : Nat → Int32) (bD : Nat → Int32) (bS : Nat → Int64) (x1 : Int32) (r_ : Int32) (hf : f_B_piecesBefore bS x1 = some r_) : Met l y_B_piecesBefore w_B_piecesBefore ({ frames := 1, cells := 0, slots := 0, locals := 22 }) (va_Pc [.ref qB, .int x1] (fun U => va_P (dC, dI) vwCl (w_B qB qBx qBy qBz qBa qBb qBc qBd qBs cI cJ nP nQ bX bY bZ bA bB bC bD bS) U.heap ∧ va_K (dC, dI) vwCl [(cI, .int), (cJ, .long), (cQ, .object "CutBodies$Contents")] U ∧ nestZ U)) (vp_Si (fun r9 => r9 = r_)) 0 0 (fun _ => False) := by
  refine Met.ofW (cc := b_B_piecesBefore) (maxL := 4) (ret := (some .int)) (by decide) rfl ?_
  intro p e s m args below meth c s₁ B hml hv
  obtain ⟨rfl, hP, hK, hZ⟩ := hv
  have hx := B.exec
  have hb := B.bytes
  have hr := B.returns
  have hts := atoms_spec (ws := w_B_piecesBefore) B.pre
  have ht : ∀ w ∈ wAll, w.before _ s = true := fun w h => hts w (List.mem_cons_of_mem _ h)
  have hown : s.vm.findClass R_B = some m.cls := findClass_of_methodNamed B.named
  have hlocks := B.notSynchronized
  have hP : va_P (dC, dI) vwCl (w_B qB qBx qBy qBz qBa qBb qBc qBd qBs cI cJ nP nQ bX bY bZ bA bB bC bD bS) s.heap := hP
  have hl := lv_entry ([.ref qB, .int x1]) (n := 4) (Nat.le_of_ble_eq_true rfl)
  rw [lg_entry_eq]
  generalize (lg_sl ([.ref qB, .int x1]) ++ List.replicate (4 - (lg_sl ([.ref qB, .int x1])).length) Slot.unset).toArray = ls at hl ⊢
  have hl : lv_has ls 4 [(0, .ref qB), (1, .int x1)] := hl
  refine w_abs (fun Wx toX ofX => ?_)
  have K4 : ∀ (x1 : Int32) (n : Nat) (x2 : Int32) (x3 : Int32) (ls : Array Slot), oLoop2 (f_B_piecesBefore_L4  bS x1) n x2 x3 = some r_ → lv_has ls 4 [(0, .ref qB), (1, .int x1), (2, .int x2), (3, .int x3)] → Wx s.heap [] 0 0 (F0 m 4 ls []) := by
    intro x1 n
    induction n with
    | zero => intro x2 x3 ls hf; exact (oLoop2_0 hf).elim
    | succ n ih4 =>
      obtain ⟨rec4, hrec4⟩ : ∃ z, z = oLoop2 (f_B_piecesBefore_L4  bS x1) n := ⟨_, rfl⟩
      rw [← hrec4] at ih4
      have K21 : ∀ (x2 : Int32) (x3 : Int32) (ls : Array Slot), f_B_piecesBefore_J21 rec4 bS x1 x2 x3 = some r_ → lv_has ls 4 [(0, .ref qB), (1, .int x1), (2, .int x2), (3, .int x3)] → Wx s.heap [] 0 0 (F0 m 21 ls []) := by
        intro x2 x3 ls hf hl
        refine toX _ _ _ _ _ ?_
        unfold f_B_piecesBefore_J21 at hf
        obtain ⟨v1, ev1, hf⟩ := oLet_ex hf
        refine lv_iinc (v := v1) (lv' := [(3, .int v1), (0, .ref qB), (1, .int x1), (2, .int x2)]) hx hb d_B_piecesBefore_21 hl (k := 3) rfl (by rw [ev1]; rfl) (by decide) rfl (fun ls hl => ?_)
        refine lv_goto (tgt := 4) hx hb d_B_piecesBefore_24 (by decide) ?_
        exact ofX _ _ _ _ _ (ih4 x2 v1 _ hf (lv_sub hl [1, 2, 3, 0] rfl))
      intro x2 x3 ls hf hl
      refine toX _ _ _ _ _ ?_
      have hf := oLoop2_s hf
      rw [← hrec4] at hf
      unfold f_B_piecesBefore_L4 at hf
      refine lv_iload_n hx hb d_B_piecesBefore_4 rfl (lv_at hl 3 rfl) ?_
      refine lv_iload_n hx hb d_B_piecesBefore_5 rfl (lv_at hl 1 rfl) ?_
      refine lv_icmp_ge (tgt := 27) hx hb d_B_piecesBefore_6 (by decide) (fun c2 => ?_) (fun c2 => ?_)
      · have hf := oIf_t hf c2
        refine lv_iload_n hx hb d_B_piecesBefore_27 rfl (lv_at hl 2 rfl) ?_
        cases hf
        exact W.iret hx hb hr (fun t ht hW => ⟨_, rfl, rfl, ht⟩) (fun q h => by cases h) d_B_piecesBefore_28
      · have hf := oIf_f hf c2
        refine lv_aload_n hx hb d_B_piecesBefore_9 rfl (lv_at hl 0 rfl) ?_
        refine lv_iload_n hx hb d_B_piecesBefore_10 rfl (lv_at hl 3 rfl) ?_
        obtain ⟨r3z, hfc, hf⟩ := oCall1_some hf
        have hPc := hP.sub (ws' := (w_B qB qBx qBy qBz qBa qBb qBc qBd qBs cI cJ nP nQ bX bY bZ bA bB bC bD bS)) [0, 1, 2, 3, 4, 5, 6, 7, 8] rfl
        refine vp_callSi (va_runV (As := [.int x3]) (rest := []) ⟨hx, hb, hml, hown, ht⟩ (c_B_leastAlike l dC dI qB qBx qBy qBz qBa qBb qBc qBd qBs cI cJ cQ nP nQ bX bY bZ bA bB bC bD bS x3 r3z hfc) (cwV 1 ht (gV m_235 m_236 m_237 m_29 m_238) rfl rfl rfl (by decide +kernel) ⟨Nat.le_of_ble_eq_true rfl, Nat.le_of_ble_eq_true rfl⟩) (preRV hPc hK hZ (va_recv hK hPc (ci := 0) (q0 := 0) rfl rfl)) rfl rfl hl.1 rfl (lv_room (Nat.le_of_ble_eq_true rfl)) d_B_piecesBefore_11 ⟨Nat.le_of_ble_eq_true rfl, Nat.le_of_ble_eq_true rfl⟩).run (fun r3 hw => ?_)
        subst hw
        clear hPc hfc
        refine lv_iload_n hx hb d_B_piecesBefore_14 rfl (lv_at hl 3 rfl) ?_
        refine lv_icmp_ne (tgt := 21) hx hb d_B_piecesBefore_15 (by decide) (fun c4 => ?_) (fun c4 => ?_)
        · have hf := oIf_f hf c4
          exact ofX _ _ _ _ _ (K21  x2 x3 _ hf (lv_sub hl [0, 1, 2, 3] rfl))
        · have hf := oIf_t hf c4
          obtain ⟨v5, ev5, hf⟩ := oLet_ex hf
          refine lv_iinc (v := v5) (lv' := [(2, .int v5), (0, .ref qB), (1, .int x1), (3, .int x3)]) hx hb d_B_piecesBefore_18 hl (k := 2) rfl (by rw [ev5]; rfl) (by decide) rfl (fun ls hl => ?_)
          exact ofX _ _ _ _ _ (K21  v5 x3 _ hf (lv_sub hl [1, 2, 0, 3] rfl))
  refine toX _ _ _ _ _ ?_
  unfold f_B_piecesBefore at hf
  refine lv_iconst (v := 0) hx hb d_B_piecesBefore_0 (by decide) ?_
  refine lv_istore_n (lv' := [(2, .int 0), (0, .ref qB), (1, .int x1)]) hx hb d_B_piecesBefore_1 rfl hl (by decide) rfl (fun ls hl => ?_)
  refine lv_iconst (v := 0) hx hb d_B_piecesBefore_2 (by decide) ?_
  refine lv_istore_n (lv' := [(3, .int 0), (2, .int 0), (0, .ref qB), (1, .int x1)]) hx hb d_B_piecesBefore_3 rfl hl (by decide) rfl (fun ls hl => ?_)
  exact ofX _ _ _ _ _ (K4 x1 _ 0 0 _ hf (lv_sub hl [2, 3, 1, 0] rfl))
set_option maxHeartbeats 4000000 in
set_option maxRecDepth 100000 in
theorem c_B_takesPointsToPoints (l : Launch) (dC : Nat → ClassId) (dI : Nat → Nat → Nat) (qB qBx qBy qBz qBa qBb qBc qBd qBs : Nat) (cI cJ cQ : ClassId) (nP : Int32) (nQ : Int32) (bX : Nat → Int32) (bY : Nat → Int32) (bZ : Nat → Int32) (bA : Nat → Int32) (bB : Nat → Int32) (bC : Nat → Int32) (bD : Nat → Int32) (bS : Nat → Int64) (x1 : Int32) (r_ : Int32) (hf : f_B_takesPointsToPoints nP bX bY bZ x1 = some r_) : Met l y_B_takesPointsToPoints w_B_takesPointsToPoints ({ frames := 3, cells := 0, slots := 0, locals := 74 }) (va_Pc [.ref qB, .int x1] (fun U => va_P (dC, dI) vwCl (w_B qB qBx qBy qBz qBa qBb qBc qBd qBs cI cJ nP nQ bX bY bZ bA bB bC bD bS) U.heap ∧ va_K (dC, dI) vwCl [(cI, .int), (cJ, .long), (cQ, .object "CutBodies$Contents")] U ∧ nestZ U)) (vp_Si (fun r9 => r9 = r_)) 0 0 (fun _ => False) := by
  refine Met.ofW (cc := b_B_takesPointsToPoints) (maxL := 3) (ret := (some .boolean)) (by decide) rfl ?_
  intro p e s m args below meth c s₁ B hml hv
  obtain ⟨rfl, hP, hK, hZ⟩ := hv
  have hx := B.exec
  have hb := B.bytes
  have hr := B.returns
  have hts := atoms_spec (ws := w_B_takesPointsToPoints) B.pre
  have ht : ∀ w ∈ wAll, w.before _ s = true := fun w h => hts w (List.mem_cons_of_mem _ h)
  have hown : s.vm.findClass R_B = some m.cls := findClass_of_methodNamed B.named
  have hlocks := B.notSynchronized
  have hP : va_P (dC, dI) vwCl (w_B qB qBx qBy qBz qBa qBb qBc qBd qBs cI cJ nP nQ bX bY bZ bA bB bC bD bS) s.heap := hP
  have hl := lv_entry ([.ref qB, .int x1]) (n := 3) (Nat.le_of_ble_eq_true rfl)
  rw [lg_entry_eq]
  generalize (lg_sl ([.ref qB, .int x1]) ++ List.replicate (3 - (lg_sl ([.ref qB, .int x1])).length) Slot.unset).toArray = ls at hl ⊢
  have hl : lv_has ls 3 [(0, .ref qB), (1, .int x1)] := hl
  refine w_abs (fun Wx toX ofX => ?_)
  have K2 : ∀ (x1 : Int32) (n : Nat) (x2 : Int32) (ls : Array Slot), oLoop1 (f_B_takesPointsToPoints_L2  nP bX bY bZ x1) n x2 = some r_ → lv_has ls 3 [(0, .ref qB), (1, .int x1), (2, .int x2)] → Wx s.heap [] 0 0 (F0 m 2 ls []) := by
    intro x1 n
    induction n with
    | zero => intro x2 ls hf; exact (oLoop1_0 hf).elim
    | succ n ih2 =>
      obtain ⟨rec2, hrec2⟩ : ∃ z, z = oLoop1 (f_B_takesPointsToPoints_L2  nP bX bY bZ x1) n := ⟨_, rfl⟩
      rw [← hrec2] at ih2
      intro x2 ls hf hl
      refine toX _ _ _ _ _ ?_
      have hf := oLoop1_s hf
      rw [← hrec2] at hf
      unfold f_B_takesPointsToPoints_L2 at hf
      refine lv_iload_n hx hb d_B_takesPointsToPoints_2 rfl (lv_at hl 2 rfl) ?_
      refine lv_aload_n hx hb d_B_takesPointsToPoints_3 rfl (lv_at hl 0 rfl) ?_
      refine va_get (D := (dC, dI)) (ci := 0) (v := .int nP) (C := R_B) (T := T_B) (N := 10) hx hb ht in_B hown hK hP 0 rfl rfl 3 (by decide) (ht _ m_52) (fun _ h9 => h9) rfl d_B_takesPointsToPoints_4 ?_
      refine lv_icmp_ge (tgt := 28) hx hb d_B_takesPointsToPoints_7 (by decide) (fun c1 => ?_) (fun c1 => ?_)
      · have hf := oIf_t hf c1
        refine lv_iconst (v := 1) hx hb d_B_takesPointsToPoints_28 (by decide) ?_
        cases hf
        exact W.zret (ty := .boolean) hx hb hr rfl (fun t ht hW => ⟨_, rfl, rfl, ht⟩) (fun q h => by cases h) d_B_takesPointsToPoints_29
      · have hf := oIf_f hf c1
        refine lv_aload_n hx hb d_B_takesPointsToPoints_10 rfl (lv_at hl 0 rfl) ?_
        refine lv_iload_n hx hb d_B_takesPointsToPoints_11 rfl (lv_at hl 2 rfl) ?_
        refine lv_iload_n hx hb d_B_takesPointsToPoints_12 rfl (lv_at hl 1 rfl) ?_
        obtain ⟨r2z, hfc, hf⟩ := oCall1_some hf
        have hPc := hP.sub (ws' := (w_B qB qBx qBy qBz qBa qBb qBc qBd qBs cI cJ nP nQ bX bY bZ bA bB bC bD bS)) [0, 1, 2, 3, 4, 5, 6, 7, 8] rfl
        refine vp_callSi (va_runV (As := [.int x2, .int x1]) (rest := []) ⟨hx, hb, hml, hown, ht⟩ (c_B_imageOf l dC dI qB qBx qBy qBz qBa qBb qBc qBd qBs cI cJ cQ nP nQ bX bY bZ bA bB bC bD bS x2 x1 r2z hfc) (cwV 2 ht (gV m_298 m_249 m_250 m_29 m_251) rfl rfl rfl (by decide +kernel) ⟨Nat.le_of_ble_eq_true rfl, Nat.le_of_ble_eq_true rfl⟩) (preRV hPc hK hZ (va_recv hK hPc (ci := 0) (q0 := 0) rfl rfl)) rfl rfl hl.1 rfl (lv_room (Nat.le_of_ble_eq_true rfl)) d_B_takesPointsToPoints_13 ⟨Nat.le_of_ble_eq_true rfl, Nat.le_of_ble_eq_true rfl⟩).run (fun r2 hw => ?_)
        subst hw
        clear hPc hfc
        refine lv_iconst (v := (-1)) hx hb d_B_takesPointsToPoints_16 (by decide) ?_
        refine lv_icmp_ne (tgt := 22) hx hb d_B_takesPointsToPoints_17 (by decide) (fun c3 => ?_) (fun c3 => ?_)
        · have hf := oIf_f hf c3
          obtain ⟨v4, ev4, hf⟩ := oLet_ex hf
          refine lv_iinc (v := v4) (lv' := [(2, .int v4), (0, .ref qB), (1, .int x1)]) hx hb d_B_takesPointsToPoints_22 hl (k := 2) rfl (by rw [ev4]; rfl) (by decide) rfl (fun ls hl => ?_)
          refine lv_goto (tgt := 2) hx hb d_B_takesPointsToPoints_25 (by decide) ?_
          exact ofX _ _ _ _ _ (ih2 v4 _ hf (lv_sub hl [1, 2, 0] rfl))
        · have hf := oIf_t hf c3
          refine lv_iconst (v := 0) hx hb d_B_takesPointsToPoints_20 (by decide) ?_
          cases hf
          exact W.zret (ty := .boolean) hx hb hr rfl (fun t ht hW => ⟨_, rfl, rfl, ht⟩) (fun q h => by cases h) d_B_takesPointsToPoints_21
  refine toX _ _ _ _ _ ?_
  unfold f_B_takesPointsToPoints at hf
  refine lv_iconst (v := 0) hx hb d_B_takesPointsToPoints_0 (by decide) ?_
  refine lv_istore_n (lv' := [(2, .int 0), (0, .ref qB), (1, .int x1)]) hx hb d_B_takesPointsToPoints_1 rfl hl (by decide) rfl (fun ls hl => ?_)
  exact ofX _ _ _ _ _ (K2 x1 _ 0 _ hf (lv_sub hl [1, 2, 0] rfl))
set_option maxHeartbeats 4000000 in
set_option maxRecDepth 100000 in
theorem c_B_isSamePlane (l : Launch) (dC : Nat → ClassId) (dI : Nat → Nat → Nat) (qB qBx qBy qBz qBa qBb qBc qBd qBs : Nat) (cI cJ cQ : ClassId) (nP : Int32) (nQ : Int32) (bX : Nat → Int32) (bY : Nat → Int32) (bZ : Nat → Int32) (bA : Nat → Int32) (bB : Nat → Int32) (bC : Nat → Int32) (bD : Nat → Int32) (bS : Nat → Int64) (x1 : Int32) (x2 : Int32) (x3 : Int32) (x4 : Int32) (x5 : Int32) (r_ : Int32) (hf : f_B_isSamePlane bA bB bC bD x1 x2 x3 x4 x5 = some r_) : Met l y_B_isSamePlane w_B_isSamePlane ({ frames := 0, cells := 0, slots := 0, locals := 0 }) (va_Pc [.ref qB, .int x1, .int x2, .int x3, .int x4, .int x5] (fun U => va_P (dC, dI) vwCl (w_B qB qBx qBy qBz qBa qBb qBc qBd qBs cI cJ nP nQ bX bY bZ bA bB bC bD bS) U.heap ∧ va_K (dC, dI) vwCl [(cI, .int), (cJ, .long), (cQ, .object "CutBodies$Contents")] U ∧ nestZ U)) (vp_Si (fun r9 => r9 = r_)) 0 0 (fun _ => False) := by
  refine Met.ofW (cc := b_B_isSamePlane) (maxL := 6) (ret := (some .boolean)) (by decide) rfl ?_
  intro p e s m args below meth c s₁ B hml hv
  obtain ⟨rfl, hP, hK, hZ⟩ := hv
  have hx := B.exec
  have hb := B.bytes
  have hr := B.returns
  have hts := atoms_spec (ws := w_B_isSamePlane) B.pre
  have ht : ∀ w ∈ wAll, w.before _ s = true := fun w h => hts w (List.mem_cons_of_mem _ h)
  have hown : s.vm.findClass R_B = some m.cls := findClass_of_methodNamed B.named
  have hlocks := B.notSynchronized
  have hP : va_P (dC, dI) vwCl (w_B qB qBx qBy qBz qBa qBb qBc qBd qBs cI cJ nP nQ bX bY bZ bA bB bC bD bS) s.heap := hP
  have hl := lv_entry ([.ref qB, .int x1, .int x2, .int x3, .int x4, .int x5]) (n := 6) (Nat.le_of_ble_eq_true rfl)
  rw [lg_entry_eq]
  generalize (lg_sl ([.ref qB, .int x1, .int x2, .int x3, .int x4, .int x5]) ++ List.replicate (6 - (lg_sl ([.ref qB, .int x1, .int x2, .int x3, .int x4, .int x5])).length) Slot.unset).toArray = ls at hl ⊢
  have hl : lv_has ls 6 [(0, .ref qB), (1, .int x1), (2, .int x2), (3, .int x3), (4, .int x4), (5, .int x5)] := hl
  unfold f_B_isSamePlane at hf
  refine lv_aload_n hx hb d_B_isSamePlane_0 rfl (lv_at hl 0 rfl) ?_
  refine va_get (D := (dC, dI)) (ci := 0) (v := .ref qBa) (C := R_B) (T := T_B) (N := 10) hx hb ht in_B hown hK hP 0 rfl rfl 4 (by decide) (ht _ m_54) (fun _ h9 => h9) rfl d_B_isSamePlane_1 ?_
  refine lv_iload_n hx hb d_B_isSamePlane_4 rfl (lv_at hl 1 rfl) ?_
  obtain ⟨hi1, hf⟩ := oIn_some hf
  refine va_iald hx hb hK hP 4 0 rfl rfl hi1 d_B_isSamePlane_5 ?_
  refine lv_iload_n hx hb d_B_isSamePlane_6 rfl (lv_at hl 3 rfl) ?_
  refine lv_imul hx hb d_B_isSamePlane_7 ?_
  refine lv_aload_n hx hb d_B_isSamePlane_8 rfl (lv_at hl 0 rfl) ?_
  refine va_get (D := (dC, dI)) (ci := 0) (v := .ref qBb) (C := R_B) (T := T_B) (N := 10) hx hb ht in_B hown hK hP 0 rfl rfl 5 (by decide) (ht _ m_55) (fun _ h9 => h9) rfl d_B_isSamePlane_9 ?_
  refine lv_iload_n hx hb d_B_isSamePlane_12 rfl (lv_at hl 1 rfl) ?_
  obtain ⟨hi2, hf⟩ := oIn_some hf
  refine va_iald hx hb hK hP 5 0 rfl rfl hi2 d_B_isSamePlane_13 ?_
  refine lv_iload_n hx hb d_B_isSamePlane_14 rfl (lv_at hl 2 rfl) ?_
  refine lv_imul hx hb d_B_isSamePlane_15 ?_
  refine lv_icmp_ne (tgt := 124) hx hb d_B_isSamePlane_16 (by decide) (fun c3 => ?_) (fun c3 => ?_)
  · have hf := oIf_f hf c3
    refine lv_iconst (v := 0) hx hb d_B_isSamePlane_124 (by decide) ?_
    cases hf
    exact W.zret (ty := .boolean) hx hb hr rfl (fun t ht hW => ⟨_, rfl, rfl, ht⟩) (fun q h => by cases h) d_B_isSamePlane_125
  · have hf := oIf_t hf c3
    refine lv_aload_n hx hb d_B_isSamePlane_19 rfl (lv_at hl 0 rfl) ?_
    refine va_get (D := (dC, dI)) (ci := 0) (v := .ref qBa) (C := R_B) (T := T_B) (N := 10) hx hb ht in_B hown hK hP 0 rfl rfl 4 (by decide) (ht _ m_54) (fun _ h9 => h9) rfl d_B_isSamePlane_20 ?_
    refine lv_iload_n hx hb d_B_isSamePlane_23 rfl (lv_at hl 1 rfl) ?_
    obtain ⟨hi4, hf⟩ := oIn_some hf
    refine va_iald hx hb hK hP 4 0 rfl rfl hi4 d_B_isSamePlane_24 ?_
    refine lv_iload hx hb d_B_isSamePlane_25 (lv_at hl 4 rfl) ?_
    refine lv_imul hx hb d_B_isSamePlane_27 ?_
    refine lv_aload_n hx hb d_B_isSamePlane_28 rfl (lv_at hl 0 rfl) ?_
    refine va_get (D := (dC, dI)) (ci := 0) (v := .ref qBc) (C := R_B) (T := T_B) (N := 10) hx hb ht in_B hown hK hP 0 rfl rfl 6 (by decide) (ht _ m_56) (fun _ h9 => h9) rfl d_B_isSamePlane_29 ?_
    refine lv_iload_n hx hb d_B_isSamePlane_32 rfl (lv_at hl 1 rfl) ?_
    obtain ⟨hi5, hf⟩ := oIn_some hf
    refine va_iald hx hb hK hP 6 0 rfl rfl hi5 d_B_isSamePlane_33 ?_
    refine lv_iload_n hx hb d_B_isSamePlane_34 rfl (lv_at hl 2 rfl) ?_
    refine lv_imul hx hb d_B_isSamePlane_35 ?_
    refine lv_icmp_ne (tgt := 124) hx hb d_B_isSamePlane_36 (by decide) (fun c6 => ?_) (fun c6 => ?_)
    · have hf := oIf_f hf c6
      refine lv_iconst (v := 0) hx hb d_B_isSamePlane_124 (by decide) ?_
      cases hf
      exact W.zret (ty := .boolean) hx hb hr rfl (fun t ht hW => ⟨_, rfl, rfl, ht⟩) (fun q h => by cases h) d_B_isSamePlane_125
    · have hf := oIf_t hf c6
      refine lv_aload_n hx hb d_B_isSamePlane_39 rfl (lv_at hl 0 rfl) ?_
      refine va_get (D := (dC, dI)) (ci := 0) (v := .ref qBb) (C := R_B) (T := T_B) (N := 10) hx hb ht in_B hown hK hP 0 rfl rfl 5 (by decide) (ht _ m_55) (fun _ h9 => h9) rfl d_B_isSamePlane_40 ?_
      refine lv_iload_n hx hb d_B_isSamePlane_43 rfl (lv_at hl 1 rfl) ?_
      obtain ⟨hi7, hf⟩ := oIn_some hf
      refine va_iald hx hb hK hP 5 0 rfl rfl hi7 d_B_isSamePlane_44 ?_
      refine lv_iload hx hb d_B_isSamePlane_45 (lv_at hl 4 rfl) ?_
      refine lv_imul hx hb d_B_isSamePlane_47 ?_
      refine lv_aload_n hx hb d_B_isSamePlane_48 rfl (lv_at hl 0 rfl) ?_
      refine va_get (D := (dC, dI)) (ci := 0) (v := .ref qBc) (C := R_B) (T := T_B) (N := 10) hx hb ht in_B hown hK hP 0 rfl rfl 6 (by decide) (ht _ m_56) (fun _ h9 => h9) rfl d_B_isSamePlane_49 ?_
      refine lv_iload_n hx hb d_B_isSamePlane_52 rfl (lv_at hl 1 rfl) ?_
      obtain ⟨hi8, hf⟩ := oIn_some hf
      refine va_iald hx hb hK hP 6 0 rfl rfl hi8 d_B_isSamePlane_53 ?_
      refine lv_iload_n hx hb d_B_isSamePlane_54 rfl (lv_at hl 3 rfl) ?_
      refine lv_imul hx hb d_B_isSamePlane_55 ?_
      refine lv_icmp_ne (tgt := 124) hx hb d_B_isSamePlane_56 (by decide) (fun c9 => ?_) (fun c9 => ?_)
      · have hf := oIf_f hf c9
        refine lv_iconst (v := 0) hx hb d_B_isSamePlane_124 (by decide) ?_
        cases hf
        exact W.zret (ty := .boolean) hx hb hr rfl (fun t ht hW => ⟨_, rfl, rfl, ht⟩) (fun q h => by cases h) d_B_isSamePlane_125
      · have hf := oIf_t hf c9
        refine lv_aload_n hx hb d_B_isSamePlane_59 rfl (lv_at hl 0 rfl) ?_
        refine va_get (D := (dC, dI)) (ci := 0) (v := .ref qBa) (C := R_B) (T := T_B) (N := 10) hx hb ht in_B hown hK hP 0 rfl rfl 4 (by decide) (ht _ m_54) (fun _ h9 => h9) rfl d_B_isSamePlane_60 ?_
        refine lv_iload_n hx hb d_B_isSamePlane_63 rfl (lv_at hl 1 rfl) ?_
        obtain ⟨hi10, hf⟩ := oIn_some hf
        refine va_iald hx hb hK hP 4 0 rfl rfl hi10 d_B_isSamePlane_64 ?_
        refine lv_iload hx hb d_B_isSamePlane_65 (lv_at hl 5 rfl) ?_
        refine lv_imul hx hb d_B_isSamePlane_67 ?_
        refine lv_aload_n hx hb d_B_isSamePlane_68 rfl (lv_at hl 0 rfl) ?_
        refine va_get (D := (dC, dI)) (ci := 0) (v := .ref qBd) (C := R_B) (T := T_B) (N := 10) hx hb ht in_B hown hK hP 0 rfl rfl 7 (by decide) (ht _ m_57) (fun _ h9 => h9) rfl d_B_isSamePlane_69 ?_
        refine lv_iload_n hx hb d_B_isSamePlane_72 rfl (lv_at hl 1 rfl) ?_
        obtain ⟨hi11, hf⟩ := oIn_some hf
        refine va_iald hx hb hK hP 7 0 rfl rfl hi11 d_B_isSamePlane_73 ?_
        refine lv_iload_n hx hb d_B_isSamePlane_74 rfl (lv_at hl 2 rfl) ?_
        refine lv_imul hx hb d_B_isSamePlane_75 ?_
        refine lv_icmp_ne (tgt := 124) hx hb d_B_isSamePlane_76 (by decide) (fun c12 => ?_) (fun c12 => ?_)
        · have hf := oIf_f hf c12
          refine lv_iconst (v := 0) hx hb d_B_isSamePlane_124 (by decide) ?_
          cases hf
          exact W.zret (ty := .boolean) hx hb hr rfl (fun t ht hW => ⟨_, rfl, rfl, ht⟩) (fun q h => by cases h) d_B_isSamePlane_125
        · have hf := oIf_t hf c12
          refine lv_aload_n hx hb d_B_isSamePlane_79 rfl (lv_at hl 0 rfl) ?_
          refine va_get (D := (dC, dI)) (ci := 0) (v := .ref qBb) (C := R_B) (T := T_B) (N := 10) hx hb ht in_B hown hK hP 0 rfl rfl 5 (by decide) (ht _ m_55) (fun _ h9 => h9) rfl d_B_isSamePlane_80 ?_
          refine lv_iload_n hx hb d_B_isSamePlane_83 rfl (lv_at hl 1 rfl) ?_
          obtain ⟨hi13, hf⟩ := oIn_some hf
          refine va_iald hx hb hK hP 5 0 rfl rfl hi13 d_B_isSamePlane_84 ?_
          refine lv_iload hx hb d_B_isSamePlane_85 (lv_at hl 5 rfl) ?_
          refine lv_imul hx hb d_B_isSamePlane_87 ?_
          refine lv_aload_n hx hb d_B_isSamePlane_88 rfl (lv_at hl 0 rfl) ?_
          refine va_get (D := (dC, dI)) (ci := 0) (v := .ref qBd) (C := R_B) (T := T_B) (N := 10) hx hb ht in_B hown hK hP 0 rfl rfl 7 (by decide) (ht _ m_57) (fun _ h9 => h9) rfl d_B_isSamePlane_89 ?_
          refine lv_iload_n hx hb d_B_isSamePlane_92 rfl (lv_at hl 1 rfl) ?_
          obtain ⟨hi14, hf⟩ := oIn_some hf
          refine va_iald hx hb hK hP 7 0 rfl rfl hi14 d_B_isSamePlane_93 ?_
          refine lv_iload_n hx hb d_B_isSamePlane_94 rfl (lv_at hl 3 rfl) ?_
          refine lv_imul hx hb d_B_isSamePlane_95 ?_
          refine lv_icmp_ne (tgt := 124) hx hb d_B_isSamePlane_96 (by decide) (fun c15 => ?_) (fun c15 => ?_)
          · have hf := oIf_f hf c15
            refine lv_iconst (v := 0) hx hb d_B_isSamePlane_124 (by decide) ?_
            cases hf
            exact W.zret (ty := .boolean) hx hb hr rfl (fun t ht hW => ⟨_, rfl, rfl, ht⟩) (fun q h => by cases h) d_B_isSamePlane_125
          · have hf := oIf_t hf c15
            refine lv_aload_n hx hb d_B_isSamePlane_99 rfl (lv_at hl 0 rfl) ?_
            refine va_get (D := (dC, dI)) (ci := 0) (v := .ref qBc) (C := R_B) (T := T_B) (N := 10) hx hb ht in_B hown hK hP 0 rfl rfl 6 (by decide) (ht _ m_56) (fun _ h9 => h9) rfl d_B_isSamePlane_100 ?_
            refine lv_iload_n hx hb d_B_isSamePlane_103 rfl (lv_at hl 1 rfl) ?_
            obtain ⟨hi16, hf⟩ := oIn_some hf
            refine va_iald hx hb hK hP 6 0 rfl rfl hi16 d_B_isSamePlane_104 ?_
            refine lv_iload hx hb d_B_isSamePlane_105 (lv_at hl 5 rfl) ?_
            refine lv_imul hx hb d_B_isSamePlane_107 ?_
            refine lv_aload_n hx hb d_B_isSamePlane_108 rfl (lv_at hl 0 rfl) ?_
            refine va_get (D := (dC, dI)) (ci := 0) (v := .ref qBd) (C := R_B) (T := T_B) (N := 10) hx hb ht in_B hown hK hP 0 rfl rfl 7 (by decide) (ht _ m_57) (fun _ h9 => h9) rfl d_B_isSamePlane_109 ?_
            refine lv_iload_n hx hb d_B_isSamePlane_112 rfl (lv_at hl 1 rfl) ?_
            obtain ⟨hi17, hf⟩ := oIn_some hf
            refine va_iald hx hb hK hP 7 0 rfl rfl hi17 d_B_isSamePlane_113 ?_
            refine lv_iload hx hb d_B_isSamePlane_114 (lv_at hl 4 rfl) ?_
            refine lv_imul hx hb d_B_isSamePlane_116 ?_
            refine lv_icmp_ne (tgt := 124) hx hb d_B_isSamePlane_117 (by decide) (fun c18 => ?_) (fun c18 => ?_)
            · have hf := oIf_f hf c18
              refine lv_iconst (v := 0) hx hb d_B_isSamePlane_124 (by decide) ?_
              cases hf
              exact W.zret (ty := .boolean) hx hb hr rfl (fun t ht hW => ⟨_, rfl, rfl, ht⟩) (fun q h => by cases h) d_B_isSamePlane_125
            · have hf := oIf_t hf c18
              refine lv_iconst (v := 1) hx hb d_B_isSamePlane_120 (by decide) ?_
              refine lv_goto (tgt := 125) hx hb d_B_isSamePlane_121 (by decide) ?_
              cases hf
              exact W.zret (ty := .boolean) hx hb hr rfl (fun t ht hW => ⟨_, rfl, rfl, ht⟩) (fun q h => by cases h) d_B_isSamePlane_125
set_option maxHeartbeats 4000000 in
set_option maxRecDepth 100000 in
theorem c_B_hasPlaneWhere (l : Launch) (dC : Nat → ClassId) (dI : Nat → Nat → Nat) (qB qBx qBy qBz qBa qBb qBc qBd qBs : Nat) (cI cJ cQ : ClassId) (nP : Int32) (nQ : Int32) (bX : Nat → Int32) (bY : Nat → Int32) (bZ : Nat → Int32) (bA : Nat → Int32) (bB : Nat → Int32) (bC : Nat → Int32) (bD : Nat → Int32) (bS : Nat → Int64) (x1 : Int32) (x2 : Int32) (x3 : Int32) (x4 : Int32) (r_ : Int32) (hf : f_B_hasPlaneWhere nQ bA bB bC bD x1 x2 x3 x4 = some r_) : Met l y_B_hasPlaneWhere w_B_hasPlaneWhere ({ frames := 1, cells := 0, slots := 0, locals := 25 }) (va_Pc [.ref qB, .int x1, .int x2, .int x3, .int x4] (fun U => va_P (dC, dI) vwCl (w_B qB qBx qBy qBz qBa qBb qBc qBd qBs cI cJ nP nQ bX bY bZ bA bB bC bD bS) U.heap ∧ va_K (dC, dI) vwCl [(cI, .int), (cJ, .long), (cQ, .object "CutBodies$Contents")] U ∧ nestZ U)) (vp_Si (fun r9 => r9 = r_)) 0 0 (fun _ => False) := by
  refine Met.ofW (cc := b_B_hasPlaneWhere) (maxL := 6) (ret := (some .boolean)) (by decide) rfl ?_
  intro p e s m args below meth c s₁ B hml hv
  obtain ⟨rfl, hP, hK, hZ⟩ := hv
  have hx := B.exec
  have hb := B.bytes
  have hr := B.returns
  have hts := atoms_spec (ws := w_B_hasPlaneWhere) B.pre
  have ht : ∀ w ∈ wAll, w.before _ s = true := fun w h => hts w (List.mem_cons_of_mem _ h)
  have hown : s.vm.findClass R_B = some m.cls := findClass_of_methodNamed B.named
  have hlocks := B.notSynchronized
  have hP : va_P (dC, dI) vwCl (w_B qB qBx qBy qBz qBa qBb qBc qBd qBs cI cJ nP nQ bX bY bZ bA bB bC bD bS) s.heap := hP
  have hl := lv_entry ([.ref qB, .int x1, .int x2, .int x3, .int x4]) (n := 6) (Nat.le_of_ble_eq_true rfl)
  rw [lg_entry_eq]
  generalize (lg_sl ([.ref qB, .int x1, .int x2, .int x3, .int x4]) ++ List.replicate (6 - (lg_sl ([.ref qB, .int x1, .int x2, .int x3, .int x4])).length) Slot.unset).toArray = ls at hl ⊢
  have hl : lv_has ls 6 [(0, .ref qB), (1, .int x1), (2, .int x2), (3, .int x3), (4, .int x4)] := hl
  refine w_abs (fun Wx toX ofX => ?_)
  have K3 : ∀ (x1 : Int32) (x2 : Int32) (x3 : Int32) (x4 : Int32) (n : Nat) (x5 : Int32) (ls : Array Slot), oLoop1 (f_B_hasPlaneWhere_L3  nQ bA bB bC bD x1 x2 x3 x4) n x5 = some r_ → lv_has ls 6 [(0, .ref qB), (1, .int x1), (2, .int x2), (3, .int x3), (4, .int x4), (5, .int x5)] → Wx s.heap [] 0 0 (F0 m 3 ls []) := by
    intro x1 x2 x3 x4 n
    induction n with
    | zero => intro x5 ls hf; exact (oLoop1_0 hf).elim
    | succ n ih3 =>
      obtain ⟨rec3, hrec3⟩ : ∃ z, z = oLoop1 (f_B_hasPlaneWhere_L3  nQ bA bB bC bD x1 x2 x3 x4) n := ⟨_, rfl⟩
      rw [← hrec3] at ih3
      intro x5 ls hf hl
      refine toX _ _ _ _ _ ?_
      have hf := oLoop1_s hf
      rw [← hrec3] at hf
      unfold f_B_hasPlaneWhere_L3 at hf
      refine lv_iload hx hb d_B_hasPlaneWhere_3 (lv_at hl 5 rfl) ?_
      refine lv_aload_n hx hb d_B_hasPlaneWhere_5 rfl (lv_at hl 0 rfl) ?_
      refine va_get (D := (dC, dI)) (ci := 0) (v := .int nQ) (C := R_B) (T := T_B) (N := 10) hx hb ht in_B hown hK hP 0 rfl rfl 8 (by decide) (ht _ m_58) (fun _ h9 => h9) rfl d_B_hasPlaneWhere_6 ?_
      refine lv_icmp_ge (tgt := 34) hx hb d_B_hasPlaneWhere_9 (by decide) (fun c1 => ?_) (fun c1 => ?_)
      · have hf := oIf_t hf c1
        refine lv_iconst (v := 0) hx hb d_B_hasPlaneWhere_34 (by decide) ?_
        cases hf
        exact W.zret (ty := .boolean) hx hb hr rfl (fun t ht hW => ⟨_, rfl, rfl, ht⟩) (fun q h => by cases h) d_B_hasPlaneWhere_35
      · have hf := oIf_f hf c1
        refine lv_aload_n hx hb d_B_hasPlaneWhere_12 rfl (lv_at hl 0 rfl) ?_
        refine lv_iload hx hb d_B_hasPlaneWhere_13 (lv_at hl 5 rfl) ?_
        refine lv_iload_n hx hb d_B_hasPlaneWhere_15 rfl (lv_at hl 1 rfl) ?_
        refine lv_iload_n hx hb d_B_hasPlaneWhere_16 rfl (lv_at hl 2 rfl) ?_
        refine lv_iload_n hx hb d_B_hasPlaneWhere_17 rfl (lv_at hl 3 rfl) ?_
        refine lv_iload hx hb d_B_hasPlaneWhere_18 (lv_at hl 4 rfl) ?_
        obtain ⟨r2z, hfc, hf⟩ := oCall1_some hf
        have hPc := hP.sub (ws' := (w_B qB qBx qBy qBz qBa qBb qBc qBd qBs cI cJ nP nQ bX bY bZ bA bB bC bD bS)) [0, 1, 2, 3, 4, 5, 6, 7, 8] rfl
        refine vp_callSi (va_runV (As := [.int x5, .int x1, .int x2, .int x3, .int x4]) (rest := []) ⟨hx, hb, hml, hown, ht⟩ (c_B_isSamePlane l dC dI qB qBx qBy qBz qBa qBb qBc qBd qBs cI cJ cQ nP nQ bX bY bZ bA bB bC bD bS x5 x1 x2 x3 x4 r2z hfc) (cwV 5 ht (gV m_307 m_309 m_5 m_29 m_310) rfl rfl rfl (by decide +kernel) ⟨Nat.le_of_ble_eq_true rfl, Nat.le_of_ble_eq_true rfl⟩) (preRV hPc hK hZ (va_recv hK hPc (ci := 0) (q0 := 0) rfl rfl)) rfl rfl hl.1 rfl (lv_room (Nat.le_of_ble_eq_true rfl)) d_B_hasPlaneWhere_20 ⟨Nat.le_of_ble_eq_true rfl, Nat.le_of_ble_eq_true rfl⟩).run (fun r2 hw => ?_)
        subst hw
        clear hPc hfc
        refine lv_if_eq (tgt := 28) hx hb d_B_hasPlaneWhere_23 (by decide) (fun c3 => ?_) (fun c3 => ?_)
        · have hf := oIf_t hf c3
          obtain ⟨v4, ev4, hf⟩ := oLet_ex hf
          refine lv_iinc (v := v4) (lv' := [(5, .int v4), (0, .ref qB), (1, .int x1), (2, .int x2), (3, .int x3), (4, .int x4)]) hx hb d_B_hasPlaneWhere_28 hl (k := 5) rfl (by rw [ev4]; rfl) (by decide) rfl (fun ls hl => ?_)
          refine lv_goto (tgt := 3) hx hb d_B_hasPlaneWhere_31 (by decide) ?_
          exact ofX _ _ _ _ _ (ih3 v4 _ hf (lv_sub hl [1, 2, 3, 4, 5, 0] rfl))
        · have hf := oIf_f hf c3
          refine lv_iconst (v := 1) hx hb d_B_hasPlaneWhere_26 (by decide) ?_
          cases hf
          exact W.zret (ty := .boolean) hx hb hr rfl (fun t ht hW => ⟨_, rfl, rfl, ht⟩) (fun q h => by cases h) d_B_hasPlaneWhere_27
  refine toX _ _ _ _ _ ?_
  unfold f_B_hasPlaneWhere at hf
  refine lv_iconst (v := 0) hx hb d_B_hasPlaneWhere_0 (by decide) ?_
  refine lv_istore (lv' := [(5, .int 0), (0, .ref qB), (1, .int x1), (2, .int x2), (3, .int x3), (4, .int x4)]) hx hb d_B_hasPlaneWhere_1 hl (by decide) rfl (fun ls hl => ?_)
  exact ofX _ _ _ _ _ (K3 x1 x2 x3 x4 _ 0 _ hf (lv_sub hl [1, 2, 3, 4, 5, 0] rfl))
set_option maxHeartbeats 4000000 in
set_option maxRecDepth 100000 in
theorem c_B_takesPlanesToPlanes (l : Launch) (dC : Nat → ClassId) (dI : Nat → Nat → Nat) (qB qBx qBy qBz qBa qBb qBc qBd qBs : Nat) (cI cJ cQ : ClassId) (nP : Int32) (nQ : Int32) (bX : Nat → Int32) (bY : Nat → Int32) (bZ : Nat → Int32) (bA : Nat → Int32) (bB : Nat → Int32) (bC : Nat → Int32) (bD : Nat → Int32) (bS : Nat → Int64) (x1 : Int32) (r_ : Int32) (hf : f_B_takesPlanesToPlanes nQ bA bB bC bD x1 = some r_) : Met l y_B_takesPlanesToPlanes w_B_takesPlanesToPlanes ({ frames := 2, cells := 0, slots := 0, locals := 50 }) (va_Pc [.ref qB, .int x1] (fun U => va_P (dC, dI) vwCl (w_B qB qBx qBy qBz qBa qBb qBc qBd qBs cI cJ nP nQ bX bY bZ bA bB bC bD bS) U.heap ∧ va_K (dC, dI) vwCl [(cI, .int), (cJ, .long), (cQ, .object "CutBodies$Contents")] U ∧ nestZ U)) (vp_Si (fun r9 => r9 = r_)) 0 0 (fun _ => False) := by
  refine Met.ofW (cc := b_B_takesPlanesToPlanes) (maxL := 6) (ret := (some .boolean)) (by decide) rfl ?_
  intro p e s m args below meth c s₁ B hml hv
  obtain ⟨rfl, hP, hK, hZ⟩ := hv
  have hx := B.exec
  have hb := B.bytes
  have hr := B.returns
  have hts := atoms_spec (ws := w_B_takesPlanesToPlanes) B.pre
  have ht : ∀ w ∈ wAll, w.before _ s = true := fun w h => hts w (List.mem_cons_of_mem _ h)
  have hown : s.vm.findClass R_B = some m.cls := findClass_of_methodNamed B.named
  have hlocks := B.notSynchronized
  have hP : va_P (dC, dI) vwCl (w_B qB qBx qBy qBz qBa qBb qBc qBd qBs cI cJ nP nQ bX bY bZ bA bB bC bD bS) s.heap := hP
  have hl := lv_entry ([.ref qB, .int x1]) (n := 6) (Nat.le_of_ble_eq_true rfl)
  rw [lg_entry_eq]
  generalize (lg_sl ([.ref qB, .int x1]) ++ List.replicate (6 - (lg_sl ([.ref qB, .int x1])).length) Slot.unset).toArray = ls at hl ⊢
  have hl : lv_has ls 6 [(0, .ref qB), (1, .int x1)] := hl
  refine w_abs (fun Wx toX ofX => ?_)
  have K2 : ∀ (x1 : Int32) (n : Nat) (x2 : Int32) (ls : Array Slot), oLoop1 (f_B_takesPlanesToPlanes_L2  nQ bA bB bC bD x1) n x2 = some r_ → lv_has ls 6 [(0, .ref qB), (1, .int x1), (2, .int x2)] → Wx s.heap [] 0 0 (F0 m 2 ls []) := by
    intro x1 n
    induction n with
    | zero => intro x2 ls hf; exact (oLoop1_0 hf).elim
    | succ n ih2 =>
      obtain ⟨rec2, hrec2⟩ : ∃ z, z = oLoop1 (f_B_takesPlanesToPlanes_L2  nQ bA bB bC bD x1) n := ⟨_, rfl⟩
      rw [← hrec2] at ih2
      intro x2 ls hf hl
      refine toX _ _ _ _ _ ?_
      have hf := oLoop1_s hf
      rw [← hrec2] at hf
      unfold f_B_takesPlanesToPlanes_L2 at hf
      refine lv_iload_n hx hb d_B_takesPlanesToPlanes_2 rfl (lv_at hl 2 rfl) ?_
      refine lv_aload_n hx hb d_B_takesPlanesToPlanes_3 rfl (lv_at hl 0 rfl) ?_
      refine va_get (D := (dC, dI)) (ci := 0) (v := .int nQ) (C := R_B) (T := T_B) (N := 10) hx hb ht in_B hown hK hP 0 rfl rfl 8 (by decide) (ht _ m_58) (fun _ h9 => h9) rfl d_B_takesPlanesToPlanes_4 ?_
      refine lv_icmp_ge (tgt := 110) hx hb d_B_takesPlanesToPlanes_7 (by decide) (fun c1 => ?_) (fun c1 => ?_)
      · have hf := oIf_t hf c1
        refine lv_iconst (v := 1) hx hb d_B_takesPlanesToPlanes_110 (by decide) ?_
        cases hf
        exact W.zret (ty := .boolean) hx hb hr rfl (fun t ht hW => ⟨_, rfl, rfl, ht⟩) (fun q h => by cases h) d_B_takesPlanesToPlanes_111
      · have hf := oIf_f hf c1
        refine lv_iload_n hx hb d_B_takesPlanesToPlanes_10 rfl (lv_at hl 1 rfl) ?_
        refine lv_iconst (v := 0) hx hb d_B_takesPlanesToPlanes_11 (by decide) ?_
        refine lv_aload_n hx hb d_B_takesPlanesToPlanes_12 rfl (lv_at hl 0 rfl) ?_
        refine va_get (D := (dC, dI)) (ci := 0) (v := .ref qBa) (C := R_B) (T := T_B) (N := 10) hx hb ht in_B hown hK hP 0 rfl rfl 4 (by decide) (ht _ m_54) (fun _ h9 => h9) rfl d_B_takesPlanesToPlanes_13 ?_
        refine lv_iload_n hx hb d_B_takesPlanesToPlanes_16 rfl (lv_at hl 2 rfl) ?_
        obtain ⟨hi2, hf⟩ := oIn_some hf
        refine va_iald hx hb hK hP 4 0 rfl rfl hi2 d_B_takesPlanesToPlanes_17 ?_
        refine lv_aload_n hx hb d_B_takesPlanesToPlanes_18 rfl (lv_at hl 0 rfl) ?_
        refine va_get (D := (dC, dI)) (ci := 0) (v := .ref qBb) (C := R_B) (T := T_B) (N := 10) hx hb ht in_B hown hK hP 0 rfl rfl 5 (by decide) (ht _ m_55) (fun _ h9 => h9) rfl d_B_takesPlanesToPlanes_19 ?_
        refine lv_iload_n hx hb d_B_takesPlanesToPlanes_22 rfl (lv_at hl 2 rfl) ?_
        obtain ⟨hi3, hf⟩ := oIn_some hf
        refine va_iald hx hb hK hP 5 0 rfl rfl hi3 d_B_takesPlanesToPlanes_23 ?_
        refine lv_aload_n hx hb d_B_takesPlanesToPlanes_24 rfl (lv_at hl 0 rfl) ?_
        refine va_get (D := (dC, dI)) (ci := 0) (v := .ref qBc) (C := R_B) (T := T_B) (N := 10) hx hb ht in_B hown hK hP 0 rfl rfl 6 (by decide) (ht _ m_56) (fun _ h9 => h9) rfl d_B_takesPlanesToPlanes_25 ?_
        refine lv_iload_n hx hb d_B_takesPlanesToPlanes_28 rfl (lv_at hl 2 rfl) ?_
        obtain ⟨hi4, hf⟩ := oIn_some hf
        refine va_iald hx hb hK hP 6 0 rfl rfl hi4 d_B_takesPlanesToPlanes_29 ?_
        obtain ⟨r5z, hfc, hf⟩ := oCall1_some hf
        have hPc := hP.sub (ws' := []) [] rfl
        refine vp_callSi (va_runS (As := [.int x1, .int 0, .int (bA x2.toNatClampNeg), .int (bB x2.toNatClampNeg), .int (bC x2.toNatClampNeg)]) (rest := []) ⟨hx, hb, hml, hown, ht⟩ (c_W_coordinate l dC dI cI cJ cQ x1 0 (bA x2.toNatClampNeg) (bB x2.toNatClampNeg) (bC x2.toNatClampNeg) r5z hfc) (va_cwS 5 ht (gS m_252 m_253 m_33 m_254) rfl rfl rfl (by decide +kernel) ⟨Nat.le_of_ble_eq_true rfl, Nat.le_of_ble_eq_true rfl⟩) (preR hPc hK hZ) rfl rfl hl.1 rfl (lv_room (Nat.le_of_ble_eq_true rfl)) d_B_takesPlanesToPlanes_30 ⟨Nat.le_of_ble_eq_true rfl, Nat.le_of_ble_eq_true rfl⟩).run (fun r5 hw => ?_)
        subst hw
        clear hPc hfc
        refine lv_istore_n (lv' := [(3, .int r5), (0, .ref qB), (1, .int x1), (2, .int x2)]) hx hb d_B_takesPlanesToPlanes_33 rfl hl (by decide) rfl (fun ls hl => ?_)
        refine lv_iload_n hx hb d_B_takesPlanesToPlanes_34 rfl (lv_at hl 2 rfl) ?_
        refine lv_iconst (v := 1) hx hb d_B_takesPlanesToPlanes_35 (by decide) ?_
        refine lv_aload_n hx hb d_B_takesPlanesToPlanes_36 rfl (lv_at hl 1 rfl) ?_
        refine va_get (D := (dC, dI)) (ci := 0) (v := .ref qBa) (C := R_B) (T := T_B) (N := 10) hx hb ht in_B hown hK hP 0 rfl rfl 4 (by decide) (ht _ m_54) (fun _ h9 => h9) rfl d_B_takesPlanesToPlanes_37 ?_
        refine lv_iload_n hx hb d_B_takesPlanesToPlanes_40 rfl (lv_at hl 3 rfl) ?_
        obtain ⟨hi6, hf⟩ := oIn_some hf
        refine va_iald hx hb hK hP 4 0 rfl rfl hi6 d_B_takesPlanesToPlanes_41 ?_
        refine lv_aload_n hx hb d_B_takesPlanesToPlanes_42 rfl (lv_at hl 1 rfl) ?_
        refine va_get (D := (dC, dI)) (ci := 0) (v := .ref qBb) (C := R_B) (T := T_B) (N := 10) hx hb ht in_B hown hK hP 0 rfl rfl 5 (by decide) (ht _ m_55) (fun _ h9 => h9) rfl d_B_takesPlanesToPlanes_43 ?_
        refine lv_iload_n hx hb d_B_takesPlanesToPlanes_46 rfl (lv_at hl 3 rfl) ?_
        obtain ⟨hi7, hf⟩ := oIn_some hf
        refine va_iald hx hb hK hP 5 0 rfl rfl hi7 d_B_takesPlanesToPlanes_47 ?_
        refine lv_aload_n hx hb d_B_takesPlanesToPlanes_48 rfl (lv_at hl 1 rfl) ?_
        refine va_get (D := (dC, dI)) (ci := 0) (v := .ref qBc) (C := R_B) (T := T_B) (N := 10) hx hb ht in_B hown hK hP 0 rfl rfl 6 (by decide) (ht _ m_56) (fun _ h9 => h9) rfl d_B_takesPlanesToPlanes_49 ?_
        refine lv_iload_n hx hb d_B_takesPlanesToPlanes_52 rfl (lv_at hl 3 rfl) ?_
        obtain ⟨hi8, hf⟩ := oIn_some hf
        refine va_iald hx hb hK hP 6 0 rfl rfl hi8 d_B_takesPlanesToPlanes_53 ?_
        obtain ⟨r9z, hfc, hf⟩ := oCall1_some hf
        have hPc := hP.sub (ws' := []) [] rfl
        refine vp_callSi (va_runS (As := [.int x1, .int 1, .int (bA x2.toNatClampNeg), .int (bB x2.toNatClampNeg), .int (bC x2.toNatClampNeg)]) (rest := []) ⟨hx, hb, hml, hown, ht⟩ (c_W_coordinate l dC dI cI cJ cQ x1 1 (bA x2.toNatClampNeg) (bB x2.toNatClampNeg) (bC x2.toNatClampNeg) r9z hfc) (va_cwS 5 ht (gS m_252 m_253 m_33 m_254) rfl rfl rfl (by decide +kernel) ⟨Nat.le_of_ble_eq_true rfl, Nat.le_of_ble_eq_true rfl⟩) (preR hPc hK hZ) rfl rfl hl.1 rfl (lv_room (Nat.le_of_ble_eq_true rfl)) d_B_takesPlanesToPlanes_54 ⟨Nat.le_of_ble_eq_true rfl, Nat.le_of_ble_eq_true rfl⟩).run (fun r9 hw => ?_)
        subst hw
        clear hPc hfc
        refine lv_istore (lv' := [(4, .int r9), (3, .int r5), (0, .ref qB), (1, .int x1), (2, .int x2)]) hx hb d_B_takesPlanesToPlanes_57 hl (by decide) rfl (fun ls hl => ?_)
        refine lv_iload_n hx hb d_B_takesPlanesToPlanes_59 rfl (lv_at hl 3 rfl) ?_
        refine lv_iconst (v := 2) hx hb d_B_takesPlanesToPlanes_60 (by decide) ?_
        refine lv_aload_n hx hb d_B_takesPlanesToPlanes_61 rfl (lv_at hl 2 rfl) ?_
        refine va_get (D := (dC, dI)) (ci := 0) (v := .ref qBa) (C := R_B) (T := T_B) (N := 10) hx hb ht in_B hown hK hP 0 rfl rfl 4 (by decide) (ht _ m_54) (fun _ h9 => h9) rfl d_B_takesPlanesToPlanes_62 ?_
        refine lv_iload_n hx hb d_B_takesPlanesToPlanes_65 rfl (lv_at hl 4 rfl) ?_
        obtain ⟨hi10, hf⟩ := oIn_some hf
        refine va_iald hx hb hK hP 4 0 rfl rfl hi10 d_B_takesPlanesToPlanes_66 ?_
        refine lv_aload_n hx hb d_B_takesPlanesToPlanes_67 rfl (lv_at hl 2 rfl) ?_
        refine va_get (D := (dC, dI)) (ci := 0) (v := .ref qBb) (C := R_B) (T := T_B) (N := 10) hx hb ht in_B hown hK hP 0 rfl rfl 5 (by decide) (ht _ m_55) (fun _ h9 => h9) rfl d_B_takesPlanesToPlanes_68 ?_
        refine lv_iload_n hx hb d_B_takesPlanesToPlanes_71 rfl (lv_at hl 4 rfl) ?_
        obtain ⟨hi11, hf⟩ := oIn_some hf
        refine va_iald hx hb hK hP 5 0 rfl rfl hi11 d_B_takesPlanesToPlanes_72 ?_
        refine lv_aload_n hx hb d_B_takesPlanesToPlanes_73 rfl (lv_at hl 2 rfl) ?_
        refine va_get (D := (dC, dI)) (ci := 0) (v := .ref qBc) (C := R_B) (T := T_B) (N := 10) hx hb ht in_B hown hK hP 0 rfl rfl 6 (by decide) (ht _ m_56) (fun _ h9 => h9) rfl d_B_takesPlanesToPlanes_74 ?_
        refine lv_iload_n hx hb d_B_takesPlanesToPlanes_77 rfl (lv_at hl 4 rfl) ?_
        obtain ⟨hi12, hf⟩ := oIn_some hf
        refine va_iald hx hb hK hP 6 0 rfl rfl hi12 d_B_takesPlanesToPlanes_78 ?_
        obtain ⟨r13z, hfc, hf⟩ := oCall1_some hf
        have hPc := hP.sub (ws' := []) [] rfl
        refine vp_callSi (va_runS (As := [.int x1, .int 2, .int (bA x2.toNatClampNeg), .int (bB x2.toNatClampNeg), .int (bC x2.toNatClampNeg)]) (rest := []) ⟨hx, hb, hml, hown, ht⟩ (c_W_coordinate l dC dI cI cJ cQ x1 2 (bA x2.toNatClampNeg) (bB x2.toNatClampNeg) (bC x2.toNatClampNeg) r13z hfc) (va_cwS 5 ht (gS m_252 m_253 m_33 m_254) rfl rfl rfl (by decide +kernel) ⟨Nat.le_of_ble_eq_true rfl, Nat.le_of_ble_eq_true rfl⟩) (preR hPc hK hZ) rfl rfl hl.1 rfl (lv_room (Nat.le_of_ble_eq_true rfl)) d_B_takesPlanesToPlanes_79 ⟨Nat.le_of_ble_eq_true rfl, Nat.le_of_ble_eq_true rfl⟩).run (fun r13 hw => ?_)
        subst hw
        clear hPc hfc
        refine lv_istore (lv' := [(5, .int r13), (4, .int r9), (3, .int r5), (0, .ref qB), (1, .int x1), (2, .int x2)]) hx hb d_B_takesPlanesToPlanes_82 hl (by decide) rfl (fun ls hl => ?_)
        refine lv_aload_n hx hb d_B_takesPlanesToPlanes_84 rfl (lv_at hl 3 rfl) ?_
        refine lv_iload_n hx hb d_B_takesPlanesToPlanes_85 rfl (lv_at hl 2 rfl) ?_
        refine lv_iload hx hb d_B_takesPlanesToPlanes_86 (lv_at hl 1 rfl) ?_
        refine lv_iload hx hb d_B_takesPlanesToPlanes_88 (lv_at hl 0 rfl) ?_
        refine lv_aload_n hx hb d_B_takesPlanesToPlanes_90 rfl (lv_at hl 3 rfl) ?_
        refine va_get (D := (dC, dI)) (ci := 0) (v := .ref qBd) (C := R_B) (T := T_B) (N := 10) hx hb ht in_B hown hK hP 0 rfl rfl 7 (by decide) (ht _ m_57) (fun _ h9 => h9) rfl d_B_takesPlanesToPlanes_91 ?_
        refine lv_iload_n hx hb d_B_takesPlanesToPlanes_94 rfl (lv_at hl 5 rfl) ?_
        obtain ⟨hi14, hf⟩ := oIn_some hf
        refine va_iald hx hb hK hP 7 0 rfl rfl hi14 d_B_takesPlanesToPlanes_95 ?_
        obtain ⟨r15z, hfc, hf⟩ := oCall1_some hf
        have hPc := hP.sub (ws' := (w_B qB qBx qBy qBz qBa qBb qBc qBd qBs cI cJ nP nQ bX bY bZ bA bB bC bD bS)) [0, 1, 2, 3, 4, 5, 6, 7, 8] rfl
        refine vp_callSi (va_runV (As := [.int r5, .int r9, .int r13, .int (bD x2.toNatClampNeg)]) (rest := []) ⟨hx, hb, hml, hown, ht⟩ (c_B_hasPlaneWhere l dC dI qB qBx qBy qBz qBa qBb qBc qBd qBs cI cJ cQ nP nQ bX bY bZ bA bB bC bD bS r5 r9 r13 (bD x2.toNatClampNeg) r15z hfc) (cwV 4 ht (gV m_303 m_305 m_4 m_29 m_306) rfl rfl rfl (by decide +kernel) ⟨Nat.le_of_ble_eq_true rfl, Nat.le_of_ble_eq_true rfl⟩) (preRV hPc hK hZ (va_recv hK hPc (ci := 0) (q0 := 0) rfl rfl)) rfl rfl hl.1 rfl (lv_room (Nat.le_of_ble_eq_true rfl)) d_B_takesPlanesToPlanes_96 ⟨Nat.le_of_ble_eq_true rfl, Nat.le_of_ble_eq_true rfl⟩).run (fun r15 hw => ?_)
        subst hw
        clear hPc hfc
        refine lv_if_ne (tgt := 104) hx hb d_B_takesPlanesToPlanes_99 (by decide) (fun c16 => ?_) (fun c16 => ?_)
        · have hf := oIf_f hf c16
          obtain ⟨v17, ev17, hf⟩ := oLet_ex hf
          refine lv_iinc (v := v17) (lv' := [(2, .int v17), (5, .int r13), (4, .int r9), (3, .int r5), (0, .ref qB), (1, .int x1)]) hx hb d_B_takesPlanesToPlanes_104 hl (k := 5) rfl (by rw [ev17]; rfl) (by decide) rfl (fun ls hl => ?_)
          refine lv_goto (tgt := 2) hx hb d_B_takesPlanesToPlanes_107 (by decide) ?_
          exact ofX _ _ _ _ _ (ih2 v17 _ hf (lv_sub hl [4, 5, 0] rfl))
        · have hf := oIf_t hf c16
          refine lv_iconst (v := 0) hx hb d_B_takesPlanesToPlanes_102 (by decide) ?_
          cases hf
          exact W.zret (ty := .boolean) hx hb hr rfl (fun t ht hW => ⟨_, rfl, rfl, ht⟩) (fun q h => by cases h) d_B_takesPlanesToPlanes_103
  refine toX _ _ _ _ _ ?_
  unfold f_B_takesPlanesToPlanes at hf
  refine lv_iconst (v := 0) hx hb d_B_takesPlanesToPlanes_0 (by decide) ?_
  refine lv_istore_n (lv' := [(2, .int 0), (0, .ref qB), (1, .int x1)]) hx hb d_B_takesPlanesToPlanes_1 rfl hl (by decide) rfl (fun ls hl => ?_)
  exact ofX _ _ _ _ _ (K2 x1 _ 0 _ hf (lv_sub hl [1, 2, 0] rfl))

set_option maxHeartbeats 4000000 in
set_option maxRecDepth 100000 in
theorem c_M_isPoint (l : Launch) (dC : Nat → ClassId) (dI : Nat → Nat → Nat) (qM q_px q_py q_pz q_plane q_axis q_was q_ways q_keptWas q_keptWays q_keptPoints q_nextWas q_nextWays q_nowWas q_nowWays q_to : Nat) (cI cJ cQ : ClassId) (vthrown : Int32) (vpoints : Int32) (vplanes : Int32) (vaxes : Int32) (vkept : Int32) (vax : Int32) (vay : Int32) (vaz : Int32) (cpx : Nat → Int32) (cpy : Nat → Int32) (cpz : Nat → Int32) (cplane : Nat → Int32) (caxis : Nat → Int32) (cwas : Nat → Int32) (cways : Nat → Int32) (ckeptWas : Nat → Int32) (ckeptWays : Nat → Int32) (ckeptPoints : Nat → Int32) (cnextWas : Nat → Int32) (cnextWays : Nat → Int32) (cnowWas : Nat → Int32) (cnowWays : Nat → Int32) (cto : Nat → Int32) (x1 : Int32) (r_ : Int32) (hf : f_M_isPoint vpoints x1 = some r_) : Met l y_M_isPoint w_M_isPoint ({ frames := 0, cells := 0, slots := 0, locals := 0 }) (va_Pc [.ref qM, .int x1] (fun U => va_P (dC, dI) vwCl (w_M qM q_px q_py q_pz q_plane q_axis q_was q_ways q_keptWas q_keptWays q_keptPoints q_nextWas q_nextWays q_nowWas q_nowWays q_to cI vthrown vpoints vplanes vaxes vkept vax vay vaz cpx cpy cpz cplane caxis cwas cways ckeptWas ckeptWays ckeptPoints cnextWas cnextWays cnowWas cnowWays cto) U.heap ∧ va_K (dC, dI) vwCl [(cI, .int), (cJ, .long), (cQ, .object "CutBodies$Contents")] U ∧ nestZ U)) (vp_Si (fun r9 => r9 = r_)) 0 0 (fun _ => False) := by
  refine Met.ofW (cc := b_M_isPoint) (maxL := 2) (ret := (some .boolean)) (by decide) rfl ?_
  intro p e s m args below meth c s₁ B hml hv
  obtain ⟨rfl, hP, hK, hZ⟩ := hv
  have hx := B.exec
  have hb := B.bytes
  have hr := B.returns
  have hts := atoms_spec (ws := w_M_isPoint) B.pre
  have ht : ∀ w ∈ wAll, w.before _ s = true := fun w h => hts w (List.mem_cons_of_mem _ h)
  have hown : s.vm.findClass R_M = some m.cls := findClass_of_methodNamed B.named
  have hlocks := B.notSynchronized
  have hP : va_P (dC, dI) vwCl (w_M qM q_px q_py q_pz q_plane q_axis q_was q_ways q_keptWas q_keptWays q_keptPoints q_nextWas q_nextWays q_nowWas q_nowWays q_to cI vthrown vpoints vplanes vaxes vkept vax vay vaz cpx cpy cpz cplane caxis cwas cways ckeptWas ckeptWays ckeptPoints cnextWas cnextWays cnowWas cnowWays cto) s.heap := hP
  have hl := lv_entry ([.ref qM, .int x1]) (n := 2) (Nat.le_of_ble_eq_true rfl)
  rw [lg_entry_eq]
  generalize (lg_sl ([.ref qM, .int x1]) ++ List.replicate (2 - (lg_sl ([.ref qM, .int x1])).length) Slot.unset).toArray = ls at hl ⊢
  have hl : lv_has ls 2 [(0, .ref qM), (1, .int x1)] := hl
  unfold f_M_isPoint at hf
  refine lv_iload_n hx hb d_M_isPoint_0 rfl (lv_at hl 1 rfl) ?_
  refine lv_if_lt (tgt := 16) hx hb d_M_isPoint_1 (by decide) (fun c1 => ?_) (fun c1 => ?_)
  · have hf := oIf_t hf c1
    refine lv_iconst (v := 0) hx hb d_M_isPoint_16 (by decide) ?_
    cases hf
    exact W.zret (ty := .boolean) hx hb hr rfl (fun t ht hW => ⟨_, rfl, rfl, ht⟩) (fun q h => by cases h) d_M_isPoint_17
  · have hf := oIf_f hf c1
    refine lv_iload_n hx hb d_M_isPoint_4 rfl (lv_at hl 1 rfl) ?_
    refine lv_aload_n hx hb d_M_isPoint_5 rfl (lv_at hl 0 rfl) ?_
    refine va_get (D := (dC, dI)) (ci := 3) (v := .int vpoints) (C := R_M) (T := T_M) (N := 23) hx hb ht in_M hown hK hP 0 rfl rfl 1 (by decide) (ht _ m_347) (fun _ h9 => h9) rfl d_M_isPoint_6 ?_
    refine lv_icmp_ge (tgt := 16) hx hb d_M_isPoint_9 (by decide) (fun c2 => ?_) (fun c2 => ?_)
    · have hf := oIf_t hf c2
      refine lv_iconst (v := 0) hx hb d_M_isPoint_16 (by decide) ?_
      cases hf
      exact W.zret (ty := .boolean) hx hb hr rfl (fun t ht hW => ⟨_, rfl, rfl, ht⟩) (fun q h => by cases h) d_M_isPoint_17
    · have hf := oIf_f hf c2
      refine lv_iconst (v := 1) hx hb d_M_isPoint_12 (by decide) ?_
      refine lv_goto (tgt := 17) hx hb d_M_isPoint_13 (by decide) ?_
      cases hf
      exact W.zret (ty := .boolean) hx hb hr rfl (fun t ht hW => ⟨_, rfl, rfl, ht⟩) (fun q h => by cases h) d_M_isPoint_17
set_option maxHeartbeats 4000000 in
set_option maxRecDepth 100000 in
theorem c_M_isPlane (l : Launch) (dC : Nat → ClassId) (dI : Nat → Nat → Nat) (qM q_px q_py q_pz q_plane q_axis q_was q_ways q_keptWas q_keptWays q_keptPoints q_nextWas q_nextWays q_nowWas q_nowWays q_to : Nat) (cI cJ cQ : ClassId) (vthrown : Int32) (vpoints : Int32) (vplanes : Int32) (vaxes : Int32) (vkept : Int32) (vax : Int32) (vay : Int32) (vaz : Int32) (cpx : Nat → Int32) (cpy : Nat → Int32) (cpz : Nat → Int32) (cplane : Nat → Int32) (caxis : Nat → Int32) (cwas : Nat → Int32) (cways : Nat → Int32) (ckeptWas : Nat → Int32) (ckeptWays : Nat → Int32) (ckeptPoints : Nat → Int32) (cnextWas : Nat → Int32) (cnextWays : Nat → Int32) (cnowWas : Nat → Int32) (cnowWays : Nat → Int32) (cto : Nat → Int32) (x1 : Int32) (r_ : Int32) (hf : f_M_isPlane vplanes x1 = some r_) : Met l y_M_isPlane w_M_isPlane ({ frames := 0, cells := 0, slots := 0, locals := 0 }) (va_Pc [.ref qM, .int x1] (fun U => va_P (dC, dI) vwCl (w_M qM q_px q_py q_pz q_plane q_axis q_was q_ways q_keptWas q_keptWays q_keptPoints q_nextWas q_nextWays q_nowWas q_nowWays q_to cI vthrown vpoints vplanes vaxes vkept vax vay vaz cpx cpy cpz cplane caxis cwas cways ckeptWas ckeptWays ckeptPoints cnextWas cnextWays cnowWas cnowWays cto) U.heap ∧ va_K (dC, dI) vwCl [(cI, .int), (cJ, .long), (cQ, .object "CutBodies$Contents")] U ∧ nestZ U)) (vp_Si (fun r9 => r9 = r_)) 0 0 (fun _ => False) := by
  refine Met.ofW (cc := b_M_isPlane) (maxL := 2) (ret := (some .boolean)) (by decide) rfl ?_
  intro p e s m args below meth c s₁ B hml hv
  obtain ⟨rfl, hP, hK, hZ⟩ := hv
  have hx := B.exec
  have hb := B.bytes
  have hr := B.returns
  have hts := atoms_spec (ws := w_M_isPlane) B.pre
  have ht : ∀ w ∈ wAll, w.before _ s = true := fun w h => hts w (List.mem_cons_of_mem _ h)
  have hown : s.vm.findClass R_M = some m.cls := findClass_of_methodNamed B.named
  have hlocks := B.notSynchronized
  have hP : va_P (dC, dI) vwCl (w_M qM q_px q_py q_pz q_plane q_axis q_was q_ways q_keptWas q_keptWays q_keptPoints q_nextWas q_nextWays q_nowWas q_nowWays q_to cI vthrown vpoints vplanes vaxes vkept vax vay vaz cpx cpy cpz cplane caxis cwas cways ckeptWas ckeptWays ckeptPoints cnextWas cnextWays cnowWas cnowWays cto) s.heap := hP
  have hl := lv_entry ([.ref qM, .int x1]) (n := 2) (Nat.le_of_ble_eq_true rfl)
  rw [lg_entry_eq]
  generalize (lg_sl ([.ref qM, .int x1]) ++ List.replicate (2 - (lg_sl ([.ref qM, .int x1])).length) Slot.unset).toArray = ls at hl ⊢
  have hl : lv_has ls 2 [(0, .ref qM), (1, .int x1)] := hl
  unfold f_M_isPlane at hf
  refine lv_iload_n hx hb d_M_isPlane_0 rfl (lv_at hl 1 rfl) ?_
  refine lv_if_lt (tgt := 16) hx hb d_M_isPlane_1 (by decide) (fun c1 => ?_) (fun c1 => ?_)
  · have hf := oIf_t hf c1
    refine lv_iconst (v := 0) hx hb d_M_isPlane_16 (by decide) ?_
    cases hf
    exact W.zret (ty := .boolean) hx hb hr rfl (fun t ht hW => ⟨_, rfl, rfl, ht⟩) (fun q h => by cases h) d_M_isPlane_17
  · have hf := oIf_f hf c1
    refine lv_iload_n hx hb d_M_isPlane_4 rfl (lv_at hl 1 rfl) ?_
    refine lv_aload_n hx hb d_M_isPlane_5 rfl (lv_at hl 0 rfl) ?_
    refine va_get (D := (dC, dI)) (ci := 3) (v := .int vplanes) (C := R_M) (T := T_M) (N := 23) hx hb ht in_M hown hK hP 0 rfl rfl 2 (by decide) (ht _ m_348) (fun _ h9 => h9) rfl d_M_isPlane_6 ?_
    refine lv_icmp_ge (tgt := 16) hx hb d_M_isPlane_9 (by decide) (fun c2 => ?_) (fun c2 => ?_)
    · have hf := oIf_t hf c2
      refine lv_iconst (v := 0) hx hb d_M_isPlane_16 (by decide) ?_
      cases hf
      exact W.zret (ty := .boolean) hx hb hr rfl (fun t ht hW => ⟨_, rfl, rfl, ht⟩) (fun q h => by cases h) d_M_isPlane_17
    · have hf := oIf_f hf c2
      refine lv_iconst (v := 1) hx hb d_M_isPlane_12 (by decide) ?_
      refine lv_goto (tgt := 17) hx hb d_M_isPlane_13 (by decide) ?_
      cases hf
      exact W.zret (ty := .boolean) hx hb hr rfl (fun t ht hW => ⟨_, rfl, rfl, ht⟩) (fun q h => by cases h) d_M_isPlane_17
set_option maxHeartbeats 4000000 in
set_option maxRecDepth 100000 in
theorem c_M_isAxis (l : Launch) (dC : Nat → ClassId) (dI : Nat → Nat → Nat) (qM q_px q_py q_pz q_plane q_axis q_was q_ways q_keptWas q_keptWays q_keptPoints q_nextWas q_nextWays q_nowWas q_nowWays q_to : Nat) (cI cJ cQ : ClassId) (vthrown : Int32) (vpoints : Int32) (vplanes : Int32) (vaxes : Int32) (vkept : Int32) (vax : Int32) (vay : Int32) (vaz : Int32) (cpx : Nat → Int32) (cpy : Nat → Int32) (cpz : Nat → Int32) (cplane : Nat → Int32) (caxis : Nat → Int32) (cwas : Nat → Int32) (cways : Nat → Int32) (ckeptWas : Nat → Int32) (ckeptWays : Nat → Int32) (ckeptPoints : Nat → Int32) (cnextWas : Nat → Int32) (cnextWays : Nat → Int32) (cnowWas : Nat → Int32) (cnowWays : Nat → Int32) (cto : Nat → Int32) (x1 : Int32) (r_ : Int32) (hf : f_M_isAxis vaxes x1 = some r_) : Met l y_M_isAxis w_M_isAxis ({ frames := 0, cells := 0, slots := 0, locals := 0 }) (va_Pc [.ref qM, .int x1] (fun U => va_P (dC, dI) vwCl (w_M qM q_px q_py q_pz q_plane q_axis q_was q_ways q_keptWas q_keptWays q_keptPoints q_nextWas q_nextWays q_nowWas q_nowWays q_to cI vthrown vpoints vplanes vaxes vkept vax vay vaz cpx cpy cpz cplane caxis cwas cways ckeptWas ckeptWays ckeptPoints cnextWas cnextWays cnowWas cnowWays cto) U.heap ∧ va_K (dC, dI) vwCl [(cI, .int), (cJ, .long), (cQ, .object "CutBodies$Contents")] U ∧ nestZ U)) (vp_Si (fun r9 => r9 = r_)) 0 0 (fun _ => False) := by
  refine Met.ofW (cc := b_M_isAxis) (maxL := 2) (ret := (some .boolean)) (by decide) rfl ?_
  intro p e s m args below meth c s₁ B hml hv
  obtain ⟨rfl, hP, hK, hZ⟩ := hv
  have hx := B.exec
  have hb := B.bytes
  have hr := B.returns
  have hts := atoms_spec (ws := w_M_isAxis) B.pre
  have ht : ∀ w ∈ wAll, w.before _ s = true := fun w h => hts w (List.mem_cons_of_mem _ h)
  have hown : s.vm.findClass R_M = some m.cls := findClass_of_methodNamed B.named
  have hlocks := B.notSynchronized
  have hP : va_P (dC, dI) vwCl (w_M qM q_px q_py q_pz q_plane q_axis q_was q_ways q_keptWas q_keptWays q_keptPoints q_nextWas q_nextWays q_nowWas q_nowWays q_to cI vthrown vpoints vplanes vaxes vkept vax vay vaz cpx cpy cpz cplane caxis cwas cways ckeptWas ckeptWays ckeptPoints cnextWas cnextWays cnowWas cnowWays cto) s.heap := hP
  have hl := lv_entry ([.ref qM, .int x1]) (n := 2) (Nat.le_of_ble_eq_true rfl)
  rw [lg_entry_eq]
  generalize (lg_sl ([.ref qM, .int x1]) ++ List.replicate (2 - (lg_sl ([.ref qM, .int x1])).length) Slot.unset).toArray = ls at hl ⊢
  have hl : lv_has ls 2 [(0, .ref qM), (1, .int x1)] := hl
  unfold f_M_isAxis at hf
  refine lv_iload_n hx hb d_M_isAxis_0 rfl (lv_at hl 1 rfl) ?_
  refine lv_if_lt (tgt := 16) hx hb d_M_isAxis_1 (by decide) (fun c1 => ?_) (fun c1 => ?_)
  · have hf := oIf_t hf c1
    refine lv_iconst (v := 0) hx hb d_M_isAxis_16 (by decide) ?_
    cases hf
    exact W.zret (ty := .boolean) hx hb hr rfl (fun t ht hW => ⟨_, rfl, rfl, ht⟩) (fun q h => by cases h) d_M_isAxis_17
  · have hf := oIf_f hf c1
    refine lv_iload_n hx hb d_M_isAxis_4 rfl (lv_at hl 1 rfl) ?_
    refine lv_aload_n hx hb d_M_isAxis_5 rfl (lv_at hl 0 rfl) ?_
    refine va_get (D := (dC, dI)) (ci := 3) (v := .int vaxes) (C := R_M) (T := T_M) (N := 23) hx hb ht in_M hown hK hP 0 rfl rfl 3 (by decide) (ht _ m_349) (fun _ h9 => h9) rfl d_M_isAxis_6 ?_
    refine lv_icmp_ge (tgt := 16) hx hb d_M_isAxis_9 (by decide) (fun c2 => ?_) (fun c2 => ?_)
    · have hf := oIf_t hf c2
      refine lv_iconst (v := 0) hx hb d_M_isAxis_16 (by decide) ?_
      cases hf
      exact W.zret (ty := .boolean) hx hb hr rfl (fun t ht hW => ⟨_, rfl, rfl, ht⟩) (fun q h => by cases h) d_M_isAxis_17
    · have hf := oIf_f hf c2
      refine lv_iconst (v := 1) hx hb d_M_isAxis_12 (by decide) ?_
      refine lv_goto (tgt := 17) hx hb d_M_isAxis_13 (by decide) ?_
      cases hf
      exact W.zret (ty := .boolean) hx hb hr rfl (fun t ht hW => ⟨_, rfl, rfl, ht⟩) (fun q h => by cases h) d_M_isAxis_17
set_option maxHeartbeats 4000000 in
set_option maxRecDepth 100000 in
theorem c_M_pointAt (l : Launch) (dC : Nat → ClassId) (dI : Nat → Nat → Nat) (qM q_px q_py q_pz q_plane q_axis q_was q_ways q_keptWas q_keptWays q_keptPoints q_nextWas q_nextWays q_nowWas q_nowWays q_to : Nat) (cI cJ cQ : ClassId) (vthrown : Int32) (vpoints : Int32) (vplanes : Int32) (vaxes : Int32) (vkept : Int32) (vax : Int32) (vay : Int32) (vaz : Int32) (cpx : Nat → Int32) (cpy : Nat → Int32) (cpz : Nat → Int32) (cplane : Nat → Int32) (caxis : Nat → Int32) (cwas : Nat → Int32) (cways : Nat → Int32) (ckeptWas : Nat → Int32) (ckeptWays : Nat → Int32) (ckeptPoints : Nat → Int32) (cnextWas : Nat → Int32) (cnextWays : Nat → Int32) (cnowWas : Nat → Int32) (cnowWays : Nat → Int32) (cto : Nat → Int32) (x1 : Int32) (x2 : Int32) (x3 : Int32) (r_ : Int32) (hf : f_M_pointAt vpoints cpx cpy cpz x1 x2 x3 = some r_) : Met l y_M_pointAt w_M_pointAt ({ frames := 0, cells := 0, slots := 0, locals := 0 }) (va_Pc [.ref qM, .int x1, .int x2, .int x3] (fun U => va_P (dC, dI) vwCl (w_M qM q_px q_py q_pz q_plane q_axis q_was q_ways q_keptWas q_keptWays q_keptPoints q_nextWas q_nextWays q_nowWas q_nowWays q_to cI vthrown vpoints vplanes vaxes vkept vax vay vaz cpx cpy cpz cplane caxis cwas cways ckeptWas ckeptWays ckeptPoints cnextWas cnextWays cnowWas cnowWays cto) U.heap ∧ va_K (dC, dI) vwCl [(cI, .int), (cJ, .long), (cQ, .object "CutBodies$Contents")] U ∧ nestZ U)) (vp_Si (fun r9 => r9 = r_)) 0 0 (fun _ => False) := by
  refine Met.ofW (cc := b_M_pointAt) (maxL := 5) (ret := (some .int)) (by decide) rfl ?_
  intro p e s m args below meth c s₁ B hml hv
  obtain ⟨rfl, hP, hK, hZ⟩ := hv
  have hx := B.exec
  have hb := B.bytes
  have hr := B.returns
  have hts := atoms_spec (ws := w_M_pointAt) B.pre
  have ht : ∀ w ∈ wAll, w.before _ s = true := fun w h => hts w (List.mem_cons_of_mem _ h)
  have hown : s.vm.findClass R_M = some m.cls := findClass_of_methodNamed B.named
  have hlocks := B.notSynchronized
  have hP : va_P (dC, dI) vwCl (w_M qM q_px q_py q_pz q_plane q_axis q_was q_ways q_keptWas q_keptWays q_keptPoints q_nextWas q_nextWays q_nowWas q_nowWays q_to cI vthrown vpoints vplanes vaxes vkept vax vay vaz cpx cpy cpz cplane caxis cwas cways ckeptWas ckeptWays ckeptPoints cnextWas cnextWays cnowWas cnowWays cto) s.heap := hP
  have hl := lv_entry ([.ref qM, .int x1, .int x2, .int x3]) (n := 5) (Nat.le_of_ble_eq_true rfl)
  rw [lg_entry_eq]
  generalize (lg_sl ([.ref qM, .int x1, .int x2, .int x3]) ++ List.replicate (5 - (lg_sl ([.ref qM, .int x1, .int x2, .int x3])).length) Slot.unset).toArray = ls at hl ⊢
  have hl : lv_has ls 5 [(0, .ref qM), (1, .int x1), (2, .int x2), (3, .int x3)] := hl
  refine w_abs (fun Wx toX ofX => ?_)
  have K3 : ∀ (x1 : Int32) (x2 : Int32) (x3 : Int32) (n : Nat) (x4 : Int32) (ls : Array Slot), oLoop1 (f_M_pointAt_L3  vpoints cpx cpy cpz x1 x2 x3) n x4 = some r_ → lv_has ls 5 [(0, .ref qM), (1, .int x1), (2, .int x2), (3, .int x3), (4, .int x4)] → Wx s.heap [] 0 0 (F0 m 3 ls []) := by
    intro x1 x2 x3 n
    induction n with
    | zero => intro x4 ls hf; exact (oLoop1_0 hf).elim
    | succ n ih3 =>
      obtain ⟨rec3, hrec3⟩ : ∃ z, z = oLoop1 (f_M_pointAt_L3  vpoints cpx cpy cpz x1 x2 x3) n := ⟨_, rfl⟩
      rw [← hrec3] at ih3
      have K48 : ∀ (x4 : Int32) (ls : Array Slot), f_M_pointAt_J48 rec3 vpoints cpx cpy cpz x1 x2 x3 x4 = some r_ → lv_has ls 5 [(0, .ref qM), (1, .int x1), (2, .int x2), (3, .int x3), (4, .int x4)] → Wx s.heap [] 0 0 (F0 m 48 ls []) := by
        intro x4 ls hf hl
        refine toX _ _ _ _ _ ?_
        unfold f_M_pointAt_J48 at hf
        obtain ⟨v1, ev1, hf⟩ := oLet_ex hf
        refine lv_iinc (v := v1) (lv' := [(4, .int v1), (0, .ref qM), (1, .int x1), (2, .int x2), (3, .int x3)]) hx hb d_M_pointAt_48 hl (k := 4) rfl (by rw [ev1]; rfl) (by decide) rfl (fun ls hl => ?_)
        refine lv_goto (tgt := 3) hx hb d_M_pointAt_51 (by decide) ?_
        exact ofX _ _ _ _ _ (ih3 v1 _ hf (lv_sub hl [1, 2, 3, 4, 0] rfl))
      intro x4 ls hf hl
      refine toX _ _ _ _ _ ?_
      have hf := oLoop1_s hf
      rw [← hrec3] at hf
      unfold f_M_pointAt_L3 at hf
      refine lv_iload hx hb d_M_pointAt_3 (lv_at hl 4 rfl) ?_
      refine lv_aload_n hx hb d_M_pointAt_5 rfl (lv_at hl 0 rfl) ?_
      refine va_get (D := (dC, dI)) (ci := 3) (v := .int vpoints) (C := R_M) (T := T_M) (N := 23) hx hb ht in_M hown hK hP 0 rfl rfl 1 (by decide) (ht _ m_347) (fun _ h9 => h9) rfl d_M_pointAt_6 ?_
      refine lv_icmp_ge (tgt := 54) hx hb d_M_pointAt_9 (by decide) (fun c2 => ?_) (fun c2 => ?_)
      · have hf := oIf_t hf c2
        refine lv_iconst (v := (-1)) hx hb d_M_pointAt_54 (by decide) ?_
        cases hf
        exact W.iret hx hb hr (fun t ht hW => ⟨_, rfl, rfl, ht⟩) (fun q h => by cases h) d_M_pointAt_55
      · have hf := oIf_f hf c2
        refine lv_aload_n hx hb d_M_pointAt_12 rfl (lv_at hl 0 rfl) ?_
        refine va_get (D := (dC, dI)) (ci := 3) (v := .ref q_px) (C := R_M) (T := T_M) (N := 23) hx hb ht in_M hown hK hP 0 rfl rfl 4 (by decide) (ht _ m_350) (fun _ h9 => h9) rfl d_M_pointAt_13 ?_
        refine lv_iload hx hb d_M_pointAt_16 (lv_at hl 4 rfl) ?_
        obtain ⟨hi3, hf⟩ := oIn_some hf
        refine va_iald hx hb hK hP 1 0 rfl rfl hi3 d_M_pointAt_18 ?_
        refine lv_iload_n hx hb d_M_pointAt_19 rfl (lv_at hl 1 rfl) ?_
        refine lv_icmp_ne (tgt := 48) hx hb d_M_pointAt_20 (by decide) (fun c4 => ?_) (fun c4 => ?_)
        · have hf := oIf_f hf c4
          exact ofX _ _ _ _ _ (K48  x4 _ hf (lv_sub hl [0, 1, 2, 3, 4] rfl))
        · have hf := oIf_t hf c4
          refine lv_aload_n hx hb d_M_pointAt_23 rfl (lv_at hl 0 rfl) ?_
          refine va_get (D := (dC, dI)) (ci := 3) (v := .ref q_py) (C := R_M) (T := T_M) (N := 23) hx hb ht in_M hown hK hP 0 rfl rfl 5 (by decide) (ht _ m_351) (fun _ h9 => h9) rfl d_M_pointAt_24 ?_
          refine lv_iload hx hb d_M_pointAt_27 (lv_at hl 4 rfl) ?_
          obtain ⟨hi5, hf⟩ := oIn_some hf
          refine va_iald hx hb hK hP 2 0 rfl rfl hi5 d_M_pointAt_29 ?_
          refine lv_iload_n hx hb d_M_pointAt_30 rfl (lv_at hl 2 rfl) ?_
          refine lv_icmp_ne (tgt := 48) hx hb d_M_pointAt_31 (by decide) (fun c6 => ?_) (fun c6 => ?_)
          · have hf := oIf_f hf c6
            exact ofX _ _ _ _ _ (K48  x4 _ hf (lv_sub hl [0, 1, 2, 3, 4] rfl))
          · have hf := oIf_t hf c6
            refine lv_aload_n hx hb d_M_pointAt_34 rfl (lv_at hl 0 rfl) ?_
            refine va_get (D := (dC, dI)) (ci := 3) (v := .ref q_pz) (C := R_M) (T := T_M) (N := 23) hx hb ht in_M hown hK hP 0 rfl rfl 6 (by decide) (ht _ m_352) (fun _ h9 => h9) rfl d_M_pointAt_35 ?_
            refine lv_iload hx hb d_M_pointAt_38 (lv_at hl 4 rfl) ?_
            obtain ⟨hi7, hf⟩ := oIn_some hf
            refine va_iald hx hb hK hP 3 0 rfl rfl hi7 d_M_pointAt_40 ?_
            refine lv_iload_n hx hb d_M_pointAt_41 rfl (lv_at hl 3 rfl) ?_
            refine lv_icmp_ne (tgt := 48) hx hb d_M_pointAt_42 (by decide) (fun c8 => ?_) (fun c8 => ?_)
            · have hf := oIf_f hf c8
              exact ofX _ _ _ _ _ (K48  x4 _ hf (lv_sub hl [0, 1, 2, 3, 4] rfl))
            · have hf := oIf_t hf c8
              refine lv_iload hx hb d_M_pointAt_45 (lv_at hl 4 rfl) ?_
              cases hf
              exact W.iret hx hb hr (fun t ht hW => ⟨_, rfl, rfl, ht⟩) (fun q h => by cases h) d_M_pointAt_47
  refine toX _ _ _ _ _ ?_
  unfold f_M_pointAt at hf
  refine lv_iconst (v := 0) hx hb d_M_pointAt_0 (by decide) ?_
  refine lv_istore (lv' := [(4, .int 0), (0, .ref qM), (1, .int x1), (2, .int x2), (3, .int x3)]) hx hb d_M_pointAt_1 hl (by decide) rfl (fun ls hl => ?_)
  exact ofX _ _ _ _ _ (K3 x1 x2 x3 _ 0 _ hf (lv_sub hl [1, 2, 3, 4, 0] rfl))
set_option maxHeartbeats 4000000 in
set_option maxRecDepth 100000 in
theorem c_M_kind (l : Launch) (dC : Nat → ClassId) (dI : Nat → Nat → Nat) (qM q_px q_py q_pz q_plane q_axis q_was q_ways q_keptWas q_keptWays q_keptPoints q_nextWas q_nextWays q_nowWas q_nowWays q_to : Nat) (cI cJ cQ : ClassId) (vthrown : Int32) (vpoints : Int32) (vplanes : Int32) (vaxes : Int32) (vkept : Int32) (vax : Int32) (vay : Int32) (vaz : Int32) (cpx : Nat → Int32) (cpy : Nat → Int32) (cpz : Nat → Int32) (cplane : Nat → Int32) (caxis : Nat → Int32) (cwas : Nat → Int32) (cways : Nat → Int32) (ckeptWas : Nat → Int32) (ckeptWays : Nat → Int32) (ckeptPoints : Nat → Int32) (cnextWas : Nat → Int32) (cnextWays : Nat → Int32) (cnowWas : Nat → Int32) (cnowWays : Nat → Int32) (cto : Nat → Int32) (x1 : Int32) (r_ : Int32) (hf : f_M_kind caxis x1 = some r_) : Met l y_M_kind w_M_kind ({ frames := 0, cells := 0, slots := 0, locals := 0 }) (va_Pc [.ref qM, .int x1] (fun U => va_P (dC, dI) vwCl (w_M qM q_px q_py q_pz q_plane q_axis q_was q_ways q_keptWas q_keptWays q_keptPoints q_nextWas q_nextWays q_nowWas q_nowWays q_to cI vthrown vpoints vplanes vaxes vkept vax vay vaz cpx cpy cpz cplane caxis cwas cways ckeptWas ckeptWays ckeptPoints cnextWas cnextWays cnowWas cnowWays cto) U.heap ∧ va_K (dC, dI) vwCl [(cI, .int), (cJ, .long), (cQ, .object "CutBodies$Contents")] U ∧ nestZ U)) (vp_Si (fun r9 => r9 = r_)) 0 0 (fun _ => False) := by
  refine Met.ofW (cc := b_M_kind) (maxL := 4) (ret := (some .int)) (by decide) rfl ?_
  intro p e s m args below meth c s₁ B hml hv
  obtain ⟨rfl, hP, hK, hZ⟩ := hv
  have hx := B.exec
  have hb := B.bytes
  have hr := B.returns
  have hts := atoms_spec (ws := w_M_kind) B.pre
  have ht : ∀ w ∈ wAll, w.before _ s = true := fun w h => hts w (List.mem_cons_of_mem _ h)
  have hown : s.vm.findClass R_M = some m.cls := findClass_of_methodNamed B.named
  have hlocks := B.notSynchronized
  have hP : va_P (dC, dI) vwCl (w_M qM q_px q_py q_pz q_plane q_axis q_was q_ways q_keptWas q_keptWays q_keptPoints q_nextWas q_nextWays q_nowWas q_nowWays q_to cI vthrown vpoints vplanes vaxes vkept vax vay vaz cpx cpy cpz cplane caxis cwas cways ckeptWas ckeptWays ckeptPoints cnextWas cnextWays cnowWas cnowWays cto) s.heap := hP
  have hl := lv_entry ([.ref qM, .int x1]) (n := 4) (Nat.le_of_ble_eq_true rfl)
  rw [lg_entry_eq]
  generalize (lg_sl ([.ref qM, .int x1]) ++ List.replicate (4 - (lg_sl ([.ref qM, .int x1])).length) Slot.unset).toArray = ls at hl ⊢
  have hl : lv_has ls 4 [(0, .ref qM), (1, .int x1)] := hl
  refine w_abs (fun Wx toX ofX => ?_)
  have K4 : ∀ (x1 : Int32) (n : Nat) (x2 : Int32) (x3 : Int32) (ls : Array Slot), oLoop2 (f_M_kind_L4  caxis x1) n x2 x3 = some r_ → lv_has ls 4 [(0, .ref qM), (1, .int x1), (2, .int x2), (3, .int x3)] → Wx s.heap [] 0 0 (F0 m 4 ls []) := by
    intro x1 n
    induction n with
    | zero => intro x2 x3 ls hf; exact (oLoop2_0 hf).elim
    | succ n ih4 =>
      obtain ⟨rec4, hrec4⟩ : ∃ z, z = oLoop2 (f_M_kind_L4  caxis x1) n := ⟨_, rfl⟩
      rw [← hrec4] at ih4
      have K28 : ∀ (x3 : Int32) (t0 : Int32) (t1 : Int32) (ls : Array Slot), f_M_kind_J28 rec4 caxis x1 x3 t0 t1 = some r_ → lv_has ls 4 [(0, .ref qM), (1, .int x1), (3, .int x3)] → Wx s.heap [] 0 0 (F0 m 28 ls [.int t1, .int t0]) := by
        intro x3 t0 t1 ls hf hl
        refine toX _ _ _ _ _ ?_
        unfold f_M_kind_J28 at hf
        refine lv_iadd hx hb d_M_kind_28 ?_
        refine lv_topi (fun v1 ev1 => ?_)
        have hf := oLet_some hf ev1
        refine lv_istore_n (lv' := [(2, .int v1), (0, .ref qM), (1, .int x1), (3, .int x3)]) hx hb d_M_kind_29 rfl hl (by decide) rfl (fun ls hl => ?_)
        obtain ⟨v2, ev2, hf⟩ := oLet_ex hf
        refine lv_iinc (v := v2) (lv' := [(3, .int v2), (2, .int v1), (0, .ref qM), (1, .int x1)]) hx hb d_M_kind_30 hl (k := 3) rfl (by rw [ev2]; rfl) (by decide) rfl (fun ls hl => ?_)
        refine lv_goto (tgt := 4) hx hb d_M_kind_33 (by decide) ?_
        exact ofX _ _ _ _ _ (ih4 v1 v2 _ hf (lv_sub hl [2, 3, 1, 0] rfl))
      intro x2 x3 ls hf hl
      refine toX _ _ _ _ _ ?_
      have hf := oLoop2_s hf
      rw [← hrec4] at hf
      unfold f_M_kind_L4 at hf
      refine lv_iload_n hx hb d_M_kind_4 rfl (lv_at hl 3 rfl) ?_
      refine lv_iconst (v := 3) hx hb d_M_kind_5 (by decide) ?_
      refine lv_icmp_ge (tgt := 36) hx hb d_M_kind_6 (by decide) (fun c3 => ?_) (fun c3 => ?_)
      · have hf := oIf_t hf c3
        refine lv_iload_n hx hb d_M_kind_36 rfl (lv_at hl 2 rfl) ?_
        cases hf
        exact W.iret hx hb hr (fun t ht hW => ⟨_, rfl, rfl, ht⟩) (fun q h => by cases h) d_M_kind_37
      · have hf := oIf_f hf c3
        refine lv_iload_n hx hb d_M_kind_9 rfl (lv_at hl 2 rfl) ?_
        refine lv_aload_n hx hb d_M_kind_10 rfl (lv_at hl 0 rfl) ?_
        refine va_get (D := (dC, dI)) (ci := 3) (v := .ref q_axis) (C := R_M) (T := T_M) (N := 23) hx hb ht in_M hown hK hP 0 rfl rfl 8 (by decide) (ht _ m_354) (fun _ h9 => h9) rfl d_M_kind_11 ?_
        refine lv_iconst (v := 3) hx hb d_M_kind_14 (by decide) ?_
        refine lv_iload_n hx hb d_M_kind_15 rfl (lv_at hl 1 rfl) ?_
        refine lv_imul hx hb d_M_kind_16 ?_
        refine lv_iload_n hx hb d_M_kind_17 rfl (lv_at hl 3 rfl) ?_
        refine lv_iadd hx hb d_M_kind_18 ?_
        obtain ⟨hi4, hf⟩ := oIn_some hf
        refine va_iald hx hb hK hP 5 0 rfl rfl hi4 d_M_kind_19 ?_
        refine lv_if_ne (tgt := 27) hx hb d_M_kind_20 (by decide) (fun c5 => ?_) (fun c5 => ?_)
        · have hf := oIf_f hf c5
          refine lv_iconst (v := 1) hx hb d_M_kind_27 (by decide) ?_
          exact ofX _ _ _ _ _ (K28  x3 x2 1 _ hf (lv_sub hl [0, 1, 3] rfl))
        · have hf := oIf_t hf c5
          refine lv_iconst (v := 0) hx hb d_M_kind_23 (by decide) ?_
          refine lv_goto (tgt := 28) hx hb d_M_kind_24 (by decide) ?_
          exact ofX _ _ _ _ _ (K28  x3 x2 0 _ hf (lv_sub hl [0, 1, 3] rfl))
  refine toX _ _ _ _ _ ?_
  unfold f_M_kind at hf
  refine lv_iconst (v := 0) hx hb d_M_kind_0 (by decide) ?_
  refine lv_istore_n (lv' := [(2, .int 0), (0, .ref qM), (1, .int x1)]) hx hb d_M_kind_1 rfl hl (by decide) rfl (fun ls hl => ?_)
  refine lv_iconst (v := 0) hx hb d_M_kind_2 (by decide) ?_
  refine lv_istore_n (lv' := [(3, .int 0), (2, .int 0), (0, .ref qM), (1, .int x1)]) hx hb d_M_kind_3 rfl hl (by decide) rfl (fun ls hl => ?_)
  exact ofX _ _ _ _ _ (K4 x1 _ 0 0 _ hf (lv_sub hl [2, 3, 1, 0] rfl))
set_option maxHeartbeats 4000000 in
set_option maxRecDepth 100000 in
theorem c_M_sideOf (l : Launch) (dC : Nat → ClassId) (dI : Nat → Nat → Nat) (qM q_px q_py q_pz q_plane q_axis q_was q_ways q_keptWas q_keptWays q_keptPoints q_nextWas q_nextWays q_nowWas q_nowWays q_to : Nat) (cI cJ cQ : ClassId) (vthrown : Int32) (vpoints : Int32) (vplanes : Int32) (vaxes : Int32) (vkept : Int32) (vax : Int32) (vay : Int32) (vaz : Int32) (cpx : Nat → Int32) (cpy : Nat → Int32) (cpz : Nat → Int32) (cplane : Nat → Int32) (caxis : Nat → Int32) (cwas : Nat → Int32) (cways : Nat → Int32) (ckeptWas : Nat → Int32) (ckeptWays : Nat → Int32) (ckeptPoints : Nat → Int32) (cnextWas : Nat → Int32) (cnextWays : Nat → Int32) (cnowWas : Nat → Int32) (cnowWays : Nat → Int32) (cto : Nat → Int32) (x1 : Int32) (x2 : Int32) (r_ : Int32) (hf : f_M_sideOf cpx cpy cpz cplane x1 x2 = some r_) : Met l y_M_sideOf w_M_sideOf ({ frames := 0, cells := 0, slots := 0, locals := 0 }) (va_Pc [.ref qM, .int x1, .int x2] (fun U => va_P (dC, dI) vwCl (w_M qM q_px q_py q_pz q_plane q_axis q_was q_ways q_keptWas q_keptWays q_keptPoints q_nextWas q_nextWays q_nowWas q_nowWays q_to cI vthrown vpoints vplanes vaxes vkept vax vay vaz cpx cpy cpz cplane caxis cwas cways ckeptWas ckeptWays ckeptPoints cnextWas cnextWays cnowWas cnowWays cto) U.heap ∧ va_K (dC, dI) vwCl [(cI, .int), (cJ, .long), (cQ, .object "CutBodies$Contents")] U ∧ nestZ U)) (vp_Si (fun r9 => r9 = r_)) 0 0 (fun _ => False) := by
  refine Met.ofW (cc := b_M_sideOf) (maxL := 4) (ret := (some .int)) (by decide) rfl ?_
  intro p e s m args below meth c s₁ B hml hv
  obtain ⟨rfl, hP, hK, hZ⟩ := hv
  have hx := B.exec
  have hb := B.bytes
  have hr := B.returns
  have hts := atoms_spec (ws := w_M_sideOf) B.pre
  have ht : ∀ w ∈ wAll, w.before _ s = true := fun w h => hts w (List.mem_cons_of_mem _ h)
  have hown : s.vm.findClass R_M = some m.cls := findClass_of_methodNamed B.named
  have hlocks := B.notSynchronized
  have hP : va_P (dC, dI) vwCl (w_M qM q_px q_py q_pz q_plane q_axis q_was q_ways q_keptWas q_keptWays q_keptPoints q_nextWas q_nextWays q_nowWas q_nowWays q_to cI vthrown vpoints vplanes vaxes vkept vax vay vaz cpx cpy cpz cplane caxis cwas cways ckeptWas ckeptWays ckeptPoints cnextWas cnextWays cnowWas cnowWays cto) s.heap := hP
  have hl := lv_entry ([.ref qM, .int x1, .int x2]) (n := 4) (Nat.le_of_ble_eq_true rfl)
  rw [lg_entry_eq]
  generalize (lg_sl ([.ref qM, .int x1, .int x2]) ++ List.replicate (4 - (lg_sl ([.ref qM, .int x1, .int x2])).length) Slot.unset).toArray = ls at hl ⊢
  have hl : lv_has ls 4 [(0, .ref qM), (1, .int x1), (2, .int x2)] := hl
  unfold f_M_sideOf at hf
  refine lv_aload_n hx hb d_M_sideOf_0 rfl (lv_at hl 0 rfl) ?_
  refine va_get (D := (dC, dI)) (ci := 3) (v := .ref q_plane) (C := R_M) (T := T_M) (N := 23) hx hb ht in_M hown hK hP 0 rfl rfl 7 (by decide) (ht _ m_353) (fun _ h9 => h9) rfl d_M_sideOf_1 ?_
  refine lv_iconst (v := 4) hx hb d_M_sideOf_4 (by decide) ?_
  refine lv_iload_n hx hb d_M_sideOf_5 rfl (lv_at hl 2 rfl) ?_
  refine lv_imul hx hb d_M_sideOf_6 ?_
  obtain ⟨hi1, hf⟩ := oIn_some hf
  refine va_iald hx hb hK hP 4 0 rfl rfl hi1 d_M_sideOf_7 ?_
  refine lv_aload_n hx hb d_M_sideOf_8 rfl (lv_at hl 0 rfl) ?_
  refine va_get (D := (dC, dI)) (ci := 3) (v := .ref q_px) (C := R_M) (T := T_M) (N := 23) hx hb ht in_M hown hK hP 0 rfl rfl 4 (by decide) (ht _ m_350) (fun _ h9 => h9) rfl d_M_sideOf_9 ?_
  refine lv_iload_n hx hb d_M_sideOf_12 rfl (lv_at hl 1 rfl) ?_
  obtain ⟨hi2, hf⟩ := oIn_some hf
  refine va_iald hx hb hK hP 1 0 rfl rfl hi2 d_M_sideOf_13 ?_
  refine lv_imul hx hb d_M_sideOf_14 ?_
  refine lv_aload_n hx hb d_M_sideOf_15 rfl (lv_at hl 0 rfl) ?_
  refine va_get (D := (dC, dI)) (ci := 3) (v := .ref q_plane) (C := R_M) (T := T_M) (N := 23) hx hb ht in_M hown hK hP 0 rfl rfl 7 (by decide) (ht _ m_353) (fun _ h9 => h9) rfl d_M_sideOf_16 ?_
  refine lv_iconst (v := 4) hx hb d_M_sideOf_19 (by decide) ?_
  refine lv_iload_n hx hb d_M_sideOf_20 rfl (lv_at hl 2 rfl) ?_
  refine lv_imul hx hb d_M_sideOf_21 ?_
  refine lv_iconst (v := 1) hx hb d_M_sideOf_22 (by decide) ?_
  refine lv_iadd hx hb d_M_sideOf_23 ?_
  obtain ⟨hi3, hf⟩ := oIn_some hf
  refine va_iald hx hb hK hP 4 0 rfl rfl hi3 d_M_sideOf_24 ?_
  refine lv_aload_n hx hb d_M_sideOf_25 rfl (lv_at hl 0 rfl) ?_
  refine va_get (D := (dC, dI)) (ci := 3) (v := .ref q_py) (C := R_M) (T := T_M) (N := 23) hx hb ht in_M hown hK hP 0 rfl rfl 5 (by decide) (ht _ m_351) (fun _ h9 => h9) rfl d_M_sideOf_26 ?_
  refine lv_iload_n hx hb d_M_sideOf_29 rfl (lv_at hl 1 rfl) ?_
  obtain ⟨hi4, hf⟩ := oIn_some hf
  refine va_iald hx hb hK hP 2 0 rfl rfl hi4 d_M_sideOf_30 ?_
  refine lv_imul hx hb d_M_sideOf_31 ?_
  refine lv_iadd hx hb d_M_sideOf_32 ?_
  refine lv_aload_n hx hb d_M_sideOf_33 rfl (lv_at hl 0 rfl) ?_
  refine va_get (D := (dC, dI)) (ci := 3) (v := .ref q_plane) (C := R_M) (T := T_M) (N := 23) hx hb ht in_M hown hK hP 0 rfl rfl 7 (by decide) (ht _ m_353) (fun _ h9 => h9) rfl d_M_sideOf_34 ?_
  refine lv_iconst (v := 4) hx hb d_M_sideOf_37 (by decide) ?_
  refine lv_iload_n hx hb d_M_sideOf_38 rfl (lv_at hl 2 rfl) ?_
  refine lv_imul hx hb d_M_sideOf_39 ?_
  refine lv_iconst (v := 2) hx hb d_M_sideOf_40 (by decide) ?_
  refine lv_iadd hx hb d_M_sideOf_41 ?_
  obtain ⟨hi5, hf⟩ := oIn_some hf
  refine va_iald hx hb hK hP 4 0 rfl rfl hi5 d_M_sideOf_42 ?_
  refine lv_aload_n hx hb d_M_sideOf_43 rfl (lv_at hl 0 rfl) ?_
  refine va_get (D := (dC, dI)) (ci := 3) (v := .ref q_pz) (C := R_M) (T := T_M) (N := 23) hx hb ht in_M hown hK hP 0 rfl rfl 6 (by decide) (ht _ m_352) (fun _ h9 => h9) rfl d_M_sideOf_44 ?_
  refine lv_iload_n hx hb d_M_sideOf_47 rfl (lv_at hl 1 rfl) ?_
  obtain ⟨hi6, hf⟩ := oIn_some hf
  refine va_iald hx hb hK hP 3 0 rfl rfl hi6 d_M_sideOf_48 ?_
  refine lv_imul hx hb d_M_sideOf_49 ?_
  refine lv_iadd hx hb d_M_sideOf_50 ?_
  refine lv_aload_n hx hb d_M_sideOf_51 rfl (lv_at hl 0 rfl) ?_
  refine va_get (D := (dC, dI)) (ci := 3) (v := .ref q_plane) (C := R_M) (T := T_M) (N := 23) hx hb ht in_M hown hK hP 0 rfl rfl 7 (by decide) (ht _ m_353) (fun _ h9 => h9) rfl d_M_sideOf_52 ?_
  refine lv_iconst (v := 4) hx hb d_M_sideOf_55 (by decide) ?_
  refine lv_iload_n hx hb d_M_sideOf_56 rfl (lv_at hl 2 rfl) ?_
  refine lv_imul hx hb d_M_sideOf_57 ?_
  refine lv_iconst (v := 3) hx hb d_M_sideOf_58 (by decide) ?_
  refine lv_iadd hx hb d_M_sideOf_59 ?_
  obtain ⟨hi7, hf⟩ := oIn_some hf
  refine va_iald hx hb hK hP 4 0 rfl rfl hi7 d_M_sideOf_60 ?_
  refine lv_isub hx hb d_M_sideOf_61 ?_
  refine lv_topi (fun v8 ev8 => ?_)
  have hf := oLet_some hf ev8
  refine lv_istore_n (lv' := [(3, .int v8), (0, .ref qM), (1, .int x1), (2, .int x2)]) hx hb d_M_sideOf_62 rfl hl (by decide) rfl (fun ls hl => ?_)
  refine lv_iload_n hx hb d_M_sideOf_63 rfl (lv_at hl 0 rfl) ?_
  refine lv_if_ge (tgt := 71) hx hb d_M_sideOf_64 (by decide) (fun c9 => ?_) (fun c9 => ?_)
  · have hf := oIf_t hf c9
    refine lv_iload_n hx hb d_M_sideOf_71 rfl (lv_at hl 0 rfl) ?_
    refine lv_if_ne (tgt := 79) hx hb d_M_sideOf_72 (by decide) (fun c10 => ?_) (fun c10 => ?_)
    · have hf := oIf_f hf c10
      refine lv_iconst (v := 2) hx hb d_M_sideOf_79 (by decide) ?_
      cases hf
      exact W.iret hx hb hr (fun t ht hW => ⟨_, rfl, rfl, ht⟩) (fun q h => by cases h) d_M_sideOf_80
    · have hf := oIf_t hf c10
      refine lv_iconst (v := 1) hx hb d_M_sideOf_75 (by decide) ?_
      refine lv_goto (tgt := 80) hx hb d_M_sideOf_76 (by decide) ?_
      cases hf
      exact W.iret hx hb hr (fun t ht hW => ⟨_, rfl, rfl, ht⟩) (fun q h => by cases h) d_M_sideOf_80
  · have hf := oIf_f hf c9
    refine lv_iconst (v := 0) hx hb d_M_sideOf_67 (by decide) ?_
    refine lv_goto (tgt := 80) hx hb d_M_sideOf_68 (by decide) ?_
    cases hf
    exact W.iret hx hb hr (fun t ht hW => ⟨_, rfl, rfl, ht⟩) (fun q h => by cases h) d_M_sideOf_80
set_option maxHeartbeats 4000000 in
set_option maxRecDepth 100000 in
theorem c_M_isAlike (l : Launch) (dC : Nat → ClassId) (dI : Nat → Nat → Nat) (qM q_px q_py q_pz q_plane q_axis q_was q_ways q_keptWas q_keptWays q_keptPoints q_nextWas q_nextWays q_nowWas q_nowWays q_to : Nat) (cI cJ cQ : ClassId) (vthrown : Int32) (vpoints : Int32) (vplanes : Int32) (vaxes : Int32) (vkept : Int32) (vax : Int32) (vay : Int32) (vaz : Int32) (cpx : Nat → Int32) (cpy : Nat → Int32) (cpz : Nat → Int32) (cplane : Nat → Int32) (caxis : Nat → Int32) (cwas : Nat → Int32) (cways : Nat → Int32) (ckeptWas : Nat → Int32) (ckeptWays : Nat → Int32) (ckeptPoints : Nat → Int32) (cnextWas : Nat → Int32) (cnextWays : Nat → Int32) (cnowWas : Nat → Int32) (cnowWays : Nat → Int32) (cto : Nat → Int32) (x1 : Int32) (x2 : Int32) (r_ : Int32) (hf : f_M_isAlike vplanes cpx cpy cpz cplane x1 x2 = some r_) : Met l y_M_isAlike w_M_isAlike ({ frames := 1, cells := 0, slots := 0, locals := 23 }) (va_Pc [.ref qM, .int x1, .int x2] (fun U => va_P (dC, dI) vwCl (w_M qM q_px q_py q_pz q_plane q_axis q_was q_ways q_keptWas q_keptWays q_keptPoints q_nextWas q_nextWays q_nowWas q_nowWays q_to cI vthrown vpoints vplanes vaxes vkept vax vay vaz cpx cpy cpz cplane caxis cwas cways ckeptWas ckeptWays ckeptPoints cnextWas cnextWays cnowWas cnowWays cto) U.heap ∧ va_K (dC, dI) vwCl [(cI, .int), (cJ, .long), (cQ, .object "CutBodies$Contents")] U ∧ nestZ U)) (vp_Si (fun r9 => r9 = r_)) 0 0 (fun _ => False) := by
  refine Met.ofW (cc := b_M_isAlike) (maxL := 4) (ret := (some .boolean)) (by decide) rfl ?_
  intro p e s m args below meth c s₁ B hml hv
  obtain ⟨rfl, hP, hK, hZ⟩ := hv
  have hx := B.exec
  have hb := B.bytes
  have hr := B.returns
  have hts := atoms_spec (ws := w_M_isAlike) B.pre
  have ht : ∀ w ∈ wAll, w.before _ s = true := fun w h => hts w (List.mem_cons_of_mem _ h)
  have hown : s.vm.findClass R_M = some m.cls := findClass_of_methodNamed B.named
  have hlocks := B.notSynchronized
  have hP : va_P (dC, dI) vwCl (w_M qM q_px q_py q_pz q_plane q_axis q_was q_ways q_keptWas q_keptWays q_keptPoints q_nextWas q_nextWays q_nowWas q_nowWays q_to cI vthrown vpoints vplanes vaxes vkept vax vay vaz cpx cpy cpz cplane caxis cwas cways ckeptWas ckeptWays ckeptPoints cnextWas cnextWays cnowWas cnowWays cto) s.heap := hP
  have hl := lv_entry ([.ref qM, .int x1, .int x2]) (n := 4) (Nat.le_of_ble_eq_true rfl)
  rw [lg_entry_eq]
  generalize (lg_sl ([.ref qM, .int x1, .int x2]) ++ List.replicate (4 - (lg_sl ([.ref qM, .int x1, .int x2])).length) Slot.unset).toArray = ls at hl ⊢
  have hl : lv_has ls 4 [(0, .ref qM), (1, .int x1), (2, .int x2)] := hl
  refine w_abs (fun Wx toX ofX => ?_)
  have K2 : ∀ (x1 : Int32) (x2 : Int32) (n : Nat) (x3 : Int32) (ls : Array Slot), oLoop1 (f_M_isAlike_L2  vplanes cpx cpy cpz cplane x1 x2) n x3 = some r_ → lv_has ls 4 [(0, .ref qM), (1, .int x1), (2, .int x2), (3, .int x3)] → Wx s.heap [] 0 0 (F0 m 2 ls []) := by
    intro x1 x2 n
    induction n with
    | zero => intro x3 ls hf; exact (oLoop1_0 hf).elim
    | succ n ih2 =>
      obtain ⟨rec2, hrec2⟩ : ∃ z, z = oLoop1 (f_M_isAlike_L2  vplanes cpx cpy cpz cplane x1 x2) n := ⟨_, rfl⟩
      rw [← hrec2] at ih2
      intro x3 ls hf hl
      refine toX _ _ _ _ _ ?_
      have hf := oLoop1_s hf
      rw [← hrec2] at hf
      unfold f_M_isAlike_L2 at hf
      refine lv_iload_n hx hb d_M_isAlike_2 rfl (lv_at hl 3 rfl) ?_
      refine lv_aload_n hx hb d_M_isAlike_3 rfl (lv_at hl 0 rfl) ?_
      refine va_get (D := (dC, dI)) (ci := 3) (v := .int vplanes) (C := R_M) (T := T_M) (N := 23) hx hb ht in_M hown hK hP 0 rfl rfl 2 (by decide) (ht _ m_348) (fun _ h9 => h9) rfl d_M_isAlike_4 ?_
      refine lv_icmp_ge (tgt := 33) hx hb d_M_isAlike_7 (by decide) (fun c1 => ?_) (fun c1 => ?_)
      · have hf := oIf_t hf c1
        refine lv_iconst (v := 1) hx hb d_M_isAlike_33 (by decide) ?_
        cases hf
        exact W.zret (ty := .boolean) hx hb hr rfl (fun t ht hW => ⟨_, rfl, rfl, ht⟩) (fun q h => by cases h) d_M_isAlike_34
      · have hf := oIf_f hf c1
        refine lv_aload_n hx hb d_M_isAlike_10 rfl (lv_at hl 0 rfl) ?_
        refine lv_iload_n hx hb d_M_isAlike_11 rfl (lv_at hl 1 rfl) ?_
        refine lv_iload_n hx hb d_M_isAlike_12 rfl (lv_at hl 3 rfl) ?_
        obtain ⟨r2z, hfc, hf⟩ := oCall1_some hf
        have hPc := hP.sub (ws' := (w_M qM q_px q_py q_pz q_plane q_axis q_was q_ways q_keptWas q_keptWays q_keptPoints q_nextWas q_nextWays q_nowWas q_nowWays q_to cI vthrown vpoints vplanes vaxes vkept vax vay vaz cpx cpy cpz cplane caxis cwas cways ckeptWas ckeptWays ckeptPoints cnextWas cnextWays cnowWas cnowWays cto)) [0, 1, 2, 3, 4, 5, 6, 7, 8, 9, 10, 11, 12, 13, 14, 15] rfl
        refine vp_callSi (va_runV (As := [.int x1, .int x3]) (rest := []) ⟨hx, hb, hml, hown, ht⟩ (c_M_sideOf l dC dI qM q_px q_py q_pz q_plane q_axis q_was q_ways q_keptWas q_keptWays q_keptPoints q_nextWas q_nextWays q_nowWas q_nowWays q_to cI cJ cQ vthrown vpoints vplanes vaxes vkept vax vay vaz cpx cpy cpz cplane caxis cwas cways ckeptWas ckeptWays ckeptPoints cnextWas cnextWays cnowWas cnowWays cto x1 x3 r2z hfc) (cwV 2 ht (gV m_486 m_488 m_16 m_31 m_489) rfl rfl rfl (by decide +kernel) ⟨Nat.le_of_ble_eq_true rfl, Nat.le_of_ble_eq_true rfl⟩) (preRV hPc hK hZ (va_recv hK hPc (ci := 3) (q0 := 0) rfl rfl)) rfl rfl hl.1 rfl (lv_room (Nat.le_of_ble_eq_true rfl)) d_M_isAlike_13 ⟨Nat.le_of_ble_eq_true rfl, Nat.le_of_ble_eq_true rfl⟩).run (fun r2 hw => ?_)
        subst hw
        clear hPc hfc
        refine lv_aload_n hx hb d_M_isAlike_16 rfl (lv_at hl 0 rfl) ?_
        refine lv_iload_n hx hb d_M_isAlike_17 rfl (lv_at hl 2 rfl) ?_
        refine lv_iload_n hx hb d_M_isAlike_18 rfl (lv_at hl 3 rfl) ?_
        obtain ⟨r3z, hfc, hf⟩ := oCall1_some hf
        have hPc := hP.sub (ws' := (w_M qM q_px q_py q_pz q_plane q_axis q_was q_ways q_keptWas q_keptWays q_keptPoints q_nextWas q_nextWays q_nowWas q_nowWays q_to cI vthrown vpoints vplanes vaxes vkept vax vay vaz cpx cpy cpz cplane caxis cwas cways ckeptWas ckeptWays ckeptPoints cnextWas cnextWays cnowWas cnowWays cto)) [0, 1, 2, 3, 4, 5, 6, 7, 8, 9, 10, 11, 12, 13, 14, 15] rfl
        refine vp_callSi (va_runV (As := [.int x2, .int x3]) (rest := [.int r2]) ⟨hx, hb, hml, hown, ht⟩ (c_M_sideOf l dC dI qM q_px q_py q_pz q_plane q_axis q_was q_ways q_keptWas q_keptWays q_keptPoints q_nextWas q_nextWays q_nowWas q_nowWays q_to cI cJ cQ vthrown vpoints vplanes vaxes vkept vax vay vaz cpx cpy cpz cplane caxis cwas cways ckeptWas ckeptWays ckeptPoints cnextWas cnextWays cnowWas cnowWays cto x2 x3 r3z hfc) (cwV 2 ht (gV m_486 m_488 m_16 m_31 m_489) rfl rfl rfl (by decide +kernel) ⟨Nat.le_of_ble_eq_true rfl, Nat.le_of_ble_eq_true rfl⟩) (preRV hPc hK hZ (va_recv hK hPc (ci := 3) (q0 := 0) rfl rfl)) rfl rfl hl.1 rfl (lv_room (Nat.le_of_ble_eq_true rfl)) d_M_isAlike_19 ⟨Nat.le_of_ble_eq_true rfl, Nat.le_of_ble_eq_true rfl⟩).run (fun r3 hw => ?_)
        subst hw
        clear hPc hfc
        refine lv_icmp_eq (tgt := 27) hx hb d_M_isAlike_22 (by decide) (fun c4 => ?_) (fun c4 => ?_)
        · have hf := oIf_t hf c4
          obtain ⟨v5, ev5, hf⟩ := oLet_ex hf
          refine lv_iinc (v := v5) (lv' := [(3, .int v5), (0, .ref qM), (1, .int x1), (2, .int x2)]) hx hb d_M_isAlike_27 hl (k := 3) rfl (by rw [ev5]; rfl) (by decide) rfl (fun ls hl => ?_)
          refine lv_goto (tgt := 2) hx hb d_M_isAlike_30 (by decide) ?_
          exact ofX _ _ _ _ _ (ih2 v5 _ hf (lv_sub hl [1, 2, 3, 0] rfl))
        · have hf := oIf_f hf c4
          refine lv_iconst (v := 0) hx hb d_M_isAlike_25 (by decide) ?_
          cases hf
          exact W.zret (ty := .boolean) hx hb hr rfl (fun t ht hW => ⟨_, rfl, rfl, ht⟩) (fun q h => by cases h) d_M_isAlike_26
  refine toX _ _ _ _ _ ?_
  unfold f_M_isAlike at hf
  refine lv_iconst (v := 0) hx hb d_M_isAlike_0 (by decide) ?_
  refine lv_istore_n (lv' := [(3, .int 0), (0, .ref qM), (1, .int x1), (2, .int x2)]) hx hb d_M_isAlike_1 rfl hl (by decide) rfl (fun ls hl => ?_)
  exact ofX _ _ _ _ _ (K2 x1 x2 _ 0 _ hf (lv_sub hl [1, 2, 3, 0] rfl))
set_option maxHeartbeats 4000000 in
set_option maxRecDepth 100000 in
theorem c_M_leastOf (l : Launch) (dC : Nat → ClassId) (dI : Nat → Nat → Nat) (qM q_px q_py q_pz q_plane q_axis q_was q_ways q_keptWas q_keptWays q_keptPoints q_nextWas q_nextWays q_nowWas q_nowWays q_to : Nat) (cI cJ cQ : ClassId) (vthrown : Int32) (vpoints : Int32) (vplanes : Int32) (vaxes : Int32) (vkept : Int32) (vax : Int32) (vay : Int32) (vaz : Int32) (cpx : Nat → Int32) (cpy : Nat → Int32) (cpz : Nat → Int32) (cplane : Nat → Int32) (caxis : Nat → Int32) (cwas : Nat → Int32) (cways : Nat → Int32) (ckeptWas : Nat → Int32) (ckeptWays : Nat → Int32) (ckeptPoints : Nat → Int32) (cnextWas : Nat → Int32) (cnextWays : Nat → Int32) (cnowWas : Nat → Int32) (cnowWays : Nat → Int32) (cto : Nat → Int32) (x1 : Int32) (r_ : Int32) (hf : f_M_leastOf vplanes cpx cpy cpz cplane x1 = some r_) : Met l y_M_leastOf w_M_leastOf ({ frames := 2, cells := 0, slots := 0, locals := 46 }) (va_Pc [.ref qM, .int x1] (fun U => va_P (dC, dI) vwCl (w_M qM q_px q_py q_pz q_plane q_axis q_was q_ways q_keptWas q_keptWays q_keptPoints q_nextWas q_nextWays q_nowWas q_nowWays q_to cI vthrown vpoints vplanes vaxes vkept vax vay vaz cpx cpy cpz cplane caxis cwas cways ckeptWas ckeptWays ckeptPoints cnextWas cnextWays cnowWas cnowWays cto) U.heap ∧ va_K (dC, dI) vwCl [(cI, .int), (cJ, .long), (cQ, .object "CutBodies$Contents")] U ∧ nestZ U)) (vp_Si (fun r9 => r9 = r_)) 0 0 (fun _ => False) := by
  refine Met.ofW (cc := b_M_leastOf) (maxL := 3) (ret := (some .int)) (by decide) rfl ?_
  intro p e s m args below meth c s₁ B hml hv
  obtain ⟨rfl, hP, hK, hZ⟩ := hv
  have hx := B.exec
  have hb := B.bytes
  have hr := B.returns
  have hts := atoms_spec (ws := w_M_leastOf) B.pre
  have ht : ∀ w ∈ wAll, w.before _ s = true := fun w h => hts w (List.mem_cons_of_mem _ h)
  have hown : s.vm.findClass R_M = some m.cls := findClass_of_methodNamed B.named
  have hlocks := B.notSynchronized
  have hP : va_P (dC, dI) vwCl (w_M qM q_px q_py q_pz q_plane q_axis q_was q_ways q_keptWas q_keptWays q_keptPoints q_nextWas q_nextWays q_nowWas q_nowWays q_to cI vthrown vpoints vplanes vaxes vkept vax vay vaz cpx cpy cpz cplane caxis cwas cways ckeptWas ckeptWays ckeptPoints cnextWas cnextWays cnowWas cnowWays cto) s.heap := hP
  have hl := lv_entry ([.ref qM, .int x1]) (n := 3) (Nat.le_of_ble_eq_true rfl)
  rw [lg_entry_eq]
  generalize (lg_sl ([.ref qM, .int x1]) ++ List.replicate (3 - (lg_sl ([.ref qM, .int x1])).length) Slot.unset).toArray = ls at hl ⊢
  have hl : lv_has ls 3 [(0, .ref qM), (1, .int x1)] := hl
  refine w_abs (fun Wx toX ofX => ?_)
  have K2 : ∀ (x1 : Int32) (n : Nat) (x2 : Int32) (ls : Array Slot), oLoop1 (f_M_leastOf_L2  vplanes cpx cpy cpz cplane x1) n x2 = some r_ → lv_has ls 3 [(0, .ref qM), (1, .int x1), (2, .int x2)] → Wx s.heap [] 0 0 (F0 m 2 ls []) := by
    intro x1 n
    induction n with
    | zero => intro x2 ls hf; exact (oLoop1_0 hf).elim
    | succ n ih2 =>
      obtain ⟨rec2, hrec2⟩ : ∃ z, z = oLoop1 (f_M_leastOf_L2  vplanes cpx cpy cpz cplane x1) n := ⟨_, rfl⟩
      rw [← hrec2] at ih2
      intro x2 ls hf hl
      refine toX _ _ _ _ _ ?_
      have hf := oLoop1_s hf
      rw [← hrec2] at hf
      unfold f_M_leastOf_L2 at hf
      refine lv_aload_n hx hb d_M_leastOf_2 rfl (lv_at hl 0 rfl) ?_
      refine lv_iload_n hx hb d_M_leastOf_3 rfl (lv_at hl 1 rfl) ?_
      refine lv_iload_n hx hb d_M_leastOf_4 rfl (lv_at hl 2 rfl) ?_
      obtain ⟨r1z, hfc, hf⟩ := oCall1_some hf
      have hPc := hP.sub (ws' := (w_M qM q_px q_py q_pz q_plane q_axis q_was q_ways q_keptWas q_keptWays q_keptPoints q_nextWas q_nextWays q_nowWas q_nowWays q_to cI vthrown vpoints vplanes vaxes vkept vax vay vaz cpx cpy cpz cplane caxis cwas cways ckeptWas ckeptWays ckeptPoints cnextWas cnextWays cnowWas cnowWays cto)) [0, 1, 2, 3, 4, 5, 6, 7, 8, 9, 10, 11, 12, 13, 14, 15] rfl
      refine vp_callSi (va_runV (As := [.int x1, .int x2]) (rest := []) ⟨hx, hb, hml, hown, ht⟩ (c_M_isAlike l dC dI qM q_px q_py q_pz q_plane q_axis q_was q_ways q_keptWas q_keptWays q_keptPoints q_nextWas q_nextWays q_nowWas q_nowWays q_to cI cJ cQ vthrown vpoints vplanes vaxes vkept vax vay vaz cpx cpy cpz cplane caxis cwas cways ckeptWas ckeptWays ckeptPoints cnextWas cnextWays cnowWas cnowWays cto x1 x2 r1z hfc) (cwV 2 ht (gV m_502 m_504 m_19 m_31 m_505) rfl rfl rfl (by decide +kernel) ⟨Nat.le_of_ble_eq_true rfl, Nat.le_of_ble_eq_true rfl⟩) (preRV hPc hK hZ (va_recv hK hPc (ci := 3) (q0 := 0) rfl rfl)) rfl rfl hl.1 rfl (lv_room (Nat.le_of_ble_eq_true rfl)) d_M_leastOf_5 ⟨Nat.le_of_ble_eq_true rfl, Nat.le_of_ble_eq_true rfl⟩).run (fun r1 hw => ?_)
      subst hw
      clear hPc hfc
      refine lv_if_ne (tgt := 17) hx hb d_M_leastOf_8 (by decide) (fun c2 => ?_) (fun c2 => ?_)
      · have hf := oIf_f hf c2
        refine lv_iload_n hx hb d_M_leastOf_17 rfl (lv_at hl 2 rfl) ?_
        cases hf
        exact W.iret hx hb hr (fun t ht hW => ⟨_, rfl, rfl, ht⟩) (fun q h => by cases h) d_M_leastOf_18
      · have hf := oIf_t hf c2
        obtain ⟨v3, ev3, hf⟩ := oLet_ex hf
        refine lv_iinc (v := v3) (lv' := [(2, .int v3), (0, .ref qM), (1, .int x1)]) hx hb d_M_leastOf_11 hl (k := 2) rfl (by rw [ev3]; rfl) (by decide) rfl (fun ls hl => ?_)
        refine lv_goto (tgt := 2) hx hb d_M_leastOf_14 (by decide) ?_
        exact ofX _ _ _ _ _ (ih2 v3 _ hf (lv_sub hl [1, 2, 0] rfl))
  refine toX _ _ _ _ _ ?_
  unfold f_M_leastOf at hf
  refine lv_iconst (v := 0) hx hb d_M_leastOf_0 (by decide) ?_
  refine lv_istore_n (lv' := [(2, .int 0), (0, .ref qM), (1, .int x1)]) hx hb d_M_leastOf_1 rfl hl (by decide) rfl (fun ls hl => ?_)
  exact ofX _ _ _ _ _ (K2 x1 _ 0 _ hf (lv_sub hl [1, 2, 0] rfl))
set_option maxHeartbeats 4000000 in
set_option maxRecDepth 100000 in
theorem c_M_piecesTo (l : Launch) (dC : Nat → ClassId) (dI : Nat → Nat → Nat) (qM q_px q_py q_pz q_plane q_axis q_was q_ways q_keptWas q_keptWays q_keptPoints q_nextWas q_nextWays q_nowWas q_nowWays q_to : Nat) (cI cJ cQ : ClassId) (vthrown : Int32) (vpoints : Int32) (vplanes : Int32) (vaxes : Int32) (vkept : Int32) (vax : Int32) (vay : Int32) (vaz : Int32) (cpx : Nat → Int32) (cpy : Nat → Int32) (cpz : Nat → Int32) (cplane : Nat → Int32) (caxis : Nat → Int32) (cwas : Nat → Int32) (cways : Nat → Int32) (ckeptWas : Nat → Int32) (ckeptWays : Nat → Int32) (ckeptPoints : Nat → Int32) (cnextWas : Nat → Int32) (cnextWays : Nat → Int32) (cnowWas : Nat → Int32) (cnowWays : Nat → Int32) (cto : Nat → Int32) (x1 : Int32) (r_ : Int32) (hf : f_M_piecesTo vplanes cpx cpy cpz cplane x1 = some r_) : Met l y_M_piecesTo w_M_piecesTo ({ frames := 3, cells := 0, slots := 0, locals := 68 }) (va_Pc [.ref qM, .int x1] (fun U => va_P (dC, dI) vwCl (w_M qM q_px q_py q_pz q_plane q_axis q_was q_ways q_keptWas q_keptWays q_keptPoints q_nextWas q_nextWays q_nowWas q_nowWays q_to cI vthrown vpoints vplanes vaxes vkept vax vay vaz cpx cpy cpz cplane caxis cwas cways ckeptWas ckeptWays ckeptPoints cnextWas cnextWays cnowWas cnowWays cto) U.heap ∧ va_K (dC, dI) vwCl [(cI, .int), (cJ, .long), (cQ, .object "CutBodies$Contents")] U ∧ nestZ U)) (vp_Si (fun r9 => r9 = r_)) 0 0 (fun _ => False) := by
  refine Met.ofW (cc := b_M_piecesTo) (maxL := 4) (ret := (some .int)) (by decide) rfl ?_
  intro p e s m args below meth c s₁ B hml hv
  obtain ⟨rfl, hP, hK, hZ⟩ := hv
  have hx := B.exec
  have hb := B.bytes
  have hr := B.returns
  have hts := atoms_spec (ws := w_M_piecesTo) B.pre
  have ht : ∀ w ∈ wAll, w.before _ s = true := fun w h => hts w (List.mem_cons_of_mem _ h)
  have hown : s.vm.findClass R_M = some m.cls := findClass_of_methodNamed B.named
  have hlocks := B.notSynchronized
  have hP : va_P (dC, dI) vwCl (w_M qM q_px q_py q_pz q_plane q_axis q_was q_ways q_keptWas q_keptWays q_keptPoints q_nextWas q_nextWays q_nowWas q_nowWays q_to cI vthrown vpoints vplanes vaxes vkept vax vay vaz cpx cpy cpz cplane caxis cwas cways ckeptWas ckeptWays ckeptPoints cnextWas cnextWays cnowWas cnowWays cto) s.heap := hP
  have hl := lv_entry ([.ref qM, .int x1]) (n := 4) (Nat.le_of_ble_eq_true rfl)
  rw [lg_entry_eq]
  generalize (lg_sl ([.ref qM, .int x1]) ++ List.replicate (4 - (lg_sl ([.ref qM, .int x1])).length) Slot.unset).toArray = ls at hl ⊢
  have hl : lv_has ls 4 [(0, .ref qM), (1, .int x1)] := hl
  refine w_abs (fun Wx toX ofX => ?_)
  have K4 : ∀ (x1 : Int32) (n : Nat) (x2 : Int32) (x3 : Int32) (ls : Array Slot), oLoop2 (f_M_piecesTo_L4  vplanes cpx cpy cpz cplane x1) n x2 x3 = some r_ → lv_has ls 4 [(0, .ref qM), (1, .int x1), (2, .int x2), (3, .int x3)] → Wx s.heap [] 0 0 (F0 m 4 ls []) := by
    intro x1 n
    induction n with
    | zero => intro x2 x3 ls hf; exact (oLoop2_0 hf).elim
    | succ n ih4 =>
      obtain ⟨rec4, hrec4⟩ : ∃ z, z = oLoop2 (f_M_piecesTo_L4  vplanes cpx cpy cpz cplane x1) n := ⟨_, rfl⟩
      rw [← hrec4] at ih4
      have K24 : ∀ (x3 : Int32) (t0 : Int32) (t1 : Int32) (ls : Array Slot), f_M_piecesTo_J24 rec4 vplanes cpx cpy cpz cplane x1 x3 t0 t1 = some r_ → lv_has ls 4 [(0, .ref qM), (1, .int x1), (3, .int x3)] → Wx s.heap [] 0 0 (F0 m 24 ls [.int t1, .int t0]) := by
        intro x3 t0 t1 ls hf hl
        refine toX _ _ _ _ _ ?_
        unfold f_M_piecesTo_J24 at hf
        refine lv_iadd hx hb d_M_piecesTo_24 ?_
        refine lv_topi (fun v1 ev1 => ?_)
        have hf := oLet_some hf ev1
        refine lv_istore_n (lv' := [(2, .int v1), (0, .ref qM), (1, .int x1), (3, .int x3)]) hx hb d_M_piecesTo_25 rfl hl (by decide) rfl (fun ls hl => ?_)
        obtain ⟨v2, ev2, hf⟩ := oLet_ex hf
        refine lv_iinc (v := v2) (lv' := [(3, .int v2), (2, .int v1), (0, .ref qM), (1, .int x1)]) hx hb d_M_piecesTo_26 hl (k := 3) rfl (by rw [ev2]; rfl) (by decide) rfl (fun ls hl => ?_)
        refine lv_goto (tgt := 4) hx hb d_M_piecesTo_29 (by decide) ?_
        exact ofX _ _ _ _ _ (ih4 v1 v2 _ hf (lv_sub hl [2, 3, 1, 0] rfl))
      intro x2 x3 ls hf hl
      refine toX _ _ _ _ _ ?_
      have hf := oLoop2_s hf
      rw [← hrec4] at hf
      unfold f_M_piecesTo_L4 at hf
      refine lv_iload_n hx hb d_M_piecesTo_4 rfl (lv_at hl 3 rfl) ?_
      refine lv_iload_n hx hb d_M_piecesTo_5 rfl (lv_at hl 1 rfl) ?_
      refine lv_icmp_ge (tgt := 32) hx hb d_M_piecesTo_6 (by decide) (fun c3 => ?_) (fun c3 => ?_)
      · have hf := oIf_t hf c3
        refine lv_iload_n hx hb d_M_piecesTo_32 rfl (lv_at hl 2 rfl) ?_
        cases hf
        exact W.iret hx hb hr (fun t ht hW => ⟨_, rfl, rfl, ht⟩) (fun q h => by cases h) d_M_piecesTo_33
      · have hf := oIf_f hf c3
        refine lv_iload_n hx hb d_M_piecesTo_9 rfl (lv_at hl 2 rfl) ?_
        refine lv_aload_n hx hb d_M_piecesTo_10 rfl (lv_at hl 0 rfl) ?_
        refine lv_iload_n hx hb d_M_piecesTo_11 rfl (lv_at hl 3 rfl) ?_
        obtain ⟨r4z, hfc, hf⟩ := oCall1_some hf
        have hPc := hP.sub (ws' := (w_M qM q_px q_py q_pz q_plane q_axis q_was q_ways q_keptWas q_keptWays q_keptPoints q_nextWas q_nextWays q_nowWas q_nowWays q_to cI vthrown vpoints vplanes vaxes vkept vax vay vaz cpx cpy cpz cplane caxis cwas cways ckeptWas ckeptWays ckeptPoints cnextWas cnextWays cnowWas cnowWays cto)) [0, 1, 2, 3, 4, 5, 6, 7, 8, 9, 10, 11, 12, 13, 14, 15] rfl
        refine vp_callSi (va_runV (As := [.int x3]) (rest := [.int x2]) ⟨hx, hb, hml, hown, ht⟩ (c_M_leastOf l dC dI qM q_px q_py q_pz q_plane q_axis q_was q_ways q_keptWas q_keptWays q_keptPoints q_nextWas q_nextWays q_nowWas q_nowWays q_to cI cJ cQ vthrown vpoints vplanes vaxes vkept vax vay vaz cpx cpy cpz cplane caxis cwas cways ckeptWas ckeptWays ckeptPoints cnextWas cnextWays cnowWas cnowWays cto x3 r4z hfc) (cwV 1 ht (gV m_498 m_500 m_18 m_31 m_501) rfl rfl rfl (by decide +kernel) ⟨Nat.le_of_ble_eq_true rfl, Nat.le_of_ble_eq_true rfl⟩) (preRV hPc hK hZ (va_recv hK hPc (ci := 3) (q0 := 0) rfl rfl)) rfl rfl hl.1 rfl (lv_room (Nat.le_of_ble_eq_true rfl)) d_M_piecesTo_12 ⟨Nat.le_of_ble_eq_true rfl, Nat.le_of_ble_eq_true rfl⟩).run (fun r4 hw => ?_)
        subst hw
        clear hPc hfc
        refine lv_iload_n hx hb d_M_piecesTo_15 rfl (lv_at hl 3 rfl) ?_
        refine lv_icmp_ne (tgt := 23) hx hb d_M_piecesTo_16 (by decide) (fun c5 => ?_) (fun c5 => ?_)
        · have hf := oIf_f hf c5
          refine lv_iconst (v := 0) hx hb d_M_piecesTo_23 (by decide) ?_
          exact ofX _ _ _ _ _ (K24  x3 x2 0 _ hf (lv_sub hl [0, 1, 3] rfl))
        · have hf := oIf_t hf c5
          refine lv_iconst (v := 1) hx hb d_M_piecesTo_19 (by decide) ?_
          refine lv_goto (tgt := 24) hx hb d_M_piecesTo_20 (by decide) ?_
          exact ofX _ _ _ _ _ (K24  x3 x2 1 _ hf (lv_sub hl [0, 1, 3] rfl))
  refine toX _ _ _ _ _ ?_
  unfold f_M_piecesTo at hf
  refine lv_iconst (v := 0) hx hb d_M_piecesTo_0 (by decide) ?_
  refine lv_istore_n (lv' := [(2, .int 0), (0, .ref qM), (1, .int x1)]) hx hb d_M_piecesTo_1 rfl hl (by decide) rfl (fun ls hl => ?_)
  refine lv_iconst (v := 0) hx hb d_M_piecesTo_2 (by decide) ?_
  refine lv_istore_n (lv' := [(3, .int 0), (2, .int 0), (0, .ref qM), (1, .int x1)]) hx hb d_M_piecesTo_3 rfl hl (by decide) rfl (fun ls hl => ?_)
  exact ofX _ _ _ _ _ (K4 x1 _ 0 0 _ hf (lv_sub hl [2, 3, 1, 0] rfl))
set_option maxHeartbeats 4000000 in
set_option maxRecDepth 100000 in
theorem c_M_isNow (l : Launch) (dC : Nat → ClassId) (dI : Nat → Nat → Nat) (qM q_px q_py q_pz q_plane q_axis q_was q_ways q_keptWas q_keptWays q_keptPoints q_nextWas q_nextWays q_nowWas q_nowWays q_to : Nat) (cI cJ cQ : ClassId) (vthrown : Int32) (vpoints : Int32) (vplanes : Int32) (vaxes : Int32) (vkept : Int32) (vax : Int32) (vay : Int32) (vaz : Int32) (cpx : Nat → Int32) (cpy : Nat → Int32) (cpz : Nat → Int32) (cplane : Nat → Int32) (caxis : Nat → Int32) (cwas : Nat → Int32) (cways : Nat → Int32) (ckeptWas : Nat → Int32) (ckeptWays : Nat → Int32) (ckeptPoints : Nat → Int32) (cnextWas : Nat → Int32) (cnextWays : Nat → Int32) (cnowWas : Nat → Int32) (cnowWays : Nat → Int32) (cto : Nat → Int32) (r_ : Int32) (hf : f_M_isNow vpoints cwas cways cnowWas cnowWays = some r_) : Met l y_M_isNow w_M_isNow ({ frames := 0, cells := 0, slots := 0, locals := 0 }) (va_Pc [.ref qM] (fun U => va_P (dC, dI) vwCl (w_M qM q_px q_py q_pz q_plane q_axis q_was q_ways q_keptWas q_keptWays q_keptPoints q_nextWas q_nextWays q_nowWas q_nowWays q_to cI vthrown vpoints vplanes vaxes vkept vax vay vaz cpx cpy cpz cplane caxis cwas cways ckeptWas ckeptWays ckeptPoints cnextWas cnextWays cnowWas cnowWays cto) U.heap ∧ va_K (dC, dI) vwCl [(cI, .int), (cJ, .long), (cQ, .object "CutBodies$Contents")] U ∧ nestZ U)) (vp_Si (fun r9 => r9 = r_)) 0 0 (fun _ => False) := by
  refine Met.ofW (cc := b_M_isNow) (maxL := 2) (ret := (some .boolean)) (by decide) rfl ?_
  intro p e s m args below meth c s₁ B hml hv
  obtain ⟨rfl, hP, hK, hZ⟩ := hv
  have hx := B.exec
  have hb := B.bytes
  have hr := B.returns
  have hts := atoms_spec (ws := w_M_isNow) B.pre
  have ht : ∀ w ∈ wAll, w.before _ s = true := fun w h => hts w (List.mem_cons_of_mem _ h)
  have hown : s.vm.findClass R_M = some m.cls := findClass_of_methodNamed B.named
  have hlocks := B.notSynchronized
  have hP : va_P (dC, dI) vwCl (w_M qM q_px q_py q_pz q_plane q_axis q_was q_ways q_keptWas q_keptWays q_keptPoints q_nextWas q_nextWays q_nowWas q_nowWays q_to cI vthrown vpoints vplanes vaxes vkept vax vay vaz cpx cpy cpz cplane caxis cwas cways ckeptWas ckeptWays ckeptPoints cnextWas cnextWays cnowWas cnowWays cto) s.heap := hP
  have hl := lv_entry ([.ref qM]) (n := 2) (Nat.le_of_ble_eq_true rfl)
  rw [lg_entry_eq]
  generalize (lg_sl ([.ref qM]) ++ List.replicate (2 - (lg_sl ([.ref qM])).length) Slot.unset).toArray = ls at hl ⊢
  have hl : lv_has ls 2 [(0, .ref qM)] := hl
  refine w_abs (fun Wx toX ofX => ?_)
  have K2 : ∀ (n : Nat) (x1 : Int32) (ls : Array Slot), oLoop1 (f_M_isNow_L2  vpoints cwas cways cnowWas cnowWays) n x1 = some r_ → lv_has ls 2 [(0, .ref qM), (1, .int x1)] → Wx s.heap [] 0 0 (F0 m 2 ls []) := by
    intro  n
    induction n with
    | zero => intro x1 ls hf; exact (oLoop1_0 hf).elim
    | succ n ih2 =>
      obtain ⟨rec2, hrec2⟩ : ∃ z, z = oLoop1 (f_M_isNow_L2  vpoints cwas cways cnowWas cnowWays) n := ⟨_, rfl⟩
      rw [← hrec2] at ih2
      intro x1 ls hf hl
      refine toX _ _ _ _ _ ?_
      have hf := oLoop1_s hf
      rw [← hrec2] at hf
      unfold f_M_isNow_L2 at hf
      refine lv_iload_n hx hb d_M_isNow_2 rfl (lv_at hl 1 rfl) ?_
      refine lv_aload_n hx hb d_M_isNow_3 rfl (lv_at hl 0 rfl) ?_
      refine va_get (D := (dC, dI)) (ci := 3) (v := .int vpoints) (C := R_M) (T := T_M) (N := 23) hx hb ht in_M hown hK hP 0 rfl rfl 1 (by decide) (ht _ m_347) (fun _ h9 => h9) rfl d_M_isNow_4 ?_
      refine lv_icmp_ge (tgt := 48) hx hb d_M_isNow_7 (by decide) (fun c1 => ?_) (fun c1 => ?_)
      · have hf := oIf_t hf c1
        refine lv_iconst (v := 1) hx hb d_M_isNow_48 (by decide) ?_
        cases hf
        exact W.zret (ty := .boolean) hx hb hr rfl (fun t ht hW => ⟨_, rfl, rfl, ht⟩) (fun q h => by cases h) d_M_isNow_49
      · have hf := oIf_f hf c1
        refine lv_aload_n hx hb d_M_isNow_10 rfl (lv_at hl 0 rfl) ?_
        refine va_get (D := (dC, dI)) (ci := 3) (v := .ref q_was) (C := R_M) (T := T_M) (N := 23) hx hb ht in_M hown hK hP 0 rfl rfl 9 (by decide) (ht _ m_355) (fun _ h9 => h9) rfl d_M_isNow_11 ?_
        refine lv_iload_n hx hb d_M_isNow_14 rfl (lv_at hl 1 rfl) ?_
        obtain ⟨hi2, hf⟩ := oIn_some hf
        refine va_iald hx hb hK hP 6 0 rfl rfl hi2 d_M_isNow_15 ?_
        refine lv_aload_n hx hb d_M_isNow_16 rfl (lv_at hl 0 rfl) ?_
        refine va_get (D := (dC, dI)) (ci := 3) (v := .ref q_nowWas) (C := R_M) (T := T_M) (N := 23) hx hb ht in_M hown hK hP 0 rfl rfl 20 (by decide) (ht _ m_366) (fun _ h9 => h9) rfl d_M_isNow_17 ?_
        refine lv_iload_n hx hb d_M_isNow_20 rfl (lv_at hl 1 rfl) ?_
        obtain ⟨hi3, hf⟩ := oIn_some hf
        refine va_iald hx hb hK hP 13 0 rfl rfl hi3 d_M_isNow_21 ?_
        refine lv_icmp_ne (tgt := 40) hx hb d_M_isNow_22 (by decide) (fun c4 => ?_) (fun c4 => ?_)
        · have hf := oIf_f hf c4
          refine lv_iconst (v := 0) hx hb d_M_isNow_40 (by decide) ?_
          cases hf
          exact W.zret (ty := .boolean) hx hb hr rfl (fun t ht hW => ⟨_, rfl, rfl, ht⟩) (fun q h => by cases h) d_M_isNow_41
        · have hf := oIf_t hf c4
          refine lv_aload_n hx hb d_M_isNow_25 rfl (lv_at hl 0 rfl) ?_
          refine va_get (D := (dC, dI)) (ci := 3) (v := .ref q_ways) (C := R_M) (T := T_M) (N := 23) hx hb ht in_M hown hK hP 0 rfl rfl 10 (by decide) (ht _ m_356) (fun _ h9 => h9) rfl d_M_isNow_26 ?_
          refine lv_iload_n hx hb d_M_isNow_29 rfl (lv_at hl 1 rfl) ?_
          obtain ⟨hi5, hf⟩ := oIn_some hf
          refine va_iald hx hb hK hP 7 0 rfl rfl hi5 d_M_isNow_30 ?_
          refine lv_aload_n hx hb d_M_isNow_31 rfl (lv_at hl 0 rfl) ?_
          refine va_get (D := (dC, dI)) (ci := 3) (v := .ref q_nowWays) (C := R_M) (T := T_M) (N := 23) hx hb ht in_M hown hK hP 0 rfl rfl 21 (by decide) (ht _ m_367) (fun _ h9 => h9) rfl d_M_isNow_32 ?_
          refine lv_iload_n hx hb d_M_isNow_35 rfl (lv_at hl 1 rfl) ?_
          obtain ⟨hi6, hf⟩ := oIn_some hf
          refine va_iald hx hb hK hP 14 0 rfl rfl hi6 d_M_isNow_36 ?_
          refine lv_icmp_eq (tgt := 42) hx hb d_M_isNow_37 (by decide) (fun c7 => ?_) (fun c7 => ?_)
          · have hf := oIf_t hf c7
            obtain ⟨v8, ev8, hf⟩ := oLet_ex hf
            refine lv_iinc (v := v8) (lv' := [(1, .int v8), (0, .ref qM)]) hx hb d_M_isNow_42 hl (k := 1) rfl (by rw [ev8]; rfl) (by decide) rfl (fun ls hl => ?_)
            refine lv_goto (tgt := 2) hx hb d_M_isNow_45 (by decide) ?_
            exact ofX _ _ _ _ _ (ih2 v8 _ hf (lv_sub hl [1, 0] rfl))
          · have hf := oIf_f hf c7
            refine lv_iconst (v := 0) hx hb d_M_isNow_40 (by decide) ?_
            cases hf
            exact W.zret (ty := .boolean) hx hb hr rfl (fun t ht hW => ⟨_, rfl, rfl, ht⟩) (fun q h => by cases h) d_M_isNow_41
  refine toX _ _ _ _ _ ?_
  unfold f_M_isNow at hf
  refine lv_iconst (v := 0) hx hb d_M_isNow_0 (by decide) ?_
  refine lv_istore_n (lv' := [(1, .int 0), (0, .ref qM)]) hx hb d_M_isNow_1 rfl hl (by decide) rfl (fun ls hl => ?_)
  exact ofX _ _ _ _ _ (K2  _ 0 _ hf (lv_sub hl [1, 0] rfl))

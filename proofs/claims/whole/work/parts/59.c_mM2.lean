set_option maxHeartbeats 4000000 in
set_option maxRecDepth 100000 in
theorem c_M_order (l : Launch) (dC : Nat → ClassId) (dI : Nat → Nat → Nat) (qM q_px q_py q_pz q_plane q_axis q_was q_ways q_keptWas q_keptWays q_keptPoints q_nextWas q_nextWays q_nowWas q_nowWays q_to : Nat) (cI cJ cQ : ClassId) (sz : Nat) (vthrown : Int32) (vpoints : Int32) (vplanes : Int32) (vaxes : Int32) (vkept : Int32) (vax : Int32) (vay : Int32) (vaz : Int32) (cpx : Nat → Int32) (cpy : Nat → Int32) (cpz : Nat → Int32) (cplane : Nat → Int32) (caxis : Nat → Int32) (cwas : Nat → Int32) (cways : Nat → Int32) (ckeptWas : Nat → Int32) (ckeptWays : Nat → Int32) (ckeptPoints : Nat → Int32) (cnextWas : Nat → Int32) (cnextWays : Nat → Int32) (cnowWas : Nat → Int32) (cnowWays : Nat → Int32) (cto : Nat → Int32) (x1 : Int32) (r_ : Int32) (o_vthrown : Int32) (hf : f_M_order vthrown vaxes caxis x1 = some (r_, o_vthrown)) : Met l y_M_order w_M_order ({ frames := 1, cells := 0, slots := 0, locals := 23 }) (va_Pc [.ref qM, .int x1] (fun U => U.heap.size = sz ∧ va_P (dC, dI) vwCl (w_M qM q_px q_py q_pz q_plane q_axis q_was q_ways q_keptWas q_keptWays q_keptPoints q_nextWas q_nextWays q_nowWas q_nowWays q_to cI vthrown vpoints vplanes vaxes vkept vax vay vaz cpx cpy cpz cplane caxis cwas cways ckeptWas ckeptWays ckeptPoints cnextWas cnextWays cnowWas cnowWays cto) U.heap ∧ va_K (dC, dI) vwCl [(cI, .int), (cJ, .long), (cQ, .object "CutBodies$Contents")] U ∧ nestZ U ∧ va_D (fun _ => True) (w_M qM q_px q_py q_pz q_plane q_axis q_was q_ways q_keptWas q_keptWays q_keptPoints q_nextWas q_nextWays q_nowWas q_nowWays q_to cI vthrown vpoints vplanes vaxes vkept vax vay vaz cpx cpy cpz cplane caxis cwas cways ckeptWas ckeptWays ckeptPoints cnextWas cnextWays cnowWas cnowWays cto))) (va_Qi (fun (r9 : Int32) (_ : Unit) => r9 = r_) (fun _ t => va_P (dC, dI) vwCl (w_M qM q_px q_py q_pz q_plane q_axis q_was q_ways q_keptWas q_keptWays q_keptPoints q_nextWas q_nextWays q_nowWas q_nowWays q_to cI o_vthrown vpoints vplanes vaxes vkept vax vay vaz cpx cpy cpz cplane caxis cwas cways ckeptWas ckeptWays ckeptPoints cnextWas cnextWays cnowWas cnowWays cto) t.heap ∧ va_D (va_A (w_M qM q_px q_py q_pz q_plane q_axis q_was q_ways q_keptWas q_keptWays q_keptPoints q_nextWas q_nextWays q_nowWas q_nowWays q_to cI vthrown vpoints vplanes vaxes vkept vax vay vaz cpx cpy cpz cplane caxis cwas cways ckeptWas ckeptWays ckeptPoints cnextWas cnextWays cnowWas cnowWays cto) sz) (w_M qM q_px q_py q_pz q_plane q_axis q_was q_ways q_keptWas q_keptWays q_keptPoints q_nextWas q_nextWays q_nowWas q_nowWays q_to cI o_vthrown vpoints vplanes vaxes vkept vax vay vaz cpx cpy cpz cplane caxis cwas cways ckeptWas ckeptWays ckeptPoints cnextWas cnextWays cnowWas cnowWays cto)) (va_A (w_M qM q_px q_py q_pz q_plane q_axis q_was q_ways q_keptWas q_keptWays q_keptPoints q_nextWas q_nextWays q_nowWas q_nowWays q_to cI vthrown vpoints vplanes vaxes vkept vax vay vaz cpx cpy cpz cplane caxis cwas cways ckeptWas ckeptWays ckeptPoints cnextWas cnextWays cnowWas cnowWays cto) sz)) 0 0 (va_A (w_M qM q_px q_py q_pz q_plane q_axis q_was q_ways q_keptWas q_keptWays q_keptPoints q_nextWas q_nextWays q_nowWas q_nowWays q_to cI vthrown vpoints vplanes vaxes vkept vax vay vaz cpx cpy cpz cplane caxis cwas cways ckeptWas ckeptWays ckeptPoints cnextWas cnextWays cnowWas cnowWays cto) sz) := by
  refine Met.ofW (cc := b_M_order) (maxL := 2) (ret := (some .int)) (by decide) rfl ?_
  intro p e s m args below meth c s₁ B hml hv
  obtain ⟨rfl, hsz, hP, hK, hZ, hD0⟩ := hv
  have hx := B.exec
  have hb := B.bytes
  have hr := B.returns
  have hts := atoms_spec (ws := w_M_order) B.pre
  have ht : ∀ w ∈ wAll, w.before _ s = true := fun w h => hts w (List.mem_cons_of_mem _ h)
  have hown : s.vm.findClass R_M = some m.cls := findClass_of_methodNamed B.named
  have hlocks := B.notSynchronized
  subst hsz
  have hD := hD0.self (sz := s.heap.size)
  generalize hAe : va_A (w_M qM q_px q_py q_pz q_plane q_axis q_was q_ways q_keptWas q_keptWays q_keptPoints q_nextWas q_nextWays q_nowWas q_nowWays q_to cI vthrown vpoints vplanes vaxes vkept vax vay vaz cpx cpy cpz cplane caxis cwas cways ckeptWas ckeptWays ckeptPoints cnextWas cnextWays cnowWas cnowWays cto) s.heap.size = A at hD ⊢
  have hA : ∀ q : Nat, s.heap.size ≤ q → A q := fun q h => by rw [← hAe]; exact Or.inr h
  have hS : va_S A s.heap s.heap [] := va_S.rf
  have hP : va_P (dC, dI) vwCl (w_M qM q_px q_py q_pz q_plane q_axis q_was q_ways q_keptWas q_keptWays q_keptPoints q_nextWas q_nextWays q_nowWas q_nowWays q_to cI vthrown vpoints vplanes vaxes vkept vax vay vaz cpx cpy cpz cplane caxis cwas cways ckeptWas ckeptWays ckeptPoints cnextWas cnextWays cnowWas cnowWays cto) s.heap := hP
  have hl := lv_entry ([.ref qM, .int x1]) (n := 2) (Nat.le_of_ble_eq_true rfl)
  rw [lg_entry_eq]
  generalize (lg_sl ([.ref qM, .int x1]) ++ List.replicate (2 - (lg_sl ([.ref qM, .int x1])).length) Slot.unset).toArray = ls at hl ⊢
  have hl : lv_has ls 2 [(0, .ref qM), (1, .int x1)] := hl
  unfold f_M_order at hf
  obtain ⟨H, hH⟩ : ∃ z, z = s.heap := ⟨_, rfl⟩
  have hS : va_S A s.heap H [] := by rw [hH]; exact hS
  have hP : va_P (dC, dI) vwCl (w_M qM q_px q_py q_pz q_plane q_axis q_was q_ways q_keptWas q_keptWays q_keptPoints q_nextWas q_nextWays q_nowWas q_nowWays q_to cI vthrown vpoints vplanes vaxes vkept vax vay vaz cpx cpy cpz cplane caxis cwas cways ckeptWas ckeptWays ckeptPoints cnextWas cnextWays cnowWas cnowWays cto) H := by rw [hH]; exact hP
  refine w_heap hH ?_
  refine lv_aload_n hx hb d_M_order_0 rfl (lv_at hl 0 rfl) ?_
  refine lv_iconst (v := 0) hx hb d_M_order_1 (by decide) ?_
  refine va_put (D := (dC, dI)) (ci := 3) (v := .int 0) (ty := .int) (C := R_M) (T := T_M) (N := 23) hx hb ht in_M t_M t_M_ok n_M hown hK hP hD hS 0 rfl rfl 0 (by decide) (ht _ m_346) (fun _ h9 => h9) rfl (by decide +kernel) rfl rfl (Nat.le_of_ble_eq_true rfl) d_M_order_2 (fun H locs hP hD hS => ?_)
  have hP : va_P (dC, dI) vwCl (w_M qM q_px q_py q_pz q_plane q_axis q_was q_ways q_keptWas q_keptWays q_keptPoints q_nextWas q_nextWays q_nowWas q_nowWays q_to cI 0 vpoints vplanes vaxes vkept vax vay vaz cpx cpy cpz cplane caxis cwas cways ckeptWas ckeptWays ckeptPoints cnextWas cnextWays cnowWas cnowWays cto) H := hP
  have hD : va_D A (w_M qM q_px q_py q_pz q_plane q_axis q_was q_ways q_keptWas q_keptWays q_keptPoints q_nextWas q_nextWays q_nowWas q_nowWays q_to cI 0 vpoints vplanes vaxes vkept vax vay vaz cpx cpy cpz cplane caxis cwas cways ckeptWas ckeptWays ckeptPoints cnextWas cnextWays cnowWas cnowWays cto) := hD
  refine lv_aload_n hx hb d_M_order_5 rfl (lv_at hl 0 rfl) ?_
  refine lv_iload_n hx hb d_M_order_6 rfl (lv_at hl 1 rfl) ?_
  obtain ⟨r1z, hfc, hf⟩ := oCall1_some hf
  have hPc := hP.sub (ws' := (w_M qM q_px q_py q_pz q_plane q_axis q_was q_ways q_keptWas q_keptWays q_keptPoints q_nextWas q_nextWays q_nowWas q_nowWays q_to cI 0 vpoints vplanes vaxes vkept vax vay vaz cpx cpy cpz cplane caxis cwas cways ckeptWas ckeptWays ckeptPoints cnextWas cnextWays cnowWas cnowWays cto)) [0, 1, 2, 3, 4, 5, 6, 7, 8, 9, 10, 11, 12, 13, 14, 15] rfl
  refine vp_callSi (va_runV (As := [.int x1]) (rest := []) ⟨hx, hb, hml, hown, ht⟩ (c_M_isAxis l dC dI qM q_px q_py q_pz q_plane q_axis q_was q_ways q_keptWas q_keptWays q_keptPoints q_nextWas q_nextWays q_nowWas q_nowWays q_to cI cJ cQ 0 vpoints vplanes vaxes vkept vax vay vaz cpx cpy cpz cplane caxis cwas cways ckeptWas ckeptWays ckeptPoints cnextWas cnextWays cnowWas cnowWays cto x1 r1z hfc) (cwV 1 ht (gV m_454 m_456 m_10 m_31 m_457) rfl rfl rfl (by decide +kernel) ⟨Nat.le_of_ble_eq_true rfl, Nat.le_of_ble_eq_true rfl⟩) (preRV hPc hK hZ (va_recv hK hPc (ci := 3) (q0 := 0) rfl rfl)) rfl rfl hl.1 rfl (lv_room (Nat.le_of_ble_eq_true rfl)) d_M_order_7 ⟨Nat.le_of_ble_eq_true rfl, Nat.le_of_ble_eq_true rfl⟩).run (fun r1 hw => ?_)
  subst hw
  clear hPc hfc
  refine lv_if_ne (tgt := 15) hx hb d_M_order_10 (by decide) (fun c2 => ?_) (fun c2 => ?_)
  · have hf := oIf_f hf c2
    refine lv_aload_n hx hb d_M_order_15 rfl (lv_at hl 0 rfl) ?_
    refine lv_iload_n hx hb d_M_order_16 rfl (lv_at hl 1 rfl) ?_
    obtain ⟨r3z, hfc, hf⟩ := oCall1_some hf
    have hPc := hP.sub (ws' := (w_M qM q_px q_py q_pz q_plane q_axis q_was q_ways q_keptWas q_keptWays q_keptPoints q_nextWas q_nextWays q_nowWas q_nowWays q_to cI 0 vpoints vplanes vaxes vkept vax vay vaz cpx cpy cpz cplane caxis cwas cways ckeptWas ckeptWays ckeptPoints cnextWas cnextWays cnowWas cnowWays cto)) [0, 1, 2, 3, 4, 5, 6, 7, 8, 9, 10, 11, 12, 13, 14, 15] rfl
    refine vp_callSi (va_runV (As := [.int x1]) (rest := []) ⟨hx, hb, hml, hown, ht⟩ (c_M_kind l dC dI qM q_px q_py q_pz q_plane q_axis q_was q_ways q_keptWas q_keptWays q_keptPoints q_nextWas q_nextWays q_nowWas q_nowWays q_to cI cJ cQ 0 vpoints vplanes vaxes vkept vax vay vaz cpx cpy cpz cplane caxis cwas cways ckeptWas ckeptWays ckeptPoints cnextWas cnextWays cnowWas cnowWays cto x1 r3z hfc) (cwV 1 ht (gV m_458 m_460 m_11 m_31 m_461) rfl rfl rfl (by decide +kernel) ⟨Nat.le_of_ble_eq_true rfl, Nat.le_of_ble_eq_true rfl⟩) (preRV hPc hK hZ (va_recv hK hPc (ci := 3) (q0 := 0) rfl rfl)) rfl rfl hl.1 rfl (lv_room (Nat.le_of_ble_eq_true rfl)) d_M_order_17 ⟨Nat.le_of_ble_eq_true rfl, Nat.le_of_ble_eq_true rfl⟩).run (fun r3 hw => ?_)
    subst hw
    clear hPc hfc
    refine lv_iconst (v := 1) hx hb d_M_order_20 (by decide) ?_
    refine lv_icmp_ne (tgt := 28) hx hb d_M_order_21 (by decide) (fun c4 => ?_) (fun c4 => ?_)
    · have hf := oIf_f hf c4
      refine lv_aload_n hx hb d_M_order_28 rfl (lv_at hl 0 rfl) ?_
      refine lv_iload_n hx hb d_M_order_29 rfl (lv_at hl 1 rfl) ?_
      obtain ⟨r5z, hfc, hf⟩ := oCall1_some hf
      have hPc := hP.sub (ws' := (w_M qM q_px q_py q_pz q_plane q_axis q_was q_ways q_keptWas q_keptWays q_keptPoints q_nextWas q_nextWays q_nowWas q_nowWays q_to cI 0 vpoints vplanes vaxes vkept vax vay vaz cpx cpy cpz cplane caxis cwas cways ckeptWas ckeptWays ckeptPoints cnextWas cnextWays cnowWas cnowWays cto)) [0, 1, 2, 3, 4, 5, 6, 7, 8, 9, 10, 11, 12, 13, 14, 15] rfl
      refine vp_callSi (va_runV (As := [.int x1]) (rest := []) ⟨hx, hb, hml, hown, ht⟩ (c_M_kind l dC dI qM q_px q_py q_pz q_plane q_axis q_was q_ways q_keptWas q_keptWays q_keptPoints q_nextWas q_nextWays q_nowWas q_nowWays q_to cI cJ cQ 0 vpoints vplanes vaxes vkept vax vay vaz cpx cpy cpz cplane caxis cwas cways ckeptWas ckeptWays ckeptPoints cnextWas cnextWays cnowWas cnowWays cto x1 r5z hfc) (cwV 1 ht (gV m_458 m_460 m_11 m_31 m_461) rfl rfl rfl (by decide +kernel) ⟨Nat.le_of_ble_eq_true rfl, Nat.le_of_ble_eq_true rfl⟩) (preRV hPc hK hZ (va_recv hK hPc (ci := 3) (q0 := 0) rfl rfl)) rfl rfl hl.1 rfl (lv_room (Nat.le_of_ble_eq_true rfl)) d_M_order_30 ⟨Nat.le_of_ble_eq_true rfl, Nat.le_of_ble_eq_true rfl⟩).run (fun r5 hw => ?_)
      subst hw
      clear hPc hfc
      refine lv_iconst (v := 2) hx hb d_M_order_33 (by decide) ?_
      refine lv_icmp_ne (tgt := 41) hx hb d_M_order_34 (by decide) (fun c6 => ?_) (fun c6 => ?_)
      · have hf := oIf_f hf c6
        refine lv_iconst (v := 3) hx hb d_M_order_41 (by decide) ?_
        cases hf
        exact W.iret hx hb hr (fun t ht hW => ⟨⟨_, (), rfl, rfl, by rw [ht]; exact hP, hD⟩, hS.F ht⟩) hS.2.2 d_M_order_42
      · have hf := oIf_t hf c6
        refine lv_iconst (v := 2) hx hb d_M_order_37 (by decide) ?_
        refine lv_goto (tgt := 42) hx hb d_M_order_38 (by decide) ?_
        cases hf
        exact W.iret hx hb hr (fun t ht hW => ⟨⟨_, (), rfl, rfl, by rw [ht]; exact hP, hD⟩, hS.F ht⟩) hS.2.2 d_M_order_42
    · have hf := oIf_t hf c4
      refine lv_iconst (v := 4) hx hb d_M_order_24 (by decide) ?_
      refine lv_goto (tgt := 42) hx hb d_M_order_25 (by decide) ?_
      cases hf
      exact W.iret hx hb hr (fun t ht hW => ⟨⟨_, (), rfl, rfl, by rw [ht]; exact hP, hD⟩, hS.F ht⟩) hS.2.2 d_M_order_42
  · have hf := oIf_t hf c2
    refine lv_iconst (v := 0) hx hb d_M_order_13 (by decide) ?_
    cases hf
    exact W.iret hx hb hr (fun t ht hW => ⟨⟨_, (), rfl, rfl, by rw [ht]; exact hP, hD⟩, hS.F ht⟩) hS.2.2 d_M_order_14
set_option maxHeartbeats 4000000 in
set_option maxRecDepth 100000 in
theorem c_M_side (l : Launch) (dC : Nat → ClassId) (dI : Nat → Nat → Nat) (qM q_px q_py q_pz q_plane q_axis q_was q_ways q_keptWas q_keptWays q_keptPoints q_nextWas q_nextWays q_nowWas q_nowWays q_to : Nat) (cI cJ cQ : ClassId) (sz : Nat) (vthrown : Int32) (vpoints : Int32) (vplanes : Int32) (vaxes : Int32) (vkept : Int32) (vax : Int32) (vay : Int32) (vaz : Int32) (cpx : Nat → Int32) (cpy : Nat → Int32) (cpz : Nat → Int32) (cplane : Nat → Int32) (caxis : Nat → Int32) (cwas : Nat → Int32) (cways : Nat → Int32) (ckeptWas : Nat → Int32) (ckeptWays : Nat → Int32) (ckeptPoints : Nat → Int32) (cnextWas : Nat → Int32) (cnextWays : Nat → Int32) (cnowWas : Nat → Int32) (cnowWays : Nat → Int32) (cto : Nat → Int32) (x1 : Int32) (x2 : Int32) (r_ : Int32) (o_vthrown : Int32) (hf : f_M_side vthrown vpoints vplanes cpx cpy cpz cplane x1 x2 = some (r_, o_vthrown)) : Met l y_M_side w_M_side ({ frames := 1, cells := 0, slots := 0, locals := 23 }) (va_Pc [.ref qM, .int x1, .int x2] (fun U => U.heap.size = sz ∧ va_P (dC, dI) vwCl (w_M qM q_px q_py q_pz q_plane q_axis q_was q_ways q_keptWas q_keptWays q_keptPoints q_nextWas q_nextWays q_nowWas q_nowWays q_to cI vthrown vpoints vplanes vaxes vkept vax vay vaz cpx cpy cpz cplane caxis cwas cways ckeptWas ckeptWays ckeptPoints cnextWas cnextWays cnowWas cnowWays cto) U.heap ∧ va_K (dC, dI) vwCl [(cI, .int), (cJ, .long), (cQ, .object "CutBodies$Contents")] U ∧ nestZ U ∧ va_D (fun _ => True) (w_M qM q_px q_py q_pz q_plane q_axis q_was q_ways q_keptWas q_keptWays q_keptPoints q_nextWas q_nextWays q_nowWas q_nowWays q_to cI vthrown vpoints vplanes vaxes vkept vax vay vaz cpx cpy cpz cplane caxis cwas cways ckeptWas ckeptWays ckeptPoints cnextWas cnextWays cnowWas cnowWays cto))) (va_Qi (fun (r9 : Int32) (_ : Unit) => r9 = r_) (fun _ t => va_P (dC, dI) vwCl (w_M qM q_px q_py q_pz q_plane q_axis q_was q_ways q_keptWas q_keptWays q_keptPoints q_nextWas q_nextWays q_nowWas q_nowWays q_to cI o_vthrown vpoints vplanes vaxes vkept vax vay vaz cpx cpy cpz cplane caxis cwas cways ckeptWas ckeptWays ckeptPoints cnextWas cnextWays cnowWas cnowWays cto) t.heap ∧ va_D (va_A (w_M qM q_px q_py q_pz q_plane q_axis q_was q_ways q_keptWas q_keptWays q_keptPoints q_nextWas q_nextWays q_nowWas q_nowWays q_to cI vthrown vpoints vplanes vaxes vkept vax vay vaz cpx cpy cpz cplane caxis cwas cways ckeptWas ckeptWays ckeptPoints cnextWas cnextWays cnowWas cnowWays cto) sz) (w_M qM q_px q_py q_pz q_plane q_axis q_was q_ways q_keptWas q_keptWays q_keptPoints q_nextWas q_nextWays q_nowWas q_nowWays q_to cI o_vthrown vpoints vplanes vaxes vkept vax vay vaz cpx cpy cpz cplane caxis cwas cways ckeptWas ckeptWays ckeptPoints cnextWas cnextWays cnowWas cnowWays cto)) (va_A (w_M qM q_px q_py q_pz q_plane q_axis q_was q_ways q_keptWas q_keptWays q_keptPoints q_nextWas q_nextWays q_nowWas q_nowWays q_to cI vthrown vpoints vplanes vaxes vkept vax vay vaz cpx cpy cpz cplane caxis cwas cways ckeptWas ckeptWays ckeptPoints cnextWas cnextWays cnowWas cnowWays cto) sz)) 0 0 (va_A (w_M qM q_px q_py q_pz q_plane q_axis q_was q_ways q_keptWas q_keptWays q_keptPoints q_nextWas q_nextWays q_nowWas q_nowWays q_to cI vthrown vpoints vplanes vaxes vkept vax vay vaz cpx cpy cpz cplane caxis cwas cways ckeptWas ckeptWays ckeptPoints cnextWas cnextWays cnowWas cnowWays cto) sz) := by
  refine Met.ofW (cc := b_M_side) (maxL := 3) (ret := (some .int)) (by decide) rfl ?_
  intro p e s m args below meth c s₁ B hml hv
  obtain ⟨rfl, hsz, hP, hK, hZ, hD0⟩ := hv
  have hx := B.exec
  have hb := B.bytes
  have hr := B.returns
  have hts := atoms_spec (ws := w_M_side) B.pre
  have ht : ∀ w ∈ wAll, w.before _ s = true := fun w h => hts w (List.mem_cons_of_mem _ h)
  have hown : s.vm.findClass R_M = some m.cls := findClass_of_methodNamed B.named
  have hlocks := B.notSynchronized
  subst hsz
  have hD := hD0.self (sz := s.heap.size)
  generalize hAe : va_A (w_M qM q_px q_py q_pz q_plane q_axis q_was q_ways q_keptWas q_keptWays q_keptPoints q_nextWas q_nextWays q_nowWas q_nowWays q_to cI vthrown vpoints vplanes vaxes vkept vax vay vaz cpx cpy cpz cplane caxis cwas cways ckeptWas ckeptWays ckeptPoints cnextWas cnextWays cnowWas cnowWays cto) s.heap.size = A at hD ⊢
  have hA : ∀ q : Nat, s.heap.size ≤ q → A q := fun q h => by rw [← hAe]; exact Or.inr h
  have hS : va_S A s.heap s.heap [] := va_S.rf
  have hP : va_P (dC, dI) vwCl (w_M qM q_px q_py q_pz q_plane q_axis q_was q_ways q_keptWas q_keptWays q_keptPoints q_nextWas q_nextWays q_nowWas q_nowWays q_to cI vthrown vpoints vplanes vaxes vkept vax vay vaz cpx cpy cpz cplane caxis cwas cways ckeptWas ckeptWays ckeptPoints cnextWas cnextWays cnowWas cnowWays cto) s.heap := hP
  have hl := lv_entry ([.ref qM, .int x1, .int x2]) (n := 3) (Nat.le_of_ble_eq_true rfl)
  rw [lg_entry_eq]
  generalize (lg_sl ([.ref qM, .int x1, .int x2]) ++ List.replicate (3 - (lg_sl ([.ref qM, .int x1, .int x2])).length) Slot.unset).toArray = ls at hl ⊢
  have hl : lv_has ls 3 [(0, .ref qM), (1, .int x1), (2, .int x2)] := hl
  unfold f_M_side at hf
  obtain ⟨H, hH⟩ : ∃ z, z = s.heap := ⟨_, rfl⟩
  have hS : va_S A s.heap H [] := by rw [hH]; exact hS
  have hP : va_P (dC, dI) vwCl (w_M qM q_px q_py q_pz q_plane q_axis q_was q_ways q_keptWas q_keptWays q_keptPoints q_nextWas q_nextWays q_nowWas q_nowWays q_to cI vthrown vpoints vplanes vaxes vkept vax vay vaz cpx cpy cpz cplane caxis cwas cways ckeptWas ckeptWays ckeptPoints cnextWas cnextWays cnowWas cnowWays cto) H := by rw [hH]; exact hP
  refine w_heap hH ?_
  refine lv_aload_n hx hb d_M_side_0 rfl (lv_at hl 0 rfl) ?_
  refine lv_iconst (v := 0) hx hb d_M_side_1 (by decide) ?_
  refine va_put (D := (dC, dI)) (ci := 3) (v := .int 0) (ty := .int) (C := R_M) (T := T_M) (N := 23) hx hb ht in_M t_M t_M_ok n_M hown hK hP hD hS 0 rfl rfl 0 (by decide) (ht _ m_346) (fun _ h9 => h9) rfl (by decide +kernel) rfl rfl (Nat.le_of_ble_eq_true rfl) d_M_side_2 (fun H locs hP hD hS => ?_)
  have hP : va_P (dC, dI) vwCl (w_M qM q_px q_py q_pz q_plane q_axis q_was q_ways q_keptWas q_keptWays q_keptPoints q_nextWas q_nextWays q_nowWas q_nowWays q_to cI 0 vpoints vplanes vaxes vkept vax vay vaz cpx cpy cpz cplane caxis cwas cways ckeptWas ckeptWays ckeptPoints cnextWas cnextWays cnowWas cnowWays cto) H := hP
  have hD : va_D A (w_M qM q_px q_py q_pz q_plane q_axis q_was q_ways q_keptWas q_keptWays q_keptPoints q_nextWas q_nextWays q_nowWas q_nowWays q_to cI 0 vpoints vplanes vaxes vkept vax vay vaz cpx cpy cpz cplane caxis cwas cways ckeptWas ckeptWays ckeptPoints cnextWas cnextWays cnowWas cnowWays cto) := hD
  refine lv_aload_n hx hb d_M_side_5 rfl (lv_at hl 0 rfl) ?_
  refine lv_iload_n hx hb d_M_side_6 rfl (lv_at hl 1 rfl) ?_
  obtain ⟨r1z, hfc, hf⟩ := oCall1_some hf
  have hPc := hP.sub (ws' := (w_M qM q_px q_py q_pz q_plane q_axis q_was q_ways q_keptWas q_keptWays q_keptPoints q_nextWas q_nextWays q_nowWas q_nowWays q_to cI 0 vpoints vplanes vaxes vkept vax vay vaz cpx cpy cpz cplane caxis cwas cways ckeptWas ckeptWays ckeptPoints cnextWas cnextWays cnowWas cnowWays cto)) [0, 1, 2, 3, 4, 5, 6, 7, 8, 9, 10, 11, 12, 13, 14, 15] rfl
  refine vp_callSi (va_runV (As := [.int x1]) (rest := []) ⟨hx, hb, hml, hown, ht⟩ (c_M_isPoint l dC dI qM q_px q_py q_pz q_plane q_axis q_was q_ways q_keptWas q_keptWays q_keptPoints q_nextWas q_nextWays q_nowWas q_nowWays q_to cI cJ cQ 0 vpoints vplanes vaxes vkept vax vay vaz cpx cpy cpz cplane caxis cwas cways ckeptWas ckeptWays ckeptPoints cnextWas cnextWays cnowWas cnowWays cto x1 r1z hfc) (cwV 1 ht (gV m_466 m_468 m_12 m_31 m_469) rfl rfl rfl (by decide +kernel) ⟨Nat.le_of_ble_eq_true rfl, Nat.le_of_ble_eq_true rfl⟩) (preRV hPc hK hZ (va_recv hK hPc (ci := 3) (q0 := 0) rfl rfl)) rfl rfl hl.1 rfl (lv_room (Nat.le_of_ble_eq_true rfl)) d_M_side_7 ⟨Nat.le_of_ble_eq_true rfl, Nat.le_of_ble_eq_true rfl⟩).run (fun r1 hw => ?_)
  subst hw
  clear hPc hfc
  refine lv_if_eq (tgt := 30) hx hb d_M_side_10 (by decide) (fun c2 => ?_) (fun c2 => ?_)
  · have hf := oIf_t hf c2
    refine lv_iconst (v := (-1)) hx hb d_M_side_30 (by decide) ?_
    cases hf
    exact W.iret hx hb hr (fun t ht hW => ⟨⟨_, (), rfl, rfl, by rw [ht]; exact hP, hD⟩, hS.F ht⟩) hS.2.2 d_M_side_31
  · have hf := oIf_f hf c2
    refine lv_aload_n hx hb d_M_side_13 rfl (lv_at hl 0 rfl) ?_
    refine lv_iload_n hx hb d_M_side_14 rfl (lv_at hl 2 rfl) ?_
    obtain ⟨r3z, hfc, hf⟩ := oCall1_some hf
    have hPc := hP.sub (ws' := (w_M qM q_px q_py q_pz q_plane q_axis q_was q_ways q_keptWas q_keptWays q_keptPoints q_nextWas q_nextWays q_nowWas q_nowWays q_to cI 0 vpoints vplanes vaxes vkept vax vay vaz cpx cpy cpz cplane caxis cwas cways ckeptWas ckeptWays ckeptPoints cnextWas cnextWays cnowWas cnowWays cto)) [0, 1, 2, 3, 4, 5, 6, 7, 8, 9, 10, 11, 12, 13, 14, 15] rfl
    refine vp_callSi (va_runV (As := [.int x2]) (rest := []) ⟨hx, hb, hml, hown, ht⟩ (c_M_isPlane l dC dI qM q_px q_py q_pz q_plane q_axis q_was q_ways q_keptWas q_keptWays q_keptPoints q_nextWas q_nextWays q_nowWas q_nowWays q_to cI cJ cQ 0 vpoints vplanes vaxes vkept vax vay vaz cpx cpy cpz cplane caxis cwas cways ckeptWas ckeptWays ckeptPoints cnextWas cnextWays cnowWas cnowWays cto x2 r3z hfc) (cwV 1 ht (gV m_482 m_484 m_15 m_31 m_485) rfl rfl rfl (by decide +kernel) ⟨Nat.le_of_ble_eq_true rfl, Nat.le_of_ble_eq_true rfl⟩) (preRV hPc hK hZ (va_recv hK hPc (ci := 3) (q0 := 0) rfl rfl)) rfl rfl hl.1 rfl (lv_room (Nat.le_of_ble_eq_true rfl)) d_M_side_15 ⟨Nat.le_of_ble_eq_true rfl, Nat.le_of_ble_eq_true rfl⟩).run (fun r3 hw => ?_)
    subst hw
    clear hPc hfc
    refine lv_if_eq (tgt := 30) hx hb d_M_side_18 (by decide) (fun c4 => ?_) (fun c4 => ?_)
    · have hf := oIf_t hf c4
      refine lv_iconst (v := (-1)) hx hb d_M_side_30 (by decide) ?_
      cases hf
      exact W.iret hx hb hr (fun t ht hW => ⟨⟨_, (), rfl, rfl, by rw [ht]; exact hP, hD⟩, hS.F ht⟩) hS.2.2 d_M_side_31
    · have hf := oIf_f hf c4
      refine lv_aload_n hx hb d_M_side_21 rfl (lv_at hl 0 rfl) ?_
      refine lv_iload_n hx hb d_M_side_22 rfl (lv_at hl 1 rfl) ?_
      refine lv_iload_n hx hb d_M_side_23 rfl (lv_at hl 2 rfl) ?_
      obtain ⟨r5z, hfc, hf⟩ := oCall1_some hf
      have hPc := hP.sub (ws' := (w_M qM q_px q_py q_pz q_plane q_axis q_was q_ways q_keptWas q_keptWays q_keptPoints q_nextWas q_nextWays q_nowWas q_nowWays q_to cI 0 vpoints vplanes vaxes vkept vax vay vaz cpx cpy cpz cplane caxis cwas cways ckeptWas ckeptWays ckeptPoints cnextWas cnextWays cnowWas cnowWays cto)) [0, 1, 2, 3, 4, 5, 6, 7, 8, 9, 10, 11, 12, 13, 14, 15] rfl
      refine vp_callSi (va_runV (As := [.int x1, .int x2]) (rest := []) ⟨hx, hb, hml, hown, ht⟩ (c_M_sideOf l dC dI qM q_px q_py q_pz q_plane q_axis q_was q_ways q_keptWas q_keptWays q_keptPoints q_nextWas q_nextWays q_nowWas q_nowWays q_to cI cJ cQ 0 vpoints vplanes vaxes vkept vax vay vaz cpx cpy cpz cplane caxis cwas cways ckeptWas ckeptWays ckeptPoints cnextWas cnextWays cnowWas cnowWays cto x1 x2 r5z hfc) (cwV 2 ht (gV m_486 m_488 m_16 m_31 m_489) rfl rfl rfl (by decide +kernel) ⟨Nat.le_of_ble_eq_true rfl, Nat.le_of_ble_eq_true rfl⟩) (preRV hPc hK hZ (va_recv hK hPc (ci := 3) (q0 := 0) rfl rfl)) rfl rfl hl.1 rfl (lv_room (Nat.le_of_ble_eq_true rfl)) d_M_side_24 ⟨Nat.le_of_ble_eq_true rfl, Nat.le_of_ble_eq_true rfl⟩).run (fun r5 hw => ?_)
      subst hw
      clear hPc hfc
      refine lv_goto (tgt := 31) hx hb d_M_side_27 (by decide) ?_
      cases hf
      exact W.iret hx hb hr (fun t ht hW => ⟨⟨_, (), rfl, rfl, by rw [ht]; exact hP, hD⟩, hS.F ht⟩) hS.2.2 d_M_side_31
set_option maxHeartbeats 4000000 in
set_option maxRecDepth 100000 in
theorem c_M_pieces (l : Launch) (dC : Nat → ClassId) (dI : Nat → Nat → Nat) (qM q_px q_py q_pz q_plane q_axis q_was q_ways q_keptWas q_keptWays q_keptPoints q_nextWas q_nextWays q_nowWas q_nowWays q_to : Nat) (cI cJ cQ : ClassId) (sz : Nat) (vthrown : Int32) (vpoints : Int32) (vplanes : Int32) (vaxes : Int32) (vkept : Int32) (vax : Int32) (vay : Int32) (vaz : Int32) (cpx : Nat → Int32) (cpy : Nat → Int32) (cpz : Nat → Int32) (cplane : Nat → Int32) (caxis : Nat → Int32) (cwas : Nat → Int32) (cways : Nat → Int32) (ckeptWas : Nat → Int32) (ckeptWays : Nat → Int32) (ckeptPoints : Nat → Int32) (cnextWas : Nat → Int32) (cnextWays : Nat → Int32) (cnowWas : Nat → Int32) (cnowWays : Nat → Int32) (cto : Nat → Int32) (r_ : Int32) (o_vthrown : Int32) (hf : f_M_pieces vthrown vpoints vplanes cpx cpy cpz cplane = some (r_, o_vthrown)) : Met l y_M_pieces w_M_pieces ({ frames := 4, cells := 0, slots := 0, locals := 91 }) (va_Pc [.ref qM] (fun U => U.heap.size = sz ∧ va_P (dC, dI) vwCl (w_M qM q_px q_py q_pz q_plane q_axis q_was q_ways q_keptWas q_keptWays q_keptPoints q_nextWas q_nextWays q_nowWas q_nowWays q_to cI vthrown vpoints vplanes vaxes vkept vax vay vaz cpx cpy cpz cplane caxis cwas cways ckeptWas ckeptWays ckeptPoints cnextWas cnextWays cnowWas cnowWays cto) U.heap ∧ va_K (dC, dI) vwCl [(cI, .int), (cJ, .long), (cQ, .object "CutBodies$Contents")] U ∧ nestZ U ∧ va_D (fun _ => True) (w_M qM q_px q_py q_pz q_plane q_axis q_was q_ways q_keptWas q_keptWays q_keptPoints q_nextWas q_nextWays q_nowWas q_nowWays q_to cI vthrown vpoints vplanes vaxes vkept vax vay vaz cpx cpy cpz cplane caxis cwas cways ckeptWas ckeptWays ckeptPoints cnextWas cnextWays cnowWas cnowWays cto))) (va_Qi (fun (r9 : Int32) (_ : Unit) => r9 = r_) (fun _ t => va_P (dC, dI) vwCl (w_M qM q_px q_py q_pz q_plane q_axis q_was q_ways q_keptWas q_keptWays q_keptPoints q_nextWas q_nextWays q_nowWas q_nowWays q_to cI o_vthrown vpoints vplanes vaxes vkept vax vay vaz cpx cpy cpz cplane caxis cwas cways ckeptWas ckeptWays ckeptPoints cnextWas cnextWays cnowWas cnowWays cto) t.heap ∧ va_D (va_A (w_M qM q_px q_py q_pz q_plane q_axis q_was q_ways q_keptWas q_keptWays q_keptPoints q_nextWas q_nextWays q_nowWas q_nowWays q_to cI vthrown vpoints vplanes vaxes vkept vax vay vaz cpx cpy cpz cplane caxis cwas cways ckeptWas ckeptWays ckeptPoints cnextWas cnextWays cnowWas cnowWays cto) sz) (w_M qM q_px q_py q_pz q_plane q_axis q_was q_ways q_keptWas q_keptWays q_keptPoints q_nextWas q_nextWays q_nowWas q_nowWays q_to cI o_vthrown vpoints vplanes vaxes vkept vax vay vaz cpx cpy cpz cplane caxis cwas cways ckeptWas ckeptWays ckeptPoints cnextWas cnextWays cnowWas cnowWays cto)) (va_A (w_M qM q_px q_py q_pz q_plane q_axis q_was q_ways q_keptWas q_keptWays q_keptPoints q_nextWas q_nextWays q_nowWas q_nowWays q_to cI vthrown vpoints vplanes vaxes vkept vax vay vaz cpx cpy cpz cplane caxis cwas cways ckeptWas ckeptWays ckeptPoints cnextWas cnextWays cnowWas cnowWays cto) sz)) 0 0 (va_A (w_M qM q_px q_py q_pz q_plane q_axis q_was q_ways q_keptWas q_keptWays q_keptPoints q_nextWas q_nextWays q_nowWas q_nowWays q_to cI vthrown vpoints vplanes vaxes vkept vax vay vaz cpx cpy cpz cplane caxis cwas cways ckeptWas ckeptWays ckeptPoints cnextWas cnextWays cnowWas cnowWays cto) sz) := by
  refine Met.ofW (cc := b_M_pieces) (maxL := 1) (ret := (some .int)) (by decide) rfl ?_
  intro p e s m args below meth c s₁ B hml hv
  obtain ⟨rfl, hsz, hP, hK, hZ, hD0⟩ := hv
  have hx := B.exec
  have hb := B.bytes
  have hr := B.returns
  have hts := atoms_spec (ws := w_M_pieces) B.pre
  have ht : ∀ w ∈ wAll, w.before _ s = true := fun w h => hts w (List.mem_cons_of_mem _ h)
  have hown : s.vm.findClass R_M = some m.cls := findClass_of_methodNamed B.named
  have hlocks := B.notSynchronized
  subst hsz
  have hD := hD0.self (sz := s.heap.size)
  generalize hAe : va_A (w_M qM q_px q_py q_pz q_plane q_axis q_was q_ways q_keptWas q_keptWays q_keptPoints q_nextWas q_nextWays q_nowWas q_nowWays q_to cI vthrown vpoints vplanes vaxes vkept vax vay vaz cpx cpy cpz cplane caxis cwas cways ckeptWas ckeptWays ckeptPoints cnextWas cnextWays cnowWas cnowWays cto) s.heap.size = A at hD ⊢
  have hA : ∀ q : Nat, s.heap.size ≤ q → A q := fun q h => by rw [← hAe]; exact Or.inr h
  have hS : va_S A s.heap s.heap [] := va_S.rf
  have hP : va_P (dC, dI) vwCl (w_M qM q_px q_py q_pz q_plane q_axis q_was q_ways q_keptWas q_keptWays q_keptPoints q_nextWas q_nextWays q_nowWas q_nowWays q_to cI vthrown vpoints vplanes vaxes vkept vax vay vaz cpx cpy cpz cplane caxis cwas cways ckeptWas ckeptWays ckeptPoints cnextWas cnextWays cnowWas cnowWays cto) s.heap := hP
  have hl := lv_entry ([.ref qM]) (n := 1) (Nat.le_of_ble_eq_true rfl)
  rw [lg_entry_eq]
  generalize (lg_sl ([.ref qM]) ++ List.replicate (1 - (lg_sl ([.ref qM])).length) Slot.unset).toArray = ls at hl ⊢
  have hl : lv_has ls 1 [(0, .ref qM)] := hl
  unfold f_M_pieces at hf
  obtain ⟨H, hH⟩ : ∃ z, z = s.heap := ⟨_, rfl⟩
  have hS : va_S A s.heap H [] := by rw [hH]; exact hS
  have hP : va_P (dC, dI) vwCl (w_M qM q_px q_py q_pz q_plane q_axis q_was q_ways q_keptWas q_keptWays q_keptPoints q_nextWas q_nextWays q_nowWas q_nowWays q_to cI vthrown vpoints vplanes vaxes vkept vax vay vaz cpx cpy cpz cplane caxis cwas cways ckeptWas ckeptWays ckeptPoints cnextWas cnextWays cnowWas cnowWays cto) H := by rw [hH]; exact hP
  refine w_heap hH ?_
  refine lv_aload_n hx hb d_M_pieces_0 rfl (lv_at hl 0 rfl) ?_
  refine lv_iconst (v := 0) hx hb d_M_pieces_1 (by decide) ?_
  refine va_put (D := (dC, dI)) (ci := 3) (v := .int 0) (ty := .int) (C := R_M) (T := T_M) (N := 23) hx hb ht in_M t_M t_M_ok n_M hown hK hP hD hS 0 rfl rfl 0 (by decide) (ht _ m_346) (fun _ h9 => h9) rfl (by decide +kernel) rfl rfl (Nat.le_of_ble_eq_true rfl) d_M_pieces_2 (fun H locs hP hD hS => ?_)
  have hP : va_P (dC, dI) vwCl (w_M qM q_px q_py q_pz q_plane q_axis q_was q_ways q_keptWas q_keptWays q_keptPoints q_nextWas q_nextWays q_nowWas q_nowWays q_to cI 0 vpoints vplanes vaxes vkept vax vay vaz cpx cpy cpz cplane caxis cwas cways ckeptWas ckeptWays ckeptPoints cnextWas cnextWays cnowWas cnowWays cto) H := hP
  have hD : va_D A (w_M qM q_px q_py q_pz q_plane q_axis q_was q_ways q_keptWas q_keptWays q_keptPoints q_nextWas q_nextWays q_nowWas q_nowWays q_to cI 0 vpoints vplanes vaxes vkept vax vay vaz cpx cpy cpz cplane caxis cwas cways ckeptWas ckeptWays ckeptPoints cnextWas cnextWays cnowWas cnowWays cto) := hD
  refine lv_aload_n hx hb d_M_pieces_5 rfl (lv_at hl 0 rfl) ?_
  refine lv_aload_n hx hb d_M_pieces_6 rfl (lv_at hl 0 rfl) ?_
  refine va_get (D := (dC, dI)) (ci := 3) (v := .int vpoints) (C := R_M) (T := T_M) (N := 23) hx hb ht in_M hown hK hP 0 rfl rfl 1 (by decide) (ht _ m_347) (fun _ h9 => h9) rfl d_M_pieces_7 ?_
  obtain ⟨r1z, hfc, hf⟩ := oCall1_some hf
  have hPc := hP.sub (ws' := (w_M qM q_px q_py q_pz q_plane q_axis q_was q_ways q_keptWas q_keptWays q_keptPoints q_nextWas q_nextWays q_nowWas q_nowWays q_to cI 0 vpoints vplanes vaxes vkept vax vay vaz cpx cpy cpz cplane caxis cwas cways ckeptWas ckeptWays ckeptPoints cnextWas cnextWays cnowWas cnowWays cto)) [0, 1, 2, 3, 4, 5, 6, 7, 8, 9, 10, 11, 12, 13, 14, 15] rfl
  refine vp_callSi (va_runV (As := [.int vpoints]) (rest := []) ⟨hx, hb, hml, hown, ht⟩ (c_M_piecesTo l dC dI qM q_px q_py q_pz q_plane q_axis q_was q_ways q_keptWas q_keptWays q_keptPoints q_nextWas q_nextWays q_nowWas q_nowWays q_to cI cJ cQ 0 vpoints vplanes vaxes vkept vax vay vaz cpx cpy cpz cplane caxis cwas cways ckeptWas ckeptWays ckeptPoints cnextWas cnextWays cnowWas cnowWays cto vpoints r1z hfc) (cwV 1 ht (gV m_494 m_496 m_17 m_31 m_497) rfl rfl rfl (by decide +kernel) ⟨Nat.le_of_ble_eq_true rfl, Nat.le_of_ble_eq_true rfl⟩) (preRV hPc hK hZ (va_recv hK hPc (ci := 3) (q0 := 0) rfl rfl)) rfl rfl hl.1 rfl (lv_room (Nat.le_of_ble_eq_true rfl)) d_M_pieces_10 ⟨Nat.le_of_ble_eq_true rfl, Nat.le_of_ble_eq_true rfl⟩).run (fun r1 hw => ?_)
  subst hw
  clear hPc hfc
  cases hf
  exact W.iret hx hb hr (fun t ht hW => ⟨⟨_, (), rfl, rfl, by rw [ht]; exact hP, hD⟩, hS.F ht⟩) hS.2.2 d_M_pieces_13
set_option maxHeartbeats 4000000 in
set_option maxRecDepth 100000 in
theorem c_M_piece (l : Launch) (dC : Nat → ClassId) (dI : Nat → Nat → Nat) (qM q_px q_py q_pz q_plane q_axis q_was q_ways q_keptWas q_keptWays q_keptPoints q_nextWas q_nextWays q_nowWas q_nowWays q_to : Nat) (cI cJ cQ : ClassId) (sz : Nat) (vthrown : Int32) (vpoints : Int32) (vplanes : Int32) (vaxes : Int32) (vkept : Int32) (vax : Int32) (vay : Int32) (vaz : Int32) (cpx : Nat → Int32) (cpy : Nat → Int32) (cpz : Nat → Int32) (cplane : Nat → Int32) (caxis : Nat → Int32) (cwas : Nat → Int32) (cways : Nat → Int32) (ckeptWas : Nat → Int32) (ckeptWays : Nat → Int32) (ckeptPoints : Nat → Int32) (cnextWas : Nat → Int32) (cnextWays : Nat → Int32) (cnowWas : Nat → Int32) (cnowWays : Nat → Int32) (cto : Nat → Int32) (x1 : Int32) (r_ : Int32) (o_vthrown : Int32) (hf : f_M_piece vthrown vpoints vplanes cpx cpy cpz cplane x1 = some (r_, o_vthrown)) : Met l y_M_piece w_M_piece ({ frames := 4, cells := 0, slots := 0, locals := 91 }) (va_Pc [.ref qM, .int x1] (fun U => U.heap.size = sz ∧ va_P (dC, dI) vwCl (w_M qM q_px q_py q_pz q_plane q_axis q_was q_ways q_keptWas q_keptWays q_keptPoints q_nextWas q_nextWays q_nowWas q_nowWays q_to cI vthrown vpoints vplanes vaxes vkept vax vay vaz cpx cpy cpz cplane caxis cwas cways ckeptWas ckeptWays ckeptPoints cnextWas cnextWays cnowWas cnowWays cto) U.heap ∧ va_K (dC, dI) vwCl [(cI, .int), (cJ, .long), (cQ, .object "CutBodies$Contents")] U ∧ nestZ U ∧ va_D (fun _ => True) (w_M qM q_px q_py q_pz q_plane q_axis q_was q_ways q_keptWas q_keptWays q_keptPoints q_nextWas q_nextWays q_nowWas q_nowWays q_to cI vthrown vpoints vplanes vaxes vkept vax vay vaz cpx cpy cpz cplane caxis cwas cways ckeptWas ckeptWays ckeptPoints cnextWas cnextWays cnowWas cnowWays cto))) (va_Qi (fun (r9 : Int32) (_ : Unit) => r9 = r_) (fun _ t => va_P (dC, dI) vwCl (w_M qM q_px q_py q_pz q_plane q_axis q_was q_ways q_keptWas q_keptWays q_keptPoints q_nextWas q_nextWays q_nowWas q_nowWays q_to cI o_vthrown vpoints vplanes vaxes vkept vax vay vaz cpx cpy cpz cplane caxis cwas cways ckeptWas ckeptWays ckeptPoints cnextWas cnextWays cnowWas cnowWays cto) t.heap ∧ va_D (va_A (w_M qM q_px q_py q_pz q_plane q_axis q_was q_ways q_keptWas q_keptWays q_keptPoints q_nextWas q_nextWays q_nowWas q_nowWays q_to cI vthrown vpoints vplanes vaxes vkept vax vay vaz cpx cpy cpz cplane caxis cwas cways ckeptWas ckeptWays ckeptPoints cnextWas cnextWays cnowWas cnowWays cto) sz) (w_M qM q_px q_py q_pz q_plane q_axis q_was q_ways q_keptWas q_keptWays q_keptPoints q_nextWas q_nextWays q_nowWas q_nowWays q_to cI o_vthrown vpoints vplanes vaxes vkept vax vay vaz cpx cpy cpz cplane caxis cwas cways ckeptWas ckeptWays ckeptPoints cnextWas cnextWays cnowWas cnowWays cto)) (va_A (w_M qM q_px q_py q_pz q_plane q_axis q_was q_ways q_keptWas q_keptWays q_keptPoints q_nextWas q_nextWays q_nowWas q_nowWays q_to cI vthrown vpoints vplanes vaxes vkept vax vay vaz cpx cpy cpz cplane caxis cwas cways ckeptWas ckeptWays ckeptPoints cnextWas cnextWays cnowWas cnowWays cto) sz)) 0 0 (va_A (w_M qM q_px q_py q_pz q_plane q_axis q_was q_ways q_keptWas q_keptWays q_keptPoints q_nextWas q_nextWays q_nowWas q_nowWays q_to cI vthrown vpoints vplanes vaxes vkept vax vay vaz cpx cpy cpz cplane caxis cwas cways ckeptWas ckeptWays ckeptPoints cnextWas cnextWays cnowWas cnowWays cto) sz) := by
  refine Met.ofW (cc := b_M_piece) (maxL := 2) (ret := (some .int)) (by decide) rfl ?_
  intro p e s m args below meth c s₁ B hml hv
  obtain ⟨rfl, hsz, hP, hK, hZ, hD0⟩ := hv
  have hx := B.exec
  have hb := B.bytes
  have hr := B.returns
  have hts := atoms_spec (ws := w_M_piece) B.pre
  have ht : ∀ w ∈ wAll, w.before _ s = true := fun w h => hts w (List.mem_cons_of_mem _ h)
  have hown : s.vm.findClass R_M = some m.cls := findClass_of_methodNamed B.named
  have hlocks := B.notSynchronized
  subst hsz
  have hD := hD0.self (sz := s.heap.size)
  generalize hAe : va_A (w_M qM q_px q_py q_pz q_plane q_axis q_was q_ways q_keptWas q_keptWays q_keptPoints q_nextWas q_nextWays q_nowWas q_nowWays q_to cI vthrown vpoints vplanes vaxes vkept vax vay vaz cpx cpy cpz cplane caxis cwas cways ckeptWas ckeptWays ckeptPoints cnextWas cnextWays cnowWas cnowWays cto) s.heap.size = A at hD ⊢
  have hA : ∀ q : Nat, s.heap.size ≤ q → A q := fun q h => by rw [← hAe]; exact Or.inr h
  have hS : va_S A s.heap s.heap [] := va_S.rf
  have hP : va_P (dC, dI) vwCl (w_M qM q_px q_py q_pz q_plane q_axis q_was q_ways q_keptWas q_keptWays q_keptPoints q_nextWas q_nextWays q_nowWas q_nowWays q_to cI vthrown vpoints vplanes vaxes vkept vax vay vaz cpx cpy cpz cplane caxis cwas cways ckeptWas ckeptWays ckeptPoints cnextWas cnextWays cnowWas cnowWays cto) s.heap := hP
  have hl := lv_entry ([.ref qM, .int x1]) (n := 2) (Nat.le_of_ble_eq_true rfl)
  rw [lg_entry_eq]
  generalize (lg_sl ([.ref qM, .int x1]) ++ List.replicate (2 - (lg_sl ([.ref qM, .int x1])).length) Slot.unset).toArray = ls at hl ⊢
  have hl : lv_has ls 2 [(0, .ref qM), (1, .int x1)] := hl
  unfold f_M_piece at hf
  obtain ⟨H, hH⟩ : ∃ z, z = s.heap := ⟨_, rfl⟩
  have hS : va_S A s.heap H [] := by rw [hH]; exact hS
  have hP : va_P (dC, dI) vwCl (w_M qM q_px q_py q_pz q_plane q_axis q_was q_ways q_keptWas q_keptWays q_keptPoints q_nextWas q_nextWays q_nowWas q_nowWays q_to cI vthrown vpoints vplanes vaxes vkept vax vay vaz cpx cpy cpz cplane caxis cwas cways ckeptWas ckeptWays ckeptPoints cnextWas cnextWays cnowWas cnowWays cto) H := by rw [hH]; exact hP
  refine w_heap hH ?_
  refine lv_aload_n hx hb d_M_piece_0 rfl (lv_at hl 0 rfl) ?_
  refine lv_iconst (v := 0) hx hb d_M_piece_1 (by decide) ?_
  refine va_put (D := (dC, dI)) (ci := 3) (v := .int 0) (ty := .int) (C := R_M) (T := T_M) (N := 23) hx hb ht in_M t_M t_M_ok n_M hown hK hP hD hS 0 rfl rfl 0 (by decide) (ht _ m_346) (fun _ h9 => h9) rfl (by decide +kernel) rfl rfl (Nat.le_of_ble_eq_true rfl) d_M_piece_2 (fun H locs hP hD hS => ?_)
  have hP : va_P (dC, dI) vwCl (w_M qM q_px q_py q_pz q_plane q_axis q_was q_ways q_keptWas q_keptWays q_keptPoints q_nextWas q_nextWays q_nowWas q_nowWays q_to cI 0 vpoints vplanes vaxes vkept vax vay vaz cpx cpy cpz cplane caxis cwas cways ckeptWas ckeptWays ckeptPoints cnextWas cnextWays cnowWas cnowWays cto) H := hP
  have hD : va_D A (w_M qM q_px q_py q_pz q_plane q_axis q_was q_ways q_keptWas q_keptWays q_keptPoints q_nextWas q_nextWays q_nowWas q_nowWays q_to cI 0 vpoints vplanes vaxes vkept vax vay vaz cpx cpy cpz cplane caxis cwas cways ckeptWas ckeptWays ckeptPoints cnextWas cnextWays cnowWas cnowWays cto) := hD
  refine lv_aload_n hx hb d_M_piece_5 rfl (lv_at hl 0 rfl) ?_
  refine lv_iload_n hx hb d_M_piece_6 rfl (lv_at hl 1 rfl) ?_
  obtain ⟨r1z, hfc, hf⟩ := oCall1_some hf
  have hPc := hP.sub (ws' := (w_M qM q_px q_py q_pz q_plane q_axis q_was q_ways q_keptWas q_keptWays q_keptPoints q_nextWas q_nextWays q_nowWas q_nowWays q_to cI 0 vpoints vplanes vaxes vkept vax vay vaz cpx cpy cpz cplane caxis cwas cways ckeptWas ckeptWays ckeptPoints cnextWas cnextWays cnowWas cnowWays cto)) [0, 1, 2, 3, 4, 5, 6, 7, 8, 9, 10, 11, 12, 13, 14, 15] rfl
  refine vp_callSi (va_runV (As := [.int x1]) (rest := []) ⟨hx, hb, hml, hown, ht⟩ (c_M_isPoint l dC dI qM q_px q_py q_pz q_plane q_axis q_was q_ways q_keptWas q_keptWays q_keptPoints q_nextWas q_nextWays q_nowWas q_nowWays q_to cI cJ cQ 0 vpoints vplanes vaxes vkept vax vay vaz cpx cpy cpz cplane caxis cwas cways ckeptWas ckeptWays ckeptPoints cnextWas cnextWays cnowWas cnowWays cto x1 r1z hfc) (cwV 1 ht (gV m_466 m_468 m_12 m_31 m_469) rfl rfl rfl (by decide +kernel) ⟨Nat.le_of_ble_eq_true rfl, Nat.le_of_ble_eq_true rfl⟩) (preRV hPc hK hZ (va_recv hK hPc (ci := 3) (q0 := 0) rfl rfl)) rfl rfl hl.1 rfl (lv_room (Nat.le_of_ble_eq_true rfl)) d_M_piece_7 ⟨Nat.le_of_ble_eq_true rfl, Nat.le_of_ble_eq_true rfl⟩).run (fun r1 hw => ?_)
  subst hw
  clear hPc hfc
  refine lv_if_eq (tgt := 25) hx hb d_M_piece_10 (by decide) (fun c2 => ?_) (fun c2 => ?_)
  · have hf := oIf_t hf c2
    refine lv_iconst (v := (-1)) hx hb d_M_piece_25 (by decide) ?_
    cases hf
    exact W.iret hx hb hr (fun t ht hW => ⟨⟨_, (), rfl, rfl, by rw [ht]; exact hP, hD⟩, hS.F ht⟩) hS.2.2 d_M_piece_26
  · have hf := oIf_f hf c2
    refine lv_aload_n hx hb d_M_piece_13 rfl (lv_at hl 0 rfl) ?_
    refine lv_aload_n hx hb d_M_piece_14 rfl (lv_at hl 0 rfl) ?_
    refine lv_iload_n hx hb d_M_piece_15 rfl (lv_at hl 1 rfl) ?_
    obtain ⟨r3z, hfc, hf⟩ := oCall1_some hf
    have hPc := hP.sub (ws' := (w_M qM q_px q_py q_pz q_plane q_axis q_was q_ways q_keptWas q_keptWays q_keptPoints q_nextWas q_nextWays q_nowWas q_nowWays q_to cI 0 vpoints vplanes vaxes vkept vax vay vaz cpx cpy cpz cplane caxis cwas cways ckeptWas ckeptWays ckeptPoints cnextWas cnextWays cnowWas cnowWays cto)) [0, 1, 2, 3, 4, 5, 6, 7, 8, 9, 10, 11, 12, 13, 14, 15] rfl
    refine vp_callSi (va_runV (As := [.int x1]) (rest := [.ref qM]) ⟨hx, hb, hml, hown, ht⟩ (c_M_leastOf l dC dI qM q_px q_py q_pz q_plane q_axis q_was q_ways q_keptWas q_keptWays q_keptPoints q_nextWas q_nextWays q_nowWas q_nowWays q_to cI cJ cQ 0 vpoints vplanes vaxes vkept vax vay vaz cpx cpy cpz cplane caxis cwas cways ckeptWas ckeptWays ckeptPoints cnextWas cnextWays cnowWas cnowWays cto x1 r3z hfc) (cwV 1 ht (gV m_498 m_500 m_18 m_31 m_501) rfl rfl rfl (by decide +kernel) ⟨Nat.le_of_ble_eq_true rfl, Nat.le_of_ble_eq_true rfl⟩) (preRV hPc hK hZ (va_recv hK hPc (ci := 3) (q0 := 0) rfl rfl)) rfl rfl hl.1 rfl (lv_room (Nat.le_of_ble_eq_true rfl)) d_M_piece_16 ⟨Nat.le_of_ble_eq_true rfl, Nat.le_of_ble_eq_true rfl⟩).run (fun r3 hw => ?_)
    subst hw
    clear hPc hfc
    obtain ⟨r4z, hfc, hf⟩ := oCall1_some hf
    have hPc := hP.sub (ws' := (w_M qM q_px q_py q_pz q_plane q_axis q_was q_ways q_keptWas q_keptWays q_keptPoints q_nextWas q_nextWays q_nowWas q_nowWays q_to cI 0 vpoints vplanes vaxes vkept vax vay vaz cpx cpy cpz cplane caxis cwas cways ckeptWas ckeptWays ckeptPoints cnextWas cnextWays cnowWas cnowWays cto)) [0, 1, 2, 3, 4, 5, 6, 7, 8, 9, 10, 11, 12, 13, 14, 15] rfl
    refine vp_callSi (va_runV (As := [.int r3]) (rest := []) ⟨hx, hb, hml, hown, ht⟩ (c_M_piecesTo l dC dI qM q_px q_py q_pz q_plane q_axis q_was q_ways q_keptWas q_keptWays q_keptPoints q_nextWas q_nextWays q_nowWas q_nowWays q_to cI cJ cQ 0 vpoints vplanes vaxes vkept vax vay vaz cpx cpy cpz cplane caxis cwas cways ckeptWas ckeptWays ckeptPoints cnextWas cnextWays cnowWas cnowWays cto r3 r4z hfc) (cwV 1 ht (gV m_494 m_496 m_17 m_31 m_497) rfl rfl rfl (by decide +kernel) ⟨Nat.le_of_ble_eq_true rfl, Nat.le_of_ble_eq_true rfl⟩) (preRV hPc hK hZ (va_recv hK hPc (ci := 3) (q0 := 0) rfl rfl)) rfl rfl hl.1 rfl (lv_room (Nat.le_of_ble_eq_true rfl)) d_M_piece_19 ⟨Nat.le_of_ble_eq_true rfl, Nat.le_of_ble_eq_true rfl⟩).run (fun r4 hw => ?_)
    subst hw
    clear hPc hfc
    refine lv_goto (tgt := 26) hx hb d_M_piece_22 (by decide) ?_
    cases hf
    exact W.iret hx hb hr (fun t ht hW => ⟨⟨_, (), rfl, rfl, by rw [ht]; exact hP, hD⟩, hS.F ht⟩) hS.2.2 d_M_piece_26
set_option maxHeartbeats 4000000 in
set_option maxRecDepth 100000 in
theorem c_M_image (l : Launch) (dC : Nat → ClassId) (dI : Nat → Nat → Nat) (qM q_px q_py q_pz q_plane q_axis q_was q_ways q_keptWas q_keptWays q_keptPoints q_nextWas q_nextWays q_nowWas q_nowWays q_to : Nat) (cI cJ cQ : ClassId) (sz : Nat) (vthrown : Int32) (vpoints : Int32) (vplanes : Int32) (vaxes : Int32) (vkept : Int32) (vax : Int32) (vay : Int32) (vaz : Int32) (cpx : Nat → Int32) (cpy : Nat → Int32) (cpz : Nat → Int32) (cplane : Nat → Int32) (caxis : Nat → Int32) (cwas : Nat → Int32) (cways : Nat → Int32) (ckeptWas : Nat → Int32) (ckeptWays : Nat → Int32) (ckeptPoints : Nat → Int32) (cnextWas : Nat → Int32) (cnextWays : Nat → Int32) (cnowWas : Nat → Int32) (cnowWays : Nat → Int32) (cto : Nat → Int32) (x1 : Int32) (x2 : Int32) (r_ : Int32) (o_vthrown : Int32) (o_vax : Int32) (o_vay : Int32) (o_vaz : Int32) (hf : f_M_image vthrown vpoints vaxes vax vay vaz cpx cpy cpz caxis x1 x2 = some (r_, o_vthrown, o_vax, o_vay, o_vaz)) : Met l y_M_image w_M_image ({ frames := 3, cells := 0, slots := 0, locals := 77 }) (va_Pc [.ref qM, .int x1, .int x2] (fun U => U.heap.size = sz ∧ va_P (dC, dI) vwCl (w_M qM q_px q_py q_pz q_plane q_axis q_was q_ways q_keptWas q_keptWays q_keptPoints q_nextWas q_nextWays q_nowWas q_nowWays q_to cI vthrown vpoints vplanes vaxes vkept vax vay vaz cpx cpy cpz cplane caxis cwas cways ckeptWas ckeptWays ckeptPoints cnextWas cnextWays cnowWas cnowWays cto) U.heap ∧ va_K (dC, dI) vwCl [(cI, .int), (cJ, .long), (cQ, .object "CutBodies$Contents")] U ∧ nestZ U ∧ va_D (fun _ => True) (w_M qM q_px q_py q_pz q_plane q_axis q_was q_ways q_keptWas q_keptWays q_keptPoints q_nextWas q_nextWays q_nowWas q_nowWays q_to cI vthrown vpoints vplanes vaxes vkept vax vay vaz cpx cpy cpz cplane caxis cwas cways ckeptWas ckeptWays ckeptPoints cnextWas cnextWays cnowWas cnowWays cto))) (va_Qi (fun (r9 : Int32) (_ : Unit) => r9 = r_) (fun _ t => va_P (dC, dI) vwCl (w_M qM q_px q_py q_pz q_plane q_axis q_was q_ways q_keptWas q_keptWays q_keptPoints q_nextWas q_nextWays q_nowWas q_nowWays q_to cI o_vthrown vpoints vplanes vaxes vkept o_vax o_vay o_vaz cpx cpy cpz cplane caxis cwas cways ckeptWas ckeptWays ckeptPoints cnextWas cnextWays cnowWas cnowWays cto) t.heap ∧ va_D (va_A (w_M qM q_px q_py q_pz q_plane q_axis q_was q_ways q_keptWas q_keptWays q_keptPoints q_nextWas q_nextWays q_nowWas q_nowWays q_to cI vthrown vpoints vplanes vaxes vkept vax vay vaz cpx cpy cpz cplane caxis cwas cways ckeptWas ckeptWays ckeptPoints cnextWas cnextWays cnowWas cnowWays cto) sz) (w_M qM q_px q_py q_pz q_plane q_axis q_was q_ways q_keptWas q_keptWays q_keptPoints q_nextWas q_nextWays q_nowWas q_nowWays q_to cI o_vthrown vpoints vplanes vaxes vkept o_vax o_vay o_vaz cpx cpy cpz cplane caxis cwas cways ckeptWas ckeptWays ckeptPoints cnextWas cnextWays cnowWas cnowWays cto)) (va_A (w_M qM q_px q_py q_pz q_plane q_axis q_was q_ways q_keptWas q_keptWays q_keptPoints q_nextWas q_nextWays q_nowWas q_nowWays q_to cI vthrown vpoints vplanes vaxes vkept vax vay vaz cpx cpy cpz cplane caxis cwas cways ckeptWas ckeptWays ckeptPoints cnextWas cnextWays cnowWas cnowWays cto) sz)) 0 0 (va_A (w_M qM q_px q_py q_pz q_plane q_axis q_was q_ways q_keptWas q_keptWays q_keptPoints q_nextWas q_nextWays q_nowWas q_nowWays q_to cI vthrown vpoints vplanes vaxes vkept vax vay vaz cpx cpy cpz cplane caxis cwas cways ckeptWas ckeptWays ckeptPoints cnextWas cnextWays cnowWas cnowWays cto) sz) := by
  refine Met.ofW (cc := b_M_image) (maxL := 3) (ret := (some .int)) (by decide) rfl ?_
  intro p e s m args below meth c s₁ B hml hv
  obtain ⟨rfl, hsz, hP, hK, hZ, hD0⟩ := hv
  have hx := B.exec
  have hb := B.bytes
  have hr := B.returns
  have hts := atoms_spec (ws := w_M_image) B.pre
  have ht : ∀ w ∈ wAll, w.before _ s = true := fun w h => hts w (List.mem_cons_of_mem _ h)
  have hown : s.vm.findClass R_M = some m.cls := findClass_of_methodNamed B.named
  have hlocks := B.notSynchronized
  subst hsz
  have hD := hD0.self (sz := s.heap.size)
  generalize hAe : va_A (w_M qM q_px q_py q_pz q_plane q_axis q_was q_ways q_keptWas q_keptWays q_keptPoints q_nextWas q_nextWays q_nowWas q_nowWays q_to cI vthrown vpoints vplanes vaxes vkept vax vay vaz cpx cpy cpz cplane caxis cwas cways ckeptWas ckeptWays ckeptPoints cnextWas cnextWays cnowWas cnowWays cto) s.heap.size = A at hD ⊢
  have hA : ∀ q : Nat, s.heap.size ≤ q → A q := fun q h => by rw [← hAe]; exact Or.inr h
  have hS : va_S A s.heap s.heap [] := va_S.rf
  have hP : va_P (dC, dI) vwCl (w_M qM q_px q_py q_pz q_plane q_axis q_was q_ways q_keptWas q_keptWays q_keptPoints q_nextWas q_nextWays q_nowWas q_nowWays q_to cI vthrown vpoints vplanes vaxes vkept vax vay vaz cpx cpy cpz cplane caxis cwas cways ckeptWas ckeptWays ckeptPoints cnextWas cnextWays cnowWas cnowWays cto) s.heap := hP
  have hl := lv_entry ([.ref qM, .int x1, .int x2]) (n := 3) (Nat.le_of_ble_eq_true rfl)
  rw [lg_entry_eq]
  generalize (lg_sl ([.ref qM, .int x1, .int x2]) ++ List.replicate (3 - (lg_sl ([.ref qM, .int x1, .int x2])).length) Slot.unset).toArray = ls at hl ⊢
  have hl : lv_has ls 3 [(0, .ref qM), (1, .int x1), (2, .int x2)] := hl
  unfold f_M_image at hf
  obtain ⟨H, hH⟩ : ∃ z, z = s.heap := ⟨_, rfl⟩
  have hS : va_S A s.heap H [] := by rw [hH]; exact hS
  have hP : va_P (dC, dI) vwCl (w_M qM q_px q_py q_pz q_plane q_axis q_was q_ways q_keptWas q_keptWays q_keptPoints q_nextWas q_nextWays q_nowWas q_nowWays q_to cI vthrown vpoints vplanes vaxes vkept vax vay vaz cpx cpy cpz cplane caxis cwas cways ckeptWas ckeptWays ckeptPoints cnextWas cnextWays cnowWas cnowWays cto) H := by rw [hH]; exact hP
  refine w_heap hH ?_
  refine lv_aload_n hx hb d_M_image_0 rfl (lv_at hl 0 rfl) ?_
  refine lv_iconst (v := 0) hx hb d_M_image_1 (by decide) ?_
  refine va_put (D := (dC, dI)) (ci := 3) (v := .int 0) (ty := .int) (C := R_M) (T := T_M) (N := 23) hx hb ht in_M t_M t_M_ok n_M hown hK hP hD hS 0 rfl rfl 0 (by decide) (ht _ m_346) (fun _ h9 => h9) rfl (by decide +kernel) rfl rfl (Nat.le_of_ble_eq_true rfl) d_M_image_2 (fun H locs hP hD hS => ?_)
  have hP : va_P (dC, dI) vwCl (w_M qM q_px q_py q_pz q_plane q_axis q_was q_ways q_keptWas q_keptWays q_keptPoints q_nextWas q_nextWays q_nowWas q_nowWays q_to cI 0 vpoints vplanes vaxes vkept vax vay vaz cpx cpy cpz cplane caxis cwas cways ckeptWas ckeptWays ckeptPoints cnextWas cnextWays cnowWas cnowWays cto) H := hP
  have hD : va_D A (w_M qM q_px q_py q_pz q_plane q_axis q_was q_ways q_keptWas q_keptWays q_keptPoints q_nextWas q_nextWays q_nowWas q_nowWays q_to cI 0 vpoints vplanes vaxes vkept vax vay vaz cpx cpy cpz cplane caxis cwas cways ckeptWas ckeptWays ckeptPoints cnextWas cnextWays cnowWas cnowWays cto) := hD
  refine lv_aload_n hx hb d_M_image_5 rfl (lv_at hl 0 rfl) ?_
  refine lv_iload_n hx hb d_M_image_6 rfl (lv_at hl 1 rfl) ?_
  obtain ⟨r1z, hfc, hf⟩ := oCall1_some hf
  have hPc := hP.sub (ws' := (w_M qM q_px q_py q_pz q_plane q_axis q_was q_ways q_keptWas q_keptWays q_keptPoints q_nextWas q_nextWays q_nowWas q_nowWays q_to cI 0 vpoints vplanes vaxes vkept vax vay vaz cpx cpy cpz cplane caxis cwas cways ckeptWas ckeptWays ckeptPoints cnextWas cnextWays cnowWas cnowWays cto)) [0, 1, 2, 3, 4, 5, 6, 7, 8, 9, 10, 11, 12, 13, 14, 15] rfl
  refine vp_callSi (va_runV (As := [.int x1]) (rest := []) ⟨hx, hb, hml, hown, ht⟩ (c_M_isAxis l dC dI qM q_px q_py q_pz q_plane q_axis q_was q_ways q_keptWas q_keptWays q_keptPoints q_nextWas q_nextWays q_nowWas q_nowWays q_to cI cJ cQ 0 vpoints vplanes vaxes vkept vax vay vaz cpx cpy cpz cplane caxis cwas cways ckeptWas ckeptWays ckeptPoints cnextWas cnextWays cnowWas cnowWays cto x1 r1z hfc) (cwV 1 ht (gV m_454 m_456 m_10 m_31 m_457) rfl rfl rfl (by decide +kernel) ⟨Nat.le_of_ble_eq_true rfl, Nat.le_of_ble_eq_true rfl⟩) (preRV hPc hK hZ (va_recv hK hPc (ci := 3) (q0 := 0) rfl rfl)) rfl rfl hl.1 rfl (lv_room (Nat.le_of_ble_eq_true rfl)) d_M_image_7 ⟨Nat.le_of_ble_eq_true rfl, Nat.le_of_ble_eq_true rfl⟩).run (fun r1 hw => ?_)
  subst hw
  clear hPc hfc
  refine lv_if_eq (tgt := 30) hx hb d_M_image_10 (by decide) (fun c2 => ?_) (fun c2 => ?_)
  · have hf := oIf_t hf c2
    refine lv_iconst (v := (-1)) hx hb d_M_image_30 (by decide) ?_
    cases hf
    exact W.iret hx hb hr (fun t ht hW => ⟨⟨_, (), rfl, rfl, by rw [ht]; exact hP, hD⟩, hS.F ht⟩) hS.2.2 d_M_image_31
  · have hf := oIf_f hf c2
    refine lv_aload_n hx hb d_M_image_13 rfl (lv_at hl 0 rfl) ?_
    refine lv_iload_n hx hb d_M_image_14 rfl (lv_at hl 2 rfl) ?_
    obtain ⟨r3z, hfc, hf⟩ := oCall1_some hf
    have hPc := hP.sub (ws' := (w_M qM q_px q_py q_pz q_plane q_axis q_was q_ways q_keptWas q_keptWays q_keptPoints q_nextWas q_nextWays q_nowWas q_nowWays q_to cI 0 vpoints vplanes vaxes vkept vax vay vaz cpx cpy cpz cplane caxis cwas cways ckeptWas ckeptWays ckeptPoints cnextWas cnextWays cnowWas cnowWays cto)) [0, 1, 2, 3, 4, 5, 6, 7, 8, 9, 10, 11, 12, 13, 14, 15] rfl
    refine vp_callSi (va_runV (As := [.int x2]) (rest := []) ⟨hx, hb, hml, hown, ht⟩ (c_M_isPoint l dC dI qM q_px q_py q_pz q_plane q_axis q_was q_ways q_keptWas q_keptWays q_keptPoints q_nextWas q_nextWays q_nowWas q_nowWays q_to cI cJ cQ 0 vpoints vplanes vaxes vkept vax vay vaz cpx cpy cpz cplane caxis cwas cways ckeptWas ckeptWays ckeptPoints cnextWas cnextWays cnowWas cnowWays cto x2 r3z hfc) (cwV 1 ht (gV m_466 m_468 m_12 m_31 m_469) rfl rfl rfl (by decide +kernel) ⟨Nat.le_of_ble_eq_true rfl, Nat.le_of_ble_eq_true rfl⟩) (preRV hPc hK hZ (va_recv hK hPc (ci := 3) (q0 := 0) rfl rfl)) rfl rfl hl.1 rfl (lv_room (Nat.le_of_ble_eq_true rfl)) d_M_image_15 ⟨Nat.le_of_ble_eq_true rfl, Nat.le_of_ble_eq_true rfl⟩).run (fun r3 hw => ?_)
    subst hw
    clear hPc hfc
    refine lv_if_eq (tgt := 30) hx hb d_M_image_18 (by decide) (fun c4 => ?_) (fun c4 => ?_)
    · have hf := oIf_t hf c4
      refine lv_iconst (v := (-1)) hx hb d_M_image_30 (by decide) ?_
      cases hf
      exact W.iret hx hb hr (fun t ht hW => ⟨⟨_, (), rfl, rfl, by rw [ht]; exact hP, hD⟩, hS.F ht⟩) hS.2.2 d_M_image_31
    · have hf := oIf_f hf c4
      refine lv_aload_n hx hb d_M_image_21 rfl (lv_at hl 0 rfl) ?_
      refine lv_iload_n hx hb d_M_image_22 rfl (lv_at hl 1 rfl) ?_
      refine lv_iload_n hx hb d_M_image_23 rfl (lv_at hl 2 rfl) ?_
      obtain ⟨r8z, o5, o6, o7, hfc, hf⟩ := oCall4_some hf
      have hPc := hP.sub (ws' := (w_M qM q_px q_py q_pz q_plane q_axis q_was q_ways q_keptWas q_keptWays q_keptPoints q_nextWas q_nextWays q_nowWas q_nowWays q_to cI 0 vpoints vplanes vaxes vkept vax vay vaz cpx cpy cpz cplane caxis cwas cways ckeptWas ckeptWays ckeptPoints cnextWas cnextWays cnowWas cnowWays cto)) [0, 1, 2, 3, 4, 5, 6, 7, 8, 9, 10, 11, 12, 13, 14, 15] rfl
      have hDc := hD.sub (ws' := (w_M qM q_px q_py q_pz q_plane q_axis q_was q_ways q_keptWas q_keptWays q_keptPoints q_nextWas q_nextWays q_nowWas q_nowWays q_to cI 0 vpoints vplanes vaxes vkept vax vay vaz cpx cpy cpz cplane caxis cwas cways ckeptWas ckeptWays ckeptPoints cnextWas cnextWays cnowWas cnowWays cto)) [0, 1, 2, 3, 4, 5, 6, 7, 8, 9, 10, 11, 12, 13, 14, 15] (by decide) rfl
      have hFc := va_free (wc := (w_M qM q_px q_py q_pz q_plane q_axis q_was q_ways q_keptWas q_keptWays q_keptPoints q_nextWas q_nextWays q_nowWas q_nowWays q_to cI 0 vpoints vplanes vaxes vkept vax vay vaz cpx cpy cpz cplane caxis cwas cways ckeptWas ckeptWays ckeptPoints cnextWas cnextWays cnowWas cnowWays cto)) hD hS hA [0, 1, 2, 3, 4, 5, 6, 7, 8, 9, 10, 11, 12, 13, 14, 15] rfl
      refine va_calli (va_runV (As := [.int x1, .int x2]) (rest := []) ⟨hx, hb, hml, hown, ht⟩ (c_M_imageOf l dC dI qM q_px q_py q_pz q_plane q_axis q_was q_ways q_keptWas q_keptWays q_keptPoints q_nextWas q_nextWays q_nowWas q_nowWays q_to cI cJ cQ H.size 0 vpoints vplanes vaxes vkept vax vay vaz cpx cpy cpz cplane caxis cwas cways ckeptWas ckeptWays ckeptPoints cnextWas cnextWays cnowWas cnowWays cto x1 x2 r8z o5 o6 o7 hfc) (cwV 2 ht (gV m_470 m_472 m_13 m_31 m_473) rfl rfl rfl (by decide +kernel) ⟨Nat.le_of_ble_eq_true rfl, Nat.le_of_ble_eq_true rfl⟩) (preMV hPc hK hZ hDc (va_recv hK hPc (ci := 3) (q0 := 0) rfl rfl)) rfl rfl hl.1 rfl (lv_room (Nat.le_of_ble_eq_true rfl)) d_M_image_24 ⟨Nat.le_of_ble_eq_true rfl, Nat.le_of_ble_eq_true rfl⟩) hS (fun q _ h => hFc q h) hFc (fun r8 u t H1 locs ht9 hvm hw hB hz1 hk1 hS => ?_)
      obtain ⟨hP1, hD1⟩ := hB
      rw [ht9] at hP1
      subst hw
      obtain ⟨hP, hD⟩ := va_join (wr := []) (w1 := (w_M qM q_px q_py q_pz q_plane q_axis q_was q_ways q_keptWas q_keptWays q_keptPoints q_nextWas q_nextWays q_nowWas q_nowWays q_to cI 0 vpoints vplanes vaxes vkept o5 o6 o7 cpx cpy cpz cplane caxis cwas cways ckeptWas ckeptWays ckeptPoints cnextWas cnextWays cnowWas cnowWays cto)) hP hD [0, 1, 2, 3, 4, 5, 6, 7, 8, 9, 10, 11, 12, 13, 14, 15] [] rfl rfl (by decide) (by decide) hk1 hFc hP1 hD1
      have hP := hP.sub (ws' := (w_M qM q_px q_py q_pz q_plane q_axis q_was q_ways q_keptWas q_keptWays q_keptPoints q_nextWas q_nextWays q_nowWas q_nowWays q_to cI 0 vpoints vplanes vaxes vkept o5 o6 o7 cpx cpy cpz cplane caxis cwas cways ckeptWas ckeptWays ckeptPoints cnextWas cnextWays cnowWas cnowWays cto)) [0, 1, 2, 3, 4, 5, 6, 7, 8, 9, 10, 11, 12, 13, 14, 15] rfl
      have hD := hD.sub (ws' := (w_M qM q_px q_py q_pz q_plane q_axis q_was q_ways q_keptWas q_keptWays q_keptPoints q_nextWas q_nextWays q_nowWas q_nowWays q_to cI 0 vpoints vplanes vaxes vkept o5 o6 o7 cpx cpy cpz cplane caxis cwas cways ckeptWas ckeptWays ckeptPoints cnextWas cnextWays cnowWas cnowWays cto)) [0, 1, 2, 3, 4, 5, 6, 7, 8, 9, 10, 11, 12, 13, 14, 15] (by decide) rfl
      clear hPc hDc hFc hP1 hD1 hz1 hk1 ht9 hvm hfc
      generalize H1 = H at hP hS ⊢
      refine lv_goto (tgt := 31) hx hb d_M_image_27 (by decide) ?_
      cases hf
      exact W.iret hx hb hr (fun t ht hW => ⟨⟨_, (), rfl, rfl, by rw [ht]; exact hP, hD⟩, hS.F ht⟩) hS.2.2 d_M_image_31
set_option maxHeartbeats 4000000 in
set_option maxRecDepth 100000 in
theorem c_M_at (l : Launch) (dC : Nat → ClassId) (dI : Nat → Nat → Nat) (qM q_px q_py q_pz q_plane q_axis q_was q_ways q_keptWas q_keptWays q_keptPoints q_nextWas q_nextWays q_nowWas q_nowWays q_to : Nat) (cI cJ cQ : ClassId) (sz : Nat) (vthrown : Int32) (vpoints : Int32) (vplanes : Int32) (vaxes : Int32) (vkept : Int32) (vax : Int32) (vay : Int32) (vaz : Int32) (cpx : Nat → Int32) (cpy : Nat → Int32) (cpz : Nat → Int32) (cplane : Nat → Int32) (caxis : Nat → Int32) (cwas : Nat → Int32) (cways : Nat → Int32) (ckeptWas : Nat → Int32) (ckeptWays : Nat → Int32) (ckeptPoints : Nat → Int32) (cnextWas : Nat → Int32) (cnextWays : Nat → Int32) (cnowWas : Nat → Int32) (cnowWays : Nat → Int32) (cto : Nat → Int32) (x1 : Int32) (r_ : Int32) (o_vthrown : Int32) (hf : f_M_at vthrown vpoints cwas x1 = some (r_, o_vthrown)) : Met l y_M_at w_M_at ({ frames := 1, cells := 0, slots := 0, locals := 21 }) (va_Pc [.ref qM, .int x1] (fun U => U.heap.size = sz ∧ va_P (dC, dI) vwCl (w_M qM q_px q_py q_pz q_plane q_axis q_was q_ways q_keptWas q_keptWays q_keptPoints q_nextWas q_nextWays q_nowWas q_nowWays q_to cI vthrown vpoints vplanes vaxes vkept vax vay vaz cpx cpy cpz cplane caxis cwas cways ckeptWas ckeptWays ckeptPoints cnextWas cnextWays cnowWas cnowWays cto) U.heap ∧ va_K (dC, dI) vwCl [(cI, .int), (cJ, .long), (cQ, .object "CutBodies$Contents")] U ∧ nestZ U ∧ va_D (fun _ => True) (w_M qM q_px q_py q_pz q_plane q_axis q_was q_ways q_keptWas q_keptWays q_keptPoints q_nextWas q_nextWays q_nowWas q_nowWays q_to cI vthrown vpoints vplanes vaxes vkept vax vay vaz cpx cpy cpz cplane caxis cwas cways ckeptWas ckeptWays ckeptPoints cnextWas cnextWays cnowWas cnowWays cto))) (va_Qi (fun (r9 : Int32) (_ : Unit) => r9 = r_) (fun _ t => va_P (dC, dI) vwCl (w_M qM q_px q_py q_pz q_plane q_axis q_was q_ways q_keptWas q_keptWays q_keptPoints q_nextWas q_nextWays q_nowWas q_nowWays q_to cI o_vthrown vpoints vplanes vaxes vkept vax vay vaz cpx cpy cpz cplane caxis cwas cways ckeptWas ckeptWays ckeptPoints cnextWas cnextWays cnowWas cnowWays cto) t.heap ∧ va_D (va_A (w_M qM q_px q_py q_pz q_plane q_axis q_was q_ways q_keptWas q_keptWays q_keptPoints q_nextWas q_nextWays q_nowWas q_nowWays q_to cI vthrown vpoints vplanes vaxes vkept vax vay vaz cpx cpy cpz cplane caxis cwas cways ckeptWas ckeptWays ckeptPoints cnextWas cnextWays cnowWas cnowWays cto) sz) (w_M qM q_px q_py q_pz q_plane q_axis q_was q_ways q_keptWas q_keptWays q_keptPoints q_nextWas q_nextWays q_nowWas q_nowWays q_to cI o_vthrown vpoints vplanes vaxes vkept vax vay vaz cpx cpy cpz cplane caxis cwas cways ckeptWas ckeptWays ckeptPoints cnextWas cnextWays cnowWas cnowWays cto)) (va_A (w_M qM q_px q_py q_pz q_plane q_axis q_was q_ways q_keptWas q_keptWays q_keptPoints q_nextWas q_nextWays q_nowWas q_nowWays q_to cI vthrown vpoints vplanes vaxes vkept vax vay vaz cpx cpy cpz cplane caxis cwas cways ckeptWas ckeptWays ckeptPoints cnextWas cnextWays cnowWas cnowWays cto) sz)) 0 0 (va_A (w_M qM q_px q_py q_pz q_plane q_axis q_was q_ways q_keptWas q_keptWays q_keptPoints q_nextWas q_nextWays q_nowWas q_nowWays q_to cI vthrown vpoints vplanes vaxes vkept vax vay vaz cpx cpy cpz cplane caxis cwas cways ckeptWas ckeptWays ckeptPoints cnextWas cnextWays cnowWas cnowWays cto) sz) := by
  refine Met.ofW (cc := b_M_at) (maxL := 2) (ret := (some .int)) (by decide) rfl ?_
  intro p e s m args below meth c s₁ B hml hv
  obtain ⟨rfl, hsz, hP, hK, hZ, hD0⟩ := hv
  have hx := B.exec
  have hb := B.bytes
  have hr := B.returns
  have hts := atoms_spec (ws := w_M_at) B.pre
  have ht : ∀ w ∈ wAll, w.before _ s = true := fun w h => hts w (List.mem_cons_of_mem _ h)
  have hown : s.vm.findClass R_M = some m.cls := findClass_of_methodNamed B.named
  have hlocks := B.notSynchronized
  subst hsz
  have hD := hD0.self (sz := s.heap.size)
  generalize hAe : va_A (w_M qM q_px q_py q_pz q_plane q_axis q_was q_ways q_keptWas q_keptWays q_keptPoints q_nextWas q_nextWays q_nowWas q_nowWays q_to cI vthrown vpoints vplanes vaxes vkept vax vay vaz cpx cpy cpz cplane caxis cwas cways ckeptWas ckeptWays ckeptPoints cnextWas cnextWays cnowWas cnowWays cto) s.heap.size = A at hD ⊢
  have hA : ∀ q : Nat, s.heap.size ≤ q → A q := fun q h => by rw [← hAe]; exact Or.inr h
  have hS : va_S A s.heap s.heap [] := va_S.rf
  have hP : va_P (dC, dI) vwCl (w_M qM q_px q_py q_pz q_plane q_axis q_was q_ways q_keptWas q_keptWays q_keptPoints q_nextWas q_nextWays q_nowWas q_nowWays q_to cI vthrown vpoints vplanes vaxes vkept vax vay vaz cpx cpy cpz cplane caxis cwas cways ckeptWas ckeptWays ckeptPoints cnextWas cnextWays cnowWas cnowWays cto) s.heap := hP
  have hl := lv_entry ([.ref qM, .int x1]) (n := 2) (Nat.le_of_ble_eq_true rfl)
  rw [lg_entry_eq]
  generalize (lg_sl ([.ref qM, .int x1]) ++ List.replicate (2 - (lg_sl ([.ref qM, .int x1])).length) Slot.unset).toArray = ls at hl ⊢
  have hl : lv_has ls 2 [(0, .ref qM), (1, .int x1)] := hl
  unfold f_M_at at hf
  obtain ⟨H, hH⟩ : ∃ z, z = s.heap := ⟨_, rfl⟩
  have hS : va_S A s.heap H [] := by rw [hH]; exact hS
  have hP : va_P (dC, dI) vwCl (w_M qM q_px q_py q_pz q_plane q_axis q_was q_ways q_keptWas q_keptWays q_keptPoints q_nextWas q_nextWays q_nowWas q_nowWays q_to cI vthrown vpoints vplanes vaxes vkept vax vay vaz cpx cpy cpz cplane caxis cwas cways ckeptWas ckeptWays ckeptPoints cnextWas cnextWays cnowWas cnowWays cto) H := by rw [hH]; exact hP
  refine w_heap hH ?_
  refine lv_aload_n hx hb d_M_at_0 rfl (lv_at hl 0 rfl) ?_
  refine lv_iconst (v := 0) hx hb d_M_at_1 (by decide) ?_
  refine va_put (D := (dC, dI)) (ci := 3) (v := .int 0) (ty := .int) (C := R_M) (T := T_M) (N := 23) hx hb ht in_M t_M t_M_ok n_M hown hK hP hD hS 0 rfl rfl 0 (by decide) (ht _ m_346) (fun _ h9 => h9) rfl (by decide +kernel) rfl rfl (Nat.le_of_ble_eq_true rfl) d_M_at_2 (fun H locs hP hD hS => ?_)
  have hP : va_P (dC, dI) vwCl (w_M qM q_px q_py q_pz q_plane q_axis q_was q_ways q_keptWas q_keptWays q_keptPoints q_nextWas q_nextWays q_nowWas q_nowWays q_to cI 0 vpoints vplanes vaxes vkept vax vay vaz cpx cpy cpz cplane caxis cwas cways ckeptWas ckeptWays ckeptPoints cnextWas cnextWays cnowWas cnowWays cto) H := hP
  have hD : va_D A (w_M qM q_px q_py q_pz q_plane q_axis q_was q_ways q_keptWas q_keptWays q_keptPoints q_nextWas q_nextWays q_nowWas q_nowWays q_to cI 0 vpoints vplanes vaxes vkept vax vay vaz cpx cpy cpz cplane caxis cwas cways ckeptWas ckeptWays ckeptPoints cnextWas cnextWays cnowWas cnowWays cto) := hD
  refine lv_aload_n hx hb d_M_at_5 rfl (lv_at hl 0 rfl) ?_
  refine lv_iload_n hx hb d_M_at_6 rfl (lv_at hl 1 rfl) ?_
  obtain ⟨r1z, hfc, hf⟩ := oCall1_some hf
  have hPc := hP.sub (ws' := (w_M qM q_px q_py q_pz q_plane q_axis q_was q_ways q_keptWas q_keptWays q_keptPoints q_nextWas q_nextWays q_nowWas q_nowWays q_to cI 0 vpoints vplanes vaxes vkept vax vay vaz cpx cpy cpz cplane caxis cwas cways ckeptWas ckeptWays ckeptPoints cnextWas cnextWays cnowWas cnowWays cto)) [0, 1, 2, 3, 4, 5, 6, 7, 8, 9, 10, 11, 12, 13, 14, 15] rfl
  refine vp_callSi (va_runV (As := [.int x1]) (rest := []) ⟨hx, hb, hml, hown, ht⟩ (c_M_isPoint l dC dI qM q_px q_py q_pz q_plane q_axis q_was q_ways q_keptWas q_keptWays q_keptPoints q_nextWas q_nextWays q_nowWas q_nowWays q_to cI cJ cQ 0 vpoints vplanes vaxes vkept vax vay vaz cpx cpy cpz cplane caxis cwas cways ckeptWas ckeptWays ckeptPoints cnextWas cnextWays cnowWas cnowWays cto x1 r1z hfc) (cwV 1 ht (gV m_466 m_468 m_12 m_31 m_469) rfl rfl rfl (by decide +kernel) ⟨Nat.le_of_ble_eq_true rfl, Nat.le_of_ble_eq_true rfl⟩) (preRV hPc hK hZ (va_recv hK hPc (ci := 3) (q0 := 0) rfl rfl)) rfl rfl hl.1 rfl (lv_room (Nat.le_of_ble_eq_true rfl)) d_M_at_7 ⟨Nat.le_of_ble_eq_true rfl, Nat.le_of_ble_eq_true rfl⟩).run (fun r1 hw => ?_)
  subst hw
  clear hPc hfc
  refine lv_if_eq (tgt := 22) hx hb d_M_at_10 (by decide) (fun c2 => ?_) (fun c2 => ?_)
  · have hf := oIf_t hf c2
    refine lv_iconst (v := (-1)) hx hb d_M_at_22 (by decide) ?_
    cases hf
    exact W.iret hx hb hr (fun t ht hW => ⟨⟨_, (), rfl, rfl, by rw [ht]; exact hP, hD⟩, hS.F ht⟩) hS.2.2 d_M_at_23
  · have hf := oIf_f hf c2
    refine lv_aload_n hx hb d_M_at_13 rfl (lv_at hl 0 rfl) ?_
    refine va_get (D := (dC, dI)) (ci := 3) (v := .ref q_was) (C := R_M) (T := T_M) (N := 23) hx hb ht in_M hown hK hP 0 rfl rfl 9 (by decide) (ht _ m_355) (fun _ h9 => h9) rfl d_M_at_14 ?_
    refine lv_iload_n hx hb d_M_at_17 rfl (lv_at hl 1 rfl) ?_
    obtain ⟨hi3, hf⟩ := oIn_some hf
    refine va_iald hx hb hK hP 6 0 rfl rfl hi3 d_M_at_18 ?_
    refine lv_goto (tgt := 23) hx hb d_M_at_19 (by decide) ?_
    cases hf
    exact W.iret hx hb hr (fun t ht hW => ⟨⟨_, (), rfl, rfl, by rw [ht]; exact hP, hD⟩, hS.F ht⟩) hS.2.2 d_M_at_23
set_option maxHeartbeats 4000000 in
set_option maxRecDepth 100000 in
theorem c_M_way (l : Launch) (dC : Nat → ClassId) (dI : Nat → Nat → Nat) (qM q_px q_py q_pz q_plane q_axis q_was q_ways q_keptWas q_keptWays q_keptPoints q_nextWas q_nextWays q_nowWas q_nowWays q_to : Nat) (cI cJ cQ : ClassId) (sz : Nat) (vthrown : Int32) (vpoints : Int32) (vplanes : Int32) (vaxes : Int32) (vkept : Int32) (vax : Int32) (vay : Int32) (vaz : Int32) (cpx : Nat → Int32) (cpy : Nat → Int32) (cpz : Nat → Int32) (cplane : Nat → Int32) (caxis : Nat → Int32) (cwas : Nat → Int32) (cways : Nat → Int32) (ckeptWas : Nat → Int32) (ckeptWays : Nat → Int32) (ckeptPoints : Nat → Int32) (cnextWas : Nat → Int32) (cnextWays : Nat → Int32) (cnowWas : Nat → Int32) (cnowWays : Nat → Int32) (cto : Nat → Int32) (x1 : Int32) (r_ : Int32) (o_vthrown : Int32) (hf : f_M_way vthrown vpoints cways x1 = some (r_, o_vthrown)) : Met l y_M_way w_M_way ({ frames := 1, cells := 0, slots := 0, locals := 21 }) (va_Pc [.ref qM, .int x1] (fun U => U.heap.size = sz ∧ va_P (dC, dI) vwCl (w_M qM q_px q_py q_pz q_plane q_axis q_was q_ways q_keptWas q_keptWays q_keptPoints q_nextWas q_nextWays q_nowWas q_nowWays q_to cI vthrown vpoints vplanes vaxes vkept vax vay vaz cpx cpy cpz cplane caxis cwas cways ckeptWas ckeptWays ckeptPoints cnextWas cnextWays cnowWas cnowWays cto) U.heap ∧ va_K (dC, dI) vwCl [(cI, .int), (cJ, .long), (cQ, .object "CutBodies$Contents")] U ∧ nestZ U ∧ va_D (fun _ => True) (w_M qM q_px q_py q_pz q_plane q_axis q_was q_ways q_keptWas q_keptWays q_keptPoints q_nextWas q_nextWays q_nowWas q_nowWays q_to cI vthrown vpoints vplanes vaxes vkept vax vay vaz cpx cpy cpz cplane caxis cwas cways ckeptWas ckeptWays ckeptPoints cnextWas cnextWays cnowWas cnowWays cto))) (va_Qi (fun (r9 : Int32) (_ : Unit) => r9 = r_) (fun _ t => va_P (dC, dI) vwCl (w_M qM q_px q_py q_pz q_plane q_axis q_was q_ways q_keptWas q_keptWays q_keptPoints q_nextWas q_nextWays q_nowWas q_nowWays q_to cI o_vthrown vpoints vplanes vaxes vkept vax vay vaz cpx cpy cpz cplane caxis cwas cways ckeptWas ckeptWays ckeptPoints cnextWas cnextWays cnowWas cnowWays cto) t.heap ∧ va_D (va_A (w_M qM q_px q_py q_pz q_plane q_axis q_was q_ways q_keptWas q_keptWays q_keptPoints q_nextWas q_nextWays q_nowWas q_nowWays q_to cI vthrown vpoints vplanes vaxes vkept vax vay vaz cpx cpy cpz cplane caxis cwas cways ckeptWas ckeptWays ckeptPoints cnextWas cnextWays cnowWas cnowWays cto) sz) (w_M qM q_px q_py q_pz q_plane q_axis q_was q_ways q_keptWas q_keptWays q_keptPoints q_nextWas q_nextWays q_nowWas q_nowWays q_to cI o_vthrown vpoints vplanes vaxes vkept vax vay vaz cpx cpy cpz cplane caxis cwas cways ckeptWas ckeptWays ckeptPoints cnextWas cnextWays cnowWas cnowWays cto)) (va_A (w_M qM q_px q_py q_pz q_plane q_axis q_was q_ways q_keptWas q_keptWays q_keptPoints q_nextWas q_nextWays q_nowWas q_nowWays q_to cI vthrown vpoints vplanes vaxes vkept vax vay vaz cpx cpy cpz cplane caxis cwas cways ckeptWas ckeptWays ckeptPoints cnextWas cnextWays cnowWas cnowWays cto) sz)) 0 0 (va_A (w_M qM q_px q_py q_pz q_plane q_axis q_was q_ways q_keptWas q_keptWays q_keptPoints q_nextWas q_nextWays q_nowWas q_nowWays q_to cI vthrown vpoints vplanes vaxes vkept vax vay vaz cpx cpy cpz cplane caxis cwas cways ckeptWas ckeptWays ckeptPoints cnextWas cnextWays cnowWas cnowWays cto) sz) := by
  refine Met.ofW (cc := b_M_way) (maxL := 2) (ret := (some .int)) (by decide) rfl ?_
  intro p e s m args below meth c s₁ B hml hv
  obtain ⟨rfl, hsz, hP, hK, hZ, hD0⟩ := hv
  have hx := B.exec
  have hb := B.bytes
  have hr := B.returns
  have hts := atoms_spec (ws := w_M_way) B.pre
  have ht : ∀ w ∈ wAll, w.before _ s = true := fun w h => hts w (List.mem_cons_of_mem _ h)
  have hown : s.vm.findClass R_M = some m.cls := findClass_of_methodNamed B.named
  have hlocks := B.notSynchronized
  subst hsz
  have hD := hD0.self (sz := s.heap.size)
  generalize hAe : va_A (w_M qM q_px q_py q_pz q_plane q_axis q_was q_ways q_keptWas q_keptWays q_keptPoints q_nextWas q_nextWays q_nowWas q_nowWays q_to cI vthrown vpoints vplanes vaxes vkept vax vay vaz cpx cpy cpz cplane caxis cwas cways ckeptWas ckeptWays ckeptPoints cnextWas cnextWays cnowWas cnowWays cto) s.heap.size = A at hD ⊢
  have hA : ∀ q : Nat, s.heap.size ≤ q → A q := fun q h => by rw [← hAe]; exact Or.inr h
  have hS : va_S A s.heap s.heap [] := va_S.rf
  have hP : va_P (dC, dI) vwCl (w_M qM q_px q_py q_pz q_plane q_axis q_was q_ways q_keptWas q_keptWays q_keptPoints q_nextWas q_nextWays q_nowWas q_nowWays q_to cI vthrown vpoints vplanes vaxes vkept vax vay vaz cpx cpy cpz cplane caxis cwas cways ckeptWas ckeptWays ckeptPoints cnextWas cnextWays cnowWas cnowWays cto) s.heap := hP
  have hl := lv_entry ([.ref qM, .int x1]) (n := 2) (Nat.le_of_ble_eq_true rfl)
  rw [lg_entry_eq]
  generalize (lg_sl ([.ref qM, .int x1]) ++ List.replicate (2 - (lg_sl ([.ref qM, .int x1])).length) Slot.unset).toArray = ls at hl ⊢
  have hl : lv_has ls 2 [(0, .ref qM), (1, .int x1)] := hl
  unfold f_M_way at hf
  obtain ⟨H, hH⟩ : ∃ z, z = s.heap := ⟨_, rfl⟩
  have hS : va_S A s.heap H [] := by rw [hH]; exact hS
  have hP : va_P (dC, dI) vwCl (w_M qM q_px q_py q_pz q_plane q_axis q_was q_ways q_keptWas q_keptWays q_keptPoints q_nextWas q_nextWays q_nowWas q_nowWays q_to cI vthrown vpoints vplanes vaxes vkept vax vay vaz cpx cpy cpz cplane caxis cwas cways ckeptWas ckeptWays ckeptPoints cnextWas cnextWays cnowWas cnowWays cto) H := by rw [hH]; exact hP
  refine w_heap hH ?_
  refine lv_aload_n hx hb d_M_way_0 rfl (lv_at hl 0 rfl) ?_
  refine lv_iconst (v := 0) hx hb d_M_way_1 (by decide) ?_
  refine va_put (D := (dC, dI)) (ci := 3) (v := .int 0) (ty := .int) (C := R_M) (T := T_M) (N := 23) hx hb ht in_M t_M t_M_ok n_M hown hK hP hD hS 0 rfl rfl 0 (by decide) (ht _ m_346) (fun _ h9 => h9) rfl (by decide +kernel) rfl rfl (Nat.le_of_ble_eq_true rfl) d_M_way_2 (fun H locs hP hD hS => ?_)
  have hP : va_P (dC, dI) vwCl (w_M qM q_px q_py q_pz q_plane q_axis q_was q_ways q_keptWas q_keptWays q_keptPoints q_nextWas q_nextWays q_nowWas q_nowWays q_to cI 0 vpoints vplanes vaxes vkept vax vay vaz cpx cpy cpz cplane caxis cwas cways ckeptWas ckeptWays ckeptPoints cnextWas cnextWays cnowWas cnowWays cto) H := hP
  have hD : va_D A (w_M qM q_px q_py q_pz q_plane q_axis q_was q_ways q_keptWas q_keptWays q_keptPoints q_nextWas q_nextWays q_nowWas q_nowWays q_to cI 0 vpoints vplanes vaxes vkept vax vay vaz cpx cpy cpz cplane caxis cwas cways ckeptWas ckeptWays ckeptPoints cnextWas cnextWays cnowWas cnowWays cto) := hD
  refine lv_aload_n hx hb d_M_way_5 rfl (lv_at hl 0 rfl) ?_
  refine lv_iload_n hx hb d_M_way_6 rfl (lv_at hl 1 rfl) ?_
  obtain ⟨r1z, hfc, hf⟩ := oCall1_some hf
  have hPc := hP.sub (ws' := (w_M qM q_px q_py q_pz q_plane q_axis q_was q_ways q_keptWas q_keptWays q_keptPoints q_nextWas q_nextWays q_nowWas q_nowWays q_to cI 0 vpoints vplanes vaxes vkept vax vay vaz cpx cpy cpz cplane caxis cwas cways ckeptWas ckeptWays ckeptPoints cnextWas cnextWays cnowWas cnowWays cto)) [0, 1, 2, 3, 4, 5, 6, 7, 8, 9, 10, 11, 12, 13, 14, 15] rfl
  refine vp_callSi (va_runV (As := [.int x1]) (rest := []) ⟨hx, hb, hml, hown, ht⟩ (c_M_isPoint l dC dI qM q_px q_py q_pz q_plane q_axis q_was q_ways q_keptWas q_keptWays q_keptPoints q_nextWas q_nextWays q_nowWas q_nowWays q_to cI cJ cQ 0 vpoints vplanes vaxes vkept vax vay vaz cpx cpy cpz cplane caxis cwas cways ckeptWas ckeptWays ckeptPoints cnextWas cnextWays cnowWas cnowWays cto x1 r1z hfc) (cwV 1 ht (gV m_466 m_468 m_12 m_31 m_469) rfl rfl rfl (by decide +kernel) ⟨Nat.le_of_ble_eq_true rfl, Nat.le_of_ble_eq_true rfl⟩) (preRV hPc hK hZ (va_recv hK hPc (ci := 3) (q0 := 0) rfl rfl)) rfl rfl hl.1 rfl (lv_room (Nat.le_of_ble_eq_true rfl)) d_M_way_7 ⟨Nat.le_of_ble_eq_true rfl, Nat.le_of_ble_eq_true rfl⟩).run (fun r1 hw => ?_)
  subst hw
  clear hPc hfc
  refine lv_if_eq (tgt := 22) hx hb d_M_way_10 (by decide) (fun c2 => ?_) (fun c2 => ?_)
  · have hf := oIf_t hf c2
    refine lv_iconst (v := (-1)) hx hb d_M_way_22 (by decide) ?_
    cases hf
    exact W.iret hx hb hr (fun t ht hW => ⟨⟨_, (), rfl, rfl, by rw [ht]; exact hP, hD⟩, hS.F ht⟩) hS.2.2 d_M_way_23
  · have hf := oIf_f hf c2
    refine lv_aload_n hx hb d_M_way_13 rfl (lv_at hl 0 rfl) ?_
    refine va_get (D := (dC, dI)) (ci := 3) (v := .ref q_ways) (C := R_M) (T := T_M) (N := 23) hx hb ht in_M hown hK hP 0 rfl rfl 10 (by decide) (ht _ m_356) (fun _ h9 => h9) rfl d_M_way_14 ?_
    refine lv_iload_n hx hb d_M_way_17 rfl (lv_at hl 1 rfl) ?_
    obtain ⟨hi3, hf⟩ := oIn_some hf
    refine va_iald hx hb hK hP 7 0 rfl rfl hi3 d_M_way_18 ?_
    refine lv_goto (tgt := 23) hx hb d_M_way_19 (by decide) ?_
    cases hf
    exact W.iret hx hb hr (fun t ht hW => ⟨⟨_, (), rfl, rfl, by rw [ht]; exact hP, hD⟩, hS.F ht⟩) hS.2.2 d_M_way_23
set_option maxHeartbeats 4000000 in
set_option maxRecDepth 100000 in
theorem c_M_home (l : Launch) (dC : Nat → ClassId) (dI : Nat → Nat → Nat) (qM q_px q_py q_pz q_plane q_axis q_was q_ways q_keptWas q_keptWays q_keptPoints q_nextWas q_nextWays q_nowWas q_nowWays q_to : Nat) (cI cJ cQ : ClassId) (sz : Nat) (vthrown : Int32) (vpoints : Int32) (vplanes : Int32) (vaxes : Int32) (vkept : Int32) (vax : Int32) (vay : Int32) (vaz : Int32) (cpx : Nat → Int32) (cpy : Nat → Int32) (cpz : Nat → Int32) (cplane : Nat → Int32) (caxis : Nat → Int32) (cwas : Nat → Int32) (cways : Nat → Int32) (ckeptWas : Nat → Int32) (ckeptWays : Nat → Int32) (ckeptPoints : Nat → Int32) (cnextWas : Nat → Int32) (cnextWays : Nat → Int32) (cnowWas : Nat → Int32) (cnowWays : Nat → Int32) (cto : Nat → Int32) (r_ : Int32) (o_vthrown : Int32) (hf : f_M_home vthrown vpoints cwas cways = some (r_, o_vthrown)) : Met l y_M_home w_M_home ({ frames := 0, cells := 0, slots := 0, locals := 0 }) (va_Pc [.ref qM] (fun U => U.heap.size = sz ∧ va_P (dC, dI) vwCl (w_M qM q_px q_py q_pz q_plane q_axis q_was q_ways q_keptWas q_keptWays q_keptPoints q_nextWas q_nextWays q_nowWas q_nowWays q_to cI vthrown vpoints vplanes vaxes vkept vax vay vaz cpx cpy cpz cplane caxis cwas cways ckeptWas ckeptWays ckeptPoints cnextWas cnextWays cnowWas cnowWays cto) U.heap ∧ va_K (dC, dI) vwCl [(cI, .int), (cJ, .long), (cQ, .object "CutBodies$Contents")] U ∧ nestZ U ∧ va_D (fun _ => True) (w_M qM q_px q_py q_pz q_plane q_axis q_was q_ways q_keptWas q_keptWays q_keptPoints q_nextWas q_nextWays q_nowWas q_nowWays q_to cI vthrown vpoints vplanes vaxes vkept vax vay vaz cpx cpy cpz cplane caxis cwas cways ckeptWas ckeptWays ckeptPoints cnextWas cnextWays cnowWas cnowWays cto))) (va_Qi (fun (r9 : Int32) (_ : Unit) => r9 = r_) (fun _ t => va_P (dC, dI) vwCl (w_M qM q_px q_py q_pz q_plane q_axis q_was q_ways q_keptWas q_keptWays q_keptPoints q_nextWas q_nextWays q_nowWas q_nowWays q_to cI o_vthrown vpoints vplanes vaxes vkept vax vay vaz cpx cpy cpz cplane caxis cwas cways ckeptWas ckeptWays ckeptPoints cnextWas cnextWays cnowWas cnowWays cto) t.heap ∧ va_D (va_A (w_M qM q_px q_py q_pz q_plane q_axis q_was q_ways q_keptWas q_keptWays q_keptPoints q_nextWas q_nextWays q_nowWas q_nowWays q_to cI vthrown vpoints vplanes vaxes vkept vax vay vaz cpx cpy cpz cplane caxis cwas cways ckeptWas ckeptWays ckeptPoints cnextWas cnextWays cnowWas cnowWays cto) sz) (w_M qM q_px q_py q_pz q_plane q_axis q_was q_ways q_keptWas q_keptWays q_keptPoints q_nextWas q_nextWays q_nowWas q_nowWays q_to cI o_vthrown vpoints vplanes vaxes vkept vax vay vaz cpx cpy cpz cplane caxis cwas cways ckeptWas ckeptWays ckeptPoints cnextWas cnextWays cnowWas cnowWays cto)) (va_A (w_M qM q_px q_py q_pz q_plane q_axis q_was q_ways q_keptWas q_keptWays q_keptPoints q_nextWas q_nextWays q_nowWas q_nowWays q_to cI vthrown vpoints vplanes vaxes vkept vax vay vaz cpx cpy cpz cplane caxis cwas cways ckeptWas ckeptWays ckeptPoints cnextWas cnextWays cnowWas cnowWays cto) sz)) 0 0 (va_A (w_M qM q_px q_py q_pz q_plane q_axis q_was q_ways q_keptWas q_keptWays q_keptPoints q_nextWas q_nextWays q_nowWas q_nowWays q_to cI vthrown vpoints vplanes vaxes vkept vax vay vaz cpx cpy cpz cplane caxis cwas cways ckeptWas ckeptWays ckeptPoints cnextWas cnextWays cnowWas cnowWays cto) sz) := by
  refine Met.ofW (cc := b_M_home) (maxL := 3) (ret := (some .int)) (by decide) rfl ?_
  intro p e s m args below meth c s₁ B hml hv
  obtain ⟨rfl, hsz, hP, hK, hZ, hD0⟩ := hv
  have hx := B.exec
  have hb := B.bytes
  have hr := B.returns
  have hts := atoms_spec (ws := w_M_home) B.pre
  have ht : ∀ w ∈ wAll, w.before _ s = true := fun w h => hts w (List.mem_cons_of_mem _ h)
  have hown : s.vm.findClass R_M = some m.cls := findClass_of_methodNamed B.named
  have hlocks := B.notSynchronized
  subst hsz
  have hD := hD0.self (sz := s.heap.size)
  generalize hAe : va_A (w_M qM q_px q_py q_pz q_plane q_axis q_was q_ways q_keptWas q_keptWays q_keptPoints q_nextWas q_nextWays q_nowWas q_nowWays q_to cI vthrown vpoints vplanes vaxes vkept vax vay vaz cpx cpy cpz cplane caxis cwas cways ckeptWas ckeptWays ckeptPoints cnextWas cnextWays cnowWas cnowWays cto) s.heap.size = A at hD ⊢
  have hA : ∀ q : Nat, s.heap.size ≤ q → A q := fun q h => by rw [← hAe]; exact Or.inr h
  have hS : va_S A s.heap s.heap [] := va_S.rf
  have hP : va_P (dC, dI) vwCl (w_M qM q_px q_py q_pz q_plane q_axis q_was q_ways q_keptWas q_keptWays q_keptPoints q_nextWas q_nextWays q_nowWas q_nowWays q_to cI vthrown vpoints vplanes vaxes vkept vax vay vaz cpx cpy cpz cplane caxis cwas cways ckeptWas ckeptWays ckeptPoints cnextWas cnextWays cnowWas cnowWays cto) s.heap := hP
  have hl := lv_entry ([.ref qM]) (n := 3) (Nat.le_of_ble_eq_true rfl)
  rw [lg_entry_eq]
  generalize (lg_sl ([.ref qM]) ++ List.replicate (3 - (lg_sl ([.ref qM])).length) Slot.unset).toArray = ls at hl ⊢
  have hl : lv_has ls 3 [(0, .ref qM)] := hl
  refine w_abs (fun Wx toX ofX => ?_)
  have K9 : ∀ (vthrown : Int32) (n : Nat) (x1 : Int32) (x2 : Int32) (H : Heap) (locs : List Loc) (ls : Array Slot), oLoop2 (f_M_home_L9  vpoints cwas cways vthrown) n x1 x2 = some (r_, o_vthrown) → va_P (dC, dI) vwCl (w_M qM q_px q_py q_pz q_plane q_axis q_was q_ways q_keptWas q_keptWays q_keptPoints q_nextWas q_nextWays q_nowWas q_nowWays q_to cI vthrown vpoints vplanes vaxes vkept vax vay vaz cpx cpy cpz cplane caxis cwas cways ckeptWas ckeptWays ckeptPoints cnextWas cnextWays cnowWas cnowWays cto) H → va_D A (w_M qM q_px q_py q_pz q_plane q_axis q_was q_ways q_keptWas q_keptWays q_keptPoints q_nextWas q_nextWays q_nowWas q_nowWays q_to cI vthrown vpoints vplanes vaxes vkept vax vay vaz cpx cpy cpz cplane caxis cwas cways ckeptWas ckeptWays ckeptPoints cnextWas cnextWays cnowWas cnowWays cto) → va_S A s.heap H locs → lv_has ls 3 [(0, .ref qM), (1, .int x1), (2, .int x2)] → Wx H locs 0 0 (F0 m 9 ls []) := by
    intro vthrown n
    induction n with
    | zero => intro x1 x2 H locs ls hf; exact (oLoop2_0 hf).elim
    | succ n ih9 =>
      obtain ⟨rec9, hrec9⟩ : ∃ z, z = oLoop2 (f_M_home_L9  vpoints cwas cways vthrown) n := ⟨_, rfl⟩
      rw [← hrec9] at ih9
      have K42 : ∀ (x2 : Int32) (t0 : Int32) (t1 : Int32) (H : Heap) (locs : List Loc) (ls : Array Slot), f_M_home_J42 rec9 vpoints cwas cways vthrown x2 t0 t1 = some (r_, o_vthrown) → va_P (dC, dI) vwCl (w_M qM q_px q_py q_pz q_plane q_axis q_was q_ways q_keptWas q_keptWays q_keptPoints q_nextWas q_nextWays q_nowWas q_nowWays q_to cI vthrown vpoints vplanes vaxes vkept vax vay vaz cpx cpy cpz cplane caxis cwas cways ckeptWas ckeptWays ckeptPoints cnextWas cnextWays cnowWas cnowWays cto) H → va_D A (w_M qM q_px q_py q_pz q_plane q_axis q_was q_ways q_keptWas q_keptWays q_keptPoints q_nextWas q_nextWays q_nowWas q_nowWays q_to cI vthrown vpoints vplanes vaxes vkept vax vay vaz cpx cpy cpz cplane caxis cwas cways ckeptWas ckeptWays ckeptPoints cnextWas cnextWays cnowWas cnowWays cto) → va_S A s.heap H locs → lv_has ls 3 [(0, .ref qM), (2, .int x2)] → Wx H locs 0 0 (F0 m 42 ls [.int t1, .int t0]) := by
        intro x2 t0 t1 H locs ls hf hP hD hS hl
        refine toX _ _ _ _ _ ?_
        unfold f_M_home_J42 at hf
        refine lv_iadd hx hb d_M_home_42 ?_
        refine lv_topi (fun v1 ev1 => ?_)
        have hf := oLet_some hf ev1
        refine lv_istore_n (lv' := [(1, .int v1), (0, .ref qM), (2, .int x2)]) hx hb d_M_home_43 rfl hl (by decide) rfl (fun ls hl => ?_)
        obtain ⟨v2, ev2, hf⟩ := oLet_ex hf
        refine lv_iinc (v := v2) (lv' := [(2, .int v2), (1, .int v1), (0, .ref qM)]) hx hb d_M_home_44 hl (k := 2) rfl (by rw [ev2]; rfl) (by decide) rfl (fun ls hl => ?_)
        refine lv_goto (tgt := 9) hx hb d_M_home_47 (by decide) ?_
        exact ofX _ _ _ _ _ (ih9 v1 v2 _ _ _ hf hP hD hS (lv_sub hl [2, 1, 0] rfl))
      have K41 : ∀ (x2 : Int32) (t0 : Int32) (H : Heap) (locs : List Loc) (ls : Array Slot), f_M_home_J41 rec9 vpoints cwas cways vthrown x2 t0 = some (r_, o_vthrown) → va_P (dC, dI) vwCl (w_M qM q_px q_py q_pz q_plane q_axis q_was q_ways q_keptWas q_keptWays q_keptPoints q_nextWas q_nextWays q_nowWas q_nowWays q_to cI vthrown vpoints vplanes vaxes vkept vax vay vaz cpx cpy cpz cplane caxis cwas cways ckeptWas ckeptWays ckeptPoints cnextWas cnextWays cnowWas cnowWays cto) H → va_D A (w_M qM q_px q_py q_pz q_plane q_axis q_was q_ways q_keptWas q_keptWays q_keptPoints q_nextWas q_nextWays q_nowWas q_nowWays q_to cI vthrown vpoints vplanes vaxes vkept vax vay vaz cpx cpy cpz cplane caxis cwas cways ckeptWas ckeptWays ckeptPoints cnextWas cnextWays cnowWas cnowWays cto) → va_S A s.heap H locs → lv_has ls 3 [(0, .ref qM), (2, .int x2)] → Wx H locs 0 0 (F0 m 41 ls [.int t0]) := by
        intro x2 t0 H locs ls hf hP hD hS hl
        refine toX _ _ _ _ _ ?_
        unfold f_M_home_J41 at hf
        refine lv_iconst (v := 0) hx hb d_M_home_41 (by decide) ?_
        exact ofX _ _ _ _ _ (K42  x2 t0 0 _ _ _ hf hP hD hS (lv_sub hl [0, 1] rfl))
      intro x1 x2 H locs ls hf hP hD hS hl
      refine toX _ _ _ _ _ ?_
      have hf := oLoop2_s hf
      rw [← hrec9] at hf
      unfold f_M_home_L9 at hf
      refine lv_iload_n hx hb d_M_home_9 rfl (lv_at hl 2 rfl) ?_
      refine lv_aload_n hx hb d_M_home_10 rfl (lv_at hl 0 rfl) ?_
      refine va_get (D := (dC, dI)) (ci := 3) (v := .int vpoints) (C := R_M) (T := T_M) (N := 23) hx hb ht in_M hown hK hP 0 rfl rfl 1 (by decide) (ht _ m_347) (fun _ h9 => h9) rfl d_M_home_11 ?_
      refine lv_icmp_ge (tgt := 50) hx hb d_M_home_14 (by decide) (fun c3 => ?_) (fun c3 => ?_)
      · have hf := oIf_t hf c3
        refine lv_iload_n hx hb d_M_home_50 rfl (lv_at hl 1 rfl) ?_
        cases hf
        exact W.iret hx hb hr (fun t ht hW => ⟨⟨_, (), rfl, rfl, by rw [ht]; exact hP, hD⟩, hS.F ht⟩) hS.2.2 d_M_home_51
      · have hf := oIf_f hf c3
        refine lv_iload_n hx hb d_M_home_17 rfl (lv_at hl 1 rfl) ?_
        refine lv_aload_n hx hb d_M_home_18 rfl (lv_at hl 0 rfl) ?_
        refine va_get (D := (dC, dI)) (ci := 3) (v := .ref q_was) (C := R_M) (T := T_M) (N := 23) hx hb ht in_M hown hK hP 0 rfl rfl 9 (by decide) (ht _ m_355) (fun _ h9 => h9) rfl d_M_home_19 ?_
        refine lv_iload_n hx hb d_M_home_22 rfl (lv_at hl 2 rfl) ?_
        obtain ⟨hi4, hf⟩ := oIn_some hf
        refine va_iald hx hb hK hP 6 0 rfl rfl hi4 d_M_home_23 ?_
        refine lv_iload_n hx hb d_M_home_24 rfl (lv_at hl 2 rfl) ?_
        refine lv_icmp_ne (tgt := 41) hx hb d_M_home_25 (by decide) (fun c5 => ?_) (fun c5 => ?_)
        · have hf := oIf_f hf c5
          exact ofX _ _ _ _ _ (K41  x2 x1 _ _ _ hf hP hD hS (lv_sub hl [0, 2] rfl))
        · have hf := oIf_t hf c5
          refine lv_aload_n hx hb d_M_home_28 rfl (lv_at hl 0 rfl) ?_
          refine va_get (D := (dC, dI)) (ci := 3) (v := .ref q_ways) (C := R_M) (T := T_M) (N := 23) hx hb ht in_M hown hK hP 0 rfl rfl 10 (by decide) (ht _ m_356) (fun _ h9 => h9) rfl d_M_home_29 ?_
          refine lv_iload_n hx hb d_M_home_32 rfl (lv_at hl 2 rfl) ?_
          obtain ⟨hi6, hf⟩ := oIn_some hf
          refine va_iald hx hb hK hP 7 0 rfl rfl hi6 d_M_home_33 ?_
          refine lv_if_ne (tgt := 41) hx hb d_M_home_34 (by decide) (fun c7 => ?_) (fun c7 => ?_)
          · have hf := oIf_f hf c7
            exact ofX _ _ _ _ _ (K41  x2 x1 _ _ _ hf hP hD hS (lv_sub hl [0, 2] rfl))
          · have hf := oIf_t hf c7
            refine lv_iconst (v := 1) hx hb d_M_home_37 (by decide) ?_
            refine lv_goto (tgt := 42) hx hb d_M_home_38 (by decide) ?_
            exact ofX _ _ _ _ _ (K42  x2 x1 1 _ _ _ hf hP hD hS (lv_sub hl [0, 2] rfl))
  refine toX _ _ _ _ _ ?_
  unfold f_M_home at hf
  obtain ⟨H, hH⟩ : ∃ z, z = s.heap := ⟨_, rfl⟩
  have hS : va_S A s.heap H [] := by rw [hH]; exact hS
  have hP : va_P (dC, dI) vwCl (w_M qM q_px q_py q_pz q_plane q_axis q_was q_ways q_keptWas q_keptWays q_keptPoints q_nextWas q_nextWays q_nowWas q_nowWays q_to cI vthrown vpoints vplanes vaxes vkept vax vay vaz cpx cpy cpz cplane caxis cwas cways ckeptWas ckeptWays ckeptPoints cnextWas cnextWays cnowWas cnowWays cto) H := by rw [hH]; exact hP
  refine w_heap hH ?_
  refine lv_aload_n hx hb d_M_home_0 rfl (lv_at hl 0 rfl) ?_
  refine lv_iconst (v := 0) hx hb d_M_home_1 (by decide) ?_
  refine va_put (D := (dC, dI)) (ci := 3) (v := .int 0) (ty := .int) (C := R_M) (T := T_M) (N := 23) hx hb ht in_M t_M t_M_ok n_M hown hK hP hD hS 0 rfl rfl 0 (by decide) (ht _ m_346) (fun _ h9 => h9) rfl (by decide +kernel) rfl rfl (Nat.le_of_ble_eq_true rfl) d_M_home_2 (fun H locs hP hD hS => ?_)
  have hP : va_P (dC, dI) vwCl (w_M qM q_px q_py q_pz q_plane q_axis q_was q_ways q_keptWas q_keptWays q_keptPoints q_nextWas q_nextWays q_nowWas q_nowWays q_to cI 0 vpoints vplanes vaxes vkept vax vay vaz cpx cpy cpz cplane caxis cwas cways ckeptWas ckeptWays ckeptPoints cnextWas cnextWays cnowWas cnowWays cto) H := hP
  have hD : va_D A (w_M qM q_px q_py q_pz q_plane q_axis q_was q_ways q_keptWas q_keptWays q_keptPoints q_nextWas q_nextWays q_nowWas q_nowWays q_to cI 0 vpoints vplanes vaxes vkept vax vay vaz cpx cpy cpz cplane caxis cwas cways ckeptWas ckeptWays ckeptPoints cnextWas cnextWays cnowWas cnowWays cto) := hD
  refine lv_iconst (v := 0) hx hb d_M_home_5 (by decide) ?_
  refine lv_istore_n (lv' := [(1, .int 0), (0, .ref qM)]) hx hb d_M_home_6 rfl hl (by decide) rfl (fun ls hl => ?_)
  refine lv_iconst (v := 0) hx hb d_M_home_7 (by decide) ?_
  refine lv_istore_n (lv' := [(2, .int 0), (1, .int 0), (0, .ref qM)]) hx hb d_M_home_8 rfl hl (by decide) rfl (fun ls hl => ?_)
  exact ofX _ _ _ _ _ (K9 0 _ 0 0 _ _ _ hf hP hD hS (lv_sub hl [2, 1, 0] rfl))
set_option maxHeartbeats 4000000 in
set_option maxRecDepth 100000 in
theorem c_M_maps (l : Launch) (dC : Nat → ClassId) (dI : Nat → Nat → Nat) (qM q_px q_py q_pz q_plane q_axis q_was q_ways q_keptWas q_keptWays q_keptPoints q_nextWas q_nextWays q_nowWas q_nowWays q_to : Nat) (cI cJ cQ : ClassId) (sz : Nat) (vthrown : Int32) (vpoints : Int32) (vplanes : Int32) (vaxes : Int32) (vkept : Int32) (vax : Int32) (vay : Int32) (vaz : Int32) (cpx : Nat → Int32) (cpy : Nat → Int32) (cpz : Nat → Int32) (cplane : Nat → Int32) (caxis : Nat → Int32) (cwas : Nat → Int32) (cways : Nat → Int32) (ckeptWas : Nat → Int32) (ckeptWays : Nat → Int32) (ckeptPoints : Nat → Int32) (cnextWas : Nat → Int32) (cnextWays : Nat → Int32) (cnowWas : Nat → Int32) (cnowWays : Nat → Int32) (cto : Nat → Int32) (x1 : Int32) (r_ : Int32) (o_vthrown : Int32) (o_vax : Int32) (o_vay : Int32) (o_vaz : Int32) (hf : f_M_maps vthrown vpoints vplanes vaxes vax vay vaz cpx cpy cpz cplane caxis x1 = some (r_, o_vthrown, o_vax, o_vay, o_vaz)) : Met l y_M_maps w_M_maps ({ frames := 3, cells := 0, slots := 0, locals := 83 }) (va_Pc [.ref qM, .int x1] (fun U => U.heap.size = sz ∧ va_P (dC, dI) vwCl (w_M qM q_px q_py q_pz q_plane q_axis q_was q_ways q_keptWas q_keptWays q_keptPoints q_nextWas q_nextWays q_nowWas q_nowWays q_to cI vthrown vpoints vplanes vaxes vkept vax vay vaz cpx cpy cpz cplane caxis cwas cways ckeptWas ckeptWays ckeptPoints cnextWas cnextWays cnowWas cnowWays cto) U.heap ∧ va_K (dC, dI) vwCl [(cI, .int), (cJ, .long), (cQ, .object "CutBodies$Contents")] U ∧ nestZ U ∧ va_D (fun _ => True) (w_M qM q_px q_py q_pz q_plane q_axis q_was q_ways q_keptWas q_keptWays q_keptPoints q_nextWas q_nextWays q_nowWas q_nowWays q_to cI vthrown vpoints vplanes vaxes vkept vax vay vaz cpx cpy cpz cplane caxis cwas cways ckeptWas ckeptWays ckeptPoints cnextWas cnextWays cnowWas cnowWays cto))) (va_Qi (fun (r9 : Int32) (_ : Unit) => r9 = r_) (fun _ t => va_P (dC, dI) vwCl (w_M qM q_px q_py q_pz q_plane q_axis q_was q_ways q_keptWas q_keptWays q_keptPoints q_nextWas q_nextWays q_nowWas q_nowWays q_to cI o_vthrown vpoints vplanes vaxes vkept o_vax o_vay o_vaz cpx cpy cpz cplane caxis cwas cways ckeptWas ckeptWays ckeptPoints cnextWas cnextWays cnowWas cnowWays cto) t.heap ∧ va_D (va_A (w_M qM q_px q_py q_pz q_plane q_axis q_was q_ways q_keptWas q_keptWays q_keptPoints q_nextWas q_nextWays q_nowWas q_nowWays q_to cI vthrown vpoints vplanes vaxes vkept vax vay vaz cpx cpy cpz cplane caxis cwas cways ckeptWas ckeptWays ckeptPoints cnextWas cnextWays cnowWas cnowWays cto) sz) (w_M qM q_px q_py q_pz q_plane q_axis q_was q_ways q_keptWas q_keptWays q_keptPoints q_nextWas q_nextWays q_nowWas q_nowWays q_to cI o_vthrown vpoints vplanes vaxes vkept o_vax o_vay o_vaz cpx cpy cpz cplane caxis cwas cways ckeptWas ckeptWays ckeptPoints cnextWas cnextWays cnowWas cnowWays cto)) (va_A (w_M qM q_px q_py q_pz q_plane q_axis q_was q_ways q_keptWas q_keptWays q_keptPoints q_nextWas q_nextWays q_nowWas q_nowWays q_to cI vthrown vpoints vplanes vaxes vkept vax vay vaz cpx cpy cpz cplane caxis cwas cways ckeptWas ckeptWays ckeptPoints cnextWas cnextWays cnowWas cnowWays cto) sz)) 0 0 (va_A (w_M qM q_px q_py q_pz q_plane q_axis q_was q_ways q_keptWas q_keptWays q_keptPoints q_nextWas q_nextWays q_nowWas q_nowWays q_to cI vthrown vpoints vplanes vaxes vkept vax vay vaz cpx cpy cpz cplane caxis cwas cways ckeptWas ckeptWays ckeptPoints cnextWas cnextWays cnowWas cnowWays cto) sz) := by
  refine Met.ofW (cc := b_M_maps) (maxL := 3) (ret := (some .boolean)) (by decide) rfl ?_
  intro p e s m args below meth c s₁ B hml hv
  obtain ⟨rfl, hsz, hP, hK, hZ, hD0⟩ := hv
  have hx := B.exec
  have hb := B.bytes
  have hr := B.returns
  have hts := atoms_spec (ws := w_M_maps) B.pre
  have ht : ∀ w ∈ wAll, w.before _ s = true := fun w h => hts w (List.mem_cons_of_mem _ h)
  have hown : s.vm.findClass R_M = some m.cls := findClass_of_methodNamed B.named
  have hlocks := B.notSynchronized
  subst hsz
  have hD := hD0.self (sz := s.heap.size)
  generalize hAe : va_A (w_M qM q_px q_py q_pz q_plane q_axis q_was q_ways q_keptWas q_keptWays q_keptPoints q_nextWas q_nextWays q_nowWas q_nowWays q_to cI vthrown vpoints vplanes vaxes vkept vax vay vaz cpx cpy cpz cplane caxis cwas cways ckeptWas ckeptWays ckeptPoints cnextWas cnextWays cnowWas cnowWays cto) s.heap.size = A at hD ⊢
  have hA : ∀ q : Nat, s.heap.size ≤ q → A q := fun q h => by rw [← hAe]; exact Or.inr h
  have hS : va_S A s.heap s.heap [] := va_S.rf
  have hP : va_P (dC, dI) vwCl (w_M qM q_px q_py q_pz q_plane q_axis q_was q_ways q_keptWas q_keptWays q_keptPoints q_nextWas q_nextWays q_nowWas q_nowWays q_to cI vthrown vpoints vplanes vaxes vkept vax vay vaz cpx cpy cpz cplane caxis cwas cways ckeptWas ckeptWays ckeptPoints cnextWas cnextWays cnowWas cnowWays cto) s.heap := hP
  have hl := lv_entry ([.ref qM, .int x1]) (n := 3) (Nat.le_of_ble_eq_true rfl)
  rw [lg_entry_eq]
  generalize (lg_sl ([.ref qM, .int x1]) ++ List.replicate (3 - (lg_sl ([.ref qM, .int x1])).length) Slot.unset).toArray = ls at hl ⊢
  have hl : lv_has ls 3 [(0, .ref qM), (1, .int x1)] := hl
  refine w_abs (fun Wx toX ofX => ?_)
  have K44 : ∀ (x1 : Int32) (vthrown : Int32) (n : Nat) (x2 : Int32) (vax : Int32) (vay : Int32) (vaz : Int32) (H : Heap) (locs : List Loc) (ls : Array Slot), oLoop4 (f_M_maps_L44  vpoints vplanes vaxes cpx cpy cpz cplane caxis x1 vthrown) n x2 vax vay vaz = some (r_, o_vthrown, o_vax, o_vay, o_vaz) → va_P (dC, dI) vwCl (w_M qM q_px q_py q_pz q_plane q_axis q_was q_ways q_keptWas q_keptWays q_keptPoints q_nextWas q_nextWays q_nowWas q_nowWays q_to cI vthrown vpoints vplanes vaxes vkept vax vay vaz cpx cpy cpz cplane caxis cwas cways ckeptWas ckeptWays ckeptPoints cnextWas cnextWays cnowWas cnowWays cto) H → va_D A (w_M qM q_px q_py q_pz q_plane q_axis q_was q_ways q_keptWas q_keptWays q_keptPoints q_nextWas q_nextWays q_nowWas q_nowWays q_to cI vthrown vpoints vplanes vaxes vkept vax vay vaz cpx cpy cpz cplane caxis cwas cways ckeptWas ckeptWays ckeptPoints cnextWas cnextWays cnowWas cnowWays cto) → va_S A s.heap H locs → lv_has ls 3 [(0, .ref qM), (1, .int x1), (2, .int x2)] → Wx H locs 0 0 (F0 m 44 ls []) := by
    intro x1 vthrown n
    induction n with
    | zero => intro x2 vax vay vaz H locs ls hf; exact (oLoop4_0 hf).elim
    | succ n ih44 =>
      obtain ⟨rec44, hrec44⟩ : ∃ z, z = oLoop4 (f_M_maps_L44  vpoints vplanes vaxes cpx cpy cpz cplane caxis x1 vthrown) n := ⟨_, rfl⟩
      rw [← hrec44] at ih44
      intro x2 vax vay vaz H locs ls hf hP hD hS hl
      refine toX _ _ _ _ _ ?_
      have hf := oLoop4_s hf
      rw [← hrec44] at hf
      unfold f_M_maps_L44 at hf
      refine lv_iload_n hx hb d_M_maps_44 rfl (lv_at hl 2 rfl) ?_
      refine lv_aload_n hx hb d_M_maps_45 rfl (lv_at hl 0 rfl) ?_
      refine va_get (D := (dC, dI)) (ci := 3) (v := .int vplanes) (C := R_M) (T := T_M) (N := 23) hx hb ht in_M hown hK hP 0 rfl rfl 2 (by decide) (ht _ m_348) (fun _ h9 => h9) rfl d_M_maps_46 ?_
      refine lv_icmp_ge (tgt := 69) hx hb d_M_maps_49 (by decide) (fun c1 => ?_) (fun c1 => ?_)
      · have hf := oIf_t hf c1
        refine lv_iconst (v := 1) hx hb d_M_maps_69 (by decide) ?_
        cases hf
        exact W.zret (ty := .boolean) hx hb hr rfl (fun t ht hW => ⟨⟨_, (), rfl, rfl, by rw [ht]; exact hP, hD⟩, hS.F ht⟩) hS.2.2 d_M_maps_70
      · have hf := oIf_f hf c1
        refine lv_aload_n hx hb d_M_maps_52 rfl (lv_at hl 0 rfl) ?_
        refine lv_iload_n hx hb d_M_maps_53 rfl (lv_at hl 1 rfl) ?_
        refine lv_iload_n hx hb d_M_maps_54 rfl (lv_at hl 2 rfl) ?_
        obtain ⟨r5z, o2, o3, o4, hfc, hf⟩ := oCall4_some hf
        have hPc := hP.sub (ws' := (w_M qM q_px q_py q_pz q_plane q_axis q_was q_ways q_keptWas q_keptWays q_keptPoints q_nextWas q_nextWays q_nowWas q_nowWays q_to cI vthrown vpoints vplanes vaxes vkept vax vay vaz cpx cpy cpz cplane caxis cwas cways ckeptWas ckeptWays ckeptPoints cnextWas cnextWays cnowWas cnowWays cto)) [0, 1, 2, 3, 4, 5, 6, 7, 8, 9, 10, 11, 12, 13, 14, 15] rfl
        have hDc := hD.sub (ws' := (w_M qM q_px q_py q_pz q_plane q_axis q_was q_ways q_keptWas q_keptWays q_keptPoints q_nextWas q_nextWays q_nowWas q_nowWays q_to cI vthrown vpoints vplanes vaxes vkept vax vay vaz cpx cpy cpz cplane caxis cwas cways ckeptWas ckeptWays ckeptPoints cnextWas cnextWays cnowWas cnowWays cto)) [0, 1, 2, 3, 4, 5, 6, 7, 8, 9, 10, 11, 12, 13, 14, 15] (by decide) rfl
        have hFc := va_free (wc := (w_M qM q_px q_py q_pz q_plane q_axis q_was q_ways q_keptWas q_keptWays q_keptPoints q_nextWas q_nextWays q_nowWas q_nowWays q_to cI vthrown vpoints vplanes vaxes vkept vax vay vaz cpx cpy cpz cplane caxis cwas cways ckeptWas ckeptWays ckeptPoints cnextWas cnextWays cnowWas cnowWays cto)) hD hS hA [0, 1, 2, 3, 4, 5, 6, 7, 8, 9, 10, 11, 12, 13, 14, 15] rfl
        refine va_calli (va_runV (As := [.int x1, .int x2]) (rest := []) ⟨hx, hb, hml, hown, ht⟩ (c_M_isThere l dC dI qM q_px q_py q_pz q_plane q_axis q_was q_ways q_keptWas q_keptWays q_keptPoints q_nextWas q_nextWays q_nowWas q_nowWays q_to cI cJ cQ H.size vthrown vpoints vplanes vaxes vkept vax vay vaz cpx cpy cpz cplane caxis cwas cways ckeptWas ckeptWays ckeptPoints cnextWas cnextWays cnowWas cnowWays cto x1 x2 r5z o2 o3 o4 hfc) (cwV 2 ht (gV m_562 m_564 m_25 m_31 m_565) rfl rfl rfl (by decide +kernel) ⟨Nat.le_of_ble_eq_true rfl, Nat.le_of_ble_eq_true rfl⟩) (preMV hPc hK hZ hDc (va_recv hK hPc (ci := 3) (q0 := 0) rfl rfl)) rfl rfl hl.1 rfl (lv_room (Nat.le_of_ble_eq_true rfl)) d_M_maps_55 ⟨Nat.le_of_ble_eq_true rfl, Nat.le_of_ble_eq_true rfl⟩) hS (fun q _ h => hFc q h) hFc (fun r5 u t H1 locs ht9 hvm hw hB hz1 hk1 hS => ?_)
        obtain ⟨hP1, hD1⟩ := hB
        rw [ht9] at hP1
        subst hw
        obtain ⟨hP, hD⟩ := va_join (wr := []) (w1 := (w_M qM q_px q_py q_pz q_plane q_axis q_was q_ways q_keptWas q_keptWays q_keptPoints q_nextWas q_nextWays q_nowWas q_nowWays q_to cI vthrown vpoints vplanes vaxes vkept o2 o3 o4 cpx cpy cpz cplane caxis cwas cways ckeptWas ckeptWays ckeptPoints cnextWas cnextWays cnowWas cnowWays cto)) hP hD [0, 1, 2, 3, 4, 5, 6, 7, 8, 9, 10, 11, 12, 13, 14, 15] [] rfl rfl (by decide) (by decide) hk1 hFc hP1 hD1
        have hP := hP.sub (ws' := (w_M qM q_px q_py q_pz q_plane q_axis q_was q_ways q_keptWas q_keptWays q_keptPoints q_nextWas q_nextWays q_nowWas q_nowWays q_to cI vthrown vpoints vplanes vaxes vkept o2 o3 o4 cpx cpy cpz cplane caxis cwas cways ckeptWas ckeptWays ckeptPoints cnextWas cnextWays cnowWas cnowWays cto)) [0, 1, 2, 3, 4, 5, 6, 7, 8, 9, 10, 11, 12, 13, 14, 15] rfl
        have hD := hD.sub (ws' := (w_M qM q_px q_py q_pz q_plane q_axis q_was q_ways q_keptWas q_keptWays q_keptPoints q_nextWas q_nextWays q_nowWas q_nowWays q_to cI vthrown vpoints vplanes vaxes vkept o2 o3 o4 cpx cpy cpz cplane caxis cwas cways ckeptWas ckeptWays ckeptPoints cnextWas cnextWays cnowWas cnowWays cto)) [0, 1, 2, 3, 4, 5, 6, 7, 8, 9, 10, 11, 12, 13, 14, 15] (by decide) rfl
        clear hPc hDc hFc hP1 hD1 hz1 hk1 ht9 hvm hfc
        generalize H1 = H at hP hS ⊢
        refine lv_if_ne (tgt := 63) hx hb d_M_maps_58 (by decide) (fun c6 => ?_) (fun c6 => ?_)
        · have hf := oIf_f hf c6
          obtain ⟨v7, ev7, hf⟩ := oLet_ex hf
          refine lv_iinc (v := v7) (lv' := [(2, .int v7), (0, .ref qM), (1, .int x1)]) hx hb d_M_maps_63 hl (k := 2) rfl (by rw [ev7]; rfl) (by decide) rfl (fun ls hl => ?_)
          refine lv_goto (tgt := 44) hx hb d_M_maps_66 (by decide) ?_
          exact ofX _ _ _ _ _ (ih44 v7 o2 o3 o4 _ _ _ hf hP hD hS (lv_sub hl [1, 2, 0] rfl))
        · have hf := oIf_t hf c6
          refine lv_iconst (v := 0) hx hb d_M_maps_61 (by decide) ?_
          cases hf
          exact W.zret (ty := .boolean) hx hb hr rfl (fun t ht hW => ⟨⟨_, (), rfl, rfl, by rw [ht]; exact hP, hD⟩, hS.F ht⟩) hS.2.2 d_M_maps_62
  have K17 : ∀ (x1 : Int32) (vthrown : Int32) (n : Nat) (x2 : Int32) (vax : Int32) (vay : Int32) (vaz : Int32) (H : Heap) (locs : List Loc) (ls : Array Slot), oLoop4 (f_M_maps_L17  vpoints vplanes vaxes cpx cpy cpz cplane caxis x1 vthrown) n x2 vax vay vaz = some (r_, o_vthrown, o_vax, o_vay, o_vaz) → va_P (dC, dI) vwCl (w_M qM q_px q_py q_pz q_plane q_axis q_was q_ways q_keptWas q_keptWays q_keptPoints q_nextWas q_nextWays q_nowWas q_nowWays q_to cI vthrown vpoints vplanes vaxes vkept vax vay vaz cpx cpy cpz cplane caxis cwas cways ckeptWas ckeptWays ckeptPoints cnextWas cnextWays cnowWas cnowWays cto) H → va_D A (w_M qM q_px q_py q_pz q_plane q_axis q_was q_ways q_keptWas q_keptWays q_keptPoints q_nextWas q_nextWays q_nowWas q_nowWays q_to cI vthrown vpoints vplanes vaxes vkept vax vay vaz cpx cpy cpz cplane caxis cwas cways ckeptWas ckeptWays ckeptPoints cnextWas cnextWays cnowWas cnowWays cto) → va_S A s.heap H locs → lv_has ls 3 [(0, .ref qM), (1, .int x1), (2, .int x2)] → Wx H locs 0 0 (F0 m 17 ls []) := by
    intro x1 vthrown n
    induction n with
    | zero => intro x2 vax vay vaz H locs ls hf; exact (oLoop4_0 hf).elim
    | succ n ih17 =>
      obtain ⟨rec17, hrec17⟩ : ∃ z, z = oLoop4 (f_M_maps_L17  vpoints vplanes vaxes cpx cpy cpz cplane caxis x1 vthrown) n := ⟨_, rfl⟩
      rw [← hrec17] at ih17
      intro x2 vax vay vaz H locs ls hf hP hD hS hl
      refine toX _ _ _ _ _ ?_
      have hf := oLoop4_s hf
      rw [← hrec17] at hf
      unfold f_M_maps_L17 at hf
      refine lv_iload_n hx hb d_M_maps_17 rfl (lv_at hl 2 rfl) ?_
      refine lv_aload_n hx hb d_M_maps_18 rfl (lv_at hl 0 rfl) ?_
      refine va_get (D := (dC, dI)) (ci := 3) (v := .int vpoints) (C := R_M) (T := T_M) (N := 23) hx hb ht in_M hown hK hP 0 rfl rfl 1 (by decide) (ht _ m_347) (fun _ h9 => h9) rfl d_M_maps_19 ?_
      refine lv_icmp_ge (tgt := 42) hx hb d_M_maps_22 (by decide) (fun c8 => ?_) (fun c8 => ?_)
      · have hf := oIf_t hf c8
        refine lv_iconst (v := 0) hx hb d_M_maps_42 (by decide) ?_
        refine lv_istore_n (lv' := [(2, .int 0), (0, .ref qM), (1, .int x1)]) hx hb d_M_maps_43 rfl hl (by decide) rfl (fun ls hl => ?_)
        exact ofX _ _ _ _ _ (K44 x1 vthrown _ 0 vax vay vaz _ _ _ hf hP hD hS (lv_sub hl [1, 2, 0] rfl))
      · have hf := oIf_f hf c8
        refine lv_aload_n hx hb d_M_maps_25 rfl (lv_at hl 0 rfl) ?_
        refine lv_iload_n hx hb d_M_maps_26 rfl (lv_at hl 1 rfl) ?_
        refine lv_iload_n hx hb d_M_maps_27 rfl (lv_at hl 2 rfl) ?_
        obtain ⟨r12z, o9, o10, o11, hfc, hf⟩ := oCall4_some hf
        have hPc := hP.sub (ws' := (w_M qM q_px q_py q_pz q_plane q_axis q_was q_ways q_keptWas q_keptWays q_keptPoints q_nextWas q_nextWays q_nowWas q_nowWays q_to cI vthrown vpoints vplanes vaxes vkept vax vay vaz cpx cpy cpz cplane caxis cwas cways ckeptWas ckeptWays ckeptPoints cnextWas cnextWays cnowWas cnowWays cto)) [0, 1, 2, 3, 4, 5, 6, 7, 8, 9, 10, 11, 12, 13, 14, 15] rfl
        have hDc := hD.sub (ws' := (w_M qM q_px q_py q_pz q_plane q_axis q_was q_ways q_keptWas q_keptWays q_keptPoints q_nextWas q_nextWays q_nowWas q_nowWays q_to cI vthrown vpoints vplanes vaxes vkept vax vay vaz cpx cpy cpz cplane caxis cwas cways ckeptWas ckeptWays ckeptPoints cnextWas cnextWays cnowWas cnowWays cto)) [0, 1, 2, 3, 4, 5, 6, 7, 8, 9, 10, 11, 12, 13, 14, 15] (by decide) rfl
        have hFc := va_free (wc := (w_M qM q_px q_py q_pz q_plane q_axis q_was q_ways q_keptWas q_keptWays q_keptPoints q_nextWas q_nextWays q_nowWas q_nowWays q_to cI vthrown vpoints vplanes vaxes vkept vax vay vaz cpx cpy cpz cplane caxis cwas cways ckeptWas ckeptWays ckeptPoints cnextWas cnextWays cnowWas cnowWays cto)) hD hS hA [0, 1, 2, 3, 4, 5, 6, 7, 8, 9, 10, 11, 12, 13, 14, 15] rfl
        refine va_calli (va_runV (As := [.int x1, .int x2]) (rest := []) ⟨hx, hb, hml, hown, ht⟩ (c_M_imageOf l dC dI qM q_px q_py q_pz q_plane q_axis q_was q_ways q_keptWas q_keptWays q_keptPoints q_nextWas q_nextWays q_nowWas q_nowWays q_to cI cJ cQ H.size vthrown vpoints vplanes vaxes vkept vax vay vaz cpx cpy cpz cplane caxis cwas cways ckeptWas ckeptWays ckeptPoints cnextWas cnextWays cnowWas cnowWays cto x1 x2 r12z o9 o10 o11 hfc) (cwV 2 ht (gV m_470 m_472 m_13 m_31 m_473) rfl rfl rfl (by decide +kernel) ⟨Nat.le_of_ble_eq_true rfl, Nat.le_of_ble_eq_true rfl⟩) (preMV hPc hK hZ hDc (va_recv hK hPc (ci := 3) (q0 := 0) rfl rfl)) rfl rfl hl.1 rfl (lv_room (Nat.le_of_ble_eq_true rfl)) d_M_maps_28 ⟨Nat.le_of_ble_eq_true rfl, Nat.le_of_ble_eq_true rfl⟩) hS (fun q _ h => hFc q h) hFc (fun r12 u t H1 locs ht9 hvm hw hB hz1 hk1 hS => ?_)
        obtain ⟨hP1, hD1⟩ := hB
        rw [ht9] at hP1
        subst hw
        obtain ⟨hP, hD⟩ := va_join (wr := []) (w1 := (w_M qM q_px q_py q_pz q_plane q_axis q_was q_ways q_keptWas q_keptWays q_keptPoints q_nextWas q_nextWays q_nowWas q_nowWays q_to cI vthrown vpoints vplanes vaxes vkept o9 o10 o11 cpx cpy cpz cplane caxis cwas cways ckeptWas ckeptWays ckeptPoints cnextWas cnextWays cnowWas cnowWays cto)) hP hD [0, 1, 2, 3, 4, 5, 6, 7, 8, 9, 10, 11, 12, 13, 14, 15] [] rfl rfl (by decide) (by decide) hk1 hFc hP1 hD1
        have hP := hP.sub (ws' := (w_M qM q_px q_py q_pz q_plane q_axis q_was q_ways q_keptWas q_keptWays q_keptPoints q_nextWas q_nextWays q_nowWas q_nowWays q_to cI vthrown vpoints vplanes vaxes vkept o9 o10 o11 cpx cpy cpz cplane caxis cwas cways ckeptWas ckeptWays ckeptPoints cnextWas cnextWays cnowWas cnowWays cto)) [0, 1, 2, 3, 4, 5, 6, 7, 8, 9, 10, 11, 12, 13, 14, 15] rfl
        have hD := hD.sub (ws' := (w_M qM q_px q_py q_pz q_plane q_axis q_was q_ways q_keptWas q_keptWays q_keptPoints q_nextWas q_nextWays q_nowWas q_nowWays q_to cI vthrown vpoints vplanes vaxes vkept o9 o10 o11 cpx cpy cpz cplane caxis cwas cways ckeptWas ckeptWays ckeptPoints cnextWas cnextWays cnowWas cnowWays cto)) [0, 1, 2, 3, 4, 5, 6, 7, 8, 9, 10, 11, 12, 13, 14, 15] (by decide) rfl
        clear hPc hDc hFc hP1 hD1 hz1 hk1 ht9 hvm hfc
        generalize H1 = H at hP hS ⊢
        refine lv_if_ge (tgt := 36) hx hb d_M_maps_31 (by decide) (fun c13 => ?_) (fun c13 => ?_)
        · have hf := oIf_t hf c13
          obtain ⟨v14, ev14, hf⟩ := oLet_ex hf
          refine lv_iinc (v := v14) (lv' := [(2, .int v14), (0, .ref qM), (1, .int x1)]) hx hb d_M_maps_36 hl (k := 2) rfl (by rw [ev14]; rfl) (by decide) rfl (fun ls hl => ?_)
          refine lv_goto (tgt := 17) hx hb d_M_maps_39 (by decide) ?_
          exact ofX _ _ _ _ _ (ih17 v14 o9 o10 o11 _ _ _ hf hP hD hS (lv_sub hl [1, 2, 0] rfl))
        · have hf := oIf_f hf c13
          refine lv_iconst (v := 0) hx hb d_M_maps_34 (by decide) ?_
          cases hf
          exact W.zret (ty := .boolean) hx hb hr rfl (fun t ht hW => ⟨⟨_, (), rfl, rfl, by rw [ht]; exact hP, hD⟩, hS.F ht⟩) hS.2.2 d_M_maps_35
  refine toX _ _ _ _ _ ?_
  unfold f_M_maps at hf
  obtain ⟨H, hH⟩ : ∃ z, z = s.heap := ⟨_, rfl⟩
  have hS : va_S A s.heap H [] := by rw [hH]; exact hS
  have hP : va_P (dC, dI) vwCl (w_M qM q_px q_py q_pz q_plane q_axis q_was q_ways q_keptWas q_keptWays q_keptPoints q_nextWas q_nextWays q_nowWas q_nowWays q_to cI vthrown vpoints vplanes vaxes vkept vax vay vaz cpx cpy cpz cplane caxis cwas cways ckeptWas ckeptWays ckeptPoints cnextWas cnextWays cnowWas cnowWays cto) H := by rw [hH]; exact hP
  refine w_heap hH ?_
  refine lv_aload_n hx hb d_M_maps_0 rfl (lv_at hl 0 rfl) ?_
  refine lv_iconst (v := 0) hx hb d_M_maps_1 (by decide) ?_
  refine va_put (D := (dC, dI)) (ci := 3) (v := .int 0) (ty := .int) (C := R_M) (T := T_M) (N := 23) hx hb ht in_M t_M t_M_ok n_M hown hK hP hD hS 0 rfl rfl 0 (by decide) (ht _ m_346) (fun _ h9 => h9) rfl (by decide +kernel) rfl rfl (Nat.le_of_ble_eq_true rfl) d_M_maps_2 (fun H locs hP hD hS => ?_)
  have hP : va_P (dC, dI) vwCl (w_M qM q_px q_py q_pz q_plane q_axis q_was q_ways q_keptWas q_keptWays q_keptPoints q_nextWas q_nextWays q_nowWas q_nowWays q_to cI 0 vpoints vplanes vaxes vkept vax vay vaz cpx cpy cpz cplane caxis cwas cways ckeptWas ckeptWays ckeptPoints cnextWas cnextWays cnowWas cnowWays cto) H := hP
  have hD : va_D A (w_M qM q_px q_py q_pz q_plane q_axis q_was q_ways q_keptWas q_keptWays q_keptPoints q_nextWas q_nextWays q_nowWas q_nowWays q_to cI 0 vpoints vplanes vaxes vkept vax vay vaz cpx cpy cpz cplane caxis cwas cways ckeptWas ckeptWays ckeptPoints cnextWas cnextWays cnowWas cnowWays cto) := hD
  refine lv_aload_n hx hb d_M_maps_5 rfl (lv_at hl 0 rfl) ?_
  refine lv_iload_n hx hb d_M_maps_6 rfl (lv_at hl 1 rfl) ?_
  obtain ⟨r15z, hfc, hf⟩ := oCall1_some hf
  have hPc := hP.sub (ws' := (w_M qM q_px q_py q_pz q_plane q_axis q_was q_ways q_keptWas q_keptWays q_keptPoints q_nextWas q_nextWays q_nowWas q_nowWays q_to cI 0 vpoints vplanes vaxes vkept vax vay vaz cpx cpy cpz cplane caxis cwas cways ckeptWas ckeptWays ckeptPoints cnextWas cnextWays cnowWas cnowWays cto)) [0, 1, 2, 3, 4, 5, 6, 7, 8, 9, 10, 11, 12, 13, 14, 15] rfl
  refine vp_callSi (va_runV (As := [.int x1]) (rest := []) ⟨hx, hb, hml, hown, ht⟩ (c_M_isAxis l dC dI qM q_px q_py q_pz q_plane q_axis q_was q_ways q_keptWas q_keptWays q_keptPoints q_nextWas q_nextWays q_nowWas q_nowWays q_to cI cJ cQ 0 vpoints vplanes vaxes vkept vax vay vaz cpx cpy cpz cplane caxis cwas cways ckeptWas ckeptWays ckeptPoints cnextWas cnextWays cnowWas cnowWays cto x1 r15z hfc) (cwV 1 ht (gV m_454 m_456 m_10 m_31 m_457) rfl rfl rfl (by decide +kernel) ⟨Nat.le_of_ble_eq_true rfl, Nat.le_of_ble_eq_true rfl⟩) (preRV hPc hK hZ (va_recv hK hPc (ci := 3) (q0 := 0) rfl rfl)) rfl rfl hl.1 rfl (lv_room (Nat.le_of_ble_eq_true rfl)) d_M_maps_7 ⟨Nat.le_of_ble_eq_true rfl, Nat.le_of_ble_eq_true rfl⟩).run (fun r15 hw => ?_)
  subst hw
  clear hPc hfc
  refine lv_if_ne (tgt := 15) hx hb d_M_maps_10 (by decide) (fun c16 => ?_) (fun c16 => ?_)
  · have hf := oIf_f hf c16
    refine lv_iconst (v := 0) hx hb d_M_maps_15 (by decide) ?_
    refine lv_istore_n (lv' := [(2, .int 0), (0, .ref qM), (1, .int x1)]) hx hb d_M_maps_16 rfl hl (by decide) rfl (fun ls hl => ?_)
    exact ofX _ _ _ _ _ (K17 x1 0 _ 0 vax vay vaz _ _ _ hf hP hD hS (lv_sub hl [1, 2, 0] rfl))
  · have hf := oIf_t hf c16
    refine lv_iconst (v := 0) hx hb d_M_maps_13 (by decide) ?_
    cases hf
    exact W.zret (ty := .boolean) hx hb hr rfl (fun t ht hW => ⟨⟨_, (), rfl, rfl, by rw [ht]; exact hP, hD⟩, hS.F ht⟩) hS.2.2 d_M_maps_14
set_option maxHeartbeats 4000000 in
set_option maxRecDepth 100000 in
theorem c_M_cycle (l : Launch) (dC : Nat → ClassId) (dI : Nat → Nat → Nat) (qM q_px q_py q_pz q_plane q_axis q_was q_ways q_keptWas q_keptWays q_keptPoints q_nextWas q_nextWays q_nowWas q_nowWays q_to : Nat) (cI cJ cQ : ClassId) (sz : Nat) (vthrown : Int32) (vpoints : Int32) (vplanes : Int32) (vaxes : Int32) (vkept : Int32) (vax : Int32) (vay : Int32) (vaz : Int32) (cpx : Nat → Int32) (cpy : Nat → Int32) (cpz : Nat → Int32) (cplane : Nat → Int32) (caxis : Nat → Int32) (cwas : Nat → Int32) (cways : Nat → Int32) (ckeptWas : Nat → Int32) (ckeptWays : Nat → Int32) (ckeptPoints : Nat → Int32) (cnextWas : Nat → Int32) (cnextWays : Nat → Int32) (cnowWas : Nat → Int32) (cnowWays : Nat → Int32) (cto : Nat → Int32) (x1 : Int32) (x2 : Int32) (x3 : Int32) (r_ : Int32) (o_vthrown : Int32) (o_vax : Int32) (o_vay : Int32) (o_vaz : Int32) (hf : f_M_cycle vthrown vpoints vplanes vaxes vax vay vaz cpx cpy cpz cplane caxis x1 x2 x3 = some (r_, o_vthrown, o_vax, o_vay, o_vaz)) : Met l y_M_cycle w_M_cycle ({ frames := 4, cells := 0, slots := 0, locals := 101 }) (va_Pc [.ref qM, .int x1, .int x2, .int x3] (fun U => U.heap.size = sz ∧ va_P (dC, dI) vwCl (w_M qM q_px q_py q_pz q_plane q_axis q_was q_ways q_keptWas q_keptWays q_keptPoints q_nextWas q_nextWays q_nowWas q_nowWays q_to cI vthrown vpoints vplanes vaxes vkept vax vay vaz cpx cpy cpz cplane caxis cwas cways ckeptWas ckeptWays ckeptPoints cnextWas cnextWays cnowWas cnowWays cto) U.heap ∧ va_K (dC, dI) vwCl [(cI, .int), (cJ, .long), (cQ, .object "CutBodies$Contents")] U ∧ nestZ U ∧ va_D (fun _ => True) (w_M qM q_px q_py q_pz q_plane q_axis q_was q_ways q_keptWas q_keptWays q_keptPoints q_nextWas q_nextWays q_nowWas q_nowWays q_to cI vthrown vpoints vplanes vaxes vkept vax vay vaz cpx cpy cpz cplane caxis cwas cways ckeptWas ckeptWays ckeptPoints cnextWas cnextWays cnowWas cnowWays cto))) (va_Qi (fun (r9 : Int32) (_ : Unit) => r9 = r_) (fun _ t => va_P (dC, dI) vwCl (w_M qM q_px q_py q_pz q_plane q_axis q_was q_ways q_keptWas q_keptWays q_keptPoints q_nextWas q_nextWays q_nowWas q_nowWays q_to cI o_vthrown vpoints vplanes vaxes vkept o_vax o_vay o_vaz cpx cpy cpz cplane caxis cwas cways ckeptWas ckeptWays ckeptPoints cnextWas cnextWays cnowWas cnowWays cto) t.heap ∧ va_D (va_A (w_M qM q_px q_py q_pz q_plane q_axis q_was q_ways q_keptWas q_keptWays q_keptPoints q_nextWas q_nextWays q_nowWas q_nowWays q_to cI vthrown vpoints vplanes vaxes vkept vax vay vaz cpx cpy cpz cplane caxis cwas cways ckeptWas ckeptWays ckeptPoints cnextWas cnextWays cnowWas cnowWays cto) sz) (w_M qM q_px q_py q_pz q_plane q_axis q_was q_ways q_keptWas q_keptWays q_keptPoints q_nextWas q_nextWays q_nowWas q_nowWays q_to cI o_vthrown vpoints vplanes vaxes vkept o_vax o_vay o_vaz cpx cpy cpz cplane caxis cwas cways ckeptWas ckeptWays ckeptPoints cnextWas cnextWays cnowWas cnowWays cto)) (va_A (w_M qM q_px q_py q_pz q_plane q_axis q_was q_ways q_keptWas q_keptWays q_keptPoints q_nextWas q_nextWays q_nowWas q_nowWays q_to cI vthrown vpoints vplanes vaxes vkept vax vay vaz cpx cpy cpz cplane caxis cwas cways ckeptWas ckeptWays ckeptPoints cnextWas cnextWays cnowWas cnowWays cto) sz)) 0 0 (va_A (w_M qM q_px q_py q_pz q_plane q_axis q_was q_ways q_keptWas q_keptWays q_keptPoints q_nextWas q_nextWays q_nowWas q_nowWays q_to cI vthrown vpoints vplanes vaxes vkept vax vay vaz cpx cpy cpz cplane caxis cwas cways ckeptWas ckeptWays ckeptPoints cnextWas cnextWays cnowWas cnowWays cto) sz) := by
  refine Met.ofW (cc := b_M_cycle) (maxL := 6) (ret := (some .int)) (by decide) rfl ?_
  intro p e s m args below meth c s₁ B hml hv
  obtain ⟨rfl, hsz, hP, hK, hZ, hD0⟩ := hv
  have hx := B.exec
  have hb := B.bytes
  have hr := B.returns
  have hts := atoms_spec (ws := w_M_cycle) B.pre
  have ht : ∀ w ∈ wAll, w.before _ s = true := fun w h => hts w (List.mem_cons_of_mem _ h)
  have hown : s.vm.findClass R_M = some m.cls := findClass_of_methodNamed B.named
  have hlocks := B.notSynchronized
  subst hsz
  have hD := hD0.self (sz := s.heap.size)
  generalize hAe : va_A (w_M qM q_px q_py q_pz q_plane q_axis q_was q_ways q_keptWas q_keptWays q_keptPoints q_nextWas q_nextWays q_nowWas q_nowWays q_to cI vthrown vpoints vplanes vaxes vkept vax vay vaz cpx cpy cpz cplane caxis cwas cways ckeptWas ckeptWays ckeptPoints cnextWas cnextWays cnowWas cnowWays cto) s.heap.size = A at hD ⊢
  have hA : ∀ q : Nat, s.heap.size ≤ q → A q := fun q h => by rw [← hAe]; exact Or.inr h
  have hS : va_S A s.heap s.heap [] := va_S.rf
  have hP : va_P (dC, dI) vwCl (w_M qM q_px q_py q_pz q_plane q_axis q_was q_ways q_keptWas q_keptWays q_keptPoints q_nextWas q_nextWays q_nowWas q_nowWays q_to cI vthrown vpoints vplanes vaxes vkept vax vay vaz cpx cpy cpz cplane caxis cwas cways ckeptWas ckeptWays ckeptPoints cnextWas cnextWays cnowWas cnowWays cto) s.heap := hP
  have hl := lv_entry ([.ref qM, .int x1, .int x2, .int x3]) (n := 6) (Nat.le_of_ble_eq_true rfl)
  rw [lg_entry_eq]
  generalize (lg_sl ([.ref qM, .int x1, .int x2, .int x3]) ++ List.replicate (6 - (lg_sl ([.ref qM, .int x1, .int x2, .int x3])).length) Slot.unset).toArray = ls at hl ⊢
  have hl : lv_has ls 6 [(0, .ref qM), (1, .int x1), (2, .int x2), (3, .int x3)] := hl
  refine w_abs (fun Wx toX ofX => ?_)
  have K63 : ∀ (x1 : Int32) (x3 : Int32) (vthrown : Int32) (n : Nat) (x4 : Int32) (x5 : Int32) (vax : Int32) (vay : Int32) (vaz : Int32) (H : Heap) (locs : List Loc) (ls : Array Slot), oLoop5 (f_M_cycle_L63  vpoints vplanes vaxes cpx cpy cpz cplane caxis x1 x3 vthrown) n x4 x5 vax vay vaz = some (r_, o_vthrown, o_vax, o_vay, o_vaz) → va_P (dC, dI) vwCl (w_M qM q_px q_py q_pz q_plane q_axis q_was q_ways q_keptWas q_keptWays q_keptPoints q_nextWas q_nextWays q_nowWas q_nowWays q_to cI vthrown vpoints vplanes vaxes vkept vax vay vaz cpx cpy cpz cplane caxis cwas cways ckeptWas ckeptWays ckeptPoints cnextWas cnextWays cnowWas cnowWays cto) H → va_D A (w_M qM q_px q_py q_pz q_plane q_axis q_was q_ways q_keptWas q_keptWays q_keptPoints q_nextWas q_nextWays q_nowWas q_nowWays q_to cI vthrown vpoints vplanes vaxes vkept vax vay vaz cpx cpy cpz cplane caxis cwas cways ckeptWas ckeptWays ckeptPoints cnextWas cnextWays cnowWas cnowWays cto) → va_S A s.heap H locs → lv_has ls 6 [(0, .ref qM), (1, .int x1), (3, .int x3), (4, .int x4), (5, .int x5)] → Wx H locs 0 0 (F0 m 63 ls []) := by
    intro x1 x3 vthrown n
    induction n with
    | zero => intro x4 x5 vax vay vaz H locs ls hf; exact (oLoop5_0 hf).elim
    | succ n ih63 =>
      obtain ⟨rec63, hrec63⟩ : ∃ z, z = oLoop5 (f_M_cycle_L63  vpoints vplanes vaxes cpx cpy cpz cplane caxis x1 x3 vthrown) n := ⟨_, rfl⟩
      rw [← hrec63] at ih63
      intro x4 x5 vax vay vaz H locs ls hf hP hD hS hl
      refine toX _ _ _ _ _ ?_
      have hf := oLoop5_s hf
      rw [← hrec63] at hf
      unfold f_M_cycle_L63 at hf
      refine lv_iload hx hb d_M_cycle_63 (lv_at hl 4 rfl) ?_
      refine lv_iload_n hx hb d_M_cycle_65 rfl (lv_at hl 2 rfl) ?_
      refine lv_icmp_eq (tgt := 84) hx hb d_M_cycle_66 (by decide) (fun c1 => ?_) (fun c1 => ?_)
      · have hf := oIf_t hf c1
        refine lv_iload hx hb d_M_cycle_84 (lv_at hl 3 rfl) ?_
        cases hf
        exact W.iret hx hb hr (fun t ht hW => ⟨⟨_, (), rfl, rfl, by rw [ht]; exact hP, hD⟩, hS.F ht⟩) hS.2.2 d_M_cycle_86
      · have hf := oIf_f hf c1
        obtain ⟨v2, ev2, hf⟩ := oLet_ex hf
        refine lv_iinc (v := v2) (lv' := [(4, .int v2), (0, .ref qM), (1, .int x1), (3, .int x3), (5, .int x5)]) hx hb d_M_cycle_69 hl (k := 3) rfl (by rw [ev2]; rfl) (by decide) rfl (fun ls hl => ?_)
        refine lv_aload_n hx hb d_M_cycle_72 rfl (lv_at hl 1 rfl) ?_
        refine lv_iload_n hx hb d_M_cycle_73 rfl (lv_at hl 2 rfl) ?_
        refine lv_iload hx hb d_M_cycle_74 (lv_at hl 4 rfl) ?_
        obtain ⟨r6z, o3, o4, o5, hfc, hf⟩ := oCall4_some hf
        have hPc := hP.sub (ws' := (w_M qM q_px q_py q_pz q_plane q_axis q_was q_ways q_keptWas q_keptWays q_keptPoints q_nextWas q_nextWays q_nowWas q_nowWays q_to cI vthrown vpoints vplanes vaxes vkept vax vay vaz cpx cpy cpz cplane caxis cwas cways ckeptWas ckeptWays ckeptPoints cnextWas cnextWays cnowWas cnowWays cto)) [0, 1, 2, 3, 4, 5, 6, 7, 8, 9, 10, 11, 12, 13, 14, 15] rfl
        have hDc := hD.sub (ws' := (w_M qM q_px q_py q_pz q_plane q_axis q_was q_ways q_keptWas q_keptWays q_keptPoints q_nextWas q_nextWays q_nowWas q_nowWays q_to cI vthrown vpoints vplanes vaxes vkept vax vay vaz cpx cpy cpz cplane caxis cwas cways ckeptWas ckeptWays ckeptPoints cnextWas cnextWays cnowWas cnowWays cto)) [0, 1, 2, 3, 4, 5, 6, 7, 8, 9, 10, 11, 12, 13, 14, 15] (by decide) rfl
        have hFc := va_free (wc := (w_M qM q_px q_py q_pz q_plane q_axis q_was q_ways q_keptWas q_keptWays q_keptPoints q_nextWas q_nextWays q_nowWas q_nowWays q_to cI vthrown vpoints vplanes vaxes vkept vax vay vaz cpx cpy cpz cplane caxis cwas cways ckeptWas ckeptWays ckeptPoints cnextWas cnextWays cnowWas cnowWays cto)) hD hS hA [0, 1, 2, 3, 4, 5, 6, 7, 8, 9, 10, 11, 12, 13, 14, 15] rfl
        refine va_calli (va_runV (As := [.int x1, .int x5]) (rest := []) ⟨hx, hb, hml, hown, ht⟩ (c_M_imageOf l dC dI qM q_px q_py q_pz q_plane q_axis q_was q_ways q_keptWas q_keptWays q_keptPoints q_nextWas q_nextWays q_nowWas q_nowWays q_to cI cJ cQ H.size vthrown vpoints vplanes vaxes vkept vax vay vaz cpx cpy cpz cplane caxis cwas cways ckeptWas ckeptWays ckeptPoints cnextWas cnextWays cnowWas cnowWays cto x1 x5 r6z o3 o4 o5 hfc) (cwV 2 ht (gV m_470 m_472 m_13 m_31 m_473) rfl rfl rfl (by decide +kernel) ⟨Nat.le_of_ble_eq_true rfl, Nat.le_of_ble_eq_true rfl⟩) (preMV hPc hK hZ hDc (va_recv hK hPc (ci := 3) (q0 := 0) rfl rfl)) rfl rfl hl.1 rfl (lv_room (Nat.le_of_ble_eq_true rfl)) d_M_cycle_76 ⟨Nat.le_of_ble_eq_true rfl, Nat.le_of_ble_eq_true rfl⟩) hS (fun q _ h => hFc q h) hFc (fun r6 u t H1 locs ht9 hvm hw hB hz1 hk1 hS => ?_)
        obtain ⟨hP1, hD1⟩ := hB
        rw [ht9] at hP1
        subst hw
        obtain ⟨hP, hD⟩ := va_join (wr := []) (w1 := (w_M qM q_px q_py q_pz q_plane q_axis q_was q_ways q_keptWas q_keptWays q_keptPoints q_nextWas q_nextWays q_nowWas q_nowWays q_to cI vthrown vpoints vplanes vaxes vkept o3 o4 o5 cpx cpy cpz cplane caxis cwas cways ckeptWas ckeptWays ckeptPoints cnextWas cnextWays cnowWas cnowWays cto)) hP hD [0, 1, 2, 3, 4, 5, 6, 7, 8, 9, 10, 11, 12, 13, 14, 15] [] rfl rfl (by decide) (by decide) hk1 hFc hP1 hD1
        have hP := hP.sub (ws' := (w_M qM q_px q_py q_pz q_plane q_axis q_was q_ways q_keptWas q_keptWays q_keptPoints q_nextWas q_nextWays q_nowWas q_nowWays q_to cI vthrown vpoints vplanes vaxes vkept o3 o4 o5 cpx cpy cpz cplane caxis cwas cways ckeptWas ckeptWays ckeptPoints cnextWas cnextWays cnowWas cnowWays cto)) [0, 1, 2, 3, 4, 5, 6, 7, 8, 9, 10, 11, 12, 13, 14, 15] rfl
        have hD := hD.sub (ws' := (w_M qM q_px q_py q_pz q_plane q_axis q_was q_ways q_keptWas q_keptWays q_keptPoints q_nextWas q_nextWays q_nowWas q_nowWays q_to cI vthrown vpoints vplanes vaxes vkept o3 o4 o5 cpx cpy cpz cplane caxis cwas cways ckeptWas ckeptWays ckeptPoints cnextWas cnextWays cnowWas cnowWays cto)) [0, 1, 2, 3, 4, 5, 6, 7, 8, 9, 10, 11, 12, 13, 14, 15] (by decide) rfl
        clear hPc hDc hFc hP1 hD1 hz1 hk1 ht9 hvm hfc
        generalize H1 = H at hP hS ⊢
        refine lv_istore (lv' := [(5, .int r6), (4, .int v2), (0, .ref qM), (1, .int x1), (3, .int x3)]) hx hb d_M_cycle_79 hl (by decide) rfl (fun ls hl => ?_)
        refine lv_goto (tgt := 63) hx hb d_M_cycle_81 (by decide) ?_
        exact ofX _ _ _ _ _ (ih63 v2 r6 o3 o4 o5 _ _ _ hf hP hD hS (lv_sub hl [2, 3, 4, 1, 0] rfl))
  refine toX _ _ _ _ _ ?_
  unfold f_M_cycle at hf
  obtain ⟨H, hH⟩ : ∃ z, z = s.heap := ⟨_, rfl⟩
  have hS : va_S A s.heap H [] := by rw [hH]; exact hS
  have hP : va_P (dC, dI) vwCl (w_M qM q_px q_py q_pz q_plane q_axis q_was q_ways q_keptWas q_keptWays q_keptPoints q_nextWas q_nextWays q_nowWas q_nowWays q_to cI vthrown vpoints vplanes vaxes vkept vax vay vaz cpx cpy cpz cplane caxis cwas cways ckeptWas ckeptWays ckeptPoints cnextWas cnextWays cnowWas cnowWays cto) H := by rw [hH]; exact hP
  refine w_heap hH ?_
  refine lv_aload_n hx hb d_M_cycle_0 rfl (lv_at hl 0 rfl) ?_
  refine lv_iconst (v := 0) hx hb d_M_cycle_1 (by decide) ?_
  refine va_put (D := (dC, dI)) (ci := 3) (v := .int 0) (ty := .int) (C := R_M) (T := T_M) (N := 23) hx hb ht in_M t_M t_M_ok n_M hown hK hP hD hS 0 rfl rfl 0 (by decide) (ht _ m_346) (fun _ h9 => h9) rfl (by decide +kernel) rfl rfl (Nat.le_of_ble_eq_true rfl) d_M_cycle_2 (fun H locs hP hD hS => ?_)
  have hP : va_P (dC, dI) vwCl (w_M qM q_px q_py q_pz q_plane q_axis q_was q_ways q_keptWas q_keptWays q_keptPoints q_nextWas q_nextWays q_nowWas q_nowWays q_to cI 0 vpoints vplanes vaxes vkept vax vay vaz cpx cpy cpz cplane caxis cwas cways ckeptWas ckeptWays ckeptPoints cnextWas cnextWays cnowWas cnowWays cto) H := hP
  have hD : va_D A (w_M qM q_px q_py q_pz q_plane q_axis q_was q_ways q_keptWas q_keptWays q_keptPoints q_nextWas q_nextWays q_nowWas q_nowWays q_to cI 0 vpoints vplanes vaxes vkept vax vay vaz cpx cpy cpz cplane caxis cwas cways ckeptWas ckeptWays ckeptPoints cnextWas cnextWays cnowWas cnowWays cto) := hD
  refine lv_aload_n hx hb d_M_cycle_5 rfl (lv_at hl 0 rfl) ?_
  refine lv_iload_n hx hb d_M_cycle_6 rfl (lv_at hl 1 rfl) ?_
  obtain ⟨r7z, hfc, hf⟩ := oCall1_some hf
  have hPc := hP.sub (ws' := (w_M qM q_px q_py q_pz q_plane q_axis q_was q_ways q_keptWas q_keptWays q_keptPoints q_nextWas q_nextWays q_nowWas q_nowWays q_to cI 0 vpoints vplanes vaxes vkept vax vay vaz cpx cpy cpz cplane caxis cwas cways ckeptWas ckeptWays ckeptPoints cnextWas cnextWays cnowWas cnowWays cto)) [0, 1, 2, 3, 4, 5, 6, 7, 8, 9, 10, 11, 12, 13, 14, 15] rfl
  refine vp_callSi (va_runV (As := [.int x1]) (rest := []) ⟨hx, hb, hml, hown, ht⟩ (c_M_isAxis l dC dI qM q_px q_py q_pz q_plane q_axis q_was q_ways q_keptWas q_keptWays q_keptPoints q_nextWas q_nextWays q_nowWas q_nowWays q_to cI cJ cQ 0 vpoints vplanes vaxes vkept vax vay vaz cpx cpy cpz cplane caxis cwas cways ckeptWas ckeptWays ckeptPoints cnextWas cnextWays cnowWas cnowWays cto x1 r7z hfc) (cwV 1 ht (gV m_454 m_456 m_10 m_31 m_457) rfl rfl rfl (by decide +kernel) ⟨Nat.le_of_ble_eq_true rfl, Nat.le_of_ble_eq_true rfl⟩) (preRV hPc hK hZ (va_recv hK hPc (ci := 3) (q0 := 0) rfl rfl)) rfl rfl hl.1 rfl (lv_room (Nat.le_of_ble_eq_true rfl)) d_M_cycle_7 ⟨Nat.le_of_ble_eq_true rfl, Nat.le_of_ble_eq_true rfl⟩).run (fun r7 hw => ?_)
  subst hw
  clear hPc hfc
  refine lv_if_eq (tgt := 38) hx hb d_M_cycle_10 (by decide) (fun c8 => ?_) (fun c8 => ?_)
  · have hf := oIf_t hf c8
    refine lv_iconst (v := 0) hx hb d_M_cycle_38 (by decide) ?_
    cases hf
    exact W.iret hx hb hr (fun t ht hW => ⟨⟨_, (), rfl, rfl, by rw [ht]; exact hP, hD⟩, hS.F ht⟩) hS.2.2 d_M_cycle_39
  · have hf := oIf_f hf c8
    refine lv_aload_n hx hb d_M_cycle_13 rfl (lv_at hl 0 rfl) ?_
    refine lv_iload_n hx hb d_M_cycle_14 rfl (lv_at hl 2 rfl) ?_
    obtain ⟨r9z, hfc, hf⟩ := oCall1_some hf
    have hPc := hP.sub (ws' := (w_M qM q_px q_py q_pz q_plane q_axis q_was q_ways q_keptWas q_keptWays q_keptPoints q_nextWas q_nextWays q_nowWas q_nowWays q_to cI 0 vpoints vplanes vaxes vkept vax vay vaz cpx cpy cpz cplane caxis cwas cways ckeptWas ckeptWays ckeptPoints cnextWas cnextWays cnowWas cnowWays cto)) [0, 1, 2, 3, 4, 5, 6, 7, 8, 9, 10, 11, 12, 13, 14, 15] rfl
    refine vp_callSi (va_runV (As := [.int x2]) (rest := []) ⟨hx, hb, hml, hown, ht⟩ (c_M_isPlane l dC dI qM q_px q_py q_pz q_plane q_axis q_was q_ways q_keptWas q_keptWays q_keptPoints q_nextWas q_nextWays q_nowWas q_nowWays q_to cI cJ cQ 0 vpoints vplanes vaxes vkept vax vay vaz cpx cpy cpz cplane caxis cwas cways ckeptWas ckeptWays ckeptPoints cnextWas cnextWays cnowWas cnowWays cto x2 r9z hfc) (cwV 1 ht (gV m_482 m_484 m_15 m_31 m_485) rfl rfl rfl (by decide +kernel) ⟨Nat.le_of_ble_eq_true rfl, Nat.le_of_ble_eq_true rfl⟩) (preRV hPc hK hZ (va_recv hK hPc (ci := 3) (q0 := 0) rfl rfl)) rfl rfl hl.1 rfl (lv_room (Nat.le_of_ble_eq_true rfl)) d_M_cycle_15 ⟨Nat.le_of_ble_eq_true rfl, Nat.le_of_ble_eq_true rfl⟩).run (fun r9 hw => ?_)
    subst hw
    clear hPc hfc
    refine lv_if_eq (tgt := 38) hx hb d_M_cycle_18 (by decide) (fun c10 => ?_) (fun c10 => ?_)
    · have hf := oIf_t hf c10
      refine lv_iconst (v := 0) hx hb d_M_cycle_38 (by decide) ?_
      cases hf
      exact W.iret hx hb hr (fun t ht hW => ⟨⟨_, (), rfl, rfl, by rw [ht]; exact hP, hD⟩, hS.F ht⟩) hS.2.2 d_M_cycle_39
    · have hf := oIf_f hf c10
      refine lv_aload_n hx hb d_M_cycle_21 rfl (lv_at hl 0 rfl) ?_
      refine lv_iload_n hx hb d_M_cycle_22 rfl (lv_at hl 3 rfl) ?_
      obtain ⟨r11z, hfc, hf⟩ := oCall1_some hf
      have hPc := hP.sub (ws' := (w_M qM q_px q_py q_pz q_plane q_axis q_was q_ways q_keptWas q_keptWays q_keptPoints q_nextWas q_nextWays q_nowWas q_nowWays q_to cI 0 vpoints vplanes vaxes vkept vax vay vaz cpx cpy cpz cplane caxis cwas cways ckeptWas ckeptWays ckeptPoints cnextWas cnextWays cnowWas cnowWays cto)) [0, 1, 2, 3, 4, 5, 6, 7, 8, 9, 10, 11, 12, 13, 14, 15] rfl
      refine vp_callSi (va_runV (As := [.int x3]) (rest := []) ⟨hx, hb, hml, hown, ht⟩ (c_M_isPoint l dC dI qM q_px q_py q_pz q_plane q_axis q_was q_ways q_keptWas q_keptWays q_keptPoints q_nextWas q_nextWays q_nowWas q_nowWays q_to cI cJ cQ 0 vpoints vplanes vaxes vkept vax vay vaz cpx cpy cpz cplane caxis cwas cways ckeptWas ckeptWays ckeptPoints cnextWas cnextWays cnowWas cnowWays cto x3 r11z hfc) (cwV 1 ht (gV m_466 m_468 m_12 m_31 m_469) rfl rfl rfl (by decide +kernel) ⟨Nat.le_of_ble_eq_true rfl, Nat.le_of_ble_eq_true rfl⟩) (preRV hPc hK hZ (va_recv hK hPc (ci := 3) (q0 := 0) rfl rfl)) rfl rfl hl.1 rfl (lv_room (Nat.le_of_ble_eq_true rfl)) d_M_cycle_23 ⟨Nat.le_of_ble_eq_true rfl, Nat.le_of_ble_eq_true rfl⟩).run (fun r11 hw => ?_)
      subst hw
      clear hPc hfc
      refine lv_if_eq (tgt := 38) hx hb d_M_cycle_26 (by decide) (fun c12 => ?_) (fun c12 => ?_)
      · have hf := oIf_t hf c12
        refine lv_iconst (v := 0) hx hb d_M_cycle_38 (by decide) ?_
        cases hf
        exact W.iret hx hb hr (fun t ht hW => ⟨⟨_, (), rfl, rfl, by rw [ht]; exact hP, hD⟩, hS.F ht⟩) hS.2.2 d_M_cycle_39
      · have hf := oIf_f hf c12
        refine lv_aload_n hx hb d_M_cycle_29 rfl (lv_at hl 0 rfl) ?_
        refine lv_iload_n hx hb d_M_cycle_30 rfl (lv_at hl 1 rfl) ?_
        refine lv_iload_n hx hb d_M_cycle_31 rfl (lv_at hl 2 rfl) ?_
        obtain ⟨r16z, o13, o14, o15, hfc, hf⟩ := oCall4_some hf
        have hPc := hP.sub (ws' := (w_M qM q_px q_py q_pz q_plane q_axis q_was q_ways q_keptWas q_keptWays q_keptPoints q_nextWas q_nextWays q_nowWas q_nowWays q_to cI 0 vpoints vplanes vaxes vkept vax vay vaz cpx cpy cpz cplane caxis cwas cways ckeptWas ckeptWays ckeptPoints cnextWas cnextWays cnowWas cnowWays cto)) [0, 1, 2, 3, 4, 5, 6, 7, 8, 9, 10, 11, 12, 13, 14, 15] rfl
        have hDc := hD.sub (ws' := (w_M qM q_px q_py q_pz q_plane q_axis q_was q_ways q_keptWas q_keptWays q_keptPoints q_nextWas q_nextWays q_nowWas q_nowWays q_to cI 0 vpoints vplanes vaxes vkept vax vay vaz cpx cpy cpz cplane caxis cwas cways ckeptWas ckeptWays ckeptPoints cnextWas cnextWays cnowWas cnowWays cto)) [0, 1, 2, 3, 4, 5, 6, 7, 8, 9, 10, 11, 12, 13, 14, 15] (by decide) rfl
        have hFc := va_free (wc := (w_M qM q_px q_py q_pz q_plane q_axis q_was q_ways q_keptWas q_keptWays q_keptPoints q_nextWas q_nextWays q_nowWas q_nowWays q_to cI 0 vpoints vplanes vaxes vkept vax vay vaz cpx cpy cpz cplane caxis cwas cways ckeptWas ckeptWays ckeptPoints cnextWas cnextWays cnowWas cnowWays cto)) hD hS hA [0, 1, 2, 3, 4, 5, 6, 7, 8, 9, 10, 11, 12, 13, 14, 15] rfl
        refine va_calli (va_runV (As := [.int x1, .int x2]) (rest := []) ⟨hx, hb, hml, hown, ht⟩ (c_M_blocked l dC dI qM q_px q_py q_pz q_plane q_axis q_was q_ways q_keptWas q_keptWays q_keptPoints q_nextWas q_nextWays q_nowWas q_nowWays q_to cI cJ cQ H.size 0 vpoints vplanes vaxes vkept vax vay vaz cpx cpy cpz cplane caxis cwas cways ckeptWas ckeptWays ckeptPoints cnextWas cnextWays cnowWas cnowWays cto x1 x2 r16z o13 o14 o15 hfc) (cwV 2 ht (gV m_514 m_516 m_20 m_31 m_517) rfl rfl rfl (by decide +kernel) ⟨Nat.le_of_ble_eq_true rfl, Nat.le_of_ble_eq_true rfl⟩) (preMV hPc hK hZ hDc (va_recv hK hPc (ci := 3) (q0 := 0) rfl rfl)) rfl rfl hl.1 rfl (lv_room (Nat.le_of_ble_eq_true rfl)) d_M_cycle_32 ⟨Nat.le_of_ble_eq_true rfl, Nat.le_of_ble_eq_true rfl⟩) hS (fun q _ h => hFc q h) hFc (fun r16 u t H1 locs ht9 hvm hw hB hz1 hk1 hS => ?_)
        obtain ⟨hP1, hD1⟩ := hB
        rw [ht9] at hP1
        subst hw
        obtain ⟨hP, hD⟩ := va_join (wr := []) (w1 := (w_M qM q_px q_py q_pz q_plane q_axis q_was q_ways q_keptWas q_keptWays q_keptPoints q_nextWas q_nextWays q_nowWas q_nowWays q_to cI 0 vpoints vplanes vaxes vkept o13 o14 o15 cpx cpy cpz cplane caxis cwas cways ckeptWas ckeptWays ckeptPoints cnextWas cnextWays cnowWas cnowWays cto)) hP hD [0, 1, 2, 3, 4, 5, 6, 7, 8, 9, 10, 11, 12, 13, 14, 15] [] rfl rfl (by decide) (by decide) hk1 hFc hP1 hD1
        have hP := hP.sub (ws' := (w_M qM q_px q_py q_pz q_plane q_axis q_was q_ways q_keptWas q_keptWays q_keptPoints q_nextWas q_nextWays q_nowWas q_nowWays q_to cI 0 vpoints vplanes vaxes vkept o13 o14 o15 cpx cpy cpz cplane caxis cwas cways ckeptWas ckeptWays ckeptPoints cnextWas cnextWays cnowWas cnowWays cto)) [0, 1, 2, 3, 4, 5, 6, 7, 8, 9, 10, 11, 12, 13, 14, 15] rfl
        have hD := hD.sub (ws' := (w_M qM q_px q_py q_pz q_plane q_axis q_was q_ways q_keptWas q_keptWays q_keptPoints q_nextWas q_nextWays q_nowWas q_nowWays q_to cI 0 vpoints vplanes vaxes vkept o13 o14 o15 cpx cpy cpz cplane caxis cwas cways ckeptWas ckeptWays ckeptPoints cnextWas cnextWays cnowWas cnowWays cto)) [0, 1, 2, 3, 4, 5, 6, 7, 8, 9, 10, 11, 12, 13, 14, 15] (by decide) rfl
        clear hPc hDc hFc hP1 hD1 hz1 hk1 ht9 hvm hfc
        generalize H1 = H at hP hS ⊢
        refine lv_if_le (tgt := 40) hx hb d_M_cycle_35 (by decide) (fun c17 => ?_) (fun c17 => ?_)
        · have hf := oIf_t hf c17
          refine lv_aload_n hx hb d_M_cycle_40 rfl (lv_at hl 0 rfl) ?_
          refine lv_iload_n hx hb d_M_cycle_41 rfl (lv_at hl 3 rfl) ?_
          refine lv_iload_n hx hb d_M_cycle_42 rfl (lv_at hl 2 rfl) ?_
          obtain ⟨r18z, hfc, hf⟩ := oCall1_some hf
          have hPc := hP.sub (ws' := (w_M qM q_px q_py q_pz q_plane q_axis q_was q_ways q_keptWas q_keptWays q_keptPoints q_nextWas q_nextWays q_nowWas q_nowWays q_to cI 0 vpoints vplanes vaxes vkept o13 o14 o15 cpx cpy cpz cplane caxis cwas cways ckeptWas ckeptWays ckeptPoints cnextWas cnextWays cnowWas cnowWays cto)) [0, 1, 2, 3, 4, 5, 6, 7, 8, 9, 10, 11, 12, 13, 14, 15] rfl
          refine vp_callSi (va_runV (As := [.int x3, .int x2]) (rest := []) ⟨hx, hb, hml, hown, ht⟩ (c_M_sideOf l dC dI qM q_px q_py q_pz q_plane q_axis q_was q_ways q_keptWas q_keptWays q_keptPoints q_nextWas q_nextWays q_nowWas q_nowWays q_to cI cJ cQ 0 vpoints vplanes vaxes vkept o13 o14 o15 cpx cpy cpz cplane caxis cwas cways ckeptWas ckeptWays ckeptPoints cnextWas cnextWays cnowWas cnowWays cto x3 x2 r18z hfc) (cwV 2 ht (gV m_486 m_488 m_16 m_31 m_489) rfl rfl rfl (by decide +kernel) ⟨Nat.le_of_ble_eq_true rfl, Nat.le_of_ble_eq_true rfl⟩) (preRV hPc hK hZ (va_recv hK hPc (ci := 3) (q0 := 0) rfl rfl)) rfl rfl hl.1 rfl (lv_room (Nat.le_of_ble_eq_true rfl)) d_M_cycle_43 ⟨Nat.le_of_ble_eq_true rfl, Nat.le_of_ble_eq_true rfl⟩).run (fun r18 hw => ?_)
          subst hw
          clear hPc hfc
          refine lv_iconst (v := 2) hx hb d_M_cycle_46 (by decide) ?_
          refine lv_icmp_eq (tgt := 52) hx hb d_M_cycle_47 (by decide) (fun c19 => ?_) (fun c19 => ?_)
          · have hf := oIf_t hf c19
            refine lv_iconst (v := 1) hx hb d_M_cycle_52 (by decide) ?_
            refine lv_istore (lv' := [(4, .int 1), (0, .ref qM), (1, .int x1), (2, .int x2), (3, .int x3)]) hx hb d_M_cycle_53 hl (by decide) rfl (fun ls hl => ?_)
            refine lv_aload_n hx hb d_M_cycle_55 rfl (lv_at hl 1 rfl) ?_
            refine lv_iload_n hx hb d_M_cycle_56 rfl (lv_at hl 2 rfl) ?_
            refine lv_iload_n hx hb d_M_cycle_57 rfl (lv_at hl 4 rfl) ?_
            obtain ⟨r23z, o20, o21, o22, hfc, hf⟩ := oCall4_some hf
            have hPc := hP.sub (ws' := (w_M qM q_px q_py q_pz q_plane q_axis q_was q_ways q_keptWas q_keptWays q_keptPoints q_nextWas q_nextWays q_nowWas q_nowWays q_to cI 0 vpoints vplanes vaxes vkept o13 o14 o15 cpx cpy cpz cplane caxis cwas cways ckeptWas ckeptWays ckeptPoints cnextWas cnextWays cnowWas cnowWays cto)) [0, 1, 2, 3, 4, 5, 6, 7, 8, 9, 10, 11, 12, 13, 14, 15] rfl
            have hDc := hD.sub (ws' := (w_M qM q_px q_py q_pz q_plane q_axis q_was q_ways q_keptWas q_keptWays q_keptPoints q_nextWas q_nextWays q_nowWas q_nowWays q_to cI 0 vpoints vplanes vaxes vkept o13 o14 o15 cpx cpy cpz cplane caxis cwas cways ckeptWas ckeptWays ckeptPoints cnextWas cnextWays cnowWas cnowWays cto)) [0, 1, 2, 3, 4, 5, 6, 7, 8, 9, 10, 11, 12, 13, 14, 15] (by decide) rfl
            have hFc := va_free (wc := (w_M qM q_px q_py q_pz q_plane q_axis q_was q_ways q_keptWas q_keptWays q_keptPoints q_nextWas q_nextWays q_nowWas q_nowWays q_to cI 0 vpoints vplanes vaxes vkept o13 o14 o15 cpx cpy cpz cplane caxis cwas cways ckeptWas ckeptWays ckeptPoints cnextWas cnextWays cnowWas cnowWays cto)) hD hS hA [0, 1, 2, 3, 4, 5, 6, 7, 8, 9, 10, 11, 12, 13, 14, 15] rfl
            refine va_calli (va_runV (As := [.int x1, .int x3]) (rest := []) ⟨hx, hb, hml, hown, ht⟩ (c_M_imageOf l dC dI qM q_px q_py q_pz q_plane q_axis q_was q_ways q_keptWas q_keptWays q_keptPoints q_nextWas q_nextWays q_nowWas q_nowWays q_to cI cJ cQ H.size 0 vpoints vplanes vaxes vkept o13 o14 o15 cpx cpy cpz cplane caxis cwas cways ckeptWas ckeptWays ckeptPoints cnextWas cnextWays cnowWas cnowWays cto x1 x3 r23z o20 o21 o22 hfc) (cwV 2 ht (gV m_470 m_472 m_13 m_31 m_473) rfl rfl rfl (by decide +kernel) ⟨Nat.le_of_ble_eq_true rfl, Nat.le_of_ble_eq_true rfl⟩) (preMV hPc hK hZ hDc (va_recv hK hPc (ci := 3) (q0 := 0) rfl rfl)) rfl rfl hl.1 rfl (lv_room (Nat.le_of_ble_eq_true rfl)) d_M_cycle_58 ⟨Nat.le_of_ble_eq_true rfl, Nat.le_of_ble_eq_true rfl⟩) hS (fun q _ h => hFc q h) hFc (fun r23 u t H1 locs ht9 hvm hw hB hz1 hk1 hS => ?_)
            obtain ⟨hP1, hD1⟩ := hB
            rw [ht9] at hP1
            subst hw
            obtain ⟨hP, hD⟩ := va_join (wr := []) (w1 := (w_M qM q_px q_py q_pz q_plane q_axis q_was q_ways q_keptWas q_keptWays q_keptPoints q_nextWas q_nextWays q_nowWas q_nowWays q_to cI 0 vpoints vplanes vaxes vkept o20 o21 o22 cpx cpy cpz cplane caxis cwas cways ckeptWas ckeptWays ckeptPoints cnextWas cnextWays cnowWas cnowWays cto)) hP hD [0, 1, 2, 3, 4, 5, 6, 7, 8, 9, 10, 11, 12, 13, 14, 15] [] rfl rfl (by decide) (by decide) hk1 hFc hP1 hD1
            have hP := hP.sub (ws' := (w_M qM q_px q_py q_pz q_plane q_axis q_was q_ways q_keptWas q_keptWays q_keptPoints q_nextWas q_nextWays q_nowWas q_nowWays q_to cI 0 vpoints vplanes vaxes vkept o20 o21 o22 cpx cpy cpz cplane caxis cwas cways ckeptWas ckeptWays ckeptPoints cnextWas cnextWays cnowWas cnowWays cto)) [0, 1, 2, 3, 4, 5, 6, 7, 8, 9, 10, 11, 12, 13, 14, 15] rfl
            have hD := hD.sub (ws' := (w_M qM q_px q_py q_pz q_plane q_axis q_was q_ways q_keptWas q_keptWays q_keptPoints q_nextWas q_nextWays q_nowWas q_nowWays q_to cI 0 vpoints vplanes vaxes vkept o20 o21 o22 cpx cpy cpz cplane caxis cwas cways ckeptWas ckeptWays ckeptPoints cnextWas cnextWays cnowWas cnowWays cto)) [0, 1, 2, 3, 4, 5, 6, 7, 8, 9, 10, 11, 12, 13, 14, 15] (by decide) rfl
            clear hPc hDc hFc hP1 hD1 hz1 hk1 ht9 hvm hfc
            generalize H1 = H at hP hS ⊢
            refine lv_istore (lv' := [(5, .int r23), (4, .int 1), (0, .ref qM), (1, .int x1), (2, .int x2), (3, .int x3)]) hx hb d_M_cycle_61 hl (by decide) rfl (fun ls hl => ?_)
            exact ofX _ _ _ _ _ (K63 x1 x3 0 _ 1 r23 o20 o21 o22 _ _ _ hf hP hD hS (lv_sub hl [2, 3, 5, 1, 0] rfl))
          · have hf := oIf_f hf c19
            refine lv_iconst (v := 1) hx hb d_M_cycle_50 (by decide) ?_
            cases hf
            exact W.iret hx hb hr (fun t ht hW => ⟨⟨_, (), rfl, rfl, by rw [ht]; exact hP, hD⟩, hS.F ht⟩) hS.2.2 d_M_cycle_51
        · have hf := oIf_f hf c17
          refine lv_iconst (v := 0) hx hb d_M_cycle_38 (by decide) ?_
          cases hf
          exact W.iret hx hb hr (fun t ht hW => ⟨⟨_, (), rfl, rfl, by rw [ht]; exact hP, hD⟩, hS.F ht⟩) hS.2.2 d_M_cycle_39
set_option maxHeartbeats 4000000 in
set_option maxRecDepth 100000 in
theorem c_M_plane (l : Launch) (dC : Nat → ClassId) (dI : Nat → Nat → Nat) (qM q_px q_py q_pz q_plane q_axis q_was q_ways q_keptWas q_keptWays q_keptPoints q_nextWas q_nextWays q_nowWas q_nowWays q_to : Nat) (cI cJ cQ : ClassId) (sz : Nat) (vthrown : Int32) (vpoints : Int32) (vplanes : Int32) (vaxes : Int32) (vkept : Int32) (vax : Int32) (vay : Int32) (vaz : Int32) (cpx : Nat → Int32) (cpy : Nat → Int32) (cpz : Nat → Int32) (cplane : Nat → Int32) (caxis : Nat → Int32) (cwas : Nat → Int32) (cways : Nat → Int32) (ckeptWas : Nat → Int32) (ckeptWays : Nat → Int32) (ckeptPoints : Nat → Int32) (cnextWas : Nat → Int32) (cnextWays : Nat → Int32) (cnowWas : Nat → Int32) (cnowWays : Nat → Int32) (cto : Nat → Int32) (x1 : Int32) (x2 : Int32) (x3 : Int32) (x4 : Int32) (r_ : Int32) (o_vthrown : Int32) (o_vplanes : Int32) (o_cplane : Nat → Int32) (hf : f_M_plane vthrown vplanes cplane x1 x2 x3 x4 = some (r_, o_vthrown, o_vplanes, o_cplane)) : Met l y_M_plane w_M_plane ({ frames := 1, cells := 0, slots := 0, locals := 20 }) (va_Pc [.ref qM, .int x1, .int x2, .int x3, .int x4] (fun U => U.heap.size = sz ∧ va_P (dC, dI) vwCl (w_M qM q_px q_py q_pz q_plane q_axis q_was q_ways q_keptWas q_keptWays q_keptPoints q_nextWas q_nextWays q_nowWas q_nowWays q_to cI vthrown vpoints vplanes vaxes vkept vax vay vaz cpx cpy cpz cplane caxis cwas cways ckeptWas ckeptWays ckeptPoints cnextWas cnextWays cnowWas cnowWays cto) U.heap ∧ va_K (dC, dI) vwCl [(cI, .int), (cJ, .long), (cQ, .object "CutBodies$Contents")] U ∧ nestZ U ∧ va_D (fun _ => True) (w_M qM q_px q_py q_pz q_plane q_axis q_was q_ways q_keptWas q_keptWays q_keptPoints q_nextWas q_nextWays q_nowWas q_nowWays q_to cI vthrown vpoints vplanes vaxes vkept vax vay vaz cpx cpy cpz cplane caxis cwas cways ckeptWas ckeptWays ckeptPoints cnextWas cnextWays cnowWas cnowWays cto))) (va_Qi (fun (r9 : Int32) (_ : Unit) => r9 = r_) (fun _ t => va_P (dC, dI) vwCl (w_M qM q_px q_py q_pz q_plane q_axis q_was q_ways q_keptWas q_keptWays q_keptPoints q_nextWas q_nextWays q_nowWas q_nowWays q_to cI o_vthrown vpoints o_vplanes vaxes vkept vax vay vaz cpx cpy cpz o_cplane caxis cwas cways ckeptWas ckeptWays ckeptPoints cnextWas cnextWays cnowWas cnowWays cto) t.heap ∧ va_D (va_A (w_M qM q_px q_py q_pz q_plane q_axis q_was q_ways q_keptWas q_keptWays q_keptPoints q_nextWas q_nextWays q_nowWas q_nowWays q_to cI vthrown vpoints vplanes vaxes vkept vax vay vaz cpx cpy cpz cplane caxis cwas cways ckeptWas ckeptWays ckeptPoints cnextWas cnextWays cnowWas cnowWays cto) sz) (w_M qM q_px q_py q_pz q_plane q_axis q_was q_ways q_keptWas q_keptWays q_keptPoints q_nextWas q_nextWays q_nowWas q_nowWays q_to cI o_vthrown vpoints o_vplanes vaxes vkept vax vay vaz cpx cpy cpz o_cplane caxis cwas cways ckeptWas ckeptWays ckeptPoints cnextWas cnextWays cnowWas cnowWays cto)) (va_A (w_M qM q_px q_py q_pz q_plane q_axis q_was q_ways q_keptWas q_keptWays q_keptPoints q_nextWas q_nextWays q_nowWas q_nowWays q_to cI vthrown vpoints vplanes vaxes vkept vax vay vaz cpx cpy cpz cplane caxis cwas cways ckeptWas ckeptWays ckeptPoints cnextWas cnextWays cnowWas cnowWays cto) sz)) 0 0 (va_A (w_M qM q_px q_py q_pz q_plane q_axis q_was q_ways q_keptWas q_keptWays q_keptPoints q_nextWas q_nextWays q_nowWas q_nowWays q_to cI vthrown vpoints vplanes vaxes vkept vax vay vaz cpx cpy cpz cplane caxis cwas cways ckeptWas ckeptWays ckeptPoints cnextWas cnextWays cnowWas cnowWays cto) sz) := by
  refine Met.ofW (cc := b_M_plane) (maxL := 5) (ret := (some .int)) (by decide) rfl ?_
  intro p e s m args below meth c s₁ B hml hv
  obtain ⟨rfl, hsz, hP, hK, hZ, hD0⟩ := hv
  have hx := B.exec
  have hb := B.bytes
  have hr := B.returns
  have hts := atoms_spec (ws := w_M_plane) B.pre
  have ht : ∀ w ∈ wAll, w.before _ s = true := fun w h => hts w (List.mem_cons_of_mem _ h)
  have hown : s.vm.findClass R_M = some m.cls := findClass_of_methodNamed B.named
  have hlocks := B.notSynchronized
  subst hsz
  have hD := hD0.self (sz := s.heap.size)
  generalize hAe : va_A (w_M qM q_px q_py q_pz q_plane q_axis q_was q_ways q_keptWas q_keptWays q_keptPoints q_nextWas q_nextWays q_nowWas q_nowWays q_to cI vthrown vpoints vplanes vaxes vkept vax vay vaz cpx cpy cpz cplane caxis cwas cways ckeptWas ckeptWays ckeptPoints cnextWas cnextWays cnowWas cnowWays cto) s.heap.size = A at hD ⊢
  have hA : ∀ q : Nat, s.heap.size ≤ q → A q := fun q h => by rw [← hAe]; exact Or.inr h
  have hS : va_S A s.heap s.heap [] := va_S.rf
  have hP : va_P (dC, dI) vwCl (w_M qM q_px q_py q_pz q_plane q_axis q_was q_ways q_keptWas q_keptWays q_keptPoints q_nextWas q_nextWays q_nowWas q_nowWays q_to cI vthrown vpoints vplanes vaxes vkept vax vay vaz cpx cpy cpz cplane caxis cwas cways ckeptWas ckeptWays ckeptPoints cnextWas cnextWays cnowWas cnowWays cto) s.heap := hP
  have hl := lv_entry ([.ref qM, .int x1, .int x2, .int x3, .int x4]) (n := 5) (Nat.le_of_ble_eq_true rfl)
  rw [lg_entry_eq]
  generalize (lg_sl ([.ref qM, .int x1, .int x2, .int x3, .int x4]) ++ List.replicate (5 - (lg_sl ([.ref qM, .int x1, .int x2, .int x3, .int x4])).length) Slot.unset).toArray = ls at hl ⊢
  have hl : lv_has ls 5 [(0, .ref qM), (1, .int x1), (2, .int x2), (3, .int x3), (4, .int x4)] := hl
  refine w_abs (fun Wx toX ofX => ?_)
  have K38 : ∀ (x1 : Int32) (x2 : Int32) (x3 : Int32) (x4 : Int32) (vthrown : Int32) (vplanes : Int32) (cplane : Nat → Int32) (H : Heap) (locs : List Loc) (ls : Array Slot), f_M_plane_J38  x1 x2 x3 x4 vthrown vplanes cplane = some (r_, o_vthrown, o_vplanes, o_cplane) → va_P (dC, dI) vwCl (w_M qM q_px q_py q_pz q_plane q_axis q_was q_ways q_keptWas q_keptWays q_keptPoints q_nextWas q_nextWays q_nowWas q_nowWays q_to cI vthrown vpoints vplanes vaxes vkept vax vay vaz cpx cpy cpz cplane caxis cwas cways ckeptWas ckeptWays ckeptPoints cnextWas cnextWays cnowWas cnowWays cto) H → va_D A (w_M qM q_px q_py q_pz q_plane q_axis q_was q_ways q_keptWas q_keptWays q_keptPoints q_nextWas q_nextWays q_nowWas q_nowWays q_to cI vthrown vpoints vplanes vaxes vkept vax vay vaz cpx cpy cpz cplane caxis cwas cways ckeptWas ckeptWays ckeptPoints cnextWas cnextWays cnowWas cnowWays cto) → va_S A s.heap H locs → lv_has ls 5 [(0, .ref qM), (1, .int x1), (2, .int x2), (3, .int x3), (4, .int x4)] → Wx H locs 0 0 (F0 m 38 ls []) := by
    intro x1 x2 x3 x4 vthrown vplanes cplane H locs ls hf hP hD hS hl
    refine toX _ _ _ _ _ ?_
    unfold f_M_plane_J38 at hf
    refine lv_iload hx hb d_M_plane_38 (lv_at hl 4 rfl) ?_
    refine lv_bipush (v := (-99)) hx hb d_M_plane_40 (by decide) ?_
    refine lv_icmp_lt (tgt := 61) hx hb d_M_plane_42 (by decide) (fun c1 => ?_) (fun c1 => ?_)
    · have hf := oIf_t hf c1
      refine lv_iconst (v := (-1)) hx hb d_M_plane_61 (by decide) ?_
      cases hf
      exact W.iret hx hb hr (fun t ht hW => ⟨⟨_, (), rfl, rfl, by rw [ht]; exact hP, hD⟩, hS.F ht⟩) hS.2.2 d_M_plane_62
    · have hf := oIf_f hf c1
      refine lv_iload hx hb d_M_plane_45 (lv_at hl 4 rfl) ?_
      refine lv_bipush (v := 99) hx hb d_M_plane_47 (by decide) ?_
      refine lv_icmp_gt (tgt := 61) hx hb d_M_plane_49 (by decide) (fun c2 => ?_) (fun c2 => ?_)
      · have hf := oIf_t hf c2
        refine lv_iconst (v := (-1)) hx hb d_M_plane_61 (by decide) ?_
        cases hf
        exact W.iret hx hb hr (fun t ht hW => ⟨⟨_, (), rfl, rfl, by rw [ht]; exact hP, hD⟩, hS.F ht⟩) hS.2.2 d_M_plane_62
      · have hf := oIf_f hf c2
        refine lv_aload_n hx hb d_M_plane_52 rfl (lv_at hl 0 rfl) ?_
        refine va_get (D := (dC, dI)) (ci := 3) (v := .int vplanes) (C := R_M) (T := T_M) (N := 23) hx hb ht in_M hown hK hP 0 rfl rfl 2 (by decide) (ht _ m_348) (fun _ h9 => h9) rfl d_M_plane_53 ?_
        refine lv_bipush (v := 20) hx hb d_M_plane_56 (by decide) ?_
        refine lv_icmp_ne (tgt := 63) hx hb d_M_plane_58 (by decide) (fun c3 => ?_) (fun c3 => ?_)
        · have hf := oIf_f hf c3
          refine lv_aload_n hx hb d_M_plane_63 rfl (lv_at hl 0 rfl) ?_
          refine va_get (D := (dC, dI)) (ci := 3) (v := .ref q_plane) (C := R_M) (T := T_M) (N := 23) hx hb ht in_M hown hK hP 0 rfl rfl 7 (by decide) (ht _ m_353) (fun _ h9 => h9) rfl d_M_plane_64 ?_
          refine lv_iconst (v := 4) hx hb d_M_plane_67 (by decide) ?_
          refine lv_aload_n hx hb d_M_plane_68 rfl (lv_at hl 0 rfl) ?_
          refine va_get (D := (dC, dI)) (ci := 3) (v := .int vplanes) (C := R_M) (T := T_M) (N := 23) hx hb ht in_M hown hK hP 0 rfl rfl 2 (by decide) (ht _ m_348) (fun _ h9 => h9) rfl d_M_plane_69 ?_
          refine lv_imul hx hb d_M_plane_72 ?_
          refine lv_iload_n hx hb d_M_plane_73 rfl (lv_at hl 1 rfl) ?_
          obtain ⟨hi4, hf⟩ := oIn_some hf
          refine va_iast hx hb hK hP hD hS 4 0 rfl rfl hi4 d_M_plane_74 (fun H locs hP hD hS => ?_)
          obtain ⟨a5, ea5, hf⟩ := oLet_ex hf
          have hP : va_P (dC, dI) vwCl (w_M qM q_px q_py q_pz q_plane q_axis q_was q_ways q_keptWas q_keptWays q_keptPoints q_nextWas q_nextWays q_nowWas q_nowWays q_to cI vthrown vpoints vplanes vaxes vkept vax vay vaz cpx cpy cpz a5 caxis cwas cways ckeptWas ckeptWays ckeptPoints cnextWas cnextWays cnowWas cnowWays cto) H := by rw [ea5]; exact hP
          have hD : va_D A (w_M qM q_px q_py q_pz q_plane q_axis q_was q_ways q_keptWas q_keptWays q_keptPoints q_nextWas q_nextWays q_nowWas q_nowWays q_to cI vthrown vpoints vplanes vaxes vkept vax vay vaz cpx cpy cpz a5 caxis cwas cways ckeptWas ckeptWays ckeptPoints cnextWas cnextWays cnowWas cnowWays cto) := by rw [ea5]; exact hD
          refine lv_aload_n hx hb d_M_plane_75 rfl (lv_at hl 0 rfl) ?_
          refine va_get (D := (dC, dI)) (ci := 3) (v := .ref q_plane) (C := R_M) (T := T_M) (N := 23) hx hb ht in_M hown hK hP 0 rfl rfl 7 (by decide) (ht _ m_353) (fun _ h9 => h9) rfl d_M_plane_76 ?_
          refine lv_iconst (v := 4) hx hb d_M_plane_79 (by decide) ?_
          refine lv_aload_n hx hb d_M_plane_80 rfl (lv_at hl 0 rfl) ?_
          refine va_get (D := (dC, dI)) (ci := 3) (v := .int vplanes) (C := R_M) (T := T_M) (N := 23) hx hb ht in_M hown hK hP 0 rfl rfl 2 (by decide) (ht _ m_348) (fun _ h9 => h9) rfl d_M_plane_81 ?_
          refine lv_imul hx hb d_M_plane_84 ?_
          refine lv_iconst (v := 1) hx hb d_M_plane_85 (by decide) ?_
          refine lv_iadd hx hb d_M_plane_86 ?_
          refine lv_iload_n hx hb d_M_plane_87 rfl (lv_at hl 2 rfl) ?_
          obtain ⟨hi6, hf⟩ := oIn_some hf
          refine va_iast hx hb hK hP hD hS 4 0 rfl rfl hi6 d_M_plane_88 (fun H locs hP hD hS => ?_)
          obtain ⟨a7, ea7, hf⟩ := oLet_ex hf
          have hP : va_P (dC, dI) vwCl (w_M qM q_px q_py q_pz q_plane q_axis q_was q_ways q_keptWas q_keptWays q_keptPoints q_nextWas q_nextWays q_nowWas q_nowWays q_to cI vthrown vpoints vplanes vaxes vkept vax vay vaz cpx cpy cpz a7 caxis cwas cways ckeptWas ckeptWays ckeptPoints cnextWas cnextWays cnowWas cnowWays cto) H := by rw [ea7]; exact hP
          have hD : va_D A (w_M qM q_px q_py q_pz q_plane q_axis q_was q_ways q_keptWas q_keptWays q_keptPoints q_nextWas q_nextWays q_nowWas q_nowWays q_to cI vthrown vpoints vplanes vaxes vkept vax vay vaz cpx cpy cpz a7 caxis cwas cways ckeptWas ckeptWays ckeptPoints cnextWas cnextWays cnowWas cnowWays cto) := by rw [ea7]; exact hD
          refine lv_aload_n hx hb d_M_plane_89 rfl (lv_at hl 0 rfl) ?_
          refine va_get (D := (dC, dI)) (ci := 3) (v := .ref q_plane) (C := R_M) (T := T_M) (N := 23) hx hb ht in_M hown hK hP 0 rfl rfl 7 (by decide) (ht _ m_353) (fun _ h9 => h9) rfl d_M_plane_90 ?_
          refine lv_iconst (v := 4) hx hb d_M_plane_93 (by decide) ?_
          refine lv_aload_n hx hb d_M_plane_94 rfl (lv_at hl 0 rfl) ?_
          refine va_get (D := (dC, dI)) (ci := 3) (v := .int vplanes) (C := R_M) (T := T_M) (N := 23) hx hb ht in_M hown hK hP 0 rfl rfl 2 (by decide) (ht _ m_348) (fun _ h9 => h9) rfl d_M_plane_95 ?_
          refine lv_imul hx hb d_M_plane_98 ?_
          refine lv_iconst (v := 2) hx hb d_M_plane_99 (by decide) ?_
          refine lv_iadd hx hb d_M_plane_100 ?_
          refine lv_iload_n hx hb d_M_plane_101 rfl (lv_at hl 3 rfl) ?_
          obtain ⟨hi8, hf⟩ := oIn_some hf
          refine va_iast hx hb hK hP hD hS 4 0 rfl rfl hi8 d_M_plane_102 (fun H locs hP hD hS => ?_)
          obtain ⟨a9, ea9, hf⟩ := oLet_ex hf
          have hP : va_P (dC, dI) vwCl (w_M qM q_px q_py q_pz q_plane q_axis q_was q_ways q_keptWas q_keptWays q_keptPoints q_nextWas q_nextWays q_nowWas q_nowWays q_to cI vthrown vpoints vplanes vaxes vkept vax vay vaz cpx cpy cpz a9 caxis cwas cways ckeptWas ckeptWays ckeptPoints cnextWas cnextWays cnowWas cnowWays cto) H := by rw [ea9]; exact hP
          have hD : va_D A (w_M qM q_px q_py q_pz q_plane q_axis q_was q_ways q_keptWas q_keptWays q_keptPoints q_nextWas q_nextWays q_nowWas q_nowWays q_to cI vthrown vpoints vplanes vaxes vkept vax vay vaz cpx cpy cpz a9 caxis cwas cways ckeptWas ckeptWays ckeptPoints cnextWas cnextWays cnowWas cnowWays cto) := by rw [ea9]; exact hD
          refine lv_aload_n hx hb d_M_plane_103 rfl (lv_at hl 0 rfl) ?_
          refine va_get (D := (dC, dI)) (ci := 3) (v := .ref q_plane) (C := R_M) (T := T_M) (N := 23) hx hb ht in_M hown hK hP 0 rfl rfl 7 (by decide) (ht _ m_353) (fun _ h9 => h9) rfl d_M_plane_104 ?_
          refine lv_iconst (v := 4) hx hb d_M_plane_107 (by decide) ?_
          refine lv_aload_n hx hb d_M_plane_108 rfl (lv_at hl 0 rfl) ?_
          refine va_get (D := (dC, dI)) (ci := 3) (v := .int vplanes) (C := R_M) (T := T_M) (N := 23) hx hb ht in_M hown hK hP 0 rfl rfl 2 (by decide) (ht _ m_348) (fun _ h9 => h9) rfl d_M_plane_109 ?_
          refine lv_imul hx hb d_M_plane_112 ?_
          refine lv_iconst (v := 3) hx hb d_M_plane_113 (by decide) ?_
          refine lv_iadd hx hb d_M_plane_114 ?_
          refine lv_iload hx hb d_M_plane_115 (lv_at hl 4 rfl) ?_
          obtain ⟨hi10, hf⟩ := oIn_some hf
          refine va_iast hx hb hK hP hD hS 4 0 rfl rfl hi10 d_M_plane_117 (fun H locs hP hD hS => ?_)
          obtain ⟨a11, ea11, hf⟩ := oLet_ex hf
          have hP : va_P (dC, dI) vwCl (w_M qM q_px q_py q_pz q_plane q_axis q_was q_ways q_keptWas q_keptWays q_keptPoints q_nextWas q_nextWays q_nowWas q_nowWays q_to cI vthrown vpoints vplanes vaxes vkept vax vay vaz cpx cpy cpz a11 caxis cwas cways ckeptWas ckeptWays ckeptPoints cnextWas cnextWays cnowWas cnowWays cto) H := by rw [ea11]; exact hP
          have hD : va_D A (w_M qM q_px q_py q_pz q_plane q_axis q_was q_ways q_keptWas q_keptWays q_keptPoints q_nextWas q_nextWays q_nowWas q_nowWays q_to cI vthrown vpoints vplanes vaxes vkept vax vay vaz cpx cpy cpz a11 caxis cwas cways ckeptWas ckeptWays ckeptPoints cnextWas cnextWays cnowWas cnowWays cto) := by rw [ea11]; exact hD
          refine lv_aload_n hx hb d_M_plane_118 rfl (lv_at hl 0 rfl) ?_
          refine lv_dup hx hb d_M_plane_119 rfl ?_
          refine va_get (D := (dC, dI)) (ci := 3) (v := .int vplanes) (C := R_M) (T := T_M) (N := 23) hx hb ht in_M hown hK hP 0 rfl rfl 2 (by decide) (ht _ m_348) (fun _ h9 => h9) rfl d_M_plane_120 ?_
          refine lv_iconst (v := 1) hx hb d_M_plane_123 (by decide) ?_
          refine lv_iadd hx hb d_M_plane_124 ?_
          refine lv_topi (fun v12 ev12 => ?_)
          have hf := oLet_some hf ev12
          refine va_put (D := (dC, dI)) (ci := 3) (v := .int v12) (ty := .int) (C := R_M) (T := T_M) (N := 23) hx hb ht in_M t_M t_M_ok n_M hown hK hP hD hS 0 rfl rfl 2 (by decide) (ht _ m_348) (fun _ h9 => h9) rfl (by decide +kernel) rfl rfl (Nat.le_of_ble_eq_true rfl) d_M_plane_125 (fun H locs hP hD hS => ?_)
          have hP : va_P (dC, dI) vwCl (w_M qM q_px q_py q_pz q_plane q_axis q_was q_ways q_keptWas q_keptWays q_keptPoints q_nextWas q_nextWays q_nowWas q_nowWays q_to cI vthrown vpoints v12 vaxes vkept vax vay vaz cpx cpy cpz a11 caxis cwas cways ckeptWas ckeptWays ckeptPoints cnextWas cnextWays cnowWas cnowWays cto) H := hP
          have hD : va_D A (w_M qM q_px q_py q_pz q_plane q_axis q_was q_ways q_keptWas q_keptWays q_keptPoints q_nextWas q_nextWays q_nowWas q_nowWays q_to cI vthrown vpoints v12 vaxes vkept vax vay vaz cpx cpy cpz a11 caxis cwas cways ckeptWas ckeptWays ckeptPoints cnextWas cnextWays cnowWas cnowWays cto) := hD
          refine lv_aload_n hx hb d_M_plane_128 rfl (lv_at hl 0 rfl) ?_
          refine va_get (D := (dC, dI)) (ci := 3) (v := .int v12) (C := R_M) (T := T_M) (N := 23) hx hb ht in_M hown hK hP 0 rfl rfl 2 (by decide) (ht _ m_348) (fun _ h9 => h9) rfl d_M_plane_129 ?_
          refine lv_iconst (v := 1) hx hb d_M_plane_132 (by decide) ?_
          refine lv_isub hx hb d_M_plane_133 ?_
          cases hf
          exact W.iret hx hb hr (fun t ht hW => ⟨⟨_, (), rfl, rfl, by rw [ht]; exact hP, hD⟩, hS.F ht⟩) hS.2.2 d_M_plane_134
        · have hf := oIf_t hf c3
          refine lv_iconst (v := (-1)) hx hb d_M_plane_61 (by decide) ?_
          cases hf
          exact W.iret hx hb hr (fun t ht hW => ⟨⟨_, (), rfl, rfl, by rw [ht]; exact hP, hD⟩, hS.F ht⟩) hS.2.2 d_M_plane_62
  refine toX _ _ _ _ _ ?_
  unfold f_M_plane at hf
  obtain ⟨H, hH⟩ : ∃ z, z = s.heap := ⟨_, rfl⟩
  have hS : va_S A s.heap H [] := by rw [hH]; exact hS
  have hP : va_P (dC, dI) vwCl (w_M qM q_px q_py q_pz q_plane q_axis q_was q_ways q_keptWas q_keptWays q_keptPoints q_nextWas q_nextWays q_nowWas q_nowWays q_to cI vthrown vpoints vplanes vaxes vkept vax vay vaz cpx cpy cpz cplane caxis cwas cways ckeptWas ckeptWays ckeptPoints cnextWas cnextWays cnowWas cnowWays cto) H := by rw [hH]; exact hP
  refine w_heap hH ?_
  refine lv_aload_n hx hb d_M_plane_0 rfl (lv_at hl 0 rfl) ?_
  refine lv_iconst (v := 0) hx hb d_M_plane_1 (by decide) ?_
  refine va_put (D := (dC, dI)) (ci := 3) (v := .int 0) (ty := .int) (C := R_M) (T := T_M) (N := 23) hx hb ht in_M t_M t_M_ok n_M hown hK hP hD hS 0 rfl rfl 0 (by decide) (ht _ m_346) (fun _ h9 => h9) rfl (by decide +kernel) rfl rfl (Nat.le_of_ble_eq_true rfl) d_M_plane_2 (fun H locs hP hD hS => ?_)
  have hP : va_P (dC, dI) vwCl (w_M qM q_px q_py q_pz q_plane q_axis q_was q_ways q_keptWas q_keptWays q_keptPoints q_nextWas q_nextWays q_nowWas q_nowWays q_to cI 0 vpoints vplanes vaxes vkept vax vay vaz cpx cpy cpz cplane caxis cwas cways ckeptWas ckeptWays ckeptPoints cnextWas cnextWays cnowWas cnowWays cto) H := hP
  have hD : va_D A (w_M qM q_px q_py q_pz q_plane q_axis q_was q_ways q_keptWas q_keptWays q_keptPoints q_nextWas q_nextWays q_nowWas q_nowWays q_to cI 0 vpoints vplanes vaxes vkept vax vay vaz cpx cpy cpz cplane caxis cwas cways ckeptWas ckeptWays ckeptPoints cnextWas cnextWays cnowWas cnowWays cto) := hD
  refine lv_iload_n hx hb d_M_plane_5 rfl (lv_at hl 1 rfl) ?_
  obtain ⟨r13z, hfc, hf⟩ := oCall1_some hf
  have hPc := hP.sub (ws' := []) [] rfl
  refine vp_callSi (va_runS (As := [.int x1]) (rest := []) ⟨hx, hb, hml, hown, ht⟩ (c_M_isSmall l dC dI cI cJ cQ x1 r13z hfc) (va_cwS 1 ht (gS m_420 m_421 m_31 m_422) rfl rfl rfl (by decide +kernel) ⟨Nat.le_of_ble_eq_true rfl, Nat.le_of_ble_eq_true rfl⟩) (preR hPc hK hZ) rfl rfl hl.1 rfl (lv_room (Nat.le_of_ble_eq_true rfl)) d_M_plane_6 ⟨Nat.le_of_ble_eq_true rfl, Nat.le_of_ble_eq_true rfl⟩).run (fun r13 hw => ?_)
  subst hw
  clear hPc hfc
  refine lv_if_eq (tgt := 61) hx hb d_M_plane_9 (by decide) (fun c14 => ?_) (fun c14 => ?_)
  · have hf := oIf_t hf c14
    refine lv_iconst (v := (-1)) hx hb d_M_plane_61 (by decide) ?_
    cases hf
    exact W.iret hx hb hr (fun t ht hW => ⟨⟨_, (), rfl, rfl, by rw [ht]; exact hP, hD⟩, hS.F ht⟩) hS.2.2 d_M_plane_62
  · have hf := oIf_f hf c14
    refine lv_iload_n hx hb d_M_plane_12 rfl (lv_at hl 2 rfl) ?_
    obtain ⟨r15z, hfc, hf⟩ := oCall1_some hf
    have hPc := hP.sub (ws' := []) [] rfl
    refine vp_callSi (va_runS (As := [.int x2]) (rest := []) ⟨hx, hb, hml, hown, ht⟩ (c_M_isSmall l dC dI cI cJ cQ x2 r15z hfc) (va_cwS 1 ht (gS m_420 m_421 m_31 m_422) rfl rfl rfl (by decide +kernel) ⟨Nat.le_of_ble_eq_true rfl, Nat.le_of_ble_eq_true rfl⟩) (preR hPc hK hZ) rfl rfl hl.1 rfl (lv_room (Nat.le_of_ble_eq_true rfl)) d_M_plane_13 ⟨Nat.le_of_ble_eq_true rfl, Nat.le_of_ble_eq_true rfl⟩).run (fun r15 hw => ?_)
    subst hw
    clear hPc hfc
    refine lv_if_eq (tgt := 61) hx hb d_M_plane_16 (by decide) (fun c16 => ?_) (fun c16 => ?_)
    · have hf := oIf_t hf c16
      refine lv_iconst (v := (-1)) hx hb d_M_plane_61 (by decide) ?_
      cases hf
      exact W.iret hx hb hr (fun t ht hW => ⟨⟨_, (), rfl, rfl, by rw [ht]; exact hP, hD⟩, hS.F ht⟩) hS.2.2 d_M_plane_62
    · have hf := oIf_f hf c16
      refine lv_iload_n hx hb d_M_plane_19 rfl (lv_at hl 3 rfl) ?_
      obtain ⟨r17z, hfc, hf⟩ := oCall1_some hf
      have hPc := hP.sub (ws' := []) [] rfl
      refine vp_callSi (va_runS (As := [.int x3]) (rest := []) ⟨hx, hb, hml, hown, ht⟩ (c_M_isSmall l dC dI cI cJ cQ x3 r17z hfc) (va_cwS 1 ht (gS m_420 m_421 m_31 m_422) rfl rfl rfl (by decide +kernel) ⟨Nat.le_of_ble_eq_true rfl, Nat.le_of_ble_eq_true rfl⟩) (preR hPc hK hZ) rfl rfl hl.1 rfl (lv_room (Nat.le_of_ble_eq_true rfl)) d_M_plane_20 ⟨Nat.le_of_ble_eq_true rfl, Nat.le_of_ble_eq_true rfl⟩).run (fun r17 hw => ?_)
      subst hw
      clear hPc hfc
      refine lv_if_eq (tgt := 61) hx hb d_M_plane_23 (by decide) (fun c18 => ?_) (fun c18 => ?_)
      · have hf := oIf_t hf c18
        refine lv_iconst (v := (-1)) hx hb d_M_plane_61 (by decide) ?_
        cases hf
        exact W.iret hx hb hr (fun t ht hW => ⟨⟨_, (), rfl, rfl, by rw [ht]; exact hP, hD⟩, hS.F ht⟩) hS.2.2 d_M_plane_62
      · have hf := oIf_f hf c18
        refine lv_iload_n hx hb d_M_plane_26 rfl (lv_at hl 1 rfl) ?_
        refine lv_if_ne (tgt := 38) hx hb d_M_plane_27 (by decide) (fun c19 => ?_) (fun c19 => ?_)
        · have hf := oIf_f hf c19
          exact ofX _ _ _ _ _ (K38  x1 x2 x3 x4 0 vplanes cplane _ _ _ hf hP hD hS (lv_sub hl [0, 1, 2, 3, 4] rfl))
        · have hf := oIf_t hf c19
          refine lv_iload_n hx hb d_M_plane_30 rfl (lv_at hl 2 rfl) ?_
          refine lv_if_ne (tgt := 38) hx hb d_M_plane_31 (by decide) (fun c20 => ?_) (fun c20 => ?_)
          · have hf := oIf_f hf c20
            exact ofX _ _ _ _ _ (K38  x1 x2 x3 x4 0 vplanes cplane _ _ _ hf hP hD hS (lv_sub hl [0, 1, 2, 3, 4] rfl))
          · have hf := oIf_t hf c20
            refine lv_iload_n hx hb d_M_plane_34 rfl (lv_at hl 3 rfl) ?_
            refine lv_if_eq (tgt := 61) hx hb d_M_plane_35 (by decide) (fun c21 => ?_) (fun c21 => ?_)
            · have hf := oIf_t hf c21
              refine lv_iconst (v := (-1)) hx hb d_M_plane_61 (by decide) ?_
              cases hf
              exact W.iret hx hb hr (fun t ht hW => ⟨⟨_, (), rfl, rfl, by rw [ht]; exact hP, hD⟩, hS.F ht⟩) hS.2.2 d_M_plane_62
            · have hf := oIf_f hf c21
              exact ofX _ _ _ _ _ (K38  x1 x2 x3 x4 0 vplanes cplane _ _ _ hf hP hD hS (lv_sub hl [0, 1, 2, 3, 4] rfl))
set_option maxHeartbeats 4000000 in
set_option maxRecDepth 100000 in
theorem c_M_axis (l : Launch) (dC : Nat → ClassId) (dI : Nat → Nat → Nat) (qM q_px q_py q_pz q_plane q_axis q_was q_ways q_keptWas q_keptWays q_keptPoints q_nextWas q_nextWays q_nowWas q_nowWays q_to : Nat) (cI cJ cQ : ClassId) (sz : Nat) (vthrown : Int32) (vpoints : Int32) (vplanes : Int32) (vaxes : Int32) (vkept : Int32) (vax : Int32) (vay : Int32) (vaz : Int32) (cpx : Nat → Int32) (cpy : Nat → Int32) (cpz : Nat → Int32) (cplane : Nat → Int32) (caxis : Nat → Int32) (cwas : Nat → Int32) (cways : Nat → Int32) (ckeptWas : Nat → Int32) (ckeptWays : Nat → Int32) (ckeptPoints : Nat → Int32) (cnextWas : Nat → Int32) (cnextWays : Nat → Int32) (cnowWas : Nat → Int32) (cnowWays : Nat → Int32) (cto : Nat → Int32) (x1 : Int32) (x2 : Int32) (x3 : Int32) (r_ : Int32) (o_vthrown : Int32) (o_vaxes : Int32) (o_caxis : Nat → Int32) (hf : f_M_axis vthrown vaxes caxis x1 x2 x3 = some (r_, o_vthrown, o_vaxes, o_caxis)) : Met l y_M_axis w_M_axis ({ frames := 1, cells := 0, slots := 0, locals := 20 }) (va_Pc [.ref qM, .int x1, .int x2, .int x3] (fun U => U.heap.size = sz ∧ va_P (dC, dI) vwCl (w_M qM q_px q_py q_pz q_plane q_axis q_was q_ways q_keptWas q_keptWays q_keptPoints q_nextWas q_nextWays q_nowWas q_nowWays q_to cI vthrown vpoints vplanes vaxes vkept vax vay vaz cpx cpy cpz cplane caxis cwas cways ckeptWas ckeptWays ckeptPoints cnextWas cnextWays cnowWas cnowWays cto) U.heap ∧ va_K (dC, dI) vwCl [(cI, .int), (cJ, .long), (cQ, .object "CutBodies$Contents")] U ∧ nestZ U ∧ va_D (fun _ => True) (w_M qM q_px q_py q_pz q_plane q_axis q_was q_ways q_keptWas q_keptWays q_keptPoints q_nextWas q_nextWays q_nowWas q_nowWays q_to cI vthrown vpoints vplanes vaxes vkept vax vay vaz cpx cpy cpz cplane caxis cwas cways ckeptWas ckeptWays ckeptPoints cnextWas cnextWays cnowWas cnowWays cto))) (va_Qi (fun (r9 : Int32) (_ : Unit) => r9 = r_) (fun _ t => va_P (dC, dI) vwCl (w_M qM q_px q_py q_pz q_plane q_axis q_was q_ways q_keptWas q_keptWays q_keptPoints q_nextWas q_nextWays q_nowWas q_nowWays q_to cI o_vthrown vpoints vplanes o_vaxes vkept vax vay vaz cpx cpy cpz cplane o_caxis cwas cways ckeptWas ckeptWays ckeptPoints cnextWas cnextWays cnowWas cnowWays cto) t.heap ∧ va_D (va_A (w_M qM q_px q_py q_pz q_plane q_axis q_was q_ways q_keptWas q_keptWays q_keptPoints q_nextWas q_nextWays q_nowWas q_nowWays q_to cI vthrown vpoints vplanes vaxes vkept vax vay vaz cpx cpy cpz cplane caxis cwas cways ckeptWas ckeptWays ckeptPoints cnextWas cnextWays cnowWas cnowWays cto) sz) (w_M qM q_px q_py q_pz q_plane q_axis q_was q_ways q_keptWas q_keptWays q_keptPoints q_nextWas q_nextWays q_nowWas q_nowWays q_to cI o_vthrown vpoints vplanes o_vaxes vkept vax vay vaz cpx cpy cpz cplane o_caxis cwas cways ckeptWas ckeptWays ckeptPoints cnextWas cnextWays cnowWas cnowWays cto)) (va_A (w_M qM q_px q_py q_pz q_plane q_axis q_was q_ways q_keptWas q_keptWays q_keptPoints q_nextWas q_nextWays q_nowWas q_nowWays q_to cI vthrown vpoints vplanes vaxes vkept vax vay vaz cpx cpy cpz cplane caxis cwas cways ckeptWas ckeptWays ckeptPoints cnextWas cnextWays cnowWas cnowWays cto) sz)) 0 0 (va_A (w_M qM q_px q_py q_pz q_plane q_axis q_was q_ways q_keptWas q_keptWays q_keptPoints q_nextWas q_nextWays q_nowWas q_nowWays q_to cI vthrown vpoints vplanes vaxes vkept vax vay vaz cpx cpy cpz cplane caxis cwas cways ckeptWas ckeptWays ckeptPoints cnextWas cnextWays cnowWas cnowWays cto) sz) := by
  refine Met.ofW (cc := b_M_axis) (maxL := 4) (ret := (some .int)) (by decide) rfl ?_
  intro p e s m args below meth c s₁ B hml hv
  obtain ⟨rfl, hsz, hP, hK, hZ, hD0⟩ := hv
  have hx := B.exec
  have hb := B.bytes
  have hr := B.returns
  have hts := atoms_spec (ws := w_M_axis) B.pre
  have ht : ∀ w ∈ wAll, w.before _ s = true := fun w h => hts w (List.mem_cons_of_mem _ h)
  have hown : s.vm.findClass R_M = some m.cls := findClass_of_methodNamed B.named
  have hlocks := B.notSynchronized
  subst hsz
  have hD := hD0.self (sz := s.heap.size)
  generalize hAe : va_A (w_M qM q_px q_py q_pz q_plane q_axis q_was q_ways q_keptWas q_keptWays q_keptPoints q_nextWas q_nextWays q_nowWas q_nowWays q_to cI vthrown vpoints vplanes vaxes vkept vax vay vaz cpx cpy cpz cplane caxis cwas cways ckeptWas ckeptWays ckeptPoints cnextWas cnextWays cnowWas cnowWays cto) s.heap.size = A at hD ⊢
  have hA : ∀ q : Nat, s.heap.size ≤ q → A q := fun q h => by rw [← hAe]; exact Or.inr h
  have hS : va_S A s.heap s.heap [] := va_S.rf
  have hP : va_P (dC, dI) vwCl (w_M qM q_px q_py q_pz q_plane q_axis q_was q_ways q_keptWas q_keptWays q_keptPoints q_nextWas q_nextWays q_nowWas q_nowWays q_to cI vthrown vpoints vplanes vaxes vkept vax vay vaz cpx cpy cpz cplane caxis cwas cways ckeptWas ckeptWays ckeptPoints cnextWas cnextWays cnowWas cnowWays cto) s.heap := hP
  have hl := lv_entry ([.ref qM, .int x1, .int x2, .int x3]) (n := 4) (Nat.le_of_ble_eq_true rfl)
  rw [lg_entry_eq]
  generalize (lg_sl ([.ref qM, .int x1, .int x2, .int x3]) ++ List.replicate (4 - (lg_sl ([.ref qM, .int x1, .int x2, .int x3])).length) Slot.unset).toArray = ls at hl ⊢
  have hl : lv_has ls 4 [(0, .ref qM), (1, .int x1), (2, .int x2), (3, .int x3)] := hl
  refine w_abs (fun Wx toX ofX => ?_)
  have K38 : ∀ (x1 : Int32) (x2 : Int32) (x3 : Int32) (vthrown : Int32) (vaxes : Int32) (caxis : Nat → Int32) (H : Heap) (locs : List Loc) (ls : Array Slot), f_M_axis_J38  x1 x2 x3 vthrown vaxes caxis = some (r_, o_vthrown, o_vaxes, o_caxis) → va_P (dC, dI) vwCl (w_M qM q_px q_py q_pz q_plane q_axis q_was q_ways q_keptWas q_keptWays q_keptPoints q_nextWas q_nextWays q_nowWas q_nowWays q_to cI vthrown vpoints vplanes vaxes vkept vax vay vaz cpx cpy cpz cplane caxis cwas cways ckeptWas ckeptWays ckeptPoints cnextWas cnextWays cnowWas cnowWays cto) H → va_D A (w_M qM q_px q_py q_pz q_plane q_axis q_was q_ways q_keptWas q_keptWays q_keptPoints q_nextWas q_nextWays q_nowWas q_nowWays q_to cI vthrown vpoints vplanes vaxes vkept vax vay vaz cpx cpy cpz cplane caxis cwas cways ckeptWas ckeptWays ckeptPoints cnextWas cnextWays cnowWas cnowWays cto) → va_S A s.heap H locs → lv_has ls 4 [(0, .ref qM), (1, .int x1), (2, .int x2), (3, .int x3)] → Wx H locs 0 0 (F0 m 38 ls []) := by
    intro x1 x2 x3 vthrown vaxes caxis H locs ls hf hP hD hS hl
    refine toX _ _ _ _ _ ?_
    unfold f_M_axis_J38 at hf
    refine lv_aload_n hx hb d_M_axis_38 rfl (lv_at hl 0 rfl) ?_
    refine va_get (D := (dC, dI)) (ci := 3) (v := .int vaxes) (C := R_M) (T := T_M) (N := 23) hx hb ht in_M hown hK hP 0 rfl rfl 3 (by decide) (ht _ m_349) (fun _ h9 => h9) rfl d_M_axis_39 ?_
    refine lv_bipush (v := 13) hx hb d_M_axis_42 (by decide) ?_
    refine lv_icmp_ne (tgt := 49) hx hb d_M_axis_44 (by decide) (fun c1 => ?_) (fun c1 => ?_)
    · have hf := oIf_f hf c1
      refine lv_aload_n hx hb d_M_axis_49 rfl (lv_at hl 0 rfl) ?_
      refine va_get (D := (dC, dI)) (ci := 3) (v := .ref q_axis) (C := R_M) (T := T_M) (N := 23) hx hb ht in_M hown hK hP 0 rfl rfl 8 (by decide) (ht _ m_354) (fun _ h9 => h9) rfl d_M_axis_50 ?_
      refine lv_iconst (v := 3) hx hb d_M_axis_53 (by decide) ?_
      refine lv_aload_n hx hb d_M_axis_54 rfl (lv_at hl 0 rfl) ?_
      refine va_get (D := (dC, dI)) (ci := 3) (v := .int vaxes) (C := R_M) (T := T_M) (N := 23) hx hb ht in_M hown hK hP 0 rfl rfl 3 (by decide) (ht _ m_349) (fun _ h9 => h9) rfl d_M_axis_55 ?_
      refine lv_imul hx hb d_M_axis_58 ?_
      refine lv_iload_n hx hb d_M_axis_59 rfl (lv_at hl 1 rfl) ?_
      obtain ⟨hi2, hf⟩ := oIn_some hf
      refine va_iast hx hb hK hP hD hS 5 0 rfl rfl hi2 d_M_axis_60 (fun H locs hP hD hS => ?_)
      obtain ⟨a3, ea3, hf⟩ := oLet_ex hf
      have hP : va_P (dC, dI) vwCl (w_M qM q_px q_py q_pz q_plane q_axis q_was q_ways q_keptWas q_keptWays q_keptPoints q_nextWas q_nextWays q_nowWas q_nowWays q_to cI vthrown vpoints vplanes vaxes vkept vax vay vaz cpx cpy cpz cplane a3 cwas cways ckeptWas ckeptWays ckeptPoints cnextWas cnextWays cnowWas cnowWays cto) H := by rw [ea3]; exact hP
      have hD : va_D A (w_M qM q_px q_py q_pz q_plane q_axis q_was q_ways q_keptWas q_keptWays q_keptPoints q_nextWas q_nextWays q_nowWas q_nowWays q_to cI vthrown vpoints vplanes vaxes vkept vax vay vaz cpx cpy cpz cplane a3 cwas cways ckeptWas ckeptWays ckeptPoints cnextWas cnextWays cnowWas cnowWays cto) := by rw [ea3]; exact hD
      refine lv_aload_n hx hb d_M_axis_61 rfl (lv_at hl 0 rfl) ?_
      refine va_get (D := (dC, dI)) (ci := 3) (v := .ref q_axis) (C := R_M) (T := T_M) (N := 23) hx hb ht in_M hown hK hP 0 rfl rfl 8 (by decide) (ht _ m_354) (fun _ h9 => h9) rfl d_M_axis_62 ?_
      refine lv_iconst (v := 3) hx hb d_M_axis_65 (by decide) ?_
      refine lv_aload_n hx hb d_M_axis_66 rfl (lv_at hl 0 rfl) ?_
      refine va_get (D := (dC, dI)) (ci := 3) (v := .int vaxes) (C := R_M) (T := T_M) (N := 23) hx hb ht in_M hown hK hP 0 rfl rfl 3 (by decide) (ht _ m_349) (fun _ h9 => h9) rfl d_M_axis_67 ?_
      refine lv_imul hx hb d_M_axis_70 ?_
      refine lv_iconst (v := 1) hx hb d_M_axis_71 (by decide) ?_
      refine lv_iadd hx hb d_M_axis_72 ?_
      refine lv_iload_n hx hb d_M_axis_73 rfl (lv_at hl 2 rfl) ?_
      obtain ⟨hi4, hf⟩ := oIn_some hf
      refine va_iast hx hb hK hP hD hS 5 0 rfl rfl hi4 d_M_axis_74 (fun H locs hP hD hS => ?_)
      obtain ⟨a5, ea5, hf⟩ := oLet_ex hf
      have hP : va_P (dC, dI) vwCl (w_M qM q_px q_py q_pz q_plane q_axis q_was q_ways q_keptWas q_keptWays q_keptPoints q_nextWas q_nextWays q_nowWas q_nowWays q_to cI vthrown vpoints vplanes vaxes vkept vax vay vaz cpx cpy cpz cplane a5 cwas cways ckeptWas ckeptWays ckeptPoints cnextWas cnextWays cnowWas cnowWays cto) H := by rw [ea5]; exact hP
      have hD : va_D A (w_M qM q_px q_py q_pz q_plane q_axis q_was q_ways q_keptWas q_keptWays q_keptPoints q_nextWas q_nextWays q_nowWas q_nowWays q_to cI vthrown vpoints vplanes vaxes vkept vax vay vaz cpx cpy cpz cplane a5 cwas cways ckeptWas ckeptWays ckeptPoints cnextWas cnextWays cnowWas cnowWays cto) := by rw [ea5]; exact hD
      refine lv_aload_n hx hb d_M_axis_75 rfl (lv_at hl 0 rfl) ?_
      refine va_get (D := (dC, dI)) (ci := 3) (v := .ref q_axis) (C := R_M) (T := T_M) (N := 23) hx hb ht in_M hown hK hP 0 rfl rfl 8 (by decide) (ht _ m_354) (fun _ h9 => h9) rfl d_M_axis_76 ?_
      refine lv_iconst (v := 3) hx hb d_M_axis_79 (by decide) ?_
      refine lv_aload_n hx hb d_M_axis_80 rfl (lv_at hl 0 rfl) ?_
      refine va_get (D := (dC, dI)) (ci := 3) (v := .int vaxes) (C := R_M) (T := T_M) (N := 23) hx hb ht in_M hown hK hP 0 rfl rfl 3 (by decide) (ht _ m_349) (fun _ h9 => h9) rfl d_M_axis_81 ?_
      refine lv_imul hx hb d_M_axis_84 ?_
      refine lv_iconst (v := 2) hx hb d_M_axis_85 (by decide) ?_
      refine lv_iadd hx hb d_M_axis_86 ?_
      refine lv_iload_n hx hb d_M_axis_87 rfl (lv_at hl 3 rfl) ?_
      obtain ⟨hi6, hf⟩ := oIn_some hf
      refine va_iast hx hb hK hP hD hS 5 0 rfl rfl hi6 d_M_axis_88 (fun H locs hP hD hS => ?_)
      obtain ⟨a7, ea7, hf⟩ := oLet_ex hf
      have hP : va_P (dC, dI) vwCl (w_M qM q_px q_py q_pz q_plane q_axis q_was q_ways q_keptWas q_keptWays q_keptPoints q_nextWas q_nextWays q_nowWas q_nowWays q_to cI vthrown vpoints vplanes vaxes vkept vax vay vaz cpx cpy cpz cplane a7 cwas cways ckeptWas ckeptWays ckeptPoints cnextWas cnextWays cnowWas cnowWays cto) H := by rw [ea7]; exact hP
      have hD : va_D A (w_M qM q_px q_py q_pz q_plane q_axis q_was q_ways q_keptWas q_keptWays q_keptPoints q_nextWas q_nextWays q_nowWas q_nowWays q_to cI vthrown vpoints vplanes vaxes vkept vax vay vaz cpx cpy cpz cplane a7 cwas cways ckeptWas ckeptWays ckeptPoints cnextWas cnextWays cnowWas cnowWays cto) := by rw [ea7]; exact hD
      refine lv_aload_n hx hb d_M_axis_89 rfl (lv_at hl 0 rfl) ?_
      refine lv_dup hx hb d_M_axis_90 rfl ?_
      refine va_get (D := (dC, dI)) (ci := 3) (v := .int vaxes) (C := R_M) (T := T_M) (N := 23) hx hb ht in_M hown hK hP 0 rfl rfl 3 (by decide) (ht _ m_349) (fun _ h9 => h9) rfl d_M_axis_91 ?_
      refine lv_iconst (v := 1) hx hb d_M_axis_94 (by decide) ?_
      refine lv_iadd hx hb d_M_axis_95 ?_
      refine lv_topi (fun v8 ev8 => ?_)
      have hf := oLet_some hf ev8
      refine va_put (D := (dC, dI)) (ci := 3) (v := .int v8) (ty := .int) (C := R_M) (T := T_M) (N := 23) hx hb ht in_M t_M t_M_ok n_M hown hK hP hD hS 0 rfl rfl 3 (by decide) (ht _ m_349) (fun _ h9 => h9) rfl (by decide +kernel) rfl rfl (Nat.le_of_ble_eq_true rfl) d_M_axis_96 (fun H locs hP hD hS => ?_)
      have hP : va_P (dC, dI) vwCl (w_M qM q_px q_py q_pz q_plane q_axis q_was q_ways q_keptWas q_keptWays q_keptPoints q_nextWas q_nextWays q_nowWas q_nowWays q_to cI vthrown vpoints vplanes v8 vkept vax vay vaz cpx cpy cpz cplane a7 cwas cways ckeptWas ckeptWays ckeptPoints cnextWas cnextWays cnowWas cnowWays cto) H := hP
      have hD : va_D A (w_M qM q_px q_py q_pz q_plane q_axis q_was q_ways q_keptWas q_keptWays q_keptPoints q_nextWas q_nextWays q_nowWas q_nowWays q_to cI vthrown vpoints vplanes v8 vkept vax vay vaz cpx cpy cpz cplane a7 cwas cways ckeptWas ckeptWays ckeptPoints cnextWas cnextWays cnowWas cnowWays cto) := hD
      refine lv_aload_n hx hb d_M_axis_99 rfl (lv_at hl 0 rfl) ?_
      refine va_get (D := (dC, dI)) (ci := 3) (v := .int v8) (C := R_M) (T := T_M) (N := 23) hx hb ht in_M hown hK hP 0 rfl rfl 3 (by decide) (ht _ m_349) (fun _ h9 => h9) rfl d_M_axis_100 ?_
      refine lv_iconst (v := 1) hx hb d_M_axis_103 (by decide) ?_
      refine lv_isub hx hb d_M_axis_104 ?_
      cases hf
      exact W.iret hx hb hr (fun t ht hW => ⟨⟨_, (), rfl, rfl, by rw [ht]; exact hP, hD⟩, hS.F ht⟩) hS.2.2 d_M_axis_105
    · have hf := oIf_t hf c1
      refine lv_iconst (v := (-1)) hx hb d_M_axis_47 (by decide) ?_
      cases hf
      exact W.iret hx hb hr (fun t ht hW => ⟨⟨_, (), rfl, rfl, by rw [ht]; exact hP, hD⟩, hS.F ht⟩) hS.2.2 d_M_axis_48
  refine toX _ _ _ _ _ ?_
  unfold f_M_axis at hf
  obtain ⟨H, hH⟩ : ∃ z, z = s.heap := ⟨_, rfl⟩
  have hS : va_S A s.heap H [] := by rw [hH]; exact hS
  have hP : va_P (dC, dI) vwCl (w_M qM q_px q_py q_pz q_plane q_axis q_was q_ways q_keptWas q_keptWays q_keptPoints q_nextWas q_nextWays q_nowWas q_nowWays q_to cI vthrown vpoints vplanes vaxes vkept vax vay vaz cpx cpy cpz cplane caxis cwas cways ckeptWas ckeptWays ckeptPoints cnextWas cnextWays cnowWas cnowWays cto) H := by rw [hH]; exact hP
  refine w_heap hH ?_
  refine lv_aload_n hx hb d_M_axis_0 rfl (lv_at hl 0 rfl) ?_
  refine lv_iconst (v := 0) hx hb d_M_axis_1 (by decide) ?_
  refine va_put (D := (dC, dI)) (ci := 3) (v := .int 0) (ty := .int) (C := R_M) (T := T_M) (N := 23) hx hb ht in_M t_M t_M_ok n_M hown hK hP hD hS 0 rfl rfl 0 (by decide) (ht _ m_346) (fun _ h9 => h9) rfl (by decide +kernel) rfl rfl (Nat.le_of_ble_eq_true rfl) d_M_axis_2 (fun H locs hP hD hS => ?_)
  have hP : va_P (dC, dI) vwCl (w_M qM q_px q_py q_pz q_plane q_axis q_was q_ways q_keptWas q_keptWays q_keptPoints q_nextWas q_nextWays q_nowWas q_nowWays q_to cI 0 vpoints vplanes vaxes vkept vax vay vaz cpx cpy cpz cplane caxis cwas cways ckeptWas ckeptWays ckeptPoints cnextWas cnextWays cnowWas cnowWays cto) H := hP
  have hD : va_D A (w_M qM q_px q_py q_pz q_plane q_axis q_was q_ways q_keptWas q_keptWays q_keptPoints q_nextWas q_nextWays q_nowWas q_nowWays q_to cI 0 vpoints vplanes vaxes vkept vax vay vaz cpx cpy cpz cplane caxis cwas cways ckeptWas ckeptWays ckeptPoints cnextWas cnextWays cnowWas cnowWays cto) := hD
  refine lv_iload_n hx hb d_M_axis_5 rfl (lv_at hl 1 rfl) ?_
  obtain ⟨r9z, hfc, hf⟩ := oCall1_some hf
  have hPc := hP.sub (ws' := []) [] rfl
  refine vp_callSi (va_runS (As := [.int x1]) (rest := []) ⟨hx, hb, hml, hown, ht⟩ (c_M_isArrow l dC dI cI cJ cQ x1 r9z hfc) (va_cwS 1 ht (gS m_447 m_448 m_31 m_449) rfl rfl rfl (by decide +kernel) ⟨Nat.le_of_ble_eq_true rfl, Nat.le_of_ble_eq_true rfl⟩) (preR hPc hK hZ) rfl rfl hl.1 rfl (lv_room (Nat.le_of_ble_eq_true rfl)) d_M_axis_6 ⟨Nat.le_of_ble_eq_true rfl, Nat.le_of_ble_eq_true rfl⟩).run (fun r9 hw => ?_)
  subst hw
  clear hPc hfc
  refine lv_if_eq (tgt := 47) hx hb d_M_axis_9 (by decide) (fun c10 => ?_) (fun c10 => ?_)
  · have hf := oIf_t hf c10
    refine lv_iconst (v := (-1)) hx hb d_M_axis_47 (by decide) ?_
    cases hf
    exact W.iret hx hb hr (fun t ht hW => ⟨⟨_, (), rfl, rfl, by rw [ht]; exact hP, hD⟩, hS.F ht⟩) hS.2.2 d_M_axis_48
  · have hf := oIf_f hf c10
    refine lv_iload_n hx hb d_M_axis_12 rfl (lv_at hl 2 rfl) ?_
    obtain ⟨r11z, hfc, hf⟩ := oCall1_some hf
    have hPc := hP.sub (ws' := []) [] rfl
    refine vp_callSi (va_runS (As := [.int x2]) (rest := []) ⟨hx, hb, hml, hown, ht⟩ (c_M_isArrow l dC dI cI cJ cQ x2 r11z hfc) (va_cwS 1 ht (gS m_447 m_448 m_31 m_449) rfl rfl rfl (by decide +kernel) ⟨Nat.le_of_ble_eq_true rfl, Nat.le_of_ble_eq_true rfl⟩) (preR hPc hK hZ) rfl rfl hl.1 rfl (lv_room (Nat.le_of_ble_eq_true rfl)) d_M_axis_13 ⟨Nat.le_of_ble_eq_true rfl, Nat.le_of_ble_eq_true rfl⟩).run (fun r11 hw => ?_)
    subst hw
    clear hPc hfc
    refine lv_if_eq (tgt := 47) hx hb d_M_axis_16 (by decide) (fun c12 => ?_) (fun c12 => ?_)
    · have hf := oIf_t hf c12
      refine lv_iconst (v := (-1)) hx hb d_M_axis_47 (by decide) ?_
      cases hf
      exact W.iret hx hb hr (fun t ht hW => ⟨⟨_, (), rfl, rfl, by rw [ht]; exact hP, hD⟩, hS.F ht⟩) hS.2.2 d_M_axis_48
    · have hf := oIf_f hf c12
      refine lv_iload_n hx hb d_M_axis_19 rfl (lv_at hl 3 rfl) ?_
      obtain ⟨r13z, hfc, hf⟩ := oCall1_some hf
      have hPc := hP.sub (ws' := []) [] rfl
      refine vp_callSi (va_runS (As := [.int x3]) (rest := []) ⟨hx, hb, hml, hown, ht⟩ (c_M_isArrow l dC dI cI cJ cQ x3 r13z hfc) (va_cwS 1 ht (gS m_447 m_448 m_31 m_449) rfl rfl rfl (by decide +kernel) ⟨Nat.le_of_ble_eq_true rfl, Nat.le_of_ble_eq_true rfl⟩) (preR hPc hK hZ) rfl rfl hl.1 rfl (lv_room (Nat.le_of_ble_eq_true rfl)) d_M_axis_20 ⟨Nat.le_of_ble_eq_true rfl, Nat.le_of_ble_eq_true rfl⟩).run (fun r13 hw => ?_)
      subst hw
      clear hPc hfc
      refine lv_if_eq (tgt := 47) hx hb d_M_axis_23 (by decide) (fun c14 => ?_) (fun c14 => ?_)
      · have hf := oIf_t hf c14
        refine lv_iconst (v := (-1)) hx hb d_M_axis_47 (by decide) ?_
        cases hf
        exact W.iret hx hb hr (fun t ht hW => ⟨⟨_, (), rfl, rfl, by rw [ht]; exact hP, hD⟩, hS.F ht⟩) hS.2.2 d_M_axis_48
      · have hf := oIf_f hf c14
        refine lv_iload_n hx hb d_M_axis_26 rfl (lv_at hl 1 rfl) ?_
        refine lv_if_ne (tgt := 38) hx hb d_M_axis_27 (by decide) (fun c15 => ?_) (fun c15 => ?_)
        · have hf := oIf_f hf c15
          exact ofX _ _ _ _ _ (K38  x1 x2 x3 0 vaxes caxis _ _ _ hf hP hD hS (lv_sub hl [0, 1, 2, 3] rfl))
        · have hf := oIf_t hf c15
          refine lv_iload_n hx hb d_M_axis_30 rfl (lv_at hl 2 rfl) ?_
          refine lv_if_ne (tgt := 38) hx hb d_M_axis_31 (by decide) (fun c16 => ?_) (fun c16 => ?_)
          · have hf := oIf_f hf c16
            exact ofX _ _ _ _ _ (K38  x1 x2 x3 0 vaxes caxis _ _ _ hf hP hD hS (lv_sub hl [0, 1, 2, 3] rfl))
          · have hf := oIf_t hf c16
            refine lv_iload_n hx hb d_M_axis_34 rfl (lv_at hl 3 rfl) ?_
            refine lv_if_eq (tgt := 47) hx hb d_M_axis_35 (by decide) (fun c17 => ?_) (fun c17 => ?_)
            · have hf := oIf_t hf c17
              refine lv_iconst (v := (-1)) hx hb d_M_axis_47 (by decide) ?_
              cases hf
              exact W.iret hx hb hr (fun t ht hW => ⟨⟨_, (), rfl, rfl, by rw [ht]; exact hP, hD⟩, hS.F ht⟩) hS.2.2 d_M_axis_48
            · have hf := oIf_f hf c17
              exact ofX _ _ _ _ _ (K38  x1 x2 x3 0 vaxes caxis _ _ _ hf hP hD hS (lv_sub hl [0, 1, 2, 3] rfl))
set_option maxHeartbeats 4000000 in
set_option maxRecDepth 100000 in
theorem c_M_point (l : Launch) (dC : Nat → ClassId) (dI : Nat → Nat → Nat) (qM q_px q_py q_pz q_plane q_axis q_was q_ways q_keptWas q_keptWays q_keptPoints q_nextWas q_nextWays q_nowWas q_nowWays q_to : Nat) (cI cJ cQ : ClassId) (sz : Nat) (vthrown : Int32) (vpoints : Int32) (vplanes : Int32) (vaxes : Int32) (vkept : Int32) (vax : Int32) (vay : Int32) (vaz : Int32) (cpx : Nat → Int32) (cpy : Nat → Int32) (cpz : Nat → Int32) (cplane : Nat → Int32) (caxis : Nat → Int32) (cwas : Nat → Int32) (cways : Nat → Int32) (ckeptWas : Nat → Int32) (ckeptWays : Nat → Int32) (ckeptPoints : Nat → Int32) (cnextWas : Nat → Int32) (cnextWays : Nat → Int32) (cnowWas : Nat → Int32) (cnowWays : Nat → Int32) (cto : Nat → Int32) (x1 : Int32) (x2 : Int32) (x3 : Int32) (r_ : Int32) (o_vthrown : Int32) (o_vpoints : Int32) (o_cpx : Nat → Int32) (o_cpy : Nat → Int32) (o_cpz : Nat → Int32) (o_cwas : Nat → Int32) (o_cways : Nat → Int32) (hf : f_M_point vthrown vpoints cpx cpy cpz cwas cways x1 x2 x3 = some (r_, o_vthrown, o_vpoints, o_cpx, o_cpy, o_cpz, o_cwas, o_cways)) : Met l y_M_point w_M_point ({ frames := 2, cells := 0, slots := 0, locals := 47 }) (va_Pc [.ref qM, .int x1, .int x2, .int x3] (fun U => U.heap.size = sz ∧ va_P (dC, dI) vwCl (w_M qM q_px q_py q_pz q_plane q_axis q_was q_ways q_keptWas q_keptWays q_keptPoints q_nextWas q_nextWays q_nowWas q_nowWays q_to cI vthrown vpoints vplanes vaxes vkept vax vay vaz cpx cpy cpz cplane caxis cwas cways ckeptWas ckeptWays ckeptPoints cnextWas cnextWays cnowWas cnowWays cto) U.heap ∧ va_K (dC, dI) vwCl [(cI, .int), (cJ, .long), (cQ, .object "CutBodies$Contents")] U ∧ nestZ U ∧ va_D (fun _ => True) (w_M qM q_px q_py q_pz q_plane q_axis q_was q_ways q_keptWas q_keptWays q_keptPoints q_nextWas q_nextWays q_nowWas q_nowWays q_to cI vthrown vpoints vplanes vaxes vkept vax vay vaz cpx cpy cpz cplane caxis cwas cways ckeptWas ckeptWays ckeptPoints cnextWas cnextWays cnowWas cnowWays cto))) (va_Qi (fun (r9 : Int32) (_ : Unit) => r9 = r_) (fun _ t => va_P (dC, dI) vwCl (w_M qM q_px q_py q_pz q_plane q_axis q_was q_ways q_keptWas q_keptWays q_keptPoints q_nextWas q_nextWays q_nowWas q_nowWays q_to cI o_vthrown o_vpoints vplanes vaxes vkept vax vay vaz o_cpx o_cpy o_cpz cplane caxis o_cwas o_cways ckeptWas ckeptWays ckeptPoints cnextWas cnextWays cnowWas cnowWays cto) t.heap ∧ va_D (va_A (w_M qM q_px q_py q_pz q_plane q_axis q_was q_ways q_keptWas q_keptWays q_keptPoints q_nextWas q_nextWays q_nowWas q_nowWays q_to cI vthrown vpoints vplanes vaxes vkept vax vay vaz cpx cpy cpz cplane caxis cwas cways ckeptWas ckeptWays ckeptPoints cnextWas cnextWays cnowWas cnowWays cto) sz) (w_M qM q_px q_py q_pz q_plane q_axis q_was q_ways q_keptWas q_keptWays q_keptPoints q_nextWas q_nextWays q_nowWas q_nowWays q_to cI o_vthrown o_vpoints vplanes vaxes vkept vax vay vaz o_cpx o_cpy o_cpz cplane caxis o_cwas o_cways ckeptWas ckeptWays ckeptPoints cnextWas cnextWays cnowWas cnowWays cto)) (va_A (w_M qM q_px q_py q_pz q_plane q_axis q_was q_ways q_keptWas q_keptWays q_keptPoints q_nextWas q_nextWays q_nowWas q_nowWays q_to cI vthrown vpoints vplanes vaxes vkept vax vay vaz cpx cpy cpz cplane caxis cwas cways ckeptWas ckeptWays ckeptPoints cnextWas cnextWays cnowWas cnowWays cto) sz)) 0 0 (va_A (w_M qM q_px q_py q_pz q_plane q_axis q_was q_ways q_keptWas q_keptWays q_keptPoints q_nextWas q_nextWays q_nowWas q_nowWays q_to cI vthrown vpoints vplanes vaxes vkept vax vay vaz cpx cpy cpz cplane caxis cwas cways ckeptWas ckeptWays ckeptPoints cnextWas cnextWays cnowWas cnowWays cto) sz) := by
  refine Met.ofW (cc := b_M_point) (maxL := 4) (ret := (some .int)) (by decide) rfl ?_
  intro p e s m args below meth c s₁ B hml hv
  obtain ⟨rfl, hsz, hP, hK, hZ, hD0⟩ := hv
  have hx := B.exec
  have hb := B.bytes
  have hr := B.returns
  have hts := atoms_spec (ws := w_M_point) B.pre
  have ht : ∀ w ∈ wAll, w.before _ s = true := fun w h => hts w (List.mem_cons_of_mem _ h)
  have hown : s.vm.findClass R_M = some m.cls := findClass_of_methodNamed B.named
  have hlocks := B.notSynchronized
  subst hsz
  have hD := hD0.self (sz := s.heap.size)
  generalize hAe : va_A (w_M qM q_px q_py q_pz q_plane q_axis q_was q_ways q_keptWas q_keptWays q_keptPoints q_nextWas q_nextWays q_nowWas q_nowWays q_to cI vthrown vpoints vplanes vaxes vkept vax vay vaz cpx cpy cpz cplane caxis cwas cways ckeptWas ckeptWays ckeptPoints cnextWas cnextWays cnowWas cnowWays cto) s.heap.size = A at hD ⊢
  have hA : ∀ q : Nat, s.heap.size ≤ q → A q := fun q h => by rw [← hAe]; exact Or.inr h
  have hS : va_S A s.heap s.heap [] := va_S.rf
  have hP : va_P (dC, dI) vwCl (w_M qM q_px q_py q_pz q_plane q_axis q_was q_ways q_keptWas q_keptWays q_keptPoints q_nextWas q_nextWays q_nowWas q_nowWays q_to cI vthrown vpoints vplanes vaxes vkept vax vay vaz cpx cpy cpz cplane caxis cwas cways ckeptWas ckeptWays ckeptPoints cnextWas cnextWays cnowWas cnowWays cto) s.heap := hP
  have hl := lv_entry ([.ref qM, .int x1, .int x2, .int x3]) (n := 4) (Nat.le_of_ble_eq_true rfl)
  rw [lg_entry_eq]
  generalize (lg_sl ([.ref qM, .int x1, .int x2, .int x3]) ++ List.replicate (4 - (lg_sl ([.ref qM, .int x1, .int x2, .int x3])).length) Slot.unset).toArray = ls at hl ⊢
  have hl : lv_has ls 4 [(0, .ref qM), (1, .int x1), (2, .int x2), (3, .int x3)] := hl
  unfold f_M_point at hf
  obtain ⟨H, hH⟩ : ∃ z, z = s.heap := ⟨_, rfl⟩
  have hS : va_S A s.heap H [] := by rw [hH]; exact hS
  have hP : va_P (dC, dI) vwCl (w_M qM q_px q_py q_pz q_plane q_axis q_was q_ways q_keptWas q_keptWays q_keptPoints q_nextWas q_nextWays q_nowWas q_nowWays q_to cI vthrown vpoints vplanes vaxes vkept vax vay vaz cpx cpy cpz cplane caxis cwas cways ckeptWas ckeptWays ckeptPoints cnextWas cnextWays cnowWas cnowWays cto) H := by rw [hH]; exact hP
  refine w_heap hH ?_
  refine lv_aload_n hx hb d_M_point_0 rfl (lv_at hl 0 rfl) ?_
  refine lv_iconst (v := 0) hx hb d_M_point_1 (by decide) ?_
  refine va_put (D := (dC, dI)) (ci := 3) (v := .int 0) (ty := .int) (C := R_M) (T := T_M) (N := 23) hx hb ht in_M t_M t_M_ok n_M hown hK hP hD hS 0 rfl rfl 0 (by decide) (ht _ m_346) (fun _ h9 => h9) rfl (by decide +kernel) rfl rfl (Nat.le_of_ble_eq_true rfl) d_M_point_2 (fun H locs hP hD hS => ?_)
  have hP : va_P (dC, dI) vwCl (w_M qM q_px q_py q_pz q_plane q_axis q_was q_ways q_keptWas q_keptWays q_keptPoints q_nextWas q_nextWays q_nowWas q_nowWays q_to cI 0 vpoints vplanes vaxes vkept vax vay vaz cpx cpy cpz cplane caxis cwas cways ckeptWas ckeptWays ckeptPoints cnextWas cnextWays cnowWas cnowWays cto) H := hP
  have hD : va_D A (w_M qM q_px q_py q_pz q_plane q_axis q_was q_ways q_keptWas q_keptWays q_keptPoints q_nextWas q_nextWays q_nowWas q_nowWays q_to cI 0 vpoints vplanes vaxes vkept vax vay vaz cpx cpy cpz cplane caxis cwas cways ckeptWas ckeptWays ckeptPoints cnextWas cnextWays cnowWas cnowWays cto) := hD
  refine lv_iload_n hx hb d_M_point_5 rfl (lv_at hl 1 rfl) ?_
  obtain ⟨r1z, hfc, hf⟩ := oCall1_some hf
  have hPc := hP.sub (ws' := []) [] rfl
  refine vp_callSi (va_runS (As := [.int x1]) (rest := []) ⟨hx, hb, hml, hown, ht⟩ (c_M_isSmall l dC dI cI cJ cQ x1 r1z hfc) (va_cwS 1 ht (gS m_420 m_421 m_31 m_422) rfl rfl rfl (by decide +kernel) ⟨Nat.le_of_ble_eq_true rfl, Nat.le_of_ble_eq_true rfl⟩) (preR hPc hK hZ) rfl rfl hl.1 rfl (lv_room (Nat.le_of_ble_eq_true rfl)) d_M_point_6 ⟨Nat.le_of_ble_eq_true rfl, Nat.le_of_ble_eq_true rfl⟩).run (fun r1 hw => ?_)
  subst hw
  clear hPc hfc
  refine lv_if_eq (tgt := 36) hx hb d_M_point_9 (by decide) (fun c2 => ?_) (fun c2 => ?_)
  · have hf := oIf_t hf c2
    refine lv_iconst (v := (-1)) hx hb d_M_point_36 (by decide) ?_
    cases hf
    exact W.iret hx hb hr (fun t ht hW => ⟨⟨_, (), rfl, rfl, by rw [ht]; exact hP, hD⟩, hS.F ht⟩) hS.2.2 d_M_point_37
  · have hf := oIf_f hf c2
    refine lv_iload_n hx hb d_M_point_12 rfl (lv_at hl 2 rfl) ?_
    obtain ⟨r3z, hfc, hf⟩ := oCall1_some hf
    have hPc := hP.sub (ws' := []) [] rfl
    refine vp_callSi (va_runS (As := [.int x2]) (rest := []) ⟨hx, hb, hml, hown, ht⟩ (c_M_isSmall l dC dI cI cJ cQ x2 r3z hfc) (va_cwS 1 ht (gS m_420 m_421 m_31 m_422) rfl rfl rfl (by decide +kernel) ⟨Nat.le_of_ble_eq_true rfl, Nat.le_of_ble_eq_true rfl⟩) (preR hPc hK hZ) rfl rfl hl.1 rfl (lv_room (Nat.le_of_ble_eq_true rfl)) d_M_point_13 ⟨Nat.le_of_ble_eq_true rfl, Nat.le_of_ble_eq_true rfl⟩).run (fun r3 hw => ?_)
    subst hw
    clear hPc hfc
    refine lv_if_eq (tgt := 36) hx hb d_M_point_16 (by decide) (fun c4 => ?_) (fun c4 => ?_)
    · have hf := oIf_t hf c4
      refine lv_iconst (v := (-1)) hx hb d_M_point_36 (by decide) ?_
      cases hf
      exact W.iret hx hb hr (fun t ht hW => ⟨⟨_, (), rfl, rfl, by rw [ht]; exact hP, hD⟩, hS.F ht⟩) hS.2.2 d_M_point_37
    · have hf := oIf_f hf c4
      refine lv_iload_n hx hb d_M_point_19 rfl (lv_at hl 3 rfl) ?_
      obtain ⟨r5z, hfc, hf⟩ := oCall1_some hf
      have hPc := hP.sub (ws' := []) [] rfl
      refine vp_callSi (va_runS (As := [.int x3]) (rest := []) ⟨hx, hb, hml, hown, ht⟩ (c_M_isSmall l dC dI cI cJ cQ x3 r5z hfc) (va_cwS 1 ht (gS m_420 m_421 m_31 m_422) rfl rfl rfl (by decide +kernel) ⟨Nat.le_of_ble_eq_true rfl, Nat.le_of_ble_eq_true rfl⟩) (preR hPc hK hZ) rfl rfl hl.1 rfl (lv_room (Nat.le_of_ble_eq_true rfl)) d_M_point_20 ⟨Nat.le_of_ble_eq_true rfl, Nat.le_of_ble_eq_true rfl⟩).run (fun r5 hw => ?_)
      subst hw
      clear hPc hfc
      refine lv_if_eq (tgt := 36) hx hb d_M_point_23 (by decide) (fun c6 => ?_) (fun c6 => ?_)
      · have hf := oIf_t hf c6
        refine lv_iconst (v := (-1)) hx hb d_M_point_36 (by decide) ?_
        cases hf
        exact W.iret hx hb hr (fun t ht hW => ⟨⟨_, (), rfl, rfl, by rw [ht]; exact hP, hD⟩, hS.F ht⟩) hS.2.2 d_M_point_37
      · have hf := oIf_f hf c6
        refine lv_aload_n hx hb d_M_point_26 rfl (lv_at hl 0 rfl) ?_
        refine lv_iload_n hx hb d_M_point_27 rfl (lv_at hl 1 rfl) ?_
        refine lv_iload_n hx hb d_M_point_28 rfl (lv_at hl 2 rfl) ?_
        refine lv_iload_n hx hb d_M_point_29 rfl (lv_at hl 3 rfl) ?_
        obtain ⟨r11z, o7, o8, o9, o10, hfc, hf⟩ := oCall5_some hf
        have hPc := hP.sub (ws' := (w_M qM q_px q_py q_pz q_plane q_axis q_was q_ways q_keptWas q_keptWays q_keptPoints q_nextWas q_nextWays q_nowWas q_nowWays q_to cI 0 vpoints vplanes vaxes vkept vax vay vaz cpx cpy cpz cplane caxis cwas cways ckeptWas ckeptWays ckeptPoints cnextWas cnextWays cnowWas cnowWays cto)) [0, 1, 2, 3, 4, 5, 6, 7, 8, 9, 10, 11, 12, 13, 14, 15] rfl
        have hDc := hD.sub (ws' := (w_M qM q_px q_py q_pz q_plane q_axis q_was q_ways q_keptWas q_keptWays q_keptPoints q_nextWas q_nextWays q_nowWas q_nowWays q_to cI 0 vpoints vplanes vaxes vkept vax vay vaz cpx cpy cpz cplane caxis cwas cways ckeptWas ckeptWays ckeptPoints cnextWas cnextWays cnowWas cnowWays cto)) [0, 1, 2, 3, 4, 5, 6, 7, 8, 9, 10, 11, 12, 13, 14, 15] (by decide) rfl
        have hFc := va_free (wc := (w_M qM q_px q_py q_pz q_plane q_axis q_was q_ways q_keptWas q_keptWays q_keptPoints q_nextWas q_nextWays q_nowWas q_nowWays q_to cI 0 vpoints vplanes vaxes vkept vax vay vaz cpx cpy cpz cplane caxis cwas cways ckeptWas ckeptWays ckeptPoints cnextWas cnextWays cnowWas cnowWays cto)) hD hS hA [0, 1, 2, 3, 4, 5, 6, 7, 8, 9, 10, 11, 12, 13, 14, 15] rfl
        refine va_calli (va_runV (As := [.int x1, .int x2, .int x3]) (rest := []) ⟨hx, hb, hml, hown, ht⟩ (c_M_add l dC dI qM q_px q_py q_pz q_plane q_axis q_was q_ways q_keptWas q_keptWays q_keptPoints q_nextWas q_nextWays q_nowWas q_nowWays q_to cI cJ cQ H.size 0 vpoints vplanes vaxes vkept vax vay vaz cpx cpy cpz cplane caxis cwas cways ckeptWas ckeptWays ckeptPoints cnextWas cnextWays cnowWas cnowWays cto x1 x2 x3 r11z o7 o8 o9 o10 hfc) (cwV 3 ht (gV m_423 m_425 m_7 m_31 m_426) rfl rfl rfl (by decide +kernel) ⟨Nat.le_of_ble_eq_true rfl, Nat.le_of_ble_eq_true rfl⟩) (preMV hPc hK hZ hDc (va_recv hK hPc (ci := 3) (q0 := 0) rfl rfl)) rfl rfl hl.1 rfl (lv_room (Nat.le_of_ble_eq_true rfl)) d_M_point_30 ⟨Nat.le_of_ble_eq_true rfl, Nat.le_of_ble_eq_true rfl⟩) hS (fun q _ h => hFc q h) hFc (fun r11 u t H1 locs ht9 hvm hw hB hz1 hk1 hS => ?_)
        obtain ⟨hP1, hD1⟩ := hB
        rw [ht9] at hP1
        subst hw
        obtain ⟨hP, hD⟩ := va_join (wr := []) (w1 := (w_M qM q_px q_py q_pz q_plane q_axis q_was q_ways q_keptWas q_keptWays q_keptPoints q_nextWas q_nextWays q_nowWas q_nowWays q_to cI 0 o7 vplanes vaxes vkept vax vay vaz o8 o9 o10 cplane caxis cwas cways ckeptWas ckeptWays ckeptPoints cnextWas cnextWays cnowWas cnowWays cto)) hP hD [0, 1, 2, 3, 4, 5, 6, 7, 8, 9, 10, 11, 12, 13, 14, 15] [] rfl rfl (by decide) (by decide) hk1 hFc hP1 hD1
        have hP := hP.sub (ws' := (w_M qM q_px q_py q_pz q_plane q_axis q_was q_ways q_keptWas q_keptWays q_keptPoints q_nextWas q_nextWays q_nowWas q_nowWays q_to cI 0 o7 vplanes vaxes vkept vax vay vaz o8 o9 o10 cplane caxis cwas cways ckeptWas ckeptWays ckeptPoints cnextWas cnextWays cnowWas cnowWays cto)) [0, 1, 2, 3, 4, 5, 6, 7, 8, 9, 10, 11, 12, 13, 14, 15] rfl
        have hD := hD.sub (ws' := (w_M qM q_px q_py q_pz q_plane q_axis q_was q_ways q_keptWas q_keptWays q_keptPoints q_nextWas q_nextWays q_nowWas q_nowWays q_to cI 0 o7 vplanes vaxes vkept vax vay vaz o8 o9 o10 cplane caxis cwas cways ckeptWas ckeptWays ckeptPoints cnextWas cnextWays cnowWas cnowWays cto)) [0, 1, 2, 3, 4, 5, 6, 7, 8, 9, 10, 11, 12, 13, 14, 15] (by decide) rfl
        clear hPc hDc hFc hP1 hD1 hz1 hk1 ht9 hvm hfc
        generalize H1 = H at hP hS ⊢
        refine lv_if_ne (tgt := 38) hx hb d_M_point_33 (by decide) (fun c12 => ?_) (fun c12 => ?_)
        · have hf := oIf_f hf c12
          refine lv_aload_n hx hb d_M_point_38 rfl (lv_at hl 0 rfl) ?_
          obtain ⟨o13, o14, hfc, hf⟩ := oCall2_some hf
          have hPc := hP.sub (ws' := (w_M qM q_px q_py q_pz q_plane q_axis q_was q_ways q_keptWas q_keptWays q_keptPoints q_nextWas q_nextWays q_nowWas q_nowWays q_to cI 0 o7 vplanes vaxes vkept vax vay vaz o8 o9 o10 cplane caxis cwas cways ckeptWas ckeptWays ckeptPoints cnextWas cnextWays cnowWas cnowWays cto)) [0, 1, 2, 3, 4, 5, 6, 7, 8, 9, 10, 11, 12, 13, 14, 15] rfl
          have hDc := hD.sub (ws' := (w_M qM q_px q_py q_pz q_plane q_axis q_was q_ways q_keptWas q_keptWays q_keptPoints q_nextWas q_nextWays q_nowWas q_nowWays q_to cI 0 o7 vplanes vaxes vkept vax vay vaz o8 o9 o10 cplane caxis cwas cways ckeptWas ckeptWays ckeptPoints cnextWas cnextWays cnowWas cnowWays cto)) [0, 1, 2, 3, 4, 5, 6, 7, 8, 9, 10, 11, 12, 13, 14, 15] (by decide) rfl
          have hFc := va_free (wc := (w_M qM q_px q_py q_pz q_plane q_axis q_was q_ways q_keptWas q_keptWays q_keptPoints q_nextWas q_nextWays q_nowWas q_nowWays q_to cI 0 o7 vplanes vaxes vkept vax vay vaz o8 o9 o10 cplane caxis cwas cways ckeptWas ckeptWays ckeptPoints cnextWas cnextWays cnowWas cnowWays cto)) hD hS hA [0, 1, 2, 3, 4, 5, 6, 7, 8, 9, 10, 11, 12, 13, 14, 15] rfl
          refine va_callv (va_runV (As := []) (rest := []) ⟨hx, hb, hml, hown, ht⟩ (c_M_own l dC dI qM q_px q_py q_pz q_plane q_axis q_was q_ways q_keptWas q_keptWays q_keptPoints q_nextWas q_nextWays q_nowWas q_nowWays q_to cI cJ cQ H.size 0 o7 vplanes vaxes vkept vax vay vaz o8 o9 o10 cplane caxis cwas cways ckeptWas ckeptWays ckeptPoints cnextWas cnextWays cnowWas cnowWays cto o13 o14 hfc) (cwV 0 ht (gV m_431 m_433 m_9 m_31 m_434) rfl rfl rfl (by decide +kernel) ⟨Nat.le_of_ble_eq_true rfl, Nat.le_of_ble_eq_true rfl⟩) (preMV hPc hK hZ hDc (va_recv hK hPc (ci := 3) (q0 := 0) rfl rfl)) rfl rfl hl.1 rfl (lv_room (Nat.le_of_ble_eq_true rfl)) d_M_point_39 ⟨Nat.le_of_ble_eq_true rfl, Nat.le_of_ble_eq_true rfl⟩) hS (fun q _ h => hFc q h) hFc (fun u t H1 locs ht9 hvm hw hB hz1 hk1 hS => ?_)
          obtain ⟨hP1, hD1⟩ := hB
          rw [ht9] at hP1
          obtain ⟨hP, hD⟩ := va_join (wr := []) (w1 := (w_M qM q_px q_py q_pz q_plane q_axis q_was q_ways q_keptWas q_keptWays q_keptPoints q_nextWas q_nextWays q_nowWas q_nowWays q_to cI 0 o7 vplanes vaxes vkept vax vay vaz o8 o9 o10 cplane caxis o13 o14 ckeptWas ckeptWays ckeptPoints cnextWas cnextWays cnowWas cnowWays cto)) hP hD [0, 1, 2, 3, 4, 5, 6, 7, 8, 9, 10, 11, 12, 13, 14, 15] [] rfl rfl (by decide) (by decide) hk1 hFc hP1 hD1
          have hP := hP.sub (ws' := (w_M qM q_px q_py q_pz q_plane q_axis q_was q_ways q_keptWas q_keptWays q_keptPoints q_nextWas q_nextWays q_nowWas q_nowWays q_to cI 0 o7 vplanes vaxes vkept vax vay vaz o8 o9 o10 cplane caxis o13 o14 ckeptWas ckeptWays ckeptPoints cnextWas cnextWays cnowWas cnowWays cto)) [0, 1, 2, 3, 4, 5, 6, 7, 8, 9, 10, 11, 12, 13, 14, 15] rfl
          have hD := hD.sub (ws' := (w_M qM q_px q_py q_pz q_plane q_axis q_was q_ways q_keptWas q_keptWays q_keptPoints q_nextWas q_nextWays q_nowWas q_nowWays q_to cI 0 o7 vplanes vaxes vkept vax vay vaz o8 o9 o10 cplane caxis o13 o14 ckeptWas ckeptWays ckeptPoints cnextWas cnextWays cnowWas cnowWays cto)) [0, 1, 2, 3, 4, 5, 6, 7, 8, 9, 10, 11, 12, 13, 14, 15] (by decide) rfl
          clear hPc hDc hFc hP1 hD1 hz1 hk1 ht9 hvm hfc
          generalize H1 = H at hP hS ⊢
          refine lv_aload_n hx hb d_M_point_42 rfl (lv_at hl 0 rfl) ?_
          refine va_get (D := (dC, dI)) (ci := 3) (v := .int o7) (C := R_M) (T := T_M) (N := 23) hx hb ht in_M hown hK hP 0 rfl rfl 1 (by decide) (ht _ m_347) (fun _ h9 => h9) rfl d_M_point_43 ?_
          refine lv_iconst (v := 1) hx hb d_M_point_46 (by decide) ?_
          refine lv_isub hx hb d_M_point_47 ?_
          cases hf
          exact W.iret hx hb hr (fun t ht hW => ⟨⟨_, (), rfl, rfl, by rw [ht]; exact hP, hD⟩, hS.F ht⟩) hS.2.2 d_M_point_48
        · have hf := oIf_t hf c12
          refine lv_iconst (v := (-1)) hx hb d_M_point_36 (by decide) ?_
          cases hf
          exact W.iret hx hb hr (fun t ht hW => ⟨⟨_, (), rfl, rfl, by rw [ht]; exact hP, hD⟩, hS.F ht⟩) hS.2.2 d_M_point_37
set_option maxHeartbeats 4000000 in
set_option maxRecDepth 100000 in
theorem c_M_cube (l : Launch) (dC : Nat → ClassId) (dI : Nat → Nat → Nat) (qM q_px q_py q_pz q_plane q_axis q_was q_ways q_keptWas q_keptWays q_keptPoints q_nextWas q_nextWays q_nowWas q_nowWays q_to : Nat) (cI cJ cQ : ClassId) (sz : Nat) (vthrown : Int32) (vpoints : Int32) (vplanes : Int32) (vaxes : Int32) (vkept : Int32) (vax : Int32) (vay : Int32) (vaz : Int32) (cpx : Nat → Int32) (cpy : Nat → Int32) (cpz : Nat → Int32) (cplane : Nat → Int32) (caxis : Nat → Int32) (cwas : Nat → Int32) (cways : Nat → Int32) (ckeptWas : Nat → Int32) (ckeptWays : Nat → Int32) (ckeptPoints : Nat → Int32) (cnextWas : Nat → Int32) (cnextWays : Nat → Int32) (cnowWas : Nat → Int32) (cnowWays : Nat → Int32) (cto : Nat → Int32) (x1 : Int32) (r_ : Int32) (o_vthrown : Int32) (o_vpoints : Int32) (o_cpx : Nat → Int32) (o_cpy : Nat → Int32) (o_cpz : Nat → Int32) (o_cwas : Nat → Int32) (o_cways : Nat → Int32) (hf : f_M_cube vthrown vpoints cpx cpy cpz cwas cways x1 = some (r_, o_vthrown, o_vpoints, o_cpx, o_cpy, o_cpz, o_cwas, o_cways)) : Met l y_M_cube w_M_cube ({ frames := 2, cells := 0, slots := 0, locals := 47 }) (va_Pc [.ref qM, .int x1] (fun U => U.heap.size = sz ∧ va_P (dC, dI) vwCl (w_M qM q_px q_py q_pz q_plane q_axis q_was q_ways q_keptWas q_keptWays q_keptPoints q_nextWas q_nextWays q_nowWas q_nowWays q_to cI vthrown vpoints vplanes vaxes vkept vax vay vaz cpx cpy cpz cplane caxis cwas cways ckeptWas ckeptWays ckeptPoints cnextWas cnextWays cnowWas cnowWays cto) U.heap ∧ va_K (dC, dI) vwCl [(cI, .int), (cJ, .long), (cQ, .object "CutBodies$Contents")] U ∧ nestZ U ∧ va_D (fun _ => True) (w_M qM q_px q_py q_pz q_plane q_axis q_was q_ways q_keptWas q_keptWays q_keptPoints q_nextWas q_nextWays q_nowWas q_nowWays q_to cI vthrown vpoints vplanes vaxes vkept vax vay vaz cpx cpy cpz cplane caxis cwas cways ckeptWas ckeptWays ckeptPoints cnextWas cnextWays cnowWas cnowWays cto))) (va_Qi (fun (r9 : Int32) (_ : Unit) => r9 = r_) (fun _ t => va_P (dC, dI) vwCl (w_M qM q_px q_py q_pz q_plane q_axis q_was q_ways q_keptWas q_keptWays q_keptPoints q_nextWas q_nextWays q_nowWas q_nowWays q_to cI o_vthrown o_vpoints vplanes vaxes vkept vax vay vaz o_cpx o_cpy o_cpz cplane caxis o_cwas o_cways ckeptWas ckeptWays ckeptPoints cnextWas cnextWays cnowWas cnowWays cto) t.heap ∧ va_D (va_A (w_M qM q_px q_py q_pz q_plane q_axis q_was q_ways q_keptWas q_keptWays q_keptPoints q_nextWas q_nextWays q_nowWas q_nowWays q_to cI vthrown vpoints vplanes vaxes vkept vax vay vaz cpx cpy cpz cplane caxis cwas cways ckeptWas ckeptWays ckeptPoints cnextWas cnextWays cnowWas cnowWays cto) sz) (w_M qM q_px q_py q_pz q_plane q_axis q_was q_ways q_keptWas q_keptWays q_keptPoints q_nextWas q_nextWays q_nowWas q_nowWays q_to cI o_vthrown o_vpoints vplanes vaxes vkept vax vay vaz o_cpx o_cpy o_cpz cplane caxis o_cwas o_cways ckeptWas ckeptWays ckeptPoints cnextWas cnextWays cnowWas cnowWays cto)) (va_A (w_M qM q_px q_py q_pz q_plane q_axis q_was q_ways q_keptWas q_keptWays q_keptPoints q_nextWas q_nextWays q_nowWas q_nowWays q_to cI vthrown vpoints vplanes vaxes vkept vax vay vaz cpx cpy cpz cplane caxis cwas cways ckeptWas ckeptWays ckeptPoints cnextWas cnextWays cnowWas cnowWays cto) sz)) 0 0 (va_A (w_M qM q_px q_py q_pz q_plane q_axis q_was q_ways q_keptWas q_keptWays q_keptPoints q_nextWas q_nextWays q_nowWas q_nowWays q_to cI vthrown vpoints vplanes vaxes vkept vax vay vaz cpx cpy cpz cplane caxis cwas cways ckeptWas ckeptWays ckeptPoints cnextWas cnextWays cnowWas cnowWays cto) sz) := by
  refine Met.ofW (cc := b_M_cube) (maxL := 6) (ret := (some .int)) (by decide) rfl ?_
  intro p e s m args below meth c s₁ B hml hv
  obtain ⟨rfl, hsz, hP, hK, hZ, hD0⟩ := hv
  have hx := B.exec
  have hb := B.bytes
  have hr := B.returns
  have hts := atoms_spec (ws := w_M_cube) B.pre
  have ht : ∀ w ∈ wAll, w.before _ s = true := fun w h => hts w (List.mem_cons_of_mem _ h)
  have hown : s.vm.findClass R_M = some m.cls := findClass_of_methodNamed B.named
  have hlocks := B.notSynchronized
  subst hsz
  have hD := hD0.self (sz := s.heap.size)
  generalize hAe : va_A (w_M qM q_px q_py q_pz q_plane q_axis q_was q_ways q_keptWas q_keptWays q_keptPoints q_nextWas q_nextWays q_nowWas q_nowWays q_to cI vthrown vpoints vplanes vaxes vkept vax vay vaz cpx cpy cpz cplane caxis cwas cways ckeptWas ckeptWays ckeptPoints cnextWas cnextWays cnowWas cnowWays cto) s.heap.size = A at hD ⊢
  have hA : ∀ q : Nat, s.heap.size ≤ q → A q := fun q h => by rw [← hAe]; exact Or.inr h
  have hS : va_S A s.heap s.heap [] := va_S.rf
  have hP : va_P (dC, dI) vwCl (w_M qM q_px q_py q_pz q_plane q_axis q_was q_ways q_keptWas q_keptWays q_keptPoints q_nextWas q_nextWays q_nowWas q_nowWays q_to cI vthrown vpoints vplanes vaxes vkept vax vay vaz cpx cpy cpz cplane caxis cwas cways ckeptWas ckeptWays ckeptPoints cnextWas cnextWays cnowWas cnowWays cto) s.heap := hP
  have hl := lv_entry ([.ref qM, .int x1]) (n := 6) (Nat.le_of_ble_eq_true rfl)
  rw [lg_entry_eq]
  generalize (lg_sl ([.ref qM, .int x1]) ++ List.replicate (6 - (lg_sl ([.ref qM, .int x1])).length) Slot.unset).toArray = ls at hl ⊢
  have hl : lv_has ls 6 [(0, .ref qM), (1, .int x1)] := hl
  refine w_abs (fun Wx toX ofX => ?_)
  have K21 : ∀ (x1 : Int32) (vthrown : Int32) (cwas : Nat → Int32) (cways : Nat → Int32) (n : Nat) (x2 : Int32) (x3 : Int32) (vpoints : Int32) (cpx : Nat → Int32) (cpy : Nat → Int32) (cpz : Nat → Int32) (H : Heap) (locs : List Loc) (ls : Array Slot), oLoop6 (f_M_cube_L21  x1 vthrown cwas cways) n x2 x3 vpoints cpx cpy cpz = some (r_, o_vthrown, o_vpoints, o_cpx, o_cpy, o_cpz, o_cwas, o_cways) → va_P (dC, dI) vwCl (w_M qM q_px q_py q_pz q_plane q_axis q_was q_ways q_keptWas q_keptWays q_keptPoints q_nextWas q_nextWays q_nowWas q_nowWays q_to cI vthrown vpoints vplanes vaxes vkept vax vay vaz cpx cpy cpz cplane caxis cwas cways ckeptWas ckeptWays ckeptPoints cnextWas cnextWays cnowWas cnowWays cto) H → va_D A (w_M qM q_px q_py q_pz q_plane q_axis q_was q_ways q_keptWas q_keptWays q_keptPoints q_nextWas q_nextWays q_nowWas q_nowWays q_to cI vthrown vpoints vplanes vaxes vkept vax vay vaz cpx cpy cpz cplane caxis cwas cways ckeptWas ckeptWays ckeptPoints cnextWas cnextWays cnowWas cnowWays cto) → va_S A s.heap H locs → lv_has ls 6 [(0, .ref qM), (1, .int x1), (2, .int x2), (3, .int x3)] → Wx H locs 0 0 (F0 m 21 ls []) := by
    intro x1 vthrown cwas cways n
    induction n with
    | zero => intro x2 x3 vpoints cpx cpy cpz H locs ls hf; exact (oLoop6_0 hf).elim
    | succ n ih21 =>
      obtain ⟨rec21, hrec21⟩ : ∃ z, z = oLoop6 (f_M_cube_L21  x1 vthrown cwas cways) n := ⟨_, rfl⟩
      rw [← hrec21] at ih21
      have K30 : ∀ (x3 : Int32) (n : Nat) (x2 : Int32) (x4 : Int32) (vpoints : Int32) (cpx : Nat → Int32) (cpy : Nat → Int32) (cpz : Nat → Int32) (H : Heap) (locs : List Loc) (ls : Array Slot), oLoop6 (f_M_cube_L30 rec21 x1 vthrown cwas cways x3) n x2 x4 vpoints cpx cpy cpz = some (r_, o_vthrown, o_vpoints, o_cpx, o_cpy, o_cpz, o_cwas, o_cways) → va_P (dC, dI) vwCl (w_M qM q_px q_py q_pz q_plane q_axis q_was q_ways q_keptWas q_keptWays q_keptPoints q_nextWas q_nextWays q_nowWas q_nowWays q_to cI vthrown vpoints vplanes vaxes vkept vax vay vaz cpx cpy cpz cplane caxis cwas cways ckeptWas ckeptWays ckeptPoints cnextWas cnextWays cnowWas cnowWays cto) H → va_D A (w_M qM q_px q_py q_pz q_plane q_axis q_was q_ways q_keptWas q_keptWays q_keptPoints q_nextWas q_nextWays q_nowWas q_nowWays q_to cI vthrown vpoints vplanes vaxes vkept vax vay vaz cpx cpy cpz cplane caxis cwas cways ckeptWas ckeptWays ckeptPoints cnextWas cnextWays cnowWas cnowWays cto) → va_S A s.heap H locs → lv_has ls 6 [(0, .ref qM), (1, .int x1), (2, .int x2), (3, .int x3), (4, .int x4)] → Wx H locs 0 0 (F0 m 30 ls []) := by
        intro x3 n
        induction n with
        | zero => intro x2 x4 vpoints cpx cpy cpz H locs ls hf; exact (oLoop6_0 hf).elim
        | succ n ih30 =>
          obtain ⟨rec30, hrec30⟩ : ∃ z, z = oLoop6 (f_M_cube_L30 rec21 x1 vthrown cwas cways x3) n := ⟨_, rfl⟩
          rw [← hrec30] at ih30
          have K40 : ∀ (x4 : Int32) (n : Nat) (x2 : Int32) (x5 : Int32) (vpoints : Int32) (cpx : Nat → Int32) (cpy : Nat → Int32) (cpz : Nat → Int32) (H : Heap) (locs : List Loc) (ls : Array Slot), oLoop6 (f_M_cube_L40 rec21 rec30 x1 x3 vthrown cwas cways x4) n x2 x5 vpoints cpx cpy cpz = some (r_, o_vthrown, o_vpoints, o_cpx, o_cpy, o_cpz, o_cwas, o_cways) → va_P (dC, dI) vwCl (w_M qM q_px q_py q_pz q_plane q_axis q_was q_ways q_keptWas q_keptWays q_keptPoints q_nextWas q_nextWays q_nowWas q_nowWays q_to cI vthrown vpoints vplanes vaxes vkept vax vay vaz cpx cpy cpz cplane caxis cwas cways ckeptWas ckeptWays ckeptPoints cnextWas cnextWays cnowWas cnowWays cto) H → va_D A (w_M qM q_px q_py q_pz q_plane q_axis q_was q_ways q_keptWas q_keptWays q_keptPoints q_nextWas q_nextWays q_nowWas q_nowWays q_to cI vthrown vpoints vplanes vaxes vkept vax vay vaz cpx cpy cpz cplane caxis cwas cways ckeptWas ckeptWays ckeptPoints cnextWas cnextWays cnowWas cnowWays cto) → va_S A s.heap H locs → lv_has ls 6 [(0, .ref qM), (1, .int x1), (2, .int x2), (3, .int x3), (4, .int x4), (5, .int x5)] → Wx H locs 0 0 (F0 m 40 ls []) := by
            intro x4 n
            induction n with
            | zero => intro x2 x5 vpoints cpx cpy cpz H locs ls hf; exact (oLoop6_0 hf).elim
            | succ n ih40 =>
              obtain ⟨rec40, hrec40⟩ : ∃ z, z = oLoop6 (f_M_cube_L40 rec21 rec30 x1 x3 vthrown cwas cways x4) n := ⟨_, rfl⟩
              rw [← hrec40] at ih40
              have K64 : ∀ (x5 : Int32) (t0 : Int32) (t1 : Int32) (vpoints : Int32) (cpx : Nat → Int32) (cpy : Nat → Int32) (cpz : Nat → Int32) (H : Heap) (locs : List Loc) (ls : Array Slot), f_M_cube_J64 rec21 rec30 rec40 x1 x3 x4 vthrown cwas cways x5 t0 t1 vpoints cpx cpy cpz = some (r_, o_vthrown, o_vpoints, o_cpx, o_cpy, o_cpz, o_cwas, o_cways) → va_P (dC, dI) vwCl (w_M qM q_px q_py q_pz q_plane q_axis q_was q_ways q_keptWas q_keptWays q_keptPoints q_nextWas q_nextWays q_nowWas q_nowWays q_to cI vthrown vpoints vplanes vaxes vkept vax vay vaz cpx cpy cpz cplane caxis cwas cways ckeptWas ckeptWays ckeptPoints cnextWas cnextWays cnowWas cnowWays cto) H → va_D A (w_M qM q_px q_py q_pz q_plane q_axis q_was q_ways q_keptWas q_keptWays q_keptPoints q_nextWas q_nextWays q_nowWas q_nowWays q_to cI vthrown vpoints vplanes vaxes vkept vax vay vaz cpx cpy cpz cplane caxis cwas cways ckeptWas ckeptWays ckeptPoints cnextWas cnextWays cnowWas cnowWays cto) → va_S A s.heap H locs → lv_has ls 6 [(0, .ref qM), (1, .int x1), (3, .int x3), (4, .int x4), (5, .int x5)] → Wx H locs 0 0 (F0 m 64 ls [.int t1, .int t0]) := by
                intro x5 t0 t1 vpoints cpx cpy cpz H locs ls hf hP hD hS hl
                refine toX _ _ _ _ _ ?_
                unfold f_M_cube_J64 at hf
                refine lv_iadd hx hb d_M_cube_64 ?_
                refine lv_topi (fun v1 ev1 => ?_)
                have hf := oLet_some hf ev1
                refine lv_istore_n (lv' := [(2, .int v1), (0, .ref qM), (1, .int x1), (3, .int x3), (4, .int x4), (5, .int x5)]) hx hb d_M_cube_65 rfl hl (by decide) rfl (fun ls hl => ?_)
                obtain ⟨v2, ev2, hf⟩ := oLet_ex hf
                refine lv_iinc (v := v2) (lv' := [(5, .int v2), (2, .int v1), (0, .ref qM), (1, .int x1), (3, .int x3), (4, .int x4)]) hx hb d_M_cube_66 hl (k := 5) rfl (by rw [ev2]; rfl) (by decide) rfl (fun ls hl => ?_)
                refine lv_goto (tgt := 40) hx hb d_M_cube_69 (by decide) ?_
                exact ofX _ _ _ _ _ (ih40 v1 v2 vpoints cpx cpy cpz _ _ _ hf hP hD hS (lv_sub hl [2, 3, 1, 4, 5, 0] rfl))
              intro x2 x5 vpoints cpx cpy cpz H locs ls hf hP hD hS hl
              refine toX _ _ _ _ _ ?_
              have hf := oLoop6_s hf
              rw [← hrec40] at hf
              unfold f_M_cube_L40 at hf
              refine lv_iload hx hb d_M_cube_40 (lv_at hl 5 rfl) ?_
              refine lv_iload_n hx hb d_M_cube_42 rfl (lv_at hl 1 rfl) ?_
              refine lv_icmp_gt (tgt := 72) hx hb d_M_cube_43 (by decide) (fun c3 => ?_) (fun c3 => ?_)
              · have hf := oIf_t hf c3
                obtain ⟨v4, ev4, hf⟩ := oLet_ex hf
                refine lv_iinc (v := v4) (lv' := [(4, .int v4), (0, .ref qM), (1, .int x1), (2, .int x2), (3, .int x3), (5, .int x5)]) hx hb d_M_cube_72 hl (k := 4) rfl (by rw [ev4]; rfl) (by decide) rfl (fun ls hl => ?_)
                refine lv_goto (tgt := 30) hx hb d_M_cube_75 (by decide) ?_
                exact ofX _ _ _ _ _ (ih30 x2 v4 vpoints cpx cpy cpz _ _ _ hf hP hD hS (lv_sub hl [1, 2, 3, 4, 0] rfl))
              · have hf := oIf_f hf c3
                refine lv_iload_n hx hb d_M_cube_46 rfl (lv_at hl 2 rfl) ?_
                refine lv_aload_n hx hb d_M_cube_47 rfl (lv_at hl 0 rfl) ?_
                refine lv_iload_n hx hb d_M_cube_48 rfl (lv_at hl 3 rfl) ?_
                refine lv_iload hx hb d_M_cube_49 (lv_at hl 4 rfl) ?_
                refine lv_iload hx hb d_M_cube_51 (lv_at hl 5 rfl) ?_
                obtain ⟨r9z, o5, o6, o7, o8, hfc, hf⟩ := oCall5_some hf
                have hPc := hP.sub (ws' := (w_M qM q_px q_py q_pz q_plane q_axis q_was q_ways q_keptWas q_keptWays q_keptPoints q_nextWas q_nextWays q_nowWas q_nowWays q_to cI vthrown vpoints vplanes vaxes vkept vax vay vaz cpx cpy cpz cplane caxis cwas cways ckeptWas ckeptWays ckeptPoints cnextWas cnextWays cnowWas cnowWays cto)) [0, 1, 2, 3, 4, 5, 6, 7, 8, 9, 10, 11, 12, 13, 14, 15] rfl
                have hDc := hD.sub (ws' := (w_M qM q_px q_py q_pz q_plane q_axis q_was q_ways q_keptWas q_keptWays q_keptPoints q_nextWas q_nextWays q_nowWas q_nowWays q_to cI vthrown vpoints vplanes vaxes vkept vax vay vaz cpx cpy cpz cplane caxis cwas cways ckeptWas ckeptWays ckeptPoints cnextWas cnextWays cnowWas cnowWays cto)) [0, 1, 2, 3, 4, 5, 6, 7, 8, 9, 10, 11, 12, 13, 14, 15] (by decide) rfl
                have hFc := va_free (wc := (w_M qM q_px q_py q_pz q_plane q_axis q_was q_ways q_keptWas q_keptWays q_keptPoints q_nextWas q_nextWays q_nowWas q_nowWays q_to cI vthrown vpoints vplanes vaxes vkept vax vay vaz cpx cpy cpz cplane caxis cwas cways ckeptWas ckeptWays ckeptPoints cnextWas cnextWays cnowWas cnowWays cto)) hD hS hA [0, 1, 2, 3, 4, 5, 6, 7, 8, 9, 10, 11, 12, 13, 14, 15] rfl
                refine va_calli (va_runV (As := [.int x3, .int x4, .int x5]) (rest := [.int x2]) ⟨hx, hb, hml, hown, ht⟩ (c_M_add l dC dI qM q_px q_py q_pz q_plane q_axis q_was q_ways q_keptWas q_keptWays q_keptPoints q_nextWas q_nextWays q_nowWas q_nowWays q_to cI cJ cQ H.size vthrown vpoints vplanes vaxes vkept vax vay vaz cpx cpy cpz cplane caxis cwas cways ckeptWas ckeptWays ckeptPoints cnextWas cnextWays cnowWas cnowWays cto x3 x4 x5 r9z o5 o6 o7 o8 hfc) (cwV 3 ht (gV m_423 m_425 m_7 m_31 m_426) rfl rfl rfl (by decide +kernel) ⟨Nat.le_of_ble_eq_true rfl, Nat.le_of_ble_eq_true rfl⟩) (preMV hPc hK hZ hDc (va_recv hK hPc (ci := 3) (q0 := 0) rfl rfl)) rfl rfl hl.1 rfl (lv_room (Nat.le_of_ble_eq_true rfl)) d_M_cube_53 ⟨Nat.le_of_ble_eq_true rfl, Nat.le_of_ble_eq_true rfl⟩) hS (fun q _ h => hFc q h) hFc (fun r9 u t H1 locs ht9 hvm hw hB hz1 hk1 hS => ?_)
                obtain ⟨hP1, hD1⟩ := hB
                rw [ht9] at hP1
                subst hw
                obtain ⟨hP, hD⟩ := va_join (wr := []) (w1 := (w_M qM q_px q_py q_pz q_plane q_axis q_was q_ways q_keptWas q_keptWays q_keptPoints q_nextWas q_nextWays q_nowWas q_nowWays q_to cI vthrown o5 vplanes vaxes vkept vax vay vaz o6 o7 o8 cplane caxis cwas cways ckeptWas ckeptWays ckeptPoints cnextWas cnextWays cnowWas cnowWays cto)) hP hD [0, 1, 2, 3, 4, 5, 6, 7, 8, 9, 10, 11, 12, 13, 14, 15] [] rfl rfl (by decide) (by decide) hk1 hFc hP1 hD1
                have hP := hP.sub (ws' := (w_M qM q_px q_py q_pz q_plane q_axis q_was q_ways q_keptWas q_keptWays q_keptPoints q_nextWas q_nextWays q_nowWas q_nowWays q_to cI vthrown o5 vplanes vaxes vkept vax vay vaz o6 o7 o8 cplane caxis cwas cways ckeptWas ckeptWays ckeptPoints cnextWas cnextWays cnowWas cnowWays cto)) [0, 1, 2, 3, 4, 5, 6, 7, 8, 9, 10, 11, 12, 13, 14, 15] rfl
                have hD := hD.sub (ws' := (w_M qM q_px q_py q_pz q_plane q_axis q_was q_ways q_keptWas q_keptWays q_keptPoints q_nextWas q_nextWays q_nowWas q_nowWays q_to cI vthrown o5 vplanes vaxes vkept vax vay vaz o6 o7 o8 cplane caxis cwas cways ckeptWas ckeptWays ckeptPoints cnextWas cnextWays cnowWas cnowWays cto)) [0, 1, 2, 3, 4, 5, 6, 7, 8, 9, 10, 11, 12, 13, 14, 15] (by decide) rfl
                clear hPc hDc hFc hP1 hD1 hz1 hk1 ht9 hvm hfc
                generalize H1 = H at hP hS ⊢
                refine lv_if_eq (tgt := 63) hx hb d_M_cube_56 (by decide) (fun c10 => ?_) (fun c10 => ?_)
                · have hf := oIf_t hf c10
                  refine lv_iconst (v := 0) hx hb d_M_cube_63 (by decide) ?_
                  exact ofX _ _ _ _ _ (K64  x5 x2 0 o5 o6 o7 o8 _ _ _ hf hP hD hS (lv_sub hl [0, 1, 3, 4, 5] rfl))
                · have hf := oIf_f hf c10
                  refine lv_iconst (v := 1) hx hb d_M_cube_59 (by decide) ?_
                  refine lv_goto (tgt := 64) hx hb d_M_cube_60 (by decide) ?_
                  exact ofX _ _ _ _ _ (K64  x5 x2 1 o5 o6 o7 o8 _ _ _ hf hP hD hS (lv_sub hl [0, 1, 3, 4, 5] rfl))
          intro x2 x4 vpoints cpx cpy cpz H locs ls hf hP hD hS hl
          refine toX _ _ _ _ _ ?_
          have hf := oLoop6_s hf
          rw [← hrec30] at hf
          unfold f_M_cube_L30 at hf
          refine lv_iload hx hb d_M_cube_30 (lv_at hl 4 rfl) ?_
          refine lv_iload_n hx hb d_M_cube_32 rfl (lv_at hl 1 rfl) ?_
          refine lv_icmp_gt (tgt := 78) hx hb d_M_cube_33 (by decide) (fun c11 => ?_) (fun c11 => ?_)
          · have hf := oIf_t hf c11
            obtain ⟨v12, ev12, hf⟩ := oLet_ex hf
            refine lv_iinc (v := v12) (lv' := [(3, .int v12), (0, .ref qM), (1, .int x1), (2, .int x2), (4, .int x4)]) hx hb d_M_cube_78 hl (k := 3) rfl (by rw [ev12]; rfl) (by decide) rfl (fun ls hl => ?_)
            refine lv_goto (tgt := 21) hx hb d_M_cube_81 (by decide) ?_
            exact ofX _ _ _ _ _ (ih21 x2 v12 vpoints cpx cpy cpz _ _ _ hf hP hD hS (lv_sub hl [1, 2, 3, 0] rfl))
          · have hf := oIf_f hf c11
            refine lv_iload_n hx hb d_M_cube_36 rfl (lv_at hl 1 rfl) ?_
            refine lv_ineg hx hb d_M_cube_37 ?_
            refine lv_topi (fun v13 ev13 => ?_)
            have hf := oLet_some hf ev13
            refine lv_istore (lv' := [(5, .int v13), (0, .ref qM), (1, .int x1), (2, .int x2), (3, .int x3), (4, .int x4)]) hx hb d_M_cube_38 hl (by decide) rfl (fun ls hl => ?_)
            exact ofX _ _ _ _ _ (K40 x4 _ x2 v13 vpoints cpx cpy cpz _ _ _ hf hP hD hS (lv_sub hl [1, 2, 3, 4, 5, 0] rfl))
      intro x2 x3 vpoints cpx cpy cpz H locs ls hf hP hD hS hl
      refine toX _ _ _ _ _ ?_
      have hf := oLoop6_s hf
      rw [← hrec21] at hf
      unfold f_M_cube_L21 at hf
      refine lv_iload_n hx hb d_M_cube_21 rfl (lv_at hl 3 rfl) ?_
      refine lv_iload_n hx hb d_M_cube_22 rfl (lv_at hl 1 rfl) ?_
      refine lv_icmp_gt (tgt := 84) hx hb d_M_cube_23 (by decide) (fun c14 => ?_) (fun c14 => ?_)
      · have hf := oIf_t hf c14
        refine lv_aload_n hx hb d_M_cube_84 rfl (lv_at hl 0 rfl) ?_
        obtain ⟨o15, o16, hfc, hf⟩ := oCall2_some hf
        have hPc := hP.sub (ws' := (w_M qM q_px q_py q_pz q_plane q_axis q_was q_ways q_keptWas q_keptWays q_keptPoints q_nextWas q_nextWays q_nowWas q_nowWays q_to cI vthrown vpoints vplanes vaxes vkept vax vay vaz cpx cpy cpz cplane caxis cwas cways ckeptWas ckeptWays ckeptPoints cnextWas cnextWays cnowWas cnowWays cto)) [0, 1, 2, 3, 4, 5, 6, 7, 8, 9, 10, 11, 12, 13, 14, 15] rfl
        have hDc := hD.sub (ws' := (w_M qM q_px q_py q_pz q_plane q_axis q_was q_ways q_keptWas q_keptWays q_keptPoints q_nextWas q_nextWays q_nowWas q_nowWays q_to cI vthrown vpoints vplanes vaxes vkept vax vay vaz cpx cpy cpz cplane caxis cwas cways ckeptWas ckeptWays ckeptPoints cnextWas cnextWays cnowWas cnowWays cto)) [0, 1, 2, 3, 4, 5, 6, 7, 8, 9, 10, 11, 12, 13, 14, 15] (by decide) rfl
        have hFc := va_free (wc := (w_M qM q_px q_py q_pz q_plane q_axis q_was q_ways q_keptWas q_keptWays q_keptPoints q_nextWas q_nextWays q_nowWas q_nowWays q_to cI vthrown vpoints vplanes vaxes vkept vax vay vaz cpx cpy cpz cplane caxis cwas cways ckeptWas ckeptWays ckeptPoints cnextWas cnextWays cnowWas cnowWays cto)) hD hS hA [0, 1, 2, 3, 4, 5, 6, 7, 8, 9, 10, 11, 12, 13, 14, 15] rfl
        refine va_callv (va_runV (As := []) (rest := []) ⟨hx, hb, hml, hown, ht⟩ (c_M_own l dC dI qM q_px q_py q_pz q_plane q_axis q_was q_ways q_keptWas q_keptWays q_keptPoints q_nextWas q_nextWays q_nowWas q_nowWays q_to cI cJ cQ H.size vthrown vpoints vplanes vaxes vkept vax vay vaz cpx cpy cpz cplane caxis cwas cways ckeptWas ckeptWays ckeptPoints cnextWas cnextWays cnowWas cnowWays cto o15 o16 hfc) (cwV 0 ht (gV m_431 m_433 m_9 m_31 m_434) rfl rfl rfl (by decide +kernel) ⟨Nat.le_of_ble_eq_true rfl, Nat.le_of_ble_eq_true rfl⟩) (preMV hPc hK hZ hDc (va_recv hK hPc (ci := 3) (q0 := 0) rfl rfl)) rfl rfl hl.1 rfl (lv_room (Nat.le_of_ble_eq_true rfl)) d_M_cube_85 ⟨Nat.le_of_ble_eq_true rfl, Nat.le_of_ble_eq_true rfl⟩) hS (fun q _ h => hFc q h) hFc (fun u t H1 locs ht9 hvm hw hB hz1 hk1 hS => ?_)
        obtain ⟨hP1, hD1⟩ := hB
        rw [ht9] at hP1
        obtain ⟨hP, hD⟩ := va_join (wr := []) (w1 := (w_M qM q_px q_py q_pz q_plane q_axis q_was q_ways q_keptWas q_keptWays q_keptPoints q_nextWas q_nextWays q_nowWas q_nowWays q_to cI vthrown vpoints vplanes vaxes vkept vax vay vaz cpx cpy cpz cplane caxis o15 o16 ckeptWas ckeptWays ckeptPoints cnextWas cnextWays cnowWas cnowWays cto)) hP hD [0, 1, 2, 3, 4, 5, 6, 7, 8, 9, 10, 11, 12, 13, 14, 15] [] rfl rfl (by decide) (by decide) hk1 hFc hP1 hD1
        have hP := hP.sub (ws' := (w_M qM q_px q_py q_pz q_plane q_axis q_was q_ways q_keptWas q_keptWays q_keptPoints q_nextWas q_nextWays q_nowWas q_nowWays q_to cI vthrown vpoints vplanes vaxes vkept vax vay vaz cpx cpy cpz cplane caxis o15 o16 ckeptWas ckeptWays ckeptPoints cnextWas cnextWays cnowWas cnowWays cto)) [0, 1, 2, 3, 4, 5, 6, 7, 8, 9, 10, 11, 12, 13, 14, 15] rfl
        have hD := hD.sub (ws' := (w_M qM q_px q_py q_pz q_plane q_axis q_was q_ways q_keptWas q_keptWays q_keptPoints q_nextWas q_nextWays q_nowWas q_nowWays q_to cI vthrown vpoints vplanes vaxes vkept vax vay vaz cpx cpy cpz cplane caxis o15 o16 ckeptWas ckeptWays ckeptPoints cnextWas cnextWays cnowWas cnowWays cto)) [0, 1, 2, 3, 4, 5, 6, 7, 8, 9, 10, 11, 12, 13, 14, 15] (by decide) rfl
        clear hPc hDc hFc hP1 hD1 hz1 hk1 ht9 hvm hfc
        generalize H1 = H at hP hS ⊢
        refine lv_iload_n hx hb d_M_cube_88 rfl (lv_at hl 2 rfl) ?_
        cases hf
        exact W.iret hx hb hr (fun t ht hW => ⟨⟨_, (), rfl, rfl, by rw [ht]; exact hP, hD⟩, hS.F ht⟩) hS.2.2 d_M_cube_89
      · have hf := oIf_f hf c14
        refine lv_iload_n hx hb d_M_cube_26 rfl (lv_at hl 1 rfl) ?_
        refine lv_ineg hx hb d_M_cube_27 ?_
        refine lv_topi (fun v17 ev17 => ?_)
        have hf := oLet_some hf ev17
        refine lv_istore (lv' := [(4, .int v17), (0, .ref qM), (1, .int x1), (2, .int x2), (3, .int x3)]) hx hb d_M_cube_28 hl (by decide) rfl (fun ls hl => ?_)
        exact ofX _ _ _ _ _ (K30 x3 _ x2 v17 vpoints cpx cpy cpz _ _ _ hf hP hD hS (lv_sub hl [1, 2, 3, 4, 0] rfl))
  refine toX _ _ _ _ _ ?_
  unfold f_M_cube at hf
  obtain ⟨H, hH⟩ : ∃ z, z = s.heap := ⟨_, rfl⟩
  have hS : va_S A s.heap H [] := by rw [hH]; exact hS
  have hP : va_P (dC, dI) vwCl (w_M qM q_px q_py q_pz q_plane q_axis q_was q_ways q_keptWas q_keptWays q_keptPoints q_nextWas q_nextWays q_nowWas q_nowWays q_to cI vthrown vpoints vplanes vaxes vkept vax vay vaz cpx cpy cpz cplane caxis cwas cways ckeptWas ckeptWays ckeptPoints cnextWas cnextWays cnowWas cnowWays cto) H := by rw [hH]; exact hP
  refine w_heap hH ?_
  refine lv_aload_n hx hb d_M_cube_0 rfl (lv_at hl 0 rfl) ?_
  refine lv_iconst (v := 0) hx hb d_M_cube_1 (by decide) ?_
  refine va_put (D := (dC, dI)) (ci := 3) (v := .int 0) (ty := .int) (C := R_M) (T := T_M) (N := 23) hx hb ht in_M t_M t_M_ok n_M hown hK hP hD hS 0 rfl rfl 0 (by decide) (ht _ m_346) (fun _ h9 => h9) rfl (by decide +kernel) rfl rfl (Nat.le_of_ble_eq_true rfl) d_M_cube_2 (fun H locs hP hD hS => ?_)
  have hP : va_P (dC, dI) vwCl (w_M qM q_px q_py q_pz q_plane q_axis q_was q_ways q_keptWas q_keptWays q_keptPoints q_nextWas q_nextWays q_nowWas q_nowWays q_to cI 0 vpoints vplanes vaxes vkept vax vay vaz cpx cpy cpz cplane caxis cwas cways ckeptWas ckeptWays ckeptPoints cnextWas cnextWays cnowWas cnowWays cto) H := hP
  have hD : va_D A (w_M qM q_px q_py q_pz q_plane q_axis q_was q_ways q_keptWas q_keptWays q_keptPoints q_nextWas q_nextWays q_nowWas q_nowWays q_to cI 0 vpoints vplanes vaxes vkept vax vay vaz cpx cpy cpz cplane caxis cwas cways ckeptWas ckeptWays ckeptPoints cnextWas cnextWays cnowWas cnowWays cto) := hD
  refine lv_iload_n hx hb d_M_cube_5 rfl (lv_at hl 1 rfl) ?_
  refine lv_if_lt (tgt := 14) hx hb d_M_cube_6 (by decide) (fun c18 => ?_) (fun c18 => ?_)
  · have hf := oIf_t hf c18
    refine lv_iconst (v := (-1)) hx hb d_M_cube_14 (by decide) ?_
    cases hf
    exact W.iret hx hb hr (fun t ht hW => ⟨⟨_, (), rfl, rfl, by rw [ht]; exact hP, hD⟩, hS.F ht⟩) hS.2.2 d_M_cube_15
  · have hf := oIf_f hf c18
    refine lv_iload_n hx hb d_M_cube_9 rfl (lv_at hl 1 rfl) ?_
    refine lv_iconst (v := 2) hx hb d_M_cube_10 (by decide) ?_
    refine lv_icmp_le (tgt := 16) hx hb d_M_cube_11 (by decide) (fun c19 => ?_) (fun c19 => ?_)
    · have hf := oIf_t hf c19
      refine lv_iconst (v := 0) hx hb d_M_cube_16 (by decide) ?_
      refine lv_istore_n (lv' := [(2, .int 0), (0, .ref qM), (1, .int x1)]) hx hb d_M_cube_17 rfl hl (by decide) rfl (fun ls hl => ?_)
      refine lv_iload_n hx hb d_M_cube_18 rfl (lv_at hl 2 rfl) ?_
      refine lv_ineg hx hb d_M_cube_19 ?_
      refine lv_topi (fun v20 ev20 => ?_)
      have hf := oLet_some hf ev20
      refine lv_istore_n (lv' := [(3, .int v20), (2, .int 0), (0, .ref qM), (1, .int x1)]) hx hb d_M_cube_20 rfl hl (by decide) rfl (fun ls hl => ?_)
      exact ofX _ _ _ _ _ (K21 x1 0 cwas cways _ 0 v20 vpoints cpx cpy cpz _ _ _ hf hP hD hS (lv_sub hl [2, 3, 1, 0] rfl))
    · have hf := oIf_f hf c19
      refine lv_iconst (v := (-1)) hx hb d_M_cube_14 (by decide) ?_
      cases hf
      exact W.iret hx hb hr (fun t ht hW => ⟨⟨_, (), rfl, rfl, by rw [ht]; exact hP, hD⟩, hS.F ht⟩) hS.2.2 d_M_cube_15

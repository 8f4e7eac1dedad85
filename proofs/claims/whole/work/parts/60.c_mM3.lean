set_option maxHeartbeats 4000000 in
set_option maxRecDepth 100000 in
theorem c_M_turn (l : Launch) (dC : Nat → ClassId) (dI : Nat → Nat → Nat) (qM q_px q_py q_pz q_plane q_axis q_was q_ways q_keptWas q_keptWays q_keptPoints q_nextWas q_nextWays q_nowWas q_nowWays q_to : Nat) (cI cJ cQ : ClassId) (sz : Nat) (vthrown : Int32) (vpoints : Int32) (vplanes : Int32) (vaxes : Int32) (vkept : Int32) (vax : Int32) (vay : Int32) (vaz : Int32) (cpx : Nat → Int32) (cpy : Nat → Int32) (cpz : Nat → Int32) (cplane : Nat → Int32) (caxis : Nat → Int32) (cwas : Nat → Int32) (cways : Nat → Int32) (ckeptWas : Nat → Int32) (ckeptWays : Nat → Int32) (ckeptPoints : Nat → Int32) (cnextWas : Nat → Int32) (cnextWays : Nat → Int32) (cnowWas : Nat → Int32) (cnowWays : Nat → Int32) (cto : Nat → Int32) (x1 : Int32) (x2 : Int32) (x3 : Int32) (r_ : Int32) (o_vthrown : Int32) (o_vax : Int32) (o_vay : Int32) (o_vaz : Int32) (o_cwas : Nat → Int32) (o_cways : Nat → Int32) (o_cnextWas : Nat → Int32) (o_cnextWays : Nat → Int32) (o_cto : Nat → Int32) (hf : f_M_turn vthrown vpoints vplanes vaxes vax vay vaz cpx cpy cpz cplane caxis cwas cways cnextWas cnextWays cto x1 x2 x3 = some (r_, o_vthrown, o_vax, o_vay, o_vaz, o_cwas, o_cways, o_cnextWas, o_cnextWays, o_cto)) : Met l y_M_turn w_M_turn ({ frames := 5, cells := 0, slots := 0, locals := 123 }) (va_Pc [.ref qM, .int x1, .int x2, .int x3] (fun U => U.heap.size = sz ∧ va_P (dC, dI) vwCl (w_M qM q_px q_py q_pz q_plane q_axis q_was q_ways q_keptWas q_keptWays q_keptPoints q_nextWas q_nextWays q_nowWas q_nowWays q_to cI vthrown vpoints vplanes vaxes vkept vax vay vaz cpx cpy cpz cplane caxis cwas cways ckeptWas ckeptWays ckeptPoints cnextWas cnextWays cnowWas cnowWays cto) U.heap ∧ va_K (dC, dI) vwCl [(cI, .int), (cJ, .long), (cQ, .object "CutBodies$Contents")] U ∧ nestZ U ∧ va_D (fun _ => True) (w_M qM q_px q_py q_pz q_plane q_axis q_was q_ways q_keptWas q_keptWays q_keptPoints q_nextWas q_nextWays q_nowWas q_nowWays q_to cI vthrown vpoints vplanes vaxes vkept vax vay vaz cpx cpy cpz cplane caxis cwas cways ckeptWas ckeptWays ckeptPoints cnextWas cnextWays cnowWas cnowWays cto))) (va_Qi (fun (r9 : Int32) (_ : Unit) => r9 = r_) (fun _ t => va_P (dC, dI) vwCl (w_M qM q_px q_py q_pz q_plane q_axis q_was q_ways q_keptWas q_keptWays q_keptPoints q_nextWas q_nextWays q_nowWas q_nowWays q_to cI o_vthrown vpoints vplanes vaxes vkept o_vax o_vay o_vaz cpx cpy cpz cplane caxis o_cwas o_cways ckeptWas ckeptWays ckeptPoints o_cnextWas o_cnextWays cnowWas cnowWays o_cto) t.heap ∧ va_D (va_A (w_M qM q_px q_py q_pz q_plane q_axis q_was q_ways q_keptWas q_keptWays q_keptPoints q_nextWas q_nextWays q_nowWas q_nowWays q_to cI vthrown vpoints vplanes vaxes vkept vax vay vaz cpx cpy cpz cplane caxis cwas cways ckeptWas ckeptWays ckeptPoints cnextWas cnextWays cnowWas cnowWays cto) sz) (w_M qM q_px q_py q_pz q_plane q_axis q_was q_ways q_keptWas q_keptWays q_keptPoints q_nextWas q_nextWays q_nowWas q_nowWays q_to cI o_vthrown vpoints vplanes vaxes vkept o_vax o_vay o_vaz cpx cpy cpz cplane caxis o_cwas o_cways ckeptWas ckeptWays ckeptPoints o_cnextWas o_cnextWays cnowWas cnowWays o_cto)) (va_A (w_M qM q_px q_py q_pz q_plane q_axis q_was q_ways q_keptWas q_keptWays q_keptPoints q_nextWas q_nextWays q_nowWas q_nowWays q_to cI vthrown vpoints vplanes vaxes vkept vax vay vaz cpx cpy cpz cplane caxis cwas cways ckeptWas ckeptWays ckeptPoints cnextWas cnextWays cnowWas cnowWays cto) sz)) 0 0 (va_A (w_M qM q_px q_py q_pz q_plane q_axis q_was q_ways q_keptWas q_keptWays q_keptPoints q_nextWas q_nextWays q_nowWas q_nowWays q_to cI vthrown vpoints vplanes vaxes vkept vax vay vaz cpx cpy cpz cplane caxis cwas cways ckeptWas ckeptWays ckeptPoints cnextWas cnextWays cnowWas cnowWays cto) sz) := by
  refine Met.ofW (cc := b_M_turn) (maxL := 6) (ret := (some .int)) (by decide) rfl ?_
  intro p e s m args below meth c s₁ B hml hv
  obtain ⟨rfl, hsz, hP, hK, hZ, hD0⟩ := hv
  have hx := B.exec
  have hb := B.bytes
  have hr := B.returns
  have hts := atoms_spec (ws := w_M_turn) B.pre
  have ht : ∀ w ∈ wAll, w.before _ s = true := fun w h => hts w (List.mem_cons_of_mem _ h)
  have hown : s.vm.findClass R_M = some m.cls := findClass_of_methodNamed B.named
  have hlocks := B.notSynchronized
  subst hsz
  have hD := hD0.self (sz := s.heap.size)
  generalize hAe : va_A (w_M qM q_px q_py q_pz q_plane q_axis q_was q_ways q_keptWas q_keptWays q_keptPoints q_nextWas q_nextWays q_nowWas q_nowWays q_to cI vthrown vpoints vplanes vaxes vkept vax vay vaz cpx cpy cpz cplane caxis cwas cways ckeptWas ckeptWays ckeptPoints cnextWas cnextWays cnowWas cnowWays cto) s.heap.size = A at hD ⊢
  have hA : ∀ q : Nat, s.heap.size ≤ q → A q := fun q h => by rw [← hAe]; exact Or.inr h
  have hS : va_S A s.heap s.heap [] := va_S.rf
  have hP : va_P (dC, dI) vwCl (w_M qM q_px q_py q_pz q_plane q_axis q_was q_ways q_keptWas q_keptWays q_keptPoints q_nextWas q_nextWays q_nowWas q_nowWays q_to cI vthrown vpoints vplanes vaxes vkept vax vay vaz cpx cpy cpz cplane caxis cwas cways ckeptWas ckeptWays ckeptPoints cnextWas cnextWays cnowWas cnowWays cto) s.heap := hP
  have hl := lv_entry ([.ref qM, .int x1, .int x2, .int x3]) (n := 6) (Nat.le_of_ble_eq_true rfl)
  rw [lg_entry_eq]
  generalize (lg_sl ([.ref qM, .int x1, .int x2, .int x3]) ++ List.replicate (6 - (lg_sl ([.ref qM, .int x1, .int x2, .int x3])).length) Slot.unset).toArray = ls at hl ⊢
  have hl : lv_has ls 6 [(0, .ref qM), (1, .int x1), (2, .int x2), (3, .int x3)] := hl
  refine w_abs (fun Wx toX ofX => ?_)
  have K60 : ∀ (x1 : Int32) (x3 : Int32) (vthrown : Int32) (cto : Nat → Int32) (n : Nat) (x5 : Int32) (vax : Int32) (vay : Int32) (vaz : Int32) (cwas : Nat → Int32) (cways : Nat → Int32) (cnextWas : Nat → Int32) (cnextWays : Nat → Int32) (H : Heap) (locs : List Loc) (ls : Array Slot), oLoop8 (f_M_turn_L60  vpoints vplanes vaxes cpx cpy cpz cplane caxis x1 x3 vthrown cto) n x5 vax vay vaz cwas cways cnextWas cnextWays = some (r_, o_vthrown, o_vax, o_vay, o_vaz, o_cwas, o_cways, o_cnextWas, o_cnextWays, o_cto) → va_P (dC, dI) vwCl (w_M qM q_px q_py q_pz q_plane q_axis q_was q_ways q_keptWas q_keptWays q_keptPoints q_nextWas q_nextWays q_nowWas q_nowWays q_to cI vthrown vpoints vplanes vaxes vkept vax vay vaz cpx cpy cpz cplane caxis cwas cways ckeptWas ckeptWays ckeptPoints cnextWas cnextWays cnowWas cnowWays cto) H → va_D A (w_M qM q_px q_py q_pz q_plane q_axis q_was q_ways q_keptWas q_keptWays q_keptPoints q_nextWas q_nextWays q_nowWas q_nowWays q_to cI vthrown vpoints vplanes vaxes vkept vax vay vaz cpx cpy cpz cplane caxis cwas cways ckeptWas ckeptWays ckeptPoints cnextWas cnextWays cnowWas cnowWays cto) → va_S A s.heap H locs → lv_has ls 6 [(0, .ref qM), (1, .int x1), (3, .int x3), (5, .int x5)] → Wx H locs 0 0 (F0 m 60 ls []) := by
    intro x1 x3 vthrown cto n
    induction n with
    | zero => intro x5 vax vay vaz cwas cways cnextWas cnextWays H locs ls hf; exact (oLoop8_0 hf).elim
    | succ n ih60 =>
      obtain ⟨rec60, hrec60⟩ : ∃ z, z = oLoop8 (f_M_turn_L60  vpoints vplanes vaxes cpx cpy cpz cplane caxis x1 x3 vthrown cto) n := ⟨_, rfl⟩
      rw [← hrec60] at ih60
      intro x5 vax vay vaz cwas cways cnextWas cnextWays H locs ls hf hP hD hS hl
      refine toX _ _ _ _ _ ?_
      have hf := oLoop8_s hf
      rw [← hrec60] at hf
      unfold f_M_turn_L60 at hf
      refine lv_iload hx hb d_M_turn_60 (lv_at hl 3 rfl) ?_
      refine lv_iload_n hx hb d_M_turn_62 rfl (lv_at hl 2 rfl) ?_
      refine lv_icmp_ge (tgt := 78) hx hb d_M_turn_63 (by decide) (fun c1 => ?_) (fun c1 => ?_)
      · have hf := oIf_t hf c1
        refine lv_iconst (v := 0) hx hb d_M_turn_78 (by decide) ?_
        cases hf
        exact W.iret hx hb hr (fun t ht hW => ⟨⟨_, (), rfl, rfl, by rw [ht]; exact hP, hD⟩, hS.F ht⟩) hS.2.2 d_M_turn_79
      · have hf := oIf_f hf c1
        refine lv_aload_n hx hb d_M_turn_66 rfl (lv_at hl 0 rfl) ?_
        refine lv_iconst (v := 0) hx hb d_M_turn_67 (by decide) ?_
        refine lv_iload_n hx hb d_M_turn_68 rfl (lv_at hl 1 rfl) ?_
        obtain ⟨o2, o3, o4, o5, o6, o7, o8, hfc, hf⟩ := oCall7_some hf
        have hPc := hP.sub (ws' := (w_M qM q_px q_py q_pz q_plane q_axis q_was q_ways q_keptWas q_keptWays q_keptPoints q_nextWas q_nextWays q_nowWas q_nowWays q_to cI vthrown vpoints vplanes vaxes vkept vax vay vaz cpx cpy cpz cplane caxis cwas cways ckeptWas ckeptWays ckeptPoints cnextWas cnextWays cnowWas cnowWays cto)) [0, 1, 2, 3, 4, 5, 6, 7, 8, 9, 10, 11, 12, 13, 14, 15] rfl
        have hDc := hD.sub (ws' := (w_M qM q_px q_py q_pz q_plane q_axis q_was q_ways q_keptWas q_keptWays q_keptPoints q_nextWas q_nextWays q_nowWas q_nowWays q_to cI vthrown vpoints vplanes vaxes vkept vax vay vaz cpx cpy cpz cplane caxis cwas cways ckeptWas ckeptWays ckeptPoints cnextWas cnextWays cnowWas cnowWays cto)) [0, 1, 2, 3, 4, 5, 6, 7, 8, 9, 10, 11, 12, 13, 14, 15] (by decide) rfl
        have hFc := va_free (wc := (w_M qM q_px q_py q_pz q_plane q_axis q_was q_ways q_keptWas q_keptWays q_keptPoints q_nextWas q_nextWays q_nowWas q_nowWays q_to cI vthrown vpoints vplanes vaxes vkept vax vay vaz cpx cpy cpz cplane caxis cwas cways ckeptWas ckeptWays ckeptPoints cnextWas cnextWays cnowWas cnowWays cto)) hD hS hA [0, 1, 2, 3, 4, 5, 6, 7, 8, 9, 10, 11, 12, 13, 14, 15] rfl
        refine va_callv (va_runV (As := [.int 0, .int x1]) (rest := []) ⟨hx, hb, hml, hown, ht⟩ (c_M_turnOnce l dC dI qM q_px q_py q_pz q_plane q_axis q_was q_ways q_keptWas q_keptWays q_keptPoints q_nextWas q_nextWays q_nowWas q_nowWays q_to cI cJ cQ H.size vthrown vpoints vplanes vaxes vkept vax vay vaz cpx cpy cpz cplane caxis cwas cways ckeptWas ckeptWays ckeptPoints cnextWas cnextWays cnowWas cnowWays cto 0 x1 o2 o3 o4 o5 o6 o7 o8 hfc) (cwV 2 ht (gV m_522 m_524 m_22 m_31 m_525) rfl rfl rfl (by decide +kernel) ⟨Nat.le_of_ble_eq_true rfl, Nat.le_of_ble_eq_true rfl⟩) (preMV hPc hK hZ hDc (va_recv hK hPc (ci := 3) (q0 := 0) rfl rfl)) rfl rfl hl.1 rfl (lv_room (Nat.le_of_ble_eq_true rfl)) d_M_turn_69 ⟨Nat.le_of_ble_eq_true rfl, Nat.le_of_ble_eq_true rfl⟩) hS (fun q _ h => hFc q h) hFc (fun u t H1 locs ht9 hvm hw hB hz1 hk1 hS => ?_)
        obtain ⟨hP1, hD1⟩ := hB
        rw [ht9] at hP1
        obtain ⟨hP, hD⟩ := va_join (wr := []) (w1 := (w_M qM q_px q_py q_pz q_plane q_axis q_was q_ways q_keptWas q_keptWays q_keptPoints q_nextWas q_nextWays q_nowWas q_nowWays q_to cI vthrown vpoints vplanes vaxes vkept o2 o3 o4 cpx cpy cpz cplane caxis o5 o6 ckeptWas ckeptWays ckeptPoints o7 o8 cnowWas cnowWays cto)) hP hD [0, 1, 2, 3, 4, 5, 6, 7, 8, 9, 10, 11, 12, 13, 14, 15] [] rfl rfl (by decide) (by decide) hk1 hFc hP1 hD1
        have hP := hP.sub (ws' := (w_M qM q_px q_py q_pz q_plane q_axis q_was q_ways q_keptWas q_keptWays q_keptPoints q_nextWas q_nextWays q_nowWas q_nowWays q_to cI vthrown vpoints vplanes vaxes vkept o2 o3 o4 cpx cpy cpz cplane caxis o5 o6 ckeptWas ckeptWays ckeptPoints o7 o8 cnowWas cnowWays cto)) [0, 1, 2, 3, 4, 5, 6, 7, 8, 9, 10, 11, 12, 13, 14, 15] rfl
        have hD := hD.sub (ws' := (w_M qM q_px q_py q_pz q_plane q_axis q_was q_ways q_keptWas q_keptWays q_keptPoints q_nextWas q_nextWays q_nowWas q_nowWays q_to cI vthrown vpoints vplanes vaxes vkept o2 o3 o4 cpx cpy cpz cplane caxis o5 o6 ckeptWas ckeptWays ckeptPoints o7 o8 cnowWas cnowWays cto)) [0, 1, 2, 3, 4, 5, 6, 7, 8, 9, 10, 11, 12, 13, 14, 15] (by decide) rfl
        clear hPc hDc hFc hP1 hD1 hz1 hk1 ht9 hvm hfc
        generalize H1 = H at hP hS ⊢
        obtain ⟨v9, ev9, hf⟩ := oLet_ex hf
        refine lv_iinc (v := v9) (lv' := [(5, .int v9), (0, .ref qM), (1, .int x1), (3, .int x3)]) hx hb d_M_turn_72 hl (k := 3) rfl (by rw [ev9]; rfl) (by decide) rfl (fun ls hl => ?_)
        refine lv_goto (tgt := 60) hx hb d_M_turn_75 (by decide) ?_
        exact ofX _ _ _ _ _ (ih60 v9 o2 o3 o4 o5 o6 o7 o8 _ _ _ hf hP hD hS (lv_sub hl [1, 2, 3, 0] rfl))
  refine toX _ _ _ _ _ ?_
  unfold f_M_turn at hf
  obtain ⟨H, hH⟩ : ∃ z, z = s.heap := ⟨_, rfl⟩
  have hS : va_S A s.heap H [] := by rw [hH]; exact hS
  have hP : va_P (dC, dI) vwCl (w_M qM q_px q_py q_pz q_plane q_axis q_was q_ways q_keptWas q_keptWays q_keptPoints q_nextWas q_nextWays q_nowWas q_nowWays q_to cI vthrown vpoints vplanes vaxes vkept vax vay vaz cpx cpy cpz cplane caxis cwas cways ckeptWas ckeptWays ckeptPoints cnextWas cnextWays cnowWas cnowWays cto) H := by rw [hH]; exact hP
  refine w_heap hH ?_
  refine lv_aload_n hx hb d_M_turn_0 rfl (lv_at hl 0 rfl) ?_
  refine lv_iconst (v := 0) hx hb d_M_turn_1 (by decide) ?_
  refine va_put (D := (dC, dI)) (ci := 3) (v := .int 0) (ty := .int) (C := R_M) (T := T_M) (N := 23) hx hb ht in_M t_M t_M_ok n_M hown hK hP hD hS 0 rfl rfl 0 (by decide) (ht _ m_346) (fun _ h9 => h9) rfl (by decide +kernel) rfl rfl (Nat.le_of_ble_eq_true rfl) d_M_turn_2 (fun H locs hP hD hS => ?_)
  have hP : va_P (dC, dI) vwCl (w_M qM q_px q_py q_pz q_plane q_axis q_was q_ways q_keptWas q_keptWays q_keptPoints q_nextWas q_nextWays q_nowWas q_nowWays q_to cI 0 vpoints vplanes vaxes vkept vax vay vaz cpx cpy cpz cplane caxis cwas cways ckeptWas ckeptWays ckeptPoints cnextWas cnextWays cnowWas cnowWays cto) H := hP
  have hD : va_D A (w_M qM q_px q_py q_pz q_plane q_axis q_was q_ways q_keptWas q_keptWays q_keptPoints q_nextWas q_nextWays q_nowWas q_nowWays q_to cI 0 vpoints vplanes vaxes vkept vax vay vaz cpx cpy cpz cplane caxis cwas cways ckeptWas ckeptWays ckeptPoints cnextWas cnextWays cnowWas cnowWays cto) := hD
  refine lv_aload_n hx hb d_M_turn_5 rfl (lv_at hl 0 rfl) ?_
  refine lv_iload_n hx hb d_M_turn_6 rfl (lv_at hl 1 rfl) ?_
  obtain ⟨r10z, hfc, hf⟩ := oCall1_some hf
  have hPc := hP.sub (ws' := (w_M qM q_px q_py q_pz q_plane q_axis q_was q_ways q_keptWas q_keptWays q_keptPoints q_nextWas q_nextWays q_nowWas q_nowWays q_to cI 0 vpoints vplanes vaxes vkept vax vay vaz cpx cpy cpz cplane caxis cwas cways ckeptWas ckeptWays ckeptPoints cnextWas cnextWays cnowWas cnowWays cto)) [0, 1, 2, 3, 4, 5, 6, 7, 8, 9, 10, 11, 12, 13, 14, 15] rfl
  refine vp_callSi (va_runV (As := [.int x1]) (rest := []) ⟨hx, hb, hml, hown, ht⟩ (c_M_isAxis l dC dI qM q_px q_py q_pz q_plane q_axis q_was q_ways q_keptWas q_keptWays q_keptPoints q_nextWas q_nextWays q_nowWas q_nowWays q_to cI cJ cQ 0 vpoints vplanes vaxes vkept vax vay vaz cpx cpy cpz cplane caxis cwas cways ckeptWas ckeptWays ckeptPoints cnextWas cnextWays cnowWas cnowWays cto x1 r10z hfc) (cwV 1 ht (gV m_454 m_456 m_10 m_31 m_457) rfl rfl rfl (by decide +kernel) ⟨Nat.le_of_ble_eq_true rfl, Nat.le_of_ble_eq_true rfl⟩) (preRV hPc hK hZ (va_recv hK hPc (ci := 3) (q0 := 0) rfl rfl)) rfl rfl hl.1 rfl (lv_room (Nat.le_of_ble_eq_true rfl)) d_M_turn_7 ⟨Nat.le_of_ble_eq_true rfl, Nat.le_of_ble_eq_true rfl⟩).run (fun r10 hw => ?_)
  subst hw
  clear hPc hfc
  refine lv_if_eq (tgt := 32) hx hb d_M_turn_10 (by decide) (fun c11 => ?_) (fun c11 => ?_)
  · have hf := oIf_t hf c11
    refine lv_iconst (v := (-1)) hx hb d_M_turn_32 (by decide) ?_
    cases hf
    exact W.iret hx hb hr (fun t ht hW => ⟨⟨_, (), rfl, rfl, by rw [ht]; exact hP, hD⟩, hS.F ht⟩) hS.2.2 d_M_turn_33
  · have hf := oIf_f hf c11
    refine lv_aload_n hx hb d_M_turn_13 rfl (lv_at hl 0 rfl) ?_
    refine lv_iload_n hx hb d_M_turn_14 rfl (lv_at hl 2 rfl) ?_
    obtain ⟨r12z, hfc, hf⟩ := oCall1_some hf
    have hPc := hP.sub (ws' := (w_M qM q_px q_py q_pz q_plane q_axis q_was q_ways q_keptWas q_keptWays q_keptPoints q_nextWas q_nextWays q_nowWas q_nowWays q_to cI 0 vpoints vplanes vaxes vkept vax vay vaz cpx cpy cpz cplane caxis cwas cways ckeptWas ckeptWays ckeptPoints cnextWas cnextWays cnowWas cnowWays cto)) [0, 1, 2, 3, 4, 5, 6, 7, 8, 9, 10, 11, 12, 13, 14, 15] rfl
    refine vp_callSi (va_runV (As := [.int x2]) (rest := []) ⟨hx, hb, hml, hown, ht⟩ (c_M_isPlane l dC dI qM q_px q_py q_pz q_plane q_axis q_was q_ways q_keptWas q_keptWays q_keptPoints q_nextWas q_nextWays q_nowWas q_nowWays q_to cI cJ cQ 0 vpoints vplanes vaxes vkept vax vay vaz cpx cpy cpz cplane caxis cwas cways ckeptWas ckeptWays ckeptPoints cnextWas cnextWays cnowWas cnowWays cto x2 r12z hfc) (cwV 1 ht (gV m_482 m_484 m_15 m_31 m_485) rfl rfl rfl (by decide +kernel) ⟨Nat.le_of_ble_eq_true rfl, Nat.le_of_ble_eq_true rfl⟩) (preRV hPc hK hZ (va_recv hK hPc (ci := 3) (q0 := 0) rfl rfl)) rfl rfl hl.1 rfl (lv_room (Nat.le_of_ble_eq_true rfl)) d_M_turn_15 ⟨Nat.le_of_ble_eq_true rfl, Nat.le_of_ble_eq_true rfl⟩).run (fun r12 hw => ?_)
    subst hw
    clear hPc hfc
    refine lv_if_eq (tgt := 32) hx hb d_M_turn_18 (by decide) (fun c13 => ?_) (fun c13 => ?_)
    · have hf := oIf_t hf c13
      refine lv_iconst (v := (-1)) hx hb d_M_turn_32 (by decide) ?_
      cases hf
      exact W.iret hx hb hr (fun t ht hW => ⟨⟨_, (), rfl, rfl, by rw [ht]; exact hP, hD⟩, hS.F ht⟩) hS.2.2 d_M_turn_33
    · have hf := oIf_f hf c13
      refine lv_iload_n hx hb d_M_turn_21 rfl (lv_at hl 3 rfl) ?_
      refine lv_iconst (v := 1) hx hb d_M_turn_22 (by decide) ?_
      refine lv_icmp_lt (tgt := 32) hx hb d_M_turn_23 (by decide) (fun c14 => ?_) (fun c14 => ?_)
      · have hf := oIf_t hf c14
        refine lv_iconst (v := (-1)) hx hb d_M_turn_32 (by decide) ?_
        cases hf
        exact W.iret hx hb hr (fun t ht hW => ⟨⟨_, (), rfl, rfl, by rw [ht]; exact hP, hD⟩, hS.F ht⟩) hS.2.2 d_M_turn_33
      · have hf := oIf_f hf c14
        refine lv_iload_n hx hb d_M_turn_26 rfl (lv_at hl 3 rfl) ?_
        refine lv_bipush (v := 12) hx hb d_M_turn_27 (by decide) ?_
        refine lv_icmp_le (tgt := 34) hx hb d_M_turn_29 (by decide) (fun c15 => ?_) (fun c15 => ?_)
        · have hf := oIf_t hf c15
          refine lv_aload_n hx hb d_M_turn_34 rfl (lv_at hl 0 rfl) ?_
          refine lv_iload_n hx hb d_M_turn_35 rfl (lv_at hl 1 rfl) ?_
          refine lv_iload_n hx hb d_M_turn_36 rfl (lv_at hl 2 rfl) ?_
          obtain ⟨r19z, o16, o17, o18, hfc, hf⟩ := oCall4_some hf
          have hPc := hP.sub (ws' := (w_M qM q_px q_py q_pz q_plane q_axis q_was q_ways q_keptWas q_keptWays q_keptPoints q_nextWas q_nextWays q_nowWas q_nowWays q_to cI 0 vpoints vplanes vaxes vkept vax vay vaz cpx cpy cpz cplane caxis cwas cways ckeptWas ckeptWays ckeptPoints cnextWas cnextWays cnowWas cnowWays cto)) [0, 1, 2, 3, 4, 5, 6, 7, 8, 9, 10, 11, 12, 13, 14, 15] rfl
          have hDc := hD.sub (ws' := (w_M qM q_px q_py q_pz q_plane q_axis q_was q_ways q_keptWas q_keptWays q_keptPoints q_nextWas q_nextWays q_nowWas q_nowWays q_to cI 0 vpoints vplanes vaxes vkept vax vay vaz cpx cpy cpz cplane caxis cwas cways ckeptWas ckeptWays ckeptPoints cnextWas cnextWays cnowWas cnowWays cto)) [0, 1, 2, 3, 4, 5, 6, 7, 8, 9, 10, 11, 12, 13, 14, 15] (by decide) rfl
          have hFc := va_free (wc := (w_M qM q_px q_py q_pz q_plane q_axis q_was q_ways q_keptWas q_keptWays q_keptPoints q_nextWas q_nextWays q_nowWas q_nowWays q_to cI 0 vpoints vplanes vaxes vkept vax vay vaz cpx cpy cpz cplane caxis cwas cways ckeptWas ckeptWays ckeptPoints cnextWas cnextWays cnowWas cnowWays cto)) hD hS hA [0, 1, 2, 3, 4, 5, 6, 7, 8, 9, 10, 11, 12, 13, 14, 15] rfl
          refine va_calli (va_runV (As := [.int x1, .int x2]) (rest := []) ⟨hx, hb, hml, hown, ht⟩ (c_M_blocked l dC dI qM q_px q_py q_pz q_plane q_axis q_was q_ways q_keptWas q_keptWays q_keptPoints q_nextWas q_nextWays q_nowWas q_nowWays q_to cI cJ cQ H.size 0 vpoints vplanes vaxes vkept vax vay vaz cpx cpy cpz cplane caxis cwas cways ckeptWas ckeptWays ckeptPoints cnextWas cnextWays cnowWas cnowWays cto x1 x2 r19z o16 o17 o18 hfc) (cwV 2 ht (gV m_514 m_516 m_20 m_31 m_517) rfl rfl rfl (by decide +kernel) ⟨Nat.le_of_ble_eq_true rfl, Nat.le_of_ble_eq_true rfl⟩) (preMV hPc hK hZ hDc (va_recv hK hPc (ci := 3) (q0 := 0) rfl rfl)) rfl rfl hl.1 rfl (lv_room (Nat.le_of_ble_eq_true rfl)) d_M_turn_37 ⟨Nat.le_of_ble_eq_true rfl, Nat.le_of_ble_eq_true rfl⟩) hS (fun q _ h => hFc q h) hFc (fun r19 u t H1 locs ht9 hvm hw hB hz1 hk1 hS => ?_)
          obtain ⟨hP1, hD1⟩ := hB
          rw [ht9] at hP1
          subst hw
          obtain ⟨hP, hD⟩ := va_join (wr := []) (w1 := (w_M qM q_px q_py q_pz q_plane q_axis q_was q_ways q_keptWas q_keptWays q_keptPoints q_nextWas q_nextWays q_nowWas q_nowWays q_to cI 0 vpoints vplanes vaxes vkept o16 o17 o18 cpx cpy cpz cplane caxis cwas cways ckeptWas ckeptWays ckeptPoints cnextWas cnextWays cnowWas cnowWays cto)) hP hD [0, 1, 2, 3, 4, 5, 6, 7, 8, 9, 10, 11, 12, 13, 14, 15] [] rfl rfl (by decide) (by decide) hk1 hFc hP1 hD1
          have hP := hP.sub (ws' := (w_M qM q_px q_py q_pz q_plane q_axis q_was q_ways q_keptWas q_keptWays q_keptPoints q_nextWas q_nextWays q_nowWas q_nowWays q_to cI 0 vpoints vplanes vaxes vkept o16 o17 o18 cpx cpy cpz cplane caxis cwas cways ckeptWas ckeptWays ckeptPoints cnextWas cnextWays cnowWas cnowWays cto)) [0, 1, 2, 3, 4, 5, 6, 7, 8, 9, 10, 11, 12, 13, 14, 15] rfl
          have hD := hD.sub (ws' := (w_M qM q_px q_py q_pz q_plane q_axis q_was q_ways q_keptWas q_keptWays q_keptPoints q_nextWas q_nextWays q_nowWas q_nowWays q_to cI 0 vpoints vplanes vaxes vkept o16 o17 o18 cpx cpy cpz cplane caxis cwas cways ckeptWas ckeptWays ckeptPoints cnextWas cnextWays cnowWas cnowWays cto)) [0, 1, 2, 3, 4, 5, 6, 7, 8, 9, 10, 11, 12, 13, 14, 15] (by decide) rfl
          clear hPc hDc hFc hP1 hD1 hz1 hk1 ht9 hvm hfc
          generalize H1 = H at hP hS ⊢
          refine lv_istore (lv' := [(4, .int r19), (0, .ref qM), (1, .int x1), (2, .int x2), (3, .int x3)]) hx hb d_M_turn_40 hl (by decide) rfl (fun ls hl => ?_)
          refine lv_iload hx hb d_M_turn_42 (lv_at hl 0 rfl) ?_
          refine lv_if_le (tgt := 50) hx hb d_M_turn_44 (by decide) (fun c20 => ?_) (fun c20 => ?_)
          · have hf := oIf_t hf c20
            refine lv_aload_n hx hb d_M_turn_50 rfl (lv_at hl 1 rfl) ?_
            refine lv_iconst (v := 0) hx hb d_M_turn_51 (by decide) ?_
            refine lv_iload_n hx hb d_M_turn_52 rfl (lv_at hl 2 rfl) ?_
            refine lv_iload_n hx hb d_M_turn_53 rfl (lv_at hl 3 rfl) ?_
            obtain ⟨o21, o22, o23, o24, hfc, hf⟩ := oCall4_some hf
            have hPc := hP.sub (ws' := (w_M qM q_px q_py q_pz q_plane q_axis q_was q_ways q_keptWas q_keptWays q_keptPoints q_nextWas q_nextWays q_nowWas q_nowWays q_to cI 0 vpoints vplanes vaxes vkept o16 o17 o18 cpx cpy cpz cplane caxis cwas cways ckeptWas ckeptWays ckeptPoints cnextWas cnextWays cnowWas cnowWays cto)) [0, 1, 2, 3, 4, 5, 6, 7, 8, 9, 10, 11, 12, 13, 14, 15] rfl
            have hDc := hD.sub (ws' := (w_M qM q_px q_py q_pz q_plane q_axis q_was q_ways q_keptWas q_keptWays q_keptPoints q_nextWas q_nextWays q_nowWas q_nowWays q_to cI 0 vpoints vplanes vaxes vkept o16 o17 o18 cpx cpy cpz cplane caxis cwas cways ckeptWas ckeptWays ckeptPoints cnextWas cnextWays cnowWas cnowWays cto)) [0, 1, 2, 3, 4, 5, 6, 7, 8, 9, 10, 11, 12, 13, 14, 15] (by decide) rfl
            have hFc := va_free (wc := (w_M qM q_px q_py q_pz q_plane q_axis q_was q_ways q_keptWas q_keptWays q_keptPoints q_nextWas q_nextWays q_nowWas q_nowWays q_to cI 0 vpoints vplanes vaxes vkept o16 o17 o18 cpx cpy cpz cplane caxis cwas cways ckeptWas ckeptWays ckeptPoints cnextWas cnextWays cnowWas cnowWays cto)) hD hS hA [0, 1, 2, 3, 4, 5, 6, 7, 8, 9, 10, 11, 12, 13, 14, 15] rfl
            refine va_callv (va_runV (As := [.int 0, .int x1, .int x2]) (rest := []) ⟨hx, hb, hml, hown, ht⟩ (c_M_plan l dC dI qM q_px q_py q_pz q_plane q_axis q_was q_ways q_keptWas q_keptWays q_keptPoints q_nextWas q_nextWays q_nowWas q_nowWays q_to cI cJ cQ H.size 0 vpoints vplanes vaxes vkept o16 o17 o18 cpx cpy cpz cplane caxis cwas cways ckeptWas ckeptWays ckeptPoints cnextWas cnextWays cnowWas cnowWays cto 0 x1 x2 o21 o22 o23 o24 hfc) (cwV 3 ht (gV m_518 m_520 m_21 m_31 m_521) rfl rfl rfl (by decide +kernel) ⟨Nat.le_of_ble_eq_true rfl, Nat.le_of_ble_eq_true rfl⟩) (preMV hPc hK hZ hDc (va_recv hK hPc (ci := 3) (q0 := 0) rfl rfl)) rfl rfl hl.1 rfl (lv_room (Nat.le_of_ble_eq_true rfl)) d_M_turn_54 ⟨Nat.le_of_ble_eq_true rfl, Nat.le_of_ble_eq_true rfl⟩) hS (fun q _ h => hFc q h) hFc (fun u t H1 locs ht9 hvm hw hB hz1 hk1 hS => ?_)
            obtain ⟨hP1, hD1⟩ := hB
            rw [ht9] at hP1
            obtain ⟨hP, hD⟩ := va_join (wr := []) (w1 := (w_M qM q_px q_py q_pz q_plane q_axis q_was q_ways q_keptWas q_keptWays q_keptPoints q_nextWas q_nextWays q_nowWas q_nowWays q_to cI 0 vpoints vplanes vaxes vkept o21 o22 o23 cpx cpy cpz cplane caxis cwas cways ckeptWas ckeptWays ckeptPoints cnextWas cnextWays cnowWas cnowWays o24)) hP hD [0, 1, 2, 3, 4, 5, 6, 7, 8, 9, 10, 11, 12, 13, 14, 15] [] rfl rfl (by decide) (by decide) hk1 hFc hP1 hD1
            have hP := hP.sub (ws' := (w_M qM q_px q_py q_pz q_plane q_axis q_was q_ways q_keptWas q_keptWays q_keptPoints q_nextWas q_nextWays q_nowWas q_nowWays q_to cI 0 vpoints vplanes vaxes vkept o21 o22 o23 cpx cpy cpz cplane caxis cwas cways ckeptWas ckeptWays ckeptPoints cnextWas cnextWays cnowWas cnowWays o24)) [0, 1, 2, 3, 4, 5, 6, 7, 8, 9, 10, 11, 12, 13, 14, 15] rfl
            have hD := hD.sub (ws' := (w_M qM q_px q_py q_pz q_plane q_axis q_was q_ways q_keptWas q_keptWays q_keptPoints q_nextWas q_nextWays q_nowWas q_nowWays q_to cI 0 vpoints vplanes vaxes vkept o21 o22 o23 cpx cpy cpz cplane caxis cwas cways ckeptWas ckeptWays ckeptPoints cnextWas cnextWays cnowWas cnowWays o24)) [0, 1, 2, 3, 4, 5, 6, 7, 8, 9, 10, 11, 12, 13, 14, 15] (by decide) rfl
            clear hPc hDc hFc hP1 hD1 hz1 hk1 ht9 hvm hfc
            generalize H1 = H at hP hS ⊢
            refine lv_iconst (v := 0) hx hb d_M_turn_57 (by decide) ?_
            refine lv_istore (lv' := [(5, .int 0), (4, .int r19), (0, .ref qM), (1, .int x1), (2, .int x2), (3, .int x3)]) hx hb d_M_turn_58 hl (by decide) rfl (fun ls hl => ?_)
            exact ofX _ _ _ _ _ (K60 x1 x3 0 o24 _ 0 o21 o22 o23 cwas cways cnextWas cnextWays _ _ _ hf hP hD hS (lv_sub hl [2, 3, 5, 0] rfl))
          · have hf := oIf_f hf c20
            refine lv_iload hx hb d_M_turn_47 (lv_at hl 0 rfl) ?_
            cases hf
            exact W.iret hx hb hr (fun t ht hW => ⟨⟨_, (), rfl, rfl, by rw [ht]; exact hP, hD⟩, hS.F ht⟩) hS.2.2 d_M_turn_49
        · have hf := oIf_f hf c15
          refine lv_iconst (v := (-1)) hx hb d_M_turn_32 (by decide) ?_
          cases hf
          exact W.iret hx hb hr (fun t ht hW => ⟨⟨_, (), rfl, rfl, by rw [ht]; exact hP, hD⟩, hS.F ht⟩) hS.2.2 d_M_turn_33
set_option maxHeartbeats 4000000 in
set_option maxRecDepth 100000 in
theorem c_M_rounds (l : Launch) (dC : Nat → ClassId) (dI : Nat → Nat → Nat) (qM q_px q_py q_pz q_plane q_axis q_was q_ways q_keptWas q_keptWays q_keptPoints q_nextWas q_nextWays q_nowWas q_nowWays q_to : Nat) (cI cJ cQ : ClassId) (sz : Nat) (vthrown : Int32) (vpoints : Int32) (vplanes : Int32) (vaxes : Int32) (vkept : Int32) (vax : Int32) (vay : Int32) (vaz : Int32) (cpx : Nat → Int32) (cpy : Nat → Int32) (cpz : Nat → Int32) (cplane : Nat → Int32) (caxis : Nat → Int32) (cwas : Nat → Int32) (cways : Nat → Int32) (ckeptWas : Nat → Int32) (ckeptWays : Nat → Int32) (ckeptPoints : Nat → Int32) (cnextWas : Nat → Int32) (cnextWays : Nat → Int32) (cnowWas : Nat → Int32) (cnowWays : Nat → Int32) (cto : Nat → Int32) (x1 : Int32) (r_ : Int32) (o_vthrown : Int32) (o_vax : Int32) (o_vay : Int32) (o_vaz : Int32) (o_cwas : Nat → Int32) (o_cways : Nat → Int32) (o_cnextWas : Nat → Int32) (o_cnextWays : Nat → Int32) (o_cnowWas : Nat → Int32) (o_cnowWays : Nat → Int32) (o_cto : Nat → Int32) (hf : f_M_rounds vthrown vpoints vplanes vaxes vax vay vaz cpx cpy cpz cplane caxis cwas cways cnextWas cnextWays cnowWas cnowWays cto x1 = some (r_, o_vthrown, o_vax, o_vay, o_vaz, o_cwas, o_cways, o_cnextWas, o_cnextWays, o_cnowWas, o_cnowWays, o_cto)) : Met l y_M_rounds w_M_rounds ({ frames := 5, cells := 0, slots := 0, locals := 123 }) (va_Pc [.ref qM, .int x1] (fun U => U.heap.size = sz ∧ va_P (dC, dI) vwCl (w_M qM q_px q_py q_pz q_plane q_axis q_was q_ways q_keptWas q_keptWays q_keptPoints q_nextWas q_nextWays q_nowWas q_nowWays q_to cI vthrown vpoints vplanes vaxes vkept vax vay vaz cpx cpy cpz cplane caxis cwas cways ckeptWas ckeptWays ckeptPoints cnextWas cnextWays cnowWas cnowWays cto) U.heap ∧ va_K (dC, dI) vwCl [(cI, .int), (cJ, .long), (cQ, .object "CutBodies$Contents")] U ∧ nestZ U ∧ va_D (fun _ => True) (w_M qM q_px q_py q_pz q_plane q_axis q_was q_ways q_keptWas q_keptWays q_keptPoints q_nextWas q_nextWays q_nowWas q_nowWays q_to cI vthrown vpoints vplanes vaxes vkept vax vay vaz cpx cpy cpz cplane caxis cwas cways ckeptWas ckeptWays ckeptPoints cnextWas cnextWays cnowWas cnowWays cto))) (va_Qi (fun (r9 : Int32) (_ : Unit) => r9 = r_) (fun _ t => va_P (dC, dI) vwCl (w_M qM q_px q_py q_pz q_plane q_axis q_was q_ways q_keptWas q_keptWays q_keptPoints q_nextWas q_nextWays q_nowWas q_nowWays q_to cI o_vthrown vpoints vplanes vaxes vkept o_vax o_vay o_vaz cpx cpy cpz cplane caxis o_cwas o_cways ckeptWas ckeptWays ckeptPoints o_cnextWas o_cnextWays o_cnowWas o_cnowWays o_cto) t.heap ∧ va_D (va_A (w_M qM q_px q_py q_pz q_plane q_axis q_was q_ways q_keptWas q_keptWays q_keptPoints q_nextWas q_nextWays q_nowWas q_nowWays q_to cI vthrown vpoints vplanes vaxes vkept vax vay vaz cpx cpy cpz cplane caxis cwas cways ckeptWas ckeptWays ckeptPoints cnextWas cnextWays cnowWas cnowWays cto) sz) (w_M qM q_px q_py q_pz q_plane q_axis q_was q_ways q_keptWas q_keptWays q_keptPoints q_nextWas q_nextWays q_nowWas q_nowWays q_to cI o_vthrown vpoints vplanes vaxes vkept o_vax o_vay o_vaz cpx cpy cpz cplane caxis o_cwas o_cways ckeptWas ckeptWays ckeptPoints o_cnextWas o_cnextWays o_cnowWas o_cnowWays o_cto)) (va_A (w_M qM q_px q_py q_pz q_plane q_axis q_was q_ways q_keptWas q_keptWays q_keptPoints q_nextWas q_nextWays q_nowWas q_nowWays q_to cI vthrown vpoints vplanes vaxes vkept vax vay vaz cpx cpy cpz cplane caxis cwas cways ckeptWas ckeptWays ckeptPoints cnextWas cnextWays cnowWas cnowWays cto) sz)) 0 0 (va_A (w_M qM q_px q_py q_pz q_plane q_axis q_was q_ways q_keptWas q_keptWays q_keptPoints q_nextWas q_nextWays q_nowWas q_nowWays q_to cI vthrown vpoints vplanes vaxes vkept vax vay vaz cpx cpy cpz cplane caxis cwas cways ckeptWas ckeptWays ckeptPoints cnextWas cnextWays cnowWas cnowWays cto) sz) := by
  refine Met.ofW (cc := b_M_rounds) (maxL := 5) (ret := (some .int)) (by decide) rfl ?_
  intro p e s m args below meth c s₁ B hml hv
  obtain ⟨rfl, hsz, hP, hK, hZ, hD0⟩ := hv
  have hx := B.exec
  have hb := B.bytes
  have hr := B.returns
  have hts := atoms_spec (ws := w_M_rounds) B.pre
  have ht : ∀ w ∈ wAll, w.before _ s = true := fun w h => hts w (List.mem_cons_of_mem _ h)
  have hown : s.vm.findClass R_M = some m.cls := findClass_of_methodNamed B.named
  have hlocks := B.notSynchronized
  subst hsz
  have hD := hD0.self (sz := s.heap.size)
  generalize hAe : va_A (w_M qM q_px q_py q_pz q_plane q_axis q_was q_ways q_keptWas q_keptWays q_keptPoints q_nextWas q_nextWays q_nowWas q_nowWays q_to cI vthrown vpoints vplanes vaxes vkept vax vay vaz cpx cpy cpz cplane caxis cwas cways ckeptWas ckeptWays ckeptPoints cnextWas cnextWays cnowWas cnowWays cto) s.heap.size = A at hD ⊢
  have hA : ∀ q : Nat, s.heap.size ≤ q → A q := fun q h => by rw [← hAe]; exact Or.inr h
  have hS : va_S A s.heap s.heap [] := va_S.rf
  have hP : va_P (dC, dI) vwCl (w_M qM q_px q_py q_pz q_plane q_axis q_was q_ways q_keptWas q_keptWays q_keptPoints q_nextWas q_nextWays q_nowWas q_nowWays q_to cI vthrown vpoints vplanes vaxes vkept vax vay vaz cpx cpy cpz cplane caxis cwas cways ckeptWas ckeptWays ckeptPoints cnextWas cnextWays cnowWas cnowWays cto) s.heap := hP
  have hl := lv_entry ([.ref qM, .int x1]) (n := 5) (Nat.le_of_ble_eq_true rfl)
  rw [lg_entry_eq]
  generalize (lg_sl ([.ref qM, .int x1]) ++ List.replicate (5 - (lg_sl ([.ref qM, .int x1])).length) Slot.unset).toArray = ls at hl ⊢
  have hl : lv_has ls 5 [(0, .ref qM), (1, .int x1)] := hl
  refine w_abs (fun Wx toX ofX => ?_)
  have K170 : ∀ (x2 : Int32) (x3 : Int32) (vthrown : Int32) (vax : Int32) (vay : Int32) (vaz : Int32) (cnextWas : Nat → Int32) (cnextWays : Nat → Int32) (cnowWas : Nat → Int32) (cnowWays : Nat → Int32) (cto : Nat → Int32) (n : Nat) (x4 : Int32) (cwas : Nat → Int32) (cways : Nat → Int32) (H : Heap) (locs : List Loc) (ls : Array Slot), oLoop3 (f_M_rounds_L170  vpoints vplanes vaxes cpx cpy cpz cplane caxis x2 x3 vthrown vax vay vaz cnextWas cnextWays cnowWas cnowWays cto) n x4 cwas cways = some (r_, o_vthrown, o_vax, o_vay, o_vaz, o_cwas, o_cways, o_cnextWas, o_cnextWays, o_cnowWas, o_cnowWays, o_cto) → va_P (dC, dI) vwCl (w_M qM q_px q_py q_pz q_plane q_axis q_was q_ways q_keptWas q_keptWays q_keptPoints q_nextWas q_nextWays q_nowWas q_nowWays q_to cI vthrown vpoints vplanes vaxes vkept vax vay vaz cpx cpy cpz cplane caxis cwas cways ckeptWas ckeptWays ckeptPoints cnextWas cnextWays cnowWas cnowWays cto) H → va_D A (w_M qM q_px q_py q_pz q_plane q_axis q_was q_ways q_keptWas q_keptWays q_keptPoints q_nextWas q_nextWays q_nowWas q_nowWays q_to cI vthrown vpoints vplanes vaxes vkept vax vay vaz cpx cpy cpz cplane caxis cwas cways ckeptWas ckeptWays ckeptPoints cnextWas cnextWays cnowWas cnowWays cto) → va_S A s.heap H locs → lv_has ls 5 [(0, .ref qM), (2, .int x2), (3, .int x3), (4, .int x4)] → Wx H locs 0 0 (F0 m 170 ls []) := by
    intro x2 x3 vthrown vax vay vaz cnextWas cnextWays cnowWas cnowWays cto n
    induction n with
    | zero => intro x4 cwas cways H locs ls hf; exact (oLoop3_0 hf).elim
    | succ n ih170 =>
      obtain ⟨rec170, hrec170⟩ : ∃ z, z = oLoop3 (f_M_rounds_L170  vpoints vplanes vaxes cpx cpy cpz cplane caxis x2 x3 vthrown vax vay vaz cnextWas cnextWays cnowWas cnowWays cto) n := ⟨_, rfl⟩
      rw [← hrec170] at ih170
      intro x4 cwas cways H locs ls hf hP hD hS hl
      refine toX _ _ _ _ _ ?_
      have hf := oLoop3_s hf
      rw [← hrec170] at hf
      unfold f_M_rounds_L170 at hf
      refine lv_iload hx hb d_M_rounds_170 (lv_at hl 3 rfl) ?_
      refine lv_aload_n hx hb d_M_rounds_172 rfl (lv_at hl 0 rfl) ?_
      refine va_get (D := (dC, dI)) (ci := 3) (v := .int vpoints) (C := R_M) (T := T_M) (N := 23) hx hb ht in_M hown hK hP 0 rfl rfl 1 (by decide) (ht _ m_347) (fun _ h9 => h9) rfl d_M_rounds_173 ?_
      refine lv_icmp_ge (tgt := 213) hx hb d_M_rounds_176 (by decide) (fun c1 => ?_) (fun c1 => ?_)
      · have hf := oIf_t hf c1
        refine lv_iload_n hx hb d_M_rounds_213 rfl (lv_at hl 2 rfl) ?_
        refine lv_if_eq (tgt := 221) hx hb d_M_rounds_214 (by decide) (fun c2 => ?_) (fun c2 => ?_)
        · have hf := oIf_t hf c2
          refine lv_iconst (v := (-1)) hx hb d_M_rounds_221 (by decide) ?_
          cases hf
          exact W.iret hx hb hr (fun t ht hW => ⟨⟨_, (), rfl, rfl, by rw [ht]; exact hP, hD⟩, hS.F ht⟩) hS.2.2 d_M_rounds_222
        · have hf := oIf_f hf c2
          refine lv_iload_n hx hb d_M_rounds_217 rfl (lv_at hl 1 rfl) ?_
          refine lv_goto (tgt := 222) hx hb d_M_rounds_218 (by decide) ?_
          cases hf
          exact W.iret hx hb hr (fun t ht hW => ⟨⟨_, (), rfl, rfl, by rw [ht]; exact hP, hD⟩, hS.F ht⟩) hS.2.2 d_M_rounds_222
      · have hf := oIf_f hf c1
        refine lv_aload_n hx hb d_M_rounds_179 rfl (lv_at hl 0 rfl) ?_
        refine va_get (D := (dC, dI)) (ci := 3) (v := .ref q_was) (C := R_M) (T := T_M) (N := 23) hx hb ht in_M hown hK hP 0 rfl rfl 9 (by decide) (ht _ m_355) (fun _ h9 => h9) rfl d_M_rounds_180 ?_
        refine lv_iload hx hb d_M_rounds_183 (lv_at hl 3 rfl) ?_
        refine lv_aload_n hx hb d_M_rounds_185 rfl (lv_at hl 0 rfl) ?_
        refine va_get (D := (dC, dI)) (ci := 3) (v := .ref q_nowWas) (C := R_M) (T := T_M) (N := 23) hx hb ht in_M hown hK hP 0 rfl rfl 20 (by decide) (ht _ m_366) (fun _ h9 => h9) rfl d_M_rounds_186 ?_
        refine lv_iload hx hb d_M_rounds_189 (lv_at hl 3 rfl) ?_
        obtain ⟨hi3, hf⟩ := oIn_some hf
        refine va_iald hx hb hK hP 13 0 rfl rfl hi3 d_M_rounds_191 ?_
        obtain ⟨hi4, hf⟩ := oIn_some hf
        refine va_iast hx hb hK hP hD hS 6 0 rfl rfl hi4 d_M_rounds_192 (fun H locs hP hD hS => ?_)
        obtain ⟨a5, ea5, hf⟩ := oLet_ex hf
        have hP : va_P (dC, dI) vwCl (w_M qM q_px q_py q_pz q_plane q_axis q_was q_ways q_keptWas q_keptWays q_keptPoints q_nextWas q_nextWays q_nowWas q_nowWays q_to cI vthrown vpoints vplanes vaxes vkept vax vay vaz cpx cpy cpz cplane caxis a5 cways ckeptWas ckeptWays ckeptPoints cnextWas cnextWays cnowWas cnowWays cto) H := by rw [ea5]; exact hP
        have hD : va_D A (w_M qM q_px q_py q_pz q_plane q_axis q_was q_ways q_keptWas q_keptWays q_keptPoints q_nextWas q_nextWays q_nowWas q_nowWays q_to cI vthrown vpoints vplanes vaxes vkept vax vay vaz cpx cpy cpz cplane caxis a5 cways ckeptWas ckeptWays ckeptPoints cnextWas cnextWays cnowWas cnowWays cto) := by rw [ea5]; exact hD
        refine lv_aload_n hx hb d_M_rounds_193 rfl (lv_at hl 0 rfl) ?_
        refine va_get (D := (dC, dI)) (ci := 3) (v := .ref q_ways) (C := R_M) (T := T_M) (N := 23) hx hb ht in_M hown hK hP 0 rfl rfl 10 (by decide) (ht _ m_356) (fun _ h9 => h9) rfl d_M_rounds_194 ?_
        refine lv_iload hx hb d_M_rounds_197 (lv_at hl 3 rfl) ?_
        refine lv_aload_n hx hb d_M_rounds_199 rfl (lv_at hl 0 rfl) ?_
        refine va_get (D := (dC, dI)) (ci := 3) (v := .ref q_nowWays) (C := R_M) (T := T_M) (N := 23) hx hb ht in_M hown hK hP 0 rfl rfl 21 (by decide) (ht _ m_367) (fun _ h9 => h9) rfl d_M_rounds_200 ?_
        refine lv_iload hx hb d_M_rounds_203 (lv_at hl 3 rfl) ?_
        obtain ⟨hi6, hf⟩ := oIn_some hf
        refine va_iald hx hb hK hP 14 0 rfl rfl hi6 d_M_rounds_205 ?_
        obtain ⟨hi7, hf⟩ := oIn_some hf
        refine va_iast hx hb hK hP hD hS 7 0 rfl rfl hi7 d_M_rounds_206 (fun H locs hP hD hS => ?_)
        obtain ⟨a8, ea8, hf⟩ := oLet_ex hf
        have hP : va_P (dC, dI) vwCl (w_M qM q_px q_py q_pz q_plane q_axis q_was q_ways q_keptWas q_keptWays q_keptPoints q_nextWas q_nextWays q_nowWas q_nowWays q_to cI vthrown vpoints vplanes vaxes vkept vax vay vaz cpx cpy cpz cplane caxis a5 a8 ckeptWas ckeptWays ckeptPoints cnextWas cnextWays cnowWas cnowWays cto) H := by rw [ea8]; exact hP
        have hD : va_D A (w_M qM q_px q_py q_pz q_plane q_axis q_was q_ways q_keptWas q_keptWays q_keptPoints q_nextWas q_nextWays q_nowWas q_nowWays q_to cI vthrown vpoints vplanes vaxes vkept vax vay vaz cpx cpy cpz cplane caxis a5 a8 ckeptWas ckeptWays ckeptPoints cnextWas cnextWays cnowWas cnowWays cto) := by rw [ea8]; exact hD
        obtain ⟨v9, ev9, hf⟩ := oLet_ex hf
        refine lv_iinc (v := v9) (lv' := [(4, .int v9), (0, .ref qM), (2, .int x2), (3, .int x3)]) hx hb d_M_rounds_207 hl (k := 3) rfl (by rw [ev9]; rfl) (by decide) rfl (fun ls hl => ?_)
        refine lv_goto (tgt := 170) hx hb d_M_rounds_210 (by decide) ?_
        exact ofX _ _ _ _ _ (ih170 v9 a5 a8 _ _ _ hf hP hD hS (lv_sub hl [1, 2, 3, 0] rfl))
  have K167 : ∀ (x2 : Int32) (x3 : Int32) (vthrown : Int32) (vax : Int32) (vay : Int32) (vaz : Int32) (cwas : Nat → Int32) (cways : Nat → Int32) (cnextWas : Nat → Int32) (cnextWays : Nat → Int32) (cnowWas : Nat → Int32) (cnowWays : Nat → Int32) (cto : Nat → Int32) (H : Heap) (locs : List Loc) (ls : Array Slot), f_M_rounds_J167  vpoints vplanes vaxes cpx cpy cpz cplane caxis x2 x3 vthrown vax vay vaz cwas cways cnextWas cnextWays cnowWas cnowWays cto = some (r_, o_vthrown, o_vax, o_vay, o_vaz, o_cwas, o_cways, o_cnextWas, o_cnextWays, o_cnowWas, o_cnowWays, o_cto) → va_P (dC, dI) vwCl (w_M qM q_px q_py q_pz q_plane q_axis q_was q_ways q_keptWas q_keptWays q_keptPoints q_nextWas q_nextWays q_nowWas q_nowWays q_to cI vthrown vpoints vplanes vaxes vkept vax vay vaz cpx cpy cpz cplane caxis cwas cways ckeptWas ckeptWays ckeptPoints cnextWas cnextWays cnowWas cnowWays cto) H → va_D A (w_M qM q_px q_py q_pz q_plane q_axis q_was q_ways q_keptWas q_keptWays q_keptPoints q_nextWas q_nextWays q_nowWas q_nowWays q_to cI vthrown vpoints vplanes vaxes vkept vax vay vaz cpx cpy cpz cplane caxis cwas cways ckeptWas ckeptWays ckeptPoints cnextWas cnextWays cnowWas cnowWays cto) → va_S A s.heap H locs → lv_has ls 5 [(0, .ref qM), (2, .int x2), (3, .int x3)] → Wx H locs 0 0 (F0 m 167 ls []) := by
    intro x2 x3 vthrown vax vay vaz cwas cways cnextWas cnextWays cnowWas cnowWays cto H locs ls hf hP hD hS hl
    refine toX _ _ _ _ _ ?_
    unfold f_M_rounds_J167 at hf
    refine lv_iconst (v := 0) hx hb d_M_rounds_167 (by decide) ?_
    refine lv_istore (lv' := [(4, .int 0), (0, .ref qM), (2, .int x2), (3, .int x3)]) hx hb d_M_rounds_168 hl (by decide) rfl (fun ls hl => ?_)
    exact ofX _ _ _ _ _ (K170 x2 x3 vthrown vax vay vaz cnextWas cnextWays cnowWas cnowWays cto _ 0 cwas cways _ _ _ hf hP hD hS (lv_sub hl [1, 2, 3, 0] rfl))
  have K122 : ∀ (x1 : Int32) (vthrown : Int32) (cnowWas : Nat → Int32) (cnowWays : Nat → Int32) (cto : Nat → Int32) (n : Nat) (x2 : Int32) (x3 : Int32) (vax : Int32) (vay : Int32) (vaz : Int32) (cwas : Nat → Int32) (cways : Nat → Int32) (cnextWas : Nat → Int32) (cnextWays : Nat → Int32) (H : Heap) (locs : List Loc) (ls : Array Slot), oLoop9 (f_M_rounds_L122  vpoints vplanes vaxes cpx cpy cpz cplane caxis x1 vthrown cnowWas cnowWays cto) n x2 x3 vax vay vaz cwas cways cnextWas cnextWays = some (r_, o_vthrown, o_vax, o_vay, o_vaz, o_cwas, o_cways, o_cnextWas, o_cnextWays, o_cnowWas, o_cnowWays, o_cto) → va_P (dC, dI) vwCl (w_M qM q_px q_py q_pz q_plane q_axis q_was q_ways q_keptWas q_keptWays q_keptPoints q_nextWas q_nextWays q_nowWas q_nowWays q_to cI vthrown vpoints vplanes vaxes vkept vax vay vaz cpx cpy cpz cplane caxis cwas cways ckeptWas ckeptWays ckeptPoints cnextWas cnextWays cnowWas cnowWays cto) H → va_D A (w_M qM q_px q_py q_pz q_plane q_axis q_was q_ways q_keptWas q_keptWays q_keptPoints q_nextWas q_nextWays q_nowWas q_nowWays q_to cI vthrown vpoints vplanes vaxes vkept vax vay vaz cpx cpy cpz cplane caxis cwas cways ckeptWas ckeptWays ckeptPoints cnextWas cnextWays cnowWas cnowWays cto) → va_S A s.heap H locs → lv_has ls 5 [(0, .ref qM), (1, .int x1), (2, .int x2), (3, .int x3)] → Wx H locs 0 0 (F0 m 122 ls []) := by
    intro x1 vthrown cnowWas cnowWays cto n
    induction n with
    | zero => intro x2 x3 vax vay vaz cwas cways cnextWas cnextWays H locs ls hf; exact (oLoop9_0 hf).elim
    | succ n ih122 =>
      obtain ⟨rec122, hrec122⟩ : ∃ z, z = oLoop9 (f_M_rounds_L122  vpoints vplanes vaxes cpx cpy cpz cplane caxis x1 vthrown cnowWas cnowWays cto) n := ⟨_, rfl⟩
      rw [← hrec122] at ih122
      have K136 : ∀ (x2 : Int32) (n : Nat) (x4 : Int32) (vax : Int32) (vay : Int32) (vaz : Int32) (cwas : Nat → Int32) (cways : Nat → Int32) (cnextWas : Nat → Int32) (cnextWays : Nat → Int32) (H : Heap) (locs : List Loc) (ls : Array Slot), oLoop8 (f_M_rounds_L136 rec122 vpoints vplanes vaxes cpx cpy cpz cplane caxis x1 vthrown cnowWas cnowWays cto x2) n x4 vax vay vaz cwas cways cnextWas cnextWays = some (r_, o_vthrown, o_vax, o_vay, o_vaz, o_cwas, o_cways, o_cnextWas, o_cnextWays, o_cnowWas, o_cnowWays, o_cto) → va_P (dC, dI) vwCl (w_M qM q_px q_py q_pz q_plane q_axis q_was q_ways q_keptWas q_keptWays q_keptPoints q_nextWas q_nextWays q_nowWas q_nowWays q_to cI vthrown vpoints vplanes vaxes vkept vax vay vaz cpx cpy cpz cplane caxis cwas cways ckeptWas ckeptWays ckeptPoints cnextWas cnextWays cnowWas cnowWays cto) H → va_D A (w_M qM q_px q_py q_pz q_plane q_axis q_was q_ways q_keptWas q_keptWays q_keptPoints q_nextWas q_nextWays q_nowWas q_nowWays q_to cI vthrown vpoints vplanes vaxes vkept vax vay vaz cpx cpy cpz cplane caxis cwas cways ckeptWas ckeptWays ckeptPoints cnextWas cnextWays cnowWas cnowWays cto) → va_S A s.heap H locs → lv_has ls 5 [(0, .ref qM), (1, .int x1), (2, .int x2), (4, .int x4)] → Wx H locs 0 0 (F0 m 136 ls []) := by
        intro x2 n
        induction n with
        | zero => intro x4 vax vay vaz cwas cways cnextWas cnextWays H locs ls hf; exact (oLoop8_0 hf).elim
        | succ n ih136 =>
          obtain ⟨rec136, hrec136⟩ : ∃ z, z = oLoop8 (f_M_rounds_L136 rec122 vpoints vplanes vaxes cpx cpy cpz cplane caxis x1 vthrown cnowWas cnowWays cto x2) n := ⟨_, rfl⟩
          rw [← hrec136] at ih136
          intro x4 vax vay vaz cwas cways cnextWas cnextWays H locs ls hf hP hD hS hl
          refine toX _ _ _ _ _ ?_
          have hf := oLoop8_s hf
          rw [← hrec136] at hf
          unfold f_M_rounds_L136 at hf
          refine lv_iload hx hb d_M_rounds_136 (lv_at hl 3 rfl) ?_
          refine lv_iload_n hx hb d_M_rounds_138 rfl (lv_at hl 1 rfl) ?_
          refine lv_icmp_ge (tgt := 156) hx hb d_M_rounds_139 (by decide) (fun c10 => ?_) (fun c10 => ?_)
          · have hf := oIf_t hf c10
            obtain ⟨v11, ev11, hf⟩ := oLet_ex hf
            refine lv_iinc (v := v11) (lv' := [(2, .int v11), (0, .ref qM), (1, .int x1), (4, .int x4)]) hx hb d_M_rounds_156 hl (k := 2) rfl (by rw [ev11]; rfl) (by decide) rfl (fun ls hl => ?_)
            refine lv_aload_n hx hb d_M_rounds_159 rfl (lv_at hl 1 rfl) ?_
            obtain ⟨r12z, hfc, hf⟩ := oCall1_some hf
            have hPc := hP.sub (ws' := (w_M qM q_px q_py q_pz q_plane q_axis q_was q_ways q_keptWas q_keptWays q_keptPoints q_nextWas q_nextWays q_nowWas q_nowWays q_to cI vthrown vpoints vplanes vaxes vkept vax vay vaz cpx cpy cpz cplane caxis cwas cways ckeptWas ckeptWays ckeptPoints cnextWas cnextWays cnowWas cnowWays cto)) [0, 1, 2, 3, 4, 5, 6, 7, 8, 9, 10, 11, 12, 13, 14, 15] rfl
            refine vp_callSi (va_runV (As := []) (rest := []) ⟨hx, hb, hml, hown, ht⟩ (c_M_isNow l dC dI qM q_px q_py q_pz q_plane q_axis q_was q_ways q_keptWas q_keptWays q_keptPoints q_nextWas q_nextWays q_nowWas q_nowWays q_to cI cJ cQ vthrown vpoints vplanes vaxes vkept vax vay vaz cpx cpy cpz cplane caxis cwas cways ckeptWas ckeptWays ckeptPoints cnextWas cnextWays cnowWas cnowWays cto r12z hfc) (cwV 0 ht (gV m_577 m_579 m_26 m_31 m_580) rfl rfl rfl (by decide +kernel) ⟨Nat.le_of_ble_eq_true rfl, Nat.le_of_ble_eq_true rfl⟩) (preRV hPc hK hZ (va_recv hK hPc (ci := 3) (q0 := 0) rfl rfl)) rfl rfl hl.1 rfl (lv_room (Nat.le_of_ble_eq_true rfl)) d_M_rounds_160 ⟨Nat.le_of_ble_eq_true rfl, Nat.le_of_ble_eq_true rfl⟩).run (fun r12 hw => ?_)
            subst hw
            clear hPc hfc
            refine lv_istore_n (lv' := [(3, .int r12), (2, .int v11), (0, .ref qM), (1, .int x1), (4, .int x4)]) hx hb d_M_rounds_163 rfl hl (by decide) rfl (fun ls hl => ?_)
            refine lv_goto (tgt := 122) hx hb d_M_rounds_164 (by decide) ?_
            exact ofX _ _ _ _ _ (ih122 v11 r12 vax vay vaz cwas cways cnextWas cnextWays _ _ _ hf hP hD hS (lv_sub hl [2, 3, 1, 0] rfl))
          · have hf := oIf_f hf c10
            refine lv_aload_n hx hb d_M_rounds_142 rfl (lv_at hl 0 rfl) ?_
            refine lv_iload hx hb d_M_rounds_143 (lv_at hl 3 rfl) ?_
            refine lv_iload hx hb d_M_rounds_145 (lv_at hl 3 rfl) ?_
            obtain ⟨o13, o14, o15, o16, o17, o18, o19, hfc, hf⟩ := oCall7_some hf
            have hPc := hP.sub (ws' := (w_M qM q_px q_py q_pz q_plane q_axis q_was q_ways q_keptWas q_keptWays q_keptPoints q_nextWas q_nextWays q_nowWas q_nowWays q_to cI vthrown vpoints vplanes vaxes vkept vax vay vaz cpx cpy cpz cplane caxis cwas cways ckeptWas ckeptWays ckeptPoints cnextWas cnextWays cnowWas cnowWays cto)) [0, 1, 2, 3, 4, 5, 6, 7, 8, 9, 10, 11, 12, 13, 14, 15] rfl
            have hDc := hD.sub (ws' := (w_M qM q_px q_py q_pz q_plane q_axis q_was q_ways q_keptWas q_keptWays q_keptPoints q_nextWas q_nextWays q_nowWas q_nowWays q_to cI vthrown vpoints vplanes vaxes vkept vax vay vaz cpx cpy cpz cplane caxis cwas cways ckeptWas ckeptWays ckeptPoints cnextWas cnextWays cnowWas cnowWays cto)) [0, 1, 2, 3, 4, 5, 6, 7, 8, 9, 10, 11, 12, 13, 14, 15] (by decide) rfl
            have hFc := va_free (wc := (w_M qM q_px q_py q_pz q_plane q_axis q_was q_ways q_keptWas q_keptWays q_keptPoints q_nextWas q_nextWays q_nowWas q_nowWays q_to cI vthrown vpoints vplanes vaxes vkept vax vay vaz cpx cpy cpz cplane caxis cwas cways ckeptWas ckeptWays ckeptPoints cnextWas cnextWays cnowWas cnowWays cto)) hD hS hA [0, 1, 2, 3, 4, 5, 6, 7, 8, 9, 10, 11, 12, 13, 14, 15] rfl
            refine va_callv (va_runV (As := [.int x4, .int x4]) (rest := []) ⟨hx, hb, hml, hown, ht⟩ (c_M_turnOnce l dC dI qM q_px q_py q_pz q_plane q_axis q_was q_ways q_keptWas q_keptWays q_keptPoints q_nextWas q_nextWays q_nowWas q_nowWays q_to cI cJ cQ H.size vthrown vpoints vplanes vaxes vkept vax vay vaz cpx cpy cpz cplane caxis cwas cways ckeptWas ckeptWays ckeptPoints cnextWas cnextWays cnowWas cnowWays cto x4 x4 o13 o14 o15 o16 o17 o18 o19 hfc) (cwV 2 ht (gV m_522 m_524 m_22 m_31 m_525) rfl rfl rfl (by decide +kernel) ⟨Nat.le_of_ble_eq_true rfl, Nat.le_of_ble_eq_true rfl⟩) (preMV hPc hK hZ hDc (va_recv hK hPc (ci := 3) (q0 := 0) rfl rfl)) rfl rfl hl.1 rfl (lv_room (Nat.le_of_ble_eq_true rfl)) d_M_rounds_147 ⟨Nat.le_of_ble_eq_true rfl, Nat.le_of_ble_eq_true rfl⟩) hS (fun q _ h => hFc q h) hFc (fun u t H1 locs ht9 hvm hw hB hz1 hk1 hS => ?_)
            obtain ⟨hP1, hD1⟩ := hB
            rw [ht9] at hP1
            obtain ⟨hP, hD⟩ := va_join (wr := []) (w1 := (w_M qM q_px q_py q_pz q_plane q_axis q_was q_ways q_keptWas q_keptWays q_keptPoints q_nextWas q_nextWays q_nowWas q_nowWays q_to cI vthrown vpoints vplanes vaxes vkept o13 o14 o15 cpx cpy cpz cplane caxis o16 o17 ckeptWas ckeptWays ckeptPoints o18 o19 cnowWas cnowWays cto)) hP hD [0, 1, 2, 3, 4, 5, 6, 7, 8, 9, 10, 11, 12, 13, 14, 15] [] rfl rfl (by decide) (by decide) hk1 hFc hP1 hD1
            have hP := hP.sub (ws' := (w_M qM q_px q_py q_pz q_plane q_axis q_was q_ways q_keptWas q_keptWays q_keptPoints q_nextWas q_nextWays q_nowWas q_nowWays q_to cI vthrown vpoints vplanes vaxes vkept o13 o14 o15 cpx cpy cpz cplane caxis o16 o17 ckeptWas ckeptWays ckeptPoints o18 o19 cnowWas cnowWays cto)) [0, 1, 2, 3, 4, 5, 6, 7, 8, 9, 10, 11, 12, 13, 14, 15] rfl
            have hD := hD.sub (ws' := (w_M qM q_px q_py q_pz q_plane q_axis q_was q_ways q_keptWas q_keptWays q_keptPoints q_nextWas q_nextWays q_nowWas q_nowWays q_to cI vthrown vpoints vplanes vaxes vkept o13 o14 o15 cpx cpy cpz cplane caxis o16 o17 ckeptWas ckeptWays ckeptPoints o18 o19 cnowWas cnowWays cto)) [0, 1, 2, 3, 4, 5, 6, 7, 8, 9, 10, 11, 12, 13, 14, 15] (by decide) rfl
            clear hPc hDc hFc hP1 hD1 hz1 hk1 ht9 hvm hfc
            generalize H1 = H at hP hS ⊢
            obtain ⟨v20, ev20, hf⟩ := oLet_ex hf
            refine lv_iinc (v := v20) (lv' := [(4, .int v20), (0, .ref qM), (1, .int x1), (2, .int x2)]) hx hb d_M_rounds_150 hl (k := 3) rfl (by rw [ev20]; rfl) (by decide) rfl (fun ls hl => ?_)
            refine lv_goto (tgt := 136) hx hb d_M_rounds_153 (by decide) ?_
            exact ofX _ _ _ _ _ (ih136 v20 o13 o14 o15 o16 o17 o18 o19 _ _ _ hf hP hD hS (lv_sub hl [1, 2, 3, 0] rfl))
      intro x2 x3 vax vay vaz cwas cways cnextWas cnextWays H locs ls hf hP hD hS hl
      refine toX _ _ _ _ _ ?_
      have hf := oLoop9_s hf
      rw [← hrec122] at hf
      unfold f_M_rounds_L122 at hf
      refine lv_iload_n hx hb d_M_rounds_122 rfl (lv_at hl 3 rfl) ?_
      refine lv_if_ne (tgt := 167) hx hb d_M_rounds_123 (by decide) (fun c21 => ?_) (fun c21 => ?_)
      · have hf := oIf_f hf c21
        exact ofX _ _ _ _ _ (K167  x2 x3 vthrown vax vay vaz cwas cways cnextWas cnextWays cnowWas cnowWays cto _ _ _ hf hP hD hS (lv_sub hl [0, 2, 3] rfl))
      · have hf := oIf_t hf c21
        refine lv_iload_n hx hb d_M_rounds_126 rfl (lv_at hl 2 rfl) ?_
        refine lv_sipush (v := 2000) hx hb d_M_rounds_127 (by decide) ?_
        refine lv_icmp_ge (tgt := 167) hx hb d_M_rounds_130 (by decide) (fun c22 => ?_) (fun c22 => ?_)
        · have hf := oIf_t hf c22
          exact ofX _ _ _ _ _ (K167  x2 x3 vthrown vax vay vaz cwas cways cnextWas cnextWays cnowWas cnowWays cto _ _ _ hf hP hD hS (lv_sub hl [0, 2, 3] rfl))
        · have hf := oIf_f hf c22
          refine lv_iconst (v := 0) hx hb d_M_rounds_133 (by decide) ?_
          refine lv_istore (lv' := [(4, .int 0), (0, .ref qM), (1, .int x1), (2, .int x2), (3, .int x3)]) hx hb d_M_rounds_134 hl (by decide) rfl (fun ls hl => ?_)
          exact ofX _ _ _ _ _ (K136 x2 _ 0 vax vay vaz cwas cways cnextWas cnextWays _ _ _ hf hP hD hS (lv_sub hl [1, 2, 3, 0] rfl))
  have K80 : ∀ (x1 : Int32) (vthrown : Int32) (vax : Int32) (vay : Int32) (vaz : Int32) (cwas : Nat → Int32) (cways : Nat → Int32) (cnextWas : Nat → Int32) (cnextWays : Nat → Int32) (cto : Nat → Int32) (n : Nat) (x2 : Int32) (cnowWas : Nat → Int32) (cnowWays : Nat → Int32) (H : Heap) (locs : List Loc) (ls : Array Slot), oLoop3 (f_M_rounds_L80  vpoints vplanes vaxes cpx cpy cpz cplane caxis x1 vthrown vax vay vaz cwas cways cnextWas cnextWays cto) n x2 cnowWas cnowWays = some (r_, o_vthrown, o_vax, o_vay, o_vaz, o_cwas, o_cways, o_cnextWas, o_cnextWays, o_cnowWas, o_cnowWays, o_cto) → va_P (dC, dI) vwCl (w_M qM q_px q_py q_pz q_plane q_axis q_was q_ways q_keptWas q_keptWays q_keptPoints q_nextWas q_nextWays q_nowWas q_nowWays q_to cI vthrown vpoints vplanes vaxes vkept vax vay vaz cpx cpy cpz cplane caxis cwas cways ckeptWas ckeptWays ckeptPoints cnextWas cnextWays cnowWas cnowWays cto) H → va_D A (w_M qM q_px q_py q_pz q_plane q_axis q_was q_ways q_keptWas q_keptWays q_keptPoints q_nextWas q_nextWays q_nowWas q_nowWays q_to cI vthrown vpoints vplanes vaxes vkept vax vay vaz cpx cpy cpz cplane caxis cwas cways ckeptWas ckeptWays ckeptPoints cnextWas cnextWays cnowWas cnowWays cto) → va_S A s.heap H locs → lv_has ls 5 [(0, .ref qM), (1, .int x1), (2, .int x2)] → Wx H locs 0 0 (F0 m 80 ls []) := by
    intro x1 vthrown vax vay vaz cwas cways cnextWas cnextWays cto n
    induction n with
    | zero => intro x2 cnowWas cnowWays H locs ls hf; exact (oLoop3_0 hf).elim
    | succ n ih80 =>
      obtain ⟨rec80, hrec80⟩ : ∃ z, z = oLoop3 (f_M_rounds_L80  vpoints vplanes vaxes cpx cpy cpz cplane caxis x1 vthrown vax vay vaz cwas cways cnextWas cnextWays cto) n := ⟨_, rfl⟩
      rw [← hrec80] at ih80
      intro x2 cnowWas cnowWays H locs ls hf hP hD hS hl
      refine toX _ _ _ _ _ ?_
      have hf := oLoop3_s hf
      rw [← hrec80] at hf
      unfold f_M_rounds_L80 at hf
      refine lv_iload_n hx hb d_M_rounds_80 rfl (lv_at hl 2 rfl) ?_
      refine lv_aload_n hx hb d_M_rounds_81 rfl (lv_at hl 0 rfl) ?_
      refine va_get (D := (dC, dI)) (ci := 3) (v := .int vpoints) (C := R_M) (T := T_M) (N := 23) hx hb ht in_M hown hK hP 0 rfl rfl 1 (by decide) (ht _ m_347) (fun _ h9 => h9) rfl d_M_rounds_82 ?_
      refine lv_icmp_ge (tgt := 118) hx hb d_M_rounds_85 (by decide) (fun c23 => ?_) (fun c23 => ?_)
      · have hf := oIf_t hf c23
        refine lv_iconst (v := 0) hx hb d_M_rounds_118 (by decide) ?_
        refine lv_istore_n (lv' := [(2, .int 0), (0, .ref qM), (1, .int x1)]) hx hb d_M_rounds_119 rfl hl (by decide) rfl (fun ls hl => ?_)
        refine lv_iconst (v := 0) hx hb d_M_rounds_120 (by decide) ?_
        refine lv_istore_n (lv' := [(3, .int 0), (2, .int 0), (0, .ref qM), (1, .int x1)]) hx hb d_M_rounds_121 rfl hl (by decide) rfl (fun ls hl => ?_)
        exact ofX _ _ _ _ _ (K122 x1 vthrown cnowWas cnowWays cto _ 0 0 vax vay vaz cwas cways cnextWas cnextWays _ _ _ hf hP hD hS (lv_sub hl [2, 3, 1, 0] rfl))
      · have hf := oIf_f hf c23
        refine lv_aload_n hx hb d_M_rounds_88 rfl (lv_at hl 0 rfl) ?_
        refine va_get (D := (dC, dI)) (ci := 3) (v := .ref q_nowWas) (C := R_M) (T := T_M) (N := 23) hx hb ht in_M hown hK hP 0 rfl rfl 20 (by decide) (ht _ m_366) (fun _ h9 => h9) rfl d_M_rounds_89 ?_
        refine lv_iload_n hx hb d_M_rounds_92 rfl (lv_at hl 2 rfl) ?_
        refine lv_aload_n hx hb d_M_rounds_93 rfl (lv_at hl 0 rfl) ?_
        refine va_get (D := (dC, dI)) (ci := 3) (v := .ref q_was) (C := R_M) (T := T_M) (N := 23) hx hb ht in_M hown hK hP 0 rfl rfl 9 (by decide) (ht _ m_355) (fun _ h9 => h9) rfl d_M_rounds_94 ?_
        refine lv_iload_n hx hb d_M_rounds_97 rfl (lv_at hl 2 rfl) ?_
        obtain ⟨hi24, hf⟩ := oIn_some hf
        refine va_iald hx hb hK hP 6 0 rfl rfl hi24 d_M_rounds_98 ?_
        obtain ⟨hi25, hf⟩ := oIn_some hf
        refine va_iast hx hb hK hP hD hS 13 0 rfl rfl hi25 d_M_rounds_99 (fun H locs hP hD hS => ?_)
        obtain ⟨a26, ea26, hf⟩ := oLet_ex hf
        have hP : va_P (dC, dI) vwCl (w_M qM q_px q_py q_pz q_plane q_axis q_was q_ways q_keptWas q_keptWays q_keptPoints q_nextWas q_nextWays q_nowWas q_nowWays q_to cI vthrown vpoints vplanes vaxes vkept vax vay vaz cpx cpy cpz cplane caxis cwas cways ckeptWas ckeptWays ckeptPoints cnextWas cnextWays a26 cnowWays cto) H := by rw [ea26]; exact hP
        have hD : va_D A (w_M qM q_px q_py q_pz q_plane q_axis q_was q_ways q_keptWas q_keptWays q_keptPoints q_nextWas q_nextWays q_nowWas q_nowWays q_to cI vthrown vpoints vplanes vaxes vkept vax vay vaz cpx cpy cpz cplane caxis cwas cways ckeptWas ckeptWays ckeptPoints cnextWas cnextWays a26 cnowWays cto) := by rw [ea26]; exact hD
        refine lv_aload_n hx hb d_M_rounds_100 rfl (lv_at hl 0 rfl) ?_
        refine va_get (D := (dC, dI)) (ci := 3) (v := .ref q_nowWays) (C := R_M) (T := T_M) (N := 23) hx hb ht in_M hown hK hP 0 rfl rfl 21 (by decide) (ht _ m_367) (fun _ h9 => h9) rfl d_M_rounds_101 ?_
        refine lv_iload_n hx hb d_M_rounds_104 rfl (lv_at hl 2 rfl) ?_
        refine lv_aload_n hx hb d_M_rounds_105 rfl (lv_at hl 0 rfl) ?_
        refine va_get (D := (dC, dI)) (ci := 3) (v := .ref q_ways) (C := R_M) (T := T_M) (N := 23) hx hb ht in_M hown hK hP 0 rfl rfl 10 (by decide) (ht _ m_356) (fun _ h9 => h9) rfl d_M_rounds_106 ?_
        refine lv_iload_n hx hb d_M_rounds_109 rfl (lv_at hl 2 rfl) ?_
        obtain ⟨hi27, hf⟩ := oIn_some hf
        refine va_iald hx hb hK hP 7 0 rfl rfl hi27 d_M_rounds_110 ?_
        obtain ⟨hi28, hf⟩ := oIn_some hf
        refine va_iast hx hb hK hP hD hS 14 0 rfl rfl hi28 d_M_rounds_111 (fun H locs hP hD hS => ?_)
        obtain ⟨a29, ea29, hf⟩ := oLet_ex hf
        have hP : va_P (dC, dI) vwCl (w_M qM q_px q_py q_pz q_plane q_axis q_was q_ways q_keptWas q_keptWays q_keptPoints q_nextWas q_nextWays q_nowWas q_nowWays q_to cI vthrown vpoints vplanes vaxes vkept vax vay vaz cpx cpy cpz cplane caxis cwas cways ckeptWas ckeptWays ckeptPoints cnextWas cnextWays a26 a29 cto) H := by rw [ea29]; exact hP
        have hD : va_D A (w_M qM q_px q_py q_pz q_plane q_axis q_was q_ways q_keptWas q_keptWays q_keptPoints q_nextWas q_nextWays q_nowWas q_nowWays q_to cI vthrown vpoints vplanes vaxes vkept vax vay vaz cpx cpy cpz cplane caxis cwas cways ckeptWas ckeptWays ckeptPoints cnextWas cnextWays a26 a29 cto) := by rw [ea29]; exact hD
        obtain ⟨v30, ev30, hf⟩ := oLet_ex hf
        refine lv_iinc (v := v30) (lv' := [(2, .int v30), (0, .ref qM), (1, .int x1)]) hx hb d_M_rounds_112 hl (k := 2) rfl (by rw [ev30]; rfl) (by decide) rfl (fun ls hl => ?_)
        refine lv_goto (tgt := 80) hx hb d_M_rounds_115 (by decide) ?_
        exact ofX _ _ _ _ _ (ih80 v30 a26 a29 _ _ _ hf hP hD hS (lv_sub hl [1, 2, 0] rfl))
  have K60 : ∀ (x1 : Int32) (vthrown : Int32) (cwas : Nat → Int32) (cways : Nat → Int32) (cnextWas : Nat → Int32) (cnextWays : Nat → Int32) (cnowWas : Nat → Int32) (cnowWays : Nat → Int32) (n : Nat) (x2 : Int32) (vax : Int32) (vay : Int32) (vaz : Int32) (cto : Nat → Int32) (H : Heap) (locs : List Loc) (ls : Array Slot), oLoop5 (f_M_rounds_L60  vpoints vplanes vaxes cpx cpy cpz cplane caxis x1 vthrown cwas cways cnextWas cnextWays cnowWas cnowWays) n x2 vax vay vaz cto = some (r_, o_vthrown, o_vax, o_vay, o_vaz, o_cwas, o_cways, o_cnextWas, o_cnextWays, o_cnowWas, o_cnowWays, o_cto) → va_P (dC, dI) vwCl (w_M qM q_px q_py q_pz q_plane q_axis q_was q_ways q_keptWas q_keptWays q_keptPoints q_nextWas q_nextWays q_nowWas q_nowWays q_to cI vthrown vpoints vplanes vaxes vkept vax vay vaz cpx cpy cpz cplane caxis cwas cways ckeptWas ckeptWays ckeptPoints cnextWas cnextWays cnowWas cnowWays cto) H → va_D A (w_M qM q_px q_py q_pz q_plane q_axis q_was q_ways q_keptWas q_keptWays q_keptPoints q_nextWas q_nextWays q_nowWas q_nowWays q_to cI vthrown vpoints vplanes vaxes vkept vax vay vaz cpx cpy cpz cplane caxis cwas cways ckeptWas ckeptWays ckeptPoints cnextWas cnextWays cnowWas cnowWays cto) → va_S A s.heap H locs → lv_has ls 5 [(0, .ref qM), (1, .int x1), (2, .int x2)] → Wx H locs 0 0 (F0 m 60 ls []) := by
    intro x1 vthrown cwas cways cnextWas cnextWays cnowWas cnowWays n
    induction n with
    | zero => intro x2 vax vay vaz cto H locs ls hf; exact (oLoop5_0 hf).elim
    | succ n ih60 =>
      obtain ⟨rec60, hrec60⟩ : ∃ z, z = oLoop5 (f_M_rounds_L60  vpoints vplanes vaxes cpx cpy cpz cplane caxis x1 vthrown cwas cways cnextWas cnextWays cnowWas cnowWays) n := ⟨_, rfl⟩
      rw [← hrec60] at ih60
      intro x2 vax vay vaz cto H locs ls hf hP hD hS hl
      refine toX _ _ _ _ _ ?_
      have hf := oLoop5_s hf
      rw [← hrec60] at hf
      unfold f_M_rounds_L60 at hf
      refine lv_iload_n hx hb d_M_rounds_60 rfl (lv_at hl 2 rfl) ?_
      refine lv_iload_n hx hb d_M_rounds_61 rfl (lv_at hl 1 rfl) ?_
      refine lv_icmp_ge (tgt := 78) hx hb d_M_rounds_62 (by decide) (fun c31 => ?_) (fun c31 => ?_)
      · have hf := oIf_t hf c31
        refine lv_iconst (v := 0) hx hb d_M_rounds_78 (by decide) ?_
        refine lv_istore_n (lv' := [(2, .int 0), (0, .ref qM), (1, .int x1)]) hx hb d_M_rounds_79 rfl hl (by decide) rfl (fun ls hl => ?_)
        exact ofX _ _ _ _ _ (K80 x1 vthrown vax vay vaz cwas cways cnextWas cnextWays cto _ 0 cnowWas cnowWays _ _ _ hf hP hD hS (lv_sub hl [1, 2, 0] rfl))
      · have hf := oIf_f hf c31
        refine lv_aload_n hx hb d_M_rounds_65 rfl (lv_at hl 0 rfl) ?_
        refine lv_iload_n hx hb d_M_rounds_66 rfl (lv_at hl 2 rfl) ?_
        refine lv_iload_n hx hb d_M_rounds_67 rfl (lv_at hl 2 rfl) ?_
        refine lv_iload_n hx hb d_M_rounds_68 rfl (lv_at hl 2 rfl) ?_
        obtain ⟨o32, o33, o34, o35, hfc, hf⟩ := oCall4_some hf
        have hPc := hP.sub (ws' := (w_M qM q_px q_py q_pz q_plane q_axis q_was q_ways q_keptWas q_keptWays q_keptPoints q_nextWas q_nextWays q_nowWas q_nowWays q_to cI vthrown vpoints vplanes vaxes vkept vax vay vaz cpx cpy cpz cplane caxis cwas cways ckeptWas ckeptWays ckeptPoints cnextWas cnextWays cnowWas cnowWays cto)) [0, 1, 2, 3, 4, 5, 6, 7, 8, 9, 10, 11, 12, 13, 14, 15] rfl
        have hDc := hD.sub (ws' := (w_M qM q_px q_py q_pz q_plane q_axis q_was q_ways q_keptWas q_keptWays q_keptPoints q_nextWas q_nextWays q_nowWas q_nowWays q_to cI vthrown vpoints vplanes vaxes vkept vax vay vaz cpx cpy cpz cplane caxis cwas cways ckeptWas ckeptWays ckeptPoints cnextWas cnextWays cnowWas cnowWays cto)) [0, 1, 2, 3, 4, 5, 6, 7, 8, 9, 10, 11, 12, 13, 14, 15] (by decide) rfl
        have hFc := va_free (wc := (w_M qM q_px q_py q_pz q_plane q_axis q_was q_ways q_keptWas q_keptWays q_keptPoints q_nextWas q_nextWays q_nowWas q_nowWays q_to cI vthrown vpoints vplanes vaxes vkept vax vay vaz cpx cpy cpz cplane caxis cwas cways ckeptWas ckeptWays ckeptPoints cnextWas cnextWays cnowWas cnowWays cto)) hD hS hA [0, 1, 2, 3, 4, 5, 6, 7, 8, 9, 10, 11, 12, 13, 14, 15] rfl
        refine va_callv (va_runV (As := [.int x2, .int x2, .int x2]) (rest := []) ⟨hx, hb, hml, hown, ht⟩ (c_M_plan l dC dI qM q_px q_py q_pz q_plane q_axis q_was q_ways q_keptWas q_keptWays q_keptPoints q_nextWas q_nextWays q_nowWas q_nowWays q_to cI cJ cQ H.size vthrown vpoints vplanes vaxes vkept vax vay vaz cpx cpy cpz cplane caxis cwas cways ckeptWas ckeptWays ckeptPoints cnextWas cnextWays cnowWas cnowWays cto x2 x2 x2 o32 o33 o34 o35 hfc) (cwV 3 ht (gV m_518 m_520 m_21 m_31 m_521) rfl rfl rfl (by decide +kernel) ⟨Nat.le_of_ble_eq_true rfl, Nat.le_of_ble_eq_true rfl⟩) (preMV hPc hK hZ hDc (va_recv hK hPc (ci := 3) (q0 := 0) rfl rfl)) rfl rfl hl.1 rfl (lv_room (Nat.le_of_ble_eq_true rfl)) d_M_rounds_69 ⟨Nat.le_of_ble_eq_true rfl, Nat.le_of_ble_eq_true rfl⟩) hS (fun q _ h => hFc q h) hFc (fun u t H1 locs ht9 hvm hw hB hz1 hk1 hS => ?_)
        obtain ⟨hP1, hD1⟩ := hB
        rw [ht9] at hP1
        obtain ⟨hP, hD⟩ := va_join (wr := []) (w1 := (w_M qM q_px q_py q_pz q_plane q_axis q_was q_ways q_keptWas q_keptWays q_keptPoints q_nextWas q_nextWays q_nowWas q_nowWays q_to cI vthrown vpoints vplanes vaxes vkept o32 o33 o34 cpx cpy cpz cplane caxis cwas cways ckeptWas ckeptWays ckeptPoints cnextWas cnextWays cnowWas cnowWays o35)) hP hD [0, 1, 2, 3, 4, 5, 6, 7, 8, 9, 10, 11, 12, 13, 14, 15] [] rfl rfl (by decide) (by decide) hk1 hFc hP1 hD1
        have hP := hP.sub (ws' := (w_M qM q_px q_py q_pz q_plane q_axis q_was q_ways q_keptWas q_keptWays q_keptPoints q_nextWas q_nextWays q_nowWas q_nowWays q_to cI vthrown vpoints vplanes vaxes vkept o32 o33 o34 cpx cpy cpz cplane caxis cwas cways ckeptWas ckeptWays ckeptPoints cnextWas cnextWays cnowWas cnowWays o35)) [0, 1, 2, 3, 4, 5, 6, 7, 8, 9, 10, 11, 12, 13, 14, 15] rfl
        have hD := hD.sub (ws' := (w_M qM q_px q_py q_pz q_plane q_axis q_was q_ways q_keptWas q_keptWays q_keptPoints q_nextWas q_nextWays q_nowWas q_nowWays q_to cI vthrown vpoints vplanes vaxes vkept o32 o33 o34 cpx cpy cpz cplane caxis cwas cways ckeptWas ckeptWays ckeptPoints cnextWas cnextWays cnowWas cnowWays o35)) [0, 1, 2, 3, 4, 5, 6, 7, 8, 9, 10, 11, 12, 13, 14, 15] (by decide) rfl
        clear hPc hDc hFc hP1 hD1 hz1 hk1 ht9 hvm hfc
        generalize H1 = H at hP hS ⊢
        obtain ⟨v36, ev36, hf⟩ := oLet_ex hf
        refine lv_iinc (v := v36) (lv' := [(2, .int v36), (0, .ref qM), (1, .int x1)]) hx hb d_M_rounds_72 hl (k := 2) rfl (by rw [ev36]; rfl) (by decide) rfl (fun ls hl => ?_)
        refine lv_goto (tgt := 60) hx hb d_M_rounds_75 (by decide) ?_
        exact ofX _ _ _ _ _ (ih60 v36 o32 o33 o34 o35 _ _ _ hf hP hD hS (lv_sub hl [1, 2, 0] rfl))
  have K36 : ∀ (x1 : Int32) (vthrown : Int32) (cwas : Nat → Int32) (cways : Nat → Int32) (cnextWas : Nat → Int32) (cnextWays : Nat → Int32) (cnowWas : Nat → Int32) (cnowWays : Nat → Int32) (cto : Nat → Int32) (n : Nat) (x2 : Int32) (vax : Int32) (vay : Int32) (vaz : Int32) (H : Heap) (locs : List Loc) (ls : Array Slot), oLoop4 (f_M_rounds_L36  vpoints vplanes vaxes cpx cpy cpz cplane caxis x1 vthrown cwas cways cnextWas cnextWays cnowWas cnowWays cto) n x2 vax vay vaz = some (r_, o_vthrown, o_vax, o_vay, o_vaz, o_cwas, o_cways, o_cnextWas, o_cnextWays, o_cnowWas, o_cnowWays, o_cto) → va_P (dC, dI) vwCl (w_M qM q_px q_py q_pz q_plane q_axis q_was q_ways q_keptWas q_keptWays q_keptPoints q_nextWas q_nextWays q_nowWas q_nowWays q_to cI vthrown vpoints vplanes vaxes vkept vax vay vaz cpx cpy cpz cplane caxis cwas cways ckeptWas ckeptWays ckeptPoints cnextWas cnextWays cnowWas cnowWays cto) H → va_D A (w_M qM q_px q_py q_pz q_plane q_axis q_was q_ways q_keptWas q_keptWays q_keptPoints q_nextWas q_nextWays q_nowWas q_nowWays q_to cI vthrown vpoints vplanes vaxes vkept vax vay vaz cpx cpy cpz cplane caxis cwas cways ckeptWas ckeptWays ckeptPoints cnextWas cnextWays cnowWas cnowWays cto) → va_S A s.heap H locs → lv_has ls 5 [(0, .ref qM), (1, .int x1), (2, .int x2)] → Wx H locs 0 0 (F0 m 36 ls []) := by
    intro x1 vthrown cwas cways cnextWas cnextWays cnowWas cnowWays cto n
    induction n with
    | zero => intro x2 vax vay vaz H locs ls hf; exact (oLoop4_0 hf).elim
    | succ n ih36 =>
      obtain ⟨rec36, hrec36⟩ : ∃ z, z = oLoop4 (f_M_rounds_L36  vpoints vplanes vaxes cpx cpy cpz cplane caxis x1 vthrown cwas cways cnextWas cnextWays cnowWas cnowWays cto) n := ⟨_, rfl⟩
      rw [← hrec36] at ih36
      intro x2 vax vay vaz H locs ls hf hP hD hS hl
      refine toX _ _ _ _ _ ?_
      have hf := oLoop4_s hf
      rw [← hrec36] at hf
      unfold f_M_rounds_L36 at hf
      refine lv_iload_n hx hb d_M_rounds_36 rfl (lv_at hl 2 rfl) ?_
      refine lv_iload_n hx hb d_M_rounds_37 rfl (lv_at hl 1 rfl) ?_
      refine lv_icmp_ge (tgt := 58) hx hb d_M_rounds_38 (by decide) (fun c37 => ?_) (fun c37 => ?_)
      · have hf := oIf_t hf c37
        refine lv_iconst (v := 0) hx hb d_M_rounds_58 (by decide) ?_
        refine lv_istore_n (lv' := [(2, .int 0), (0, .ref qM), (1, .int x1)]) hx hb d_M_rounds_59 rfl hl (by decide) rfl (fun ls hl => ?_)
        exact ofX _ _ _ _ _ (K60 x1 vthrown cwas cways cnextWas cnextWays cnowWas cnowWays _ 0 vax vay vaz cto _ _ _ hf hP hD hS (lv_sub hl [1, 2, 0] rfl))
      · have hf := oIf_f hf c37
        refine lv_aload_n hx hb d_M_rounds_41 rfl (lv_at hl 0 rfl) ?_
        refine lv_iload_n hx hb d_M_rounds_42 rfl (lv_at hl 2 rfl) ?_
        refine lv_iload_n hx hb d_M_rounds_43 rfl (lv_at hl 2 rfl) ?_
        obtain ⟨r41z, o38, o39, o40, hfc, hf⟩ := oCall4_some hf
        have hPc := hP.sub (ws' := (w_M qM q_px q_py q_pz q_plane q_axis q_was q_ways q_keptWas q_keptWays q_keptPoints q_nextWas q_nextWays q_nowWas q_nowWays q_to cI vthrown vpoints vplanes vaxes vkept vax vay vaz cpx cpy cpz cplane caxis cwas cways ckeptWas ckeptWays ckeptPoints cnextWas cnextWays cnowWas cnowWays cto)) [0, 1, 2, 3, 4, 5, 6, 7, 8, 9, 10, 11, 12, 13, 14, 15] rfl
        have hDc := hD.sub (ws' := (w_M qM q_px q_py q_pz q_plane q_axis q_was q_ways q_keptWas q_keptWays q_keptPoints q_nextWas q_nextWays q_nowWas q_nowWays q_to cI vthrown vpoints vplanes vaxes vkept vax vay vaz cpx cpy cpz cplane caxis cwas cways ckeptWas ckeptWays ckeptPoints cnextWas cnextWays cnowWas cnowWays cto)) [0, 1, 2, 3, 4, 5, 6, 7, 8, 9, 10, 11, 12, 13, 14, 15] (by decide) rfl
        have hFc := va_free (wc := (w_M qM q_px q_py q_pz q_plane q_axis q_was q_ways q_keptWas q_keptWays q_keptPoints q_nextWas q_nextWays q_nowWas q_nowWays q_to cI vthrown vpoints vplanes vaxes vkept vax vay vaz cpx cpy cpz cplane caxis cwas cways ckeptWas ckeptWays ckeptPoints cnextWas cnextWays cnowWas cnowWays cto)) hD hS hA [0, 1, 2, 3, 4, 5, 6, 7, 8, 9, 10, 11, 12, 13, 14, 15] rfl
        refine va_calli (va_runV (As := [.int x2, .int x2]) (rest := []) ⟨hx, hb, hml, hown, ht⟩ (c_M_blocked l dC dI qM q_px q_py q_pz q_plane q_axis q_was q_ways q_keptWas q_keptWays q_keptPoints q_nextWas q_nextWays q_nowWas q_nowWays q_to cI cJ cQ H.size vthrown vpoints vplanes vaxes vkept vax vay vaz cpx cpy cpz cplane caxis cwas cways ckeptWas ckeptWays ckeptPoints cnextWas cnextWays cnowWas cnowWays cto x2 x2 r41z o38 o39 o40 hfc) (cwV 2 ht (gV m_514 m_516 m_20 m_31 m_517) rfl rfl rfl (by decide +kernel) ⟨Nat.le_of_ble_eq_true rfl, Nat.le_of_ble_eq_true rfl⟩) (preMV hPc hK hZ hDc (va_recv hK hPc (ci := 3) (q0 := 0) rfl rfl)) rfl rfl hl.1 rfl (lv_room (Nat.le_of_ble_eq_true rfl)) d_M_rounds_44 ⟨Nat.le_of_ble_eq_true rfl, Nat.le_of_ble_eq_true rfl⟩) hS (fun q _ h => hFc q h) hFc (fun r41 u t H1 locs ht9 hvm hw hB hz1 hk1 hS => ?_)
        obtain ⟨hP1, hD1⟩ := hB
        rw [ht9] at hP1
        subst hw
        obtain ⟨hP, hD⟩ := va_join (wr := []) (w1 := (w_M qM q_px q_py q_pz q_plane q_axis q_was q_ways q_keptWas q_keptWays q_keptPoints q_nextWas q_nextWays q_nowWas q_nowWays q_to cI vthrown vpoints vplanes vaxes vkept o38 o39 o40 cpx cpy cpz cplane caxis cwas cways ckeptWas ckeptWays ckeptPoints cnextWas cnextWays cnowWas cnowWays cto)) hP hD [0, 1, 2, 3, 4, 5, 6, 7, 8, 9, 10, 11, 12, 13, 14, 15] [] rfl rfl (by decide) (by decide) hk1 hFc hP1 hD1
        have hP := hP.sub (ws' := (w_M qM q_px q_py q_pz q_plane q_axis q_was q_ways q_keptWas q_keptWays q_keptPoints q_nextWas q_nextWays q_nowWas q_nowWays q_to cI vthrown vpoints vplanes vaxes vkept o38 o39 o40 cpx cpy cpz cplane caxis cwas cways ckeptWas ckeptWays ckeptPoints cnextWas cnextWays cnowWas cnowWays cto)) [0, 1, 2, 3, 4, 5, 6, 7, 8, 9, 10, 11, 12, 13, 14, 15] rfl
        have hD := hD.sub (ws' := (w_M qM q_px q_py q_pz q_plane q_axis q_was q_ways q_keptWas q_keptWays q_keptPoints q_nextWas q_nextWays q_nowWas q_nowWays q_to cI vthrown vpoints vplanes vaxes vkept o38 o39 o40 cpx cpy cpz cplane caxis cwas cways ckeptWas ckeptWays ckeptPoints cnextWas cnextWays cnowWas cnowWays cto)) [0, 1, 2, 3, 4, 5, 6, 7, 8, 9, 10, 11, 12, 13, 14, 15] (by decide) rfl
        clear hPc hDc hFc hP1 hD1 hz1 hk1 ht9 hvm hfc
        generalize H1 = H at hP hS ⊢
        refine lv_if_le (tgt := 52) hx hb d_M_rounds_47 (by decide) (fun c42 => ?_) (fun c42 => ?_)
        · have hf := oIf_t hf c42
          obtain ⟨v43, ev43, hf⟩ := oLet_ex hf
          refine lv_iinc (v := v43) (lv' := [(2, .int v43), (0, .ref qM), (1, .int x1)]) hx hb d_M_rounds_52 hl (k := 2) rfl (by rw [ev43]; rfl) (by decide) rfl (fun ls hl => ?_)
          refine lv_goto (tgt := 36) hx hb d_M_rounds_55 (by decide) ?_
          exact ofX _ _ _ _ _ (ih36 v43 o38 o39 o40 _ _ _ hf hP hD hS (lv_sub hl [1, 2, 0] rfl))
        · have hf := oIf_f hf c42
          refine lv_iconst (v := 0) hx hb d_M_rounds_50 (by decide) ?_
          cases hf
          exact W.iret hx hb hr (fun t ht hW => ⟨⟨_, (), rfl, rfl, by rw [ht]; exact hP, hD⟩, hS.F ht⟩) hS.2.2 d_M_rounds_51
  refine toX _ _ _ _ _ ?_
  unfold f_M_rounds at hf
  obtain ⟨H, hH⟩ : ∃ z, z = s.heap := ⟨_, rfl⟩
  have hS : va_S A s.heap H [] := by rw [hH]; exact hS
  have hP : va_P (dC, dI) vwCl (w_M qM q_px q_py q_pz q_plane q_axis q_was q_ways q_keptWas q_keptWays q_keptPoints q_nextWas q_nextWays q_nowWas q_nowWays q_to cI vthrown vpoints vplanes vaxes vkept vax vay vaz cpx cpy cpz cplane caxis cwas cways ckeptWas ckeptWays ckeptPoints cnextWas cnextWays cnowWas cnowWays cto) H := by rw [hH]; exact hP
  refine w_heap hH ?_
  refine lv_aload_n hx hb d_M_rounds_0 rfl (lv_at hl 0 rfl) ?_
  refine lv_iconst (v := 0) hx hb d_M_rounds_1 (by decide) ?_
  refine va_put (D := (dC, dI)) (ci := 3) (v := .int 0) (ty := .int) (C := R_M) (T := T_M) (N := 23) hx hb ht in_M t_M t_M_ok n_M hown hK hP hD hS 0 rfl rfl 0 (by decide) (ht _ m_346) (fun _ h9 => h9) rfl (by decide +kernel) rfl rfl (Nat.le_of_ble_eq_true rfl) d_M_rounds_2 (fun H locs hP hD hS => ?_)
  have hP : va_P (dC, dI) vwCl (w_M qM q_px q_py q_pz q_plane q_axis q_was q_ways q_keptWas q_keptWays q_keptPoints q_nextWas q_nextWays q_nowWas q_nowWays q_to cI 0 vpoints vplanes vaxes vkept vax vay vaz cpx cpy cpz cplane caxis cwas cways ckeptWas ckeptWays ckeptPoints cnextWas cnextWays cnowWas cnowWays cto) H := hP
  have hD : va_D A (w_M qM q_px q_py q_pz q_plane q_axis q_was q_ways q_keptWas q_keptWays q_keptPoints q_nextWas q_nextWays q_nowWas q_nowWays q_to cI 0 vpoints vplanes vaxes vkept vax vay vaz cpx cpy cpz cplane caxis cwas cways ckeptWas ckeptWays ckeptPoints cnextWas cnextWays cnowWas cnowWays cto) := hD
  refine lv_iload_n hx hb d_M_rounds_5 rfl (lv_at hl 1 rfl) ?_
  refine lv_iconst (v := 1) hx hb d_M_rounds_6 (by decide) ?_
  refine lv_icmp_lt (tgt := 32) hx hb d_M_rounds_7 (by decide) (fun c44 => ?_) (fun c44 => ?_)
  · have hf := oIf_t hf c44
    refine lv_iconst (v := 0) hx hb d_M_rounds_32 (by decide) ?_
    cases hf
    exact W.iret hx hb hr (fun t ht hW => ⟨⟨_, (), rfl, rfl, by rw [ht]; exact hP, hD⟩, hS.F ht⟩) hS.2.2 d_M_rounds_33
  · have hf := oIf_f hf c44
    refine lv_iload_n hx hb d_M_rounds_10 rfl (lv_at hl 1 rfl) ?_
    refine lv_bipush (v := 13) hx hb d_M_rounds_11 (by decide) ?_
    refine lv_icmp_gt (tgt := 32) hx hb d_M_rounds_13 (by decide) (fun c45 => ?_) (fun c45 => ?_)
    · have hf := oIf_t hf c45
      refine lv_iconst (v := 0) hx hb d_M_rounds_32 (by decide) ?_
      cases hf
      exact W.iret hx hb hr (fun t ht hW => ⟨⟨_, (), rfl, rfl, by rw [ht]; exact hP, hD⟩, hS.F ht⟩) hS.2.2 d_M_rounds_33
    · have hf := oIf_f hf c45
      refine lv_iload_n hx hb d_M_rounds_16 rfl (lv_at hl 1 rfl) ?_
      refine lv_aload_n hx hb d_M_rounds_17 rfl (lv_at hl 0 rfl) ?_
      refine va_get (D := (dC, dI)) (ci := 3) (v := .int vaxes) (C := R_M) (T := T_M) (N := 23) hx hb ht in_M hown hK hP 0 rfl rfl 3 (by decide) (ht _ m_349) (fun _ h9 => h9) rfl d_M_rounds_18 ?_
      refine lv_icmp_gt (tgt := 32) hx hb d_M_rounds_21 (by decide) (fun c46 => ?_) (fun c46 => ?_)
      · have hf := oIf_t hf c46
        refine lv_iconst (v := 0) hx hb d_M_rounds_32 (by decide) ?_
        cases hf
        exact W.iret hx hb hr (fun t ht hW => ⟨⟨_, (), rfl, rfl, by rw [ht]; exact hP, hD⟩, hS.F ht⟩) hS.2.2 d_M_rounds_33
      · have hf := oIf_f hf c46
        refine lv_iload_n hx hb d_M_rounds_24 rfl (lv_at hl 1 rfl) ?_
        refine lv_aload_n hx hb d_M_rounds_25 rfl (lv_at hl 0 rfl) ?_
        refine va_get (D := (dC, dI)) (ci := 3) (v := .int vplanes) (C := R_M) (T := T_M) (N := 23) hx hb ht in_M hown hK hP 0 rfl rfl 2 (by decide) (ht _ m_348) (fun _ h9 => h9) rfl d_M_rounds_26 ?_
        refine lv_icmp_le (tgt := 34) hx hb d_M_rounds_29 (by decide) (fun c47 => ?_) (fun c47 => ?_)
        · have hf := oIf_t hf c47
          refine lv_iconst (v := 0) hx hb d_M_rounds_34 (by decide) ?_
          refine lv_istore_n (lv' := [(2, .int 0), (0, .ref qM), (1, .int x1)]) hx hb d_M_rounds_35 rfl hl (by decide) rfl (fun ls hl => ?_)
          exact ofX _ _ _ _ _ (K36 x1 0 cwas cways cnextWas cnextWays cnowWas cnowWays cto _ 0 vax vay vaz _ _ _ hf hP hD hS (lv_sub hl [1, 2, 0] rfl))
        · have hf := oIf_f hf c47
          refine lv_iconst (v := 0) hx hb d_M_rounds_32 (by decide) ?_
          cases hf
          exact W.iret hx hb hr (fun t ht hW => ⟨⟨_, (), rfl, rfl, by rw [ht]; exact hP, hD⟩, hS.F ht⟩) hS.2.2 d_M_rounds_33
set_option maxHeartbeats 4000000 in
set_option maxRecDepth 100000 in
theorem c_M_keep (l : Launch) (dC : Nat → ClassId) (dI : Nat → Nat → Nat) (qM q_px q_py q_pz q_plane q_axis q_was q_ways q_keptWas q_keptWays q_keptPoints q_nextWas q_nextWays q_nowWas q_nowWays q_to : Nat) (cI cJ cQ : ClassId) (sz : Nat) (vthrown : Int32) (vpoints : Int32) (vplanes : Int32) (vaxes : Int32) (vkept : Int32) (vax : Int32) (vay : Int32) (vaz : Int32) (cpx : Nat → Int32) (cpy : Nat → Int32) (cpz : Nat → Int32) (cplane : Nat → Int32) (caxis : Nat → Int32) (cwas : Nat → Int32) (cways : Nat → Int32) (ckeptWas : Nat → Int32) (ckeptWays : Nat → Int32) (ckeptPoints : Nat → Int32) (cnextWas : Nat → Int32) (cnextWays : Nat → Int32) (cnowWas : Nat → Int32) (cnowWays : Nat → Int32) (cto : Nat → Int32) (r_ : Int32) (o_vthrown : Int32) (o_vkept : Int32) (o_ckeptWas : Nat → Int32) (o_ckeptWays : Nat → Int32) (o_ckeptPoints : Nat → Int32) (hf : f_M_keep vthrown vpoints vkept cwas cways ckeptWas ckeptWays ckeptPoints = some (r_, o_vthrown, o_vkept, o_ckeptWas, o_ckeptWays, o_ckeptPoints)) : Met l y_M_keep w_M_keep ({ frames := 0, cells := 0, slots := 0, locals := 0 }) (va_Pc [.ref qM] (fun U => U.heap.size = sz ∧ va_P (dC, dI) vwCl (w_M qM q_px q_py q_pz q_plane q_axis q_was q_ways q_keptWas q_keptWays q_keptPoints q_nextWas q_nextWays q_nowWas q_nowWays q_to cI vthrown vpoints vplanes vaxes vkept vax vay vaz cpx cpy cpz cplane caxis cwas cways ckeptWas ckeptWays ckeptPoints cnextWas cnextWays cnowWas cnowWays cto) U.heap ∧ va_K (dC, dI) vwCl [(cI, .int), (cJ, .long), (cQ, .object "CutBodies$Contents")] U ∧ nestZ U ∧ va_D (fun _ => True) (w_M qM q_px q_py q_pz q_plane q_axis q_was q_ways q_keptWas q_keptWays q_keptPoints q_nextWas q_nextWays q_nowWas q_nowWays q_to cI vthrown vpoints vplanes vaxes vkept vax vay vaz cpx cpy cpz cplane caxis cwas cways ckeptWas ckeptWays ckeptPoints cnextWas cnextWays cnowWas cnowWays cto))) (va_Qi (fun (r9 : Int32) (_ : Unit) => r9 = r_) (fun _ t => va_P (dC, dI) vwCl (w_M qM q_px q_py q_pz q_plane q_axis q_was q_ways q_keptWas q_keptWays q_keptPoints q_nextWas q_nextWays q_nowWas q_nowWays q_to cI o_vthrown vpoints vplanes vaxes o_vkept vax vay vaz cpx cpy cpz cplane caxis cwas cways o_ckeptWas o_ckeptWays o_ckeptPoints cnextWas cnextWays cnowWas cnowWays cto) t.heap ∧ va_D (va_A (w_M qM q_px q_py q_pz q_plane q_axis q_was q_ways q_keptWas q_keptWays q_keptPoints q_nextWas q_nextWays q_nowWas q_nowWays q_to cI vthrown vpoints vplanes vaxes vkept vax vay vaz cpx cpy cpz cplane caxis cwas cways ckeptWas ckeptWays ckeptPoints cnextWas cnextWays cnowWas cnowWays cto) sz) (w_M qM q_px q_py q_pz q_plane q_axis q_was q_ways q_keptWas q_keptWays q_keptPoints q_nextWas q_nextWays q_nowWas q_nowWays q_to cI o_vthrown vpoints vplanes vaxes o_vkept vax vay vaz cpx cpy cpz cplane caxis cwas cways o_ckeptWas o_ckeptWays o_ckeptPoints cnextWas cnextWays cnowWas cnowWays cto)) (va_A (w_M qM q_px q_py q_pz q_plane q_axis q_was q_ways q_keptWas q_keptWays q_keptPoints q_nextWas q_nextWays q_nowWas q_nowWays q_to cI vthrown vpoints vplanes vaxes vkept vax vay vaz cpx cpy cpz cplane caxis cwas cways ckeptWas ckeptWays ckeptPoints cnextWas cnextWays cnowWas cnowWays cto) sz)) 0 0 (va_A (w_M qM q_px q_py q_pz q_plane q_axis q_was q_ways q_keptWas q_keptWays q_keptPoints q_nextWas q_nextWays q_nowWas q_nowWays q_to cI vthrown vpoints vplanes vaxes vkept vax vay vaz cpx cpy cpz cplane caxis cwas cways ckeptWas ckeptWays ckeptPoints cnextWas cnextWays cnowWas cnowWays cto) sz) := by
  refine Met.ofW (cc := b_M_keep) (maxL := 2) (ret := (some .int)) (by decide) rfl ?_
  intro p e s m args below meth c s₁ B hml hv
  obtain ⟨rfl, hsz, hP, hK, hZ, hD0⟩ := hv
  have hx := B.exec
  have hb := B.bytes
  have hr := B.returns
  have hts := atoms_spec (ws := w_M_keep) B.pre
  have ht : ∀ w ∈ wAll, w.before _ s = true := fun w h => hts w (List.mem_cons_of_mem _ h)
  have hown : s.vm.findClass R_M = some m.cls := findClass_of_methodNamed B.named
  have hlocks := B.notSynchronized
  subst hsz
  have hD := hD0.self (sz := s.heap.size)
  generalize hAe : va_A (w_M qM q_px q_py q_pz q_plane q_axis q_was q_ways q_keptWas q_keptWays q_keptPoints q_nextWas q_nextWays q_nowWas q_nowWays q_to cI vthrown vpoints vplanes vaxes vkept vax vay vaz cpx cpy cpz cplane caxis cwas cways ckeptWas ckeptWays ckeptPoints cnextWas cnextWays cnowWas cnowWays cto) s.heap.size = A at hD ⊢
  have hA : ∀ q : Nat, s.heap.size ≤ q → A q := fun q h => by rw [← hAe]; exact Or.inr h
  have hS : va_S A s.heap s.heap [] := va_S.rf
  have hP : va_P (dC, dI) vwCl (w_M qM q_px q_py q_pz q_plane q_axis q_was q_ways q_keptWas q_keptWays q_keptPoints q_nextWas q_nextWays q_nowWas q_nowWays q_to cI vthrown vpoints vplanes vaxes vkept vax vay vaz cpx cpy cpz cplane caxis cwas cways ckeptWas ckeptWays ckeptPoints cnextWas cnextWays cnowWas cnowWays cto) s.heap := hP
  have hl := lv_entry ([.ref qM]) (n := 2) (Nat.le_of_ble_eq_true rfl)
  rw [lg_entry_eq]
  generalize (lg_sl ([.ref qM]) ++ List.replicate (2 - (lg_sl ([.ref qM])).length) Slot.unset).toArray = ls at hl ⊢
  have hl : lv_has ls 2 [(0, .ref qM)] := hl
  refine w_abs (fun Wx toX ofX => ?_)
  have K18 : ∀ (vthrown : Int32) (vkept : Int32) (ckeptPoints : Nat → Int32) (n : Nat) (x1 : Int32) (ckeptWas : Nat → Int32) (ckeptWays : Nat → Int32) (H : Heap) (locs : List Loc) (ls : Array Slot), oLoop3 (f_M_keep_L18  vpoints cwas cways vthrown vkept ckeptPoints) n x1 ckeptWas ckeptWays = some (r_, o_vthrown, o_vkept, o_ckeptWas, o_ckeptWays, o_ckeptPoints) → va_P (dC, dI) vwCl (w_M qM q_px q_py q_pz q_plane q_axis q_was q_ways q_keptWas q_keptWays q_keptPoints q_nextWas q_nextWays q_nowWas q_nowWays q_to cI vthrown vpoints vplanes vaxes vkept vax vay vaz cpx cpy cpz cplane caxis cwas cways ckeptWas ckeptWays ckeptPoints cnextWas cnextWays cnowWas cnowWays cto) H → va_D A (w_M qM q_px q_py q_pz q_plane q_axis q_was q_ways q_keptWas q_keptWays q_keptPoints q_nextWas q_nextWays q_nowWas q_nowWays q_to cI vthrown vpoints vplanes vaxes vkept vax vay vaz cpx cpy cpz cplane caxis cwas cways ckeptWas ckeptWays ckeptPoints cnextWas cnextWays cnowWas cnowWays cto) → va_S A s.heap H locs → lv_has ls 2 [(0, .ref qM), (1, .int x1)] → Wx H locs 0 0 (F0 m 18 ls []) := by
    intro vthrown vkept ckeptPoints n
    induction n with
    | zero => intro x1 ckeptWas ckeptWays H locs ls hf; exact (oLoop3_0 hf).elim
    | succ n ih18 =>
      obtain ⟨rec18, hrec18⟩ : ∃ z, z = oLoop3 (f_M_keep_L18  vpoints cwas cways vthrown vkept ckeptPoints) n := ⟨_, rfl⟩
      rw [← hrec18] at ih18
      intro x1 ckeptWas ckeptWays H locs ls hf hP hD hS hl
      refine toX _ _ _ _ _ ?_
      have hf := oLoop3_s hf
      rw [← hrec18] at hf
      unfold f_M_keep_L18 at hf
      refine lv_iload_n hx hb d_M_keep_18 rfl (lv_at hl 1 rfl) ?_
      refine lv_aload_n hx hb d_M_keep_19 rfl (lv_at hl 0 rfl) ?_
      refine va_get (D := (dC, dI)) (ci := 3) (v := .int vpoints) (C := R_M) (T := T_M) (N := 23) hx hb ht in_M hown hK hP 0 rfl rfl 1 (by decide) (ht _ m_347) (fun _ h9 => h9) rfl d_M_keep_20 ?_
      refine lv_icmp_ge (tgt := 72) hx hb d_M_keep_23 (by decide) (fun c1 => ?_) (fun c1 => ?_)
      · have hf := oIf_t hf c1
        refine lv_aload_n hx hb d_M_keep_72 rfl (lv_at hl 0 rfl) ?_
        refine va_get (D := (dC, dI)) (ci := 3) (v := .ref q_keptPoints) (C := R_M) (T := T_M) (N := 23) hx hb ht in_M hown hK hP 0 rfl rfl 14 (by decide) (ht _ m_360) (fun _ h9 => h9) rfl d_M_keep_73 ?_
        refine lv_aload_n hx hb d_M_keep_76 rfl (lv_at hl 0 rfl) ?_
        refine va_get (D := (dC, dI)) (ci := 3) (v := .int vkept) (C := R_M) (T := T_M) (N := 23) hx hb ht in_M hown hK hP 0 rfl rfl 11 (by decide) (ht _ m_357) (fun _ h9 => h9) rfl d_M_keep_77 ?_
        refine lv_aload_n hx hb d_M_keep_80 rfl (lv_at hl 0 rfl) ?_
        refine va_get (D := (dC, dI)) (ci := 3) (v := .int vpoints) (C := R_M) (T := T_M) (N := 23) hx hb ht in_M hown hK hP 0 rfl rfl 1 (by decide) (ht _ m_347) (fun _ h9 => h9) rfl d_M_keep_81 ?_
        obtain ⟨hi2, hf⟩ := oIn_some hf
        refine va_iast hx hb hK hP hD hS 10 0 rfl rfl hi2 d_M_keep_84 (fun H locs hP hD hS => ?_)
        obtain ⟨a3, ea3, hf⟩ := oLet_ex hf
        have hP : va_P (dC, dI) vwCl (w_M qM q_px q_py q_pz q_plane q_axis q_was q_ways q_keptWas q_keptWays q_keptPoints q_nextWas q_nextWays q_nowWas q_nowWays q_to cI vthrown vpoints vplanes vaxes vkept vax vay vaz cpx cpy cpz cplane caxis cwas cways ckeptWas ckeptWays a3 cnextWas cnextWays cnowWas cnowWays cto) H := by rw [ea3]; exact hP
        have hD : va_D A (w_M qM q_px q_py q_pz q_plane q_axis q_was q_ways q_keptWas q_keptWays q_keptPoints q_nextWas q_nextWays q_nowWas q_nowWays q_to cI vthrown vpoints vplanes vaxes vkept vax vay vaz cpx cpy cpz cplane caxis cwas cways ckeptWas ckeptWays a3 cnextWas cnextWays cnowWas cnowWays cto) := by rw [ea3]; exact hD
        refine lv_aload_n hx hb d_M_keep_85 rfl (lv_at hl 0 rfl) ?_
        refine lv_dup hx hb d_M_keep_86 rfl ?_
        refine va_get (D := (dC, dI)) (ci := 3) (v := .int vkept) (C := R_M) (T := T_M) (N := 23) hx hb ht in_M hown hK hP 0 rfl rfl 11 (by decide) (ht _ m_357) (fun _ h9 => h9) rfl d_M_keep_87 ?_
        refine lv_iconst (v := 1) hx hb d_M_keep_90 (by decide) ?_
        refine lv_iadd hx hb d_M_keep_91 ?_
        refine lv_topi (fun v4 ev4 => ?_)
        have hf := oLet_some hf ev4
        refine va_put (D := (dC, dI)) (ci := 3) (v := .int v4) (ty := .int) (C := R_M) (T := T_M) (N := 23) hx hb ht in_M t_M t_M_ok n_M hown hK hP hD hS 0 rfl rfl 11 (by decide) (ht _ m_357) (fun _ h9 => h9) rfl (by decide +kernel) rfl rfl (Nat.le_of_ble_eq_true rfl) d_M_keep_92 (fun H locs hP hD hS => ?_)
        have hP : va_P (dC, dI) vwCl (w_M qM q_px q_py q_pz q_plane q_axis q_was q_ways q_keptWas q_keptWays q_keptPoints q_nextWas q_nextWays q_nowWas q_nowWays q_to cI vthrown vpoints vplanes vaxes v4 vax vay vaz cpx cpy cpz cplane caxis cwas cways ckeptWas ckeptWays a3 cnextWas cnextWays cnowWas cnowWays cto) H := hP
        have hD : va_D A (w_M qM q_px q_py q_pz q_plane q_axis q_was q_ways q_keptWas q_keptWays q_keptPoints q_nextWas q_nextWays q_nowWas q_nowWays q_to cI vthrown vpoints vplanes vaxes v4 vax vay vaz cpx cpy cpz cplane caxis cwas cways ckeptWas ckeptWays a3 cnextWas cnextWays cnowWas cnowWays cto) := hD
        refine lv_aload_n hx hb d_M_keep_95 rfl (lv_at hl 0 rfl) ?_
        refine va_get (D := (dC, dI)) (ci := 3) (v := .int v4) (C := R_M) (T := T_M) (N := 23) hx hb ht in_M hown hK hP 0 rfl rfl 11 (by decide) (ht _ m_357) (fun _ h9 => h9) rfl d_M_keep_96 ?_
        refine lv_iconst (v := 1) hx hb d_M_keep_99 (by decide) ?_
        refine lv_isub hx hb d_M_keep_100 ?_
        cases hf
        exact W.iret hx hb hr (fun t ht hW => ⟨⟨_, (), rfl, rfl, by rw [ht]; exact hP, hD⟩, hS.F ht⟩) hS.2.2 d_M_keep_101
      · have hf := oIf_f hf c1
        refine lv_aload_n hx hb d_M_keep_26 rfl (lv_at hl 0 rfl) ?_
        refine va_get (D := (dC, dI)) (ci := 3) (v := .ref q_keptWas) (C := R_M) (T := T_M) (N := 23) hx hb ht in_M hown hK hP 0 rfl rfl 12 (by decide) (ht _ m_358) (fun _ h9 => h9) rfl d_M_keep_27 ?_
        refine lv_bipush (v := 60) hx hb d_M_keep_30 (by decide) ?_
        refine lv_aload_n hx hb d_M_keep_32 rfl (lv_at hl 0 rfl) ?_
        refine va_get (D := (dC, dI)) (ci := 3) (v := .int vkept) (C := R_M) (T := T_M) (N := 23) hx hb ht in_M hown hK hP 0 rfl rfl 11 (by decide) (ht _ m_357) (fun _ h9 => h9) rfl d_M_keep_33 ?_
        refine lv_imul hx hb d_M_keep_36 ?_
        refine lv_iload_n hx hb d_M_keep_37 rfl (lv_at hl 1 rfl) ?_
        refine lv_iadd hx hb d_M_keep_38 ?_
        refine lv_aload_n hx hb d_M_keep_39 rfl (lv_at hl 0 rfl) ?_
        refine va_get (D := (dC, dI)) (ci := 3) (v := .ref q_was) (C := R_M) (T := T_M) (N := 23) hx hb ht in_M hown hK hP 0 rfl rfl 9 (by decide) (ht _ m_355) (fun _ h9 => h9) rfl d_M_keep_40 ?_
        refine lv_iload_n hx hb d_M_keep_43 rfl (lv_at hl 1 rfl) ?_
        obtain ⟨hi5, hf⟩ := oIn_some hf
        refine va_iald hx hb hK hP 6 0 rfl rfl hi5 d_M_keep_44 ?_
        obtain ⟨hi6, hf⟩ := oIn_some hf
        refine va_iast hx hb hK hP hD hS 8 0 rfl rfl hi6 d_M_keep_45 (fun H locs hP hD hS => ?_)
        obtain ⟨a7, ea7, hf⟩ := oLet_ex hf
        have hP : va_P (dC, dI) vwCl (w_M qM q_px q_py q_pz q_plane q_axis q_was q_ways q_keptWas q_keptWays q_keptPoints q_nextWas q_nextWays q_nowWas q_nowWays q_to cI vthrown vpoints vplanes vaxes vkept vax vay vaz cpx cpy cpz cplane caxis cwas cways a7 ckeptWays ckeptPoints cnextWas cnextWays cnowWas cnowWays cto) H := by rw [ea7]; exact hP
        have hD : va_D A (w_M qM q_px q_py q_pz q_plane q_axis q_was q_ways q_keptWas q_keptWays q_keptPoints q_nextWas q_nextWays q_nowWas q_nowWays q_to cI vthrown vpoints vplanes vaxes vkept vax vay vaz cpx cpy cpz cplane caxis cwas cways a7 ckeptWays ckeptPoints cnextWas cnextWays cnowWas cnowWays cto) := by rw [ea7]; exact hD
        refine lv_aload_n hx hb d_M_keep_46 rfl (lv_at hl 0 rfl) ?_
        refine va_get (D := (dC, dI)) (ci := 3) (v := .ref q_keptWays) (C := R_M) (T := T_M) (N := 23) hx hb ht in_M hown hK hP 0 rfl rfl 13 (by decide) (ht _ m_359) (fun _ h9 => h9) rfl d_M_keep_47 ?_
        refine lv_bipush (v := 60) hx hb d_M_keep_50 (by decide) ?_
        refine lv_aload_n hx hb d_M_keep_52 rfl (lv_at hl 0 rfl) ?_
        refine va_get (D := (dC, dI)) (ci := 3) (v := .int vkept) (C := R_M) (T := T_M) (N := 23) hx hb ht in_M hown hK hP 0 rfl rfl 11 (by decide) (ht _ m_357) (fun _ h9 => h9) rfl d_M_keep_53 ?_
        refine lv_imul hx hb d_M_keep_56 ?_
        refine lv_iload_n hx hb d_M_keep_57 rfl (lv_at hl 1 rfl) ?_
        refine lv_iadd hx hb d_M_keep_58 ?_
        refine lv_aload_n hx hb d_M_keep_59 rfl (lv_at hl 0 rfl) ?_
        refine va_get (D := (dC, dI)) (ci := 3) (v := .ref q_ways) (C := R_M) (T := T_M) (N := 23) hx hb ht in_M hown hK hP 0 rfl rfl 10 (by decide) (ht _ m_356) (fun _ h9 => h9) rfl d_M_keep_60 ?_
        refine lv_iload_n hx hb d_M_keep_63 rfl (lv_at hl 1 rfl) ?_
        obtain ⟨hi8, hf⟩ := oIn_some hf
        refine va_iald hx hb hK hP 7 0 rfl rfl hi8 d_M_keep_64 ?_
        obtain ⟨hi9, hf⟩ := oIn_some hf
        refine va_iast hx hb hK hP hD hS 9 0 rfl rfl hi9 d_M_keep_65 (fun H locs hP hD hS => ?_)
        obtain ⟨a10, ea10, hf⟩ := oLet_ex hf
        have hP : va_P (dC, dI) vwCl (w_M qM q_px q_py q_pz q_plane q_axis q_was q_ways q_keptWas q_keptWays q_keptPoints q_nextWas q_nextWays q_nowWas q_nowWays q_to cI vthrown vpoints vplanes vaxes vkept vax vay vaz cpx cpy cpz cplane caxis cwas cways a7 a10 ckeptPoints cnextWas cnextWays cnowWas cnowWays cto) H := by rw [ea10]; exact hP
        have hD : va_D A (w_M qM q_px q_py q_pz q_plane q_axis q_was q_ways q_keptWas q_keptWays q_keptPoints q_nextWas q_nextWays q_nowWas q_nowWays q_to cI vthrown vpoints vplanes vaxes vkept vax vay vaz cpx cpy cpz cplane caxis cwas cways a7 a10 ckeptPoints cnextWas cnextWays cnowWas cnowWays cto) := by rw [ea10]; exact hD
        obtain ⟨v11, ev11, hf⟩ := oLet_ex hf
        refine lv_iinc (v := v11) (lv' := [(1, .int v11), (0, .ref qM)]) hx hb d_M_keep_66 hl (k := 1) rfl (by rw [ev11]; rfl) (by decide) rfl (fun ls hl => ?_)
        refine lv_goto (tgt := 18) hx hb d_M_keep_69 (by decide) ?_
        exact ofX _ _ _ _ _ (ih18 v11 a7 a10 _ _ _ hf hP hD hS (lv_sub hl [1, 0] rfl))
  refine toX _ _ _ _ _ ?_
  unfold f_M_keep at hf
  obtain ⟨H, hH⟩ : ∃ z, z = s.heap := ⟨_, rfl⟩
  have hS : va_S A s.heap H [] := by rw [hH]; exact hS
  have hP : va_P (dC, dI) vwCl (w_M qM q_px q_py q_pz q_plane q_axis q_was q_ways q_keptWas q_keptWays q_keptPoints q_nextWas q_nextWays q_nowWas q_nowWays q_to cI vthrown vpoints vplanes vaxes vkept vax vay vaz cpx cpy cpz cplane caxis cwas cways ckeptWas ckeptWays ckeptPoints cnextWas cnextWays cnowWas cnowWays cto) H := by rw [hH]; exact hP
  refine w_heap hH ?_
  refine lv_aload_n hx hb d_M_keep_0 rfl (lv_at hl 0 rfl) ?_
  refine lv_iconst (v := 0) hx hb d_M_keep_1 (by decide) ?_
  refine va_put (D := (dC, dI)) (ci := 3) (v := .int 0) (ty := .int) (C := R_M) (T := T_M) (N := 23) hx hb ht in_M t_M t_M_ok n_M hown hK hP hD hS 0 rfl rfl 0 (by decide) (ht _ m_346) (fun _ h9 => h9) rfl (by decide +kernel) rfl rfl (Nat.le_of_ble_eq_true rfl) d_M_keep_2 (fun H locs hP hD hS => ?_)
  have hP : va_P (dC, dI) vwCl (w_M qM q_px q_py q_pz q_plane q_axis q_was q_ways q_keptWas q_keptWays q_keptPoints q_nextWas q_nextWays q_nowWas q_nowWays q_to cI 0 vpoints vplanes vaxes vkept vax vay vaz cpx cpy cpz cplane caxis cwas cways ckeptWas ckeptWays ckeptPoints cnextWas cnextWays cnowWas cnowWays cto) H := hP
  have hD : va_D A (w_M qM q_px q_py q_pz q_plane q_axis q_was q_ways q_keptWas q_keptWays q_keptPoints q_nextWas q_nextWays q_nowWas q_nowWays q_to cI 0 vpoints vplanes vaxes vkept vax vay vaz cpx cpy cpz cplane caxis cwas cways ckeptWas ckeptWays ckeptPoints cnextWas cnextWays cnowWas cnowWays cto) := hD
  refine lv_aload_n hx hb d_M_keep_5 rfl (lv_at hl 0 rfl) ?_
  refine va_get (D := (dC, dI)) (ci := 3) (v := .int vkept) (C := R_M) (T := T_M) (N := 23) hx hb ht in_M hown hK hP 0 rfl rfl 11 (by decide) (ht _ m_357) (fun _ h9 => h9) rfl d_M_keep_6 ?_
  refine lv_bipush (v := 10) hx hb d_M_keep_9 (by decide) ?_
  refine lv_icmp_ne (tgt := 16) hx hb d_M_keep_11 (by decide) (fun c12 => ?_) (fun c12 => ?_)
  · have hf := oIf_f hf c12
    refine lv_iconst (v := 0) hx hb d_M_keep_16 (by decide) ?_
    refine lv_istore_n (lv' := [(1, .int 0), (0, .ref qM)]) hx hb d_M_keep_17 rfl hl (by decide) rfl (fun ls hl => ?_)
    exact ofX _ _ _ _ _ (K18 0 vkept ckeptPoints _ 0 ckeptWas ckeptWays _ _ _ hf hP hD hS (lv_sub hl [1, 0] rfl))
  · have hf := oIf_t hf c12
    refine lv_iconst (v := (-1)) hx hb d_M_keep_14 (by decide) ?_
    cases hf
    exact W.iret hx hb hr (fun t ht hW => ⟨⟨_, (), rfl, rfl, by rw [ht]; exact hP, hD⟩, hS.F ht⟩) hS.2.2 d_M_keep_15
set_option maxHeartbeats 4000000 in
set_option maxRecDepth 100000 in
theorem c_M_back (l : Launch) (dC : Nat → ClassId) (dI : Nat → Nat → Nat) (qM q_px q_py q_pz q_plane q_axis q_was q_ways q_keptWas q_keptWays q_keptPoints q_nextWas q_nextWays q_nowWas q_nowWays q_to : Nat) (cI cJ cQ : ClassId) (sz : Nat) (vthrown : Int32) (vpoints : Int32) (vplanes : Int32) (vaxes : Int32) (vkept : Int32) (vax : Int32) (vay : Int32) (vaz : Int32) (cpx : Nat → Int32) (cpy : Nat → Int32) (cpz : Nat → Int32) (cplane : Nat → Int32) (caxis : Nat → Int32) (cwas : Nat → Int32) (cways : Nat → Int32) (ckeptWas : Nat → Int32) (ckeptWays : Nat → Int32) (ckeptPoints : Nat → Int32) (cnextWas : Nat → Int32) (cnextWays : Nat → Int32) (cnowWas : Nat → Int32) (cnowWays : Nat → Int32) (cto : Nat → Int32) (x1 : Int32) (r_ : Int32) (o_vthrown : Int32) (o_cwas : Nat → Int32) (o_cways : Nat → Int32) (hf : f_M_back vthrown vpoints vkept cwas cways ckeptWas ckeptWays ckeptPoints x1 = some (r_, o_vthrown, o_cwas, o_cways)) : Met l y_M_back w_M_back ({ frames := 0, cells := 0, slots := 0, locals := 0 }) (va_Pc [.ref qM, .int x1] (fun U => U.heap.size = sz ∧ va_P (dC, dI) vwCl (w_M qM q_px q_py q_pz q_plane q_axis q_was q_ways q_keptWas q_keptWays q_keptPoints q_nextWas q_nextWays q_nowWas q_nowWays q_to cI vthrown vpoints vplanes vaxes vkept vax vay vaz cpx cpy cpz cplane caxis cwas cways ckeptWas ckeptWays ckeptPoints cnextWas cnextWays cnowWas cnowWays cto) U.heap ∧ va_K (dC, dI) vwCl [(cI, .int), (cJ, .long), (cQ, .object "CutBodies$Contents")] U ∧ nestZ U ∧ va_D (fun _ => True) (w_M qM q_px q_py q_pz q_plane q_axis q_was q_ways q_keptWas q_keptWays q_keptPoints q_nextWas q_nextWays q_nowWas q_nowWays q_to cI vthrown vpoints vplanes vaxes vkept vax vay vaz cpx cpy cpz cplane caxis cwas cways ckeptWas ckeptWays ckeptPoints cnextWas cnextWays cnowWas cnowWays cto))) (va_Qi (fun (r9 : Int32) (_ : Unit) => r9 = r_) (fun _ t => va_P (dC, dI) vwCl (w_M qM q_px q_py q_pz q_plane q_axis q_was q_ways q_keptWas q_keptWays q_keptPoints q_nextWas q_nextWays q_nowWas q_nowWays q_to cI o_vthrown vpoints vplanes vaxes vkept vax vay vaz cpx cpy cpz cplane caxis o_cwas o_cways ckeptWas ckeptWays ckeptPoints cnextWas cnextWays cnowWas cnowWays cto) t.heap ∧ va_D (va_A (w_M qM q_px q_py q_pz q_plane q_axis q_was q_ways q_keptWas q_keptWays q_keptPoints q_nextWas q_nextWays q_nowWas q_nowWays q_to cI vthrown vpoints vplanes vaxes vkept vax vay vaz cpx cpy cpz cplane caxis cwas cways ckeptWas ckeptWays ckeptPoints cnextWas cnextWays cnowWas cnowWays cto) sz) (w_M qM q_px q_py q_pz q_plane q_axis q_was q_ways q_keptWas q_keptWays q_keptPoints q_nextWas q_nextWays q_nowWas q_nowWays q_to cI o_vthrown vpoints vplanes vaxes vkept vax vay vaz cpx cpy cpz cplane caxis o_cwas o_cways ckeptWas ckeptWays ckeptPoints cnextWas cnextWays cnowWas cnowWays cto)) (va_A (w_M qM q_px q_py q_pz q_plane q_axis q_was q_ways q_keptWas q_keptWays q_keptPoints q_nextWas q_nextWays q_nowWas q_nowWays q_to cI vthrown vpoints vplanes vaxes vkept vax vay vaz cpx cpy cpz cplane caxis cwas cways ckeptWas ckeptWays ckeptPoints cnextWas cnextWays cnowWas cnowWays cto) sz)) 0 0 (va_A (w_M qM q_px q_py q_pz q_plane q_axis q_was q_ways q_keptWas q_keptWays q_keptPoints q_nextWas q_nextWays q_nowWas q_nowWays q_to cI vthrown vpoints vplanes vaxes vkept vax vay vaz cpx cpy cpz cplane caxis cwas cways ckeptWas ckeptWays ckeptPoints cnextWas cnextWays cnowWas cnowWays cto) sz) := by
  refine Met.ofW (cc := b_M_back) (maxL := 3) (ret := (some .boolean)) (by decide) rfl ?_
  intro p e s m args below meth c s₁ B hml hv
  obtain ⟨rfl, hsz, hP, hK, hZ, hD0⟩ := hv
  have hx := B.exec
  have hb := B.bytes
  have hr := B.returns
  have hts := atoms_spec (ws := w_M_back) B.pre
  have ht : ∀ w ∈ wAll, w.before _ s = true := fun w h => hts w (List.mem_cons_of_mem _ h)
  have hown : s.vm.findClass R_M = some m.cls := findClass_of_methodNamed B.named
  have hlocks := B.notSynchronized
  subst hsz
  have hD := hD0.self (sz := s.heap.size)
  generalize hAe : va_A (w_M qM q_px q_py q_pz q_plane q_axis q_was q_ways q_keptWas q_keptWays q_keptPoints q_nextWas q_nextWays q_nowWas q_nowWays q_to cI vthrown vpoints vplanes vaxes vkept vax vay vaz cpx cpy cpz cplane caxis cwas cways ckeptWas ckeptWays ckeptPoints cnextWas cnextWays cnowWas cnowWays cto) s.heap.size = A at hD ⊢
  have hA : ∀ q : Nat, s.heap.size ≤ q → A q := fun q h => by rw [← hAe]; exact Or.inr h
  have hS : va_S A s.heap s.heap [] := va_S.rf
  have hP : va_P (dC, dI) vwCl (w_M qM q_px q_py q_pz q_plane q_axis q_was q_ways q_keptWas q_keptWays q_keptPoints q_nextWas q_nextWays q_nowWas q_nowWays q_to cI vthrown vpoints vplanes vaxes vkept vax vay vaz cpx cpy cpz cplane caxis cwas cways ckeptWas ckeptWays ckeptPoints cnextWas cnextWays cnowWas cnowWays cto) s.heap := hP
  have hl := lv_entry ([.ref qM, .int x1]) (n := 3) (Nat.le_of_ble_eq_true rfl)
  rw [lg_entry_eq]
  generalize (lg_sl ([.ref qM, .int x1]) ++ List.replicate (3 - (lg_sl ([.ref qM, .int x1])).length) Slot.unset).toArray = ls at hl ⊢
  have hl : lv_has ls 3 [(0, .ref qM), (1, .int x1)] := hl
  refine w_abs (fun Wx toX ofX => ?_)
  have K34 : ∀ (x1 : Int32) (vthrown : Int32) (n : Nat) (x2 : Int32) (cwas : Nat → Int32) (cways : Nat → Int32) (H : Heap) (locs : List Loc) (ls : Array Slot), oLoop3 (f_M_back_L34  vpoints vkept ckeptWas ckeptWays ckeptPoints x1 vthrown) n x2 cwas cways = some (r_, o_vthrown, o_cwas, o_cways) → va_P (dC, dI) vwCl (w_M qM q_px q_py q_pz q_plane q_axis q_was q_ways q_keptWas q_keptWays q_keptPoints q_nextWas q_nextWays q_nowWas q_nowWays q_to cI vthrown vpoints vplanes vaxes vkept vax vay vaz cpx cpy cpz cplane caxis cwas cways ckeptWas ckeptWays ckeptPoints cnextWas cnextWays cnowWas cnowWays cto) H → va_D A (w_M qM q_px q_py q_pz q_plane q_axis q_was q_ways q_keptWas q_keptWays q_keptPoints q_nextWas q_nextWays q_nowWas q_nowWays q_to cI vthrown vpoints vplanes vaxes vkept vax vay vaz cpx cpy cpz cplane caxis cwas cways ckeptWas ckeptWays ckeptPoints cnextWas cnextWays cnowWas cnowWays cto) → va_S A s.heap H locs → lv_has ls 3 [(0, .ref qM), (1, .int x1), (2, .int x2)] → Wx H locs 0 0 (F0 m 34 ls []) := by
    intro x1 vthrown n
    induction n with
    | zero => intro x2 cwas cways H locs ls hf; exact (oLoop3_0 hf).elim
    | succ n ih34 =>
      obtain ⟨rec34, hrec34⟩ : ∃ z, z = oLoop3 (f_M_back_L34  vpoints vkept ckeptWas ckeptWays ckeptPoints x1 vthrown) n := ⟨_, rfl⟩
      rw [← hrec34] at ih34
      intro x2 cwas cways H locs ls hf hP hD hS hl
      refine toX _ _ _ _ _ ?_
      have hf := oLoop3_s hf
      rw [← hrec34] at hf
      unfold f_M_back_L34 at hf
      refine lv_iload_n hx hb d_M_back_34 rfl (lv_at hl 2 rfl) ?_
      refine lv_aload_n hx hb d_M_back_35 rfl (lv_at hl 0 rfl) ?_
      refine va_get (D := (dC, dI)) (ci := 3) (v := .int vpoints) (C := R_M) (T := T_M) (N := 23) hx hb ht in_M hown hK hP 0 rfl rfl 1 (by decide) (ht _ m_347) (fun _ h9 => h9) rfl d_M_back_36 ?_
      refine lv_icmp_ge (tgt := 82) hx hb d_M_back_39 (by decide) (fun c1 => ?_) (fun c1 => ?_)
      · have hf := oIf_t hf c1
        refine lv_iconst (v := 1) hx hb d_M_back_82 (by decide) ?_
        cases hf
        exact W.zret (ty := .boolean) hx hb hr rfl (fun t ht hW => ⟨⟨_, (), rfl, rfl, by rw [ht]; exact hP, hD⟩, hS.F ht⟩) hS.2.2 d_M_back_83
      · have hf := oIf_f hf c1
        refine lv_aload_n hx hb d_M_back_42 rfl (lv_at hl 0 rfl) ?_
        refine va_get (D := (dC, dI)) (ci := 3) (v := .ref q_was) (C := R_M) (T := T_M) (N := 23) hx hb ht in_M hown hK hP 0 rfl rfl 9 (by decide) (ht _ m_355) (fun _ h9 => h9) rfl d_M_back_43 ?_
        refine lv_iload_n hx hb d_M_back_46 rfl (lv_at hl 2 rfl) ?_
        refine lv_aload_n hx hb d_M_back_47 rfl (lv_at hl 0 rfl) ?_
        refine va_get (D := (dC, dI)) (ci := 3) (v := .ref q_keptWas) (C := R_M) (T := T_M) (N := 23) hx hb ht in_M hown hK hP 0 rfl rfl 12 (by decide) (ht _ m_358) (fun _ h9 => h9) rfl d_M_back_48 ?_
        refine lv_bipush (v := 60) hx hb d_M_back_51 (by decide) ?_
        refine lv_iload_n hx hb d_M_back_53 rfl (lv_at hl 1 rfl) ?_
        refine lv_imul hx hb d_M_back_54 ?_
        refine lv_iload_n hx hb d_M_back_55 rfl (lv_at hl 2 rfl) ?_
        refine lv_iadd hx hb d_M_back_56 ?_
        obtain ⟨hi2, hf⟩ := oIn_some hf
        refine va_iald hx hb hK hP 8 0 rfl rfl hi2 d_M_back_57 ?_
        obtain ⟨hi3, hf⟩ := oIn_some hf
        refine va_iast hx hb hK hP hD hS 6 0 rfl rfl hi3 d_M_back_58 (fun H locs hP hD hS => ?_)
        obtain ⟨a4, ea4, hf⟩ := oLet_ex hf
        have hP : va_P (dC, dI) vwCl (w_M qM q_px q_py q_pz q_plane q_axis q_was q_ways q_keptWas q_keptWays q_keptPoints q_nextWas q_nextWays q_nowWas q_nowWays q_to cI vthrown vpoints vplanes vaxes vkept vax vay vaz cpx cpy cpz cplane caxis a4 cways ckeptWas ckeptWays ckeptPoints cnextWas cnextWays cnowWas cnowWays cto) H := by rw [ea4]; exact hP
        have hD : va_D A (w_M qM q_px q_py q_pz q_plane q_axis q_was q_ways q_keptWas q_keptWays q_keptPoints q_nextWas q_nextWays q_nowWas q_nowWays q_to cI vthrown vpoints vplanes vaxes vkept vax vay vaz cpx cpy cpz cplane caxis a4 cways ckeptWas ckeptWays ckeptPoints cnextWas cnextWays cnowWas cnowWays cto) := by rw [ea4]; exact hD
        refine lv_aload_n hx hb d_M_back_59 rfl (lv_at hl 0 rfl) ?_
        refine va_get (D := (dC, dI)) (ci := 3) (v := .ref q_ways) (C := R_M) (T := T_M) (N := 23) hx hb ht in_M hown hK hP 0 rfl rfl 10 (by decide) (ht _ m_356) (fun _ h9 => h9) rfl d_M_back_60 ?_
        refine lv_iload_n hx hb d_M_back_63 rfl (lv_at hl 2 rfl) ?_
        refine lv_aload_n hx hb d_M_back_64 rfl (lv_at hl 0 rfl) ?_
        refine va_get (D := (dC, dI)) (ci := 3) (v := .ref q_keptWays) (C := R_M) (T := T_M) (N := 23) hx hb ht in_M hown hK hP 0 rfl rfl 13 (by decide) (ht _ m_359) (fun _ h9 => h9) rfl d_M_back_65 ?_
        refine lv_bipush (v := 60) hx hb d_M_back_68 (by decide) ?_
        refine lv_iload_n hx hb d_M_back_70 rfl (lv_at hl 1 rfl) ?_
        refine lv_imul hx hb d_M_back_71 ?_
        refine lv_iload_n hx hb d_M_back_72 rfl (lv_at hl 2 rfl) ?_
        refine lv_iadd hx hb d_M_back_73 ?_
        obtain ⟨hi5, hf⟩ := oIn_some hf
        refine va_iald hx hb hK hP 9 0 rfl rfl hi5 d_M_back_74 ?_
        obtain ⟨hi6, hf⟩ := oIn_some hf
        refine va_iast hx hb hK hP hD hS 7 0 rfl rfl hi6 d_M_back_75 (fun H locs hP hD hS => ?_)
        obtain ⟨a7, ea7, hf⟩ := oLet_ex hf
        have hP : va_P (dC, dI) vwCl (w_M qM q_px q_py q_pz q_plane q_axis q_was q_ways q_keptWas q_keptWays q_keptPoints q_nextWas q_nextWays q_nowWas q_nowWays q_to cI vthrown vpoints vplanes vaxes vkept vax vay vaz cpx cpy cpz cplane caxis a4 a7 ckeptWas ckeptWays ckeptPoints cnextWas cnextWays cnowWas cnowWays cto) H := by rw [ea7]; exact hP
        have hD : va_D A (w_M qM q_px q_py q_pz q_plane q_axis q_was q_ways q_keptWas q_keptWays q_keptPoints q_nextWas q_nextWays q_nowWas q_nowWays q_to cI vthrown vpoints vplanes vaxes vkept vax vay vaz cpx cpy cpz cplane caxis a4 a7 ckeptWas ckeptWays ckeptPoints cnextWas cnextWays cnowWas cnowWays cto) := by rw [ea7]; exact hD
        obtain ⟨v8, ev8, hf⟩ := oLet_ex hf
        refine lv_iinc (v := v8) (lv' := [(2, .int v8), (0, .ref qM), (1, .int x1)]) hx hb d_M_back_76 hl (k := 2) rfl (by rw [ev8]; rfl) (by decide) rfl (fun ls hl => ?_)
        refine lv_goto (tgt := 34) hx hb d_M_back_79 (by decide) ?_
        exact ofX _ _ _ _ _ (ih34 v8 a4 a7 _ _ _ hf hP hD hS (lv_sub hl [1, 2, 0] rfl))
  refine toX _ _ _ _ _ ?_
  unfold f_M_back at hf
  obtain ⟨H, hH⟩ : ∃ z, z = s.heap := ⟨_, rfl⟩
  have hS : va_S A s.heap H [] := by rw [hH]; exact hS
  have hP : va_P (dC, dI) vwCl (w_M qM q_px q_py q_pz q_plane q_axis q_was q_ways q_keptWas q_keptWays q_keptPoints q_nextWas q_nextWays q_nowWas q_nowWays q_to cI vthrown vpoints vplanes vaxes vkept vax vay vaz cpx cpy cpz cplane caxis cwas cways ckeptWas ckeptWays ckeptPoints cnextWas cnextWays cnowWas cnowWays cto) H := by rw [hH]; exact hP
  refine w_heap hH ?_
  refine lv_aload_n hx hb d_M_back_0 rfl (lv_at hl 0 rfl) ?_
  refine lv_iconst (v := 0) hx hb d_M_back_1 (by decide) ?_
  refine va_put (D := (dC, dI)) (ci := 3) (v := .int 0) (ty := .int) (C := R_M) (T := T_M) (N := 23) hx hb ht in_M t_M t_M_ok n_M hown hK hP hD hS 0 rfl rfl 0 (by decide) (ht _ m_346) (fun _ h9 => h9) rfl (by decide +kernel) rfl rfl (Nat.le_of_ble_eq_true rfl) d_M_back_2 (fun H locs hP hD hS => ?_)
  have hP : va_P (dC, dI) vwCl (w_M qM q_px q_py q_pz q_plane q_axis q_was q_ways q_keptWas q_keptWays q_keptPoints q_nextWas q_nextWays q_nowWas q_nowWays q_to cI 0 vpoints vplanes vaxes vkept vax vay vaz cpx cpy cpz cplane caxis cwas cways ckeptWas ckeptWays ckeptPoints cnextWas cnextWays cnowWas cnowWays cto) H := hP
  have hD : va_D A (w_M qM q_px q_py q_pz q_plane q_axis q_was q_ways q_keptWas q_keptWays q_keptPoints q_nextWas q_nextWays q_nowWas q_nowWays q_to cI 0 vpoints vplanes vaxes vkept vax vay vaz cpx cpy cpz cplane caxis cwas cways ckeptWas ckeptWays ckeptPoints cnextWas cnextWays cnowWas cnowWays cto) := hD
  refine lv_iload_n hx hb d_M_back_5 rfl (lv_at hl 1 rfl) ?_
  refine lv_if_lt (tgt := 30) hx hb d_M_back_6 (by decide) (fun c9 => ?_) (fun c9 => ?_)
  · have hf := oIf_t hf c9
    refine lv_iconst (v := 0) hx hb d_M_back_30 (by decide) ?_
    cases hf
    exact W.zret (ty := .boolean) hx hb hr rfl (fun t ht hW => ⟨⟨_, (), rfl, rfl, by rw [ht]; exact hP, hD⟩, hS.F ht⟩) hS.2.2 d_M_back_31
  · have hf := oIf_f hf c9
    refine lv_iload_n hx hb d_M_back_9 rfl (lv_at hl 1 rfl) ?_
    refine lv_aload_n hx hb d_M_back_10 rfl (lv_at hl 0 rfl) ?_
    refine va_get (D := (dC, dI)) (ci := 3) (v := .int vkept) (C := R_M) (T := T_M) (N := 23) hx hb ht in_M hown hK hP 0 rfl rfl 11 (by decide) (ht _ m_357) (fun _ h9 => h9) rfl d_M_back_11 ?_
    refine lv_icmp_ge (tgt := 30) hx hb d_M_back_14 (by decide) (fun c10 => ?_) (fun c10 => ?_)
    · have hf := oIf_t hf c10
      refine lv_iconst (v := 0) hx hb d_M_back_30 (by decide) ?_
      cases hf
      exact W.zret (ty := .boolean) hx hb hr rfl (fun t ht hW => ⟨⟨_, (), rfl, rfl, by rw [ht]; exact hP, hD⟩, hS.F ht⟩) hS.2.2 d_M_back_31
    · have hf := oIf_f hf c10
      refine lv_aload_n hx hb d_M_back_17 rfl (lv_at hl 0 rfl) ?_
      refine va_get (D := (dC, dI)) (ci := 3) (v := .ref q_keptPoints) (C := R_M) (T := T_M) (N := 23) hx hb ht in_M hown hK hP 0 rfl rfl 14 (by decide) (ht _ m_360) (fun _ h9 => h9) rfl d_M_back_18 ?_
      refine lv_iload_n hx hb d_M_back_21 rfl (lv_at hl 1 rfl) ?_
      obtain ⟨hi11, hf⟩ := oIn_some hf
      refine va_iald hx hb hK hP 10 0 rfl rfl hi11 d_M_back_22 ?_
      refine lv_aload_n hx hb d_M_back_23 rfl (lv_at hl 0 rfl) ?_
      refine va_get (D := (dC, dI)) (ci := 3) (v := .int vpoints) (C := R_M) (T := T_M) (N := 23) hx hb ht in_M hown hK hP 0 rfl rfl 1 (by decide) (ht _ m_347) (fun _ h9 => h9) rfl d_M_back_24 ?_
      refine lv_icmp_eq (tgt := 32) hx hb d_M_back_27 (by decide) (fun c12 => ?_) (fun c12 => ?_)
      · have hf := oIf_t hf c12
        refine lv_iconst (v := 0) hx hb d_M_back_32 (by decide) ?_
        refine lv_istore_n (lv' := [(2, .int 0), (0, .ref qM), (1, .int x1)]) hx hb d_M_back_33 rfl hl (by decide) rfl (fun ls hl => ?_)
        exact ofX _ _ _ _ _ (K34 x1 0 _ 0 cwas cways _ _ _ hf hP hD hS (lv_sub hl [1, 2, 0] rfl))
      · have hf := oIf_f hf c12
        refine lv_iconst (v := 0) hx hb d_M_back_30 (by decide) ?_
        cases hf
        exact W.zret (ty := .boolean) hx hb hr rfl (fun t ht hW => ⟨⟨_, (), rfl, rfl, by rw [ht]; exact hP, hD⟩, hS.F ht⟩) hS.2.2 d_M_back_31

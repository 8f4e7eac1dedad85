set_option maxHeartbeats 4000000 in
set_option maxRecDepth 100000 in
theorem c_M_own (l : Launch) (dC : Nat → ClassId) (dI : Nat → Nat → Nat) (qM q_px q_py q_pz q_plane q_axis q_was q_ways q_keptWas q_keptWays q_keptPoints q_nextWas q_nextWays q_nowWas q_nowWays q_to : Nat) (cI cJ cQ : ClassId) (sz : Nat) (vthrown : Int32) (vpoints : Int32) (vplanes : Int32) (vaxes : Int32) (vkept : Int32) (vax : Int32) (vay : Int32) (vaz : Int32) (cpx : Nat → Int32) (cpy : Nat → Int32) (cpz : Nat → Int32) (cplane : Nat → Int32) (caxis : Nat → Int32) (cwas : Nat → Int32) (cways : Nat → Int32) (ckeptWas : Nat → Int32) (ckeptWays : Nat → Int32) (ckeptPoints : Nat → Int32) (cnextWas : Nat → Int32) (cnextWays : Nat → Int32) (cnowWas : Nat → Int32) (cnowWays : Nat → Int32) (cto : Nat → Int32) (o_cwas : Nat → Int32) (o_cways : Nat → Int32) (hf : f_M_own vpoints cwas cways = some (o_cwas, o_cways)) : Met l y_M_own w_M_own ({ frames := 0, cells := 0, slots := 0, locals := 0 }) (va_Pc [.ref qM] (fun U => U.heap.size = sz ∧ va_P (dC, dI) vwCl (w_M qM q_px q_py q_pz q_plane q_axis q_was q_ways q_keptWas q_keptWays q_keptPoints q_nextWas q_nextWays q_nowWas q_nowWays q_to cI vthrown vpoints vplanes vaxes vkept vax vay vaz cpx cpy cpz cplane caxis cwas cways ckeptWas ckeptWays ckeptPoints cnextWas cnextWays cnowWas cnowWays cto) U.heap ∧ va_K (dC, dI) vwCl [(cI, .int), (cJ, .long), (cQ, .object "CutBodies$Contents")] U ∧ nestZ U ∧ va_D (fun _ => True) (w_M qM q_px q_py q_pz q_plane q_axis q_was q_ways q_keptWas q_keptWays q_keptPoints q_nextWas q_nextWays q_nowWas q_nowWays q_to cI vthrown vpoints vplanes vaxes vkept vax vay vaz cpx cpy cpz cplane caxis cwas cways ckeptWas ckeptWays ckeptPoints cnextWas cnextWays cnowWas cnowWays cto))) (va_Qv (fun (_ : Unit) => True) (fun _ t => va_P (dC, dI) vwCl (w_M qM q_px q_py q_pz q_plane q_axis q_was q_ways q_keptWas q_keptWays q_keptPoints q_nextWas q_nextWays q_nowWas q_nowWays q_to cI vthrown vpoints vplanes vaxes vkept vax vay vaz cpx cpy cpz cplane caxis o_cwas o_cways ckeptWas ckeptWays ckeptPoints cnextWas cnextWays cnowWas cnowWays cto) t.heap ∧ va_D (va_A (w_M qM q_px q_py q_pz q_plane q_axis q_was q_ways q_keptWas q_keptWays q_keptPoints q_nextWas q_nextWays q_nowWas q_nowWays q_to cI vthrown vpoints vplanes vaxes vkept vax vay vaz cpx cpy cpz cplane caxis cwas cways ckeptWas ckeptWays ckeptPoints cnextWas cnextWays cnowWas cnowWays cto) sz) (w_M qM q_px q_py q_pz q_plane q_axis q_was q_ways q_keptWas q_keptWays q_keptPoints q_nextWas q_nextWays q_nowWas q_nowWays q_to cI vthrown vpoints vplanes vaxes vkept vax vay vaz cpx cpy cpz cplane caxis o_cwas o_cways ckeptWas ckeptWays ckeptPoints cnextWas cnextWays cnowWas cnowWays cto)) (va_A (w_M qM q_px q_py q_pz q_plane q_axis q_was q_ways q_keptWas q_keptWays q_keptPoints q_nextWas q_nextWays q_nowWas q_nowWays q_to cI vthrown vpoints vplanes vaxes vkept vax vay vaz cpx cpy cpz cplane caxis cwas cways ckeptWas ckeptWays ckeptPoints cnextWas cnextWays cnowWas cnowWays cto) sz)) 0 0 (va_A (w_M qM q_px q_py q_pz q_plane q_axis q_was q_ways q_keptWas q_keptWays q_keptPoints q_nextWas q_nextWays q_nowWas q_nowWays q_to cI vthrown vpoints vplanes vaxes vkept vax vay vaz cpx cpy cpz cplane caxis cwas cways ckeptWas ckeptWays ckeptPoints cnextWas cnextWays cnowWas cnowWays cto) sz) := by
  refine Met.ofW (cc := b_M_own) (maxL := 2) (ret := none) (by decide) rfl ?_
  intro p e s m args below meth c s₁ B hml hv
  obtain ⟨rfl, hsz, hP, hK, hZ, hD0⟩ := hv
  have hx := B.exec
  have hb := B.bytes
  have hr := B.returns
  have hts := atoms_spec (ws := w_M_own) B.pre
  have ht : ∀ w ∈ wAll, w.before _ s = true := fun w h => hts w (List.mem_cons_of_mem _ h)
  have hown : s.vm.findClass R_M = some m.cls := findClass_of_methodNamed B.named
  have hlocks := B.notSynchronized
  subst hsz
  have hD := hD0.self (sz := s.heap.size)
  generalize hAe : va_A (w_M qM q_px q_py q_pz q_plane q_axis q_was q_ways q_keptWas q_keptWays q_keptPoints q_nextWas q_nextWays q_nowWas q_nowWays q_to cI vthrown vpoints vplanes vaxes vkept vax vay vaz cpx cpy cpz cplane caxis cwas cways ckeptWas ckeptWays ckeptPoints cnextWas cnextWays cnowWas cnowWays cto) s.heap.size = A at hD ⊢
  have hA : ∀ q : Nat, s.heap.size ≤ q → A q := fun q h => by rw [← hAe]; exact Or.inr h
  have hS : va_S A s.heap s.heap [] := va_S.rf
  have hP : va_P (dC, dI) vwCl (w_M qM q_px q_py q_pz q_plane q_axis q_was q_ways q_keptWas q_keptWays q_keptPoints q_nextWas q_nextWays q_nowWas q_nowWays q_to cI vthrown vpoints vplanes vaxes vkept vax vay vaz cpx cpy cpz cplane caxis cwas cways ckeptWas ckeptWays ckeptPoints cnextWas cnextWays cnowWas cnowWays cto) s.heap := hP
  have hl := lv_entry ([.ref qM]) (n := 2) (Nat.le_of_ble_eq_true rfl)
  rw [lg_entry_eq]
  generalize (lg_sl ([.ref qM]) ++ List.replicate (2 - (lg_sl ([.ref qM])).length) Slot.unset).toArray = ls at hl ⊢
  have hl : lv_has ls 2 [(0, .ref qM)] := hl
  refine w_abs (fun Wx toX ofX => ?_)
  have K2 : ∀ (n : Nat) (x1 : Int32) (cwas : Nat → Int32) (cways : Nat → Int32) (H : Heap) (locs : List Loc) (ls : Array Slot), oLoop3 (f_M_own_L2  vpoints) n x1 cwas cways = some (o_cwas, o_cways) → va_P (dC, dI) vwCl (w_M qM q_px q_py q_pz q_plane q_axis q_was q_ways q_keptWas q_keptWays q_keptPoints q_nextWas q_nextWays q_nowWas q_nowWays q_to cI vthrown vpoints vplanes vaxes vkept vax vay vaz cpx cpy cpz cplane caxis cwas cways ckeptWas ckeptWays ckeptPoints cnextWas cnextWays cnowWas cnowWays cto) H → va_D A (w_M qM q_px q_py q_pz q_plane q_axis q_was q_ways q_keptWas q_keptWays q_keptPoints q_nextWas q_nextWays q_nowWas q_nowWays q_to cI vthrown vpoints vplanes vaxes vkept vax vay vaz cpx cpy cpz cplane caxis cwas cways ckeptWas ckeptWays ckeptPoints cnextWas cnextWays cnowWas cnowWays cto) → va_S A s.heap H locs → lv_has ls 2 [(0, .ref qM), (1, .int x1)] → Wx H locs 0 0 (F0 m 2 ls []) := by
    intro  n
    induction n with
    | zero => intro x1 cwas cways H locs ls hf; exact (oLoop3_0 hf).elim
    | succ n ih2 =>
      obtain ⟨rec2, hrec2⟩ : ∃ z, z = oLoop3 (f_M_own_L2  vpoints) n := ⟨_, rfl⟩
      rw [← hrec2] at ih2
      intro x1 cwas cways H locs ls hf hP hD hS hl
      refine toX _ _ _ _ _ ?_
      have hf := oLoop3_s hf
      rw [← hrec2] at hf
      unfold f_M_own_L2 at hf
      refine lv_iload_n hx hb d_M_own_2 rfl (lv_at hl 1 rfl) ?_
      refine lv_aload_n hx hb d_M_own_3 rfl (lv_at hl 0 rfl) ?_
      refine va_get (D := (dC, dI)) (ci := 3) (v := .int vpoints) (C := R_M) (T := T_M) (N := 23) hx hb ht in_M hown hK hP 0 rfl rfl 1 (by decide) (ht _ m_347) (fun _ h9 => h9) rfl d_M_own_4 ?_
      refine lv_icmp_ge (tgt := 30) hx hb d_M_own_7 (by decide) (fun c1 => ?_) (fun c1 => ?_)
      · have hf := oIf_t hf c1
        cases hf
        exact W.vret hx hb hr (fun t ht hW => ⟨⟨(), rfl, trivial, by rw [ht]; exact hP, hD⟩, hS.F ht⟩) hS.2.2 d_M_own_30
      · have hf := oIf_f hf c1
        refine lv_aload_n hx hb d_M_own_10 rfl (lv_at hl 0 rfl) ?_
        refine va_get (D := (dC, dI)) (ci := 3) (v := .ref q_was) (C := R_M) (T := T_M) (N := 23) hx hb ht in_M hown hK hP 0 rfl rfl 9 (by decide) (ht _ m_355) (fun _ h9 => h9) rfl d_M_own_11 ?_
        refine lv_iload_n hx hb d_M_own_14 rfl (lv_at hl 1 rfl) ?_
        refine lv_iload_n hx hb d_M_own_15 rfl (lv_at hl 1 rfl) ?_
        obtain ⟨hi2, hf⟩ := oIn_some hf
        refine va_iast hx hb hK hP hD hS 6 0 rfl rfl hi2 d_M_own_16 (fun H locs hP hD hS => ?_)
        obtain ⟨a3, ea3, hf⟩ := oLet_ex hf
        have hP : va_P (dC, dI) vwCl (w_M qM q_px q_py q_pz q_plane q_axis q_was q_ways q_keptWas q_keptWays q_keptPoints q_nextWas q_nextWays q_nowWas q_nowWays q_to cI vthrown vpoints vplanes vaxes vkept vax vay vaz cpx cpy cpz cplane caxis a3 cways ckeptWas ckeptWays ckeptPoints cnextWas cnextWays cnowWas cnowWays cto) H := by rw [ea3]; exact hP
        have hD : va_D A (w_M qM q_px q_py q_pz q_plane q_axis q_was q_ways q_keptWas q_keptWays q_keptPoints q_nextWas q_nextWays q_nowWas q_nowWays q_to cI vthrown vpoints vplanes vaxes vkept vax vay vaz cpx cpy cpz cplane caxis a3 cways ckeptWas ckeptWays ckeptPoints cnextWas cnextWays cnowWas cnowWays cto) := by rw [ea3]; exact hD
        refine lv_aload_n hx hb d_M_own_17 rfl (lv_at hl 0 rfl) ?_
        refine va_get (D := (dC, dI)) (ci := 3) (v := .ref q_ways) (C := R_M) (T := T_M) (N := 23) hx hb ht in_M hown hK hP 0 rfl rfl 10 (by decide) (ht _ m_356) (fun _ h9 => h9) rfl d_M_own_18 ?_
        refine lv_iload_n hx hb d_M_own_21 rfl (lv_at hl 1 rfl) ?_
        refine lv_iconst (v := 0) hx hb d_M_own_22 (by decide) ?_
        obtain ⟨hi4, hf⟩ := oIn_some hf
        refine va_iast hx hb hK hP hD hS 7 0 rfl rfl hi4 d_M_own_23 (fun H locs hP hD hS => ?_)
        obtain ⟨a5, ea5, hf⟩ := oLet_ex hf
        have hP : va_P (dC, dI) vwCl (w_M qM q_px q_py q_pz q_plane q_axis q_was q_ways q_keptWas q_keptWays q_keptPoints q_nextWas q_nextWays q_nowWas q_nowWays q_to cI vthrown vpoints vplanes vaxes vkept vax vay vaz cpx cpy cpz cplane caxis a3 a5 ckeptWas ckeptWays ckeptPoints cnextWas cnextWays cnowWas cnowWays cto) H := by rw [ea5]; exact hP
        have hD : va_D A (w_M qM q_px q_py q_pz q_plane q_axis q_was q_ways q_keptWas q_keptWays q_keptPoints q_nextWas q_nextWays q_nowWas q_nowWays q_to cI vthrown vpoints vplanes vaxes vkept vax vay vaz cpx cpy cpz cplane caxis a3 a5 ckeptWas ckeptWays ckeptPoints cnextWas cnextWays cnowWas cnowWays cto) := by rw [ea5]; exact hD
        obtain ⟨v6, ev6, hf⟩ := oLet_ex hf
        refine lv_iinc (v := v6) (lv' := [(1, .int v6), (0, .ref qM)]) hx hb d_M_own_24 hl (k := 1) rfl (by rw [ev6]; rfl) (by decide) rfl (fun ls hl => ?_)
        refine lv_goto (tgt := 2) hx hb d_M_own_27 (by decide) ?_
        exact ofX _ _ _ _ _ (ih2 v6 a3 a5 _ _ _ hf hP hD hS (lv_sub hl [1, 0] rfl))
  refine toX _ _ _ _ _ ?_
  unfold f_M_own at hf
  obtain ⟨H, hH⟩ : ∃ z, z = s.heap := ⟨_, rfl⟩
  have hS : va_S A s.heap H [] := by rw [hH]; exact hS
  have hP : va_P (dC, dI) vwCl (w_M qM q_px q_py q_pz q_plane q_axis q_was q_ways q_keptWas q_keptWays q_keptPoints q_nextWas q_nextWays q_nowWas q_nowWays q_to cI vthrown vpoints vplanes vaxes vkept vax vay vaz cpx cpy cpz cplane caxis cwas cways ckeptWas ckeptWays ckeptPoints cnextWas cnextWays cnowWas cnowWays cto) H := by rw [hH]; exact hP
  refine w_heap hH ?_
  refine lv_iconst (v := 0) hx hb d_M_own_0 (by decide) ?_
  refine lv_istore_n (lv' := [(1, .int 0), (0, .ref qM)]) hx hb d_M_own_1 rfl hl (by decide) rfl (fun ls hl => ?_)
  exact ofX _ _ _ _ _ (K2  _ 0 cwas cways _ _ _ hf hP hD hS (lv_sub hl [1, 0] rfl))
set_option maxHeartbeats 4000000 in
set_option maxRecDepth 100000 in
theorem c_M_add (l : Launch) (dC : Nat → ClassId) (dI : Nat → Nat → Nat) (qM q_px q_py q_pz q_plane q_axis q_was q_ways q_keptWas q_keptWays q_keptPoints q_nextWas q_nextWays q_nowWas q_nowWays q_to : Nat) (cI cJ cQ : ClassId) (sz : Nat) (vthrown : Int32) (vpoints : Int32) (vplanes : Int32) (vaxes : Int32) (vkept : Int32) (vax : Int32) (vay : Int32) (vaz : Int32) (cpx : Nat → Int32) (cpy : Nat → Int32) (cpz : Nat → Int32) (cplane : Nat → Int32) (caxis : Nat → Int32) (cwas : Nat → Int32) (cways : Nat → Int32) (ckeptWas : Nat → Int32) (ckeptWays : Nat → Int32) (ckeptPoints : Nat → Int32) (cnextWas : Nat → Int32) (cnextWays : Nat → Int32) (cnowWas : Nat → Int32) (cnowWays : Nat → Int32) (cto : Nat → Int32) (x1 : Int32) (x2 : Int32) (x3 : Int32) (r_ : Int32) (o_vpoints : Int32) (o_cpx : Nat → Int32) (o_cpy : Nat → Int32) (o_cpz : Nat → Int32) (hf : f_M_add vpoints cpx cpy cpz x1 x2 x3 = some (r_, o_vpoints, o_cpx, o_cpy, o_cpz)) : Met l y_M_add w_M_add ({ frames := 1, cells := 0, slots := 0, locals := 24 }) (va_Pc [.ref qM, .int x1, .int x2, .int x3] (fun U => U.heap.size = sz ∧ va_P (dC, dI) vwCl (w_M qM q_px q_py q_pz q_plane q_axis q_was q_ways q_keptWas q_keptWays q_keptPoints q_nextWas q_nextWays q_nowWas q_nowWays q_to cI vthrown vpoints vplanes vaxes vkept vax vay vaz cpx cpy cpz cplane caxis cwas cways ckeptWas ckeptWays ckeptPoints cnextWas cnextWays cnowWas cnowWays cto) U.heap ∧ va_K (dC, dI) vwCl [(cI, .int), (cJ, .long), (cQ, .object "CutBodies$Contents")] U ∧ nestZ U ∧ va_D (fun _ => True) (w_M qM q_px q_py q_pz q_plane q_axis q_was q_ways q_keptWas q_keptWays q_keptPoints q_nextWas q_nextWays q_nowWas q_nowWays q_to cI vthrown vpoints vplanes vaxes vkept vax vay vaz cpx cpy cpz cplane caxis cwas cways ckeptWas ckeptWays ckeptPoints cnextWas cnextWays cnowWas cnowWays cto))) (va_Qi (fun (r9 : Int32) (_ : Unit) => r9 = r_) (fun _ t => va_P (dC, dI) vwCl (w_M qM q_px q_py q_pz q_plane q_axis q_was q_ways q_keptWas q_keptWays q_keptPoints q_nextWas q_nextWays q_nowWas q_nowWays q_to cI vthrown o_vpoints vplanes vaxes vkept vax vay vaz o_cpx o_cpy o_cpz cplane caxis cwas cways ckeptWas ckeptWays ckeptPoints cnextWas cnextWays cnowWas cnowWays cto) t.heap ∧ va_D (va_A (w_M qM q_px q_py q_pz q_plane q_axis q_was q_ways q_keptWas q_keptWays q_keptPoints q_nextWas q_nextWays q_nowWas q_nowWays q_to cI vthrown vpoints vplanes vaxes vkept vax vay vaz cpx cpy cpz cplane caxis cwas cways ckeptWas ckeptWays ckeptPoints cnextWas cnextWays cnowWas cnowWays cto) sz) (w_M qM q_px q_py q_pz q_plane q_axis q_was q_ways q_keptWas q_keptWays q_keptPoints q_nextWas q_nextWays q_nowWas q_nowWays q_to cI vthrown o_vpoints vplanes vaxes vkept vax vay vaz o_cpx o_cpy o_cpz cplane caxis cwas cways ckeptWas ckeptWays ckeptPoints cnextWas cnextWays cnowWas cnowWays cto)) (va_A (w_M qM q_px q_py q_pz q_plane q_axis q_was q_ways q_keptWas q_keptWays q_keptPoints q_nextWas q_nextWays q_nowWas q_nowWays q_to cI vthrown vpoints vplanes vaxes vkept vax vay vaz cpx cpy cpz cplane caxis cwas cways ckeptWas ckeptWays ckeptPoints cnextWas cnextWays cnowWas cnowWays cto) sz)) 0 0 (va_A (w_M qM q_px q_py q_pz q_plane q_axis q_was q_ways q_keptWas q_keptWays q_keptPoints q_nextWas q_nextWays q_nowWas q_nowWays q_to cI vthrown vpoints vplanes vaxes vkept vax vay vaz cpx cpy cpz cplane caxis cwas cways ckeptWas ckeptWays ckeptPoints cnextWas cnextWays cnowWas cnowWays cto) sz) := by
  refine Met.ofW (cc := b_M_add) (maxL := 4) (ret := (some .boolean)) (by decide) rfl ?_
  intro p e s m args below meth c s₁ B hml hv
  obtain ⟨rfl, hsz, hP, hK, hZ, hD0⟩ := hv
  have hx := B.exec
  have hb := B.bytes
  have hr := B.returns
  have hts := atoms_spec (ws := w_M_add) B.pre
  have ht : ∀ w ∈ wAll, w.before _ s = true := fun w h => hts w (List.mem_cons_of_mem _ h)
  have hown : s.vm.findClass R_M = some m.cls := findClass_of_methodNamed B.named
  have hlocks := B.notSynchronized
  subst hsz
  have hD := hD0.self (sz := s.heap.size)
  generalize hAe : va_A (w_M qM q_px q_py q_pz q_plane q_axis q_was q_ways q_keptWas q_keptWays q_keptPoints q_nextWas q_nextWays q_nowWas q_nowWays q_to cI vthrown vpoints vplanes vaxes vkept vax vay vaz cpx cpy cpz cplane caxis cwas cways ckeptWas ckeptWays ckeptPoints cnextWas cnextWays cnowWas cnowWays cto) s.heap.size = A at hD ⊢
  have hA : ∀ q : Nat, s.heap.size ≤ q → A q := fun q h => by rw [← hAe]; exact Or.inr h
  have hS : va_S A s.heap s.heap [] := va_S.rf
  have hP : va_P (dC, dI) vwCl (w_M qM q_px q_py q_pz q_plane q_axis q_was q_ways q_keptWas q_keptWays q_keptPoints q_nextWas q_nextWays q_nowWas q_nowWays q_to cI vthrown vpoints vplanes vaxes vkept vax vay vaz cpx cpy cpz cplane caxis cwas cways ckeptWas ckeptWays ckeptPoints cnextWas cnextWays cnowWas cnowWays cto) s.heap := hP
  have hl := lv_entry ([.ref qM, .int x1, .int x2, .int x3]) (n := 4) (Nat.le_of_ble_eq_true rfl)
  rw [lg_entry_eq]
  generalize (lg_sl ([.ref qM, .int x1, .int x2, .int x3]) ++ List.replicate (4 - (lg_sl ([.ref qM, .int x1, .int x2, .int x3])).length) Slot.unset).toArray = ls at hl ⊢
  have hl : lv_has ls 4 [(0, .ref qM), (1, .int x1), (2, .int x2), (3, .int x3)] := hl
  unfold f_M_add at hf
  obtain ⟨H, hH⟩ : ∃ z, z = s.heap := ⟨_, rfl⟩
  have hS : va_S A s.heap H [] := by rw [hH]; exact hS
  have hP : va_P (dC, dI) vwCl (w_M qM q_px q_py q_pz q_plane q_axis q_was q_ways q_keptWas q_keptWays q_keptPoints q_nextWas q_nextWays q_nowWas q_nowWays q_to cI vthrown vpoints vplanes vaxes vkept vax vay vaz cpx cpy cpz cplane caxis cwas cways ckeptWas ckeptWays ckeptPoints cnextWas cnextWays cnowWas cnowWays cto) H := by rw [hH]; exact hP
  refine w_heap hH ?_
  refine lv_aload_n hx hb d_M_add_0 rfl (lv_at hl 0 rfl) ?_
  refine lv_iload_n hx hb d_M_add_1 rfl (lv_at hl 1 rfl) ?_
  refine lv_iload_n hx hb d_M_add_2 rfl (lv_at hl 2 rfl) ?_
  refine lv_iload_n hx hb d_M_add_3 rfl (lv_at hl 3 rfl) ?_
  obtain ⟨r1z, hfc, hf⟩ := oCall1_some hf
  have hPc := hP.sub (ws' := (w_M qM q_px q_py q_pz q_plane q_axis q_was q_ways q_keptWas q_keptWays q_keptPoints q_nextWas q_nextWays q_nowWas q_nowWays q_to cI vthrown vpoints vplanes vaxes vkept vax vay vaz cpx cpy cpz cplane caxis cwas cways ckeptWas ckeptWays ckeptPoints cnextWas cnextWays cnowWas cnowWays cto)) [0, 1, 2, 3, 4, 5, 6, 7, 8, 9, 10, 11, 12, 13, 14, 15] rfl
  refine vp_callSi (va_runV (As := [.int x1, .int x2, .int x3]) (rest := []) ⟨hx, hb, hml, hown, ht⟩ (c_M_pointAt l dC dI qM q_px q_py q_pz q_plane q_axis q_was q_ways q_keptWas q_keptWays q_keptPoints q_nextWas q_nextWays q_nowWas q_nowWays q_to cI cJ cQ vthrown vpoints vplanes vaxes vkept vax vay vaz cpx cpy cpz cplane caxis cwas cways ckeptWas ckeptWays ckeptPoints cnextWas cnextWays cnowWas cnowWays cto x1 x2 x3 r1z hfc) (cwV 3 ht (gV m_427 m_429 m_8 m_31 m_430) rfl rfl rfl (by decide +kernel) ⟨Nat.le_of_ble_eq_true rfl, Nat.le_of_ble_eq_true rfl⟩) (preRV hPc hK hZ (va_recv hK hPc (ci := 3) (q0 := 0) rfl rfl)) rfl rfl hl.1 rfl (lv_room (Nat.le_of_ble_eq_true rfl)) d_M_add_4 ⟨Nat.le_of_ble_eq_true rfl, Nat.le_of_ble_eq_true rfl⟩).run (fun r1 hw => ?_)
  subst hw
  clear hPc hfc
  refine lv_if_ge (tgt := 19) hx hb d_M_add_7 (by decide) (fun c2 => ?_) (fun c2 => ?_)
  · have hf := oIf_t hf c2
    refine lv_iconst (v := 0) hx hb d_M_add_19 (by decide) ?_
    cases hf
    exact W.zret (ty := .boolean) hx hb hr rfl (fun t ht hW => ⟨⟨_, (), rfl, rfl, by rw [ht]; exact hP, hD⟩, hS.F ht⟩) hS.2.2 d_M_add_20
  · have hf := oIf_f hf c2
    refine lv_aload_n hx hb d_M_add_10 rfl (lv_at hl 0 rfl) ?_
    refine va_get (D := (dC, dI)) (ci := 3) (v := .int vpoints) (C := R_M) (T := T_M) (N := 23) hx hb ht in_M hown hK hP 0 rfl rfl 1 (by decide) (ht _ m_347) (fun _ h9 => h9) rfl d_M_add_11 ?_
    refine lv_bipush (v := 60) hx hb d_M_add_14 (by decide) ?_
    refine lv_icmp_ne (tgt := 21) hx hb d_M_add_16 (by decide) (fun c3 => ?_) (fun c3 => ?_)
    · have hf := oIf_f hf c3
      refine lv_aload_n hx hb d_M_add_21 rfl (lv_at hl 0 rfl) ?_
      refine va_get (D := (dC, dI)) (ci := 3) (v := .ref q_px) (C := R_M) (T := T_M) (N := 23) hx hb ht in_M hown hK hP 0 rfl rfl 4 (by decide) (ht _ m_350) (fun _ h9 => h9) rfl d_M_add_22 ?_
      refine lv_aload_n hx hb d_M_add_25 rfl (lv_at hl 0 rfl) ?_
      refine va_get (D := (dC, dI)) (ci := 3) (v := .int vpoints) (C := R_M) (T := T_M) (N := 23) hx hb ht in_M hown hK hP 0 rfl rfl 1 (by decide) (ht _ m_347) (fun _ h9 => h9) rfl d_M_add_26 ?_
      refine lv_iload_n hx hb d_M_add_29 rfl (lv_at hl 1 rfl) ?_
      obtain ⟨hi4, hf⟩ := oIn_some hf
      refine va_iast hx hb hK hP hD hS 1 0 rfl rfl hi4 d_M_add_30 (fun H locs hP hD hS => ?_)
      obtain ⟨a5, ea5, hf⟩ := oLet_ex hf
      have hP : va_P (dC, dI) vwCl (w_M qM q_px q_py q_pz q_plane q_axis q_was q_ways q_keptWas q_keptWays q_keptPoints q_nextWas q_nextWays q_nowWas q_nowWays q_to cI vthrown vpoints vplanes vaxes vkept vax vay vaz a5 cpy cpz cplane caxis cwas cways ckeptWas ckeptWays ckeptPoints cnextWas cnextWays cnowWas cnowWays cto) H := by rw [ea5]; exact hP
      have hD : va_D A (w_M qM q_px q_py q_pz q_plane q_axis q_was q_ways q_keptWas q_keptWays q_keptPoints q_nextWas q_nextWays q_nowWas q_nowWays q_to cI vthrown vpoints vplanes vaxes vkept vax vay vaz a5 cpy cpz cplane caxis cwas cways ckeptWas ckeptWays ckeptPoints cnextWas cnextWays cnowWas cnowWays cto) := by rw [ea5]; exact hD
      refine lv_aload_n hx hb d_M_add_31 rfl (lv_at hl 0 rfl) ?_
      refine va_get (D := (dC, dI)) (ci := 3) (v := .ref q_py) (C := R_M) (T := T_M) (N := 23) hx hb ht in_M hown hK hP 0 rfl rfl 5 (by decide) (ht _ m_351) (fun _ h9 => h9) rfl d_M_add_32 ?_
      refine lv_aload_n hx hb d_M_add_35 rfl (lv_at hl 0 rfl) ?_
      refine va_get (D := (dC, dI)) (ci := 3) (v := .int vpoints) (C := R_M) (T := T_M) (N := 23) hx hb ht in_M hown hK hP 0 rfl rfl 1 (by decide) (ht _ m_347) (fun _ h9 => h9) rfl d_M_add_36 ?_
      refine lv_iload_n hx hb d_M_add_39 rfl (lv_at hl 2 rfl) ?_
      obtain ⟨hi6, hf⟩ := oIn_some hf
      refine va_iast hx hb hK hP hD hS 2 0 rfl rfl hi6 d_M_add_40 (fun H locs hP hD hS => ?_)
      obtain ⟨a7, ea7, hf⟩ := oLet_ex hf
      have hP : va_P (dC, dI) vwCl (w_M qM q_px q_py q_pz q_plane q_axis q_was q_ways q_keptWas q_keptWays q_keptPoints q_nextWas q_nextWays q_nowWas q_nowWays q_to cI vthrown vpoints vplanes vaxes vkept vax vay vaz a5 a7 cpz cplane caxis cwas cways ckeptWas ckeptWays ckeptPoints cnextWas cnextWays cnowWas cnowWays cto) H := by rw [ea7]; exact hP
      have hD : va_D A (w_M qM q_px q_py q_pz q_plane q_axis q_was q_ways q_keptWas q_keptWays q_keptPoints q_nextWas q_nextWays q_nowWas q_nowWays q_to cI vthrown vpoints vplanes vaxes vkept vax vay vaz a5 a7 cpz cplane caxis cwas cways ckeptWas ckeptWays ckeptPoints cnextWas cnextWays cnowWas cnowWays cto) := by rw [ea7]; exact hD
      refine lv_aload_n hx hb d_M_add_41 rfl (lv_at hl 0 rfl) ?_
      refine va_get (D := (dC, dI)) (ci := 3) (v := .ref q_pz) (C := R_M) (T := T_M) (N := 23) hx hb ht in_M hown hK hP 0 rfl rfl 6 (by decide) (ht _ m_352) (fun _ h9 => h9) rfl d_M_add_42 ?_
      refine lv_aload_n hx hb d_M_add_45 rfl (lv_at hl 0 rfl) ?_
      refine va_get (D := (dC, dI)) (ci := 3) (v := .int vpoints) (C := R_M) (T := T_M) (N := 23) hx hb ht in_M hown hK hP 0 rfl rfl 1 (by decide) (ht _ m_347) (fun _ h9 => h9) rfl d_M_add_46 ?_
      refine lv_iload_n hx hb d_M_add_49 rfl (lv_at hl 3 rfl) ?_
      obtain ⟨hi8, hf⟩ := oIn_some hf
      refine va_iast hx hb hK hP hD hS 3 0 rfl rfl hi8 d_M_add_50 (fun H locs hP hD hS => ?_)
      obtain ⟨a9, ea9, hf⟩ := oLet_ex hf
      have hP : va_P (dC, dI) vwCl (w_M qM q_px q_py q_pz q_plane q_axis q_was q_ways q_keptWas q_keptWays q_keptPoints q_nextWas q_nextWays q_nowWas q_nowWays q_to cI vthrown vpoints vplanes vaxes vkept vax vay vaz a5 a7 a9 cplane caxis cwas cways ckeptWas ckeptWays ckeptPoints cnextWas cnextWays cnowWas cnowWays cto) H := by rw [ea9]; exact hP
      have hD : va_D A (w_M qM q_px q_py q_pz q_plane q_axis q_was q_ways q_keptWas q_keptWays q_keptPoints q_nextWas q_nextWays q_nowWas q_nowWays q_to cI vthrown vpoints vplanes vaxes vkept vax vay vaz a5 a7 a9 cplane caxis cwas cways ckeptWas ckeptWays ckeptPoints cnextWas cnextWays cnowWas cnowWays cto) := by rw [ea9]; exact hD
      refine lv_aload_n hx hb d_M_add_51 rfl (lv_at hl 0 rfl) ?_
      refine lv_dup hx hb d_M_add_52 rfl ?_
      refine va_get (D := (dC, dI)) (ci := 3) (v := .int vpoints) (C := R_M) (T := T_M) (N := 23) hx hb ht in_M hown hK hP 0 rfl rfl 1 (by decide) (ht _ m_347) (fun _ h9 => h9) rfl d_M_add_53 ?_
      refine lv_iconst (v := 1) hx hb d_M_add_56 (by decide) ?_
      refine lv_iadd hx hb d_M_add_57 ?_
      refine lv_topi (fun v10 ev10 => ?_)
      have hf := oLet_some hf ev10
      refine va_put (D := (dC, dI)) (ci := 3) (v := .int v10) (ty := .int) (C := R_M) (T := T_M) (N := 23) hx hb ht in_M t_M t_M_ok n_M hown hK hP hD hS 0 rfl rfl 1 (by decide) (ht _ m_347) (fun _ h9 => h9) rfl (by decide +kernel) rfl rfl (Nat.le_of_ble_eq_true rfl) d_M_add_58 (fun H locs hP hD hS => ?_)
      have hP : va_P (dC, dI) vwCl (w_M qM q_px q_py q_pz q_plane q_axis q_was q_ways q_keptWas q_keptWays q_keptPoints q_nextWas q_nextWays q_nowWas q_nowWays q_to cI vthrown v10 vplanes vaxes vkept vax vay vaz a5 a7 a9 cplane caxis cwas cways ckeptWas ckeptWays ckeptPoints cnextWas cnextWays cnowWas cnowWays cto) H := hP
      have hD : va_D A (w_M qM q_px q_py q_pz q_plane q_axis q_was q_ways q_keptWas q_keptWays q_keptPoints q_nextWas q_nextWays q_nowWas q_nowWays q_to cI vthrown v10 vplanes vaxes vkept vax vay vaz a5 a7 a9 cplane caxis cwas cways ckeptWas ckeptWays ckeptPoints cnextWas cnextWays cnowWas cnowWays cto) := hD
      refine lv_iconst (v := 1) hx hb d_M_add_61 (by decide) ?_
      cases hf
      exact W.zret (ty := .boolean) hx hb hr rfl (fun t ht hW => ⟨⟨_, (), rfl, rfl, by rw [ht]; exact hP, hD⟩, hS.F ht⟩) hS.2.2 d_M_add_62
    · have hf := oIf_t hf c3
      refine lv_iconst (v := 0) hx hb d_M_add_19 (by decide) ?_
      cases hf
      exact W.zret (ty := .boolean) hx hb hr rfl (fun t ht hW => ⟨⟨_, (), rfl, rfl, by rw [ht]; exact hP, hD⟩, hS.F ht⟩) hS.2.2 d_M_add_20
set_option maxHeartbeats 4000000 in
set_option maxRecDepth 100000 in
theorem c_M_step (l : Launch) (dC : Nat → ClassId) (dI : Nat → Nat → Nat) (qM q_px q_py q_pz q_plane q_axis q_was q_ways q_keptWas q_keptWays q_keptPoints q_nextWas q_nextWays q_nowWas q_nowWays q_to : Nat) (cI cJ cQ : ClassId) (sz : Nat) (vthrown : Int32) (vpoints : Int32) (vplanes : Int32) (vaxes : Int32) (vkept : Int32) (vax : Int32) (vay : Int32) (vaz : Int32) (cpx : Nat → Int32) (cpy : Nat → Int32) (cpz : Nat → Int32) (cplane : Nat → Int32) (caxis : Nat → Int32) (cwas : Nat → Int32) (cways : Nat → Int32) (ckeptWas : Nat → Int32) (ckeptWays : Nat → Int32) (ckeptPoints : Nat → Int32) (cnextWas : Nat → Int32) (cnextWays : Nat → Int32) (cnowWas : Nat → Int32) (cnowWays : Nat → Int32) (cto : Nat → Int32) (x1 : Int32) (x2 : Int32) (x3 : Int32) (x4 : Int32) (o_vax : Int32) (o_vay : Int32) (o_vaz : Int32) (hf : f_M_step vax vay vaz caxis x1 x2 x3 x4 = some (o_vax, o_vay, o_vaz)) : Met l y_M_step w_M_step ({ frames := 1, cells := 0, slots := 0, locals := 23 }) (va_Pc [.ref qM, .int x1, .int x2, .int x3, .int x4] (fun U => U.heap.size = sz ∧ va_P (dC, dI) vwCl (w_M qM q_px q_py q_pz q_plane q_axis q_was q_ways q_keptWas q_keptWays q_keptPoints q_nextWas q_nextWays q_nowWas q_nowWays q_to cI vthrown vpoints vplanes vaxes vkept vax vay vaz cpx cpy cpz cplane caxis cwas cways ckeptWas ckeptWays ckeptPoints cnextWas cnextWays cnowWas cnowWays cto) U.heap ∧ va_K (dC, dI) vwCl [(cI, .int), (cJ, .long), (cQ, .object "CutBodies$Contents")] U ∧ nestZ U ∧ va_D (fun _ => True) (w_M qM q_px q_py q_pz q_plane q_axis q_was q_ways q_keptWas q_keptWays q_keptPoints q_nextWas q_nextWays q_nowWas q_nowWays q_to cI vthrown vpoints vplanes vaxes vkept vax vay vaz cpx cpy cpz cplane caxis cwas cways ckeptWas ckeptWays ckeptPoints cnextWas cnextWays cnowWas cnowWays cto))) (va_Qv (fun (_ : Unit) => True) (fun _ t => va_P (dC, dI) vwCl (w_M qM q_px q_py q_pz q_plane q_axis q_was q_ways q_keptWas q_keptWays q_keptPoints q_nextWas q_nextWays q_nowWas q_nowWays q_to cI vthrown vpoints vplanes vaxes vkept o_vax o_vay o_vaz cpx cpy cpz cplane caxis cwas cways ckeptWas ckeptWays ckeptPoints cnextWas cnextWays cnowWas cnowWays cto) t.heap ∧ va_D (va_A (w_M qM q_px q_py q_pz q_plane q_axis q_was q_ways q_keptWas q_keptWays q_keptPoints q_nextWas q_nextWays q_nowWas q_nowWays q_to cI vthrown vpoints vplanes vaxes vkept vax vay vaz cpx cpy cpz cplane caxis cwas cways ckeptWas ckeptWays ckeptPoints cnextWas cnextWays cnowWas cnowWays cto) sz) (w_M qM q_px q_py q_pz q_plane q_axis q_was q_ways q_keptWas q_keptWays q_keptPoints q_nextWas q_nextWays q_nowWas q_nowWays q_to cI vthrown vpoints vplanes vaxes vkept o_vax o_vay o_vaz cpx cpy cpz cplane caxis cwas cways ckeptWas ckeptWays ckeptPoints cnextWas cnextWays cnowWas cnowWays cto)) (va_A (w_M qM q_px q_py q_pz q_plane q_axis q_was q_ways q_keptWas q_keptWays q_keptPoints q_nextWas q_nextWays q_nowWas q_nowWays q_to cI vthrown vpoints vplanes vaxes vkept vax vay vaz cpx cpy cpz cplane caxis cwas cways ckeptWas ckeptWays ckeptPoints cnextWas cnextWays cnowWas cnowWays cto) sz)) 0 0 (va_A (w_M qM q_px q_py q_pz q_plane q_axis q_was q_ways q_keptWas q_keptWays q_keptPoints q_nextWas q_nextWays q_nowWas q_nowWays q_to cI vthrown vpoints vplanes vaxes vkept vax vay vaz cpx cpy cpz cplane caxis cwas cways ckeptWas ckeptWays ckeptPoints cnextWas cnextWays cnowWas cnowWays cto) sz) := by
  refine Met.ofW (cc := b_M_step) (maxL := 13) (ret := none) (by decide) rfl ?_
  intro p e s m args below meth c s₁ B hml hv
  obtain ⟨rfl, hsz, hP, hK, hZ, hD0⟩ := hv
  have hx := B.exec
  have hb := B.bytes
  have hr := B.returns
  have hts := atoms_spec (ws := w_M_step) B.pre
  have ht : ∀ w ∈ wAll, w.before _ s = true := fun w h => hts w (List.mem_cons_of_mem _ h)
  have hown : s.vm.findClass R_M = some m.cls := findClass_of_methodNamed B.named
  have hlocks := B.notSynchronized
  subst hsz
  have hD := hD0.self (sz := s.heap.size)
  generalize hAe : va_A (w_M qM q_px q_py q_pz q_plane q_axis q_was q_ways q_keptWas q_keptWays q_keptPoints q_nextWas q_nextWays q_nowWas q_nowWays q_to cI vthrown vpoints vplanes vaxes vkept vax vay vaz cpx cpy cpz cplane caxis cwas cways ckeptWas ckeptWays ckeptPoints cnextWas cnextWays cnowWas cnowWays cto) s.heap.size = A at hD ⊢
  have hA : ∀ q : Nat, s.heap.size ≤ q → A q := fun q h => by rw [← hAe]; exact Or.inr h
  have hS : va_S A s.heap s.heap [] := va_S.rf
  have hP : va_P (dC, dI) vwCl (w_M qM q_px q_py q_pz q_plane q_axis q_was q_ways q_keptWas q_keptWays q_keptPoints q_nextWas q_nextWays q_nowWas q_nowWays q_to cI vthrown vpoints vplanes vaxes vkept vax vay vaz cpx cpy cpz cplane caxis cwas cways ckeptWas ckeptWays ckeptPoints cnextWas cnextWays cnowWas cnowWays cto) s.heap := hP
  have hl := lv_entry ([.ref qM, .int x1, .int x2, .int x3, .int x4]) (n := 13) (Nat.le_of_ble_eq_true rfl)
  rw [lg_entry_eq]
  generalize (lg_sl ([.ref qM, .int x1, .int x2, .int x3, .int x4]) ++ List.replicate (13 - (lg_sl ([.ref qM, .int x1, .int x2, .int x3, .int x4])).length) Slot.unset).toArray = ls at hl ⊢
  have hl : lv_has ls 13 [(0, .ref qM), (1, .int x1), (2, .int x2), (3, .int x3), (4, .int x4)] := hl
  refine w_abs (fun Wx toX ofX => ?_)
  have K239 : ∀ (t1 : Int32) (vax : Int32) (vay : Int32) (vaz : Int32) (H : Heap) (locs : List Loc) (ls : Array Slot), f_M_step_J239  caxis t1 vax vay vaz = some (o_vax, o_vay, o_vaz) → va_P (dC, dI) vwCl (w_M qM q_px q_py q_pz q_plane q_axis q_was q_ways q_keptWas q_keptWays q_keptPoints q_nextWas q_nextWays q_nowWas q_nowWays q_to cI vthrown vpoints vplanes vaxes vkept vax vay vaz cpx cpy cpz cplane caxis cwas cways ckeptWas ckeptWays ckeptPoints cnextWas cnextWays cnowWas cnowWays cto) H → va_D A (w_M qM q_px q_py q_pz q_plane q_axis q_was q_ways q_keptWas q_keptWays q_keptPoints q_nextWas q_nextWays q_nowWas q_nowWays q_to cI vthrown vpoints vplanes vaxes vkept vax vay vaz cpx cpy cpz cplane caxis cwas cways ckeptWas ckeptWays ckeptPoints cnextWas cnextWays cnowWas cnowWays cto) → va_S A s.heap H locs → lv_has ls 13 [] → Wx H locs 0 0 (F0 m 239 ls [.int t1, .ref qM]) := by
    intro t1 vax vay vaz H locs ls hf hP hD hS hl
    refine toX _ _ _ _ _ ?_
    unfold f_M_step_J239 at hf
    refine va_put (D := (dC, dI)) (ci := 3) (v := .int t1) (ty := .int) (C := R_M) (T := T_M) (N := 23) hx hb ht in_M t_M t_M_ok n_M hown hK hP hD hS 0 rfl rfl 17 (by decide) (ht _ m_363) (fun _ h9 => h9) rfl (by decide +kernel) rfl rfl (Nat.le_of_ble_eq_true rfl) d_M_step_239 (fun H locs hP hD hS => ?_)
    have hP : va_P (dC, dI) vwCl (w_M qM q_px q_py q_pz q_plane q_axis q_was q_ways q_keptWas q_keptWays q_keptPoints q_nextWas q_nextWays q_nowWas q_nowWays q_to cI vthrown vpoints vplanes vaxes vkept vax vay t1 cpx cpy cpz cplane caxis cwas cways ckeptWas ckeptWays ckeptPoints cnextWas cnextWays cnowWas cnowWays cto) H := hP
    have hD : va_D A (w_M qM q_px q_py q_pz q_plane q_axis q_was q_ways q_keptWas q_keptWays q_keptPoints q_nextWas q_nextWays q_nowWas q_nowWays q_to cI vthrown vpoints vplanes vaxes vkept vax vay t1 cpx cpy cpz cplane caxis cwas cways ckeptWas ckeptWays ckeptPoints cnextWas cnextWays cnowWas cnowWays cto) := hD
    cases hf
    exact W.vret hx hb hr (fun t ht hW => ⟨⟨(), rfl, trivial, by rw [ht]; exact hP, hD⟩, hS.F ht⟩) hS.2.2 d_M_step_242
  have K188 : ∀ (x4 : Int32) (x7 : Int32) (x8 : Int32) (x11 : Int32) (x12 : Int32) (t1 : Int32) (vax : Int32) (vay : Int32) (vaz : Int32) (H : Heap) (locs : List Loc) (ls : Array Slot), f_M_step_J188  caxis x4 x7 x8 x11 x12 t1 vax vay vaz = some (o_vax, o_vay, o_vaz) → va_P (dC, dI) vwCl (w_M qM q_px q_py q_pz q_plane q_axis q_was q_ways q_keptWas q_keptWays q_keptPoints q_nextWas q_nextWays q_nowWas q_nowWays q_to cI vthrown vpoints vplanes vaxes vkept vax vay vaz cpx cpy cpz cplane caxis cwas cways ckeptWas ckeptWays ckeptPoints cnextWas cnextWays cnowWas cnowWays cto) H → va_D A (w_M qM q_px q_py q_pz q_plane q_axis q_was q_ways q_keptWas q_keptWays q_keptPoints q_nextWas q_nextWays q_nowWas q_nowWays q_to cI vthrown vpoints vplanes vaxes vkept vax vay vaz cpx cpy cpz cplane caxis cwas cways ckeptWas ckeptWays ckeptPoints cnextWas cnextWays cnowWas cnowWays cto) → va_S A s.heap H locs → lv_has ls 13 [(0, .ref qM), (4, .int x4), (7, .int x7), (8, .int x8), (11, .int x11), (12, .int x12)] → Wx H locs 0 0 (F0 m 188 ls [.int t1, .ref qM]) := by
    intro x4 x7 x8 x11 x12 t1 vax vay vaz H locs ls hf hP hD hS hl
    refine toX _ _ _ _ _ ?_
    unfold f_M_step_J188 at hf
    refine va_put (D := (dC, dI)) (ci := 3) (v := .int t1) (ty := .int) (C := R_M) (T := T_M) (N := 23) hx hb ht in_M t_M t_M_ok n_M hown hK hP hD hS 0 rfl rfl 16 (by decide) (ht _ m_362) (fun _ h9 => h9) rfl (by decide +kernel) rfl rfl (Nat.le_of_ble_eq_true rfl) d_M_step_188 (fun H locs hP hD hS => ?_)
    have hP : va_P (dC, dI) vwCl (w_M qM q_px q_py q_pz q_plane q_axis q_was q_ways q_keptWas q_keptWays q_keptPoints q_nextWas q_nextWays q_nowWas q_nowWays q_to cI vthrown vpoints vplanes vaxes vkept vax t1 vaz cpx cpy cpz cplane caxis cwas cways ckeptWas ckeptWays ckeptPoints cnextWas cnextWays cnowWas cnowWays cto) H := hP
    have hD : va_D A (w_M qM q_px q_py q_pz q_plane q_axis q_was q_ways q_keptWas q_keptWays q_keptPoints q_nextWas q_nextWays q_nowWas q_nowWays q_to cI vthrown vpoints vplanes vaxes vkept vax t1 vaz cpx cpy cpz cplane caxis cwas cways ckeptWas ckeptWays ckeptPoints cnextWas cnextWays cnowWas cnowWays cto) := hD
    refine lv_aload_n hx hb d_M_step_191 rfl (lv_at hl 0 rfl) ?_
    refine lv_iload hx hb d_M_step_192 (lv_at hl 5 rfl) ?_
    refine lv_iconst (v := 1) hx hb d_M_step_194 (by decide) ?_
    refine lv_icmp_ne (tgt := 209) hx hb d_M_step_195 (by decide) (fun c1 => ?_) (fun c1 => ?_)
    · have hf := oIf_f hf c1
      refine lv_iload hx hb d_M_step_209 (lv_at hl 5 rfl) ?_
      refine lv_iconst (v := 2) hx hb d_M_step_211 (by decide) ?_
      refine lv_icmp_ne (tgt := 226) hx hb d_M_step_212 (by decide) (fun c2 => ?_) (fun c2 => ?_)
      · have hf := oIf_f hf c2
        refine lv_iload hx hb d_M_step_226 (lv_at hl 2 rfl) ?_
        refine lv_iload hx hb d_M_step_228 (lv_at hl 3 rfl) ?_
        refine lv_imul hx hb d_M_step_230 ?_
        refine lv_iload hx hb d_M_step_231 (lv_at hl 4 rfl) ?_
        refine lv_iadd hx hb d_M_step_233 ?_
        refine lv_iload hx hb d_M_step_234 (lv_at hl 1 rfl) ?_
        refine lv_isub hx hb d_M_step_236 ?_
        refine lv_iconst (v := 2) hx hb d_M_step_237 (by decide) ?_
        refine lv_idiv hx hb d_M_step_238 (by decide) ?_
        exact ofX _ _ _ _ _ (K239  ((((x7 * x8) + x11) - x4) / 2) vax t1 vaz _ _ _ hf hP hD hS (lv_sub hl [] rfl))
      · have hf := oIf_t hf c2
        refine lv_iload hx hb d_M_step_215 (lv_at hl 2 rfl) ?_
        refine lv_iload hx hb d_M_step_217 (lv_at hl 3 rfl) ?_
        refine lv_imul hx hb d_M_step_219 ?_
        refine lv_iload hx hb d_M_step_220 (lv_at hl 1 rfl) ?_
        refine lv_isub hx hb d_M_step_222 ?_
        refine lv_goto (tgt := 239) hx hb d_M_step_223 (by decide) ?_
        exact ofX _ _ _ _ _ (K239  ((x7 * x8) - x4) vax t1 vaz _ _ _ hf hP hD hS (lv_sub hl [] rfl))
    · have hf := oIf_t hf c1
      refine lv_iload hx hb d_M_step_198 (lv_at hl 2 rfl) ?_
      refine lv_iload hx hb d_M_step_200 (lv_at hl 3 rfl) ?_
      refine lv_imul hx hb d_M_step_202 ?_
      refine lv_iload hx hb d_M_step_203 (lv_at hl 4 rfl) ?_
      refine lv_iadd hx hb d_M_step_205 ?_
      refine lv_goto (tgt := 239) hx hb d_M_step_206 (by decide) ?_
      exact ofX _ _ _ _ _ (K239  ((x7 * x8) + x11) vax t1 vaz _ _ _ hf hP hD hS (lv_sub hl [] rfl))
  have K139 : ∀ (x3 : Int32) (x4 : Int32) (x6 : Int32) (x7 : Int32) (x8 : Int32) (x10 : Int32) (x11 : Int32) (x12 : Int32) (t1 : Int32) (vax : Int32) (vay : Int32) (vaz : Int32) (H : Heap) (locs : List Loc) (ls : Array Slot), f_M_step_J139  caxis x3 x4 x6 x7 x8 x10 x11 x12 t1 vax vay vaz = some (o_vax, o_vay, o_vaz) → va_P (dC, dI) vwCl (w_M qM q_px q_py q_pz q_plane q_axis q_was q_ways q_keptWas q_keptWays q_keptPoints q_nextWas q_nextWays q_nowWas q_nowWays q_to cI vthrown vpoints vplanes vaxes vkept vax vay vaz cpx cpy cpz cplane caxis cwas cways ckeptWas ckeptWays ckeptPoints cnextWas cnextWays cnowWas cnowWays cto) H → va_D A (w_M qM q_px q_py q_pz q_plane q_axis q_was q_ways q_keptWas q_keptWays q_keptPoints q_nextWas q_nextWays q_nowWas q_nowWays q_to cI vthrown vpoints vplanes vaxes vkept vax vay vaz cpx cpy cpz cplane caxis cwas cways ckeptWas ckeptWays ckeptPoints cnextWas cnextWays cnowWas cnowWays cto) → va_S A s.heap H locs → lv_has ls 13 [(0, .ref qM), (3, .int x3), (4, .int x4), (6, .int x6), (7, .int x7), (8, .int x8), (10, .int x10), (11, .int x11), (12, .int x12)] → Wx H locs 0 0 (F0 m 139 ls [.int t1, .ref qM]) := by
    intro x3 x4 x6 x7 x8 x10 x11 x12 t1 vax vay vaz H locs ls hf hP hD hS hl
    refine toX _ _ _ _ _ ?_
    unfold f_M_step_J139 at hf
    refine va_put (D := (dC, dI)) (ci := 3) (v := .int t1) (ty := .int) (C := R_M) (T := T_M) (N := 23) hx hb ht in_M t_M t_M_ok n_M hown hK hP hD hS 0 rfl rfl 15 (by decide) (ht _ m_361) (fun _ h9 => h9) rfl (by decide +kernel) rfl rfl (Nat.le_of_ble_eq_true rfl) d_M_step_139 (fun H locs hP hD hS => ?_)
    have hP : va_P (dC, dI) vwCl (w_M qM q_px q_py q_pz q_plane q_axis q_was q_ways q_keptWas q_keptWays q_keptPoints q_nextWas q_nextWays q_nowWas q_nowWays q_to cI vthrown vpoints vplanes vaxes vkept t1 vay vaz cpx cpy cpz cplane caxis cwas cways ckeptWas ckeptWays ckeptPoints cnextWas cnextWays cnowWas cnowWays cto) H := hP
    have hD : va_D A (w_M qM q_px q_py q_pz q_plane q_axis q_was q_ways q_keptWas q_keptWays q_keptPoints q_nextWas q_nextWays q_nowWas q_nowWays q_to cI vthrown vpoints vplanes vaxes vkept t1 vay vaz cpx cpy cpz cplane caxis cwas cways ckeptWas ckeptWays ckeptPoints cnextWas cnextWays cnowWas cnowWays cto) := hD
    refine lv_aload_n hx hb d_M_step_142 rfl (lv_at hl 0 rfl) ?_
    refine lv_iload hx hb d_M_step_143 (lv_at hl 8 rfl) ?_
    refine lv_iconst (v := 1) hx hb d_M_step_145 (by decide) ?_
    refine lv_icmp_ne (tgt := 160) hx hb d_M_step_146 (by decide) (fun c3 => ?_) (fun c3 => ?_)
    · have hf := oIf_f hf c3
      refine lv_iload hx hb d_M_step_160 (lv_at hl 8 rfl) ?_
      refine lv_iconst (v := 2) hx hb d_M_step_162 (by decide) ?_
      refine lv_icmp_ne (tgt := 176) hx hb d_M_step_163 (by decide) (fun c4 => ?_) (fun c4 => ?_)
      · have hf := oIf_f hf c4
        refine lv_iload hx hb d_M_step_176 (lv_at hl 3 rfl) ?_
        refine lv_iload hx hb d_M_step_178 (lv_at hl 5 rfl) ?_
        refine lv_imul hx hb d_M_step_180 ?_
        refine lv_iload hx hb d_M_step_181 (lv_at hl 6 rfl) ?_
        refine lv_iadd hx hb d_M_step_183 ?_
        refine lv_iload_n hx hb d_M_step_184 rfl (lv_at hl 1 rfl) ?_
        refine lv_isub hx hb d_M_step_185 ?_
        refine lv_iconst (v := 2) hx hb d_M_step_186 (by decide) ?_
        refine lv_idiv hx hb d_M_step_187 (by decide) ?_
        exact ofX _ _ _ _ _ (K188  x4 x7 x8 x11 x12 ((((x6 * x8) + x10) - x3) / 2) t1 vay vaz _ _ _ hf hP hD hS (lv_sub hl [0, 2, 4, 5, 7, 8] rfl))
      · have hf := oIf_t hf c4
        refine lv_iload hx hb d_M_step_166 (lv_at hl 3 rfl) ?_
        refine lv_iload hx hb d_M_step_168 (lv_at hl 5 rfl) ?_
        refine lv_imul hx hb d_M_step_170 ?_
        refine lv_iload_n hx hb d_M_step_171 rfl (lv_at hl 1 rfl) ?_
        refine lv_isub hx hb d_M_step_172 ?_
        refine lv_goto (tgt := 188) hx hb d_M_step_173 (by decide) ?_
        exact ofX _ _ _ _ _ (K188  x4 x7 x8 x11 x12 ((x6 * x8) - x3) t1 vay vaz _ _ _ hf hP hD hS (lv_sub hl [0, 2, 4, 5, 7, 8] rfl))
    · have hf := oIf_t hf c3
      refine lv_iload hx hb d_M_step_149 (lv_at hl 3 rfl) ?_
      refine lv_iload hx hb d_M_step_151 (lv_at hl 5 rfl) ?_
      refine lv_imul hx hb d_M_step_153 ?_
      refine lv_iload hx hb d_M_step_154 (lv_at hl 6 rfl) ?_
      refine lv_iadd hx hb d_M_step_156 ?_
      refine lv_goto (tgt := 188) hx hb d_M_step_157 (by decide) ?_
      exact ofX _ _ _ _ _ (K188  x4 x7 x8 x11 x12 ((x6 * x8) + x10) t1 vay vaz _ _ _ hf hP hD hS (lv_sub hl [0, 2, 4, 5, 7, 8] rfl))
  refine toX _ _ _ _ _ ?_
  unfold f_M_step at hf
  obtain ⟨H, hH⟩ : ∃ z, z = s.heap := ⟨_, rfl⟩
  have hS : va_S A s.heap H [] := by rw [hH]; exact hS
  have hP : va_P (dC, dI) vwCl (w_M qM q_px q_py q_pz q_plane q_axis q_was q_ways q_keptWas q_keptWays q_keptPoints q_nextWas q_nextWays q_nowWas q_nowWays q_to cI vthrown vpoints vplanes vaxes vkept vax vay vaz cpx cpy cpz cplane caxis cwas cways ckeptWas ckeptWays ckeptPoints cnextWas cnextWays cnowWas cnowWays cto) H := by rw [hH]; exact hP
  refine w_heap hH ?_
  refine lv_aload_n hx hb d_M_step_0 rfl (lv_at hl 0 rfl) ?_
  refine va_get (D := (dC, dI)) (ci := 3) (v := .ref q_axis) (C := R_M) (T := T_M) (N := 23) hx hb ht in_M hown hK hP 0 rfl rfl 8 (by decide) (ht _ m_354) (fun _ h9 => h9) rfl d_M_step_1 ?_
  refine lv_iconst (v := 3) hx hb d_M_step_4 (by decide) ?_
  refine lv_iload_n hx hb d_M_step_5 rfl (lv_at hl 1 rfl) ?_
  refine lv_imul hx hb d_M_step_6 ?_
  obtain ⟨hi5, hf⟩ := oIn_some hf
  refine va_iald hx hb hK hP 5 0 rfl rfl hi5 d_M_step_7 ?_
  refine lv_topi (fun v6 ev6 => ?_)
  have hf := oLet_some hf ev6
  refine lv_istore (lv' := [(5, .int v6), (0, .ref qM), (1, .int x1), (2, .int x2), (3, .int x3), (4, .int x4)]) hx hb d_M_step_8 hl (by decide) rfl (fun ls hl => ?_)
  refine lv_aload_n hx hb d_M_step_10 rfl (lv_at hl 1 rfl) ?_
  refine va_get (D := (dC, dI)) (ci := 3) (v := .ref q_axis) (C := R_M) (T := T_M) (N := 23) hx hb ht in_M hown hK hP 0 rfl rfl 8 (by decide) (ht _ m_354) (fun _ h9 => h9) rfl d_M_step_11 ?_
  refine lv_iconst (v := 3) hx hb d_M_step_14 (by decide) ?_
  refine lv_iload_n hx hb d_M_step_15 rfl (lv_at hl 2 rfl) ?_
  refine lv_imul hx hb d_M_step_16 ?_
  refine lv_iconst (v := 1) hx hb d_M_step_17 (by decide) ?_
  refine lv_iadd hx hb d_M_step_18 ?_
  obtain ⟨hi7, hf⟩ := oIn_some hf
  refine va_iald hx hb hK hP 5 0 rfl rfl hi7 d_M_step_19 ?_
  refine lv_topi (fun v8 ev8 => ?_)
  have hf := oLet_some hf ev8
  refine lv_istore (lv' := [(6, .int v8), (5, .int v6), (0, .ref qM), (1, .int x1), (2, .int x2), (3, .int x3), (4, .int x4)]) hx hb d_M_step_20 hl (by decide) rfl (fun ls hl => ?_)
  refine lv_aload_n hx hb d_M_step_22 rfl (lv_at hl 2 rfl) ?_
  refine va_get (D := (dC, dI)) (ci := 3) (v := .ref q_axis) (C := R_M) (T := T_M) (N := 23) hx hb ht in_M hown hK hP 0 rfl rfl 8 (by decide) (ht _ m_354) (fun _ h9 => h9) rfl d_M_step_23 ?_
  refine lv_iconst (v := 3) hx hb d_M_step_26 (by decide) ?_
  refine lv_iload_n hx hb d_M_step_27 rfl (lv_at hl 3 rfl) ?_
  refine lv_imul hx hb d_M_step_28 ?_
  refine lv_iconst (v := 2) hx hb d_M_step_29 (by decide) ?_
  refine lv_iadd hx hb d_M_step_30 ?_
  obtain ⟨hi9, hf⟩ := oIn_some hf
  refine va_iald hx hb hK hP 5 0 rfl rfl hi9 d_M_step_31 ?_
  refine lv_topi (fun v10 ev10 => ?_)
  have hf := oLet_some hf ev10
  refine lv_istore (lv' := [(7, .int v10), (6, .int v8), (5, .int v6), (0, .ref qM), (1, .int x1), (2, .int x2), (3, .int x3), (4, .int x4)]) hx hb d_M_step_32 hl (by decide) rfl (fun ls hl => ?_)
  refine lv_iload hx hb d_M_step_34 (lv_at hl 2 rfl) ?_
  refine lv_iload_n hx hb d_M_step_36 rfl (lv_at hl 5 rfl) ?_
  refine lv_imul hx hb d_M_step_37 ?_
  refine lv_iload hx hb d_M_step_38 (lv_at hl 1 rfl) ?_
  refine lv_iload_n hx hb d_M_step_40 rfl (lv_at hl 6 rfl) ?_
  refine lv_imul hx hb d_M_step_41 ?_
  refine lv_iadd hx hb d_M_step_42 ?_
  refine lv_iload hx hb d_M_step_43 (lv_at hl 0 rfl) ?_
  refine lv_iload hx hb d_M_step_45 (lv_at hl 7 rfl) ?_
  refine lv_imul hx hb d_M_step_47 ?_
  refine lv_iadd hx hb d_M_step_48 ?_
  refine lv_topi (fun v11 ev11 => ?_)
  have hf := oLet_some hf ev11
  refine lv_istore (lv' := [(8, .int v11), (7, .int v10), (6, .int v8), (5, .int v6), (0, .ref qM), (1, .int x1), (2, .int x2), (3, .int x3), (4, .int x4)]) hx hb d_M_step_49 hl (by decide) rfl (fun ls hl => ?_)
  refine lv_iload hx hb d_M_step_51 (lv_at hl 2 rfl) ?_
  refine lv_iload hx hb d_M_step_53 (lv_at hl 8 rfl) ?_
  refine lv_imul hx hb d_M_step_55 ?_
  refine lv_iload hx hb d_M_step_56 (lv_at hl 1 rfl) ?_
  refine lv_iload_n hx hb d_M_step_58 rfl (lv_at hl 7 rfl) ?_
  refine lv_imul hx hb d_M_step_59 ?_
  refine lv_isub hx hb d_M_step_60 ?_
  refine lv_topi (fun v12 ev12 => ?_)
  have hf := oLet_some hf ev12
  refine lv_istore (lv' := [(9, .int v12), (8, .int v11), (7, .int v10), (6, .int v8), (5, .int v6), (0, .ref qM), (1, .int x1), (2, .int x2), (3, .int x3), (4, .int x4)]) hx hb d_M_step_61 hl (by decide) rfl (fun ls hl => ?_)
  refine lv_iload hx hb d_M_step_63 (lv_at hl 2 rfl) ?_
  refine lv_iload_n hx hb d_M_step_65 rfl (lv_at hl 7 rfl) ?_
  refine lv_imul hx hb d_M_step_66 ?_
  refine lv_iload hx hb d_M_step_67 (lv_at hl 4 rfl) ?_
  refine lv_iload hx hb d_M_step_69 (lv_at hl 9 rfl) ?_
  refine lv_imul hx hb d_M_step_71 ?_
  refine lv_isub hx hb d_M_step_72 ?_
  refine lv_topi (fun v13 ev13 => ?_)
  have hf := oLet_some hf ev13
  refine lv_istore (lv' := [(10, .int v13), (9, .int v12), (8, .int v11), (7, .int v10), (6, .int v8), (5, .int v6), (0, .ref qM), (1, .int x1), (2, .int x2), (3, .int x3), (4, .int x4)]) hx hb d_M_step_73 hl (by decide) rfl (fun ls hl => ?_)
  refine lv_iload hx hb d_M_step_75 (lv_at hl 5 rfl) ?_
  refine lv_iload_n hx hb d_M_step_77 rfl (lv_at hl 9 rfl) ?_
  refine lv_imul hx hb d_M_step_78 ?_
  refine lv_iload hx hb d_M_step_79 (lv_at hl 4 rfl) ?_
  refine lv_iload_n hx hb d_M_step_81 rfl (lv_at hl 8 rfl) ?_
  refine lv_imul hx hb d_M_step_82 ?_
  refine lv_isub hx hb d_M_step_83 ?_
  refine lv_topi (fun v14 ev14 => ?_)
  have hf := oLet_some hf ev14
  refine lv_istore (lv' := [(11, .int v14), (10, .int v13), (9, .int v12), (8, .int v11), (7, .int v10), (6, .int v8), (5, .int v6), (0, .ref qM), (1, .int x1), (2, .int x2), (3, .int x3), (4, .int x4)]) hx hb d_M_step_84 hl (by decide) rfl (fun ls hl => ?_)
  refine lv_aload_n hx hb d_M_step_86 rfl (lv_at hl 7 rfl) ?_
  refine lv_iload_n hx hb d_M_step_87 rfl (lv_at hl 8 rfl) ?_
  obtain ⟨r15z, hfc, hf⟩ := oCall1_some hf
  have hPc := hP.sub (ws' := (w_M qM q_px q_py q_pz q_plane q_axis q_was q_ways q_keptWas q_keptWays q_keptPoints q_nextWas q_nextWays q_nowWas q_nowWays q_to cI vthrown vpoints vplanes vaxes vkept vax vay vaz cpx cpy cpz cplane caxis cwas cways ckeptWas ckeptWays ckeptPoints cnextWas cnextWays cnowWas cnowWays cto)) [0, 1, 2, 3, 4, 5, 6, 7, 8, 9, 10, 11, 12, 13, 14, 15] rfl
  refine vp_callSi (va_runV (As := [.int x1]) (rest := []) ⟨hx, hb, hml, hown, ht⟩ (c_M_kind l dC dI qM q_px q_py q_pz q_plane q_axis q_was q_ways q_keptWas q_keptWays q_keptPoints q_nextWas q_nextWays q_nowWas q_nowWays q_to cI cJ cQ vthrown vpoints vplanes vaxes vkept vax vay vaz cpx cpy cpz cplane caxis cwas cways ckeptWas ckeptWays ckeptPoints cnextWas cnextWays cnowWas cnowWays cto x1 r15z hfc) (cwV 1 ht (gV m_458 m_460 m_11 m_31 m_461) rfl rfl rfl (by decide +kernel) ⟨Nat.le_of_ble_eq_true rfl, Nat.le_of_ble_eq_true rfl⟩) (preRV hPc hK hZ (va_recv hK hPc (ci := 3) (q0 := 0) rfl rfl)) rfl rfl hl.1 rfl (lv_room (Nat.le_of_ble_eq_true rfl)) d_M_step_88 ⟨Nat.le_of_ble_eq_true rfl, Nat.le_of_ble_eq_true rfl⟩).run (fun r15 hw => ?_)
  subst hw
  clear hPc hfc
  refine lv_istore (lv' := [(12, .int r15), (11, .int v14), (10, .int v13), (9, .int v12), (8, .int v11), (7, .int v10), (6, .int v8), (5, .int v6), (0, .ref qM), (1, .int x1), (2, .int x2), (3, .int x3), (4, .int x4)]) hx hb d_M_step_91 hl (by decide) rfl (fun ls hl => ?_)
  refine lv_aload_n hx hb d_M_step_93 rfl (lv_at hl 8 rfl) ?_
  refine lv_iload hx hb d_M_step_94 (lv_at hl 0 rfl) ?_
  refine lv_iconst (v := 1) hx hb d_M_step_96 (by decide) ?_
  refine lv_icmp_ne (tgt := 111) hx hb d_M_step_97 (by decide) (fun c16 => ?_) (fun c16 => ?_)
  · have hf := oIf_f hf c16
    refine lv_iload hx hb d_M_step_111 (lv_at hl 0 rfl) ?_
    refine lv_iconst (v := 2) hx hb d_M_step_113 (by decide) ?_
    refine lv_icmp_ne (tgt := 127) hx hb d_M_step_114 (by decide) (fun c17 => ?_) (fun c17 => ?_)
    · have hf := oIf_f hf c17
      refine lv_iload hx hb d_M_step_127 (lv_at hl 7 rfl) ?_
      refine lv_iload hx hb d_M_step_129 (lv_at hl 4 rfl) ?_
      refine lv_imul hx hb d_M_step_131 ?_
      refine lv_iload hx hb d_M_step_132 (lv_at hl 3 rfl) ?_
      refine lv_iadd hx hb d_M_step_134 ?_
      refine lv_iload_n hx hb d_M_step_135 rfl (lv_at hl 10 rfl) ?_
      refine lv_isub hx hb d_M_step_136 ?_
      refine lv_iconst (v := 2) hx hb d_M_step_137 (by decide) ?_
      refine lv_idiv hx hb d_M_step_138 (by decide) ?_
      exact ofX _ _ _ _ _ (K139  x3 x4 v8 v10 v11 v13 v14 r15 ((((v6 * v11) + v12) - x2) / 2) vax vay vaz _ _ _ hf hP hD hS (lv_sub hl [8, 11, 12, 6, 5, 4, 2, 1, 0] rfl))
    · have hf := oIf_t hf c17
      refine lv_iload hx hb d_M_step_117 (lv_at hl 7 rfl) ?_
      refine lv_iload hx hb d_M_step_119 (lv_at hl 4 rfl) ?_
      refine lv_imul hx hb d_M_step_121 ?_
      refine lv_iload_n hx hb d_M_step_122 rfl (lv_at hl 10 rfl) ?_
      refine lv_isub hx hb d_M_step_123 ?_
      refine lv_goto (tgt := 139) hx hb d_M_step_124 (by decide) ?_
      exact ofX _ _ _ _ _ (K139  x3 x4 v8 v10 v11 v13 v14 r15 ((v6 * v11) - x2) vax vay vaz _ _ _ hf hP hD hS (lv_sub hl [8, 11, 12, 6, 5, 4, 2, 1, 0] rfl))
  · have hf := oIf_t hf c16
    refine lv_iload hx hb d_M_step_100 (lv_at hl 7 rfl) ?_
    refine lv_iload hx hb d_M_step_102 (lv_at hl 4 rfl) ?_
    refine lv_imul hx hb d_M_step_104 ?_
    refine lv_iload hx hb d_M_step_105 (lv_at hl 3 rfl) ?_
    refine lv_iadd hx hb d_M_step_107 ?_
    refine lv_goto (tgt := 139) hx hb d_M_step_108 (by decide) ?_
    exact ofX _ _ _ _ _ (K139  x3 x4 v8 v10 v11 v13 v14 r15 ((v6 * v11) + v12) vax vay vaz _ _ _ hf hP hD hS (lv_sub hl [8, 11, 12, 6, 5, 4, 2, 1, 0] rfl))
set_option maxHeartbeats 4000000 in
set_option maxRecDepth 100000 in
theorem c_M_imageOf (l : Launch) (dC : Nat → ClassId) (dI : Nat → Nat → Nat) (qM q_px q_py q_pz q_plane q_axis q_was q_ways q_keptWas q_keptWays q_keptPoints q_nextWas q_nextWays q_nowWas q_nowWays q_to : Nat) (cI cJ cQ : ClassId) (sz : Nat) (vthrown : Int32) (vpoints : Int32) (vplanes : Int32) (vaxes : Int32) (vkept : Int32) (vax : Int32) (vay : Int32) (vaz : Int32) (cpx : Nat → Int32) (cpy : Nat → Int32) (cpz : Nat → Int32) (cplane : Nat → Int32) (caxis : Nat → Int32) (cwas : Nat → Int32) (cways : Nat → Int32) (ckeptWas : Nat → Int32) (ckeptWays : Nat → Int32) (ckeptPoints : Nat → Int32) (cnextWas : Nat → Int32) (cnextWays : Nat → Int32) (cnowWas : Nat → Int32) (cnowWays : Nat → Int32) (cto : Nat → Int32) (x1 : Int32) (x2 : Int32) (r_ : Int32) (o_vax : Int32) (o_vay : Int32) (o_vaz : Int32) (hf : f_M_imageOf vpoints vax vay vaz cpx cpy cpz caxis x1 x2 = some (r_, o_vax, o_vay, o_vaz)) : Met l y_M_imageOf w_M_imageOf ({ frames := 2, cells := 0, slots := 0, locals := 55 }) (va_Pc [.ref qM, .int x1, .int x2] (fun U => U.heap.size = sz ∧ va_P (dC, dI) vwCl (w_M qM q_px q_py q_pz q_plane q_axis q_was q_ways q_keptWas q_keptWays q_keptPoints q_nextWas q_nextWays q_nowWas q_nowWays q_to cI vthrown vpoints vplanes vaxes vkept vax vay vaz cpx cpy cpz cplane caxis cwas cways ckeptWas ckeptWays ckeptPoints cnextWas cnextWays cnowWas cnowWays cto) U.heap ∧ va_K (dC, dI) vwCl [(cI, .int), (cJ, .long), (cQ, .object "CutBodies$Contents")] U ∧ nestZ U ∧ va_D (fun _ => True) (w_M qM q_px q_py q_pz q_plane q_axis q_was q_ways q_keptWas q_keptWays q_keptPoints q_nextWas q_nextWays q_nowWas q_nowWays q_to cI vthrown vpoints vplanes vaxes vkept vax vay vaz cpx cpy cpz cplane caxis cwas cways ckeptWas ckeptWays ckeptPoints cnextWas cnextWays cnowWas cnowWays cto))) (va_Qi (fun (r9 : Int32) (_ : Unit) => r9 = r_) (fun _ t => va_P (dC, dI) vwCl (w_M qM q_px q_py q_pz q_plane q_axis q_was q_ways q_keptWas q_keptWays q_keptPoints q_nextWas q_nextWays q_nowWas q_nowWays q_to cI vthrown vpoints vplanes vaxes vkept o_vax o_vay o_vaz cpx cpy cpz cplane caxis cwas cways ckeptWas ckeptWays ckeptPoints cnextWas cnextWays cnowWas cnowWays cto) t.heap ∧ va_D (va_A (w_M qM q_px q_py q_pz q_plane q_axis q_was q_ways q_keptWas q_keptWays q_keptPoints q_nextWas q_nextWays q_nowWas q_nowWays q_to cI vthrown vpoints vplanes vaxes vkept vax vay vaz cpx cpy cpz cplane caxis cwas cways ckeptWas ckeptWays ckeptPoints cnextWas cnextWays cnowWas cnowWays cto) sz) (w_M qM q_px q_py q_pz q_plane q_axis q_was q_ways q_keptWas q_keptWays q_keptPoints q_nextWas q_nextWays q_nowWas q_nowWays q_to cI vthrown vpoints vplanes vaxes vkept o_vax o_vay o_vaz cpx cpy cpz cplane caxis cwas cways ckeptWas ckeptWays ckeptPoints cnextWas cnextWays cnowWas cnowWays cto)) (va_A (w_M qM q_px q_py q_pz q_plane q_axis q_was q_ways q_keptWas q_keptWays q_keptPoints q_nextWas q_nextWays q_nowWas q_nowWays q_to cI vthrown vpoints vplanes vaxes vkept vax vay vaz cpx cpy cpz cplane caxis cwas cways ckeptWas ckeptWays ckeptPoints cnextWas cnextWays cnowWas cnowWays cto) sz)) 0 0 (va_A (w_M qM q_px q_py q_pz q_plane q_axis q_was q_ways q_keptWas q_keptWays q_keptPoints q_nextWas q_nextWays q_nowWas q_nowWays q_to cI vthrown vpoints vplanes vaxes vkept vax vay vaz cpx cpy cpz cplane caxis cwas cways ckeptWas ckeptWays ckeptPoints cnextWas cnextWays cnowWas cnowWays cto) sz) := by
  refine Met.ofW (cc := b_M_imageOf) (maxL := 3) (ret := (some .int)) (by decide) rfl ?_
  intro p e s m args below meth c s₁ B hml hv
  obtain ⟨rfl, hsz, hP, hK, hZ, hD0⟩ := hv
  have hx := B.exec
  have hb := B.bytes
  have hr := B.returns
  have hts := atoms_spec (ws := w_M_imageOf) B.pre
  have ht : ∀ w ∈ wAll, w.before _ s = true := fun w h => hts w (List.mem_cons_of_mem _ h)
  have hown : s.vm.findClass R_M = some m.cls := findClass_of_methodNamed B.named
  have hlocks := B.notSynchronized
  subst hsz
  have hD := hD0.self (sz := s.heap.size)
  generalize hAe : va_A (w_M qM q_px q_py q_pz q_plane q_axis q_was q_ways q_keptWas q_keptWays q_keptPoints q_nextWas q_nextWays q_nowWas q_nowWays q_to cI vthrown vpoints vplanes vaxes vkept vax vay vaz cpx cpy cpz cplane caxis cwas cways ckeptWas ckeptWays ckeptPoints cnextWas cnextWays cnowWas cnowWays cto) s.heap.size = A at hD ⊢
  have hA : ∀ q : Nat, s.heap.size ≤ q → A q := fun q h => by rw [← hAe]; exact Or.inr h
  have hS : va_S A s.heap s.heap [] := va_S.rf
  have hP : va_P (dC, dI) vwCl (w_M qM q_px q_py q_pz q_plane q_axis q_was q_ways q_keptWas q_keptWays q_keptPoints q_nextWas q_nextWays q_nowWas q_nowWays q_to cI vthrown vpoints vplanes vaxes vkept vax vay vaz cpx cpy cpz cplane caxis cwas cways ckeptWas ckeptWays ckeptPoints cnextWas cnextWays cnowWas cnowWays cto) s.heap := hP
  have hl := lv_entry ([.ref qM, .int x1, .int x2]) (n := 3) (Nat.le_of_ble_eq_true rfl)
  rw [lg_entry_eq]
  generalize (lg_sl ([.ref qM, .int x1, .int x2]) ++ List.replicate (3 - (lg_sl ([.ref qM, .int x1, .int x2])).length) Slot.unset).toArray = ls at hl ⊢
  have hl : lv_has ls 3 [(0, .ref qM), (1, .int x1), (2, .int x2)] := hl
  unfold f_M_imageOf at hf
  obtain ⟨H, hH⟩ : ∃ z, z = s.heap := ⟨_, rfl⟩
  have hS : va_S A s.heap H [] := by rw [hH]; exact hS
  have hP : va_P (dC, dI) vwCl (w_M qM q_px q_py q_pz q_plane q_axis q_was q_ways q_keptWas q_keptWays q_keptPoints q_nextWas q_nextWays q_nowWas q_nowWays q_to cI vthrown vpoints vplanes vaxes vkept vax vay vaz cpx cpy cpz cplane caxis cwas cways ckeptWas ckeptWays ckeptPoints cnextWas cnextWays cnowWas cnowWays cto) H := by rw [hH]; exact hP
  refine w_heap hH ?_
  refine lv_aload_n hx hb d_M_imageOf_0 rfl (lv_at hl 0 rfl) ?_
  refine lv_iload_n hx hb d_M_imageOf_1 rfl (lv_at hl 1 rfl) ?_
  refine lv_aload_n hx hb d_M_imageOf_2 rfl (lv_at hl 0 rfl) ?_
  refine va_get (D := (dC, dI)) (ci := 3) (v := .ref q_px) (C := R_M) (T := T_M) (N := 23) hx hb ht in_M hown hK hP 0 rfl rfl 4 (by decide) (ht _ m_350) (fun _ h9 => h9) rfl d_M_imageOf_3 ?_
  refine lv_iload_n hx hb d_M_imageOf_6 rfl (lv_at hl 2 rfl) ?_
  obtain ⟨hi1, hf⟩ := oIn_some hf
  refine va_iald hx hb hK hP 1 0 rfl rfl hi1 d_M_imageOf_7 ?_
  refine lv_aload_n hx hb d_M_imageOf_8 rfl (lv_at hl 0 rfl) ?_
  refine va_get (D := (dC, dI)) (ci := 3) (v := .ref q_py) (C := R_M) (T := T_M) (N := 23) hx hb ht in_M hown hK hP 0 rfl rfl 5 (by decide) (ht _ m_351) (fun _ h9 => h9) rfl d_M_imageOf_9 ?_
  refine lv_iload_n hx hb d_M_imageOf_12 rfl (lv_at hl 2 rfl) ?_
  obtain ⟨hi2, hf⟩ := oIn_some hf
  refine va_iald hx hb hK hP 2 0 rfl rfl hi2 d_M_imageOf_13 ?_
  refine lv_aload_n hx hb d_M_imageOf_14 rfl (lv_at hl 0 rfl) ?_
  refine va_get (D := (dC, dI)) (ci := 3) (v := .ref q_pz) (C := R_M) (T := T_M) (N := 23) hx hb ht in_M hown hK hP 0 rfl rfl 6 (by decide) (ht _ m_352) (fun _ h9 => h9) rfl d_M_imageOf_15 ?_
  refine lv_iload_n hx hb d_M_imageOf_18 rfl (lv_at hl 2 rfl) ?_
  obtain ⟨hi3, hf⟩ := oIn_some hf
  refine va_iald hx hb hK hP 3 0 rfl rfl hi3 d_M_imageOf_19 ?_
  obtain ⟨o4, o5, o6, hfc, hf⟩ := oCall3_some hf
  have hPc := hP.sub (ws' := (w_M qM q_px q_py q_pz q_plane q_axis q_was q_ways q_keptWas q_keptWays q_keptPoints q_nextWas q_nextWays q_nowWas q_nowWays q_to cI vthrown vpoints vplanes vaxes vkept vax vay vaz cpx cpy cpz cplane caxis cwas cways ckeptWas ckeptWays ckeptPoints cnextWas cnextWays cnowWas cnowWays cto)) [0, 1, 2, 3, 4, 5, 6, 7, 8, 9, 10, 11, 12, 13, 14, 15] rfl
  have hDc := hD.sub (ws' := (w_M qM q_px q_py q_pz q_plane q_axis q_was q_ways q_keptWas q_keptWays q_keptPoints q_nextWas q_nextWays q_nowWas q_nowWays q_to cI vthrown vpoints vplanes vaxes vkept vax vay vaz cpx cpy cpz cplane caxis cwas cways ckeptWas ckeptWays ckeptPoints cnextWas cnextWays cnowWas cnowWays cto)) [0, 1, 2, 3, 4, 5, 6, 7, 8, 9, 10, 11, 12, 13, 14, 15] (by decide) rfl
  have hFc := va_free (wc := (w_M qM q_px q_py q_pz q_plane q_axis q_was q_ways q_keptWas q_keptWays q_keptPoints q_nextWas q_nextWays q_nowWas q_nowWays q_to cI vthrown vpoints vplanes vaxes vkept vax vay vaz cpx cpy cpz cplane caxis cwas cways ckeptWas ckeptWays ckeptPoints cnextWas cnextWays cnowWas cnowWays cto)) hD hS hA [0, 1, 2, 3, 4, 5, 6, 7, 8, 9, 10, 11, 12, 13, 14, 15] rfl
  refine va_callv (va_runV (As := [.int x1, .int (cpx x2.toNatClampNeg), .int (cpy x2.toNatClampNeg), .int (cpz x2.toNatClampNeg)]) (rest := []) ⟨hx, hb, hml, hown, ht⟩ (c_M_step l dC dI qM q_px q_py q_pz q_plane q_axis q_was q_ways q_keptWas q_keptWays q_keptPoints q_nextWas q_nextWays q_nowWas q_nowWays q_to cI cJ cQ H.size vthrown vpoints vplanes vaxes vkept vax vay vaz cpx cpy cpz cplane caxis cwas cways ckeptWas ckeptWays ckeptPoints cnextWas cnextWays cnowWas cnowWays cto x1 (cpx x2.toNatClampNeg) (cpy x2.toNatClampNeg) (cpz x2.toNatClampNeg) o4 o5 o6 hfc) (cwV 4 ht (gV m_474 m_476 m_14 m_31 m_477) rfl rfl rfl (by decide +kernel) ⟨Nat.le_of_ble_eq_true rfl, Nat.le_of_ble_eq_true rfl⟩) (preMV hPc hK hZ hDc (va_recv hK hPc (ci := 3) (q0 := 0) rfl rfl)) rfl rfl hl.1 rfl (lv_room (Nat.le_of_ble_eq_true rfl)) d_M_imageOf_20 ⟨Nat.le_of_ble_eq_true rfl, Nat.le_of_ble_eq_true rfl⟩) hS (fun q _ h => hFc q h) hFc (fun u t H1 locs ht9 hvm hw hB hz1 hk1 hS => ?_)
  obtain ⟨hP1, hD1⟩ := hB
  rw [ht9] at hP1
  obtain ⟨hP, hD⟩ := va_join (wr := []) (w1 := (w_M qM q_px q_py q_pz q_plane q_axis q_was q_ways q_keptWas q_keptWays q_keptPoints q_nextWas q_nextWays q_nowWas q_nowWays q_to cI vthrown vpoints vplanes vaxes vkept o4 o5 o6 cpx cpy cpz cplane caxis cwas cways ckeptWas ckeptWays ckeptPoints cnextWas cnextWays cnowWas cnowWays cto)) hP hD [0, 1, 2, 3, 4, 5, 6, 7, 8, 9, 10, 11, 12, 13, 14, 15] [] rfl rfl (by decide) (by decide) hk1 hFc hP1 hD1
  have hP := hP.sub (ws' := (w_M qM q_px q_py q_pz q_plane q_axis q_was q_ways q_keptWas q_keptWays q_keptPoints q_nextWas q_nextWays q_nowWas q_nowWays q_to cI vthrown vpoints vplanes vaxes vkept o4 o5 o6 cpx cpy cpz cplane caxis cwas cways ckeptWas ckeptWays ckeptPoints cnextWas cnextWays cnowWas cnowWays cto)) [0, 1, 2, 3, 4, 5, 6, 7, 8, 9, 10, 11, 12, 13, 14, 15] rfl
  have hD := hD.sub (ws' := (w_M qM q_px q_py q_pz q_plane q_axis q_was q_ways q_keptWas q_keptWays q_keptPoints q_nextWas q_nextWays q_nowWas q_nowWays q_to cI vthrown vpoints vplanes vaxes vkept o4 o5 o6 cpx cpy cpz cplane caxis cwas cways ckeptWas ckeptWays ckeptPoints cnextWas cnextWays cnowWas cnowWays cto)) [0, 1, 2, 3, 4, 5, 6, 7, 8, 9, 10, 11, 12, 13, 14, 15] (by decide) rfl
  clear hPc hDc hFc hP1 hD1 hz1 hk1 ht9 hvm hfc
  generalize H1 = H at hP hS ⊢
  refine lv_aload_n hx hb d_M_imageOf_23 rfl (lv_at hl 0 rfl) ?_
  refine lv_aload_n hx hb d_M_imageOf_24 rfl (lv_at hl 0 rfl) ?_
  refine va_get (D := (dC, dI)) (ci := 3) (v := .int o4) (C := R_M) (T := T_M) (N := 23) hx hb ht in_M hown hK hP 0 rfl rfl 15 (by decide) (ht _ m_361) (fun _ h9 => h9) rfl d_M_imageOf_25 ?_
  refine lv_aload_n hx hb d_M_imageOf_28 rfl (lv_at hl 0 rfl) ?_
  refine va_get (D := (dC, dI)) (ci := 3) (v := .int o5) (C := R_M) (T := T_M) (N := 23) hx hb ht in_M hown hK hP 0 rfl rfl 16 (by decide) (ht _ m_362) (fun _ h9 => h9) rfl d_M_imageOf_29 ?_
  refine lv_aload_n hx hb d_M_imageOf_32 rfl (lv_at hl 0 rfl) ?_
  refine va_get (D := (dC, dI)) (ci := 3) (v := .int o6) (C := R_M) (T := T_M) (N := 23) hx hb ht in_M hown hK hP 0 rfl rfl 17 (by decide) (ht _ m_363) (fun _ h9 => h9) rfl d_M_imageOf_33 ?_
  obtain ⟨r7z, hfc, hf⟩ := oCall1_some hf
  have hPc := hP.sub (ws' := (w_M qM q_px q_py q_pz q_plane q_axis q_was q_ways q_keptWas q_keptWays q_keptPoints q_nextWas q_nextWays q_nowWas q_nowWays q_to cI vthrown vpoints vplanes vaxes vkept o4 o5 o6 cpx cpy cpz cplane caxis cwas cways ckeptWas ckeptWays ckeptPoints cnextWas cnextWays cnowWas cnowWays cto)) [0, 1, 2, 3, 4, 5, 6, 7, 8, 9, 10, 11, 12, 13, 14, 15] rfl
  refine vp_callSi (va_runV (As := [.int o4, .int o5, .int o6]) (rest := []) ⟨hx, hb, hml, hown, ht⟩ (c_M_pointAt l dC dI qM q_px q_py q_pz q_plane q_axis q_was q_ways q_keptWas q_keptWays q_keptPoints q_nextWas q_nextWays q_nowWas q_nowWays q_to cI cJ cQ vthrown vpoints vplanes vaxes vkept o4 o5 o6 cpx cpy cpz cplane caxis cwas cways ckeptWas ckeptWays ckeptPoints cnextWas cnextWays cnowWas cnowWays cto o4 o5 o6 r7z hfc) (cwV 3 ht (gV m_427 m_429 m_8 m_31 m_430) rfl rfl rfl (by decide +kernel) ⟨Nat.le_of_ble_eq_true rfl, Nat.le_of_ble_eq_true rfl⟩) (preRV hPc hK hZ (va_recv hK hPc (ci := 3) (q0 := 0) rfl rfl)) rfl rfl hl.1 rfl (lv_room (Nat.le_of_ble_eq_true rfl)) d_M_imageOf_36 ⟨Nat.le_of_ble_eq_true rfl, Nat.le_of_ble_eq_true rfl⟩).run (fun r7 hw => ?_)
  subst hw
  clear hPc hfc
  cases hf
  exact W.iret hx hb hr (fun t ht hW => ⟨⟨_, (), rfl, rfl, by rw [ht]; exact hP, hD⟩, hS.F ht⟩) hS.2.2 d_M_imageOf_39
set_option maxHeartbeats 4000000 in
set_option maxRecDepth 100000 in
theorem c_M_taken (l : Launch) (dC : Nat → ClassId) (dI : Nat → Nat → Nat) (qM q_px q_py q_pz q_plane q_axis q_was q_ways q_keptWas q_keptWays q_keptPoints q_nextWas q_nextWays q_nowWas q_nowWays q_to : Nat) (cI cJ cQ : ClassId) (sz : Nat) (vthrown : Int32) (vpoints : Int32) (vplanes : Int32) (vaxes : Int32) (vkept : Int32) (vax : Int32) (vay : Int32) (vaz : Int32) (cpx : Nat → Int32) (cpy : Nat → Int32) (cpz : Nat → Int32) (cplane : Nat → Int32) (caxis : Nat → Int32) (cwas : Nat → Int32) (cways : Nat → Int32) (ckeptWas : Nat → Int32) (ckeptWays : Nat → Int32) (ckeptPoints : Nat → Int32) (cnextWas : Nat → Int32) (cnextWays : Nat → Int32) (cnowWas : Nat → Int32) (cnowWays : Nat → Int32) (cto : Nat → Int32) (x1 : Int32) (x2 : Int32) (r_ : Int32) (o_vax : Int32) (o_vay : Int32) (o_vaz : Int32) (hf : f_M_taken vax vay vaz caxis x1 x2 = some (r_, o_vax, o_vay, o_vaz)) : Met l y_M_taken w_M_taken ({ frames := 2, cells := 0, slots := 0, locals := 55 }) (va_Pc [.ref qM, .int x1, .int x2] (fun U => U.heap.size = sz ∧ va_P (dC, dI) vwCl (w_M qM q_px q_py q_pz q_plane q_axis q_was q_ways q_keptWas q_keptWays q_keptPoints q_nextWas q_nextWays q_nowWas q_nowWays q_to cI vthrown vpoints vplanes vaxes vkept vax vay vaz cpx cpy cpz cplane caxis cwas cways ckeptWas ckeptWays ckeptPoints cnextWas cnextWays cnowWas cnowWays cto) U.heap ∧ va_K (dC, dI) vwCl [(cI, .int), (cJ, .long), (cQ, .object "CutBodies$Contents")] U ∧ nestZ U ∧ va_D (fun _ => True) (w_M qM q_px q_py q_pz q_plane q_axis q_was q_ways q_keptWas q_keptWays q_keptPoints q_nextWas q_nextWays q_nowWas q_nowWays q_to cI vthrown vpoints vplanes vaxes vkept vax vay vaz cpx cpy cpz cplane caxis cwas cways ckeptWas ckeptWays ckeptPoints cnextWas cnextWays cnowWas cnowWays cto))) (va_Qi (fun (r9 : Int32) (_ : Unit) => r9 = r_) (fun _ t => va_P (dC, dI) vwCl (w_M qM q_px q_py q_pz q_plane q_axis q_was q_ways q_keptWas q_keptWays q_keptPoints q_nextWas q_nextWays q_nowWas q_nowWays q_to cI vthrown vpoints vplanes vaxes vkept o_vax o_vay o_vaz cpx cpy cpz cplane caxis cwas cways ckeptWas ckeptWays ckeptPoints cnextWas cnextWays cnowWas cnowWays cto) t.heap ∧ va_D (va_A (w_M qM q_px q_py q_pz q_plane q_axis q_was q_ways q_keptWas q_keptWays q_keptPoints q_nextWas q_nextWays q_nowWas q_nowWays q_to cI vthrown vpoints vplanes vaxes vkept vax vay vaz cpx cpy cpz cplane caxis cwas cways ckeptWas ckeptWays ckeptPoints cnextWas cnextWays cnowWas cnowWays cto) sz) (w_M qM q_px q_py q_pz q_plane q_axis q_was q_ways q_keptWas q_keptWays q_keptPoints q_nextWas q_nextWays q_nowWas q_nowWays q_to cI vthrown vpoints vplanes vaxes vkept o_vax o_vay o_vaz cpx cpy cpz cplane caxis cwas cways ckeptWas ckeptWays ckeptPoints cnextWas cnextWays cnowWas cnowWays cto)) (va_A (w_M qM q_px q_py q_pz q_plane q_axis q_was q_ways q_keptWas q_keptWays q_keptPoints q_nextWas q_nextWays q_nowWas q_nowWays q_to cI vthrown vpoints vplanes vaxes vkept vax vay vaz cpx cpy cpz cplane caxis cwas cways ckeptWas ckeptWays ckeptPoints cnextWas cnextWays cnowWas cnowWays cto) sz)) 0 0 (va_A (w_M qM q_px q_py q_pz q_plane q_axis q_was q_ways q_keptWas q_keptWays q_keptPoints q_nextWas q_nextWays q_nowWas q_nowWays q_to cI vthrown vpoints vplanes vaxes vkept vax vay vaz cpx cpy cpz cplane caxis cwas cways ckeptWas ckeptWays ckeptPoints cnextWas cnextWays cnowWas cnowWays cto) sz) := by
  refine Met.ofW (cc := b_M_taken) (maxL := 3) (ret := (some .int)) (by decide) rfl ?_
  intro p e s m args below meth c s₁ B hml hv
  obtain ⟨rfl, hsz, hP, hK, hZ, hD0⟩ := hv
  have hx := B.exec
  have hb := B.bytes
  have hr := B.returns
  have hts := atoms_spec (ws := w_M_taken) B.pre
  have ht : ∀ w ∈ wAll, w.before _ s = true := fun w h => hts w (List.mem_cons_of_mem _ h)
  have hown : s.vm.findClass R_M = some m.cls := findClass_of_methodNamed B.named
  have hlocks := B.notSynchronized
  subst hsz
  have hD := hD0.self (sz := s.heap.size)
  generalize hAe : va_A (w_M qM q_px q_py q_pz q_plane q_axis q_was q_ways q_keptWas q_keptWays q_keptPoints q_nextWas q_nextWays q_nowWas q_nowWays q_to cI vthrown vpoints vplanes vaxes vkept vax vay vaz cpx cpy cpz cplane caxis cwas cways ckeptWas ckeptWays ckeptPoints cnextWas cnextWays cnowWas cnowWays cto) s.heap.size = A at hD ⊢
  have hA : ∀ q : Nat, s.heap.size ≤ q → A q := fun q h => by rw [← hAe]; exact Or.inr h
  have hS : va_S A s.heap s.heap [] := va_S.rf
  have hP : va_P (dC, dI) vwCl (w_M qM q_px q_py q_pz q_plane q_axis q_was q_ways q_keptWas q_keptWays q_keptPoints q_nextWas q_nextWays q_nowWas q_nowWays q_to cI vthrown vpoints vplanes vaxes vkept vax vay vaz cpx cpy cpz cplane caxis cwas cways ckeptWas ckeptWays ckeptPoints cnextWas cnextWays cnowWas cnowWays cto) s.heap := hP
  have hl := lv_entry ([.ref qM, .int x1, .int x2]) (n := 3) (Nat.le_of_ble_eq_true rfl)
  rw [lg_entry_eq]
  generalize (lg_sl ([.ref qM, .int x1, .int x2]) ++ List.replicate (3 - (lg_sl ([.ref qM, .int x1, .int x2])).length) Slot.unset).toArray = ls at hl ⊢
  have hl : lv_has ls 3 [(0, .ref qM), (1, .int x1), (2, .int x2)] := hl
  unfold f_M_taken at hf
  obtain ⟨H, hH⟩ : ∃ z, z = s.heap := ⟨_, rfl⟩
  have hS : va_S A s.heap H [] := by rw [hH]; exact hS
  have hP : va_P (dC, dI) vwCl (w_M qM q_px q_py q_pz q_plane q_axis q_was q_ways q_keptWas q_keptWays q_keptPoints q_nextWas q_nextWays q_nowWas q_nowWays q_to cI vthrown vpoints vplanes vaxes vkept vax vay vaz cpx cpy cpz cplane caxis cwas cways ckeptWas ckeptWays ckeptPoints cnextWas cnextWays cnowWas cnowWays cto) H := by rw [hH]; exact hP
  refine w_heap hH ?_
  refine lv_aload_n hx hb d_M_taken_0 rfl (lv_at hl 0 rfl) ?_
  refine lv_iload_n hx hb d_M_taken_1 rfl (lv_at hl 1 rfl) ?_
  refine lv_iload_n hx hb d_M_taken_2 rfl (lv_at hl 2 rfl) ?_
  refine lv_iconst (v := 0) hx hb d_M_taken_3 (by decide) ?_
  obtain ⟨r1z, hfc, hf⟩ := oCall1_some hf
  have hPc := hP.sub (ws' := []) [] rfl
  refine vp_callSi (va_runS (As := [.int x2, .int 0]) (rest := [.int x1, .ref qM]) ⟨hx, hb, hml, hown, ht⟩ (c_M_arrow l dC dI cI cJ cQ x2 0 r1z hfc) (va_cwS 2 ht (gS m_534 m_535 m_31 m_536) rfl rfl rfl (by decide +kernel) ⟨Nat.le_of_ble_eq_true rfl, Nat.le_of_ble_eq_true rfl⟩) (preR hPc hK hZ) rfl rfl hl.1 rfl (lv_room (Nat.le_of_ble_eq_true rfl)) d_M_taken_4 ⟨Nat.le_of_ble_eq_true rfl, Nat.le_of_ble_eq_true rfl⟩).run (fun r1 hw => ?_)
  subst hw
  clear hPc hfc
  refine lv_iload_n hx hb d_M_taken_7 rfl (lv_at hl 2 rfl) ?_
  refine lv_iconst (v := 1) hx hb d_M_taken_8 (by decide) ?_
  obtain ⟨r2z, hfc, hf⟩ := oCall1_some hf
  have hPc := hP.sub (ws' := []) [] rfl
  refine vp_callSi (va_runS (As := [.int x2, .int 1]) (rest := [.int r1, .int x1, .ref qM]) ⟨hx, hb, hml, hown, ht⟩ (c_M_arrow l dC dI cI cJ cQ x2 1 r2z hfc) (va_cwS 2 ht (gS m_534 m_535 m_31 m_536) rfl rfl rfl (by decide +kernel) ⟨Nat.le_of_ble_eq_true rfl, Nat.le_of_ble_eq_true rfl⟩) (preR hPc hK hZ) rfl rfl hl.1 rfl (lv_room (Nat.le_of_ble_eq_true rfl)) d_M_taken_9 ⟨Nat.le_of_ble_eq_true rfl, Nat.le_of_ble_eq_true rfl⟩).run (fun r2 hw => ?_)
  subst hw
  clear hPc hfc
  refine lv_iload_n hx hb d_M_taken_12 rfl (lv_at hl 2 rfl) ?_
  refine lv_iconst (v := 2) hx hb d_M_taken_13 (by decide) ?_
  obtain ⟨r3z, hfc, hf⟩ := oCall1_some hf
  have hPc := hP.sub (ws' := []) [] rfl
  refine vp_callSi (va_runS (As := [.int x2, .int 2]) (rest := [.int r2, .int r1, .int x1, .ref qM]) ⟨hx, hb, hml, hown, ht⟩ (c_M_arrow l dC dI cI cJ cQ x2 2 r3z hfc) (va_cwS 2 ht (gS m_534 m_535 m_31 m_536) rfl rfl rfl (by decide +kernel) ⟨Nat.le_of_ble_eq_true rfl, Nat.le_of_ble_eq_true rfl⟩) (preR hPc hK hZ) rfl rfl hl.1 rfl (lv_room (Nat.le_of_ble_eq_true rfl)) d_M_taken_14 ⟨Nat.le_of_ble_eq_true rfl, Nat.le_of_ble_eq_true rfl⟩).run (fun r3 hw => ?_)
  subst hw
  clear hPc hfc
  obtain ⟨o4, o5, o6, hfc, hf⟩ := oCall3_some hf
  have hPc := hP.sub (ws' := (w_M qM q_px q_py q_pz q_plane q_axis q_was q_ways q_keptWas q_keptWays q_keptPoints q_nextWas q_nextWays q_nowWas q_nowWays q_to cI vthrown vpoints vplanes vaxes vkept vax vay vaz cpx cpy cpz cplane caxis cwas cways ckeptWas ckeptWays ckeptPoints cnextWas cnextWays cnowWas cnowWays cto)) [0, 1, 2, 3, 4, 5, 6, 7, 8, 9, 10, 11, 12, 13, 14, 15] rfl
  have hDc := hD.sub (ws' := (w_M qM q_px q_py q_pz q_plane q_axis q_was q_ways q_keptWas q_keptWays q_keptPoints q_nextWas q_nextWays q_nowWas q_nowWays q_to cI vthrown vpoints vplanes vaxes vkept vax vay vaz cpx cpy cpz cplane caxis cwas cways ckeptWas ckeptWays ckeptPoints cnextWas cnextWays cnowWas cnowWays cto)) [0, 1, 2, 3, 4, 5, 6, 7, 8, 9, 10, 11, 12, 13, 14, 15] (by decide) rfl
  have hFc := va_free (wc := (w_M qM q_px q_py q_pz q_plane q_axis q_was q_ways q_keptWas q_keptWays q_keptPoints q_nextWas q_nextWays q_nowWas q_nowWays q_to cI vthrown vpoints vplanes vaxes vkept vax vay vaz cpx cpy cpz cplane caxis cwas cways ckeptWas ckeptWays ckeptPoints cnextWas cnextWays cnowWas cnowWays cto)) hD hS hA [0, 1, 2, 3, 4, 5, 6, 7, 8, 9, 10, 11, 12, 13, 14, 15] rfl
  refine va_callv (va_runV (As := [.int x1, .int r1, .int r2, .int r3]) (rest := []) ⟨hx, hb, hml, hown, ht⟩ (c_M_step l dC dI qM q_px q_py q_pz q_plane q_axis q_was q_ways q_keptWas q_keptWays q_keptPoints q_nextWas q_nextWays q_nowWas q_nowWays q_to cI cJ cQ H.size vthrown vpoints vplanes vaxes vkept vax vay vaz cpx cpy cpz cplane caxis cwas cways ckeptWas ckeptWays ckeptPoints cnextWas cnextWays cnowWas cnowWays cto x1 r1 r2 r3 o4 o5 o6 hfc) (cwV 4 ht (gV m_474 m_476 m_14 m_31 m_477) rfl rfl rfl (by decide +kernel) ⟨Nat.le_of_ble_eq_true rfl, Nat.le_of_ble_eq_true rfl⟩) (preMV hPc hK hZ hDc (va_recv hK hPc (ci := 3) (q0 := 0) rfl rfl)) rfl rfl hl.1 rfl (lv_room (Nat.le_of_ble_eq_true rfl)) d_M_taken_17 ⟨Nat.le_of_ble_eq_true rfl, Nat.le_of_ble_eq_true rfl⟩) hS (fun q _ h => hFc q h) hFc (fun u t H1 locs ht9 hvm hw hB hz1 hk1 hS => ?_)
  obtain ⟨hP1, hD1⟩ := hB
  rw [ht9] at hP1
  obtain ⟨hP, hD⟩ := va_join (wr := []) (w1 := (w_M qM q_px q_py q_pz q_plane q_axis q_was q_ways q_keptWas q_keptWays q_keptPoints q_nextWas q_nextWays q_nowWas q_nowWays q_to cI vthrown vpoints vplanes vaxes vkept o4 o5 o6 cpx cpy cpz cplane caxis cwas cways ckeptWas ckeptWays ckeptPoints cnextWas cnextWays cnowWas cnowWays cto)) hP hD [0, 1, 2, 3, 4, 5, 6, 7, 8, 9, 10, 11, 12, 13, 14, 15] [] rfl rfl (by decide) (by decide) hk1 hFc hP1 hD1
  have hP := hP.sub (ws' := (w_M qM q_px q_py q_pz q_plane q_axis q_was q_ways q_keptWas q_keptWays q_keptPoints q_nextWas q_nextWays q_nowWas q_nowWays q_to cI vthrown vpoints vplanes vaxes vkept o4 o5 o6 cpx cpy cpz cplane caxis cwas cways ckeptWas ckeptWays ckeptPoints cnextWas cnextWays cnowWas cnowWays cto)) [0, 1, 2, 3, 4, 5, 6, 7, 8, 9, 10, 11, 12, 13, 14, 15] rfl
  have hD := hD.sub (ws' := (w_M qM q_px q_py q_pz q_plane q_axis q_was q_ways q_keptWas q_keptWays q_keptPoints q_nextWas q_nextWays q_nowWas q_nowWays q_to cI vthrown vpoints vplanes vaxes vkept o4 o5 o6 cpx cpy cpz cplane caxis cwas cways ckeptWas ckeptWays ckeptPoints cnextWas cnextWays cnowWas cnowWays cto)) [0, 1, 2, 3, 4, 5, 6, 7, 8, 9, 10, 11, 12, 13, 14, 15] (by decide) rfl
  clear hPc hDc hFc hP1 hD1 hz1 hk1 ht9 hvm hfc
  generalize H1 = H at hP hS ⊢
  refine lv_aload_n hx hb d_M_taken_20 rfl (lv_at hl 0 rfl) ?_
  refine va_get (D := (dC, dI)) (ci := 3) (v := .int o4) (C := R_M) (T := T_M) (N := 23) hx hb ht in_M hown hK hP 0 rfl rfl 15 (by decide) (ht _ m_361) (fun _ h9 => h9) rfl d_M_taken_21 ?_
  refine lv_aload_n hx hb d_M_taken_24 rfl (lv_at hl 0 rfl) ?_
  refine va_get (D := (dC, dI)) (ci := 3) (v := .int o5) (C := R_M) (T := T_M) (N := 23) hx hb ht in_M hown hK hP 0 rfl rfl 16 (by decide) (ht _ m_362) (fun _ h9 => h9) rfl d_M_taken_25 ?_
  refine lv_aload_n hx hb d_M_taken_28 rfl (lv_at hl 0 rfl) ?_
  refine va_get (D := (dC, dI)) (ci := 3) (v := .int o6) (C := R_M) (T := T_M) (N := 23) hx hb ht in_M hown hK hP 0 rfl rfl 17 (by decide) (ht _ m_363) (fun _ h9 => h9) rfl d_M_taken_29 ?_
  obtain ⟨r7z, hfc, hf⟩ := oCall1_some hf
  have hPc := hP.sub (ws' := []) [] rfl
  refine vp_callSi (va_runS (As := [.int o4, .int o5, .int o6]) (rest := []) ⟨hx, hb, hml, hown, ht⟩ (c_M_arrowOf l dC dI cI cJ cQ o4 o5 o6 r7z hfc) (va_cwS 3 ht (gS m_537 m_538 m_31 m_539) rfl rfl rfl (by decide +kernel) ⟨Nat.le_of_ble_eq_true rfl, Nat.le_of_ble_eq_true rfl⟩) (preR hPc hK hZ) rfl rfl hl.1 rfl (lv_room (Nat.le_of_ble_eq_true rfl)) d_M_taken_32 ⟨Nat.le_of_ble_eq_true rfl, Nat.le_of_ble_eq_true rfl⟩).run (fun r7 hw => ?_)
  subst hw
  clear hPc hfc
  cases hf
  exact W.iret hx hb hr (fun t ht hW => ⟨⟨_, (), rfl, rfl, by rw [ht]; exact hP, hD⟩, hS.F ht⟩) hS.2.2 d_M_taken_35
set_option maxHeartbeats 4000000 in
set_option maxRecDepth 100000 in
theorem c_M_wayBehind (l : Launch) (dC : Nat → ClassId) (dI : Nat → Nat → Nat) (qM q_px q_py q_pz q_plane q_axis q_was q_ways q_keptWas q_keptWays q_keptPoints q_nextWas q_nextWays q_nowWas q_nowWays q_to : Nat) (cI cJ cQ : ClassId) (sz : Nat) (vthrown : Int32) (vpoints : Int32) (vplanes : Int32) (vaxes : Int32) (vkept : Int32) (vax : Int32) (vay : Int32) (vaz : Int32) (cpx : Nat → Int32) (cpy : Nat → Int32) (cpz : Nat → Int32) (cplane : Nat → Int32) (caxis : Nat → Int32) (cwas : Nat → Int32) (cways : Nat → Int32) (ckeptWas : Nat → Int32) (ckeptWays : Nat → Int32) (ckeptPoints : Nat → Int32) (cnextWas : Nat → Int32) (cnextWays : Nat → Int32) (cnowWas : Nat → Int32) (cnowWays : Nat → Int32) (cto : Nat → Int32) (x1 : Int32) (x2 : Int32) (r_ : Int32) (o_vax : Int32) (o_vay : Int32) (o_vaz : Int32) (hf : f_M_wayBehind vax vay vaz caxis x1 x2 = some (r_, o_vax, o_vay, o_vaz)) : Met l y_M_wayBehind w_M_wayBehind ({ frames := 3, cells := 0, slots := 0, locals := 77 }) (va_Pc [.ref qM, .int x1, .int x2] (fun U => U.heap.size = sz ∧ va_P (dC, dI) vwCl (w_M qM q_px q_py q_pz q_plane q_axis q_was q_ways q_keptWas q_keptWays q_keptPoints q_nextWas q_nextWays q_nowWas q_nowWays q_to cI vthrown vpoints vplanes vaxes vkept vax vay vaz cpx cpy cpz cplane caxis cwas cways ckeptWas ckeptWays ckeptPoints cnextWas cnextWays cnowWas cnowWays cto) U.heap ∧ va_K (dC, dI) vwCl [(cI, .int), (cJ, .long), (cQ, .object "CutBodies$Contents")] U ∧ nestZ U ∧ va_D (fun _ => True) (w_M qM q_px q_py q_pz q_plane q_axis q_was q_ways q_keptWas q_keptWays q_keptPoints q_nextWas q_nextWays q_nowWas q_nowWays q_to cI vthrown vpoints vplanes vaxes vkept vax vay vaz cpx cpy cpz cplane caxis cwas cways ckeptWas ckeptWays ckeptPoints cnextWas cnextWays cnowWas cnowWays cto))) (va_Qi (fun (r9 : Int32) (_ : Unit) => r9 = r_) (fun _ t => va_P (dC, dI) vwCl (w_M qM q_px q_py q_pz q_plane q_axis q_was q_ways q_keptWas q_keptWays q_keptPoints q_nextWas q_nextWays q_nowWas q_nowWays q_to cI vthrown vpoints vplanes vaxes vkept o_vax o_vay o_vaz cpx cpy cpz cplane caxis cwas cways ckeptWas ckeptWays ckeptPoints cnextWas cnextWays cnowWas cnowWays cto) t.heap ∧ va_D (va_A (w_M qM q_px q_py q_pz q_plane q_axis q_was q_ways q_keptWas q_keptWays q_keptPoints q_nextWas q_nextWays q_nowWas q_nowWays q_to cI vthrown vpoints vplanes vaxes vkept vax vay vaz cpx cpy cpz cplane caxis cwas cways ckeptWas ckeptWays ckeptPoints cnextWas cnextWays cnowWas cnowWays cto) sz) (w_M qM q_px q_py q_pz q_plane q_axis q_was q_ways q_keptWas q_keptWays q_keptPoints q_nextWas q_nextWays q_nowWas q_nowWays q_to cI vthrown vpoints vplanes vaxes vkept o_vax o_vay o_vaz cpx cpy cpz cplane caxis cwas cways ckeptWas ckeptWays ckeptPoints cnextWas cnextWays cnowWas cnowWays cto)) (va_A (w_M qM q_px q_py q_pz q_plane q_axis q_was q_ways q_keptWas q_keptWays q_keptPoints q_nextWas q_nextWays q_nowWas q_nowWays q_to cI vthrown vpoints vplanes vaxes vkept vax vay vaz cpx cpy cpz cplane caxis cwas cways ckeptWas ckeptWays ckeptPoints cnextWas cnextWays cnowWas cnowWays cto) sz)) 0 0 (va_A (w_M qM q_px q_py q_pz q_plane q_axis q_was q_ways q_keptWas q_keptWays q_keptPoints q_nextWas q_nextWays q_nowWas q_nowWays q_to cI vthrown vpoints vplanes vaxes vkept vax vay vaz cpx cpy cpz cplane caxis cwas cways ckeptWas ckeptWays ckeptPoints cnextWas cnextWays cnowWas cnowWays cto) sz) := by
  refine Met.ofW (cc := b_M_wayBehind) (maxL := 3) (ret := (some .int)) (by decide) rfl ?_
  intro p e s m args below meth c s₁ B hml hv
  obtain ⟨rfl, hsz, hP, hK, hZ, hD0⟩ := hv
  have hx := B.exec
  have hb := B.bytes
  have hr := B.returns
  have hts := atoms_spec (ws := w_M_wayBehind) B.pre
  have ht : ∀ w ∈ wAll, w.before _ s = true := fun w h => hts w (List.mem_cons_of_mem _ h)
  have hown : s.vm.findClass R_M = some m.cls := findClass_of_methodNamed B.named
  have hlocks := B.notSynchronized
  subst hsz
  have hD := hD0.self (sz := s.heap.size)
  generalize hAe : va_A (w_M qM q_px q_py q_pz q_plane q_axis q_was q_ways q_keptWas q_keptWays q_keptPoints q_nextWas q_nextWays q_nowWas q_nowWays q_to cI vthrown vpoints vplanes vaxes vkept vax vay vaz cpx cpy cpz cplane caxis cwas cways ckeptWas ckeptWays ckeptPoints cnextWas cnextWays cnowWas cnowWays cto) s.heap.size = A at hD ⊢
  have hA : ∀ q : Nat, s.heap.size ≤ q → A q := fun q h => by rw [← hAe]; exact Or.inr h
  have hS : va_S A s.heap s.heap [] := va_S.rf
  have hP : va_P (dC, dI) vwCl (w_M qM q_px q_py q_pz q_plane q_axis q_was q_ways q_keptWas q_keptWays q_keptPoints q_nextWas q_nextWays q_nowWas q_nowWays q_to cI vthrown vpoints vplanes vaxes vkept vax vay vaz cpx cpy cpz cplane caxis cwas cways ckeptWas ckeptWays ckeptPoints cnextWas cnextWays cnowWas cnowWays cto) s.heap := hP
  have hl := lv_entry ([.ref qM, .int x1, .int x2]) (n := 3) (Nat.le_of_ble_eq_true rfl)
  rw [lg_entry_eq]
  generalize (lg_sl ([.ref qM, .int x1, .int x2]) ++ List.replicate (3 - (lg_sl ([.ref qM, .int x1, .int x2])).length) Slot.unset).toArray = ls at hl ⊢
  have hl : lv_has ls 3 [(0, .ref qM), (1, .int x1), (2, .int x2)] := hl
  unfold f_M_wayBehind at hf
  obtain ⟨H, hH⟩ : ∃ z, z = s.heap := ⟨_, rfl⟩
  have hS : va_S A s.heap H [] := by rw [hH]; exact hS
  have hP : va_P (dC, dI) vwCl (w_M qM q_px q_py q_pz q_plane q_axis q_was q_ways q_keptWas q_keptWays q_keptPoints q_nextWas q_nextWays q_nowWas q_nowWays q_to cI vthrown vpoints vplanes vaxes vkept vax vay vaz cpx cpy cpz cplane caxis cwas cways ckeptWas ckeptWays ckeptPoints cnextWas cnextWays cnowWas cnowWays cto) H := by rw [hH]; exact hP
  refine w_heap hH ?_
  refine lv_aload_n hx hb d_M_wayBehind_0 rfl (lv_at hl 0 rfl) ?_
  refine lv_iload_n hx hb d_M_wayBehind_1 rfl (lv_at hl 1 rfl) ?_
  refine lv_iload_n hx hb d_M_wayBehind_2 rfl (lv_at hl 2 rfl) ?_
  refine lv_iconst (v := 4) hx hb d_M_wayBehind_3 (by decide) ?_
  refine lv_idiv hx hb d_M_wayBehind_4 (by decide) ?_
  obtain ⟨r4z, o1, o2, o3, hfc, hf⟩ := oCall4_some hf
  have hPc := hP.sub (ws' := (w_M qM q_px q_py q_pz q_plane q_axis q_was q_ways q_keptWas q_keptWays q_keptPoints q_nextWas q_nextWays q_nowWas q_nowWays q_to cI vthrown vpoints vplanes vaxes vkept vax vay vaz cpx cpy cpz cplane caxis cwas cways ckeptWas ckeptWays ckeptPoints cnextWas cnextWays cnowWas cnowWays cto)) [0, 1, 2, 3, 4, 5, 6, 7, 8, 9, 10, 11, 12, 13, 14, 15] rfl
  have hDc := hD.sub (ws' := (w_M qM q_px q_py q_pz q_plane q_axis q_was q_ways q_keptWas q_keptWays q_keptPoints q_nextWas q_nextWays q_nowWas q_nowWays q_to cI vthrown vpoints vplanes vaxes vkept vax vay vaz cpx cpy cpz cplane caxis cwas cways ckeptWas ckeptWays ckeptPoints cnextWas cnextWays cnowWas cnowWays cto)) [0, 1, 2, 3, 4, 5, 6, 7, 8, 9, 10, 11, 12, 13, 14, 15] (by decide) rfl
  have hFc := va_free (wc := (w_M qM q_px q_py q_pz q_plane q_axis q_was q_ways q_keptWas q_keptWays q_keptPoints q_nextWas q_nextWays q_nowWas q_nowWays q_to cI vthrown vpoints vplanes vaxes vkept vax vay vaz cpx cpy cpz cplane caxis cwas cways ckeptWas ckeptWays ckeptPoints cnextWas cnextWays cnowWas cnowWays cto)) hD hS hA [0, 1, 2, 3, 4, 5, 6, 7, 8, 9, 10, 11, 12, 13, 14, 15] rfl
  refine va_calli (va_runV (As := [.int x1, .int (x2 / 4)]) (rest := []) ⟨hx, hb, hml, hown, ht⟩ (c_M_taken l dC dI qM q_px q_py q_pz q_plane q_axis q_was q_ways q_keptWas q_keptWays q_keptPoints q_nextWas q_nextWays q_nowWas q_nowWays q_to cI cJ cQ H.size vthrown vpoints vplanes vaxes vkept vax vay vaz cpx cpy cpz cplane caxis cwas cways ckeptWas ckeptWays ckeptPoints cnextWas cnextWays cnowWas cnowWays cto x1 (x2 / 4) r4z o1 o2 o3 hfc) (cwV 2 ht (gV m_530 m_532 m_24 m_31 m_533) rfl rfl rfl (by decide +kernel) ⟨Nat.le_of_ble_eq_true rfl, Nat.le_of_ble_eq_true rfl⟩) (preMV hPc hK hZ hDc (va_recv hK hPc (ci := 3) (q0 := 0) rfl rfl)) rfl rfl hl.1 rfl (lv_room (Nat.le_of_ble_eq_true rfl)) d_M_wayBehind_5 ⟨Nat.le_of_ble_eq_true rfl, Nat.le_of_ble_eq_true rfl⟩) hS (fun q _ h => hFc q h) hFc (fun r4 u t H1 locs ht9 hvm hw hB hz1 hk1 hS => ?_)
  obtain ⟨hP1, hD1⟩ := hB
  rw [ht9] at hP1
  subst hw
  obtain ⟨hP, hD⟩ := va_join (wr := []) (w1 := (w_M qM q_px q_py q_pz q_plane q_axis q_was q_ways q_keptWas q_keptWays q_keptPoints q_nextWas q_nextWays q_nowWas q_nowWays q_to cI vthrown vpoints vplanes vaxes vkept o1 o2 o3 cpx cpy cpz cplane caxis cwas cways ckeptWas ckeptWays ckeptPoints cnextWas cnextWays cnowWas cnowWays cto)) hP hD [0, 1, 2, 3, 4, 5, 6, 7, 8, 9, 10, 11, 12, 13, 14, 15] [] rfl rfl (by decide) (by decide) hk1 hFc hP1 hD1
  have hP := hP.sub (ws' := (w_M qM q_px q_py q_pz q_plane q_axis q_was q_ways q_keptWas q_keptWays q_keptPoints q_nextWas q_nextWays q_nowWas q_nowWays q_to cI vthrown vpoints vplanes vaxes vkept o1 o2 o3 cpx cpy cpz cplane caxis cwas cways ckeptWas ckeptWays ckeptPoints cnextWas cnextWays cnowWas cnowWays cto)) [0, 1, 2, 3, 4, 5, 6, 7, 8, 9, 10, 11, 12, 13, 14, 15] rfl
  have hD := hD.sub (ws' := (w_M qM q_px q_py q_pz q_plane q_axis q_was q_ways q_keptWas q_keptWays q_keptPoints q_nextWas q_nextWays q_nowWas q_nowWays q_to cI vthrown vpoints vplanes vaxes vkept o1 o2 o3 cpx cpy cpz cplane caxis cwas cways ckeptWas ckeptWays ckeptPoints cnextWas cnextWays cnowWas cnowWays cto)) [0, 1, 2, 3, 4, 5, 6, 7, 8, 9, 10, 11, 12, 13, 14, 15] (by decide) rfl
  clear hPc hDc hFc hP1 hD1 hz1 hk1 ht9 hvm hfc
  generalize H1 = H at hP hS ⊢
  refine lv_aload_n hx hb d_M_wayBehind_8 rfl (lv_at hl 0 rfl) ?_
  refine lv_iload_n hx hb d_M_wayBehind_9 rfl (lv_at hl 1 rfl) ?_
  refine lv_iload_n hx hb d_M_wayBehind_10 rfl (lv_at hl 2 rfl) ?_
  obtain ⟨r5z, hfc, hf⟩ := oCall1_some hf
  have hPc := hP.sub (ws' := []) [] rfl
  refine vp_callSi (va_runS (As := [.int x2]) (rest := [.int x1, .ref qM, .int r4]) ⟨hx, hb, hml, hown, ht⟩ (c_M_secondOf l dC dI cI cJ cQ x2 r5z hfc) (va_cwS 1 ht (gS m_540 m_541 m_31 m_542) rfl rfl rfl (by decide +kernel) ⟨Nat.le_of_ble_eq_true rfl, Nat.le_of_ble_eq_true rfl⟩) (preR hPc hK hZ) rfl rfl hl.1 rfl (lv_room (Nat.le_of_ble_eq_true rfl)) d_M_wayBehind_11 ⟨Nat.le_of_ble_eq_true rfl, Nat.le_of_ble_eq_true rfl⟩).run (fun r5 hw => ?_)
  subst hw
  clear hPc hfc
  obtain ⟨r9z, o6, o7, o8, hfc, hf⟩ := oCall4_some hf
  have hPc := hP.sub (ws' := (w_M qM q_px q_py q_pz q_plane q_axis q_was q_ways q_keptWas q_keptWays q_keptPoints q_nextWas q_nextWays q_nowWas q_nowWays q_to cI vthrown vpoints vplanes vaxes vkept o1 o2 o3 cpx cpy cpz cplane caxis cwas cways ckeptWas ckeptWays ckeptPoints cnextWas cnextWays cnowWas cnowWays cto)) [0, 1, 2, 3, 4, 5, 6, 7, 8, 9, 10, 11, 12, 13, 14, 15] rfl
  have hDc := hD.sub (ws' := (w_M qM q_px q_py q_pz q_plane q_axis q_was q_ways q_keptWas q_keptWays q_keptPoints q_nextWas q_nextWays q_nowWas q_nowWays q_to cI vthrown vpoints vplanes vaxes vkept o1 o2 o3 cpx cpy cpz cplane caxis cwas cways ckeptWas ckeptWays ckeptPoints cnextWas cnextWays cnowWas cnowWays cto)) [0, 1, 2, 3, 4, 5, 6, 7, 8, 9, 10, 11, 12, 13, 14, 15] (by decide) rfl
  have hFc := va_free (wc := (w_M qM q_px q_py q_pz q_plane q_axis q_was q_ways q_keptWas q_keptWays q_keptPoints q_nextWas q_nextWays q_nowWas q_nowWays q_to cI vthrown vpoints vplanes vaxes vkept o1 o2 o3 cpx cpy cpz cplane caxis cwas cways ckeptWas ckeptWays ckeptPoints cnextWas cnextWays cnowWas cnowWays cto)) hD hS hA [0, 1, 2, 3, 4, 5, 6, 7, 8, 9, 10, 11, 12, 13, 14, 15] rfl
  refine va_calli (va_runV (As := [.int x1, .int r5]) (rest := [.int r4]) ⟨hx, hb, hml, hown, ht⟩ (c_M_taken l dC dI qM q_px q_py q_pz q_plane q_axis q_was q_ways q_keptWas q_keptWays q_keptPoints q_nextWas q_nextWays q_nowWas q_nowWays q_to cI cJ cQ H.size vthrown vpoints vplanes vaxes vkept o1 o2 o3 cpx cpy cpz cplane caxis cwas cways ckeptWas ckeptWays ckeptPoints cnextWas cnextWays cnowWas cnowWays cto x1 r5 r9z o6 o7 o8 hfc) (cwV 2 ht (gV m_530 m_532 m_24 m_31 m_533) rfl rfl rfl (by decide +kernel) ⟨Nat.le_of_ble_eq_true rfl, Nat.le_of_ble_eq_true rfl⟩) (preMV hPc hK hZ hDc (va_recv hK hPc (ci := 3) (q0 := 0) rfl rfl)) rfl rfl hl.1 rfl (lv_room (Nat.le_of_ble_eq_true rfl)) d_M_wayBehind_14 ⟨Nat.le_of_ble_eq_true rfl, Nat.le_of_ble_eq_true rfl⟩) hS (fun q _ h => hFc q h) hFc (fun r9 u t H1 locs ht9 hvm hw hB hz1 hk1 hS => ?_)
  obtain ⟨hP1, hD1⟩ := hB
  rw [ht9] at hP1
  subst hw
  obtain ⟨hP, hD⟩ := va_join (wr := []) (w1 := (w_M qM q_px q_py q_pz q_plane q_axis q_was q_ways q_keptWas q_keptWays q_keptPoints q_nextWas q_nextWays q_nowWas q_nowWays q_to cI vthrown vpoints vplanes vaxes vkept o6 o7 o8 cpx cpy cpz cplane caxis cwas cways ckeptWas ckeptWays ckeptPoints cnextWas cnextWays cnowWas cnowWays cto)) hP hD [0, 1, 2, 3, 4, 5, 6, 7, 8, 9, 10, 11, 12, 13, 14, 15] [] rfl rfl (by decide) (by decide) hk1 hFc hP1 hD1
  have hP := hP.sub (ws' := (w_M qM q_px q_py q_pz q_plane q_axis q_was q_ways q_keptWas q_keptWays q_keptPoints q_nextWas q_nextWays q_nowWas q_nowWays q_to cI vthrown vpoints vplanes vaxes vkept o6 o7 o8 cpx cpy cpz cplane caxis cwas cways ckeptWas ckeptWays ckeptPoints cnextWas cnextWays cnowWas cnowWays cto)) [0, 1, 2, 3, 4, 5, 6, 7, 8, 9, 10, 11, 12, 13, 14, 15] rfl
  have hD := hD.sub (ws' := (w_M qM q_px q_py q_pz q_plane q_axis q_was q_ways q_keptWas q_keptWays q_keptPoints q_nextWas q_nextWays q_nowWas q_nowWays q_to cI vthrown vpoints vplanes vaxes vkept o6 o7 o8 cpx cpy cpz cplane caxis cwas cways ckeptWas ckeptWays ckeptPoints cnextWas cnextWays cnowWas cnowWays cto)) [0, 1, 2, 3, 4, 5, 6, 7, 8, 9, 10, 11, 12, 13, 14, 15] (by decide) rfl
  clear hPc hDc hFc hP1 hD1 hz1 hk1 ht9 hvm hfc
  generalize H1 = H at hP hS ⊢
  obtain ⟨r10z, hfc, hf⟩ := oCall1_some hf
  have hPc := hP.sub (ws' := []) [] rfl
  refine vp_callSi (va_runS (As := [.int r4, .int r9]) (rest := []) ⟨hx, hb, hml, hown, ht⟩ (c_M_wayOf l dC dI cI cJ cQ r4 r9 r10z hfc) (va_cwS 2 ht (gS m_543 m_544 m_31 m_545) rfl rfl rfl (by decide +kernel) ⟨Nat.le_of_ble_eq_true rfl, Nat.le_of_ble_eq_true rfl⟩) (preR hPc hK hZ) rfl rfl hl.1 rfl (lv_room (Nat.le_of_ble_eq_true rfl)) d_M_wayBehind_17 ⟨Nat.le_of_ble_eq_true rfl, Nat.le_of_ble_eq_true rfl⟩).run (fun r10 hw => ?_)
  subst hw
  clear hPc hfc
  cases hf
  exact W.iret hx hb hr (fun t ht hW => ⟨⟨_, (), rfl, rfl, by rw [ht]; exact hP, hD⟩, hS.F ht⟩) hS.2.2 d_M_wayBehind_20
set_option maxHeartbeats 4000000 in
set_option maxRecDepth 100000 in
theorem c_M_blocked (l : Launch) (dC : Nat → ClassId) (dI : Nat → Nat → Nat) (qM q_px q_py q_pz q_plane q_axis q_was q_ways q_keptWas q_keptWays q_keptPoints q_nextWas q_nextWays q_nowWas q_nowWays q_to : Nat) (cI cJ cQ : ClassId) (sz : Nat) (vthrown : Int32) (vpoints : Int32) (vplanes : Int32) (vaxes : Int32) (vkept : Int32) (vax : Int32) (vay : Int32) (vaz : Int32) (cpx : Nat → Int32) (cpy : Nat → Int32) (cpz : Nat → Int32) (cplane : Nat → Int32) (caxis : Nat → Int32) (cwas : Nat → Int32) (cways : Nat → Int32) (ckeptWas : Nat → Int32) (ckeptWays : Nat → Int32) (ckeptPoints : Nat → Int32) (cnextWas : Nat → Int32) (cnextWays : Nat → Int32) (cnowWas : Nat → Int32) (cnowWays : Nat → Int32) (cto : Nat → Int32) (x1 : Int32) (x2 : Int32) (r_ : Int32) (o_vax : Int32) (o_vay : Int32) (o_vaz : Int32) (hf : f_M_blocked vpoints vax vay vaz cpx cpy cpz cplane caxis x1 x2 = some (r_, o_vax, o_vay, o_vaz)) : Met l y_M_blocked w_M_blocked ({ frames := 3, cells := 0, slots := 0, locals := 77 }) (va_Pc [.ref qM, .int x1, .int x2] (fun U => U.heap.size = sz ∧ va_P (dC, dI) vwCl (w_M qM q_px q_py q_pz q_plane q_axis q_was q_ways q_keptWas q_keptWays q_keptPoints q_nextWas q_nextWays q_nowWas q_nowWays q_to cI vthrown vpoints vplanes vaxes vkept vax vay vaz cpx cpy cpz cplane caxis cwas cways ckeptWas ckeptWays ckeptPoints cnextWas cnextWays cnowWas cnowWays cto) U.heap ∧ va_K (dC, dI) vwCl [(cI, .int), (cJ, .long), (cQ, .object "CutBodies$Contents")] U ∧ nestZ U ∧ va_D (fun _ => True) (w_M qM q_px q_py q_pz q_plane q_axis q_was q_ways q_keptWas q_keptWays q_keptPoints q_nextWas q_nextWays q_nowWas q_nowWays q_to cI vthrown vpoints vplanes vaxes vkept vax vay vaz cpx cpy cpz cplane caxis cwas cways ckeptWas ckeptWays ckeptPoints cnextWas cnextWays cnowWas cnowWays cto))) (va_Qi (fun (r9 : Int32) (_ : Unit) => r9 = r_) (fun _ t => va_P (dC, dI) vwCl (w_M qM q_px q_py q_pz q_plane q_axis q_was q_ways q_keptWas q_keptWays q_keptPoints q_nextWas q_nextWays q_nowWas q_nowWays q_to cI vthrown vpoints vplanes vaxes vkept o_vax o_vay o_vaz cpx cpy cpz cplane caxis cwas cways ckeptWas ckeptWays ckeptPoints cnextWas cnextWays cnowWas cnowWays cto) t.heap ∧ va_D (va_A (w_M qM q_px q_py q_pz q_plane q_axis q_was q_ways q_keptWas q_keptWays q_keptPoints q_nextWas q_nextWays q_nowWas q_nowWays q_to cI vthrown vpoints vplanes vaxes vkept vax vay vaz cpx cpy cpz cplane caxis cwas cways ckeptWas ckeptWays ckeptPoints cnextWas cnextWays cnowWas cnowWays cto) sz) (w_M qM q_px q_py q_pz q_plane q_axis q_was q_ways q_keptWas q_keptWays q_keptPoints q_nextWas q_nextWays q_nowWas q_nowWays q_to cI vthrown vpoints vplanes vaxes vkept o_vax o_vay o_vaz cpx cpy cpz cplane caxis cwas cways ckeptWas ckeptWays ckeptPoints cnextWas cnextWays cnowWas cnowWays cto)) (va_A (w_M qM q_px q_py q_pz q_plane q_axis q_was q_ways q_keptWas q_keptWays q_keptPoints q_nextWas q_nextWays q_nowWas q_nowWays q_to cI vthrown vpoints vplanes vaxes vkept vax vay vaz cpx cpy cpz cplane caxis cwas cways ckeptWas ckeptWays ckeptPoints cnextWas cnextWays cnowWas cnowWays cto) sz)) 0 0 (va_A (w_M qM q_px q_py q_pz q_plane q_axis q_was q_ways q_keptWas q_keptWays q_keptPoints q_nextWas q_nextWays q_nowWas q_nowWays q_to cI vthrown vpoints vplanes vaxes vkept vax vay vaz cpx cpy cpz cplane caxis cwas cways ckeptWas ckeptWays ckeptPoints cnextWas cnextWays cnowWas cnowWays cto) sz) := by
  refine Met.ofW (cc := b_M_blocked) (maxL := 5) (ret := (some .int)) (by decide) rfl ?_
  intro p e s m args below meth c s₁ B hml hv
  obtain ⟨rfl, hsz, hP, hK, hZ, hD0⟩ := hv
  have hx := B.exec
  have hb := B.bytes
  have hr := B.returns
  have hts := atoms_spec (ws := w_M_blocked) B.pre
  have ht : ∀ w ∈ wAll, w.before _ s = true := fun w h => hts w (List.mem_cons_of_mem _ h)
  have hown : s.vm.findClass R_M = some m.cls := findClass_of_methodNamed B.named
  have hlocks := B.notSynchronized
  subst hsz
  have hD := hD0.self (sz := s.heap.size)
  generalize hAe : va_A (w_M qM q_px q_py q_pz q_plane q_axis q_was q_ways q_keptWas q_keptWays q_keptPoints q_nextWas q_nextWays q_nowWas q_nowWays q_to cI vthrown vpoints vplanes vaxes vkept vax vay vaz cpx cpy cpz cplane caxis cwas cways ckeptWas ckeptWays ckeptPoints cnextWas cnextWays cnowWas cnowWays cto) s.heap.size = A at hD ⊢
  have hA : ∀ q : Nat, s.heap.size ≤ q → A q := fun q h => by rw [← hAe]; exact Or.inr h
  have hS : va_S A s.heap s.heap [] := va_S.rf
  have hP : va_P (dC, dI) vwCl (w_M qM q_px q_py q_pz q_plane q_axis q_was q_ways q_keptWas q_keptWays q_keptPoints q_nextWas q_nextWays q_nowWas q_nowWays q_to cI vthrown vpoints vplanes vaxes vkept vax vay vaz cpx cpy cpz cplane caxis cwas cways ckeptWas ckeptWays ckeptPoints cnextWas cnextWays cnowWas cnowWays cto) s.heap := hP
  have hl := lv_entry ([.ref qM, .int x1, .int x2]) (n := 5) (Nat.le_of_ble_eq_true rfl)
  rw [lg_entry_eq]
  generalize (lg_sl ([.ref qM, .int x1, .int x2]) ++ List.replicate (5 - (lg_sl ([.ref qM, .int x1, .int x2])).length) Slot.unset).toArray = ls at hl ⊢
  have hl : lv_has ls 5 [(0, .ref qM), (1, .int x1), (2, .int x2)] := hl
  refine w_abs (fun Wx toX ofX => ?_)
  have K2 : ∀ (x1 : Int32) (x2 : Int32) (n : Nat) (x3 : Int32) (vax : Int32) (vay : Int32) (vaz : Int32) (H : Heap) (locs : List Loc) (ls : Array Slot), oLoop4 (f_M_blocked_L2  vpoints cpx cpy cpz cplane caxis x1 x2) n x3 vax vay vaz = some (r_, o_vax, o_vay, o_vaz) → va_P (dC, dI) vwCl (w_M qM q_px q_py q_pz q_plane q_axis q_was q_ways q_keptWas q_keptWays q_keptPoints q_nextWas q_nextWays q_nowWas q_nowWays q_to cI vthrown vpoints vplanes vaxes vkept vax vay vaz cpx cpy cpz cplane caxis cwas cways ckeptWas ckeptWays ckeptPoints cnextWas cnextWays cnowWas cnowWays cto) H → va_D A (w_M qM q_px q_py q_pz q_plane q_axis q_was q_ways q_keptWas q_keptWays q_keptPoints q_nextWas q_nextWays q_nowWas q_nowWays q_to cI vthrown vpoints vplanes vaxes vkept vax vay vaz cpx cpy cpz cplane caxis cwas cways ckeptWas ckeptWays ckeptPoints cnextWas cnextWays cnowWas cnowWays cto) → va_S A s.heap H locs → lv_has ls 5 [(0, .ref qM), (1, .int x1), (2, .int x2), (3, .int x3)] → Wx H locs 0 0 (F0 m 2 ls []) := by
    intro x1 x2 n
    induction n with
    | zero => intro x3 vax vay vaz H locs ls hf; exact (oLoop4_0 hf).elim
    | succ n ih2 =>
      obtain ⟨rec2, hrec2⟩ : ∃ z, z = oLoop4 (f_M_blocked_L2  vpoints cpx cpy cpz cplane caxis x1 x2) n := ⟨_, rfl⟩
      rw [← hrec2] at ih2
      have K51 : ∀ (x3 : Int32) (vax : Int32) (vay : Int32) (vaz : Int32) (H : Heap) (locs : List Loc) (ls : Array Slot), f_M_blocked_J51 rec2 vpoints cpx cpy cpz cplane caxis x1 x2 x3 vax vay vaz = some (r_, o_vax, o_vay, o_vaz) → va_P (dC, dI) vwCl (w_M qM q_px q_py q_pz q_plane q_axis q_was q_ways q_keptWas q_keptWays q_keptPoints q_nextWas q_nextWays q_nowWas q_nowWays q_to cI vthrown vpoints vplanes vaxes vkept vax vay vaz cpx cpy cpz cplane caxis cwas cways ckeptWas ckeptWays ckeptPoints cnextWas cnextWays cnowWas cnowWays cto) H → va_D A (w_M qM q_px q_py q_pz q_plane q_axis q_was q_ways q_keptWas q_keptWays q_keptPoints q_nextWas q_nextWays q_nowWas q_nowWays q_to cI vthrown vpoints vplanes vaxes vkept vax vay vaz cpx cpy cpz cplane caxis cwas cways ckeptWas ckeptWays ckeptPoints cnextWas cnextWays cnowWas cnowWays cto) → va_S A s.heap H locs → lv_has ls 5 [(0, .ref qM), (1, .int x1), (2, .int x2), (3, .int x3)] → Wx H locs 0 0 (F0 m 51 ls []) := by
        intro x3 vax vay vaz H locs ls hf hP hD hS hl
        refine toX _ _ _ _ _ ?_
        unfold f_M_blocked_J51 at hf
        obtain ⟨v1, ev1, hf⟩ := oLet_ex hf
        refine lv_iinc (v := v1) (lv' := [(3, .int v1), (0, .ref qM), (1, .int x1), (2, .int x2)]) hx hb d_M_blocked_51 hl (k := 3) rfl (by rw [ev1]; rfl) (by decide) rfl (fun ls hl => ?_)
        refine lv_goto (tgt := 2) hx hb d_M_blocked_54 (by decide) ?_
        exact ofX _ _ _ _ _ (ih2 v1 vax vay vaz _ _ _ hf hP hD hS (lv_sub hl [1, 2, 3, 0] rfl))
      intro x3 vax vay vaz H locs ls hf hP hD hS hl
      refine toX _ _ _ _ _ ?_
      have hf := oLoop4_s hf
      rw [← hrec2] at hf
      unfold f_M_blocked_L2 at hf
      refine lv_iload_n hx hb d_M_blocked_2 rfl (lv_at hl 3 rfl) ?_
      refine lv_aload_n hx hb d_M_blocked_3 rfl (lv_at hl 0 rfl) ?_
      refine va_get (D := (dC, dI)) (ci := 3) (v := .int vpoints) (C := R_M) (T := T_M) (N := 23) hx hb ht in_M hown hK hP 0 rfl rfl 1 (by decide) (ht _ m_347) (fun _ h9 => h9) rfl d_M_blocked_4 ?_
      refine lv_icmp_ge (tgt := 57) hx hb d_M_blocked_7 (by decide) (fun c2 => ?_) (fun c2 => ?_)
      · have hf := oIf_t hf c2
        refine lv_iconst (v := 0) hx hb d_M_blocked_57 (by decide) ?_
        cases hf
        exact W.iret hx hb hr (fun t ht hW => ⟨⟨_, (), rfl, rfl, by rw [ht]; exact hP, hD⟩, hS.F ht⟩) hS.2.2 d_M_blocked_58
      · have hf := oIf_f hf c2
        refine lv_aload_n hx hb d_M_blocked_10 rfl (lv_at hl 0 rfl) ?_
        refine lv_iload_n hx hb d_M_blocked_11 rfl (lv_at hl 3 rfl) ?_
        refine lv_iload_n hx hb d_M_blocked_12 rfl (lv_at hl 2 rfl) ?_
        obtain ⟨r3z, hfc, hf⟩ := oCall1_some hf
        have hPc := hP.sub (ws' := (w_M qM q_px q_py q_pz q_plane q_axis q_was q_ways q_keptWas q_keptWays q_keptPoints q_nextWas q_nextWays q_nowWas q_nowWays q_to cI vthrown vpoints vplanes vaxes vkept vax vay vaz cpx cpy cpz cplane caxis cwas cways ckeptWas ckeptWays ckeptPoints cnextWas cnextWays cnowWas cnowWays cto)) [0, 1, 2, 3, 4, 5, 6, 7, 8, 9, 10, 11, 12, 13, 14, 15] rfl
        refine vp_callSi (va_runV (As := [.int x3, .int x2]) (rest := []) ⟨hx, hb, hml, hown, ht⟩ (c_M_sideOf l dC dI qM q_px q_py q_pz q_plane q_axis q_was q_ways q_keptWas q_keptWays q_keptPoints q_nextWas q_nextWays q_nowWas q_nowWays q_to cI cJ cQ vthrown vpoints vplanes vaxes vkept vax vay vaz cpx cpy cpz cplane caxis cwas cways ckeptWas ckeptWays ckeptPoints cnextWas cnextWays cnowWas cnowWays cto x3 x2 r3z hfc) (cwV 2 ht (gV m_486 m_488 m_16 m_31 m_489) rfl rfl rfl (by decide +kernel) ⟨Nat.le_of_ble_eq_true rfl, Nat.le_of_ble_eq_true rfl⟩) (preRV hPc hK hZ (va_recv hK hPc (ci := 3) (q0 := 0) rfl rfl)) rfl rfl hl.1 rfl (lv_room (Nat.le_of_ble_eq_true rfl)) d_M_blocked_13 ⟨Nat.le_of_ble_eq_true rfl, Nat.le_of_ble_eq_true rfl⟩).run (fun r3 hw => ?_)
        subst hw
        clear hPc hfc
        refine lv_iconst (v := 2) hx hb d_M_blocked_16 (by decide) ?_
        refine lv_icmp_eq (tgt := 23) hx hb d_M_blocked_17 (by decide) (fun c4 => ?_) (fun c4 => ?_)
        · have hf := oIf_t hf c4
          refine lv_aload_n hx hb d_M_blocked_23 rfl (lv_at hl 0 rfl) ?_
          refine lv_iload_n hx hb d_M_blocked_24 rfl (lv_at hl 1 rfl) ?_
          refine lv_iload_n hx hb d_M_blocked_25 rfl (lv_at hl 3 rfl) ?_
          obtain ⟨r8z, o5, o6, o7, hfc, hf⟩ := oCall4_some hf
          have hPc := hP.sub (ws' := (w_M qM q_px q_py q_pz q_plane q_axis q_was q_ways q_keptWas q_keptWays q_keptPoints q_nextWas q_nextWays q_nowWas q_nowWays q_to cI vthrown vpoints vplanes vaxes vkept vax vay vaz cpx cpy cpz cplane caxis cwas cways ckeptWas ckeptWays ckeptPoints cnextWas cnextWays cnowWas cnowWays cto)) [0, 1, 2, 3, 4, 5, 6, 7, 8, 9, 10, 11, 12, 13, 14, 15] rfl
          have hDc := hD.sub (ws' := (w_M qM q_px q_py q_pz q_plane q_axis q_was q_ways q_keptWas q_keptWays q_keptPoints q_nextWas q_nextWays q_nowWas q_nowWays q_to cI vthrown vpoints vplanes vaxes vkept vax vay vaz cpx cpy cpz cplane caxis cwas cways ckeptWas ckeptWays ckeptPoints cnextWas cnextWays cnowWas cnowWays cto)) [0, 1, 2, 3, 4, 5, 6, 7, 8, 9, 10, 11, 12, 13, 14, 15] (by decide) rfl
          have hFc := va_free (wc := (w_M qM q_px q_py q_pz q_plane q_axis q_was q_ways q_keptWas q_keptWays q_keptPoints q_nextWas q_nextWays q_nowWas q_nowWays q_to cI vthrown vpoints vplanes vaxes vkept vax vay vaz cpx cpy cpz cplane caxis cwas cways ckeptWas ckeptWays ckeptPoints cnextWas cnextWays cnowWas cnowWays cto)) hD hS hA [0, 1, 2, 3, 4, 5, 6, 7, 8, 9, 10, 11, 12, 13, 14, 15] rfl
          refine va_calli (va_runV (As := [.int x1, .int x3]) (rest := []) ⟨hx, hb, hml, hown, ht⟩ (c_M_imageOf l dC dI qM q_px q_py q_pz q_plane q_axis q_was q_ways q_keptWas q_keptWays q_keptPoints q_nextWas q_nextWays q_nowWas q_nowWays q_to cI cJ cQ H.size vthrown vpoints vplanes vaxes vkept vax vay vaz cpx cpy cpz cplane caxis cwas cways ckeptWas ckeptWays ckeptPoints cnextWas cnextWays cnowWas cnowWays cto x1 x3 r8z o5 o6 o7 hfc) (cwV 2 ht (gV m_470 m_472 m_13 m_31 m_473) rfl rfl rfl (by decide +kernel) ⟨Nat.le_of_ble_eq_true rfl, Nat.le_of_ble_eq_true rfl⟩) (preMV hPc hK hZ hDc (va_recv hK hPc (ci := 3) (q0 := 0) rfl rfl)) rfl rfl hl.1 rfl (lv_room (Nat.le_of_ble_eq_true rfl)) d_M_blocked_26 ⟨Nat.le_of_ble_eq_true rfl, Nat.le_of_ble_eq_true rfl⟩) hS (fun q _ h => hFc q h) hFc (fun r8 u t H1 locs ht9 hvm hw hB hz1 hk1 hS => ?_)
          obtain ⟨hP1, hD1⟩ := hB
          rw [ht9] at hP1
          subst hw
          obtain ⟨hP, hD⟩ := va_join (wr := []) (w1 := (w_M qM q_px q_py q_pz q_plane q_axis q_was q_ways q_keptWas q_keptWays q_keptPoints q_nextWas q_nextWays q_nowWas q_nowWays q_to cI vthrown vpoints vplanes vaxes vkept o5 o6 o7 cpx cpy cpz cplane caxis cwas cways ckeptWas ckeptWays ckeptPoints cnextWas cnextWays cnowWas cnowWays cto)) hP hD [0, 1, 2, 3, 4, 5, 6, 7, 8, 9, 10, 11, 12, 13, 14, 15] [] rfl rfl (by decide) (by decide) hk1 hFc hP1 hD1
          have hP := hP.sub (ws' := (w_M qM q_px q_py q_pz q_plane q_axis q_was q_ways q_keptWas q_keptWays q_keptPoints q_nextWas q_nextWays q_nowWas q_nowWays q_to cI vthrown vpoints vplanes vaxes vkept o5 o6 o7 cpx cpy cpz cplane caxis cwas cways ckeptWas ckeptWays ckeptPoints cnextWas cnextWays cnowWas cnowWays cto)) [0, 1, 2, 3, 4, 5, 6, 7, 8, 9, 10, 11, 12, 13, 14, 15] rfl
          have hD := hD.sub (ws' := (w_M qM q_px q_py q_pz q_plane q_axis q_was q_ways q_keptWas q_keptWays q_keptPoints q_nextWas q_nextWays q_nowWas q_nowWays q_to cI vthrown vpoints vplanes vaxes vkept o5 o6 o7 cpx cpy cpz cplane caxis cwas cways ckeptWas ckeptWays ckeptPoints cnextWas cnextWays cnowWas cnowWays cto)) [0, 1, 2, 3, 4, 5, 6, 7, 8, 9, 10, 11, 12, 13, 14, 15] (by decide) rfl
          clear hPc hDc hFc hP1 hD1 hz1 hk1 ht9 hvm hfc
          generalize H1 = H at hP hS ⊢
          refine lv_istore (lv' := [(4, .int r8), (0, .ref qM), (1, .int x1), (2, .int x2), (3, .int x3)]) hx hb d_M_blocked_29 hl (by decide) rfl (fun ls hl => ?_)
          refine lv_iload hx hb d_M_blocked_31 (lv_at hl 0 rfl) ?_
          refine lv_if_lt (tgt := 47) hx hb d_M_blocked_33 (by decide) (fun c9 => ?_) (fun c9 => ?_)
          · have hf := oIf_t hf c9
            refine lv_iconst (v := 1) hx hb d_M_blocked_47 (by decide) ?_
            refine lv_iload_n hx hb d_M_blocked_48 rfl (lv_at hl 4 rfl) ?_
            refine lv_iadd hx hb d_M_blocked_49 ?_
            cases hf
            exact W.iret hx hb hr (fun t ht hW => ⟨⟨_, (), rfl, rfl, by rw [ht]; exact hP, hD⟩, hS.F ht⟩) hS.2.2 d_M_blocked_50
          · have hf := oIf_f hf c9
            refine lv_aload_n hx hb d_M_blocked_36 rfl (lv_at hl 1 rfl) ?_
            refine lv_iload hx hb d_M_blocked_37 (lv_at hl 0 rfl) ?_
            refine lv_iload_n hx hb d_M_blocked_39 rfl (lv_at hl 3 rfl) ?_
            obtain ⟨r10z, hfc, hf⟩ := oCall1_some hf
            have hPc := hP.sub (ws' := (w_M qM q_px q_py q_pz q_plane q_axis q_was q_ways q_keptWas q_keptWays q_keptPoints q_nextWas q_nextWays q_nowWas q_nowWays q_to cI vthrown vpoints vplanes vaxes vkept o5 o6 o7 cpx cpy cpz cplane caxis cwas cways ckeptWas ckeptWays ckeptPoints cnextWas cnextWays cnowWas cnowWays cto)) [0, 1, 2, 3, 4, 5, 6, 7, 8, 9, 10, 11, 12, 13, 14, 15] rfl
            refine vp_callSi (va_runV (As := [.int r8, .int x2]) (rest := []) ⟨hx, hb, hml, hown, ht⟩ (c_M_sideOf l dC dI qM q_px q_py q_pz q_plane q_axis q_was q_ways q_keptWas q_keptWays q_keptPoints q_nextWas q_nextWays q_nowWas q_nowWays q_to cI cJ cQ vthrown vpoints vplanes vaxes vkept o5 o6 o7 cpx cpy cpz cplane caxis cwas cways ckeptWas ckeptWays ckeptPoints cnextWas cnextWays cnowWas cnowWays cto r8 x2 r10z hfc) (cwV 2 ht (gV m_486 m_488 m_16 m_31 m_489) rfl rfl rfl (by decide +kernel) ⟨Nat.le_of_ble_eq_true rfl, Nat.le_of_ble_eq_true rfl⟩) (preRV hPc hK hZ (va_recv hK hPc (ci := 3) (q0 := 0) rfl rfl)) rfl rfl hl.1 rfl (lv_room (Nat.le_of_ble_eq_true rfl)) d_M_blocked_40 ⟨Nat.le_of_ble_eq_true rfl, Nat.le_of_ble_eq_true rfl⟩).run (fun r10 hw => ?_)
            subst hw
            clear hPc hfc
            refine lv_iconst (v := 2) hx hb d_M_blocked_43 (by decide) ?_
            refine lv_icmp_eq (tgt := 51) hx hb d_M_blocked_44 (by decide) (fun c11 => ?_) (fun c11 => ?_)
            · have hf := oIf_t hf c11
              exact ofX _ _ _ _ _ (K51  x3 o5 o6 o7 _ _ _ hf hP hD hS (lv_sub hl [1, 2, 3, 4] rfl))
            · have hf := oIf_f hf c11
              refine lv_iconst (v := 1) hx hb d_M_blocked_47 (by decide) ?_
              refine lv_iload_n hx hb d_M_blocked_48 rfl (lv_at hl 4 rfl) ?_
              refine lv_iadd hx hb d_M_blocked_49 ?_
              cases hf
              exact W.iret hx hb hr (fun t ht hW => ⟨⟨_, (), rfl, rfl, by rw [ht]; exact hP, hD⟩, hS.F ht⟩) hS.2.2 d_M_blocked_50
        · have hf := oIf_f hf c4
          refine lv_goto (tgt := 51) hx hb d_M_blocked_20 (by decide) ?_
          exact ofX _ _ _ _ _ (K51  x3 vax vay vaz _ _ _ hf hP hD hS (lv_sub hl [0, 1, 2, 3] rfl))
  refine toX _ _ _ _ _ ?_
  unfold f_M_blocked at hf
  obtain ⟨H, hH⟩ : ∃ z, z = s.heap := ⟨_, rfl⟩
  have hS : va_S A s.heap H [] := by rw [hH]; exact hS
  have hP : va_P (dC, dI) vwCl (w_M qM q_px q_py q_pz q_plane q_axis q_was q_ways q_keptWas q_keptWays q_keptPoints q_nextWas q_nextWays q_nowWas q_nowWays q_to cI vthrown vpoints vplanes vaxes vkept vax vay vaz cpx cpy cpz cplane caxis cwas cways ckeptWas ckeptWays ckeptPoints cnextWas cnextWays cnowWas cnowWays cto) H := by rw [hH]; exact hP
  refine w_heap hH ?_
  refine lv_iconst (v := 0) hx hb d_M_blocked_0 (by decide) ?_
  refine lv_istore_n (lv' := [(3, .int 0), (0, .ref qM), (1, .int x1), (2, .int x2)]) hx hb d_M_blocked_1 rfl hl (by decide) rfl (fun ls hl => ?_)
  exact ofX _ _ _ _ _ (K2 x1 x2 _ 0 vax vay vaz _ _ _ hf hP hD hS (lv_sub hl [1, 2, 3, 0] rfl))
set_option maxHeartbeats 4000000 in
set_option maxRecDepth 100000 in
theorem c_M_plan (l : Launch) (dC : Nat → ClassId) (dI : Nat → Nat → Nat) (qM q_px q_py q_pz q_plane q_axis q_was q_ways q_keptWas q_keptWays q_keptPoints q_nextWas q_nextWays q_nowWas q_nowWays q_to : Nat) (cI cJ cQ : ClassId) (sz : Nat) (vthrown : Int32) (vpoints : Int32) (vplanes : Int32) (vaxes : Int32) (vkept : Int32) (vax : Int32) (vay : Int32) (vaz : Int32) (cpx : Nat → Int32) (cpy : Nat → Int32) (cpz : Nat → Int32) (cplane : Nat → Int32) (caxis : Nat → Int32) (cwas : Nat → Int32) (cways : Nat → Int32) (ckeptWas : Nat → Int32) (ckeptWays : Nat → Int32) (ckeptPoints : Nat → Int32) (cnextWas : Nat → Int32) (cnextWays : Nat → Int32) (cnowWas : Nat → Int32) (cnowWays : Nat → Int32) (cto : Nat → Int32) (x1 : Int32) (x2 : Int32) (x3 : Int32) (o_vax : Int32) (o_vay : Int32) (o_vaz : Int32) (o_cto : Nat → Int32) (hf : f_M_plan vpoints vax vay vaz cpx cpy cpz cplane caxis cto x1 x2 x3 = some (o_vax, o_vay, o_vaz, o_cto)) : Met l y_M_plan w_M_plan ({ frames := 3, cells := 0, slots := 0, locals := 77 }) (va_Pc [.ref qM, .int x1, .int x2, .int x3] (fun U => U.heap.size = sz ∧ va_P (dC, dI) vwCl (w_M qM q_px q_py q_pz q_plane q_axis q_was q_ways q_keptWas q_keptWays q_keptPoints q_nextWas q_nextWays q_nowWas q_nowWays q_to cI vthrown vpoints vplanes vaxes vkept vax vay vaz cpx cpy cpz cplane caxis cwas cways ckeptWas ckeptWays ckeptPoints cnextWas cnextWays cnowWas cnowWays cto) U.heap ∧ va_K (dC, dI) vwCl [(cI, .int), (cJ, .long), (cQ, .object "CutBodies$Contents")] U ∧ nestZ U ∧ va_D (fun _ => True) (w_M qM q_px q_py q_pz q_plane q_axis q_was q_ways q_keptWas q_keptWays q_keptPoints q_nextWas q_nextWays q_nowWas q_nowWays q_to cI vthrown vpoints vplanes vaxes vkept vax vay vaz cpx cpy cpz cplane caxis cwas cways ckeptWas ckeptWays ckeptPoints cnextWas cnextWays cnowWas cnowWays cto))) (va_Qv (fun (_ : Unit) => True) (fun _ t => va_P (dC, dI) vwCl (w_M qM q_px q_py q_pz q_plane q_axis q_was q_ways q_keptWas q_keptWays q_keptPoints q_nextWas q_nextWays q_nowWas q_nowWays q_to cI vthrown vpoints vplanes vaxes vkept o_vax o_vay o_vaz cpx cpy cpz cplane caxis cwas cways ckeptWas ckeptWays ckeptPoints cnextWas cnextWays cnowWas cnowWays o_cto) t.heap ∧ va_D (va_A (w_M qM q_px q_py q_pz q_plane q_axis q_was q_ways q_keptWas q_keptWays q_keptPoints q_nextWas q_nextWays q_nowWas q_nowWays q_to cI vthrown vpoints vplanes vaxes vkept vax vay vaz cpx cpy cpz cplane caxis cwas cways ckeptWas ckeptWays ckeptPoints cnextWas cnextWays cnowWas cnowWays cto) sz) (w_M qM q_px q_py q_pz q_plane q_axis q_was q_ways q_keptWas q_keptWays q_keptPoints q_nextWas q_nextWays q_nowWas q_nowWays q_to cI vthrown vpoints vplanes vaxes vkept o_vax o_vay o_vaz cpx cpy cpz cplane caxis cwas cways ckeptWas ckeptWays ckeptPoints cnextWas cnextWays cnowWas cnowWays o_cto)) (va_A (w_M qM q_px q_py q_pz q_plane q_axis q_was q_ways q_keptWas q_keptWays q_keptPoints q_nextWas q_nextWays q_nowWas q_nowWays q_to cI vthrown vpoints vplanes vaxes vkept vax vay vaz cpx cpy cpz cplane caxis cwas cways ckeptWas ckeptWays ckeptPoints cnextWas cnextWays cnowWas cnowWays cto) sz)) 0 0 (va_A (w_M qM q_px q_py q_pz q_plane q_axis q_was q_ways q_keptWas q_keptWays q_keptPoints q_nextWas q_nextWays q_nowWas q_nowWays q_to cI vthrown vpoints vplanes vaxes vkept vax vay vaz cpx cpy cpz cplane caxis cwas cways ckeptWas ckeptWays ckeptPoints cnextWas cnextWays cnowWas cnowWays cto) sz) := by
  refine Met.ofW (cc := b_M_plan) (maxL := 5) (ret := none) (by decide) rfl ?_
  intro p e s m args below meth c s₁ B hml hv
  obtain ⟨rfl, hsz, hP, hK, hZ, hD0⟩ := hv
  have hx := B.exec
  have hb := B.bytes
  have hr := B.returns
  have hts := atoms_spec (ws := w_M_plan) B.pre
  have ht : ∀ w ∈ wAll, w.before _ s = true := fun w h => hts w (List.mem_cons_of_mem _ h)
  have hown : s.vm.findClass R_M = some m.cls := findClass_of_methodNamed B.named
  have hlocks := B.notSynchronized
  subst hsz
  have hD := hD0.self (sz := s.heap.size)
  generalize hAe : va_A (w_M qM q_px q_py q_pz q_plane q_axis q_was q_ways q_keptWas q_keptWays q_keptPoints q_nextWas q_nextWays q_nowWas q_nowWays q_to cI vthrown vpoints vplanes vaxes vkept vax vay vaz cpx cpy cpz cplane caxis cwas cways ckeptWas ckeptWays ckeptPoints cnextWas cnextWays cnowWas cnowWays cto) s.heap.size = A at hD ⊢
  have hA : ∀ q : Nat, s.heap.size ≤ q → A q := fun q h => by rw [← hAe]; exact Or.inr h
  have hS : va_S A s.heap s.heap [] := va_S.rf
  have hP : va_P (dC, dI) vwCl (w_M qM q_px q_py q_pz q_plane q_axis q_was q_ways q_keptWas q_keptWays q_keptPoints q_nextWas q_nextWays q_nowWas q_nowWays q_to cI vthrown vpoints vplanes vaxes vkept vax vay vaz cpx cpy cpz cplane caxis cwas cways ckeptWas ckeptWays ckeptPoints cnextWas cnextWays cnowWas cnowWays cto) s.heap := hP
  have hl := lv_entry ([.ref qM, .int x1, .int x2, .int x3]) (n := 5) (Nat.le_of_ble_eq_true rfl)
  rw [lg_entry_eq]
  generalize (lg_sl ([.ref qM, .int x1, .int x2, .int x3]) ++ List.replicate (5 - (lg_sl ([.ref qM, .int x1, .int x2, .int x3])).length) Slot.unset).toArray = ls at hl ⊢
  have hl : lv_has ls 5 [(0, .ref qM), (1, .int x1), (2, .int x2), (3, .int x3)] := hl
  refine w_abs (fun Wx toX ofX => ?_)
  have K3 : ∀ (x1 : Int32) (x2 : Int32) (x3 : Int32) (n : Nat) (x4 : Int32) (vax : Int32) (vay : Int32) (vaz : Int32) (cto : Nat → Int32) (H : Heap) (locs : List Loc) (ls : Array Slot), oLoop5 (f_M_plan_L3  vpoints cpx cpy cpz cplane caxis x1 x2 x3) n x4 vax vay vaz cto = some (o_vax, o_vay, o_vaz, o_cto) → va_P (dC, dI) vwCl (w_M qM q_px q_py q_pz q_plane q_axis q_was q_ways q_keptWas q_keptWays q_keptPoints q_nextWas q_nextWays q_nowWas q_nowWays q_to cI vthrown vpoints vplanes vaxes vkept vax vay vaz cpx cpy cpz cplane caxis cwas cways ckeptWas ckeptWays ckeptPoints cnextWas cnextWays cnowWas cnowWays cto) H → va_D A (w_M qM q_px q_py q_pz q_plane q_axis q_was q_ways q_keptWas q_keptWays q_keptPoints q_nextWas q_nextWays q_nowWas q_nowWays q_to cI vthrown vpoints vplanes vaxes vkept vax vay vaz cpx cpy cpz cplane caxis cwas cways ckeptWas ckeptWays ckeptPoints cnextWas cnextWays cnowWas cnowWays cto) → va_S A s.heap H locs → lv_has ls 5 [(0, .ref qM), (1, .int x1), (2, .int x2), (3, .int x3), (4, .int x4)] → Wx H locs 0 0 (F0 m 3 ls []) := by
    intro x1 x2 x3 n
    induction n with
    | zero => intro x4 vax vay vaz cto H locs ls hf; exact (oLoop5_0 hf).elim
    | succ n ih3 =>
      obtain ⟨rec3, hrec3⟩ : ∃ z, z = oLoop5 (f_M_plan_L3  vpoints cpx cpy cpz cplane caxis x1 x2 x3) n := ⟨_, rfl⟩
      rw [← hrec3] at ih3
      have K45 : ∀ (x4 : Int32) (t1 : Int32) (t2 : Int32) (vax : Int32) (vay : Int32) (vaz : Int32) (cto : Nat → Int32) (H : Heap) (locs : List Loc) (ls : Array Slot), f_M_plan_J45 rec3 vpoints cpx cpy cpz cplane caxis x1 x2 x3 x4 t1 t2 vax vay vaz cto = some (o_vax, o_vay, o_vaz, o_cto) → va_P (dC, dI) vwCl (w_M qM q_px q_py q_pz q_plane q_axis q_was q_ways q_keptWas q_keptWays q_keptPoints q_nextWas q_nextWays q_nowWas q_nowWays q_to cI vthrown vpoints vplanes vaxes vkept vax vay vaz cpx cpy cpz cplane caxis cwas cways ckeptWas ckeptWays ckeptPoints cnextWas cnextWays cnowWas cnowWays cto) H → va_D A (w_M qM q_px q_py q_pz q_plane q_axis q_was q_ways q_keptWas q_keptWays q_keptPoints q_nextWas q_nextWays q_nowWas q_nowWays q_to cI vthrown vpoints vplanes vaxes vkept vax vay vaz cpx cpy cpz cplane caxis cwas cways ckeptWas ckeptWays ckeptPoints cnextWas cnextWays cnowWas cnowWays cto) → va_S A s.heap H locs → lv_has ls 5 [(0, .ref qM), (1, .int x1), (2, .int x2), (3, .int x3), (4, .int x4)] → Wx H locs 0 0 (F0 m 45 ls [.int t2, .int t1, .ref q_to]) := by
        intro x4 t1 t2 vax vay vaz cto H locs ls hf hP hD hS hl
        refine toX _ _ _ _ _ ?_
        unfold f_M_plan_J45 at hf
        obtain ⟨hi1, hf⟩ := oIn_some hf
        refine va_iast hx hb hK hP hD hS 15 0 rfl rfl hi1 d_M_plan_45 (fun H locs hP hD hS => ?_)
        obtain ⟨a2, ea2, hf⟩ := oLet_ex hf
        have hP : va_P (dC, dI) vwCl (w_M qM q_px q_py q_pz q_plane q_axis q_was q_ways q_keptWas q_keptWays q_keptPoints q_nextWas q_nextWays q_nowWas q_nowWays q_to cI vthrown vpoints vplanes vaxes vkept vax vay vaz cpx cpy cpz cplane caxis cwas cways ckeptWas ckeptWays ckeptPoints cnextWas cnextWays cnowWas cnowWays a2) H := by rw [ea2]; exact hP
        have hD : va_D A (w_M qM q_px q_py q_pz q_plane q_axis q_was q_ways q_keptWas q_keptWays q_keptPoints q_nextWas q_nextWays q_nowWas q_nowWays q_to cI vthrown vpoints vplanes vaxes vkept vax vay vaz cpx cpy cpz cplane caxis cwas cways ckeptWas ckeptWays ckeptPoints cnextWas cnextWays cnowWas cnowWays a2) := by rw [ea2]; exact hD
        obtain ⟨v3, ev3, hf⟩ := oLet_ex hf
        refine lv_iinc (v := v3) (lv' := [(4, .int v3), (0, .ref qM), (1, .int x1), (2, .int x2), (3, .int x3)]) hx hb d_M_plan_46 hl (k := 4) rfl (by rw [ev3]; rfl) (by decide) rfl (fun ls hl => ?_)
        refine lv_goto (tgt := 3) hx hb d_M_plan_49 (by decide) ?_
        exact ofX _ _ _ _ _ (ih3 v3 vax vay vaz a2 _ _ _ hf hP hD hS (lv_sub hl [1, 2, 3, 4, 0] rfl))
      intro x4 vax vay vaz cto H locs ls hf hP hD hS hl
      refine toX _ _ _ _ _ ?_
      have hf := oLoop5_s hf
      rw [← hrec3] at hf
      unfold f_M_plan_L3 at hf
      refine lv_iload hx hb d_M_plan_3 (lv_at hl 4 rfl) ?_
      refine lv_aload_n hx hb d_M_plan_5 rfl (lv_at hl 0 rfl) ?_
      refine va_get (D := (dC, dI)) (ci := 3) (v := .int vpoints) (C := R_M) (T := T_M) (N := 23) hx hb ht in_M hown hK hP 0 rfl rfl 1 (by decide) (ht _ m_347) (fun _ h9 => h9) rfl d_M_plan_6 ?_
      refine lv_icmp_ge (tgt := 52) hx hb d_M_plan_9 (by decide) (fun c4 => ?_) (fun c4 => ?_)
      · have hf := oIf_t hf c4
        cases hf
        exact W.vret hx hb hr (fun t ht hW => ⟨⟨(), rfl, trivial, by rw [ht]; exact hP, hD⟩, hS.F ht⟩) hS.2.2 d_M_plan_52
      · have hf := oIf_f hf c4
        refine lv_aload_n hx hb d_M_plan_12 rfl (lv_at hl 0 rfl) ?_
        refine va_get (D := (dC, dI)) (ci := 3) (v := .ref q_to) (C := R_M) (T := T_M) (N := 23) hx hb ht in_M hown hK hP 0 rfl rfl 22 (by decide) (ht _ m_368) (fun _ h9 => h9) rfl d_M_plan_13 ?_
        refine lv_bipush (v := 60) hx hb d_M_plan_16 (by decide) ?_
        refine lv_iload_n hx hb d_M_plan_18 rfl (lv_at hl 1 rfl) ?_
        refine lv_imul hx hb d_M_plan_19 ?_
        refine lv_iload hx hb d_M_plan_20 (lv_at hl 4 rfl) ?_
        refine lv_iadd hx hb d_M_plan_22 ?_
        refine lv_aload_n hx hb d_M_plan_23 rfl (lv_at hl 0 rfl) ?_
        refine lv_iload hx hb d_M_plan_24 (lv_at hl 4 rfl) ?_
        refine lv_iload_n hx hb d_M_plan_26 rfl (lv_at hl 3 rfl) ?_
        obtain ⟨r5z, hfc, hf⟩ := oCall1_some hf
        have hPc := hP.sub (ws' := (w_M qM q_px q_py q_pz q_plane q_axis q_was q_ways q_keptWas q_keptWays q_keptPoints q_nextWas q_nextWays q_nowWas q_nowWays q_to cI vthrown vpoints vplanes vaxes vkept vax vay vaz cpx cpy cpz cplane caxis cwas cways ckeptWas ckeptWays ckeptPoints cnextWas cnextWays cnowWas cnowWays cto)) [0, 1, 2, 3, 4, 5, 6, 7, 8, 9, 10, 11, 12, 13, 14, 15] rfl
        refine vp_callSi (va_runV (As := [.int x4, .int x3]) (rest := [.int ((60 * x1) + x4), .ref q_to]) ⟨hx, hb, hml, hown, ht⟩ (c_M_sideOf l dC dI qM q_px q_py q_pz q_plane q_axis q_was q_ways q_keptWas q_keptWays q_keptPoints q_nextWas q_nextWays q_nowWas q_nowWays q_to cI cJ cQ vthrown vpoints vplanes vaxes vkept vax vay vaz cpx cpy cpz cplane caxis cwas cways ckeptWas ckeptWays ckeptPoints cnextWas cnextWays cnowWas cnowWays cto x4 x3 r5z hfc) (cwV 2 ht (gV m_486 m_488 m_16 m_31 m_489) rfl rfl rfl (by decide +kernel) ⟨Nat.le_of_ble_eq_true rfl, Nat.le_of_ble_eq_true rfl⟩) (preRV hPc hK hZ (va_recv hK hPc (ci := 3) (q0 := 0) rfl rfl)) rfl rfl hl.1 rfl (lv_room (Nat.le_of_ble_eq_true rfl)) d_M_plan_27 ⟨Nat.le_of_ble_eq_true rfl, Nat.le_of_ble_eq_true rfl⟩).run (fun r5 hw => ?_)
        subst hw
        clear hPc hfc
        refine lv_iconst (v := 2) hx hb d_M_plan_30 (by decide) ?_
        refine lv_icmp_ne (tgt := 44) hx hb d_M_plan_31 (by decide) (fun c6 => ?_) (fun c6 => ?_)
        · have hf := oIf_f hf c6
          refine lv_iconst (v := (-1)) hx hb d_M_plan_44 (by decide) ?_
          exact ofX _ _ _ _ _ (K45  x4 ((60 * x1) + x4) (-1) vax vay vaz cto _ _ _ hf hP hD hS (lv_sub hl [0, 1, 2, 3, 4] rfl))
        · have hf := oIf_t hf c6
          refine lv_aload_n hx hb d_M_plan_34 rfl (lv_at hl 0 rfl) ?_
          refine lv_iload_n hx hb d_M_plan_35 rfl (lv_at hl 2 rfl) ?_
          refine lv_iload hx hb d_M_plan_36 (lv_at hl 4 rfl) ?_
          obtain ⟨r10z, o7, o8, o9, hfc, hf⟩ := oCall4_some hf
          have hPc := hP.sub (ws' := (w_M qM q_px q_py q_pz q_plane q_axis q_was q_ways q_keptWas q_keptWays q_keptPoints q_nextWas q_nextWays q_nowWas q_nowWays q_to cI vthrown vpoints vplanes vaxes vkept vax vay vaz cpx cpy cpz cplane caxis cwas cways ckeptWas ckeptWays ckeptPoints cnextWas cnextWays cnowWas cnowWays cto)) [0, 1, 2, 3, 4, 5, 6, 7, 8, 9, 10, 11, 12, 13, 14, 15] rfl
          have hDc := hD.sub (ws' := (w_M qM q_px q_py q_pz q_plane q_axis q_was q_ways q_keptWas q_keptWays q_keptPoints q_nextWas q_nextWays q_nowWas q_nowWays q_to cI vthrown vpoints vplanes vaxes vkept vax vay vaz cpx cpy cpz cplane caxis cwas cways ckeptWas ckeptWays ckeptPoints cnextWas cnextWays cnowWas cnowWays cto)) [0, 1, 2, 3, 4, 5, 6, 7, 8, 9, 10, 11, 12, 13, 14, 15] (by decide) rfl
          have hFc := va_free (wc := (w_M qM q_px q_py q_pz q_plane q_axis q_was q_ways q_keptWas q_keptWays q_keptPoints q_nextWas q_nextWays q_nowWas q_nowWays q_to cI vthrown vpoints vplanes vaxes vkept vax vay vaz cpx cpy cpz cplane caxis cwas cways ckeptWas ckeptWays ckeptPoints cnextWas cnextWays cnowWas cnowWays cto)) hD hS hA [0, 1, 2, 3, 4, 5, 6, 7, 8, 9, 10, 11, 12, 13, 14, 15] rfl
          refine va_calli (va_runV (As := [.int x2, .int x4]) (rest := [.int ((60 * x1) + x4), .ref q_to]) ⟨hx, hb, hml, hown, ht⟩ (c_M_imageOf l dC dI qM q_px q_py q_pz q_plane q_axis q_was q_ways q_keptWas q_keptWays q_keptPoints q_nextWas q_nextWays q_nowWas q_nowWays q_to cI cJ cQ H.size vthrown vpoints vplanes vaxes vkept vax vay vaz cpx cpy cpz cplane caxis cwas cways ckeptWas ckeptWays ckeptPoints cnextWas cnextWays cnowWas cnowWays cto x2 x4 r10z o7 o8 o9 hfc) (cwV 2 ht (gV m_470 m_472 m_13 m_31 m_473) rfl rfl rfl (by decide +kernel) ⟨Nat.le_of_ble_eq_true rfl, Nat.le_of_ble_eq_true rfl⟩) (preMV hPc hK hZ hDc (va_recv hK hPc (ci := 3) (q0 := 0) rfl rfl)) rfl rfl hl.1 rfl (lv_room (Nat.le_of_ble_eq_true rfl)) d_M_plan_38 ⟨Nat.le_of_ble_eq_true rfl, Nat.le_of_ble_eq_true rfl⟩) hS (fun q _ h => hFc q h) hFc (fun r10 u t H1 locs ht9 hvm hw hB hz1 hk1 hS => ?_)
          obtain ⟨hP1, hD1⟩ := hB
          rw [ht9] at hP1
          subst hw
          obtain ⟨hP, hD⟩ := va_join (wr := []) (w1 := (w_M qM q_px q_py q_pz q_plane q_axis q_was q_ways q_keptWas q_keptWays q_keptPoints q_nextWas q_nextWays q_nowWas q_nowWays q_to cI vthrown vpoints vplanes vaxes vkept o7 o8 o9 cpx cpy cpz cplane caxis cwas cways ckeptWas ckeptWays ckeptPoints cnextWas cnextWays cnowWas cnowWays cto)) hP hD [0, 1, 2, 3, 4, 5, 6, 7, 8, 9, 10, 11, 12, 13, 14, 15] [] rfl rfl (by decide) (by decide) hk1 hFc hP1 hD1
          have hP := hP.sub (ws' := (w_M qM q_px q_py q_pz q_plane q_axis q_was q_ways q_keptWas q_keptWays q_keptPoints q_nextWas q_nextWays q_nowWas q_nowWays q_to cI vthrown vpoints vplanes vaxes vkept o7 o8 o9 cpx cpy cpz cplane caxis cwas cways ckeptWas ckeptWays ckeptPoints cnextWas cnextWays cnowWas cnowWays cto)) [0, 1, 2, 3, 4, 5, 6, 7, 8, 9, 10, 11, 12, 13, 14, 15] rfl
          have hD := hD.sub (ws' := (w_M qM q_px q_py q_pz q_plane q_axis q_was q_ways q_keptWas q_keptWays q_keptPoints q_nextWas q_nextWays q_nowWas q_nowWays q_to cI vthrown vpoints vplanes vaxes vkept o7 o8 o9 cpx cpy cpz cplane caxis cwas cways ckeptWas ckeptWays ckeptPoints cnextWas cnextWays cnowWas cnowWays cto)) [0, 1, 2, 3, 4, 5, 6, 7, 8, 9, 10, 11, 12, 13, 14, 15] (by decide) rfl
          clear hPc hDc hFc hP1 hD1 hz1 hk1 ht9 hvm hfc
          generalize H1 = H at hP hS ⊢
          refine lv_goto (tgt := 45) hx hb d_M_plan_41 (by decide) ?_
          exact ofX _ _ _ _ _ (K45  x4 ((60 * x1) + x4) r10 o7 o8 o9 cto _ _ _ hf hP hD hS (lv_sub hl [0, 1, 2, 3, 4] rfl))
  refine toX _ _ _ _ _ ?_
  unfold f_M_plan at hf
  obtain ⟨H, hH⟩ : ∃ z, z = s.heap := ⟨_, rfl⟩
  have hS : va_S A s.heap H [] := by rw [hH]; exact hS
  have hP : va_P (dC, dI) vwCl (w_M qM q_px q_py q_pz q_plane q_axis q_was q_ways q_keptWas q_keptWays q_keptPoints q_nextWas q_nextWays q_nowWas q_nowWays q_to cI vthrown vpoints vplanes vaxes vkept vax vay vaz cpx cpy cpz cplane caxis cwas cways ckeptWas ckeptWays ckeptPoints cnextWas cnextWays cnowWas cnowWays cto) H := by rw [hH]; exact hP
  refine w_heap hH ?_
  refine lv_iconst (v := 0) hx hb d_M_plan_0 (by decide) ?_
  refine lv_istore (lv' := [(4, .int 0), (0, .ref qM), (1, .int x1), (2, .int x2), (3, .int x3)]) hx hb d_M_plan_1 hl (by decide) rfl (fun ls hl => ?_)
  exact ofX _ _ _ _ _ (K3 x1 x2 x3 _ 0 vax vay vaz cto _ _ _ hf hP hD hS (lv_sub hl [1, 2, 3, 4, 0] rfl))
set_option maxHeartbeats 4000000 in
set_option maxRecDepth 100000 in
theorem c_M_turnOnce (l : Launch) (dC : Nat → ClassId) (dI : Nat → Nat → Nat) (qM q_px q_py q_pz q_plane q_axis q_was q_ways q_keptWas q_keptWays q_keptPoints q_nextWas q_nextWays q_nowWas q_nowWays q_to : Nat) (cI cJ cQ : ClassId) (sz : Nat) (vthrown : Int32) (vpoints : Int32) (vplanes : Int32) (vaxes : Int32) (vkept : Int32) (vax : Int32) (vay : Int32) (vaz : Int32) (cpx : Nat → Int32) (cpy : Nat → Int32) (cpz : Nat → Int32) (cplane : Nat → Int32) (caxis : Nat → Int32) (cwas : Nat → Int32) (cways : Nat → Int32) (ckeptWas : Nat → Int32) (ckeptWays : Nat → Int32) (ckeptPoints : Nat → Int32) (cnextWas : Nat → Int32) (cnextWays : Nat → Int32) (cnowWas : Nat → Int32) (cnowWays : Nat → Int32) (cto : Nat → Int32) (x1 : Int32) (x2 : Int32) (o_vax : Int32) (o_vay : Int32) (o_vaz : Int32) (o_cwas : Nat → Int32) (o_cways : Nat → Int32) (o_cnextWas : Nat → Int32) (o_cnextWays : Nat → Int32) (hf : f_M_turnOnce vpoints vax vay vaz caxis cwas cways cnextWas cnextWays cto x1 x2 = some (o_vax, o_vay, o_vaz, o_cwas, o_cways, o_cnextWas, o_cnextWays)) : Met l y_M_turnOnce w_M_turnOnce ({ frames := 4, cells := 0, slots := 0, locals := 99 }) (va_Pc [.ref qM, .int x1, .int x2] (fun U => U.heap.size = sz ∧ va_P (dC, dI) vwCl (w_M qM q_px q_py q_pz q_plane q_axis q_was q_ways q_keptWas q_keptWays q_keptPoints q_nextWas q_nextWays q_nowWas q_nowWays q_to cI vthrown vpoints vplanes vaxes vkept vax vay vaz cpx cpy cpz cplane caxis cwas cways ckeptWas ckeptWays ckeptPoints cnextWas cnextWays cnowWas cnowWays cto) U.heap ∧ va_K (dC, dI) vwCl [(cI, .int), (cJ, .long), (cQ, .object "CutBodies$Contents")] U ∧ nestZ U ∧ va_D (fun _ => True) (w_M qM q_px q_py q_pz q_plane q_axis q_was q_ways q_keptWas q_keptWays q_keptPoints q_nextWas q_nextWays q_nowWas q_nowWays q_to cI vthrown vpoints vplanes vaxes vkept vax vay vaz cpx cpy cpz cplane caxis cwas cways ckeptWas ckeptWays ckeptPoints cnextWas cnextWays cnowWas cnowWays cto))) (va_Qv (fun (_ : Unit) => True) (fun _ t => va_P (dC, dI) vwCl (w_M qM q_px q_py q_pz q_plane q_axis q_was q_ways q_keptWas q_keptWays q_keptPoints q_nextWas q_nextWays q_nowWas q_nowWays q_to cI vthrown vpoints vplanes vaxes vkept o_vax o_vay o_vaz cpx cpy cpz cplane caxis o_cwas o_cways ckeptWas ckeptWays ckeptPoints o_cnextWas o_cnextWays cnowWas cnowWays cto) t.heap ∧ va_D (va_A (w_M qM q_px q_py q_pz q_plane q_axis q_was q_ways q_keptWas q_keptWays q_keptPoints q_nextWas q_nextWays q_nowWas q_nowWays q_to cI vthrown vpoints vplanes vaxes vkept vax vay vaz cpx cpy cpz cplane caxis cwas cways ckeptWas ckeptWays ckeptPoints cnextWas cnextWays cnowWas cnowWays cto) sz) (w_M qM q_px q_py q_pz q_plane q_axis q_was q_ways q_keptWas q_keptWays q_keptPoints q_nextWas q_nextWays q_nowWas q_nowWays q_to cI vthrown vpoints vplanes vaxes vkept o_vax o_vay o_vaz cpx cpy cpz cplane caxis o_cwas o_cways ckeptWas ckeptWays ckeptPoints o_cnextWas o_cnextWays cnowWas cnowWays cto)) (va_A (w_M qM q_px q_py q_pz q_plane q_axis q_was q_ways q_keptWas q_keptWays q_keptPoints q_nextWas q_nextWays q_nowWas q_nowWays q_to cI vthrown vpoints vplanes vaxes vkept vax vay vaz cpx cpy cpz cplane caxis cwas cways ckeptWas ckeptWays ckeptPoints cnextWas cnextWays cnowWas cnowWays cto) sz)) 0 0 (va_A (w_M qM q_px q_py q_pz q_plane q_axis q_was q_ways q_keptWas q_keptWays q_keptPoints q_nextWas q_nextWays q_nowWas q_nowWays q_to cI vthrown vpoints vplanes vaxes vkept vax vay vaz cpx cpy cpz cplane caxis cwas cways ckeptWas ckeptWays ckeptPoints cnextWas cnextWays cnowWas cnowWays cto) sz) := by
  refine Met.ofW (cc := b_M_turnOnce) (maxL := 5) (ret := none) (by decide) rfl ?_
  intro p e s m args below meth c s₁ B hml hv
  obtain ⟨rfl, hsz, hP, hK, hZ, hD0⟩ := hv
  have hx := B.exec
  have hb := B.bytes
  have hr := B.returns
  have hts := atoms_spec (ws := w_M_turnOnce) B.pre
  have ht : ∀ w ∈ wAll, w.before _ s = true := fun w h => hts w (List.mem_cons_of_mem _ h)
  have hown : s.vm.findClass R_M = some m.cls := findClass_of_methodNamed B.named
  have hlocks := B.notSynchronized
  subst hsz
  have hD := hD0.self (sz := s.heap.size)
  generalize hAe : va_A (w_M qM q_px q_py q_pz q_plane q_axis q_was q_ways q_keptWas q_keptWays q_keptPoints q_nextWas q_nextWays q_nowWas q_nowWays q_to cI vthrown vpoints vplanes vaxes vkept vax vay vaz cpx cpy cpz cplane caxis cwas cways ckeptWas ckeptWays ckeptPoints cnextWas cnextWays cnowWas cnowWays cto) s.heap.size = A at hD ⊢
  have hA : ∀ q : Nat, s.heap.size ≤ q → A q := fun q h => by rw [← hAe]; exact Or.inr h
  have hS : va_S A s.heap s.heap [] := va_S.rf
  have hP : va_P (dC, dI) vwCl (w_M qM q_px q_py q_pz q_plane q_axis q_was q_ways q_keptWas q_keptWays q_keptPoints q_nextWas q_nextWays q_nowWas q_nowWays q_to cI vthrown vpoints vplanes vaxes vkept vax vay vaz cpx cpy cpz cplane caxis cwas cways ckeptWas ckeptWays ckeptPoints cnextWas cnextWays cnowWas cnowWays cto) s.heap := hP
  have hl := lv_entry ([.ref qM, .int x1, .int x2]) (n := 5) (Nat.le_of_ble_eq_true rfl)
  rw [lg_entry_eq]
  generalize (lg_sl ([.ref qM, .int x1, .int x2]) ++ List.replicate (5 - (lg_sl ([.ref qM, .int x1, .int x2])).length) Slot.unset).toArray = ls at hl ⊢
  have hl : lv_has ls 5 [(0, .ref qM), (1, .int x1), (2, .int x2)] := hl
  refine w_abs (fun Wx toX ofX => ?_)
  have K110 : ∀ (vax : Int32) (vay : Int32) (vaz : Int32) (cnextWas : Nat → Int32) (cnextWays : Nat → Int32) (n : Nat) (x3 : Int32) (cwas : Nat → Int32) (cways : Nat → Int32) (H : Heap) (locs : List Loc) (ls : Array Slot), oLoop3 (f_M_turnOnce_L110  vpoints caxis cto vax vay vaz cnextWas cnextWays) n x3 cwas cways = some (o_vax, o_vay, o_vaz, o_cwas, o_cways, o_cnextWas, o_cnextWays) → va_P (dC, dI) vwCl (w_M qM q_px q_py q_pz q_plane q_axis q_was q_ways q_keptWas q_keptWays q_keptPoints q_nextWas q_nextWays q_nowWas q_nowWays q_to cI vthrown vpoints vplanes vaxes vkept vax vay vaz cpx cpy cpz cplane caxis cwas cways ckeptWas ckeptWays ckeptPoints cnextWas cnextWays cnowWas cnowWays cto) H → va_D A (w_M qM q_px q_py q_pz q_plane q_axis q_was q_ways q_keptWas q_keptWays q_keptPoints q_nextWas q_nextWays q_nowWas q_nowWays q_to cI vthrown vpoints vplanes vaxes vkept vax vay vaz cpx cpy cpz cplane caxis cwas cways ckeptWas ckeptWays ckeptPoints cnextWas cnextWays cnowWas cnowWays cto) → va_S A s.heap H locs → lv_has ls 5 [(0, .ref qM), (3, .int x3)] → Wx H locs 0 0 (F0 m 110 ls []) := by
    intro vax vay vaz cnextWas cnextWays n
    induction n with
    | zero => intro x3 cwas cways H locs ls hf; exact (oLoop3_0 hf).elim
    | succ n ih110 =>
      obtain ⟨rec110, hrec110⟩ : ∃ z, z = oLoop3 (f_M_turnOnce_L110  vpoints caxis cto vax vay vaz cnextWas cnextWays) n := ⟨_, rfl⟩
      rw [← hrec110] at ih110
      intro x3 cwas cways H locs ls hf hP hD hS hl
      refine toX _ _ _ _ _ ?_
      have hf := oLoop3_s hf
      rw [← hrec110] at hf
      unfold f_M_turnOnce_L110 at hf
      refine lv_iload_n hx hb d_M_turnOnce_110 rfl (lv_at hl 1 rfl) ?_
      refine lv_aload_n hx hb d_M_turnOnce_111 rfl (lv_at hl 0 rfl) ?_
      refine va_get (D := (dC, dI)) (ci := 3) (v := .int vpoints) (C := R_M) (T := T_M) (N := 23) hx hb ht in_M hown hK hP 0 rfl rfl 1 (by decide) (ht _ m_347) (fun _ h9 => h9) rfl d_M_turnOnce_112 ?_
      refine lv_icmp_ge (tgt := 148) hx hb d_M_turnOnce_115 (by decide) (fun c1 => ?_) (fun c1 => ?_)
      · have hf := oIf_t hf c1
        cases hf
        exact W.vret hx hb hr (fun t ht hW => ⟨⟨(), rfl, trivial, by rw [ht]; exact hP, hD⟩, hS.F ht⟩) hS.2.2 d_M_turnOnce_148
      · have hf := oIf_f hf c1
        refine lv_aload_n hx hb d_M_turnOnce_118 rfl (lv_at hl 0 rfl) ?_
        refine va_get (D := (dC, dI)) (ci := 3) (v := .ref q_was) (C := R_M) (T := T_M) (N := 23) hx hb ht in_M hown hK hP 0 rfl rfl 9 (by decide) (ht _ m_355) (fun _ h9 => h9) rfl d_M_turnOnce_119 ?_
        refine lv_iload_n hx hb d_M_turnOnce_122 rfl (lv_at hl 1 rfl) ?_
        refine lv_aload_n hx hb d_M_turnOnce_123 rfl (lv_at hl 0 rfl) ?_
        refine va_get (D := (dC, dI)) (ci := 3) (v := .ref q_nextWas) (C := R_M) (T := T_M) (N := 23) hx hb ht in_M hown hK hP 0 rfl rfl 18 (by decide) (ht _ m_364) (fun _ h9 => h9) rfl d_M_turnOnce_124 ?_
        refine lv_iload_n hx hb d_M_turnOnce_127 rfl (lv_at hl 1 rfl) ?_
        obtain ⟨hi2, hf⟩ := oIn_some hf
        refine va_iald hx hb hK hP 11 0 rfl rfl hi2 d_M_turnOnce_128 ?_
        obtain ⟨hi3, hf⟩ := oIn_some hf
        refine va_iast hx hb hK hP hD hS 6 0 rfl rfl hi3 d_M_turnOnce_129 (fun H locs hP hD hS => ?_)
        obtain ⟨a4, ea4, hf⟩ := oLet_ex hf
        have hP : va_P (dC, dI) vwCl (w_M qM q_px q_py q_pz q_plane q_axis q_was q_ways q_keptWas q_keptWays q_keptPoints q_nextWas q_nextWays q_nowWas q_nowWays q_to cI vthrown vpoints vplanes vaxes vkept vax vay vaz cpx cpy cpz cplane caxis a4 cways ckeptWas ckeptWays ckeptPoints cnextWas cnextWays cnowWas cnowWays cto) H := by rw [ea4]; exact hP
        have hD : va_D A (w_M qM q_px q_py q_pz q_plane q_axis q_was q_ways q_keptWas q_keptWays q_keptPoints q_nextWas q_nextWays q_nowWas q_nowWays q_to cI vthrown vpoints vplanes vaxes vkept vax vay vaz cpx cpy cpz cplane caxis a4 cways ckeptWas ckeptWays ckeptPoints cnextWas cnextWays cnowWas cnowWays cto) := by rw [ea4]; exact hD
        refine lv_aload_n hx hb d_M_turnOnce_130 rfl (lv_at hl 0 rfl) ?_
        refine va_get (D := (dC, dI)) (ci := 3) (v := .ref q_ways) (C := R_M) (T := T_M) (N := 23) hx hb ht in_M hown hK hP 0 rfl rfl 10 (by decide) (ht _ m_356) (fun _ h9 => h9) rfl d_M_turnOnce_131 ?_
        refine lv_iload_n hx hb d_M_turnOnce_134 rfl (lv_at hl 1 rfl) ?_
        refine lv_aload_n hx hb d_M_turnOnce_135 rfl (lv_at hl 0 rfl) ?_
        refine va_get (D := (dC, dI)) (ci := 3) (v := .ref q_nextWays) (C := R_M) (T := T_M) (N := 23) hx hb ht in_M hown hK hP 0 rfl rfl 19 (by decide) (ht _ m_365) (fun _ h9 => h9) rfl d_M_turnOnce_136 ?_
        refine lv_iload_n hx hb d_M_turnOnce_139 rfl (lv_at hl 1 rfl) ?_
        obtain ⟨hi5, hf⟩ := oIn_some hf
        refine va_iald hx hb hK hP 12 0 rfl rfl hi5 d_M_turnOnce_140 ?_
        obtain ⟨hi6, hf⟩ := oIn_some hf
        refine va_iast hx hb hK hP hD hS 7 0 rfl rfl hi6 d_M_turnOnce_141 (fun H locs hP hD hS => ?_)
        obtain ⟨a7, ea7, hf⟩ := oLet_ex hf
        have hP : va_P (dC, dI) vwCl (w_M qM q_px q_py q_pz q_plane q_axis q_was q_ways q_keptWas q_keptWays q_keptPoints q_nextWas q_nextWays q_nowWas q_nowWays q_to cI vthrown vpoints vplanes vaxes vkept vax vay vaz cpx cpy cpz cplane caxis a4 a7 ckeptWas ckeptWays ckeptPoints cnextWas cnextWays cnowWas cnowWays cto) H := by rw [ea7]; exact hP
        have hD : va_D A (w_M qM q_px q_py q_pz q_plane q_axis q_was q_ways q_keptWas q_keptWays q_keptPoints q_nextWas q_nextWays q_nowWas q_nowWays q_to cI vthrown vpoints vplanes vaxes vkept vax vay vaz cpx cpy cpz cplane caxis a4 a7 ckeptWas ckeptWays ckeptPoints cnextWas cnextWays cnowWas cnowWays cto) := by rw [ea7]; exact hD
        obtain ⟨v8, ev8, hf⟩ := oLet_ex hf
        refine lv_iinc (v := v8) (lv' := [(3, .int v8), (0, .ref qM)]) hx hb d_M_turnOnce_142 hl (k := 1) rfl (by rw [ev8]; rfl) (by decide) rfl (fun ls hl => ?_)
        refine lv_goto (tgt := 110) hx hb d_M_turnOnce_145 (by decide) ?_
        exact ofX _ _ _ _ _ (ih110 v8 a4 a7 _ _ _ hf hP hD hS (lv_sub hl [1, 0] rfl))
  have K42 : ∀ (x1 : Int32) (x2 : Int32) (cwas : Nat → Int32) (cways : Nat → Int32) (n : Nat) (x3 : Int32) (vax : Int32) (vay : Int32) (vaz : Int32) (cnextWas : Nat → Int32) (cnextWays : Nat → Int32) (H : Heap) (locs : List Loc) (ls : Array Slot), oLoop6 (f_M_turnOnce_L42  vpoints caxis cto x1 x2 cwas cways) n x3 vax vay vaz cnextWas cnextWays = some (o_vax, o_vay, o_vaz, o_cwas, o_cways, o_cnextWas, o_cnextWays) → va_P (dC, dI) vwCl (w_M qM q_px q_py q_pz q_plane q_axis q_was q_ways q_keptWas q_keptWays q_keptPoints q_nextWas q_nextWays q_nowWas q_nowWays q_to cI vthrown vpoints vplanes vaxes vkept vax vay vaz cpx cpy cpz cplane caxis cwas cways ckeptWas ckeptWays ckeptPoints cnextWas cnextWays cnowWas cnowWays cto) H → va_D A (w_M qM q_px q_py q_pz q_plane q_axis q_was q_ways q_keptWas q_keptWays q_keptPoints q_nextWas q_nextWays q_nowWas q_nowWays q_to cI vthrown vpoints vplanes vaxes vkept vax vay vaz cpx cpy cpz cplane caxis cwas cways ckeptWas ckeptWays ckeptPoints cnextWas cnextWays cnowWas cnowWays cto) → va_S A s.heap H locs → lv_has ls 5 [(0, .ref qM), (1, .int x1), (2, .int x2), (3, .int x3)] → Wx H locs 0 0 (F0 m 42 ls []) := by
    intro x1 x2 cwas cways n
    induction n with
    | zero => intro x3 vax vay vaz cnextWas cnextWays H locs ls hf; exact (oLoop6_0 hf).elim
    | succ n ih42 =>
      obtain ⟨rec42, hrec42⟩ : ∃ z, z = oLoop6 (f_M_turnOnce_L42  vpoints caxis cto x1 x2 cwas cways) n := ⟨_, rfl⟩
      rw [← hrec42] at ih42
      have K102 : ∀ (x3 : Int32) (vax : Int32) (vay : Int32) (vaz : Int32) (cnextWas : Nat → Int32) (cnextWays : Nat → Int32) (H : Heap) (locs : List Loc) (ls : Array Slot), f_M_turnOnce_J102 rec42 vpoints caxis cto x1 x2 cwas cways x3 vax vay vaz cnextWas cnextWays = some (o_vax, o_vay, o_vaz, o_cwas, o_cways, o_cnextWas, o_cnextWays) → va_P (dC, dI) vwCl (w_M qM q_px q_py q_pz q_plane q_axis q_was q_ways q_keptWas q_keptWays q_keptPoints q_nextWas q_nextWays q_nowWas q_nowWays q_to cI vthrown vpoints vplanes vaxes vkept vax vay vaz cpx cpy cpz cplane caxis cwas cways ckeptWas ckeptWays ckeptPoints cnextWas cnextWays cnowWas cnowWays cto) H → va_D A (w_M qM q_px q_py q_pz q_plane q_axis q_was q_ways q_keptWas q_keptWays q_keptPoints q_nextWas q_nextWays q_nowWas q_nowWays q_to cI vthrown vpoints vplanes vaxes vkept vax vay vaz cpx cpy cpz cplane caxis cwas cways ckeptWas ckeptWays ckeptPoints cnextWas cnextWays cnowWas cnowWays cto) → va_S A s.heap H locs → lv_has ls 5 [(0, .ref qM), (1, .int x1), (2, .int x2), (3, .int x3)] → Wx H locs 0 0 (F0 m 102 ls []) := by
        intro x3 vax vay vaz cnextWas cnextWays H locs ls hf hP hD hS hl
        refine toX _ _ _ _ _ ?_
        unfold f_M_turnOnce_J102 at hf
        obtain ⟨v9, ev9, hf⟩ := oLet_ex hf
        refine lv_iinc (v := v9) (lv' := [(3, .int v9), (0, .ref qM), (1, .int x1), (2, .int x2)]) hx hb d_M_turnOnce_102 hl (k := 3) rfl (by rw [ev9]; rfl) (by decide) rfl (fun ls hl => ?_)
        refine lv_goto (tgt := 42) hx hb d_M_turnOnce_105 (by decide) ?_
        exact ofX _ _ _ _ _ (ih42 v9 vax vay vaz cnextWas cnextWays _ _ _ hf hP hD hS (lv_sub hl [1, 2, 3, 0] rfl))
      intro x3 vax vay vaz cnextWas cnextWays H locs ls hf hP hD hS hl
      refine toX _ _ _ _ _ ?_
      have hf := oLoop6_s hf
      rw [← hrec42] at hf
      unfold f_M_turnOnce_L42 at hf
      refine lv_iload_n hx hb d_M_turnOnce_42 rfl (lv_at hl 3 rfl) ?_
      refine lv_aload_n hx hb d_M_turnOnce_43 rfl (lv_at hl 0 rfl) ?_
      refine va_get (D := (dC, dI)) (ci := 3) (v := .int vpoints) (C := R_M) (T := T_M) (N := 23) hx hb ht in_M hown hK hP 0 rfl rfl 1 (by decide) (ht _ m_347) (fun _ h9 => h9) rfl d_M_turnOnce_44 ?_
      refine lv_icmp_ge (tgt := 108) hx hb d_M_turnOnce_47 (by decide) (fun c10 => ?_) (fun c10 => ?_)
      · have hf := oIf_t hf c10
        refine lv_iconst (v := 0) hx hb d_M_turnOnce_108 (by decide) ?_
        refine lv_istore_n (lv' := [(3, .int 0), (0, .ref qM), (1, .int x1), (2, .int x2)]) hx hb d_M_turnOnce_109 rfl hl (by decide) rfl (fun ls hl => ?_)
        exact ofX _ _ _ _ _ (K110 vax vay vaz cnextWas cnextWays _ 0 cwas cways _ _ _ hf hP hD hS (lv_sub hl [1, 0] rfl))
      · have hf := oIf_f hf c10
        refine lv_aload_n hx hb d_M_turnOnce_50 rfl (lv_at hl 0 rfl) ?_
        refine va_get (D := (dC, dI)) (ci := 3) (v := .ref q_to) (C := R_M) (T := T_M) (N := 23) hx hb ht in_M hown hK hP 0 rfl rfl 22 (by decide) (ht _ m_368) (fun _ h9 => h9) rfl d_M_turnOnce_51 ?_
        refine lv_bipush (v := 60) hx hb d_M_turnOnce_54 (by decide) ?_
        refine lv_iload_n hx hb d_M_turnOnce_56 rfl (lv_at hl 1 rfl) ?_
        refine lv_imul hx hb d_M_turnOnce_57 ?_
        refine lv_iload_n hx hb d_M_turnOnce_58 rfl (lv_at hl 3 rfl) ?_
        refine lv_iadd hx hb d_M_turnOnce_59 ?_
        obtain ⟨hi11, hf⟩ := oIn_some hf
        refine va_iald hx hb hK hP 15 0 rfl rfl hi11 d_M_turnOnce_60 ?_
        refine lv_topi (fun v12 ev12 => ?_)
        have hf := oLet_some hf ev12
        refine lv_istore (lv' := [(4, .int v12), (0, .ref qM), (1, .int x1), (2, .int x2), (3, .int x3)]) hx hb d_M_turnOnce_61 hl (by decide) rfl (fun ls hl => ?_)
        refine lv_iload hx hb d_M_turnOnce_63 (lv_at hl 0 rfl) ?_
        refine lv_if_ge (tgt := 71) hx hb d_M_turnOnce_65 (by decide) (fun c13 => ?_) (fun c13 => ?_)
        · have hf := oIf_t hf c13
          refine lv_aload_n hx hb d_M_turnOnce_71 rfl (lv_at hl 1 rfl) ?_
          refine va_get (D := (dC, dI)) (ci := 3) (v := .ref q_nextWas) (C := R_M) (T := T_M) (N := 23) hx hb ht in_M hown hK hP 0 rfl rfl 18 (by decide) (ht _ m_364) (fun _ h9 => h9) rfl d_M_turnOnce_72 ?_
          refine lv_iload hx hb d_M_turnOnce_75 (lv_at hl 0 rfl) ?_
          refine lv_aload_n hx hb d_M_turnOnce_77 rfl (lv_at hl 1 rfl) ?_
          refine va_get (D := (dC, dI)) (ci := 3) (v := .ref q_was) (C := R_M) (T := T_M) (N := 23) hx hb ht in_M hown hK hP 0 rfl rfl 9 (by decide) (ht _ m_355) (fun _ h9 => h9) rfl d_M_turnOnce_78 ?_
          refine lv_iload_n hx hb d_M_turnOnce_81 rfl (lv_at hl 4 rfl) ?_
          obtain ⟨hi14, hf⟩ := oIn_some hf
          refine va_iald hx hb hK hP 6 0 rfl rfl hi14 d_M_turnOnce_82 ?_
          obtain ⟨hi15, hf⟩ := oIn_some hf
          refine va_iast hx hb hK hP hD hS 11 0 rfl rfl hi15 d_M_turnOnce_83 (fun H locs hP hD hS => ?_)
          obtain ⟨a16, ea16, hf⟩ := oLet_ex hf
          have hP : va_P (dC, dI) vwCl (w_M qM q_px q_py q_pz q_plane q_axis q_was q_ways q_keptWas q_keptWays q_keptPoints q_nextWas q_nextWays q_nowWas q_nowWays q_to cI vthrown vpoints vplanes vaxes vkept vax vay vaz cpx cpy cpz cplane caxis cwas cways ckeptWas ckeptWays ckeptPoints a16 cnextWays cnowWas cnowWays cto) H := by rw [ea16]; exact hP
          have hD : va_D A (w_M qM q_px q_py q_pz q_plane q_axis q_was q_ways q_keptWas q_keptWays q_keptPoints q_nextWas q_nextWays q_nowWas q_nowWays q_to cI vthrown vpoints vplanes vaxes vkept vax vay vaz cpx cpy cpz cplane caxis cwas cways ckeptWas ckeptWays ckeptPoints a16 cnextWays cnowWas cnowWays cto) := by rw [ea16]; exact hD
          refine lv_aload_n hx hb d_M_turnOnce_84 rfl (lv_at hl 1 rfl) ?_
          refine va_get (D := (dC, dI)) (ci := 3) (v := .ref q_nextWays) (C := R_M) (T := T_M) (N := 23) hx hb ht in_M hown hK hP 0 rfl rfl 19 (by decide) (ht _ m_365) (fun _ h9 => h9) rfl d_M_turnOnce_85 ?_
          refine lv_iload hx hb d_M_turnOnce_88 (lv_at hl 0 rfl) ?_
          refine lv_aload_n hx hb d_M_turnOnce_90 rfl (lv_at hl 1 rfl) ?_
          refine lv_iload_n hx hb d_M_turnOnce_91 rfl (lv_at hl 3 rfl) ?_
          refine lv_aload_n hx hb d_M_turnOnce_92 rfl (lv_at hl 1 rfl) ?_
          refine va_get (D := (dC, dI)) (ci := 3) (v := .ref q_ways) (C := R_M) (T := T_M) (N := 23) hx hb ht in_M hown hK hP 0 rfl rfl 10 (by decide) (ht _ m_356) (fun _ h9 => h9) rfl d_M_turnOnce_93 ?_
          refine lv_iload_n hx hb d_M_turnOnce_96 rfl (lv_at hl 4 rfl) ?_
          obtain ⟨hi17, hf⟩ := oIn_some hf
          refine va_iald hx hb hK hP 7 0 rfl rfl hi17 d_M_turnOnce_97 ?_
          obtain ⟨r21z, o18, o19, o20, hfc, hf⟩ := oCall4_some hf
          have hPc := hP.sub (ws' := (w_M qM q_px q_py q_pz q_plane q_axis q_was q_ways q_keptWas q_keptWays q_keptPoints q_nextWas q_nextWays q_nowWas q_nowWays q_to cI vthrown vpoints vplanes vaxes vkept vax vay vaz cpx cpy cpz cplane caxis cwas cways ckeptWas ckeptWays ckeptPoints a16 cnextWays cnowWas cnowWays cto)) [0, 1, 2, 3, 4, 5, 6, 7, 8, 9, 10, 11, 12, 13, 14, 15] rfl
          have hDc := hD.sub (ws' := (w_M qM q_px q_py q_pz q_plane q_axis q_was q_ways q_keptWas q_keptWays q_keptPoints q_nextWas q_nextWays q_nowWas q_nowWays q_to cI vthrown vpoints vplanes vaxes vkept vax vay vaz cpx cpy cpz cplane caxis cwas cways ckeptWas ckeptWays ckeptPoints a16 cnextWays cnowWas cnowWays cto)) [0, 1, 2, 3, 4, 5, 6, 7, 8, 9, 10, 11, 12, 13, 14, 15] (by decide) rfl
          have hFc := va_free (wc := (w_M qM q_px q_py q_pz q_plane q_axis q_was q_ways q_keptWas q_keptWays q_keptPoints q_nextWas q_nextWays q_nowWas q_nowWays q_to cI vthrown vpoints vplanes vaxes vkept vax vay vaz cpx cpy cpz cplane caxis cwas cways ckeptWas ckeptWays ckeptPoints a16 cnextWays cnowWas cnowWays cto)) hD hS hA [0, 1, 2, 3, 4, 5, 6, 7, 8, 9, 10, 11, 12, 13, 14, 15] rfl
          refine va_calli (va_runV (As := [.int x2, .int (cways x3.toNatClampNeg)]) (rest := [.int v12, .ref q_nextWays]) ⟨hx, hb, hml, hown, ht⟩ (c_M_wayBehind l dC dI qM q_px q_py q_pz q_plane q_axis q_was q_ways q_keptWas q_keptWays q_keptPoints q_nextWas q_nextWays q_nowWas q_nowWays q_to cI cJ cQ H.size vthrown vpoints vplanes vaxes vkept vax vay vaz cpx cpy cpz cplane caxis cwas cways ckeptWas ckeptWays ckeptPoints a16 cnextWays cnowWas cnowWays cto x2 (cways x3.toNatClampNeg) r21z o18 o19 o20 hfc) (cwV 2 ht (gV m_526 m_528 m_23 m_31 m_529) rfl rfl rfl (by decide +kernel) ⟨Nat.le_of_ble_eq_true rfl, Nat.le_of_ble_eq_true rfl⟩) (preMV hPc hK hZ hDc (va_recv hK hPc (ci := 3) (q0 := 0) rfl rfl)) rfl rfl hl.1 rfl (lv_room (Nat.le_of_ble_eq_true rfl)) d_M_turnOnce_98 ⟨Nat.le_of_ble_eq_true rfl, Nat.le_of_ble_eq_true rfl⟩) hS (fun q _ h => hFc q h) hFc (fun r21 u t H1 locs ht9 hvm hw hB hz1 hk1 hS => ?_)
          obtain ⟨hP1, hD1⟩ := hB
          rw [ht9] at hP1
          subst hw
          obtain ⟨hP, hD⟩ := va_join (wr := []) (w1 := (w_M qM q_px q_py q_pz q_plane q_axis q_was q_ways q_keptWas q_keptWays q_keptPoints q_nextWas q_nextWays q_nowWas q_nowWays q_to cI vthrown vpoints vplanes vaxes vkept o18 o19 o20 cpx cpy cpz cplane caxis cwas cways ckeptWas ckeptWays ckeptPoints a16 cnextWays cnowWas cnowWays cto)) hP hD [0, 1, 2, 3, 4, 5, 6, 7, 8, 9, 10, 11, 12, 13, 14, 15] [] rfl rfl (by decide) (by decide) hk1 hFc hP1 hD1
          have hP := hP.sub (ws' := (w_M qM q_px q_py q_pz q_plane q_axis q_was q_ways q_keptWas q_keptWays q_keptPoints q_nextWas q_nextWays q_nowWas q_nowWays q_to cI vthrown vpoints vplanes vaxes vkept o18 o19 o20 cpx cpy cpz cplane caxis cwas cways ckeptWas ckeptWays ckeptPoints a16 cnextWays cnowWas cnowWays cto)) [0, 1, 2, 3, 4, 5, 6, 7, 8, 9, 10, 11, 12, 13, 14, 15] rfl
          have hD := hD.sub (ws' := (w_M qM q_px q_py q_pz q_plane q_axis q_was q_ways q_keptWas q_keptWays q_keptPoints q_nextWas q_nextWays q_nowWas q_nowWays q_to cI vthrown vpoints vplanes vaxes vkept o18 o19 o20 cpx cpy cpz cplane caxis cwas cways ckeptWas ckeptWays ckeptPoints a16 cnextWays cnowWas cnowWays cto)) [0, 1, 2, 3, 4, 5, 6, 7, 8, 9, 10, 11, 12, 13, 14, 15] (by decide) rfl
          clear hPc hDc hFc hP1 hD1 hz1 hk1 ht9 hvm hfc
          generalize H1 = H at hP hS ⊢
          obtain ⟨hi22, hf⟩ := oIn_some hf
          refine va_iast hx hb hK hP hD hS 12 0 rfl rfl hi22 d_M_turnOnce_101 (fun H locs hP hD hS => ?_)
          obtain ⟨a23, ea23, hf⟩ := oLet_ex hf
          have hP : va_P (dC, dI) vwCl (w_M qM q_px q_py q_pz q_plane q_axis q_was q_ways q_keptWas q_keptWays q_keptPoints q_nextWas q_nextWays q_nowWas q_nowWays q_to cI vthrown vpoints vplanes vaxes vkept o18 o19 o20 cpx cpy cpz cplane caxis cwas cways ckeptWas ckeptWays ckeptPoints a16 a23 cnowWas cnowWays cto) H := by rw [ea23]; exact hP
          have hD : va_D A (w_M qM q_px q_py q_pz q_plane q_axis q_was q_ways q_keptWas q_keptWays q_keptPoints q_nextWas q_nextWays q_nowWas q_nowWays q_to cI vthrown vpoints vplanes vaxes vkept o18 o19 o20 cpx cpy cpz cplane caxis cwas cways ckeptWas ckeptWays ckeptPoints a16 a23 cnowWas cnowWays cto) := by rw [ea23]; exact hD
          exact ofX _ _ _ _ _ (K102  x3 o18 o19 o20 a16 a23 _ _ _ hf hP hD hS (lv_sub hl [1, 2, 3, 4] rfl))
        · have hf := oIf_f hf c13
          refine lv_goto (tgt := 102) hx hb d_M_turnOnce_68 (by decide) ?_
          exact ofX _ _ _ _ _ (K102  x3 vax vay vaz cnextWas cnextWays _ _ _ hf hP hD hS (lv_sub hl [1, 2, 3, 4] rfl))
  have K2 : ∀ (x1 : Int32) (x2 : Int32) (vax : Int32) (vay : Int32) (vaz : Int32) (cwas : Nat → Int32) (cways : Nat → Int32) (n : Nat) (x3 : Int32) (cnextWas : Nat → Int32) (cnextWays : Nat → Int32) (H : Heap) (locs : List Loc) (ls : Array Slot), oLoop3 (f_M_turnOnce_L2  vpoints caxis cto x1 x2 vax vay vaz cwas cways) n x3 cnextWas cnextWays = some (o_vax, o_vay, o_vaz, o_cwas, o_cways, o_cnextWas, o_cnextWays) → va_P (dC, dI) vwCl (w_M qM q_px q_py q_pz q_plane q_axis q_was q_ways q_keptWas q_keptWays q_keptPoints q_nextWas q_nextWays q_nowWas q_nowWays q_to cI vthrown vpoints vplanes vaxes vkept vax vay vaz cpx cpy cpz cplane caxis cwas cways ckeptWas ckeptWays ckeptPoints cnextWas cnextWays cnowWas cnowWays cto) H → va_D A (w_M qM q_px q_py q_pz q_plane q_axis q_was q_ways q_keptWas q_keptWays q_keptPoints q_nextWas q_nextWays q_nowWas q_nowWays q_to cI vthrown vpoints vplanes vaxes vkept vax vay vaz cpx cpy cpz cplane caxis cwas cways ckeptWas ckeptWays ckeptPoints cnextWas cnextWays cnowWas cnowWays cto) → va_S A s.heap H locs → lv_has ls 5 [(0, .ref qM), (1, .int x1), (2, .int x2), (3, .int x3)] → Wx H locs 0 0 (F0 m 2 ls []) := by
    intro x1 x2 vax vay vaz cwas cways n
    induction n with
    | zero => intro x3 cnextWas cnextWays H locs ls hf; exact (oLoop3_0 hf).elim
    | succ n ih2 =>
      obtain ⟨rec2, hrec2⟩ : ∃ z, z = oLoop3 (f_M_turnOnce_L2  vpoints caxis cto x1 x2 vax vay vaz cwas cways) n := ⟨_, rfl⟩
      rw [← hrec2] at ih2
      intro x3 cnextWas cnextWays H locs ls hf hP hD hS hl
      refine toX _ _ _ _ _ ?_
      have hf := oLoop3_s hf
      rw [← hrec2] at hf
      unfold f_M_turnOnce_L2 at hf
      refine lv_iload_n hx hb d_M_turnOnce_2 rfl (lv_at hl 3 rfl) ?_
      refine lv_aload_n hx hb d_M_turnOnce_3 rfl (lv_at hl 0 rfl) ?_
      refine va_get (D := (dC, dI)) (ci := 3) (v := .int vpoints) (C := R_M) (T := T_M) (N := 23) hx hb ht in_M hown hK hP 0 rfl rfl 1 (by decide) (ht _ m_347) (fun _ h9 => h9) rfl d_M_turnOnce_4 ?_
      refine lv_icmp_ge (tgt := 40) hx hb d_M_turnOnce_7 (by decide) (fun c24 => ?_) (fun c24 => ?_)
      · have hf := oIf_t hf c24
        refine lv_iconst (v := 0) hx hb d_M_turnOnce_40 (by decide) ?_
        refine lv_istore_n (lv' := [(3, .int 0), (0, .ref qM), (1, .int x1), (2, .int x2)]) hx hb d_M_turnOnce_41 rfl hl (by decide) rfl (fun ls hl => ?_)
        exact ofX _ _ _ _ _ (K42 x1 x2 cwas cways _ 0 vax vay vaz cnextWas cnextWays _ _ _ hf hP hD hS (lv_sub hl [1, 2, 3, 0] rfl))
      · have hf := oIf_f hf c24
        refine lv_aload_n hx hb d_M_turnOnce_10 rfl (lv_at hl 0 rfl) ?_
        refine va_get (D := (dC, dI)) (ci := 3) (v := .ref q_nextWas) (C := R_M) (T := T_M) (N := 23) hx hb ht in_M hown hK hP 0 rfl rfl 18 (by decide) (ht _ m_364) (fun _ h9 => h9) rfl d_M_turnOnce_11 ?_
        refine lv_iload_n hx hb d_M_turnOnce_14 rfl (lv_at hl 3 rfl) ?_
        refine lv_aload_n hx hb d_M_turnOnce_15 rfl (lv_at hl 0 rfl) ?_
        refine va_get (D := (dC, dI)) (ci := 3) (v := .ref q_was) (C := R_M) (T := T_M) (N := 23) hx hb ht in_M hown hK hP 0 rfl rfl 9 (by decide) (ht _ m_355) (fun _ h9 => h9) rfl d_M_turnOnce_16 ?_
        refine lv_iload_n hx hb d_M_turnOnce_19 rfl (lv_at hl 3 rfl) ?_
        obtain ⟨hi25, hf⟩ := oIn_some hf
        refine va_iald hx hb hK hP 6 0 rfl rfl hi25 d_M_turnOnce_20 ?_
        obtain ⟨hi26, hf⟩ := oIn_some hf
        refine va_iast hx hb hK hP hD hS 11 0 rfl rfl hi26 d_M_turnOnce_21 (fun H locs hP hD hS => ?_)
        obtain ⟨a27, ea27, hf⟩ := oLet_ex hf
        have hP : va_P (dC, dI) vwCl (w_M qM q_px q_py q_pz q_plane q_axis q_was q_ways q_keptWas q_keptWays q_keptPoints q_nextWas q_nextWays q_nowWas q_nowWays q_to cI vthrown vpoints vplanes vaxes vkept vax vay vaz cpx cpy cpz cplane caxis cwas cways ckeptWas ckeptWays ckeptPoints a27 cnextWays cnowWas cnowWays cto) H := by rw [ea27]; exact hP
        have hD : va_D A (w_M qM q_px q_py q_pz q_plane q_axis q_was q_ways q_keptWas q_keptWays q_keptPoints q_nextWas q_nextWays q_nowWas q_nowWays q_to cI vthrown vpoints vplanes vaxes vkept vax vay vaz cpx cpy cpz cplane caxis cwas cways ckeptWas ckeptWays ckeptPoints a27 cnextWays cnowWas cnowWays cto) := by rw [ea27]; exact hD
        refine lv_aload_n hx hb d_M_turnOnce_22 rfl (lv_at hl 0 rfl) ?_
        refine va_get (D := (dC, dI)) (ci := 3) (v := .ref q_nextWays) (C := R_M) (T := T_M) (N := 23) hx hb ht in_M hown hK hP 0 rfl rfl 19 (by decide) (ht _ m_365) (fun _ h9 => h9) rfl d_M_turnOnce_23 ?_
        refine lv_iload_n hx hb d_M_turnOnce_26 rfl (lv_at hl 3 rfl) ?_
        refine lv_aload_n hx hb d_M_turnOnce_27 rfl (lv_at hl 0 rfl) ?_
        refine va_get (D := (dC, dI)) (ci := 3) (v := .ref q_ways) (C := R_M) (T := T_M) (N := 23) hx hb ht in_M hown hK hP 0 rfl rfl 10 (by decide) (ht _ m_356) (fun _ h9 => h9) rfl d_M_turnOnce_28 ?_
        refine lv_iload_n hx hb d_M_turnOnce_31 rfl (lv_at hl 3 rfl) ?_
        obtain ⟨hi28, hf⟩ := oIn_some hf
        refine va_iald hx hb hK hP 7 0 rfl rfl hi28 d_M_turnOnce_32 ?_
        obtain ⟨hi29, hf⟩ := oIn_some hf
        refine va_iast hx hb hK hP hD hS 12 0 rfl rfl hi29 d_M_turnOnce_33 (fun H locs hP hD hS => ?_)
        obtain ⟨a30, ea30, hf⟩ := oLet_ex hf
        have hP : va_P (dC, dI) vwCl (w_M qM q_px q_py q_pz q_plane q_axis q_was q_ways q_keptWas q_keptWays q_keptPoints q_nextWas q_nextWays q_nowWas q_nowWays q_to cI vthrown vpoints vplanes vaxes vkept vax vay vaz cpx cpy cpz cplane caxis cwas cways ckeptWas ckeptWays ckeptPoints a27 a30 cnowWas cnowWays cto) H := by rw [ea30]; exact hP
        have hD : va_D A (w_M qM q_px q_py q_pz q_plane q_axis q_was q_ways q_keptWas q_keptWays q_keptPoints q_nextWas q_nextWays q_nowWas q_nowWays q_to cI vthrown vpoints vplanes vaxes vkept vax vay vaz cpx cpy cpz cplane caxis cwas cways ckeptWas ckeptWays ckeptPoints a27 a30 cnowWas cnowWays cto) := by rw [ea30]; exact hD
        obtain ⟨v31, ev31, hf⟩ := oLet_ex hf
        refine lv_iinc (v := v31) (lv' := [(3, .int v31), (0, .ref qM), (1, .int x1), (2, .int x2)]) hx hb d_M_turnOnce_34 hl (k := 3) rfl (by rw [ev31]; rfl) (by decide) rfl (fun ls hl => ?_)
        refine lv_goto (tgt := 2) hx hb d_M_turnOnce_37 (by decide) ?_
        exact ofX _ _ _ _ _ (ih2 v31 a27 a30 _ _ _ hf hP hD hS (lv_sub hl [1, 2, 3, 0] rfl))
  refine toX _ _ _ _ _ ?_
  unfold f_M_turnOnce at hf
  obtain ⟨H, hH⟩ : ∃ z, z = s.heap := ⟨_, rfl⟩
  have hS : va_S A s.heap H [] := by rw [hH]; exact hS
  have hP : va_P (dC, dI) vwCl (w_M qM q_px q_py q_pz q_plane q_axis q_was q_ways q_keptWas q_keptWays q_keptPoints q_nextWas q_nextWays q_nowWas q_nowWays q_to cI vthrown vpoints vplanes vaxes vkept vax vay vaz cpx cpy cpz cplane caxis cwas cways ckeptWas ckeptWays ckeptPoints cnextWas cnextWays cnowWas cnowWays cto) H := by rw [hH]; exact hP
  refine w_heap hH ?_
  refine lv_iconst (v := 0) hx hb d_M_turnOnce_0 (by decide) ?_
  refine lv_istore_n (lv' := [(3, .int 0), (0, .ref qM), (1, .int x1), (2, .int x2)]) hx hb d_M_turnOnce_1 rfl hl (by decide) rfl (fun ls hl => ?_)
  exact ofX _ _ _ _ _ (K2 x1 x2 vax vay vaz cwas cways _ 0 cnextWas cnextWays _ _ _ hf hP hD hS (lv_sub hl [1, 2, 3, 0] rfl))
set_option maxHeartbeats 4000000 in
set_option maxRecDepth 100000 in
theorem c_M_isThere (l : Launch) (dC : Nat → ClassId) (dI : Nat → Nat → Nat) (qM q_px q_py q_pz q_plane q_axis q_was q_ways q_keptWas q_keptWays q_keptPoints q_nextWas q_nextWays q_nowWas q_nowWays q_to : Nat) (cI cJ cQ : ClassId) (sz : Nat) (vthrown : Int32) (vpoints : Int32) (vplanes : Int32) (vaxes : Int32) (vkept : Int32) (vax : Int32) (vay : Int32) (vaz : Int32) (cpx : Nat → Int32) (cpy : Nat → Int32) (cpz : Nat → Int32) (cplane : Nat → Int32) (caxis : Nat → Int32) (cwas : Nat → Int32) (cways : Nat → Int32) (ckeptWas : Nat → Int32) (ckeptWays : Nat → Int32) (ckeptPoints : Nat → Int32) (cnextWas : Nat → Int32) (cnextWays : Nat → Int32) (cnowWas : Nat → Int32) (cnowWays : Nat → Int32) (cto : Nat → Int32) (x1 : Int32) (x2 : Int32) (r_ : Int32) (o_vax : Int32) (o_vay : Int32) (o_vaz : Int32) (hf : f_M_isThere vplanes vax vay vaz cplane caxis x1 x2 = some (r_, o_vax, o_vay, o_vaz)) : Met l y_M_isThere w_M_isThere ({ frames := 2, cells := 0, slots := 0, locals := 55 }) (va_Pc [.ref qM, .int x1, .int x2] (fun U => U.heap.size = sz ∧ va_P (dC, dI) vwCl (w_M qM q_px q_py q_pz q_plane q_axis q_was q_ways q_keptWas q_keptWays q_keptPoints q_nextWas q_nextWays q_nowWas q_nowWays q_to cI vthrown vpoints vplanes vaxes vkept vax vay vaz cpx cpy cpz cplane caxis cwas cways ckeptWas ckeptWays ckeptPoints cnextWas cnextWays cnowWas cnowWays cto) U.heap ∧ va_K (dC, dI) vwCl [(cI, .int), (cJ, .long), (cQ, .object "CutBodies$Contents")] U ∧ nestZ U ∧ va_D (fun _ => True) (w_M qM q_px q_py q_pz q_plane q_axis q_was q_ways q_keptWas q_keptWays q_keptPoints q_nextWas q_nextWays q_nowWas q_nowWays q_to cI vthrown vpoints vplanes vaxes vkept vax vay vaz cpx cpy cpz cplane caxis cwas cways ckeptWas ckeptWays ckeptPoints cnextWas cnextWays cnowWas cnowWays cto))) (va_Qi (fun (r9 : Int32) (_ : Unit) => r9 = r_) (fun _ t => va_P (dC, dI) vwCl (w_M qM q_px q_py q_pz q_plane q_axis q_was q_ways q_keptWas q_keptWays q_keptPoints q_nextWas q_nextWays q_nowWas q_nowWays q_to cI vthrown vpoints vplanes vaxes vkept o_vax o_vay o_vaz cpx cpy cpz cplane caxis cwas cways ckeptWas ckeptWays ckeptPoints cnextWas cnextWays cnowWas cnowWays cto) t.heap ∧ va_D (va_A (w_M qM q_px q_py q_pz q_plane q_axis q_was q_ways q_keptWas q_keptWays q_keptPoints q_nextWas q_nextWays q_nowWas q_nowWays q_to cI vthrown vpoints vplanes vaxes vkept vax vay vaz cpx cpy cpz cplane caxis cwas cways ckeptWas ckeptWays ckeptPoints cnextWas cnextWays cnowWas cnowWays cto) sz) (w_M qM q_px q_py q_pz q_plane q_axis q_was q_ways q_keptWas q_keptWays q_keptPoints q_nextWas q_nextWays q_nowWas q_nowWays q_to cI vthrown vpoints vplanes vaxes vkept o_vax o_vay o_vaz cpx cpy cpz cplane caxis cwas cways ckeptWas ckeptWays ckeptPoints cnextWas cnextWays cnowWas cnowWays cto)) (va_A (w_M qM q_px q_py q_pz q_plane q_axis q_was q_ways q_keptWas q_keptWays q_keptPoints q_nextWas q_nextWays q_nowWas q_nowWays q_to cI vthrown vpoints vplanes vaxes vkept vax vay vaz cpx cpy cpz cplane caxis cwas cways ckeptWas ckeptWays ckeptPoints cnextWas cnextWays cnowWas cnowWays cto) sz)) 0 0 (va_A (w_M qM q_px q_py q_pz q_plane q_axis q_was q_ways q_keptWas q_keptWays q_keptPoints q_nextWas q_nextWays q_nowWas q_nowWays q_to cI vthrown vpoints vplanes vaxes vkept vax vay vaz cpx cpy cpz cplane caxis cwas cways ckeptWas ckeptWays ckeptPoints cnextWas cnextWays cnowWas cnowWays cto) sz) := by
  refine Met.ofW (cc := b_M_isThere) (maxL := 9) (ret := (some .boolean)) (by decide) rfl ?_
  intro p e s m args below meth c s₁ B hml hv
  obtain ⟨rfl, hsz, hP, hK, hZ, hD0⟩ := hv
  have hx := B.exec
  have hb := B.bytes
  have hr := B.returns
  have hts := atoms_spec (ws := w_M_isThere) B.pre
  have ht : ∀ w ∈ wAll, w.before _ s = true := fun w h => hts w (List.mem_cons_of_mem _ h)
  have hown : s.vm.findClass R_M = some m.cls := findClass_of_methodNamed B.named
  have hlocks := B.notSynchronized
  subst hsz
  have hD := hD0.self (sz := s.heap.size)
  generalize hAe : va_A (w_M qM q_px q_py q_pz q_plane q_axis q_was q_ways q_keptWas q_keptWays q_keptPoints q_nextWas q_nextWays q_nowWas q_nowWays q_to cI vthrown vpoints vplanes vaxes vkept vax vay vaz cpx cpy cpz cplane caxis cwas cways ckeptWas ckeptWays ckeptPoints cnextWas cnextWays cnowWas cnowWays cto) s.heap.size = A at hD ⊢
  have hA : ∀ q : Nat, s.heap.size ≤ q → A q := fun q h => by rw [← hAe]; exact Or.inr h
  have hS : va_S A s.heap s.heap [] := va_S.rf
  have hP : va_P (dC, dI) vwCl (w_M qM q_px q_py q_pz q_plane q_axis q_was q_ways q_keptWas q_keptWays q_keptPoints q_nextWas q_nextWays q_nowWas q_nowWays q_to cI vthrown vpoints vplanes vaxes vkept vax vay vaz cpx cpy cpz cplane caxis cwas cways ckeptWas ckeptWays ckeptPoints cnextWas cnextWays cnowWas cnowWays cto) s.heap := hP
  have hl := lv_entry ([.ref qM, .int x1, .int x2]) (n := 9) (Nat.le_of_ble_eq_true rfl)
  rw [lg_entry_eq]
  generalize (lg_sl ([.ref qM, .int x1, .int x2]) ++ List.replicate (9 - (lg_sl ([.ref qM, .int x1, .int x2])).length) Slot.unset).toArray = ls at hl ⊢
  have hl : lv_has ls 9 [(0, .ref qM), (1, .int x1), (2, .int x2)] := hl
  refine w_abs (fun Wx toX ofX => ?_)
  have K47 : ∀ (x3 : Int32) (vax : Int32) (vay : Int32) (vaz : Int32) (n : Nat) (x4 : Int32) (H : Heap) (locs : List Loc) (ls : Array Slot), oLoop1 (f_M_isThere_L47  vplanes cplane caxis x3 vax vay vaz) n x4 = some (r_, o_vax, o_vay, o_vaz) → va_P (dC, dI) vwCl (w_M qM q_px q_py q_pz q_plane q_axis q_was q_ways q_keptWas q_keptWays q_keptPoints q_nextWas q_nextWays q_nowWas q_nowWays q_to cI vthrown vpoints vplanes vaxes vkept vax vay vaz cpx cpy cpz cplane caxis cwas cways ckeptWas ckeptWays ckeptPoints cnextWas cnextWays cnowWas cnowWays cto) H → va_D A (w_M qM q_px q_py q_pz q_plane q_axis q_was q_ways q_keptWas q_keptWays q_keptPoints q_nextWas q_nextWays q_nowWas q_nowWays q_to cI vthrown vpoints vplanes vaxes vkept vax vay vaz cpx cpy cpz cplane caxis cwas cways ckeptWas ckeptWays ckeptPoints cnextWas cnextWays cnowWas cnowWays cto) → va_S A s.heap H locs → lv_has ls 9 [(0, .ref qM), (3, .int x3), (4, .int x4)] → Wx H locs 0 0 (F0 m 47 ls []) := by
    intro x3 vax vay vaz n
    induction n with
    | zero => intro x4 H locs ls hf; exact (oLoop1_0 hf).elim
    | succ n ih47 =>
      obtain ⟨rec47, hrec47⟩ : ∃ z, z = oLoop1 (f_M_isThere_L47  vplanes cplane caxis x3 vax vay vaz) n := ⟨_, rfl⟩
      rw [← hrec47] at ih47
      have K207 : ∀ (x4 : Int32) (H : Heap) (locs : List Loc) (ls : Array Slot), f_M_isThere_J207 rec47 vplanes cplane caxis x3 vax vay vaz x4 = some (r_, o_vax, o_vay, o_vaz) → va_P (dC, dI) vwCl (w_M qM q_px q_py q_pz q_plane q_axis q_was q_ways q_keptWas q_keptWays q_keptPoints q_nextWas q_nextWays q_nowWas q_nowWays q_to cI vthrown vpoints vplanes vaxes vkept vax vay vaz cpx cpy cpz cplane caxis cwas cways ckeptWas ckeptWays ckeptPoints cnextWas cnextWays cnowWas cnowWays cto) H → va_D A (w_M qM q_px q_py q_pz q_plane q_axis q_was q_ways q_keptWas q_keptWays q_keptPoints q_nextWas q_nextWays q_nowWas q_nowWays q_to cI vthrown vpoints vplanes vaxes vkept vax vay vaz cpx cpy cpz cplane caxis cwas cways ckeptWas ckeptWays ckeptPoints cnextWas cnextWays cnowWas cnowWays cto) → va_S A s.heap H locs → lv_has ls 9 [(0, .ref qM), (3, .int x3), (4, .int x4)] → Wx H locs 0 0 (F0 m 207 ls []) := by
        intro x4 H locs ls hf hP hD hS hl
        refine toX _ _ _ _ _ ?_
        unfold f_M_isThere_J207 at hf
        obtain ⟨v1, ev1, hf⟩ := oLet_ex hf
        refine lv_iinc (v := v1) (lv' := [(4, .int v1), (0, .ref qM), (3, .int x3)]) hx hb d_M_isThere_207 hl (k := 2) rfl (by rw [ev1]; rfl) (by decide) rfl (fun ls hl => ?_)
        refine lv_goto (tgt := 47) hx hb d_M_isThere_210 (by decide) ?_
        exact ofX _ _ _ _ _ (ih47 v1 _ _ _ hf hP hD hS (lv_sub hl [1, 2, 0] rfl))
      intro x4 H locs ls hf hP hD hS hl
      refine toX _ _ _ _ _ ?_
      have hf := oLoop1_s hf
      rw [← hrec47] at hf
      unfold f_M_isThere_L47 at hf
      refine lv_iload hx hb d_M_isThere_47 (lv_at hl 2 rfl) ?_
      refine lv_aload_n hx hb d_M_isThere_49 rfl (lv_at hl 0 rfl) ?_
      refine va_get (D := (dC, dI)) (ci := 3) (v := .int vplanes) (C := R_M) (T := T_M) (N := 23) hx hb ht in_M hown hK hP 0 rfl rfl 2 (by decide) (ht _ m_348) (fun _ h9 => h9) rfl d_M_isThere_50 ?_
      refine lv_icmp_ge (tgt := 213) hx hb d_M_isThere_53 (by decide) (fun c2 => ?_) (fun c2 => ?_)
      · have hf := oIf_t hf c2
        refine lv_iconst (v := 0) hx hb d_M_isThere_213 (by decide) ?_
        cases hf
        exact W.zret (ty := .boolean) hx hb hr rfl (fun t ht hW => ⟨⟨_, (), rfl, rfl, by rw [ht]; exact hP, hD⟩, hS.F ht⟩) hS.2.2 d_M_isThere_214
      · have hf := oIf_f hf c2
        refine lv_aload_n hx hb d_M_isThere_56 rfl (lv_at hl 0 rfl) ?_
        refine va_get (D := (dC, dI)) (ci := 3) (v := .ref q_plane) (C := R_M) (T := T_M) (N := 23) hx hb ht in_M hown hK hP 0 rfl rfl 7 (by decide) (ht _ m_353) (fun _ h9 => h9) rfl d_M_isThere_57 ?_
        refine lv_iconst (v := 4) hx hb d_M_isThere_60 (by decide) ?_
        refine lv_iload hx hb d_M_isThere_61 (lv_at hl 2 rfl) ?_
        refine lv_imul hx hb d_M_isThere_63 ?_
        obtain ⟨hi3, hf⟩ := oIn_some hf
        refine va_iald hx hb hK hP 4 0 rfl rfl hi3 d_M_isThere_64 ?_
        refine lv_topi (fun v4 ev4 => ?_)
        have hf := oLet_some hf ev4
        refine lv_istore (lv' := [(5, .int v4), (0, .ref qM), (3, .int x3), (4, .int x4)]) hx hb d_M_isThere_65 hl (by decide) rfl (fun ls hl => ?_)
        refine lv_aload_n hx hb d_M_isThere_67 rfl (lv_at hl 1 rfl) ?_
        refine va_get (D := (dC, dI)) (ci := 3) (v := .ref q_plane) (C := R_M) (T := T_M) (N := 23) hx hb ht in_M hown hK hP 0 rfl rfl 7 (by decide) (ht _ m_353) (fun _ h9 => h9) rfl d_M_isThere_68 ?_
        refine lv_iconst (v := 4) hx hb d_M_isThere_71 (by decide) ?_
        refine lv_iload hx hb d_M_isThere_72 (lv_at hl 3 rfl) ?_
        refine lv_imul hx hb d_M_isThere_74 ?_
        refine lv_iconst (v := 1) hx hb d_M_isThere_75 (by decide) ?_
        refine lv_iadd hx hb d_M_isThere_76 ?_
        obtain ⟨hi5, hf⟩ := oIn_some hf
        refine va_iald hx hb hK hP 4 0 rfl rfl hi5 d_M_isThere_77 ?_
        refine lv_topi (fun v6 ev6 => ?_)
        have hf := oLet_some hf ev6
        refine lv_istore (lv' := [(6, .int v6), (5, .int v4), (0, .ref qM), (3, .int x3), (4, .int x4)]) hx hb d_M_isThere_78 hl (by decide) rfl (fun ls hl => ?_)
        refine lv_aload_n hx hb d_M_isThere_80 rfl (lv_at hl 2 rfl) ?_
        refine va_get (D := (dC, dI)) (ci := 3) (v := .ref q_plane) (C := R_M) (T := T_M) (N := 23) hx hb ht in_M hown hK hP 0 rfl rfl 7 (by decide) (ht _ m_353) (fun _ h9 => h9) rfl d_M_isThere_81 ?_
        refine lv_iconst (v := 4) hx hb d_M_isThere_84 (by decide) ?_
        refine lv_iload hx hb d_M_isThere_85 (lv_at hl 4 rfl) ?_
        refine lv_imul hx hb d_M_isThere_87 ?_
        refine lv_iconst (v := 2) hx hb d_M_isThere_88 (by decide) ?_
        refine lv_iadd hx hb d_M_isThere_89 ?_
        obtain ⟨hi7, hf⟩ := oIn_some hf
        refine va_iald hx hb hK hP 4 0 rfl rfl hi7 d_M_isThere_90 ?_
        refine lv_topi (fun v8 ev8 => ?_)
        have hf := oLet_some hf ev8
        refine lv_istore (lv' := [(7, .int v8), (6, .int v6), (5, .int v4), (0, .ref qM), (3, .int x3), (4, .int x4)]) hx hb d_M_isThere_91 hl (by decide) rfl (fun ls hl => ?_)
        refine lv_aload_n hx hb d_M_isThere_93 rfl (lv_at hl 3 rfl) ?_
        refine va_get (D := (dC, dI)) (ci := 3) (v := .ref q_plane) (C := R_M) (T := T_M) (N := 23) hx hb ht in_M hown hK hP 0 rfl rfl 7 (by decide) (ht _ m_353) (fun _ h9 => h9) rfl d_M_isThere_94 ?_
        refine lv_iconst (v := 4) hx hb d_M_isThere_97 (by decide) ?_
        refine lv_iload hx hb d_M_isThere_98 (lv_at hl 5 rfl) ?_
        refine lv_imul hx hb d_M_isThere_100 ?_
        refine lv_iconst (v := 3) hx hb d_M_isThere_101 (by decide) ?_
        refine lv_iadd hx hb d_M_isThere_102 ?_
        obtain ⟨hi9, hf⟩ := oIn_some hf
        refine va_iald hx hb hK hP 4 0 rfl rfl hi9 d_M_isThere_103 ?_
        refine lv_topi (fun v10 ev10 => ?_)
        have hf := oLet_some hf ev10
        refine lv_istore (lv' := [(8, .int v10), (7, .int v8), (6, .int v6), (5, .int v4), (0, .ref qM), (3, .int x3), (4, .int x4)]) hx hb d_M_isThere_104 hl (by decide) rfl (fun ls hl => ?_)
        refine lv_aload_n hx hb d_M_isThere_106 rfl (lv_at hl 4 rfl) ?_
        refine va_get (D := (dC, dI)) (ci := 3) (v := .int vax) (C := R_M) (T := T_M) (N := 23) hx hb ht in_M hown hK hP 0 rfl rfl 15 (by decide) (ht _ m_361) (fun _ h9 => h9) rfl d_M_isThere_107 ?_
        refine lv_aload_n hx hb d_M_isThere_110 rfl (lv_at hl 4 rfl) ?_
        refine va_get (D := (dC, dI)) (ci := 3) (v := .int vay) (C := R_M) (T := T_M) (N := 23) hx hb ht in_M hown hK hP 0 rfl rfl 16 (by decide) (ht _ m_362) (fun _ h9 => h9) rfl d_M_isThere_111 ?_
        refine lv_iload hx hb d_M_isThere_114 (lv_at hl 3 rfl) ?_
        refine lv_iload hx hb d_M_isThere_116 (lv_at hl 2 rfl) ?_
        obtain ⟨r11z, hfc, hf⟩ := oCall1_some hf
        have hPc := hP.sub (ws' := []) [] rfl
        refine vp_callSi (va_runS (As := [.int vax, .int vay, .int v4, .int v6]) (rest := []) ⟨hx, hb, hml, hown, ht⟩ (c_M_isCross l dC dI cI cJ cQ vax vay v4 v6 r11z hfc) (va_cwS 4 ht (gS m_566 m_567 m_31 m_568) rfl rfl rfl (by decide +kernel) ⟨Nat.le_of_ble_eq_true rfl, Nat.le_of_ble_eq_true rfl⟩) (preR hPc hK hZ) rfl rfl hl.1 rfl (lv_room (Nat.le_of_ble_eq_true rfl)) d_M_isThere_118 ⟨Nat.le_of_ble_eq_true rfl, Nat.le_of_ble_eq_true rfl⟩).run (fun r11 hw => ?_)
        subst hw
        clear hPc hfc
        refine lv_if_eq (tgt := 207) hx hb d_M_isThere_121 (by decide) (fun c12 => ?_) (fun c12 => ?_)
        · have hf := oIf_t hf c12
          exact ofX _ _ _ _ _ (K207  x4 _ _ _ hf hP hD hS (lv_sub hl [4, 5, 6] rfl))
        · have hf := oIf_f hf c12
          refine lv_aload_n hx hb d_M_isThere_124 rfl (lv_at hl 4 rfl) ?_
          refine va_get (D := (dC, dI)) (ci := 3) (v := .int vax) (C := R_M) (T := T_M) (N := 23) hx hb ht in_M hown hK hP 0 rfl rfl 15 (by decide) (ht _ m_361) (fun _ h9 => h9) rfl d_M_isThere_125 ?_
          refine lv_aload_n hx hb d_M_isThere_128 rfl (lv_at hl 4 rfl) ?_
          refine va_get (D := (dC, dI)) (ci := 3) (v := .int vaz) (C := R_M) (T := T_M) (N := 23) hx hb ht in_M hown hK hP 0 rfl rfl 17 (by decide) (ht _ m_363) (fun _ h9 => h9) rfl d_M_isThere_129 ?_
          refine lv_iload hx hb d_M_isThere_132 (lv_at hl 3 rfl) ?_
          refine lv_iload hx hb d_M_isThere_134 (lv_at hl 1 rfl) ?_
          obtain ⟨r13z, hfc, hf⟩ := oCall1_some hf
          have hPc := hP.sub (ws' := []) [] rfl
          refine vp_callSi (va_runS (As := [.int vax, .int vaz, .int v4, .int v8]) (rest := []) ⟨hx, hb, hml, hown, ht⟩ (c_M_isCross l dC dI cI cJ cQ vax vaz v4 v8 r13z hfc) (va_cwS 4 ht (gS m_566 m_567 m_31 m_568) rfl rfl rfl (by decide +kernel) ⟨Nat.le_of_ble_eq_true rfl, Nat.le_of_ble_eq_true rfl⟩) (preR hPc hK hZ) rfl rfl hl.1 rfl (lv_room (Nat.le_of_ble_eq_true rfl)) d_M_isThere_136 ⟨Nat.le_of_ble_eq_true rfl, Nat.le_of_ble_eq_true rfl⟩).run (fun r13 hw => ?_)
          subst hw
          clear hPc hfc
          refine lv_if_eq (tgt := 207) hx hb d_M_isThere_139 (by decide) (fun c14 => ?_) (fun c14 => ?_)
          · have hf := oIf_t hf c14
            exact ofX _ _ _ _ _ (K207  x4 _ _ _ hf hP hD hS (lv_sub hl [4, 5, 6] rfl))
          · have hf := oIf_f hf c14
            refine lv_aload_n hx hb d_M_isThere_142 rfl (lv_at hl 4 rfl) ?_
            refine va_get (D := (dC, dI)) (ci := 3) (v := .int vay) (C := R_M) (T := T_M) (N := 23) hx hb ht in_M hown hK hP 0 rfl rfl 16 (by decide) (ht _ m_362) (fun _ h9 => h9) rfl d_M_isThere_143 ?_
            refine lv_aload_n hx hb d_M_isThere_146 rfl (lv_at hl 4 rfl) ?_
            refine va_get (D := (dC, dI)) (ci := 3) (v := .int vaz) (C := R_M) (T := T_M) (N := 23) hx hb ht in_M hown hK hP 0 rfl rfl 17 (by decide) (ht _ m_363) (fun _ h9 => h9) rfl d_M_isThere_147 ?_
            refine lv_iload hx hb d_M_isThere_150 (lv_at hl 2 rfl) ?_
            refine lv_iload hx hb d_M_isThere_152 (lv_at hl 1 rfl) ?_
            obtain ⟨r15z, hfc, hf⟩ := oCall1_some hf
            have hPc := hP.sub (ws' := []) [] rfl
            refine vp_callSi (va_runS (As := [.int vay, .int vaz, .int v6, .int v8]) (rest := []) ⟨hx, hb, hml, hown, ht⟩ (c_M_isCross l dC dI cI cJ cQ vay vaz v6 v8 r15z hfc) (va_cwS 4 ht (gS m_566 m_567 m_31 m_568) rfl rfl rfl (by decide +kernel) ⟨Nat.le_of_ble_eq_true rfl, Nat.le_of_ble_eq_true rfl⟩) (preR hPc hK hZ) rfl rfl hl.1 rfl (lv_room (Nat.le_of_ble_eq_true rfl)) d_M_isThere_154 ⟨Nat.le_of_ble_eq_true rfl, Nat.le_of_ble_eq_true rfl⟩).run (fun r15 hw => ?_)
            subst hw
            clear hPc hfc
            refine lv_if_eq (tgt := 207) hx hb d_M_isThere_157 (by decide) (fun c16 => ?_) (fun c16 => ?_)
            · have hf := oIf_t hf c16
              exact ofX _ _ _ _ _ (K207  x4 _ _ _ hf hP hD hS (lv_sub hl [4, 5, 6] rfl))
            · have hf := oIf_f hf c16
              refine lv_aload_n hx hb d_M_isThere_160 rfl (lv_at hl 4 rfl) ?_
              refine va_get (D := (dC, dI)) (ci := 3) (v := .int vax) (C := R_M) (T := T_M) (N := 23) hx hb ht in_M hown hK hP 0 rfl rfl 15 (by decide) (ht _ m_361) (fun _ h9 => h9) rfl d_M_isThere_161 ?_
              refine lv_iload_n hx hb d_M_isThere_164 rfl (lv_at hl 5 rfl) ?_
              refine lv_iload hx hb d_M_isThere_165 (lv_at hl 3 rfl) ?_
              refine lv_iload hx hb d_M_isThere_167 (lv_at hl 0 rfl) ?_
              obtain ⟨r17z, hfc, hf⟩ := oCall1_some hf
              have hPc := hP.sub (ws' := []) [] rfl
              refine vp_callSi (va_runS (As := [.int vax, .int x3, .int v4, .int v10]) (rest := []) ⟨hx, hb, hml, hown, ht⟩ (c_M_isCross l dC dI cI cJ cQ vax x3 v4 v10 r17z hfc) (va_cwS 4 ht (gS m_566 m_567 m_31 m_568) rfl rfl rfl (by decide +kernel) ⟨Nat.le_of_ble_eq_true rfl, Nat.le_of_ble_eq_true rfl⟩) (preR hPc hK hZ) rfl rfl hl.1 rfl (lv_room (Nat.le_of_ble_eq_true rfl)) d_M_isThere_169 ⟨Nat.le_of_ble_eq_true rfl, Nat.le_of_ble_eq_true rfl⟩).run (fun r17 hw => ?_)
              subst hw
              clear hPc hfc
              refine lv_if_eq (tgt := 207) hx hb d_M_isThere_172 (by decide) (fun c18 => ?_) (fun c18 => ?_)
              · have hf := oIf_t hf c18
                exact ofX _ _ _ _ _ (K207  x4 _ _ _ hf hP hD hS (lv_sub hl [4, 5, 6] rfl))
              · have hf := oIf_f hf c18
                refine lv_aload_n hx hb d_M_isThere_175 rfl (lv_at hl 4 rfl) ?_
                refine va_get (D := (dC, dI)) (ci := 3) (v := .int vay) (C := R_M) (T := T_M) (N := 23) hx hb ht in_M hown hK hP 0 rfl rfl 16 (by decide) (ht _ m_362) (fun _ h9 => h9) rfl d_M_isThere_176 ?_
                refine lv_iload_n hx hb d_M_isThere_179 rfl (lv_at hl 5 rfl) ?_
                refine lv_iload hx hb d_M_isThere_180 (lv_at hl 2 rfl) ?_
                refine lv_iload hx hb d_M_isThere_182 (lv_at hl 0 rfl) ?_
                obtain ⟨r19z, hfc, hf⟩ := oCall1_some hf
                have hPc := hP.sub (ws' := []) [] rfl
                refine vp_callSi (va_runS (As := [.int vay, .int x3, .int v6, .int v10]) (rest := []) ⟨hx, hb, hml, hown, ht⟩ (c_M_isCross l dC dI cI cJ cQ vay x3 v6 v10 r19z hfc) (va_cwS 4 ht (gS m_566 m_567 m_31 m_568) rfl rfl rfl (by decide +kernel) ⟨Nat.le_of_ble_eq_true rfl, Nat.le_of_ble_eq_true rfl⟩) (preR hPc hK hZ) rfl rfl hl.1 rfl (lv_room (Nat.le_of_ble_eq_true rfl)) d_M_isThere_184 ⟨Nat.le_of_ble_eq_true rfl, Nat.le_of_ble_eq_true rfl⟩).run (fun r19 hw => ?_)
                subst hw
                clear hPc hfc
                refine lv_if_eq (tgt := 207) hx hb d_M_isThere_187 (by decide) (fun c20 => ?_) (fun c20 => ?_)
                · have hf := oIf_t hf c20
                  exact ofX _ _ _ _ _ (K207  x4 _ _ _ hf hP hD hS (lv_sub hl [4, 5, 6] rfl))
                · have hf := oIf_f hf c20
                  refine lv_aload_n hx hb d_M_isThere_190 rfl (lv_at hl 4 rfl) ?_
                  refine va_get (D := (dC, dI)) (ci := 3) (v := .int vaz) (C := R_M) (T := T_M) (N := 23) hx hb ht in_M hown hK hP 0 rfl rfl 17 (by decide) (ht _ m_363) (fun _ h9 => h9) rfl d_M_isThere_191 ?_
                  refine lv_iload_n hx hb d_M_isThere_194 rfl (lv_at hl 5 rfl) ?_
                  refine lv_iload hx hb d_M_isThere_195 (lv_at hl 1 rfl) ?_
                  refine lv_iload hx hb d_M_isThere_197 (lv_at hl 0 rfl) ?_
                  obtain ⟨r21z, hfc, hf⟩ := oCall1_some hf
                  have hPc := hP.sub (ws' := []) [] rfl
                  refine vp_callSi (va_runS (As := [.int vaz, .int x3, .int v8, .int v10]) (rest := []) ⟨hx, hb, hml, hown, ht⟩ (c_M_isCross l dC dI cI cJ cQ vaz x3 v8 v10 r21z hfc) (va_cwS 4 ht (gS m_566 m_567 m_31 m_568) rfl rfl rfl (by decide +kernel) ⟨Nat.le_of_ble_eq_true rfl, Nat.le_of_ble_eq_true rfl⟩) (preR hPc hK hZ) rfl rfl hl.1 rfl (lv_room (Nat.le_of_ble_eq_true rfl)) d_M_isThere_199 ⟨Nat.le_of_ble_eq_true rfl, Nat.le_of_ble_eq_true rfl⟩).run (fun r21 hw => ?_)
                  subst hw
                  clear hPc hfc
                  refine lv_if_eq (tgt := 207) hx hb d_M_isThere_202 (by decide) (fun c22 => ?_) (fun c22 => ?_)
                  · have hf := oIf_t hf c22
                    exact ofX _ _ _ _ _ (K207  x4 _ _ _ hf hP hD hS (lv_sub hl [4, 5, 6] rfl))
                  · have hf := oIf_f hf c22
                    refine lv_iconst (v := 1) hx hb d_M_isThere_205 (by decide) ?_
                    cases hf
                    exact W.zret (ty := .boolean) hx hb hr rfl (fun t ht hW => ⟨⟨_, (), rfl, rfl, by rw [ht]; exact hP, hD⟩, hS.F ht⟩) hS.2.2 d_M_isThere_206
  refine toX _ _ _ _ _ ?_
  unfold f_M_isThere at hf
  obtain ⟨H, hH⟩ : ∃ z, z = s.heap := ⟨_, rfl⟩
  have hS : va_S A s.heap H [] := by rw [hH]; exact hS
  have hP : va_P (dC, dI) vwCl (w_M qM q_px q_py q_pz q_plane q_axis q_was q_ways q_keptWas q_keptWays q_keptPoints q_nextWas q_nextWays q_nowWas q_nowWays q_to cI vthrown vpoints vplanes vaxes vkept vax vay vaz cpx cpy cpz cplane caxis cwas cways ckeptWas ckeptWays ckeptPoints cnextWas cnextWays cnowWas cnowWays cto) H := by rw [hH]; exact hP
  refine w_heap hH ?_
  refine lv_aload_n hx hb d_M_isThere_0 rfl (lv_at hl 0 rfl) ?_
  refine lv_iload_n hx hb d_M_isThere_1 rfl (lv_at hl 1 rfl) ?_
  refine lv_aload_n hx hb d_M_isThere_2 rfl (lv_at hl 0 rfl) ?_
  refine va_get (D := (dC, dI)) (ci := 3) (v := .ref q_plane) (C := R_M) (T := T_M) (N := 23) hx hb ht in_M hown hK hP 0 rfl rfl 7 (by decide) (ht _ m_353) (fun _ h9 => h9) rfl d_M_isThere_3 ?_
  refine lv_iconst (v := 4) hx hb d_M_isThere_6 (by decide) ?_
  refine lv_iload_n hx hb d_M_isThere_7 rfl (lv_at hl 2 rfl) ?_
  refine lv_imul hx hb d_M_isThere_8 ?_
  obtain ⟨hi23, hf⟩ := oIn_some hf
  refine va_iald hx hb hK hP 4 0 rfl rfl hi23 d_M_isThere_9 ?_
  refine lv_aload_n hx hb d_M_isThere_10 rfl (lv_at hl 0 rfl) ?_
  refine va_get (D := (dC, dI)) (ci := 3) (v := .ref q_plane) (C := R_M) (T := T_M) (N := 23) hx hb ht in_M hown hK hP 0 rfl rfl 7 (by decide) (ht _ m_353) (fun _ h9 => h9) rfl d_M_isThere_11 ?_
  refine lv_iconst (v := 4) hx hb d_M_isThere_14 (by decide) ?_
  refine lv_iload_n hx hb d_M_isThere_15 rfl (lv_at hl 2 rfl) ?_
  refine lv_imul hx hb d_M_isThere_16 ?_
  refine lv_iconst (v := 1) hx hb d_M_isThere_17 (by decide) ?_
  refine lv_iadd hx hb d_M_isThere_18 ?_
  obtain ⟨hi24, hf⟩ := oIn_some hf
  refine va_iald hx hb hK hP 4 0 rfl rfl hi24 d_M_isThere_19 ?_
  refine lv_aload_n hx hb d_M_isThere_20 rfl (lv_at hl 0 rfl) ?_
  refine va_get (D := (dC, dI)) (ci := 3) (v := .ref q_plane) (C := R_M) (T := T_M) (N := 23) hx hb ht in_M hown hK hP 0 rfl rfl 7 (by decide) (ht _ m_353) (fun _ h9 => h9) rfl d_M_isThere_21 ?_
  refine lv_iconst (v := 4) hx hb d_M_isThere_24 (by decide) ?_
  refine lv_iload_n hx hb d_M_isThere_25 rfl (lv_at hl 2 rfl) ?_
  refine lv_imul hx hb d_M_isThere_26 ?_
  refine lv_iconst (v := 2) hx hb d_M_isThere_27 (by decide) ?_
  refine lv_iadd hx hb d_M_isThere_28 ?_
  obtain ⟨hi25, hf⟩ := oIn_some hf
  refine va_iald hx hb hK hP 4 0 rfl rfl hi25 d_M_isThere_29 ?_
  obtain ⟨o26, o27, o28, hfc, hf⟩ := oCall3_some hf
  have hPc := hP.sub (ws' := (w_M qM q_px q_py q_pz q_plane q_axis q_was q_ways q_keptWas q_keptWays q_keptPoints q_nextWas q_nextWays q_nowWas q_nowWays q_to cI vthrown vpoints vplanes vaxes vkept vax vay vaz cpx cpy cpz cplane caxis cwas cways ckeptWas ckeptWays ckeptPoints cnextWas cnextWays cnowWas cnowWays cto)) [0, 1, 2, 3, 4, 5, 6, 7, 8, 9, 10, 11, 12, 13, 14, 15] rfl
  have hDc := hD.sub (ws' := (w_M qM q_px q_py q_pz q_plane q_axis q_was q_ways q_keptWas q_keptWays q_keptPoints q_nextWas q_nextWays q_nowWas q_nowWays q_to cI vthrown vpoints vplanes vaxes vkept vax vay vaz cpx cpy cpz cplane caxis cwas cways ckeptWas ckeptWays ckeptPoints cnextWas cnextWays cnowWas cnowWays cto)) [0, 1, 2, 3, 4, 5, 6, 7, 8, 9, 10, 11, 12, 13, 14, 15] (by decide) rfl
  have hFc := va_free (wc := (w_M qM q_px q_py q_pz q_plane q_axis q_was q_ways q_keptWas q_keptWays q_keptPoints q_nextWas q_nextWays q_nowWas q_nowWays q_to cI vthrown vpoints vplanes vaxes vkept vax vay vaz cpx cpy cpz cplane caxis cwas cways ckeptWas ckeptWays ckeptPoints cnextWas cnextWays cnowWas cnowWays cto)) hD hS hA [0, 1, 2, 3, 4, 5, 6, 7, 8, 9, 10, 11, 12, 13, 14, 15] rfl
  refine va_callv (va_runV (As := [.int x1, .int (cplane (4 * x2).toNatClampNeg), .int (cplane ((4 * x2) + 1).toNatClampNeg), .int (cplane ((4 * x2) + 2).toNatClampNeg)]) (rest := []) ⟨hx, hb, hml, hown, ht⟩ (c_M_step l dC dI qM q_px q_py q_pz q_plane q_axis q_was q_ways q_keptWas q_keptWays q_keptPoints q_nextWas q_nextWays q_nowWas q_nowWays q_to cI cJ cQ H.size vthrown vpoints vplanes vaxes vkept vax vay vaz cpx cpy cpz cplane caxis cwas cways ckeptWas ckeptWays ckeptPoints cnextWas cnextWays cnowWas cnowWays cto x1 (cplane (4 * x2).toNatClampNeg) (cplane ((4 * x2) + 1).toNatClampNeg) (cplane ((4 * x2) + 2).toNatClampNeg) o26 o27 o28 hfc) (cwV 4 ht (gV m_474 m_476 m_14 m_31 m_477) rfl rfl rfl (by decide +kernel) ⟨Nat.le_of_ble_eq_true rfl, Nat.le_of_ble_eq_true rfl⟩) (preMV hPc hK hZ hDc (va_recv hK hPc (ci := 3) (q0 := 0) rfl rfl)) rfl rfl hl.1 rfl (lv_room (Nat.le_of_ble_eq_true rfl)) d_M_isThere_30 ⟨Nat.le_of_ble_eq_true rfl, Nat.le_of_ble_eq_true rfl⟩) hS (fun q _ h => hFc q h) hFc (fun u t H1 locs ht9 hvm hw hB hz1 hk1 hS => ?_)
  obtain ⟨hP1, hD1⟩ := hB
  rw [ht9] at hP1
  obtain ⟨hP, hD⟩ := va_join (wr := []) (w1 := (w_M qM q_px q_py q_pz q_plane q_axis q_was q_ways q_keptWas q_keptWays q_keptPoints q_nextWas q_nextWays q_nowWas q_nowWays q_to cI vthrown vpoints vplanes vaxes vkept o26 o27 o28 cpx cpy cpz cplane caxis cwas cways ckeptWas ckeptWays ckeptPoints cnextWas cnextWays cnowWas cnowWays cto)) hP hD [0, 1, 2, 3, 4, 5, 6, 7, 8, 9, 10, 11, 12, 13, 14, 15] [] rfl rfl (by decide) (by decide) hk1 hFc hP1 hD1
  have hP := hP.sub (ws' := (w_M qM q_px q_py q_pz q_plane q_axis q_was q_ways q_keptWas q_keptWays q_keptPoints q_nextWas q_nextWays q_nowWas q_nowWays q_to cI vthrown vpoints vplanes vaxes vkept o26 o27 o28 cpx cpy cpz cplane caxis cwas cways ckeptWas ckeptWays ckeptPoints cnextWas cnextWays cnowWas cnowWays cto)) [0, 1, 2, 3, 4, 5, 6, 7, 8, 9, 10, 11, 12, 13, 14, 15] rfl
  have hD := hD.sub (ws' := (w_M qM q_px q_py q_pz q_plane q_axis q_was q_ways q_keptWas q_keptWays q_keptPoints q_nextWas q_nextWays q_nowWas q_nowWays q_to cI vthrown vpoints vplanes vaxes vkept o26 o27 o28 cpx cpy cpz cplane caxis cwas cways ckeptWas ckeptWays ckeptPoints cnextWas cnextWays cnowWas cnowWays cto)) [0, 1, 2, 3, 4, 5, 6, 7, 8, 9, 10, 11, 12, 13, 14, 15] (by decide) rfl
  clear hPc hDc hFc hP1 hD1 hz1 hk1 ht9 hvm hfc
  generalize H1 = H at hP hS ⊢
  refine lv_aload_n hx hb d_M_isThere_33 rfl (lv_at hl 0 rfl) ?_
  refine va_get (D := (dC, dI)) (ci := 3) (v := .ref q_plane) (C := R_M) (T := T_M) (N := 23) hx hb ht in_M hown hK hP 0 rfl rfl 7 (by decide) (ht _ m_353) (fun _ h9 => h9) rfl d_M_isThere_34 ?_
  refine lv_iconst (v := 4) hx hb d_M_isThere_37 (by decide) ?_
  refine lv_iload_n hx hb d_M_isThere_38 rfl (lv_at hl 2 rfl) ?_
  refine lv_imul hx hb d_M_isThere_39 ?_
  refine lv_iconst (v := 3) hx hb d_M_isThere_40 (by decide) ?_
  refine lv_iadd hx hb d_M_isThere_41 ?_
  obtain ⟨hi29, hf⟩ := oIn_some hf
  refine va_iald hx hb hK hP 4 0 rfl rfl hi29 d_M_isThere_42 ?_
  refine lv_topi (fun v30 ev30 => ?_)
  have hf := oLet_some hf ev30
  refine lv_istore_n (lv' := [(3, .int v30), (0, .ref qM), (1, .int x1), (2, .int x2)]) hx hb d_M_isThere_43 rfl hl (by decide) rfl (fun ls hl => ?_)
  refine lv_iconst (v := 0) hx hb d_M_isThere_44 (by decide) ?_
  refine lv_istore (lv' := [(4, .int 0), (3, .int v30), (0, .ref qM), (1, .int x1), (2, .int x2)]) hx hb d_M_isThere_45 hl (by decide) rfl (fun ls hl => ?_)
  exact ofX _ _ _ _ _ (K47 v30 o26 o27 o28 _ 0 _ _ _ hf hP hD hS (lv_sub hl [2, 1, 0] rfl))

set_option maxHeartbeats 4000000 in
set_option maxRecDepth 100000 in
theorem c_A_fill (l : Launch) (dC : Nat → ClassId) (dI : Nat → Nat → Nat) (qA : Nat) (cI cJ cQ : ClassId) (sz : Nat) (aV : Nat → Int32) (x1 : Int32) (o_aV : Nat → Int32) (hf : f_A_fill aV x1 = some o_aV) : Met l y_A_fill w_A_fill ({ frames := 0, cells := 0, slots := 0, locals := 0 }) (va_Pc [.ref qA, .int x1] (fun U => U.heap.size = sz ∧ va_P (dC, dI) vwCl (w_A qA cI aV) U.heap ∧ va_K (dC, dI) vwCl [(cI, .int), (cJ, .long), (cQ, .object "CutBodies$Contents")] U ∧ nestZ U ∧ va_D (fun _ => True) (w_A qA cI aV))) (va_Qv (fun (_ : Unit) => True) (fun _ t => va_P (dC, dI) vwCl (w_A qA cI o_aV) t.heap ∧ va_D (va_A (w_A qA cI aV) sz) (w_A qA cI o_aV)) (va_A (w_A qA cI aV) sz)) 0 0 (va_A (w_A qA cI aV) sz) := by
  refine Met.ofW (cc := b_A_fill) (maxL := 4) (ret := none) (by decide) rfl ?_
  intro p e s m args below meth c s₁ B hml hv
  obtain ⟨rfl, hsz, hP, hK, hZ, hD0⟩ := hv
  have hx := B.exec
  have hb := B.bytes
  have hr := B.returns
  have hts := atoms_spec (ws := w_A_fill) B.pre
  have ht : ∀ w ∈ wAll, w.before _ s = true := fun w h => hts w (List.mem_cons_of_mem _ h)
  have hown : s.vm.findClass R_A = some m.cls := findClass_of_methodNamed B.named
  have hlocks := B.notSynchronized
  subst hsz
  have hD := hD0.self (sz := s.heap.size)
  generalize hAe : va_A (w_A qA cI aV) s.heap.size = A at hD ⊢
  have hA : ∀ q : Nat, s.heap.size ≤ q → A q := fun q h => by rw [← hAe]; exact Or.inr h
  have hS : va_S A s.heap s.heap [] := va_S.rf
  have hP : va_P (dC, dI) vwCl (w_A qA cI aV) s.heap := hP
  have hl := lv_entry ([.ref qA, .int x1]) (n := 4) (Nat.le_of_ble_eq_true rfl)
  rw [lg_entry_eq]
  generalize (lg_sl ([.ref qA, .int x1]) ++ List.replicate (4 - (lg_sl ([.ref qA, .int x1])).length) Slot.unset).toArray = ls at hl ⊢
  have hl : lv_has ls 4 [(0, .ref qA), (1, .int x1)] := hl
  refine w_abs (fun Wx toX ofX => ?_)
  have K5 : ∀ (x1 : Int32) (x3 : Int32) (n : Nat) (x2 : Int32) (aV : Nat → Int32) (H : Heap) (locs : List Loc) (ls : Array Slot), oLoop2 (f_A_fill_L5  x1 x3) n x2 aV = some o_aV → va_P (dC, dI) vwCl (w_A qA cI aV) H → va_D A (w_A qA cI aV) → va_S A s.heap H locs → lv_has ls 4 [(0, .ref qA), (1, .int x1), (2, .int x2), (3, .int x3)] → Wx H locs 0 0 (F0 m 5 ls []) := by
    intro x1 x3 n
    induction n with
    | zero => intro x2 aV H locs ls hf; exact (oLoop2_0 hf).elim
    | succ n ih5 =>
      obtain ⟨rec5, hrec5⟩ : ∃ z, z = oLoop2 (f_A_fill_L5  x1 x3) n := ⟨_, rfl⟩
      rw [← hrec5] at ih5
      intro x2 aV H locs ls hf hP hD hS hl
      refine toX _ _ _ _ _ ?_
      have hf := oLoop2_s hf
      rw [← hrec5] at hf
      unfold f_A_fill_L5 at hf
      refine lv_iload_n hx hb d_A_fill_5 rfl (lv_at hl 2 rfl) ?_
      refine lv_iload_n hx hb d_A_fill_6 rfl (lv_at hl 3 rfl) ?_
      refine lv_icmp_ge (tgt := 20) hx hb d_A_fill_7 (by decide) (fun c1 => ?_) (fun c1 => ?_)
      · have hf := oIf_t hf c1
        cases hf
        exact W.vret hx hb hr (fun t ht hW => ⟨⟨(), rfl, trivial, by rw [ht]; exact hP, hD⟩, hS.F ht⟩) hS.2.2 d_A_fill_20
      · have hf := oIf_f hf c1
        refine lv_aload_n hx hb d_A_fill_10 rfl (lv_at hl 0 rfl) ?_
        refine lv_iload_n hx hb d_A_fill_11 rfl (lv_at hl 2 rfl) ?_
        refine lv_iload_n hx hb d_A_fill_12 rfl (lv_at hl 1 rfl) ?_
        obtain ⟨hi2, hf⟩ := oIn_some hf
        refine va_iast hx hb hK hP hD hS 0 0 rfl rfl hi2 d_A_fill_13 (fun H locs hP hD hS => ?_)
        obtain ⟨a3, ea3, hf⟩ := oLet_ex hf
        have hP : va_P (dC, dI) vwCl (w_A qA cI a3) H := by rw [ea3]; exact hP
        have hD : va_D A (w_A qA cI a3) := by rw [ea3]; exact hD
        obtain ⟨v4, ev4, hf⟩ := oLet_ex hf
        refine lv_iinc (v := v4) (lv' := [(2, .int v4), (0, .ref qA), (1, .int x1), (3, .int x3)]) hx hb d_A_fill_14 hl (k := 2) rfl (by rw [ev4]; rfl) (by decide) rfl (fun ls hl => ?_)
        refine lv_goto (tgt := 5) hx hb d_A_fill_17 (by decide) ?_
        exact ofX _ _ _ _ _ (ih5 v4 a3 _ _ _ hf hP hD hS (lv_sub hl [1, 2, 0, 3] rfl))
  refine toX _ _ _ _ _ ?_
  unfold f_A_fill at hf
  obtain ⟨H, hH⟩ : ∃ z, z = s.heap := ⟨_, rfl⟩
  have hS : va_S A s.heap H [] := by rw [hH]; exact hS
  have hP : va_P (dC, dI) vwCl (w_A qA cI aV) H := by rw [hH]; exact hP
  refine w_heap hH ?_
  refine lv_iconst (v := 0) hx hb d_A_fill_0 (by decide) ?_
  refine lv_istore_n (lv' := [(2, .int 0), (0, .ref qA), (1, .int x1)]) hx hb d_A_fill_1 rfl hl (by decide) rfl (fun ls hl => ?_)
  refine lv_aload_n hx hb d_A_fill_2 rfl (lv_at hl 1 rfl) ?_
  refine va_alen (v := 60) hx hb hK hP 0 0 rfl rfl rfl d_A_fill_3 ?_
  refine lv_istore_n (lv' := [(3, .int 60), (2, .int 0), (0, .ref qA), (1, .int x1)]) hx hb d_A_fill_4 rfl hl (by decide) rfl (fun ls hl => ?_)
  exact ofX _ _ _ _ _ (K5 x1 60 _ 0 aV _ _ _ hf hP hD hS (lv_sub hl [2, 3, 1, 0] rfl))
set_option maxHeartbeats 4000000 in
set_option maxRecDepth 100000 in
theorem c_C_putAllHome (l : Launch) (dC : Nat → ClassId) (dI : Nat → Nat → Nat) (qC qCo qCt : Nat) (cI cJ cQ : ClassId) (sz : Nat) (cO : Nat → Int32) (cT : Nat → Int32) (o_cO : Nat → Int32) (o_cT : Nat → Int32) (hf : f_C_putAllHome cO cT = some (o_cO, o_cT)) : Met l y_C_putAllHome w_C_putAllHome ({ frames := 1, cells := 0, slots := 0, locals := 23 }) (va_Pc [.ref qC] (fun U => U.heap.size = sz ∧ va_P (dC, dI) vwCl (w_C qC qCo qCt cI cO cT) U.heap ∧ va_K (dC, dI) vwCl [(cI, .int), (cJ, .long), (cQ, .object "CutBodies$Contents")] U ∧ nestZ U ∧ va_D (fun _ => True) (w_C qC qCo qCt cI cO cT))) (va_Qv (fun (_ : Unit) => True) (fun _ t => va_P (dC, dI) vwCl (w_C qC qCo qCt cI o_cO o_cT) t.heap ∧ va_D (va_A (w_C qC qCo qCt cI cO cT) sz) (w_C qC qCo qCt cI o_cO o_cT)) (va_A (w_C qC qCo qCt cI cO cT) sz)) 0 0 (va_A (w_C qC qCo qCt cI cO cT) sz) := by
  refine Met.ofW (cc := b_C_putAllHome) (maxL := 2) (ret := none) (by decide) rfl ?_
  intro p e s m args below meth c s₁ B hml hv
  obtain ⟨rfl, hsz, hP, hK, hZ, hD0⟩ := hv
  have hx := B.exec
  have hb := B.bytes
  have hr := B.returns
  have hts := atoms_spec (ws := w_C_putAllHome) B.pre
  have ht : ∀ w ∈ wAll, w.before _ s = true := fun w h => hts w (List.mem_cons_of_mem _ h)
  have hown : s.vm.findClass R_C = some m.cls := findClass_of_methodNamed B.named
  have hlocks := B.notSynchronized
  subst hsz
  have hD := hD0.self (sz := s.heap.size)
  generalize hAe : va_A (w_C qC qCo qCt cI cO cT) s.heap.size = A at hD ⊢
  have hA : ∀ q : Nat, s.heap.size ≤ q → A q := fun q h => by rw [← hAe]; exact Or.inr h
  have hS : va_S A s.heap s.heap [] := va_S.rf
  have hP : va_P (dC, dI) vwCl (w_C qC qCo qCt cI cO cT) s.heap := hP
  have hl := lv_entry ([.ref qC]) (n := 2) (Nat.le_of_ble_eq_true rfl)
  rw [lg_entry_eq]
  generalize (lg_sl ([.ref qC]) ++ List.replicate (2 - (lg_sl ([.ref qC])).length) Slot.unset).toArray = ls at hl ⊢
  have hl : lv_has ls 2 [(0, .ref qC)] := hl
  refine w_abs (fun Wx toX ofX => ?_)
  have K2 : ∀ (cT : Nat → Int32) (n : Nat) (x1 : Int32) (cO : Nat → Int32) (H : Heap) (locs : List Loc) (ls : Array Slot), oLoop2 (f_C_putAllHome_L2  cT) n x1 cO = some (o_cO, o_cT) → va_P (dC, dI) vwCl (w_C qC qCo qCt cI cO cT) H → va_D A (w_C qC qCo qCt cI cO cT) → va_S A s.heap H locs → lv_has ls 2 [(0, .ref qC), (1, .int x1)] → Wx H locs 0 0 (F0 m 2 ls []) := by
    intro cT n
    induction n with
    | zero => intro x1 cO H locs ls hf; exact (oLoop2_0 hf).elim
    | succ n ih2 =>
      obtain ⟨rec2, hrec2⟩ : ∃ z, z = oLoop2 (f_C_putAllHome_L2  cT) n := ⟨_, rfl⟩
      rw [← hrec2] at ih2
      intro x1 cO H locs ls hf hP hD hS hl
      refine toX _ _ _ _ _ ?_
      have hf := oLoop2_s hf
      rw [← hrec2] at hf
      unfold f_C_putAllHome_L2 at hf
      refine lv_iload_n hx hb d_C_putAllHome_2 rfl (lv_at hl 1 rfl) ?_
      refine lv_bipush (v := 60) hx hb d_C_putAllHome_3 (by decide) ?_
      refine lv_icmp_ge (tgt := 21) hx hb d_C_putAllHome_5 (by decide) (fun c1 => ?_) (fun c1 => ?_)
      · have hf := oIf_t hf c1
        refine lv_aload_n hx hb d_C_putAllHome_21 rfl (lv_at hl 0 rfl) ?_
        refine va_get (D := (dC, dI)) (ci := 1) (v := .ref qCt) (C := R_C) (T := T_C) (N := 2) hx hb ht in_C hown hK hP 0 rfl rfl 1 (by decide) (ht _ m_92) (fun _ h9 => h9) rfl d_C_putAllHome_22 ?_
        refine lv_iconst (v := 0) hx hb d_C_putAllHome_25 (by decide) ?_
        obtain ⟨o2, hfc, hf⟩ := oCall1_some hf
        have hPc := hP.sub (ws' := (w_A qCt cI cT)) [2] rfl
        have hDc := hD.sub (ws' := (w_A qCt cI cT)) [2] (by decide) rfl
        have hFc := va_free (wc := (w_A qCt cI cT)) hD hS hA [2] rfl
        refine va_callv (va_runS (As := [.ref qCt, .int 0]) (rest := []) ⟨hx, hb, hml, hown, ht⟩ (c_A_fill l dC dI qCt cI cJ cQ H.size cT 0 o2 hfc) (va_cwS 2 ht (gS m_155 m_156 m_32 m_157) rfl rfl rfl (by decide +kernel) ⟨Nat.le_of_ble_eq_true rfl, Nat.le_of_ble_eq_true rfl⟩) (preM hPc hK hZ hDc) rfl rfl hl.1 rfl (lv_room (Nat.le_of_ble_eq_true rfl)) d_C_putAllHome_26 ⟨Nat.le_of_ble_eq_true rfl, Nat.le_of_ble_eq_true rfl⟩) hS (fun q _ h => hFc q h) hFc (fun u t H1 locs ht9 hvm hw hB hz1 hk1 hS => ?_)
        obtain ⟨hP1, hD1⟩ := hB
        rw [ht9] at hP1
        obtain ⟨hP, hD⟩ := va_join (wr := [(qC, .inr (1, [.ref qCo, .ref qCt])), (qCo, .inl (cI, 60, .inl cO))]) (w1 := (w_A qCt cI o2)) hP hD [2] [0, 1] rfl rfl (by decide) (by decide) hk1 hFc hP1 hD1
        have hP := hP.sub (ws' := (w_C qC qCo qCt cI cO o2)) [0, 1, 2] rfl
        have hD := hD.sub (ws' := (w_C qC qCo qCt cI cO o2)) [0, 1, 2] (by decide) rfl
        clear hPc hDc hFc hP1 hD1 hz1 hk1 ht9 hvm hfc
        generalize H1 = H at hP hS ⊢
        cases hf
        exact W.vret hx hb hr (fun t ht hW => ⟨⟨(), rfl, trivial, by rw [ht]; exact hP, hD⟩, hS.F ht⟩) hS.2.2 d_C_putAllHome_29
      · have hf := oIf_f hf c1
        refine lv_aload_n hx hb d_C_putAllHome_8 rfl (lv_at hl 0 rfl) ?_
        refine va_get (D := (dC, dI)) (ci := 1) (v := .ref qCo) (C := R_C) (T := T_C) (N := 2) hx hb ht in_C hown hK hP 0 rfl rfl 0 (by decide) (ht _ m_90) (fun _ h9 => h9) rfl d_C_putAllHome_9 ?_
        refine lv_iload_n hx hb d_C_putAllHome_12 rfl (lv_at hl 1 rfl) ?_
        refine lv_iload_n hx hb d_C_putAllHome_13 rfl (lv_at hl 1 rfl) ?_
        obtain ⟨hi3, hf⟩ := oIn_some hf
        refine va_iast hx hb hK hP hD hS 1 0 rfl rfl hi3 d_C_putAllHome_14 (fun H locs hP hD hS => ?_)
        obtain ⟨a4, ea4, hf⟩ := oLet_ex hf
        have hP : va_P (dC, dI) vwCl (w_C qC qCo qCt cI a4 cT) H := by rw [ea4]; exact hP
        have hD : va_D A (w_C qC qCo qCt cI a4 cT) := by rw [ea4]; exact hD
        obtain ⟨v5, ev5, hf⟩ := oLet_ex hf
        refine lv_iinc (v := v5) (lv' := [(1, .int v5), (0, .ref qC)]) hx hb d_C_putAllHome_15 hl (k := 1) rfl (by rw [ev5]; rfl) (by decide) rfl (fun ls hl => ?_)
        refine lv_goto (tgt := 2) hx hb d_C_putAllHome_18 (by decide) ?_
        exact ofX _ _ _ _ _ (ih2 v5 a4 _ _ _ hf hP hD hS (lv_sub hl [1, 0] rfl))
  refine toX _ _ _ _ _ ?_
  unfold f_C_putAllHome at hf
  obtain ⟨H, hH⟩ : ∃ z, z = s.heap := ⟨_, rfl⟩
  have hS : va_S A s.heap H [] := by rw [hH]; exact hS
  have hP : va_P (dC, dI) vwCl (w_C qC qCo qCt cI cO cT) H := by rw [hH]; exact hP
  refine w_heap hH ?_
  refine lv_iconst (v := 0) hx hb d_C_putAllHome_0 (by decide) ?_
  refine lv_istore_n (lv' := [(1, .int 0), (0, .ref qC)]) hx hb d_C_putAllHome_1 rfl hl (by decide) rfl (fun ls hl => ?_)
  exact ofX _ _ _ _ _ (K2 cT _ 0 cO _ _ _ hf hP hD hS (lv_sub hl [1, 0] rfl))
set_option maxHeartbeats 4000000 in
set_option maxRecDepth 100000 in
theorem c_C_copyFrom (l : Launch) (dC : Nat → ClassId) (dI : Nat → Nat → Nat) (qC qCo qCt qE qEo qEt : Nat) (cI cJ cQ : ClassId) (sz : Nat) (cO : Nat → Int32) (cT : Nat → Int32) (eO : Nat → Int32) (eT : Nat → Int32) (o_cO : Nat → Int32) (o_cT : Nat → Int32) (hf : f_C_copyFrom cO cT eO eT = some (o_cO, o_cT)) : Met l y_C_copyFrom w_C_copyFrom ({ frames := 1, cells := 0, slots := 0, locals := 48 }) (va_Pc [.ref qC, .ref qE] (fun U => U.heap.size = sz ∧ va_P (dC, dI) vwCl (w_CC qC qCo qCt qE qEo qEt cI cO cT eO eT) U.heap ∧ va_K (dC, dI) vwCl [(cI, .int), (cJ, .long), (cQ, .object "CutBodies$Contents")] U ∧ nestZ U ∧ va_D (fun _ => True) (w_CC qC qCo qCt qE qEo qEt cI cO cT eO eT))) (va_Qv (fun (_ : Unit) => True) (fun _ t => va_P (dC, dI) vwCl (w_CC qC qCo qCt qE qEo qEt cI o_cO o_cT eO eT) t.heap ∧ va_D (va_A (w_CC qC qCo qCt qE qEo qEt cI cO cT eO eT) sz) (w_CC qC qCo qCt qE qEo qEt cI o_cO o_cT eO eT)) (va_A (w_CC qC qCo qCt qE qEo qEt cI cO cT eO eT) sz)) 0 0 (va_A (w_CC qC qCo qCt qE qEo qEt cI cO cT eO eT) sz) := by
  refine Met.ofW (cc := b_C_copyFrom) (maxL := 2) (ret := none) (by decide) rfl ?_
  intro p e s m args below meth c s₁ B hml hv
  obtain ⟨rfl, hsz, hP, hK, hZ, hD0⟩ := hv
  have hx := B.exec
  have hb := B.bytes
  have hr := B.returns
  have hts := atoms_spec (ws := w_C_copyFrom) B.pre
  have ht : ∀ w ∈ wAll, w.before _ s = true := fun w h => hts w (List.mem_cons_of_mem _ h)
  have hown : s.vm.findClass R_C = some m.cls := findClass_of_methodNamed B.named
  have hlocks := B.notSynchronized
  subst hsz
  have hD := hD0.self (sz := s.heap.size)
  generalize hAe : va_A (w_CC qC qCo qCt qE qEo qEt cI cO cT eO eT) s.heap.size = A at hD ⊢
  have hA : ∀ q : Nat, s.heap.size ≤ q → A q := fun q h => by rw [← hAe]; exact Or.inr h
  have hS : va_S A s.heap s.heap [] := va_S.rf
  have hP : va_P (dC, dI) vwCl (w_CC qC qCo qCt qE qEo qEt cI cO cT eO eT) s.heap := hP
  have hl := lv_entry ([.ref qC, .ref qE]) (n := 2) (Nat.le_of_ble_eq_true rfl)
  rw [lg_entry_eq]
  generalize (lg_sl ([.ref qC, .ref qE]) ++ List.replicate (2 - (lg_sl ([.ref qC, .ref qE])).length) Slot.unset).toArray = ls at hl ⊢
  have hl : lv_has ls 2 [(0, .ref qC), (1, .ref qE)] := hl
  unfold f_C_copyFrom at hf
  obtain ⟨H, hH⟩ : ∃ z, z = s.heap := ⟨_, rfl⟩
  have hS : va_S A s.heap H [] := by rw [hH]; exact hS
  have hP : va_P (dC, dI) vwCl (w_CC qC qCo qCt qE qEo qEt cI cO cT eO eT) H := by rw [hH]; exact hP
  refine w_heap hH ?_
  refine lv_aload_n hx hb d_C_copyFrom_0 rfl (lv_at hl 1 rfl) ?_
  refine va_get (D := (dC, dI)) (ci := 1) (v := .ref qEo) (C := R_C) (T := T_C) (N := 2) hx hb ht in_C hown hK hP 3 rfl rfl 0 (by decide) (ht _ m_90) (fun _ h9 => h9) rfl d_C_copyFrom_1 ?_
  refine lv_iconst (v := 0) hx hb d_C_copyFrom_4 (by decide) ?_
  refine lv_aload_n hx hb d_C_copyFrom_5 rfl (lv_at hl 0 rfl) ?_
  refine va_get (D := (dC, dI)) (ci := 1) (v := .ref qCo) (C := R_C) (T := T_C) (N := 2) hx hb ht in_C hown hK hP 0 rfl rfl 0 (by decide) (ht _ m_90) (fun _ h9 => h9) rfl d_C_copyFrom_6 ?_
  refine lv_iconst (v := 0) hx hb d_C_copyFrom_9 (by decide) ?_
  refine lv_bipush (v := 60) hx hb d_C_copyFrom_10 (by decide) ?_
  refine va_copyi hx hb (by rw [hml]; exact hl.1.symm) hown (ht _ m_274) (ht _ m_276) (ht _ m_275) (ht _ m_34) hK hP hD hS 4 1 0 0 rfl rfl rfl rfl rfl (by decide) (by decide) (by decide) (by decide) (by decide) (fun _ _ => rfl) (Nat.le_of_ble_eq_true rfl) (Nat.le_of_ble_eq_true rfl) d_C_copyFrom_12 (fun H locs hP hD hS => ?_)
  obtain ⟨a1, ea1, hf⟩ := oLet_ex hf
  have hP : va_P (dC, dI) vwCl (w_CC qC qCo qCt qE qEo qEt cI a1 cT eO eT) H := by rw [ea1]; exact hP
  have hD : va_D A (w_CC qC qCo qCt qE qEo qEt cI a1 cT eO eT) := by rw [ea1]; exact hD
  refine lv_aload_n hx hb d_C_copyFrom_15 rfl (lv_at hl 1 rfl) ?_
  refine va_get (D := (dC, dI)) (ci := 1) (v := .ref qEt) (C := R_C) (T := T_C) (N := 2) hx hb ht in_C hown hK hP 3 rfl rfl 1 (by decide) (ht _ m_92) (fun _ h9 => h9) rfl d_C_copyFrom_16 ?_
  refine lv_iconst (v := 0) hx hb d_C_copyFrom_19 (by decide) ?_
  refine lv_aload_n hx hb d_C_copyFrom_20 rfl (lv_at hl 0 rfl) ?_
  refine va_get (D := (dC, dI)) (ci := 1) (v := .ref qCt) (C := R_C) (T := T_C) (N := 2) hx hb ht in_C hown hK hP 0 rfl rfl 1 (by decide) (ht _ m_92) (fun _ h9 => h9) rfl d_C_copyFrom_21 ?_
  refine lv_iconst (v := 0) hx hb d_C_copyFrom_24 (by decide) ?_
  refine lv_bipush (v := 60) hx hb d_C_copyFrom_25 (by decide) ?_
  refine va_copyi hx hb (by rw [hml]; exact hl.1.symm) hown (ht _ m_274) (ht _ m_276) (ht _ m_275) (ht _ m_34) hK hP hD hS 5 2 0 0 rfl rfl rfl rfl rfl (by decide) (by decide) (by decide) (by decide) (by decide) (fun _ _ => rfl) (Nat.le_of_ble_eq_true rfl) (Nat.le_of_ble_eq_true rfl) d_C_copyFrom_27 (fun H locs hP hD hS => ?_)
  obtain ⟨a2, ea2, hf⟩ := oLet_ex hf
  have hP : va_P (dC, dI) vwCl (w_CC qC qCo qCt qE qEo qEt cI a1 a2 eO eT) H := by rw [ea2]; exact hP
  have hD : va_D A (w_CC qC qCo qCt qE qEo qEt cI a1 a2 eO eT) := by rw [ea2]; exact hD
  cases hf
  exact W.vret hx hb hr (fun t ht hW => ⟨⟨(), rfl, trivial, by rw [ht]; exact hP, hD⟩, hS.F ht⟩) hS.2.2 d_C_copyFrom_30
set_option maxHeartbeats 4000000 in
set_option maxRecDepth 100000 in
theorem c_C_rowsUntilBackAt (l : Launch) (dC : Nat → ClassId) (dI : Nat → Nat → Nat) (qC qCo qCt : Nat) (cI cJ cQ : ClassId) (cO : Nat → Int32) (cT : Nat → Int32) (x1 : Int32) (r_ : Int32) (hf : f_C_rowsUntilBackAt cO cT x1 = some r_) : Met l y_C_rowsUntilBackAt w_C_rowsUntilBackAt ({ frames := 4, cells := 0, slots := 0, locals := 91 }) (va_Pc [.ref qC, .int x1] (fun U => va_P (dC, dI) vwCl (w_C qC qCo qCt cI cO cT) U.heap ∧ va_K (dC, dI) vwCl [(cI, .int), (cJ, .long), (cQ, .object "CutBodies$Contents")] U ∧ nestZ U)) (vp_Si (fun r9 => r9 = r_)) 0 0 (fun _ => False) := by
  refine Met.ofW (cc := b_C_rowsUntilBackAt) (maxL := 5) (ret := (some .int)) (by decide) rfl ?_
  intro p e s m args below meth c s₁ B hml hv
  obtain ⟨rfl, hP, hK, hZ⟩ := hv
  have hx := B.exec
  have hb := B.bytes
  have hr := B.returns
  have hts := atoms_spec (ws := w_C_rowsUntilBackAt) B.pre
  have ht : ∀ w ∈ wAll, w.before _ s = true := fun w h => hts w (List.mem_cons_of_mem _ h)
  have hown : s.vm.findClass R_C = some m.cls := findClass_of_methodNamed B.named
  have hlocks := B.notSynchronized
  have hP : va_P (dC, dI) vwCl (w_C qC qCo qCt cI cO cT) s.heap := hP
  have hl := lv_entry ([.ref qC, .int x1]) (n := 5) (Nat.le_of_ble_eq_true rfl)
  rw [lg_entry_eq]
  generalize (lg_sl ([.ref qC, .int x1]) ++ List.replicate (5 - (lg_sl ([.ref qC, .int x1])).length) Slot.unset).toArray = ls at hl ⊢
  have hl : lv_has ls 5 [(0, .ref qC), (1, .int x1)] := hl
  refine w_abs (fun Wx toX ofX => ?_)
  have K43 : ∀ (x2 : Int32) (x3 : Int32) (ls : Array Slot), f_C_rowsUntilBackAt_J43  cO cT x2 x3 = some r_ → lv_has ls 5 [(2, .int x2), (3, .int x3)] → Wx s.heap [] 0 0 (F0 m 43 ls []) := by
    intro x2 x3 ls hf hl
    refine toX _ _ _ _ _ ?_
    unfold f_C_rowsUntilBackAt_J43 at hf
    refine lv_iload_n hx hb d_C_rowsUntilBackAt_43 rfl (lv_at hl 0 rfl) ?_
    refine lv_iload_n hx hb d_C_rowsUntilBackAt_44 rfl (lv_at hl 1 rfl) ?_
    obtain ⟨r1z, hfc, hf⟩ := oCall1_some hf
    have hPc := hP.sub (ws' := []) [] rfl
    refine vp_callSi (va_runS (As := [.int x3]) (rest := [.int x2]) ⟨hx, hb, hml, hown, ht⟩ (c_W_orderOf l dC dI cI cJ cQ x3 r1z hfc) (va_cwS 1 ht (gS m_328 m_193 m_33 m_194) rfl rfl rfl (by decide +kernel) ⟨Nat.le_of_ble_eq_true rfl, Nat.le_of_ble_eq_true rfl⟩) (preR hPc hK hZ) rfl rfl hl.1 rfl (lv_room (Nat.le_of_ble_eq_true rfl)) d_C_rowsUntilBackAt_45 ⟨Nat.le_of_ble_eq_true rfl, Nat.le_of_ble_eq_true rfl⟩).run (fun r1 hw => ?_)
    subst hw
    clear hPc hfc
    refine lv_imul hx hb d_C_rowsUntilBackAt_48 ?_
    cases hf
    exact W.iret hx hb hr (fun t ht hW => ⟨_, rfl, rfl, ht⟩) (fun q h => by cases h) d_C_rowsUntilBackAt_49
  have K7 : ∀ (x1 : Int32) (n : Nat) (x2 : Int32) (x3 : Int32) (x4 : Int32) (ls : Array Slot), oLoop3 (f_C_rowsUntilBackAt_L7  cO cT x1) n x2 x3 x4 = some r_ → lv_has ls 5 [(0, .ref qC), (1, .int x1), (2, .int x2), (3, .int x3), (4, .int x4)] → Wx s.heap [] 0 0 (F0 m 7 ls []) := by
    intro x1 n
    induction n with
    | zero => intro x2 x3 x4 ls hf; exact (oLoop3_0 hf).elim
    | succ n ih7 =>
      obtain ⟨rec7, hrec7⟩ : ∃ z, z = oLoop3 (f_C_rowsUntilBackAt_L7  cO cT x1) n := ⟨_, rfl⟩
      rw [← hrec7] at ih7
      intro x2 x3 x4 ls hf hl
      refine toX _ _ _ _ _ ?_
      have hf := oLoop3_s hf
      rw [← hrec7] at hf
      unfold f_C_rowsUntilBackAt_L7 at hf
      refine lv_iload_n hx hb d_C_rowsUntilBackAt_7 rfl (lv_at hl 3 rfl) ?_
      refine lv_aload_n hx hb d_C_rowsUntilBackAt_8 rfl (lv_at hl 0 rfl) ?_
      refine va_get (D := (dC, dI)) (ci := 1) (v := .ref qCt) (C := R_C) (T := T_C) (N := 2) hx hb ht in_C hown hK hP 0 rfl rfl 1 (by decide) (ht _ m_92) (fun _ h9 => h9) rfl d_C_rowsUntilBackAt_9 ?_
      refine lv_iload hx hb d_C_rowsUntilBackAt_12 (lv_at hl 4 rfl) ?_
      obtain ⟨hi2, hf⟩ := oIn_some hf
      refine va_iald hx hb hK hP 2 0 rfl rfl hi2 d_C_rowsUntilBackAt_14 ?_
      obtain ⟨r3z, hfc, hf⟩ := oCall1_some hf
      have hPc := hP.sub (ws' := []) [] rfl
      refine vp_callSi (va_runS (As := [.int x3, .int (cT x4.toNatClampNeg)]) (rest := []) ⟨hx, hb, hml, hown, ht⟩ (c_W_compose l dC dI cI cJ cQ x3 (cT x4.toNatClampNeg) r3z hfc) (va_cwS 2 ht (gS m_327 m_196 m_33 m_197) rfl rfl rfl (by decide +kernel) ⟨Nat.le_of_ble_eq_true rfl, Nat.le_of_ble_eq_true rfl⟩) (preR hPc hK hZ) rfl rfl hl.1 rfl (lv_room (Nat.le_of_ble_eq_true rfl)) d_C_rowsUntilBackAt_15 ⟨Nat.le_of_ble_eq_true rfl, Nat.le_of_ble_eq_true rfl⟩).run (fun r3 hw => ?_)
      subst hw
      clear hPc hfc
      refine lv_istore_n (lv' := [(3, .int r3), (0, .ref qC), (1, .int x1), (2, .int x2), (4, .int x4)]) hx hb d_C_rowsUntilBackAt_18 rfl hl (by decide) rfl (fun ls hl => ?_)
      refine lv_aload_n hx hb d_C_rowsUntilBackAt_19 rfl (lv_at hl 1 rfl) ?_
      refine va_get (D := (dC, dI)) (ci := 1) (v := .ref qCo) (C := R_C) (T := T_C) (N := 2) hx hb ht in_C hown hK hP 0 rfl rfl 0 (by decide) (ht _ m_90) (fun _ h9 => h9) rfl d_C_rowsUntilBackAt_20 ?_
      refine lv_iload hx hb d_C_rowsUntilBackAt_23 (lv_at hl 4 rfl) ?_
      obtain ⟨hi4, hf⟩ := oIn_some hf
      refine va_iald hx hb hK hP 1 0 rfl rfl hi4 d_C_rowsUntilBackAt_25 ?_
      refine lv_topi (fun v5 ev5 => ?_)
      have hf := oLet_some hf ev5
      refine lv_istore (lv' := [(4, .int v5), (3, .int r3), (0, .ref qC), (1, .int x1), (2, .int x2)]) hx hb d_C_rowsUntilBackAt_26 hl (by decide) rfl (fun ls hl => ?_)
      obtain ⟨v6, ev6, hf⟩ := oLet_ex hf
      refine lv_iinc (v := v6) (lv' := [(2, .int v6), (4, .int v5), (3, .int r3), (0, .ref qC), (1, .int x1)]) hx hb d_C_rowsUntilBackAt_28 hl (k := 4) rfl (by rw [ev6]; rfl) (by decide) rfl (fun ls hl => ?_)
      refine lv_iload hx hb d_C_rowsUntilBackAt_31 (lv_at hl 1 rfl) ?_
      refine lv_iload_n hx hb d_C_rowsUntilBackAt_33 rfl (lv_at hl 4 rfl) ?_
      refine lv_icmp_eq (tgt := 43) hx hb d_C_rowsUntilBackAt_34 (by decide) (fun c7 => ?_) (fun c7 => ?_)
      · have hf := oIf_t hf c7
        exact ofX _ _ _ _ _ (K43  v6 r3 _ hf (lv_sub hl [0, 2] rfl))
      · have hf := oIf_f hf c7
        refine lv_iload_n hx hb d_C_rowsUntilBackAt_37 rfl (lv_at hl 0 rfl) ?_
        refine lv_bipush (v := 60) hx hb d_C_rowsUntilBackAt_38 (by decide) ?_
        refine lv_icmp_lt (tgt := 7) hx hb d_C_rowsUntilBackAt_40 (by decide) (fun c8 => ?_) (fun c8 => ?_)
        · have hf := oIf_t hf c8
          exact ofX _ _ _ _ _ (ih7 v6 r3 v5 _ hf (lv_sub hl [3, 4, 0, 2, 1] rfl))
        · have hf := oIf_f hf c8
          exact ofX _ _ _ _ _ (K43  v6 r3 _ hf (lv_sub hl [0, 2] rfl))
  refine toX _ _ _ _ _ ?_
  unfold f_C_rowsUntilBackAt at hf
  refine lv_iconst (v := 0) hx hb d_C_rowsUntilBackAt_0 (by decide) ?_
  refine lv_istore_n (lv' := [(2, .int 0), (0, .ref qC), (1, .int x1)]) hx hb d_C_rowsUntilBackAt_1 rfl hl (by decide) rfl (fun ls hl => ?_)
  refine lv_iconst (v := 0) hx hb d_C_rowsUntilBackAt_2 (by decide) ?_
  refine lv_istore_n (lv' := [(3, .int 0), (2, .int 0), (0, .ref qC), (1, .int x1)]) hx hb d_C_rowsUntilBackAt_3 rfl hl (by decide) rfl (fun ls hl => ?_)
  refine lv_iload_n hx hb d_C_rowsUntilBackAt_4 rfl (lv_at hl 3 rfl) ?_
  refine lv_istore (lv' := [(4, .int x1), (3, .int 0), (2, .int 0), (0, .ref qC), (1, .int x1)]) hx hb d_C_rowsUntilBackAt_5 hl (by decide) rfl (fun ls hl => ?_)
  exact ofX _ _ _ _ _ (K7 x1 _ 0 0 x1 _ hf (lv_sub hl [3, 4, 2, 1, 0] rfl))
set_option maxHeartbeats 4000000 in
set_option maxRecDepth 100000 in
theorem c_X_commonMultiple (l : Launch) (dC : Nat → ClassId) (dI : Nat → Nat → Nat) (cI cJ cQ : ClassId) (x0 : Int32) (x1 : Int32) (r_ : Int32) (hf : f_X_commonMultiple x0 x1 = some r_) : Met l y_X_commonMultiple w_X_commonMultiple ({ frames := 0, cells := 0, slots := 0, locals := 0 }) (va_Pc [.int x0, .int x1] (fun U => va_P (dC, dI) vwCl [] U.heap ∧ va_K (dC, dI) vwCl [(cI, .int), (cJ, .long), (cQ, .object "CutBodies$Contents")] U ∧ nestZ U)) (vp_Si (fun r9 => r9 = r_)) 0 0 (fun _ => False) := by
  refine Met.ofW (cc := b_X_commonMultiple) (maxL := 3) (ret := (some .int)) (by decide) rfl ?_
  intro p e s m args below meth c s₁ B hml hv
  obtain ⟨rfl, hP, hK, hZ⟩ := hv
  have hx := B.exec
  have hb := B.bytes
  have hr := B.returns
  have hts := atoms_spec (ws := w_X_commonMultiple) B.pre
  have ht : ∀ w ∈ wAll, w.before _ s = true := fun w h => hts w (List.mem_cons_of_mem _ h)
  have hown : s.vm.findClass R_X = some m.cls := findClass_of_methodNamed B.named
  have hlocks := B.notSynchronized
  have hP : va_P (dC, dI) vwCl [] s.heap := hP
  have hl := lv_entry ([.int x0, .int x1]) (n := 3) (Nat.le_of_ble_eq_true rfl)
  rw [lg_entry_eq]
  generalize (lg_sl ([.int x0, .int x1]) ++ List.replicate (3 - (lg_sl ([.int x0, .int x1])).length) Slot.unset).toArray = ls at hl ⊢
  have hl : lv_has ls 3 [(0, .int x0), (1, .int x1)] := hl
  refine w_abs (fun Wx toX ofX => ?_)
  have K16 : ∀ (x0 : Int32) (x1 : Int32) (n : Nat) (x2 : Int32) (ls : Array Slot), oLoop1 (f_X_commonMultiple_L16  x0 x1) n x2 = some r_ → lv_has ls 3 [(0, .int x0), (1, .int x1), (2, .int x2)] → Wx s.heap [] 0 0 (F0 m 16 ls []) := by
    intro x0 x1 n
    induction n with
    | zero => intro x2 ls hf; exact (oLoop1_0 hf).elim
    | succ n ih16 =>
      obtain ⟨rec16, hrec16⟩ : ∃ z, z = oLoop1 (f_X_commonMultiple_L16  x0 x1) n := ⟨_, rfl⟩
      rw [← hrec16] at ih16
      intro x2 ls hf hl
      refine toX _ _ _ _ _ ?_
      have hf := oLoop1_s hf
      rw [← hrec16] at hf
      unfold f_X_commonMultiple_L16 at hf
      refine lv_iload_n hx hb d_X_commonMultiple_16 rfl (lv_at hl 2 rfl) ?_
      refine lv_sipush (v := 2000) hx hb d_X_commonMultiple_17 (by decide) ?_
      refine lv_icmp_gt (tgt := 38) hx hb d_X_commonMultiple_20 (by decide) (fun c1 => ?_) (fun c1 => ?_)
      · have hf := oIf_t hf c1
        refine lv_sipush (v := 2001) hx hb d_X_commonMultiple_38 (by decide) ?_
        cases hf
        exact W.iret hx hb hr (fun t ht hW => ⟨_, rfl, rfl, ht⟩) (fun q h => by cases h) d_X_commonMultiple_41
      · have hf := oIf_f hf c1
        refine lv_iload_n hx hb d_X_commonMultiple_23 rfl (lv_at hl 2 rfl) ?_
        refine lv_iload_n hx hb d_X_commonMultiple_24 rfl (lv_at hl 1 rfl) ?_
        obtain ⟨hz2, hf⟩ := oNz_some hf
        refine lv_irem hx hb d_X_commonMultiple_25 hz2 ?_
        refine lv_if_ne (tgt := 31) hx hb d_X_commonMultiple_26 (by decide) (fun c3 => ?_) (fun c3 => ?_)
        · have hf := oIf_f hf c3
          refine lv_iload_n hx hb d_X_commonMultiple_31 rfl (lv_at hl 2 rfl) ?_
          refine lv_iload_n hx hb d_X_commonMultiple_32 rfl (lv_at hl 0 rfl) ?_
          refine lv_iadd hx hb d_X_commonMultiple_33 ?_
          refine lv_topi (fun v4 ev4 => ?_)
          have hf := oLet_some hf ev4
          refine lv_istore_n (lv' := [(2, .int v4), (0, .int x0), (1, .int x1)]) hx hb d_X_commonMultiple_34 rfl hl (by decide) rfl (fun ls hl => ?_)
          refine lv_goto (tgt := 16) hx hb d_X_commonMultiple_35 (by decide) ?_
          exact ofX _ _ _ _ _ (ih16 v4 _ hf (lv_sub hl [1, 2, 0] rfl))
        · have hf := oIf_t hf c3
          refine lv_iload_n hx hb d_X_commonMultiple_29 rfl (lv_at hl 2 rfl) ?_
          cases hf
          exact W.iret hx hb hr (fun t ht hW => ⟨_, rfl, rfl, ht⟩) (fun q h => by cases h) d_X_commonMultiple_30
  have K10 : ∀ (ls : Array Slot), f_X_commonMultiple_J10   = some r_ → lv_has ls 3 [] → Wx s.heap [] 0 0 (F0 m 10 ls []) := by
    intro  ls hf hl
    refine toX _ _ _ _ _ ?_
    unfold f_X_commonMultiple_J10 at hf
    refine lv_sipush (v := 2001) hx hb d_X_commonMultiple_10 (by decide) ?_
    cases hf
    exact W.iret hx hb hr (fun t ht hW => ⟨_, rfl, rfl, ht⟩) (fun q h => by cases h) d_X_commonMultiple_13
  refine toX _ _ _ _ _ ?_
  unfold f_X_commonMultiple at hf
  refine lv_iload_n hx hb d_X_commonMultiple_0 rfl (lv_at hl 0 rfl) ?_
  refine lv_iconst (v := 1) hx hb d_X_commonMultiple_1 (by decide) ?_
  refine lv_icmp_lt (tgt := 10) hx hb d_X_commonMultiple_2 (by decide) (fun c5 => ?_) (fun c5 => ?_)
  · have hf := oIf_t hf c5
    exact ofX _ _ _ _ _ (K10   _ hf (lv_sub hl [] rfl))
  · have hf := oIf_f hf c5
    refine lv_iload_n hx hb d_X_commonMultiple_5 rfl (lv_at hl 1 rfl) ?_
    refine lv_iconst (v := 1) hx hb d_X_commonMultiple_6 (by decide) ?_
    refine lv_icmp_ge (tgt := 14) hx hb d_X_commonMultiple_7 (by decide) (fun c6 => ?_) (fun c6 => ?_)
    · have hf := oIf_t hf c6
      refine lv_iload_n hx hb d_X_commonMultiple_14 rfl (lv_at hl 0 rfl) ?_
      refine lv_istore_n (lv' := [(2, .int x0), (0, .int x0), (1, .int x1)]) hx hb d_X_commonMultiple_15 rfl hl (by decide) rfl (fun ls hl => ?_)
      exact ofX _ _ _ _ _ (K16 x0 x1 _ x0 _ hf (lv_sub hl [1, 2, 0] rfl))
    · have hf := oIf_f hf c6
      exact ofX _ _ _ _ _ (K10   _ hf (lv_sub hl [] rfl))

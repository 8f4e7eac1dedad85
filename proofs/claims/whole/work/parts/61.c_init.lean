set_option maxHeartbeats 4000000 in
set_option maxRecDepth 100000 in
theorem c_B_init (l : Launch) (dC : Nat → ClassId) (dI : Nat → Nat → Nat) (qB : Nat) (cI cJ cQ : ClassId) (sz : Nat) (nP : Int32) (nQ : Int32) (o_nP : Int32) (o_nQ : Int32) (o_w7 : Nat → Int32) (o_w15 : Nat → Int32) (o_w23 : Nat → Int32) (o_w36 : Nat → Int32) (o_w44 : Nat → Int32) (o_w52 : Nat → Int32) (o_w60 : Nat → Int32) (o_w73 : Nat → Int64) (hf : f_B_init nP nQ = some (o_nP, o_nQ, o_w7, o_w15, o_w23, o_w36, o_w44, o_w52, o_w60, o_w73)) : Met l y_B_init w_B_init ({ frames := 1, cells := 8, slots := 320, locals := 20 }) (va_Pc [.ref qB] (fun U => U.heap.size = sz ∧ va_P (dC, dI) vwCl (w_Bi qB nP nQ) U.heap ∧ va_K (dC, dI) vwCl [(cI, .int), (cJ, .long), (cQ, .object "CutBodies$Contents")] U ∧ nestZ U ∧ va_D (fun _ => True) (w_Bi qB nP nQ))) (va_Qv (fun (_ : Nat × Nat × Nat × Nat × Nat × Nat × Nat × Nat) => True) (fun u t => va_P (dC, dI) vwCl [(qB, .inr (0, [.ref u.1, .ref u.2.1, .ref u.2.2.1, .int o_nP, .ref u.2.2.2.1, .ref u.2.2.2.2.1, .ref u.2.2.2.2.2.1, .ref u.2.2.2.2.2.2.1, .int o_nQ, .ref u.2.2.2.2.2.2.2])), (u.1, .inl (cI, 60, .inl o_w7)), (u.2.1, .inl (cI, 60, .inl o_w15)), (u.2.2.1, .inl (cI, 60, .inl o_w23)), (u.2.2.2.1, .inl (cI, 20, .inl o_w36)), (u.2.2.2.2.1, .inl (cI, 20, .inl o_w44)), (u.2.2.2.2.2.1, .inl (cI, 20, .inl o_w52)), (u.2.2.2.2.2.2.1, .inl (cI, 20, .inl o_w60)), (u.2.2.2.2.2.2.2, .inl (cJ, 60, .inr (.inl o_w73)))] t.heap ∧ va_D (va_A (w_Bi qB nP nQ) sz) [(qB, .inr (0, [.ref u.1, .ref u.2.1, .ref u.2.2.1, .int o_nP, .ref u.2.2.2.1, .ref u.2.2.2.2.1, .ref u.2.2.2.2.2.1, .ref u.2.2.2.2.2.2.1, .int o_nQ, .ref u.2.2.2.2.2.2.2])), (u.1, .inl (cI, 60, .inl o_w7)), (u.2.1, .inl (cI, 60, .inl o_w15)), (u.2.2.1, .inl (cI, 60, .inl o_w23)), (u.2.2.2.1, .inl (cI, 20, .inl o_w36)), (u.2.2.2.2.1, .inl (cI, 20, .inl o_w44)), (u.2.2.2.2.2.1, .inl (cI, 20, .inl o_w52)), (u.2.2.2.2.2.2.1, .inl (cI, 20, .inl o_w60)), (u.2.2.2.2.2.2.2, .inl (cJ, 60, .inr (.inl o_w73)))]) (va_A (w_Bi qB nP nQ) sz)) 8 320 (va_A (w_Bi qB nP nQ) sz) := by
  refine Met.ofW (cc := b_B_init) (maxL := 1) (ret := none) (by decide) rfl ?_
  intro p e s m args below meth c s₁ B hml hv
  obtain ⟨rfl, hsz, hP, hK, hZ, hD0⟩ := hv
  have hx := B.exec
  have hb := B.bytes
  have hr := B.returns
  have hts := atoms_spec (ws := w_B_init) B.pre
  have ht : ∀ w ∈ wAll, w.before _ s = true := fun w h => hts w (List.mem_cons_of_mem _ h)
  have hown : s.vm.findClass R_B = some m.cls := findClass_of_methodNamed B.named
  have hlocks := B.notSynchronized
  have hin : meth.name = "<init>" := (name_of_methodNamed B.named B.method).1
  subst hsz
  have hD := hD0.self (sz := s.heap.size)
  generalize hAe : va_A (w_Bi qB nP nQ) s.heap.size = A at hD ⊢
  have hA : ∀ q : Nat, s.heap.size ≤ q → A q := fun q h => by rw [← hAe]; exact Or.inr h
  have hS : va_S A s.heap s.heap [] := va_S.rf
  have hP : va_P (dC, dI) vwCl (w_Bi qB nP nQ) s.heap := hP
  have hl := lv_entry ([.ref qB]) (n := 1) (Nat.le_of_ble_eq_true rfl)
  rw [lg_entry_eq]
  generalize (lg_sl ([.ref qB]) ++ List.replicate (1 - (lg_sl ([.ref qB])).length) Slot.unset).toArray = ls at hl ⊢
  have hl : lv_has ls 1 [(0, .ref qB)] := hl
  unfold f_B_init at hf
  obtain ⟨H, hH⟩ : ∃ z, z = s.heap := ⟨_, rfl⟩
  have hS : va_S A s.heap H [] := by rw [hH]; exact hS
  have hP : va_P (dC, dI) vwCl (w_Bi qB nP nQ) H := by rw [hH]; exact hP
  refine w_heap hH ?_
  refine lv_aload_n hx hb d_B_init_0 rfl (lv_at hl 0 rfl) ?_
  refine W.objInit hx hb hown (ht _ m_48) (ht _ m_41) (ht _ m_42) rfl (by rw [hml]; exact hl.1) rfl d_B_init_1 (Nat.le_of_ble_eq_true rfl) (Nat.le_of_ble_eq_true rfl) ?_
  refine W.eq (g2 := F0 m 4 ls []) rfl ?_
  refine lv_aload_n hx hb d_B_init_4 rfl (lv_at hl 0 rfl) ?_
  refine lv_bipush (v := 60) hx hb d_B_init_5 (by decide) ?_
  refine va_newa (atype := .int) (ty := .int) (N' := 60) (a0 := (60, .inl (fun _ => 0))) hx hb (ht _ m_82) rfl hK hP hD hS hA (fun _ => rfl) (by decide) (by decide) (by decide) (Nat.le_of_ble_eq_true rfl) (Nat.le_of_ble_eq_true rfl) d_B_init_7 (fun q7 cZ H hKz hP hD hS => ?_)
  have ecZ : cZ = cI := va_tyI (i := 0) hKz rfl rfl
  rw [ecZ] at hP hD
  have hP : va_P (dC, dI) vwCl [(qB, .inr (0, [.null, .null, .null, .int nP, .null, .null, .null, .null, .int nQ, .null])), (q7, .inl (cI, 60, .inl (fun _ => 0)))] H := hP
  have hD : va_D A [(qB, .inr (0, [.null, .null, .null, .int nP, .null, .null, .null, .null, .int nQ, .null])), (q7, .inl (cI, 60, .inl (fun _ => 0)))] := hD
  clear hKz ecZ
  refine W.widen (k := 1) (n := 60) (Nat.le_of_ble_eq_true rfl) (Nat.le_of_ble_eq_true rfl) ?_
  refine va_putF (D := (dC, dI)) (ci := 0) (v := .ref q7) (ty := .array .int) (C := R_B) (T := T_B) (N := 10) hx hb ht in_B t_B t_B_ok n_B hown hK hP hD hS 0 rfl rfl 0 (by decide) (ht _ m_49) (fun _ h9 => h9) rfl hin rfl (by decide +kernel) rfl rfl (Nat.le_of_ble_eq_true rfl) d_B_init_9 (fun H locs hP hD hS => ?_)
  have hP : va_P (dC, dI) vwCl [(qB, .inr (0, [.ref q7, .null, .null, .int nP, .null, .null, .null, .null, .int nQ, .null])), (q7, .inl (cI, 60, .inl (fun _ => 0)))] H := hP
  have hD : va_D A [(qB, .inr (0, [.ref q7, .null, .null, .int nP, .null, .null, .null, .null, .int nQ, .null])), (q7, .inl (cI, 60, .inl (fun _ => 0)))] := hD
  refine lv_aload_n hx hb d_B_init_12 rfl (lv_at hl 0 rfl) ?_
  refine lv_bipush (v := 60) hx hb d_B_init_13 (by decide) ?_
  refine va_newa (atype := .int) (ty := .int) (N' := 60) (a0 := (60, .inl (fun _ => 0))) hx hb (ht _ m_82) rfl hK hP hD hS hA (fun _ => rfl) (by decide) (by decide) (by decide) (Nat.le_of_ble_eq_true rfl) (Nat.le_of_ble_eq_true rfl) d_B_init_15 (fun q15 cZ H hKz hP hD hS => ?_)
  have ecZ : cZ = cI := va_tyI (i := 0) hKz rfl rfl
  rw [ecZ] at hP hD
  have hP : va_P (dC, dI) vwCl [(qB, .inr (0, [.ref q7, .null, .null, .int nP, .null, .null, .null, .null, .int nQ, .null])), (q7, .inl (cI, 60, .inl (fun _ => 0))), (q15, .inl (cI, 60, .inl (fun _ => 0)))] H := hP
  have hD : va_D A [(qB, .inr (0, [.ref q7, .null, .null, .int nP, .null, .null, .null, .null, .int nQ, .null])), (q7, .inl (cI, 60, .inl (fun _ => 0))), (q15, .inl (cI, 60, .inl (fun _ => 0)))] := hD
  clear hKz ecZ
  refine W.widen (k := 2) (n := 120) (Nat.le_of_ble_eq_true rfl) (Nat.le_of_ble_eq_true rfl) ?_
  refine va_putF (D := (dC, dI)) (ci := 0) (v := .ref q15) (ty := .array .int) (C := R_B) (T := T_B) (N := 10) hx hb ht in_B t_B t_B_ok n_B hown hK hP hD hS 0 rfl rfl 1 (by decide) (ht _ m_50) (fun _ h9 => h9) rfl hin rfl (by decide +kernel) rfl rfl (Nat.le_of_ble_eq_true rfl) d_B_init_17 (fun H locs hP hD hS => ?_)
  have hP : va_P (dC, dI) vwCl [(qB, .inr (0, [.ref q7, .ref q15, .null, .int nP, .null, .null, .null, .null, .int nQ, .null])), (q7, .inl (cI, 60, .inl (fun _ => 0))), (q15, .inl (cI, 60, .inl (fun _ => 0)))] H := hP
  have hD : va_D A [(qB, .inr (0, [.ref q7, .ref q15, .null, .int nP, .null, .null, .null, .null, .int nQ, .null])), (q7, .inl (cI, 60, .inl (fun _ => 0))), (q15, .inl (cI, 60, .inl (fun _ => 0)))] := hD
  refine lv_aload_n hx hb d_B_init_20 rfl (lv_at hl 0 rfl) ?_
  refine lv_bipush (v := 60) hx hb d_B_init_21 (by decide) ?_
  refine va_newa (atype := .int) (ty := .int) (N' := 60) (a0 := (60, .inl (fun _ => 0))) hx hb (ht _ m_82) rfl hK hP hD hS hA (fun _ => rfl) (by decide) (by decide) (by decide) (Nat.le_of_ble_eq_true rfl) (Nat.le_of_ble_eq_true rfl) d_B_init_23 (fun q23 cZ H hKz hP hD hS => ?_)
  have ecZ : cZ = cI := va_tyI (i := 0) hKz rfl rfl
  rw [ecZ] at hP hD
  have hP : va_P (dC, dI) vwCl [(qB, .inr (0, [.ref q7, .ref q15, .null, .int nP, .null, .null, .null, .null, .int nQ, .null])), (q7, .inl (cI, 60, .inl (fun _ => 0))), (q15, .inl (cI, 60, .inl (fun _ => 0))), (q23, .inl (cI, 60, .inl (fun _ => 0)))] H := hP
  have hD : va_D A [(qB, .inr (0, [.ref q7, .ref q15, .null, .int nP, .null, .null, .null, .null, .int nQ, .null])), (q7, .inl (cI, 60, .inl (fun _ => 0))), (q15, .inl (cI, 60, .inl (fun _ => 0))), (q23, .inl (cI, 60, .inl (fun _ => 0)))] := hD
  clear hKz ecZ
  refine W.widen (k := 3) (n := 180) (Nat.le_of_ble_eq_true rfl) (Nat.le_of_ble_eq_true rfl) ?_
  refine va_putF (D := (dC, dI)) (ci := 0) (v := .ref q23) (ty := .array .int) (C := R_B) (T := T_B) (N := 10) hx hb ht in_B t_B t_B_ok n_B hown hK hP hD hS 0 rfl rfl 2 (by decide) (ht _ m_51) (fun _ h9 => h9) rfl hin rfl (by decide +kernel) rfl rfl (Nat.le_of_ble_eq_true rfl) d_B_init_25 (fun H locs hP hD hS => ?_)
  have hP : va_P (dC, dI) vwCl [(qB, .inr (0, [.ref q7, .ref q15, .ref q23, .int nP, .null, .null, .null, .null, .int nQ, .null])), (q7, .inl (cI, 60, .inl (fun _ => 0))), (q15, .inl (cI, 60, .inl (fun _ => 0))), (q23, .inl (cI, 60, .inl (fun _ => 0)))] H := hP
  have hD : va_D A [(qB, .inr (0, [.ref q7, .ref q15, .ref q23, .int nP, .null, .null, .null, .null, .int nQ, .null])), (q7, .inl (cI, 60, .inl (fun _ => 0))), (q15, .inl (cI, 60, .inl (fun _ => 0))), (q23, .inl (cI, 60, .inl (fun _ => 0)))] := hD
  refine lv_aload_n hx hb d_B_init_28 rfl (lv_at hl 0 rfl) ?_
  refine lv_iconst (v := 0) hx hb d_B_init_29 (by decide) ?_
  refine va_put (D := (dC, dI)) (ci := 0) (v := .int 0) (ty := .int) (C := R_B) (T := T_B) (N := 10) hx hb ht in_B t_B t_B_ok n_B hown hK hP hD hS 0 rfl rfl 3 (by decide) (ht _ m_52) (fun _ h9 => h9) rfl (by decide +kernel) rfl rfl (Nat.le_of_ble_eq_true rfl) d_B_init_30 (fun H locs hP hD hS => ?_)
  have hP : va_P (dC, dI) vwCl [(qB, .inr (0, [.ref q7, .ref q15, .ref q23, .int 0, .null, .null, .null, .null, .int nQ, .null])), (q7, .inl (cI, 60, .inl (fun _ => 0))), (q15, .inl (cI, 60, .inl (fun _ => 0))), (q23, .inl (cI, 60, .inl (fun _ => 0)))] H := hP
  have hD : va_D A [(qB, .inr (0, [.ref q7, .ref q15, .ref q23, .int 0, .null, .null, .null, .null, .int nQ, .null])), (q7, .inl (cI, 60, .inl (fun _ => 0))), (q15, .inl (cI, 60, .inl (fun _ => 0))), (q23, .inl (cI, 60, .inl (fun _ => 0)))] := hD
  refine lv_aload_n hx hb d_B_init_33 rfl (lv_at hl 0 rfl) ?_
  refine lv_bipush (v := 20) hx hb d_B_init_34 (by decide) ?_
  refine va_newa (atype := .int) (ty := .int) (N' := 20) (a0 := (20, .inl (fun _ => 0))) hx hb (ht _ m_82) rfl hK hP hD hS hA (fun _ => rfl) (by decide) (by decide) (by decide) (Nat.le_of_ble_eq_true rfl) (Nat.le_of_ble_eq_true rfl) d_B_init_36 (fun q36 cZ H hKz hP hD hS => ?_)
  have ecZ : cZ = cI := va_tyI (i := 0) hKz rfl rfl
  rw [ecZ] at hP hD
  have hP : va_P (dC, dI) vwCl [(qB, .inr (0, [.ref q7, .ref q15, .ref q23, .int 0, .null, .null, .null, .null, .int nQ, .null])), (q7, .inl (cI, 60, .inl (fun _ => 0))), (q15, .inl (cI, 60, .inl (fun _ => 0))), (q23, .inl (cI, 60, .inl (fun _ => 0))), (q36, .inl (cI, 20, .inl (fun _ => 0)))] H := hP
  have hD : va_D A [(qB, .inr (0, [.ref q7, .ref q15, .ref q23, .int 0, .null, .null, .null, .null, .int nQ, .null])), (q7, .inl (cI, 60, .inl (fun _ => 0))), (q15, .inl (cI, 60, .inl (fun _ => 0))), (q23, .inl (cI, 60, .inl (fun _ => 0))), (q36, .inl (cI, 20, .inl (fun _ => 0)))] := hD
  clear hKz ecZ
  refine W.widen (k := 4) (n := 200) (Nat.le_of_ble_eq_true rfl) (Nat.le_of_ble_eq_true rfl) ?_
  refine va_putF (D := (dC, dI)) (ci := 0) (v := .ref q36) (ty := .array .int) (C := R_B) (T := T_B) (N := 10) hx hb ht in_B t_B t_B_ok n_B hown hK hP hD hS 0 rfl rfl 4 (by decide) (ht _ m_54) (fun _ h9 => h9) rfl hin rfl (by decide +kernel) rfl rfl (Nat.le_of_ble_eq_true rfl) d_B_init_38 (fun H locs hP hD hS => ?_)
  have hP : va_P (dC, dI) vwCl [(qB, .inr (0, [.ref q7, .ref q15, .ref q23, .int 0, .ref q36, .null, .null, .null, .int nQ, .null])), (q7, .inl (cI, 60, .inl (fun _ => 0))), (q15, .inl (cI, 60, .inl (fun _ => 0))), (q23, .inl (cI, 60, .inl (fun _ => 0))), (q36, .inl (cI, 20, .inl (fun _ => 0)))] H := hP
  have hD : va_D A [(qB, .inr (0, [.ref q7, .ref q15, .ref q23, .int 0, .ref q36, .null, .null, .null, .int nQ, .null])), (q7, .inl (cI, 60, .inl (fun _ => 0))), (q15, .inl (cI, 60, .inl (fun _ => 0))), (q23, .inl (cI, 60, .inl (fun _ => 0))), (q36, .inl (cI, 20, .inl (fun _ => 0)))] := hD
  refine lv_aload_n hx hb d_B_init_41 rfl (lv_at hl 0 rfl) ?_
  refine lv_bipush (v := 20) hx hb d_B_init_42 (by decide) ?_
  refine va_newa (atype := .int) (ty := .int) (N' := 20) (a0 := (20, .inl (fun _ => 0))) hx hb (ht _ m_82) rfl hK hP hD hS hA (fun _ => rfl) (by decide) (by decide) (by decide) (Nat.le_of_ble_eq_true rfl) (Nat.le_of_ble_eq_true rfl) d_B_init_44 (fun q44 cZ H hKz hP hD hS => ?_)
  have ecZ : cZ = cI := va_tyI (i := 0) hKz rfl rfl
  rw [ecZ] at hP hD
  have hP : va_P (dC, dI) vwCl [(qB, .inr (0, [.ref q7, .ref q15, .ref q23, .int 0, .ref q36, .null, .null, .null, .int nQ, .null])), (q7, .inl (cI, 60, .inl (fun _ => 0))), (q15, .inl (cI, 60, .inl (fun _ => 0))), (q23, .inl (cI, 60, .inl (fun _ => 0))), (q36, .inl (cI, 20, .inl (fun _ => 0))), (q44, .inl (cI, 20, .inl (fun _ => 0)))] H := hP
  have hD : va_D A [(qB, .inr (0, [.ref q7, .ref q15, .ref q23, .int 0, .ref q36, .null, .null, .null, .int nQ, .null])), (q7, .inl (cI, 60, .inl (fun _ => 0))), (q15, .inl (cI, 60, .inl (fun _ => 0))), (q23, .inl (cI, 60, .inl (fun _ => 0))), (q36, .inl (cI, 20, .inl (fun _ => 0))), (q44, .inl (cI, 20, .inl (fun _ => 0)))] := hD
  clear hKz ecZ
  refine W.widen (k := 5) (n := 220) (Nat.le_of_ble_eq_true rfl) (Nat.le_of_ble_eq_true rfl) ?_
  refine va_putF (D := (dC, dI)) (ci := 0) (v := .ref q44) (ty := .array .int) (C := R_B) (T := T_B) (N := 10) hx hb ht in_B t_B t_B_ok n_B hown hK hP hD hS 0 rfl rfl 5 (by decide) (ht _ m_55) (fun _ h9 => h9) rfl hin rfl (by decide +kernel) rfl rfl (Nat.le_of_ble_eq_true rfl) d_B_init_46 (fun H locs hP hD hS => ?_)
  have hP : va_P (dC, dI) vwCl [(qB, .inr (0, [.ref q7, .ref q15, .ref q23, .int 0, .ref q36, .ref q44, .null, .null, .int nQ, .null])), (q7, .inl (cI, 60, .inl (fun _ => 0))), (q15, .inl (cI, 60, .inl (fun _ => 0))), (q23, .inl (cI, 60, .inl (fun _ => 0))), (q36, .inl (cI, 20, .inl (fun _ => 0))), (q44, .inl (cI, 20, .inl (fun _ => 0)))] H := hP
  have hD : va_D A [(qB, .inr (0, [.ref q7, .ref q15, .ref q23, .int 0, .ref q36, .ref q44, .null, .null, .int nQ, .null])), (q7, .inl (cI, 60, .inl (fun _ => 0))), (q15, .inl (cI, 60, .inl (fun _ => 0))), (q23, .inl (cI, 60, .inl (fun _ => 0))), (q36, .inl (cI, 20, .inl (fun _ => 0))), (q44, .inl (cI, 20, .inl (fun _ => 0)))] := hD
  refine lv_aload_n hx hb d_B_init_49 rfl (lv_at hl 0 rfl) ?_
  refine lv_bipush (v := 20) hx hb d_B_init_50 (by decide) ?_
  refine va_newa (atype := .int) (ty := .int) (N' := 20) (a0 := (20, .inl (fun _ => 0))) hx hb (ht _ m_82) rfl hK hP hD hS hA (fun _ => rfl) (by decide) (by decide) (by decide) (Nat.le_of_ble_eq_true rfl) (Nat.le_of_ble_eq_true rfl) d_B_init_52 (fun q52 cZ H hKz hP hD hS => ?_)
  have ecZ : cZ = cI := va_tyI (i := 0) hKz rfl rfl
  rw [ecZ] at hP hD
  have hP : va_P (dC, dI) vwCl [(qB, .inr (0, [.ref q7, .ref q15, .ref q23, .int 0, .ref q36, .ref q44, .null, .null, .int nQ, .null])), (q7, .inl (cI, 60, .inl (fun _ => 0))), (q15, .inl (cI, 60, .inl (fun _ => 0))), (q23, .inl (cI, 60, .inl (fun _ => 0))), (q36, .inl (cI, 20, .inl (fun _ => 0))), (q44, .inl (cI, 20, .inl (fun _ => 0))), (q52, .inl (cI, 20, .inl (fun _ => 0)))] H := hP
  have hD : va_D A [(qB, .inr (0, [.ref q7, .ref q15, .ref q23, .int 0, .ref q36, .ref q44, .null, .null, .int nQ, .null])), (q7, .inl (cI, 60, .inl (fun _ => 0))), (q15, .inl (cI, 60, .inl (fun _ => 0))), (q23, .inl (cI, 60, .inl (fun _ => 0))), (q36, .inl (cI, 20, .inl (fun _ => 0))), (q44, .inl (cI, 20, .inl (fun _ => 0))), (q52, .inl (cI, 20, .inl (fun _ => 0)))] := hD
  clear hKz ecZ
  refine W.widen (k := 6) (n := 240) (Nat.le_of_ble_eq_true rfl) (Nat.le_of_ble_eq_true rfl) ?_
  refine va_putF (D := (dC, dI)) (ci := 0) (v := .ref q52) (ty := .array .int) (C := R_B) (T := T_B) (N := 10) hx hb ht in_B t_B t_B_ok n_B hown hK hP hD hS 0 rfl rfl 6 (by decide) (ht _ m_56) (fun _ h9 => h9) rfl hin rfl (by decide +kernel) rfl rfl (Nat.le_of_ble_eq_true rfl) d_B_init_54 (fun H locs hP hD hS => ?_)
  have hP : va_P (dC, dI) vwCl [(qB, .inr (0, [.ref q7, .ref q15, .ref q23, .int 0, .ref q36, .ref q44, .ref q52, .null, .int nQ, .null])), (q7, .inl (cI, 60, .inl (fun _ => 0))), (q15, .inl (cI, 60, .inl (fun _ => 0))), (q23, .inl (cI, 60, .inl (fun _ => 0))), (q36, .inl (cI, 20, .inl (fun _ => 0))), (q44, .inl (cI, 20, .inl (fun _ => 0))), (q52, .inl (cI, 20, .inl (fun _ => 0)))] H := hP
  have hD : va_D A [(qB, .inr (0, [.ref q7, .ref q15, .ref q23, .int 0, .ref q36, .ref q44, .ref q52, .null, .int nQ, .null])), (q7, .inl (cI, 60, .inl (fun _ => 0))), (q15, .inl (cI, 60, .inl (fun _ => 0))), (q23, .inl (cI, 60, .inl (fun _ => 0))), (q36, .inl (cI, 20, .inl (fun _ => 0))), (q44, .inl (cI, 20, .inl (fun _ => 0))), (q52, .inl (cI, 20, .inl (fun _ => 0)))] := hD
  refine lv_aload_n hx hb d_B_init_57 rfl (lv_at hl 0 rfl) ?_
  refine lv_bipush (v := 20) hx hb d_B_init_58 (by decide) ?_
  refine va_newa (atype := .int) (ty := .int) (N' := 20) (a0 := (20, .inl (fun _ => 0))) hx hb (ht _ m_82) rfl hK hP hD hS hA (fun _ => rfl) (by decide) (by decide) (by decide) (Nat.le_of_ble_eq_true rfl) (Nat.le_of_ble_eq_true rfl) d_B_init_60 (fun q60 cZ H hKz hP hD hS => ?_)
  have ecZ : cZ = cI := va_tyI (i := 0) hKz rfl rfl
  rw [ecZ] at hP hD
  have hP : va_P (dC, dI) vwCl [(qB, .inr (0, [.ref q7, .ref q15, .ref q23, .int 0, .ref q36, .ref q44, .ref q52, .null, .int nQ, .null])), (q7, .inl (cI, 60, .inl (fun _ => 0))), (q15, .inl (cI, 60, .inl (fun _ => 0))), (q23, .inl (cI, 60, .inl (fun _ => 0))), (q36, .inl (cI, 20, .inl (fun _ => 0))), (q44, .inl (cI, 20, .inl (fun _ => 0))), (q52, .inl (cI, 20, .inl (fun _ => 0))), (q60, .inl (cI, 20, .inl (fun _ => 0)))] H := hP
  have hD : va_D A [(qB, .inr (0, [.ref q7, .ref q15, .ref q23, .int 0, .ref q36, .ref q44, .ref q52, .null, .int nQ, .null])), (q7, .inl (cI, 60, .inl (fun _ => 0))), (q15, .inl (cI, 60, .inl (fun _ => 0))), (q23, .inl (cI, 60, .inl (fun _ => 0))), (q36, .inl (cI, 20, .inl (fun _ => 0))), (q44, .inl (cI, 20, .inl (fun _ => 0))), (q52, .inl (cI, 20, .inl (fun _ => 0))), (q60, .inl (cI, 20, .inl (fun _ => 0)))] := hD
  clear hKz ecZ
  refine W.widen (k := 7) (n := 260) (Nat.le_of_ble_eq_true rfl) (Nat.le_of_ble_eq_true rfl) ?_
  refine va_putF (D := (dC, dI)) (ci := 0) (v := .ref q60) (ty := .array .int) (C := R_B) (T := T_B) (N := 10) hx hb ht in_B t_B t_B_ok n_B hown hK hP hD hS 0 rfl rfl 7 (by decide) (ht _ m_57) (fun _ h9 => h9) rfl hin rfl (by decide +kernel) rfl rfl (Nat.le_of_ble_eq_true rfl) d_B_init_62 (fun H locs hP hD hS => ?_)
  have hP : va_P (dC, dI) vwCl [(qB, .inr (0, [.ref q7, .ref q15, .ref q23, .int 0, .ref q36, .ref q44, .ref q52, .ref q60, .int nQ, .null])), (q7, .inl (cI, 60, .inl (fun _ => 0))), (q15, .inl (cI, 60, .inl (fun _ => 0))), (q23, .inl (cI, 60, .inl (fun _ => 0))), (q36, .inl (cI, 20, .inl (fun _ => 0))), (q44, .inl (cI, 20, .inl (fun _ => 0))), (q52, .inl (cI, 20, .inl (fun _ => 0))), (q60, .inl (cI, 20, .inl (fun _ => 0)))] H := hP
  have hD : va_D A [(qB, .inr (0, [.ref q7, .ref q15, .ref q23, .int 0, .ref q36, .ref q44, .ref q52, .ref q60, .int nQ, .null])), (q7, .inl (cI, 60, .inl (fun _ => 0))), (q15, .inl (cI, 60, .inl (fun _ => 0))), (q23, .inl (cI, 60, .inl (fun _ => 0))), (q36, .inl (cI, 20, .inl (fun _ => 0))), (q44, .inl (cI, 20, .inl (fun _ => 0))), (q52, .inl (cI, 20, .inl (fun _ => 0))), (q60, .inl (cI, 20, .inl (fun _ => 0)))] := hD
  refine lv_aload_n hx hb d_B_init_65 rfl (lv_at hl 0 rfl) ?_
  refine lv_iconst (v := 0) hx hb d_B_init_66 (by decide) ?_
  refine va_put (D := (dC, dI)) (ci := 0) (v := .int 0) (ty := .int) (C := R_B) (T := T_B) (N := 10) hx hb ht in_B t_B t_B_ok n_B hown hK hP hD hS 0 rfl rfl 8 (by decide) (ht _ m_58) (fun _ h9 => h9) rfl (by decide +kernel) rfl rfl (Nat.le_of_ble_eq_true rfl) d_B_init_67 (fun H locs hP hD hS => ?_)
  have hP : va_P (dC, dI) vwCl [(qB, .inr (0, [.ref q7, .ref q15, .ref q23, .int 0, .ref q36, .ref q44, .ref q52, .ref q60, .int 0, .null])), (q7, .inl (cI, 60, .inl (fun _ => 0))), (q15, .inl (cI, 60, .inl (fun _ => 0))), (q23, .inl (cI, 60, .inl (fun _ => 0))), (q36, .inl (cI, 20, .inl (fun _ => 0))), (q44, .inl (cI, 20, .inl (fun _ => 0))), (q52, .inl (cI, 20, .inl (fun _ => 0))), (q60, .inl (cI, 20, .inl (fun _ => 0)))] H := hP
  have hD : va_D A [(qB, .inr (0, [.ref q7, .ref q15, .ref q23, .int 0, .ref q36, .ref q44, .ref q52, .ref q60, .int 0, .null])), (q7, .inl (cI, 60, .inl (fun _ => 0))), (q15, .inl (cI, 60, .inl (fun _ => 0))), (q23, .inl (cI, 60, .inl (fun _ => 0))), (q36, .inl (cI, 20, .inl (fun _ => 0))), (q44, .inl (cI, 20, .inl (fun _ => 0))), (q52, .inl (cI, 20, .inl (fun _ => 0))), (q60, .inl (cI, 20, .inl (fun _ => 0)))] := hD
  refine lv_aload_n hx hb d_B_init_70 rfl (lv_at hl 0 rfl) ?_
  refine lv_bipush (v := 60) hx hb d_B_init_71 (by decide) ?_
  refine va_newa (atype := .long) (ty := .long) (N' := 60) (a0 := (60, .inr (.inl (fun _ => 0)))) hx hb (ht _ m_83) rfl hK hP hD hS hA (fun _ => rfl) (by decide) (by decide) (by decide) (Nat.le_of_ble_eq_true rfl) (Nat.le_of_ble_eq_true rfl) d_B_init_73 (fun q73 cZ H hKz hP hD hS => ?_)
  have ecZ : cZ = cJ := va_tyJ (i := 1) hKz rfl rfl
  rw [ecZ] at hP hD
  have hP : va_P (dC, dI) vwCl [(qB, .inr (0, [.ref q7, .ref q15, .ref q23, .int 0, .ref q36, .ref q44, .ref q52, .ref q60, .int 0, .null])), (q7, .inl (cI, 60, .inl (fun _ => 0))), (q15, .inl (cI, 60, .inl (fun _ => 0))), (q23, .inl (cI, 60, .inl (fun _ => 0))), (q36, .inl (cI, 20, .inl (fun _ => 0))), (q44, .inl (cI, 20, .inl (fun _ => 0))), (q52, .inl (cI, 20, .inl (fun _ => 0))), (q60, .inl (cI, 20, .inl (fun _ => 0))), (q73, .inl (cJ, 60, .inr (.inl (fun _ => 0))))] H := hP
  have hD : va_D A [(qB, .inr (0, [.ref q7, .ref q15, .ref q23, .int 0, .ref q36, .ref q44, .ref q52, .ref q60, .int 0, .null])), (q7, .inl (cI, 60, .inl (fun _ => 0))), (q15, .inl (cI, 60, .inl (fun _ => 0))), (q23, .inl (cI, 60, .inl (fun _ => 0))), (q36, .inl (cI, 20, .inl (fun _ => 0))), (q44, .inl (cI, 20, .inl (fun _ => 0))), (q52, .inl (cI, 20, .inl (fun _ => 0))), (q60, .inl (cI, 20, .inl (fun _ => 0))), (q73, .inl (cJ, 60, .inr (.inl (fun _ => 0))))] := hD
  clear hKz ecZ
  refine W.widen (k := 8) (n := 320) (Nat.le_of_ble_eq_true rfl) (Nat.le_of_ble_eq_true rfl) ?_
  refine va_putF (D := (dC, dI)) (ci := 0) (v := .ref q73) (ty := .array .long) (C := R_B) (T := T_B) (N := 10) hx hb ht in_B t_B t_B_ok n_B hown hK hP hD hS 0 rfl rfl 9 (by decide) (ht _ m_60) (fun _ h9 => h9) rfl hin rfl (by decide +kernel) rfl rfl (Nat.le_of_ble_eq_true rfl) d_B_init_75 (fun H locs hP hD hS => ?_)
  have hP : va_P (dC, dI) vwCl [(qB, .inr (0, [.ref q7, .ref q15, .ref q23, .int 0, .ref q36, .ref q44, .ref q52, .ref q60, .int 0, .ref q73])), (q7, .inl (cI, 60, .inl (fun _ => 0))), (q15, .inl (cI, 60, .inl (fun _ => 0))), (q23, .inl (cI, 60, .inl (fun _ => 0))), (q36, .inl (cI, 20, .inl (fun _ => 0))), (q44, .inl (cI, 20, .inl (fun _ => 0))), (q52, .inl (cI, 20, .inl (fun _ => 0))), (q60, .inl (cI, 20, .inl (fun _ => 0))), (q73, .inl (cJ, 60, .inr (.inl (fun _ => 0))))] H := hP
  have hD : va_D A [(qB, .inr (0, [.ref q7, .ref q15, .ref q23, .int 0, .ref q36, .ref q44, .ref q52, .ref q60, .int 0, .ref q73])), (q7, .inl (cI, 60, .inl (fun _ => 0))), (q15, .inl (cI, 60, .inl (fun _ => 0))), (q23, .inl (cI, 60, .inl (fun _ => 0))), (q36, .inl (cI, 20, .inl (fun _ => 0))), (q44, .inl (cI, 20, .inl (fun _ => 0))), (q52, .inl (cI, 20, .inl (fun _ => 0))), (q60, .inl (cI, 20, .inl (fun _ => 0))), (q73, .inl (cJ, 60, .inr (.inl (fun _ => 0))))] := hD
  cases hf
  exact W.vret hx hb hr (fun t ht hW => ⟨⟨(q7, q15, q23, q36, q44, q52, q60, q73), rfl, trivial, by rw [ht]; exact hP, hD⟩, hS.F ht⟩) hS.2.2 d_B_init_78
set_option maxHeartbeats 4000000 in
set_option maxRecDepth 100000 in
theorem c_C_init (l : Launch) (dC : Nat → ClassId) (dI : Nat → Nat → Nat) (qC : Nat) (cI cJ cQ : ClassId) (sz : Nat) (o_w7 : Nat → Int32) (o_w15 : Nat → Int32) (hf : f_C_init = some (o_w7, o_w15)) : Met l y_C_init w_C_init ({ frames := 1, cells := 2, slots := 120, locals := 20 }) (va_Pc [.ref qC] (fun U => U.heap.size = sz ∧ va_P (dC, dI) vwCl (w_Ci qC) U.heap ∧ va_K (dC, dI) vwCl [(cI, .int), (cJ, .long), (cQ, .object "CutBodies$Contents")] U ∧ nestZ U ∧ va_D (fun _ => True) (w_Ci qC))) (va_Qv (fun (_ : Nat × Nat) => True) (fun u t => va_P (dC, dI) vwCl [(qC, .inr (1, [.ref u.1, .ref u.2])), (u.1, .inl (cI, 60, .inl o_w7)), (u.2, .inl (cI, 60, .inl o_w15))] t.heap ∧ va_D (va_A (w_Ci qC) sz) [(qC, .inr (1, [.ref u.1, .ref u.2])), (u.1, .inl (cI, 60, .inl o_w7)), (u.2, .inl (cI, 60, .inl o_w15))]) (va_A (w_Ci qC) sz)) 2 120 (va_A (w_Ci qC) sz) := by
  refine Met.ofW (cc := b_C_init) (maxL := 2) (ret := none) (by decide) rfl ?_
  intro p e s m args below meth c s₁ B hml hv
  obtain ⟨rfl, hsz, hP, hK, hZ, hD0⟩ := hv
  have hx := B.exec
  have hb := B.bytes
  have hr := B.returns
  have hts := atoms_spec (ws := w_C_init) B.pre
  have ht : ∀ w ∈ wAll, w.before _ s = true := fun w h => hts w (List.mem_cons_of_mem _ h)
  have hown : s.vm.findClass R_C = some m.cls := findClass_of_methodNamed B.named
  have hlocks := B.notSynchronized
  have hin : meth.name = "<init>" := (name_of_methodNamed B.named B.method).1
  subst hsz
  have hD := hD0.self (sz := s.heap.size)
  generalize hAe : va_A (w_Ci qC) s.heap.size = A at hD ⊢
  have hA : ∀ q : Nat, s.heap.size ≤ q → A q := fun q h => by rw [← hAe]; exact Or.inr h
  have hS : va_S A s.heap s.heap [] := va_S.rf
  have hP : va_P (dC, dI) vwCl (w_Ci qC) s.heap := hP
  have hl := lv_entry ([.ref qC]) (n := 2) (Nat.le_of_ble_eq_true rfl)
  rw [lg_entry_eq]
  generalize (lg_sl ([.ref qC]) ++ List.replicate (2 - (lg_sl ([.ref qC])).length) Slot.unset).toArray = ls at hl ⊢
  have hl : lv_has ls 2 [(0, .ref qC)] := hl
  refine w_abs (fun Wx toX ofX => ?_)
  have K22 : ∀ (q7 : Nat) (q15 : Nat) (w15 : Nat → Int32) (n : Nat) (x1 : Int32) (w7 : Nat → Int32) (H : Heap) (locs : List Loc) (ls : Array Slot), oLoop2 (f_C_init_L22  w15) n x1 w7 = some (o_w7, o_w15) → va_P (dC, dI) vwCl [(qC, .inr (1, [.ref q7, .ref q15])), (q7, .inl (cI, 60, .inl w7)), (q15, .inl (cI, 60, .inl w15))] H → va_D A [(qC, .inr (1, [.ref q7, .ref q15])), (q7, .inl (cI, 60, .inl w7)), (q15, .inl (cI, 60, .inl w15))] → va_S A s.heap H locs → lv_has ls 2 [(0, .ref qC), (1, .int x1)] → Wx H locs 2 120 (F0 m 22 ls []) := by
    intro q7 q15 w15 n
    induction n with
    | zero => intro x1 w7 H locs ls hf; exact (oLoop2_0 hf).elim
    | succ n ih22 =>
      obtain ⟨rec22, hrec22⟩ : ∃ z, z = oLoop2 (f_C_init_L22  w15) n := ⟨_, rfl⟩
      rw [← hrec22] at ih22
      intro x1 w7 H locs ls hf hP hD hS hl
      refine toX _ _ _ _ _ ?_
      have hf := oLoop2_s hf
      rw [← hrec22] at hf
      unfold f_C_init_L22 at hf
      refine lv_iload_n hx hb d_C_init_22 rfl (lv_at hl 1 rfl) ?_
      refine lv_bipush (v := 60) hx hb d_C_init_23 (by decide) ?_
      refine lv_icmp_ge (tgt := 41) hx hb d_C_init_25 (by decide) (fun c1 => ?_) (fun c1 => ?_)
      · have hf := oIf_t hf c1
        cases hf
        exact W.vret hx hb hr (fun t ht hW => ⟨⟨(q7, q15), rfl, trivial, by rw [ht]; exact hP, hD⟩, hS.F ht⟩) hS.2.2 d_C_init_41
      · have hf := oIf_f hf c1
        refine lv_aload_n hx hb d_C_init_28 rfl (lv_at hl 0 rfl) ?_
        refine va_get (D := (dC, dI)) (ci := 1) (v := .ref q7) (C := R_C) (T := T_C) (N := 2) hx hb ht in_C hown hK hP 0 rfl rfl 0 (by decide) (ht _ m_90) (fun _ h9 => h9) rfl d_C_init_29 ?_
        refine lv_iload_n hx hb d_C_init_32 rfl (lv_at hl 1 rfl) ?_
        refine lv_iload_n hx hb d_C_init_33 rfl (lv_at hl 1 rfl) ?_
        obtain ⟨hi2, hf⟩ := oIn_some hf
        refine va_iast hx hb hK hP hD hS 1 0 rfl rfl hi2 d_C_init_34 (fun H locs hP hD hS => ?_)
        obtain ⟨a3, ea3, hf⟩ := oLet_ex hf
        have hP : va_P (dC, dI) vwCl [(qC, .inr (1, [.ref q7, .ref q15])), (q7, .inl (cI, 60, .inl a3)), (q15, .inl (cI, 60, .inl w15))] H := by rw [ea3]; exact hP
        have hD : va_D A [(qC, .inr (1, [.ref q7, .ref q15])), (q7, .inl (cI, 60, .inl a3)), (q15, .inl (cI, 60, .inl w15))] := by rw [ea3]; exact hD
        obtain ⟨v4, ev4, hf⟩ := oLet_ex hf
        refine lv_iinc (v := v4) (lv' := [(1, .int v4), (0, .ref qC)]) hx hb d_C_init_35 hl (k := 1) rfl (by rw [ev4]; rfl) (by decide) rfl (fun ls hl => ?_)
        refine lv_goto (tgt := 22) hx hb d_C_init_38 (by decide) ?_
        exact ofX _ _ _ _ _ (ih22 v4 a3 _ _ _ hf hP hD hS (lv_sub hl [1, 0] rfl))
  refine toX _ _ _ _ _ ?_
  unfold f_C_init at hf
  obtain ⟨H, hH⟩ : ∃ z, z = s.heap := ⟨_, rfl⟩
  have hS : va_S A s.heap H [] := by rw [hH]; exact hS
  have hP : va_P (dC, dI) vwCl (w_Ci qC) H := by rw [hH]; exact hP
  refine w_heap hH ?_
  refine lv_aload_n hx hb d_C_init_0 rfl (lv_at hl 0 rfl) ?_
  refine W.objInit hx hb hown (ht _ m_89) (ht _ m_41) (ht _ m_42) rfl (by rw [hml]; exact hl.1) rfl d_C_init_1 (Nat.le_of_ble_eq_true rfl) (Nat.le_of_ble_eq_true rfl) ?_
  refine W.eq (g2 := F0 m 4 ls []) rfl ?_
  refine lv_aload_n hx hb d_C_init_4 rfl (lv_at hl 0 rfl) ?_
  refine lv_bipush (v := 60) hx hb d_C_init_5 (by decide) ?_
  refine va_newa (atype := .int) (ty := .int) (N' := 60) (a0 := (60, .inl (fun _ => 0))) hx hb (ht _ m_82) rfl hK hP hD hS hA (fun _ => rfl) (by decide) (by decide) (by decide) (Nat.le_of_ble_eq_true rfl) (Nat.le_of_ble_eq_true rfl) d_C_init_7 (fun q7 cZ H hKz hP hD hS => ?_)
  have ecZ : cZ = cI := va_tyI (i := 0) hKz rfl rfl
  rw [ecZ] at hP hD
  have hP : va_P (dC, dI) vwCl [(qC, .inr (1, [.null, .null])), (q7, .inl (cI, 60, .inl (fun _ => 0)))] H := hP
  have hD : va_D A [(qC, .inr (1, [.null, .null])), (q7, .inl (cI, 60, .inl (fun _ => 0)))] := hD
  clear hKz ecZ
  refine W.widen (k := 1) (n := 60) (Nat.le_of_ble_eq_true rfl) (Nat.le_of_ble_eq_true rfl) ?_
  refine va_putF (D := (dC, dI)) (ci := 1) (v := .ref q7) (ty := .array .int) (C := R_C) (T := T_C) (N := 2) hx hb ht in_C t_C t_C_ok n_C hown hK hP hD hS 0 rfl rfl 0 (by decide) (ht _ m_90) (fun _ h9 => h9) rfl hin rfl (by decide +kernel) rfl rfl (Nat.le_of_ble_eq_true rfl) d_C_init_9 (fun H locs hP hD hS => ?_)
  have hP : va_P (dC, dI) vwCl [(qC, .inr (1, [.ref q7, .null])), (q7, .inl (cI, 60, .inl (fun _ => 0)))] H := hP
  have hD : va_D A [(qC, .inr (1, [.ref q7, .null])), (q7, .inl (cI, 60, .inl (fun _ => 0)))] := hD
  refine lv_aload_n hx hb d_C_init_12 rfl (lv_at hl 0 rfl) ?_
  refine lv_bipush (v := 60) hx hb d_C_init_13 (by decide) ?_
  refine va_newa (atype := .int) (ty := .int) (N' := 60) (a0 := (60, .inl (fun _ => 0))) hx hb (ht _ m_82) rfl hK hP hD hS hA (fun _ => rfl) (by decide) (by decide) (by decide) (Nat.le_of_ble_eq_true rfl) (Nat.le_of_ble_eq_true rfl) d_C_init_15 (fun q15 cZ H hKz hP hD hS => ?_)
  have ecZ : cZ = cI := va_tyI (i := 0) hKz rfl rfl
  rw [ecZ] at hP hD
  have hP : va_P (dC, dI) vwCl [(qC, .inr (1, [.ref q7, .null])), (q7, .inl (cI, 60, .inl (fun _ => 0))), (q15, .inl (cI, 60, .inl (fun _ => 0)))] H := hP
  have hD : va_D A [(qC, .inr (1, [.ref q7, .null])), (q7, .inl (cI, 60, .inl (fun _ => 0))), (q15, .inl (cI, 60, .inl (fun _ => 0)))] := hD
  clear hKz ecZ
  refine W.widen (k := 2) (n := 120) (Nat.le_of_ble_eq_true rfl) (Nat.le_of_ble_eq_true rfl) ?_
  refine va_putF (D := (dC, dI)) (ci := 1) (v := .ref q15) (ty := .array .int) (C := R_C) (T := T_C) (N := 2) hx hb ht in_C t_C t_C_ok n_C hown hK hP hD hS 0 rfl rfl 1 (by decide) (ht _ m_92) (fun _ h9 => h9) rfl hin rfl (by decide +kernel) rfl rfl (Nat.le_of_ble_eq_true rfl) d_C_init_17 (fun H locs hP hD hS => ?_)
  have hP : va_P (dC, dI) vwCl [(qC, .inr (1, [.ref q7, .ref q15])), (q7, .inl (cI, 60, .inl (fun _ => 0))), (q15, .inl (cI, 60, .inl (fun _ => 0)))] H := hP
  have hD : va_D A [(qC, .inr (1, [.ref q7, .ref q15])), (q7, .inl (cI, 60, .inl (fun _ => 0))), (q15, .inl (cI, 60, .inl (fun _ => 0)))] := hD
  refine lv_iconst (v := 0) hx hb d_C_init_20 (by decide) ?_
  refine lv_istore_n (lv' := [(1, .int 0), (0, .ref qC)]) hx hb d_C_init_21 rfl hl (by decide) rfl (fun ls hl => ?_)
  exact ofX _ _ _ _ _ (K22 q7 q15 (fun _ => 0) _ 0 (fun _ => 0) _ _ _ hf hP hD hS (lv_sub hl [1, 0] rfl))

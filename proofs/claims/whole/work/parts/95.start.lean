set_option maxHeartbeats 40000000 in
set_option maxRecDepth 100000 in
theorem whole_start {p : Program} {e : Env} {s : State} {m : MethodId} {below : List Frame} {meth : Method} {c : Code} (l : Launch) {b L : Nat} {xs : Nat → Int32} (hL : L ≤ 2560) (C0 : lw_At p s m meth c b L xs) : W p l e room_1 s m #[Value.ref b] below meth c s.heap [] 0 0 (lw_Z below #[Value.ref b] s) (entryFrame m ([Value.ref b] : List Value).toArray 4) := by
  obtain ⟨hx, hb, hr, hml, hown, hts, hX, hbl, hlocks, hgv⟩ := id C0
  have ht : ∀ w ∈ wAll, w.before #[Value.ref b] s = true := fun w h => hts w (wAll_tbl h)
  have hA : ∀ q : Nat, s.heap.size ≤ q → (fun q : Nat => s.heap.size ≤ q) q := fun _ h => h
  obtain ⟨c0, iS0, hKn0⟩ := u_known (C := R_B) (T := T_B) (N := 10) (n := 10) ht in_B (ht _ m_44)
  obtain ⟨c1, iS1, hKn1⟩ := u_known (C := R_C) (T := T_C) (N := 2) (n := 2) ht in_C (ht _ m_85)
  obtain ⟨c2, iS2, hKn2⟩ := u_known (C := R_X) (T := T_X) (N := 10) (n := 10) ht in_X (ht _ m_36)
  obtain ⟨c3, iS3, hKn3⟩ := u_known (C := R_M) (T := T_M) (N := 23) (n := 23) ht in_M (ht _ m_341)
  obtain ⟨dC, dI, hKc⟩ : ∃ (dC : Nat → ClassId) (dI : Nat → Nat → Nat), ∀ (k : Nat) (q : vw_C), vwCl[k]? = some q → u_Kn s q.1 q.2.1 q.2.2 (dC k) (dI k) := by
    refine ⟨fun k => if k = 0 then c0 else if k = 1 then c1 else if k = 2 then c2 else c3, fun k => if k = 0 then iS0 else if k = 1 then iS1 else if k = 2 then iS2 else iS3, ?_⟩
    intro k q hq
    match k, hq with
    | 0, hq => cases hq; exact hKn0
    | 1, hq => cases hq; exact hKn1
    | 2, hq => cases hq; exact hKn2
    | 3, hq => cases hq; exact hKn3
    | k + 4, hq => simp [vwCl] at hq
  obtain ⟨cI, kI, pI, fI1, fI2, fI3⟩ := Cond.arrayClass_spec (ht _ m_82)
  obtain ⟨cJ, kJ, pJ, fJ1, fJ2, fJ3⟩ := Cond.arrayClass_spec (ht _ m_83)
  have hao : (Jvm.Cond.arrayOver (Jvm.ClassFile.FieldType.object "CutBodies$Contents")).before #[Value.ref b] s = true := hts _ (List.mem_of_getElem? (i := 99) rfl)
  obtain ⟨pQ, cQ, kQ, fQ0, -, fQ2, fQ3, fQ1⟩ := Cond.arrayOver_spec hao
  have hZ : nestZ s := by
    refine ⟨fun w hw => ?_, va_AO.of hao⟩
    simp only [nestWs, List.mem_cons, List.not_mem_nil, or_false] at hw
    rcases hw with rfl | rfl | rfl | rfl | rfl
    · exact va_Nw.of rfl (hts _ (List.mem_of_getElem? (i := 139) rfl))
    · exact va_Nw.of rfl (hts _ (List.mem_of_getElem? (i := 53) rfl))
    · exact va_Nw.of rfl (hts _ (List.mem_of_getElem? (i := 91) rfl))
    · exact va_Nw.of rfl (hts _ (List.mem_of_getElem? (i := 93) rfl))
    · exact va_Nw.of rfl (hts _ (List.mem_of_getElem? (i := 59) rfl))
  have hK : va_K (dC, dI) vwCl [(cI, .int), (cJ, .long), (cQ, .object "CutBodies$Contents")] s := by
    refine ⟨hKc, fun k q h => ?_⟩
    match k, h with
    | 0, h => cases h; exact ⟨fun n z => ⟨fun k h => (by cases h), kI, fI2, pI, fI3⟩, fI1⟩
    | 1, h => cases h; exact ⟨fun n z => ⟨fun k h => (by cases h), kJ, fJ2, pJ, fJ3⟩, fJ1⟩
    | 2, h => cases h; exact ⟨fun n z => ⟨fun k h => (by cases h), kQ, fQ2, pQ, fQ3⟩, kQ, pQ, fQ2, fQ3, fQ0, fQ1⟩
    | k + 3, h => simp at h
  have hS : va_S (fun q : Nat => s.heap.size ≤ q) s.heap s.heap [] := va_S.rf
  have hP : va_P (dC, dI) vwCl [] s.heap := fun k q h => by simp at h
  have hD : va_D (fun q : Nat => s.heap.size ≤ q) [] := ⟨fun i j p q h => by simp at h, fun k q h => by simp at h⟩
  have hl := lv_entry ([.ref b]) (n := 4) (Nat.le_of_ble_eq_true rfl)
  rw [lg_entry_eq]
  generalize (lg_sl ([.ref b]) ++ List.replicate (4 - (lg_sl ([.ref b])).length) Slot.unset).toArray = ls at hl ⊢
  have hl : lv_has ls 4 [(0, .ref b)] := hl
  obtain ⟨o_nA, o_nK, o_nP, o_nQ, o_bX, o_bY, o_bZ, o_bA, o_bB, o_bC, o_bD, o_bS, o_sT, o_nO, o_nT, o_rO, o_rT, o_sO, o_sP, o_tG, o_kQ, p_cpx, p_cpy, p_cpz, p_cplane, p_caxis, p_cwas, p_cways, p_ckeptWas, p_ckeptWays, p_ckeptPoints, p_cnextWas, p_cnextWays, p_cnowWas, p_cnowWays, p_cto, hfx, hfm, hR0⟩ := op_init
  refine va_new (ci := 2) (fs := [.null, .null, .int 0, .null, .null, .null, .null, .null, .null, .int 0]) (C := R_X) (T := T_X) (N := 10) hx hb ht in_X t_X t_X_ok hown (ht _ m_35) (ht _ m_36) (ht _ m_28) hK hP hD hS hA rfl fs_X (Nat.le_of_ble_eq_true rfl) (Nat.le_of_ble_eq_true rfl) d_L_0 (fun qX H hP hD hS => ?_)
  have hP : va_P (dC, dI) vwCl ((w_Xi qX 0 0) ++ []) H := hP
  have hD : va_D (fun q : Nat => s.heap.size ≤ q) ((w_Xi qX 0 0) ++ []) := hD
  refine W.widen (k := 1) (n := 10) (Nat.le_refl _) (Nat.le_refl _) ?_
  refine lv_dup hx hb d_L_3 rfl ?_
  have hPx : va_P (dC, dI) vwCl (w_Xi qX 0 0) H := fr_pre hP
  have hDx : va_D (fun q : Nat => s.heap.size ≤ q) (w_Xi qX 0 0) := fr_preD hD
  have hFx : ∀ q, va_A (w_Xi qX 0 0) H.size q → s.heap.size ≤ q := fr_free (A0 := fun q : Nat => s.heap.size ≤ q) hD hS hA
  refine va_callv (va_runI (As := []) (rest := [.ref qX]) ⟨hx, hb, hml, hown, ht⟩ (c_X_init l dC dI qX cI cJ cQ H.size 0 0 o_nA o_nK o_nP o_nQ o_bX o_bY o_bZ o_bA o_bB o_bC o_bD o_bS o_sT o_nO o_nT o_rO o_rT o_sO o_sP o_tG o_kQ hfx) (cwI 0 ht (gA m_39) rfl rfl rfl (ht _ m_28) (ht _ m_37) (ht _ m_38) rfl (by decide +kernel) ⟨Nat.le_of_ble_eq_true rfl, Nat.le_of_ble_eq_true rfl⟩) (preM hPx hK hZ hDx) rfl rfl hl.1 rfl (lv_room (Nat.le_of_ble_eq_true rfl)) d_L_4 ⟨Nat.le_of_ble_eq_true rfl, Nat.le_of_ble_eq_true rfl⟩) hS (fun q _ h => hFx q h) hFx (fun u tt H1 locs ht9 hvm hw hB hz1 hk1 hS => ?_)
  obtain ⟨qB, qBx, qBy, qBz, qBa, qBb, qBc, qBd, qBs, qSt, qN, qNo, qNt, qR, qRo, qRt, qS, qSo, qSp, qTg, qKp, qKq⟩ := u
  obtain ⟨hP1, hD1⟩ := hB
  rw [ht9] at hP1
  have hPD := fr_join (a1 := [(qX, .inr (2, [.ref qB, .ref qSt, .int o_nA, .ref qN, .ref qR, .ref qS, .ref qTg, .ref qKp, .ref qKq, .int o_nK])), (qB, .inr (0, [.ref qBx, .ref qBy, .ref qBz, .int o_nP, .ref qBa, .ref qBb, .ref qBc, .ref qBd, .int o_nQ, .ref qBs])), (qBx, .inl (cI, 60, .inl o_bX)), (qBy, .inl (cI, 60, .inl o_bY)), (qBz, .inl (cI, 60, .inl o_bZ)), (qBa, .inl (cI, 20, .inl o_bA)), (qBb, .inl (cI, 20, .inl o_bB)), (qBc, .inl (cI, 20, .inl o_bC)), (qBd, .inl (cI, 20, .inl o_bD)), (qBs, .inl (cJ, 60, .inr (.inl o_bS))), (qSt, .inl (cI, 13, .inl o_sT)), (qN, .inr (1, [.ref qNo, .ref qNt])), (qNo, .inl (cI, 60, .inl o_nO)), (qNt, .inl (cI, 60, .inl o_nT)), (qR, .inr (1, [.ref qRo, .ref qRt])), (qRo, .inl (cI, 60, .inl o_rO)), (qRt, .inl (cI, 60, .inl o_rT)), (qS, .inr (1, [.ref qSo, .ref qSp])), (qSo, .inl (cI, 60, .inl o_sO)), (qSp, .inl (cI, 60, .inl o_sP)), (qTg, .inl (cI, 60, .inl o_tG)), (qKp, .inl (cQ, 10, .inr (.inr (.inr (.inr (fun _ => none)))))), (qKq, .inl (cI, 10, .inl o_kQ))]) hP hD hk1 hFx hP1 hD1
  obtain ⟨hP, hD⟩ := hPD
  clear hPx hDx hFx hP1 hD1 hz1 hk1 ht9 hvm
  generalize H1 = H at hP hS ⊢
  have hP := hP.sub (ws' := ((w_X qX qB qSt qN qR qS qTg qKp qKq qBx qBy qBz qBa qBb qBc qBd qBs qNo qNt qRo qRt qSo qSp cI cJ o_nA o_nK o_nP o_nQ o_bX o_bY o_bZ o_bA o_bB o_bC o_bD o_bS o_sT o_nO o_nT o_rO o_rT o_sO o_sP o_tG o_kQ) ++ [(qKp, .inl (cQ, 10, .inr (.inr (.inr (.inr (fun _ => none))))))])) [0, 1, 2, 3, 4, 5, 6, 7, 8, 9, 10, 11, 12, 13, 14, 15, 16, 17, 18, 19, 20, 22, 21] rfl
  have hD := hD.sub (ws' := ((w_X qX qB qSt qN qR qS qTg qKp qKq qBx qBy qBz qBa qBb qBc qBd qBs qNo qNt qRo qRt qSo qSp cI cJ o_nA o_nK o_nP o_nQ o_bX o_bY o_bZ o_bA o_bB o_bC o_bD o_bS o_sT o_nO o_nT o_rO o_rT o_sO o_sP o_tG o_kQ) ++ [(qKp, .inl (cQ, 10, .inr (.inr (.inr (.inr (fun _ => none))))))])) [0, 1, 2, 3, 4, 5, 6, 7, 8, 9, 10, 11, 12, 13, 14, 15, 16, 17, 18, 19, 20, 22, 21] (by decide) rfl
  refine W.widen (k := 23) (n := 799) (Nat.le_of_ble_eq_true rfl) (Nat.le_of_ble_eq_true rfl) ?_
  refine lv_astore_n (lv' := [(1, .ref qX), (0, .ref b)]) hx hb d_L_7 rfl hl (by decide) rfl (fun ls hl => ?_)
  refine va_new (ci := 3) (fs := [.int 0, .int 0, .int 0, .int 0, .null, .null, .null, .null, .null, .null, .null, .int 0, .null, .null, .null, .int 0, .int 0, .int 0, .null, .null, .null, .null, .null]) (C := R_M) (T := T_M) (N := 23) hx hb ht in_M t_M t_M_ok hown (ht _ m_340) (ht _ m_341) (ht _ m_31) hK hP hD hS hA rfl fs_M (Nat.le_of_ble_eq_true rfl) (Nat.le_of_ble_eq_true rfl) d_L_8 (fun qM H hP hD hS => ?_)
  have hP : va_P (dC, dI) vwCl ((w_Mi qM 0 0 0 0 0 0 0 0) ++ ((w_X qX qB qSt qN qR qS qTg qKp qKq qBx qBy qBz qBa qBb qBc qBd qBs qNo qNt qRo qRt qSo qSp cI cJ o_nA o_nK o_nP o_nQ o_bX o_bY o_bZ o_bA o_bB o_bC o_bD o_bS o_sT o_nO o_nT o_rO o_rT o_sO o_sP o_tG o_kQ) ++ [(qKp, .inl (cQ, 10, .inr (.inr (.inr (.inr (fun _ => none))))))])) H := fr_perm List.perm_append_comm hP
  have hD : va_D (fun q : Nat => s.heap.size ≤ q) ((w_Mi qM 0 0 0 0 0 0 0 0) ++ ((w_X qX qB qSt qN qR qS qTg qKp qKq qBx qBy qBz qBa qBb qBc qBd qBs qNo qNt qRo qRt qSo qSp cI cJ o_nA o_nK o_nP o_nQ o_bX o_bY o_bZ o_bA o_bB o_bC o_bD o_bS o_sT o_nO o_nT o_rO o_rT o_sO o_sP o_tG o_kQ) ++ [(qKp, .inl (cQ, 10, .inr (.inr (.inr (.inr (fun _ => none))))))])) := fr_permD List.perm_append_comm hD
  refine W.widen (k := 24) (n := 822) (Nat.le_of_ble_eq_true rfl) (Nat.le_of_ble_eq_true rfl) ?_
  refine lv_dup hx hb d_L_11 rfl ?_
  have hPx : va_P (dC, dI) vwCl (w_Mi qM 0 0 0 0 0 0 0 0) H := fr_pre hP
  have hDx : va_D (fun q : Nat => s.heap.size ≤ q) (w_Mi qM 0 0 0 0 0 0 0 0) := fr_preD hD
  have hFx : ∀ q, va_A (w_Mi qM 0 0 0 0 0 0 0 0) H.size q → s.heap.size ≤ q := fr_free (A0 := fun q : Nat => s.heap.size ≤ q) hD hS hA
  refine va_callv (va_runI (As := []) (rest := [.ref qM]) ⟨hx, hb, hml, hown, ht⟩ (c_M_init l dC dI qM cI cJ cQ H.size 0 0 0 0 0 0 0 0 p_cpx p_cpy p_cpz p_cplane p_caxis p_cwas p_cways p_ckeptWas p_ckeptWays p_ckeptPoints p_cnextWas p_cnextWays p_cnowWas p_cnowWays p_cto hfm) (cwI 0 ht (gA m_344) rfl rfl rfl (ht _ m_31) (ht _ m_342) (ht _ m_343) rfl (by decide +kernel) ⟨Nat.le_of_ble_eq_true rfl, Nat.le_of_ble_eq_true rfl⟩) (preM hPx hK hZ hDx) rfl rfl hl.1 rfl (lv_room (Nat.le_of_ble_eq_true rfl)) d_L_12 ⟨Nat.le_of_ble_eq_true rfl, Nat.le_of_ble_eq_true rfl⟩) hS (fun q _ h => hFx q h) hFx (fun u tt H1 locs ht9 hvm hw hB hz1 hk1 hS => ?_)
  obtain ⟨q_px, q_py, q_pz, q_plane, q_axis, q_was, q_ways, q_keptWas, q_keptWays, q_keptPoints, q_nextWas, q_nextWays, q_nowWas, q_nowWays, q_to⟩ := u
  obtain ⟨hP1, hD1⟩ := hB
  rw [ht9] at hP1
  have hPD := fr_join (a1 := (w_M qM q_px q_py q_pz q_plane q_axis q_was q_ways q_keptWas q_keptWays q_keptPoints q_nextWas q_nextWays q_nowWas q_nowWays q_to cI 0 0 0 0 0 0 0 0 p_cpx p_cpy p_cpz p_cplane p_caxis p_cwas p_cways p_ckeptWas p_ckeptWays p_ckeptPoints p_cnextWas p_cnextWays p_cnowWas p_cnowWays p_cto)) hP hD hk1 hFx hP1 hD1
  obtain ⟨hP, hD⟩ := hPD
  clear hPx hDx hFx hP1 hD1 hz1 hk1 ht9 hvm
  generalize H1 = H at hP hS ⊢
  refine W.widen (k := 40 + 3 * 0) (n := 4000 + 122 * 0) (Nat.le_of_ble_eq_true rfl) (Nat.le_of_ble_eq_true rfl) ?_
  have hP : va_P (dC, dI) vwCl ((w_X qX qB qSt qN qR qS qTg qKp qKq qBx qBy qBz qBa qBb qBc qBd qBs qNo qNt qRo qRt qSo qSp cI cJ o_nA o_nK o_nP o_nQ o_bX o_bY o_bZ o_bA o_bB o_bC o_bD o_bS o_sT o_nO o_nT o_rO o_rT o_sO o_sP o_tG o_kQ) ++ ([(qKp, .inl (cQ, 10, .inr (.inr (.inr (.inr (fun _ => none))))))] ++ ((w_M qM q_px q_py q_pz q_plane q_axis q_was q_ways q_keptWas q_keptWays q_keptPoints q_nextWas q_nextWays q_nowWas q_nowWays q_to cI 0 0 0 0 0 0 0 0 p_cpx p_cpy p_cpz p_cplane p_caxis p_cwas p_cways p_ckeptWas p_ckeptWays p_ckeptPoints p_cnextWas p_cnextWays p_cnowWas p_cnowWays p_cto) ++ kp_pool cI 0 (fun _ => 0) (fun _ => 0) (fun _ => 0) (fun _ _ => 0) (fun _ _ => 0)))) H := fr_perm (fr_rot2 (d := [])).symm hP
  have hD : va_D (fun q : Nat => s.heap.size ≤ q) ((w_X qX qB qSt qN qR qS qTg qKp qKq qBx qBy qBz qBa qBb qBc qBd qBs qNo qNt qRo qRt qSo qSp cI cJ o_nA o_nK o_nP o_nQ o_bX o_bY o_bZ o_bA o_bB o_bC o_bD o_bS o_sT o_nO o_nT o_rO o_rT o_sO o_sP o_tG o_kQ) ++ ([(qKp, .inl (cQ, 10, .inr (.inr (.inr (.inr (fun _ => none))))))] ++ ((w_M qM q_px q_py q_pz q_plane q_axis q_was q_ways q_keptWas q_keptWays q_keptPoints q_nextWas q_nextWays q_nowWas q_nowWays q_to cI 0 0 0 0 0 0 0 0 p_cpx p_cpy p_cpz p_cplane p_caxis p_cwas p_cways p_ckeptWas p_ckeptWays p_ckeptPoints p_cnextWas p_cnextWays p_cnowWas p_cnowWays p_cto) ++ kp_pool cI 0 (fun _ => 0) (fun _ => 0) (fun _ => 0) (fun _ _ => 0) (fun _ _ => 0)))) := fr_permD (fr_rot2 (d := [])).symm hD
  refine lv_astore_n (lv' := [(2, .ref qM), (1, .ref qX), (0, .ref b)]) hx hb d_L_15 rfl hl (by decide) rfl (fun ls hl => ?_)
  refine lv_iconst (v := nI (5 * 0)) hx hb d_L_16 (by decide) ?_
  refine lv_istore_n (lv' := [(3, .int (nI (5 * 0))), (2, .ref qM), (1, .ref qX), (0, .ref b)]) hx hb d_L_17 rfl hl (by decide) rfl (fun ls hl => ?_)
  exact law_loop hL C0 hK hZ 513 0 (Nat.zero_le _) (by omega) 0 (fun _ => 0) (fun _ => 0) (fun _ => 0) (fun _ _ => 0) (fun _ _ => 0) o_nA o_nK o_nP o_nQ o_bX o_bY o_bZ o_bA o_bB o_bC o_bD o_bS o_sT o_nO o_nT o_rO o_rT o_sO o_sP o_tG o_kQ (fun _ => none) 0 0 0 0 0 0 0 0 p_cpx p_cpy p_cpz p_cplane p_caxis p_cwas p_cways p_ckeptWas p_ckeptWays p_ckeptPoints p_cnextWas p_cnextWays p_cnowWas p_cnowWays p_cto (hR0 _ _) (fun j hj => absurd hj (Nat.not_lt_zero j)) H _ hP hD hS ls (lv_sub hl [3, 2, 1, 0] rfl)

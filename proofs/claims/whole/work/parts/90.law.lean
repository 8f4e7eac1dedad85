theorem law_in {L t : Nat} (hL : L ≤ 2560) (h1 : 5 * t ≤ L) (c1 : ¬ Int32.ofNat L - 5 < nI (5 * t)) : 5 * t + 5 ≤ L := by
  rcases Nat.lt_or_ge L 5 with h | h
  · exfalso; apply c1
    have e : Int32.ofNat L - 5 < 0 := pk_sneg (a := L) (b := 5) (by omega) h
    have h3 : (0 : Int32) ≤ nI (5 * t) := nI_pos' (by omega)
    exact Int32.lt_of_lt_of_le e h3
  · have e : Int32.ofNat L - 5 = nI (L - 5) := pk_sub (a := L) (b := 5) h
    rw [e, nI_ltI (by omega) (by omega)] at c1
    omega
theorem fr_keep {a b c d e : va_W} : ((a ++ (b ++ c)) ++ (d ++ e)).Perm (a ++ (b ++ (d ++ (e ++ c)))) := by
  rw [List.append_assoc, List.append_assoc]
  refine List.Perm.append_left a (List.Perm.append_left b ?_)
  refine List.perm_append_comm.trans ?_
  rw [List.append_assoc]
theorem fr_back {a b d pl y r : va_W} (h : pl.Perm (y ++ r)) : (a ++ (b ++ (d ++ pl))).Perm ((a ++ (b ++ y)) ++ (d ++ r)) := by
  rw [List.append_assoc, List.append_assoc]
  refine List.Perm.append_left a (List.Perm.append_left b ?_)
  exact (List.Perm.append_left d h).trans fr_rot
theorem kp_up {k i : Nat} {kP : Nat → Option Nat} {ky : Nat → Nat} {u : Nat} (h : ∀ j, j < k → kP j = some (ky j)) (hi : i = k) : ∀ j, j < k + 1 → va_up kP i (some u) j = some (va_up ky k u j) := by
  intro j hj
  subst hi
  by_cases e : j = i
  · subst e; rw [va_up_self, va_up_self]
  · rw [va_up_ne _ _ e, va_up_ne _ _ e]; exact h j (by omega)
set_option maxHeartbeats 40000000 in
set_option maxRecDepth 100000 in
theorem law_loop {p : Program} {l : Launch} {e : Env} {s : State} {m : MethodId} {below : List Frame} {meth : Method} {c : Code} {dC : Nat → ClassId} {dI : Nat → Nat → Nat} {b L : Nat} {xs : Nat → Int32} {cI cJ cQ : ClassId} {qX qB qSt qN qR qS qTg qKp qKq qBx qBy qBz qBa qBb qBc qBd qBs qNo qNt qRo qRt qSo qSp qM : Nat} {q_px q_py q_pz q_plane q_axis q_was q_ways q_keptWas q_keptWays q_keptPoints q_nextWas q_nextWays q_nowWas q_nowWays q_to : Nat} (hL : L ≤ 2560) (C0 : lw_At p s m meth c b L xs) (hK : va_K (dC, dI) vwCl [(cI, .int), (cJ, .long), (cQ, .object "CutBodies$Contents")] s) (hZ : nestZ s) : ∀ (n t : Nat), 5 * t ≤ L → 513 ≤ t + n → ∀ (k : Nat) (ky ko kt : Nat → Nat) (KO KT : Nat → Nat → Int32) (nA : Int32) (nK : Int32) (nP : Int32) (nQ : Int32) (bX : Nat → Int32) (bY : Nat → Int32) (bZ : Nat → Int32) (bA : Nat → Int32) (bB : Nat → Int32) (bC : Nat → Int32) (bD : Nat → Int32) (bS : Nat → Int64) (sT : Nat → Int32) (nO : Nat → Int32) (nT : Nat → Int32) (rO : Nat → Int32) (rT : Nat → Int32) (sO : Nat → Int32) (sP : Nat → Int32) (tG : Nat → Int32) (kQ : Nat → Int32) (kP : Nat → Option Nat) (vthrown : Int32) (vpoints : Int32) (vplanes : Int32) (vaxes : Int32) (vkept : Int32) (vax : Int32) (vay : Int32) (vaz : Int32) (cpx : Nat → Int32) (cpy : Nat → Int32) (cpz : Nat → Int32) (cplane : Nat → Int32) (caxis : Nat → Int32) (cwas : Nat → Int32) (cways : Nat → Int32) (ckeptWas : Nat → Int32) (ckeptWays : Nat → Int32) (ckeptPoints : Nat → Int32) (cnextWas : Nat → Int32) (cnextWays : Nat → Int32) (cnowWas : Nat → Int32) (cnowWays : Nat → Int32) (cto : Nat → Int32), Rel k nA nK nP nQ bX bY bZ bA bB bC bD bS sT nO nT kQ KO KT vpoints vplanes vaxes vkept cpx cpy cpz cplane caxis cwas cways ckeptWas ckeptWays ckeptPoints → (∀ j, j < k → kP j = some (ky j)) → ∀ (H : Heap) (locs : List Loc), va_P (dC, dI) vwCl ((w_X qX qB qSt qN qR qS qTg qKp qKq qBx qBy qBz qBa qBb qBc qBd qBs qNo qNt qRo qRt qSo qSp cI cJ nA nK nP nQ bX bY bZ bA bB bC bD bS sT nO nT rO rT sO sP tG kQ) ++ ([(qKp, .inl (cQ, 10, .inr (.inr (.inr (.inr kP)))))] ++ ((w_M qM q_px q_py q_pz q_plane q_axis q_was q_ways q_keptWas q_keptWays q_keptPoints q_nextWas q_nextWays q_nowWas q_nowWays q_to cI vthrown vpoints vplanes vaxes vkept vax vay vaz cpx cpy cpz cplane caxis cwas cways ckeptWas ckeptWays ckeptPoints cnextWas cnextWays cnowWas cnowWays cto) ++ kp_pool cI k ky ko kt KO KT))) H → va_D (fun q : Nat => s.heap.size ≤ q) ((w_X qX qB qSt qN qR qS qTg qKp qKq qBx qBy qBz qBa qBb qBc qBd qBs qNo qNt qRo qRt qSo qSp cI cJ nA nK nP nQ bX bY bZ bA bB bC bD bS sT nO nT rO rT sO sP tG kQ) ++ ([(qKp, .inl (cQ, 10, .inr (.inr (.inr (.inr kP)))))] ++ ((w_M qM q_px q_py q_pz q_plane q_axis q_was q_ways q_keptWas q_keptWays q_keptPoints q_nextWas q_nextWays q_nowWas q_nowWays q_to cI vthrown vpoints vplanes vaxes vkept vax vay vaz cpx cpy cpz cplane caxis cwas cways ckeptWas ckeptWays ckeptPoints cnextWas cnextWays cnowWas cnowWays cto) ++ kp_pool cI k ky ko kt KO KT))) → va_S (fun q : Nat => s.heap.size ≤ q) s.heap H locs → ∀ (ls : Array Slot), lv_has ls 4 [(0, .ref b), (1, .ref qX), (2, .ref qM), (3, .int (nI (5 * t)))] → W p l e room_1 s m #[Value.ref b] below meth c H locs (40 + 3 * t) (4000 + 122 * t) (lw_Z below #[Value.ref b] s) (F0 m 18 ls []) := by
  obtain ⟨hx, hb, hr, hml, hown, hts, hX, hbl, hlocks, hgv⟩ := C0
  have ht : ∀ w ∈ wAll, w.before #[Value.ref b] s = true := fun w h => hts w (wAll_tbl h)
  have hA : ∀ q : Nat, s.heap.size ≤ q → (fun q : Nat => s.heap.size ≤ q) q := fun _ h => h
  have hbA : ¬ (fun q : Nat => s.heap.size ≤ q) b := Nat.not_le.mpr hbl
  intro n
  induction n with
  | zero => intro t h1 h2; exact absurd h2 (by omega)
  | succ n ih =>
    intro t ht1 ht2
    have hrm : 40 + 3 * t + 0 ≤ room_1.cells ∧ 4000 + 122 * t + 0 ≤ room_1.slots := ⟨by show 40 + 3 * t + 0 ≤ 600000; omega, by show 4000 + 122 * t + 0 ≤ 7302250; omega⟩
    have hrm1 : 40 + 3 * (t + 1) + 0 ≤ room_1.cells ∧ 4000 + 122 * (t + 1) + 0 ≤ room_1.slots := ⟨by show 40 + 3 * (t + 1) + 0 ≤ 600000; omega, by show 4000 + 122 * (t + 1) + 0 ≤ 7302250; omega⟩
    have hrm3 : 40 + 3 * t + 3 ≤ room_1.cells ∧ 4000 + 122 * t + 122 ≤ room_1.slots := ⟨by show 40 + 3 * t + 3 ≤ 600000; omega, by show 4000 + 122 * t + 122 ≤ 7302250; omega⟩
    have hinc : nI (5 * t) + Int32.ofInt 5 = nI (5 * (t + 1)) := nI_add (5 * t) 5
    have next1 : 5 * t + 5 ≤ L → ∀ (k : Nat) (ky ko kt : Nat → Nat) (KO KT : Nat → Nat → Int32) (nA : Int32) (nK : Int32) (nP : Int32) (nQ : Int32) (bX : Nat → Int32) (bY : Nat → Int32) (bZ : Nat → Int32) (bA : Nat → Int32) (bB : Nat → Int32) (bC : Nat → Int32) (bD : Nat → Int32) (bS : Nat → Int64) (sT : Nat → Int32) (nO : Nat → Int32) (nT : Nat → Int32) (rO : Nat → Int32) (rT : Nat → Int32) (sO : Nat → Int32) (sP : Nat → Int32) (tG : Nat → Int32) (kQ : Nat → Int32) (kP : Nat → Option Nat) (vthrown : Int32) (vpoints : Int32) (vplanes : Int32) (vaxes : Int32) (vkept : Int32) (vax : Int32) (vay : Int32) (vaz : Int32) (cpx : Nat → Int32) (cpy : Nat → Int32) (cpz : Nat → Int32) (cplane : Nat → Int32) (caxis : Nat → Int32) (cwas : Nat → Int32) (cways : Nat → Int32) (ckeptWas : Nat → Int32) (ckeptWays : Nat → Int32) (ckeptPoints : Nat → Int32) (cnextWas : Nat → Int32) (cnextWays : Nat → Int32) (cnowWas : Nat → Int32) (cnowWays : Nat → Int32) (cto : Nat → Int32), Rel k nA nK nP nQ bX bY bZ bA bB bC bD bS sT nO nT kQ KO KT vpoints vplanes vaxes vkept cpx cpy cpz cplane caxis cwas cways ckeptWas ckeptWays ckeptPoints → (∀ j, j < k → kP j = some (ky j)) → ∀ (H : Heap) (locs : List Loc), va_P (dC, dI) vwCl ((w_X qX qB qSt qN qR qS qTg qKp qKq qBx qBy qBz qBa qBb qBc qBd qBs qNo qNt qRo qRt qSo qSp cI cJ nA nK nP nQ bX bY bZ bA bB bC bD bS sT nO nT rO rT sO sP tG kQ) ++ ([(qKp, .inl (cQ, 10, .inr (.inr (.inr (.inr kP)))))] ++ ((w_M qM q_px q_py q_pz q_plane q_axis q_was q_ways q_keptWas q_keptWays q_keptPoints q_nextWas q_nextWays q_nowWas q_nowWays q_to cI vthrown vpoints vplanes vaxes vkept vax vay vaz cpx cpy cpz cplane caxis cwas cways ckeptWas ckeptWays ckeptPoints cnextWas cnextWays cnowWas cnowWays cto) ++ kp_pool cI k ky ko kt KO KT))) H → va_D (fun q : Nat => s.heap.size ≤ q) ((w_X qX qB qSt qN qR qS qTg qKp qKq qBx qBy qBz qBa qBb qBc qBd qBs qNo qNt qRo qRt qSo qSp cI cJ nA nK nP nQ bX bY bZ bA bB bC bD bS sT nO nT rO rT sO sP tG kQ) ++ ([(qKp, .inl (cQ, 10, .inr (.inr (.inr (.inr kP)))))] ++ ((w_M qM q_px q_py q_pz q_plane q_axis q_was q_ways q_keptWas q_keptWays q_keptPoints q_nextWas q_nextWays q_nowWas q_nowWays q_to cI vthrown vpoints vplanes vaxes vkept vax vay vaz cpx cpy cpz cplane caxis cwas cways ckeptWas ckeptWays ckeptPoints cnextWas cnextWays cnowWas cnowWays cto) ++ kp_pool cI k ky ko kt KO KT))) → va_S (fun q : Nat => s.heap.size ≤ q) s.heap H locs → ∀ (ls : Array Slot), lv_has ls 4 [(0, .ref b), (1, .ref qX), (2, .ref qM), (3, .int (nI (5 * t)))] → W p l e room_1 s m #[Value.ref b] below meth c H locs (40 + 3 * (t + 1)) (4000 + 122 * (t + 1)) (lw_Z below #[Value.ref b] s) (F0 m 634 ls []) := by
      intro h5 k ky ko kt KO KT nA nK nP nQ bX bY bZ bA bB bC bD bS sT nO nT rO rT sO sP tG kQ kP vthrown vpoints vplanes vaxes vkept vax vay vaz cpx cpy cpz cplane caxis cwas cways ckeptWas ckeptWays ckeptPoints cnextWas cnextWays cnowWas cnowWays cto hR hkp H locs hP hD hS ls hl
      refine lv_iinc (v := nI (5 * (t + 1))) (lv' := [(3, .int (nI (5 * (t + 1)))), (0, .ref b), (1, .ref qX), (2, .ref qM)]) hx hb d_L_634 hl (k := 3) rfl hinc (by decide) rfl (fun ls hl => ?_)
      refine lv_goto (tgt := 18) hx hb d_L_637 (by decide) ?_
      refine W.widen (k := 40 + 3 * (t + 1)) (n := 4000 + 122 * (t + 1)) (by omega) (by omega) ?_
      exact ih (t + 1) (by omega) (by omega) k ky ko kt KO KT nA nK nP nQ bX bY bZ bA bB bC bD bS sT nO nT rO rT sO sP tG kQ kP vthrown vpoints vplanes vaxes vkept vax vay vaz cpx cpy cpz cplane caxis cwas cways ckeptWas ckeptWays ckeptPoints cnextWas cnextWays cnowWas cnowWays cto hR hkp H locs hP hD hS ls (lv_sub hl [1, 2, 3, 0] rfl)
    have next : 5 * t + 5 ≤ L → ∀ (k : Nat) (ky ko kt : Nat → Nat) (KO KT : Nat → Nat → Int32) (nA : Int32) (nK : Int32) (nP : Int32) (nQ : Int32) (bX : Nat → Int32) (bY : Nat → Int32) (bZ : Nat → Int32) (bA : Nat → Int32) (bB : Nat → Int32) (bC : Nat → Int32) (bD : Nat → Int32) (bS : Nat → Int64) (sT : Nat → Int32) (nO : Nat → Int32) (nT : Nat → Int32) (rO : Nat → Int32) (rT : Nat → Int32) (sO : Nat → Int32) (sP : Nat → Int32) (tG : Nat → Int32) (kQ : Nat → Int32) (kP : Nat → Option Nat) (vthrown : Int32) (vpoints : Int32) (vplanes : Int32) (vaxes : Int32) (vkept : Int32) (vax : Int32) (vay : Int32) (vaz : Int32) (cpx : Nat → Int32) (cpy : Nat → Int32) (cpz : Nat → Int32) (cplane : Nat → Int32) (caxis : Nat → Int32) (cwas : Nat → Int32) (cways : Nat → Int32) (ckeptWas : Nat → Int32) (ckeptWays : Nat → Int32) (ckeptPoints : Nat → Int32) (cnextWas : Nat → Int32) (cnextWays : Nat → Int32) (cnowWas : Nat → Int32) (cnowWays : Nat → Int32) (cto : Nat → Int32), Rel k nA nK nP nQ bX bY bZ bA bB bC bD bS sT nO nT kQ KO KT vpoints vplanes vaxes vkept cpx cpy cpz cplane caxis cwas cways ckeptWas ckeptWays ckeptPoints → (∀ j, j < k → kP j = some (ky j)) → ∀ (H : Heap) (locs : List Loc), va_P (dC, dI) vwCl ((w_X qX qB qSt qN qR qS qTg qKp qKq qBx qBy qBz qBa qBb qBc qBd qBs qNo qNt qRo qRt qSo qSp cI cJ nA nK nP nQ bX bY bZ bA bB bC bD bS sT nO nT rO rT sO sP tG kQ) ++ ([(qKp, .inl (cQ, 10, .inr (.inr (.inr (.inr kP)))))] ++ ((w_M qM q_px q_py q_pz q_plane q_axis q_was q_ways q_keptWas q_keptWays q_keptPoints q_nextWas q_nextWays q_nowWas q_nowWays q_to cI vthrown vpoints vplanes vaxes vkept vax vay vaz cpx cpy cpz cplane caxis cwas cways ckeptWas ckeptWays ckeptPoints cnextWas cnextWays cnowWas cnowWays cto) ++ kp_pool cI k ky ko kt KO KT))) H → va_D (fun q : Nat => s.heap.size ≤ q) ((w_X qX qB qSt qN qR qS qTg qKp qKq qBx qBy qBz qBa qBb qBc qBd qBs qNo qNt qRo qRt qSo qSp cI cJ nA nK nP nQ bX bY bZ bA bB bC bD bS sT nO nT rO rT sO sP tG kQ) ++ ([(qKp, .inl (cQ, 10, .inr (.inr (.inr (.inr kP)))))] ++ ((w_M qM q_px q_py q_pz q_plane q_axis q_was q_ways q_keptWas q_keptWays q_keptPoints q_nextWas q_nextWays q_nowWas q_nowWays q_to cI vthrown vpoints vplanes vaxes vkept vax vay vaz cpx cpy cpz cplane caxis cwas cways ckeptWas ckeptWays ckeptPoints cnextWas cnextWays cnowWas cnowWays cto) ++ kp_pool cI k ky ko kt KO KT))) → va_S (fun q : Nat => s.heap.size ≤ q) s.heap H locs → ∀ (ls : Array Slot), lv_has ls 4 [(0, .ref b), (1, .ref qX), (2, .ref qM), (3, .int (nI (5 * t)))] → W p l e room_1 s m #[Value.ref b] below meth c H locs (40 + 3 * t) (4000 + 122 * t) (lw_Z below #[Value.ref b] s) (F0 m 634 ls []) := by
      intro h5 k ky ko kt KO KT nA nK nP nQ bX bY bZ bA bB bC bD bS sT nO nT rO rT sO sP tG kQ kP vthrown vpoints vplanes vaxes vkept vax vay vaz cpx cpy cpz cplane caxis cwas cways ckeptWas ckeptWays ckeptPoints cnextWas cnextWays cnowWas cnowWays cto hR hkp H locs hP hD hS ls hl
      refine lv_iinc (v := nI (5 * (t + 1))) (lv' := [(3, .int (nI (5 * (t + 1)))), (0, .ref b), (1, .ref qX), (2, .ref qM)]) hx hb d_L_634 hl (k := 3) rfl hinc (by decide) rfl (fun ls hl => ?_)
      refine lv_goto (tgt := 18) hx hb d_L_637 (by decide) ?_
      refine W.widen (k := 40 + 3 * (t + 1)) (n := 4000 + 122 * (t + 1)) (by omega) (by omega) ?_
      exact ih (t + 1) (by omega) (by omega) k ky ko kt KO KT nA nK nP nQ bX bY bZ bA bB bC bD bS sT nO nT rO rT sO sP tG kQ kP vthrown vpoints vplanes vaxes vkept vax vay vaz cpx cpy cpz cplane caxis cwas cways ckeptWas ckeptWays ckeptPoints cnextWas cnextWays cnowWas cnowWays cto hR hkp H locs hP hD hS ls (lv_sub hl [1, 2, 3, 0] rfl)
    intro k ky ko kt KO KT nA nK nP nQ bX bY bZ bA bB bC bD bS sT nO nT rO rT sO sP tG kQ kP vthrown vpoints vplanes vaxes vkept vax vay vaz cpx cpy cpz cplane caxis cwas cways ckeptWas ckeptWays ckeptPoints cnextWas cnextWays cnowWas cnowWays cto hR hkp H locs hP hD hS ls hl
    refine lv_iload_n hx hb d_L_18 rfl (lv_at hl 3 rfl) ?_
    refine lv_aload_n hx hb d_L_19 rfl (lv_at hl 0 rfl) ?_
    refine va_slen hx hb hX hbl hbA hS d_L_20 ?_
    refine lv_iconst (v := 5) hx hb d_L_21 (by decide) ?_
    refine lv_isub hx hb d_L_22 ?_
    refine lv_icmp_gt (tgt := 640) hx hb d_L_23 (by decide) (fun c1 => ?_) (fun c1 => ?_)
    · refine lv_iconst (v := 1) hx hb d_L_640 (by decide) ?_
      refine va_forget (fun q hq => hS.2.2 q hq) ?_
      refine W.widen (k := 600000) (n := 7302250) (by omega) (by omega) ?_
      exact lw_ret hx hb hr hlocks d_L_641
    · have h5 : 5 * t + 5 ≤ L := law_in hL ht1 c1
      have next := next h5
      have next1 := next1 h5
      have hi_0 : vp_in (nI (5 * t)) L := by exact vp_in_nI (by omega) (by omega)
      have hi_1 : vp_in (nI (5 * t) + 1) L := by rw [show nI (5 * t) + 1 = nI (5 * t + 1) from nI_add (5 * t) 1]; exact vp_in_nI (by omega) (by omega)
      have hi_2 : vp_in (nI (5 * t) + 2) L := by rw [show nI (5 * t) + 2 = nI (5 * t + 2) from nI_add (5 * t) 2]; exact vp_in_nI (by omega) (by omega)
      have hi_3 : vp_in (nI (5 * t) + 3) L := by rw [show nI (5 * t) + 3 = nI (5 * t + 3) from nI_add (5 * t) 3]; exact vp_in_nI (by omega) (by omega)
      have hi_4 : vp_in (nI (5 * t) + 4) L := by rw [show nI (5 * t) + 4 = nI (5 * t + 4) from nI_add (5 * t) 4]; exact vp_in_nI (by omega) (by omega)
      refine lv_aload_n hx hb d_L_26 rfl (lv_at hl 0 rfl) ?_
      refine lv_iload_n hx hb d_L_27 rfl (lv_at hl 3 rfl) ?_
      refine va_sld hx hb hX hbl hbA hS hi_0 d_L_28 ?_
      refine lv_bipush (v := 31) hx hb d_L_29 (by decide) ?_
      refine lv_iand hx hb d_L_31 ?_
      obtain ⟨j, hj, ej⟩ := pk_andE (xs (nI (5 * t)).toNatClampNeg) (m := 31) 5 (by decide)
      rw [ej]
      clear ej
      match j, hj with
      | 0, _ =>
        refine lv_tableIn (off := 88) (tgt := 120) hx hb d_L_32 (by decide) (by decide) (by decide) (by decide) ?_
        refine lv_aload_n hx hb d_L_120 rfl (lv_at hl 1 rfl) ?_
        refine lv_aload_n hx hb d_L_121 rfl (lv_at hl 0 rfl) ?_
        refine lv_iload_n hx hb d_L_122 rfl (lv_at hl 3 rfl) ?_
        refine lv_iconst (v := 1) hx hb d_L_123 (by decide) ?_
        refine lv_iadd hx hb d_L_124 ?_
        refine va_sld hx hb hX hbl hbA hS hi_1 d_L_125 ?_
        refine lv_aload_n hx hb d_L_126 rfl (lv_at hl 0 rfl) ?_
        refine lv_iload_n hx hb d_L_127 rfl (lv_at hl 3 rfl) ?_
        refine lv_iconst (v := 2) hx hb d_L_128 (by decide) ?_
        refine lv_iadd hx hb d_L_129 ?_
        refine va_sld hx hb hX hbl hbA hS hi_2 d_L_130 ?_
        refine lv_aload_n hx hb d_L_131 rfl (lv_at hl 0 rfl) ?_
        refine lv_iload_n hx hb d_L_132 rfl (lv_at hl 3 rfl) ?_
        refine lv_iconst (v := 3) hx hb d_L_133 (by decide) ?_
        refine lv_iadd hx hb d_L_134 ?_
        refine va_sld hx hb hX hbl hbA hS hi_3 d_L_135 ?_
        obtain ⟨rz, o_nP, o_bX, o_bY, o_bZ, o_bS, o_nO, o_nT, p_vthrown, p_vpoints, p_cpx, p_cpy, p_cpz, p_cwas, p_cways, hfx, hfm, hR2⟩ := op_point hR vthrown (xs (nI (5 * t) + 1).toNatClampNeg) (xs (nI (5 * t) + 2).toNatClampNeg) (xs (nI (5 * t) + 3).toNatClampNeg)
        have hPx : va_P (dC, dI) vwCl (w_X qX qB qSt qN qR qS qTg qKp qKq qBx qBy qBz qBa qBb qBc qBd qBs qNo qNt qRo qRt qSo qSp cI cJ nA nK nP nQ bX bY bZ bA bB bC bD bS sT nO nT rO rT sO sP tG kQ) H := fr_pre hP
        have hDx : va_D (fun q : Nat => s.heap.size ≤ q) (w_X qX qB qSt qN qR qS qTg qKp qKq qBx qBy qBz qBa qBb qBc qBd qBs qNo qNt qRo qRt qSo qSp cI cJ nA nK nP nQ bX bY bZ bA bB bC bD bS sT nO nT rO rT sO sP tG kQ) := fr_preD hD
        have hFx : ∀ q, va_A (w_X qX qB qSt qN qR qS qTg qKp qKq qBx qBy qBz qBa qBb qBc qBd qBs qNo qNt qRo qRt qSo qSp cI cJ nA nK nP nQ bX bY bZ bA bB bC bD bS sT nO nT rO rT sO sP tG kQ) H.size q → s.heap.size ≤ q := fr_free (A0 := fun q : Nat => s.heap.size ≤ q) hD hS hA
        refine va_calli (va_runV (As := [.int (xs (nI (5 * t) + 1).toNatClampNeg), .int (xs (nI (5 * t) + 2).toNatClampNeg), .int (xs (nI (5 * t) + 3).toNatClampNeg)]) (rest := []) ⟨hx, hb, hml, hown, ht⟩ (c_X_point l dC dI qX qB qSt qN qR qS qTg qKp qKq qBx qBy qBz qBa qBb qBc qBd qBs qNo qNt qRo qRt qSo qSp cI cJ cQ H.size nA nK nP nQ bX bY bZ bA bB bC bD bS sT nO nT rO rT sO sP tG kQ (xs (nI (5 * t) + 1).toNatClampNeg) (xs (nI (5 * t) + 2).toNatClampNeg) (xs (nI (5 * t) + 3).toNatClampNeg) rz o_nP o_bX o_bY o_bZ o_bS o_nO o_nT  hfx) (cwV 3 ht (gV m_131 m_132 m_133 m_28 m_134) rfl rfl rfl (by decide +kernel) ⟨Nat.le_of_ble_eq_true rfl, Nat.le_of_ble_eq_true rfl⟩) (preMV hPx hK hZ hDx (va_recv hK hPx (ci := 2) (q0 := 0) rfl rfl)) rfl rfl hl.1 rfl (lv_room (Nat.le_of_ble_eq_true rfl)) d_L_136 hrm) hS (fun q _ h => hFx q h) hFx (fun r u tt H1 locs ht9 hvm hw hB hz1 hk1 hS => ?_)
        obtain ⟨hP1, hD1⟩ := hB
        rw [ht9] at hP1
        subst hw
        have hPD := fr_join (a1 := (w_X qX qB qSt qN qR qS qTg qKp qKq qBx qBy qBz qBa qBb qBc qBd qBs qNo qNt qRo qRt qSo qSp cI cJ nA nK o_nP nQ o_bX o_bY o_bZ bA bB bC bD o_bS sT o_nO o_nT rO rT sO sP tG kQ)) hP hD hk1 hFx hP1 hD1
        obtain ⟨hP, hD⟩ := hPD
        clear hPx hDx hFx hP1 hD1 hz1 hk1 ht9 hvm
        generalize H1 = H at hP hS ⊢
        refine W.widen (k := 40 + 3 * t) (n := 4000 + 122 * t) (Nat.le_refl _) (Nat.le_refl _) ?_
        refine lv_aload_n hx hb d_L_139 rfl (lv_at hl 2 rfl) ?_
        refine lv_aload_n hx hb d_L_140 rfl (lv_at hl 0 rfl) ?_
        refine lv_iload_n hx hb d_L_141 rfl (lv_at hl 3 rfl) ?_
        refine lv_iconst (v := 1) hx hb d_L_142 (by decide) ?_
        refine lv_iadd hx hb d_L_143 ?_
        refine va_sld hx hb hX hbl hbA hS hi_1 d_L_144 ?_
        refine lv_aload_n hx hb d_L_145 rfl (lv_at hl 0 rfl) ?_
        refine lv_iload_n hx hb d_L_146 rfl (lv_at hl 3 rfl) ?_
        refine lv_iconst (v := 2) hx hb d_L_147 (by decide) ?_
        refine lv_iadd hx hb d_L_148 ?_
        refine va_sld hx hb hX hbl hbA hS hi_2 d_L_149 ?_
        refine lv_aload_n hx hb d_L_150 rfl (lv_at hl 0 rfl) ?_
        refine lv_iload_n hx hb d_L_151 rfl (lv_at hl 3 rfl) ?_
        refine lv_iconst (v := 3) hx hb d_L_152 (by decide) ?_
        refine lv_iadd hx hb d_L_153 ?_
        refine va_sld hx hb hX hbl hbA hS hi_3 d_L_154 ?_
        have hP := fr_perm fr_rot2 hP
        have hD := fr_permD fr_rot2 hD
        have hPx : va_P (dC, dI) vwCl (w_M qM q_px q_py q_pz q_plane q_axis q_was q_ways q_keptWas q_keptWays q_keptPoints q_nextWas q_nextWays q_nowWas q_nowWays q_to cI vthrown vpoints vplanes vaxes vkept vax vay vaz cpx cpy cpz cplane caxis cwas cways ckeptWas ckeptWays ckeptPoints cnextWas cnextWays cnowWas cnowWays cto) H := fr_pre hP
        have hDx : va_D (fun q : Nat => s.heap.size ≤ q) (w_M qM q_px q_py q_pz q_plane q_axis q_was q_ways q_keptWas q_keptWays q_keptPoints q_nextWas q_nextWays q_nowWas q_nowWays q_to cI vthrown vpoints vplanes vaxes vkept vax vay vaz cpx cpy cpz cplane caxis cwas cways ckeptWas ckeptWays ckeptPoints cnextWas cnextWays cnowWas cnowWays cto) := fr_preD hD
        have hFx : ∀ q, va_A (w_M qM q_px q_py q_pz q_plane q_axis q_was q_ways q_keptWas q_keptWays q_keptPoints q_nextWas q_nextWays q_nowWas q_nowWays q_to cI vthrown vpoints vplanes vaxes vkept vax vay vaz cpx cpy cpz cplane caxis cwas cways ckeptWas ckeptWays ckeptPoints cnextWas cnextWays cnowWas cnowWays cto) H.size q → s.heap.size ≤ q := fr_free (A0 := fun q : Nat => s.heap.size ≤ q) hD hS hA
        refine va_calli (va_runV (As := [.int (xs (nI (5 * t) + 1).toNatClampNeg), .int (xs (nI (5 * t) + 2).toNatClampNeg), .int (xs (nI (5 * t) + 3).toNatClampNeg)]) (rest := [.int r]) ⟨hx, hb, hml, hown, ht⟩ (c_M_point l dC dI qM q_px q_py q_pz q_plane q_axis q_was q_ways q_keptWas q_keptWays q_keptPoints q_nextWas q_nextWays q_nowWas q_nowWays q_to cI cJ cQ H.size vthrown vpoints vplanes vaxes vkept vax vay vaz cpx cpy cpz cplane caxis cwas cways ckeptWas ckeptWays ckeptPoints cnextWas cnextWays cnowWas cnowWays cto (xs (nI (5 * t) + 1).toNatClampNeg) (xs (nI (5 * t) + 2).toNatClampNeg) (xs (nI (5 * t) + 3).toNatClampNeg) r p_vthrown p_vpoints p_cpx p_cpy p_cpz p_cwas p_cways  hfm) (cwV 3 ht (gV m_416 m_417 m_418 m_31 m_419) rfl rfl rfl (by decide +kernel) ⟨Nat.le_of_ble_eq_true rfl, Nat.le_of_ble_eq_true rfl⟩) (preMV hPx hK hZ hDx (va_recv hK hPx (ci := 3) (q0 := 0) rfl rfl)) rfl rfl hl.1 rfl (lv_room (Nat.le_of_ble_eq_true rfl)) d_L_155 hrm) hS (fun q _ h => hFx q h) hFx (fun r2 u tt H1 locs ht9 hvm hw hB hz1 hk1 hS => ?_)
        obtain ⟨hP1, hD1⟩ := hB
        rw [ht9] at hP1
        subst hw
        have hPD := fr_join (a1 := (w_M qM q_px q_py q_pz q_plane q_axis q_was q_ways q_keptWas q_keptWays q_keptPoints q_nextWas q_nextWays q_nowWas q_nowWays q_to cI p_vthrown p_vpoints vplanes vaxes vkept vax vay vaz p_cpx p_cpy p_cpz cplane caxis p_cwas p_cways ckeptWas ckeptWays ckeptPoints cnextWas cnextWays cnowWas cnowWays cto)) hP hD hk1 hFx hP1 hD1
        obtain ⟨hP, hD⟩ := hPD
        clear hPx hDx hFx hP1 hD1 hz1 hk1 ht9 hvm
        generalize H1 = H at hP hS ⊢
        refine W.widen (k := 40 + 3 * t) (n := 4000 + 122 * t) (Nat.le_refl _) (Nat.le_refl _) ?_
        have hP := fr_perm fr_rot2.symm hP
        have hD := fr_permD fr_rot2.symm hD
        refine lv_icmp_eq (tgt := 634) hx hb d_L_158 (by decide) (fun _ => ?_) (fun c9 => absurd rfl c9)
        exact next k ky ko kt KO KT nA nK o_nP nQ o_bX o_bY o_bZ bA bB bC bD o_bS sT o_nO o_nT rO rT sO sP tG kQ kP p_vthrown p_vpoints vplanes vaxes vkept vax vay vaz p_cpx p_cpy p_cpz cplane caxis p_cwas p_cways ckeptWas ckeptWays ckeptPoints cnextWas cnextWays cnowWas cnowWays cto hR2 hkp H locs hP hD hS ls hl
      | 1, _ =>
        refine lv_tableIn (off := 131) (tgt := 163) hx hb d_L_32 (by decide) (by decide) (by decide) (by decide) ?_
        refine lv_aload_n hx hb d_L_163 rfl (lv_at hl 1 rfl) ?_
        refine lv_aload_n hx hb d_L_164 rfl (lv_at hl 0 rfl) ?_
        refine lv_iload_n hx hb d_L_165 rfl (lv_at hl 3 rfl) ?_
        refine lv_iconst (v := 1) hx hb d_L_166 (by decide) ?_
        refine lv_iadd hx hb d_L_167 ?_
        refine va_sld hx hb hX hbl hbA hS hi_1 d_L_168 ?_
        obtain ⟨rz, o_nP, o_bX, o_bY, o_bZ, o_bS, o_nO, o_nT, p_vthrown, p_vpoints, p_cpx, p_cpy, p_cpz, p_cwas, p_cways, hfx, hfm, hR2⟩ := op_cube hR vthrown (xs (nI (5 * t) + 1).toNatClampNeg)
        have hPx : va_P (dC, dI) vwCl (w_X qX qB qSt qN qR qS qTg qKp qKq qBx qBy qBz qBa qBb qBc qBd qBs qNo qNt qRo qRt qSo qSp cI cJ nA nK nP nQ bX bY bZ bA bB bC bD bS sT nO nT rO rT sO sP tG kQ) H := fr_pre hP
        have hDx : va_D (fun q : Nat => s.heap.size ≤ q) (w_X qX qB qSt qN qR qS qTg qKp qKq qBx qBy qBz qBa qBb qBc qBd qBs qNo qNt qRo qRt qSo qSp cI cJ nA nK nP nQ bX bY bZ bA bB bC bD bS sT nO nT rO rT sO sP tG kQ) := fr_preD hD
        have hFx : ∀ q, va_A (w_X qX qB qSt qN qR qS qTg qKp qKq qBx qBy qBz qBa qBb qBc qBd qBs qNo qNt qRo qRt qSo qSp cI cJ nA nK nP nQ bX bY bZ bA bB bC bD bS sT nO nT rO rT sO sP tG kQ) H.size q → s.heap.size ≤ q := fr_free (A0 := fun q : Nat => s.heap.size ≤ q) hD hS hA
        refine va_calli (va_runV (As := [.int (xs (nI (5 * t) + 1).toNatClampNeg)]) (rest := []) ⟨hx, hb, hml, hown, ht⟩ (c_X_cube l dC dI qX qB qSt qN qR qS qTg qKp qKq qBx qBy qBz qBa qBb qBc qBd qBs qNo qNt qRo qRt qSo qSp cI cJ cQ H.size nA nK nP nQ bX bY bZ bA bB bC bD bS sT nO nT rO rT sO sP tG kQ (xs (nI (5 * t) + 1).toNatClampNeg) rz o_nP o_bX o_bY o_bZ o_bS o_nO o_nT  hfx) (cwV 1 ht (gV m_158 m_159 m_160 m_28 m_161) rfl rfl rfl (by decide +kernel) ⟨Nat.le_of_ble_eq_true rfl, Nat.le_of_ble_eq_true rfl⟩) (preMV hPx hK hZ hDx (va_recv hK hPx (ci := 2) (q0 := 0) rfl rfl)) rfl rfl hl.1 rfl (lv_room (Nat.le_of_ble_eq_true rfl)) d_L_169 hrm) hS (fun q _ h => hFx q h) hFx (fun r u tt H1 locs ht9 hvm hw hB hz1 hk1 hS => ?_)
        obtain ⟨hP1, hD1⟩ := hB
        rw [ht9] at hP1
        subst hw
        have hPD := fr_join (a1 := (w_X qX qB qSt qN qR qS qTg qKp qKq qBx qBy qBz qBa qBb qBc qBd qBs qNo qNt qRo qRt qSo qSp cI cJ nA nK o_nP nQ o_bX o_bY o_bZ bA bB bC bD o_bS sT o_nO o_nT rO rT sO sP tG kQ)) hP hD hk1 hFx hP1 hD1
        obtain ⟨hP, hD⟩ := hPD
        clear hPx hDx hFx hP1 hD1 hz1 hk1 ht9 hvm
        generalize H1 = H at hP hS ⊢
        refine W.widen (k := 40 + 3 * t) (n := 4000 + 122 * t) (Nat.le_refl _) (Nat.le_refl _) ?_
        refine lv_aload_n hx hb d_L_172 rfl (lv_at hl 2 rfl) ?_
        refine lv_aload_n hx hb d_L_173 rfl (lv_at hl 0 rfl) ?_
        refine lv_iload_n hx hb d_L_174 rfl (lv_at hl 3 rfl) ?_
        refine lv_iconst (v := 1) hx hb d_L_175 (by decide) ?_
        refine lv_iadd hx hb d_L_176 ?_
        refine va_sld hx hb hX hbl hbA hS hi_1 d_L_177 ?_
        have hP := fr_perm fr_rot2 hP
        have hD := fr_permD fr_rot2 hD
        have hPx : va_P (dC, dI) vwCl (w_M qM q_px q_py q_pz q_plane q_axis q_was q_ways q_keptWas q_keptWays q_keptPoints q_nextWas q_nextWays q_nowWas q_nowWays q_to cI vthrown vpoints vplanes vaxes vkept vax vay vaz cpx cpy cpz cplane caxis cwas cways ckeptWas ckeptWays ckeptPoints cnextWas cnextWays cnowWas cnowWays cto) H := fr_pre hP
        have hDx : va_D (fun q : Nat => s.heap.size ≤ q) (w_M qM q_px q_py q_pz q_plane q_axis q_was q_ways q_keptWas q_keptWays q_keptPoints q_nextWas q_nextWays q_nowWas q_nowWays q_to cI vthrown vpoints vplanes vaxes vkept vax vay vaz cpx cpy cpz cplane caxis cwas cways ckeptWas ckeptWays ckeptPoints cnextWas cnextWays cnowWas cnowWays cto) := fr_preD hD
        have hFx : ∀ q, va_A (w_M qM q_px q_py q_pz q_plane q_axis q_was q_ways q_keptWas q_keptWays q_keptPoints q_nextWas q_nextWays q_nowWas q_nowWays q_to cI vthrown vpoints vplanes vaxes vkept vax vay vaz cpx cpy cpz cplane caxis cwas cways ckeptWas ckeptWays ckeptPoints cnextWas cnextWays cnowWas cnowWays cto) H.size q → s.heap.size ≤ q := fr_free (A0 := fun q : Nat => s.heap.size ≤ q) hD hS hA
        refine va_calli (va_runV (As := [.int (xs (nI (5 * t) + 1).toNatClampNeg)]) (rest := [.int r]) ⟨hx, hb, hml, hown, ht⟩ (c_M_cube l dC dI qM q_px q_py q_pz q_plane q_axis q_was q_ways q_keptWas q_keptWays q_keptPoints q_nextWas q_nextWays q_nowWas q_nowWays q_to cI cJ cQ H.size vthrown vpoints vplanes vaxes vkept vax vay vaz cpx cpy cpz cplane caxis cwas cways ckeptWas ckeptWays ckeptPoints cnextWas cnextWays cnowWas cnowWays cto (xs (nI (5 * t) + 1).toNatClampNeg) r p_vthrown p_vpoints p_cpx p_cpy p_cpz p_cwas p_cways  hfm) (cwV 1 ht (gV m_435 m_436 m_437 m_31 m_438) rfl rfl rfl (by decide +kernel) ⟨Nat.le_of_ble_eq_true rfl, Nat.le_of_ble_eq_true rfl⟩) (preMV hPx hK hZ hDx (va_recv hK hPx (ci := 3) (q0 := 0) rfl rfl)) rfl rfl hl.1 rfl (lv_room (Nat.le_of_ble_eq_true rfl)) d_L_178 hrm) hS (fun q _ h => hFx q h) hFx (fun r2 u tt H1 locs ht9 hvm hw hB hz1 hk1 hS => ?_)
        obtain ⟨hP1, hD1⟩ := hB
        rw [ht9] at hP1
        subst hw
        have hPD := fr_join (a1 := (w_M qM q_px q_py q_pz q_plane q_axis q_was q_ways q_keptWas q_keptWays q_keptPoints q_nextWas q_nextWays q_nowWas q_nowWays q_to cI p_vthrown p_vpoints vplanes vaxes vkept vax vay vaz p_cpx p_cpy p_cpz cplane caxis p_cwas p_cways ckeptWas ckeptWays ckeptPoints cnextWas cnextWays cnowWas cnowWays cto)) hP hD hk1 hFx hP1 hD1
        obtain ⟨hP, hD⟩ := hPD
        clear hPx hDx hFx hP1 hD1 hz1 hk1 ht9 hvm
        generalize H1 = H at hP hS ⊢
        refine W.widen (k := 40 + 3 * t) (n := 4000 + 122 * t) (Nat.le_refl _) (Nat.le_refl _) ?_
        have hP := fr_perm fr_rot2.symm hP
        have hD := fr_permD fr_rot2.symm hD
        refine lv_icmp_eq (tgt := 634) hx hb d_L_181 (by decide) (fun _ => ?_) (fun c9 => absurd rfl c9)
        exact next k ky ko kt KO KT nA nK o_nP nQ o_bX o_bY o_bZ bA bB bC bD o_bS sT o_nO o_nT rO rT sO sP tG kQ kP p_vthrown p_vpoints vplanes vaxes vkept vax vay vaz p_cpx p_cpy p_cpz cplane caxis p_cwas p_cways ckeptWas ckeptWays ckeptPoints cnextWas cnextWays cnowWas cnowWays cto hR2 hkp H locs hP hD hS ls hl
      | 2, _ =>
        refine lv_tableIn (off := 154) (tgt := 186) hx hb d_L_32 (by decide) (by decide) (by decide) (by decide) ?_
        refine lv_aload_n hx hb d_L_186 rfl (lv_at hl 1 rfl) ?_
        refine lv_aload_n hx hb d_L_187 rfl (lv_at hl 0 rfl) ?_
        refine lv_iload_n hx hb d_L_188 rfl (lv_at hl 3 rfl) ?_
        refine lv_iconst (v := 1) hx hb d_L_189 (by decide) ?_
        refine lv_iadd hx hb d_L_190 ?_
        refine va_sld hx hb hX hbl hbA hS hi_1 d_L_191 ?_
        refine lv_aload_n hx hb d_L_192 rfl (lv_at hl 0 rfl) ?_
        refine lv_iload_n hx hb d_L_193 rfl (lv_at hl 3 rfl) ?_
        refine lv_iconst (v := 2) hx hb d_L_194 (by decide) ?_
        refine lv_iadd hx hb d_L_195 ?_
        refine va_sld hx hb hX hbl hbA hS hi_2 d_L_196 ?_
        refine lv_aload_n hx hb d_L_197 rfl (lv_at hl 0 rfl) ?_
        refine lv_iload_n hx hb d_L_198 rfl (lv_at hl 3 rfl) ?_
        refine lv_iconst (v := 3) hx hb d_L_199 (by decide) ?_
        refine lv_iadd hx hb d_L_200 ?_
        refine va_sld hx hb hX hbl hbA hS hi_3 d_L_201 ?_
        refine lv_aload_n hx hb d_L_202 rfl (lv_at hl 0 rfl) ?_
        refine lv_iload_n hx hb d_L_203 rfl (lv_at hl 3 rfl) ?_
        refine lv_iconst (v := 4) hx hb d_L_204 (by decide) ?_
        refine lv_iadd hx hb d_L_205 ?_
        refine va_sld hx hb hX hbl hbA hS hi_4 d_L_206 ?_
        obtain ⟨rz, o_nQ, o_bA, o_bB, o_bC, o_bD, o_bS, p_vthrown, p_vplanes, p_cplane, hfx, hfm, hR2⟩ := op_plane hR vthrown (xs (nI (5 * t) + 1).toNatClampNeg) (xs (nI (5 * t) + 2).toNatClampNeg) (xs (nI (5 * t) + 3).toNatClampNeg) (xs (nI (5 * t) + 4).toNatClampNeg)
        have hPx : va_P (dC, dI) vwCl (w_X qX qB qSt qN qR qS qTg qKp qKq qBx qBy qBz qBa qBb qBc qBd qBs qNo qNt qRo qRt qSo qSp cI cJ nA nK nP nQ bX bY bZ bA bB bC bD bS sT nO nT rO rT sO sP tG kQ) H := fr_pre hP
        have hDx : va_D (fun q : Nat => s.heap.size ≤ q) (w_X qX qB qSt qN qR qS qTg qKp qKq qBx qBy qBz qBa qBb qBc qBd qBs qNo qNt qRo qRt qSo qSp cI cJ nA nK nP nQ bX bY bZ bA bB bC bD bS sT nO nT rO rT sO sP tG kQ) := fr_preD hD
        have hFx : ∀ q, va_A (w_X qX qB qSt qN qR qS qTg qKp qKq qBx qBy qBz qBa qBb qBc qBd qBs qNo qNt qRo qRt qSo qSp cI cJ nA nK nP nQ bX bY bZ bA bB bC bD bS sT nO nT rO rT sO sP tG kQ) H.size q → s.heap.size ≤ q := fr_free (A0 := fun q : Nat => s.heap.size ≤ q) hD hS hA
        refine va_calli (va_runV (As := [.int (xs (nI (5 * t) + 1).toNatClampNeg), .int (xs (nI (5 * t) + 2).toNatClampNeg), .int (xs (nI (5 * t) + 3).toNatClampNeg), .int (xs (nI (5 * t) + 4).toNatClampNeg)]) (rest := []) ⟨hx, hb, hml, hown, ht⟩ (c_X_plane l dC dI qX qB qSt qN qR qS qTg qKp qKq qBx qBy qBz qBa qBb qBc qBd qBs qNo qNt qRo qRt qSo qSp cI cJ cQ H.size nA nK nP nQ bX bY bZ bA bB bC bD bS sT nO nT rO rT sO sP tG kQ (xs (nI (5 * t) + 1).toNatClampNeg) (xs (nI (5 * t) + 2).toNatClampNeg) (xs (nI (5 * t) + 3).toNatClampNeg) (xs (nI (5 * t) + 4).toNatClampNeg) rz o_nQ o_bA o_bB o_bC o_bD o_bS  hfx) (cwV 4 ht (gV m_162 m_163 m_164 m_28 m_165) rfl rfl rfl (by decide +kernel) ⟨Nat.le_of_ble_eq_true rfl, Nat.le_of_ble_eq_true rfl⟩) (preMV hPx hK hZ hDx (va_recv hK hPx (ci := 2) (q0 := 0) rfl rfl)) rfl rfl hl.1 rfl (lv_room (Nat.le_of_ble_eq_true rfl)) d_L_207 hrm) hS (fun q _ h => hFx q h) hFx (fun r u tt H1 locs ht9 hvm hw hB hz1 hk1 hS => ?_)
        obtain ⟨hP1, hD1⟩ := hB
        rw [ht9] at hP1
        subst hw
        have hPD := fr_join (a1 := (w_X qX qB qSt qN qR qS qTg qKp qKq qBx qBy qBz qBa qBb qBc qBd qBs qNo qNt qRo qRt qSo qSp cI cJ nA nK nP o_nQ bX bY bZ o_bA o_bB o_bC o_bD o_bS sT nO nT rO rT sO sP tG kQ)) hP hD hk1 hFx hP1 hD1
        obtain ⟨hP, hD⟩ := hPD
        clear hPx hDx hFx hP1 hD1 hz1 hk1 ht9 hvm
        generalize H1 = H at hP hS ⊢
        refine W.widen (k := 40 + 3 * t) (n := 4000 + 122 * t) (Nat.le_refl _) (Nat.le_refl _) ?_
        refine lv_aload_n hx hb d_L_210 rfl (lv_at hl 2 rfl) ?_
        refine lv_aload_n hx hb d_L_211 rfl (lv_at hl 0 rfl) ?_
        refine lv_iload_n hx hb d_L_212 rfl (lv_at hl 3 rfl) ?_
        refine lv_iconst (v := 1) hx hb d_L_213 (by decide) ?_
        refine lv_iadd hx hb d_L_214 ?_
        refine va_sld hx hb hX hbl hbA hS hi_1 d_L_215 ?_
        refine lv_aload_n hx hb d_L_216 rfl (lv_at hl 0 rfl) ?_
        refine lv_iload_n hx hb d_L_217 rfl (lv_at hl 3 rfl) ?_
        refine lv_iconst (v := 2) hx hb d_L_218 (by decide) ?_
        refine lv_iadd hx hb d_L_219 ?_
        refine va_sld hx hb hX hbl hbA hS hi_2 d_L_220 ?_
        refine lv_aload_n hx hb d_L_221 rfl (lv_at hl 0 rfl) ?_
        refine lv_iload_n hx hb d_L_222 rfl (lv_at hl 3 rfl) ?_
        refine lv_iconst (v := 3) hx hb d_L_223 (by decide) ?_
        refine lv_iadd hx hb d_L_224 ?_
        refine va_sld hx hb hX hbl hbA hS hi_3 d_L_225 ?_
        refine lv_aload_n hx hb d_L_226 rfl (lv_at hl 0 rfl) ?_
        refine lv_iload_n hx hb d_L_227 rfl (lv_at hl 3 rfl) ?_
        refine lv_iconst (v := 4) hx hb d_L_228 (by decide) ?_
        refine lv_iadd hx hb d_L_229 ?_
        refine va_sld hx hb hX hbl hbA hS hi_4 d_L_230 ?_
        have hP := fr_perm fr_rot2 hP
        have hD := fr_permD fr_rot2 hD
        have hPx : va_P (dC, dI) vwCl (w_M qM q_px q_py q_pz q_plane q_axis q_was q_ways q_keptWas q_keptWays q_keptPoints q_nextWas q_nextWays q_nowWas q_nowWays q_to cI vthrown vpoints vplanes vaxes vkept vax vay vaz cpx cpy cpz cplane caxis cwas cways ckeptWas ckeptWays ckeptPoints cnextWas cnextWays cnowWas cnowWays cto) H := fr_pre hP
        have hDx : va_D (fun q : Nat => s.heap.size ≤ q) (w_M qM q_px q_py q_pz q_plane q_axis q_was q_ways q_keptWas q_keptWays q_keptPoints q_nextWas q_nextWays q_nowWas q_nowWays q_to cI vthrown vpoints vplanes vaxes vkept vax vay vaz cpx cpy cpz cplane caxis cwas cways ckeptWas ckeptWays ckeptPoints cnextWas cnextWays cnowWas cnowWays cto) := fr_preD hD
        have hFx : ∀ q, va_A (w_M qM q_px q_py q_pz q_plane q_axis q_was q_ways q_keptWas q_keptWays q_keptPoints q_nextWas q_nextWays q_nowWas q_nowWays q_to cI vthrown vpoints vplanes vaxes vkept vax vay vaz cpx cpy cpz cplane caxis cwas cways ckeptWas ckeptWays ckeptPoints cnextWas cnextWays cnowWas cnowWays cto) H.size q → s.heap.size ≤ q := fr_free (A0 := fun q : Nat => s.heap.size ≤ q) hD hS hA
        refine va_calli (va_runV (As := [.int (xs (nI (5 * t) + 1).toNatClampNeg), .int (xs (nI (5 * t) + 2).toNatClampNeg), .int (xs (nI (5 * t) + 3).toNatClampNeg), .int (xs (nI (5 * t) + 4).toNatClampNeg)]) (rest := [.int r]) ⟨hx, hb, hml, hown, ht⟩ (c_M_plane l dC dI qM q_px q_py q_pz q_plane q_axis q_was q_ways q_keptWas q_keptWays q_keptPoints q_nextWas q_nextWays q_nowWas q_nowWays q_to cI cJ cQ H.size vthrown vpoints vplanes vaxes vkept vax vay vaz cpx cpy cpz cplane caxis cwas cways ckeptWas ckeptWays ckeptPoints cnextWas cnextWays cnowWas cnowWays cto (xs (nI (5 * t) + 1).toNatClampNeg) (xs (nI (5 * t) + 2).toNatClampNeg) (xs (nI (5 * t) + 3).toNatClampNeg) (xs (nI (5 * t) + 4).toNatClampNeg) r p_vthrown p_vplanes p_cplane  hfm) (cwV 4 ht (gV m_439 m_440 m_441 m_31 m_442) rfl rfl rfl (by decide +kernel) ⟨Nat.le_of_ble_eq_true rfl, Nat.le_of_ble_eq_true rfl⟩) (preMV hPx hK hZ hDx (va_recv hK hPx (ci := 3) (q0 := 0) rfl rfl)) rfl rfl hl.1 rfl (lv_room (Nat.le_of_ble_eq_true rfl)) d_L_231 hrm) hS (fun q _ h => hFx q h) hFx (fun r2 u tt H1 locs ht9 hvm hw hB hz1 hk1 hS => ?_)
        obtain ⟨hP1, hD1⟩ := hB
        rw [ht9] at hP1
        subst hw
        have hPD := fr_join (a1 := (w_M qM q_px q_py q_pz q_plane q_axis q_was q_ways q_keptWas q_keptWays q_keptPoints q_nextWas q_nextWays q_nowWas q_nowWays q_to cI p_vthrown vpoints p_vplanes vaxes vkept vax vay vaz cpx cpy cpz p_cplane caxis cwas cways ckeptWas ckeptWays ckeptPoints cnextWas cnextWays cnowWas cnowWays cto)) hP hD hk1 hFx hP1 hD1
        obtain ⟨hP, hD⟩ := hPD
        clear hPx hDx hFx hP1 hD1 hz1 hk1 ht9 hvm
        generalize H1 = H at hP hS ⊢
        refine W.widen (k := 40 + 3 * t) (n := 4000 + 122 * t) (Nat.le_refl _) (Nat.le_refl _) ?_
        have hP := fr_perm fr_rot2.symm hP
        have hD := fr_permD fr_rot2.symm hD
        refine lv_icmp_eq (tgt := 634) hx hb d_L_234 (by decide) (fun _ => ?_) (fun c9 => absurd rfl c9)
        exact next k ky ko kt KO KT nA nK nP o_nQ bX bY bZ o_bA o_bB o_bC o_bD o_bS sT nO nT rO rT sO sP tG kQ kP p_vthrown vpoints p_vplanes vaxes vkept vax vay vaz cpx cpy cpz p_cplane caxis cwas cways ckeptWas ckeptWays ckeptPoints cnextWas cnextWays cnowWas cnowWays cto hR2 hkp H locs hP hD hS ls hl
      | 3, _ =>
        refine lv_tableIn (off := 207) (tgt := 239) hx hb d_L_32 (by decide) (by decide) (by decide) (by decide) ?_
        refine lv_aload_n hx hb d_L_239 rfl (lv_at hl 1 rfl) ?_
        refine lv_aload_n hx hb d_L_240 rfl (lv_at hl 0 rfl) ?_
        refine lv_iload_n hx hb d_L_241 rfl (lv_at hl 3 rfl) ?_
        refine lv_iconst (v := 1) hx hb d_L_242 (by decide) ?_
        refine lv_iadd hx hb d_L_243 ?_
        refine va_sld hx hb hX hbl hbA hS hi_1 d_L_244 ?_
        refine lv_aload_n hx hb d_L_245 rfl (lv_at hl 0 rfl) ?_
        refine lv_iload_n hx hb d_L_246 rfl (lv_at hl 3 rfl) ?_
        refine lv_iconst (v := 2) hx hb d_L_247 (by decide) ?_
        refine lv_iadd hx hb d_L_248 ?_
        refine va_sld hx hb hX hbl hbA hS hi_2 d_L_249 ?_
        refine lv_aload_n hx hb d_L_250 rfl (lv_at hl 0 rfl) ?_
        refine lv_iload_n hx hb d_L_251 rfl (lv_at hl 3 rfl) ?_
        refine lv_iconst (v := 3) hx hb d_L_252 (by decide) ?_
        refine lv_iadd hx hb d_L_253 ?_
        refine va_sld hx hb hX hbl hbA hS hi_3 d_L_254 ?_
        obtain ⟨rz, o_nA, o_sT, p_vthrown, p_vaxes, p_caxis, hfx, hfm, hR2⟩ := op_axis hR vthrown (xs (nI (5 * t) + 1).toNatClampNeg) (xs (nI (5 * t) + 2).toNatClampNeg) (xs (nI (5 * t) + 3).toNatClampNeg)
        have hPx : va_P (dC, dI) vwCl (w_X qX qB qSt qN qR qS qTg qKp qKq qBx qBy qBz qBa qBb qBc qBd qBs qNo qNt qRo qRt qSo qSp cI cJ nA nK nP nQ bX bY bZ bA bB bC bD bS sT nO nT rO rT sO sP tG kQ) H := fr_pre hP
        have hDx : va_D (fun q : Nat => s.heap.size ≤ q) (w_X qX qB qSt qN qR qS qTg qKp qKq qBx qBy qBz qBa qBb qBc qBd qBs qNo qNt qRo qRt qSo qSp cI cJ nA nK nP nQ bX bY bZ bA bB bC bD bS sT nO nT rO rT sO sP tG kQ) := fr_preD hD
        have hFx : ∀ q, va_A (w_X qX qB qSt qN qR qS qTg qKp qKq qBx qBy qBz qBa qBb qBc qBd qBs qNo qNt qRo qRt qSo qSp cI cJ nA nK nP nQ bX bY bZ bA bB bC bD bS sT nO nT rO rT sO sP tG kQ) H.size q → s.heap.size ≤ q := fr_free (A0 := fun q : Nat => s.heap.size ≤ q) hD hS hA
        refine va_calli (va_runV (As := [.int (xs (nI (5 * t) + 1).toNatClampNeg), .int (xs (nI (5 * t) + 2).toNatClampNeg), .int (xs (nI (5 * t) + 3).toNatClampNeg)]) (rest := []) ⟨hx, hb, hml, hown, ht⟩ (c_X_axis l dC dI qX qB qSt qN qR qS qTg qKp qKq qBx qBy qBz qBa qBb qBc qBd qBs qNo qNt qRo qRt qSo qSp cI cJ cQ H.size nA nK nP nQ bX bY bZ bA bB bC bD bS sT nO nT rO rT sO sP tG kQ (xs (nI (5 * t) + 1).toNatClampNeg) (xs (nI (5 * t) + 2).toNatClampNeg) (xs (nI (5 * t) + 3).toNatClampNeg) rz o_nA o_sT  hfx) (cwV 3 ht (gV m_170 m_171 m_172 m_28 m_173) rfl rfl rfl (by decide +kernel) ⟨Nat.le_of_ble_eq_true rfl, Nat.le_of_ble_eq_true rfl⟩) (preMV hPx hK hZ hDx (va_recv hK hPx (ci := 2) (q0 := 0) rfl rfl)) rfl rfl hl.1 rfl (lv_room (Nat.le_of_ble_eq_true rfl)) d_L_255 hrm) hS (fun q _ h => hFx q h) hFx (fun r u tt H1 locs ht9 hvm hw hB hz1 hk1 hS => ?_)
        obtain ⟨hP1, hD1⟩ := hB
        rw [ht9] at hP1
        subst hw
        have hPD := fr_join (a1 := (w_X qX qB qSt qN qR qS qTg qKp qKq qBx qBy qBz qBa qBb qBc qBd qBs qNo qNt qRo qRt qSo qSp cI cJ o_nA nK nP nQ bX bY bZ bA bB bC bD bS o_sT nO nT rO rT sO sP tG kQ)) hP hD hk1 hFx hP1 hD1
        obtain ⟨hP, hD⟩ := hPD
        clear hPx hDx hFx hP1 hD1 hz1 hk1 ht9 hvm
        generalize H1 = H at hP hS ⊢
        refine W.widen (k := 40 + 3 * t) (n := 4000 + 122 * t) (Nat.le_refl _) (Nat.le_refl _) ?_
        refine lv_aload_n hx hb d_L_258 rfl (lv_at hl 2 rfl) ?_
        refine lv_aload_n hx hb d_L_259 rfl (lv_at hl 0 rfl) ?_
        refine lv_iload_n hx hb d_L_260 rfl (lv_at hl 3 rfl) ?_
        refine lv_iconst (v := 1) hx hb d_L_261 (by decide) ?_
        refine lv_iadd hx hb d_L_262 ?_
        refine va_sld hx hb hX hbl hbA hS hi_1 d_L_263 ?_
        refine lv_aload_n hx hb d_L_264 rfl (lv_at hl 0 rfl) ?_
        refine lv_iload_n hx hb d_L_265 rfl (lv_at hl 3 rfl) ?_
        refine lv_iconst (v := 2) hx hb d_L_266 (by decide) ?_
        refine lv_iadd hx hb d_L_267 ?_
        refine va_sld hx hb hX hbl hbA hS hi_2 d_L_268 ?_
        refine lv_aload_n hx hb d_L_269 rfl (lv_at hl 0 rfl) ?_
        refine lv_iload_n hx hb d_L_270 rfl (lv_at hl 3 rfl) ?_
        refine lv_iconst (v := 3) hx hb d_L_271 (by decide) ?_
        refine lv_iadd hx hb d_L_272 ?_
        refine va_sld hx hb hX hbl hbA hS hi_3 d_L_273 ?_
        have hP := fr_perm fr_rot2 hP
        have hD := fr_permD fr_rot2 hD
        have hPx : va_P (dC, dI) vwCl (w_M qM q_px q_py q_pz q_plane q_axis q_was q_ways q_keptWas q_keptWays q_keptPoints q_nextWas q_nextWays q_nowWas q_nowWays q_to cI vthrown vpoints vplanes vaxes vkept vax vay vaz cpx cpy cpz cplane caxis cwas cways ckeptWas ckeptWays ckeptPoints cnextWas cnextWays cnowWas cnowWays cto) H := fr_pre hP
        have hDx : va_D (fun q : Nat => s.heap.size ≤ q) (w_M qM q_px q_py q_pz q_plane q_axis q_was q_ways q_keptWas q_keptWays q_keptPoints q_nextWas q_nextWays q_nowWas q_nowWays q_to cI vthrown vpoints vplanes vaxes vkept vax vay vaz cpx cpy cpz cplane caxis cwas cways ckeptWas ckeptWays ckeptPoints cnextWas cnextWays cnowWas cnowWays cto) := fr_preD hD
        have hFx : ∀ q, va_A (w_M qM q_px q_py q_pz q_plane q_axis q_was q_ways q_keptWas q_keptWays q_keptPoints q_nextWas q_nextWays q_nowWas q_nowWays q_to cI vthrown vpoints vplanes vaxes vkept vax vay vaz cpx cpy cpz cplane caxis cwas cways ckeptWas ckeptWays ckeptPoints cnextWas cnextWays cnowWas cnowWays cto) H.size q → s.heap.size ≤ q := fr_free (A0 := fun q : Nat => s.heap.size ≤ q) hD hS hA
        refine va_calli (va_runV (As := [.int (xs (nI (5 * t) + 1).toNatClampNeg), .int (xs (nI (5 * t) + 2).toNatClampNeg), .int (xs (nI (5 * t) + 3).toNatClampNeg)]) (rest := [.int r]) ⟨hx, hb, hml, hown, ht⟩ (c_M_axis l dC dI qM q_px q_py q_pz q_plane q_axis q_was q_ways q_keptWas q_keptWays q_keptPoints q_nextWas q_nextWays q_nowWas q_nowWays q_to cI cJ cQ H.size vthrown vpoints vplanes vaxes vkept vax vay vaz cpx cpy cpz cplane caxis cwas cways ckeptWas ckeptWays ckeptPoints cnextWas cnextWays cnowWas cnowWays cto (xs (nI (5 * t) + 1).toNatClampNeg) (xs (nI (5 * t) + 2).toNatClampNeg) (xs (nI (5 * t) + 3).toNatClampNeg) r p_vthrown p_vaxes p_caxis  hfm) (cwV 3 ht (gV m_443 m_444 m_445 m_31 m_446) rfl rfl rfl (by decide +kernel) ⟨Nat.le_of_ble_eq_true rfl, Nat.le_of_ble_eq_true rfl⟩) (preMV hPx hK hZ hDx (va_recv hK hPx (ci := 3) (q0 := 0) rfl rfl)) rfl rfl hl.1 rfl (lv_room (Nat.le_of_ble_eq_true rfl)) d_L_274 hrm) hS (fun q _ h => hFx q h) hFx (fun r2 u tt H1 locs ht9 hvm hw hB hz1 hk1 hS => ?_)
        obtain ⟨hP1, hD1⟩ := hB
        rw [ht9] at hP1
        subst hw
        have hPD := fr_join (a1 := (w_M qM q_px q_py q_pz q_plane q_axis q_was q_ways q_keptWas q_keptWays q_keptPoints q_nextWas q_nextWays q_nowWas q_nowWays q_to cI p_vthrown vpoints vplanes p_vaxes vkept vax vay vaz cpx cpy cpz cplane p_caxis cwas cways ckeptWas ckeptWays ckeptPoints cnextWas cnextWays cnowWas cnowWays cto)) hP hD hk1 hFx hP1 hD1
        obtain ⟨hP, hD⟩ := hPD
        clear hPx hDx hFx hP1 hD1 hz1 hk1 ht9 hvm
        generalize H1 = H at hP hS ⊢
        refine W.widen (k := 40 + 3 * t) (n := 4000 + 122 * t) (Nat.le_refl _) (Nat.le_refl _) ?_
        have hP := fr_perm fr_rot2.symm hP
        have hD := fr_permD fr_rot2.symm hD
        refine lv_icmp_eq (tgt := 634) hx hb d_L_277 (by decide) (fun _ => ?_) (fun c9 => absurd rfl c9)
        exact next k ky ko kt KO KT o_nA nK nP nQ bX bY bZ bA bB bC bD bS o_sT nO nT rO rT sO sP tG kQ kP p_vthrown vpoints vplanes p_vaxes vkept vax vay vaz cpx cpy cpz cplane p_caxis cwas cways ckeptWas ckeptWays ckeptPoints cnextWas cnextWays cnowWas cnowWays cto hR2 hkp H locs hP hD hS ls hl
      | 4, _ =>
        refine lv_tableIn (off := 250) (tgt := 282) hx hb d_L_32 (by decide) (by decide) (by decide) (by decide) ?_
        refine lv_aload_n hx hb d_L_282 rfl (lv_at hl 1 rfl) ?_
        refine lv_aload_n hx hb d_L_283 rfl (lv_at hl 0 rfl) ?_
        refine lv_iload_n hx hb d_L_284 rfl (lv_at hl 3 rfl) ?_
        refine lv_iconst (v := 1) hx hb d_L_285 (by decide) ?_
        refine lv_iadd hx hb d_L_286 ?_
        refine va_sld hx hb hX hbl hbA hS hi_1 d_L_287 ?_
        obtain ⟨rz, p_vthrown, hfx, hfm, hR2⟩ := op_order hR vthrown (xs (nI (5 * t) + 1).toNatClampNeg)
        have hPx : va_P (dC, dI) vwCl (w_X qX qB qSt qN qR qS qTg qKp qKq qBx qBy qBz qBa qBb qBc qBd qBs qNo qNt qRo qRt qSo qSp cI cJ nA nK nP nQ bX bY bZ bA bB bC bD bS sT nO nT rO rT sO sP tG kQ) H := fr_pre hP
        refine vp_callSi (va_runV (As := [.int (xs (nI (5 * t) + 1).toNatClampNeg)]) (rest := []) ⟨hx, hb, hml, hown, ht⟩ (c_X_order l dC dI qX qB qSt qN qR qS qTg qKp qKq qBx qBy qBz qBa qBb qBc qBd qBs qNo qNt qRo qRt qSo qSp cI cJ cQ nA nK nP nQ bX bY bZ bA bB bC bD bS sT nO nT rO rT sO sP tG kQ (xs (nI (5 * t) + 1).toNatClampNeg) rz  hfx) (cwV 1 ht (gV m_184 m_185 m_186 m_28 m_187) rfl rfl rfl (by decide +kernel) ⟨Nat.le_of_ble_eq_true rfl, Nat.le_of_ble_eq_true rfl⟩) (preRV hPx hK hZ (va_recv hK hPx (ci := 2) (q0 := 0) rfl rfl)) rfl rfl hl.1 rfl (lv_room (Nat.le_of_ble_eq_true rfl)) d_L_288 hrm).run (fun r hw => ?_)
        subst hw
        clear hPx
        refine lv_aload_n hx hb d_L_291 rfl (lv_at hl 2 rfl) ?_
        refine lv_aload_n hx hb d_L_292 rfl (lv_at hl 0 rfl) ?_
        refine lv_iload_n hx hb d_L_293 rfl (lv_at hl 3 rfl) ?_
        refine lv_iconst (v := 1) hx hb d_L_294 (by decide) ?_
        refine lv_iadd hx hb d_L_295 ?_
        refine va_sld hx hb hX hbl hbA hS hi_1 d_L_296 ?_
        have hP := fr_perm fr_rot2 hP
        have hD := fr_permD fr_rot2 hD
        have hPx : va_P (dC, dI) vwCl (w_M qM q_px q_py q_pz q_plane q_axis q_was q_ways q_keptWas q_keptWays q_keptPoints q_nextWas q_nextWays q_nowWas q_nowWays q_to cI vthrown vpoints vplanes vaxes vkept vax vay vaz cpx cpy cpz cplane caxis cwas cways ckeptWas ckeptWays ckeptPoints cnextWas cnextWays cnowWas cnowWays cto) H := fr_pre hP
        have hDx : va_D (fun q : Nat => s.heap.size ≤ q) (w_M qM q_px q_py q_pz q_plane q_axis q_was q_ways q_keptWas q_keptWays q_keptPoints q_nextWas q_nextWays q_nowWas q_nowWays q_to cI vthrown vpoints vplanes vaxes vkept vax vay vaz cpx cpy cpz cplane caxis cwas cways ckeptWas ckeptWays ckeptPoints cnextWas cnextWays cnowWas cnowWays cto) := fr_preD hD
        have hFx : ∀ q, va_A (w_M qM q_px q_py q_pz q_plane q_axis q_was q_ways q_keptWas q_keptWays q_keptPoints q_nextWas q_nextWays q_nowWas q_nowWays q_to cI vthrown vpoints vplanes vaxes vkept vax vay vaz cpx cpy cpz cplane caxis cwas cways ckeptWas ckeptWays ckeptPoints cnextWas cnextWays cnowWas cnowWays cto) H.size q → s.heap.size ≤ q := fr_free (A0 := fun q : Nat => s.heap.size ≤ q) hD hS hA
        refine va_calli (va_runV (As := [.int (xs (nI (5 * t) + 1).toNatClampNeg)]) (rest := [.int r]) ⟨hx, hb, hml, hown, ht⟩ (c_M_order l dC dI qM q_px q_py q_pz q_plane q_axis q_was q_ways q_keptWas q_keptWays q_keptPoints q_nextWas q_nextWays q_nowWas q_nowWays q_to cI cJ cQ H.size vthrown vpoints vplanes vaxes vkept vax vay vaz cpx cpy cpz cplane caxis cwas cways ckeptWas ckeptWays ckeptPoints cnextWas cnextWays cnowWas cnowWays cto (xs (nI (5 * t) + 1).toNatClampNeg) r p_vthrown  hfm) (cwV 1 ht (gV m_450 m_451 m_452 m_31 m_453) rfl rfl rfl (by decide +kernel) ⟨Nat.le_of_ble_eq_true rfl, Nat.le_of_ble_eq_true rfl⟩) (preMV hPx hK hZ hDx (va_recv hK hPx (ci := 3) (q0 := 0) rfl rfl)) rfl rfl hl.1 rfl (lv_room (Nat.le_of_ble_eq_true rfl)) d_L_297 hrm) hS (fun q _ h => hFx q h) hFx (fun r2 u tt H1 locs ht9 hvm hw hB hz1 hk1 hS => ?_)
        obtain ⟨hP1, hD1⟩ := hB
        rw [ht9] at hP1
        subst hw
        have hPD := fr_join (a1 := (w_M qM q_px q_py q_pz q_plane q_axis q_was q_ways q_keptWas q_keptWays q_keptPoints q_nextWas q_nextWays q_nowWas q_nowWays q_to cI p_vthrown vpoints vplanes vaxes vkept vax vay vaz cpx cpy cpz cplane caxis cwas cways ckeptWas ckeptWays ckeptPoints cnextWas cnextWays cnowWas cnowWays cto)) hP hD hk1 hFx hP1 hD1
        obtain ⟨hP, hD⟩ := hPD
        clear hPx hDx hFx hP1 hD1 hz1 hk1 ht9 hvm
        generalize H1 = H at hP hS ⊢
        refine W.widen (k := 40 + 3 * t) (n := 4000 + 122 * t) (Nat.le_refl _) (Nat.le_refl _) ?_
        have hP := fr_perm fr_rot2.symm hP
        have hD := fr_permD fr_rot2.symm hD
        refine lv_icmp_eq (tgt := 634) hx hb d_L_300 (by decide) (fun _ => ?_) (fun c9 => absurd rfl c9)
        exact next k ky ko kt KO KT nA nK nP nQ bX bY bZ bA bB bC bD bS sT nO nT rO rT sO sP tG kQ kP p_vthrown vpoints vplanes vaxes vkept vax vay vaz cpx cpy cpz cplane caxis cwas cways ckeptWas ckeptWays ckeptPoints cnextWas cnextWays cnowWas cnowWays cto hR2 hkp H locs hP hD hS ls hl
      | 5, _ =>
        refine lv_tableIn (off := 273) (tgt := 305) hx hb d_L_32 (by decide) (by decide) (by decide) (by decide) ?_
        refine lv_aload_n hx hb d_L_305 rfl (lv_at hl 1 rfl) ?_
        refine lv_aload_n hx hb d_L_306 rfl (lv_at hl 0 rfl) ?_
        refine lv_iload_n hx hb d_L_307 rfl (lv_at hl 3 rfl) ?_
        refine lv_iconst (v := 1) hx hb d_L_308 (by decide) ?_
        refine lv_iadd hx hb d_L_309 ?_
        refine va_sld hx hb hX hbl hbA hS hi_1 d_L_310 ?_
        refine lv_aload_n hx hb d_L_311 rfl (lv_at hl 0 rfl) ?_
        refine lv_iload_n hx hb d_L_312 rfl (lv_at hl 3 rfl) ?_
        refine lv_iconst (v := 2) hx hb d_L_313 (by decide) ?_
        refine lv_iadd hx hb d_L_314 ?_
        refine va_sld hx hb hX hbl hbA hS hi_2 d_L_315 ?_
        obtain ⟨rz, p_vthrown, hfx, hfm, hR2⟩ := op_side hR vthrown (xs (nI (5 * t) + 1).toNatClampNeg) (xs (nI (5 * t) + 2).toNatClampNeg)
        have hPx : va_P (dC, dI) vwCl (w_X qX qB qSt qN qR qS qTg qKp qKq qBx qBy qBz qBa qBb qBc qBd qBs qNo qNt qRo qRt qSo qSp cI cJ nA nK nP nQ bX bY bZ bA bB bC bD bS sT nO nT rO rT sO sP tG kQ) H := fr_pre hP
        refine vp_callSi (va_runV (As := [.int (xs (nI (5 * t) + 1).toNatClampNeg), .int (xs (nI (5 * t) + 2).toNatClampNeg)]) (rest := []) ⟨hx, hb, hml, hown, ht⟩ (c_X_side l dC dI qX qB qSt qN qR qS qTg qKp qKq qBx qBy qBz qBa qBb qBc qBd qBs qNo qNt qRo qRt qSo qSp cI cJ cQ nA nK nP nQ bX bY bZ bA bB bC bD bS sT nO nT rO rT sO sP tG kQ (xs (nI (5 * t) + 1).toNatClampNeg) (xs (nI (5 * t) + 2).toNatClampNeg) rz  hfx) (cwV 2 ht (gV m_210 m_211 m_212 m_28 m_213) rfl rfl rfl (by decide +kernel) ⟨Nat.le_of_ble_eq_true rfl, Nat.le_of_ble_eq_true rfl⟩) (preRV hPx hK hZ (va_recv hK hPx (ci := 2) (q0 := 0) rfl rfl)) rfl rfl hl.1 rfl (lv_room (Nat.le_of_ble_eq_true rfl)) d_L_316 hrm).run (fun r hw => ?_)
        subst hw
        clear hPx
        refine lv_aload_n hx hb d_L_319 rfl (lv_at hl 2 rfl) ?_
        refine lv_aload_n hx hb d_L_320 rfl (lv_at hl 0 rfl) ?_
        refine lv_iload_n hx hb d_L_321 rfl (lv_at hl 3 rfl) ?_
        refine lv_iconst (v := 1) hx hb d_L_322 (by decide) ?_
        refine lv_iadd hx hb d_L_323 ?_
        refine va_sld hx hb hX hbl hbA hS hi_1 d_L_324 ?_
        refine lv_aload_n hx hb d_L_325 rfl (lv_at hl 0 rfl) ?_
        refine lv_iload_n hx hb d_L_326 rfl (lv_at hl 3 rfl) ?_
        refine lv_iconst (v := 2) hx hb d_L_327 (by decide) ?_
        refine lv_iadd hx hb d_L_328 ?_
        refine va_sld hx hb hX hbl hbA hS hi_2 d_L_329 ?_
        have hP := fr_perm fr_rot2 hP
        have hD := fr_permD fr_rot2 hD
        have hPx : va_P (dC, dI) vwCl (w_M qM q_px q_py q_pz q_plane q_axis q_was q_ways q_keptWas q_keptWays q_keptPoints q_nextWas q_nextWays q_nowWas q_nowWays q_to cI vthrown vpoints vplanes vaxes vkept vax vay vaz cpx cpy cpz cplane caxis cwas cways ckeptWas ckeptWays ckeptPoints cnextWas cnextWays cnowWas cnowWays cto) H := fr_pre hP
        have hDx : va_D (fun q : Nat => s.heap.size ≤ q) (w_M qM q_px q_py q_pz q_plane q_axis q_was q_ways q_keptWas q_keptWays q_keptPoints q_nextWas q_nextWays q_nowWas q_nowWays q_to cI vthrown vpoints vplanes vaxes vkept vax vay vaz cpx cpy cpz cplane caxis cwas cways ckeptWas ckeptWays ckeptPoints cnextWas cnextWays cnowWas cnowWays cto) := fr_preD hD
        have hFx : ∀ q, va_A (w_M qM q_px q_py q_pz q_plane q_axis q_was q_ways q_keptWas q_keptWays q_keptPoints q_nextWas q_nextWays q_nowWas q_nowWays q_to cI vthrown vpoints vplanes vaxes vkept vax vay vaz cpx cpy cpz cplane caxis cwas cways ckeptWas ckeptWays ckeptPoints cnextWas cnextWays cnowWas cnowWays cto) H.size q → s.heap.size ≤ q := fr_free (A0 := fun q : Nat => s.heap.size ≤ q) hD hS hA
        refine va_calli (va_runV (As := [.int (xs (nI (5 * t) + 1).toNatClampNeg), .int (xs (nI (5 * t) + 2).toNatClampNeg)]) (rest := [.int r]) ⟨hx, hb, hml, hown, ht⟩ (c_M_side l dC dI qM q_px q_py q_pz q_plane q_axis q_was q_ways q_keptWas q_keptWays q_keptPoints q_nextWas q_nextWays q_nowWas q_nowWays q_to cI cJ cQ H.size vthrown vpoints vplanes vaxes vkept vax vay vaz cpx cpy cpz cplane caxis cwas cways ckeptWas ckeptWays ckeptPoints cnextWas cnextWays cnowWas cnowWays cto (xs (nI (5 * t) + 1).toNatClampNeg) (xs (nI (5 * t) + 2).toNatClampNeg) r p_vthrown  hfm) (cwV 2 ht (gV m_478 m_479 m_480 m_31 m_481) rfl rfl rfl (by decide +kernel) ⟨Nat.le_of_ble_eq_true rfl, Nat.le_of_ble_eq_true rfl⟩) (preMV hPx hK hZ hDx (va_recv hK hPx (ci := 3) (q0 := 0) rfl rfl)) rfl rfl hl.1 rfl (lv_room (Nat.le_of_ble_eq_true rfl)) d_L_330 hrm) hS (fun q _ h => hFx q h) hFx (fun r2 u tt H1 locs ht9 hvm hw hB hz1 hk1 hS => ?_)
        obtain ⟨hP1, hD1⟩ := hB
        rw [ht9] at hP1
        subst hw
        have hPD := fr_join (a1 := (w_M qM q_px q_py q_pz q_plane q_axis q_was q_ways q_keptWas q_keptWays q_keptPoints q_nextWas q_nextWays q_nowWas q_nowWays q_to cI p_vthrown vpoints vplanes vaxes vkept vax vay vaz cpx cpy cpz cplane caxis cwas cways ckeptWas ckeptWays ckeptPoints cnextWas cnextWays cnowWas cnowWays cto)) hP hD hk1 hFx hP1 hD1
        obtain ⟨hP, hD⟩ := hPD
        clear hPx hDx hFx hP1 hD1 hz1 hk1 ht9 hvm
        generalize H1 = H at hP hS ⊢
        refine W.widen (k := 40 + 3 * t) (n := 4000 + 122 * t) (Nat.le_refl _) (Nat.le_refl _) ?_
        have hP := fr_perm fr_rot2.symm hP
        have hD := fr_permD fr_rot2.symm hD
        refine lv_icmp_eq (tgt := 634) hx hb d_L_333 (by decide) (fun _ => ?_) (fun c9 => absurd rfl c9)
        exact next k ky ko kt KO KT nA nK nP nQ bX bY bZ bA bB bC bD bS sT nO nT rO rT sO sP tG kQ kP p_vthrown vpoints vplanes vaxes vkept vax vay vaz cpx cpy cpz cplane caxis cwas cways ckeptWas ckeptWays ckeptPoints cnextWas cnextWays cnowWas cnowWays cto hR2 hkp H locs hP hD hS ls hl
      | 6, _ =>
        refine lv_tableIn (off := 306) (tgt := 338) hx hb d_L_32 (by decide) (by decide) (by decide) (by decide) ?_
        refine lv_aload_n hx hb d_L_338 rfl (lv_at hl 1 rfl) ?_
        obtain ⟨rz, p_vthrown, hfx, hfm, hR2⟩ := op_pieces hR vthrown
        have hPx : va_P (dC, dI) vwCl (w_X qX qB qSt qN qR qS qTg qKp qKq qBx qBy qBz qBa qBb qBc qBd qBs qNo qNt qRo qRt qSo qSp cI cJ nA nK nP nQ bX bY bZ bA bB bC bD bS sT nO nT rO rT sO sP tG kQ) H := fr_pre hP
        refine vp_callSi (va_runV (As := []) (rest := []) ⟨hx, hb, hml, hown, ht⟩ (c_X_pieces l dC dI qX qB qSt qN qR qS qTg qKp qKq qBx qBy qBz qBa qBb qBc qBd qBs qNo qNt qRo qRt qSo qSp cI cJ cQ nA nK nP nQ bX bY bZ bA bB bC bD bS sT nO nT rO rT sO sP tG kQ  rz  hfx) (cwV 0 ht (gV m_227 m_228 m_229 m_28 m_230) rfl rfl rfl (by decide +kernel) ⟨Nat.le_of_ble_eq_true rfl, Nat.le_of_ble_eq_true rfl⟩) (preRV hPx hK hZ (va_recv hK hPx (ci := 2) (q0 := 0) rfl rfl)) rfl rfl hl.1 rfl (lv_room (Nat.le_of_ble_eq_true rfl)) d_L_339 hrm).run (fun r hw => ?_)
        subst hw
        clear hPx
        refine lv_aload_n hx hb d_L_342 rfl (lv_at hl 2 rfl) ?_
        have hP := fr_perm fr_rot2 hP
        have hD := fr_permD fr_rot2 hD
        have hPx : va_P (dC, dI) vwCl (w_M qM q_px q_py q_pz q_plane q_axis q_was q_ways q_keptWas q_keptWays q_keptPoints q_nextWas q_nextWays q_nowWas q_nowWays q_to cI vthrown vpoints vplanes vaxes vkept vax vay vaz cpx cpy cpz cplane caxis cwas cways ckeptWas ckeptWays ckeptPoints cnextWas cnextWays cnowWas cnowWays cto) H := fr_pre hP
        have hDx : va_D (fun q : Nat => s.heap.size ≤ q) (w_M qM q_px q_py q_pz q_plane q_axis q_was q_ways q_keptWas q_keptWays q_keptPoints q_nextWas q_nextWays q_nowWas q_nowWays q_to cI vthrown vpoints vplanes vaxes vkept vax vay vaz cpx cpy cpz cplane caxis cwas cways ckeptWas ckeptWays ckeptPoints cnextWas cnextWays cnowWas cnowWays cto) := fr_preD hD
        have hFx : ∀ q, va_A (w_M qM q_px q_py q_pz q_plane q_axis q_was q_ways q_keptWas q_keptWays q_keptPoints q_nextWas q_nextWays q_nowWas q_nowWays q_to cI vthrown vpoints vplanes vaxes vkept vax vay vaz cpx cpy cpz cplane caxis cwas cways ckeptWas ckeptWays ckeptPoints cnextWas cnextWays cnowWas cnowWays cto) H.size q → s.heap.size ≤ q := fr_free (A0 := fun q : Nat => s.heap.size ≤ q) hD hS hA
        refine va_calli (va_runV (As := []) (rest := [.int r]) ⟨hx, hb, hml, hown, ht⟩ (c_M_pieces l dC dI qM q_px q_py q_pz q_plane q_axis q_was q_ways q_keptWas q_keptWays q_keptPoints q_nextWas q_nextWays q_nowWas q_nowWays q_to cI cJ cQ H.size vthrown vpoints vplanes vaxes vkept vax vay vaz cpx cpy cpz cplane caxis cwas cways ckeptWas ckeptWays ckeptPoints cnextWas cnextWays cnowWas cnowWays cto  r p_vthrown  hfm) (cwV 0 ht (gV m_490 m_491 m_492 m_31 m_493) rfl rfl rfl (by decide +kernel) ⟨Nat.le_of_ble_eq_true rfl, Nat.le_of_ble_eq_true rfl⟩) (preMV hPx hK hZ hDx (va_recv hK hPx (ci := 3) (q0 := 0) rfl rfl)) rfl rfl hl.1 rfl (lv_room (Nat.le_of_ble_eq_true rfl)) d_L_343 hrm) hS (fun q _ h => hFx q h) hFx (fun r2 u tt H1 locs ht9 hvm hw hB hz1 hk1 hS => ?_)
        obtain ⟨hP1, hD1⟩ := hB
        rw [ht9] at hP1
        subst hw
        have hPD := fr_join (a1 := (w_M qM q_px q_py q_pz q_plane q_axis q_was q_ways q_keptWas q_keptWays q_keptPoints q_nextWas q_nextWays q_nowWas q_nowWays q_to cI p_vthrown vpoints vplanes vaxes vkept vax vay vaz cpx cpy cpz cplane caxis cwas cways ckeptWas ckeptWays ckeptPoints cnextWas cnextWays cnowWas cnowWays cto)) hP hD hk1 hFx hP1 hD1
        obtain ⟨hP, hD⟩ := hPD
        clear hPx hDx hFx hP1 hD1 hz1 hk1 ht9 hvm
        generalize H1 = H at hP hS ⊢
        refine W.widen (k := 40 + 3 * t) (n := 4000 + 122 * t) (Nat.le_refl _) (Nat.le_refl _) ?_
        have hP := fr_perm fr_rot2.symm hP
        have hD := fr_permD fr_rot2.symm hD
        refine lv_icmp_eq (tgt := 634) hx hb d_L_346 (by decide) (fun _ => ?_) (fun c9 => absurd rfl c9)
        exact next k ky ko kt KO KT nA nK nP nQ bX bY bZ bA bB bC bD bS sT nO nT rO rT sO sP tG kQ kP p_vthrown vpoints vplanes vaxes vkept vax vay vaz cpx cpy cpz cplane caxis cwas cways ckeptWas ckeptWays ckeptPoints cnextWas cnextWays cnowWas cnowWays cto hR2 hkp H locs hP hD hS ls hl
      | 7, _ =>
        refine lv_tableIn (off := 319) (tgt := 351) hx hb d_L_32 (by decide) (by decide) (by decide) (by decide) ?_
        refine lv_aload_n hx hb d_L_351 rfl (lv_at hl 1 rfl) ?_
        refine lv_aload_n hx hb d_L_352 rfl (lv_at hl 0 rfl) ?_
        refine lv_iload_n hx hb d_L_353 rfl (lv_at hl 3 rfl) ?_
        refine lv_iconst (v := 1) hx hb d_L_354 (by decide) ?_
        refine lv_iadd hx hb d_L_355 ?_
        refine va_sld hx hb hX hbl hbA hS hi_1 d_L_356 ?_
        obtain ⟨rz, p_vthrown, hfx, hfm, hR2⟩ := op_piece hR vthrown (xs (nI (5 * t) + 1).toNatClampNeg)
        have hPx : va_P (dC, dI) vwCl (w_X qX qB qSt qN qR qS qTg qKp qKq qBx qBy qBz qBa qBb qBc qBd qBs qNo qNt qRo qRt qSo qSp cI cJ nA nK nP nQ bX bY bZ bA bB bC bD bS sT nO nT rO rT sO sP tG kQ) H := fr_pre hP
        refine vp_callSi (va_runV (As := [.int (xs (nI (5 * t) + 1).toNatClampNeg)]) (rest := []) ⟨hx, hb, hml, hown, ht⟩ (c_X_piece l dC dI qX qB qSt qN qR qS qTg qKp qKq qBx qBy qBz qBa qBb qBc qBd qBs qNo qNt qRo qRt qSo qSp cI cJ cQ nA nK nP nQ bX bY bZ bA bB bC bD bS sT nO nT rO rT sO sP tG kQ (xs (nI (5 * t) + 1).toNatClampNeg) rz  hfx) (cwV 1 ht (gV m_239 m_240 m_241 m_28 m_242) rfl rfl rfl (by decide +kernel) ⟨Nat.le_of_ble_eq_true rfl, Nat.le_of_ble_eq_true rfl⟩) (preRV hPx hK hZ (va_recv hK hPx (ci := 2) (q0 := 0) rfl rfl)) rfl rfl hl.1 rfl (lv_room (Nat.le_of_ble_eq_true rfl)) d_L_357 hrm).run (fun r hw => ?_)
        subst hw
        clear hPx
        refine lv_aload_n hx hb d_L_360 rfl (lv_at hl 2 rfl) ?_
        refine lv_aload_n hx hb d_L_361 rfl (lv_at hl 0 rfl) ?_
        refine lv_iload_n hx hb d_L_362 rfl (lv_at hl 3 rfl) ?_
        refine lv_iconst (v := 1) hx hb d_L_363 (by decide) ?_
        refine lv_iadd hx hb d_L_364 ?_
        refine va_sld hx hb hX hbl hbA hS hi_1 d_L_365 ?_
        have hP := fr_perm fr_rot2 hP
        have hD := fr_permD fr_rot2 hD
        have hPx : va_P (dC, dI) vwCl (w_M qM q_px q_py q_pz q_plane q_axis q_was q_ways q_keptWas q_keptWays q_keptPoints q_nextWas q_nextWays q_nowWas q_nowWays q_to cI vthrown vpoints vplanes vaxes vkept vax vay vaz cpx cpy cpz cplane caxis cwas cways ckeptWas ckeptWays ckeptPoints cnextWas cnextWays cnowWas cnowWays cto) H := fr_pre hP
        have hDx : va_D (fun q : Nat => s.heap.size ≤ q) (w_M qM q_px q_py q_pz q_plane q_axis q_was q_ways q_keptWas q_keptWays q_keptPoints q_nextWas q_nextWays q_nowWas q_nowWays q_to cI vthrown vpoints vplanes vaxes vkept vax vay vaz cpx cpy cpz cplane caxis cwas cways ckeptWas ckeptWays ckeptPoints cnextWas cnextWays cnowWas cnowWays cto) := fr_preD hD
        have hFx : ∀ q, va_A (w_M qM q_px q_py q_pz q_plane q_axis q_was q_ways q_keptWas q_keptWays q_keptPoints q_nextWas q_nextWays q_nowWas q_nowWays q_to cI vthrown vpoints vplanes vaxes vkept vax vay vaz cpx cpy cpz cplane caxis cwas cways ckeptWas ckeptWays ckeptPoints cnextWas cnextWays cnowWas cnowWays cto) H.size q → s.heap.size ≤ q := fr_free (A0 := fun q : Nat => s.heap.size ≤ q) hD hS hA
        refine va_calli (va_runV (As := [.int (xs (nI (5 * t) + 1).toNatClampNeg)]) (rest := [.int r]) ⟨hx, hb, hml, hown, ht⟩ (c_M_piece l dC dI qM q_px q_py q_pz q_plane q_axis q_was q_ways q_keptWas q_keptWays q_keptPoints q_nextWas q_nextWays q_nowWas q_nowWays q_to cI cJ cQ H.size vthrown vpoints vplanes vaxes vkept vax vay vaz cpx cpy cpz cplane caxis cwas cways ckeptWas ckeptWays ckeptPoints cnextWas cnextWays cnowWas cnowWays cto (xs (nI (5 * t) + 1).toNatClampNeg) r p_vthrown  hfm) (cwV 1 ht (gV m_506 m_507 m_508 m_31 m_509) rfl rfl rfl (by decide +kernel) ⟨Nat.le_of_ble_eq_true rfl, Nat.le_of_ble_eq_true rfl⟩) (preMV hPx hK hZ hDx (va_recv hK hPx (ci := 3) (q0 := 0) rfl rfl)) rfl rfl hl.1 rfl (lv_room (Nat.le_of_ble_eq_true rfl)) d_L_366 hrm) hS (fun q _ h => hFx q h) hFx (fun r2 u tt H1 locs ht9 hvm hw hB hz1 hk1 hS => ?_)
        obtain ⟨hP1, hD1⟩ := hB
        rw [ht9] at hP1
        subst hw
        have hPD := fr_join (a1 := (w_M qM q_px q_py q_pz q_plane q_axis q_was q_ways q_keptWas q_keptWays q_keptPoints q_nextWas q_nextWays q_nowWas q_nowWays q_to cI p_vthrown vpoints vplanes vaxes vkept vax vay vaz cpx cpy cpz cplane caxis cwas cways ckeptWas ckeptWays ckeptPoints cnextWas cnextWays cnowWas cnowWays cto)) hP hD hk1 hFx hP1 hD1
        obtain ⟨hP, hD⟩ := hPD
        clear hPx hDx hFx hP1 hD1 hz1 hk1 ht9 hvm
        generalize H1 = H at hP hS ⊢
        refine W.widen (k := 40 + 3 * t) (n := 4000 + 122 * t) (Nat.le_refl _) (Nat.le_refl _) ?_
        have hP := fr_perm fr_rot2.symm hP
        have hD := fr_permD fr_rot2.symm hD
        refine lv_icmp_eq (tgt := 634) hx hb d_L_369 (by decide) (fun _ => ?_) (fun c9 => absurd rfl c9)
        exact next k ky ko kt KO KT nA nK nP nQ bX bY bZ bA bB bC bD bS sT nO nT rO rT sO sP tG kQ kP p_vthrown vpoints vplanes vaxes vkept vax vay vaz cpx cpy cpz cplane caxis cwas cways ckeptWas ckeptWays ckeptPoints cnextWas cnextWays cnowWas cnowWays cto hR2 hkp H locs hP hD hS ls hl
      | 8, _ =>
        refine lv_tableIn (off := 342) (tgt := 374) hx hb d_L_32 (by decide) (by decide) (by decide) (by decide) ?_
        refine lv_aload_n hx hb d_L_374 rfl (lv_at hl 1 rfl) ?_
        refine lv_aload_n hx hb d_L_375 rfl (lv_at hl 0 rfl) ?_
        refine lv_iload_n hx hb d_L_376 rfl (lv_at hl 3 rfl) ?_
        refine lv_iconst (v := 1) hx hb d_L_377 (by decide) ?_
        refine lv_iadd hx hb d_L_378 ?_
        refine va_sld hx hb hX hbl hbA hS hi_1 d_L_379 ?_
        refine lv_aload_n hx hb d_L_380 rfl (lv_at hl 0 rfl) ?_
        refine lv_iload_n hx hb d_L_381 rfl (lv_at hl 3 rfl) ?_
        refine lv_iconst (v := 2) hx hb d_L_382 (by decide) ?_
        refine lv_iadd hx hb d_L_383 ?_
        refine va_sld hx hb hX hbl hbA hS hi_2 d_L_384 ?_
        obtain ⟨rz, p_vthrown, p_vax, p_vay, p_vaz, hfx, hfm, hR2⟩ := op_image hR vthrown vax vay vaz (xs (nI (5 * t) + 1).toNatClampNeg) (xs (nI (5 * t) + 2).toNatClampNeg)
        have hPx : va_P (dC, dI) vwCl (w_X qX qB qSt qN qR qS qTg qKp qKq qBx qBy qBz qBa qBb qBc qBd qBs qNo qNt qRo qRt qSo qSp cI cJ nA nK nP nQ bX bY bZ bA bB bC bD bS sT nO nT rO rT sO sP tG kQ) H := fr_pre hP
        refine vp_callSi (va_runV (As := [.int (xs (nI (5 * t) + 1).toNatClampNeg), .int (xs (nI (5 * t) + 2).toNatClampNeg)]) (rest := []) ⟨hx, hb, hml, hown, ht⟩ (c_X_image l dC dI qX qB qSt qN qR qS qTg qKp qKq qBx qBy qBz qBa qBb qBc qBd qBs qNo qNt qRo qRt qSo qSp cI cJ cQ nA nK nP nQ bX bY bZ bA bB bC bD bS sT nO nT rO rT sO sP tG kQ (xs (nI (5 * t) + 1).toNatClampNeg) (xs (nI (5 * t) + 2).toNatClampNeg) rz  hfx) (cwV 2 ht (gV m_244 m_245 m_246 m_28 m_247) rfl rfl rfl (by decide +kernel) ⟨Nat.le_of_ble_eq_true rfl, Nat.le_of_ble_eq_true rfl⟩) (preRV hPx hK hZ (va_recv hK hPx (ci := 2) (q0 := 0) rfl rfl)) rfl rfl hl.1 rfl (lv_room (Nat.le_of_ble_eq_true rfl)) d_L_385 hrm).run (fun r hw => ?_)
        subst hw
        clear hPx
        refine lv_aload_n hx hb d_L_388 rfl (lv_at hl 2 rfl) ?_
        refine lv_aload_n hx hb d_L_389 rfl (lv_at hl 0 rfl) ?_
        refine lv_iload_n hx hb d_L_390 rfl (lv_at hl 3 rfl) ?_
        refine lv_iconst (v := 1) hx hb d_L_391 (by decide) ?_
        refine lv_iadd hx hb d_L_392 ?_
        refine va_sld hx hb hX hbl hbA hS hi_1 d_L_393 ?_
        refine lv_aload_n hx hb d_L_394 rfl (lv_at hl 0 rfl) ?_
        refine lv_iload_n hx hb d_L_395 rfl (lv_at hl 3 rfl) ?_
        refine lv_iconst (v := 2) hx hb d_L_396 (by decide) ?_
        refine lv_iadd hx hb d_L_397 ?_
        refine va_sld hx hb hX hbl hbA hS hi_2 d_L_398 ?_
        have hP := fr_perm fr_rot2 hP
        have hD := fr_permD fr_rot2 hD
        have hPx : va_P (dC, dI) vwCl (w_M qM q_px q_py q_pz q_plane q_axis q_was q_ways q_keptWas q_keptWays q_keptPoints q_nextWas q_nextWays q_nowWas q_nowWays q_to cI vthrown vpoints vplanes vaxes vkept vax vay vaz cpx cpy cpz cplane caxis cwas cways ckeptWas ckeptWays ckeptPoints cnextWas cnextWays cnowWas cnowWays cto) H := fr_pre hP
        have hDx : va_D (fun q : Nat => s.heap.size ≤ q) (w_M qM q_px q_py q_pz q_plane q_axis q_was q_ways q_keptWas q_keptWays q_keptPoints q_nextWas q_nextWays q_nowWas q_nowWays q_to cI vthrown vpoints vplanes vaxes vkept vax vay vaz cpx cpy cpz cplane caxis cwas cways ckeptWas ckeptWays ckeptPoints cnextWas cnextWays cnowWas cnowWays cto) := fr_preD hD
        have hFx : ∀ q, va_A (w_M qM q_px q_py q_pz q_plane q_axis q_was q_ways q_keptWas q_keptWays q_keptPoints q_nextWas q_nextWays q_nowWas q_nowWays q_to cI vthrown vpoints vplanes vaxes vkept vax vay vaz cpx cpy cpz cplane caxis cwas cways ckeptWas ckeptWays ckeptPoints cnextWas cnextWays cnowWas cnowWays cto) H.size q → s.heap.size ≤ q := fr_free (A0 := fun q : Nat => s.heap.size ≤ q) hD hS hA
        refine va_calli (va_runV (As := [.int (xs (nI (5 * t) + 1).toNatClampNeg), .int (xs (nI (5 * t) + 2).toNatClampNeg)]) (rest := [.int r]) ⟨hx, hb, hml, hown, ht⟩ (c_M_image l dC dI qM q_px q_py q_pz q_plane q_axis q_was q_ways q_keptWas q_keptWays q_keptPoints q_nextWas q_nextWays q_nowWas q_nowWays q_to cI cJ cQ H.size vthrown vpoints vplanes vaxes vkept vax vay vaz cpx cpy cpz cplane caxis cwas cways ckeptWas ckeptWays ckeptPoints cnextWas cnextWays cnowWas cnowWays cto (xs (nI (5 * t) + 1).toNatClampNeg) (xs (nI (5 * t) + 2).toNatClampNeg) r p_vthrown p_vax p_vay p_vaz  hfm) (cwV 2 ht (gV m_462 m_463 m_464 m_31 m_465) rfl rfl rfl (by decide +kernel) ⟨Nat.le_of_ble_eq_true rfl, Nat.le_of_ble_eq_true rfl⟩) (preMV hPx hK hZ hDx (va_recv hK hPx (ci := 3) (q0 := 0) rfl rfl)) rfl rfl hl.1 rfl (lv_room (Nat.le_of_ble_eq_true rfl)) d_L_399 hrm) hS (fun q _ h => hFx q h) hFx (fun r2 u tt H1 locs ht9 hvm hw hB hz1 hk1 hS => ?_)
        obtain ⟨hP1, hD1⟩ := hB
        rw [ht9] at hP1
        subst hw
        have hPD := fr_join (a1 := (w_M qM q_px q_py q_pz q_plane q_axis q_was q_ways q_keptWas q_keptWays q_keptPoints q_nextWas q_nextWays q_nowWas q_nowWays q_to cI p_vthrown vpoints vplanes vaxes vkept p_vax p_vay p_vaz cpx cpy cpz cplane caxis cwas cways ckeptWas ckeptWays ckeptPoints cnextWas cnextWays cnowWas cnowWays cto)) hP hD hk1 hFx hP1 hD1
        obtain ⟨hP, hD⟩ := hPD
        clear hPx hDx hFx hP1 hD1 hz1 hk1 ht9 hvm
        generalize H1 = H at hP hS ⊢
        refine W.widen (k := 40 + 3 * t) (n := 4000 + 122 * t) (Nat.le_refl _) (Nat.le_refl _) ?_
        have hP := fr_perm fr_rot2.symm hP
        have hD := fr_permD fr_rot2.symm hD
        refine lv_icmp_eq (tgt := 634) hx hb d_L_402 (by decide) (fun _ => ?_) (fun c9 => absurd rfl c9)
        exact next k ky ko kt KO KT nA nK nP nQ bX bY bZ bA bB bC bD bS sT nO nT rO rT sO sP tG kQ kP p_vthrown vpoints vplanes vaxes vkept p_vax p_vay p_vaz cpx cpy cpz cplane caxis cwas cways ckeptWas ckeptWays ckeptPoints cnextWas cnextWays cnowWas cnowWays cto hR2 hkp H locs hP hD hS ls hl
      | 9, _ =>
        refine lv_tableIn (off := 375) (tgt := 407) hx hb d_L_32 (by decide) (by decide) (by decide) (by decide) ?_
        refine lv_aload_n hx hb d_L_407 rfl (lv_at hl 1 rfl) ?_
        refine lv_aload_n hx hb d_L_408 rfl (lv_at hl 0 rfl) ?_
        refine lv_iload_n hx hb d_L_409 rfl (lv_at hl 3 rfl) ?_
        refine lv_iconst (v := 1) hx hb d_L_410 (by decide) ?_
        refine lv_iadd hx hb d_L_411 ?_
        refine va_sld hx hb hX hbl hbA hS hi_1 d_L_412 ?_
        refine lv_aload_n hx hb d_L_413 rfl (lv_at hl 0 rfl) ?_
        refine lv_iload_n hx hb d_L_414 rfl (lv_at hl 3 rfl) ?_
        refine lv_iconst (v := 2) hx hb d_L_415 (by decide) ?_
        refine lv_iadd hx hb d_L_416 ?_
        refine va_sld hx hb hX hbl hbA hS hi_2 d_L_417 ?_
        refine lv_aload_n hx hb d_L_418 rfl (lv_at hl 0 rfl) ?_
        refine lv_iload_n hx hb d_L_419 rfl (lv_at hl 3 rfl) ?_
        refine lv_iconst (v := 3) hx hb d_L_420 (by decide) ?_
        refine lv_iadd hx hb d_L_421 ?_
        refine va_sld hx hb hX hbl hbA hS hi_3 d_L_422 ?_
        obtain ⟨rz, o_nO, o_nT, o_sO, o_sP, o_tG, p_vthrown, p_vax, p_vay, p_vaz, p_cwas, p_cways, p_cnextWas, p_cnextWays, p_cto, hfx, hfm, hR2⟩ := op_turn hR sO sP tG vthrown vax vay vaz cnextWas cnextWays cto (xs (nI (5 * t) + 1).toNatClampNeg) (xs (nI (5 * t) + 2).toNatClampNeg) (xs (nI (5 * t) + 3).toNatClampNeg)
        have hPx : va_P (dC, dI) vwCl (w_X qX qB qSt qN qR qS qTg qKp qKq qBx qBy qBz qBa qBb qBc qBd qBs qNo qNt qRo qRt qSo qSp cI cJ nA nK nP nQ bX bY bZ bA bB bC bD bS sT nO nT rO rT sO sP tG kQ) H := fr_pre hP
        have hDx : va_D (fun q : Nat => s.heap.size ≤ q) (w_X qX qB qSt qN qR qS qTg qKp qKq qBx qBy qBz qBa qBb qBc qBd qBs qNo qNt qRo qRt qSo qSp cI cJ nA nK nP nQ bX bY bZ bA bB bC bD bS sT nO nT rO rT sO sP tG kQ) := fr_preD hD
        have hFx : ∀ q, va_A (w_X qX qB qSt qN qR qS qTg qKp qKq qBx qBy qBz qBa qBb qBc qBd qBs qNo qNt qRo qRt qSo qSp cI cJ nA nK nP nQ bX bY bZ bA bB bC bD bS sT nO nT rO rT sO sP tG kQ) H.size q → s.heap.size ≤ q := fr_free (A0 := fun q : Nat => s.heap.size ≤ q) hD hS hA
        refine va_calli (va_runV (As := [.int (xs (nI (5 * t) + 1).toNatClampNeg), .int (xs (nI (5 * t) + 2).toNatClampNeg), .int (xs (nI (5 * t) + 3).toNatClampNeg)]) (rest := []) ⟨hx, hb, hml, hown, ht⟩ (c_X_turn l dC dI qX qB qSt qN qR qS qTg qKp qKq qBx qBy qBz qBa qBb qBc qBd qBs qNo qNt qRo qRt qSo qSp cI cJ cQ H.size nA nK nP nQ bX bY bZ bA bB bC bD bS sT nO nT rO rT sO sP tG kQ (xs (nI (5 * t) + 1).toNatClampNeg) (xs (nI (5 * t) + 2).toNatClampNeg) (xs (nI (5 * t) + 3).toNatClampNeg) rz o_nO o_nT o_sO o_sP o_tG  hfx) (cwV 3 ht (gV m_258 m_259 m_260 m_28 m_261) rfl rfl rfl (by decide +kernel) ⟨Nat.le_of_ble_eq_true rfl, Nat.le_of_ble_eq_true rfl⟩) (preMV hPx hK hZ hDx (va_recv hK hPx (ci := 2) (q0 := 0) rfl rfl)) rfl rfl hl.1 rfl (lv_room (Nat.le_of_ble_eq_true rfl)) d_L_423 hrm) hS (fun q _ h => hFx q h) hFx (fun r u tt H1 locs ht9 hvm hw hB hz1 hk1 hS => ?_)
        obtain ⟨hP1, hD1⟩ := hB
        rw [ht9] at hP1
        subst hw
        have hPD := fr_join (a1 := (w_X qX qB qSt qN qR qS qTg qKp qKq qBx qBy qBz qBa qBb qBc qBd qBs qNo qNt qRo qRt qSo qSp cI cJ nA nK nP nQ bX bY bZ bA bB bC bD bS sT o_nO o_nT rO rT o_sO o_sP o_tG kQ)) hP hD hk1 hFx hP1 hD1
        obtain ⟨hP, hD⟩ := hPD
        clear hPx hDx hFx hP1 hD1 hz1 hk1 ht9 hvm
        generalize H1 = H at hP hS ⊢
        refine W.widen (k := 40 + 3 * t) (n := 4000 + 122 * t) (Nat.le_refl _) (Nat.le_refl _) ?_
        refine lv_aload_n hx hb d_L_426 rfl (lv_at hl 2 rfl) ?_
        refine lv_aload_n hx hb d_L_427 rfl (lv_at hl 0 rfl) ?_
        refine lv_iload_n hx hb d_L_428 rfl (lv_at hl 3 rfl) ?_
        refine lv_iconst (v := 1) hx hb d_L_429 (by decide) ?_
        refine lv_iadd hx hb d_L_430 ?_
        refine va_sld hx hb hX hbl hbA hS hi_1 d_L_431 ?_
        refine lv_aload_n hx hb d_L_432 rfl (lv_at hl 0 rfl) ?_
        refine lv_iload_n hx hb d_L_433 rfl (lv_at hl 3 rfl) ?_
        refine lv_iconst (v := 2) hx hb d_L_434 (by decide) ?_
        refine lv_iadd hx hb d_L_435 ?_
        refine va_sld hx hb hX hbl hbA hS hi_2 d_L_436 ?_
        refine lv_aload_n hx hb d_L_437 rfl (lv_at hl 0 rfl) ?_
        refine lv_iload_n hx hb d_L_438 rfl (lv_at hl 3 rfl) ?_
        refine lv_iconst (v := 3) hx hb d_L_439 (by decide) ?_
        refine lv_iadd hx hb d_L_440 ?_
        refine va_sld hx hb hX hbl hbA hS hi_3 d_L_441 ?_
        have hP := fr_perm fr_rot2 hP
        have hD := fr_permD fr_rot2 hD
        have hPx : va_P (dC, dI) vwCl (w_M qM q_px q_py q_pz q_plane q_axis q_was q_ways q_keptWas q_keptWays q_keptPoints q_nextWas q_nextWays q_nowWas q_nowWays q_to cI vthrown vpoints vplanes vaxes vkept vax vay vaz cpx cpy cpz cplane caxis cwas cways ckeptWas ckeptWays ckeptPoints cnextWas cnextWays cnowWas cnowWays cto) H := fr_pre hP
        have hDx : va_D (fun q : Nat => s.heap.size ≤ q) (w_M qM q_px q_py q_pz q_plane q_axis q_was q_ways q_keptWas q_keptWays q_keptPoints q_nextWas q_nextWays q_nowWas q_nowWays q_to cI vthrown vpoints vplanes vaxes vkept vax vay vaz cpx cpy cpz cplane caxis cwas cways ckeptWas ckeptWays ckeptPoints cnextWas cnextWays cnowWas cnowWays cto) := fr_preD hD
        have hFx : ∀ q, va_A (w_M qM q_px q_py q_pz q_plane q_axis q_was q_ways q_keptWas q_keptWays q_keptPoints q_nextWas q_nextWays q_nowWas q_nowWays q_to cI vthrown vpoints vplanes vaxes vkept vax vay vaz cpx cpy cpz cplane caxis cwas cways ckeptWas ckeptWays ckeptPoints cnextWas cnextWays cnowWas cnowWays cto) H.size q → s.heap.size ≤ q := fr_free (A0 := fun q : Nat => s.heap.size ≤ q) hD hS hA
        refine va_calli (va_runV (As := [.int (xs (nI (5 * t) + 1).toNatClampNeg), .int (xs (nI (5 * t) + 2).toNatClampNeg), .int (xs (nI (5 * t) + 3).toNatClampNeg)]) (rest := [.int r]) ⟨hx, hb, hml, hown, ht⟩ (c_M_turn l dC dI qM q_px q_py q_pz q_plane q_axis q_was q_ways q_keptWas q_keptWays q_keptPoints q_nextWas q_nextWays q_nowWas q_nowWays q_to cI cJ cQ H.size vthrown vpoints vplanes vaxes vkept vax vay vaz cpx cpy cpz cplane caxis cwas cways ckeptWas ckeptWays ckeptPoints cnextWas cnextWays cnowWas cnowWays cto (xs (nI (5 * t) + 1).toNatClampNeg) (xs (nI (5 * t) + 2).toNatClampNeg) (xs (nI (5 * t) + 3).toNatClampNeg) r p_vthrown p_vax p_vay p_vaz p_cwas p_cways p_cnextWas p_cnextWays p_cto  hfm) (cwV 3 ht (gV m_510 m_511 m_512 m_31 m_513) rfl rfl rfl (by decide +kernel) ⟨Nat.le_of_ble_eq_true rfl, Nat.le_of_ble_eq_true rfl⟩) (preMV hPx hK hZ hDx (va_recv hK hPx (ci := 3) (q0 := 0) rfl rfl)) rfl rfl hl.1 rfl (lv_room (Nat.le_of_ble_eq_true rfl)) d_L_442 hrm) hS (fun q _ h => hFx q h) hFx (fun r2 u tt H1 locs ht9 hvm hw hB hz1 hk1 hS => ?_)
        obtain ⟨hP1, hD1⟩ := hB
        rw [ht9] at hP1
        subst hw
        have hPD := fr_join (a1 := (w_M qM q_px q_py q_pz q_plane q_axis q_was q_ways q_keptWas q_keptWays q_keptPoints q_nextWas q_nextWays q_nowWas q_nowWays q_to cI p_vthrown vpoints vplanes vaxes vkept p_vax p_vay p_vaz cpx cpy cpz cplane caxis p_cwas p_cways ckeptWas ckeptWays ckeptPoints p_cnextWas p_cnextWays cnowWas cnowWays p_cto)) hP hD hk1 hFx hP1 hD1
        obtain ⟨hP, hD⟩ := hPD
        clear hPx hDx hFx hP1 hD1 hz1 hk1 ht9 hvm
        generalize H1 = H at hP hS ⊢
        refine W.widen (k := 40 + 3 * t) (n := 4000 + 122 * t) (Nat.le_refl _) (Nat.le_refl _) ?_
        have hP := fr_perm fr_rot2.symm hP
        have hD := fr_permD fr_rot2.symm hD
        refine lv_icmp_eq (tgt := 634) hx hb d_L_445 (by decide) (fun _ => ?_) (fun c9 => absurd rfl c9)
        exact next k ky ko kt KO KT nA nK nP nQ bX bY bZ bA bB bC bD bS sT o_nO o_nT rO rT o_sO o_sP o_tG kQ kP p_vthrown vpoints vplanes vaxes vkept p_vax p_vay p_vaz cpx cpy cpz cplane caxis p_cwas p_cways ckeptWas ckeptWays ckeptPoints p_cnextWas p_cnextWays cnowWas cnowWays p_cto hR2 hkp H locs hP hD hS ls hl
      | 10, _ =>
        refine lv_tableIn (off := 418) (tgt := 450) hx hb d_L_32 (by decide) (by decide) (by decide) (by decide) ?_
        refine lv_aload_n hx hb d_L_450 rfl (lv_at hl 1 rfl) ?_
        refine lv_aload_n hx hb d_L_451 rfl (lv_at hl 0 rfl) ?_
        refine lv_iload_n hx hb d_L_452 rfl (lv_at hl 3 rfl) ?_
        refine lv_iconst (v := 1) hx hb d_L_453 (by decide) ?_
        refine lv_iadd hx hb d_L_454 ?_
        refine va_sld hx hb hX hbl hbA hS hi_1 d_L_455 ?_
        obtain ⟨rz, p_vthrown, hfx, hfm, hR2⟩ := op_at hR vthrown (xs (nI (5 * t) + 1).toNatClampNeg)
        have hPx : va_P (dC, dI) vwCl (w_X qX qB qSt qN qR qS qTg qKp qKq qBx qBy qBz qBa qBb qBc qBd qBs qNo qNt qRo qRt qSo qSp cI cJ nA nK nP nQ bX bY bZ bA bB bC bD bS sT nO nT rO rT sO sP tG kQ) H := fr_pre hP
        refine vp_callSi (va_runV (As := [.int (xs (nI (5 * t) + 1).toNatClampNeg)]) (rest := []) ⟨hx, hb, hml, hown, ht⟩ (c_X_at l dC dI qX qB qSt qN qR qS qTg qKp qKq qBx qBy qBz qBa qBb qBc qBd qBs qNo qNt qRo qRt qSo qSp cI cJ cQ nA nK nP nQ bX bY bZ bA bB bC bD bS sT nO nT rO rT sO sP tG kQ (xs (nI (5 * t) + 1).toNatClampNeg) rz  hfx) (cwV 1 ht (gV m_278 m_279 m_280 m_28 m_281) rfl rfl rfl (by decide +kernel) ⟨Nat.le_of_ble_eq_true rfl, Nat.le_of_ble_eq_true rfl⟩) (preRV hPx hK hZ (va_recv hK hPx (ci := 2) (q0 := 0) rfl rfl)) rfl rfl hl.1 rfl (lv_room (Nat.le_of_ble_eq_true rfl)) d_L_456 hrm).run (fun r hw => ?_)
        subst hw
        clear hPx
        refine lv_aload_n hx hb d_L_459 rfl (lv_at hl 2 rfl) ?_
        refine lv_aload_n hx hb d_L_460 rfl (lv_at hl 0 rfl) ?_
        refine lv_iload_n hx hb d_L_461 rfl (lv_at hl 3 rfl) ?_
        refine lv_iconst (v := 1) hx hb d_L_462 (by decide) ?_
        refine lv_iadd hx hb d_L_463 ?_
        refine va_sld hx hb hX hbl hbA hS hi_1 d_L_464 ?_
        have hP := fr_perm fr_rot2 hP
        have hD := fr_permD fr_rot2 hD
        have hPx : va_P (dC, dI) vwCl (w_M qM q_px q_py q_pz q_plane q_axis q_was q_ways q_keptWas q_keptWays q_keptPoints q_nextWas q_nextWays q_nowWas q_nowWays q_to cI vthrown vpoints vplanes vaxes vkept vax vay vaz cpx cpy cpz cplane caxis cwas cways ckeptWas ckeptWays ckeptPoints cnextWas cnextWays cnowWas cnowWays cto) H := fr_pre hP
        have hDx : va_D (fun q : Nat => s.heap.size ≤ q) (w_M qM q_px q_py q_pz q_plane q_axis q_was q_ways q_keptWas q_keptWays q_keptPoints q_nextWas q_nextWays q_nowWas q_nowWays q_to cI vthrown vpoints vplanes vaxes vkept vax vay vaz cpx cpy cpz cplane caxis cwas cways ckeptWas ckeptWays ckeptPoints cnextWas cnextWays cnowWas cnowWays cto) := fr_preD hD
        have hFx : ∀ q, va_A (w_M qM q_px q_py q_pz q_plane q_axis q_was q_ways q_keptWas q_keptWays q_keptPoints q_nextWas q_nextWays q_nowWas q_nowWays q_to cI vthrown vpoints vplanes vaxes vkept vax vay vaz cpx cpy cpz cplane caxis cwas cways ckeptWas ckeptWays ckeptPoints cnextWas cnextWays cnowWas cnowWays cto) H.size q → s.heap.size ≤ q := fr_free (A0 := fun q : Nat => s.heap.size ≤ q) hD hS hA
        refine va_calli (va_runV (As := [.int (xs (nI (5 * t) + 1).toNatClampNeg)]) (rest := [.int r]) ⟨hx, hb, hml, hown, ht⟩ (c_M_at l dC dI qM q_px q_py q_pz q_plane q_axis q_was q_ways q_keptWas q_keptWays q_keptPoints q_nextWas q_nextWays q_nowWas q_nowWays q_to cI cJ cQ H.size vthrown vpoints vplanes vaxes vkept vax vay vaz cpx cpy cpz cplane caxis cwas cways ckeptWas ckeptWays ckeptPoints cnextWas cnextWays cnowWas cnowWays cto (xs (nI (5 * t) + 1).toNatClampNeg) r p_vthrown  hfm) (cwV 1 ht (gV m_546 m_547 m_548 m_31 m_549) rfl rfl rfl (by decide +kernel) ⟨Nat.le_of_ble_eq_true rfl, Nat.le_of_ble_eq_true rfl⟩) (preMV hPx hK hZ hDx (va_recv hK hPx (ci := 3) (q0 := 0) rfl rfl)) rfl rfl hl.1 rfl (lv_room (Nat.le_of_ble_eq_true rfl)) d_L_465 hrm) hS (fun q _ h => hFx q h) hFx (fun r2 u tt H1 locs ht9 hvm hw hB hz1 hk1 hS => ?_)
        obtain ⟨hP1, hD1⟩ := hB
        rw [ht9] at hP1
        subst hw
        have hPD := fr_join (a1 := (w_M qM q_px q_py q_pz q_plane q_axis q_was q_ways q_keptWas q_keptWays q_keptPoints q_nextWas q_nextWays q_nowWas q_nowWays q_to cI p_vthrown vpoints vplanes vaxes vkept vax vay vaz cpx cpy cpz cplane caxis cwas cways ckeptWas ckeptWays ckeptPoints cnextWas cnextWays cnowWas cnowWays cto)) hP hD hk1 hFx hP1 hD1
        obtain ⟨hP, hD⟩ := hPD
        clear hPx hDx hFx hP1 hD1 hz1 hk1 ht9 hvm
        generalize H1 = H at hP hS ⊢
        refine W.widen (k := 40 + 3 * t) (n := 4000 + 122 * t) (Nat.le_refl _) (Nat.le_refl _) ?_
        have hP := fr_perm fr_rot2.symm hP
        have hD := fr_permD fr_rot2.symm hD
        refine lv_icmp_eq (tgt := 634) hx hb d_L_468 (by decide) (fun _ => ?_) (fun c9 => absurd rfl c9)
        exact next k ky ko kt KO KT nA nK nP nQ bX bY bZ bA bB bC bD bS sT nO nT rO rT sO sP tG kQ kP p_vthrown vpoints vplanes vaxes vkept vax vay vaz cpx cpy cpz cplane caxis cwas cways ckeptWas ckeptWays ckeptPoints cnextWas cnextWays cnowWas cnowWays cto hR2 hkp H locs hP hD hS ls hl
      | 11, _ =>
        refine lv_tableIn (off := 441) (tgt := 473) hx hb d_L_32 (by decide) (by decide) (by decide) (by decide) ?_
        refine lv_aload_n hx hb d_L_473 rfl (lv_at hl 1 rfl) ?_
        refine lv_aload_n hx hb d_L_474 rfl (lv_at hl 0 rfl) ?_
        refine lv_iload_n hx hb d_L_475 rfl (lv_at hl 3 rfl) ?_
        refine lv_iconst (v := 1) hx hb d_L_476 (by decide) ?_
        refine lv_iadd hx hb d_L_477 ?_
        refine va_sld hx hb hX hbl hbA hS hi_1 d_L_478 ?_
        obtain ⟨rz, p_vthrown, hfx, hfm, hR2⟩ := op_way hR vthrown (xs (nI (5 * t) + 1).toNatClampNeg)
        have hPx : va_P (dC, dI) vwCl (w_X qX qB qSt qN qR qS qTg qKp qKq qBx qBy qBz qBa qBb qBc qBd qBs qNo qNt qRo qRt qSo qSp cI cJ nA nK nP nQ bX bY bZ bA bB bC bD bS sT nO nT rO rT sO sP tG kQ) H := fr_pre hP
        refine vp_callSi (va_runV (As := [.int (xs (nI (5 * t) + 1).toNatClampNeg)]) (rest := []) ⟨hx, hb, hml, hown, ht⟩ (c_X_way l dC dI qX qB qSt qN qR qS qTg qKp qKq qBx qBy qBz qBa qBb qBc qBd qBs qNo qNt qRo qRt qSo qSp cI cJ cQ nA nK nP nQ bX bY bZ bA bB bC bD bS sT nO nT rO rT sO sP tG kQ (xs (nI (5 * t) + 1).toNatClampNeg) rz  hfx) (cwV 1 ht (gV m_282 m_283 m_284 m_28 m_285) rfl rfl rfl (by decide +kernel) ⟨Nat.le_of_ble_eq_true rfl, Nat.le_of_ble_eq_true rfl⟩) (preRV hPx hK hZ (va_recv hK hPx (ci := 2) (q0 := 0) rfl rfl)) rfl rfl hl.1 rfl (lv_room (Nat.le_of_ble_eq_true rfl)) d_L_479 hrm).run (fun r hw => ?_)
        subst hw
        clear hPx
        refine lv_aload_n hx hb d_L_482 rfl (lv_at hl 2 rfl) ?_
        refine lv_aload_n hx hb d_L_483 rfl (lv_at hl 0 rfl) ?_
        refine lv_iload_n hx hb d_L_484 rfl (lv_at hl 3 rfl) ?_
        refine lv_iconst (v := 1) hx hb d_L_485 (by decide) ?_
        refine lv_iadd hx hb d_L_486 ?_
        refine va_sld hx hb hX hbl hbA hS hi_1 d_L_487 ?_
        have hP := fr_perm fr_rot2 hP
        have hD := fr_permD fr_rot2 hD
        have hPx : va_P (dC, dI) vwCl (w_M qM q_px q_py q_pz q_plane q_axis q_was q_ways q_keptWas q_keptWays q_keptPoints q_nextWas q_nextWays q_nowWas q_nowWays q_to cI vthrown vpoints vplanes vaxes vkept vax vay vaz cpx cpy cpz cplane caxis cwas cways ckeptWas ckeptWays ckeptPoints cnextWas cnextWays cnowWas cnowWays cto) H := fr_pre hP
        have hDx : va_D (fun q : Nat => s.heap.size ≤ q) (w_M qM q_px q_py q_pz q_plane q_axis q_was q_ways q_keptWas q_keptWays q_keptPoints q_nextWas q_nextWays q_nowWas q_nowWays q_to cI vthrown vpoints vplanes vaxes vkept vax vay vaz cpx cpy cpz cplane caxis cwas cways ckeptWas ckeptWays ckeptPoints cnextWas cnextWays cnowWas cnowWays cto) := fr_preD hD
        have hFx : ∀ q, va_A (w_M qM q_px q_py q_pz q_plane q_axis q_was q_ways q_keptWas q_keptWays q_keptPoints q_nextWas q_nextWays q_nowWas q_nowWays q_to cI vthrown vpoints vplanes vaxes vkept vax vay vaz cpx cpy cpz cplane caxis cwas cways ckeptWas ckeptWays ckeptPoints cnextWas cnextWays cnowWas cnowWays cto) H.size q → s.heap.size ≤ q := fr_free (A0 := fun q : Nat => s.heap.size ≤ q) hD hS hA
        refine va_calli (va_runV (As := [.int (xs (nI (5 * t) + 1).toNatClampNeg)]) (rest := [.int r]) ⟨hx, hb, hml, hown, ht⟩ (c_M_way l dC dI qM q_px q_py q_pz q_plane q_axis q_was q_ways q_keptWas q_keptWays q_keptPoints q_nextWas q_nextWays q_nowWas q_nowWays q_to cI cJ cQ H.size vthrown vpoints vplanes vaxes vkept vax vay vaz cpx cpy cpz cplane caxis cwas cways ckeptWas ckeptWays ckeptPoints cnextWas cnextWays cnowWas cnowWays cto (xs (nI (5 * t) + 1).toNatClampNeg) r p_vthrown  hfm) (cwV 1 ht (gV m_550 m_551 m_552 m_31 m_553) rfl rfl rfl (by decide +kernel) ⟨Nat.le_of_ble_eq_true rfl, Nat.le_of_ble_eq_true rfl⟩) (preMV hPx hK hZ hDx (va_recv hK hPx (ci := 3) (q0 := 0) rfl rfl)) rfl rfl hl.1 rfl (lv_room (Nat.le_of_ble_eq_true rfl)) d_L_488 hrm) hS (fun q _ h => hFx q h) hFx (fun r2 u tt H1 locs ht9 hvm hw hB hz1 hk1 hS => ?_)
        obtain ⟨hP1, hD1⟩ := hB
        rw [ht9] at hP1
        subst hw
        have hPD := fr_join (a1 := (w_M qM q_px q_py q_pz q_plane q_axis q_was q_ways q_keptWas q_keptWays q_keptPoints q_nextWas q_nextWays q_nowWas q_nowWays q_to cI p_vthrown vpoints vplanes vaxes vkept vax vay vaz cpx cpy cpz cplane caxis cwas cways ckeptWas ckeptWays ckeptPoints cnextWas cnextWays cnowWas cnowWays cto)) hP hD hk1 hFx hP1 hD1
        obtain ⟨hP, hD⟩ := hPD
        clear hPx hDx hFx hP1 hD1 hz1 hk1 ht9 hvm
        generalize H1 = H at hP hS ⊢
        refine W.widen (k := 40 + 3 * t) (n := 4000 + 122 * t) (Nat.le_refl _) (Nat.le_refl _) ?_
        have hP := fr_perm fr_rot2.symm hP
        have hD := fr_permD fr_rot2.symm hD
        refine lv_icmp_eq (tgt := 634) hx hb d_L_491 (by decide) (fun _ => ?_) (fun c9 => absurd rfl c9)
        exact next k ky ko kt KO KT nA nK nP nQ bX bY bZ bA bB bC bD bS sT nO nT rO rT sO sP tG kQ kP p_vthrown vpoints vplanes vaxes vkept vax vay vaz cpx cpy cpz cplane caxis cwas cways ckeptWas ckeptWays ckeptPoints cnextWas cnextWays cnowWas cnowWays cto hR2 hkp H locs hP hD hS ls hl
      | 12, _ =>
        refine lv_tableIn (off := 464) (tgt := 496) hx hb d_L_32 (by decide) (by decide) (by decide) (by decide) ?_
        refine lv_aload_n hx hb d_L_496 rfl (lv_at hl 1 rfl) ?_
        obtain ⟨rz, p_vthrown, hfx, hfm, hR2⟩ := op_home hR vthrown
        have hPx : va_P (dC, dI) vwCl (w_X qX qB qSt qN qR qS qTg qKp qKq qBx qBy qBz qBa qBb qBc qBd qBs qNo qNt qRo qRt qSo qSp cI cJ nA nK nP nQ bX bY bZ bA bB bC bD bS sT nO nT rO rT sO sP tG kQ) H := fr_pre hP
        refine vp_callSi (va_runV (As := []) (rest := []) ⟨hx, hb, hml, hown, ht⟩ (c_X_home l dC dI qX qB qSt qN qR qS qTg qKp qKq qBx qBy qBz qBa qBb qBc qBd qBs qNo qNt qRo qRt qSo qSp cI cJ cQ nA nK nP nQ bX bY bZ bA bB bC bD bS sT nO nT rO rT sO sP tG kQ  rz  hfx) (cwV 0 ht (gV m_286 m_287 m_288 m_28 m_289) rfl rfl rfl (by decide +kernel) ⟨Nat.le_of_ble_eq_true rfl, Nat.le_of_ble_eq_true rfl⟩) (preRV hPx hK hZ (va_recv hK hPx (ci := 2) (q0 := 0) rfl rfl)) rfl rfl hl.1 rfl (lv_room (Nat.le_of_ble_eq_true rfl)) d_L_497 hrm).run (fun r hw => ?_)
        subst hw
        clear hPx
        refine lv_aload_n hx hb d_L_500 rfl (lv_at hl 2 rfl) ?_
        have hP := fr_perm fr_rot2 hP
        have hD := fr_permD fr_rot2 hD
        have hPx : va_P (dC, dI) vwCl (w_M qM q_px q_py q_pz q_plane q_axis q_was q_ways q_keptWas q_keptWays q_keptPoints q_nextWas q_nextWays q_nowWas q_nowWays q_to cI vthrown vpoints vplanes vaxes vkept vax vay vaz cpx cpy cpz cplane caxis cwas cways ckeptWas ckeptWays ckeptPoints cnextWas cnextWays cnowWas cnowWays cto) H := fr_pre hP
        have hDx : va_D (fun q : Nat => s.heap.size ≤ q) (w_M qM q_px q_py q_pz q_plane q_axis q_was q_ways q_keptWas q_keptWays q_keptPoints q_nextWas q_nextWays q_nowWas q_nowWays q_to cI vthrown vpoints vplanes vaxes vkept vax vay vaz cpx cpy cpz cplane caxis cwas cways ckeptWas ckeptWays ckeptPoints cnextWas cnextWays cnowWas cnowWays cto) := fr_preD hD
        have hFx : ∀ q, va_A (w_M qM q_px q_py q_pz q_plane q_axis q_was q_ways q_keptWas q_keptWays q_keptPoints q_nextWas q_nextWays q_nowWas q_nowWays q_to cI vthrown vpoints vplanes vaxes vkept vax vay vaz cpx cpy cpz cplane caxis cwas cways ckeptWas ckeptWays ckeptPoints cnextWas cnextWays cnowWas cnowWays cto) H.size q → s.heap.size ≤ q := fr_free (A0 := fun q : Nat => s.heap.size ≤ q) hD hS hA
        refine va_calli (va_runV (As := []) (rest := [.int r]) ⟨hx, hb, hml, hown, ht⟩ (c_M_home l dC dI qM q_px q_py q_pz q_plane q_axis q_was q_ways q_keptWas q_keptWays q_keptPoints q_nextWas q_nextWays q_nowWas q_nowWays q_to cI cJ cQ H.size vthrown vpoints vplanes vaxes vkept vax vay vaz cpx cpy cpz cplane caxis cwas cways ckeptWas ckeptWays ckeptPoints cnextWas cnextWays cnowWas cnowWays cto  r p_vthrown  hfm) (cwV 0 ht (gV m_554 m_555 m_556 m_31 m_557) rfl rfl rfl (by decide +kernel) ⟨Nat.le_of_ble_eq_true rfl, Nat.le_of_ble_eq_true rfl⟩) (preMV hPx hK hZ hDx (va_recv hK hPx (ci := 3) (q0 := 0) rfl rfl)) rfl rfl hl.1 rfl (lv_room (Nat.le_of_ble_eq_true rfl)) d_L_501 hrm) hS (fun q _ h => hFx q h) hFx (fun r2 u tt H1 locs ht9 hvm hw hB hz1 hk1 hS => ?_)
        obtain ⟨hP1, hD1⟩ := hB
        rw [ht9] at hP1
        subst hw
        have hPD := fr_join (a1 := (w_M qM q_px q_py q_pz q_plane q_axis q_was q_ways q_keptWas q_keptWays q_keptPoints q_nextWas q_nextWays q_nowWas q_nowWays q_to cI p_vthrown vpoints vplanes vaxes vkept vax vay vaz cpx cpy cpz cplane caxis cwas cways ckeptWas ckeptWays ckeptPoints cnextWas cnextWays cnowWas cnowWays cto)) hP hD hk1 hFx hP1 hD1
        obtain ⟨hP, hD⟩ := hPD
        clear hPx hDx hFx hP1 hD1 hz1 hk1 ht9 hvm
        generalize H1 = H at hP hS ⊢
        refine W.widen (k := 40 + 3 * t) (n := 4000 + 122 * t) (Nat.le_refl _) (Nat.le_refl _) ?_
        have hP := fr_perm fr_rot2.symm hP
        have hD := fr_permD fr_rot2.symm hD
        refine lv_icmp_eq (tgt := 634) hx hb d_L_504 (by decide) (fun _ => ?_) (fun c9 => absurd rfl c9)
        exact next k ky ko kt KO KT nA nK nP nQ bX bY bZ bA bB bC bD bS sT nO nT rO rT sO sP tG kQ kP p_vthrown vpoints vplanes vaxes vkept vax vay vaz cpx cpy cpz cplane caxis cwas cways ckeptWas ckeptWays ckeptPoints cnextWas cnextWays cnowWas cnowWays cto hR2 hkp H locs hP hD hS ls hl
      | 13, _ =>
        refine lv_tableIn (off := 477) (tgt := 509) hx hb d_L_32 (by decide) (by decide) (by decide) (by decide) ?_
        refine lv_aload_n hx hb d_L_509 rfl (lv_at hl 1 rfl) ?_
        refine lv_aload_n hx hb d_L_510 rfl (lv_at hl 0 rfl) ?_
        refine lv_iload_n hx hb d_L_511 rfl (lv_at hl 3 rfl) ?_
        refine lv_iconst (v := 1) hx hb d_L_512 (by decide) ?_
        refine lv_iadd hx hb d_L_513 ?_
        refine va_sld hx hb hX hbl hbA hS hi_1 d_L_514 ?_
        obtain ⟨rz, p_vthrown, p_vax, p_vay, p_vaz, hfx, hfm, hR2⟩ := op_maps hR vthrown vax vay vaz (xs (nI (5 * t) + 1).toNatClampNeg)
        have hPx : va_P (dC, dI) vwCl (w_X qX qB qSt qN qR qS qTg qKp qKq qBx qBy qBz qBa qBb qBc qBd qBs qNo qNt qRo qRt qSo qSp cI cJ nA nK nP nQ bX bY bZ bA bB bC bD bS sT nO nT rO rT sO sP tG kQ) H := fr_pre hP
        refine vp_callSi (va_runV (As := [.int (xs (nI (5 * t) + 1).toNatClampNeg)]) (rest := []) ⟨hx, hb, hml, hown, ht⟩ (c_X_maps l dC dI qX qB qSt qN qR qS qTg qKp qKq qBx qBy qBz qBa qBb qBc qBd qBs qNo qNt qRo qRt qSo qSp cI cJ cQ nA nK nP nQ bX bY bZ bA bB bC bD bS sT nO nT rO rT sO sP tG kQ (xs (nI (5 * t) + 1).toNatClampNeg) rz  hfx) (cwV 1 ht (gV m_290 m_291 m_292 m_28 m_293) rfl rfl rfl (by decide +kernel) ⟨Nat.le_of_ble_eq_true rfl, Nat.le_of_ble_eq_true rfl⟩) (preRV hPx hK hZ (va_recv hK hPx (ci := 2) (q0 := 0) rfl rfl)) rfl rfl hl.1 rfl (lv_room (Nat.le_of_ble_eq_true rfl)) d_L_515 hrm).run (fun r hw => ?_)
        subst hw
        clear hPx
        refine lv_aload_n hx hb d_L_518 rfl (lv_at hl 2 rfl) ?_
        refine lv_aload_n hx hb d_L_519 rfl (lv_at hl 0 rfl) ?_
        refine lv_iload_n hx hb d_L_520 rfl (lv_at hl 3 rfl) ?_
        refine lv_iconst (v := 1) hx hb d_L_521 (by decide) ?_
        refine lv_iadd hx hb d_L_522 ?_
        refine va_sld hx hb hX hbl hbA hS hi_1 d_L_523 ?_
        have hP := fr_perm fr_rot2 hP
        have hD := fr_permD fr_rot2 hD
        have hPx : va_P (dC, dI) vwCl (w_M qM q_px q_py q_pz q_plane q_axis q_was q_ways q_keptWas q_keptWays q_keptPoints q_nextWas q_nextWays q_nowWas q_nowWays q_to cI vthrown vpoints vplanes vaxes vkept vax vay vaz cpx cpy cpz cplane caxis cwas cways ckeptWas ckeptWays ckeptPoints cnextWas cnextWays cnowWas cnowWays cto) H := fr_pre hP
        have hDx : va_D (fun q : Nat => s.heap.size ≤ q) (w_M qM q_px q_py q_pz q_plane q_axis q_was q_ways q_keptWas q_keptWays q_keptPoints q_nextWas q_nextWays q_nowWas q_nowWays q_to cI vthrown vpoints vplanes vaxes vkept vax vay vaz cpx cpy cpz cplane caxis cwas cways ckeptWas ckeptWays ckeptPoints cnextWas cnextWays cnowWas cnowWays cto) := fr_preD hD
        have hFx : ∀ q, va_A (w_M qM q_px q_py q_pz q_plane q_axis q_was q_ways q_keptWas q_keptWays q_keptPoints q_nextWas q_nextWays q_nowWas q_nowWays q_to cI vthrown vpoints vplanes vaxes vkept vax vay vaz cpx cpy cpz cplane caxis cwas cways ckeptWas ckeptWays ckeptPoints cnextWas cnextWays cnowWas cnowWays cto) H.size q → s.heap.size ≤ q := fr_free (A0 := fun q : Nat => s.heap.size ≤ q) hD hS hA
        refine va_calli (va_runV (As := [.int (xs (nI (5 * t) + 1).toNatClampNeg)]) (rest := [.int r]) ⟨hx, hb, hml, hown, ht⟩ (c_M_maps l dC dI qM q_px q_py q_pz q_plane q_axis q_was q_ways q_keptWas q_keptWays q_keptPoints q_nextWas q_nextWays q_nowWas q_nowWays q_to cI cJ cQ H.size vthrown vpoints vplanes vaxes vkept vax vay vaz cpx cpy cpz cplane caxis cwas cways ckeptWas ckeptWays ckeptPoints cnextWas cnextWays cnowWas cnowWays cto (xs (nI (5 * t) + 1).toNatClampNeg) r p_vthrown p_vax p_vay p_vaz  hfm) (cwV 1 ht (gV m_558 m_559 m_560 m_31 m_561) rfl rfl rfl (by decide +kernel) ⟨Nat.le_of_ble_eq_true rfl, Nat.le_of_ble_eq_true rfl⟩) (preMV hPx hK hZ hDx (va_recv hK hPx (ci := 3) (q0 := 0) rfl rfl)) rfl rfl hl.1 rfl (lv_room (Nat.le_of_ble_eq_true rfl)) d_L_524 hrm) hS (fun q _ h => hFx q h) hFx (fun r2 u tt H1 locs ht9 hvm hw hB hz1 hk1 hS => ?_)
        obtain ⟨hP1, hD1⟩ := hB
        rw [ht9] at hP1
        subst hw
        have hPD := fr_join (a1 := (w_M qM q_px q_py q_pz q_plane q_axis q_was q_ways q_keptWas q_keptWays q_keptPoints q_nextWas q_nextWays q_nowWas q_nowWays q_to cI p_vthrown vpoints vplanes vaxes vkept p_vax p_vay p_vaz cpx cpy cpz cplane caxis cwas cways ckeptWas ckeptWays ckeptPoints cnextWas cnextWays cnowWas cnowWays cto)) hP hD hk1 hFx hP1 hD1
        obtain ⟨hP, hD⟩ := hPD
        clear hPx hDx hFx hP1 hD1 hz1 hk1 ht9 hvm
        generalize H1 = H at hP hS ⊢
        refine W.widen (k := 40 + 3 * t) (n := 4000 + 122 * t) (Nat.le_refl _) (Nat.le_refl _) ?_
        have hP := fr_perm fr_rot2.symm hP
        have hD := fr_permD fr_rot2.symm hD
        refine lv_icmp_eq (tgt := 634) hx hb d_L_527 (by decide) (fun _ => ?_) (fun c9 => absurd rfl c9)
        exact next k ky ko kt KO KT nA nK nP nQ bX bY bZ bA bB bC bD bS sT nO nT rO rT sO sP tG kQ kP p_vthrown vpoints vplanes vaxes vkept p_vax p_vay p_vaz cpx cpy cpz cplane caxis cwas cways ckeptWas ckeptWays ckeptPoints cnextWas cnextWays cnowWas cnowWays cto hR2 hkp H locs hP hD hS ls hl
      | 14, _ =>
        refine lv_tableIn (off := 500) (tgt := 532) hx hb d_L_32 (by decide) (by decide) (by decide) (by decide) ?_
        refine lv_aload_n hx hb d_L_532 rfl (lv_at hl 1 rfl) ?_
        refine lv_aload_n hx hb d_L_533 rfl (lv_at hl 0 rfl) ?_
        refine lv_iload_n hx hb d_L_534 rfl (lv_at hl 3 rfl) ?_
        refine lv_iconst (v := 1) hx hb d_L_535 (by decide) ?_
        refine lv_iadd hx hb d_L_536 ?_
        refine va_sld hx hb hX hbl hbA hS hi_1 d_L_537 ?_
        refine lv_aload_n hx hb d_L_538 rfl (lv_at hl 0 rfl) ?_
        refine lv_iload_n hx hb d_L_539 rfl (lv_at hl 3 rfl) ?_
        refine lv_iconst (v := 2) hx hb d_L_540 (by decide) ?_
        refine lv_iadd hx hb d_L_541 ?_
        refine va_sld hx hb hX hbl hbA hS hi_2 d_L_542 ?_
        refine lv_aload_n hx hb d_L_543 rfl (lv_at hl 0 rfl) ?_
        refine lv_iload_n hx hb d_L_544 rfl (lv_at hl 3 rfl) ?_
        refine lv_iconst (v := 3) hx hb d_L_545 (by decide) ?_
        refine lv_iadd hx hb d_L_546 ?_
        refine va_sld hx hb hX hbl hbA hS hi_3 d_L_547 ?_
        obtain ⟨rz, o_tG, p_vthrown, p_vax, p_vay, p_vaz, hfx, hfm, hR2⟩ := op_cycle hR tG vthrown vax vay vaz (xs (nI (5 * t) + 1).toNatClampNeg) (xs (nI (5 * t) + 2).toNatClampNeg) (xs (nI (5 * t) + 3).toNatClampNeg)
        have hPx : va_P (dC, dI) vwCl (w_X qX qB qSt qN qR qS qTg qKp qKq qBx qBy qBz qBa qBb qBc qBd qBs qNo qNt qRo qRt qSo qSp cI cJ nA nK nP nQ bX bY bZ bA bB bC bD bS sT nO nT rO rT sO sP tG kQ) H := fr_pre hP
        have hDx : va_D (fun q : Nat => s.heap.size ≤ q) (w_X qX qB qSt qN qR qS qTg qKp qKq qBx qBy qBz qBa qBb qBc qBd qBs qNo qNt qRo qRt qSo qSp cI cJ nA nK nP nQ bX bY bZ bA bB bC bD bS sT nO nT rO rT sO sP tG kQ) := fr_preD hD
        have hFx : ∀ q, va_A (w_X qX qB qSt qN qR qS qTg qKp qKq qBx qBy qBz qBa qBb qBc qBd qBs qNo qNt qRo qRt qSo qSp cI cJ nA nK nP nQ bX bY bZ bA bB bC bD bS sT nO nT rO rT sO sP tG kQ) H.size q → s.heap.size ≤ q := fr_free (A0 := fun q : Nat => s.heap.size ≤ q) hD hS hA
        refine va_calli (va_runV (As := [.int (xs (nI (5 * t) + 1).toNatClampNeg), .int (xs (nI (5 * t) + 2).toNatClampNeg), .int (xs (nI (5 * t) + 3).toNatClampNeg)]) (rest := []) ⟨hx, hb, hml, hown, ht⟩ (c_X_cycle l dC dI qX qB qSt qN qR qS qTg qKp qKq qBx qBy qBz qBa qBb qBc qBd qBs qNo qNt qRo qRt qSo qSp cI cJ cQ H.size nA nK nP nQ bX bY bZ bA bB bC bD bS sT nO nT rO rT sO sP tG kQ (xs (nI (5 * t) + 1).toNatClampNeg) (xs (nI (5 * t) + 2).toNatClampNeg) (xs (nI (5 * t) + 3).toNatClampNeg) rz o_tG  hfx) (cwV 3 ht (gV m_311 m_312 m_313 m_28 m_314) rfl rfl rfl (by decide +kernel) ⟨Nat.le_of_ble_eq_true rfl, Nat.le_of_ble_eq_true rfl⟩) (preMV hPx hK hZ hDx (va_recv hK hPx (ci := 2) (q0 := 0) rfl rfl)) rfl rfl hl.1 rfl (lv_room (Nat.le_of_ble_eq_true rfl)) d_L_548 hrm) hS (fun q _ h => hFx q h) hFx (fun r u tt H1 locs ht9 hvm hw hB hz1 hk1 hS => ?_)
        obtain ⟨hP1, hD1⟩ := hB
        rw [ht9] at hP1
        subst hw
        have hPD := fr_join (a1 := (w_X qX qB qSt qN qR qS qTg qKp qKq qBx qBy qBz qBa qBb qBc qBd qBs qNo qNt qRo qRt qSo qSp cI cJ nA nK nP nQ bX bY bZ bA bB bC bD bS sT nO nT rO rT sO sP o_tG kQ)) hP hD hk1 hFx hP1 hD1
        obtain ⟨hP, hD⟩ := hPD
        clear hPx hDx hFx hP1 hD1 hz1 hk1 ht9 hvm
        generalize H1 = H at hP hS ⊢
        refine W.widen (k := 40 + 3 * t) (n := 4000 + 122 * t) (Nat.le_refl _) (Nat.le_refl _) ?_
        refine lv_aload_n hx hb d_L_551 rfl (lv_at hl 2 rfl) ?_
        refine lv_aload_n hx hb d_L_552 rfl (lv_at hl 0 rfl) ?_
        refine lv_iload_n hx hb d_L_553 rfl (lv_at hl 3 rfl) ?_
        refine lv_iconst (v := 1) hx hb d_L_554 (by decide) ?_
        refine lv_iadd hx hb d_L_555 ?_
        refine va_sld hx hb hX hbl hbA hS hi_1 d_L_556 ?_
        refine lv_aload_n hx hb d_L_557 rfl (lv_at hl 0 rfl) ?_
        refine lv_iload_n hx hb d_L_558 rfl (lv_at hl 3 rfl) ?_
        refine lv_iconst (v := 2) hx hb d_L_559 (by decide) ?_
        refine lv_iadd hx hb d_L_560 ?_
        refine va_sld hx hb hX hbl hbA hS hi_2 d_L_561 ?_
        refine lv_aload_n hx hb d_L_562 rfl (lv_at hl 0 rfl) ?_
        refine lv_iload_n hx hb d_L_563 rfl (lv_at hl 3 rfl) ?_
        refine lv_iconst (v := 3) hx hb d_L_564 (by decide) ?_
        refine lv_iadd hx hb d_L_565 ?_
        refine va_sld hx hb hX hbl hbA hS hi_3 d_L_566 ?_
        have hP := fr_perm fr_rot2 hP
        have hD := fr_permD fr_rot2 hD
        have hPx : va_P (dC, dI) vwCl (w_M qM q_px q_py q_pz q_plane q_axis q_was q_ways q_keptWas q_keptWays q_keptPoints q_nextWas q_nextWays q_nowWas q_nowWays q_to cI vthrown vpoints vplanes vaxes vkept vax vay vaz cpx cpy cpz cplane caxis cwas cways ckeptWas ckeptWays ckeptPoints cnextWas cnextWays cnowWas cnowWays cto) H := fr_pre hP
        have hDx : va_D (fun q : Nat => s.heap.size ≤ q) (w_M qM q_px q_py q_pz q_plane q_axis q_was q_ways q_keptWas q_keptWays q_keptPoints q_nextWas q_nextWays q_nowWas q_nowWays q_to cI vthrown vpoints vplanes vaxes vkept vax vay vaz cpx cpy cpz cplane caxis cwas cways ckeptWas ckeptWays ckeptPoints cnextWas cnextWays cnowWas cnowWays cto) := fr_preD hD
        have hFx : ∀ q, va_A (w_M qM q_px q_py q_pz q_plane q_axis q_was q_ways q_keptWas q_keptWays q_keptPoints q_nextWas q_nextWays q_nowWas q_nowWays q_to cI vthrown vpoints vplanes vaxes vkept vax vay vaz cpx cpy cpz cplane caxis cwas cways ckeptWas ckeptWays ckeptPoints cnextWas cnextWays cnowWas cnowWays cto) H.size q → s.heap.size ≤ q := fr_free (A0 := fun q : Nat => s.heap.size ≤ q) hD hS hA
        refine va_calli (va_runV (As := [.int (xs (nI (5 * t) + 1).toNatClampNeg), .int (xs (nI (5 * t) + 2).toNatClampNeg), .int (xs (nI (5 * t) + 3).toNatClampNeg)]) (rest := [.int r]) ⟨hx, hb, hml, hown, ht⟩ (c_M_cycle l dC dI qM q_px q_py q_pz q_plane q_axis q_was q_ways q_keptWas q_keptWays q_keptPoints q_nextWas q_nextWays q_nowWas q_nowWays q_to cI cJ cQ H.size vthrown vpoints vplanes vaxes vkept vax vay vaz cpx cpy cpz cplane caxis cwas cways ckeptWas ckeptWays ckeptPoints cnextWas cnextWays cnowWas cnowWays cto (xs (nI (5 * t) + 1).toNatClampNeg) (xs (nI (5 * t) + 2).toNatClampNeg) (xs (nI (5 * t) + 3).toNatClampNeg) r p_vthrown p_vax p_vay p_vaz  hfm) (cwV 3 ht (gV m_569 m_570 m_571 m_31 m_572) rfl rfl rfl (by decide +kernel) ⟨Nat.le_of_ble_eq_true rfl, Nat.le_of_ble_eq_true rfl⟩) (preMV hPx hK hZ hDx (va_recv hK hPx (ci := 3) (q0 := 0) rfl rfl)) rfl rfl hl.1 rfl (lv_room (Nat.le_of_ble_eq_true rfl)) d_L_567 hrm) hS (fun q _ h => hFx q h) hFx (fun r2 u tt H1 locs ht9 hvm hw hB hz1 hk1 hS => ?_)
        obtain ⟨hP1, hD1⟩ := hB
        rw [ht9] at hP1
        subst hw
        have hPD := fr_join (a1 := (w_M qM q_px q_py q_pz q_plane q_axis q_was q_ways q_keptWas q_keptWays q_keptPoints q_nextWas q_nextWays q_nowWas q_nowWays q_to cI p_vthrown vpoints vplanes vaxes vkept p_vax p_vay p_vaz cpx cpy cpz cplane caxis cwas cways ckeptWas ckeptWays ckeptPoints cnextWas cnextWays cnowWas cnowWays cto)) hP hD hk1 hFx hP1 hD1
        obtain ⟨hP, hD⟩ := hPD
        clear hPx hDx hFx hP1 hD1 hz1 hk1 ht9 hvm
        generalize H1 = H at hP hS ⊢
        refine W.widen (k := 40 + 3 * t) (n := 4000 + 122 * t) (Nat.le_refl _) (Nat.le_refl _) ?_
        have hP := fr_perm fr_rot2.symm hP
        have hD := fr_permD fr_rot2.symm hD
        refine lv_icmp_eq (tgt := 634) hx hb d_L_570 (by decide) (fun _ => ?_) (fun c9 => absurd rfl c9)
        exact next k ky ko kt KO KT nA nK nP nQ bX bY bZ bA bB bC bD bS sT nO nT rO rT sO sP o_tG kQ kP p_vthrown vpoints vplanes vaxes vkept p_vax p_vay p_vaz cpx cpy cpz cplane caxis cwas cways ckeptWas ckeptWays ckeptPoints cnextWas cnextWays cnowWas cnowWays cto hR2 hkp H locs hP hD hS ls hl
      | 15, _ =>
        refine lv_tableIn (off := 543) (tgt := 575) hx hb d_L_32 (by decide) (by decide) (by decide) (by decide) ?_
        refine lv_aload_n hx hb d_L_575 rfl (lv_at hl 1 rfl) ?_
        refine lv_aload_n hx hb d_L_576 rfl (lv_at hl 0 rfl) ?_
        refine lv_iload_n hx hb d_L_577 rfl (lv_at hl 3 rfl) ?_
        refine lv_iconst (v := 1) hx hb d_L_578 (by decide) ?_
        refine lv_iadd hx hb d_L_579 ?_
        refine va_sld hx hb hX hbl hbA hS hi_1 d_L_580 ?_
        obtain ⟨rz, o_rO, o_rT, o_sO, o_sP, o_tG, p_vthrown, p_vax, p_vay, p_vaz, p_cwas, p_cways, p_cnextWas, p_cnextWays, p_cnowWas, p_cnowWays, p_cto, hfx, hfm, hR2⟩ := op_rounds hR rO rT sO sP tG vthrown vax vay vaz cnextWas cnextWays cnowWas cnowWays cto (xs (nI (5 * t) + 1).toNatClampNeg)
        have hPx : va_P (dC, dI) vwCl (w_X qX qB qSt qN qR qS qTg qKp qKq qBx qBy qBz qBa qBb qBc qBd qBs qNo qNt qRo qRt qSo qSp cI cJ nA nK nP nQ bX bY bZ bA bB bC bD bS sT nO nT rO rT sO sP tG kQ) H := fr_pre hP
        have hDx : va_D (fun q : Nat => s.heap.size ≤ q) (w_X qX qB qSt qN qR qS qTg qKp qKq qBx qBy qBz qBa qBb qBc qBd qBs qNo qNt qRo qRt qSo qSp cI cJ nA nK nP nQ bX bY bZ bA bB bC bD bS sT nO nT rO rT sO sP tG kQ) := fr_preD hD
        have hFx : ∀ q, va_A (w_X qX qB qSt qN qR qS qTg qKp qKq qBx qBy qBz qBa qBb qBc qBd qBs qNo qNt qRo qRt qSo qSp cI cJ nA nK nP nQ bX bY bZ bA bB bC bD bS sT nO nT rO rT sO sP tG kQ) H.size q → s.heap.size ≤ q := fr_free (A0 := fun q : Nat => s.heap.size ≤ q) hD hS hA
        refine va_calli (va_runV (As := [.int (xs (nI (5 * t) + 1).toNatClampNeg)]) (rest := []) ⟨hx, hb, hml, hown, ht⟩ (c_X_rounds l dC dI qX qB qSt qN qR qS qTg qKp qKq qBx qBy qBz qBa qBb qBc qBd qBs qNo qNt qRo qRt qSo qSp cI cJ cQ H.size nA nK nP nQ bX bY bZ bA bB bC bD bS sT nO nT rO rT sO sP tG kQ (xs (nI (5 * t) + 1).toNatClampNeg) rz o_rO o_rT o_sO o_sP o_tG  hfx) (cwV 1 ht (gV m_315 m_316 m_317 m_28 m_318) rfl rfl rfl (by decide +kernel) ⟨Nat.le_of_ble_eq_true rfl, Nat.le_of_ble_eq_true rfl⟩) (preMV hPx hK hZ hDx (va_recv hK hPx (ci := 2) (q0 := 0) rfl rfl)) rfl rfl hl.1 rfl (lv_room (Nat.le_of_ble_eq_true rfl)) d_L_581 hrm) hS (fun q _ h => hFx q h) hFx (fun r u tt H1 locs ht9 hvm hw hB hz1 hk1 hS => ?_)
        obtain ⟨hP1, hD1⟩ := hB
        rw [ht9] at hP1
        subst hw
        have hPD := fr_join (a1 := (w_X qX qB qSt qN qR qS qTg qKp qKq qBx qBy qBz qBa qBb qBc qBd qBs qNo qNt qRo qRt qSo qSp cI cJ nA nK nP nQ bX bY bZ bA bB bC bD bS sT nO nT o_rO o_rT o_sO o_sP o_tG kQ)) hP hD hk1 hFx hP1 hD1
        obtain ⟨hP, hD⟩ := hPD
        clear hPx hDx hFx hP1 hD1 hz1 hk1 ht9 hvm
        generalize H1 = H at hP hS ⊢
        refine W.widen (k := 40 + 3 * t) (n := 4000 + 122 * t) (Nat.le_refl _) (Nat.le_refl _) ?_
        refine lv_aload_n hx hb d_L_584 rfl (lv_at hl 2 rfl) ?_
        refine lv_aload_n hx hb d_L_585 rfl (lv_at hl 0 rfl) ?_
        refine lv_iload_n hx hb d_L_586 rfl (lv_at hl 3 rfl) ?_
        refine lv_iconst (v := 1) hx hb d_L_587 (by decide) ?_
        refine lv_iadd hx hb d_L_588 ?_
        refine va_sld hx hb hX hbl hbA hS hi_1 d_L_589 ?_
        have hP := fr_perm fr_rot2 hP
        have hD := fr_permD fr_rot2 hD
        have hPx : va_P (dC, dI) vwCl (w_M qM q_px q_py q_pz q_plane q_axis q_was q_ways q_keptWas q_keptWays q_keptPoints q_nextWas q_nextWays q_nowWas q_nowWays q_to cI vthrown vpoints vplanes vaxes vkept vax vay vaz cpx cpy cpz cplane caxis cwas cways ckeptWas ckeptWays ckeptPoints cnextWas cnextWays cnowWas cnowWays cto) H := fr_pre hP
        have hDx : va_D (fun q : Nat => s.heap.size ≤ q) (w_M qM q_px q_py q_pz q_plane q_axis q_was q_ways q_keptWas q_keptWays q_keptPoints q_nextWas q_nextWays q_nowWas q_nowWays q_to cI vthrown vpoints vplanes vaxes vkept vax vay vaz cpx cpy cpz cplane caxis cwas cways ckeptWas ckeptWays ckeptPoints cnextWas cnextWays cnowWas cnowWays cto) := fr_preD hD
        have hFx : ∀ q, va_A (w_M qM q_px q_py q_pz q_plane q_axis q_was q_ways q_keptWas q_keptWays q_keptPoints q_nextWas q_nextWays q_nowWas q_nowWays q_to cI vthrown vpoints vplanes vaxes vkept vax vay vaz cpx cpy cpz cplane caxis cwas cways ckeptWas ckeptWays ckeptPoints cnextWas cnextWays cnowWas cnowWays cto) H.size q → s.heap.size ≤ q := fr_free (A0 := fun q : Nat => s.heap.size ≤ q) hD hS hA
        refine va_calli (va_runV (As := [.int (xs (nI (5 * t) + 1).toNatClampNeg)]) (rest := [.int r]) ⟨hx, hb, hml, hown, ht⟩ (c_M_rounds l dC dI qM q_px q_py q_pz q_plane q_axis q_was q_ways q_keptWas q_keptWays q_keptPoints q_nextWas q_nextWays q_nowWas q_nowWays q_to cI cJ cQ H.size vthrown vpoints vplanes vaxes vkept vax vay vaz cpx cpy cpz cplane caxis cwas cways ckeptWas ckeptWays ckeptPoints cnextWas cnextWays cnowWas cnowWays cto (xs (nI (5 * t) + 1).toNatClampNeg) r p_vthrown p_vax p_vay p_vaz p_cwas p_cways p_cnextWas p_cnextWays p_cnowWas p_cnowWays p_cto  hfm) (cwV 1 ht (gV m_573 m_574 m_575 m_31 m_576) rfl rfl rfl (by decide +kernel) ⟨Nat.le_of_ble_eq_true rfl, Nat.le_of_ble_eq_true rfl⟩) (preMV hPx hK hZ hDx (va_recv hK hPx (ci := 3) (q0 := 0) rfl rfl)) rfl rfl hl.1 rfl (lv_room (Nat.le_of_ble_eq_true rfl)) d_L_590 hrm) hS (fun q _ h => hFx q h) hFx (fun r2 u tt H1 locs ht9 hvm hw hB hz1 hk1 hS => ?_)
        obtain ⟨hP1, hD1⟩ := hB
        rw [ht9] at hP1
        subst hw
        have hPD := fr_join (a1 := (w_M qM q_px q_py q_pz q_plane q_axis q_was q_ways q_keptWas q_keptWays q_keptPoints q_nextWas q_nextWays q_nowWas q_nowWays q_to cI p_vthrown vpoints vplanes vaxes vkept p_vax p_vay p_vaz cpx cpy cpz cplane caxis p_cwas p_cways ckeptWas ckeptWays ckeptPoints p_cnextWas p_cnextWays p_cnowWas p_cnowWays p_cto)) hP hD hk1 hFx hP1 hD1
        obtain ⟨hP, hD⟩ := hPD
        clear hPx hDx hFx hP1 hD1 hz1 hk1 ht9 hvm
        generalize H1 = H at hP hS ⊢
        refine W.widen (k := 40 + 3 * t) (n := 4000 + 122 * t) (Nat.le_refl _) (Nat.le_refl _) ?_
        have hP := fr_perm fr_rot2.symm hP
        have hD := fr_permD fr_rot2.symm hD
        refine lv_icmp_eq (tgt := 634) hx hb d_L_593 (by decide) (fun _ => ?_) (fun c9 => absurd rfl c9)
        exact next k ky ko kt KO KT nA nK nP nQ bX bY bZ bA bB bC bD bS sT nO nT o_rO o_rT o_sO o_sP o_tG kQ kP p_vthrown vpoints vplanes vaxes vkept p_vax p_vay p_vaz cpx cpy cpz cplane caxis p_cwas p_cways ckeptWas ckeptWays ckeptPoints p_cnextWas p_cnextWays p_cnowWas p_cnowWays p_cto hR2 hkp H locs hP hD hS ls hl
      | 16, _ =>
        refine lv_tableIn (off := 566) (tgt := 598) hx hb d_L_32 (by decide) (by decide) (by decide) (by decide) ?_
        refine lv_aload_n hx hb d_L_598 rfl (lv_at hl 1 rfl) ?_
        by_cases h6 : nK < 10
        · obtain ⟨hkk, rz, o_nK, o_kQ, o_O, o_T, p_vthrown, p_vkept, p_ckeptWas, p_ckeptWays, p_ckeptPoints, hfx, hfm, hR2⟩ := op_keep_yes hR h6 vthrown
          have hP : va_P (dC, dI) vwCl ((w_XK qX qB qSt qN qR qS qTg qKp qKq qBx qBy qBz qBa qBb qBc qBd qBs qNo qNt qRo qRt qSo qSp cI cJ cQ nA nK nP nQ bX bY bZ bA bB bC bD bS sT nO nT rO rT sO sP tG kQ kP) ++ ((w_M qM q_px q_py q_pz q_plane q_axis q_was q_ways q_keptWas q_keptWays q_keptPoints q_nextWas q_nextWays q_nowWas q_nowWays q_to cI vthrown vpoints vplanes vaxes vkept vax vay vaz cpx cpy cpz cplane caxis cwas cways ckeptWas ckeptWays ckeptPoints cnextWas cnextWays cnowWas cnowWays cto) ++ kp_pool cI k ky ko kt KO KT)) H := by rw [← List.append_assoc] at hP; exact hP
          have hD : va_D (fun q : Nat => s.heap.size ≤ q) ((w_XK qX qB qSt qN qR qS qTg qKp qKq qBx qBy qBz qBa qBb qBc qBd qBs qNo qNt qRo qRt qSo qSp cI cJ cQ nA nK nP nQ bX bY bZ bA bB bC bD bS sT nO nT rO rT sO sP tG kQ kP) ++ ((w_M qM q_px q_py q_pz q_plane q_axis q_was q_ways q_keptWas q_keptWays q_keptPoints q_nextWas q_nextWays q_nowWas q_nowWays q_to cI vthrown vpoints vplanes vaxes vkept vax vay vaz cpx cpy cpz cplane caxis cwas cways ckeptWas ckeptWays ckeptPoints cnextWas cnextWays cnowWas cnowWays cto) ++ kp_pool cI k ky ko kt KO KT)) := by rw [← List.append_assoc] at hD; exact hD
          have hPx : va_P (dC, dI) vwCl (w_XK qX qB qSt qN qR qS qTg qKp qKq qBx qBy qBz qBa qBb qBc qBd qBs qNo qNt qRo qRt qSo qSp cI cJ cQ nA nK nP nQ bX bY bZ bA bB bC bD bS sT nO nT rO rT sO sP tG kQ kP) H := fr_pre hP
          have hDx : va_D (fun q : Nat => s.heap.size ≤ q) (w_XK qX qB qSt qN qR qS qTg qKp qKq qBx qBy qBz qBa qBb qBc qBd qBs qNo qNt qRo qRt qSo qSp cI cJ cQ nA nK nP nQ bX bY bZ bA bB bC bD bS sT nO nT rO rT sO sP tG kQ kP) := fr_preD hD
          have hFx : ∀ q, va_A (w_XK qX qB qSt qN qR qS qTg qKp qKq qBx qBy qBz qBa qBb qBc qBd qBs qNo qNt qRo qRt qSo qSp cI cJ cQ nA nK nP nQ bX bY bZ bA bB bC bD bS sT nO nT rO rT sO sP tG kQ kP) H.size q → s.heap.size ≤ q := fr_free (A0 := fun q : Nat => s.heap.size ≤ q) hD hS hA
          refine va_calli (va_runV (As := []) (rest := []) ⟨hx, hb, hml, hown, ht⟩ (c_X_keep_yes l dC dI qX qB qSt qN qR qS qTg qKp qKq qBx qBy qBz qBa qBb qBc qBd qBs qNo qNt qRo qRt qSo qSp cI cJ cQ H.size nA nK nP nQ bX bY bZ bA bB bC bD bS sT nO nT rO rT sO sP tG kQ kP  rz o_nK o_kQ o_O o_T h6 hfx) (cwV 0 ht (gV m_332 m_333 m_334 m_28 m_335) rfl rfl rfl (by decide +kernel) ⟨Nat.le_of_ble_eq_true rfl, Nat.le_of_ble_eq_true rfl⟩) (preMV hPx hK hZ hDx (va_recv hK hPx (ci := 2) (q0 := 0) rfl rfl)) rfl rfl hl.1 rfl (lv_room (Nat.le_of_ble_eq_true rfl)) d_L_599 hrm3) hS (fun q _ h => hFx q h) hFx (fun r u tt H1 locs ht9 hvm hw hB hz1 hk1 hS => ?_)
          obtain ⟨u1, u2, u3⟩ := u
          obtain ⟨hP1, hD1⟩ := hB
          rw [ht9] at hP1
          subst hw
          have hPD := fr_join (a1 := ((w_X qX qB qSt qN qR qS qTg qKp qKq qBx qBy qBz qBa qBb qBc qBd qBs qNo qNt qRo qRt qSo qSp cI cJ nA o_nK nP nQ bX bY bZ bA bB bC bD bS sT nO nT rO rT sO sP tG o_kQ) ++ ([(qKp, .inl (cQ, 10, .inr (.inr (.inr (.inr (va_up kP nK.toNatClampNeg (some u1)))))))] ++ [(u1, .inr (1, [.ref u2, .ref u3])), (u2, .inl (cI, 60, .inl o_O)), (u3, .inl (cI, 60, .inl o_T))]))) hP hD hk1 hFx hP1 hD1
          obtain ⟨hP, hD⟩ := hPD
          clear hPx hDx hFx hP1 hD1 hz1 hk1 ht9 hvm
          generalize H1 = H at hP hS ⊢
          refine W.widen (k := 40 + 3 * (t + 1)) (n := 4000 + 122 * (t + 1)) (by omega) (by omega) ?_
          have hP := fr_perm fr_keep hP
          have hD := fr_permD fr_keep hD
          rw [← kp_pool_succ] at hP hD
          refine lv_aload_n hx hb d_L_602 rfl (lv_at hl 2 rfl) ?_
          have hP := fr_perm fr_rot2 hP
          have hD := fr_permD fr_rot2 hD
          have hPx : va_P (dC, dI) vwCl (w_M qM q_px q_py q_pz q_plane q_axis q_was q_ways q_keptWas q_keptWays q_keptPoints q_nextWas q_nextWays q_nowWas q_nowWays q_to cI vthrown vpoints vplanes vaxes vkept vax vay vaz cpx cpy cpz cplane caxis cwas cways ckeptWas ckeptWays ckeptPoints cnextWas cnextWays cnowWas cnowWays cto) H := fr_pre hP
          have hDx : va_D (fun q : Nat => s.heap.size ≤ q) (w_M qM q_px q_py q_pz q_plane q_axis q_was q_ways q_keptWas q_keptWays q_keptPoints q_nextWas q_nextWays q_nowWas q_nowWays q_to cI vthrown vpoints vplanes vaxes vkept vax vay vaz cpx cpy cpz cplane caxis cwas cways ckeptWas ckeptWays ckeptPoints cnextWas cnextWays cnowWas cnowWays cto) := fr_preD hD
          have hFx : ∀ q, va_A (w_M qM q_px q_py q_pz q_plane q_axis q_was q_ways q_keptWas q_keptWays q_keptPoints q_nextWas q_nextWays q_nowWas q_nowWays q_to cI vthrown vpoints vplanes vaxes vkept vax vay vaz cpx cpy cpz cplane caxis cwas cways ckeptWas ckeptWays ckeptPoints cnextWas cnextWays cnowWas cnowWays cto) H.size q → s.heap.size ≤ q := fr_free (A0 := fun q : Nat => s.heap.size ≤ q) hD hS hA
          refine va_calli (va_runV (As := []) (rest := [.int r]) ⟨hx, hb, hml, hown, ht⟩ (c_M_keep l dC dI qM q_px q_py q_pz q_plane q_axis q_was q_ways q_keptWas q_keptWays q_keptPoints q_nextWas q_nextWays q_nowWas q_nowWays q_to cI cJ cQ H.size vthrown vpoints vplanes vaxes vkept vax vay vaz cpx cpy cpz cplane caxis cwas cways ckeptWas ckeptWays ckeptPoints cnextWas cnextWays cnowWas cnowWays cto  r p_vthrown p_vkept p_ckeptWas p_ckeptWays p_ckeptPoints  hfm) (cwV 0 ht (gV m_581 m_582 m_583 m_31 m_584) rfl rfl rfl (by decide +kernel) ⟨Nat.le_of_ble_eq_true rfl, Nat.le_of_ble_eq_true rfl⟩) (preMV hPx hK hZ hDx (va_recv hK hPx (ci := 3) (q0 := 0) rfl rfl)) rfl rfl hl.1 rfl (lv_room (Nat.le_of_ble_eq_true rfl)) d_L_603 hrm1) hS (fun q _ h => hFx q h) hFx (fun r2 u tt H1 locs ht9 hvm hw hB hz1 hk1 hS => ?_)
          obtain ⟨hP1, hD1⟩ := hB
          rw [ht9] at hP1
          subst hw
          have hPD := fr_join (a1 := (w_M qM q_px q_py q_pz q_plane q_axis q_was q_ways q_keptWas q_keptWays q_keptPoints q_nextWas q_nextWays q_nowWas q_nowWays q_to cI p_vthrown vpoints vplanes vaxes p_vkept vax vay vaz cpx cpy cpz cplane caxis cwas cways p_ckeptWas p_ckeptWays p_ckeptPoints cnextWas cnextWays cnowWas cnowWays cto)) hP hD hk1 hFx hP1 hD1
          obtain ⟨hP, hD⟩ := hPD
          clear hPx hDx hFx hP1 hD1 hz1 hk1 ht9 hvm
          generalize H1 = H at hP hS ⊢
          refine W.widen (k := 40 + 3 * (t + 1)) (n := 4000 + 122 * (t + 1)) (Nat.le_refl _) (Nat.le_refl _) ?_
          have hP := fr_perm fr_rot2.symm hP
          have hD := fr_permD fr_rot2.symm hD
          refine lv_icmp_eq (tgt := 634) hx hb d_L_606 (by decide) (fun _ => ?_) (fun c9 => absurd rfl c9)
          exact next1 (k + 1) (va_up ky k u1) (va_up ko k u2) (va_up kt k u3) (va_up KO k o_O) (va_up KT k o_T) nA o_nK nP nQ bX bY bZ bA bB bC bD bS sT nO nT rO rT sO sP tG o_kQ (va_up kP nK.toNatClampNeg (some u1)) p_vthrown vpoints vplanes vaxes p_vkept vax vay vaz cpx cpy cpz cplane caxis cwas cways p_ckeptWas p_ckeptWays p_ckeptPoints cnextWas cnextWays cnowWas cnowWays cto hR2 (kp_up hkp hkk) H locs hP hD hS ls hl
        · obtain ⟨rz, p_vthrown, p_vkept, p_ckeptWas, p_ckeptWays, p_ckeptPoints, hfx, hfm, hR2⟩ := op_keep_no hR h6 vthrown
          have hPx : va_P (dC, dI) vwCl (w_X qX qB qSt qN qR qS qTg qKp qKq qBx qBy qBz qBa qBb qBc qBd qBs qNo qNt qRo qRt qSo qSp cI cJ nA nK nP nQ bX bY bZ bA bB bC bD bS sT nO nT rO rT sO sP tG kQ) H := fr_pre hP
          refine vp_callSi (va_runV (As := []) (rest := []) ⟨hx, hb, hml, hown, ht⟩ (c_X_keep_no l dC dI qX qB qSt qN qR qS qTg qKp qKq qBx qBy qBz qBa qBb qBc qBd qBs qNo qNt qRo qRt qSo qSp cI cJ cQ nA nK nP nQ bX bY bZ bA bB bC bD bS sT nO nT rO rT sO sP tG kQ  rz h6 hfx) (cwV 0 ht (gV m_332 m_333 m_334 m_28 m_335) rfl rfl rfl (by decide +kernel) ⟨Nat.le_of_ble_eq_true rfl, Nat.le_of_ble_eq_true rfl⟩) (preRV hPx hK hZ (va_recv hK hPx (ci := 2) (q0 := 0) rfl rfl)) rfl rfl hl.1 rfl (lv_room (Nat.le_of_ble_eq_true rfl)) d_L_599 hrm).run (fun r hw => ?_)
          subst hw
          clear hPx
          refine lv_aload_n hx hb d_L_602 rfl (lv_at hl 2 rfl) ?_
          have hP := fr_perm fr_rot2 hP
          have hD := fr_permD fr_rot2 hD
          have hPx : va_P (dC, dI) vwCl (w_M qM q_px q_py q_pz q_plane q_axis q_was q_ways q_keptWas q_keptWays q_keptPoints q_nextWas q_nextWays q_nowWas q_nowWays q_to cI vthrown vpoints vplanes vaxes vkept vax vay vaz cpx cpy cpz cplane caxis cwas cways ckeptWas ckeptWays ckeptPoints cnextWas cnextWays cnowWas cnowWays cto) H := fr_pre hP
          have hDx : va_D (fun q : Nat => s.heap.size ≤ q) (w_M qM q_px q_py q_pz q_plane q_axis q_was q_ways q_keptWas q_keptWays q_keptPoints q_nextWas q_nextWays q_nowWas q_nowWays q_to cI vthrown vpoints vplanes vaxes vkept vax vay vaz cpx cpy cpz cplane caxis cwas cways ckeptWas ckeptWays ckeptPoints cnextWas cnextWays cnowWas cnowWays cto) := fr_preD hD
          have hFx : ∀ q, va_A (w_M qM q_px q_py q_pz q_plane q_axis q_was q_ways q_keptWas q_keptWays q_keptPoints q_nextWas q_nextWays q_nowWas q_nowWays q_to cI vthrown vpoints vplanes vaxes vkept vax vay vaz cpx cpy cpz cplane caxis cwas cways ckeptWas ckeptWays ckeptPoints cnextWas cnextWays cnowWas cnowWays cto) H.size q → s.heap.size ≤ q := fr_free (A0 := fun q : Nat => s.heap.size ≤ q) hD hS hA
          refine va_calli (va_runV (As := []) (rest := [.int r]) ⟨hx, hb, hml, hown, ht⟩ (c_M_keep l dC dI qM q_px q_py q_pz q_plane q_axis q_was q_ways q_keptWas q_keptWays q_keptPoints q_nextWas q_nextWays q_nowWas q_nowWays q_to cI cJ cQ H.size vthrown vpoints vplanes vaxes vkept vax vay vaz cpx cpy cpz cplane caxis cwas cways ckeptWas ckeptWays ckeptPoints cnextWas cnextWays cnowWas cnowWays cto  r p_vthrown p_vkept p_ckeptWas p_ckeptWays p_ckeptPoints  hfm) (cwV 0 ht (gV m_581 m_582 m_583 m_31 m_584) rfl rfl rfl (by decide +kernel) ⟨Nat.le_of_ble_eq_true rfl, Nat.le_of_ble_eq_true rfl⟩) (preMV hPx hK hZ hDx (va_recv hK hPx (ci := 3) (q0 := 0) rfl rfl)) rfl rfl hl.1 rfl (lv_room (Nat.le_of_ble_eq_true rfl)) d_L_603 hrm) hS (fun q _ h => hFx q h) hFx (fun r2 u tt H1 locs ht9 hvm hw hB hz1 hk1 hS => ?_)
          obtain ⟨hP1, hD1⟩ := hB
          rw [ht9] at hP1
          subst hw
          have hPD := fr_join (a1 := (w_M qM q_px q_py q_pz q_plane q_axis q_was q_ways q_keptWas q_keptWays q_keptPoints q_nextWas q_nextWays q_nowWas q_nowWays q_to cI p_vthrown vpoints vplanes vaxes p_vkept vax vay vaz cpx cpy cpz cplane caxis cwas cways p_ckeptWas p_ckeptWays p_ckeptPoints cnextWas cnextWays cnowWas cnowWays cto)) hP hD hk1 hFx hP1 hD1
          obtain ⟨hP, hD⟩ := hPD
          clear hPx hDx hFx hP1 hD1 hz1 hk1 ht9 hvm
          generalize H1 = H at hP hS ⊢
          refine W.widen (k := 40 + 3 * t) (n := 4000 + 122 * t) (Nat.le_refl _) (Nat.le_refl _) ?_
          have hP := fr_perm fr_rot2.symm hP
          have hD := fr_permD fr_rot2.symm hD
          refine lv_icmp_eq (tgt := 634) hx hb d_L_606 (by decide) (fun _ => ?_) (fun c9 => absurd rfl c9)
          exact next k ky ko kt KO KT nA nK nP nQ bX bY bZ bA bB bC bD bS sT nO nT rO rT sO sP tG kQ kP p_vthrown vpoints vplanes vaxes p_vkept vax vay vaz cpx cpy cpz cplane caxis cwas cways p_ckeptWas p_ckeptWays p_ckeptPoints cnextWas cnextWays cnowWas cnowWays cto hR2 hkp H locs hP hD hS ls hl
      | 17, _ =>
        refine lv_tableIn (off := 579) (tgt := 611) hx hb d_L_32 (by decide) (by decide) (by decide) (by decide) ?_
        refine lv_aload_n hx hb d_L_611 rfl (lv_at hl 1 rfl) ?_
        refine lv_aload_n hx hb d_L_612 rfl (lv_at hl 0 rfl) ?_
        refine lv_iload_n hx hb d_L_613 rfl (lv_at hl 3 rfl) ?_
        refine lv_iconst (v := 1) hx hb d_L_614 (by decide) ?_
        refine lv_iadd hx hb d_L_615 ?_
        refine va_sld hx hb hX hbl hbA hS hi_1 d_L_616 ?_
        obtain ⟨x1, ex1⟩ : ∃ z, z = xs (nI (5 * t) + 1).toNatClampNeg := ⟨_, rfl⟩
        rw [← ex1]
        by_cases h1 : x1 < 0
        · skip
          obtain ⟨rz, p_vthrown, p_cwas, p_cways, hfx, hfm, hR2⟩ := op_back_neg hR vthrown x1 h1
          have hPx : va_P (dC, dI) vwCl (w_X qX qB qSt qN qR qS qTg qKp qKq qBx qBy qBz qBa qBb qBc qBd qBs qNo qNt qRo qRt qSo qSp cI cJ nA nK nP nQ bX bY bZ bA bB bC bD bS sT nO nT rO rT sO sP tG kQ) H := fr_pre hP
          refine vp_callSi (va_runV (As := [.int x1]) (rest := []) ⟨hx, hb, hml, hown, ht⟩ (c_X_back_neg l dC dI qX qB qSt qN qR qS qTg qKp qKq qBx qBy qBz qBa qBb qBc qBd qBs qNo qNt qRo qRt qSo qSp cI cJ cQ nA nK nP nQ bX bY bZ bA bB bC bD bS sT nO nT rO rT sO sP tG kQ x1 rz h1 hfx) (cwV 1 ht (gV m_336 m_337 m_338 m_28 m_339) rfl rfl rfl (by decide +kernel) ⟨Nat.le_of_ble_eq_true rfl, Nat.le_of_ble_eq_true rfl⟩) (preRV hPx hK hZ (va_recv hK hPx (ci := 2) (q0 := 0) rfl rfl)) rfl rfl hl.1 rfl (lv_room (Nat.le_of_ble_eq_true rfl)) d_L_617 hrm).run (fun r hw => ?_)
          subst hw
          clear hPx
          refine lv_aload_n hx hb d_L_620 rfl (lv_at hl 2 rfl) ?_
          refine lv_aload_n hx hb d_L_621 rfl (lv_at hl 0 rfl) ?_
          refine lv_iload_n hx hb d_L_622 rfl (lv_at hl 3 rfl) ?_
          refine lv_iconst (v := 1) hx hb d_L_623 (by decide) ?_
          refine lv_iadd hx hb d_L_624 ?_
          refine va_sld hx hb hX hbl hbA hS hi_1 d_L_625 ?_
          rw [← ex1]
          have hP := fr_perm fr_rot2 hP
          have hD := fr_permD fr_rot2 hD
          have hPx : va_P (dC, dI) vwCl (w_M qM q_px q_py q_pz q_plane q_axis q_was q_ways q_keptWas q_keptWays q_keptPoints q_nextWas q_nextWays q_nowWas q_nowWays q_to cI vthrown vpoints vplanes vaxes vkept vax vay vaz cpx cpy cpz cplane caxis cwas cways ckeptWas ckeptWays ckeptPoints cnextWas cnextWays cnowWas cnowWays cto) H := fr_pre hP
          have hDx : va_D (fun q : Nat => s.heap.size ≤ q) (w_M qM q_px q_py q_pz q_plane q_axis q_was q_ways q_keptWas q_keptWays q_keptPoints q_nextWas q_nextWays q_nowWas q_nowWays q_to cI vthrown vpoints vplanes vaxes vkept vax vay vaz cpx cpy cpz cplane caxis cwas cways ckeptWas ckeptWays ckeptPoints cnextWas cnextWays cnowWas cnowWays cto) := fr_preD hD
          have hFx : ∀ q, va_A (w_M qM q_px q_py q_pz q_plane q_axis q_was q_ways q_keptWas q_keptWays q_keptPoints q_nextWas q_nextWays q_nowWas q_nowWays q_to cI vthrown vpoints vplanes vaxes vkept vax vay vaz cpx cpy cpz cplane caxis cwas cways ckeptWas ckeptWays ckeptPoints cnextWas cnextWays cnowWas cnowWays cto) H.size q → s.heap.size ≤ q := fr_free (A0 := fun q : Nat => s.heap.size ≤ q) hD hS hA
          refine va_calli (va_runV (As := [.int x1]) (rest := [.int r]) ⟨hx, hb, hml, hown, ht⟩ (c_M_back l dC dI qM q_px q_py q_pz q_plane q_axis q_was q_ways q_keptWas q_keptWays q_keptPoints q_nextWas q_nextWays q_nowWas q_nowWays q_to cI cJ cQ H.size vthrown vpoints vplanes vaxes vkept vax vay vaz cpx cpy cpz cplane caxis cwas cways ckeptWas ckeptWays ckeptPoints cnextWas cnextWays cnowWas cnowWays cto x1 r p_vthrown p_cwas p_cways  hfm) (cwV 1 ht (gV m_585 m_586 m_587 m_31 m_588) rfl rfl rfl (by decide +kernel) ⟨Nat.le_of_ble_eq_true rfl, Nat.le_of_ble_eq_true rfl⟩) (preMV hPx hK hZ hDx (va_recv hK hPx (ci := 3) (q0 := 0) rfl rfl)) rfl rfl hl.1 rfl (lv_room (Nat.le_of_ble_eq_true rfl)) d_L_626 hrm) hS (fun q _ h => hFx q h) hFx (fun r2 u tt H1 locs ht9 hvm hw hB hz1 hk1 hS => ?_)
          obtain ⟨hP1, hD1⟩ := hB
          rw [ht9] at hP1
          subst hw
          have hPD := fr_join (a1 := (w_M qM q_px q_py q_pz q_plane q_axis q_was q_ways q_keptWas q_keptWays q_keptPoints q_nextWas q_nextWays q_nowWas q_nowWays q_to cI p_vthrown vpoints vplanes vaxes vkept vax vay vaz cpx cpy cpz cplane caxis p_cwas p_cways ckeptWas ckeptWays ckeptPoints cnextWas cnextWays cnowWas cnowWays cto)) hP hD hk1 hFx hP1 hD1
          obtain ⟨hP, hD⟩ := hPD
          clear hPx hDx hFx hP1 hD1 hz1 hk1 ht9 hvm
          generalize H1 = H at hP hS ⊢
          refine W.widen (k := 40 + 3 * t) (n := 4000 + 122 * t) (Nat.le_refl _) (Nat.le_refl _) ?_
          have hP := fr_perm fr_rot2.symm hP
          have hD := fr_permD fr_rot2.symm hD
          refine lv_icmp_eq (tgt := 634) hx hb d_L_629 (by decide) (fun _ => ?_) (fun c9 => absurd rfl c9)
          exact next k ky ko kt KO KT nA nK nP nQ bX bY bZ bA bB bC bD bS sT nO nT rO rT sO sP tG kQ kP p_vthrown vpoints vplanes vaxes vkept vax vay vaz cpx cpy cpz cplane caxis p_cwas p_cways ckeptWas ckeptWays ckeptPoints cnextWas cnextWays cnowWas cnowWays cto hR2 hkp H locs hP hD hS ls hl
        by_cases h2 : x1 < nK
        · skip
          have hix := op_ix hR h1 h2
          by_cases h3 : (kQ x1.toNatClampNeg) = nP
          · obtain ⟨rz, o_nO, o_nT, p_vthrown, p_cwas, p_cways, hfx, hfm, hR2⟩ := op_back_yes hR vthrown x1 h1 h2 h3
            obtain ⟨wz, hwz⟩ := kp_pool_at (cI := cI) (ky := ky) (ko := ko) (kt := kt) (KO := KO) (KT := KT) hix
            have hP : va_P (dC, dI) vwCl ((w_XKY qX qB qSt qN qR qS qTg qKp qKq qBx qBy qBz qBa qBb qBc qBd qBs qNo qNt qRo qRt qSo qSp (ky x1.toNatClampNeg) (ko x1.toNatClampNeg) (kt x1.toNatClampNeg) cI cJ cQ nA nK nP nQ bX bY bZ bA bB bC bD bS sT nO nT rO rT sO sP tG kQ kP (KO x1.toNatClampNeg) (KT x1.toNatClampNeg)) ++ ((w_M qM q_px q_py q_pz q_plane q_axis q_was q_ways q_keptWas q_keptWays q_keptPoints q_nextWas q_nextWays q_nowWas q_nowWays q_to cI vthrown vpoints vplanes vaxes vkept vax vay vaz cpx cpy cpz cplane caxis cwas cways ckeptWas ckeptWays ckeptPoints cnextWas cnextWays cnowWas cnowWays cto) ++ wz)) H := fr_perm (fr_back hwz) hP
            have hD : va_D (fun q : Nat => s.heap.size ≤ q) ((w_XKY qX qB qSt qN qR qS qTg qKp qKq qBx qBy qBz qBa qBb qBc qBd qBs qNo qNt qRo qRt qSo qSp (ky x1.toNatClampNeg) (ko x1.toNatClampNeg) (kt x1.toNatClampNeg) cI cJ cQ nA nK nP nQ bX bY bZ bA bB bC bD bS sT nO nT rO rT sO sP tG kQ kP (KO x1.toNatClampNeg) (KT x1.toNatClampNeg)) ++ ((w_M qM q_px q_py q_pz q_plane q_axis q_was q_ways q_keptWas q_keptWays q_keptPoints q_nextWas q_nextWays q_nowWas q_nowWays q_to cI vthrown vpoints vplanes vaxes vkept vax vay vaz cpx cpy cpz cplane caxis cwas cways ckeptWas ckeptWays ckeptPoints cnextWas cnextWays cnowWas cnowWays cto) ++ wz)) := fr_permD (fr_back hwz) hD
            have hPx : va_P (dC, dI) vwCl (w_XKY qX qB qSt qN qR qS qTg qKp qKq qBx qBy qBz qBa qBb qBc qBd qBs qNo qNt qRo qRt qSo qSp (ky x1.toNatClampNeg) (ko x1.toNatClampNeg) (kt x1.toNatClampNeg) cI cJ cQ nA nK nP nQ bX bY bZ bA bB bC bD bS sT nO nT rO rT sO sP tG kQ kP (KO x1.toNatClampNeg) (KT x1.toNatClampNeg)) H := fr_pre hP
            have hDx : va_D (fun q : Nat => s.heap.size ≤ q) (w_XKY qX qB qSt qN qR qS qTg qKp qKq qBx qBy qBz qBa qBb qBc qBd qBs qNo qNt qRo qRt qSo qSp (ky x1.toNatClampNeg) (ko x1.toNatClampNeg) (kt x1.toNatClampNeg) cI cJ cQ nA nK nP nQ bX bY bZ bA bB bC bD bS sT nO nT rO rT sO sP tG kQ kP (KO x1.toNatClampNeg) (KT x1.toNatClampNeg)) := fr_preD hD
            have hFx : ∀ q, va_A (w_XKY qX qB qSt qN qR qS qTg qKp qKq qBx qBy qBz qBa qBb qBc qBd qBs qNo qNt qRo qRt qSo qSp (ky x1.toNatClampNeg) (ko x1.toNatClampNeg) (kt x1.toNatClampNeg) cI cJ cQ nA nK nP nQ bX bY bZ bA bB bC bD bS sT nO nT rO rT sO sP tG kQ kP (KO x1.toNatClampNeg) (KT x1.toNatClampNeg)) H.size q → s.heap.size ≤ q := fr_free (A0 := fun q : Nat => s.heap.size ≤ q) hD hS hA
            refine va_calli (va_runV (As := [.int x1]) (rest := []) ⟨hx, hb, hml, hown, ht⟩ (c_X_back_yes l dC dI qX qB qSt qN qR qS qTg qKp qKq qBx qBy qBz qBa qBb qBc qBd qBs qNo qNt qRo qRt qSo qSp (ky x1.toNatClampNeg) (ko x1.toNatClampNeg) (kt x1.toNatClampNeg) cI cJ cQ H.size nA nK nP nQ bX bY bZ bA bB bC bD bS sT nO nT rO rT sO sP tG kQ kP (KO x1.toNatClampNeg) (KT x1.toNatClampNeg) x1 rz o_nO o_nT h1 h2 (hkp _ hix) h3 hfx) (cwV 1 ht (gV m_336 m_337 m_338 m_28 m_339) rfl rfl rfl (by decide +kernel) ⟨Nat.le_of_ble_eq_true rfl, Nat.le_of_ble_eq_true rfl⟩) (preMV hPx hK hZ hDx (va_recv hK hPx (ci := 2) (q0 := 0) rfl rfl)) rfl rfl hl.1 rfl (lv_room (Nat.le_of_ble_eq_true rfl)) d_L_617 hrm) hS (fun q _ h => hFx q h) hFx (fun r u tt H1 locs ht9 hvm hw hB hz1 hk1 hS => ?_)
            obtain ⟨hP1, hD1⟩ := hB
            rw [ht9] at hP1
            subst hw
            have hPD := fr_join (a1 := ((w_X qX qB qSt qN qR qS qTg qKp qKq qBx qBy qBz qBa qBb qBc qBd qBs qNo qNt qRo qRt qSo qSp cI cJ nA nK nP nQ bX bY bZ bA bB bC bD bS sT o_nO o_nT rO rT sO sP tG kQ) ++ ([(qKp, .inl (cQ, 10, .inr (.inr (.inr (.inr kP)))))] ++ kp_c cI ky ko kt KO KT x1.toNatClampNeg))) hP hD hk1 hFx hP1 hD1
            obtain ⟨hP, hD⟩ := hPD
            clear hPx hDx hFx hP1 hD1 hz1 hk1 ht9 hvm
            generalize H1 = H at hP hS ⊢
            refine W.widen (k := 40 + 3 * t) (n := 4000 + 122 * t) (Nat.le_refl _) (Nat.le_refl _) ?_
            have hP := fr_perm (fr_back hwz).symm hP
            have hD := fr_permD (fr_back hwz).symm hD
            refine lv_aload_n hx hb d_L_620 rfl (lv_at hl 2 rfl) ?_
            refine lv_aload_n hx hb d_L_621 rfl (lv_at hl 0 rfl) ?_
            refine lv_iload_n hx hb d_L_622 rfl (lv_at hl 3 rfl) ?_
            refine lv_iconst (v := 1) hx hb d_L_623 (by decide) ?_
            refine lv_iadd hx hb d_L_624 ?_
            refine va_sld hx hb hX hbl hbA hS hi_1 d_L_625 ?_
            rw [← ex1]
            have hP := fr_perm fr_rot2 hP
            have hD := fr_permD fr_rot2 hD
            have hPx : va_P (dC, dI) vwCl (w_M qM q_px q_py q_pz q_plane q_axis q_was q_ways q_keptWas q_keptWays q_keptPoints q_nextWas q_nextWays q_nowWas q_nowWays q_to cI vthrown vpoints vplanes vaxes vkept vax vay vaz cpx cpy cpz cplane caxis cwas cways ckeptWas ckeptWays ckeptPoints cnextWas cnextWays cnowWas cnowWays cto) H := fr_pre hP
            have hDx : va_D (fun q : Nat => s.heap.size ≤ q) (w_M qM q_px q_py q_pz q_plane q_axis q_was q_ways q_keptWas q_keptWays q_keptPoints q_nextWas q_nextWays q_nowWas q_nowWays q_to cI vthrown vpoints vplanes vaxes vkept vax vay vaz cpx cpy cpz cplane caxis cwas cways ckeptWas ckeptWays ckeptPoints cnextWas cnextWays cnowWas cnowWays cto) := fr_preD hD
            have hFx : ∀ q, va_A (w_M qM q_px q_py q_pz q_plane q_axis q_was q_ways q_keptWas q_keptWays q_keptPoints q_nextWas q_nextWays q_nowWas q_nowWays q_to cI vthrown vpoints vplanes vaxes vkept vax vay vaz cpx cpy cpz cplane caxis cwas cways ckeptWas ckeptWays ckeptPoints cnextWas cnextWays cnowWas cnowWays cto) H.size q → s.heap.size ≤ q := fr_free (A0 := fun q : Nat => s.heap.size ≤ q) hD hS hA
            refine va_calli (va_runV (As := [.int x1]) (rest := [.int r]) ⟨hx, hb, hml, hown, ht⟩ (c_M_back l dC dI qM q_px q_py q_pz q_plane q_axis q_was q_ways q_keptWas q_keptWays q_keptPoints q_nextWas q_nextWays q_nowWas q_nowWays q_to cI cJ cQ H.size vthrown vpoints vplanes vaxes vkept vax vay vaz cpx cpy cpz cplane caxis cwas cways ckeptWas ckeptWays ckeptPoints cnextWas cnextWays cnowWas cnowWays cto x1 r p_vthrown p_cwas p_cways  hfm) (cwV 1 ht (gV m_585 m_586 m_587 m_31 m_588) rfl rfl rfl (by decide +kernel) ⟨Nat.le_of_ble_eq_true rfl, Nat.le_of_ble_eq_true rfl⟩) (preMV hPx hK hZ hDx (va_recv hK hPx (ci := 3) (q0 := 0) rfl rfl)) rfl rfl hl.1 rfl (lv_room (Nat.le_of_ble_eq_true rfl)) d_L_626 hrm) hS (fun q _ h => hFx q h) hFx (fun r2 u tt H1 locs ht9 hvm hw hB hz1 hk1 hS => ?_)
            obtain ⟨hP1, hD1⟩ := hB
            rw [ht9] at hP1
            subst hw
            have hPD := fr_join (a1 := (w_M qM q_px q_py q_pz q_plane q_axis q_was q_ways q_keptWas q_keptWays q_keptPoints q_nextWas q_nextWays q_nowWas q_nowWays q_to cI p_vthrown vpoints vplanes vaxes vkept vax vay vaz cpx cpy cpz cplane caxis p_cwas p_cways ckeptWas ckeptWays ckeptPoints cnextWas cnextWays cnowWas cnowWays cto)) hP hD hk1 hFx hP1 hD1
            obtain ⟨hP, hD⟩ := hPD
            clear hPx hDx hFx hP1 hD1 hz1 hk1 ht9 hvm
            generalize H1 = H at hP hS ⊢
            refine W.widen (k := 40 + 3 * t) (n := 4000 + 122 * t) (Nat.le_refl _) (Nat.le_refl _) ?_
            have hP := fr_perm fr_rot2.symm hP
            have hD := fr_permD fr_rot2.symm hD
            refine lv_icmp_eq (tgt := 634) hx hb d_L_629 (by decide) (fun _ => ?_) (fun c9 => absurd rfl c9)
            exact next k ky ko kt KO KT nA nK nP nQ bX bY bZ bA bB bC bD bS sT o_nO o_nT rO rT sO sP tG kQ kP p_vthrown vpoints vplanes vaxes vkept vax vay vaz cpx cpy cpz cplane caxis p_cwas p_cways ckeptWas ckeptWays ckeptPoints cnextWas cnextWays cnowWas cnowWays cto hR2 hkp H locs hP hD hS ls hl
          · skip
            have hP0 := hP
            have hP : va_P (dC, dI) vwCl ((w_XK qX qB qSt qN qR qS qTg qKp qKq qBx qBy qBz qBa qBb qBc qBd qBs qNo qNt qRo qRt qSo qSp cI cJ cQ nA nK nP nQ bX bY bZ bA bB bC bD bS sT nO nT rO rT sO sP tG kQ kP) ++ ((w_M qM q_px q_py q_pz q_plane q_axis q_was q_ways q_keptWas q_keptWays q_keptPoints q_nextWas q_nextWays q_nowWas q_nowWays q_to cI vthrown vpoints vplanes vaxes vkept vax vay vaz cpx cpy cpz cplane caxis cwas cways ckeptWas ckeptWays ckeptPoints cnextWas cnextWays cnowWas cnowWays cto) ++ kp_pool cI k ky ko kt KO KT)) H := by rw [← List.append_assoc] at hP; exact hP
            obtain ⟨rz, p_vthrown, p_cwas, p_cways, hfx, hfm, hR2⟩ := op_back_came hR vthrown x1 h1 h2 h3
            have hPx : va_P (dC, dI) vwCl (w_XK qX qB qSt qN qR qS qTg qKp qKq qBx qBy qBz qBa qBb qBc qBd qBs qNo qNt qRo qRt qSo qSp cI cJ cQ nA nK nP nQ bX bY bZ bA bB bC bD bS sT nO nT rO rT sO sP tG kQ kP) H := fr_pre hP
            refine vp_callSi (va_runV (As := [.int x1]) (rest := []) ⟨hx, hb, hml, hown, ht⟩ (c_X_back_came l dC dI qX qB qSt qN qR qS qTg qKp qKq qBx qBy qBz qBa qBb qBc qBd qBs qNo qNt qRo qRt qSo qSp _ cI cJ cQ nA nK nP nQ bX bY bZ bA bB bC bD bS sT nO nT rO rT sO sP tG kQ kP x1 rz h1 h2 (hkp _ hix) h3 hfx) (cwV 1 ht (gV m_336 m_337 m_338 m_28 m_339) rfl rfl rfl (by decide +kernel) ⟨Nat.le_of_ble_eq_true rfl, Nat.le_of_ble_eq_true rfl⟩) (preRV hPx hK hZ (va_recv hK hPx (ci := 2) (q0 := 0) rfl rfl)) rfl rfl hl.1 rfl (lv_room (Nat.le_of_ble_eq_true rfl)) d_L_617 hrm).run (fun r hw => ?_)
            subst hw
            clear hPx
            have hP := hP0
            refine lv_aload_n hx hb d_L_620 rfl (lv_at hl 2 rfl) ?_
            refine lv_aload_n hx hb d_L_621 rfl (lv_at hl 0 rfl) ?_
            refine lv_iload_n hx hb d_L_622 rfl (lv_at hl 3 rfl) ?_
            refine lv_iconst (v := 1) hx hb d_L_623 (by decide) ?_
            refine lv_iadd hx hb d_L_624 ?_
            refine va_sld hx hb hX hbl hbA hS hi_1 d_L_625 ?_
            rw [← ex1]
            have hP := fr_perm fr_rot2 hP
            have hD := fr_permD fr_rot2 hD
            have hPx : va_P (dC, dI) vwCl (w_M qM q_px q_py q_pz q_plane q_axis q_was q_ways q_keptWas q_keptWays q_keptPoints q_nextWas q_nextWays q_nowWas q_nowWays q_to cI vthrown vpoints vplanes vaxes vkept vax vay vaz cpx cpy cpz cplane caxis cwas cways ckeptWas ckeptWays ckeptPoints cnextWas cnextWays cnowWas cnowWays cto) H := fr_pre hP
            have hDx : va_D (fun q : Nat => s.heap.size ≤ q) (w_M qM q_px q_py q_pz q_plane q_axis q_was q_ways q_keptWas q_keptWays q_keptPoints q_nextWas q_nextWays q_nowWas q_nowWays q_to cI vthrown vpoints vplanes vaxes vkept vax vay vaz cpx cpy cpz cplane caxis cwas cways ckeptWas ckeptWays ckeptPoints cnextWas cnextWays cnowWas cnowWays cto) := fr_preD hD
            have hFx : ∀ q, va_A (w_M qM q_px q_py q_pz q_plane q_axis q_was q_ways q_keptWas q_keptWays q_keptPoints q_nextWas q_nextWays q_nowWas q_nowWays q_to cI vthrown vpoints vplanes vaxes vkept vax vay vaz cpx cpy cpz cplane caxis cwas cways ckeptWas ckeptWays ckeptPoints cnextWas cnextWays cnowWas cnowWays cto) H.size q → s.heap.size ≤ q := fr_free (A0 := fun q : Nat => s.heap.size ≤ q) hD hS hA
            refine va_calli (va_runV (As := [.int x1]) (rest := [.int r]) ⟨hx, hb, hml, hown, ht⟩ (c_M_back l dC dI qM q_px q_py q_pz q_plane q_axis q_was q_ways q_keptWas q_keptWays q_keptPoints q_nextWas q_nextWays q_nowWas q_nowWays q_to cI cJ cQ H.size vthrown vpoints vplanes vaxes vkept vax vay vaz cpx cpy cpz cplane caxis cwas cways ckeptWas ckeptWays ckeptPoints cnextWas cnextWays cnowWas cnowWays cto x1 r p_vthrown p_cwas p_cways  hfm) (cwV 1 ht (gV m_585 m_586 m_587 m_31 m_588) rfl rfl rfl (by decide +kernel) ⟨Nat.le_of_ble_eq_true rfl, Nat.le_of_ble_eq_true rfl⟩) (preMV hPx hK hZ hDx (va_recv hK hPx (ci := 3) (q0 := 0) rfl rfl)) rfl rfl hl.1 rfl (lv_room (Nat.le_of_ble_eq_true rfl)) d_L_626 hrm) hS (fun q _ h => hFx q h) hFx (fun r2 u tt H1 locs ht9 hvm hw hB hz1 hk1 hS => ?_)
            obtain ⟨hP1, hD1⟩ := hB
            rw [ht9] at hP1
            subst hw
            have hPD := fr_join (a1 := (w_M qM q_px q_py q_pz q_plane q_axis q_was q_ways q_keptWas q_keptWays q_keptPoints q_nextWas q_nextWays q_nowWas q_nowWays q_to cI p_vthrown vpoints vplanes vaxes vkept vax vay vaz cpx cpy cpz cplane caxis p_cwas p_cways ckeptWas ckeptWays ckeptPoints cnextWas cnextWays cnowWas cnowWays cto)) hP hD hk1 hFx hP1 hD1
            obtain ⟨hP, hD⟩ := hPD
            clear hPx hDx hFx hP1 hD1 hz1 hk1 ht9 hvm
            generalize H1 = H at hP hS ⊢
            refine W.widen (k := 40 + 3 * t) (n := 4000 + 122 * t) (Nat.le_refl _) (Nat.le_refl _) ?_
            have hP := fr_perm fr_rot2.symm hP
            have hD := fr_permD fr_rot2.symm hD
            refine lv_icmp_eq (tgt := 634) hx hb d_L_629 (by decide) (fun _ => ?_) (fun c9 => absurd rfl c9)
            exact next k ky ko kt KO KT nA nK nP nQ bX bY bZ bA bB bC bD bS sT nO nT rO rT sO sP tG kQ kP p_vthrown vpoints vplanes vaxes vkept vax vay vaz cpx cpy cpz cplane caxis p_cwas p_cways ckeptWas ckeptWays ckeptPoints cnextWas cnextWays cnowWas cnowWays cto hR2 hkp H locs hP hD hS ls hl
        · skip
          obtain ⟨rz, p_vthrown, p_cwas, p_cways, hfx, hfm, hR2⟩ := op_back_big hR vthrown x1 h1 h2
          have hPx : va_P (dC, dI) vwCl (w_X qX qB qSt qN qR qS qTg qKp qKq qBx qBy qBz qBa qBb qBc qBd qBs qNo qNt qRo qRt qSo qSp cI cJ nA nK nP nQ bX bY bZ bA bB bC bD bS sT nO nT rO rT sO sP tG kQ) H := fr_pre hP
          refine vp_callSi (va_runV (As := [.int x1]) (rest := []) ⟨hx, hb, hml, hown, ht⟩ (c_X_back_big l dC dI qX qB qSt qN qR qS qTg qKp qKq qBx qBy qBz qBa qBb qBc qBd qBs qNo qNt qRo qRt qSo qSp cI cJ cQ nA nK nP nQ bX bY bZ bA bB bC bD bS sT nO nT rO rT sO sP tG kQ x1 rz h1 h2 hfx) (cwV 1 ht (gV m_336 m_337 m_338 m_28 m_339) rfl rfl rfl (by decide +kernel) ⟨Nat.le_of_ble_eq_true rfl, Nat.le_of_ble_eq_true rfl⟩) (preRV hPx hK hZ (va_recv hK hPx (ci := 2) (q0 := 0) rfl rfl)) rfl rfl hl.1 rfl (lv_room (Nat.le_of_ble_eq_true rfl)) d_L_617 hrm).run (fun r hw => ?_)
          subst hw
          clear hPx
          refine lv_aload_n hx hb d_L_620 rfl (lv_at hl 2 rfl) ?_
          refine lv_aload_n hx hb d_L_621 rfl (lv_at hl 0 rfl) ?_
          refine lv_iload_n hx hb d_L_622 rfl (lv_at hl 3 rfl) ?_
          refine lv_iconst (v := 1) hx hb d_L_623 (by decide) ?_
          refine lv_iadd hx hb d_L_624 ?_
          refine va_sld hx hb hX hbl hbA hS hi_1 d_L_625 ?_
          rw [← ex1]
          have hP := fr_perm fr_rot2 hP
          have hD := fr_permD fr_rot2 hD
          have hPx : va_P (dC, dI) vwCl (w_M qM q_px q_py q_pz q_plane q_axis q_was q_ways q_keptWas q_keptWays q_keptPoints q_nextWas q_nextWays q_nowWas q_nowWays q_to cI vthrown vpoints vplanes vaxes vkept vax vay vaz cpx cpy cpz cplane caxis cwas cways ckeptWas ckeptWays ckeptPoints cnextWas cnextWays cnowWas cnowWays cto) H := fr_pre hP
          have hDx : va_D (fun q : Nat => s.heap.size ≤ q) (w_M qM q_px q_py q_pz q_plane q_axis q_was q_ways q_keptWas q_keptWays q_keptPoints q_nextWas q_nextWays q_nowWas q_nowWays q_to cI vthrown vpoints vplanes vaxes vkept vax vay vaz cpx cpy cpz cplane caxis cwas cways ckeptWas ckeptWays ckeptPoints cnextWas cnextWays cnowWas cnowWays cto) := fr_preD hD
          have hFx : ∀ q, va_A (w_M qM q_px q_py q_pz q_plane q_axis q_was q_ways q_keptWas q_keptWays q_keptPoints q_nextWas q_nextWays q_nowWas q_nowWays q_to cI vthrown vpoints vplanes vaxes vkept vax vay vaz cpx cpy cpz cplane caxis cwas cways ckeptWas ckeptWays ckeptPoints cnextWas cnextWays cnowWas cnowWays cto) H.size q → s.heap.size ≤ q := fr_free (A0 := fun q : Nat => s.heap.size ≤ q) hD hS hA
          refine va_calli (va_runV (As := [.int x1]) (rest := [.int r]) ⟨hx, hb, hml, hown, ht⟩ (c_M_back l dC dI qM q_px q_py q_pz q_plane q_axis q_was q_ways q_keptWas q_keptWays q_keptPoints q_nextWas q_nextWays q_nowWas q_nowWays q_to cI cJ cQ H.size vthrown vpoints vplanes vaxes vkept vax vay vaz cpx cpy cpz cplane caxis cwas cways ckeptWas ckeptWays ckeptPoints cnextWas cnextWays cnowWas cnowWays cto x1 r p_vthrown p_cwas p_cways  hfm) (cwV 1 ht (gV m_585 m_586 m_587 m_31 m_588) rfl rfl rfl (by decide +kernel) ⟨Nat.le_of_ble_eq_true rfl, Nat.le_of_ble_eq_true rfl⟩) (preMV hPx hK hZ hDx (va_recv hK hPx (ci := 3) (q0 := 0) rfl rfl)) rfl rfl hl.1 rfl (lv_room (Nat.le_of_ble_eq_true rfl)) d_L_626 hrm) hS (fun q _ h => hFx q h) hFx (fun r2 u tt H1 locs ht9 hvm hw hB hz1 hk1 hS => ?_)
          obtain ⟨hP1, hD1⟩ := hB
          rw [ht9] at hP1
          subst hw
          have hPD := fr_join (a1 := (w_M qM q_px q_py q_pz q_plane q_axis q_was q_ways q_keptWas q_keptWays q_keptPoints q_nextWas q_nextWays q_nowWas q_nowWays q_to cI p_vthrown vpoints vplanes vaxes vkept vax vay vaz cpx cpy cpz cplane caxis p_cwas p_cways ckeptWas ckeptWays ckeptPoints cnextWas cnextWays cnowWas cnowWays cto)) hP hD hk1 hFx hP1 hD1
          obtain ⟨hP, hD⟩ := hPD
          clear hPx hDx hFx hP1 hD1 hz1 hk1 ht9 hvm
          generalize H1 = H at hP hS ⊢
          refine W.widen (k := 40 + 3 * t) (n := 4000 + 122 * t) (Nat.le_refl _) (Nat.le_refl _) ?_
          have hP := fr_perm fr_rot2.symm hP
          have hD := fr_permD fr_rot2.symm hD
          refine lv_icmp_eq (tgt := 634) hx hb d_L_629 (by decide) (fun _ => ?_) (fun c9 => absurd rfl c9)
          exact next k ky ko kt KO KT nA nK nP nQ bX bY bZ bA bB bC bD bS sT nO nT rO rT sO sP tG kQ kP p_vthrown vpoints vplanes vaxes vkept vax vay vaz cpx cpy cpz cplane caxis p_cwas p_cways ckeptWas ckeptWays ckeptPoints cnextWas cnextWays cnowWas cnowWays cto hR2 hkp H locs hP hD hS ls hl
      | j + 18, hj =>
        refine lv_tableOut (tgt := 634) hx hb d_L_32 (Or.inr (by rw [nI_toInt (by omega)]; omega)) (by decide) ?_
        exact next k ky ko kt KO KT nA nK nP nQ bX bY bZ bA bB bC bD bS sT nO nT rO rT sO sP tG kQ kP vthrown vpoints vplanes vaxes vkept vax vay vaz cpx cpy cpz cplane caxis cwas cways ckeptWas ckeptWays ckeptPoints cnextWas cnextWays cnowWas cnowWays cto hR hkp H locs hP hD hS ls hl

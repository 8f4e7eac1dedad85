/-! a row of turns: free or blocked, on both sides -/
abbrev I3 := Int32 × Int32 × Int32
section Rows
variable {n m a N r : Nat} {nA nP nQ vp vq va : Int32} {bX bY bZ bA bB bC bD sT cx cy cz pl ca : AR} {bS : Nat → Int64}
def FreeT (n : Nat) (nP vp : Int32) (bX bY bZ : AR) (bS : Nat → Int64) (sT cx cy cz pl ca : AR) (i k0 : Nat) (tg : AR) (ρ c : Nat → Nat) : Prop :=
  sT i = nI k0 ∧ (∀ tG, ∃ tG', f_X_findTargets nP bX bY bZ bS sT tG (nI i) (nI i) = some (-1, tG') ∧ ∀ p, p < n → tG' p = tg p) ∧ (∀ a0 : I3, ∃ c0 : I3, f_M_blocked vp a0.1 a0.2.1 a0.2.2 cx cy cz pl ca (nI i) (nI i) = some (0, c0)) ∧ (∀ sl, sl < 14 → ∀ (a0 : I3) (ct : AR), ∃ c0 : I3, f_M_plan vp a0.1 a0.2.1 a0.2.2 cx cy cz pl ca ct (nI sl) (nI i) (nI i) = some (c0.1, c0.2.1, c0.2.2, cpyTo ct (60 * sl) tg n)) ∧ okM n ρ c ∧ StX n k0 nP tg ρ c ∧ StM n i vp ca tg ρ c
def BlkT (nP vp : Int32) (bX bY bZ : AR) (bS : Nat → Int64) (sT cx cy cz pl ca : AR) (i : Nat) : Prop := (∀ tG, ∃ v tG', ¬ v = (-1 : Int32) ∧ f_X_findTargets nP bX bY bZ bS sT tG (nI i) (nI i) = some (v, tG')) ∧ ∀ a0 : I3, ∃ (v : Int32) (c0 : I3), ¬ v ≤ 0 ∧ f_M_blocked vp a0.1 a0.2.1 a0.2.2 cx cy cz pl ca (nI i) (nI i) = some (v, c0)
abbrev DT := Nat × AR × (Nat → Nat) × (Nat → Nat)
theorem dich (hP : RelP n nP bX bY bZ vp cx cy cz) (hQ : RelQ m nQ bA bB bC bD vq pl) (hS : RelS n m bS cx cy cz pl) (hA : RelA a nA sT va ca) {i : Nat} (hi : i < a) (hm : i < m) : BlkT nP vp bX bY bZ bS sT cx cy cz pl ca i ∨ ∃ d : DT, FreeT n nP vp bX bY bZ bS sT cx cy cz pl ca i d.1 d.2.1 d.2.2.1 d.2.2.2 := by
  have hn : n ≤ 60 := hP.2.2.1
  obtain ⟨kw, r, T, F, hkw, es, r1, hf, hb, hI, hIn, hg⟩ := law_ij hP hQ hS hA hi hm
  by_cases hr : r < n
  · left
    refine ⟨fun tG => ?_, fun a0 => ?_⟩
    · obtain ⟨tG', f1, -⟩ := hf tG
      rw [if_pos hr] at f1
      exact ⟨nI r, tG', nI_neg1 (by omega), f1⟩
    · obtain ⟨c0, b1⟩ := hb a0
      rw [if_pos hr] at b1
      exact ⟨nI (r + 1), c0, nI_ge (a := 0) (by omega) (by omega), b1⟩
  · right
    obtain ⟨hG, hpl, ρ, c, hok, hX, hM⟩ := hg hr
    refine ⟨(kw, tgv (fun p => sdN cx cy cz pl p i) T, ρ, c), es, fun tG => ?_, fun a0 => ?_, hpl, hok, hX, hM⟩
    · obtain ⟨tG', f1, f2⟩ := hf tG
      rw [if_neg hr] at f1
      exact ⟨tG', f1, f2 hr⟩
    · obtain ⟨c0, b1⟩ := hb a0
      rw [if_neg hr] at b1
      exact ⟨c0, b1⟩
def rowR (D : Nat → DT) : Nat → Nat → Nat
  | 0, q => q
  | i + 1, q => rowR D i ((D i).2.2.1 q)
def rowC (D : Nat → DT) : Nat → Nat → Nat
  | 0, _ => 0
  | i + 1, q => cmpN ((D i).2.2.2 q) (rowC D i ((D i).2.2.1 q))
def FreeD (n : Nat) (nP vp : Int32) (bX bY bZ : AR) (bS : Nat → Int64) (sT cx cy cz pl ca : AR) (D : Nat → DT) (r : Nat) : Prop := ∀ i, i < r → FreeT n nP vp bX bY bZ bS sT cx cy cz pl ca i (D i).1 (D i).2.1 (D i).2.2.1 (D i).2.2.2
theorem row_ok {D : Nat → DT} (hD : FreeD n nP vp bX bY bZ bS sT cx cy cz pl ca D r) : ∀ i, i ≤ r → okM n (rowR D i) (rowC D i) := by
  intro i
  induction i with
  | zero => intro _; exact ok_id n
  | succ i ih =>
    intro hi
    exact ok_comp (ρ := rowR D i) (c := rowC D i) (ρ2 := (D i).2.2.1) (c2 := (D i).2.2.2) (ih (by omega)) (hD i (by omega)).2.2.2.2.1
theorem row_free (hP : RelP n nP bX bY bZ vp cx cy cz) (hQ : RelQ m nQ bA bB bC bD vq pl) (hS : RelS n m bS cx cy cz pl) (hA : RelA a nA sT va ca) (h1 : N ≤ a) (h2 : N ≤ m) : ∃ (r : Nat) (D : Nat → DT), r ≤ N ∧ FreeD n nP vp bX bY bZ bS sT cx cy cz pl ca D r ∧ (r < N → BlkT nP vp bX bY bZ bS sT cx cy cz pl ca r) := by
  have hdec : DecidablePred (fun i => ¬ ∃ d : DT, FreeT n nP vp bX bY bZ bS sT cx cy cz pl ca i d.1 d.2.1 d.2.2.1 d.2.2.2) := fun p => Classical.propDecidable _
  obtain ⟨r, r1, r2, r3⟩ := least_ex (fun i => ¬ ∃ d : DT, FreeT n nP vp bX bY bZ bS sT cx cy cz pl ca i d.1 d.2.1 d.2.2.1 d.2.2.2) N
  have hx : ∀ i, ∃ d : DT, i < r → FreeT n nP vp bX bY bZ bS sT cx cy cz pl ca i d.1 d.2.1 d.2.2.1 d.2.2.2 := by
    intro i
    by_cases hi : i < r
    · obtain ⟨d, hd⟩ := Classical.not_not.mp (r2 i hi)
      exact ⟨d, fun _ => hd⟩
    · exact ⟨(0, fun _ => 0, fun _ => 0, fun _ => 0), fun h => absurd h hi⟩
  obtain ⟨D, hD⟩ := Classical.skolem.mp hx
  refine ⟨r, D, r1, hD, fun hr => ?_⟩
  rcases dich hP hQ hS hA (show r < a by omega) (show r < m by omega) with hb | hb
  · exact hb
  · exact absurd hb (r3 hr)
theorem rowX (hN : N ≤ 13) (hr : r ≤ N) {D : Nat → DT} (hD : FreeD n nP vp bX bY bZ bS sT cx cy cz pl ca D r) {hO hW : AR} (w0 : okW n hW) : ∀ d i, i + d = r → ∀ fuel, d < fuel → ∀ rO rT sO sP tG : AR, PB n (rowR D i) (rowC D i) hO hW rO rT → ∃ (rO' rT' sO' sP' tG' : AR) (g : Nat), oLoop6 (f_X_rounds_L35 nA nP nQ bX bY bZ bS sT (nI N)) fuel (nI i) rO rT sO sP tG = f_X_rounds_L35 nA nP nQ bX bY bZ bS sT (nI N) (oLoop6 (f_X_rounds_L35 nA nP nQ bX bY bZ bS sT (nI N)) g) (nI r) rO' rT' sO' sP' tG' ∧ PB n (rowR D r) (rowC D r) hO hW rO' rT' := by
  intro d
  induction d with
  | zero =>
    intro i hi fuel hf rO rT sO sP tG hp
    obtain ⟨g, rfl⟩ : ∃ g, fuel = g + 1 := ⟨fuel - 1, by omega⟩
    obtain rfl : i = r := by omega
    exact ⟨rO, rT, sO, sP, tG, g, rfl, hp⟩
  | succ d ih =>
    intro i hi fuel hf rO rT sO sP tG hp
    obtain ⟨g, rfl⟩ : ∃ g, fuel = g + 1 := ⟨fuel - 1, by omega⟩
    obtain ⟨es, hf1, -, -, hok, hX, -⟩ := hD i (by omega)
    have hri := row_ok hD i (by omega)
    obtain ⟨tG1, f1, f2⟩ := hf1 tG
    obtain ⟨sO1, sP1, rO1, rT1, e1, p1⟩ := hX sO sP tG1 rO rT f2 (pb_okW hri hp w0)
    have hcc := pb_comp hri hok w0 hp p1
    obtain ⟨rO', rT', sO', sP', tG', g', q1, q2⟩ := ih (i + 1) (by omega) g (by omega) rO1 rT1 sO1 sP1 tG1 hcc
    refine ⟨rO', rT', sO', sP', tG', g', ?_, q2⟩
    rw [← q1]
    show f_X_rounds_L35 _ _ _ _ _ _ _ _ _ _ _ _ _ _ _ _ = _
    simp only [f_X_rounds_L35]
    rw [if_neg (nI_ge (by omega) (by omega)), f1, oCall2_t, if_pos rfl, oIn_n (by omega) (by omega), nI_clamp (by omega), es, e1, oCall4_t, oLet_t, nI_1]
theorem blkM (hN : N ≤ 13) (hr : r ≤ N) {D : Nat → DT} (hD : FreeD n nP vp bX bY bZ bS sT cx cy cz pl ca D r) (cwas cways nW nY now nowY ct : AR) : ∀ d i, i + d = r → ∀ fuel, d < fuel → ∀ a0 : I3, ∃ (a1 : I3) (g : Nat), oLoop4 (f_M_rounds_L36 vp vq va cx cy cz pl ca (nI N) 0 cwas cways nW nY now nowY ct) fuel (nI i) a0.1 a0.2.1 a0.2.2 = f_M_rounds_L36 vp vq va cx cy cz pl ca (nI N) 0 cwas cways nW nY now nowY ct (oLoop4 (f_M_rounds_L36 vp vq va cx cy cz pl ca (nI N) 0 cwas cways nW nY now nowY ct) g) (nI r) a1.1 a1.2.1 a1.2.2 := by
  intro d
  induction d with
  | zero =>
    intro i hi fuel hf a0
    obtain ⟨g, rfl⟩ : ∃ g, fuel = g + 1 := ⟨fuel - 1, by omega⟩
    obtain rfl : i = r := by omega
    exact ⟨a0, g, rfl⟩
  | succ d ih =>
    intro i hi fuel hf a0
    obtain ⟨g, rfl⟩ : ∃ g, fuel = g + 1 := ⟨fuel - 1, by omega⟩
    obtain ⟨-, -, hb, -⟩ := hD i (by omega)
    obtain ⟨c0, b1⟩ := hb a0
    obtain ⟨a1, g', q1⟩ := ih (i + 1) (by omega) g (by omega) c0
    refine ⟨a1, g', ?_⟩
    rw [← q1]
    show f_M_rounds_L36 _ _ _ _ _ _ _ _ _ _ _ _ _ _ _ _ _ _ _ _ _ _ = _
    simp only [f_M_rounds_L36]
    rw [if_neg (nI_ge (by omega) (by omega)), b1, oCall4_t, if_pos (by decide), oLet_t, nI_1]
theorem planM (hn : n ≤ 60) (hN : N ≤ 13) {D : Nat → DT} (hD : FreeD n nP vp bX bY bZ bS sT cx cy cz pl ca D N) (cwas cways nW nY now nowY : AR) : ∀ d i, i + d = N → ∀ fuel, d < fuel → ∀ (a0 : I3) (ct : AR), (∀ j, j < i → ∀ p, p < n → ct (60 * j + p) = (D j).2.1 p) → ∃ (a1 : I3) (ct1 : AR) (g : Nat), oLoop5 (f_M_rounds_L60 vp vq va cx cy cz pl ca (nI N) 0 cwas cways nW nY now nowY) fuel (nI i) a0.1 a0.2.1 a0.2.2 ct = f_M_rounds_L60 vp vq va cx cy cz pl ca (nI N) 0 cwas cways nW nY now nowY (oLoop5 (f_M_rounds_L60 vp vq va cx cy cz pl ca (nI N) 0 cwas cways nW nY now nowY) g) (nI N) a1.1 a1.2.1 a1.2.2 ct1 ∧ ∀ j, j < N → ∀ p, p < n → ct1 (60 * j + p) = (D j).2.1 p := by
  intro d
  induction d with
  | zero =>
    intro i hi fuel hf a0 ct hct
    obtain ⟨g, rfl⟩ : ∃ g, fuel = g + 1 := ⟨fuel - 1, by omega⟩
    obtain rfl : i = N := by omega
    exact ⟨a0, ct, g, rfl, hct⟩
  | succ d ih =>
    intro i hi fuel hf a0 ct hct
    obtain ⟨g, rfl⟩ : ∃ g, fuel = g + 1 := ⟨fuel - 1, by omega⟩
    obtain ⟨-, -, -, hpl, -⟩ := hD i (by omega)
    obtain ⟨c0, b1⟩ := hpl i (by omega) a0 ct
    obtain ⟨a1, ct1, g', q1, q2⟩ := ih (i + 1) (by omega) g (by omega) c0 (cpyTo ct (60 * i) (D i).2.1 n) (by
      intro j hj p hp
      by_cases e : j = i
      · rw [e]; exact cpyTo_in hp
      · rw [cpyTo_out (by omega)]; exact hct j (by omega) p hp)
    refine ⟨a1, ct1, g', ?_, q2⟩
    rw [← q1]
    show f_M_rounds_L60 _ _ _ _ _ _ _ _ _ _ _ _ _ _ _ _ _ _ _ _ _ _ = _
    simp only [f_M_rounds_L60]
    rw [if_neg (nI_ge (by omega) (by omega)), b1, oCall4_t, oLet_t, nI_1]
theorem fM_isNow (hn : n ≤ 60) (eV : vp = nI n) (w v w' v' : AR) : ∃ b : Int32, f_M_isNow vp w v w' v' = some b ∧ (b = 0 ↔ ¬ ∀ q, q < n → w q = w' q ∧ v q = v' q) := by
  have hdec : DecidablePred (fun q => ¬ (w q = w' q ∧ v q = v' q)) := fun p => Classical.propDecidable _
  obtain ⟨r, r1, r2, r3⟩ := least_ex (fun q => ¬ (w q = w' q ∧ v q = v' q)) n
  have r2' : ∀ j, j < r → w j = w' j ∧ v j = v' j := fun j hj => Classical.not_not.mp (r2 j hj)
  refine ⟨if r < n then 0 else 1, ?_, ?_⟩
  · unfold f_M_isNow
    refine loop1_run (f := f_M_isNow_L2 vp w v w' v') (n := r) (fuel := 100) (fun j => nI j) _ ?_ ?_ (by omega)
    · intro rec
      simp only [f_M_isNow_L2]
      by_cases hr : r < n
      · rw [if_neg (by rw [eV]; exact nI_ge hr (by omega)), oIn_n (by omega) (by omega), oIn_n (by omega) (by omega), nI_clamp (by omega), if_pos hr]
        by_cases e1 : w r = w' r
        · rw [if_pos e1, oIn_n (by omega) (by omega), oIn_n (by omega) (by omega), if_neg (fun e2 => r3 hr ⟨e1, e2⟩)]
        · rw [if_neg e1]
      · rw [if_pos (by rw [eV]; exact nI_le (by omega) (by omega)), if_neg hr]
    · intro rec j hj
      obtain ⟨e1, e2⟩ := r2' j hj
      simp only [f_M_isNow_L2, oLet_t]
      rw [if_neg (by rw [eV]; exact nI_ge (by omega) (by omega)), oIn_n (by omega) (by omega), oIn_n (by omega) (by omega), nI_clamp (by omega), if_pos e1, oIn_n (by omega) (by omega), oIn_n (by omega) (by omega), if_pos e2, nI_1]
  · by_cases hr : r < n
    · rw [if_pos hr]
      exact ⟨fun _ h => r3 hr (h r hr), fun _ => rfl⟩
    · rw [if_neg hr]
      exact ⟨fun h => absurd h (by decide), fun h => absurd (fun q hq => r2' q (by omega)) h⟩
theorem now_iff {R C : Nat → Nat} (hok : okM n R C) {w0 v0 w v now nowY : AR} (hinj : ∀ p q, p < n → q < n → w0 p = w0 q → p = q) (hv0 : okW n v0) (hnow : ∀ q, q < n → now q = w0 q ∧ nowY q = v0 q) (k : Nat) (hp : PB n (itR R k) (itC R C k) w0 v0 w v) : (∀ q, q < n → w q = now q ∧ v q = nowY q) ↔ AllBack n R C k := by
  constructor
  · intro h q hq
    obtain ⟨h1, h2⟩ := h q hq
    obtain ⟨lk, lc⟩ := (it_ok hok k).1 q hq
    rw [(hp q hq).1, (hnow q hq).1] at h1
    have e1 := hinj _ _ lk hq h1
    obtain ⟨t, ht, e2⟩ := hv0 q hq
    have h3 := (hp q hq).2 t ht (by rw [e1]; exact e2)
    rw [h3, (hnow q hq).2, e2] at h2
    exact ⟨e1, cmp_can lc ht ((nI_eq (by have := cmp_lt lc ht; omega) (by omega)).mp h2)⟩
  · intro h q hq
    obtain ⟨e1, e2⟩ := h q hq
    obtain ⟨t, ht, e3⟩ := hv0 q hq
    have h3 := (hp q hq).2 t ht (by rw [e1]; exact e3)
    rw [e2, (cmp_id t ht).1] at h3
    exact ⟨by rw [(hp q hq).1, e1, (hnow q hq).1], by rw [h3, (hnow q hq).2, e3]⟩
theorem rowM (hN : N ≤ 13) {D : Nat → DT} (hD : FreeD n nP vp bX bY bZ bS sT cx cy cz pl ca D N) {ct now nowY : AR} (hct : ∀ j, j < N → ∀ p, p < n → ct (60 * j + p) = (D j).2.1 p) {wk vk : AR} (hvk : okW n vk) : ∀ d i, i + d = N → ∀ fuel, d < fuel → ∀ (a0 : I3) (w v nW nY : AR), PB n (rowR D i) (rowC D i) wk vk w v → ∃ (a1 : I3) (w' v' nW' nY' : AR), PB n (rowR D N) (rowC D N) wk vk w' v' ∧ ∀ (r122 : Int32 → Int32 → Int32 → Int32 → Int32 → AR → AR → AR → AR → Option (Int32 × Int32 × Int32 × Int32 × Int32 × AR × AR × AR × AR × AR × AR × AR)) (k : Nat) (b : Int32), f_M_isNow vp w' v' now nowY = some b → oLoop8 (f_M_rounds_L136 r122 vp vq va cx cy cz pl ca (nI N) 0 now nowY ct (nI k)) fuel (nI i) a0.1 a0.2.1 a0.2.2 w v nW nY = r122 (nI (k + 1)) b a1.1 a1.2.1 a1.2.2 w' v' nW' nY' := by
  intro d
  induction d with
  | zero =>
    intro i hi fuel hf a0 w v nW nY hp
    obtain ⟨g, rfl⟩ : ∃ g, fuel = g + 1 := ⟨fuel - 1, by omega⟩
    obtain rfl : i = N := by omega
    refine ⟨a0, w, v, nW, nY, hp, fun r122 k b hb => ?_⟩
    show f_M_rounds_L136 _ _ _ _ _ _ _ _ _ _ _ _ _ _ _ _ _ _ _ _ _ _ _ _ = _
    simp only [f_M_rounds_L136, oLet_t]
    rw [if_pos (nI_le (Nat.le_refl _) (by omega)), hb, oCall1_t, nI_1]
  | succ d ih =>
    intro i hi fuel hf a0 w v nW nY hp
    obtain ⟨g, rfl⟩ : ∃ g, fuel = g + 1 := ⟨fuel - 1, by omega⟩
    obtain ⟨-, -, -, -, hok, -, hM⟩ := hD i (by omega)
    have hri := row_ok hD i (by omega)
    obtain ⟨c1, w1, v1, nW1, nY1, e1, p1⟩ := hM i (by omega) ct (hct i (by omega)) a0 w v nW nY (pb_okW hri hp hvk)
    have hcc := pb_comp hri hok hvk hp p1
    obtain ⟨a1, w', v', nW', nY', q1, q2⟩ := ih (i + 1) (by omega) g (by omega) c1 w1 v1 nW1 nY1 hcc
    refine ⟨a1, w', v', nW', nY', q1, fun r122 k b hb => ?_⟩
    rw [← q2 r122 k b hb]
    show f_M_rounds_L136 _ _ _ _ _ _ _ _ _ _ _ _ _ _ _ _ _ _ _ _ _ _ _ _ = _
    simp only [f_M_rounds_L136, oLet_t]
    rw [if_neg (nI_ge (by omega) (by omega)), e1, oCall7_t, nI_1]
theorem backM (hn : n ≤ 60) (eV : vp = nI n) (x1 x2 x3 a1 a2 a3 : Int32) (w v nW nY now nowY ct : AR) : f_M_rounds_J167 vp vq va cx cy cz pl ca x2 x3 0 a1 a2 a3 w v nW nY now nowY ct = some (if x3 = 0 then -1 else x2, 0, a1, a2, a3, cpyTo w 0 now n, cpyTo v 0 nowY n, nW, nY, now, nowY, ct) := by
  unfold f_M_rounds_J167
  have h := loop3_run (f := f_M_rounds_L170 vp vq va cx cy cz pl ca x2 x3 0 a1 a2 a3 nW nY now nowY ct) (n := n) (fuel := 2100) (fun j => nI j) (fun j => cpyTo w 0 now j) (fun j => cpyTo v 0 nowY j) (if x3 = 0 then -1 else x2, 0, a1, a2, a3, cpyTo w 0 now n, cpyTo v 0 nowY n, nW, nY, now, nowY, ct) ?_ ?_ (by omega)
  · rw [cpyTo_0, cpyTo_0] at h; exact h
  · intro rec
    simp only [f_M_rounds_L170]
    rw [if_pos (by rw [eV]; exact nI_le (Nat.le_refl _) (by omega))]
    by_cases e : x3 = 0
    · rw [if_pos e, if_pos e]
    · rw [if_neg e, if_neg e]
  · intro rec p hp
    simp only [f_M_rounds_L170, oLet_t]
    rw [if_neg (by rw [eV]; exact nI_ge hp (by omega)), oIn_n (by omega) (by omega), oIn_n (by omega) (by omega), oIn_n (by omega) (by omega), oIn_n (by omega) (by omega), nI_clamp (by omega), nI_1, cpy0_s, cpy0_s]
theorem rowsM (hn : n ≤ 60) (hN : N ≤ 13) (eV : vp = nI n) {D : Nat → DT} (hD : FreeD n nP vp bX bY bZ bS sT cx cy cz pl ca D N) {ct now nowY : AR} (hct : ∀ j, j < N → ∀ p, p < n → ct (60 * j + p) = (D j).2.1 p) {w0 v0 : AR} (hinj : ∀ p q, p < n → q < n → w0 p = w0 q → p = q) (hv0 : okW n v0) (hnow : ∀ q, q < n → now q = w0 q ∧ nowY q = v0 q) {E : Nat} {res : Int32} (hE2 : E ≤ 2000) (hlt : ∀ k, 1 ≤ k → k < E → ¬ AllBack n (rowR D N) (rowC D N) k) (hE : (AllBack n (rowR D N) (rowC D N) E ∧ res = nI E) ∨ (¬ AllBack n (rowR D N) (rowC D N) E ∧ E = 2000 ∧ res = -1)) (hE1 : 1 ≤ E) : ∀ d k, k + d = E → ∀ fuel, d < fuel → ∀ (b : Int32) (a0 : I3) (w v nW nY : AR), PB n (itR (rowR D N) k) (itC (rowR D N) (rowC D N) k) w0 v0 w v → (k = 0 → b = 0) → (1 ≤ k → (b = 0 ↔ ¬ AllBack n (rowR D N) (rowC D N) k)) → ∃ (a1 : I3) (w' v' nW' nY' : AR), oLoop9 (f_M_rounds_L122 vp vq va cx cy cz pl ca (nI N) 0 now nowY ct) fuel (nI k) b a0.1 a0.2.1 a0.2.2 w v nW nY = some (res, 0, a1.1, a1.2.1, a1.2.2, cpyTo w' 0 now n, cpyTo v' 0 nowY n, nW', nY', now, nowY, ct) := by
  have hok := row_ok hD N (Nat.le_refl _)
  intro d
  induction d with
  | zero =>
    intro k hk fuel hf b a0 w v nW nY hp hb0 hb1
    obtain ⟨g, rfl⟩ : ∃ g, fuel = g + 1 := ⟨fuel - 1, by omega⟩
    obtain rfl : k = E := by omega
    refine ⟨a0, w, v, nW, nY, ?_⟩
    show f_M_rounds_L122 _ _ _ _ _ _ _ _ _ _ _ _ _ _ _ _ _ _ _ _ _ _ _ = _
    simp only [f_M_rounds_L122]
    rcases hE with ⟨h1, h2⟩ | ⟨h1, h2, h3⟩
    · have e : ¬ b = 0 := fun e => (hb1 hE1).mp e h1
      rw [if_neg e, backM hn eV 0, if_neg e, h2]
    · have e : b = 0 := (hb1 hE1).mpr h1
      rw [if_pos e, if_pos (by rw [h2]; decide), backM hn eV 0, if_pos e, h3]
  | succ d ih =>
    intro k hk fuel hf b a0 w v nW nY hp hb0 hb1
    obtain ⟨g, rfl⟩ : ∃ g, fuel = g + 1 := ⟨fuel - 1, by omega⟩
    have e : b = 0 := by
      by_cases k0 : k = 0
      · exact hb0 k0
      · exact (hb1 (by omega)).mpr (hlt k (by omega) (by omega))
    have hik := it_ok hok k
    obtain ⟨a1, w1, v1, nW1, nY1, p1, q1⟩ := rowM (vq := vq) (va := va) (now := now) (nowY := nowY) hN hD hct (pb_okW hik hp hv0) N 0 (by omega) 2100 (by omega) a0 w v nW nY (pb_id n w v)
    have hcc := pb_comp hik hok hv0 hp p1
    have hp1 : PB n (itR (rowR D N) (k + 1)) (itC (rowR D N) (rowC D N) (k + 1)) w0 v0 w1 v1 := hcc
    obtain ⟨b1, c1, c2⟩ := fM_isNow hn eV w1 v1 now nowY
    rw [now_iff hok hinj hv0 hnow (k + 1) hp1] at c2
    obtain ⟨a2, w2, v2, nW2, nY2, q2⟩ := ih (k + 1) (by omega) g (by omega) b1 a1 w1 v1 nW1 nY1 hp1 (fun h => by omega) (fun _ => c2)
    refine ⟨a2, w2, v2, nW2, nY2, ?_⟩
    rw [← q2, ← q1 (oLoop9 (f_M_rounds_L122 vp vq va cx cy cz pl ca (nI N) 0 now nowY ct) g) k b1 c1]
    show f_M_rounds_L122 _ _ _ _ _ _ _ _ _ _ _ _ _ _ _ _ _ _ _ _ _ _ _ = _
    simp only [f_M_rounds_L122]
    rw [if_pos e, if_neg (show ¬ (2000 : Int32) ≤ nI k from nI_ge (b := 2000) (by omega) (by omega))]
    rfl
end Rows

/-! a point comes on both sides, or on neither -/
theorem nI_ne {a b : Nat} (ha : a < 2 ^ 31) (hb : b < 2 ^ 31) (h : a ≠ b) : ¬ nI a = nI b := fun e => h ((nI_eq ha hb).mp e)
theorem add_both {n m : Nat} {nP nQ vp vq : Int32} {bX bY bZ bA bB bC bD cx cy cz pl : Nat → Int32} {bS : Nat → Int64} (hP : RelP n nP bX bY bZ vp cx cy cz) (hQ : RelQ m nQ bA bB bC bD vq pl) (hS : RelS n m bS cx cy cz pl) {x1 x2 x3 : Int32} (h1 : ¬ (x1 < -9 ∨ 9 < x1)) (h2 : ¬ (x2 < -9 ∨ 9 < x2)) (h3 : ¬ (x3 < -9 ∨ 9 < x3)) :
    (f_B_addPoint nP nQ bX bY bZ bA bB bC bD bS x1 x2 x3 = some (-1, nP, bX, bY, bZ, bS) ∧ f_M_add vp cx cy cz x1 x2 x3 = some (0, vp, cx, cy, cz)) ∨
    (n < 60 ∧ ∃ (bX' bY' bZ' cx' cy' cz' : Nat → Int32) (bS' : Nat → Int64), f_B_addPoint nP nQ bX bY bZ bA bB bC bD bS x1 x2 x3 = some (nI n, nI (n + 1), bX', bY', bZ', bS') ∧ f_M_add vp cx cy cz x1 x2 x3 = some (1, nI (n + 1), cx', cy', cz') ∧ RelP (n + 1) (nI (n + 1)) bX' bY' bZ' (nI (n + 1)) cx' cy' cz' ∧ RelS (n + 1) m bS' cx' cy' cz' pl) := by
  obtain ⟨r, r1, r2, r3, eB, eM⟩ := pt_both hP x1 x2 x3
  obtain ⟨eP, eV, hn, hp, hd⟩ := id hP
  obtain ⟨eQ, eW, hm, hq⟩ := hQ
  have w1 := wi_ok (k := 9) (fun h => h1 (Or.inl h)) (fun h => h1 (Or.inr h))
  have w2 := wi_ok (k := 9) (fun h => h2 (Or.inl h)) (fun h => h2 (Or.inr h))
  have w3 := wi_ok (k := 9) (fun h => h3 (Or.inl h)) (fun h => h3 (Or.inr h))
  by_cases hr : r < n
  · left
    rw [if_pos hr] at eB eM
    constructor
    · simp only [f_B_addPoint, w1, w2, w3, oCall1_t, eB]
      rw [if_neg (by decide), if_neg (by decide), if_neg (by decide), if_neg (nI_neg1 (by omega))]
      split <;> rfl
    · simp only [f_M_add, eM, oCall1_t]
      rw [if_pos (nI_pos' (by omega))]
  · rw [if_neg hr] at eB eM
    by_cases hf : n = 60
    · left
      constructor
      · simp only [f_B_addPoint, w1, w2, w3, oCall1_t]
        rw [if_neg (by decide), if_neg (by decide), if_neg (by decide), if_pos (by rw [eP, hf]; decide)]
      · simp only [f_M_add, eM, oCall1_t]
        rw [if_neg (by decide), if_pos (by rw [eV, hf]; rfl)]
    · right
      have hn' : n < 60 := by omega
      refine ⟨hn', upd bX n x1, upd bY n x2, upd bZ n x3, upd cx n x1, upd cy n x2, upd cz n x3, vp_updL bS n (lN (sdS (sdN (upd cx n x1) (upd cy n x2) (upd cz n x3) pl n) m)), ?_, ?_, ?_, ?_⟩
      · simp only [f_B_addPoint, w1, w2, w3, oCall1_t, eB]
        rw [if_neg (by decide), if_neg (by decide), if_neg (by decide), if_neg (by rw [eP]; exact nI_ge (b := 60) hn' (by omega)), if_pos trivial, eP, oIn_n hn' (by omega), oLet_t, oIn_n hn' (by omega), oLet_t, oIn_n hn' (by omega), oLet_t, oLet_t, nI_clamp (by omega), nI_1, eQ]
        refine fB_pointLoop hn' hm (upd bX n x1) (upd bY n x2) (upd bZ n x3) bA bB bC bD bS _ (sdN_lt _ _ _ _ n) (hS.2 n (Nat.le_refl n) hn') (fun q hq2 => ?_) (nI n) (nI (n + 1)) rfl
        unfold sdN
        rw [upd_at, upd_at, upd_at, if_pos rfl, if_pos rfl, if_pos rfl, upd_at, upd_at, upd_at, if_pos rfl, if_pos rfl, if_pos rfl, (hq q hq2).1, (hq q hq2).2.1, (hq q hq2).2.2.1, (hq q hq2).2.2.2.1]
      · simp only [f_M_add, eM, oCall1_t]
        rw [if_neg (by decide), if_neg (by rw [eV]; exact nI_ne (b := 60) (by omega) (by omega) hf), eV, oIn_n hn' (by omega), oLet_t, oIn_n hn' (by omega), oLet_t, oIn_n hn' (by omega), oLet_t, oLet_t, nI_clamp (by omega), nI_1]
      · refine ⟨rfl, rfl, by omega, fun p hp2 => ?_, fun p q hp2 hq2 e1 e2 e3 => ?_⟩
        · by_cases e : p = n
          · subst e
            simp only [upd_at, if_true]
            exact ⟨trivial, trivial, trivial, sm9_of (fun h => h1 (Or.inl h)) (fun h => h1 (Or.inr h)), sm9_of (fun h => h2 (Or.inl h)) (fun h => h2 (Or.inr h)), sm9_of (fun h => h3 (Or.inl h)) (fun h => h3 (Or.inr h))⟩
          · simp only [upd_at, if_neg e]
            exact hp p (by omega)
        · have hno : ∀ j, j < n → ¬ (cx j = x1 ∧ cy j = x2 ∧ cz j = x3) := fun j hj => r2 j (by omega)
          simp only [upd_at] at e1 e2 e3
          by_cases e : p = n <;> by_cases e' : q = n
          · omega
          · rw [if_pos e, if_neg e'] at e1 e2 e3
            exact absurd ⟨e1.symm, e2.symm, e3.symm⟩ (hno q (by omega))
          · rw [if_neg e, if_pos e'] at e1 e2 e3
            exact absurd ⟨e1, e2, e3⟩ (hno p (by omega))
          · rw [if_neg e, if_neg e'] at e1 e2 e3
            exact hd p q (by omega) (by omega) e1 e2 e3
      · refine ⟨fun p hp2 => ?_, fun p hp2 hp3 => ?_⟩
        · rw [updL_at]
          by_cases e : p = n
          · rw [if_pos e, e]
          · rw [if_neg e, hS.1 p (by omega)]
            congr 1
            refine sdS_congr (fun q _ => ?_)
            unfold sdN
            rw [upd_at, upd_at, upd_at, if_neg e, if_neg e, if_neg e]
        · rw [updL_at, if_neg (by omega)]
          exact hS.2 p (by omega) hp3
theorem fA_fill (v : Nat → Int32) : f_A_fill v 0 = some (cpyTo v 0 (fun _ => 0) 60) := by
  unfold f_A_fill
  have h := loop2_run (f := f_A_fill_L5 0 60) (n := 60) (fuel := 100) (fun i => nI i) (fun i => cpyTo v 0 (fun _ => 0) i) (cpyTo v 0 (fun _ => 0) 60) ?_ ?_ (by omega)
  · rw [cpyTo_0] at h; exact h
  · intro rec
    simp only [f_A_fill_L5]
    rw [if_pos (show (60 : Int32) ≤ nI 60 by decide)]
  · intro rec i hi
    simp only [f_A_fill_L5, oLet_t]
    have := cpyTo_s v (fun _ => 0) 0 i
    rw [Nat.zero_add] at this
    rw [if_neg (show ¬ (60 : Int32) ≤ nI i from nI_ge (b := 60) hi (by omega)), oIn_n hi (by omega), nI_clamp (by omega), nI_1, this]
theorem fC_home (o t : Nat → Int32) : f_C_putAllHome o t = some (cpyTo o 0 nI 60, cpyTo t 0 (fun _ => 0) 60) := by
  unfold f_C_putAllHome
  have h := loop2_run (f := f_C_putAllHome_L2 t) (n := 60) (fuel := 100) (fun i => nI i) (fun i => cpyTo o 0 nI i) (cpyTo o 0 nI 60, cpyTo t 0 (fun _ => 0) 60) ?_ ?_ (by omega)
  · rw [cpyTo_0] at h; exact h
  · intro rec
    simp only [f_C_putAllHome_L2]
    rw [if_pos (show (60 : Int32) ≤ nI 60 by decide), fA_fill, oCall1_t]
  · intro rec i hi
    simp only [f_C_putAllHome_L2, oLet_t]
    have := cpyTo_s o nI 0 i
    rw [Nat.zero_add] at this
    rw [if_neg (show ¬ (60 : Int32) ≤ nI i from nI_ge (b := 60) hi (by omega)), oIn_n hi (by omega), nI_clamp (by omega), nI_1, this]
theorem fM_own {n : Nat} (hn : n ≤ 60) (o t : Nat → Int32) : f_M_own (nI n) o t = some (cpyTo o 0 nI n, cpyTo t 0 (fun _ => 0) n) := by
  unfold f_M_own
  have h := loop3_run (f := f_M_own_L2 (nI n)) (n := n) (fuel := 100) (fun i => nI i) (fun i => cpyTo o 0 nI i) (fun i => cpyTo t 0 (fun _ => 0) i) (cpyTo o 0 nI n, cpyTo t 0 (fun _ => 0) n) ?_ ?_ (by omega)
  · rw [cpyTo_0, cpyTo_0] at h; exact h
  · intro rec
    simp only [f_M_own_L2]
    rw [if_pos (nI_le (Nat.le_refl n) (by omega))]
  · intro rec i hi
    simp only [f_M_own_L2, oLet_t]
    have s1 := cpyTo_s o nI 0 i
    have s2 := cpyTo_s t (fun _ => 0) 0 i
    rw [Nat.zero_add] at s1 s2
    rw [if_neg (nI_ge hi (by omega)), oIn_n (by omega) (by omega), oIn_n (by omega) (by omega), nI_clamp (by omega), nI_1, s1, s2]
theorem relC_home {n : Nat} (hn : n ≤ 60) (o t w v : Nat → Int32) : RelC n (cpyTo o 0 nI 60) (cpyTo t 0 (fun _ => 0) 60) (cpyTo w 0 nI n) (cpyTo v 0 (fun _ => 0) n) := by
  have a1 : ∀ (f g : Nat → Int32) (i p : Nat), p < i → cpyTo f 0 g i p = g p := fun f g i p h => by
    have := cpyTo_in (f := f) (g := g) (b := 0) h
    rw [Nat.zero_add] at this; exact this
  refine ⟨fun p hp => ?_, fun p q hp hq e => ?_⟩
  · rw [a1 o nI 60 p (by omega), a1 t (fun _ => 0) 60 p (by omega), a1 w nI n p hp, a1 v (fun _ => 0) n p hp]
    exact ⟨rfl, rfl, ⟨p, hp, rfl⟩, 0, by omega, rfl⟩
  · rw [a1 w nI n p hp, a1 w nI n q hq] at e
    exact (nI_eq (by omega) (by omega)).mp e
theorem relK_grow {n n' k : Nat} {nK vk : Int32} {kQ : Nat → Int32} {KO KT : Nat → Nat → Int32} {a b c : Nat → Int32} (h : RelK n k nK kQ KO KT vk a b c) (hn : n ≤ n') : RelK n' k nK kQ KO KT vk a b c :=
  ⟨h.1, h.2.1, h.2.2.1, fun j hj => by obtain ⟨c, h1, h2⟩ := h.2.2.2 j hj; exact ⟨c, by omega, h2⟩⟩
/-! pieces -/
theorem cntN_t {P : Nat → Prop} [DecidablePred P] {i : Nat} (h : P i) : cntN P (i + 1) = cntN P i + 1 := by show cntN P i + (if P i then 1 else 0) = _; rw [if_pos h]
theorem cntN_f {P : Nat → Prop} [DecidablePred P] {i : Nat} (h : ¬ P i) : cntN P (i + 1) = cntN P i := by show cntN P i + (if P i then 1 else 0) = _; rw [if_neg h]; rfl
theorem lg_cmp0 (a b : Int64) : lg_cmp a b = 0 ↔ a = b := by
  unfold lg_cmp
  constructor
  · intro h
    by_cases h1 : b < a
    · rw [if_pos h1] at h; exact absurd h (by decide)
    · rw [if_neg h1] at h
      by_cases h2 : a = b
      · exact h2
      · rw [if_neg h2] at h; exact absurd h (by decide)
  · intro h
    subst h
    rw [if_neg (fun h => Int64.lt_irrefl h), if_pos rfl]
/-- alike: the same sides to the first m planes -/
def alk (s : Nat → Nat → Nat) (m i j : Nat) : Prop := sdS (s i) m = sdS (s j) m
theorem fB_least {n m p r : Nat} (hn : n ≤ 60) (hm : m ≤ 20) (hp : p < n) {bS : Nat → Int64} {s : Nat → Nat → Nat} (hs : ∀ i q, s i q < 3) (h : ∀ i, i < n → bS i = lN (sdS (s i) m)) (h1 : r ≤ p) (h2 : ∀ j, j < r → ¬ alk s m j p) (h3 : r < p → alk s m r p) : f_B_leastAlike bS (nI p) = some (nI r) := by
  have hlt : ∀ i, sdS (s i) m < 2 ^ 63 := fun i => by have := sdS_small (hs i) hm; omega
  unfold f_B_leastAlike
  refine loop1_run (n := r) (fun i => nI i) _ ?_ ?_ (by omega)
  · intro rec
    simp only [f_B_leastAlike_L2]
    by_cases e : r < p
    · rw [if_neg (nI_ge e (by omega)), oIn_n (by omega) (by omega), oIn_n (by omega) (by omega), nI_clamp (by omega), nI_clamp (by omega), if_pos ((lg_cmp0 _ _).mpr (by rw [h r (by omega), h p hp, h3 e]))]
    · obtain rfl : r = p := by omega
      rw [if_pos (nI_le (Nat.le_refl _) (by omega))]
  · intro rec i hi
    simp only [f_B_leastAlike_L2, oLet_t]
    rw [if_neg (nI_ge (show i < p by omega) (by omega)), oIn_n (by omega) (by omega), oIn_n (by omega) (by omega), nI_clamp (by omega), nI_clamp (by omega), if_neg (fun q => h2 i hi ?_), nI_1]
    have := (lg_cmp0 _ _).mp q
    rw [h i (by omega), h p hp] at this
    exact (pk_lEQ (hlt i) (hlt p)).mp this
theorem fM_alike {n m i j : Nat} (hm : m ≤ 20) (hi : i < 60) (hj : j < 60) (px py pz pl : Nat → Int32) : ∃ b : Int32, f_M_isAlike (nI m) px py pz pl (nI i) (nI j) = some b ∧ (b = 0 ↔ ¬ alk (fun p => sdN px py pz pl p) m i j) := by
  have hin : alk (fun p => sdN px py pz pl p) m i j ↔ ∀ q, q < m → sdN px py pz pl i q = sdN px py pz pl j q := sdS_inj (sdN_lt _ _ _ _ i) (sdN_lt _ _ _ _ j) m
  obtain ⟨r, r1, r2, r3⟩ := least_ex (fun q => ¬ sdN px py pz pl i q = sdN px py pz pl j q) m
  have l3 : ∀ p q, sdN px py pz pl p q < 2 ^ 31 := fun p q => by have := sdN_lt px py pz pl p q; omega
  refine ⟨if r < m then 0 else 1, ?_, ?_⟩
  · unfold f_M_isAlike
    refine loop1_run (n := r) (fun q => nI q) _ ?_ ?_ (by omega)
    · intro rec
      simp only [f_M_isAlike_L2]
      by_cases e : r < m
      · rw [if_neg (nI_ge e (by omega)), fM_sideOf hi (by omega), oCall1_t, fM_sideOf hj (by omega), oCall1_t, if_neg (nI_ne (l3 _ _) (l3 _ _) (r3 e)), if_pos e]
      · rw [if_pos (nI_le (by omega) (by omega)), if_neg e]
    · intro rec q hq
      simp only [f_M_isAlike_L2, oLet_t]
      have e : sdN px py pz pl i q = sdN px py pz pl j q := Decidable.not_not.mp (r2 q hq)
      rw [if_neg (nI_ge (show q < m by omega) (by omega)), fM_sideOf hi (by omega), oCall1_t, fM_sideOf hj (by omega), oCall1_t, if_pos (by rw [e]), nI_1]
  · rw [hin]
    by_cases e : r < m
    · rw [if_pos e]
      exact ⟨fun _ h => r3 e (h r e), fun _ => rfl⟩
    · rw [if_neg e]
      exact ⟨fun h => absurd h (by decide), fun h => absurd (fun q hq => Decidable.not_not.mp (r2 q (by omega))) h⟩
theorem fM_least {m p r : Nat} (hm : m ≤ 20) (hp : p < 60) (px py pz pl : Nat → Int32) (h1 : r ≤ p) (h2 : ∀ j, j < r → ¬ alk (fun p => sdN px py pz pl p) m j p) (h3 : alk (fun p => sdN px py pz pl p) m r p) : f_M_leastOf (nI m) px py pz pl (nI p) = some (nI r) := by
  unfold f_M_leastOf
  refine loop1_run (n := r) (fun i => nI i) _ ?_ ?_ (by omega)
  · intro rec
    simp only [f_M_leastOf_L2]
    obtain ⟨b, e1, e2⟩ := fM_alike (n := 60) hm hp (show r < 60 by omega) px py pz pl
    rw [e1, oCall1_t, if_neg (fun q => (e2.mp q) h3.symm)]
  · intro rec i hi
    simp only [f_M_leastOf_L2, oLet_t]
    obtain ⟨b, e1, e2⟩ := fM_alike (n := 60) hm hp (show i < 60 by omega) px py pz pl
    rw [e1, oCall1_t, if_pos (e2.mpr (fun q => h2 i hi q.symm)), nI_1]
theorem fB_pieces {n m x : Nat} (hn : n ≤ 60) (hm : m ≤ 20) (hx : x ≤ n) {bS : Nat → Int64} {s : Nat → Nat → Nat} (hs : ∀ i q, s i q < 3) (h : ∀ i, i < n → bS i = lN (sdS (s i) m)) : f_B_piecesBefore bS (nI x) = some (nI (cntN (fun p => ∀ j, j < p → ¬ sdS (s j) m = sdS (s p) m) x)) := by
  unfold f_B_piecesBefore
  refine loop2_run (n := x) (fun i => nI (cntN (fun p => ∀ j, j < p → ¬ sdS (s j) m = sdS (s p) m) i)) (fun i => nI i) _ ?_ ?_ (by omega)
  · intro rec
    simp only [f_B_piecesBefore_L4]
    rw [if_pos (nI_le (Nat.le_refl _) (by omega))]
  · intro rec i hi
    simp only [f_B_piecesBefore_L4, f_B_piecesBefore_J21, oLet_t]
    obtain ⟨r, r1, r2, r3⟩ := least_ex (fun j => sdS (s j) m = sdS (s i) m) i
    rw [if_neg (nI_ge hi (by omega)), fB_least hn hm (show i < n by omega) hs h r1 r2 r3, oCall1_t]
    by_cases e : r = i
    · have hp : ∀ j, j < i → ¬ sdS (s j) m = sdS (s i) m := fun j hj => r2 j (by omega)
      rw [if_pos (by rw [e]), nI_1, nI_1]
      rw [cntN_t hp]
    · have hp : ¬ ∀ j, j < i → ¬ sdS (s j) m = sdS (s i) m := fun q => q r (by omega) (r3 (by omega))
      rw [if_neg (nI_ne (by omega) (by omega) e), nI_1]
      rw [cntN_f hp]
      try simp
theorem fM_pieces {n m x : Nat} (hn : n ≤ 60) (hm : m ≤ 20) (hx : x ≤ n) (px py pz pl : Nat → Int32) : f_M_piecesTo (nI m) px py pz pl (nI x) = some (nI (cntN (fun p => ∀ j, j < p → ¬ sdS (sdN px py pz pl j) m = sdS (sdN px py pz pl p) m) x)) := by
  unfold f_M_piecesTo
  refine loop2_run (n := x) (fun i => nI (cntN (fun p => ∀ j, j < p → ¬ sdS (sdN px py pz pl j) m = sdS (sdN px py pz pl p) m) i)) (fun i => nI i) _ ?_ ?_ (by omega)
  · intro rec
    simp only [f_M_piecesTo_L4]
    rw [if_pos (nI_le (Nat.le_refl _) (by omega))]
  · intro rec i hi
    simp only [f_M_piecesTo_L4, f_M_piecesTo_J24, oLet_t]
    obtain ⟨r, r1, r2, r3⟩ := least_ex (fun j => sdS (sdN px py pz pl j) m = sdS (sdN px py pz pl i) m) i
    have r4 : sdS (sdN px py pz pl r) m = sdS (sdN px py pz pl i) m := by
      by_cases e : r < i
      · exact r3 e
      · rw [show r = i by omega]
    rw [if_neg (nI_ge hi (by omega)), fM_least hm (show i < 60 by omega) px py pz pl r1 r2 r4, oCall1_t]
    by_cases e : r = i
    · have hp : ∀ j, j < i → ¬ sdS (sdN px py pz pl j) m = sdS (sdN px py pz pl i) m := fun j hj => r2 j (by omega)
      rw [if_pos (by rw [e]), nI_1, nI_1]
      rw [cntN_t hp]
    · have hp : ¬ ∀ j, j < i → ¬ sdS (sdN px py pz pl j) m = sdS (sdN px py pz pl i) m := fun q => q r (by omega) (r3 (by omega))
      rw [if_neg (nI_ne (by omega) (by omega) e), nI_1]
      rw [cntN_f hp]
      try simp

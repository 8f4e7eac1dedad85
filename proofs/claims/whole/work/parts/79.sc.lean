/-! rows until all is back, as the class counts them: a least common multiple -/
theorem nI_div {a b : Nat} (ha : a < 2 ^ 31) (hb : b < 2 ^ 31) (h1 : 1 ≤ b) : nI a / nI b = nI (a / b) := by
  have h2 : a / b ≤ a := Nat.div_le_self _ _
  apply Int32.toInt_inj.mp
  rw [lg_idiv_nonneg (by rw [nI_toInt ha]; omega) (by rw [nI_toInt hb]; omega), nI_toInt ha, nI_toInt hb, nI_toInt (by omega)]
  norm_cast
theorem nI_rem {a b : Nat} (ha : a < 2 ^ 31) (hb : b < 2 ^ 31) (h1 : 1 ≤ b) : (nI a - nI a / nI b * nI b = 0) ↔ b ∣ a := by
  have h2 : a / b * b ≤ a := Nat.div_mul_le_self _ _
  rw [nI_div ha hb h1, pk_mul, Nat.dvd_iff_mod_eq_zero]
  have h3 := Nat.mod_add_div a b
  rw [Nat.mul_comm] at h3
  constructor
  · intro h
    have h4 : nI a = nI (a / b * b) := by
      have := congrArg (· + nI (a / b * b)) h
      simp only [Int32.sub_add_cancel, Int32.zero_add] at this
      exact this
    have := (nI_eq ha (by omega)).mp h4
    omega
  · intro h
    have h4 : a / b * b = a := by omega
    rw [h4, Int32.sub_self]
theorem comm_val {x y : Nat} (x1 : 1 ≤ x) (x2 : x ≤ 2000) (y1 : 1 ≤ y) (y2 : y < 2 ^ 30) : f_X_commonMultiple (nI x) (nI y) = some (nI (if Nat.lcm x y ≤ 2000 then Nat.lcm x y else 2001)) := by
  unfold f_X_commonMultiple
  rw [if_neg (show ¬ nI x < 1 from fun h => by have := (nI_ltI (b := 1) (by omega) (by omega)).mp h; omega), if_pos (show (1 : Int32) ≤ nI y from nI_le (a := 1) y1 (by omega))]
  obtain ⟨e, he⟩ := Nat.dvd_lcm_left x y
  have hpos : 0 < Nat.lcm x y := Nat.lcm_pos x1 y1
  have e1 : 1 ≤ e := by
    rcases Nat.eq_zero_or_pos e with h | h
    · rw [h, Nat.mul_zero] at he; omega
    · exact h
  have nodiv : ∀ j, x * (j + 1) < Nat.lcm x y → ¬ y ∣ x * (j + 1) := by
    intro j hj hd
    have h1 : Nat.lcm x y ∣ x * (j + 1) := Nat.lcm_dvd (Nat.dvd_mul_right _ _) hd
    have h2 := Nat.le_of_dvd (Nat.mul_pos x1 (by omega)) h1
    omega
  have stp : ∀ j (rec : Int32 → Option Int32), x * (j + 1) ≤ 2000 → x * (j + 1) < Nat.lcm x y → f_X_commonMultiple_L16 (nI x) (nI y) rec (nI (x * (j + 1))) = rec (nI (x * (j + 1 + 1))) := by
    intro j rec h1 h2
    simp only [f_X_commonMultiple_L16, oLet_t]
    rw [if_neg (show ¬ (2000 : Int32) < nI (x * (j + 1)) from fun h => by have := (nI_ltI (a := 2000) (by omega) (by omega)).mp h; omega), oNz_t (show ¬ nI y = 0 from fun h => by have := (nI_eqk 0 (by omega) (by omega)).mp h; omega), if_neg (fun h => nodiv j h2 ((nI_rem (by omega) (by omega) y1).mp h)), nI_add, Nat.mul_succ x (j + 1)]
  by_cases hl : Nat.lcm x y ≤ 2000
  · rw [if_pos hl]
    have hee : e ≤ x * e := Nat.le_mul_of_pos_left e x1
    have h := loop1_run (f := f_X_commonMultiple_L16 (nI x) (nI y)) (n := e - 1) (fuel := 2100) (fun j => nI (x * (j + 1))) (nI (Nat.lcm x y)) ?_ ?_ (by omega)
    · rw [show x * (0 + 1) = x by omega] at h; exact h
    · intro rec
      simp only [f_X_commonMultiple_L16, oLet_t]
      rw [show e - 1 + 1 = e by omega, ← he, if_neg (show ¬ (2000 : Int32) < nI (Nat.lcm x y) from fun h => by have := (nI_ltI (a := 2000) (by omega) (by omega)).mp h; omega), oNz_t (show ¬ nI y = 0 from fun h => by have := (nI_eqk 0 (by omega) (by omega)).mp h; omega), if_pos ((nI_rem (by omega) (by omega) y1).mpr (Nat.dvd_lcm_right x y))]
    · intro rec j hj
      have h1 : x * (j + 1) < Nat.lcm x y := by
        rw [he]
        exact Nat.mul_lt_mul_of_pos_left (by omega) x1
      exact stp j rec (by omega) h1
  · rw [if_neg hl]
    have hd : 2000 / x ≤ 2000 := Nat.div_le_self _ _
    have hm := Nat.mod_add_div 2000 x
    have hm2 := Nat.mod_lt 2000 x1
    have h := loop1_run (f := f_X_commonMultiple_L16 (nI x) (nI y)) (n := 2000 / x) (fuel := 2100) (fun j => nI (x * (j + 1))) (nI 2001) ?_ ?_ (by omega)
    · rw [show x * (0 + 1) = x by omega] at h; exact h
    · intro rec
      simp only [f_X_commonMultiple_L16, oLet_t]
      rw [Nat.mul_succ, if_pos (show (2000 : Int32) < nI (x * (2000 / x) + x) from nI_lt (a := 2000) (by omega) (by omega))]
      rfl
    · intro rec j hj
      have h1 : x * (j + 1) ≤ x * (2000 / x) := Nat.mul_le_mul_left x (by omega)
      exact stp j rec (by omega) (by omega)
/-- how many rows until a point's content is back in its own way -/
def IsRow (n : Nat) (R C : Nat → Nat) (q v : Nat) : Prop := 1 ≤ v ∧ v ≤ 240 ∧ ∀ k, (itR R k q = q ∧ itC R C k q = 0) ↔ v ∣ k
theorem fC_back {n q : Nat} (hn : n ≤ 60) {R C : Nat → Nat} (h : okM n R C) {rO rT : Nat → Int32} (hO : ∀ p, p < n → rO p = nI (R p) ∧ rT p = nI (C p)) (hq : q < n) : ∃ v, f_C_rowsUntilBackAt rO rT (nI q) = some (nI v) ∧ IsRow n R C q v := by
  obtain ⟨l, l1, l2, l3, l4⟩ := back_ex h hq
  have ht := ((it_ok h l).1 q hq).2
  obtain ⟨o1, o2, o3, -, -⟩ := ord_tab _ ht
  refine ⟨l * ordN (itC R C l q), ?_, Nat.mul_pos l1 o2, ?_, back_iff h hq l1 l3 l4⟩
  · unfold f_C_rowsUntilBackAt
    have hr := loop3_run (f := f_C_rowsUntilBackAt_L7 rO rT (nI q)) (n := l - 1) (fuel := 100) (fun j => nI j) (fun j => nI (itC R C j q)) (fun j => nI (itR R j q)) (nI (l * ordN (itC R C l q))) ?_ ?_ (by omega)
    · exact hr
    · intro rec
      have lj := (it_ok h (l - 1)).1 q hq
      have lR := h.1 _ lj.1
      have s1 := itC_s h (l - 1) q hq
      have s2 := itR_s R (l - 1) q
      rw [show l - 1 + 1 = l by omega] at s1 s2
      simp only [f_C_rowsUntilBackAt_L7, f_C_rowsUntilBackAt_J43, oLet_t]
      rw [oIn_n (by omega) (by omega), nI_clamp (by omega), (hO _ lj.1).1, (hO _ lj.1).2, (cmp_tab _ lj.2 _ lR.2).1, oCall1_t, oIn_n (by omega) (by omega), ← s1, ← s2, l3, if_pos rfl, o1, oCall1_t, nI_1, show l - 1 + 1 = l by omega, pk_mul]
    · intro rec j hj
      have lj := (it_ok h j).1 q hq
      have lj1 := (it_ok h (j + 1)).1 q hq
      have lR := h.1 _ lj.1
      have s1 := itC_s h j q hq
      have s2 := itR_s R j q
      simp only [f_C_rowsUntilBackAt_L7, f_C_rowsUntilBackAt_J43, oLet_t]
      rw [oIn_n (by omega) (by omega), nI_clamp (by omega), (hO _ lj.1).1, (hO _ lj.1).2, (cmp_tab _ lj.2 _ lR.2).1, oCall1_t, oIn_n (by omega) (by omega), ← s1, ← s2, if_neg (nI_ne (by omega) (by omega) (l4 (j + 1) (by omega) (by omega))), nI_1, if_pos (show nI (j + 1) < 60 from nI_lt (b := 60) (by omega) (by omega))]
  · have : l * ordN (itC R C l q) ≤ 60 * 4 := Nat.mul_le_mul (by omega) o3
    omega
def AllBack (n : Nat) (R C : Nat → Nat) (k : Nat) : Prop := ∀ q, q < n → itR R k q = q ∧ itC R C k q = 0
theorem fX_rub {n : Nat} (hn : n ≤ 60) {R C : Nat → Nat} (h : okM n R C) {rO rT : Nat → Int32} (hO : ∀ p, p < n → rO p = nI (R p) ∧ rT p = nI (C p)) : ∀ d p, p + d = n → ∀ fuel, d < fuel → ∀ x, ((1 ≤ x ∧ x ≤ 2000 ∧ ∀ k, AllBack p R C k ↔ x ∣ k) ∨ (x = 2001 ∧ ∀ k, 1 ≤ k → k ≤ 2000 → ¬ AllBack p R C k)) → ∃ res, oLoop2 (f_X_rowsUntilBack_L4 (nI n) rO rT) fuel (nI x) (nI p) = some res ∧ ((∃ L, 1 ≤ L ∧ L ≤ 2000 ∧ res = nI L ∧ ∀ k, AllBack n R C k ↔ L ∣ k) ∨ (res = -1 ∧ ∀ k, 1 ≤ k → k ≤ 2000 → ¬ AllBack n R C k)) := by
  have big : ∀ (p : Nat) (rec : Int32 → Int32 → Option Int32), p ≤ n → f_X_rowsUntilBack_L4 (nI n) rO rT rec (nI 2001) (nI p) = some (-1) := by
    intro p rec hp
    simp only [f_X_rowsUntilBack_L4, f_X_rowsUntilBack_J41]
    rw [if_pos (show (2000 : Int32) < nI 2001 by decide), if_pos (show (2000 : Int32) < nI 2001 by decide)]
    by_cases e : nI n ≤ nI p
    · rw [if_pos e]
    · rw [if_neg e]
  have mono : ∀ p k, p ≤ n → AllBack n R C k → AllBack p R C k := fun p k hp ha q hq => ha q (by omega)
  intro d
  induction d with
  | zero =>
    intro p hp fuel hf x hx
    obtain ⟨g, rfl⟩ : ∃ g, fuel = g + 1 := ⟨fuel - 1, by omega⟩
    obtain rfl : p = n := by omega
    rcases hx with ⟨a1, a2, a3⟩ | ⟨rfl, a2⟩
    · refine ⟨nI x, ?_, Or.inl ⟨x, a1, a2, rfl, a3⟩⟩
      show f_X_rowsUntilBack_L4 _ _ _ _ _ _ = _
      simp only [f_X_rowsUntilBack_L4, f_X_rowsUntilBack_J41]
      rw [if_pos (nI_le (Nat.le_refl _) (by omega)), if_neg (show ¬ (2000 : Int32) < nI x from fun h => by have := (nI_ltI (a := 2000) (by omega) (by omega)).mp h; omega)]
    · exact ⟨-1, big p _ (Nat.le_refl _), Or.inr ⟨rfl, a2⟩⟩
  | succ d ih =>
    intro p hp fuel hf x hx
    obtain ⟨g, rfl⟩ : ∃ g, fuel = g + 1 := ⟨fuel - 1, by omega⟩
    rcases hx with ⟨a1, a2, a3⟩ | ⟨rfl, a2⟩
    · obtain ⟨v, e1, v1, v2, v3⟩ := fC_back hn h hO (show p < n by omega)
      have step : ∀ k, AllBack (p + 1) R C k ↔ Nat.lcm x v ∣ k := by
        intro k
        constructor
        · intro ha
          exact Nat.lcm_dvd ((a3 k).mp (fun q hq => ha q (by omega))) ((v3 k).mp (ha p (by omega)))
        · intro hd q hq
          by_cases e : q = p
          · rw [e]; exact (v3 k).mpr (Nat.dvd_trans (Nat.dvd_lcm_right x v) hd)
          · exact (a3 k).mpr (Nat.dvd_trans (Nat.dvd_lcm_left x v) hd) q (by omega)
      have hcm := comm_val a1 a2 v1 (show v < 2 ^ 30 by omega)
      obtain ⟨res, r1, r2⟩ := ih (p + 1) (by omega) g (by omega) (if Nat.lcm x v ≤ 2000 then Nat.lcm x v else 2001) (by
        by_cases hl : Nat.lcm x v ≤ 2000
        · rw [if_pos hl]
          exact Or.inl ⟨Nat.lcm_pos a1 v1, hl, step⟩
        · rw [if_neg hl]
          refine Or.inr ⟨rfl, fun k k1 k2 ha => ?_⟩
          have := Nat.le_of_dvd k1 ((step k).mp ha)
          omega)
      refine ⟨res, ?_, r2⟩
      show f_X_rowsUntilBack_L4 _ _ _ _ _ _ = _
      simp only [f_X_rowsUntilBack_L4, oLet_t]
      rw [if_neg (nI_ge (by omega) (by omega)), if_neg (show ¬ (2000 : Int32) < nI x from fun h => by have := (nI_ltI (a := 2000) (by omega) (by omega)).mp h; omega), e1, oCall1_t, hcm, oCall1_t, nI_1]
      exact r1
    · exact ⟨-1, big p _ (by omega), Or.inr ⟨rfl, fun k k1 k2 ha => a2 k k1 k2 (mono p k (by omega) ha)⟩⟩
theorem fX_rows {n : Nat} (hn : n ≤ 60) {R C : Nat → Nat} (h : okM n R C) {rO rT : Nat → Int32} (hO : ∀ p, p < n → rO p = nI (R p) ∧ rT p = nI (C p)) : ∃ res, f_X_rowsUntilBack (nI n) rO rT = some res ∧ ((∃ L, 1 ≤ L ∧ L ≤ 2000 ∧ res = nI L ∧ ∀ k, AllBack n R C k ↔ L ∣ k) ∨ (res = -1 ∧ ∀ k, 1 ≤ k → k ≤ 2000 → ¬ AllBack n R C k)) := by
  obtain ⟨res, r1, r2⟩ := fX_rub hn h hO n 0 (by omega) 100 (by omega) 1 (Or.inl ⟨by omega, by omega, fun k => ⟨fun _ => Nat.one_dvd k, fun _ q hq => absurd hq (Nat.not_lt_zero q)⟩⟩)
  exact ⟨res, r1, r2⟩

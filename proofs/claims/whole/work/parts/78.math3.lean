/-! the sides in two bits each -/
theorem sdS_lt {s : Nat → Nat} (hs : ∀ q, s q < 3) : ∀ m, sdS s m < 4 ^ m := by
  intro m
  induction m with
  | zero => show 0 < 4 ^ 0; decide
  | succ m ih =>
    have h1 := hs m
    have h2 : s m * 4 ^ m ≤ 2 * 4 ^ m := Nat.mul_le_mul_right _ (by omega)
    show sdS s m + s m * 4 ^ m < 4 ^ (m + 1)
    rw [Nat.pow_succ]
    omega
theorem sdS_digit {s : Nat → Nat} (hs : ∀ q, s q < 3) : ∀ m q, q < m → sdS s m / 4 ^ q % 4 = s q := by
  intro m
  induction m with
  | zero => intro q hq; omega
  | succ m ih =>
    intro q hq
    show (sdS s m + s m * 4 ^ m) / 4 ^ q % 4 = s q
    by_cases e : q = m
    · subst e
      rw [Nat.add_mul_div_right _ _ (Nat.pow_pos (by omega)), Nat.div_eq_of_lt (sdS_lt hs q), Nat.zero_add]
      have := hs q
      omega
    · have hlt : q < m := by omega
      obtain ⟨d, rfl⟩ : ∃ d, m = q + 1 + d := ⟨m - q - 1, by omega⟩
      rw [show s (q + 1 + d) * 4 ^ (q + 1 + d) = (s (q + 1 + d) * 4 ^ d * 4) * 4 ^ q by rw [Nat.pow_add, Nat.pow_succ]; simp only [Nat.mul_assoc, Nat.mul_comm, Nat.mul_left_comm]]
      rw [Nat.add_mul_div_right _ _ (Nat.pow_pos (by omega)), Nat.add_mul_mod_self_right]
      exact ih q hlt
theorem sdS_inj {s t : Nat → Nat} (hs : ∀ q, s q < 3) (ht : ∀ q, t q < 3) (m : Nat) : sdS s m = sdS t m ↔ ∀ q, q < m → s q = t q := by
  constructor
  · intro h q hq
    rw [← sdS_digit hs m q hq, ← sdS_digit ht m q hq, h]
  · intro h
    induction m with
    | zero => rfl
    | succ m ih =>
      show sdS s m + s m * 4 ^ m = sdS t m + t m * 4 ^ m
      rw [ih (fun q hq => h q (by omega)), h m (by omega)]
theorem pow4_le {m : Nat} (h : m ≤ 20) : 4 ^ m ≤ 2 ^ 40 := by
  rw [show (4 : Nat) = 2 ^ 2 from rfl, ← Nat.pow_mul]
  exact Nat.pow_le_pow_right (by omega) (by omega)
theorem sdS_small {s : Nat → Nat} (hs : ∀ q, s q < 3) {m : Nat} (h : m ≤ 20) : sdS s m < 2 ^ 40 := Nat.lt_of_lt_of_le (sdS_lt hs m) (pow4_le h)
theorem lN_bv (n : Nat) : (lN n).toBitVec = BitVec.ofNat 64 n := rfl
theorem lN_inj {a b : Int64} (h : a.toBitVec = b.toBitVec) : a = b := Int64.toBitVec_inj.mp h
theorem sh_cnt : ∀ q, q < 20 → ((2 * nI q).toInt64 &&& 63) = lN (2 * q) := by decide +kernel
theorem lN_shr {s k : Nat} (hs : s < 2 ^ 40) (hk : k < 40) : lN s >>> lN k = lN (s / 2 ^ k) := by
  apply lN_inj
  have h1 : ((lN k).toBitVec.smod 64).toNat = k := by
    rw [lN_bv]
    have : ∀ k, k < 40 → ((BitVec.ofNat 64 k).smod 64).toNat = k := by decide +kernel
    exact this k hk
  show (lN s).toBitVec.sshiftRight' ((lN k).toBitVec.smod 64) = _
  rw [BitVec.sshiftRight', h1, lN_bv, lN_bv]
  apply BitVec.eq_of_toInt_eq
  rw [BitVec.toInt_sshiftRight]
  have e1 : (BitVec.ofNat 64 s).toInt = s := pk_lT (n := s) (by omega)
  have e2 : (BitVec.ofNat 64 (s / 2 ^ k)).toInt = (s / 2 ^ k : Nat) := by
    have : s / 2 ^ k ≤ s := Nat.div_le_self _ _
    exact pk_lT (n := s / 2 ^ k) (by omega)
  rw [e1, e2, Int.shiftRight_eq_div_pow]
  norm_cast
theorem lN_and3 (s : Nat) (hs : s < 2 ^ 40) : lN s &&& 3 = lN (s % 4) := by
  apply lN_inj
  show (lN s).toBitVec &&& (3 : Int64).toBitVec = _
  rw [lN_bv, lN_bv]
  apply BitVec.eq_of_toNat_eq
  rw [BitVec.toNat_and]
  have e1 : (BitVec.ofNat 64 s).toNat = s := by rw [BitVec.toNat_ofNat]; exact Nat.mod_eq_of_lt (by omega)
  have e2 : ((3 : Int64).toBitVec).toNat = 2 ^ 2 - 1 := by decide
  have e3 : (BitVec.ofNat 64 (s % 4)).toNat = s % 4 := by rw [BitVec.toNat_ofNat]; exact Nat.mod_eq_of_lt (by omega)
  rw [e1, e2, e3, Nat.and_two_pow_sub_one_eq_mod]
theorem lN_or_shl {s t m : Nat} (hs : s < 4 ^ m) (ht : t < 3) (hm : m < 20) : lN s ||| (lN t <<< ((2 * nI m).toInt64 &&& 63)) = lN (s + t * 4 ^ m) := by
  rw [sh_cnt m hm]
  apply lN_inj
  have hp := pow4_le (m := m) (by omega)
  have h1 : ((lN (2 * m)).toBitVec.smod 64).toNat = 2 * m := by
    rw [lN_bv]
    have : ∀ m, m < 20 → ((BitVec.ofNat 64 (2 * m)).smod 64).toNat = 2 * m := by decide +kernel
    exact this m hm
  show (lN s).toBitVec ||| ((lN t).toBitVec <<< ((lN (2 * m)).toBitVec.smod 64)) = _
  rw [BitVec.shiftLeft_eq', h1, lN_bv, lN_bv, lN_bv]
  apply BitVec.eq_of_toNat_eq
  have e4 : 4 ^ m = 2 ^ (2 * m) := by rw [Nat.pow_mul]
  have e5 : t * 4 ^ m ≤ 2 * 4 ^ m := Nat.mul_le_mul_right _ (by omega)
  rw [BitVec.toNat_or, BitVec.toNat_shiftLeft, BitVec.toNat_ofNat, BitVec.toNat_ofNat, BitVec.toNat_ofNat, Nat.mod_eq_of_lt (show s < 2 ^ 64 by omega), Nat.mod_eq_of_lt (show t < 2 ^ 64 by omega), Nat.shiftLeft_eq, ← e4, Nat.mod_eq_of_lt (show t * 4 ^ m < 2 ^ 64 by omega), Nat.mod_eq_of_lt (show s + t * 4 ^ m < 2 ^ 64 by omega)]
  rw [Nat.or_comm, Nat.mul_comm t, e4, ← Nat.two_pow_add_eq_or_of_lt (by rw [← e4]; exact hs)]
  omega
theorem fB_sideOf {p q m : Nat} (hp : p < 60) (hq : q < m) (hm : m ≤ 20) {s : Nat → Nat} (hs : ∀ q, s q < 3) {bS : Nat → Int64} (e : bS p = lN (sdS s m)) : f_B_sideOf bS (nI p) (nI q) = some (nI (s q)) := by
  unfold f_B_sideOf
  rw [oIn_n hp (by omega), nI_clamp (by omega), e, sh_cnt q (by omega), lN_shr (sdS_small hs hm) (by omega)]
  have h1 : sdS s m / 2 ^ (2 * q) ≤ sdS s m := Nat.div_le_self _ _
  have h2 := sdS_small hs hm
  rw [lN_and3 _ (by omega), lN_i, Nat.pow_mul, sdS_digit hs m q hq]
theorem fM_sideOf {p q : Nat} (hp : p < 60) (hq : q < 20) (px py pz pl : Nat → Int32) : f_M_sideOf px py pz pl (nI p) (nI q) = some (nI (sdN px py pz pl p q)) := by
  unfold f_M_sideOf
  rw [n4b, n4c, n4d, n4a, oIn_n (by omega) (by omega), oIn_n hp (by omega), oIn_n (by omega) (by omega), oIn_n hp (by omega), oIn_n (by omega) (by omega), oIn_n hp (by omega), oIn_n (by omega) (by omega), oLet_t, nI_clamp (by omega), nI_clamp (by omega), nI_clamp (by omega), nI_clamp (by omega), nI_clamp (by omega)]
  unfold sdN
  generalize pl (4 * q) * px p + pl (4 * q + 1) * py p + pl (4 * q + 2) * pz p - pl (4 * q + 3) = v
  unfold sgn3
  by_cases h : v < 0
  · rw [if_pos h, if_neg (fun h2 => by have := Int32.not_le.mpr h; exact this h2)]; rfl
  · rw [if_neg h, if_pos (Int32.not_lt.mp h)]
    by_cases h3 : v = 0
    · rw [if_pos h3, if_pos h3]; rfl
    · rw [if_neg h3, if_neg h3]; rfl
theorem sdN_lt (px py pz pl : Nat → Int32) (p q : Nat) : sdN px py pz pl p q < 3 := sgn3_lt _

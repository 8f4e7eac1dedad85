/-! laws of the pure combinators: a call that answers, a loop whose states are known one by one -/
theorem oLet_t {α ρ : Type} (e : α) (k : α → Option ρ) : oLet e k = k e := rfl
theorem oCall0_t {ρ : Type} (k : Option ρ) : oCall0 (some ()) k = k := rfl
theorem oCall1_t {ρ α1 : Type} (a1 : α1) (k : α1 → Option ρ) : oCall1 (some (a1)) k = k a1 := rfl
theorem oCall2_t {ρ α1 α2 : Type} (a1 : α1) (a2 : α2) (k : α1 → α2 → Option ρ) : oCall2 (some (a1, a2)) k = k a1 a2 := rfl
theorem oCall3_t {ρ α1 α2 α3 : Type} (a1 : α1) (a2 : α2) (a3 : α3) (k : α1 → α2 → α3 → Option ρ) : oCall3 (some (a1, a2, a3)) k = k a1 a2 a3 := rfl
theorem oCall4_t {ρ α1 α2 α3 α4 : Type} (a1 : α1) (a2 : α2) (a3 : α3) (a4 : α4) (k : α1 → α2 → α3 → α4 → Option ρ) : oCall4 (some (a1, a2, a3, a4)) k = k a1 a2 a3 a4 := rfl
theorem oCall5_t {ρ α1 α2 α3 α4 α5 : Type} (a1 : α1) (a2 : α2) (a3 : α3) (a4 : α4) (a5 : α5) (k : α1 → α2 → α3 → α4 → α5 → Option ρ) : oCall5 (some (a1, a2, a3, a4, a5)) k = k a1 a2 a3 a4 a5 := rfl
theorem oCall6_t {ρ α1 α2 α3 α4 α5 α6 : Type} (a1 : α1) (a2 : α2) (a3 : α3) (a4 : α4) (a5 : α5) (a6 : α6) (k : α1 → α2 → α3 → α4 → α5 → α6 → Option ρ) : oCall6 (some (a1, a2, a3, a4, a5, a6)) k = k a1 a2 a3 a4 a5 a6 := rfl
theorem oCall7_t {ρ α1 α2 α3 α4 α5 α6 α7 : Type} (a1 : α1) (a2 : α2) (a3 : α3) (a4 : α4) (a5 : α5) (a6 : α6) (a7 : α7) (k : α1 → α2 → α3 → α4 → α5 → α6 → α7 → Option ρ) : oCall7 (some (a1, a2, a3, a4, a5, a6, a7)) k = k a1 a2 a3 a4 a5 a6 a7 := rfl
theorem oCall8_t {ρ α1 α2 α3 α4 α5 α6 α7 α8 : Type} (a1 : α1) (a2 : α2) (a3 : α3) (a4 : α4) (a5 : α5) (a6 : α6) (a7 : α7) (a8 : α8) (k : α1 → α2 → α3 → α4 → α5 → α6 → α7 → α8 → Option ρ) : oCall8 (some (a1, a2, a3, a4, a5, a6, a7, a8)) k = k a1 a2 a3 a4 a5 a6 a7 a8 := rfl
theorem oCall9_t {ρ α1 α2 α3 α4 α5 α6 α7 α8 α9 : Type} (a1 : α1) (a2 : α2) (a3 : α3) (a4 : α4) (a5 : α5) (a6 : α6) (a7 : α7) (a8 : α8) (a9 : α9) (k : α1 → α2 → α3 → α4 → α5 → α6 → α7 → α8 → α9 → Option ρ) : oCall9 (some (a1, a2, a3, a4, a5, a6, a7, a8, a9)) k = k a1 a2 a3 a4 a5 a6 a7 a8 a9 := rfl
theorem oCall10_t {ρ α1 α2 α3 α4 α5 α6 α7 α8 α9 α10 : Type} (a1 : α1) (a2 : α2) (a3 : α3) (a4 : α4) (a5 : α5) (a6 : α6) (a7 : α7) (a8 : α8) (a9 : α9) (a10 : α10) (k : α1 → α2 → α3 → α4 → α5 → α6 → α7 → α8 → α9 → α10 → Option ρ) : oCall10 (some (a1, a2, a3, a4, a5, a6, a7, a8, a9, a10)) k = k a1 a2 a3 a4 a5 a6 a7 a8 a9 a10 := rfl
theorem oCall11_t {ρ α1 α2 α3 α4 α5 α6 α7 α8 α9 α10 α11 : Type} (a1 : α1) (a2 : α2) (a3 : α3) (a4 : α4) (a5 : α5) (a6 : α6) (a7 : α7) (a8 : α8) (a9 : α9) (a10 : α10) (a11 : α11) (k : α1 → α2 → α3 → α4 → α5 → α6 → α7 → α8 → α9 → α10 → α11 → Option ρ) : oCall11 (some (a1, a2, a3, a4, a5, a6, a7, a8, a9, a10, a11)) k = k a1 a2 a3 a4 a5 a6 a7 a8 a9 a10 a11 := rfl
theorem oCall12_t {ρ α1 α2 α3 α4 α5 α6 α7 α8 α9 α10 α11 α12 : Type} (a1 : α1) (a2 : α2) (a3 : α3) (a4 : α4) (a5 : α5) (a6 : α6) (a7 : α7) (a8 : α8) (a9 : α9) (a10 : α10) (a11 : α11) (a12 : α12) (k : α1 → α2 → α3 → α4 → α5 → α6 → α7 → α8 → α9 → α10 → α11 → α12 → Option ρ) : oCall12 (some (a1, a2, a3, a4, a5, a6, a7, a8, a9, a10, a11, a12)) k = k a1 a2 a3 a4 a5 a6 a7 a8 a9 a10 a11 a12 := rfl
theorem oCall13_t {ρ α1 α2 α3 α4 α5 α6 α7 α8 α9 α10 α11 α12 α13 : Type} (a1 : α1) (a2 : α2) (a3 : α3) (a4 : α4) (a5 : α5) (a6 : α6) (a7 : α7) (a8 : α8) (a9 : α9) (a10 : α10) (a11 : α11) (a12 : α12) (a13 : α13) (k : α1 → α2 → α3 → α4 → α5 → α6 → α7 → α8 → α9 → α10 → α11 → α12 → α13 → Option ρ) : oCall13 (some (a1, a2, a3, a4, a5, a6, a7, a8, a9, a10, a11, a12, a13)) k = k a1 a2 a3 a4 a5 a6 a7 a8 a9 a10 a11 a12 a13 := rfl
theorem oCall14_t {ρ α1 α2 α3 α4 α5 α6 α7 α8 α9 α10 α11 α12 α13 α14 : Type} (a1 : α1) (a2 : α2) (a3 : α3) (a4 : α4) (a5 : α5) (a6 : α6) (a7 : α7) (a8 : α8) (a9 : α9) (a10 : α10) (a11 : α11) (a12 : α12) (a13 : α13) (a14 : α14) (k : α1 → α2 → α3 → α4 → α5 → α6 → α7 → α8 → α9 → α10 → α11 → α12 → α13 → α14 → Option ρ) : oCall14 (some (a1, a2, a3, a4, a5, a6, a7, a8, a9, a10, a11, a12, a13, a14)) k = k a1 a2 a3 a4 a5 a6 a7 a8 a9 a10 a11 a12 a13 a14 := rfl
theorem loop1_seq {ρ α1 : Type} {f : (α1 → Option ρ) → α1 → Option ρ} (n : Nat) (s1 : Nat → α1) (res : ρ) (hend : ∀ rec, f rec (s1 n) = some res) (hstep : ∀ rec i, i < n → f rec (s1 i) = rec (s1 (i + 1))) : ∀ (d i fuel : Nat), i + d = n → d < fuel → oLoop1 f fuel (s1 i) = some res := by
  intro d
  induction d with
  | zero =>
    intro i fuel h1 h2
    obtain ⟨g, rfl⟩ : ∃ g, fuel = g + 1 := ⟨fuel - 1, by omega⟩
    obtain rfl : i = n := by omega
    exact hend _
  | succ d ih =>
    intro i fuel h1 h2
    obtain ⟨g, rfl⟩ : ∃ g, fuel = g + 1 := ⟨fuel - 1, by omega⟩
    exact (hstep _ i (by omega)).trans (ih (i + 1) g (by omega) (by omega))
theorem loop1_run {ρ α1 : Type} {f : (α1 → Option ρ) → α1 → Option ρ} {n fuel : Nat} (s1 : Nat → α1) (res : ρ) (hend : ∀ rec, f rec (s1 n) = some res) (hstep : ∀ rec i, i < n → f rec (s1 i) = rec (s1 (i + 1))) (hf : n < fuel) : oLoop1 f fuel (s1 0) = some res := loop1_seq n s1 res hend hstep n 0 fuel (by omega) hf
theorem loop2_seq {ρ α1 α2 : Type} {f : (α1 → α2 → Option ρ) → α1 → α2 → Option ρ} (n : Nat) (s1 : Nat → α1) (s2 : Nat → α2) (res : ρ) (hend : ∀ rec, f rec (s1 n) (s2 n) = some res) (hstep : ∀ rec i, i < n → f rec (s1 i) (s2 i) = rec (s1 (i + 1)) (s2 (i + 1))) : ∀ (d i fuel : Nat), i + d = n → d < fuel → oLoop2 f fuel (s1 i) (s2 i) = some res := by
  intro d
  induction d with
  | zero =>
    intro i fuel h1 h2
    obtain ⟨g, rfl⟩ : ∃ g, fuel = g + 1 := ⟨fuel - 1, by omega⟩
    obtain rfl : i = n := by omega
    exact hend _
  | succ d ih =>
    intro i fuel h1 h2
    obtain ⟨g, rfl⟩ : ∃ g, fuel = g + 1 := ⟨fuel - 1, by omega⟩
    exact (hstep _ i (by omega)).trans (ih (i + 1) g (by omega) (by omega))
theorem loop2_run {ρ α1 α2 : Type} {f : (α1 → α2 → Option ρ) → α1 → α2 → Option ρ} {n fuel : Nat} (s1 : Nat → α1) (s2 : Nat → α2) (res : ρ) (hend : ∀ rec, f rec (s1 n) (s2 n) = some res) (hstep : ∀ rec i, i < n → f rec (s1 i) (s2 i) = rec (s1 (i + 1)) (s2 (i + 1))) (hf : n < fuel) : oLoop2 f fuel (s1 0) (s2 0) = some res := loop2_seq n s1 s2 res hend hstep n 0 fuel (by omega) hf
theorem loop3_seq {ρ α1 α2 α3 : Type} {f : (α1 → α2 → α3 → Option ρ) → α1 → α2 → α3 → Option ρ} (n : Nat) (s1 : Nat → α1) (s2 : Nat → α2) (s3 : Nat → α3) (res : ρ) (hend : ∀ rec, f rec (s1 n) (s2 n) (s3 n) = some res) (hstep : ∀ rec i, i < n → f rec (s1 i) (s2 i) (s3 i) = rec (s1 (i + 1)) (s2 (i + 1)) (s3 (i + 1))) : ∀ (d i fuel : Nat), i + d = n → d < fuel → oLoop3 f fuel (s1 i) (s2 i) (s3 i) = some res := by
  intro d
  induction d with
  | zero =>
    intro i fuel h1 h2
    obtain ⟨g, rfl⟩ : ∃ g, fuel = g + 1 := ⟨fuel - 1, by omega⟩
    obtain rfl : i = n := by omega
    exact hend _
  | succ d ih =>
    intro i fuel h1 h2
    obtain ⟨g, rfl⟩ : ∃ g, fuel = g + 1 := ⟨fuel - 1, by omega⟩
    exact (hstep _ i (by omega)).trans (ih (i + 1) g (by omega) (by omega))
theorem loop3_run {ρ α1 α2 α3 : Type} {f : (α1 → α2 → α3 → Option ρ) → α1 → α2 → α3 → Option ρ} {n fuel : Nat} (s1 : Nat → α1) (s2 : Nat → α2) (s3 : Nat → α3) (res : ρ) (hend : ∀ rec, f rec (s1 n) (s2 n) (s3 n) = some res) (hstep : ∀ rec i, i < n → f rec (s1 i) (s2 i) (s3 i) = rec (s1 (i + 1)) (s2 (i + 1)) (s3 (i + 1))) (hf : n < fuel) : oLoop3 f fuel (s1 0) (s2 0) (s3 0) = some res := loop3_seq n s1 s2 s3 res hend hstep n 0 fuel (by omega) hf
theorem loop4_seq {ρ α1 α2 α3 α4 : Type} {f : (α1 → α2 → α3 → α4 → Option ρ) → α1 → α2 → α3 → α4 → Option ρ} (n : Nat) (s1 : Nat → α1) (s2 : Nat → α2) (s3 : Nat → α3) (s4 : Nat → α4) (res : ρ) (hend : ∀ rec, f rec (s1 n) (s2 n) (s3 n) (s4 n) = some res) (hstep : ∀ rec i, i < n → f rec (s1 i) (s2 i) (s3 i) (s4 i) = rec (s1 (i + 1)) (s2 (i + 1)) (s3 (i + 1)) (s4 (i + 1))) : ∀ (d i fuel : Nat), i + d = n → d < fuel → oLoop4 f fuel (s1 i) (s2 i) (s3 i) (s4 i) = some res := by
  intro d
  induction d with
  | zero =>
    intro i fuel h1 h2
    obtain ⟨g, rfl⟩ : ∃ g, fuel = g + 1 := ⟨fuel - 1, by omega⟩
    obtain rfl : i = n := by omega
    exact hend _
  | succ d ih =>
    intro i fuel h1 h2
    obtain ⟨g, rfl⟩ : ∃ g, fuel = g + 1 := ⟨fuel - 1, by omega⟩
    exact (hstep _ i (by omega)).trans (ih (i + 1) g (by omega) (by omega))
theorem loop4_run {ρ α1 α2 α3 α4 : Type} {f : (α1 → α2 → α3 → α4 → Option ρ) → α1 → α2 → α3 → α4 → Option ρ} {n fuel : Nat} (s1 : Nat → α1) (s2 : Nat → α2) (s3 : Nat → α3) (s4 : Nat → α4) (res : ρ) (hend : ∀ rec, f rec (s1 n) (s2 n) (s3 n) (s4 n) = some res) (hstep : ∀ rec i, i < n → f rec (s1 i) (s2 i) (s3 i) (s4 i) = rec (s1 (i + 1)) (s2 (i + 1)) (s3 (i + 1)) (s4 (i + 1))) (hf : n < fuel) : oLoop4 f fuel (s1 0) (s2 0) (s3 0) (s4 0) = some res := loop4_seq n s1 s2 s3 s4 res hend hstep n 0 fuel (by omega) hf
theorem loop5_seq {ρ α1 α2 α3 α4 α5 : Type} {f : (α1 → α2 → α3 → α4 → α5 → Option ρ) → α1 → α2 → α3 → α4 → α5 → Option ρ} (n : Nat) (s1 : Nat → α1) (s2 : Nat → α2) (s3 : Nat → α3) (s4 : Nat → α4) (s5 : Nat → α5) (res : ρ) (hend : ∀ rec, f rec (s1 n) (s2 n) (s3 n) (s4 n) (s5 n) = some res) (hstep : ∀ rec i, i < n → f rec (s1 i) (s2 i) (s3 i) (s4 i) (s5 i) = rec (s1 (i + 1)) (s2 (i + 1)) (s3 (i + 1)) (s4 (i + 1)) (s5 (i + 1))) : ∀ (d i fuel : Nat), i + d = n → d < fuel → oLoop5 f fuel (s1 i) (s2 i) (s3 i) (s4 i) (s5 i) = some res := by
  intro d
  induction d with
  | zero =>
    intro i fuel h1 h2
    obtain ⟨g, rfl⟩ : ∃ g, fuel = g + 1 := ⟨fuel - 1, by omega⟩
    obtain rfl : i = n := by omega
    exact hend _
  | succ d ih =>
    intro i fuel h1 h2
    obtain ⟨g, rfl⟩ : ∃ g, fuel = g + 1 := ⟨fuel - 1, by omega⟩
    exact (hstep _ i (by omega)).trans (ih (i + 1) g (by omega) (by omega))
theorem loop5_run {ρ α1 α2 α3 α4 α5 : Type} {f : (α1 → α2 → α3 → α4 → α5 → Option ρ) → α1 → α2 → α3 → α4 → α5 → Option ρ} {n fuel : Nat} (s1 : Nat → α1) (s2 : Nat → α2) (s3 : Nat → α3) (s4 : Nat → α4) (s5 : Nat → α5) (res : ρ) (hend : ∀ rec, f rec (s1 n) (s2 n) (s3 n) (s4 n) (s5 n) = some res) (hstep : ∀ rec i, i < n → f rec (s1 i) (s2 i) (s3 i) (s4 i) (s5 i) = rec (s1 (i + 1)) (s2 (i + 1)) (s3 (i + 1)) (s4 (i + 1)) (s5 (i + 1))) (hf : n < fuel) : oLoop5 f fuel (s1 0) (s2 0) (s3 0) (s4 0) (s5 0) = some res := loop5_seq n s1 s2 s3 s4 s5 res hend hstep n 0 fuel (by omega) hf
theorem loop6_seq {ρ α1 α2 α3 α4 α5 α6 : Type} {f : (α1 → α2 → α3 → α4 → α5 → α6 → Option ρ) → α1 → α2 → α3 → α4 → α5 → α6 → Option ρ} (n : Nat) (s1 : Nat → α1) (s2 : Nat → α2) (s3 : Nat → α3) (s4 : Nat → α4) (s5 : Nat → α5) (s6 : Nat → α6) (res : ρ) (hend : ∀ rec, f rec (s1 n) (s2 n) (s3 n) (s4 n) (s5 n) (s6 n) = some res) (hstep : ∀ rec i, i < n → f rec (s1 i) (s2 i) (s3 i) (s4 i) (s5 i) (s6 i) = rec (s1 (i + 1)) (s2 (i + 1)) (s3 (i + 1)) (s4 (i + 1)) (s5 (i + 1)) (s6 (i + 1))) : ∀ (d i fuel : Nat), i + d = n → d < fuel → oLoop6 f fuel (s1 i) (s2 i) (s3 i) (s4 i) (s5 i) (s6 i) = some res := by
  intro d
  induction d with
  | zero =>
    intro i fuel h1 h2
    obtain ⟨g, rfl⟩ : ∃ g, fuel = g + 1 := ⟨fuel - 1, by omega⟩
    obtain rfl : i = n := by omega
    exact hend _
  | succ d ih =>
    intro i fuel h1 h2
    obtain ⟨g, rfl⟩ : ∃ g, fuel = g + 1 := ⟨fuel - 1, by omega⟩
    exact (hstep _ i (by omega)).trans (ih (i + 1) g (by omega) (by omega))
theorem loop6_run {ρ α1 α2 α3 α4 α5 α6 : Type} {f : (α1 → α2 → α3 → α4 → α5 → α6 → Option ρ) → α1 → α2 → α3 → α4 → α5 → α6 → Option ρ} {n fuel : Nat} (s1 : Nat → α1) (s2 : Nat → α2) (s3 : Nat → α3) (s4 : Nat → α4) (s5 : Nat → α5) (s6 : Nat → α6) (res : ρ) (hend : ∀ rec, f rec (s1 n) (s2 n) (s3 n) (s4 n) (s5 n) (s6 n) = some res) (hstep : ∀ rec i, i < n → f rec (s1 i) (s2 i) (s3 i) (s4 i) (s5 i) (s6 i) = rec (s1 (i + 1)) (s2 (i + 1)) (s3 (i + 1)) (s4 (i + 1)) (s5 (i + 1)) (s6 (i + 1))) (hf : n < fuel) : oLoop6 f fuel (s1 0) (s2 0) (s3 0) (s4 0) (s5 0) (s6 0) = some res := loop6_seq n s1 s2 s3 s4 s5 s6 res hend hstep n 0 fuel (by omega) hf
theorem loop7_seq {ρ α1 α2 α3 α4 α5 α6 α7 : Type} {f : (α1 → α2 → α3 → α4 → α5 → α6 → α7 → Option ρ) → α1 → α2 → α3 → α4 → α5 → α6 → α7 → Option ρ} (n : Nat) (s1 : Nat → α1) (s2 : Nat → α2) (s3 : Nat → α3) (s4 : Nat → α4) (s5 : Nat → α5) (s6 : Nat → α6) (s7 : Nat → α7) (res : ρ) (hend : ∀ rec, f rec (s1 n) (s2 n) (s3 n) (s4 n) (s5 n) (s6 n) (s7 n) = some res) (hstep : ∀ rec i, i < n → f rec (s1 i) (s2 i) (s3 i) (s4 i) (s5 i) (s6 i) (s7 i) = rec (s1 (i + 1)) (s2 (i + 1)) (s3 (i + 1)) (s4 (i + 1)) (s5 (i + 1)) (s6 (i + 1)) (s7 (i + 1))) : ∀ (d i fuel : Nat), i + d = n → d < fuel → oLoop7 f fuel (s1 i) (s2 i) (s3 i) (s4 i) (s5 i) (s6 i) (s7 i) = some res := by
  intro d
  induction d with
  | zero =>
    intro i fuel h1 h2
    obtain ⟨g, rfl⟩ : ∃ g, fuel = g + 1 := ⟨fuel - 1, by omega⟩
    obtain rfl : i = n := by omega
    exact hend _
  | succ d ih =>
    intro i fuel h1 h2
    obtain ⟨g, rfl⟩ : ∃ g, fuel = g + 1 := ⟨fuel - 1, by omega⟩
    exact (hstep _ i (by omega)).trans (ih (i + 1) g (by omega) (by omega))
theorem loop7_run {ρ α1 α2 α3 α4 α5 α6 α7 : Type} {f : (α1 → α2 → α3 → α4 → α5 → α6 → α7 → Option ρ) → α1 → α2 → α3 → α4 → α5 → α6 → α7 → Option ρ} {n fuel : Nat} (s1 : Nat → α1) (s2 : Nat → α2) (s3 : Nat → α3) (s4 : Nat → α4) (s5 : Nat → α5) (s6 : Nat → α6) (s7 : Nat → α7) (res : ρ) (hend : ∀ rec, f rec (s1 n) (s2 n) (s3 n) (s4 n) (s5 n) (s6 n) (s7 n) = some res) (hstep : ∀ rec i, i < n → f rec (s1 i) (s2 i) (s3 i) (s4 i) (s5 i) (s6 i) (s7 i) = rec (s1 (i + 1)) (s2 (i + 1)) (s3 (i + 1)) (s4 (i + 1)) (s5 (i + 1)) (s6 (i + 1)) (s7 (i + 1))) (hf : n < fuel) : oLoop7 f fuel (s1 0) (s2 0) (s3 0) (s4 0) (s5 0) (s6 0) (s7 0) = some res := loop7_seq n s1 s2 s3 s4 s5 s6 s7 res hend hstep n 0 fuel (by omega) hf
theorem loop8_seq {ρ α1 α2 α3 α4 α5 α6 α7 α8 : Type} {f : (α1 → α2 → α3 → α4 → α5 → α6 → α7 → α8 → Option ρ) → α1 → α2 → α3 → α4 → α5 → α6 → α7 → α8 → Option ρ} (n : Nat) (s1 : Nat → α1) (s2 : Nat → α2) (s3 : Nat → α3) (s4 : Nat → α4) (s5 : Nat → α5) (s6 : Nat → α6) (s7 : Nat → α7) (s8 : Nat → α8) (res : ρ) (hend : ∀ rec, f rec (s1 n) (s2 n) (s3 n) (s4 n) (s5 n) (s6 n) (s7 n) (s8 n) = some res) (hstep : ∀ rec i, i < n → f rec (s1 i) (s2 i) (s3 i) (s4 i) (s5 i) (s6 i) (s7 i) (s8 i) = rec (s1 (i + 1)) (s2 (i + 1)) (s3 (i + 1)) (s4 (i + 1)) (s5 (i + 1)) (s6 (i + 1)) (s7 (i + 1)) (s8 (i + 1))) : ∀ (d i fuel : Nat), i + d = n → d < fuel → oLoop8 f fuel (s1 i) (s2 i) (s3 i) (s4 i) (s5 i) (s6 i) (s7 i) (s8 i) = some res := by
  intro d
  induction d with
  | zero =>
    intro i fuel h1 h2
    obtain ⟨g, rfl⟩ : ∃ g, fuel = g + 1 := ⟨fuel - 1, by omega⟩
    obtain rfl : i = n := by omega
    exact hend _
  | succ d ih =>
    intro i fuel h1 h2
    obtain ⟨g, rfl⟩ : ∃ g, fuel = g + 1 := ⟨fuel - 1, by omega⟩
    exact (hstep _ i (by omega)).trans (ih (i + 1) g (by omega) (by omega))
theorem loop8_run {ρ α1 α2 α3 α4 α5 α6 α7 α8 : Type} {f : (α1 → α2 → α3 → α4 → α5 → α6 → α7 → α8 → Option ρ) → α1 → α2 → α3 → α4 → α5 → α6 → α7 → α8 → Option ρ} {n fuel : Nat} (s1 : Nat → α1) (s2 : Nat → α2) (s3 : Nat → α3) (s4 : Nat → α4) (s5 : Nat → α5) (s6 : Nat → α6) (s7 : Nat → α7) (s8 : Nat → α8) (res : ρ) (hend : ∀ rec, f rec (s1 n) (s2 n) (s3 n) (s4 n) (s5 n) (s6 n) (s7 n) (s8 n) = some res) (hstep : ∀ rec i, i < n → f rec (s1 i) (s2 i) (s3 i) (s4 i) (s5 i) (s6 i) (s7 i) (s8 i) = rec (s1 (i + 1)) (s2 (i + 1)) (s3 (i + 1)) (s4 (i + 1)) (s5 (i + 1)) (s6 (i + 1)) (s7 (i + 1)) (s8 (i + 1))) (hf : n < fuel) : oLoop8 f fuel (s1 0) (s2 0) (s3 0) (s4 0) (s5 0) (s6 0) (s7 0) (s8 0) = some res := loop8_seq n s1 s2 s3 s4 s5 s6 s7 s8 res hend hstep n 0 fuel (by omega) hf
theorem oIn_n {ρ : Type} {i n : Nat} {k : Option ρ} (h : i < n) (hn : n < 2 ^ 31) : oIn (nI i) n k = k := oIn_t (vp_in_nI h hn)
theorem nIm1 (n : Nat) : nI (n + 1) - 1 = nI n := nI_pred n
theorem nI_3 (i j : Nat) : 3 * nI i + nI j = nI (3 * i + j) := by rw [show (3 : Int32) = nI 3 from rfl, pk_mul, nI_add]
theorem nI_neg1 {n : Nat} (h : n < 2 ^ 31) : ¬ nI n = -1 := fun e => by
  have h1 : (nI n).toInt = (-1 : Int32).toInt := by rw [e]
  rw [nI_toInt h] at h1
  have : (-1 : Int32).toInt = -1 := by decide
  omega
/-- the least place below n where P holds, or n -/
theorem least_ex (P : Nat → Prop) [DecidablePred P] (n : Nat) : ∃ r, r ≤ n ∧ (∀ j, j < r → ¬ P j) ∧ (r < n → P r) := by
  induction n with
  | zero => exact ⟨0, Nat.le_refl _, fun j h => absurd h (Nat.not_lt_zero j), fun h => absurd h (Nat.lt_irrefl _)⟩
  | succ n ih =>
    obtain ⟨r, h1, h2, h3⟩ := ih
    by_cases hr : r < n
    · exact ⟨r, by omega, h2, fun _ => h3 hr⟩
    · obtain rfl : r = n := by omega
      by_cases hp : P r
      · exact ⟨r, by omega, h2, fun _ => hp⟩
      · refine ⟨r + 1, Nat.le_refl _, fun j hj => ?_, fun h => absurd h (Nat.lt_irrefl _)⟩
        by_cases e : j = r
        · rw [e]; exact hp
        · exact h2 j (by omega)
/-- an index below a count, in the two ways it is tested -/
theorem ix_cases (x : Int32) {n : Nat} (hn : n < 2 ^ 31) : (x < 0) ∨ (¬ x < 0 ∧ nI n ≤ x) ∨ ∃ i : Nat, i < n ∧ x = nI i ∧ ¬ x < 0 ∧ ¬ nI n ≤ x := by
  rcases pk_ix x hn with h | h | ⟨j, hj, e⟩
  · exact Or.inl h
  · by_cases h0 : x < 0
    · exact Or.inl h0
    · exact Or.inr (Or.inl ⟨h0, h⟩)
  · exact Or.inr (Or.inr ⟨j, hj, e, by rw [e]; exact nI_pos (by omega), by rw [e]; exact nI_ge hj hn⟩)

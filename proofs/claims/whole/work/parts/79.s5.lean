/-! what a turn by a plane finds, on both sides -/
theorem upd_upd (f : Nat → Int32) (k : Nat) (a b : Int32) : upd (upd f k a) k b = upd f k b := by
  funext j
  rw [upd_at, upd_at, upd_at]
  by_cases h : j = k
  · rw [if_pos h, if_pos h]
  · rw [if_neg h, if_neg h, if_neg h]
def tgv (sd T : Nat → Nat) (p : Nat) : Int32 := if sd p = 2 then nI (T p) else -1
def badP (n : Nat) (sd T : Nat → Nat) (p : Nat) : Prop := sd p = 2 ∧ ¬ (T p < n ∧ sd (T p) = 2)
theorem nI2 {a : Nat} (h : a < 3) : nI a = 2 ↔ a = 2 := nI_eqk 2 (by omega) (by omega)
theorem cpy0_s (f g : Nat → Int32) (i : Nat) : upd (cpyTo f 0 g i) i (g i) = cpyTo f 0 g (i + 1) := by
  have := cpyTo_s f g 0 i
  rw [Nat.zero_add] at this
  exact this
theorem fX_find {n i k0 r : Nat} (hn : n ≤ 60) (hi : i < 13) {nP x2 : Int32} (eP : nP = nI n) {bX bY bZ sT : Nat → Int32} {bS : Nat → Int64} {sd T : Nat → Nat} (es : sT i = nI k0) (hsd : ∀ p, sd p < 3) (hT : ∀ p, p < n → T p ≤ n) (hB : ∀ p, p < n → f_B_sideOf bS (nI p) x2 = some (nI (sd p))) (hI : ∀ p, p < n → f_B_imageOf nP bX bY bZ (nI p) (nI k0) = some (if T p < n then nI (T p) else -1)) (r1 : r ≤ n) (r2 : ∀ j, j < r → ¬ badP n sd T j) (r3 : r < n → badP n sd T r) (tG : Nat → Int32) : f_X_findTargets nP bX bY bZ bS sT tG (nI i) x2 = some (if r < n then nI r else -1, if r < n then upd (cpyTo tG 0 (tgv sd T) r) r (-1) else cpyTo tG 0 (tgv sd T) n) := by
  unfold f_X_findTargets
  have h := loop2_run (f := f_X_findTargets_L2 nP bX bY bZ bS sT (nI i) x2) (n := r) (fuel := 100) (fun p => nI p) (fun p => cpyTo tG 0 (tgv sd T) p) (if r < n then nI r else -1, if r < n then upd (cpyTo tG 0 (tgv sd T) r) r (-1) else cpyTo tG 0 (tgv sd T) n) ?_ ?_ (by omega)
  · rw [cpyTo_0] at h; exact h
  · intro rec
    simp only [f_X_findTargets_L2]
    by_cases e : r < n
    · obtain ⟨b1, b2⟩ := r3 e
      rw [if_neg (by rw [eP]; exact nI_ge e (by omega)), oIn_n (by omega) (by omega), oLet_t, hB r e, oCall1_t, if_pos ((nI2 (hsd r)).mpr b1), oIn_n (by omega) (by omega), nI_clamp (by omega), nI_clamp (by omega), es, hI r e, oCall1_t]
      simp only [if_pos e]
      by_cases t : T r < n
      · rw [if_neg (fun q => (m1_lt _ _ (by omega)).1.mp q t), if_pos t, hB (T r) t, oCall1_t, if_neg (fun q => b2 ⟨t, (nI2 (hsd _)).mp q⟩)]
      · rw [if_pos ((m1_lt _ _ (by have := hT r e; omega)).1.mpr t)]
    · obtain rfl : r = n := by omega
      rw [if_pos (by rw [eP]; exact nI_le (Nat.le_refl _) (by omega))]
      simp only [if_neg e]
  · intro rec p hp
    simp only [f_X_findTargets_L2, f_X_findTargets_J79, oLet_t]
    have hpn : p < n := by omega
    rw [if_neg (by rw [eP]; exact nI_ge hpn (by omega)), oIn_n (by omega) (by omega), hB p hpn, oCall1_t, nI_clamp (by omega), nI_1, ← cpy0_s]
    by_cases e : sd p = 2
    · have hg : T p < n ∧ sd (T p) = 2 := Classical.not_not.mp (fun q => r2 p hp ⟨e, q⟩)
      rw [if_pos ((nI2 (hsd p)).mpr e), oIn_n (by omega) (by omega), nI_clamp (by omega), es, hI p hpn, oCall1_t, if_neg (fun q => (m1_lt _ _ (by omega)).1.mp q hg.1), if_pos hg.1, hB (T p) hg.1, oCall1_t, if_pos ((nI2 (hsd _)).mpr hg.2), oIn_n (by omega) (by omega), upd_upd]
      simp only [tgv, if_pos e]
    · rw [if_neg (fun q => e ((nI2 (hsd p)).mp q)), nI_clamp (show p < 2 ^ 31 by omega)]
      simp only [tgv, if_neg e]
/-- the scratch numbers behind a loop that looks at some points alone -/
def scU (a : Int32 × Int32 × Int32) (f : Nat → Int32 × Int32 × Int32) (sd : Nat → Nat) : Nat → Int32 × Int32 × Int32
  | 0 => a
  | p + 1 => if sd p = 2 then f p else scU a f sd p
theorem scU_t {a : Int32 × Int32 × Int32} {f : Nat → Int32 × Int32 × Int32} {sd : Nat → Nat} {p : Nat} (h : sd p = 2) : scU a f sd (p + 1) = f p := by show (if sd p = 2 then f p else _) = _; rw [if_pos h]
theorem scU_f {a : Int32 × Int32 × Int32} {f : Nat → Int32 × Int32 × Int32} {sd : Nat → Nat} {p : Nat} (h : ¬ sd p = 2) : scU a f sd (p + 1) = scU a f sd p := by show (if sd p = 2 then f p else _) = _; rw [if_neg h]
theorem fM_block {n i r : Nat} (hn : n ≤ 60) {vp x2 : Int32} (eV : vp = nI n) {cx cy cz pl ca : Nat → Int32} {sd T : Nat → Nat} {F : Nat → Int32 × Int32 × Int32} (hsd : ∀ p, sd p < 3) (hT : ∀ p, p < n → T p ≤ n) (hB : ∀ p, p < n → f_M_sideOf cx cy cz pl (nI p) x2 = some (nI (sd p))) (hI : ∀ p, p < n → ∀ x y z, f_M_imageOf vp x y z cx cy cz ca (nI i) (nI p) = some (if T p < n then nI (T p) else -1, F p)) (r1 : r ≤ n) (r2 : ∀ j, j < r → ¬ badP n sd T j) (r3 : r < n → badP n sd T r) (a : Int32 × Int32 × Int32) : f_M_blocked vp a.1 a.2.1 a.2.2 cx cy cz pl ca (nI i) x2 = some (if r < n then nI (r + 1) else 0, if r < n then F r else scU a F sd n) := by
  unfold f_M_blocked
  refine loop4_run (n := r) (fun p => nI p) (fun p => (scU a F sd p).1) (fun p => (scU a F sd p).2.1) (fun p => (scU a F sd p).2.2) _ ?_ ?_ (by omega)
  · intro rec
    simp only [f_M_blocked_L2]
    by_cases e : r < n
    · obtain ⟨b1, b2⟩ := r3 e
      rw [if_neg (by rw [eV]; exact nI_ge e (by omega)), hB r e, oCall1_t, if_pos ((nI2 (hsd r)).mpr b1), hI r e]
      simp only [if_pos e]
      show (if (if T r < n then nI (T r) else -1) < (0 : Int32) then some (1 + nI r, F r) else _) = _
      have e1 : 1 + nI r = nI (r + 1) := by rw [Int32.add_comm]; exact nI_1 r
      by_cases t : T r < n
      · rw [if_neg (fun q => (m1_lt _ _ (by omega)).2.1.mp q t), if_pos t, hB (T r) t, oCall1_t, if_neg (fun q => b2 ⟨t, (nI2 (hsd _)).mp q⟩), e1]
      · rw [if_pos ((m1_lt _ _ (by have := hT r e; omega)).2.1.mpr t), e1]
    · obtain rfl : r = n := by omega
      rw [if_pos (by rw [eV]; exact nI_le (Nat.le_refl _) (by omega))]
      simp only [if_neg e]
  · intro rec p hp
    simp only [f_M_blocked_L2, f_M_blocked_J51, oLet_t]
    have hpn : p < n := by omega
    rw [if_neg (by rw [eV]; exact nI_ge hpn (by omega)), hB p hpn, oCall1_t, nI_1]
    by_cases e : sd p = 2
    · have hg : T p < n ∧ sd (T p) = 2 := Classical.not_not.mp (fun q => r2 p hp ⟨e, q⟩)
      rw [if_pos ((nI2 (hsd p)).mpr e), hI p hpn, scU_t e]
      show (if (if T p < n then nI (T p) else -1) < (0 : Int32) then _ else _) = _
      rw [if_neg (fun q => (m1_lt _ _ (by omega)).2.1.mp q hg.1), if_pos hg.1, hB (T p) hg.1, oCall1_t, if_pos ((nI2 (hsd _)).mpr hg.2)]
    · rw [if_neg (fun q => e ((nI2 (hsd p)).mp q)), scU_f e]
def Gate (n : Nat) (sd T : Nat → Nat) : Prop := ∀ p, p < n → sd p = 2 → T p < n ∧ sd (T p) = 2
theorem fM_plan {n i sl : Nat} (hn : n ≤ 60) (hsl : sl < 14) {vp x3 : Int32} (eV : vp = nI n) {cx cy cz pl ca : Nat → Int32} {sd T : Nat → Nat} {F : Nat → Int32 × Int32 × Int32} (hsd : ∀ p, sd p < 3) (hB : ∀ p, p < n → f_M_sideOf cx cy cz pl (nI p) x3 = some (nI (sd p))) (hI : ∀ p, p < n → ∀ x y z, f_M_imageOf vp x y z cx cy cz ca (nI i) (nI p) = some (if T p < n then nI (T p) else -1, F p)) (hG : Gate n sd T) (a : Int32 × Int32 × Int32) (ct : Nat → Int32) : ∃ c : Int32 × Int32 × Int32, f_M_plan vp a.1 a.2.1 a.2.2 cx cy cz pl ca ct (nI sl) (nI i) x3 = some (c.1, c.2.1, c.2.2, cpyTo ct (60 * sl) (tgv sd T) n) := by
  refine ⟨scU a F sd n, ?_⟩
  unfold f_M_plan
  have h := loop5_run (f := f_M_plan_L3 vp cx cy cz pl ca (nI sl) (nI i) x3) (n := n) (fuel := 100) (fun p => nI p) (fun p => (scU a F sd p).1) (fun p => (scU a F sd p).2.1) (fun p => (scU a F sd p).2.2) (fun p => cpyTo ct (60 * sl) (tgv sd T) p) ((scU a F sd n).1, (scU a F sd n).2.1, (scU a F sd n).2.2, cpyTo ct (60 * sl) (tgv sd T) n) ?_ ?_ (by omega)
  · rw [cpyTo_0] at h; exact h
  · intro rec
    simp only [f_M_plan_L3]
    rw [if_pos (by rw [eV]; exact nI_le (Nat.le_refl _) (by omega))]
  · intro rec p hp
    simp only [f_M_plan_L3, f_M_plan_J45, oLet_t]
    rw [if_neg (by rw [eV]; exact nI_ge hp (by omega)), hB p hp, oCall1_t, nI_1, n60, ← cpyTo_s]
    by_cases e : sd p = 2
    · rw [if_pos ((nI2 (hsd p)).mpr e), hI p hp, scU_t e, if_pos (hG p hp e).1]
      show oIn (nI (60 * sl + p)) 840 _ = _
      rw [oIn_n (by omega) (by omega), nI_clamp (by omega)]
      simp only [tgv, if_pos e]
    · rw [if_neg (fun q => e ((nI2 (hsd p)).mp q)), scU_f e, oIn_n (by omega) (by omega), nI_clamp (by omega)]
      simp only [tgv, if_neg e]
theorem tgv_m1 {sd T : Nat → Nat} {p : Nat} (h : T p < 2 ^ 31) : (tgv sd T p = -1 ↔ ¬ sd p = 2) ∧ ((0 : Int32) ≤ tgv sd T p ↔ sd p = 2) := by
  unfold tgv
  exact ⟨(m1_lt _ _ h).1, (m1_lt _ _ h).2.2⟩
theorem fX_tbt {n k0 : Nat} (hn : n ≤ 60) (hk : k0 < 24) {nP : Int32} (eP : nP = nI n) {sd T w : Nat → Nat} (hG : Gate n sd T) {tG cO cT : Nat → Int32} (sO sP : Nat → Int32) (htg : ∀ p, p < n → tG p = tgv sd T p) (hw : ∀ p, p < n → w p < 24 ∧ cT p = nI (w p)) : f_X_turnByTargets nP sO sP tG cO cT (nI k0) = some (va_cpy cO sO 0 0 60, va_cpy cT sP 0 0 60, puts (fun p => sd p = 2) T cO cO n, puts (fun p => sd p = 2) T (fun p => nI (cmpN k0 (w p))) cT n) := by
  unfold f_X_turnByTargets f_C_copyFrom
  rw [oLet_t, oLet_t, oCall2_t]
  refine loop3_run (n := n) (fun p => nI p) (fun p => puts (fun p => sd p = 2) T cO cO p) (fun p => puts (fun p => sd p = 2) T (fun p => nI (cmpN k0 (w p))) cT p) _ ?_ ?_ (by omega)
  · intro rec
    simp only [f_X_turnByTargets_L10]
    rw [if_pos (by rw [eP]; exact nI_le (Nat.le_refl _) (by omega))]
  · intro rec p hp
    simp only [f_X_turnByTargets_L10, f_X_turnByTargets_J71, oLet_t]
    have c1 : va_cpy cO sO 0 0 60 p = cO p := by rw [pk_cpy_in (by omega) (by omega)]; simp
    have c2 : va_cpy cT sP 0 0 60 p = cT p := by rw [pk_cpy_in (by omega) (by omega)]; simp
    rw [if_neg (by rw [eP]; exact nI_ge hp (by omega)), oIn_n (by omega) (by omega), nI_clamp (by omega), htg p hp, nI_1, c1, c2, (hw p hp).2, (cmp_tab k0 hk (w p) (hw p hp).1).1, oCall1_t]
    by_cases e : sd p = 2
    · have hlt := (hG p hp e).1
      rw [if_neg (fun q => (tgv_m1 (sd := sd) (by omega)).1.mp q e)]
      have et : tgv sd T p = nI (T p) := by unfold tgv; rw [if_pos e]
      rw [et, oIn_n (by omega) (by omega), oIn_n (by omega) (by omega), oIn_n (by omega) (by omega), oIn_n (by omega) (by omega), nI_clamp (by omega)]
      show rec _ _ _ = rec _ (if sd p = 2 then _ else _) (if sd p = 2 then _ else _)
      rw [if_pos e, if_pos e]
    · have et : tgv sd T p = -1 := by unfold tgv; rw [if_neg e]
      rw [if_pos et]
      show rec _ _ _ = rec _ (if sd p = 2 then _ else _) (if sd p = 2 then _ else _)
      rw [if_neg e, if_neg e]

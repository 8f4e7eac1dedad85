theorem puts_congr {up : Nat → Prop} [DecidablePred up] {T : Nat → Nat} {val val' f f' : Nat → Int32} : ∀ n, (∀ p, p < n → val p = val' p) → ∀ N, (∀ j, j < N → f j = f' j) → ∀ j, j < N → puts up T val f n j = puts up T val' f' n j := by
  intro n
  induction n with
  | zero => intro _ N hf j hj; exact hf j hj
  | succ n ih =>
    intro hv N hf j hj
    have h1 := ih (fun p hp => hv p (by omega)) N hf j hj
    show (if up n then upd (puts up T val f n) (T n) (val n) else puts up T val f n) j = (if up n then upd (puts up T val' f' n) (T n) (val' n) else puts up T val' f' n) j
    by_cases e : up n
    · rw [if_pos e, if_pos e, upd_at, upd_at, h1, hv n (by omega)]
    · rw [if_neg e, if_neg e]; exact h1
theorem cpy0_in {f g : Nat → Int32} {i p : Nat} (h : p < i) : cpyTo f 0 g i p = g p := by
  have := cpyTo_in (f := f) (g := g) (b := 0) h
  rw [Nat.zero_add] at this; exact this
theorem fM_once3 {n : Nat} (hn : n ≤ 60) {vp : Int32} (eV : vp = nI n) (ca ct : Nat → Int32) (a b c : Int32) (nW nY w v : Nat → Int32) : oLoop3 (f_M_turnOnce_L110 vp ca ct a b c nW nY) 100 0 w v = some (a, b, c, cpyTo w 0 nW n, cpyTo v 0 nY n, nW, nY) := by
  have h := loop3_run (f := f_M_turnOnce_L110 vp ca ct a b c nW nY) (n := n) (fuel := 100) (fun p => nI p) (fun p => cpyTo w 0 nW p) (fun p => cpyTo v 0 nY p) (a, b, c, cpyTo w 0 nW n, cpyTo v 0 nY n, nW, nY) ?_ ?_ (by omega)
  · rw [cpyTo_0, cpyTo_0] at h; exact h
  · intro rec
    simp only [f_M_turnOnce_L110]
    rw [if_pos (by rw [eV]; exact nI_le (Nat.le_refl _) (by omega))]
  · intro rec p hp
    simp only [f_M_turnOnce_L110, oLet_t]
    rw [if_neg (by rw [eV]; exact nI_ge hp (by omega)), oIn_n (by omega) (by omega), oIn_n (by omega) (by omega), oIn_n (by omega) (by omega), oIn_n (by omega) (by omega), nI_clamp (by omega), nI_1, cpy0_s, cpy0_s]
theorem fM_once2 {n i sl k0 : Nat} (hn : n ≤ 60) (hsl : sl < 14) {vp : Int32} (eV : vp = nI n) {ca ct cwas cways : Nat → Int32} {sd T w : Nat → Nat} (hG : Gate n sd T) (hct : ∀ p, p < n → ct (60 * sl + p) = tgv sd T p) (S : Nat → Int32 × Int32 × Int32) (hS : ∀ p, p < n → ∀ a b c, f_M_wayBehind a b c ca (nI i) (cways p) = some (nI (cmpN k0 (w p)), S p)) (a : Int32 × Int32 × Int32) (nW nY : Nat → Int32) : ∃ c : Int32 × Int32 × Int32, oLoop6 (f_M_turnOnce_L42 vp ca ct (nI sl) (nI i) cwas cways) 100 0 a.1 a.2.1 a.2.2 nW nY = some (c.1, c.2.1, c.2.2, cpyTo cwas 0 (puts (fun p => sd p = 2) T cwas nW n) n, cpyTo cways 0 (puts (fun p => sd p = 2) T (fun p => nI (cmpN k0 (w p))) nY n) n, puts (fun p => sd p = 2) T cwas nW n, puts (fun p => sd p = 2) T (fun p => nI (cmpN k0 (w p))) nY n) := by
  refine ⟨scU a S sd n, ?_⟩
  refine loop6_run (n := n) (fun p => nI p) (fun p => (scU a S sd p).1) (fun p => (scU a S sd p).2.1) (fun p => (scU a S sd p).2.2) (fun p => puts (fun p => sd p = 2) T cwas nW p) (fun p => puts (fun p => sd p = 2) T (fun p => nI (cmpN k0 (w p))) nY p) _ ?_ ?_ (by omega)
  · intro rec
    simp only [f_M_turnOnce_L42]
    rw [if_pos (by rw [eV]; exact nI_le (Nat.le_refl _) (by omega)), fM_once3 hn eV]
  · intro rec p hp
    simp only [f_M_turnOnce_L42, f_M_turnOnce_J102, oLet_t]
    rw [if_neg (by rw [eV]; exact nI_ge hp (by omega)), n60, oIn_n (by omega) (by omega), nI_clamp (show 60 * sl + p < 2 ^ 31 by omega), hct p hp, nI_1, nI_clamp (show p < 2 ^ 31 by omega), hS p hp]
    by_cases e : sd p = 2
    · have hlt := (hG p hp e).1
      have et : tgv sd T p = nI (T p) := by unfold tgv; rw [if_pos e]
      rw [if_pos ((tgv_m1 (sd := sd) (by omega)).2.mpr e), et, oIn_n (by omega) (by omega), oIn_n (by omega) (by omega), oIn_n (by omega) (by omega), nI_clamp (by omega), scU_t e]
      show oIn (nI (T p)) 60 _ = rec _ _ _ _ (if sd p = 2 then _ else _) (if sd p = 2 then _ else _)
      rw [oIn_n (by omega) (by omega), if_pos e, if_pos e]
    · have hno : ¬ (0 : Int32) ≤ tgv sd T p := by unfold tgv; rw [if_neg e]; decide
      rw [if_neg hno, scU_f e]
      show rec _ _ _ _ _ _ = rec _ _ _ _ (if sd p = 2 then _ else _) (if sd p = 2 then _ else _)
      rw [if_neg e, if_neg e]
theorem fM_once {n i sl k0 : Nat} (hn : n ≤ 60) (hsl : sl < 14) {vp : Int32} (eV : vp = nI n) {ca ct cwas cways : Nat → Int32} {sd T w : Nat → Nat} (hG : Gate n sd T) (hct : ∀ p, p < n → ct (60 * sl + p) = tgv sd T p) (S : Nat → Int32 × Int32 × Int32) (hS : ∀ p, p < n → ∀ a b c, f_M_wayBehind a b c ca (nI i) (cways p) = some (nI (cmpN k0 (w p)), S p)) (a : Int32 × Int32 × Int32) (nW nY : Nat → Int32) : ∃ (c : Int32 × Int32 × Int32) (was' ways' nW' nY' : Nat → Int32), f_M_turnOnce vp a.1 a.2.1 a.2.2 ca cwas cways nW nY ct (nI sl) (nI i) = some (c.1, c.2.1, c.2.2, was', ways', nW', nY') ∧ (∀ j, j < n → was' j = puts (fun p => sd p = 2) T cwas cwas n j ∧ ways' j = puts (fun p => sd p = 2) T (fun p => nI (cmpN k0 (w p))) cways n j) := by
  obtain ⟨c, hc⟩ := fM_once2 (cwas := cwas) hn hsl eV hG hct S hS a (cpyTo nW 0 cwas n) (cpyTo nY 0 cways n)
  refine ⟨c, cpyTo cwas 0 (puts (fun p => sd p = 2) T cwas (cpyTo nW 0 cwas n) n) n, cpyTo cways 0 (puts (fun p => sd p = 2) T (fun p => nI (cmpN k0 (w p))) (cpyTo nY 0 cways n) n) n, puts (fun p => sd p = 2) T cwas (cpyTo nW 0 cwas n) n, puts (fun p => sd p = 2) T (fun p => nI (cmpN k0 (w p))) (cpyTo nY 0 cways n) n, ?_, ?_⟩
  · unfold f_M_turnOnce
    have h := loop3_run (f := f_M_turnOnce_L2 vp ca ct (nI sl) (nI i) a.1 a.2.1 a.2.2 cwas cways) (n := n) (fuel := 100) (fun p => nI p) (fun p => cpyTo nW 0 cwas p) (fun p => cpyTo nY 0 cways p) (c.1, c.2.1, c.2.2, cpyTo cwas 0 (puts (fun p => sd p = 2) T cwas (cpyTo nW 0 cwas n) n) n, cpyTo cways 0 (puts (fun p => sd p = 2) T (fun p => nI (cmpN k0 (w p))) (cpyTo nY 0 cways n) n) n, puts (fun p => sd p = 2) T cwas (cpyTo nW 0 cwas n) n, puts (fun p => sd p = 2) T (fun p => nI (cmpN k0 (w p))) (cpyTo nY 0 cways n) n) ?_ ?_ (by omega)
    · rw [cpyTo_0, cpyTo_0] at h; exact h
    · intro rec
      simp only [f_M_turnOnce_L2]
      rw [if_pos (by rw [eV]; exact nI_le (Nat.le_refl _) (by omega))]
      exact hc
    · intro rec p hp
      simp only [f_M_turnOnce_L2, oLet_t]
      rw [if_neg (by rw [eV]; exact nI_ge hp (by omega)), oIn_n (by omega) (by omega), oIn_n (by omega) (by omega), oIn_n (by omega) (by omega), oIn_n (by omega) (by omega), nI_clamp (by omega), nI_1, cpy0_s, cpy0_s]
  · intro j hj
    rw [cpy0_in hj, cpy0_in hj]
    exact ⟨puts_congr n (fun _ _ => rfl) n (fun q hq => cpy0_in hq) j hj, puts_congr n (fun _ _ => rfl) n (fun q hq => cpy0_in hq) j hj⟩
/-- the move of a gate: where a point's content goes, and by which way it is turned -/
def mvP (sd T : Nat → Nat) (p : Nat) : Nat := if sd p = 2 then T p else p
def mvC (k0 : Nat) (sd : Nat → Nat) (p : Nat) : Nat := if sd p = 2 then k0 else 0
theorem mvP_lt {n : Nat} {sd T : Nat → Nat} (hG : Gate n sd T) {p : Nat} (hp : p < n) : mvP sd T p < n := by
  unfold mvP
  by_cases e : sd p = 2
  · rw [if_pos e]; exact (hG p hp e).1
  · rw [if_neg e]; exact hp
theorem mvP_inj {n : Nat} {sd T : Nat → Nat} (hG : Gate n sd T) (hi : ∀ p q, p < n → q < n → T p < n → T p = T q → p = q) {p q : Nat} (hp : p < n) (hq : q < n) (e : mvP sd T p = mvP sd T q) : p = q := by
  unfold mvP at e
  by_cases e1 : sd p = 2 <;> by_cases e2 : sd q = 2
  · rw [if_pos e1, if_pos e2] at e; exact hi p q hp hq (hG p hp e1).1 e
  · rw [if_pos e1, if_neg e2] at e
    exact absurd (e ▸ (hG p hp e1).2) e2
  · rw [if_neg e1, if_pos e2] at e
    exact absurd (e ▸ (hG q hq e2).2) e1
  · rw [if_neg e1, if_neg e2] at e; exact e
theorem puts_mv {n : Nat} {sd T : Nat → Nat} (hG : Gate n sd T) (hi : ∀ p q, p < n → q < n → T p < n → T p = T q → p = q) (val f : Nat → Int32) {p : Nat} (hp : p < n) : puts (fun p => sd p = 2) T val f n (mvP sd T p) = if sd p = 2 then val p else f p := by
  unfold mvP
  by_cases e : sd p = 2
  · rw [if_pos e, if_pos e]
    exact puts_in n hp e (fun q hq hu eq => (hi p q hp hq (hG p hp e).1 eq.symm).symm)
  · rw [if_neg e, if_neg e]
    refine puts_out n (fun q hq hu eq => e ?_)
    have := (hG q hq hu).2
    rw [eq] at this
    exact this

theorem upd_at (f : Nat → Int32) (k : Nat) (x : Int32) (j : Nat) : upd f k x j = if j = k then x else f j := rfl
theorem wi_bad {x k : Int32} (h : x < -k ∨ k < x) : f_X_isWithin x k = some 0 := by
  unfold f_X_isWithin
  rcases h with h | h
  · rw [if_pos h]
  · by_cases h9 : x < -k
    · rw [if_pos h9]
    · rw [if_neg h9, if_pos h]
theorem wi_ok {x k : Int32} (h1 : ¬ x < -k) (h2 : ¬ k < x) : f_X_isWithin x k = some 1 := by unfold f_X_isWithin; rw [if_neg h1, if_neg h2]
theorem ia_bad {x : Int32} (h : x < -1 ∨ 1 < x) : f_M_isArrow x = some 0 := by
  unfold f_M_isArrow
  rcases h with h | h
  · rw [if_pos h]
  · by_cases h9 : x < -1
    · rw [if_pos h9]
    · rw [if_neg h9, if_pos h]
theorem ia_ok {x : Int32} (h1 : ¬ x < -1) (h2 : ¬ 1 < x) : f_M_isArrow x = some 1 := by unfold f_M_isArrow; rw [if_neg h1, if_neg h2]
theorem is_bad {x : Int32} (h : x < -9 ∨ 9 < x) : f_M_isSmall x = some 0 := by
  unfold f_M_isSmall
  rcases h with h | h
  · rw [if_pos h]
  · by_cases h9 : x < -9
    · rw [if_pos h9]
    · rw [if_neg h9, if_pos h]
theorem is_ok {x : Int32} (h1 : ¬ x < -9) (h2 : ¬ 9 < x) : f_M_isSmall x = some 1 := by unfold f_M_isSmall; rw [if_neg h1, if_neg h2]
theorem n3a (a : Nat) : 3 * nI a = nI (3 * a) := pk_mul 3 a
theorem n3b (a : Nat) : 3 * nI a + 1 = nI (3 * a + 1) := by rw [n3a]; exact nI_add _ 1
theorem n3c (a : Nat) : 3 * nI a + 2 = nI (3 * a + 2) := by rw [n3a]; exact nI_add _ 2
theorem n4a (a : Nat) : 4 * nI a = nI (4 * a) := pk_mul 4 a
theorem n4b (a : Nat) : 4 * nI a + 1 = nI (4 * a + 1) := by rw [n4a]; exact nI_add _ 1
theorem n4c (a : Nat) : 4 * nI a + 2 = nI (4 * a + 2) := by rw [n4a]; exact nI_add _ 2
theorem n4d (a : Nat) : 4 * nI a + 3 = nI (4 * a + 3) := by rw [n4a]; exact nI_add _ 3
theorem n2a (a : Nat) : 2 * nI a = nI (2 * a) := pk_mul 2 a
theorem n60 (a b : Nat) : 60 * nI a + nI b = nI (60 * a + b) := by rw [show (60 : Int32) = nI 60 from rfl, pk_mul, nI_add]
theorem nI_eqk {a : Nat} (k : Nat) (ha : a < 2 ^ 31) (hk : k < 2 ^ 31) : nI a = OfNat.ofNat k ↔ a = k := nI_eq ha hk
theorem fX_axis_go {a : Nat} (ha : a < 13) (sT : Nat → Int32) {x1 x2 x3 r : Int32} (h1 : ¬ (x1 < -1 ∨ 1 < x1)) (h2 : ¬ (x2 < -1 ∨ 1 < x2)) (h3 : ¬ (x3 < -1 ∨ 1 < x3)) (hz : ¬ (x1 = 0 ∧ x2 = 0 ∧ x3 = 0)) (hs : f_W_stepAbout x1 x2 x3 = some r) : f_X_axis (nI a) sT x1 x2 x3 = some (nI a, nI (a + 1), upd sT a r) := by
  have hj : f_X_axis_J38 x1 x2 x3 (nI a) sT = some (nI a, nI (a + 1), upd sT a r) := by
    unfold f_X_axis_J38
    rw [if_pos (show nI a < 13 from nI_lt (b := 13) ha (by omega)), hs, oCall1_t, oIn_n ha (by omega), oLet_t, oLet_t, nI_clamp (by omega), nI_1, nIm1]
  unfold f_X_axis
  rw [wi_ok (fun h => h1 (Or.inl h)) (fun h => h1 (Or.inr h)), oCall1_t, if_neg (by decide), wi_ok (fun h => h2 (Or.inl h)) (fun h => h2 (Or.inr h)), oCall1_t, if_neg (by decide), wi_ok (fun h => h3 (Or.inl h)) (fun h => h3 (Or.inr h)), oCall1_t, if_neg (by decide), hj]
  by_cases e1 : x1 = 0
  · rw [if_pos e1]
    by_cases e2 : x2 = 0
    · rw [if_pos e2, if_neg (fun e3 => hz ⟨e1, e2, e3⟩)]
    · rw [if_neg e2]
  · rw [if_neg e1]
theorem fM_axis_go {a : Nat} (ha : a < 13) (t : Int32) (ca : Nat → Int32) {x1 x2 x3 : Int32} (h1 : ¬ (x1 < -1 ∨ 1 < x1)) (h2 : ¬ (x2 < -1 ∨ 1 < x2)) (h3 : ¬ (x3 < -1 ∨ 1 < x3)) (hz : ¬ (x1 = 0 ∧ x2 = 0 ∧ x3 = 0)) : f_M_axis t (nI a) ca x1 x2 x3 = some (nI a, 0, nI (a + 1), upd (upd (upd ca (3 * a) x1) (3 * a + 1) x2) (3 * a + 2) x3) := by
  have hj : f_M_axis_J38 x1 x2 x3 0 (nI a) ca = some (nI a, 0, nI (a + 1), upd (upd (upd ca (3 * a) x1) (3 * a + 1) x2) (3 * a + 2) x3) := by
    unfold f_M_axis_J38
    rw [if_neg (show ¬ nI a = 13 from fun e => by have := (nI_eqk 13 (by omega) (by omega)).mp e; omega), n3b, n3c, n3a, oIn_n (by omega) (by omega), oLet_t, oIn_n (by omega) (by omega), oLet_t, oIn_n (by omega) (by omega), oLet_t, oLet_t, nI_clamp (by omega), nI_clamp (by omega), nI_clamp (by omega), nI_1, nIm1]
  unfold f_M_axis
  rw [ia_ok (fun h => h1 (Or.inl h)) (fun h => h1 (Or.inr h)), oCall1_t, if_neg (by decide), ia_ok (fun h => h2 (Or.inl h)) (fun h => h2 (Or.inr h)), oCall1_t, if_neg (by decide), ia_ok (fun h => h3 (Or.inl h)) (fun h => h3 (Or.inr h)), oCall1_t, if_neg (by decide), hj]
  by_cases e1 : x1 = 0
  · rw [if_pos e1]
    by_cases e2 : x2 = 0
    · rw [if_pos e2, if_neg (fun e3 => hz ⟨e1, e2, e3⟩)]
    · rw [if_neg e2]
  · rw [if_neg e1]
theorem relC_grow {n : Nat} {nO nT w v : Nat → Int32} (h : RelC n nO nT w v) {nO' nT' w' v' : Nat → Int32} (e : ∀ p, p < n → nO' p = nO p ∧ nT' p = nT p ∧ w' p = w p ∧ v' p = v p) : RelC n nO' nT' w' v' := by
  refine ⟨fun p hp => ?_, fun p q hp hq hpq => ?_⟩
  · obtain ⟨e1, e2, e3, e4⟩ := e p hp
    rw [e1, e2, e3, e4]
    exact h.1 p hp
  · rw [(e p hp).2.2.1, (e q hq).2.2.1] at hpq
    exact h.2 p q hp hq hpq
theorem sgn3_lt (v : Int32) : sgn3 v < 3 := by unfold sgn3; split <;> (try split) <;> omega
/-- rows written one by one: places b .. b + i of the target hold the first i of the source -/
def cpyTo (f : Nat → Int32) (b : Nat) (g : Nat → Int32) (i : Nat) : Nat → Int32 := fun j => if b ≤ j ∧ j < b + i then g (j - b) else f j
theorem cpyTo_0 (f g : Nat → Int32) (b : Nat) : cpyTo f b g 0 = f := by funext j; unfold cpyTo; rw [if_neg (by omega)]
theorem cpyTo_s (f g : Nat → Int32) (b i : Nat) : upd (cpyTo f b g i) (b + i) (g i) = cpyTo f b g (i + 1) := by
  funext j
  rw [upd_at]
  unfold cpyTo
  by_cases h : j = b + i
  · rw [if_pos h, if_pos (by omega), h, show b + i - b = i by omega]
  · rw [if_neg h]
    by_cases h2 : b ≤ j ∧ j < b + i
    · rw [if_pos h2, if_pos (by omega)]
    · rw [if_neg h2, if_neg (by omega)]
theorem cpyTo_in {f g : Nat → Int32} {b i p : Nat} (h : p < i) : cpyTo f b g i (b + p) = g p := by unfold cpyTo; rw [if_pos (by omega), show b + p - b = p by omega]
theorem cpyTo_out {f g : Nat → Int32} {b i j : Nat} (h : j < b ∨ b + i ≤ j) : cpyTo f b g i j = f j := by unfold cpyTo; rw [if_neg (by omega)]
theorem fC_init : f_C_init = some (cpyTo (fun _ => 0) 0 nI 60, fun _ => 0) := by
  unfold f_C_init
  have h := loop2_run (f := f_C_init_L22 (fun _ => 0)) (n := 60) (fuel := 100) (fun i => nI i) (fun i => cpyTo (fun _ => 0) 0 nI i) (cpyTo (fun _ => 0) 0 nI 60, fun _ => 0) ?_ ?_ (by omega)
  · rw [cpyTo_0] at h; exact h
  · intro rec
    simp only [f_C_init_L22]
    rw [if_pos (show (60 : Int32) ≤ nI 60 by decide)]
  · intro rec i hi
    simp only [f_C_init_L22, oLet_t]
    rw [if_neg (show ¬ (60 : Int32) ≤ nI i from nI_ge (b := 60) hi (by omega)), oIn_n hi (by omega), nI_clamp (by omega), nI_1]
    have := cpyTo_s (fun _ => 0) nI 0 i
    rw [Nat.zero_add] at this
    rw [this]
theorem fM_keep_go {n k : Nat} (hn : n ≤ 60) (hk : k < 10) (t : Int32) (w v kw kv kp : Nat → Int32) : f_M_keep t (nI n) (nI k) w v kw kv kp = some (nI k, 0, nI (k + 1), cpyTo kw (60 * k) w n, cpyTo kv (60 * k) v n, upd kp k (nI n)) := by
  unfold f_M_keep
  rw [if_neg (show ¬ nI k = 10 from fun e => by have := (nI_eqk 10 (by omega) (by omega)).mp e; omega)]
  have h := loop3_run (f := f_M_keep_L18 (nI n) w v 0 (nI k) kp) (n := n) (fuel := 100) (fun i => nI i) (fun i => cpyTo kw (60 * k) w i) (fun i => cpyTo kv (60 * k) v i) (nI k, 0, nI (k + 1), cpyTo kw (60 * k) w n, cpyTo kv (60 * k) v n, upd kp k (nI n)) ?_ ?_ (by omega)
  · rw [cpyTo_0, cpyTo_0] at h; exact h
  · intro rec
    simp only [f_M_keep_L18]
    rw [if_pos (nI_le (Nat.le_refl n) (by omega)), oIn_n hk (by omega), oLet_t, oLet_t, nI_clamp (by omega), nI_1, nIm1]
  · intro rec i hi
    simp only [f_M_keep_L18, oLet_t]
    rw [if_neg (nI_ge hi (by omega)), n60, oIn_n (show i < 60 by omega) (by omega), oIn_n (show 60 * k + i < 600 by omega) (by omega), oIn_n (show i < 60 by omega) (by omega), oIn_n (show 60 * k + i < 600 by omega) (by omega), nI_clamp (show i < 2 ^ 31 by omega), nI_clamp (show 60 * k + i < 2 ^ 31 by omega), nI_1, cpyTo_s, cpyTo_s]
theorem fM_back_go {n k j : Nat} (hn : n ≤ 60) (hj : j < k) (hk : k ≤ 10) (t : Int32) (w v kw kv kp : Nat → Int32) (hp : kp j = nI n) : f_M_back t (nI n) (nI k) w v kw kv kp (nI j) = some (1, 0, cpyTo w 0 (fun p => kw (60 * j + p)) n, cpyTo v 0 (fun p => kv (60 * j + p)) n) := by
  unfold f_M_back
  rw [if_neg (nI_pos (by omega)), if_neg (nI_ge hj (by omega)), oIn_n (by omega) (by omega), nI_clamp (by omega), if_pos hp]
  have h := loop3_run (f := f_M_back_L34 (nI n) (nI k) kw kv kp (nI j) 0) (n := n) (fuel := 100) (fun i => nI i) (fun i => cpyTo w 0 (fun p => kw (60 * j + p)) i) (fun i => cpyTo v 0 (fun p => kv (60 * j + p)) i) (1, 0, cpyTo w 0 (fun p => kw (60 * j + p)) n, cpyTo v 0 (fun p => kv (60 * j + p)) n) ?_ ?_ (by omega)
  · rw [cpyTo_0, cpyTo_0] at h; exact h
  · intro rec
    simp only [f_M_back_L34]
    rw [if_pos (nI_le (Nat.le_refl n) (by omega))]
  · intro rec i hi
    simp only [f_M_back_L34, oLet_t]
    have s1 := cpyTo_s w (fun p => kw (60 * j + p)) 0 i
    have s2 := cpyTo_s v (fun p => kv (60 * j + p)) 0 i
    rw [Nat.zero_add] at s1 s2
    rw [if_neg (nI_ge hi (by omega)), n60, oIn_n (show 60 * j + i < 600 by omega) (by omega), oIn_n (show i < 60 by omega) (by omega), oIn_n (show 60 * j + i < 600 by omega) (by omega), oIn_n (show i < 60 by omega) (by omega), nI_clamp (show i < 2 ^ 31 by omega), nI_clamp (show 60 * j + i < 2 ^ 31 by omega), nI_1, s1, s2]

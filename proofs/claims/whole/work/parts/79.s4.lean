/-! moves of the contents: one-to-one on the points, hence onto -/
theorem pig : ∀ (n : Nat) (f : Nat → Nat), (∀ i, i < n → f i < n) → (∀ i j, i < n → j < n → f i = f j → i = j) → ∀ j, j < n → ∃ i, i < n ∧ f i = j := by
  intro n
  induction n with
  | zero => intro f _ _ j hj; omega
  | succ n ih =>
    intro f hf hi j hj
    have hk : f n < n + 1 := hf n (by omega)
    have hg1 : ∀ i, i < n → (if f i = n then f n else f i) < n := by
      intro i hin
      have h1 := hf i (by omega)
      by_cases e : f i = n
      · rw [if_pos e]
        rcases Nat.lt_or_ge (f n) n with h | h
        · exact h
        · have := hi i n (by omega) (by omega) (by omega)
          omega
      · rw [if_neg e]; omega
    have hg2 : ∀ i j, i < n → j < n → (if f i = n then f n else f i) = (if f j = n then f n else f j) → i = j := by
      intro i j hin hjn e
      by_cases e1 : f i = n <;> by_cases e2 : f j = n
      · exact hi i j (by omega) (by omega) (by omega)
      · rw [if_pos e1, if_neg e2] at e
        have := hi n j (by omega) (by omega) e
        omega
      · rw [if_neg e1, if_pos e2] at e
        have := hi i n (by omega) (by omega) e
        omega
      · rw [if_neg e1, if_neg e2] at e
        exact hi i j (by omega) (by omega) e
    have hs := ih (fun i => if f i = n then f n else f i) hg1 hg2
    by_cases ej : j = f n
    · exact ⟨n, by omega, ej.symm⟩
    · by_cases ejn : j = n
      · have hkn : f n < n := by omega
        obtain ⟨i, hin, e⟩ := hs (f n) hkn
        by_cases e1 : f i = n
        · exact ⟨i, by omega, by omega⟩
        · simp only [if_neg e1] at e
          have := hi i n (by omega) (by omega) e
          omega
      · obtain ⟨i, hin, e⟩ := hs j (by omega)
        by_cases e1 : f i = n
        · simp only [if_pos e1] at e
          omega
        · simp only [if_neg e1] at e
          exact ⟨i, by omega, e⟩
/-- ways one behind the other, as numbers -/
def cmpN (k t : Nat) : Nat := ((f_W_compose (nI k) (nI t)).getD 0).toNatClampNeg
theorem cmp_tab : ∀ k, k < 24 → ∀ t, t < 24 → f_W_compose (nI k) (nI t) = some (nI (cmpN k t)) ∧ cmpN k t < 24 := by decide +kernel
theorem cmp_id : ∀ t, t < 24 → cmpN 0 t = t ∧ cmpN t 0 = t := by decide +kernel
def tkV (u v w x2 : Int32) : Option (Int32 × Int32 × Int32 × Int32) := oCall1 (f_M_arrow x2 0) (fun r1 => oCall1 (f_M_arrow x2 1) (fun r2 => oCall1 (f_M_arrow x2 2) (fun r3 => oCall3 (some (stepV u v w r1 r2 r3)) (fun o4 o5 o6 => oCall1 (f_M_arrowOf o4 o5 o6) (fun r7 => some (r7, o4, o5, o6))))))
theorem fM_taken {i : Nat} (hi : i < 13) (a b c : Int32) (ca : Nat → Int32) (x2 : Int32) : f_M_taken a b c ca (nI i) x2 = tkV (ca (3 * i)) (ca (3 * i + 1)) (ca (3 * i + 2)) x2 := by
  simp only [f_M_taken, fM_step hi, tkV]
def wbV (u v w x2 : Int32) : Option (Int32 × Int32 × Int32 × Int32) := oCall4 (tkV u v w (x2 / 4)) (fun r4 _ _ _ => oCall1 (f_M_secondOf x2) (fun r5 => oCall4 (tkV u v w r5) (fun r9 o6 o7 o8 => oCall1 (f_M_wayOf r4 r9) (fun r10 => some (r10, o6, o7, o8)))))
theorem fM_wb {i : Nat} (hi : i < 13) (a b c : Int32) (ca : Nat → Int32) (x2 : Int32) : f_M_wayBehind a b c ca (nI i) x2 = wbV (ca (3 * i)) (ca (3 * i + 1)) (ca (3 * i + 2)) x2 := by
  simp only [f_M_wayBehind, fM_taken hi, wbV]
theorem wb_tab : ∀ u ∈ L3, ∀ v ∈ L3, ∀ w ∈ L3, ¬ (u = 0 ∧ v = 0 ∧ w = 0) → ∀ t, t < 24 → (wbV u v w (nI t)).map (·.1) = (f_W_stepAbout u v w).bind (fun s => f_W_compose s (nI t)) := by decide +kernel
/-- what the reference's way behind is: the class's -/
theorem fM_wbc {i t k0 : Nat} (hi : i < 13) (ht : t < 24) {ca : Nat → Int32} {g : Int32 → Int32 → Int32 → Int32 × Int32 × Int32} (a1 : arr1 (ca (3 * i))) (a2 : arr1 (ca (3 * i + 1))) (a3 : arr1 (ca (3 * i + 2))) (hz : ¬ (ca (3 * i) = 0 ∧ ca (3 * i + 1) = 0 ∧ ca (3 * i + 2) = 0)) (hg : isRot (ca (3 * i)) (ca (3 * i + 1)) (ca (3 * i + 2)) k0 g) : ∃ s : Int32 × Int32 × Int32, ∀ a b c, f_M_wayBehind a b c ca (nI i) (nI t) = some (nI (cmpN k0 t), s) := by
  have h := wb_tab _ (arr_L3 a1) _ (arr_L3 a2) _ (arr_L3 a3) hz t ht
  rw [hg.2.1] at h
  have h2 := (cmp_tab k0 hg.1 t ht).1
  change (wbV _ _ _ (nI t)).map (·.1) = f_W_compose (nI k0) (nI t) at h
  rw [h2] at h
  cases hw : wbV (ca (3 * i)) (ca (3 * i + 1)) (ca (3 * i + 2)) (nI t) with
  | none => rw [hw] at h; cases h
  | some q =>
    rw [hw] at h
    refine ⟨q.2, fun a b c => ?_⟩
    rw [fM_wb hi, hw]
    have e : q.1 = nI (cmpN k0 t) := Option.some.inj h
    rw [← e]
/-- places written one behind the other -/
def puts (up : Nat → Prop) [DecidablePred up] (T : Nat → Nat) (val : Nat → Int32) (f : Nat → Int32) : Nat → (Nat → Int32)
  | 0 => f
  | p + 1 => if up p then upd (puts up T val f p) (T p) (val p) else puts up T val f p
theorem puts_out {up : Nat → Prop} [DecidablePred up] {T : Nat → Nat} {val f : Nat → Int32} {j : Nat} : ∀ n, (∀ p, p < n → up p → T p ≠ j) → puts up T val f n j = f j := by
  intro n
  induction n with
  | zero => intro _; rfl
  | succ n ih =>
    intro h
    have h1 := ih (fun p hp => h p (by omega))
    show (if up n then upd (puts up T val f n) (T n) (val n) else puts up T val f n) j = f j
    by_cases e : up n
    · rw [if_pos e, upd_at, if_neg (fun q => h n (by omega) e q.symm)]; exact h1
    · rw [if_neg e]; exact h1
theorem puts_in {up : Nat → Prop} [DecidablePred up] {T : Nat → Nat} {val f : Nat → Int32} {p : Nat} : ∀ n, p < n → up p → (∀ q, q < n → up q → T q = T p → q = p) → puts up T val f n (T p) = val p := by
  intro n
  induction n with
  | zero => intro h; omega
  | succ n ih =>
    intro hp hu hi
    show (if up n then upd (puts up T val f n) (T n) (val n) else puts up T val f n) (T p) = val p
    by_cases e : p = n
    · subst e
      rw [if_pos hu, upd_at, if_pos rfl]
    · have h1 := ih (by omega) hu (fun q hq => hi q (by omega))
      by_cases e2 : up n
      · rw [if_pos e2, upd_at, if_neg (fun q => by have := hi n (by omega) e2 q.symm; omega)]; exact h1
      · rw [if_neg e2]; exact h1

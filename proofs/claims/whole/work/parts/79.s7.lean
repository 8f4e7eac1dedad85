/-! the ways as a table; moves seen from where things come to; moves one after another -/
def TB : Nat := 963083904067687740382735603551689835136384895194086797883916287491834078967895982763036591726659586205682749031545836015848031306872218850259427270463744289799745387319070599716148885707380672663774731464331139307833490306875231566074881645792479266818174414898817139433989479778159402144789656807125165010473173175117806764319205852773333719602553015552737370909252641965598899687302532805037053484389848685631489778274374567902937974721975316701465507576911384437106085195493706412819069583155050589733132860959619640874946015895783993698017321287474243488946533616059483282958058333972945614632710491402087894830913020072868364140798036521490263605485179185635019718816663396887675197549254360793791225006794471168075325480810515636457135023734122055868351941910937268011778725950603830669145169513896818372573135734543595252611599021042796945214009592686676000
def tbN (k t : Nat) : Nat := (TB >>> (5 * (24 * k + t))) % 32
theorem cmp_tb : ∀ k, k < 24 → ∀ t, t < 24 → cmpN k t = tbN k t := by decide +kernel
theorem tb_as : ∀ a, a < 24 → ∀ b, b < 24 → ∀ c, c < 24 → tbN (tbN a b) c = tbN a (tbN b c) := by decide +kernel
theorem tb_can : ∀ a, a < 24 → ∀ t, t < 24 → tbN a t = t → a = 0 := by decide +kernel
theorem cmp_lt {a b : Nat} (ha : a < 24) (hb : b < 24) : cmpN a b < 24 := (cmp_tab a ha b hb).2
theorem cmp_as {a b c : Nat} (ha : a < 24) (hb : b < 24) (hc : c < 24) : cmpN (cmpN a b) c = cmpN a (cmpN b c) := by
  have h1 := cmp_lt ha hb
  have h2 := cmp_lt hb hc
  rw [cmp_tb _ h1 _ hc, cmp_tb _ ha _ h2, cmp_tb _ ha _ hb, cmp_tb _ hb _ hc]
  exact tb_as a ha b hb c hc
theorem cmp_can {a t : Nat} (ha : a < 24) (ht : t < 24) (h : cmpN a t = t) : a = 0 := by
  rw [cmp_tb _ ha _ ht] at h
  exact tb_can a ha t ht h
def powN (t : Nat) : Nat → Nat
  | 0 => 0
  | j + 1 => cmpN t (powN t j)
def ordN (t : Nat) : Nat := ((f_W_orderOf (nI t)).getD 0).toNatClampNeg
theorem ord_tab : ∀ t, t < 24 → f_W_orderOf (nI t) = some (nI (ordN t)) ∧ 1 ≤ ordN t ∧ ordN t ≤ 4 ∧ powN t (ordN t) = 0 ∧ ∀ j, j < ordN t → powN t j = 0 → j = 0 := by decide +kernel
theorem pow_mod {t : Nat} (ht : t < 24) : ∀ j, powN t j = powN t (j % ordN t) := by
  obtain ⟨-, h1, -, h2, -⟩ := ord_tab t ht
  intro j
  induction j with
  | zero => rw [Nat.zero_mod]
  | succ j ih =>
    have hl := Nat.mod_lt j h1
    have e1 : powN t (j + 1) = powN t (j % ordN t + 1) := by show cmpN t _ = cmpN t _; rw [ih]
    have e2 : (j + 1) % ordN t = (j % ordN t + 1) % ordN t := by rw [Nat.mod_add_mod]
    rw [e1, e2]
    by_cases e : j % ordN t + 1 = ordN t
    · rw [e, Nat.mod_self, h2]; rfl
    · rw [Nat.mod_eq_of_lt (show j % ordN t + 1 < ordN t by omega)]
theorem pow_0 {t : Nat} (ht : t < 24) (j : Nat) : powN t j = 0 ↔ ordN t ∣ j := by
  obtain ⟨-, h1, -, h2, h3⟩ := ord_tab t ht
  rw [pow_mod ht j, Nat.dvd_iff_mod_eq_zero]
  constructor
  · intro h; exact h3 _ (Nat.mod_lt j h1) h
  · intro h; rw [h]; rfl
/-- one move, seen from where things come to: whence, and turned by which way -/
def PB (n : Nat) (ρ c : Nat → Nat) (o w o' w' : Nat → Int32) : Prop := ∀ q, q < n → o' q = o (ρ q) ∧ ∀ v, v < 24 → w (ρ q) = nI v → w' q = nI (cmpN (c q) v)
def okM (n : Nat) (ρ c : Nat → Nat) : Prop := (∀ q, q < n → ρ q < n ∧ c q < 24) ∧ ∀ p q, p < n → q < n → ρ p = ρ q → p = q
def okW (n : Nat) (w : Nat → Int32) : Prop := ∀ p, p < n → ∃ v, v < 24 ∧ w p = nI v
theorem pb_okW {n : Nat} {ρ c : Nat → Nat} {o w o' w' : Nat → Int32} (hm : okM n ρ c) (h : PB n ρ c o w o' w') (hw : okW n w) : okW n w' := by
  intro q hq
  obtain ⟨v, hv, e⟩ := hw (ρ q) (hm.1 q hq).1
  exact ⟨cmpN (c q) v, cmp_lt (hm.1 q hq).2 hv, (h q hq).2 v hv e⟩
theorem pb_relC {n : Nat} {ρ c : Nat → Nat} {nO nT w v nO' nT' w' v' : Nat → Int32} (hm : okM n ρ c) (hC : RelC n nO nT w v) (h1 : PB n ρ c nO nT nO' nT') (h2 : PB n ρ c w v w' v') : RelC n nO' nT' w' v' := by
  refine ⟨fun q hq => ?_, fun p q hp hq e => ?_⟩
  · obtain ⟨a1, a2, a3, t, ht, a4⟩ := hC.1 (ρ q) (hm.1 q hq).1
    obtain ⟨b1, b2⟩ := h1 q hq
    obtain ⟨c1, c2⟩ := h2 q hq
    have d1 := b2 t ht (by rw [a2]; exact a4)
    have d2 := c2 t ht a4
    refine ⟨by rw [b1, c1]; exact a1, by rw [d1, d2], by rw [c1]; exact a3, cmpN (c q) t, cmp_lt (hm.1 q hq).2 ht, d2⟩
  · rw [(h2 p hp).1, (h2 q hq).1] at e
    exact hm.2 p q hp hq (hC.2 _ _ (hm.1 p hp).1 (hm.1 q hq).1 e)
theorem relC_okW {n : Nat} {nO nT w v : Nat → Int32} (hC : RelC n nO nT w v) : okW n nT ∧ okW n v := by
  constructor
  · intro p hp
    obtain ⟨-, a2, -, t, ht, a4⟩ := hC.1 p hp
    exact ⟨t, ht, by rw [a2]; exact a4⟩
  · intro p hp
    obtain ⟨-, -, -, t, ht, a4⟩ := hC.1 p hp
    exact ⟨t, ht, a4⟩
theorem pb_comp {n : Nat} {ρ c ρ2 c2 : Nat → Nat} {o w o' w' o2 w2 : Nat → Int32} (h1 : okM n ρ c) (h2 : okM n ρ2 c2) (hw : okW n w) (a : PB n ρ c o w o' w') (b : PB n ρ2 c2 o' w' o2 w2) : PB n (fun q => ρ (ρ2 q)) (fun q => cmpN (c2 q) (c (ρ2 q))) o w o2 w2 := by
  intro q hq
  have l2 := h2.1 q hq
  have l1 := h1.1 _ l2.1
  refine ⟨by rw [(b q hq).1, (a _ l2.1).1], fun v hv e => ?_⟩
  rw [(b q hq).2 _ (cmp_lt l1.2 hv) ((a _ l2.1).2 v hv e)]
  show _ = nI (cmpN (cmpN (c2 q) (c (ρ2 q))) v)
  rw [cmp_as l2.2 l1.2 hv]
theorem ok_comp {n : Nat} {ρ c ρ2 c2 : Nat → Nat} (h1 : okM n ρ c) (h2 : okM n ρ2 c2) : okM n (fun q => ρ (ρ2 q)) (fun q => cmpN (c2 q) (c (ρ2 q))) := by
  refine ⟨fun q hq => ?_, fun p q hp hq e => ?_⟩
  · have l2 := h2.1 q hq
    have l1 := h1.1 _ l2.1
    exact ⟨l1.1, cmp_lt l2.2 l1.2⟩
  · exact h2.2 p q hp hq (h1.2 _ _ (h2.1 p hp).1 (h2.1 q hq).1 e)
theorem ok_id (n : Nat) : okM n (fun q => q) (fun _ => 0) := ⟨fun q hq => ⟨hq, show (0 : Nat) < 24 by decide⟩, fun p q _ _ e => e⟩
theorem pb_id (n : Nat) (o w : Nat → Int32) : PB n (fun q => q) (fun _ => 0) o w o w := fun q _ => ⟨rfl, fun v hv e => by rw [(cmp_id v hv).1]; exact e⟩
/-- a move k times -/
def itR (ρ : Nat → Nat) : Nat → Nat → Nat
  | 0, q => q
  | k + 1, q => itR ρ k (ρ q)
def itC (ρ c : Nat → Nat) : Nat → Nat → Nat
  | 0, _ => 0
  | k + 1, q => cmpN (c q) (itC ρ c k (ρ q))
theorem it_ok {n : Nat} {ρ c : Nat → Nat} (h : okM n ρ c) : ∀ k, okM n (itR ρ k) (itC ρ c k) := by
  intro k
  induction k with
  | zero => exact ok_id n
  | succ k ih => exact ok_comp (ρ := itR ρ k) (c := itC ρ c k) (ρ2 := ρ) (c2 := c) ih h
theorem itR_add (ρ : Nat → Nat) (a : Nat) : ∀ b q, itR ρ (a + b) q = itR ρ a (itR ρ b q) := by
  intro b
  induction b with
  | zero => intro q; rfl
  | succ b ih => intro q; exact ih (ρ q)
theorem itC_add {n : Nat} {ρ c : Nat → Nat} (h : okM n ρ c) (a : Nat) : ∀ b q, q < n → itC ρ c (a + b) q = cmpN (itC ρ c b q) (itC ρ c a (itR ρ b q)) := by
  intro b
  induction b with
  | zero => intro q hq; exact ((cmp_id _ ((it_ok h a).1 q hq).2).1).symm
  | succ b ih =>
    intro q hq
    have l := h.1 q hq
    have l2 := (it_ok h b).1 _ l.1
    show cmpN (c q) (itC ρ c (a + b) (ρ q)) = cmpN (cmpN (c q) (itC ρ c b (ρ q))) (itC ρ c a (itR ρ b (ρ q)))
    rw [ih _ l.1, cmp_as l.2 l2.2 ((it_ok h a).1 _ l2.1).2]
theorem itR_s (ρ : Nat → Nat) (j q : Nat) : itR ρ (j + 1) q = ρ (itR ρ j q) := by rw [Nat.add_comm, itR_add]; rfl
theorem itC_s {n : Nat} {ρ c : Nat → Nat} (h : okM n ρ c) (j q : Nat) (hq : q < n) : itC ρ c (j + 1) q = cmpN (itC ρ c j q) (c (itR ρ j q)) := by
  rw [Nat.add_comm, itC_add h 1 j q hq]
  show cmpN _ (cmpN (c (itR ρ j q)) 0) = _
  rw [(cmp_id _ (h.1 _ ((it_ok h j).1 q hq).1).2).2]
/-- the least number of moves after which a point comes back -/
theorem back_ex {n : Nat} {ρ c : Nat → Nat} (h : okM n ρ c) {q : Nat} (hq : q < n) : ∃ l, 1 ≤ l ∧ l ≤ n ∧ itR ρ l q = q ∧ ∀ j, 1 ≤ j → j < l → itR ρ j q ≠ q := by
  have can : ∀ i d, itR ρ (i + d) q = itR ρ i q → itR ρ d q = q := by
    intro i d e
    rw [itR_add] at e
    exact (it_ok h i).2 _ _ ((it_ok h d).1 q hq).1 hq e
  have ex : ∃ l, 1 ≤ l ∧ l ≤ n ∧ itR ρ l q = q := by
    apply Classical.byContradiction
    intro hno
    have inj : ∀ i j, i < n → j < n → itR ρ i q = itR ρ j q → i = j := by
      intro i j hi hj e
      rcases Nat.lt_trichotomy i j with hl | hl | hl
      · exact absurd ⟨j - i, by omega, by omega, can i (j - i) (by rw [show i + (j - i) = j by omega]; exact e.symm)⟩ hno
      · exact hl
      · exact absurd ⟨i - j, by omega, by omega, can j (i - j) (by rw [show j + (i - j) = i by omega]; exact e)⟩ hno
    obtain ⟨i, hi, e⟩ := pig n (fun i => itR ρ i q) (fun i _ => ((it_ok h i).1 q hq).1) inj (itR ρ n q) ((it_ok h n).1 q hq).1
    exact hno ⟨n - i, by omega, by omega, can i (n - i) (by rw [show i + (n - i) = n by omega]; exact e.symm)⟩
  have hdec : DecidablePred (fun l => itR ρ (l + 1) q = q) := fun l => inferInstance
  obtain ⟨r, r1, r2, r3⟩ := least_ex (fun l => itR ρ (l + 1) q = q) n
  obtain ⟨l, l1, l2, l3⟩ := ex
  have hr : r < n := by
    apply Nat.lt_of_not_le
    intro hle
    exact r2 (l - 1) (by omega) (by rw [show l - 1 + 1 = l by omega]; exact l3)
  refine ⟨r + 1, by omega, by omega, r3 hr, fun j j1 j2 e => r2 (j - 1) (by omega) (by rw [show j - 1 + 1 = j by omega]; exact e)⟩
theorem it_mul {n : Nat} {ρ c : Nat → Nat} (h : okM n ρ c) {q l : Nat} (hq : q < n) (hl : itR ρ l q = q) : ∀ a, itR ρ (l * a) q = q ∧ itC ρ c (l * a) q = powN (itC ρ c l q) a := by
  intro a
  induction a with
  | zero => exact ⟨rfl, rfl⟩
  | succ a ih =>
    rw [Nat.mul_succ]
    refine ⟨by rw [itR_add, hl]; exact ih.1, ?_⟩
    rw [itC_add h (l * a) l q hq, hl, ih.2]
    rfl
/-- a point is back, in its own way, after the multiples of its length times the order of its way -/
theorem back_iff {n : Nat} {ρ c : Nat → Nat} (h : okM n ρ c) {q l : Nat} (hq : q < n) (h1 : 1 ≤ l) (hl : itR ρ l q = q) (hmin : ∀ j, 1 ≤ j → j < l → itR ρ j q ≠ q) (k : Nat) : (itR ρ k q = q ∧ itC ρ c k q = 0) ↔ l * ordN (itC ρ c l q) ∣ k := by
  have ht := ((it_ok h l).1 q hq).2
  constructor
  · intro ⟨e1, e2⟩
    have e3 : k % l = 0 := by
      have hk : itR ρ (k % l) q = q := by
        have := e1
        rw [show k = k % l + l * (k / l) by rw [Nat.mod_add_div], itR_add, (it_mul h hq hl _).1] at this
        exact this
      apply Classical.byContradiction
      intro hne
      exact hmin _ (by omega) (Nat.mod_lt _ h1) hk
    have e4 : k = l * (k / l) := by
      have := Nat.mod_add_div k l
      omega
    rw [e4, (it_mul h hq hl _).2, pow_0 ht] at e2
    rw [e4]
    exact Nat.mul_dvd_mul_left l e2
  · intro ⟨d, hd⟩
    have e4 : k = l * (ordN (itC ρ c l q) * d) := by rw [hd, Nat.mul_assoc]
    rw [e4]
    exact ⟨(it_mul h hq hl _).1, by rw [(it_mul h hq hl _).2, pow_0 ht]; exact Nat.dvd_mul_right _ _⟩

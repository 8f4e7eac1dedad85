/-! what a state of the class and a state of the reference have in common -/
def sm9 (v : Int32) : Prop := -9 ≤ v.toInt ∧ v.toInt ≤ 9
def RelP (n : Nat) (nP : Int32) (bX bY bZ : Nat → Int32) (vpoints : Int32) (cpx cpy cpz : Nat → Int32) : Prop :=
  nP = nI n ∧ vpoints = nI n ∧ n ≤ 60 ∧ (∀ p, p < n → bX p = cpx p ∧ bY p = cpy p ∧ bZ p = cpz p ∧ sm9 (cpx p) ∧ sm9 (cpy p) ∧ sm9 (cpz p)) ∧ (∀ p q, p < n → q < n → cpx p = cpx q → cpy p = cpy q → cpz p = cpz q → p = q)
def RelQ (m : Nat) (nQ : Int32) (bA bB bC bD : Nat → Int32) (vplanes : Int32) (cplane : Nat → Int32) : Prop :=
  nQ = nI m ∧ vplanes = nI m ∧ m ≤ 20 ∧ ∀ q, q < m → bA q = cplane (4 * q) ∧ bB q = cplane (4 * q + 1) ∧ bC q = cplane (4 * q + 2) ∧ bD q = cplane (4 * q + 3) ∧ sm9 (cplane (4 * q)) ∧ sm9 (cplane (4 * q + 1)) ∧ sm9 (cplane (4 * q + 2))
/-- below 0, on 1, above 2 -/
def sgn3 (v : Int32) : Nat := if v < 0 then 0 else if v = 0 then 1 else 2
def sdN (cpx cpy cpz cplane : Nat → Int32) (p q : Nat) : Nat := sgn3 (cplane (4 * q) * cpx p + cplane (4 * q + 1) * cpy p + cplane (4 * q + 2) * cpz p - cplane (4 * q + 3))
/-- the sides of a point to the first m planes, two bits each -/
def sdS (s : Nat → Nat) : Nat → Nat
  | 0 => 0
  | m + 1 => sdS s m + s m * 4 ^ m
def RelS (n m : Nat) (bS : Nat → Int64) (cpx cpy cpz cplane : Nat → Int32) : Prop :=
  (∀ p, p < n → bS p = lN (sdS (sdN cpx cpy cpz cplane p) m)) ∧ ∀ p, n ≤ p → p < 60 → bS p = 0
def arr1 (v : Int32) : Prop := v = -1 ∨ v = 0 ∨ v = 1
def RelA (a : Nat) (nA : Int32) (sT : Nat → Int32) (vaxes : Int32) (caxis : Nat → Int32) : Prop :=
  nA = nI a ∧ vaxes = nI a ∧ a ≤ 13 ∧ ∀ i, i < a → arr1 (caxis (3 * i)) ∧ arr1 (caxis (3 * i + 1)) ∧ arr1 (caxis (3 * i + 2)) ∧ ¬ (caxis (3 * i) = 0 ∧ caxis (3 * i + 1) = 0 ∧ caxis (3 * i + 2) = 0) ∧ f_W_stepAbout (caxis (3 * i)) (caxis (3 * i + 1)) (caxis (3 * i + 2)) = some (sT i)
/-- what is at the first n points: whose it was (each point's once), and in which way -/
def RelC (n : Nat) (nO nT cwas cways : Nat → Int32) : Prop :=
  (∀ p, p < n → nO p = cwas p ∧ nT p = cways p ∧ (∃ o, o < n ∧ cwas p = nI o) ∧ ∃ w, w < 24 ∧ cways p = nI w) ∧ ∀ p q, p < n → q < n → cwas p = cwas q → p = q
def RelK (n k : Nat) (nK : Int32) (kQ : Nat → Int32) (KO KT : Nat → Nat → Int32) (vkept : Int32) (ckeptWas ckeptWays ckeptPoints : Nat → Int32) : Prop :=
  nK = nI k ∧ vkept = nI k ∧ k ≤ 10 ∧ ∀ j, j < k → ∃ c, c ≤ n ∧ kQ j = nI c ∧ ckeptPoints j = nI c ∧ RelC c (KO j) (KT j) (fun p => ckeptWas (60 * j + p)) (fun p => ckeptWays (60 * j + p))
def Rel (k : Nat) (nA nK nP nQ : Int32) (bX bY bZ bA bB bC bD : Nat → Int32) (bS : Nat → Int64) (sT nO nT kQ : Nat → Int32) (KO KT : Nat → Nat → Int32) (vpoints vplanes vaxes vkept : Int32) (cpx cpy cpz cplane caxis cwas cways ckeptWas ckeptWays ckeptPoints : Nat → Int32) : Prop :=
  ∃ n m a, RelP n nP bX bY bZ vpoints cpx cpy cpz ∧ RelQ m nQ bA bB bC bD vplanes cplane ∧ RelS n m bS cpx cpy cpz cplane ∧ RelA a nA sT vaxes caxis ∧ RelC n nO nT cwas cways ∧ RelK n k nK kQ KO KT vkept ckeptWas ckeptWays ckeptPoints

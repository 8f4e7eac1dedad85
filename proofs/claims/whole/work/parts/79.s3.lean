/-- what the three scratch numbers are behind i calls: at first theirs, then the last image -/
def scr (a : Int32 × Int32 × Int32) (f : Nat → Int32 × Int32 × Int32) : Nat → Int32 × Int32 × Int32
  | 0 => a
  | i + 1 => f i
theorem fM_mapsPl {m i k0 : Nat} (hm : m ≤ 20) (hi : i < 13) {vp va vq : Int32} {cx cy cz pl ca : Nat → Int32} (eq : vq = nI m) {g : Int32 → Int32 → Int32 → Int32 × Int32 × Int32} (hg : isRot (ca (3 * i)) (ca (3 * i + 1)) (ca (3 * i + 2)) k0 g) (hs : ∀ q, q < m → sm9 (pl (4 * q)) ∧ sm9 (pl (4 * q + 1)) ∧ sm9 (pl (4 * q + 2))) {r : Nat} (r1 : r ≤ m) (r2 : ∀ q, q < r → ∃ j, j < m ∧ sameM pl (g (pl (4 * q)) (pl (4 * q + 1)) (pl (4 * q + 2))) (pl (4 * q + 3)) j) (r3 : r < m → ¬ ∃ j, j < m ∧ sameM pl (g (pl (4 * r)) (pl (4 * r + 1)) (pl (4 * r + 2))) (pl (4 * r + 3)) j) (a : Int32 × Int32 × Int32) : ∃ c, oLoop4 (f_M_maps_L44 vp vq va cx cy cz pl ca (nI i) 0) 100 0 a.1 a.2.1 a.2.2 = some (if r < m then 0 else 1, 0, c) := by
  let f := fun q => g (pl (4 * q)) (pl (4 * q + 1)) (pl (4 * q + 2))
  refine ⟨if r < m then f r else scr a f r, ?_⟩
  refine loop4_run (n := r) (fun i => nI i) (fun i => (scr a f i).1) (fun i => (scr a f i).2.1) (fun i => (scr a f i).2.2) _ ?_ ?_ (by omega)
  · intro rec
    simp only [f_M_maps_L44]
    by_cases e : r < m
    · obtain ⟨b, e1, e2⟩ := fM_there hm e hi hg (hs r e).1 (hs r e).2.1 (hs r e).2.2
      rw [if_neg (by rw [eq]; exact nI_ge e (by omega)), eq, e1]
      show (if b = 0 then _ else _) = _
      rw [if_pos (e2.mpr (r3 e)), if_pos e, if_pos e]
    · rw [if_pos (by rw [eq]; exact nI_le (by omega) (by omega)), if_neg e, if_neg e]
  · intro rec q hq
    simp only [f_M_maps_L44, oLet_t]
    obtain ⟨b, e1, e2⟩ := fM_there hm (show q < m by omega) hi hg (hs q (by omega)).1 (hs q (by omega)).2.1 (hs q (by omega)).2.2
    rw [if_neg (by rw [eq]; exact nI_ge (show q < m by omega) (by omega)), eq, e1]
    show (if b = 0 then _ else _) = _
    rw [if_neg (fun h => (e2.mp h) (r2 q hq)), nI_1]
    rfl
theorem fM_mapsPt {n i : Nat} (hn : n ≤ 60) {vp va vq : Int32} {cx cy cz pl ca : Nat → Int32} (eV : vp = nI n) {g : Int32 → Int32 → Int32 → Int32 × Int32 × Int32} {T : Nat → Nat} (hT : ∀ p, p < n → T p ≤ n) (hI : ∀ p, p < n → ∀ x y z, f_M_imageOf vp x y z cx cy cz ca (nI i) (nI p) = some (if T p < n then nI (T p) else -1, g (cx p) (cy p) (cz p))) {r : Nat} (r1 : r ≤ n) (r2 : ∀ j, j < r → T j < n) (r3 : r < n → ¬ T r < n) (b2 : Int32) (hpl : ∀ a : Int32 × Int32 × Int32, ∃ c, oLoop4 (f_M_maps_L44 vp vq va cx cy cz pl ca (nI i) 0) 100 0 a.1 a.2.1 a.2.2 = some (b2, 0, c)) (a : Int32 × Int32 × Int32) : ∃ c, oLoop4 (f_M_maps_L17 vp vq va cx cy cz pl ca (nI i) 0) 100 0 a.1 a.2.1 a.2.2 = some (if r < n then 0 else b2, 0, c) := by
  let f := fun p => g (cx p) (cy p) (cz p)
  obtain ⟨c0, hc0⟩ := hpl (scr a f r)
  refine ⟨if r < n then f r else c0, ?_⟩
  refine loop4_run (n := r) (fun i => nI i) (fun i => (scr a f i).1) (fun i => (scr a f i).2.1) (fun i => (scr a f i).2.2) _ ?_ ?_ (by omega)
  · intro rec
    simp only [f_M_maps_L17]
    by_cases e : r < n
    · rw [if_neg (by rw [eV]; exact nI_ge e (by omega)), hI r e]
      show (if (0 : Int32) ≤ (if T r < n then nI (T r) else -1) then _ else _) = _
      rw [if_neg (fun q => r3 e ((m1_lt _ _ (by have := hT r e; omega)).2.2.mp q)), if_pos e, if_pos e]
    · rw [if_pos (by rw [eV]; exact nI_le (by omega) (by omega)), if_neg e, if_neg e]
      exact hc0
  · intro rec p hp
    simp only [f_M_maps_L17, oLet_t]
    rw [if_neg (by rw [eV]; exact nI_ge (show p < n by omega) (by omega)), hI p (by omega)]
    show (if (0 : Int32) ≤ (if T p < n then nI (T p) else -1) then _ else _) = _
    rw [if_pos ((m1_lt _ _ (by have := hT p (by omega); omega)).2.2.mpr (r2 p hp)), nI_1]
    rfl

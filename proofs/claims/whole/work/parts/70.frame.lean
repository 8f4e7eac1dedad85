/-! the frame at the law's calls: worlds as appended lists, their order free -/
theorem fr_pre {D : va_G} {cl : List vw_C} {a b : va_W} {H : Heap} (h : va_P D cl (a ++ b) H) : va_P D cl a H := fun k q hk => h k q (by rw [List.getElem?_append_left (List.getElem?_eq_some_iff.mp hk).1]; exact hk)
theorem fr_perm {D : va_G} {cl : List vw_C} {a b : va_W} {H : Heap} (hp : a.Perm b) (h : va_P D cl a H) : va_P D cl b H := fun k q hk => by
  obtain ⟨i, hi⟩ := List.getElem?_of_mem (hp.mem_iff.mpr (List.mem_of_getElem? hk))
  exact h i q hi
theorem fr_nodup {A : Nat → Prop} {a : va_W} : va_D A a ↔ (a.map (·.1)).Nodup ∧ ∀ q ∈ a, A q.1 := by
  constructor
  · intro h
    refine ⟨List.nodup_iff_pairwise_ne.mpr (List.pairwise_iff_getElem.mpr ?_), fun q hq => ?_⟩
    · intro i j hi hj hij e
      simp only [List.length_map] at hi hj
      simp only [List.getElem_map] at e
      have := h.1 i j a[i] a[j] (List.getElem?_eq_getElem hi) (List.getElem?_eq_getElem hj) e
      omega
    · obtain ⟨i, hi⟩ := List.getElem?_of_mem hq
      exact h.2 i q hi
  · intro ⟨h1, h2⟩
    have h1 := List.pairwise_iff_getElem.mp (List.nodup_iff_pairwise_ne.mp h1)
    refine ⟨fun i j p q hi hj e => ?_, fun k q hk => h2 q (List.mem_of_getElem? hk)⟩
    obtain ⟨hi', ei⟩ := List.getElem?_eq_some_iff.mp hi
    obtain ⟨hj', ej⟩ := List.getElem?_eq_some_iff.mp hj
    rcases Nat.lt_trichotomy i j with hlt | heq | hgt
    · have h3 := h1 i j (by simpa using hi') (by simpa using hj') hlt
      rw [List.getElem_map, List.getElem_map, ei, ej] at h3
      exact absurd e h3
    · exact heq
    · have h3 := h1 j i (by simpa using hj') (by simpa using hi') hgt
      rw [List.getElem_map, List.getElem_map, ei, ej] at h3
      exact absurd e.symm h3
theorem fr_permD {A : Nat → Prop} {a b : va_W} (hp : a.Perm b) (h : va_D A a) : va_D A b := by
  rw [fr_nodup] at h ⊢
  exact ⟨(hp.map _).nodup h.1, fun q hq => h.2 q (hp.mem_iff.mpr hq)⟩
theorem fr_preD {A : Nat → Prop} {a b : va_W} (h : va_D A (a ++ b)) : va_D A a := by
  rw [fr_nodup] at h ⊢
  rw [List.map_append] at h
  exact ⟨(List.nodup_append.mp h.1).1, fun q hq => h.2 q (List.mem_append_left _ hq)⟩
theorem fr_free {A0 : Nat → Prop} {a b : va_W} {H0 H : Heap} {locs : List Loc} (hD : va_D A0 (a ++ b)) (hS : va_S A0 H0 H locs) (hA : ∀ q, H0.size ≤ q → A0 q) : ∀ q, va_A a H.size q → A0 q := by
  intro q h
  rcases h with ⟨k, e, h⟩ | h
  · exact (fr_preD hD).2 k _ h
  · exact hA q (Nat.le_trans hS.1 h)
theorem fr_join {A0 : Nat → Prop} {D : va_G} {cl : List vw_C} {a b a1 : va_W} {H H1 : Heap} (hP : va_P D cl (a ++ b) H) (hD : va_D A0 (a ++ b)) (hk : ∀ q : Nat, q < H.size → ¬ va_A a H.size q → H1[q]? = H[q]?) (hF : ∀ q, va_A a H.size q → A0 q) (hP1 : va_P D cl a1 H1) (hD1 : va_D (va_A a H.size) a1) : va_P D cl (a1 ++ b) H1 ∧ va_D A0 (a1 ++ b) := by
  have hb : va_P D cl b H := fr_pre (fr_perm List.perm_append_comm hP)
  have hDb : va_D A0 b := fr_preD (fr_permD List.perm_append_comm hD)
  have apart : ∀ (k : Nat) (q : Nat × va_E), b[k]? = some q → q.1 < H.size ∧ ¬ va_A a H.size q.1 := by
    intro k q hq
    refine ⟨(hb k q hq).lt, fun h => ?_⟩
    rcases h with ⟨j, e, h⟩ | h
    · have hj : j < a.length := (List.getElem?_eq_some_iff.mp h).1
      have := hD.1 j (a.length + k) (q.1, e) q (by rw [List.getElem?_append_left hj]; exact h) (by rw [List.getElem?_append_right (by omega)]; rw [show a.length + k - a.length = k by omega]; exact hq) rfl
      omega
    · exact absurd (hb k q hq).lt (Nat.not_lt.mpr h)
  refine ⟨va_P.app hP1 (fun k q hq => (hb k q hq).kept (hk q.1 (apart k q hq).1 (apart k q hq).2)), va_D.app (hD1.weaken (fun _ q _ h => hF q.1 h)) hDb (fun i j x y hx hy hxy => ?_)⟩
  exact (apart j y hy).2 (by rw [← hxy]; exact hD1.2 i x hx)
theorem fr_rot {a b c : va_W} : (a ++ (b ++ c)).Perm (b ++ (a ++ c)) := by
  rw [← List.append_assoc, ← List.append_assoc]
  exact List.Perm.append_right c List.perm_append_comm
theorem fr_rot2 {a b c d : va_W} : (a ++ (b ++ (c ++ d))).Perm (c ++ (a ++ (b ++ d))) := ((List.Perm.append_left a fr_rot).trans fr_rot)
/-- the cells of what is kept: an object and its two arrays each -/
abbrev kp_c (cI : ClassId) (ky ko kt : Nat → Nat) (KO KT : Nat → Nat → Int32) (j : Nat) : va_W := [(ky j, .inr (1, [.ref (ko j), .ref (kt j)])), (ko j, .inl (cI, 60, .inl (KO j))), (kt j, .inl (cI, 60, .inl (KT j)))]
def kp_pool (cI : ClassId) (k : Nat) (ky ko kt : Nat → Nat) (KO KT : Nat → Nat → Int32) : va_W := (List.range k).flatMap (kp_c cI ky ko kt KO KT)
theorem kp_pool_succ {cI : ClassId} {k : Nat} {ky ko kt : Nat → Nat} {KO KT : Nat → Nat → Int32} {a b c : Nat} {O T : Nat → Int32} : kp_pool cI (k + 1) (va_up ky k a) (va_up ko k b) (va_up kt k c) (va_up KO k O) (va_up KT k T) = kp_pool cI k ky ko kt KO KT ++ [(a, .inr (1, [.ref b, .ref c])), (b, .inl (cI, 60, .inl O)), (c, .inl (cI, 60, .inl T))] := by
  unfold kp_pool
  rw [List.range_succ, List.flatMap_append]
  congr 1
  · rw [List.flatMap_def, List.flatMap_def]
    congr 1
    refine List.map_congr_left (fun j hj => ?_)
    have hj := List.mem_range.mp hj
    have hne : j ≠ k := by omega
    simp only [kp_c, va_up_ne _ _ hne]
  · simp [kp_c, va_up_self]
theorem kp_pool_at {cI : ClassId} {k j : Nat} {ky ko kt : Nat → Nat} {KO KT : Nat → Nat → Int32} (hj : j < k) : ∃ r : va_W, (kp_pool cI k ky ko kt KO KT).Perm (kp_c cI ky ko kt KO KT j ++ r) :=
  ⟨((List.range k).erase j).flatMap (kp_c cI ky ko kt KO KT), List.Perm.flatMap_right (kp_c cI ky ko kt KO KT) (List.perm_cons_erase (List.mem_range.mpr hj))⟩

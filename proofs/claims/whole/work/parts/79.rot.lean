/-! a step about an axis: the reference's formula, and the class's way of it -/
def stepV (u v w x y z : Int32) : Int32 × Int32 × Int32 :=
  if (if u = 0 then (0 : Int32) else 1) + (if v = 0 then 0 else 1) + (if w = 0 then 0 else 1) = 1 then (u * (u * x + v * y + w * z) + (v * z - w * y), v * (u * x + v * y + w * z) + (w * x - u * z), w * (u * x + v * y + w * z) + (u * y - v * x))
  else if (if u = 0 then (0 : Int32) else 1) + (if v = 0 then 0 else 1) + (if w = 0 then 0 else 1) = 2 then (u * (u * x + v * y + w * z) - x, v * (u * x + v * y + w * z) - y, w * (u * x + v * y + w * z) - z)
  else ((u * (u * x + v * y + w * z) + (v * z - w * y) - x) / 2, (v * (u * x + v * y + w * z) + (w * x - u * z) - y) / 2, (w * (u * x + v * y + w * z) + (u * y - v * x) - z) / 2)
theorem fM_step {i : Nat} (hi : i < 13) (a b c : Int32) (ca : Nat → Int32) (x y z : Int32) : f_M_step a b c ca (nI i) x y z = some (stepV (ca (3 * i)) (ca (3 * i + 1)) (ca (3 * i + 2)) x y z) := by
  unfold f_M_step
  rw [n3b, n3c, n3a, oIn_n (by omega) (by omega), oLet_t, oIn_n (by omega) (by omega), oLet_t, oIn_n (by omega) (by omega), oLet_t, oLet_t, oLet_t, oLet_t, oLet_t, fM_kind hi, oCall1_t, kind_V, nI_clamp (by omega), nI_clamp (by omega), nI_clamp (by omega)]
  unfold stepV
  generalize ca (3 * i) = u
  generalize ca (3 * i + 1) = v
  generalize ca (3 * i + 2) = w
  generalize (if u = 0 then (0 : Int32) else 1) + (if v = 0 then 0 else 1) + (if w = 0 then 0 else 1) = k
  by_cases k1 : k = 1
  · simp only [f_M_step_J139, f_M_step_J188, f_M_step_J239, if_pos k1]
  · by_cases k2 : k = 2
    · simp only [f_M_step_J139, f_M_step_J188, f_M_step_J239, if_neg k1, if_pos k2]
    · simp only [f_M_step_J139, f_M_step_J188, f_M_step_J239, if_neg k1, if_neg k2]
theorem half19 : ∀ n, n < 19 → (2 * (nI n - 9)) / 2 = nI n - 9 := by decide +kernel
theorem sm9_ex {x : Int32} (h : sm9 x) : ∃ n, n < 19 ∧ x = nI n - 9 := by
  refine ⟨(x.toInt + 9).toNat, by have := h.1; have := h.2; omega, ?_⟩
  apply Int32.toInt_inj.mp
  have e : (nI (x.toInt + 9).toNat - 9).toInt = ((x.toInt + 9).toNat : Int) - 9 := pk_sub_toInt (a := (x.toInt + 9).toNat) (b := 9) (by have := h.1; have := h.2; omega) (by omega)
  rw [e]
  have := h.1
  omega
theorem half9 {x : Int32} (h : sm9 x) : (2 * x) / 2 = x := by
  obtain ⟨n, hn, rfl⟩ := sm9_ex h
  exact half19 n hn
theorem neg19 : ∀ n, n < 19 → -9 ≤ (-(nI n - 9)).toInt ∧ (-(nI n - 9)).toInt ≤ 9 := by decide +kernel
theorem sm9_neg {x : Int32} (h : sm9 x) : sm9 (-x) := by
  obtain ⟨n, hn, rfl⟩ := sm9_ex h
  exact neg19 n hn
/-- what one of the 26 axes does: its way's number, and a signed change of places -/
def isRot (u v w : Int32) (k0 : Nat) (g : Int32 → Int32 → Int32 → Int32 × Int32 × Int32) : Prop :=
  k0 < 24 ∧ f_W_stepAbout u v w = some (nI k0) ∧ (∀ x y z, f_W_coordinate (nI k0) 0 x y z = some (g x y z).1 ∧ f_W_coordinate (nI k0) 1 x y z = some (g x y z).2.1 ∧ f_W_coordinate (nI k0) 2 x y z = some (g x y z).2.2) ∧ (∀ x y z, sm9 x → sm9 y → sm9 z → stepV u v w x y z = g x y z) ∧ (∀ x y z x' y' z', g x y z = g x' y' z' → x = x' ∧ y = y' ∧ z = z')
set_option maxHeartbeats 4000000 in
theorem rot_tab {u v w : Int32} (hu : arr1 u) (hv : arr1 v) (hw : arr1 w) (hz : ¬ (u = 0 ∧ v = 0 ∧ w = 0)) : ∃ k0 g, isRot u v w k0 g := by
  rcases hu with rfl | rfl | rfl <;> rcases hv with rfl | rfl | rfl <;> rcases hw with rfl | rfl | rfl
  · refine ⟨16, fun x y z => (y, z, x), by decide, by decide +kernel, fun x y z => ⟨?_, ?_, ?_⟩, fun x y z hx hy hz => ?_, fun x y z x2 y2 z2 h => ?_⟩
    · exact (show f_W_coordinate (nI 16) 0 x y z = some (0 + y + 0) from rfl).trans (congrArg some (by grind))
    · exact (show f_W_coordinate (nI 16) 1 x y z = some (0 + 0 + z) from rfl).trans (congrArg some (by grind))
    · exact (show f_W_coordinate (nI 16) 2 x y z = some (x + 0 + 0) from rfl).trans (congrArg some (by grind))
    · show (((-1) * ((-1) * x + (-1) * y + (-1) * z) + ((-1) * z - (-1) * y) - x) / 2, ((-1) * ((-1) * x + (-1) * y + (-1) * z) + ((-1) * x - (-1) * z) - y) / 2, ((-1) * ((-1) * x + (-1) * y + (-1) * z) + ((-1) * y - (-1) * x) - z) / 2) = (y, z, x)
      have e0 : (-1) * ((-1) * x + (-1) * y + (-1) * z) + ((-1) * z - (-1) * y) - x = 2 * (y) := by grind
      have e1 : (-1) * ((-1) * x + (-1) * y + (-1) * z) + ((-1) * x - (-1) * z) - y = 2 * (z) := by grind
      have e2 : (-1) * ((-1) * x + (-1) * y + (-1) * z) + ((-1) * y - (-1) * x) - z = 2 * (x) := by grind
      rw [e0, e1, e2, half9 (hy), half9 (hz), half9 (hx)]
    · have h1 := congrArg Prod.fst h
      have h2 := congrArg (fun q => q.2.1) h
      have h3 := congrArg (fun q => q.2.2) h
      simp only at h1 h2 h3
      refine ⟨?_, ?_, ?_⟩ <;> grind
  · refine ⟨8, fun x y z => (y, x, -z), by decide, by decide +kernel, fun x y z => ⟨?_, ?_, ?_⟩, fun x y z hx hy hz => ?_, fun x y z x2 y2 z2 h => ?_⟩
    · exact (show f_W_coordinate (nI 8) 0 x y z = some (0 + y + 0) from rfl).trans (congrArg some (by grind))
    · exact (show f_W_coordinate (nI 8) 1 x y z = some (x + 0 + 0) from rfl).trans (congrArg some (by grind))
    · exact (show f_W_coordinate (nI 8) 2 x y z = some (0 + 0 + (-z)) from rfl).trans (congrArg some (by grind))
    · show ((-1) * ((-1) * x + (-1) * y + 0 * z) - x, (-1) * ((-1) * x + (-1) * y + 0 * z) - y, 0 * ((-1) * x + (-1) * y + 0 * z) - z) = (y, x, -z)
      have e0 : (-1) * ((-1) * x + (-1) * y + 0 * z) - x = y := by grind
      have e1 : (-1) * ((-1) * x + (-1) * y + 0 * z) - y = x := by grind
      have e2 : 0 * ((-1) * x + (-1) * y + 0 * z) - z = -z := by grind
      rw [e0, e1, e2]
    · have h1 := congrArg Prod.fst h
      have h2 := congrArg (fun q => q.2.1) h
      have h3 := congrArg (fun q => q.2.2) h
      simp only at h1 h2 h3
      refine ⟨?_, ?_, ?_⟩ <;> grind
  · refine ⟨11, fun x y z => (-z, x, -y), by decide, by decide +kernel, fun x y z => ⟨?_, ?_, ?_⟩, fun x y z hx hy hz => ?_, fun x y z x2 y2 z2 h => ?_⟩
    · exact (show f_W_coordinate (nI 11) 0 x y z = some (0 + 0 + (-z)) from rfl).trans (congrArg some (by grind))
    · exact (show f_W_coordinate (nI 11) 1 x y z = some (x + 0 + 0) from rfl).trans (congrArg some (by grind))
    · exact (show f_W_coordinate (nI 11) 2 x y z = some (0 + (-y) + 0) from rfl).trans (congrArg some (by grind))
    · show (((-1) * ((-1) * x + (-1) * y + 1 * z) + ((-1) * z - 1 * y) - x) / 2, ((-1) * ((-1) * x + (-1) * y + 1 * z) + (1 * x - (-1) * z) - y) / 2, (1 * ((-1) * x + (-1) * y + 1 * z) + ((-1) * y - (-1) * x) - z) / 2) = (-z, x, -y)
      have e0 : (-1) * ((-1) * x + (-1) * y + 1 * z) + ((-1) * z - 1 * y) - x = 2 * (-z) := by grind
      have e1 : (-1) * ((-1) * x + (-1) * y + 1 * z) + (1 * x - (-1) * z) - y = 2 * (x) := by grind
      have e2 : 1 * ((-1) * x + (-1) * y + 1 * z) + ((-1) * y - (-1) * x) - z = 2 * (-y) := by grind
      rw [e0, e1, e2, half9 (sm9_neg hz), half9 (hx), half9 (sm9_neg hy)]
    · have h1 := congrArg Prod.fst h
      have h2 := congrArg (fun q => q.2.1) h
      have h3 := congrArg (fun q => q.2.2) h
      simp only at h1 h2 h3
      refine ⟨?_, ?_, ?_⟩ <;> grind
  · refine ⟨19, fun x y z => (z, -y, x), by decide, by decide +kernel, fun x y z => ⟨?_, ?_, ?_⟩, fun x y z hx hy hz => ?_, fun x y z x2 y2 z2 h => ?_⟩
    · exact (show f_W_coordinate (nI 19) 0 x y z = some (0 + 0 + z) from rfl).trans (congrArg some (by grind))
    · exact (show f_W_coordinate (nI 19) 1 x y z = some (0 + (-y) + 0) from rfl).trans (congrArg some (by grind))
    · exact (show f_W_coordinate (nI 19) 2 x y z = some (x + 0 + 0) from rfl).trans (congrArg some (by grind))
    · show ((-1) * ((-1) * x + 0 * y + (-1) * z) - x, 0 * ((-1) * x + 0 * y + (-1) * z) - y, (-1) * ((-1) * x + 0 * y + (-1) * z) - z) = (z, -y, x)
      have e0 : (-1) * ((-1) * x + 0 * y + (-1) * z) - x = z := by grind
      have e1 : 0 * ((-1) * x + 0 * y + (-1) * z) - y = -y := by grind
      have e2 : (-1) * ((-1) * x + 0 * y + (-1) * z) - z = x := by grind
      rw [e0, e1, e2]
    · have h1 := congrArg Prod.fst h
      have h2 := congrArg (fun q => q.2.1) h
      have h3 := congrArg (fun q => q.2.2) h
      simp only at h1 h2 h3
      refine ⟨?_, ?_, ?_⟩ <;> grind
  · refine ⟨3, fun x y z => (x, z, -y), by decide, by decide +kernel, fun x y z => ⟨?_, ?_, ?_⟩, fun x y z hx hy hz => ?_, fun x y z x2 y2 z2 h => ?_⟩
    · exact (show f_W_coordinate (nI 3) 0 x y z = some (x + 0 + 0) from rfl).trans (congrArg some (by grind))
    · exact (show f_W_coordinate (nI 3) 1 x y z = some (0 + 0 + z) from rfl).trans (congrArg some (by grind))
    · exact (show f_W_coordinate (nI 3) 2 x y z = some (0 + (-y) + 0) from rfl).trans (congrArg some (by grind))
    · show ((-1) * ((-1) * x + 0 * y + 0 * z) + (0 * z - 0 * y), 0 * ((-1) * x + 0 * y + 0 * z) + (0 * x - (-1) * z), 0 * ((-1) * x + 0 * y + 0 * z) + ((-1) * y - 0 * x)) = (x, z, -y)
      have e0 : (-1) * ((-1) * x + 0 * y + 0 * z) + (0 * z - 0 * y) = x := by grind
      have e1 : 0 * ((-1) * x + 0 * y + 0 * z) + (0 * x - (-1) * z) = z := by grind
      have e2 : 0 * ((-1) * x + 0 * y + 0 * z) + ((-1) * y - 0 * x) = -y := by grind
      rw [e0, e1, e2]
    · have h1 := congrArg Prod.fst h
      have h2 := congrArg (fun q => q.2.1) h
      have h3 := congrArg (fun q => q.2.2) h
      simp only at h1 h2 h3
      refine ⟨?_, ?_, ?_⟩ <;> grind
  · refine ⟨23, fun x y z => (-z, -y, -x), by decide, by decide +kernel, fun x y z => ⟨?_, ?_, ?_⟩, fun x y z hx hy hz => ?_, fun x y z x2 y2 z2 h => ?_⟩
    · exact (show f_W_coordinate (nI 23) 0 x y z = some (0 + 0 + (-z)) from rfl).trans (congrArg some (by grind))
    · exact (show f_W_coordinate (nI 23) 1 x y z = some (0 + (-y) + 0) from rfl).trans (congrArg some (by grind))
    · exact (show f_W_coordinate (nI 23) 2 x y z = some ((-x) + 0 + 0) from rfl).trans (congrArg some (by grind))
    · show ((-1) * ((-1) * x + 0 * y + 1 * z) - x, 0 * ((-1) * x + 0 * y + 1 * z) - y, 1 * ((-1) * x + 0 * y + 1 * z) - z) = (-z, -y, -x)
      have e0 : (-1) * ((-1) * x + 0 * y + 1 * z) - x = -z := by grind
      have e1 : 0 * ((-1) * x + 0 * y + 1 * z) - y = -y := by grind
      have e2 : 1 * ((-1) * x + 0 * y + 1 * z) - z = -x := by grind
      rw [e0, e1, e2]
    · have h1 := congrArg Prod.fst h
      have h2 := congrArg (fun q => q.2.1) h
      have h3 := congrArg (fun q => q.2.2) h
      simp only at h1 h2 h3
      refine ⟨?_, ?_, ?_⟩ <;> grind
  · refine ⟨15, fun x y z => (z, -x, -y), by decide, by decide +kernel, fun x y z => ⟨?_, ?_, ?_⟩, fun x y z hx hy hz => ?_, fun x y z x2 y2 z2 h => ?_⟩
    · exact (show f_W_coordinate (nI 15) 0 x y z = some (0 + 0 + z) from rfl).trans (congrArg some (by grind))
    · exact (show f_W_coordinate (nI 15) 1 x y z = some ((-x) + 0 + 0) from rfl).trans (congrArg some (by grind))
    · exact (show f_W_coordinate (nI 15) 2 x y z = some (0 + (-y) + 0) from rfl).trans (congrArg some (by grind))
    · show (((-1) * ((-1) * x + 1 * y + (-1) * z) + (1 * z - (-1) * y) - x) / 2, (1 * ((-1) * x + 1 * y + (-1) * z) + ((-1) * x - (-1) * z) - y) / 2, ((-1) * ((-1) * x + 1 * y + (-1) * z) + ((-1) * y - 1 * x) - z) / 2) = (z, -x, -y)
      have e0 : (-1) * ((-1) * x + 1 * y + (-1) * z) + (1 * z - (-1) * y) - x = 2 * (z) := by grind
      have e1 : 1 * ((-1) * x + 1 * y + (-1) * z) + ((-1) * x - (-1) * z) - y = 2 * (-x) := by grind
      have e2 : (-1) * ((-1) * x + 1 * y + (-1) * z) + ((-1) * y - 1 * x) - z = 2 * (-y) := by grind
      rw [e0, e1, e2, half9 (hz), half9 (sm9_neg hx), half9 (sm9_neg hy)]
    · have h1 := congrArg Prod.fst h
      have h2 := congrArg (fun q => q.2.1) h
      have h3 := congrArg (fun q => q.2.2) h
      simp only at h1 h2 h3
      refine ⟨?_, ?_, ?_⟩ <;> grind
  · refine ⟨13, fun x y z => (-y, -x, -z), by decide, by decide +kernel, fun x y z => ⟨?_, ?_, ?_⟩, fun x y z hx hy hz => ?_, fun x y z x2 y2 z2 h => ?_⟩
    · exact (show f_W_coordinate (nI 13) 0 x y z = some (0 + (-y) + 0) from rfl).trans (congrArg some (by grind))
    · exact (show f_W_coordinate (nI 13) 1 x y z = some ((-x) + 0 + 0) from rfl).trans (congrArg some (by grind))
    · exact (show f_W_coordinate (nI 13) 2 x y z = some (0 + 0 + (-z)) from rfl).trans (congrArg some (by grind))
    · show ((-1) * ((-1) * x + 1 * y + 0 * z) - x, 1 * ((-1) * x + 1 * y + 0 * z) - y, 0 * ((-1) * x + 1 * y + 0 * z) - z) = (-y, -x, -z)
      have e0 : (-1) * ((-1) * x + 1 * y + 0 * z) - x = -y := by grind
      have e1 : 1 * ((-1) * x + 1 * y + 0 * z) - y = -x := by grind
      have e2 : 0 * ((-1) * x + 1 * y + 0 * z) - z = -z := by grind
      rw [e0, e1, e2]
    · have h1 := congrArg Prod.fst h
      have h2 := congrArg (fun q => q.2.1) h
      have h3 := congrArg (fun q => q.2.2) h
      simp only at h1 h2 h3
      refine ⟨?_, ?_, ?_⟩ <;> grind
  · refine ⟨21, fun x y z => (-y, z, -x), by decide, by decide +kernel, fun x y z => ⟨?_, ?_, ?_⟩, fun x y z hx hy hz => ?_, fun x y z x2 y2 z2 h => ?_⟩
    · exact (show f_W_coordinate (nI 21) 0 x y z = some (0 + (-y) + 0) from rfl).trans (congrArg some (by grind))
    · exact (show f_W_coordinate (nI 21) 1 x y z = some (0 + 0 + z) from rfl).trans (congrArg some (by grind))
    · exact (show f_W_coordinate (nI 21) 2 x y z = some ((-x) + 0 + 0) from rfl).trans (congrArg some (by grind))
    · show (((-1) * ((-1) * x + 1 * y + 1 * z) + (1 * z - 1 * y) - x) / 2, (1 * ((-1) * x + 1 * y + 1 * z) + (1 * x - (-1) * z) - y) / 2, (1 * ((-1) * x + 1 * y + 1 * z) + ((-1) * y - 1 * x) - z) / 2) = (-y, z, -x)
      have e0 : (-1) * ((-1) * x + 1 * y + 1 * z) + (1 * z - 1 * y) - x = 2 * (-y) := by grind
      have e1 : 1 * ((-1) * x + 1 * y + 1 * z) + (1 * x - (-1) * z) - y = 2 * (z) := by grind
      have e2 : 1 * ((-1) * x + 1 * y + 1 * z) + ((-1) * y - 1 * x) - z = 2 * (-x) := by grind
      rw [e0, e1, e2, half9 (sm9_neg hy), half9 (hz), half9 (sm9_neg hx)]
    · have h1 := congrArg Prod.fst h
      have h2 := congrArg (fun q => q.2.1) h
      have h3 := congrArg (fun q => q.2.2) h
      simp only at h1 h2 h3
      refine ⟨?_, ?_, ?_⟩ <;> grind
  · refine ⟨6, fun x y z => (-x, z, y), by decide, by decide +kernel, fun x y z => ⟨?_, ?_, ?_⟩, fun x y z hx hy hz => ?_, fun x y z x2 y2 z2 h => ?_⟩
    · exact (show f_W_coordinate (nI 6) 0 x y z = some ((-x) + 0 + 0) from rfl).trans (congrArg some (by grind))
    · exact (show f_W_coordinate (nI 6) 1 x y z = some (0 + 0 + z) from rfl).trans (congrArg some (by grind))
    · exact (show f_W_coordinate (nI 6) 2 x y z = some (0 + y + 0) from rfl).trans (congrArg some (by grind))
    · show (0 * (0 * x + (-1) * y + (-1) * z) - x, (-1) * (0 * x + (-1) * y + (-1) * z) - y, (-1) * (0 * x + (-1) * y + (-1) * z) - z) = (-x, z, y)
      have e0 : 0 * (0 * x + (-1) * y + (-1) * z) - x = -x := by grind
      have e1 : (-1) * (0 * x + (-1) * y + (-1) * z) - y = z := by grind
      have e2 : (-1) * (0 * x + (-1) * y + (-1) * z) - z = y := by grind
      rw [e0, e1, e2]
    · have h1 := congrArg Prod.fst h
      have h2 := congrArg (fun q => q.2.1) h
      have h3 := congrArg (fun q => q.2.2) h
      simp only at h1 h2 h3
      refine ⟨?_, ?_, ?_⟩ <;> grind
  · refine ⟨18, fun x y z => (-z, y, x), by decide, by decide +kernel, fun x y z => ⟨?_, ?_, ?_⟩, fun x y z hx hy hz => ?_, fun x y z x2 y2 z2 h => ?_⟩
    · exact (show f_W_coordinate (nI 18) 0 x y z = some (0 + 0 + (-z)) from rfl).trans (congrArg some (by grind))
    · exact (show f_W_coordinate (nI 18) 1 x y z = some (0 + y + 0) from rfl).trans (congrArg some (by grind))
    · exact (show f_W_coordinate (nI 18) 2 x y z = some (x + 0 + 0) from rfl).trans (congrArg some (by grind))
    · show (0 * (0 * x + (-1) * y + 0 * z) + ((-1) * z - 0 * y), (-1) * (0 * x + (-1) * y + 0 * z) + (0 * x - 0 * z), 0 * (0 * x + (-1) * y + 0 * z) + (0 * y - (-1) * x)) = (-z, y, x)
      have e0 : 0 * (0 * x + (-1) * y + 0 * z) + ((-1) * z - 0 * y) = -z := by grind
      have e1 : (-1) * (0 * x + (-1) * y + 0 * z) + (0 * x - 0 * z) = y := by grind
      have e2 : 0 * (0 * x + (-1) * y + 0 * z) + (0 * y - (-1) * x) = x := by grind
      rw [e0, e1, e2]
    · have h1 := congrArg Prod.fst h
      have h2 := congrArg (fun q => q.2.1) h
      have h3 := congrArg (fun q => q.2.2) h
      simp only at h1 h2 h3
      refine ⟨?_, ?_, ?_⟩ <;> grind
  · refine ⟨7, fun x y z => (-x, -z, -y), by decide, by decide +kernel, fun x y z => ⟨?_, ?_, ?_⟩, fun x y z hx hy hz => ?_, fun x y z x2 y2 z2 h => ?_⟩
    · exact (show f_W_coordinate (nI 7) 0 x y z = some ((-x) + 0 + 0) from rfl).trans (congrArg some (by grind))
    · exact (show f_W_coordinate (nI 7) 1 x y z = some (0 + 0 + (-z)) from rfl).trans (congrArg some (by grind))
    · exact (show f_W_coordinate (nI 7) 2 x y z = some (0 + (-y) + 0) from rfl).trans (congrArg some (by grind))
    · show (0 * (0 * x + (-1) * y + 1 * z) - x, (-1) * (0 * x + (-1) * y + 1 * z) - y, 1 * (0 * x + (-1) * y + 1 * z) - z) = (-x, -z, -y)
      have e0 : 0 * (0 * x + (-1) * y + 1 * z) - x = -x := by grind
      have e1 : (-1) * (0 * x + (-1) * y + 1 * z) - y = -z := by grind
      have e2 : 1 * (0 * x + (-1) * y + 1 * z) - z = -y := by grind
      rw [e0, e1, e2]
    · have h1 := congrArg Prod.fst h
      have h2 := congrArg (fun q => q.2.1) h
      have h3 := congrArg (fun q => q.2.2) h
      simp only at h1 h2 h3
      refine ⟨?_, ?_, ?_⟩ <;> grind
  · refine ⟨12, fun x y z => (y, -x, z), by decide, by decide +kernel, fun x y z => ⟨?_, ?_, ?_⟩, fun x y z hx hy hz => ?_, fun x y z x2 y2 z2 h => ?_⟩
    · exact (show f_W_coordinate (nI 12) 0 x y z = some (0 + y + 0) from rfl).trans (congrArg some (by grind))
    · exact (show f_W_coordinate (nI 12) 1 x y z = some ((-x) + 0 + 0) from rfl).trans (congrArg some (by grind))
    · exact (show f_W_coordinate (nI 12) 2 x y z = some (0 + 0 + z) from rfl).trans (congrArg some (by grind))
    · show (0 * (0 * x + 0 * y + (-1) * z) + (0 * z - (-1) * y), 0 * (0 * x + 0 * y + (-1) * z) + ((-1) * x - 0 * z), (-1) * (0 * x + 0 * y + (-1) * z) + (0 * y - 0 * x)) = (y, -x, z)
      have e0 : 0 * (0 * x + 0 * y + (-1) * z) + (0 * z - (-1) * y) = y := by grind
      have e1 : 0 * (0 * x + 0 * y + (-1) * z) + ((-1) * x - 0 * z) = -x := by grind
      have e2 : (-1) * (0 * x + 0 * y + (-1) * z) + (0 * y - 0 * x) = z := by grind
      rw [e0, e1, e2]
    · have h1 := congrArg Prod.fst h
      have h2 := congrArg (fun q => q.2.1) h
      have h3 := congrArg (fun q => q.2.2) h
      simp only at h1 h2 h3
      refine ⟨?_, ?_, ?_⟩ <;> grind
  · exact absurd ⟨rfl, rfl, rfl⟩ hz
  · refine ⟨9, fun x y z => (-y, x, z), by decide, by decide +kernel, fun x y z => ⟨?_, ?_, ?_⟩, fun x y z hx hy hz => ?_, fun x y z x2 y2 z2 h => ?_⟩
    · exact (show f_W_coordinate (nI 9) 0 x y z = some (0 + (-y) + 0) from rfl).trans (congrArg some (by grind))
    · exact (show f_W_coordinate (nI 9) 1 x y z = some (x + 0 + 0) from rfl).trans (congrArg some (by grind))
    · exact (show f_W_coordinate (nI 9) 2 x y z = some (0 + 0 + z) from rfl).trans (congrArg some (by grind))
    · show (0 * (0 * x + 0 * y + 1 * z) + (0 * z - 1 * y), 0 * (0 * x + 0 * y + 1 * z) + (1 * x - 0 * z), 1 * (0 * x + 0 * y + 1 * z) + (0 * y - 0 * x)) = (-y, x, z)
      have e0 : 0 * (0 * x + 0 * y + 1 * z) + (0 * z - 1 * y) = -y := by grind
      have e1 : 0 * (0 * x + 0 * y + 1 * z) + (1 * x - 0 * z) = x := by grind
      have e2 : 1 * (0 * x + 0 * y + 1 * z) + (0 * y - 0 * x) = z := by grind
      rw [e0, e1, e2]
    · have h1 := congrArg Prod.fst h
      have h2 := congrArg (fun q => q.2.1) h
      have h3 := congrArg (fun q => q.2.2) h
      simp only at h1 h2 h3
      refine ⟨?_, ?_, ?_⟩ <;> grind
  · refine ⟨7, fun x y z => (-x, -z, -y), by decide, by decide +kernel, fun x y z => ⟨?_, ?_, ?_⟩, fun x y z hx hy hz => ?_, fun x y z x2 y2 z2 h => ?_⟩
    · exact (show f_W_coordinate (nI 7) 0 x y z = some ((-x) + 0 + 0) from rfl).trans (congrArg some (by grind))
    · exact (show f_W_coordinate (nI 7) 1 x y z = some (0 + 0 + (-z)) from rfl).trans (congrArg some (by grind))
    · exact (show f_W_coordinate (nI 7) 2 x y z = some (0 + (-y) + 0) from rfl).trans (congrArg some (by grind))
    · show (0 * (0 * x + 1 * y + (-1) * z) - x, 1 * (0 * x + 1 * y + (-1) * z) - y, (-1) * (0 * x + 1 * y + (-1) * z) - z) = (-x, -z, -y)
      have e0 : 0 * (0 * x + 1 * y + (-1) * z) - x = -x := by grind
      have e1 : 1 * (0 * x + 1 * y + (-1) * z) - y = -z := by grind
      have e2 : (-1) * (0 * x + 1 * y + (-1) * z) - z = -y := by grind
      rw [e0, e1, e2]
    · have h1 := congrArg Prod.fst h
      have h2 := congrArg (fun q => q.2.1) h
      have h3 := congrArg (fun q => q.2.2) h
      simp only at h1 h2 h3
      refine ⟨?_, ?_, ?_⟩ <;> grind
  · refine ⟨22, fun x y z => (z, y, -x), by decide, by decide +kernel, fun x y z => ⟨?_, ?_, ?_⟩, fun x y z hx hy hz => ?_, fun x y z x2 y2 z2 h => ?_⟩
    · exact (show f_W_coordinate (nI 22) 0 x y z = some (0 + 0 + z) from rfl).trans (congrArg some (by grind))
    · exact (show f_W_coordinate (nI 22) 1 x y z = some (0 + y + 0) from rfl).trans (congrArg some (by grind))
    · exact (show f_W_coordinate (nI 22) 2 x y z = some ((-x) + 0 + 0) from rfl).trans (congrArg some (by grind))
    · show (0 * (0 * x + 1 * y + 0 * z) + (1 * z - 0 * y), 1 * (0 * x + 1 * y + 0 * z) + (0 * x - 0 * z), 0 * (0 * x + 1 * y + 0 * z) + (0 * y - 1 * x)) = (z, y, -x)
      have e0 : 0 * (0 * x + 1 * y + 0 * z) + (1 * z - 0 * y) = z := by grind
      have e1 : 1 * (0 * x + 1 * y + 0 * z) + (0 * x - 0 * z) = y := by grind
      have e2 : 0 * (0 * x + 1 * y + 0 * z) + (0 * y - 1 * x) = -x := by grind
      rw [e0, e1, e2]
    · have h1 := congrArg Prod.fst h
      have h2 := congrArg (fun q => q.2.1) h
      have h3 := congrArg (fun q => q.2.2) h
      simp only at h1 h2 h3
      refine ⟨?_, ?_, ?_⟩ <;> grind
  · refine ⟨6, fun x y z => (-x, z, y), by decide, by decide +kernel, fun x y z => ⟨?_, ?_, ?_⟩, fun x y z hx hy hz => ?_, fun x y z x2 y2 z2 h => ?_⟩
    · exact (show f_W_coordinate (nI 6) 0 x y z = some ((-x) + 0 + 0) from rfl).trans (congrArg some (by grind))
    · exact (show f_W_coordinate (nI 6) 1 x y z = some (0 + 0 + z) from rfl).trans (congrArg some (by grind))
    · exact (show f_W_coordinate (nI 6) 2 x y z = some (0 + y + 0) from rfl).trans (congrArg some (by grind))
    · show (0 * (0 * x + 1 * y + 1 * z) - x, 1 * (0 * x + 1 * y + 1 * z) - y, 1 * (0 * x + 1 * y + 1 * z) - z) = (-x, z, y)
      have e0 : 0 * (0 * x + 1 * y + 1 * z) - x = -x := by grind
      have e1 : 1 * (0 * x + 1 * y + 1 * z) - y = z := by grind
      have e2 : 1 * (0 * x + 1 * y + 1 * z) - z = y := by grind
      rw [e0, e1, e2]
    · have h1 := congrArg Prod.fst h
      have h2 := congrArg (fun q => q.2.1) h
      have h3 := congrArg (fun q => q.2.2) h
      simp only at h1 h2 h3
      refine ⟨?_, ?_, ?_⟩ <;> grind
  · refine ⟨14, fun x y z => (-z, -x, y), by decide, by decide +kernel, fun x y z => ⟨?_, ?_, ?_⟩, fun x y z hx hy hz => ?_, fun x y z x2 y2 z2 h => ?_⟩
    · exact (show f_W_coordinate (nI 14) 0 x y z = some (0 + 0 + (-z)) from rfl).trans (congrArg some (by grind))
    · exact (show f_W_coordinate (nI 14) 1 x y z = some ((-x) + 0 + 0) from rfl).trans (congrArg some (by grind))
    · exact (show f_W_coordinate (nI 14) 2 x y z = some (0 + y + 0) from rfl).trans (congrArg some (by grind))
    · show ((1 * (1 * x + (-1) * y + (-1) * z) + ((-1) * z - (-1) * y) - x) / 2, ((-1) * (1 * x + (-1) * y + (-1) * z) + ((-1) * x - 1 * z) - y) / 2, ((-1) * (1 * x + (-1) * y + (-1) * z) + (1 * y - (-1) * x) - z) / 2) = (-z, -x, y)
      have e0 : 1 * (1 * x + (-1) * y + (-1) * z) + ((-1) * z - (-1) * y) - x = 2 * (-z) := by grind
      have e1 : (-1) * (1 * x + (-1) * y + (-1) * z) + ((-1) * x - 1 * z) - y = 2 * (-x) := by grind
      have e2 : (-1) * (1 * x + (-1) * y + (-1) * z) + (1 * y - (-1) * x) - z = 2 * (y) := by grind
      rw [e0, e1, e2, half9 (sm9_neg hz), half9 (sm9_neg hx), half9 (hy)]
    · have h1 := congrArg Prod.fst h
      have h2 := congrArg (fun q => q.2.1) h
      have h3 := congrArg (fun q => q.2.2) h
      simp only at h1 h2 h3
      refine ⟨?_, ?_, ?_⟩ <;> grind
  · refine ⟨13, fun x y z => (-y, -x, -z), by decide, by decide +kernel, fun x y z => ⟨?_, ?_, ?_⟩, fun x y z hx hy hz => ?_, fun x y z x2 y2 z2 h => ?_⟩
    · exact (show f_W_coordinate (nI 13) 0 x y z = some (0 + (-y) + 0) from rfl).trans (congrArg some (by grind))
    · exact (show f_W_coordinate (nI 13) 1 x y z = some ((-x) + 0 + 0) from rfl).trans (congrArg some (by grind))
    · exact (show f_W_coordinate (nI 13) 2 x y z = some (0 + 0 + (-z)) from rfl).trans (congrArg some (by grind))
    · show (1 * (1 * x + (-1) * y + 0 * z) - x, (-1) * (1 * x + (-1) * y + 0 * z) - y, 0 * (1 * x + (-1) * y + 0 * z) - z) = (-y, -x, -z)
      have e0 : 1 * (1 * x + (-1) * y + 0 * z) - x = -y := by grind
      have e1 : (-1) * (1 * x + (-1) * y + 0 * z) - y = -x := by grind
      have e2 : 0 * (1 * x + (-1) * y + 0 * z) - z = -z := by grind
      rw [e0, e1, e2]
    · have h1 := congrArg Prod.fst h
      have h2 := congrArg (fun q => q.2.1) h
      have h3 := congrArg (fun q => q.2.2) h
      simp only at h1 h2 h3
      refine ⟨?_, ?_, ?_⟩ <;> grind
  · refine ⟨17, fun x y z => (-y, -z, x), by decide, by decide +kernel, fun x y z => ⟨?_, ?_, ?_⟩, fun x y z hx hy hz => ?_, fun x y z x2 y2 z2 h => ?_⟩
    · exact (show f_W_coordinate (nI 17) 0 x y z = some (0 + (-y) + 0) from rfl).trans (congrArg some (by grind))
    · exact (show f_W_coordinate (nI 17) 1 x y z = some (0 + 0 + (-z)) from rfl).trans (congrArg some (by grind))
    · exact (show f_W_coordinate (nI 17) 2 x y z = some (x + 0 + 0) from rfl).trans (congrArg some (by grind))
    · show ((1 * (1 * x + (-1) * y + 1 * z) + ((-1) * z - 1 * y) - x) / 2, ((-1) * (1 * x + (-1) * y + 1 * z) + (1 * x - 1 * z) - y) / 2, (1 * (1 * x + (-1) * y + 1 * z) + (1 * y - (-1) * x) - z) / 2) = (-y, -z, x)
      have e0 : 1 * (1 * x + (-1) * y + 1 * z) + ((-1) * z - 1 * y) - x = 2 * (-y) := by grind
      have e1 : (-1) * (1 * x + (-1) * y + 1 * z) + (1 * x - 1 * z) - y = 2 * (-z) := by grind
      have e2 : 1 * (1 * x + (-1) * y + 1 * z) + (1 * y - (-1) * x) - z = 2 * (x) := by grind
      rw [e0, e1, e2, half9 (sm9_neg hy), half9 (sm9_neg hz), half9 (hx)]
    · have h1 := congrArg Prod.fst h
      have h2 := congrArg (fun q => q.2.1) h
      have h3 := congrArg (fun q => q.2.2) h
      simp only at h1 h2 h3
      refine ⟨?_, ?_, ?_⟩ <;> grind
  · refine ⟨23, fun x y z => (-z, -y, -x), by decide, by decide +kernel, fun x y z => ⟨?_, ?_, ?_⟩, fun x y z hx hy hz => ?_, fun x y z x2 y2 z2 h => ?_⟩
    · exact (show f_W_coordinate (nI 23) 0 x y z = some (0 + 0 + (-z)) from rfl).trans (congrArg some (by grind))
    · exact (show f_W_coordinate (nI 23) 1 x y z = some (0 + (-y) + 0) from rfl).trans (congrArg some (by grind))
    · exact (show f_W_coordinate (nI 23) 2 x y z = some ((-x) + 0 + 0) from rfl).trans (congrArg some (by grind))
    · show (1 * (1 * x + 0 * y + (-1) * z) - x, 0 * (1 * x + 0 * y + (-1) * z) - y, (-1) * (1 * x + 0 * y + (-1) * z) - z) = (-z, -y, -x)
      have e0 : 1 * (1 * x + 0 * y + (-1) * z) - x = -z := by grind
      have e1 : 0 * (1 * x + 0 * y + (-1) * z) - y = -y := by grind
      have e2 : (-1) * (1 * x + 0 * y + (-1) * z) - z = -x := by grind
      rw [e0, e1, e2]
    · have h1 := congrArg Prod.fst h
      have h2 := congrArg (fun q => q.2.1) h
      have h3 := congrArg (fun q => q.2.2) h
      simp only at h1 h2 h3
      refine ⟨?_, ?_, ?_⟩ <;> grind
  · refine ⟨2, fun x y z => (x, -z, y), by decide, by decide +kernel, fun x y z => ⟨?_, ?_, ?_⟩, fun x y z hx hy hz => ?_, fun x y z x2 y2 z2 h => ?_⟩
    · exact (show f_W_coordinate (nI 2) 0 x y z = some (x + 0 + 0) from rfl).trans (congrArg some (by grind))
    · exact (show f_W_coordinate (nI 2) 1 x y z = some (0 + 0 + (-z)) from rfl).trans (congrArg some (by grind))
    · exact (show f_W_coordinate (nI 2) 2 x y z = some (0 + y + 0) from rfl).trans (congrArg some (by grind))
    · show (1 * (1 * x + 0 * y + 0 * z) + (0 * z - 0 * y), 0 * (1 * x + 0 * y + 0 * z) + (0 * x - 1 * z), 0 * (1 * x + 0 * y + 0 * z) + (1 * y - 0 * x)) = (x, -z, y)
      have e0 : 1 * (1 * x + 0 * y + 0 * z) + (0 * z - 0 * y) = x := by grind
      have e1 : 0 * (1 * x + 0 * y + 0 * z) + (0 * x - 1 * z) = -z := by grind
      have e2 : 0 * (1 * x + 0 * y + 0 * z) + (1 * y - 0 * x) = y := by grind
      rw [e0, e1, e2]
    · have h1 := congrArg Prod.fst h
      have h2 := congrArg (fun q => q.2.1) h
      have h3 := congrArg (fun q => q.2.2) h
      simp only at h1 h2 h3
      refine ⟨?_, ?_, ?_⟩ <;> grind
  · refine ⟨19, fun x y z => (z, -y, x), by decide, by decide +kernel, fun x y z => ⟨?_, ?_, ?_⟩, fun x y z hx hy hz => ?_, fun x y z x2 y2 z2 h => ?_⟩
    · exact (show f_W_coordinate (nI 19) 0 x y z = some (0 + 0 + z) from rfl).trans (congrArg some (by grind))
    · exact (show f_W_coordinate (nI 19) 1 x y z = some (0 + (-y) + 0) from rfl).trans (congrArg some (by grind))
    · exact (show f_W_coordinate (nI 19) 2 x y z = some (x + 0 + 0) from rfl).trans (congrArg some (by grind))
    · show (1 * (1 * x + 0 * y + 1 * z) - x, 0 * (1 * x + 0 * y + 1 * z) - y, 1 * (1 * x + 0 * y + 1 * z) - z) = (z, -y, x)
      have e0 : 1 * (1 * x + 0 * y + 1 * z) - x = z := by grind
      have e1 : 0 * (1 * x + 0 * y + 1 * z) - y = -y := by grind
      have e2 : 1 * (1 * x + 0 * y + 1 * z) - z = x := by grind
      rw [e0, e1, e2]
    · have h1 := congrArg Prod.fst h
      have h2 := congrArg (fun q => q.2.1) h
      have h3 := congrArg (fun q => q.2.2) h
      simp only at h1 h2 h3
      refine ⟨?_, ?_, ?_⟩ <;> grind
  · refine ⟨20, fun x y z => (y, -z, -x), by decide, by decide +kernel, fun x y z => ⟨?_, ?_, ?_⟩, fun x y z hx hy hz => ?_, fun x y z x2 y2 z2 h => ?_⟩
    · exact (show f_W_coordinate (nI 20) 0 x y z = some (0 + y + 0) from rfl).trans (congrArg some (by grind))
    · exact (show f_W_coordinate (nI 20) 1 x y z = some (0 + 0 + (-z)) from rfl).trans (congrArg some (by grind))
    · exact (show f_W_coordinate (nI 20) 2 x y z = some ((-x) + 0 + 0) from rfl).trans (congrArg some (by grind))
    · show ((1 * (1 * x + 1 * y + (-1) * z) + (1 * z - (-1) * y) - x) / 2, (1 * (1 * x + 1 * y + (-1) * z) + ((-1) * x - 1 * z) - y) / 2, ((-1) * (1 * x + 1 * y + (-1) * z) + (1 * y - 1 * x) - z) / 2) = (y, -z, -x)
      have e0 : 1 * (1 * x + 1 * y + (-1) * z) + (1 * z - (-1) * y) - x = 2 * (y) := by grind
      have e1 : 1 * (1 * x + 1 * y + (-1) * z) + ((-1) * x - 1 * z) - y = 2 * (-z) := by grind
      have e2 : (-1) * (1 * x + 1 * y + (-1) * z) + (1 * y - 1 * x) - z = 2 * (-x) := by grind
      rw [e0, e1, e2, half9 (hy), half9 (sm9_neg hz), half9 (sm9_neg hx)]
    · have h1 := congrArg Prod.fst h
      have h2 := congrArg (fun q => q.2.1) h
      have h3 := congrArg (fun q => q.2.2) h
      simp only at h1 h2 h3
      refine ⟨?_, ?_, ?_⟩ <;> grind
  · refine ⟨8, fun x y z => (y, x, -z), by decide, by decide +kernel, fun x y z => ⟨?_, ?_, ?_⟩, fun x y z hx hy hz => ?_, fun x y z x2 y2 z2 h => ?_⟩
    · exact (show f_W_coordinate (nI 8) 0 x y z = some (0 + y + 0) from rfl).trans (congrArg some (by grind))
    · exact (show f_W_coordinate (nI 8) 1 x y z = some (x + 0 + 0) from rfl).trans (congrArg some (by grind))
    · exact (show f_W_coordinate (nI 8) 2 x y z = some (0 + 0 + (-z)) from rfl).trans (congrArg some (by grind))
    · show (1 * (1 * x + 1 * y + 0 * z) - x, 1 * (1 * x + 1 * y + 0 * z) - y, 0 * (1 * x + 1 * y + 0 * z) - z) = (y, x, -z)
      have e0 : 1 * (1 * x + 1 * y + 0 * z) - x = y := by grind
      have e1 : 1 * (1 * x + 1 * y + 0 * z) - y = x := by grind
      have e2 : 0 * (1 * x + 1 * y + 0 * z) - z = -z := by grind
      rw [e0, e1, e2]
    · have h1 := congrArg Prod.fst h
      have h2 := congrArg (fun q => q.2.1) h
      have h3 := congrArg (fun q => q.2.2) h
      simp only at h1 h2 h3
      refine ⟨?_, ?_, ?_⟩ <;> grind
  · refine ⟨10, fun x y z => (z, x, y), by decide, by decide +kernel, fun x y z => ⟨?_, ?_, ?_⟩, fun x y z hx hy hz => ?_, fun x y z x2 y2 z2 h => ?_⟩
    · exact (show f_W_coordinate (nI 10) 0 x y z = some (0 + 0 + z) from rfl).trans (congrArg some (by grind))
    · exact (show f_W_coordinate (nI 10) 1 x y z = some (x + 0 + 0) from rfl).trans (congrArg some (by grind))
    · exact (show f_W_coordinate (nI 10) 2 x y z = some (0 + y + 0) from rfl).trans (congrArg some (by grind))
    · show ((1 * (1 * x + 1 * y + 1 * z) + (1 * z - 1 * y) - x) / 2, (1 * (1 * x + 1 * y + 1 * z) + (1 * x - 1 * z) - y) / 2, (1 * (1 * x + 1 * y + 1 * z) + (1 * y - 1 * x) - z) / 2) = (z, x, y)
      have e0 : 1 * (1 * x + 1 * y + 1 * z) + (1 * z - 1 * y) - x = 2 * (z) := by grind
      have e1 : 1 * (1 * x + 1 * y + 1 * z) + (1 * x - 1 * z) - y = 2 * (x) := by grind
      have e2 : 1 * (1 * x + 1 * y + 1 * z) + (1 * y - 1 * x) - z = 2 * (y) := by grind
      rw [e0, e1, e2, half9 (hz), half9 (hx), half9 (hy)]
    · have h1 := congrArg Prod.fst h
      have h2 := congrArg (fun q => q.2.1) h
      have h3 := congrArg (fun q => q.2.2) h
      simp only at h1 h2 h3
      refine ⟨?_, ?_, ?_⟩ <;> grind

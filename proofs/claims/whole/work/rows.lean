section
-- ===== PART A: goes FIRST, ahead of the names: the tables' words, and 'selects' of the private methods out of them =====
/-- a private method of a class that the tables say can be made, by its rows of tables_1 -/
def lw_okq (q : MethodName × Nat) : Prop := (q.1.cls ≠ "java/lang/invoke/MethodHandle" ∧ q.1.cls ≠ "java/lang/invoke/VarHandle") ∧ Cond.instantiable q.1.cls q.2 ∈ tables_1 ∧ Cond.privateMethod q.1 ∈ tables_1 ∧ Cond.instanceMethod q.1 ∈ tables_1
theorem lw_p0 : lw_okq (⟨"CutBodies$Body", "noteSide", "(II)V"⟩, 10) := ⟨⟨by decide +kernel, by decide +kernel⟩, List.mem_of_getElem? (i := 17) (by decide +kernel), List.mem_of_getElem? (i := 120) (by decide +kernel), List.mem_of_getElem? (i := 121) (by decide +kernel)⟩
theorem lw_p1 : lw_okq (⟨"CutBodies", "hasAxis", "(I)Z"⟩, 10) := ⟨⟨by decide +kernel, by decide +kernel⟩, List.mem_of_getElem? (i := 9) (by decide +kernel), List.mem_of_getElem? (i := 162) (by decide +kernel), List.mem_of_getElem? (i := 163) (by decide +kernel)⟩
theorem lw_p2 : lw_okq (⟨"CutBodies", "findTargets", "(II)I"⟩, 10) := ⟨⟨by decide +kernel, by decide +kernel⟩, List.mem_of_getElem? (i := 9) (by decide +kernel), List.mem_of_getElem? (i := 236) (by decide +kernel), List.mem_of_getElem? (i := 237) (by decide +kernel)⟩
theorem lw_p3 : lw_okq (⟨"CutBodies", "turnByTargets", "(LCutBodies$Contents;I)V"⟩, 10) := ⟨⟨by decide +kernel, by decide +kernel⟩, List.mem_of_getElem? (i := 9) (by decide +kernel), List.mem_of_getElem? (i := 240) (by decide +kernel), List.mem_of_getElem? (i := 241) (by decide +kernel)⟩
theorem lw_p4 : lw_okq (⟨"CutBodies$Body", "hasPlaneWhere", "(IIII)Z"⟩, 10) := ⟨⟨by decide +kernel, by decide +kernel⟩, List.mem_of_getElem? (i := 17) (by decide +kernel), List.mem_of_getElem? (i := 277) (by decide +kernel), List.mem_of_getElem? (i := 278) (by decide +kernel)⟩
theorem lw_p5 : lw_okq (⟨"CutBodies$Body", "isSamePlane", "(IIIII)Z"⟩, 10) := ⟨⟨by decide +kernel, by decide +kernel⟩, List.mem_of_getElem? (i := 17) (by decide +kernel), List.mem_of_getElem? (i := 281) (by decide +kernel), List.mem_of_getElem? (i := 282) (by decide +kernel)⟩
theorem lw_p6 : lw_okq (⟨"CutBodies", "rowsUntilBack", "()I"⟩, 10) := ⟨⟨by decide +kernel, by decide +kernel⟩, List.mem_of_getElem? (i := 9) (by decide +kernel), List.mem_of_getElem? (i := 293) (by decide +kernel), List.mem_of_getElem? (i := 294) (by decide +kernel)⟩
theorem lw_p7 : lw_okq (⟨"CutBodiesModel", "add", "(III)Z"⟩, 23) := ⟨⟨by decide +kernel, by decide +kernel⟩, List.mem_of_getElem? (i := 314) (by decide +kernel), List.mem_of_getElem? (i := 397) (by decide +kernel), List.mem_of_getElem? (i := 398) (by decide +kernel)⟩
theorem lw_p8 : lw_okq (⟨"CutBodiesModel", "pointAt", "(III)I"⟩, 23) := ⟨⟨by decide +kernel, by decide +kernel⟩, List.mem_of_getElem? (i := 314) (by decide +kernel), List.mem_of_getElem? (i := 401) (by decide +kernel), List.mem_of_getElem? (i := 402) (by decide +kernel)⟩
theorem lw_p9 : lw_okq (⟨"CutBodiesModel", "own", "()V"⟩, 23) := ⟨⟨by decide +kernel, by decide +kernel⟩, List.mem_of_getElem? (i := 314) (by decide +kernel), List.mem_of_getElem? (i := 405) (by decide +kernel), List.mem_of_getElem? (i := 406) (by decide +kernel)⟩
theorem lw_p10 : lw_okq (⟨"CutBodiesModel", "isAxis", "(I)Z"⟩, 23) := ⟨⟨by decide +kernel, by decide +kernel⟩, List.mem_of_getElem? (i := 314) (by decide +kernel), List.mem_of_getElem? (i := 428) (by decide +kernel), List.mem_of_getElem? (i := 429) (by decide +kernel)⟩
theorem lw_p11 : lw_okq (⟨"CutBodiesModel", "kind", "(I)I"⟩, 23) := ⟨⟨by decide +kernel, by decide +kernel⟩, List.mem_of_getElem? (i := 314) (by decide +kernel), List.mem_of_getElem? (i := 432) (by decide +kernel), List.mem_of_getElem? (i := 433) (by decide +kernel)⟩
theorem lw_p12 : lw_okq (⟨"CutBodiesModel", "isPoint", "(I)Z"⟩, 23) := ⟨⟨by decide +kernel, by decide +kernel⟩, List.mem_of_getElem? (i := 314) (by decide +kernel), List.mem_of_getElem? (i := 440) (by decide +kernel), List.mem_of_getElem? (i := 441) (by decide +kernel)⟩
theorem lw_p13 : lw_okq (⟨"CutBodiesModel", "imageOf", "(II)I"⟩, 23) := ⟨⟨by decide +kernel, by decide +kernel⟩, List.mem_of_getElem? (i := 314) (by decide +kernel), List.mem_of_getElem? (i := 444) (by decide +kernel), List.mem_of_getElem? (i := 445) (by decide +kernel)⟩
theorem lw_p14 : lw_okq (⟨"CutBodiesModel", "step", "(IIII)V"⟩, 23) := ⟨⟨by decide +kernel, by decide +kernel⟩, List.mem_of_getElem? (i := 314) (by decide +kernel), List.mem_of_getElem? (i := 448) (by decide +kernel), List.mem_of_getElem? (i := 449) (by decide +kernel)⟩
theorem lw_p15 : lw_okq (⟨"CutBodiesModel", "isPlane", "(I)Z"⟩, 23) := ⟨⟨by decide +kernel, by decide +kernel⟩, List.mem_of_getElem? (i := 314) (by decide +kernel), List.mem_of_getElem? (i := 456) (by decide +kernel), List.mem_of_getElem? (i := 457) (by decide +kernel)⟩
def lw_privs_1 : List (MethodName × Nat) := [(⟨"CutBodies$Body", "noteSide", "(II)V"⟩, 10), (⟨"CutBodies", "hasAxis", "(I)Z"⟩, 10), (⟨"CutBodies", "findTargets", "(II)I"⟩, 10), (⟨"CutBodies", "turnByTargets", "(LCutBodies$Contents;I)V"⟩, 10), (⟨"CutBodies$Body", "hasPlaneWhere", "(IIII)Z"⟩, 10), (⟨"CutBodies$Body", "isSamePlane", "(IIIII)Z"⟩, 10), (⟨"CutBodies", "rowsUntilBack", "()I"⟩, 10), (⟨"CutBodiesModel", "add", "(III)Z"⟩, 23), (⟨"CutBodiesModel", "pointAt", "(III)I"⟩, 23), (⟨"CutBodiesModel", "own", "()V"⟩, 23), (⟨"CutBodiesModel", "isAxis", "(I)Z"⟩, 23), (⟨"CutBodiesModel", "kind", "(I)I"⟩, 23), (⟨"CutBodiesModel", "isPoint", "(I)Z"⟩, 23), (⟨"CutBodiesModel", "imageOf", "(II)I"⟩, 23), (⟨"CutBodiesModel", "step", "(IIII)V"⟩, 23), (⟨"CutBodiesModel", "isPlane", "(I)Z"⟩, 23)]
theorem lw_r1 : ∀ q ∈ lw_privs_1, lw_okq q := List.forall_mem_cons.mpr ⟨lw_p0, List.forall_mem_cons.mpr ⟨lw_p1, List.forall_mem_cons.mpr ⟨lw_p2, List.forall_mem_cons.mpr ⟨lw_p3, List.forall_mem_cons.mpr ⟨lw_p4, List.forall_mem_cons.mpr ⟨lw_p5, List.forall_mem_cons.mpr ⟨lw_p6, List.forall_mem_cons.mpr ⟨lw_p7, List.forall_mem_cons.mpr ⟨lw_p8, List.forall_mem_cons.mpr ⟨lw_p9, List.forall_mem_cons.mpr ⟨lw_p10, List.forall_mem_cons.mpr ⟨lw_p11, List.forall_mem_cons.mpr ⟨lw_p12, List.forall_mem_cons.mpr ⟨lw_p13, List.forall_mem_cons.mpr ⟨lw_p14, List.forall_mem_cons.mpr ⟨lw_p15, fun _ h => absurd h List.not_mem_nil⟩⟩⟩⟩⟩⟩⟩⟩⟩⟩⟩⟩⟩⟩⟩⟩
theorem lw_p16 : lw_okq (⟨"CutBodiesModel", "sideOf", "(II)I"⟩, 23) := ⟨⟨by decide +kernel, by decide +kernel⟩, List.mem_of_getElem? (i := 314) (by decide +kernel), List.mem_of_getElem? (i := 460) (by decide +kernel), List.mem_of_getElem? (i := 461) (by decide +kernel)⟩
theorem lw_p17 : lw_okq (⟨"CutBodiesModel", "piecesTo", "(I)I"⟩, 23) := ⟨⟨by decide +kernel, by decide +kernel⟩, List.mem_of_getElem? (i := 314) (by decide +kernel), List.mem_of_getElem? (i := 468) (by decide +kernel), List.mem_of_getElem? (i := 469) (by decide +kernel)⟩
theorem lw_p18 : lw_okq (⟨"CutBodiesModel", "leastOf", "(I)I"⟩, 23) := ⟨⟨by decide +kernel, by decide +kernel⟩, List.mem_of_getElem? (i := 314) (by decide +kernel), List.mem_of_getElem? (i := 472) (by decide +kernel), List.mem_of_getElem? (i := 473) (by decide +kernel)⟩
theorem lw_p19 : lw_okq (⟨"CutBodiesModel", "isAlike", "(II)Z"⟩, 23) := ⟨⟨by decide +kernel, by decide +kernel⟩, List.mem_of_getElem? (i := 314) (by decide +kernel), List.mem_of_getElem? (i := 476) (by decide +kernel), List.mem_of_getElem? (i := 477) (by decide +kernel)⟩
theorem lw_p20 : lw_okq (⟨"CutBodiesModel", "blocked", "(II)I"⟩, 23) := ⟨⟨by decide +kernel, by decide +kernel⟩, List.mem_of_getElem? (i := 314) (by decide +kernel), List.mem_of_getElem? (i := 488) (by decide +kernel), List.mem_of_getElem? (i := 489) (by decide +kernel)⟩
theorem lw_p21 : lw_okq (⟨"CutBodiesModel", "plan", "(III)V"⟩, 23) := ⟨⟨by decide +kernel, by decide +kernel⟩, List.mem_of_getElem? (i := 314) (by decide +kernel), List.mem_of_getElem? (i := 492) (by decide +kernel), List.mem_of_getElem? (i := 493) (by decide +kernel)⟩
theorem lw_p22 : lw_okq (⟨"CutBodiesModel", "turnOnce", "(II)V"⟩, 23) := ⟨⟨by decide +kernel, by decide +kernel⟩, List.mem_of_getElem? (i := 314) (by decide +kernel), List.mem_of_getElem? (i := 496) (by decide +kernel), List.mem_of_getElem? (i := 497) (by decide +kernel)⟩
theorem lw_p23 : lw_okq (⟨"CutBodiesModel", "wayBehind", "(II)I"⟩, 23) := ⟨⟨by decide +kernel, by decide +kernel⟩, List.mem_of_getElem? (i := 314) (by decide +kernel), List.mem_of_getElem? (i := 500) (by decide +kernel), List.mem_of_getElem? (i := 501) (by decide +kernel)⟩
theorem lw_p24 : lw_okq (⟨"CutBodiesModel", "taken", "(II)I"⟩, 23) := ⟨⟨by decide +kernel, by decide +kernel⟩, List.mem_of_getElem? (i := 314) (by decide +kernel), List.mem_of_getElem? (i := 504) (by decide +kernel), List.mem_of_getElem? (i := 505) (by decide +kernel)⟩
theorem lw_p25 : lw_okq (⟨"CutBodiesModel", "isThere", "(II)Z"⟩, 23) := ⟨⟨by decide +kernel, by decide +kernel⟩, List.mem_of_getElem? (i := 314) (by decide +kernel), List.mem_of_getElem? (i := 536) (by decide +kernel), List.mem_of_getElem? (i := 537) (by decide +kernel)⟩
theorem lw_p26 : lw_okq (⟨"CutBodiesModel", "isNow", "()Z"⟩, 23) := ⟨⟨by decide +kernel, by decide +kernel⟩, List.mem_of_getElem? (i := 314) (by decide +kernel), List.mem_of_getElem? (i := 551) (by decide +kernel), List.mem_of_getElem? (i := 552) (by decide +kernel)⟩
def lw_privs_2 : List (MethodName × Nat) := [(⟨"CutBodiesModel", "sideOf", "(II)I"⟩, 23), (⟨"CutBodiesModel", "piecesTo", "(I)I"⟩, 23), (⟨"CutBodiesModel", "leastOf", "(I)I"⟩, 23), (⟨"CutBodiesModel", "isAlike", "(II)Z"⟩, 23), (⟨"CutBodiesModel", "blocked", "(II)I"⟩, 23), (⟨"CutBodiesModel", "plan", "(III)V"⟩, 23), (⟨"CutBodiesModel", "turnOnce", "(II)V"⟩, 23), (⟨"CutBodiesModel", "wayBehind", "(II)I"⟩, 23), (⟨"CutBodiesModel", "taken", "(II)I"⟩, 23), (⟨"CutBodiesModel", "isThere", "(II)Z"⟩, 23), (⟨"CutBodiesModel", "isNow", "()Z"⟩, 23)]
theorem lw_r2 : ∀ q ∈ lw_privs_2, lw_okq q := List.forall_mem_cons.mpr ⟨lw_p16, List.forall_mem_cons.mpr ⟨lw_p17, List.forall_mem_cons.mpr ⟨lw_p18, List.forall_mem_cons.mpr ⟨lw_p19, List.forall_mem_cons.mpr ⟨lw_p20, List.forall_mem_cons.mpr ⟨lw_p21, List.forall_mem_cons.mpr ⟨lw_p22, List.forall_mem_cons.mpr ⟨lw_p23, List.forall_mem_cons.mpr ⟨lw_p24, List.forall_mem_cons.mpr ⟨lw_p25, List.forall_mem_cons.mpr ⟨lw_p26, fun _ h => absurd h List.not_mem_nil⟩⟩⟩⟩⟩⟩⟩⟩⟩⟩⟩
def lw_privs : List (MethodName × Nat) := lw_privs_1 ++ (lw_privs_2)
def lw_tbl : List Cond := k2_sels lw_privs ++ tables_1
theorem lw_privs_ok : ∀ q ∈ lw_privs, lw_okq q := by
  show ∀ q ∈ lw_privs_1 ++ (lw_privs_2), lw_okq q
  exact List.forall_mem_append.mpr ⟨lw_r1, lw_r2⟩

def R_B : String := "CutBodies$Body"
def R_C : String := "CutBodies$Contents"
def R_W : String := "CutBodies$Ways"
def R_X : String := "CutBodies"
def R_M : String := "CutBodiesModel"
def R_A : String := "java/util/Arrays"
def R_L : String := "CutBodiesLaw"
def T_B : u_T := fun k => match k with
  | 0 => ("CutBodies$Body", "x", "[I", true)
  | 1 => ("CutBodies$Body", "y", "[I", true)
  | 2 => ("CutBodies$Body", "z", "[I", true)
  | 3 => ("CutBodies$Body", "pointCount", "I", false)
  | 4 => ("CutBodies$Body", "a", "[I", true)
  | 5 => ("CutBodies$Body", "b", "[I", true)
  | 6 => ("CutBodies$Body", "c", "[I", true)
  | 7 => ("CutBodies$Body", "d", "[I", true)
  | 8 => ("CutBodies$Body", "planeCount", "I", false)
  | _ => ("CutBodies$Body", "sides", "[J", true)
def t_B : Nat → FieldType := fun k => match k with
  | 0 => .array .int
  | 1 => .array .int
  | 2 => .array .int
  | 3 => .int
  | 4 => .array .int
  | 5 => .array .int
  | 6 => .array .int
  | 7 => .array .int
  | 8 => .int
  | _ => .array .long
theorem n_B : ∀ a, a < 10 → ∀ b, b < 10 → a ≠ b → (T_B a).2.1 ≠ (T_B b).2.1 := by decide +kernel
theorem t_B_ok : ∀ k, k < 10 → parseFieldDescriptor (T_B k).2.2.1 = some (t_B k) := by decide +kernel
theorem fs_B : ∀ j, j < 10 → defaultValue (t_B j) = vp_V [.null, .null, .null, .int 0, .null, .null, .null, .null, .int 0, .null] j := by decide +kernel
def T_C : u_T := fun k => match k with
  | 0 => ("CutBodies$Contents", "origin", "[I", true)
  | _ => ("CutBodies$Contents", "turned", "[I", true)
def t_C : Nat → FieldType := fun k => match k with
  | 0 => .array .int
  | _ => .array .int
theorem n_C : ∀ a, a < 2 → ∀ b, b < 2 → a ≠ b → (T_C a).2.1 ≠ (T_C b).2.1 := by decide +kernel
theorem t_C_ok : ∀ k, k < 2 → parseFieldDescriptor (T_C k).2.2.1 = some (t_C k) := by decide +kernel
theorem fs_C : ∀ j, j < 2 → defaultValue (t_C j) = vp_V [.null, .null] j := by decide +kernel
def T_X : u_T := fun k => match k with
  | 0 => ("CutBodies", "body", "LCutBodies$Body;", true)
  | 1 => ("CutBodies", "steps", "[I", true)
  | 2 => ("CutBodies", "axisCount", "I", false)
  | 3 => ("CutBodies", "now", "LCutBodies$Contents;", true)
  | 4 => ("CutBodies", "row", "LCutBodies$Contents;", true)
  | 5 => ("CutBodies", "spare", "LCutBodies$Contents;", true)
  | 6 => ("CutBodies", "targets", "[I", true)
  | 7 => ("CutBodies", "kept", "[LCutBodies$Contents;", true)
  | 8 => ("CutBodies", "keptPoints", "[I", true)
  | _ => ("CutBodies", "keptCount", "I", false)
def t_X : Nat → FieldType := fun k => match k with
  | 0 => .object "CutBodies$Body"
  | 1 => .array .int
  | 2 => .int
  | 3 => .object "CutBodies$Contents"
  | 4 => .object "CutBodies$Contents"
  | 5 => .object "CutBodies$Contents"
  | 6 => .array .int
  | 7 => .array (.object "CutBodies$Contents")
  | 8 => .array .int
  | _ => .int
theorem n_X : ∀ a, a < 10 → ∀ b, b < 10 → a ≠ b → (T_X a).2.1 ≠ (T_X b).2.1 := by decide +kernel
theorem t_X_ok : ∀ k, k < 10 → parseFieldDescriptor (T_X k).2.2.1 = some (t_X k) := by decide +kernel
theorem fs_X : ∀ j, j < 10 → defaultValue (t_X j) = vp_V [.null, .null, .int 0, .null, .null, .null, .null, .null, .null, .int 0] j := by decide +kernel
def T_M : u_T := fun k => match k with
  | 0 => ("CutBodiesModel", "thrown", "I", false)
  | 1 => ("CutBodiesModel", "points", "I", false)
  | 2 => ("CutBodiesModel", "planes", "I", false)
  | 3 => ("CutBodiesModel", "axes", "I", false)
  | 4 => ("CutBodiesModel", "px", "[I", true)
  | 5 => ("CutBodiesModel", "py", "[I", true)
  | 6 => ("CutBodiesModel", "pz", "[I", true)
  | 7 => ("CutBodiesModel", "plane", "[I", true)
  | 8 => ("CutBodiesModel", "axis", "[I", true)
  | 9 => ("CutBodiesModel", "was", "[I", true)
  | 10 => ("CutBodiesModel", "ways", "[I", true)
  | 11 => ("CutBodiesModel", "kept", "I", false)
  | 12 => ("CutBodiesModel", "keptWas", "[I", true)
  | 13 => ("CutBodiesModel", "keptWays", "[I", true)
  | 14 => ("CutBodiesModel", "keptPoints", "[I", true)
  | 15 => ("CutBodiesModel", "ax", "I", false)
  | 16 => ("CutBodiesModel", "ay", "I", false)
  | 17 => ("CutBodiesModel", "az", "I", false)
  | 18 => ("CutBodiesModel", "nextWas", "[I", true)
  | 19 => ("CutBodiesModel", "nextWays", "[I", true)
  | 20 => ("CutBodiesModel", "nowWas", "[I", true)
  | 21 => ("CutBodiesModel", "nowWays", "[I", true)
  | _ => ("CutBodiesModel", "to", "[I", true)
def t_M : Nat → FieldType := fun k => match k with
  | 0 => .int
  | 1 => .int
  | 2 => .int
  | 3 => .int
  | 4 => .array .int
  | 5 => .array .int
  | 6 => .array .int
  | 7 => .array .int
  | 8 => .array .int
  | 9 => .array .int
  | 10 => .array .int
  | 11 => .int
  | 12 => .array .int
  | 13 => .array .int
  | 14 => .array .int
  | 15 => .int
  | 16 => .int
  | 17 => .int
  | 18 => .array .int
  | 19 => .array .int
  | 20 => .array .int
  | 21 => .array .int
  | _ => .array .int
theorem n_M : ∀ a, a < 23 → ∀ b, b < 23 → a ≠ b → (T_M a).2.1 ≠ (T_M b).2.1 := by decide +kernel
theorem t_M_ok : ∀ k, k < 23 → parseFieldDescriptor (T_M k).2.2.1 = some (t_M k) := by decide +kernel
theorem fs_M : ∀ j, j < 23 → defaultValue (t_M j) = vp_V [.int 0, .int 0, .int 0, .int 0, .null, .null, .null, .null, .null, .null, .null, .int 0, .null, .null, .null, .int 0, .int 0, .int 0, .null, .null, .null, .null, .null] j := by decide +kernel
abbrev vwCl : List vw_C := [(R_B, T_B, 10), (R_C, T_C, 2), (R_X, T_X, 10), (R_M, T_M, 23)]
def wAll : List Cond := lw_tbl.filter goodWord
theorem wAll_in {w : Cond} {i : Nat} (h : lw_tbl[i]? = some w) (hg : goodWord w = true) : w ∈ wAll := List.mem_filter.mpr ⟨List.mem_of_getElem? h, hg⟩
theorem wAll_ok {w : Cond} (h : w ∈ wAll) : w ∈ wAll ∧ ((w.onTables && w.keeps) = true ∨ ∃ ty, w = .arrayClass ty) := ⟨h, good_of_word (List.mem_filter.mp h).2⟩
theorem wAll_tbl {w : Cond} (h : w ∈ wAll) : w ∈ lw_tbl := (List.mem_filter.mp h).1
theorem gA {c : Cond} (hc : c ∈ wAll) : GoodIn wAll (c :: wAll) := fun w h => (List.mem_cons.mp h).elim (fun e => e ▸ wAll_ok hc) (fun h => wAll_ok h)
theorem gV {own C : String} {idx : Nat} {y : MethodName} {c : Cond} (h1 : Cond.methodLink own idx y ∈ wAll) (h2 : Cond.instanceMethod y ∈ wAll) (h3 : Cond.selects C y y ∈ wAll) (h4 : Cond.initialized C ∈ wAll) (hc : c ∈ wAll) : GoodIn wAll (wsV own idx C y (c :: wAll)) := fun w h => by
  rcases List.mem_append.mp h with h | h
  · simp only [List.mem_cons, List.not_mem_nil, or_false] at h
    rcases h with rfl | rfl | rfl | rfl
    · exact wAll_ok h1
    · exact wAll_ok h2
    · exact wAll_ok h3
    · exact wAll_ok h4
  · exact gA hc w h
theorem gS {own : String} {idx : Nat} {y : MethodName} {c : Cond} (h1 : Cond.methodLink own idx y ∈ wAll) (h2 : Cond.static y ∈ wAll) (h3 : Cond.initialized y.cls ∈ wAll) (hc : c ∈ wAll) : GoodIn wAll (va_wsS own idx y (c :: wAll)) := fun w h => by
  rcases List.mem_append.mp h with h | h
  · simp only [List.mem_cons, List.not_mem_nil, or_false] at h
    rcases h with rfl | rfl | rfl
    · exact wAll_ok h1
    · exact wAll_ok h2
    · exact wAll_ok h3
  · exact gA hc w h
theorem m_0 : (Jvm.Cond.selects "CutBodies$Body" ({ cls := "CutBodies$Body", name := "noteSide", desc := "(II)V" } : Jvm.MethodName) ({ cls := "CutBodies$Body", name := "noteSide", desc := "(II)V" } : Jvm.MethodName)) ∈ wAll := wAll_in (i := 0) rfl rfl
theorem m_1 : (Jvm.Cond.selects "CutBodies" ({ cls := "CutBodies", name := "hasAxis", desc := "(I)Z" } : Jvm.MethodName) ({ cls := "CutBodies", name := "hasAxis", desc := "(I)Z" } : Jvm.MethodName)) ∈ wAll := wAll_in (i := 1) rfl rfl
theorem m_2 : (Jvm.Cond.selects "CutBodies" ({ cls := "CutBodies", name := "findTargets", desc := "(II)I" } : Jvm.MethodName) ({ cls := "CutBodies", name := "findTargets", desc := "(II)I" } : Jvm.MethodName)) ∈ wAll := wAll_in (i := 2) rfl rfl
theorem m_3 : (Jvm.Cond.selects "CutBodies" ({ cls := "CutBodies", name := "turnByTargets", desc := "(LCutBodies$Contents;I)V" } : Jvm.MethodName) ({ cls := "CutBodies", name := "turnByTargets", desc := "(LCutBodies$Contents;I)V" } : Jvm.MethodName)) ∈ wAll := wAll_in (i := 3) rfl rfl
theorem m_4 : (Jvm.Cond.selects "CutBodies$Body" ({ cls := "CutBodies$Body", name := "hasPlaneWhere", desc := "(IIII)Z" } : Jvm.MethodName) ({ cls := "CutBodies$Body", name := "hasPlaneWhere", desc := "(IIII)Z" } : Jvm.MethodName)) ∈ wAll := wAll_in (i := 4) rfl rfl
theorem m_5 : (Jvm.Cond.selects "CutBodies$Body" ({ cls := "CutBodies$Body", name := "isSamePlane", desc := "(IIIII)Z" } : Jvm.MethodName) ({ cls := "CutBodies$Body", name := "isSamePlane", desc := "(IIIII)Z" } : Jvm.MethodName)) ∈ wAll := wAll_in (i := 5) rfl rfl
theorem m_6 : (Jvm.Cond.selects "CutBodies" ({ cls := "CutBodies", name := "rowsUntilBack", desc := "()I" } : Jvm.MethodName) ({ cls := "CutBodies", name := "rowsUntilBack", desc := "()I" } : Jvm.MethodName)) ∈ wAll := wAll_in (i := 6) rfl rfl
theorem m_7 : (Jvm.Cond.selects "CutBodiesModel" ({ cls := "CutBodiesModel", name := "add", desc := "(III)Z" } : Jvm.MethodName) ({ cls := "CutBodiesModel", name := "add", desc := "(III)Z" } : Jvm.MethodName)) ∈ wAll := wAll_in (i := 7) rfl rfl
theorem m_8 : (Jvm.Cond.selects "CutBodiesModel" ({ cls := "CutBodiesModel", name := "pointAt", desc := "(III)I" } : Jvm.MethodName) ({ cls := "CutBodiesModel", name := "pointAt", desc := "(III)I" } : Jvm.MethodName)) ∈ wAll := wAll_in (i := 8) rfl rfl
theorem m_9 : (Jvm.Cond.selects "CutBodiesModel" ({ cls := "CutBodiesModel", name := "own", desc := "()V" } : Jvm.MethodName) ({ cls := "CutBodiesModel", name := "own", desc := "()V" } : Jvm.MethodName)) ∈ wAll := wAll_in (i := 9) rfl rfl
theorem m_10 : (Jvm.Cond.selects "CutBodiesModel" ({ cls := "CutBodiesModel", name := "isAxis", desc := "(I)Z" } : Jvm.MethodName) ({ cls := "CutBodiesModel", name := "isAxis", desc := "(I)Z" } : Jvm.MethodName)) ∈ wAll := wAll_in (i := 10) rfl rfl
theorem m_11 : (Jvm.Cond.selects "CutBodiesModel" ({ cls := "CutBodiesModel", name := "kind", desc := "(I)I" } : Jvm.MethodName) ({ cls := "CutBodiesModel", name := "kind", desc := "(I)I" } : Jvm.MethodName)) ∈ wAll := wAll_in (i := 11) rfl rfl
theorem m_12 : (Jvm.Cond.selects "CutBodiesModel" ({ cls := "CutBodiesModel", name := "isPoint", desc := "(I)Z" } : Jvm.MethodName) ({ cls := "CutBodiesModel", name := "isPoint", desc := "(I)Z" } : Jvm.MethodName)) ∈ wAll := wAll_in (i := 12) rfl rfl
theorem m_13 : (Jvm.Cond.selects "CutBodiesModel" ({ cls := "CutBodiesModel", name := "imageOf", desc := "(II)I" } : Jvm.MethodName) ({ cls := "CutBodiesModel", name := "imageOf", desc := "(II)I" } : Jvm.MethodName)) ∈ wAll := wAll_in (i := 13) rfl rfl
theorem m_14 : (Jvm.Cond.selects "CutBodiesModel" ({ cls := "CutBodiesModel", name := "step", desc := "(IIII)V" } : Jvm.MethodName) ({ cls := "CutBodiesModel", name := "step", desc := "(IIII)V" } : Jvm.MethodName)) ∈ wAll := wAll_in (i := 14) rfl rfl
theorem m_15 : (Jvm.Cond.selects "CutBodiesModel" ({ cls := "CutBodiesModel", name := "isPlane", desc := "(I)Z" } : Jvm.MethodName) ({ cls := "CutBodiesModel", name := "isPlane", desc := "(I)Z" } : Jvm.MethodName)) ∈ wAll := wAll_in (i := 15) rfl rfl
theorem m_16 : (Jvm.Cond.selects "CutBodiesModel" ({ cls := "CutBodiesModel", name := "sideOf", desc := "(II)I" } : Jvm.MethodName) ({ cls := "CutBodiesModel", name := "sideOf", desc := "(II)I" } : Jvm.MethodName)) ∈ wAll := wAll_in (i := 16) rfl rfl
theorem m_17 : (Jvm.Cond.selects "CutBodiesModel" ({ cls := "CutBodiesModel", name := "piecesTo", desc := "(I)I" } : Jvm.MethodName) ({ cls := "CutBodiesModel", name := "piecesTo", desc := "(I)I" } : Jvm.MethodName)) ∈ wAll := wAll_in (i := 17) rfl rfl
theorem m_18 : (Jvm.Cond.selects "CutBodiesModel" ({ cls := "CutBodiesModel", name := "leastOf", desc := "(I)I" } : Jvm.MethodName) ({ cls := "CutBodiesModel", name := "leastOf", desc := "(I)I" } : Jvm.MethodName)) ∈ wAll := wAll_in (i := 18) rfl rfl
theorem m_19 : (Jvm.Cond.selects "CutBodiesModel" ({ cls := "CutBodiesModel", name := "isAlike", desc := "(II)Z" } : Jvm.MethodName) ({ cls := "CutBodiesModel", name := "isAlike", desc := "(II)Z" } : Jvm.MethodName)) ∈ wAll := wAll_in (i := 19) rfl rfl
theorem m_20 : (Jvm.Cond.selects "CutBodiesModel" ({ cls := "CutBodiesModel", name := "blocked", desc := "(II)I" } : Jvm.MethodName) ({ cls := "CutBodiesModel", name := "blocked", desc := "(II)I" } : Jvm.MethodName)) ∈ wAll := wAll_in (i := 20) rfl rfl
theorem m_21 : (Jvm.Cond.selects "CutBodiesModel" ({ cls := "CutBodiesModel", name := "plan", desc := "(III)V" } : Jvm.MethodName) ({ cls := "CutBodiesModel", name := "plan", desc := "(III)V" } : Jvm.MethodName)) ∈ wAll := wAll_in (i := 21) rfl rfl
theorem m_22 : (Jvm.Cond.selects "CutBodiesModel" ({ cls := "CutBodiesModel", name := "turnOnce", desc := "(II)V" } : Jvm.MethodName) ({ cls := "CutBodiesModel", name := "turnOnce", desc := "(II)V" } : Jvm.MethodName)) ∈ wAll := wAll_in (i := 22) rfl rfl
theorem m_23 : (Jvm.Cond.selects "CutBodiesModel" ({ cls := "CutBodiesModel", name := "wayBehind", desc := "(II)I" } : Jvm.MethodName) ({ cls := "CutBodiesModel", name := "wayBehind", desc := "(II)I" } : Jvm.MethodName)) ∈ wAll := wAll_in (i := 23) rfl rfl
theorem m_24 : (Jvm.Cond.selects "CutBodiesModel" ({ cls := "CutBodiesModel", name := "taken", desc := "(II)I" } : Jvm.MethodName) ({ cls := "CutBodiesModel", name := "taken", desc := "(II)I" } : Jvm.MethodName)) ∈ wAll := wAll_in (i := 24) rfl rfl
theorem m_25 : (Jvm.Cond.selects "CutBodiesModel" ({ cls := "CutBodiesModel", name := "isThere", desc := "(II)Z" } : Jvm.MethodName) ({ cls := "CutBodiesModel", name := "isThere", desc := "(II)Z" } : Jvm.MethodName)) ∈ wAll := wAll_in (i := 25) rfl rfl
theorem m_26 : (Jvm.Cond.selects "CutBodiesModel" ({ cls := "CutBodiesModel", name := "isNow", desc := "()Z" } : Jvm.MethodName) ({ cls := "CutBodiesModel", name := "isNow", desc := "()Z" } : Jvm.MethodName)) ∈ wAll := wAll_in (i := 26) rfl rfl
theorem m_28 : (Jvm.Cond.initialized "CutBodies") ∈ wAll := wAll_in (i := 28) rfl rfl
theorem m_29 : (Jvm.Cond.initialized "CutBodies$Body") ∈ wAll := wAll_in (i := 29) rfl rfl
theorem m_30 : (Jvm.Cond.initialized "CutBodies$Contents") ∈ wAll := wAll_in (i := 30) rfl rfl
theorem m_31 : (Jvm.Cond.initialized "CutBodiesModel") ∈ wAll := wAll_in (i := 31) rfl rfl
theorem m_32 : (Jvm.Cond.initialized "java/util/Arrays") ∈ wAll := wAll_in (i := 32) rfl rfl
theorem m_33 : (Jvm.Cond.initialized "CutBodies$Ways") ∈ wAll := wAll_in (i := 33) rfl rfl
theorem m_34 : (Jvm.Cond.initialized "java/lang/System") ∈ wAll := wAll_in (i := 34) rfl rfl
theorem m_49 : (Jvm.Cond.fieldLink "CutBodies$Body" (9 : Nat) "CutBodies$Body" "x" "[I") ∈ wAll := wAll_in (i := 49) rfl rfl
theorem m_50 : (Jvm.Cond.fieldLink "CutBodies$Body" (15 : Nat) "CutBodies$Body" "y" "[I") ∈ wAll := wAll_in (i := 50) rfl rfl
theorem m_51 : (Jvm.Cond.fieldLink "CutBodies$Body" (18 : Nat) "CutBodies$Body" "z" "[I") ∈ wAll := wAll_in (i := 51) rfl rfl
theorem m_52 : (Jvm.Cond.fieldLink "CutBodies$Body" (21 : Nat) "CutBodies$Body" "pointCount" "I") ∈ wAll := wAll_in (i := 52) rfl rfl
theorem m_54 : (Jvm.Cond.fieldLink "CutBodies$Body" (25 : Nat) "CutBodies$Body" "a" "[I") ∈ wAll := wAll_in (i := 54) rfl rfl
theorem m_55 : (Jvm.Cond.fieldLink "CutBodies$Body" (28 : Nat) "CutBodies$Body" "b" "[I") ∈ wAll := wAll_in (i := 55) rfl rfl
theorem m_56 : (Jvm.Cond.fieldLink "CutBodies$Body" (31 : Nat) "CutBodies$Body" "c" "[I") ∈ wAll := wAll_in (i := 56) rfl rfl
theorem m_57 : (Jvm.Cond.fieldLink "CutBodies$Body" (34 : Nat) "CutBodies$Body" "d" "[I") ∈ wAll := wAll_in (i := 57) rfl rfl
theorem m_58 : (Jvm.Cond.fieldLink "CutBodies$Body" (37 : Nat) "CutBodies$Body" "planeCount" "I") ∈ wAll := wAll_in (i := 58) rfl rfl
theorem m_60 : (Jvm.Cond.fieldLink "CutBodies$Body" (40 : Nat) "CutBodies$Body" "sides" "[J") ∈ wAll := wAll_in (i := 60) rfl rfl
theorem m_61 : (Jvm.Cond.laysFinal "CutBodies$Body" "CutBodies$Body" "x" "[I") ∈ wAll := wAll_in (i := 61) rfl rfl
theorem m_63 : (Jvm.Cond.laysFinal "CutBodies$Body" "CutBodies$Body" "y" "[I") ∈ wAll := wAll_in (i := 63) rfl rfl
theorem m_65 : (Jvm.Cond.laysFinal "CutBodies$Body" "CutBodies$Body" "z" "[I") ∈ wAll := wAll_in (i := 65) rfl rfl
theorem m_67 : (Jvm.Cond.lays "CutBodies$Body" "CutBodies$Body" "pointCount" "I") ∈ wAll := wAll_in (i := 67) rfl rfl
theorem m_69 : (Jvm.Cond.laysFinal "CutBodies$Body" "CutBodies$Body" "a" "[I") ∈ wAll := wAll_in (i := 69) rfl rfl
theorem m_71 : (Jvm.Cond.laysFinal "CutBodies$Body" "CutBodies$Body" "b" "[I") ∈ wAll := wAll_in (i := 71) rfl rfl
theorem m_73 : (Jvm.Cond.laysFinal "CutBodies$Body" "CutBodies$Body" "c" "[I") ∈ wAll := wAll_in (i := 73) rfl rfl
theorem m_75 : (Jvm.Cond.laysFinal "CutBodies$Body" "CutBodies$Body" "d" "[I") ∈ wAll := wAll_in (i := 75) rfl rfl
theorem m_77 : (Jvm.Cond.lays "CutBodies$Body" "CutBodies$Body" "planeCount" "I") ∈ wAll := wAll_in (i := 77) rfl rfl
theorem m_79 : (Jvm.Cond.laysFinal "CutBodies$Body" "CutBodies$Body" "sides" "[J") ∈ wAll := wAll_in (i := 79) rfl rfl
theorem m_90 : (Jvm.Cond.fieldLink "CutBodies$Contents" (9 : Nat) "CutBodies$Contents" "origin" "[I") ∈ wAll := wAll_in (i := 90) rfl rfl
theorem m_92 : (Jvm.Cond.fieldLink "CutBodies$Contents" (15 : Nat) "CutBodies$Contents" "turned" "[I") ∈ wAll := wAll_in (i := 92) rfl rfl
theorem m_94 : (Jvm.Cond.laysFinal "CutBodies$Contents" "CutBodies$Contents" "origin" "[I") ∈ wAll := wAll_in (i := 94) rfl rfl
theorem m_96 : (Jvm.Cond.laysFinal "CutBodies$Contents" "CutBodies$Contents" "turned" "[I") ∈ wAll := wAll_in (i := 96) rfl rfl
theorem m_100 : (Jvm.Cond.fieldLink "CutBodies" (10 : Nat) "CutBodies" "body" "LCutBodies$Body;") ∈ wAll := wAll_in (i := 100) rfl rfl
theorem m_101 : (Jvm.Cond.fieldLink "CutBodies" (16 : Nat) "CutBodies" "steps" "[I") ∈ wAll := wAll_in (i := 101) rfl rfl
theorem m_102 : (Jvm.Cond.fieldLink "CutBodies" (20 : Nat) "CutBodies" "axisCount" "I") ∈ wAll := wAll_in (i := 102) rfl rfl
theorem m_103 : (Jvm.Cond.fieldLink "CutBodies" (27 : Nat) "CutBodies" "now" "LCutBodies$Contents;") ∈ wAll := wAll_in (i := 103) rfl rfl
theorem m_104 : (Jvm.Cond.fieldLink "CutBodies" (31 : Nat) "CutBodies" "row" "LCutBodies$Contents;") ∈ wAll := wAll_in (i := 104) rfl rfl
theorem m_105 : (Jvm.Cond.fieldLink "CutBodies" (34 : Nat) "CutBodies" "spare" "LCutBodies$Contents;") ∈ wAll := wAll_in (i := 105) rfl rfl
theorem m_106 : (Jvm.Cond.fieldLink "CutBodies" (37 : Nat) "CutBodies" "targets" "[I") ∈ wAll := wAll_in (i := 106) rfl rfl
theorem m_110 : (Jvm.Cond.laysFinal "CutBodies" "CutBodies" "body" "LCutBodies$Body;") ∈ wAll := wAll_in (i := 110) rfl rfl
theorem m_112 : (Jvm.Cond.laysFinal "CutBodies" "CutBodies" "steps" "[I") ∈ wAll := wAll_in (i := 112) rfl rfl
theorem m_114 : (Jvm.Cond.lays "CutBodies" "CutBodies" "axisCount" "I") ∈ wAll := wAll_in (i := 114) rfl rfl
theorem m_116 : (Jvm.Cond.laysFinal "CutBodies" "CutBodies" "now" "LCutBodies$Contents;") ∈ wAll := wAll_in (i := 116) rfl rfl
theorem m_118 : (Jvm.Cond.laysFinal "CutBodies" "CutBodies" "row" "LCutBodies$Contents;") ∈ wAll := wAll_in (i := 118) rfl rfl
theorem m_120 : (Jvm.Cond.laysFinal "CutBodies" "CutBodies" "spare" "LCutBodies$Contents;") ∈ wAll := wAll_in (i := 120) rfl rfl
theorem m_122 : (Jvm.Cond.laysFinal "CutBodies" "CutBodies" "targets" "[I") ∈ wAll := wAll_in (i := 122) rfl rfl
theorem m_124 : (Jvm.Cond.laysFinal "CutBodies" "CutBodies" "kept" "[LCutBodies$Contents;") ∈ wAll := wAll_in (i := 124) rfl rfl
theorem m_126 : (Jvm.Cond.laysFinal "CutBodies" "CutBodies" "keptPoints" "[I") ∈ wAll := wAll_in (i := 126) rfl rfl
theorem m_128 : (Jvm.Cond.lays "CutBodies" "CutBodies" "keptCount" "I") ∈ wAll := wAll_in (i := 128) rfl rfl
theorem m_135 : (Jvm.Cond.methodLink "CutBodies" (50 : Nat) ({ cls := "CutBodies$Body", name := "addPoint", desc := "(III)I" } : Jvm.MethodName)) ∈ wAll := wAll_in (i := 135) rfl rfl
theorem m_136 : (Jvm.Cond.instanceMethod ({ cls := "CutBodies$Body", name := "addPoint", desc := "(III)I" } : Jvm.MethodName)) ∈ wAll := wAll_in (i := 136) rfl rfl
theorem m_137 : (Jvm.Cond.selects "CutBodies$Body" ({ cls := "CutBodies$Body", name := "addPoint", desc := "(III)I" } : Jvm.MethodName) ({ cls := "CutBodies$Body", name := "addPoint", desc := "(III)I" } : Jvm.MethodName)) ∈ wAll := wAll_in (i := 137) rfl rfl
theorem m_138 : (Jvm.Cond.code ({ cls := "CutBodies$Body", name := "addPoint", desc := "(III)I" } : Jvm.MethodName) prog_2_method_4_code (6 : Nat) (Option.some Jvm.ClassFile.FieldType.int)) ∈ wAll := wAll_in (i := 138) rfl rfl
theorem m_140 : (Jvm.Cond.static ({ cls := "CutBodies", name := "isWithin", desc := "(II)Z" } : Jvm.MethodName)) ∈ wAll := wAll_in (i := 140) rfl rfl
theorem m_141 : (Jvm.Cond.code ({ cls := "CutBodies", name := "isWithin", desc := "(II)Z" } : Jvm.MethodName) prog_1_method_21_code (2 : Nat) (Option.some Jvm.ClassFile.FieldType.boolean)) ∈ wAll := wAll_in (i := 141) rfl rfl
theorem m_142 : (Jvm.Cond.methodLink "CutBodies$Body" (48 : Nat) ({ cls := "CutBodies$Body", name := "pointAt", desc := "(III)I" } : Jvm.MethodName)) ∈ wAll := wAll_in (i := 142) rfl rfl
theorem m_143 : (Jvm.Cond.instanceMethod ({ cls := "CutBodies$Body", name := "pointAt", desc := "(III)I" } : Jvm.MethodName)) ∈ wAll := wAll_in (i := 143) rfl rfl
theorem m_144 : (Jvm.Cond.selects "CutBodies$Body" ({ cls := "CutBodies$Body", name := "pointAt", desc := "(III)I" } : Jvm.MethodName) ({ cls := "CutBodies$Body", name := "pointAt", desc := "(III)I" } : Jvm.MethodName)) ∈ wAll := wAll_in (i := 144) rfl rfl
theorem m_145 : (Jvm.Cond.code ({ cls := "CutBodies$Body", name := "pointAt", desc := "(III)I" } : Jvm.MethodName) prog_2_method_8_code (5 : Nat) (Option.some Jvm.ClassFile.FieldType.int)) ∈ wAll := wAll_in (i := 145) rfl rfl
theorem m_146 : (Jvm.Cond.methodLink "CutBodies$Body" (52 : Nat) ({ cls := "CutBodies$Body", name := "noteSide", desc := "(II)V" } : Jvm.MethodName)) ∈ wAll := wAll_in (i := 146) rfl rfl
theorem m_148 : (Jvm.Cond.instanceMethod ({ cls := "CutBodies$Body", name := "noteSide", desc := "(II)V" } : Jvm.MethodName)) ∈ wAll := wAll_in (i := 148) rfl rfl
theorem m_149 : (Jvm.Cond.code ({ cls := "CutBodies$Body", name := "noteSide", desc := "(II)V" } : Jvm.MethodName) prog_2_method_6_code (6 : Nat) (Option.none : Option Jvm.ClassFile.FieldType)) ∈ wAll := wAll_in (i := 149) rfl rfl
theorem m_150 : (Jvm.Cond.constantLong "CutBodies$Body" (56 : Nat) (2 : Int64)) ∈ wAll := wAll_in (i := 150) rfl rfl
theorem m_151 : (Jvm.Cond.methodLink "CutBodies" (54 : Nat) ({ cls := "CutBodies$Contents", name := "putAllHome", desc := "()V" } : Jvm.MethodName)) ∈ wAll := wAll_in (i := 151) rfl rfl
theorem m_152 : (Jvm.Cond.instanceMethod ({ cls := "CutBodies$Contents", name := "putAllHome", desc := "()V" } : Jvm.MethodName)) ∈ wAll := wAll_in (i := 152) rfl rfl
theorem m_153 : (Jvm.Cond.selects "CutBodies$Contents" ({ cls := "CutBodies$Contents", name := "putAllHome", desc := "()V" } : Jvm.MethodName) ({ cls := "CutBodies$Contents", name := "putAllHome", desc := "()V" } : Jvm.MethodName)) ∈ wAll := wAll_in (i := 153) rfl rfl
theorem m_154 : (Jvm.Cond.code ({ cls := "CutBodies$Contents", name := "putAllHome", desc := "()V" } : Jvm.MethodName) prog_3_method_2_code (2 : Nat) (Option.none : Option Jvm.ClassFile.FieldType)) ∈ wAll := wAll_in (i := 154) rfl rfl
theorem m_155 : (Jvm.Cond.methodLink "CutBodies$Contents" (18 : Nat) ({ cls := "java/util/Arrays", name := "fill", desc := "([II)V" } : Jvm.MethodName)) ∈ wAll := wAll_in (i := 155) rfl rfl
theorem m_156 : (Jvm.Cond.static ({ cls := "java/util/Arrays", name := "fill", desc := "([II)V" } : Jvm.MethodName)) ∈ wAll := wAll_in (i := 156) rfl rfl
theorem m_157 : (Jvm.Cond.code ({ cls := "java/util/Arrays", name := "fill", desc := "([II)V" } : Jvm.MethodName) prog_8_method_103_code (4 : Nat) (Option.none : Option Jvm.ClassFile.FieldType)) ∈ wAll := wAll_in (i := 157) rfl rfl
theorem m_166 : (Jvm.Cond.methodLink "CutBodies" (57 : Nat) ({ cls := "CutBodies$Body", name := "addPlane", desc := "(IIII)I" } : Jvm.MethodName)) ∈ wAll := wAll_in (i := 166) rfl rfl
theorem m_167 : (Jvm.Cond.instanceMethod ({ cls := "CutBodies$Body", name := "addPlane", desc := "(IIII)I" } : Jvm.MethodName)) ∈ wAll := wAll_in (i := 167) rfl rfl
theorem m_168 : (Jvm.Cond.selects "CutBodies$Body" ({ cls := "CutBodies$Body", name := "addPlane", desc := "(IIII)I" } : Jvm.MethodName) ({ cls := "CutBodies$Body", name := "addPlane", desc := "(IIII)I" } : Jvm.MethodName)) ∈ wAll := wAll_in (i := 168) rfl rfl
theorem m_169 : (Jvm.Cond.code ({ cls := "CutBodies$Body", name := "addPlane", desc := "(IIII)I" } : Jvm.MethodName) prog_2_method_5_code (7 : Nat) (Option.some Jvm.ClassFile.FieldType.int)) ∈ wAll := wAll_in (i := 169) rfl rfl
theorem m_174 : (Jvm.Cond.methodLink "CutBodies" (61 : Nat) ({ cls := "CutBodies", name := "isWithin", desc := "(II)Z" } : Jvm.MethodName)) ∈ wAll := wAll_in (i := 174) rfl rfl
theorem m_175 : (Jvm.Cond.methodLink "CutBodies" (65 : Nat) ({ cls := "CutBodies$Ways", name := "stepAbout", desc := "(III)I" } : Jvm.MethodName)) ∈ wAll := wAll_in (i := 175) rfl rfl
theorem m_176 : (Jvm.Cond.static ({ cls := "CutBodies$Ways", name := "stepAbout", desc := "(III)I" } : Jvm.MethodName)) ∈ wAll := wAll_in (i := 176) rfl rfl
theorem m_177 : (Jvm.Cond.code ({ cls := "CutBodies$Ways", name := "stepAbout", desc := "(III)I" } : Jvm.MethodName) prog_4_method_11_code (9 : Nat) (Option.some Jvm.ClassFile.FieldType.int)) ∈ wAll := wAll_in (i := 177) rfl rfl
theorem m_178 : (Jvm.Cond.methodLink "CutBodies$Ways" (33 : Nat) ({ cls := "CutBodies$Ways", name := "directionOf", desc := "(III)I" } : Jvm.MethodName)) ∈ wAll := wAll_in (i := 178) rfl rfl
theorem m_179 : (Jvm.Cond.static ({ cls := "CutBodies$Ways", name := "directionOf", desc := "(III)I" } : Jvm.MethodName)) ∈ wAll := wAll_in (i := 179) rfl rfl
theorem m_180 : (Jvm.Cond.code ({ cls := "CutBodies$Ways", name := "directionOf", desc := "(III)I" } : Jvm.MethodName) prog_4_method_12_code (3 : Nat) (Option.some Jvm.ClassFile.FieldType.int)) ∈ wAll := wAll_in (i := 180) rfl rfl
theorem m_181 : (Jvm.Cond.methodLink "CutBodies$Ways" (23 : Nat) ({ cls := "CutBodies$Ways", name := "numberOf", desc := "(II)I" } : Jvm.MethodName)) ∈ wAll := wAll_in (i := 181) rfl rfl
theorem m_182 : (Jvm.Cond.static ({ cls := "CutBodies$Ways", name := "numberOf", desc := "(II)I" } : Jvm.MethodName)) ∈ wAll := wAll_in (i := 182) rfl rfl
theorem m_183 : (Jvm.Cond.code ({ cls := "CutBodies$Ways", name := "numberOf", desc := "(II)I" } : Jvm.MethodName) prog_4_method_5_code (2 : Nat) (Option.some Jvm.ClassFile.FieldType.int)) ∈ wAll := wAll_in (i := 183) rfl rfl
theorem m_188 : (Jvm.Cond.methodLink "CutBodies" (70 : Nat) ({ cls := "CutBodies", name := "hasAxis", desc := "(I)Z" } : Jvm.MethodName)) ∈ wAll := wAll_in (i := 188) rfl rfl
theorem m_190 : (Jvm.Cond.instanceMethod ({ cls := "CutBodies", name := "hasAxis", desc := "(I)Z" } : Jvm.MethodName)) ∈ wAll := wAll_in (i := 190) rfl rfl
theorem m_191 : (Jvm.Cond.code ({ cls := "CutBodies", name := "hasAxis", desc := "(I)Z" } : Jvm.MethodName) prog_1_method_20_code (2 : Nat) (Option.some Jvm.ClassFile.FieldType.boolean)) ∈ wAll := wAll_in (i := 191) rfl rfl
theorem m_192 : (Jvm.Cond.methodLink "CutBodies" (74 : Nat) ({ cls := "CutBodies$Ways", name := "orderOf", desc := "(I)I" } : Jvm.MethodName)) ∈ wAll := wAll_in (i := 192) rfl rfl
theorem m_193 : (Jvm.Cond.static ({ cls := "CutBodies$Ways", name := "orderOf", desc := "(I)I" } : Jvm.MethodName)) ∈ wAll := wAll_in (i := 193) rfl rfl
theorem m_194 : (Jvm.Cond.code ({ cls := "CutBodies$Ways", name := "orderOf", desc := "(I)I" } : Jvm.MethodName) prog_4_method_8_code (3 : Nat) (Option.some Jvm.ClassFile.FieldType.int)) ∈ wAll := wAll_in (i := 194) rfl rfl
theorem m_195 : (Jvm.Cond.methodLink "CutBodies$Ways" (26 : Nat) ({ cls := "CutBodies$Ways", name := "compose", desc := "(II)I" } : Jvm.MethodName)) ∈ wAll := wAll_in (i := 195) rfl rfl
theorem m_196 : (Jvm.Cond.static ({ cls := "CutBodies$Ways", name := "compose", desc := "(II)I" } : Jvm.MethodName)) ∈ wAll := wAll_in (i := 196) rfl rfl
theorem m_197 : (Jvm.Cond.code ({ cls := "CutBodies$Ways", name := "compose", desc := "(II)I" } : Jvm.MethodName) prog_4_method_7_code (2 : Nat) (Option.some Jvm.ClassFile.FieldType.int)) ∈ wAll := wAll_in (i := 197) rfl rfl
theorem m_198 : (Jvm.Cond.methodLink "CutBodies$Ways" (7 : Nat) ({ cls := "CutBodies$Ways", name := "xGoesTo", desc := "(I)I" } : Jvm.MethodName)) ∈ wAll := wAll_in (i := 198) rfl rfl
theorem m_199 : (Jvm.Cond.static ({ cls := "CutBodies$Ways", name := "xGoesTo", desc := "(I)I" } : Jvm.MethodName)) ∈ wAll := wAll_in (i := 199) rfl rfl
theorem m_200 : (Jvm.Cond.code ({ cls := "CutBodies$Ways", name := "xGoesTo", desc := "(I)I" } : Jvm.MethodName) prog_4_method_2_code (1 : Nat) (Option.some Jvm.ClassFile.FieldType.int)) ∈ wAll := wAll_in (i := 200) rfl rfl
theorem m_201 : (Jvm.Cond.methodLink "CutBodies$Ways" (19 : Nat) ({ cls := "CutBodies$Ways", name := "directionTo", desc := "(II)I" } : Jvm.MethodName)) ∈ wAll := wAll_in (i := 201) rfl rfl
theorem m_202 : (Jvm.Cond.static ({ cls := "CutBodies$Ways", name := "directionTo", desc := "(II)I" } : Jvm.MethodName)) ∈ wAll := wAll_in (i := 202) rfl rfl
theorem m_203 : (Jvm.Cond.code ({ cls := "CutBodies$Ways", name := "directionTo", desc := "(II)I" } : Jvm.MethodName) prog_4_method_6_code (4 : Nat) (Option.some Jvm.ClassFile.FieldType.int)) ∈ wAll := wAll_in (i := 203) rfl rfl
theorem m_204 : (Jvm.Cond.methodLink "CutBodies$Ways" (13 : Nat) ({ cls := "CutBodies$Ways", name := "yGoesTo", desc := "(I)I" } : Jvm.MethodName)) ∈ wAll := wAll_in (i := 204) rfl rfl
theorem m_205 : (Jvm.Cond.static ({ cls := "CutBodies$Ways", name := "yGoesTo", desc := "(I)I" } : Jvm.MethodName)) ∈ wAll := wAll_in (i := 205) rfl rfl
theorem m_206 : (Jvm.Cond.code ({ cls := "CutBodies$Ways", name := "yGoesTo", desc := "(I)I" } : Jvm.MethodName) prog_4_method_3_code (3 : Nat) (Option.some Jvm.ClassFile.FieldType.int)) ∈ wAll := wAll_in (i := 206) rfl rfl
theorem m_207 : (Jvm.Cond.methodLink "CutBodies$Ways" (16 : Nat) ({ cls := "CutBodies$Ways", name := "zGoesTo", desc := "(I)I" } : Jvm.MethodName)) ∈ wAll := wAll_in (i := 207) rfl rfl
theorem m_208 : (Jvm.Cond.static ({ cls := "CutBodies$Ways", name := "zGoesTo", desc := "(I)I" } : Jvm.MethodName)) ∈ wAll := wAll_in (i := 208) rfl rfl
theorem m_209 : (Jvm.Cond.code ({ cls := "CutBodies$Ways", name := "zGoesTo", desc := "(I)I" } : Jvm.MethodName) prog_4_method_4_code (5 : Nat) (Option.some Jvm.ClassFile.FieldType.int)) ∈ wAll := wAll_in (i := 209) rfl rfl
theorem m_214 : (Jvm.Cond.methodLink "CutBodies" (78 : Nat) ({ cls := "CutBodies$Body", name := "hasPoint", desc := "(I)Z" } : Jvm.MethodName)) ∈ wAll := wAll_in (i := 214) rfl rfl
theorem m_215 : (Jvm.Cond.instanceMethod ({ cls := "CutBodies$Body", name := "hasPoint", desc := "(I)Z" } : Jvm.MethodName)) ∈ wAll := wAll_in (i := 215) rfl rfl
theorem m_216 : (Jvm.Cond.selects "CutBodies$Body" ({ cls := "CutBodies$Body", name := "hasPoint", desc := "(I)Z" } : Jvm.MethodName) ({ cls := "CutBodies$Body", name := "hasPoint", desc := "(I)Z" } : Jvm.MethodName)) ∈ wAll := wAll_in (i := 216) rfl rfl
theorem m_217 : (Jvm.Cond.code ({ cls := "CutBodies$Body", name := "hasPoint", desc := "(I)Z" } : Jvm.MethodName) prog_2_method_2_code (2 : Nat) (Option.some Jvm.ClassFile.FieldType.boolean)) ∈ wAll := wAll_in (i := 217) rfl rfl
theorem m_218 : (Jvm.Cond.methodLink "CutBodies" (81 : Nat) ({ cls := "CutBodies$Body", name := "hasPlane", desc := "(I)Z" } : Jvm.MethodName)) ∈ wAll := wAll_in (i := 218) rfl rfl
theorem m_219 : (Jvm.Cond.instanceMethod ({ cls := "CutBodies$Body", name := "hasPlane", desc := "(I)Z" } : Jvm.MethodName)) ∈ wAll := wAll_in (i := 219) rfl rfl
theorem m_220 : (Jvm.Cond.selects "CutBodies$Body" ({ cls := "CutBodies$Body", name := "hasPlane", desc := "(I)Z" } : Jvm.MethodName) ({ cls := "CutBodies$Body", name := "hasPlane", desc := "(I)Z" } : Jvm.MethodName)) ∈ wAll := wAll_in (i := 220) rfl rfl
theorem m_221 : (Jvm.Cond.code ({ cls := "CutBodies$Body", name := "hasPlane", desc := "(I)Z" } : Jvm.MethodName) prog_2_method_3_code (2 : Nat) (Option.some Jvm.ClassFile.FieldType.boolean)) ∈ wAll := wAll_in (i := 221) rfl rfl
theorem m_222 : (Jvm.Cond.methodLink "CutBodies" (84 : Nat) ({ cls := "CutBodies$Body", name := "sideOf", desc := "(II)I" } : Jvm.MethodName)) ∈ wAll := wAll_in (i := 222) rfl rfl
theorem m_223 : (Jvm.Cond.instanceMethod ({ cls := "CutBodies$Body", name := "sideOf", desc := "(II)I" } : Jvm.MethodName)) ∈ wAll := wAll_in (i := 223) rfl rfl
theorem m_224 : (Jvm.Cond.selects "CutBodies$Body" ({ cls := "CutBodies$Body", name := "sideOf", desc := "(II)I" } : Jvm.MethodName) ({ cls := "CutBodies$Body", name := "sideOf", desc := "(II)I" } : Jvm.MethodName)) ∈ wAll := wAll_in (i := 224) rfl rfl
theorem m_225 : (Jvm.Cond.code ({ cls := "CutBodies$Body", name := "sideOf", desc := "(II)I" } : Jvm.MethodName) prog_2_method_7_code (3 : Nat) (Option.some Jvm.ClassFile.FieldType.int)) ∈ wAll := wAll_in (i := 225) rfl rfl
theorem m_226 : (Jvm.Cond.constantLong "CutBodies$Body" (58 : Nat) (3 : Int64)) ∈ wAll := wAll_in (i := 226) rfl rfl
theorem m_231 : (Jvm.Cond.methodLink "CutBodies" (91 : Nat) ({ cls := "CutBodies$Body", name := "piecesBefore", desc := "(I)I" } : Jvm.MethodName)) ∈ wAll := wAll_in (i := 231) rfl rfl
theorem m_232 : (Jvm.Cond.instanceMethod ({ cls := "CutBodies$Body", name := "piecesBefore", desc := "(I)I" } : Jvm.MethodName)) ∈ wAll := wAll_in (i := 232) rfl rfl
theorem m_233 : (Jvm.Cond.selects "CutBodies$Body" ({ cls := "CutBodies$Body", name := "piecesBefore", desc := "(I)I" } : Jvm.MethodName) ({ cls := "CutBodies$Body", name := "piecesBefore", desc := "(I)I" } : Jvm.MethodName)) ∈ wAll := wAll_in (i := 233) rfl rfl
theorem m_234 : (Jvm.Cond.code ({ cls := "CutBodies$Body", name := "piecesBefore", desc := "(I)I" } : Jvm.MethodName) prog_2_method_11_code (4 : Nat) (Option.some Jvm.ClassFile.FieldType.int)) ∈ wAll := wAll_in (i := 234) rfl rfl
theorem m_235 : (Jvm.Cond.methodLink "CutBodies$Body" (66 : Nat) ({ cls := "CutBodies$Body", name := "leastAlike", desc := "(I)I" } : Jvm.MethodName)) ∈ wAll := wAll_in (i := 235) rfl rfl
theorem m_236 : (Jvm.Cond.instanceMethod ({ cls := "CutBodies$Body", name := "leastAlike", desc := "(I)I" } : Jvm.MethodName)) ∈ wAll := wAll_in (i := 236) rfl rfl
theorem m_237 : (Jvm.Cond.selects "CutBodies$Body" ({ cls := "CutBodies$Body", name := "leastAlike", desc := "(I)I" } : Jvm.MethodName) ({ cls := "CutBodies$Body", name := "leastAlike", desc := "(I)I" } : Jvm.MethodName)) ∈ wAll := wAll_in (i := 237) rfl rfl
theorem m_238 : (Jvm.Cond.code ({ cls := "CutBodies$Body", name := "leastAlike", desc := "(I)I" } : Jvm.MethodName) prog_2_method_10_code (3 : Nat) (Option.some Jvm.ClassFile.FieldType.int)) ∈ wAll := wAll_in (i := 238) rfl rfl
theorem m_243 : (Jvm.Cond.methodLink "CutBodies" (94 : Nat) ({ cls := "CutBodies$Body", name := "leastAlike", desc := "(I)I" } : Jvm.MethodName)) ∈ wAll := wAll_in (i := 243) rfl rfl
theorem m_248 : (Jvm.Cond.methodLink "CutBodies" (97 : Nat) ({ cls := "CutBodies$Body", name := "imageOf", desc := "(II)I" } : Jvm.MethodName)) ∈ wAll := wAll_in (i := 248) rfl rfl
theorem m_249 : (Jvm.Cond.instanceMethod ({ cls := "CutBodies$Body", name := "imageOf", desc := "(II)I" } : Jvm.MethodName)) ∈ wAll := wAll_in (i := 249) rfl rfl
theorem m_250 : (Jvm.Cond.selects "CutBodies$Body" ({ cls := "CutBodies$Body", name := "imageOf", desc := "(II)I" } : Jvm.MethodName) ({ cls := "CutBodies$Body", name := "imageOf", desc := "(II)I" } : Jvm.MethodName)) ∈ wAll := wAll_in (i := 250) rfl rfl
set_option maxRecDepth 20000 in
theorem m_251 : (Jvm.Cond.code ({ cls := "CutBodies$Body", name := "imageOf", desc := "(II)I" } : Jvm.MethodName) prog_2_method_9_code (6 : Nat) (Option.some Jvm.ClassFile.FieldType.int)) ∈ wAll := wAll_in (i := 251) rfl rfl
set_option maxRecDepth 20000 in
theorem m_252 : (Jvm.Cond.methodLink "CutBodies$Body" (60 : Nat) ({ cls := "CutBodies$Ways", name := "coordinate", desc := "(IIIII)I" } : Jvm.MethodName)) ∈ wAll := wAll_in (i := 252) rfl rfl
set_option maxRecDepth 20000 in
theorem m_253 : (Jvm.Cond.static ({ cls := "CutBodies$Ways", name := "coordinate", desc := "(IIIII)I" } : Jvm.MethodName)) ∈ wAll := wAll_in (i := 253) rfl rfl
set_option maxRecDepth 20000 in
theorem m_254 : (Jvm.Cond.code ({ cls := "CutBodies$Ways", name := "coordinate", desc := "(IIIII)I" } : Jvm.MethodName) prog_4_method_9_code (5 : Nat) (Option.some Jvm.ClassFile.FieldType.int)) ∈ wAll := wAll_in (i := 254) rfl rfl
set_option maxRecDepth 20000 in
theorem m_255 : (Jvm.Cond.methodLink "CutBodies$Ways" (29 : Nat) ({ cls := "CutBodies$Ways", name := "part", desc := "(III)I" } : Jvm.MethodName)) ∈ wAll := wAll_in (i := 255) rfl rfl
set_option maxRecDepth 20000 in
theorem m_256 : (Jvm.Cond.static ({ cls := "CutBodies$Ways", name := "part", desc := "(III)I" } : Jvm.MethodName)) ∈ wAll := wAll_in (i := 256) rfl rfl
set_option maxRecDepth 20000 in
theorem m_257 : (Jvm.Cond.code ({ cls := "CutBodies$Ways", name := "part", desc := "(III)I" } : Jvm.MethodName) prog_4_method_10_code (3 : Nat) (Option.some Jvm.ClassFile.FieldType.int)) ∈ wAll := wAll_in (i := 257) rfl rfl
set_option maxRecDepth 20000 in
theorem m_262 : (Jvm.Cond.methodLink "CutBodies" (100 : Nat) ({ cls := "CutBodies", name := "findTargets", desc := "(II)I" } : Jvm.MethodName)) ∈ wAll := wAll_in (i := 262) rfl rfl
set_option maxRecDepth 20000 in
theorem m_264 : (Jvm.Cond.instanceMethod ({ cls := "CutBodies", name := "findTargets", desc := "(II)I" } : Jvm.MethodName)) ∈ wAll := wAll_in (i := 264) rfl rfl
set_option maxRecDepth 20000 in
theorem m_265 : (Jvm.Cond.code ({ cls := "CutBodies", name := "findTargets", desc := "(II)I" } : Jvm.MethodName) prog_1_method_22_code (5 : Nat) (Option.some Jvm.ClassFile.FieldType.int)) ∈ wAll := wAll_in (i := 265) rfl rfl
set_option maxRecDepth 20000 in
theorem m_266 : (Jvm.Cond.methodLink "CutBodies" (103 : Nat) ({ cls := "CutBodies", name := "turnByTargets", desc := "(LCutBodies$Contents;I)V" } : Jvm.MethodName)) ∈ wAll := wAll_in (i := 266) rfl rfl
set_option maxRecDepth 20000 in
theorem m_268 : (Jvm.Cond.instanceMethod ({ cls := "CutBodies", name := "turnByTargets", desc := "(LCutBodies$Contents;I)V" } : Jvm.MethodName)) ∈ wAll := wAll_in (i := 268) rfl rfl
set_option maxRecDepth 20000 in
theorem m_269 : (Jvm.Cond.code ({ cls := "CutBodies", name := "turnByTargets", desc := "(LCutBodies$Contents;I)V" } : Jvm.MethodName) prog_1_method_23_code (5 : Nat) (Option.none : Option Jvm.ClassFile.FieldType)) ∈ wAll := wAll_in (i := 269) rfl rfl
set_option maxRecDepth 20000 in
theorem m_270 : (Jvm.Cond.methodLink "CutBodies" (126 : Nat) ({ cls := "CutBodies$Contents", name := "copyFrom", desc := "(LCutBodies$Contents;)V" } : Jvm.MethodName)) ∈ wAll := wAll_in (i := 270) rfl rfl
set_option maxRecDepth 20000 in
theorem m_271 : (Jvm.Cond.instanceMethod ({ cls := "CutBodies$Contents", name := "copyFrom", desc := "(LCutBodies$Contents;)V" } : Jvm.MethodName)) ∈ wAll := wAll_in (i := 271) rfl rfl
set_option maxRecDepth 20000 in
theorem m_272 : (Jvm.Cond.selects "CutBodies$Contents" ({ cls := "CutBodies$Contents", name := "copyFrom", desc := "(LCutBodies$Contents;)V" } : Jvm.MethodName) ({ cls := "CutBodies$Contents", name := "copyFrom", desc := "(LCutBodies$Contents;)V" } : Jvm.MethodName)) ∈ wAll := wAll_in (i := 272) rfl rfl
set_option maxRecDepth 20000 in
theorem m_273 : (Jvm.Cond.code ({ cls := "CutBodies$Contents", name := "copyFrom", desc := "(LCutBodies$Contents;)V" } : Jvm.MethodName) prog_3_method_3_code (2 : Nat) (Option.none : Option Jvm.ClassFile.FieldType)) ∈ wAll := wAll_in (i := 273) rfl rfl
set_option maxRecDepth 20000 in
theorem m_274 : (Jvm.Cond.methodLink "CutBodies$Contents" (24 : Nat) ({ cls := "java/lang/System", name := "arraycopy", desc := "(Ljava/lang/Object;ILjava/lang/Object;II)V" } : Jvm.MethodName)) ∈ wAll := wAll_in (i := 274) rfl rfl
set_option maxRecDepth 20000 in
theorem m_275 : (Jvm.Cond.static ({ cls := "java/lang/System", name := "arraycopy", desc := "(Ljava/lang/Object;ILjava/lang/Object;II)V" } : Jvm.MethodName)) ∈ wAll := wAll_in (i := 275) rfl rfl
set_option maxRecDepth 20000 in
theorem m_276 : (Jvm.Cond.native ({ cls := "java/lang/System", name := "arraycopy", desc := "(Ljava/lang/Object;ILjava/lang/Object;II)V" } : Jvm.MethodName)) ∈ wAll := wAll_in (i := 276) rfl rfl
set_option maxRecDepth 20000 in
theorem m_277 : (Jvm.Cond.methodLink "CutBodies" (130 : Nat) ({ cls := "CutBodies$Ways", name := "compose", desc := "(II)I" } : Jvm.MethodName)) ∈ wAll := wAll_in (i := 277) rfl rfl
set_option maxRecDepth 20000 in
theorem m_294 : (Jvm.Cond.methodLink "CutBodies" (113 : Nat) ({ cls := "CutBodies$Body", name := "takesPointsToPoints", desc := "(I)Z" } : Jvm.MethodName)) ∈ wAll := wAll_in (i := 294) rfl rfl
set_option maxRecDepth 20000 in
theorem m_295 : (Jvm.Cond.instanceMethod ({ cls := "CutBodies$Body", name := "takesPointsToPoints", desc := "(I)Z" } : Jvm.MethodName)) ∈ wAll := wAll_in (i := 295) rfl rfl
set_option maxRecDepth 20000 in
theorem m_296 : (Jvm.Cond.selects "CutBodies$Body" ({ cls := "CutBodies$Body", name := "takesPointsToPoints", desc := "(I)Z" } : Jvm.MethodName) ({ cls := "CutBodies$Body", name := "takesPointsToPoints", desc := "(I)Z" } : Jvm.MethodName)) ∈ wAll := wAll_in (i := 296) rfl rfl
set_option maxRecDepth 20000 in
theorem m_297 : (Jvm.Cond.code ({ cls := "CutBodies$Body", name := "takesPointsToPoints", desc := "(I)Z" } : Jvm.MethodName) prog_2_method_12_code (3 : Nat) (Option.some Jvm.ClassFile.FieldType.boolean)) ∈ wAll := wAll_in (i := 297) rfl rfl
set_option maxRecDepth 20000 in
theorem m_298 : (Jvm.Cond.methodLink "CutBodies$Body" (70 : Nat) ({ cls := "CutBodies$Body", name := "imageOf", desc := "(II)I" } : Jvm.MethodName)) ∈ wAll := wAll_in (i := 298) rfl rfl
set_option maxRecDepth 20000 in
theorem m_299 : (Jvm.Cond.methodLink "CutBodies" (116 : Nat) ({ cls := "CutBodies$Body", name := "takesPlanesToPlanes", desc := "(I)Z" } : Jvm.MethodName)) ∈ wAll := wAll_in (i := 299) rfl rfl
set_option maxRecDepth 20000 in
theorem m_300 : (Jvm.Cond.instanceMethod ({ cls := "CutBodies$Body", name := "takesPlanesToPlanes", desc := "(I)Z" } : Jvm.MethodName)) ∈ wAll := wAll_in (i := 300) rfl rfl
set_option maxRecDepth 20000 in
theorem m_301 : (Jvm.Cond.selects "CutBodies$Body" ({ cls := "CutBodies$Body", name := "takesPlanesToPlanes", desc := "(I)Z" } : Jvm.MethodName) ({ cls := "CutBodies$Body", name := "takesPlanesToPlanes", desc := "(I)Z" } : Jvm.MethodName)) ∈ wAll := wAll_in (i := 301) rfl rfl
set_option maxRecDepth 20000 in
theorem m_302 : (Jvm.Cond.code ({ cls := "CutBodies$Body", name := "takesPlanesToPlanes", desc := "(I)Z" } : Jvm.MethodName) prog_2_method_13_code (6 : Nat) (Option.some Jvm.ClassFile.FieldType.boolean)) ∈ wAll := wAll_in (i := 302) rfl rfl
set_option maxRecDepth 20000 in
theorem m_303 : (Jvm.Cond.methodLink "CutBodies$Body" (74 : Nat) ({ cls := "CutBodies$Body", name := "hasPlaneWhere", desc := "(IIII)Z" } : Jvm.MethodName)) ∈ wAll := wAll_in (i := 303) rfl rfl
set_option maxRecDepth 20000 in
theorem m_305 : (Jvm.Cond.instanceMethod ({ cls := "CutBodies$Body", name := "hasPlaneWhere", desc := "(IIII)Z" } : Jvm.MethodName)) ∈ wAll := wAll_in (i := 305) rfl rfl
set_option maxRecDepth 20000 in
theorem m_306 : (Jvm.Cond.code ({ cls := "CutBodies$Body", name := "hasPlaneWhere", desc := "(IIII)Z" } : Jvm.MethodName) prog_2_method_14_code (6 : Nat) (Option.some Jvm.ClassFile.FieldType.boolean)) ∈ wAll := wAll_in (i := 306) rfl rfl
set_option maxRecDepth 20000 in
theorem m_307 : (Jvm.Cond.methodLink "CutBodies$Body" (78 : Nat) ({ cls := "CutBodies$Body", name := "isSamePlane", desc := "(IIIII)Z" } : Jvm.MethodName)) ∈ wAll := wAll_in (i := 307) rfl rfl
set_option maxRecDepth 20000 in
theorem m_309 : (Jvm.Cond.instanceMethod ({ cls := "CutBodies$Body", name := "isSamePlane", desc := "(IIIII)Z" } : Jvm.MethodName)) ∈ wAll := wAll_in (i := 309) rfl rfl
set_option maxRecDepth 20000 in
theorem m_310 : (Jvm.Cond.code ({ cls := "CutBodies$Body", name := "isSamePlane", desc := "(IIIII)Z" } : Jvm.MethodName) prog_2_method_15_code (6 : Nat) (Option.some Jvm.ClassFile.FieldType.boolean)) ∈ wAll := wAll_in (i := 310) rfl rfl
set_option maxRecDepth 20000 in
theorem m_319 : (Jvm.Cond.methodLink "CutBodies" (122 : Nat) ({ cls := "CutBodies", name := "rowsUntilBack", desc := "()I" } : Jvm.MethodName)) ∈ wAll := wAll_in (i := 319) rfl rfl
set_option maxRecDepth 20000 in
theorem m_321 : (Jvm.Cond.instanceMethod ({ cls := "CutBodies", name := "rowsUntilBack", desc := "()I" } : Jvm.MethodName)) ∈ wAll := wAll_in (i := 321) rfl rfl
set_option maxRecDepth 20000 in
theorem m_322 : (Jvm.Cond.code ({ cls := "CutBodies", name := "rowsUntilBack", desc := "()I" } : Jvm.MethodName) prog_1_method_24_code (3 : Nat) (Option.some Jvm.ClassFile.FieldType.int)) ∈ wAll := wAll_in (i := 322) rfl rfl
set_option maxRecDepth 20000 in
theorem m_323 : (Jvm.Cond.methodLink "CutBodies" (133 : Nat) ({ cls := "CutBodies$Contents", name := "rowsUntilBackAt", desc := "(I)I" } : Jvm.MethodName)) ∈ wAll := wAll_in (i := 323) rfl rfl
set_option maxRecDepth 20000 in
theorem m_324 : (Jvm.Cond.instanceMethod ({ cls := "CutBodies$Contents", name := "rowsUntilBackAt", desc := "(I)I" } : Jvm.MethodName)) ∈ wAll := wAll_in (i := 324) rfl rfl
set_option maxRecDepth 20000 in
theorem m_325 : (Jvm.Cond.selects "CutBodies$Contents" ({ cls := "CutBodies$Contents", name := "rowsUntilBackAt", desc := "(I)I" } : Jvm.MethodName) ({ cls := "CutBodies$Contents", name := "rowsUntilBackAt", desc := "(I)I" } : Jvm.MethodName)) ∈ wAll := wAll_in (i := 325) rfl rfl
set_option maxRecDepth 20000 in
theorem m_326 : (Jvm.Cond.code ({ cls := "CutBodies$Contents", name := "rowsUntilBackAt", desc := "(I)I" } : Jvm.MethodName) prog_3_method_4_code (5 : Nat) (Option.some Jvm.ClassFile.FieldType.int)) ∈ wAll := wAll_in (i := 326) rfl rfl
set_option maxRecDepth 20000 in
theorem m_327 : (Jvm.Cond.methodLink "CutBodies$Contents" (30 : Nat) ({ cls := "CutBodies$Ways", name := "compose", desc := "(II)I" } : Jvm.MethodName)) ∈ wAll := wAll_in (i := 327) rfl rfl
set_option maxRecDepth 20000 in
theorem m_328 : (Jvm.Cond.methodLink "CutBodies$Contents" (36 : Nat) ({ cls := "CutBodies$Ways", name := "orderOf", desc := "(I)I" } : Jvm.MethodName)) ∈ wAll := wAll_in (i := 328) rfl rfl
set_option maxRecDepth 20000 in
theorem m_329 : (Jvm.Cond.methodLink "CutBodies" (136 : Nat) ({ cls := "CutBodies", name := "commonMultiple", desc := "(II)I" } : Jvm.MethodName)) ∈ wAll := wAll_in (i := 329) rfl rfl
set_option maxRecDepth 20000 in
theorem m_330 : (Jvm.Cond.static ({ cls := "CutBodies", name := "commonMultiple", desc := "(II)I" } : Jvm.MethodName)) ∈ wAll := wAll_in (i := 330) rfl rfl
set_option maxRecDepth 20000 in
theorem m_331 : (Jvm.Cond.code ({ cls := "CutBodies", name := "commonMultiple", desc := "(II)I" } : Jvm.MethodName) prog_1_method_25_code (3 : Nat) (Option.some Jvm.ClassFile.FieldType.int)) ∈ wAll := wAll_in (i := 331) rfl rfl
set_option maxRecDepth 20000 in
theorem m_346 : (Jvm.Cond.fieldLink "CutBodiesModel" (55 : Nat) "CutBodiesModel" "thrown" "I") ∈ wAll := wAll_in (i := 346) rfl rfl
set_option maxRecDepth 20000 in
theorem m_347 : (Jvm.Cond.fieldLink "CutBodiesModel" (59 : Nat) "CutBodiesModel" "points" "I") ∈ wAll := wAll_in (i := 347) rfl rfl
set_option maxRecDepth 20000 in
theorem m_348 : (Jvm.Cond.fieldLink "CutBodiesModel" (62 : Nat) "CutBodiesModel" "planes" "I") ∈ wAll := wAll_in (i := 348) rfl rfl
set_option maxRecDepth 20000 in
theorem m_349 : (Jvm.Cond.fieldLink "CutBodiesModel" (65 : Nat) "CutBodiesModel" "axes" "I") ∈ wAll := wAll_in (i := 349) rfl rfl
set_option maxRecDepth 20000 in
theorem m_350 : (Jvm.Cond.fieldLink "CutBodiesModel" (7 : Nat) "CutBodiesModel" "px" "[I") ∈ wAll := wAll_in (i := 350) rfl rfl
set_option maxRecDepth 20000 in
theorem m_351 : (Jvm.Cond.fieldLink "CutBodiesModel" (13 : Nat) "CutBodiesModel" "py" "[I") ∈ wAll := wAll_in (i := 351) rfl rfl
set_option maxRecDepth 20000 in
theorem m_352 : (Jvm.Cond.fieldLink "CutBodiesModel" (16 : Nat) "CutBodiesModel" "pz" "[I") ∈ wAll := wAll_in (i := 352) rfl rfl
set_option maxRecDepth 20000 in
theorem m_353 : (Jvm.Cond.fieldLink "CutBodiesModel" (19 : Nat) "CutBodiesModel" "plane" "[I") ∈ wAll := wAll_in (i := 353) rfl rfl
set_option maxRecDepth 20000 in
theorem m_354 : (Jvm.Cond.fieldLink "CutBodiesModel" (22 : Nat) "CutBodiesModel" "axis" "[I") ∈ wAll := wAll_in (i := 354) rfl rfl
set_option maxRecDepth 20000 in
theorem m_355 : (Jvm.Cond.fieldLink "CutBodiesModel" (25 : Nat) "CutBodiesModel" "was" "[I") ∈ wAll := wAll_in (i := 355) rfl rfl
set_option maxRecDepth 20000 in
theorem m_356 : (Jvm.Cond.fieldLink "CutBodiesModel" (28 : Nat) "CutBodiesModel" "ways" "[I") ∈ wAll := wAll_in (i := 356) rfl rfl
set_option maxRecDepth 20000 in
theorem m_357 : (Jvm.Cond.fieldLink "CutBodiesModel" (169 : Nat) "CutBodiesModel" "kept" "I") ∈ wAll := wAll_in (i := 357) rfl rfl
set_option maxRecDepth 20000 in
theorem m_358 : (Jvm.Cond.fieldLink "CutBodiesModel" (31 : Nat) "CutBodiesModel" "keptWas" "[I") ∈ wAll := wAll_in (i := 358) rfl rfl
set_option maxRecDepth 20000 in
theorem m_359 : (Jvm.Cond.fieldLink "CutBodiesModel" (34 : Nat) "CutBodiesModel" "keptWays" "[I") ∈ wAll := wAll_in (i := 359) rfl rfl
set_option maxRecDepth 20000 in
theorem m_360 : (Jvm.Cond.fieldLink "CutBodiesModel" (37 : Nat) "CutBodiesModel" "keptPoints" "[I") ∈ wAll := wAll_in (i := 360) rfl rfl
set_option maxRecDepth 20000 in
theorem m_361 : (Jvm.Cond.fieldLink "CutBodiesModel" (93 : Nat) "CutBodiesModel" "ax" "I") ∈ wAll := wAll_in (i := 361) rfl rfl
set_option maxRecDepth 20000 in
theorem m_362 : (Jvm.Cond.fieldLink "CutBodiesModel" (96 : Nat) "CutBodiesModel" "ay" "I") ∈ wAll := wAll_in (i := 362) rfl rfl
set_option maxRecDepth 20000 in
theorem m_363 : (Jvm.Cond.fieldLink "CutBodiesModel" (99 : Nat) "CutBodiesModel" "az" "I") ∈ wAll := wAll_in (i := 363) rfl rfl
set_option maxRecDepth 20000 in
theorem m_364 : (Jvm.Cond.fieldLink "CutBodiesModel" (40 : Nat) "CutBodiesModel" "nextWas" "[I") ∈ wAll := wAll_in (i := 364) rfl rfl
set_option maxRecDepth 20000 in
theorem m_365 : (Jvm.Cond.fieldLink "CutBodiesModel" (43 : Nat) "CutBodiesModel" "nextWays" "[I") ∈ wAll := wAll_in (i := 365) rfl rfl
set_option maxRecDepth 20000 in
theorem m_366 : (Jvm.Cond.fieldLink "CutBodiesModel" (46 : Nat) "CutBodiesModel" "nowWas" "[I") ∈ wAll := wAll_in (i := 366) rfl rfl
set_option maxRecDepth 20000 in
theorem m_367 : (Jvm.Cond.fieldLink "CutBodiesModel" (49 : Nat) "CutBodiesModel" "nowWays" "[I") ∈ wAll := wAll_in (i := 367) rfl rfl
set_option maxRecDepth 20000 in
theorem m_368 : (Jvm.Cond.fieldLink "CutBodiesModel" (52 : Nat) "CutBodiesModel" "to" "[I") ∈ wAll := wAll_in (i := 368) rfl rfl
set_option maxRecDepth 20000 in
theorem m_369 : (Jvm.Cond.lays "CutBodiesModel" "CutBodiesModel" "thrown" "I") ∈ wAll := wAll_in (i := 369) rfl rfl
set_option maxRecDepth 20000 in
theorem m_371 : (Jvm.Cond.lays "CutBodiesModel" "CutBodiesModel" "points" "I") ∈ wAll := wAll_in (i := 371) rfl rfl
set_option maxRecDepth 20000 in
theorem m_373 : (Jvm.Cond.lays "CutBodiesModel" "CutBodiesModel" "planes" "I") ∈ wAll := wAll_in (i := 373) rfl rfl
set_option maxRecDepth 20000 in
theorem m_375 : (Jvm.Cond.lays "CutBodiesModel" "CutBodiesModel" "axes" "I") ∈ wAll := wAll_in (i := 375) rfl rfl
set_option maxRecDepth 20000 in
theorem m_377 : (Jvm.Cond.laysFinal "CutBodiesModel" "CutBodiesModel" "px" "[I") ∈ wAll := wAll_in (i := 377) rfl rfl
set_option maxRecDepth 20000 in
theorem m_379 : (Jvm.Cond.laysFinal "CutBodiesModel" "CutBodiesModel" "py" "[I") ∈ wAll := wAll_in (i := 379) rfl rfl
set_option maxRecDepth 20000 in
theorem m_381 : (Jvm.Cond.laysFinal "CutBodiesModel" "CutBodiesModel" "pz" "[I") ∈ wAll := wAll_in (i := 381) rfl rfl
set_option maxRecDepth 20000 in
theorem m_383 : (Jvm.Cond.laysFinal "CutBodiesModel" "CutBodiesModel" "plane" "[I") ∈ wAll := wAll_in (i := 383) rfl rfl
set_option maxRecDepth 20000 in
theorem m_385 : (Jvm.Cond.laysFinal "CutBodiesModel" "CutBodiesModel" "axis" "[I") ∈ wAll := wAll_in (i := 385) rfl rfl
set_option maxRecDepth 20000 in
theorem m_387 : (Jvm.Cond.laysFinal "CutBodiesModel" "CutBodiesModel" "was" "[I") ∈ wAll := wAll_in (i := 387) rfl rfl
set_option maxRecDepth 20000 in
theorem m_389 : (Jvm.Cond.laysFinal "CutBodiesModel" "CutBodiesModel" "ways" "[I") ∈ wAll := wAll_in (i := 389) rfl rfl
set_option maxRecDepth 20000 in
theorem m_391 : (Jvm.Cond.lays "CutBodiesModel" "CutBodiesModel" "kept" "I") ∈ wAll := wAll_in (i := 391) rfl rfl
set_option maxRecDepth 20000 in
theorem m_393 : (Jvm.Cond.laysFinal "CutBodiesModel" "CutBodiesModel" "keptWas" "[I") ∈ wAll := wAll_in (i := 393) rfl rfl
set_option maxRecDepth 20000 in
theorem m_395 : (Jvm.Cond.laysFinal "CutBodiesModel" "CutBodiesModel" "keptWays" "[I") ∈ wAll := wAll_in (i := 395) rfl rfl
set_option maxRecDepth 20000 in
theorem m_397 : (Jvm.Cond.laysFinal "CutBodiesModel" "CutBodiesModel" "keptPoints" "[I") ∈ wAll := wAll_in (i := 397) rfl rfl
set_option maxRecDepth 20000 in
theorem m_399 : (Jvm.Cond.lays "CutBodiesModel" "CutBodiesModel" "ax" "I") ∈ wAll := wAll_in (i := 399) rfl rfl
set_option maxRecDepth 20000 in
theorem m_401 : (Jvm.Cond.lays "CutBodiesModel" "CutBodiesModel" "ay" "I") ∈ wAll := wAll_in (i := 401) rfl rfl
set_option maxRecDepth 20000 in
theorem m_403 : (Jvm.Cond.lays "CutBodiesModel" "CutBodiesModel" "az" "I") ∈ wAll := wAll_in (i := 403) rfl rfl
set_option maxRecDepth 20000 in
theorem m_405 : (Jvm.Cond.laysFinal "CutBodiesModel" "CutBodiesModel" "nextWas" "[I") ∈ wAll := wAll_in (i := 405) rfl rfl
set_option maxRecDepth 20000 in
theorem m_407 : (Jvm.Cond.laysFinal "CutBodiesModel" "CutBodiesModel" "nextWays" "[I") ∈ wAll := wAll_in (i := 407) rfl rfl
set_option maxRecDepth 20000 in
theorem m_409 : (Jvm.Cond.laysFinal "CutBodiesModel" "CutBodiesModel" "nowWas" "[I") ∈ wAll := wAll_in (i := 409) rfl rfl
set_option maxRecDepth 20000 in
theorem m_411 : (Jvm.Cond.laysFinal "CutBodiesModel" "CutBodiesModel" "nowWays" "[I") ∈ wAll := wAll_in (i := 411) rfl rfl
set_option maxRecDepth 20000 in
theorem m_413 : (Jvm.Cond.laysFinal "CutBodiesModel" "CutBodiesModel" "to" "[I") ∈ wAll := wAll_in (i := 413) rfl rfl
set_option maxRecDepth 20000 in
theorem m_420 : (Jvm.Cond.methodLink "CutBodiesModel" (72 : Nat) ({ cls := "CutBodiesModel", name := "isSmall", desc := "(I)Z" } : Jvm.MethodName)) ∈ wAll := wAll_in (i := 420) rfl rfl
set_option maxRecDepth 20000 in
theorem m_421 : (Jvm.Cond.static ({ cls := "CutBodiesModel", name := "isSmall", desc := "(I)Z" } : Jvm.MethodName)) ∈ wAll := wAll_in (i := 421) rfl rfl
set_option maxRecDepth 20000 in
theorem m_422 : (Jvm.Cond.code ({ cls := "CutBodiesModel", name := "isSmall", desc := "(I)Z" } : Jvm.MethodName) prog_6_method_8_code (1 : Nat) (Option.some Jvm.ClassFile.FieldType.boolean)) ∈ wAll := wAll_in (i := 422) rfl rfl
set_option maxRecDepth 20000 in
theorem m_423 : (Jvm.Cond.methodLink "CutBodiesModel" (76 : Nat) ({ cls := "CutBodiesModel", name := "add", desc := "(III)Z" } : Jvm.MethodName)) ∈ wAll := wAll_in (i := 423) rfl rfl
set_option maxRecDepth 20000 in
theorem m_425 : (Jvm.Cond.instanceMethod ({ cls := "CutBodiesModel", name := "add", desc := "(III)Z" } : Jvm.MethodName)) ∈ wAll := wAll_in (i := 425) rfl rfl
set_option maxRecDepth 20000 in
theorem m_426 : (Jvm.Cond.code ({ cls := "CutBodiesModel", name := "add", desc := "(III)Z" } : Jvm.MethodName) prog_6_method_9_code (4 : Nat) (Option.some Jvm.ClassFile.FieldType.boolean)) ∈ wAll := wAll_in (i := 426) rfl rfl
set_option maxRecDepth 20000 in
theorem m_427 : (Jvm.Cond.methodLink "CutBodiesModel" (68 : Nat) ({ cls := "CutBodiesModel", name := "pointAt", desc := "(III)I" } : Jvm.MethodName)) ∈ wAll := wAll_in (i := 427) rfl rfl
set_option maxRecDepth 20000 in
theorem m_429 : (Jvm.Cond.instanceMethod ({ cls := "CutBodiesModel", name := "pointAt", desc := "(III)I" } : Jvm.MethodName)) ∈ wAll := wAll_in (i := 429) rfl rfl
set_option maxRecDepth 20000 in
theorem m_430 : (Jvm.Cond.code ({ cls := "CutBodiesModel", name := "pointAt", desc := "(III)I" } : Jvm.MethodName) prog_6_method_6_code (5 : Nat) (Option.some Jvm.ClassFile.FieldType.int)) ∈ wAll := wAll_in (i := 430) rfl rfl
set_option maxRecDepth 20000 in
theorem m_431 : (Jvm.Cond.methodLink "CutBodiesModel" (80 : Nat) ({ cls := "CutBodiesModel", name := "own", desc := "()V" } : Jvm.MethodName)) ∈ wAll := wAll_in (i := 431) rfl rfl
set_option maxRecDepth 20000 in
theorem m_433 : (Jvm.Cond.instanceMethod ({ cls := "CutBodiesModel", name := "own", desc := "()V" } : Jvm.MethodName)) ∈ wAll := wAll_in (i := 433) rfl rfl
set_option maxRecDepth 20000 in
theorem m_434 : (Jvm.Cond.code ({ cls := "CutBodiesModel", name := "own", desc := "()V" } : Jvm.MethodName) prog_6_method_7_code (2 : Nat) (Option.none : Option Jvm.ClassFile.FieldType)) ∈ wAll := wAll_in (i := 434) rfl rfl
set_option maxRecDepth 20000 in
theorem m_447 : (Jvm.Cond.methodLink "CutBodiesModel" (83 : Nat) ({ cls := "CutBodiesModel", name := "isArrow", desc := "(I)Z" } : Jvm.MethodName)) ∈ wAll := wAll_in (i := 447) rfl rfl
set_option maxRecDepth 20000 in
theorem m_448 : (Jvm.Cond.static ({ cls := "CutBodiesModel", name := "isArrow", desc := "(I)Z" } : Jvm.MethodName)) ∈ wAll := wAll_in (i := 448) rfl rfl
set_option maxRecDepth 20000 in
theorem m_449 : (Jvm.Cond.code ({ cls := "CutBodiesModel", name := "isArrow", desc := "(I)Z" } : Jvm.MethodName) prog_6_method_13_code (1 : Nat) (Option.some Jvm.ClassFile.FieldType.boolean)) ∈ wAll := wAll_in (i := 449) rfl rfl
set_option maxRecDepth 20000 in
theorem m_454 : (Jvm.Cond.methodLink "CutBodiesModel" (86 : Nat) ({ cls := "CutBodiesModel", name := "isAxis", desc := "(I)Z" } : Jvm.MethodName)) ∈ wAll := wAll_in (i := 454) rfl rfl
set_option maxRecDepth 20000 in
theorem m_456 : (Jvm.Cond.instanceMethod ({ cls := "CutBodiesModel", name := "isAxis", desc := "(I)Z" } : Jvm.MethodName)) ∈ wAll := wAll_in (i := 456) rfl rfl
set_option maxRecDepth 20000 in
theorem m_457 : (Jvm.Cond.code ({ cls := "CutBodiesModel", name := "isAxis", desc := "(I)Z" } : Jvm.MethodName) prog_6_method_5_code (2 : Nat) (Option.some Jvm.ClassFile.FieldType.boolean)) ∈ wAll := wAll_in (i := 457) rfl rfl
set_option maxRecDepth 20000 in
theorem m_458 : (Jvm.Cond.methodLink "CutBodiesModel" (89 : Nat) ({ cls := "CutBodiesModel", name := "kind", desc := "(I)I" } : Jvm.MethodName)) ∈ wAll := wAll_in (i := 458) rfl rfl
set_option maxRecDepth 20000 in
theorem m_460 : (Jvm.Cond.instanceMethod ({ cls := "CutBodiesModel", name := "kind", desc := "(I)I" } : Jvm.MethodName)) ∈ wAll := wAll_in (i := 460) rfl rfl
set_option maxRecDepth 20000 in
theorem m_461 : (Jvm.Cond.code ({ cls := "CutBodiesModel", name := "kind", desc := "(I)I" } : Jvm.MethodName) prog_6_method_15_code (4 : Nat) (Option.some Jvm.ClassFile.FieldType.int)) ∈ wAll := wAll_in (i := 461) rfl rfl
set_option maxRecDepth 20000 in
theorem m_466 : (Jvm.Cond.methodLink "CutBodiesModel" (106 : Nat) ({ cls := "CutBodiesModel", name := "isPoint", desc := "(I)Z" } : Jvm.MethodName)) ∈ wAll := wAll_in (i := 466) rfl rfl
set_option maxRecDepth 20000 in
theorem m_468 : (Jvm.Cond.instanceMethod ({ cls := "CutBodiesModel", name := "isPoint", desc := "(I)Z" } : Jvm.MethodName)) ∈ wAll := wAll_in (i := 468) rfl rfl
set_option maxRecDepth 20000 in
theorem m_469 : (Jvm.Cond.code ({ cls := "CutBodiesModel", name := "isPoint", desc := "(I)Z" } : Jvm.MethodName) prog_6_method_3_code (2 : Nat) (Option.some Jvm.ClassFile.FieldType.boolean)) ∈ wAll := wAll_in (i := 469) rfl rfl
set_option maxRecDepth 20000 in
theorem m_470 : (Jvm.Cond.methodLink "CutBodiesModel" (109 : Nat) ({ cls := "CutBodiesModel", name := "imageOf", desc := "(II)I" } : Jvm.MethodName)) ∈ wAll := wAll_in (i := 470) rfl rfl
set_option maxRecDepth 20000 in
theorem m_472 : (Jvm.Cond.instanceMethod ({ cls := "CutBodiesModel", name := "imageOf", desc := "(II)I" } : Jvm.MethodName)) ∈ wAll := wAll_in (i := 472) rfl rfl
set_option maxRecDepth 20000 in
theorem m_473 : (Jvm.Cond.code ({ cls := "CutBodiesModel", name := "imageOf", desc := "(II)I" } : Jvm.MethodName) prog_6_method_18_code (3 : Nat) (Option.some Jvm.ClassFile.FieldType.int)) ∈ wAll := wAll_in (i := 473) rfl rfl
set_option maxRecDepth 20000 in
theorem m_474 : (Jvm.Cond.methodLink "CutBodiesModel" (102 : Nat) ({ cls := "CutBodiesModel", name := "step", desc := "(IIII)V" } : Jvm.MethodName)) ∈ wAll := wAll_in (i := 474) rfl rfl
set_option maxRecDepth 20000 in
theorem m_476 : (Jvm.Cond.instanceMethod ({ cls := "CutBodiesModel", name := "step", desc := "(IIII)V" } : Jvm.MethodName)) ∈ wAll := wAll_in (i := 476) rfl rfl
set_option maxRecDepth 20000 in
theorem m_477 : (Jvm.Cond.code ({ cls := "CutBodiesModel", name := "step", desc := "(IIII)V" } : Jvm.MethodName) prog_6_method_17_code (13 : Nat) (Option.none : Option Jvm.ClassFile.FieldType)) ∈ wAll := wAll_in (i := 477) rfl rfl
set_option maxRecDepth 20000 in
theorem m_482 : (Jvm.Cond.methodLink "CutBodiesModel" (113 : Nat) ({ cls := "CutBodiesModel", name := "isPlane", desc := "(I)Z" } : Jvm.MethodName)) ∈ wAll := wAll_in (i := 482) rfl rfl
set_option maxRecDepth 20000 in
theorem m_484 : (Jvm.Cond.instanceMethod ({ cls := "CutBodiesModel", name := "isPlane", desc := "(I)Z" } : Jvm.MethodName)) ∈ wAll := wAll_in (i := 484) rfl rfl
set_option maxRecDepth 20000 in
theorem m_485 : (Jvm.Cond.code ({ cls := "CutBodiesModel", name := "isPlane", desc := "(I)Z" } : Jvm.MethodName) prog_6_method_4_code (2 : Nat) (Option.some Jvm.ClassFile.FieldType.boolean)) ∈ wAll := wAll_in (i := 485) rfl rfl
set_option maxRecDepth 20000 in
theorem m_486 : (Jvm.Cond.methodLink "CutBodiesModel" (116 : Nat) ({ cls := "CutBodiesModel", name := "sideOf", desc := "(II)I" } : Jvm.MethodName)) ∈ wAll := wAll_in (i := 486) rfl rfl
set_option maxRecDepth 20000 in
theorem m_488 : (Jvm.Cond.instanceMethod ({ cls := "CutBodiesModel", name := "sideOf", desc := "(II)I" } : Jvm.MethodName)) ∈ wAll := wAll_in (i := 488) rfl rfl
set_option maxRecDepth 20000 in
theorem m_489 : (Jvm.Cond.code ({ cls := "CutBodiesModel", name := "sideOf", desc := "(II)I" } : Jvm.MethodName) prog_6_method_20_code (4 : Nat) (Option.some Jvm.ClassFile.FieldType.int)) ∈ wAll := wAll_in (i := 489) rfl rfl
set_option maxRecDepth 20000 in
theorem m_494 : (Jvm.Cond.methodLink "CutBodiesModel" (126 : Nat) ({ cls := "CutBodiesModel", name := "piecesTo", desc := "(I)I" } : Jvm.MethodName)) ∈ wAll := wAll_in (i := 494) rfl rfl
set_option maxRecDepth 20000 in
theorem m_496 : (Jvm.Cond.instanceMethod ({ cls := "CutBodiesModel", name := "piecesTo", desc := "(I)I" } : Jvm.MethodName)) ∈ wAll := wAll_in (i := 496) rfl rfl
set_option maxRecDepth 20000 in
theorem m_497 : (Jvm.Cond.code ({ cls := "CutBodiesModel", name := "piecesTo", desc := "(I)I" } : Jvm.MethodName) prog_6_method_24_code (4 : Nat) (Option.some Jvm.ClassFile.FieldType.int)) ∈ wAll := wAll_in (i := 497) rfl rfl
set_option maxRecDepth 20000 in
theorem m_498 : (Jvm.Cond.methodLink "CutBodiesModel" (123 : Nat) ({ cls := "CutBodiesModel", name := "leastOf", desc := "(I)I" } : Jvm.MethodName)) ∈ wAll := wAll_in (i := 498) rfl rfl
set_option maxRecDepth 20000 in
theorem m_500 : (Jvm.Cond.instanceMethod ({ cls := "CutBodiesModel", name := "leastOf", desc := "(I)I" } : Jvm.MethodName)) ∈ wAll := wAll_in (i := 500) rfl rfl
set_option maxRecDepth 20000 in
theorem m_501 : (Jvm.Cond.code ({ cls := "CutBodiesModel", name := "leastOf", desc := "(I)I" } : Jvm.MethodName) prog_6_method_23_code (3 : Nat) (Option.some Jvm.ClassFile.FieldType.int)) ∈ wAll := wAll_in (i := 501) rfl rfl
set_option maxRecDepth 20000 in
theorem m_502 : (Jvm.Cond.methodLink "CutBodiesModel" (119 : Nat) ({ cls := "CutBodiesModel", name := "isAlike", desc := "(II)Z" } : Jvm.MethodName)) ∈ wAll := wAll_in (i := 502) rfl rfl
set_option maxRecDepth 20000 in
theorem m_504 : (Jvm.Cond.instanceMethod ({ cls := "CutBodiesModel", name := "isAlike", desc := "(II)Z" } : Jvm.MethodName)) ∈ wAll := wAll_in (i := 504) rfl rfl
set_option maxRecDepth 20000 in
theorem m_505 : (Jvm.Cond.code ({ cls := "CutBodiesModel", name := "isAlike", desc := "(II)Z" } : Jvm.MethodName) prog_6_method_22_code (4 : Nat) (Option.some Jvm.ClassFile.FieldType.boolean)) ∈ wAll := wAll_in (i := 505) rfl rfl
set_option maxRecDepth 20000 in
theorem m_514 : (Jvm.Cond.methodLink "CutBodiesModel" (147 : Nat) ({ cls := "CutBodiesModel", name := "blocked", desc := "(II)I" } : Jvm.MethodName)) ∈ wAll := wAll_in (i := 514) rfl rfl
set_option maxRecDepth 20000 in
theorem m_516 : (Jvm.Cond.instanceMethod ({ cls := "CutBodiesModel", name := "blocked", desc := "(II)I" } : Jvm.MethodName)) ∈ wAll := wAll_in (i := 516) rfl rfl
set_option maxRecDepth 20000 in
theorem m_517 : (Jvm.Cond.code ({ cls := "CutBodiesModel", name := "blocked", desc := "(II)I" } : Jvm.MethodName) prog_6_method_33_code (5 : Nat) (Option.some Jvm.ClassFile.FieldType.int)) ∈ wAll := wAll_in (i := 517) rfl rfl
set_option maxRecDepth 20000 in
theorem m_518 : (Jvm.Cond.methodLink "CutBodiesModel" (150 : Nat) ({ cls := "CutBodiesModel", name := "plan", desc := "(III)V" } : Jvm.MethodName)) ∈ wAll := wAll_in (i := 518) rfl rfl
set_option maxRecDepth 20000 in
theorem m_520 : (Jvm.Cond.instanceMethod ({ cls := "CutBodiesModel", name := "plan", desc := "(III)V" } : Jvm.MethodName)) ∈ wAll := wAll_in (i := 520) rfl rfl
set_option maxRecDepth 20000 in
theorem m_521 : (Jvm.Cond.code ({ cls := "CutBodiesModel", name := "plan", desc := "(III)V" } : Jvm.MethodName) prog_6_method_34_code (5 : Nat) (Option.none : Option Jvm.ClassFile.FieldType)) ∈ wAll := wAll_in (i := 521) rfl rfl
set_option maxRecDepth 20000 in
theorem m_522 : (Jvm.Cond.methodLink "CutBodiesModel" (154 : Nat) ({ cls := "CutBodiesModel", name := "turnOnce", desc := "(II)V" } : Jvm.MethodName)) ∈ wAll := wAll_in (i := 522) rfl rfl
set_option maxRecDepth 20000 in
theorem m_524 : (Jvm.Cond.instanceMethod ({ cls := "CutBodiesModel", name := "turnOnce", desc := "(II)V" } : Jvm.MethodName)) ∈ wAll := wAll_in (i := 524) rfl rfl
set_option maxRecDepth 20000 in
theorem m_525 : (Jvm.Cond.code ({ cls := "CutBodiesModel", name := "turnOnce", desc := "(II)V" } : Jvm.MethodName) prog_6_method_35_code (5 : Nat) (Option.none : Option Jvm.ClassFile.FieldType)) ∈ wAll := wAll_in (i := 525) rfl rfl
set_option maxRecDepth 20000 in
theorem m_526 : (Jvm.Cond.methodLink "CutBodiesModel" (144 : Nat) ({ cls := "CutBodiesModel", name := "wayBehind", desc := "(II)I" } : Jvm.MethodName)) ∈ wAll := wAll_in (i := 526) rfl rfl
set_option maxRecDepth 20000 in
theorem m_528 : (Jvm.Cond.instanceMethod ({ cls := "CutBodiesModel", name := "wayBehind", desc := "(II)I" } : Jvm.MethodName)) ∈ wAll := wAll_in (i := 528) rfl rfl
set_option maxRecDepth 20000 in
theorem m_529 : (Jvm.Cond.code ({ cls := "CutBodiesModel", name := "wayBehind", desc := "(II)I" } : Jvm.MethodName) prog_6_method_32_code (3 : Nat) (Option.some Jvm.ClassFile.FieldType.int)) ∈ wAll := wAll_in (i := 529) rfl rfl
set_option maxRecDepth 20000 in
theorem m_530 : (Jvm.Cond.methodLink "CutBodiesModel" (135 : Nat) ({ cls := "CutBodiesModel", name := "taken", desc := "(II)I" } : Jvm.MethodName)) ∈ wAll := wAll_in (i := 530) rfl rfl
set_option maxRecDepth 20000 in
theorem m_532 : (Jvm.Cond.instanceMethod ({ cls := "CutBodiesModel", name := "taken", desc := "(II)I" } : Jvm.MethodName)) ∈ wAll := wAll_in (i := 532) rfl rfl
set_option maxRecDepth 20000 in
theorem m_533 : (Jvm.Cond.code ({ cls := "CutBodiesModel", name := "taken", desc := "(II)I" } : Jvm.MethodName) prog_6_method_31_code (3 : Nat) (Option.some Jvm.ClassFile.FieldType.int)) ∈ wAll := wAll_in (i := 533) rfl rfl
set_option maxRecDepth 20000 in
theorem m_534 : (Jvm.Cond.methodLink "CutBodiesModel" (129 : Nat) ({ cls := "CutBodiesModel", name := "arrow", desc := "(II)I" } : Jvm.MethodName)) ∈ wAll := wAll_in (i := 534) rfl rfl
set_option maxRecDepth 20000 in
theorem m_535 : (Jvm.Cond.static ({ cls := "CutBodiesModel", name := "arrow", desc := "(II)I" } : Jvm.MethodName)) ∈ wAll := wAll_in (i := 535) rfl rfl
set_option maxRecDepth 20000 in
theorem m_536 : (Jvm.Cond.code ({ cls := "CutBodiesModel", name := "arrow", desc := "(II)I" } : Jvm.MethodName) prog_6_method_27_code (2 : Nat) (Option.some Jvm.ClassFile.FieldType.int)) ∈ wAll := wAll_in (i := 536) rfl rfl
set_option maxRecDepth 20000 in
theorem m_537 : (Jvm.Cond.methodLink "CutBodiesModel" (132 : Nat) ({ cls := "CutBodiesModel", name := "arrowOf", desc := "(III)I" } : Jvm.MethodName)) ∈ wAll := wAll_in (i := 537) rfl rfl
set_option maxRecDepth 20000 in
theorem m_538 : (Jvm.Cond.static ({ cls := "CutBodiesModel", name := "arrowOf", desc := "(III)I" } : Jvm.MethodName)) ∈ wAll := wAll_in (i := 538) rfl rfl
set_option maxRecDepth 20000 in
theorem m_539 : (Jvm.Cond.code ({ cls := "CutBodiesModel", name := "arrowOf", desc := "(III)I" } : Jvm.MethodName) prog_6_method_28_code (3 : Nat) (Option.some Jvm.ClassFile.FieldType.int)) ∈ wAll := wAll_in (i := 539) rfl rfl
set_option maxRecDepth 20000 in
theorem m_540 : (Jvm.Cond.methodLink "CutBodiesModel" (138 : Nat) ({ cls := "CutBodiesModel", name := "secondOf", desc := "(I)I" } : Jvm.MethodName)) ∈ wAll := wAll_in (i := 540) rfl rfl
set_option maxRecDepth 20000 in
theorem m_541 : (Jvm.Cond.static ({ cls := "CutBodiesModel", name := "secondOf", desc := "(I)I" } : Jvm.MethodName)) ∈ wAll := wAll_in (i := 541) rfl rfl
set_option maxRecDepth 20000 in
theorem m_542 : (Jvm.Cond.code ({ cls := "CutBodiesModel", name := "secondOf", desc := "(I)I" } : Jvm.MethodName) prog_6_method_30_code (4 : Nat) (Option.some Jvm.ClassFile.FieldType.int)) ∈ wAll := wAll_in (i := 542) rfl rfl
set_option maxRecDepth 20000 in
theorem m_543 : (Jvm.Cond.methodLink "CutBodiesModel" (141 : Nat) ({ cls := "CutBodiesModel", name := "wayOf", desc := "(II)I" } : Jvm.MethodName)) ∈ wAll := wAll_in (i := 543) rfl rfl
set_option maxRecDepth 20000 in
theorem m_544 : (Jvm.Cond.static ({ cls := "CutBodiesModel", name := "wayOf", desc := "(II)I" } : Jvm.MethodName)) ∈ wAll := wAll_in (i := 544) rfl rfl
set_option maxRecDepth 20000 in
theorem m_545 : (Jvm.Cond.code ({ cls := "CutBodiesModel", name := "wayOf", desc := "(II)I" } : Jvm.MethodName) prog_6_method_29_code (4 : Nat) (Option.some Jvm.ClassFile.FieldType.int)) ∈ wAll := wAll_in (i := 545) rfl rfl
set_option maxRecDepth 20000 in
theorem m_562 : (Jvm.Cond.methodLink "CutBodiesModel" (162 : Nat) ({ cls := "CutBodiesModel", name := "isThere", desc := "(II)Z" } : Jvm.MethodName)) ∈ wAll := wAll_in (i := 562) rfl rfl
set_option maxRecDepth 20000 in
theorem m_564 : (Jvm.Cond.instanceMethod ({ cls := "CutBodiesModel", name := "isThere", desc := "(II)Z" } : Jvm.MethodName)) ∈ wAll := wAll_in (i := 564) rfl rfl
set_option maxRecDepth 20000 in
theorem m_565 : (Jvm.Cond.code ({ cls := "CutBodiesModel", name := "isThere", desc := "(II)Z" } : Jvm.MethodName) prog_6_method_41_code (9 : Nat) (Option.some Jvm.ClassFile.FieldType.boolean)) ∈ wAll := wAll_in (i := 565) rfl rfl
set_option maxRecDepth 20000 in
theorem m_566 : (Jvm.Cond.methodLink "CutBodiesModel" (158 : Nat) ({ cls := "CutBodiesModel", name := "isCross", desc := "(IIII)Z" } : Jvm.MethodName)) ∈ wAll := wAll_in (i := 566) rfl rfl
set_option maxRecDepth 20000 in
theorem m_567 : (Jvm.Cond.static ({ cls := "CutBodiesModel", name := "isCross", desc := "(IIII)Z" } : Jvm.MethodName)) ∈ wAll := wAll_in (i := 567) rfl rfl
set_option maxRecDepth 20000 in
theorem m_568 : (Jvm.Cond.code ({ cls := "CutBodiesModel", name := "isCross", desc := "(IIII)Z" } : Jvm.MethodName) prog_6_method_40_code (4 : Nat) (Option.some Jvm.ClassFile.FieldType.boolean)) ∈ wAll := wAll_in (i := 568) rfl rfl
set_option maxRecDepth 20000 in
theorem m_577 : (Jvm.Cond.methodLink "CutBodiesModel" (165 : Nat) ({ cls := "CutBodiesModel", name := "isNow", desc := "()Z" } : Jvm.MethodName)) ∈ wAll := wAll_in (i := 577) rfl rfl
set_option maxRecDepth 20000 in
theorem m_579 : (Jvm.Cond.instanceMethod ({ cls := "CutBodiesModel", name := "isNow", desc := "()Z" } : Jvm.MethodName)) ∈ wAll := wAll_in (i := 579) rfl rfl
set_option maxRecDepth 20000 in
theorem m_580 : (Jvm.Cond.code ({ cls := "CutBodiesModel", name := "isNow", desc := "()Z" } : Jvm.MethodName) prog_6_method_44_code (2 : Nat) (Option.some Jvm.ClassFile.FieldType.boolean)) ∈ wAll := wAll_in (i := 580) rfl rfl
theorem in_B : ∀ w ∈ u_ws R_B T_B 10, w ∈ wAll := by
  intro w h
  obtain ⟨k, hk, rfl⟩ := List.mem_map.mp h
  have hk := List.mem_range.mp hk
  match k, hk with
  | 0, _ => exact m_61
  | 1, _ => exact m_63
  | 2, _ => exact m_65
  | 3, _ => exact m_67
  | 4, _ => exact m_69
  | 5, _ => exact m_71
  | 6, _ => exact m_73
  | 7, _ => exact m_75
  | 8, _ => exact m_77
  | 9, _ => exact m_79
  | k + 10, hk => exact absurd hk (by omega)
theorem in_C : ∀ w ∈ u_ws R_C T_C 2, w ∈ wAll := by
  intro w h
  obtain ⟨k, hk, rfl⟩ := List.mem_map.mp h
  have hk := List.mem_range.mp hk
  match k, hk with
  | 0, _ => exact m_94
  | 1, _ => exact m_96
  | k + 2, hk => exact absurd hk (by omega)
theorem in_X : ∀ w ∈ u_ws R_X T_X 10, w ∈ wAll := by
  intro w h
  obtain ⟨k, hk, rfl⟩ := List.mem_map.mp h
  have hk := List.mem_range.mp hk
  match k, hk with
  | 0, _ => exact m_110
  | 1, _ => exact m_112
  | 2, _ => exact m_114
  | 3, _ => exact m_116
  | 4, _ => exact m_118
  | 5, _ => exact m_120
  | 6, _ => exact m_122
  | 7, _ => exact m_124
  | 8, _ => exact m_126
  | 9, _ => exact m_128
  | k + 10, hk => exact absurd hk (by omega)
theorem in_M : ∀ w ∈ u_ws R_M T_M 23, w ∈ wAll := by
  intro w h
  obtain ⟨k, hk, rfl⟩ := List.mem_map.mp h
  have hk := List.mem_range.mp hk
  match k, hk with
  | 0, _ => exact m_369
  | 1, _ => exact m_371
  | 2, _ => exact m_373
  | 3, _ => exact m_375
  | 4, _ => exact m_377
  | 5, _ => exact m_379
  | 6, _ => exact m_381
  | 7, _ => exact m_383
  | 8, _ => exact m_385
  | 9, _ => exact m_387
  | 10, _ => exact m_389
  | 11, _ => exact m_391
  | 12, _ => exact m_393
  | 13, _ => exact m_395
  | 14, _ => exact m_397
  | 15, _ => exact m_399
  | 16, _ => exact m_401
  | 17, _ => exact m_403
  | 18, _ => exact m_405
  | 19, _ => exact m_407
  | 20, _ => exact m_409
  | 21, _ => exact m_411
  | 22, _ => exact m_413
  | k + 23, hk => exact absurd hk (by omega)
def nestWs : List Cond := [(Jvm.Cond.methodLinkNest "CutBodies$Body" (44 : Nat) ({ cls := "CutBodies", name := "isWithin", desc := "(II)Z" } : Jvm.MethodName) "CutBodies"), (Jvm.Cond.fieldLinkNest "CutBodies" (88 : Nat) "CutBodies$Body" "pointCount" "I" "CutBodies"), (Jvm.Cond.fieldLinkNest "CutBodies" (107 : Nat) "CutBodies$Contents" "origin" "[I" "CutBodies"), (Jvm.Cond.fieldLinkNest "CutBodies" (110 : Nat) "CutBodies$Contents" "turned" "[I" "CutBodies"), (Jvm.Cond.fieldLinkNest "CutBodies" (119 : Nat) "CutBodies$Body" "planeCount" "I" "CutBodies")]
def nestZ (U : State) : Prop := ∀ w ∈ nestWs, va_Nw w U
theorem nz {U : State} {A : Array Value} {w : Cond} (h : nestZ U) (hw : w ∈ nestWs) (ho : w.onTables = true := by rfl) : w.before A U = true := va_Nw.use ho (h w hw)
theorem nestZ.same {u U : State} (h : u.vm = U.vm) (hZ : nestZ u) : nestZ U := by
  intro w hw
  have h1 := hZ w hw
  simp only [nestWs, List.mem_cons, List.not_mem_nil, or_false] at hw
  rcases hw with rfl | rfl | rfl | rfl | rfl <;> exact va_Nw.same rfl h h1
theorem nestZ.warm {s U : State} (hW : s.WarmedH U.vm) (hZ : nestZ s) : nestZ U := by
  intro w hw
  have h1 := hZ w hw
  simp only [nestWs, List.mem_cons, List.not_mem_nil, or_false] at hw
  rcases hw with rfl | rfl | rfl | rfl | rfl
  · exact va_Nw.warmM hW h1
  · exact va_Nw.warmF hW h1
  · exact va_Nw.warmF hW h1
  · exact va_Nw.warmF hW h1
  · exact va_Nw.warmF hW h1
abbrev b_W_xGoesTo : ByteArray := prog_4_method_2_code
abbrev y_W_xGoesTo : MethodName := ⟨"CutBodies$Ways", "xGoesTo", "(I)I"⟩
abbrev w_W_xGoesTo : List Cond := .code y_W_xGoesTo b_W_xGoesTo 1 (some .int) :: wAll
abbrev b_W_yGoesTo : ByteArray := prog_4_method_3_code
abbrev y_W_yGoesTo : MethodName := ⟨"CutBodies$Ways", "yGoesTo", "(I)I"⟩
abbrev w_W_yGoesTo : List Cond := .code y_W_yGoesTo b_W_yGoesTo 3 (some .int) :: wAll
abbrev b_W_zGoesTo : ByteArray := prog_4_method_4_code
abbrev y_W_zGoesTo : MethodName := ⟨"CutBodies$Ways", "zGoesTo", "(I)I"⟩
abbrev w_W_zGoesTo : List Cond := .code y_W_zGoesTo b_W_zGoesTo 5 (some .int) :: wAll
abbrev b_W_numberOf : ByteArray := prog_4_method_5_code
abbrev y_W_numberOf : MethodName := ⟨"CutBodies$Ways", "numberOf", "(II)I"⟩
abbrev w_W_numberOf : List Cond := .code y_W_numberOf b_W_numberOf 2 (some .int) :: wAll
abbrev b_W_directionTo : ByteArray := prog_4_method_6_code
abbrev y_W_directionTo : MethodName := ⟨"CutBodies$Ways", "directionTo", "(II)I"⟩
abbrev w_W_directionTo : List Cond := .code y_W_directionTo b_W_directionTo 4 (some .int) :: wAll
abbrev b_W_compose : ByteArray := prog_4_method_7_code
abbrev y_W_compose : MethodName := ⟨"CutBodies$Ways", "compose", "(II)I"⟩
abbrev w_W_compose : List Cond := .code y_W_compose b_W_compose 2 (some .int) :: wAll
abbrev b_W_orderOf : ByteArray := prog_4_method_8_code
abbrev y_W_orderOf : MethodName := ⟨"CutBodies$Ways", "orderOf", "(I)I"⟩
abbrev w_W_orderOf : List Cond := .code y_W_orderOf b_W_orderOf 3 (some .int) :: wAll
abbrev b_W_part : ByteArray := prog_4_method_10_code
abbrev y_W_part : MethodName := ⟨"CutBodies$Ways", "part", "(III)I"⟩
abbrev w_W_part : List Cond := .code y_W_part b_W_part 3 (some .int) :: wAll
abbrev b_W_coordinate : ByteArray := prog_4_method_9_code
abbrev y_W_coordinate : MethodName := ⟨"CutBodies$Ways", "coordinate", "(IIIII)I"⟩
abbrev w_W_coordinate : List Cond := .code y_W_coordinate b_W_coordinate 5 (some .int) :: wAll
abbrev b_W_directionOf : ByteArray := prog_4_method_12_code
abbrev y_W_directionOf : MethodName := ⟨"CutBodies$Ways", "directionOf", "(III)I"⟩
abbrev w_W_directionOf : List Cond := .code y_W_directionOf b_W_directionOf 3 (some .int) :: wAll
abbrev b_W_stepAbout : ByteArray := prog_4_method_11_code
abbrev y_W_stepAbout : MethodName := ⟨"CutBodies$Ways", "stepAbout", "(III)I"⟩
abbrev w_W_stepAbout : List Cond := .code y_W_stepAbout b_W_stepAbout 9 (some .int) :: wAll
abbrev b_X_isWithin : ByteArray := prog_1_method_21_code
abbrev y_X_isWithin : MethodName := ⟨"CutBodies", "isWithin", "(II)Z"⟩
abbrev w_X_isWithin : List Cond := .code y_X_isWithin b_X_isWithin 2 (some .boolean) :: wAll
abbrev b_B_hasPoint : ByteArray := prog_2_method_2_code
abbrev y_B_hasPoint : MethodName := ⟨"CutBodies$Body", "hasPoint", "(I)Z"⟩
abbrev w_B_hasPoint : List Cond := .code y_B_hasPoint b_B_hasPoint 2 (some .boolean) :: wAll
abbrev b_B_hasPlane : ByteArray := prog_2_method_3_code
abbrev y_B_hasPlane : MethodName := ⟨"CutBodies$Body", "hasPlane", "(I)Z"⟩
abbrev w_B_hasPlane : List Cond := .code y_B_hasPlane b_B_hasPlane 2 (some .boolean) :: wAll
abbrev b_B_pointAt : ByteArray := prog_2_method_8_code
abbrev y_B_pointAt : MethodName := ⟨"CutBodies$Body", "pointAt", "(III)I"⟩
abbrev w_B_pointAt : List Cond := .code y_B_pointAt b_B_pointAt 5 (some .int) :: wAll
abbrev b_B_sideOf : ByteArray := prog_2_method_7_code
abbrev y_B_sideOf : MethodName := ⟨"CutBodies$Body", "sideOf", "(II)I"⟩
abbrev w_B_sideOf : List Cond := .code y_B_sideOf b_B_sideOf 3 (some .int) :: wAll
abbrev b_B_imageOf : ByteArray := prog_2_method_9_code
abbrev y_B_imageOf : MethodName := ⟨"CutBodies$Body", "imageOf", "(II)I"⟩
abbrev w_B_imageOf : List Cond := .code y_B_imageOf b_B_imageOf 6 (some .int) :: wAll
abbrev b_B_leastAlike : ByteArray := prog_2_method_10_code
abbrev y_B_leastAlike : MethodName := ⟨"CutBodies$Body", "leastAlike", "(I)I"⟩
abbrev w_B_leastAlike : List Cond := .code y_B_leastAlike b_B_leastAlike 3 (some .int) :: wAll
abbrev b_B_piecesBefore : ByteArray := prog_2_method_11_code
abbrev y_B_piecesBefore : MethodName := ⟨"CutBodies$Body", "piecesBefore", "(I)I"⟩
abbrev w_B_piecesBefore : List Cond := .code y_B_piecesBefore b_B_piecesBefore 4 (some .int) :: wAll
abbrev b_B_takesPointsToPoints : ByteArray := prog_2_method_12_code
abbrev y_B_takesPointsToPoints : MethodName := ⟨"CutBodies$Body", "takesPointsToPoints", "(I)Z"⟩
abbrev w_B_takesPointsToPoints : List Cond := .code y_B_takesPointsToPoints b_B_takesPointsToPoints 3 (some .boolean) :: wAll
abbrev b_B_isSamePlane : ByteArray := prog_2_method_15_code
abbrev y_B_isSamePlane : MethodName := ⟨"CutBodies$Body", "isSamePlane", "(IIIII)Z"⟩
abbrev w_B_isSamePlane : List Cond := .code y_B_isSamePlane b_B_isSamePlane 6 (some .boolean) :: wAll
abbrev b_B_hasPlaneWhere : ByteArray := prog_2_method_14_code
abbrev y_B_hasPlaneWhere : MethodName := ⟨"CutBodies$Body", "hasPlaneWhere", "(IIII)Z"⟩
abbrev w_B_hasPlaneWhere : List Cond := .code y_B_hasPlaneWhere b_B_hasPlaneWhere 6 (some .boolean) :: wAll
abbrev b_B_takesPlanesToPlanes : ByteArray := prog_2_method_13_code
abbrev y_B_takesPlanesToPlanes : MethodName := ⟨"CutBodies$Body", "takesPlanesToPlanes", "(I)Z"⟩
abbrev w_B_takesPlanesToPlanes : List Cond := .code y_B_takesPlanesToPlanes b_B_takesPlanesToPlanes 6 (some .boolean) :: wAll
abbrev b_B_noteSide : ByteArray := prog_2_method_6_code
abbrev y_B_noteSide : MethodName := ⟨"CutBodies$Body", "noteSide", "(II)V"⟩
abbrev w_B_noteSide : List Cond := .code y_B_noteSide b_B_noteSide 6 none :: wAll
abbrev b_B_addPoint : ByteArray := prog_2_method_4_code
abbrev y_B_addPoint : MethodName := ⟨"CutBodies$Body", "addPoint", "(III)I"⟩
abbrev w_B_addPoint : List Cond := .code y_B_addPoint b_B_addPoint 6 (some .int) :: wAll
abbrev b_B_addPlane : ByteArray := prog_2_method_5_code
abbrev y_B_addPlane : MethodName := ⟨"CutBodies$Body", "addPlane", "(IIII)I"⟩
abbrev w_B_addPlane : List Cond := .code y_B_addPlane b_B_addPlane 7 (some .int) :: wAll
abbrev b_A_fill : ByteArray := prog_8_method_103_code
abbrev y_A_fill : MethodName := ⟨"java/util/Arrays", "fill", "([II)V"⟩
abbrev w_A_fill : List Cond := .code y_A_fill b_A_fill 4 none :: wAll
abbrev b_C_putAllHome : ByteArray := prog_3_method_2_code
abbrev y_C_putAllHome : MethodName := ⟨"CutBodies$Contents", "putAllHome", "()V"⟩
abbrev w_C_putAllHome : List Cond := .code y_C_putAllHome b_C_putAllHome 2 none :: wAll
abbrev b_C_copyFrom : ByteArray := prog_3_method_3_code
abbrev y_C_copyFrom : MethodName := ⟨"CutBodies$Contents", "copyFrom", "(LCutBodies$Contents;)V"⟩
abbrev w_C_copyFrom : List Cond := .code y_C_copyFrom b_C_copyFrom 2 none :: wAll
abbrev b_C_rowsUntilBackAt : ByteArray := prog_3_method_4_code
abbrev y_C_rowsUntilBackAt : MethodName := ⟨"CutBodies$Contents", "rowsUntilBackAt", "(I)I"⟩
abbrev w_C_rowsUntilBackAt : List Cond := .code y_C_rowsUntilBackAt b_C_rowsUntilBackAt 5 (some .int) :: wAll
abbrev b_X_commonMultiple : ByteArray := prog_1_method_25_code
abbrev y_X_commonMultiple : MethodName := ⟨"CutBodies", "commonMultiple", "(II)I"⟩
abbrev w_X_commonMultiple : List Cond := .code y_X_commonMultiple b_X_commonMultiple 3 (some .int) :: wAll
abbrev b_X_hasAxis : ByteArray := prog_1_method_20_code
abbrev y_X_hasAxis : MethodName := ⟨"CutBodies", "hasAxis", "(I)Z"⟩
abbrev w_X_hasAxis : List Cond := .code y_X_hasAxis b_X_hasAxis 2 (some .boolean) :: wAll
abbrev b_X_order : ByteArray := prog_1_method_6_code
abbrev y_X_order : MethodName := ⟨"CutBodies", "order", "(I)I"⟩
abbrev w_X_order : List Cond := .code y_X_order b_X_order 2 (some .int) :: wAll
abbrev b_X_side : ByteArray := prog_1_method_7_code
abbrev y_X_side : MethodName := ⟨"CutBodies", "side", "(II)I"⟩
abbrev w_X_side : List Cond := .code y_X_side b_X_side 3 (some .int) :: wAll
abbrev b_X_pieces : ByteArray := prog_1_method_8_code
abbrev y_X_pieces : MethodName := ⟨"CutBodies", "pieces", "()I"⟩
abbrev w_X_pieces : List Cond := .code y_X_pieces b_X_pieces 1 (some .int) :: wAll
abbrev b_X_piece : ByteArray := prog_1_method_9_code
abbrev y_X_piece : MethodName := ⟨"CutBodies", "piece", "(I)I"⟩
abbrev w_X_piece : List Cond := .code y_X_piece b_X_piece 2 (some .int) :: wAll
abbrev b_X_image : ByteArray := prog_1_method_10_code
abbrev y_X_image : MethodName := ⟨"CutBodies", "image", "(II)I"⟩
abbrev w_X_image : List Cond := .code y_X_image b_X_image 3 (some .int) :: wAll
abbrev b_X_at : ByteArray := prog_1_method_12_code
abbrev y_X_at : MethodName := ⟨"CutBodies", "at", "(I)I"⟩
abbrev w_X_at : List Cond := .code y_X_at b_X_at 2 (some .int) :: wAll
abbrev b_X_way : ByteArray := prog_1_method_13_code
abbrev y_X_way : MethodName := ⟨"CutBodies", "way", "(I)I"⟩
abbrev w_X_way : List Cond := .code y_X_way b_X_way 2 (some .int) :: wAll
abbrev b_X_home : ByteArray := prog_1_method_14_code
abbrev y_X_home : MethodName := ⟨"CutBodies", "home", "()I"⟩
abbrev w_X_home : List Cond := .code y_X_home b_X_home 3 (some .int) :: wAll
abbrev b_X_maps : ByteArray := prog_1_method_15_code
abbrev y_X_maps : MethodName := ⟨"CutBodies", "maps", "(I)Z"⟩
abbrev w_X_maps : List Cond := .code y_X_maps b_X_maps 2 (some .boolean) :: wAll
abbrev b_X_rowsUntilBack : ByteArray := prog_1_method_24_code
abbrev y_X_rowsUntilBack : MethodName := ⟨"CutBodies", "rowsUntilBack", "()I"⟩
abbrev w_X_rowsUntilBack : List Cond := .code y_X_rowsUntilBack b_X_rowsUntilBack 3 (some .int) :: wAll
abbrev b_X_findTargets : ByteArray := prog_1_method_22_code
abbrev y_X_findTargets : MethodName := ⟨"CutBodies", "findTargets", "(II)I"⟩
abbrev w_X_findTargets : List Cond := .code y_X_findTargets b_X_findTargets 5 (some .int) :: wAll
abbrev b_X_turnByTargets : ByteArray := prog_1_method_23_code
abbrev y_X_turnByTargets : MethodName := ⟨"CutBodies", "turnByTargets", "(LCutBodies$Contents;I)V"⟩
abbrev w_X_turnByTargets : List Cond := .code y_X_turnByTargets b_X_turnByTargets 5 none :: wAll
abbrev b_X_plane : ByteArray := prog_1_method_4_code
abbrev y_X_plane : MethodName := ⟨"CutBodies", "plane", "(IIII)I"⟩
abbrev w_X_plane : List Cond := .code y_X_plane b_X_plane 5 (some .int) :: wAll
abbrev b_X_axis : ByteArray := prog_1_method_5_code
abbrev y_X_axis : MethodName := ⟨"CutBodies", "axis", "(III)I"⟩
abbrev w_X_axis : List Cond := .code y_X_axis b_X_axis 4 (some .int) :: wAll
abbrev b_X_point : ByteArray := prog_1_method_2_code
abbrev y_X_point : MethodName := ⟨"CutBodies", "point", "(III)I"⟩
abbrev w_X_point : List Cond := .code y_X_point b_X_point 5 (some .int) :: wAll
abbrev b_X_cycle : ByteArray := prog_1_method_16_code
abbrev y_X_cycle : MethodName := ⟨"CutBodies", "cycle", "(III)I"⟩
abbrev w_X_cycle : List Cond := .code y_X_cycle b_X_cycle 6 (some .int) :: wAll
abbrev b_X_turn : ByteArray := prog_1_method_11_code
abbrev y_X_turn : MethodName := ⟨"CutBodies", "turn", "(III)I"⟩
abbrev w_X_turn : List Cond := .code y_X_turn b_X_turn 6 (some .int) :: wAll
abbrev b_X_rounds : ByteArray := prog_1_method_17_code
abbrev y_X_rounds : MethodName := ⟨"CutBodies", "rounds", "(I)I"⟩
abbrev w_X_rounds : List Cond := .code y_X_rounds b_X_rounds 3 (some .int) :: wAll
abbrev b_X_cube : ByteArray := prog_1_method_3_code
abbrev y_X_cube : MethodName := ⟨"CutBodies", "cube", "(I)I"⟩
abbrev w_X_cube : List Cond := .code y_X_cube b_X_cube 6 (some .int) :: wAll
abbrev b_M_isSmall : ByteArray := prog_6_method_8_code
abbrev y_M_isSmall : MethodName := ⟨"CutBodiesModel", "isSmall", "(I)Z"⟩
abbrev w_M_isSmall : List Cond := .code y_M_isSmall b_M_isSmall 1 (some .boolean) :: wAll
abbrev b_M_isArrow : ByteArray := prog_6_method_13_code
abbrev y_M_isArrow : MethodName := ⟨"CutBodiesModel", "isArrow", "(I)Z"⟩
abbrev w_M_isArrow : List Cond := .code y_M_isArrow b_M_isArrow 1 (some .boolean) :: wAll
abbrev b_M_arrow : ByteArray := prog_6_method_27_code
abbrev y_M_arrow : MethodName := ⟨"CutBodiesModel", "arrow", "(II)I"⟩
abbrev w_M_arrow : List Cond := .code y_M_arrow b_M_arrow 2 (some .int) :: wAll
abbrev b_M_arrowOf : ByteArray := prog_6_method_28_code
abbrev y_M_arrowOf : MethodName := ⟨"CutBodiesModel", "arrowOf", "(III)I"⟩
abbrev w_M_arrowOf : List Cond := .code y_M_arrowOf b_M_arrowOf 3 (some .int) :: wAll
abbrev b_M_wayOf : ByteArray := prog_6_method_29_code
abbrev y_M_wayOf : MethodName := ⟨"CutBodiesModel", "wayOf", "(II)I"⟩
abbrev w_M_wayOf : List Cond := .code y_M_wayOf b_M_wayOf 4 (some .int) :: wAll
abbrev b_M_secondOf : ByteArray := prog_6_method_30_code
abbrev y_M_secondOf : MethodName := ⟨"CutBodiesModel", "secondOf", "(I)I"⟩
abbrev w_M_secondOf : List Cond := .code y_M_secondOf b_M_secondOf 4 (some .int) :: wAll
abbrev b_M_isCross : ByteArray := prog_6_method_40_code
abbrev y_M_isCross : MethodName := ⟨"CutBodiesModel", "isCross", "(IIII)Z"⟩
abbrev w_M_isCross : List Cond := .code y_M_isCross b_M_isCross 4 (some .boolean) :: wAll
abbrev b_M_isPoint : ByteArray := prog_6_method_3_code
abbrev y_M_isPoint : MethodName := ⟨"CutBodiesModel", "isPoint", "(I)Z"⟩
abbrev w_M_isPoint : List Cond := .code y_M_isPoint b_M_isPoint 2 (some .boolean) :: wAll
abbrev b_M_isPlane : ByteArray := prog_6_method_4_code
abbrev y_M_isPlane : MethodName := ⟨"CutBodiesModel", "isPlane", "(I)Z"⟩
abbrev w_M_isPlane : List Cond := .code y_M_isPlane b_M_isPlane 2 (some .boolean) :: wAll
abbrev b_M_isAxis : ByteArray := prog_6_method_5_code
abbrev y_M_isAxis : MethodName := ⟨"CutBodiesModel", "isAxis", "(I)Z"⟩
abbrev w_M_isAxis : List Cond := .code y_M_isAxis b_M_isAxis 2 (some .boolean) :: wAll
abbrev b_M_pointAt : ByteArray := prog_6_method_6_code
abbrev y_M_pointAt : MethodName := ⟨"CutBodiesModel", "pointAt", "(III)I"⟩
abbrev w_M_pointAt : List Cond := .code y_M_pointAt b_M_pointAt 5 (some .int) :: wAll
abbrev b_M_kind : ByteArray := prog_6_method_15_code
abbrev y_M_kind : MethodName := ⟨"CutBodiesModel", "kind", "(I)I"⟩
abbrev w_M_kind : List Cond := .code y_M_kind b_M_kind 4 (some .int) :: wAll
abbrev b_M_sideOf : ByteArray := prog_6_method_20_code
abbrev y_M_sideOf : MethodName := ⟨"CutBodiesModel", "sideOf", "(II)I"⟩
abbrev w_M_sideOf : List Cond := .code y_M_sideOf b_M_sideOf 4 (some .int) :: wAll
abbrev b_M_isAlike : ByteArray := prog_6_method_22_code
abbrev y_M_isAlike : MethodName := ⟨"CutBodiesModel", "isAlike", "(II)Z"⟩
abbrev w_M_isAlike : List Cond := .code y_M_isAlike b_M_isAlike 4 (some .boolean) :: wAll
abbrev b_M_leastOf : ByteArray := prog_6_method_23_code
abbrev y_M_leastOf : MethodName := ⟨"CutBodiesModel", "leastOf", "(I)I"⟩
abbrev w_M_leastOf : List Cond := .code y_M_leastOf b_M_leastOf 3 (some .int) :: wAll
abbrev b_M_piecesTo : ByteArray := prog_6_method_24_code
abbrev y_M_piecesTo : MethodName := ⟨"CutBodiesModel", "piecesTo", "(I)I"⟩
abbrev w_M_piecesTo : List Cond := .code y_M_piecesTo b_M_piecesTo 4 (some .int) :: wAll
abbrev b_M_isNow : ByteArray := prog_6_method_44_code
abbrev y_M_isNow : MethodName := ⟨"CutBodiesModel", "isNow", "()Z"⟩
abbrev w_M_isNow : List Cond := .code y_M_isNow b_M_isNow 2 (some .boolean) :: wAll
abbrev b_M_own : ByteArray := prog_6_method_7_code
abbrev y_M_own : MethodName := ⟨"CutBodiesModel", "own", "()V"⟩
abbrev w_M_own : List Cond := .code y_M_own b_M_own 2 none :: wAll
abbrev b_M_add : ByteArray := prog_6_method_9_code
abbrev y_M_add : MethodName := ⟨"CutBodiesModel", "add", "(III)Z"⟩
abbrev w_M_add : List Cond := .code y_M_add b_M_add 4 (some .boolean) :: wAll
abbrev b_M_step : ByteArray := prog_6_method_17_code
abbrev y_M_step : MethodName := ⟨"CutBodiesModel", "step", "(IIII)V"⟩
abbrev w_M_step : List Cond := .code y_M_step b_M_step 13 none :: wAll
abbrev b_M_imageOf : ByteArray := prog_6_method_18_code
abbrev y_M_imageOf : MethodName := ⟨"CutBodiesModel", "imageOf", "(II)I"⟩
abbrev w_M_imageOf : List Cond := .code y_M_imageOf b_M_imageOf 3 (some .int) :: wAll
abbrev b_M_taken : ByteArray := prog_6_method_31_code
abbrev y_M_taken : MethodName := ⟨"CutBodiesModel", "taken", "(II)I"⟩
abbrev w_M_taken : List Cond := .code y_M_taken b_M_taken 3 (some .int) :: wAll
abbrev b_M_wayBehind : ByteArray := prog_6_method_32_code
abbrev y_M_wayBehind : MethodName := ⟨"CutBodiesModel", "wayBehind", "(II)I"⟩
abbrev w_M_wayBehind : List Cond := .code y_M_wayBehind b_M_wayBehind 3 (some .int) :: wAll
abbrev b_M_blocked : ByteArray := prog_6_method_33_code
abbrev y_M_blocked : MethodName := ⟨"CutBodiesModel", "blocked", "(II)I"⟩
abbrev w_M_blocked : List Cond := .code y_M_blocked b_M_blocked 5 (some .int) :: wAll
abbrev b_M_plan : ByteArray := prog_6_method_34_code
abbrev y_M_plan : MethodName := ⟨"CutBodiesModel", "plan", "(III)V"⟩
abbrev w_M_plan : List Cond := .code y_M_plan b_M_plan 5 none :: wAll
abbrev b_M_turnOnce : ByteArray := prog_6_method_35_code
abbrev y_M_turnOnce : MethodName := ⟨"CutBodiesModel", "turnOnce", "(II)V"⟩
abbrev w_M_turnOnce : List Cond := .code y_M_turnOnce b_M_turnOnce 5 none :: wAll
abbrev b_M_isThere : ByteArray := prog_6_method_41_code
abbrev y_M_isThere : MethodName := ⟨"CutBodiesModel", "isThere", "(II)Z"⟩
abbrev w_M_isThere : List Cond := .code y_M_isThere b_M_isThere 9 (some .boolean) :: wAll
abbrev b_M_order : ByteArray := prog_6_method_16_code
abbrev y_M_order : MethodName := ⟨"CutBodiesModel", "order", "(I)I"⟩
abbrev w_M_order : List Cond := .code y_M_order b_M_order 2 (some .int) :: wAll
abbrev b_M_side : ByteArray := prog_6_method_21_code
abbrev y_M_side : MethodName := ⟨"CutBodiesModel", "side", "(II)I"⟩
abbrev w_M_side : List Cond := .code y_M_side b_M_side 3 (some .int) :: wAll
abbrev b_M_pieces : ByteArray := prog_6_method_25_code
abbrev y_M_pieces : MethodName := ⟨"CutBodiesModel", "pieces", "()I"⟩
abbrev w_M_pieces : List Cond := .code y_M_pieces b_M_pieces 1 (some .int) :: wAll
abbrev b_M_piece : ByteArray := prog_6_method_26_code
abbrev y_M_piece : MethodName := ⟨"CutBodiesModel", "piece", "(I)I"⟩
abbrev w_M_piece : List Cond := .code y_M_piece b_M_piece 2 (some .int) :: wAll
abbrev b_M_image : ByteArray := prog_6_method_19_code
abbrev y_M_image : MethodName := ⟨"CutBodiesModel", "image", "(II)I"⟩
abbrev w_M_image : List Cond := .code y_M_image b_M_image 3 (some .int) :: wAll
abbrev b_M_at : ByteArray := prog_6_method_37_code
abbrev y_M_at : MethodName := ⟨"CutBodiesModel", "at", "(I)I"⟩
abbrev w_M_at : List Cond := .code y_M_at b_M_at 2 (some .int) :: wAll
abbrev b_M_way : ByteArray := prog_6_method_38_code
abbrev y_M_way : MethodName := ⟨"CutBodiesModel", "way", "(I)I"⟩
abbrev w_M_way : List Cond := .code y_M_way b_M_way 2 (some .int) :: wAll
abbrev b_M_home : ByteArray := prog_6_method_39_code
abbrev y_M_home : MethodName := ⟨"CutBodiesModel", "home", "()I"⟩
abbrev w_M_home : List Cond := .code y_M_home b_M_home 3 (some .int) :: wAll
abbrev b_M_maps : ByteArray := prog_6_method_42_code
abbrev y_M_maps : MethodName := ⟨"CutBodiesModel", "maps", "(I)Z"⟩
abbrev w_M_maps : List Cond := .code y_M_maps b_M_maps 3 (some .boolean) :: wAll
abbrev b_M_cycle : ByteArray := prog_6_method_43_code
abbrev y_M_cycle : MethodName := ⟨"CutBodiesModel", "cycle", "(III)I"⟩
abbrev w_M_cycle : List Cond := .code y_M_cycle b_M_cycle 6 (some .int) :: wAll
abbrev b_M_plane : ByteArray := prog_6_method_12_code
abbrev y_M_plane : MethodName := ⟨"CutBodiesModel", "plane", "(IIII)I"⟩
abbrev w_M_plane : List Cond := .code y_M_plane b_M_plane 5 (some .int) :: wAll
abbrev b_M_axis : ByteArray := prog_6_method_14_code
abbrev y_M_axis : MethodName := ⟨"CutBodiesModel", "axis", "(III)I"⟩
abbrev w_M_axis : List Cond := .code y_M_axis b_M_axis 4 (some .int) :: wAll
abbrev b_M_point : ByteArray := prog_6_method_10_code
abbrev y_M_point : MethodName := ⟨"CutBodiesModel", "point", "(III)I"⟩
abbrev w_M_point : List Cond := .code y_M_point b_M_point 4 (some .int) :: wAll
abbrev b_M_cube : ByteArray := prog_6_method_11_code
abbrev y_M_cube : MethodName := ⟨"CutBodiesModel", "cube", "(I)I"⟩
abbrev w_M_cube : List Cond := .code y_M_cube b_M_cube 6 (some .int) :: wAll
abbrev b_M_turn : ByteArray := prog_6_method_36_code
abbrev y_M_turn : MethodName := ⟨"CutBodiesModel", "turn", "(III)I"⟩
abbrev w_M_turn : List Cond := .code y_M_turn b_M_turn 6 (some .int) :: wAll
abbrev b_M_rounds : ByteArray := prog_6_method_45_code
abbrev y_M_rounds : MethodName := ⟨"CutBodiesModel", "rounds", "(I)I"⟩
abbrev w_M_rounds : List Cond := .code y_M_rounds b_M_rounds 5 (some .int) :: wAll
abbrev b_M_keep : ByteArray := prog_6_method_46_code
abbrev y_M_keep : MethodName := ⟨"CutBodiesModel", "keep", "()I"⟩
abbrev w_M_keep : List Cond := .code y_M_keep b_M_keep 2 (some .int) :: wAll
abbrev b_M_back : ByteArray := prog_6_method_47_code
abbrev y_M_back : MethodName := ⟨"CutBodiesModel", "back", "(I)Z"⟩
abbrev w_M_back : List Cond := .code y_M_back b_M_back 3 (some .boolean) :: wAll
end
section
/-! pure functions that the bytecode is turned into: checks, names, calls, loops -/
def inB (i : Int32) (n : Nat) : Bool := decide (¬ (i < 0 ∨ n ≤ i.toNatClampNeg))
theorem inB_in {i : Int32} {n : Nat} (h : inB i n = true) : vp_in i n := by unfold inB at h; have h1 := of_decide_eq_true h; exact h1
theorem inB_of {i : Int32} {n : Nat} (h : vp_in i n) : inB i n = true := by have h1 : ¬ (i < 0 ∨ n ≤ i.toNatClampNeg) := h; unfold inB; exact decide_eq_true h1
def oIn {ρ : Type} (i : Int32) (n : Nat) (k : Option ρ) : Option ρ := if inB i n = true then k else none
theorem oIn_some {ρ : Type} {i : Int32} {n : Nat} {k : Option ρ} {r : ρ} (h : oIn i n k = some r) : vp_in i n ∧ k = some r := by
  unfold oIn at h; split at h
  · rename_i hc; exact ⟨inB_in hc, h⟩
  · cases h
theorem oIn_t {ρ : Type} {i : Int32} {n : Nat} {k : Option ρ} (h : vp_in i n) : oIn i n k = k := by unfold oIn; rw [if_pos (inB_of h)]
def oNz {ρ : Type} (y : Int32) (k : Option ρ) : Option ρ := if y = 0 then none else k
theorem oNz_some {ρ : Type} {y : Int32} {k : Option ρ} {r : ρ} (h : oNz y k = some r) : ¬ y = 0 ∧ k = some r := by
  unfold oNz at h; split at h
  · cases h
  · rename_i hc; exact ⟨hc, h⟩
theorem oNz_t {ρ : Type} {y : Int32} {k : Option ρ} (h : ¬ y = 0) : oNz y k = k := by unfold oNz; rw [if_neg h]
def oLet {α ρ : Type} (e : α) (k : α → Option ρ) : Option ρ := k e
theorem oLet_some {α ρ : Type} {e v : α} {k : α → Option ρ} {r : ρ} (h : oLet e k = some r) (ev : v = e) : k v = some r := by rw [ev]; exact h
theorem oLet_ex {α ρ : Type} {e : α} {k : α → Option ρ} {r : ρ} (h : oLet e k = some r) : ∃ v, v = e ∧ k v = some r := ⟨e, rfl, h⟩
theorem oIf_t {ρ : Type} {c : Prop} [Decidable c] {a b : Option ρ} {r : ρ} (h : (if c then a else b) = some r) (hc : c) : a = some r := by rw [if_pos hc] at h; exact h
theorem oIf_f {ρ : Type} {c : Prop} [Decidable c] {a b : Option ρ} {r : ρ} (h : (if c then a else b) = some r) (hc : ¬ c) : b = some r := by rw [if_neg hc] at h; exact h
def oCall0 {ρ : Type} (x : Option Unit) (k : Option ρ) : Option ρ := match x with | none => none | some _ => k
theorem oCall0_some {ρ : Type} {x : Option Unit} {k : Option ρ} {r : ρ} (h : oCall0 x k = some r) : x = some () ∧ k = some r := by cases x with | none => cases h | some a => exact ⟨rfl, h⟩
def oCall1 {ρ α1 : Type} (x : Option (α1)) (k : α1 → Option ρ) : Option ρ := match x with | none => none | some (a1) => k a1
theorem oCall1_some {ρ α1 : Type} {x : Option (α1)} {k : α1 → Option ρ} {r : ρ} (h : oCall1 x k = some r) : ∃ a1, x = some (a1) ∧ k a1 = some r := by cases x with | none => cases h | some z => exact ⟨z, rfl, h⟩
def oCall2 {ρ α1 α2 : Type} (x : Option (α1 × α2)) (k : α1 → α2 → Option ρ) : Option ρ := match x with | none => none | some (a1, a2) => k a1 a2
theorem oCall2_some {ρ α1 α2 : Type} {x : Option (α1 × α2)} {k : α1 → α2 → Option ρ} {r : ρ} (h : oCall2 x k = some r) : ∃ a1 a2, x = some (a1, a2) ∧ k a1 a2 = some r := by cases x with | none => cases h | some z => exact ⟨z.1, z.2, rfl, h⟩
def oCall3 {ρ α1 α2 α3 : Type} (x : Option (α1 × α2 × α3)) (k : α1 → α2 → α3 → Option ρ) : Option ρ := match x with | none => none | some (a1, a2, a3) => k a1 a2 a3
theorem oCall3_some {ρ α1 α2 α3 : Type} {x : Option (α1 × α2 × α3)} {k : α1 → α2 → α3 → Option ρ} {r : ρ} (h : oCall3 x k = some r) : ∃ a1 a2 a3, x = some (a1, a2, a3) ∧ k a1 a2 a3 = some r := by cases x with | none => cases h | some z => exact ⟨z.1, z.2.1, z.2.2, rfl, h⟩
def oCall4 {ρ α1 α2 α3 α4 : Type} (x : Option (α1 × α2 × α3 × α4)) (k : α1 → α2 → α3 → α4 → Option ρ) : Option ρ := match x with | none => none | some (a1, a2, a3, a4) => k a1 a2 a3 a4
theorem oCall4_some {ρ α1 α2 α3 α4 : Type} {x : Option (α1 × α2 × α3 × α4)} {k : α1 → α2 → α3 → α4 → Option ρ} {r : ρ} (h : oCall4 x k = some r) : ∃ a1 a2 a3 a4, x = some (a1, a2, a3, a4) ∧ k a1 a2 a3 a4 = some r := by cases x with | none => cases h | some z => exact ⟨z.1, z.2.1, z.2.2.1, z.2.2.2, rfl, h⟩
def oCall5 {ρ α1 α2 α3 α4 α5 : Type} (x : Option (α1 × α2 × α3 × α4 × α5)) (k : α1 → α2 → α3 → α4 → α5 → Option ρ) : Option ρ := match x with | none => none | some (a1, a2, a3, a4, a5) => k a1 a2 a3 a4 a5
theorem oCall5_some {ρ α1 α2 α3 α4 α5 : Type} {x : Option (α1 × α2 × α3 × α4 × α5)} {k : α1 → α2 → α3 → α4 → α5 → Option ρ} {r : ρ} (h : oCall5 x k = some r) : ∃ a1 a2 a3 a4 a5, x = some (a1, a2, a3, a4, a5) ∧ k a1 a2 a3 a4 a5 = some r := by cases x with | none => cases h | some z => exact ⟨z.1, z.2.1, z.2.2.1, z.2.2.2.1, z.2.2.2.2, rfl, h⟩
def oCall6 {ρ α1 α2 α3 α4 α5 α6 : Type} (x : Option (α1 × α2 × α3 × α4 × α5 × α6)) (k : α1 → α2 → α3 → α4 → α5 → α6 → Option ρ) : Option ρ := match x with | none => none | some (a1, a2, a3, a4, a5, a6) => k a1 a2 a3 a4 a5 a6
theorem oCall6_some {ρ α1 α2 α3 α4 α5 α6 : Type} {x : Option (α1 × α2 × α3 × α4 × α5 × α6)} {k : α1 → α2 → α3 → α4 → α5 → α6 → Option ρ} {r : ρ} (h : oCall6 x k = some r) : ∃ a1 a2 a3 a4 a5 a6, x = some (a1, a2, a3, a4, a5, a6) ∧ k a1 a2 a3 a4 a5 a6 = some r := by cases x with | none => cases h | some z => exact ⟨z.1, z.2.1, z.2.2.1, z.2.2.2.1, z.2.2.2.2.1, z.2.2.2.2.2, rfl, h⟩
def oCall7 {ρ α1 α2 α3 α4 α5 α6 α7 : Type} (x : Option (α1 × α2 × α3 × α4 × α5 × α6 × α7)) (k : α1 → α2 → α3 → α4 → α5 → α6 → α7 → Option ρ) : Option ρ := match x with | none => none | some (a1, a2, a3, a4, a5, a6, a7) => k a1 a2 a3 a4 a5 a6 a7
theorem oCall7_some {ρ α1 α2 α3 α4 α5 α6 α7 : Type} {x : Option (α1 × α2 × α3 × α4 × α5 × α6 × α7)} {k : α1 → α2 → α3 → α4 → α5 → α6 → α7 → Option ρ} {r : ρ} (h : oCall7 x k = some r) : ∃ a1 a2 a3 a4 a5 a6 a7, x = some (a1, a2, a3, a4, a5, a6, a7) ∧ k a1 a2 a3 a4 a5 a6 a7 = some r := by cases x with | none => cases h | some z => exact ⟨z.1, z.2.1, z.2.2.1, z.2.2.2.1, z.2.2.2.2.1, z.2.2.2.2.2.1, z.2.2.2.2.2.2, rfl, h⟩
def oCall8 {ρ α1 α2 α3 α4 α5 α6 α7 α8 : Type} (x : Option (α1 × α2 × α3 × α4 × α5 × α6 × α7 × α8)) (k : α1 → α2 → α3 → α4 → α5 → α6 → α7 → α8 → Option ρ) : Option ρ := match x with | none => none | some (a1, a2, a3, a4, a5, a6, a7, a8) => k a1 a2 a3 a4 a5 a6 a7 a8
theorem oCall8_some {ρ α1 α2 α3 α4 α5 α6 α7 α8 : Type} {x : Option (α1 × α2 × α3 × α4 × α5 × α6 × α7 × α8)} {k : α1 → α2 → α3 → α4 → α5 → α6 → α7 → α8 → Option ρ} {r : ρ} (h : oCall8 x k = some r) : ∃ a1 a2 a3 a4 a5 a6 a7 a8, x = some (a1, a2, a3, a4, a5, a6, a7, a8) ∧ k a1 a2 a3 a4 a5 a6 a7 a8 = some r := by cases x with | none => cases h | some z => exact ⟨z.1, z.2.1, z.2.2.1, z.2.2.2.1, z.2.2.2.2.1, z.2.2.2.2.2.1, z.2.2.2.2.2.2.1, z.2.2.2.2.2.2.2, rfl, h⟩
def oCall9 {ρ α1 α2 α3 α4 α5 α6 α7 α8 α9 : Type} (x : Option (α1 × α2 × α3 × α4 × α5 × α6 × α7 × α8 × α9)) (k : α1 → α2 → α3 → α4 → α5 → α6 → α7 → α8 → α9 → Option ρ) : Option ρ := match x with | none => none | some (a1, a2, a3, a4, a5, a6, a7, a8, a9) => k a1 a2 a3 a4 a5 a6 a7 a8 a9
theorem oCall9_some {ρ α1 α2 α3 α4 α5 α6 α7 α8 α9 : Type} {x : Option (α1 × α2 × α3 × α4 × α5 × α6 × α7 × α8 × α9)} {k : α1 → α2 → α3 → α4 → α5 → α6 → α7 → α8 → α9 → Option ρ} {r : ρ} (h : oCall9 x k = some r) : ∃ a1 a2 a3 a4 a5 a6 a7 a8 a9, x = some (a1, a2, a3, a4, a5, a6, a7, a8, a9) ∧ k a1 a2 a3 a4 a5 a6 a7 a8 a9 = some r := by cases x with | none => cases h | some z => exact ⟨z.1, z.2.1, z.2.2.1, z.2.2.2.1, z.2.2.2.2.1, z.2.2.2.2.2.1, z.2.2.2.2.2.2.1, z.2.2.2.2.2.2.2.1, z.2.2.2.2.2.2.2.2, rfl, h⟩
def oCall10 {ρ α1 α2 α3 α4 α5 α6 α7 α8 α9 α10 : Type} (x : Option (α1 × α2 × α3 × α4 × α5 × α6 × α7 × α8 × α9 × α10)) (k : α1 → α2 → α3 → α4 → α5 → α6 → α7 → α8 → α9 → α10 → Option ρ) : Option ρ := match x with | none => none | some (a1, a2, a3, a4, a5, a6, a7, a8, a9, a10) => k a1 a2 a3 a4 a5 a6 a7 a8 a9 a10
theorem oCall10_some {ρ α1 α2 α3 α4 α5 α6 α7 α8 α9 α10 : Type} {x : Option (α1 × α2 × α3 × α4 × α5 × α6 × α7 × α8 × α9 × α10)} {k : α1 → α2 → α3 → α4 → α5 → α6 → α7 → α8 → α9 → α10 → Option ρ} {r : ρ} (h : oCall10 x k = some r) : ∃ a1 a2 a3 a4 a5 a6 a7 a8 a9 a10, x = some (a1, a2, a3, a4, a5, a6, a7, a8, a9, a10) ∧ k a1 a2 a3 a4 a5 a6 a7 a8 a9 a10 = some r := by cases x with | none => cases h | some z => exact ⟨z.1, z.2.1, z.2.2.1, z.2.2.2.1, z.2.2.2.2.1, z.2.2.2.2.2.1, z.2.2.2.2.2.2.1, z.2.2.2.2.2.2.2.1, z.2.2.2.2.2.2.2.2.1, z.2.2.2.2.2.2.2.2.2, rfl, h⟩
def oCall11 {ρ α1 α2 α3 α4 α5 α6 α7 α8 α9 α10 α11 : Type} (x : Option (α1 × α2 × α3 × α4 × α5 × α6 × α7 × α8 × α9 × α10 × α11)) (k : α1 → α2 → α3 → α4 → α5 → α6 → α7 → α8 → α9 → α10 → α11 → Option ρ) : Option ρ := match x with | none => none | some (a1, a2, a3, a4, a5, a6, a7, a8, a9, a10, a11) => k a1 a2 a3 a4 a5 a6 a7 a8 a9 a10 a11
theorem oCall11_some {ρ α1 α2 α3 α4 α5 α6 α7 α8 α9 α10 α11 : Type} {x : Option (α1 × α2 × α3 × α4 × α5 × α6 × α7 × α8 × α9 × α10 × α11)} {k : α1 → α2 → α3 → α4 → α5 → α6 → α7 → α8 → α9 → α10 → α11 → Option ρ} {r : ρ} (h : oCall11 x k = some r) : ∃ a1 a2 a3 a4 a5 a6 a7 a8 a9 a10 a11, x = some (a1, a2, a3, a4, a5, a6, a7, a8, a9, a10, a11) ∧ k a1 a2 a3 a4 a5 a6 a7 a8 a9 a10 a11 = some r := by cases x with | none => cases h | some z => exact ⟨z.1, z.2.1, z.2.2.1, z.2.2.2.1, z.2.2.2.2.1, z.2.2.2.2.2.1, z.2.2.2.2.2.2.1, z.2.2.2.2.2.2.2.1, z.2.2.2.2.2.2.2.2.1, z.2.2.2.2.2.2.2.2.2.1, z.2.2.2.2.2.2.2.2.2.2, rfl, h⟩
def oCall12 {ρ α1 α2 α3 α4 α5 α6 α7 α8 α9 α10 α11 α12 : Type} (x : Option (α1 × α2 × α3 × α4 × α5 × α6 × α7 × α8 × α9 × α10 × α11 × α12)) (k : α1 → α2 → α3 → α4 → α5 → α6 → α7 → α8 → α9 → α10 → α11 → α12 → Option ρ) : Option ρ := match x with | none => none | some (a1, a2, a3, a4, a5, a6, a7, a8, a9, a10, a11, a12) => k a1 a2 a3 a4 a5 a6 a7 a8 a9 a10 a11 a12
theorem oCall12_some {ρ α1 α2 α3 α4 α5 α6 α7 α8 α9 α10 α11 α12 : Type} {x : Option (α1 × α2 × α3 × α4 × α5 × α6 × α7 × α8 × α9 × α10 × α11 × α12)} {k : α1 → α2 → α3 → α4 → α5 → α6 → α7 → α8 → α9 → α10 → α11 → α12 → Option ρ} {r : ρ} (h : oCall12 x k = some r) : ∃ a1 a2 a3 a4 a5 a6 a7 a8 a9 a10 a11 a12, x = some (a1, a2, a3, a4, a5, a6, a7, a8, a9, a10, a11, a12) ∧ k a1 a2 a3 a4 a5 a6 a7 a8 a9 a10 a11 a12 = some r := by cases x with | none => cases h | some z => exact ⟨z.1, z.2.1, z.2.2.1, z.2.2.2.1, z.2.2.2.2.1, z.2.2.2.2.2.1, z.2.2.2.2.2.2.1, z.2.2.2.2.2.2.2.1, z.2.2.2.2.2.2.2.2.1, z.2.2.2.2.2.2.2.2.2.1, z.2.2.2.2.2.2.2.2.2.2.1, z.2.2.2.2.2.2.2.2.2.2.2, rfl, h⟩
def oCall13 {ρ α1 α2 α3 α4 α5 α6 α7 α8 α9 α10 α11 α12 α13 : Type} (x : Option (α1 × α2 × α3 × α4 × α5 × α6 × α7 × α8 × α9 × α10 × α11 × α12 × α13)) (k : α1 → α2 → α3 → α4 → α5 → α6 → α7 → α8 → α9 → α10 → α11 → α12 → α13 → Option ρ) : Option ρ := match x with | none => none | some (a1, a2, a3, a4, a5, a6, a7, a8, a9, a10, a11, a12, a13) => k a1 a2 a3 a4 a5 a6 a7 a8 a9 a10 a11 a12 a13
theorem oCall13_some {ρ α1 α2 α3 α4 α5 α6 α7 α8 α9 α10 α11 α12 α13 : Type} {x : Option (α1 × α2 × α3 × α4 × α5 × α6 × α7 × α8 × α9 × α10 × α11 × α12 × α13)} {k : α1 → α2 → α3 → α4 → α5 → α6 → α7 → α8 → α9 → α10 → α11 → α12 → α13 → Option ρ} {r : ρ} (h : oCall13 x k = some r) : ∃ a1 a2 a3 a4 a5 a6 a7 a8 a9 a10 a11 a12 a13, x = some (a1, a2, a3, a4, a5, a6, a7, a8, a9, a10, a11, a12, a13) ∧ k a1 a2 a3 a4 a5 a6 a7 a8 a9 a10 a11 a12 a13 = some r := by cases x with | none => cases h | some z => exact ⟨z.1, z.2.1, z.2.2.1, z.2.2.2.1, z.2.2.2.2.1, z.2.2.2.2.2.1, z.2.2.2.2.2.2.1, z.2.2.2.2.2.2.2.1, z.2.2.2.2.2.2.2.2.1, z.2.2.2.2.2.2.2.2.2.1, z.2.2.2.2.2.2.2.2.2.2.1, z.2.2.2.2.2.2.2.2.2.2.2.1, z.2.2.2.2.2.2.2.2.2.2.2.2, rfl, h⟩
def oCall14 {ρ α1 α2 α3 α4 α5 α6 α7 α8 α9 α10 α11 α12 α13 α14 : Type} (x : Option (α1 × α2 × α3 × α4 × α5 × α6 × α7 × α8 × α9 × α10 × α11 × α12 × α13 × α14)) (k : α1 → α2 → α3 → α4 → α5 → α6 → α7 → α8 → α9 → α10 → α11 → α12 → α13 → α14 → Option ρ) : Option ρ := match x with | none => none | some (a1, a2, a3, a4, a5, a6, a7, a8, a9, a10, a11, a12, a13, a14) => k a1 a2 a3 a4 a5 a6 a7 a8 a9 a10 a11 a12 a13 a14
theorem oCall14_some {ρ α1 α2 α3 α4 α5 α6 α7 α8 α9 α10 α11 α12 α13 α14 : Type} {x : Option (α1 × α2 × α3 × α4 × α5 × α6 × α7 × α8 × α9 × α10 × α11 × α12 × α13 × α14)} {k : α1 → α2 → α3 → α4 → α5 → α6 → α7 → α8 → α9 → α10 → α11 → α12 → α13 → α14 → Option ρ} {r : ρ} (h : oCall14 x k = some r) : ∃ a1 a2 a3 a4 a5 a6 a7 a8 a9 a10 a11 a12 a13 a14, x = some (a1, a2, a3, a4, a5, a6, a7, a8, a9, a10, a11, a12, a13, a14) ∧ k a1 a2 a3 a4 a5 a6 a7 a8 a9 a10 a11 a12 a13 a14 = some r := by cases x with | none => cases h | some z => exact ⟨z.1, z.2.1, z.2.2.1, z.2.2.2.1, z.2.2.2.2.1, z.2.2.2.2.2.1, z.2.2.2.2.2.2.1, z.2.2.2.2.2.2.2.1, z.2.2.2.2.2.2.2.2.1, z.2.2.2.2.2.2.2.2.2.1, z.2.2.2.2.2.2.2.2.2.2.1, z.2.2.2.2.2.2.2.2.2.2.2.1, z.2.2.2.2.2.2.2.2.2.2.2.2.1, z.2.2.2.2.2.2.2.2.2.2.2.2.2, rfl, h⟩
def oLoop1 {ρ α1 : Type} (f : (α1 → Option ρ) → α1 → Option ρ) : Nat → α1 → Option ρ
  | 0 => fun _ => none
  | n + 1 => f (oLoop1 f n)
theorem oLoop1_0 {ρ α1 : Type} {f : (α1 → Option ρ) → α1 → Option ρ} {a1 : α1} {r : ρ} (h : oLoop1 f 0 a1 = some r) : False := by cases h
theorem oLoop1_s {ρ α1 : Type} {f : (α1 → Option ρ) → α1 → Option ρ} {n : Nat} {a1 : α1} {r : ρ} (h : oLoop1 f (n + 1) a1 = some r) : f (oLoop1 f n) a1 = some r := h
def oLoop2 {ρ α1 α2 : Type} (f : (α1 → α2 → Option ρ) → α1 → α2 → Option ρ) : Nat → α1 → α2 → Option ρ
  | 0 => fun _ _ => none
  | n + 1 => f (oLoop2 f n)
theorem oLoop2_0 {ρ α1 α2 : Type} {f : (α1 → α2 → Option ρ) → α1 → α2 → Option ρ} {a1 : α1} {a2 : α2} {r : ρ} (h : oLoop2 f 0 a1 a2 = some r) : False := by cases h
theorem oLoop2_s {ρ α1 α2 : Type} {f : (α1 → α2 → Option ρ) → α1 → α2 → Option ρ} {n : Nat} {a1 : α1} {a2 : α2} {r : ρ} (h : oLoop2 f (n + 1) a1 a2 = some r) : f (oLoop2 f n) a1 a2 = some r := h
def oLoop3 {ρ α1 α2 α3 : Type} (f : (α1 → α2 → α3 → Option ρ) → α1 → α2 → α3 → Option ρ) : Nat → α1 → α2 → α3 → Option ρ
  | 0 => fun _ _ _ => none
  | n + 1 => f (oLoop3 f n)
theorem oLoop3_0 {ρ α1 α2 α3 : Type} {f : (α1 → α2 → α3 → Option ρ) → α1 → α2 → α3 → Option ρ} {a1 : α1} {a2 : α2} {a3 : α3} {r : ρ} (h : oLoop3 f 0 a1 a2 a3 = some r) : False := by cases h
theorem oLoop3_s {ρ α1 α2 α3 : Type} {f : (α1 → α2 → α3 → Option ρ) → α1 → α2 → α3 → Option ρ} {n : Nat} {a1 : α1} {a2 : α2} {a3 : α3} {r : ρ} (h : oLoop3 f (n + 1) a1 a2 a3 = some r) : f (oLoop3 f n) a1 a2 a3 = some r := h
def oLoop4 {ρ α1 α2 α3 α4 : Type} (f : (α1 → α2 → α3 → α4 → Option ρ) → α1 → α2 → α3 → α4 → Option ρ) : Nat → α1 → α2 → α3 → α4 → Option ρ
  | 0 => fun _ _ _ _ => none
  | n + 1 => f (oLoop4 f n)
theorem oLoop4_0 {ρ α1 α2 α3 α4 : Type} {f : (α1 → α2 → α3 → α4 → Option ρ) → α1 → α2 → α3 → α4 → Option ρ} {a1 : α1} {a2 : α2} {a3 : α3} {a4 : α4} {r : ρ} (h : oLoop4 f 0 a1 a2 a3 a4 = some r) : False := by cases h
theorem oLoop4_s {ρ α1 α2 α3 α4 : Type} {f : (α1 → α2 → α3 → α4 → Option ρ) → α1 → α2 → α3 → α4 → Option ρ} {n : Nat} {a1 : α1} {a2 : α2} {a3 : α3} {a4 : α4} {r : ρ} (h : oLoop4 f (n + 1) a1 a2 a3 a4 = some r) : f (oLoop4 f n) a1 a2 a3 a4 = some r := h
def oLoop5 {ρ α1 α2 α3 α4 α5 : Type} (f : (α1 → α2 → α3 → α4 → α5 → Option ρ) → α1 → α2 → α3 → α4 → α5 → Option ρ) : Nat → α1 → α2 → α3 → α4 → α5 → Option ρ
  | 0 => fun _ _ _ _ _ => none
  | n + 1 => f (oLoop5 f n)
theorem oLoop5_0 {ρ α1 α2 α3 α4 α5 : Type} {f : (α1 → α2 → α3 → α4 → α5 → Option ρ) → α1 → α2 → α3 → α4 → α5 → Option ρ} {a1 : α1} {a2 : α2} {a3 : α3} {a4 : α4} {a5 : α5} {r : ρ} (h : oLoop5 f 0 a1 a2 a3 a4 a5 = some r) : False := by cases h
theorem oLoop5_s {ρ α1 α2 α3 α4 α5 : Type} {f : (α1 → α2 → α3 → α4 → α5 → Option ρ) → α1 → α2 → α3 → α4 → α5 → Option ρ} {n : Nat} {a1 : α1} {a2 : α2} {a3 : α3} {a4 : α4} {a5 : α5} {r : ρ} (h : oLoop5 f (n + 1) a1 a2 a3 a4 a5 = some r) : f (oLoop5 f n) a1 a2 a3 a4 a5 = some r := h
def oLoop6 {ρ α1 α2 α3 α4 α5 α6 : Type} (f : (α1 → α2 → α3 → α4 → α5 → α6 → Option ρ) → α1 → α2 → α3 → α4 → α5 → α6 → Option ρ) : Nat → α1 → α2 → α3 → α4 → α5 → α6 → Option ρ
  | 0 => fun _ _ _ _ _ _ => none
  | n + 1 => f (oLoop6 f n)
theorem oLoop6_0 {ρ α1 α2 α3 α4 α5 α6 : Type} {f : (α1 → α2 → α3 → α4 → α5 → α6 → Option ρ) → α1 → α2 → α3 → α4 → α5 → α6 → Option ρ} {a1 : α1} {a2 : α2} {a3 : α3} {a4 : α4} {a5 : α5} {a6 : α6} {r : ρ} (h : oLoop6 f 0 a1 a2 a3 a4 a5 a6 = some r) : False := by cases h
theorem oLoop6_s {ρ α1 α2 α3 α4 α5 α6 : Type} {f : (α1 → α2 → α3 → α4 → α5 → α6 → Option ρ) → α1 → α2 → α3 → α4 → α5 → α6 → Option ρ} {n : Nat} {a1 : α1} {a2 : α2} {a3 : α3} {a4 : α4} {a5 : α5} {a6 : α6} {r : ρ} (h : oLoop6 f (n + 1) a1 a2 a3 a4 a5 a6 = some r) : f (oLoop6 f n) a1 a2 a3 a4 a5 a6 = some r := h
def oLoop7 {ρ α1 α2 α3 α4 α5 α6 α7 : Type} (f : (α1 → α2 → α3 → α4 → α5 → α6 → α7 → Option ρ) → α1 → α2 → α3 → α4 → α5 → α6 → α7 → Option ρ) : Nat → α1 → α2 → α3 → α4 → α5 → α6 → α7 → Option ρ
  | 0 => fun _ _ _ _ _ _ _ => none
  | n + 1 => f (oLoop7 f n)
theorem oLoop7_0 {ρ α1 α2 α3 α4 α5 α6 α7 : Type} {f : (α1 → α2 → α3 → α4 → α5 → α6 → α7 → Option ρ) → α1 → α2 → α3 → α4 → α5 → α6 → α7 → Option ρ} {a1 : α1} {a2 : α2} {a3 : α3} {a4 : α4} {a5 : α5} {a6 : α6} {a7 : α7} {r : ρ} (h : oLoop7 f 0 a1 a2 a3 a4 a5 a6 a7 = some r) : False := by cases h
theorem oLoop7_s {ρ α1 α2 α3 α4 α5 α6 α7 : Type} {f : (α1 → α2 → α3 → α4 → α5 → α6 → α7 → Option ρ) → α1 → α2 → α3 → α4 → α5 → α6 → α7 → Option ρ} {n : Nat} {a1 : α1} {a2 : α2} {a3 : α3} {a4 : α4} {a5 : α5} {a6 : α6} {a7 : α7} {r : ρ} (h : oLoop7 f (n + 1) a1 a2 a3 a4 a5 a6 a7 = some r) : f (oLoop7 f n) a1 a2 a3 a4 a5 a6 a7 = some r := h
def oLoop8 {ρ α1 α2 α3 α4 α5 α6 α7 α8 : Type} (f : (α1 → α2 → α3 → α4 → α5 → α6 → α7 → α8 → Option ρ) → α1 → α2 → α3 → α4 → α5 → α6 → α7 → α8 → Option ρ) : Nat → α1 → α2 → α3 → α4 → α5 → α6 → α7 → α8 → Option ρ
  | 0 => fun _ _ _ _ _ _ _ _ => none
  | n + 1 => f (oLoop8 f n)
theorem oLoop8_0 {ρ α1 α2 α3 α4 α5 α6 α7 α8 : Type} {f : (α1 → α2 → α3 → α4 → α5 → α6 → α7 → α8 → Option ρ) → α1 → α2 → α3 → α4 → α5 → α6 → α7 → α8 → Option ρ} {a1 : α1} {a2 : α2} {a3 : α3} {a4 : α4} {a5 : α5} {a6 : α6} {a7 : α7} {a8 : α8} {r : ρ} (h : oLoop8 f 0 a1 a2 a3 a4 a5 a6 a7 a8 = some r) : False := by cases h
theorem oLoop8_s {ρ α1 α2 α3 α4 α5 α6 α7 α8 : Type} {f : (α1 → α2 → α3 → α4 → α5 → α6 → α7 → α8 → Option ρ) → α1 → α2 → α3 → α4 → α5 → α6 → α7 → α8 → Option ρ} {n : Nat} {a1 : α1} {a2 : α2} {a3 : α3} {a4 : α4} {a5 : α5} {a6 : α6} {a7 : α7} {a8 : α8} {r : ρ} (h : oLoop8 f (n + 1) a1 a2 a3 a4 a5 a6 a7 a8 = some r) : f (oLoop8 f n) a1 a2 a3 a4 a5 a6 a7 a8 = some r := h
def oLoop9 {ρ α1 α2 α3 α4 α5 α6 α7 α8 α9 : Type} (f : (α1 → α2 → α3 → α4 → α5 → α6 → α7 → α8 → α9 → Option ρ) → α1 → α2 → α3 → α4 → α5 → α6 → α7 → α8 → α9 → Option ρ) : Nat → α1 → α2 → α3 → α4 → α5 → α6 → α7 → α8 → α9 → Option ρ
  | 0 => fun _ _ _ _ _ _ _ _ _ => none
  | n + 1 => f (oLoop9 f n)
theorem oLoop9_0 {ρ α1 α2 α3 α4 α5 α6 α7 α8 α9 : Type} {f : (α1 → α2 → α3 → α4 → α5 → α6 → α7 → α8 → α9 → Option ρ) → α1 → α2 → α3 → α4 → α5 → α6 → α7 → α8 → α9 → Option ρ} {a1 : α1} {a2 : α2} {a3 : α3} {a4 : α4} {a5 : α5} {a6 : α6} {a7 : α7} {a8 : α8} {a9 : α9} {r : ρ} (h : oLoop9 f 0 a1 a2 a3 a4 a5 a6 a7 a8 a9 = some r) : False := by cases h
theorem oLoop9_s {ρ α1 α2 α3 α4 α5 α6 α7 α8 α9 : Type} {f : (α1 → α2 → α3 → α4 → α5 → α6 → α7 → α8 → α9 → Option ρ) → α1 → α2 → α3 → α4 → α5 → α6 → α7 → α8 → α9 → Option ρ} {n : Nat} {a1 : α1} {a2 : α2} {a3 : α3} {a4 : α4} {a5 : α5} {a6 : α6} {a7 : α7} {a8 : α8} {a9 : α9} {r : ρ} (h : oLoop9 f (n + 1) a1 a2 a3 a4 a5 a6 a7 a8 a9 = some r) : f (oLoop9 f n) a1 a2 a3 a4 a5 a6 a7 a8 a9 = some r := h
def oLoop10 {ρ α1 α2 α3 α4 α5 α6 α7 α8 α9 α10 : Type} (f : (α1 → α2 → α3 → α4 → α5 → α6 → α7 → α8 → α9 → α10 → Option ρ) → α1 → α2 → α3 → α4 → α5 → α6 → α7 → α8 → α9 → α10 → Option ρ) : Nat → α1 → α2 → α3 → α4 → α5 → α6 → α7 → α8 → α9 → α10 → Option ρ
  | 0 => fun _ _ _ _ _ _ _ _ _ _ => none
  | n + 1 => f (oLoop10 f n)
theorem oLoop10_0 {ρ α1 α2 α3 α4 α5 α6 α7 α8 α9 α10 : Type} {f : (α1 → α2 → α3 → α4 → α5 → α6 → α7 → α8 → α9 → α10 → Option ρ) → α1 → α2 → α3 → α4 → α5 → α6 → α7 → α8 → α9 → α10 → Option ρ} {a1 : α1} {a2 : α2} {a3 : α3} {a4 : α4} {a5 : α5} {a6 : α6} {a7 : α7} {a8 : α8} {a9 : α9} {a10 : α10} {r : ρ} (h : oLoop10 f 0 a1 a2 a3 a4 a5 a6 a7 a8 a9 a10 = some r) : False := by cases h
theorem oLoop10_s {ρ α1 α2 α3 α4 α5 α6 α7 α8 α9 α10 : Type} {f : (α1 → α2 → α3 → α4 → α5 → α6 → α7 → α8 → α9 → α10 → Option ρ) → α1 → α2 → α3 → α4 → α5 → α6 → α7 → α8 → α9 → α10 → Option ρ} {n : Nat} {a1 : α1} {a2 : α2} {a3 : α3} {a4 : α4} {a5 : α5} {a6 : α6} {a7 : α7} {a8 : α8} {a9 : α9} {a10 : α10} {r : ρ} (h : oLoop10 f (n + 1) a1 a2 a3 a4 a5 a6 a7 a8 a9 a10 = some r) : f (oLoop10 f n) a1 a2 a3 a4 a5 a6 a7 a8 a9 a10 = some r := h
def oLoop11 {ρ α1 α2 α3 α4 α5 α6 α7 α8 α9 α10 α11 : Type} (f : (α1 → α2 → α3 → α4 → α5 → α6 → α7 → α8 → α9 → α10 → α11 → Option ρ) → α1 → α2 → α3 → α4 → α5 → α6 → α7 → α8 → α9 → α10 → α11 → Option ρ) : Nat → α1 → α2 → α3 → α4 → α5 → α6 → α7 → α8 → α9 → α10 → α11 → Option ρ
  | 0 => fun _ _ _ _ _ _ _ _ _ _ _ => none
  | n + 1 => f (oLoop11 f n)
theorem oLoop11_0 {ρ α1 α2 α3 α4 α5 α6 α7 α8 α9 α10 α11 : Type} {f : (α1 → α2 → α3 → α4 → α5 → α6 → α7 → α8 → α9 → α10 → α11 → Option ρ) → α1 → α2 → α3 → α4 → α5 → α6 → α7 → α8 → α9 → α10 → α11 → Option ρ} {a1 : α1} {a2 : α2} {a3 : α3} {a4 : α4} {a5 : α5} {a6 : α6} {a7 : α7} {a8 : α8} {a9 : α9} {a10 : α10} {a11 : α11} {r : ρ} (h : oLoop11 f 0 a1 a2 a3 a4 a5 a6 a7 a8 a9 a10 a11 = some r) : False := by cases h
theorem oLoop11_s {ρ α1 α2 α3 α4 α5 α6 α7 α8 α9 α10 α11 : Type} {f : (α1 → α2 → α3 → α4 → α5 → α6 → α7 → α8 → α9 → α10 → α11 → Option ρ) → α1 → α2 → α3 → α4 → α5 → α6 → α7 → α8 → α9 → α10 → α11 → Option ρ} {n : Nat} {a1 : α1} {a2 : α2} {a3 : α3} {a4 : α4} {a5 : α5} {a6 : α6} {a7 : α7} {a8 : α8} {a9 : α9} {a10 : α10} {a11 : α11} {r : ρ} (h : oLoop11 f (n + 1) a1 a2 a3 a4 a5 a6 a7 a8 a9 a10 a11 = some r) : f (oLoop11 f n) a1 a2 a3 a4 a5 a6 a7 a8 a9 a10 a11 = some r := h
def oLoop12 {ρ α1 α2 α3 α4 α5 α6 α7 α8 α9 α10 α11 α12 : Type} (f : (α1 → α2 → α3 → α4 → α5 → α6 → α7 → α8 → α9 → α10 → α11 → α12 → Option ρ) → α1 → α2 → α3 → α4 → α5 → α6 → α7 → α8 → α9 → α10 → α11 → α12 → Option ρ) : Nat → α1 → α2 → α3 → α4 → α5 → α6 → α7 → α8 → α9 → α10 → α11 → α12 → Option ρ
  | 0 => fun _ _ _ _ _ _ _ _ _ _ _ _ => none
  | n + 1 => f (oLoop12 f n)
theorem oLoop12_0 {ρ α1 α2 α3 α4 α5 α6 α7 α8 α9 α10 α11 α12 : Type} {f : (α1 → α2 → α3 → α4 → α5 → α6 → α7 → α8 → α9 → α10 → α11 → α12 → Option ρ) → α1 → α2 → α3 → α4 → α5 → α6 → α7 → α8 → α9 → α10 → α11 → α12 → Option ρ} {a1 : α1} {a2 : α2} {a3 : α3} {a4 : α4} {a5 : α5} {a6 : α6} {a7 : α7} {a8 : α8} {a9 : α9} {a10 : α10} {a11 : α11} {a12 : α12} {r : ρ} (h : oLoop12 f 0 a1 a2 a3 a4 a5 a6 a7 a8 a9 a10 a11 a12 = some r) : False := by cases h
theorem oLoop12_s {ρ α1 α2 α3 α4 α5 α6 α7 α8 α9 α10 α11 α12 : Type} {f : (α1 → α2 → α3 → α4 → α5 → α6 → α7 → α8 → α9 → α10 → α11 → α12 → Option ρ) → α1 → α2 → α3 → α4 → α5 → α6 → α7 → α8 → α9 → α10 → α11 → α12 → Option ρ} {n : Nat} {a1 : α1} {a2 : α2} {a3 : α3} {a4 : α4} {a5 : α5} {a6 : α6} {a7 : α7} {a8 : α8} {a9 : α9} {a10 : α10} {a11 : α11} {a12 : α12} {r : ρ} (h : oLoop12 f (n + 1) a1 a2 a3 a4 a5 a6 a7 a8 a9 a10 a11 a12 = some r) : f (oLoop12 f n) a1 a2 a3 a4 a5 a6 a7 a8 a9 a10 a11 a12 = some r := h
def oLoop13 {ρ α1 α2 α3 α4 α5 α6 α7 α8 α9 α10 α11 α12 α13 : Type} (f : (α1 → α2 → α3 → α4 → α5 → α6 → α7 → α8 → α9 → α10 → α11 → α12 → α13 → Option ρ) → α1 → α2 → α3 → α4 → α5 → α6 → α7 → α8 → α9 → α10 → α11 → α12 → α13 → Option ρ) : Nat → α1 → α2 → α3 → α4 → α5 → α6 → α7 → α8 → α9 → α10 → α11 → α12 → α13 → Option ρ
  | 0 => fun _ _ _ _ _ _ _ _ _ _ _ _ _ => none
  | n + 1 => f (oLoop13 f n)
theorem oLoop13_0 {ρ α1 α2 α3 α4 α5 α6 α7 α8 α9 α10 α11 α12 α13 : Type} {f : (α1 → α2 → α3 → α4 → α5 → α6 → α7 → α8 → α9 → α10 → α11 → α12 → α13 → Option ρ) → α1 → α2 → α3 → α4 → α5 → α6 → α7 → α8 → α9 → α10 → α11 → α12 → α13 → Option ρ} {a1 : α1} {a2 : α2} {a3 : α3} {a4 : α4} {a5 : α5} {a6 : α6} {a7 : α7} {a8 : α8} {a9 : α9} {a10 : α10} {a11 : α11} {a12 : α12} {a13 : α13} {r : ρ} (h : oLoop13 f 0 a1 a2 a3 a4 a5 a6 a7 a8 a9 a10 a11 a12 a13 = some r) : False := by cases h
theorem oLoop13_s {ρ α1 α2 α3 α4 α5 α6 α7 α8 α9 α10 α11 α12 α13 : Type} {f : (α1 → α2 → α3 → α4 → α5 → α6 → α7 → α8 → α9 → α10 → α11 → α12 → α13 → Option ρ) → α1 → α2 → α3 → α4 → α5 → α6 → α7 → α8 → α9 → α10 → α11 → α12 → α13 → Option ρ} {n : Nat} {a1 : α1} {a2 : α2} {a3 : α3} {a4 : α4} {a5 : α5} {a6 : α6} {a7 : α7} {a8 : α8} {a9 : α9} {a10 : α10} {a11 : α11} {a12 : α12} {a13 : α13} {r : ρ} (h : oLoop13 f (n + 1) a1 a2 a3 a4 a5 a6 a7 a8 a9 a10 a11 a12 a13 = some r) : f (oLoop13 f n) a1 a2 a3 a4 a5 a6 a7 a8 a9 a10 a11 a12 a13 = some r := h
def oLoop14 {ρ α1 α2 α3 α4 α5 α6 α7 α8 α9 α10 α11 α12 α13 α14 : Type} (f : (α1 → α2 → α3 → α4 → α5 → α6 → α7 → α8 → α9 → α10 → α11 → α12 → α13 → α14 → Option ρ) → α1 → α2 → α3 → α4 → α5 → α6 → α7 → α8 → α9 → α10 → α11 → α12 → α13 → α14 → Option ρ) : Nat → α1 → α2 → α3 → α4 → α5 → α6 → α7 → α8 → α9 → α10 → α11 → α12 → α13 → α14 → Option ρ
  | 0 => fun _ _ _ _ _ _ _ _ _ _ _ _ _ _ => none
  | n + 1 => f (oLoop14 f n)
theorem oLoop14_0 {ρ α1 α2 α3 α4 α5 α6 α7 α8 α9 α10 α11 α12 α13 α14 : Type} {f : (α1 → α2 → α3 → α4 → α5 → α6 → α7 → α8 → α9 → α10 → α11 → α12 → α13 → α14 → Option ρ) → α1 → α2 → α3 → α4 → α5 → α6 → α7 → α8 → α9 → α10 → α11 → α12 → α13 → α14 → Option ρ} {a1 : α1} {a2 : α2} {a3 : α3} {a4 : α4} {a5 : α5} {a6 : α6} {a7 : α7} {a8 : α8} {a9 : α9} {a10 : α10} {a11 : α11} {a12 : α12} {a13 : α13} {a14 : α14} {r : ρ} (h : oLoop14 f 0 a1 a2 a3 a4 a5 a6 a7 a8 a9 a10 a11 a12 a13 a14 = some r) : False := by cases h
theorem oLoop14_s {ρ α1 α2 α3 α4 α5 α6 α7 α8 α9 α10 α11 α12 α13 α14 : Type} {f : (α1 → α2 → α3 → α4 → α5 → α6 → α7 → α8 → α9 → α10 → α11 → α12 → α13 → α14 → Option ρ) → α1 → α2 → α3 → α4 → α5 → α6 → α7 → α8 → α9 → α10 → α11 → α12 → α13 → α14 → Option ρ} {n : Nat} {a1 : α1} {a2 : α2} {a3 : α3} {a4 : α4} {a5 : α5} {a6 : α6} {a7 : α7} {a8 : α8} {a9 : α9} {a10 : α10} {a11 : α11} {a12 : α12} {a13 : α13} {a14 : α14} {r : ρ} (h : oLoop14 f (n + 1) a1 a2 a3 a4 a5 a6 a7 a8 a9 a10 a11 a12 a13 a14 = some r) : f (oLoop14 f n) a1 a2 a3 a4 a5 a6 a7 a8 a9 a10 a11 a12 a13 a14 = some r := h
theorem fbR {av : List Value} {D : va_G} {cl : List vw_C} {w : va_W} {tys : List (ClassId × FieldType)} : FrameBlind (va_Pc av (fun U => va_P D cl w U.heap ∧ va_K D cl tys U ∧ nestZ U)) := fun a U g mk q => ⟨q.1, q.2.1, va_K.moved (u := U) (U := U.calling g mk a) (Vm.Alike.refl U.vm) q.2.2.1, nestZ.same (u := U) (U := U.calling g mk a) rfl q.2.2.2⟩
theorem fbM {av : List Value} {D : va_G} {cl : List vw_C} {w : va_W} {tys : List (ClassId × FieldType)} {sz : Nat} : FrameBlind (va_Pc av (fun U => U.heap.size = sz ∧ va_P D cl w U.heap ∧ va_K D cl tys U ∧ nestZ U ∧ va_D (fun _ => True) w)) := fun a U g mk q => ⟨q.1, q.2.1, q.2.2.1, va_K.moved (u := U) (U := U.calling g mk a) (Vm.Alike.refl U.vm) q.2.2.2.1, nestZ.same (u := U) (U := U.calling g mk a) rfl q.2.2.2.2.1, q.2.2.2.2.2⟩
theorem preR {s : State} {H : Heap} {As : List Value} {D : va_G} {cl : List vw_C} {w : va_W} {tys : List (ClassId × FieldType)} (hP : va_P D cl w H) (hK : va_K D cl tys s) (hZ : nestZ s) : PreS s H (va_Pc As (fun U => va_P D cl w U.heap ∧ va_K D cl tys U ∧ nestZ U)) As := ⟨fbR, fun U hU hW => ⟨rfl, by rw [hU]; exact hP, va_K.moved hW.alike hK, nestZ.warm hW hZ⟩⟩
theorem preRV {s : State} {H : Heap} {As : List Value} {C : String} {b : Addr} {D : va_G} {cl : List vw_C} {w : va_W} {tys : List (ClassId × FieldType)} (hP : va_P D cl w H) (hK : va_K D cl tys s) (hZ : nestZ s) (hr : ∃ cell : Cell, H[b]? = some cell ∧ cell.vm.isStatics = false ∧ s.vm.findClass C = some cell.cls) : PreV s H C b (va_Pc (.ref b :: As) (fun U => va_P D cl w U.heap ∧ va_K D cl tys U ∧ nestZ U)) As := ⟨fbR, hr, fun U hU hW => ⟨rfl, by rw [hU]; exact hP, va_K.moved hW.alike hK, nestZ.warm hW hZ⟩⟩
theorem preM {s : State} {H : Heap} {As : List Value} {A : Nat → Prop} {D : va_G} {cl : List vw_C} {w : va_W} {tys : List (ClassId × FieldType)} (hP : va_P D cl w H) (hK : va_K D cl tys s) (hZ : nestZ s) (hD : va_D A w) : PreS s H (va_Pc As (fun U => U.heap.size = H.size ∧ va_P D cl w U.heap ∧ va_K D cl tys U ∧ nestZ U ∧ va_D (fun _ => True) w)) As := ⟨fbM, fun U hU hW => ⟨rfl, by rw [hU], by rw [hU]; exact hP, va_K.moved hW.alike hK, nestZ.warm hW hZ, hD.weaken (fun _ _ _ _ => trivial)⟩⟩
theorem preMV {s : State} {H : Heap} {As : List Value} {C : String} {b : Addr} {A : Nat → Prop} {D : va_G} {cl : List vw_C} {w : va_W} {tys : List (ClassId × FieldType)} (hP : va_P D cl w H) (hK : va_K D cl tys s) (hZ : nestZ s) (hD : va_D A w) (hr : ∃ cell : Cell, H[b]? = some cell ∧ cell.vm.isStatics = false ∧ s.vm.findClass C = some cell.cls) : PreV s H C b (va_Pc (.ref b :: As) (fun U => U.heap.size = H.size ∧ va_P D cl w U.heap ∧ va_K D cl tys U ∧ nestZ U ∧ va_D (fun _ => True) w)) As := ⟨fbM, hr, fun U hU hW => ⟨rfl, by rw [hU], by rw [hU]; exact hP, va_K.moved hW.alike hK, nestZ.warm hW hZ, hD.weaken (fun _ _ _ _ => trivial)⟩⟩
theorem va_tyI {D : va_G} {cl : List vw_C} {tys : List (ClassId × FieldType)} {cA cB : ClassId} {s : State} {i : Nat} (h : va_K D cl (tys ++ [(cA, .int)]) s) (hB : tys[i]? = some (cB, .int)) (hi : (tys ++ [(cA, FieldType.int)])[tys.length]? = some (cA, .int)) : cA = cB := by
  have h1 := va_nm_int (h.2 _ _ hi).2
  have hlt : i < tys.length := (List.getElem?_eq_some_iff.mp hB).1
  have h2 := va_nm_int (h.2 i (cB, .int) (by rw [List.getElem?_append_left hlt]; exact hB)).2
  exact Option.some.inj (h1.symm.trans h2)
theorem va_tyJ {D : va_G} {cl : List vw_C} {tys : List (ClassId × FieldType)} {cA cB : ClassId} {s : State} {i : Nat} (h : va_K D cl (tys ++ [(cA, .long)]) s) (hB : tys[i]? = some (cB, .long)) (hi : (tys ++ [(cA, FieldType.long)])[tys.length]? = some (cA, .long)) : cA = cB := by
  have h1 := va_nm_long (h.2 _ _ hi).2
  have hlt : i < tys.length := (List.getElem?_eq_some_iff.mp hB).1
  have h2 := va_nm_long (h.2 i (cB, .long) (by rw [List.getElem?_append_left hlt]; exact hB)).2
  exact Option.some.inj (h1.symm.trans h2)
section WAbs
variable {p : Program} {l : Launch} {e : Env} {R : Room} {s : State} {m : MethodId} {args : Array Value} {below : List Frame} {meth : Method} {c : Code} {Q : State → Prop}
theorem w_abs {H : Heap} {locs : List Loc} {a b : Nat} {g : JFrame} (h : ∀ Wx : Heap → List Loc → Nat → Nat → JFrame → Prop, (∀ H locs a b g, W p l e R s m args below meth c H locs a b Q g → Wx H locs a b g) → (∀ H locs a b g, Wx H locs a b g → W p l e R s m args below meth c H locs a b Q g) → Wx H locs a b g) : W p l e R s m args below meth c H locs a b Q g := h _ (fun _ _ _ _ _ x => x) (fun _ _ _ _ _ x => x)
theorem w_heap {H H0 : Heap} {locs : List Loc} {a b : Nat} {g : JFrame} (hH : H = H0) (k : W p l e R s m args below meth c H locs a b Q g) : W p l e R s m args below meth c H0 locs a b Q g := hH ▸ k
end WAbs
def w_A (qA : Nat) (cI : ClassId) (aV : Nat → Int32) : va_W := [(qA, .inl (cI, 60, .inl aV))]
def w_B (qB qBx qBy qBz qBa qBb qBc qBd qBs : Nat) (cI cJ : ClassId) (nP : Int32) (nQ : Int32) (bX : Nat → Int32) (bY : Nat → Int32) (bZ : Nat → Int32) (bA : Nat → Int32) (bB : Nat → Int32) (bC : Nat → Int32) (bD : Nat → Int32) (bS : Nat → Int64) : va_W := [(qB, .inr (0, [.ref qBx, .ref qBy, .ref qBz, .int nP, .ref qBa, .ref qBb, .ref qBc, .ref qBd, .int nQ, .ref qBs])), (qBx, .inl (cI, 60, .inl bX)), (qBy, .inl (cI, 60, .inl bY)), (qBz, .inl (cI, 60, .inl bZ)), (qBa, .inl (cI, 20, .inl bA)), (qBb, .inl (cI, 20, .inl bB)), (qBc, .inl (cI, 20, .inl bC)), (qBd, .inl (cI, 20, .inl bD)), (qBs, .inl (cJ, 60, .inr (.inl bS)))]
def w_C (qC qCo qCt : Nat) (cI : ClassId) (cO : Nat → Int32) (cT : Nat → Int32) : va_W := [(qC, .inr (1, [.ref qCo, .ref qCt])), (qCo, .inl (cI, 60, .inl cO)), (qCt, .inl (cI, 60, .inl cT))]
def w_CC (qC qCo qCt qE qEo qEt : Nat) (cI : ClassId) (cO : Nat → Int32) (cT : Nat → Int32) (eO : Nat → Int32) (eT : Nat → Int32) : va_W := [(qC, .inr (1, [.ref qCo, .ref qCt])), (qCo, .inl (cI, 60, .inl cO)), (qCt, .inl (cI, 60, .inl cT)), (qE, .inr (1, [.ref qEo, .ref qEt])), (qEo, .inl (cI, 60, .inl eO)), (qEt, .inl (cI, 60, .inl eT))]
def w_X (qX qB qSt qN qR qS qTg qKp qKq qBx qBy qBz qBa qBb qBc qBd qBs qNo qNt qRo qRt qSo qSp : Nat) (cI cJ : ClassId) (nA : Int32) (nK : Int32) (nP : Int32) (nQ : Int32) (bX : Nat → Int32) (bY : Nat → Int32) (bZ : Nat → Int32) (bA : Nat → Int32) (bB : Nat → Int32) (bC : Nat → Int32) (bD : Nat → Int32) (bS : Nat → Int64) (sT : Nat → Int32) (nO : Nat → Int32) (nT : Nat → Int32) (rO : Nat → Int32) (rT : Nat → Int32) (sO : Nat → Int32) (sP : Nat → Int32) (tG : Nat → Int32) (kQ : Nat → Int32) : va_W := [(qX, .inr (2, [.ref qB, .ref qSt, .int nA, .ref qN, .ref qR, .ref qS, .ref qTg, .ref qKp, .ref qKq, .int nK])), (qB, .inr (0, [.ref qBx, .ref qBy, .ref qBz, .int nP, .ref qBa, .ref qBb, .ref qBc, .ref qBd, .int nQ, .ref qBs])), (qBx, .inl (cI, 60, .inl bX)), (qBy, .inl (cI, 60, .inl bY)), (qBz, .inl (cI, 60, .inl bZ)), (qBa, .inl (cI, 20, .inl bA)), (qBb, .inl (cI, 20, .inl bB)), (qBc, .inl (cI, 20, .inl bC)), (qBd, .inl (cI, 20, .inl bD)), (qBs, .inl (cJ, 60, .inr (.inl bS))), (qSt, .inl (cI, 13, .inl sT)), (qN, .inr (1, [.ref qNo, .ref qNt])), (qNo, .inl (cI, 60, .inl nO)), (qNt, .inl (cI, 60, .inl nT)), (qR, .inr (1, [.ref qRo, .ref qRt])), (qRo, .inl (cI, 60, .inl rO)), (qRt, .inl (cI, 60, .inl rT)), (qS, .inr (1, [.ref qSo, .ref qSp])), (qSo, .inl (cI, 60, .inl sO)), (qSp, .inl (cI, 60, .inl sP)), (qTg, .inl (cI, 60, .inl tG)), (qKq, .inl (cI, 10, .inl kQ))]
def w_T (qX qB qSt qN qR qS qTg qKp qKq qBx qBy qBz qBa qBb qBc qBd qBs qSo qSp qC qCo qCt : Nat) (cI : ClassId) (nA : Int32) (nK : Int32) (nP : Int32) (nQ : Int32) (sO : Nat → Int32) (sP : Nat → Int32) (tG : Nat → Int32) (cO : Nat → Int32) (cT : Nat → Int32) : va_W := [(qX, .inr (2, [.ref qB, .ref qSt, .int nA, .ref qN, .ref qR, .ref qS, .ref qTg, .ref qKp, .ref qKq, .int nK])), (qB, .inr (0, [.ref qBx, .ref qBy, .ref qBz, .int nP, .ref qBa, .ref qBb, .ref qBc, .ref qBd, .int nQ, .ref qBs])), (qS, .inr (1, [.ref qSo, .ref qSp])), (qSo, .inl (cI, 60, .inl sO)), (qSp, .inl (cI, 60, .inl sP)), (qTg, .inl (cI, 60, .inl tG)), (qC, .inr (1, [.ref qCo, .ref qCt])), (qCo, .inl (cI, 60, .inl cO)), (qCt, .inl (cI, 60, .inl cT))]
def w_M (qM q_px q_py q_pz q_plane q_axis q_was q_ways q_keptWas q_keptWays q_keptPoints q_nextWas q_nextWays q_nowWas q_nowWays q_to : Nat) (cI : ClassId) (vthrown : Int32) (vpoints : Int32) (vplanes : Int32) (vaxes : Int32) (vkept : Int32) (vax : Int32) (vay : Int32) (vaz : Int32) (cpx : Nat → Int32) (cpy : Nat → Int32) (cpz : Nat → Int32) (cplane : Nat → Int32) (caxis : Nat → Int32) (cwas : Nat → Int32) (cways : Nat → Int32) (ckeptWas : Nat → Int32) (ckeptWays : Nat → Int32) (ckeptPoints : Nat → Int32) (cnextWas : Nat → Int32) (cnextWays : Nat → Int32) (cnowWas : Nat → Int32) (cnowWays : Nat → Int32) (cto : Nat → Int32) : va_W := [(qM, .inr (3, [.int vthrown, .int vpoints, .int vplanes, .int vaxes, .ref q_px, .ref q_py, .ref q_pz, .ref q_plane, .ref q_axis, .ref q_was, .ref q_ways, .int vkept, .ref q_keptWas, .ref q_keptWays, .ref q_keptPoints, .int vax, .int vay, .int vaz, .ref q_nextWas, .ref q_nextWays, .ref q_nowWas, .ref q_nowWays, .ref q_to])), (q_px, .inl (cI, 60, .inl cpx)), (q_py, .inl (cI, 60, .inl cpy)), (q_pz, .inl (cI, 60, .inl cpz)), (q_plane, .inl (cI, 80, .inl cplane)), (q_axis, .inl (cI, 39, .inl caxis)), (q_was, .inl (cI, 60, .inl cwas)), (q_ways, .inl (cI, 60, .inl cways)), (q_keptWas, .inl (cI, 600, .inl ckeptWas)), (q_keptWays, .inl (cI, 600, .inl ckeptWays)), (q_keptPoints, .inl (cI, 10, .inl ckeptPoints)), (q_nextWas, .inl (cI, 60, .inl cnextWas)), (q_nextWays, .inl (cI, 60, .inl cnextWays)), (q_nowWas, .inl (cI, 60, .inl cnowWas)), (q_nowWays, .inl (cI, 60, .inl cnowWays)), (q_to, .inl (cI, 840, .inl cto))]
end
section
def f_W_xGoesTo (x0 : Int32) : Option (Int32) := some (x0 / 4)
def f_W_yGoesTo (x0 : Int32) : Option (Int32) := oLet (x0 - x0 / 4 * 4) (fun v1 => oCall1 (f_W_xGoesTo x0) (fun r2 => oLet ((r2 / 2) * 2) (fun v3 => if v3 ≤ v1 then some (v1 + 2) else some v1)))
def f_W_zGoesTo_J38 (x1 : Int32) (x2 : Int32) (x3 : Int32) (t0 : Int32) : Option (Int32) := some ((2 * x3) + (((x1 + x2) + t0) - ((x1 + x2) + t0) / 2 * 2))
def f_W_zGoesTo (x0 : Int32) : Option (Int32) := oCall1 (f_W_xGoesTo x0) (fun r1 => oCall1 (f_W_yGoesTo x0) (fun r2 => oLet ((3 - (r1 / 2)) - (r2 / 2)) (fun v3 => if (((r1 / 2) + 1) - ((r1 / 2) + 1) / 3 * 3) = (r2 / 2) then f_W_zGoesTo_J38   r1 r2 v3 0 else f_W_zGoesTo_J38   r1 r2 v3 1)))
def f_W_numberOf (x0 : Int32) (x1 : Int32) : Option (Int32) := if x0 ≤ x1 then some ((4 * x0) + (x1 - 2)) else some ((4 * x0) + x1)
def f_W_directionTo_J31 (x1 : Int32) (t0 : Int32) : Option (Int32) := some (t0 ^^^ (x1 &&& 1))
def f_W_directionTo (x0 : Int32) (x1 : Int32) : Option (Int32) := oLet (x1 / 2) (fun v1 => if v1 = 0 then oCall1 (f_W_xGoesTo x0) (fun r6 => f_W_directionTo_J31   x1 r6) else if v1 = 1 then oCall1 (f_W_yGoesTo x0) (fun r5 => f_W_directionTo_J31   x1 r5) else oCall1 (f_W_zGoesTo x0) (fun r4 => f_W_directionTo_J31   x1 r4))
def f_W_compose (x0 : Int32) (x1 : Int32) : Option (Int32) := oCall1 (f_W_xGoesTo x1) (fun r1 => oCall1 (f_W_directionTo x0 r1) (fun r2 => oCall1 (f_W_yGoesTo x1) (fun r3 => oCall1 (f_W_directionTo x0 r3) (fun r4 => oCall1 (f_W_numberOf r2 r4) (fun r5 => some r5)))))
def f_W_orderOf_L4 (x0 : Int32) (rec4 : Int32 → Int32 → Option (Int32)) (x1 : Int32) (x2 : Int32) : Option (Int32) := if x1 = 0 then some x2 else if (4 : Int32) ≤ x2 then some x2 else oCall1 (f_W_compose x0 x1) (fun r3 => oLet (x2 + 1) (fun v4 => rec4 r3 v4))
def f_W_orderOf (x0 : Int32) : Option (Int32) := oLoop2 (f_W_orderOf_L4   x0) 100 x0 1
def f_W_part (x0 : Int32) (x1 : Int32) (x2 : Int32) : Option (Int32) := if (x0 / 2) = x1 then if (x0 - x0 / 2 * 2) = 0 then some x2 else some (-x2) else some 0
def f_W_coordinate (x0 : Int32) (x1 : Int32) (x2 : Int32) (x3 : Int32) (x4 : Int32) : Option (Int32) := oCall1 (f_W_xGoesTo x0) (fun r1 => oCall1 (f_W_part r1 x1 x2) (fun r2 => oCall1 (f_W_yGoesTo x0) (fun r3 => oCall1 (f_W_part r3 x1 x3) (fun r4 => oCall1 (f_W_zGoesTo x0) (fun r5 => oCall1 (f_W_part r5 x1 x4) (fun r6 => some ((r2 + r4) + r6)))))))
def f_W_directionOf (x0 : Int32) (x1 : Int32) (x2 : Int32) : Option (Int32) := if x0 = 0 then if x1 = 0 then if x2 ≤ 0 then some 5 else some 4 else if x1 ≤ 0 then some 3 else some 2 else if x0 ≤ 0 then some 1 else some 0
def f_W_stepAbout_J46 (x0 : Int32) (x1 : Int32) (x2 : Int32) (x4 : Int32) (x5 : Int32) (t0 : Int32) : Option (Int32) := oNz t0 (oNz t0 (oNz t0 (oCall1 (f_W_directionOf (((x0 * x0) - x5) / t0) (((x0 * x1) + (x4 * x2)) / t0) (((x0 * x2) - (x4 * x1)) / t0)) (fun r4 => oNz t0 (oNz t0 (oNz t0 (oCall1 (f_W_directionOf (((x0 * x1) - (x4 * x2)) / t0) (((x1 * x1) - x5) / t0) (((x1 * x2) + (x4 * x0)) / t0)) (fun r8 => oCall1 (f_W_numberOf r4 r8) (fun r9 => some r9)))))))))
def f_W_stepAbout_J34 (x0 : Int32) (x1 : Int32) (x2 : Int32) (x3 : Int32) (x4 : Int32) (t0 : Int32) : Option (Int32) := if x3 = 3 then f_W_stepAbout_J46   x0 x1 x2 x4 t0 2 else f_W_stepAbout_J46   x0 x1 x2 x4 t0 1
def f_W_stepAbout_J22 (x0 : Int32) (x1 : Int32) (x2 : Int32) (x3 : Int32) (t0 : Int32) : Option (Int32) := if x3 = 1 then f_W_stepAbout_J34   x0 x1 x2 x3 t0 0 else f_W_stepAbout_J34   x0 x1 x2 x3 t0 1
def f_W_stepAbout (x0 : Int32) (x1 : Int32) (x2 : Int32) : Option (Int32) := oLet (((x0 * x0) + (x1 * x1)) + (x2 * x2)) (fun v12 => if v12 = 2 then f_W_stepAbout_J22   x0 x1 x2 v12 0 else f_W_stepAbout_J22   x0 x1 x2 v12 1)
end
section
def f_X_isWithin (x0 : Int32) (x1 : Int32) : Option (Int32) := if x0 < (-x1) then some 0 else if x1 < x0 then some 0 else some 1
def f_B_hasPoint (nP : Int32) (x1 : Int32) : Option (Int32) := if x1 < 0 then some 0 else if nP ≤ x1 then some 0 else some 1
def f_B_hasPlane (nQ : Int32) (x1 : Int32) : Option (Int32) := if x1 < 0 then some 0 else if nQ ≤ x1 then some 0 else some 1
def f_B_pointAt_J48 (rec3 : Int32 → Option (Int32)) (nP : Int32) (bX : Nat → Int32) (bY : Nat → Int32) (bZ : Nat → Int32) (x1 : Int32) (x2 : Int32) (x3 : Int32) (x4 : Int32) : Option (Int32) := oLet (x4 + 1) (fun v1 => rec3 v1)
def f_B_pointAt_L3 (nP : Int32) (bX : Nat → Int32) (bY : Nat → Int32) (bZ : Nat → Int32) (x1 : Int32) (x2 : Int32) (x3 : Int32) (rec3 : Int32 → Option (Int32)) (x4 : Int32) : Option (Int32) := if nP ≤ x4 then some (-1) else oIn x4 60 (if (bX x4.toNatClampNeg) = x1 then oIn x4 60 (if (bY x4.toNatClampNeg) = x2 then oIn x4 60 (if (bZ x4.toNatClampNeg) = x3 then some x4 else f_B_pointAt_J48 rec3 nP bX bY bZ x1 x2 x3 x4) else f_B_pointAt_J48 rec3 nP bX bY bZ x1 x2 x3 x4) else f_B_pointAt_J48 rec3 nP bX bY bZ x1 x2 x3 x4)
def f_B_pointAt (nP : Int32) (bX : Nat → Int32) (bY : Nat → Int32) (bZ : Nat → Int32) (x1 : Int32) (x2 : Int32) (x3 : Int32) : Option (Int32) := oLoop1 (f_B_pointAt_L3  nP bX bY bZ x1 x2 x3) 100 0
def f_B_sideOf (bS : Nat → Int64) (x1 : Int32) (x2 : Int32) : Option (Int32) := oIn x1 60 (some ((((bS x1.toNatClampNeg) >>> ((2 * x2).toInt64 &&& 63)) &&& 3).toInt32))
def f_B_imageOf (nP : Int32) (bX : Nat → Int32) (bY : Nat → Int32) (bZ : Nat → Int32) (x1 : Int32) (x2 : Int32) : Option (Int32) := oIn x1 60 (oLet (bX x1.toNatClampNeg) (fun v2 => oIn x1 60 (oLet (bY x1.toNatClampNeg) (fun v4 => oIn x1 60 (oLet (bZ x1.toNatClampNeg) (fun v6 => oCall1 (f_W_coordinate x2 0 v2 v4 v6) (fun r7 => oCall1 (f_W_coordinate x2 1 v2 v4 v6) (fun r8 => oCall1 (f_W_coordinate x2 2 v2 v4 v6) (fun r9 => oCall1 (f_B_pointAt nP bX bY bZ r7 r8 r9) (fun r10 => some r10))))))))))
def f_B_leastAlike_L2 (bS : Nat → Int64) (x1 : Int32) (rec2 : Int32 → Option (Int32)) (x2 : Int32) : Option (Int32) := if x1 ≤ x2 then some x1 else oIn x2 60 (oIn x1 60 (if (lg_cmp (bS x2.toNatClampNeg) (bS x1.toNatClampNeg)) = 0 then some x2 else oLet (x2 + 1) (fun v5 => rec2 v5)))
def f_B_leastAlike (bS : Nat → Int64) (x1 : Int32) : Option (Int32) := oLoop1 (f_B_leastAlike_L2  bS x1) 100 0
def f_B_piecesBefore_J21 (rec4 : Int32 → Int32 → Option (Int32)) (bS : Nat → Int64) (x1 : Int32) (x2 : Int32) (x3 : Int32) : Option (Int32) := oLet (x3 + 1) (fun v1 => rec4 x2 v1)
def f_B_piecesBefore_L4 (bS : Nat → Int64) (x1 : Int32) (rec4 : Int32 → Int32 → Option (Int32)) (x2 : Int32) (x3 : Int32) : Option (Int32) := if x1 ≤ x3 then some x2 else oCall1 (f_B_leastAlike bS x3) (fun r3 => if r3 = x3 then oLet (x2 + 1) (fun v5 => f_B_piecesBefore_J21 rec4 bS x1 v5 x3) else f_B_piecesBefore_J21 rec4 bS x1 x2 x3)
def f_B_piecesBefore (bS : Nat → Int64) (x1 : Int32) : Option (Int32) := oLoop2 (f_B_piecesBefore_L4  bS x1) 100 0 0
def f_B_takesPointsToPoints_L2 (nP : Int32) (bX : Nat → Int32) (bY : Nat → Int32) (bZ : Nat → Int32) (x1 : Int32) (rec2 : Int32 → Option (Int32)) (x2 : Int32) : Option (Int32) := if nP ≤ x2 then some 1 else oCall1 (f_B_imageOf nP bX bY bZ x2 x1) (fun r2 => if r2 = (-1) then some 0 else oLet (x2 + 1) (fun v4 => rec2 v4))
def f_B_takesPointsToPoints (nP : Int32) (bX : Nat → Int32) (bY : Nat → Int32) (bZ : Nat → Int32) (x1 : Int32) : Option (Int32) := oLoop1 (f_B_takesPointsToPoints_L2  nP bX bY bZ x1) 100 0
def f_B_isSamePlane (bA : Nat → Int32) (bB : Nat → Int32) (bC : Nat → Int32) (bD : Nat → Int32) (x1 : Int32) (x2 : Int32) (x3 : Int32) (x4 : Int32) (x5 : Int32) : Option (Int32) := oIn x1 20 (oIn x1 20 (if ((bA x1.toNatClampNeg) * x3) = ((bB x1.toNatClampNeg) * x2) then oIn x1 20 (oIn x1 20 (if ((bA x1.toNatClampNeg) * x4) = ((bC x1.toNatClampNeg) * x2) then oIn x1 20 (oIn x1 20 (if ((bB x1.toNatClampNeg) * x4) = ((bC x1.toNatClampNeg) * x3) then oIn x1 20 (oIn x1 20 (if ((bA x1.toNatClampNeg) * x5) = ((bD x1.toNatClampNeg) * x2) then oIn x1 20 (oIn x1 20 (if ((bB x1.toNatClampNeg) * x5) = ((bD x1.toNatClampNeg) * x3) then oIn x1 20 (oIn x1 20 (if ((bC x1.toNatClampNeg) * x5) = ((bD x1.toNatClampNeg) * x4) then some 1 else some 0)) else some 0)) else some 0)) else some 0)) else some 0)) else some 0))
def f_B_hasPlaneWhere_L3 (nQ : Int32) (bA : Nat → Int32) (bB : Nat → Int32) (bC : Nat → Int32) (bD : Nat → Int32) (x1 : Int32) (x2 : Int32) (x3 : Int32) (x4 : Int32) (rec3 : Int32 → Option (Int32)) (x5 : Int32) : Option (Int32) := if nQ ≤ x5 then some 0 else oCall1 (f_B_isSamePlane bA bB bC bD x5 x1 x2 x3 x4) (fun r2 => if r2 = 0 then oLet (x5 + 1) (fun v4 => rec3 v4) else some 1)
def f_B_hasPlaneWhere (nQ : Int32) (bA : Nat → Int32) (bB : Nat → Int32) (bC : Nat → Int32) (bD : Nat → Int32) (x1 : Int32) (x2 : Int32) (x3 : Int32) (x4 : Int32) : Option (Int32) := oLoop1 (f_B_hasPlaneWhere_L3  nQ bA bB bC bD x1 x2 x3 x4) 100 0
def f_B_takesPlanesToPlanes_L2 (nQ : Int32) (bA : Nat → Int32) (bB : Nat → Int32) (bC : Nat → Int32) (bD : Nat → Int32) (x1 : Int32) (rec2 : Int32 → Option (Int32)) (x2 : Int32) : Option (Int32) := if nQ ≤ x2 then some 1 else oIn x2 20 (oIn x2 20 (oIn x2 20 (oCall1 (f_W_coordinate x1 0 (bA x2.toNatClampNeg) (bB x2.toNatClampNeg) (bC x2.toNatClampNeg)) (fun r5 => oIn x2 20 (oIn x2 20 (oIn x2 20 (oCall1 (f_W_coordinate x1 1 (bA x2.toNatClampNeg) (bB x2.toNatClampNeg) (bC x2.toNatClampNeg)) (fun r9 => oIn x2 20 (oIn x2 20 (oIn x2 20 (oCall1 (f_W_coordinate x1 2 (bA x2.toNatClampNeg) (bB x2.toNatClampNeg) (bC x2.toNatClampNeg)) (fun r13 => oIn x2 20 (oCall1 (f_B_hasPlaneWhere nQ bA bB bC bD r5 r9 r13 (bD x2.toNatClampNeg)) (fun r15 => if r15 = 0 then some 0 else oLet (x2 + 1) (fun v17 => rec2 v17)))))))))))))))
def f_B_takesPlanesToPlanes (nQ : Int32) (bA : Nat → Int32) (bB : Nat → Int32) (bC : Nat → Int32) (bD : Nat → Int32) (x1 : Int32) : Option (Int32) := oLoop1 (f_B_takesPlanesToPlanes_L2  nQ bA bB bC bD x1) 100 0
end
section
theorem d_W_xGoesTo_0 : decode b_W_xGoesTo 0 = .ok (.iload_n 0, 1) := by decide +kernel
theorem d_W_xGoesTo_1 : decode b_W_xGoesTo 1 = .ok (.iconst 4, 1) := by decide +kernel
theorem d_W_xGoesTo_2 : decode b_W_xGoesTo 2 = .ok (.idiv, 1) := by decide +kernel
theorem d_W_xGoesTo_3 : decode b_W_xGoesTo 3 = .ok (.ireturn, 1) := by decide +kernel
theorem d_W_yGoesTo_0 : decode b_W_yGoesTo 0 = .ok (.iload_n 0, 1) := by decide +kernel
theorem d_W_yGoesTo_1 : decode b_W_yGoesTo 1 = .ok (.iconst 4, 1) := by decide +kernel
theorem d_W_yGoesTo_2 : decode b_W_yGoesTo 2 = .ok (.irem, 1) := by decide +kernel
theorem d_W_yGoesTo_3 : decode b_W_yGoesTo 3 = .ok (.istore_n 1, 1) := by decide +kernel
theorem d_W_yGoesTo_4 : decode b_W_yGoesTo 4 = .ok (.iload_n 0, 1) := by decide +kernel
theorem d_W_yGoesTo_5 : decode b_W_yGoesTo 5 = .ok (.invokestatic 7, 3) := by decide +kernel
theorem d_W_yGoesTo_8 : decode b_W_yGoesTo 8 = .ok (.iconst 2, 1) := by decide +kernel
theorem d_W_yGoesTo_9 : decode b_W_yGoesTo 9 = .ok (.idiv, 1) := by decide +kernel
theorem d_W_yGoesTo_10 : decode b_W_yGoesTo 10 = .ok (.iconst 2, 1) := by decide +kernel
theorem d_W_yGoesTo_11 : decode b_W_yGoesTo 11 = .ok (.imul, 1) := by decide +kernel
theorem d_W_yGoesTo_12 : decode b_W_yGoesTo 12 = .ok (.istore_n 2, 1) := by decide +kernel
theorem d_W_yGoesTo_13 : decode b_W_yGoesTo 13 = .ok (.iload_n 1, 1) := by decide +kernel
theorem d_W_yGoesTo_14 : decode b_W_yGoesTo 14 = .ok (.iload_n 2, 1) := by decide +kernel
theorem d_W_yGoesTo_15 : decode b_W_yGoesTo 15 = .ok (.if_icmp .ge 7, 3) := by decide +kernel
theorem d_W_yGoesTo_18 : decode b_W_yGoesTo 18 = .ok (.iload_n 1, 1) := by decide +kernel
theorem d_W_yGoesTo_19 : decode b_W_yGoesTo 19 = .ok (.goto 6, 3) := by decide +kernel
theorem d_W_yGoesTo_22 : decode b_W_yGoesTo 22 = .ok (.iload_n 1, 1) := by decide +kernel
theorem d_W_yGoesTo_23 : decode b_W_yGoesTo 23 = .ok (.iconst 2, 1) := by decide +kernel
theorem d_W_yGoesTo_24 : decode b_W_yGoesTo 24 = .ok (.iadd, 1) := by decide +kernel
theorem d_W_yGoesTo_25 : decode b_W_yGoesTo 25 = .ok (.ireturn, 1) := by decide +kernel
theorem d_W_zGoesTo_0 : decode b_W_zGoesTo 0 = .ok (.iload_n 0, 1) := by decide +kernel
theorem d_W_zGoesTo_1 : decode b_W_zGoesTo 1 = .ok (.invokestatic 7, 3) := by decide +kernel
theorem d_W_zGoesTo_4 : decode b_W_zGoesTo 4 = .ok (.istore_n 1, 1) := by decide +kernel
theorem d_W_zGoesTo_5 : decode b_W_zGoesTo 5 = .ok (.iload_n 0, 1) := by decide +kernel
theorem d_W_zGoesTo_6 : decode b_W_zGoesTo 6 = .ok (.invokestatic 13, 3) := by decide +kernel
theorem d_W_zGoesTo_9 : decode b_W_zGoesTo 9 = .ok (.istore_n 2, 1) := by decide +kernel
theorem d_W_zGoesTo_10 : decode b_W_zGoesTo 10 = .ok (.iconst 3, 1) := by decide +kernel
theorem d_W_zGoesTo_11 : decode b_W_zGoesTo 11 = .ok (.iload_n 1, 1) := by decide +kernel
theorem d_W_zGoesTo_12 : decode b_W_zGoesTo 12 = .ok (.iconst 2, 1) := by decide +kernel
theorem d_W_zGoesTo_13 : decode b_W_zGoesTo 13 = .ok (.idiv, 1) := by decide +kernel
theorem d_W_zGoesTo_14 : decode b_W_zGoesTo 14 = .ok (.isub, 1) := by decide +kernel
theorem d_W_zGoesTo_15 : decode b_W_zGoesTo 15 = .ok (.iload_n 2, 1) := by decide +kernel
theorem d_W_zGoesTo_16 : decode b_W_zGoesTo 16 = .ok (.iconst 2, 1) := by decide +kernel
theorem d_W_zGoesTo_17 : decode b_W_zGoesTo 17 = .ok (.idiv, 1) := by decide +kernel
theorem d_W_zGoesTo_18 : decode b_W_zGoesTo 18 = .ok (.isub, 1) := by decide +kernel
theorem d_W_zGoesTo_19 : decode b_W_zGoesTo 19 = .ok (.istore_n 3, 1) := by decide +kernel
theorem d_W_zGoesTo_20 : decode b_W_zGoesTo 20 = .ok (.iload_n 1, 1) := by decide +kernel
theorem d_W_zGoesTo_21 : decode b_W_zGoesTo 21 = .ok (.iconst 2, 1) := by decide +kernel
theorem d_W_zGoesTo_22 : decode b_W_zGoesTo 22 = .ok (.idiv, 1) := by decide +kernel
theorem d_W_zGoesTo_23 : decode b_W_zGoesTo 23 = .ok (.iconst 1, 1) := by decide +kernel
theorem d_W_zGoesTo_24 : decode b_W_zGoesTo 24 = .ok (.iadd, 1) := by decide +kernel
theorem d_W_zGoesTo_25 : decode b_W_zGoesTo 25 = .ok (.iconst 3, 1) := by decide +kernel
theorem d_W_zGoesTo_26 : decode b_W_zGoesTo 26 = .ok (.irem, 1) := by decide +kernel
theorem d_W_zGoesTo_27 : decode b_W_zGoesTo 27 = .ok (.iload_n 2, 1) := by decide +kernel
theorem d_W_zGoesTo_28 : decode b_W_zGoesTo 28 = .ok (.iconst 2, 1) := by decide +kernel
theorem d_W_zGoesTo_29 : decode b_W_zGoesTo 29 = .ok (.idiv, 1) := by decide +kernel
theorem d_W_zGoesTo_30 : decode b_W_zGoesTo 30 = .ok (.if_icmp .ne 7, 3) := by decide +kernel
theorem d_W_zGoesTo_33 : decode b_W_zGoesTo 33 = .ok (.iconst 0, 1) := by decide +kernel
theorem d_W_zGoesTo_34 : decode b_W_zGoesTo 34 = .ok (.goto 4, 3) := by decide +kernel
theorem d_W_zGoesTo_37 : decode b_W_zGoesTo 37 = .ok (.iconst 1, 1) := by decide +kernel
theorem d_W_zGoesTo_38 : decode b_W_zGoesTo 38 = .ok (.istore 4, 2) := by decide +kernel
theorem d_W_zGoesTo_40 : decode b_W_zGoesTo 40 = .ok (.iconst 2, 1) := by decide +kernel
theorem d_W_zGoesTo_41 : decode b_W_zGoesTo 41 = .ok (.iload_n 3, 1) := by decide +kernel
theorem d_W_zGoesTo_42 : decode b_W_zGoesTo 42 = .ok (.imul, 1) := by decide +kernel
theorem d_W_zGoesTo_43 : decode b_W_zGoesTo 43 = .ok (.iload_n 1, 1) := by decide +kernel
theorem d_W_zGoesTo_44 : decode b_W_zGoesTo 44 = .ok (.iload_n 2, 1) := by decide +kernel
theorem d_W_zGoesTo_45 : decode b_W_zGoesTo 45 = .ok (.iadd, 1) := by decide +kernel
theorem d_W_zGoesTo_46 : decode b_W_zGoesTo 46 = .ok (.iload 4, 2) := by decide +kernel
theorem d_W_zGoesTo_48 : decode b_W_zGoesTo 48 = .ok (.iadd, 1) := by decide +kernel
theorem d_W_zGoesTo_49 : decode b_W_zGoesTo 49 = .ok (.iconst 2, 1) := by decide +kernel
theorem d_W_zGoesTo_50 : decode b_W_zGoesTo 50 = .ok (.irem, 1) := by decide +kernel
theorem d_W_zGoesTo_51 : decode b_W_zGoesTo 51 = .ok (.iadd, 1) := by decide +kernel
theorem d_W_zGoesTo_52 : decode b_W_zGoesTo 52 = .ok (.ireturn, 1) := by decide +kernel
theorem d_W_numberOf_0 : decode b_W_numberOf 0 = .ok (.iconst 4, 1) := by decide +kernel
theorem d_W_numberOf_1 : decode b_W_numberOf 1 = .ok (.iload_n 0, 1) := by decide +kernel
theorem d_W_numberOf_2 : decode b_W_numberOf 2 = .ok (.imul, 1) := by decide +kernel
theorem d_W_numberOf_3 : decode b_W_numberOf 3 = .ok (.iload_n 1, 1) := by decide +kernel
theorem d_W_numberOf_4 : decode b_W_numberOf 4 = .ok (.iload_n 0, 1) := by decide +kernel
theorem d_W_numberOf_5 : decode b_W_numberOf 5 = .ok (.if_icmp .ge 7, 3) := by decide +kernel
theorem d_W_numberOf_8 : decode b_W_numberOf 8 = .ok (.iload_n 1, 1) := by decide +kernel
theorem d_W_numberOf_9 : decode b_W_numberOf 9 = .ok (.goto 6, 3) := by decide +kernel
theorem d_W_numberOf_12 : decode b_W_numberOf 12 = .ok (.iload_n 1, 1) := by decide +kernel
theorem d_W_numberOf_13 : decode b_W_numberOf 13 = .ok (.iconst 2, 1) := by decide +kernel
theorem d_W_numberOf_14 : decode b_W_numberOf 14 = .ok (.isub, 1) := by decide +kernel
theorem d_W_numberOf_15 : decode b_W_numberOf 15 = .ok (.iadd, 1) := by decide +kernel
theorem d_W_numberOf_16 : decode b_W_numberOf 16 = .ok (.ireturn, 1) := by decide +kernel
theorem d_W_directionTo_0 : decode b_W_directionTo 0 = .ok (.iload_n 1, 1) := by decide +kernel
theorem d_W_directionTo_1 : decode b_W_directionTo 1 = .ok (.iconst 2, 1) := by decide +kernel
theorem d_W_directionTo_2 : decode b_W_directionTo 2 = .ok (.idiv, 1) := by decide +kernel
theorem d_W_directionTo_3 : decode b_W_directionTo 3 = .ok (.istore_n 2, 1) := by decide +kernel
theorem d_W_directionTo_4 : decode b_W_directionTo 4 = .ok (.iload_n 2, 1) := by decide +kernel
theorem d_W_directionTo_5 : decode b_W_directionTo 5 = .ok (.ifCond .ne 10, 3) := by decide +kernel
theorem d_W_directionTo_8 : decode b_W_directionTo 8 = .ok (.iload_n 0, 1) := by decide +kernel
theorem d_W_directionTo_9 : decode b_W_directionTo 9 = .ok (.invokestatic 7, 3) := by decide +kernel
theorem d_W_directionTo_12 : decode b_W_directionTo 12 = .ok (.goto 19, 3) := by decide +kernel
theorem d_W_directionTo_15 : decode b_W_directionTo 15 = .ok (.iload_n 2, 1) := by decide +kernel
theorem d_W_directionTo_16 : decode b_W_directionTo 16 = .ok (.iconst 1, 1) := by decide +kernel
theorem d_W_directionTo_17 : decode b_W_directionTo 17 = .ok (.if_icmp .ne 10, 3) := by decide +kernel
theorem d_W_directionTo_20 : decode b_W_directionTo 20 = .ok (.iload_n 0, 1) := by decide +kernel
theorem d_W_directionTo_21 : decode b_W_directionTo 21 = .ok (.invokestatic 13, 3) := by decide +kernel
theorem d_W_directionTo_24 : decode b_W_directionTo 24 = .ok (.goto 7, 3) := by decide +kernel
theorem d_W_directionTo_27 : decode b_W_directionTo 27 = .ok (.iload_n 0, 1) := by decide +kernel
theorem d_W_directionTo_28 : decode b_W_directionTo 28 = .ok (.invokestatic 16, 3) := by decide +kernel
theorem d_W_directionTo_31 : decode b_W_directionTo 31 = .ok (.istore_n 3, 1) := by decide +kernel
theorem d_W_directionTo_32 : decode b_W_directionTo 32 = .ok (.iload_n 3, 1) := by decide +kernel
theorem d_W_directionTo_33 : decode b_W_directionTo 33 = .ok (.iload_n 1, 1) := by decide +kernel
theorem d_W_directionTo_34 : decode b_W_directionTo 34 = .ok (.iconst 1, 1) := by decide +kernel
theorem d_W_directionTo_35 : decode b_W_directionTo 35 = .ok (.iand, 1) := by decide +kernel
theorem d_W_directionTo_36 : decode b_W_directionTo 36 = .ok (.ixor, 1) := by decide +kernel
theorem d_W_directionTo_37 : decode b_W_directionTo 37 = .ok (.ireturn, 1) := by decide +kernel
theorem d_W_compose_0 : decode b_W_compose 0 = .ok (.iload_n 0, 1) := by decide +kernel
theorem d_W_compose_1 : decode b_W_compose 1 = .ok (.iload_n 1, 1) := by decide +kernel
theorem d_W_compose_2 : decode b_W_compose 2 = .ok (.invokestatic 7, 3) := by decide +kernel
theorem d_W_compose_5 : decode b_W_compose 5 = .ok (.invokestatic 19, 3) := by decide +kernel
theorem d_W_compose_8 : decode b_W_compose 8 = .ok (.iload_n 0, 1) := by decide +kernel
theorem d_W_compose_9 : decode b_W_compose 9 = .ok (.iload_n 1, 1) := by decide +kernel
theorem d_W_compose_10 : decode b_W_compose 10 = .ok (.invokestatic 13, 3) := by decide +kernel
theorem d_W_compose_13 : decode b_W_compose 13 = .ok (.invokestatic 19, 3) := by decide +kernel
theorem d_W_compose_16 : decode b_W_compose 16 = .ok (.invokestatic 23, 3) := by decide +kernel
theorem d_W_compose_19 : decode b_W_compose 19 = .ok (.ireturn, 1) := by decide +kernel
theorem d_W_orderOf_0 : decode b_W_orderOf 0 = .ok (.iload_n 0, 1) := by decide +kernel
theorem d_W_orderOf_1 : decode b_W_orderOf 1 = .ok (.istore_n 1, 1) := by decide +kernel
theorem d_W_orderOf_2 : decode b_W_orderOf 2 = .ok (.iconst 1, 1) := by decide +kernel
theorem d_W_orderOf_3 : decode b_W_orderOf 3 = .ok (.istore_n 2, 1) := by decide +kernel
theorem d_W_orderOf_4 : decode b_W_orderOf 4 = .ok (.iload_n 1, 1) := by decide +kernel
theorem d_W_orderOf_5 : decode b_W_orderOf 5 = .ok (.ifCond .eq 20, 3) := by decide +kernel
theorem d_W_orderOf_8 : decode b_W_orderOf 8 = .ok (.iload_n 2, 1) := by decide +kernel
theorem d_W_orderOf_9 : decode b_W_orderOf 9 = .ok (.iconst 4, 1) := by decide +kernel
theorem d_W_orderOf_10 : decode b_W_orderOf 10 = .ok (.if_icmp .ge 15, 3) := by decide +kernel
theorem d_W_orderOf_13 : decode b_W_orderOf 13 = .ok (.iload_n 0, 1) := by decide +kernel
theorem d_W_orderOf_14 : decode b_W_orderOf 14 = .ok (.iload_n 1, 1) := by decide +kernel
theorem d_W_orderOf_15 : decode b_W_orderOf 15 = .ok (.invokestatic 26, 3) := by decide +kernel
theorem d_W_orderOf_18 : decode b_W_orderOf 18 = .ok (.istore_n 1, 1) := by decide +kernel
theorem d_W_orderOf_19 : decode b_W_orderOf 19 = .ok (.iinc 2 1, 3) := by decide +kernel
theorem d_W_orderOf_22 : decode b_W_orderOf 22 = .ok (.goto (-18), 3) := by decide +kernel
theorem d_W_orderOf_25 : decode b_W_orderOf 25 = .ok (.iload_n 2, 1) := by decide +kernel
theorem d_W_orderOf_26 : decode b_W_orderOf 26 = .ok (.ireturn, 1) := by decide +kernel
theorem d_W_part_0 : decode b_W_part 0 = .ok (.iload_n 0, 1) := by decide +kernel
theorem d_W_part_1 : decode b_W_part 1 = .ok (.iconst 2, 1) := by decide +kernel
theorem d_W_part_2 : decode b_W_part 2 = .ok (.idiv, 1) := by decide +kernel
theorem d_W_part_3 : decode b_W_part 3 = .ok (.iload_n 1, 1) := by decide +kernel
theorem d_W_part_4 : decode b_W_part 4 = .ok (.if_icmp .eq 5, 3) := by decide +kernel
theorem d_W_part_7 : decode b_W_part 7 = .ok (.iconst 0, 1) := by decide +kernel
theorem d_W_part_8 : decode b_W_part 8 = .ok (.ireturn, 1) := by decide +kernel
theorem d_W_part_9 : decode b_W_part 9 = .ok (.iload_n 0, 1) := by decide +kernel
theorem d_W_part_10 : decode b_W_part 10 = .ok (.iconst 2, 1) := by decide +kernel
theorem d_W_part_11 : decode b_W_part 11 = .ok (.irem, 1) := by decide +kernel
theorem d_W_part_12 : decode b_W_part 12 = .ok (.ifCond .ne 7, 3) := by decide +kernel
theorem d_W_part_15 : decode b_W_part 15 = .ok (.iload_n 2, 1) := by decide +kernel
theorem d_W_part_16 : decode b_W_part 16 = .ok (.goto 5, 3) := by decide +kernel
theorem d_W_part_19 : decode b_W_part 19 = .ok (.iload_n 2, 1) := by decide +kernel
theorem d_W_part_20 : decode b_W_part 20 = .ok (.ineg, 1) := by decide +kernel
theorem d_W_part_21 : decode b_W_part 21 = .ok (.ireturn, 1) := by decide +kernel
theorem d_W_coordinate_0 : decode b_W_coordinate 0 = .ok (.iload_n 0, 1) := by decide +kernel
theorem d_W_coordinate_1 : decode b_W_coordinate 1 = .ok (.invokestatic 7, 3) := by decide +kernel
theorem d_W_coordinate_4 : decode b_W_coordinate 4 = .ok (.iload_n 1, 1) := by decide +kernel
theorem d_W_coordinate_5 : decode b_W_coordinate 5 = .ok (.iload_n 2, 1) := by decide +kernel
theorem d_W_coordinate_6 : decode b_W_coordinate 6 = .ok (.invokestatic 29, 3) := by decide +kernel
theorem d_W_coordinate_9 : decode b_W_coordinate 9 = .ok (.iload_n 0, 1) := by decide +kernel
theorem d_W_coordinate_10 : decode b_W_coordinate 10 = .ok (.invokestatic 13, 3) := by decide +kernel
theorem d_W_coordinate_13 : decode b_W_coordinate 13 = .ok (.iload_n 1, 1) := by decide +kernel
theorem d_W_coordinate_14 : decode b_W_coordinate 14 = .ok (.iload_n 3, 1) := by decide +kernel
theorem d_W_coordinate_15 : decode b_W_coordinate 15 = .ok (.invokestatic 29, 3) := by decide +kernel
theorem d_W_coordinate_18 : decode b_W_coordinate 18 = .ok (.iadd, 1) := by decide +kernel
theorem d_W_coordinate_19 : decode b_W_coordinate 19 = .ok (.iload_n 0, 1) := by decide +kernel
theorem d_W_coordinate_20 : decode b_W_coordinate 20 = .ok (.invokestatic 16, 3) := by decide +kernel
theorem d_W_coordinate_23 : decode b_W_coordinate 23 = .ok (.iload_n 1, 1) := by decide +kernel
theorem d_W_coordinate_24 : decode b_W_coordinate 24 = .ok (.iload 4, 2) := by decide +kernel
theorem d_W_coordinate_26 : decode b_W_coordinate 26 = .ok (.invokestatic 29, 3) := by decide +kernel
theorem d_W_coordinate_29 : decode b_W_coordinate 29 = .ok (.iadd, 1) := by decide +kernel
theorem d_W_coordinate_30 : decode b_W_coordinate 30 = .ok (.ireturn, 1) := by decide +kernel
theorem d_W_directionOf_0 : decode b_W_directionOf 0 = .ok (.iload_n 0, 1) := by decide +kernel
theorem d_W_directionOf_1 : decode b_W_directionOf 1 = .ok (.ifCond .eq 13, 3) := by decide +kernel
theorem d_W_directionOf_4 : decode b_W_directionOf 4 = .ok (.iload_n 0, 1) := by decide +kernel
theorem d_W_directionOf_5 : decode b_W_directionOf 5 = .ok (.ifCond .le 7, 3) := by decide +kernel
theorem d_W_directionOf_8 : decode b_W_directionOf 8 = .ok (.iconst 0, 1) := by decide +kernel
theorem d_W_directionOf_9 : decode b_W_directionOf 9 = .ok (.goto 4, 3) := by decide +kernel
theorem d_W_directionOf_12 : decode b_W_directionOf 12 = .ok (.iconst 1, 1) := by decide +kernel
theorem d_W_directionOf_13 : decode b_W_directionOf 13 = .ok (.ireturn, 1) := by decide +kernel
theorem d_W_directionOf_14 : decode b_W_directionOf 14 = .ok (.iload_n 1, 1) := by decide +kernel
theorem d_W_directionOf_15 : decode b_W_directionOf 15 = .ok (.ifCond .eq 13, 3) := by decide +kernel
theorem d_W_directionOf_18 : decode b_W_directionOf 18 = .ok (.iload_n 1, 1) := by decide +kernel
theorem d_W_directionOf_19 : decode b_W_directionOf 19 = .ok (.ifCond .le 7, 3) := by decide +kernel
theorem d_W_directionOf_22 : decode b_W_directionOf 22 = .ok (.iconst 2, 1) := by decide +kernel
theorem d_W_directionOf_23 : decode b_W_directionOf 23 = .ok (.goto 4, 3) := by decide +kernel
theorem d_W_directionOf_26 : decode b_W_directionOf 26 = .ok (.iconst 3, 1) := by decide +kernel
theorem d_W_directionOf_27 : decode b_W_directionOf 27 = .ok (.ireturn, 1) := by decide +kernel
theorem d_W_directionOf_28 : decode b_W_directionOf 28 = .ok (.iload_n 2, 1) := by decide +kernel
theorem d_W_directionOf_29 : decode b_W_directionOf 29 = .ok (.ifCond .le 7, 3) := by decide +kernel
theorem d_W_directionOf_32 : decode b_W_directionOf 32 = .ok (.iconst 4, 1) := by decide +kernel
theorem d_W_directionOf_33 : decode b_W_directionOf 33 = .ok (.goto 4, 3) := by decide +kernel
theorem d_W_directionOf_36 : decode b_W_directionOf 36 = .ok (.iconst 5, 1) := by decide +kernel
theorem d_W_directionOf_37 : decode b_W_directionOf 37 = .ok (.ireturn, 1) := by decide +kernel
theorem d_W_stepAbout_0 : decode b_W_stepAbout 0 = .ok (.iload_n 0, 1) := by decide +kernel
theorem d_W_stepAbout_1 : decode b_W_stepAbout 1 = .ok (.iload_n 0, 1) := by decide +kernel
theorem d_W_stepAbout_2 : decode b_W_stepAbout 2 = .ok (.imul, 1) := by decide +kernel
theorem d_W_stepAbout_3 : decode b_W_stepAbout 3 = .ok (.iload_n 1, 1) := by decide +kernel
theorem d_W_stepAbout_4 : decode b_W_stepAbout 4 = .ok (.iload_n 1, 1) := by decide +kernel
theorem d_W_stepAbout_5 : decode b_W_stepAbout 5 = .ok (.imul, 1) := by decide +kernel
theorem d_W_stepAbout_6 : decode b_W_stepAbout 6 = .ok (.iadd, 1) := by decide +kernel
theorem d_W_stepAbout_7 : decode b_W_stepAbout 7 = .ok (.iload_n 2, 1) := by decide +kernel
theorem d_W_stepAbout_8 : decode b_W_stepAbout 8 = .ok (.iload_n 2, 1) := by decide +kernel
theorem d_W_stepAbout_9 : decode b_W_stepAbout 9 = .ok (.imul, 1) := by decide +kernel
theorem d_W_stepAbout_10 : decode b_W_stepAbout 10 = .ok (.iadd, 1) := by decide +kernel
theorem d_W_stepAbout_11 : decode b_W_stepAbout 11 = .ok (.istore_n 3, 1) := by decide +kernel
theorem d_W_stepAbout_12 : decode b_W_stepAbout 12 = .ok (.iload_n 3, 1) := by decide +kernel
theorem d_W_stepAbout_13 : decode b_W_stepAbout 13 = .ok (.iconst 2, 1) := by decide +kernel
theorem d_W_stepAbout_14 : decode b_W_stepAbout 14 = .ok (.if_icmp .ne 7, 3) := by decide +kernel
theorem d_W_stepAbout_17 : decode b_W_stepAbout 17 = .ok (.iconst 0, 1) := by decide +kernel
theorem d_W_stepAbout_18 : decode b_W_stepAbout 18 = .ok (.goto 4, 3) := by decide +kernel
theorem d_W_stepAbout_21 : decode b_W_stepAbout 21 = .ok (.iconst 1, 1) := by decide +kernel
theorem d_W_stepAbout_22 : decode b_W_stepAbout 22 = .ok (.istore 4, 2) := by decide +kernel
theorem d_W_stepAbout_24 : decode b_W_stepAbout 24 = .ok (.iload_n 3, 1) := by decide +kernel
theorem d_W_stepAbout_25 : decode b_W_stepAbout 25 = .ok (.iconst 1, 1) := by decide +kernel
theorem d_W_stepAbout_26 : decode b_W_stepAbout 26 = .ok (.if_icmp .ne 7, 3) := by decide +kernel
theorem d_W_stepAbout_29 : decode b_W_stepAbout 29 = .ok (.iconst 0, 1) := by decide +kernel
theorem d_W_stepAbout_30 : decode b_W_stepAbout 30 = .ok (.goto 4, 3) := by decide +kernel
theorem d_W_stepAbout_33 : decode b_W_stepAbout 33 = .ok (.iconst 1, 1) := by decide +kernel
theorem d_W_stepAbout_34 : decode b_W_stepAbout 34 = .ok (.istore 5, 2) := by decide +kernel
theorem d_W_stepAbout_36 : decode b_W_stepAbout 36 = .ok (.iload_n 3, 1) := by decide +kernel
theorem d_W_stepAbout_37 : decode b_W_stepAbout 37 = .ok (.iconst 3, 1) := by decide +kernel
theorem d_W_stepAbout_38 : decode b_W_stepAbout 38 = .ok (.if_icmp .ne 7, 3) := by decide +kernel
theorem d_W_stepAbout_41 : decode b_W_stepAbout 41 = .ok (.iconst 2, 1) := by decide +kernel
theorem d_W_stepAbout_42 : decode b_W_stepAbout 42 = .ok (.goto 4, 3) := by decide +kernel
theorem d_W_stepAbout_45 : decode b_W_stepAbout 45 = .ok (.iconst 1, 1) := by decide +kernel
theorem d_W_stepAbout_46 : decode b_W_stepAbout 46 = .ok (.istore 6, 2) := by decide +kernel
theorem d_W_stepAbout_48 : decode b_W_stepAbout 48 = .ok (.iload_n 0, 1) := by decide +kernel
theorem d_W_stepAbout_49 : decode b_W_stepAbout 49 = .ok (.iload_n 0, 1) := by decide +kernel
theorem d_W_stepAbout_50 : decode b_W_stepAbout 50 = .ok (.imul, 1) := by decide +kernel
theorem d_W_stepAbout_51 : decode b_W_stepAbout 51 = .ok (.iload 5, 2) := by decide +kernel
theorem d_W_stepAbout_53 : decode b_W_stepAbout 53 = .ok (.isub, 1) := by decide +kernel
theorem d_W_stepAbout_54 : decode b_W_stepAbout 54 = .ok (.iload 6, 2) := by decide +kernel
theorem d_W_stepAbout_56 : decode b_W_stepAbout 56 = .ok (.idiv, 1) := by decide +kernel
theorem d_W_stepAbout_57 : decode b_W_stepAbout 57 = .ok (.iload_n 0, 1) := by decide +kernel
theorem d_W_stepAbout_58 : decode b_W_stepAbout 58 = .ok (.iload_n 1, 1) := by decide +kernel
theorem d_W_stepAbout_59 : decode b_W_stepAbout 59 = .ok (.imul, 1) := by decide +kernel
theorem d_W_stepAbout_60 : decode b_W_stepAbout 60 = .ok (.iload 4, 2) := by decide +kernel
theorem d_W_stepAbout_62 : decode b_W_stepAbout 62 = .ok (.iload_n 2, 1) := by decide +kernel
theorem d_W_stepAbout_63 : decode b_W_stepAbout 63 = .ok (.imul, 1) := by decide +kernel
theorem d_W_stepAbout_64 : decode b_W_stepAbout 64 = .ok (.iadd, 1) := by decide +kernel
theorem d_W_stepAbout_65 : decode b_W_stepAbout 65 = .ok (.iload 6, 2) := by decide +kernel
theorem d_W_stepAbout_67 : decode b_W_stepAbout 67 = .ok (.idiv, 1) := by decide +kernel
theorem d_W_stepAbout_68 : decode b_W_stepAbout 68 = .ok (.iload_n 0, 1) := by decide +kernel
theorem d_W_stepAbout_69 : decode b_W_stepAbout 69 = .ok (.iload_n 2, 1) := by decide +kernel
theorem d_W_stepAbout_70 : decode b_W_stepAbout 70 = .ok (.imul, 1) := by decide +kernel
theorem d_W_stepAbout_71 : decode b_W_stepAbout 71 = .ok (.iload 4, 2) := by decide +kernel
theorem d_W_stepAbout_73 : decode b_W_stepAbout 73 = .ok (.iload_n 1, 1) := by decide +kernel
theorem d_W_stepAbout_74 : decode b_W_stepAbout 74 = .ok (.imul, 1) := by decide +kernel
theorem d_W_stepAbout_75 : decode b_W_stepAbout 75 = .ok (.isub, 1) := by decide +kernel
theorem d_W_stepAbout_76 : decode b_W_stepAbout 76 = .ok (.iload 6, 2) := by decide +kernel
theorem d_W_stepAbout_78 : decode b_W_stepAbout 78 = .ok (.idiv, 1) := by decide +kernel
theorem d_W_stepAbout_79 : decode b_W_stepAbout 79 = .ok (.invokestatic 33, 3) := by decide +kernel
theorem d_W_stepAbout_82 : decode b_W_stepAbout 82 = .ok (.istore 7, 2) := by decide +kernel
theorem d_W_stepAbout_84 : decode b_W_stepAbout 84 = .ok (.iload_n 0, 1) := by decide +kernel
theorem d_W_stepAbout_85 : decode b_W_stepAbout 85 = .ok (.iload_n 1, 1) := by decide +kernel
theorem d_W_stepAbout_86 : decode b_W_stepAbout 86 = .ok (.imul, 1) := by decide +kernel
theorem d_W_stepAbout_87 : decode b_W_stepAbout 87 = .ok (.iload 4, 2) := by decide +kernel
theorem d_W_stepAbout_89 : decode b_W_stepAbout 89 = .ok (.iload_n 2, 1) := by decide +kernel
theorem d_W_stepAbout_90 : decode b_W_stepAbout 90 = .ok (.imul, 1) := by decide +kernel
theorem d_W_stepAbout_91 : decode b_W_stepAbout 91 = .ok (.isub, 1) := by decide +kernel
theorem d_W_stepAbout_92 : decode b_W_stepAbout 92 = .ok (.iload 6, 2) := by decide +kernel
theorem d_W_stepAbout_94 : decode b_W_stepAbout 94 = .ok (.idiv, 1) := by decide +kernel
theorem d_W_stepAbout_95 : decode b_W_stepAbout 95 = .ok (.iload_n 1, 1) := by decide +kernel
theorem d_W_stepAbout_96 : decode b_W_stepAbout 96 = .ok (.iload_n 1, 1) := by decide +kernel
theorem d_W_stepAbout_97 : decode b_W_stepAbout 97 = .ok (.imul, 1) := by decide +kernel
theorem d_W_stepAbout_98 : decode b_W_stepAbout 98 = .ok (.iload 5, 2) := by decide +kernel
theorem d_W_stepAbout_100 : decode b_W_stepAbout 100 = .ok (.isub, 1) := by decide +kernel
theorem d_W_stepAbout_101 : decode b_W_stepAbout 101 = .ok (.iload 6, 2) := by decide +kernel
theorem d_W_stepAbout_103 : decode b_W_stepAbout 103 = .ok (.idiv, 1) := by decide +kernel
theorem d_W_stepAbout_104 : decode b_W_stepAbout 104 = .ok (.iload_n 1, 1) := by decide +kernel
theorem d_W_stepAbout_105 : decode b_W_stepAbout 105 = .ok (.iload_n 2, 1) := by decide +kernel
theorem d_W_stepAbout_106 : decode b_W_stepAbout 106 = .ok (.imul, 1) := by decide +kernel
theorem d_W_stepAbout_107 : decode b_W_stepAbout 107 = .ok (.iload 4, 2) := by decide +kernel
theorem d_W_stepAbout_109 : decode b_W_stepAbout 109 = .ok (.iload_n 0, 1) := by decide +kernel
theorem d_W_stepAbout_110 : decode b_W_stepAbout 110 = .ok (.imul, 1) := by decide +kernel
theorem d_W_stepAbout_111 : decode b_W_stepAbout 111 = .ok (.iadd, 1) := by decide +kernel
theorem d_W_stepAbout_112 : decode b_W_stepAbout 112 = .ok (.iload 6, 2) := by decide +kernel
theorem d_W_stepAbout_114 : decode b_W_stepAbout 114 = .ok (.idiv, 1) := by decide +kernel
theorem d_W_stepAbout_115 : decode b_W_stepAbout 115 = .ok (.invokestatic 33, 3) := by decide +kernel
theorem d_W_stepAbout_118 : decode b_W_stepAbout 118 = .ok (.istore 8, 2) := by decide +kernel
theorem d_W_stepAbout_120 : decode b_W_stepAbout 120 = .ok (.iload 7, 2) := by decide +kernel
theorem d_W_stepAbout_122 : decode b_W_stepAbout 122 = .ok (.iload 8, 2) := by decide +kernel
theorem d_W_stepAbout_124 : decode b_W_stepAbout 124 = .ok (.invokestatic 23, 3) := by decide +kernel
theorem d_W_stepAbout_127 : decode b_W_stepAbout 127 = .ok (.ireturn, 1) := by decide +kernel
end
section
theorem d_X_isWithin_0 : decode b_X_isWithin 0 = .ok (.iload_n 0, 1) := by decide +kernel
theorem d_X_isWithin_1 : decode b_X_isWithin 1 = .ok (.iload_n 1, 1) := by decide +kernel
theorem d_X_isWithin_2 : decode b_X_isWithin 2 = .ok (.ineg, 1) := by decide +kernel
theorem d_X_isWithin_3 : decode b_X_isWithin 3 = .ok (.if_icmp .lt 12, 3) := by decide +kernel
theorem d_X_isWithin_6 : decode b_X_isWithin 6 = .ok (.iload_n 0, 1) := by decide +kernel
theorem d_X_isWithin_7 : decode b_X_isWithin 7 = .ok (.iload_n 1, 1) := by decide +kernel
theorem d_X_isWithin_8 : decode b_X_isWithin 8 = .ok (.if_icmp .gt 7, 3) := by decide +kernel
theorem d_X_isWithin_11 : decode b_X_isWithin 11 = .ok (.iconst 1, 1) := by decide +kernel
theorem d_X_isWithin_12 : decode b_X_isWithin 12 = .ok (.goto 4, 3) := by decide +kernel
theorem d_X_isWithin_15 : decode b_X_isWithin 15 = .ok (.iconst 0, 1) := by decide +kernel
theorem d_X_isWithin_16 : decode b_X_isWithin 16 = .ok (.ireturn, 1) := by decide +kernel
theorem d_B_hasPoint_0 : decode b_B_hasPoint 0 = .ok (.iload_n 1, 1) := by decide +kernel
theorem d_B_hasPoint_1 : decode b_B_hasPoint 1 = .ok (.ifCond .lt 15, 3) := by decide +kernel
theorem d_B_hasPoint_4 : decode b_B_hasPoint 4 = .ok (.iload_n 1, 1) := by decide +kernel
theorem d_B_hasPoint_5 : decode b_B_hasPoint 5 = .ok (.aload_n 0, 1) := by decide +kernel
theorem d_B_hasPoint_6 : decode b_B_hasPoint 6 = .ok (.getfield 21, 3) := by decide +kernel
theorem d_B_hasPoint_9 : decode b_B_hasPoint 9 = .ok (.if_icmp .ge 7, 3) := by decide +kernel
theorem d_B_hasPoint_12 : decode b_B_hasPoint 12 = .ok (.iconst 1, 1) := by decide +kernel
theorem d_B_hasPoint_13 : decode b_B_hasPoint 13 = .ok (.goto 4, 3) := by decide +kernel
theorem d_B_hasPoint_16 : decode b_B_hasPoint 16 = .ok (.iconst 0, 1) := by decide +kernel
theorem d_B_hasPoint_17 : decode b_B_hasPoint 17 = .ok (.ireturn, 1) := by decide +kernel
theorem d_B_hasPlane_0 : decode b_B_hasPlane 0 = .ok (.iload_n 1, 1) := by decide +kernel
theorem d_B_hasPlane_1 : decode b_B_hasPlane 1 = .ok (.ifCond .lt 15, 3) := by decide +kernel
theorem d_B_hasPlane_4 : decode b_B_hasPlane 4 = .ok (.iload_n 1, 1) := by decide +kernel
theorem d_B_hasPlane_5 : decode b_B_hasPlane 5 = .ok (.aload_n 0, 1) := by decide +kernel
theorem d_B_hasPlane_6 : decode b_B_hasPlane 6 = .ok (.getfield 37, 3) := by decide +kernel
theorem d_B_hasPlane_9 : decode b_B_hasPlane 9 = .ok (.if_icmp .ge 7, 3) := by decide +kernel
theorem d_B_hasPlane_12 : decode b_B_hasPlane 12 = .ok (.iconst 1, 1) := by decide +kernel
theorem d_B_hasPlane_13 : decode b_B_hasPlane 13 = .ok (.goto 4, 3) := by decide +kernel
theorem d_B_hasPlane_16 : decode b_B_hasPlane 16 = .ok (.iconst 0, 1) := by decide +kernel
theorem d_B_hasPlane_17 : decode b_B_hasPlane 17 = .ok (.ireturn, 1) := by decide +kernel
theorem d_B_pointAt_0 : decode b_B_pointAt 0 = .ok (.iconst 0, 1) := by decide +kernel
theorem d_B_pointAt_1 : decode b_B_pointAt 1 = .ok (.istore 4, 2) := by decide +kernel
theorem d_B_pointAt_3 : decode b_B_pointAt 3 = .ok (.iload 4, 2) := by decide +kernel
theorem d_B_pointAt_5 : decode b_B_pointAt 5 = .ok (.aload_n 0, 1) := by decide +kernel
theorem d_B_pointAt_6 : decode b_B_pointAt 6 = .ok (.getfield 21, 3) := by decide +kernel
theorem d_B_pointAt_9 : decode b_B_pointAt 9 = .ok (.if_icmp .ge 45, 3) := by decide +kernel
theorem d_B_pointAt_12 : decode b_B_pointAt 12 = .ok (.aload_n 0, 1) := by decide +kernel
theorem d_B_pointAt_13 : decode b_B_pointAt 13 = .ok (.getfield 9, 3) := by decide +kernel
theorem d_B_pointAt_16 : decode b_B_pointAt 16 = .ok (.iload 4, 2) := by decide +kernel
theorem d_B_pointAt_18 : decode b_B_pointAt 18 = .ok (.iaload, 1) := by decide +kernel
theorem d_B_pointAt_19 : decode b_B_pointAt 19 = .ok (.iload_n 1, 1) := by decide +kernel
theorem d_B_pointAt_20 : decode b_B_pointAt 20 = .ok (.if_icmp .ne 28, 3) := by decide +kernel
theorem d_B_pointAt_23 : decode b_B_pointAt 23 = .ok (.aload_n 0, 1) := by decide +kernel
theorem d_B_pointAt_24 : decode b_B_pointAt 24 = .ok (.getfield 15, 3) := by decide +kernel
theorem d_B_pointAt_27 : decode b_B_pointAt 27 = .ok (.iload 4, 2) := by decide +kernel
theorem d_B_pointAt_29 : decode b_B_pointAt 29 = .ok (.iaload, 1) := by decide +kernel
theorem d_B_pointAt_30 : decode b_B_pointAt 30 = .ok (.iload_n 2, 1) := by decide +kernel
theorem d_B_pointAt_31 : decode b_B_pointAt 31 = .ok (.if_icmp .ne 17, 3) := by decide +kernel
theorem d_B_pointAt_34 : decode b_B_pointAt 34 = .ok (.aload_n 0, 1) := by decide +kernel
theorem d_B_pointAt_35 : decode b_B_pointAt 35 = .ok (.getfield 18, 3) := by decide +kernel
theorem d_B_pointAt_38 : decode b_B_pointAt 38 = .ok (.iload 4, 2) := by decide +kernel
theorem d_B_pointAt_40 : decode b_B_pointAt 40 = .ok (.iaload, 1) := by decide +kernel
theorem d_B_pointAt_41 : decode b_B_pointAt 41 = .ok (.iload_n 3, 1) := by decide +kernel
theorem d_B_pointAt_42 : decode b_B_pointAt 42 = .ok (.if_icmp .ne 6, 3) := by decide +kernel
theorem d_B_pointAt_45 : decode b_B_pointAt 45 = .ok (.iload 4, 2) := by decide +kernel
theorem d_B_pointAt_47 : decode b_B_pointAt 47 = .ok (.ireturn, 1) := by decide +kernel
theorem d_B_pointAt_48 : decode b_B_pointAt 48 = .ok (.iinc 4 1, 3) := by decide +kernel
theorem d_B_pointAt_51 : decode b_B_pointAt 51 = .ok (.goto (-48), 3) := by decide +kernel
theorem d_B_pointAt_54 : decode b_B_pointAt 54 = .ok (.iconst (-1), 1) := by decide +kernel
theorem d_B_pointAt_55 : decode b_B_pointAt 55 = .ok (.ireturn, 1) := by decide +kernel
theorem d_B_sideOf_0 : decode b_B_sideOf 0 = .ok (.aload_n 0, 1) := by decide +kernel
theorem d_B_sideOf_1 : decode b_B_sideOf 1 = .ok (.getfield 40, 3) := by decide +kernel
theorem d_B_sideOf_4 : decode b_B_sideOf 4 = .ok (.iload_n 1, 1) := by decide +kernel
theorem d_B_sideOf_5 : decode b_B_sideOf 5 = .ok (.laload, 1) := by decide +kernel
theorem d_B_sideOf_6 : decode b_B_sideOf 6 = .ok (.iconst 2, 1) := by decide +kernel
theorem d_B_sideOf_7 : decode b_B_sideOf 7 = .ok (.iload_n 2, 1) := by decide +kernel
theorem d_B_sideOf_8 : decode b_B_sideOf 8 = .ok (.imul, 1) := by decide +kernel
theorem d_B_sideOf_9 : decode b_B_sideOf 9 = .ok (.lshr, 1) := by decide +kernel
theorem d_B_sideOf_10 : decode b_B_sideOf 10 = .ok (.ldc2_w 58, 3) := by decide +kernel
theorem d_B_sideOf_13 : decode b_B_sideOf 13 = .ok (.land, 1) := by decide +kernel
theorem d_B_sideOf_14 : decode b_B_sideOf 14 = .ok (.l2i, 1) := by decide +kernel
theorem d_B_sideOf_15 : decode b_B_sideOf 15 = .ok (.ireturn, 1) := by decide +kernel
theorem d_B_imageOf_0 : decode b_B_imageOf 0 = .ok (.aload_n 0, 1) := by decide +kernel
theorem d_B_imageOf_1 : decode b_B_imageOf 1 = .ok (.getfield 9, 3) := by decide +kernel
theorem d_B_imageOf_4 : decode b_B_imageOf 4 = .ok (.iload_n 1, 1) := by decide +kernel
theorem d_B_imageOf_5 : decode b_B_imageOf 5 = .ok (.iaload, 1) := by decide +kernel
theorem d_B_imageOf_6 : decode b_B_imageOf 6 = .ok (.istore_n 3, 1) := by decide +kernel
theorem d_B_imageOf_7 : decode b_B_imageOf 7 = .ok (.aload_n 0, 1) := by decide +kernel
theorem d_B_imageOf_8 : decode b_B_imageOf 8 = .ok (.getfield 15, 3) := by decide +kernel
theorem d_B_imageOf_11 : decode b_B_imageOf 11 = .ok (.iload_n 1, 1) := by decide +kernel
theorem d_B_imageOf_12 : decode b_B_imageOf 12 = .ok (.iaload, 1) := by decide +kernel
theorem d_B_imageOf_13 : decode b_B_imageOf 13 = .ok (.istore 4, 2) := by decide +kernel
theorem d_B_imageOf_15 : decode b_B_imageOf 15 = .ok (.aload_n 0, 1) := by decide +kernel
theorem d_B_imageOf_16 : decode b_B_imageOf 16 = .ok (.getfield 18, 3) := by decide +kernel
theorem d_B_imageOf_19 : decode b_B_imageOf 19 = .ok (.iload_n 1, 1) := by decide +kernel
theorem d_B_imageOf_20 : decode b_B_imageOf 20 = .ok (.iaload, 1) := by decide +kernel
theorem d_B_imageOf_21 : decode b_B_imageOf 21 = .ok (.istore 5, 2) := by decide +kernel
theorem d_B_imageOf_23 : decode b_B_imageOf 23 = .ok (.aload_n 0, 1) := by decide +kernel
theorem d_B_imageOf_24 : decode b_B_imageOf 24 = .ok (.iload_n 2, 1) := by decide +kernel
theorem d_B_imageOf_25 : decode b_B_imageOf 25 = .ok (.iconst 0, 1) := by decide +kernel
theorem d_B_imageOf_26 : decode b_B_imageOf 26 = .ok (.iload_n 3, 1) := by decide +kernel
theorem d_B_imageOf_27 : decode b_B_imageOf 27 = .ok (.iload 4, 2) := by decide +kernel
theorem d_B_imageOf_29 : decode b_B_imageOf 29 = .ok (.iload 5, 2) := by decide +kernel
theorem d_B_imageOf_31 : decode b_B_imageOf 31 = .ok (.invokestatic 60, 3) := by decide +kernel
theorem d_B_imageOf_34 : decode b_B_imageOf 34 = .ok (.iload_n 2, 1) := by decide +kernel
theorem d_B_imageOf_35 : decode b_B_imageOf 35 = .ok (.iconst 1, 1) := by decide +kernel
theorem d_B_imageOf_36 : decode b_B_imageOf 36 = .ok (.iload_n 3, 1) := by decide +kernel
theorem d_B_imageOf_37 : decode b_B_imageOf 37 = .ok (.iload 4, 2) := by decide +kernel
theorem d_B_imageOf_39 : decode b_B_imageOf 39 = .ok (.iload 5, 2) := by decide +kernel
theorem d_B_imageOf_41 : decode b_B_imageOf 41 = .ok (.invokestatic 60, 3) := by decide +kernel
theorem d_B_imageOf_44 : decode b_B_imageOf 44 = .ok (.iload_n 2, 1) := by decide +kernel
theorem d_B_imageOf_45 : decode b_B_imageOf 45 = .ok (.iconst 2, 1) := by decide +kernel
theorem d_B_imageOf_46 : decode b_B_imageOf 46 = .ok (.iload_n 3, 1) := by decide +kernel
theorem d_B_imageOf_47 : decode b_B_imageOf 47 = .ok (.iload 4, 2) := by decide +kernel
theorem d_B_imageOf_49 : decode b_B_imageOf 49 = .ok (.iload 5, 2) := by decide +kernel
theorem d_B_imageOf_51 : decode b_B_imageOf 51 = .ok (.invokestatic 60, 3) := by decide +kernel
theorem d_B_imageOf_54 : decode b_B_imageOf 54 = .ok (.invokevirtual 48, 3) := by decide +kernel
theorem d_B_imageOf_57 : decode b_B_imageOf 57 = .ok (.ireturn, 1) := by decide +kernel
theorem d_B_leastAlike_0 : decode b_B_leastAlike 0 = .ok (.iconst 0, 1) := by decide +kernel
theorem d_B_leastAlike_1 : decode b_B_leastAlike 1 = .ok (.istore_n 2, 1) := by decide +kernel
theorem d_B_leastAlike_2 : decode b_B_leastAlike 2 = .ok (.iload_n 2, 1) := by decide +kernel
theorem d_B_leastAlike_3 : decode b_B_leastAlike 3 = .ok (.iload_n 1, 1) := by decide +kernel
theorem d_B_leastAlike_4 : decode b_B_leastAlike 4 = .ok (.if_icmp .ge 27, 3) := by decide +kernel
theorem d_B_leastAlike_7 : decode b_B_leastAlike 7 = .ok (.aload_n 0, 1) := by decide +kernel
theorem d_B_leastAlike_8 : decode b_B_leastAlike 8 = .ok (.getfield 40, 3) := by decide +kernel
theorem d_B_leastAlike_11 : decode b_B_leastAlike 11 = .ok (.iload_n 2, 1) := by decide +kernel
theorem d_B_leastAlike_12 : decode b_B_leastAlike 12 = .ok (.laload, 1) := by decide +kernel
theorem d_B_leastAlike_13 : decode b_B_leastAlike 13 = .ok (.aload_n 0, 1) := by decide +kernel
theorem d_B_leastAlike_14 : decode b_B_leastAlike 14 = .ok (.getfield 40, 3) := by decide +kernel
theorem d_B_leastAlike_17 : decode b_B_leastAlike 17 = .ok (.iload_n 1, 1) := by decide +kernel
theorem d_B_leastAlike_18 : decode b_B_leastAlike 18 = .ok (.laload, 1) := by decide +kernel
theorem d_B_leastAlike_19 : decode b_B_leastAlike 19 = .ok (.lcmp, 1) := by decide +kernel
theorem d_B_leastAlike_20 : decode b_B_leastAlike 20 = .ok (.ifCond .ne 5, 3) := by decide +kernel
theorem d_B_leastAlike_23 : decode b_B_leastAlike 23 = .ok (.iload_n 2, 1) := by decide +kernel
theorem d_B_leastAlike_24 : decode b_B_leastAlike 24 = .ok (.ireturn, 1) := by decide +kernel
theorem d_B_leastAlike_25 : decode b_B_leastAlike 25 = .ok (.iinc 2 1, 3) := by decide +kernel
theorem d_B_leastAlike_28 : decode b_B_leastAlike 28 = .ok (.goto (-26), 3) := by decide +kernel
theorem d_B_leastAlike_31 : decode b_B_leastAlike 31 = .ok (.iload_n 1, 1) := by decide +kernel
theorem d_B_leastAlike_32 : decode b_B_leastAlike 32 = .ok (.ireturn, 1) := by decide +kernel
theorem d_B_piecesBefore_0 : decode b_B_piecesBefore 0 = .ok (.iconst 0, 1) := by decide +kernel
theorem d_B_piecesBefore_1 : decode b_B_piecesBefore 1 = .ok (.istore_n 2, 1) := by decide +kernel
theorem d_B_piecesBefore_2 : decode b_B_piecesBefore 2 = .ok (.iconst 0, 1) := by decide +kernel
theorem d_B_piecesBefore_3 : decode b_B_piecesBefore 3 = .ok (.istore_n 3, 1) := by decide +kernel
theorem d_B_piecesBefore_4 : decode b_B_piecesBefore 4 = .ok (.iload_n 3, 1) := by decide +kernel
theorem d_B_piecesBefore_5 : decode b_B_piecesBefore 5 = .ok (.iload_n 1, 1) := by decide +kernel
theorem d_B_piecesBefore_6 : decode b_B_piecesBefore 6 = .ok (.if_icmp .ge 21, 3) := by decide +kernel
theorem d_B_piecesBefore_9 : decode b_B_piecesBefore 9 = .ok (.aload_n 0, 1) := by decide +kernel
theorem d_B_piecesBefore_10 : decode b_B_piecesBefore 10 = .ok (.iload_n 3, 1) := by decide +kernel
theorem d_B_piecesBefore_11 : decode b_B_piecesBefore 11 = .ok (.invokevirtual 66, 3) := by decide +kernel
theorem d_B_piecesBefore_14 : decode b_B_piecesBefore 14 = .ok (.iload_n 3, 1) := by decide +kernel
theorem d_B_piecesBefore_15 : decode b_B_piecesBefore 15 = .ok (.if_icmp .ne 6, 3) := by decide +kernel
theorem d_B_piecesBefore_18 : decode b_B_piecesBefore 18 = .ok (.iinc 2 1, 3) := by decide +kernel
theorem d_B_piecesBefore_21 : decode b_B_piecesBefore 21 = .ok (.iinc 3 1, 3) := by decide +kernel
theorem d_B_piecesBefore_24 : decode b_B_piecesBefore 24 = .ok (.goto (-20), 3) := by decide +kernel
theorem d_B_piecesBefore_27 : decode b_B_piecesBefore 27 = .ok (.iload_n 2, 1) := by decide +kernel
theorem d_B_piecesBefore_28 : decode b_B_piecesBefore 28 = .ok (.ireturn, 1) := by decide +kernel
theorem d_B_takesPointsToPoints_0 : decode b_B_takesPointsToPoints 0 = .ok (.iconst 0, 1) := by decide +kernel
theorem d_B_takesPointsToPoints_1 : decode b_B_takesPointsToPoints 1 = .ok (.istore_n 2, 1) := by decide +kernel
theorem d_B_takesPointsToPoints_2 : decode b_B_takesPointsToPoints 2 = .ok (.iload_n 2, 1) := by decide +kernel
theorem d_B_takesPointsToPoints_3 : decode b_B_takesPointsToPoints 3 = .ok (.aload_n 0, 1) := by decide +kernel
theorem d_B_takesPointsToPoints_4 : decode b_B_takesPointsToPoints 4 = .ok (.getfield 21, 3) := by decide +kernel
theorem d_B_takesPointsToPoints_7 : decode b_B_takesPointsToPoints 7 = .ok (.if_icmp .ge 21, 3) := by decide +kernel
theorem d_B_takesPointsToPoints_10 : decode b_B_takesPointsToPoints 10 = .ok (.aload_n 0, 1) := by decide +kernel
theorem d_B_takesPointsToPoints_11 : decode b_B_takesPointsToPoints 11 = .ok (.iload_n 2, 1) := by decide +kernel
theorem d_B_takesPointsToPoints_12 : decode b_B_takesPointsToPoints 12 = .ok (.iload_n 1, 1) := by decide +kernel
theorem d_B_takesPointsToPoints_13 : decode b_B_takesPointsToPoints 13 = .ok (.invokevirtual 70, 3) := by decide +kernel
theorem d_B_takesPointsToPoints_16 : decode b_B_takesPointsToPoints 16 = .ok (.iconst (-1), 1) := by decide +kernel
theorem d_B_takesPointsToPoints_17 : decode b_B_takesPointsToPoints 17 = .ok (.if_icmp .ne 5, 3) := by decide +kernel
theorem d_B_takesPointsToPoints_20 : decode b_B_takesPointsToPoints 20 = .ok (.iconst 0, 1) := by decide +kernel
theorem d_B_takesPointsToPoints_21 : decode b_B_takesPointsToPoints 21 = .ok (.ireturn, 1) := by decide +kernel
theorem d_B_takesPointsToPoints_22 : decode b_B_takesPointsToPoints 22 = .ok (.iinc 2 1, 3) := by decide +kernel
theorem d_B_takesPointsToPoints_25 : decode b_B_takesPointsToPoints 25 = .ok (.goto (-23), 3) := by decide +kernel
theorem d_B_takesPointsToPoints_28 : decode b_B_takesPointsToPoints 28 = .ok (.iconst 1, 1) := by decide +kernel
theorem d_B_takesPointsToPoints_29 : decode b_B_takesPointsToPoints 29 = .ok (.ireturn, 1) := by decide +kernel
theorem d_B_isSamePlane_0 : decode b_B_isSamePlane 0 = .ok (.aload_n 0, 1) := by decide +kernel
theorem d_B_isSamePlane_1 : decode b_B_isSamePlane 1 = .ok (.getfield 25, 3) := by decide +kernel
theorem d_B_isSamePlane_4 : decode b_B_isSamePlane 4 = .ok (.iload_n 1, 1) := by decide +kernel
theorem d_B_isSamePlane_5 : decode b_B_isSamePlane 5 = .ok (.iaload, 1) := by decide +kernel
theorem d_B_isSamePlane_6 : decode b_B_isSamePlane 6 = .ok (.iload_n 3, 1) := by decide +kernel
theorem d_B_isSamePlane_7 : decode b_B_isSamePlane 7 = .ok (.imul, 1) := by decide +kernel
theorem d_B_isSamePlane_8 : decode b_B_isSamePlane 8 = .ok (.aload_n 0, 1) := by decide +kernel
theorem d_B_isSamePlane_9 : decode b_B_isSamePlane 9 = .ok (.getfield 28, 3) := by decide +kernel
theorem d_B_isSamePlane_12 : decode b_B_isSamePlane 12 = .ok (.iload_n 1, 1) := by decide +kernel
theorem d_B_isSamePlane_13 : decode b_B_isSamePlane 13 = .ok (.iaload, 1) := by decide +kernel
theorem d_B_isSamePlane_14 : decode b_B_isSamePlane 14 = .ok (.iload_n 2, 1) := by decide +kernel
theorem d_B_isSamePlane_15 : decode b_B_isSamePlane 15 = .ok (.imul, 1) := by decide +kernel
theorem d_B_isSamePlane_16 : decode b_B_isSamePlane 16 = .ok (.if_icmp .ne 108, 3) := by decide +kernel
theorem d_B_isSamePlane_19 : decode b_B_isSamePlane 19 = .ok (.aload_n 0, 1) := by decide +kernel
theorem d_B_isSamePlane_20 : decode b_B_isSamePlane 20 = .ok (.getfield 25, 3) := by decide +kernel
theorem d_B_isSamePlane_23 : decode b_B_isSamePlane 23 = .ok (.iload_n 1, 1) := by decide +kernel
theorem d_B_isSamePlane_24 : decode b_B_isSamePlane 24 = .ok (.iaload, 1) := by decide +kernel
theorem d_B_isSamePlane_25 : decode b_B_isSamePlane 25 = .ok (.iload 4, 2) := by decide +kernel
theorem d_B_isSamePlane_27 : decode b_B_isSamePlane 27 = .ok (.imul, 1) := by decide +kernel
theorem d_B_isSamePlane_28 : decode b_B_isSamePlane 28 = .ok (.aload_n 0, 1) := by decide +kernel
theorem d_B_isSamePlane_29 : decode b_B_isSamePlane 29 = .ok (.getfield 31, 3) := by decide +kernel
theorem d_B_isSamePlane_32 : decode b_B_isSamePlane 32 = .ok (.iload_n 1, 1) := by decide +kernel
theorem d_B_isSamePlane_33 : decode b_B_isSamePlane 33 = .ok (.iaload, 1) := by decide +kernel
theorem d_B_isSamePlane_34 : decode b_B_isSamePlane 34 = .ok (.iload_n 2, 1) := by decide +kernel
theorem d_B_isSamePlane_35 : decode b_B_isSamePlane 35 = .ok (.imul, 1) := by decide +kernel
theorem d_B_isSamePlane_36 : decode b_B_isSamePlane 36 = .ok (.if_icmp .ne 88, 3) := by decide +kernel
theorem d_B_isSamePlane_39 : decode b_B_isSamePlane 39 = .ok (.aload_n 0, 1) := by decide +kernel
theorem d_B_isSamePlane_40 : decode b_B_isSamePlane 40 = .ok (.getfield 28, 3) := by decide +kernel
theorem d_B_isSamePlane_43 : decode b_B_isSamePlane 43 = .ok (.iload_n 1, 1) := by decide +kernel
theorem d_B_isSamePlane_44 : decode b_B_isSamePlane 44 = .ok (.iaload, 1) := by decide +kernel
theorem d_B_isSamePlane_45 : decode b_B_isSamePlane 45 = .ok (.iload 4, 2) := by decide +kernel
theorem d_B_isSamePlane_47 : decode b_B_isSamePlane 47 = .ok (.imul, 1) := by decide +kernel
theorem d_B_isSamePlane_48 : decode b_B_isSamePlane 48 = .ok (.aload_n 0, 1) := by decide +kernel
theorem d_B_isSamePlane_49 : decode b_B_isSamePlane 49 = .ok (.getfield 31, 3) := by decide +kernel
theorem d_B_isSamePlane_52 : decode b_B_isSamePlane 52 = .ok (.iload_n 1, 1) := by decide +kernel
theorem d_B_isSamePlane_53 : decode b_B_isSamePlane 53 = .ok (.iaload, 1) := by decide +kernel
theorem d_B_isSamePlane_54 : decode b_B_isSamePlane 54 = .ok (.iload_n 3, 1) := by decide +kernel
theorem d_B_isSamePlane_55 : decode b_B_isSamePlane 55 = .ok (.imul, 1) := by decide +kernel
theorem d_B_isSamePlane_56 : decode b_B_isSamePlane 56 = .ok (.if_icmp .ne 68, 3) := by decide +kernel
theorem d_B_isSamePlane_59 : decode b_B_isSamePlane 59 = .ok (.aload_n 0, 1) := by decide +kernel
theorem d_B_isSamePlane_60 : decode b_B_isSamePlane 60 = .ok (.getfield 25, 3) := by decide +kernel
theorem d_B_isSamePlane_63 : decode b_B_isSamePlane 63 = .ok (.iload_n 1, 1) := by decide +kernel
theorem d_B_isSamePlane_64 : decode b_B_isSamePlane 64 = .ok (.iaload, 1) := by decide +kernel
theorem d_B_isSamePlane_65 : decode b_B_isSamePlane 65 = .ok (.iload 5, 2) := by decide +kernel
theorem d_B_isSamePlane_67 : decode b_B_isSamePlane 67 = .ok (.imul, 1) := by decide +kernel
theorem d_B_isSamePlane_68 : decode b_B_isSamePlane 68 = .ok (.aload_n 0, 1) := by decide +kernel
theorem d_B_isSamePlane_69 : decode b_B_isSamePlane 69 = .ok (.getfield 34, 3) := by decide +kernel
theorem d_B_isSamePlane_72 : decode b_B_isSamePlane 72 = .ok (.iload_n 1, 1) := by decide +kernel
theorem d_B_isSamePlane_73 : decode b_B_isSamePlane 73 = .ok (.iaload, 1) := by decide +kernel
theorem d_B_isSamePlane_74 : decode b_B_isSamePlane 74 = .ok (.iload_n 2, 1) := by decide +kernel
theorem d_B_isSamePlane_75 : decode b_B_isSamePlane 75 = .ok (.imul, 1) := by decide +kernel
theorem d_B_isSamePlane_76 : decode b_B_isSamePlane 76 = .ok (.if_icmp .ne 48, 3) := by decide +kernel
theorem d_B_isSamePlane_79 : decode b_B_isSamePlane 79 = .ok (.aload_n 0, 1) := by decide +kernel
theorem d_B_isSamePlane_80 : decode b_B_isSamePlane 80 = .ok (.getfield 28, 3) := by decide +kernel
theorem d_B_isSamePlane_83 : decode b_B_isSamePlane 83 = .ok (.iload_n 1, 1) := by decide +kernel
theorem d_B_isSamePlane_84 : decode b_B_isSamePlane 84 = .ok (.iaload, 1) := by decide +kernel
theorem d_B_isSamePlane_85 : decode b_B_isSamePlane 85 = .ok (.iload 5, 2) := by decide +kernel
theorem d_B_isSamePlane_87 : decode b_B_isSamePlane 87 = .ok (.imul, 1) := by decide +kernel
theorem d_B_isSamePlane_88 : decode b_B_isSamePlane 88 = .ok (.aload_n 0, 1) := by decide +kernel
theorem d_B_isSamePlane_89 : decode b_B_isSamePlane 89 = .ok (.getfield 34, 3) := by decide +kernel
theorem d_B_isSamePlane_92 : decode b_B_isSamePlane 92 = .ok (.iload_n 1, 1) := by decide +kernel
theorem d_B_isSamePlane_93 : decode b_B_isSamePlane 93 = .ok (.iaload, 1) := by decide +kernel
theorem d_B_isSamePlane_94 : decode b_B_isSamePlane 94 = .ok (.iload_n 3, 1) := by decide +kernel
theorem d_B_isSamePlane_95 : decode b_B_isSamePlane 95 = .ok (.imul, 1) := by decide +kernel
theorem d_B_isSamePlane_96 : decode b_B_isSamePlane 96 = .ok (.if_icmp .ne 28, 3) := by decide +kernel
theorem d_B_isSamePlane_99 : decode b_B_isSamePlane 99 = .ok (.aload_n 0, 1) := by decide +kernel
theorem d_B_isSamePlane_100 : decode b_B_isSamePlane 100 = .ok (.getfield 31, 3) := by decide +kernel
theorem d_B_isSamePlane_103 : decode b_B_isSamePlane 103 = .ok (.iload_n 1, 1) := by decide +kernel
theorem d_B_isSamePlane_104 : decode b_B_isSamePlane 104 = .ok (.iaload, 1) := by decide +kernel
theorem d_B_isSamePlane_105 : decode b_B_isSamePlane 105 = .ok (.iload 5, 2) := by decide +kernel
theorem d_B_isSamePlane_107 : decode b_B_isSamePlane 107 = .ok (.imul, 1) := by decide +kernel
theorem d_B_isSamePlane_108 : decode b_B_isSamePlane 108 = .ok (.aload_n 0, 1) := by decide +kernel
theorem d_B_isSamePlane_109 : decode b_B_isSamePlane 109 = .ok (.getfield 34, 3) := by decide +kernel
theorem d_B_isSamePlane_112 : decode b_B_isSamePlane 112 = .ok (.iload_n 1, 1) := by decide +kernel
theorem d_B_isSamePlane_113 : decode b_B_isSamePlane 113 = .ok (.iaload, 1) := by decide +kernel
theorem d_B_isSamePlane_114 : decode b_B_isSamePlane 114 = .ok (.iload 4, 2) := by decide +kernel
theorem d_B_isSamePlane_116 : decode b_B_isSamePlane 116 = .ok (.imul, 1) := by decide +kernel
theorem d_B_isSamePlane_117 : decode b_B_isSamePlane 117 = .ok (.if_icmp .ne 7, 3) := by decide +kernel
theorem d_B_isSamePlane_120 : decode b_B_isSamePlane 120 = .ok (.iconst 1, 1) := by decide +kernel
theorem d_B_isSamePlane_121 : decode b_B_isSamePlane 121 = .ok (.goto 4, 3) := by decide +kernel
theorem d_B_isSamePlane_124 : decode b_B_isSamePlane 124 = .ok (.iconst 0, 1) := by decide +kernel
theorem d_B_isSamePlane_125 : decode b_B_isSamePlane 125 = .ok (.ireturn, 1) := by decide +kernel
theorem d_B_hasPlaneWhere_0 : decode b_B_hasPlaneWhere 0 = .ok (.iconst 0, 1) := by decide +kernel
theorem d_B_hasPlaneWhere_1 : decode b_B_hasPlaneWhere 1 = .ok (.istore 5, 2) := by decide +kernel
theorem d_B_hasPlaneWhere_3 : decode b_B_hasPlaneWhere 3 = .ok (.iload 5, 2) := by decide +kernel
theorem d_B_hasPlaneWhere_5 : decode b_B_hasPlaneWhere 5 = .ok (.aload_n 0, 1) := by decide +kernel
theorem d_B_hasPlaneWhere_6 : decode b_B_hasPlaneWhere 6 = .ok (.getfield 37, 3) := by decide +kernel
theorem d_B_hasPlaneWhere_9 : decode b_B_hasPlaneWhere 9 = .ok (.if_icmp .ge 25, 3) := by decide +kernel
theorem d_B_hasPlaneWhere_12 : decode b_B_hasPlaneWhere 12 = .ok (.aload_n 0, 1) := by decide +kernel
theorem d_B_hasPlaneWhere_13 : decode b_B_hasPlaneWhere 13 = .ok (.iload 5, 2) := by decide +kernel
theorem d_B_hasPlaneWhere_15 : decode b_B_hasPlaneWhere 15 = .ok (.iload_n 1, 1) := by decide +kernel
theorem d_B_hasPlaneWhere_16 : decode b_B_hasPlaneWhere 16 = .ok (.iload_n 2, 1) := by decide +kernel
theorem d_B_hasPlaneWhere_17 : decode b_B_hasPlaneWhere 17 = .ok (.iload_n 3, 1) := by decide +kernel
theorem d_B_hasPlaneWhere_18 : decode b_B_hasPlaneWhere 18 = .ok (.iload 4, 2) := by decide +kernel
theorem d_B_hasPlaneWhere_20 : decode b_B_hasPlaneWhere 20 = .ok (.invokevirtual 78, 3) := by decide +kernel
theorem d_B_hasPlaneWhere_23 : decode b_B_hasPlaneWhere 23 = .ok (.ifCond .eq 5, 3) := by decide +kernel
theorem d_B_hasPlaneWhere_26 : decode b_B_hasPlaneWhere 26 = .ok (.iconst 1, 1) := by decide +kernel
theorem d_B_hasPlaneWhere_27 : decode b_B_hasPlaneWhere 27 = .ok (.ireturn, 1) := by decide +kernel
theorem d_B_hasPlaneWhere_28 : decode b_B_hasPlaneWhere 28 = .ok (.iinc 5 1, 3) := by decide +kernel
theorem d_B_hasPlaneWhere_31 : decode b_B_hasPlaneWhere 31 = .ok (.goto (-28), 3) := by decide +kernel
theorem d_B_hasPlaneWhere_34 : decode b_B_hasPlaneWhere 34 = .ok (.iconst 0, 1) := by decide +kernel
theorem d_B_hasPlaneWhere_35 : decode b_B_hasPlaneWhere 35 = .ok (.ireturn, 1) := by decide +kernel
theorem d_B_takesPlanesToPlanes_0 : decode b_B_takesPlanesToPlanes 0 = .ok (.iconst 0, 1) := by decide +kernel
theorem d_B_takesPlanesToPlanes_1 : decode b_B_takesPlanesToPlanes 1 = .ok (.istore_n 2, 1) := by decide +kernel
theorem d_B_takesPlanesToPlanes_2 : decode b_B_takesPlanesToPlanes 2 = .ok (.iload_n 2, 1) := by decide +kernel
theorem d_B_takesPlanesToPlanes_3 : decode b_B_takesPlanesToPlanes 3 = .ok (.aload_n 0, 1) := by decide +kernel
theorem d_B_takesPlanesToPlanes_4 : decode b_B_takesPlanesToPlanes 4 = .ok (.getfield 37, 3) := by decide +kernel
theorem d_B_takesPlanesToPlanes_7 : decode b_B_takesPlanesToPlanes 7 = .ok (.if_icmp .ge 103, 3) := by decide +kernel
theorem d_B_takesPlanesToPlanes_10 : decode b_B_takesPlanesToPlanes 10 = .ok (.iload_n 1, 1) := by decide +kernel
theorem d_B_takesPlanesToPlanes_11 : decode b_B_takesPlanesToPlanes 11 = .ok (.iconst 0, 1) := by decide +kernel
theorem d_B_takesPlanesToPlanes_12 : decode b_B_takesPlanesToPlanes 12 = .ok (.aload_n 0, 1) := by decide +kernel
theorem d_B_takesPlanesToPlanes_13 : decode b_B_takesPlanesToPlanes 13 = .ok (.getfield 25, 3) := by decide +kernel
theorem d_B_takesPlanesToPlanes_16 : decode b_B_takesPlanesToPlanes 16 = .ok (.iload_n 2, 1) := by decide +kernel
theorem d_B_takesPlanesToPlanes_17 : decode b_B_takesPlanesToPlanes 17 = .ok (.iaload, 1) := by decide +kernel
theorem d_B_takesPlanesToPlanes_18 : decode b_B_takesPlanesToPlanes 18 = .ok (.aload_n 0, 1) := by decide +kernel
theorem d_B_takesPlanesToPlanes_19 : decode b_B_takesPlanesToPlanes 19 = .ok (.getfield 28, 3) := by decide +kernel
theorem d_B_takesPlanesToPlanes_22 : decode b_B_takesPlanesToPlanes 22 = .ok (.iload_n 2, 1) := by decide +kernel
theorem d_B_takesPlanesToPlanes_23 : decode b_B_takesPlanesToPlanes 23 = .ok (.iaload, 1) := by decide +kernel
theorem d_B_takesPlanesToPlanes_24 : decode b_B_takesPlanesToPlanes 24 = .ok (.aload_n 0, 1) := by decide +kernel
theorem d_B_takesPlanesToPlanes_25 : decode b_B_takesPlanesToPlanes 25 = .ok (.getfield 31, 3) := by decide +kernel
theorem d_B_takesPlanesToPlanes_28 : decode b_B_takesPlanesToPlanes 28 = .ok (.iload_n 2, 1) := by decide +kernel
theorem d_B_takesPlanesToPlanes_29 : decode b_B_takesPlanesToPlanes 29 = .ok (.iaload, 1) := by decide +kernel
theorem d_B_takesPlanesToPlanes_30 : decode b_B_takesPlanesToPlanes 30 = .ok (.invokestatic 60, 3) := by decide +kernel
theorem d_B_takesPlanesToPlanes_33 : decode b_B_takesPlanesToPlanes 33 = .ok (.istore_n 3, 1) := by decide +kernel
theorem d_B_takesPlanesToPlanes_34 : decode b_B_takesPlanesToPlanes 34 = .ok (.iload_n 1, 1) := by decide +kernel
theorem d_B_takesPlanesToPlanes_35 : decode b_B_takesPlanesToPlanes 35 = .ok (.iconst 1, 1) := by decide +kernel
theorem d_B_takesPlanesToPlanes_36 : decode b_B_takesPlanesToPlanes 36 = .ok (.aload_n 0, 1) := by decide +kernel
theorem d_B_takesPlanesToPlanes_37 : decode b_B_takesPlanesToPlanes 37 = .ok (.getfield 25, 3) := by decide +kernel
theorem d_B_takesPlanesToPlanes_40 : decode b_B_takesPlanesToPlanes 40 = .ok (.iload_n 2, 1) := by decide +kernel
theorem d_B_takesPlanesToPlanes_41 : decode b_B_takesPlanesToPlanes 41 = .ok (.iaload, 1) := by decide +kernel
theorem d_B_takesPlanesToPlanes_42 : decode b_B_takesPlanesToPlanes 42 = .ok (.aload_n 0, 1) := by decide +kernel
theorem d_B_takesPlanesToPlanes_43 : decode b_B_takesPlanesToPlanes 43 = .ok (.getfield 28, 3) := by decide +kernel
theorem d_B_takesPlanesToPlanes_46 : decode b_B_takesPlanesToPlanes 46 = .ok (.iload_n 2, 1) := by decide +kernel
theorem d_B_takesPlanesToPlanes_47 : decode b_B_takesPlanesToPlanes 47 = .ok (.iaload, 1) := by decide +kernel
theorem d_B_takesPlanesToPlanes_48 : decode b_B_takesPlanesToPlanes 48 = .ok (.aload_n 0, 1) := by decide +kernel
theorem d_B_takesPlanesToPlanes_49 : decode b_B_takesPlanesToPlanes 49 = .ok (.getfield 31, 3) := by decide +kernel
theorem d_B_takesPlanesToPlanes_52 : decode b_B_takesPlanesToPlanes 52 = .ok (.iload_n 2, 1) := by decide +kernel
theorem d_B_takesPlanesToPlanes_53 : decode b_B_takesPlanesToPlanes 53 = .ok (.iaload, 1) := by decide +kernel
theorem d_B_takesPlanesToPlanes_54 : decode b_B_takesPlanesToPlanes 54 = .ok (.invokestatic 60, 3) := by decide +kernel
theorem d_B_takesPlanesToPlanes_57 : decode b_B_takesPlanesToPlanes 57 = .ok (.istore 4, 2) := by decide +kernel
theorem d_B_takesPlanesToPlanes_59 : decode b_B_takesPlanesToPlanes 59 = .ok (.iload_n 1, 1) := by decide +kernel
theorem d_B_takesPlanesToPlanes_60 : decode b_B_takesPlanesToPlanes 60 = .ok (.iconst 2, 1) := by decide +kernel
theorem d_B_takesPlanesToPlanes_61 : decode b_B_takesPlanesToPlanes 61 = .ok (.aload_n 0, 1) := by decide +kernel
theorem d_B_takesPlanesToPlanes_62 : decode b_B_takesPlanesToPlanes 62 = .ok (.getfield 25, 3) := by decide +kernel
theorem d_B_takesPlanesToPlanes_65 : decode b_B_takesPlanesToPlanes 65 = .ok (.iload_n 2, 1) := by decide +kernel
theorem d_B_takesPlanesToPlanes_66 : decode b_B_takesPlanesToPlanes 66 = .ok (.iaload, 1) := by decide +kernel
theorem d_B_takesPlanesToPlanes_67 : decode b_B_takesPlanesToPlanes 67 = .ok (.aload_n 0, 1) := by decide +kernel
theorem d_B_takesPlanesToPlanes_68 : decode b_B_takesPlanesToPlanes 68 = .ok (.getfield 28, 3) := by decide +kernel
theorem d_B_takesPlanesToPlanes_71 : decode b_B_takesPlanesToPlanes 71 = .ok (.iload_n 2, 1) := by decide +kernel
theorem d_B_takesPlanesToPlanes_72 : decode b_B_takesPlanesToPlanes 72 = .ok (.iaload, 1) := by decide +kernel
theorem d_B_takesPlanesToPlanes_73 : decode b_B_takesPlanesToPlanes 73 = .ok (.aload_n 0, 1) := by decide +kernel
theorem d_B_takesPlanesToPlanes_74 : decode b_B_takesPlanesToPlanes 74 = .ok (.getfield 31, 3) := by decide +kernel
theorem d_B_takesPlanesToPlanes_77 : decode b_B_takesPlanesToPlanes 77 = .ok (.iload_n 2, 1) := by decide +kernel
theorem d_B_takesPlanesToPlanes_78 : decode b_B_takesPlanesToPlanes 78 = .ok (.iaload, 1) := by decide +kernel
theorem d_B_takesPlanesToPlanes_79 : decode b_B_takesPlanesToPlanes 79 = .ok (.invokestatic 60, 3) := by decide +kernel
theorem d_B_takesPlanesToPlanes_82 : decode b_B_takesPlanesToPlanes 82 = .ok (.istore 5, 2) := by decide +kernel
theorem d_B_takesPlanesToPlanes_84 : decode b_B_takesPlanesToPlanes 84 = .ok (.aload_n 0, 1) := by decide +kernel
theorem d_B_takesPlanesToPlanes_85 : decode b_B_takesPlanesToPlanes 85 = .ok (.iload_n 3, 1) := by decide +kernel
theorem d_B_takesPlanesToPlanes_86 : decode b_B_takesPlanesToPlanes 86 = .ok (.iload 4, 2) := by decide +kernel
theorem d_B_takesPlanesToPlanes_88 : decode b_B_takesPlanesToPlanes 88 = .ok (.iload 5, 2) := by decide +kernel
theorem d_B_takesPlanesToPlanes_90 : decode b_B_takesPlanesToPlanes 90 = .ok (.aload_n 0, 1) := by decide +kernel
theorem d_B_takesPlanesToPlanes_91 : decode b_B_takesPlanesToPlanes 91 = .ok (.getfield 34, 3) := by decide +kernel
theorem d_B_takesPlanesToPlanes_94 : decode b_B_takesPlanesToPlanes 94 = .ok (.iload_n 2, 1) := by decide +kernel
theorem d_B_takesPlanesToPlanes_95 : decode b_B_takesPlanesToPlanes 95 = .ok (.iaload, 1) := by decide +kernel
theorem d_B_takesPlanesToPlanes_96 : decode b_B_takesPlanesToPlanes 96 = .ok (.invokevirtual 74, 3) := by decide +kernel
theorem d_B_takesPlanesToPlanes_99 : decode b_B_takesPlanesToPlanes 99 = .ok (.ifCond .ne 5, 3) := by decide +kernel
theorem d_B_takesPlanesToPlanes_102 : decode b_B_takesPlanesToPlanes 102 = .ok (.iconst 0, 1) := by decide +kernel
theorem d_B_takesPlanesToPlanes_103 : decode b_B_takesPlanesToPlanes 103 = .ok (.ireturn, 1) := by decide +kernel
theorem d_B_takesPlanesToPlanes_104 : decode b_B_takesPlanesToPlanes 104 = .ok (.iinc 2 1, 3) := by decide +kernel
theorem d_B_takesPlanesToPlanes_107 : decode b_B_takesPlanesToPlanes 107 = .ok (.goto (-105), 3) := by decide +kernel
theorem d_B_takesPlanesToPlanes_110 : decode b_B_takesPlanesToPlanes 110 = .ok (.iconst 1, 1) := by decide +kernel
theorem d_B_takesPlanesToPlanes_111 : decode b_B_takesPlanesToPlanes 111 = .ok (.ireturn, 1) := by decide +kernel
end
section
set_option maxHeartbeats 4000000 in
set_option maxRecDepth 100000 in
theorem c_W_xGoesTo (l : Launch) (dC : Nat → ClassId) (dI : Nat → Nat → Nat) (cI cJ : ClassId) (x0 : Int32) (r_ : Int32) (hf : f_W_xGoesTo x0 = some r_) : Met l y_W_xGoesTo w_W_xGoesTo ({ frames := 0, cells := 0, slots := 0, locals := 0 }) (va_Pc [.int x0] (fun U => va_P (dC, dI) vwCl [] U.heap ∧ va_K (dC, dI) vwCl [(cI, .int), (cJ, .long)] U ∧ nestZ U)) (vp_Si (fun r9 => r9 = r_)) 0 0 (fun _ => False) := by
  refine Met.ofW (cc := b_W_xGoesTo) (maxL := 1) (ret := (some .int)) (by decide) rfl ?_
  intro p e s m args below meth c s₁ B hml hv
  obtain ⟨rfl, hP, hK, hZ⟩ := hv
  have hx := B.exec
  have hb := B.bytes
  have hr := B.returns
  have hts := atoms_spec (ws := w_W_xGoesTo) B.pre
  have ht : ∀ w ∈ wAll, w.before _ s = true := fun w h => hts w (List.mem_cons_of_mem _ h)
  have hown : s.vm.findClass R_W = some m.cls := findClass_of_methodNamed B.named
  have hlocks := B.notSynchronized
  have hP : va_P (dC, dI) vwCl [] s.heap := hP
  have hl := lv_entry ([.int x0]) (n := 1) (Nat.le_of_ble_eq_true rfl)
  rw [lg_entry_eq]
  generalize (lg_sl ([.int x0]) ++ List.replicate (1 - (lg_sl ([.int x0])).length) Slot.unset).toArray = ls at hl ⊢
  have hl : lv_has ls 1 [(0, .int x0)] := hl
  unfold f_W_xGoesTo at hf
  refine lv_iload_n hx hb d_W_xGoesTo_0 rfl (lv_at hl 0 rfl) ?_
  refine lv_iconst (v := 4) hx hb d_W_xGoesTo_1 (by decide) ?_
  refine lv_idiv hx hb d_W_xGoesTo_2 (by decide) ?_
  cases hf
  exact W.iret hx hb hr (fun t ht hW => ⟨_, rfl, rfl, ht⟩) (fun q h => by cases h) d_W_xGoesTo_3
set_option maxHeartbeats 4000000 in
set_option maxRecDepth 100000 in
theorem c_W_yGoesTo (l : Launch) (dC : Nat → ClassId) (dI : Nat → Nat → Nat) (cI cJ : ClassId) (x0 : Int32) (r_ : Int32) (hf : f_W_yGoesTo x0 = some r_) : Met l y_W_yGoesTo w_W_yGoesTo ({ frames := 1, cells := 0, slots := 0, locals := 20 }) (va_Pc [.int x0] (fun U => va_P (dC, dI) vwCl [] U.heap ∧ va_K (dC, dI) vwCl [(cI, .int), (cJ, .long)] U ∧ nestZ U)) (vp_Si (fun r9 => r9 = r_)) 0 0 (fun _ => False) := by
  refine Met.ofW (cc := b_W_yGoesTo) (maxL := 3) (ret := (some .int)) (by decide) rfl ?_
  intro p e s m args below meth c s₁ B hml hv
  obtain ⟨rfl, hP, hK, hZ⟩ := hv
  have hx := B.exec
  have hb := B.bytes
  have hr := B.returns
  have hts := atoms_spec (ws := w_W_yGoesTo) B.pre
  have ht : ∀ w ∈ wAll, w.before _ s = true := fun w h => hts w (List.mem_cons_of_mem _ h)
  have hown : s.vm.findClass R_W = some m.cls := findClass_of_methodNamed B.named
  have hlocks := B.notSynchronized
  have hP : va_P (dC, dI) vwCl [] s.heap := hP
  have hl := lv_entry ([.int x0]) (n := 3) (Nat.le_of_ble_eq_true rfl)
  rw [lg_entry_eq]
  generalize (lg_sl ([.int x0]) ++ List.replicate (3 - (lg_sl ([.int x0])).length) Slot.unset).toArray = ls at hl ⊢
  have hl : lv_has ls 3 [(0, .int x0)] := hl
  unfold f_W_yGoesTo at hf
  refine lv_iload_n hx hb d_W_yGoesTo_0 rfl (lv_at hl 0 rfl) ?_
  refine lv_iconst (v := 4) hx hb d_W_yGoesTo_1 (by decide) ?_
  refine lv_irem hx hb d_W_yGoesTo_2 (by decide) ?_
  refine lv_topi (fun v1 ev1 => ?_)
  have hf := oLet_some hf ev1
  refine lv_istore_n (lv' := [(1, .int v1), (0, .int x0)]) hx hb d_W_yGoesTo_3 rfl hl (by decide) rfl (fun ls hl => ?_)
  refine lv_iload_n hx hb d_W_yGoesTo_4 rfl (lv_at hl 1 rfl) ?_
  obtain ⟨r2z, hfc, hf⟩ := oCall1_some hf
  have hPc := hP.sub (ws' := []) [] rfl
  refine vp_callSi (va_runS (As := [.int x0]) (rest := []) ⟨hx, hb, hml, hown, ht⟩ (c_W_xGoesTo l dC dI cI cJ x0 r2z hfc) (va_cwS 1 ht (gS m_198 m_199 m_33 m_200) rfl rfl rfl (by decide +kernel) ⟨Nat.le_of_ble_eq_true rfl, Nat.le_of_ble_eq_true rfl⟩) (preR hPc hK hZ) rfl rfl hl.1 rfl (lv_room (Nat.le_of_ble_eq_true rfl)) d_W_yGoesTo_5 ⟨Nat.le_of_ble_eq_true rfl, Nat.le_of_ble_eq_true rfl⟩).run (fun r2 hw => ?_)
  subst hw
  clear hPc hfc
  refine lv_iconst (v := 2) hx hb d_W_yGoesTo_8 (by decide) ?_
  refine lv_idiv hx hb d_W_yGoesTo_9 (by decide) ?_
  refine lv_iconst (v := 2) hx hb d_W_yGoesTo_10 (by decide) ?_
  refine lv_imul hx hb d_W_yGoesTo_11 ?_
  refine lv_topi (fun v3 ev3 => ?_)
  have hf := oLet_some hf ev3
  refine lv_istore_n (lv' := [(2, .int v3), (1, .int v1), (0, .int x0)]) hx hb d_W_yGoesTo_12 rfl hl (by decide) rfl (fun ls hl => ?_)
  refine lv_iload_n hx hb d_W_yGoesTo_13 rfl (lv_at hl 1 rfl) ?_
  refine lv_iload_n hx hb d_W_yGoesTo_14 rfl (lv_at hl 0 rfl) ?_
  refine lv_icmp_ge (tgt := 22) hx hb d_W_yGoesTo_15 (by decide) (fun c4 => ?_) (fun c4 => ?_)
  · have hf := oIf_t hf c4
    refine lv_iload_n hx hb d_W_yGoesTo_22 rfl (lv_at hl 1 rfl) ?_
    refine lv_iconst (v := 2) hx hb d_W_yGoesTo_23 (by decide) ?_
    refine lv_iadd hx hb d_W_yGoesTo_24 ?_
    cases hf
    exact W.iret hx hb hr (fun t ht hW => ⟨_, rfl, rfl, ht⟩) (fun q h => by cases h) d_W_yGoesTo_25
  · have hf := oIf_f hf c4
    refine lv_iload_n hx hb d_W_yGoesTo_18 rfl (lv_at hl 1 rfl) ?_
    refine lv_goto (tgt := 25) hx hb d_W_yGoesTo_19 (by decide) ?_
    cases hf
    exact W.iret hx hb hr (fun t ht hW => ⟨_, rfl, rfl, ht⟩) (fun q h => by cases h) d_W_yGoesTo_25
set_option maxHeartbeats 4000000 in
set_option maxRecDepth 100000 in
theorem c_W_zGoesTo (l : Launch) (dC : Nat → ClassId) (dI : Nat → Nat → Nat) (cI cJ : ClassId) (x0 : Int32) (r_ : Int32) (hf : f_W_zGoesTo x0 = some r_) : Met l y_W_zGoesTo w_W_zGoesTo ({ frames := 2, cells := 0, slots := 0, locals := 42 }) (va_Pc [.int x0] (fun U => va_P (dC, dI) vwCl [] U.heap ∧ va_K (dC, dI) vwCl [(cI, .int), (cJ, .long)] U ∧ nestZ U)) (vp_Si (fun r9 => r9 = r_)) 0 0 (fun _ => False) := by
  refine Met.ofW (cc := b_W_zGoesTo) (maxL := 5) (ret := (some .int)) (by decide) rfl ?_
  intro p e s m args below meth c s₁ B hml hv
  obtain ⟨rfl, hP, hK, hZ⟩ := hv
  have hx := B.exec
  have hb := B.bytes
  have hr := B.returns
  have hts := atoms_spec (ws := w_W_zGoesTo) B.pre
  have ht : ∀ w ∈ wAll, w.before _ s = true := fun w h => hts w (List.mem_cons_of_mem _ h)
  have hown : s.vm.findClass R_W = some m.cls := findClass_of_methodNamed B.named
  have hlocks := B.notSynchronized
  have hP : va_P (dC, dI) vwCl [] s.heap := hP
  have hl := lv_entry ([.int x0]) (n := 5) (Nat.le_of_ble_eq_true rfl)
  rw [lg_entry_eq]
  generalize (lg_sl ([.int x0]) ++ List.replicate (5 - (lg_sl ([.int x0])).length) Slot.unset).toArray = ls at hl ⊢
  have hl : lv_has ls 5 [(0, .int x0)] := hl
  refine w_abs (fun Wx toX ofX => ?_)
  have K38 : ∀ (x1 : Int32) (x2 : Int32) (x3 : Int32) (t0 : Int32) (ls : Array Slot), f_W_zGoesTo_J38  x1 x2 x3 t0 = some r_ → lv_has ls 5 [(1, .int x1), (2, .int x2), (3, .int x3)] → Wx s.heap [] 0 0 (F0 m 38 ls [.int t0]) := by
    intro x1 x2 x3 t0 ls hf hl
    refine toX _ _ _ _ _ ?_
    unfold f_W_zGoesTo_J38 at hf
    refine lv_istore (lv' := [(4, .int t0), (1, .int x1), (2, .int x2), (3, .int x3)]) hx hb d_W_zGoesTo_38 hl (by decide) rfl (fun ls hl => ?_)
    refine lv_iconst (v := 2) hx hb d_W_zGoesTo_40 (by decide) ?_
    refine lv_iload_n hx hb d_W_zGoesTo_41 rfl (lv_at hl 3 rfl) ?_
    refine lv_imul hx hb d_W_zGoesTo_42 ?_
    refine lv_iload_n hx hb d_W_zGoesTo_43 rfl (lv_at hl 1 rfl) ?_
    refine lv_iload_n hx hb d_W_zGoesTo_44 rfl (lv_at hl 2 rfl) ?_
    refine lv_iadd hx hb d_W_zGoesTo_45 ?_
    refine lv_iload hx hb d_W_zGoesTo_46 (lv_at hl 0 rfl) ?_
    refine lv_iadd hx hb d_W_zGoesTo_48 ?_
    refine lv_iconst (v := 2) hx hb d_W_zGoesTo_49 (by decide) ?_
    refine lv_irem hx hb d_W_zGoesTo_50 (by decide) ?_
    refine lv_iadd hx hb d_W_zGoesTo_51 ?_
    cases hf
    exact W.iret hx hb hr (fun t ht hW => ⟨_, rfl, rfl, ht⟩) (fun q h => by cases h) d_W_zGoesTo_52
  refine toX _ _ _ _ _ ?_
  unfold f_W_zGoesTo at hf
  refine lv_iload_n hx hb d_W_zGoesTo_0 rfl (lv_at hl 0 rfl) ?_
  obtain ⟨r1z, hfc, hf⟩ := oCall1_some hf
  have hPc := hP.sub (ws' := []) [] rfl
  refine vp_callSi (va_runS (As := [.int x0]) (rest := []) ⟨hx, hb, hml, hown, ht⟩ (c_W_xGoesTo l dC dI cI cJ x0 r1z hfc) (va_cwS 1 ht (gS m_198 m_199 m_33 m_200) rfl rfl rfl (by decide +kernel) ⟨Nat.le_of_ble_eq_true rfl, Nat.le_of_ble_eq_true rfl⟩) (preR hPc hK hZ) rfl rfl hl.1 rfl (lv_room (Nat.le_of_ble_eq_true rfl)) d_W_zGoesTo_1 ⟨Nat.le_of_ble_eq_true rfl, Nat.le_of_ble_eq_true rfl⟩).run (fun r1 hw => ?_)
  subst hw
  clear hPc hfc
  refine lv_istore_n (lv' := [(1, .int r1), (0, .int x0)]) hx hb d_W_zGoesTo_4 rfl hl (by decide) rfl (fun ls hl => ?_)
  refine lv_iload_n hx hb d_W_zGoesTo_5 rfl (lv_at hl 1 rfl) ?_
  obtain ⟨r2z, hfc, hf⟩ := oCall1_some hf
  have hPc := hP.sub (ws' := []) [] rfl
  refine vp_callSi (va_runS (As := [.int x0]) (rest := []) ⟨hx, hb, hml, hown, ht⟩ (c_W_yGoesTo l dC dI cI cJ x0 r2z hfc) (va_cwS 1 ht (gS m_204 m_205 m_33 m_206) rfl rfl rfl (by decide +kernel) ⟨Nat.le_of_ble_eq_true rfl, Nat.le_of_ble_eq_true rfl⟩) (preR hPc hK hZ) rfl rfl hl.1 rfl (lv_room (Nat.le_of_ble_eq_true rfl)) d_W_zGoesTo_6 ⟨Nat.le_of_ble_eq_true rfl, Nat.le_of_ble_eq_true rfl⟩).run (fun r2 hw => ?_)
  subst hw
  clear hPc hfc
  refine lv_istore_n (lv' := [(2, .int r2), (1, .int r1), (0, .int x0)]) hx hb d_W_zGoesTo_9 rfl hl (by decide) rfl (fun ls hl => ?_)
  refine lv_iconst (v := 3) hx hb d_W_zGoesTo_10 (by decide) ?_
  refine lv_iload_n hx hb d_W_zGoesTo_11 rfl (lv_at hl 1 rfl) ?_
  refine lv_iconst (v := 2) hx hb d_W_zGoesTo_12 (by decide) ?_
  refine lv_idiv hx hb d_W_zGoesTo_13 (by decide) ?_
  refine lv_isub hx hb d_W_zGoesTo_14 ?_
  refine lv_iload_n hx hb d_W_zGoesTo_15 rfl (lv_at hl 0 rfl) ?_
  refine lv_iconst (v := 2) hx hb d_W_zGoesTo_16 (by decide) ?_
  refine lv_idiv hx hb d_W_zGoesTo_17 (by decide) ?_
  refine lv_isub hx hb d_W_zGoesTo_18 ?_
  refine lv_topi (fun v3 ev3 => ?_)
  have hf := oLet_some hf ev3
  refine lv_istore_n (lv' := [(3, .int v3), (2, .int r2), (1, .int r1), (0, .int x0)]) hx hb d_W_zGoesTo_19 rfl hl (by decide) rfl (fun ls hl => ?_)
  refine lv_iload_n hx hb d_W_zGoesTo_20 rfl (lv_at hl 2 rfl) ?_
  refine lv_iconst (v := 2) hx hb d_W_zGoesTo_21 (by decide) ?_
  refine lv_idiv hx hb d_W_zGoesTo_22 (by decide) ?_
  refine lv_iconst (v := 1) hx hb d_W_zGoesTo_23 (by decide) ?_
  refine lv_iadd hx hb d_W_zGoesTo_24 ?_
  refine lv_iconst (v := 3) hx hb d_W_zGoesTo_25 (by decide) ?_
  refine lv_irem hx hb d_W_zGoesTo_26 (by decide) ?_
  refine lv_iload_n hx hb d_W_zGoesTo_27 rfl (lv_at hl 1 rfl) ?_
  refine lv_iconst (v := 2) hx hb d_W_zGoesTo_28 (by decide) ?_
  refine lv_idiv hx hb d_W_zGoesTo_29 (by decide) ?_
  refine lv_icmp_ne (tgt := 37) hx hb d_W_zGoesTo_30 (by decide) (fun c4 => ?_) (fun c4 => ?_)
  · have hf := oIf_f hf c4
    refine lv_iconst (v := 1) hx hb d_W_zGoesTo_37 (by decide) ?_
    exact ofX _ _ _ _ _ (K38  r1 r2 v3 1 _ hf (lv_sub hl [2, 1, 0] rfl))
  · have hf := oIf_t hf c4
    refine lv_iconst (v := 0) hx hb d_W_zGoesTo_33 (by decide) ?_
    refine lv_goto (tgt := 38) hx hb d_W_zGoesTo_34 (by decide) ?_
    exact ofX _ _ _ _ _ (K38  r1 r2 v3 0 _ hf (lv_sub hl [2, 1, 0] rfl))
set_option maxHeartbeats 4000000 in
set_option maxRecDepth 100000 in
theorem c_W_numberOf (l : Launch) (dC : Nat → ClassId) (dI : Nat → Nat → Nat) (cI cJ : ClassId) (x0 : Int32) (x1 : Int32) (r_ : Int32) (hf : f_W_numberOf x0 x1 = some r_) : Met l y_W_numberOf w_W_numberOf ({ frames := 0, cells := 0, slots := 0, locals := 0 }) (va_Pc [.int x0, .int x1] (fun U => va_P (dC, dI) vwCl [] U.heap ∧ va_K (dC, dI) vwCl [(cI, .int), (cJ, .long)] U ∧ nestZ U)) (vp_Si (fun r9 => r9 = r_)) 0 0 (fun _ => False) := by
  refine Met.ofW (cc := b_W_numberOf) (maxL := 2) (ret := (some .int)) (by decide) rfl ?_
  intro p e s m args below meth c s₁ B hml hv
  obtain ⟨rfl, hP, hK, hZ⟩ := hv
  have hx := B.exec
  have hb := B.bytes
  have hr := B.returns
  have hts := atoms_spec (ws := w_W_numberOf) B.pre
  have ht : ∀ w ∈ wAll, w.before _ s = true := fun w h => hts w (List.mem_cons_of_mem _ h)
  have hown : s.vm.findClass R_W = some m.cls := findClass_of_methodNamed B.named
  have hlocks := B.notSynchronized
  have hP : va_P (dC, dI) vwCl [] s.heap := hP
  have hl := lv_entry ([.int x0, .int x1]) (n := 2) (Nat.le_of_ble_eq_true rfl)
  rw [lg_entry_eq]
  generalize (lg_sl ([.int x0, .int x1]) ++ List.replicate (2 - (lg_sl ([.int x0, .int x1])).length) Slot.unset).toArray = ls at hl ⊢
  have hl : lv_has ls 2 [(0, .int x0), (1, .int x1)] := hl
  unfold f_W_numberOf at hf
  refine lv_iconst (v := 4) hx hb d_W_numberOf_0 (by decide) ?_
  refine lv_iload_n hx hb d_W_numberOf_1 rfl (lv_at hl 0 rfl) ?_
  refine lv_imul hx hb d_W_numberOf_2 ?_
  refine lv_iload_n hx hb d_W_numberOf_3 rfl (lv_at hl 1 rfl) ?_
  refine lv_iload_n hx hb d_W_numberOf_4 rfl (lv_at hl 0 rfl) ?_
  refine lv_icmp_ge (tgt := 12) hx hb d_W_numberOf_5 (by decide) (fun c1 => ?_) (fun c1 => ?_)
  · have hf := oIf_t hf c1
    refine lv_iload_n hx hb d_W_numberOf_12 rfl (lv_at hl 1 rfl) ?_
    refine lv_iconst (v := 2) hx hb d_W_numberOf_13 (by decide) ?_
    refine lv_isub hx hb d_W_numberOf_14 ?_
    refine lv_iadd hx hb d_W_numberOf_15 ?_
    cases hf
    exact W.iret hx hb hr (fun t ht hW => ⟨_, rfl, rfl, ht⟩) (fun q h => by cases h) d_W_numberOf_16
  · have hf := oIf_f hf c1
    refine lv_iload_n hx hb d_W_numberOf_8 rfl (lv_at hl 1 rfl) ?_
    refine lv_goto (tgt := 15) hx hb d_W_numberOf_9 (by decide) ?_
    refine lv_iadd hx hb d_W_numberOf_15 ?_
    cases hf
    exact W.iret hx hb hr (fun t ht hW => ⟨_, rfl, rfl, ht⟩) (fun q h => by cases h) d_W_numberOf_16
set_option maxHeartbeats 4000000 in
set_option maxRecDepth 100000 in
theorem c_W_directionTo (l : Launch) (dC : Nat → ClassId) (dI : Nat → Nat → Nat) (cI cJ : ClassId) (x0 : Int32) (x1 : Int32) (r_ : Int32) (hf : f_W_directionTo x0 x1 = some r_) : Met l y_W_directionTo w_W_directionTo ({ frames := 3, cells := 0, slots := 0, locals := 66 }) (va_Pc [.int x0, .int x1] (fun U => va_P (dC, dI) vwCl [] U.heap ∧ va_K (dC, dI) vwCl [(cI, .int), (cJ, .long)] U ∧ nestZ U)) (vp_Si (fun r9 => r9 = r_)) 0 0 (fun _ => False) := by
  refine Met.ofW (cc := b_W_directionTo) (maxL := 4) (ret := (some .int)) (by decide) rfl ?_
  intro p e s m args below meth c s₁ B hml hv
  obtain ⟨rfl, hP, hK, hZ⟩ := hv
  have hx := B.exec
  have hb := B.bytes
  have hr := B.returns
  have hts := atoms_spec (ws := w_W_directionTo) B.pre
  have ht : ∀ w ∈ wAll, w.before _ s = true := fun w h => hts w (List.mem_cons_of_mem _ h)
  have hown : s.vm.findClass R_W = some m.cls := findClass_of_methodNamed B.named
  have hlocks := B.notSynchronized
  have hP : va_P (dC, dI) vwCl [] s.heap := hP
  have hl := lv_entry ([.int x0, .int x1]) (n := 4) (Nat.le_of_ble_eq_true rfl)
  rw [lg_entry_eq]
  generalize (lg_sl ([.int x0, .int x1]) ++ List.replicate (4 - (lg_sl ([.int x0, .int x1])).length) Slot.unset).toArray = ls at hl ⊢
  have hl : lv_has ls 4 [(0, .int x0), (1, .int x1)] := hl
  refine w_abs (fun Wx toX ofX => ?_)
  have K31 : ∀ (x1 : Int32) (t0 : Int32) (ls : Array Slot), f_W_directionTo_J31  x1 t0 = some r_ → lv_has ls 4 [(1, .int x1)] → Wx s.heap [] 0 0 (F0 m 31 ls [.int t0]) := by
    intro x1 t0 ls hf hl
    refine toX _ _ _ _ _ ?_
    unfold f_W_directionTo_J31 at hf
    refine lv_istore_n (lv' := [(3, .int t0), (1, .int x1)]) hx hb d_W_directionTo_31 rfl hl (by decide) rfl (fun ls hl => ?_)
    refine lv_iload_n hx hb d_W_directionTo_32 rfl (lv_at hl 0 rfl) ?_
    refine lv_iload_n hx hb d_W_directionTo_33 rfl (lv_at hl 1 rfl) ?_
    refine lv_iconst (v := 1) hx hb d_W_directionTo_34 (by decide) ?_
    refine lv_iand hx hb d_W_directionTo_35 ?_
    refine lv_ixor hx hb d_W_directionTo_36 ?_
    cases hf
    exact W.iret hx hb hr (fun t ht hW => ⟨_, rfl, rfl, ht⟩) (fun q h => by cases h) d_W_directionTo_37
  refine toX _ _ _ _ _ ?_
  unfold f_W_directionTo at hf
  refine lv_iload_n hx hb d_W_directionTo_0 rfl (lv_at hl 1 rfl) ?_
  refine lv_iconst (v := 2) hx hb d_W_directionTo_1 (by decide) ?_
  refine lv_idiv hx hb d_W_directionTo_2 (by decide) ?_
  refine lv_topi (fun v1 ev1 => ?_)
  have hf := oLet_some hf ev1
  refine lv_istore_n (lv' := [(2, .int v1), (0, .int x0), (1, .int x1)]) hx hb d_W_directionTo_3 rfl hl (by decide) rfl (fun ls hl => ?_)
  refine lv_iload_n hx hb d_W_directionTo_4 rfl (lv_at hl 0 rfl) ?_
  refine lv_if_ne (tgt := 15) hx hb d_W_directionTo_5 (by decide) (fun c2 => ?_) (fun c2 => ?_)
  · have hf := oIf_f hf c2
    refine lv_iload_n hx hb d_W_directionTo_15 rfl (lv_at hl 0 rfl) ?_
    refine lv_iconst (v := 1) hx hb d_W_directionTo_16 (by decide) ?_
    refine lv_icmp_ne (tgt := 27) hx hb d_W_directionTo_17 (by decide) (fun c3 => ?_) (fun c3 => ?_)
    · have hf := oIf_f hf c3
      refine lv_iload_n hx hb d_W_directionTo_27 rfl (lv_at hl 1 rfl) ?_
      obtain ⟨r4z, hfc, hf⟩ := oCall1_some hf
      have hPc := hP.sub (ws' := []) [] rfl
      refine vp_callSi (va_runS (As := [.int x0]) (rest := []) ⟨hx, hb, hml, hown, ht⟩ (c_W_zGoesTo l dC dI cI cJ x0 r4z hfc) (va_cwS 1 ht (gS m_207 m_208 m_33 m_209) rfl rfl rfl (by decide +kernel) ⟨Nat.le_of_ble_eq_true rfl, Nat.le_of_ble_eq_true rfl⟩) (preR hPc hK hZ) rfl rfl hl.1 rfl (lv_room (Nat.le_of_ble_eq_true rfl)) d_W_directionTo_28 ⟨Nat.le_of_ble_eq_true rfl, Nat.le_of_ble_eq_true rfl⟩).run (fun r4 hw => ?_)
      subst hw
      clear hPc hfc
      exact ofX _ _ _ _ _ (K31  x1 r4 _ hf (lv_sub hl [2] rfl))
    · have hf := oIf_t hf c3
      refine lv_iload_n hx hb d_W_directionTo_20 rfl (lv_at hl 1 rfl) ?_
      obtain ⟨r5z, hfc, hf⟩ := oCall1_some hf
      have hPc := hP.sub (ws' := []) [] rfl
      refine vp_callSi (va_runS (As := [.int x0]) (rest := []) ⟨hx, hb, hml, hown, ht⟩ (c_W_yGoesTo l dC dI cI cJ x0 r5z hfc) (va_cwS 1 ht (gS m_204 m_205 m_33 m_206) rfl rfl rfl (by decide +kernel) ⟨Nat.le_of_ble_eq_true rfl, Nat.le_of_ble_eq_true rfl⟩) (preR hPc hK hZ) rfl rfl hl.1 rfl (lv_room (Nat.le_of_ble_eq_true rfl)) d_W_directionTo_21 ⟨Nat.le_of_ble_eq_true rfl, Nat.le_of_ble_eq_true rfl⟩).run (fun r5 hw => ?_)
      subst hw
      clear hPc hfc
      refine lv_goto (tgt := 31) hx hb d_W_directionTo_24 (by decide) ?_
      exact ofX _ _ _ _ _ (K31  x1 r5 _ hf (lv_sub hl [2] rfl))
  · have hf := oIf_t hf c2
    refine lv_iload_n hx hb d_W_directionTo_8 rfl (lv_at hl 1 rfl) ?_
    obtain ⟨r6z, hfc, hf⟩ := oCall1_some hf
    have hPc := hP.sub (ws' := []) [] rfl
    refine vp_callSi (va_runS (As := [.int x0]) (rest := []) ⟨hx, hb, hml, hown, ht⟩ (c_W_xGoesTo l dC dI cI cJ x0 r6z hfc) (va_cwS 1 ht (gS m_198 m_199 m_33 m_200) rfl rfl rfl (by decide +kernel) ⟨Nat.le_of_ble_eq_true rfl, Nat.le_of_ble_eq_true rfl⟩) (preR hPc hK hZ) rfl rfl hl.1 rfl (lv_room (Nat.le_of_ble_eq_true rfl)) d_W_directionTo_9 ⟨Nat.le_of_ble_eq_true rfl, Nat.le_of_ble_eq_true rfl⟩).run (fun r6 hw => ?_)
    subst hw
    clear hPc hfc
    refine lv_goto (tgt := 31) hx hb d_W_directionTo_12 (by decide) ?_
    exact ofX _ _ _ _ _ (K31  x1 r6 _ hf (lv_sub hl [2] rfl))
set_option maxHeartbeats 4000000 in
set_option maxRecDepth 100000 in
theorem c_W_compose (l : Launch) (dC : Nat → ClassId) (dI : Nat → Nat → Nat) (cI cJ : ClassId) (x0 : Int32) (x1 : Int32) (r_ : Int32) (hf : f_W_compose x0 x1 = some r_) : Met l y_W_compose w_W_compose ({ frames := 4, cells := 0, slots := 0, locals := 89 }) (va_Pc [.int x0, .int x1] (fun U => va_P (dC, dI) vwCl [] U.heap ∧ va_K (dC, dI) vwCl [(cI, .int), (cJ, .long)] U ∧ nestZ U)) (vp_Si (fun r9 => r9 = r_)) 0 0 (fun _ => False) := by
  refine Met.ofW (cc := b_W_compose) (maxL := 2) (ret := (some .int)) (by decide) rfl ?_
  intro p e s m args below meth c s₁ B hml hv
  obtain ⟨rfl, hP, hK, hZ⟩ := hv
  have hx := B.exec
  have hb := B.bytes
  have hr := B.returns
  have hts := atoms_spec (ws := w_W_compose) B.pre
  have ht : ∀ w ∈ wAll, w.before _ s = true := fun w h => hts w (List.mem_cons_of_mem _ h)
  have hown : s.vm.findClass R_W = some m.cls := findClass_of_methodNamed B.named
  have hlocks := B.notSynchronized
  have hP : va_P (dC, dI) vwCl [] s.heap := hP
  have hl := lv_entry ([.int x0, .int x1]) (n := 2) (Nat.le_of_ble_eq_true rfl)
  rw [lg_entry_eq]
  generalize (lg_sl ([.int x0, .int x1]) ++ List.replicate (2 - (lg_sl ([.int x0, .int x1])).length) Slot.unset).toArray = ls at hl ⊢
  have hl : lv_has ls 2 [(0, .int x0), (1, .int x1)] := hl
  unfold f_W_compose at hf
  refine lv_iload_n hx hb d_W_compose_0 rfl (lv_at hl 0 rfl) ?_
  refine lv_iload_n hx hb d_W_compose_1 rfl (lv_at hl 1 rfl) ?_
  obtain ⟨r1z, hfc, hf⟩ := oCall1_some hf
  have hPc := hP.sub (ws' := []) [] rfl
  refine vp_callSi (va_runS (As := [.int x1]) (rest := [.int x0]) ⟨hx, hb, hml, hown, ht⟩ (c_W_xGoesTo l dC dI cI cJ x1 r1z hfc) (va_cwS 1 ht (gS m_198 m_199 m_33 m_200) rfl rfl rfl (by decide +kernel) ⟨Nat.le_of_ble_eq_true rfl, Nat.le_of_ble_eq_true rfl⟩) (preR hPc hK hZ) rfl rfl hl.1 rfl (lv_room (Nat.le_of_ble_eq_true rfl)) d_W_compose_2 ⟨Nat.le_of_ble_eq_true rfl, Nat.le_of_ble_eq_true rfl⟩).run (fun r1 hw => ?_)
  subst hw
  clear hPc hfc
  obtain ⟨r2z, hfc, hf⟩ := oCall1_some hf
  have hPc := hP.sub (ws' := []) [] rfl
  refine vp_callSi (va_runS (As := [.int x0, .int r1]) (rest := []) ⟨hx, hb, hml, hown, ht⟩ (c_W_directionTo l dC dI cI cJ x0 r1 r2z hfc) (va_cwS 2 ht (gS m_201 m_202 m_33 m_203) rfl rfl rfl (by decide +kernel) ⟨Nat.le_of_ble_eq_true rfl, Nat.le_of_ble_eq_true rfl⟩) (preR hPc hK hZ) rfl rfl hl.1 rfl (lv_room (Nat.le_of_ble_eq_true rfl)) d_W_compose_5 ⟨Nat.le_of_ble_eq_true rfl, Nat.le_of_ble_eq_true rfl⟩).run (fun r2 hw => ?_)
  subst hw
  clear hPc hfc
  refine lv_iload_n hx hb d_W_compose_8 rfl (lv_at hl 0 rfl) ?_
  refine lv_iload_n hx hb d_W_compose_9 rfl (lv_at hl 1 rfl) ?_
  obtain ⟨r3z, hfc, hf⟩ := oCall1_some hf
  have hPc := hP.sub (ws' := []) [] rfl
  refine vp_callSi (va_runS (As := [.int x1]) (rest := [.int x0, .int r2]) ⟨hx, hb, hml, hown, ht⟩ (c_W_yGoesTo l dC dI cI cJ x1 r3z hfc) (va_cwS 1 ht (gS m_204 m_205 m_33 m_206) rfl rfl rfl (by decide +kernel) ⟨Nat.le_of_ble_eq_true rfl, Nat.le_of_ble_eq_true rfl⟩) (preR hPc hK hZ) rfl rfl hl.1 rfl (lv_room (Nat.le_of_ble_eq_true rfl)) d_W_compose_10 ⟨Nat.le_of_ble_eq_true rfl, Nat.le_of_ble_eq_true rfl⟩).run (fun r3 hw => ?_)
  subst hw
  clear hPc hfc
  obtain ⟨r4z, hfc, hf⟩ := oCall1_some hf
  have hPc := hP.sub (ws' := []) [] rfl
  refine vp_callSi (va_runS (As := [.int x0, .int r3]) (rest := [.int r2]) ⟨hx, hb, hml, hown, ht⟩ (c_W_directionTo l dC dI cI cJ x0 r3 r4z hfc) (va_cwS 2 ht (gS m_201 m_202 m_33 m_203) rfl rfl rfl (by decide +kernel) ⟨Nat.le_of_ble_eq_true rfl, Nat.le_of_ble_eq_true rfl⟩) (preR hPc hK hZ) rfl rfl hl.1 rfl (lv_room (Nat.le_of_ble_eq_true rfl)) d_W_compose_13 ⟨Nat.le_of_ble_eq_true rfl, Nat.le_of_ble_eq_true rfl⟩).run (fun r4 hw => ?_)
  subst hw
  clear hPc hfc
  obtain ⟨r5z, hfc, hf⟩ := oCall1_some hf
  have hPc := hP.sub (ws' := []) [] rfl
  refine vp_callSi (va_runS (As := [.int r2, .int r4]) (rest := []) ⟨hx, hb, hml, hown, ht⟩ (c_W_numberOf l dC dI cI cJ r2 r4 r5z hfc) (va_cwS 2 ht (gS m_181 m_182 m_33 m_183) rfl rfl rfl (by decide +kernel) ⟨Nat.le_of_ble_eq_true rfl, Nat.le_of_ble_eq_true rfl⟩) (preR hPc hK hZ) rfl rfl hl.1 rfl (lv_room (Nat.le_of_ble_eq_true rfl)) d_W_compose_16 ⟨Nat.le_of_ble_eq_true rfl, Nat.le_of_ble_eq_true rfl⟩).run (fun r5 hw => ?_)
  subst hw
  clear hPc hfc
  cases hf
  exact W.iret hx hb hr (fun t ht hW => ⟨_, rfl, rfl, ht⟩) (fun q h => by cases h) d_W_compose_19
set_option maxHeartbeats 4000000 in
set_option maxRecDepth 100000 in
theorem c_W_orderOf (l : Launch) (dC : Nat → ClassId) (dI : Nat → Nat → Nat) (cI cJ : ClassId) (x0 : Int32) (r_ : Int32) (hf : f_W_orderOf x0 = some r_) : Met l y_W_orderOf w_W_orderOf ({ frames := 5, cells := 0, slots := 0, locals := 110 }) (va_Pc [.int x0] (fun U => va_P (dC, dI) vwCl [] U.heap ∧ va_K (dC, dI) vwCl [(cI, .int), (cJ, .long)] U ∧ nestZ U)) (vp_Si (fun r9 => r9 = r_)) 0 0 (fun _ => False) := by
  refine Met.ofW (cc := b_W_orderOf) (maxL := 3) (ret := (some .int)) (by decide) rfl ?_
  intro p e s m args below meth c s₁ B hml hv
  obtain ⟨rfl, hP, hK, hZ⟩ := hv
  have hx := B.exec
  have hb := B.bytes
  have hr := B.returns
  have hts := atoms_spec (ws := w_W_orderOf) B.pre
  have ht : ∀ w ∈ wAll, w.before _ s = true := fun w h => hts w (List.mem_cons_of_mem _ h)
  have hown : s.vm.findClass R_W = some m.cls := findClass_of_methodNamed B.named
  have hlocks := B.notSynchronized
  have hP : va_P (dC, dI) vwCl [] s.heap := hP
  have hl := lv_entry ([.int x0]) (n := 3) (Nat.le_of_ble_eq_true rfl)
  rw [lg_entry_eq]
  generalize (lg_sl ([.int x0]) ++ List.replicate (3 - (lg_sl ([.int x0])).length) Slot.unset).toArray = ls at hl ⊢
  have hl : lv_has ls 3 [(0, .int x0)] := hl
  refine w_abs (fun Wx toX ofX => ?_)
  have K4 : ∀ (x0 : Int32) (n : Nat) (x1 : Int32) (x2 : Int32) (ls : Array Slot), oLoop2 (f_W_orderOf_L4  x0) n x1 x2 = some r_ → lv_has ls 3 [(0, .int x0), (1, .int x1), (2, .int x2)] → Wx s.heap [] 0 0 (F0 m 4 ls []) := by
    intro x0 n
    induction n with
    | zero => intro x1 x2 ls hf; exact (oLoop2_0 hf).elim
    | succ n ih4 =>
      obtain ⟨rec4, hrec4⟩ : ∃ z, z = oLoop2 (f_W_orderOf_L4  x0) n := ⟨_, rfl⟩
      rw [← hrec4] at ih4
      intro x1 x2 ls hf hl
      refine toX _ _ _ _ _ ?_
      have hf := oLoop2_s hf
      rw [← hrec4] at hf
      unfold f_W_orderOf_L4 at hf
      refine lv_iload_n hx hb d_W_orderOf_4 rfl (lv_at hl 1 rfl) ?_
      refine lv_if_eq (tgt := 25) hx hb d_W_orderOf_5 (by decide) (fun c1 => ?_) (fun c1 => ?_)
      · have hf := oIf_t hf c1
        refine lv_iload_n hx hb d_W_orderOf_25 rfl (lv_at hl 2 rfl) ?_
        cases hf
        exact W.iret hx hb hr (fun t ht hW => ⟨_, rfl, rfl, ht⟩) (fun q h => by cases h) d_W_orderOf_26
      · have hf := oIf_f hf c1
        refine lv_iload_n hx hb d_W_orderOf_8 rfl (lv_at hl 2 rfl) ?_
        refine lv_iconst (v := 4) hx hb d_W_orderOf_9 (by decide) ?_
        refine lv_icmp_ge (tgt := 25) hx hb d_W_orderOf_10 (by decide) (fun c2 => ?_) (fun c2 => ?_)
        · have hf := oIf_t hf c2
          refine lv_iload_n hx hb d_W_orderOf_25 rfl (lv_at hl 2 rfl) ?_
          cases hf
          exact W.iret hx hb hr (fun t ht hW => ⟨_, rfl, rfl, ht⟩) (fun q h => by cases h) d_W_orderOf_26
        · have hf := oIf_f hf c2
          refine lv_iload_n hx hb d_W_orderOf_13 rfl (lv_at hl 0 rfl) ?_
          refine lv_iload_n hx hb d_W_orderOf_14 rfl (lv_at hl 1 rfl) ?_
          obtain ⟨r3z, hfc, hf⟩ := oCall1_some hf
          have hPc := hP.sub (ws' := []) [] rfl
          refine vp_callSi (va_runS (As := [.int x0, .int x1]) (rest := []) ⟨hx, hb, hml, hown, ht⟩ (c_W_compose l dC dI cI cJ x0 x1 r3z hfc) (va_cwS 2 ht (gS m_195 m_196 m_33 m_197) rfl rfl rfl (by decide +kernel) ⟨Nat.le_of_ble_eq_true rfl, Nat.le_of_ble_eq_true rfl⟩) (preR hPc hK hZ) rfl rfl hl.1 rfl (lv_room (Nat.le_of_ble_eq_true rfl)) d_W_orderOf_15 ⟨Nat.le_of_ble_eq_true rfl, Nat.le_of_ble_eq_true rfl⟩).run (fun r3 hw => ?_)
          subst hw
          clear hPc hfc
          refine lv_istore_n (lv' := [(1, .int r3), (0, .int x0), (2, .int x2)]) hx hb d_W_orderOf_18 rfl hl (by decide) rfl (fun ls hl => ?_)
          obtain ⟨v4, ev4, hf⟩ := oLet_ex hf
          refine lv_iinc (v := v4) (lv' := [(2, .int v4), (1, .int r3), (0, .int x0)]) hx hb d_W_orderOf_19 hl (k := 2) rfl (by rw [ev4]; rfl) (by decide) rfl (fun ls hl => ?_)
          refine lv_goto (tgt := 4) hx hb d_W_orderOf_22 (by decide) ?_
          exact ofX _ _ _ _ _ (ih4 r3 v4 _ hf (lv_sub hl [2, 1, 0] rfl))
  refine toX _ _ _ _ _ ?_
  unfold f_W_orderOf at hf
  refine lv_iload_n hx hb d_W_orderOf_0 rfl (lv_at hl 0 rfl) ?_
  refine lv_istore_n (lv' := [(1, .int x0), (0, .int x0)]) hx hb d_W_orderOf_1 rfl hl (by decide) rfl (fun ls hl => ?_)
  refine lv_iconst (v := 1) hx hb d_W_orderOf_2 (by decide) ?_
  refine lv_istore_n (lv' := [(2, .int 1), (1, .int x0), (0, .int x0)]) hx hb d_W_orderOf_3 rfl hl (by decide) rfl (fun ls hl => ?_)
  exact ofX _ _ _ _ _ (K4 x0 _ x0 1 _ hf (lv_sub hl [2, 1, 0] rfl))
set_option maxHeartbeats 4000000 in
set_option maxRecDepth 100000 in
theorem c_W_part (l : Launch) (dC : Nat → ClassId) (dI : Nat → Nat → Nat) (cI cJ : ClassId) (x0 : Int32) (x1 : Int32) (x2 : Int32) (r_ : Int32) (hf : f_W_part x0 x1 x2 = some r_) : Met l y_W_part w_W_part ({ frames := 0, cells := 0, slots := 0, locals := 0 }) (va_Pc [.int x0, .int x1, .int x2] (fun U => va_P (dC, dI) vwCl [] U.heap ∧ va_K (dC, dI) vwCl [(cI, .int), (cJ, .long)] U ∧ nestZ U)) (vp_Si (fun r9 => r9 = r_)) 0 0 (fun _ => False) := by
  refine Met.ofW (cc := b_W_part) (maxL := 3) (ret := (some .int)) (by decide) rfl ?_
  intro p e s m args below meth c s₁ B hml hv
  obtain ⟨rfl, hP, hK, hZ⟩ := hv
  have hx := B.exec
  have hb := B.bytes
  have hr := B.returns
  have hts := atoms_spec (ws := w_W_part) B.pre
  have ht : ∀ w ∈ wAll, w.before _ s = true := fun w h => hts w (List.mem_cons_of_mem _ h)
  have hown : s.vm.findClass R_W = some m.cls := findClass_of_methodNamed B.named
  have hlocks := B.notSynchronized
  have hP : va_P (dC, dI) vwCl [] s.heap := hP
  have hl := lv_entry ([.int x0, .int x1, .int x2]) (n := 3) (Nat.le_of_ble_eq_true rfl)
  rw [lg_entry_eq]
  generalize (lg_sl ([.int x0, .int x1, .int x2]) ++ List.replicate (3 - (lg_sl ([.int x0, .int x1, .int x2])).length) Slot.unset).toArray = ls at hl ⊢
  have hl : lv_has ls 3 [(0, .int x0), (1, .int x1), (2, .int x2)] := hl
  unfold f_W_part at hf
  refine lv_iload_n hx hb d_W_part_0 rfl (lv_at hl 0 rfl) ?_
  refine lv_iconst (v := 2) hx hb d_W_part_1 (by decide) ?_
  refine lv_idiv hx hb d_W_part_2 (by decide) ?_
  refine lv_iload_n hx hb d_W_part_3 rfl (lv_at hl 1 rfl) ?_
  refine lv_icmp_eq (tgt := 9) hx hb d_W_part_4 (by decide) (fun c1 => ?_) (fun c1 => ?_)
  · have hf := oIf_t hf c1
    refine lv_iload_n hx hb d_W_part_9 rfl (lv_at hl 0 rfl) ?_
    refine lv_iconst (v := 2) hx hb d_W_part_10 (by decide) ?_
    refine lv_irem hx hb d_W_part_11 (by decide) ?_
    refine lv_if_ne (tgt := 19) hx hb d_W_part_12 (by decide) (fun c2 => ?_) (fun c2 => ?_)
    · have hf := oIf_f hf c2
      refine lv_iload_n hx hb d_W_part_19 rfl (lv_at hl 2 rfl) ?_
      refine lv_ineg hx hb d_W_part_20 ?_
      cases hf
      exact W.iret hx hb hr (fun t ht hW => ⟨_, rfl, rfl, ht⟩) (fun q h => by cases h) d_W_part_21
    · have hf := oIf_t hf c2
      refine lv_iload_n hx hb d_W_part_15 rfl (lv_at hl 2 rfl) ?_
      refine lv_goto (tgt := 21) hx hb d_W_part_16 (by decide) ?_
      cases hf
      exact W.iret hx hb hr (fun t ht hW => ⟨_, rfl, rfl, ht⟩) (fun q h => by cases h) d_W_part_21
  · have hf := oIf_f hf c1
    refine lv_iconst (v := 0) hx hb d_W_part_7 (by decide) ?_
    cases hf
    exact W.iret hx hb hr (fun t ht hW => ⟨_, rfl, rfl, ht⟩) (fun q h => by cases h) d_W_part_8
set_option maxHeartbeats 4000000 in
set_option maxRecDepth 100000 in
theorem c_W_coordinate (l : Launch) (dC : Nat → ClassId) (dI : Nat → Nat → Nat) (cI cJ : ClassId) (x0 : Int32) (x1 : Int32) (x2 : Int32) (x3 : Int32) (x4 : Int32) (r_ : Int32) (hf : f_W_coordinate x0 x1 x2 x3 x4 = some r_) : Met l y_W_coordinate w_W_coordinate ({ frames := 3, cells := 0, slots := 0, locals := 66 }) (va_Pc [.int x0, .int x1, .int x2, .int x3, .int x4] (fun U => va_P (dC, dI) vwCl [] U.heap ∧ va_K (dC, dI) vwCl [(cI, .int), (cJ, .long)] U ∧ nestZ U)) (vp_Si (fun r9 => r9 = r_)) 0 0 (fun _ => False) := by
  refine Met.ofW (cc := b_W_coordinate) (maxL := 5) (ret := (some .int)) (by decide) rfl ?_
  intro p e s m args below meth c s₁ B hml hv
  obtain ⟨rfl, hP, hK, hZ⟩ := hv
  have hx := B.exec
  have hb := B.bytes
  have hr := B.returns
  have hts := atoms_spec (ws := w_W_coordinate) B.pre
  have ht : ∀ w ∈ wAll, w.before _ s = true := fun w h => hts w (List.mem_cons_of_mem _ h)
  have hown : s.vm.findClass R_W = some m.cls := findClass_of_methodNamed B.named
  have hlocks := B.notSynchronized
  have hP : va_P (dC, dI) vwCl [] s.heap := hP
  have hl := lv_entry ([.int x0, .int x1, .int x2, .int x3, .int x4]) (n := 5) (Nat.le_of_ble_eq_true rfl)
  rw [lg_entry_eq]
  generalize (lg_sl ([.int x0, .int x1, .int x2, .int x3, .int x4]) ++ List.replicate (5 - (lg_sl ([.int x0, .int x1, .int x2, .int x3, .int x4])).length) Slot.unset).toArray = ls at hl ⊢
  have hl : lv_has ls 5 [(0, .int x0), (1, .int x1), (2, .int x2), (3, .int x3), (4, .int x4)] := hl
  unfold f_W_coordinate at hf
  refine lv_iload_n hx hb d_W_coordinate_0 rfl (lv_at hl 0 rfl) ?_
  obtain ⟨r1z, hfc, hf⟩ := oCall1_some hf
  have hPc := hP.sub (ws' := []) [] rfl
  refine vp_callSi (va_runS (As := [.int x0]) (rest := []) ⟨hx, hb, hml, hown, ht⟩ (c_W_xGoesTo l dC dI cI cJ x0 r1z hfc) (va_cwS 1 ht (gS m_198 m_199 m_33 m_200) rfl rfl rfl (by decide +kernel) ⟨Nat.le_of_ble_eq_true rfl, Nat.le_of_ble_eq_true rfl⟩) (preR hPc hK hZ) rfl rfl hl.1 rfl (lv_room (Nat.le_of_ble_eq_true rfl)) d_W_coordinate_1 ⟨Nat.le_of_ble_eq_true rfl, Nat.le_of_ble_eq_true rfl⟩).run (fun r1 hw => ?_)
  subst hw
  clear hPc hfc
  refine lv_iload_n hx hb d_W_coordinate_4 rfl (lv_at hl 1 rfl) ?_
  refine lv_iload_n hx hb d_W_coordinate_5 rfl (lv_at hl 2 rfl) ?_
  obtain ⟨r2z, hfc, hf⟩ := oCall1_some hf
  have hPc := hP.sub (ws' := []) [] rfl
  refine vp_callSi (va_runS (As := [.int r1, .int x1, .int x2]) (rest := []) ⟨hx, hb, hml, hown, ht⟩ (c_W_part l dC dI cI cJ r1 x1 x2 r2z hfc) (va_cwS 3 ht (gS m_255 m_256 m_33 m_257) rfl rfl rfl (by decide +kernel) ⟨Nat.le_of_ble_eq_true rfl, Nat.le_of_ble_eq_true rfl⟩) (preR hPc hK hZ) rfl rfl hl.1 rfl (lv_room (Nat.le_of_ble_eq_true rfl)) d_W_coordinate_6 ⟨Nat.le_of_ble_eq_true rfl, Nat.le_of_ble_eq_true rfl⟩).run (fun r2 hw => ?_)
  subst hw
  clear hPc hfc
  refine lv_iload_n hx hb d_W_coordinate_9 rfl (lv_at hl 0 rfl) ?_
  obtain ⟨r3z, hfc, hf⟩ := oCall1_some hf
  have hPc := hP.sub (ws' := []) [] rfl
  refine vp_callSi (va_runS (As := [.int x0]) (rest := [.int r2]) ⟨hx, hb, hml, hown, ht⟩ (c_W_yGoesTo l dC dI cI cJ x0 r3z hfc) (va_cwS 1 ht (gS m_204 m_205 m_33 m_206) rfl rfl rfl (by decide +kernel) ⟨Nat.le_of_ble_eq_true rfl, Nat.le_of_ble_eq_true rfl⟩) (preR hPc hK hZ) rfl rfl hl.1 rfl (lv_room (Nat.le_of_ble_eq_true rfl)) d_W_coordinate_10 ⟨Nat.le_of_ble_eq_true rfl, Nat.le_of_ble_eq_true rfl⟩).run (fun r3 hw => ?_)
  subst hw
  clear hPc hfc
  refine lv_iload_n hx hb d_W_coordinate_13 rfl (lv_at hl 1 rfl) ?_
  refine lv_iload_n hx hb d_W_coordinate_14 rfl (lv_at hl 3 rfl) ?_
  obtain ⟨r4z, hfc, hf⟩ := oCall1_some hf
  have hPc := hP.sub (ws' := []) [] rfl
  refine vp_callSi (va_runS (As := [.int r3, .int x1, .int x3]) (rest := [.int r2]) ⟨hx, hb, hml, hown, ht⟩ (c_W_part l dC dI cI cJ r3 x1 x3 r4z hfc) (va_cwS 3 ht (gS m_255 m_256 m_33 m_257) rfl rfl rfl (by decide +kernel) ⟨Nat.le_of_ble_eq_true rfl, Nat.le_of_ble_eq_true rfl⟩) (preR hPc hK hZ) rfl rfl hl.1 rfl (lv_room (Nat.le_of_ble_eq_true rfl)) d_W_coordinate_15 ⟨Nat.le_of_ble_eq_true rfl, Nat.le_of_ble_eq_true rfl⟩).run (fun r4 hw => ?_)
  subst hw
  clear hPc hfc
  refine lv_iadd hx hb d_W_coordinate_18 ?_
  refine lv_iload_n hx hb d_W_coordinate_19 rfl (lv_at hl 0 rfl) ?_
  obtain ⟨r5z, hfc, hf⟩ := oCall1_some hf
  have hPc := hP.sub (ws' := []) [] rfl
  refine vp_callSi (va_runS (As := [.int x0]) (rest := [.int (r2 + r4)]) ⟨hx, hb, hml, hown, ht⟩ (c_W_zGoesTo l dC dI cI cJ x0 r5z hfc) (va_cwS 1 ht (gS m_207 m_208 m_33 m_209) rfl rfl rfl (by decide +kernel) ⟨Nat.le_of_ble_eq_true rfl, Nat.le_of_ble_eq_true rfl⟩) (preR hPc hK hZ) rfl rfl hl.1 rfl (lv_room (Nat.le_of_ble_eq_true rfl)) d_W_coordinate_20 ⟨Nat.le_of_ble_eq_true rfl, Nat.le_of_ble_eq_true rfl⟩).run (fun r5 hw => ?_)
  subst hw
  clear hPc hfc
  refine lv_iload_n hx hb d_W_coordinate_23 rfl (lv_at hl 1 rfl) ?_
  refine lv_iload hx hb d_W_coordinate_24 (lv_at hl 4 rfl) ?_
  obtain ⟨r6z, hfc, hf⟩ := oCall1_some hf
  have hPc := hP.sub (ws' := []) [] rfl
  refine vp_callSi (va_runS (As := [.int r5, .int x1, .int x4]) (rest := [.int (r2 + r4)]) ⟨hx, hb, hml, hown, ht⟩ (c_W_part l dC dI cI cJ r5 x1 x4 r6z hfc) (va_cwS 3 ht (gS m_255 m_256 m_33 m_257) rfl rfl rfl (by decide +kernel) ⟨Nat.le_of_ble_eq_true rfl, Nat.le_of_ble_eq_true rfl⟩) (preR hPc hK hZ) rfl rfl hl.1 rfl (lv_room (Nat.le_of_ble_eq_true rfl)) d_W_coordinate_26 ⟨Nat.le_of_ble_eq_true rfl, Nat.le_of_ble_eq_true rfl⟩).run (fun r6 hw => ?_)
  subst hw
  clear hPc hfc
  refine lv_iadd hx hb d_W_coordinate_29 ?_
  cases hf
  exact W.iret hx hb hr (fun t ht hW => ⟨_, rfl, rfl, ht⟩) (fun q h => by cases h) d_W_coordinate_30
set_option maxHeartbeats 4000000 in
set_option maxRecDepth 100000 in
theorem c_W_directionOf (l : Launch) (dC : Nat → ClassId) (dI : Nat → Nat → Nat) (cI cJ : ClassId) (x0 : Int32) (x1 : Int32) (x2 : Int32) (r_ : Int32) (hf : f_W_directionOf x0 x1 x2 = some r_) : Met l y_W_directionOf w_W_directionOf ({ frames := 0, cells := 0, slots := 0, locals := 0 }) (va_Pc [.int x0, .int x1, .int x2] (fun U => va_P (dC, dI) vwCl [] U.heap ∧ va_K (dC, dI) vwCl [(cI, .int), (cJ, .long)] U ∧ nestZ U)) (vp_Si (fun r9 => r9 = r_)) 0 0 (fun _ => False) := by
  refine Met.ofW (cc := b_W_directionOf) (maxL := 3) (ret := (some .int)) (by decide) rfl ?_
  intro p e s m args below meth c s₁ B hml hv
  obtain ⟨rfl, hP, hK, hZ⟩ := hv
  have hx := B.exec
  have hb := B.bytes
  have hr := B.returns
  have hts := atoms_spec (ws := w_W_directionOf) B.pre
  have ht : ∀ w ∈ wAll, w.before _ s = true := fun w h => hts w (List.mem_cons_of_mem _ h)
  have hown : s.vm.findClass R_W = some m.cls := findClass_of_methodNamed B.named
  have hlocks := B.notSynchronized
  have hP : va_P (dC, dI) vwCl [] s.heap := hP
  have hl := lv_entry ([.int x0, .int x1, .int x2]) (n := 3) (Nat.le_of_ble_eq_true rfl)
  rw [lg_entry_eq]
  generalize (lg_sl ([.int x0, .int x1, .int x2]) ++ List.replicate (3 - (lg_sl ([.int x0, .int x1, .int x2])).length) Slot.unset).toArray = ls at hl ⊢
  have hl : lv_has ls 3 [(0, .int x0), (1, .int x1), (2, .int x2)] := hl
  unfold f_W_directionOf at hf
  refine lv_iload_n hx hb d_W_directionOf_0 rfl (lv_at hl 0 rfl) ?_
  refine lv_if_eq (tgt := 14) hx hb d_W_directionOf_1 (by decide) (fun c1 => ?_) (fun c1 => ?_)
  · have hf := oIf_t hf c1
    refine lv_iload_n hx hb d_W_directionOf_14 rfl (lv_at hl 1 rfl) ?_
    refine lv_if_eq (tgt := 28) hx hb d_W_directionOf_15 (by decide) (fun c2 => ?_) (fun c2 => ?_)
    · have hf := oIf_t hf c2
      refine lv_iload_n hx hb d_W_directionOf_28 rfl (lv_at hl 2 rfl) ?_
      refine lv_if_le (tgt := 36) hx hb d_W_directionOf_29 (by decide) (fun c3 => ?_) (fun c3 => ?_)
      · have hf := oIf_t hf c3
        refine lv_iconst (v := 5) hx hb d_W_directionOf_36 (by decide) ?_
        cases hf
        exact W.iret hx hb hr (fun t ht hW => ⟨_, rfl, rfl, ht⟩) (fun q h => by cases h) d_W_directionOf_37
      · have hf := oIf_f hf c3
        refine lv_iconst (v := 4) hx hb d_W_directionOf_32 (by decide) ?_
        refine lv_goto (tgt := 37) hx hb d_W_directionOf_33 (by decide) ?_
        cases hf
        exact W.iret hx hb hr (fun t ht hW => ⟨_, rfl, rfl, ht⟩) (fun q h => by cases h) d_W_directionOf_37
    · have hf := oIf_f hf c2
      refine lv_iload_n hx hb d_W_directionOf_18 rfl (lv_at hl 1 rfl) ?_
      refine lv_if_le (tgt := 26) hx hb d_W_directionOf_19 (by decide) (fun c4 => ?_) (fun c4 => ?_)
      · have hf := oIf_t hf c4
        refine lv_iconst (v := 3) hx hb d_W_directionOf_26 (by decide) ?_
        cases hf
        exact W.iret hx hb hr (fun t ht hW => ⟨_, rfl, rfl, ht⟩) (fun q h => by cases h) d_W_directionOf_27
      · have hf := oIf_f hf c4
        refine lv_iconst (v := 2) hx hb d_W_directionOf_22 (by decide) ?_
        refine lv_goto (tgt := 27) hx hb d_W_directionOf_23 (by decide) ?_
        cases hf
        exact W.iret hx hb hr (fun t ht hW => ⟨_, rfl, rfl, ht⟩) (fun q h => by cases h) d_W_directionOf_27
  · have hf := oIf_f hf c1
    refine lv_iload_n hx hb d_W_directionOf_4 rfl (lv_at hl 0 rfl) ?_
    refine lv_if_le (tgt := 12) hx hb d_W_directionOf_5 (by decide) (fun c5 => ?_) (fun c5 => ?_)
    · have hf := oIf_t hf c5
      refine lv_iconst (v := 1) hx hb d_W_directionOf_12 (by decide) ?_
      cases hf
      exact W.iret hx hb hr (fun t ht hW => ⟨_, rfl, rfl, ht⟩) (fun q h => by cases h) d_W_directionOf_13
    · have hf := oIf_f hf c5
      refine lv_iconst (v := 0) hx hb d_W_directionOf_8 (by decide) ?_
      refine lv_goto (tgt := 13) hx hb d_W_directionOf_9 (by decide) ?_
      cases hf
      exact W.iret hx hb hr (fun t ht hW => ⟨_, rfl, rfl, ht⟩) (fun q h => by cases h) d_W_directionOf_13
set_option maxHeartbeats 4000000 in
set_option maxRecDepth 100000 in
theorem c_W_stepAbout (l : Launch) (dC : Nat → ClassId) (dI : Nat → Nat → Nat) (cI cJ : ClassId) (x0 : Int32) (x1 : Int32) (x2 : Int32) (r_ : Int32) (hf : f_W_stepAbout x0 x1 x2 = some r_) : Met l y_W_stepAbout w_W_stepAbout ({ frames := 1, cells := 0, slots := 0, locals := 22 }) (va_Pc [.int x0, .int x1, .int x2] (fun U => va_P (dC, dI) vwCl [] U.heap ∧ va_K (dC, dI) vwCl [(cI, .int), (cJ, .long)] U ∧ nestZ U)) (vp_Si (fun r9 => r9 = r_)) 0 0 (fun _ => False) := by
  refine Met.ofW (cc := b_W_stepAbout) (maxL := 9) (ret := (some .int)) (by decide) rfl ?_
  intro p e s m args below meth c s₁ B hml hv
  obtain ⟨rfl, hP, hK, hZ⟩ := hv
  have hx := B.exec
  have hb := B.bytes
  have hr := B.returns
  have hts := atoms_spec (ws := w_W_stepAbout) B.pre
  have ht : ∀ w ∈ wAll, w.before _ s = true := fun w h => hts w (List.mem_cons_of_mem _ h)
  have hown : s.vm.findClass R_W = some m.cls := findClass_of_methodNamed B.named
  have hlocks := B.notSynchronized
  have hP : va_P (dC, dI) vwCl [] s.heap := hP
  have hl := lv_entry ([.int x0, .int x1, .int x2]) (n := 9) (Nat.le_of_ble_eq_true rfl)
  rw [lg_entry_eq]
  generalize (lg_sl ([.int x0, .int x1, .int x2]) ++ List.replicate (9 - (lg_sl ([.int x0, .int x1, .int x2])).length) Slot.unset).toArray = ls at hl ⊢
  have hl : lv_has ls 9 [(0, .int x0), (1, .int x1), (2, .int x2)] := hl
  refine w_abs (fun Wx toX ofX => ?_)
  have K46 : ∀ (x0 : Int32) (x1 : Int32) (x2 : Int32) (x4 : Int32) (x5 : Int32) (t0 : Int32) (ls : Array Slot), f_W_stepAbout_J46  x0 x1 x2 x4 x5 t0 = some r_ → lv_has ls 9 [(0, .int x0), (1, .int x1), (2, .int x2), (4, .int x4), (5, .int x5)] → Wx s.heap [] 0 0 (F0 m 46 ls [.int t0]) := by
    intro x0 x1 x2 x4 x5 t0 ls hf hl
    refine toX _ _ _ _ _ ?_
    unfold f_W_stepAbout_J46 at hf
    refine lv_istore (lv' := [(6, .int t0), (0, .int x0), (1, .int x1), (2, .int x2), (4, .int x4), (5, .int x5)]) hx hb d_W_stepAbout_46 hl (by decide) rfl (fun ls hl => ?_)
    refine lv_iload_n hx hb d_W_stepAbout_48 rfl (lv_at hl 1 rfl) ?_
    refine lv_iload_n hx hb d_W_stepAbout_49 rfl (lv_at hl 1 rfl) ?_
    refine lv_imul hx hb d_W_stepAbout_50 ?_
    refine lv_iload hx hb d_W_stepAbout_51 (lv_at hl 5 rfl) ?_
    refine lv_isub hx hb d_W_stepAbout_53 ?_
    refine lv_iload hx hb d_W_stepAbout_54 (lv_at hl 0 rfl) ?_
    obtain ⟨hz1, hf⟩ := oNz_some hf
    refine lv_idiv hx hb d_W_stepAbout_56 hz1 ?_
    refine lv_iload_n hx hb d_W_stepAbout_57 rfl (lv_at hl 1 rfl) ?_
    refine lv_iload_n hx hb d_W_stepAbout_58 rfl (lv_at hl 2 rfl) ?_
    refine lv_imul hx hb d_W_stepAbout_59 ?_
    refine lv_iload hx hb d_W_stepAbout_60 (lv_at hl 4 rfl) ?_
    refine lv_iload_n hx hb d_W_stepAbout_62 rfl (lv_at hl 3 rfl) ?_
    refine lv_imul hx hb d_W_stepAbout_63 ?_
    refine lv_iadd hx hb d_W_stepAbout_64 ?_
    refine lv_iload hx hb d_W_stepAbout_65 (lv_at hl 0 rfl) ?_
    obtain ⟨hz2, hf⟩ := oNz_some hf
    refine lv_idiv hx hb d_W_stepAbout_67 hz2 ?_
    refine lv_iload_n hx hb d_W_stepAbout_68 rfl (lv_at hl 1 rfl) ?_
    refine lv_iload_n hx hb d_W_stepAbout_69 rfl (lv_at hl 3 rfl) ?_
    refine lv_imul hx hb d_W_stepAbout_70 ?_
    refine lv_iload hx hb d_W_stepAbout_71 (lv_at hl 4 rfl) ?_
    refine lv_iload_n hx hb d_W_stepAbout_73 rfl (lv_at hl 2 rfl) ?_
    refine lv_imul hx hb d_W_stepAbout_74 ?_
    refine lv_isub hx hb d_W_stepAbout_75 ?_
    refine lv_iload hx hb d_W_stepAbout_76 (lv_at hl 0 rfl) ?_
    obtain ⟨hz3, hf⟩ := oNz_some hf
    refine lv_idiv hx hb d_W_stepAbout_78 hz3 ?_
    obtain ⟨r4z, hfc, hf⟩ := oCall1_some hf
    have hPc := hP.sub (ws' := []) [] rfl
    refine vp_callSi (va_runS (As := [.int (((x0 * x0) - x5) / t0), .int (((x0 * x1) + (x4 * x2)) / t0), .int (((x0 * x2) - (x4 * x1)) / t0)]) (rest := []) ⟨hx, hb, hml, hown, ht⟩ (c_W_directionOf l dC dI cI cJ (((x0 * x0) - x5) / t0) (((x0 * x1) + (x4 * x2)) / t0) (((x0 * x2) - (x4 * x1)) / t0) r4z hfc) (va_cwS 3 ht (gS m_178 m_179 m_33 m_180) rfl rfl rfl (by decide +kernel) ⟨Nat.le_of_ble_eq_true rfl, Nat.le_of_ble_eq_true rfl⟩) (preR hPc hK hZ) rfl rfl hl.1 rfl (lv_room (Nat.le_of_ble_eq_true rfl)) d_W_stepAbout_79 ⟨Nat.le_of_ble_eq_true rfl, Nat.le_of_ble_eq_true rfl⟩).run (fun r4 hw => ?_)
    subst hw
    clear hPc hfc
    refine lv_istore (lv' := [(7, .int r4), (6, .int t0), (0, .int x0), (1, .int x1), (2, .int x2), (4, .int x4), (5, .int x5)]) hx hb d_W_stepAbout_82 hl (by decide) rfl (fun ls hl => ?_)
    refine lv_iload_n hx hb d_W_stepAbout_84 rfl (lv_at hl 2 rfl) ?_
    refine lv_iload_n hx hb d_W_stepAbout_85 rfl (lv_at hl 3 rfl) ?_
    refine lv_imul hx hb d_W_stepAbout_86 ?_
    refine lv_iload hx hb d_W_stepAbout_87 (lv_at hl 5 rfl) ?_
    refine lv_iload_n hx hb d_W_stepAbout_89 rfl (lv_at hl 4 rfl) ?_
    refine lv_imul hx hb d_W_stepAbout_90 ?_
    refine lv_isub hx hb d_W_stepAbout_91 ?_
    refine lv_iload hx hb d_W_stepAbout_92 (lv_at hl 1 rfl) ?_
    obtain ⟨hz5, hf⟩ := oNz_some hf
    refine lv_idiv hx hb d_W_stepAbout_94 hz5 ?_
    refine lv_iload_n hx hb d_W_stepAbout_95 rfl (lv_at hl 3 rfl) ?_
    refine lv_iload_n hx hb d_W_stepAbout_96 rfl (lv_at hl 3 rfl) ?_
    refine lv_imul hx hb d_W_stepAbout_97 ?_
    refine lv_iload hx hb d_W_stepAbout_98 (lv_at hl 6 rfl) ?_
    refine lv_isub hx hb d_W_stepAbout_100 ?_
    refine lv_iload hx hb d_W_stepAbout_101 (lv_at hl 1 rfl) ?_
    obtain ⟨hz6, hf⟩ := oNz_some hf
    refine lv_idiv hx hb d_W_stepAbout_103 hz6 ?_
    refine lv_iload_n hx hb d_W_stepAbout_104 rfl (lv_at hl 3 rfl) ?_
    refine lv_iload_n hx hb d_W_stepAbout_105 rfl (lv_at hl 4 rfl) ?_
    refine lv_imul hx hb d_W_stepAbout_106 ?_
    refine lv_iload hx hb d_W_stepAbout_107 (lv_at hl 5 rfl) ?_
    refine lv_iload_n hx hb d_W_stepAbout_109 rfl (lv_at hl 2 rfl) ?_
    refine lv_imul hx hb d_W_stepAbout_110 ?_
    refine lv_iadd hx hb d_W_stepAbout_111 ?_
    refine lv_iload hx hb d_W_stepAbout_112 (lv_at hl 1 rfl) ?_
    obtain ⟨hz7, hf⟩ := oNz_some hf
    refine lv_idiv hx hb d_W_stepAbout_114 hz7 ?_
    obtain ⟨r8z, hfc, hf⟩ := oCall1_some hf
    have hPc := hP.sub (ws' := []) [] rfl
    refine vp_callSi (va_runS (As := [.int (((x0 * x1) - (x4 * x2)) / t0), .int (((x1 * x1) - x5) / t0), .int (((x1 * x2) + (x4 * x0)) / t0)]) (rest := []) ⟨hx, hb, hml, hown, ht⟩ (c_W_directionOf l dC dI cI cJ (((x0 * x1) - (x4 * x2)) / t0) (((x1 * x1) - x5) / t0) (((x1 * x2) + (x4 * x0)) / t0) r8z hfc) (va_cwS 3 ht (gS m_178 m_179 m_33 m_180) rfl rfl rfl (by decide +kernel) ⟨Nat.le_of_ble_eq_true rfl, Nat.le_of_ble_eq_true rfl⟩) (preR hPc hK hZ) rfl rfl hl.1 rfl (lv_room (Nat.le_of_ble_eq_true rfl)) d_W_stepAbout_115 ⟨Nat.le_of_ble_eq_true rfl, Nat.le_of_ble_eq_true rfl⟩).run (fun r8 hw => ?_)
    subst hw
    clear hPc hfc
    refine lv_istore (lv' := [(8, .int r8), (7, .int r4), (6, .int t0), (0, .int x0), (1, .int x1), (2, .int x2), (4, .int x4), (5, .int x5)]) hx hb d_W_stepAbout_118 hl (by decide) rfl (fun ls hl => ?_)
    refine lv_iload hx hb d_W_stepAbout_120 (lv_at hl 1 rfl) ?_
    refine lv_iload hx hb d_W_stepAbout_122 (lv_at hl 0 rfl) ?_
    obtain ⟨r9z, hfc, hf⟩ := oCall1_some hf
    have hPc := hP.sub (ws' := []) [] rfl
    refine vp_callSi (va_runS (As := [.int r4, .int r8]) (rest := []) ⟨hx, hb, hml, hown, ht⟩ (c_W_numberOf l dC dI cI cJ r4 r8 r9z hfc) (va_cwS 2 ht (gS m_181 m_182 m_33 m_183) rfl rfl rfl (by decide +kernel) ⟨Nat.le_of_ble_eq_true rfl, Nat.le_of_ble_eq_true rfl⟩) (preR hPc hK hZ) rfl rfl hl.1 rfl (lv_room (Nat.le_of_ble_eq_true rfl)) d_W_stepAbout_124 ⟨Nat.le_of_ble_eq_true rfl, Nat.le_of_ble_eq_true rfl⟩).run (fun r9 hw => ?_)
    subst hw
    clear hPc hfc
    cases hf
    exact W.iret hx hb hr (fun t ht hW => ⟨_, rfl, rfl, ht⟩) (fun q h => by cases h) d_W_stepAbout_127
  have K34 : ∀ (x0 : Int32) (x1 : Int32) (x2 : Int32) (x3 : Int32) (x4 : Int32) (t0 : Int32) (ls : Array Slot), f_W_stepAbout_J34  x0 x1 x2 x3 x4 t0 = some r_ → lv_has ls 9 [(0, .int x0), (1, .int x1), (2, .int x2), (3, .int x3), (4, .int x4)] → Wx s.heap [] 0 0 (F0 m 34 ls [.int t0]) := by
    intro x0 x1 x2 x3 x4 t0 ls hf hl
    refine toX _ _ _ _ _ ?_
    unfold f_W_stepAbout_J34 at hf
    refine lv_istore (lv' := [(5, .int t0), (0, .int x0), (1, .int x1), (2, .int x2), (3, .int x3), (4, .int x4)]) hx hb d_W_stepAbout_34 hl (by decide) rfl (fun ls hl => ?_)
    refine lv_iload_n hx hb d_W_stepAbout_36 rfl (lv_at hl 4 rfl) ?_
    refine lv_iconst (v := 3) hx hb d_W_stepAbout_37 (by decide) ?_
    refine lv_icmp_ne (tgt := 45) hx hb d_W_stepAbout_38 (by decide) (fun c10 => ?_) (fun c10 => ?_)
    · have hf := oIf_f hf c10
      refine lv_iconst (v := 1) hx hb d_W_stepAbout_45 (by decide) ?_
      exact ofX _ _ _ _ _ (K46  x0 x1 x2 x4 t0 1 _ hf (lv_sub hl [1, 2, 3, 5, 0] rfl))
    · have hf := oIf_t hf c10
      refine lv_iconst (v := 2) hx hb d_W_stepAbout_41 (by decide) ?_
      refine lv_goto (tgt := 46) hx hb d_W_stepAbout_42 (by decide) ?_
      exact ofX _ _ _ _ _ (K46  x0 x1 x2 x4 t0 2 _ hf (lv_sub hl [1, 2, 3, 5, 0] rfl))
  have K22 : ∀ (x0 : Int32) (x1 : Int32) (x2 : Int32) (x3 : Int32) (t0 : Int32) (ls : Array Slot), f_W_stepAbout_J22  x0 x1 x2 x3 t0 = some r_ → lv_has ls 9 [(0, .int x0), (1, .int x1), (2, .int x2), (3, .int x3)] → Wx s.heap [] 0 0 (F0 m 22 ls [.int t0]) := by
    intro x0 x1 x2 x3 t0 ls hf hl
    refine toX _ _ _ _ _ ?_
    unfold f_W_stepAbout_J22 at hf
    refine lv_istore (lv' := [(4, .int t0), (0, .int x0), (1, .int x1), (2, .int x2), (3, .int x3)]) hx hb d_W_stepAbout_22 hl (by decide) rfl (fun ls hl => ?_)
    refine lv_iload_n hx hb d_W_stepAbout_24 rfl (lv_at hl 4 rfl) ?_
    refine lv_iconst (v := 1) hx hb d_W_stepAbout_25 (by decide) ?_
    refine lv_icmp_ne (tgt := 33) hx hb d_W_stepAbout_26 (by decide) (fun c11 => ?_) (fun c11 => ?_)
    · have hf := oIf_f hf c11
      refine lv_iconst (v := 1) hx hb d_W_stepAbout_33 (by decide) ?_
      exact ofX _ _ _ _ _ (K34  x0 x1 x2 x3 t0 1 _ hf (lv_sub hl [1, 2, 3, 4, 0] rfl))
    · have hf := oIf_t hf c11
      refine lv_iconst (v := 0) hx hb d_W_stepAbout_29 (by decide) ?_
      refine lv_goto (tgt := 34) hx hb d_W_stepAbout_30 (by decide) ?_
      exact ofX _ _ _ _ _ (K34  x0 x1 x2 x3 t0 0 _ hf (lv_sub hl [1, 2, 3, 4, 0] rfl))
  refine toX _ _ _ _ _ ?_
  unfold f_W_stepAbout at hf
  refine lv_iload_n hx hb d_W_stepAbout_0 rfl (lv_at hl 0 rfl) ?_
  refine lv_iload_n hx hb d_W_stepAbout_1 rfl (lv_at hl 0 rfl) ?_
  refine lv_imul hx hb d_W_stepAbout_2 ?_
  refine lv_iload_n hx hb d_W_stepAbout_3 rfl (lv_at hl 1 rfl) ?_
  refine lv_iload_n hx hb d_W_stepAbout_4 rfl (lv_at hl 1 rfl) ?_
  refine lv_imul hx hb d_W_stepAbout_5 ?_
  refine lv_iadd hx hb d_W_stepAbout_6 ?_
  refine lv_iload_n hx hb d_W_stepAbout_7 rfl (lv_at hl 2 rfl) ?_
  refine lv_iload_n hx hb d_W_stepAbout_8 rfl (lv_at hl 2 rfl) ?_
  refine lv_imul hx hb d_W_stepAbout_9 ?_
  refine lv_iadd hx hb d_W_stepAbout_10 ?_
  refine lv_topi (fun v12 ev12 => ?_)
  have hf := oLet_some hf ev12
  refine lv_istore_n (lv' := [(3, .int v12), (0, .int x0), (1, .int x1), (2, .int x2)]) hx hb d_W_stepAbout_11 rfl hl (by decide) rfl (fun ls hl => ?_)
  refine lv_iload_n hx hb d_W_stepAbout_12 rfl (lv_at hl 0 rfl) ?_
  refine lv_iconst (v := 2) hx hb d_W_stepAbout_13 (by decide) ?_
  refine lv_icmp_ne (tgt := 21) hx hb d_W_stepAbout_14 (by decide) (fun c13 => ?_) (fun c13 => ?_)
  · have hf := oIf_f hf c13
    refine lv_iconst (v := 1) hx hb d_W_stepAbout_21 (by decide) ?_
    exact ofX _ _ _ _ _ (K22  x0 x1 x2 v12 1 _ hf (lv_sub hl [1, 2, 3, 0] rfl))
  · have hf := oIf_t hf c13
    refine lv_iconst (v := 0) hx hb d_W_stepAbout_17 (by decide) ?_
    refine lv_goto (tgt := 22) hx hb d_W_stepAbout_18 (by decide) ?_
    exact ofX _ _ _ _ _ (K22  x0 x1 x2 v12 0 _ hf (lv_sub hl [1, 2, 3, 0] rfl))
end
section
set_option maxHeartbeats 4000000 in
set_option maxRecDepth 100000 in
theorem c_X_isWithin (l : Launch) (dC : Nat → ClassId) (dI : Nat → Nat → Nat) (cI cJ : ClassId) (x0 : Int32) (x1 : Int32) (r_ : Int32) (hf : f_X_isWithin x0 x1 = some r_) : Met l y_X_isWithin w_X_isWithin ({ frames := 0, cells := 0, slots := 0, locals := 0 }) (va_Pc [.int x0, .int x1] (fun U => va_P (dC, dI) vwCl [] U.heap ∧ va_K (dC, dI) vwCl [(cI, .int), (cJ, .long)] U ∧ nestZ U)) (vp_Si (fun r9 => r9 = r_)) 0 0 (fun _ => False) := by
  refine Met.ofW (cc := b_X_isWithin) (maxL := 2) (ret := (some .boolean)) (by decide) rfl ?_
  intro p e s m args below meth c s₁ B hml hv
  obtain ⟨rfl, hP, hK, hZ⟩ := hv
  have hx := B.exec
  have hb := B.bytes
  have hr := B.returns
  have hts := atoms_spec (ws := w_X_isWithin) B.pre
  have ht : ∀ w ∈ wAll, w.before _ s = true := fun w h => hts w (List.mem_cons_of_mem _ h)
  have hown : s.vm.findClass R_X = some m.cls := findClass_of_methodNamed B.named
  have hlocks := B.notSynchronized
  have hP : va_P (dC, dI) vwCl [] s.heap := hP
  have hl := lv_entry ([.int x0, .int x1]) (n := 2) (Nat.le_of_ble_eq_true rfl)
  rw [lg_entry_eq]
  generalize (lg_sl ([.int x0, .int x1]) ++ List.replicate (2 - (lg_sl ([.int x0, .int x1])).length) Slot.unset).toArray = ls at hl ⊢
  have hl : lv_has ls 2 [(0, .int x0), (1, .int x1)] := hl
  unfold f_X_isWithin at hf
  refine lv_iload_n hx hb d_X_isWithin_0 rfl (lv_at hl 0 rfl) ?_
  refine lv_iload_n hx hb d_X_isWithin_1 rfl (lv_at hl 1 rfl) ?_
  refine lv_ineg hx hb d_X_isWithin_2 ?_
  refine lv_icmp_lt (tgt := 15) hx hb d_X_isWithin_3 (by decide) (fun c1 => ?_) (fun c1 => ?_)
  · have hf := oIf_t hf c1
    refine lv_iconst (v := 0) hx hb d_X_isWithin_15 (by decide) ?_
    cases hf
    exact W.zret (ty := .boolean) hx hb hr rfl (fun t ht hW => ⟨_, rfl, rfl, ht⟩) (fun q h => by cases h) d_X_isWithin_16
  · have hf := oIf_f hf c1
    refine lv_iload_n hx hb d_X_isWithin_6 rfl (lv_at hl 0 rfl) ?_
    refine lv_iload_n hx hb d_X_isWithin_7 rfl (lv_at hl 1 rfl) ?_
    refine lv_icmp_gt (tgt := 15) hx hb d_X_isWithin_8 (by decide) (fun c2 => ?_) (fun c2 => ?_)
    · have hf := oIf_t hf c2
      refine lv_iconst (v := 0) hx hb d_X_isWithin_15 (by decide) ?_
      cases hf
      exact W.zret (ty := .boolean) hx hb hr rfl (fun t ht hW => ⟨_, rfl, rfl, ht⟩) (fun q h => by cases h) d_X_isWithin_16
    · have hf := oIf_f hf c2
      refine lv_iconst (v := 1) hx hb d_X_isWithin_11 (by decide) ?_
      refine lv_goto (tgt := 16) hx hb d_X_isWithin_12 (by decide) ?_
      cases hf
      exact W.zret (ty := .boolean) hx hb hr rfl (fun t ht hW => ⟨_, rfl, rfl, ht⟩) (fun q h => by cases h) d_X_isWithin_16
set_option maxHeartbeats 4000000 in
set_option maxRecDepth 100000 in
theorem c_B_hasPoint (l : Launch) (dC : Nat → ClassId) (dI : Nat → Nat → Nat) (qB qBx qBy qBz qBa qBb qBc qBd qBs : Nat) (cI cJ : ClassId) (nP : Int32) (nQ : Int32) (bX : Nat → Int32) (bY : Nat → Int32) (bZ : Nat → Int32) (bA : Nat → Int32) (bB : Nat → Int32) (bC : Nat → Int32) (bD : Nat → Int32) (bS : Nat → Int64) (x1 : Int32) (r_ : Int32) (hf : f_B_hasPoint nP x1 = some r_) : Met l y_B_hasPoint w_B_hasPoint ({ frames := 0, cells := 0, slots := 0, locals := 0 }) (va_Pc [.ref qB, .int x1] (fun U => va_P (dC, dI) vwCl (w_B qB qBx qBy qBz qBa qBb qBc qBd qBs cI cJ nP nQ bX bY bZ bA bB bC bD bS) U.heap ∧ va_K (dC, dI) vwCl [(cI, .int), (cJ, .long)] U ∧ nestZ U)) (vp_Si (fun r9 => r9 = r_)) 0 0 (fun _ => False) := by
  refine Met.ofW (cc := b_B_hasPoint) (maxL := 2) (ret := (some .boolean)) (by decide) rfl ?_
  intro p e s m args below meth c s₁ B hml hv
  obtain ⟨rfl, hP, hK, hZ⟩ := hv
  have hx := B.exec
  have hb := B.bytes
  have hr := B.returns
  have hts := atoms_spec (ws := w_B_hasPoint) B.pre
  have ht : ∀ w ∈ wAll, w.before _ s = true := fun w h => hts w (List.mem_cons_of_mem _ h)
  have hown : s.vm.findClass R_B = some m.cls := findClass_of_methodNamed B.named
  have hlocks := B.notSynchronized
  have hP : va_P (dC, dI) vwCl (w_B qB qBx qBy qBz qBa qBb qBc qBd qBs cI cJ nP nQ bX bY bZ bA bB bC bD bS) s.heap := hP
  have hl := lv_entry ([.ref qB, .int x1]) (n := 2) (Nat.le_of_ble_eq_true rfl)
  rw [lg_entry_eq]
  generalize (lg_sl ([.ref qB, .int x1]) ++ List.replicate (2 - (lg_sl ([.ref qB, .int x1])).length) Slot.unset).toArray = ls at hl ⊢
  have hl : lv_has ls 2 [(0, .ref qB), (1, .int x1)] := hl
  unfold f_B_hasPoint at hf
  refine lv_iload_n hx hb d_B_hasPoint_0 rfl (lv_at hl 1 rfl) ?_
  refine lv_if_lt (tgt := 16) hx hb d_B_hasPoint_1 (by decide) (fun c1 => ?_) (fun c1 => ?_)
  · have hf := oIf_t hf c1
    refine lv_iconst (v := 0) hx hb d_B_hasPoint_16 (by decide) ?_
    cases hf
    exact W.zret (ty := .boolean) hx hb hr rfl (fun t ht hW => ⟨_, rfl, rfl, ht⟩) (fun q h => by cases h) d_B_hasPoint_17
  · have hf := oIf_f hf c1
    refine lv_iload_n hx hb d_B_hasPoint_4 rfl (lv_at hl 1 rfl) ?_
    refine lv_aload_n hx hb d_B_hasPoint_5 rfl (lv_at hl 0 rfl) ?_
    refine va_get (D := (dC, dI)) (ci := 0) (v := .int nP) (C := R_B) (T := T_B) (N := 10) hx hb ht in_B hown hK hP 0 rfl rfl 3 (by decide) (ht _ m_52) (fun _ h9 => h9) rfl d_B_hasPoint_6 ?_
    refine lv_icmp_ge (tgt := 16) hx hb d_B_hasPoint_9 (by decide) (fun c2 => ?_) (fun c2 => ?_)
    · have hf := oIf_t hf c2
      refine lv_iconst (v := 0) hx hb d_B_hasPoint_16 (by decide) ?_
      cases hf
      exact W.zret (ty := .boolean) hx hb hr rfl (fun t ht hW => ⟨_, rfl, rfl, ht⟩) (fun q h => by cases h) d_B_hasPoint_17
    · have hf := oIf_f hf c2
      refine lv_iconst (v := 1) hx hb d_B_hasPoint_12 (by decide) ?_
      refine lv_goto (tgt := 17) hx hb d_B_hasPoint_13 (by decide) ?_
      cases hf
      exact W.zret (ty := .boolean) hx hb hr rfl (fun t ht hW => ⟨_, rfl, rfl, ht⟩) (fun q h => by cases h) d_B_hasPoint_17
set_option maxHeartbeats 4000000 in
set_option maxRecDepth 100000 in
theorem c_B_hasPlane (l : Launch) (dC : Nat → ClassId) (dI : Nat → Nat → Nat) (qB qBx qBy qBz qBa qBb qBc qBd qBs : Nat) (cI cJ : ClassId) (nP : Int32) (nQ : Int32) (bX : Nat → Int32) (bY : Nat → Int32) (bZ : Nat → Int32) (bA : Nat → Int32) (bB : Nat → Int32) (bC : Nat → Int32) (bD : Nat → Int32) (bS : Nat → Int64) (x1 : Int32) (r_ : Int32) (hf : f_B_hasPlane nQ x1 = some r_) : Met l y_B_hasPlane w_B_hasPlane ({ frames := 0, cells := 0, slots := 0, locals := 0 }) (va_Pc [.ref qB, .int x1] (fun U => va_P (dC, dI) vwCl (w_B qB qBx qBy qBz qBa qBb qBc qBd qBs cI cJ nP nQ bX bY bZ bA bB bC bD bS) U.heap ∧ va_K (dC, dI) vwCl [(cI, .int), (cJ, .long)] U ∧ nestZ U)) (vp_Si (fun r9 => r9 = r_)) 0 0 (fun _ => False) := by
  refine Met.ofW (cc := b_B_hasPlane) (maxL := 2) (ret := (some .boolean)) (by decide) rfl ?_
  intro p e s m args below meth c s₁ B hml hv
  obtain ⟨rfl, hP, hK, hZ⟩ := hv
  have hx := B.exec
  have hb := B.bytes
  have hr := B.returns
  have hts := atoms_spec (ws := w_B_hasPlane) B.pre
  have ht : ∀ w ∈ wAll, w.before _ s = true := fun w h => hts w (List.mem_cons_of_mem _ h)
  have hown : s.vm.findClass R_B = some m.cls := findClass_of_methodNamed B.named
  have hlocks := B.notSynchronized
  have hP : va_P (dC, dI) vwCl (w_B qB qBx qBy qBz qBa qBb qBc qBd qBs cI cJ nP nQ bX bY bZ bA bB bC bD bS) s.heap := hP
  have hl := lv_entry ([.ref qB, .int x1]) (n := 2) (Nat.le_of_ble_eq_true rfl)
  rw [lg_entry_eq]
  generalize (lg_sl ([.ref qB, .int x1]) ++ List.replicate (2 - (lg_sl ([.ref qB, .int x1])).length) Slot.unset).toArray = ls at hl ⊢
  have hl : lv_has ls 2 [(0, .ref qB), (1, .int x1)] := hl
  unfold f_B_hasPlane at hf
  refine lv_iload_n hx hb d_B_hasPlane_0 rfl (lv_at hl 1 rfl) ?_
  refine lv_if_lt (tgt := 16) hx hb d_B_hasPlane_1 (by decide) (fun c1 => ?_) (fun c1 => ?_)
  · have hf := oIf_t hf c1
    refine lv_iconst (v := 0) hx hb d_B_hasPlane_16 (by decide) ?_
    cases hf
    exact W.zret (ty := .boolean) hx hb hr rfl (fun t ht hW => ⟨_, rfl, rfl, ht⟩) (fun q h => by cases h) d_B_hasPlane_17
  · have hf := oIf_f hf c1
    refine lv_iload_n hx hb d_B_hasPlane_4 rfl (lv_at hl 1 rfl) ?_
    refine lv_aload_n hx hb d_B_hasPlane_5 rfl (lv_at hl 0 rfl) ?_
    refine va_get (D := (dC, dI)) (ci := 0) (v := .int nQ) (C := R_B) (T := T_B) (N := 10) hx hb ht in_B hown hK hP 0 rfl rfl 8 (by decide) (ht _ m_58) (fun _ h9 => h9) rfl d_B_hasPlane_6 ?_
    refine lv_icmp_ge (tgt := 16) hx hb d_B_hasPlane_9 (by decide) (fun c2 => ?_) (fun c2 => ?_)
    · have hf := oIf_t hf c2
      refine lv_iconst (v := 0) hx hb d_B_hasPlane_16 (by decide) ?_
      cases hf
      exact W.zret (ty := .boolean) hx hb hr rfl (fun t ht hW => ⟨_, rfl, rfl, ht⟩) (fun q h => by cases h) d_B_hasPlane_17
    · have hf := oIf_f hf c2
      refine lv_iconst (v := 1) hx hb d_B_hasPlane_12 (by decide) ?_
      refine lv_goto (tgt := 17) hx hb d_B_hasPlane_13 (by decide) ?_
      cases hf
      exact W.zret (ty := .boolean) hx hb hr rfl (fun t ht hW => ⟨_, rfl, rfl, ht⟩) (fun q h => by cases h) d_B_hasPlane_17
set_option maxHeartbeats 4000000 in
set_option maxRecDepth 100000 in
theorem c_B_pointAt (l : Launch) (dC : Nat → ClassId) (dI : Nat → Nat → Nat) (qB qBx qBy qBz qBa qBb qBc qBd qBs : Nat) (cI cJ : ClassId) (nP : Int32) (nQ : Int32) (bX : Nat → Int32) (bY : Nat → Int32) (bZ : Nat → Int32) (bA : Nat → Int32) (bB : Nat → Int32) (bC : Nat → Int32) (bD : Nat → Int32) (bS : Nat → Int64) (x1 : Int32) (x2 : Int32) (x3 : Int32) (r_ : Int32) (hf : f_B_pointAt nP bX bY bZ x1 x2 x3 = some r_) : Met l y_B_pointAt w_B_pointAt ({ frames := 0, cells := 0, slots := 0, locals := 0 }) (va_Pc [.ref qB, .int x1, .int x2, .int x3] (fun U => va_P (dC, dI) vwCl (w_B qB qBx qBy qBz qBa qBb qBc qBd qBs cI cJ nP nQ bX bY bZ bA bB bC bD bS) U.heap ∧ va_K (dC, dI) vwCl [(cI, .int), (cJ, .long)] U ∧ nestZ U)) (vp_Si (fun r9 => r9 = r_)) 0 0 (fun _ => False) := by
  refine Met.ofW (cc := b_B_pointAt) (maxL := 5) (ret := (some .int)) (by decide) rfl ?_
  intro p e s m args below meth c s₁ B hml hv
  obtain ⟨rfl, hP, hK, hZ⟩ := hv
  have hx := B.exec
  have hb := B.bytes
  have hr := B.returns
  have hts := atoms_spec (ws := w_B_pointAt) B.pre
  have ht : ∀ w ∈ wAll, w.before _ s = true := fun w h => hts w (List.mem_cons_of_mem _ h)
  have hown : s.vm.findClass R_B = some m.cls := findClass_of_methodNamed B.named
  have hlocks := B.notSynchronized
  have hP : va_P (dC, dI) vwCl (w_B qB qBx qBy qBz qBa qBb qBc qBd qBs cI cJ nP nQ bX bY bZ bA bB bC bD bS) s.heap := hP
  have hl := lv_entry ([.ref qB, .int x1, .int x2, .int x3]) (n := 5) (Nat.le_of_ble_eq_true rfl)
  rw [lg_entry_eq]
  generalize (lg_sl ([.ref qB, .int x1, .int x2, .int x3]) ++ List.replicate (5 - (lg_sl ([.ref qB, .int x1, .int x2, .int x3])).length) Slot.unset).toArray = ls at hl ⊢
  have hl : lv_has ls 5 [(0, .ref qB), (1, .int x1), (2, .int x2), (3, .int x3)] := hl
  refine w_abs (fun Wx toX ofX => ?_)
  have K3 : ∀ (x1 : Int32) (x2 : Int32) (x3 : Int32) (n : Nat) (x4 : Int32) (ls : Array Slot), oLoop1 (f_B_pointAt_L3  nP bX bY bZ x1 x2 x3) n x4 = some r_ → lv_has ls 5 [(0, .ref qB), (1, .int x1), (2, .int x2), (3, .int x3), (4, .int x4)] → Wx s.heap [] 0 0 (F0 m 3 ls []) := by
    intro x1 x2 x3 n
    induction n with
    | zero => intro x4 ls hf; exact (oLoop1_0 hf).elim
    | succ n ih3 =>
      obtain ⟨rec3, hrec3⟩ : ∃ z, z = oLoop1 (f_B_pointAt_L3  nP bX bY bZ x1 x2 x3) n := ⟨_, rfl⟩
      rw [← hrec3] at ih3
      have K48 : ∀ (x4 : Int32) (ls : Array Slot), f_B_pointAt_J48 rec3 nP bX bY bZ x1 x2 x3 x4 = some r_ → lv_has ls 5 [(0, .ref qB), (1, .int x1), (2, .int x2), (3, .int x3), (4, .int x4)] → Wx s.heap [] 0 0 (F0 m 48 ls []) := by
        intro x4 ls hf hl
        refine toX _ _ _ _ _ ?_
        unfold f_B_pointAt_J48 at hf
        obtain ⟨v1, ev1, hf⟩ := oLet_ex hf
        refine lv_iinc (v := v1) (lv' := [(4, .int v1), (0, .ref qB), (1, .int x1), (2, .int x2), (3, .int x3)]) hx hb d_B_pointAt_48 hl (k := 4) rfl (by rw [ev1]; rfl) (by decide) rfl (fun ls hl => ?_)
        refine lv_goto (tgt := 3) hx hb d_B_pointAt_51 (by decide) ?_
        exact ofX _ _ _ _ _ (ih3 v1 _ hf (lv_sub hl [1, 2, 3, 4, 0] rfl))
      intro x4 ls hf hl
      refine toX _ _ _ _ _ ?_
      have hf := oLoop1_s hf
      rw [← hrec3] at hf
      unfold f_B_pointAt_L3 at hf
      refine lv_iload hx hb d_B_pointAt_3 (lv_at hl 4 rfl) ?_
      refine lv_aload_n hx hb d_B_pointAt_5 rfl (lv_at hl 0 rfl) ?_
      refine va_get (D := (dC, dI)) (ci := 0) (v := .int nP) (C := R_B) (T := T_B) (N := 10) hx hb ht in_B hown hK hP 0 rfl rfl 3 (by decide) (ht _ m_52) (fun _ h9 => h9) rfl d_B_pointAt_6 ?_
      refine lv_icmp_ge (tgt := 54) hx hb d_B_pointAt_9 (by decide) (fun c2 => ?_) (fun c2 => ?_)
      · have hf := oIf_t hf c2
        refine lv_iconst (v := (-1)) hx hb d_B_pointAt_54 (by decide) ?_
        cases hf
        exact W.iret hx hb hr (fun t ht hW => ⟨_, rfl, rfl, ht⟩) (fun q h => by cases h) d_B_pointAt_55
      · have hf := oIf_f hf c2
        refine lv_aload_n hx hb d_B_pointAt_12 rfl (lv_at hl 0 rfl) ?_
        refine va_get (D := (dC, dI)) (ci := 0) (v := .ref qBx) (C := R_B) (T := T_B) (N := 10) hx hb ht in_B hown hK hP 0 rfl rfl 0 (by decide) (ht _ m_49) (fun _ h9 => h9) rfl d_B_pointAt_13 ?_
        refine lv_iload hx hb d_B_pointAt_16 (lv_at hl 4 rfl) ?_
        obtain ⟨hi3, hf⟩ := oIn_some hf
        refine va_iald hx hb hK hP 1 0 rfl rfl hi3 d_B_pointAt_18 ?_
        refine lv_iload_n hx hb d_B_pointAt_19 rfl (lv_at hl 1 rfl) ?_
        refine lv_icmp_ne (tgt := 48) hx hb d_B_pointAt_20 (by decide) (fun c4 => ?_) (fun c4 => ?_)
        · have hf := oIf_f hf c4
          exact ofX _ _ _ _ _ (K48  x4 _ hf (lv_sub hl [0, 1, 2, 3, 4] rfl))
        · have hf := oIf_t hf c4
          refine lv_aload_n hx hb d_B_pointAt_23 rfl (lv_at hl 0 rfl) ?_
          refine va_get (D := (dC, dI)) (ci := 0) (v := .ref qBy) (C := R_B) (T := T_B) (N := 10) hx hb ht in_B hown hK hP 0 rfl rfl 1 (by decide) (ht _ m_50) (fun _ h9 => h9) rfl d_B_pointAt_24 ?_
          refine lv_iload hx hb d_B_pointAt_27 (lv_at hl 4 rfl) ?_
          obtain ⟨hi5, hf⟩ := oIn_some hf
          refine va_iald hx hb hK hP 2 0 rfl rfl hi5 d_B_pointAt_29 ?_
          refine lv_iload_n hx hb d_B_pointAt_30 rfl (lv_at hl 2 rfl) ?_
          refine lv_icmp_ne (tgt := 48) hx hb d_B_pointAt_31 (by decide) (fun c6 => ?_) (fun c6 => ?_)
          · have hf := oIf_f hf c6
            exact ofX _ _ _ _ _ (K48  x4 _ hf (lv_sub hl [0, 1, 2, 3, 4] rfl))
          · have hf := oIf_t hf c6
            refine lv_aload_n hx hb d_B_pointAt_34 rfl (lv_at hl 0 rfl) ?_
            refine va_get (D := (dC, dI)) (ci := 0) (v := .ref qBz) (C := R_B) (T := T_B) (N := 10) hx hb ht in_B hown hK hP 0 rfl rfl 2 (by decide) (ht _ m_51) (fun _ h9 => h9) rfl d_B_pointAt_35 ?_
            refine lv_iload hx hb d_B_pointAt_38 (lv_at hl 4 rfl) ?_
            obtain ⟨hi7, hf⟩ := oIn_some hf
            refine va_iald hx hb hK hP 3 0 rfl rfl hi7 d_B_pointAt_40 ?_
            refine lv_iload_n hx hb d_B_pointAt_41 rfl (lv_at hl 3 rfl) ?_
            refine lv_icmp_ne (tgt := 48) hx hb d_B_pointAt_42 (by decide) (fun c8 => ?_) (fun c8 => ?_)
            · have hf := oIf_f hf c8
              exact ofX _ _ _ _ _ (K48  x4 _ hf (lv_sub hl [0, 1, 2, 3, 4] rfl))
            · have hf := oIf_t hf c8
              refine lv_iload hx hb d_B_pointAt_45 (lv_at hl 4 rfl) ?_
              cases hf
              exact W.iret hx hb hr (fun t ht hW => ⟨_, rfl, rfl, ht⟩) (fun q h => by cases h) d_B_pointAt_47
  refine toX _ _ _ _ _ ?_
  unfold f_B_pointAt at hf
  refine lv_iconst (v := 0) hx hb d_B_pointAt_0 (by decide) ?_
  refine lv_istore (lv' := [(4, .int 0), (0, .ref qB), (1, .int x1), (2, .int x2), (3, .int x3)]) hx hb d_B_pointAt_1 hl (by decide) rfl (fun ls hl => ?_)
  exact ofX _ _ _ _ _ (K3 x1 x2 x3 _ 0 _ hf (lv_sub hl [1, 2, 3, 4, 0] rfl))
set_option maxHeartbeats 4000000 in
set_option maxRecDepth 100000 in
theorem c_B_sideOf (l : Launch) (dC : Nat → ClassId) (dI : Nat → Nat → Nat) (qB qBx qBy qBz qBa qBb qBc qBd qBs : Nat) (cI cJ : ClassId) (nP : Int32) (nQ : Int32) (bX : Nat → Int32) (bY : Nat → Int32) (bZ : Nat → Int32) (bA : Nat → Int32) (bB : Nat → Int32) (bC : Nat → Int32) (bD : Nat → Int32) (bS : Nat → Int64) (x1 : Int32) (x2 : Int32) (r_ : Int32) (hf : f_B_sideOf bS x1 x2 = some r_) : Met l y_B_sideOf w_B_sideOf ({ frames := 0, cells := 0, slots := 0, locals := 0 }) (va_Pc [.ref qB, .int x1, .int x2] (fun U => va_P (dC, dI) vwCl (w_B qB qBx qBy qBz qBa qBb qBc qBd qBs cI cJ nP nQ bX bY bZ bA bB bC bD bS) U.heap ∧ va_K (dC, dI) vwCl [(cI, .int), (cJ, .long)] U ∧ nestZ U)) (vp_Si (fun r9 => r9 = r_)) 0 0 (fun _ => False) := by
  refine Met.ofW (cc := b_B_sideOf) (maxL := 3) (ret := (some .int)) (by decide) rfl ?_
  intro p e s m args below meth c s₁ B hml hv
  obtain ⟨rfl, hP, hK, hZ⟩ := hv
  have hx := B.exec
  have hb := B.bytes
  have hr := B.returns
  have hts := atoms_spec (ws := w_B_sideOf) B.pre
  have ht : ∀ w ∈ wAll, w.before _ s = true := fun w h => hts w (List.mem_cons_of_mem _ h)
  have hown : s.vm.findClass R_B = some m.cls := findClass_of_methodNamed B.named
  have hlocks := B.notSynchronized
  have hP : va_P (dC, dI) vwCl (w_B qB qBx qBy qBz qBa qBb qBc qBd qBs cI cJ nP nQ bX bY bZ bA bB bC bD bS) s.heap := hP
  have hl := lv_entry ([.ref qB, .int x1, .int x2]) (n := 3) (Nat.le_of_ble_eq_true rfl)
  rw [lg_entry_eq]
  generalize (lg_sl ([.ref qB, .int x1, .int x2]) ++ List.replicate (3 - (lg_sl ([.ref qB, .int x1, .int x2])).length) Slot.unset).toArray = ls at hl ⊢
  have hl : lv_has ls 3 [(0, .ref qB), (1, .int x1), (2, .int x2)] := hl
  unfold f_B_sideOf at hf
  refine lv_aload_n hx hb d_B_sideOf_0 rfl (lv_at hl 0 rfl) ?_
  refine va_get (D := (dC, dI)) (ci := 0) (v := .ref qBs) (C := R_B) (T := T_B) (N := 10) hx hb ht in_B hown hK hP 0 rfl rfl 9 (by decide) (ht _ m_60) (fun _ h9 => h9) rfl d_B_sideOf_1 ?_
  refine lv_iload_n hx hb d_B_sideOf_4 rfl (lv_at hl 1 rfl) ?_
  obtain ⟨hi1, hf⟩ := oIn_some hf
  refine va_lald hx hb hK hP 8 1 rfl rfl hi1 d_B_sideOf_5 ?_
  refine lv_iconst (v := 2) hx hb d_B_sideOf_6 (by decide) ?_
  refine lv_iload_n hx hb d_B_sideOf_7 rfl (lv_at hl 2 rfl) ?_
  refine lv_imul hx hb d_B_sideOf_8 ?_
  refine lv_lshr hx hb d_B_sideOf_9 rfl ?_
  refine lv_ldc2 (v := 3) hx hb hown (ht _ m_226) d_B_sideOf_10 ?_
  refine lv_land hx hb d_B_sideOf_13 ?_
  refine lv_l2i hx hb d_B_sideOf_14 rfl ?_
  cases hf
  exact W.iret hx hb hr (fun t ht hW => ⟨_, rfl, rfl, ht⟩) (fun q h => by cases h) d_B_sideOf_15
set_option maxHeartbeats 4000000 in
set_option maxRecDepth 100000 in
theorem c_B_imageOf (l : Launch) (dC : Nat → ClassId) (dI : Nat → Nat → Nat) (qB qBx qBy qBz qBa qBb qBc qBd qBs : Nat) (cI cJ : ClassId) (nP : Int32) (nQ : Int32) (bX : Nat → Int32) (bY : Nat → Int32) (bZ : Nat → Int32) (bA : Nat → Int32) (bB : Nat → Int32) (bC : Nat → Int32) (bD : Nat → Int32) (bS : Nat → Int64) (x1 : Int32) (x2 : Int32) (r_ : Int32) (hf : f_B_imageOf nP bX bY bZ x1 x2 = some r_) : Met l y_B_imageOf w_B_imageOf ({ frames := 4, cells := 0, slots := 0, locals := 90 }) (va_Pc [.ref qB, .int x1, .int x2] (fun U => va_P (dC, dI) vwCl (w_B qB qBx qBy qBz qBa qBb qBc qBd qBs cI cJ nP nQ bX bY bZ bA bB bC bD bS) U.heap ∧ va_K (dC, dI) vwCl [(cI, .int), (cJ, .long)] U ∧ nestZ U)) (vp_Si (fun r9 => r9 = r_)) 0 0 (fun _ => False) := by
  refine Met.ofW (cc := b_B_imageOf) (maxL := 6) (ret := (some .int)) (by decide) rfl ?_
  intro p e s m args below meth c s₁ B hml hv
  obtain ⟨rfl, hP, hK, hZ⟩ := hv
  have hx := B.exec
  have hb := B.bytes
  have hr := B.returns
  have hts := atoms_spec (ws := w_B_imageOf) B.pre
  have ht : ∀ w ∈ wAll, w.before _ s = true := fun w h => hts w (List.mem_cons_of_mem _ h)
  have hown : s.vm.findClass R_B = some m.cls := findClass_of_methodNamed B.named
  have hlocks := B.notSynchronized
  have hP : va_P (dC, dI) vwCl (w_B qB qBx qBy qBz qBa qBb qBc qBd qBs cI cJ nP nQ bX bY bZ bA bB bC bD bS) s.heap := hP
  have hl := lv_entry ([.ref qB, .int x1, .int x2]) (n := 6) (Nat.le_of_ble_eq_true rfl)
  rw [lg_entry_eq]
  generalize (lg_sl ([.ref qB, .int x1, .int x2]) ++ List.replicate (6 - (lg_sl ([.ref qB, .int x1, .int x2])).length) Slot.unset).toArray = ls at hl ⊢
  have hl : lv_has ls 6 [(0, .ref qB), (1, .int x1), (2, .int x2)] := hl
  unfold f_B_imageOf at hf
  refine lv_aload_n hx hb d_B_imageOf_0 rfl (lv_at hl 0 rfl) ?_
  refine va_get (D := (dC, dI)) (ci := 0) (v := .ref qBx) (C := R_B) (T := T_B) (N := 10) hx hb ht in_B hown hK hP 0 rfl rfl 0 (by decide) (ht _ m_49) (fun _ h9 => h9) rfl d_B_imageOf_1 ?_
  refine lv_iload_n hx hb d_B_imageOf_4 rfl (lv_at hl 1 rfl) ?_
  obtain ⟨hi1, hf⟩ := oIn_some hf
  refine va_iald hx hb hK hP 1 0 rfl rfl hi1 d_B_imageOf_5 ?_
  refine lv_topi (fun v2 ev2 => ?_)
  have hf := oLet_some hf ev2
  refine lv_istore_n (lv' := [(3, .int v2), (0, .ref qB), (1, .int x1), (2, .int x2)]) hx hb d_B_imageOf_6 rfl hl (by decide) rfl (fun ls hl => ?_)
  refine lv_aload_n hx hb d_B_imageOf_7 rfl (lv_at hl 1 rfl) ?_
  refine va_get (D := (dC, dI)) (ci := 0) (v := .ref qBy) (C := R_B) (T := T_B) (N := 10) hx hb ht in_B hown hK hP 0 rfl rfl 1 (by decide) (ht _ m_50) (fun _ h9 => h9) rfl d_B_imageOf_8 ?_
  refine lv_iload_n hx hb d_B_imageOf_11 rfl (lv_at hl 2 rfl) ?_
  obtain ⟨hi3, hf⟩ := oIn_some hf
  refine va_iald hx hb hK hP 2 0 rfl rfl hi3 d_B_imageOf_12 ?_
  refine lv_topi (fun v4 ev4 => ?_)
  have hf := oLet_some hf ev4
  refine lv_istore (lv' := [(4, .int v4), (3, .int v2), (0, .ref qB), (1, .int x1), (2, .int x2)]) hx hb d_B_imageOf_13 hl (by decide) rfl (fun ls hl => ?_)
  refine lv_aload_n hx hb d_B_imageOf_15 rfl (lv_at hl 2 rfl) ?_
  refine va_get (D := (dC, dI)) (ci := 0) (v := .ref qBz) (C := R_B) (T := T_B) (N := 10) hx hb ht in_B hown hK hP 0 rfl rfl 2 (by decide) (ht _ m_51) (fun _ h9 => h9) rfl d_B_imageOf_16 ?_
  refine lv_iload_n hx hb d_B_imageOf_19 rfl (lv_at hl 3 rfl) ?_
  obtain ⟨hi5, hf⟩ := oIn_some hf
  refine va_iald hx hb hK hP 3 0 rfl rfl hi5 d_B_imageOf_20 ?_
  refine lv_topi (fun v6 ev6 => ?_)
  have hf := oLet_some hf ev6
  refine lv_istore (lv' := [(5, .int v6), (4, .int v4), (3, .int v2), (0, .ref qB), (1, .int x1), (2, .int x2)]) hx hb d_B_imageOf_21 hl (by decide) rfl (fun ls hl => ?_)
  refine lv_aload_n hx hb d_B_imageOf_23 rfl (lv_at hl 3 rfl) ?_
  refine lv_iload_n hx hb d_B_imageOf_24 rfl (lv_at hl 5 rfl) ?_
  refine lv_iconst (v := 0) hx hb d_B_imageOf_25 (by decide) ?_
  refine lv_iload_n hx hb d_B_imageOf_26 rfl (lv_at hl 2 rfl) ?_
  refine lv_iload hx hb d_B_imageOf_27 (lv_at hl 1 rfl) ?_
  refine lv_iload hx hb d_B_imageOf_29 (lv_at hl 0 rfl) ?_
  obtain ⟨r7z, hfc, hf⟩ := oCall1_some hf
  have hPc := hP.sub (ws' := []) [] rfl
  refine vp_callSi (va_runS (As := [.int x2, .int 0, .int v2, .int v4, .int v6]) (rest := [.ref qB]) ⟨hx, hb, hml, hown, ht⟩ (c_W_coordinate l dC dI cI cJ x2 0 v2 v4 v6 r7z hfc) (va_cwS 5 ht (gS m_252 m_253 m_33 m_254) rfl rfl rfl (by decide +kernel) ⟨Nat.le_of_ble_eq_true rfl, Nat.le_of_ble_eq_true rfl⟩) (preR hPc hK hZ) rfl rfl hl.1 rfl (lv_room (Nat.le_of_ble_eq_true rfl)) d_B_imageOf_31 ⟨Nat.le_of_ble_eq_true rfl, Nat.le_of_ble_eq_true rfl⟩).run (fun r7 hw => ?_)
  subst hw
  clear hPc hfc
  refine lv_iload_n hx hb d_B_imageOf_34 rfl (lv_at hl 5 rfl) ?_
  refine lv_iconst (v := 1) hx hb d_B_imageOf_35 (by decide) ?_
  refine lv_iload_n hx hb d_B_imageOf_36 rfl (lv_at hl 2 rfl) ?_
  refine lv_iload hx hb d_B_imageOf_37 (lv_at hl 1 rfl) ?_
  refine lv_iload hx hb d_B_imageOf_39 (lv_at hl 0 rfl) ?_
  obtain ⟨r8z, hfc, hf⟩ := oCall1_some hf
  have hPc := hP.sub (ws' := []) [] rfl
  refine vp_callSi (va_runS (As := [.int x2, .int 1, .int v2, .int v4, .int v6]) (rest := [.int r7, .ref qB]) ⟨hx, hb, hml, hown, ht⟩ (c_W_coordinate l dC dI cI cJ x2 1 v2 v4 v6 r8z hfc) (va_cwS 5 ht (gS m_252 m_253 m_33 m_254) rfl rfl rfl (by decide +kernel) ⟨Nat.le_of_ble_eq_true rfl, Nat.le_of_ble_eq_true rfl⟩) (preR hPc hK hZ) rfl rfl hl.1 rfl (lv_room (Nat.le_of_ble_eq_true rfl)) d_B_imageOf_41 ⟨Nat.le_of_ble_eq_true rfl, Nat.le_of_ble_eq_true rfl⟩).run (fun r8 hw => ?_)
  subst hw
  clear hPc hfc
  refine lv_iload_n hx hb d_B_imageOf_44 rfl (lv_at hl 5 rfl) ?_
  refine lv_iconst (v := 2) hx hb d_B_imageOf_45 (by decide) ?_
  refine lv_iload_n hx hb d_B_imageOf_46 rfl (lv_at hl 2 rfl) ?_
  refine lv_iload hx hb d_B_imageOf_47 (lv_at hl 1 rfl) ?_
  refine lv_iload hx hb d_B_imageOf_49 (lv_at hl 0 rfl) ?_
  obtain ⟨r9z, hfc, hf⟩ := oCall1_some hf
  have hPc := hP.sub (ws' := []) [] rfl
  refine vp_callSi (va_runS (As := [.int x2, .int 2, .int v2, .int v4, .int v6]) (rest := [.int r8, .int r7, .ref qB]) ⟨hx, hb, hml, hown, ht⟩ (c_W_coordinate l dC dI cI cJ x2 2 v2 v4 v6 r9z hfc) (va_cwS 5 ht (gS m_252 m_253 m_33 m_254) rfl rfl rfl (by decide +kernel) ⟨Nat.le_of_ble_eq_true rfl, Nat.le_of_ble_eq_true rfl⟩) (preR hPc hK hZ) rfl rfl hl.1 rfl (lv_room (Nat.le_of_ble_eq_true rfl)) d_B_imageOf_51 ⟨Nat.le_of_ble_eq_true rfl, Nat.le_of_ble_eq_true rfl⟩).run (fun r9 hw => ?_)
  subst hw
  clear hPc hfc
  obtain ⟨r10z, hfc, hf⟩ := oCall1_some hf
  have hPc := hP.sub (ws' := (w_B qB qBx qBy qBz qBa qBb qBc qBd qBs cI cJ nP nQ bX bY bZ bA bB bC bD bS)) [0, 1, 2, 3, 4, 5, 6, 7, 8] rfl
  refine vp_callSi (va_runV (As := [.int r7, .int r8, .int r9]) (rest := []) ⟨hx, hb, hml, hown, ht⟩ (c_B_pointAt l dC dI qB qBx qBy qBz qBa qBb qBc qBd qBs cI cJ nP nQ bX bY bZ bA bB bC bD bS r7 r8 r9 r10z hfc) (cwV 3 ht (gV m_142 m_143 m_144 m_29 m_145) rfl rfl rfl (by decide +kernel) ⟨Nat.le_of_ble_eq_true rfl, Nat.le_of_ble_eq_true rfl⟩) (preRV hPc hK hZ (va_recv hK hPc (ci := 0) (q0 := 0) rfl rfl)) rfl rfl hl.1 rfl (lv_room (Nat.le_of_ble_eq_true rfl)) d_B_imageOf_54 ⟨Nat.le_of_ble_eq_true rfl, Nat.le_of_ble_eq_true rfl⟩).run (fun r10 hw => ?_)
  subst hw
  clear hPc hfc
  cases hf
  exact W.iret hx hb hr (fun t ht hW => ⟨_, rfl, rfl, ht⟩) (fun q h => by cases h) d_B_imageOf_57
set_option maxHeartbeats 4000000 in
set_option maxRecDepth 100000 in
theorem c_B_leastAlike (l : Launch) (dC : Nat → ClassId) (dI : Nat → Nat → Nat) (qB qBx qBy qBz qBa qBb qBc qBd qBs : Nat) (cI cJ : ClassId) (nP : Int32) (nQ : Int32) (bX : Nat → Int32) (bY : Nat → Int32) (bZ : Nat → Int32) (bA : Nat → Int32) (bB : Nat → Int32) (bC : Nat → Int32) (bD : Nat → Int32) (bS : Nat → Int64) (x1 : Int32) (r_ : Int32) (hf : f_B_leastAlike bS x1 = some r_) : Met l y_B_leastAlike w_B_leastAlike ({ frames := 0, cells := 0, slots := 0, locals := 0 }) (va_Pc [.ref qB, .int x1] (fun U => va_P (dC, dI) vwCl (w_B qB qBx qBy qBz qBa qBb qBc qBd qBs cI cJ nP nQ bX bY bZ bA bB bC bD bS) U.heap ∧ va_K (dC, dI) vwCl [(cI, .int), (cJ, .long)] U ∧ nestZ U)) (vp_Si (fun r9 => r9 = r_)) 0 0 (fun _ => False) := by
  refine Met.ofW (cc := b_B_leastAlike) (maxL := 3) (ret := (some .int)) (by decide) rfl ?_
  intro p e s m args below meth c s₁ B hml hv
  obtain ⟨rfl, hP, hK, hZ⟩ := hv
  have hx := B.exec
  have hb := B.bytes
  have hr := B.returns
  have hts := atoms_spec (ws := w_B_leastAlike) B.pre
  have ht : ∀ w ∈ wAll, w.before _ s = true := fun w h => hts w (List.mem_cons_of_mem _ h)
  have hown : s.vm.findClass R_B = some m.cls := findClass_of_methodNamed B.named
  have hlocks := B.notSynchronized
  have hP : va_P (dC, dI) vwCl (w_B qB qBx qBy qBz qBa qBb qBc qBd qBs cI cJ nP nQ bX bY bZ bA bB bC bD bS) s.heap := hP
  have hl := lv_entry ([.ref qB, .int x1]) (n := 3) (Nat.le_of_ble_eq_true rfl)
  rw [lg_entry_eq]
  generalize (lg_sl ([.ref qB, .int x1]) ++ List.replicate (3 - (lg_sl ([.ref qB, .int x1])).length) Slot.unset).toArray = ls at hl ⊢
  have hl : lv_has ls 3 [(0, .ref qB), (1, .int x1)] := hl
  refine w_abs (fun Wx toX ofX => ?_)
  have K2 : ∀ (x1 : Int32) (n : Nat) (x2 : Int32) (ls : Array Slot), oLoop1 (f_B_leastAlike_L2  bS x1) n x2 = some r_ → lv_has ls 3 [(0, .ref qB), (1, .int x1), (2, .int x2)] → Wx s.heap [] 0 0 (F0 m 2 ls []) := by
    intro x1 n
    induction n with
    | zero => intro x2 ls hf; exact (oLoop1_0 hf).elim
    | succ n ih2 =>
      obtain ⟨rec2, hrec2⟩ : ∃ z, z = oLoop1 (f_B_leastAlike_L2  bS x1) n := ⟨_, rfl⟩
      rw [← hrec2] at ih2
      intro x2 ls hf hl
      refine toX _ _ _ _ _ ?_
      have hf := oLoop1_s hf
      rw [← hrec2] at hf
      unfold f_B_leastAlike_L2 at hf
      refine lv_iload_n hx hb d_B_leastAlike_2 rfl (lv_at hl 2 rfl) ?_
      refine lv_iload_n hx hb d_B_leastAlike_3 rfl (lv_at hl 1 rfl) ?_
      refine lv_icmp_ge (tgt := 31) hx hb d_B_leastAlike_4 (by decide) (fun c1 => ?_) (fun c1 => ?_)
      · have hf := oIf_t hf c1
        refine lv_iload_n hx hb d_B_leastAlike_31 rfl (lv_at hl 1 rfl) ?_
        cases hf
        exact W.iret hx hb hr (fun t ht hW => ⟨_, rfl, rfl, ht⟩) (fun q h => by cases h) d_B_leastAlike_32
      · have hf := oIf_f hf c1
        refine lv_aload_n hx hb d_B_leastAlike_7 rfl (lv_at hl 0 rfl) ?_
        refine va_get (D := (dC, dI)) (ci := 0) (v := .ref qBs) (C := R_B) (T := T_B) (N := 10) hx hb ht in_B hown hK hP 0 rfl rfl 9 (by decide) (ht _ m_60) (fun _ h9 => h9) rfl d_B_leastAlike_8 ?_
        refine lv_iload_n hx hb d_B_leastAlike_11 rfl (lv_at hl 2 rfl) ?_
        obtain ⟨hi2, hf⟩ := oIn_some hf
        refine va_lald hx hb hK hP 8 1 rfl rfl hi2 d_B_leastAlike_12 ?_
        refine lv_aload_n hx hb d_B_leastAlike_13 rfl (lv_at hl 0 rfl) ?_
        refine va_get (D := (dC, dI)) (ci := 0) (v := .ref qBs) (C := R_B) (T := T_B) (N := 10) hx hb ht in_B hown hK hP 0 rfl rfl 9 (by decide) (ht _ m_60) (fun _ h9 => h9) rfl d_B_leastAlike_14 ?_
        refine lv_iload_n hx hb d_B_leastAlike_17 rfl (lv_at hl 1 rfl) ?_
        obtain ⟨hi3, hf⟩ := oIn_some hf
        refine va_lald hx hb hK hP 8 1 rfl rfl hi3 d_B_leastAlike_18 ?_
        refine W.lcmp hx hb d_B_leastAlike_19 ?_
        refine lv_if_ne (tgt := 25) hx hb d_B_leastAlike_20 (by decide) (fun c4 => ?_) (fun c4 => ?_)
        · have hf := oIf_f hf c4
          obtain ⟨v5, ev5, hf⟩ := oLet_ex hf
          refine lv_iinc (v := v5) (lv' := [(2, .int v5), (0, .ref qB), (1, .int x1)]) hx hb d_B_leastAlike_25 hl (k := 2) rfl (by rw [ev5]; rfl) (by decide) rfl (fun ls hl => ?_)
          refine lv_goto (tgt := 2) hx hb d_B_leastAlike_28 (by decide) ?_
          exact ofX _ _ _ _ _ (ih2 v5 _ hf (lv_sub hl [1, 2, 0] rfl))
        · have hf := oIf_t hf c4
          refine lv_iload_n hx hb d_B_leastAlike_23 rfl (lv_at hl 2 rfl) ?_
          cases hf
          exact W.iret hx hb hr (fun t ht hW => ⟨_, rfl, rfl, ht⟩) (fun q h => by cases h) d_B_leastAlike_24
  refine toX _ _ _ _ _ ?_
  unfold f_B_leastAlike at hf
  refine lv_iconst (v := 0) hx hb d_B_leastAlike_0 (by decide) ?_
  refine lv_istore_n (lv' := [(2, .int 0), (0, .ref qB), (1, .int x1)]) hx hb d_B_leastAlike_1 rfl hl (by decide) rfl (fun ls hl => ?_)
  exact ofX _ _ _ _ _ (K2 x1 _ 0 _ hf (lv_sub hl [1, 2, 0] rfl))
set_option maxHeartbeats 4000000 in
set_option maxRecDepth 100000 in
theorem c_B_piecesBefore (l : Launch) (dC : Nat → ClassId) (dI : Nat → Nat → Nat) (qB qBx qBy qBz qBa qBb qBc qBd qBs : Nat) (cI cJ : ClassId) (nP : Int32) (nQ : Int32) (bX : Nat → Int32) (bY : Nat → Int32) (bZ : Nat → Int32) (bA : Nat → Int32) (bB : Nat → Int32) (bC : Nat → Int32) (bD : Nat → Int32) (bS : Nat → Int64) (x1 : Int32) (r_ : Int32) (hf : f_B_piecesBefore bS x1 = some r_) : Met l y_B_piecesBefore w_B_piecesBefore ({ frames := 1, cells := 0, slots := 0, locals := 22 }) (va_Pc [.ref qB, .int x1] (fun U => va_P (dC, dI) vwCl (w_B qB qBx qBy qBz qBa qBb qBc qBd qBs cI cJ nP nQ bX bY bZ bA bB bC bD bS) U.heap ∧ va_K (dC, dI) vwCl [(cI, .int), (cJ, .long)] U ∧ nestZ U)) (vp_Si (fun r9 => r9 = r_)) 0 0 (fun _ => False) := by
  refine Met.ofW (cc := b_B_piecesBefore) (maxL := 4) (ret := (some .int)) (by decide) rfl ?_
  intro p e s m args below meth c s₁ B hml hv
  obtain ⟨rfl, hP, hK, hZ⟩ := hv
  have hx := B.exec
  have hb := B.bytes
  have hr := B.returns
  have hts := atoms_spec (ws := w_B_piecesBefore) B.pre
  have ht : ∀ w ∈ wAll, w.before _ s = true := fun w h => hts w (List.mem_cons_of_mem _ h)
  have hown : s.vm.findClass R_B = some m.cls := findClass_of_methodNamed B.named
  have hlocks := B.notSynchronized
  have hP : va_P (dC, dI) vwCl (w_B qB qBx qBy qBz qBa qBb qBc qBd qBs cI cJ nP nQ bX bY bZ bA bB bC bD bS) s.heap := hP
  have hl := lv_entry ([.ref qB, .int x1]) (n := 4) (Nat.le_of_ble_eq_true rfl)
  rw [lg_entry_eq]
  generalize (lg_sl ([.ref qB, .int x1]) ++ List.replicate (4 - (lg_sl ([.ref qB, .int x1])).length) Slot.unset).toArray = ls at hl ⊢
  have hl : lv_has ls 4 [(0, .ref qB), (1, .int x1)] := hl
  refine w_abs (fun Wx toX ofX => ?_)
  have K4 : ∀ (x1 : Int32) (n : Nat) (x2 : Int32) (x3 : Int32) (ls : Array Slot), oLoop2 (f_B_piecesBefore_L4  bS x1) n x2 x3 = some r_ → lv_has ls 4 [(0, .ref qB), (1, .int x1), (2, .int x2), (3, .int x3)] → Wx s.heap [] 0 0 (F0 m 4 ls []) := by
    intro x1 n
    induction n with
    | zero => intro x2 x3 ls hf; exact (oLoop2_0 hf).elim
    | succ n ih4 =>
      obtain ⟨rec4, hrec4⟩ : ∃ z, z = oLoop2 (f_B_piecesBefore_L4  bS x1) n := ⟨_, rfl⟩
      rw [← hrec4] at ih4
      have K21 : ∀ (x2 : Int32) (x3 : Int32) (ls : Array Slot), f_B_piecesBefore_J21 rec4 bS x1 x2 x3 = some r_ → lv_has ls 4 [(0, .ref qB), (1, .int x1), (2, .int x2), (3, .int x3)] → Wx s.heap [] 0 0 (F0 m 21 ls []) := by
        intro x2 x3 ls hf hl
        refine toX _ _ _ _ _ ?_
        unfold f_B_piecesBefore_J21 at hf
        obtain ⟨v1, ev1, hf⟩ := oLet_ex hf
        refine lv_iinc (v := v1) (lv' := [(3, .int v1), (0, .ref qB), (1, .int x1), (2, .int x2)]) hx hb d_B_piecesBefore_21 hl (k := 3) rfl (by rw [ev1]; rfl) (by decide) rfl (fun ls hl => ?_)
        refine lv_goto (tgt := 4) hx hb d_B_piecesBefore_24 (by decide) ?_
        exact ofX _ _ _ _ _ (ih4 x2 v1 _ hf (lv_sub hl [1, 2, 3, 0] rfl))
      intro x2 x3 ls hf hl
      refine toX _ _ _ _ _ ?_
      have hf := oLoop2_s hf
      rw [← hrec4] at hf
      unfold f_B_piecesBefore_L4 at hf
      refine lv_iload_n hx hb d_B_piecesBefore_4 rfl (lv_at hl 3 rfl) ?_
      refine lv_iload_n hx hb d_B_piecesBefore_5 rfl (lv_at hl 1 rfl) ?_
      refine lv_icmp_ge (tgt := 27) hx hb d_B_piecesBefore_6 (by decide) (fun c2 => ?_) (fun c2 => ?_)
      · have hf := oIf_t hf c2
        refine lv_iload_n hx hb d_B_piecesBefore_27 rfl (lv_at hl 2 rfl) ?_
        cases hf
        exact W.iret hx hb hr (fun t ht hW => ⟨_, rfl, rfl, ht⟩) (fun q h => by cases h) d_B_piecesBefore_28
      · have hf := oIf_f hf c2
        refine lv_aload_n hx hb d_B_piecesBefore_9 rfl (lv_at hl 0 rfl) ?_
        refine lv_iload_n hx hb d_B_piecesBefore_10 rfl (lv_at hl 3 rfl) ?_
        obtain ⟨r3z, hfc, hf⟩ := oCall1_some hf
        have hPc := hP.sub (ws' := (w_B qB qBx qBy qBz qBa qBb qBc qBd qBs cI cJ nP nQ bX bY bZ bA bB bC bD bS)) [0, 1, 2, 3, 4, 5, 6, 7, 8] rfl
        refine vp_callSi (va_runV (As := [.int x3]) (rest := []) ⟨hx, hb, hml, hown, ht⟩ (c_B_leastAlike l dC dI qB qBx qBy qBz qBa qBb qBc qBd qBs cI cJ nP nQ bX bY bZ bA bB bC bD bS x3 r3z hfc) (cwV 1 ht (gV m_235 m_236 m_237 m_29 m_238) rfl rfl rfl (by decide +kernel) ⟨Nat.le_of_ble_eq_true rfl, Nat.le_of_ble_eq_true rfl⟩) (preRV hPc hK hZ (va_recv hK hPc (ci := 0) (q0 := 0) rfl rfl)) rfl rfl hl.1 rfl (lv_room (Nat.le_of_ble_eq_true rfl)) d_B_piecesBefore_11 ⟨Nat.le_of_ble_eq_true rfl, Nat.le_of_ble_eq_true rfl⟩).run (fun r3 hw => ?_)
        subst hw
        clear hPc hfc
        refine lv_iload_n hx hb d_B_piecesBefore_14 rfl (lv_at hl 3 rfl) ?_
        refine lv_icmp_ne (tgt := 21) hx hb d_B_piecesBefore_15 (by decide) (fun c4 => ?_) (fun c4 => ?_)
        · have hf := oIf_f hf c4
          exact ofX _ _ _ _ _ (K21  x2 x3 _ hf (lv_sub hl [0, 1, 2, 3] rfl))
        · have hf := oIf_t hf c4
          obtain ⟨v5, ev5, hf⟩ := oLet_ex hf
          refine lv_iinc (v := v5) (lv' := [(2, .int v5), (0, .ref qB), (1, .int x1), (3, .int x3)]) hx hb d_B_piecesBefore_18 hl (k := 2) rfl (by rw [ev5]; rfl) (by decide) rfl (fun ls hl => ?_)
          exact ofX _ _ _ _ _ (K21  v5 x3 _ hf (lv_sub hl [1, 2, 0, 3] rfl))
  refine toX _ _ _ _ _ ?_
  unfold f_B_piecesBefore at hf
  refine lv_iconst (v := 0) hx hb d_B_piecesBefore_0 (by decide) ?_
  refine lv_istore_n (lv' := [(2, .int 0), (0, .ref qB), (1, .int x1)]) hx hb d_B_piecesBefore_1 rfl hl (by decide) rfl (fun ls hl => ?_)
  refine lv_iconst (v := 0) hx hb d_B_piecesBefore_2 (by decide) ?_
  refine lv_istore_n (lv' := [(3, .int 0), (2, .int 0), (0, .ref qB), (1, .int x1)]) hx hb d_B_piecesBefore_3 rfl hl (by decide) rfl (fun ls hl => ?_)
  exact ofX _ _ _ _ _ (K4 x1 _ 0 0 _ hf (lv_sub hl [2, 3, 1, 0] rfl))
set_option maxHeartbeats 4000000 in
set_option maxRecDepth 100000 in
theorem c_B_takesPointsToPoints (l : Launch) (dC : Nat → ClassId) (dI : Nat → Nat → Nat) (qB qBx qBy qBz qBa qBb qBc qBd qBs : Nat) (cI cJ : ClassId) (nP : Int32) (nQ : Int32) (bX : Nat → Int32) (bY : Nat → Int32) (bZ : Nat → Int32) (bA : Nat → Int32) (bB : Nat → Int32) (bC : Nat → Int32) (bD : Nat → Int32) (bS : Nat → Int64) (x1 : Int32) (r_ : Int32) (hf : f_B_takesPointsToPoints nP bX bY bZ x1 = some r_) : Met l y_B_takesPointsToPoints w_B_takesPointsToPoints ({ frames := 5, cells := 0, slots := 0, locals := 115 }) (va_Pc [.ref qB, .int x1] (fun U => va_P (dC, dI) vwCl (w_B qB qBx qBy qBz qBa qBb qBc qBd qBs cI cJ nP nQ bX bY bZ bA bB bC bD bS) U.heap ∧ va_K (dC, dI) vwCl [(cI, .int), (cJ, .long)] U ∧ nestZ U)) (vp_Si (fun r9 => r9 = r_)) 0 0 (fun _ => False) := by
  refine Met.ofW (cc := b_B_takesPointsToPoints) (maxL := 3) (ret := (some .boolean)) (by decide) rfl ?_
  intro p e s m args below meth c s₁ B hml hv
  obtain ⟨rfl, hP, hK, hZ⟩ := hv
  have hx := B.exec
  have hb := B.bytes
  have hr := B.returns
  have hts := atoms_spec (ws := w_B_takesPointsToPoints) B.pre
  have ht : ∀ w ∈ wAll, w.before _ s = true := fun w h => hts w (List.mem_cons_of_mem _ h)
  have hown : s.vm.findClass R_B = some m.cls := findClass_of_methodNamed B.named
  have hlocks := B.notSynchronized
  have hP : va_P (dC, dI) vwCl (w_B qB qBx qBy qBz qBa qBb qBc qBd qBs cI cJ nP nQ bX bY bZ bA bB bC bD bS) s.heap := hP
  have hl := lv_entry ([.ref qB, .int x1]) (n := 3) (Nat.le_of_ble_eq_true rfl)
  rw [lg_entry_eq]
  generalize (lg_sl ([.ref qB, .int x1]) ++ List.replicate (3 - (lg_sl ([.ref qB, .int x1])).length) Slot.unset).toArray = ls at hl ⊢
  have hl : lv_has ls 3 [(0, .ref qB), (1, .int x1)] := hl
  refine w_abs (fun Wx toX ofX => ?_)
  have K2 : ∀ (x1 : Int32) (n : Nat) (x2 : Int32) (ls : Array Slot), oLoop1 (f_B_takesPointsToPoints_L2  nP bX bY bZ x1) n x2 = some r_ → lv_has ls 3 [(0, .ref qB), (1, .int x1), (2, .int x2)] → Wx s.heap [] 0 0 (F0 m 2 ls []) := by
    intro x1 n
    induction n with
    | zero => intro x2 ls hf; exact (oLoop1_0 hf).elim
    | succ n ih2 =>
      obtain ⟨rec2, hrec2⟩ : ∃ z, z = oLoop1 (f_B_takesPointsToPoints_L2  nP bX bY bZ x1) n := ⟨_, rfl⟩
      rw [← hrec2] at ih2
      intro x2 ls hf hl
      refine toX _ _ _ _ _ ?_
      have hf := oLoop1_s hf
      rw [← hrec2] at hf
      unfold f_B_takesPointsToPoints_L2 at hf
      refine lv_iload_n hx hb d_B_takesPointsToPoints_2 rfl (lv_at hl 2 rfl) ?_
      refine lv_aload_n hx hb d_B_takesPointsToPoints_3 rfl (lv_at hl 0 rfl) ?_
      refine va_get (D := (dC, dI)) (ci := 0) (v := .int nP) (C := R_B) (T := T_B) (N := 10) hx hb ht in_B hown hK hP 0 rfl rfl 3 (by decide) (ht _ m_52) (fun _ h9 => h9) rfl d_B_takesPointsToPoints_4 ?_
      refine lv_icmp_ge (tgt := 28) hx hb d_B_takesPointsToPoints_7 (by decide) (fun c1 => ?_) (fun c1 => ?_)
      · have hf := oIf_t hf c1
        refine lv_iconst (v := 1) hx hb d_B_takesPointsToPoints_28 (by decide) ?_
        cases hf
        exact W.zret (ty := .boolean) hx hb hr rfl (fun t ht hW => ⟨_, rfl, rfl, ht⟩) (fun q h => by cases h) d_B_takesPointsToPoints_29
      · have hf := oIf_f hf c1
        refine lv_aload_n hx hb d_B_takesPointsToPoints_10 rfl (lv_at hl 0 rfl) ?_
        refine lv_iload_n hx hb d_B_takesPointsToPoints_11 rfl (lv_at hl 2 rfl) ?_
        refine lv_iload_n hx hb d_B_takesPointsToPoints_12 rfl (lv_at hl 1 rfl) ?_
        obtain ⟨r2z, hfc, hf⟩ := oCall1_some hf
        have hPc := hP.sub (ws' := (w_B qB qBx qBy qBz qBa qBb qBc qBd qBs cI cJ nP nQ bX bY bZ bA bB bC bD bS)) [0, 1, 2, 3, 4, 5, 6, 7, 8] rfl
        refine vp_callSi (va_runV (As := [.int x2, .int x1]) (rest := []) ⟨hx, hb, hml, hown, ht⟩ (c_B_imageOf l dC dI qB qBx qBy qBz qBa qBb qBc qBd qBs cI cJ nP nQ bX bY bZ bA bB bC bD bS x2 x1 r2z hfc) (cwV 2 ht (gV m_298 m_249 m_250 m_29 m_251) rfl rfl rfl (by decide +kernel) ⟨Nat.le_of_ble_eq_true rfl, Nat.le_of_ble_eq_true rfl⟩) (preRV hPc hK hZ (va_recv hK hPc (ci := 0) (q0 := 0) rfl rfl)) rfl rfl hl.1 rfl (lv_room (Nat.le_of_ble_eq_true rfl)) d_B_takesPointsToPoints_13 ⟨Nat.le_of_ble_eq_true rfl, Nat.le_of_ble_eq_true rfl⟩).run (fun r2 hw => ?_)
        subst hw
        clear hPc hfc
        refine lv_iconst (v := (-1)) hx hb d_B_takesPointsToPoints_16 (by decide) ?_
        refine lv_icmp_ne (tgt := 22) hx hb d_B_takesPointsToPoints_17 (by decide) (fun c3 => ?_) (fun c3 => ?_)
        · have hf := oIf_f hf c3
          obtain ⟨v4, ev4, hf⟩ := oLet_ex hf
          refine lv_iinc (v := v4) (lv' := [(2, .int v4), (0, .ref qB), (1, .int x1)]) hx hb d_B_takesPointsToPoints_22 hl (k := 2) rfl (by rw [ev4]; rfl) (by decide) rfl (fun ls hl => ?_)
          refine lv_goto (tgt := 2) hx hb d_B_takesPointsToPoints_25 (by decide) ?_
          exact ofX _ _ _ _ _ (ih2 v4 _ hf (lv_sub hl [1, 2, 0] rfl))
        · have hf := oIf_t hf c3
          refine lv_iconst (v := 0) hx hb d_B_takesPointsToPoints_20 (by decide) ?_
          cases hf
          exact W.zret (ty := .boolean) hx hb hr rfl (fun t ht hW => ⟨_, rfl, rfl, ht⟩) (fun q h => by cases h) d_B_takesPointsToPoints_21
  refine toX _ _ _ _ _ ?_
  unfold f_B_takesPointsToPoints at hf
  refine lv_iconst (v := 0) hx hb d_B_takesPointsToPoints_0 (by decide) ?_
  refine lv_istore_n (lv' := [(2, .int 0), (0, .ref qB), (1, .int x1)]) hx hb d_B_takesPointsToPoints_1 rfl hl (by decide) rfl (fun ls hl => ?_)
  exact ofX _ _ _ _ _ (K2 x1 _ 0 _ hf (lv_sub hl [1, 2, 0] rfl))
set_option maxHeartbeats 4000000 in
set_option maxRecDepth 100000 in
theorem c_B_isSamePlane (l : Launch) (dC : Nat → ClassId) (dI : Nat → Nat → Nat) (qB qBx qBy qBz qBa qBb qBc qBd qBs : Nat) (cI cJ : ClassId) (nP : Int32) (nQ : Int32) (bX : Nat → Int32) (bY : Nat → Int32) (bZ : Nat → Int32) (bA : Nat → Int32) (bB : Nat → Int32) (bC : Nat → Int32) (bD : Nat → Int32) (bS : Nat → Int64) (x1 : Int32) (x2 : Int32) (x3 : Int32) (x4 : Int32) (x5 : Int32) (r_ : Int32) (hf : f_B_isSamePlane bA bB bC bD x1 x2 x3 x4 x5 = some r_) : Met l y_B_isSamePlane w_B_isSamePlane ({ frames := 0, cells := 0, slots := 0, locals := 0 }) (va_Pc [.ref qB, .int x1, .int x2, .int x3, .int x4, .int x5] (fun U => va_P (dC, dI) vwCl (w_B qB qBx qBy qBz qBa qBb qBc qBd qBs cI cJ nP nQ bX bY bZ bA bB bC bD bS) U.heap ∧ va_K (dC, dI) vwCl [(cI, .int), (cJ, .long)] U ∧ nestZ U)) (vp_Si (fun r9 => r9 = r_)) 0 0 (fun _ => False) := by
  refine Met.ofW (cc := b_B_isSamePlane) (maxL := 6) (ret := (some .boolean)) (by decide) rfl ?_
  intro p e s m args below meth c s₁ B hml hv
  obtain ⟨rfl, hP, hK, hZ⟩ := hv
  have hx := B.exec
  have hb := B.bytes
  have hr := B.returns
  have hts := atoms_spec (ws := w_B_isSamePlane) B.pre
  have ht : ∀ w ∈ wAll, w.before _ s = true := fun w h => hts w (List.mem_cons_of_mem _ h)
  have hown : s.vm.findClass R_B = some m.cls := findClass_of_methodNamed B.named
  have hlocks := B.notSynchronized
  have hP : va_P (dC, dI) vwCl (w_B qB qBx qBy qBz qBa qBb qBc qBd qBs cI cJ nP nQ bX bY bZ bA bB bC bD bS) s.heap := hP
  have hl := lv_entry ([.ref qB, .int x1, .int x2, .int x3, .int x4, .int x5]) (n := 6) (Nat.le_of_ble_eq_true rfl)
  rw [lg_entry_eq]
  generalize (lg_sl ([.ref qB, .int x1, .int x2, .int x3, .int x4, .int x5]) ++ List.replicate (6 - (lg_sl ([.ref qB, .int x1, .int x2, .int x3, .int x4, .int x5])).length) Slot.unset).toArray = ls at hl ⊢
  have hl : lv_has ls 6 [(0, .ref qB), (1, .int x1), (2, .int x2), (3, .int x3), (4, .int x4), (5, .int x5)] := hl
  unfold f_B_isSamePlane at hf
  refine lv_aload_n hx hb d_B_isSamePlane_0 rfl (lv_at hl 0 rfl) ?_
  refine va_get (D := (dC, dI)) (ci := 0) (v := .ref qBa) (C := R_B) (T := T_B) (N := 10) hx hb ht in_B hown hK hP 0 rfl rfl 4 (by decide) (ht _ m_54) (fun _ h9 => h9) rfl d_B_isSamePlane_1 ?_
  refine lv_iload_n hx hb d_B_isSamePlane_4 rfl (lv_at hl 1 rfl) ?_
  obtain ⟨hi1, hf⟩ := oIn_some hf
  refine va_iald hx hb hK hP 4 0 rfl rfl hi1 d_B_isSamePlane_5 ?_
  refine lv_iload_n hx hb d_B_isSamePlane_6 rfl (lv_at hl 3 rfl) ?_
  refine lv_imul hx hb d_B_isSamePlane_7 ?_
  refine lv_aload_n hx hb d_B_isSamePlane_8 rfl (lv_at hl 0 rfl) ?_
  refine va_get (D := (dC, dI)) (ci := 0) (v := .ref qBb) (C := R_B) (T := T_B) (N := 10) hx hb ht in_B hown hK hP 0 rfl rfl 5 (by decide) (ht _ m_55) (fun _ h9 => h9) rfl d_B_isSamePlane_9 ?_
  refine lv_iload_n hx hb d_B_isSamePlane_12 rfl (lv_at hl 1 rfl) ?_
  obtain ⟨hi2, hf⟩ := oIn_some hf
  refine va_iald hx hb hK hP 5 0 rfl rfl hi2 d_B_isSamePlane_13 ?_
  refine lv_iload_n hx hb d_B_isSamePlane_14 rfl (lv_at hl 2 rfl) ?_
  refine lv_imul hx hb d_B_isSamePlane_15 ?_
  refine lv_icmp_ne (tgt := 124) hx hb d_B_isSamePlane_16 (by decide) (fun c3 => ?_) (fun c3 => ?_)
  · have hf := oIf_f hf c3
    refine lv_iconst (v := 0) hx hb d_B_isSamePlane_124 (by decide) ?_
    cases hf
    exact W.zret (ty := .boolean) hx hb hr rfl (fun t ht hW => ⟨_, rfl, rfl, ht⟩) (fun q h => by cases h) d_B_isSamePlane_125
  · have hf := oIf_t hf c3
    refine lv_aload_n hx hb d_B_isSamePlane_19 rfl (lv_at hl 0 rfl) ?_
    refine va_get (D := (dC, dI)) (ci := 0) (v := .ref qBa) (C := R_B) (T := T_B) (N := 10) hx hb ht in_B hown hK hP 0 rfl rfl 4 (by decide) (ht _ m_54) (fun _ h9 => h9) rfl d_B_isSamePlane_20 ?_
    refine lv_iload_n hx hb d_B_isSamePlane_23 rfl (lv_at hl 1 rfl) ?_
    obtain ⟨hi4, hf⟩ := oIn_some hf
    refine va_iald hx hb hK hP 4 0 rfl rfl hi4 d_B_isSamePlane_24 ?_
    refine lv_iload hx hb d_B_isSamePlane_25 (lv_at hl 4 rfl) ?_
    refine lv_imul hx hb d_B_isSamePlane_27 ?_
    refine lv_aload_n hx hb d_B_isSamePlane_28 rfl (lv_at hl 0 rfl) ?_
    refine va_get (D := (dC, dI)) (ci := 0) (v := .ref qBc) (C := R_B) (T := T_B) (N := 10) hx hb ht in_B hown hK hP 0 rfl rfl 6 (by decide) (ht _ m_56) (fun _ h9 => h9) rfl d_B_isSamePlane_29 ?_
    refine lv_iload_n hx hb d_B_isSamePlane_32 rfl (lv_at hl 1 rfl) ?_
    obtain ⟨hi5, hf⟩ := oIn_some hf
    refine va_iald hx hb hK hP 6 0 rfl rfl hi5 d_B_isSamePlane_33 ?_
    refine lv_iload_n hx hb d_B_isSamePlane_34 rfl (lv_at hl 2 rfl) ?_
    refine lv_imul hx hb d_B_isSamePlane_35 ?_
    refine lv_icmp_ne (tgt := 124) hx hb d_B_isSamePlane_36 (by decide) (fun c6 => ?_) (fun c6 => ?_)
    · have hf := oIf_f hf c6
      refine lv_iconst (v := 0) hx hb d_B_isSamePlane_124 (by decide) ?_
      cases hf
      exact W.zret (ty := .boolean) hx hb hr rfl (fun t ht hW => ⟨_, rfl, rfl, ht⟩) (fun q h => by cases h) d_B_isSamePlane_125
    · have hf := oIf_t hf c6
      refine lv_aload_n hx hb d_B_isSamePlane_39 rfl (lv_at hl 0 rfl) ?_
      refine va_get (D := (dC, dI)) (ci := 0) (v := .ref qBb) (C := R_B) (T := T_B) (N := 10) hx hb ht in_B hown hK hP 0 rfl rfl 5 (by decide) (ht _ m_55) (fun _ h9 => h9) rfl d_B_isSamePlane_40 ?_
      refine lv_iload_n hx hb d_B_isSamePlane_43 rfl (lv_at hl 1 rfl) ?_
      obtain ⟨hi7, hf⟩ := oIn_some hf
      refine va_iald hx hb hK hP 5 0 rfl rfl hi7 d_B_isSamePlane_44 ?_
      refine lv_iload hx hb d_B_isSamePlane_45 (lv_at hl 4 rfl) ?_
      refine lv_imul hx hb d_B_isSamePlane_47 ?_
      refine lv_aload_n hx hb d_B_isSamePlane_48 rfl (lv_at hl 0 rfl) ?_
      refine va_get (D := (dC, dI)) (ci := 0) (v := .ref qBc) (C := R_B) (T := T_B) (N := 10) hx hb ht in_B hown hK hP 0 rfl rfl 6 (by decide) (ht _ m_56) (fun _ h9 => h9) rfl d_B_isSamePlane_49 ?_
      refine lv_iload_n hx hb d_B_isSamePlane_52 rfl (lv_at hl 1 rfl) ?_
      obtain ⟨hi8, hf⟩ := oIn_some hf
      refine va_iald hx hb hK hP 6 0 rfl rfl hi8 d_B_isSamePlane_53 ?_
      refine lv_iload_n hx hb d_B_isSamePlane_54 rfl (lv_at hl 3 rfl) ?_
      refine lv_imul hx hb d_B_isSamePlane_55 ?_
      refine lv_icmp_ne (tgt := 124) hx hb d_B_isSamePlane_56 (by decide) (fun c9 => ?_) (fun c9 => ?_)
      · have hf := oIf_f hf c9
        refine lv_iconst (v := 0) hx hb d_B_isSamePlane_124 (by decide) ?_
        cases hf
        exact W.zret (ty := .boolean) hx hb hr rfl (fun t ht hW => ⟨_, rfl, rfl, ht⟩) (fun q h => by cases h) d_B_isSamePlane_125
      · have hf := oIf_t hf c9
        refine lv_aload_n hx hb d_B_isSamePlane_59 rfl (lv_at hl 0 rfl) ?_
        refine va_get (D := (dC, dI)) (ci := 0) (v := .ref qBa) (C := R_B) (T := T_B) (N := 10) hx hb ht in_B hown hK hP 0 rfl rfl 4 (by decide) (ht _ m_54) (fun _ h9 => h9) rfl d_B_isSamePlane_60 ?_
        refine lv_iload_n hx hb d_B_isSamePlane_63 rfl (lv_at hl 1 rfl) ?_
        obtain ⟨hi10, hf⟩ := oIn_some hf
        refine va_iald hx hb hK hP 4 0 rfl rfl hi10 d_B_isSamePlane_64 ?_
        refine lv_iload hx hb d_B_isSamePlane_65 (lv_at hl 5 rfl) ?_
        refine lv_imul hx hb d_B_isSamePlane_67 ?_
        refine lv_aload_n hx hb d_B_isSamePlane_68 rfl (lv_at hl 0 rfl) ?_
        refine va_get (D := (dC, dI)) (ci := 0) (v := .ref qBd) (C := R_B) (T := T_B) (N := 10) hx hb ht in_B hown hK hP 0 rfl rfl 7 (by decide) (ht _ m_57) (fun _ h9 => h9) rfl d_B_isSamePlane_69 ?_
        refine lv_iload_n hx hb d_B_isSamePlane_72 rfl (lv_at hl 1 rfl) ?_
        obtain ⟨hi11, hf⟩ := oIn_some hf
        refine va_iald hx hb hK hP 7 0 rfl rfl hi11 d_B_isSamePlane_73 ?_
        refine lv_iload_n hx hb d_B_isSamePlane_74 rfl (lv_at hl 2 rfl) ?_
        refine lv_imul hx hb d_B_isSamePlane_75 ?_
        refine lv_icmp_ne (tgt := 124) hx hb d_B_isSamePlane_76 (by decide) (fun c12 => ?_) (fun c12 => ?_)
        · have hf := oIf_f hf c12
          refine lv_iconst (v := 0) hx hb d_B_isSamePlane_124 (by decide) ?_
          cases hf
          exact W.zret (ty := .boolean) hx hb hr rfl (fun t ht hW => ⟨_, rfl, rfl, ht⟩) (fun q h => by cases h) d_B_isSamePlane_125
        · have hf := oIf_t hf c12
          refine lv_aload_n hx hb d_B_isSamePlane_79 rfl (lv_at hl 0 rfl) ?_
          refine va_get (D := (dC, dI)) (ci := 0) (v := .ref qBb) (C := R_B) (T := T_B) (N := 10) hx hb ht in_B hown hK hP 0 rfl rfl 5 (by decide) (ht _ m_55) (fun _ h9 => h9) rfl d_B_isSamePlane_80 ?_
          refine lv_iload_n hx hb d_B_isSamePlane_83 rfl (lv_at hl 1 rfl) ?_
          obtain ⟨hi13, hf⟩ := oIn_some hf
          refine va_iald hx hb hK hP 5 0 rfl rfl hi13 d_B_isSamePlane_84 ?_
          refine lv_iload hx hb d_B_isSamePlane_85 (lv_at hl 5 rfl) ?_
          refine lv_imul hx hb d_B_isSamePlane_87 ?_
          refine lv_aload_n hx hb d_B_isSamePlane_88 rfl (lv_at hl 0 rfl) ?_
          refine va_get (D := (dC, dI)) (ci := 0) (v := .ref qBd) (C := R_B) (T := T_B) (N := 10) hx hb ht in_B hown hK hP 0 rfl rfl 7 (by decide) (ht _ m_57) (fun _ h9 => h9) rfl d_B_isSamePlane_89 ?_
          refine lv_iload_n hx hb d_B_isSamePlane_92 rfl (lv_at hl 1 rfl) ?_
          obtain ⟨hi14, hf⟩ := oIn_some hf
          refine va_iald hx hb hK hP 7 0 rfl rfl hi14 d_B_isSamePlane_93 ?_
          refine lv_iload_n hx hb d_B_isSamePlane_94 rfl (lv_at hl 3 rfl) ?_
          refine lv_imul hx hb d_B_isSamePlane_95 ?_
          refine lv_icmp_ne (tgt := 124) hx hb d_B_isSamePlane_96 (by decide) (fun c15 => ?_) (fun c15 => ?_)
          · have hf := oIf_f hf c15
            refine lv_iconst (v := 0) hx hb d_B_isSamePlane_124 (by decide) ?_
            cases hf
            exact W.zret (ty := .boolean) hx hb hr rfl (fun t ht hW => ⟨_, rfl, rfl, ht⟩) (fun q h => by cases h) d_B_isSamePlane_125
          · have hf := oIf_t hf c15
            refine lv_aload_n hx hb d_B_isSamePlane_99 rfl (lv_at hl 0 rfl) ?_
            refine va_get (D := (dC, dI)) (ci := 0) (v := .ref qBc) (C := R_B) (T := T_B) (N := 10) hx hb ht in_B hown hK hP 0 rfl rfl 6 (by decide) (ht _ m_56) (fun _ h9 => h9) rfl d_B_isSamePlane_100 ?_
            refine lv_iload_n hx hb d_B_isSamePlane_103 rfl (lv_at hl 1 rfl) ?_
            obtain ⟨hi16, hf⟩ := oIn_some hf
            refine va_iald hx hb hK hP 6 0 rfl rfl hi16 d_B_isSamePlane_104 ?_
            refine lv_iload hx hb d_B_isSamePlane_105 (lv_at hl 5 rfl) ?_
            refine lv_imul hx hb d_B_isSamePlane_107 ?_
            refine lv_aload_n hx hb d_B_isSamePlane_108 rfl (lv_at hl 0 rfl) ?_
            refine va_get (D := (dC, dI)) (ci := 0) (v := .ref qBd) (C := R_B) (T := T_B) (N := 10) hx hb ht in_B hown hK hP 0 rfl rfl 7 (by decide) (ht _ m_57) (fun _ h9 => h9) rfl d_B_isSamePlane_109 ?_
            refine lv_iload_n hx hb d_B_isSamePlane_112 rfl (lv_at hl 1 rfl) ?_
            obtain ⟨hi17, hf⟩ := oIn_some hf
            refine va_iald hx hb hK hP 7 0 rfl rfl hi17 d_B_isSamePlane_113 ?_
            refine lv_iload hx hb d_B_isSamePlane_114 (lv_at hl 4 rfl) ?_
            refine lv_imul hx hb d_B_isSamePlane_116 ?_
            refine lv_icmp_ne (tgt := 124) hx hb d_B_isSamePlane_117 (by decide) (fun c18 => ?_) (fun c18 => ?_)
            · have hf := oIf_f hf c18
              refine lv_iconst (v := 0) hx hb d_B_isSamePlane_124 (by decide) ?_
              cases hf
              exact W.zret (ty := .boolean) hx hb hr rfl (fun t ht hW => ⟨_, rfl, rfl, ht⟩) (fun q h => by cases h) d_B_isSamePlane_125
            · have hf := oIf_t hf c18
              refine lv_iconst (v := 1) hx hb d_B_isSamePlane_120 (by decide) ?_
              refine lv_goto (tgt := 125) hx hb d_B_isSamePlane_121 (by decide) ?_
              cases hf
              exact W.zret (ty := .boolean) hx hb hr rfl (fun t ht hW => ⟨_, rfl, rfl, ht⟩) (fun q h => by cases h) d_B_isSamePlane_125
set_option maxHeartbeats 4000000 in
set_option maxRecDepth 100000 in
theorem c_B_hasPlaneWhere (l : Launch) (dC : Nat → ClassId) (dI : Nat → Nat → Nat) (qB qBx qBy qBz qBa qBb qBc qBd qBs : Nat) (cI cJ : ClassId) (nP : Int32) (nQ : Int32) (bX : Nat → Int32) (bY : Nat → Int32) (bZ : Nat → Int32) (bA : Nat → Int32) (bB : Nat → Int32) (bC : Nat → Int32) (bD : Nat → Int32) (bS : Nat → Int64) (x1 : Int32) (x2 : Int32) (x3 : Int32) (x4 : Int32) (r_ : Int32) (hf : f_B_hasPlaneWhere nQ bA bB bC bD x1 x2 x3 x4 = some r_) : Met l y_B_hasPlaneWhere w_B_hasPlaneWhere ({ frames := 1, cells := 0, slots := 0, locals := 25 }) (va_Pc [.ref qB, .int x1, .int x2, .int x3, .int x4] (fun U => va_P (dC, dI) vwCl (w_B qB qBx qBy qBz qBa qBb qBc qBd qBs cI cJ nP nQ bX bY bZ bA bB bC bD bS) U.heap ∧ va_K (dC, dI) vwCl [(cI, .int), (cJ, .long)] U ∧ nestZ U)) (vp_Si (fun r9 => r9 = r_)) 0 0 (fun _ => False) := by
  refine Met.ofW (cc := b_B_hasPlaneWhere) (maxL := 6) (ret := (some .boolean)) (by decide) rfl ?_
  intro p e s m args below meth c s₁ B hml hv
  obtain ⟨rfl, hP, hK, hZ⟩ := hv
  have hx := B.exec
  have hb := B.bytes
  have hr := B.returns
  have hts := atoms_spec (ws := w_B_hasPlaneWhere) B.pre
  have ht : ∀ w ∈ wAll, w.before _ s = true := fun w h => hts w (List.mem_cons_of_mem _ h)
  have hown : s.vm.findClass R_B = some m.cls := findClass_of_methodNamed B.named
  have hlocks := B.notSynchronized
  have hP : va_P (dC, dI) vwCl (w_B qB qBx qBy qBz qBa qBb qBc qBd qBs cI cJ nP nQ bX bY bZ bA bB bC bD bS) s.heap := hP
  have hl := lv_entry ([.ref qB, .int x1, .int x2, .int x3, .int x4]) (n := 6) (Nat.le_of_ble_eq_true rfl)
  rw [lg_entry_eq]
  generalize (lg_sl ([.ref qB, .int x1, .int x2, .int x3, .int x4]) ++ List.replicate (6 - (lg_sl ([.ref qB, .int x1, .int x2, .int x3, .int x4])).length) Slot.unset).toArray = ls at hl ⊢
  have hl : lv_has ls 6 [(0, .ref qB), (1, .int x1), (2, .int x2), (3, .int x3), (4, .int x4)] := hl
  refine w_abs (fun Wx toX ofX => ?_)
  have K3 : ∀ (x1 : Int32) (x2 : Int32) (x3 : Int32) (x4 : Int32) (n : Nat) (x5 : Int32) (ls : Array Slot), oLoop1 (f_B_hasPlaneWhere_L3  nQ bA bB bC bD x1 x2 x3 x4) n x5 = some r_ → lv_has ls 6 [(0, .ref qB), (1, .int x1), (2, .int x2), (3, .int x3), (4, .int x4), (5, .int x5)] → Wx s.heap [] 0 0 (F0 m 3 ls []) := by
    intro x1 x2 x3 x4 n
    induction n with
    | zero => intro x5 ls hf; exact (oLoop1_0 hf).elim
    | succ n ih3 =>
      obtain ⟨rec3, hrec3⟩ : ∃ z, z = oLoop1 (f_B_hasPlaneWhere_L3  nQ bA bB bC bD x1 x2 x3 x4) n := ⟨_, rfl⟩
      rw [← hrec3] at ih3
      intro x5 ls hf hl
      refine toX _ _ _ _ _ ?_
      have hf := oLoop1_s hf
      rw [← hrec3] at hf
      unfold f_B_hasPlaneWhere_L3 at hf
      refine lv_iload hx hb d_B_hasPlaneWhere_3 (lv_at hl 5 rfl) ?_
      refine lv_aload_n hx hb d_B_hasPlaneWhere_5 rfl (lv_at hl 0 rfl) ?_
      refine va_get (D := (dC, dI)) (ci := 0) (v := .int nQ) (C := R_B) (T := T_B) (N := 10) hx hb ht in_B hown hK hP 0 rfl rfl 8 (by decide) (ht _ m_58) (fun _ h9 => h9) rfl d_B_hasPlaneWhere_6 ?_
      refine lv_icmp_ge (tgt := 34) hx hb d_B_hasPlaneWhere_9 (by decide) (fun c1 => ?_) (fun c1 => ?_)
      · have hf := oIf_t hf c1
        refine lv_iconst (v := 0) hx hb d_B_hasPlaneWhere_34 (by decide) ?_
        cases hf
        exact W.zret (ty := .boolean) hx hb hr rfl (fun t ht hW => ⟨_, rfl, rfl, ht⟩) (fun q h => by cases h) d_B_hasPlaneWhere_35
      · have hf := oIf_f hf c1
        refine lv_aload_n hx hb d_B_hasPlaneWhere_12 rfl (lv_at hl 0 rfl) ?_
        refine lv_iload hx hb d_B_hasPlaneWhere_13 (lv_at hl 5 rfl) ?_
        refine lv_iload_n hx hb d_B_hasPlaneWhere_15 rfl (lv_at hl 1 rfl) ?_
        refine lv_iload_n hx hb d_B_hasPlaneWhere_16 rfl (lv_at hl 2 rfl) ?_
        refine lv_iload_n hx hb d_B_hasPlaneWhere_17 rfl (lv_at hl 3 rfl) ?_
        refine lv_iload hx hb d_B_hasPlaneWhere_18 (lv_at hl 4 rfl) ?_
        obtain ⟨r2z, hfc, hf⟩ := oCall1_some hf
        have hPc := hP.sub (ws' := (w_B qB qBx qBy qBz qBa qBb qBc qBd qBs cI cJ nP nQ bX bY bZ bA bB bC bD bS)) [0, 1, 2, 3, 4, 5, 6, 7, 8] rfl
        refine vp_callSi (va_runV (As := [.int x5, .int x1, .int x2, .int x3, .int x4]) (rest := []) ⟨hx, hb, hml, hown, ht⟩ (c_B_isSamePlane l dC dI qB qBx qBy qBz qBa qBb qBc qBd qBs cI cJ nP nQ bX bY bZ bA bB bC bD bS x5 x1 x2 x3 x4 r2z hfc) (cwV 5 ht (gV m_307 m_309 m_5 m_29 m_310) rfl rfl rfl (by decide +kernel) ⟨Nat.le_of_ble_eq_true rfl, Nat.le_of_ble_eq_true rfl⟩) (preRV hPc hK hZ (va_recv hK hPc (ci := 0) (q0 := 0) rfl rfl)) rfl rfl hl.1 rfl (lv_room (Nat.le_of_ble_eq_true rfl)) d_B_hasPlaneWhere_20 ⟨Nat.le_of_ble_eq_true rfl, Nat.le_of_ble_eq_true rfl⟩).run (fun r2 hw => ?_)
        subst hw
        clear hPc hfc
        refine lv_if_eq (tgt := 28) hx hb d_B_hasPlaneWhere_23 (by decide) (fun c3 => ?_) (fun c3 => ?_)
        · have hf := oIf_t hf c3
          obtain ⟨v4, ev4, hf⟩ := oLet_ex hf
          refine lv_iinc (v := v4) (lv' := [(5, .int v4), (0, .ref qB), (1, .int x1), (2, .int x2), (3, .int x3), (4, .int x4)]) hx hb d_B_hasPlaneWhere_28 hl (k := 5) rfl (by rw [ev4]; rfl) (by decide) rfl (fun ls hl => ?_)
          refine lv_goto (tgt := 3) hx hb d_B_hasPlaneWhere_31 (by decide) ?_
          exact ofX _ _ _ _ _ (ih3 v4 _ hf (lv_sub hl [1, 2, 3, 4, 5, 0] rfl))
        · have hf := oIf_f hf c3
          refine lv_iconst (v := 1) hx hb d_B_hasPlaneWhere_26 (by decide) ?_
          cases hf
          exact W.zret (ty := .boolean) hx hb hr rfl (fun t ht hW => ⟨_, rfl, rfl, ht⟩) (fun q h => by cases h) d_B_hasPlaneWhere_27
  refine toX _ _ _ _ _ ?_
  unfold f_B_hasPlaneWhere at hf
  refine lv_iconst (v := 0) hx hb d_B_hasPlaneWhere_0 (by decide) ?_
  refine lv_istore (lv' := [(5, .int 0), (0, .ref qB), (1, .int x1), (2, .int x2), (3, .int x3), (4, .int x4)]) hx hb d_B_hasPlaneWhere_1 hl (by decide) rfl (fun ls hl => ?_)
  exact ofX _ _ _ _ _ (K3 x1 x2 x3 x4 _ 0 _ hf (lv_sub hl [1, 2, 3, 4, 5, 0] rfl))
set_option maxHeartbeats 4000000 in
set_option maxRecDepth 100000 in
theorem c_B_takesPlanesToPlanes (l : Launch) (dC : Nat → ClassId) (dI : Nat → Nat → Nat) (qB qBx qBy qBz qBa qBb qBc qBd qBs : Nat) (cI cJ : ClassId) (nP : Int32) (nQ : Int32) (bX : Nat → Int32) (bY : Nat → Int32) (bZ : Nat → Int32) (bA : Nat → Int32) (bB : Nat → Int32) (bC : Nat → Int32) (bD : Nat → Int32) (bS : Nat → Int64) (x1 : Int32) (r_ : Int32) (hf : f_B_takesPlanesToPlanes nQ bA bB bC bD x1 = some r_) : Met l y_B_takesPlanesToPlanes w_B_takesPlanesToPlanes ({ frames := 4, cells := 0, slots := 0, locals := 90 }) (va_Pc [.ref qB, .int x1] (fun U => va_P (dC, dI) vwCl (w_B qB qBx qBy qBz qBa qBb qBc qBd qBs cI cJ nP nQ bX bY bZ bA bB bC bD bS) U.heap ∧ va_K (dC, dI) vwCl [(cI, .int), (cJ, .long)] U ∧ nestZ U)) (vp_Si (fun r9 => r9 = r_)) 0 0 (fun _ => False) := by
  refine Met.ofW (cc := b_B_takesPlanesToPlanes) (maxL := 6) (ret := (some .boolean)) (by decide) rfl ?_
  intro p e s m args below meth c s₁ B hml hv
  obtain ⟨rfl, hP, hK, hZ⟩ := hv
  have hx := B.exec
  have hb := B.bytes
  have hr := B.returns
  have hts := atoms_spec (ws := w_B_takesPlanesToPlanes) B.pre
  have ht : ∀ w ∈ wAll, w.before _ s = true := fun w h => hts w (List.mem_cons_of_mem _ h)
  have hown : s.vm.findClass R_B = some m.cls := findClass_of_methodNamed B.named
  have hlocks := B.notSynchronized
  have hP : va_P (dC, dI) vwCl (w_B qB qBx qBy qBz qBa qBb qBc qBd qBs cI cJ nP nQ bX bY bZ bA bB bC bD bS) s.heap := hP
  have hl := lv_entry ([.ref qB, .int x1]) (n := 6) (Nat.le_of_ble_eq_true rfl)
  rw [lg_entry_eq]
  generalize (lg_sl ([.ref qB, .int x1]) ++ List.replicate (6 - (lg_sl ([.ref qB, .int x1])).length) Slot.unset).toArray = ls at hl ⊢
  have hl : lv_has ls 6 [(0, .ref qB), (1, .int x1)] := hl
  refine w_abs (fun Wx toX ofX => ?_)
  have K2 : ∀ (x1 : Int32) (n : Nat) (x2 : Int32) (ls : Array Slot), oLoop1 (f_B_takesPlanesToPlanes_L2  nQ bA bB bC bD x1) n x2 = some r_ → lv_has ls 6 [(0, .ref qB), (1, .int x1), (2, .int x2)] → Wx s.heap [] 0 0 (F0 m 2 ls []) := by
    intro x1 n
    induction n with
    | zero => intro x2 ls hf; exact (oLoop1_0 hf).elim
    | succ n ih2 =>
      obtain ⟨rec2, hrec2⟩ : ∃ z, z = oLoop1 (f_B_takesPlanesToPlanes_L2  nQ bA bB bC bD x1) n := ⟨_, rfl⟩
      rw [← hrec2] at ih2
      intro x2 ls hf hl
      refine toX _ _ _ _ _ ?_
      have hf := oLoop1_s hf
      rw [← hrec2] at hf
      unfold f_B_takesPlanesToPlanes_L2 at hf
      refine lv_iload_n hx hb d_B_takesPlanesToPlanes_2 rfl (lv_at hl 2 rfl) ?_
      refine lv_aload_n hx hb d_B_takesPlanesToPlanes_3 rfl (lv_at hl 0 rfl) ?_
      refine va_get (D := (dC, dI)) (ci := 0) (v := .int nQ) (C := R_B) (T := T_B) (N := 10) hx hb ht in_B hown hK hP 0 rfl rfl 8 (by decide) (ht _ m_58) (fun _ h9 => h9) rfl d_B_takesPlanesToPlanes_4 ?_
      refine lv_icmp_ge (tgt := 110) hx hb d_B_takesPlanesToPlanes_7 (by decide) (fun c1 => ?_) (fun c1 => ?_)
      · have hf := oIf_t hf c1
        refine lv_iconst (v := 1) hx hb d_B_takesPlanesToPlanes_110 (by decide) ?_
        cases hf
        exact W.zret (ty := .boolean) hx hb hr rfl (fun t ht hW => ⟨_, rfl, rfl, ht⟩) (fun q h => by cases h) d_B_takesPlanesToPlanes_111
      · have hf := oIf_f hf c1
        refine lv_iload_n hx hb d_B_takesPlanesToPlanes_10 rfl (lv_at hl 1 rfl) ?_
        refine lv_iconst (v := 0) hx hb d_B_takesPlanesToPlanes_11 (by decide) ?_
        refine lv_aload_n hx hb d_B_takesPlanesToPlanes_12 rfl (lv_at hl 0 rfl) ?_
        refine va_get (D := (dC, dI)) (ci := 0) (v := .ref qBa) (C := R_B) (T := T_B) (N := 10) hx hb ht in_B hown hK hP 0 rfl rfl 4 (by decide) (ht _ m_54) (fun _ h9 => h9) rfl d_B_takesPlanesToPlanes_13 ?_
        refine lv_iload_n hx hb d_B_takesPlanesToPlanes_16 rfl (lv_at hl 2 rfl) ?_
        obtain ⟨hi2, hf⟩ := oIn_some hf
        refine va_iald hx hb hK hP 4 0 rfl rfl hi2 d_B_takesPlanesToPlanes_17 ?_
        refine lv_aload_n hx hb d_B_takesPlanesToPlanes_18 rfl (lv_at hl 0 rfl) ?_
        refine va_get (D := (dC, dI)) (ci := 0) (v := .ref qBb) (C := R_B) (T := T_B) (N := 10) hx hb ht in_B hown hK hP 0 rfl rfl 5 (by decide) (ht _ m_55) (fun _ h9 => h9) rfl d_B_takesPlanesToPlanes_19 ?_
        refine lv_iload_n hx hb d_B_takesPlanesToPlanes_22 rfl (lv_at hl 2 rfl) ?_
        obtain ⟨hi3, hf⟩ := oIn_some hf
        refine va_iald hx hb hK hP 5 0 rfl rfl hi3 d_B_takesPlanesToPlanes_23 ?_
        refine lv_aload_n hx hb d_B_takesPlanesToPlanes_24 rfl (lv_at hl 0 rfl) ?_
        refine va_get (D := (dC, dI)) (ci := 0) (v := .ref qBc) (C := R_B) (T := T_B) (N := 10) hx hb ht in_B hown hK hP 0 rfl rfl 6 (by decide) (ht _ m_56) (fun _ h9 => h9) rfl d_B_takesPlanesToPlanes_25 ?_
        refine lv_iload_n hx hb d_B_takesPlanesToPlanes_28 rfl (lv_at hl 2 rfl) ?_
        obtain ⟨hi4, hf⟩ := oIn_some hf
        refine va_iald hx hb hK hP 6 0 rfl rfl hi4 d_B_takesPlanesToPlanes_29 ?_
        obtain ⟨r5z, hfc, hf⟩ := oCall1_some hf
        have hPc := hP.sub (ws' := []) [] rfl
        refine vp_callSi (va_runS (As := [.int x1, .int 0, .int (bA x2.toNatClampNeg), .int (bB x2.toNatClampNeg), .int (bC x2.toNatClampNeg)]) (rest := []) ⟨hx, hb, hml, hown, ht⟩ (c_W_coordinate l dC dI cI cJ x1 0 (bA x2.toNatClampNeg) (bB x2.toNatClampNeg) (bC x2.toNatClampNeg) r5z hfc) (va_cwS 5 ht (gS m_252 m_253 m_33 m_254) rfl rfl rfl (by decide +kernel) ⟨Nat.le_of_ble_eq_true rfl, Nat.le_of_ble_eq_true rfl⟩) (preR hPc hK hZ) rfl rfl hl.1 rfl (lv_room (Nat.le_of_ble_eq_true rfl)) d_B_takesPlanesToPlanes_30 ⟨Nat.le_of_ble_eq_true rfl, Nat.le_of_ble_eq_true rfl⟩).run (fun r5 hw => ?_)
        subst hw
        clear hPc hfc
        refine lv_istore_n (lv' := [(3, .int r5), (0, .ref qB), (1, .int x1), (2, .int x2)]) hx hb d_B_takesPlanesToPlanes_33 rfl hl (by decide) rfl (fun ls hl => ?_)
        refine lv_iload_n hx hb d_B_takesPlanesToPlanes_34 rfl (lv_at hl 2 rfl) ?_
        refine lv_iconst (v := 1) hx hb d_B_takesPlanesToPlanes_35 (by decide) ?_
        refine lv_aload_n hx hb d_B_takesPlanesToPlanes_36 rfl (lv_at hl 1 rfl) ?_
        refine va_get (D := (dC, dI)) (ci := 0) (v := .ref qBa) (C := R_B) (T := T_B) (N := 10) hx hb ht in_B hown hK hP 0 rfl rfl 4 (by decide) (ht _ m_54) (fun _ h9 => h9) rfl d_B_takesPlanesToPlanes_37 ?_
        refine lv_iload_n hx hb d_B_takesPlanesToPlanes_40 rfl (lv_at hl 3 rfl) ?_
        obtain ⟨hi6, hf⟩ := oIn_some hf
        refine va_iald hx hb hK hP 4 0 rfl rfl hi6 d_B_takesPlanesToPlanes_41 ?_
        refine lv_aload_n hx hb d_B_takesPlanesToPlanes_42 rfl (lv_at hl 1 rfl) ?_
        refine va_get (D := (dC, dI)) (ci := 0) (v := .ref qBb) (C := R_B) (T := T_B) (N := 10) hx hb ht in_B hown hK hP 0 rfl rfl 5 (by decide) (ht _ m_55) (fun _ h9 => h9) rfl d_B_takesPlanesToPlanes_43 ?_
        refine lv_iload_n hx hb d_B_takesPlanesToPlanes_46 rfl (lv_at hl 3 rfl) ?_
        obtain ⟨hi7, hf⟩ := oIn_some hf
        refine va_iald hx hb hK hP 5 0 rfl rfl hi7 d_B_takesPlanesToPlanes_47 ?_
        refine lv_aload_n hx hb d_B_takesPlanesToPlanes_48 rfl (lv_at hl 1 rfl) ?_
        refine va_get (D := (dC, dI)) (ci := 0) (v := .ref qBc) (C := R_B) (T := T_B) (N := 10) hx hb ht in_B hown hK hP 0 rfl rfl 6 (by decide) (ht _ m_56) (fun _ h9 => h9) rfl d_B_takesPlanesToPlanes_49 ?_
        refine lv_iload_n hx hb d_B_takesPlanesToPlanes_52 rfl (lv_at hl 3 rfl) ?_
        obtain ⟨hi8, hf⟩ := oIn_some hf
        refine va_iald hx hb hK hP 6 0 rfl rfl hi8 d_B_takesPlanesToPlanes_53 ?_
        obtain ⟨r9z, hfc, hf⟩ := oCall1_some hf
        have hPc := hP.sub (ws' := []) [] rfl
        refine vp_callSi (va_runS (As := [.int x1, .int 1, .int (bA x2.toNatClampNeg), .int (bB x2.toNatClampNeg), .int (bC x2.toNatClampNeg)]) (rest := []) ⟨hx, hb, hml, hown, ht⟩ (c_W_coordinate l dC dI cI cJ x1 1 (bA x2.toNatClampNeg) (bB x2.toNatClampNeg) (bC x2.toNatClampNeg) r9z hfc) (va_cwS 5 ht (gS m_252 m_253 m_33 m_254) rfl rfl rfl (by decide +kernel) ⟨Nat.le_of_ble_eq_true rfl, Nat.le_of_ble_eq_true rfl⟩) (preR hPc hK hZ) rfl rfl hl.1 rfl (lv_room (Nat.le_of_ble_eq_true rfl)) d_B_takesPlanesToPlanes_54 ⟨Nat.le_of_ble_eq_true rfl, Nat.le_of_ble_eq_true rfl⟩).run (fun r9 hw => ?_)
        subst hw
        clear hPc hfc
        refine lv_istore (lv' := [(4, .int r9), (3, .int r5), (0, .ref qB), (1, .int x1), (2, .int x2)]) hx hb d_B_takesPlanesToPlanes_57 hl (by decide) rfl (fun ls hl => ?_)
        refine lv_iload_n hx hb d_B_takesPlanesToPlanes_59 rfl (lv_at hl 3 rfl) ?_
        refine lv_iconst (v := 2) hx hb d_B_takesPlanesToPlanes_60 (by decide) ?_
        refine lv_aload_n hx hb d_B_takesPlanesToPlanes_61 rfl (lv_at hl 2 rfl) ?_
        refine va_get (D := (dC, dI)) (ci := 0) (v := .ref qBa) (C := R_B) (T := T_B) (N := 10) hx hb ht in_B hown hK hP 0 rfl rfl 4 (by decide) (ht _ m_54) (fun _ h9 => h9) rfl d_B_takesPlanesToPlanes_62 ?_
        refine lv_iload_n hx hb d_B_takesPlanesToPlanes_65 rfl (lv_at hl 4 rfl) ?_
        obtain ⟨hi10, hf⟩ := oIn_some hf
        refine va_iald hx hb hK hP 4 0 rfl rfl hi10 d_B_takesPlanesToPlanes_66 ?_
        refine lv_aload_n hx hb d_B_takesPlanesToPlanes_67 rfl (lv_at hl 2 rfl) ?_
        refine va_get (D := (dC, dI)) (ci := 0) (v := .ref qBb) (C := R_B) (T := T_B) (N := 10) hx hb ht in_B hown hK hP 0 rfl rfl 5 (by decide) (ht _ m_55) (fun _ h9 => h9) rfl d_B_takesPlanesToPlanes_68 ?_
        refine lv_iload_n hx hb d_B_takesPlanesToPlanes_71 rfl (lv_at hl 4 rfl) ?_
        obtain ⟨hi11, hf⟩ := oIn_some hf
        refine va_iald hx hb hK hP 5 0 rfl rfl hi11 d_B_takesPlanesToPlanes_72 ?_
        refine lv_aload_n hx hb d_B_takesPlanesToPlanes_73 rfl (lv_at hl 2 rfl) ?_
        refine va_get (D := (dC, dI)) (ci := 0) (v := .ref qBc) (C := R_B) (T := T_B) (N := 10) hx hb ht in_B hown hK hP 0 rfl rfl 6 (by decide) (ht _ m_56) (fun _ h9 => h9) rfl d_B_takesPlanesToPlanes_74 ?_
        refine lv_iload_n hx hb d_B_takesPlanesToPlanes_77 rfl (lv_at hl 4 rfl) ?_
        obtain ⟨hi12, hf⟩ := oIn_some hf
        refine va_iald hx hb hK hP 6 0 rfl rfl hi12 d_B_takesPlanesToPlanes_78 ?_
        obtain ⟨r13z, hfc, hf⟩ := oCall1_some hf
        have hPc := hP.sub (ws' := []) [] rfl
        refine vp_callSi (va_runS (As := [.int x1, .int 2, .int (bA x2.toNatClampNeg), .int (bB x2.toNatClampNeg), .int (bC x2.toNatClampNeg)]) (rest := []) ⟨hx, hb, hml, hown, ht⟩ (c_W_coordinate l dC dI cI cJ x1 2 (bA x2.toNatClampNeg) (bB x2.toNatClampNeg) (bC x2.toNatClampNeg) r13z hfc) (va_cwS 5 ht (gS m_252 m_253 m_33 m_254) rfl rfl rfl (by decide +kernel) ⟨Nat.le_of_ble_eq_true rfl, Nat.le_of_ble_eq_true rfl⟩) (preR hPc hK hZ) rfl rfl hl.1 rfl (lv_room (Nat.le_of_ble_eq_true rfl)) d_B_takesPlanesToPlanes_79 ⟨Nat.le_of_ble_eq_true rfl, Nat.le_of_ble_eq_true rfl⟩).run (fun r13 hw => ?_)
        subst hw
        clear hPc hfc
        refine lv_istore (lv' := [(5, .int r13), (4, .int r9), (3, .int r5), (0, .ref qB), (1, .int x1), (2, .int x2)]) hx hb d_B_takesPlanesToPlanes_82 hl (by decide) rfl (fun ls hl => ?_)
        refine lv_aload_n hx hb d_B_takesPlanesToPlanes_84 rfl (lv_at hl 3 rfl) ?_
        refine lv_iload_n hx hb d_B_takesPlanesToPlanes_85 rfl (lv_at hl 2 rfl) ?_
        refine lv_iload hx hb d_B_takesPlanesToPlanes_86 (lv_at hl 1 rfl) ?_
        refine lv_iload hx hb d_B_takesPlanesToPlanes_88 (lv_at hl 0 rfl) ?_
        refine lv_aload_n hx hb d_B_takesPlanesToPlanes_90 rfl (lv_at hl 3 rfl) ?_
        refine va_get (D := (dC, dI)) (ci := 0) (v := .ref qBd) (C := R_B) (T := T_B) (N := 10) hx hb ht in_B hown hK hP 0 rfl rfl 7 (by decide) (ht _ m_57) (fun _ h9 => h9) rfl d_B_takesPlanesToPlanes_91 ?_
        refine lv_iload_n hx hb d_B_takesPlanesToPlanes_94 rfl (lv_at hl 5 rfl) ?_
        obtain ⟨hi14, hf⟩ := oIn_some hf
        refine va_iald hx hb hK hP 7 0 rfl rfl hi14 d_B_takesPlanesToPlanes_95 ?_
        obtain ⟨r15z, hfc, hf⟩ := oCall1_some hf
        have hPc := hP.sub (ws' := (w_B qB qBx qBy qBz qBa qBb qBc qBd qBs cI cJ nP nQ bX bY bZ bA bB bC bD bS)) [0, 1, 2, 3, 4, 5, 6, 7, 8] rfl
        refine vp_callSi (va_runV (As := [.int r5, .int r9, .int r13, .int (bD x2.toNatClampNeg)]) (rest := []) ⟨hx, hb, hml, hown, ht⟩ (c_B_hasPlaneWhere l dC dI qB qBx qBy qBz qBa qBb qBc qBd qBs cI cJ nP nQ bX bY bZ bA bB bC bD bS r5 r9 r13 (bD x2.toNatClampNeg) r15z hfc) (cwV 4 ht (gV m_303 m_305 m_4 m_29 m_306) rfl rfl rfl (by decide +kernel) ⟨Nat.le_of_ble_eq_true rfl, Nat.le_of_ble_eq_true rfl⟩) (preRV hPc hK hZ (va_recv hK hPc (ci := 0) (q0 := 0) rfl rfl)) rfl rfl hl.1 rfl (lv_room (Nat.le_of_ble_eq_true rfl)) d_B_takesPlanesToPlanes_96 ⟨Nat.le_of_ble_eq_true rfl, Nat.le_of_ble_eq_true rfl⟩).run (fun r15 hw => ?_)
        subst hw
        clear hPc hfc
        refine lv_if_ne (tgt := 104) hx hb d_B_takesPlanesToPlanes_99 (by decide) (fun c16 => ?_) (fun c16 => ?_)
        · have hf := oIf_f hf c16
          obtain ⟨v17, ev17, hf⟩ := oLet_ex hf
          refine lv_iinc (v := v17) (lv' := [(2, .int v17), (5, .int r13), (4, .int r9), (3, .int r5), (0, .ref qB), (1, .int x1)]) hx hb d_B_takesPlanesToPlanes_104 hl (k := 5) rfl (by rw [ev17]; rfl) (by decide) rfl (fun ls hl => ?_)
          refine lv_goto (tgt := 2) hx hb d_B_takesPlanesToPlanes_107 (by decide) ?_
          exact ofX _ _ _ _ _ (ih2 v17 _ hf (lv_sub hl [4, 5, 0] rfl))
        · have hf := oIf_t hf c16
          refine lv_iconst (v := 0) hx hb d_B_takesPlanesToPlanes_102 (by decide) ?_
          cases hf
          exact W.zret (ty := .boolean) hx hb hr rfl (fun t ht hW => ⟨_, rfl, rfl, ht⟩) (fun q h => by cases h) d_B_takesPlanesToPlanes_103
  refine toX _ _ _ _ _ ?_
  unfold f_B_takesPlanesToPlanes at hf
  refine lv_iconst (v := 0) hx hb d_B_takesPlanesToPlanes_0 (by decide) ?_
  refine lv_istore_n (lv' := [(2, .int 0), (0, .ref qB), (1, .int x1)]) hx hb d_B_takesPlanesToPlanes_1 rfl hl (by decide) rfl (fun ls hl => ?_)
  exact ofX _ _ _ _ _ (K2 x1 _ 0 _ hf (lv_sub hl [1, 2, 0] rfl))
end

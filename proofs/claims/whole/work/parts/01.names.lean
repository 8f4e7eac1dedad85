-- ===== PART A: goes FIRST, ahead of the names: the tables' words, and 'selects' of the private methods out of them =====
/-- a private method of a class that the tables say can be made, by its rows of tables_1 -/
def lw_okq (q : MethodName × Nat) : Prop := (q.1.cls ≠ "java/lang/invoke/MethodHandle" ∧ q.1.cls ≠ "java/lang/invoke/VarHandle") ∧ Cond.instantiable q.1.cls q.2 ∈ tables_1 ∧ Cond.privateMethod q.1 ∈ tables_1 ∧ Cond.instanceMethod q.1 ∈ tables_1
theorem lw_p0 : lw_okq (⟨"CutBodies$Body", "noteSide", "(II)V"⟩, 10) := ⟨⟨by decide +kernel, by decide +kernel⟩, List.mem_of_getElem? (i := 17) (by decide +kernel), List.mem_of_getElem? (i := 120) (by decide +kernel), List.mem_of_getElem? (i := 121) (by decide +kernel)⟩
theorem lw_p1 : lw_okq (⟨"CutBodies", "hasAxis", "(I)Z"⟩, 10) := ⟨⟨by decide +kernel, by decide +kernel⟩, List.mem_of_getElem? (i := 9) (by decide +kernel), List.mem_of_getElem? (i := 162) (by decide +kernel), List.mem_of_getElem? (i := 163) (by decide +kernel)⟩
theorem lw_p2 : lw_okq (⟨"CutBodies", "findTargets", "(II)I"⟩, 10) := ⟨⟨by decide +kernel, by decide +kernel⟩, List.mem_of_getElem? (i := 9) (by decide +kernel), List.mem_of_getElem? (i := 236) (by decide +kernel), List.mem_of_getElem? (i := 237) (by decide +kernel)⟩
theorem lw_p3 : lw_okq (⟨"CutBodies", "turnByTargets", "(LCutBodies$Contents;I)V"⟩, 10) := ⟨⟨by decide +kernel, by decide +kernel⟩, List.mem_of_getElem? (i := 9) (by decide +kernel), List.mem_of_getElem? (i := 240) (by decide +kernel), List.mem_of_getElem? (i := 241) (by decide +kernel)⟩
theorem lw_p4 : lw_okq (⟨"CutBodies$Body", "hasPlaneWhere", "(IIII)Z"⟩, 10) := ⟨⟨by decide +kernel, by decide +kernel⟩, List.mem_of_getElem? (i := 17) (by decide +kernel), List.mem_of_getElem? (i := 277) (by decide +kernel), List.mem_of_getElem? (i := 278) (by decide +kernel)⟩
theorem lw_p5 : lw_okq (⟨"CutBodies$Body", "isSamePlane", "(IIIII)Z"⟩, 10) := ⟨⟨by decide +kernel, by decide +kernel⟩, List.mem_of_getElem? (i := 17) (by decide +kernel), List.mem_of_getElem? (i := 281) (by decide +kernel), List.mem_of_getElem? (i := 282) (by decide +kernel)⟩
theorem lw_p6 : lw_okq (⟨"CutBodies", "rowsUntilBack", "()I"⟩, 10) := ⟨⟨by decide +kernel, by decide +kernel⟩, List.mem_of_getElem? (i := 9) (by decide +kernel), List.mem_of_getElem? (i := 293) (by decide +kernel), List.mem_of_getElem? (i := 294) (by decide +kernel)⟩
theorem lw_p7 : lw_okq (⟨"CutBodiesModel", "add", "(III)Z"⟩, 23) := ⟨⟨by decide +kernel, by decide +kernel⟩, List.mem_of_getElem? (i := 314) (by decide +kernel), List.mem_of_getElem? (i := 397) (by decide +kernel), List.mem_of_getElem? (i := 398) (by decide +kernel)⟩
theorem lw_p8 : lw_okq (⟨"CutBodiesModel", "pointAt", "(III)I"⟩, 23) := ⟨⟨by decide +kernel, by decide +kernel⟩, List.mem_of_getElem? (i := 314) (by decide +kernel), List.mem_of_getElem? (i := 401) (by decide +kernel), List.mem_of_getElem? (i := 402) (by decide +kernel)⟩
theorem lw_p9 : lw_okq (⟨"CutBodiesModel", "own", "()V"⟩, 23) := ⟨⟨by decide +kernel, by decide +kernel⟩, List.mem_of_getElem? (i := 314) (by decide +kernel), List.mem_of_getElem? (i := 405) (by decide +kernel), List.mem_of_getElem? (i := 406) (by decide +kernel)⟩
theorem lw_p10 : lw_okq (⟨"CutBodiesModel", "isAxis", "(I)Z"⟩, 23) := ⟨⟨by decide +kernel, by decide +kernel⟩, List.mem_of_getElem? (i := 314) (by decide +kernel), List.mem_of_getElem? (i := 428) (by decide +kernel), List.mem_of_getElem? (i := 429) (by decide +kernel)⟩
theorem lw_p11 : lw_okq (⟨"CutBodiesModel", "kind", "(I)I"⟩, 23) := ⟨⟨by decide +kernel, by decide +kernel⟩, List.mem_of_getElem? (i := 314) (by decide +kernel), List.mem_of_getElem? (i := 432) (by decide +kernel), List.mem_of_getElem? (i := 433) (by decide +kernel)⟩
theorem lw_p12 : lw_okq (⟨"CutBodiesModel", "isPoint", "(I)Z"⟩, 23) := ⟨⟨by decide +kernel, by decide +kernel⟩, List.mem_of_getElem? (i := 314) (by decide +kernel), List.mem_of_getElem? (i := 440) (by decide +kernel), List.mem_of_getElem? (i := 441) (by decide +kernel)⟩
theorem lw_p13 : lw_okq (⟨"CutBodiesModel", "imageOf", "(II)I"⟩, 23) := ⟨⟨by decide +kernel, by decide +kernel⟩, List.mem_of_getElem? (i := 314) (by decide +kernel), List.mem_of_getElem? (i := 444) (by decide +kernel), List.mem_of_getElem? (i := 445) (by decide +kernel)⟩
theorem lw_p14 : lw_okq (⟨"CutBodiesModel", "step", "(IIII)V"⟩, 23) := ⟨⟨by decide +kernel, by decide +kernel⟩, List.mem_of_getElem? (i := 314) (by decide +kernel), List.mem_of_getElem? (i := 448) (by decide +kernel), List.mem_of_getElem? (i := 449) (by decide +kernel)⟩
theorem lw_p15 : lw_okq (⟨"CutBodiesModel", "isPlane", "(I)Z"⟩, 23) := ⟨⟨by decide +kernel, by decide +kernel⟩, List.mem_of_getElem? (i := 314) (by decide +kernel), List.mem_of_getElem? (i := 456) (by decide +kernel), List.mem_of_getElem? (i := 457) (by decide +kernel)⟩
def lw_privs_1 : List (MethodName × Nat) := [(⟨"CutBodies$Body", "noteSide", "(II)V"⟩, 10), (⟨"CutBodies", "hasAxis", "(I)Z"⟩, 10), (⟨"CutBodies", "findTargets", "(II)I"⟩, 10), (⟨"CutBodies", "turnByTargets", "(LCutBodies$Contents;I)V"⟩, 10), (⟨"CutBodies$Body", "hasPlaneWhere", "(IIII)Z"⟩, 10), (⟨"CutBodies$Body", "isSamePlane", "(IIIII)Z"⟩, 10), (⟨"CutBodies", "rowsUntilBack", "()I"⟩, 10), (⟨"CutBodiesModel", "add", "(III)Z"⟩, 23), (⟨"CutBodiesModel", "pointAt", "(III)I"⟩, 23), (⟨"CutBodiesModel", "own", "()V"⟩, 23), (⟨"CutBodiesModel", "isAxis", "(I)Z"⟩, 23), (⟨"CutBodiesModel", "kind", "(I)I"⟩, 23), (⟨"CutBodiesModel", "isPoint", "(I)Z"⟩, 23), (⟨"CutBodiesModel", "imageOf", "(II)I"⟩, 23), (⟨"CutBodiesModel", "step", "(IIII)V"⟩, 23), (⟨"CutBodiesModel", "isPlane", "(I)Z"⟩, 23)]
theorem lw_r1 : ∀ q ∈ lw_privs_1, lw_okq q := List.forall_mem_cons.mpr ⟨lw_p0, List.forall_mem_cons.mpr ⟨lw_p1, List.forall_mem_cons.mpr ⟨lw_p2, List.forall_mem_cons.mpr ⟨lw_p3, List.forall_mem_cons.mpr ⟨lw_p4, List.forall_mem_cons.mpr ⟨lw_p5, List.forall_mem_cons.mpr ⟨lw_p6, List.forall_mem_cons.mpr ⟨lw_p7, List.forall_mem_cons.mpr ⟨lw_p8, List.forall_mem_cons.mpr ⟨lw_p9, List.forall_mem_cons.mpr ⟨lw_p10, List.forall_mem_cons.mpr ⟨lw_p11, List.forall_mem_cons.mpr ⟨lw_p12, List.forall_mem_cons.mpr ⟨lw_p13, List.forall_mem_cons.mpr ⟨lw_p14, List.forall_mem_cons.mpr ⟨lw_p15, fun _ h => absurd h List.not_mem_nil⟩⟩⟩⟩⟩⟩⟩⟩⟩⟩⟩⟩⟩⟩⟩⟩
theorem lw_p16 : lw_okq (⟨"CutBodiesModel", "sideOf", "(II)I"⟩, 23) := ⟨⟨by decide +kernel, by decide +kernel⟩, List.mem_of_getElem? (i := 314) (by decide +kernel), List.mem_of_getElem? (i := 460) (by decide +kernel), List.mem_of_getElem? (i := 461) (by decide +kernel)⟩
theorem lw_p17 : lw_okq (⟨"CutBodiesModel", "piecesTo", "(I)I"⟩, 23) := ⟨⟨by decide +kernel, by decide +kernel⟩, List.mem_of_getElem? (i := 314) (by decide +kernel), List.mem_of_getElem? (i := 468) (by decide +kernel), List.mem_of_getElem? (i := 469) (by decide +kernel)⟩
theorem lw_p18 : lw_okq (⟨"CutBodiesModel", "leastOf", "(I)I"⟩, 23) := ⟨⟨by decide +kernel, by decide +kernel⟩, List.mem_of_getElem? (i := 314) (by decide +kernel), List.mem_of_getElem? (i := 472) (by decide +kernel), List.mem_of_getElem? (i := 473) (by decide +kernel)⟩
theorem lw_p19 : lw_okq (⟨"CutBodiesModel", "isAlike", "(II)Z"⟩, 23) := ⟨⟨by decide +kernel, by decide +kernel⟩, List.mem_of_getElem? (i := 314) (by decide +kernel), List.mem_of_getElem? (i := 476) (by decide +kernel), List.mem_of_getElem? (i := 477) (by decide +kernel)⟩
theorem lw_p20 : lw_okq (⟨"CutBodiesModel", "blocked", "(II)I"⟩, 23) := ⟨⟨by decide +kernel, by decide +kernel⟩, List.mem_of_getElem? (i := 314) (by decide +kernel), List.mem_of_getElem? (i := 488) (by decide +kernel), List.mem_of_getElem? (i := 489) (by decide +kernel)⟩
theorem lw_p21 : lw_okq (⟨"CutBodiesModel", "plan", "(III)V"⟩, 23) := ⟨⟨by decide +kernel, by decide +kernel⟩, List.mem_of_getElem? (i := 314) (by decide +kernel), List.mem_of_getElem? (i := 492) (by decide +kernel), List.mem_of_getElem? (i := 493) (by decide +kernel)⟩
theorem lw_p22 : lw_okq (⟨"CutBodiesModel", "turnOnce", "(II)V"⟩, 23) := ⟨⟨by decide +kernel, by decide +kernel⟩, List.mem_of_getElem? (i := 314) (by decide +kernel), List.mem_of_getElem? (i := 496) (by decide +kernel), List.mem_of_getElem? (i := 497) (by decide +kernel)⟩
theorem lw_p23 : lw_okq (⟨"CutBodiesModel", "wayBehind", "(II)I"⟩, 23) := ⟨⟨by decide +kernel, by decide +kernel⟩, List.mem_of_getElem? (i := 314) (by decide +kernel), List.mem_of_getElem? (i := 500) (by decide +kernel), List.mem_of_getElem? (i := 501) (by decide +kernel)⟩
theorem lw_p24 : lw_okq (⟨"CutBodiesModel", "taken", "(II)I"⟩, 23) := ⟨⟨by decide +kernel, by decide +kernel⟩, List.mem_of_getElem? (i := 314) (by decide +kernel), List.mem_of_getElem? (i := 504) (by decide +kernel), List.mem_of_getElem? (i := 505) (by decide +kernel)⟩
theorem lw_p25 : lw_okq (⟨"CutBodiesModel", "isThere", "(II)Z"⟩, 23) := ⟨⟨by decide +kernel, by decide +kernel⟩, List.mem_of_getElem? (i := 314) (by decide +kernel), List.mem_of_getElem? (i := 536) (by decide +kernel), List.mem_of_getElem? (i := 537) (by decide +kernel)⟩
theorem lw_p26 : lw_okq (⟨"CutBodiesModel", "isNow", "()Z"⟩, 23) := ⟨⟨by decide +kernel, by decide +kernel⟩, List.mem_of_getElem? (i := 314) (by decide +kernel), List.mem_of_getElem? (i := 551) (by decide +kernel), List.mem_of_getElem? (i := 552) (by decide +kernel)⟩
def lw_privs_2 : List (MethodName × Nat) := [(⟨"CutBodiesModel", "sideOf", "(II)I"⟩, 23), (⟨"CutBodiesModel", "piecesTo", "(I)I"⟩, 23), (⟨"CutBodiesModel", "leastOf", "(I)I"⟩, 23), (⟨"CutBodiesModel", "isAlike", "(II)Z"⟩, 23), (⟨"CutBodiesModel", "blocked", "(II)I"⟩, 23), (⟨"CutBodiesModel", "plan", "(III)V"⟩, 23), (⟨"CutBodiesModel", "turnOnce", "(II)V"⟩, 23), (⟨"CutBodiesModel", "wayBehind", "(II)I"⟩, 23), (⟨"CutBodiesModel", "taken", "(II)I"⟩, 23), (⟨"CutBodiesModel", "isThere", "(II)Z"⟩, 23), (⟨"CutBodiesModel", "isNow", "()Z"⟩, 23)]
theorem lw_r2 : ∀ q ∈ lw_privs_2, lw_okq q := List.forall_mem_cons.mpr ⟨lw_p16, List.forall_mem_cons.mpr ⟨lw_p17, List.forall_mem_cons.mpr ⟨lw_p18, List.forall_mem_cons.mpr ⟨lw_p19, List.forall_mem_cons.mpr ⟨lw_p20, List.forall_mem_cons.mpr ⟨lw_p21, List.forall_mem_cons.mpr ⟨lw_p22, List.forall_mem_cons.mpr ⟨lw_p23, List.forall_mem_cons.mpr ⟨lw_p24, List.forall_mem_cons.mpr ⟨lw_p25, List.forall_mem_cons.mpr ⟨lw_p26, fun _ h => absurd h List.not_mem_nil⟩⟩⟩⟩⟩⟩⟩⟩⟩⟩⟩
def lw_privs : List (MethodName × Nat) := lw_privs_1 ++ (lw_privs_2)
def lw_tbl : List Cond := k2_sels lw_privs ++ tables_1
theorem lw_privs_ok : ∀ q ∈ lw_privs, lw_okq q := by
  show ∀ q ∈ lw_privs_1 ++ (lw_privs_2), lw_okq q
  exact List.forall_mem_append.mpr ⟨lw_r1, lw_r2⟩

def R_B : String := "CutBodies$Body"
def R_C : String := "CutBodies$Contents"
def R_W : String := "CutBodies$Ways"
def R_X : String := "CutBodies"
def R_M : String := "CutBodiesModel"
def R_A : String := "java/util/Arrays"
def R_L : String := "CutBodiesLaw"
def T_B : u_T := fun k => match k with
  | 0 => ("CutBodies$Body", "x", "[I", true)
  | 1 => ("CutBodies$Body", "y", "[I", true)
  | 2 => ("CutBodies$Body", "z", "[I", true)
  | 3 => ("CutBodies$Body", "pointCount", "I", false)
  | 4 => ("CutBodies$Body", "a", "[I", true)
  | 5 => ("CutBodies$Body", "b", "[I", true)
  | 6 => ("CutBodies$Body", "c", "[I", true)
  | 7 => ("CutBodies$Body", "d", "[I", true)
  | 8 => ("CutBodies$Body", "planeCount", "I", false)
  | _ => ("CutBodies$Body", "sides", "[J", true)
def t_B : Nat → FieldType := fun k => match k with
  | 0 => .array .int
  | 1 => .array .int
  | 2 => .array .int
  | 3 => .int
  | 4 => .array .int
  | 5 => .array .int
  | 6 => .array .int
  | 7 => .array .int
  | 8 => .int
  | _ => .array .long
theorem n_B : ∀ a, a < 10 → ∀ b, b < 10 → a ≠ b → (T_B a).2.1 ≠ (T_B b).2.1 := by decide +kernel
theorem t_B_ok : ∀ k, k < 10 → parseFieldDescriptor (T_B k).2.2.1 = some (t_B k) := by decide +kernel
theorem fs_B : ∀ j, j < 10 → defaultValue (t_B j) = vp_V [.null, .null, .null, .int 0, .null, .null, .null, .null, .int 0, .null] j := by decide +kernel
def T_C : u_T := fun k => match k with
  | 0 => ("CutBodies$Contents", "origin", "[I", true)
  | _ => ("CutBodies$Contents", "turned", "[I", true)
def t_C : Nat → FieldType := fun k => match k with
  | 0 => .array .int
  | _ => .array .int
theorem n_C : ∀ a, a < 2 → ∀ b, b < 2 → a ≠ b → (T_C a).2.1 ≠ (T_C b).2.1 := by decide +kernel
theorem t_C_ok : ∀ k, k < 2 → parseFieldDescriptor (T_C k).2.2.1 = some (t_C k) := by decide +kernel
theorem fs_C : ∀ j, j < 2 → defaultValue (t_C j) = vp_V [.null, .null] j := by decide +kernel
def T_X : u_T := fun k => match k with
  | 0 => ("CutBodies", "body", "LCutBodies$Body;", true)
  | 1 => ("CutBodies", "steps", "[I", true)
  | 2 => ("CutBodies", "axisCount", "I", false)
  | 3 => ("CutBodies", "now", "LCutBodies$Contents;", true)
  | 4 => ("CutBodies", "row", "LCutBodies$Contents;", true)
  | 5 => ("CutBodies", "spare", "LCutBodies$Contents;", true)
  | 6 => ("CutBodies", "targets", "[I", true)
  | 7 => ("CutBodies", "kept", "[LCutBodies$Contents;", true)
  | 8 => ("CutBodies", "keptPoints", "[I", true)
  | _ => ("CutBodies", "keptCount", "I", false)
def t_X : Nat → FieldType := fun k => match k with
  | 0 => .object "CutBodies$Body"
  | 1 => .array .int
  | 2 => .int
  | 3 => .object "CutBodies$Contents"
  | 4 => .object "CutBodies$Contents"
  | 5 => .object "CutBodies$Contents"
  | 6 => .array .int
  | 7 => .array (.object "CutBodies$Contents")
  | 8 => .array .int
  | _ => .int
theorem n_X : ∀ a, a < 10 → ∀ b, b < 10 → a ≠ b → (T_X a).2.1 ≠ (T_X b).2.1 := by decide +kernel
theorem t_X_ok : ∀ k, k < 10 → parseFieldDescriptor (T_X k).2.2.1 = some (t_X k) := by decide +kernel
theorem fs_X : ∀ j, j < 10 → defaultValue (t_X j) = vp_V [.null, .null, .int 0, .null, .null, .null, .null, .null, .null, .int 0] j := by decide +kernel
def T_M : u_T := fun k => match k with
  | 0 => ("CutBodiesModel", "thrown", "I", false)
  | 1 => ("CutBodiesModel", "points", "I", false)
  | 2 => ("CutBodiesModel", "planes", "I", false)
  | 3 => ("CutBodiesModel", "axes", "I", false)
  | 4 => ("CutBodiesModel", "px", "[I", true)
  | 5 => ("CutBodiesModel", "py", "[I", true)
  | 6 => ("CutBodiesModel", "pz", "[I", true)
  | 7 => ("CutBodiesModel", "plane", "[I", true)
  | 8 => ("CutBodiesModel", "axis", "[I", true)
  | 9 => ("CutBodiesModel", "was", "[I", true)
  | 10 => ("CutBodiesModel", "ways", "[I", true)
  | 11 => ("CutBodiesModel", "kept", "I", false)
  | 12 => ("CutBodiesModel", "keptWas", "[I", true)
  | 13 => ("CutBodiesModel", "keptWays", "[I", true)
  | 14 => ("CutBodiesModel", "keptPoints", "[I", true)
  | 15 => ("CutBodiesModel", "ax", "I", false)
  | 16 => ("CutBodiesModel", "ay", "I", false)
  | 17 => ("CutBodiesModel", "az", "I", false)
  | 18 => ("CutBodiesModel", "nextWas", "[I", true)
  | 19 => ("CutBodiesModel", "nextWays", "[I", true)
  | 20 => ("CutBodiesModel", "nowWas", "[I", true)
  | 21 => ("CutBodiesModel", "nowWays", "[I", true)
  | _ => ("CutBodiesModel", "to", "[I", true)
def t_M : Nat → FieldType := fun k => match k with
  | 0 => .int
  | 1 => .int
  | 2 => .int
  | 3 => .int
  | 4 => .array .int
  | 5 => .array .int
  | 6 => .array .int
  | 7 => .array .int
  | 8 => .array .int
  | 9 => .array .int
  | 10 => .array .int
  | 11 => .int
  | 12 => .array .int
  | 13 => .array .int
  | 14 => .array .int
  | 15 => .int
  | 16 => .int
  | 17 => .int
  | 18 => .array .int
  | 19 => .array .int
  | 20 => .array .int
  | 21 => .array .int
  | _ => .array .int
theorem n_M : ∀ a, a < 23 → ∀ b, b < 23 → a ≠ b → (T_M a).2.1 ≠ (T_M b).2.1 := by decide +kernel
theorem t_M_ok : ∀ k, k < 23 → parseFieldDescriptor (T_M k).2.2.1 = some (t_M k) := by decide +kernel
theorem fs_M : ∀ j, j < 23 → defaultValue (t_M j) = vp_V [.int 0, .int 0, .int 0, .int 0, .null, .null, .null, .null, .null, .null, .null, .int 0, .null, .null, .null, .int 0, .int 0, .int 0, .null, .null, .null, .null, .null] j := by decide +kernel
abbrev vwCl : List vw_C := [(R_B, T_B, 10), (R_C, T_C, 2), (R_X, T_X, 10), (R_M, T_M, 23)]
def wAll : List Cond := lw_tbl.filter goodWord
theorem wAll_in {w : Cond} {i : Nat} (h : lw_tbl[i]? = some w) (hg : goodWord w = true) : w ∈ wAll := List.mem_filter.mpr ⟨List.mem_of_getElem? h, hg⟩
theorem wAll_ok {w : Cond} (h : w ∈ wAll) : w ∈ wAll ∧ ((w.onTables && w.keeps) = true ∨ ∃ ty, w = .arrayClass ty) := ⟨h, good_of_word (List.mem_filter.mp h).2⟩
theorem wAll_tbl {w : Cond} (h : w ∈ wAll) : w ∈ lw_tbl := (List.mem_filter.mp h).1
theorem gA {c : Cond} (hc : c ∈ wAll) : GoodIn wAll (c :: wAll) := fun w h => (List.mem_cons.mp h).elim (fun e => e ▸ wAll_ok hc) (fun h => wAll_ok h)
theorem gV {own C : String} {idx : Nat} {y : MethodName} {c : Cond} (h1 : Cond.methodLink own idx y ∈ wAll) (h2 : Cond.instanceMethod y ∈ wAll) (h3 : Cond.selects C y y ∈ wAll) (h4 : Cond.initialized C ∈ wAll) (hc : c ∈ wAll) : GoodIn wAll (wsV own idx C y (c :: wAll)) := fun w h => by
  rcases List.mem_append.mp h with h | h
  · simp only [List.mem_cons, List.not_mem_nil, or_false] at h
    rcases h with rfl | rfl | rfl | rfl
    · exact wAll_ok h1
    · exact wAll_ok h2
    · exact wAll_ok h3
    · exact wAll_ok h4
  · exact gA hc w h
theorem gS {own : String} {idx : Nat} {y : MethodName} {c : Cond} (h1 : Cond.methodLink own idx y ∈ wAll) (h2 : Cond.static y ∈ wAll) (h3 : Cond.initialized y.cls ∈ wAll) (hc : c ∈ wAll) : GoodIn wAll (va_wsS own idx y (c :: wAll)) := fun w h => by
  rcases List.mem_append.mp h with h | h
  · simp only [List.mem_cons, List.not_mem_nil, or_false] at h
    rcases h with rfl | rfl | rfl
    · exact wAll_ok h1
    · exact wAll_ok h2
    · exact wAll_ok h3
  · exact gA hc w h
theorem m_0 : (Jvm.Cond.selects "CutBodies$Body" ({ cls := "CutBodies$Body", name := "noteSide", desc := "(II)V" } : Jvm.MethodName) ({ cls := "CutBodies$Body", name := "noteSide", desc := "(II)V" } : Jvm.MethodName)) ∈ wAll := wAll_in (i := 0) rfl rfl
theorem m_1 : (Jvm.Cond.selects "CutBodies" ({ cls := "CutBodies", name := "hasAxis", desc := "(I)Z" } : Jvm.MethodName) ({ cls := "CutBodies", name := "hasAxis", desc := "(I)Z" } : Jvm.MethodName)) ∈ wAll := wAll_in (i := 1) rfl rfl
theorem m_2 : (Jvm.Cond.selects "CutBodies" ({ cls := "CutBodies", name := "findTargets", desc := "(II)I" } : Jvm.MethodName) ({ cls := "CutBodies", name := "findTargets", desc := "(II)I" } : Jvm.MethodName)) ∈ wAll := wAll_in (i := 2) rfl rfl
theorem m_3 : (Jvm.Cond.selects "CutBodies" ({ cls := "CutBodies", name := "turnByTargets", desc := "(LCutBodies$Contents;I)V" } : Jvm.MethodName) ({ cls := "CutBodies", name := "turnByTargets", desc := "(LCutBodies$Contents;I)V" } : Jvm.MethodName)) ∈ wAll := wAll_in (i := 3) rfl rfl
theorem m_4 : (Jvm.Cond.selects "CutBodies$Body" ({ cls := "CutBodies$Body", name := "hasPlaneWhere", desc := "(IIII)Z" } : Jvm.MethodName) ({ cls := "CutBodies$Body", name := "hasPlaneWhere", desc := "(IIII)Z" } : Jvm.MethodName)) ∈ wAll := wAll_in (i := 4) rfl rfl
theorem m_5 : (Jvm.Cond.selects "CutBodies$Body" ({ cls := "CutBodies$Body", name := "isSamePlane", desc := "(IIIII)Z" } : Jvm.MethodName) ({ cls := "CutBodies$Body", name := "isSamePlane", desc := "(IIIII)Z" } : Jvm.MethodName)) ∈ wAll := wAll_in (i := 5) rfl rfl
theorem m_6 : (Jvm.Cond.selects "CutBodies" ({ cls := "CutBodies", name := "rowsUntilBack", desc := "()I" } : Jvm.MethodName) ({ cls := "CutBodies", name := "rowsUntilBack", desc := "()I" } : Jvm.MethodName)) ∈ wAll := wAll_in (i := 6) rfl rfl
theorem m_7 : (Jvm.Cond.selects "CutBodiesModel" ({ cls := "CutBodiesModel", name := "add", desc := "(III)Z" } : Jvm.MethodName) ({ cls := "CutBodiesModel", name := "add", desc := "(III)Z" } : Jvm.MethodName)) ∈ wAll := wAll_in (i := 7) rfl rfl
theorem m_8 : (Jvm.Cond.selects "CutBodiesModel" ({ cls := "CutBodiesModel", name := "pointAt", desc := "(III)I" } : Jvm.MethodName) ({ cls := "CutBodiesModel", name := "pointAt", desc := "(III)I" } : Jvm.MethodName)) ∈ wAll := wAll_in (i := 8) rfl rfl
theorem m_9 : (Jvm.Cond.selects "CutBodiesModel" ({ cls := "CutBodiesModel", name := "own", desc := "()V" } : Jvm.MethodName) ({ cls := "CutBodiesModel", name := "own", desc := "()V" } : Jvm.MethodName)) ∈ wAll := wAll_in (i := 9) rfl rfl
theorem m_10 : (Jvm.Cond.selects "CutBodiesModel" ({ cls := "CutBodiesModel", name := "isAxis", desc := "(I)Z" } : Jvm.MethodName) ({ cls := "CutBodiesModel", name := "isAxis", desc := "(I)Z" } : Jvm.MethodName)) ∈ wAll := wAll_in (i := 10) rfl rfl
theorem m_11 : (Jvm.Cond.selects "CutBodiesModel" ({ cls := "CutBodiesModel", name := "kind", desc := "(I)I" } : Jvm.MethodName) ({ cls := "CutBodiesModel", name := "kind", desc := "(I)I" } : Jvm.MethodName)) ∈ wAll := wAll_in (i := 11) rfl rfl
theorem m_12 : (Jvm.Cond.selects "CutBodiesModel" ({ cls := "CutBodiesModel", name := "isPoint", desc := "(I)Z" } : Jvm.MethodName) ({ cls := "CutBodiesModel", name := "isPoint", desc := "(I)Z" } : Jvm.MethodName)) ∈ wAll := wAll_in (i := 12) rfl rfl
theorem m_13 : (Jvm.Cond.selects "CutBodiesModel" ({ cls := "CutBodiesModel", name := "imageOf", desc := "(II)I" } : Jvm.MethodName) ({ cls := "CutBodiesModel", name := "imageOf", desc := "(II)I" } : Jvm.MethodName)) ∈ wAll := wAll_in (i := 13) rfl rfl
theorem m_14 : (Jvm.Cond.selects "CutBodiesModel" ({ cls := "CutBodiesModel", name := "step", desc := "(IIII)V" } : Jvm.MethodName) ({ cls := "CutBodiesModel", name := "step", desc := "(IIII)V" } : Jvm.MethodName)) ∈ wAll := wAll_in (i := 14) rfl rfl
theorem m_15 : (Jvm.Cond.selects "CutBodiesModel" ({ cls := "CutBodiesModel", name := "isPlane", desc := "(I)Z" } : Jvm.MethodName) ({ cls := "CutBodiesModel", name := "isPlane", desc := "(I)Z" } : Jvm.MethodName)) ∈ wAll := wAll_in (i := 15) rfl rfl
theorem m_16 : (Jvm.Cond.selects "CutBodiesModel" ({ cls := "CutBodiesModel", name := "sideOf", desc := "(II)I" } : Jvm.MethodName) ({ cls := "CutBodiesModel", name := "sideOf", desc := "(II)I" } : Jvm.MethodName)) ∈ wAll := wAll_in (i := 16) rfl rfl
theorem m_17 : (Jvm.Cond.selects "CutBodiesModel" ({ cls := "CutBodiesModel", name := "piecesTo", desc := "(I)I" } : Jvm.MethodName) ({ cls := "CutBodiesModel", name := "piecesTo", desc := "(I)I" } : Jvm.MethodName)) ∈ wAll := wAll_in (i := 17) rfl rfl
theorem m_18 : (Jvm.Cond.selects "CutBodiesModel" ({ cls := "CutBodiesModel", name := "leastOf", desc := "(I)I" } : Jvm.MethodName) ({ cls := "CutBodiesModel", name := "leastOf", desc := "(I)I" } : Jvm.MethodName)) ∈ wAll := wAll_in (i := 18) rfl rfl
theorem m_19 : (Jvm.Cond.selects "CutBodiesModel" ({ cls := "CutBodiesModel", name := "isAlike", desc := "(II)Z" } : Jvm.MethodName) ({ cls := "CutBodiesModel", name := "isAlike", desc := "(II)Z" } : Jvm.MethodName)) ∈ wAll := wAll_in (i := 19) rfl rfl
theorem m_20 : (Jvm.Cond.selects "CutBodiesModel" ({ cls := "CutBodiesModel", name := "blocked", desc := "(II)I" } : Jvm.MethodName) ({ cls := "CutBodiesModel", name := "blocked", desc := "(II)I" } : Jvm.MethodName)) ∈ wAll := wAll_in (i := 20) rfl rfl
theorem m_21 : (Jvm.Cond.selects "CutBodiesModel" ({ cls := "CutBodiesModel", name := "plan", desc := "(III)V" } : Jvm.MethodName) ({ cls := "CutBodiesModel", name := "plan", desc := "(III)V" } : Jvm.MethodName)) ∈ wAll := wAll_in (i := 21) rfl rfl
theorem m_22 : (Jvm.Cond.selects "CutBodiesModel" ({ cls := "CutBodiesModel", name := "turnOnce", desc := "(II)V" } : Jvm.MethodName) ({ cls := "CutBodiesModel", name := "turnOnce", desc := "(II)V" } : Jvm.MethodName)) ∈ wAll := wAll_in (i := 22) rfl rfl
theorem m_23 : (Jvm.Cond.selects "CutBodiesModel" ({ cls := "CutBodiesModel", name := "wayBehind", desc := "(II)I" } : Jvm.MethodName) ({ cls := "CutBodiesModel", name := "wayBehind", desc := "(II)I" } : Jvm.MethodName)) ∈ wAll := wAll_in (i := 23) rfl rfl
theorem m_24 : (Jvm.Cond.selects "CutBodiesModel" ({ cls := "CutBodiesModel", name := "taken", desc := "(II)I" } : Jvm.MethodName) ({ cls := "CutBodiesModel", name := "taken", desc := "(II)I" } : Jvm.MethodName)) ∈ wAll := wAll_in (i := 24) rfl rfl
theorem m_25 : (Jvm.Cond.selects "CutBodiesModel" ({ cls := "CutBodiesModel", name := "isThere", desc := "(II)Z" } : Jvm.MethodName) ({ cls := "CutBodiesModel", name := "isThere", desc := "(II)Z" } : Jvm.MethodName)) ∈ wAll := wAll_in (i := 25) rfl rfl
theorem m_26 : (Jvm.Cond.selects "CutBodiesModel" ({ cls := "CutBodiesModel", name := "isNow", desc := "()Z" } : Jvm.MethodName) ({ cls := "CutBodiesModel", name := "isNow", desc := "()Z" } : Jvm.MethodName)) ∈ wAll := wAll_in (i := 26) rfl rfl
theorem m_28 : (Jvm.Cond.initialized "CutBodies") ∈ wAll := wAll_in (i := 28) rfl rfl
theorem m_29 : (Jvm.Cond.initialized "CutBodies$Body") ∈ wAll := wAll_in (i := 29) rfl rfl
theorem m_30 : (Jvm.Cond.initialized "CutBodies$Contents") ∈ wAll := wAll_in (i := 30) rfl rfl
theorem m_31 : (Jvm.Cond.initialized "CutBodiesModel") ∈ wAll := wAll_in (i := 31) rfl rfl
theorem m_32 : (Jvm.Cond.initialized "java/util/Arrays") ∈ wAll := wAll_in (i := 32) rfl rfl
theorem m_33 : (Jvm.Cond.initialized "CutBodies$Ways") ∈ wAll := wAll_in (i := 33) rfl rfl
theorem m_34 : (Jvm.Cond.initialized "java/lang/System") ∈ wAll := wAll_in (i := 34) rfl rfl
theorem m_40 : (Jvm.Cond.methodLink "CutBodies" (1 : Nat) ({ cls := "java/lang/Object", name := "<init>", desc := "()V" } : Jvm.MethodName)) ∈ wAll := wAll_in (i := 40) rfl rfl
theorem m_41 : (Jvm.Cond.instanceMethod ({ cls := "java/lang/Object", name := "<init>", desc := "()V" } : Jvm.MethodName)) ∈ wAll := wAll_in (i := 41) rfl rfl
theorem m_42 : (Jvm.Cond.code ({ cls := "java/lang/Object", name := "<init>", desc := "()V" } : Jvm.MethodName) object_method_1_code (1 : Nat) (Option.none : Option Jvm.ClassFile.FieldType)) ∈ wAll := wAll_in (i := 42) rfl rfl
theorem m_43 : (Jvm.Cond.classLink "CutBodies" (7 : Nat) "CutBodies$Body") ∈ wAll := wAll_in (i := 43) rfl rfl
theorem m_44 : (Jvm.Cond.instantiable "CutBodies$Body" (10 : Nat)) ∈ wAll := wAll_in (i := 44) rfl rfl
theorem m_45 : (Jvm.Cond.methodLink "CutBodies" (9 : Nat) ({ cls := "CutBodies$Body", name := "<init>", desc := "()V" } : Jvm.MethodName)) ∈ wAll := wAll_in (i := 45) rfl rfl
theorem m_46 : (Jvm.Cond.instanceMethod ({ cls := "CutBodies$Body", name := "<init>", desc := "()V" } : Jvm.MethodName)) ∈ wAll := wAll_in (i := 46) rfl rfl
theorem m_47 : (Jvm.Cond.code ({ cls := "CutBodies$Body", name := "<init>", desc := "()V" } : Jvm.MethodName) prog_2_method_1_code (1 : Nat) (Option.none : Option Jvm.ClassFile.FieldType)) ∈ wAll := wAll_in (i := 47) rfl rfl
theorem m_48 : (Jvm.Cond.methodLink "CutBodies$Body" (3 : Nat) ({ cls := "java/lang/Object", name := "<init>", desc := "()V" } : Jvm.MethodName)) ∈ wAll := wAll_in (i := 48) rfl rfl
theorem m_49 : (Jvm.Cond.fieldLink "CutBodies$Body" (9 : Nat) "CutBodies$Body" "x" "[I") ∈ wAll := wAll_in (i := 49) rfl rfl
theorem m_50 : (Jvm.Cond.fieldLink "CutBodies$Body" (15 : Nat) "CutBodies$Body" "y" "[I") ∈ wAll := wAll_in (i := 50) rfl rfl
theorem m_51 : (Jvm.Cond.fieldLink "CutBodies$Body" (18 : Nat) "CutBodies$Body" "z" "[I") ∈ wAll := wAll_in (i := 51) rfl rfl
theorem m_52 : (Jvm.Cond.fieldLink "CutBodies$Body" (21 : Nat) "CutBodies$Body" "pointCount" "I") ∈ wAll := wAll_in (i := 52) rfl rfl
theorem m_54 : (Jvm.Cond.fieldLink "CutBodies$Body" (25 : Nat) "CutBodies$Body" "a" "[I") ∈ wAll := wAll_in (i := 54) rfl rfl
theorem m_55 : (Jvm.Cond.fieldLink "CutBodies$Body" (28 : Nat) "CutBodies$Body" "b" "[I") ∈ wAll := wAll_in (i := 55) rfl rfl
theorem m_56 : (Jvm.Cond.fieldLink "CutBodies$Body" (31 : Nat) "CutBodies$Body" "c" "[I") ∈ wAll := wAll_in (i := 56) rfl rfl
theorem m_57 : (Jvm.Cond.fieldLink "CutBodies$Body" (34 : Nat) "CutBodies$Body" "d" "[I") ∈ wAll := wAll_in (i := 57) rfl rfl
theorem m_58 : (Jvm.Cond.fieldLink "CutBodies$Body" (37 : Nat) "CutBodies$Body" "planeCount" "I") ∈ wAll := wAll_in (i := 58) rfl rfl
theorem m_60 : (Jvm.Cond.fieldLink "CutBodies$Body" (40 : Nat) "CutBodies$Body" "sides" "[J") ∈ wAll := wAll_in (i := 60) rfl rfl
theorem m_61 : (Jvm.Cond.laysFinal "CutBodies$Body" "CutBodies$Body" "x" "[I") ∈ wAll := wAll_in (i := 61) rfl rfl
theorem m_63 : (Jvm.Cond.laysFinal "CutBodies$Body" "CutBodies$Body" "y" "[I") ∈ wAll := wAll_in (i := 63) rfl rfl
theorem m_65 : (Jvm.Cond.laysFinal "CutBodies$Body" "CutBodies$Body" "z" "[I") ∈ wAll := wAll_in (i := 65) rfl rfl
theorem m_67 : (Jvm.Cond.lays "CutBodies$Body" "CutBodies$Body" "pointCount" "I") ∈ wAll := wAll_in (i := 67) rfl rfl
theorem m_69 : (Jvm.Cond.laysFinal "CutBodies$Body" "CutBodies$Body" "a" "[I") ∈ wAll := wAll_in (i := 69) rfl rfl
theorem m_71 : (Jvm.Cond.laysFinal "CutBodies$Body" "CutBodies$Body" "b" "[I") ∈ wAll := wAll_in (i := 71) rfl rfl
theorem m_73 : (Jvm.Cond.laysFinal "CutBodies$Body" "CutBodies$Body" "c" "[I") ∈ wAll := wAll_in (i := 73) rfl rfl
theorem m_75 : (Jvm.Cond.laysFinal "CutBodies$Body" "CutBodies$Body" "d" "[I") ∈ wAll := wAll_in (i := 75) rfl rfl
theorem m_77 : (Jvm.Cond.lays "CutBodies$Body" "CutBodies$Body" "planeCount" "I") ∈ wAll := wAll_in (i := 77) rfl rfl
theorem m_79 : (Jvm.Cond.laysFinal "CutBodies$Body" "CutBodies$Body" "sides" "[J") ∈ wAll := wAll_in (i := 79) rfl rfl
theorem m_82 : (Jvm.Cond.arrayClass Jvm.ClassFile.FieldType.int) ∈ wAll := wAll_in (i := 82) rfl rfl
theorem m_83 : (Jvm.Cond.arrayClass Jvm.ClassFile.FieldType.long) ∈ wAll := wAll_in (i := 83) rfl rfl
theorem m_84 : (Jvm.Cond.classLink "CutBodies" (24 : Nat) "CutBodies$Contents") ∈ wAll := wAll_in (i := 84) rfl rfl
theorem m_85 : (Jvm.Cond.instantiable "CutBodies$Contents" (2 : Nat)) ∈ wAll := wAll_in (i := 85) rfl rfl
theorem m_86 : (Jvm.Cond.methodLink "CutBodies" (26 : Nat) ({ cls := "CutBodies$Contents", name := "<init>", desc := "()V" } : Jvm.MethodName)) ∈ wAll := wAll_in (i := 86) rfl rfl
theorem m_87 : (Jvm.Cond.instanceMethod ({ cls := "CutBodies$Contents", name := "<init>", desc := "()V" } : Jvm.MethodName)) ∈ wAll := wAll_in (i := 87) rfl rfl
theorem m_88 : (Jvm.Cond.code ({ cls := "CutBodies$Contents", name := "<init>", desc := "()V" } : Jvm.MethodName) prog_3_method_1_code (2 : Nat) (Option.none : Option Jvm.ClassFile.FieldType)) ∈ wAll := wAll_in (i := 88) rfl rfl
theorem m_89 : (Jvm.Cond.methodLink "CutBodies$Contents" (3 : Nat) ({ cls := "java/lang/Object", name := "<init>", desc := "()V" } : Jvm.MethodName)) ∈ wAll := wAll_in (i := 89) rfl rfl
theorem m_90 : (Jvm.Cond.fieldLink "CutBodies$Contents" (9 : Nat) "CutBodies$Contents" "origin" "[I") ∈ wAll := wAll_in (i := 90) rfl rfl
theorem m_92 : (Jvm.Cond.fieldLink "CutBodies$Contents" (15 : Nat) "CutBodies$Contents" "turned" "[I") ∈ wAll := wAll_in (i := 92) rfl rfl
theorem m_94 : (Jvm.Cond.laysFinal "CutBodies$Contents" "CutBodies$Contents" "origin" "[I") ∈ wAll := wAll_in (i := 94) rfl rfl
theorem m_96 : (Jvm.Cond.laysFinal "CutBodies$Contents" "CutBodies$Contents" "turned" "[I") ∈ wAll := wAll_in (i := 96) rfl rfl
theorem m_100 : (Jvm.Cond.fieldLink "CutBodies" (10 : Nat) "CutBodies" "body" "LCutBodies$Body;") ∈ wAll := wAll_in (i := 100) rfl rfl
theorem m_101 : (Jvm.Cond.fieldLink "CutBodies" (16 : Nat) "CutBodies" "steps" "[I") ∈ wAll := wAll_in (i := 101) rfl rfl
theorem m_102 : (Jvm.Cond.fieldLink "CutBodies" (20 : Nat) "CutBodies" "axisCount" "I") ∈ wAll := wAll_in (i := 102) rfl rfl
theorem m_103 : (Jvm.Cond.fieldLink "CutBodies" (27 : Nat) "CutBodies" "now" "LCutBodies$Contents;") ∈ wAll := wAll_in (i := 103) rfl rfl
theorem m_104 : (Jvm.Cond.fieldLink "CutBodies" (31 : Nat) "CutBodies" "row" "LCutBodies$Contents;") ∈ wAll := wAll_in (i := 104) rfl rfl
theorem m_105 : (Jvm.Cond.fieldLink "CutBodies" (34 : Nat) "CutBodies" "spare" "LCutBodies$Contents;") ∈ wAll := wAll_in (i := 105) rfl rfl
theorem m_106 : (Jvm.Cond.fieldLink "CutBodies" (37 : Nat) "CutBodies" "targets" "[I") ∈ wAll := wAll_in (i := 106) rfl rfl
theorem m_107 : (Jvm.Cond.fieldLink "CutBodies" (40 : Nat) "CutBodies" "kept" "[LCutBodies$Contents;") ∈ wAll := wAll_in (i := 107) rfl rfl
theorem m_108 : (Jvm.Cond.fieldLink "CutBodies" (44 : Nat) "CutBodies" "keptPoints" "[I") ∈ wAll := wAll_in (i := 108) rfl rfl
theorem m_109 : (Jvm.Cond.fieldLink "CutBodies" (47 : Nat) "CutBodies" "keptCount" "I") ∈ wAll := wAll_in (i := 109) rfl rfl
theorem m_110 : (Jvm.Cond.laysFinal "CutBodies" "CutBodies" "body" "LCutBodies$Body;") ∈ wAll := wAll_in (i := 110) rfl rfl
theorem m_112 : (Jvm.Cond.laysFinal "CutBodies" "CutBodies" "steps" "[I") ∈ wAll := wAll_in (i := 112) rfl rfl
theorem m_114 : (Jvm.Cond.lays "CutBodies" "CutBodies" "axisCount" "I") ∈ wAll := wAll_in (i := 114) rfl rfl
theorem m_116 : (Jvm.Cond.laysFinal "CutBodies" "CutBodies" "now" "LCutBodies$Contents;") ∈ wAll := wAll_in (i := 116) rfl rfl
theorem m_118 : (Jvm.Cond.laysFinal "CutBodies" "CutBodies" "row" "LCutBodies$Contents;") ∈ wAll := wAll_in (i := 118) rfl rfl
theorem m_120 : (Jvm.Cond.laysFinal "CutBodies" "CutBodies" "spare" "LCutBodies$Contents;") ∈ wAll := wAll_in (i := 120) rfl rfl
theorem m_122 : (Jvm.Cond.laysFinal "CutBodies" "CutBodies" "targets" "[I") ∈ wAll := wAll_in (i := 122) rfl rfl
theorem m_124 : (Jvm.Cond.laysFinal "CutBodies" "CutBodies" "kept" "[LCutBodies$Contents;") ∈ wAll := wAll_in (i := 124) rfl rfl
theorem m_126 : (Jvm.Cond.laysFinal "CutBodies" "CutBodies" "keptPoints" "[I") ∈ wAll := wAll_in (i := 126) rfl rfl
theorem m_128 : (Jvm.Cond.lays "CutBodies" "CutBodies" "keptCount" "I") ∈ wAll := wAll_in (i := 128) rfl rfl
theorem m_135 : (Jvm.Cond.methodLink "CutBodies" (50 : Nat) ({ cls := "CutBodies$Body", name := "addPoint", desc := "(III)I" } : Jvm.MethodName)) ∈ wAll := wAll_in (i := 135) rfl rfl
theorem m_136 : (Jvm.Cond.instanceMethod ({ cls := "CutBodies$Body", name := "addPoint", desc := "(III)I" } : Jvm.MethodName)) ∈ wAll := wAll_in (i := 136) rfl rfl
theorem m_137 : (Jvm.Cond.selects "CutBodies$Body" ({ cls := "CutBodies$Body", name := "addPoint", desc := "(III)I" } : Jvm.MethodName) ({ cls := "CutBodies$Body", name := "addPoint", desc := "(III)I" } : Jvm.MethodName)) ∈ wAll := wAll_in (i := 137) rfl rfl
theorem m_138 : (Jvm.Cond.code ({ cls := "CutBodies$Body", name := "addPoint", desc := "(III)I" } : Jvm.MethodName) prog_2_method_4_code (6 : Nat) (Option.some Jvm.ClassFile.FieldType.int)) ∈ wAll := wAll_in (i := 138) rfl rfl
theorem m_140 : (Jvm.Cond.static ({ cls := "CutBodies", name := "isWithin", desc := "(II)Z" } : Jvm.MethodName)) ∈ wAll := wAll_in (i := 140) rfl rfl
theorem m_141 : (Jvm.Cond.code ({ cls := "CutBodies", name := "isWithin", desc := "(II)Z" } : Jvm.MethodName) prog_1_method_21_code (2 : Nat) (Option.some Jvm.ClassFile.FieldType.boolean)) ∈ wAll := wAll_in (i := 141) rfl rfl
theorem m_142 : (Jvm.Cond.methodLink "CutBodies$Body" (48 : Nat) ({ cls := "CutBodies$Body", name := "pointAt", desc := "(III)I" } : Jvm.MethodName)) ∈ wAll := wAll_in (i := 142) rfl rfl
theorem m_143 : (Jvm.Cond.instanceMethod ({ cls := "CutBodies$Body", name := "pointAt", desc := "(III)I" } : Jvm.MethodName)) ∈ wAll := wAll_in (i := 143) rfl rfl
theorem m_144 : (Jvm.Cond.selects "CutBodies$Body" ({ cls := "CutBodies$Body", name := "pointAt", desc := "(III)I" } : Jvm.MethodName) ({ cls := "CutBodies$Body", name := "pointAt", desc := "(III)I" } : Jvm.MethodName)) ∈ wAll := wAll_in (i := 144) rfl rfl
theorem m_145 : (Jvm.Cond.code ({ cls := "CutBodies$Body", name := "pointAt", desc := "(III)I" } : Jvm.MethodName) prog_2_method_8_code (5 : Nat) (Option.some Jvm.ClassFile.FieldType.int)) ∈ wAll := wAll_in (i := 145) rfl rfl
theorem m_146 : (Jvm.Cond.methodLink "CutBodies$Body" (52 : Nat) ({ cls := "CutBodies$Body", name := "noteSide", desc := "(II)V" } : Jvm.MethodName)) ∈ wAll := wAll_in (i := 146) rfl rfl
theorem m_148 : (Jvm.Cond.instanceMethod ({ cls := "CutBodies$Body", name := "noteSide", desc := "(II)V" } : Jvm.MethodName)) ∈ wAll := wAll_in (i := 148) rfl rfl
theorem m_149 : (Jvm.Cond.code ({ cls := "CutBodies$Body", name := "noteSide", desc := "(II)V" } : Jvm.MethodName) prog_2_method_6_code (6 : Nat) (Option.none : Option Jvm.ClassFile.FieldType)) ∈ wAll := wAll_in (i := 149) rfl rfl
theorem m_150 : (Jvm.Cond.constantLong "CutBodies$Body" (56 : Nat) (2 : Int64)) ∈ wAll := wAll_in (i := 150) rfl rfl
theorem m_151 : (Jvm.Cond.methodLink "CutBodies" (54 : Nat) ({ cls := "CutBodies$Contents", name := "putAllHome", desc := "()V" } : Jvm.MethodName)) ∈ wAll := wAll_in (i := 151) rfl rfl
theorem m_152 : (Jvm.Cond.instanceMethod ({ cls := "CutBodies$Contents", name := "putAllHome", desc := "()V" } : Jvm.MethodName)) ∈ wAll := wAll_in (i := 152) rfl rfl
theorem m_153 : (Jvm.Cond.selects "CutBodies$Contents" ({ cls := "CutBodies$Contents", name := "putAllHome", desc := "()V" } : Jvm.MethodName) ({ cls := "CutBodies$Contents", name := "putAllHome", desc := "()V" } : Jvm.MethodName)) ∈ wAll := wAll_in (i := 153) rfl rfl
theorem m_154 : (Jvm.Cond.code ({ cls := "CutBodies$Contents", name := "putAllHome", desc := "()V" } : Jvm.MethodName) prog_3_method_2_code (2 : Nat) (Option.none : Option Jvm.ClassFile.FieldType)) ∈ wAll := wAll_in (i := 154) rfl rfl
theorem m_155 : (Jvm.Cond.methodLink "CutBodies$Contents" (18 : Nat) ({ cls := "java/util/Arrays", name := "fill", desc := "([II)V" } : Jvm.MethodName)) ∈ wAll := wAll_in (i := 155) rfl rfl
theorem m_156 : (Jvm.Cond.static ({ cls := "java/util/Arrays", name := "fill", desc := "([II)V" } : Jvm.MethodName)) ∈ wAll := wAll_in (i := 156) rfl rfl
theorem m_157 : (Jvm.Cond.code ({ cls := "java/util/Arrays", name := "fill", desc := "([II)V" } : Jvm.MethodName) prog_8_method_103_code (4 : Nat) (Option.none : Option Jvm.ClassFile.FieldType)) ∈ wAll := wAll_in (i := 157) rfl rfl
theorem m_166 : (Jvm.Cond.methodLink "CutBodies" (57 : Nat) ({ cls := "CutBodies$Body", name := "addPlane", desc := "(IIII)I" } : Jvm.MethodName)) ∈ wAll := wAll_in (i := 166) rfl rfl
theorem m_167 : (Jvm.Cond.instanceMethod ({ cls := "CutBodies$Body", name := "addPlane", desc := "(IIII)I" } : Jvm.MethodName)) ∈ wAll := wAll_in (i := 167) rfl rfl
theorem m_168 : (Jvm.Cond.selects "CutBodies$Body" ({ cls := "CutBodies$Body", name := "addPlane", desc := "(IIII)I" } : Jvm.MethodName) ({ cls := "CutBodies$Body", name := "addPlane", desc := "(IIII)I" } : Jvm.MethodName)) ∈ wAll := wAll_in (i := 168) rfl rfl
theorem m_169 : (Jvm.Cond.code ({ cls := "CutBodies$Body", name := "addPlane", desc := "(IIII)I" } : Jvm.MethodName) prog_2_method_5_code (7 : Nat) (Option.some Jvm.ClassFile.FieldType.int)) ∈ wAll := wAll_in (i := 169) rfl rfl
theorem m_174 : (Jvm.Cond.methodLink "CutBodies" (61 : Nat) ({ cls := "CutBodies", name := "isWithin", desc := "(II)Z" } : Jvm.MethodName)) ∈ wAll := wAll_in (i := 174) rfl rfl
theorem m_175 : (Jvm.Cond.methodLink "CutBodies" (65 : Nat) ({ cls := "CutBodies$Ways", name := "stepAbout", desc := "(III)I" } : Jvm.MethodName)) ∈ wAll := wAll_in (i := 175) rfl rfl
theorem m_176 : (Jvm.Cond.static ({ cls := "CutBodies$Ways", name := "stepAbout", desc := "(III)I" } : Jvm.MethodName)) ∈ wAll := wAll_in (i := 176) rfl rfl
theorem m_177 : (Jvm.Cond.code ({ cls := "CutBodies$Ways", name := "stepAbout", desc := "(III)I" } : Jvm.MethodName) prog_4_method_11_code (8 : Nat) (Option.some Jvm.ClassFile.FieldType.int)) ∈ wAll := wAll_in (i := 177) rfl rfl
theorem m_178 : (Jvm.Cond.methodLink "CutBodies$Ways" (33 : Nat) ({ cls := "CutBodies$Ways", name := "directionOf", desc := "(III)I" } : Jvm.MethodName)) ∈ wAll := wAll_in (i := 178) rfl rfl
theorem m_179 : (Jvm.Cond.static ({ cls := "CutBodies$Ways", name := "directionOf", desc := "(III)I" } : Jvm.MethodName)) ∈ wAll := wAll_in (i := 179) rfl rfl
theorem m_180 : (Jvm.Cond.code ({ cls := "CutBodies$Ways", name := "directionOf", desc := "(III)I" } : Jvm.MethodName) prog_4_method_12_code (3 : Nat) (Option.some Jvm.ClassFile.FieldType.int)) ∈ wAll := wAll_in (i := 180) rfl rfl
theorem m_181 : (Jvm.Cond.methodLink "CutBodies$Ways" (23 : Nat) ({ cls := "CutBodies$Ways", name := "numberOf", desc := "(II)I" } : Jvm.MethodName)) ∈ wAll := wAll_in (i := 181) rfl rfl
theorem m_182 : (Jvm.Cond.static ({ cls := "CutBodies$Ways", name := "numberOf", desc := "(II)I" } : Jvm.MethodName)) ∈ wAll := wAll_in (i := 182) rfl rfl
theorem m_183 : (Jvm.Cond.code ({ cls := "CutBodies$Ways", name := "numberOf", desc := "(II)I" } : Jvm.MethodName) prog_4_method_5_code (2 : Nat) (Option.some Jvm.ClassFile.FieldType.int)) ∈ wAll := wAll_in (i := 183) rfl rfl
theorem m_188 : (Jvm.Cond.methodLink "CutBodies" (70 : Nat) ({ cls := "CutBodies", name := "hasAxis", desc := "(I)Z" } : Jvm.MethodName)) ∈ wAll := wAll_in (i := 188) rfl rfl
theorem m_190 : (Jvm.Cond.instanceMethod ({ cls := "CutBodies", name := "hasAxis", desc := "(I)Z" } : Jvm.MethodName)) ∈ wAll := wAll_in (i := 190) rfl rfl
theorem m_191 : (Jvm.Cond.code ({ cls := "CutBodies", name := "hasAxis", desc := "(I)Z" } : Jvm.MethodName) prog_1_method_20_code (2 : Nat) (Option.some Jvm.ClassFile.FieldType.boolean)) ∈ wAll := wAll_in (i := 191) rfl rfl
theorem m_192 : (Jvm.Cond.methodLink "CutBodies" (74 : Nat) ({ cls := "CutBodies$Ways", name := "orderOf", desc := "(I)I" } : Jvm.MethodName)) ∈ wAll := wAll_in (i := 192) rfl rfl
theorem m_193 : (Jvm.Cond.static ({ cls := "CutBodies$Ways", name := "orderOf", desc := "(I)I" } : Jvm.MethodName)) ∈ wAll := wAll_in (i := 193) rfl rfl
theorem m_194 : (Jvm.Cond.code ({ cls := "CutBodies$Ways", name := "orderOf", desc := "(I)I" } : Jvm.MethodName) prog_4_method_8_code (3 : Nat) (Option.some Jvm.ClassFile.FieldType.int)) ∈ wAll := wAll_in (i := 194) rfl rfl
theorem m_195 : (Jvm.Cond.methodLink "CutBodies$Ways" (26 : Nat) ({ cls := "CutBodies$Ways", name := "compose", desc := "(II)I" } : Jvm.MethodName)) ∈ wAll := wAll_in (i := 195) rfl rfl
theorem m_196 : (Jvm.Cond.static ({ cls := "CutBodies$Ways", name := "compose", desc := "(II)I" } : Jvm.MethodName)) ∈ wAll := wAll_in (i := 196) rfl rfl
theorem m_197 : (Jvm.Cond.code ({ cls := "CutBodies$Ways", name := "compose", desc := "(II)I" } : Jvm.MethodName) prog_4_method_7_code (2 : Nat) (Option.some Jvm.ClassFile.FieldType.int)) ∈ wAll := wAll_in (i := 197) rfl rfl
theorem m_198 : (Jvm.Cond.methodLink "CutBodies$Ways" (7 : Nat) ({ cls := "CutBodies$Ways", name := "xGoesTo", desc := "(I)I" } : Jvm.MethodName)) ∈ wAll := wAll_in (i := 198) rfl rfl
theorem m_199 : (Jvm.Cond.static ({ cls := "CutBodies$Ways", name := "xGoesTo", desc := "(I)I" } : Jvm.MethodName)) ∈ wAll := wAll_in (i := 199) rfl rfl
theorem m_200 : (Jvm.Cond.code ({ cls := "CutBodies$Ways", name := "xGoesTo", desc := "(I)I" } : Jvm.MethodName) prog_4_method_2_code (1 : Nat) (Option.some Jvm.ClassFile.FieldType.int)) ∈ wAll := wAll_in (i := 200) rfl rfl
theorem m_201 : (Jvm.Cond.methodLink "CutBodies$Ways" (20 : Nat) ({ cls := "CutBodies$Ways", name := "directionTo", desc := "(II)I" } : Jvm.MethodName)) ∈ wAll := wAll_in (i := 201) rfl rfl
theorem m_202 : (Jvm.Cond.static ({ cls := "CutBodies$Ways", name := "directionTo", desc := "(II)I" } : Jvm.MethodName)) ∈ wAll := wAll_in (i := 202) rfl rfl
theorem m_203 : (Jvm.Cond.code ({ cls := "CutBodies$Ways", name := "directionTo", desc := "(II)I" } : Jvm.MethodName) prog_4_method_6_code (6 : Nat) (Option.some Jvm.ClassFile.FieldType.int)) ∈ wAll := wAll_in (i := 203) rfl rfl
theorem m_204 : (Jvm.Cond.methodLink "CutBodies$Ways" (13 : Nat) ({ cls := "CutBodies$Ways", name := "yGoesTo", desc := "(I)I" } : Jvm.MethodName)) ∈ wAll := wAll_in (i := 204) rfl rfl
theorem m_205 : (Jvm.Cond.static ({ cls := "CutBodies$Ways", name := "yGoesTo", desc := "(I)I" } : Jvm.MethodName)) ∈ wAll := wAll_in (i := 205) rfl rfl
theorem m_206 : (Jvm.Cond.code ({ cls := "CutBodies$Ways", name := "yGoesTo", desc := "(I)I" } : Jvm.MethodName) prog_4_method_3_code (3 : Nat) (Option.some Jvm.ClassFile.FieldType.int)) ∈ wAll := wAll_in (i := 206) rfl rfl
theorem m_207 : (Jvm.Cond.methodLink "CutBodies$Ways" (16 : Nat) ({ cls := "CutBodies$Ways", name := "across", desc := "(II)I" } : Jvm.MethodName)) ∈ wAll := wAll_in (i := 207) rfl rfl
theorem m_208 : (Jvm.Cond.static ({ cls := "CutBodies$Ways", name := "across", desc := "(II)I" } : Jvm.MethodName)) ∈ wAll := wAll_in (i := 208) rfl rfl
theorem m_209 : (Jvm.Cond.code ({ cls := "CutBodies$Ways", name := "across", desc := "(II)I" } : Jvm.MethodName) prog_4_method_4_code (4 : Nat) (Option.some Jvm.ClassFile.FieldType.int)) ∈ wAll := wAll_in (i := 209) rfl rfl
theorem m_214 : (Jvm.Cond.methodLink "CutBodies" (78 : Nat) ({ cls := "CutBodies$Body", name := "hasPoint", desc := "(I)Z" } : Jvm.MethodName)) ∈ wAll := wAll_in (i := 214) rfl rfl
theorem m_215 : (Jvm.Cond.instanceMethod ({ cls := "CutBodies$Body", name := "hasPoint", desc := "(I)Z" } : Jvm.MethodName)) ∈ wAll := wAll_in (i := 215) rfl rfl
theorem m_216 : (Jvm.Cond.selects "CutBodies$Body" ({ cls := "CutBodies$Body", name := "hasPoint", desc := "(I)Z" } : Jvm.MethodName) ({ cls := "CutBodies$Body", name := "hasPoint", desc := "(I)Z" } : Jvm.MethodName)) ∈ wAll := wAll_in (i := 216) rfl rfl
theorem m_217 : (Jvm.Cond.code ({ cls := "CutBodies$Body", name := "hasPoint", desc := "(I)Z" } : Jvm.MethodName) prog_2_method_2_code (2 : Nat) (Option.some Jvm.ClassFile.FieldType.boolean)) ∈ wAll := wAll_in (i := 217) rfl rfl
theorem m_218 : (Jvm.Cond.methodLink "CutBodies" (81 : Nat) ({ cls := "CutBodies$Body", name := "hasPlane", desc := "(I)Z" } : Jvm.MethodName)) ∈ wAll := wAll_in (i := 218) rfl rfl
theorem m_219 : (Jvm.Cond.instanceMethod ({ cls := "CutBodies$Body", name := "hasPlane", desc := "(I)Z" } : Jvm.MethodName)) ∈ wAll := wAll_in (i := 219) rfl rfl
theorem m_220 : (Jvm.Cond.selects "CutBodies$Body" ({ cls := "CutBodies$Body", name := "hasPlane", desc := "(I)Z" } : Jvm.MethodName) ({ cls := "CutBodies$Body", name := "hasPlane", desc := "(I)Z" } : Jvm.MethodName)) ∈ wAll := wAll_in (i := 220) rfl rfl
theorem m_221 : (Jvm.Cond.code ({ cls := "CutBodies$Body", name := "hasPlane", desc := "(I)Z" } : Jvm.MethodName) prog_2_method_3_code (2 : Nat) (Option.some Jvm.ClassFile.FieldType.boolean)) ∈ wAll := wAll_in (i := 221) rfl rfl
theorem m_222 : (Jvm.Cond.methodLink "CutBodies" (84 : Nat) ({ cls := "CutBodies$Body", name := "sideOf", desc := "(II)I" } : Jvm.MethodName)) ∈ wAll := wAll_in (i := 222) rfl rfl
theorem m_223 : (Jvm.Cond.instanceMethod ({ cls := "CutBodies$Body", name := "sideOf", desc := "(II)I" } : Jvm.MethodName)) ∈ wAll := wAll_in (i := 223) rfl rfl
theorem m_224 : (Jvm.Cond.selects "CutBodies$Body" ({ cls := "CutBodies$Body", name := "sideOf", desc := "(II)I" } : Jvm.MethodName) ({ cls := "CutBodies$Body", name := "sideOf", desc := "(II)I" } : Jvm.MethodName)) ∈ wAll := wAll_in (i := 224) rfl rfl
theorem m_225 : (Jvm.Cond.code ({ cls := "CutBodies$Body", name := "sideOf", desc := "(II)I" } : Jvm.MethodName) prog_2_method_7_code (3 : Nat) (Option.some Jvm.ClassFile.FieldType.int)) ∈ wAll := wAll_in (i := 225) rfl rfl
theorem m_226 : (Jvm.Cond.constantLong "CutBodies$Body" (58 : Nat) (3 : Int64)) ∈ wAll := wAll_in (i := 226) rfl rfl
theorem m_231 : (Jvm.Cond.methodLink "CutBodies" (91 : Nat) ({ cls := "CutBodies$Body", name := "piecesBefore", desc := "(I)I" } : Jvm.MethodName)) ∈ wAll := wAll_in (i := 231) rfl rfl
theorem m_232 : (Jvm.Cond.instanceMethod ({ cls := "CutBodies$Body", name := "piecesBefore", desc := "(I)I" } : Jvm.MethodName)) ∈ wAll := wAll_in (i := 232) rfl rfl
theorem m_233 : (Jvm.Cond.selects "CutBodies$Body" ({ cls := "CutBodies$Body", name := "piecesBefore", desc := "(I)I" } : Jvm.MethodName) ({ cls := "CutBodies$Body", name := "piecesBefore", desc := "(I)I" } : Jvm.MethodName)) ∈ wAll := wAll_in (i := 233) rfl rfl
theorem m_234 : (Jvm.Cond.code ({ cls := "CutBodies$Body", name := "piecesBefore", desc := "(I)I" } : Jvm.MethodName) prog_2_method_11_code (4 : Nat) (Option.some Jvm.ClassFile.FieldType.int)) ∈ wAll := wAll_in (i := 234) rfl rfl
theorem m_235 : (Jvm.Cond.methodLink "CutBodies$Body" (66 : Nat) ({ cls := "CutBodies$Body", name := "leastAlike", desc := "(I)I" } : Jvm.MethodName)) ∈ wAll := wAll_in (i := 235) rfl rfl
theorem m_236 : (Jvm.Cond.instanceMethod ({ cls := "CutBodies$Body", name := "leastAlike", desc := "(I)I" } : Jvm.MethodName)) ∈ wAll := wAll_in (i := 236) rfl rfl
theorem m_237 : (Jvm.Cond.selects "CutBodies$Body" ({ cls := "CutBodies$Body", name := "leastAlike", desc := "(I)I" } : Jvm.MethodName) ({ cls := "CutBodies$Body", name := "leastAlike", desc := "(I)I" } : Jvm.MethodName)) ∈ wAll := wAll_in (i := 237) rfl rfl
theorem m_238 : (Jvm.Cond.code ({ cls := "CutBodies$Body", name := "leastAlike", desc := "(I)I" } : Jvm.MethodName) prog_2_method_10_code (3 : Nat) (Option.some Jvm.ClassFile.FieldType.int)) ∈ wAll := wAll_in (i := 238) rfl rfl
theorem m_243 : (Jvm.Cond.methodLink "CutBodies" (94 : Nat) ({ cls := "CutBodies$Body", name := "leastAlike", desc := "(I)I" } : Jvm.MethodName)) ∈ wAll := wAll_in (i := 243) rfl rfl
theorem m_248 : (Jvm.Cond.methodLink "CutBodies" (97 : Nat) ({ cls := "CutBodies$Body", name := "imageOf", desc := "(II)I" } : Jvm.MethodName)) ∈ wAll := wAll_in (i := 248) rfl rfl
theorem m_249 : (Jvm.Cond.instanceMethod ({ cls := "CutBodies$Body", name := "imageOf", desc := "(II)I" } : Jvm.MethodName)) ∈ wAll := wAll_in (i := 249) rfl rfl
theorem m_250 : (Jvm.Cond.selects "CutBodies$Body" ({ cls := "CutBodies$Body", name := "imageOf", desc := "(II)I" } : Jvm.MethodName) ({ cls := "CutBodies$Body", name := "imageOf", desc := "(II)I" } : Jvm.MethodName)) ∈ wAll := wAll_in (i := 250) rfl rfl
set_option maxRecDepth 20000 in
theorem m_251 : (Jvm.Cond.code ({ cls := "CutBodies$Body", name := "imageOf", desc := "(II)I" } : Jvm.MethodName) prog_2_method_9_code (6 : Nat) (Option.some Jvm.ClassFile.FieldType.int)) ∈ wAll := wAll_in (i := 251) rfl rfl
set_option maxRecDepth 20000 in
theorem m_252 : (Jvm.Cond.methodLink "CutBodies$Body" (60 : Nat) ({ cls := "CutBodies$Ways", name := "coordinate", desc := "(IIIII)I" } : Jvm.MethodName)) ∈ wAll := wAll_in (i := 252) rfl rfl
set_option maxRecDepth 20000 in
theorem m_253 : (Jvm.Cond.static ({ cls := "CutBodies$Ways", name := "coordinate", desc := "(IIIII)I" } : Jvm.MethodName)) ∈ wAll := wAll_in (i := 253) rfl rfl
set_option maxRecDepth 20000 in
theorem m_254 : (Jvm.Cond.code ({ cls := "CutBodies$Ways", name := "coordinate", desc := "(IIIII)I" } : Jvm.MethodName) prog_4_method_9_code (7 : Nat) (Option.some Jvm.ClassFile.FieldType.int)) ∈ wAll := wAll_in (i := 254) rfl rfl
set_option maxRecDepth 20000 in
theorem m_255 : (Jvm.Cond.methodLink "CutBodies$Ways" (29 : Nat) ({ cls := "CutBodies$Ways", name := "part", desc := "(III)I" } : Jvm.MethodName)) ∈ wAll := wAll_in (i := 255) rfl rfl
set_option maxRecDepth 20000 in
theorem m_256 : (Jvm.Cond.static ({ cls := "CutBodies$Ways", name := "part", desc := "(III)I" } : Jvm.MethodName)) ∈ wAll := wAll_in (i := 256) rfl rfl
set_option maxRecDepth 20000 in
theorem m_257 : (Jvm.Cond.code ({ cls := "CutBodies$Ways", name := "part", desc := "(III)I" } : Jvm.MethodName) prog_4_method_10_code (3 : Nat) (Option.some Jvm.ClassFile.FieldType.int)) ∈ wAll := wAll_in (i := 257) rfl rfl
set_option maxRecDepth 20000 in
theorem m_262 : (Jvm.Cond.methodLink "CutBodies" (100 : Nat) ({ cls := "CutBodies", name := "findTargets", desc := "(II)I" } : Jvm.MethodName)) ∈ wAll := wAll_in (i := 262) rfl rfl
set_option maxRecDepth 20000 in
theorem m_264 : (Jvm.Cond.instanceMethod ({ cls := "CutBodies", name := "findTargets", desc := "(II)I" } : Jvm.MethodName)) ∈ wAll := wAll_in (i := 264) rfl rfl
set_option maxRecDepth 20000 in
theorem m_265 : (Jvm.Cond.code ({ cls := "CutBodies", name := "findTargets", desc := "(II)I" } : Jvm.MethodName) prog_1_method_22_code (5 : Nat) (Option.some Jvm.ClassFile.FieldType.int)) ∈ wAll := wAll_in (i := 265) rfl rfl
set_option maxRecDepth 20000 in
theorem m_266 : (Jvm.Cond.methodLink "CutBodies" (103 : Nat) ({ cls := "CutBodies", name := "turnByTargets", desc := "(LCutBodies$Contents;I)V" } : Jvm.MethodName)) ∈ wAll := wAll_in (i := 266) rfl rfl
set_option maxRecDepth 20000 in
theorem m_268 : (Jvm.Cond.instanceMethod ({ cls := "CutBodies", name := "turnByTargets", desc := "(LCutBodies$Contents;I)V" } : Jvm.MethodName)) ∈ wAll := wAll_in (i := 268) rfl rfl
set_option maxRecDepth 20000 in
theorem m_269 : (Jvm.Cond.code ({ cls := "CutBodies", name := "turnByTargets", desc := "(LCutBodies$Contents;I)V" } : Jvm.MethodName) prog_1_method_23_code (5 : Nat) (Option.none : Option Jvm.ClassFile.FieldType)) ∈ wAll := wAll_in (i := 269) rfl rfl
set_option maxRecDepth 20000 in
theorem m_270 : (Jvm.Cond.methodLink "CutBodies" (126 : Nat) ({ cls := "CutBodies$Contents", name := "copyFrom", desc := "(LCutBodies$Contents;)V" } : Jvm.MethodName)) ∈ wAll := wAll_in (i := 270) rfl rfl
set_option maxRecDepth 20000 in
theorem m_271 : (Jvm.Cond.instanceMethod ({ cls := "CutBodies$Contents", name := "copyFrom", desc := "(LCutBodies$Contents;)V" } : Jvm.MethodName)) ∈ wAll := wAll_in (i := 271) rfl rfl
set_option maxRecDepth 20000 in
theorem m_272 : (Jvm.Cond.selects "CutBodies$Contents" ({ cls := "CutBodies$Contents", name := "copyFrom", desc := "(LCutBodies$Contents;)V" } : Jvm.MethodName) ({ cls := "CutBodies$Contents", name := "copyFrom", desc := "(LCutBodies$Contents;)V" } : Jvm.MethodName)) ∈ wAll := wAll_in (i := 272) rfl rfl
set_option maxRecDepth 20000 in
theorem m_273 : (Jvm.Cond.code ({ cls := "CutBodies$Contents", name := "copyFrom", desc := "(LCutBodies$Contents;)V" } : Jvm.MethodName) prog_3_method_3_code (2 : Nat) (Option.none : Option Jvm.ClassFile.FieldType)) ∈ wAll := wAll_in (i := 273) rfl rfl
set_option maxRecDepth 20000 in
theorem m_274 : (Jvm.Cond.methodLink "CutBodies$Contents" (24 : Nat) ({ cls := "java/lang/System", name := "arraycopy", desc := "(Ljava/lang/Object;ILjava/lang/Object;II)V" } : Jvm.MethodName)) ∈ wAll := wAll_in (i := 274) rfl rfl
set_option maxRecDepth 20000 in
theorem m_275 : (Jvm.Cond.static ({ cls := "java/lang/System", name := "arraycopy", desc := "(Ljava/lang/Object;ILjava/lang/Object;II)V" } : Jvm.MethodName)) ∈ wAll := wAll_in (i := 275) rfl rfl
set_option maxRecDepth 20000 in
theorem m_276 : (Jvm.Cond.native ({ cls := "java/lang/System", name := "arraycopy", desc := "(Ljava/lang/Object;ILjava/lang/Object;II)V" } : Jvm.MethodName)) ∈ wAll := wAll_in (i := 276) rfl rfl
set_option maxRecDepth 20000 in
theorem m_277 : (Jvm.Cond.methodLink "CutBodies" (130 : Nat) ({ cls := "CutBodies$Ways", name := "compose", desc := "(II)I" } : Jvm.MethodName)) ∈ wAll := wAll_in (i := 277) rfl rfl
set_option maxRecDepth 20000 in
theorem m_294 : (Jvm.Cond.methodLink "CutBodies" (113 : Nat) ({ cls := "CutBodies$Body", name := "takesPointsToPoints", desc := "(I)Z" } : Jvm.MethodName)) ∈ wAll := wAll_in (i := 294) rfl rfl
set_option maxRecDepth 20000 in
theorem m_295 : (Jvm.Cond.instanceMethod ({ cls := "CutBodies$Body", name := "takesPointsToPoints", desc := "(I)Z" } : Jvm.MethodName)) ∈ wAll := wAll_in (i := 295) rfl rfl
set_option maxRecDepth 20000 in
theorem m_296 : (Jvm.Cond.selects "CutBodies$Body" ({ cls := "CutBodies$Body", name := "takesPointsToPoints", desc := "(I)Z" } : Jvm.MethodName) ({ cls := "CutBodies$Body", name := "takesPointsToPoints", desc := "(I)Z" } : Jvm.MethodName)) ∈ wAll := wAll_in (i := 296) rfl rfl
set_option maxRecDepth 20000 in
theorem m_297 : (Jvm.Cond.code ({ cls := "CutBodies$Body", name := "takesPointsToPoints", desc := "(I)Z" } : Jvm.MethodName) prog_2_method_12_code (3 : Nat) (Option.some Jvm.ClassFile.FieldType.boolean)) ∈ wAll := wAll_in (i := 297) rfl rfl
set_option maxRecDepth 20000 in
theorem m_298 : (Jvm.Cond.methodLink "CutBodies$Body" (70 : Nat) ({ cls := "CutBodies$Body", name := "imageOf", desc := "(II)I" } : Jvm.MethodName)) ∈ wAll := wAll_in (i := 298) rfl rfl
set_option maxRecDepth 20000 in
theorem m_299 : (Jvm.Cond.methodLink "CutBodies" (116 : Nat) ({ cls := "CutBodies$Body", name := "takesPlanesToPlanes", desc := "(I)Z" } : Jvm.MethodName)) ∈ wAll := wAll_in (i := 299) rfl rfl
set_option maxRecDepth 20000 in
theorem m_300 : (Jvm.Cond.instanceMethod ({ cls := "CutBodies$Body", name := "takesPlanesToPlanes", desc := "(I)Z" } : Jvm.MethodName)) ∈ wAll := wAll_in (i := 300) rfl rfl
set_option maxRecDepth 20000 in
theorem m_301 : (Jvm.Cond.selects "CutBodies$Body" ({ cls := "CutBodies$Body", name := "takesPlanesToPlanes", desc := "(I)Z" } : Jvm.MethodName) ({ cls := "CutBodies$Body", name := "takesPlanesToPlanes", desc := "(I)Z" } : Jvm.MethodName)) ∈ wAll := wAll_in (i := 301) rfl rfl
set_option maxRecDepth 20000 in
theorem m_302 : (Jvm.Cond.code ({ cls := "CutBodies$Body", name := "takesPlanesToPlanes", desc := "(I)Z" } : Jvm.MethodName) prog_2_method_13_code (6 : Nat) (Option.some Jvm.ClassFile.FieldType.boolean)) ∈ wAll := wAll_in (i := 302) rfl rfl
set_option maxRecDepth 20000 in
theorem m_303 : (Jvm.Cond.methodLink "CutBodies$Body" (74 : Nat) ({ cls := "CutBodies$Body", name := "hasPlaneWhere", desc := "(IIII)Z" } : Jvm.MethodName)) ∈ wAll := wAll_in (i := 303) rfl rfl
set_option maxRecDepth 20000 in
theorem m_305 : (Jvm.Cond.instanceMethod ({ cls := "CutBodies$Body", name := "hasPlaneWhere", desc := "(IIII)Z" } : Jvm.MethodName)) ∈ wAll := wAll_in (i := 305) rfl rfl
set_option maxRecDepth 20000 in
theorem m_306 : (Jvm.Cond.code ({ cls := "CutBodies$Body", name := "hasPlaneWhere", desc := "(IIII)Z" } : Jvm.MethodName) prog_2_method_14_code (6 : Nat) (Option.some Jvm.ClassFile.FieldType.boolean)) ∈ wAll := wAll_in (i := 306) rfl rfl
set_option maxRecDepth 20000 in
theorem m_307 : (Jvm.Cond.methodLink "CutBodies$Body" (78 : Nat) ({ cls := "CutBodies$Body", name := "isSamePlane", desc := "(IIIII)Z" } : Jvm.MethodName)) ∈ wAll := wAll_in (i := 307) rfl rfl
set_option maxRecDepth 20000 in
theorem m_309 : (Jvm.Cond.instanceMethod ({ cls := "CutBodies$Body", name := "isSamePlane", desc := "(IIIII)Z" } : Jvm.MethodName)) ∈ wAll := wAll_in (i := 309) rfl rfl
set_option maxRecDepth 20000 in
theorem m_310 : (Jvm.Cond.code ({ cls := "CutBodies$Body", name := "isSamePlane", desc := "(IIIII)Z" } : Jvm.MethodName) prog_2_method_15_code (6 : Nat) (Option.some Jvm.ClassFile.FieldType.boolean)) ∈ wAll := wAll_in (i := 310) rfl rfl
set_option maxRecDepth 20000 in
theorem m_319 : (Jvm.Cond.methodLink "CutBodies" (122 : Nat) ({ cls := "CutBodies", name := "rowsUntilBack", desc := "()I" } : Jvm.MethodName)) ∈ wAll := wAll_in (i := 319) rfl rfl
set_option maxRecDepth 20000 in
theorem m_321 : (Jvm.Cond.instanceMethod ({ cls := "CutBodies", name := "rowsUntilBack", desc := "()I" } : Jvm.MethodName)) ∈ wAll := wAll_in (i := 321) rfl rfl
set_option maxRecDepth 20000 in
theorem m_322 : (Jvm.Cond.code ({ cls := "CutBodies", name := "rowsUntilBack", desc := "()I" } : Jvm.MethodName) prog_1_method_24_code (3 : Nat) (Option.some Jvm.ClassFile.FieldType.int)) ∈ wAll := wAll_in (i := 322) rfl rfl
set_option maxRecDepth 20000 in
theorem m_323 : (Jvm.Cond.methodLink "CutBodies" (133 : Nat) ({ cls := "CutBodies$Contents", name := "rowsUntilBackAt", desc := "(I)I" } : Jvm.MethodName)) ∈ wAll := wAll_in (i := 323) rfl rfl
set_option maxRecDepth 20000 in
theorem m_324 : (Jvm.Cond.instanceMethod ({ cls := "CutBodies$Contents", name := "rowsUntilBackAt", desc := "(I)I" } : Jvm.MethodName)) ∈ wAll := wAll_in (i := 324) rfl rfl
set_option maxRecDepth 20000 in
theorem m_325 : (Jvm.Cond.selects "CutBodies$Contents" ({ cls := "CutBodies$Contents", name := "rowsUntilBackAt", desc := "(I)I" } : Jvm.MethodName) ({ cls := "CutBodies$Contents", name := "rowsUntilBackAt", desc := "(I)I" } : Jvm.MethodName)) ∈ wAll := wAll_in (i := 325) rfl rfl
set_option maxRecDepth 20000 in
theorem m_326 : (Jvm.Cond.code ({ cls := "CutBodies$Contents", name := "rowsUntilBackAt", desc := "(I)I" } : Jvm.MethodName) prog_3_method_4_code (5 : Nat) (Option.some Jvm.ClassFile.FieldType.int)) ∈ wAll := wAll_in (i := 326) rfl rfl
set_option maxRecDepth 20000 in
theorem m_327 : (Jvm.Cond.methodLink "CutBodies$Contents" (30 : Nat) ({ cls := "CutBodies$Ways", name := "compose", desc := "(II)I" } : Jvm.MethodName)) ∈ wAll := wAll_in (i := 327) rfl rfl
set_option maxRecDepth 20000 in
theorem m_328 : (Jvm.Cond.methodLink "CutBodies$Contents" (36 : Nat) ({ cls := "CutBodies$Ways", name := "orderOf", desc := "(I)I" } : Jvm.MethodName)) ∈ wAll := wAll_in (i := 328) rfl rfl
set_option maxRecDepth 20000 in
theorem m_329 : (Jvm.Cond.methodLink "CutBodies" (136 : Nat) ({ cls := "CutBodies", name := "commonMultiple", desc := "(II)I" } : Jvm.MethodName)) ∈ wAll := wAll_in (i := 329) rfl rfl
set_option maxRecDepth 20000 in
theorem m_330 : (Jvm.Cond.static ({ cls := "CutBodies", name := "commonMultiple", desc := "(II)I" } : Jvm.MethodName)) ∈ wAll := wAll_in (i := 330) rfl rfl
set_option maxRecDepth 20000 in
theorem m_331 : (Jvm.Cond.code ({ cls := "CutBodies", name := "commonMultiple", desc := "(II)I" } : Jvm.MethodName) prog_1_method_25_code (3 : Nat) (Option.some Jvm.ClassFile.FieldType.int)) ∈ wAll := wAll_in (i := 331) rfl rfl
set_option maxRecDepth 20000 in
theorem m_345 : (Jvm.Cond.methodLink "CutBodiesModel" (1 : Nat) ({ cls := "java/lang/Object", name := "<init>", desc := "()V" } : Jvm.MethodName)) ∈ wAll := wAll_in (i := 345) rfl rfl
set_option maxRecDepth 20000 in
theorem m_346 : (Jvm.Cond.fieldLink "CutBodiesModel" (55 : Nat) "CutBodiesModel" "thrown" "I") ∈ wAll := wAll_in (i := 346) rfl rfl
set_option maxRecDepth 20000 in
theorem m_347 : (Jvm.Cond.fieldLink "CutBodiesModel" (59 : Nat) "CutBodiesModel" "points" "I") ∈ wAll := wAll_in (i := 347) rfl rfl
set_option maxRecDepth 20000 in
theorem m_348 : (Jvm.Cond.fieldLink "CutBodiesModel" (62 : Nat) "CutBodiesModel" "planes" "I") ∈ wAll := wAll_in (i := 348) rfl rfl
set_option maxRecDepth 20000 in
theorem m_349 : (Jvm.Cond.fieldLink "CutBodiesModel" (65 : Nat) "CutBodiesModel" "axes" "I") ∈ wAll := wAll_in (i := 349) rfl rfl
set_option maxRecDepth 20000 in
theorem m_350 : (Jvm.Cond.fieldLink "CutBodiesModel" (7 : Nat) "CutBodiesModel" "px" "[I") ∈ wAll := wAll_in (i := 350) rfl rfl
set_option maxRecDepth 20000 in
theorem m_351 : (Jvm.Cond.fieldLink "CutBodiesModel" (13 : Nat) "CutBodiesModel" "py" "[I") ∈ wAll := wAll_in (i := 351) rfl rfl
set_option maxRecDepth 20000 in
theorem m_352 : (Jvm.Cond.fieldLink "CutBodiesModel" (16 : Nat) "CutBodiesModel" "pz" "[I") ∈ wAll := wAll_in (i := 352) rfl rfl
set_option maxRecDepth 20000 in
theorem m_353 : (Jvm.Cond.fieldLink "CutBodiesModel" (19 : Nat) "CutBodiesModel" "plane" "[I") ∈ wAll := wAll_in (i := 353) rfl rfl
set_option maxRecDepth 20000 in
theorem m_354 : (Jvm.Cond.fieldLink "CutBodiesModel" (22 : Nat) "CutBodiesModel" "axis" "[I") ∈ wAll := wAll_in (i := 354) rfl rfl
set_option maxRecDepth 20000 in
theorem m_355 : (Jvm.Cond.fieldLink "CutBodiesModel" (25 : Nat) "CutBodiesModel" "was" "[I") ∈ wAll := wAll_in (i := 355) rfl rfl
set_option maxRecDepth 20000 in
theorem m_356 : (Jvm.Cond.fieldLink "CutBodiesModel" (28 : Nat) "CutBodiesModel" "ways" "[I") ∈ wAll := wAll_in (i := 356) rfl rfl
set_option maxRecDepth 20000 in
theorem m_357 : (Jvm.Cond.fieldLink "CutBodiesModel" (169 : Nat) "CutBodiesModel" "kept" "I") ∈ wAll := wAll_in (i := 357) rfl rfl
set_option maxRecDepth 20000 in
theorem m_358 : (Jvm.Cond.fieldLink "CutBodiesModel" (31 : Nat) "CutBodiesModel" "keptWas" "[I") ∈ wAll := wAll_in (i := 358) rfl rfl
set_option maxRecDepth 20000 in
theorem m_359 : (Jvm.Cond.fieldLink "CutBodiesModel" (34 : Nat) "CutBodiesModel" "keptWays" "[I") ∈ wAll := wAll_in (i := 359) rfl rfl
set_option maxRecDepth 20000 in
theorem m_360 : (Jvm.Cond.fieldLink "CutBodiesModel" (37 : Nat) "CutBodiesModel" "keptPoints" "[I") ∈ wAll := wAll_in (i := 360) rfl rfl
set_option maxRecDepth 20000 in
theorem m_361 : (Jvm.Cond.fieldLink "CutBodiesModel" (93 : Nat) "CutBodiesModel" "ax" "I") ∈ wAll := wAll_in (i := 361) rfl rfl
set_option maxRecDepth 20000 in
theorem m_362 : (Jvm.Cond.fieldLink "CutBodiesModel" (96 : Nat) "CutBodiesModel" "ay" "I") ∈ wAll := wAll_in (i := 362) rfl rfl
set_option maxRecDepth 20000 in
theorem m_363 : (Jvm.Cond.fieldLink "CutBodiesModel" (99 : Nat) "CutBodiesModel" "az" "I") ∈ wAll := wAll_in (i := 363) rfl rfl
set_option maxRecDepth 20000 in
theorem m_364 : (Jvm.Cond.fieldLink "CutBodiesModel" (40 : Nat) "CutBodiesModel" "nextWas" "[I") ∈ wAll := wAll_in (i := 364) rfl rfl
set_option maxRecDepth 20000 in
theorem m_365 : (Jvm.Cond.fieldLink "CutBodiesModel" (43 : Nat) "CutBodiesModel" "nextWays" "[I") ∈ wAll := wAll_in (i := 365) rfl rfl
set_option maxRecDepth 20000 in
theorem m_366 : (Jvm.Cond.fieldLink "CutBodiesModel" (46 : Nat) "CutBodiesModel" "nowWas" "[I") ∈ wAll := wAll_in (i := 366) rfl rfl
set_option maxRecDepth 20000 in
theorem m_367 : (Jvm.Cond.fieldLink "CutBodiesModel" (49 : Nat) "CutBodiesModel" "nowWays" "[I") ∈ wAll := wAll_in (i := 367) rfl rfl
set_option maxRecDepth 20000 in
theorem m_368 : (Jvm.Cond.fieldLink "CutBodiesModel" (52 : Nat) "CutBodiesModel" "to" "[I") ∈ wAll := wAll_in (i := 368) rfl rfl
set_option maxRecDepth 20000 in
theorem m_369 : (Jvm.Cond.lays "CutBodiesModel" "CutBodiesModel" "thrown" "I") ∈ wAll := wAll_in (i := 369) rfl rfl
set_option maxRecDepth 20000 in
theorem m_371 : (Jvm.Cond.lays "CutBodiesModel" "CutBodiesModel" "points" "I") ∈ wAll := wAll_in (i := 371) rfl rfl
set_option maxRecDepth 20000 in
theorem m_373 : (Jvm.Cond.lays "CutBodiesModel" "CutBodiesModel" "planes" "I") ∈ wAll := wAll_in (i := 373) rfl rfl
set_option maxRecDepth 20000 in
theorem m_375 : (Jvm.Cond.lays "CutBodiesModel" "CutBodiesModel" "axes" "I") ∈ wAll := wAll_in (i := 375) rfl rfl
set_option maxRecDepth 20000 in
theorem m_377 : (Jvm.Cond.laysFinal "CutBodiesModel" "CutBodiesModel" "px" "[I") ∈ wAll := wAll_in (i := 377) rfl rfl
set_option maxRecDepth 20000 in
theorem m_379 : (Jvm.Cond.laysFinal "CutBodiesModel" "CutBodiesModel" "py" "[I") ∈ wAll := wAll_in (i := 379) rfl rfl
set_option maxRecDepth 20000 in
theorem m_381 : (Jvm.Cond.laysFinal "CutBodiesModel" "CutBodiesModel" "pz" "[I") ∈ wAll := wAll_in (i := 381) rfl rfl
set_option maxRecDepth 20000 in
theorem m_383 : (Jvm.Cond.laysFinal "CutBodiesModel" "CutBodiesModel" "plane" "[I") ∈ wAll := wAll_in (i := 383) rfl rfl
set_option maxRecDepth 20000 in
theorem m_385 : (Jvm.Cond.laysFinal "CutBodiesModel" "CutBodiesModel" "axis" "[I") ∈ wAll := wAll_in (i := 385) rfl rfl
set_option maxRecDepth 20000 in
theorem m_387 : (Jvm.Cond.laysFinal "CutBodiesModel" "CutBodiesModel" "was" "[I") ∈ wAll := wAll_in (i := 387) rfl rfl
set_option maxRecDepth 20000 in
theorem m_389 : (Jvm.Cond.laysFinal "CutBodiesModel" "CutBodiesModel" "ways" "[I") ∈ wAll := wAll_in (i := 389) rfl rfl
set_option maxRecDepth 20000 in
theorem m_391 : (Jvm.Cond.lays "CutBodiesModel" "CutBodiesModel" "kept" "I") ∈ wAll := wAll_in (i := 391) rfl rfl
set_option maxRecDepth 20000 in
theorem m_393 : (Jvm.Cond.laysFinal "CutBodiesModel" "CutBodiesModel" "keptWas" "[I") ∈ wAll := wAll_in (i := 393) rfl rfl
set_option maxRecDepth 20000 in
theorem m_395 : (Jvm.Cond.laysFinal "CutBodiesModel" "CutBodiesModel" "keptWays" "[I") ∈ wAll := wAll_in (i := 395) rfl rfl
set_option maxRecDepth 20000 in
theorem m_397 : (Jvm.Cond.laysFinal "CutBodiesModel" "CutBodiesModel" "keptPoints" "[I") ∈ wAll := wAll_in (i := 397) rfl rfl
set_option maxRecDepth 20000 in
theorem m_399 : (Jvm.Cond.lays "CutBodiesModel" "CutBodiesModel" "ax" "I") ∈ wAll := wAll_in (i := 399) rfl rfl
set_option maxRecDepth 20000 in
theorem m_401 : (Jvm.Cond.lays "CutBodiesModel" "CutBodiesModel" "ay" "I") ∈ wAll := wAll_in (i := 401) rfl rfl
set_option maxRecDepth 20000 in
theorem m_403 : (Jvm.Cond.lays "CutBodiesModel" "CutBodiesModel" "az" "I") ∈ wAll := wAll_in (i := 403) rfl rfl
set_option maxRecDepth 20000 in
theorem m_405 : (Jvm.Cond.laysFinal "CutBodiesModel" "CutBodiesModel" "nextWas" "[I") ∈ wAll := wAll_in (i := 405) rfl rfl
set_option maxRecDepth 20000 in
theorem m_407 : (Jvm.Cond.laysFinal "CutBodiesModel" "CutBodiesModel" "nextWays" "[I") ∈ wAll := wAll_in (i := 407) rfl rfl
set_option maxRecDepth 20000 in
theorem m_409 : (Jvm.Cond.laysFinal "CutBodiesModel" "CutBodiesModel" "nowWas" "[I") ∈ wAll := wAll_in (i := 409) rfl rfl
set_option maxRecDepth 20000 in
theorem m_411 : (Jvm.Cond.laysFinal "CutBodiesModel" "CutBodiesModel" "nowWays" "[I") ∈ wAll := wAll_in (i := 411) rfl rfl
set_option maxRecDepth 20000 in
theorem m_413 : (Jvm.Cond.laysFinal "CutBodiesModel" "CutBodiesModel" "to" "[I") ∈ wAll := wAll_in (i := 413) rfl rfl
set_option maxRecDepth 20000 in
theorem m_420 : (Jvm.Cond.methodLink "CutBodiesModel" (72 : Nat) ({ cls := "CutBodiesModel", name := "isSmall", desc := "(I)Z" } : Jvm.MethodName)) ∈ wAll := wAll_in (i := 420) rfl rfl
set_option maxRecDepth 20000 in
theorem m_421 : (Jvm.Cond.static ({ cls := "CutBodiesModel", name := "isSmall", desc := "(I)Z" } : Jvm.MethodName)) ∈ wAll := wAll_in (i := 421) rfl rfl
set_option maxRecDepth 20000 in
theorem m_422 : (Jvm.Cond.code ({ cls := "CutBodiesModel", name := "isSmall", desc := "(I)Z" } : Jvm.MethodName) prog_6_method_8_code (1 : Nat) (Option.some Jvm.ClassFile.FieldType.boolean)) ∈ wAll := wAll_in (i := 422) rfl rfl
set_option maxRecDepth 20000 in
theorem m_423 : (Jvm.Cond.methodLink "CutBodiesModel" (76 : Nat) ({ cls := "CutBodiesModel", name := "add", desc := "(III)Z" } : Jvm.MethodName)) ∈ wAll := wAll_in (i := 423) rfl rfl
set_option maxRecDepth 20000 in
theorem m_425 : (Jvm.Cond.instanceMethod ({ cls := "CutBodiesModel", name := "add", desc := "(III)Z" } : Jvm.MethodName)) ∈ wAll := wAll_in (i := 425) rfl rfl
set_option maxRecDepth 20000 in
theorem m_426 : (Jvm.Cond.code ({ cls := "CutBodiesModel", name := "add", desc := "(III)Z" } : Jvm.MethodName) prog_6_method_9_code (4 : Nat) (Option.some Jvm.ClassFile.FieldType.boolean)) ∈ wAll := wAll_in (i := 426) rfl rfl
set_option maxRecDepth 20000 in
theorem m_427 : (Jvm.Cond.methodLink "CutBodiesModel" (68 : Nat) ({ cls := "CutBodiesModel", name := "pointAt", desc := "(III)I" } : Jvm.MethodName)) ∈ wAll := wAll_in (i := 427) rfl rfl
set_option maxRecDepth 20000 in
theorem m_429 : (Jvm.Cond.instanceMethod ({ cls := "CutBodiesModel", name := "pointAt", desc := "(III)I" } : Jvm.MethodName)) ∈ wAll := wAll_in (i := 429) rfl rfl
set_option maxRecDepth 20000 in
theorem m_430 : (Jvm.Cond.code ({ cls := "CutBodiesModel", name := "pointAt", desc := "(III)I" } : Jvm.MethodName) prog_6_method_6_code (5 : Nat) (Option.some Jvm.ClassFile.FieldType.int)) ∈ wAll := wAll_in (i := 430) rfl rfl
set_option maxRecDepth 20000 in
theorem m_431 : (Jvm.Cond.methodLink "CutBodiesModel" (80 : Nat) ({ cls := "CutBodiesModel", name := "own", desc := "()V" } : Jvm.MethodName)) ∈ wAll := wAll_in (i := 431) rfl rfl
set_option maxRecDepth 20000 in
theorem m_433 : (Jvm.Cond.instanceMethod ({ cls := "CutBodiesModel", name := "own", desc := "()V" } : Jvm.MethodName)) ∈ wAll := wAll_in (i := 433) rfl rfl
set_option maxRecDepth 20000 in
theorem m_434 : (Jvm.Cond.code ({ cls := "CutBodiesModel", name := "own", desc := "()V" } : Jvm.MethodName) prog_6_method_7_code (2 : Nat) (Option.none : Option Jvm.ClassFile.FieldType)) ∈ wAll := wAll_in (i := 434) rfl rfl
set_option maxRecDepth 20000 in
theorem m_447 : (Jvm.Cond.methodLink "CutBodiesModel" (83 : Nat) ({ cls := "CutBodiesModel", name := "isArrow", desc := "(I)Z" } : Jvm.MethodName)) ∈ wAll := wAll_in (i := 447) rfl rfl
set_option maxRecDepth 20000 in
theorem m_448 : (Jvm.Cond.static ({ cls := "CutBodiesModel", name := "isArrow", desc := "(I)Z" } : Jvm.MethodName)) ∈ wAll := wAll_in (i := 448) rfl rfl
set_option maxRecDepth 20000 in
theorem m_449 : (Jvm.Cond.code ({ cls := "CutBodiesModel", name := "isArrow", desc := "(I)Z" } : Jvm.MethodName) prog_6_method_13_code (1 : Nat) (Option.some Jvm.ClassFile.FieldType.boolean)) ∈ wAll := wAll_in (i := 449) rfl rfl
set_option maxRecDepth 20000 in
theorem m_454 : (Jvm.Cond.methodLink "CutBodiesModel" (86 : Nat) ({ cls := "CutBodiesModel", name := "isAxis", desc := "(I)Z" } : Jvm.MethodName)) ∈ wAll := wAll_in (i := 454) rfl rfl
set_option maxRecDepth 20000 in
theorem m_456 : (Jvm.Cond.instanceMethod ({ cls := "CutBodiesModel", name := "isAxis", desc := "(I)Z" } : Jvm.MethodName)) ∈ wAll := wAll_in (i := 456) rfl rfl
set_option maxRecDepth 20000 in
theorem m_457 : (Jvm.Cond.code ({ cls := "CutBodiesModel", name := "isAxis", desc := "(I)Z" } : Jvm.MethodName) prog_6_method_5_code (2 : Nat) (Option.some Jvm.ClassFile.FieldType.boolean)) ∈ wAll := wAll_in (i := 457) rfl rfl
set_option maxRecDepth 20000 in
theorem m_458 : (Jvm.Cond.methodLink "CutBodiesModel" (89 : Nat) ({ cls := "CutBodiesModel", name := "kind", desc := "(I)I" } : Jvm.MethodName)) ∈ wAll := wAll_in (i := 458) rfl rfl
set_option maxRecDepth 20000 in
theorem m_460 : (Jvm.Cond.instanceMethod ({ cls := "CutBodiesModel", name := "kind", desc := "(I)I" } : Jvm.MethodName)) ∈ wAll := wAll_in (i := 460) rfl rfl
set_option maxRecDepth 20000 in
theorem m_461 : (Jvm.Cond.code ({ cls := "CutBodiesModel", name := "kind", desc := "(I)I" } : Jvm.MethodName) prog_6_method_15_code (4 : Nat) (Option.some Jvm.ClassFile.FieldType.int)) ∈ wAll := wAll_in (i := 461) rfl rfl
set_option maxRecDepth 20000 in
theorem m_466 : (Jvm.Cond.methodLink "CutBodiesModel" (106 : Nat) ({ cls := "CutBodiesModel", name := "isPoint", desc := "(I)Z" } : Jvm.MethodName)) ∈ wAll := wAll_in (i := 466) rfl rfl
set_option maxRecDepth 20000 in
theorem m_468 : (Jvm.Cond.instanceMethod ({ cls := "CutBodiesModel", name := "isPoint", desc := "(I)Z" } : Jvm.MethodName)) ∈ wAll := wAll_in (i := 468) rfl rfl
set_option maxRecDepth 20000 in
theorem m_469 : (Jvm.Cond.code ({ cls := "CutBodiesModel", name := "isPoint", desc := "(I)Z" } : Jvm.MethodName) prog_6_method_3_code (2 : Nat) (Option.some Jvm.ClassFile.FieldType.boolean)) ∈ wAll := wAll_in (i := 469) rfl rfl
set_option maxRecDepth 20000 in
theorem m_470 : (Jvm.Cond.methodLink "CutBodiesModel" (109 : Nat) ({ cls := "CutBodiesModel", name := "imageOf", desc := "(II)I" } : Jvm.MethodName)) ∈ wAll := wAll_in (i := 470) rfl rfl
set_option maxRecDepth 20000 in
theorem m_472 : (Jvm.Cond.instanceMethod ({ cls := "CutBodiesModel", name := "imageOf", desc := "(II)I" } : Jvm.MethodName)) ∈ wAll := wAll_in (i := 472) rfl rfl
set_option maxRecDepth 20000 in
theorem m_473 : (Jvm.Cond.code ({ cls := "CutBodiesModel", name := "imageOf", desc := "(II)I" } : Jvm.MethodName) prog_6_method_18_code (3 : Nat) (Option.some Jvm.ClassFile.FieldType.int)) ∈ wAll := wAll_in (i := 473) rfl rfl
set_option maxRecDepth 20000 in
theorem m_474 : (Jvm.Cond.methodLink "CutBodiesModel" (102 : Nat) ({ cls := "CutBodiesModel", name := "step", desc := "(IIII)V" } : Jvm.MethodName)) ∈ wAll := wAll_in (i := 474) rfl rfl
set_option maxRecDepth 20000 in
theorem m_476 : (Jvm.Cond.instanceMethod ({ cls := "CutBodiesModel", name := "step", desc := "(IIII)V" } : Jvm.MethodName)) ∈ wAll := wAll_in (i := 476) rfl rfl
set_option maxRecDepth 20000 in
theorem m_477 : (Jvm.Cond.code ({ cls := "CutBodiesModel", name := "step", desc := "(IIII)V" } : Jvm.MethodName) prog_6_method_17_code (13 : Nat) (Option.none : Option Jvm.ClassFile.FieldType)) ∈ wAll := wAll_in (i := 477) rfl rfl
set_option maxRecDepth 20000 in
theorem m_482 : (Jvm.Cond.methodLink "CutBodiesModel" (113 : Nat) ({ cls := "CutBodiesModel", name := "isPlane", desc := "(I)Z" } : Jvm.MethodName)) ∈ wAll := wAll_in (i := 482) rfl rfl
set_option maxRecDepth 20000 in
theorem m_484 : (Jvm.Cond.instanceMethod ({ cls := "CutBodiesModel", name := "isPlane", desc := "(I)Z" } : Jvm.MethodName)) ∈ wAll := wAll_in (i := 484) rfl rfl
set_option maxRecDepth 20000 in
theorem m_485 : (Jvm.Cond.code ({ cls := "CutBodiesModel", name := "isPlane", desc := "(I)Z" } : Jvm.MethodName) prog_6_method_4_code (2 : Nat) (Option.some Jvm.ClassFile.FieldType.boolean)) ∈ wAll := wAll_in (i := 485) rfl rfl
set_option maxRecDepth 20000 in
theorem m_486 : (Jvm.Cond.methodLink "CutBodiesModel" (116 : Nat) ({ cls := "CutBodiesModel", name := "sideOf", desc := "(II)I" } : Jvm.MethodName)) ∈ wAll := wAll_in (i := 486) rfl rfl
set_option maxRecDepth 20000 in
theorem m_488 : (Jvm.Cond.instanceMethod ({ cls := "CutBodiesModel", name := "sideOf", desc := "(II)I" } : Jvm.MethodName)) ∈ wAll := wAll_in (i := 488) rfl rfl
set_option maxRecDepth 20000 in
theorem m_489 : (Jvm.Cond.code ({ cls := "CutBodiesModel", name := "sideOf", desc := "(II)I" } : Jvm.MethodName) prog_6_method_20_code (4 : Nat) (Option.some Jvm.ClassFile.FieldType.int)) ∈ wAll := wAll_in (i := 489) rfl rfl
set_option maxRecDepth 20000 in
theorem m_494 : (Jvm.Cond.methodLink "CutBodiesModel" (126 : Nat) ({ cls := "CutBodiesModel", name := "piecesTo", desc := "(I)I" } : Jvm.MethodName)) ∈ wAll := wAll_in (i := 494) rfl rfl
set_option maxRecDepth 20000 in
theorem m_496 : (Jvm.Cond.instanceMethod ({ cls := "CutBodiesModel", name := "piecesTo", desc := "(I)I" } : Jvm.MethodName)) ∈ wAll := wAll_in (i := 496) rfl rfl
set_option maxRecDepth 20000 in
theorem m_497 : (Jvm.Cond.code ({ cls := "CutBodiesModel", name := "piecesTo", desc := "(I)I" } : Jvm.MethodName) prog_6_method_24_code (4 : Nat) (Option.some Jvm.ClassFile.FieldType.int)) ∈ wAll := wAll_in (i := 497) rfl rfl
set_option maxRecDepth 20000 in
theorem m_498 : (Jvm.Cond.methodLink "CutBodiesModel" (123 : Nat) ({ cls := "CutBodiesModel", name := "leastOf", desc := "(I)I" } : Jvm.MethodName)) ∈ wAll := wAll_in (i := 498) rfl rfl
set_option maxRecDepth 20000 in
theorem m_500 : (Jvm.Cond.instanceMethod ({ cls := "CutBodiesModel", name := "leastOf", desc := "(I)I" } : Jvm.MethodName)) ∈ wAll := wAll_in (i := 500) rfl rfl
set_option maxRecDepth 20000 in
theorem m_501 : (Jvm.Cond.code ({ cls := "CutBodiesModel", name := "leastOf", desc := "(I)I" } : Jvm.MethodName) prog_6_method_23_code (3 : Nat) (Option.some Jvm.ClassFile.FieldType.int)) ∈ wAll := wAll_in (i := 501) rfl rfl
set_option maxRecDepth 20000 in
theorem m_502 : (Jvm.Cond.methodLink "CutBodiesModel" (119 : Nat) ({ cls := "CutBodiesModel", name := "isAlike", desc := "(II)Z" } : Jvm.MethodName)) ∈ wAll := wAll_in (i := 502) rfl rfl
set_option maxRecDepth 20000 in
theorem m_504 : (Jvm.Cond.instanceMethod ({ cls := "CutBodiesModel", name := "isAlike", desc := "(II)Z" } : Jvm.MethodName)) ∈ wAll := wAll_in (i := 504) rfl rfl
set_option maxRecDepth 20000 in
theorem m_505 : (Jvm.Cond.code ({ cls := "CutBodiesModel", name := "isAlike", desc := "(II)Z" } : Jvm.MethodName) prog_6_method_22_code (4 : Nat) (Option.some Jvm.ClassFile.FieldType.boolean)) ∈ wAll := wAll_in (i := 505) rfl rfl
set_option maxRecDepth 20000 in
theorem m_514 : (Jvm.Cond.methodLink "CutBodiesModel" (147 : Nat) ({ cls := "CutBodiesModel", name := "blocked", desc := "(II)I" } : Jvm.MethodName)) ∈ wAll := wAll_in (i := 514) rfl rfl
set_option maxRecDepth 20000 in
theorem m_516 : (Jvm.Cond.instanceMethod ({ cls := "CutBodiesModel", name := "blocked", desc := "(II)I" } : Jvm.MethodName)) ∈ wAll := wAll_in (i := 516) rfl rfl
set_option maxRecDepth 20000 in
theorem m_517 : (Jvm.Cond.code ({ cls := "CutBodiesModel", name := "blocked", desc := "(II)I" } : Jvm.MethodName) prog_6_method_33_code (5 : Nat) (Option.some Jvm.ClassFile.FieldType.int)) ∈ wAll := wAll_in (i := 517) rfl rfl
set_option maxRecDepth 20000 in
theorem m_518 : (Jvm.Cond.methodLink "CutBodiesModel" (150 : Nat) ({ cls := "CutBodiesModel", name := "plan", desc := "(III)V" } : Jvm.MethodName)) ∈ wAll := wAll_in (i := 518) rfl rfl
set_option maxRecDepth 20000 in
theorem m_520 : (Jvm.Cond.instanceMethod ({ cls := "CutBodiesModel", name := "plan", desc := "(III)V" } : Jvm.MethodName)) ∈ wAll := wAll_in (i := 520) rfl rfl
set_option maxRecDepth 20000 in
theorem m_521 : (Jvm.Cond.code ({ cls := "CutBodiesModel", name := "plan", desc := "(III)V" } : Jvm.MethodName) prog_6_method_34_code (5 : Nat) (Option.none : Option Jvm.ClassFile.FieldType)) ∈ wAll := wAll_in (i := 521) rfl rfl
set_option maxRecDepth 20000 in
theorem m_522 : (Jvm.Cond.methodLink "CutBodiesModel" (154 : Nat) ({ cls := "CutBodiesModel", name := "turnOnce", desc := "(II)V" } : Jvm.MethodName)) ∈ wAll := wAll_in (i := 522) rfl rfl
set_option maxRecDepth 20000 in
theorem m_524 : (Jvm.Cond.instanceMethod ({ cls := "CutBodiesModel", name := "turnOnce", desc := "(II)V" } : Jvm.MethodName)) ∈ wAll := wAll_in (i := 524) rfl rfl
set_option maxRecDepth 20000 in
theorem m_525 : (Jvm.Cond.code ({ cls := "CutBodiesModel", name := "turnOnce", desc := "(II)V" } : Jvm.MethodName) prog_6_method_35_code (5 : Nat) (Option.none : Option Jvm.ClassFile.FieldType)) ∈ wAll := wAll_in (i := 525) rfl rfl
set_option maxRecDepth 20000 in
theorem m_526 : (Jvm.Cond.methodLink "CutBodiesModel" (144 : Nat) ({ cls := "CutBodiesModel", name := "wayBehind", desc := "(II)I" } : Jvm.MethodName)) ∈ wAll := wAll_in (i := 526) rfl rfl
set_option maxRecDepth 20000 in
theorem m_528 : (Jvm.Cond.instanceMethod ({ cls := "CutBodiesModel", name := "wayBehind", desc := "(II)I" } : Jvm.MethodName)) ∈ wAll := wAll_in (i := 528) rfl rfl
set_option maxRecDepth 20000 in
theorem m_529 : (Jvm.Cond.code ({ cls := "CutBodiesModel", name := "wayBehind", desc := "(II)I" } : Jvm.MethodName) prog_6_method_32_code (3 : Nat) (Option.some Jvm.ClassFile.FieldType.int)) ∈ wAll := wAll_in (i := 529) rfl rfl
set_option maxRecDepth 20000 in
theorem m_530 : (Jvm.Cond.methodLink "CutBodiesModel" (135 : Nat) ({ cls := "CutBodiesModel", name := "taken", desc := "(II)I" } : Jvm.MethodName)) ∈ wAll := wAll_in (i := 530) rfl rfl
set_option maxRecDepth 20000 in
theorem m_532 : (Jvm.Cond.instanceMethod ({ cls := "CutBodiesModel", name := "taken", desc := "(II)I" } : Jvm.MethodName)) ∈ wAll := wAll_in (i := 532) rfl rfl
set_option maxRecDepth 20000 in
theorem m_533 : (Jvm.Cond.code ({ cls := "CutBodiesModel", name := "taken", desc := "(II)I" } : Jvm.MethodName) prog_6_method_31_code (3 : Nat) (Option.some Jvm.ClassFile.FieldType.int)) ∈ wAll := wAll_in (i := 533) rfl rfl
set_option maxRecDepth 20000 in
theorem m_534 : (Jvm.Cond.methodLink "CutBodiesModel" (129 : Nat) ({ cls := "CutBodiesModel", name := "arrow", desc := "(II)I" } : Jvm.MethodName)) ∈ wAll := wAll_in (i := 534) rfl rfl
set_option maxRecDepth 20000 in
theorem m_535 : (Jvm.Cond.static ({ cls := "CutBodiesModel", name := "arrow", desc := "(II)I" } : Jvm.MethodName)) ∈ wAll := wAll_in (i := 535) rfl rfl
set_option maxRecDepth 20000 in
theorem m_536 : (Jvm.Cond.code ({ cls := "CutBodiesModel", name := "arrow", desc := "(II)I" } : Jvm.MethodName) prog_6_method_27_code (2 : Nat) (Option.some Jvm.ClassFile.FieldType.int)) ∈ wAll := wAll_in (i := 536) rfl rfl
set_option maxRecDepth 20000 in
theorem m_537 : (Jvm.Cond.methodLink "CutBodiesModel" (132 : Nat) ({ cls := "CutBodiesModel", name := "arrowOf", desc := "(III)I" } : Jvm.MethodName)) ∈ wAll := wAll_in (i := 537) rfl rfl
set_option maxRecDepth 20000 in
theorem m_538 : (Jvm.Cond.static ({ cls := "CutBodiesModel", name := "arrowOf", desc := "(III)I" } : Jvm.MethodName)) ∈ wAll := wAll_in (i := 538) rfl rfl
set_option maxRecDepth 20000 in
theorem m_539 : (Jvm.Cond.code ({ cls := "CutBodiesModel", name := "arrowOf", desc := "(III)I" } : Jvm.MethodName) prog_6_method_28_code (3 : Nat) (Option.some Jvm.ClassFile.FieldType.int)) ∈ wAll := wAll_in (i := 539) rfl rfl
set_option maxRecDepth 20000 in
theorem m_540 : (Jvm.Cond.methodLink "CutBodiesModel" (138 : Nat) ({ cls := "CutBodiesModel", name := "secondOf", desc := "(I)I" } : Jvm.MethodName)) ∈ wAll := wAll_in (i := 540) rfl rfl
set_option maxRecDepth 20000 in
theorem m_541 : (Jvm.Cond.static ({ cls := "CutBodiesModel", name := "secondOf", desc := "(I)I" } : Jvm.MethodName)) ∈ wAll := wAll_in (i := 541) rfl rfl
set_option maxRecDepth 20000 in
theorem m_542 : (Jvm.Cond.code ({ cls := "CutBodiesModel", name := "secondOf", desc := "(I)I" } : Jvm.MethodName) prog_6_method_30_code (4 : Nat) (Option.some Jvm.ClassFile.FieldType.int)) ∈ wAll := wAll_in (i := 542) rfl rfl
set_option maxRecDepth 20000 in
theorem m_543 : (Jvm.Cond.methodLink "CutBodiesModel" (141 : Nat) ({ cls := "CutBodiesModel", name := "wayOf", desc := "(II)I" } : Jvm.MethodName)) ∈ wAll := wAll_in (i := 543) rfl rfl
set_option maxRecDepth 20000 in
theorem m_544 : (Jvm.Cond.static ({ cls := "CutBodiesModel", name := "wayOf", desc := "(II)I" } : Jvm.MethodName)) ∈ wAll := wAll_in (i := 544) rfl rfl
set_option maxRecDepth 20000 in
theorem m_545 : (Jvm.Cond.code ({ cls := "CutBodiesModel", name := "wayOf", desc := "(II)I" } : Jvm.MethodName) prog_6_method_29_code (4 : Nat) (Option.some Jvm.ClassFile.FieldType.int)) ∈ wAll := wAll_in (i := 545) rfl rfl
set_option maxRecDepth 20000 in
theorem m_562 : (Jvm.Cond.methodLink "CutBodiesModel" (162 : Nat) ({ cls := "CutBodiesModel", name := "isThere", desc := "(II)Z" } : Jvm.MethodName)) ∈ wAll := wAll_in (i := 562) rfl rfl
set_option maxRecDepth 20000 in
theorem m_564 : (Jvm.Cond.instanceMethod ({ cls := "CutBodiesModel", name := "isThere", desc := "(II)Z" } : Jvm.MethodName)) ∈ wAll := wAll_in (i := 564) rfl rfl
set_option maxRecDepth 20000 in
theorem m_565 : (Jvm.Cond.code ({ cls := "CutBodiesModel", name := "isThere", desc := "(II)Z" } : Jvm.MethodName) prog_6_method_41_code (9 : Nat) (Option.some Jvm.ClassFile.FieldType.boolean)) ∈ wAll := wAll_in (i := 565) rfl rfl
set_option maxRecDepth 20000 in
theorem m_566 : (Jvm.Cond.methodLink "CutBodiesModel" (158 : Nat) ({ cls := "CutBodiesModel", name := "isCross", desc := "(IIII)Z" } : Jvm.MethodName)) ∈ wAll := wAll_in (i := 566) rfl rfl
set_option maxRecDepth 20000 in
theorem m_567 : (Jvm.Cond.static ({ cls := "CutBodiesModel", name := "isCross", desc := "(IIII)Z" } : Jvm.MethodName)) ∈ wAll := wAll_in (i := 567) rfl rfl
set_option maxRecDepth 20000 in
theorem m_568 : (Jvm.Cond.code ({ cls := "CutBodiesModel", name := "isCross", desc := "(IIII)Z" } : Jvm.MethodName) prog_6_method_40_code (4 : Nat) (Option.some Jvm.ClassFile.FieldType.boolean)) ∈ wAll := wAll_in (i := 568) rfl rfl
set_option maxRecDepth 20000 in
theorem m_577 : (Jvm.Cond.methodLink "CutBodiesModel" (165 : Nat) ({ cls := "CutBodiesModel", name := "isNow", desc := "()Z" } : Jvm.MethodName)) ∈ wAll := wAll_in (i := 577) rfl rfl
set_option maxRecDepth 20000 in
theorem m_579 : (Jvm.Cond.instanceMethod ({ cls := "CutBodiesModel", name := "isNow", desc := "()Z" } : Jvm.MethodName)) ∈ wAll := wAll_in (i := 579) rfl rfl
set_option maxRecDepth 20000 in
theorem m_580 : (Jvm.Cond.code ({ cls := "CutBodiesModel", name := "isNow", desc := "()Z" } : Jvm.MethodName) prog_6_method_44_code (2 : Nat) (Option.some Jvm.ClassFile.FieldType.boolean)) ∈ wAll := wAll_in (i := 580) rfl rfl
theorem in_B : ∀ w ∈ u_ws R_B T_B 10, w ∈ wAll := by
  intro w h
  obtain ⟨k, hk, rfl⟩ := List.mem_map.mp h
  have hk := List.mem_range.mp hk
  match k, hk with
  | 0, _ => exact m_61
  | 1, _ => exact m_63
  | 2, _ => exact m_65
  | 3, _ => exact m_67
  | 4, _ => exact m_69
  | 5, _ => exact m_71
  | 6, _ => exact m_73
  | 7, _ => exact m_75
  | 8, _ => exact m_77
  | 9, _ => exact m_79
  | k + 10, hk => exact absurd hk (by omega)
theorem in_C : ∀ w ∈ u_ws R_C T_C 2, w ∈ wAll := by
  intro w h
  obtain ⟨k, hk, rfl⟩ := List.mem_map.mp h
  have hk := List.mem_range.mp hk
  match k, hk with
  | 0, _ => exact m_94
  | 1, _ => exact m_96
  | k + 2, hk => exact absurd hk (by omega)
theorem in_X : ∀ w ∈ u_ws R_X T_X 10, w ∈ wAll := by
  intro w h
  obtain ⟨k, hk, rfl⟩ := List.mem_map.mp h
  have hk := List.mem_range.mp hk
  match k, hk with
  | 0, _ => exact m_110
  | 1, _ => exact m_112
  | 2, _ => exact m_114
  | 3, _ => exact m_116
  | 4, _ => exact m_118
  | 5, _ => exact m_120
  | 6, _ => exact m_122
  | 7, _ => exact m_124
  | 8, _ => exact m_126
  | 9, _ => exact m_128
  | k + 10, hk => exact absurd hk (by omega)
theorem in_M : ∀ w ∈ u_ws R_M T_M 23, w ∈ wAll := by
  intro w h
  obtain ⟨k, hk, rfl⟩ := List.mem_map.mp h
  have hk := List.mem_range.mp hk
  match k, hk with
  | 0, _ => exact m_369
  | 1, _ => exact m_371
  | 2, _ => exact m_373
  | 3, _ => exact m_375
  | 4, _ => exact m_377
  | 5, _ => exact m_379
  | 6, _ => exact m_381
  | 7, _ => exact m_383
  | 8, _ => exact m_385
  | 9, _ => exact m_387
  | 10, _ => exact m_389
  | 11, _ => exact m_391
  | 12, _ => exact m_393
  | 13, _ => exact m_395
  | 14, _ => exact m_397
  | 15, _ => exact m_399
  | 16, _ => exact m_401
  | 17, _ => exact m_403
  | 18, _ => exact m_405
  | 19, _ => exact m_407
  | 20, _ => exact m_409
  | 21, _ => exact m_411
  | 22, _ => exact m_413
  | k + 23, hk => exact absurd hk (by omega)
def nestWs : List Cond := [(Jvm.Cond.methodLinkNest "CutBodies$Body" (44 : Nat) ({ cls := "CutBodies", name := "isWithin", desc := "(II)Z" } : Jvm.MethodName) "CutBodies"), (Jvm.Cond.fieldLinkNest "CutBodies" (88 : Nat) "CutBodies$Body" "pointCount" "I" "CutBodies"), (Jvm.Cond.fieldLinkNest "CutBodies" (107 : Nat) "CutBodies$Contents" "origin" "[I" "CutBodies"), (Jvm.Cond.fieldLinkNest "CutBodies" (110 : Nat) "CutBodies$Contents" "turned" "[I" "CutBodies"), (Jvm.Cond.fieldLinkNest "CutBodies" (119 : Nat) "CutBodies$Body" "planeCount" "I" "CutBodies")]
def nestZ (U : State) : Prop := (∀ w ∈ nestWs, va_Nw w U) ∧ va_AO "CutBodies$Contents" U
theorem nz {U : State} {A : Array Value} {w : Cond} (h : nestZ U) (hw : w ∈ nestWs) (ho : w.onTables = true := by rfl) : w.before A U = true := va_Nw.use ho (h.1 w hw)
theorem nestZ.same {u U : State} (h : u.vm = U.vm) (hZ : nestZ u) : nestZ U := by
  refine ⟨fun w hw => ?_, va_AO.moved (h ▸ Vm.Alike.refl u.vm) hZ.2⟩
  have h1 := hZ.1 w hw
  simp only [nestWs, List.mem_cons, List.not_mem_nil, or_false] at hw
  rcases hw with rfl | rfl | rfl | rfl | rfl <;> exact va_Nw.same rfl h h1
theorem nestZ.warm {s U : State} (hW : s.WarmedH U.vm) (hZ : nestZ s) : nestZ U := by
  refine ⟨fun w hw => ?_, va_AO.moved hW.alike hZ.2⟩
  have h1 := hZ.1 w hw
  simp only [nestWs, List.mem_cons, List.not_mem_nil, or_false] at hw
  rcases hw with rfl | rfl | rfl | rfl | rfl
  · exact va_Nw.warmM hW h1
  · exact va_Nw.warmF hW h1
  · exact va_Nw.warmF hW h1
  · exact va_Nw.warmF hW h1
  · exact va_Nw.warmF hW h1
abbrev b_W_xGoesTo : ByteArray := prog_4_method_2_code
abbrev y_W_xGoesTo : MethodName := ⟨"CutBodies$Ways", "xGoesTo", "(I)I"⟩
abbrev w_W_xGoesTo : List Cond := .code y_W_xGoesTo b_W_xGoesTo 1 (some .int) :: wAll
abbrev b_W_yGoesTo : ByteArray := prog_4_method_3_code
abbrev y_W_yGoesTo : MethodName := ⟨"CutBodies$Ways", "yGoesTo", "(I)I"⟩
abbrev w_W_yGoesTo : List Cond := .code y_W_yGoesTo b_W_yGoesTo 3 (some .int) :: wAll
abbrev b_W_across : ByteArray := prog_4_method_4_code
abbrev y_W_across : MethodName := ⟨"CutBodies$Ways", "across", "(II)I"⟩
abbrev w_W_across : List Cond := .code y_W_across b_W_across 4 (some .int) :: wAll
abbrev b_W_numberOf : ByteArray := prog_4_method_5_code
abbrev y_W_numberOf : MethodName := ⟨"CutBodies$Ways", "numberOf", "(II)I"⟩
abbrev w_W_numberOf : List Cond := .code y_W_numberOf b_W_numberOf 2 (some .int) :: wAll
abbrev b_W_directionTo : ByteArray := prog_4_method_6_code
abbrev y_W_directionTo : MethodName := ⟨"CutBodies$Ways", "directionTo", "(II)I"⟩
abbrev w_W_directionTo : List Cond := .code y_W_directionTo b_W_directionTo 6 (some .int) :: wAll
abbrev b_W_compose : ByteArray := prog_4_method_7_code
abbrev y_W_compose : MethodName := ⟨"CutBodies$Ways", "compose", "(II)I"⟩
abbrev w_W_compose : List Cond := .code y_W_compose b_W_compose 2 (some .int) :: wAll
abbrev b_W_orderOf : ByteArray := prog_4_method_8_code
abbrev y_W_orderOf : MethodName := ⟨"CutBodies$Ways", "orderOf", "(I)I"⟩
abbrev w_W_orderOf : List Cond := .code y_W_orderOf b_W_orderOf 3 (some .int) :: wAll
abbrev b_W_part : ByteArray := prog_4_method_10_code
abbrev y_W_part : MethodName := ⟨"CutBodies$Ways", "part", "(III)I"⟩
abbrev w_W_part : List Cond := .code y_W_part b_W_part 3 (some .int) :: wAll
abbrev b_W_coordinate : ByteArray := prog_4_method_9_code
abbrev y_W_coordinate : MethodName := ⟨"CutBodies$Ways", "coordinate", "(IIIII)I"⟩
abbrev w_W_coordinate : List Cond := .code y_W_coordinate b_W_coordinate 7 (some .int) :: wAll
abbrev b_W_directionOf : ByteArray := prog_4_method_12_code
abbrev y_W_directionOf : MethodName := ⟨"CutBodies$Ways", "directionOf", "(III)I"⟩
abbrev w_W_directionOf : List Cond := .code y_W_directionOf b_W_directionOf 3 (some .int) :: wAll
abbrev b_W_stepAbout : ByteArray := prog_4_method_11_code
abbrev y_W_stepAbout : MethodName := ⟨"CutBodies$Ways", "stepAbout", "(III)I"⟩
abbrev w_W_stepAbout : List Cond := .code y_W_stepAbout b_W_stepAbout 8 (some .int) :: wAll
abbrev b_X_isWithin : ByteArray := prog_1_method_21_code
abbrev y_X_isWithin : MethodName := ⟨"CutBodies", "isWithin", "(II)Z"⟩
abbrev w_X_isWithin : List Cond := .code y_X_isWithin b_X_isWithin 2 (some .boolean) :: wAll
abbrev b_B_hasPoint : ByteArray := prog_2_method_2_code
abbrev y_B_hasPoint : MethodName := ⟨"CutBodies$Body", "hasPoint", "(I)Z"⟩
abbrev w_B_hasPoint : List Cond := .code y_B_hasPoint b_B_hasPoint 2 (some .boolean) :: wAll
abbrev b_B_hasPlane : ByteArray := prog_2_method_3_code
abbrev y_B_hasPlane : MethodName := ⟨"CutBodies$Body", "hasPlane", "(I)Z"⟩
abbrev w_B_hasPlane : List Cond := .code y_B_hasPlane b_B_hasPlane 2 (some .boolean) :: wAll
abbrev b_B_pointAt : ByteArray := prog_2_method_8_code
abbrev y_B_pointAt : MethodName := ⟨"CutBodies$Body", "pointAt", "(III)I"⟩
abbrev w_B_pointAt : List Cond := .code y_B_pointAt b_B_pointAt 5 (some .int) :: wAll
abbrev b_B_sideOf : ByteArray := prog_2_method_7_code
abbrev y_B_sideOf : MethodName := ⟨"CutBodies$Body", "sideOf", "(II)I"⟩
abbrev w_B_sideOf : List Cond := .code y_B_sideOf b_B_sideOf 3 (some .int) :: wAll
abbrev b_B_imageOf : ByteArray := prog_2_method_9_code
abbrev y_B_imageOf : MethodName := ⟨"CutBodies$Body", "imageOf", "(II)I"⟩
abbrev w_B_imageOf : List Cond := .code y_B_imageOf b_B_imageOf 6 (some .int) :: wAll
abbrev b_B_leastAlike : ByteArray := prog_2_method_10_code
abbrev y_B_leastAlike : MethodName := ⟨"CutBodies$Body", "leastAlike", "(I)I"⟩
abbrev w_B_leastAlike : List Cond := .code y_B_leastAlike b_B_leastAlike 3 (some .int) :: wAll
abbrev b_B_piecesBefore : ByteArray := prog_2_method_11_code
abbrev y_B_piecesBefore : MethodName := ⟨"CutBodies$Body", "piecesBefore", "(I)I"⟩
abbrev w_B_piecesBefore : List Cond := .code y_B_piecesBefore b_B_piecesBefore 4 (some .int) :: wAll
abbrev b_B_takesPointsToPoints : ByteArray := prog_2_method_12_code
abbrev y_B_takesPointsToPoints : MethodName := ⟨"CutBodies$Body", "takesPointsToPoints", "(I)Z"⟩
abbrev w_B_takesPointsToPoints : List Cond := .code y_B_takesPointsToPoints b_B_takesPointsToPoints 3 (some .boolean) :: wAll
abbrev b_B_isSamePlane : ByteArray := prog_2_method_15_code
abbrev y_B_isSamePlane : MethodName := ⟨"CutBodies$Body", "isSamePlane", "(IIIII)Z"⟩
abbrev w_B_isSamePlane : List Cond := .code y_B_isSamePlane b_B_isSamePlane 6 (some .boolean) :: wAll
abbrev b_B_hasPlaneWhere : ByteArray := prog_2_method_14_code
abbrev y_B_hasPlaneWhere : MethodName := ⟨"CutBodies$Body", "hasPlaneWhere", "(IIII)Z"⟩
abbrev w_B_hasPlaneWhere : List Cond := .code y_B_hasPlaneWhere b_B_hasPlaneWhere 6 (some .boolean) :: wAll
abbrev b_B_takesPlanesToPlanes : ByteArray := prog_2_method_13_code
abbrev y_B_takesPlanesToPlanes : MethodName := ⟨"CutBodies$Body", "takesPlanesToPlanes", "(I)Z"⟩
abbrev w_B_takesPlanesToPlanes : List Cond := .code y_B_takesPlanesToPlanes b_B_takesPlanesToPlanes 6 (some .boolean) :: wAll
abbrev b_B_noteSide : ByteArray := prog_2_method_6_code
abbrev y_B_noteSide : MethodName := ⟨"CutBodies$Body", "noteSide", "(II)V"⟩
abbrev w_B_noteSide : List Cond := .code y_B_noteSide b_B_noteSide 6 none :: wAll
abbrev b_B_addPoint : ByteArray := prog_2_method_4_code
abbrev y_B_addPoint : MethodName := ⟨"CutBodies$Body", "addPoint", "(III)I"⟩
abbrev w_B_addPoint : List Cond := .code y_B_addPoint b_B_addPoint 6 (some .int) :: wAll
abbrev b_B_addPlane : ByteArray := prog_2_method_5_code
abbrev y_B_addPlane : MethodName := ⟨"CutBodies$Body", "addPlane", "(IIII)I"⟩
abbrev w_B_addPlane : List Cond := .code y_B_addPlane b_B_addPlane 7 (some .int) :: wAll
abbrev b_A_fill : ByteArray := prog_8_method_103_code
abbrev y_A_fill : MethodName := ⟨"java/util/Arrays", "fill", "([II)V"⟩
abbrev w_A_fill : List Cond := .code y_A_fill b_A_fill 4 none :: wAll
abbrev b_C_putAllHome : ByteArray := prog_3_method_2_code
abbrev y_C_putAllHome : MethodName := ⟨"CutBodies$Contents", "putAllHome", "()V"⟩
abbrev w_C_putAllHome : List Cond := .code y_C_putAllHome b_C_putAllHome 2 none :: wAll
abbrev b_C_copyFrom : ByteArray := prog_3_method_3_code
abbrev y_C_copyFrom : MethodName := ⟨"CutBodies$Contents", "copyFrom", "(LCutBodies$Contents;)V"⟩
abbrev w_C_copyFrom : List Cond := .code y_C_copyFrom b_C_copyFrom 2 none :: wAll
abbrev b_C_rowsUntilBackAt : ByteArray := prog_3_method_4_code
abbrev y_C_rowsUntilBackAt : MethodName := ⟨"CutBodies$Contents", "rowsUntilBackAt", "(I)I"⟩
abbrev w_C_rowsUntilBackAt : List Cond := .code y_C_rowsUntilBackAt b_C_rowsUntilBackAt 5 (some .int) :: wAll
abbrev b_X_commonMultiple : ByteArray := prog_1_method_25_code
abbrev y_X_commonMultiple : MethodName := ⟨"CutBodies", "commonMultiple", "(II)I"⟩
abbrev w_X_commonMultiple : List Cond := .code y_X_commonMultiple b_X_commonMultiple 3 (some .int) :: wAll
abbrev b_X_hasAxis : ByteArray := prog_1_method_20_code
abbrev y_X_hasAxis : MethodName := ⟨"CutBodies", "hasAxis", "(I)Z"⟩
abbrev w_X_hasAxis : List Cond := .code y_X_hasAxis b_X_hasAxis 2 (some .boolean) :: wAll
abbrev b_X_order : ByteArray := prog_1_method_6_code
abbrev y_X_order : MethodName := ⟨"CutBodies", "order", "(I)I"⟩
abbrev w_X_order : List Cond := .code y_X_order b_X_order 2 (some .int) :: wAll
abbrev b_X_side : ByteArray := prog_1_method_7_code
abbrev y_X_side : MethodName := ⟨"CutBodies", "side", "(II)I"⟩
abbrev w_X_side : List Cond := .code y_X_side b_X_side 3 (some .int) :: wAll
abbrev b_X_pieces : ByteArray := prog_1_method_8_code
abbrev y_X_pieces : MethodName := ⟨"CutBodies", "pieces", "()I"⟩
abbrev w_X_pieces : List Cond := .code y_X_pieces b_X_pieces 1 (some .int) :: wAll
abbrev b_X_piece : ByteArray := prog_1_method_9_code
abbrev y_X_piece : MethodName := ⟨"CutBodies", "piece", "(I)I"⟩
abbrev w_X_piece : List Cond := .code y_X_piece b_X_piece 2 (some .int) :: wAll
abbrev b_X_image : ByteArray := prog_1_method_10_code
abbrev y_X_image : MethodName := ⟨"CutBodies", "image", "(II)I"⟩
abbrev w_X_image : List Cond := .code y_X_image b_X_image 3 (some .int) :: wAll
abbrev b_X_at : ByteArray := prog_1_method_12_code
abbrev y_X_at : MethodName := ⟨"CutBodies", "at", "(I)I"⟩
abbrev w_X_at : List Cond := .code y_X_at b_X_at 2 (some .int) :: wAll
abbrev b_X_way : ByteArray := prog_1_method_13_code
abbrev y_X_way : MethodName := ⟨"CutBodies", "way", "(I)I"⟩
abbrev w_X_way : List Cond := .code y_X_way b_X_way 2 (some .int) :: wAll
abbrev b_X_home : ByteArray := prog_1_method_14_code
abbrev y_X_home : MethodName := ⟨"CutBodies", "home", "()I"⟩
abbrev w_X_home : List Cond := .code y_X_home b_X_home 3 (some .int) :: wAll
abbrev b_X_maps : ByteArray := prog_1_method_15_code
abbrev y_X_maps : MethodName := ⟨"CutBodies", "maps", "(I)Z"⟩
abbrev w_X_maps : List Cond := .code y_X_maps b_X_maps 2 (some .boolean) :: wAll
abbrev b_X_rowsUntilBack : ByteArray := prog_1_method_24_code
abbrev y_X_rowsUntilBack : MethodName := ⟨"CutBodies", "rowsUntilBack", "()I"⟩
abbrev w_X_rowsUntilBack : List Cond := .code y_X_rowsUntilBack b_X_rowsUntilBack 3 (some .int) :: wAll
abbrev b_X_findTargets : ByteArray := prog_1_method_22_code
abbrev y_X_findTargets : MethodName := ⟨"CutBodies", "findTargets", "(II)I"⟩
abbrev w_X_findTargets : List Cond := .code y_X_findTargets b_X_findTargets 5 (some .int) :: wAll
abbrev b_X_turnByTargets : ByteArray := prog_1_method_23_code
abbrev y_X_turnByTargets : MethodName := ⟨"CutBodies", "turnByTargets", "(LCutBodies$Contents;I)V"⟩
abbrev w_X_turnByTargets : List Cond := .code y_X_turnByTargets b_X_turnByTargets 5 none :: wAll
abbrev b_X_plane : ByteArray := prog_1_method_4_code
abbrev y_X_plane : MethodName := ⟨"CutBodies", "plane", "(IIII)I"⟩
abbrev w_X_plane : List Cond := .code y_X_plane b_X_plane 5 (some .int) :: wAll
abbrev b_X_axis : ByteArray := prog_1_method_5_code
abbrev y_X_axis : MethodName := ⟨"CutBodies", "axis", "(III)I"⟩
abbrev w_X_axis : List Cond := .code y_X_axis b_X_axis 4 (some .int) :: wAll
abbrev b_X_point : ByteArray := prog_1_method_2_code
abbrev y_X_point : MethodName := ⟨"CutBodies", "point", "(III)I"⟩
abbrev w_X_point : List Cond := .code y_X_point b_X_point 5 (some .int) :: wAll
abbrev b_X_cycle : ByteArray := prog_1_method_16_code
abbrev y_X_cycle : MethodName := ⟨"CutBodies", "cycle", "(III)I"⟩
abbrev w_X_cycle : List Cond := .code y_X_cycle b_X_cycle 6 (some .int) :: wAll
abbrev b_X_turn : ByteArray := prog_1_method_11_code
abbrev y_X_turn : MethodName := ⟨"CutBodies", "turn", "(III)I"⟩
abbrev w_X_turn : List Cond := .code y_X_turn b_X_turn 6 (some .int) :: wAll
abbrev b_X_rounds : ByteArray := prog_1_method_17_code
abbrev y_X_rounds : MethodName := ⟨"CutBodies", "rounds", "(I)I"⟩
abbrev w_X_rounds : List Cond := .code y_X_rounds b_X_rounds 3 (some .int) :: wAll
abbrev b_X_cube : ByteArray := prog_1_method_3_code
abbrev y_X_cube : MethodName := ⟨"CutBodies", "cube", "(I)I"⟩
abbrev w_X_cube : List Cond := .code y_X_cube b_X_cube 6 (some .int) :: wAll
abbrev b_M_isSmall : ByteArray := prog_6_method_8_code
abbrev y_M_isSmall : MethodName := ⟨"CutBodiesModel", "isSmall", "(I)Z"⟩
abbrev w_M_isSmall : List Cond := .code y_M_isSmall b_M_isSmall 1 (some .boolean) :: wAll
abbrev b_M_isArrow : ByteArray := prog_6_method_13_code
abbrev y_M_isArrow : MethodName := ⟨"CutBodiesModel", "isArrow", "(I)Z"⟩
abbrev w_M_isArrow : List Cond := .code y_M_isArrow b_M_isArrow 1 (some .boolean) :: wAll
abbrev b_M_arrow : ByteArray := prog_6_method_27_code
abbrev y_M_arrow : MethodName := ⟨"CutBodiesModel", "arrow", "(II)I"⟩
abbrev w_M_arrow : List Cond := .code y_M_arrow b_M_arrow 2 (some .int) :: wAll
abbrev b_M_arrowOf : ByteArray := prog_6_method_28_code
abbrev y_M_arrowOf : MethodName := ⟨"CutBodiesModel", "arrowOf", "(III)I"⟩
abbrev w_M_arrowOf : List Cond := .code y_M_arrowOf b_M_arrowOf 3 (some .int) :: wAll
abbrev b_M_wayOf : ByteArray := prog_6_method_29_code
abbrev y_M_wayOf : MethodName := ⟨"CutBodiesModel", "wayOf", "(II)I"⟩
abbrev w_M_wayOf : List Cond := .code y_M_wayOf b_M_wayOf 4 (some .int) :: wAll
abbrev b_M_secondOf : ByteArray := prog_6_method_30_code
abbrev y_M_secondOf : MethodName := ⟨"CutBodiesModel", "secondOf", "(I)I"⟩
abbrev w_M_secondOf : List Cond := .code y_M_secondOf b_M_secondOf 4 (some .int) :: wAll
abbrev b_M_isCross : ByteArray := prog_6_method_40_code
abbrev y_M_isCross : MethodName := ⟨"CutBodiesModel", "isCross", "(IIII)Z"⟩
abbrev w_M_isCross : List Cond := .code y_M_isCross b_M_isCross 4 (some .boolean) :: wAll
abbrev b_M_isPoint : ByteArray := prog_6_method_3_code
abbrev y_M_isPoint : MethodName := ⟨"CutBodiesModel", "isPoint", "(I)Z"⟩
abbrev w_M_isPoint : List Cond := .code y_M_isPoint b_M_isPoint 2 (some .boolean) :: wAll
abbrev b_M_isPlane : ByteArray := prog_6_method_4_code
abbrev y_M_isPlane : MethodName := ⟨"CutBodiesModel", "isPlane", "(I)Z"⟩
abbrev w_M_isPlane : List Cond := .code y_M_isPlane b_M_isPlane 2 (some .boolean) :: wAll
abbrev b_M_isAxis : ByteArray := prog_6_method_5_code
abbrev y_M_isAxis : MethodName := ⟨"CutBodiesModel", "isAxis", "(I)Z"⟩
abbrev w_M_isAxis : List Cond := .code y_M_isAxis b_M_isAxis 2 (some .boolean) :: wAll
abbrev b_M_pointAt : ByteArray := prog_6_method_6_code
abbrev y_M_pointAt : MethodName := ⟨"CutBodiesModel", "pointAt", "(III)I"⟩
abbrev w_M_pointAt : List Cond := .code y_M_pointAt b_M_pointAt 5 (some .int) :: wAll
abbrev b_M_kind : ByteArray := prog_6_method_15_code
abbrev y_M_kind : MethodName := ⟨"CutBodiesModel", "kind", "(I)I"⟩
abbrev w_M_kind : List Cond := .code y_M_kind b_M_kind 4 (some .int) :: wAll
abbrev b_M_sideOf : ByteArray := prog_6_method_20_code
abbrev y_M_sideOf : MethodName := ⟨"CutBodiesModel", "sideOf", "(II)I"⟩
abbrev w_M_sideOf : List Cond := .code y_M_sideOf b_M_sideOf 4 (some .int) :: wAll
abbrev b_M_isAlike : ByteArray := prog_6_method_22_code
abbrev y_M_isAlike : MethodName := ⟨"CutBodiesModel", "isAlike", "(II)Z"⟩
abbrev w_M_isAlike : List Cond := .code y_M_isAlike b_M_isAlike 4 (some .boolean) :: wAll
abbrev b_M_leastOf : ByteArray := prog_6_method_23_code
abbrev y_M_leastOf : MethodName := ⟨"CutBodiesModel", "leastOf", "(I)I"⟩
abbrev w_M_leastOf : List Cond := .code y_M_leastOf b_M_leastOf 3 (some .int) :: wAll
abbrev b_M_piecesTo : ByteArray := prog_6_method_24_code
abbrev y_M_piecesTo : MethodName := ⟨"CutBodiesModel", "piecesTo", "(I)I"⟩
abbrev w_M_piecesTo : List Cond := .code y_M_piecesTo b_M_piecesTo 4 (some .int) :: wAll
abbrev b_M_isNow : ByteArray := prog_6_method_44_code
abbrev y_M_isNow : MethodName := ⟨"CutBodiesModel", "isNow", "()Z"⟩
abbrev w_M_isNow : List Cond := .code y_M_isNow b_M_isNow 2 (some .boolean) :: wAll
abbrev b_M_own : ByteArray := prog_6_method_7_code
abbrev y_M_own : MethodName := ⟨"CutBodiesModel", "own", "()V"⟩
abbrev w_M_own : List Cond := .code y_M_own b_M_own 2 none :: wAll
abbrev b_M_add : ByteArray := prog_6_method_9_code
abbrev y_M_add : MethodName := ⟨"CutBodiesModel", "add", "(III)Z"⟩
abbrev w_M_add : List Cond := .code y_M_add b_M_add 4 (some .boolean) :: wAll
abbrev b_M_step : ByteArray := prog_6_method_17_code
abbrev y_M_step : MethodName := ⟨"CutBodiesModel", "step", "(IIII)V"⟩
abbrev w_M_step : List Cond := .code y_M_step b_M_step 13 none :: wAll
abbrev b_M_imageOf : ByteArray := prog_6_method_18_code
abbrev y_M_imageOf : MethodName := ⟨"CutBodiesModel", "imageOf", "(II)I"⟩
abbrev w_M_imageOf : List Cond := .code y_M_imageOf b_M_imageOf 3 (some .int) :: wAll
abbrev b_M_taken : ByteArray := prog_6_method_31_code
abbrev y_M_taken : MethodName := ⟨"CutBodiesModel", "taken", "(II)I"⟩
abbrev w_M_taken : List Cond := .code y_M_taken b_M_taken 3 (some .int) :: wAll
abbrev b_M_wayBehind : ByteArray := prog_6_method_32_code
abbrev y_M_wayBehind : MethodName := ⟨"CutBodiesModel", "wayBehind", "(II)I"⟩
abbrev w_M_wayBehind : List Cond := .code y_M_wayBehind b_M_wayBehind 3 (some .int) :: wAll
abbrev b_M_blocked : ByteArray := prog_6_method_33_code
abbrev y_M_blocked : MethodName := ⟨"CutBodiesModel", "blocked", "(II)I"⟩
abbrev w_M_blocked : List Cond := .code y_M_blocked b_M_blocked 5 (some .int) :: wAll
abbrev b_M_plan : ByteArray := prog_6_method_34_code
abbrev y_M_plan : MethodName := ⟨"CutBodiesModel", "plan", "(III)V"⟩
abbrev w_M_plan : List Cond := .code y_M_plan b_M_plan 5 none :: wAll
abbrev b_M_turnOnce : ByteArray := prog_6_method_35_code
abbrev y_M_turnOnce : MethodName := ⟨"CutBodiesModel", "turnOnce", "(II)V"⟩
abbrev w_M_turnOnce : List Cond := .code y_M_turnOnce b_M_turnOnce 5 none :: wAll
abbrev b_M_isThere : ByteArray := prog_6_method_41_code
abbrev y_M_isThere : MethodName := ⟨"CutBodiesModel", "isThere", "(II)Z"⟩
abbrev w_M_isThere : List Cond := .code y_M_isThere b_M_isThere 9 (some .boolean) :: wAll
abbrev b_M_order : ByteArray := prog_6_method_16_code
abbrev y_M_order : MethodName := ⟨"CutBodiesModel", "order", "(I)I"⟩
abbrev w_M_order : List Cond := .code y_M_order b_M_order 2 (some .int) :: wAll
abbrev b_M_side : ByteArray := prog_6_method_21_code
abbrev y_M_side : MethodName := ⟨"CutBodiesModel", "side", "(II)I"⟩
abbrev w_M_side : List Cond := .code y_M_side b_M_side 3 (some .int) :: wAll
abbrev b_M_pieces : ByteArray := prog_6_method_25_code
abbrev y_M_pieces : MethodName := ⟨"CutBodiesModel", "pieces", "()I"⟩
abbrev w_M_pieces : List Cond := .code y_M_pieces b_M_pieces 1 (some .int) :: wAll
abbrev b_M_piece : ByteArray := prog_6_method_26_code
abbrev y_M_piece : MethodName := ⟨"CutBodiesModel", "piece", "(I)I"⟩
abbrev w_M_piece : List Cond := .code y_M_piece b_M_piece 2 (some .int) :: wAll
abbrev b_M_image : ByteArray := prog_6_method_19_code
abbrev y_M_image : MethodName := ⟨"CutBodiesModel", "image", "(II)I"⟩
abbrev w_M_image : List Cond := .code y_M_image b_M_image 3 (some .int) :: wAll
abbrev b_M_at : ByteArray := prog_6_method_37_code
abbrev y_M_at : MethodName := ⟨"CutBodiesModel", "at", "(I)I"⟩
abbrev w_M_at : List Cond := .code y_M_at b_M_at 2 (some .int) :: wAll
abbrev b_M_way : ByteArray := prog_6_method_38_code
abbrev y_M_way : MethodName := ⟨"CutBodiesModel", "way", "(I)I"⟩
abbrev w_M_way : List Cond := .code y_M_way b_M_way 2 (some .int) :: wAll
abbrev b_M_home : ByteArray := prog_6_method_39_code
abbrev y_M_home : MethodName := ⟨"CutBodiesModel", "home", "()I"⟩
abbrev w_M_home : List Cond := .code y_M_home b_M_home 3 (some .int) :: wAll
abbrev b_M_maps : ByteArray := prog_6_method_42_code
abbrev y_M_maps : MethodName := ⟨"CutBodiesModel", "maps", "(I)Z"⟩
abbrev w_M_maps : List Cond := .code y_M_maps b_M_maps 3 (some .boolean) :: wAll
abbrev b_M_cycle : ByteArray := prog_6_method_43_code
abbrev y_M_cycle : MethodName := ⟨"CutBodiesModel", "cycle", "(III)I"⟩
abbrev w_M_cycle : List Cond := .code y_M_cycle b_M_cycle 6 (some .int) :: wAll
abbrev b_M_plane : ByteArray := prog_6_method_12_code
abbrev y_M_plane : MethodName := ⟨"CutBodiesModel", "plane", "(IIII)I"⟩
abbrev w_M_plane : List Cond := .code y_M_plane b_M_plane 5 (some .int) :: wAll
abbrev b_M_axis : ByteArray := prog_6_method_14_code
abbrev y_M_axis : MethodName := ⟨"CutBodiesModel", "axis", "(III)I"⟩
abbrev w_M_axis : List Cond := .code y_M_axis b_M_axis 4 (some .int) :: wAll
abbrev b_M_point : ByteArray := prog_6_method_10_code
abbrev y_M_point : MethodName := ⟨"CutBodiesModel", "point", "(III)I"⟩
abbrev w_M_point : List Cond := .code y_M_point b_M_point 4 (some .int) :: wAll
abbrev b_M_cube : ByteArray := prog_6_method_11_code
abbrev y_M_cube : MethodName := ⟨"CutBodiesModel", "cube", "(I)I"⟩
abbrev w_M_cube : List Cond := .code y_M_cube b_M_cube 6 (some .int) :: wAll
abbrev b_M_turn : ByteArray := prog_6_method_36_code
abbrev y_M_turn : MethodName := ⟨"CutBodiesModel", "turn", "(III)I"⟩
abbrev w_M_turn : List Cond := .code y_M_turn b_M_turn 6 (some .int) :: wAll
abbrev b_M_rounds : ByteArray := prog_6_method_45_code
abbrev y_M_rounds : MethodName := ⟨"CutBodiesModel", "rounds", "(I)I"⟩
abbrev w_M_rounds : List Cond := .code y_M_rounds b_M_rounds 5 (some .int) :: wAll
abbrev b_M_keep : ByteArray := prog_6_method_46_code
abbrev y_M_keep : MethodName := ⟨"CutBodiesModel", "keep", "()I"⟩
abbrev w_M_keep : List Cond := .code y_M_keep b_M_keep 2 (some .int) :: wAll
abbrev b_M_back : ByteArray := prog_6_method_47_code
abbrev y_M_back : MethodName := ⟨"CutBodiesModel", "back", "(I)Z"⟩
abbrev w_M_back : List Cond := .code y_M_back b_M_back 3 (some .boolean) :: wAll
abbrev b_B_init : ByteArray := prog_2_method_1_code
abbrev y_B_init : MethodName := ⟨"CutBodies$Body", "<init>", "()V"⟩
abbrev w_B_init : List Cond := .code y_B_init b_B_init 1 none :: wAll
abbrev b_C_init : ByteArray := prog_3_method_1_code
abbrev y_C_init : MethodName := ⟨"CutBodies$Contents", "<init>", "()V"⟩
abbrev w_C_init : List Cond := .code y_C_init b_C_init 2 none :: wAll
abbrev b_X_init : ByteArray := prog_1_method_1_code
abbrev y_X_init : MethodName := ⟨"CutBodies", "<init>", "()V"⟩
abbrev w_X_init : List Cond := .code y_X_init b_X_init 1 none :: wAll
abbrev b_M_init : ByteArray := prog_6_method_1_code
abbrev y_M_init : MethodName := ⟨"CutBodiesModel", "<init>", "()V"⟩
abbrev w_M_init : List Cond := .code y_M_init b_M_init 1 none :: wAll
abbrev b_X_keep : ByteArray := prog_1_method_18_code
abbrev y_X_keep : MethodName := ⟨"CutBodies", "keep", "()I"⟩
abbrev w_X_keep : List Cond := .code y_X_keep b_X_keep 2 (some .int) :: wAll
abbrev b_X_back : ByteArray := prog_1_method_19_code
abbrev y_X_back : MethodName := ⟨"CutBodies", "back", "(I)Z"⟩
abbrev w_X_back : List Cond := .code y_X_back b_X_back 3 (some .boolean) :: wAll

def f_X_keep_no (nK : Int32) : Option (Int32) := some (-1)
def f_X_keep_yes (nK : Int32) (nP : Int32) (nO : Nat → Int32) (nT : Nat → Int32) (kQ : Nat → Int32) : Option (Int32 × Int32 × (Nat → Int32) × (Nat → Int32) × (Nat → Int32)) := oCall2 (f_C_init) (fun u15_w7 u15_w15 => oCall2 (f_C_copyFrom u15_w7 u15_w15 nO nT) (fun o1 o2 => oIn nK 10 (oIn nK 10 (oLet (upd kQ nK.toNatClampNeg nP) (fun a5 => oLet (nK + 1) (fun v6 => some ((v6 - 1), v6, a5, o1, o2)))))))
def f_X_back_neg (x1 : Int32) : Option (Int32) := some 0
def f_X_back_big (nK : Int32) (x1 : Int32) : Option (Int32) := some 0
def f_X_back_came (nK : Int32) (nP : Int32) (kQ : Nat → Int32) (x1 : Int32) : Option (Int32) := oIn x1 10 (oIn x1 10 (some 0))
def f_X_back_yes (nK : Int32) (nP : Int32) (nO : Nat → Int32) (nT : Nat → Int32) (kQ : Nat → Int32) (yO : Nat → Int32) (yT : Nat → Int32) (x1 : Int32) : Option (Int32 × (Nat → Int32) × (Nat → Int32)) := oIn x1 10 (oIn x1 10 (oCall2 (f_C_copyFrom nO nT yO yT) (fun o3 o4 => some (1, o3, o4))))

def f_M_isSmall (x0 : Int32) : Option (Int32) := if x0 < (-9) then some 0 else if (9 : Int32) < x0 then some 0 else some 1
def f_M_isArrow (x0 : Int32) : Option (Int32) := if x0 < (-1) then some 0 else if (1 : Int32) < x0 then some 0 else some 1
def f_M_arrow (x0 : Int32) (x1 : Int32) : Option (Int32) := if (x0 / 2) = x1 then if (x0 - x0 / 2 * 2) = 0 then some 1 else some (-1) else some 0
def f_M_arrowOf (x0 : Int32) (x1 : Int32) (x2 : Int32) : Option (Int32) := if x0 = 0 then if x1 = 0 then if x2 ≤ 0 then some 5 else some 4 else if x1 ≤ 0 then some 3 else some 2 else if x0 ≤ 0 then some 1 else some 0
def f_M_wayOf_J24 (rec4 : Int32 → Int32 → Option (Int32)) (x0 : Int32) (x1 : Int32) (x3 : Int32) (t0 : Int32) (t1 : Int32) : Option (Int32) := oLet (t0 + t1) (fun v1 => oLet (x3 + 1) (fun v2 => rec4 v1 v2))
def f_M_wayOf_L4 (x0 : Int32) (x1 : Int32) (rec4 : Int32 → Int32 → Option (Int32)) (x2 : Int32) (x3 : Int32) : Option (Int32) := if x1 ≤ x3 then some ((4 * x0) + x2) else if (x3 / 2) = (x0 / 2) then f_M_wayOf_J24 rec4  x0 x1 x3 x2 0 else f_M_wayOf_J24 rec4  x0 x1 x3 x2 1
def f_M_wayOf (x0 : Int32) (x1 : Int32) : Option (Int32) := oLoop2 (f_M_wayOf_L4   x0 x1) 100 0 0
def f_M_secondOf_J38 (rec10 : Int32 → Int32 → Option (Int32)) (x1 : Int32) (x3 : Int32) (t0 : Int32) (t1 : Int32) : Option (Int32) := oLet (t0 - t1) (fun v1 => oLet (x3 + 1) (fun v2 => rec10 v1 v2))
def f_M_secondOf_J23 (rec10 : Int32 → Int32 → Option (Int32)) (x1 : Int32) (x2 : Int32) (x3 : Int32) : Option (Int32) := if (x3 / 2) = (x1 / 2) then f_M_secondOf_J38 rec10  x1 x3 x2 0 else f_M_secondOf_J38 rec10  x1 x3 x2 1
def f_M_secondOf_L10 (x1 : Int32) (rec10 : Int32 → Int32 → Option (Int32)) (x2 : Int32) (x3 : Int32) : Option (Int32) := if (x3 / 2) = (x1 / 2) then f_M_secondOf_J23 rec10  x1 x2 x3 else if x2 ≤ 0 then some x3 else f_M_secondOf_J23 rec10  x1 x2 x3
def f_M_secondOf (x0 : Int32) : Option (Int32) := oLet (x0 / 4) (fun v6 => oLet (x0 - x0 / 4 * 4) (fun v7 => oLoop2 (f_M_secondOf_L10   v6) 100 v7 0))
def f_M_isCross (x0 : Int32) (x1 : Int32) (x2 : Int32) (x3 : Int32) : Option (Int32) := if (x0 * x3) = (x1 * x2) then some 1 else some 0

def f_X6_within (a1 : Int32) (a2 : Int32) (a3 : Int32) : Option (Int32) :=
    if a1 < a2 then (some (0 : Int32))
  else if a3 < a1 then (some (0 : Int32))
  else some (1 : Int32)
def f_X6_isPlace (a1 : Int32) : Option (Int32) :=
    if a1 < 0 then (some (0 : Int32))
  else if (11 : Int32) ≤ a1 then (some (0 : Int32))
  else some (1 : Int32)
def f_X6_isHouse (a1 : Int32) : Option (Int32) :=
    if a1 < 0 then (some (0 : Int32))
  else if (10 : Int32) ≤ a1 then (some (0 : Int32))
  else some (1 : Int32)
def f_X6_isTale (a1 : Int32) : Option (Int32) :=
    if a1 < 0 then (some (0 : Int32))
  else if (10 : Int32) ≤ a1 then (some (0 : Int32))
  else some (1 : Int32)
def f_X6_isIn (a1 : Int32) (a2 : Int32) : Option (Int32) :=
    if ((a2 >>> (a1 &&& 31)) &&& 1) = 1 then (some (1 : Int32))
  else some (0 : Int32)
def f_J6_bitCount_0f7a4 (a1 : Int32) : Option (Int32) :=
    q_bd (a1 - (((a1.toUInt32 >>> ((1 : Int32).toUInt32 &&& Int32.toUInt32 31)).toInt32) &&& 1431655765)) fun v0_1 =>
  q_bd ((v0_1 &&& 858993459) + (((v0_1.toUInt32 >>> ((2 : Int32).toUInt32 &&& Int32.toUInt32 31)).toInt32) &&& 858993459)) fun v0_3 =>
  q_bd ((v0_3 + ((v0_3.toUInt32 >>> ((4 : Int32).toUInt32 &&& Int32.toUInt32 31)).toInt32)) &&& 252645135) fun v0_5 =>
  q_bd (v0_5 + ((v0_5.toUInt32 >>> ((8 : Int32).toUInt32 &&& Int32.toUInt32 31)).toInt32)) fun v0_7 =>
  q_bd (v0_7 + ((v0_7.toUInt32 >>> ((16 : Int32).toUInt32 &&& Int32.toUInt32 31)).toInt32)) fun v0_9 =>
  some (v0_9 &&& 63)
def b_J7_fill_53178_5 (nR : Nat) (a2 : Int32) (v3_1 : Int32) (k again : (Int32 × qS) → Option (qS)) (s : Int32 × qS) : Option (qS) :=
    if v3_1 ≤ s.1 then (k (s.1, s.2))
  else q_wr s.2 0 nR s.1 a2 fun σR_5 =>
  again (s.1 + 1, σR_5)
def f_J7_fill_53178 (nR : Nat) (σR : qS) (a2 : Int32) : Option (qS) :=
    q_bd (nI nR) fun v3_1 =>
  q_lp (b_J7_fill_53178_5 nR a2 v3_1) (fun z3 => some z3.2) 20000 ((0 : Int32), σR)

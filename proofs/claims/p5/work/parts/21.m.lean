def f_X7_in (a1 : Int64) (a2 : Int64) (a3 : Int64) : Option (Int32) :=
    if (lg_cmp a1 a2) < 0 then (some (0 : Int32))
  else if (0 : Int32) < (lg_cmp a1 a3) then (some (0 : Int32))
  else some (1 : Int32)
def b_X7_ones_4 (k again : (Int32 × Int32) → Option (Int32)) (s : Int32 × Int32) : Option (Int32) :=
    if s.1 = 0 then (k (s.1, s.2))
  else q_bd (s.1 &&& (s.1 - 1)) fun v2_3 =>
  again (v2_3, s.2 + 1)
def f_X7_ones (a1 : Int32) : Option (Int32) :=
    q_lp (b_X7_ones_4) (fun z1 => some z1.2) 20000 (a1, (0 : Int32))
def f_X7_isHouse (a1 : Int32) : Option (Int32) :=
    q_cl (f_X7_in a1.toInt64 (0 : Int64) (9 : Int64)) fun r_1 =>
  q_chk (q_isB r_1) <| some r_1
def f_X7_isPlace (a1 : Int32) : Option (Int32) :=
    q_cl (f_X7_in a1.toInt64 (0 : Int64) (10 : Int64)) fun r_1 =>
  q_chk (q_isB r_1) <| some r_1
def f_X7_isTale (a1 : Int32) : Option (Int32) :=
    q_cl (f_X7_in a1.toInt64 (0 : Int64) (9 : Int64)) fun r_1 =>
  q_chk (q_isB r_1) <| some r_1
def f_X7_cooled (a1 : Int32) (a2 : Int32) : Option (Int32) :=
    if a1 ≤ a2 then (some (0 : Int32))
  else some (a1 - a2)
def b_X7_lowest_6 (k again : (Int64 × Int64) → Option (Int64)) (s : Int64 × Int64) : Option (Int64) :=
    if (lg_cmp s.1 (0 : Int64)) = 0 then (k (s.1, s.2))
  else q_nzL s.1 <|
  q_bd (s.2 - s.2 / s.1 * s.1) fun v9_7 =>
  again (v9_7, s.1)
def f_X7_lowest (a1 : Int64) (a2 : Int64) (a3 : Int32) : Option (Int64) :=
    q_lp (b_X7_lowest_6) (fun z1 => if a3 = 0 then (q_nzL z1.2 <|
  some (a1 / z1.2))
  else q_nzL z1.2 <|
  some (a2 / z1.2)) 1152921504606846976 (a1, a2)
def f_X7_isRow (a1 : Int32) (a2 : Int32) (a3 : Int32) (a4 : Int32) : Option (Int32) :=
    q_cl (f_X7_in a1.toInt64 (0 : Int64) (10 : Int64)) fun r_1 =>
  if r_1 = 0 then (some (0 : Int32))
  else q_cl (f_X7_in a2.toInt64 (0 : Int64) (10 : Int64)) fun r_4 =>
  if r_4 = 0 then (some (0 : Int32))
  else q_cl (f_X7_in a3.toInt64 (0 : Int64) (10 : Int64)) fun r_7 =>
  if r_7 = 0 then (some (0 : Int32))
  else q_cl (f_X7_in a4.toInt64 (0 : Int64) a1.toInt64) fun r_10 =>
  if r_10 = 0 then (some (0 : Int32))
  else some (1 : Int32)
def f_X7_actBy (a1 : Int32) : Option (Int32) :=
    if (3 : Int32) ≤ a1 then (if (5 : Int32) ≤ a1 then (if a1 = 5 then (some (3 : Int32))
  else if a1 = 6 then (some (0 : Int32))
  else some (4 : Int32))
  else some (2 : Int32))
  else some (1 : Int32)

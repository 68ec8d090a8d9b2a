def f_X1_longBetween (σC : qS) (a1 : Int32) (a2 : Int32) : Option (Int32) :=
    q_cl (f_X6_isPlace a1) fun r_1 =>
  if r_1 = 0 then (some (0 : Int32))
  else q_cl (f_X6_isPlace a2) fun r_4 =>
  if r_4 = 0 then (some (0 : Int32))
  else q_rd σC 0 121 ((a1 * 11) + a2) fun r_7 =>
  some r_7
def f_X1_layRoad (σC : qS) (a1 : Int32) (a2 : Int32) (a3 : Int32) : Option (qS) :=
    q_cl (f_X6_isPlace a1) fun r_1 =>
  if r_1 = 0 then (some σC)
  else q_cl (f_X6_isPlace a2) fun r_4 =>
  if r_4 = 0 then (some σC)
  else q_wr σC 0 121 ((a1 * 11) + a2) a3 fun σC_7 =>
  q_wr σC_7 0 121 ((a2 * 11) + a1) a3 fun σC_10 =>
  some σC_10
def f_X1_doubtOf (σC : qS) (a1 : Int32) : Option (Int32) :=
    q_cl (f_X6_isHouse a1) fun r_1 =>
  if r_1 = 0 then (some (9 : Int32))
  else q_rd σC 1 10 a1 fun r_4 =>
  some r_4
def f_X1_isDamp (σC : qS) (a1 : Int32) : Option (Int32) :=
    q_cl (f_X6_isHouse a1) fun r_1 =>
  if r_1 = 0 then (some (0 : Int32))
  else q_rd σC 2 10 a1 fun r_4 =>
  if r_4 = 1 then (some (1 : Int32))
  else some (0 : Int32)
def f_X1_beliefOf (σC : qS) (a1 : Int32) : Option (Int32) :=
    q_cl (f_X6_isHouse a1) fun r_1 =>
  if r_1 = 0 then (some (-6 : Int32))
  else q_rd σC 3 10 a1 fun r_4 =>
  some r_4
def f_X1_furnish (σC : qS) (a1 : Int32) (a2 : Int32) (a3 : Int32) : Option (qS) :=
    q_cl (f_X6_isHouse a1) fun r_1 =>
  if r_1 = 0 then (some σC)
  else q_wr σC 1 10 a1 a2 fun σC_4 =>
  q_wr σC_4 2 10 a1 a3 fun σC_7 =>
  some σC_7
def f_X1_convince (σC : qS) (a1 : Int32) (a2 : Int32) : Option (qS) :=
    q_cl (f_X6_isHouse a1) fun r_1 =>
  if r_1 = 0 then (some σC)
  else q_wr σC 3 10 a1 a2 fun σC_4 =>
  some σC_4
def f_X1_houseFact (σC : qS) (a1 : Int32) (a2 : Int32) : Option (Int32) :=
    if a2 = 0 then (q_cl (f_X1_beliefOf σC a1) fun r_2 =>
  some r_2)
  else if a2 = 1 then (q_cl (f_X1_doubtOf σC a1) fun r_5 =>
  some r_5)
  else q_cl (f_X1_isDamp σC a1) fun r_7 =>
  if r_7 = 0 then (some (0 : Int32))
  else some (1 : Int32)
def f_X1_panFact (σC : qS) (a1 : Int32) : Option (Int32) :=
    if a1 = 0 then (some (σC 99 8))
  else if a1 = 1 then (some (σC 99 9))
  else if a1 = 2 then (some (σC 99 10))
  else some (σC 99 11)
def b_X1_believersOf_4 (σC : qS) (a1 : Int32) (k again : (Int32 × Int32) → Option (Int32)) (s : Int32 × Int32) : Option (Int32) :=
    if (10 : Int32) ≤ s.1 then (k (s.1, s.2))
  else q_rd σC 3 10 s.1 fun r_3 =>
  if r_3 = a1 then (q_bd (s.2 ||| ((1 : Int32) <<< (s.1 &&& 31))) fun v2_7 =>
  again (s.1 + 1, v2_7))
  else again (s.1 + 1, s.2)
def f_X1_believersOf (σC : qS) (a1 : Int32) : Option (Int32) :=
    q_lp (b_X1_believersOf_4 σC a1) (fun z1 => some z1.2) 20000 ((0 : Int32), (0 : Int32))
def f_X1_fadesInto (σC : qS) (a1 : Int32) : Option (Int32) :=
    q_cl (f_X6_isTale a1) fun r_1 =>
  if r_1 = 0 then (some (-6 : Int32))
  else q_rd σC 4 10 a1 fun r_4 =>
  some r_4
def f_X1_letFade (σC : qS) (a1 : Int32) (a2 : Int32) : Option (qS) :=
    q_cl (f_X6_isTale a1) fun r_1 =>
  if r_1 = 0 then (some σC)
  else q_wr σC 4 10 a1 a2 fun σC_4 =>
  some σC_4

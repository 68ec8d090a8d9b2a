def f_X5_leastWay (σW : qS) (a1 : Int32) (a2 : Int32) : Option (Int32) :=
    q_cl (f_X6_isPlace a1) fun r_1 =>
  if r_1 = 0 then (some (1000 : Int32))
  else q_cl (f_X6_isPlace a2) fun r_4 =>
  if r_4 = 0 then (some (1000 : Int32))
  else q_rd σW 0 121 ((a1 * 11) + a2) fun r_7 =>
  some r_7
def b_X5_shortenPast_2 (a1 : Int32) (a2 : Int32) (k again : (Int32 × qS) → Option (qS)) (s : Int32 × qS) : Option (qS) :=
    if (11 : Int32) ≤ s.1 then (k (s.1, s.2))
  else q_cl (f_X5_leastWay s.2 a2 a1) fun r_3 =>
  q_cl (f_X5_leastWay s.2 a1 s.1) fun r_5 =>
  q_bd (r_3 + r_5) fun v4_7 =>
  q_cl (f_X5_leastWay s.2 a2 s.1) fun r_9 =>
  if r_9 ≤ v4_7 then (again (s.1 + 1, s.2))
  else q_cl (f_X6_isPlace a2) fun r_12 =>
  if r_12 = 0 then (again (s.1 + 1, s.2))
  else q_wr s.2 0 121 ((a2 * 11) + s.1) v4_7 fun σW_15 =>
  again (s.1 + 1, σW_15)
def f_X5_shortenPast (σW : qS) (a1 : Int32) (a2 : Int32) : Option (qS) :=
    q_lp (b_X5_shortenPast_2 a1 a2) (fun z1 => some z1.2) 20000 ((0 : Int32), σW)
def b_X5_measure_82 (v2_2 : Int32) (k again : (Int32 × qS) → Option (qS)) (s : Int32 × qS) : Option (qS) :=
    if (11 : Int32) ≤ s.1 then (k (s.1, s.2))
  else q_cl (f_X5_shortenPast s.2 v2_2 s.1) fun σW_6 =>
  again (s.1 + 1, σW_6)
def b_X5_measure_74 (k again : (Int32 × qS) → Option (qS)) (s : Int32 × qS) : Option (qS) :=
    if (11 : Int32) ≤ s.1 then (k (s.1, s.2))
  else q_lp (b_X5_measure_82 s.1) (fun z4 => again (s.1 + 1, z4.2)) 20000 ((0 : Int32), s.2)
def b_X5_measure_10 (σC : qS) (v2_1 : Int32) (k again : (Int32 × qS) → Option (qS)) (s : Int32 × qS) : Option (qS) :=
    if (11 : Int32) ≤ s.1 then (k (s.1, s.2))
  else q_cl (f_X1_longBetween σC v2_1 s.1) fun r_14 =>
  if r_14 ≤ 0 then (q_wr s.2 0 121 ((v2_1 * 11) + s.1) (1000 : Int32) fun σW_17 =>
  again (s.1 + 1, σW_17))
  else q_wr s.2 0 121 ((v2_1 * 11) + s.1) r_14 fun σW_20 =>
  again (s.1 + 1, σW_20)
def b_X5_measure_2 (σC : qS) (k again : (Int32 × qS) → Option (qS)) (s : Int32 × qS) : Option (qS) :=
    if (11 : Int32) ≤ s.1 then (k (s.1, s.2))
  else q_lp (b_X5_measure_10 σC s.1) (fun z9 => q_wr z9.2 0 121 ((s.1 * 11) + s.1) (0 : Int32) fun σW_10 =>
  again (s.1 + 1, σW_10)) 20000 ((0 : Int32), s.2)
def f_X5_measure (σW : qS) (σC : qS) : Option (qS) :=
    q_lp (b_X5_measure_2 σC) (fun z1 => q_lp (b_X5_measure_74) (fun z2 => some z2.2) 20000 ((0 : Int32), z1.2)) 20000 ((0 : Int32), σW)
def f_X5_howFar (σW : qS) (a1 : Int32) (a2 : Int32) : Option (Int32) :=
    q_cl (f_X5_leastWay σW a1 a2) fun r_1 =>
  if (1000 : Int32) ≤ r_1 then (some (-6 : Int32))
  else some r_1
def b_X5_nextPlace_26 (σW : qS) (σC : qS) (a2 : Int32) (a3 : Int32) (r_1 : Int32) (k again : Int32 → Option (Int32)) (s : Int32) : Option (Int32) :=
    if (11 : Int32) ≤ s then (k s)
  else q_cl (f_X1_longBetween σC a2 s) fun r_7 =>
  if r_7 ≤ 0 then (again (s + 1))
  else q_cl (f_X5_leastWay σW s a3) fun r_10 =>
  if (r_7 + r_10) = r_1 then (some s)
  else again (s + 1)
def f_X5_nextPlace (σW : qS) (σC : qS) (a2 : Int32) (a3 : Int32) : Option (Int32) :=
    q_cl (f_X5_howFar σW a2 a3) fun r_1 =>
  if r_1 = (-6) then (some (-6 : Int32))
  else if a2 = a3 then (some (-6 : Int32))
  else q_lp (b_X5_nextPlace_26 σW σC a2 a3 r_1) (fun _ => some (-6 : Int32)) 20000 (0 : Int32)
def b_X5_findNeighbours_13 (σC : qS) (v2_1 : Int32) (k again : (Int32 × Int32) → Option (qS)) (s : Int32 × Int32) : Option (qS) :=
    if (11 : Int32) ≤ s.1 then (k (s.1, s.2))
  else q_cl (f_X1_longBetween σC v2_1 s.1) fun r_8 =>
  if r_8 ≤ 0 then (again (s.1 + 1, s.2))
  else q_bd (s.2 ||| ((1 : Int32) <<< (s.1 &&& 31))) fun v3_11 =>
  again (s.1 + 1, v3_11)
def b_X5_findNeighbours_2 (σC : qS) (k again : (Int32 × qS) → Option (qS)) (s : Int32 × qS) : Option (qS) :=
    if (11 : Int32) ≤ s.1 then (k (s.1, s.2))
  else q_lp (b_X5_findNeighbours_13 σC s.1) (fun z3 => q_wr s.2 1 11 s.1 z3.2 fun σW_4 =>
  again (s.1 + 1, σW_4)) 20000 ((0 : Int32), (0 : Int32))
def f_X5_findNeighbours (σW : qS) (σC : qS) : Option (qS) :=
    q_lp (b_X5_findNeighbours_2 σC) (fun z1 => some z1.2) 20000 ((0 : Int32), σW)
def b_X5_leadsTo_28 (σW : qS) (a2 : Int32) (v3_1 : Int32) (k again : (Int32 × Int32) → Option (Int32)) (s : Int32 × Int32) : Option (Int32) :=
    if (11 : Int32) ≤ s.1 then (k (s.1, s.2))
  else q_cl (f_X6_isIn s.1 v3_1) fun r_11 =>
  if r_11 = 0 then (again (s.1 + 1, s.2))
  else q_rd σW 1 11 s.1 fun r_14 =>
  q_bd (s.2 ||| (r_14 &&& (a2 ^^^ (-1)))) fun v5_17 =>
  again (s.1 + 1, v5_17)
def b_X5_leadsTo_7 (σW : qS) (a1 : Int32) (a2 : Int32) (k again : (Int32 × Int32) → Option (Int32)) (s : Int32 × Int32) : Option (Int32) :=
    if (11 : Int32) ≤ s.1 then (k (s.1, s.2))
  else q_cl (f_X6_isIn a1 s.2) fun r_6 =>
  if r_6 = 0 then (q_lp (b_X5_leadsTo_28 σW a2 s.2) (fun z9 => again (s.1 + 1, z9.2)) 20000 ((0 : Int32), s.2))
  else k (s.1, s.2)
def f_X5_leadsTo (σW : qS) (a1 : Int32) (a2 : Int32) : Option (Int32) :=
    q_lp (b_X5_leadsTo_7 σW a1 a2) (fun z1 => q_cl (f_X6_isIn a1 z1.2) fun r_2 =>
  q_chk (q_isB r_2) <| some r_2) 20000 ((0 : Int32), (1024 : Int32))
def b_X5_fewestDamp_24 (a2 : Int32) (σW_4 : qS) (k again : (Int32 × Int32) → Option (Int32 × qS)) (s : Int32 × Int32) : Option (Int32 × qS) :=
    if (1024 : Int32) ≤ s.1 then (k (s.1, s.2))
  else if s.2 = (-6) then (q_cl (f_X6_isIn a2 s.1) fun r_10 =>
  if r_10 = 0 then (q_cl (f_X5_leadsTo σW_4 a2 s.1) fun r_13 =>
  if r_13 = 0 then (again (s.1 + 1, s.1))
  else again (s.1 + 1, s.2))
  else again (s.1 + 1, s.2))
  else q_cl (f_J6_bitCount_0f7a4 s.1) fun r_16 =>
  q_cl (f_J6_bitCount_0f7a4 s.2) fun r_18 =>
  if r_18 ≤ r_16 then (again (s.1 + 1, s.2))
  else q_cl (f_X6_isIn a2 s.1) fun r_23 =>
  if r_23 = 0 then (q_cl (f_X5_leadsTo σW_4 a2 s.1) fun r_26 =>
  if r_26 = 0 then (again (s.1 + 1, s.1))
  else again (s.1 + 1, s.2))
  else again (s.1 + 1, s.2)
def f_X5_fewestDamp (σW : qS) (σC : qS) (a2 : Int32) : Option (Int32 × qS) :=
    q_cl (f_X1_longBetween σC (10 : Int32) a2) fun r_1 =>
  if r_1 ≤ 0 then (q_cl (f_X5_findNeighbours σW σC) fun σW_4 =>
  q_lp (b_X5_fewestDamp_24 a2 σW_4) (fun z6 => some (z6.2, σW_4)) 20000 ((0 : Int32), (-6 : Int32)))
  else some ((-6 : Int32), σW)

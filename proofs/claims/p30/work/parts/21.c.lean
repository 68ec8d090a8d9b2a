def b_X1_behindStirs_5 (σC : qS) (a2 : Int32) (k again : (Int32 × Int32) → Option (Int32)) (s : Int32 × Int32) : Option (Int32) :=
    if a2 ≤ s.1 then (k (s.1, s.2))
  else q_cl (f_X1_fadesInto σC s.2) fun r_3 =>
  again (s.1 + 1, r_3)
def f_X1_behindStirs (σC : qS) (a1 : Int32) (a2 : Int32) : Option (Int32) :=
    q_lp (b_X1_behindStirs_5 σC a2) (fun z1 => some z1.2) 20000 ((0 : Int32), a1)
def b_X1_stirsToRing_7 (σC : qS) (k again : (Int32 × Int32 × Int32) → Option (Int32)) (s : Int32 × Int32 × Int32) : Option (Int32) :=
    if (10 : Int32) < s.1 then (k (s.1, s.2.1, s.2.2))
  else q_cl (f_X6_isTale s.2.1) fun r_3 =>
  if r_3 = 0 then (some s.1)
  else q_cl (f_X6_isIn s.2.1 s.2.2) fun r_6 =>
  if r_6 = 0 then (q_bd (s.2.2 ||| ((1 : Int32) <<< (s.2.1 &&& 31))) fun v2_9 =>
  q_cl (f_X1_fadesInto σC s.2.1) fun r_11 =>
  again (s.1 + 1, r_11, v2_9))
  else some s.1
def f_X1_stirsToRing (σC : qS) (a1 : Int32) : Option (Int32) :=
    q_lp (b_X1_stirsToRing_7 σC) (fun _ => some (10 : Int32)) 20000 ((0 : Int32), a1, (0 : Int32))
def b_X1_stirsOfRing_16 (σC : qS) (a1 : Int32) (r_1 : Int32) (r_3 : Int32) (k again : Int32 → Option (Int32)) (s : Int32) : Option (Int32) :=
    if r_1 ≤ s then (k s)
  else q_cl (f_X1_behindStirs σC a1 s) fun r_7 =>
  if r_7 = r_3 then (some (r_1 - s))
  else again (s + 1)
def f_X1_stirsOfRing (σC : qS) (a1 : Int32) : Option (Int32) :=
    q_cl (f_X1_stirsToRing σC a1) fun r_1 =>
  q_cl (f_X1_behindStirs σC a1 r_1) fun r_3 =>
  q_lp (b_X1_stirsOfRing_16 σC a1 r_1 r_3) (fun _ => some r_1) 20000 (0 : Int32)
def f_X1_sightCount (σC : qS) : Option (Int32) :=
    some (σC 99 7)
def f_X1_addSight (σC : qS) (a1 : Int32) (a2 : Int32) : Option (Int32 × qS) :=
    q_cl (f_X6_within (σC 99 7) (0 : Int32) (7 : Int32)) fun r_1 =>
  if r_1 = 0 then (some ((0 : Int32), σC))
  else q_wr σC 5 8 (σC 99 7) a1 fun σC_4 =>
  q_wr σC_4 6 8 (σC_4 99 7) a2 fun σC_7 =>
  q_bd (q_pt σC_7 7 ((σC_7 99 7) + 1)) fun σC_10 =>
  some ((1 : Int32), σC_10)
def f_X1_dropSights (σC : qS) : Option (qS) :=
    q_bd (q_pt σC 7 (0 : Int32)) fun σC_1 =>
  some σC_1
def f_X1_sightBed (σC : qS) (a1 : Int32) : Option (Int32) :=
    q_cl (f_X6_within a1 (0 : Int32) (7 : Int32)) fun r_1 =>
  if r_1 = 0 then (some (-6 : Int32))
  else q_rd σC 5 8 a1 fun r_4 =>
  some r_4
def f_X1_sightTale (σC : qS) (a1 : Int32) : Option (Int32) :=
    q_cl (f_X6_within a1 (0 : Int32) (7 : Int32)) fun r_1 =>
  if r_1 = 0 then (some (-6 : Int32))
  else q_rd σC 6 8 a1 fun r_4 =>
  some r_4
def f_X1_isConvinced (σC : qS) (a1 : Int32) (a2 : Int32) : Option (Int32) :=
    q_cl (f_X6_isHouse a1) fun r_1 =>
  if r_1 = 0 then (some (0 : Int32))
  else q_rd σC 1 10 a1 fun r_4 =>
  if a2 ≤ ((9 : Int32) * r_4) then (some (0 : Int32))
  else some (1 : Int32)
def f_X1_reasonAgainst (σC : qS) (a1 : Int32) (a2 : Int32) : Option (Int32) :=
    if a1 = 0 then (if (σC 99 8) = 10 then (some (0 : Int32))
  else some (1 : Int32))
  else if a1 = 1 then (q_cl (f_X1_longBetween σC (σC 99 8) a2) fun r_4 =>
  if r_4 ≤ 0 then (some (2 : Int32))
  else some (0 : Int32))
  else if a1 = 2 then (if (σC 99 8) = 10 then (some (1 : Int32))
  else if (σC 99 9) ≤ 0 then (some (3 : Int32))
  else some (0 : Int32))
  else if a1 = 3 then (if (σC 99 9) ≤ 0 then (some (3 : Int32))
  else some (0 : Int32))
  else if (99 : Int32) ≤ (σC 99 11) then (some (4 : Int32))
  else some (0 : Int32)
def f_X1_warmBed (σC : qS) (a1 : Int32) : Option (qS) :=
    q_cl (f_X1_isDamp σC a1) fun r_1 =>
  if r_1 = 0 then (q_cl (f_X1_isConvinced σC a1 (σC 99 9)) fun r_4 =>
  if r_4 = 0 then (q_cl (f_X1_doubtOf σC a1) fun r_7 =>
  q_cl (f_X1_furnish σC a1 (if (r_7 + 1) < 9 then (r_7 + 1) else 9) (0 : Int32)) fun σC_9 =>
  q_bd (q_pt σC_9 9 (if (0 : Int32) < ((σC_9 99 9) - 5) then ((σC_9 99 9) - 5) else 0)) fun σC_11 =>
  some σC_11)
  else q_cl (f_X1_convince σC a1 (σC 99 10)) fun σC_13 =>
  q_bd (q_pt σC_13 9 (if (0 : Int32) < ((σC_13 99 9) - 5) then ((σC_13 99 9) - 5) else 0)) fun σC_15 =>
  some σC_15)
  else q_bd (q_pt σC 9 (if (0 : Int32) < ((σC 99 9) - 10) then ((σC 99 9) - 10) else 0)) fun σC_17 =>
  some σC_17
def f_X1_act (σC : qS) (a1 : Int32) (a2 : Int32) (a3 : Int32) : Option (qS) :=
    if a1 = 0 then (q_bd (q_pt σC 10 a2) fun σC_2 =>
  q_bd (q_pt σC_2 9 a3) fun σC_4 =>
  some σC_4)
  else if a1 = 1 then (q_cl (f_X1_longBetween σC (σC 99 8) a2) fun r_7 =>
  q_bd (q_pt σC 9 (if (0 : Int32) < ((σC 99 9) - r_7) then ((σC 99 9) - r_7) else 0)) fun σC_9 =>
  q_bd (q_pt σC_9 8 a2) fun σC_11 =>
  some σC_11)
  else if a1 = 2 then (q_cl (f_X1_warmBed σC (σC 99 8)) fun σC_14 =>
  some σC_14)
  else if a1 = 3 then (q_bd (q_pt σC 9 (if ((σC 99 9) + 10) < 99 then ((σC 99 9) + 10) else 99)) fun σC_17 =>
  q_cl (f_X1_fadesInto σC_17 (σC_17 99 10)) fun r_19 =>
  q_bd (q_pt σC_17 10 r_19) fun σC_21 =>
  some σC_21)
  else q_bd (q_pt σC 8 (10 : Int32)) fun σC_23 =>
  q_bd (q_pt σC_23 9 (0 : Int32)) fun σC_25 =>
  q_bd (q_pt σC_25 11 ((σC_25 99 11) + 1)) fun σC_27 =>
  q_cl (f_J7_fill_53178 10 (fun _ => σC_27 2) (0 : Int32)) fun σt_29 =>
  q_bd (q_up σC_27 2 (σt_29 0)) fun σC_31 =>
  some σC_31
def f_X1_copyFrom (σC : qS) (σD : qS) : Option (qS) :=
    q_bd (q_up σC 0 (σD 0)) fun σC_1 =>
  q_bd (q_up σC_1 1 (σD 1)) fun σC_3 =>
  q_bd (q_up σC_3 2 (σD 2)) fun σC_5 =>
  q_bd (q_up σC_5 3 (σD 3)) fun σC_7 =>
  q_bd (q_up σC_7 4 (σD 4)) fun σC_9 =>
  q_bd (q_up σC_9 5 (σD 5)) fun σC_11 =>
  q_bd (q_up σC_11 6 (σD 6)) fun σC_13 =>
  q_bd (q_pt σC_13 7 (σD 99 7)) fun σC_15 =>
  q_bd (q_pt σC_15 8 (σD 99 8)) fun σC_17 =>
  q_bd (q_pt σC_17 9 (σD 99 9)) fun σC_19 =>
  q_bd (q_pt σC_19 10 (σD 99 10)) fun σC_21 =>
  q_bd (q_pt σC_21 11 (σD 99 11)) fun σC_23 =>
  some σC_23

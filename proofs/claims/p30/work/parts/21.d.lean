def f_X3_size (σP : qS) : Option (Int32) :=
    some (σP 99 1)
def f_X3_add (σP : qS) (a1 : Int32) : Option (Int32 × qS) :=
    q_cl (f_X6_within (σP 99 1) (0 : Int32) (59 : Int32)) fun r_1 =>
  if r_1 = 0 then (some ((0 : Int32), σP))
  else q_wr σP 0 60 (σP 99 1) a1 fun σP_4 =>
  q_bd (q_pt σP_4 1 ((σP_4 99 1) + 1)) fun σP_7 =>
  some ((1 : Int32), σP_7)
def f_X3_clear (σP : qS) : Option (qS) :=
    q_bd (q_pt σP 1 (0 : Int32)) fun σP_1 =>
  some σP_1
def f_X3_signAt (σP : qS) (a1 : Int32) : Option (Int32) :=
    q_cl (f_X6_within a1 (0 : Int32) (59 : Int32)) fun r_1 =>
  if r_1 = 0 then (some (-6 : Int32))
  else if (σP 99 1) ≤ a1 then (some (-6 : Int32))
  else q_rd σP 0 60 a1 fun r_5 =>
  some r_5
def f_X3_digitAt (σP : qS) (a1 : Int32) : Option (Int32) :=
    q_cl (f_X3_signAt σP a1) fun r_1 =>
  some (r_1 - 48)
def f_X3_placeAt (σP : qS) (a1 : Int32) : Option (Int32) :=
    q_cl (f_X3_signAt σP a1) fun r_1 =>
  q_cl (f_X6_within r_1 (65 : Int32) (74 : Int32)) fun r_3 =>
  if r_3 = 0 then (if r_1 = 107 then (some (10 : Int32))
  else some (-6 : Int32))
  else some (r_1 - 65)
def f_X3_kindAt (σP : qS) (a1 : Int32) : Option (Int32) :=
    q_cl (f_X3_signAt σP a1) fun r_1 =>
  if r_1 = 42 then (some (2 : Int32))
  else if r_1 = 46 then (some (4 : Int32))
  else if r_1 = 61 then (some (0 : Int32))
  else if r_1 = 126 then (some (3 : Int32))
  else q_cl (f_X3_placeAt σP a1) fun r_7 =>
  if r_7 = (-6) then (some (-6 : Int32))
  else some (1 : Int32)
def f_X3_whatAt (σP : qS) (a1 : Int32) : Option (Int32) :=
    q_cl (f_X3_kindAt σP a1) fun r_1 =>
  if r_1 = 0 then (q_cl (f_X3_digitAt σP (a1 + 1)) fun r_6 =>
  some r_6)
  else q_cl (f_X3_placeAt σP a1) fun r_4 =>
  some r_4
def b_X3_faultPlace_2 (σP : qS) (k again : Int32 → Option (Int32)) (s : Int32) : Option (Int32) :=
    if (σP 99 1) ≤ s then (k s)
  else q_cl (f_X3_kindAt σP s) fun r_3 =>
  if r_3 = (-6) then (some s)
  else if r_3 = 0 then (q_cl (f_X3_digitAt σP (s + 1)) fun r_23 =>
  q_cl (f_X6_within r_23 (0 : Int32) (9 : Int32)) fun r_25 =>
  if r_25 = 0 then (some (s + 1))
  else if r_3 = 0 then (q_cl (f_X3_digitAt σP (s + 2)) fun r_34 =>
  q_cl (f_X6_within r_34 (1 : Int32) (9 : Int32)) fun r_36 =>
  if r_36 = 0 then (some (s + 2))
  else if r_3 = 0 then (q_bd (s + 3) fun v1_42 =>
  again v1_42)
  else q_bd (s + 1) fun v1_40 =>
  again v1_40)
  else if r_3 = 0 then (q_bd (s + 3) fun v1_32 =>
  again v1_32)
  else q_bd (s + 1) fun v1_30 =>
  again v1_30)
  else if r_3 = 0 then (q_cl (f_X3_digitAt σP (s + 2)) fun r_13 =>
  q_cl (f_X6_within r_13 (1 : Int32) (9 : Int32)) fun r_15 =>
  if r_15 = 0 then (some (s + 2))
  else if r_3 = 0 then (q_bd (s + 3) fun v1_21 =>
  again v1_21)
  else q_bd (s + 1) fun v1_19 =>
  again v1_19)
  else if r_3 = 0 then (q_bd (s + 3) fun v1_11 =>
  again v1_11)
  else q_bd (s + 1) fun v1_9 =>
  again v1_9
def f_X3_faultPlace (σP : qS) : Option (Int32) :=
    q_lp (b_X3_faultPlace_2 σP) (fun _ => some (-6 : Int32)) 20000 (0 : Int32)
def f_X2_actOn (σN : qS) (σD : qS) (a2 : Int32) (a3 : Int32) (a4 : Int32) : Option (qS × qS) :=
    q_cl (f_X1_panFact σD (0 : Int32)) fun r_1 =>
  q_cl (f_X1_beliefOf σD r_1) fun r_3 =>
  q_cl (f_X1_act σD a2 a3 a4) fun σD_5 =>
  if (σN 99 4) = (-6) then (q_cl (f_X1_beliefOf σD_5 r_1) fun r_15 =>
  if r_15 = r_3 then (if a2 = 2 then (q_bd (q_pt σN 1 ((σN 99 1) + 1)) fun σN_21 =>
  q_bd (q_pt σN_21 0 ((σN_21 99 0) + 1)) fun σN_23 =>
  some (σN_23, σD_5))
  else q_bd (q_pt σN 0 ((σN 99 0) + 1)) fun σN_19 =>
  some (σN_19, σD_5))
  else q_bd (q_pt σN 4 (σN 99 0)) fun σN_25 =>
  q_bd (q_pt σN_25 5 r_1) fun σN_27 =>
  if a2 = 2 then (q_bd (q_pt σN_27 1 ((σN_27 99 1) + 1)) fun σN_32 =>
  q_bd (q_pt σN_32 0 ((σN_32 99 0) + 1)) fun σN_34 =>
  some (σN_34, σD_5))
  else q_bd (q_pt σN_27 0 ((σN_27 99 0) + 1)) fun σN_30 =>
  some (σN_30, σD_5))
  else if a2 = 2 then (q_bd (q_pt σN 1 ((σN 99 1) + 1)) fun σN_11 =>
  q_bd (q_pt σN_11 0 ((σN_11 99 0) + 1)) fun σN_13 =>
  some (σN_13, σD_5))
  else q_bd (q_pt σN 0 ((σN 99 0) + 1)) fun σN_9 =>
  some (σN_9, σD_5)
def b_X2_pass_54 (σP : qS) (k again : (Int32 × qS × qS) → Option (Int32 × qS × qS)) (s : Int32 × qS × qS) : Option (Int32 × qS × qS) :=
    q_cl (f_X3_size σP) fun r_19 =>
  if r_19 ≤ s.1 then (k (s.1, s.2.1, s.2.2))
  else q_cl (f_X3_kindAt σP s.1) fun r_22 =>
  q_cl (f_X3_whatAt σP s.1) fun r_24 =>
  q_cl (f_X1_reasonAgainst s.2.2 r_22 r_24) fun r_26 =>
  if r_26 = 0 then (q_cl (f_X3_whatAt σP s.1) fun r_29 =>
  q_cl (f_X3_digitAt σP (s.1 + 2)) fun r_31 =>
  q_cl (f_X2_actOn s.2.1 s.2.2 r_22 r_29 ((10 : Int32) * r_31)) fun y_36 =>
  if r_22 = 0 then (q_bd (s.1 + 3) fun v4_40 =>
  again (v4_40, y_36.1, y_36.2))
  else q_bd (s.1 + 1) fun v4_38 =>
  again (v4_38, y_36.1, y_36.2))
  else q_bd (q_pt s.2.1 2 (s.2.1 99 0)) fun σN_42 =>
  q_bd (q_pt σN_42 3 r_26) fun σN_44 =>
  some ((-3 : Int32), σN_44, s.2.2)
def f_X2_pass (σN : qS) (σP : qS) (σD : qS) (σC : qS) : Option (Int32 × qS × qS) :=
    q_bd (q_pt σN 0 (0 : Int32)) fun σN_1 =>
  q_bd (q_pt σN_1 1 (0 : Int32)) fun σN_3 =>
  q_bd (q_pt σN_3 2 (-6 : Int32)) fun σN_5 =>
  q_bd (q_pt σN_5 3 (-6 : Int32)) fun σN_7 =>
  q_bd (q_pt σN_7 4 (-6 : Int32)) fun σN_9 =>
  q_bd (q_pt σN_9 5 (-6 : Int32)) fun σN_11 =>
  q_cl (f_X3_faultPlace σP) fun r_13 =>
  if r_13 = (-6) then (q_cl (f_X1_copyFrom σD σC) fun σD_16 =>
  q_lp (b_X2_pass_54 σP) (fun z18 => some ((0 : Int32), z18.2.1, z18.2.2)) 20000 ((0 : Int32), σN_11, σD_16))
  else some ((-5 : Int32), σN_11, σD)

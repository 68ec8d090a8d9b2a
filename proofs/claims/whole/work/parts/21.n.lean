def f_X7_road (σM : qS) (ℓM : qL) (a1 : Int32) (a2 : Int32) (a3 : Int32) : Option (Int32 × qS) :=
    q_cl (f_X7_isPlace a1) fun r_1 =>
  if r_1 = 0 then (some ((-1 : Int32), σM))
  else q_cl (f_X7_isPlace a2) fun r_4 =>
  if r_4 = 0 then (some ((-1 : Int32), σM))
  else if a1 = a2 then (some ((-1 : Int32), σM))
  else q_cl (f_X7_in a3.toInt64 (0 : Int64) (9 : Int64)) fun r_8 =>
  if r_8 = 0 then (some ((-2 : Int32), σM))
  else q_rd σM 0 121 (((11 : Int32) * a1) + a2) fun r_11 =>
  q_wr σM 0 121 (((11 : Int32) * a1) + a2) a3 fun σM_14 =>
  q_wr σM_14 0 121 (((11 : Int32) * a2) + a1) a3 fun σM_17 =>
  some (r_11, σM_17)
def f_X7_house (σM : qS) (ℓM : qL) (a1 : Int32) (a2 : Int32) (a3 : Int32) : Option (Int32 × qS) :=
    q_cl (f_X7_isHouse a1) fun r_1 =>
  if r_1 = 0 then (some ((-1 : Int32), σM))
  else q_cl (f_X7_in a2.toInt64 (0 : Int64) (9 : Int64)) fun r_4 =>
  if r_4 = 0 then (some ((-2 : Int32), σM))
  else q_cl (f_X7_in a3.toInt64 (0 : Int64) (1 : Int64)) fun r_7 =>
  if r_7 = 0 then (some ((-2 : Int32), σM))
  else q_rd σM 1 10 a1 fun r_10 =>
  q_wr σM 1 10 a1 a2 fun σM_13 =>
  q_wr σM_13 2 10 a1 a3 fun σM_16 =>
  some (r_10, σM_16)
def f_X7_tell (σM : qS) (ℓM : qL) (a1 : Int32) (a2 : Int32) : Option (Int32 × qS) :=
    q_cl (f_X7_isHouse a1) fun r_1 =>
  if r_1 = 0 then (some ((-1 : Int32), σM))
  else q_cl (f_X7_in a2.toInt64 (-1 : Int64) (9 : Int64)) fun r_4 =>
  if r_4 = 0 then (some ((-1 : Int32), σM))
  else q_rd σM 3 10 a1 fun r_7 =>
  if (0 : Int32) ≤ a2 then (q_wr σM 3 10 a1 a2 fun σM_11 =>
  some (r_7, σM_11))
  else q_wr σM 3 10 a1 (-6 : Int32) fun σM_14 =>
  some (r_7, σM_14)
def f_X7_fade (σM : qS) (ℓM : qL) (a1 : Int32) (a2 : Int32) : Option (Int32 × qS) :=
    q_cl (f_X7_isTale a1) fun r_1 =>
  if r_1 = 0 then (some ((-1 : Int32), σM))
  else q_cl (f_X7_isTale a2) fun r_4 =>
  if r_4 = 0 then (some ((-1 : Int32), σM))
  else q_rd σM 4 10 a1 fun r_7 =>
  q_wr σM 4 10 a1 a2 fun σM_10 =>
  some (r_7, σM_10)
def f_X7_say (σM : qS) (ℓM : qL) (a1 : Int32) : Option (Int32 × qS) :=
    q_cl (f_X7_in a1.toInt64 (33 : Int64) (126 : Int64)) fun r_1 =>
  if r_1 = 0 then (some ((-2 : Int32), σM))
  else if (σM 99 13) = 60 then (some ((-4 : Int32), σM))
  else q_wr σM 12 60 (σM 99 13) a1 fun σM_5 =>
  q_bd (q_pt σM_5 13 ((σM_5 99 13) + 1)) fun σM_8 =>
  some (σM_8 99 13, σM_8)
def f_X7_wipe (σM : qS) (ℓM : qL) : Option (Int32 × qS) :=
    q_bd (σM 99 13) fun v1_1 =>
  q_bd (q_pt σM 13 (0 : Int32)) fun σM_3 =>
  some (v1_1, σM_3)
def f_X7_close (σM : qS) (ℓM : qL) (a1 : Int32) (a2 : Int32) : Option (Int32 × qS) :=
    q_wr σM 14 60 (σM 99 17) a1 fun σM_1 =>
  q_wr σM_1 16 60 (σM_1 99 17) a2 fun σM_4 =>
  q_bd (q_pt σM_4 17 ((σM_4 99 17) + 1)) fun σM_7 =>
  some ((0 : Int32), σM_7)
def f_X7_begin (σM : qS) (ℓM : qL) (a1 : Int32) : Option (Int32 × qS) :=
    q_cl (f_X7_in a1.toInt64 (65 : Int64) (74 : Int64)) fun r_1 =>
  if r_1 = 0 then (q_wr σM 15 60 (σM 99 17) (10 : Int32) fun σM_4 =>
  if a1 = 42 then (q_cl (f_X7_close σM_4 ℓM (2 : Int32) (0 : Int32)) fun y_11 =>
  some (y_11.1, y_11.2))
  else if a1 = 46 then (q_cl (f_X7_close σM_4 ℓM (4 : Int32) (0 : Int32)) fun y_16 =>
  some (y_16.1, y_16.2))
  else if a1 = 61 then (some ((1 : Int32), σM_4))
  else if a1 = 126 then (q_cl (f_X7_close σM_4 ℓM (3 : Int32) (0 : Int32)) fun y_22 =>
  some (y_22.1, y_22.2))
  else if r_1 = 0 then (if a1 = 107 then (q_cl (f_X7_close σM_4 ℓM (1 : Int32) (0 : Int32)) fun y_32 =>
  some (y_32.1, y_32.2))
  else some ((-6 : Int32), σM_4))
  else q_cl (f_X7_close σM_4 ℓM (1 : Int32) (0 : Int32)) fun y_27 =>
  some (y_27.1, y_27.2))
  else q_wr σM 15 60 (σM 99 17) (a1 - 65) fun σM_33 =>
  if a1 = 42 then (q_cl (f_X7_close σM_33 ℓM (2 : Int32) (0 : Int32)) fun y_40 =>
  some (y_40.1, y_40.2))
  else if a1 = 46 then (q_cl (f_X7_close σM_33 ℓM (4 : Int32) (0 : Int32)) fun y_45 =>
  some (y_45.1, y_45.2))
  else if a1 = 61 then (some ((1 : Int32), σM_33))
  else if a1 = 126 then (q_cl (f_X7_close σM_33 ℓM (3 : Int32) (0 : Int32)) fun y_51 =>
  some (y_51.1, y_51.2))
  else if r_1 = 0 then (if a1 = 107 then (q_cl (f_X7_close σM_33 ℓM (1 : Int32) (0 : Int32)) fun y_61 =>
  some (y_61.1, y_61.2))
  else some ((-6 : Int32), σM_33))
  else q_cl (f_X7_close σM_33 ℓM (1 : Int32) (0 : Int32)) fun y_56 =>
  some (y_56.1, y_56.2)
def f_X7_readOn (σM : qS) (ℓM : qL) (a1 : Int32) (a2 : Int32) : Option (Int32 × qS) :=
    if a1 = 0 then (q_cl (f_X7_begin σM ℓM a2) fun y_19 =>
  some (y_19.1, y_19.2))
  else if a1 = 1 then (q_wr σM 15 60 (σM 99 17) (a2 - 48) fun σM_10 =>
  q_cl (f_X7_in a2.toInt64 (48 : Int64) (57 : Int64)) fun r_13 =>
  if r_13 = 0 then (some ((-6 : Int32), σM_10))
  else some ((2 : Int32), σM_10))
  else q_cl (f_X7_in a2.toInt64 (49 : Int64) (57 : Int64)) fun r_3 =>
  if r_3 = 0 then (some ((-6 : Int32), σM))
  else q_cl (f_X7_close σM ℓM (0 : Int32) ((10 : Int32) * (a2 - 48))) fun y_9 =>
  some (y_9.1, y_9.2)
def b_X7_fault_9 (ℓM : qL) (k again : (Int32 × Int32 × qS) → Option (Int32 × qS)) (s : Int32 × Int32 × qS) : Option (Int32 × qS) :=
    if (s.2.2 99 13) ≤ s.1 then (k (s.1, s.2.1, s.2.2))
  else q_rd s.2.2 12 60 s.1 fun r_6 =>
  q_cl (f_X7_readOn s.2.2 ℓM s.2.1 r_6) fun y_12 =>
  if (0 : Int32) ≤ y_12.1 then (again (s.1 + 1, y_12.1, y_12.2))
  else some (s.1, y_12.2)
def f_X7_fault (σM : qS) (ℓM : qL) : Option (Int32 × qS) :=
    q_bd (q_pt σM 17 (0 : Int32)) fun σM_1 =>
  q_lp (b_X7_fault_9 ℓM) (fun z3 => if z3.2.1 = 0 then (some ((-6 : Int32), z3.2.2))
  else some (z3.2.2 99 13, z3.2.2)) 20000 ((0 : Int32), (0 : Int32), σM_1)
def f_X7_whyNot (σM : qS) (ℓM : qL) (a1 : Int32) (a2 : Int32) : Option (Int32) :=
    if a1 = 0 then (if (σM 99 5) = 10 then (some (0 : Int32))
  else some (1 : Int32))
  else if a1 = 1 then (q_rd σM 0 121 (((11 : Int32) * (σM 99 5)) + a2) fun r_4 =>
  if r_4 = 0 then (some (2 : Int32))
  else some (0 : Int32))
  else if a1 = 2 then (if (σM 99 5) = 10 then (some (1 : Int32))
  else if (σM 99 6) = 0 then (some (3 : Int32))
  else some (0 : Int32))
  else if a1 = 3 then (if (σM 99 6) = 0 then (some (3 : Int32))
  else some (0 : Int32))
  else if (σM 99 8) = 99 then (some (4 : Int32))
  else some (0 : Int32)
def f_X7_fill (σM : qS) (ℓM : qL) (a1 : Int32) (a2 : Int32) : Option (qS) :=
    q_bd (q_pt σM 7 a1) fun σM_1 =>
  q_bd (q_pt σM_1 6 a2) fun σM_3 =>
  some σM_3
def f_X7_carry (σM : qS) (ℓM : qL) (a1 : Int32) : Option (qS) :=
    q_rd σM 0 121 (((11 : Int32) * (σM 99 5)) + a1) fun r_1 =>
  q_cl (f_X7_cooled (σM 99 6) r_1) fun r_4 =>
  q_bd (q_pt σM 6 r_4) fun σM_6 =>
  q_bd (q_pt σM_6 5 a1) fun σM_8 =>
  some σM_8
def f_X7_put (σM : qS) (ℓM : qL) : Option (qS) :=
    q_bd (σM 99 5) fun v1_1 =>
  q_rd σM 2 10 v1_1 fun r_3 =>
  if r_3 = 1 then (q_cl (f_X7_cooled (σM 99 6) (10 : Int32)) fun r_39 =>
  q_bd (q_pt σM 6 r_39) fun σM_41 =>
  some σM_41)
  else q_rd σM 1 10 v1_1 fun r_7 =>
  if (σM 99 6) ≤ ((9 : Int32) * r_7) then (q_rd σM 1 10 v1_1 fun r_11 =>
  if (9 : Int32) ≤ r_11 then (q_wr σM 1 10 v1_1 (9 : Int32) fun σM_15 =>
  q_cl (f_X7_cooled (σM_15 99 6) (5 : Int32)) fun r_18 =>
  q_bd (q_pt σM_15 6 r_18) fun σM_20 =>
  some σM_20)
  else q_rd σM 1 10 v1_1 fun r_22 =>
  q_wr σM 1 10 v1_1 (r_22 + 1) fun σM_25 =>
  q_cl (f_X7_cooled (σM_25 99 6) (5 : Int32)) fun r_28 =>
  q_bd (q_pt σM_25 6 r_28) fun σM_30 =>
  some σM_30)
  else q_wr σM 3 10 v1_1 (σM 99 7) fun σM_32 =>
  q_cl (f_X7_cooled (σM_32 99 6) (5 : Int32)) fun r_35 =>
  q_bd (q_pt σM_32 6 r_35) fun σM_37 =>
  some σM_37
def f_X7_stir (σM : qS) (ℓM : qL) : Option (qS) :=
    if ((σM 99 6) + 10) ≤ 99 then (q_bd (q_pt σM 6 ((σM 99 6) + 10)) fun σM_2 =>
  q_rd σM_2 4 10 (σM_2 99 7) fun r_4 =>
  q_bd (q_pt σM_2 7 r_4) fun σM_7 =>
  some σM_7)
  else q_bd (q_pt σM 6 (99 : Int32)) fun σM_9 =>
  q_rd σM_9 4 10 (σM_9 99 7) fun r_11 =>
  q_bd (q_pt σM_9 7 r_11) fun σM_14 =>
  some σM_14
def b_X7_morning_13 (k again : (Int32 × qS) → Option (qS)) (s : Int32 × qS) : Option (qS) :=
    if (10 : Int32) ≤ s.1 then (k (s.1, s.2))
  else q_wr s.2 2 10 s.1 (0 : Int32) fun σM_9 =>
  again (s.1 + 1, σM_9)
def f_X7_morning (σM : qS) (ℓM : qL) : Option (qS) :=
    q_bd (q_pt σM 5 (10 : Int32)) fun σM_1 =>
  q_bd (q_pt σM_1 6 (0 : Int32)) fun σM_3 =>
  q_lp (b_X7_morning_13) (fun z5 => q_bd (q_pt z5.2 8 ((z5.2 99 8) + 1)) fun σM_6 =>
  some σM_6) 20000 ((0 : Int32), σM_3)
def f_X7_happen (σM : qS) (ℓM : qL) (a1 : Int32) (a2 : Int32) (a3 : Int32) : Option (qS) :=
    if a1 = 0 then (q_cl (f_X7_fill σM ℓM a2 a3) fun σM_2 =>
  some σM_2)
  else if a1 = 1 then (q_cl (f_X7_carry σM ℓM a2) fun σM_5 =>
  some σM_5)
  else if a1 = 2 then (q_cl (f_X7_put σM ℓM) fun σM_8 =>
  some σM_8)
  else if a1 = 3 then (q_cl (f_X7_stir σM ℓM) fun σM_11 =>
  some σM_11)
  else q_cl (f_X7_morning σM ℓM) fun σM_13 =>
  some σM_13
def b_X7_keepNow_2 (k again : (Int32 × qS) → Option (qS)) (s : Int32 × qS) : Option (qS) :=
    if (10 : Int32) ≤ s.1 then (k (s.1, s.2))
  else q_rd s.2 1 10 s.1 fun r_15 =>
  q_wr s.2 18 34 s.1 r_15 fun σM_18 =>
  q_rd σM_18 2 10 s.1 fun r_21 =>
  q_wr σM_18 18 34 ((10 : Int32) + s.1) r_21 fun σM_24 =>
  q_rd σM_24 3 10 s.1 fun r_27 =>
  q_wr σM_24 18 34 ((20 : Int32) + s.1) r_27 fun σM_30 =>
  again (s.1 + 1, σM_30)
def f_X7_keepNow (σM : qS) (ℓM : qL) : Option (qS) :=
    q_lp (b_X7_keepNow_2) (fun z1 => q_wr z1.2 18 34 (30 : Int32) (z1.2 99 5) fun σM_2 =>
  q_wr σM_2 18 34 (31 : Int32) (σM_2 99 6) fun σM_5 =>
  q_wr σM_5 18 34 (32 : Int32) (σM_5 99 7) fun σM_8 =>
  q_wr σM_8 18 34 (33 : Int32) (σM_8 99 8) fun σM_11 =>
  some σM_11) 20000 ((0 : Int32), σM)
def b_X7_back_2 (k again : (Int32 × qS) → Option (Int32 × qS)) (s : Int32 × qS) : Option (Int32 × qS) :=
    if (10 : Int32) ≤ s.1 then (k (s.1, s.2))
  else q_rd s.2 18 34 s.1 fun r_23 =>
  q_wr s.2 1 10 s.1 r_23 fun σM_26 =>
  q_rd σM_26 18 34 ((10 : Int32) + s.1) fun r_29 =>
  q_wr σM_26 2 10 s.1 r_29 fun σM_32 =>
  q_rd σM_32 18 34 ((20 : Int32) + s.1) fun r_35 =>
  q_wr σM_32 3 10 s.1 r_35 fun σM_38 =>
  again (s.1 + 1, σM_38)
def f_X7_back (σM : qS) (ℓM : qL) (a1 : Int32) : Option (Int32 × qS) :=
    q_lp (b_X7_back_2) (fun z1 => q_rd z1.2 18 34 (30 : Int32) fun r_2 =>
  q_bd (q_pt z1.2 5 r_2) fun σM_5 =>
  q_rd σM_5 18 34 (31 : Int32) fun r_7 =>
  q_bd (q_pt σM_5 6 r_7) fun σM_10 =>
  q_rd σM_10 18 34 (32 : Int32) fun r_12 =>
  q_bd (q_pt σM_10 7 r_12) fun σM_15 =>
  q_rd σM_15 18 34 (33 : Int32) fun r_17 =>
  q_bd (q_pt σM_15 8 r_17) fun σM_20 =>
  some (a1, σM_20)) 20000 ((0 : Int32), σM)
def f_X7_goOne (σM : qS) (ℓM : qL) (a1 : Int32) : Option (qS) :=
    q_bd (σM 99 5) fun v2_1 =>
  if v2_1 = 10 then (q_rd σM 14 60 a1 fun r_52 =>
  q_rd σM 15 60 a1 fun r_55 =>
  q_rd σM 16 60 a1 fun r_58 =>
  q_cl (f_X7_happen σM ℓM r_52 r_55 r_58) fun σM_61 =>
  q_rd σM_61 14 60 a1 fun r_63 =>
  if r_63 = 2 then (q_bd (q_pt σM_61 21 ((σM_61 99 21) + 1)) fun σM_82 =>
  q_rd σM_82 14 60 a1 fun r_84 =>
  if r_84 = 2 then (q_rd σM_82 3 10 v2_1 fun r_88 =>
  if r_88 = (-6) then (some σM_82)
  else if (0 : Int32) ≤ (σM_82 99 22) then (some σM_82)
  else q_bd (q_pt σM_82 22 a1) fun σM_93 =>
  q_bd (q_pt σM_93 23 v2_1) fun σM_95 =>
  some σM_95)
  else some σM_82)
  else q_bd (q_pt σM_61 21 ((σM_61 99 21) + 0)) fun σM_67 =>
  q_rd σM_67 14 60 a1 fun r_69 =>
  if r_69 = 2 then (q_rd σM_67 3 10 v2_1 fun r_73 =>
  if r_73 = (-6) then (some σM_67)
  else if (0 : Int32) ≤ (σM_67 99 22) then (some σM_67)
  else q_bd (q_pt σM_67 22 a1) fun σM_78 =>
  q_bd (q_pt σM_78 23 v2_1) fun σM_80 =>
  some σM_80)
  else some σM_67)
  else q_rd σM 3 10 v2_1 fun r_4 =>
  q_rd σM 14 60 a1 fun r_7 =>
  q_rd σM 15 60 a1 fun r_10 =>
  q_rd σM 16 60 a1 fun r_13 =>
  q_cl (f_X7_happen σM ℓM r_7 r_10 r_13) fun σM_16 =>
  q_rd σM_16 14 60 a1 fun r_18 =>
  if r_18 = 2 then (q_bd (q_pt σM_16 21 ((σM_16 99 21) + 1)) fun σM_37 =>
  q_rd σM_37 14 60 a1 fun r_39 =>
  if r_39 = 2 then (q_rd σM_37 3 10 v2_1 fun r_43 =>
  if r_43 = r_4 then (some σM_37)
  else if (0 : Int32) ≤ (σM_37 99 22) then (some σM_37)
  else q_bd (q_pt σM_37 22 a1) fun σM_48 =>
  q_bd (q_pt σM_48 23 v2_1) fun σM_50 =>
  some σM_50)
  else some σM_37)
  else q_bd (q_pt σM_16 21 ((σM_16 99 21) + 0)) fun σM_22 =>
  q_rd σM_22 14 60 a1 fun r_24 =>
  if r_24 = 2 then (q_rd σM_22 3 10 v2_1 fun r_28 =>
  if r_28 = r_4 then (some σM_22)
  else if (0 : Int32) ≤ (σM_22 99 22) then (some σM_22)
  else q_bd (q_pt σM_22 22 a1) fun σM_33 =>
  q_bd (q_pt σM_33 23 v2_1) fun σM_35 =>
  some σM_35)
  else some σM_22
def b_X7_goNights_31 (ℓM : qL) (k again : (Int32 × qS) → Option (qS)) (s : Int32 × qS) : Option (qS) :=
    if (s.2 99 17) ≤ s.1 then (k (s.1, s.2))
  else if (0 : Int32) ≤ (s.2 99 19) then (k (s.1, s.2))
  else q_rd s.2 14 60 s.1 fun r_14 =>
  q_rd s.2 15 60 s.1 fun r_17 =>
  q_cl (f_X7_whyNot s.2 ℓM r_14 r_17) fun r_20 =>
  if r_20 ≤ 0 then (q_bd (q_pt s.2 19 (-6 : Int32)) fun σM_23 =>
  if r_20 ≤ 0 then (q_bd (q_pt σM_23 20 (-6 : Int32)) fun σM_26 =>
  if r_20 = 0 then (q_cl (f_X7_goOne σM_26 ℓM s.1) fun σM_29 =>
  again (s.1 + 1, σM_29))
  else again (s.1 + 1, σM_26))
  else q_bd (q_pt σM_23 20 r_20) fun σM_31 =>
  if r_20 = 0 then (q_cl (f_X7_goOne σM_31 ℓM s.1) fun σM_34 =>
  again (s.1 + 1, σM_34))
  else again (s.1 + 1, σM_31))
  else q_bd (q_pt s.2 19 s.1) fun σM_36 =>
  if r_20 ≤ 0 then (q_bd (q_pt σM_36 20 (-6 : Int32)) fun σM_39 =>
  if r_20 = 0 then (q_cl (f_X7_goOne σM_39 ℓM s.1) fun σM_42 =>
  again (s.1 + 1, σM_42))
  else again (s.1 + 1, σM_39))
  else q_bd (q_pt σM_36 20 r_20) fun σM_44 =>
  if r_20 = 0 then (q_cl (f_X7_goOne σM_44 ℓM s.1) fun σM_47 =>
  again (s.1 + 1, σM_47))
  else again (s.1 + 1, σM_44)
def f_X7_goNights (σM : qS) (ℓM : qL) : Option (qS) :=
    q_bd (q_pt σM 19 (-6 : Int32)) fun σM_1 =>
  q_bd (q_pt σM_1 20 (-6 : Int32)) fun σM_3 =>
  q_bd (q_pt σM_3 21 (0 : Int32)) fun σM_5 =>
  q_bd (q_pt σM_5 22 (-6 : Int32)) fun σM_7 =>
  q_bd (q_pt σM_7 23 (-6 : Int32)) fun σM_9 =>
  q_lp (b_X7_goNights_31 ℓM) (fun z11 => some z11.2) 20000 ((0 : Int32), σM_9)
def f_X7_refusal (σM : qS) (ℓM : qL) : Option (Int32 × qS) :=
    q_cl (f_X7_keepNow σM ℓM) fun σM_1 =>
  q_cl (f_X7_fault σM_1 ℓM) fun y_6 =>
  if y_6.1 < 0 then (q_cl (f_X7_goNights y_6.2 ℓM) fun σM_8 =>
  if (σM_8 99 19) < 0 then (some ((-6 : Int32), σM_8))
  else some ((-3 : Int32), σM_8))
  else some ((-5 : Int32), y_6.2)
def f_X7_judge (σM : qS) (ℓM : qL) (a1 : Int32) : Option (Int32 × qS) :=
    q_cl (f_X7_in a1.toInt64 (0 : Int64) (2 : Int64)) fun r_1 =>
  if r_1 = 0 then (some ((-2 : Int32), σM))
  else q_cl (f_X7_refusal σM ℓM) fun y_7 =>
  q_cl (f_X7_back y_7.2 ℓM y_7.1) fun y_11 =>
  if y_11.1 = (-5) then (some (y_11.1, y_11.2))
  else if a1 ≤ 1 then (if a1 = 0 then (some (y_11.2 99 19, y_11.2))
  else if a1 = 1 then (some (y_11.2 99 20, y_11.2))
  else some (y_11.2 99 21, y_11.2))
  else if y_11.1 = (-3) then (some (y_11.1, y_11.2))
  else if a1 = 0 then (some (y_11.2 99 19, y_11.2))
  else if a1 = 1 then (some (y_11.2 99 20, y_11.2))
  else some (y_11.2 99 21, y_11.2)
def f_X7_ofHouse (σM : qS) (ℓM : qL) (a1 : Int32) (a2 : Int32) : Option (Int32) :=
    if a2 = 0 then (q_rd σM 3 10 a1 fun r_9 =>
  some r_9)
  else if a2 = 1 then (q_rd σM 1 10 a1 fun r_6 =>
  some r_6)
  else q_rd σM 2 10 a1 fun r_3 =>
  some r_3
def f_X7_behind (σM : qS) (ℓM : qL) (a1 : Int32) (a2 : Int32) : Option (Int32 × qS) :=
    q_cl (f_X7_isHouse a1) fun r_1 =>
  if r_1 = 0 then (some ((-1 : Int32), σM))
  else q_cl (f_X7_in a2.toInt64 (0 : Int64) (2 : Int64)) fun r_4 =>
  if r_4 = 0 then (some ((-2 : Int32), σM))
  else q_cl (f_X7_refusal σM ℓM) fun y_10 =>
  if y_10.1 = (-6) then (q_cl (f_X7_ofHouse y_10.2 ℓM a1 a2) fun r_12 =>
  q_cl (f_X7_back y_10.2 ℓM r_12) fun y_17 =>
  some (y_17.1, y_17.2))
  else q_cl (f_X7_back y_10.2 ℓM y_10.1) fun y_21 =>
  some (y_21.1, y_21.2)
def f_X7_ofPan (σM : qS) (ℓM : qL) (a1 : Int32) : Option (Int32) :=
    if a1 = 0 then (some (σM 99 5))
  else if a1 = 1 then (some (σM 99 6))
  else if a1 = 2 then (some (σM 99 7))
  else some (σM 99 8)
def f_X7_pan (σM : qS) (ℓM : qL) (a1 : Int32) : Option (Int32 × qS) :=
    q_cl (f_X7_in a1.toInt64 (0 : Int64) (3 : Int64)) fun r_1 =>
  if r_1 = 0 then (some ((-2 : Int32), σM))
  else q_cl (f_X7_refusal σM ℓM) fun y_7 =>
  if y_7.1 = (-6) then (q_cl (f_X7_ofPan y_7.2 ℓM a1) fun r_9 =>
  q_cl (f_X7_back y_7.2 ℓM r_9) fun y_14 =>
  some (y_14.1, y_14.2))
  else q_cl (f_X7_back y_7.2 ℓM y_7.1) fun y_18 =>
  some (y_18.1, y_18.2)
def b_X7_believing_4 (σM : qS) (a1 : Int32) (k again : (Int32 × Int32) → Option (Int32)) (s : Int32 × Int32) : Option (Int32) :=
    if (10 : Int32) ≤ s.1 then (k (s.1, s.2))
  else q_rd σM 3 10 s.1 fun r_3 =>
  if r_3 = a1 then (q_bd (s.2 ||| ((1 : Int32) <<< (s.1 &&& 31))) fun v2_9 =>
  again (s.1 + 1, v2_9))
  else q_bd (s.2 ||| 0) fun v2_7 =>
  again (s.1 + 1, v2_7)
def f_X7_believing (σM : qS) (ℓM : qL) (a1 : Int32) : Option (Int32) :=
    q_lp (b_X7_believing_4 σM a1) (fun z1 => some z1.2) 20000 ((0 : Int32), (0 : Int32))
def f_X7_holds (σM : qS) (ℓM : qL) (a1 : Int32) : Option (Int32 × qS) :=
    q_cl (f_X7_isTale a1) fun r_1 =>
  if r_1 = 0 then (some ((-1 : Int32), σM))
  else q_cl (f_X7_refusal σM ℓM) fun y_7 =>
  if y_7.1 = (-6) then (q_cl (f_X7_believing y_7.2 ℓM a1) fun r_9 =>
  q_cl (f_X7_back y_7.2 ℓM r_9) fun y_14 =>
  some (y_14.1, y_14.2))
  else q_cl (f_X7_back y_7.2 ℓM y_7.1) fun y_18 =>
  some (y_18.1, y_18.2)
def f_X7_other (σM : qS) (ℓM : qL) (a1 : Int32) : Option (Int32 × qS) :=
    q_cl (f_X7_in a1.toInt64 (0 : Int64) (1 : Int64)) fun r_1 =>
  if r_1 = 0 then (some ((-2 : Int32), σM))
  else q_cl (f_X7_refusal σM ℓM) fun y_7 =>
  q_cl (f_X7_back y_7.2 ℓM y_7.1) fun y_11 =>
  if y_11.1 = (-6) then (if a1 = 0 then (some (y_11.2 99 22, y_11.2))
  else some (y_11.2 99 23, y_11.2))
  else some (y_11.1, y_11.2)
def f_X7_done (σM : qS) (ℓM : qL) : Option (Int32 × qS) :=
    q_cl (f_X7_refusal σM ℓM) fun y_4 =>
  if y_4.1 = (-6) then (q_bd (q_pt y_4.2 13 (0 : Int32)) fun σM_6 =>
  some (σM_6 99 17, σM_6))
  else q_cl (f_X7_back y_4.2 ℓM y_4.1) fun y_11 =>
  some (y_11.1, y_11.2)

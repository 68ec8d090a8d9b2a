def b_X7_oneHouse_127 (k again : (Int32 × qL) → Option (qL)) (s : Int32 × qL) : Option (qL) :=
    if (22 : Int32) ≤ s.1 then (k (s.1, s.2))
  else q_rdL s.2 28 22 s.1 fun r_5 =>
  q_wrL s.2 27 22 s.1 r_5 fun ℓM_8 =>
  again (s.1 + 1, ℓM_8)
def b_X7_oneHouse_23 (a1 : Int32) (a2 : Int32) (k again : (Int32 × qL) → Option (qL)) (s : Int32 × qL) : Option (qL) :=
    if (10 : Int32) ≤ s.1 then (k (s.1, s.2))
  else q_rdL s.2 27 22 (((2 : Int32) * s.1) + 1) fun r_12 =>
  q_rdL s.2 27 22 ((2 : Int32) * s.1) fun r_15 =>
  q_bd ((a1.toInt64 * r_12) + (a2.toInt64 * r_15)) fun v4_18 =>
  q_rdL s.2 27 22 (((2 : Int32) * s.1) + 1) fun r_20 =>
  q_rdL s.2 27 22 ((2 : Int32) * s.1) fun r_23 =>
  q_bd ((((10 : Int64) - a1.toInt64) * r_20) + (((10 : Int64) - a2.toInt64) * r_23)) fun v6_26 =>
  q_rdL s.2 28 22 (((2 : Int32) * s.1) + 3) fun r_28 =>
  q_wrL s.2 28 22 (((2 : Int32) * s.1) + 3) (r_28 + v4_18) fun ℓM_31 =>
  q_rdL ℓM_31 28 22 ((2 : Int32) * s.1) fun r_34 =>
  q_wrL ℓM_31 28 22 ((2 : Int32) * s.1) (r_34 + v6_26) fun ℓM_37 =>
  again (s.1 + 1, ℓM_37)
def b_X7_oneHouse_2 (k again : (Int32 × qL) → Option (qL)) (s : Int32 × qL) : Option (qL) :=
    if (22 : Int32) ≤ s.1 then (k (s.1, s.2))
  else q_wrL s.2 28 22 s.1 (0 : Int64) fun ℓM_41 =>
  again (s.1 + 1, ℓM_41)
def f_X7_oneHouse (σM : qS) (ℓM : qL) (a1 : Int32) (a2 : Int32) : Option (qL) :=
    q_lp (b_X7_oneHouse_2) (fun z1 => q_lp (b_X7_oneHouse_23 a1 a2) (fun z2 => q_lp (b_X7_oneHouse_127) (fun z3 => some z3.2) 20000 ((0 : Int32), z2.2)) 20000 ((0 : Int32), z1.2)) 20000 ((0 : Int32), ℓM)
def b_X7_row_108 (a1 : Int32) (a4 : Int32) (a5 : Int32) (ℓM_14 : qL) (k again : (Int32 × Int64) → Option (Int64 × qL)) (s : Int32 × Int64) : Option (Int64 × qL) :=
    if a1 < s.1 then (k (s.1, s.2))
  else q_rdL ℓM_14 27 22 ((2 : Int32) * s.1) fun r_19 =>
  q_rdL ℓM_14 27 22 (((2 : Int32) * s.1) + 1) fun r_22 =>
  q_bd (r_19 + r_22) fun v12_25 =>
  if a5 = 0 then (if s.1 = a4 then (if a5 = 2 then (q_bd (s.2 + (s.1.toInt64 * v12_25)) fun v9_52 =>
  again (s.1 + 1, v9_52))
  else q_bd (s.2 + v12_25) fun v9_50 =>
  again (s.1 + 1, v9_50))
  else if a5 = 2 then (q_bd (s.2 + (s.1.toInt64 * v12_25)) fun v9_46 =>
  again (s.1 + 1, v9_46))
  else q_bd (s.2 + 0) fun v9_44 =>
  again (s.1 + 1, v9_44))
  else if s.1 < a4 then (if a5 = 2 then (q_bd (s.2 + (s.1.toInt64 * v12_25)) fun v9_33 =>
  again (s.1 + 1, v9_33))
  else q_bd (s.2 + 0) fun v9_31 =>
  again (s.1 + 1, v9_31))
  else if a5 = 2 then (q_bd (s.2 + (s.1.toInt64 * v12_25)) fun v9_39 =>
  again (s.1 + 1, v9_39))
  else q_bd (s.2 + v12_25) fun v9_37 =>
  again (s.1 + 1, v9_37)
def b_X7_row_76 (σM : qS) (a1 : Int32) (a2 : Int32) (a3 : Int32) (k again : (Int32 × Int64 × qL) → Option (Int64 × qL)) (s : Int32 × Int64 × qL) : Option (Int64 × qL) :=
    if a1 ≤ s.1 then (k (s.1, s.2.1, s.2.2))
  else q_cl (f_X7_oneHouse σM s.2.2 a2 a3) fun ℓM_55 =>
  q_bd (s.2.1 * 10) fun v7_57 =>
  again (s.1 + 1, v7_57, ℓM_55)
def b_X7_row_42 (k again : (Int32 × qL) → Option (Int64 × qL)) (s : Int32 × qL) : Option (Int64 × qL) :=
    if (22 : Int32) ≤ s.1 then (k (s.1, s.2))
  else q_wrL s.2 27 22 s.1 (0 : Int64) fun ℓM_60 =>
  again (s.1 + 1, ℓM_60)
def f_X7_row (σM : qS) (ℓM : qL) (a1 : Int32) (a2 : Int32) (a3 : Int32) (a4 : Int32) (a5 : Int32) (a6 : Int32) : Option (Int64 × qL) :=
    q_cl (f_X7_isRow a1 a2 a3 a4) fun r_1 =>
  if r_1 = 0 then (some ((-1000000000000000002 : Int64), ℓM))
  else q_cl (f_X7_in a5.toInt64 (0 : Int64) (2 : Int64)) fun r_4 =>
  if r_4 = 0 then (some ((-1000000000000000002 : Int64), ℓM))
  else q_cl (f_X7_in a6.toInt64 (0 : Int64) (1 : Int64)) fun r_7 =>
  if r_7 = 0 then (some ((-1000000000000000002 : Int64), ℓM))
  else q_lp (b_X7_row_42) (fun z10 => q_wrL z10.2 27 22 (1 : Int32) (1 : Int64) fun ℓM_11 =>
  q_lp (b_X7_row_76 σM a1 a2 a3) (fun z14 => q_lp (b_X7_row_108 a1 a4 a5 z14.2.2) (fun z15 => q_cl (f_X7_lowest z15.2 z14.2.1 a6) fun r_16 =>
  some (r_16, z14.2.2)) 20000 ((0 : Int32), (0 : Int64))) 20000 ((0 : Int32), (1 : Int64), ℓM_11)) 20000 ((0 : Int32), ℓM)
def f_X7_winsBy (σM : qS) (ℓM : qL) (a1 : Int32) (a2 : Int32) : Option (Int32) :=
    if (a1 - a2) ≤ ((2 : Int32) * a2) then (q_bd (a1 - a2) fun v3_2 =>
  if a2 = a1 then (some (1 : Int32))
  else q_rd σM 29 3721 (((61 : Int32) * (a1 - a2)) + v3_2) fun r_5 =>
  if r_5 = 0 then (some (1 : Int32))
  else some (0 : Int32))
  else q_bd ((2 : Int32) * a2) fun v3_9 =>
  if a2 = a1 then (some (1 : Int32))
  else q_rd σM 29 3721 (((61 : Int32) * (a1 - a2)) + v3_9) fun r_12 =>
  if r_12 = 0 then (some (1 : Int32))
  else some (0 : Int32)
def b_X7_findWins_19 (ℓM : qL) (v2_1 : Int32) (k again : (Int32 × qS) → Option (qS)) (s : Int32 × qS) : Option (qS) :=
    if v2_1 < s.1 then (k (s.1, s.2))
  else q_rd s.2 29 3721 ((((61 : Int32) * v2_1) + s.1) - 1) fun r_8 =>
  if r_8 = 0 then (q_cl (f_X7_winsBy s.2 ℓM v2_1 s.1) fun r_15 =>
  if r_15 = 0 then (q_wrZ s.2 29 3721 (((61 : Int32) * v2_1) + s.1) (0 : Int32) fun σM_18 =>
  again (s.1 + 1, σM_18))
  else q_wrZ s.2 29 3721 (((61 : Int32) * v2_1) + s.1) (1 : Int32) fun σM_21 =>
  again (s.1 + 1, σM_21))
  else q_wrZ s.2 29 3721 (((61 : Int32) * v2_1) + s.1) (1 : Int32) fun σM_12 =>
  again (s.1 + 1, σM_12)
def b_X7_findWins_2 (ℓM : qL) (a1 : Int32) (k again : (Int32 × qS) → Option (qS)) (s : Int32 × qS) : Option (qS) :=
    if a1 < s.1 then (k (s.1, s.2))
  else q_wrZ s.2 29 3721 ((61 : Int32) * s.1) (0 : Int32) fun σM_3 =>
  q_lp (b_X7_findWins_19 ℓM s.1) (fun z6 => again (s.1 + 1, z6.2)) 20000 ((1 : Int32), σM_3)
def f_X7_findWins (σM : qS) (ℓM : qL) (a1 : Int32) : Option (qS) :=
    q_lp (b_X7_findWins_2 ℓM a1) (fun z1 => some z1.2) 20000 ((0 : Int32), σM)
def b_X7_embers_38 (ℓM : qL) (a1 : Int32) (σM_7 : qS) (k again : (Int32 × Int32) → Option (Int32 × qS)) (s : Int32 × Int32) : Option (Int32 × qS) :=
    if s.1 ≤ 0 then (k (s.1, s.2))
  else q_cl (f_X7_winsBy σM_7 ℓM a1 s.1) fun r_15 =>
  if r_15 = 0 then (again (s.1 + (-1), s.2))
  else again (s.1 + (-1), s.1)
def f_X7_embers (σM : qS) (ℓM : qL) (a1 : Int32) (a2 : Int32) : Option (Int32 × qS) :=
    q_cl (f_X7_in a1.toInt64 (1 : Int64) (60 : Int64)) fun r_1 =>
  if r_1 = 0 then (some ((-2 : Int32), σM))
  else q_cl (f_X7_in a2.toInt64 (0 : Int64) (1 : Int64)) fun r_4 =>
  if r_4 = 0 then (some ((-2 : Int32), σM))
  else q_cl (f_X7_findWins σM ℓM a1) fun σM_7 =>
  q_bd (a1 - 1) fun v4_9 =>
  q_lp (b_X7_embers_38 ℓM a1 σM_7) (fun z11 => if a2 = 1 then (some (z11.2, σM_7))
  else if (0 : Int32) ≤ z11.2 then (some ((1 : Int32), σM_7))
  else some ((0 : Int32), σM_7)) 20000 (v4_9, (-6 : Int32))
def b_X7_talesBelieved_4 (σM : qS) (ℓM : qL) (k again : (Int32 × Int32) → Option (Int32)) (s : Int32 × Int32) : Option (Int32) :=
    if (10 : Int32) ≤ s.1 then (k (s.1, s.2))
  else q_cl (f_X7_believing σM ℓM s.1) fun r_3 =>
  if r_3 = 0 then (q_bd (s.2 + 0) fun v1_6 =>
  again (s.1 + 1, v1_6))
  else q_bd (s.2 + 1) fun v1_8 =>
  again (s.1 + 1, v1_8)
def f_X7_talesBelieved (σM : qS) (ℓM : qL) : Option (Int32) :=
    q_lp (b_X7_talesBelieved_4 σM ℓM) (fun z1 => some z1.2) 20000 ((0 : Int32), (0 : Int32))
def b_X7_doubts_4 (σM : qS) (k again : (Int32 × Int32) → Option (Int32)) (s : Int32 × Int32) : Option (Int32) :=
    if (10 : Int32) ≤ s.1 then (k (s.1, s.2))
  else q_rd σM 1 10 s.1 fun r_3 =>
  q_bd (s.2 + r_3) fun v1_6 =>
  again (s.1 + 1, v1_6)
def f_X7_doubts (σM : qS) (ℓM : qL) : Option (Int32) :=
    q_lp (b_X7_doubts_4 σM) (fun z1 => some z1.2) 20000 ((0 : Int32), (0 : Int32))
def b_X7_year_49 (ℓM : qL) (a2 : Int32) (k again : (Int32 × Int32 × qS) → Option (Int32 × qS)) (s : Int32 × Int32 × qS) : Option (Int32 × qS) :=
    if a2 ≤ s.1 then (k (s.1, s.2.1, s.2.2))
  else q_bd (((((75 : Int64) * s.2.1.toInt64) + 74) - (((75 : Int64) * s.2.1.toInt64) + 74) / 65537 * 65537).toInt32) fun v4_38 =>
  q_cl (f_X7_actBy (v4_38 - v4_38 / 8 * 8)) fun r_40 =>
  if r_40 = 1 then (q_bd ((v4_38 / 8) - (v4_38 / 8) / 11 * 11) fun v7_52 =>
  q_bd ((10 : Int32) * ((1 : Int32) + ((v4_38 / 80) - (v4_38 / 80) / 9 * 9))) fun v8_54 =>
  q_cl (f_X7_whyNot s.2.2 ℓM r_40 v7_52) fun r_56 =>
  if r_56 = 0 then (q_cl (f_X7_happen s.2.2 ℓM r_40 v7_52 v8_54) fun σM_59 =>
  again (s.1 + 1, v4_38, σM_59))
  else again (s.1 + 1, v4_38, s.2.2))
  else q_bd ((v4_38 / 8) - (v4_38 / 8) / 10 * 10) fun v7_43 =>
  q_bd ((10 : Int32) * ((1 : Int32) + ((v4_38 / 80) - (v4_38 / 80) / 9 * 9))) fun v8_45 =>
  q_cl (f_X7_whyNot s.2.2 ℓM r_40 v7_43) fun r_47 =>
  if r_47 = 0 then (q_cl (f_X7_happen s.2.2 ℓM r_40 v7_43 v8_45) fun σM_50 =>
  again (s.1 + 1, v4_38, σM_50))
  else again (s.1 + 1, v4_38, s.2.2)
def f_X7_year (σM : qS) (ℓM : qL) (a1 : Int32) (a2 : Int32) (a3 : Int32) : Option (Int32 × qS) :=
    q_cl (f_X7_in a1.toInt64 (0 : Int64) (9999 : Int64)) fun r_1 =>
  if r_1 = 0 then (some ((-2 : Int32), σM))
  else q_cl (f_X7_in a2.toInt64 (1 : Int64) (99 : Int64)) fun r_4 =>
  if r_4 = 0 then (some ((-2 : Int32), σM))
  else q_cl (f_X7_in a3.toInt64 (0 : Int64) (2 : Int64)) fun r_7 =>
  if r_7 = 0 then (some ((-2 : Int32), σM))
  else q_cl (f_X7_keepNow σM ℓM) fun σM_10 =>
  q_lp (b_X7_year_49 ℓM a2) (fun z12 => if a3 = 0 then (q_cl (f_X7_believing z12.2.2 ℓM (-6 : Int32)) fun r_27 =>
  q_cl (f_X7_ones r_27) fun r_29 =>
  q_bd ((10 : Int32) - r_29) fun v5_31 =>
  q_cl (f_X7_back z12.2.2 ℓM v5_31) fun y_36 =>
  some (y_36.1, y_36.2))
  else if a3 = 1 then (q_cl (f_X7_talesBelieved z12.2.2 ℓM) fun r_21 =>
  q_cl (f_X7_back z12.2.2 ℓM r_21) fun y_26 =>
  some (y_26.1, y_26.2))
  else q_cl (f_X7_doubts z12.2.2 ℓM) fun r_15 =>
  q_cl (f_X7_back z12.2.2 ℓM r_15) fun y_20 =>
  some (y_20.1, y_20.2)) 20000 ((0 : Int32), a1, σM_10)
def f_X7_pass (σM : qS) (ℓM : qL) (a1 : Int32) : Option (Int32 × qS) :=
    if (σM 99 33) = 0 then (q_rd σM 30 400 (σM 99 32) fun r_2 =>
  q_wr σM 30 400 (σM 99 32) r_2 fun σM_5 =>
  q_bd (q_pt σM_5 32 ((σM_5 99 32) + 1)) fun σM_8 =>
  some (r_2, σM_8))
  else q_wr σM 30 400 (σM 99 32) a1 fun σM_10 =>
  q_bd (q_pt σM_10 32 ((σM_10 99 32) + 1)) fun σM_13 =>
  some (a1, σM_13)

def b_X7_findOff_66 (v1_2 : Int32) (k again : (Int32 × qS) → Option (qS)) (s : Int32 × qS) : Option (qS) :=
    if (121 : Int32) ≤ s.1 then (k (s.1, s.2))
  else q_rd s.2 24 121 (((11 : Int32) * (s.1 / 11)) + v1_2) fun r_6 =>
  q_rd s.2 24 121 (((11 : Int32) * v1_2) + (s.1 - s.1 / 11 * 11)) fun r_9 =>
  q_bd (r_6 + r_9) fun v3_12 =>
  q_rd s.2 24 121 s.1 fun r_14 =>
  if r_14 ≤ v3_12 then (q_rd s.2 24 121 s.1 fun r_18 =>
  q_wr s.2 24 121 s.1 r_18 fun σM_21 =>
  again (s.1 + 1, σM_21))
  else q_wr s.2 24 121 s.1 v3_12 fun σM_24 =>
  again (s.1 + 1, σM_24)
def b_X7_findOff_58 (k again : (Int32 × qS) → Option (qS)) (s : Int32 × qS) : Option (qS) :=
    if (11 : Int32) ≤ s.1 then (k (s.1, s.2))
  else q_lp (b_X7_findOff_66 s.1) (fun z4 => again (s.1 + 1, z4.2)) 20000 ((0 : Int32), s.2)
def b_X7_findOff_2 (k again : (Int32 × qS) → Option (qS)) (s : Int32 × qS) : Option (qS) :=
    if (121 : Int32) ≤ s.1 then (k (s.1, s.2))
  else if (s.1 / 11) = (s.1 - s.1 / 11 * 11) then (q_wr s.2 24 121 s.1 (0 : Int32) fun σM_42 =>
  again (s.1 + 1, σM_42))
  else q_rd s.2 0 121 s.1 fun r_29 =>
  if r_29 ≤ 0 then (q_wr s.2 24 121 s.1 (1000 : Int32) fun σM_33 =>
  again (s.1 + 1, σM_33))
  else q_rd s.2 0 121 s.1 fun r_36 =>
  q_wr s.2 24 121 s.1 r_36 fun σM_39 =>
  again (s.1 + 1, σM_39)
def f_X7_findOff (σM : qS) (ℓM : qL) : Option (qS) :=
    q_lp (b_X7_findOff_2) (fun z1 => q_lp (b_X7_findOff_58) (fun z2 => some z2.2) 20000 ((0 : Int32), z1.2)) 20000 ((0 : Int32), σM)
def b_X7_near_72 (a1 : Int32) (a2 : Int32) (σM_10 : qS) (r_12 : Int32) (k again : (Int32 × Int32) → Option (Int32 × qS)) (s : Int32 × Int32) : Option (Int32 × qS) :=
    if s.1 < 0 then (k (s.1, s.2))
  else if a1 = a2 then (k (s.1, s.2))
  else q_rd σM_10 0 121 (((11 : Int32) * a1) + s.1) fun r_20 =>
  if r_20 ≤ 0 then (again (s.1 + (-1), s.2))
  else q_rd σM_10 24 121 (((11 : Int32) * s.1) + a2) fun r_24 =>
  if (r_20 + r_24) = r_12 then (again (s.1 + (-1), s.1))
  else again (s.1 + (-1), s.2)
def f_X7_near (σM : qS) (ℓM : qL) (a1 : Int32) (a2 : Int32) (a3 : Int32) : Option (Int32 × qS) :=
    q_cl (f_X7_isPlace a1) fun r_1 =>
  if r_1 = 0 then (some ((-1 : Int32), σM))
  else q_cl (f_X7_isPlace a2) fun r_4 =>
  if r_4 = 0 then (some ((-1 : Int32), σM))
  else q_cl (f_X7_in a3.toInt64 (0 : Int64) (1 : Int64)) fun r_7 =>
  if r_7 = 0 then (some ((-2 : Int32), σM))
  else q_cl (f_X7_findOff σM ℓM) fun σM_10 =>
  q_rd σM_10 24 121 (((11 : Int32) * a1) + a2) fun r_12 =>
  if r_12 < 1000 then (if a3 = 0 then (some (r_12, σM_10))
  else q_lp (b_X7_near_72 a1 a2 σM_10 r_12) (fun z17 => some (z17.2, σM_10)) 20000 ((10 : Int32), (-6 : Int32)))
  else some ((-6 : Int32), σM_10)
def f_X7_behindBed (σM : qS) (ℓM : qL) (a1 : Int32) (a2 : Int32) : Option (Int32) :=
    q_rd σM 2 10 a2 fun r_1 =>
  if r_1 = 0 then (q_rd σM 1 10 a2 fun r_5 =>
  if a1 ≤ ((9 : Int32) * r_5) then (some (-6 : Int32))
  else q_cl (f_X7_cooled a1 (5 : Int32)) fun r_9 =>
  some r_9)
  else some (-6 : Int32)
def b_X7_hottest_22 (σM : qS) (ℓM : qL) (a2 : Int32) (v3_1 : Int32) (k again : (Int32 × Int32) → Option (Int32)) (s : Int32 × Int32) : Option (Int32) :=
    if (10 : Int32) ≤ s.1 then (k (s.1, s.2))
  else if ((v3_1 >>> (s.1 &&& 31)) &&& 1) = 1 then (q_rd σM 25 10240 (((10 : Int32) * v3_1) + s.1) fun r_9 =>
  if (0 : Int32) ≤ r_9 then (q_rd σM 24 121 (((11 : Int32) * s.1) + a2) fun r_13 =>
  q_cl (f_X7_cooled r_9 r_13) fun r_16 =>
  q_cl (f_X7_behindBed σM ℓM r_16 a2) fun r_18 =>
  if r_18 ≤ s.2 then (again (s.1 + 1, s.2))
  else again (s.1 + 1, r_18))
  else if (-6 : Int32) ≤ s.2 then (again (s.1 + 1, s.2))
  else again (s.1 + 1, (-6 : Int32)))
  else if (-6 : Int32) ≤ s.2 then (again (s.1 + 1, s.2))
  else again (s.1 + 1, (-6 : Int32))
def f_X7_hottest (σM : qS) (ℓM : qL) (a1 : Int32) (a2 : Int32) : Option (Int32) :=
    q_bd (a1 &&& (((1 : Int32) <<< (a2 &&& 31)) ^^^ (-1))) fun v3_1 =>
  if v3_1 = 0 then (some (-6 : Int32))
  else q_lp (b_X7_hottest_22 σM ℓM a2 v3_1) (fun z4 => some z4.2) 20000 ((0 : Int32), (-6 : Int32))
def b_X7_findHot_5 (ℓM : qL) (a1 : Int32) (a2 : Int32) (k again : (Int32 × qS × Int32) → Option (Int32 × qS)) (s : Int32 × qS × Int32) : Option (Int32 × qS) :=
    if (10 : Int32) ≤ s.1 then (k (s.1, s.2.1, s.2.2))
  else if ((a1 >>> (s.1 &&& 31)) &&& 1) = 1 then (if a1 = ((1 : Int32) <<< (s.1 &&& 31)) then (q_rd s.2.1 24 121 ((110 : Int32) + s.1) fun r_37 =>
  q_cl (f_X7_cooled a2 r_37) fun r_40 =>
  q_cl (f_X7_behindBed s.2.1 ℓM r_40 s.1) fun r_42 =>
  q_wr s.2.1 25 10240 (((10 : Int32) * a1) + s.1) r_42 fun σM_44 =>
  if s.2.2 = 0 then (if r_42 < 0 then (again (s.1 + 1, σM_44, (0 : Int32)))
  else again (s.1 + 1, σM_44, (1 : Int32)))
  else again (s.1 + 1, σM_44, (1 : Int32)))
  else q_cl (f_X7_hottest s.2.1 ℓM a1 s.1) fun r_29 =>
  q_wr s.2.1 25 10240 (((10 : Int32) * a1) + s.1) r_29 fun σM_31 =>
  if s.2.2 = 0 then (if r_29 < 0 then (again (s.1 + 1, σM_31, (0 : Int32)))
  else again (s.1 + 1, σM_31, (1 : Int32)))
  else again (s.1 + 1, σM_31, (1 : Int32)))
  else if a1 = ((1 : Int32) <<< (s.1 &&& 31)) then (q_rd s.2.1 24 121 ((110 : Int32) + s.1) fun r_14 =>
  q_cl (f_X7_cooled a2 r_14) fun r_17 =>
  q_cl (f_X7_behindBed s.2.1 ℓM r_17 s.1) fun r_19 =>
  q_wr s.2.1 25 10240 (((10 : Int32) * a1) + s.1) r_19 fun σM_21 =>
  if s.2.2 = 0 then (if r_19 < 0 then (again (s.1 + 1, σM_21, (0 : Int32)))
  else again (s.1 + 1, σM_21, (1 : Int32)))
  else again (s.1 + 1, σM_21, (1 : Int32)))
  else q_wr s.2.1 25 10240 (((10 : Int32) * a1) + s.1) (-6 : Int32) fun σM_8 =>
  if s.2.2 = 0 then (again (s.1 + 1, σM_8, (0 : Int32)))
  else again (s.1 + 1, σM_8, (1 : Int32))
def f_X7_findHot (σM : qS) (ℓM : qL) (a1 : Int32) (a2 : Int32) : Option (Int32 × qS) :=
    q_lp (b_X7_findHot_5 ℓM a1 a2) (fun z1 => q_chk (q_isB z1.2.2) <| some (z1.2.2, z1.2.1)) 20000 ((0 : Int32), σM, (0 : Int32))
def b_X7_round_34 (ℓM : qL) (a1 : Int32) (k again : (Int32 × qS × Int32) → Option (Int32 × qS)) (s : Int32 × qS × Int32) : Option (Int32 × qS) :=
    if (1024 : Int32) ≤ s.1 then (k (s.1, s.2.1, s.2.2))
  else q_cl (f_X7_findHot s.2.1 ℓM s.1 a1) fun y_17 =>
  if y_17.1 = 0 then (again (s.1 + 1, y_17.2, s.2.2))
  else q_cl (f_X7_ones s.1) fun r_19 =>
  q_cl (f_X7_ones s.2.2) fun r_21 =>
  if r_19 ≤ r_21 then (again (s.1 + 1, y_17.2, s.2.2))
  else again (s.1 + 1, y_17.2, s.1)
def f_X7_round (σM : qS) (ℓM : qL) (a1 : Int32) (a2 : Int32) : Option (Int32 × qS) :=
    q_cl (f_X7_in a1.toInt64 (0 : Int64) (99 : Int64)) fun r_1 =>
  if r_1 = 0 then (some ((-2 : Int32), σM))
  else q_cl (f_X7_in a2.toInt64 (0 : Int64) (1 : Int64)) fun r_4 =>
  if r_4 = 0 then (some ((-2 : Int32), σM))
  else q_cl (f_X7_findOff σM ℓM) fun σM_7 =>
  q_lp (b_X7_round_34 ℓM a1) (fun z9 => if a2 = 0 then (q_cl (f_X7_ones z9.2.2) fun r_11 =>
  some (r_11, z9.2.1))
  else some (z9.2.2, z9.2.1)) 20000 ((1 : Int32), σM_7, (0 : Int32))
def b_X7_around_4 (σM : qS) (a1 : Int32) (k again : (Int32 × Int32) → Option (Int32)) (s : Int32 × Int32) : Option (Int32) :=
    if (121 : Int32) ≤ s.1 then (k (s.1, s.2))
  else if ((a1 >>> ((s.1 / 11) &&& 31)) &&& 1) = 1 then (q_rd σM 0 121 s.1 fun r_6 =>
  if r_6 ≤ 0 then (q_bd (s.2 ||| 0) fun v2_10 =>
  again (s.1 + 1, v2_10))
  else q_bd (s.2 ||| ((1 : Int32) <<< ((s.1 - s.1 / 11 * 11) &&& 31))) fun v2_12 =>
  again (s.1 + 1, v2_12))
  else q_bd (s.2 ||| 0) fun v2_4 =>
  again (s.1 + 1, v2_4)
def f_X7_around (σM : qS) (ℓM : qL) (a1 : Int32) : Option (Int32) :=
    q_lp (b_X7_around_4 σM a1) (fun z1 => some z1.2) 20000 ((0 : Int32), a1)
def b_X7_isKept_7 (σM : qS) (ℓM : qL) (a2 : Int32) (k again : (Int32 × Int32) → Option (Int32)) (s : Int32 × Int32) : Option (Int32) :=
    if (11 : Int32) ≤ s.1 then (k (s.1, s.2))
  else q_cl (f_X7_around σM ℓM s.2) fun r_4 =>
  q_bd (r_4 &&& (a2 ^^^ (-1))) fun v3_6 =>
  again (s.1 + 1, v3_6)
def f_X7_isKept (σM : qS) (ℓM : qL) (a1 : Int32) (a2 : Int32) : Option (Int32) :=
    q_lp (b_X7_isKept_7 σM ℓM a2) (fun z1 => if ((z1.2 >>> (a1 &&& 31)) &&& 1) = 0 then (some (1 : Int32))
  else some (0 : Int32)) 20000 ((0 : Int32), (1024 : Int32))
def b_X7_keep_28 (σM : qS) (ℓM : qL) (a1 : Int32) (k again : (Int32 × Int32) → Option (Int32)) (s : Int32 × Int32) : Option (Int32) :=
    if (1024 : Int32) ≤ s.1 then (k (s.1, s.2))
  else if ((s.1 >>> (a1 &&& 31)) &&& 1) = 0 then (if s.2 < 0 then (q_cl (f_X7_isKept σM ℓM a1 s.1) fun r_17 =>
  if r_17 = 0 then (again (s.1 + 1, s.2))
  else again (s.1 + 1, s.1))
  else q_cl (f_X7_ones s.1) fun r_20 =>
  q_cl (f_X7_ones s.2) fun r_22 =>
  if r_22 ≤ r_20 then (again (s.1 + 1, s.2))
  else q_cl (f_X7_isKept σM ℓM a1 s.1) fun r_27 =>
  if r_27 = 0 then (again (s.1 + 1, s.2))
  else again (s.1 + 1, s.1))
  else again (s.1 + 1, s.2)
def f_X7_keep (σM : qS) (ℓM : qL) (a1 : Int32) (a2 : Int32) : Option (Int32) :=
    q_cl (f_X7_isHouse a1) fun r_1 =>
  if r_1 = 0 then (some (-1 : Int32))
  else q_cl (f_X7_in a2.toInt64 (0 : Int64) (1 : Int64)) fun r_4 =>
  if r_4 = 0 then (some (-2 : Int32))
  else q_lp (b_X7_keep_28 σM ℓM a1) (fun z7 => if z7.2 < 0 then (some z7.2)
  else if a2 = 1 then (some z7.2)
  else q_cl (f_X7_ones z7.2) fun r_10 =>
  some r_10) 20000 ((0 : Int32), (-6 : Int32))
def b_X7_fadedBy_5 (σM : qS) (a2 : Int32) (k again : (Int32 × Int32) → Option (Int32)) (s : Int32 × Int32) : Option (Int32) :=
    if a2 ≤ s.1 then (k (s.1, s.2))
  else q_rd σM 4 10 s.2 fun r_3 =>
  again (s.1 + 1, r_3)
def f_X7_fadedBy (σM : qS) (ℓM : qL) (a1 : Int32) (a2 : Int32) : Option (Int32) :=
    q_lp (b_X7_fadedBy_5 σM a2) (fun z1 => some z1.2) 20000 ((0 : Int32), a1)
def b_X7_cameAhead_2 (σM : qS) (ℓM : qL) (a1 : Int32) (a2 : Int32) (k again : Int32 → Option (Int32)) (s : Int32) : Option (Int32) :=
    if a2 ≤ s then (k s)
  else q_cl (f_X7_fadedBy σM ℓM a1 s) fun r_3 =>
  q_cl (f_X7_fadedBy σM ℓM a1 a2) fun r_5 =>
  if r_3 = r_5 then (some (a2 - s))
  else again (s + 1)
def f_X7_cameAhead (σM : qS) (ℓM : qL) (a1 : Int32) (a2 : Int32) : Option (Int32) :=
    q_lp (b_X7_cameAhead_2 σM ℓM a1 a2) (fun _ => some (-6 : Int32)) 20000 (0 : Int32)
def b_X7_faded_39 (σM : qS) (ℓM : qL) (a1 : Int32) (k again : Int32 → Option (Int32)) (s : Int32) : Option (Int32) :=
    q_cl (f_X7_cameAhead σM ℓM a1 s) fun r_12 =>
  if (0 : Int32) ≤ r_12 then (k s)
  else again (s + 1)
def f_X7_faded (σM : qS) (ℓM : qL) (a1 : Int32) (a2 : Int32) : Option (Int32) :=
    q_cl (f_X7_isTale a1) fun r_1 =>
  if r_1 = 0 then (some (-1 : Int32))
  else q_cl (f_X7_in a2.toInt64 (-2 : Int64) (99 : Int64)) fun r_4 =>
  if r_4 = 0 then (some (-2 : Int32))
  else if a2 < 0 then (q_lp (b_X7_faded_39 σM ℓM a1) (fun z8 => if a2 = (-1) then (some z8)
  else q_cl (f_X7_cameAhead σM ℓM a1 z8) fun r_10 =>
  some r_10) 20000 (1 : Int32))
  else q_cl (f_X7_fadedBy σM ℓM a1 a2) fun r_15 =>
  some r_15
def f_X7_seen (σM : qS) (ℓM : qL) (a1 : Int32) (a2 : Int32) : Option (Int32 × qS) :=
    q_cl (f_X7_isTale a2) fun r_1 =>
  if r_1 = 0 then (some ((-1 : Int32), σM))
  else q_cl (f_X7_in a1.toInt64 (0 : Int64) (40 : Int64)) fun r_4 =>
  if r_4 = 0 then (some ((-2 : Int32), σM))
  else if (σM 99 11) = 8 then (some ((-4 : Int32), σM))
  else q_wr σM 9 8 (σM 99 11) a1 fun σM_8 =>
  q_wr σM_8 10 8 (σM_8 99 11) a2 fun σM_11 =>
  q_bd (q_pt σM_11 11 ((σM_11 99 11) + 1)) fun σM_14 =>
  some (σM_14 99 11, σM_14)
def f_X7_forget (σM : qS) (ℓM : qL) : Option (Int32 × qS) :=
    q_bd (σM 99 11) fun v1_1 =>
  q_bd (q_pt σM 11 (0 : Int32)) fun σM_3 =>
  some (v1_1, σM_3)
def b_X7_isFit_15 (σM : qS) (ℓM : qL) (a1 : Int32) (k again : (Int32 × Int32) → Option (Int32)) (s : Int32 × Int32) : Option (Int32) :=
    if (σM 99 11) ≤ s.1 then (k (s.1, s.2))
  else if s.2 = 0 then (k (s.1, s.2))
  else q_rd σM 9 8 s.1 fun r_7 =>
  q_nz (a1 - a1 / 10 * 10) <|
  q_cl (f_X7_fadedBy σM ℓM (a1 / 10) (r_7 / (a1 - a1 / 10 * 10))) fun r_11 =>
  q_rd σM 10 8 s.1 fun r_13 =>
  if r_11 = r_13 then (again (s.1 + 1, (1 : Int32)))
  else again (s.1 + 1, (0 : Int32))
def f_X7_isFit (σM : qS) (ℓM : qL) (a1 : Int32) : Option (Int32) :=
    q_cl (f_X7_in ((a1 - a1 / 10 * 10).toInt64) (1 : Int64) (5 : Int64)) fun r_1 =>
  q_lp (b_X7_isFit_15 σM ℓM a1) (fun z3 => q_chk (q_isB z3.2) <| some z3.2) 20000 ((0 : Int32), r_1)
def b_X7_fits_4 (σM : qS) (ℓM : qL) (a1 : Int32) (k again : (Int32 × Int32) → Option (Int32)) (s : Int32 × Int32) : Option (Int32) :=
    if (100 : Int32) ≤ s.1 then (k (s.1, s.2))
  else q_cl (f_X7_isFit σM ℓM s.1) fun r_4 =>
  if r_4 = 0 then (again (s.1 + 1, s.2))
  else if s.2 = a1 then (some s.1)
  else again (s.1 + 1, s.2 + 1)
def f_X7_fits (σM : qS) (ℓM : qL) (a1 : Int32) : Option (Int32) :=
    q_lp (b_X7_fits_4 σM ℓM a1) (fun z1 => if a1 = (-1) then (some z1.2)
  else some (-6 : Int32)) 20000 ((0 : Int32), (0 : Int32))
def b_X7_mostLeft_25 (ℓM : qL) (a1 : Int32) (k again : (Int32 × qS × Int32) → Option (Int32 × qS)) (s : Int32 × qS × Int32) : Option (Int32 × qS) :=
    if (100 : Int32) ≤ s.1 then (k (s.1, s.2.1, s.2.2))
  else q_cl (f_X7_isFit s.2.1 ℓM s.1) fun r_4 =>
  if r_4 = 0 then (again (s.1 + 1, s.2.1, s.2.2))
  else q_nz (s.1 - s.1 / 10 * 10) <|
  q_cl (f_X7_fadedBy s.2.1 ℓM (s.1 / 10) (a1 / (s.1 - s.1 / 10 * 10))) fun r_8 =>
  q_rd s.2.1 26 10 r_8 fun r_10 =>
  q_wr s.2.1 26 10 r_8 (r_10 + 1) fun σM_13 =>
  q_rd σM_13 26 10 r_8 fun r_16 =>
  if r_16 ≤ s.2.2 then (again (s.1 + 1, σM_13, s.2.2))
  else q_rd σM_13 26 10 r_8 fun r_20 =>
  again (s.1 + 1, σM_13, r_20)
def b_X7_mostLeft_4 (k again : (Int32 × qS) → Option (Int32 × qS)) (s : Int32 × qS) : Option (Int32 × qS) :=
    if (10 : Int32) ≤ s.1 then (k (s.1, s.2))
  else q_wr s.2 26 10 s.1 (0 : Int32) fun σM_24 =>
  again (s.1 + 1, σM_24)
def f_X7_mostLeft (σM : qS) (ℓM : qL) (a1 : Int32) : Option (Int32 × qS) :=
    q_lp (b_X7_mostLeft_4) (fun z1 => q_lp (b_X7_mostLeft_25 ℓM a1) (fun z2 => some (z2.2.2, z2.2.1)) 20000 ((0 : Int32), z1.2, (0 : Int32))) 20000 ((0 : Int32), σM)
def b_X7_ask_24 (ℓM : qL) (k again : (Int32 × qS × Int32 × Int32) → Option (Int32 × qS)) (s : Int32 × qS × Int32 × Int32) : Option (Int32 × qS) :=
    if (40 : Int32) < s.1 then (k (s.1, s.2.1, s.2.2.1, s.2.2.2))
  else q_cl (f_X7_mostLeft s.2.1 ℓM s.1) fun y_15 =>
  if s.2.2.1 ≤ y_15.1 then (if s.2.2.1 ≤ y_15.1 then (again (s.1 + 1, y_15.2, s.2.2.1, s.2.2.2))
  else again (s.1 + 1, y_15.2, y_15.1, s.2.2.2))
  else if s.2.2.1 ≤ y_15.1 then (again (s.1 + 1, y_15.2, s.2.2.1, s.1))
  else again (s.1 + 1, y_15.2, y_15.1, s.1)
def f_X7_ask (σM : qS) (ℓM : qL) (a1 : Int32) : Option (Int32 × qS) :=
    q_cl (f_X7_in a1.toInt64 (0 : Int64) (1 : Int64)) fun r_1 =>
  if r_1 = 0 then (some ((-2 : Int32), σM))
  else q_cl (f_X7_mostLeft σM ℓM (0 : Int32)) fun y_7 =>
  q_lp (b_X7_ask_24 ℓM) (fun z8 => if z8.2.2.1 = 0 then (some ((-6 : Int32), z8.2.1))
  else if a1 = 0 then (some (z8.2.2.2, z8.2.1))
  else some (z8.2.2.1, z8.2.1)) 20000 ((1 : Int32), y_7.2, y_7.1, (0 : Int32))

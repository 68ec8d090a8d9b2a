def f_X6_road (σC : qS) (a1 : Int32) (a2 : Int32) (a3 : Int32) : Option (Int32 × qS) :=
    q_cl (f_X6_isPlace a1) fun r_1 =>
  if r_1 = 0 then (some ((-1 : Int32), σC))
  else q_cl (f_X6_isPlace a2) fun r_4 =>
  if r_4 = 0 then (some ((-1 : Int32), σC))
  else if a1 = a2 then (some ((-1 : Int32), σC))
  else q_cl (f_X6_within a3 (0 : Int32) (9 : Int32)) fun r_8 =>
  if r_8 = 0 then (some ((-2 : Int32), σC))
  else q_cl (f_X1_longBetween σC a1 a2) fun r_11 =>
  q_cl (f_X1_layRoad σC a1 a2 a3) fun σC_13 =>
  some (r_11, σC_13)
def f_X6_house (σC : qS) (a1 : Int32) (a2 : Int32) (a3 : Int32) : Option (Int32 × qS) :=
    q_cl (f_X6_isHouse a1) fun r_1 =>
  if r_1 = 0 then (some ((-1 : Int32), σC))
  else q_cl (f_X6_within a2 (0 : Int32) (9 : Int32)) fun r_4 =>
  if r_4 = 0 then (some ((-2 : Int32), σC))
  else q_cl (f_X6_within a3 (0 : Int32) (1 : Int32)) fun r_7 =>
  if r_7 = 0 then (some ((-2 : Int32), σC))
  else q_cl (f_X1_doubtOf σC a1) fun r_10 =>
  q_cl (f_X1_furnish σC a1 a2 a3) fun σC_12 =>
  some (r_10, σC_12)
def f_X6_tell (σC : qS) (a1 : Int32) (a2 : Int32) : Option (Int32 × qS) :=
    q_cl (f_X6_isHouse a1) fun r_1 =>
  if r_1 = 0 then (some ((-1 : Int32), σC))
  else q_cl (f_X6_isTale a2) fun r_4 =>
  if r_4 = 0 then (if a2 = (-1) then (q_cl (f_X1_beliefOf σC a1) fun r_15 =>
  if a2 = (-1) then (q_cl (f_X1_convince σC a1 (-6 : Int32)) fun σC_20 =>
  some (r_15, σC_20))
  else q_cl (f_X1_convince σC a1 a2) fun σC_18 =>
  some (r_15, σC_18))
  else some ((-1 : Int32), σC))
  else q_cl (f_X1_beliefOf σC a1) fun r_7 =>
  if a2 = (-1) then (q_cl (f_X1_convince σC a1 (-6 : Int32)) fun σC_12 =>
  some (r_7, σC_12))
  else q_cl (f_X1_convince σC a1 a2) fun σC_10 =>
  some (r_7, σC_10)
def f_X6_fade (σC : qS) (a1 : Int32) (a2 : Int32) : Option (Int32 × qS) :=
    q_cl (f_X6_isTale a1) fun r_1 =>
  if r_1 = 0 then (some ((-1 : Int32), σC))
  else q_cl (f_X6_isTale a2) fun r_4 =>
  if r_4 = 0 then (some ((-1 : Int32), σC))
  else q_cl (f_X1_fadesInto σC a1) fun r_7 =>
  q_cl (f_X1_letFade σC a1 a2) fun σC_9 =>
  some (r_7, σC_9)
def f_X6_say (σP : qS) (a1 : Int32) : Option (Int32 × qS) :=
    q_cl (f_X6_within a1 (33 : Int32) (126 : Int32)) fun r_1 =>
  if r_1 = 0 then (some ((-2 : Int32), σP))
  else q_cl (f_X3_add σP a1) fun y_7 =>
  if y_7.1 = 0 then (some ((-4 : Int32), y_7.2))
  else q_cl (f_X3_size y_7.2) fun r_9 =>
  some (r_9, y_7.2)
def f_X6_wipe (σP : qS) : Option (Int32 × qS) :=
    q_cl (f_X3_size σP) fun r_1 =>
  q_cl (f_X3_clear σP) fun σP_3 =>
  some (r_1, σP_3)
def f_X6_judge (σN : qS) (σP : qS) (σD : qS) (σC : qS) (a1 : Int32) : Option (Int32 × qS × qS) :=
    q_cl (f_X6_within a1 (0 : Int32) (2 : Int32)) fun r_1 =>
  if r_1 = 0 then (some ((-2 : Int32), σN, σD))
  else q_cl (f_X2_pass σN σP σD σC) fun y_8 =>
  if y_8.1 = (-5) then (some (y_8.1, y_8.2.1, y_8.2.2))
  else if y_8.1 = (-3) then (if a1 = 2 then (some (y_8.1, y_8.2.1, y_8.2.2))
  else if a1 = 0 then (some (y_8.2.1 99 2, y_8.2.1, y_8.2.2))
  else if a1 = 1 then (some (y_8.2.1 99 3, y_8.2.1, y_8.2.2))
  else some (y_8.2.1 99 1, y_8.2.1, y_8.2.2))
  else if a1 = 0 then (some (y_8.2.1 99 2, y_8.2.1, y_8.2.2))
  else if a1 = 1 then (some (y_8.2.1 99 3, y_8.2.1, y_8.2.2))
  else some (y_8.2.1 99 1, y_8.2.1, y_8.2.2)
def f_X6_behind (σN : qS) (σP : qS) (σD : qS) (σC : qS) (a1 : Int32) (a2 : Int32) : Option (Int32 × qS × qS) :=
    q_cl (f_X6_isHouse a1) fun r_1 =>
  if r_1 = 0 then (some ((-1 : Int32), σN, σD))
  else q_cl (f_X6_within a2 (0 : Int32) (2 : Int32)) fun r_4 =>
  if r_4 = 0 then (some ((-2 : Int32), σN, σD))
  else q_cl (f_X2_pass σN σP σD σC) fun y_11 =>
  if y_11.1 = 0 then (q_cl (f_X1_houseFact y_11.2.2 a1 a2) fun r_13 =>
  some (r_13, y_11.2.1, y_11.2.2))
  else some (y_11.1, y_11.2.1, y_11.2.2)
def f_X6_pan (σN : qS) (σP : qS) (σD : qS) (σC : qS) (a1 : Int32) : Option (Int32 × qS × qS) :=
    q_cl (f_X6_within a1 (0 : Int32) (3 : Int32)) fun r_1 =>
  if r_1 = 0 then (some ((-2 : Int32), σN, σD))
  else q_cl (f_X2_pass σN σP σD σC) fun y_8 =>
  if y_8.1 = 0 then (q_cl (f_X1_panFact y_8.2.2 a1) fun r_10 =>
  some (r_10, y_8.2.1, y_8.2.2))
  else some (y_8.1, y_8.2.1, y_8.2.2)
def f_X6_holds (σN : qS) (σP : qS) (σD : qS) (σC : qS) (a1 : Int32) : Option (Int32 × qS × qS) :=
    q_cl (f_X6_isTale a1) fun r_1 =>
  if r_1 = 0 then (some ((-1 : Int32), σN, σD))
  else q_cl (f_X2_pass σN σP σD σC) fun y_8 =>
  if y_8.1 = 0 then (q_cl (f_X1_believersOf y_8.2.2 a1) fun r_10 =>
  some (r_10, y_8.2.1, y_8.2.2))
  else some (y_8.1, y_8.2.1, y_8.2.2)
def f_X6_other (σN : qS) (σP : qS) (σD : qS) (σC : qS) (a1 : Int32) : Option (Int32 × qS × qS) :=
    q_cl (f_X6_within a1 (0 : Int32) (1 : Int32)) fun r_1 =>
  if r_1 = 0 then (some ((-2 : Int32), σN, σD))
  else q_cl (f_X2_pass σN σP σD σC) fun y_8 =>
  if y_8.1 = 0 then (if a1 = 0 then (some (y_8.2.1 99 4, y_8.2.1, y_8.2.2))
  else some (y_8.2.1 99 5, y_8.2.1, y_8.2.2))
  else some (y_8.1, y_8.2.1, y_8.2.2)
def f_X6_done (σN : qS) (σP : qS) (σD : qS) (σC : qS) : Option (Int32 × qS × qS × qS × qS) :=
    q_cl (f_X2_pass σN σP σD σC) fun y_5 =>
  if y_5.1 = 0 then (q_cl (f_X1_copyFrom σC y_5.2.2) fun σC_7 =>
  q_cl (f_X3_clear σP) fun σP_9 =>
  some (y_5.2.1 99 0, y_5.2.1, σP_9, y_5.2.2, σC_7))
  else some (y_5.1, y_5.2.1, σP, y_5.2.2, σC)
def f_X6_near (σW : qS) (σC : qS) (a1 : Int32) (a2 : Int32) (a3 : Int32) : Option (Int32 × qS) :=
    q_cl (f_X6_isPlace a1) fun r_1 =>
  if r_1 = 0 then (some ((-1 : Int32), σW))
  else q_cl (f_X6_isPlace a2) fun r_4 =>
  if r_4 = 0 then (some ((-1 : Int32), σW))
  else q_cl (f_X6_within a3 (0 : Int32) (1 : Int32)) fun r_7 =>
  if r_7 = 0 then (some ((-2 : Int32), σW))
  else q_cl (f_X5_measure σW σC) fun σW_10 =>
  if a3 = 0 then (q_cl (f_X5_howFar σW_10 a1 a2) fun r_15 =>
  some (r_15, σW_10))
  else q_cl (f_X5_nextPlace σW_10 σC a1 a2) fun r_13 =>
  some (r_13, σW_10)
def f_X6_keep (σW : qS) (σC : qS) (a1 : Int32) (a2 : Int32) : Option (Int32 × qS) :=
    q_cl (f_X6_isHouse a1) fun r_1 =>
  if r_1 = 0 then (some ((-1 : Int32), σW))
  else q_cl (f_X6_within a2 (0 : Int32) (1 : Int32)) fun r_4 =>
  if r_4 = 0 then (some ((-2 : Int32), σW))
  else q_cl (f_X5_fewestDamp σW σC a1) fun y_10 =>
  if a2 = 1 then (some (y_10.1, y_10.2))
  else if y_10.1 = (-6) then (some (y_10.1, y_10.2))
  else q_cl (f_J6_bitCount_0f7a4 y_10.1) fun r_13 =>
  some (r_13, y_10.2)
def f_X6_faded (σC : qS) (a1 : Int32) (a2 : Int32) : Option (Int32) :=
    q_cl (f_X6_isTale a1) fun r_1 =>
  if r_1 = 0 then (some (-1 : Int32))
  else q_cl (f_X6_within a2 (-2 : Int32) (99 : Int32)) fun r_4 =>
  if r_4 = 0 then (some (-2 : Int32))
  else if a2 < 0 then (if a2 = (-1) then (q_cl (f_X1_stirsToRing σC a1) fun r_11 =>
  some r_11)
  else q_cl (f_X1_stirsOfRing σC a1) fun r_9 =>
  some r_9)
  else q_cl (f_X1_behindStirs σC a1 a2) fun r_13 =>
  some r_13
def f_X6_seen (σC : qS) (a1 : Int32) (a2 : Int32) : Option (Int32 × qS) :=
    q_cl (f_X6_isTale a2) fun r_1 =>
  if r_1 = 0 then (some ((-1 : Int32), σC))
  else q_cl (f_X6_within a1 (0 : Int32) (40 : Int32)) fun r_4 =>
  if r_4 = 0 then (some ((-2 : Int32), σC))
  else q_cl (f_X1_addSight σC a1 a2) fun y_10 =>
  if y_10.1 = 0 then (some ((-4 : Int32), y_10.2))
  else q_cl (f_X1_sightCount y_10.2) fun r_12 =>
  some (r_12, y_10.2)
def f_X6_forget (σC : qS) : Option (Int32 × qS) :=
    q_cl (f_X1_sightCount σC) fun r_1 =>
  q_cl (f_X1_dropSights σC) fun σC_3 =>
  some (r_1, σC_3)
def f_X6_fits (σY : qS) (σC : qS) (a1 : Int32) : Option (Int32 × qS) :=
    q_cl (f_X4_gather σY σC) fun σY_1 =>
  if a1 = (-1) then (q_cl (f_X4_size σY_1) fun r_6 =>
  some (r_6, σY_1))
  else q_cl (f_X4_pick σY_1 a1) fun r_4 =>
  some (r_4, σY_1)
def f_X6_ask (σY : qS) (σC : qS) (a1 : Int32) : Option (Int32 × qS) :=
    q_cl (f_X6_within a1 (0 : Int32) (1 : Int32)) fun r_1 =>
  if r_1 = 0 then (some ((-2 : Int32), σY))
  else q_cl (f_X4_gather σY σC) fun σY_4 =>
  q_cl (f_X4_bedToAsk σY_4) fun y_9 =>
  if a1 = 0 then (some (y_9.1, y_9.2))
  else if y_9.1 = (-6) then (some (y_9.1, y_9.2))
  else q_cl (f_X4_mostLeft y_9.2 y_9.1) fun y_15 =>
  some (y_15.1, y_15.2)
def f_X6_embers (σK : qS) (ℓK : qL) (a1 : Int32) (a2 : Int32) : Option (Int32 × qS) :=
    q_cl (f_X6_within a1 (1 : Int32) (60 : Int32)) fun r_1 =>
  if r_1 = 0 then (some ((-2 : Int32), σK))
  else q_cl (f_X6_within a2 (0 : Int32) (1 : Int32)) fun r_4 =>
  if r_4 = 0 then (some ((-2 : Int32), σK))
  else q_cl (f_X0_firstTake σK ℓK a1) fun y_10 =>
  if a2 = 1 then (some (y_10.1, y_10.2))
  else if y_10.1 = (-6) then (some ((0 : Int32), y_10.2))
  else some ((1 : Int32), y_10.2)
def f_X6_told (σP : qS) (σC : qS) (a1 : Int32) : Option (Int32) :=
    if a1 = 0 then (q_cl (f_X3_size σP) fun r_43 =>
  some r_43)
  else q_cl (f_X6_within a1 (1 : Int32) (4 : Int32)) fun r_2 =>
  if r_2 = 0 then (if a1 = 5 then (q_cl (f_X1_sightCount σC) fun r_39 =>
  some r_39)
  else q_cl (f_X6_within a1 (10 : Int32) (19 : Int32)) fun r_6 =>
  if r_6 = 0 then (q_cl (f_X6_within a1 (100 : Int32) (199 : Int32)) fun r_9 =>
  if r_9 = 0 then (q_cl (f_X6_within a1 (1000 : Int32) (1219 : Int32)) fun r_12 =>
  if r_12 = 0 then (some (-2 : Int32))
  else q_cl (f_X6_isPlace ((a1 - 1000) - (a1 - 1000) / 20 * 20)) fun r_16 =>
  if r_16 = 0 then (some (-2 : Int32))
  else q_cl (f_X1_longBetween σC ((a1 - 1000) / 20) ((a1 - 1000) - (a1 - 1000) / 20 * 20)) fun r_21 =>
  some r_21)
  else if (2 : Int32) < (a1 - a1 / 10 * 10) then (q_cl (f_X6_within a1 (1000 : Int32) (1219 : Int32)) fun r_24 =>
  if r_24 = 0 then (some (-2 : Int32))
  else q_cl (f_X6_isPlace ((a1 - 1000) - (a1 - 1000) / 20 * 20)) fun r_28 =>
  if r_28 = 0 then (some (-2 : Int32))
  else q_cl (f_X1_longBetween σC ((a1 - 1000) / 20) ((a1 - 1000) - (a1 - 1000) / 20 * 20)) fun r_33 =>
  some r_33)
  else q_cl (f_X1_houseFact σC ((a1 - 100) / 10) (a1 - a1 / 10 * 10)) fun r_35 =>
  some r_35)
  else q_cl (f_X1_fadesInto σC (a1 - 10)) fun r_37 =>
  some r_37)
  else q_cl (f_X1_panFact σC (a1 - 1)) fun r_41 =>
  some r_41

def b_X7_passRow_0_2 (ℓM : qL) (a2 : Int32) (k again : (Int32 × qS) → Option (qS)) (s : Int32 × qS) : Option (qS) :=
    if a2 ≤ s.1 then (k (s.1, s.2))
  else q_rd s.2 0 121 s.1 fun r_3 =>
  q_cl (f_X7_pass s.2 ℓM r_3) fun y_9 =>
  q_wr y_9.2 0 121 s.1 y_9.1 fun σM_10 =>
  again (s.1 + 1, σM_10)
def f_X7_passRow_0 (σM : qS) (ℓM : qL) (a2 : Int32) : Option (qS) :=
    q_lp (b_X7_passRow_0_2 ℓM a2) (fun z1 => some z1.2) 20000 ((0 : Int32), σM)
def b_X7_passRow_1_2 (ℓM : qL) (a2 : Int32) (k again : (Int32 × qS) → Option (qS)) (s : Int32 × qS) : Option (qS) :=
    if a2 ≤ s.1 then (k (s.1, s.2))
  else q_rd s.2 1 10 s.1 fun r_3 =>
  q_cl (f_X7_pass s.2 ℓM r_3) fun y_9 =>
  q_wr y_9.2 1 10 s.1 y_9.1 fun σM_10 =>
  again (s.1 + 1, σM_10)
def f_X7_passRow_1 (σM : qS) (ℓM : qL) (a2 : Int32) : Option (qS) :=
    q_lp (b_X7_passRow_1_2 ℓM a2) (fun z1 => some z1.2) 20000 ((0 : Int32), σM)
def b_X7_passRow_2_2 (ℓM : qL) (a2 : Int32) (k again : (Int32 × qS) → Option (qS)) (s : Int32 × qS) : Option (qS) :=
    if a2 ≤ s.1 then (k (s.1, s.2))
  else q_rd s.2 2 10 s.1 fun r_3 =>
  q_cl (f_X7_pass s.2 ℓM r_3) fun y_9 =>
  q_wr y_9.2 2 10 s.1 y_9.1 fun σM_10 =>
  again (s.1 + 1, σM_10)
def f_X7_passRow_2 (σM : qS) (ℓM : qL) (a2 : Int32) : Option (qS) :=
    q_lp (b_X7_passRow_2_2 ℓM a2) (fun z1 => some z1.2) 20000 ((0 : Int32), σM)
def b_X7_passRow_3_2 (ℓM : qL) (a2 : Int32) (k again : (Int32 × qS) → Option (qS)) (s : Int32 × qS) : Option (qS) :=
    if a2 ≤ s.1 then (k (s.1, s.2))
  else q_rd s.2 3 10 s.1 fun r_3 =>
  q_cl (f_X7_pass s.2 ℓM r_3) fun y_9 =>
  q_wr y_9.2 3 10 s.1 y_9.1 fun σM_10 =>
  again (s.1 + 1, σM_10)
def f_X7_passRow_3 (σM : qS) (ℓM : qL) (a2 : Int32) : Option (qS) :=
    q_lp (b_X7_passRow_3_2 ℓM a2) (fun z1 => some z1.2) 20000 ((0 : Int32), σM)
def b_X7_passRow_4_2 (ℓM : qL) (a2 : Int32) (k again : (Int32 × qS) → Option (qS)) (s : Int32 × qS) : Option (qS) :=
    if a2 ≤ s.1 then (k (s.1, s.2))
  else q_rd s.2 4 10 s.1 fun r_3 =>
  q_cl (f_X7_pass s.2 ℓM r_3) fun y_9 =>
  q_wr y_9.2 4 10 s.1 y_9.1 fun σM_10 =>
  again (s.1 + 1, σM_10)
def f_X7_passRow_4 (σM : qS) (ℓM : qL) (a2 : Int32) : Option (qS) :=
    q_lp (b_X7_passRow_4_2 ℓM a2) (fun z1 => some z1.2) 20000 ((0 : Int32), σM)
def b_X7_passRow_9_2 (ℓM : qL) (a2 : Int32) (k again : (Int32 × qS) → Option (qS)) (s : Int32 × qS) : Option (qS) :=
    if a2 ≤ s.1 then (k (s.1, s.2))
  else q_rd s.2 9 8 s.1 fun r_3 =>
  q_cl (f_X7_pass s.2 ℓM r_3) fun y_9 =>
  q_wr y_9.2 9 8 s.1 y_9.1 fun σM_10 =>
  again (s.1 + 1, σM_10)
def f_X7_passRow_9 (σM : qS) (ℓM : qL) (a2 : Int32) : Option (qS) :=
    q_lp (b_X7_passRow_9_2 ℓM a2) (fun z1 => some z1.2) 20000 ((0 : Int32), σM)
def b_X7_passRow_10_2 (ℓM : qL) (a2 : Int32) (k again : (Int32 × qS) → Option (qS)) (s : Int32 × qS) : Option (qS) :=
    if a2 ≤ s.1 then (k (s.1, s.2))
  else q_rd s.2 10 8 s.1 fun r_3 =>
  q_cl (f_X7_pass s.2 ℓM r_3) fun y_9 =>
  q_wr y_9.2 10 8 s.1 y_9.1 fun σM_10 =>
  again (s.1 + 1, σM_10)
def f_X7_passRow_10 (σM : qS) (ℓM : qL) (a2 : Int32) : Option (qS) :=
    q_lp (b_X7_passRow_10_2 ℓM a2) (fun z1 => some z1.2) 20000 ((0 : Int32), σM)
def f_X7_passAll (σM : qS) (ℓM : qL) : Option (qS) :=
    q_cl (f_X7_pass σM ℓM (σM 99 5)) fun y_4 =>
  q_bd (q_pt y_4.2 5 y_4.1) fun σM_5 =>
  q_cl (f_X7_pass σM_5 ℓM (σM_5 99 6)) fun y_10 =>
  q_bd (q_pt y_10.2 6 y_10.1) fun σM_11 =>
  q_cl (f_X7_pass σM_11 ℓM (σM_11 99 7)) fun y_16 =>
  q_bd (q_pt y_16.2 7 y_16.1) fun σM_17 =>
  q_cl (f_X7_pass σM_17 ℓM (σM_17 99 8)) fun y_22 =>
  q_bd (q_pt y_22.2 8 y_22.1) fun σM_23 =>
  q_cl (f_X7_pass σM_23 ℓM (σM_23 99 11)) fun y_28 =>
  q_bd (q_pt y_28.2 11 y_28.1) fun σM_29 =>
  q_cl (f_X7_passRow_0 σM_29 ℓM (121 : Int32)) fun σM_31 =>
  q_cl (f_X7_passRow_1 σM_31 ℓM (10 : Int32)) fun σM_33 =>
  q_cl (f_X7_passRow_2 σM_33 ℓM (10 : Int32)) fun σM_35 =>
  q_cl (f_X7_passRow_3 σM_35 ℓM (10 : Int32)) fun σM_37 =>
  q_cl (f_X7_passRow_4 σM_37 ℓM (10 : Int32)) fun σM_39 =>
  q_cl (f_X7_passRow_9 σM_39 ℓM (8 : Int32)) fun σM_41 =>
  q_cl (f_X7_passRow_10 σM_41 ℓM (8 : Int32)) fun σM_43 =>
  some σM_43
def f_X7_image (σM : qS) (ℓM : qL) (a1 : Int32) : Option (Int32 × qS) :=
    q_cl (f_X7_in a1.toInt64 (0 : Int64) (1 : Int64)) fun r_1 =>
  if r_1 = 0 then (some ((-2 : Int32), σM))
  else q_bd (q_pt σM 32 ((200 : Int32) * a1)) fun σM_4 =>
  q_bd (q_pt σM_4 33 (1 : Int32)) fun σM_6 =>
  q_cl (f_X7_passAll σM_6 ℓM) fun σM_8 =>
  q_wrZ σM_8 31 2 a1 (1 : Int32) fun σM_10 =>
  some ((1 : Int32), σM_10)
def f_X7_restore (σM : qS) (ℓM : qL) (a1 : Int32) : Option (Int32 × qS) :=
    q_cl (f_X7_in a1.toInt64 (0 : Int64) (1 : Int64)) fun r_1 =>
  if r_1 = 0 then (some ((-2 : Int32), σM))
  else q_rd σM 31 2 a1 fun r_4 =>
  if r_4 = 0 then (some ((-3 : Int32), σM))
  else q_bd (q_pt σM 32 ((200 : Int32) * a1)) fun σM_8 =>
  q_bd (q_pt σM_8 33 (0 : Int32)) fun σM_10 =>
  q_cl (f_X7_passAll σM_10 ℓM) fun σM_12 =>
  some ((1 : Int32), σM_12)
def f_X7_told (σM : qS) (ℓM : qL) (a1 : Int32) : Option (Int32) :=
    q_cl (f_X7_in a1.toInt64 (1000 : Int64) (1219 : Int64)) fun r_1 =>
  if r_1 = 0 then (q_cl (f_X7_in a1.toInt64 (100 : Int64) (199 : Int64)) fun r_4 =>
  if r_4 = 0 then (q_cl (f_X7_in a1.toInt64 (10 : Int64) (19 : Int64)) fun r_7 =>
  if r_7 = 0 then (if a1 = 0 then (some (σM 99 13))
  else if a1 = 1 then (some (σM 99 5))
  else if a1 = 2 then (some (σM 99 6))
  else if a1 = 3 then (some (σM 99 7))
  else if a1 = 4 then (some (σM 99 8))
  else if a1 = 5 then (some (σM 99 11))
  else some (-2 : Int32))
  else q_rd σM 4 10 (a1 - 10) fun r_16 =>
  some r_16)
  else if (3 : Int32) ≤ (a1 - a1 / 10 * 10) then (some (-2 : Int32))
  else q_cl (f_X7_ofHouse σM ℓM ((a1 - 100) / 10) (a1 - a1 / 10 * 10)) fun r_20 =>
  some r_20)
  else q_bd ((a1 - 1000) / 20) fun v2_22 =>
  q_bd ((a1 - 1000) - (a1 - 1000) / 20 * 20) fun v3_24 =>
  q_cl (f_X7_isPlace v3_24) fun r_26 =>
  if r_26 = 0 then (some (-2 : Int32))
  else q_rd σM 0 121 (((11 : Int32) * v2_22) + v3_24) fun r_29 =>
  some r_29

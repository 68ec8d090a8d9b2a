def b_X4_fadeAll_13 (σC : qS) (v2_1 : Int32) (k again : (Int32 × Int32 × qS) → Option (qS)) (s : Int32 × Int32 × qS) : Option (qS) :=
    if (41 : Int32) ≤ s.1 then (k (s.1, s.2.1, s.2.2))
  else q_wr s.2.2 0 410 ((v2_1 * 41) + s.1) s.2.1 fun σY_5 =>
  q_cl (f_X1_fadesInto σC s.2.1) fun r_8 =>
  again (s.1 + 1, r_8, σY_5)
def b_X4_fadeAll_2 (σC : qS) (k again : (Int32 × qS) → Option (qS)) (s : Int32 × qS) : Option (qS) :=
    if (10 : Int32) ≤ s.1 then (k (s.1, s.2))
  else q_lp (b_X4_fadeAll_13 σC s.1) (fun z3 => again (s.1 + 1, z3.2.2)) 20000 ((0 : Int32), s.1, s.2)
def f_X4_fadeAll (σY : qS) (σC : qS) : Option (qS) :=
    q_lp (b_X4_fadeAll_2 σC) (fun z1 => some z1.2) 20000 ((0 : Int32), σY)
def f_X4_taleInBed (σY : qS) (a1 : Int32) (a2 : Int32) (a3 : Int32) : Option (Int32) :=
    q_cl (f_X6_isTale a1) fun r_1 =>
  if r_1 = 0 then (some (-6 : Int32))
  else if a2 ≤ 0 then (some (-6 : Int32))
  else q_cl (f_X6_within a3 (0 : Int32) (40 : Int32)) fun r_7 =>
  if r_7 = 0 then (some (-6 : Int32))
  else q_nz a2 <|
  q_rd σY 0 410 ((a1 * 41) + (a3 / a2)) fun r_13 =>
  some r_13
def b_X4_isSo_3 (σY : qS) (σC : qS) (a2 : Int32) (a3 : Int32) (k again : Int32 → Option (Int32)) (s : Int32) : Option (Int32) :=
    q_cl (f_X1_sightCount σC) fun r_2 =>
  if r_2 ≤ s then (k s)
  else q_cl (f_X1_sightBed σC s) fun r_5 =>
  q_cl (f_X4_taleInBed σY a2 a3 r_5) fun r_7 =>
  q_cl (f_X1_sightTale σC s) fun r_9 =>
  if r_7 = r_9 then (again (s + 1))
  else some (0 : Int32)
def f_X4_isSo (σY : qS) (σC : qS) (a2 : Int32) (a3 : Int32) : Option (Int32) :=
    q_lp (b_X4_isSo_3 σY σC a2 a3) (fun _ => some (1 : Int32)) 20000 (0 : Int32)
def b_X4_gather_20 (σC : qS) (v2_5 : Int32) (k again : (Int32 × qS) → Option (qS)) (s : Int32 × qS) : Option (qS) :=
    if (5 : Int32) < s.1 then (k (s.1, s.2))
  else q_cl (f_X4_isSo s.2 σC v2_5 s.1) fun r_9 =>
  if r_9 = 0 then (again (s.1 + 1, s.2))
  else q_cl (f_X6_within (s.2 99 3) (0 : Int32) (49 : Int32)) fun r_12 =>
  if r_12 = 0 then (again (s.1 + 1, s.2))
  else q_wr s.2 1 50 (s.2 99 3) (((10 : Int32) * v2_5) + s.1) fun σY_15 =>
  q_bd (q_pt σY_15 3 ((σY_15 99 3) + 1)) fun σY_18 =>
  again (s.1 + 1, σY_18)
def b_X4_gather_12 (σC : qS) (k again : (Int32 × qS) → Option (qS)) (s : Int32 × qS) : Option (qS) :=
    if (10 : Int32) ≤ s.1 then (k (s.1, s.2))
  else q_lp (b_X4_gather_20 σC s.1) (fun z7 => again (s.1 + 1, z7.2)) 20000 ((1 : Int32), s.2)
def f_X4_gather (σY : qS) (σC : qS) : Option (qS) :=
    q_cl (f_X4_fadeAll σY σC) fun σY_1 =>
  q_bd (q_pt σY_1 3 (0 : Int32)) fun σY_3 =>
  q_lp (b_X4_gather_12 σC) (fun z5 => some z5.2) 20000 ((0 : Int32), σY_3)
def f_X4_size (σY : qS) : Option (Int32) :=
    some (σY 99 3)
def f_X4_pick (σY : qS) (a1 : Int32) : Option (Int32) :=
    q_cl (f_X6_within a1 (0 : Int32) (49 : Int32)) fun r_1 =>
  if r_1 = 0 then (some (-6 : Int32))
  else if (σY 99 3) ≤ a1 then (some (-6 : Int32))
  else q_rd σY 1 50 a1 fun r_5 =>
  some r_5
def b_X4_mostLeft_12 (a1 : Int32) (k again : (Int32 × Int32 × qS) → Option (Int32 × qS)) (s : Int32 × Int32 × qS) : Option (Int32 × qS) :=
    if (s.2.2 99 3) ≤ s.1 then (k (s.1, s.2.1, s.2.2))
  else q_cl (f_X4_pick s.2.2 s.1) fun r_7 =>
  q_cl (f_X4_taleInBed s.2.2 (r_7 / 10) (r_7 - r_7 / 10 * 10) a1) fun r_9 =>
  q_cl (f_X6_isTale r_9) fun r_11 =>
  if r_11 = 0 then (again (s.1 + 1, s.2.1, s.2.2))
  else q_rd s.2.2 2 10 r_9 fun r_14 =>
  q_wr s.2.2 2 10 r_9 (r_14 + 1) fun σY_17 =>
  q_rd σY_17 2 10 r_9 fun r_20 =>
  q_bd (if s.2.1 < r_20 then r_20 else s.2.1) fun v2_23 =>
  again (s.1 + 1, v2_23, σY_17)
def f_X4_mostLeft (σY : qS) (a1 : Int32) : Option (Int32 × qS) :=
    q_cl (f_J7_fill_53178 10 (fun _ => σY 2) (0 : Int32)) fun σt_1 =>
  q_bd (q_up σY 2 (σt_1 0)) fun σY_3 =>
  q_lp (b_X4_mostLeft_12 a1) (fun z5 => some (z5.2.1, z5.2.2)) 20000 ((0 : Int32), (0 : Int32), σY_3)
def b_X4_bedToAsk_20 (k again : (Int32 × qS × Int32 × Int32) → Option (Int32 × qS)) (s : Int32 × qS × Int32 × Int32) : Option (Int32 × qS) :=
    if (41 : Int32) ≤ s.1 then (k (s.1, s.2.1, s.2.2.1, s.2.2.2))
  else q_cl (f_X4_mostLeft s.2.1 s.1) fun y_11 =>
  if s.2.2.1 ≤ y_11.1 then (again (s.1 + 1, y_11.2, s.2.2.1, s.2.2.2))
  else again (s.1 + 1, y_11.2, y_11.1, s.1)
def f_X4_bedToAsk (σY : qS) : Option (Int32 × qS) :=
    if (σY 99 3) = 0 then (some ((-6 : Int32), σY))
  else q_cl (f_X4_mostLeft σY (0 : Int32)) fun y_5 =>
  q_lp (b_X4_bedToAsk_20) (fun z6 => some (z6.2.2.2, z6.2.1)) 20000 ((1 : Int32), y_5.2, y_5.1, (0 : Int32))
def b_X0_leastTake_2 (σK : qS) (a1 : Int32) (k again : Int32 → Option (Int32)) (s : Int32) : Option (Int32) :=
    if a1 ≤ s then (k s)
  else q_bd (a1 - s) fun v3_3 =>
  q_cl (f_X6_within v3_3 (1 : Int32) (60 : Int32)) fun r_5 =>
  if r_5 = 0 then (again (s + 1))
  else q_rd σK 2 61 v3_3 fun r_8 =>
  if r_8 ≤ ((2 : Int32) * s) then (again (s + 1))
  else some s
def f_X0_leastTake (σK : qS) (ℓK : qL) (a1 : Int32) : Option (Int32) :=
    q_lp (b_X0_leastTake_2 σK a1) (fun _ => some a1) 20000 (1 : Int32)
def b_X0_firstTake_15 (ℓK : qL) (a1 : Int32) (k again : (Int32 × qS) → Option (Int32 × qS)) (s : Int32 × qS) : Option (Int32 × qS) :=
    if a1 < s.1 then (k (s.1, s.2))
  else q_cl (f_X0_leastTake s.2 ℓK s.1) fun r_13 =>
  q_wr s.2 2 61 s.1 r_13 fun σK_15 =>
  again (s.1 + 1, σK_15)
def f_X0_firstTake (σK : qS) (ℓK : qL) (a1 : Int32) : Option (Int32 × qS) :=
    q_cl (f_X6_within a1 (1 : Int32) (60 : Int32)) fun r_1 =>
  if r_1 = 0 then (some ((-6 : Int32), σK))
  else q_lp (b_X0_firstTake_15 ℓK a1) (fun z4 => q_rd z4.2 2 61 a1 fun r_5 =>
  if a1 ≤ r_5 then (some ((-6 : Int32), z4.2))
  else q_rd z4.2 2 61 a1 fun r_9 =>
  some (r_9, z4.2)) 20000 ((1 : Int32), σK)

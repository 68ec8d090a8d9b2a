def f_X5_heatLeft (σW : qS) (σH : qS) (a1 : Int32) (a2 : Int32) : Option (Int32) :=
    q_cl (f_X6_within a1 (0 : Int32) (1023 : Int32)) fun r_1 =>
  if r_1 = 0 then (some (-1 : Int32))
  else q_cl (f_X6_isHouse a2) fun r_5 =>
  if r_5 = 0 then (some (-1 : Int32))
  else q_rd σH 0 10240 ((a1 * 10) + a2) fun r_10 =>
  some r_10
def f_X5_warm (σW : qS) (σH : qS) (σC : qS) (a2 : Int32) (a3 : Int32) (a4 : Int32) : Option (qS) :=
    q_cl (f_X1_isDamp σC a3) fun r_1 =>
  if r_1 = 0 then (q_cl (f_X1_isConvinced σC a3 a4) fun r_4 =>
  if r_4 = 0 then (some σH)
  else q_bd (if (0 : Int32) < (a4 - 5) then (a4 - 5) else 0) fun v5_7 =>
  q_cl (f_X5_heatLeft σW σH a2 a3) fun r_9 =>
  if v5_7 ≤ r_9 then (some σH)
  else q_cl (f_X6_within a2 (0 : Int32) (1023 : Int32)) fun r_12 =>
  if r_12 = 0 then (some σH)
  else q_cl (f_X6_isHouse a3) fun r_15 =>
  if r_15 = 0 then (some σH)
  else q_wr σH 0 10240 ((a2 * 10) + a3) v5_7 fun σH_18 =>
  some σH_18)
  else some σH
def b_X5_goOn_35 (σW : qS) (σC : qS) (a2 : Int32) (v4_1 : Int32) (r_4 : Int32) (k again : (Int32 × qS) → Option (Int32 × qS)) (s : Int32 × qS) : Option (Int32 × qS) :=
    if (10 : Int32) ≤ s.1 then (k (s.1, s.2))
  else q_cl (f_X6_isIn s.1 a2) fun r_9 =>
  if r_9 = 0 then (q_cl (f_X5_leastWay σW v4_1 s.1) fun r_12 =>
  q_cl (f_X5_warm σW s.2 σC (a2 ||| ((1 : Int32) <<< (s.1 &&& 31))) s.1 (r_4 - r_12)) fun σH_14 =>
  again (s.1 + 1, σH_14))
  else again (s.1 + 1, s.2)
def b_X5_goOn_5 (σW : qS) (σC : qS) (a2 : Int32) (k again : (Int32 × Int32 × qS) → Option (Int32 × qS)) (s : Int32 × Int32 × qS) : Option (Int32 × qS) :=
    if (10 : Int32) ≤ s.1 then (k (s.1, s.2.1, s.2.2))
  else q_cl (f_X5_heatLeft σW s.2.2 a2 s.1) fun r_4 =>
  if r_4 = (-1) then (again (s.1 + 1, s.2.1, s.2.2))
  else q_lp (b_X5_goOn_35 σW σC a2 s.1 r_4) (fun z7 => again (s.1 + 1, (1 : Int32), z7.2)) 20000 ((0 : Int32), s.2.2)
def f_X5_goOn (σW : qS) (σH : qS) (σC : qS) (a2 : Int32) : Option (Int32 × qS) :=
    q_lp (b_X5_goOn_5 σW σC a2) (fun z1 => q_chk (q_isB z1.2.1) <| some (z1.2.1, z1.2.2)) 20000 ((0 : Int32), (0 : Int32), σH)
def b_X5_bestRound_66 (σC : qS) (σW_1 : qS) (k again : (Int32 × qS × Int32) → Option (Int32 × qS × qS)) (s : Int32 × qS × Int32) : Option (Int32 × qS × qS) :=
    if (1024 : Int32) ≤ s.1 then (k (s.1, s.2.1, s.2.2))
  else q_cl (f_X5_goOn σW_1 s.2.1 σC s.1) fun y_13 =>
  if y_13.1 = 0 then (again (s.1 + 1, y_13.2, s.2.2))
  else q_cl (f_J6_bitCount_0f7a4 s.1) fun r_15 =>
  q_cl (f_J6_bitCount_0f7a4 s.2.2) fun r_17 =>
  if r_15 ≤ r_17 then (again (s.1 + 1, y_13.2, s.2.2))
  else again (s.1 + 1, y_13.2, s.1)
def b_X5_bestRound_31 (σC : qS) (a2 : Int32) (σW_1 : qS) (k again : (Int32 × qS) → Option (Int32 × qS × qS)) (s : Int32 × qS) : Option (Int32 × qS × qS) :=
    if (10 : Int32) ≤ s.1 then (k (s.1, s.2))
  else q_cl (f_X5_leastWay σW_1 (10 : Int32) s.1) fun r_21 =>
  q_cl (f_X5_warm σW_1 s.2 σC ((1 : Int32) <<< (s.1 &&& 31)) s.1 (a2 - r_21)) fun σH_23 =>
  again (s.1 + 1, σH_23)
def f_X5_bestRound (σW : qS) (σH : qS) (σC : qS) (a2 : Int32) : Option (Int32 × qS × qS) :=
    q_cl (f_X5_measure σW σC) fun σW_1 =>
  q_cl (f_J7_fill_53178 10240 (fun _ => σH 0) (-1 : Int32)) fun σt_3 =>
  q_bd (q_up σH 0 (σt_3 0)) fun σH_5 =>
  q_lp (b_X5_bestRound_31 σC a2 σW_1) (fun z7 => q_lp (b_X5_bestRound_66 σC σW_1) (fun z8 => some (z8.2.2, σW_1, z8.2.1)) 20000 ((1 : Int32), z7.2, (0 : Int32))) 20000 ((0 : Int32), σH_5)
def b_X5_bestRound_n_66 (σC : qS) (σW_1 : qS) (k again : (Int32 × qS × Int32) → Option (Int32 × qS × qS)) (s : Int32 × qS × Int32) : Option (Int32 × qS × qS) :=
    if (1024 : Int32) ≤ s.1 then (k (s.1, s.2.1, s.2.2))
  else q_cl (f_X5_goOn σW_1 s.2.1 σC s.1) fun y_14 =>
  if y_14.1 = 0 then (again (s.1 + 1, y_14.2, s.2.2))
  else q_cl (f_J6_bitCount_0f7a4 s.1) fun r_16 =>
  q_cl (f_J6_bitCount_0f7a4 s.2.2) fun r_18 =>
  if r_16 ≤ r_18 then (again (s.1 + 1, y_14.2, s.2.2))
  else again (s.1 + 1, y_14.2, s.1)
def b_X5_bestRound_n_31 (σC : qS) (a2 : Int32) (σW_1 : qS) (k again : (Int32 × qS) → Option (Int32 × qS × qS)) (s : Int32 × qS) : Option (Int32 × qS × qS) :=
    if (10 : Int32) ≤ s.1 then (k (s.1, s.2))
  else q_cl (f_X5_leastWay σW_1 (10 : Int32) s.1) fun r_22 =>
  q_cl (f_X5_warm σW_1 s.2 σC ((1 : Int32) <<< (s.1 &&& 31)) s.1 (a2 - r_22)) fun σH_24 =>
  again (s.1 + 1, σH_24)
def f_X5_bestRound_n (σW : qS) (σC : qS) (a2 : Int32) : Option (Int32 × qS × qS) :=
    q_cl (f_X5_measure σW σC) fun σW_1 =>
  q_cl (f_J7_fill_53178 10240 (fun _ => (fun _ _ => 0) 0) (-1 : Int32)) fun σt_4 =>
  q_bd (q_up (fun _ _ => 0) 0 (σt_4 0)) fun σH_6 =>
  q_lp (b_X5_bestRound_n_31 σC a2 σW_1) (fun z8 => q_lp (b_X5_bestRound_n_66 σC σW_1) (fun z9 => some (z9.2.2, σW_1, z9.2.1)) 20000 ((1 : Int32), z8.2, (0 : Int32))) 20000 ((0 : Int32), σH_6)

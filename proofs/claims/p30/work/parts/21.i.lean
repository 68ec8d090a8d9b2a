def f_X6_round (σW : qS) (σH : qS) (σC : qS) (a1 : Int32) (a2 : Int32) : Option (Int32 × qS × qS) :=
    q_cl (f_X6_within a1 (0 : Int32) (99 : Int32)) fun r_1 =>
  if r_1 = 0 then (some ((-2 : Int32), σW, σH))
  else q_cl (f_X6_within a2 (0 : Int32) (1 : Int32)) fun r_4 =>
  if r_4 = 0 then (some ((-2 : Int32), σW, σH))
  else q_cl (f_X5_bestRound σW σH σC a1) fun y_11 =>
  if a2 = 0 then (q_cl (f_J6_bitCount_0f7a4 y_11.1) fun r_13 =>
  some (r_13, y_11.2.1, y_11.2.2))
  else some (y_11.1, y_11.2.1, y_11.2.2)
def f_X6_round_n (σW : qS) (σC : qS) (a1 : Int32) (a2 : Int32) : Option (Int32 × qS × qS) :=
    q_cl (f_X6_within a1 (0 : Int32) (99 : Int32)) fun r_1 =>
  if r_1 = 0 then (none)
  else q_cl (f_X6_within a2 (0 : Int32) (1 : Int32)) fun r_4 =>
  if r_4 = 0 then (none)
  else q_cl (f_X5_bestRound_n σW σC a1) fun y_11 =>
  if a2 = 0 then (q_cl (f_J6_bitCount_0f7a4 y_11.1) fun r_14 =>
  some (r_14, y_11.2.1, y_11.2.2))
  else some (y_11.1, y_11.2.1, y_11.2.2)
def f_X6_round_x (σW : qS) (σC : qS) (a1 : Int32) (a2 : Int32) : Option (Int32) :=
    q_cl (f_X6_within a1 (0 : Int32) (99 : Int32)) fun r_1 =>
  if r_1 = 0 then (some (-2 : Int32))
  else q_cl (f_X6_within a2 (0 : Int32) (1 : Int32)) fun r_4 =>
  if r_4 = 0 then (some (-2 : Int32))
  else none

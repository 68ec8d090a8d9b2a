def f_L_cell (L : Nat) (xs : Nat → Int32) (a1 a2 : Int32) : Option Int32 :=
  if (Int32.ofNat L) = 0 then (q_nz a2 <|
  some (((a1 * 37) + 5) - ((a1 * 37) + 5) / a2 * a2))
  else q_nz (Int32.ofNat L) <|
  q_xs xs L (a1 - a1 / (Int32.ofNat L) * (Int32.ofNat L)) fun r_3 =>
  q_nz a2 <|
  some (((r_3 >>> ((a1 - a1 / 7 * 7) &&& 31)) &&& 4194303) - ((r_3 >>> ((a1 - a1 / 7 * 7) &&& 31)) &&& 4194303) / a2 * a2)
def f_L_has (a1 : Int32) (a2 : Int32) : Option (Int32) :=
    if ((a1 >>> (a2 &&& 31)) &&& 1) = 1 then (some (1 : Int32))
  else some (0 : Int32)
def b_L_bits_4 (a1 : Int32) (k again : (Int32 × Int32) → Option (Int32)) (s : Int32 × Int32) : Option (Int32) :=
    if (12 : Int32) ≤ s.1 then (k (s.1, s.2))
  else q_bd (s.2 + ((a1 >>> (s.1 &&& 31)) &&& 1)) fun v1_3 =>
  again (s.1 + 1, v1_3)
def f_L_bits (a1 : Int32) : Option (Int32) :=
    q_lp (b_L_bits_4 a1) (fun z1 => some z1.2) 20000 ((0 : Int32), (0 : Int32))
def g_2350 (L : Nat) (xs : Nat → Int32) (σC : qS) (σD : qS) (σP : qS) (σN : qS) (σW : qS) (σY : qS) (σK : qS) (ℓK : qL) (σH : qS) (σE : qS) (v2 : Int32) (v4 : Int32) (v7 : Int32) (v9 : Int32) (v23 : Int32) (v26 : Int32) : Option Int32 :=
    if (v26 - v26 / 2 * 2) = 1 then (if (1 : Int32) = v23 then (if v7 = 0 then (some (0 : Int32))
  else if v9 = 10 then (some (1 : Int32))
  else if v2 < (((10 : Int32) * v4) - (v9 * (v2 + 5))) then (some (0 : Int32))
  else some (1 : Int32))
  else some (0 : Int32))
  else if (0 : Int32) = v23 then (if v7 = 0 then (some (0 : Int32))
  else if v9 = 10 then (some (1 : Int32))
  else if v2 < (((10 : Int32) * v4) - (v9 * (v2 + 5))) then (some (0 : Int32))
  else some (1 : Int32))
  else some (0 : Int32)
def b_L_law_2243 (L : Nat) (xs : Nat → Int32) (σE : qS) (v23 : Int32) (v24 : Int32) (k again : (Int32 × Int32 × Int32) → Option (Int32)) (s : Int32 × Int32 × Int32) : Option (Int32) :=
    if s.1 ≤ 0 then (k (s.1, s.2.1, s.2.2))
  else if s.2.1 ≤ 0 then (k (s.1, s.2.1, s.2.2))
  else if (s.2.2 - s.2.2 / 2 * 2) = 0 then (if (1 : Int32) = v23 then (q_rd σE 0 61 s.1 fun r_108 =>
  if s.2.1 < r_108 then (some (0 : Int32))
  else if s.2.2 = 0 then (if v23 = 0 then (q_bd (s.1 - r_108) fun v22_118 =>
  q_bd ((2 : Int32) * r_108) fun v25_120 =>
  again (v22_118, v25_120, s.2.2 + 1))
  else if r_108 = v24 then (q_bd (s.1 - r_108) fun v22_123 =>
  q_bd ((2 : Int32) * r_108) fun v25_125 =>
  again (v22_123, v25_125, s.2.2 + 1))
  else some (0 : Int32))
  else q_bd (s.1 - r_108) fun v22_113 =>
  q_bd ((2 : Int32) * r_108) fun v25_115 =>
  again (v22_113, v25_115, s.2.2 + 1))
  else if s.1 ≤ s.2.1 then (q_cl (f_L_cell L xs (s.2.2 + 40) s.1) fun r_68 =>
  q_bd ((1 : Int32) + r_68) fun v28_70 =>
  if s.2.1 < v28_70 then (some (0 : Int32))
  else if s.2.2 = 0 then (if v23 = 0 then (q_bd (s.1 - v28_70) fun v22_79 =>
  q_bd ((2 : Int32) * v28_70) fun v25_81 =>
  again (v22_79, v25_81, s.2.2 + 1))
  else if v28_70 = v24 then (q_bd (s.1 - v28_70) fun v22_84 =>
  q_bd ((2 : Int32) * v28_70) fun v25_86 =>
  again (v22_84, v25_86, s.2.2 + 1))
  else some (0 : Int32))
  else q_bd (s.1 - v28_70) fun v22_74 =>
  q_bd ((2 : Int32) * v28_70) fun v25_76 =>
  again (v22_74, v25_76, s.2.2 + 1))
  else q_cl (f_L_cell L xs (s.2.2 + 40) s.2.1) fun r_88 =>
  q_bd ((1 : Int32) + r_88) fun v28_90 =>
  if s.2.1 < v28_90 then (some (0 : Int32))
  else if s.2.2 = 0 then (if v23 = 0 then (q_bd (s.1 - v28_90) fun v22_99 =>
  q_bd ((2 : Int32) * v28_90) fun v25_101 =>
  again (v22_99, v25_101, s.2.2 + 1))
  else if v28_90 = v24 then (q_bd (s.1 - v28_90) fun v22_104 =>
  q_bd ((2 : Int32) * v28_90) fun v25_106 =>
  again (v22_104, v25_106, s.2.2 + 1))
  else some (0 : Int32))
  else q_bd (s.1 - v28_90) fun v22_94 =>
  q_bd ((2 : Int32) * v28_90) fun v25_96 =>
  again (v22_94, v25_96, s.2.2 + 1))
  else if (0 : Int32) = v23 then (q_rd σE 0 61 s.1 fun r_47 =>
  if s.2.1 < r_47 then (some (0 : Int32))
  else if s.2.2 = 0 then (if v23 = 0 then (q_bd (s.1 - r_47) fun v22_57 =>
  q_bd ((2 : Int32) * r_47) fun v25_59 =>
  again (v22_57, v25_59, s.2.2 + 1))
  else if r_47 = v24 then (q_bd (s.1 - r_47) fun v22_62 =>
  q_bd ((2 : Int32) * r_47) fun v25_64 =>
  again (v22_62, v25_64, s.2.2 + 1))
  else some (0 : Int32))
  else q_bd (s.1 - r_47) fun v22_52 =>
  q_bd ((2 : Int32) * r_47) fun v25_54 =>
  again (v22_52, v25_54, s.2.2 + 1))
  else if s.1 ≤ s.2.1 then (q_cl (f_L_cell L xs (s.2.2 + 40) s.1) fun r_7 =>
  q_bd ((1 : Int32) + r_7) fun v28_9 =>
  if s.2.1 < v28_9 then (some (0 : Int32))
  else if s.2.2 = 0 then (if v23 = 0 then (q_bd (s.1 - v28_9) fun v22_18 =>
  q_bd ((2 : Int32) * v28_9) fun v25_20 =>
  again (v22_18, v25_20, s.2.2 + 1))
  else if v28_9 = v24 then (q_bd (s.1 - v28_9) fun v22_23 =>
  q_bd ((2 : Int32) * v28_9) fun v25_25 =>
  again (v22_23, v25_25, s.2.2 + 1))
  else some (0 : Int32))
  else q_bd (s.1 - v28_9) fun v22_13 =>
  q_bd ((2 : Int32) * v28_9) fun v25_15 =>
  again (v22_13, v25_15, s.2.2 + 1))
  else q_cl (f_L_cell L xs (s.2.2 + 40) s.2.1) fun r_27 =>
  q_bd ((1 : Int32) + r_27) fun v28_29 =>
  if s.2.1 < v28_29 then (some (0 : Int32))
  else if s.2.2 = 0 then (if v23 = 0 then (q_bd (s.1 - v28_29) fun v22_38 =>
  q_bd ((2 : Int32) * v28_29) fun v25_40 =>
  again (v22_38, v25_40, s.2.2 + 1))
  else if v28_29 = v24 then (q_bd (s.1 - v28_29) fun v22_43 =>
  q_bd ((2 : Int32) * v28_29) fun v25_45 =>
  again (v22_43, v25_45, s.2.2 + 1))
  else some (0 : Int32))
  else q_bd (s.1 - v28_29) fun v22_33 =>
  q_bd ((2 : Int32) * v28_29) fun v25_35 =>
  again (v22_33, v25_35, s.2.2 + 1)
def g_2243 (L : Nat) (xs : Nat → Int32) (σC : qS) (σD : qS) (σP : qS) (σN : qS) (σW : qS) (σY : qS) (σK : qS) (ℓK : qL) (σH : qS) (σE : qS) (v2 : Int32) (v4 : Int32) (v7 : Int32) (v9 : Int32) (v22 : Int32) (v23 : Int32) (v24 : Int32) (v25 : Int32) (v26 : Int32) : Option Int32 :=
    q_lp (b_L_law_2243 L xs σE v23 v24) (fun z1 => g_2350 L xs σC σD σP σN σW σY σK ℓK σH σE v2 v4 v7 v9 v23 z1.2.2) 20000 (v22, v25, v26)
def b_L_law_2196 (v28_2 : Int32) (k again : (Int32 × qS) → Option (Int32)) (s : Int32 × qS) : Option (Int32) :=
    if s.1 ≤ 0 then (k (s.1, s.2))
  else q_rd s.2 0 61 (v28_2 - s.1) fun r_11 =>
  if r_11 ≤ ((2 : Int32) * s.1) then (q_rd s.2 0 61 v28_2 fun r_15 =>
  q_wr s.2 0 61 v28_2 r_15 fun σE_18 =>
  again (s.1 + (-1), σE_18))
  else q_wr s.2 0 61 v28_2 s.1 fun σE_21 =>
  again (s.1 + (-1), σE_21)
def b_L_law_2176 (k again : (Int32 × qS) → Option (Int32)) (s : Int32 × qS) : Option (Int32) :=
    if (61 : Int32) ≤ s.1 then (k (s.1, s.2))
  else q_wr s.2 0 61 s.1 s.1 fun σE_4 =>
  q_bd (s.1 - 1) fun v29_7 =>
  q_lp (b_L_law_2196 s.1) (fun z9 => again (s.1 + 1, z9.2)) 20000 (v29_7, σE_4)
def g_2167 (L : Nat) (xs : Nat → Int32) (σC : qS) (σD : qS) (σP : qS) (σN : qS) (σW : qS) (σY : qS) (σK : qS) (ℓK : qL) (σH : qS) (v2 : Int32) (v4 : Int32) (v7 : Int32) (v9 : Int32) (v22 : Int32) (v23 : Int32) (v24 : Int32) (v25 : Int32) (v26 : Int32) : Option Int32 :=
    q_lp (b_L_law_2176) (fun z2 => g_2243 L xs σC σD σP σN σW σY σK ℓK σH z2.2 v2 v4 v7 v9 v22 v23 v24 v25 v26) 20000 ((1 : Int32), (fun _ _ => 0))
def g_2149 (L : Nat) (xs : Nat → Int32) (σC : qS) (σD : qS) (σP : qS) (σN : qS) (σW : qS) (σY : qS) (σK : qS) (ℓK : qL) (σH : qS) (v2 : Int32) (v4 : Int32) (v7 : Int32) (v9 : Int32) (v22 : Int32) (v23 : Int32) : Option Int32 :=
    q_cl (f_X6_embers σK ℓK v22 (1 : Int32)) fun y_4 =>
  q_bd (v22 - 1) fun v25_5 =>
  g_2167 L xs σC σD σP σN σW σY y_4.2 ℓK σH v2 v4 v7 v9 v22 v23 y_4.1 v25_5 (0 : Int32)
def g_2108 (L : Nat) (xs : Nat → Int32) (σC : qS) (σD : qS) (σP : qS) (σN : qS) (σW : qS) (σY : qS) (σK : qS) (ℓK : qL) (σH : qS) (v2 : Int32) (v4 : Int32) (v7 : Int32) (v9 : Int32) (v20 : Int32) : Option Int32 :=
    q_cl (f_X6_forget σC) fun y_4 =>
  if y_4.1 = v20 then (q_cl (f_L_cell L xs (8 : Int32) (60 : Int32)) fun r_6 =>
  q_bd ((1 : Int32) + r_6) fun v22_8 =>
  q_cl (f_X6_embers σK ℓK v22_8 (0 : Int32)) fun y_13 =>
  if y_13.1 = 1 then (g_2149 L xs y_4.2 σD σP σN σW σY y_13.2 ℓK σH v2 v4 v7 v9 v22_8 (1 : Int32))
  else g_2149 L xs y_4.2 σD σP σN σW σY y_13.2 ℓK σH v2 v4 v7 v9 v22_8 (0 : Int32))
  else some (0 : Int32)
def b_L_law_2056 (σC : qS) (v18 : Int32) (v19 : Int32) (r_4 : Int32) (k again : Int32 → Option (Int32)) (s : Int32) : Option (Int32) :=
    if (41 : Int32) ≤ s then (k s)
  else q_nz (r_4 - r_4 / 10 * 10) <|
  q_cl (f_X6_faded σC (r_4 / 10) (s / (r_4 - r_4 / 10 * 10))) fun r_11 =>
  q_nz v19 <|
  q_cl (f_X6_faded σC v18 (s / v19)) fun r_14 =>
  if r_11 = r_14 then (again (s + 1))
  else some (0 : Int32)
def b_L_law_2031 (σC : qS) (v18 : Int32) (v19 : Int32) (v20 : Int32) (v21 : Int32) (k again : (Int32 × qS) → Option (Int32)) (s : Int32 × qS) : Option (Int32) :=
    if v21 ≤ s.1 then (k (s.1, s.2))
  else if (8 : Int32) ≤ v20 then (k (s.1, s.2))
  else q_cl (f_X6_fits s.2 σC s.1) fun y_7 =>
  q_lp (b_L_law_2056 σC v18 v19 y_7.1) (fun _ => again (s.1 + 1, y_7.2)) 20000 (0 : Int32)
def g_2028 (L : Nat) (xs : Nat → Int32) (σC : qS) (σD : qS) (σP : qS) (σN : qS) (σW : qS) (σY : qS) (σK : qS) (ℓK : qL) (σH : qS) (v2 : Int32) (v4 : Int32) (v7 : Int32) (v9 : Int32) (v18 : Int32) (v19 : Int32) (v20 : Int32) (v21 : Int32) : Option Int32 :=
    q_lp (b_L_law_2031 σC v18 v19 v20 v21) (fun z1 => g_2108 L xs σC σD σP σN σW z1.2 σK ℓK σH v2 v4 v7 v9 v20) 20000 ((0 : Int32), σY)
def b_L_law_1978 (r_1 : Int32) (v19_5 : Int32) (σC_30 : qS) (r_39 : Int32) (k again : (Int32 × Int32 × qS) → Option (Int32)) (s : Int32 × Int32 × qS) : Option (Int32) :=
    if r_39 ≤ s.1 then (k (s.1, s.2.1, s.2.2))
  else q_cl (f_X6_fits s.2.2 σC_30 s.1) fun y_49 =>
  if y_49.1 = (((10 : Int32) * r_1) + v19_5) then (q_bd (s.2.1 ||| 1) fun v24_53 =>
  again (s.1 + 1, v24_53, y_49.2))
  else q_bd (s.2.1 ||| 0) fun v24_51 =>
  again (s.1 + 1, v24_51, y_49.2)
def b_L_law_1897 (r_1 : Int32) (v19_5 : Int32) (k again : (qS × Int32 × Int32 × qS) → Option (Int32)) (s : qS × Int32 × Int32 × qS) : Option (Int32) :=
    if (8 : Int32) ≤ s.2.2.1 then (k (s.1, s.2.1, s.2.2.1, s.2.2.2))
  else q_cl (f_X6_ask s.1 s.2.2.2 (1 : Int32)) fun y_16 =>
  if s.2.1 ≤ y_16.1 then (k (y_16.2, s.2.1, s.2.2.1, s.2.2.2))
  else q_cl (f_X6_ask y_16.2 s.2.2.2 (0 : Int32)) fun y_21 =>
  q_cl (f_X6_ask y_21.2 s.2.2.2 (1 : Int32)) fun y_25 =>
  q_nz v19_5 <|
  q_cl (f_X6_faded s.2.2.2 r_1 (y_21.1 / v19_5)) fun r_27 =>
  q_cl (f_X6_seen s.2.2.2 y_21.1 r_27) fun y_32 =>
  if y_32.1 = (s.2.2.1 + 1) then (q_cl (f_X6_fits y_25.2 y_32.2 (-1 : Int32)) fun y_37 =>
  if y_37.1 ≤ y_25.1 then (q_cl (f_X6_fits y_37.2 y_32.2 (-1 : Int32)) fun y_42 =>
  q_lp (b_L_law_1978 r_1 v19_5 y_32.2 y_42.1) (fun z43 => if z43.2.1 = 0 then (some (0 : Int32))
  else again (z43.2.2, y_42.1, s.2.2.1 + 1, y_32.2)) 20000 ((0 : Int32), (0 : Int32), y_42.2))
  else some (0 : Int32))
  else some (0 : Int32)
def g_1866 (L : Nat) (xs : Nat → Int32) (σC : qS) (σD : qS) (σP : qS) (σN : qS) (σW : qS) (σY : qS) (σK : qS) (ℓK : qL) (σH : qS) (v2 : Int32) (v4 : Int32) (v7 : Int32) (v9 : Int32) : Option Int32 :=
    q_cl (f_L_cell L xs (6 : Int32) (10 : Int32)) fun r_1 =>
  q_cl (f_L_cell L xs (7 : Int32) (5 : Int32)) fun r_3 =>
  q_bd ((1 : Int32) + r_3) fun v19_5 =>
  q_cl (f_X6_fits σY σC (-1 : Int32)) fun y_10 =>
  q_lp (b_L_law_1897 r_1 v19_5) (fun z11 => g_2028 L xs z11.2.2.2 σD σP σN σW z11.1 σK ℓK σH v2 v4 v7 v9 r_1 v19_5 z11.2.2.1 z11.2.1) 20000 (y_10.2, y_10.1, (0 : Int32), σC)
def g_1807 (L : Nat) (xs : Nat → Int32) (σC : qS) (σD : qS) (σP : qS) (σN : qS) (σW : qS) (σY : qS) (σK : qS) (ℓK : qL) (σH : qS) (v2 : Int32) (v4 : Int32) (v7 : Int32) (v9 : Int32) (v16 : Int32) : Option Int32 :=
    q_cl (f_X6_say σP (46 : Int32)) fun y_4 =>
  if y_4.1 = 1 then (q_cl (f_X6_judge σN y_4.2 σD σC (0 : Int32)) fun y_10 =>
  if y_10.1 = 0 then (q_cl (f_X6_judge y_10.2.1 y_4.2 y_10.2.2 σC (1 : Int32)) fun y_16 =>
  if y_16.1 = 4 then (q_cl (f_X6_done y_16.2.1 y_4.2 y_16.2.2 σC) fun y_24 =>
  if y_24.1 = (-3) then (q_cl (f_X6_wipe y_24.2.2.1) fun y_29 =>
  if y_29.1 = 1 then (q_cl (f_X6_told y_29.2 y_24.2.2.2.2 (3 : Int32)) fun r_31 =>
  q_nz v16 <|
  if r_31 = ((57 : Int32) - (57 : Int32) / v16 * v16) then (g_1866 L xs y_24.2.2.2.2 y_24.2.2.2.1 y_29.2 y_24.2.1 σW σY σK ℓK σH v2 v4 v7 v9)
  else some (0 : Int32))
  else some (0 : Int32))
  else some (0 : Int32))
  else some (0 : Int32))
  else some (0 : Int32))
  else some (0 : Int32)
def b_L_law_1754 (k again : (Int32 × qS × qS × qS × qS) → Option (Int32)) (s : Int32 × qS × qS × qS × qS) : Option (Int32) :=
    if (99 : Int32) ≤ s.1 then (k (s.1, s.2.1, s.2.2.1, s.2.2.2.1, s.2.2.2.2))
  else q_cl (f_X6_say s.2.2.2.1 (46 : Int32)) fun y_8 =>
  if y_8.1 = 1 then (q_cl (f_X6_done s.2.2.2.2 y_8.2 s.2.2.1 s.2.1) fun y_16 =>
  if y_16.1 = 1 then (q_cl (f_X6_told y_16.2.2.1 y_16.2.2.2.2 (4 : Int32)) fun r_18 =>
  if r_18 = (s.1 + 1) then (q_cl (f_X6_told y_16.2.2.1 y_16.2.2.2.2 (2 : Int32)) fun r_21 =>
  if r_21 = 0 then (again (s.1 + 1, y_16.2.2.2.2, y_16.2.2.2.1, y_16.2.2.1, y_16.2.1))
  else some (0 : Int32))
  else some (0 : Int32))
  else some (0 : Int32))
  else some (0 : Int32)
def g_1743 (L : Nat) (xs : Nat → Int32) (σC : qS) (σD : qS) (σP : qS) (σN : qS) (σW : qS) (σY : qS) (σK : qS) (ℓK : qL) (σH : qS) (v2 : Int32) (v4 : Int32) (v7 : Int32) (v9 : Int32) (v16 : Int32) : Option Int32 :=
    q_cl (f_X6_told σP σC (4 : Int32)) fun r_1 =>
  q_lp (b_L_law_1754) (fun z3 => g_1807 L xs z3.2.1 z3.2.2.1 z3.2.2.2.1 z3.2.2.2.2 σW σY σK ℓK σH v2 v4 v7 v9 v16) 20000 (r_1, σC, σD, σP, σN)
def g_1698 (L : Nat) (xs : Nat → Int32) (σC : qS) (σD : qS) (σP : qS) (σN : qS) (σW : qS) (σY : qS) (σK : qS) (ℓK : qL) (σH : qS) (v2 : Int32) (v4 : Int32) (v7 : Int32) (v9 : Int32) (v16 : Int32) : Option Int32 :=
    q_cl (f_X6_say σP (126 : Int32)) fun y_4 =>
  if y_4.1 = (-4) then (q_cl (f_X6_done σN y_4.2 σD σC) fun y_12 =>
  if y_12.1 = 58 then (q_cl (f_X6_told y_12.2.2.1 y_12.2.2.2.2 (3 : Int32)) fun r_14 =>
  q_nz v16 <|
  if r_14 = ((57 : Int32) - (57 : Int32) / v16 * v16) then (q_cl (f_X6_told y_12.2.2.1 y_12.2.2.2.2 (2 : Int32)) fun r_18 =>
  if r_18 = 99 then (g_1743 L xs y_12.2.2.2.2 y_12.2.2.2.1 y_12.2.2.1 y_12.2.1 σW σY σK ℓK σH v2 v4 v7 v9 v16)
  else some (0 : Int32))
  else some (0 : Int32))
  else some (0 : Int32))
  else some (0 : Int32)
def b_L_law_1617 (σC : qS) (v16 : Int32) (k again : (Int32 × qS × qS × qS) → Option (Int32)) (s : Int32 × qS × qS × qS) : Option (Int32) :=
    if (57 : Int32) ≤ s.1 then (k (s.1, s.2.1, s.2.2.1, s.2.2.2))
  else if ((20 : Int32) + ((10 : Int32) * s.1)) ≤ 99 then (q_bd ((20 : Int32) + ((10 : Int32) * s.1)) fun v18_19 =>
  q_cl (f_X6_say s.2.2.1 (126 : Int32)) fun y_24 =>
  if y_24.1 = ((4 : Int32) + s.1) then (q_cl (f_X6_pan s.2.2.2 y_24.2 s.2.1 σC (1 : Int32)) fun y_30 =>
  if y_30.1 = v18_19 then (q_cl (f_X6_pan y_30.2.1 y_24.2 y_30.2.2 σC (2 : Int32)) fun y_36 =>
  q_nz v16 <|
  if y_36.1 = ((s.1 + 1) - (s.1 + 1) / v16 * v16) then (again (s.1 + 1, y_36.2.2, y_24.2, y_36.2.1))
  else some (0 : Int32))
  else some (0 : Int32))
  else some (0 : Int32))
  else q_cl (f_X6_say s.2.2.1 (126 : Int32)) fun y_42 =>
  if y_42.1 = ((4 : Int32) + s.1) then (q_cl (f_X6_pan s.2.2.2 y_42.2 s.2.1 σC (1 : Int32)) fun y_48 =>
  if y_48.1 = 99 then (q_cl (f_X6_pan y_48.2.1 y_42.2 y_48.2.2 σC (2 : Int32)) fun y_54 =>
  q_nz v16 <|
  if y_54.1 = ((s.1 + 1) - (s.1 + 1) / v16 * v16) then (again (s.1 + 1, y_54.2.2, y_42.2, y_54.2.1))
  else some (0 : Int32))
  else some (0 : Int32))
  else some (0 : Int32)
def g_1582 (L : Nat) (xs : Nat → Int32) (σC : qS) (σD : qS) (σP : qS) (σN : qS) (σW : qS) (σY : qS) (σK : qS) (ℓK : qL) (σH : qS) (v2 : Int32) (v4 : Int32) (v7 : Int32) (v9 : Int32) (v16 : Int32) : Option Int32 :=
    q_cl (f_X6_say σP (61 : Int32)) fun y_4 =>
  if y_4.1 = 1 then (q_cl (f_X6_say y_4.2 (48 : Int32)) fun y_9 =>
  if y_9.1 = 2 then (q_cl (f_X6_say y_9.2 (49 : Int32)) fun y_14 =>
  if y_14.1 = 3 then (q_lp (b_L_law_1617 σC v16) (fun z16 => g_1698 L xs σC z16.2.1 z16.2.2.1 z16.2.2.2 σW σY σK ℓK σH v2 v4 v7 v9 v16) 20000 ((0 : Int32), σD, y_14.2, σN))
  else some (0 : Int32))
  else some (0 : Int32))
  else some (0 : Int32)
def b_L_law_1465 (L : Nat) (xs : Nat → Int32) (σC : qS) (v16 : Int32) (k again : Int32 → Option (Int32)) (s : Int32) : Option (Int32) :=
    if (10 : Int32) ≤ s then (k s)
  else q_cl (f_L_cell L xs (s + 20) (100 : Int32)) fun r_3 =>
  if v16 ≤ s then (if r_3 = 0 then (q_cl (f_X6_faded σC s r_3) fun r_21 =>
  if r_21 = s then (q_cl (f_X6_faded σC s (-2 : Int32)) fun r_24 =>
  if r_24 = v16 then (q_cl (f_X6_faded σC s (-1 : Int32)) fun r_27 =>
  if v16 ≤ s then (if r_27 = (v16 + 1) then (again (s + 1))
  else some (0 : Int32))
  else if r_27 = v16 then (again (s + 1))
  else some (0 : Int32))
  else some (0 : Int32))
  else some (0 : Int32))
  else q_nz v16 <|
  q_bd ((r_3 - 1) - (r_3 - 1) / v16 * v16) fun v19_8 =>
  q_cl (f_X6_faded σC s r_3) fun r_10 =>
  if r_10 = v19_8 then (q_cl (f_X6_faded σC s (-2 : Int32)) fun r_13 =>
  if r_13 = v16 then (q_cl (f_X6_faded σC s (-1 : Int32)) fun r_16 =>
  if v16 ≤ s then (if r_16 = (v16 + 1) then (again (s + 1))
  else some (0 : Int32))
  else if r_16 = v16 then (again (s + 1))
  else some (0 : Int32))
  else some (0 : Int32))
  else some (0 : Int32))
  else q_nz v16 <|
  q_bd ((s + r_3) - (s + r_3) / v16 * v16) fun v19_33 =>
  q_cl (f_X6_faded σC s r_3) fun r_35 =>
  if r_35 = v19_33 then (q_cl (f_X6_faded σC s (-2 : Int32)) fun r_38 =>
  if r_38 = v16 then (q_cl (f_X6_faded σC s (-1 : Int32)) fun r_41 =>
  if v16 ≤ s then (if r_41 = (v16 + 1) then (again (s + 1))
  else some (0 : Int32))
  else if r_41 = v16 then (again (s + 1))
  else some (0 : Int32))
  else some (0 : Int32))
  else some (0 : Int32)
def g_1462 (L : Nat) (xs : Nat → Int32) (σC : qS) (σD : qS) (σP : qS) (σN : qS) (σW : qS) (σY : qS) (σK : qS) (ℓK : qL) (σH : qS) (v2 : Int32) (v4 : Int32) (v7 : Int32) (v9 : Int32) (v16 : Int32) : Option Int32 :=
    q_lp (b_L_law_1465 L xs σC v16) (fun _ => g_1582 L xs σC σD σP σN σW σY σK ℓK σH v2 v4 v7 v9 v16) 20000 (0 : Int32)
def b_L_law_1419 (v16_3 : Int32) (k again : (Int32 × qS) → Option (Int32)) (s : Int32 × qS) : Option (Int32) :=
    if (10 : Int32) ≤ s.1 then (k (s.1, s.2))
  else if (v16_3 - 1) ≤ s.1 then (q_cl (f_X6_fade s.2 s.1 (0 : Int32)) fun y_11 =>
  if y_11.1 = s.1 then (again (s.1 + 1, y_11.2))
  else some (0 : Int32))
  else q_cl (f_X6_fade s.2 s.1 (s.1 + 1)) fun y_16 =>
  if y_16.1 = s.1 then (again (s.1 + 1, y_16.2))
  else some (0 : Int32)
def g_1405 (L : Nat) (xs : Nat → Int32) (σC : qS) (σD : qS) (σP : qS) (σN : qS) (σW : qS) (σY : qS) (σK : qS) (ℓK : qL) (σH : qS) (v2 : Int32) (v4 : Int32) (v7 : Int32) (v9 : Int32) : Option Int32 :=
    q_cl (f_L_cell L xs (5 : Int32) (10 : Int32)) fun r_1 =>
  q_bd ((1 : Int32) + r_1) fun v16_3 =>
  q_lp (b_L_law_1419 v16_3) (fun z5 => g_1462 L xs z5.2 σD σP σN σW σY σK ℓK σH v2 v4 v7 v9 v16_3) 20000 ((0 : Int32), σC)
def b_L_law_1286 (σC : qS) (v10 : Int32) (k again : (Int32 × qS × qS × qS) → Option (Int32)) (s : Int32 × qS × qS × qS) : Option (Int32) :=
    if (9 : Int32) ≤ s.1 then (k (s.1, s.2.1, s.2.2.1, s.2.2.2))
  else q_cl (f_X6_say s.2.2.1 (42 : Int32)) fun y_28 =>
  if y_28.1 = ((5 : Int32) + s.1) then (q_cl (f_X6_pan s.2.2.2 y_28.2 s.2.1 σC (1 : Int32)) fun y_34 =>
  if (8 : Int32) ≤ s.1 then (if y_34.1 = 0 then (q_cl (f_X6_behind y_34.2.1 y_28.2 y_34.2.2 σC v10 (0 : Int32)) fun y_41 =>
  if y_41.1 = (-6) then (q_cl (f_X6_behind y_41.2.1 y_28.2 y_41.2.2 σC v10 (1 : Int32)) fun y_47 =>
  if y_47.1 = 0 then (again (s.1 + 1, y_47.2.2, y_28.2, y_47.2.1))
  else some (0 : Int32))
  else some (0 : Int32))
  else some (0 : Int32))
  else if y_34.1 = ((71 : Int32) - ((10 : Int32) * s.1)) then (q_cl (f_X6_behind y_34.2.1 y_28.2 y_34.2.2 σC v10 (0 : Int32)) fun y_54 =>
  if y_54.1 = (-6) then (q_cl (f_X6_behind y_54.2.1 y_28.2 y_54.2.2 σC v10 (1 : Int32)) fun y_60 =>
  if y_60.1 = 0 then (again (s.1 + 1, y_60.2.2, y_28.2, y_60.2.1))
  else some (0 : Int32))
  else some (0 : Int32))
  else some (0 : Int32))
  else some (0 : Int32)
def g_1283 (L : Nat) (xs : Nat → Int32) (σC : qS) (σD : qS) (σP : qS) (σN : qS) (σW : qS) (σY : qS) (σK : qS) (ℓK : qL) (σH : qS) (v2 : Int32) (v4 : Int32) (v7 : Int32) (v9 : Int32) (v10 : Int32) : Option Int32 :=
    q_lp (b_L_law_1286 σC v10) (fun z1 => q_cl (f_X6_judge z1.2.2.2 z1.2.2.1 z1.2.1 σC (2 : Int32)) fun y_6 =>
  if y_6.1 = 9 then (q_cl (f_X6_say z1.2.2.1 (46 : Int32)) fun y_11 =>
  if y_11.1 = 14 then (q_cl (f_X6_behind y_6.2.1 y_11.2 y_6.2.2 σC v10 (2 : Int32)) fun y_17 =>
  if y_17.1 = 0 then (q_cl (f_X6_wipe y_11.2) fun y_22 =>
  if y_22.1 = 14 then (g_1405 L xs σC y_17.2.2 y_22.2 y_17.2.1 σW σY σK ℓK σH v2 v4 v7 v9)
  else some (0 : Int32))
  else some (0 : Int32))
  else some (0 : Int32))
  else some (0 : Int32)) 20000 ((0 : Int32), σD, σP, σN)
def g_1210 (L : Nat) (xs : Nat → Int32) (σC : qS) (σD : qS) (σP : qS) (σN : qS) (σW : qS) (σY : qS) (σK : qS) (ℓK : qL) (σH : qS) (v2 : Int32) (v4 : Int32) (v7 : Int32) (v9 : Int32) (v10 : Int32) (v11 : Int32) : Option Int32 :=
    q_cl (f_X6_house σC v10 (0 : Int32) (1 : Int32)) fun y_4 =>
  if y_4.1 = v11 then (q_cl (f_X6_round σW σH y_4.2 (99 : Int32) (1 : Int32)) fun y_10 =>
  q_cl (f_L_has y_10.1 v10) fun r_11 =>
  if r_11 = 0 then (q_cl (f_X6_say σP (61 : Int32)) fun y_17 =>
  if y_17.1 = 1 then (q_cl (f_X6_say y_17.2 (51 : Int32)) fun y_22 =>
  if y_22.1 = 2 then (q_cl (f_X6_say y_22.2 (57 : Int32)) fun y_27 =>
  if y_27.1 = 3 then (q_cl (f_X6_say y_27.2 ((65 : Int32) + v10)) fun y_32 =>
  if y_32.1 = 4 then (g_1283 L xs y_4.2 σD y_32.2 σN y_10.2.1 σY σK ℓK y_10.2.2 v2 v4 v7 v9 v10)
  else some (0 : Int32))
  else some (0 : Int32))
  else some (0 : Int32))
  else some (0 : Int32))
  else some (0 : Int32))
  else some (0 : Int32)
def g_1155 (L : Nat) (xs : Nat → Int32) (σC : qS) (σD : qS) (σP : qS) (σN : qS) (σW : qS) (σY : qS) (σK : qS) (ℓK : qL) (σH : qS) (v2 : Int32) (v4 : Int32) (v5 : Int32) (v6 : Int32) (v7 : Int32) (v9 : Int32) (v10 : Int32) (v11 : Int32) (v14 : Int32) : Option Int32 :=
    if v14 = 0 then (some (0 : Int32))
  else if v6 = 0 then (q_cl (f_X6_say σP (42 : Int32)) fun y_6 =>
  if y_6.1 = (v5 + 1) then (q_cl (f_X6_judge σN y_6.2 σD σC (0 : Int32)) fun y_12 =>
  if y_12.1 = 19 then (q_cl (f_X6_judge y_12.2.1 y_6.2 y_12.2.2 σC (1 : Int32)) fun y_18 =>
  if y_18.1 = 3 then (q_cl (f_X6_wipe y_6.2) fun y_23 =>
  if y_23.1 = (v5 + 1) then (g_1210 L xs σC y_18.2.2 y_23.2 y_18.2.1 σW σY σK ℓK σH v2 v4 v7 v9 v10 v11)
  else some (0 : Int32))
  else some (0 : Int32))
  else some (0 : Int32))
  else some (0 : Int32))
  else some (0 : Int32)
def b_L_law_1010 (σC : qS) (v10 : Int32) (k again : (Int32 × Int32 × Int32 × Int32 × Int32 × Int32 × qS × qS × qS) → Option (Int32)) (s : Int32 × Int32 × Int32 × Int32 × Int32 × Int32 × qS × qS × qS) : Option (Int32) :=
    if (17 : Int32) ≤ s.1 then (k (s.1, s.2.1, s.2.2.1, s.2.2.2.1, s.2.2.2.2.1, s.2.2.2.2.2.1, s.2.2.2.2.2.2.1, s.2.2.2.2.2.2.2.1, s.2.2.2.2.2.2.2.2))
  else if s.2.2.2.2.2.1 = 0 then (k (s.1, s.2.1, s.2.2.1, s.2.2.2.1, s.2.2.2.2.1, s.2.2.2.2.2.1, s.2.2.2.2.2.2.1, s.2.2.2.2.2.2.2.1, s.2.2.2.2.2.2.2.2))
  else if s.2.2.2.1 ≤ ((9 : Int32) * s.2.2.2.2.1) then (q_bd (s.2.1 ||| 0) fun v15_5 =>
  if ((9 : Int32) * s.2.2.2.2.1) < s.2.2.2.1 then (q_bd (s.2.2.2.2.1 + 0) fun v13_8 =>
  if s.2.2.2.1 ≤ 5 then (q_cl (f_X6_say s.2.2.2.2.2.2.1 (42 : Int32)) fun y_14 =>
  if y_14.1 = (s.2.2.1 + 1) then (q_cl (f_X6_pan s.2.2.2.2.2.2.2.2 y_14.2 s.2.2.2.2.2.2.2.1 σC (1 : Int32)) fun y_20 =>
  if y_20.1 = 0 then (q_cl (f_X6_behind y_20.2.1 y_14.2 y_20.2.2 σC v10 (1 : Int32)) fun y_26 =>
  if y_26.1 = v13_8 then (q_cl (f_X6_behind y_26.2.1 y_14.2 y_26.2.2 σC v10 (0 : Int32)) fun y_32 =>
  if v15_5 = 0 then (if y_32.1 = (-6) then (again (s.1 + 1, v15_5, s.2.2.1 + 1, (0 : Int32), v13_8, (1 : Int32), y_14.2, y_32.2.2, y_32.2.1))
  else again (s.1 + 1, v15_5, s.2.2.1 + 1, (0 : Int32), v13_8, (0 : Int32), y_14.2, y_32.2.2, y_32.2.1))
  else if y_32.1 = 3 then (again (s.1 + 1, v15_5, s.2.2.1 + 1, (0 : Int32), v13_8, (1 : Int32), y_14.2, y_32.2.2, y_32.2.1))
  else again (s.1 + 1, v15_5, s.2.2.1 + 1, (0 : Int32), v13_8, (0 : Int32), y_14.2, y_32.2.2, y_32.2.1))
  else again (s.1 + 1, v15_5, s.2.2.1 + 1, (0 : Int32), v13_8, (0 : Int32), y_14.2, y_26.2.2, y_26.2.1))
  else again (s.1 + 1, v15_5, s.2.2.1 + 1, (0 : Int32), v13_8, (0 : Int32), y_14.2, y_20.2.2, y_20.2.1))
  else again (s.1 + 1, v15_5, s.2.2.1 + 1, (0 : Int32), v13_8, (0 : Int32), y_14.2, s.2.2.2.2.2.2.2.1, s.2.2.2.2.2.2.2.2))
  else q_bd (s.2.2.2.1 - 5) fun v6_36 =>
  q_cl (f_X6_say s.2.2.2.2.2.2.1 (42 : Int32)) fun y_41 =>
  if y_41.1 = (s.2.2.1 + 1) then (q_cl (f_X6_pan s.2.2.2.2.2.2.2.2 y_41.2 s.2.2.2.2.2.2.2.1 σC (1 : Int32)) fun y_47 =>
  if y_47.1 = v6_36 then (q_cl (f_X6_behind y_47.2.1 y_41.2 y_47.2.2 σC v10 (1 : Int32)) fun y_53 =>
  if y_53.1 = v13_8 then (q_cl (f_X6_behind y_53.2.1 y_41.2 y_53.2.2 σC v10 (0 : Int32)) fun y_59 =>
  if v15_5 = 0 then (if y_59.1 = (-6) then (again (s.1 + 1, v15_5, s.2.2.1 + 1, v6_36, v13_8, (1 : Int32), y_41.2, y_59.2.2, y_59.2.1))
  else again (s.1 + 1, v15_5, s.2.2.1 + 1, v6_36, v13_8, (0 : Int32), y_41.2, y_59.2.2, y_59.2.1))
  else if y_59.1 = 3 then (again (s.1 + 1, v15_5, s.2.2.1 + 1, v6_36, v13_8, (1 : Int32), y_41.2, y_59.2.2, y_59.2.1))
  else again (s.1 + 1, v15_5, s.2.2.1 + 1, v6_36, v13_8, (0 : Int32), y_41.2, y_59.2.2, y_59.2.1))
  else again (s.1 + 1, v15_5, s.2.2.1 + 1, v6_36, v13_8, (0 : Int32), y_41.2, y_53.2.2, y_53.2.1))
  else again (s.1 + 1, v15_5, s.2.2.1 + 1, v6_36, v13_8, (0 : Int32), y_41.2, y_47.2.2, y_47.2.1))
  else again (s.1 + 1, v15_5, s.2.2.1 + 1, v6_36, v13_8, (0 : Int32), y_41.2, s.2.2.2.2.2.2.2.1, s.2.2.2.2.2.2.2.2))
  else if s.2.2.2.2.1 = 9 then (q_bd (s.2.2.2.2.1 + 0) fun v13_119 =>
  if s.2.2.2.1 ≤ 5 then (q_cl (f_X6_say s.2.2.2.2.2.2.1 (42 : Int32)) fun y_125 =>
  if y_125.1 = (s.2.2.1 + 1) then (q_cl (f_X6_pan s.2.2.2.2.2.2.2.2 y_125.2 s.2.2.2.2.2.2.2.1 σC (1 : Int32)) fun y_131 =>
  if y_131.1 = 0 then (q_cl (f_X6_behind y_131.2.1 y_125.2 y_131.2.2 σC v10 (1 : Int32)) fun y_137 =>
  if y_137.1 = v13_119 then (q_cl (f_X6_behind y_137.2.1 y_125.2 y_137.2.2 σC v10 (0 : Int32)) fun y_143 =>
  if v15_5 = 0 then (if y_143.1 = (-6) then (again (s.1 + 1, v15_5, s.2.2.1 + 1, (0 : Int32), v13_119, (1 : Int32), y_125.2, y_143.2.2, y_143.2.1))
  else again (s.1 + 1, v15_5, s.2.2.1 + 1, (0 : Int32), v13_119, (0 : Int32), y_125.2, y_143.2.2, y_143.2.1))
  else if y_143.1 = 3 then (again (s.1 + 1, v15_5, s.2.2.1 + 1, (0 : Int32), v13_119, (1 : Int32), y_125.2, y_143.2.2, y_143.2.1))
  else again (s.1 + 1, v15_5, s.2.2.1 + 1, (0 : Int32), v13_119, (0 : Int32), y_125.2, y_143.2.2, y_143.2.1))
  else again (s.1 + 1, v15_5, s.2.2.1 + 1, (0 : Int32), v13_119, (0 : Int32), y_125.2, y_137.2.2, y_137.2.1))
  else again (s.1 + 1, v15_5, s.2.2.1 + 1, (0 : Int32), v13_119, (0 : Int32), y_125.2, y_131.2.2, y_131.2.1))
  else again (s.1 + 1, v15_5, s.2.2.1 + 1, (0 : Int32), v13_119, (0 : Int32), y_125.2, s.2.2.2.2.2.2.2.1, s.2.2.2.2.2.2.2.2))
  else q_bd (s.2.2.2.1 - 5) fun v6_147 =>
  q_cl (f_X6_say s.2.2.2.2.2.2.1 (42 : Int32)) fun y_152 =>
  if y_152.1 = (s.2.2.1 + 1) then (q_cl (f_X6_pan s.2.2.2.2.2.2.2.2 y_152.2 s.2.2.2.2.2.2.2.1 σC (1 : Int32)) fun y_158 =>
  if y_158.1 = v6_147 then (q_cl (f_X6_behind y_158.2.1 y_152.2 y_158.2.2 σC v10 (1 : Int32)) fun y_164 =>
  if y_164.1 = v13_119 then (q_cl (f_X6_behind y_164.2.1 y_152.2 y_164.2.2 σC v10 (0 : Int32)) fun y_170 =>
  if v15_5 = 0 then (if y_170.1 = (-6) then (again (s.1 + 1, v15_5, s.2.2.1 + 1, v6_147, v13_119, (1 : Int32), y_152.2, y_170.2.2, y_170.2.1))
  else again (s.1 + 1, v15_5, s.2.2.1 + 1, v6_147, v13_119, (0 : Int32), y_152.2, y_170.2.2, y_170.2.1))
  else if y_170.1 = 3 then (again (s.1 + 1, v15_5, s.2.2.1 + 1, v6_147, v13_119, (1 : Int32), y_152.2, y_170.2.2, y_170.2.1))
  else again (s.1 + 1, v15_5, s.2.2.1 + 1, v6_147, v13_119, (0 : Int32), y_152.2, y_170.2.2, y_170.2.1))
  else again (s.1 + 1, v15_5, s.2.2.1 + 1, v6_147, v13_119, (0 : Int32), y_152.2, y_164.2.2, y_164.2.1))
  else again (s.1 + 1, v15_5, s.2.2.1 + 1, v6_147, v13_119, (0 : Int32), y_152.2, y_158.2.2, y_158.2.1))
  else again (s.1 + 1, v15_5, s.2.2.1 + 1, v6_147, v13_119, (0 : Int32), y_152.2, s.2.2.2.2.2.2.2.1, s.2.2.2.2.2.2.2.2))
  else q_bd (s.2.2.2.2.1 + 1) fun v13_64 =>
  if s.2.2.2.1 ≤ 5 then (q_cl (f_X6_say s.2.2.2.2.2.2.1 (42 : Int32)) fun y_70 =>
  if y_70.1 = (s.2.2.1 + 1) then (q_cl (f_X6_pan s.2.2.2.2.2.2.2.2 y_70.2 s.2.2.2.2.2.2.2.1 σC (1 : Int32)) fun y_76 =>
  if y_76.1 = 0 then (q_cl (f_X6_behind y_76.2.1 y_70.2 y_76.2.2 σC v10 (1 : Int32)) fun y_82 =>
  if y_82.1 = v13_64 then (q_cl (f_X6_behind y_82.2.1 y_70.2 y_82.2.2 σC v10 (0 : Int32)) fun y_88 =>
  if v15_5 = 0 then (if y_88.1 = (-6) then (again (s.1 + 1, v15_5, s.2.2.1 + 1, (0 : Int32), v13_64, (1 : Int32), y_70.2, y_88.2.2, y_88.2.1))
  else again (s.1 + 1, v15_5, s.2.2.1 + 1, (0 : Int32), v13_64, (0 : Int32), y_70.2, y_88.2.2, y_88.2.1))
  else if y_88.1 = 3 then (again (s.1 + 1, v15_5, s.2.2.1 + 1, (0 : Int32), v13_64, (1 : Int32), y_70.2, y_88.2.2, y_88.2.1))
  else again (s.1 + 1, v15_5, s.2.2.1 + 1, (0 : Int32), v13_64, (0 : Int32), y_70.2, y_88.2.2, y_88.2.1))
  else again (s.1 + 1, v15_5, s.2.2.1 + 1, (0 : Int32), v13_64, (0 : Int32), y_70.2, y_82.2.2, y_82.2.1))
  else again (s.1 + 1, v15_5, s.2.2.1 + 1, (0 : Int32), v13_64, (0 : Int32), y_70.2, y_76.2.2, y_76.2.1))
  else again (s.1 + 1, v15_5, s.2.2.1 + 1, (0 : Int32), v13_64, (0 : Int32), y_70.2, s.2.2.2.2.2.2.2.1, s.2.2.2.2.2.2.2.2))
  else q_bd (s.2.2.2.1 - 5) fun v6_92 =>
  q_cl (f_X6_say s.2.2.2.2.2.2.1 (42 : Int32)) fun y_97 =>
  if y_97.1 = (s.2.2.1 + 1) then (q_cl (f_X6_pan s.2.2.2.2.2.2.2.2 y_97.2 s.2.2.2.2.2.2.2.1 σC (1 : Int32)) fun y_103 =>
  if y_103.1 = v6_92 then (q_cl (f_X6_behind y_103.2.1 y_97.2 y_103.2.2 σC v10 (1 : Int32)) fun y_109 =>
  if y_109.1 = v13_64 then (q_cl (f_X6_behind y_109.2.1 y_97.2 y_109.2.2 σC v10 (0 : Int32)) fun y_115 =>
  if v15_5 = 0 then (if y_115.1 = (-6) then (again (s.1 + 1, v15_5, s.2.2.1 + 1, v6_92, v13_64, (1 : Int32), y_97.2, y_115.2.2, y_115.2.1))
  else again (s.1 + 1, v15_5, s.2.2.1 + 1, v6_92, v13_64, (0 : Int32), y_97.2, y_115.2.2, y_115.2.1))
  else if y_115.1 = 3 then (again (s.1 + 1, v15_5, s.2.2.1 + 1, v6_92, v13_64, (1 : Int32), y_97.2, y_115.2.2, y_115.2.1))
  else again (s.1 + 1, v15_5, s.2.2.1 + 1, v6_92, v13_64, (0 : Int32), y_97.2, y_115.2.2, y_115.2.1))
  else again (s.1 + 1, v15_5, s.2.2.1 + 1, v6_92, v13_64, (0 : Int32), y_97.2, y_109.2.2, y_109.2.1))
  else again (s.1 + 1, v15_5, s.2.2.1 + 1, v6_92, v13_64, (0 : Int32), y_97.2, y_103.2.2, y_103.2.1))
  else again (s.1 + 1, v15_5, s.2.2.1 + 1, v6_92, v13_64, (0 : Int32), y_97.2, s.2.2.2.2.2.2.2.1, s.2.2.2.2.2.2.2.2))
  else q_bd (s.2.1 ||| 1) fun v15_174 =>
  if ((9 : Int32) * s.2.2.2.2.1) < s.2.2.2.1 then (q_bd (s.2.2.2.2.1 + 0) fun v13_177 =>
  if s.2.2.2.1 ≤ 5 then (q_cl (f_X6_say s.2.2.2.2.2.2.1 (42 : Int32)) fun y_183 =>
  if y_183.1 = (s.2.2.1 + 1) then (q_cl (f_X6_pan s.2.2.2.2.2.2.2.2 y_183.2 s.2.2.2.2.2.2.2.1 σC (1 : Int32)) fun y_189 =>
  if y_189.1 = 0 then (q_cl (f_X6_behind y_189.2.1 y_183.2 y_189.2.2 σC v10 (1 : Int32)) fun y_195 =>
  if y_195.1 = v13_177 then (q_cl (f_X6_behind y_195.2.1 y_183.2 y_195.2.2 σC v10 (0 : Int32)) fun y_201 =>
  if v15_174 = 0 then (if y_201.1 = (-6) then (again (s.1 + 1, v15_174, s.2.2.1 + 1, (0 : Int32), v13_177, (1 : Int32), y_183.2, y_201.2.2, y_201.2.1))
  else again (s.1 + 1, v15_174, s.2.2.1 + 1, (0 : Int32), v13_177, (0 : Int32), y_183.2, y_201.2.2, y_201.2.1))
  else if y_201.1 = 3 then (again (s.1 + 1, v15_174, s.2.2.1 + 1, (0 : Int32), v13_177, (1 : Int32), y_183.2, y_201.2.2, y_201.2.1))
  else again (s.1 + 1, v15_174, s.2.2.1 + 1, (0 : Int32), v13_177, (0 : Int32), y_183.2, y_201.2.2, y_201.2.1))
  else again (s.1 + 1, v15_174, s.2.2.1 + 1, (0 : Int32), v13_177, (0 : Int32), y_183.2, y_195.2.2, y_195.2.1))
  else again (s.1 + 1, v15_174, s.2.2.1 + 1, (0 : Int32), v13_177, (0 : Int32), y_183.2, y_189.2.2, y_189.2.1))
  else again (s.1 + 1, v15_174, s.2.2.1 + 1, (0 : Int32), v13_177, (0 : Int32), y_183.2, s.2.2.2.2.2.2.2.1, s.2.2.2.2.2.2.2.2))
  else q_bd (s.2.2.2.1 - 5) fun v6_205 =>
  q_cl (f_X6_say s.2.2.2.2.2.2.1 (42 : Int32)) fun y_210 =>
  if y_210.1 = (s.2.2.1 + 1) then (q_cl (f_X6_pan s.2.2.2.2.2.2.2.2 y_210.2 s.2.2.2.2.2.2.2.1 σC (1 : Int32)) fun y_216 =>
  if y_216.1 = v6_205 then (q_cl (f_X6_behind y_216.2.1 y_210.2 y_216.2.2 σC v10 (1 : Int32)) fun y_222 =>
  if y_222.1 = v13_177 then (q_cl (f_X6_behind y_222.2.1 y_210.2 y_222.2.2 σC v10 (0 : Int32)) fun y_228 =>
  if v15_174 = 0 then (if y_228.1 = (-6) then (again (s.1 + 1, v15_174, s.2.2.1 + 1, v6_205, v13_177, (1 : Int32), y_210.2, y_228.2.2, y_228.2.1))
  else again (s.1 + 1, v15_174, s.2.2.1 + 1, v6_205, v13_177, (0 : Int32), y_210.2, y_228.2.2, y_228.2.1))
  else if y_228.1 = 3 then (again (s.1 + 1, v15_174, s.2.2.1 + 1, v6_205, v13_177, (1 : Int32), y_210.2, y_228.2.2, y_228.2.1))
  else again (s.1 + 1, v15_174, s.2.2.1 + 1, v6_205, v13_177, (0 : Int32), y_210.2, y_228.2.2, y_228.2.1))
  else again (s.1 + 1, v15_174, s.2.2.1 + 1, v6_205, v13_177, (0 : Int32), y_210.2, y_222.2.2, y_222.2.1))
  else again (s.1 + 1, v15_174, s.2.2.1 + 1, v6_205, v13_177, (0 : Int32), y_210.2, y_216.2.2, y_216.2.1))
  else again (s.1 + 1, v15_174, s.2.2.1 + 1, v6_205, v13_177, (0 : Int32), y_210.2, s.2.2.2.2.2.2.2.1, s.2.2.2.2.2.2.2.2))
  else if s.2.2.2.2.1 = 9 then (q_bd (s.2.2.2.2.1 + 0) fun v13_288 =>
  if s.2.2.2.1 ≤ 5 then (q_cl (f_X6_say s.2.2.2.2.2.2.1 (42 : Int32)) fun y_294 =>
  if y_294.1 = (s.2.2.1 + 1) then (q_cl (f_X6_pan s.2.2.2.2.2.2.2.2 y_294.2 s.2.2.2.2.2.2.2.1 σC (1 : Int32)) fun y_300 =>
  if y_300.1 = 0 then (q_cl (f_X6_behind y_300.2.1 y_294.2 y_300.2.2 σC v10 (1 : Int32)) fun y_306 =>
  if y_306.1 = v13_288 then (q_cl (f_X6_behind y_306.2.1 y_294.2 y_306.2.2 σC v10 (0 : Int32)) fun y_312 =>
  if v15_174 = 0 then (if y_312.1 = (-6) then (again (s.1 + 1, v15_174, s.2.2.1 + 1, (0 : Int32), v13_288, (1 : Int32), y_294.2, y_312.2.2, y_312.2.1))
  else again (s.1 + 1, v15_174, s.2.2.1 + 1, (0 : Int32), v13_288, (0 : Int32), y_294.2, y_312.2.2, y_312.2.1))
  else if y_312.1 = 3 then (again (s.1 + 1, v15_174, s.2.2.1 + 1, (0 : Int32), v13_288, (1 : Int32), y_294.2, y_312.2.2, y_312.2.1))
  else again (s.1 + 1, v15_174, s.2.2.1 + 1, (0 : Int32), v13_288, (0 : Int32), y_294.2, y_312.2.2, y_312.2.1))
  else again (s.1 + 1, v15_174, s.2.2.1 + 1, (0 : Int32), v13_288, (0 : Int32), y_294.2, y_306.2.2, y_306.2.1))
  else again (s.1 + 1, v15_174, s.2.2.1 + 1, (0 : Int32), v13_288, (0 : Int32), y_294.2, y_300.2.2, y_300.2.1))
  else again (s.1 + 1, v15_174, s.2.2.1 + 1, (0 : Int32), v13_288, (0 : Int32), y_294.2, s.2.2.2.2.2.2.2.1, s.2.2.2.2.2.2.2.2))
  else q_bd (s.2.2.2.1 - 5) fun v6_316 =>
  q_cl (f_X6_say s.2.2.2.2.2.2.1 (42 : Int32)) fun y_321 =>
  if y_321.1 = (s.2.2.1 + 1) then (q_cl (f_X6_pan s.2.2.2.2.2.2.2.2 y_321.2 s.2.2.2.2.2.2.2.1 σC (1 : Int32)) fun y_327 =>
  if y_327.1 = v6_316 then (q_cl (f_X6_behind y_327.2.1 y_321.2 y_327.2.2 σC v10 (1 : Int32)) fun y_333 =>
  if y_333.1 = v13_288 then (q_cl (f_X6_behind y_333.2.1 y_321.2 y_333.2.2 σC v10 (0 : Int32)) fun y_339 =>
  if v15_174 = 0 then (if y_339.1 = (-6) then (again (s.1 + 1, v15_174, s.2.2.1 + 1, v6_316, v13_288, (1 : Int32), y_321.2, y_339.2.2, y_339.2.1))
  else again (s.1 + 1, v15_174, s.2.2.1 + 1, v6_316, v13_288, (0 : Int32), y_321.2, y_339.2.2, y_339.2.1))
  else if y_339.1 = 3 then (again (s.1 + 1, v15_174, s.2.2.1 + 1, v6_316, v13_288, (1 : Int32), y_321.2, y_339.2.2, y_339.2.1))
  else again (s.1 + 1, v15_174, s.2.2.1 + 1, v6_316, v13_288, (0 : Int32), y_321.2, y_339.2.2, y_339.2.1))
  else again (s.1 + 1, v15_174, s.2.2.1 + 1, v6_316, v13_288, (0 : Int32), y_321.2, y_333.2.2, y_333.2.1))
  else again (s.1 + 1, v15_174, s.2.2.1 + 1, v6_316, v13_288, (0 : Int32), y_321.2, y_327.2.2, y_327.2.1))
  else again (s.1 + 1, v15_174, s.2.2.1 + 1, v6_316, v13_288, (0 : Int32), y_321.2, s.2.2.2.2.2.2.2.1, s.2.2.2.2.2.2.2.2))
  else q_bd (s.2.2.2.2.1 + 1) fun v13_233 =>
  if s.2.2.2.1 ≤ 5 then (q_cl (f_X6_say s.2.2.2.2.2.2.1 (42 : Int32)) fun y_239 =>
  if y_239.1 = (s.2.2.1 + 1) then (q_cl (f_X6_pan s.2.2.2.2.2.2.2.2 y_239.2 s.2.2.2.2.2.2.2.1 σC (1 : Int32)) fun y_245 =>
  if y_245.1 = 0 then (q_cl (f_X6_behind y_245.2.1 y_239.2 y_245.2.2 σC v10 (1 : Int32)) fun y_251 =>
  if y_251.1 = v13_233 then (q_cl (f_X6_behind y_251.2.1 y_239.2 y_251.2.2 σC v10 (0 : Int32)) fun y_257 =>
  if v15_174 = 0 then (if y_257.1 = (-6) then (again (s.1 + 1, v15_174, s.2.2.1 + 1, (0 : Int32), v13_233, (1 : Int32), y_239.2, y_257.2.2, y_257.2.1))
  else again (s.1 + 1, v15_174, s.2.2.1 + 1, (0 : Int32), v13_233, (0 : Int32), y_239.2, y_257.2.2, y_257.2.1))
  else if y_257.1 = 3 then (again (s.1 + 1, v15_174, s.2.2.1 + 1, (0 : Int32), v13_233, (1 : Int32), y_239.2, y_257.2.2, y_257.2.1))
  else again (s.1 + 1, v15_174, s.2.2.1 + 1, (0 : Int32), v13_233, (0 : Int32), y_239.2, y_257.2.2, y_257.2.1))
  else again (s.1 + 1, v15_174, s.2.2.1 + 1, (0 : Int32), v13_233, (0 : Int32), y_239.2, y_251.2.2, y_251.2.1))
  else again (s.1 + 1, v15_174, s.2.2.1 + 1, (0 : Int32), v13_233, (0 : Int32), y_239.2, y_245.2.2, y_245.2.1))
  else again (s.1 + 1, v15_174, s.2.2.1 + 1, (0 : Int32), v13_233, (0 : Int32), y_239.2, s.2.2.2.2.2.2.2.1, s.2.2.2.2.2.2.2.2))
  else q_bd (s.2.2.2.1 - 5) fun v6_261 =>
  q_cl (f_X6_say s.2.2.2.2.2.2.1 (42 : Int32)) fun y_266 =>
  if y_266.1 = (s.2.2.1 + 1) then (q_cl (f_X6_pan s.2.2.2.2.2.2.2.2 y_266.2 s.2.2.2.2.2.2.2.1 σC (1 : Int32)) fun y_272 =>
  if y_272.1 = v6_261 then (q_cl (f_X6_behind y_272.2.1 y_266.2 y_272.2.2 σC v10 (1 : Int32)) fun y_278 =>
  if y_278.1 = v13_233 then (q_cl (f_X6_behind y_278.2.1 y_266.2 y_278.2.2 σC v10 (0 : Int32)) fun y_284 =>
  if v15_174 = 0 then (if y_284.1 = (-6) then (again (s.1 + 1, v15_174, s.2.2.1 + 1, v6_261, v13_233, (1 : Int32), y_266.2, y_284.2.2, y_284.2.1))
  else again (s.1 + 1, v15_174, s.2.2.1 + 1, v6_261, v13_233, (0 : Int32), y_266.2, y_284.2.2, y_284.2.1))
  else if y_284.1 = 3 then (again (s.1 + 1, v15_174, s.2.2.1 + 1, v6_261, v13_233, (1 : Int32), y_266.2, y_284.2.2, y_284.2.1))
  else again (s.1 + 1, v15_174, s.2.2.1 + 1, v6_261, v13_233, (0 : Int32), y_266.2, y_284.2.2, y_284.2.1))
  else again (s.1 + 1, v15_174, s.2.2.1 + 1, v6_261, v13_233, (0 : Int32), y_266.2, y_278.2.2, y_278.2.1))
  else again (s.1 + 1, v15_174, s.2.2.1 + 1, v6_261, v13_233, (0 : Int32), y_266.2, y_272.2.2, y_272.2.1))
  else again (s.1 + 1, v15_174, s.2.2.1 + 1, v6_261, v13_233, (0 : Int32), y_266.2, s.2.2.2.2.2.2.2.1, s.2.2.2.2.2.2.2.2)
def g_1004 (L : Nat) (xs : Nat → Int32) (σC : qS) (σD : qS) (σP : qS) (σN : qS) (σW : qS) (σY : qS) (σK : qS) (ℓK : qL) (σH : qS) (v2 : Int32) (v4 : Int32) (v5 : Int32) (v6 : Int32) (v7 : Int32) (v9 : Int32) (v10 : Int32) (v11 : Int32) (v13 : Int32) (v14 : Int32) : Option Int32 :=
    q_lp (b_L_law_1010 σC v10) (fun z1 => g_1155 L xs σC z1.2.2.2.2.2.2.2.1 z1.2.2.2.2.2.2.1 z1.2.2.2.2.2.2.2.2 σW σY σK ℓK σH v2 v4 z1.2.2.1 z1.2.2.2.1 v7 v9 v10 v11 z1.2.2.2.2.2.1) 20000 ((0 : Int32), (0 : Int32), v5, v6, v13, v14, σP, σD, σN)
def g_943 (L : Nat) (xs : Nat → Int32) (σC : qS) (σD : qS) (σP : qS) (σN : qS) (σW : qS) (σY : qS) (σK : qS) (ℓK : qL) (σH : qS) (v2 : Int32) (v4 : Int32) (v7 : Int32) (v9 : Int32) (v10 : Int32) (v11 : Int32) : Option Int32 :=
    q_cl (f_X6_say σP (61 : Int32)) fun y_4 =>
  if y_4.1 = 1 then (q_cl (f_X6_say y_4.2 (51 : Int32)) fun y_9 =>
  if y_9.1 = 2 then (q_cl (f_X6_say y_9.2 (57 : Int32)) fun y_14 =>
  if y_14.1 = 3 then (q_cl (f_X6_say y_14.2 ((65 : Int32) + v10)) fun y_19 =>
  if y_19.1 = 4 then (g_1004 L xs σC σD y_19.2 σN σW σY σK ℓK σH v2 v4 (4 : Int32) (81 : Int32) v7 v9 v10 v11 v11 (1 : Int32))
  else g_1004 L xs σC σD y_19.2 σN σW σY σK ℓK σH v2 v4 (4 : Int32) (81 : Int32) v7 v9 v10 v11 v11 (0 : Int32))
  else g_1004 L xs σC σD y_14.2 σN σW σY σK ℓK σH v2 v4 (4 : Int32) (81 : Int32) v7 v9 v10 v11 v11 (0 : Int32))
  else g_1004 L xs σC σD y_9.2 σN σW σY σK ℓK σH v2 v4 (4 : Int32) (81 : Int32) v7 v9 v10 v11 v11 (0 : Int32))
  else g_1004 L xs σC σD y_4.2 σN σW σY σK ℓK σH v2 v4 (4 : Int32) (81 : Int32) v7 v9 v10 v11 v11 (0 : Int32)
def b_L_law_690 (σC : qS) (v10 : Int32) (v11 : Int32) (v12 : Int32) (k again : (Int32 × qS × qS × qS × qS × qS) → Option (Int32)) (s : Int32 × qS × qS × qS × qS × qS) : Option (Int32) :=
    if (10 : Int32) ≤ s.1 then (k (s.1, s.2.1, s.2.2.1, s.2.2.2.1, s.2.2.2.2.1, s.2.2.2.2.2))
  else q_bd (((10 : Int32) * s.1) - 9) fun v14_3 =>
  if v14_3 ≤ ((9 : Int32) * v11) then (q_cl (f_X6_say s.2.2.1 (61 : Int32)) fun y_9 =>
  if y_9.1 = 1 then (q_cl (f_X6_say y_9.2 ((48 : Int32) + v12)) fun y_14 =>
  if y_14.1 = 2 then (q_cl (f_X6_say y_14.2 ((48 : Int32) + s.1)) fun y_19 =>
  if y_19.1 = 3 then (q_cl (f_X6_say y_19.2 ((65 : Int32) + v10)) fun y_24 =>
  if y_24.1 = 4 then (q_cl (f_X6_say y_24.2 (42 : Int32)) fun y_29 =>
  if y_29.1 = 5 then (q_cl (f_X6_pan s.2.2.2.1 y_29.2 s.2.1 σC (1 : Int32)) fun y_35 =>
  if v14_3 ≤ 5 then (if y_35.1 = 0 then (q_cl (f_X6_behind y_35.2.1 y_29.2 y_35.2.2 σC v10 (0 : Int32)) fun y_42 =>
  if y_42.1 = (-6) then (q_cl (f_X6_behind y_42.2.1 y_29.2 y_42.2.2 σC v10 (1 : Int32)) fun y_49 =>
  if v11 = 9 then (if y_49.1 = v11 then (q_cl (f_X6_other y_49.2.1 y_29.2 y_49.2.2 σC (1 : Int32)) fun y_84 =>
  if y_84.1 = (-6) then (q_cl (f_X6_wipe y_29.2) fun y_90 =>
  if y_90.1 = 5 then (q_cl (f_X6_round s.2.2.2.2.1 s.2.2.2.2.2 σC ((10 : Int32) * s.1) (0 : Int32)) fun y_96 =>
  if y_96.1 = 0 then (q_cl (f_X6_round y_96.2.1 y_96.2.2 σC ((10 : Int32) * s.1) (1 : Int32)) fun y_103 =>
  if y_103.1 = 0 then (again (s.1 + 1, y_84.2.2, y_90.2, y_84.2.1, y_103.2.1, y_103.2.2))
  else some (0 : Int32))
  else some (0 : Int32))
  else some (0 : Int32))
  else some (0 : Int32))
  else some (0 : Int32))
  else if y_49.1 = (v11 + 1) then (q_cl (f_X6_other y_49.2.1 y_29.2 y_49.2.2 σC (1 : Int32)) fun y_57 =>
  if y_57.1 = (-6) then (q_cl (f_X6_wipe y_29.2) fun y_63 =>
  if y_63.1 = 5 then (q_cl (f_X6_round s.2.2.2.2.1 s.2.2.2.2.2 σC ((10 : Int32) * s.1) (0 : Int32)) fun y_69 =>
  if y_69.1 = 0 then (q_cl (f_X6_round y_69.2.1 y_69.2.2 σC ((10 : Int32) * s.1) (1 : Int32)) fun y_76 =>
  if y_76.1 = 0 then (again (s.1 + 1, y_57.2.2, y_63.2, y_57.2.1, y_76.2.1, y_76.2.2))
  else some (0 : Int32))
  else some (0 : Int32))
  else some (0 : Int32))
  else some (0 : Int32))
  else some (0 : Int32))
  else some (0 : Int32))
  else some (0 : Int32))
  else if y_35.1 = (v14_3 - 5) then (q_cl (f_X6_behind y_35.2.1 y_29.2 y_35.2.2 σC v10 (0 : Int32)) fun y_111 =>
  if y_111.1 = (-6) then (q_cl (f_X6_behind y_111.2.1 y_29.2 y_111.2.2 σC v10 (1 : Int32)) fun y_118 =>
  if v11 = 9 then (if y_118.1 = v11 then (q_cl (f_X6_other y_118.2.1 y_29.2 y_118.2.2 σC (1 : Int32)) fun y_153 =>
  if y_153.1 = (-6) then (q_cl (f_X6_wipe y_29.2) fun y_159 =>
  if y_159.1 = 5 then (q_cl (f_X6_round s.2.2.2.2.1 s.2.2.2.2.2 σC ((10 : Int32) * s.1) (0 : Int32)) fun y_165 =>
  if y_165.1 = 0 then (q_cl (f_X6_round y_165.2.1 y_165.2.2 σC ((10 : Int32) * s.1) (1 : Int32)) fun y_172 =>
  if y_172.1 = 0 then (again (s.1 + 1, y_153.2.2, y_159.2, y_153.2.1, y_172.2.1, y_172.2.2))
  else some (0 : Int32))
  else some (0 : Int32))
  else some (0 : Int32))
  else some (0 : Int32))
  else some (0 : Int32))
  else if y_118.1 = (v11 + 1) then (q_cl (f_X6_other y_118.2.1 y_29.2 y_118.2.2 σC (1 : Int32)) fun y_126 =>
  if y_126.1 = (-6) then (q_cl (f_X6_wipe y_29.2) fun y_132 =>
  if y_132.1 = 5 then (q_cl (f_X6_round s.2.2.2.2.1 s.2.2.2.2.2 σC ((10 : Int32) * s.1) (0 : Int32)) fun y_138 =>
  if y_138.1 = 0 then (q_cl (f_X6_round y_138.2.1 y_138.2.2 σC ((10 : Int32) * s.1) (1 : Int32)) fun y_145 =>
  if y_145.1 = 0 then (again (s.1 + 1, y_126.2.2, y_132.2, y_126.2.1, y_145.2.1, y_145.2.2))
  else some (0 : Int32))
  else some (0 : Int32))
  else some (0 : Int32))
  else some (0 : Int32))
  else some (0 : Int32))
  else some (0 : Int32))
  else some (0 : Int32))
  else some (0 : Int32))
  else some (0 : Int32))
  else some (0 : Int32))
  else some (0 : Int32))
  else some (0 : Int32))
  else q_cl (f_X6_say s.2.2.1 (61 : Int32)) fun y_178 =>
  if y_178.1 = 1 then (q_cl (f_X6_say y_178.2 ((48 : Int32) + v12)) fun y_183 =>
  if y_183.1 = 2 then (q_cl (f_X6_say y_183.2 ((48 : Int32) + s.1)) fun y_188 =>
  if y_188.1 = 3 then (q_cl (f_X6_say y_188.2 ((65 : Int32) + v10)) fun y_193 =>
  if y_193.1 = 4 then (q_cl (f_X6_say y_193.2 (42 : Int32)) fun y_198 =>
  if y_198.1 = 5 then (q_cl (f_X6_pan s.2.2.2.1 y_198.2 s.2.1 σC (1 : Int32)) fun y_204 =>
  if v14_3 ≤ 5 then (if y_204.1 = 0 then (q_cl (f_X6_behind y_204.2.1 y_198.2 y_204.2.2 σC v10 (0 : Int32)) fun y_211 =>
  if y_211.1 = v12 then (q_cl (f_X6_behind y_211.2.1 y_198.2 y_211.2.2 σC v10 (1 : Int32)) fun y_218 =>
  if y_218.1 = v11 then (q_cl (f_X6_other y_218.2.1 y_198.2 y_218.2.2 σC (1 : Int32)) fun y_225 =>
  if y_225.1 = v10 then (q_cl (f_X6_wipe y_198.2) fun y_231 =>
  if y_231.1 = 5 then (q_cl (f_X6_round s.2.2.2.2.1 s.2.2.2.2.2 σC ((10 : Int32) * s.1) (0 : Int32)) fun y_237 =>
  if y_237.1 = 1 then (q_cl (f_X6_round y_237.2.1 y_237.2.2 σC ((10 : Int32) * s.1) (1 : Int32)) fun y_244 =>
  if y_244.1 = ((1 : Int32) <<< (v10 &&& 31)) then (again (s.1 + 1, y_225.2.2, y_231.2, y_225.2.1, y_244.2.1, y_244.2.2))
  else some (0 : Int32))
  else some (0 : Int32))
  else some (0 : Int32))
  else some (0 : Int32))
  else some (0 : Int32))
  else some (0 : Int32))
  else some (0 : Int32))
  else if y_204.1 = (v14_3 - 5) then (q_cl (f_X6_behind y_204.2.1 y_198.2 y_204.2.2 σC v10 (0 : Int32)) fun y_252 =>
  if y_252.1 = v12 then (q_cl (f_X6_behind y_252.2.1 y_198.2 y_252.2.2 σC v10 (1 : Int32)) fun y_259 =>
  if y_259.1 = v11 then (q_cl (f_X6_other y_259.2.1 y_198.2 y_259.2.2 σC (1 : Int32)) fun y_266 =>
  if y_266.1 = v10 then (q_cl (f_X6_wipe y_198.2) fun y_272 =>
  if y_272.1 = 5 then (q_cl (f_X6_round s.2.2.2.2.1 s.2.2.2.2.2 σC ((10 : Int32) * s.1) (0 : Int32)) fun y_278 =>
  if y_278.1 = 1 then (q_cl (f_X6_round y_278.2.1 y_278.2.2 σC ((10 : Int32) * s.1) (1 : Int32)) fun y_285 =>
  if y_285.1 = ((1 : Int32) <<< (v10 &&& 31)) then (again (s.1 + 1, y_266.2.2, y_272.2, y_266.2.1, y_285.2.1, y_285.2.2))
  else some (0 : Int32))
  else some (0 : Int32))
  else some (0 : Int32))
  else some (0 : Int32))
  else some (0 : Int32))
  else some (0 : Int32))
  else some (0 : Int32))
  else some (0 : Int32))
  else some (0 : Int32))
  else some (0 : Int32))
  else some (0 : Int32))
  else some (0 : Int32)
def g_687 (L : Nat) (xs : Nat → Int32) (σC : qS) (σD : qS) (σP : qS) (σN : qS) (σW : qS) (σY : qS) (σK : qS) (ℓK : qL) (σH : qS) (v2 : Int32) (v4 : Int32) (v7 : Int32) (v9 : Int32) (v10 : Int32) (v11 : Int32) (v12 : Int32) : Option Int32 :=
    q_lp (b_L_law_690 σC v10 v11 v12) (fun z1 => g_943 L xs σC z1.2.1 z1.2.2.1 z1.2.2.2.1 z1.2.2.2.2.1 σY σK ℓK z1.2.2.2.2.2 v2 v4 v7 v9 v10 v11) 20000 ((1 : Int32), σD, σP, σN, σW, σH)
def b_L_law_619 (r_1 : Int32) (v11_5 : Int32) (k again : (Int32 × qS) → Option (Int32)) (s : Int32 × qS) : Option (Int32) :=
    if (10 : Int32) ≤ s.1 then (k (s.1, s.2))
  else if s.1 = r_1 then (q_cl (f_X6_road s.2 (10 : Int32) s.1 (9 : Int32)) fun y_30 =>
  if y_30.1 < 0 then (some (0 : Int32))
  else q_cl (f_X6_house y_30.2 s.1 v11_5 (0 : Int32)) fun y_35 =>
  if y_35.1 < 0 then (some (0 : Int32))
  else q_cl (f_X6_tell y_35.2 s.1 (-1 : Int32)) fun y_40 =>
  if (-6 : Int32) ≤ y_40.1 then (again (s.1 + 1, y_40.2))
  else some (0 : Int32))
  else q_cl (f_X6_road s.2 (10 : Int32) s.1 (9 : Int32)) fun y_15 =>
  if y_15.1 < 0 then (some (0 : Int32))
  else q_cl (f_X6_house y_15.2 s.1 (9 : Int32) (0 : Int32)) fun y_20 =>
  if y_20.1 < 0 then (some (0 : Int32))
  else q_cl (f_X6_tell y_20.2 s.1 (-1 : Int32)) fun y_25 =>
  if (-6 : Int32) ≤ y_25.1 then (again (s.1 + 1, y_25.2))
  else some (0 : Int32)
def g_588 (L : Nat) (xs : Nat → Int32) (σC : qS) (σD : qS) (σP : qS) (σN : qS) (σW : qS) (σY : qS) (σK : qS) (ℓK : qL) (σH : qS) (v2 : Int32) (v3 : Int32) (v4 : Int32) (v7 : Int32) (v9 : Int32) : Option Int32 :=
    q_cl (f_L_cell L xs (3 : Int32) (10 : Int32)) fun r_1 =>
  q_cl (f_L_cell L xs (4 : Int32) (9 : Int32)) fun r_3 =>
  q_bd ((1 : Int32) + r_3) fun v11_5 =>
  q_bd ((v3 + 1) - (v3 + 1) / 10 * 10) fun v12_7 =>
  q_lp (b_L_law_619 r_1 v11_5) (fun z9 => g_687 L xs z9.2 σD σP σN σW σY σK ℓK σH v2 v4 v7 v9 r_1 v11_5 v12_7) 20000 ((0 : Int32), σC)
def b_L_law_531 (σC_15 : qS) (k again : (Int32 × qS) → Option (Int32)) (s : Int32 × qS) : Option (Int32) :=
    if (10 : Int32) ≤ s.1 then (k (s.1, s.2))
  else q_cl (f_X6_keep s.2 σC_15 s.1 (0 : Int32)) fun y_24 =>
  if s.1 = 0 then (if y_24.1 = (-6) then (q_cl (f_X6_keep y_24.2 σC_15 s.1 (1 : Int32)) fun y_38 =>
  if s.1 = 0 then (if y_38.1 = (-6) then (again (s.1 + 1, y_38.2))
  else some (0 : Int32))
  else if y_38.1 = 1 then (again (s.1 + 1, y_38.2))
  else some (0 : Int32))
  else some (0 : Int32))
  else if y_24.1 = 1 then (q_cl (f_X6_keep y_24.2 σC_15 s.1 (1 : Int32)) fun y_30 =>
  if s.1 = 0 then (if y_30.1 = (-6) then (again (s.1 + 1, y_30.2))
  else some (0 : Int32))
  else if y_30.1 = 1 then (again (s.1 + 1, y_30.2))
  else some (0 : Int32))
  else some (0 : Int32)
def g_501 (L : Nat) (xs : Nat → Int32) (σC : qS) (σD : qS) (σP : qS) (σN : qS) (σW : qS) (σY : qS) (σK : qS) (ℓK : qL) (σH : qS) (v2 : Int32) (v3 : Int32) (v4 : Int32) (v7 : Int32) (v9 : Int32) : Option Int32 :=
    q_cl (f_X6_wipe σP) fun y_4 =>
  if y_4.1 < 0 then (some (0 : Int32))
  else q_cl (f_X6_say y_4.2 (46 : Int32)) fun y_9 =>
  if y_9.1 = 1 then (q_cl (f_X6_done σN y_9.2 σD σC) fun y_17 =>
  if y_17.1 = 1 then (q_lp (b_L_law_531 y_17.2.2.2.2) (fun z19 => g_588 L xs y_17.2.2.2.2 y_17.2.2.2.1 y_17.2.2.1 y_17.2.1 z19.2 σY σK ℓK σH v2 v3 v4 v7 v9) 20000 ((0 : Int32), σW))
  else some (0 : Int32))
  else some (0 : Int32)
def g_375 (L : Nat) (xs : Nat → Int32) (σC : qS) (σD : qS) (σP : qS) (σN : qS) (σW : qS) (σY : qS) (σK : qS) (ℓK : qL) (σH : qS) (v2 : Int32) (v3 : Int32) (v4 : Int32) (v5 : Int32) (v6 : Int32) (v7 : Int32) (v8 : Int32) (v9 : Int32) : Option Int32 :=
    if v6 = 0 then (q_cl (f_X6_say σP (42 : Int32)) fun y_47 =>
  if y_47.1 = (v5 + 1) then (q_cl (f_X6_judge σN y_47.2 σD σC (0 : Int32)) fun y_53 =>
  if y_53.1 = v8 then (q_cl (f_X6_judge y_53.2.1 y_47.2 y_53.2.2 σC (1 : Int32)) fun y_59 =>
  if y_59.1 = 3 then (q_cl (f_X6_wipe y_47.2) fun y_64 =>
  if y_64.1 = (v5 + 1) then (g_501 L xs σC y_59.2.2 y_64.2 y_59.2.1 σW σY σK ℓK σH v2 v3 v4 v7 v9)
  else some (0 : Int32))
  else some (0 : Int32))
  else some (0 : Int32))
  else some (0 : Int32))
  else q_cl (f_X6_done σN σP σD σC) fun y_8 =>
  if y_8.1 = v8 then (q_cl (f_X6_told y_8.2.2.1 y_8.2.2.2.2 (1 : Int32)) fun r_10 =>
  if r_10 = 9 then (q_cl (f_X6_told y_8.2.2.1 y_8.2.2.2.2 (2 : Int32)) fun r_13 =>
  if r_13 = v6 then (q_cl (f_X6_say y_8.2.2.1 (46 : Int32)) fun y_19 =>
  if y_19.1 = 1 then (q_cl (f_X6_pan y_8.2.1 y_19.2 y_8.2.2.2.1 y_8.2.2.2.2 (1 : Int32)) fun y_25 =>
  if y_25.1 = 0 then (q_cl (f_X6_pan y_25.2.1 y_19.2 y_25.2.2 y_8.2.2.2.2 (0 : Int32)) fun y_31 =>
  if y_31.1 = 10 then (q_cl (f_X6_done y_31.2.1 y_19.2 y_31.2.2 y_8.2.2.2.2) fun y_39 =>
  if y_39.1 = 1 then (q_cl (f_X6_told y_39.2.2.1 y_39.2.2.2.2 (4 : Int32)) fun r_41 =>
  if r_41 = 1 then (g_501 L xs y_39.2.2.2.2 y_39.2.2.2.1 y_39.2.2.1 y_39.2.1 σW σY σK ℓK σH v2 v3 v4 v7 v9)
  else some (0 : Int32))
  else some (0 : Int32))
  else some (0 : Int32))
  else some (0 : Int32))
  else some (0 : Int32))
  else some (0 : Int32))
  else some (0 : Int32))
  else some (0 : Int32)
def g_321 (L : Nat) (xs : Nat → Int32) (σC : qS) (σD : qS) (σP : qS) (σN : qS) (σW : qS) (σY : qS) (σK : qS) (ℓK : qL) (v2 : Int32) (v3 : Int32) (v4 : Int32) (v5 : Int32) (v6 : Int32) (v7 : Int32) (v8 : Int32) : Option Int32 :=
    q_cl (f_L_bits v7) fun r_1 =>
  q_cl (f_X6_round_n σW σC ((10 : Int32) * v4) (0 : Int32)) fun y_7 =>
  if y_7.1 < r_1 then (some (0 : Int32))
  else q_cl (f_X6_near y_7.2.1 σC (10 : Int32) (9 : Int32) (0 : Int32)) fun y_13 =>
  if y_13.1 = ((10 : Int32) * v2) then (q_cl (f_X6_near y_13.2 σC (9 : Int32) (10 : Int32) (1 : Int32)) fun y_18 =>
  if y_18.1 = 8 then (g_375 L xs σC σD σP σN y_18.2 σY σK ℓK y_7.2.2 v2 v3 v4 v5 v6 v7 v8 r_1)
  else some (0 : Int32))
  else some (0 : Int32)
def b_L_law_140 (σC : qS) (v2 : Int32) (v3 : Int32) (k again : (Int32 × Int32 × Int32 × Int32 × qS × qS × qS × Int32) → Option (Int32)) (s : Int32 × Int32 × Int32 × Int32 × qS × qS × qS × Int32) : Option (Int32) :=
    if (10 : Int32) ≤ s.1 then (k (s.1, s.2.1, s.2.2.1, s.2.2.2.1, s.2.2.2.2.1, s.2.2.2.2.2.1, s.2.2.2.2.2.2.1, s.2.2.2.2.2.2.2))
  else if s.2.2.1 ≤ v2 then (q_cl (f_X6_say s.2.2.2.2.2.1 ((65 : Int32) + s.1)) fun y_7 =>
  if y_7.1 = (s.2.1 + 1) then (q_cl (f_X6_pan s.2.2.2.2.2.2.1 y_7.2 s.2.2.2.2.1 σC (0 : Int32)) fun y_13 =>
  if y_13.1 = s.1 then (q_cl (f_X6_pan y_13.2.1 y_7.2 y_13.2.2 σC (1 : Int32)) fun y_19 =>
  if y_19.1 = 0 then (again (s.1 + 1, s.2.1 + 1, (0 : Int32), s.2.2.2.1 + 1, y_19.2.2, y_7.2, y_19.2.1, s.2.2.2.2.2.2.2))
  else some (0 : Int32))
  else some (0 : Int32))
  else some (0 : Int32))
  else q_bd (s.2.2.1 - v2) fun v6_22 =>
  q_cl (f_X6_say s.2.2.2.2.2.1 ((65 : Int32) + s.1)) fun y_27 =>
  if y_27.1 = (s.2.1 + 1) then (q_cl (f_X6_pan s.2.2.2.2.2.2.1 y_27.2 s.2.2.2.2.1 σC (0 : Int32)) fun y_33 =>
  if y_33.1 = s.1 then (q_cl (f_X6_pan y_33.2.1 y_27.2 y_33.2.2 σC (1 : Int32)) fun y_39 =>
  if y_39.1 = v6_22 then (if v6_22 ≤ 0 then (again (s.1 + 1, s.2.1 + 1, v6_22, s.2.2.2.1 + 1, y_39.2.2, y_27.2, y_39.2.1, s.2.2.2.2.2.2.2))
  else q_bd (s.2.2.2.2.2.2.2 ||| ((1 : Int32) <<< (s.1 &&& 31))) fun v7_42 =>
  if v6_22 ≤ 5 then (q_cl (f_X6_say y_27.2 (42 : Int32)) fun y_48 =>
  if y_48.1 = ((s.2.1 + 1) + 1) then (q_cl (f_X6_pan y_39.2.1 y_48.2 y_39.2.2 σC (1 : Int32)) fun y_54 =>
  if y_54.1 = 0 then (q_cl (f_X6_behind y_54.2.1 y_48.2 y_54.2.2 σC s.1 (0 : Int32)) fun y_60 =>
  if y_60.1 = v3 then (q_cl (f_X6_holds y_60.2.1 y_48.2 y_60.2.2 σC v3) fun y_66 =>
  if y_66.1 = v7_42 then (q_cl (f_X6_other y_66.2.1 y_48.2 y_66.2.2 σC (0 : Int32)) fun y_72 =>
  if y_72.1 = 2 then (q_cl (f_X6_other y_72.2.1 y_48.2 y_72.2.2 σC (1 : Int32)) fun y_78 =>
  if y_78.1 = 0 then (q_cl (f_X6_judge y_78.2.1 y_48.2 y_78.2.2 σC (2 : Int32)) fun y_84 =>
  q_cl (f_L_bits v7_42) fun r_85 =>
  if y_84.1 = r_85 then (again (s.1 + 1, (s.2.1 + 1) + 1, (0 : Int32), (s.2.2.2.1 + 1) + 1, y_84.2.2, y_48.2, y_84.2.1, v7_42))
  else some (0 : Int32))
  else some (0 : Int32))
  else some (0 : Int32))
  else some (0 : Int32))
  else some (0 : Int32))
  else some (0 : Int32))
  else some (0 : Int32))
  else q_bd (v6_22 - 5) fun v6_88 =>
  q_cl (f_X6_say y_27.2 (42 : Int32)) fun y_93 =>
  if y_93.1 = ((s.2.1 + 1) + 1) then (q_cl (f_X6_pan y_39.2.1 y_93.2 y_39.2.2 σC (1 : Int32)) fun y_99 =>
  if y_99.1 = v6_88 then (q_cl (f_X6_behind y_99.2.1 y_93.2 y_99.2.2 σC s.1 (0 : Int32)) fun y_105 =>
  if y_105.1 = v3 then (q_cl (f_X6_holds y_105.2.1 y_93.2 y_105.2.2 σC v3) fun y_111 =>
  if y_111.1 = v7_42 then (q_cl (f_X6_other y_111.2.1 y_93.2 y_111.2.2 σC (0 : Int32)) fun y_117 =>
  if y_117.1 = 2 then (q_cl (f_X6_other y_117.2.1 y_93.2 y_117.2.2 σC (1 : Int32)) fun y_123 =>
  if y_123.1 = 0 then (q_cl (f_X6_judge y_123.2.1 y_93.2 y_123.2.2 σC (2 : Int32)) fun y_129 =>
  q_cl (f_L_bits v7_42) fun r_130 =>
  if y_129.1 = r_130 then (again (s.1 + 1, (s.2.1 + 1) + 1, v6_88, (s.2.2.2.1 + 1) + 1, y_129.2.2, y_93.2, y_129.2.1, v7_42))
  else some (0 : Int32))
  else some (0 : Int32))
  else some (0 : Int32))
  else some (0 : Int32))
  else some (0 : Int32))
  else some (0 : Int32))
  else some (0 : Int32))
  else some (0 : Int32))
  else some (0 : Int32))
  else some (0 : Int32)
def g_137 (L : Nat) (xs : Nat → Int32) (σC : qS) (σD : qS) (σP : qS) (σN : qS) (σW : qS) (σY : qS) (σK : qS) (ℓK : qL) (v2 : Int32) (v3 : Int32) (v4 : Int32) (v5 : Int32) (v6 : Int32) (v7 : Int32) (v8 : Int32) : Option Int32 :=
    q_lp (b_L_law_140 σC v2 v3) (fun z1 => g_321 L xs σC z1.2.2.2.2.1 z1.2.2.2.2.2.1 z1.2.2.2.2.2.2.1 σW σY σK ℓK v2 v3 v4 z1.2.1 z1.2.2.1 z1.2.2.2.2.2.2.2 z1.2.2.2.1) 20000 ((0 : Int32), v5, v6, v8, σD, σP, σN, v7)
def g_65 (L : Nat) (xs : Nat → Int32) (σC : qS) (σD : qS) (σP : qS) (σN : qS) (σW : qS) (σY : qS) (σK : qS) (ℓK : qL) (v2 : Int32) : Option Int32 :=
    q_cl (f_L_cell L xs (1 : Int32) (10 : Int32)) fun r_1 =>
  q_cl (f_L_cell L xs (2 : Int32) (9 : Int32)) fun r_3 =>
  q_bd ((1 : Int32) + r_3) fun v4_5 =>
  q_bd ((10 : Int32) * v4_5) fun v6_7 =>
  q_cl (f_X6_say σP (61 : Int32)) fun y_12 =>
  if y_12.1 = 1 then (q_cl (f_X6_say y_12.2 ((48 : Int32) + r_1)) fun y_17 =>
  if y_17.1 = 2 then (q_cl (f_X6_say y_17.2 ((48 : Int32) + v4_5)) fun y_22 =>
  if y_22.1 = 3 then (g_137 L xs σC σD y_22.2 σN σW σY σK ℓK v2 r_1 v4_5 (3 : Int32) v6_7 (0 : Int32) (1 : Int32))
  else some (0 : Int32))
  else some (0 : Int32))
  else some (0 : Int32)
def b_L_law_19 (v2_3 : Int32) (k again : (Int32 × qS) → Option (Int32)) (s : Int32 × qS) : Option (Int32) :=
    if (10 : Int32) ≤ s.1 then (k (s.1, s.2))
  else if s.1 = 0 then (q_cl (f_X6_road s.2 (10 : Int32) s.1 v2_3) fun y_21 =>
  if y_21.1 = 0 then (q_cl (f_X6_house y_21.2 s.1 (0 : Int32) (0 : Int32)) fun y_26 =>
  if y_26.1 = 5 then (again (s.1 + 1, y_26.2))
  else some (0 : Int32))
  else some (0 : Int32))
  else q_cl (f_X6_road s.2 (s.1 - 1) s.1 v2_3) fun y_11 =>
  if y_11.1 = 0 then (q_cl (f_X6_house y_11.2 s.1 (0 : Int32) (0 : Int32)) fun y_16 =>
  if y_16.1 = 5 then (again (s.1 + 1, y_16.2))
  else some (0 : Int32))
  else some (0 : Int32)
def g_8 (L : Nat) (xs : Nat → Int32) (σC : qS) (σD : qS) (σP : qS) (σN : qS) (σW : qS) (σY : qS) (σK : qS) (ℓK : qL) : Option Int32 :=
    q_cl (f_L_cell L xs (0 : Int32) (4 : Int32)) fun r_1 =>
  q_bd ((1 : Int32) + r_1) fun v2_3 =>
  q_lp (b_L_law_19 v2_3) (fun z5 => g_65 L xs z5.2 σD σP σN σW σY σK ℓK v2_3) 20000 ((0 : Int32), σC)

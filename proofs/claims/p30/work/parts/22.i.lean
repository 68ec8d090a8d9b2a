theorem kX6_round : YOk yX6_round 2 := by decide +kernel
set_option maxHeartbeats 4000000 in
set_option maxRecDepth 100000 in
theorem m_X6_round (l : Launch) (g : GT) (sz : Nat) (qX : Nat) (AX : Nat → Nat) (AW : Nat → Nat) (σW : qS) (qH : Nat) (σH : qS) (AC : Nat → Nat) (σC : qS) (a1 : Int32) (a2 : Int32) (rr : Int32) (σW' : qS) (σH' : qS) (hF : f_X6_round σW σH σC a1 a2 = some (rr, σW', σH')) : Ci l yX6_round wsX6_round { frames := 5, cells := 0, slots := 0, locals := 120 } g sz [.ref qX, .int a1, .int a2] (wX6 qX AX ++ wX5 g (AX 5) AW (.ref qH) σW ++ wH g qH σH ++ wX1 g (AX 0) AC σC) rr (wX6 qX AX ++ wX5 g (AX 5) AW (.ref qH) σW' ++ wH g qH σH' ++ wX1 g (AX 0) AC σC) := by
  refine gMet_i (cc := cX6_round) (maxL := 4) (ret := (some .int)) (by decide) rfl (Nat.le_of_ble_eq_true rfl) ?_
  intro p e s m args below meth c Z hx hb hr F hlk hnm hK hN hA H locs hP hD hS ls hl
  have hl : lv_has ls 4 [(0, .ref qX), (1, .int a1), (2, .int a2)] := hl
  have F : CallFix p m c cX6_round 4 s args wsX6_round RX6 := F
  have hts := F.2.2.2.2
  have hown : s.vm.findClass RX6 = some m.cls := F.2.2.2.1
  have hi6 : ∀ w ∈ u_ws RX6 TX6 8, w ∈ wsX6_round := by decide +kernel
  dsimp only [f_X6_round] at hF
  refine lv_iload_n hx hb dX6_round_0 rfl (lv_at hl 1 rfl) ?_
  refine lv_iconst (v := 0) hx hb dX6_round_1 (by decide) ?_
  refine lv_bipush (v := 99) hx hb dX6_round_2 (by decide) ?_
  obtain ⟨r_1, h_2, hF⟩ := q_cl_s hF
  refine gcP (As := [.int a1, .int 0, .int 99]) (rest := []) F (m_X6_within l a1 (0 : Int32) (99 : Int32) r_1 h_2) gX6_round_X6_within kX6_within rfl rfl rfl ⟨(Nat.le_of_ble_eq_true rfl), (Nat.le_of_ble_eq_true rfl)⟩ rfl rfl hl.1 (Nat.le_of_ble_eq_true rfl) dX6_round_4 ⟨(Nat.le_of_ble_eq_true rfl), (Nat.le_of_ble_eq_true rfl)⟩ ?_
  refine lv_if_eq (tgt := 19) hx hb dX6_round_7 (by decide) (fun c_3 => ?_) (fun c_3 => ?_)
  · have hF := q_if_t c_3 hF
    refine lv_bipush (v := (-2)) hx hb dX6_round_19 (by decide) ?_
    cases hF
    exact r_iret hx hb hr hlk hS () rfl hP hD dX6_round_21
  · have hF := q_if_f c_3 hF
    refine lv_iload_n hx hb dX6_round_10 rfl (lv_at hl 2 rfl) ?_
    refine lv_iconst (v := 0) hx hb dX6_round_11 (by decide) ?_
    refine lv_iconst (v := 1) hx hb dX6_round_12 (by decide) ?_
    obtain ⟨r_4, h_5, hF⟩ := q_cl_s hF
    refine gcP (As := [.int a2, .int 0, .int 1]) (rest := []) F (m_X6_within l a2 (0 : Int32) (1 : Int32) r_4 h_5) gX6_round_X6_within kX6_within rfl rfl rfl ⟨(Nat.le_of_ble_eq_true rfl), (Nat.le_of_ble_eq_true rfl)⟩ rfl rfl hl.1 (Nat.le_of_ble_eq_true rfl) dX6_round_13 ⟨(Nat.le_of_ble_eq_true rfl), (Nat.le_of_ble_eq_true rfl)⟩ ?_
    refine lv_if_ne (tgt := 22) hx hb dX6_round_16 (by decide) (fun c_6 => ?_) (fun c_6 => ?_)
    · have hF := q_if_f c_6 hF
      refine lv_aload_n hx hb dX6_round_22 rfl (lv_at hl 0 rfl) ?_
      refine va_get (D := g.1) (ci := 6) (v := .ref (AX 5)) (C := RX6) (T := TX6) (N := 8) hx hb hts hi6 hown hK hP 0 rfl rfl 5 (by decide) (hts (.fieldLink RX6 40 "PanTales" "ways" "LPanTales$Ways;") (by decide +kernel)) (fun _ h9 => h9) rfl dX6_round_23 ?_
      refine lv_aload_n hx hb dX6_round_26 rfl (lv_at hl 0 rfl) ?_
      refine va_get (D := g.1) (ci := 6) (v := .ref (AX 0)) (C := RX6) (T := TX6) (N := 8) hx hb hts hi6 hown hK hP 0 rfl rfl 0 (by decide) (hts (.fieldLink RX6 12 "PanTales" "close" "LPanTales$Close;") (by decide +kernel)) (fun _ h9 => h9) rfl dX6_round_27 ?_
      refine lv_iload_n hx hb dX6_round_30 rfl (lv_at hl 1 rfl) ?_
      obtain ⟨⟨r_7, σW_8, σH_9⟩, h_10, hF⟩ := q_cl_s hF
      try dsimp only at hF
      refine gcV_i (As := [.ref (AX 0), .int a1]) (rest := []) (ci := 5) (q := (RX5, TX5, 3)) F hK hN hP hD hS hA (m_X5_bestRound l g H.size (AX 5) AW σW qH σH (AX 0) AC σC a1 r_7 σW_8 σH_9 h_10) gX6_round_X5_bestRound kX5_bestRound rfl rfl rfl rfl ⟨(Nat.le_of_ble_eq_true rfl), (Nat.le_of_ble_eq_true rfl)⟩ [1, 2, 3, 4, 5, 6, 7, 8, 9, 10, 11, 12] [0] rfl rfl rfl (by decide) rfl rfl rfl rfl rfl hl.1 (Nat.le_of_ble_eq_true rfl) dX6_round_31 ⟨(Nat.le_of_ble_eq_true rfl), (Nat.le_of_ble_eq_true rfl)⟩ (fun r_w u_w H locs hw hP hD hS => ?_)
      have hP : va_P g.1 vwCl (wX6 qX AX ++ wX5 g (AX 5) AW (.ref qH) σW_8 ++ wH g qH σH_9 ++ wX1 g (AX 0) AC σC) H := hP
      have hD : va_D Z (wX6 qX AX ++ wX5 g (AX 5) AW (.ref qH) σW_8 ++ wH g qH σH_9 ++ wX1 g (AX 0) AC σC) := hD
      obtain rfl : r_7 = r_w := hw.symm
      refine lv_istore_n (lv' := [(3, .int r_7), (0, .ref qX), (1, .int a1), (2, .int a2)]) hx hb dX6_round_34 rfl hl (by decide) rfl (fun ls hl => ?_)
      refine lv_iload_n hx hb dX6_round_35 rfl (lv_at hl 3 rfl) ?_
      refine lv_if_ne (tgt := 46) hx hb dX6_round_36 (by decide) (fun c_12 => ?_) (fun c_12 => ?_)
      · have hF := q_if_f c_12 hF
        refine lv_iload_n hx hb dX6_round_46 rfl (lv_at hl 0 rfl) ?_
        cases hF
        exact r_iret hx hb hr hlk hS () rfl hP hD dX6_round_47
      · have hF := q_if_t (by first | exact c_12 | exact Classical.not_not.mp c_12) hF
        refine lv_iload_n hx hb dX6_round_39 rfl (lv_at hl 0 rfl) ?_
        obtain ⟨r_13, h_14, hF⟩ := q_cl_s hF
        refine gcP (As := [.int r_7]) (rest := []) F (m_J6_bitCount_0f7a4 l r_7 r_13 h_14) gX6_round_J6_bitCount_0f7a4 kJ6_bitCount_0f7a4 rfl rfl rfl ⟨(Nat.le_of_ble_eq_true rfl), (Nat.le_of_ble_eq_true rfl)⟩ rfl rfl hl.1 (Nat.le_of_ble_eq_true rfl) dX6_round_40 ⟨(Nat.le_of_ble_eq_true rfl), (Nat.le_of_ble_eq_true rfl)⟩ ?_
        refine lv_goto (tgt := 47) hx hb dX6_round_43 (by decide) ?_
        cases hF
        exact r_iret hx hb hr hlk hS () rfl hP hD dX6_round_47
    · have hF := q_if_t (by first | exact c_6 | exact Classical.not_not.mp c_6) hF
      refine lv_bipush (v := (-2)) hx hb dX6_round_19 (by decide) ?_
      cases hF
      exact r_iret hx hb hr hlk hS () rfl hP hD dX6_round_21
set_option maxHeartbeats 4000000 in
set_option maxRecDepth 100000 in
theorem m_X6_round_n (l : Launch) (g : GT) (sz : Nat) (qX : Nat) (AX : Nat → Nat) (AW : Nat → Nat) (σW : qS) (AC : Nat → Nat) (σC : qS) (a1 : Int32) (a2 : Int32) (rr : Int32) (σW' : qS) (σH' : qS) (hF : f_X6_round_n σW σC a1 a2 = some (rr, σW', σH')) : Mi (S := Nat) l yX6_round wsX6_round { frames := 5, cells := 1, slots := 10240, locals := 120 } g sz [.ref qX, .int a1, .int a2] (wX6 qX AX ++ wX5 g (AX 5) AW .null σW ++ wX1 g (AX 0) AC σC) 1 10240 (fun r_ _ => r_ = rr) (fun qH => wX6 qX AX ++ wX5 g (AX 5) AW (.ref qH) σW' ++ wX1 g (AX 0) AC σC ++ wH g qH σH') := by
  refine gMet_i (cc := cX6_round) (maxL := 4) (ret := (some .int)) (by decide) rfl (Nat.le_of_ble_eq_true rfl) ?_
  intro p e s m args below meth c Z hx hb hr F hlk hnm hK hN hA H locs hP hD hS ls hl
  have hl : lv_has ls 4 [(0, .ref qX), (1, .int a1), (2, .int a2)] := hl
  have F : CallFix p m c cX6_round 4 s args wsX6_round RX6 := F
  have hts := F.2.2.2.2
  have hown : s.vm.findClass RX6 = some m.cls := F.2.2.2.1
  have hi6 : ∀ w ∈ u_ws RX6 TX6 8, w ∈ wsX6_round := by decide +kernel
  dsimp only [f_X6_round_n] at hF
  refine lv_iload_n hx hb dX6_round_0 rfl (lv_at hl 1 rfl) ?_
  refine lv_iconst (v := 0) hx hb dX6_round_1 (by decide) ?_
  refine lv_bipush (v := 99) hx hb dX6_round_2 (by decide) ?_
  obtain ⟨r_1, h_2, hF⟩ := q_cl_s hF
  refine gcP (As := [.int a1, .int 0, .int 99]) (rest := []) F (m_X6_within l a1 (0 : Int32) (99 : Int32) r_1 h_2) gX6_round_X6_within kX6_within rfl rfl rfl ⟨(Nat.le_of_ble_eq_true rfl), (Nat.le_of_ble_eq_true rfl)⟩ rfl rfl hl.1 (Nat.le_of_ble_eq_true rfl) dX6_round_4 ⟨(Nat.le_of_ble_eq_true rfl), (Nat.le_of_ble_eq_true rfl)⟩ ?_
  refine lv_if_eq (tgt := 19) hx hb dX6_round_7 (by decide) (fun c_3 => ?_) (fun c_3 => ?_)
  · have hF := q_if_t c_3 hF
    refine lv_bipush (v := (-2)) hx hb dX6_round_19 (by decide) ?_
    cases hF
  · have hF := q_if_f c_3 hF
    refine lv_iload_n hx hb dX6_round_10 rfl (lv_at hl 2 rfl) ?_
    refine lv_iconst (v := 0) hx hb dX6_round_11 (by decide) ?_
    refine lv_iconst (v := 1) hx hb dX6_round_12 (by decide) ?_
    obtain ⟨r_4, h_5, hF⟩ := q_cl_s hF
    refine gcP (As := [.int a2, .int 0, .int 1]) (rest := []) F (m_X6_within l a2 (0 : Int32) (1 : Int32) r_4 h_5) gX6_round_X6_within kX6_within rfl rfl rfl ⟨(Nat.le_of_ble_eq_true rfl), (Nat.le_of_ble_eq_true rfl)⟩ rfl rfl hl.1 (Nat.le_of_ble_eq_true rfl) dX6_round_13 ⟨(Nat.le_of_ble_eq_true rfl), (Nat.le_of_ble_eq_true rfl)⟩ ?_
    refine lv_if_ne (tgt := 22) hx hb dX6_round_16 (by decide) (fun c_6 => ?_) (fun c_6 => ?_)
    · have hF := q_if_f c_6 hF
      refine lv_aload_n hx hb dX6_round_22 rfl (lv_at hl 0 rfl) ?_
      refine va_get (D := g.1) (ci := 6) (v := .ref (AX 5)) (C := RX6) (T := TX6) (N := 8) hx hb hts hi6 hown hK hP 0 rfl rfl 5 (by decide) (hts (.fieldLink RX6 40 "PanTales" "ways" "LPanTales$Ways;") (by decide +kernel)) (fun _ h9 => h9) rfl dX6_round_23 ?_
      refine lv_aload_n hx hb dX6_round_26 rfl (lv_at hl 0 rfl) ?_
      refine va_get (D := g.1) (ci := 6) (v := .ref (AX 0)) (C := RX6) (T := TX6) (N := 8) hx hb hts hi6 hown hK hP 0 rfl rfl 0 (by decide) (hts (.fieldLink RX6 12 "PanTales" "close" "LPanTales$Close;") (by decide +kernel)) (fun _ h9 => h9) rfl dX6_round_27 ?_
      refine lv_iload_n hx hb dX6_round_30 rfl (lv_at hl 1 rfl) ?_
      obtain ⟨⟨r_7, σW_8, σH_9⟩, h_10, hF⟩ := q_cl_s hF
      try dsimp only at hF
      refine gcV_i (As := [.ref (AX 0), .int a1]) (rest := []) (ci := 5) (q := (RX5, TX5, 3)) F hK hN hP hD hS hA (m_X5_bestRound_n l g H.size (AX 5) AW σW (AX 0) AC σC a1 r_7 σW_8 σH_9 h_10) gX6_round_X5_bestRound kX5_bestRound rfl rfl rfl rfl ⟨(Nat.le_of_ble_eq_true rfl), (Nat.le_of_ble_eq_true rfl)⟩ [1, 2, 3, 4, 5, 6, 7, 8, 9, 10, 11] [0] rfl rfl rfl (by decide) rfl rfl rfl rfl rfl hl.1 (Nat.le_of_ble_eq_true rfl) dX6_round_31 ⟨(Nat.le_of_ble_eq_true rfl), (Nat.le_of_ble_eq_true rfl)⟩ (fun r_w u_w H locs hw hP hD hS => ?_)
      obtain ⟨q_12, rfl⟩ : ∃ z, z = u_w := ⟨_, rfl⟩
      refine W.widen (k := 1) (n := 10240) (by decide) (by decide) ?_
      have hP : va_P g.1 vwCl (wX6 qX AX ++ wX5 g (AX 5) AW (.ref q_12) σW_8 ++ wX1 g (AX 0) AC σC ++ wH g q_12 σH_9) H := hP
      have hD : va_D Z (wX6 qX AX ++ wX5 g (AX 5) AW (.ref q_12) σW_8 ++ wX1 g (AX 0) AC σC ++ wH g q_12 σH_9) := hD
      obtain rfl : r_7 = r_w := hw.symm
      refine lv_istore_n (lv' := [(3, .int r_7), (0, .ref qX), (1, .int a1), (2, .int a2)]) hx hb dX6_round_34 rfl hl (by decide) rfl (fun ls hl => ?_)
      refine lv_iload_n hx hb dX6_round_35 rfl (lv_at hl 3 rfl) ?_
      refine lv_if_ne (tgt := 46) hx hb dX6_round_36 (by decide) (fun c_13 => ?_) (fun c_13 => ?_)
      · have hF := q_if_f c_13 hF
        refine lv_iload_n hx hb dX6_round_46 rfl (lv_at hl 0 rfl) ?_
        cases hF
        exact r_iret hx hb hr hlk hS q_12 rfl hP hD dX6_round_47
      · have hF := q_if_t (by first | exact c_13 | exact Classical.not_not.mp c_13) hF
        refine lv_iload_n hx hb dX6_round_39 rfl (lv_at hl 0 rfl) ?_
        obtain ⟨r_14, h_15, hF⟩ := q_cl_s hF
        refine gcP (As := [.int r_7]) (rest := []) F (m_J6_bitCount_0f7a4 l r_7 r_14 h_15) gX6_round_J6_bitCount_0f7a4 kJ6_bitCount_0f7a4 rfl rfl rfl ⟨(Nat.le_of_ble_eq_true rfl), (Nat.le_of_ble_eq_true rfl)⟩ rfl rfl hl.1 (Nat.le_of_ble_eq_true rfl) dX6_round_40 ⟨(Nat.le_of_ble_eq_true rfl), (Nat.le_of_ble_eq_true rfl)⟩ ?_
        refine lv_goto (tgt := 47) hx hb dX6_round_43 (by decide) ?_
        cases hF
        exact r_iret hx hb hr hlk hS q_12 rfl hP hD dX6_round_47
    · have hF := q_if_t (by first | exact c_6 | exact Classical.not_not.mp c_6) hF
      refine lv_bipush (v := (-2)) hx hb dX6_round_19 (by decide) ?_
      cases hF
set_option maxHeartbeats 4000000 in
set_option maxRecDepth 100000 in
theorem m_X6_round_x (l : Launch) (g : GT) (sz : Nat) (qX : Nat) (AX : Nat → Nat) (AW : Nat → Nat) (σW : qS) (AC : Nat → Nat) (σC : qS) (a1 : Int32) (a2 : Int32) (rr : Int32) (hF : f_X6_round_x σW σC a1 a2 = some rr) : Ci l yX6_round wsX6_round { frames := 1, cells := 0, slots := 0, locals := 22 } g sz [.ref qX, .int a1, .int a2] (wX6 qX AX ++ wX5 g (AX 5) AW .null σW ++ wX1 g (AX 0) AC σC) rr (wX6 qX AX ++ wX5 g (AX 5) AW .null σW ++ wX1 g (AX 0) AC σC) := by
  refine gMet_i (cc := cX6_round) (maxL := 4) (ret := (some .int)) (by decide) rfl (Nat.le_of_ble_eq_true rfl) ?_
  intro p e s m args below meth c Z hx hb hr F hlk hnm hK hN hA H locs hP hD hS ls hl
  have hl : lv_has ls 4 [(0, .ref qX), (1, .int a1), (2, .int a2)] := hl
  have F : CallFix p m c cX6_round 4 s args wsX6_round RX6 := F
  have hts := F.2.2.2.2
  have hown : s.vm.findClass RX6 = some m.cls := F.2.2.2.1
  have hi6 : ∀ w ∈ u_ws RX6 TX6 8, w ∈ wsX6_round := by decide +kernel
  dsimp only [f_X6_round_x] at hF
  refine lv_iload_n hx hb dX6_round_0 rfl (lv_at hl 1 rfl) ?_
  refine lv_iconst (v := 0) hx hb dX6_round_1 (by decide) ?_
  refine lv_bipush (v := 99) hx hb dX6_round_2 (by decide) ?_
  obtain ⟨r_1, h_2, hF⟩ := q_cl_s hF
  refine gcP (As := [.int a1, .int 0, .int 99]) (rest := []) F (m_X6_within l a1 (0 : Int32) (99 : Int32) r_1 h_2) gX6_round_X6_within kX6_within rfl rfl rfl ⟨(Nat.le_of_ble_eq_true rfl), (Nat.le_of_ble_eq_true rfl)⟩ rfl rfl hl.1 (Nat.le_of_ble_eq_true rfl) dX6_round_4 ⟨(Nat.le_of_ble_eq_true rfl), (Nat.le_of_ble_eq_true rfl)⟩ ?_
  refine lv_if_eq (tgt := 19) hx hb dX6_round_7 (by decide) (fun c_3 => ?_) (fun c_3 => ?_)
  · have hF := q_if_t c_3 hF
    refine lv_bipush (v := (-2)) hx hb dX6_round_19 (by decide) ?_
    cases hF
    exact r_iret hx hb hr hlk hS () rfl hP hD dX6_round_21
  · have hF := q_if_f c_3 hF
    refine lv_iload_n hx hb dX6_round_10 rfl (lv_at hl 2 rfl) ?_
    refine lv_iconst (v := 0) hx hb dX6_round_11 (by decide) ?_
    refine lv_iconst (v := 1) hx hb dX6_round_12 (by decide) ?_
    obtain ⟨r_4, h_5, hF⟩ := q_cl_s hF
    refine gcP (As := [.int a2, .int 0, .int 1]) (rest := []) F (m_X6_within l a2 (0 : Int32) (1 : Int32) r_4 h_5) gX6_round_X6_within kX6_within rfl rfl rfl ⟨(Nat.le_of_ble_eq_true rfl), (Nat.le_of_ble_eq_true rfl)⟩ rfl rfl hl.1 (Nat.le_of_ble_eq_true rfl) dX6_round_13 ⟨(Nat.le_of_ble_eq_true rfl), (Nat.le_of_ble_eq_true rfl)⟩ ?_
    refine lv_if_ne (tgt := 22) hx hb dX6_round_16 (by decide) (fun c_6 => ?_) (fun c_6 => ?_)
    · have hF := q_if_f c_6 hF
      refine lv_aload_n hx hb dX6_round_22 rfl (lv_at hl 0 rfl) ?_
      refine va_get (D := g.1) (ci := 6) (v := .ref (AX 5)) (C := RX6) (T := TX6) (N := 8) hx hb hts hi6 hown hK hP 0 rfl rfl 5 (by decide) (hts (.fieldLink RX6 40 "PanTales" "ways" "LPanTales$Ways;") (by decide +kernel)) (fun _ h9 => h9) rfl dX6_round_23 ?_
      refine lv_aload_n hx hb dX6_round_26 rfl (lv_at hl 0 rfl) ?_
      refine va_get (D := g.1) (ci := 6) (v := .ref (AX 0)) (C := RX6) (T := TX6) (N := 8) hx hb hts hi6 hown hK hP 0 rfl rfl 0 (by decide) (hts (.fieldLink RX6 12 "PanTales" "close" "LPanTales$Close;") (by decide +kernel)) (fun _ h9 => h9) rfl dX6_round_27 ?_
      refine lv_iload_n hx hb dX6_round_30 rfl (lv_at hl 1 rfl) ?_
      cases hF
    · have hF := q_if_t (by first | exact c_6 | exact Classical.not_not.mp c_6) hF
      refine lv_bipush (v := (-2)) hx hb dX6_round_19 (by decide) ?_
      cases hF
      exact r_iret hx hb hr hlk hS () rfl hP hD dX6_round_21

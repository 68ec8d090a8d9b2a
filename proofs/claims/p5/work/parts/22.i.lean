theorem kX6_round : YOk yX6_round 2 := by decide +kernel
theorem kX6_image : YOk yX6_image 1 := by decide +kernel
theorem kX6_restore : YOk yX6_restore 1 := by decide +kernel
set_option maxHeartbeats 4000000 in
set_option maxRecDepth 100000 in
theorem m_X6_round (l : Launch) (g : GT) (sz : Nat) (qX : Nat) (AX : Nat → Nat) (AW : Nat → Nat) (σW : qS) (qH : Nat) (σH : qS) (AC : Nat → Nat) (σC : qS) (a1 : Int32) (a2 : Int32) (rr : Int32) (σW' : qS) (σH' : qS) (hF : f_X6_round σW σH σC a1 a2 = some (rr, σW', σH')) : Ci l yX6_round wsX6_round { frames := 5, cells := 0, slots := 0, locals := 120 } g sz [.ref qX, .int a1, .int a2] (wX6 qX AX ++ wX5 g (AX 5) AW (.ref qH) σW ++ wH g qH σH ++ wX1 g (AX 0) AC σC) rr (wX6 qX AX ++ wX5 g (AX 5) AW (.ref qH) σW' ++ wH g qH σH' ++ wX1 g (AX 0) AC σC) := by
  refine gMet_i (cc := cX6_round) (maxL := 4) (ret := (some .int)) (by decide) rfl (Nat.le_of_ble_eq_true rfl) ?_
  intro p e s m args below meth c Z hx hb hr F hlk hnm hK hN hA H locs hP hD hS ls hl
  have hl : lv_has ls 4 [(0, .ref qX), (1, .int a1), (2, .int a2)] := hl
  have F : CallFix p m c cX6_round 4 s args wsX6_round RX6 := F
  have hts := F.2.2.2.2
  have hown : s.vm.findClass RX6 = some m.cls := F.2.2.2.1
  have hi6 : ∀ w ∈ u_ws RX6 TX6 8, w ∈ wsX6_round := by decide +kernel
  dsimp only [f_X6_round] at hF
  refine lv_iload_n hx hb dX6_round_0 rfl (lv_at hl 1 rfl) ?_
  refine lv_iconst (v := 0) hx hb dX6_round_1 (by decide) ?_
  refine lv_bipush (v := 99) hx hb dX6_round_2 (by decide) ?_
  obtain ⟨r_1, h_2, hF⟩ := q_cl_s hF
  refine gcP (As := [.int a1, .int 0, .int 99]) (rest := []) F (m_X6_within l a1 (0 : Int32) (99 : Int32) r_1 h_2) gX6_round_X6_within kX6_within rfl rfl rfl ⟨(Nat.le_of_ble_eq_true rfl), (Nat.le_of_ble_eq_true rfl)⟩ rfl rfl hl.1 (Nat.le_of_ble_eq_true rfl) dX6_round_4 ⟨(Nat.le_of_ble_eq_true rfl), (Nat.le_of_ble_eq_true rfl)⟩ ?_
  refine lv_if_eq (tgt := 19) hx hb dX6_round_7 (by decide) (fun c_3 => ?_) (fun c_3 => ?_)
  · have hF := q_if_t c_3 hF
    refine lv_bipush (v := (-2)) hx hb dX6_round_19 (by decide) ?_
    cases hF
    exact r_iret hx hb hr hlk hS () rfl hP hD dX6_round_21
  · have hF := q_if_f c_3 hF
    refine lv_iload_n hx hb dX6_round_10 rfl (lv_at hl 2 rfl) ?_
    refine lv_iconst (v := 0) hx hb dX6_round_11 (by decide) ?_
    refine lv_iconst (v := 1) hx hb dX6_round_12 (by decide) ?_
    obtain ⟨r_4, h_5, hF⟩ := q_cl_s hF
    refine gcP (As := [.int a2, .int 0, .int 1]) (rest := []) F (m_X6_within l a2 (0 : Int32) (1 : Int32) r_4 h_5) gX6_round_X6_within kX6_within rfl rfl rfl ⟨(Nat.le_of_ble_eq_true rfl), (Nat.le_of_ble_eq_true rfl)⟩ rfl rfl hl.1 (Nat.le_of_ble_eq_true rfl) dX6_round_13 ⟨(Nat.le_of_ble_eq_true rfl), (Nat.le_of_ble_eq_true rfl)⟩ ?_
    refine lv_if_ne (tgt := 22) hx hb dX6_round_16 (by decide) (fun c_6 => ?_) (fun c_6 => ?_)
    · have hF := q_if_f c_6 hF
      refine lv_aload_n hx hb dX6_round_22 rfl (lv_at hl 0 rfl) ?_
      refine va_get (D := g.1) (ci := 6) (v := .ref (AX 5)) (C := RX6) (T := TX6) (N := 8) hx hb hts hi6 hown hK hP 0 rfl rfl 5 (by decide) (hts (.fieldLink RX6 40 "PanTales" "ways" "LPanTales$Ways;") (by decide +kernel)) (fun _ h9 => h9) rfl dX6_round_23 ?_
      refine lv_aload_n hx hb dX6_round_26 rfl (lv_at hl 0 rfl) ?_
      refine va_get (D := g.1) (ci := 6) (v := .ref (AX 0)) (C := RX6) (T := TX6) (N := 8) hx hb hts hi6 hown hK hP 0 rfl rfl 0 (by decide) (hts (.fieldLink RX6 12 "PanTales" "close" "LPanTales$Close;") (by decide +kernel)) (fun _ h9 => h9) rfl dX6_round_27 ?_
      refine lv_iload_n hx hb dX6_round_30 rfl (lv_at hl 1 rfl) ?_
      obtain ⟨⟨r_7, σW_8, σH_9⟩, h_10, hF⟩ := q_cl_s hF
      try dsimp only at hF
      refine gcV_i (As := [.ref (AX 0), .int a1]) (rest := []) (ci := 5) (q := (RX5, TX5, 3)) F hK hN hP hD hS hA (m_X5_bestRound l g H.size (AX 5) AW σW qH σH (AX 0) AC σC a1 r_7 σW_8 σH_9 h_10) gX6_round_X5_bestRound kX5_bestRound rfl rfl rfl rfl ⟨(Nat.le_of_ble_eq_true rfl), (Nat.le_of_ble_eq_true rfl)⟩ [1, 2, 3, 4, 5, 6, 7, 8, 9, 10, 11, 12] [0] rfl rfl rfl (by decide) rfl rfl rfl rfl rfl hl.1 (Nat.le_of_ble_eq_true rfl) dX6_round_31 ⟨(Nat.le_of_ble_eq_true rfl), (Nat.le_of_ble_eq_true rfl)⟩ (fun r_w u_w H locs hw hP hD hS => ?_)
      have hP : va_P g.1 vwCl (wX6 qX AX ++ wX5 g (AX 5) AW (.ref qH) σW_8 ++ wH g qH σH_9 ++ wX1 g (AX 0) AC σC) H := hP
      have hD : va_D Z (wX6 qX AX ++ wX5 g (AX 5) AW (.ref qH) σW_8 ++ wH g qH σH_9 ++ wX1 g (AX 0) AC σC) := hD
      obtain rfl : r_7 = r_w := hw.symm
      refine lv_istore_n (lv' := [(3, .int r_7), (0, .ref qX), (1, .int a1), (2, .int a2)]) hx hb dX6_round_34 rfl hl (by decide) rfl (fun ls hl => ?_)
      refine lv_iload_n hx hb dX6_round_35 rfl (lv_at hl 3 rfl) ?_
      refine lv_if_ne (tgt := 46) hx hb dX6_round_36 (by decide) (fun c_12 => ?_) (fun c_12 => ?_)
      · have hF := q_if_f c_12 hF
        refine lv_iload_n hx hb dX6_round_46 rfl (lv_at hl 0 rfl) ?_
        cases hF
        exact r_iret hx hb hr hlk hS () rfl hP hD dX6_round_47
      · have hF := q_if_t (by first | exact c_12 | exact Classical.not_not.mp c_12) hF
        refine lv_iload_n hx hb dX6_round_39 rfl (lv_at hl 0 rfl) ?_
        obtain ⟨r_13, h_14, hF⟩ := q_cl_s hF
        refine gcP (As := [.int r_7]) (rest := []) F (m_J6_bitCount_0f7a4 l r_7 r_13 h_14) gX6_round_J6_bitCount_0f7a4 kJ6_bitCount_0f7a4 rfl rfl rfl ⟨(Nat.le_of_ble_eq_true rfl), (Nat.le_of_ble_eq_true rfl)⟩ rfl rfl hl.1 (Nat.le_of_ble_eq_true rfl) dX6_round_40 ⟨(Nat.le_of_ble_eq_true rfl), (Nat.le_of_ble_eq_true rfl)⟩ ?_
        refine lv_goto (tgt := 47) hx hb dX6_round_43 (by decide) ?_
        cases hF
        exact r_iret hx hb hr hlk hS () rfl hP hD dX6_round_47
    · have hF := q_if_t (by first | exact c_6 | exact Classical.not_not.mp c_6) hF
      refine lv_bipush (v := (-2)) hx hb dX6_round_19 (by decide) ?_
      cases hF
      exact r_iret hx hb hr hlk hS () rfl hP hD dX6_round_21
set_option maxHeartbeats 4000000 in
set_option maxRecDepth 100000 in
theorem m_X6_round_n (l : Launch) (g : GT) (sz : Nat) (qX : Nat) (AX : Nat → Nat) (AW : Nat → Nat) (σW : qS) (AC : Nat → Nat) (σC : qS) (a1 : Int32) (a2 : Int32) (rr : Int32) (σW' : qS) (σH' : qS) (hF : f_X6_round_n σW σC a1 a2 = some (rr, σW', σH')) : Mi (S := Nat) l yX6_round wsX6_round { frames := 5, cells := 1, slots := 10240, locals := 120 } g sz [.ref qX, .int a1, .int a2] (wX6 qX AX ++ wX5 g (AX 5) AW .null σW ++ wX1 g (AX 0) AC σC) 1 10240 (fun r_ _ => r_ = rr) (fun qH => wX6 qX AX ++ wX5 g (AX 5) AW (.ref qH) σW' ++ wX1 g (AX 0) AC σC ++ wH g qH σH') := by
  refine gMet_i (cc := cX6_round) (maxL := 4) (ret := (some .int)) (by decide) rfl (Nat.le_of_ble_eq_true rfl) ?_
  intro p e s m args below meth c Z hx hb hr F hlk hnm hK hN hA H locs hP hD hS ls hl
  have hl : lv_has ls 4 [(0, .ref qX), (1, .int a1), (2, .int a2)] := hl
  have F : CallFix p m c cX6_round 4 s args wsX6_round RX6 := F
  have hts := F.2.2.2.2
  have hown : s.vm.findClass RX6 = some m.cls := F.2.2.2.1
  have hi6 : ∀ w ∈ u_ws RX6 TX6 8, w ∈ wsX6_round := by decide +kernel
  dsimp only [f_X6_round_n] at hF
  refine lv_iload_n hx hb dX6_round_0 rfl (lv_at hl 1 rfl) ?_
  refine lv_iconst (v := 0) hx hb dX6_round_1 (by decide) ?_
  refine lv_bipush (v := 99) hx hb dX6_round_2 (by decide) ?_
  obtain ⟨r_1, h_2, hF⟩ := q_cl_s hF
  refine gcP (As := [.int a1, .int 0, .int 99]) (rest := []) F (m_X6_within l a1 (0 : Int32) (99 : Int32) r_1 h_2) gX6_round_X6_within kX6_within rfl rfl rfl ⟨(Nat.le_of_ble_eq_true rfl), (Nat.le_of_ble_eq_true rfl)⟩ rfl rfl hl.1 (Nat.le_of_ble_eq_true rfl) dX6_round_4 ⟨(Nat.le_of_ble_eq_true rfl), (Nat.le_of_ble_eq_true rfl)⟩ ?_
  refine lv_if_eq (tgt := 19) hx hb dX6_round_7 (by decide) (fun c_3 => ?_) (fun c_3 => ?_)
  · have hF := q_if_t c_3 hF
    refine lv_bipush (v := (-2)) hx hb dX6_round_19 (by decide) ?_
    cases hF
  · have hF := q_if_f c_3 hF
    refine lv_iload_n hx hb dX6_round_10 rfl (lv_at hl 2 rfl) ?_
    refine lv_iconst (v := 0) hx hb dX6_round_11 (by decide) ?_
    refine lv_iconst (v := 1) hx hb dX6_round_12 (by decide) ?_
    obtain ⟨r_4, h_5, hF⟩ := q_cl_s hF
    refine gcP (As := [.int a2, .int 0, .int 1]) (rest := []) F (m_X6_within l a2 (0 : Int32) (1 : Int32) r_4 h_5) gX6_round_X6_within kX6_within rfl rfl rfl ⟨(Nat.le_of_ble_eq_true rfl), (Nat.le_of_ble_eq_true rfl)⟩ rfl rfl hl.1 (Nat.le_of_ble_eq_true rfl) dX6_round_13 ⟨(Nat.le_of_ble_eq_true rfl), (Nat.le_of_ble_eq_true rfl)⟩ ?_
    refine lv_if_ne (tgt := 22) hx hb dX6_round_16 (by decide) (fun c_6 => ?_) (fun c_6 => ?_)
    · have hF := q_if_f c_6 hF
      refine lv_aload_n hx hb dX6_round_22 rfl (lv_at hl 0 rfl) ?_
      refine va_get (D := g.1) (ci := 6) (v := .ref (AX 5)) (C := RX6) (T := TX6) (N := 8) hx hb hts hi6 hown hK hP 0 rfl rfl 5 (by decide) (hts (.fieldLink RX6 40 "PanTales" "ways" "LPanTales$Ways;") (by decide +kernel)) (fun _ h9 => h9) rfl dX6_round_23 ?_
      refine lv_aload_n hx hb dX6_round_26 rfl (lv_at hl 0 rfl) ?_
      refine va_get (D := g.1) (ci := 6) (v := .ref (AX 0)) (C := RX6) (T := TX6) (N := 8) hx hb hts hi6 hown hK hP 0 rfl rfl 0 (by decide) (hts (.fieldLink RX6 12 "PanTales" "close" "LPanTales$Close;") (by decide +kernel)) (fun _ h9 => h9) rfl dX6_round_27 ?_
      refine lv_iload_n hx hb dX6_round_30 rfl (lv_at hl 1 rfl) ?_
      obtain ⟨⟨r_7, σW_8, σH_9⟩, h_10, hF⟩ := q_cl_s hF
      try dsimp only at hF
      refine gcV_i (As := [.ref (AX 0), .int a1]) (rest := []) (ci := 5) (q := (RX5, TX5, 3)) F hK hN hP hD hS hA (m_X5_bestRound_n l g H.size (AX 5) AW σW (AX 0) AC σC a1 r_7 σW_8 σH_9 h_10) gX6_round_X5_bestRound kX5_bestRound rfl rfl rfl rfl ⟨(Nat.le_of_ble_eq_true rfl), (Nat.le_of_ble_eq_true rfl)⟩ [1, 2, 3, 4, 5, 6, 7, 8, 9, 10, 11] [0] rfl rfl rfl (by decide) rfl rfl rfl rfl rfl hl.1 (Nat.le_of_ble_eq_true rfl) dX6_round_31 ⟨(Nat.le_of_ble_eq_true rfl), (Nat.le_of_ble_eq_true rfl)⟩ (fun r_w u_w H locs hw hP hD hS => ?_)
      obtain ⟨q_12, rfl⟩ : ∃ z, z = u_w := ⟨_, rfl⟩
      refine W.widen (k := 1) (n := 10240) (by decide) (by decide) ?_
      have hP : va_P g.1 vwCl (wX6 qX AX ++ wX5 g (AX 5) AW (.ref q_12) σW_8 ++ wX1 g (AX 0) AC σC ++ wH g q_12 σH_9) H := hP
      have hD : va_D Z (wX6 qX AX ++ wX5 g (AX 5) AW (.ref q_12) σW_8 ++ wX1 g (AX 0) AC σC ++ wH g q_12 σH_9) := hD
      obtain rfl : r_7 = r_w := hw.symm
      refine lv_istore_n (lv' := [(3, .int r_7), (0, .ref qX), (1, .int a1), (2, .int a2)]) hx hb dX6_round_34 rfl hl (by decide) rfl (fun ls hl => ?_)
      refine lv_iload_n hx hb dX6_round_35 rfl (lv_at hl 3 rfl) ?_
      refine lv_if_ne (tgt := 46) hx hb dX6_round_36 (by decide) (fun c_13 => ?_) (fun c_13 => ?_)
      · have hF := q_if_f c_13 hF
        refine lv_iload_n hx hb dX6_round_46 rfl (lv_at hl 0 rfl) ?_
        cases hF
        exact r_iret hx hb hr hlk hS q_12 rfl hP hD dX6_round_47
      · have hF := q_if_t (by first | exact c_13 | exact Classical.not_not.mp c_13) hF
        refine lv_iload_n hx hb dX6_round_39 rfl (lv_at hl 0 rfl) ?_
        obtain ⟨r_14, h_15, hF⟩ := q_cl_s hF
        refine gcP (As := [.int r_7]) (rest := []) F (m_J6_bitCount_0f7a4 l r_7 r_14 h_15) gX6_round_J6_bitCount_0f7a4 kJ6_bitCount_0f7a4 rfl rfl rfl ⟨(Nat.le_of_ble_eq_true rfl), (Nat.le_of_ble_eq_true rfl)⟩ rfl rfl hl.1 (Nat.le_of_ble_eq_true rfl) dX6_round_40 ⟨(Nat.le_of_ble_eq_true rfl), (Nat.le_of_ble_eq_true rfl)⟩ ?_
        refine lv_goto (tgt := 47) hx hb dX6_round_43 (by decide) ?_
        cases hF
        exact r_iret hx hb hr hlk hS q_12 rfl hP hD dX6_round_47
    · have hF := q_if_t (by first | exact c_6 | exact Classical.not_not.mp c_6) hF
      refine lv_bipush (v := (-2)) hx hb dX6_round_19 (by decide) ?_
      cases hF
set_option maxHeartbeats 4000000 in
set_option maxRecDepth 100000 in
theorem m_X6_round_x (l : Launch) (g : GT) (sz : Nat) (qX : Nat) (AX : Nat → Nat) (AW : Nat → Nat) (σW : qS) (AC : Nat → Nat) (σC : qS) (a1 : Int32) (a2 : Int32) (rr : Int32) (hF : f_X6_round_x σW σC a1 a2 = some rr) : Ci l yX6_round wsX6_round { frames := 1, cells := 0, slots := 0, locals := 22 } g sz [.ref qX, .int a1, .int a2] (wX6 qX AX ++ wX5 g (AX 5) AW .null σW ++ wX1 g (AX 0) AC σC) rr (wX6 qX AX ++ wX5 g (AX 5) AW .null σW ++ wX1 g (AX 0) AC σC) := by
  refine gMet_i (cc := cX6_round) (maxL := 4) (ret := (some .int)) (by decide) rfl (Nat.le_of_ble_eq_true rfl) ?_
  intro p e s m args below meth c Z hx hb hr F hlk hnm hK hN hA H locs hP hD hS ls hl
  have hl : lv_has ls 4 [(0, .ref qX), (1, .int a1), (2, .int a2)] := hl
  have F : CallFix p m c cX6_round 4 s args wsX6_round RX6 := F
  have hts := F.2.2.2.2
  have hown : s.vm.findClass RX6 = some m.cls := F.2.2.2.1
  have hi6 : ∀ w ∈ u_ws RX6 TX6 8, w ∈ wsX6_round := by decide +kernel
  dsimp only [f_X6_round_x] at hF
  refine lv_iload_n hx hb dX6_round_0 rfl (lv_at hl 1 rfl) ?_
  refine lv_iconst (v := 0) hx hb dX6_round_1 (by decide) ?_
  refine lv_bipush (v := 99) hx hb dX6_round_2 (by decide) ?_
  obtain ⟨r_1, h_2, hF⟩ := q_cl_s hF
  refine gcP (As := [.int a1, .int 0, .int 99]) (rest := []) F (m_X6_within l a1 (0 : Int32) (99 : Int32) r_1 h_2) gX6_round_X6_within kX6_within rfl rfl rfl ⟨(Nat.le_of_ble_eq_true rfl), (Nat.le_of_ble_eq_true rfl)⟩ rfl rfl hl.1 (Nat.le_of_ble_eq_true rfl) dX6_round_4 ⟨(Nat.le_of_ble_eq_true rfl), (Nat.le_of_ble_eq_true rfl)⟩ ?_
  refine lv_if_eq (tgt := 19) hx hb dX6_round_7 (by decide) (fun c_3 => ?_) (fun c_3 => ?_)
  · have hF := q_if_t c_3 hF
    refine lv_bipush (v := (-2)) hx hb dX6_round_19 (by decide) ?_
    cases hF
    exact r_iret hx hb hr hlk hS () rfl hP hD dX6_round_21
  · have hF := q_if_f c_3 hF
    refine lv_iload_n hx hb dX6_round_10 rfl (lv_at hl 2 rfl) ?_
    refine lv_iconst (v := 0) hx hb dX6_round_11 (by decide) ?_
    refine lv_iconst (v := 1) hx hb dX6_round_12 (by decide) ?_
    obtain ⟨r_4, h_5, hF⟩ := q_cl_s hF
    refine gcP (As := [.int a2, .int 0, .int 1]) (rest := []) F (m_X6_within l a2 (0 : Int32) (1 : Int32) r_4 h_5) gX6_round_X6_within kX6_within rfl rfl rfl ⟨(Nat.le_of_ble_eq_true rfl), (Nat.le_of_ble_eq_true rfl)⟩ rfl rfl hl.1 (Nat.le_of_ble_eq_true rfl) dX6_round_13 ⟨(Nat.le_of_ble_eq_true rfl), (Nat.le_of_ble_eq_true rfl)⟩ ?_
    refine lv_if_ne (tgt := 22) hx hb dX6_round_16 (by decide) (fun c_6 => ?_) (fun c_6 => ?_)
    · have hF := q_if_f c_6 hF
      refine lv_aload_n hx hb dX6_round_22 rfl (lv_at hl 0 rfl) ?_
      refine va_get (D := g.1) (ci := 6) (v := .ref (AX 5)) (C := RX6) (T := TX6) (N := 8) hx hb hts hi6 hown hK hP 0 rfl rfl 5 (by decide) (hts (.fieldLink RX6 40 "PanTales" "ways" "LPanTales$Ways;") (by decide +kernel)) (fun _ h9 => h9) rfl dX6_round_23 ?_
      refine lv_aload_n hx hb dX6_round_26 rfl (lv_at hl 0 rfl) ?_
      refine va_get (D := g.1) (ci := 6) (v := .ref (AX 0)) (C := RX6) (T := TX6) (N := 8) hx hb hts hi6 hown hK hP 0 rfl rfl 0 (by decide) (hts (.fieldLink RX6 12 "PanTales" "close" "LPanTales$Close;") (by decide +kernel)) (fun _ h9 => h9) rfl dX6_round_27 ?_
      refine lv_iload_n hx hb dX6_round_30 rfl (lv_at hl 1 rfl) ?_
      cases hF
    · have hF := q_if_t (by first | exact c_6 | exact Classical.not_not.mp c_6) hF
      refine lv_bipush (v := (-2)) hx hb dX6_round_19 (by decide) ?_
      cases hF
      exact r_iret hx hb hr hlk hS () rfl hP hD dX6_round_21
set_option maxHeartbeats 4000000 in
set_option maxRecDepth 100000 in
theorem m_X6_image_0n (l : Launch) (g : GT) (sz : Nat) (qX : Nat) (AX : Nat → Nat) (QQ : Nat → Option Nat) (AC : Nat → Nat) (σC : qS) (hQ : QQ 0 = none) (rr : Int32) (σI' : qS) (hF : f_X6_image_0n σC = some (rr, σI')) : Mi (S := Nat × (Nat → Nat)) l yX6_image wsX6_image { frames := 2, cells := 8, slots := 189, locals := 101 } g sz [.ref qX, .int 0] (wX6 qX AX ++ wG g (AX 2) QQ ++ wX1 g (AX 0) AC σC) 8 189 (fun r_ _ => r_ = rr) (fun uI => wX6 qX AX ++ wG g (AX 2) (va_up QQ (0 : Int32).toNatClampNeg (some uI.1)) ++ wX1 g (AX 0) AC σC ++ wX1 g uI.1 uI.2 σI') := by
  refine gMet_i (cc := cX6_image) (maxL := 3) (ret := (some .int)) (by decide) rfl (Nat.le_of_ble_eq_true rfl) ?_
  intro p e s m args below meth c Z hx hb hr F hlk hnm hK hN hA H locs hP hD hS ls hl
  have hl : lv_has ls 3 [(0, .ref qX), (1, .int 0)] := hl
  have F : CallFix p m c cX6_image 3 s args wsX6_image RX6 := F
  have hts := F.2.2.2.2
  have hown : s.vm.findClass RX6 = some m.cls := F.2.2.2.1
  have hi1 : ∀ w ∈ u_ws RX1 TX1 12, w ∈ wsX6_image := by decide +kernel
  have hi6 : ∀ w ∈ u_ws RX6 TX6 8, w ∈ wsX6_image := by decide +kernel
  dsimp only [f_X6_image_0n] at hF
  refine lv_iload_n hx hb dX6_image_0 rfl (lv_at hl 1 rfl) ?_
  refine lv_iconst (v := 0) hx hb dX6_image_1 (by decide) ?_
  refine lv_iconst (v := 1) hx hb dX6_image_2 (by decide) ?_
  obtain ⟨r_1, h_2, hF⟩ := q_cl_s hF
  refine gcP (As := [.int 0, .int 0, .int 1]) (rest := []) F (m_X6_within l (0 : Int32) (0 : Int32) (1 : Int32) r_1 h_2) gX6_image_X6_within kX6_within rfl rfl rfl ⟨(Nat.le_of_ble_eq_true rfl), (Nat.le_of_ble_eq_true rfl)⟩ rfl rfl hl.1 (Nat.le_of_ble_eq_true rfl) dX6_image_3 ⟨(Nat.le_of_ble_eq_true rfl), (Nat.le_of_ble_eq_true rfl)⟩ ?_
  refine lv_if_ne (tgt := 12) hx hb dX6_image_6 (by decide) (fun c_3 => ?_) (fun c_3 => ?_)
  · have hF := q_if_f c_3 hF
    refine lv_aload_n hx hb dX6_image_12 rfl (lv_at hl 0 rfl) ?_
    refine va_get (D := g.1) (ci := 6) (v := .ref (AX 2)) (C := RX6) (T := TX6) (N := 8) hx hb hts hi6 hown hK hP 0 rfl rfl 2 (by decide) (hts (.fieldLink RX6 19 "PanTales" "images" "[LPanTales$Close;") (by decide +kernel)) (fun _ h9 => h9) rfl dX6_image_13 ?_
    refine lv_iload_n hx hb dX6_image_16 rfl (lv_at hl 1 rfl) ?_
    refine r_aald (v := .null) hx hb hK hP 1 rfl (vp_in_nI (n := 0) (by decide) (by decide)) (by rw [show (0 : Int32).toNatClampNeg = 0 from rfl, hQ]; rfl) dX6_image_17 ?_
    refine lv_astore_nN (lv' := [(2, .null), (0, .ref qX), (1, .int 0)]) hx hb dX6_image_18 rfl hl (by decide) rfl (fun ls hl => ?_)
    refine lv_aload_nN hx hb dX6_image_19 rfl (lv_at hl 0 rfl) ?_
    refine lv_ifnonnullN hx hb dX6_image_20 ?_
    refine va_new (D := g.1) (ci := 1) (fs := [.null, .null, .null, .null, .null, .null, .null, .int 0, .int 0, .int 0, .int 0, .int 0]) (C := RX1) (T := TX1) (N := 12) hx hb hts hi1 tyX1 tyX1_ok hown (hts (.classLink RX6 9 RX1) (by decide +kernel)) (hts (.instantiable RX1 12) (by decide +kernel)) (hts (.initialized RX1) (by decide +kernel)) hK hP hD hS hA rfl (by decide +kernel) (Nat.le_of_ble_eq_true rfl) (Nat.le_of_ble_eq_true rfl) dX6_image_23 (fun q_4 H hP hD hS => ?_)
    have hP : va_P g.1 vwCl (wX6 qX AX ++ wG g (AX 2) QQ ++ wX1 g (AX 0) AC σC ++ [(q_4, .inr (1, [.null, .null, .null, .null, .null, .null, .null, .int 0, .int 0, .int 0, .int 0, .int 0]))]) H := hP
    have hD : va_D Z (wX6 qX AX ++ wG g (AX 2) QQ ++ wX1 g (AX 0) AC σC ++ [(q_4, .inr (1, [.null, .null, .null, .null, .null, .null, .null, .int 0, .int 0, .int 0, .int 0, .int 0]))]) := hD
    refine W.widen (k := 1) (n := 12) (by decide) (by decide) ?_
    refine lv_dup hx hb dX6_image_26 rfl ?_
    refine gcI_v (As := []) (rest := [.ref q_4]) F hK hN hP hD hS hA (c_X1_init l g H.size q_4) gX6_image_X1_init kX1_init rfl (hts (.initialized RX1) (by decide +kernel)) (hts (.methodLink RX6 11 yX1_init) (by decide +kernel)) (hts (.instanceMethod yX1_init) (by decide +kernel)) rfl rfl rfl ⟨(Nat.le_of_ble_eq_true rfl), (Nat.le_of_ble_eq_true rfl)⟩ [10] [0, 1, 2, 3, 4, 5, 6, 7, 8, 9] rfl rfl rfl (by decide) rfl rfl rfl hl.1 (Nat.le_of_ble_eq_true rfl) dX6_image_27 ⟨(Nat.le_of_ble_eq_true rfl), (Nat.le_of_ble_eq_true rfl)⟩ (fun u_w H locs hw hP hD hS => ?_)
    obtain ⟨A_5, rfl⟩ : ∃ z, z = u_w := ⟨_, rfl⟩
    refine W.widen (k := 8) (n := 189) (by decide) (by decide) ?_
    have hP : va_P g.1 vwCl (wX6 qX AX ++ wG g (AX 2) QQ ++ wX1 g (AX 0) AC σC ++ wX1 g q_4 A_5 qC0) H := hP
    have hD : va_D Z (wX6 qX AX ++ wG g (AX 2) QQ ++ wX1 g (AX 0) AC σC ++ wX1 g q_4 A_5 qC0) := hD
    refine lv_astore_n (lv' := [(2, .ref q_4), (0, .ref qX), (1, .int 0)]) hx hb dX6_image_30 rfl hl (by decide) rfl (fun ls hl => ?_)
    refine lv_aload_n hx hb dX6_image_31 rfl (lv_at hl 1 rfl) ?_
    refine va_get (D := g.1) (ci := 6) (v := .ref (AX 2)) (C := RX6) (T := TX6) (N := 8) hx hb hts hi6 hown hK hP 0 rfl rfl 2 (by decide) (hts (.fieldLink RX6 19 "PanTales" "images" "[LPanTales$Close;") (by decide +kernel)) (fun _ h9 => h9) rfl dX6_image_32 ?_
    refine lv_iload_n hx hb dX6_image_35 rfl (lv_at hl 2 rfl) ?_
    refine lv_aload_n hx hb dX6_image_36 rfl (lv_at hl 0 rfl) ?_
    refine va_astq (D := g.1) (cl := vwCl) (r := (RX1, TX1, 12)) hx hb hK hP hD hS 1 3 10 1 rfl rfl rfl rfl (vp_in_nI (n := 0) (by decide) (by decide)) dX6_image_37 (fun H locs hP hD hS => ?_)
    have hP : va_P g.1 vwCl (wX6 qX AX ++ wG g (AX 2) (va_up QQ (0 : Int32).toNatClampNeg (some q_4)) ++ wX1 g (AX 0) AC σC ++ wX1 g q_4 A_5 qC0) H := hP
    have hD : va_D Z (wX6 qX AX ++ wG g (AX 2) (va_up QQ (0 : Int32).toNatClampNeg (some q_4)) ++ wX1 g (AX 0) AC σC ++ wX1 g q_4 A_5 qC0) := hD
    refine lv_aload_n hx hb dX6_image_38 rfl (lv_at hl 0 rfl) ?_
    refine lv_aload_n hx hb dX6_image_39 rfl (lv_at hl 1 rfl) ?_
    refine va_get (D := g.1) (ci := 6) (v := .ref (AX 0)) (C := RX6) (T := TX6) (N := 8) hx hb hts hi6 hown hK hP 0 rfl rfl 0 (by decide) (hts (.fieldLink RX6 12 "PanTales" "close" "LPanTales$Close;") (by decide +kernel)) (fun _ h9 => h9) rfl dX6_image_40 ?_
    obtain ⟨σI_6, h_7, hF⟩ := q_cl_s hF
    refine gcV_v (As := [.ref (AX 0)]) (rest := []) (ci := 1) (q := (RX1, TX1, 12)) F hK hN hP hD hS hA (m_X1_copyFrom l g H.size q_4 A_5 qC0 (AX 0) AC σC σI_6 h_7) gX6_image_X1_copyFrom kX1_copyFrom rfl rfl rfl rfl ⟨(Nat.le_of_ble_eq_true rfl), (Nat.le_of_ble_eq_true rfl)⟩ [10, 11, 12, 13, 14, 15, 16, 17, 2, 3, 4, 5, 6, 7, 8, 9] [0, 1] rfl rfl rfl (by decide) rfl rfl rfl rfl rfl hl.1 (Nat.le_of_ble_eq_true rfl) dX6_image_43 ⟨(Nat.le_of_ble_eq_true rfl), (Nat.le_of_ble_eq_true rfl)⟩ (fun u_w H locs hw hP hD hS => ?_)
    have hP : va_P g.1 vwCl (wX6 qX AX ++ wG g (AX 2) (va_up QQ (0 : Int32).toNatClampNeg (some q_4)) ++ wX1 g (AX 0) AC σC ++ wX1 g q_4 A_5 σI_6) H := hP.sub [0, 1, 10, 11, 12, 13, 14, 15, 16, 17, 2, 3, 4, 5, 6, 7, 8, 9] rfl
    have hD : va_D Z (wX6 qX AX ++ wG g (AX 2) (va_up QQ (0 : Int32).toNatClampNeg (some q_4)) ++ wX1 g (AX 0) AC σC ++ wX1 g q_4 A_5 σI_6) := hD.sub [0, 1, 10, 11, 12, 13, 14, 15, 16, 17, 2, 3, 4, 5, 6, 7, 8, 9] (by decide) rfl
    refine lv_iconst (v := 1) hx hb dX6_image_46 (by decide) ?_
    cases hF
    exact r_iret hx hb hr hlk hS (q_4, A_5) rfl hP hD dX6_image_47
  · have hF := q_if_t (by first | exact c_3 | exact Classical.not_not.mp c_3) hF
    refine lv_bipush (v := (-2)) hx hb dX6_image_9 (by decide) ?_
    cases hF
set_option maxHeartbeats 4000000 in
set_option maxRecDepth 100000 in
theorem m_X6_image_0s (l : Launch) (g : GT) (sz : Nat) (qX : Nat) (AX : Nat → Nat) (QQ : Nat → Option Nat) (AC : Nat → Nat) (σC : qS) (qI : Nat) (AI : Nat → Nat) (σI : qS) (hQ : QQ 0 = some qI) (rr : Int32) (σI' : qS) (hF : f_X6_image_0s σC σI = some (rr, σI')) : Ci l yX6_image wsX6_image { frames := 2, cells := 0, slots := 0, locals := 101 } g sz [.ref qX, .int 0] (wX6 qX AX ++ wG g (AX 2) QQ ++ wX1 g (AX 0) AC σC ++ wX1 g qI AI σI) rr (wX6 qX AX ++ wG g (AX 2) QQ ++ wX1 g (AX 0) AC σC ++ wX1 g qI AI σI') := by
  refine gMet_i (cc := cX6_image) (maxL := 3) (ret := (some .int)) (by decide) rfl (Nat.le_of_ble_eq_true rfl) ?_
  intro p e s m args below meth c Z hx hb hr F hlk hnm hK hN hA H locs hP hD hS ls hl
  have hl : lv_has ls 3 [(0, .ref qX), (1, .int 0)] := hl
  have F : CallFix p m c cX6_image 3 s args wsX6_image RX6 := F
  have hts := F.2.2.2.2
  have hown : s.vm.findClass RX6 = some m.cls := F.2.2.2.1
  have hi6 : ∀ w ∈ u_ws RX6 TX6 8, w ∈ wsX6_image := by decide +kernel
  dsimp only [f_X6_image_0s] at hF
  refine lv_iload_n hx hb dX6_image_0 rfl (lv_at hl 1 rfl) ?_
  refine lv_iconst (v := 0) hx hb dX6_image_1 (by decide) ?_
  refine lv_iconst (v := 1) hx hb dX6_image_2 (by decide) ?_
  obtain ⟨r_1, h_2, hF⟩ := q_cl_s hF
  refine gcP (As := [.int 0, .int 0, .int 1]) (rest := []) F (m_X6_within l (0 : Int32) (0 : Int32) (1 : Int32) r_1 h_2) gX6_image_X6_within kX6_within rfl rfl rfl ⟨(Nat.le_of_ble_eq_true rfl), (Nat.le_of_ble_eq_true rfl)⟩ rfl rfl hl.1 (Nat.le_of_ble_eq_true rfl) dX6_image_3 ⟨(Nat.le_of_ble_eq_true rfl), (Nat.le_of_ble_eq_true rfl)⟩ ?_
  refine lv_if_ne (tgt := 12) hx hb dX6_image_6 (by decide) (fun c_3 => ?_) (fun c_3 => ?_)
  · have hF := q_if_f c_3 hF
    refine lv_aload_n hx hb dX6_image_12 rfl (lv_at hl 0 rfl) ?_
    refine va_get (D := g.1) (ci := 6) (v := .ref (AX 2)) (C := RX6) (T := TX6) (N := 8) hx hb hts hi6 hown hK hP 0 rfl rfl 2 (by decide) (hts (.fieldLink RX6 19 "PanTales" "images" "[LPanTales$Close;") (by decide +kernel)) (fun _ h9 => h9) rfl dX6_image_13 ?_
    refine lv_iload_n hx hb dX6_image_16 rfl (lv_at hl 1 rfl) ?_
    refine r_aald (v := .ref qI) hx hb hK hP 1 rfl (vp_in_nI (n := 0) (by decide) (by decide)) (by rw [show (0 : Int32).toNatClampNeg = 0 from rfl, hQ]; rfl) dX6_image_17 ?_
    refine lv_astore_n (lv' := [(2, .ref qI), (0, .ref qX), (1, .int 0)]) hx hb dX6_image_18 rfl hl (by decide) rfl (fun ls hl => ?_)
    refine lv_aload_n hx hb dX6_image_19 rfl (lv_at hl 0 rfl) ?_
    refine lv_ifnonnull (tgt := 38) hx hb dX6_image_20 (by decide) ?_
    refine lv_aload_n hx hb dX6_image_38 rfl (lv_at hl 0 rfl) ?_
    refine lv_aload_n hx hb dX6_image_39 rfl (lv_at hl 1 rfl) ?_
    refine va_get (D := g.1) (ci := 6) (v := .ref (AX 0)) (C := RX6) (T := TX6) (N := 8) hx hb hts hi6 hown hK hP 0 rfl rfl 0 (by decide) (hts (.fieldLink RX6 12 "PanTales" "close" "LPanTales$Close;") (by decide +kernel)) (fun _ h9 => h9) rfl dX6_image_40 ?_
    obtain ⟨σI_4, h_5, hF⟩ := q_cl_s hF
    refine gcV_v (As := [.ref (AX 0)]) (rest := []) (ci := 1) (q := (RX1, TX1, 12)) F hK hN hP hD hS hA (m_X1_copyFrom l g H.size qI AI σI (AX 0) AC σC σI_4 h_5) gX6_image_X1_copyFrom kX1_copyFrom rfl rfl rfl rfl ⟨(Nat.le_of_ble_eq_true rfl), (Nat.le_of_ble_eq_true rfl)⟩ [10, 11, 12, 13, 14, 15, 16, 17, 2, 3, 4, 5, 6, 7, 8, 9] [0, 1] rfl rfl rfl (by decide) rfl rfl rfl rfl rfl hl.1 (Nat.le_of_ble_eq_true rfl) dX6_image_43 ⟨(Nat.le_of_ble_eq_true rfl), (Nat.le_of_ble_eq_true rfl)⟩ (fun u_w H locs hw hP hD hS => ?_)
    have hP : va_P g.1 vwCl (wX6 qX AX ++ wG g (AX 2) QQ ++ wX1 g (AX 0) AC σC ++ wX1 g qI AI σI_4) H := hP.sub [0, 1, 10, 11, 12, 13, 14, 15, 16, 17, 2, 3, 4, 5, 6, 7, 8, 9] rfl
    have hD : va_D Z (wX6 qX AX ++ wG g (AX 2) QQ ++ wX1 g (AX 0) AC σC ++ wX1 g qI AI σI_4) := hD.sub [0, 1, 10, 11, 12, 13, 14, 15, 16, 17, 2, 3, 4, 5, 6, 7, 8, 9] (by decide) rfl
    refine lv_iconst (v := 1) hx hb dX6_image_46 (by decide) ?_
    cases hF
    exact r_iret hx hb hr hlk hS () rfl hP hD dX6_image_47
  · have hF := q_if_t (by first | exact c_3 | exact Classical.not_not.mp c_3) hF
    refine lv_bipush (v := (-2)) hx hb dX6_image_9 (by decide) ?_
    cases hF
    exact r_iret hx hb hr hlk hS () rfl hP hD dX6_image_11
set_option maxHeartbeats 4000000 in
set_option maxRecDepth 100000 in
theorem m_X6_restore_0n (l : Launch) (g : GT) (sz : Nat) (qX : Nat) (AX : Nat → Nat) (QQ : Nat → Option Nat) (hQ : QQ 0 = none) (rr : Int32) (hF : f_X6_restore_0n = some rr) : Ci l yX6_restore wsX6_restore { frames := 1, cells := 0, slots := 0, locals := 22 } g sz [.ref qX, .int 0] (wX6 qX AX ++ wG g (AX 2) QQ) rr (wX6 qX AX ++ wG g (AX 2) QQ) := by
  refine gMet_i (cc := cX6_restore) (maxL := 3) (ret := (some .int)) (by decide) rfl (Nat.le_of_ble_eq_true rfl) ?_
  intro p e s m args below meth c Z hx hb hr F hlk hnm hK hN hA H locs hP hD hS ls hl
  have hl : lv_has ls 3 [(0, .ref qX), (1, .int 0)] := hl
  have F : CallFix p m c cX6_restore 3 s args wsX6_restore RX6 := F
  have hts := F.2.2.2.2
  have hown : s.vm.findClass RX6 = some m.cls := F.2.2.2.1
  have hi6 : ∀ w ∈ u_ws RX6 TX6 8, w ∈ wsX6_restore := by decide +kernel
  dsimp only [f_X6_restore_0n] at hF
  refine lv_iload_n hx hb dX6_restore_0 rfl (lv_at hl 1 rfl) ?_
  refine lv_iconst (v := 0) hx hb dX6_restore_1 (by decide) ?_
  refine lv_iconst (v := 1) hx hb dX6_restore_2 (by decide) ?_
  obtain ⟨r_1, h_2, hF⟩ := q_cl_s hF
  refine gcP (As := [.int 0, .int 0, .int 1]) (rest := []) F (m_X6_within l (0 : Int32) (0 : Int32) (1 : Int32) r_1 h_2) gX6_restore_X6_within kX6_within rfl rfl rfl ⟨(Nat.le_of_ble_eq_true rfl), (Nat.le_of_ble_eq_true rfl)⟩ rfl rfl hl.1 (Nat.le_of_ble_eq_true rfl) dX6_restore_3 ⟨(Nat.le_of_ble_eq_true rfl), (Nat.le_of_ble_eq_true rfl)⟩ ?_
  refine lv_if_ne (tgt := 12) hx hb dX6_restore_6 (by decide) (fun c_3 => ?_) (fun c_3 => ?_)
  · have hF := q_if_f c_3 hF
    refine lv_aload_n hx hb dX6_restore_12 rfl (lv_at hl 0 rfl) ?_
    refine va_get (D := g.1) (ci := 6) (v := .ref (AX 2)) (C := RX6) (T := TX6) (N := 8) hx hb hts hi6 hown hK hP 0 rfl rfl 2 (by decide) (hts (.fieldLink RX6 19 "PanTales" "images" "[LPanTales$Close;") (by decide +kernel)) (fun _ h9 => h9) rfl dX6_restore_13 ?_
    refine lv_iload_n hx hb dX6_restore_16 rfl (lv_at hl 1 rfl) ?_
    refine r_aald (v := .null) hx hb hK hP 1 rfl (vp_in_nI (n := 0) (by decide) (by decide)) (by rw [show (0 : Int32).toNatClampNeg = 0 from rfl, hQ]; rfl) dX6_restore_17 ?_
    refine lv_astore_nN (lv' := [(2, .null), (0, .ref qX), (1, .int 0)]) hx hb dX6_restore_18 rfl hl (by decide) rfl (fun ls hl => ?_)
    refine lv_aload_nN hx hb dX6_restore_19 rfl (lv_at hl 0 rfl) ?_
    refine lv_ifnonnullN hx hb dX6_restore_20 ?_
    refine lv_bipush (v := (-3)) hx hb dX6_restore_23 (by decide) ?_
    cases hF
    exact r_iret hx hb hr hlk hS () rfl hP hD dX6_restore_25
  · have hF := q_if_t (by first | exact c_3 | exact Classical.not_not.mp c_3) hF
    refine lv_bipush (v := (-2)) hx hb dX6_restore_9 (by decide) ?_
    cases hF
    exact r_iret hx hb hr hlk hS () rfl hP hD dX6_restore_11
set_option maxHeartbeats 4000000 in
set_option maxRecDepth 100000 in
theorem m_X6_restore_0s (l : Launch) (g : GT) (sz : Nat) (qX : Nat) (AX : Nat → Nat) (QQ : Nat → Option Nat) (AC : Nat → Nat) (σC : qS) (qI : Nat) (AI : Nat → Nat) (σI : qS) (hQ : QQ 0 = some qI) (rr : Int32) (σC' : qS) (hF : f_X6_restore_0s σC σI = some (rr, σC')) : Ci l yX6_restore wsX6_restore { frames := 2, cells := 0, slots := 0, locals := 101 } g sz [.ref qX, .int 0] (wX6 qX AX ++ wG g (AX 2) QQ ++ wX1 g (AX 0) AC σC ++ wX1 g qI AI σI) rr (wX6 qX AX ++ wG g (AX 2) QQ ++ wX1 g (AX 0) AC σC' ++ wX1 g qI AI σI) := by
  refine gMet_i (cc := cX6_restore) (maxL := 3) (ret := (some .int)) (by decide) rfl (Nat.le_of_ble_eq_true rfl) ?_
  intro p e s m args below meth c Z hx hb hr F hlk hnm hK hN hA H locs hP hD hS ls hl
  have hl : lv_has ls 3 [(0, .ref qX), (1, .int 0)] := hl
  have F : CallFix p m c cX6_restore 3 s args wsX6_restore RX6 := F
  have hts := F.2.2.2.2
  have hown : s.vm.findClass RX6 = some m.cls := F.2.2.2.1
  have hi6 : ∀ w ∈ u_ws RX6 TX6 8, w ∈ wsX6_restore := by decide +kernel
  dsimp only [f_X6_restore_0s] at hF
  refine lv_iload_n hx hb dX6_restore_0 rfl (lv_at hl 1 rfl) ?_
  refine lv_iconst (v := 0) hx hb dX6_restore_1 (by decide) ?_
  refine lv_iconst (v := 1) hx hb dX6_restore_2 (by decide) ?_
  obtain ⟨r_1, h_2, hF⟩ := q_cl_s hF
  refine gcP (As := [.int 0, .int 0, .int 1]) (rest := []) F (m_X6_within l (0 : Int32) (0 : Int32) (1 : Int32) r_1 h_2) gX6_restore_X6_within kX6_within rfl rfl rfl ⟨(Nat.le_of_ble_eq_true rfl), (Nat.le_of_ble_eq_true rfl)⟩ rfl rfl hl.1 (Nat.le_of_ble_eq_true rfl) dX6_restore_3 ⟨(Nat.le_of_ble_eq_true rfl), (Nat.le_of_ble_eq_true rfl)⟩ ?_
  refine lv_if_ne (tgt := 12) hx hb dX6_restore_6 (by decide) (fun c_3 => ?_) (fun c_3 => ?_)
  · have hF := q_if_f c_3 hF
    refine lv_aload_n hx hb dX6_restore_12 rfl (lv_at hl 0 rfl) ?_
    refine va_get (D := g.1) (ci := 6) (v := .ref (AX 2)) (C := RX6) (T := TX6) (N := 8) hx hb hts hi6 hown hK hP 0 rfl rfl 2 (by decide) (hts (.fieldLink RX6 19 "PanTales" "images" "[LPanTales$Close;") (by decide +kernel)) (fun _ h9 => h9) rfl dX6_restore_13 ?_
    refine lv_iload_n hx hb dX6_restore_16 rfl (lv_at hl 1 rfl) ?_
    refine r_aald (v := .ref qI) hx hb hK hP 1 rfl (vp_in_nI (n := 0) (by decide) (by decide)) (by rw [show (0 : Int32).toNatClampNeg = 0 from rfl, hQ]; rfl) dX6_restore_17 ?_
    refine lv_astore_n (lv' := [(2, .ref qI), (0, .ref qX), (1, .int 0)]) hx hb dX6_restore_18 rfl hl (by decide) rfl (fun ls hl => ?_)
    refine lv_aload_n hx hb dX6_restore_19 rfl (lv_at hl 0 rfl) ?_
    refine lv_ifnonnull (tgt := 26) hx hb dX6_restore_20 (by decide) ?_
    refine lv_aload_n hx hb dX6_restore_26 rfl (lv_at hl 1 rfl) ?_
    refine va_get (D := g.1) (ci := 6) (v := .ref (AX 0)) (C := RX6) (T := TX6) (N := 8) hx hb hts hi6 hown hK hP 0 rfl rfl 0 (by decide) (hts (.fieldLink RX6 12 "PanTales" "close" "LPanTales$Close;") (by decide +kernel)) (fun _ h9 => h9) rfl dX6_restore_27 ?_
    refine lv_aload_n hx hb dX6_restore_30 rfl (lv_at hl 0 rfl) ?_
    obtain ⟨σC_4, h_5, hF⟩ := q_cl_s hF
    refine gcV_v (As := [.ref qI]) (rest := []) (ci := 1) (q := (RX1, TX1, 12)) F hK hN hP hD hS hA (m_X1_copyFrom l g H.size (AX 0) AC σC qI AI σI σC_4 h_5) gX6_restore_X1_copyFrom kX1_copyFrom rfl rfl rfl rfl ⟨(Nat.le_of_ble_eq_true rfl), (Nat.le_of_ble_eq_true rfl)⟩ [2, 3, 4, 5, 6, 7, 8, 9, 10, 11, 12, 13, 14, 15, 16, 17] [0, 1] rfl rfl rfl (by decide) rfl rfl rfl rfl rfl hl.1 (Nat.le_of_ble_eq_true rfl) dX6_restore_31 ⟨(Nat.le_of_ble_eq_true rfl), (Nat.le_of_ble_eq_true rfl)⟩ (fun u_w H locs hw hP hD hS => ?_)
    have hP : va_P g.1 vwCl (wX6 qX AX ++ wG g (AX 2) QQ ++ wX1 g (AX 0) AC σC_4 ++ wX1 g qI AI σI) H := hP
    have hD : va_D Z (wX6 qX AX ++ wG g (AX 2) QQ ++ wX1 g (AX 0) AC σC_4 ++ wX1 g qI AI σI) := hD
    refine lv_iconst (v := 1) hx hb dX6_restore_34 (by decide) ?_
    cases hF
    exact r_iret hx hb hr hlk hS () rfl hP hD dX6_restore_35
  · have hF := q_if_t (by first | exact c_3 | exact Classical.not_not.mp c_3) hF
    refine lv_bipush (v := (-2)) hx hb dX6_restore_9 (by decide) ?_
    cases hF
    exact r_iret hx hb hr hlk hS () rfl hP hD dX6_restore_11
set_option maxHeartbeats 4000000 in
set_option maxRecDepth 100000 in
theorem m_X6_image_1n (l : Launch) (g : GT) (sz : Nat) (qX : Nat) (AX : Nat → Nat) (QQ : Nat → Option Nat) (AC : Nat → Nat) (σC : qS) (hQ : QQ 1 = none) (rr : Int32) (σI' : qS) (hF : f_X6_image_1n σC = some (rr, σI')) : Mi (S := Nat × (Nat → Nat)) l yX6_image wsX6_image { frames := 2, cells := 8, slots := 189, locals := 101 } g sz [.ref qX, .int 1] (wX6 qX AX ++ wG g (AX 2) QQ ++ wX1 g (AX 0) AC σC) 8 189 (fun r_ _ => r_ = rr) (fun uI => wX6 qX AX ++ wG g (AX 2) (va_up QQ (1 : Int32).toNatClampNeg (some uI.1)) ++ wX1 g (AX 0) AC σC ++ wX1 g uI.1 uI.2 σI') := by
  refine gMet_i (cc := cX6_image) (maxL := 3) (ret := (some .int)) (by decide) rfl (Nat.le_of_ble_eq_true rfl) ?_
  intro p e s m args below meth c Z hx hb hr F hlk hnm hK hN hA H locs hP hD hS ls hl
  have hl : lv_has ls 3 [(0, .ref qX), (1, .int 1)] := hl
  have F : CallFix p m c cX6_image 3 s args wsX6_image RX6 := F
  have hts := F.2.2.2.2
  have hown : s.vm.findClass RX6 = some m.cls := F.2.2.2.1
  have hi1 : ∀ w ∈ u_ws RX1 TX1 12, w ∈ wsX6_image := by decide +kernel
  have hi6 : ∀ w ∈ u_ws RX6 TX6 8, w ∈ wsX6_image := by decide +kernel
  dsimp only [f_X6_image_1n] at hF
  refine lv_iload_n hx hb dX6_image_0 rfl (lv_at hl 1 rfl) ?_
  refine lv_iconst (v := 0) hx hb dX6_image_1 (by decide) ?_
  refine lv_iconst (v := 1) hx hb dX6_image_2 (by decide) ?_
  obtain ⟨r_1, h_2, hF⟩ := q_cl_s hF
  refine gcP (As := [.int 1, .int 0, .int 1]) (rest := []) F (m_X6_within l (1 : Int32) (0 : Int32) (1 : Int32) r_1 h_2) gX6_image_X6_within kX6_within rfl rfl rfl ⟨(Nat.le_of_ble_eq_true rfl), (Nat.le_of_ble_eq_true rfl)⟩ rfl rfl hl.1 (Nat.le_of_ble_eq_true rfl) dX6_image_3 ⟨(Nat.le_of_ble_eq_true rfl), (Nat.le_of_ble_eq_true rfl)⟩ ?_
  refine lv_if_ne (tgt := 12) hx hb dX6_image_6 (by decide) (fun c_3 => ?_) (fun c_3 => ?_)
  · have hF := q_if_f c_3 hF
    refine lv_aload_n hx hb dX6_image_12 rfl (lv_at hl 0 rfl) ?_
    refine va_get (D := g.1) (ci := 6) (v := .ref (AX 2)) (C := RX6) (T := TX6) (N := 8) hx hb hts hi6 hown hK hP 0 rfl rfl 2 (by decide) (hts (.fieldLink RX6 19 "PanTales" "images" "[LPanTales$Close;") (by decide +kernel)) (fun _ h9 => h9) rfl dX6_image_13 ?_
    refine lv_iload_n hx hb dX6_image_16 rfl (lv_at hl 1 rfl) ?_
    refine r_aald (v := .null) hx hb hK hP 1 rfl (vp_in_nI (n := 1) (by decide) (by decide)) (by rw [show (1 : Int32).toNatClampNeg = 1 from rfl, hQ]; rfl) dX6_image_17 ?_
    refine lv_astore_nN (lv' := [(2, .null), (0, .ref qX), (1, .int 1)]) hx hb dX6_image_18 rfl hl (by decide) rfl (fun ls hl => ?_)
    refine lv_aload_nN hx hb dX6_image_19 rfl (lv_at hl 0 rfl) ?_
    refine lv_ifnonnullN hx hb dX6_image_20 ?_
    refine va_new (D := g.1) (ci := 1) (fs := [.null, .null, .null, .null, .null, .null, .null, .int 0, .int 0, .int 0, .int 0, .int 0]) (C := RX1) (T := TX1) (N := 12) hx hb hts hi1 tyX1 tyX1_ok hown (hts (.classLink RX6 9 RX1) (by decide +kernel)) (hts (.instantiable RX1 12) (by decide +kernel)) (hts (.initialized RX1) (by decide +kernel)) hK hP hD hS hA rfl (by decide +kernel) (Nat.le_of_ble_eq_true rfl) (Nat.le_of_ble_eq_true rfl) dX6_image_23 (fun q_4 H hP hD hS => ?_)
    have hP : va_P g.1 vwCl (wX6 qX AX ++ wG g (AX 2) QQ ++ wX1 g (AX 0) AC σC ++ [(q_4, .inr (1, [.null, .null, .null, .null, .null, .null, .null, .int 0, .int 0, .int 0, .int 0, .int 0]))]) H := hP
    have hD : va_D Z (wX6 qX AX ++ wG g (AX 2) QQ ++ wX1 g (AX 0) AC σC ++ [(q_4, .inr (1, [.null, .null, .null, .null, .null, .null, .null, .int 0, .int 0, .int 0, .int 0, .int 0]))]) := hD
    refine W.widen (k := 1) (n := 12) (by decide) (by decide) ?_
    refine lv_dup hx hb dX6_image_26 rfl ?_
    refine gcI_v (As := []) (rest := [.ref q_4]) F hK hN hP hD hS hA (c_X1_init l g H.size q_4) gX6_image_X1_init kX1_init rfl (hts (.initialized RX1) (by decide +kernel)) (hts (.methodLink RX6 11 yX1_init) (by decide +kernel)) (hts (.instanceMethod yX1_init) (by decide +kernel)) rfl rfl rfl ⟨(Nat.le_of_ble_eq_true rfl), (Nat.le_of_ble_eq_true rfl)⟩ [10] [0, 1, 2, 3, 4, 5, 6, 7, 8, 9] rfl rfl rfl (by decide) rfl rfl rfl hl.1 (Nat.le_of_ble_eq_true rfl) dX6_image_27 ⟨(Nat.le_of_ble_eq_true rfl), (Nat.le_of_ble_eq_true rfl)⟩ (fun u_w H locs hw hP hD hS => ?_)
    obtain ⟨A_5, rfl⟩ : ∃ z, z = u_w := ⟨_, rfl⟩
    refine W.widen (k := 8) (n := 189) (by decide) (by decide) ?_
    have hP : va_P g.1 vwCl (wX6 qX AX ++ wG g (AX 2) QQ ++ wX1 g (AX 0) AC σC ++ wX1 g q_4 A_5 qC0) H := hP
    have hD : va_D Z (wX6 qX AX ++ wG g (AX 2) QQ ++ wX1 g (AX 0) AC σC ++ wX1 g q_4 A_5 qC0) := hD
    refine lv_astore_n (lv' := [(2, .ref q_4), (0, .ref qX), (1, .int 1)]) hx hb dX6_image_30 rfl hl (by decide) rfl (fun ls hl => ?_)
    refine lv_aload_n hx hb dX6_image_31 rfl (lv_at hl 1 rfl) ?_
    refine va_get (D := g.1) (ci := 6) (v := .ref (AX 2)) (C := RX6) (T := TX6) (N := 8) hx hb hts hi6 hown hK hP 0 rfl rfl 2 (by decide) (hts (.fieldLink RX6 19 "PanTales" "images" "[LPanTales$Close;") (by decide +kernel)) (fun _ h9 => h9) rfl dX6_image_32 ?_
    refine lv_iload_n hx hb dX6_image_35 rfl (lv_at hl 2 rfl) ?_
    refine lv_aload_n hx hb dX6_image_36 rfl (lv_at hl 0 rfl) ?_
    refine va_astq (D := g.1) (cl := vwCl) (r := (RX1, TX1, 12)) hx hb hK hP hD hS 1 3 10 1 rfl rfl rfl rfl (vp_in_nI (n := 1) (by decide) (by decide)) dX6_image_37 (fun H locs hP hD hS => ?_)
    have hP : va_P g.1 vwCl (wX6 qX AX ++ wG g (AX 2) (va_up QQ (1 : Int32).toNatClampNeg (some q_4)) ++ wX1 g (AX 0) AC σC ++ wX1 g q_4 A_5 qC0) H := hP
    have hD : va_D Z (wX6 qX AX ++ wG g (AX 2) (va_up QQ (1 : Int32).toNatClampNeg (some q_4)) ++ wX1 g (AX 0) AC σC ++ wX1 g q_4 A_5 qC0) := hD
    refine lv_aload_n hx hb dX6_image_38 rfl (lv_at hl 0 rfl) ?_
    refine lv_aload_n hx hb dX6_image_39 rfl (lv_at hl 1 rfl) ?_
    refine va_get (D := g.1) (ci := 6) (v := .ref (AX 0)) (C := RX6) (T := TX6) (N := 8) hx hb hts hi6 hown hK hP 0 rfl rfl 0 (by decide) (hts (.fieldLink RX6 12 "PanTales" "close" "LPanTales$Close;") (by decide +kernel)) (fun _ h9 => h9) rfl dX6_image_40 ?_
    obtain ⟨σI_6, h_7, hF⟩ := q_cl_s hF
    refine gcV_v (As := [.ref (AX 0)]) (rest := []) (ci := 1) (q := (RX1, TX1, 12)) F hK hN hP hD hS hA (m_X1_copyFrom l g H.size q_4 A_5 qC0 (AX 0) AC σC σI_6 h_7) gX6_image_X1_copyFrom kX1_copyFrom rfl rfl rfl rfl ⟨(Nat.le_of_ble_eq_true rfl), (Nat.le_of_ble_eq_true rfl)⟩ [10, 11, 12, 13, 14, 15, 16, 17, 2, 3, 4, 5, 6, 7, 8, 9] [0, 1] rfl rfl rfl (by decide) rfl rfl rfl rfl rfl hl.1 (Nat.le_of_ble_eq_true rfl) dX6_image_43 ⟨(Nat.le_of_ble_eq_true rfl), (Nat.le_of_ble_eq_true rfl)⟩ (fun u_w H locs hw hP hD hS => ?_)
    have hP : va_P g.1 vwCl (wX6 qX AX ++ wG g (AX 2) (va_up QQ (1 : Int32).toNatClampNeg (some q_4)) ++ wX1 g (AX 0) AC σC ++ wX1 g q_4 A_5 σI_6) H := hP.sub [0, 1, 10, 11, 12, 13, 14, 15, 16, 17, 2, 3, 4, 5, 6, 7, 8, 9] rfl
    have hD : va_D Z (wX6 qX AX ++ wG g (AX 2) (va_up QQ (1 : Int32).toNatClampNeg (some q_4)) ++ wX1 g (AX 0) AC σC ++ wX1 g q_4 A_5 σI_6) := hD.sub [0, 1, 10, 11, 12, 13, 14, 15, 16, 17, 2, 3, 4, 5, 6, 7, 8, 9] (by decide) rfl
    refine lv_iconst (v := 1) hx hb dX6_image_46 (by decide) ?_
    cases hF
    exact r_iret hx hb hr hlk hS (q_4, A_5) rfl hP hD dX6_image_47
  · have hF := q_if_t (by first | exact c_3 | exact Classical.not_not.mp c_3) hF
    refine lv_bipush (v := (-2)) hx hb dX6_image_9 (by decide) ?_
    cases hF
set_option maxHeartbeats 4000000 in
set_option maxRecDepth 100000 in
theorem m_X6_image_1s (l : Launch) (g : GT) (sz : Nat) (qX : Nat) (AX : Nat → Nat) (QQ : Nat → Option Nat) (AC : Nat → Nat) (σC : qS) (qI : Nat) (AI : Nat → Nat) (σI : qS) (hQ : QQ 1 = some qI) (rr : Int32) (σI' : qS) (hF : f_X6_image_1s σC σI = some (rr, σI')) : Ci l yX6_image wsX6_image { frames := 2, cells := 0, slots := 0, locals := 101 } g sz [.ref qX, .int 1] (wX6 qX AX ++ wG g (AX 2) QQ ++ wX1 g (AX 0) AC σC ++ wX1 g qI AI σI) rr (wX6 qX AX ++ wG g (AX 2) QQ ++ wX1 g (AX 0) AC σC ++ wX1 g qI AI σI') := by
  refine gMet_i (cc := cX6_image) (maxL := 3) (ret := (some .int)) (by decide) rfl (Nat.le_of_ble_eq_true rfl) ?_
  intro p e s m args below meth c Z hx hb hr F hlk hnm hK hN hA H locs hP hD hS ls hl
  have hl : lv_has ls 3 [(0, .ref qX), (1, .int 1)] := hl
  have F : CallFix p m c cX6_image 3 s args wsX6_image RX6 := F
  have hts := F.2.2.2.2
  have hown : s.vm.findClass RX6 = some m.cls := F.2.2.2.1
  have hi6 : ∀ w ∈ u_ws RX6 TX6 8, w ∈ wsX6_image := by decide +kernel
  dsimp only [f_X6_image_1s] at hF
  refine lv_iload_n hx hb dX6_image_0 rfl (lv_at hl 1 rfl) ?_
  refine lv_iconst (v := 0) hx hb dX6_image_1 (by decide) ?_
  refine lv_iconst (v := 1) hx hb dX6_image_2 (by decide) ?_
  obtain ⟨r_1, h_2, hF⟩ := q_cl_s hF
  refine gcP (As := [.int 1, .int 0, .int 1]) (rest := []) F (m_X6_within l (1 : Int32) (0 : Int32) (1 : Int32) r_1 h_2) gX6_image_X6_within kX6_within rfl rfl rfl ⟨(Nat.le_of_ble_eq_true rfl), (Nat.le_of_ble_eq_true rfl)⟩ rfl rfl hl.1 (Nat.le_of_ble_eq_true rfl) dX6_image_3 ⟨(Nat.le_of_ble_eq_true rfl), (Nat.le_of_ble_eq_true rfl)⟩ ?_
  refine lv_if_ne (tgt := 12) hx hb dX6_image_6 (by decide) (fun c_3 => ?_) (fun c_3 => ?_)
  · have hF := q_if_f c_3 hF
    refine lv_aload_n hx hb dX6_image_12 rfl (lv_at hl 0 rfl) ?_
    refine va_get (D := g.1) (ci := 6) (v := .ref (AX 2)) (C := RX6) (T := TX6) (N := 8) hx hb hts hi6 hown hK hP 0 rfl rfl 2 (by decide) (hts (.fieldLink RX6 19 "PanTales" "images" "[LPanTales$Close;") (by decide +kernel)) (fun _ h9 => h9) rfl dX6_image_13 ?_
    refine lv_iload_n hx hb dX6_image_16 rfl (lv_at hl 1 rfl) ?_
    refine r_aald (v := .ref qI) hx hb hK hP 1 rfl (vp_in_nI (n := 1) (by decide) (by decide)) (by rw [show (1 : Int32).toNatClampNeg = 1 from rfl, hQ]; rfl) dX6_image_17 ?_
    refine lv_astore_n (lv' := [(2, .ref qI), (0, .ref qX), (1, .int 1)]) hx hb dX6_image_18 rfl hl (by decide) rfl (fun ls hl => ?_)
    refine lv_aload_n hx hb dX6_image_19 rfl (lv_at hl 0 rfl) ?_
    refine lv_ifnonnull (tgt := 38) hx hb dX6_image_20 (by decide) ?_
    refine lv_aload_n hx hb dX6_image_38 rfl (lv_at hl 0 rfl) ?_
    refine lv_aload_n hx hb dX6_image_39 rfl (lv_at hl 1 rfl) ?_
    refine va_get (D := g.1) (ci := 6) (v := .ref (AX 0)) (C := RX6) (T := TX6) (N := 8) hx hb hts hi6 hown hK hP 0 rfl rfl 0 (by decide) (hts (.fieldLink RX6 12 "PanTales" "close" "LPanTales$Close;") (by decide +kernel)) (fun _ h9 => h9) rfl dX6_image_40 ?_
    obtain ⟨σI_4, h_5, hF⟩ := q_cl_s hF
    refine gcV_v (As := [.ref (AX 0)]) (rest := []) (ci := 1) (q := (RX1, TX1, 12)) F hK hN hP hD hS hA (m_X1_copyFrom l g H.size qI AI σI (AX 0) AC σC σI_4 h_5) gX6_image_X1_copyFrom kX1_copyFrom rfl rfl rfl rfl ⟨(Nat.le_of_ble_eq_true rfl), (Nat.le_of_ble_eq_true rfl)⟩ [10, 11, 12, 13, 14, 15, 16, 17, 2, 3, 4, 5, 6, 7, 8, 9] [0, 1] rfl rfl rfl (by decide) rfl rfl rfl rfl rfl hl.1 (Nat.le_of_ble_eq_true rfl) dX6_image_43 ⟨(Nat.le_of_ble_eq_true rfl), (Nat.le_of_ble_eq_true rfl)⟩ (fun u_w H locs hw hP hD hS => ?_)
    have hP : va_P g.1 vwCl (wX6 qX AX ++ wG g (AX 2) QQ ++ wX1 g (AX 0) AC σC ++ wX1 g qI AI σI_4) H := hP.sub [0, 1, 10, 11, 12, 13, 14, 15, 16, 17, 2, 3, 4, 5, 6, 7, 8, 9] rfl
    have hD : va_D Z (wX6 qX AX ++ wG g (AX 2) QQ ++ wX1 g (AX 0) AC σC ++ wX1 g qI AI σI_4) := hD.sub [0, 1, 10, 11, 12, 13, 14, 15, 16, 17, 2, 3, 4, 5, 6, 7, 8, 9] (by decide) rfl
    refine lv_iconst (v := 1) hx hb dX6_image_46 (by decide) ?_
    cases hF
    exact r_iret hx hb hr hlk hS () rfl hP hD dX6_image_47
  · have hF := q_if_t (by first | exact c_3 | exact Classical.not_not.mp c_3) hF
    refine lv_bipush (v := (-2)) hx hb dX6_image_9 (by decide) ?_
    cases hF
    exact r_iret hx hb hr hlk hS () rfl hP hD dX6_image_11
set_option maxHeartbeats 4000000 in
set_option maxRecDepth 100000 in
theorem m_X6_restore_1n (l : Launch) (g : GT) (sz : Nat) (qX : Nat) (AX : Nat → Nat) (QQ : Nat → Option Nat) (hQ : QQ 1 = none) (rr : Int32) (hF : f_X6_restore_1n = some rr) : Ci l yX6_restore wsX6_restore { frames := 1, cells := 0, slots := 0, locals := 22 } g sz [.ref qX, .int 1] (wX6 qX AX ++ wG g (AX 2) QQ) rr (wX6 qX AX ++ wG g (AX 2) QQ) := by
  refine gMet_i (cc := cX6_restore) (maxL := 3) (ret := (some .int)) (by decide) rfl (Nat.le_of_ble_eq_true rfl) ?_
  intro p e s m args below meth c Z hx hb hr F hlk hnm hK hN hA H locs hP hD hS ls hl
  have hl : lv_has ls 3 [(0, .ref qX), (1, .int 1)] := hl
  have F : CallFix p m c cX6_restore 3 s args wsX6_restore RX6 := F
  have hts := F.2.2.2.2
  have hown : s.vm.findClass RX6 = some m.cls := F.2.2.2.1
  have hi6 : ∀ w ∈ u_ws RX6 TX6 8, w ∈ wsX6_restore := by decide +kernel
  dsimp only [f_X6_restore_1n] at hF
  refine lv_iload_n hx hb dX6_restore_0 rfl (lv_at hl 1 rfl) ?_
  refine lv_iconst (v := 0) hx hb dX6_restore_1 (by decide) ?_
  refine lv_iconst (v := 1) hx hb dX6_restore_2 (by decide) ?_
  obtain ⟨r_1, h_2, hF⟩ := q_cl_s hF
  refine gcP (As := [.int 1, .int 0, .int 1]) (rest := []) F (m_X6_within l (1 : Int32) (0 : Int32) (1 : Int32) r_1 h_2) gX6_restore_X6_within kX6_within rfl rfl rfl ⟨(Nat.le_of_ble_eq_true rfl), (Nat.le_of_ble_eq_true rfl)⟩ rfl rfl hl.1 (Nat.le_of_ble_eq_true rfl) dX6_restore_3 ⟨(Nat.le_of_ble_eq_true rfl), (Nat.le_of_ble_eq_true rfl)⟩ ?_
  refine lv_if_ne (tgt := 12) hx hb dX6_restore_6 (by decide) (fun c_3 => ?_) (fun c_3 => ?_)
  · have hF := q_if_f c_3 hF
    refine lv_aload_n hx hb dX6_restore_12 rfl (lv_at hl 0 rfl) ?_
    refine va_get (D := g.1) (ci := 6) (v := .ref (AX 2)) (C := RX6) (T := TX6) (N := 8) hx hb hts hi6 hown hK hP 0 rfl rfl 2 (by decide) (hts (.fieldLink RX6 19 "PanTales" "images" "[LPanTales$Close;") (by decide +kernel)) (fun _ h9 => h9) rfl dX6_restore_13 ?_
    refine lv_iload_n hx hb dX6_restore_16 rfl (lv_at hl 1 rfl) ?_
    refine r_aald (v := .null) hx hb hK hP 1 rfl (vp_in_nI (n := 1) (by decide) (by decide)) (by rw [show (1 : Int32).toNatClampNeg = 1 from rfl, hQ]; rfl) dX6_restore_17 ?_
    refine lv_astore_nN (lv' := [(2, .null), (0, .ref qX), (1, .int 1)]) hx hb dX6_restore_18 rfl hl (by decide) rfl (fun ls hl => ?_)
    refine lv_aload_nN hx hb dX6_restore_19 rfl (lv_at hl 0 rfl) ?_
    refine lv_ifnonnullN hx hb dX6_restore_20 ?_
    refine lv_bipush (v := (-3)) hx hb dX6_restore_23 (by decide) ?_
    cases hF
    exact r_iret hx hb hr hlk hS () rfl hP hD dX6_restore_25
  · have hF := q_if_t (by first | exact c_3 | exact Classical.not_not.mp c_3) hF
    refine lv_bipush (v := (-2)) hx hb dX6_restore_9 (by decide) ?_
    cases hF
    exact r_iret hx hb hr hlk hS () rfl hP hD dX6_restore_11
set_option maxHeartbeats 4000000 in
set_option maxRecDepth 100000 in
theorem m_X6_restore_1s (l : Launch) (g : GT) (sz : Nat) (qX : Nat) (AX : Nat → Nat) (QQ : Nat → Option Nat) (AC : Nat → Nat) (σC : qS) (qI : Nat) (AI : Nat → Nat) (σI : qS) (hQ : QQ 1 = some qI) (rr : Int32) (σC' : qS) (hF : f_X6_restore_1s σC σI = some (rr, σC')) : Ci l yX6_restore wsX6_restore { frames := 2, cells := 0, slots := 0, locals := 101 } g sz [.ref qX, .int 1] (wX6 qX AX ++ wG g (AX 2) QQ ++ wX1 g (AX 0) AC σC ++ wX1 g qI AI σI) rr (wX6 qX AX ++ wG g (AX 2) QQ ++ wX1 g (AX 0) AC σC' ++ wX1 g qI AI σI) := by
  refine gMet_i (cc := cX6_restore) (maxL := 3) (ret := (some .int)) (by decide) rfl (Nat.le_of_ble_eq_true rfl) ?_
  intro p e s m args below meth c Z hx hb hr F hlk hnm hK hN hA H locs hP hD hS ls hl
  have hl : lv_has ls 3 [(0, .ref qX), (1, .int 1)] := hl
  have F : CallFix p m c cX6_restore 3 s args wsX6_restore RX6 := F
  have hts := F.2.2.2.2
  have hown : s.vm.findClass RX6 = some m.cls := F.2.2.2.1
  have hi6 : ∀ w ∈ u_ws RX6 TX6 8, w ∈ wsX6_restore := by decide +kernel
  dsimp only [f_X6_restore_1s] at hF
  refine lv_iload_n hx hb dX6_restore_0 rfl (lv_at hl 1 rfl) ?_
  refine lv_iconst (v := 0) hx hb dX6_restore_1 (by decide) ?_
  refine lv_iconst (v := 1) hx hb dX6_restore_2 (by decide) ?_
  obtain ⟨r_1, h_2, hF⟩ := q_cl_s hF
  refine gcP (As := [.int 1, .int 0, .int 1]) (rest := []) F (m_X6_within l (1 : Int32) (0 : Int32) (1 : Int32) r_1 h_2) gX6_restore_X6_within kX6_within rfl rfl rfl ⟨(Nat.le_of_ble_eq_true rfl), (Nat.le_of_ble_eq_true rfl)⟩ rfl rfl hl.1 (Nat.le_of_ble_eq_true rfl) dX6_restore_3 ⟨(Nat.le_of_ble_eq_true rfl), (Nat.le_of_ble_eq_true rfl)⟩ ?_
  refine lv_if_ne (tgt := 12) hx hb dX6_restore_6 (by decide) (fun c_3 => ?_) (fun c_3 => ?_)
  · have hF := q_if_f c_3 hF
    refine lv_aload_n hx hb dX6_restore_12 rfl (lv_at hl 0 rfl) ?_
    refine va_get (D := g.1) (ci := 6) (v := .ref (AX 2)) (C := RX6) (T := TX6) (N := 8) hx hb hts hi6 hown hK hP 0 rfl rfl 2 (by decide) (hts (.fieldLink RX6 19 "PanTales" "images" "[LPanTales$Close;") (by decide +kernel)) (fun _ h9 => h9) rfl dX6_restore_13 ?_
    refine lv_iload_n hx hb dX6_restore_16 rfl (lv_at hl 1 rfl) ?_
    refine r_aald (v := .ref qI) hx hb hK hP 1 rfl (vp_in_nI (n := 1) (by decide) (by decide)) (by rw [show (1 : Int32).toNatClampNeg = 1 from rfl, hQ]; rfl) dX6_restore_17 ?_
    refine lv_astore_n (lv' := [(2, .ref qI), (0, .ref qX), (1, .int 1)]) hx hb dX6_restore_18 rfl hl (by decide) rfl (fun ls hl => ?_)
    refine lv_aload_n hx hb dX6_restore_19 rfl (lv_at hl 0 rfl) ?_
    refine lv_ifnonnull (tgt := 26) hx hb dX6_restore_20 (by decide) ?_
    refine lv_aload_n hx hb dX6_restore_26 rfl (lv_at hl 1 rfl) ?_
    refine va_get (D := g.1) (ci := 6) (v := .ref (AX 0)) (C := RX6) (T := TX6) (N := 8) hx hb hts hi6 hown hK hP 0 rfl rfl 0 (by decide) (hts (.fieldLink RX6 12 "PanTales" "close" "LPanTales$Close;") (by decide +kernel)) (fun _ h9 => h9) rfl dX6_restore_27 ?_
    refine lv_aload_n hx hb dX6_restore_30 rfl (lv_at hl 0 rfl) ?_
    obtain ⟨σC_4, h_5, hF⟩ := q_cl_s hF
    refine gcV_v (As := [.ref qI]) (rest := []) (ci := 1) (q := (RX1, TX1, 12)) F hK hN hP hD hS hA (m_X1_copyFrom l g H.size (AX 0) AC σC qI AI σI σC_4 h_5) gX6_restore_X1_copyFrom kX1_copyFrom rfl rfl rfl rfl ⟨(Nat.le_of_ble_eq_true rfl), (Nat.le_of_ble_eq_true rfl)⟩ [2, 3, 4, 5, 6, 7, 8, 9, 10, 11, 12, 13, 14, 15, 16, 17] [0, 1] rfl rfl rfl (by decide) rfl rfl rfl rfl rfl hl.1 (Nat.le_of_ble_eq_true rfl) dX6_restore_31 ⟨(Nat.le_of_ble_eq_true rfl), (Nat.le_of_ble_eq_true rfl)⟩ (fun u_w H locs hw hP hD hS => ?_)
    have hP : va_P g.1 vwCl (wX6 qX AX ++ wG g (AX 2) QQ ++ wX1 g (AX 0) AC σC_4 ++ wX1 g qI AI σI) H := hP
    have hD : va_D Z (wX6 qX AX ++ wG g (AX 2) QQ ++ wX1 g (AX 0) AC σC_4 ++ wX1 g qI AI σI) := hD
    refine lv_iconst (v := 1) hx hb dX6_restore_34 (by decide) ?_
    cases hF
    exact r_iret hx hb hr hlk hS () rfl hP hD dX6_restore_35
  · have hF := q_if_t (by first | exact c_3 | exact Classical.not_not.mp c_3) hF
    refine lv_bipush (v := (-2)) hx hb dX6_restore_9 (by decide) ?_
    cases hF
    exact r_iret hx hb hr hlk hS () rfl hP hD dX6_restore_11
set_option maxHeartbeats 4000000 in
set_option maxRecDepth 100000 in
theorem m_X6_image_x (l : Launch) (g : GT) (sz : Nat) (qX : Nat) (AX : Nat → Nat) (QQ : Nat → Option Nat) (a1 : Int32) (rr : Int32) (hF : f_X6_image_x a1 = some rr) : Ci l yX6_image wsX6_image { frames := 1, cells := 0, slots := 0, locals := 22 } g sz [.ref qX, .int a1] (wX6 qX AX ++ wG g (AX 2) QQ) rr (wX6 qX AX ++ wG g (AX 2) QQ) := by
  refine gMet_i (cc := cX6_image) (maxL := 3) (ret := (some .int)) (by decide) rfl (Nat.le_of_ble_eq_true rfl) ?_
  intro p e s m args below meth c Z hx hb hr F hlk hnm hK hN hA H locs hP hD hS ls hl
  have hl : lv_has ls 3 [(0, .ref qX), (1, .int a1)] := hl
  have F : CallFix p m c cX6_image 3 s args wsX6_image RX6 := F
  have hts := F.2.2.2.2
  have hown : s.vm.findClass RX6 = some m.cls := F.2.2.2.1
  have hi6 : ∀ w ∈ u_ws RX6 TX6 8, w ∈ wsX6_image := by decide +kernel
  dsimp only [f_X6_image_x] at hF
  refine lv_iload_n hx hb dX6_image_0 rfl (lv_at hl 1 rfl) ?_
  refine lv_iconst (v := 0) hx hb dX6_image_1 (by decide) ?_
  refine lv_iconst (v := 1) hx hb dX6_image_2 (by decide) ?_
  obtain ⟨r_1, h_2, hF⟩ := q_cl_s hF
  refine gcP (As := [.int a1, .int 0, .int 1]) (rest := []) F (m_X6_within l a1 (0 : Int32) (1 : Int32) r_1 h_2) gX6_image_X6_within kX6_within rfl rfl rfl ⟨(Nat.le_of_ble_eq_true rfl), (Nat.le_of_ble_eq_true rfl)⟩ rfl rfl hl.1 (Nat.le_of_ble_eq_true rfl) dX6_image_3 ⟨(Nat.le_of_ble_eq_true rfl), (Nat.le_of_ble_eq_true rfl)⟩ ?_
  refine lv_if_ne (tgt := 12) hx hb dX6_image_6 (by decide) (fun c_3 => ?_) (fun c_3 => ?_)
  · have hF := q_if_f c_3 hF
    refine lv_aload_n hx hb dX6_image_12 rfl (lv_at hl 0 rfl) ?_
    refine va_get (D := g.1) (ci := 6) (v := .ref (AX 2)) (C := RX6) (T := TX6) (N := 8) hx hb hts hi6 hown hK hP 0 rfl rfl 2 (by decide) (hts (.fieldLink RX6 19 "PanTales" "images" "[LPanTales$Close;") (by decide +kernel)) (fun _ h9 => h9) rfl dX6_image_13 ?_
    refine lv_iload_n hx hb dX6_image_16 rfl (lv_at hl 1 rfl) ?_
    cases hF
  · have hF := q_if_t (by first | exact c_3 | exact Classical.not_not.mp c_3) hF
    refine lv_bipush (v := (-2)) hx hb dX6_image_9 (by decide) ?_
    cases hF
    exact r_iret hx hb hr hlk hS () rfl hP hD dX6_image_11
set_option maxHeartbeats 4000000 in
set_option maxRecDepth 100000 in
theorem m_X6_restore_x (l : Launch) (g : GT) (sz : Nat) (qX : Nat) (AX : Nat → Nat) (QQ : Nat → Option Nat) (a1 : Int32) (rr : Int32) (hF : f_X6_restore_x a1 = some rr) : Ci l yX6_restore wsX6_restore { frames := 1, cells := 0, slots := 0, locals := 22 } g sz [.ref qX, .int a1] (wX6 qX AX ++ wG g (AX 2) QQ) rr (wX6 qX AX ++ wG g (AX 2) QQ) := by
  refine gMet_i (cc := cX6_restore) (maxL := 3) (ret := (some .int)) (by decide) rfl (Nat.le_of_ble_eq_true rfl) ?_
  intro p e s m args below meth c Z hx hb hr F hlk hnm hK hN hA H locs hP hD hS ls hl
  have hl : lv_has ls 3 [(0, .ref qX), (1, .int a1)] := hl
  have F : CallFix p m c cX6_restore 3 s args wsX6_restore RX6 := F
  have hts := F.2.2.2.2
  have hown : s.vm.findClass RX6 = some m.cls := F.2.2.2.1
  have hi6 : ∀ w ∈ u_ws RX6 TX6 8, w ∈ wsX6_restore := by decide +kernel
  dsimp only [f_X6_restore_x] at hF
  refine lv_iload_n hx hb dX6_restore_0 rfl (lv_at hl 1 rfl) ?_
  refine lv_iconst (v := 0) hx hb dX6_restore_1 (by decide) ?_
  refine lv_iconst (v := 1) hx hb dX6_restore_2 (by decide) ?_
  obtain ⟨r_1, h_2, hF⟩ := q_cl_s hF
  refine gcP (As := [.int a1, .int 0, .int 1]) (rest := []) F (m_X6_within l a1 (0 : Int32) (1 : Int32) r_1 h_2) gX6_restore_X6_within kX6_within rfl rfl rfl ⟨(Nat.le_of_ble_eq_true rfl), (Nat.le_of_ble_eq_true rfl)⟩ rfl rfl hl.1 (Nat.le_of_ble_eq_true rfl) dX6_restore_3 ⟨(Nat.le_of_ble_eq_true rfl), (Nat.le_of_ble_eq_true rfl)⟩ ?_
  refine lv_if_ne (tgt := 12) hx hb dX6_restore_6 (by decide) (fun c_3 => ?_) (fun c_3 => ?_)
  · have hF := q_if_f c_3 hF
    refine lv_aload_n hx hb dX6_restore_12 rfl (lv_at hl 0 rfl) ?_
    refine va_get (D := g.1) (ci := 6) (v := .ref (AX 2)) (C := RX6) (T := TX6) (N := 8) hx hb hts hi6 hown hK hP 0 rfl rfl 2 (by decide) (hts (.fieldLink RX6 19 "PanTales" "images" "[LPanTales$Close;") (by decide +kernel)) (fun _ h9 => h9) rfl dX6_restore_13 ?_
    refine lv_iload_n hx hb dX6_restore_16 rfl (lv_at hl 1 rfl) ?_
    cases hF
  · have hF := q_if_t (by first | exact c_3 | exact Classical.not_not.mp c_3) hF
    refine lv_bipush (v := (-2)) hx hb dX6_restore_9 (by decide) ?_
    cases hF
    exact r_iret hx hb hr hlk hS () rfl hP hD dX6_restore_11

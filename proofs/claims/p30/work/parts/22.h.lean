theorem kX6_road : YOk yX6_road 3 := by decide +kernel
theorem kX6_house : YOk yX6_house 3 := by decide +kernel
theorem kX6_tell : YOk yX6_tell 2 := by decide +kernel
theorem kX6_fade : YOk yX6_fade 2 := by decide +kernel
theorem kX6_say : YOk yX6_say 1 := by decide +kernel
theorem kX6_wipe : YOk yX6_wipe 0 := by decide +kernel
theorem kX6_judge : YOk yX6_judge 1 := by decide +kernel
theorem kX6_behind : YOk yX6_behind 2 := by decide +kernel
theorem kX6_pan : YOk yX6_pan 1 := by decide +kernel
theorem kX6_holds : YOk yX6_holds 1 := by decide +kernel
theorem kX6_other : YOk yX6_other 1 := by decide +kernel
theorem kX6_done : YOk yX6_done 0 := by decide +kernel
theorem kX6_near : YOk yX6_near 3 := by decide +kernel
theorem kX6_keep : YOk yX6_keep 2 := by decide +kernel
theorem kX6_faded : YOk yX6_faded 2 := by decide +kernel
theorem kX6_seen : YOk yX6_seen 2 := by decide +kernel
theorem kX6_forget : YOk yX6_forget 0 := by decide +kernel
theorem kX6_fits : YOk yX6_fits 1 := by decide +kernel
theorem kX6_ask : YOk yX6_ask 1 := by decide +kernel
theorem kX6_embers : YOk yX6_embers 2 := by decide +kernel
theorem kX6_told : YOk yX6_told 1 := by decide +kernel
set_option maxHeartbeats 4000000 in
set_option maxRecDepth 100000 in
theorem m_X6_road (l : Launch) (g : GT) (sz : Nat) (qX : Nat) (AX : Nat → Nat) (AC : Nat → Nat) (σC : qS) (a1 : Int32) (a2 : Int32) (a3 : Int32) (rr : Int32) (σC' : qS) (hF : f_X6_road σC a1 a2 a3 = some (rr, σC')) : Ci l yX6_road wsX6_road { frames := 2, cells := 0, slots := 0, locals := 43 } g sz [.ref qX, .int a1, .int a2, .int a3] (wX6 qX AX ++ wX1 g (AX 0) AC σC) rr (wX6 qX AX ++ wX1 g (AX 0) AC σC') := by
  refine gMet_i (cc := cX6_road) (maxL := 5) (ret := (some .int)) (by decide) rfl (Nat.le_of_ble_eq_true rfl) ?_
  intro p e s m args below meth c Z hx hb hr F hlk hnm hK hN hA H locs hP hD hS ls hl
  have hl : lv_has ls 5 [(0, .ref qX), (1, .int a1), (2, .int a2), (3, .int a3)] := hl
  have F : CallFix p m c cX6_road 5 s args wsX6_road RX6 := F
  have hts := F.2.2.2.2
  have hown : s.vm.findClass RX6 = some m.cls := F.2.2.2.1
  have hi6 : ∀ w ∈ u_ws RX6 TX6 8, w ∈ wsX6_road := by decide +kernel
  dsimp only [f_X6_road] at hF
  refine lv_iload_n hx hb dX6_road_0 rfl (lv_at hl 1 rfl) ?_
  obtain ⟨r_1, h_2, hF⟩ := q_cl_s hF
  refine gcP (As := [.int a1]) (rest := []) F (m_X6_isPlace l a1 r_1 h_2) gX6_road_X6_isPlace kX6_isPlace rfl rfl rfl ⟨(Nat.le_of_ble_eq_true rfl), (Nat.le_of_ble_eq_true rfl)⟩ rfl rfl hl.1 (Nat.le_of_ble_eq_true rfl) dX6_road_1 ⟨(Nat.le_of_ble_eq_true rfl), (Nat.le_of_ble_eq_true rfl)⟩ ?_
  refine lv_if_eq (tgt := 19) hx hb dX6_road_4 (by decide) (fun c_3 => ?_) (fun c_3 => ?_)
  · have hF := q_if_t c_3 hF
    refine lv_iconst (v := (-1)) hx hb dX6_road_19 (by decide) ?_
    cases hF
    exact r_iret hx hb hr hlk hS () rfl hP hD dX6_road_20
  · have hF := q_if_f c_3 hF
    refine lv_iload_n hx hb dX6_road_7 rfl (lv_at hl 2 rfl) ?_
    obtain ⟨r_4, h_5, hF⟩ := q_cl_s hF
    refine gcP (As := [.int a2]) (rest := []) F (m_X6_isPlace l a2 r_4 h_5) gX6_road_X6_isPlace kX6_isPlace rfl rfl rfl ⟨(Nat.le_of_ble_eq_true rfl), (Nat.le_of_ble_eq_true rfl)⟩ rfl rfl hl.1 (Nat.le_of_ble_eq_true rfl) dX6_road_8 ⟨(Nat.le_of_ble_eq_true rfl), (Nat.le_of_ble_eq_true rfl)⟩ ?_
    refine lv_if_eq (tgt := 19) hx hb dX6_road_11 (by decide) (fun c_6 => ?_) (fun c_6 => ?_)
    · have hF := q_if_t c_6 hF
      refine lv_iconst (v := (-1)) hx hb dX6_road_19 (by decide) ?_
      cases hF
      exact r_iret hx hb hr hlk hS () rfl hP hD dX6_road_20
    · have hF := q_if_f c_6 hF
      refine lv_iload_n hx hb dX6_road_14 rfl (lv_at hl 1 rfl) ?_
      refine lv_iload_n hx hb dX6_road_15 rfl (lv_at hl 2 rfl) ?_
      refine lv_icmp_ne (tgt := 21) hx hb dX6_road_16 (by decide) (fun c_7 => ?_) (fun c_7 => ?_)
      · have hF := q_if_f c_7 hF
        refine lv_iload_n hx hb dX6_road_21 rfl (lv_at hl 3 rfl) ?_
        refine lv_iconst (v := 0) hx hb dX6_road_22 (by decide) ?_
        refine lv_bipush (v := 9) hx hb dX6_road_23 (by decide) ?_
        obtain ⟨r_8, h_9, hF⟩ := q_cl_s hF
        refine gcP (As := [.int a3, .int 0, .int 9]) (rest := []) F (m_X6_within l a3 (0 : Int32) (9 : Int32) r_8 h_9) gX6_road_X6_within kX6_within rfl rfl rfl ⟨(Nat.le_of_ble_eq_true rfl), (Nat.le_of_ble_eq_true rfl)⟩ rfl rfl hl.1 (Nat.le_of_ble_eq_true rfl) dX6_road_25 ⟨(Nat.le_of_ble_eq_true rfl), (Nat.le_of_ble_eq_true rfl)⟩ ?_
        refine lv_if_ne (tgt := 34) hx hb dX6_road_28 (by decide) (fun c_10 => ?_) (fun c_10 => ?_)
        · have hF := q_if_f c_10 hF
          refine lv_aload_n hx hb dX6_road_34 rfl (lv_at hl 0 rfl) ?_
          refine va_get (D := g.1) (ci := 6) (v := .ref (AX 0)) (C := RX6) (T := TX6) (N := 8) hx hb hts hi6 hown hK hP 0 rfl rfl 0 (by decide) (hts (.fieldLink RX6 12 "PanTales" "close" "LPanTales$Close;") (by decide +kernel)) (fun _ h9 => h9) rfl dX6_road_35 ?_
          refine lv_iload_n hx hb dX6_road_38 rfl (lv_at hl 1 rfl) ?_
          refine lv_iload_n hx hb dX6_road_39 rfl (lv_at hl 2 rfl) ?_
          obtain ⟨r_11, h_12, hF⟩ := q_cl_s hF
          refine gcV_i (As := [.int a1, .int a2]) (rest := []) (ci := 1) (q := (RX1, TX1, 12)) F hK hN hP hD hS hA (m_X1_longBetween l g H.size (AX 0) AC σC a1 a2 r_11 h_12) gX6_road_X1_longBetween kX1_longBetween rfl rfl rfl rfl ⟨(Nat.le_of_ble_eq_true rfl), (Nat.le_of_ble_eq_true rfl)⟩ [1, 2, 3, 4, 5, 6, 7, 8] [0] rfl rfl rfl (by decide) rfl rfl rfl rfl rfl hl.1 (Nat.le_of_ble_eq_true rfl) dX6_road_40 ⟨(Nat.le_of_ble_eq_true rfl), (Nat.le_of_ble_eq_true rfl)⟩ (fun r_w u_w H locs hw hP hD hS => ?_)
          have hP : va_P g.1 vwCl (wX6 qX AX ++ wX1 g (AX 0) AC σC) H := hP
          have hD : va_D Z (wX6 qX AX ++ wX1 g (AX 0) AC σC) := hD
          obtain rfl : r_11 = r_w := hw.symm
          refine lv_istore (lv' := [(4, .int r_11), (0, .ref qX), (1, .int a1), (2, .int a2), (3, .int a3)]) hx hb dX6_road_43 hl (by decide) rfl (fun ls hl => ?_)
          refine lv_aload_n hx hb dX6_road_45 rfl (lv_at hl 1 rfl) ?_
          refine va_get (D := g.1) (ci := 6) (v := .ref (AX 0)) (C := RX6) (T := TX6) (N := 8) hx hb hts hi6 hown hK hP 0 rfl rfl 0 (by decide) (hts (.fieldLink RX6 12 "PanTales" "close" "LPanTales$Close;") (by decide +kernel)) (fun _ h9 => h9) rfl dX6_road_46 ?_
          refine lv_iload_n hx hb dX6_road_49 rfl (lv_at hl 2 rfl) ?_
          refine lv_iload_n hx hb dX6_road_50 rfl (lv_at hl 3 rfl) ?_
          refine lv_iload_n hx hb dX6_road_51 rfl (lv_at hl 4 rfl) ?_
          obtain ⟨σC_13, h_14, hF⟩ := q_cl_s hF
          refine gcV_v (As := [.int a1, .int a2, .int a3]) (rest := []) (ci := 1) (q := (RX1, TX1, 12)) F hK hN hP hD hS hA (m_X1_layRoad l g H.size (AX 0) AC σC a1 a2 a3 σC_13 h_14) gX6_road_X1_layRoad kX1_layRoad rfl rfl rfl rfl ⟨(Nat.le_of_ble_eq_true rfl), (Nat.le_of_ble_eq_true rfl)⟩ [1, 2, 3, 4, 5, 6, 7, 8] [0] rfl rfl rfl (by decide) rfl rfl rfl rfl rfl hl.1 (Nat.le_of_ble_eq_true rfl) dX6_road_52 ⟨(Nat.le_of_ble_eq_true rfl), (Nat.le_of_ble_eq_true rfl)⟩ (fun u_w H locs hw hP hD hS => ?_)
          have hP : va_P g.1 vwCl (wX6 qX AX ++ wX1 g (AX 0) AC σC_13) H := hP
          have hD : va_D Z (wX6 qX AX ++ wX1 g (AX 0) AC σC_13) := hD
          refine lv_iload hx hb dX6_road_55 (lv_at hl 0 rfl) ?_
          cases hF
          exact r_iret hx hb hr hlk hS () rfl hP hD dX6_road_57
        · have hF := q_if_t (by first | exact c_10 | exact Classical.not_not.mp c_10) hF
          refine lv_bipush (v := (-2)) hx hb dX6_road_31 (by decide) ?_
          cases hF
          exact r_iret hx hb hr hlk hS () rfl hP hD dX6_road_33
      · have hF := q_if_t (by first | exact c_7 | exact Classical.not_not.mp c_7) hF
        refine lv_iconst (v := (-1)) hx hb dX6_road_19 (by decide) ?_
        cases hF
        exact r_iret hx hb hr hlk hS () rfl hP hD dX6_road_20
set_option maxHeartbeats 4000000 in
set_option maxRecDepth 100000 in
theorem m_X6_house (l : Launch) (g : GT) (sz : Nat) (qX : Nat) (AX : Nat → Nat) (AC : Nat → Nat) (σC : qS) (a1 : Int32) (a2 : Int32) (a3 : Int32) (rr : Int32) (σC' : qS) (hF : f_X6_house σC a1 a2 a3 = some (rr, σC')) : Ci l yX6_house wsX6_house { frames := 2, cells := 0, slots := 0, locals := 43 } g sz [.ref qX, .int a1, .int a2, .int a3] (wX6 qX AX ++ wX1 g (AX 0) AC σC) rr (wX6 qX AX ++ wX1 g (AX 0) AC σC') := by
  refine gMet_i (cc := cX6_house) (maxL := 5) (ret := (some .int)) (by decide) rfl (Nat.le_of_ble_eq_true rfl) ?_
  intro p e s m args below meth c Z hx hb hr F hlk hnm hK hN hA H locs hP hD hS ls hl
  have hl : lv_has ls 5 [(0, .ref qX), (1, .int a1), (2, .int a2), (3, .int a3)] := hl
  have F : CallFix p m c cX6_house 5 s args wsX6_house RX6 := F
  have hts := F.2.2.2.2
  have hown : s.vm.findClass RX6 = some m.cls := F.2.2.2.1
  have hi6 : ∀ w ∈ u_ws RX6 TX6 8, w ∈ wsX6_house := by decide +kernel
  dsimp only [f_X6_house] at hF
  refine lv_iload_n hx hb dX6_house_0 rfl (lv_at hl 1 rfl) ?_
  obtain ⟨r_1, h_2, hF⟩ := q_cl_s hF
  refine gcP (As := [.int a1]) (rest := []) F (m_X6_isHouse l a1 r_1 h_2) gX6_house_X6_isHouse kX6_isHouse rfl rfl rfl ⟨(Nat.le_of_ble_eq_true rfl), (Nat.le_of_ble_eq_true rfl)⟩ rfl rfl hl.1 (Nat.le_of_ble_eq_true rfl) dX6_house_1 ⟨(Nat.le_of_ble_eq_true rfl), (Nat.le_of_ble_eq_true rfl)⟩ ?_
  refine lv_if_ne (tgt := 9) hx hb dX6_house_4 (by decide) (fun c_3 => ?_) (fun c_3 => ?_)
  · have hF := q_if_f c_3 hF
    refine lv_iload_n hx hb dX6_house_9 rfl (lv_at hl 2 rfl) ?_
    refine lv_iconst (v := 0) hx hb dX6_house_10 (by decide) ?_
    refine lv_bipush (v := 9) hx hb dX6_house_11 (by decide) ?_
    obtain ⟨r_4, h_5, hF⟩ := q_cl_s hF
    refine gcP (As := [.int a2, .int 0, .int 9]) (rest := []) F (m_X6_within l a2 (0 : Int32) (9 : Int32) r_4 h_5) gX6_house_X6_within kX6_within rfl rfl rfl ⟨(Nat.le_of_ble_eq_true rfl), (Nat.le_of_ble_eq_true rfl)⟩ rfl rfl hl.1 (Nat.le_of_ble_eq_true rfl) dX6_house_13 ⟨(Nat.le_of_ble_eq_true rfl), (Nat.le_of_ble_eq_true rfl)⟩ ?_
    refine lv_if_eq (tgt := 28) hx hb dX6_house_16 (by decide) (fun c_6 => ?_) (fun c_6 => ?_)
    · have hF := q_if_t c_6 hF
      refine lv_bipush (v := (-2)) hx hb dX6_house_28 (by decide) ?_
      cases hF
      exact r_iret hx hb hr hlk hS () rfl hP hD dX6_house_30
    · have hF := q_if_f c_6 hF
      refine lv_iload_n hx hb dX6_house_19 rfl (lv_at hl 3 rfl) ?_
      refine lv_iconst (v := 0) hx hb dX6_house_20 (by decide) ?_
      refine lv_iconst (v := 1) hx hb dX6_house_21 (by decide) ?_
      obtain ⟨r_7, h_8, hF⟩ := q_cl_s hF
      refine gcP (As := [.int a3, .int 0, .int 1]) (rest := []) F (m_X6_within l a3 (0 : Int32) (1 : Int32) r_7 h_8) gX6_house_X6_within kX6_within rfl rfl rfl ⟨(Nat.le_of_ble_eq_true rfl), (Nat.le_of_ble_eq_true rfl)⟩ rfl rfl hl.1 (Nat.le_of_ble_eq_true rfl) dX6_house_22 ⟨(Nat.le_of_ble_eq_true rfl), (Nat.le_of_ble_eq_true rfl)⟩ ?_
      refine lv_if_ne (tgt := 31) hx hb dX6_house_25 (by decide) (fun c_9 => ?_) (fun c_9 => ?_)
      · have hF := q_if_f c_9 hF
        refine lv_aload_n hx hb dX6_house_31 rfl (lv_at hl 0 rfl) ?_
        refine va_get (D := g.1) (ci := 6) (v := .ref (AX 0)) (C := RX6) (T := TX6) (N := 8) hx hb hts hi6 hown hK hP 0 rfl rfl 0 (by decide) (hts (.fieldLink RX6 12 "PanTales" "close" "LPanTales$Close;") (by decide +kernel)) (fun _ h9 => h9) rfl dX6_house_32 ?_
        refine lv_iload_n hx hb dX6_house_35 rfl (lv_at hl 1 rfl) ?_
        obtain ⟨r_10, h_11, hF⟩ := q_cl_s hF
        refine gcV_i (As := [.int a1]) (rest := []) (ci := 1) (q := (RX1, TX1, 12)) F hK hN hP hD hS hA (m_X1_doubtOf l g H.size (AX 0) AC σC a1 r_10 h_11) gX6_house_X1_doubtOf kX1_doubtOf rfl rfl rfl rfl ⟨(Nat.le_of_ble_eq_true rfl), (Nat.le_of_ble_eq_true rfl)⟩ [1, 2, 3, 4, 5, 6, 7, 8] [0] rfl rfl rfl (by decide) rfl rfl rfl rfl rfl hl.1 (Nat.le_of_ble_eq_true rfl) dX6_house_36 ⟨(Nat.le_of_ble_eq_true rfl), (Nat.le_of_ble_eq_true rfl)⟩ (fun r_w u_w H locs hw hP hD hS => ?_)
        have hP : va_P g.1 vwCl (wX6 qX AX ++ wX1 g (AX 0) AC σC) H := hP
        have hD : va_D Z (wX6 qX AX ++ wX1 g (AX 0) AC σC) := hD
        obtain rfl : r_10 = r_w := hw.symm
        refine lv_istore (lv' := [(4, .int r_10), (0, .ref qX), (1, .int a1), (2, .int a2), (3, .int a3)]) hx hb dX6_house_39 hl (by decide) rfl (fun ls hl => ?_)
        refine lv_aload_n hx hb dX6_house_41 rfl (lv_at hl 1 rfl) ?_
        refine va_get (D := g.1) (ci := 6) (v := .ref (AX 0)) (C := RX6) (T := TX6) (N := 8) hx hb hts hi6 hown hK hP 0 rfl rfl 0 (by decide) (hts (.fieldLink RX6 12 "PanTales" "close" "LPanTales$Close;") (by decide +kernel)) (fun _ h9 => h9) rfl dX6_house_42 ?_
        refine lv_iload_n hx hb dX6_house_45 rfl (lv_at hl 2 rfl) ?_
        refine lv_iload_n hx hb dX6_house_46 rfl (lv_at hl 3 rfl) ?_
        refine lv_iload_n hx hb dX6_house_47 rfl (lv_at hl 4 rfl) ?_
        obtain ⟨σC_12, h_13, hF⟩ := q_cl_s hF
        refine gcV_v (As := [.int a1, .int a2, .int a3]) (rest := []) (ci := 1) (q := (RX1, TX1, 12)) F hK hN hP hD hS hA (m_X1_furnish l g H.size (AX 0) AC σC a1 a2 a3 σC_12 h_13) gX6_house_X1_furnish kX1_furnish rfl rfl rfl rfl ⟨(Nat.le_of_ble_eq_true rfl), (Nat.le_of_ble_eq_true rfl)⟩ [1, 2, 3, 4, 5, 6, 7, 8] [0] rfl rfl rfl (by decide) rfl rfl rfl rfl rfl hl.1 (Nat.le_of_ble_eq_true rfl) dX6_house_48 ⟨(Nat.le_of_ble_eq_true rfl), (Nat.le_of_ble_eq_true rfl)⟩ (fun u_w H locs hw hP hD hS => ?_)
        have hP : va_P g.1 vwCl (wX6 qX AX ++ wX1 g (AX 0) AC σC_12) H := hP
        have hD : va_D Z (wX6 qX AX ++ wX1 g (AX 0) AC σC_12) := hD
        refine lv_iload hx hb dX6_house_51 (lv_at hl 0 rfl) ?_
        cases hF
        exact r_iret hx hb hr hlk hS () rfl hP hD dX6_house_53
      · have hF := q_if_t (by first | exact c_9 | exact Classical.not_not.mp c_9) hF
        refine lv_bipush (v := (-2)) hx hb dX6_house_28 (by decide) ?_
        cases hF
        exact r_iret hx hb hr hlk hS () rfl hP hD dX6_house_30
  · have hF := q_if_t (by first | exact c_3 | exact Classical.not_not.mp c_3) hF
    refine lv_iconst (v := (-1)) hx hb dX6_house_7 (by decide) ?_
    cases hF
    exact r_iret hx hb hr hlk hS () rfl hP hD dX6_house_8
set_option maxHeartbeats 4000000 in
set_option maxRecDepth 100000 in
theorem m_X6_tell (l : Launch) (g : GT) (sz : Nat) (qX : Nat) (AX : Nat → Nat) (AC : Nat → Nat) (σC : qS) (a1 : Int32) (a2 : Int32) (rr : Int32) (σC' : qS) (hF : f_X6_tell σC a1 a2 = some (rr, σC')) : Ci l yX6_tell wsX6_tell { frames := 2, cells := 0, slots := 0, locals := 42 } g sz [.ref qX, .int a1, .int a2] (wX6 qX AX ++ wX1 g (AX 0) AC σC) rr (wX6 qX AX ++ wX1 g (AX 0) AC σC') := by
  refine gMet_i (cc := cX6_tell) (maxL := 4) (ret := (some .int)) (by decide) rfl (Nat.le_of_ble_eq_true rfl) ?_
  intro p e s m args below meth c Z hx hb hr F hlk hnm hK hN hA H locs hP hD hS ls hl
  have hl : lv_has ls 4 [(0, .ref qX), (1, .int a1), (2, .int a2)] := hl
  have F : CallFix p m c cX6_tell 4 s args wsX6_tell RX6 := F
  have hts := F.2.2.2.2
  have hown : s.vm.findClass RX6 = some m.cls := F.2.2.2.1
  have hi6 : ∀ w ∈ u_ws RX6 TX6 8, w ∈ wsX6_tell := by decide +kernel
  dsimp only [f_X6_tell] at hF
  refine lv_iload_n hx hb dX6_tell_0 rfl (lv_at hl 1 rfl) ?_
  obtain ⟨r_1, h_2, hF⟩ := q_cl_s hF
  refine gcP (As := [.int a1]) (rest := []) F (m_X6_isHouse l a1 r_1 h_2) gX6_tell_X6_isHouse kX6_isHouse rfl rfl rfl ⟨(Nat.le_of_ble_eq_true rfl), (Nat.le_of_ble_eq_true rfl)⟩ rfl rfl hl.1 (Nat.le_of_ble_eq_true rfl) dX6_tell_1 ⟨(Nat.le_of_ble_eq_true rfl), (Nat.le_of_ble_eq_true rfl)⟩ ?_
  refine lv_if_eq (tgt := 19) hx hb dX6_tell_4 (by decide) (fun c_3 => ?_) (fun c_3 => ?_)
  · have hF := q_if_t c_3 hF
    refine lv_iconst (v := (-1)) hx hb dX6_tell_19 (by decide) ?_
    cases hF
    exact r_iret hx hb hr hlk hS () rfl hP hD dX6_tell_20
  · have hF := q_if_f c_3 hF
    refine lv_iload_n hx hb dX6_tell_7 rfl (lv_at hl 2 rfl) ?_
    obtain ⟨r_4, h_5, hF⟩ := q_cl_s hF
    refine gcP (As := [.int a2]) (rest := []) F (m_X6_isTale l a2 r_4 h_5) gX6_tell_X6_isTale kX6_isTale rfl rfl rfl ⟨(Nat.le_of_ble_eq_true rfl), (Nat.le_of_ble_eq_true rfl)⟩ rfl rfl hl.1 (Nat.le_of_ble_eq_true rfl) dX6_tell_8 ⟨(Nat.le_of_ble_eq_true rfl), (Nat.le_of_ble_eq_true rfl)⟩ ?_
    refine lv_if_ne (tgt := 21) hx hb dX6_tell_11 (by decide) (fun c_6 => ?_) (fun c_6 => ?_)
    · have hF := q_if_f c_6 hF
      refine lv_aload_n hx hb dX6_tell_21 rfl (lv_at hl 0 rfl) ?_
      refine va_get (D := g.1) (ci := 6) (v := .ref (AX 0)) (C := RX6) (T := TX6) (N := 8) hx hb hts hi6 hown hK hP 0 rfl rfl 0 (by decide) (hts (.fieldLink RX6 12 "PanTales" "close" "LPanTales$Close;") (by decide +kernel)) (fun _ h9 => h9) rfl dX6_tell_22 ?_
      refine lv_iload_n hx hb dX6_tell_25 rfl (lv_at hl 1 rfl) ?_
      obtain ⟨r_7, h_8, hF⟩ := q_cl_s hF
      refine gcV_i (As := [.int a1]) (rest := []) (ci := 1) (q := (RX1, TX1, 12)) F hK hN hP hD hS hA (m_X1_beliefOf l g H.size (AX 0) AC σC a1 r_7 h_8) gX6_tell_X1_beliefOf kX1_beliefOf rfl rfl rfl rfl ⟨(Nat.le_of_ble_eq_true rfl), (Nat.le_of_ble_eq_true rfl)⟩ [1, 2, 3, 4, 5, 6, 7, 8] [0] rfl rfl rfl (by decide) rfl rfl rfl rfl rfl hl.1 (Nat.le_of_ble_eq_true rfl) dX6_tell_26 ⟨(Nat.le_of_ble_eq_true rfl), (Nat.le_of_ble_eq_true rfl)⟩ (fun r_w u_w H locs hw hP hD hS => ?_)
      have hP : va_P g.1 vwCl (wX6 qX AX ++ wX1 g (AX 0) AC σC) H := hP
      have hD : va_D Z (wX6 qX AX ++ wX1 g (AX 0) AC σC) := hD
      obtain rfl : r_7 = r_w := hw.symm
      refine lv_istore_n (lv' := [(3, .int r_7), (0, .ref qX), (1, .int a1), (2, .int a2)]) hx hb dX6_tell_29 rfl hl (by decide) rfl (fun ls hl => ?_)
      refine lv_aload_n hx hb dX6_tell_30 rfl (lv_at hl 1 rfl) ?_
      refine va_get (D := g.1) (ci := 6) (v := .ref (AX 0)) (C := RX6) (T := TX6) (N := 8) hx hb hts hi6 hown hK hP 0 rfl rfl 0 (by decide) (hts (.fieldLink RX6 12 "PanTales" "close" "LPanTales$Close;") (by decide +kernel)) (fun _ h9 => h9) rfl dX6_tell_31 ?_
      refine lv_iload_n hx hb dX6_tell_34 rfl (lv_at hl 2 rfl) ?_
      refine lv_iload_n hx hb dX6_tell_35 rfl (lv_at hl 3 rfl) ?_
      refine lv_iconst (v := (-1)) hx hb dX6_tell_36 (by decide) ?_
      refine lv_icmp_ne (tgt := 45) hx hb dX6_tell_37 (by decide) (fun c_9 => ?_) (fun c_9 => ?_)
      · have hF := q_if_f c_9 hF
        refine lv_iload_n hx hb dX6_tell_45 rfl (lv_at hl 3 rfl) ?_
        obtain ⟨σC_10, h_11, hF⟩ := q_cl_s hF
        refine gcV_v (As := [.int a1, .int a2]) (rest := []) (ci := 1) (q := (RX1, TX1, 12)) F hK hN hP hD hS hA (m_X1_convince l g H.size (AX 0) AC σC a1 a2 σC_10 h_11) gX6_tell_X1_convince kX1_convince rfl rfl rfl rfl ⟨(Nat.le_of_ble_eq_true rfl), (Nat.le_of_ble_eq_true rfl)⟩ [1, 2, 3, 4, 5, 6, 7, 8] [0] rfl rfl rfl (by decide) rfl rfl rfl rfl rfl hl.1 (Nat.le_of_ble_eq_true rfl) dX6_tell_46 ⟨(Nat.le_of_ble_eq_true rfl), (Nat.le_of_ble_eq_true rfl)⟩ (fun u_w H locs hw hP hD hS => ?_)
        have hP : va_P g.1 vwCl (wX6 qX AX ++ wX1 g (AX 0) AC σC_10) H := hP
        have hD : va_D Z (wX6 qX AX ++ wX1 g (AX 0) AC σC_10) := hD
        refine lv_iload_n hx hb dX6_tell_49 rfl (lv_at hl 0 rfl) ?_
        cases hF
        exact r_iret hx hb hr hlk hS () rfl hP hD dX6_tell_50
      · have hF := q_if_t (by first | exact c_9 | exact Classical.not_not.mp c_9) hF
        refine lv_bipush (v := (-6)) hx hb dX6_tell_40 (by decide) ?_
        refine lv_goto (tgt := 46) hx hb dX6_tell_42 (by decide) ?_
        obtain ⟨σC_12, h_13, hF⟩ := q_cl_s hF
        refine gcV_v (As := [.int a1, .int (-6)]) (rest := []) (ci := 1) (q := (RX1, TX1, 12)) F hK hN hP hD hS hA (m_X1_convince l g H.size (AX 0) AC σC a1 (-6 : Int32) σC_12 h_13) gX6_tell_X1_convince kX1_convince rfl rfl rfl rfl ⟨(Nat.le_of_ble_eq_true rfl), (Nat.le_of_ble_eq_true rfl)⟩ [1, 2, 3, 4, 5, 6, 7, 8] [0] rfl rfl rfl (by decide) rfl rfl rfl rfl rfl hl.1 (Nat.le_of_ble_eq_true rfl) dX6_tell_46 ⟨(Nat.le_of_ble_eq_true rfl), (Nat.le_of_ble_eq_true rfl)⟩ (fun u_w H locs hw hP hD hS => ?_)
        have hP : va_P g.1 vwCl (wX6 qX AX ++ wX1 g (AX 0) AC σC_12) H := hP
        have hD : va_D Z (wX6 qX AX ++ wX1 g (AX 0) AC σC_12) := hD
        refine lv_iload_n hx hb dX6_tell_49 rfl (lv_at hl 0 rfl) ?_
        cases hF
        exact r_iret hx hb hr hlk hS () rfl hP hD dX6_tell_50
    · have hF := q_if_t (by first | exact c_6 | exact Classical.not_not.mp c_6) hF
      refine lv_iload_n hx hb dX6_tell_14 rfl (lv_at hl 2 rfl) ?_
      refine lv_iconst (v := (-1)) hx hb dX6_tell_15 (by decide) ?_
      refine lv_icmp_eq (tgt := 21) hx hb dX6_tell_16 (by decide) (fun c_14 => ?_) (fun c_14 => ?_)
      · have hF := q_if_t c_14 hF
        refine lv_aload_n hx hb dX6_tell_21 rfl (lv_at hl 0 rfl) ?_
        refine va_get (D := g.1) (ci := 6) (v := .ref (AX 0)) (C := RX6) (T := TX6) (N := 8) hx hb hts hi6 hown hK hP 0 rfl rfl 0 (by decide) (hts (.fieldLink RX6 12 "PanTales" "close" "LPanTales$Close;") (by decide +kernel)) (fun _ h9 => h9) rfl dX6_tell_22 ?_
        refine lv_iload_n hx hb dX6_tell_25 rfl (lv_at hl 1 rfl) ?_
        obtain ⟨r_15, h_16, hF⟩ := q_cl_s hF
        refine gcV_i (As := [.int a1]) (rest := []) (ci := 1) (q := (RX1, TX1, 12)) F hK hN hP hD hS hA (m_X1_beliefOf l g H.size (AX 0) AC σC a1 r_15 h_16) gX6_tell_X1_beliefOf kX1_beliefOf rfl rfl rfl rfl ⟨(Nat.le_of_ble_eq_true rfl), (Nat.le_of_ble_eq_true rfl)⟩ [1, 2, 3, 4, 5, 6, 7, 8] [0] rfl rfl rfl (by decide) rfl rfl rfl rfl rfl hl.1 (Nat.le_of_ble_eq_true rfl) dX6_tell_26 ⟨(Nat.le_of_ble_eq_true rfl), (Nat.le_of_ble_eq_true rfl)⟩ (fun r_w u_w H locs hw hP hD hS => ?_)
        have hP : va_P g.1 vwCl (wX6 qX AX ++ wX1 g (AX 0) AC σC) H := hP
        have hD : va_D Z (wX6 qX AX ++ wX1 g (AX 0) AC σC) := hD
        obtain rfl : r_15 = r_w := hw.symm
        refine lv_istore_n (lv' := [(3, .int r_15), (0, .ref qX), (1, .int a1), (2, .int a2)]) hx hb dX6_tell_29 rfl hl (by decide) rfl (fun ls hl => ?_)
        refine lv_aload_n hx hb dX6_tell_30 rfl (lv_at hl 1 rfl) ?_
        refine va_get (D := g.1) (ci := 6) (v := .ref (AX 0)) (C := RX6) (T := TX6) (N := 8) hx hb hts hi6 hown hK hP 0 rfl rfl 0 (by decide) (hts (.fieldLink RX6 12 "PanTales" "close" "LPanTales$Close;") (by decide +kernel)) (fun _ h9 => h9) rfl dX6_tell_31 ?_
        refine lv_iload_n hx hb dX6_tell_34 rfl (lv_at hl 2 rfl) ?_
        refine lv_iload_n hx hb dX6_tell_35 rfl (lv_at hl 3 rfl) ?_
        refine lv_iconst (v := (-1)) hx hb dX6_tell_36 (by decide) ?_
        refine lv_icmp_ne (tgt := 45) hx hb dX6_tell_37 (by decide) (fun c_17 => ?_) (fun c_17 => ?_)
        · have hF := q_if_f c_17 hF
          refine lv_iload_n hx hb dX6_tell_45 rfl (lv_at hl 3 rfl) ?_
          obtain ⟨σC_18, h_19, hF⟩ := q_cl_s hF
          refine gcV_v (As := [.int a1, .int a2]) (rest := []) (ci := 1) (q := (RX1, TX1, 12)) F hK hN hP hD hS hA (m_X1_convince l g H.size (AX 0) AC σC a1 a2 σC_18 h_19) gX6_tell_X1_convince kX1_convince rfl rfl rfl rfl ⟨(Nat.le_of_ble_eq_true rfl), (Nat.le_of_ble_eq_true rfl)⟩ [1, 2, 3, 4, 5, 6, 7, 8] [0] rfl rfl rfl (by decide) rfl rfl rfl rfl rfl hl.1 (Nat.le_of_ble_eq_true rfl) dX6_tell_46 ⟨(Nat.le_of_ble_eq_true rfl), (Nat.le_of_ble_eq_true rfl)⟩ (fun u_w H locs hw hP hD hS => ?_)
          have hP : va_P g.1 vwCl (wX6 qX AX ++ wX1 g (AX 0) AC σC_18) H := hP
          have hD : va_D Z (wX6 qX AX ++ wX1 g (AX 0) AC σC_18) := hD
          refine lv_iload_n hx hb dX6_tell_49 rfl (lv_at hl 0 rfl) ?_
          cases hF
          exact r_iret hx hb hr hlk hS () rfl hP hD dX6_tell_50
        · have hF := q_if_t (by first | exact c_17 | exact Classical.not_not.mp c_17) hF
          refine lv_bipush (v := (-6)) hx hb dX6_tell_40 (by decide) ?_
          refine lv_goto (tgt := 46) hx hb dX6_tell_42 (by decide) ?_
          obtain ⟨σC_20, h_21, hF⟩ := q_cl_s hF
          refine gcV_v (As := [.int a1, .int (-6)]) (rest := []) (ci := 1) (q := (RX1, TX1, 12)) F hK hN hP hD hS hA (m_X1_convince l g H.size (AX 0) AC σC a1 (-6 : Int32) σC_20 h_21) gX6_tell_X1_convince kX1_convince rfl rfl rfl rfl ⟨(Nat.le_of_ble_eq_true rfl), (Nat.le_of_ble_eq_true rfl)⟩ [1, 2, 3, 4, 5, 6, 7, 8] [0] rfl rfl rfl (by decide) rfl rfl rfl rfl rfl hl.1 (Nat.le_of_ble_eq_true rfl) dX6_tell_46 ⟨(Nat.le_of_ble_eq_true rfl), (Nat.le_of_ble_eq_true rfl)⟩ (fun u_w H locs hw hP hD hS => ?_)
          have hP : va_P g.1 vwCl (wX6 qX AX ++ wX1 g (AX 0) AC σC_20) H := hP
          have hD : va_D Z (wX6 qX AX ++ wX1 g (AX 0) AC σC_20) := hD
          refine lv_iload_n hx hb dX6_tell_49 rfl (lv_at hl 0 rfl) ?_
          cases hF
          exact r_iret hx hb hr hlk hS () rfl hP hD dX6_tell_50
      · have hF := q_if_f c_14 hF
        refine lv_iconst (v := (-1)) hx hb dX6_tell_19 (by decide) ?_
        cases hF
        exact r_iret hx hb hr hlk hS () rfl hP hD dX6_tell_20
set_option maxHeartbeats 4000000 in
set_option maxRecDepth 100000 in
theorem m_X6_fade (l : Launch) (g : GT) (sz : Nat) (qX : Nat) (AX : Nat → Nat) (AC : Nat → Nat) (σC : qS) (a1 : Int32) (a2 : Int32) (rr : Int32) (σC' : qS) (hF : f_X6_fade σC a1 a2 = some (rr, σC')) : Ci l yX6_fade wsX6_fade { frames := 2, cells := 0, slots := 0, locals := 42 } g sz [.ref qX, .int a1, .int a2] (wX6 qX AX ++ wX1 g (AX 0) AC σC) rr (wX6 qX AX ++ wX1 g (AX 0) AC σC') := by
  refine gMet_i (cc := cX6_fade) (maxL := 4) (ret := (some .int)) (by decide) rfl (Nat.le_of_ble_eq_true rfl) ?_
  intro p e s m args below meth c Z hx hb hr F hlk hnm hK hN hA H locs hP hD hS ls hl
  have hl : lv_has ls 4 [(0, .ref qX), (1, .int a1), (2, .int a2)] := hl
  have F : CallFix p m c cX6_fade 4 s args wsX6_fade RX6 := F
  have hts := F.2.2.2.2
  have hown : s.vm.findClass RX6 = some m.cls := F.2.2.2.1
  have hi6 : ∀ w ∈ u_ws RX6 TX6 8, w ∈ wsX6_fade := by decide +kernel
  dsimp only [f_X6_fade] at hF
  refine lv_iload_n hx hb dX6_fade_0 rfl (lv_at hl 1 rfl) ?_
  obtain ⟨r_1, h_2, hF⟩ := q_cl_s hF
  refine gcP (As := [.int a1]) (rest := []) F (m_X6_isTale l a1 r_1 h_2) gX6_fade_X6_isTale kX6_isTale rfl rfl rfl ⟨(Nat.le_of_ble_eq_true rfl), (Nat.le_of_ble_eq_true rfl)⟩ rfl rfl hl.1 (Nat.le_of_ble_eq_true rfl) dX6_fade_1 ⟨(Nat.le_of_ble_eq_true rfl), (Nat.le_of_ble_eq_true rfl)⟩ ?_
  refine lv_if_eq (tgt := 14) hx hb dX6_fade_4 (by decide) (fun c_3 => ?_) (fun c_3 => ?_)
  · have hF := q_if_t c_3 hF
    refine lv_iconst (v := (-1)) hx hb dX6_fade_14 (by decide) ?_
    cases hF
    exact r_iret hx hb hr hlk hS () rfl hP hD dX6_fade_15
  · have hF := q_if_f c_3 hF
    refine lv_iload_n hx hb dX6_fade_7 rfl (lv_at hl 2 rfl) ?_
    obtain ⟨r_4, h_5, hF⟩ := q_cl_s hF
    refine gcP (As := [.int a2]) (rest := []) F (m_X6_isTale l a2 r_4 h_5) gX6_fade_X6_isTale kX6_isTale rfl rfl rfl ⟨(Nat.le_of_ble_eq_true rfl), (Nat.le_of_ble_eq_true rfl)⟩ rfl rfl hl.1 (Nat.le_of_ble_eq_true rfl) dX6_fade_8 ⟨(Nat.le_of_ble_eq_true rfl), (Nat.le_of_ble_eq_true rfl)⟩ ?_
    refine lv_if_ne (tgt := 16) hx hb dX6_fade_11 (by decide) (fun c_6 => ?_) (fun c_6 => ?_)
    · have hF := q_if_f c_6 hF
      refine lv_aload_n hx hb dX6_fade_16 rfl (lv_at hl 0 rfl) ?_
      refine va_get (D := g.1) (ci := 6) (v := .ref (AX 0)) (C := RX6) (T := TX6) (N := 8) hx hb hts hi6 hown hK hP 0 rfl rfl 0 (by decide) (hts (.fieldLink RX6 12 "PanTales" "close" "LPanTales$Close;") (by decide +kernel)) (fun _ h9 => h9) rfl dX6_fade_17 ?_
      refine lv_iload_n hx hb dX6_fade_20 rfl (lv_at hl 1 rfl) ?_
      obtain ⟨r_7, h_8, hF⟩ := q_cl_s hF
      refine gcV_i (As := [.int a1]) (rest := []) (ci := 1) (q := (RX1, TX1, 12)) F hK hN hP hD hS hA (m_X1_fadesInto l g H.size (AX 0) AC σC a1 r_7 h_8) gX6_fade_X1_fadesInto kX1_fadesInto rfl rfl rfl rfl ⟨(Nat.le_of_ble_eq_true rfl), (Nat.le_of_ble_eq_true rfl)⟩ [1, 2, 3, 4, 5, 6, 7, 8] [0] rfl rfl rfl (by decide) rfl rfl rfl rfl rfl hl.1 (Nat.le_of_ble_eq_true rfl) dX6_fade_21 ⟨(Nat.le_of_ble_eq_true rfl), (Nat.le_of_ble_eq_true rfl)⟩ (fun r_w u_w H locs hw hP hD hS => ?_)
      have hP : va_P g.1 vwCl (wX6 qX AX ++ wX1 g (AX 0) AC σC) H := hP
      have hD : va_D Z (wX6 qX AX ++ wX1 g (AX 0) AC σC) := hD
      obtain rfl : r_7 = r_w := hw.symm
      refine lv_istore_n (lv' := [(3, .int r_7), (0, .ref qX), (1, .int a1), (2, .int a2)]) hx hb dX6_fade_24 rfl hl (by decide) rfl (fun ls hl => ?_)
      refine lv_aload_n hx hb dX6_fade_25 rfl (lv_at hl 1 rfl) ?_
      refine va_get (D := g.1) (ci := 6) (v := .ref (AX 0)) (C := RX6) (T := TX6) (N := 8) hx hb hts hi6 hown hK hP 0 rfl rfl 0 (by decide) (hts (.fieldLink RX6 12 "PanTales" "close" "LPanTales$Close;") (by decide +kernel)) (fun _ h9 => h9) rfl dX6_fade_26 ?_
      refine lv_iload_n hx hb dX6_fade_29 rfl (lv_at hl 2 rfl) ?_
      refine lv_iload_n hx hb dX6_fade_30 rfl (lv_at hl 3 rfl) ?_
      obtain ⟨σC_9, h_10, hF⟩ := q_cl_s hF
      refine gcV_v (As := [.int a1, .int a2]) (rest := []) (ci := 1) (q := (RX1, TX1, 12)) F hK hN hP hD hS hA (m_X1_letFade l g H.size (AX 0) AC σC a1 a2 σC_9 h_10) gX6_fade_X1_letFade kX1_letFade rfl rfl rfl rfl ⟨(Nat.le_of_ble_eq_true rfl), (Nat.le_of_ble_eq_true rfl)⟩ [1, 2, 3, 4, 5, 6, 7, 8] [0] rfl rfl rfl (by decide) rfl rfl rfl rfl rfl hl.1 (Nat.le_of_ble_eq_true rfl) dX6_fade_31 ⟨(Nat.le_of_ble_eq_true rfl), (Nat.le_of_ble_eq_true rfl)⟩ (fun u_w H locs hw hP hD hS => ?_)
      have hP : va_P g.1 vwCl (wX6 qX AX ++ wX1 g (AX 0) AC σC_9) H := hP
      have hD : va_D Z (wX6 qX AX ++ wX1 g (AX 0) AC σC_9) := hD
      refine lv_iload_n hx hb dX6_fade_34 rfl (lv_at hl 0 rfl) ?_
      cases hF
      exact r_iret hx hb hr hlk hS () rfl hP hD dX6_fade_35
    · have hF := q_if_t (by first | exact c_6 | exact Classical.not_not.mp c_6) hF
      refine lv_iconst (v := (-1)) hx hb dX6_fade_14 (by decide) ?_
      cases hF
      exact r_iret hx hb hr hlk hS () rfl hP hD dX6_fade_15
set_option maxHeartbeats 4000000 in
set_option maxRecDepth 100000 in
theorem m_X6_say (l : Launch) (g : GT) (sz : Nat) (qX : Nat) (AX : Nat → Nat) (AP : Nat → Nat) (σP : qS) (a1 : Int32) (rr : Int32) (σP' : qS) (hF : f_X6_say σP a1 = some (rr, σP')) : Ci l yX6_say wsX6_say { frames := 2, cells := 0, slots := 0, locals := 43 } g sz [.ref qX, .int a1] (wX6 qX AX ++ wX3 g (AX 3) AP σP) rr (wX6 qX AX ++ wX3 g (AX 3) AP σP') := by
  refine gMet_i (cc := cX6_say) (maxL := 2) (ret := (some .int)) (by decide) rfl (Nat.le_of_ble_eq_true rfl) ?_
  intro p e s m args below meth c Z hx hb hr F hlk hnm hK hN hA H locs hP hD hS ls hl
  have hl : lv_has ls 2 [(0, .ref qX), (1, .int a1)] := hl
  have F : CallFix p m c cX6_say 2 s args wsX6_say RX6 := F
  have hts := F.2.2.2.2
  have hown : s.vm.findClass RX6 = some m.cls := F.2.2.2.1
  have hi6 : ∀ w ∈ u_ws RX6 TX6 8, w ∈ wsX6_say := by decide +kernel
  dsimp only [f_X6_say] at hF
  refine lv_iload_n hx hb dX6_say_0 rfl (lv_at hl 1 rfl) ?_
  refine lv_bipush (v := 33) hx hb dX6_say_1 (by decide) ?_
  refine lv_bipush (v := 126) hx hb dX6_say_3 (by decide) ?_
  obtain ⟨r_1, h_2, hF⟩ := q_cl_s hF
  refine gcP (As := [.int a1, .int 33, .int 126]) (rest := []) F (m_X6_within l a1 (33 : Int32) (126 : Int32) r_1 h_2) gX6_say_X6_within kX6_within rfl rfl rfl ⟨(Nat.le_of_ble_eq_true rfl), (Nat.le_of_ble_eq_true rfl)⟩ rfl rfl hl.1 (Nat.le_of_ble_eq_true rfl) dX6_say_5 ⟨(Nat.le_of_ble_eq_true rfl), (Nat.le_of_ble_eq_true rfl)⟩ ?_
  refine lv_if_ne (tgt := 14) hx hb dX6_say_8 (by decide) (fun c_3 => ?_) (fun c_3 => ?_)
  · have hF := q_if_f c_3 hF
    refine lv_aload_n hx hb dX6_say_14 rfl (lv_at hl 0 rfl) ?_
    refine va_get (D := g.1) (ci := 6) (v := .ref (AX 3)) (C := RX6) (T := TX6) (N := 8) hx hb hts hi6 hown hK hP 0 rfl rfl 3 (by decide) (hts (.fieldLink RX6 26 "PanTales" "pad" "LPanTales$Pad;") (by decide +kernel)) (fun _ h9 => h9) rfl dX6_say_15 ?_
    refine lv_iload_n hx hb dX6_say_18 rfl (lv_at hl 1 rfl) ?_
    obtain ⟨⟨r_4, σP_5⟩, h_6, hF⟩ := q_cl_s hF
    try dsimp only at hF
    refine gcV_i (As := [.int a1]) (rest := []) (ci := 3) (q := (RX3, TX3, 2)) F hK hN hP hD hS hA (m_X3_add l g H.size (AX 3) AP σP a1 r_4 σP_5 h_6) gX6_say_X3_add kX3_add rfl rfl rfl rfl ⟨(Nat.le_of_ble_eq_true rfl), (Nat.le_of_ble_eq_true rfl)⟩ [1, 2] [0] rfl rfl rfl (by decide) rfl rfl rfl rfl rfl hl.1 (Nat.le_of_ble_eq_true rfl) dX6_say_19 ⟨(Nat.le_of_ble_eq_true rfl), (Nat.le_of_ble_eq_true rfl)⟩ (fun r_w u_w H locs hw hP hD hS => ?_)
    have hP : va_P g.1 vwCl (wX6 qX AX ++ wX3 g (AX 3) AP σP_5) H := hP
    have hD : va_D Z (wX6 qX AX ++ wX3 g (AX 3) AP σP_5) := hD
    obtain rfl : r_4 = r_w := hw.symm
    refine lv_if_eq (tgt := 35) hx hb dX6_say_22 (by decide) (fun c_8 => ?_) (fun c_8 => ?_)
    · have hF := q_if_t c_8 hF
      refine lv_bipush (v := (-4)) hx hb dX6_say_35 (by decide) ?_
      cases hF
      exact r_iret hx hb hr hlk hS () rfl hP hD dX6_say_37
    · have hF := q_if_f c_8 hF
      refine lv_aload_n hx hb dX6_say_25 rfl (lv_at hl 0 rfl) ?_
      refine va_get (D := g.1) (ci := 6) (v := .ref (AX 3)) (C := RX6) (T := TX6) (N := 8) hx hb hts hi6 hown hK hP 0 rfl rfl 3 (by decide) (hts (.fieldLink RX6 26 "PanTales" "pad" "LPanTales$Pad;") (by decide +kernel)) (fun _ h9 => h9) rfl dX6_say_26 ?_
      obtain ⟨r_9, h_10, hF⟩ := q_cl_s hF
      refine gcV_i (As := []) (rest := []) (ci := 3) (q := (RX3, TX3, 2)) F hK hN hP hD hS hA (m_X3_size l g H.size (AX 3) AP σP_5 r_9 h_10) gX6_say_X3_size kX3_size rfl rfl rfl rfl ⟨(Nat.le_of_ble_eq_true rfl), (Nat.le_of_ble_eq_true rfl)⟩ [1, 2] [0] rfl rfl rfl (by decide) rfl rfl rfl rfl rfl hl.1 (Nat.le_of_ble_eq_true rfl) dX6_say_29 ⟨(Nat.le_of_ble_eq_true rfl), (Nat.le_of_ble_eq_true rfl)⟩ (fun r_w u_w H locs hw hP hD hS => ?_)
      have hP : va_P g.1 vwCl (wX6 qX AX ++ wX3 g (AX 3) AP σP_5) H := hP
      have hD : va_D Z (wX6 qX AX ++ wX3 g (AX 3) AP σP_5) := hD
      obtain rfl : r_9 = r_w := hw.symm
      refine lv_goto (tgt := 37) hx hb dX6_say_32 (by decide) ?_
      cases hF
      exact r_iret hx hb hr hlk hS () rfl hP hD dX6_say_37
  · have hF := q_if_t (by first | exact c_3 | exact Classical.not_not.mp c_3) hF
    refine lv_bipush (v := (-2)) hx hb dX6_say_11 (by decide) ?_
    cases hF
    exact r_iret hx hb hr hlk hS () rfl hP hD dX6_say_13
set_option maxHeartbeats 4000000 in
set_option maxRecDepth 100000 in
theorem m_X6_wipe (l : Launch) (g : GT) (sz : Nat) (qX : Nat) (AX : Nat → Nat) (AP : Nat → Nat) (σP : qS) (rr : Int32) (σP' : qS) (hF : f_X6_wipe σP = some (rr, σP')) : Ci l yX6_wipe wsX6_wipe { frames := 1, cells := 0, slots := 0, locals := 20 } g sz [.ref qX] (wX6 qX AX ++ wX3 g (AX 3) AP σP) rr (wX6 qX AX ++ wX3 g (AX 3) AP σP') := by
  refine gMet_i (cc := cX6_wipe) (maxL := 2) (ret := (some .int)) (by decide) rfl (Nat.le_of_ble_eq_true rfl) ?_
  intro p e s m args below meth c Z hx hb hr F hlk hnm hK hN hA H locs hP hD hS ls hl
  have hl : lv_has ls 2 [(0, .ref qX)] := hl
  have F : CallFix p m c cX6_wipe 2 s args wsX6_wipe RX6 := F
  have hts := F.2.2.2.2
  have hown : s.vm.findClass RX6 = some m.cls := F.2.2.2.1
  have hi6 : ∀ w ∈ u_ws RX6 TX6 8, w ∈ wsX6_wipe := by decide +kernel
  dsimp only [f_X6_wipe] at hF
  refine lv_aload_n hx hb dX6_wipe_0 rfl (lv_at hl 0 rfl) ?_
  refine va_get (D := g.1) (ci := 6) (v := .ref (AX 3)) (C := RX6) (T := TX6) (N := 8) hx hb hts hi6 hown hK hP 0 rfl rfl 3 (by decide) (hts (.fieldLink RX6 26 "PanTales" "pad" "LPanTales$Pad;") (by decide +kernel)) (fun _ h9 => h9) rfl dX6_wipe_1 ?_
  obtain ⟨r_1, h_2, hF⟩ := q_cl_s hF
  refine gcV_i (As := []) (rest := []) (ci := 3) (q := (RX3, TX3, 2)) F hK hN hP hD hS hA (m_X3_size l g H.size (AX 3) AP σP r_1 h_2) gX6_wipe_X3_size kX3_size rfl rfl rfl rfl ⟨(Nat.le_of_ble_eq_true rfl), (Nat.le_of_ble_eq_true rfl)⟩ [1, 2] [0] rfl rfl rfl (by decide) rfl rfl rfl rfl rfl hl.1 (Nat.le_of_ble_eq_true rfl) dX6_wipe_4 ⟨(Nat.le_of_ble_eq_true rfl), (Nat.le_of_ble_eq_true rfl)⟩ (fun r_w u_w H locs hw hP hD hS => ?_)
  have hP : va_P g.1 vwCl (wX6 qX AX ++ wX3 g (AX 3) AP σP) H := hP
  have hD : va_D Z (wX6 qX AX ++ wX3 g (AX 3) AP σP) := hD
  obtain rfl : r_1 = r_w := hw.symm
  refine lv_istore_n (lv' := [(1, .int r_1), (0, .ref qX)]) hx hb dX6_wipe_7 rfl hl (by decide) rfl (fun ls hl => ?_)
  refine lv_aload_n hx hb dX6_wipe_8 rfl (lv_at hl 1 rfl) ?_
  refine va_get (D := g.1) (ci := 6) (v := .ref (AX 3)) (C := RX6) (T := TX6) (N := 8) hx hb hts hi6 hown hK hP 0 rfl rfl 3 (by decide) (hts (.fieldLink RX6 26 "PanTales" "pad" "LPanTales$Pad;") (by decide +kernel)) (fun _ h9 => h9) rfl dX6_wipe_9 ?_
  obtain ⟨σP_3, h_4, hF⟩ := q_cl_s hF
  refine gcV_v (As := []) (rest := []) (ci := 3) (q := (RX3, TX3, 2)) F hK hN hP hD hS hA (m_X3_clear l g H.size (AX 3) AP σP σP_3 h_4) gX6_wipe_X3_clear kX3_clear rfl rfl rfl rfl ⟨(Nat.le_of_ble_eq_true rfl), (Nat.le_of_ble_eq_true rfl)⟩ [1, 2] [0] rfl rfl rfl (by decide) rfl rfl rfl rfl rfl hl.1 (Nat.le_of_ble_eq_true rfl) dX6_wipe_12 ⟨(Nat.le_of_ble_eq_true rfl), (Nat.le_of_ble_eq_true rfl)⟩ (fun u_w H locs hw hP hD hS => ?_)
  have hP : va_P g.1 vwCl (wX6 qX AX ++ wX3 g (AX 3) AP σP_3) H := hP
  have hD : va_D Z (wX6 qX AX ++ wX3 g (AX 3) AP σP_3) := hD
  refine lv_iload_n hx hb dX6_wipe_15 rfl (lv_at hl 0 rfl) ?_
  cases hF
  exact r_iret hx hb hr hlk hS () rfl hP hD dX6_wipe_16
set_option maxHeartbeats 4000000 in
set_option maxRecDepth 100000 in
theorem m_X6_judge (l : Launch) (g : GT) (sz : Nat) (qX : Nat) (AX : Nat → Nat) (σN : qS) (AP : Nat → Nat) (σP : qS) (AD : Nat → Nat) (σD : qS) (AC : Nat → Nat) (σC : qS) (a1 : Int32) (rr : Int32) (σN' : qS) (σD' : qS) (hF : f_X6_judge σN σP σD σC a1 = some (rr, σN', σD')) : Ci l yX6_judge wsX6_judge { frames := 6, cells := 0, slots := 0, locals := 139 } g sz [.ref qX, .int a1] (wX6 qX AX ++ wX2 (AX 4) σN ++ wX3 g (AX 3) AP σP ++ wX1 g (AX 1) AD σD ++ wX1 g (AX 0) AC σC) rr (wX6 qX AX ++ wX2 (AX 4) σN' ++ wX3 g (AX 3) AP σP ++ wX1 g (AX 1) AD σD' ++ wX1 g (AX 0) AC σC) := by
  refine gMet_i (cc := cX6_judge) (maxL := 3) (ret := (some .int)) (by decide) rfl (Nat.le_of_ble_eq_true rfl) ?_
  intro p e s m args below meth c Z hx hb hr F hlk hnm hK hN hA H locs hP hD hS ls hl
  have hl : lv_has ls 3 [(0, .ref qX), (1, .int a1)] := hl
  have F : CallFix p m c cX6_judge 3 s args wsX6_judge RX6 := F
  have hts := F.2.2.2.2
  have hown : s.vm.findClass RX6 = some m.cls := F.2.2.2.1
  have hi2 : ∀ w ∈ u_ws RX2 TX2 6, w ∈ wsX6_judge := by decide +kernel
  have hi6 : ∀ w ∈ u_ws RX6 TX6 8, w ∈ wsX6_judge := by decide +kernel
  dsimp only [f_X6_judge] at hF
  refine lv_iload_n hx hb dX6_judge_0 rfl (lv_at hl 1 rfl) ?_
  refine lv_iconst (v := 0) hx hb dX6_judge_1 (by decide) ?_
  refine lv_iconst (v := 2) hx hb dX6_judge_2 (by decide) ?_
  obtain ⟨r_1, h_2, hF⟩ := q_cl_s hF
  refine gcP (As := [.int a1, .int 0, .int 2]) (rest := []) F (m_X6_within l a1 (0 : Int32) (2 : Int32) r_1 h_2) gX6_judge_X6_within kX6_within rfl rfl rfl ⟨(Nat.le_of_ble_eq_true rfl), (Nat.le_of_ble_eq_true rfl)⟩ rfl rfl hl.1 (Nat.le_of_ble_eq_true rfl) dX6_judge_3 ⟨(Nat.le_of_ble_eq_true rfl), (Nat.le_of_ble_eq_true rfl)⟩ ?_
  refine lv_if_ne (tgt := 12) hx hb dX6_judge_6 (by decide) (fun c_3 => ?_) (fun c_3 => ?_)
  · have hF := q_if_f c_3 hF
    refine lv_aload_n hx hb dX6_judge_12 rfl (lv_at hl 0 rfl) ?_
    refine va_get (D := g.1) (ci := 6) (v := .ref (AX 4)) (C := RX6) (T := TX6) (N := 8) hx hb hts hi6 hown hK hP 0 rfl rfl 4 (by decide) (hts (.fieldLink RX6 33 "PanTales" "night" "LPanTales$Night;") (by decide +kernel)) (fun _ h9 => h9) rfl dX6_judge_13 ?_
    refine lv_aload_n hx hb dX6_judge_16 rfl (lv_at hl 0 rfl) ?_
    refine va_get (D := g.1) (ci := 6) (v := .ref (AX 3)) (C := RX6) (T := TX6) (N := 8) hx hb hts hi6 hown hK hP 0 rfl rfl 3 (by decide) (hts (.fieldLink RX6 26 "PanTales" "pad" "LPanTales$Pad;") (by decide +kernel)) (fun _ h9 => h9) rfl dX6_judge_17 ?_
    refine lv_aload_n hx hb dX6_judge_20 rfl (lv_at hl 0 rfl) ?_
    refine va_get (D := g.1) (ci := 6) (v := .ref (AX 1)) (C := RX6) (T := TX6) (N := 8) hx hb hts hi6 hown hK hP 0 rfl rfl 1 (by decide) (hts (.fieldLink RX6 16 "PanTales" "draft" "LPanTales$Close;") (by decide +kernel)) (fun _ h9 => h9) rfl dX6_judge_21 ?_
    refine lv_aload_n hx hb dX6_judge_24 rfl (lv_at hl 0 rfl) ?_
    refine va_get (D := g.1) (ci := 6) (v := .ref (AX 0)) (C := RX6) (T := TX6) (N := 8) hx hb hts hi6 hown hK hP 0 rfl rfl 0 (by decide) (hts (.fieldLink RX6 12 "PanTales" "close" "LPanTales$Close;") (by decide +kernel)) (fun _ h9 => h9) rfl dX6_judge_25 ?_
    obtain ⟨⟨r_4, σN_5, σD_6⟩, h_7, hF⟩ := q_cl_s hF
    try dsimp only at hF
    refine gcV_i (As := [.ref (AX 3), .ref (AX 1), .ref (AX 0)]) (rest := []) (ci := 2) (q := (RX2, TX2, 6)) F hK hN hP hD hS hA (m_X2_pass l g H.size (AX 4) σN (AX 3) AP σP (AX 1) AD σD (AX 0) AC σC r_4 σN_5 σD_6 h_7) gX6_judge_X2_pass kX2_pass rfl rfl rfl rfl ⟨(Nat.le_of_ble_eq_true rfl), (Nat.le_of_ble_eq_true rfl)⟩ [1, 2, 3, 4, 5, 6, 7, 8, 9, 10, 11, 12, 13, 14, 15, 16, 17, 18, 19] [0] rfl rfl rfl (by decide) rfl rfl rfl rfl rfl hl.1 (Nat.le_of_ble_eq_true rfl) dX6_judge_28 ⟨(Nat.le_of_ble_eq_true rfl), (Nat.le_of_ble_eq_true rfl)⟩ (fun r_w u_w H locs hw hP hD hS => ?_)
    have hP : va_P g.1 vwCl (wX6 qX AX ++ wX2 (AX 4) σN_5 ++ wX3 g (AX 3) AP σP ++ wX1 g (AX 1) AD σD_6 ++ wX1 g (AX 0) AC σC) H := hP
    have hD : va_D Z (wX6 qX AX ++ wX2 (AX 4) σN_5 ++ wX3 g (AX 3) AP σP ++ wX1 g (AX 1) AD σD_6 ++ wX1 g (AX 0) AC σC) := hD
    obtain rfl : r_4 = r_w := hw.symm
    refine lv_istore_n (lv' := [(2, .int r_4), (0, .ref qX), (1, .int a1)]) hx hb dX6_judge_31 rfl hl (by decide) rfl (fun ls hl => ?_)
    refine lv_iload_n hx hb dX6_judge_32 rfl (lv_at hl 0 rfl) ?_
    refine lv_bipush (v := (-5)) hx hb dX6_judge_33 (by decide) ?_
    refine lv_icmp_eq (tgt := 49) hx hb dX6_judge_35 (by decide) (fun c_9 => ?_) (fun c_9 => ?_)
    · have hF := q_if_t c_9 hF
      refine lv_iload_n hx hb dX6_judge_49 rfl (lv_at hl 0 rfl) ?_
      cases hF
      exact r_iret hx hb hr hlk hS () rfl hP hD dX6_judge_50
    · have hF := q_if_f c_9 hF
      refine lv_iload_n hx hb dX6_judge_38 rfl (lv_at hl 0 rfl) ?_
      refine lv_bipush (v := (-3)) hx hb dX6_judge_39 (by decide) ?_
      refine lv_icmp_ne (tgt := 51) hx hb dX6_judge_41 (by decide) (fun c_10 => ?_) (fun c_10 => ?_)
      · have hF := q_if_f c_10 hF
        refine lv_iload_n hx hb dX6_judge_51 rfl (lv_at hl 2 rfl) ?_
        by_cases k_11 : a1 = 0
        · have hF := q_if_t k_11 hF
          refine gtop (y := 0) k_11 ?_
          refine lv_lookup (tgt := 80) (off := 28) hx hb dX6_judge_52 (by decide) (by decide) (by decide) ?_
          refine lv_aload_n hx hb dX6_judge_80 rfl (lv_at hl 1 rfl) ?_
          refine va_get (D := g.1) (ci := 6) (v := .ref (AX 4)) (C := RX6) (T := TX6) (N := 8) hx hb hts hi6 hown hK hP 0 rfl rfl 4 (by decide) (hts (.fieldLink RX6 33 "PanTales" "night" "LPanTales$Night;") (by decide +kernel)) (fun _ h9 => h9) rfl dX6_judge_81 ?_
          refine va_getN (D := g.1) (ci := 2) (v := .int (σN_5 99 2)) (C := RX2) (T := TX2) (N := 6) hx hb hts hi2 hown hK hP 1 rfl rfl 2 (by decide) (va_Nw.use rfl (hN.get 20 rfl)) (fun _ h9 => h9) rfl dX6_judge_84 ?_
          cases hF
          exact r_iret hx hb hr hlk hS () rfl hP hD dX6_judge_87
        have hF := q_if_f k_11 hF
        by_cases k_12 : a1 = 1
        · have hF := q_if_t k_12 hF
          refine gtop (y := 1) k_12 ?_
          refine lv_lookup (tgt := 88) (off := 36) hx hb dX6_judge_52 (by decide) (by decide) (by decide) ?_
          refine lv_aload_n hx hb dX6_judge_88 rfl (lv_at hl 1 rfl) ?_
          refine va_get (D := g.1) (ci := 6) (v := .ref (AX 4)) (C := RX6) (T := TX6) (N := 8) hx hb hts hi6 hown hK hP 0 rfl rfl 4 (by decide) (hts (.fieldLink RX6 33 "PanTales" "night" "LPanTales$Night;") (by decide +kernel)) (fun _ h9 => h9) rfl dX6_judge_89 ?_
          refine va_getN (D := g.1) (ci := 2) (v := .int (σN_5 99 3)) (C := RX2) (T := TX2) (N := 6) hx hb hts hi2 hown hK hP 1 rfl rfl 3 (by decide) (va_Nw.use rfl (hN.get 21 rfl)) (fun _ h9 => h9) rfl dX6_judge_92 ?_
          cases hF
          exact r_iret hx hb hr hlk hS () rfl hP hD dX6_judge_95
        have hF := q_if_f k_12 hF
        refine lv_lookup (tgt := 96) (off := 44) hx hb dX6_judge_52 (by decide) (by show (if (0 : Int) = (a1 : Int32).toInt then (28 : Int) else if (1 : Int) = (a1 : Int32).toInt then (36 : Int) else 44) = (44 : Int); rw [if_neg (sw_ne k_11 (by decide)), if_neg (sw_ne k_12 (by decide))]) (by decide) ?_
        refine lv_aload_n hx hb dX6_judge_96 rfl (lv_at hl 1 rfl) ?_
        refine va_get (D := g.1) (ci := 6) (v := .ref (AX 4)) (C := RX6) (T := TX6) (N := 8) hx hb hts hi6 hown hK hP 0 rfl rfl 4 (by decide) (hts (.fieldLink RX6 33 "PanTales" "night" "LPanTales$Night;") (by decide +kernel)) (fun _ h9 => h9) rfl dX6_judge_97 ?_
        refine va_getN (D := g.1) (ci := 2) (v := .int (σN_5 99 1)) (C := RX2) (T := TX2) (N := 6) hx hb hts hi2 hown hK hP 1 rfl rfl 1 (by decide) (va_Nw.use rfl (hN.get 19 rfl)) (fun _ h9 => h9) rfl dX6_judge_100 ?_
        cases hF
        exact r_iret hx hb hr hlk hS () rfl hP hD dX6_judge_103
      · have hF := q_if_t (by first | exact c_10 | exact Classical.not_not.mp c_10) hF
        refine lv_iload_n hx hb dX6_judge_44 rfl (lv_at hl 2 rfl) ?_
        refine lv_iconst (v := 2) hx hb dX6_judge_45 (by decide) ?_
        refine lv_icmp_ne (tgt := 51) hx hb dX6_judge_46 (by decide) (fun c_13 => ?_) (fun c_13 => ?_)
        · have hF := q_if_f c_13 hF
          refine lv_iload_n hx hb dX6_judge_51 rfl (lv_at hl 2 rfl) ?_
          by_cases k_14 : a1 = 0
          · have hF := q_if_t k_14 hF
            refine gtop (y := 0) k_14 ?_
            refine lv_lookup (tgt := 80) (off := 28) hx hb dX6_judge_52 (by decide) (by decide) (by decide) ?_
            refine lv_aload_n hx hb dX6_judge_80 rfl (lv_at hl 1 rfl) ?_
            refine va_get (D := g.1) (ci := 6) (v := .ref (AX 4)) (C := RX6) (T := TX6) (N := 8) hx hb hts hi6 hown hK hP 0 rfl rfl 4 (by decide) (hts (.fieldLink RX6 33 "PanTales" "night" "LPanTales$Night;") (by decide +kernel)) (fun _ h9 => h9) rfl dX6_judge_81 ?_
            refine va_getN (D := g.1) (ci := 2) (v := .int (σN_5 99 2)) (C := RX2) (T := TX2) (N := 6) hx hb hts hi2 hown hK hP 1 rfl rfl 2 (by decide) (va_Nw.use rfl (hN.get 20 rfl)) (fun _ h9 => h9) rfl dX6_judge_84 ?_
            cases hF
            exact r_iret hx hb hr hlk hS () rfl hP hD dX6_judge_87
          have hF := q_if_f k_14 hF
          by_cases k_15 : a1 = 1
          · have hF := q_if_t k_15 hF
            refine gtop (y := 1) k_15 ?_
            refine lv_lookup (tgt := 88) (off := 36) hx hb dX6_judge_52 (by decide) (by decide) (by decide) ?_
            refine lv_aload_n hx hb dX6_judge_88 rfl (lv_at hl 1 rfl) ?_
            refine va_get (D := g.1) (ci := 6) (v := .ref (AX 4)) (C := RX6) (T := TX6) (N := 8) hx hb hts hi6 hown hK hP 0 rfl rfl 4 (by decide) (hts (.fieldLink RX6 33 "PanTales" "night" "LPanTales$Night;") (by decide +kernel)) (fun _ h9 => h9) rfl dX6_judge_89 ?_
            refine va_getN (D := g.1) (ci := 2) (v := .int (σN_5 99 3)) (C := RX2) (T := TX2) (N := 6) hx hb hts hi2 hown hK hP 1 rfl rfl 3 (by decide) (va_Nw.use rfl (hN.get 21 rfl)) (fun _ h9 => h9) rfl dX6_judge_92 ?_
            cases hF
            exact r_iret hx hb hr hlk hS () rfl hP hD dX6_judge_95
          have hF := q_if_f k_15 hF
          refine lv_lookup (tgt := 96) (off := 44) hx hb dX6_judge_52 (by decide) (by show (if (0 : Int) = (a1 : Int32).toInt then (28 : Int) else if (1 : Int) = (a1 : Int32).toInt then (36 : Int) else 44) = (44 : Int); rw [if_neg (sw_ne k_14 (by decide)), if_neg (sw_ne k_15 (by decide))]) (by decide) ?_
          refine lv_aload_n hx hb dX6_judge_96 rfl (lv_at hl 1 rfl) ?_
          refine va_get (D := g.1) (ci := 6) (v := .ref (AX 4)) (C := RX6) (T := TX6) (N := 8) hx hb hts hi6 hown hK hP 0 rfl rfl 4 (by decide) (hts (.fieldLink RX6 33 "PanTales" "night" "LPanTales$Night;") (by decide +kernel)) (fun _ h9 => h9) rfl dX6_judge_97 ?_
          refine va_getN (D := g.1) (ci := 2) (v := .int (σN_5 99 1)) (C := RX2) (T := TX2) (N := 6) hx hb hts hi2 hown hK hP 1 rfl rfl 1 (by decide) (va_Nw.use rfl (hN.get 19 rfl)) (fun _ h9 => h9) rfl dX6_judge_100 ?_
          cases hF
          exact r_iret hx hb hr hlk hS () rfl hP hD dX6_judge_103
        · have hF := q_if_t (by first | exact c_13 | exact Classical.not_not.mp c_13) hF
          refine lv_iload_n hx hb dX6_judge_49 rfl (lv_at hl 0 rfl) ?_
          cases hF
          exact r_iret hx hb hr hlk hS () rfl hP hD dX6_judge_50
  · have hF := q_if_t (by first | exact c_3 | exact Classical.not_not.mp c_3) hF
    refine lv_bipush (v := (-2)) hx hb dX6_judge_9 (by decide) ?_
    cases hF
    exact r_iret hx hb hr hlk hS () rfl hP hD dX6_judge_11
set_option maxHeartbeats 4000000 in
set_option maxRecDepth 100000 in
theorem m_X6_behind (l : Launch) (g : GT) (sz : Nat) (qX : Nat) (AX : Nat → Nat) (σN : qS) (AP : Nat → Nat) (σP : qS) (AD : Nat → Nat) (σD : qS) (AC : Nat → Nat) (σC : qS) (a1 : Int32) (a2 : Int32) (rr : Int32) (σN' : qS) (σD' : qS) (hF : f_X6_behind σN σP σD σC a1 a2 = some (rr, σN', σD')) : Ci l yX6_behind wsX6_behind { frames := 6, cells := 0, slots := 0, locals := 139 } g sz [.ref qX, .int a1, .int a2] (wX6 qX AX ++ wX2 (AX 4) σN ++ wX3 g (AX 3) AP σP ++ wX1 g (AX 1) AD σD ++ wX1 g (AX 0) AC σC) rr (wX6 qX AX ++ wX2 (AX 4) σN' ++ wX3 g (AX 3) AP σP ++ wX1 g (AX 1) AD σD' ++ wX1 g (AX 0) AC σC) := by
  refine gMet_i (cc := cX6_behind) (maxL := 4) (ret := (some .int)) (by decide) rfl (Nat.le_of_ble_eq_true rfl) ?_
  intro p e s m args below meth c Z hx hb hr F hlk hnm hK hN hA H locs hP hD hS ls hl
  have hl : lv_has ls 4 [(0, .ref qX), (1, .int a1), (2, .int a2)] := hl
  have F : CallFix p m c cX6_behind 4 s args wsX6_behind RX6 := F
  have hts := F.2.2.2.2
  have hown : s.vm.findClass RX6 = some m.cls := F.2.2.2.1
  have hi6 : ∀ w ∈ u_ws RX6 TX6 8, w ∈ wsX6_behind := by decide +kernel
  dsimp only [f_X6_behind] at hF
  refine lv_iload_n hx hb dX6_behind_0 rfl (lv_at hl 1 rfl) ?_
  obtain ⟨r_1, h_2, hF⟩ := q_cl_s hF
  refine gcP (As := [.int a1]) (rest := []) F (m_X6_isHouse l a1 r_1 h_2) gX6_behind_X6_isHouse kX6_isHouse rfl rfl rfl ⟨(Nat.le_of_ble_eq_true rfl), (Nat.le_of_ble_eq_true rfl)⟩ rfl rfl hl.1 (Nat.le_of_ble_eq_true rfl) dX6_behind_1 ⟨(Nat.le_of_ble_eq_true rfl), (Nat.le_of_ble_eq_true rfl)⟩ ?_
  refine lv_if_ne (tgt := 9) hx hb dX6_behind_4 (by decide) (fun c_3 => ?_) (fun c_3 => ?_)
  · have hF := q_if_f c_3 hF
    refine lv_iload_n hx hb dX6_behind_9 rfl (lv_at hl 2 rfl) ?_
    refine lv_iconst (v := 0) hx hb dX6_behind_10 (by decide) ?_
    refine lv_iconst (v := 2) hx hb dX6_behind_11 (by decide) ?_
    obtain ⟨r_4, h_5, hF⟩ := q_cl_s hF
    refine gcP (As := [.int a2, .int 0, .int 2]) (rest := []) F (m_X6_within l a2 (0 : Int32) (2 : Int32) r_4 h_5) gX6_behind_X6_within kX6_within rfl rfl rfl ⟨(Nat.le_of_ble_eq_true rfl), (Nat.le_of_ble_eq_true rfl)⟩ rfl rfl hl.1 (Nat.le_of_ble_eq_true rfl) dX6_behind_12 ⟨(Nat.le_of_ble_eq_true rfl), (Nat.le_of_ble_eq_true rfl)⟩ ?_
    refine lv_if_ne (tgt := 21) hx hb dX6_behind_15 (by decide) (fun c_6 => ?_) (fun c_6 => ?_)
    · have hF := q_if_f c_6 hF
      refine lv_aload_n hx hb dX6_behind_21 rfl (lv_at hl 0 rfl) ?_
      refine va_get (D := g.1) (ci := 6) (v := .ref (AX 4)) (C := RX6) (T := TX6) (N := 8) hx hb hts hi6 hown hK hP 0 rfl rfl 4 (by decide) (hts (.fieldLink RX6 33 "PanTales" "night" "LPanTales$Night;") (by decide +kernel)) (fun _ h9 => h9) rfl dX6_behind_22 ?_
      refine lv_aload_n hx hb dX6_behind_25 rfl (lv_at hl 0 rfl) ?_
      refine va_get (D := g.1) (ci := 6) (v := .ref (AX 3)) (C := RX6) (T := TX6) (N := 8) hx hb hts hi6 hown hK hP 0 rfl rfl 3 (by decide) (hts (.fieldLink RX6 26 "PanTales" "pad" "LPanTales$Pad;") (by decide +kernel)) (fun _ h9 => h9) rfl dX6_behind_26 ?_
      refine lv_aload_n hx hb dX6_behind_29 rfl (lv_at hl 0 rfl) ?_
      refine va_get (D := g.1) (ci := 6) (v := .ref (AX 1)) (C := RX6) (T := TX6) (N := 8) hx hb hts hi6 hown hK hP 0 rfl rfl 1 (by decide) (hts (.fieldLink RX6 16 "PanTales" "draft" "LPanTales$Close;") (by decide +kernel)) (fun _ h9 => h9) rfl dX6_behind_30 ?_
      refine lv_aload_n hx hb dX6_behind_33 rfl (lv_at hl 0 rfl) ?_
      refine va_get (D := g.1) (ci := 6) (v := .ref (AX 0)) (C := RX6) (T := TX6) (N := 8) hx hb hts hi6 hown hK hP 0 rfl rfl 0 (by decide) (hts (.fieldLink RX6 12 "PanTales" "close" "LPanTales$Close;") (by decide +kernel)) (fun _ h9 => h9) rfl dX6_behind_34 ?_
      obtain ⟨⟨r_7, σN_8, σD_9⟩, h_10, hF⟩ := q_cl_s hF
      try dsimp only at hF
      refine gcV_i (As := [.ref (AX 3), .ref (AX 1), .ref (AX 0)]) (rest := []) (ci := 2) (q := (RX2, TX2, 6)) F hK hN hP hD hS hA (m_X2_pass l g H.size (AX 4) σN (AX 3) AP σP (AX 1) AD σD (AX 0) AC σC r_7 σN_8 σD_9 h_10) gX6_behind_X2_pass kX2_pass rfl rfl rfl rfl ⟨(Nat.le_of_ble_eq_true rfl), (Nat.le_of_ble_eq_true rfl)⟩ [1, 2, 3, 4, 5, 6, 7, 8, 9, 10, 11, 12, 13, 14, 15, 16, 17, 18, 19] [0] rfl rfl rfl (by decide) rfl rfl rfl rfl rfl hl.1 (Nat.le_of_ble_eq_true rfl) dX6_behind_37 ⟨(Nat.le_of_ble_eq_true rfl), (Nat.le_of_ble_eq_true rfl)⟩ (fun r_w u_w H locs hw hP hD hS => ?_)
      have hP : va_P g.1 vwCl (wX6 qX AX ++ wX2 (AX 4) σN_8 ++ wX3 g (AX 3) AP σP ++ wX1 g (AX 1) AD σD_9 ++ wX1 g (AX 0) AC σC) H := hP
      have hD : va_D Z (wX6 qX AX ++ wX2 (AX 4) σN_8 ++ wX3 g (AX 3) AP σP ++ wX1 g (AX 1) AD σD_9 ++ wX1 g (AX 0) AC σC) := hD
      obtain rfl : r_7 = r_w := hw.symm
      refine lv_istore_n (lv' := [(3, .int r_7), (0, .ref qX), (1, .int a1), (2, .int a2)]) hx hb dX6_behind_40 rfl hl (by decide) rfl (fun ls hl => ?_)
      refine lv_iload_n hx hb dX6_behind_41 rfl (lv_at hl 0 rfl) ?_
      refine lv_if_ne (tgt := 57) hx hb dX6_behind_42 (by decide) (fun c_12 => ?_) (fun c_12 => ?_)
      · have hF := q_if_f c_12 hF
        refine lv_iload_n hx hb dX6_behind_57 rfl (lv_at hl 0 rfl) ?_
        cases hF
        exact r_iret hx hb hr hlk hS () rfl hP hD dX6_behind_58
      · have hF := q_if_t (by first | exact c_12 | exact Classical.not_not.mp c_12) hF
        refine lv_aload_n hx hb dX6_behind_45 rfl (lv_at hl 1 rfl) ?_
        refine va_get (D := g.1) (ci := 6) (v := .ref (AX 1)) (C := RX6) (T := TX6) (N := 8) hx hb hts hi6 hown hK hP 0 rfl rfl 1 (by decide) (hts (.fieldLink RX6 16 "PanTales" "draft" "LPanTales$Close;") (by decide +kernel)) (fun _ h9 => h9) rfl dX6_behind_46 ?_
        refine lv_iload_n hx hb dX6_behind_49 rfl (lv_at hl 2 rfl) ?_
        refine lv_iload_n hx hb dX6_behind_50 rfl (lv_at hl 3 rfl) ?_
        obtain ⟨r_13, h_14, hF⟩ := q_cl_s hF
        refine gcV_i (As := [.int a1, .int a2]) (rest := []) (ci := 1) (q := (RX1, TX1, 12)) F hK hN hP hD hS hA (m_X1_houseFact l g H.size (AX 1) AD σD_9 a1 a2 r_13 h_14) gX6_behind_X1_houseFact kX1_houseFact rfl rfl rfl rfl ⟨(Nat.le_of_ble_eq_true rfl), (Nat.le_of_ble_eq_true rfl)⟩ [4, 5, 6, 7, 8, 9, 10, 11] [0, 1, 2, 3, 12, 13, 14, 15, 16, 17, 18, 19] rfl rfl rfl (by decide) rfl rfl rfl rfl rfl hl.1 (Nat.le_of_ble_eq_true rfl) dX6_behind_51 ⟨(Nat.le_of_ble_eq_true rfl), (Nat.le_of_ble_eq_true rfl)⟩ (fun r_w u_w H locs hw hP hD hS => ?_)
        have hP : va_P g.1 vwCl (wX6 qX AX ++ wX2 (AX 4) σN_8 ++ wX3 g (AX 3) AP σP ++ wX1 g (AX 1) AD σD_9 ++ wX1 g (AX 0) AC σC) H := hP.sub [0, 1, 2, 3, 12, 13, 14, 15, 16, 17, 18, 19, 4, 5, 6, 7, 8, 9, 10, 11] rfl
        have hD : va_D Z (wX6 qX AX ++ wX2 (AX 4) σN_8 ++ wX3 g (AX 3) AP σP ++ wX1 g (AX 1) AD σD_9 ++ wX1 g (AX 0) AC σC) := hD.sub [0, 1, 2, 3, 12, 13, 14, 15, 16, 17, 18, 19, 4, 5, 6, 7, 8, 9, 10, 11] (by decide) rfl
        obtain rfl : r_13 = r_w := hw.symm
        refine lv_goto (tgt := 58) hx hb dX6_behind_54 (by decide) ?_
        cases hF
        exact r_iret hx hb hr hlk hS () rfl hP hD dX6_behind_58
    · have hF := q_if_t (by first | exact c_6 | exact Classical.not_not.mp c_6) hF
      refine lv_bipush (v := (-2)) hx hb dX6_behind_18 (by decide) ?_
      cases hF
      exact r_iret hx hb hr hlk hS () rfl hP hD dX6_behind_20
  · have hF := q_if_t (by first | exact c_3 | exact Classical.not_not.mp c_3) hF
    refine lv_iconst (v := (-1)) hx hb dX6_behind_7 (by decide) ?_
    cases hF
    exact r_iret hx hb hr hlk hS () rfl hP hD dX6_behind_8
set_option maxHeartbeats 4000000 in
set_option maxRecDepth 100000 in
theorem m_X6_pan (l : Launch) (g : GT) (sz : Nat) (qX : Nat) (AX : Nat → Nat) (σN : qS) (AP : Nat → Nat) (σP : qS) (AD : Nat → Nat) (σD : qS) (AC : Nat → Nat) (σC : qS) (a1 : Int32) (rr : Int32) (σN' : qS) (σD' : qS) (hF : f_X6_pan σN σP σD σC a1 = some (rr, σN', σD')) : Ci l yX6_pan wsX6_pan { frames := 6, cells := 0, slots := 0, locals := 139 } g sz [.ref qX, .int a1] (wX6 qX AX ++ wX2 (AX 4) σN ++ wX3 g (AX 3) AP σP ++ wX1 g (AX 1) AD σD ++ wX1 g (AX 0) AC σC) rr (wX6 qX AX ++ wX2 (AX 4) σN' ++ wX3 g (AX 3) AP σP ++ wX1 g (AX 1) AD σD' ++ wX1 g (AX 0) AC σC) := by
  refine gMet_i (cc := cX6_pan) (maxL := 3) (ret := (some .int)) (by decide) rfl (Nat.le_of_ble_eq_true rfl) ?_
  intro p e s m args below meth c Z hx hb hr F hlk hnm hK hN hA H locs hP hD hS ls hl
  have hl : lv_has ls 3 [(0, .ref qX), (1, .int a1)] := hl
  have F : CallFix p m c cX6_pan 3 s args wsX6_pan RX6 := F
  have hts := F.2.2.2.2
  have hown : s.vm.findClass RX6 = some m.cls := F.2.2.2.1
  have hi6 : ∀ w ∈ u_ws RX6 TX6 8, w ∈ wsX6_pan := by decide +kernel
  dsimp only [f_X6_pan] at hF
  refine lv_iload_n hx hb dX6_pan_0 rfl (lv_at hl 1 rfl) ?_
  refine lv_iconst (v := 0) hx hb dX6_pan_1 (by decide) ?_
  refine lv_iconst (v := 3) hx hb dX6_pan_2 (by decide) ?_
  obtain ⟨r_1, h_2, hF⟩ := q_cl_s hF
  refine gcP (As := [.int a1, .int 0, .int 3]) (rest := []) F (m_X6_within l a1 (0 : Int32) (3 : Int32) r_1 h_2) gX6_pan_X6_within kX6_within rfl rfl rfl ⟨(Nat.le_of_ble_eq_true rfl), (Nat.le_of_ble_eq_true rfl)⟩ rfl rfl hl.1 (Nat.le_of_ble_eq_true rfl) dX6_pan_3 ⟨(Nat.le_of_ble_eq_true rfl), (Nat.le_of_ble_eq_true rfl)⟩ ?_
  refine lv_if_ne (tgt := 12) hx hb dX6_pan_6 (by decide) (fun c_3 => ?_) (fun c_3 => ?_)
  · have hF := q_if_f c_3 hF
    refine lv_aload_n hx hb dX6_pan_12 rfl (lv_at hl 0 rfl) ?_
    refine va_get (D := g.1) (ci := 6) (v := .ref (AX 4)) (C := RX6) (T := TX6) (N := 8) hx hb hts hi6 hown hK hP 0 rfl rfl 4 (by decide) (hts (.fieldLink RX6 33 "PanTales" "night" "LPanTales$Night;") (by decide +kernel)) (fun _ h9 => h9) rfl dX6_pan_13 ?_
    refine lv_aload_n hx hb dX6_pan_16 rfl (lv_at hl 0 rfl) ?_
    refine va_get (D := g.1) (ci := 6) (v := .ref (AX 3)) (C := RX6) (T := TX6) (N := 8) hx hb hts hi6 hown hK hP 0 rfl rfl 3 (by decide) (hts (.fieldLink RX6 26 "PanTales" "pad" "LPanTales$Pad;") (by decide +kernel)) (fun _ h9 => h9) rfl dX6_pan_17 ?_
    refine lv_aload_n hx hb dX6_pan_20 rfl (lv_at hl 0 rfl) ?_
    refine va_get (D := g.1) (ci := 6) (v := .ref (AX 1)) (C := RX6) (T := TX6) (N := 8) hx hb hts hi6 hown hK hP 0 rfl rfl 1 (by decide) (hts (.fieldLink RX6 16 "PanTales" "draft" "LPanTales$Close;") (by decide +kernel)) (fun _ h9 => h9) rfl dX6_pan_21 ?_
    refine lv_aload_n hx hb dX6_pan_24 rfl (lv_at hl 0 rfl) ?_
    refine va_get (D := g.1) (ci := 6) (v := .ref (AX 0)) (C := RX6) (T := TX6) (N := 8) hx hb hts hi6 hown hK hP 0 rfl rfl 0 (by decide) (hts (.fieldLink RX6 12 "PanTales" "close" "LPanTales$Close;") (by decide +kernel)) (fun _ h9 => h9) rfl dX6_pan_25 ?_
    obtain ⟨⟨r_4, σN_5, σD_6⟩, h_7, hF⟩ := q_cl_s hF
    try dsimp only at hF
    refine gcV_i (As := [.ref (AX 3), .ref (AX 1), .ref (AX 0)]) (rest := []) (ci := 2) (q := (RX2, TX2, 6)) F hK hN hP hD hS hA (m_X2_pass l g H.size (AX 4) σN (AX 3) AP σP (AX 1) AD σD (AX 0) AC σC r_4 σN_5 σD_6 h_7) gX6_pan_X2_pass kX2_pass rfl rfl rfl rfl ⟨(Nat.le_of_ble_eq_true rfl), (Nat.le_of_ble_eq_true rfl)⟩ [1, 2, 3, 4, 5, 6, 7, 8, 9, 10, 11, 12, 13, 14, 15, 16, 17, 18, 19] [0] rfl rfl rfl (by decide) rfl rfl rfl rfl rfl hl.1 (Nat.le_of_ble_eq_true rfl) dX6_pan_28 ⟨(Nat.le_of_ble_eq_true rfl), (Nat.le_of_ble_eq_true rfl)⟩ (fun r_w u_w H locs hw hP hD hS => ?_)
    have hP : va_P g.1 vwCl (wX6 qX AX ++ wX2 (AX 4) σN_5 ++ wX3 g (AX 3) AP σP ++ wX1 g (AX 1) AD σD_6 ++ wX1 g (AX 0) AC σC) H := hP
    have hD : va_D Z (wX6 qX AX ++ wX2 (AX 4) σN_5 ++ wX3 g (AX 3) AP σP ++ wX1 g (AX 1) AD σD_6 ++ wX1 g (AX 0) AC σC) := hD
    obtain rfl : r_4 = r_w := hw.symm
    refine lv_istore_n (lv' := [(2, .int r_4), (0, .ref qX), (1, .int a1)]) hx hb dX6_pan_31 rfl hl (by decide) rfl (fun ls hl => ?_)
    refine lv_iload_n hx hb dX6_pan_32 rfl (lv_at hl 0 rfl) ?_
    refine lv_if_ne (tgt := 47) hx hb dX6_pan_33 (by decide) (fun c_9 => ?_) (fun c_9 => ?_)
    · have hF := q_if_f c_9 hF
      refine lv_iload_n hx hb dX6_pan_47 rfl (lv_at hl 0 rfl) ?_
      cases hF
      exact r_iret hx hb hr hlk hS () rfl hP hD dX6_pan_48
    · have hF := q_if_t (by first | exact c_9 | exact Classical.not_not.mp c_9) hF
      refine lv_aload_n hx hb dX6_pan_36 rfl (lv_at hl 1 rfl) ?_
      refine va_get (D := g.1) (ci := 6) (v := .ref (AX 1)) (C := RX6) (T := TX6) (N := 8) hx hb hts hi6 hown hK hP 0 rfl rfl 1 (by decide) (hts (.fieldLink RX6 16 "PanTales" "draft" "LPanTales$Close;") (by decide +kernel)) (fun _ h9 => h9) rfl dX6_pan_37 ?_
      refine lv_iload_n hx hb dX6_pan_40 rfl (lv_at hl 2 rfl) ?_
      obtain ⟨r_10, h_11, hF⟩ := q_cl_s hF
      refine gcV_i (As := [.int a1]) (rest := []) (ci := 1) (q := (RX1, TX1, 12)) F hK hN hP hD hS hA (m_X1_panFact l g H.size (AX 1) AD σD_6 a1 r_10 h_11) gX6_pan_X1_panFact kX1_panFact rfl rfl rfl rfl ⟨(Nat.le_of_ble_eq_true rfl), (Nat.le_of_ble_eq_true rfl)⟩ [4, 5, 6, 7, 8, 9, 10, 11] [0, 1, 2, 3, 12, 13, 14, 15, 16, 17, 18, 19] rfl rfl rfl (by decide) rfl rfl rfl rfl rfl hl.1 (Nat.le_of_ble_eq_true rfl) dX6_pan_41 ⟨(Nat.le_of_ble_eq_true rfl), (Nat.le_of_ble_eq_true rfl)⟩ (fun r_w u_w H locs hw hP hD hS => ?_)
      have hP : va_P g.1 vwCl (wX6 qX AX ++ wX2 (AX 4) σN_5 ++ wX3 g (AX 3) AP σP ++ wX1 g (AX 1) AD σD_6 ++ wX1 g (AX 0) AC σC) H := hP.sub [0, 1, 2, 3, 12, 13, 14, 15, 16, 17, 18, 19, 4, 5, 6, 7, 8, 9, 10, 11] rfl
      have hD : va_D Z (wX6 qX AX ++ wX2 (AX 4) σN_5 ++ wX3 g (AX 3) AP σP ++ wX1 g (AX 1) AD σD_6 ++ wX1 g (AX 0) AC σC) := hD.sub [0, 1, 2, 3, 12, 13, 14, 15, 16, 17, 18, 19, 4, 5, 6, 7, 8, 9, 10, 11] (by decide) rfl
      obtain rfl : r_10 = r_w := hw.symm
      refine lv_goto (tgt := 48) hx hb dX6_pan_44 (by decide) ?_
      cases hF
      exact r_iret hx hb hr hlk hS () rfl hP hD dX6_pan_48
  · have hF := q_if_t (by first | exact c_3 | exact Classical.not_not.mp c_3) hF
    refine lv_bipush (v := (-2)) hx hb dX6_pan_9 (by decide) ?_
    cases hF
    exact r_iret hx hb hr hlk hS () rfl hP hD dX6_pan_11
set_option maxHeartbeats 4000000 in
set_option maxRecDepth 100000 in
theorem m_X6_holds (l : Launch) (g : GT) (sz : Nat) (qX : Nat) (AX : Nat → Nat) (σN : qS) (AP : Nat → Nat) (σP : qS) (AD : Nat → Nat) (σD : qS) (AC : Nat → Nat) (σC : qS) (a1 : Int32) (rr : Int32) (σN' : qS) (σD' : qS) (hF : f_X6_holds σN σP σD σC a1 = some (rr, σN', σD')) : Ci l yX6_holds wsX6_holds { frames := 6, cells := 0, slots := 0, locals := 139 } g sz [.ref qX, .int a1] (wX6 qX AX ++ wX2 (AX 4) σN ++ wX3 g (AX 3) AP σP ++ wX1 g (AX 1) AD σD ++ wX1 g (AX 0) AC σC) rr (wX6 qX AX ++ wX2 (AX 4) σN' ++ wX3 g (AX 3) AP σP ++ wX1 g (AX 1) AD σD' ++ wX1 g (AX 0) AC σC) := by
  refine gMet_i (cc := cX6_holds) (maxL := 3) (ret := (some .int)) (by decide) rfl (Nat.le_of_ble_eq_true rfl) ?_
  intro p e s m args below meth c Z hx hb hr F hlk hnm hK hN hA H locs hP hD hS ls hl
  have hl : lv_has ls 3 [(0, .ref qX), (1, .int a1)] := hl
  have F : CallFix p m c cX6_holds 3 s args wsX6_holds RX6 := F
  have hts := F.2.2.2.2
  have hown : s.vm.findClass RX6 = some m.cls := F.2.2.2.1
  have hi6 : ∀ w ∈ u_ws RX6 TX6 8, w ∈ wsX6_holds := by decide +kernel
  dsimp only [f_X6_holds] at hF
  refine lv_iload_n hx hb dX6_holds_0 rfl (lv_at hl 1 rfl) ?_
  obtain ⟨r_1, h_2, hF⟩ := q_cl_s hF
  refine gcP (As := [.int a1]) (rest := []) F (m_X6_isTale l a1 r_1 h_2) gX6_holds_X6_isTale kX6_isTale rfl rfl rfl ⟨(Nat.le_of_ble_eq_true rfl), (Nat.le_of_ble_eq_true rfl)⟩ rfl rfl hl.1 (Nat.le_of_ble_eq_true rfl) dX6_holds_1 ⟨(Nat.le_of_ble_eq_true rfl), (Nat.le_of_ble_eq_true rfl)⟩ ?_
  refine lv_if_ne (tgt := 9) hx hb dX6_holds_4 (by decide) (fun c_3 => ?_) (fun c_3 => ?_)
  · have hF := q_if_f c_3 hF
    refine lv_aload_n hx hb dX6_holds_9 rfl (lv_at hl 0 rfl) ?_
    refine va_get (D := g.1) (ci := 6) (v := .ref (AX 4)) (C := RX6) (T := TX6) (N := 8) hx hb hts hi6 hown hK hP 0 rfl rfl 4 (by decide) (hts (.fieldLink RX6 33 "PanTales" "night" "LPanTales$Night;") (by decide +kernel)) (fun _ h9 => h9) rfl dX6_holds_10 ?_
    refine lv_aload_n hx hb dX6_holds_13 rfl (lv_at hl 0 rfl) ?_
    refine va_get (D := g.1) (ci := 6) (v := .ref (AX 3)) (C := RX6) (T := TX6) (N := 8) hx hb hts hi6 hown hK hP 0 rfl rfl 3 (by decide) (hts (.fieldLink RX6 26 "PanTales" "pad" "LPanTales$Pad;") (by decide +kernel)) (fun _ h9 => h9) rfl dX6_holds_14 ?_
    refine lv_aload_n hx hb dX6_holds_17 rfl (lv_at hl 0 rfl) ?_
    refine va_get (D := g.1) (ci := 6) (v := .ref (AX 1)) (C := RX6) (T := TX6) (N := 8) hx hb hts hi6 hown hK hP 0 rfl rfl 1 (by decide) (hts (.fieldLink RX6 16 "PanTales" "draft" "LPanTales$Close;") (by decide +kernel)) (fun _ h9 => h9) rfl dX6_holds_18 ?_
    refine lv_aload_n hx hb dX6_holds_21 rfl (lv_at hl 0 rfl) ?_
    refine va_get (D := g.1) (ci := 6) (v := .ref (AX 0)) (C := RX6) (T := TX6) (N := 8) hx hb hts hi6 hown hK hP 0 rfl rfl 0 (by decide) (hts (.fieldLink RX6 12 "PanTales" "close" "LPanTales$Close;") (by decide +kernel)) (fun _ h9 => h9) rfl dX6_holds_22 ?_
    obtain ⟨⟨r_4, σN_5, σD_6⟩, h_7, hF⟩ := q_cl_s hF
    try dsimp only at hF
    refine gcV_i (As := [.ref (AX 3), .ref (AX 1), .ref (AX 0)]) (rest := []) (ci := 2) (q := (RX2, TX2, 6)) F hK hN hP hD hS hA (m_X2_pass l g H.size (AX 4) σN (AX 3) AP σP (AX 1) AD σD (AX 0) AC σC r_4 σN_5 σD_6 h_7) gX6_holds_X2_pass kX2_pass rfl rfl rfl rfl ⟨(Nat.le_of_ble_eq_true rfl), (Nat.le_of_ble_eq_true rfl)⟩ [1, 2, 3, 4, 5, 6, 7, 8, 9, 10, 11, 12, 13, 14, 15, 16, 17, 18, 19] [0] rfl rfl rfl (by decide) rfl rfl rfl rfl rfl hl.1 (Nat.le_of_ble_eq_true rfl) dX6_holds_25 ⟨(Nat.le_of_ble_eq_true rfl), (Nat.le_of_ble_eq_true rfl)⟩ (fun r_w u_w H locs hw hP hD hS => ?_)
    have hP : va_P g.1 vwCl (wX6 qX AX ++ wX2 (AX 4) σN_5 ++ wX3 g (AX 3) AP σP ++ wX1 g (AX 1) AD σD_6 ++ wX1 g (AX 0) AC σC) H := hP
    have hD : va_D Z (wX6 qX AX ++ wX2 (AX 4) σN_5 ++ wX3 g (AX 3) AP σP ++ wX1 g (AX 1) AD σD_6 ++ wX1 g (AX 0) AC σC) := hD
    obtain rfl : r_4 = r_w := hw.symm
    refine lv_istore_n (lv' := [(2, .int r_4), (0, .ref qX), (1, .int a1)]) hx hb dX6_holds_28 rfl hl (by decide) rfl (fun ls hl => ?_)
    refine lv_iload_n hx hb dX6_holds_29 rfl (lv_at hl 0 rfl) ?_
    refine lv_if_ne (tgt := 44) hx hb dX6_holds_30 (by decide) (fun c_9 => ?_) (fun c_9 => ?_)
    · have hF := q_if_f c_9 hF
      refine lv_iload_n hx hb dX6_holds_44 rfl (lv_at hl 0 rfl) ?_
      cases hF
      exact r_iret hx hb hr hlk hS () rfl hP hD dX6_holds_45
    · have hF := q_if_t (by first | exact c_9 | exact Classical.not_not.mp c_9) hF
      refine lv_aload_n hx hb dX6_holds_33 rfl (lv_at hl 1 rfl) ?_
      refine va_get (D := g.1) (ci := 6) (v := .ref (AX 1)) (C := RX6) (T := TX6) (N := 8) hx hb hts hi6 hown hK hP 0 rfl rfl 1 (by decide) (hts (.fieldLink RX6 16 "PanTales" "draft" "LPanTales$Close;") (by decide +kernel)) (fun _ h9 => h9) rfl dX6_holds_34 ?_
      refine lv_iload_n hx hb dX6_holds_37 rfl (lv_at hl 2 rfl) ?_
      obtain ⟨r_10, h_11, hF⟩ := q_cl_s hF
      refine gcV_i (As := [.int a1]) (rest := []) (ci := 1) (q := (RX1, TX1, 12)) F hK hN hP hD hS hA (m_X1_believersOf l g H.size (AX 1) AD σD_6 a1 r_10 h_11) gX6_holds_X1_believersOf kX1_believersOf rfl rfl rfl rfl ⟨(Nat.le_of_ble_eq_true rfl), (Nat.le_of_ble_eq_true rfl)⟩ [4, 5, 6, 7, 8, 9, 10, 11] [0, 1, 2, 3, 12, 13, 14, 15, 16, 17, 18, 19] rfl rfl rfl (by decide) rfl rfl rfl rfl rfl hl.1 (Nat.le_of_ble_eq_true rfl) dX6_holds_38 ⟨(Nat.le_of_ble_eq_true rfl), (Nat.le_of_ble_eq_true rfl)⟩ (fun r_w u_w H locs hw hP hD hS => ?_)
      have hP : va_P g.1 vwCl (wX6 qX AX ++ wX2 (AX 4) σN_5 ++ wX3 g (AX 3) AP σP ++ wX1 g (AX 1) AD σD_6 ++ wX1 g (AX 0) AC σC) H := hP.sub [0, 1, 2, 3, 12, 13, 14, 15, 16, 17, 18, 19, 4, 5, 6, 7, 8, 9, 10, 11] rfl
      have hD : va_D Z (wX6 qX AX ++ wX2 (AX 4) σN_5 ++ wX3 g (AX 3) AP σP ++ wX1 g (AX 1) AD σD_6 ++ wX1 g (AX 0) AC σC) := hD.sub [0, 1, 2, 3, 12, 13, 14, 15, 16, 17, 18, 19, 4, 5, 6, 7, 8, 9, 10, 11] (by decide) rfl
      obtain rfl : r_10 = r_w := hw.symm
      refine lv_goto (tgt := 45) hx hb dX6_holds_41 (by decide) ?_
      cases hF
      exact r_iret hx hb hr hlk hS () rfl hP hD dX6_holds_45
  · have hF := q_if_t (by first | exact c_3 | exact Classical.not_not.mp c_3) hF
    refine lv_iconst (v := (-1)) hx hb dX6_holds_7 (by decide) ?_
    cases hF
    exact r_iret hx hb hr hlk hS () rfl hP hD dX6_holds_8
set_option maxHeartbeats 4000000 in
set_option maxRecDepth 100000 in
theorem m_X6_other (l : Launch) (g : GT) (sz : Nat) (qX : Nat) (AX : Nat → Nat) (σN : qS) (AP : Nat → Nat) (σP : qS) (AD : Nat → Nat) (σD : qS) (AC : Nat → Nat) (σC : qS) (a1 : Int32) (rr : Int32) (σN' : qS) (σD' : qS) (hF : f_X6_other σN σP σD σC a1 = some (rr, σN', σD')) : Ci l yX6_other wsX6_other { frames := 6, cells := 0, slots := 0, locals := 139 } g sz [.ref qX, .int a1] (wX6 qX AX ++ wX2 (AX 4) σN ++ wX3 g (AX 3) AP σP ++ wX1 g (AX 1) AD σD ++ wX1 g (AX 0) AC σC) rr (wX6 qX AX ++ wX2 (AX 4) σN' ++ wX3 g (AX 3) AP σP ++ wX1 g (AX 1) AD σD' ++ wX1 g (AX 0) AC σC) := by
  refine gMet_i (cc := cX6_other) (maxL := 3) (ret := (some .int)) (by decide) rfl (Nat.le_of_ble_eq_true rfl) ?_
  intro p e s m args below meth c Z hx hb hr F hlk hnm hK hN hA H locs hP hD hS ls hl
  have hl : lv_has ls 3 [(0, .ref qX), (1, .int a1)] := hl
  have F : CallFix p m c cX6_other 3 s args wsX6_other RX6 := F
  have hts := F.2.2.2.2
  have hown : s.vm.findClass RX6 = some m.cls := F.2.2.2.1
  have hi2 : ∀ w ∈ u_ws RX2 TX2 6, w ∈ wsX6_other := by decide +kernel
  have hi6 : ∀ w ∈ u_ws RX6 TX6 8, w ∈ wsX6_other := by decide +kernel
  dsimp only [f_X6_other] at hF
  refine lv_iload_n hx hb dX6_other_0 rfl (lv_at hl 1 rfl) ?_
  refine lv_iconst (v := 0) hx hb dX6_other_1 (by decide) ?_
  refine lv_iconst (v := 1) hx hb dX6_other_2 (by decide) ?_
  obtain ⟨r_1, h_2, hF⟩ := q_cl_s hF
  refine gcP (As := [.int a1, .int 0, .int 1]) (rest := []) F (m_X6_within l a1 (0 : Int32) (1 : Int32) r_1 h_2) gX6_other_X6_within kX6_within rfl rfl rfl ⟨(Nat.le_of_ble_eq_true rfl), (Nat.le_of_ble_eq_true rfl)⟩ rfl rfl hl.1 (Nat.le_of_ble_eq_true rfl) dX6_other_3 ⟨(Nat.le_of_ble_eq_true rfl), (Nat.le_of_ble_eq_true rfl)⟩ ?_
  refine lv_if_ne (tgt := 12) hx hb dX6_other_6 (by decide) (fun c_3 => ?_) (fun c_3 => ?_)
  · have hF := q_if_f c_3 hF
    refine lv_aload_n hx hb dX6_other_12 rfl (lv_at hl 0 rfl) ?_
    refine va_get (D := g.1) (ci := 6) (v := .ref (AX 4)) (C := RX6) (T := TX6) (N := 8) hx hb hts hi6 hown hK hP 0 rfl rfl 4 (by decide) (hts (.fieldLink RX6 33 "PanTales" "night" "LPanTales$Night;") (by decide +kernel)) (fun _ h9 => h9) rfl dX6_other_13 ?_
    refine lv_aload_n hx hb dX6_other_16 rfl (lv_at hl 0 rfl) ?_
    refine va_get (D := g.1) (ci := 6) (v := .ref (AX 3)) (C := RX6) (T := TX6) (N := 8) hx hb hts hi6 hown hK hP 0 rfl rfl 3 (by decide) (hts (.fieldLink RX6 26 "PanTales" "pad" "LPanTales$Pad;") (by decide +kernel)) (fun _ h9 => h9) rfl dX6_other_17 ?_
    refine lv_aload_n hx hb dX6_other_20 rfl (lv_at hl 0 rfl) ?_
    refine va_get (D := g.1) (ci := 6) (v := .ref (AX 1)) (C := RX6) (T := TX6) (N := 8) hx hb hts hi6 hown hK hP 0 rfl rfl 1 (by decide) (hts (.fieldLink RX6 16 "PanTales" "draft" "LPanTales$Close;") (by decide +kernel)) (fun _ h9 => h9) rfl dX6_other_21 ?_
    refine lv_aload_n hx hb dX6_other_24 rfl (lv_at hl 0 rfl) ?_
    refine va_get (D := g.1) (ci := 6) (v := .ref (AX 0)) (C := RX6) (T := TX6) (N := 8) hx hb hts hi6 hown hK hP 0 rfl rfl 0 (by decide) (hts (.fieldLink RX6 12 "PanTales" "close" "LPanTales$Close;") (by decide +kernel)) (fun _ h9 => h9) rfl dX6_other_25 ?_
    obtain ⟨⟨r_4, σN_5, σD_6⟩, h_7, hF⟩ := q_cl_s hF
    try dsimp only at hF
    refine gcV_i (As := [.ref (AX 3), .ref (AX 1), .ref (AX 0)]) (rest := []) (ci := 2) (q := (RX2, TX2, 6)) F hK hN hP hD hS hA (m_X2_pass l g H.size (AX 4) σN (AX 3) AP σP (AX 1) AD σD (AX 0) AC σC r_4 σN_5 σD_6 h_7) gX6_other_X2_pass kX2_pass rfl rfl rfl rfl ⟨(Nat.le_of_ble_eq_true rfl), (Nat.le_of_ble_eq_true rfl)⟩ [1, 2, 3, 4, 5, 6, 7, 8, 9, 10, 11, 12, 13, 14, 15, 16, 17, 18, 19] [0] rfl rfl rfl (by decide) rfl rfl rfl rfl rfl hl.1 (Nat.le_of_ble_eq_true rfl) dX6_other_28 ⟨(Nat.le_of_ble_eq_true rfl), (Nat.le_of_ble_eq_true rfl)⟩ (fun r_w u_w H locs hw hP hD hS => ?_)
    have hP : va_P g.1 vwCl (wX6 qX AX ++ wX2 (AX 4) σN_5 ++ wX3 g (AX 3) AP σP ++ wX1 g (AX 1) AD σD_6 ++ wX1 g (AX 0) AC σC) H := hP
    have hD : va_D Z (wX6 qX AX ++ wX2 (AX 4) σN_5 ++ wX3 g (AX 3) AP σP ++ wX1 g (AX 1) AD σD_6 ++ wX1 g (AX 0) AC σC) := hD
    obtain rfl : r_4 = r_w := hw.symm
    refine lv_istore_n (lv' := [(2, .int r_4), (0, .ref qX), (1, .int a1)]) hx hb dX6_other_31 rfl hl (by decide) rfl (fun ls hl => ?_)
    refine lv_iload_n hx hb dX6_other_32 rfl (lv_at hl 0 rfl) ?_
    refine lv_if_eq (tgt := 38) hx hb dX6_other_33 (by decide) (fun c_9 => ?_) (fun c_9 => ?_)
    · have hF := q_if_t c_9 hF
      refine lv_iload_n hx hb dX6_other_38 rfl (lv_at hl 2 rfl) ?_
      refine lv_if_ne (tgt := 52) hx hb dX6_other_39 (by decide) (fun c_10 => ?_) (fun c_10 => ?_)
      · have hF := q_if_f c_10 hF
        refine lv_aload_n hx hb dX6_other_52 rfl (lv_at hl 1 rfl) ?_
        refine va_get (D := g.1) (ci := 6) (v := .ref (AX 4)) (C := RX6) (T := TX6) (N := 8) hx hb hts hi6 hown hK hP 0 rfl rfl 4 (by decide) (hts (.fieldLink RX6 33 "PanTales" "night" "LPanTales$Night;") (by decide +kernel)) (fun _ h9 => h9) rfl dX6_other_53 ?_
        refine va_getN (D := g.1) (ci := 2) (v := .int (σN_5 99 5)) (C := RX2) (T := TX2) (N := 6) hx hb hts hi2 hown hK hP 1 rfl rfl 5 (by decide) (va_Nw.use rfl (hN.get 23 rfl)) (fun _ h9 => h9) rfl dX6_other_56 ?_
        cases hF
        exact r_iret hx hb hr hlk hS () rfl hP hD dX6_other_59
      · have hF := q_if_t (by first | exact c_10 | exact Classical.not_not.mp c_10) hF
        refine lv_aload_n hx hb dX6_other_42 rfl (lv_at hl 1 rfl) ?_
        refine va_get (D := g.1) (ci := 6) (v := .ref (AX 4)) (C := RX6) (T := TX6) (N := 8) hx hb hts hi6 hown hK hP 0 rfl rfl 4 (by decide) (hts (.fieldLink RX6 33 "PanTales" "night" "LPanTales$Night;") (by decide +kernel)) (fun _ h9 => h9) rfl dX6_other_43 ?_
        refine va_getN (D := g.1) (ci := 2) (v := .int (σN_5 99 4)) (C := RX2) (T := TX2) (N := 6) hx hb hts hi2 hown hK hP 1 rfl rfl 4 (by decide) (va_Nw.use rfl (hN.get 22 rfl)) (fun _ h9 => h9) rfl dX6_other_46 ?_
        refine lv_goto (tgt := 59) hx hb dX6_other_49 (by decide) ?_
        cases hF
        exact r_iret hx hb hr hlk hS () rfl hP hD dX6_other_59
    · have hF := q_if_f c_9 hF
      refine lv_iload_n hx hb dX6_other_36 rfl (lv_at hl 0 rfl) ?_
      cases hF
      exact r_iret hx hb hr hlk hS () rfl hP hD dX6_other_37
  · have hF := q_if_t (by first | exact c_3 | exact Classical.not_not.mp c_3) hF
    refine lv_bipush (v := (-2)) hx hb dX6_other_9 (by decide) ?_
    cases hF
    exact r_iret hx hb hr hlk hS () rfl hP hD dX6_other_11
set_option maxHeartbeats 4000000 in
set_option maxRecDepth 100000 in
theorem m_X6_done (l : Launch) (g : GT) (sz : Nat) (qX : Nat) (AX : Nat → Nat) (σN : qS) (AP : Nat → Nat) (σP : qS) (AD : Nat → Nat) (σD : qS) (AC : Nat → Nat) (σC : qS) (rr : Int32) (σN' : qS) (σP' : qS) (σD' : qS) (σC' : qS) (hF : f_X6_done σN σP σD σC = some (rr, σN', σP', σD', σC')) : Ci l yX6_done wsX6_done { frames := 6, cells := 0, slots := 0, locals := 139 } g sz [.ref qX] (wX6 qX AX ++ wX2 (AX 4) σN ++ wX3 g (AX 3) AP σP ++ wX1 g (AX 1) AD σD ++ wX1 g (AX 0) AC σC) rr (wX6 qX AX ++ wX2 (AX 4) σN' ++ wX3 g (AX 3) AP σP' ++ wX1 g (AX 1) AD σD' ++ wX1 g (AX 0) AC σC') := by
  refine gMet_i (cc := cX6_done) (maxL := 2) (ret := (some .int)) (by decide) rfl (Nat.le_of_ble_eq_true rfl) ?_
  intro p e s m args below meth c Z hx hb hr F hlk hnm hK hN hA H locs hP hD hS ls hl
  have hl : lv_has ls 2 [(0, .ref qX)] := hl
  have F : CallFix p m c cX6_done 2 s args wsX6_done RX6 := F
  have hts := F.2.2.2.2
  have hown : s.vm.findClass RX6 = some m.cls := F.2.2.2.1
  have hi2 : ∀ w ∈ u_ws RX2 TX2 6, w ∈ wsX6_done := by decide +kernel
  have hi6 : ∀ w ∈ u_ws RX6 TX6 8, w ∈ wsX6_done := by decide +kernel
  dsimp only [f_X6_done] at hF
  refine lv_aload_n hx hb dX6_done_0 rfl (lv_at hl 0 rfl) ?_
  refine va_get (D := g.1) (ci := 6) (v := .ref (AX 4)) (C := RX6) (T := TX6) (N := 8) hx hb hts hi6 hown hK hP 0 rfl rfl 4 (by decide) (hts (.fieldLink RX6 33 "PanTales" "night" "LPanTales$Night;") (by decide +kernel)) (fun _ h9 => h9) rfl dX6_done_1 ?_
  refine lv_aload_n hx hb dX6_done_4 rfl (lv_at hl 0 rfl) ?_
  refine va_get (D := g.1) (ci := 6) (v := .ref (AX 3)) (C := RX6) (T := TX6) (N := 8) hx hb hts hi6 hown hK hP 0 rfl rfl 3 (by decide) (hts (.fieldLink RX6 26 "PanTales" "pad" "LPanTales$Pad;") (by decide +kernel)) (fun _ h9 => h9) rfl dX6_done_5 ?_
  refine lv_aload_n hx hb dX6_done_8 rfl (lv_at hl 0 rfl) ?_
  refine va_get (D := g.1) (ci := 6) (v := .ref (AX 1)) (C := RX6) (T := TX6) (N := 8) hx hb hts hi6 hown hK hP 0 rfl rfl 1 (by decide) (hts (.fieldLink RX6 16 "PanTales" "draft" "LPanTales$Close;") (by decide +kernel)) (fun _ h9 => h9) rfl dX6_done_9 ?_
  refine lv_aload_n hx hb dX6_done_12 rfl (lv_at hl 0 rfl) ?_
  refine va_get (D := g.1) (ci := 6) (v := .ref (AX 0)) (C := RX6) (T := TX6) (N := 8) hx hb hts hi6 hown hK hP 0 rfl rfl 0 (by decide) (hts (.fieldLink RX6 12 "PanTales" "close" "LPanTales$Close;") (by decide +kernel)) (fun _ h9 => h9) rfl dX6_done_13 ?_
  obtain ⟨⟨r_1, σN_2, σD_3⟩, h_4, hF⟩ := q_cl_s hF
  try dsimp only at hF
  refine gcV_i (As := [.ref (AX 3), .ref (AX 1), .ref (AX 0)]) (rest := []) (ci := 2) (q := (RX2, TX2, 6)) F hK hN hP hD hS hA (m_X2_pass l g H.size (AX 4) σN (AX 3) AP σP (AX 1) AD σD (AX 0) AC σC r_1 σN_2 σD_3 h_4) gX6_done_X2_pass kX2_pass rfl rfl rfl rfl ⟨(Nat.le_of_ble_eq_true rfl), (Nat.le_of_ble_eq_true rfl)⟩ [1, 2, 3, 4, 5, 6, 7, 8, 9, 10, 11, 12, 13, 14, 15, 16, 17, 18, 19] [0] rfl rfl rfl (by decide) rfl rfl rfl rfl rfl hl.1 (Nat.le_of_ble_eq_true rfl) dX6_done_16 ⟨(Nat.le_of_ble_eq_true rfl), (Nat.le_of_ble_eq_true rfl)⟩ (fun r_w u_w H locs hw hP hD hS => ?_)
  have hP : va_P g.1 vwCl (wX6 qX AX ++ wX2 (AX 4) σN_2 ++ wX3 g (AX 3) AP σP ++ wX1 g (AX 1) AD σD_3 ++ wX1 g (AX 0) AC σC) H := hP
  have hD : va_D Z (wX6 qX AX ++ wX2 (AX 4) σN_2 ++ wX3 g (AX 3) AP σP ++ wX1 g (AX 1) AD σD_3 ++ wX1 g (AX 0) AC σC) := hD
  obtain rfl : r_1 = r_w := hw.symm
  refine lv_istore_n (lv' := [(1, .int r_1), (0, .ref qX)]) hx hb dX6_done_19 rfl hl (by decide) rfl (fun ls hl => ?_)
  refine lv_iload_n hx hb dX6_done_20 rfl (lv_at hl 0 rfl) ?_
  refine lv_if_eq (tgt := 26) hx hb dX6_done_21 (by decide) (fun c_6 => ?_) (fun c_6 => ?_)
  · have hF := q_if_t c_6 hF
    refine lv_aload_n hx hb dX6_done_26 rfl (lv_at hl 1 rfl) ?_
    refine va_get (D := g.1) (ci := 6) (v := .ref (AX 0)) (C := RX6) (T := TX6) (N := 8) hx hb hts hi6 hown hK hP 0 rfl rfl 0 (by decide) (hts (.fieldLink RX6 12 "PanTales" "close" "LPanTales$Close;") (by decide +kernel)) (fun _ h9 => h9) rfl dX6_done_27 ?_
    refine lv_aload_n hx hb dX6_done_30 rfl (lv_at hl 1 rfl) ?_
    refine va_get (D := g.1) (ci := 6) (v := .ref (AX 1)) (C := RX6) (T := TX6) (N := 8) hx hb hts hi6 hown hK hP 0 rfl rfl 1 (by decide) (hts (.fieldLink RX6 16 "PanTales" "draft" "LPanTales$Close;") (by decide +kernel)) (fun _ h9 => h9) rfl dX6_done_31 ?_
    obtain ⟨σC_7, h_8, hF⟩ := q_cl_s hF
    refine gcV_v (As := [.ref (AX 1)]) (rest := []) (ci := 1) (q := (RX1, TX1, 12)) F hK hN hP hD hS hA (m_X1_copyFrom l g H.size (AX 0) AC σC (AX 1) AD σD_3 σC_7 h_8) gX6_done_X1_copyFrom kX1_copyFrom rfl rfl rfl rfl ⟨(Nat.le_of_ble_eq_true rfl), (Nat.le_of_ble_eq_true rfl)⟩ [12, 13, 14, 15, 16, 17, 18, 19, 4, 5, 6, 7, 8, 9, 10, 11] [0, 1, 2, 3] rfl rfl rfl (by decide) rfl rfl rfl rfl rfl hl.1 (Nat.le_of_ble_eq_true rfl) dX6_done_34 ⟨(Nat.le_of_ble_eq_true rfl), (Nat.le_of_ble_eq_true rfl)⟩ (fun u_w H locs hw hP hD hS => ?_)
    have hP : va_P g.1 vwCl (wX6 qX AX ++ wX2 (AX 4) σN_2 ++ wX3 g (AX 3) AP σP ++ wX1 g (AX 1) AD σD_3 ++ wX1 g (AX 0) AC σC_7) H := hP.sub [0, 1, 2, 3, 12, 13, 14, 15, 16, 17, 18, 19, 4, 5, 6, 7, 8, 9, 10, 11] rfl
    have hD : va_D Z (wX6 qX AX ++ wX2 (AX 4) σN_2 ++ wX3 g (AX 3) AP σP ++ wX1 g (AX 1) AD σD_3 ++ wX1 g (AX 0) AC σC_7) := hD.sub [0, 1, 2, 3, 12, 13, 14, 15, 16, 17, 18, 19, 4, 5, 6, 7, 8, 9, 10, 11] (by decide) rfl
    refine lv_aload_n hx hb dX6_done_37 rfl (lv_at hl 1 rfl) ?_
    refine va_get (D := g.1) (ci := 6) (v := .ref (AX 3)) (C := RX6) (T := TX6) (N := 8) hx hb hts hi6 hown hK hP 0 rfl rfl 3 (by decide) (hts (.fieldLink RX6 26 "PanTales" "pad" "LPanTales$Pad;") (by decide +kernel)) (fun _ h9 => h9) rfl dX6_done_38 ?_
    obtain ⟨σP_9, h_10, hF⟩ := q_cl_s hF
    refine gcV_v (As := []) (rest := []) (ci := 3) (q := (RX3, TX3, 2)) F hK hN hP hD hS hA (m_X3_clear l g H.size (AX 3) AP σP σP_9 h_10) gX6_done_X3_clear kX3_clear rfl rfl rfl rfl ⟨(Nat.le_of_ble_eq_true rfl), (Nat.le_of_ble_eq_true rfl)⟩ [2, 3] [0, 1, 4, 5, 6, 7, 8, 9, 10, 11, 12, 13, 14, 15, 16, 17, 18, 19] rfl rfl rfl (by decide) rfl rfl rfl rfl rfl hl.1 (Nat.le_of_ble_eq_true rfl) dX6_done_41 ⟨(Nat.le_of_ble_eq_true rfl), (Nat.le_of_ble_eq_true rfl)⟩ (fun u_w H locs hw hP hD hS => ?_)
    have hP : va_P g.1 vwCl (wX6 qX AX ++ wX2 (AX 4) σN_2 ++ wX3 g (AX 3) AP σP_9 ++ wX1 g (AX 1) AD σD_3 ++ wX1 g (AX 0) AC σC_7) H := hP.sub [0, 1, 18, 19, 2, 3, 4, 5, 6, 7, 8, 9, 10, 11, 12, 13, 14, 15, 16, 17] rfl
    have hD : va_D Z (wX6 qX AX ++ wX2 (AX 4) σN_2 ++ wX3 g (AX 3) AP σP_9 ++ wX1 g (AX 1) AD σD_3 ++ wX1 g (AX 0) AC σC_7) := hD.sub [0, 1, 18, 19, 2, 3, 4, 5, 6, 7, 8, 9, 10, 11, 12, 13, 14, 15, 16, 17] (by decide) rfl
    refine lv_aload_n hx hb dX6_done_44 rfl (lv_at hl 1 rfl) ?_
    refine va_get (D := g.1) (ci := 6) (v := .ref (AX 4)) (C := RX6) (T := TX6) (N := 8) hx hb hts hi6 hown hK hP 0 rfl rfl 4 (by decide) (hts (.fieldLink RX6 33 "PanTales" "night" "LPanTales$Night;") (by decide +kernel)) (fun _ h9 => h9) rfl dX6_done_45 ?_
    refine va_getN (D := g.1) (ci := 2) (v := .int (σN_2 99 0)) (C := RX2) (T := TX2) (N := 6) hx hb hts hi2 hown hK hP 1 rfl rfl 0 (by decide) (va_Nw.use rfl (hN.get 18 rfl)) (fun _ h9 => h9) rfl dX6_done_48 ?_
    cases hF
    exact r_iret hx hb hr hlk hS () rfl hP hD dX6_done_51
  · have hF := q_if_f c_6 hF
    refine lv_iload_n hx hb dX6_done_24 rfl (lv_at hl 0 rfl) ?_
    cases hF
    exact r_iret hx hb hr hlk hS () rfl hP hD dX6_done_25
set_option maxHeartbeats 4000000 in
set_option maxRecDepth 100000 in
theorem m_X6_near (l : Launch) (g : GT) (sz : Nat) (qX : Nat) (AX : Nat → Nat) (AW : Nat → Nat) (hW : Value) (σW : qS) (AC : Nat → Nat) (σC : qS) (a1 : Int32) (a2 : Int32) (a3 : Int32) (rr : Int32) (σW' : qS) (hF : f_X6_near σW σC a1 a2 a3 = some (rr, σW')) : Ci l yX6_near wsX6_near { frames := 4, cells := 0, slots := 0, locals := 91 } g sz [.ref qX, .int a1, .int a2, .int a3] (wX6 qX AX ++ wX5 g (AX 5) AW hW σW ++ wX1 g (AX 0) AC σC) rr (wX6 qX AX ++ wX5 g (AX 5) AW hW σW' ++ wX1 g (AX 0) AC σC) := by
  refine gMet_i (cc := cX6_near) (maxL := 4) (ret := (some .int)) (by decide) rfl (Nat.le_of_ble_eq_true rfl) ?_
  intro p e s m args below meth c Z hx hb hr F hlk hnm hK hN hA H locs hP hD hS ls hl
  have hl : lv_has ls 4 [(0, .ref qX), (1, .int a1), (2, .int a2), (3, .int a3)] := hl
  have F : CallFix p m c cX6_near 4 s args wsX6_near RX6 := F
  have hts := F.2.2.2.2
  have hown : s.vm.findClass RX6 = some m.cls := F.2.2.2.1
  have hi6 : ∀ w ∈ u_ws RX6 TX6 8, w ∈ wsX6_near := by decide +kernel
  dsimp only [f_X6_near] at hF
  refine lv_iload_n hx hb dX6_near_0 rfl (lv_at hl 1 rfl) ?_
  obtain ⟨r_1, h_2, hF⟩ := q_cl_s hF
  refine gcP (As := [.int a1]) (rest := []) F (m_X6_isPlace l a1 r_1 h_2) gX6_near_X6_isPlace kX6_isPlace rfl rfl rfl ⟨(Nat.le_of_ble_eq_true rfl), (Nat.le_of_ble_eq_true rfl)⟩ rfl rfl hl.1 (Nat.le_of_ble_eq_true rfl) dX6_near_1 ⟨(Nat.le_of_ble_eq_true rfl), (Nat.le_of_ble_eq_true rfl)⟩ ?_
  refine lv_if_eq (tgt := 14) hx hb dX6_near_4 (by decide) (fun c_3 => ?_) (fun c_3 => ?_)
  · have hF := q_if_t c_3 hF
    refine lv_iconst (v := (-1)) hx hb dX6_near_14 (by decide) ?_
    cases hF
    exact r_iret hx hb hr hlk hS () rfl hP hD dX6_near_15
  · have hF := q_if_f c_3 hF
    refine lv_iload_n hx hb dX6_near_7 rfl (lv_at hl 2 rfl) ?_
    obtain ⟨r_4, h_5, hF⟩ := q_cl_s hF
    refine gcP (As := [.int a2]) (rest := []) F (m_X6_isPlace l a2 r_4 h_5) gX6_near_X6_isPlace kX6_isPlace rfl rfl rfl ⟨(Nat.le_of_ble_eq_true rfl), (Nat.le_of_ble_eq_true rfl)⟩ rfl rfl hl.1 (Nat.le_of_ble_eq_true rfl) dX6_near_8 ⟨(Nat.le_of_ble_eq_true rfl), (Nat.le_of_ble_eq_true rfl)⟩ ?_
    refine lv_if_ne (tgt := 16) hx hb dX6_near_11 (by decide) (fun c_6 => ?_) (fun c_6 => ?_)
    · have hF := q_if_f c_6 hF
      refine lv_iload_n hx hb dX6_near_16 rfl (lv_at hl 3 rfl) ?_
      refine lv_iconst (v := 0) hx hb dX6_near_17 (by decide) ?_
      refine lv_iconst (v := 1) hx hb dX6_near_18 (by decide) ?_
      obtain ⟨r_7, h_8, hF⟩ := q_cl_s hF
      refine gcP (As := [.int a3, .int 0, .int 1]) (rest := []) F (m_X6_within l a3 (0 : Int32) (1 : Int32) r_7 h_8) gX6_near_X6_within kX6_within rfl rfl rfl ⟨(Nat.le_of_ble_eq_true rfl), (Nat.le_of_ble_eq_true rfl)⟩ rfl rfl hl.1 (Nat.le_of_ble_eq_true rfl) dX6_near_19 ⟨(Nat.le_of_ble_eq_true rfl), (Nat.le_of_ble_eq_true rfl)⟩ ?_
      refine lv_if_ne (tgt := 28) hx hb dX6_near_22 (by decide) (fun c_9 => ?_) (fun c_9 => ?_)
      · have hF := q_if_f c_9 hF
        refine lv_aload_n hx hb dX6_near_28 rfl (lv_at hl 0 rfl) ?_
        refine va_get (D := g.1) (ci := 6) (v := .ref (AX 5)) (C := RX6) (T := TX6) (N := 8) hx hb hts hi6 hown hK hP 0 rfl rfl 5 (by decide) (hts (.fieldLink RX6 40 "PanTales" "ways" "LPanTales$Ways;") (by decide +kernel)) (fun _ h9 => h9) rfl dX6_near_29 ?_
        refine lv_aload_n hx hb dX6_near_32 rfl (lv_at hl 0 rfl) ?_
        refine va_get (D := g.1) (ci := 6) (v := .ref (AX 0)) (C := RX6) (T := TX6) (N := 8) hx hb hts hi6 hown hK hP 0 rfl rfl 0 (by decide) (hts (.fieldLink RX6 12 "PanTales" "close" "LPanTales$Close;") (by decide +kernel)) (fun _ h9 => h9) rfl dX6_near_33 ?_
        obtain ⟨σW_10, h_11, hF⟩ := q_cl_s hF
        refine gcV_v (As := [.ref (AX 0)]) (rest := []) (ci := 5) (q := (RX5, TX5, 3)) F hK hN hP hD hS hA (m_X5_measure l g H.size (AX 5) AW hW σW (AX 0) AC σC σW_10 h_11) gX6_near_X5_measure kX5_measure rfl rfl rfl rfl ⟨(Nat.le_of_ble_eq_true rfl), (Nat.le_of_ble_eq_true rfl)⟩ [1, 2, 3, 4, 5, 6, 7, 8, 9, 10, 11] [0] rfl rfl rfl (by decide) rfl rfl rfl rfl rfl hl.1 (Nat.le_of_ble_eq_true rfl) dX6_near_36 ⟨(Nat.le_of_ble_eq_true rfl), (Nat.le_of_ble_eq_true rfl)⟩ (fun u_w H locs hw hP hD hS => ?_)
        have hP : va_P g.1 vwCl (wX6 qX AX ++ wX5 g (AX 5) AW hW σW_10 ++ wX1 g (AX 0) AC σC) H := hP
        have hD : va_D Z (wX6 qX AX ++ wX5 g (AX 5) AW hW σW_10 ++ wX1 g (AX 0) AC σC) := hD
        refine lv_iload_n hx hb dX6_near_39 rfl (lv_at hl 3 rfl) ?_
        refine lv_if_ne (tgt := 55) hx hb dX6_near_40 (by decide) (fun c_12 => ?_) (fun c_12 => ?_)
        · have hF := q_if_f c_12 hF
          refine lv_aload_n hx hb dX6_near_55 rfl (lv_at hl 0 rfl) ?_
          refine va_get (D := g.1) (ci := 6) (v := .ref (AX 5)) (C := RX6) (T := TX6) (N := 8) hx hb hts hi6 hown hK hP 0 rfl rfl 5 (by decide) (hts (.fieldLink RX6 40 "PanTales" "ways" "LPanTales$Ways;") (by decide +kernel)) (fun _ h9 => h9) rfl dX6_near_56 ?_
          refine lv_aload_n hx hb dX6_near_59 rfl (lv_at hl 0 rfl) ?_
          refine va_get (D := g.1) (ci := 6) (v := .ref (AX 0)) (C := RX6) (T := TX6) (N := 8) hx hb hts hi6 hown hK hP 0 rfl rfl 0 (by decide) (hts (.fieldLink RX6 12 "PanTales" "close" "LPanTales$Close;") (by decide +kernel)) (fun _ h9 => h9) rfl dX6_near_60 ?_
          refine lv_iload_n hx hb dX6_near_63 rfl (lv_at hl 1 rfl) ?_
          refine lv_iload_n hx hb dX6_near_64 rfl (lv_at hl 2 rfl) ?_
          obtain ⟨r_13, h_14, hF⟩ := q_cl_s hF
          refine gcV_i (As := [.ref (AX 0), .int a1, .int a2]) (rest := []) (ci := 5) (q := (RX5, TX5, 3)) F hK hN hP hD hS hA (m_X5_nextPlace l g H.size (AX 5) AW hW σW_10 (AX 0) AC σC a1 a2 r_13 h_14) gX6_near_X5_nextPlace kX5_nextPlace rfl rfl rfl rfl ⟨(Nat.le_of_ble_eq_true rfl), (Nat.le_of_ble_eq_true rfl)⟩ [1, 2, 3, 4, 5, 6, 7, 8, 9, 10, 11] [0] rfl rfl rfl (by decide) rfl rfl rfl rfl rfl hl.1 (Nat.le_of_ble_eq_true rfl) dX6_near_65 ⟨(Nat.le_of_ble_eq_true rfl), (Nat.le_of_ble_eq_true rfl)⟩ (fun r_w u_w H locs hw hP hD hS => ?_)
          have hP : va_P g.1 vwCl (wX6 qX AX ++ wX5 g (AX 5) AW hW σW_10 ++ wX1 g (AX 0) AC σC) H := hP
          have hD : va_D Z (wX6 qX AX ++ wX5 g (AX 5) AW hW σW_10 ++ wX1 g (AX 0) AC σC) := hD
          obtain rfl : r_13 = r_w := hw.symm
          cases hF
          exact r_iret hx hb hr hlk hS () rfl hP hD dX6_near_68
        · have hF := q_if_t (by first | exact c_12 | exact Classical.not_not.mp c_12) hF
          refine lv_aload_n hx hb dX6_near_43 rfl (lv_at hl 0 rfl) ?_
          refine va_get (D := g.1) (ci := 6) (v := .ref (AX 5)) (C := RX6) (T := TX6) (N := 8) hx hb hts hi6 hown hK hP 0 rfl rfl 5 (by decide) (hts (.fieldLink RX6 40 "PanTales" "ways" "LPanTales$Ways;") (by decide +kernel)) (fun _ h9 => h9) rfl dX6_near_44 ?_
          refine lv_iload_n hx hb dX6_near_47 rfl (lv_at hl 1 rfl) ?_
          refine lv_iload_n hx hb dX6_near_48 rfl (lv_at hl 2 rfl) ?_
          obtain ⟨r_15, h_16, hF⟩ := q_cl_s hF
          refine gcV_i (As := [.int a1, .int a2]) (rest := []) (ci := 5) (q := (RX5, TX5, 3)) F hK hN hP hD hS hA (m_X5_howFar l g H.size (AX 5) AW hW σW_10 a1 a2 r_15 h_16) gX6_near_X5_howFar kX5_howFar rfl rfl rfl rfl ⟨(Nat.le_of_ble_eq_true rfl), (Nat.le_of_ble_eq_true rfl)⟩ [1, 2, 3] [0, 4, 5, 6, 7, 8, 9, 10, 11] rfl rfl rfl (by decide) rfl rfl rfl rfl rfl hl.1 (Nat.le_of_ble_eq_true rfl) dX6_near_49 ⟨(Nat.le_of_ble_eq_true rfl), (Nat.le_of_ble_eq_true rfl)⟩ (fun r_w u_w H locs hw hP hD hS => ?_)
          have hP : va_P g.1 vwCl (wX6 qX AX ++ wX5 g (AX 5) AW hW σW_10 ++ wX1 g (AX 0) AC σC) H := hP.sub [0, 9, 10, 11, 1, 2, 3, 4, 5, 6, 7, 8] rfl
          have hD : va_D Z (wX6 qX AX ++ wX5 g (AX 5) AW hW σW_10 ++ wX1 g (AX 0) AC σC) := hD.sub [0, 9, 10, 11, 1, 2, 3, 4, 5, 6, 7, 8] (by decide) rfl
          obtain rfl : r_15 = r_w := hw.symm
          refine lv_goto (tgt := 68) hx hb dX6_near_52 (by decide) ?_
          cases hF
          exact r_iret hx hb hr hlk hS () rfl hP hD dX6_near_68
      · have hF := q_if_t (by first | exact c_9 | exact Classical.not_not.mp c_9) hF
        refine lv_bipush (v := (-2)) hx hb dX6_near_25 (by decide) ?_
        cases hF
        exact r_iret hx hb hr hlk hS () rfl hP hD dX6_near_27
    · have hF := q_if_t (by first | exact c_6 | exact Classical.not_not.mp c_6) hF
      refine lv_iconst (v := (-1)) hx hb dX6_near_14 (by decide) ?_
      cases hF
      exact r_iret hx hb hr hlk hS () rfl hP hD dX6_near_15
set_option maxHeartbeats 4000000 in
set_option maxRecDepth 100000 in
theorem m_X6_keep (l : Launch) (g : GT) (sz : Nat) (qX : Nat) (AX : Nat → Nat) (AW : Nat → Nat) (hW : Value) (σW : qS) (AC : Nat → Nat) (σC : qS) (a1 : Int32) (a2 : Int32) (rr : Int32) (σW' : qS) (hF : f_X6_keep σW σC a1 a2 = some (rr, σW')) : Ci l yX6_keep wsX6_keep { frames := 4, cells := 0, slots := 0, locals := 91 } g sz [.ref qX, .int a1, .int a2] (wX6 qX AX ++ wX5 g (AX 5) AW hW σW ++ wX1 g (AX 0) AC σC) rr (wX6 qX AX ++ wX5 g (AX 5) AW hW σW' ++ wX1 g (AX 0) AC σC) := by
  refine gMet_i (cc := cX6_keep) (maxL := 4) (ret := (some .int)) (by decide) rfl (Nat.le_of_ble_eq_true rfl) ?_
  intro p e s m args below meth c Z hx hb hr F hlk hnm hK hN hA H locs hP hD hS ls hl
  have hl : lv_has ls 4 [(0, .ref qX), (1, .int a1), (2, .int a2)] := hl
  have F : CallFix p m c cX6_keep 4 s args wsX6_keep RX6 := F
  have hts := F.2.2.2.2
  have hown : s.vm.findClass RX6 = some m.cls := F.2.2.2.1
  have hi6 : ∀ w ∈ u_ws RX6 TX6 8, w ∈ wsX6_keep := by decide +kernel
  dsimp only [f_X6_keep] at hF
  refine lv_iload_n hx hb dX6_keep_0 rfl (lv_at hl 1 rfl) ?_
  obtain ⟨r_1, h_2, hF⟩ := q_cl_s hF
  refine gcP (As := [.int a1]) (rest := []) F (m_X6_isHouse l a1 r_1 h_2) gX6_keep_X6_isHouse kX6_isHouse rfl rfl rfl ⟨(Nat.le_of_ble_eq_true rfl), (Nat.le_of_ble_eq_true rfl)⟩ rfl rfl hl.1 (Nat.le_of_ble_eq_true rfl) dX6_keep_1 ⟨(Nat.le_of_ble_eq_true rfl), (Nat.le_of_ble_eq_true rfl)⟩ ?_
  refine lv_if_ne (tgt := 9) hx hb dX6_keep_4 (by decide) (fun c_3 => ?_) (fun c_3 => ?_)
  · have hF := q_if_f c_3 hF
    refine lv_iload_n hx hb dX6_keep_9 rfl (lv_at hl 2 rfl) ?_
    refine lv_iconst (v := 0) hx hb dX6_keep_10 (by decide) ?_
    refine lv_iconst (v := 1) hx hb dX6_keep_11 (by decide) ?_
    obtain ⟨r_4, h_5, hF⟩ := q_cl_s hF
    refine gcP (As := [.int a2, .int 0, .int 1]) (rest := []) F (m_X6_within l a2 (0 : Int32) (1 : Int32) r_4 h_5) gX6_keep_X6_within kX6_within rfl rfl rfl ⟨(Nat.le_of_ble_eq_true rfl), (Nat.le_of_ble_eq_true rfl)⟩ rfl rfl hl.1 (Nat.le_of_ble_eq_true rfl) dX6_keep_12 ⟨(Nat.le_of_ble_eq_true rfl), (Nat.le_of_ble_eq_true rfl)⟩ ?_
    refine lv_if_ne (tgt := 21) hx hb dX6_keep_15 (by decide) (fun c_6 => ?_) (fun c_6 => ?_)
    · have hF := q_if_f c_6 hF
      refine lv_aload_n hx hb dX6_keep_21 rfl (lv_at hl 0 rfl) ?_
      refine va_get (D := g.1) (ci := 6) (v := .ref (AX 5)) (C := RX6) (T := TX6) (N := 8) hx hb hts hi6 hown hK hP 0 rfl rfl 5 (by decide) (hts (.fieldLink RX6 40 "PanTales" "ways" "LPanTales$Ways;") (by decide +kernel)) (fun _ h9 => h9) rfl dX6_keep_22 ?_
      refine lv_aload_n hx hb dX6_keep_25 rfl (lv_at hl 0 rfl) ?_
      refine va_get (D := g.1) (ci := 6) (v := .ref (AX 0)) (C := RX6) (T := TX6) (N := 8) hx hb hts hi6 hown hK hP 0 rfl rfl 0 (by decide) (hts (.fieldLink RX6 12 "PanTales" "close" "LPanTales$Close;") (by decide +kernel)) (fun _ h9 => h9) rfl dX6_keep_26 ?_
      refine lv_iload_n hx hb dX6_keep_29 rfl (lv_at hl 1 rfl) ?_
      obtain ⟨⟨r_7, σW_8⟩, h_9, hF⟩ := q_cl_s hF
      try dsimp only at hF
      refine gcV_i (As := [.ref (AX 0), .int a1]) (rest := []) (ci := 5) (q := (RX5, TX5, 3)) F hK hN hP hD hS hA (m_X5_fewestDamp l g H.size (AX 5) AW hW σW (AX 0) AC σC a1 r_7 σW_8 h_9) gX6_keep_X5_fewestDamp kX5_fewestDamp rfl rfl rfl rfl ⟨(Nat.le_of_ble_eq_true rfl), (Nat.le_of_ble_eq_true rfl)⟩ [1, 2, 3, 4, 5, 6, 7, 8, 9, 10, 11] [0] rfl rfl rfl (by decide) rfl rfl rfl rfl rfl hl.1 (Nat.le_of_ble_eq_true rfl) dX6_keep_30 ⟨(Nat.le_of_ble_eq_true rfl), (Nat.le_of_ble_eq_true rfl)⟩ (fun r_w u_w H locs hw hP hD hS => ?_)
      have hP : va_P g.1 vwCl (wX6 qX AX ++ wX5 g (AX 5) AW hW σW_8 ++ wX1 g (AX 0) AC σC) H := hP
      have hD : va_D Z (wX6 qX AX ++ wX5 g (AX 5) AW hW σW_8 ++ wX1 g (AX 0) AC σC) := hD
      obtain rfl : r_7 = r_w := hw.symm
      refine lv_istore_n (lv' := [(3, .int r_7), (0, .ref qX), (1, .int a1), (2, .int a2)]) hx hb dX6_keep_33 rfl hl (by decide) rfl (fun ls hl => ?_)
      refine lv_iload_n hx hb dX6_keep_34 rfl (lv_at hl 3 rfl) ?_
      refine lv_iconst (v := 1) hx hb dX6_keep_35 (by decide) ?_
      refine lv_icmp_eq (tgt := 45) hx hb dX6_keep_36 (by decide) (fun c_11 => ?_) (fun c_11 => ?_)
      · have hF := q_if_t c_11 hF
        refine lv_iload_n hx hb dX6_keep_45 rfl (lv_at hl 0 rfl) ?_
        refine lv_goto (tgt := 53) hx hb dX6_keep_46 (by decide) ?_
        cases hF
        exact r_iret hx hb hr hlk hS () rfl hP hD dX6_keep_53
      · have hF := q_if_f c_11 hF
        refine lv_iload_n hx hb dX6_keep_39 rfl (lv_at hl 0 rfl) ?_
        refine lv_bipush (v := (-6)) hx hb dX6_keep_40 (by decide) ?_
        refine lv_icmp_ne (tgt := 49) hx hb dX6_keep_42 (by decide) (fun c_12 => ?_) (fun c_12 => ?_)
        · have hF := q_if_f c_12 hF
          refine lv_iload_n hx hb dX6_keep_49 rfl (lv_at hl 0 rfl) ?_
          obtain ⟨r_13, h_14, hF⟩ := q_cl_s hF
          refine gcP (As := [.int r_7]) (rest := []) F (m_J6_bitCount_0f7a4 l r_7 r_13 h_14) gX6_keep_J6_bitCount_0f7a4 kJ6_bitCount_0f7a4 rfl rfl rfl ⟨(Nat.le_of_ble_eq_true rfl), (Nat.le_of_ble_eq_true rfl)⟩ rfl rfl hl.1 (Nat.le_of_ble_eq_true rfl) dX6_keep_50 ⟨(Nat.le_of_ble_eq_true rfl), (Nat.le_of_ble_eq_true rfl)⟩ ?_
          cases hF
          exact r_iret hx hb hr hlk hS () rfl hP hD dX6_keep_53
        · have hF := q_if_t (by first | exact c_12 | exact Classical.not_not.mp c_12) hF
          refine lv_iload_n hx hb dX6_keep_45 rfl (lv_at hl 0 rfl) ?_
          refine lv_goto (tgt := 53) hx hb dX6_keep_46 (by decide) ?_
          cases hF
          exact r_iret hx hb hr hlk hS () rfl hP hD dX6_keep_53
    · have hF := q_if_t (by first | exact c_6 | exact Classical.not_not.mp c_6) hF
      refine lv_bipush (v := (-2)) hx hb dX6_keep_18 (by decide) ?_
      cases hF
      exact r_iret hx hb hr hlk hS () rfl hP hD dX6_keep_20
  · have hF := q_if_t (by first | exact c_3 | exact Classical.not_not.mp c_3) hF
    refine lv_iconst (v := (-1)) hx hb dX6_keep_7 (by decide) ?_
    cases hF
    exact r_iret hx hb hr hlk hS () rfl hP hD dX6_keep_8
set_option maxHeartbeats 4000000 in
set_option maxRecDepth 100000 in
theorem m_X6_faded (l : Launch) (g : GT) (sz : Nat) (qX : Nat) (AX : Nat → Nat) (AC : Nat → Nat) (σC : qS) (a1 : Int32) (a2 : Int32) (rr : Int32) (hF : f_X6_faded σC a1 a2 = some rr) : Ci l yX6_faded wsX6_faded { frames := 4, cells := 0, slots := 0, locals := 89 } g sz [.ref qX, .int a1, .int a2] (wX6 qX AX ++ wX1 g (AX 0) AC σC) rr (wX6 qX AX ++ wX1 g (AX 0) AC σC) := by
  refine gMet_i (cc := cX6_faded) (maxL := 3) (ret := (some .int)) (by decide) rfl (Nat.le_of_ble_eq_true rfl) ?_
  intro p e s m args below meth c Z hx hb hr F hlk hnm hK hN hA H locs hP hD hS ls hl
  have hl : lv_has ls 3 [(0, .ref qX), (1, .int a1), (2, .int a2)] := hl
  have F : CallFix p m c cX6_faded 3 s args wsX6_faded RX6 := F
  have hts := F.2.2.2.2
  have hown : s.vm.findClass RX6 = some m.cls := F.2.2.2.1
  have hi6 : ∀ w ∈ u_ws RX6 TX6 8, w ∈ wsX6_faded := by decide +kernel
  dsimp only [f_X6_faded] at hF
  refine lv_iload_n hx hb dX6_faded_0 rfl (lv_at hl 1 rfl) ?_
  obtain ⟨r_1, h_2, hF⟩ := q_cl_s hF
  refine gcP (As := [.int a1]) (rest := []) F (m_X6_isTale l a1 r_1 h_2) gX6_faded_X6_isTale kX6_isTale rfl rfl rfl ⟨(Nat.le_of_ble_eq_true rfl), (Nat.le_of_ble_eq_true rfl)⟩ rfl rfl hl.1 (Nat.le_of_ble_eq_true rfl) dX6_faded_1 ⟨(Nat.le_of_ble_eq_true rfl), (Nat.le_of_ble_eq_true rfl)⟩ ?_
  refine lv_if_ne (tgt := 9) hx hb dX6_faded_4 (by decide) (fun c_3 => ?_) (fun c_3 => ?_)
  · have hF := q_if_f c_3 hF
    refine lv_iload_n hx hb dX6_faded_9 rfl (lv_at hl 2 rfl) ?_
    refine lv_bipush (v := (-2)) hx hb dX6_faded_10 (by decide) ?_
    refine lv_bipush (v := 99) hx hb dX6_faded_12 (by decide) ?_
    obtain ⟨r_4, h_5, hF⟩ := q_cl_s hF
    refine gcP (As := [.int a2, .int (-2), .int 99]) (rest := []) F (m_X6_within l a2 (-2 : Int32) (99 : Int32) r_4 h_5) gX6_faded_X6_within kX6_within rfl rfl rfl ⟨(Nat.le_of_ble_eq_true rfl), (Nat.le_of_ble_eq_true rfl)⟩ rfl rfl hl.1 (Nat.le_of_ble_eq_true rfl) dX6_faded_14 ⟨(Nat.le_of_ble_eq_true rfl), (Nat.le_of_ble_eq_true rfl)⟩ ?_
    refine lv_if_ne (tgt := 23) hx hb dX6_faded_17 (by decide) (fun c_6 => ?_) (fun c_6 => ?_)
    · have hF := q_if_f c_6 hF
      refine lv_iload_n hx hb dX6_faded_23 rfl (lv_at hl 2 rfl) ?_
      refine lv_if_lt (tgt := 37) hx hb dX6_faded_24 (by decide) (fun c_7 => ?_) (fun c_7 => ?_)
      · have hF := q_if_t c_7 hF
        refine lv_iload_n hx hb dX6_faded_37 rfl (lv_at hl 2 rfl) ?_
        refine lv_iconst (v := (-1)) hx hb dX6_faded_38 (by decide) ?_
        refine lv_icmp_ne (tgt := 53) hx hb dX6_faded_39 (by decide) (fun c_8 => ?_) (fun c_8 => ?_)
        · have hF := q_if_f c_8 hF
          refine lv_aload_n hx hb dX6_faded_53 rfl (lv_at hl 0 rfl) ?_
          refine va_get (D := g.1) (ci := 6) (v := .ref (AX 0)) (C := RX6) (T := TX6) (N := 8) hx hb hts hi6 hown hK hP 0 rfl rfl 0 (by decide) (hts (.fieldLink RX6 12 "PanTales" "close" "LPanTales$Close;") (by decide +kernel)) (fun _ h9 => h9) rfl dX6_faded_54 ?_
          refine lv_iload_n hx hb dX6_faded_57 rfl (lv_at hl 1 rfl) ?_
          obtain ⟨r_9, h_10, hF⟩ := q_cl_s hF
          refine gcV_i (As := [.int a1]) (rest := []) (ci := 1) (q := (RX1, TX1, 12)) F hK hN hP hD hS hA (m_X1_stirsOfRing l g H.size (AX 0) AC σC a1 r_9 h_10) gX6_faded_X1_stirsOfRing kX1_stirsOfRing rfl rfl rfl rfl ⟨(Nat.le_of_ble_eq_true rfl), (Nat.le_of_ble_eq_true rfl)⟩ [1, 2, 3, 4, 5, 6, 7, 8] [0] rfl rfl rfl (by decide) rfl rfl rfl rfl rfl hl.1 (Nat.le_of_ble_eq_true rfl) dX6_faded_58 ⟨(Nat.le_of_ble_eq_true rfl), (Nat.le_of_ble_eq_true rfl)⟩ (fun r_w u_w H locs hw hP hD hS => ?_)
          have hP : va_P g.1 vwCl (wX6 qX AX ++ wX1 g (AX 0) AC σC) H := hP
          have hD : va_D Z (wX6 qX AX ++ wX1 g (AX 0) AC σC) := hD
          obtain rfl : r_9 = r_w := hw.symm
          cases hF
          exact r_iret hx hb hr hlk hS () rfl hP hD dX6_faded_61
        · have hF := q_if_t (by first | exact c_8 | exact Classical.not_not.mp c_8) hF
          refine lv_aload_n hx hb dX6_faded_42 rfl (lv_at hl 0 rfl) ?_
          refine va_get (D := g.1) (ci := 6) (v := .ref (AX 0)) (C := RX6) (T := TX6) (N := 8) hx hb hts hi6 hown hK hP 0 rfl rfl 0 (by decide) (hts (.fieldLink RX6 12 "PanTales" "close" "LPanTales$Close;") (by decide +kernel)) (fun _ h9 => h9) rfl dX6_faded_43 ?_
          refine lv_iload_n hx hb dX6_faded_46 rfl (lv_at hl 1 rfl) ?_
          obtain ⟨r_11, h_12, hF⟩ := q_cl_s hF
          refine gcV_i (As := [.int a1]) (rest := []) (ci := 1) (q := (RX1, TX1, 12)) F hK hN hP hD hS hA (m_X1_stirsToRing l g H.size (AX 0) AC σC a1 r_11 h_12) gX6_faded_X1_stirsToRing kX1_stirsToRing rfl rfl rfl rfl ⟨(Nat.le_of_ble_eq_true rfl), (Nat.le_of_ble_eq_true rfl)⟩ [1, 2, 3, 4, 5, 6, 7, 8] [0] rfl rfl rfl (by decide) rfl rfl rfl rfl rfl hl.1 (Nat.le_of_ble_eq_true rfl) dX6_faded_47 ⟨(Nat.le_of_ble_eq_true rfl), (Nat.le_of_ble_eq_true rfl)⟩ (fun r_w u_w H locs hw hP hD hS => ?_)
          have hP : va_P g.1 vwCl (wX6 qX AX ++ wX1 g (AX 0) AC σC) H := hP
          have hD : va_D Z (wX6 qX AX ++ wX1 g (AX 0) AC σC) := hD
          obtain rfl : r_11 = r_w := hw.symm
          refine lv_goto (tgt := 61) hx hb dX6_faded_50 (by decide) ?_
          cases hF
          exact r_iret hx hb hr hlk hS () rfl hP hD dX6_faded_61
      · have hF := q_if_f c_7 hF
        refine lv_aload_n hx hb dX6_faded_27 rfl (lv_at hl 0 rfl) ?_
        refine va_get (D := g.1) (ci := 6) (v := .ref (AX 0)) (C := RX6) (T := TX6) (N := 8) hx hb hts hi6 hown hK hP 0 rfl rfl 0 (by decide) (hts (.fieldLink RX6 12 "PanTales" "close" "LPanTales$Close;") (by decide +kernel)) (fun _ h9 => h9) rfl dX6_faded_28 ?_
        refine lv_iload_n hx hb dX6_faded_31 rfl (lv_at hl 1 rfl) ?_
        refine lv_iload_n hx hb dX6_faded_32 rfl (lv_at hl 2 rfl) ?_
        obtain ⟨r_13, h_14, hF⟩ := q_cl_s hF
        refine gcV_i (As := [.int a1, .int a2]) (rest := []) (ci := 1) (q := (RX1, TX1, 12)) F hK hN hP hD hS hA (m_X1_behindStirs l g H.size (AX 0) AC σC a1 a2 r_13 h_14) gX6_faded_X1_behindStirs kX1_behindStirs rfl rfl rfl rfl ⟨(Nat.le_of_ble_eq_true rfl), (Nat.le_of_ble_eq_true rfl)⟩ [1, 2, 3, 4, 5, 6, 7, 8] [0] rfl rfl rfl (by decide) rfl rfl rfl rfl rfl hl.1 (Nat.le_of_ble_eq_true rfl) dX6_faded_33 ⟨(Nat.le_of_ble_eq_true rfl), (Nat.le_of_ble_eq_true rfl)⟩ (fun r_w u_w H locs hw hP hD hS => ?_)
        have hP : va_P g.1 vwCl (wX6 qX AX ++ wX1 g (AX 0) AC σC) H := hP
        have hD : va_D Z (wX6 qX AX ++ wX1 g (AX 0) AC σC) := hD
        obtain rfl : r_13 = r_w := hw.symm
        cases hF
        exact r_iret hx hb hr hlk hS () rfl hP hD dX6_faded_36
    · have hF := q_if_t (by first | exact c_6 | exact Classical.not_not.mp c_6) hF
      refine lv_bipush (v := (-2)) hx hb dX6_faded_20 (by decide) ?_
      cases hF
      exact r_iret hx hb hr hlk hS () rfl hP hD dX6_faded_22
  · have hF := q_if_t (by first | exact c_3 | exact Classical.not_not.mp c_3) hF
    refine lv_iconst (v := (-1)) hx hb dX6_faded_7 (by decide) ?_
    cases hF
    exact r_iret hx hb hr hlk hS () rfl hP hD dX6_faded_8
set_option maxHeartbeats 4000000 in
set_option maxRecDepth 100000 in
theorem m_X6_seen (l : Launch) (g : GT) (sz : Nat) (qX : Nat) (AX : Nat → Nat) (AC : Nat → Nat) (σC : qS) (a1 : Int32) (a2 : Int32) (rr : Int32) (σC' : qS) (hF : f_X6_seen σC a1 a2 = some (rr, σC')) : Ci l yX6_seen wsX6_seen { frames := 2, cells := 0, slots := 0, locals := 44 } g sz [.ref qX, .int a1, .int a2] (wX6 qX AX ++ wX1 g (AX 0) AC σC) rr (wX6 qX AX ++ wX1 g (AX 0) AC σC') := by
  refine gMet_i (cc := cX6_seen) (maxL := 3) (ret := (some .int)) (by decide) rfl (Nat.le_of_ble_eq_true rfl) ?_
  intro p e s m args below meth c Z hx hb hr F hlk hnm hK hN hA H locs hP hD hS ls hl
  have hl : lv_has ls 3 [(0, .ref qX), (1, .int a1), (2, .int a2)] := hl
  have F : CallFix p m c cX6_seen 3 s args wsX6_seen RX6 := F
  have hts := F.2.2.2.2
  have hown : s.vm.findClass RX6 = some m.cls := F.2.2.2.1
  have hi6 : ∀ w ∈ u_ws RX6 TX6 8, w ∈ wsX6_seen := by decide +kernel
  dsimp only [f_X6_seen] at hF
  refine lv_iload_n hx hb dX6_seen_0 rfl (lv_at hl 2 rfl) ?_
  obtain ⟨r_1, h_2, hF⟩ := q_cl_s hF
  refine gcP (As := [.int a2]) (rest := []) F (m_X6_isTale l a2 r_1 h_2) gX6_seen_X6_isTale kX6_isTale rfl rfl rfl ⟨(Nat.le_of_ble_eq_true rfl), (Nat.le_of_ble_eq_true rfl)⟩ rfl rfl hl.1 (Nat.le_of_ble_eq_true rfl) dX6_seen_1 ⟨(Nat.le_of_ble_eq_true rfl), (Nat.le_of_ble_eq_true rfl)⟩ ?_
  refine lv_if_ne (tgt := 9) hx hb dX6_seen_4 (by decide) (fun c_3 => ?_) (fun c_3 => ?_)
  · have hF := q_if_f c_3 hF
    refine lv_iload_n hx hb dX6_seen_9 rfl (lv_at hl 1 rfl) ?_
    refine lv_iconst (v := 0) hx hb dX6_seen_10 (by decide) ?_
    refine lv_bipush (v := 40) hx hb dX6_seen_11 (by decide) ?_
    obtain ⟨r_4, h_5, hF⟩ := q_cl_s hF
    refine gcP (As := [.int a1, .int 0, .int 40]) (rest := []) F (m_X6_within l a1 (0 : Int32) (40 : Int32) r_4 h_5) gX6_seen_X6_within kX6_within rfl rfl rfl ⟨(Nat.le_of_ble_eq_true rfl), (Nat.le_of_ble_eq_true rfl)⟩ rfl rfl hl.1 (Nat.le_of_ble_eq_true rfl) dX6_seen_13 ⟨(Nat.le_of_ble_eq_true rfl), (Nat.le_of_ble_eq_true rfl)⟩ ?_
    refine lv_if_ne (tgt := 22) hx hb dX6_seen_16 (by decide) (fun c_6 => ?_) (fun c_6 => ?_)
    · have hF := q_if_f c_6 hF
      refine lv_aload_n hx hb dX6_seen_22 rfl (lv_at hl 0 rfl) ?_
      refine va_get (D := g.1) (ci := 6) (v := .ref (AX 0)) (C := RX6) (T := TX6) (N := 8) hx hb hts hi6 hown hK hP 0 rfl rfl 0 (by decide) (hts (.fieldLink RX6 12 "PanTales" "close" "LPanTales$Close;") (by decide +kernel)) (fun _ h9 => h9) rfl dX6_seen_23 ?_
      refine lv_iload_n hx hb dX6_seen_26 rfl (lv_at hl 1 rfl) ?_
      refine lv_iload_n hx hb dX6_seen_27 rfl (lv_at hl 2 rfl) ?_
      obtain ⟨⟨r_7, σC_8⟩, h_9, hF⟩ := q_cl_s hF
      try dsimp only at hF
      refine gcV_i (As := [.int a1, .int a2]) (rest := []) (ci := 1) (q := (RX1, TX1, 12)) F hK hN hP hD hS hA (m_X1_addSight l g H.size (AX 0) AC σC a1 a2 r_7 σC_8 h_9) gX6_seen_X1_addSight kX1_addSight rfl rfl rfl rfl ⟨(Nat.le_of_ble_eq_true rfl), (Nat.le_of_ble_eq_true rfl)⟩ [1, 2, 3, 4, 5, 6, 7, 8] [0] rfl rfl rfl (by decide) rfl rfl rfl rfl rfl hl.1 (Nat.le_of_ble_eq_true rfl) dX6_seen_28 ⟨(Nat.le_of_ble_eq_true rfl), (Nat.le_of_ble_eq_true rfl)⟩ (fun r_w u_w H locs hw hP hD hS => ?_)
      have hP : va_P g.1 vwCl (wX6 qX AX ++ wX1 g (AX 0) AC σC_8) H := hP
      have hD : va_D Z (wX6 qX AX ++ wX1 g (AX 0) AC σC_8) := hD
      obtain rfl : r_7 = r_w := hw.symm
      refine lv_if_eq (tgt := 44) hx hb dX6_seen_31 (by decide) (fun c_11 => ?_) (fun c_11 => ?_)
      · have hF := q_if_t c_11 hF
        refine lv_bipush (v := (-4)) hx hb dX6_seen_44 (by decide) ?_
        cases hF
        exact r_iret hx hb hr hlk hS () rfl hP hD dX6_seen_46
      · have hF := q_if_f c_11 hF
        refine lv_aload_n hx hb dX6_seen_34 rfl (lv_at hl 0 rfl) ?_
        refine va_get (D := g.1) (ci := 6) (v := .ref (AX 0)) (C := RX6) (T := TX6) (N := 8) hx hb hts hi6 hown hK hP 0 rfl rfl 0 (by decide) (hts (.fieldLink RX6 12 "PanTales" "close" "LPanTales$Close;") (by decide +kernel)) (fun _ h9 => h9) rfl dX6_seen_35 ?_
        obtain ⟨r_12, h_13, hF⟩ := q_cl_s hF
        refine gcV_i (As := []) (rest := []) (ci := 1) (q := (RX1, TX1, 12)) F hK hN hP hD hS hA (m_X1_sightCount l g H.size (AX 0) AC σC_8 r_12 h_13) gX6_seen_X1_sightCount kX1_sightCount rfl rfl rfl rfl ⟨(Nat.le_of_ble_eq_true rfl), (Nat.le_of_ble_eq_true rfl)⟩ [1, 2, 3, 4, 5, 6, 7, 8] [0] rfl rfl rfl (by decide) rfl rfl rfl rfl rfl hl.1 (Nat.le_of_ble_eq_true rfl) dX6_seen_38 ⟨(Nat.le_of_ble_eq_true rfl), (Nat.le_of_ble_eq_true rfl)⟩ (fun r_w u_w H locs hw hP hD hS => ?_)
        have hP : va_P g.1 vwCl (wX6 qX AX ++ wX1 g (AX 0) AC σC_8) H := hP
        have hD : va_D Z (wX6 qX AX ++ wX1 g (AX 0) AC σC_8) := hD
        obtain rfl : r_12 = r_w := hw.symm
        refine lv_goto (tgt := 46) hx hb dX6_seen_41 (by decide) ?_
        cases hF
        exact r_iret hx hb hr hlk hS () rfl hP hD dX6_seen_46
    · have hF := q_if_t (by first | exact c_6 | exact Classical.not_not.mp c_6) hF
      refine lv_bipush (v := (-2)) hx hb dX6_seen_19 (by decide) ?_
      cases hF
      exact r_iret hx hb hr hlk hS () rfl hP hD dX6_seen_21
  · have hF := q_if_t (by first | exact c_3 | exact Classical.not_not.mp c_3) hF
    refine lv_iconst (v := (-1)) hx hb dX6_seen_7 (by decide) ?_
    cases hF
    exact r_iret hx hb hr hlk hS () rfl hP hD dX6_seen_8
set_option maxHeartbeats 4000000 in
set_option maxRecDepth 100000 in
theorem m_X6_forget (l : Launch) (g : GT) (sz : Nat) (qX : Nat) (AX : Nat → Nat) (AC : Nat → Nat) (σC : qS) (rr : Int32) (σC' : qS) (hF : f_X6_forget σC = some (rr, σC')) : Ci l yX6_forget wsX6_forget { frames := 1, cells := 0, slots := 0, locals := 20 } g sz [.ref qX] (wX6 qX AX ++ wX1 g (AX 0) AC σC) rr (wX6 qX AX ++ wX1 g (AX 0) AC σC') := by
  refine gMet_i (cc := cX6_forget) (maxL := 2) (ret := (some .int)) (by decide) rfl (Nat.le_of_ble_eq_true rfl) ?_
  intro p e s m args below meth c Z hx hb hr F hlk hnm hK hN hA H locs hP hD hS ls hl
  have hl : lv_has ls 2 [(0, .ref qX)] := hl
  have F : CallFix p m c cX6_forget 2 s args wsX6_forget RX6 := F
  have hts := F.2.2.2.2
  have hown : s.vm.findClass RX6 = some m.cls := F.2.2.2.1
  have hi6 : ∀ w ∈ u_ws RX6 TX6 8, w ∈ wsX6_forget := by decide +kernel
  dsimp only [f_X6_forget] at hF
  refine lv_aload_n hx hb dX6_forget_0 rfl (lv_at hl 0 rfl) ?_
  refine va_get (D := g.1) (ci := 6) (v := .ref (AX 0)) (C := RX6) (T := TX6) (N := 8) hx hb hts hi6 hown hK hP 0 rfl rfl 0 (by decide) (hts (.fieldLink RX6 12 "PanTales" "close" "LPanTales$Close;") (by decide +kernel)) (fun _ h9 => h9) rfl dX6_forget_1 ?_
  obtain ⟨r_1, h_2, hF⟩ := q_cl_s hF
  refine gcV_i (As := []) (rest := []) (ci := 1) (q := (RX1, TX1, 12)) F hK hN hP hD hS hA (m_X1_sightCount l g H.size (AX 0) AC σC r_1 h_2) gX6_forget_X1_sightCount kX1_sightCount rfl rfl rfl rfl ⟨(Nat.le_of_ble_eq_true rfl), (Nat.le_of_ble_eq_true rfl)⟩ [1, 2, 3, 4, 5, 6, 7, 8] [0] rfl rfl rfl (by decide) rfl rfl rfl rfl rfl hl.1 (Nat.le_of_ble_eq_true rfl) dX6_forget_4 ⟨(Nat.le_of_ble_eq_true rfl), (Nat.le_of_ble_eq_true rfl)⟩ (fun r_w u_w H locs hw hP hD hS => ?_)
  have hP : va_P g.1 vwCl (wX6 qX AX ++ wX1 g (AX 0) AC σC) H := hP
  have hD : va_D Z (wX6 qX AX ++ wX1 g (AX 0) AC σC) := hD
  obtain rfl : r_1 = r_w := hw.symm
  refine lv_istore_n (lv' := [(1, .int r_1), (0, .ref qX)]) hx hb dX6_forget_7 rfl hl (by decide) rfl (fun ls hl => ?_)
  refine lv_aload_n hx hb dX6_forget_8 rfl (lv_at hl 1 rfl) ?_
  refine va_get (D := g.1) (ci := 6) (v := .ref (AX 0)) (C := RX6) (T := TX6) (N := 8) hx hb hts hi6 hown hK hP 0 rfl rfl 0 (by decide) (hts (.fieldLink RX6 12 "PanTales" "close" "LPanTales$Close;") (by decide +kernel)) (fun _ h9 => h9) rfl dX6_forget_9 ?_
  obtain ⟨σC_3, h_4, hF⟩ := q_cl_s hF
  refine gcV_v (As := []) (rest := []) (ci := 1) (q := (RX1, TX1, 12)) F hK hN hP hD hS hA (m_X1_dropSights l g H.size (AX 0) AC σC σC_3 h_4) gX6_forget_X1_dropSights kX1_dropSights rfl rfl rfl rfl ⟨(Nat.le_of_ble_eq_true rfl), (Nat.le_of_ble_eq_true rfl)⟩ [1, 2, 3, 4, 5, 6, 7, 8] [0] rfl rfl rfl (by decide) rfl rfl rfl rfl rfl hl.1 (Nat.le_of_ble_eq_true rfl) dX6_forget_12 ⟨(Nat.le_of_ble_eq_true rfl), (Nat.le_of_ble_eq_true rfl)⟩ (fun u_w H locs hw hP hD hS => ?_)
  have hP : va_P g.1 vwCl (wX6 qX AX ++ wX1 g (AX 0) AC σC_3) H := hP
  have hD : va_D Z (wX6 qX AX ++ wX1 g (AX 0) AC σC_3) := hD
  refine lv_iload_n hx hb dX6_forget_15 rfl (lv_at hl 0 rfl) ?_
  cases hF
  exact r_iret hx hb hr hlk hS () rfl hP hD dX6_forget_16
set_option maxHeartbeats 4000000 in
set_option maxRecDepth 100000 in
theorem m_X6_fits (l : Launch) (g : GT) (sz : Nat) (qX : Nat) (AX : Nat → Nat) (AY : Nat → Nat) (σY : qS) (AC : Nat → Nat) (σC : qS) (a1 : Int32) (rr : Int32) (σY' : qS) (hF : f_X6_fits σY σC a1 = some (rr, σY')) : Ci l yX6_fits wsX6_fits { frames := 4, cells := 0, slots := 0, locals := 93 } g sz [.ref qX, .int a1] (wX6 qX AX ++ wX4 g (AX 6) AY σY ++ wX1 g (AX 0) AC σC) rr (wX6 qX AX ++ wX4 g (AX 6) AY σY' ++ wX1 g (AX 0) AC σC) := by
  refine gMet_i (cc := cX6_fits) (maxL := 2) (ret := (some .int)) (by decide) rfl (Nat.le_of_ble_eq_true rfl) ?_
  intro p e s m args below meth c Z hx hb hr F hlk hnm hK hN hA H locs hP hD hS ls hl
  have hl : lv_has ls 2 [(0, .ref qX), (1, .int a1)] := hl
  have F : CallFix p m c cX6_fits 2 s args wsX6_fits RX6 := F
  have hts := F.2.2.2.2
  have hown : s.vm.findClass RX6 = some m.cls := F.2.2.2.1
  have hi6 : ∀ w ∈ u_ws RX6 TX6 8, w ∈ wsX6_fits := by decide +kernel
  dsimp only [f_X6_fits] at hF
  refine lv_aload_n hx hb dX6_fits_0 rfl (lv_at hl 0 rfl) ?_
  refine va_get (D := g.1) (ci := 6) (v := .ref (AX 6)) (C := RX6) (T := TX6) (N := 8) hx hb hts hi6 hown hK hP 0 rfl rfl 6 (by decide) (hts (.fieldLink RX6 47 "PanTales" "sayings" "LPanTales$Sayings;") (by decide +kernel)) (fun _ h9 => h9) rfl dX6_fits_1 ?_
  refine lv_aload_n hx hb dX6_fits_4 rfl (lv_at hl 0 rfl) ?_
  refine va_get (D := g.1) (ci := 6) (v := .ref (AX 0)) (C := RX6) (T := TX6) (N := 8) hx hb hts hi6 hown hK hP 0 rfl rfl 0 (by decide) (hts (.fieldLink RX6 12 "PanTales" "close" "LPanTales$Close;") (by decide +kernel)) (fun _ h9 => h9) rfl dX6_fits_5 ?_
  obtain ⟨σY_1, h_2, hF⟩ := q_cl_s hF
  refine gcV_v (As := [.ref (AX 0)]) (rest := []) (ci := 4) (q := (RX4, TX4, 4)) F hK hN hP hD hS hA (m_X4_gather l g H.size (AX 6) AY σY (AX 0) AC σC σY_1 h_2) gX6_fits_X4_gather kX4_gather rfl rfl rfl rfl ⟨(Nat.le_of_ble_eq_true rfl), (Nat.le_of_ble_eq_true rfl)⟩ [1, 2, 3, 4, 5, 6, 7, 8, 9, 10, 11, 12] [0] rfl rfl rfl (by decide) rfl rfl rfl rfl rfl hl.1 (Nat.le_of_ble_eq_true rfl) dX6_fits_8 ⟨(Nat.le_of_ble_eq_true rfl), (Nat.le_of_ble_eq_true rfl)⟩ (fun u_w H locs hw hP hD hS => ?_)
  have hP : va_P g.1 vwCl (wX6 qX AX ++ wX4 g (AX 6) AY σY_1 ++ wX1 g (AX 0) AC σC) H := hP
  have hD : va_D Z (wX6 qX AX ++ wX4 g (AX 6) AY σY_1 ++ wX1 g (AX 0) AC σC) := hD
  refine lv_iload_n hx hb dX6_fits_11 rfl (lv_at hl 1 rfl) ?_
  refine lv_iconst (v := (-1)) hx hb dX6_fits_12 (by decide) ?_
  refine lv_icmp_ne (tgt := 26) hx hb dX6_fits_13 (by decide) (fun c_3 => ?_) (fun c_3 => ?_)
  · have hF := q_if_f c_3 hF
    refine lv_aload_n hx hb dX6_fits_26 rfl (lv_at hl 0 rfl) ?_
    refine va_get (D := g.1) (ci := 6) (v := .ref (AX 6)) (C := RX6) (T := TX6) (N := 8) hx hb hts hi6 hown hK hP 0 rfl rfl 6 (by decide) (hts (.fieldLink RX6 47 "PanTales" "sayings" "LPanTales$Sayings;") (by decide +kernel)) (fun _ h9 => h9) rfl dX6_fits_27 ?_
    refine lv_iload_n hx hb dX6_fits_30 rfl (lv_at hl 1 rfl) ?_
    obtain ⟨r_4, h_5, hF⟩ := q_cl_s hF
    refine gcV_i (As := [.int a1]) (rest := []) (ci := 4) (q := (RX4, TX4, 4)) F hK hN hP hD hS hA (m_X4_pick l g H.size (AX 6) AY σY_1 a1 r_4 h_5) gX6_fits_X4_pick kX4_pick rfl rfl rfl rfl ⟨(Nat.le_of_ble_eq_true rfl), (Nat.le_of_ble_eq_true rfl)⟩ [1, 2, 3, 4] [0, 5, 6, 7, 8, 9, 10, 11, 12] rfl rfl rfl (by decide) rfl rfl rfl rfl rfl hl.1 (Nat.le_of_ble_eq_true rfl) dX6_fits_31 ⟨(Nat.le_of_ble_eq_true rfl), (Nat.le_of_ble_eq_true rfl)⟩ (fun r_w u_w H locs hw hP hD hS => ?_)
    have hP : va_P g.1 vwCl (wX6 qX AX ++ wX4 g (AX 6) AY σY_1 ++ wX1 g (AX 0) AC σC) H := hP.sub [0, 9, 10, 11, 12, 1, 2, 3, 4, 5, 6, 7, 8] rfl
    have hD : va_D Z (wX6 qX AX ++ wX4 g (AX 6) AY σY_1 ++ wX1 g (AX 0) AC σC) := hD.sub [0, 9, 10, 11, 12, 1, 2, 3, 4, 5, 6, 7, 8] (by decide) rfl
    obtain rfl : r_4 = r_w := hw.symm
    cases hF
    exact r_iret hx hb hr hlk hS () rfl hP hD dX6_fits_34
  · have hF := q_if_t (by first | exact c_3 | exact Classical.not_not.mp c_3) hF
    refine lv_aload_n hx hb dX6_fits_16 rfl (lv_at hl 0 rfl) ?_
    refine va_get (D := g.1) (ci := 6) (v := .ref (AX 6)) (C := RX6) (T := TX6) (N := 8) hx hb hts hi6 hown hK hP 0 rfl rfl 6 (by decide) (hts (.fieldLink RX6 47 "PanTales" "sayings" "LPanTales$Sayings;") (by decide +kernel)) (fun _ h9 => h9) rfl dX6_fits_17 ?_
    obtain ⟨r_6, h_7, hF⟩ := q_cl_s hF
    refine gcV_i (As := []) (rest := []) (ci := 4) (q := (RX4, TX4, 4)) F hK hN hP hD hS hA (m_X4_size l g H.size (AX 6) AY σY_1 r_6 h_7) gX6_fits_X4_size kX4_size rfl rfl rfl rfl ⟨(Nat.le_of_ble_eq_true rfl), (Nat.le_of_ble_eq_true rfl)⟩ [1, 2, 3, 4] [0, 5, 6, 7, 8, 9, 10, 11, 12] rfl rfl rfl (by decide) rfl rfl rfl rfl rfl hl.1 (Nat.le_of_ble_eq_true rfl) dX6_fits_20 ⟨(Nat.le_of_ble_eq_true rfl), (Nat.le_of_ble_eq_true rfl)⟩ (fun r_w u_w H locs hw hP hD hS => ?_)
    have hP : va_P g.1 vwCl (wX6 qX AX ++ wX4 g (AX 6) AY σY_1 ++ wX1 g (AX 0) AC σC) H := hP.sub [0, 9, 10, 11, 12, 1, 2, 3, 4, 5, 6, 7, 8] rfl
    have hD : va_D Z (wX6 qX AX ++ wX4 g (AX 6) AY σY_1 ++ wX1 g (AX 0) AC σC) := hD.sub [0, 9, 10, 11, 12, 1, 2, 3, 4, 5, 6, 7, 8] (by decide) rfl
    obtain rfl : r_6 = r_w := hw.symm
    refine lv_goto (tgt := 34) hx hb dX6_fits_23 (by decide) ?_
    cases hF
    exact r_iret hx hb hr hlk hS () rfl hP hD dX6_fits_34
set_option maxHeartbeats 4000000 in
set_option maxRecDepth 100000 in
theorem m_X6_ask (l : Launch) (g : GT) (sz : Nat) (qX : Nat) (AX : Nat → Nat) (AY : Nat → Nat) (σY : qS) (AC : Nat → Nat) (σC : qS) (a1 : Int32) (rr : Int32) (σY' : qS) (hF : f_X6_ask σY σC a1 = some (rr, σY')) : Ci l yX6_ask wsX6_ask { frames := 4, cells := 0, slots := 0, locals := 95 } g sz [.ref qX, .int a1] (wX6 qX AX ++ wX4 g (AX 6) AY σY ++ wX1 g (AX 0) AC σC) rr (wX6 qX AX ++ wX4 g (AX 6) AY σY' ++ wX1 g (AX 0) AC σC) := by
  refine gMet_i (cc := cX6_ask) (maxL := 3) (ret := (some .int)) (by decide) rfl (Nat.le_of_ble_eq_true rfl) ?_
  intro p e s m args below meth c Z hx hb hr F hlk hnm hK hN hA H locs hP hD hS ls hl
  have hl : lv_has ls 3 [(0, .ref qX), (1, .int a1)] := hl
  have F : CallFix p m c cX6_ask 3 s args wsX6_ask RX6 := F
  have hts := F.2.2.2.2
  have hown : s.vm.findClass RX6 = some m.cls := F.2.2.2.1
  have hi6 : ∀ w ∈ u_ws RX6 TX6 8, w ∈ wsX6_ask := by decide +kernel
  dsimp only [f_X6_ask] at hF
  refine lv_iload_n hx hb dX6_ask_0 rfl (lv_at hl 1 rfl) ?_
  refine lv_iconst (v := 0) hx hb dX6_ask_1 (by decide) ?_
  refine lv_iconst (v := 1) hx hb dX6_ask_2 (by decide) ?_
  obtain ⟨r_1, h_2, hF⟩ := q_cl_s hF
  refine gcP (As := [.int a1, .int 0, .int 1]) (rest := []) F (m_X6_within l a1 (0 : Int32) (1 : Int32) r_1 h_2) gX6_ask_X6_within kX6_within rfl rfl rfl ⟨(Nat.le_of_ble_eq_true rfl), (Nat.le_of_ble_eq_true rfl)⟩ rfl rfl hl.1 (Nat.le_of_ble_eq_true rfl) dX6_ask_3 ⟨(Nat.le_of_ble_eq_true rfl), (Nat.le_of_ble_eq_true rfl)⟩ ?_
  refine lv_if_ne (tgt := 12) hx hb dX6_ask_6 (by decide) (fun c_3 => ?_) (fun c_3 => ?_)
  · have hF := q_if_f c_3 hF
    refine lv_aload_n hx hb dX6_ask_12 rfl (lv_at hl 0 rfl) ?_
    refine va_get (D := g.1) (ci := 6) (v := .ref (AX 6)) (C := RX6) (T := TX6) (N := 8) hx hb hts hi6 hown hK hP 0 rfl rfl 6 (by decide) (hts (.fieldLink RX6 47 "PanTales" "sayings" "LPanTales$Sayings;") (by decide +kernel)) (fun _ h9 => h9) rfl dX6_ask_13 ?_
    refine lv_aload_n hx hb dX6_ask_16 rfl (lv_at hl 0 rfl) ?_
    refine va_get (D := g.1) (ci := 6) (v := .ref (AX 0)) (C := RX6) (T := TX6) (N := 8) hx hb hts hi6 hown hK hP 0 rfl rfl 0 (by decide) (hts (.fieldLink RX6 12 "PanTales" "close" "LPanTales$Close;") (by decide +kernel)) (fun _ h9 => h9) rfl dX6_ask_17 ?_
    obtain ⟨σY_4, h_5, hF⟩ := q_cl_s hF
    refine gcV_v (As := [.ref (AX 0)]) (rest := []) (ci := 4) (q := (RX4, TX4, 4)) F hK hN hP hD hS hA (m_X4_gather l g H.size (AX 6) AY σY (AX 0) AC σC σY_4 h_5) gX6_ask_X4_gather kX4_gather rfl rfl rfl rfl ⟨(Nat.le_of_ble_eq_true rfl), (Nat.le_of_ble_eq_true rfl)⟩ [1, 2, 3, 4, 5, 6, 7, 8, 9, 10, 11, 12] [0] rfl rfl rfl (by decide) rfl rfl rfl rfl rfl hl.1 (Nat.le_of_ble_eq_true rfl) dX6_ask_20 ⟨(Nat.le_of_ble_eq_true rfl), (Nat.le_of_ble_eq_true rfl)⟩ (fun u_w H locs hw hP hD hS => ?_)
    have hP : va_P g.1 vwCl (wX6 qX AX ++ wX4 g (AX 6) AY σY_4 ++ wX1 g (AX 0) AC σC) H := hP
    have hD : va_D Z (wX6 qX AX ++ wX4 g (AX 6) AY σY_4 ++ wX1 g (AX 0) AC σC) := hD
    refine lv_aload_n hx hb dX6_ask_23 rfl (lv_at hl 0 rfl) ?_
    refine va_get (D := g.1) (ci := 6) (v := .ref (AX 6)) (C := RX6) (T := TX6) (N := 8) hx hb hts hi6 hown hK hP 0 rfl rfl 6 (by decide) (hts (.fieldLink RX6 47 "PanTales" "sayings" "LPanTales$Sayings;") (by decide +kernel)) (fun _ h9 => h9) rfl dX6_ask_24 ?_
    obtain ⟨⟨r_6, σY_7⟩, h_8, hF⟩ := q_cl_s hF
    try dsimp only at hF
    refine gcV_i (As := []) (rest := []) (ci := 4) (q := (RX4, TX4, 4)) F hK hN hP hD hS hA (m_X4_bedToAsk l g H.size (AX 6) AY σY_4 r_6 σY_7 h_8) gX6_ask_X4_bedToAsk kX4_bedToAsk rfl rfl rfl rfl ⟨(Nat.le_of_ble_eq_true rfl), (Nat.le_of_ble_eq_true rfl)⟩ [1, 2, 3, 4] [0, 5, 6, 7, 8, 9, 10, 11, 12] rfl rfl rfl (by decide) rfl rfl rfl rfl rfl hl.1 (Nat.le_of_ble_eq_true rfl) dX6_ask_27 ⟨(Nat.le_of_ble_eq_true rfl), (Nat.le_of_ble_eq_true rfl)⟩ (fun r_w u_w H locs hw hP hD hS => ?_)
    have hP : va_P g.1 vwCl (wX6 qX AX ++ wX4 g (AX 6) AY σY_7 ++ wX1 g (AX 0) AC σC) H := hP.sub [0, 9, 10, 11, 12, 1, 2, 3, 4, 5, 6, 7, 8] rfl
    have hD : va_D Z (wX6 qX AX ++ wX4 g (AX 6) AY σY_7 ++ wX1 g (AX 0) AC σC) := hD.sub [0, 9, 10, 11, 12, 1, 2, 3, 4, 5, 6, 7, 8] (by decide) rfl
    obtain rfl : r_6 = r_w := hw.symm
    refine lv_istore_n (lv' := [(2, .int r_6), (0, .ref qX), (1, .int a1)]) hx hb dX6_ask_30 rfl hl (by decide) rfl (fun ls hl => ?_)
    refine lv_iload_n hx hb dX6_ask_31 rfl (lv_at hl 2 rfl) ?_
    refine lv_if_eq (tgt := 41) hx hb dX6_ask_32 (by decide) (fun c_10 => ?_) (fun c_10 => ?_)
    · have hF := q_if_t c_10 hF
      refine lv_iload_n hx hb dX6_ask_41 rfl (lv_at hl 0 rfl) ?_
      refine lv_goto (tgt := 53) hx hb dX6_ask_42 (by decide) ?_
      cases hF
      exact r_iret hx hb hr hlk hS () rfl hP hD dX6_ask_53
    · have hF := q_if_f c_10 hF
      refine lv_iload_n hx hb dX6_ask_35 rfl (lv_at hl 0 rfl) ?_
      refine lv_bipush (v := (-6)) hx hb dX6_ask_36 (by decide) ?_
      refine lv_icmp_ne (tgt := 45) hx hb dX6_ask_38 (by decide) (fun c_11 => ?_) (fun c_11 => ?_)
      · have hF := q_if_f c_11 hF
        refine lv_aload_n hx hb dX6_ask_45 rfl (lv_at hl 1 rfl) ?_
        refine va_get (D := g.1) (ci := 6) (v := .ref (AX 6)) (C := RX6) (T := TX6) (N := 8) hx hb hts hi6 hown hK hP 0 rfl rfl 6 (by decide) (hts (.fieldLink RX6 47 "PanTales" "sayings" "LPanTales$Sayings;") (by decide +kernel)) (fun _ h9 => h9) rfl dX6_ask_46 ?_
        refine lv_iload_n hx hb dX6_ask_49 rfl (lv_at hl 0 rfl) ?_
        obtain ⟨⟨r_12, σY_13⟩, h_14, hF⟩ := q_cl_s hF
        try dsimp only at hF
        refine gcV_i (As := [.int r_6]) (rest := []) (ci := 4) (q := (RX4, TX4, 4)) F hK hN hP hD hS hA (m_X4_mostLeft l g H.size (AX 6) AY σY_7 r_6 r_12 σY_13 h_14) gX6_ask_X4_mostLeft kX4_mostLeft rfl rfl rfl rfl ⟨(Nat.le_of_ble_eq_true rfl), (Nat.le_of_ble_eq_true rfl)⟩ [1, 2, 3, 4] [0, 5, 6, 7, 8, 9, 10, 11, 12] rfl rfl rfl (by decide) rfl rfl rfl rfl rfl hl.1 (Nat.le_of_ble_eq_true rfl) dX6_ask_50 ⟨(Nat.le_of_ble_eq_true rfl), (Nat.le_of_ble_eq_true rfl)⟩ (fun r_w u_w H locs hw hP hD hS => ?_)
        have hP : va_P g.1 vwCl (wX6 qX AX ++ wX4 g (AX 6) AY σY_13 ++ wX1 g (AX 0) AC σC) H := hP.sub [0, 9, 10, 11, 12, 1, 2, 3, 4, 5, 6, 7, 8] rfl
        have hD : va_D Z (wX6 qX AX ++ wX4 g (AX 6) AY σY_13 ++ wX1 g (AX 0) AC σC) := hD.sub [0, 9, 10, 11, 12, 1, 2, 3, 4, 5, 6, 7, 8] (by decide) rfl
        obtain rfl : r_12 = r_w := hw.symm
        cases hF
        exact r_iret hx hb hr hlk hS () rfl hP hD dX6_ask_53
      · have hF := q_if_t (by first | exact c_11 | exact Classical.not_not.mp c_11) hF
        refine lv_iload_n hx hb dX6_ask_41 rfl (lv_at hl 0 rfl) ?_
        refine lv_goto (tgt := 53) hx hb dX6_ask_42 (by decide) ?_
        cases hF
        exact r_iret hx hb hr hlk hS () rfl hP hD dX6_ask_53
  · have hF := q_if_t (by first | exact c_3 | exact Classical.not_not.mp c_3) hF
    refine lv_bipush (v := (-2)) hx hb dX6_ask_9 (by decide) ?_
    cases hF
    exact r_iret hx hb hr hlk hS () rfl hP hD dX6_ask_11
set_option maxHeartbeats 4000000 in
set_option maxRecDepth 100000 in
theorem m_X6_embers (l : Launch) (g : GT) (sz : Nat) (qX : Nat) (AX : Nat → Nat) (AK : Nat → Nat) (σK : qS) (ℓK : qL) (a1 : Int32) (a2 : Int32) (rr : Int32) (σK' : qS) (hF : f_X6_embers σK ℓK a1 a2 = some (rr, σK')) : Ci l yX6_embers wsX6_embers { frames := 3, cells := 0, slots := 0, locals := 67 } g sz [.ref qX, .int a1, .int a2] (wX6 qX AX ++ wX0 g (AX 7) AK σK ℓK) rr (wX6 qX AX ++ wX0 g (AX 7) AK σK' ℓK) := by
  refine gMet_i (cc := cX6_embers) (maxL := 4) (ret := (some .int)) (by decide) rfl (Nat.le_of_ble_eq_true rfl) ?_
  intro p e s m args below meth c Z hx hb hr F hlk hnm hK hN hA H locs hP hD hS ls hl
  have hl : lv_has ls 4 [(0, .ref qX), (1, .int a1), (2, .int a2)] := hl
  have F : CallFix p m c cX6_embers 4 s args wsX6_embers RX6 := F
  have hts := F.2.2.2.2
  have hown : s.vm.findClass RX6 = some m.cls := F.2.2.2.1
  have hi6 : ∀ w ∈ u_ws RX6 TX6 8, w ∈ wsX6_embers := by decide +kernel
  dsimp only [f_X6_embers] at hF
  refine lv_iload_n hx hb dX6_embers_0 rfl (lv_at hl 1 rfl) ?_
  refine lv_iconst (v := 1) hx hb dX6_embers_1 (by decide) ?_
  refine lv_bipush (v := 60) hx hb dX6_embers_2 (by decide) ?_
  obtain ⟨r_1, h_2, hF⟩ := q_cl_s hF
  refine gcP (As := [.int a1, .int 1, .int 60]) (rest := []) F (m_X6_within l a1 (1 : Int32) (60 : Int32) r_1 h_2) gX6_embers_X6_within kX6_within rfl rfl rfl ⟨(Nat.le_of_ble_eq_true rfl), (Nat.le_of_ble_eq_true rfl)⟩ rfl rfl hl.1 (Nat.le_of_ble_eq_true rfl) dX6_embers_4 ⟨(Nat.le_of_ble_eq_true rfl), (Nat.le_of_ble_eq_true rfl)⟩ ?_
  refine lv_if_eq (tgt := 19) hx hb dX6_embers_7 (by decide) (fun c_3 => ?_) (fun c_3 => ?_)
  · have hF := q_if_t c_3 hF
    refine lv_bipush (v := (-2)) hx hb dX6_embers_19 (by decide) ?_
    cases hF
    exact r_iret hx hb hr hlk hS () rfl hP hD dX6_embers_21
  · have hF := q_if_f c_3 hF
    refine lv_iload_n hx hb dX6_embers_10 rfl (lv_at hl 2 rfl) ?_
    refine lv_iconst (v := 0) hx hb dX6_embers_11 (by decide) ?_
    refine lv_iconst (v := 1) hx hb dX6_embers_12 (by decide) ?_
    obtain ⟨r_4, h_5, hF⟩ := q_cl_s hF
    refine gcP (As := [.int a2, .int 0, .int 1]) (rest := []) F (m_X6_within l a2 (0 : Int32) (1 : Int32) r_4 h_5) gX6_embers_X6_within kX6_within rfl rfl rfl ⟨(Nat.le_of_ble_eq_true rfl), (Nat.le_of_ble_eq_true rfl)⟩ rfl rfl hl.1 (Nat.le_of_ble_eq_true rfl) dX6_embers_13 ⟨(Nat.le_of_ble_eq_true rfl), (Nat.le_of_ble_eq_true rfl)⟩ ?_
    refine lv_if_ne (tgt := 22) hx hb dX6_embers_16 (by decide) (fun c_6 => ?_) (fun c_6 => ?_)
    · have hF := q_if_f c_6 hF
      refine lv_aload_n hx hb dX6_embers_22 rfl (lv_at hl 0 rfl) ?_
      refine va_get (D := g.1) (ci := 6) (v := .ref (AX 7)) (C := RX6) (T := TX6) (N := 8) hx hb hts hi6 hown hK hP 0 rfl rfl 7 (by decide) (hts (.fieldLink RX6 54 "PanTales" "chances" "LPanTales$Chances;") (by decide +kernel)) (fun _ h9 => h9) rfl dX6_embers_23 ?_
      refine lv_iload_n hx hb dX6_embers_26 rfl (lv_at hl 1 rfl) ?_
      obtain ⟨⟨r_7, σK_8⟩, h_9, hF⟩ := q_cl_s hF
      try dsimp only at hF
      refine gcV_i (As := [.int a1]) (rest := []) (ci := 0) (q := (RX0, TX0, 3)) F hK hN hP hD hS hA (m_X0_firstTake l g H.size (AX 7) AK σK ℓK a1 r_7 σK_8 h_9) gX6_embers_X0_firstTake kX0_firstTake rfl rfl rfl rfl ⟨(Nat.le_of_ble_eq_true rfl), (Nat.le_of_ble_eq_true rfl)⟩ [1, 2, 3, 4] [0] rfl rfl rfl (by decide) rfl rfl rfl rfl rfl hl.1 (Nat.le_of_ble_eq_true rfl) dX6_embers_27 ⟨(Nat.le_of_ble_eq_true rfl), (Nat.le_of_ble_eq_true rfl)⟩ (fun r_w u_w H locs hw hP hD hS => ?_)
      have hP : va_P g.1 vwCl (wX6 qX AX ++ wX0 g (AX 7) AK σK_8 ℓK) H := hP
      have hD : va_D Z (wX6 qX AX ++ wX0 g (AX 7) AK σK_8 ℓK) := hD
      obtain rfl : r_7 = r_w := hw.symm
      refine lv_istore_n (lv' := [(3, .int r_7), (0, .ref qX), (1, .int a1), (2, .int a2)]) hx hb dX6_embers_30 rfl hl (by decide) rfl (fun ls hl => ?_)
      refine lv_iload_n hx hb dX6_embers_31 rfl (lv_at hl 3 rfl) ?_
      refine lv_iconst (v := 1) hx hb dX6_embers_32 (by decide) ?_
      refine lv_icmp_ne (tgt := 38) hx hb dX6_embers_33 (by decide) (fun c_11 => ?_) (fun c_11 => ?_)
      · have hF := q_if_f c_11 hF
        refine lv_iload_n hx hb dX6_embers_38 rfl (lv_at hl 0 rfl) ?_
        refine lv_bipush (v := (-6)) hx hb dX6_embers_39 (by decide) ?_
        refine lv_icmp_ne (tgt := 48) hx hb dX6_embers_41 (by decide) (fun c_12 => ?_) (fun c_12 => ?_)
        · have hF := q_if_f c_12 hF
          refine lv_iconst (v := 1) hx hb dX6_embers_48 (by decide) ?_
          cases hF
          exact r_iret hx hb hr hlk hS () rfl hP hD dX6_embers_49
        · have hF := q_if_t (by first | exact c_12 | exact Classical.not_not.mp c_12) hF
          refine lv_iconst (v := 0) hx hb dX6_embers_44 (by decide) ?_
          refine lv_goto (tgt := 49) hx hb dX6_embers_45 (by decide) ?_
          cases hF
          exact r_iret hx hb hr hlk hS () rfl hP hD dX6_embers_49
      · have hF := q_if_t (by first | exact c_11 | exact Classical.not_not.mp c_11) hF
        refine lv_iload_n hx hb dX6_embers_36 rfl (lv_at hl 0 rfl) ?_
        cases hF
        exact r_iret hx hb hr hlk hS () rfl hP hD dX6_embers_37
    · have hF := q_if_t (by first | exact c_6 | exact Classical.not_not.mp c_6) hF
      refine lv_bipush (v := (-2)) hx hb dX6_embers_19 (by decide) ?_
      cases hF
      exact r_iret hx hb hr hlk hS () rfl hP hD dX6_embers_21
set_option maxHeartbeats 4000000 in
set_option maxRecDepth 100000 in
theorem m_X6_told (l : Launch) (g : GT) (sz : Nat) (qX : Nat) (AX : Nat → Nat) (AP : Nat → Nat) (σP : qS) (AC : Nat → Nat) (σC : qS) (a1 : Int32) (rr : Int32) (hF : f_X6_told σP σC a1 = some rr) : Ci l yX6_told wsX6_told { frames := 3, cells := 0, slots := 0, locals := 63 } g sz [.ref qX, .int a1] (wX6 qX AX ++ wX3 g (AX 3) AP σP ++ wX1 g (AX 0) AC σC) rr (wX6 qX AX ++ wX3 g (AX 3) AP σP ++ wX1 g (AX 0) AC σC) := by
  refine gMet_i (cc := cX6_told) (maxL := 3) (ret := (some .int)) (by decide) rfl (Nat.le_of_ble_eq_true rfl) ?_
  intro p e s m args below meth c Z hx hb hr F hlk hnm hK hN hA H locs hP hD hS ls hl
  have hl : lv_has ls 3 [(0, .ref qX), (1, .int a1)] := hl
  have F : CallFix p m c cX6_told 3 s args wsX6_told RX6 := F
  have hts := F.2.2.2.2
  have hown : s.vm.findClass RX6 = some m.cls := F.2.2.2.1
  have hi6 : ∀ w ∈ u_ws RX6 TX6 8, w ∈ wsX6_told := by decide +kernel
  dsimp only [f_X6_told] at hF
  refine lv_iload_n hx hb dX6_told_0 rfl (lv_at hl 1 rfl) ?_
  refine lv_if_ne (tgt := 12) hx hb dX6_told_1 (by decide) (fun c_1 => ?_) (fun c_1 => ?_)
  · have hF := q_if_f c_1 hF
    refine lv_iload_n hx hb dX6_told_12 rfl (lv_at hl 1 rfl) ?_
    refine lv_iconst (v := 1) hx hb dX6_told_13 (by decide) ?_
    refine lv_iconst (v := 4) hx hb dX6_told_14 (by decide) ?_
    obtain ⟨r_2, h_3, hF⟩ := q_cl_s hF
    refine gcP (As := [.int a1, .int 1, .int 4]) (rest := []) F (m_X6_within l a1 (1 : Int32) (4 : Int32) r_2 h_3) gX6_told_X6_within kX6_within rfl rfl rfl ⟨(Nat.le_of_ble_eq_true rfl), (Nat.le_of_ble_eq_true rfl)⟩ rfl rfl hl.1 (Nat.le_of_ble_eq_true rfl) dX6_told_15 ⟨(Nat.le_of_ble_eq_true rfl), (Nat.le_of_ble_eq_true rfl)⟩ ?_
    refine lv_if_eq (tgt := 32) hx hb dX6_told_18 (by decide) (fun c_4 => ?_) (fun c_4 => ?_)
    · have hF := q_if_t c_4 hF
      refine lv_iload_n hx hb dX6_told_32 rfl (lv_at hl 1 rfl) ?_
      refine lv_iconst (v := 5) hx hb dX6_told_33 (by decide) ?_
      refine lv_icmp_ne (tgt := 45) hx hb dX6_told_34 (by decide) (fun c_5 => ?_) (fun c_5 => ?_)
      · have hF := q_if_f c_5 hF
        refine lv_iload_n hx hb dX6_told_45 rfl (lv_at hl 1 rfl) ?_
        refine lv_bipush (v := 10) hx hb dX6_told_46 (by decide) ?_
        refine lv_bipush (v := 19) hx hb dX6_told_48 (by decide) ?_
        obtain ⟨r_6, h_7, hF⟩ := q_cl_s hF
        refine gcP (As := [.int a1, .int 10, .int 19]) (rest := []) F (m_X6_within l a1 (10 : Int32) (19 : Int32) r_6 h_7) gX6_told_X6_within kX6_within rfl rfl rfl ⟨(Nat.le_of_ble_eq_true rfl), (Nat.le_of_ble_eq_true rfl)⟩ rfl rfl hl.1 (Nat.le_of_ble_eq_true rfl) dX6_told_50 ⟨(Nat.le_of_ble_eq_true rfl), (Nat.le_of_ble_eq_true rfl)⟩ ?_
        refine lv_if_eq (tgt := 68) hx hb dX6_told_53 (by decide) (fun c_8 => ?_) (fun c_8 => ?_)
        · have hF := q_if_t c_8 hF
          refine lv_iload_n hx hb dX6_told_68 rfl (lv_at hl 1 rfl) ?_
          refine lv_bipush (v := 100) hx hb dX6_told_69 (by decide) ?_
          refine lv_sipush (v := 199) hx hb dX6_told_71 (by decide) ?_
          obtain ⟨r_9, h_10, hF⟩ := q_cl_s hF
          refine gcP (As := [.int a1, .int 100, .int 199]) (rest := []) F (m_X6_within l a1 (100 : Int32) (199 : Int32) r_9 h_10) gX6_told_X6_within kX6_within rfl rfl rfl ⟨(Nat.le_of_ble_eq_true rfl), (Nat.le_of_ble_eq_true rfl)⟩ rfl rfl hl.1 (Nat.le_of_ble_eq_true rfl) dX6_told_74 ⟨(Nat.le_of_ble_eq_true rfl), (Nat.le_of_ble_eq_true rfl)⟩ ?_
          refine lv_if_eq (tgt := 107) hx hb dX6_told_77 (by decide) (fun c_11 => ?_) (fun c_11 => ?_)
          · have hF := q_if_t c_11 hF
            refine lv_iload_n hx hb dX6_told_107 rfl (lv_at hl 1 rfl) ?_
            refine lv_sipush (v := 1000) hx hb dX6_told_108 (by decide) ?_
            refine lv_sipush (v := 1219) hx hb dX6_told_111 (by decide) ?_
            obtain ⟨r_12, h_13, hF⟩ := q_cl_s hF
            refine gcP (As := [.int a1, .int 1000, .int 1219]) (rest := []) F (m_X6_within l a1 (1000 : Int32) (1219 : Int32) r_12 h_13) gX6_told_X6_within kX6_within rfl rfl rfl ⟨(Nat.le_of_ble_eq_true rfl), (Nat.le_of_ble_eq_true rfl)⟩ rfl rfl hl.1 (Nat.le_of_ble_eq_true rfl) dX6_told_114 ⟨(Nat.le_of_ble_eq_true rfl), (Nat.le_of_ble_eq_true rfl)⟩ ?_
            refine lv_if_eq (tgt := 138) hx hb dX6_told_117 (by decide) (fun c_14 => ?_) (fun c_14 => ?_)
            · have hF := q_if_t c_14 hF
              refine lv_iconst (v := 0) hx hb dX6_told_138 (by decide) ?_
              refine lv_istore_n (lv' := [(2, .int 0), (0, .ref qX), (1, .int a1)]) hx hb dX6_told_139 rfl hl (by decide) rfl (fun ls hl => ?_)
              refine lv_iload_n hx hb dX6_told_140 rfl (lv_at hl 0 rfl) ?_
              refine lv_if_eq (tgt := 170) hx hb dX6_told_141 (by decide) (fun c_15 => ?_) (fun c_15 => ?_)
              · refine lv_bipush (v := (-2)) hx hb dX6_told_170 (by decide) ?_
                cases hF
                exact r_iret hx hb hr hlk hS () rfl hP hD dX6_told_172
              · first | exact absurd c_15 (by decide) | exact c_15 (by decide)
            · have hF := q_if_f c_14 hF
              refine lv_iload_n hx hb dX6_told_120 rfl (lv_at hl 1 rfl) ?_
              refine lv_sipush (v := 1000) hx hb dX6_told_121 (by decide) ?_
              refine lv_isub hx hb dX6_told_124 ?_
              refine lv_bipush (v := 20) hx hb dX6_told_125 (by decide) ?_
              refine lv_irem hx hb dX6_told_127 (by decide) ?_
              obtain ⟨r_16, h_17, hF⟩ := q_cl_s hF
              refine gcP (As := [.int ((a1 - 1000) - (a1 - 1000) / 20 * 20)]) (rest := []) F (m_X6_isPlace l ((a1 - 1000) - (a1 - 1000) / 20 * 20) r_16 h_17) gX6_told_X6_isPlace kX6_isPlace rfl rfl rfl ⟨(Nat.le_of_ble_eq_true rfl), (Nat.le_of_ble_eq_true rfl)⟩ rfl rfl hl.1 (Nat.le_of_ble_eq_true rfl) dX6_told_128 ⟨(Nat.le_of_ble_eq_true rfl), (Nat.le_of_ble_eq_true rfl)⟩ ?_
              refine lv_if_eq (tgt := 138) hx hb dX6_told_131 (by decide) (fun c_18 => ?_) (fun c_18 => ?_)
              · have hF := q_if_t c_18 hF
                refine lv_iconst (v := 0) hx hb dX6_told_138 (by decide) ?_
                refine lv_istore_n (lv' := [(2, .int 0), (0, .ref qX), (1, .int a1)]) hx hb dX6_told_139 rfl hl (by decide) rfl (fun ls hl => ?_)
                refine lv_iload_n hx hb dX6_told_140 rfl (lv_at hl 0 rfl) ?_
                refine lv_if_eq (tgt := 170) hx hb dX6_told_141 (by decide) (fun c_19 => ?_) (fun c_19 => ?_)
                · refine lv_bipush (v := (-2)) hx hb dX6_told_170 (by decide) ?_
                  cases hF
                  exact r_iret hx hb hr hlk hS () rfl hP hD dX6_told_172
                · first | exact absurd c_19 (by decide) | exact c_19 (by decide)
              · have hF := q_if_f c_18 hF
                refine lv_iconst (v := 1) hx hb dX6_told_134 (by decide) ?_
                refine lv_goto (tgt := 139) hx hb dX6_told_135 (by decide) ?_
                refine lv_istore_n (lv' := [(2, .int 1), (0, .ref qX), (1, .int a1)]) hx hb dX6_told_139 rfl hl (by decide) rfl (fun ls hl => ?_)
                refine lv_iload_n hx hb dX6_told_140 rfl (lv_at hl 0 rfl) ?_
                refine lv_if_eq (tgt := 170) hx hb dX6_told_141 (by decide) (fun c_20 => ?_) (fun c_20 => ?_)
                · first | exact absurd c_20 (by decide) | exact c_20 (by decide)
                · refine lv_aload_n hx hb dX6_told_144 rfl (lv_at hl 1 rfl) ?_
                  refine va_get (D := g.1) (ci := 6) (v := .ref (AX 0)) (C := RX6) (T := TX6) (N := 8) hx hb hts hi6 hown hK hP 0 rfl rfl 0 (by decide) (hts (.fieldLink RX6 12 "PanTales" "close" "LPanTales$Close;") (by decide +kernel)) (fun _ h9 => h9) rfl dX6_told_145 ?_
                  refine lv_iload_n hx hb dX6_told_148 rfl (lv_at hl 2 rfl) ?_
                  refine lv_sipush (v := 1000) hx hb dX6_told_149 (by decide) ?_
                  refine lv_isub hx hb dX6_told_152 ?_
                  refine lv_bipush (v := 20) hx hb dX6_told_153 (by decide) ?_
                  refine lv_idiv hx hb dX6_told_155 (by decide) ?_
                  refine lv_iload_n hx hb dX6_told_156 rfl (lv_at hl 2 rfl) ?_
                  refine lv_sipush (v := 1000) hx hb dX6_told_157 (by decide) ?_
                  refine lv_isub hx hb dX6_told_160 ?_
                  refine lv_bipush (v := 20) hx hb dX6_told_161 (by decide) ?_
                  refine lv_irem hx hb dX6_told_163 (by decide) ?_
                  obtain ⟨r_21, h_22, hF⟩ := q_cl_s hF
                  refine gcV_i (As := [.int ((a1 - 1000) / 20), .int ((a1 - 1000) - (a1 - 1000) / 20 * 20)]) (rest := []) (ci := 1) (q := (RX1, TX1, 12)) F hK hN hP hD hS hA (m_X1_longBetween l g H.size (AX 0) AC σC ((a1 - 1000) / 20) ((a1 - 1000) - (a1 - 1000) / 20 * 20) r_21 h_22) gX6_told_X1_longBetween kX1_longBetween rfl rfl rfl rfl ⟨(Nat.le_of_ble_eq_true rfl), (Nat.le_of_ble_eq_true rfl)⟩ [3, 4, 5, 6, 7, 8, 9, 10] [0, 1, 2] rfl rfl rfl (by decide) rfl rfl rfl rfl rfl hl.1 (Nat.le_of_ble_eq_true rfl) dX6_told_164 ⟨(Nat.le_of_ble_eq_true rfl), (Nat.le_of_ble_eq_true rfl)⟩ (fun r_w u_w H locs hw hP hD hS => ?_)
                  have hP : va_P g.1 vwCl (wX6 qX AX ++ wX3 g (AX 3) AP σP ++ wX1 g (AX 0) AC σC) H := hP
                  have hD : va_D Z (wX6 qX AX ++ wX3 g (AX 3) AP σP ++ wX1 g (AX 0) AC σC) := hD
                  obtain rfl : r_21 = r_w := hw.symm
                  refine lv_goto (tgt := 172) hx hb dX6_told_167 (by decide) ?_
                  cases hF
                  exact r_iret hx hb hr hlk hS () rfl hP hD dX6_told_172
          · have hF := q_if_f c_11 hF
            refine lv_iload_n hx hb dX6_told_80 rfl (lv_at hl 1 rfl) ?_
            refine lv_bipush (v := 10) hx hb dX6_told_81 (by decide) ?_
            refine lv_irem hx hb dX6_told_83 (by decide) ?_
            refine lv_iconst (v := 2) hx hb dX6_told_84 (by decide) ?_
            refine lv_icmp_gt (tgt := 107) hx hb dX6_told_85 (by decide) (fun c_23 => ?_) (fun c_23 => ?_)
            · have hF := q_if_t c_23 hF
              refine lv_iload_n hx hb dX6_told_107 rfl (lv_at hl 1 rfl) ?_
              refine lv_sipush (v := 1000) hx hb dX6_told_108 (by decide) ?_
              refine lv_sipush (v := 1219) hx hb dX6_told_111 (by decide) ?_
              obtain ⟨r_24, h_25, hF⟩ := q_cl_s hF
              refine gcP (As := [.int a1, .int 1000, .int 1219]) (rest := []) F (m_X6_within l a1 (1000 : Int32) (1219 : Int32) r_24 h_25) gX6_told_X6_within kX6_within rfl rfl rfl ⟨(Nat.le_of_ble_eq_true rfl), (Nat.le_of_ble_eq_true rfl)⟩ rfl rfl hl.1 (Nat.le_of_ble_eq_true rfl) dX6_told_114 ⟨(Nat.le_of_ble_eq_true rfl), (Nat.le_of_ble_eq_true rfl)⟩ ?_
              refine lv_if_eq (tgt := 138) hx hb dX6_told_117 (by decide) (fun c_26 => ?_) (fun c_26 => ?_)
              · have hF := q_if_t c_26 hF
                refine lv_iconst (v := 0) hx hb dX6_told_138 (by decide) ?_
                refine lv_istore_n (lv' := [(2, .int 0), (0, .ref qX), (1, .int a1)]) hx hb dX6_told_139 rfl hl (by decide) rfl (fun ls hl => ?_)
                refine lv_iload_n hx hb dX6_told_140 rfl (lv_at hl 0 rfl) ?_
                refine lv_if_eq (tgt := 170) hx hb dX6_told_141 (by decide) (fun c_27 => ?_) (fun c_27 => ?_)
                · refine lv_bipush (v := (-2)) hx hb dX6_told_170 (by decide) ?_
                  cases hF
                  exact r_iret hx hb hr hlk hS () rfl hP hD dX6_told_172
                · first | exact absurd c_27 (by decide) | exact c_27 (by decide)
              · have hF := q_if_f c_26 hF
                refine lv_iload_n hx hb dX6_told_120 rfl (lv_at hl 1 rfl) ?_
                refine lv_sipush (v := 1000) hx hb dX6_told_121 (by decide) ?_
                refine lv_isub hx hb dX6_told_124 ?_
                refine lv_bipush (v := 20) hx hb dX6_told_125 (by decide) ?_
                refine lv_irem hx hb dX6_told_127 (by decide) ?_
                obtain ⟨r_28, h_29, hF⟩ := q_cl_s hF
                refine gcP (As := [.int ((a1 - 1000) - (a1 - 1000) / 20 * 20)]) (rest := []) F (m_X6_isPlace l ((a1 - 1000) - (a1 - 1000) / 20 * 20) r_28 h_29) gX6_told_X6_isPlace kX6_isPlace rfl rfl rfl ⟨(Nat.le_of_ble_eq_true rfl), (Nat.le_of_ble_eq_true rfl)⟩ rfl rfl hl.1 (Nat.le_of_ble_eq_true rfl) dX6_told_128 ⟨(Nat.le_of_ble_eq_true rfl), (Nat.le_of_ble_eq_true rfl)⟩ ?_
                refine lv_if_eq (tgt := 138) hx hb dX6_told_131 (by decide) (fun c_30 => ?_) (fun c_30 => ?_)
                · have hF := q_if_t c_30 hF
                  refine lv_iconst (v := 0) hx hb dX6_told_138 (by decide) ?_
                  refine lv_istore_n (lv' := [(2, .int 0), (0, .ref qX), (1, .int a1)]) hx hb dX6_told_139 rfl hl (by decide) rfl (fun ls hl => ?_)
                  refine lv_iload_n hx hb dX6_told_140 rfl (lv_at hl 0 rfl) ?_
                  refine lv_if_eq (tgt := 170) hx hb dX6_told_141 (by decide) (fun c_31 => ?_) (fun c_31 => ?_)
                  · refine lv_bipush (v := (-2)) hx hb dX6_told_170 (by decide) ?_
                    cases hF
                    exact r_iret hx hb hr hlk hS () rfl hP hD dX6_told_172
                  · first | exact absurd c_31 (by decide) | exact c_31 (by decide)
                · have hF := q_if_f c_30 hF
                  refine lv_iconst (v := 1) hx hb dX6_told_134 (by decide) ?_
                  refine lv_goto (tgt := 139) hx hb dX6_told_135 (by decide) ?_
                  refine lv_istore_n (lv' := [(2, .int 1), (0, .ref qX), (1, .int a1)]) hx hb dX6_told_139 rfl hl (by decide) rfl (fun ls hl => ?_)
                  refine lv_iload_n hx hb dX6_told_140 rfl (lv_at hl 0 rfl) ?_
                  refine lv_if_eq (tgt := 170) hx hb dX6_told_141 (by decide) (fun c_32 => ?_) (fun c_32 => ?_)
                  · first | exact absurd c_32 (by decide) | exact c_32 (by decide)
                  · refine lv_aload_n hx hb dX6_told_144 rfl (lv_at hl 1 rfl) ?_
                    refine va_get (D := g.1) (ci := 6) (v := .ref (AX 0)) (C := RX6) (T := TX6) (N := 8) hx hb hts hi6 hown hK hP 0 rfl rfl 0 (by decide) (hts (.fieldLink RX6 12 "PanTales" "close" "LPanTales$Close;") (by decide +kernel)) (fun _ h9 => h9) rfl dX6_told_145 ?_
                    refine lv_iload_n hx hb dX6_told_148 rfl (lv_at hl 2 rfl) ?_
                    refine lv_sipush (v := 1000) hx hb dX6_told_149 (by decide) ?_
                    refine lv_isub hx hb dX6_told_152 ?_
                    refine lv_bipush (v := 20) hx hb dX6_told_153 (by decide) ?_
                    refine lv_idiv hx hb dX6_told_155 (by decide) ?_
                    refine lv_iload_n hx hb dX6_told_156 rfl (lv_at hl 2 rfl) ?_
                    refine lv_sipush (v := 1000) hx hb dX6_told_157 (by decide) ?_
                    refine lv_isub hx hb dX6_told_160 ?_
                    refine lv_bipush (v := 20) hx hb dX6_told_161 (by decide) ?_
                    refine lv_irem hx hb dX6_told_163 (by decide) ?_
                    obtain ⟨r_33, h_34, hF⟩ := q_cl_s hF
                    refine gcV_i (As := [.int ((a1 - 1000) / 20), .int ((a1 - 1000) - (a1 - 1000) / 20 * 20)]) (rest := []) (ci := 1) (q := (RX1, TX1, 12)) F hK hN hP hD hS hA (m_X1_longBetween l g H.size (AX 0) AC σC ((a1 - 1000) / 20) ((a1 - 1000) - (a1 - 1000) / 20 * 20) r_33 h_34) gX6_told_X1_longBetween kX1_longBetween rfl rfl rfl rfl ⟨(Nat.le_of_ble_eq_true rfl), (Nat.le_of_ble_eq_true rfl)⟩ [3, 4, 5, 6, 7, 8, 9, 10] [0, 1, 2] rfl rfl rfl (by decide) rfl rfl rfl rfl rfl hl.1 (Nat.le_of_ble_eq_true rfl) dX6_told_164 ⟨(Nat.le_of_ble_eq_true rfl), (Nat.le_of_ble_eq_true rfl)⟩ (fun r_w u_w H locs hw hP hD hS => ?_)
                    have hP : va_P g.1 vwCl (wX6 qX AX ++ wX3 g (AX 3) AP σP ++ wX1 g (AX 0) AC σC) H := hP
                    have hD : va_D Z (wX6 qX AX ++ wX3 g (AX 3) AP σP ++ wX1 g (AX 0) AC σC) := hD
                    obtain rfl : r_33 = r_w := hw.symm
                    refine lv_goto (tgt := 172) hx hb dX6_told_167 (by decide) ?_
                    cases hF
                    exact r_iret hx hb hr hlk hS () rfl hP hD dX6_told_172
            · have hF := q_if_f c_23 hF
              refine lv_aload_n hx hb dX6_told_88 rfl (lv_at hl 0 rfl) ?_
              refine va_get (D := g.1) (ci := 6) (v := .ref (AX 0)) (C := RX6) (T := TX6) (N := 8) hx hb hts hi6 hown hK hP 0 rfl rfl 0 (by decide) (hts (.fieldLink RX6 12 "PanTales" "close" "LPanTales$Close;") (by decide +kernel)) (fun _ h9 => h9) rfl dX6_told_89 ?_
              refine lv_iload_n hx hb dX6_told_92 rfl (lv_at hl 1 rfl) ?_
              refine lv_bipush (v := 100) hx hb dX6_told_93 (by decide) ?_
              refine lv_isub hx hb dX6_told_95 ?_
              refine lv_bipush (v := 10) hx hb dX6_told_96 (by decide) ?_
              refine lv_idiv hx hb dX6_told_98 (by decide) ?_
              refine lv_iload_n hx hb dX6_told_99 rfl (lv_at hl 1 rfl) ?_
              refine lv_bipush (v := 10) hx hb dX6_told_100 (by decide) ?_
              refine lv_irem hx hb dX6_told_102 (by decide) ?_
              obtain ⟨r_35, h_36, hF⟩ := q_cl_s hF
              refine gcV_i (As := [.int ((a1 - 100) / 10), .int (a1 - a1 / 10 * 10)]) (rest := []) (ci := 1) (q := (RX1, TX1, 12)) F hK hN hP hD hS hA (m_X1_houseFact l g H.size (AX 0) AC σC ((a1 - 100) / 10) (a1 - a1 / 10 * 10) r_35 h_36) gX6_told_X1_houseFact kX1_houseFact rfl rfl rfl rfl ⟨(Nat.le_of_ble_eq_true rfl), (Nat.le_of_ble_eq_true rfl)⟩ [3, 4, 5, 6, 7, 8, 9, 10] [0, 1, 2] rfl rfl rfl (by decide) rfl rfl rfl rfl rfl hl.1 (Nat.le_of_ble_eq_true rfl) dX6_told_103 ⟨(Nat.le_of_ble_eq_true rfl), (Nat.le_of_ble_eq_true rfl)⟩ (fun r_w u_w H locs hw hP hD hS => ?_)
              have hP : va_P g.1 vwCl (wX6 qX AX ++ wX3 g (AX 3) AP σP ++ wX1 g (AX 0) AC σC) H := hP
              have hD : va_D Z (wX6 qX AX ++ wX3 g (AX 3) AP σP ++ wX1 g (AX 0) AC σC) := hD
              obtain rfl : r_35 = r_w := hw.symm
              cases hF
              exact r_iret hx hb hr hlk hS () rfl hP hD dX6_told_106
        · have hF := q_if_f c_8 hF
          refine lv_aload_n hx hb dX6_told_56 rfl (lv_at hl 0 rfl) ?_
          refine va_get (D := g.1) (ci := 6) (v := .ref (AX 0)) (C := RX6) (T := TX6) (N := 8) hx hb hts hi6 hown hK hP 0 rfl rfl 0 (by decide) (hts (.fieldLink RX6 12 "PanTales" "close" "LPanTales$Close;") (by decide +kernel)) (fun _ h9 => h9) rfl dX6_told_57 ?_
          refine lv_iload_n hx hb dX6_told_60 rfl (lv_at hl 1 rfl) ?_
          refine lv_bipush (v := 10) hx hb dX6_told_61 (by decide) ?_
          refine lv_isub hx hb dX6_told_63 ?_
          obtain ⟨r_37, h_38, hF⟩ := q_cl_s hF
          refine gcV_i (As := [.int (a1 - 10)]) (rest := []) (ci := 1) (q := (RX1, TX1, 12)) F hK hN hP hD hS hA (m_X1_fadesInto l g H.size (AX 0) AC σC (a1 - 10) r_37 h_38) gX6_told_X1_fadesInto kX1_fadesInto rfl rfl rfl rfl ⟨(Nat.le_of_ble_eq_true rfl), (Nat.le_of_ble_eq_true rfl)⟩ [3, 4, 5, 6, 7, 8, 9, 10] [0, 1, 2] rfl rfl rfl (by decide) rfl rfl rfl rfl rfl hl.1 (Nat.le_of_ble_eq_true rfl) dX6_told_64 ⟨(Nat.le_of_ble_eq_true rfl), (Nat.le_of_ble_eq_true rfl)⟩ (fun r_w u_w H locs hw hP hD hS => ?_)
          have hP : va_P g.1 vwCl (wX6 qX AX ++ wX3 g (AX 3) AP σP ++ wX1 g (AX 0) AC σC) H := hP
          have hD : va_D Z (wX6 qX AX ++ wX3 g (AX 3) AP σP ++ wX1 g (AX 0) AC σC) := hD
          obtain rfl : r_37 = r_w := hw.symm
          cases hF
          exact r_iret hx hb hr hlk hS () rfl hP hD dX6_told_67
      · have hF := q_if_t (by first | exact c_5 | exact Classical.not_not.mp c_5) hF
        refine lv_aload_n hx hb dX6_told_37 rfl (lv_at hl 0 rfl) ?_
        refine va_get (D := g.1) (ci := 6) (v := .ref (AX 0)) (C := RX6) (T := TX6) (N := 8) hx hb hts hi6 hown hK hP 0 rfl rfl 0 (by decide) (hts (.fieldLink RX6 12 "PanTales" "close" "LPanTales$Close;") (by decide +kernel)) (fun _ h9 => h9) rfl dX6_told_38 ?_
        obtain ⟨r_39, h_40, hF⟩ := q_cl_s hF
        refine gcV_i (As := []) (rest := []) (ci := 1) (q := (RX1, TX1, 12)) F hK hN hP hD hS hA (m_X1_sightCount l g H.size (AX 0) AC σC r_39 h_40) gX6_told_X1_sightCount kX1_sightCount rfl rfl rfl rfl ⟨(Nat.le_of_ble_eq_true rfl), (Nat.le_of_ble_eq_true rfl)⟩ [3, 4, 5, 6, 7, 8, 9, 10] [0, 1, 2] rfl rfl rfl (by decide) rfl rfl rfl rfl rfl hl.1 (Nat.le_of_ble_eq_true rfl) dX6_told_41 ⟨(Nat.le_of_ble_eq_true rfl), (Nat.le_of_ble_eq_true rfl)⟩ (fun r_w u_w H locs hw hP hD hS => ?_)
        have hP : va_P g.1 vwCl (wX6 qX AX ++ wX3 g (AX 3) AP σP ++ wX1 g (AX 0) AC σC) H := hP
        have hD : va_D Z (wX6 qX AX ++ wX3 g (AX 3) AP σP ++ wX1 g (AX 0) AC σC) := hD
        obtain rfl : r_39 = r_w := hw.symm
        cases hF
        exact r_iret hx hb hr hlk hS () rfl hP hD dX6_told_44
    · have hF := q_if_f c_4 hF
      refine lv_aload_n hx hb dX6_told_21 rfl (lv_at hl 0 rfl) ?_
      refine va_get (D := g.1) (ci := 6) (v := .ref (AX 0)) (C := RX6) (T := TX6) (N := 8) hx hb hts hi6 hown hK hP 0 rfl rfl 0 (by decide) (hts (.fieldLink RX6 12 "PanTales" "close" "LPanTales$Close;") (by decide +kernel)) (fun _ h9 => h9) rfl dX6_told_22 ?_
      refine lv_iload_n hx hb dX6_told_25 rfl (lv_at hl 1 rfl) ?_
      refine lv_iconst (v := 1) hx hb dX6_told_26 (by decide) ?_
      refine lv_isub hx hb dX6_told_27 ?_
      obtain ⟨r_41, h_42, hF⟩ := q_cl_s hF
      refine gcV_i (As := [.int (a1 - 1)]) (rest := []) (ci := 1) (q := (RX1, TX1, 12)) F hK hN hP hD hS hA (m_X1_panFact l g H.size (AX 0) AC σC (a1 - 1) r_41 h_42) gX6_told_X1_panFact kX1_panFact rfl rfl rfl rfl ⟨(Nat.le_of_ble_eq_true rfl), (Nat.le_of_ble_eq_true rfl)⟩ [3, 4, 5, 6, 7, 8, 9, 10] [0, 1, 2] rfl rfl rfl (by decide) rfl rfl rfl rfl rfl hl.1 (Nat.le_of_ble_eq_true rfl) dX6_told_28 ⟨(Nat.le_of_ble_eq_true rfl), (Nat.le_of_ble_eq_true rfl)⟩ (fun r_w u_w H locs hw hP hD hS => ?_)
      have hP : va_P g.1 vwCl (wX6 qX AX ++ wX3 g (AX 3) AP σP ++ wX1 g (AX 0) AC σC) H := hP
      have hD : va_D Z (wX6 qX AX ++ wX3 g (AX 3) AP σP ++ wX1 g (AX 0) AC σC) := hD
      obtain rfl : r_41 = r_w := hw.symm
      cases hF
      exact r_iret hx hb hr hlk hS () rfl hP hD dX6_told_31
  · have hF := q_if_t (by first | exact c_1 | exact Classical.not_not.mp c_1) hF
    refine lv_aload_n hx hb dX6_told_4 rfl (lv_at hl 0 rfl) ?_
    refine va_get (D := g.1) (ci := 6) (v := .ref (AX 3)) (C := RX6) (T := TX6) (N := 8) hx hb hts hi6 hown hK hP 0 rfl rfl 3 (by decide) (hts (.fieldLink RX6 26 "PanTales" "pad" "LPanTales$Pad;") (by decide +kernel)) (fun _ h9 => h9) rfl dX6_told_5 ?_
    obtain ⟨r_43, h_44, hF⟩ := q_cl_s hF
    refine gcV_i (As := []) (rest := []) (ci := 3) (q := (RX3, TX3, 2)) F hK hN hP hD hS hA (m_X3_size l g H.size (AX 3) AP σP r_43 h_44) gX6_told_X3_size kX3_size rfl rfl rfl rfl ⟨(Nat.le_of_ble_eq_true rfl), (Nat.le_of_ble_eq_true rfl)⟩ [1, 2] [0, 3, 4, 5, 6, 7, 8, 9, 10] rfl rfl rfl (by decide) rfl rfl rfl rfl rfl hl.1 (Nat.le_of_ble_eq_true rfl) dX6_told_8 ⟨(Nat.le_of_ble_eq_true rfl), (Nat.le_of_ble_eq_true rfl)⟩ (fun r_w u_w H locs hw hP hD hS => ?_)
    have hP : va_P g.1 vwCl (wX6 qX AX ++ wX3 g (AX 3) AP σP ++ wX1 g (AX 0) AC σC) H := hP.sub [0, 9, 10, 1, 2, 3, 4, 5, 6, 7, 8] rfl
    have hD : va_D Z (wX6 qX AX ++ wX3 g (AX 3) AP σP ++ wX1 g (AX 0) AC σC) := hD.sub [0, 9, 10, 1, 2, 3, 4, 5, 6, 7, 8] (by decide) rfl
    obtain rfl : r_43 = r_w := hw.symm
    cases hF
    exact r_iret hx hb hr hlk hS () rfl hP hD dX6_told_11

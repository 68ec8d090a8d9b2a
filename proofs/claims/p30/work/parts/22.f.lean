theorem kX5_heatLeft : YOk yX5_heatLeft 2 := by decide +kernel
theorem kX5_warm : YOk yX5_warm 4 := by decide +kernel
theorem kX5_goOn : YOk yX5_goOn 2 := by decide +kernel
theorem kX5_bestRound : YOk yX5_bestRound 2 := by decide +kernel
set_option maxHeartbeats 4000000 in
set_option maxRecDepth 100000 in
theorem m_X5_heatLeft (l : Launch) (g : GT) (sz : Nat) (qW : Nat) (AW : Nat → Nat) (σW : qS) (qH : Nat) (σH : qS) (a1 : Int32) (a2 : Int32) (rr : Int32) (hF : f_X5_heatLeft σW σH a1 a2 = some rr) : Ci l yX5_heatLeft wsX5_heatLeft { frames := 1, cells := 0, slots := 0, locals := 22 } g sz [.ref qW, .int a1, .int a2] (wX5 g qW AW (.ref qH) σW ++ wH g qH σH) rr (wX5 g qW AW (.ref qH) σW ++ wH g qH σH) := by
  refine gMet_i (cc := cX5_heatLeft) (maxL := 4) (ret := (some .int)) (by decide) rfl (Nat.le_of_ble_eq_true rfl) ?_
  intro p e s m args below meth c Z hx hb hr F hlk hnm hK hN hA H locs hP hD hS ls hl
  have hl : lv_has ls 4 [(0, .ref qW), (1, .int a1), (2, .int a2)] := hl
  have F : CallFix p m c cX5_heatLeft 4 s args wsX5_heatLeft RX5 := F
  have hts := F.2.2.2.2
  have hown : s.vm.findClass RX5 = some m.cls := F.2.2.2.1
  have hi5 : ∀ w ∈ u_ws RX5 TX5 3, w ∈ wsX5_heatLeft := by decide +kernel
  dsimp only [f_X5_heatLeft] at hF
  refine lv_aload_n hx hb dX5_heatLeft_0 rfl (lv_at hl 0 rfl) ?_
  refine va_get (D := g.1) (ci := 5) (v := .ref qH) (C := RX5) (T := TX5) (N := 3) hx hb hts hi5 hown hK hP 0 rfl rfl 2 (by decide) (hts (.fieldLink RX5 42 "PanTales$Ways" "heats" "[I") (by decide +kernel)) (fun _ h9 => h9) rfl dX5_heatLeft_1 ?_
  refine lv_ifnull hx hb dX5_heatLeft_4 ?_
  refine lv_iload_n hx hb dX5_heatLeft_7 rfl (lv_at hl 1 rfl) ?_
  refine lv_iconst (v := 0) hx hb dX5_heatLeft_8 (by decide) ?_
  refine lv_sipush (v := 1023) hx hb dX5_heatLeft_9 (by decide) ?_
  obtain ⟨r_1, h_2, hF⟩ := q_cl_s hF
  refine gcPN (As := [.int a1, .int 0, .int 1023]) (rest := []) F (m_X6_within l a1 (0 : Int32) (1023 : Int32) r_1 h_2) gX5_heatLeft_X6_within_n72 kX6_within (hts (.initialized RX6) (by decide +kernel)) (hN.get 10 rfl) (hts (.static yX6_within) (by decide +kernel)) rfl rfl rfl ⟨(Nat.le_of_ble_eq_true rfl), (Nat.le_of_ble_eq_true rfl)⟩ rfl rfl hl.1 (Nat.le_of_ble_eq_true rfl) dX5_heatLeft_12 ⟨(Nat.le_of_ble_eq_true rfl), (Nat.le_of_ble_eq_true rfl)⟩ ?_
  refine lv_if_eq (tgt := 29) hx hb dX5_heatLeft_15 (by decide) (fun c_3 => ?_) (fun c_3 => ?_)
  · have hF := q_if_t c_3 hF
    refine lv_iconst (v := 0) hx hb dX5_heatLeft_29 (by decide) ?_
    refine lv_istore_n (lv' := [(3, .int 0), (0, .ref qW), (1, .int a1), (2, .int a2)]) hx hb dX5_heatLeft_30 rfl hl (by decide) rfl (fun ls hl => ?_)
    refine lv_iload_n hx hb dX5_heatLeft_31 rfl (lv_at hl 0 rfl) ?_
    refine lv_if_eq (tgt := 49) hx hb dX5_heatLeft_32 (by decide) (fun c_4 => ?_) (fun c_4 => ?_)
    · refine lv_iconst (v := (-1)) hx hb dX5_heatLeft_49 (by decide) ?_
      cases hF
      exact r_iret hx hb hr hlk hS () rfl hP hD dX5_heatLeft_50
    · first | exact absurd c_4 (by decide) | exact c_4 (by decide)
  · have hF := q_if_f c_3 hF
    refine lv_iload_n hx hb dX5_heatLeft_18 rfl (lv_at hl 2 rfl) ?_
    obtain ⟨r_5, h_6, hF⟩ := q_cl_s hF
    refine gcPN (As := [.int a2]) (rest := []) F (m_X6_isHouse l a2 r_5 h_6) gX5_heatLeft_X6_isHouse_n76 kX6_isHouse (hts (.initialized RX6) (by decide +kernel)) (hN.get 11 rfl) (hts (.static yX6_isHouse) (by decide +kernel)) rfl rfl rfl ⟨(Nat.le_of_ble_eq_true rfl), (Nat.le_of_ble_eq_true rfl)⟩ rfl rfl hl.1 (Nat.le_of_ble_eq_true rfl) dX5_heatLeft_19 ⟨(Nat.le_of_ble_eq_true rfl), (Nat.le_of_ble_eq_true rfl)⟩ ?_
    refine lv_if_eq (tgt := 29) hx hb dX5_heatLeft_22 (by decide) (fun c_7 => ?_) (fun c_7 => ?_)
    · have hF := q_if_t c_7 hF
      refine lv_iconst (v := 0) hx hb dX5_heatLeft_29 (by decide) ?_
      refine lv_istore_n (lv' := [(3, .int 0), (0, .ref qW), (1, .int a1), (2, .int a2)]) hx hb dX5_heatLeft_30 rfl hl (by decide) rfl (fun ls hl => ?_)
      refine lv_iload_n hx hb dX5_heatLeft_31 rfl (lv_at hl 0 rfl) ?_
      refine lv_if_eq (tgt := 49) hx hb dX5_heatLeft_32 (by decide) (fun c_8 => ?_) (fun c_8 => ?_)
      · refine lv_iconst (v := (-1)) hx hb dX5_heatLeft_49 (by decide) ?_
        cases hF
        exact r_iret hx hb hr hlk hS () rfl hP hD dX5_heatLeft_50
      · first | exact absurd c_8 (by decide) | exact c_8 (by decide)
    · have hF := q_if_f c_7 hF
      refine lv_iconst (v := 1) hx hb dX5_heatLeft_25 (by decide) ?_
      refine lv_goto (tgt := 30) hx hb dX5_heatLeft_26 (by decide) ?_
      refine lv_istore_n (lv' := [(3, .int 1), (0, .ref qW), (1, .int a1), (2, .int a2)]) hx hb dX5_heatLeft_30 rfl hl (by decide) rfl (fun ls hl => ?_)
      refine lv_iload_n hx hb dX5_heatLeft_31 rfl (lv_at hl 0 rfl) ?_
      refine lv_if_eq (tgt := 49) hx hb dX5_heatLeft_32 (by decide) (fun c_9 => ?_) (fun c_9 => ?_)
      · first | exact absurd c_9 (by decide) | exact c_9 (by decide)
      · refine lv_aload_n hx hb dX5_heatLeft_35 rfl (lv_at hl 1 rfl) ?_
        refine va_get (D := g.1) (ci := 5) (v := .ref qH) (C := RX5) (T := TX5) (N := 3) hx hb hts hi5 hown hK hP 0 rfl rfl 2 (by decide) (hts (.fieldLink RX5 42 "PanTales$Ways" "heats" "[I") (by decide +kernel)) (fun _ h9 => h9) rfl dX5_heatLeft_36 ?_
        refine lv_iload_n hx hb dX5_heatLeft_39 rfl (lv_at hl 2 rfl) ?_
        refine lv_bipush (v := 10) hx hb dX5_heatLeft_40 (by decide) ?_
        refine lv_imul hx hb dX5_heatLeft_42 ?_
        refine lv_iload_n hx hb dX5_heatLeft_43 rfl (lv_at hl 3 rfl) ?_
        refine lv_iadd hx hb dX5_heatLeft_44 ?_
        obtain ⟨r_10, i_11, e_12, hF⟩ := q_rd_s hF
        refine r_iald (v := r_10) hx hb hK hP 3 rfl i_11 e_12 dX5_heatLeft_45 ?_
        refine lv_goto (tgt := 50) hx hb dX5_heatLeft_46 (by decide) ?_
        cases hF
        exact r_iret hx hb hr hlk hS () rfl hP hD dX5_heatLeft_50
set_option maxHeartbeats 4000000 in
set_option maxRecDepth 100000 in
theorem m_X5_warm (l : Launch) (g : GT) (sz : Nat) (qW : Nat) (AW : Nat → Nat) (σW : qS) (qH : Nat) (σH : qS) (qC : Nat) (AC : Nat → Nat) (σC : qS) (a2 : Int32) (a3 : Int32) (a4 : Int32) (σH' : qS) (hF : f_X5_warm σW σH σC a2 a3 a4 = some σH') : Cv l yX5_warm wsX5_warm { frames := 2, cells := 0, slots := 0, locals := 45 } g sz [.ref qW, .ref qC, .int a2, .int a3, .int a4] (wX5 g qW AW (.ref qH) σW ++ wH g qH σH ++ wX1 g qC AC σC) (wX5 g qW AW (.ref qH) σW ++ wH g qH σH' ++ wX1 g qC AC σC) := by
  refine gMet_v (cc := cX5_warm) (maxL := 6) (ret := none) (by decide) rfl (Nat.le_of_ble_eq_true rfl) ?_
  intro p e s m args below meth c Z hx hb hr F hlk hnm hK hN hA H locs hP hD hS ls hl
  have hl : lv_has ls 6 [(0, .ref qW), (1, .ref qC), (2, .int a2), (3, .int a3), (4, .int a4)] := hl
  have F : CallFix p m c cX5_warm 6 s args wsX5_warm RX5 := F
  have hts := F.2.2.2.2
  have hown : s.vm.findClass RX5 = some m.cls := F.2.2.2.1
  have hi5 : ∀ w ∈ u_ws RX5 TX5 3, w ∈ wsX5_warm := by decide +kernel
  dsimp only [f_X5_warm] at hF
  refine lv_aload_n hx hb dX5_warm_0 rfl (lv_at hl 1 rfl) ?_
  refine lv_iload_n hx hb dX5_warm_1 rfl (lv_at hl 3 rfl) ?_
  obtain ⟨r_1, h_2, hF⟩ := q_cl_s hF
  refine gcV_i (As := [.int a3]) (rest := []) (ci := 1) (q := (RX1, TX1, 12)) F hK hN hP hD hS hA (m_X1_isDamp l g H.size qC AC σC a3 r_1 h_2) gX5_warm_X1_isDamp kX1_isDamp rfl rfl rfl rfl ⟨(Nat.le_of_ble_eq_true rfl), (Nat.le_of_ble_eq_true rfl)⟩ [4, 5, 6, 7, 8, 9, 10, 11] [0, 1, 2, 3] rfl rfl rfl (by decide) rfl rfl rfl rfl rfl hl.1 (Nat.le_of_ble_eq_true rfl) dX5_warm_2 ⟨(Nat.le_of_ble_eq_true rfl), (Nat.le_of_ble_eq_true rfl)⟩ (fun r_w u_w H locs hw hP hD hS => ?_)
  have hP : va_P g.1 vwCl (wX5 g qW AW (.ref qH) σW ++ wH g qH σH ++ wX1 g qC AC σC) H := hP
  have hD : va_D Z (wX5 g qW AW (.ref qH) σW ++ wH g qH σH ++ wX1 g qC AC σC) := hD
  obtain rfl : r_1 = r_w := hw.symm
  refine lv_if_ne (tgt := 18) hx hb dX5_warm_5 (by decide) (fun c_3 => ?_) (fun c_3 => ?_)
  · have hF := q_if_f c_3 hF
    cases hF
    exact r_vret hx hb hr hlk hS () trivial hP hD dX5_warm_18
  · have hF := q_if_t (by first | exact c_3 | exact Classical.not_not.mp c_3) hF
    refine lv_aload_n hx hb dX5_warm_8 rfl (lv_at hl 1 rfl) ?_
    refine lv_iload_n hx hb dX5_warm_9 rfl (lv_at hl 3 rfl) ?_
    refine lv_iload hx hb dX5_warm_10 (lv_at hl 4 rfl) ?_
    obtain ⟨r_4, h_5, hF⟩ := q_cl_s hF
    refine gcV_i (As := [.int a3, .int a4]) (rest := []) (ci := 1) (q := (RX1, TX1, 12)) F hK hN hP hD hS hA (m_X1_isConvinced l g H.size qC AC σC a3 a4 r_4 h_5) gX5_warm_X1_isConvinced kX1_isConvinced rfl rfl rfl rfl ⟨(Nat.le_of_ble_eq_true rfl), (Nat.le_of_ble_eq_true rfl)⟩ [4, 5, 6, 7, 8, 9, 10, 11] [0, 1, 2, 3] rfl rfl rfl (by decide) rfl rfl rfl rfl rfl hl.1 (Nat.le_of_ble_eq_true rfl) dX5_warm_12 ⟨(Nat.le_of_ble_eq_true rfl), (Nat.le_of_ble_eq_true rfl)⟩ (fun r_w u_w H locs hw hP hD hS => ?_)
    have hP : va_P g.1 vwCl (wX5 g qW AW (.ref qH) σW ++ wH g qH σH ++ wX1 g qC AC σC) H := hP
    have hD : va_D Z (wX5 g qW AW (.ref qH) σW ++ wH g qH σH ++ wX1 g qC AC σC) := hD
    obtain rfl : r_4 = r_w := hw.symm
    refine lv_if_ne (tgt := 19) hx hb dX5_warm_15 (by decide) (fun c_6 => ?_) (fun c_6 => ?_)
    · have hF := q_if_f c_6 hF
      refine lv_iconst (v := 0) hx hb dX5_warm_19 (by decide) ?_
      refine lv_iload hx hb dX5_warm_20 (lv_at hl 4 rfl) ?_
      refine lv_iconst (v := 5) hx hb dX5_warm_22 (by decide) ?_
      refine lv_isub hx hb dX5_warm_23 ?_
      refine va_mmax hx hb (F.2.2.1.trans hl.1.symm) hown (hts (.methodLink RX5 85 Lib.Math.max.name) (by decide +kernel)) (hts (.static Lib.Math.max.name) (by decide +kernel)) (hts (.initialized "java/lang/Math") (by decide +kernel)) (hts (.code Lib.Math.max.name Lib.Math.max.code 2 (some .int)) (by decide +kernel)) (Nat.le_of_ble_eq_true rfl) (Nat.le_of_ble_eq_true rfl) (Nat.le_of_ble_eq_true rfl) (Nat.le_of_ble_eq_true rfl) dX5_warm_24 ?_
      obtain ⟨v5_7, e_8, hF⟩ := q_bd_s hF
      refine gtop e_8 ?_
      refine lv_istore (lv' := [(5, .int v5_7), (0, .ref qW), (1, .ref qC), (2, .int a2), (3, .int a3), (4, .int a4)]) hx hb dX5_warm_27 hl (by decide) rfl (fun ls hl => ?_)
      refine lv_iload hx hb dX5_warm_29 (lv_at hl 0 rfl) ?_
      refine lv_aload_n hx hb dX5_warm_31 rfl (lv_at hl 1 rfl) ?_
      refine lv_iload_n hx hb dX5_warm_32 rfl (lv_at hl 3 rfl) ?_
      refine lv_iload_n hx hb dX5_warm_33 rfl (lv_at hl 4 rfl) ?_
      obtain ⟨r_9, h_10, hF⟩ := q_cl_s hF
      refine gcV_i (As := [.int a2, .int a3]) (rest := [.int v5_7]) (ci := 5) (q := (RX5, TX5, 3)) F hK hN hP hD hS hA (m_X5_heatLeft l g H.size qW AW σW qH σH a2 a3 r_9 h_10) gX5_warm_X5_heatLeft kX5_heatLeft rfl rfl rfl rfl ⟨(Nat.le_of_ble_eq_true rfl), (Nat.le_of_ble_eq_true rfl)⟩ [0, 1, 2, 3] [4, 5, 6, 7, 8, 9, 10, 11] rfl rfl rfl (by decide) rfl rfl rfl rfl rfl hl.1 (Nat.le_of_ble_eq_true rfl) dX5_warm_34 ⟨(Nat.le_of_ble_eq_true rfl), (Nat.le_of_ble_eq_true rfl)⟩ (fun r_w u_w H locs hw hP hD hS => ?_)
      have hP : va_P g.1 vwCl (wX5 g qW AW (.ref qH) σW ++ wH g qH σH ++ wX1 g qC AC σC) H := hP.sub [8, 9, 10, 11, 0, 1, 2, 3, 4, 5, 6, 7] rfl
      have hD : va_D Z (wX5 g qW AW (.ref qH) σW ++ wH g qH σH ++ wX1 g qC AC σC) := hD.sub [8, 9, 10, 11, 0, 1, 2, 3, 4, 5, 6, 7] (by decide) rfl
      obtain rfl : r_9 = r_w := hw.symm
      refine lv_icmp_le (tgt := 78) hx hb dX5_warm_37 (by decide) (fun c_11 => ?_) (fun c_11 => ?_)
      · have hF := q_if_t c_11 hF
        cases hF
        exact r_vret hx hb hr hlk hS () trivial hP hD dX5_warm_78
      · have hF := q_if_f c_11 hF
        refine lv_aload_n hx hb dX5_warm_40 rfl (lv_at hl 1 rfl) ?_
        refine va_get (D := g.1) (ci := 5) (v := .ref qH) (C := RX5) (T := TX5) (N := 3) hx hb hts hi5 hown hK hP 0 rfl rfl 2 (by decide) (hts (.fieldLink RX5 42 "PanTales$Ways" "heats" "[I") (by decide +kernel)) (fun _ h9 => h9) rfl dX5_warm_41 ?_
        refine lv_ifnull hx hb dX5_warm_44 ?_
        refine lv_iload_n hx hb dX5_warm_47 rfl (lv_at hl 3 rfl) ?_
        refine lv_iconst (v := 0) hx hb dX5_warm_48 (by decide) ?_
        refine lv_sipush (v := 1023) hx hb dX5_warm_49 (by decide) ?_
        obtain ⟨r_12, h_13, hF⟩ := q_cl_s hF
        refine gcPN (As := [.int a2, .int 0, .int 1023]) (rest := []) F (m_X6_within l a2 (0 : Int32) (1023 : Int32) r_12 h_13) gX5_warm_X6_within_n72 kX6_within (hts (.initialized RX6) (by decide +kernel)) (hN.get 10 rfl) (hts (.static yX6_within) (by decide +kernel)) rfl rfl rfl ⟨(Nat.le_of_ble_eq_true rfl), (Nat.le_of_ble_eq_true rfl)⟩ rfl rfl hl.1 (Nat.le_of_ble_eq_true rfl) dX5_warm_52 ⟨(Nat.le_of_ble_eq_true rfl), (Nat.le_of_ble_eq_true rfl)⟩ ?_
        refine lv_if_eq (tgt := 78) hx hb dX5_warm_55 (by decide) (fun c_14 => ?_) (fun c_14 => ?_)
        · have hF := q_if_t c_14 hF
          cases hF
          exact r_vret hx hb hr hlk hS () trivial hP hD dX5_warm_78
        · have hF := q_if_f c_14 hF
          refine lv_iload_n hx hb dX5_warm_58 rfl (lv_at hl 4 rfl) ?_
          obtain ⟨r_15, h_16, hF⟩ := q_cl_s hF
          refine gcPN (As := [.int a3]) (rest := []) F (m_X6_isHouse l a3 r_15 h_16) gX5_warm_X6_isHouse_n76 kX6_isHouse (hts (.initialized RX6) (by decide +kernel)) (hN.get 11 rfl) (hts (.static yX6_isHouse) (by decide +kernel)) rfl rfl rfl ⟨(Nat.le_of_ble_eq_true rfl), (Nat.le_of_ble_eq_true rfl)⟩ rfl rfl hl.1 (Nat.le_of_ble_eq_true rfl) dX5_warm_59 ⟨(Nat.le_of_ble_eq_true rfl), (Nat.le_of_ble_eq_true rfl)⟩ ?_
          refine lv_if_eq (tgt := 78) hx hb dX5_warm_62 (by decide) (fun c_17 => ?_) (fun c_17 => ?_)
          · have hF := q_if_t c_17 hF
            cases hF
            exact r_vret hx hb hr hlk hS () trivial hP hD dX5_warm_78
          · have hF := q_if_f c_17 hF
            refine lv_aload_n hx hb dX5_warm_65 rfl (lv_at hl 1 rfl) ?_
            refine va_get (D := g.1) (ci := 5) (v := .ref qH) (C := RX5) (T := TX5) (N := 3) hx hb hts hi5 hown hK hP 0 rfl rfl 2 (by decide) (hts (.fieldLink RX5 42 "PanTales$Ways" "heats" "[I") (by decide +kernel)) (fun _ h9 => h9) rfl dX5_warm_66 ?_
            refine lv_iload_n hx hb dX5_warm_69 rfl (lv_at hl 3 rfl) ?_
            refine lv_bipush (v := 10) hx hb dX5_warm_70 (by decide) ?_
            refine lv_imul hx hb dX5_warm_72 ?_
            refine lv_iload_n hx hb dX5_warm_73 rfl (lv_at hl 4 rfl) ?_
            refine lv_iadd hx hb dX5_warm_74 ?_
            refine lv_iload hx hb dX5_warm_75 (lv_at hl 0 rfl) ?_
            obtain ⟨σH_18, i_19, e_20, hF⟩ := q_wr_s hF
            refine r_iast (f' := upd (σH 0) ((a2 * 10) + a3).toNatClampNeg v5_7) hx hb hK hP hD hS 3 rfl i_19 (fun _ _ => rfl) dX5_warm_77 (fun H locs hP hD hS => ?_)
            have hP : va_P g.1 vwCl (wX5 g qW AW (.ref qH) σW ++ wH g qH (q_up σH 0 (upd (σH 0) ((a2 * 10) + a3).toNatClampNeg v5_7)) ++ wX1 g qC AC σC) H := hP
            have hD : va_D Z (wX5 g qW AW (.ref qH) σW ++ wH g qH (q_up σH 0 (upd (σH 0) ((a2 * 10) + a3).toNatClampNeg v5_7)) ++ wX1 g qC AC σC) := hD
            rw [e_20] at hP hD
            cases hF
            exact r_vret hx hb hr hlk hS () trivial hP hD dX5_warm_78
    · have hF := q_if_t (by first | exact c_6 | exact Classical.not_not.mp c_6) hF
      cases hF
      exact r_vret hx hb hr hlk hS () trivial hP hD dX5_warm_18
set_option maxHeartbeats 4000000 in
set_option maxRecDepth 100000 in
theorem m_X5_goOn (l : Launch) (g : GT) (sz : Nat) (qW : Nat) (AW : Nat → Nat) (σW : qS) (qH : Nat) (σH : qS) (qC : Nat) (AC : Nat → Nat) (σC : qS) (a2 : Int32) (rr : Int32) (σH' : qS) (hF : f_X5_goOn σW σH σC a2 = some (rr, σH')) : Ci l yX5_goOn wsX5_goOn { frames := 3, cells := 0, slots := 0, locals := 70 } g sz [.ref qW, .ref qC, .int a2] (wX5 g qW AW (.ref qH) σW ++ wH g qH σH ++ wX1 g qC AC σC) rr (wX5 g qW AW (.ref qH) σW ++ wH g qH σH' ++ wX1 g qC AC σC) := by
  refine gMet_i (cc := cX5_goOn) (maxL := 7) (ret := (some .boolean)) (by decide) rfl (Nat.le_of_ble_eq_true rfl) ?_
  intro p e s m args below meth c Z hx hb hr F hlk hnm hK hN hA H locs hP hD hS ls hl
  have hl : lv_has ls 7 [(0, .ref qW), (1, .ref qC), (2, .int a2)] := hl
  have F : CallFix p m c cX5_goOn 7 s args wsX5_goOn RX5 := F
  have hts := F.2.2.2.2
  have hown : s.vm.findClass RX5 = some m.cls := F.2.2.2.1
  dsimp only [f_X5_goOn] at hF
  refine lv_iconst (v := 0) hx hb dX5_goOn_0 (by decide) ?_
  refine lv_istore_n (lv' := [(3, .int 0), (0, .ref qW), (1, .ref qC), (2, .int a2)]) hx hb dX5_goOn_1 rfl hl (by decide) rfl (fun ls hl => ?_)
  refine lv_iconst (v := 0) hx hb dX5_goOn_2 (by decide) ?_
  refine lv_istore (lv' := [(4, .int 0), (3, .int 0), (0, .ref qW), (1, .ref qC), (2, .int a2)]) hx hb dX5_goOn_3 hl (by decide) rfl (fun ls hl => ?_)
  refine q_loop (fun u0 => wX5 g qW AW (.ref qH) σW ++ wH g qH u0.2.2 ++ wX1 g qC AC σC) (fun u0 => [(4, .int u0.1), (3, .int u0.2.1), (0, .ref qW), (1, .ref qC), (2, .int a2)]) 87 hF ?_ ?_ hP hD hS (lv_sub hl [0, 1, 2, 3, 4] rfl)
  · rintro ⟨v4_1, v3_1, σH_1⟩ hF H locs ls hP hD hS hl
    try dsimp only at hF
    have hP : va_P g.1 vwCl (wX5 g qW AW (.ref qH) σW ++ wH g qH σH_1 ++ wX1 g qC AC σC) H := hP
    have hD : va_D Z (wX5 g qW AW (.ref qH) σW ++ wH g qH σH_1 ++ wX1 g qC AC σC) := hD
    have hl : lv_has ls 7 [(4, .int v4_1), (3, .int v3_1), (0, .ref qW), (1, .ref qC), (2, .int a2)] := hl
    refine lv_iload_n hx hb dX5_goOn_87 rfl (lv_at hl 1 rfl) ?_
    obtain ⟨b_2, hF⟩ := q_chk_s hF
    cases hF
    exact r_zret hx hb hr hlk hS () (q_isB_nar b_2) rfl hP hD dX5_goOn_88
  · rintro k again kk ag ⟨v4_1, v3_1, σH_1⟩ hF H locs ls hP hD hS hl
    dsimp only [b_X5_goOn_5] at hF
    have hP : va_P g.1 vwCl (wX5 g qW AW (.ref qH) σW ++ wH g qH σH_1 ++ wX1 g qC AC σC) H := hP
    have hD : va_D Z (wX5 g qW AW (.ref qH) σW ++ wH g qH σH_1 ++ wX1 g qC AC σC) := hD
    have hl : lv_has ls 7 [(4, .int v4_1), (3, .int v3_1), (0, .ref qW), (1, .ref qC), (2, .int a2)] := hl
    refine lv_iload hx hb dX5_goOn_5 (lv_at hl 0 rfl) ?_
    refine lv_bipush (v := 10) hx hb dX5_goOn_7 (by decide) ?_
    refine lv_icmp_ge (tgt := 87) hx hb dX5_goOn_9 (by decide) (fun c_3 => ?_) (fun c_3 => ?_)
    · have hF := q_if_t c_3 hF
      exact kk (v4_1, v3_1, σH_1) hF _ _ _ hP hD hS (lv_sub hl [0, 1, 2, 3, 4] rfl)
    · have hF := q_if_f c_3 hF
      refine lv_aload_n hx hb dX5_goOn_12 rfl (lv_at hl 2 rfl) ?_
      refine lv_iload_n hx hb dX5_goOn_13 rfl (lv_at hl 4 rfl) ?_
      refine lv_iload hx hb dX5_goOn_14 (lv_at hl 0 rfl) ?_
      obtain ⟨r_4, h_5, hF⟩ := q_cl_s hF
      refine gcV_i (As := [.int a2, .int v4_1]) (rest := []) (ci := 5) (q := (RX5, TX5, 3)) F hK hN hP hD hS hA (m_X5_heatLeft l g H.size qW AW σW qH σH_1 a2 v4_1 r_4 h_5) gX5_goOn_X5_heatLeft kX5_heatLeft rfl rfl rfl rfl ⟨(Nat.le_of_ble_eq_true rfl), (Nat.le_of_ble_eq_true rfl)⟩ [0, 1, 2, 3] [4, 5, 6, 7, 8, 9, 10, 11] rfl rfl rfl (by decide) rfl rfl rfl rfl rfl hl.1 (Nat.le_of_ble_eq_true rfl) dX5_goOn_16 ⟨(Nat.le_of_ble_eq_true rfl), (Nat.le_of_ble_eq_true rfl)⟩ (fun r_w u_w H locs hw hP hD hS => ?_)
      have hP : va_P g.1 vwCl (wX5 g qW AW (.ref qH) σW ++ wH g qH σH_1 ++ wX1 g qC AC σC) H := hP.sub [8, 9, 10, 11, 0, 1, 2, 3, 4, 5, 6, 7] rfl
      have hD : va_D Z (wX5 g qW AW (.ref qH) σW ++ wH g qH σH_1 ++ wX1 g qC AC σC) := hD.sub [8, 9, 10, 11, 0, 1, 2, 3, 4, 5, 6, 7] (by decide) rfl
      obtain rfl : r_4 = r_w := hw.symm
      refine lv_istore (lv' := [(5, .int r_4), (4, .int v4_1), (3, .int v3_1), (0, .ref qW), (1, .ref qC), (2, .int a2)]) hx hb dX5_goOn_19 hl (by decide) rfl (fun ls hl => ?_)
      refine lv_iload hx hb dX5_goOn_21 (lv_at hl 0 rfl) ?_
      refine lv_iconst (v := (-1)) hx hb dX5_goOn_23 (by decide) ?_
      refine lv_icmp_ne (tgt := 30) hx hb dX5_goOn_24 (by decide) (fun c_6 => ?_) (fun c_6 => ?_)
      · have hF := q_if_f c_6 hF
        refine lv_iconst (v := 1) hx hb dX5_goOn_30 (by decide) ?_
        refine lv_istore_n (lv' := [(3, .int 1), (5, .int r_4), (4, .int v4_1), (0, .ref qW), (1, .ref qC), (2, .int a2)]) hx hb dX5_goOn_31 rfl hl (by decide) rfl (fun ls hl => ?_)
        refine lv_iconst (v := 0) hx hb dX5_goOn_32 (by decide) ?_
        refine lv_istore (lv' := [(6, .int 0), (3, .int 1), (5, .int r_4), (4, .int v4_1), (0, .ref qW), (1, .ref qC), (2, .int a2)]) hx hb dX5_goOn_33 hl (by decide) rfl (fun ls hl => ?_)
        refine q_loop (fun u0 => wX5 g qW AW (.ref qH) σW ++ wH g qH u0.2 ++ wX1 g qC AC σC) (fun u0 => [(6, .int u0.1), (3, .int 1), (5, .int r_4), (4, .int v4_1), (0, .ref qW), (1, .ref qC), (2, .int a2)]) 81 hF ?_ ?_ hP hD hS (lv_sub hl [0, 1, 2, 3, 4, 5, 6] rfl)
        · rintro ⟨v6_7, σH_7⟩ hF H locs ls hP hD hS hl
          try dsimp only at hF
          have hP : va_P g.1 vwCl (wX5 g qW AW (.ref qH) σW ++ wH g qH σH_7 ++ wX1 g qC AC σC) H := hP
          have hD : va_D Z (wX5 g qW AW (.ref qH) σW ++ wH g qH σH_7 ++ wX1 g qC AC σC) := hD
          have hl : lv_has ls 7 [(6, .int v6_7), (3, .int 1), (5, .int r_4), (4, .int v4_1), (0, .ref qW), (1, .ref qC), (2, .int a2)] := hl
          refine lv_iinc (v := v4_1 + 1) (lv' := [(4, .int (v4_1 + 1)), (6, .int v6_7), (3, .int 1), (5, .int r_4), (0, .ref qW), (1, .ref qC), (2, .int a2)]) hx hb dX5_goOn_81 hl (k := 3) rfl rfl (by decide) rfl (fun ls hl => ?_)
          refine lv_goto (tgt := 5) hx hb dX5_goOn_84 (by decide) ?_
          exact ag (v4_1 + 1, (1 : Int32), σH_7) hF _ _ _ hP hD hS (lv_sub hl [0, 2, 4, 5, 6] rfl)
        · rintro k again kk ag ⟨v6_7, σH_7⟩ hF H locs ls hP hD hS hl
          dsimp only [b_X5_goOn_35] at hF
          have hP : va_P g.1 vwCl (wX5 g qW AW (.ref qH) σW ++ wH g qH σH_7 ++ wX1 g qC AC σC) H := hP
          have hD : va_D Z (wX5 g qW AW (.ref qH) σW ++ wH g qH σH_7 ++ wX1 g qC AC σC) := hD
          have hl : lv_has ls 7 [(6, .int v6_7), (3, .int 1), (5, .int r_4), (4, .int v4_1), (0, .ref qW), (1, .ref qC), (2, .int a2)] := hl
          refine lv_iload hx hb dX5_goOn_35 (lv_at hl 0 rfl) ?_
          refine lv_bipush (v := 10) hx hb dX5_goOn_37 (by decide) ?_
          refine lv_icmp_ge (tgt := 81) hx hb dX5_goOn_39 (by decide) (fun c_8 => ?_) (fun c_8 => ?_)
          · have hF := q_if_t c_8 hF
            exact kk (v6_7, σH_7) hF _ _ _ hP hD hS (lv_sub hl [0, 1, 2, 3, 4, 5, 6] rfl)
          · have hF := q_if_f c_8 hF
            refine lv_iload hx hb dX5_goOn_42 (lv_at hl 0 rfl) ?_
            refine lv_iload_n hx hb dX5_goOn_44 rfl (lv_at hl 6 rfl) ?_
            obtain ⟨r_9, h_10, hF⟩ := q_cl_s hF
            refine gcPN (As := [.int v6_7, .int a2]) (rest := []) F (m_X6_isIn l v6_7 a2 r_9 h_10) gX5_goOn_X6_isIn_n68 kX6_isIn (hts (.initialized RX6) (by decide +kernel)) (hN.get 12 rfl) (hts (.static yX6_isIn) (by decide +kernel)) rfl rfl rfl ⟨(Nat.le_of_ble_eq_true rfl), (Nat.le_of_ble_eq_true rfl)⟩ rfl rfl hl.1 (Nat.le_of_ble_eq_true rfl) dX5_goOn_45 ⟨(Nat.le_of_ble_eq_true rfl), (Nat.le_of_ble_eq_true rfl)⟩ ?_
            refine lv_if_ne (tgt := 75) hx hb dX5_goOn_48 (by decide) (fun c_11 => ?_) (fun c_11 => ?_)
            · have hF := q_if_f c_11 hF
              refine lv_iinc (v := v6_7 + 1) (lv' := [(6, .int (v6_7 + 1)), (3, .int 1), (5, .int r_4), (4, .int v4_1), (0, .ref qW), (1, .ref qC), (2, .int a2)]) hx hb dX5_goOn_75 hl (k := 0) rfl rfl (by decide) rfl (fun ls hl => ?_)
              refine lv_goto (tgt := 35) hx hb dX5_goOn_78 (by decide) ?_
              exact ag (v6_7 + 1, σH_7) hF _ _ _ hP hD hS (lv_sub hl [0, 1, 2, 3, 4, 5, 6] rfl)
            · have hF := q_if_t (by first | exact c_11 | exact Classical.not_not.mp c_11) hF
              refine lv_aload_n hx hb dX5_goOn_51 rfl (lv_at hl 4 rfl) ?_
              refine lv_aload_n hx hb dX5_goOn_52 rfl (lv_at hl 5 rfl) ?_
              refine lv_iload_n hx hb dX5_goOn_53 rfl (lv_at hl 6 rfl) ?_
              refine lv_iconst (v := 1) hx hb dX5_goOn_54 (by decide) ?_
              refine lv_iload hx hb dX5_goOn_55 (lv_at hl 0 rfl) ?_
              refine lv_ishl hx hb dX5_goOn_57 ?_
              refine lv_ior hx hb dX5_goOn_58 ?_
              refine lv_iload hx hb dX5_goOn_59 (lv_at hl 0 rfl) ?_
              refine lv_iload hx hb dX5_goOn_61 (lv_at hl 2 rfl) ?_
              refine lv_aload_n hx hb dX5_goOn_63 rfl (lv_at hl 4 rfl) ?_
              refine lv_iload hx hb dX5_goOn_64 (lv_at hl 3 rfl) ?_
              refine lv_iload hx hb dX5_goOn_66 (lv_at hl 0 rfl) ?_
              obtain ⟨r_12, h_13, hF⟩ := q_cl_s hF
              refine gcV_i (As := [.int v4_1, .int v6_7]) (rest := [.int r_4, .int v6_7, .int (a2 ||| ((1 : Int32) <<< (v6_7 &&& 31))), .ref qC, .ref qW]) (ci := 5) (q := (RX5, TX5, 3)) F hK hN hP hD hS hA (m_X5_leastWay l g H.size qW AW (.ref qH) σW v4_1 v6_7 r_12 h_13) gX5_goOn_X5_leastWay kX5_leastWay rfl rfl rfl rfl ⟨(Nat.le_of_ble_eq_true rfl), (Nat.le_of_ble_eq_true rfl)⟩ [0, 1, 2] [3, 4, 5, 6, 7, 8, 9, 10, 11] rfl rfl rfl (by decide) rfl rfl rfl rfl rfl hl.1 (Nat.le_of_ble_eq_true rfl) dX5_goOn_68 ⟨(Nat.le_of_ble_eq_true rfl), (Nat.le_of_ble_eq_true rfl)⟩ (fun r_w u_w H locs hw hP hD hS => ?_)
              have hP : va_P g.1 vwCl (wX5 g qW AW (.ref qH) σW ++ wH g qH σH_7 ++ wX1 g qC AC σC) H := hP.sub [9, 10, 11, 0, 1, 2, 3, 4, 5, 6, 7, 8] rfl
              have hD : va_D Z (wX5 g qW AW (.ref qH) σW ++ wH g qH σH_7 ++ wX1 g qC AC σC) := hD.sub [9, 10, 11, 0, 1, 2, 3, 4, 5, 6, 7, 8] (by decide) rfl
              obtain rfl : r_12 = r_w := hw.symm
              refine lv_isub hx hb dX5_goOn_71 ?_
              obtain ⟨σH_14, h_15, hF⟩ := q_cl_s hF
              refine gcV_v (As := [.ref qC, .int (a2 ||| ((1 : Int32) <<< (v6_7 &&& 31))), .int v6_7, .int (r_4 - r_12)]) (rest := []) (ci := 5) (q := (RX5, TX5, 3)) F hK hN hP hD hS hA (m_X5_warm l g H.size qW AW σW qH σH_7 qC AC σC (a2 ||| ((1 : Int32) <<< (v6_7 &&& 31))) v6_7 (r_4 - r_12) σH_14 h_15) gX5_goOn_X5_warm kX5_warm rfl rfl rfl rfl ⟨(Nat.le_of_ble_eq_true rfl), (Nat.le_of_ble_eq_true rfl)⟩ [0, 1, 2, 3, 4, 5, 6, 7, 8, 9, 10, 11] [] rfl rfl rfl (by decide) rfl rfl rfl rfl rfl hl.1 (Nat.le_of_ble_eq_true rfl) dX5_goOn_72 ⟨(Nat.le_of_ble_eq_true rfl), (Nat.le_of_ble_eq_true rfl)⟩ (fun u_w H locs hw hP hD hS => ?_)
              have hP : va_P g.1 vwCl (wX5 g qW AW (.ref qH) σW ++ wH g qH σH_14 ++ wX1 g qC AC σC) H := hP
              have hD : va_D Z (wX5 g qW AW (.ref qH) σW ++ wH g qH σH_14 ++ wX1 g qC AC σC) := hD
              refine lv_iinc (v := v6_7 + 1) (lv' := [(6, .int (v6_7 + 1)), (3, .int 1), (5, .int r_4), (4, .int v4_1), (0, .ref qW), (1, .ref qC), (2, .int a2)]) hx hb dX5_goOn_75 hl (k := 0) rfl rfl (by decide) rfl (fun ls hl => ?_)
              refine lv_goto (tgt := 35) hx hb dX5_goOn_78 (by decide) ?_
              exact ag (v6_7 + 1, σH_14) hF _ _ _ hP hD hS (lv_sub hl [0, 1, 2, 3, 4, 5, 6] rfl)
      · have hF := q_if_t (by first | exact c_6 | exact Classical.not_not.mp c_6) hF
        refine lv_goto (tgt := 81) hx hb dX5_goOn_27 (by decide) ?_
        refine lv_iinc (v := v4_1 + 1) (lv' := [(4, .int (v4_1 + 1)), (5, .int r_4), (3, .int v3_1), (0, .ref qW), (1, .ref qC), (2, .int a2)]) hx hb dX5_goOn_81 hl (k := 1) rfl rfl (by decide) rfl (fun ls hl => ?_)
        refine lv_goto (tgt := 5) hx hb dX5_goOn_84 (by decide) ?_
        exact ag (v4_1 + 1, v3_1, σH_1) hF _ _ _ hP hD hS (lv_sub hl [0, 2, 3, 4, 5] rfl)
set_option maxHeartbeats 4000000 in
set_option maxRecDepth 100000 in
theorem m_X5_bestRound (l : Launch) (g : GT) (sz : Nat) (qW : Nat) (AW : Nat → Nat) (σW : qS) (qH : Nat) (σH : qS) (qC : Nat) (AC : Nat → Nat) (σC : qS) (a2 : Int32) (rr : Int32) (σW' : qS) (σH' : qS) (hF : f_X5_bestRound σW σH σC a2 = some (rr, σW', σH')) : Ci l yX5_bestRound wsX5_bestRound { frames := 4, cells := 0, slots := 0, locals := 96 } g sz [.ref qW, .ref qC, .int a2] (wX5 g qW AW (.ref qH) σW ++ wH g qH σH ++ wX1 g qC AC σC) rr (wX5 g qW AW (.ref qH) σW' ++ wH g qH σH' ++ wX1 g qC AC σC) := by
  refine gMet_i (cc := cX5_bestRound) (maxL := 5) (ret := (some .int)) (by decide) rfl (Nat.le_of_ble_eq_true rfl) ?_
  intro p e s m args below meth c Z hx hb hr F hlk hnm hK hN hA H locs hP hD hS ls hl
  have hl : lv_has ls 5 [(0, .ref qW), (1, .ref qC), (2, .int a2)] := hl
  have F : CallFix p m c cX5_bestRound 5 s args wsX5_bestRound RX5 := F
  have hts := F.2.2.2.2
  have hown : s.vm.findClass RX5 = some m.cls := F.2.2.2.1
  have hi5 : ∀ w ∈ u_ws RX5 TX5 3, w ∈ wsX5_bestRound := by decide +kernel
  dsimp only [f_X5_bestRound] at hF
  refine lv_aload_n hx hb dX5_bestRound_0 rfl (lv_at hl 0 rfl) ?_
  refine lv_aload_n hx hb dX5_bestRound_1 rfl (lv_at hl 1 rfl) ?_
  obtain ⟨σW_1, h_2, hF⟩ := q_cl_s hF
  refine gcV_v (As := [.ref qC]) (rest := []) (ci := 5) (q := (RX5, TX5, 3)) F hK hN hP hD hS hA (m_X5_measure l g H.size qW AW (.ref qH) σW qC AC σC σW_1 h_2) gX5_bestRound_X5_measure kX5_measure rfl rfl rfl rfl ⟨(Nat.le_of_ble_eq_true rfl), (Nat.le_of_ble_eq_true rfl)⟩ [0, 1, 2, 4, 5, 6, 7, 8, 9, 10, 11] [3] rfl rfl rfl (by decide) rfl rfl rfl rfl rfl hl.1 (Nat.le_of_ble_eq_true rfl) dX5_bestRound_2 ⟨(Nat.le_of_ble_eq_true rfl), (Nat.le_of_ble_eq_true rfl)⟩ (fun u_w H locs hw hP hD hS => ?_)
  have hP : va_P g.1 vwCl (wX5 g qW AW (.ref qH) σW_1 ++ wH g qH σH ++ wX1 g qC AC σC) H := hP.sub [1, 2, 3, 0, 4, 5, 6, 7, 8, 9, 10, 11] rfl
  have hD : va_D Z (wX5 g qW AW (.ref qH) σW_1 ++ wH g qH σH ++ wX1 g qC AC σC) := hD.sub [1, 2, 3, 0, 4, 5, 6, 7, 8, 9, 10, 11] (by decide) rfl
  refine lv_aload_n hx hb dX5_bestRound_5 rfl (lv_at hl 0 rfl) ?_
  refine va_get (D := g.1) (ci := 5) (v := .ref qH) (C := RX5) (T := TX5) (N := 3) hx hb hts hi5 hown hK hP 0 rfl rfl 2 (by decide) (hts (.fieldLink RX5 42 "PanTales$Ways" "heats" "[I") (by decide +kernel)) (fun _ h9 => h9) rfl dX5_bestRound_6 ?_
  refine lv_ifnonnull (tgt := 21) hx hb dX5_bestRound_9 (by decide) ?_
  refine lv_aload_n hx hb dX5_bestRound_21 rfl (lv_at hl 0 rfl) ?_
  refine va_get (D := g.1) (ci := 5) (v := .ref qH) (C := RX5) (T := TX5) (N := 3) hx hb hts hi5 hown hK hP 0 rfl rfl 2 (by decide) (hts (.fieldLink RX5 42 "PanTales$Ways" "heats" "[I") (by decide +kernel)) (fun _ h9 => h9) rfl dX5_bestRound_22 ?_
  refine lv_iconst (v := (-1)) hx hb dX5_bestRound_25 (by decide) ?_
  obtain ⟨σt_3, h_4, hF⟩ := q_cl_s hF
  refine gcS_v (As := [.ref qH, .int (-1)]) (rest := []) F hK hN hP hD hS hA (m_J7_fill_53178 l g H.size qH 10240 (fun _ => σH 0) (-1 : Int32) σt_3 h_4) gX5_bestRound_J7_fill_53178 kJ7_fill_53178 rfl rfl rfl ⟨(Nat.le_of_ble_eq_true rfl), (Nat.le_of_ble_eq_true rfl)⟩ [3] [0, 1, 2, 4, 5, 6, 7, 8, 9, 10, 11] rfl rfl rfl (by decide) rfl rfl rfl hl.1 (Nat.le_of_ble_eq_true rfl) dX5_bestRound_26 ⟨(Nat.le_of_ble_eq_true rfl), (Nat.le_of_ble_eq_true rfl)⟩ (fun u_w H locs hw hP hD hS => ?_)
  obtain ⟨σH_5, e_6, hF⟩ := q_bd_s hF
  have hP : va_P g.1 vwCl (wX5 g qW AW (.ref qH) σW_1 ++ wH g qH (q_up σH 0 (σt_3 0)) ++ wX1 g qC AC σC) H := hP.sub [0, 1, 2, 11, 3, 4, 5, 6, 7, 8, 9, 10] rfl
  have hD : va_D Z (wX5 g qW AW (.ref qH) σW_1 ++ wH g qH (q_up σH 0 (σt_3 0)) ++ wX1 g qC AC σC) := hD.sub [0, 1, 2, 11, 3, 4, 5, 6, 7, 8, 9, 10] (by decide) rfl
  rw [e_6] at hP hD
  refine lv_iconst (v := 0) hx hb dX5_bestRound_29 (by decide) ?_
  refine lv_istore_n (lv' := [(3, .int 0), (0, .ref qW), (1, .ref qC), (2, .int a2)]) hx hb dX5_bestRound_30 rfl hl (by decide) rfl (fun ls hl => ?_)
  refine q_loop (fun u0 => wX5 g qW AW (.ref qH) σW_1 ++ wH g qH u0.2 ++ wX1 g qC AC σC) (fun u0 => [(3, .int u0.1), (0, .ref qW), (1, .ref qC), (2, .int a2)]) 61 hF ?_ ?_ hP hD hS (lv_sub hl [0, 1, 2, 3] rfl)
  · rintro ⟨v3_7, σH_7⟩ hF H locs ls hP hD hS hl
    try dsimp only at hF
    have hP : va_P g.1 vwCl (wX5 g qW AW (.ref qH) σW_1 ++ wH g qH σH_7 ++ wX1 g qC AC σC) H := hP
    have hD : va_D Z (wX5 g qW AW (.ref qH) σW_1 ++ wH g qH σH_7 ++ wX1 g qC AC σC) := hD
    have hl : lv_has ls 5 [(3, .int v3_7), (0, .ref qW), (1, .ref qC), (2, .int a2)] := hl
    refine lv_iconst (v := 0) hx hb dX5_bestRound_61 (by decide) ?_
    refine lv_istore_n (lv' := [(3, .int 0), (0, .ref qW), (1, .ref qC), (2, .int a2)]) hx hb dX5_bestRound_62 rfl hl (by decide) rfl (fun ls hl => ?_)
    refine lv_iconst (v := 1) hx hb dX5_bestRound_63 (by decide) ?_
    refine lv_istore (lv' := [(4, .int 1), (3, .int 0), (0, .ref qW), (1, .ref qC), (2, .int a2)]) hx hb dX5_bestRound_64 hl (by decide) rfl (fun ls hl => ?_)
    refine q_loop (fun u0 => wX5 g qW AW (.ref qH) σW_1 ++ wH g qH u0.2.1 ++ wX1 g qC AC σC) (fun u0 => [(4, .int u0.1), (3, .int u0.2.2), (0, .ref qW), (1, .ref qC)]) 105 hF ?_ ?_ hP hD hS (lv_sub hl [0, 1, 2, 3] rfl)
    · rintro ⟨v4_8, σH_8, v3_8⟩ hF H locs ls hP hD hS hl
      try dsimp only at hF
      have hP : va_P g.1 vwCl (wX5 g qW AW (.ref qH) σW_1 ++ wH g qH σH_8 ++ wX1 g qC AC σC) H := hP
      have hD : va_D Z (wX5 g qW AW (.ref qH) σW_1 ++ wH g qH σH_8 ++ wX1 g qC AC σC) := hD
      have hl : lv_has ls 5 [(4, .int v4_8), (3, .int v3_8), (0, .ref qW), (1, .ref qC)] := hl
      refine lv_iload_n hx hb dX5_bestRound_105 rfl (lv_at hl 1 rfl) ?_
      cases hF
      exact r_iret hx hb hr hlk hS () rfl hP hD dX5_bestRound_106
    · rintro k again kk ag ⟨v4_8, σH_8, v3_8⟩ hF H locs ls hP hD hS hl
      dsimp only [b_X5_bestRound_66] at hF
      have hP : va_P g.1 vwCl (wX5 g qW AW (.ref qH) σW_1 ++ wH g qH σH_8 ++ wX1 g qC AC σC) H := hP
      have hD : va_D Z (wX5 g qW AW (.ref qH) σW_1 ++ wH g qH σH_8 ++ wX1 g qC AC σC) := hD
      have hl : lv_has ls 5 [(4, .int v4_8), (3, .int v3_8), (0, .ref qW), (1, .ref qC)] := hl
      refine lv_iload hx hb dX5_bestRound_66 (lv_at hl 0 rfl) ?_
      refine lv_sipush (v := 1024) hx hb dX5_bestRound_68 (by decide) ?_
      refine lv_icmp_ge (tgt := 105) hx hb dX5_bestRound_71 (by decide) (fun c_9 => ?_) (fun c_9 => ?_)
      · have hF := q_if_t c_9 hF
        exact kk (v4_8, σH_8, v3_8) hF _ _ _ hP hD hS (lv_sub hl [0, 1, 2, 3] rfl)
      · have hF := q_if_f c_9 hF
        refine lv_aload_n hx hb dX5_bestRound_74 rfl (lv_at hl 2 rfl) ?_
        refine lv_aload_n hx hb dX5_bestRound_75 rfl (lv_at hl 3 rfl) ?_
        refine lv_iload hx hb dX5_bestRound_76 (lv_at hl 0 rfl) ?_
        obtain ⟨⟨r_10, σH_11⟩, h_12, hF⟩ := q_cl_s hF
        try dsimp only at hF
        refine gcV_i (As := [.ref qC, .int v4_8]) (rest := []) (ci := 5) (q := (RX5, TX5, 3)) F hK hN hP hD hS hA (m_X5_goOn l g H.size qW AW σW_1 qH σH_8 qC AC σC v4_8 r_10 σH_11 h_12) gX5_bestRound_X5_goOn kX5_goOn rfl rfl rfl rfl ⟨(Nat.le_of_ble_eq_true rfl), (Nat.le_of_ble_eq_true rfl)⟩ [0, 1, 2, 3, 4, 5, 6, 7, 8, 9, 10, 11] [] rfl rfl rfl (by decide) rfl rfl rfl rfl rfl hl.1 (Nat.le_of_ble_eq_true rfl) dX5_bestRound_78 ⟨(Nat.le_of_ble_eq_true rfl), (Nat.le_of_ble_eq_true rfl)⟩ (fun r_w u_w H locs hw hP hD hS => ?_)
        have hP : va_P g.1 vwCl (wX5 g qW AW (.ref qH) σW_1 ++ wH g qH σH_11 ++ wX1 g qC AC σC) H := hP
        have hD : va_D Z (wX5 g qW AW (.ref qH) σW_1 ++ wH g qH σH_11 ++ wX1 g qC AC σC) := hD
        obtain rfl : r_10 = r_w := hw.symm
        refine lv_if_eq (tgt := 99) hx hb dX5_bestRound_81 (by decide) (fun c_14 => ?_) (fun c_14 => ?_)
        · have hF := q_if_t c_14 hF
          refine lv_iinc (v := v4_8 + 1) (lv' := [(4, .int (v4_8 + 1)), (3, .int v3_8), (0, .ref qW), (1, .ref qC)]) hx hb dX5_bestRound_99 hl (k := 0) rfl rfl (by decide) rfl (fun ls hl => ?_)
          refine lv_goto (tgt := 66) hx hb dX5_bestRound_102 (by decide) ?_
          exact ag (v4_8 + 1, σH_11, v3_8) hF _ _ _ hP hD hS (lv_sub hl [0, 1, 2, 3] rfl)
        · have hF := q_if_f c_14 hF
          refine lv_iload hx hb dX5_bestRound_84 (lv_at hl 0 rfl) ?_
          obtain ⟨r_15, h_16, hF⟩ := q_cl_s hF
          refine gcP (As := [.int v4_8]) (rest := []) F (m_J6_bitCount_0f7a4 l v4_8 r_15 h_16) gX5_bestRound_J6_bitCount_0f7a4 kJ6_bitCount_0f7a4 rfl rfl rfl ⟨(Nat.le_of_ble_eq_true rfl), (Nat.le_of_ble_eq_true rfl)⟩ rfl rfl hl.1 (Nat.le_of_ble_eq_true rfl) dX5_bestRound_86 ⟨(Nat.le_of_ble_eq_true rfl), (Nat.le_of_ble_eq_true rfl)⟩ ?_
          refine lv_iload_n hx hb dX5_bestRound_89 rfl (lv_at hl 1 rfl) ?_
          obtain ⟨r_17, h_18, hF⟩ := q_cl_s hF
          refine gcP (As := [.int v3_8]) (rest := [.int r_15]) F (m_J6_bitCount_0f7a4 l v3_8 r_17 h_18) gX5_bestRound_J6_bitCount_0f7a4 kJ6_bitCount_0f7a4 rfl rfl rfl ⟨(Nat.le_of_ble_eq_true rfl), (Nat.le_of_ble_eq_true rfl)⟩ rfl rfl hl.1 (Nat.le_of_ble_eq_true rfl) dX5_bestRound_90 ⟨(Nat.le_of_ble_eq_true rfl), (Nat.le_of_ble_eq_true rfl)⟩ ?_
          refine lv_icmp_le (tgt := 99) hx hb dX5_bestRound_93 (by decide) (fun c_19 => ?_) (fun c_19 => ?_)
          · have hF := q_if_t c_19 hF
            refine lv_iinc (v := v4_8 + 1) (lv' := [(4, .int (v4_8 + 1)), (3, .int v3_8), (0, .ref qW), (1, .ref qC)]) hx hb dX5_bestRound_99 hl (k := 0) rfl rfl (by decide) rfl (fun ls hl => ?_)
            refine lv_goto (tgt := 66) hx hb dX5_bestRound_102 (by decide) ?_
            exact ag (v4_8 + 1, σH_11, v3_8) hF _ _ _ hP hD hS (lv_sub hl [0, 1, 2, 3] rfl)
          · have hF := q_if_f c_19 hF
            refine lv_iload hx hb dX5_bestRound_96 (lv_at hl 0 rfl) ?_
            refine lv_istore_n (lv' := [(3, .int v4_8), (4, .int v4_8), (0, .ref qW), (1, .ref qC)]) hx hb dX5_bestRound_98 rfl hl (by decide) rfl (fun ls hl => ?_)
            refine lv_iinc (v := v4_8 + 1) (lv' := [(4, .int (v4_8 + 1)), (3, .int v4_8), (0, .ref qW), (1, .ref qC)]) hx hb dX5_bestRound_99 hl (k := 1) rfl rfl (by decide) rfl (fun ls hl => ?_)
            refine lv_goto (tgt := 66) hx hb dX5_bestRound_102 (by decide) ?_
            exact ag (v4_8 + 1, σH_11, v4_8) hF _ _ _ hP hD hS (lv_sub hl [0, 1, 2, 3] rfl)
  · rintro k again kk ag ⟨v3_7, σH_7⟩ hF H locs ls hP hD hS hl
    dsimp only [b_X5_bestRound_31] at hF
    have hP : va_P g.1 vwCl (wX5 g qW AW (.ref qH) σW_1 ++ wH g qH σH_7 ++ wX1 g qC AC σC) H := hP
    have hD : va_D Z (wX5 g qW AW (.ref qH) σW_1 ++ wH g qH σH_7 ++ wX1 g qC AC σC) := hD
    have hl : lv_has ls 5 [(3, .int v3_7), (0, .ref qW), (1, .ref qC), (2, .int a2)] := hl
    refine lv_iload_n hx hb dX5_bestRound_31 rfl (lv_at hl 0 rfl) ?_
    refine lv_bipush (v := 10) hx hb dX5_bestRound_32 (by decide) ?_
    refine lv_icmp_ge (tgt := 61) hx hb dX5_bestRound_34 (by decide) (fun c_20 => ?_) (fun c_20 => ?_)
    · have hF := q_if_t c_20 hF
      exact kk (v3_7, σH_7) hF _ _ _ hP hD hS (lv_sub hl [0, 1, 2, 3] rfl)
    · have hF := q_if_f c_20 hF
      refine lv_aload_n hx hb dX5_bestRound_37 rfl (lv_at hl 1 rfl) ?_
      refine lv_aload_n hx hb dX5_bestRound_38 rfl (lv_at hl 2 rfl) ?_
      refine lv_iconst (v := 1) hx hb dX5_bestRound_39 (by decide) ?_
      refine lv_iload_n hx hb dX5_bestRound_40 rfl (lv_at hl 0 rfl) ?_
      refine lv_ishl hx hb dX5_bestRound_41 ?_
      refine lv_iload_n hx hb dX5_bestRound_42 rfl (lv_at hl 0 rfl) ?_
      refine lv_iload_n hx hb dX5_bestRound_43 rfl (lv_at hl 3 rfl) ?_
      refine lv_aload_n hx hb dX5_bestRound_44 rfl (lv_at hl 1 rfl) ?_
      refine lv_bipush (v := 10) hx hb dX5_bestRound_45 (by decide) ?_
      refine lv_iload_n hx hb dX5_bestRound_47 rfl (lv_at hl 0 rfl) ?_
      obtain ⟨r_21, h_22, hF⟩ := q_cl_s hF
      refine gcV_i (As := [.int 10, .int v3_7]) (rest := [.int a2, .int v3_7, .int ((1 : Int32) <<< (v3_7 &&& 31)), .ref qC, .ref qW]) (ci := 5) (q := (RX5, TX5, 3)) F hK hN hP hD hS hA (m_X5_leastWay l g H.size qW AW (.ref qH) σW_1 (10 : Int32) v3_7 r_21 h_22) gX5_bestRound_X5_leastWay kX5_leastWay rfl rfl rfl rfl ⟨(Nat.le_of_ble_eq_true rfl), (Nat.le_of_ble_eq_true rfl)⟩ [0, 1, 2] [3, 4, 5, 6, 7, 8, 9, 10, 11] rfl rfl rfl (by decide) rfl rfl rfl rfl rfl hl.1 (Nat.le_of_ble_eq_true rfl) dX5_bestRound_48 ⟨(Nat.le_of_ble_eq_true rfl), (Nat.le_of_ble_eq_true rfl)⟩ (fun r_w u_w H locs hw hP hD hS => ?_)
      have hP : va_P g.1 vwCl (wX5 g qW AW (.ref qH) σW_1 ++ wH g qH σH_7 ++ wX1 g qC AC σC) H := hP.sub [9, 10, 11, 0, 1, 2, 3, 4, 5, 6, 7, 8] rfl
      have hD : va_D Z (wX5 g qW AW (.ref qH) σW_1 ++ wH g qH σH_7 ++ wX1 g qC AC σC) := hD.sub [9, 10, 11, 0, 1, 2, 3, 4, 5, 6, 7, 8] (by decide) rfl
      obtain rfl : r_21 = r_w := hw.symm
      refine lv_isub hx hb dX5_bestRound_51 ?_
      obtain ⟨σH_23, h_24, hF⟩ := q_cl_s hF
      refine gcV_v (As := [.ref qC, .int ((1 : Int32) <<< (v3_7 &&& 31)), .int v3_7, .int (a2 - r_21)]) (rest := []) (ci := 5) (q := (RX5, TX5, 3)) F hK hN hP hD hS hA (m_X5_warm l g H.size qW AW σW_1 qH σH_7 qC AC σC ((1 : Int32) <<< (v3_7 &&& 31)) v3_7 (a2 - r_21) σH_23 h_24) gX5_bestRound_X5_warm kX5_warm rfl rfl rfl rfl ⟨(Nat.le_of_ble_eq_true rfl), (Nat.le_of_ble_eq_true rfl)⟩ [0, 1, 2, 3, 4, 5, 6, 7, 8, 9, 10, 11] [] rfl rfl rfl (by decide) rfl rfl rfl rfl rfl hl.1 (Nat.le_of_ble_eq_true rfl) dX5_bestRound_52 ⟨(Nat.le_of_ble_eq_true rfl), (Nat.le_of_ble_eq_true rfl)⟩ (fun u_w H locs hw hP hD hS => ?_)
      have hP : va_P g.1 vwCl (wX5 g qW AW (.ref qH) σW_1 ++ wH g qH σH_23 ++ wX1 g qC AC σC) H := hP
      have hD : va_D Z (wX5 g qW AW (.ref qH) σW_1 ++ wH g qH σH_23 ++ wX1 g qC AC σC) := hD
      refine lv_iinc (v := v3_7 + 1) (lv' := [(3, .int (v3_7 + 1)), (0, .ref qW), (1, .ref qC), (2, .int a2)]) hx hb dX5_bestRound_55 hl (k := 0) rfl rfl (by decide) rfl (fun ls hl => ?_)
      refine lv_goto (tgt := 31) hx hb dX5_bestRound_58 (by decide) ?_
      exact ag (v3_7 + 1, σH_23) hF _ _ _ hP hD hS (lv_sub hl [0, 1, 2, 3] rfl)
set_option maxHeartbeats 4000000 in
set_option maxRecDepth 100000 in
theorem m_X5_bestRound_n (l : Launch) (g : GT) (sz : Nat) (qW : Nat) (AW : Nat → Nat) (σW : qS) (qC : Nat) (AC : Nat → Nat) (σC : qS) (a2 : Int32) (rr : Int32) (σW' : qS) (σH' : qS) (hF : f_X5_bestRound_n σW σC a2 = some (rr, σW', σH')) : Mi (S := Nat) l yX5_bestRound wsX5_bestRound { frames := 4, cells := 1, slots := 10240, locals := 96 } g sz [.ref qW, .ref qC, .int a2] (wX5 g qW AW .null σW ++ wX1 g qC AC σC) 1 10240 (fun r_ _ => r_ = rr) (fun qH => wX5 g qW AW (.ref qH) σW' ++ wX1 g qC AC σC ++ wH g qH σH') := by
  refine gMet_i (cc := cX5_bestRound) (maxL := 5) (ret := (some .int)) (by decide) rfl (Nat.le_of_ble_eq_true rfl) ?_
  intro p e s m args below meth c Z hx hb hr F hlk hnm hK hN hA H locs hP hD hS ls hl
  have hl : lv_has ls 5 [(0, .ref qW), (1, .ref qC), (2, .int a2)] := hl
  have F : CallFix p m c cX5_bestRound 5 s args wsX5_bestRound RX5 := F
  have hts := F.2.2.2.2
  have hown : s.vm.findClass RX5 = some m.cls := F.2.2.2.1
  have hi5 : ∀ w ∈ u_ws RX5 TX5 3, w ∈ wsX5_bestRound := by decide +kernel
  dsimp only [f_X5_bestRound_n] at hF
  refine lv_aload_n hx hb dX5_bestRound_0 rfl (lv_at hl 0 rfl) ?_
  refine lv_aload_n hx hb dX5_bestRound_1 rfl (lv_at hl 1 rfl) ?_
  obtain ⟨σW_1, h_2, hF⟩ := q_cl_s hF
  refine gcV_v (As := [.ref qC]) (rest := []) (ci := 5) (q := (RX5, TX5, 3)) F hK hN hP hD hS hA (m_X5_measure l g H.size qW AW .null σW qC AC σC σW_1 h_2) gX5_bestRound_X5_measure kX5_measure rfl rfl rfl rfl ⟨(Nat.le_of_ble_eq_true rfl), (Nat.le_of_ble_eq_true rfl)⟩ [0, 1, 2, 3, 4, 5, 6, 7, 8, 9, 10] [] rfl rfl rfl (by decide) rfl rfl rfl rfl rfl hl.1 (Nat.le_of_ble_eq_true rfl) dX5_bestRound_2 ⟨(Nat.le_of_ble_eq_true rfl), (Nat.le_of_ble_eq_true rfl)⟩ (fun u_w H locs hw hP hD hS => ?_)
  have hP : va_P g.1 vwCl (wX5 g qW AW .null σW_1 ++ wX1 g qC AC σC) H := hP
  have hD : va_D Z (wX5 g qW AW .null σW_1 ++ wX1 g qC AC σC) := hD
  refine lv_aload_n hx hb dX5_bestRound_5 rfl (lv_at hl 0 rfl) ?_
  refine va_get (D := g.1) (ci := 5) (v := .null) (C := RX5) (T := TX5) (N := 3) hx hb hts hi5 hown hK hP 0 rfl rfl 2 (by decide) (hts (.fieldLink RX5 42 "PanTales$Ways" "heats" "[I") (by decide +kernel)) (fun _ h9 => h9) rfl dX5_bestRound_6 ?_
  refine lv_ifnonnullN hx hb dX5_bestRound_9 ?_
  refine lv_aload_n hx hb dX5_bestRound_12 rfl (lv_at hl 0 rfl) ?_
  refine lv_sipush (v := 10240) hx hb dX5_bestRound_13 (by decide) ?_
  refine r_newI (N' := 10240) hx hb (hts (.arrayClass .int) (by decide +kernel)) hK hP hD hS hA (by decide) (nI_clamp (n := 10240) (by decide)) (Nat.le_of_ble_eq_true rfl) (Nat.le_of_ble_eq_true rfl) (Nat.le_of_ble_eq_true rfl) dX5_bestRound_16 (fun q_3 H hP hD hS => ?_)
  have hP : va_P g.1 vwCl (wX5 g qW AW .null σW_1 ++ wX1 g qC AC σC ++ wH g q_3 (fun _ _ => 0)) H := hP
  have hD : va_D Z (wX5 g qW AW .null σW_1 ++ wX1 g qC AC σC ++ wH g q_3 (fun _ _ => 0)) := hD
  refine W.widen (k := 1) (n := 10240) (by decide) (by decide) ?_
  refine va_put (D := g.1) (ci := 5) (v := .ref q_3) (ty := (.array .int)) (C := RX5) (T := TX5) (N := 3) hx hb hts hi5 tyX5 tyX5_ok nmX5 hown hK hP hD hS 0 rfl rfl 2 (by decide) (hts (.fieldLink RX5 42 "PanTales$Ways" "heats" "[I") (by decide +kernel)) (fun _ h9 => h9) rfl (by decide +kernel) rfl rfl (Nat.le_of_ble_eq_true rfl) dX5_bestRound_18 (fun H locs hP hD hS => ?_)
  have hP : va_P g.1 vwCl (wX5 g qW AW (.ref q_3) σW_1 ++ wX1 g qC AC σC ++ wH g q_3 (fun _ _ => 0)) H := hP
  have hD : va_D Z (wX5 g qW AW (.ref q_3) σW_1 ++ wX1 g qC AC σC ++ wH g q_3 (fun _ _ => 0)) := hD
  refine lv_aload_n hx hb dX5_bestRound_21 rfl (lv_at hl 0 rfl) ?_
  refine va_get (D := g.1) (ci := 5) (v := .ref q_3) (C := RX5) (T := TX5) (N := 3) hx hb hts hi5 hown hK hP 0 rfl rfl 2 (by decide) (hts (.fieldLink RX5 42 "PanTales$Ways" "heats" "[I") (by decide +kernel)) (fun _ h9 => h9) rfl dX5_bestRound_22 ?_
  refine lv_iconst (v := (-1)) hx hb dX5_bestRound_25 (by decide) ?_
  obtain ⟨σt_4, h_5, hF⟩ := q_cl_s hF
  refine gcS_v (As := [.ref q_3, .int (-1)]) (rest := []) F hK hN hP hD hS hA (m_J7_fill_53178 l g H.size q_3 10240 (fun _ => (fun _ _ => 0) 0) (-1 : Int32) σt_4 h_5) gX5_bestRound_J7_fill_53178 kJ7_fill_53178 rfl rfl rfl ⟨(Nat.le_of_ble_eq_true rfl), (Nat.le_of_ble_eq_true rfl)⟩ [11] [0, 1, 2, 3, 4, 5, 6, 7, 8, 9, 10] rfl rfl rfl (by decide) rfl rfl rfl hl.1 (Nat.le_of_ble_eq_true rfl) dX5_bestRound_26 ⟨(Nat.le_of_ble_eq_true rfl), (Nat.le_of_ble_eq_true rfl)⟩ (fun u_w H locs hw hP hD hS => ?_)
  obtain ⟨σH_6, e_7, hF⟩ := q_bd_s hF
  have hP : va_P g.1 vwCl (wX5 g qW AW (.ref q_3) σW_1 ++ wX1 g qC AC σC ++ wH g q_3 (q_up (fun _ _ => 0) 0 (σt_4 0))) H := hP
  have hD : va_D Z (wX5 g qW AW (.ref q_3) σW_1 ++ wX1 g qC AC σC ++ wH g q_3 (q_up (fun _ _ => 0) 0 (σt_4 0))) := hD
  rw [e_7] at hP hD
  refine lv_iconst (v := 0) hx hb dX5_bestRound_29 (by decide) ?_
  refine lv_istore_n (lv' := [(3, .int 0), (0, .ref qW), (1, .ref qC), (2, .int a2)]) hx hb dX5_bestRound_30 rfl hl (by decide) rfl (fun ls hl => ?_)
  refine q_loop (fun u0 => wX5 g qW AW (.ref q_3) σW_1 ++ wX1 g qC AC σC ++ wH g q_3 u0.2) (fun u0 => [(3, .int u0.1), (0, .ref qW), (1, .ref qC), (2, .int a2)]) 61 hF ?_ ?_ hP hD hS (lv_sub hl [0, 1, 2, 3] rfl)
  · rintro ⟨v3_8, σH_8⟩ hF H locs ls hP hD hS hl
    try dsimp only at hF
    have hP : va_P g.1 vwCl (wX5 g qW AW (.ref q_3) σW_1 ++ wX1 g qC AC σC ++ wH g q_3 σH_8) H := hP
    have hD : va_D Z (wX5 g qW AW (.ref q_3) σW_1 ++ wX1 g qC AC σC ++ wH g q_3 σH_8) := hD
    have hl : lv_has ls 5 [(3, .int v3_8), (0, .ref qW), (1, .ref qC), (2, .int a2)] := hl
    refine lv_iconst (v := 0) hx hb dX5_bestRound_61 (by decide) ?_
    refine lv_istore_n (lv' := [(3, .int 0), (0, .ref qW), (1, .ref qC), (2, .int a2)]) hx hb dX5_bestRound_62 rfl hl (by decide) rfl (fun ls hl => ?_)
    refine lv_iconst (v := 1) hx hb dX5_bestRound_63 (by decide) ?_
    refine lv_istore (lv' := [(4, .int 1), (3, .int 0), (0, .ref qW), (1, .ref qC), (2, .int a2)]) hx hb dX5_bestRound_64 hl (by decide) rfl (fun ls hl => ?_)
    refine q_loop (fun u0 => wX5 g qW AW (.ref q_3) σW_1 ++ wX1 g qC AC σC ++ wH g q_3 u0.2.1) (fun u0 => [(4, .int u0.1), (3, .int u0.2.2), (0, .ref qW), (1, .ref qC)]) 105 hF ?_ ?_ hP hD hS (lv_sub hl [0, 1, 2, 3] rfl)
    · rintro ⟨v4_9, σH_9, v3_9⟩ hF H locs ls hP hD hS hl
      try dsimp only at hF
      have hP : va_P g.1 vwCl (wX5 g qW AW (.ref q_3) σW_1 ++ wX1 g qC AC σC ++ wH g q_3 σH_9) H := hP
      have hD : va_D Z (wX5 g qW AW (.ref q_3) σW_1 ++ wX1 g qC AC σC ++ wH g q_3 σH_9) := hD
      have hl : lv_has ls 5 [(4, .int v4_9), (3, .int v3_9), (0, .ref qW), (1, .ref qC)] := hl
      refine lv_iload_n hx hb dX5_bestRound_105 rfl (lv_at hl 1 rfl) ?_
      cases hF
      exact r_iret hx hb hr hlk hS q_3 rfl hP hD dX5_bestRound_106
    · rintro k again kk ag ⟨v4_9, σH_9, v3_9⟩ hF H locs ls hP hD hS hl
      dsimp only [b_X5_bestRound_n_66] at hF
      have hP : va_P g.1 vwCl (wX5 g qW AW (.ref q_3) σW_1 ++ wX1 g qC AC σC ++ wH g q_3 σH_9) H := hP
      have hD : va_D Z (wX5 g qW AW (.ref q_3) σW_1 ++ wX1 g qC AC σC ++ wH g q_3 σH_9) := hD
      have hl : lv_has ls 5 [(4, .int v4_9), (3, .int v3_9), (0, .ref qW), (1, .ref qC)] := hl
      refine lv_iload hx hb dX5_bestRound_66 (lv_at hl 0 rfl) ?_
      refine lv_sipush (v := 1024) hx hb dX5_bestRound_68 (by decide) ?_
      refine lv_icmp_ge (tgt := 105) hx hb dX5_bestRound_71 (by decide) (fun c_10 => ?_) (fun c_10 => ?_)
      · have hF := q_if_t c_10 hF
        exact kk (v4_9, σH_9, v3_9) hF _ _ _ hP hD hS (lv_sub hl [0, 1, 2, 3] rfl)
      · have hF := q_if_f c_10 hF
        refine lv_aload_n hx hb dX5_bestRound_74 rfl (lv_at hl 2 rfl) ?_
        refine lv_aload_n hx hb dX5_bestRound_75 rfl (lv_at hl 3 rfl) ?_
        refine lv_iload hx hb dX5_bestRound_76 (lv_at hl 0 rfl) ?_
        obtain ⟨⟨r_11, σH_12⟩, h_13, hF⟩ := q_cl_s hF
        try dsimp only at hF
        refine gcV_i (As := [.ref qC, .int v4_9]) (rest := []) (ci := 5) (q := (RX5, TX5, 3)) F hK hN hP hD hS hA (m_X5_goOn l g H.size qW AW σW_1 q_3 σH_9 qC AC σC v4_9 r_11 σH_12 h_13) gX5_bestRound_X5_goOn kX5_goOn rfl rfl rfl rfl ⟨(Nat.le_of_ble_eq_true rfl), (Nat.le_of_ble_eq_true rfl)⟩ [0, 1, 2, 11, 3, 4, 5, 6, 7, 8, 9, 10] [] rfl rfl rfl (by decide) rfl rfl rfl rfl rfl hl.1 (Nat.le_of_ble_eq_true rfl) dX5_bestRound_78 ⟨(Nat.le_of_ble_eq_true rfl), (Nat.le_of_ble_eq_true rfl)⟩ (fun r_w u_w H locs hw hP hD hS => ?_)
        have hP : va_P g.1 vwCl (wX5 g qW AW (.ref q_3) σW_1 ++ wX1 g qC AC σC ++ wH g q_3 σH_12) H := hP.sub [0, 1, 2, 4, 5, 6, 7, 8, 9, 10, 11, 3] rfl
        have hD : va_D Z (wX5 g qW AW (.ref q_3) σW_1 ++ wX1 g qC AC σC ++ wH g q_3 σH_12) := hD.sub [0, 1, 2, 4, 5, 6, 7, 8, 9, 10, 11, 3] (by decide) rfl
        obtain rfl : r_11 = r_w := hw.symm
        refine lv_if_eq (tgt := 99) hx hb dX5_bestRound_81 (by decide) (fun c_15 => ?_) (fun c_15 => ?_)
        · have hF := q_if_t c_15 hF
          refine lv_iinc (v := v4_9 + 1) (lv' := [(4, .int (v4_9 + 1)), (3, .int v3_9), (0, .ref qW), (1, .ref qC)]) hx hb dX5_bestRound_99 hl (k := 0) rfl rfl (by decide) rfl (fun ls hl => ?_)
          refine lv_goto (tgt := 66) hx hb dX5_bestRound_102 (by decide) ?_
          exact ag (v4_9 + 1, σH_12, v3_9) hF _ _ _ hP hD hS (lv_sub hl [0, 1, 2, 3] rfl)
        · have hF := q_if_f c_15 hF
          refine lv_iload hx hb dX5_bestRound_84 (lv_at hl 0 rfl) ?_
          obtain ⟨r_16, h_17, hF⟩ := q_cl_s hF
          refine gcP (As := [.int v4_9]) (rest := []) F (m_J6_bitCount_0f7a4 l v4_9 r_16 h_17) gX5_bestRound_J6_bitCount_0f7a4 kJ6_bitCount_0f7a4 rfl rfl rfl ⟨(Nat.le_of_ble_eq_true rfl), (Nat.le_of_ble_eq_true rfl)⟩ rfl rfl hl.1 (Nat.le_of_ble_eq_true rfl) dX5_bestRound_86 ⟨(Nat.le_of_ble_eq_true rfl), (Nat.le_of_ble_eq_true rfl)⟩ ?_
          refine lv_iload_n hx hb dX5_bestRound_89 rfl (lv_at hl 1 rfl) ?_
          obtain ⟨r_18, h_19, hF⟩ := q_cl_s hF
          refine gcP (As := [.int v3_9]) (rest := [.int r_16]) F (m_J6_bitCount_0f7a4 l v3_9 r_18 h_19) gX5_bestRound_J6_bitCount_0f7a4 kJ6_bitCount_0f7a4 rfl rfl rfl ⟨(Nat.le_of_ble_eq_true rfl), (Nat.le_of_ble_eq_true rfl)⟩ rfl rfl hl.1 (Nat.le_of_ble_eq_true rfl) dX5_bestRound_90 ⟨(Nat.le_of_ble_eq_true rfl), (Nat.le_of_ble_eq_true rfl)⟩ ?_
          refine lv_icmp_le (tgt := 99) hx hb dX5_bestRound_93 (by decide) (fun c_20 => ?_) (fun c_20 => ?_)
          · have hF := q_if_t c_20 hF
            refine lv_iinc (v := v4_9 + 1) (lv' := [(4, .int (v4_9 + 1)), (3, .int v3_9), (0, .ref qW), (1, .ref qC)]) hx hb dX5_bestRound_99 hl (k := 0) rfl rfl (by decide) rfl (fun ls hl => ?_)
            refine lv_goto (tgt := 66) hx hb dX5_bestRound_102 (by decide) ?_
            exact ag (v4_9 + 1, σH_12, v3_9) hF _ _ _ hP hD hS (lv_sub hl [0, 1, 2, 3] rfl)
          · have hF := q_if_f c_20 hF
            refine lv_iload hx hb dX5_bestRound_96 (lv_at hl 0 rfl) ?_
            refine lv_istore_n (lv' := [(3, .int v4_9), (4, .int v4_9), (0, .ref qW), (1, .ref qC)]) hx hb dX5_bestRound_98 rfl hl (by decide) rfl (fun ls hl => ?_)
            refine lv_iinc (v := v4_9 + 1) (lv' := [(4, .int (v4_9 + 1)), (3, .int v4_9), (0, .ref qW), (1, .ref qC)]) hx hb dX5_bestRound_99 hl (k := 1) rfl rfl (by decide) rfl (fun ls hl => ?_)
            refine lv_goto (tgt := 66) hx hb dX5_bestRound_102 (by decide) ?_
            exact ag (v4_9 + 1, σH_12, v4_9) hF _ _ _ hP hD hS (lv_sub hl [0, 1, 2, 3] rfl)
  · rintro k again kk ag ⟨v3_8, σH_8⟩ hF H locs ls hP hD hS hl
    dsimp only [b_X5_bestRound_n_31] at hF
    have hP : va_P g.1 vwCl (wX5 g qW AW (.ref q_3) σW_1 ++ wX1 g qC AC σC ++ wH g q_3 σH_8) H := hP
    have hD : va_D Z (wX5 g qW AW (.ref q_3) σW_1 ++ wX1 g qC AC σC ++ wH g q_3 σH_8) := hD
    have hl : lv_has ls 5 [(3, .int v3_8), (0, .ref qW), (1, .ref qC), (2, .int a2)] := hl
    refine lv_iload_n hx hb dX5_bestRound_31 rfl (lv_at hl 0 rfl) ?_
    refine lv_bipush (v := 10) hx hb dX5_bestRound_32 (by decide) ?_
    refine lv_icmp_ge (tgt := 61) hx hb dX5_bestRound_34 (by decide) (fun c_21 => ?_) (fun c_21 => ?_)
    · have hF := q_if_t c_21 hF
      exact kk (v3_8, σH_8) hF _ _ _ hP hD hS (lv_sub hl [0, 1, 2, 3] rfl)
    · have hF := q_if_f c_21 hF
      refine lv_aload_n hx hb dX5_bestRound_37 rfl (lv_at hl 1 rfl) ?_
      refine lv_aload_n hx hb dX5_bestRound_38 rfl (lv_at hl 2 rfl) ?_
      refine lv_iconst (v := 1) hx hb dX5_bestRound_39 (by decide) ?_
      refine lv_iload_n hx hb dX5_bestRound_40 rfl (lv_at hl 0 rfl) ?_
      refine lv_ishl hx hb dX5_bestRound_41 ?_
      refine lv_iload_n hx hb dX5_bestRound_42 rfl (lv_at hl 0 rfl) ?_
      refine lv_iload_n hx hb dX5_bestRound_43 rfl (lv_at hl 3 rfl) ?_
      refine lv_aload_n hx hb dX5_bestRound_44 rfl (lv_at hl 1 rfl) ?_
      refine lv_bipush (v := 10) hx hb dX5_bestRound_45 (by decide) ?_
      refine lv_iload_n hx hb dX5_bestRound_47 rfl (lv_at hl 0 rfl) ?_
      obtain ⟨r_22, h_23, hF⟩ := q_cl_s hF
      refine gcV_i (As := [.int 10, .int v3_8]) (rest := [.int a2, .int v3_8, .int ((1 : Int32) <<< (v3_8 &&& 31)), .ref qC, .ref qW]) (ci := 5) (q := (RX5, TX5, 3)) F hK hN hP hD hS hA (m_X5_leastWay l g H.size qW AW (.ref q_3) σW_1 (10 : Int32) v3_8 r_22 h_23) gX5_bestRound_X5_leastWay kX5_leastWay rfl rfl rfl rfl ⟨(Nat.le_of_ble_eq_true rfl), (Nat.le_of_ble_eq_true rfl)⟩ [0, 1, 2] [3, 4, 5, 6, 7, 8, 9, 10, 11] rfl rfl rfl (by decide) rfl rfl rfl rfl rfl hl.1 (Nat.le_of_ble_eq_true rfl) dX5_bestRound_48 ⟨(Nat.le_of_ble_eq_true rfl), (Nat.le_of_ble_eq_true rfl)⟩ (fun r_w u_w H locs hw hP hD hS => ?_)
      have hP : va_P g.1 vwCl (wX5 g qW AW (.ref q_3) σW_1 ++ wX1 g qC AC σC ++ wH g q_3 σH_8) H := hP.sub [9, 10, 11, 0, 1, 2, 3, 4, 5, 6, 7, 8] rfl
      have hD : va_D Z (wX5 g qW AW (.ref q_3) σW_1 ++ wX1 g qC AC σC ++ wH g q_3 σH_8) := hD.sub [9, 10, 11, 0, 1, 2, 3, 4, 5, 6, 7, 8] (by decide) rfl
      obtain rfl : r_22 = r_w := hw.symm
      refine lv_isub hx hb dX5_bestRound_51 ?_
      obtain ⟨σH_24, h_25, hF⟩ := q_cl_s hF
      refine gcV_v (As := [.ref qC, .int ((1 : Int32) <<< (v3_8 &&& 31)), .int v3_8, .int (a2 - r_22)]) (rest := []) (ci := 5) (q := (RX5, TX5, 3)) F hK hN hP hD hS hA (m_X5_warm l g H.size qW AW σW_1 q_3 σH_8 qC AC σC ((1 : Int32) <<< (v3_8 &&& 31)) v3_8 (a2 - r_22) σH_24 h_25) gX5_bestRound_X5_warm kX5_warm rfl rfl rfl rfl ⟨(Nat.le_of_ble_eq_true rfl), (Nat.le_of_ble_eq_true rfl)⟩ [0, 1, 2, 11, 3, 4, 5, 6, 7, 8, 9, 10] [] rfl rfl rfl (by decide) rfl rfl rfl rfl rfl hl.1 (Nat.le_of_ble_eq_true rfl) dX5_bestRound_52 ⟨(Nat.le_of_ble_eq_true rfl), (Nat.le_of_ble_eq_true rfl)⟩ (fun u_w H locs hw hP hD hS => ?_)
      have hP : va_P g.1 vwCl (wX5 g qW AW (.ref q_3) σW_1 ++ wX1 g qC AC σC ++ wH g q_3 σH_24) H := hP.sub [0, 1, 2, 4, 5, 6, 7, 8, 9, 10, 11, 3] rfl
      have hD : va_D Z (wX5 g qW AW (.ref q_3) σW_1 ++ wX1 g qC AC σC ++ wH g q_3 σH_24) := hD.sub [0, 1, 2, 4, 5, 6, 7, 8, 9, 10, 11, 3] (by decide) rfl
      refine lv_iinc (v := v3_8 + 1) (lv' := [(3, .int (v3_8 + 1)), (0, .ref qW), (1, .ref qC), (2, .int a2)]) hx hb dX5_bestRound_55 hl (k := 0) rfl rfl (by decide) rfl (fun ls hl => ?_)
      refine lv_goto (tgt := 31) hx hb dX5_bestRound_58 (by decide) ?_
      exact ag (v3_8 + 1, σH_24) hF _ _ _ hP hD hS (lv_sub hl [0, 1, 2, 3] rfl)

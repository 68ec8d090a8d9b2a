theorem kX5_leastWay : YOk yX5_leastWay 2 := by decide +kernel
theorem kX5_shortenPast : YOk yX5_shortenPast 2 := by decide +kernel
theorem kX5_measure : YOk yX5_measure 1 := by decide +kernel
theorem kX5_howFar : YOk yX5_howFar 2 := by decide +kernel
theorem kX5_nextPlace : YOk yX5_nextPlace 3 := by decide +kernel
theorem kX5_findNeighbours : YOk yX5_findNeighbours 1 := by decide +kernel
theorem kX5_leadsTo : YOk yX5_leadsTo 2 := by decide +kernel
theorem kX5_fewestDamp : YOk yX5_fewestDamp 2 := by decide +kernel
set_option maxHeartbeats 4000000 in
set_option maxRecDepth 100000 in
theorem m_X5_leastWay (l : Launch) (g : GT) (sz : Nat) (qW : Nat) (AW : Nat → Nat) (hW : Value) (σW : qS) (a1 : Int32) (a2 : Int32) (rr : Int32) (hF : f_X5_leastWay σW a1 a2 = some rr) : Ci l yX5_leastWay wsX5_leastWay { frames := 1, cells := 0, slots := 0, locals := 20 } g sz [.ref qW, .int a1, .int a2] (wX5 g qW AW hW σW) rr (wX5 g qW AW hW σW) := by
  refine gMet_i (cc := cX5_leastWay) (maxL := 3) (ret := (some .int)) (by decide) rfl (Nat.le_of_ble_eq_true rfl) ?_
  intro p e s m args below meth c Z hx hb hr F hlk hnm hK hN hA H locs hP hD hS ls hl
  have hl : lv_has ls 3 [(0, .ref qW), (1, .int a1), (2, .int a2)] := hl
  have F : CallFix p m c cX5_leastWay 3 s args wsX5_leastWay RX5 := F
  have hts := F.2.2.2.2
  have hown : s.vm.findClass RX5 = some m.cls := F.2.2.2.1
  have hi5 : ∀ w ∈ u_ws RX5 TX5 3, w ∈ wsX5_leastWay := by decide +kernel
  dsimp only [f_X5_leastWay] at hF
  refine lv_iload_n hx hb dX5_leastWay_0 rfl (lv_at hl 1 rfl) ?_
  obtain ⟨r_1, h_2, hF⟩ := q_cl_s hF
  refine gcPN (As := [.int a1]) (rest := []) F (m_X6_isPlace l a1 r_1 h_2) gX5_leastWay_X6_isPlace_n31 kX6_isPlace (hts (.initialized RX6) (by decide +kernel)) (hN.get 9 rfl) (hts (.static yX6_isPlace) (by decide +kernel)) rfl rfl rfl ⟨(Nat.le_of_ble_eq_true rfl), (Nat.le_of_ble_eq_true rfl)⟩ rfl rfl hl.1 (Nat.le_of_ble_eq_true rfl) dX5_leastWay_1 ⟨(Nat.le_of_ble_eq_true rfl), (Nat.le_of_ble_eq_true rfl)⟩ ?_
  refine lv_if_eq (tgt := 28) hx hb dX5_leastWay_4 (by decide) (fun c_3 => ?_) (fun c_3 => ?_)
  · have hF := q_if_t c_3 hF
    refine lv_sipush (v := 1000) hx hb dX5_leastWay_28 (by decide) ?_
    cases hF
    exact r_iret hx hb hr hlk hS () rfl hP hD dX5_leastWay_31
  · have hF := q_if_f c_3 hF
    refine lv_iload_n hx hb dX5_leastWay_7 rfl (lv_at hl 2 rfl) ?_
    obtain ⟨r_4, h_5, hF⟩ := q_cl_s hF
    refine gcPN (As := [.int a2]) (rest := []) F (m_X6_isPlace l a2 r_4 h_5) gX5_leastWay_X6_isPlace_n31 kX6_isPlace (hts (.initialized RX6) (by decide +kernel)) (hN.get 9 rfl) (hts (.static yX6_isPlace) (by decide +kernel)) rfl rfl rfl ⟨(Nat.le_of_ble_eq_true rfl), (Nat.le_of_ble_eq_true rfl)⟩ rfl rfl hl.1 (Nat.le_of_ble_eq_true rfl) dX5_leastWay_8 ⟨(Nat.le_of_ble_eq_true rfl), (Nat.le_of_ble_eq_true rfl)⟩ ?_
    refine lv_if_eq (tgt := 28) hx hb dX5_leastWay_11 (by decide) (fun c_6 => ?_) (fun c_6 => ?_)
    · have hF := q_if_t c_6 hF
      refine lv_sipush (v := 1000) hx hb dX5_leastWay_28 (by decide) ?_
      cases hF
      exact r_iret hx hb hr hlk hS () rfl hP hD dX5_leastWay_31
    · have hF := q_if_f c_6 hF
      refine lv_aload_n hx hb dX5_leastWay_14 rfl (lv_at hl 0 rfl) ?_
      refine va_get (D := g.1) (ci := 5) (v := .ref (AW 0)) (C := RX5) (T := TX5) (N := 3) hx hb hts hi5 hown hK hP 0 rfl rfl 0 (by decide) (hts (.fieldLink RX5 9 "PanTales$Ways" "least" "[I") (by decide +kernel)) (fun _ h9 => h9) rfl dX5_leastWay_15 ?_
      refine lv_iload_n hx hb dX5_leastWay_18 rfl (lv_at hl 1 rfl) ?_
      refine lv_bipush (v := 11) hx hb dX5_leastWay_19 (by decide) ?_
      refine lv_imul hx hb dX5_leastWay_21 ?_
      refine lv_iload_n hx hb dX5_leastWay_22 rfl (lv_at hl 2 rfl) ?_
      refine lv_iadd hx hb dX5_leastWay_23 ?_
      obtain ⟨r_7, i_8, e_9, hF⟩ := q_rd_s hF
      refine r_iald (v := r_7) hx hb hK hP 1 rfl i_8 e_9 dX5_leastWay_24 ?_
      refine lv_goto (tgt := 31) hx hb dX5_leastWay_25 (by decide) ?_
      cases hF
      exact r_iret hx hb hr hlk hS () rfl hP hD dX5_leastWay_31
set_option maxHeartbeats 4000000 in
set_option maxRecDepth 100000 in
theorem m_X5_shortenPast (l : Launch) (g : GT) (sz : Nat) (qW : Nat) (AW : Nat → Nat) (hW : Value) (σW : qS) (a1 : Int32) (a2 : Int32) (σW' : qS) (hF : f_X5_shortenPast σW a1 a2 = some σW') : Cv l yX5_shortenPast wsX5_shortenPast { frames := 2, cells := 0, slots := 0, locals := 42 } g sz [.ref qW, .int a1, .int a2] (wX5 g qW AW hW σW) (wX5 g qW AW hW σW') := by
  refine gMet_v (cc := cX5_shortenPast) (maxL := 5) (ret := none) (by decide) rfl (Nat.le_of_ble_eq_true rfl) ?_
  intro p e s m args below meth c Z hx hb hr F hlk hnm hK hN hA H locs hP hD hS ls hl
  have hl : lv_has ls 5 [(0, .ref qW), (1, .int a1), (2, .int a2)] := hl
  have F : CallFix p m c cX5_shortenPast 5 s args wsX5_shortenPast RX5 := F
  have hts := F.2.2.2.2
  have hown : s.vm.findClass RX5 = some m.cls := F.2.2.2.1
  have hi5 : ∀ w ∈ u_ws RX5 TX5 3, w ∈ wsX5_shortenPast := by decide +kernel
  dsimp only [f_X5_shortenPast] at hF
  refine lv_iconst (v := 0) hx hb dX5_shortenPast_0 (by decide) ?_
  refine lv_istore_n (lv' := [(3, .int 0), (0, .ref qW), (1, .int a1), (2, .int a2)]) hx hb dX5_shortenPast_1 rfl hl (by decide) rfl (fun ls hl => ?_)
  refine q_loop (fun u0 => wX5 g qW AW hW u0.2) (fun u0 => [(3, .int u0.1), (0, .ref qW), (1, .int a1), (2, .int a2)]) 60 hF ?_ ?_ hP hD hS (lv_sub hl [0, 1, 2, 3] rfl)
  · rintro ⟨v3_1, σW_1⟩ hF H locs ls hP hD hS hl
    try dsimp only at hF
    have hP : va_P g.1 vwCl (wX5 g qW AW hW σW_1) H := hP
    have hD : va_D Z (wX5 g qW AW hW σW_1) := hD
    have hl : lv_has ls 5 [(3, .int v3_1), (0, .ref qW), (1, .int a1), (2, .int a2)] := hl
    cases hF
    exact r_vret hx hb hr hlk hS () trivial hP hD dX5_shortenPast_60
  · rintro k again kk ag ⟨v3_1, σW_1⟩ hF H locs ls hP hD hS hl
    dsimp only [b_X5_shortenPast_2] at hF
    have hP : va_P g.1 vwCl (wX5 g qW AW hW σW_1) H := hP
    have hD : va_D Z (wX5 g qW AW hW σW_1) := hD
    have hl : lv_has ls 5 [(3, .int v3_1), (0, .ref qW), (1, .int a1), (2, .int a2)] := hl
    refine lv_iload_n hx hb dX5_shortenPast_2 rfl (lv_at hl 0 rfl) ?_
    refine lv_bipush (v := 11) hx hb dX5_shortenPast_3 (by decide) ?_
    refine lv_icmp_ge (tgt := 60) hx hb dX5_shortenPast_5 (by decide) (fun c_2 => ?_) (fun c_2 => ?_)
    · have hF := q_if_t c_2 hF
      exact kk (v3_1, σW_1) hF _ _ _ hP hD hS (lv_sub hl [0, 1, 2, 3] rfl)
    · have hF := q_if_f c_2 hF
      refine lv_aload_n hx hb dX5_shortenPast_8 rfl (lv_at hl 1 rfl) ?_
      refine lv_iload_n hx hb dX5_shortenPast_9 rfl (lv_at hl 3 rfl) ?_
      refine lv_iload_n hx hb dX5_shortenPast_10 rfl (lv_at hl 2 rfl) ?_
      obtain ⟨r_3, h_4, hF⟩ := q_cl_s hF
      refine gcV_i (As := [.int a2, .int a1]) (rest := []) (ci := 5) (q := (RX5, TX5, 3)) F hK hN hP hD hS hA (m_X5_leastWay l g H.size qW AW hW σW_1 a2 a1 r_3 h_4) gX5_shortenPast_X5_leastWay kX5_leastWay rfl rfl rfl rfl ⟨(Nat.le_of_ble_eq_true rfl), (Nat.le_of_ble_eq_true rfl)⟩ [0, 1, 2] [] rfl rfl rfl (by decide) rfl rfl rfl rfl rfl hl.1 (Nat.le_of_ble_eq_true rfl) dX5_shortenPast_11 ⟨(Nat.le_of_ble_eq_true rfl), (Nat.le_of_ble_eq_true rfl)⟩ (fun r_w u_w H locs hw hP hD hS => ?_)
      have hP : va_P g.1 vwCl (wX5 g qW AW hW σW_1) H := hP
      have hD : va_D Z (wX5 g qW AW hW σW_1) := hD
      obtain rfl : r_3 = r_w := hw.symm
      refine lv_aload_n hx hb dX5_shortenPast_14 rfl (lv_at hl 1 rfl) ?_
      refine lv_iload_n hx hb dX5_shortenPast_15 rfl (lv_at hl 2 rfl) ?_
      refine lv_iload_n hx hb dX5_shortenPast_16 rfl (lv_at hl 0 rfl) ?_
      obtain ⟨r_5, h_6, hF⟩ := q_cl_s hF
      refine gcV_i (As := [.int a1, .int v3_1]) (rest := [.int r_3]) (ci := 5) (q := (RX5, TX5, 3)) F hK hN hP hD hS hA (m_X5_leastWay l g H.size qW AW hW σW_1 a1 v3_1 r_5 h_6) gX5_shortenPast_X5_leastWay kX5_leastWay rfl rfl rfl rfl ⟨(Nat.le_of_ble_eq_true rfl), (Nat.le_of_ble_eq_true rfl)⟩ [0, 1, 2] [] rfl rfl rfl (by decide) rfl rfl rfl rfl rfl hl.1 (Nat.le_of_ble_eq_true rfl) dX5_shortenPast_17 ⟨(Nat.le_of_ble_eq_true rfl), (Nat.le_of_ble_eq_true rfl)⟩ (fun r_w u_w H locs hw hP hD hS => ?_)
      have hP : va_P g.1 vwCl (wX5 g qW AW hW σW_1) H := hP
      have hD : va_D Z (wX5 g qW AW hW σW_1) := hD
      obtain rfl : r_5 = r_w := hw.symm
      refine lv_iadd hx hb dX5_shortenPast_20 ?_
      obtain ⟨v4_7, e_8, hF⟩ := q_bd_s hF
      refine gtop e_8 ?_
      refine lv_istore (lv' := [(4, .int v4_7), (3, .int v3_1), (0, .ref qW), (1, .int a1), (2, .int a2)]) hx hb dX5_shortenPast_21 hl (by decide) rfl (fun ls hl => ?_)
      refine lv_iload hx hb dX5_shortenPast_23 (lv_at hl 0 rfl) ?_
      refine lv_aload_n hx hb dX5_shortenPast_25 rfl (lv_at hl 2 rfl) ?_
      refine lv_iload_n hx hb dX5_shortenPast_26 rfl (lv_at hl 4 rfl) ?_
      refine lv_iload_n hx hb dX5_shortenPast_27 rfl (lv_at hl 1 rfl) ?_
      obtain ⟨r_9, h_10, hF⟩ := q_cl_s hF
      refine gcV_i (As := [.int a2, .int v3_1]) (rest := [.int v4_7]) (ci := 5) (q := (RX5, TX5, 3)) F hK hN hP hD hS hA (m_X5_leastWay l g H.size qW AW hW σW_1 a2 v3_1 r_9 h_10) gX5_shortenPast_X5_leastWay kX5_leastWay rfl rfl rfl rfl ⟨(Nat.le_of_ble_eq_true rfl), (Nat.le_of_ble_eq_true rfl)⟩ [0, 1, 2] [] rfl rfl rfl (by decide) rfl rfl rfl rfl rfl hl.1 (Nat.le_of_ble_eq_true rfl) dX5_shortenPast_28 ⟨(Nat.le_of_ble_eq_true rfl), (Nat.le_of_ble_eq_true rfl)⟩ (fun r_w u_w H locs hw hP hD hS => ?_)
      have hP : va_P g.1 vwCl (wX5 g qW AW hW σW_1) H := hP
      have hD : va_D Z (wX5 g qW AW hW σW_1) := hD
      obtain rfl : r_9 = r_w := hw.symm
      refine lv_icmp_ge (tgt := 54) hx hb dX5_shortenPast_31 (by decide) (fun c_11 => ?_) (fun c_11 => ?_)
      · have hF := q_if_t c_11 hF
        refine lv_iinc (v := v3_1 + 1) (lv' := [(3, .int (v3_1 + 1)), (4, .int v4_7), (0, .ref qW), (1, .int a1), (2, .int a2)]) hx hb dX5_shortenPast_54 hl (k := 1) rfl rfl (by decide) rfl (fun ls hl => ?_)
        refine lv_goto (tgt := 2) hx hb dX5_shortenPast_57 (by decide) ?_
        exact ag (v3_1 + 1, σW_1) hF _ _ _ hP hD hS (lv_sub hl [0, 2, 3, 4] rfl)
      · have hF := q_if_f c_11 hF
        refine lv_iload_n hx hb dX5_shortenPast_34 rfl (lv_at hl 4 rfl) ?_
        obtain ⟨r_12, h_13, hF⟩ := q_cl_s hF
        refine gcPN (As := [.int a2]) (rest := []) F (m_X6_isPlace l a2 r_12 h_13) gX5_shortenPast_X6_isPlace_n31 kX6_isPlace (hts (.initialized RX6) (by decide +kernel)) (hN.get 9 rfl) (hts (.static yX6_isPlace) (by decide +kernel)) rfl rfl rfl ⟨(Nat.le_of_ble_eq_true rfl), (Nat.le_of_ble_eq_true rfl)⟩ rfl rfl hl.1 (Nat.le_of_ble_eq_true rfl) dX5_shortenPast_35 ⟨(Nat.le_of_ble_eq_true rfl), (Nat.le_of_ble_eq_true rfl)⟩ ?_
        refine lv_if_eq (tgt := 54) hx hb dX5_shortenPast_38 (by decide) (fun c_14 => ?_) (fun c_14 => ?_)
        · have hF := q_if_t c_14 hF
          refine lv_iinc (v := v3_1 + 1) (lv' := [(3, .int (v3_1 + 1)), (4, .int v4_7), (0, .ref qW), (1, .int a1), (2, .int a2)]) hx hb dX5_shortenPast_54 hl (k := 1) rfl rfl (by decide) rfl (fun ls hl => ?_)
          refine lv_goto (tgt := 2) hx hb dX5_shortenPast_57 (by decide) ?_
          exact ag (v3_1 + 1, σW_1) hF _ _ _ hP hD hS (lv_sub hl [0, 2, 3, 4] rfl)
        · have hF := q_if_f c_14 hF
          refine lv_aload_n hx hb dX5_shortenPast_41 rfl (lv_at hl 2 rfl) ?_
          refine va_get (D := g.1) (ci := 5) (v := .ref (AW 0)) (C := RX5) (T := TX5) (N := 3) hx hb hts hi5 hown hK hP 0 rfl rfl 0 (by decide) (hts (.fieldLink RX5 9 "PanTales$Ways" "least" "[I") (by decide +kernel)) (fun _ h9 => h9) rfl dX5_shortenPast_42 ?_
          refine lv_iload_n hx hb dX5_shortenPast_45 rfl (lv_at hl 4 rfl) ?_
          refine lv_bipush (v := 11) hx hb dX5_shortenPast_46 (by decide) ?_
          refine lv_imul hx hb dX5_shortenPast_48 ?_
          refine lv_iload_n hx hb dX5_shortenPast_49 rfl (lv_at hl 1 rfl) ?_
          refine lv_iadd hx hb dX5_shortenPast_50 ?_
          refine lv_iload hx hb dX5_shortenPast_51 (lv_at hl 0 rfl) ?_
          obtain ⟨σW_15, i_16, e_17, hF⟩ := q_wr_s hF
          refine r_iast (f' := upd (σW_1 0) ((a2 * 11) + v3_1).toNatClampNeg v4_7) hx hb hK hP hD hS 1 rfl i_16 (fun _ _ => rfl) dX5_shortenPast_53 (fun H locs hP hD hS => ?_)
          have hP : va_P g.1 vwCl (wX5 g qW AW hW (q_up σW_1 0 (upd (σW_1 0) ((a2 * 11) + v3_1).toNatClampNeg v4_7))) H := hP
          have hD : va_D Z (wX5 g qW AW hW (q_up σW_1 0 (upd (σW_1 0) ((a2 * 11) + v3_1).toNatClampNeg v4_7))) := hD
          rw [e_17] at hP hD
          refine lv_iinc (v := v3_1 + 1) (lv' := [(3, .int (v3_1 + 1)), (4, .int v4_7), (0, .ref qW), (1, .int a1), (2, .int a2)]) hx hb dX5_shortenPast_54 hl (k := 1) rfl rfl (by decide) rfl (fun ls hl => ?_)
          refine lv_goto (tgt := 2) hx hb dX5_shortenPast_57 (by decide) ?_
          exact ag (v3_1 + 1, σW_15) hF _ _ _ hP hD hS (lv_sub hl [0, 2, 3, 4] rfl)
set_option maxHeartbeats 4000000 in
set_option maxRecDepth 100000 in
theorem m_X5_measure (l : Launch) (g : GT) (sz : Nat) (qW : Nat) (AW : Nat → Nat) (hW : Value) (σW : qS) (qC : Nat) (AC : Nat → Nat) (σC : qS) (σW' : qS) (hF : f_X5_measure σW σC = some σW') : Cv l yX5_measure wsX5_measure { frames := 3, cells := 0, slots := 0, locals := 66 } g sz [.ref qW, .ref qC] (wX5 g qW AW hW σW ++ wX1 g qC AC σC) (wX5 g qW AW hW σW' ++ wX1 g qC AC σC) := by
  refine gMet_v (cc := cX5_measure) (maxL := 5) (ret := none) (by decide) rfl (Nat.le_of_ble_eq_true rfl) ?_
  intro p e s m args below meth c Z hx hb hr F hlk hnm hK hN hA H locs hP hD hS ls hl
  have hl : lv_has ls 5 [(0, .ref qW), (1, .ref qC)] := hl
  have F : CallFix p m c cX5_measure 5 s args wsX5_measure RX5 := F
  have hts := F.2.2.2.2
  have hown : s.vm.findClass RX5 = some m.cls := F.2.2.2.1
  have hi5 : ∀ w ∈ u_ws RX5 TX5 3, w ∈ wsX5_measure := by decide +kernel
  dsimp only [f_X5_measure] at hF
  refine lv_iconst (v := 0) hx hb dX5_measure_0 (by decide) ?_
  refine lv_istore_n (lv' := [(2, .int 0), (0, .ref qW), (1, .ref qC)]) hx hb dX5_measure_1 rfl hl (by decide) rfl (fun ls hl => ?_)
  refine q_loop (fun u0 => wX5 g qW AW hW u0.2 ++ wX1 g qC AC σC) (fun u0 => [(2, .int u0.1), (0, .ref qW), (1, .ref qC)]) 72 hF ?_ ?_ hP hD hS (lv_sub hl [0, 1, 2] rfl)
  · rintro ⟨v2_1, σW_1⟩ hF H locs ls hP hD hS hl
    try dsimp only at hF
    have hP : va_P g.1 vwCl (wX5 g qW AW hW σW_1 ++ wX1 g qC AC σC) H := hP
    have hD : va_D Z (wX5 g qW AW hW σW_1 ++ wX1 g qC AC σC) := hD
    have hl : lv_has ls 5 [(2, .int v2_1), (0, .ref qW), (1, .ref qC)] := hl
    refine lv_iconst (v := 0) hx hb dX5_measure_72 (by decide) ?_
    refine lv_istore_n (lv' := [(2, .int 0), (0, .ref qW), (1, .ref qC)]) hx hb dX5_measure_73 rfl hl (by decide) rfl (fun ls hl => ?_)
    refine q_loop (fun u0 => wX5 g qW AW hW u0.2 ++ wX1 g qC AC σC) (fun u0 => [(2, .int u0.1), (0, .ref qW)]) 106 hF ?_ ?_ hP hD hS (lv_sub hl [0, 1] rfl)
    · rintro ⟨v2_2, σW_2⟩ hF H locs ls hP hD hS hl
      try dsimp only at hF
      have hP : va_P g.1 vwCl (wX5 g qW AW hW σW_2 ++ wX1 g qC AC σC) H := hP
      have hD : va_D Z (wX5 g qW AW hW σW_2 ++ wX1 g qC AC σC) := hD
      have hl : lv_has ls 5 [(2, .int v2_2), (0, .ref qW)] := hl
      cases hF
      exact r_vret hx hb hr hlk hS () trivial hP hD dX5_measure_106
    · rintro k again kk ag ⟨v2_2, σW_2⟩ hF H locs ls hP hD hS hl
      dsimp only [b_X5_measure_74] at hF
      have hP : va_P g.1 vwCl (wX5 g qW AW hW σW_2 ++ wX1 g qC AC σC) H := hP
      have hD : va_D Z (wX5 g qW AW hW σW_2 ++ wX1 g qC AC σC) := hD
      have hl : lv_has ls 5 [(2, .int v2_2), (0, .ref qW)] := hl
      refine lv_iload_n hx hb dX5_measure_74 rfl (lv_at hl 0 rfl) ?_
      refine lv_bipush (v := 11) hx hb dX5_measure_75 (by decide) ?_
      refine lv_icmp_ge (tgt := 106) hx hb dX5_measure_77 (by decide) (fun c_3 => ?_) (fun c_3 => ?_)
      · have hF := q_if_t c_3 hF
        exact kk (v2_2, σW_2) hF _ _ _ hP hD hS (lv_sub hl [0, 1] rfl)
      · have hF := q_if_f c_3 hF
        refine lv_iconst (v := 0) hx hb dX5_measure_80 (by decide) ?_
        refine lv_istore_n (lv' := [(3, .int 0), (2, .int v2_2), (0, .ref qW)]) hx hb dX5_measure_81 rfl hl (by decide) rfl (fun ls hl => ?_)
        refine q_loop (fun u0 => wX5 g qW AW hW u0.2 ++ wX1 g qC AC σC) (fun u0 => [(3, .int u0.1), (2, .int v2_2), (0, .ref qW)]) 100 hF ?_ ?_ hP hD hS (lv_sub hl [0, 1, 2] rfl)
        · rintro ⟨v3_4, σW_4⟩ hF H locs ls hP hD hS hl
          try dsimp only at hF
          have hP : va_P g.1 vwCl (wX5 g qW AW hW σW_4 ++ wX1 g qC AC σC) H := hP
          have hD : va_D Z (wX5 g qW AW hW σW_4 ++ wX1 g qC AC σC) := hD
          have hl : lv_has ls 5 [(3, .int v3_4), (2, .int v2_2), (0, .ref qW)] := hl
          refine lv_iinc (v := v2_2 + 1) (lv' := [(2, .int (v2_2 + 1)), (3, .int v3_4), (0, .ref qW)]) hx hb dX5_measure_100 hl (k := 1) rfl rfl (by decide) rfl (fun ls hl => ?_)
          refine lv_goto (tgt := 74) hx hb dX5_measure_103 (by decide) ?_
          exact ag (v2_2 + 1, σW_4) hF _ _ _ hP hD hS (lv_sub hl [0, 2] rfl)
        · rintro k again kk ag ⟨v3_4, σW_4⟩ hF H locs ls hP hD hS hl
          dsimp only [b_X5_measure_82] at hF
          have hP : va_P g.1 vwCl (wX5 g qW AW hW σW_4 ++ wX1 g qC AC σC) H := hP
          have hD : va_D Z (wX5 g qW AW hW σW_4 ++ wX1 g qC AC σC) := hD
          have hl : lv_has ls 5 [(3, .int v3_4), (2, .int v2_2), (0, .ref qW)] := hl
          refine lv_iload_n hx hb dX5_measure_82 rfl (lv_at hl 0 rfl) ?_
          refine lv_bipush (v := 11) hx hb dX5_measure_83 (by decide) ?_
          refine lv_icmp_ge (tgt := 100) hx hb dX5_measure_85 (by decide) (fun c_5 => ?_) (fun c_5 => ?_)
          · have hF := q_if_t c_5 hF
            exact kk (v3_4, σW_4) hF _ _ _ hP hD hS (lv_sub hl [0, 1, 2] rfl)
          · have hF := q_if_f c_5 hF
            refine lv_aload_n hx hb dX5_measure_88 rfl (lv_at hl 2 rfl) ?_
            refine lv_iload_n hx hb dX5_measure_89 rfl (lv_at hl 1 rfl) ?_
            refine lv_iload_n hx hb dX5_measure_90 rfl (lv_at hl 0 rfl) ?_
            obtain ⟨σW_6, h_7, hF⟩ := q_cl_s hF
            refine gcV_v (As := [.int v2_2, .int v3_4]) (rest := []) (ci := 5) (q := (RX5, TX5, 3)) F hK hN hP hD hS hA (m_X5_shortenPast l g H.size qW AW hW σW_4 v2_2 v3_4 σW_6 h_7) gX5_measure_X5_shortenPast kX5_shortenPast rfl rfl rfl rfl ⟨(Nat.le_of_ble_eq_true rfl), (Nat.le_of_ble_eq_true rfl)⟩ [0, 1, 2] [3, 4, 5, 6, 7, 8, 9, 10] rfl rfl rfl (by decide) rfl rfl rfl rfl rfl hl.1 (Nat.le_of_ble_eq_true rfl) dX5_measure_91 ⟨(Nat.le_of_ble_eq_true rfl), (Nat.le_of_ble_eq_true rfl)⟩ (fun u_w H locs hw hP hD hS => ?_)
            have hP : va_P g.1 vwCl (wX5 g qW AW hW σW_6 ++ wX1 g qC AC σC) H := hP.sub [8, 9, 10, 0, 1, 2, 3, 4, 5, 6, 7] rfl
            have hD : va_D Z (wX5 g qW AW hW σW_6 ++ wX1 g qC AC σC) := hD.sub [8, 9, 10, 0, 1, 2, 3, 4, 5, 6, 7] (by decide) rfl
            refine lv_iinc (v := v3_4 + 1) (lv' := [(3, .int (v3_4 + 1)), (2, .int v2_2), (0, .ref qW)]) hx hb dX5_measure_94 hl (k := 0) rfl rfl (by decide) rfl (fun ls hl => ?_)
            refine lv_goto (tgt := 82) hx hb dX5_measure_97 (by decide) ?_
            exact ag (v3_4 + 1, σW_6) hF _ _ _ hP hD hS (lv_sub hl [0, 1, 2] rfl)
  · rintro k again kk ag ⟨v2_1, σW_1⟩ hF H locs ls hP hD hS hl
    dsimp only [b_X5_measure_2] at hF
    have hP : va_P g.1 vwCl (wX5 g qW AW hW σW_1 ++ wX1 g qC AC σC) H := hP
    have hD : va_D Z (wX5 g qW AW hW σW_1 ++ wX1 g qC AC σC) := hD
    have hl : lv_has ls 5 [(2, .int v2_1), (0, .ref qW), (1, .ref qC)] := hl
    refine lv_iload_n hx hb dX5_measure_2 rfl (lv_at hl 0 rfl) ?_
    refine lv_bipush (v := 11) hx hb dX5_measure_3 (by decide) ?_
    refine lv_icmp_ge (tgt := 72) hx hb dX5_measure_5 (by decide) (fun c_8 => ?_) (fun c_8 => ?_)
    · have hF := q_if_t c_8 hF
      exact kk (v2_1, σW_1) hF _ _ _ hP hD hS (lv_sub hl [0, 1, 2] rfl)
    · have hF := q_if_f c_8 hF
      refine lv_iconst (v := 0) hx hb dX5_measure_8 (by decide) ?_
      refine lv_istore_n (lv' := [(3, .int 0), (2, .int v2_1), (0, .ref qW), (1, .ref qC)]) hx hb dX5_measure_9 rfl hl (by decide) rfl (fun ls hl => ?_)
      refine q_loop (fun u0 => wX5 g qW AW hW u0.2 ++ wX1 g qC AC σC) (fun u0 => [(3, .int u0.1), (2, .int v2_1), (0, .ref qW), (1, .ref qC)]) 54 hF ?_ ?_ hP hD hS (lv_sub hl [0, 1, 2, 3] rfl)
      · rintro ⟨v3_9, σW_9⟩ hF H locs ls hP hD hS hl
        try dsimp only at hF
        have hP : va_P g.1 vwCl (wX5 g qW AW hW σW_9 ++ wX1 g qC AC σC) H := hP
        have hD : va_D Z (wX5 g qW AW hW σW_9 ++ wX1 g qC AC σC) := hD
        have hl : lv_has ls 5 [(3, .int v3_9), (2, .int v2_1), (0, .ref qW), (1, .ref qC)] := hl
        refine lv_aload_n hx hb dX5_measure_54 rfl (lv_at hl 2 rfl) ?_
        refine va_get (D := g.1) (ci := 5) (v := .ref (AW 0)) (C := RX5) (T := TX5) (N := 3) hx hb hts hi5 hown hK hP 0 rfl rfl 0 (by decide) (hts (.fieldLink RX5 9 "PanTales$Ways" "least" "[I") (by decide +kernel)) (fun _ h9 => h9) rfl dX5_measure_55 ?_
        refine lv_iload_n hx hb dX5_measure_58 rfl (lv_at hl 1 rfl) ?_
        refine lv_bipush (v := 11) hx hb dX5_measure_59 (by decide) ?_
        refine lv_imul hx hb dX5_measure_61 ?_
        refine lv_iload_n hx hb dX5_measure_62 rfl (lv_at hl 1 rfl) ?_
        refine lv_iadd hx hb dX5_measure_63 ?_
        refine lv_iconst (v := 0) hx hb dX5_measure_64 (by decide) ?_
        obtain ⟨σW_10, i_11, e_12, hF⟩ := q_wr_s hF
        refine r_iast (f' := upd (σW_9 0) ((v2_1 * 11) + v2_1).toNatClampNeg (0 : Int32)) hx hb hK hP hD hS 1 rfl i_11 (fun _ _ => rfl) dX5_measure_65 (fun H locs hP hD hS => ?_)
        have hP : va_P g.1 vwCl (wX5 g qW AW hW (q_up σW_9 0 (upd (σW_9 0) ((v2_1 * 11) + v2_1).toNatClampNeg (0 : Int32))) ++ wX1 g qC AC σC) H := hP
        have hD : va_D Z (wX5 g qW AW hW (q_up σW_9 0 (upd (σW_9 0) ((v2_1 * 11) + v2_1).toNatClampNeg (0 : Int32))) ++ wX1 g qC AC σC) := hD
        rw [e_12] at hP hD
        refine lv_iinc (v := v2_1 + 1) (lv' := [(2, .int (v2_1 + 1)), (3, .int v3_9), (0, .ref qW), (1, .ref qC)]) hx hb dX5_measure_66 hl (k := 1) rfl rfl (by decide) rfl (fun ls hl => ?_)
        refine lv_goto (tgt := 2) hx hb dX5_measure_69 (by decide) ?_
        exact ag (v2_1 + 1, σW_10) hF _ _ _ hP hD hS (lv_sub hl [0, 2, 3] rfl)
      · rintro k again kk ag ⟨v3_9, σW_9⟩ hF H locs ls hP hD hS hl
        dsimp only [b_X5_measure_10] at hF
        have hP : va_P g.1 vwCl (wX5 g qW AW hW σW_9 ++ wX1 g qC AC σC) H := hP
        have hD : va_D Z (wX5 g qW AW hW σW_9 ++ wX1 g qC AC σC) := hD
        have hl : lv_has ls 5 [(3, .int v3_9), (2, .int v2_1), (0, .ref qW), (1, .ref qC)] := hl
        refine lv_iload_n hx hb dX5_measure_10 rfl (lv_at hl 0 rfl) ?_
        refine lv_bipush (v := 11) hx hb dX5_measure_11 (by decide) ?_
        refine lv_icmp_ge (tgt := 54) hx hb dX5_measure_13 (by decide) (fun c_13 => ?_) (fun c_13 => ?_)
        · have hF := q_if_t c_13 hF
          exact kk (v3_9, σW_9) hF _ _ _ hP hD hS (lv_sub hl [0, 1, 2, 3] rfl)
        · have hF := q_if_f c_13 hF
          refine lv_aload_n hx hb dX5_measure_16 rfl (lv_at hl 3 rfl) ?_
          refine lv_iload_n hx hb dX5_measure_17 rfl (lv_at hl 1 rfl) ?_
          refine lv_iload_n hx hb dX5_measure_18 rfl (lv_at hl 0 rfl) ?_
          obtain ⟨r_14, h_15, hF⟩ := q_cl_s hF
          refine gcV_i (As := [.int v2_1, .int v3_9]) (rest := []) (ci := 1) (q := (RX1, TX1, 12)) F hK hN hP hD hS hA (m_X1_longBetween l g H.size qC AC σC v2_1 v3_9 r_14 h_15) gX5_measure_X1_longBetween kX1_longBetween rfl rfl rfl rfl ⟨(Nat.le_of_ble_eq_true rfl), (Nat.le_of_ble_eq_true rfl)⟩ [3, 4, 5, 6, 7, 8, 9, 10] [0, 1, 2] rfl rfl rfl (by decide) rfl rfl rfl rfl rfl hl.1 (Nat.le_of_ble_eq_true rfl) dX5_measure_19 ⟨(Nat.le_of_ble_eq_true rfl), (Nat.le_of_ble_eq_true rfl)⟩ (fun r_w u_w H locs hw hP hD hS => ?_)
          have hP : va_P g.1 vwCl (wX5 g qW AW hW σW_9 ++ wX1 g qC AC σC) H := hP
          have hD : va_D Z (wX5 g qW AW hW σW_9 ++ wX1 g qC AC σC) := hD
          obtain rfl : r_14 = r_w := hw.symm
          refine lv_istore (lv' := [(4, .int r_14), (3, .int v3_9), (2, .int v2_1), (0, .ref qW), (1, .ref qC)]) hx hb dX5_measure_22 hl (by decide) rfl (fun ls hl => ?_)
          refine lv_aload_n hx hb dX5_measure_24 rfl (lv_at hl 3 rfl) ?_
          refine va_get (D := g.1) (ci := 5) (v := .ref (AW 0)) (C := RX5) (T := TX5) (N := 3) hx hb hts hi5 hown hK hP 0 rfl rfl 0 (by decide) (hts (.fieldLink RX5 9 "PanTales$Ways" "least" "[I") (by decide +kernel)) (fun _ h9 => h9) rfl dX5_measure_25 ?_
          refine lv_iload_n hx hb dX5_measure_28 rfl (lv_at hl 2 rfl) ?_
          refine lv_bipush (v := 11) hx hb dX5_measure_29 (by decide) ?_
          refine lv_imul hx hb dX5_measure_31 ?_
          refine lv_iload_n hx hb dX5_measure_32 rfl (lv_at hl 1 rfl) ?_
          refine lv_iadd hx hb dX5_measure_33 ?_
          refine lv_iload hx hb dX5_measure_34 (lv_at hl 0 rfl) ?_
          refine lv_if_le (tgt := 44) hx hb dX5_measure_36 (by decide) (fun c_16 => ?_) (fun c_16 => ?_)
          · have hF := q_if_t c_16 hF
            refine lv_sipush (v := 1000) hx hb dX5_measure_44 (by decide) ?_
            obtain ⟨σW_17, i_18, e_19, hF⟩ := q_wr_s hF
            refine r_iast (f' := upd (σW_9 0) ((v2_1 * 11) + v3_9).toNatClampNeg (1000 : Int32)) hx hb hK hP hD hS 1 rfl i_18 (fun _ _ => rfl) dX5_measure_47 (fun H locs hP hD hS => ?_)
            have hP : va_P g.1 vwCl (wX5 g qW AW hW (q_up σW_9 0 (upd (σW_9 0) ((v2_1 * 11) + v3_9).toNatClampNeg (1000 : Int32))) ++ wX1 g qC AC σC) H := hP
            have hD : va_D Z (wX5 g qW AW hW (q_up σW_9 0 (upd (σW_9 0) ((v2_1 * 11) + v3_9).toNatClampNeg (1000 : Int32))) ++ wX1 g qC AC σC) := hD
            rw [e_19] at hP hD
            refine lv_iinc (v := v3_9 + 1) (lv' := [(3, .int (v3_9 + 1)), (4, .int r_14), (2, .int v2_1), (0, .ref qW), (1, .ref qC)]) hx hb dX5_measure_48 hl (k := 1) rfl rfl (by decide) rfl (fun ls hl => ?_)
            refine lv_goto (tgt := 10) hx hb dX5_measure_51 (by decide) ?_
            exact ag (v3_9 + 1, σW_17) hF _ _ _ hP hD hS (lv_sub hl [0, 2, 3, 4] rfl)
          · have hF := q_if_f c_16 hF
            refine lv_iload hx hb dX5_measure_39 (lv_at hl 0 rfl) ?_
            refine lv_goto (tgt := 47) hx hb dX5_measure_41 (by decide) ?_
            obtain ⟨σW_20, i_21, e_22, hF⟩ := q_wr_s hF
            refine r_iast (f' := upd (σW_9 0) ((v2_1 * 11) + v3_9).toNatClampNeg r_14) hx hb hK hP hD hS 1 rfl i_21 (fun _ _ => rfl) dX5_measure_47 (fun H locs hP hD hS => ?_)
            have hP : va_P g.1 vwCl (wX5 g qW AW hW (q_up σW_9 0 (upd (σW_9 0) ((v2_1 * 11) + v3_9).toNatClampNeg r_14)) ++ wX1 g qC AC σC) H := hP
            have hD : va_D Z (wX5 g qW AW hW (q_up σW_9 0 (upd (σW_9 0) ((v2_1 * 11) + v3_9).toNatClampNeg r_14)) ++ wX1 g qC AC σC) := hD
            rw [e_22] at hP hD
            refine lv_iinc (v := v3_9 + 1) (lv' := [(3, .int (v3_9 + 1)), (4, .int r_14), (2, .int v2_1), (0, .ref qW), (1, .ref qC)]) hx hb dX5_measure_48 hl (k := 1) rfl rfl (by decide) rfl (fun ls hl => ?_)
            refine lv_goto (tgt := 10) hx hb dX5_measure_51 (by decide) ?_
            exact ag (v3_9 + 1, σW_20) hF _ _ _ hP hD hS (lv_sub hl [0, 2, 3, 4] rfl)
set_option maxHeartbeats 4000000 in
set_option maxRecDepth 100000 in
theorem m_X5_howFar (l : Launch) (g : GT) (sz : Nat) (qW : Nat) (AW : Nat → Nat) (hW : Value) (σW : qS) (a1 : Int32) (a2 : Int32) (rr : Int32) (hF : f_X5_howFar σW a1 a2 = some rr) : Ci l yX5_howFar wsX5_howFar { frames := 2, cells := 0, slots := 0, locals := 42 } g sz [.ref qW, .int a1, .int a2] (wX5 g qW AW hW σW) rr (wX5 g qW AW hW σW) := by
  refine gMet_i (cc := cX5_howFar) (maxL := 4) (ret := (some .int)) (by decide) rfl (Nat.le_of_ble_eq_true rfl) ?_
  intro p e s m args below meth c Z hx hb hr F hlk hnm hK hN hA H locs hP hD hS ls hl
  have hl : lv_has ls 4 [(0, .ref qW), (1, .int a1), (2, .int a2)] := hl
  have F : CallFix p m c cX5_howFar 4 s args wsX5_howFar RX5 := F
  have hts := F.2.2.2.2
  have hown : s.vm.findClass RX5 = some m.cls := F.2.2.2.1
  dsimp only [f_X5_howFar] at hF
  refine lv_aload_n hx hb dX5_howFar_0 rfl (lv_at hl 0 rfl) ?_
  refine lv_iload_n hx hb dX5_howFar_1 rfl (lv_at hl 1 rfl) ?_
  refine lv_iload_n hx hb dX5_howFar_2 rfl (lv_at hl 2 rfl) ?_
  obtain ⟨r_1, h_2, hF⟩ := q_cl_s hF
  refine gcV_i (As := [.int a1, .int a2]) (rest := []) (ci := 5) (q := (RX5, TX5, 3)) F hK hN hP hD hS hA (m_X5_leastWay l g H.size qW AW hW σW a1 a2 r_1 h_2) gX5_howFar_X5_leastWay kX5_leastWay rfl rfl rfl rfl ⟨(Nat.le_of_ble_eq_true rfl), (Nat.le_of_ble_eq_true rfl)⟩ [0, 1, 2] [] rfl rfl rfl (by decide) rfl rfl rfl rfl rfl hl.1 (Nat.le_of_ble_eq_true rfl) dX5_howFar_3 ⟨(Nat.le_of_ble_eq_true rfl), (Nat.le_of_ble_eq_true rfl)⟩ (fun r_w u_w H locs hw hP hD hS => ?_)
  have hP : va_P g.1 vwCl (wX5 g qW AW hW σW) H := hP
  have hD : va_D Z (wX5 g qW AW hW σW) := hD
  obtain rfl : r_1 = r_w := hw.symm
  refine lv_istore_n (lv' := [(3, .int r_1), (0, .ref qW), (1, .int a1), (2, .int a2)]) hx hb dX5_howFar_6 rfl hl (by decide) rfl (fun ls hl => ?_)
  refine lv_iload_n hx hb dX5_howFar_7 rfl (lv_at hl 0 rfl) ?_
  refine lv_sipush (v := 1000) hx hb dX5_howFar_8 (by decide) ?_
  refine lv_icmp_ge (tgt := 18) hx hb dX5_howFar_11 (by decide) (fun c_3 => ?_) (fun c_3 => ?_)
  · have hF := q_if_t c_3 hF
    refine lv_bipush (v := (-6)) hx hb dX5_howFar_18 (by decide) ?_
    cases hF
    exact r_iret hx hb hr hlk hS () rfl hP hD dX5_howFar_20
  · have hF := q_if_f c_3 hF
    refine lv_iload_n hx hb dX5_howFar_14 rfl (lv_at hl 0 rfl) ?_
    refine lv_goto (tgt := 20) hx hb dX5_howFar_15 (by decide) ?_
    cases hF
    exact r_iret hx hb hr hlk hS () rfl hP hD dX5_howFar_20
set_option maxHeartbeats 4000000 in
set_option maxRecDepth 100000 in
theorem m_X5_nextPlace (l : Launch) (g : GT) (sz : Nat) (qW : Nat) (AW : Nat → Nat) (hW : Value) (σW : qS) (qC : Nat) (AC : Nat → Nat) (σC : qS) (a2 : Int32) (a3 : Int32) (rr : Int32) (hF : f_X5_nextPlace σW σC a2 a3 = some rr) : Ci l yX5_nextPlace wsX5_nextPlace { frames := 3, cells := 0, slots := 0, locals := 65 } g sz [.ref qW, .ref qC, .int a2, .int a3] (wX5 g qW AW hW σW ++ wX1 g qC AC σC) rr (wX5 g qW AW hW σW ++ wX1 g qC AC σC) := by
  refine gMet_i (cc := cX5_nextPlace) (maxL := 7) (ret := (some .int)) (by decide) rfl (Nat.le_of_ble_eq_true rfl) ?_
  intro p e s m args below meth c Z hx hb hr F hlk hnm hK hN hA H locs hP hD hS ls hl
  have hl : lv_has ls 7 [(0, .ref qW), (1, .ref qC), (2, .int a2), (3, .int a3)] := hl
  have F : CallFix p m c cX5_nextPlace 7 s args wsX5_nextPlace RX5 := F
  have hts := F.2.2.2.2
  have hown : s.vm.findClass RX5 = some m.cls := F.2.2.2.1
  dsimp only [f_X5_nextPlace] at hF
  refine lv_aload_n hx hb dX5_nextPlace_0 rfl (lv_at hl 0 rfl) ?_
  refine lv_iload_n hx hb dX5_nextPlace_1 rfl (lv_at hl 2 rfl) ?_
  refine lv_iload_n hx hb dX5_nextPlace_2 rfl (lv_at hl 3 rfl) ?_
  obtain ⟨r_1, h_2, hF⟩ := q_cl_s hF
  refine gcV_i (As := [.int a2, .int a3]) (rest := []) (ci := 5) (q := (RX5, TX5, 3)) F hK hN hP hD hS hA (m_X5_howFar l g H.size qW AW hW σW a2 a3 r_1 h_2) gX5_nextPlace_X5_howFar kX5_howFar rfl rfl rfl rfl ⟨(Nat.le_of_ble_eq_true rfl), (Nat.le_of_ble_eq_true rfl)⟩ [0, 1, 2] [3, 4, 5, 6, 7, 8, 9, 10] rfl rfl rfl (by decide) rfl rfl rfl rfl rfl hl.1 (Nat.le_of_ble_eq_true rfl) dX5_nextPlace_3 ⟨(Nat.le_of_ble_eq_true rfl), (Nat.le_of_ble_eq_true rfl)⟩ (fun r_w u_w H locs hw hP hD hS => ?_)
  have hP : va_P g.1 vwCl (wX5 g qW AW hW σW ++ wX1 g qC AC σC) H := hP.sub [8, 9, 10, 0, 1, 2, 3, 4, 5, 6, 7] rfl
  have hD : va_D Z (wX5 g qW AW hW σW ++ wX1 g qC AC σC) := hD.sub [8, 9, 10, 0, 1, 2, 3, 4, 5, 6, 7] (by decide) rfl
  obtain rfl : r_1 = r_w := hw.symm
  refine lv_istore (lv' := [(4, .int r_1), (0, .ref qW), (1, .ref qC), (2, .int a2), (3, .int a3)]) hx hb dX5_nextPlace_6 hl (by decide) rfl (fun ls hl => ?_)
  refine lv_iload hx hb dX5_nextPlace_8 (lv_at hl 0 rfl) ?_
  refine lv_bipush (v := (-6)) hx hb dX5_nextPlace_10 (by decide) ?_
  refine lv_icmp_eq (tgt := 20) hx hb dX5_nextPlace_12 (by decide) (fun c_3 => ?_) (fun c_3 => ?_)
  · have hF := q_if_t c_3 hF
    refine lv_bipush (v := (-6)) hx hb dX5_nextPlace_20 (by decide) ?_
    cases hF
    exact r_iret hx hb hr hlk hS () rfl hP hD dX5_nextPlace_22
  · have hF := q_if_f c_3 hF
    refine lv_iload_n hx hb dX5_nextPlace_15 rfl (lv_at hl 3 rfl) ?_
    refine lv_iload_n hx hb dX5_nextPlace_16 rfl (lv_at hl 4 rfl) ?_
    refine lv_icmp_ne (tgt := 23) hx hb dX5_nextPlace_17 (by decide) (fun c_4 => ?_) (fun c_4 => ?_)
    · have hF := q_if_f c_4 hF
      refine lv_iconst (v := 0) hx hb dX5_nextPlace_23 (by decide) ?_
      refine lv_istore (lv' := [(5, .int 0), (4, .int r_1), (0, .ref qW), (1, .ref qC), (2, .int a2), (3, .int a3)]) hx hb dX5_nextPlace_24 hl (by decide) rfl (fun ls hl => ?_)
      refine q_loop (fun u0 => wX5 g qW AW hW σW ++ wX1 g qC AC σC) (fun u0 => [(5, .int u0), (4, .int r_1), (0, .ref qW), (1, .ref qC), (2, .int a2), (3, .int a3)]) 71 hF ?_ ?_ hP hD hS (lv_sub hl [0, 1, 2, 3, 4, 5] rfl)
      · rintro v5_5 hF H locs ls hP hD hS hl
        try dsimp only at hF
        have hP : va_P g.1 vwCl (wX5 g qW AW hW σW ++ wX1 g qC AC σC) H := hP
        have hD : va_D Z (wX5 g qW AW hW σW ++ wX1 g qC AC σC) := hD
        have hl : lv_has ls 7 [(5, .int v5_5), (4, .int r_1), (0, .ref qW), (1, .ref qC), (2, .int a2), (3, .int a3)] := hl
        refine lv_bipush (v := (-6)) hx hb dX5_nextPlace_71 (by decide) ?_
        cases hF
        exact r_iret hx hb hr hlk hS () rfl hP hD dX5_nextPlace_73
      · rintro k again kk ag v5_5 hF H locs ls hP hD hS hl
        dsimp only [b_X5_nextPlace_26] at hF
        have hP : va_P g.1 vwCl (wX5 g qW AW hW σW ++ wX1 g qC AC σC) H := hP
        have hD : va_D Z (wX5 g qW AW hW σW ++ wX1 g qC AC σC) := hD
        have hl : lv_has ls 7 [(5, .int v5_5), (4, .int r_1), (0, .ref qW), (1, .ref qC), (2, .int a2), (3, .int a3)] := hl
        refine lv_iload hx hb dX5_nextPlace_26 (lv_at hl 0 rfl) ?_
        refine lv_bipush (v := 11) hx hb dX5_nextPlace_28 (by decide) ?_
        refine lv_icmp_ge (tgt := 71) hx hb dX5_nextPlace_30 (by decide) (fun c_6 => ?_) (fun c_6 => ?_)
        · have hF := q_if_t c_6 hF
          exact kk v5_5 hF _ _ _ hP hD hS (lv_sub hl [0, 1, 2, 3, 4, 5] rfl)
        · have hF := q_if_f c_6 hF
          refine lv_aload_n hx hb dX5_nextPlace_33 rfl (lv_at hl 3 rfl) ?_
          refine lv_iload_n hx hb dX5_nextPlace_34 rfl (lv_at hl 4 rfl) ?_
          refine lv_iload hx hb dX5_nextPlace_35 (lv_at hl 0 rfl) ?_
          obtain ⟨r_7, h_8, hF⟩ := q_cl_s hF
          refine gcV_i (As := [.int a2, .int v5_5]) (rest := []) (ci := 1) (q := (RX1, TX1, 12)) F hK hN hP hD hS hA (m_X1_longBetween l g H.size qC AC σC a2 v5_5 r_7 h_8) gX5_nextPlace_X1_longBetween kX1_longBetween rfl rfl rfl rfl ⟨(Nat.le_of_ble_eq_true rfl), (Nat.le_of_ble_eq_true rfl)⟩ [3, 4, 5, 6, 7, 8, 9, 10] [0, 1, 2] rfl rfl rfl (by decide) rfl rfl rfl rfl rfl hl.1 (Nat.le_of_ble_eq_true rfl) dX5_nextPlace_37 ⟨(Nat.le_of_ble_eq_true rfl), (Nat.le_of_ble_eq_true rfl)⟩ (fun r_w u_w H locs hw hP hD hS => ?_)
          have hP : va_P g.1 vwCl (wX5 g qW AW hW σW ++ wX1 g qC AC σC) H := hP
          have hD : va_D Z (wX5 g qW AW hW σW ++ wX1 g qC AC σC) := hD
          obtain rfl : r_7 = r_w := hw.symm
          refine lv_istore (lv' := [(6, .int r_7), (5, .int v5_5), (4, .int r_1), (0, .ref qW), (1, .ref qC), (2, .int a2), (3, .int a3)]) hx hb dX5_nextPlace_40 hl (by decide) rfl (fun ls hl => ?_)
          refine lv_iload hx hb dX5_nextPlace_42 (lv_at hl 0 rfl) ?_
          refine lv_if_le (tgt := 65) hx hb dX5_nextPlace_44 (by decide) (fun c_9 => ?_) (fun c_9 => ?_)
          · have hF := q_if_t c_9 hF
            refine lv_iinc (v := v5_5 + 1) (lv' := [(5, .int (v5_5 + 1)), (6, .int r_7), (4, .int r_1), (0, .ref qW), (1, .ref qC), (2, .int a2), (3, .int a3)]) hx hb dX5_nextPlace_65 hl (k := 1) rfl rfl (by decide) rfl (fun ls hl => ?_)
            refine lv_goto (tgt := 26) hx hb dX5_nextPlace_68 (by decide) ?_
            exact ag (v5_5 + 1) hF _ _ _ hP hD hS (lv_sub hl [0, 2, 3, 4, 5, 6] rfl)
          · have hF := q_if_f c_9 hF
            refine lv_iload hx hb dX5_nextPlace_47 (lv_at hl 0 rfl) ?_
            refine lv_aload_n hx hb dX5_nextPlace_49 rfl (lv_at hl 3 rfl) ?_
            refine lv_iload hx hb dX5_nextPlace_50 (lv_at hl 1 rfl) ?_
            refine lv_iload_n hx hb dX5_nextPlace_52 rfl (lv_at hl 6 rfl) ?_
            obtain ⟨r_10, h_11, hF⟩ := q_cl_s hF
            refine gcV_i (As := [.int v5_5, .int a3]) (rest := [.int r_7]) (ci := 5) (q := (RX5, TX5, 3)) F hK hN hP hD hS hA (m_X5_leastWay l g H.size qW AW hW σW v5_5 a3 r_10 h_11) gX5_nextPlace_X5_leastWay kX5_leastWay rfl rfl rfl rfl ⟨(Nat.le_of_ble_eq_true rfl), (Nat.le_of_ble_eq_true rfl)⟩ [0, 1, 2] [3, 4, 5, 6, 7, 8, 9, 10] rfl rfl rfl (by decide) rfl rfl rfl rfl rfl hl.1 (Nat.le_of_ble_eq_true rfl) dX5_nextPlace_53 ⟨(Nat.le_of_ble_eq_true rfl), (Nat.le_of_ble_eq_true rfl)⟩ (fun r_w u_w H locs hw hP hD hS => ?_)
            have hP : va_P g.1 vwCl (wX5 g qW AW hW σW ++ wX1 g qC AC σC) H := hP.sub [8, 9, 10, 0, 1, 2, 3, 4, 5, 6, 7] rfl
            have hD : va_D Z (wX5 g qW AW hW σW ++ wX1 g qC AC σC) := hD.sub [8, 9, 10, 0, 1, 2, 3, 4, 5, 6, 7] (by decide) rfl
            obtain rfl : r_10 = r_w := hw.symm
            refine lv_iadd hx hb dX5_nextPlace_56 ?_
            refine lv_iload hx hb dX5_nextPlace_57 (lv_at hl 2 rfl) ?_
            refine lv_icmp_ne (tgt := 65) hx hb dX5_nextPlace_59 (by decide) (fun c_12 => ?_) (fun c_12 => ?_)
            · have hF := q_if_f c_12 hF
              refine lv_iinc (v := v5_5 + 1) (lv' := [(5, .int (v5_5 + 1)), (6, .int r_7), (4, .int r_1), (0, .ref qW), (1, .ref qC), (2, .int a2), (3, .int a3)]) hx hb dX5_nextPlace_65 hl (k := 1) rfl rfl (by decide) rfl (fun ls hl => ?_)
              refine lv_goto (tgt := 26) hx hb dX5_nextPlace_68 (by decide) ?_
              exact ag (v5_5 + 1) hF _ _ _ hP hD hS (lv_sub hl [0, 2, 3, 4, 5, 6] rfl)
            · have hF := q_if_t (by first | exact c_12 | exact Classical.not_not.mp c_12) hF
              refine lv_iload hx hb dX5_nextPlace_62 (lv_at hl 1 rfl) ?_
              cases hF
              exact r_iret hx hb hr hlk hS () rfl hP hD dX5_nextPlace_64
    · have hF := q_if_t (by first | exact c_4 | exact Classical.not_not.mp c_4) hF
      refine lv_bipush (v := (-6)) hx hb dX5_nextPlace_20 (by decide) ?_
      cases hF
      exact r_iret hx hb hr hlk hS () rfl hP hD dX5_nextPlace_22
set_option maxHeartbeats 4000000 in
set_option maxRecDepth 100000 in
theorem m_X5_findNeighbours (l : Launch) (g : GT) (sz : Nat) (qW : Nat) (AW : Nat → Nat) (hW : Value) (σW : qS) (qC : Nat) (AC : Nat → Nat) (σC : qS) (σW' : qS) (hF : f_X5_findNeighbours σW σC = some σW') : Cv l yX5_findNeighbours wsX5_findNeighbours { frames := 2, cells := 0, slots := 0, locals := 42 } g sz [.ref qW, .ref qC] (wX5 g qW AW hW σW ++ wX1 g qC AC σC) (wX5 g qW AW hW σW' ++ wX1 g qC AC σC) := by
  refine gMet_v (cc := cX5_findNeighbours) (maxL := 5) (ret := none) (by decide) rfl (Nat.le_of_ble_eq_true rfl) ?_
  intro p e s m args below meth c Z hx hb hr F hlk hnm hK hN hA H locs hP hD hS ls hl
  have hl : lv_has ls 5 [(0, .ref qW), (1, .ref qC)] := hl
  have F : CallFix p m c cX5_findNeighbours 5 s args wsX5_findNeighbours RX5 := F
  have hts := F.2.2.2.2
  have hown : s.vm.findClass RX5 = some m.cls := F.2.2.2.1
  have hi5 : ∀ w ∈ u_ws RX5 TX5 3, w ∈ wsX5_findNeighbours := by decide +kernel
  dsimp only [f_X5_findNeighbours] at hF
  refine lv_iconst (v := 0) hx hb dX5_findNeighbours_0 (by decide) ?_
  refine lv_istore_n (lv' := [(2, .int 0), (0, .ref qW), (1, .ref qC)]) hx hb dX5_findNeighbours_1 rfl hl (by decide) rfl (fun ls hl => ?_)
  refine q_loop (fun u0 => wX5 g qW AW hW u0.2 ++ wX1 g qC AC σC) (fun u0 => [(2, .int u0.1), (0, .ref qW), (1, .ref qC)]) 56 hF ?_ ?_ hP hD hS (lv_sub hl [0, 1, 2] rfl)
  · rintro ⟨v2_1, σW_1⟩ hF H locs ls hP hD hS hl
    try dsimp only at hF
    have hP : va_P g.1 vwCl (wX5 g qW AW hW σW_1 ++ wX1 g qC AC σC) H := hP
    have hD : va_D Z (wX5 g qW AW hW σW_1 ++ wX1 g qC AC σC) := hD
    have hl : lv_has ls 5 [(2, .int v2_1), (0, .ref qW), (1, .ref qC)] := hl
    cases hF
    exact r_vret hx hb hr hlk hS () trivial hP hD dX5_findNeighbours_56
  · rintro k again kk ag ⟨v2_1, σW_1⟩ hF H locs ls hP hD hS hl
    dsimp only [b_X5_findNeighbours_2] at hF
    have hP : va_P g.1 vwCl (wX5 g qW AW hW σW_1 ++ wX1 g qC AC σC) H := hP
    have hD : va_D Z (wX5 g qW AW hW σW_1 ++ wX1 g qC AC σC) := hD
    have hl : lv_has ls 5 [(2, .int v2_1), (0, .ref qW), (1, .ref qC)] := hl
    refine lv_iload_n hx hb dX5_findNeighbours_2 rfl (lv_at hl 0 rfl) ?_
    refine lv_bipush (v := 11) hx hb dX5_findNeighbours_3 (by decide) ?_
    refine lv_icmp_ge (tgt := 56) hx hb dX5_findNeighbours_5 (by decide) (fun c_2 => ?_) (fun c_2 => ?_)
    · have hF := q_if_t c_2 hF
      exact kk (v2_1, σW_1) hF _ _ _ hP hD hS (lv_sub hl [0, 1, 2] rfl)
    · have hF := q_if_f c_2 hF
      refine lv_iconst (v := 0) hx hb dX5_findNeighbours_8 (by decide) ?_
      refine lv_istore_n (lv' := [(3, .int 0), (2, .int v2_1), (0, .ref qW), (1, .ref qC)]) hx hb dX5_findNeighbours_9 rfl hl (by decide) rfl (fun ls hl => ?_)
      refine lv_iconst (v := 0) hx hb dX5_findNeighbours_10 (by decide) ?_
      refine lv_istore (lv' := [(4, .int 0), (3, .int 0), (2, .int v2_1), (0, .ref qW), (1, .ref qC)]) hx hb dX5_findNeighbours_11 hl (by decide) rfl (fun ls hl => ?_)
      refine q_loop (fun u0 => wX5 g qW AW hW σW_1 ++ wX1 g qC AC σC) (fun u0 => [(4, .int u0.1), (3, .int u0.2), (2, .int v2_1), (0, .ref qW), (1, .ref qC)]) 43 hF ?_ ?_ hP hD hS (lv_sub hl [0, 1, 2, 3, 4] rfl)
      · rintro ⟨v4_3, v3_3⟩ hF H locs ls hP hD hS hl
        try dsimp only at hF
        have hP : va_P g.1 vwCl (wX5 g qW AW hW σW_1 ++ wX1 g qC AC σC) H := hP
        have hD : va_D Z (wX5 g qW AW hW σW_1 ++ wX1 g qC AC σC) := hD
        have hl : lv_has ls 5 [(4, .int v4_3), (3, .int v3_3), (2, .int v2_1), (0, .ref qW), (1, .ref qC)] := hl
        refine lv_aload_n hx hb dX5_findNeighbours_43 rfl (lv_at hl 3 rfl) ?_
        refine va_get (D := g.1) (ci := 5) (v := .ref (AW 1)) (C := RX5) (T := TX5) (N := 3) hx hb hts hi5 hown hK hP 0 rfl rfl 1 (by decide) (hts (.fieldLink RX5 15 "PanTales$Ways" "neighbours" "[I") (by decide +kernel)) (fun _ h9 => h9) rfl dX5_findNeighbours_44 ?_
        refine lv_iload_n hx hb dX5_findNeighbours_47 rfl (lv_at hl 2 rfl) ?_
        refine lv_iload_n hx hb dX5_findNeighbours_48 rfl (lv_at hl 1 rfl) ?_
        obtain ⟨σW_4, i_5, e_6, hF⟩ := q_wr_s hF
        refine r_iast (f' := upd (σW_1 1) v2_1.toNatClampNeg v3_3) hx hb hK hP hD hS 2 rfl i_5 (fun _ _ => rfl) dX5_findNeighbours_49 (fun H locs hP hD hS => ?_)
        have hP : va_P g.1 vwCl (wX5 g qW AW hW (q_up σW_1 1 (upd (σW_1 1) v2_1.toNatClampNeg v3_3)) ++ wX1 g qC AC σC) H := hP
        have hD : va_D Z (wX5 g qW AW hW (q_up σW_1 1 (upd (σW_1 1) v2_1.toNatClampNeg v3_3)) ++ wX1 g qC AC σC) := hD
        rw [e_6] at hP hD
        refine lv_iinc (v := v2_1 + 1) (lv' := [(2, .int (v2_1 + 1)), (4, .int v4_3), (3, .int v3_3), (0, .ref qW), (1, .ref qC)]) hx hb dX5_findNeighbours_50 hl (k := 2) rfl rfl (by decide) rfl (fun ls hl => ?_)
        refine lv_goto (tgt := 2) hx hb dX5_findNeighbours_53 (by decide) ?_
        exact ag (v2_1 + 1, σW_4) hF _ _ _ hP hD hS (lv_sub hl [0, 3, 4] rfl)
      · rintro k again kk ag ⟨v4_3, v3_3⟩ hF H locs ls hP hD hS hl
        dsimp only [b_X5_findNeighbours_13] at hF
        have hP : va_P g.1 vwCl (wX5 g qW AW hW σW_1 ++ wX1 g qC AC σC) H := hP
        have hD : va_D Z (wX5 g qW AW hW σW_1 ++ wX1 g qC AC σC) := hD
        have hl : lv_has ls 5 [(4, .int v4_3), (3, .int v3_3), (2, .int v2_1), (0, .ref qW), (1, .ref qC)] := hl
        refine lv_iload hx hb dX5_findNeighbours_13 (lv_at hl 0 rfl) ?_
        refine lv_bipush (v := 11) hx hb dX5_findNeighbours_15 (by decide) ?_
        refine lv_icmp_ge (tgt := 43) hx hb dX5_findNeighbours_17 (by decide) (fun c_7 => ?_) (fun c_7 => ?_)
        · have hF := q_if_t c_7 hF
          exact kk (v4_3, v3_3) hF _ _ _ hP hD hS (lv_sub hl [0, 1, 2, 3, 4] rfl)
        · have hF := q_if_f c_7 hF
          refine lv_aload_n hx hb dX5_findNeighbours_20 rfl (lv_at hl 4 rfl) ?_
          refine lv_iload_n hx hb dX5_findNeighbours_21 rfl (lv_at hl 2 rfl) ?_
          refine lv_iload hx hb dX5_findNeighbours_22 (lv_at hl 0 rfl) ?_
          obtain ⟨r_8, h_9, hF⟩ := q_cl_s hF
          refine gcV_i (As := [.int v2_1, .int v4_3]) (rest := []) (ci := 1) (q := (RX1, TX1, 12)) F hK hN hP hD hS hA (m_X1_longBetween l g H.size qC AC σC v2_1 v4_3 r_8 h_9) gX5_findNeighbours_X1_longBetween kX1_longBetween rfl rfl rfl rfl ⟨(Nat.le_of_ble_eq_true rfl), (Nat.le_of_ble_eq_true rfl)⟩ [3, 4, 5, 6, 7, 8, 9, 10] [0, 1, 2] rfl rfl rfl (by decide) rfl rfl rfl rfl rfl hl.1 (Nat.le_of_ble_eq_true rfl) dX5_findNeighbours_24 ⟨(Nat.le_of_ble_eq_true rfl), (Nat.le_of_ble_eq_true rfl)⟩ (fun r_w u_w H locs hw hP hD hS => ?_)
          have hP : va_P g.1 vwCl (wX5 g qW AW hW σW_1 ++ wX1 g qC AC σC) H := hP
          have hD : va_D Z (wX5 g qW AW hW σW_1 ++ wX1 g qC AC σC) := hD
          obtain rfl : r_8 = r_w := hw.symm
          refine lv_if_le (tgt := 37) hx hb dX5_findNeighbours_27 (by decide) (fun c_10 => ?_) (fun c_10 => ?_)
          · have hF := q_if_t c_10 hF
            refine lv_iinc (v := v4_3 + 1) (lv' := [(4, .int (v4_3 + 1)), (3, .int v3_3), (2, .int v2_1), (0, .ref qW), (1, .ref qC)]) hx hb dX5_findNeighbours_37 hl (k := 0) rfl rfl (by decide) rfl (fun ls hl => ?_)
            refine lv_goto (tgt := 13) hx hb dX5_findNeighbours_40 (by decide) ?_
            exact ag (v4_3 + 1, v3_3) hF _ _ _ hP hD hS (lv_sub hl [0, 1, 2, 3, 4] rfl)
          · have hF := q_if_f c_10 hF
            refine lv_iload_n hx hb dX5_findNeighbours_30 rfl (lv_at hl 1 rfl) ?_
            refine lv_iconst (v := 1) hx hb dX5_findNeighbours_31 (by decide) ?_
            refine lv_iload hx hb dX5_findNeighbours_32 (lv_at hl 0 rfl) ?_
            refine lv_ishl hx hb dX5_findNeighbours_34 ?_
            refine lv_ior hx hb dX5_findNeighbours_35 ?_
            obtain ⟨v3_11, e_12, hF⟩ := q_bd_s hF
            refine gtop e_12 ?_
            refine lv_istore_n (lv' := [(3, .int v3_11), (4, .int v4_3), (2, .int v2_1), (0, .ref qW), (1, .ref qC)]) hx hb dX5_findNeighbours_36 rfl hl (by decide) rfl (fun ls hl => ?_)
            refine lv_iinc (v := v4_3 + 1) (lv' := [(4, .int (v4_3 + 1)), (3, .int v3_11), (2, .int v2_1), (0, .ref qW), (1, .ref qC)]) hx hb dX5_findNeighbours_37 hl (k := 1) rfl rfl (by decide) rfl (fun ls hl => ?_)
            refine lv_goto (tgt := 13) hx hb dX5_findNeighbours_40 (by decide) ?_
            exact ag (v4_3 + 1, v3_11) hF _ _ _ hP hD hS (lv_sub hl [0, 1, 2, 3, 4] rfl)
set_option maxHeartbeats 4000000 in
set_option maxRecDepth 100000 in
theorem m_X5_leadsTo (l : Launch) (g : GT) (sz : Nat) (qW : Nat) (AW : Nat → Nat) (hW : Value) (σW : qS) (a1 : Int32) (a2 : Int32) (rr : Int32) (hF : f_X5_leadsTo σW a1 a2 = some rr) : Ci l yX5_leadsTo wsX5_leadsTo { frames := 1, cells := 0, slots := 0, locals := 21 } g sz [.ref qW, .int a1, .int a2] (wX5 g qW AW hW σW) rr (wX5 g qW AW hW σW) := by
  refine gMet_i (cc := cX5_leadsTo) (maxL := 7) (ret := (some .boolean)) (by decide) rfl (Nat.le_of_ble_eq_true rfl) ?_
  intro p e s m args below meth c Z hx hb hr F hlk hnm hK hN hA H locs hP hD hS ls hl
  have hl : lv_has ls 7 [(0, .ref qW), (1, .int a1), (2, .int a2)] := hl
  have F : CallFix p m c cX5_leadsTo 7 s args wsX5_leadsTo RX5 := F
  have hts := F.2.2.2.2
  have hown : s.vm.findClass RX5 = some m.cls := F.2.2.2.1
  have hi5 : ∀ w ∈ u_ws RX5 TX5 3, w ∈ wsX5_leadsTo := by decide +kernel
  dsimp only [f_X5_leadsTo] at hF
  refine lv_sipush (v := 1024) hx hb dX5_leadsTo_0 (by decide) ?_
  refine lv_istore_n (lv' := [(3, .int 1024), (0, .ref qW), (1, .int a1), (2, .int a2)]) hx hb dX5_leadsTo_3 rfl hl (by decide) rfl (fun ls hl => ?_)
  refine lv_iconst (v := 0) hx hb dX5_leadsTo_4 (by decide) ?_
  refine lv_istore (lv' := [(4, .int 0), (3, .int 1024), (0, .ref qW), (1, .int a1), (2, .int a2)]) hx hb dX5_leadsTo_5 hl (by decide) rfl (fun ls hl => ?_)
  refine q_loop (fun u0 => wX5 g qW AW hW σW) (fun u0 => [(4, .int u0.1), (3, .int u0.2), (0, .ref qW), (1, .int a1), (2, .int a2)]) 75 hF ?_ ?_ hP hD hS (lv_sub hl [0, 1, 2, 3, 4] rfl)
  · rintro ⟨v4_1, v3_1⟩ hF H locs ls hP hD hS hl
    try dsimp only at hF
    have hP : va_P g.1 vwCl (wX5 g qW AW hW σW) H := hP
    have hD : va_D Z (wX5 g qW AW hW σW) := hD
    have hl : lv_has ls 7 [(4, .int v4_1), (3, .int v3_1), (0, .ref qW), (1, .int a1), (2, .int a2)] := hl
    refine lv_iload_n hx hb dX5_leadsTo_75 rfl (lv_at hl 3 rfl) ?_
    refine lv_iload_n hx hb dX5_leadsTo_76 rfl (lv_at hl 1 rfl) ?_
    obtain ⟨r_2, h_3, hF⟩ := q_cl_s hF
    refine gcPN (As := [.int a1, .int v3_1]) (rest := []) F (m_X6_isIn l a1 v3_1 r_2 h_3) gX5_leadsTo_X6_isIn_n68 kX6_isIn (hts (.initialized RX6) (by decide +kernel)) (hN.get 12 rfl) (hts (.static yX6_isIn) (by decide +kernel)) rfl rfl rfl ⟨(Nat.le_of_ble_eq_true rfl), (Nat.le_of_ble_eq_true rfl)⟩ rfl rfl hl.1 (Nat.le_of_ble_eq_true rfl) dX5_leadsTo_77 ⟨(Nat.le_of_ble_eq_true rfl), (Nat.le_of_ble_eq_true rfl)⟩ ?_
    obtain ⟨b_4, hF⟩ := q_chk_s hF
    cases hF
    exact r_zret hx hb hr hlk hS () (q_isB_nar b_4) rfl hP hD dX5_leadsTo_80
  · rintro k again kk ag ⟨v4_1, v3_1⟩ hF H locs ls hP hD hS hl
    dsimp only [b_X5_leadsTo_7] at hF
    have hP : va_P g.1 vwCl (wX5 g qW AW hW σW) H := hP
    have hD : va_D Z (wX5 g qW AW hW σW) := hD
    have hl : lv_has ls 7 [(4, .int v4_1), (3, .int v3_1), (0, .ref qW), (1, .int a1), (2, .int a2)] := hl
    refine lv_iload hx hb dX5_leadsTo_7 (lv_at hl 0 rfl) ?_
    refine lv_bipush (v := 11) hx hb dX5_leadsTo_9 (by decide) ?_
    refine lv_icmp_ge (tgt := 75) hx hb dX5_leadsTo_11 (by decide) (fun c_5 => ?_) (fun c_5 => ?_)
    · have hF := q_if_t c_5 hF
      exact kk (v4_1, v3_1) hF _ _ _ hP hD hS (lv_sub hl [0, 1, 2, 3, 4] rfl)
    · have hF := q_if_f c_5 hF
      refine lv_iload_n hx hb dX5_leadsTo_14 rfl (lv_at hl 3 rfl) ?_
      refine lv_iload_n hx hb dX5_leadsTo_15 rfl (lv_at hl 1 rfl) ?_
      obtain ⟨r_6, h_7, hF⟩ := q_cl_s hF
      refine gcPN (As := [.int a1, .int v3_1]) (rest := []) F (m_X6_isIn l a1 v3_1 r_6 h_7) gX5_leadsTo_X6_isIn_n68 kX6_isIn (hts (.initialized RX6) (by decide +kernel)) (hN.get 12 rfl) (hts (.static yX6_isIn) (by decide +kernel)) rfl rfl rfl ⟨(Nat.le_of_ble_eq_true rfl), (Nat.le_of_ble_eq_true rfl)⟩ rfl rfl hl.1 (Nat.le_of_ble_eq_true rfl) dX5_leadsTo_16 ⟨(Nat.le_of_ble_eq_true rfl), (Nat.le_of_ble_eq_true rfl)⟩ ?_
      refine lv_if_ne (tgt := 75) hx hb dX5_leadsTo_19 (by decide) (fun c_8 => ?_) (fun c_8 => ?_)
      · have hF := q_if_f c_8 hF
        exact kk (v4_1, v3_1) hF _ _ _ hP hD hS (lv_sub hl [0, 1, 2, 3, 4] rfl)
      · have hF := q_if_t (by first | exact c_8 | exact Classical.not_not.mp c_8) hF
        refine lv_iload_n hx hb dX5_leadsTo_22 rfl (lv_at hl 1 rfl) ?_
        refine lv_istore (lv' := [(5, .int v3_1), (4, .int v4_1), (3, .int v3_1), (0, .ref qW), (1, .int a1), (2, .int a2)]) hx hb dX5_leadsTo_23 hl (by decide) rfl (fun ls hl => ?_)
        refine lv_iconst (v := 0) hx hb dX5_leadsTo_25 (by decide) ?_
        refine lv_istore (lv' := [(6, .int 0), (5, .int v3_1), (4, .int v4_1), (3, .int v3_1), (0, .ref qW), (1, .int a1), (2, .int a2)]) hx hb dX5_leadsTo_26 hl (by decide) rfl (fun ls hl => ?_)
        refine q_loop (fun u0 => wX5 g qW AW hW σW) (fun u0 => [(6, .int u0.1), (5, .int u0.2), (4, .int v4_1), (3, .int v3_1), (0, .ref qW), (1, .int a1), (2, .int a2)]) 66 hF ?_ ?_ hP hD hS (lv_sub hl [0, 1, 2, 3, 4, 5, 6] rfl)
        · rintro ⟨v6_9, v5_9⟩ hF H locs ls hP hD hS hl
          try dsimp only at hF
          have hP : va_P g.1 vwCl (wX5 g qW AW hW σW) H := hP
          have hD : va_D Z (wX5 g qW AW hW σW) := hD
          have hl : lv_has ls 7 [(6, .int v6_9), (5, .int v5_9), (4, .int v4_1), (3, .int v3_1), (0, .ref qW), (1, .int a1), (2, .int a2)] := hl
          refine lv_iload hx hb dX5_leadsTo_66 (lv_at hl 1 rfl) ?_
          refine lv_istore_n (lv' := [(3, .int v5_9), (6, .int v6_9), (5, .int v5_9), (4, .int v4_1), (0, .ref qW), (1, .int a1), (2, .int a2)]) hx hb dX5_leadsTo_68 rfl hl (by decide) rfl (fun ls hl => ?_)
          refine lv_iinc (v := v4_1 + 1) (lv' := [(4, .int (v4_1 + 1)), (3, .int v5_9), (6, .int v6_9), (5, .int v5_9), (0, .ref qW), (1, .int a1), (2, .int a2)]) hx hb dX5_leadsTo_69 hl (k := 3) rfl rfl (by decide) rfl (fun ls hl => ?_)
          refine lv_goto (tgt := 7) hx hb dX5_leadsTo_72 (by decide) ?_
          exact ag (v4_1 + 1, v5_9) hF _ _ _ hP hD hS (lv_sub hl [0, 1, 4, 5, 6] rfl)
        · rintro k again kk ag ⟨v6_9, v5_9⟩ hF H locs ls hP hD hS hl
          dsimp only [b_X5_leadsTo_28] at hF
          have hP : va_P g.1 vwCl (wX5 g qW AW hW σW) H := hP
          have hD : va_D Z (wX5 g qW AW hW σW) := hD
          have hl : lv_has ls 7 [(6, .int v6_9), (5, .int v5_9), (4, .int v4_1), (3, .int v3_1), (0, .ref qW), (1, .int a1), (2, .int a2)] := hl
          refine lv_iload hx hb dX5_leadsTo_28 (lv_at hl 0 rfl) ?_
          refine lv_bipush (v := 11) hx hb dX5_leadsTo_30 (by decide) ?_
          refine lv_icmp_ge (tgt := 66) hx hb dX5_leadsTo_32 (by decide) (fun c_10 => ?_) (fun c_10 => ?_)
          · have hF := q_if_t c_10 hF
            exact kk (v6_9, v5_9) hF _ _ _ hP hD hS (lv_sub hl [0, 1, 2, 3, 4, 5, 6] rfl)
          · have hF := q_if_f c_10 hF
            refine lv_iload hx hb dX5_leadsTo_35 (lv_at hl 0 rfl) ?_
            refine lv_iload_n hx hb dX5_leadsTo_37 rfl (lv_at hl 3 rfl) ?_
            obtain ⟨r_11, h_12, hF⟩ := q_cl_s hF
            refine gcPN (As := [.int v6_9, .int v3_1]) (rest := []) F (m_X6_isIn l v6_9 v3_1 r_11 h_12) gX5_leadsTo_X6_isIn_n68 kX6_isIn (hts (.initialized RX6) (by decide +kernel)) (hN.get 12 rfl) (hts (.static yX6_isIn) (by decide +kernel)) rfl rfl rfl ⟨(Nat.le_of_ble_eq_true rfl), (Nat.le_of_ble_eq_true rfl)⟩ rfl rfl hl.1 (Nat.le_of_ble_eq_true rfl) dX5_leadsTo_38 ⟨(Nat.le_of_ble_eq_true rfl), (Nat.le_of_ble_eq_true rfl)⟩ ?_
            refine lv_if_eq (tgt := 60) hx hb dX5_leadsTo_41 (by decide) (fun c_13 => ?_) (fun c_13 => ?_)
            · have hF := q_if_t c_13 hF
              refine lv_iinc (v := v6_9 + 1) (lv' := [(6, .int (v6_9 + 1)), (5, .int v5_9), (4, .int v4_1), (3, .int v3_1), (0, .ref qW), (1, .int a1), (2, .int a2)]) hx hb dX5_leadsTo_60 hl (k := 0) rfl rfl (by decide) rfl (fun ls hl => ?_)
              refine lv_goto (tgt := 28) hx hb dX5_leadsTo_63 (by decide) ?_
              exact ag (v6_9 + 1, v5_9) hF _ _ _ hP hD hS (lv_sub hl [0, 1, 2, 3, 4, 5, 6] rfl)
            · have hF := q_if_f c_13 hF
              refine lv_iload hx hb dX5_leadsTo_44 (lv_at hl 1 rfl) ?_
              refine lv_aload_n hx hb dX5_leadsTo_46 rfl (lv_at hl 4 rfl) ?_
              refine va_get (D := g.1) (ci := 5) (v := .ref (AW 1)) (C := RX5) (T := TX5) (N := 3) hx hb hts hi5 hown hK hP 0 rfl rfl 1 (by decide) (hts (.fieldLink RX5 15 "PanTales$Ways" "neighbours" "[I") (by decide +kernel)) (fun _ h9 => h9) rfl dX5_leadsTo_47 ?_
              refine lv_iload hx hb dX5_leadsTo_50 (lv_at hl 0 rfl) ?_
              obtain ⟨r_14, i_15, e_16, hF⟩ := q_rd_s hF
              refine r_iald (v := r_14) hx hb hK hP 2 rfl i_15 e_16 dX5_leadsTo_52 ?_
              refine lv_iload_n hx hb dX5_leadsTo_53 rfl (lv_at hl 6 rfl) ?_
              refine lv_iconst (v := (-1)) hx hb dX5_leadsTo_54 (by decide) ?_
              refine lv_ixor hx hb dX5_leadsTo_55 ?_
              refine lv_iand hx hb dX5_leadsTo_56 ?_
              refine lv_ior hx hb dX5_leadsTo_57 ?_
              obtain ⟨v5_17, e_18, hF⟩ := q_bd_s hF
              refine gtop e_18 ?_
              refine lv_istore (lv' := [(5, .int v5_17), (6, .int v6_9), (4, .int v4_1), (3, .int v3_1), (0, .ref qW), (1, .int a1), (2, .int a2)]) hx hb dX5_leadsTo_58 hl (by decide) rfl (fun ls hl => ?_)
              refine lv_iinc (v := v6_9 + 1) (lv' := [(6, .int (v6_9 + 1)), (5, .int v5_17), (4, .int v4_1), (3, .int v3_1), (0, .ref qW), (1, .int a1), (2, .int a2)]) hx hb dX5_leadsTo_60 hl (k := 1) rfl rfl (by decide) rfl (fun ls hl => ?_)
              refine lv_goto (tgt := 28) hx hb dX5_leadsTo_63 (by decide) ?_
              exact ag (v6_9 + 1, v5_17) hF _ _ _ hP hD hS (lv_sub hl [0, 1, 2, 3, 4, 5, 6] rfl)
set_option maxHeartbeats 4000000 in
set_option maxRecDepth 100000 in
theorem m_X5_fewestDamp (l : Launch) (g : GT) (sz : Nat) (qW : Nat) (AW : Nat → Nat) (hW : Value) (σW : qS) (qC : Nat) (AC : Nat → Nat) (σC : qS) (a2 : Int32) (rr : Int32) (σW' : qS) (hF : f_X5_fewestDamp σW σC a2 = some (rr, σW')) : Ci l yX5_fewestDamp wsX5_fewestDamp { frames := 3, cells := 0, slots := 0, locals := 66 } g sz [.ref qW, .ref qC, .int a2] (wX5 g qW AW hW σW ++ wX1 g qC AC σC) rr (wX5 g qW AW hW σW' ++ wX1 g qC AC σC) := by
  refine gMet_i (cc := cX5_fewestDamp) (maxL := 6) (ret := (some .int)) (by decide) rfl (Nat.le_of_ble_eq_true rfl) ?_
  intro p e s m args below meth c Z hx hb hr F hlk hnm hK hN hA H locs hP hD hS ls hl
  have hl : lv_has ls 6 [(0, .ref qW), (1, .ref qC), (2, .int a2)] := hl
  have F : CallFix p m c cX5_fewestDamp 6 s args wsX5_fewestDamp RX5 := F
  have hts := F.2.2.2.2
  have hown : s.vm.findClass RX5 = some m.cls := F.2.2.2.1
  dsimp only [f_X5_fewestDamp] at hF
  refine lv_aload_n hx hb dX5_fewestDamp_0 rfl (lv_at hl 1 rfl) ?_
  refine lv_bipush (v := 10) hx hb dX5_fewestDamp_1 (by decide) ?_
  refine lv_iload_n hx hb dX5_fewestDamp_3 rfl (lv_at hl 2 rfl) ?_
  obtain ⟨r_1, h_2, hF⟩ := q_cl_s hF
  refine gcV_i (As := [.int 10, .int a2]) (rest := []) (ci := 1) (q := (RX1, TX1, 12)) F hK hN hP hD hS hA (m_X1_longBetween l g H.size qC AC σC (10 : Int32) a2 r_1 h_2) gX5_fewestDamp_X1_longBetween kX1_longBetween rfl rfl rfl rfl ⟨(Nat.le_of_ble_eq_true rfl), (Nat.le_of_ble_eq_true rfl)⟩ [3, 4, 5, 6, 7, 8, 9, 10] [0, 1, 2] rfl rfl rfl (by decide) rfl rfl rfl rfl rfl hl.1 (Nat.le_of_ble_eq_true rfl) dX5_fewestDamp_4 ⟨(Nat.le_of_ble_eq_true rfl), (Nat.le_of_ble_eq_true rfl)⟩ (fun r_w u_w H locs hw hP hD hS => ?_)
  have hP : va_P g.1 vwCl (wX5 g qW AW hW σW ++ wX1 g qC AC σC) H := hP
  have hD : va_D Z (wX5 g qW AW hW σW ++ wX1 g qC AC σC) := hD
  obtain rfl : r_1 = r_w := hw.symm
  refine lv_if_le (tgt := 13) hx hb dX5_fewestDamp_7 (by decide) (fun c_3 => ?_) (fun c_3 => ?_)
  · have hF := q_if_t c_3 hF
    refine lv_aload_n hx hb dX5_fewestDamp_13 rfl (lv_at hl 0 rfl) ?_
    refine lv_aload_n hx hb dX5_fewestDamp_14 rfl (lv_at hl 1 rfl) ?_
    obtain ⟨σW_4, h_5, hF⟩ := q_cl_s hF
    refine gcV_v (As := [.ref qC]) (rest := []) (ci := 5) (q := (RX5, TX5, 3)) F hK hN hP hD hS hA (m_X5_findNeighbours l g H.size qW AW hW σW qC AC σC σW_4 h_5) gX5_fewestDamp_X5_findNeighbours kX5_findNeighbours rfl rfl rfl rfl ⟨(Nat.le_of_ble_eq_true rfl), (Nat.le_of_ble_eq_true rfl)⟩ [0, 1, 2, 3, 4, 5, 6, 7, 8, 9, 10] [] rfl rfl rfl (by decide) rfl rfl rfl rfl rfl hl.1 (Nat.le_of_ble_eq_true rfl) dX5_fewestDamp_15 ⟨(Nat.le_of_ble_eq_true rfl), (Nat.le_of_ble_eq_true rfl)⟩ (fun u_w H locs hw hP hD hS => ?_)
    have hP : va_P g.1 vwCl (wX5 g qW AW hW σW_4 ++ wX1 g qC AC σC) H := hP
    have hD : va_D Z (wX5 g qW AW hW σW_4 ++ wX1 g qC AC σC) := hD
    refine lv_bipush (v := (-6)) hx hb dX5_fewestDamp_18 (by decide) ?_
    refine lv_istore_n (lv' := [(3, .int (-6)), (0, .ref qW), (1, .ref qC), (2, .int a2)]) hx hb dX5_fewestDamp_20 rfl hl (by decide) rfl (fun ls hl => ?_)
    refine lv_iconst (v := 0) hx hb dX5_fewestDamp_21 (by decide) ?_
    refine lv_istore (lv' := [(4, .int 0), (3, .int (-6)), (0, .ref qW), (1, .ref qC), (2, .int a2)]) hx hb dX5_fewestDamp_22 hl (by decide) rfl (fun ls hl => ?_)
    refine q_loop (fun u0 => wX5 g qW AW hW σW_4 ++ wX1 g qC AC σC) (fun u0 => [(4, .int u0.1), (3, .int u0.2), (0, .ref qW), (2, .int a2)]) 90 hF ?_ ?_ hP hD hS (lv_sub hl [0, 1, 2, 4] rfl)
    · rintro ⟨v4_6, v3_6⟩ hF H locs ls hP hD hS hl
      try dsimp only at hF
      have hP : va_P g.1 vwCl (wX5 g qW AW hW σW_4 ++ wX1 g qC AC σC) H := hP
      have hD : va_D Z (wX5 g qW AW hW σW_4 ++ wX1 g qC AC σC) := hD
      have hl : lv_has ls 6 [(4, .int v4_6), (3, .int v3_6), (0, .ref qW), (2, .int a2)] := hl
      refine lv_iload_n hx hb dX5_fewestDamp_90 rfl (lv_at hl 1 rfl) ?_
      cases hF
      exact r_iret hx hb hr hlk hS () rfl hP hD dX5_fewestDamp_91
    · rintro k again kk ag ⟨v4_6, v3_6⟩ hF H locs ls hP hD hS hl
      dsimp only [b_X5_fewestDamp_24] at hF
      have hP : va_P g.1 vwCl (wX5 g qW AW hW σW_4 ++ wX1 g qC AC σC) H := hP
      have hD : va_D Z (wX5 g qW AW hW σW_4 ++ wX1 g qC AC σC) := hD
      have hl : lv_has ls 6 [(4, .int v4_6), (3, .int v3_6), (0, .ref qW), (2, .int a2)] := hl
      refine lv_iload hx hb dX5_fewestDamp_24 (lv_at hl 0 rfl) ?_
      refine lv_sipush (v := 1024) hx hb dX5_fewestDamp_26 (by decide) ?_
      refine lv_icmp_ge (tgt := 90) hx hb dX5_fewestDamp_29 (by decide) (fun c_7 => ?_) (fun c_7 => ?_)
      · have hF := q_if_t c_7 hF
        exact kk (v4_6, v3_6) hF _ _ _ hP hD hS (lv_sub hl [0, 1, 2, 3] rfl)
      · have hF := q_if_f c_7 hF
        refine lv_iload_n hx hb dX5_fewestDamp_32 rfl (lv_at hl 1 rfl) ?_
        refine lv_bipush (v := (-6)) hx hb dX5_fewestDamp_33 (by decide) ?_
        refine lv_icmp_eq (tgt := 50) hx hb dX5_fewestDamp_35 (by decide) (fun c_8 => ?_) (fun c_8 => ?_)
        · have hF := q_if_t c_8 hF
          refine lv_iconst (v := 1) hx hb dX5_fewestDamp_50 (by decide) ?_
          refine lv_goto (tgt := 55) hx hb dX5_fewestDamp_51 (by decide) ?_
          refine lv_istore (lv' := [(5, .int 1), (4, .int v4_6), (3, .int v3_6), (0, .ref qW), (2, .int a2)]) hx hb dX5_fewestDamp_55 hl (by decide) rfl (fun ls hl => ?_)
          refine lv_iload hx hb dX5_fewestDamp_57 (lv_at hl 0 rfl) ?_
          refine lv_if_eq (tgt := 84) hx hb dX5_fewestDamp_59 (by decide) (fun c_9 => ?_) (fun c_9 => ?_)
          · first | exact absurd c_9 (by decide) | exact c_9 (by decide)
          · refine lv_iload_n hx hb dX5_fewestDamp_62 rfl (lv_at hl 4 rfl) ?_
            refine lv_iload hx hb dX5_fewestDamp_63 (lv_at hl 1 rfl) ?_
            obtain ⟨r_10, h_11, hF⟩ := q_cl_s hF
            refine gcPN (As := [.int a2, .int v4_6]) (rest := []) F (m_X6_isIn l a2 v4_6 r_10 h_11) gX5_fewestDamp_X6_isIn_n68 kX6_isIn (hts (.initialized RX6) (by decide +kernel)) (hN.get 12 rfl) (hts (.static yX6_isIn) (by decide +kernel)) rfl rfl rfl ⟨(Nat.le_of_ble_eq_true rfl), (Nat.le_of_ble_eq_true rfl)⟩ rfl rfl hl.1 (Nat.le_of_ble_eq_true rfl) dX5_fewestDamp_65 ⟨(Nat.le_of_ble_eq_true rfl), (Nat.le_of_ble_eq_true rfl)⟩ ?_
            refine lv_if_ne (tgt := 84) hx hb dX5_fewestDamp_68 (by decide) (fun c_12 => ?_) (fun c_12 => ?_)
            · have hF := q_if_f c_12 hF
              refine lv_iinc (v := v4_6 + 1) (lv' := [(4, .int (v4_6 + 1)), (5, .int 1), (3, .int v3_6), (0, .ref qW), (2, .int a2)]) hx hb dX5_fewestDamp_84 hl (k := 1) rfl rfl (by decide) rfl (fun ls hl => ?_)
              refine lv_goto (tgt := 24) hx hb dX5_fewestDamp_87 (by decide) ?_
              exact ag (v4_6 + 1, v3_6) hF _ _ _ hP hD hS (lv_sub hl [0, 2, 3, 4] rfl)
            · have hF := q_if_t (by first | exact c_12 | exact Classical.not_not.mp c_12) hF
              refine lv_aload_n hx hb dX5_fewestDamp_71 rfl (lv_at hl 3 rfl) ?_
              refine lv_iload_n hx hb dX5_fewestDamp_72 rfl (lv_at hl 4 rfl) ?_
              refine lv_iload hx hb dX5_fewestDamp_73 (lv_at hl 1 rfl) ?_
              obtain ⟨r_13, h_14, hF⟩ := q_cl_s hF
              refine gcV_i (As := [.int a2, .int v4_6]) (rest := []) (ci := 5) (q := (RX5, TX5, 3)) F hK hN hP hD hS hA (m_X5_leadsTo l g H.size qW AW hW σW_4 a2 v4_6 r_13 h_14) gX5_fewestDamp_X5_leadsTo kX5_leadsTo rfl rfl rfl rfl ⟨(Nat.le_of_ble_eq_true rfl), (Nat.le_of_ble_eq_true rfl)⟩ [0, 1, 2] [3, 4, 5, 6, 7, 8, 9, 10] rfl rfl rfl (by decide) rfl rfl rfl rfl rfl hl.1 (Nat.le_of_ble_eq_true rfl) dX5_fewestDamp_75 ⟨(Nat.le_of_ble_eq_true rfl), (Nat.le_of_ble_eq_true rfl)⟩ (fun r_w u_w H locs hw hP hD hS => ?_)
              have hP : va_P g.1 vwCl (wX5 g qW AW hW σW_4 ++ wX1 g qC AC σC) H := hP.sub [8, 9, 10, 0, 1, 2, 3, 4, 5, 6, 7] rfl
              have hD : va_D Z (wX5 g qW AW hW σW_4 ++ wX1 g qC AC σC) := hD.sub [8, 9, 10, 0, 1, 2, 3, 4, 5, 6, 7] (by decide) rfl
              obtain rfl : r_13 = r_w := hw.symm
              refine lv_if_ne (tgt := 84) hx hb dX5_fewestDamp_78 (by decide) (fun c_15 => ?_) (fun c_15 => ?_)
              · have hF := q_if_f c_15 hF
                refine lv_iinc (v := v4_6 + 1) (lv' := [(4, .int (v4_6 + 1)), (5, .int 1), (3, .int v3_6), (0, .ref qW), (2, .int a2)]) hx hb dX5_fewestDamp_84 hl (k := 1) rfl rfl (by decide) rfl (fun ls hl => ?_)
                refine lv_goto (tgt := 24) hx hb dX5_fewestDamp_87 (by decide) ?_
                exact ag (v4_6 + 1, v3_6) hF _ _ _ hP hD hS (lv_sub hl [0, 2, 3, 4] rfl)
              · have hF := q_if_t (by first | exact c_15 | exact Classical.not_not.mp c_15) hF
                refine lv_iload hx hb dX5_fewestDamp_81 (lv_at hl 1 rfl) ?_
                refine lv_istore_n (lv' := [(3, .int v4_6), (5, .int 1), (4, .int v4_6), (0, .ref qW), (2, .int a2)]) hx hb dX5_fewestDamp_83 rfl hl (by decide) rfl (fun ls hl => ?_)
                refine lv_iinc (v := v4_6 + 1) (lv' := [(4, .int (v4_6 + 1)), (3, .int v4_6), (5, .int 1), (0, .ref qW), (2, .int a2)]) hx hb dX5_fewestDamp_84 hl (k := 2) rfl rfl (by decide) rfl (fun ls hl => ?_)
                refine lv_goto (tgt := 24) hx hb dX5_fewestDamp_87 (by decide) ?_
                exact ag (v4_6 + 1, v4_6) hF _ _ _ hP hD hS (lv_sub hl [0, 1, 3, 4] rfl)
        · have hF := q_if_f c_8 hF
          refine lv_iload hx hb dX5_fewestDamp_38 (lv_at hl 0 rfl) ?_
          obtain ⟨r_16, h_17, hF⟩ := q_cl_s hF
          refine gcP (As := [.int v4_6]) (rest := []) F (m_J6_bitCount_0f7a4 l v4_6 r_16 h_17) gX5_fewestDamp_J6_bitCount_0f7a4 kJ6_bitCount_0f7a4 rfl rfl rfl ⟨(Nat.le_of_ble_eq_true rfl), (Nat.le_of_ble_eq_true rfl)⟩ rfl rfl hl.1 (Nat.le_of_ble_eq_true rfl) dX5_fewestDamp_40 ⟨(Nat.le_of_ble_eq_true rfl), (Nat.le_of_ble_eq_true rfl)⟩ ?_
          refine lv_iload_n hx hb dX5_fewestDamp_43 rfl (lv_at hl 1 rfl) ?_
          obtain ⟨r_18, h_19, hF⟩ := q_cl_s hF
          refine gcP (As := [.int v3_6]) (rest := [.int r_16]) F (m_J6_bitCount_0f7a4 l v3_6 r_18 h_19) gX5_fewestDamp_J6_bitCount_0f7a4 kJ6_bitCount_0f7a4 rfl rfl rfl ⟨(Nat.le_of_ble_eq_true rfl), (Nat.le_of_ble_eq_true rfl)⟩ rfl rfl hl.1 (Nat.le_of_ble_eq_true rfl) dX5_fewestDamp_44 ⟨(Nat.le_of_ble_eq_true rfl), (Nat.le_of_ble_eq_true rfl)⟩ ?_
          refine lv_icmp_ge (tgt := 54) hx hb dX5_fewestDamp_47 (by decide) (fun c_20 => ?_) (fun c_20 => ?_)
          · have hF := q_if_t c_20 hF
            refine lv_iconst (v := 0) hx hb dX5_fewestDamp_54 (by decide) ?_
            refine lv_istore (lv' := [(5, .int 0), (4, .int v4_6), (3, .int v3_6), (0, .ref qW), (2, .int a2)]) hx hb dX5_fewestDamp_55 hl (by decide) rfl (fun ls hl => ?_)
            refine lv_iload hx hb dX5_fewestDamp_57 (lv_at hl 0 rfl) ?_
            refine lv_if_eq (tgt := 84) hx hb dX5_fewestDamp_59 (by decide) (fun c_21 => ?_) (fun c_21 => ?_)
            · refine lv_iinc (v := v4_6 + 1) (lv' := [(4, .int (v4_6 + 1)), (5, .int 0), (3, .int v3_6), (0, .ref qW), (2, .int a2)]) hx hb dX5_fewestDamp_84 hl (k := 1) rfl rfl (by decide) rfl (fun ls hl => ?_)
              refine lv_goto (tgt := 24) hx hb dX5_fewestDamp_87 (by decide) ?_
              exact ag (v4_6 + 1, v3_6) hF _ _ _ hP hD hS (lv_sub hl [0, 2, 3, 4] rfl)
            · first | exact absurd c_21 (by decide) | exact c_21 (by decide)
          · have hF := q_if_f c_20 hF
            refine lv_iconst (v := 1) hx hb dX5_fewestDamp_50 (by decide) ?_
            refine lv_goto (tgt := 55) hx hb dX5_fewestDamp_51 (by decide) ?_
            refine lv_istore (lv' := [(5, .int 1), (4, .int v4_6), (3, .int v3_6), (0, .ref qW), (2, .int a2)]) hx hb dX5_fewestDamp_55 hl (by decide) rfl (fun ls hl => ?_)
            refine lv_iload hx hb dX5_fewestDamp_57 (lv_at hl 0 rfl) ?_
            refine lv_if_eq (tgt := 84) hx hb dX5_fewestDamp_59 (by decide) (fun c_22 => ?_) (fun c_22 => ?_)
            · first | exact absurd c_22 (by decide) | exact c_22 (by decide)
            · refine lv_iload_n hx hb dX5_fewestDamp_62 rfl (lv_at hl 4 rfl) ?_
              refine lv_iload hx hb dX5_fewestDamp_63 (lv_at hl 1 rfl) ?_
              obtain ⟨r_23, h_24, hF⟩ := q_cl_s hF
              refine gcPN (As := [.int a2, .int v4_6]) (rest := []) F (m_X6_isIn l a2 v4_6 r_23 h_24) gX5_fewestDamp_X6_isIn_n68 kX6_isIn (hts (.initialized RX6) (by decide +kernel)) (hN.get 12 rfl) (hts (.static yX6_isIn) (by decide +kernel)) rfl rfl rfl ⟨(Nat.le_of_ble_eq_true rfl), (Nat.le_of_ble_eq_true rfl)⟩ rfl rfl hl.1 (Nat.le_of_ble_eq_true rfl) dX5_fewestDamp_65 ⟨(Nat.le_of_ble_eq_true rfl), (Nat.le_of_ble_eq_true rfl)⟩ ?_
              refine lv_if_ne (tgt := 84) hx hb dX5_fewestDamp_68 (by decide) (fun c_25 => ?_) (fun c_25 => ?_)
              · have hF := q_if_f c_25 hF
                refine lv_iinc (v := v4_6 + 1) (lv' := [(4, .int (v4_6 + 1)), (5, .int 1), (3, .int v3_6), (0, .ref qW), (2, .int a2)]) hx hb dX5_fewestDamp_84 hl (k := 1) rfl rfl (by decide) rfl (fun ls hl => ?_)
                refine lv_goto (tgt := 24) hx hb dX5_fewestDamp_87 (by decide) ?_
                exact ag (v4_6 + 1, v3_6) hF _ _ _ hP hD hS (lv_sub hl [0, 2, 3, 4] rfl)
              · have hF := q_if_t (by first | exact c_25 | exact Classical.not_not.mp c_25) hF
                refine lv_aload_n hx hb dX5_fewestDamp_71 rfl (lv_at hl 3 rfl) ?_
                refine lv_iload_n hx hb dX5_fewestDamp_72 rfl (lv_at hl 4 rfl) ?_
                refine lv_iload hx hb dX5_fewestDamp_73 (lv_at hl 1 rfl) ?_
                obtain ⟨r_26, h_27, hF⟩ := q_cl_s hF
                refine gcV_i (As := [.int a2, .int v4_6]) (rest := []) (ci := 5) (q := (RX5, TX5, 3)) F hK hN hP hD hS hA (m_X5_leadsTo l g H.size qW AW hW σW_4 a2 v4_6 r_26 h_27) gX5_fewestDamp_X5_leadsTo kX5_leadsTo rfl rfl rfl rfl ⟨(Nat.le_of_ble_eq_true rfl), (Nat.le_of_ble_eq_true rfl)⟩ [0, 1, 2] [3, 4, 5, 6, 7, 8, 9, 10] rfl rfl rfl (by decide) rfl rfl rfl rfl rfl hl.1 (Nat.le_of_ble_eq_true rfl) dX5_fewestDamp_75 ⟨(Nat.le_of_ble_eq_true rfl), (Nat.le_of_ble_eq_true rfl)⟩ (fun r_w u_w H locs hw hP hD hS => ?_)
                have hP : va_P g.1 vwCl (wX5 g qW AW hW σW_4 ++ wX1 g qC AC σC) H := hP.sub [8, 9, 10, 0, 1, 2, 3, 4, 5, 6, 7] rfl
                have hD : va_D Z (wX5 g qW AW hW σW_4 ++ wX1 g qC AC σC) := hD.sub [8, 9, 10, 0, 1, 2, 3, 4, 5, 6, 7] (by decide) rfl
                obtain rfl : r_26 = r_w := hw.symm
                refine lv_if_ne (tgt := 84) hx hb dX5_fewestDamp_78 (by decide) (fun c_28 => ?_) (fun c_28 => ?_)
                · have hF := q_if_f c_28 hF
                  refine lv_iinc (v := v4_6 + 1) (lv' := [(4, .int (v4_6 + 1)), (5, .int 1), (3, .int v3_6), (0, .ref qW), (2, .int a2)]) hx hb dX5_fewestDamp_84 hl (k := 1) rfl rfl (by decide) rfl (fun ls hl => ?_)
                  refine lv_goto (tgt := 24) hx hb dX5_fewestDamp_87 (by decide) ?_
                  exact ag (v4_6 + 1, v3_6) hF _ _ _ hP hD hS (lv_sub hl [0, 2, 3, 4] rfl)
                · have hF := q_if_t (by first | exact c_28 | exact Classical.not_not.mp c_28) hF
                  refine lv_iload hx hb dX5_fewestDamp_81 (lv_at hl 1 rfl) ?_
                  refine lv_istore_n (lv' := [(3, .int v4_6), (5, .int 1), (4, .int v4_6), (0, .ref qW), (2, .int a2)]) hx hb dX5_fewestDamp_83 rfl hl (by decide) rfl (fun ls hl => ?_)
                  refine lv_iinc (v := v4_6 + 1) (lv' := [(4, .int (v4_6 + 1)), (3, .int v4_6), (5, .int 1), (0, .ref qW), (2, .int a2)]) hx hb dX5_fewestDamp_84 hl (k := 2) rfl rfl (by decide) rfl (fun ls hl => ?_)
                  refine lv_goto (tgt := 24) hx hb dX5_fewestDamp_87 (by decide) ?_
                  exact ag (v4_6 + 1, v4_6) hF _ _ _ hP hD hS (lv_sub hl [0, 1, 3, 4] rfl)
  · have hF := q_if_f c_3 hF
    refine lv_bipush (v := (-6)) hx hb dX5_fewestDamp_10 (by decide) ?_
    cases hF
    exact r_iret hx hb hr hlk hS () rfl hP hD dX5_fewestDamp_12

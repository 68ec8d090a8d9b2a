theorem kX4_fadeAll : YOk yX4_fadeAll 1 := by decide +kernel
theorem kX4_taleInBed : YOk yX4_taleInBed 3 := by decide +kernel
theorem kX4_isSo : YOk yX4_isSo 3 := by decide +kernel
theorem kX4_gather : YOk yX4_gather 1 := by decide +kernel
theorem kX4_size : YOk yX4_size 0 := by decide +kernel
theorem kX4_pick : YOk yX4_pick 1 := by decide +kernel
theorem kX4_mostLeft : YOk yX4_mostLeft 1 := by decide +kernel
theorem kX4_bedToAsk : YOk yX4_bedToAsk 0 := by decide +kernel
theorem kX0_leastTake : YOk yX0_leastTake 1 := by decide +kernel
theorem kX0_firstTake : YOk yX0_firstTake 1 := by decide +kernel
set_option maxHeartbeats 4000000 in
set_option maxRecDepth 100000 in
theorem m_X4_fadeAll (l : Launch) (g : GT) (sz : Nat) (qY : Nat) (AY : Nat → Nat) (σY : qS) (qC : Nat) (AC : Nat → Nat) (σC : qS) (σY' : qS) (hF : f_X4_fadeAll σY σC = some σY') : Cv l yX4_fadeAll wsX4_fadeAll { frames := 2, cells := 0, slots := 0, locals := 41 } g sz [.ref qY, .ref qC] (wX4 g qY AY σY ++ wX1 g qC AC σC) (wX4 g qY AY σY' ++ wX1 g qC AC σC) := by
  refine gMet_v (cc := cX4_fadeAll) (maxL := 5) (ret := none) (by decide) rfl (Nat.le_of_ble_eq_true rfl) ?_
  intro p e s m args below meth c Z hx hb hr F hlk hnm hK hN hA H locs hP hD hS ls hl
  have hl : lv_has ls 5 [(0, .ref qY), (1, .ref qC)] := hl
  have F : CallFix p m c cX4_fadeAll 5 s args wsX4_fadeAll RX4 := F
  have hts := F.2.2.2.2
  have hown : s.vm.findClass RX4 = some m.cls := F.2.2.2.1
  have hi4 : ∀ w ∈ u_ws RX4 TX4 4, w ∈ wsX4_fadeAll := by decide +kernel
  dsimp only [f_X4_fadeAll] at hF
  refine lv_iconst (v := 0) hx hb dX4_fadeAll_0 (by decide) ?_
  refine lv_istore_n (lv' := [(2, .int 0), (0, .ref qY), (1, .ref qC)]) hx hb dX4_fadeAll_1 rfl hl (by decide) rfl (fun ls hl => ?_)
  refine q_loop (fun u0 => wX4 g qY AY u0.2 ++ wX1 g qC AC σC) (fun u0 => [(2, .int u0.1), (0, .ref qY), (1, .ref qC)]) 51 hF ?_ ?_ hP hD hS (lv_sub hl [0, 1, 2] rfl)
  · rintro ⟨v2_1, σY_1⟩ hF H locs ls hP hD hS hl
    try dsimp only at hF
    have hP : va_P g.1 vwCl (wX4 g qY AY σY_1 ++ wX1 g qC AC σC) H := hP
    have hD : va_D Z (wX4 g qY AY σY_1 ++ wX1 g qC AC σC) := hD
    have hl : lv_has ls 5 [(2, .int v2_1), (0, .ref qY), (1, .ref qC)] := hl
    cases hF
    exact r_vret hx hb hr hlk hS () trivial hP hD dX4_fadeAll_51
  · rintro k again kk ag ⟨v2_1, σY_1⟩ hF H locs ls hP hD hS hl
    dsimp only [b_X4_fadeAll_2] at hF
    have hP : va_P g.1 vwCl (wX4 g qY AY σY_1 ++ wX1 g qC AC σC) H := hP
    have hD : va_D Z (wX4 g qY AY σY_1 ++ wX1 g qC AC σC) := hD
    have hl : lv_has ls 5 [(2, .int v2_1), (0, .ref qY), (1, .ref qC)] := hl
    refine lv_iload_n hx hb dX4_fadeAll_2 rfl (lv_at hl 0 rfl) ?_
    refine lv_bipush (v := 10) hx hb dX4_fadeAll_3 (by decide) ?_
    refine lv_icmp_ge (tgt := 51) hx hb dX4_fadeAll_5 (by decide) (fun c_2 => ?_) (fun c_2 => ?_)
    · have hF := q_if_t c_2 hF
      exact kk (v2_1, σY_1) hF _ _ _ hP hD hS (lv_sub hl [0, 1, 2] rfl)
    · have hF := q_if_f c_2 hF
      refine lv_iload_n hx hb dX4_fadeAll_8 rfl (lv_at hl 0 rfl) ?_
      refine lv_istore_n (lv' := [(3, .int v2_1), (2, .int v2_1), (0, .ref qY), (1, .ref qC)]) hx hb dX4_fadeAll_9 rfl hl (by decide) rfl (fun ls hl => ?_)
      refine lv_iconst (v := 0) hx hb dX4_fadeAll_10 (by decide) ?_
      refine lv_istore (lv' := [(4, .int 0), (3, .int v2_1), (2, .int v2_1), (0, .ref qY), (1, .ref qC)]) hx hb dX4_fadeAll_11 hl (by decide) rfl (fun ls hl => ?_)
      refine q_loop (fun u0 => wX4 g qY AY u0.2.2 ++ wX1 g qC AC σC) (fun u0 => [(4, .int u0.1), (3, .int u0.2.1), (2, .int v2_1), (0, .ref qY), (1, .ref qC)]) 45 hF ?_ ?_ hP hD hS (lv_sub hl [0, 1, 2, 3, 4] rfl)
      · rintro ⟨v4_3, v3_3, σY_3⟩ hF H locs ls hP hD hS hl
        try dsimp only at hF
        have hP : va_P g.1 vwCl (wX4 g qY AY σY_3 ++ wX1 g qC AC σC) H := hP
        have hD : va_D Z (wX4 g qY AY σY_3 ++ wX1 g qC AC σC) := hD
        have hl : lv_has ls 5 [(4, .int v4_3), (3, .int v3_3), (2, .int v2_1), (0, .ref qY), (1, .ref qC)] := hl
        refine lv_iinc (v := v2_1 + 1) (lv' := [(2, .int (v2_1 + 1)), (4, .int v4_3), (3, .int v3_3), (0, .ref qY), (1, .ref qC)]) hx hb dX4_fadeAll_45 hl (k := 2) rfl rfl (by decide) rfl (fun ls hl => ?_)
        refine lv_goto (tgt := 2) hx hb dX4_fadeAll_48 (by decide) ?_
        exact ag (v2_1 + 1, σY_3) hF _ _ _ hP hD hS (lv_sub hl [0, 3, 4] rfl)
      · rintro k again kk ag ⟨v4_3, v3_3, σY_3⟩ hF H locs ls hP hD hS hl
        dsimp only [b_X4_fadeAll_13] at hF
        have hP : va_P g.1 vwCl (wX4 g qY AY σY_3 ++ wX1 g qC AC σC) H := hP
        have hD : va_D Z (wX4 g qY AY σY_3 ++ wX1 g qC AC σC) := hD
        have hl : lv_has ls 5 [(4, .int v4_3), (3, .int v3_3), (2, .int v2_1), (0, .ref qY), (1, .ref qC)] := hl
        refine lv_iload hx hb dX4_fadeAll_13 (lv_at hl 0 rfl) ?_
        refine lv_bipush (v := 41) hx hb dX4_fadeAll_15 (by decide) ?_
        refine lv_icmp_ge (tgt := 45) hx hb dX4_fadeAll_17 (by decide) (fun c_4 => ?_) (fun c_4 => ?_)
        · have hF := q_if_t c_4 hF
          exact kk (v4_3, v3_3, σY_3) hF _ _ _ hP hD hS (lv_sub hl [0, 1, 2, 3, 4] rfl)
        · have hF := q_if_f c_4 hF
          refine lv_aload_n hx hb dX4_fadeAll_20 rfl (lv_at hl 3 rfl) ?_
          refine va_get (D := g.1) (ci := 4) (v := .ref (AY 0)) (C := RX4) (T := TX4) (N := 4) hx hb hts hi4 hown hK hP 0 rfl rfl 0 (by decide) (hts (.fieldLink RX4 9 "PanTales$Sayings" "faded" "[I") (by decide +kernel)) (fun _ h9 => h9) rfl dX4_fadeAll_21 ?_
          refine lv_iload_n hx hb dX4_fadeAll_24 rfl (lv_at hl 2 rfl) ?_
          refine lv_bipush (v := 41) hx hb dX4_fadeAll_25 (by decide) ?_
          refine lv_imul hx hb dX4_fadeAll_27 ?_
          refine lv_iload hx hb dX4_fadeAll_28 (lv_at hl 0 rfl) ?_
          refine lv_iadd hx hb dX4_fadeAll_30 ?_
          refine lv_iload_n hx hb dX4_fadeAll_31 rfl (lv_at hl 1 rfl) ?_
          obtain ⟨σY_5, i_6, e_7, hF⟩ := q_wr_s hF
          refine r_iast (f' := upd (σY_3 0) ((v2_1 * 41) + v4_3).toNatClampNeg v3_3) hx hb hK hP hD hS 1 rfl i_6 (fun _ _ => rfl) dX4_fadeAll_32 (fun H locs hP hD hS => ?_)
          have hP : va_P g.1 vwCl (wX4 g qY AY (q_up σY_3 0 (upd (σY_3 0) ((v2_1 * 41) + v4_3).toNatClampNeg v3_3)) ++ wX1 g qC AC σC) H := hP
          have hD : va_D Z (wX4 g qY AY (q_up σY_3 0 (upd (σY_3 0) ((v2_1 * 41) + v4_3).toNatClampNeg v3_3)) ++ wX1 g qC AC σC) := hD
          rw [e_7] at hP hD
          refine lv_aload_n hx hb dX4_fadeAll_33 rfl (lv_at hl 4 rfl) ?_
          refine lv_iload_n hx hb dX4_fadeAll_34 rfl (lv_at hl 1 rfl) ?_
          obtain ⟨r_8, h_9, hF⟩ := q_cl_s hF
          refine gcV_i (As := [.int v3_3]) (rest := []) (ci := 1) (q := (RX1, TX1, 12)) F hK hN hP hD hS hA (m_X1_fadesInto l g H.size qC AC σC v3_3 r_8 h_9) gX4_fadeAll_X1_fadesInto kX1_fadesInto rfl rfl rfl rfl ⟨(Nat.le_of_ble_eq_true rfl), (Nat.le_of_ble_eq_true rfl)⟩ [4, 5, 6, 7, 8, 9, 10, 11] [0, 1, 2, 3] rfl rfl rfl (by decide) rfl rfl rfl rfl rfl hl.1 (Nat.le_of_ble_eq_true rfl) dX4_fadeAll_35 ⟨(Nat.le_of_ble_eq_true rfl), (Nat.le_of_ble_eq_true rfl)⟩ (fun r_w u_w H locs hw hP hD hS => ?_)
          have hP : va_P g.1 vwCl (wX4 g qY AY σY_5 ++ wX1 g qC AC σC) H := hP
          have hD : va_D Z (wX4 g qY AY σY_5 ++ wX1 g qC AC σC) := hD
          obtain rfl : r_8 = r_w := hw.symm
          refine lv_istore_n (lv' := [(3, .int r_8), (4, .int v4_3), (2, .int v2_1), (0, .ref qY), (1, .ref qC)]) hx hb dX4_fadeAll_38 rfl hl (by decide) rfl (fun ls hl => ?_)
          refine lv_iinc (v := v4_3 + 1) (lv' := [(4, .int (v4_3 + 1)), (3, .int r_8), (2, .int v2_1), (0, .ref qY), (1, .ref qC)]) hx hb dX4_fadeAll_39 hl (k := 1) rfl rfl (by decide) rfl (fun ls hl => ?_)
          refine lv_goto (tgt := 13) hx hb dX4_fadeAll_42 (by decide) ?_
          exact ag (v4_3 + 1, r_8, σY_5) hF _ _ _ hP hD hS (lv_sub hl [0, 1, 2, 3, 4] rfl)
set_option maxHeartbeats 4000000 in
set_option maxRecDepth 100000 in
theorem m_X4_taleInBed (l : Launch) (g : GT) (sz : Nat) (qY : Nat) (AY : Nat → Nat) (σY : qS) (a1 : Int32) (a2 : Int32) (a3 : Int32) (rr : Int32) (hF : f_X4_taleInBed σY a1 a2 a3 = some rr) : Ci l yX4_taleInBed wsX4_taleInBed { frames := 1, cells := 0, slots := 0, locals := 22 } g sz [.ref qY, .int a1, .int a2, .int a3] (wX4 g qY AY σY) rr (wX4 g qY AY σY) := by
  refine gMet_i (cc := cX4_taleInBed) (maxL := 5) (ret := (some .int)) (by decide) rfl (Nat.le_of_ble_eq_true rfl) ?_
  intro p e s m args below meth c Z hx hb hr F hlk hnm hK hN hA H locs hP hD hS ls hl
  have hl : lv_has ls 5 [(0, .ref qY), (1, .int a1), (2, .int a2), (3, .int a3)] := hl
  have F : CallFix p m c cX4_taleInBed 5 s args wsX4_taleInBed RX4 := F
  have hts := F.2.2.2.2
  have hown : s.vm.findClass RX4 = some m.cls := F.2.2.2.1
  have hi4 : ∀ w ∈ u_ws RX4 TX4 4, w ∈ wsX4_taleInBed := by decide +kernel
  dsimp only [f_X4_taleInBed] at hF
  refine lv_iload_n hx hb dX4_taleInBed_0 rfl (lv_at hl 1 rfl) ?_
  obtain ⟨r_1, h_2, hF⟩ := q_cl_s hF
  refine gcPN (As := [.int a1]) (rest := []) F (m_X6_isTale l a1 r_1 h_2) gX4_taleInBed_X6_isTale_n57 kX6_isTale (hts (.initialized RX6) (by decide +kernel)) (hN.get 15 rfl) (hts (.static yX6_isTale) (by decide +kernel)) rfl rfl rfl ⟨(Nat.le_of_ble_eq_true rfl), (Nat.le_of_ble_eq_true rfl)⟩ rfl rfl hl.1 (Nat.le_of_ble_eq_true rfl) dX4_taleInBed_1 ⟨(Nat.le_of_ble_eq_true rfl), (Nat.le_of_ble_eq_true rfl)⟩ ?_
  refine lv_if_eq (tgt := 25) hx hb dX4_taleInBed_4 (by decide) (fun c_3 => ?_) (fun c_3 => ?_)
  · have hF := q_if_t c_3 hF
    refine lv_iconst (v := 0) hx hb dX4_taleInBed_25 (by decide) ?_
    refine lv_istore (lv' := [(4, .int 0), (0, .ref qY), (1, .int a1), (2, .int a2), (3, .int a3)]) hx hb dX4_taleInBed_26 hl (by decide) rfl (fun ls hl => ?_)
    refine lv_iload hx hb dX4_taleInBed_28 (lv_at hl 0 rfl) ?_
    refine lv_if_eq (tgt := 49) hx hb dX4_taleInBed_30 (by decide) (fun c_4 => ?_) (fun c_4 => ?_)
    · refine lv_bipush (v := (-6)) hx hb dX4_taleInBed_49 (by decide) ?_
      cases hF
      exact r_iret hx hb hr hlk hS () rfl hP hD dX4_taleInBed_51
    · first | exact absurd c_4 (by decide) | exact c_4 (by decide)
  · have hF := q_if_f c_3 hF
    refine lv_iload_n hx hb dX4_taleInBed_7 rfl (lv_at hl 2 rfl) ?_
    refine lv_if_le (tgt := 25) hx hb dX4_taleInBed_8 (by decide) (fun c_5 => ?_) (fun c_5 => ?_)
    · have hF := q_if_t c_5 hF
      refine lv_iconst (v := 0) hx hb dX4_taleInBed_25 (by decide) ?_
      refine lv_istore (lv' := [(4, .int 0), (0, .ref qY), (1, .int a1), (2, .int a2), (3, .int a3)]) hx hb dX4_taleInBed_26 hl (by decide) rfl (fun ls hl => ?_)
      refine lv_iload hx hb dX4_taleInBed_28 (lv_at hl 0 rfl) ?_
      refine lv_if_eq (tgt := 49) hx hb dX4_taleInBed_30 (by decide) (fun c_6 => ?_) (fun c_6 => ?_)
      · refine lv_bipush (v := (-6)) hx hb dX4_taleInBed_49 (by decide) ?_
        cases hF
        exact r_iret hx hb hr hlk hS () rfl hP hD dX4_taleInBed_51
      · first | exact absurd c_6 (by decide) | exact c_6 (by decide)
    · have hF := q_if_f c_5 hF
      refine lv_iload_n hx hb dX4_taleInBed_11 rfl (lv_at hl 3 rfl) ?_
      refine lv_iconst (v := 0) hx hb dX4_taleInBed_12 (by decide) ?_
      refine lv_bipush (v := 40) hx hb dX4_taleInBed_13 (by decide) ?_
      obtain ⟨r_7, h_8, hF⟩ := q_cl_s hF
      refine gcPN (As := [.int a3, .int 0, .int 40]) (rest := []) F (m_X6_within l a3 (0 : Int32) (40 : Int32) r_7 h_8) gX4_taleInBed_X6_within_n33 kX6_within (hts (.initialized RX6) (by decide +kernel)) (hN.get 16 rfl) (hts (.static yX6_within) (by decide +kernel)) rfl rfl rfl ⟨(Nat.le_of_ble_eq_true rfl), (Nat.le_of_ble_eq_true rfl)⟩ rfl rfl hl.1 (Nat.le_of_ble_eq_true rfl) dX4_taleInBed_15 ⟨(Nat.le_of_ble_eq_true rfl), (Nat.le_of_ble_eq_true rfl)⟩ ?_
      refine lv_if_eq (tgt := 25) hx hb dX4_taleInBed_18 (by decide) (fun c_9 => ?_) (fun c_9 => ?_)
      · have hF := q_if_t c_9 hF
        refine lv_iconst (v := 0) hx hb dX4_taleInBed_25 (by decide) ?_
        refine lv_istore (lv' := [(4, .int 0), (0, .ref qY), (1, .int a1), (2, .int a2), (3, .int a3)]) hx hb dX4_taleInBed_26 hl (by decide) rfl (fun ls hl => ?_)
        refine lv_iload hx hb dX4_taleInBed_28 (lv_at hl 0 rfl) ?_
        refine lv_if_eq (tgt := 49) hx hb dX4_taleInBed_30 (by decide) (fun c_10 => ?_) (fun c_10 => ?_)
        · refine lv_bipush (v := (-6)) hx hb dX4_taleInBed_49 (by decide) ?_
          cases hF
          exact r_iret hx hb hr hlk hS () rfl hP hD dX4_taleInBed_51
        · first | exact absurd c_10 (by decide) | exact c_10 (by decide)
      · have hF := q_if_f c_9 hF
        refine lv_iconst (v := 1) hx hb dX4_taleInBed_21 (by decide) ?_
        refine lv_goto (tgt := 26) hx hb dX4_taleInBed_22 (by decide) ?_
        refine lv_istore (lv' := [(4, .int 1), (0, .ref qY), (1, .int a1), (2, .int a2), (3, .int a3)]) hx hb dX4_taleInBed_26 hl (by decide) rfl (fun ls hl => ?_)
        refine lv_iload hx hb dX4_taleInBed_28 (lv_at hl 0 rfl) ?_
        refine lv_if_eq (tgt := 49) hx hb dX4_taleInBed_30 (by decide) (fun c_11 => ?_) (fun c_11 => ?_)
        · first | exact absurd c_11 (by decide) | exact c_11 (by decide)
        · refine lv_aload_n hx hb dX4_taleInBed_33 rfl (lv_at hl 1 rfl) ?_
          refine va_get (D := g.1) (ci := 4) (v := .ref (AY 0)) (C := RX4) (T := TX4) (N := 4) hx hb hts hi4 hown hK hP 0 rfl rfl 0 (by decide) (hts (.fieldLink RX4 9 "PanTales$Sayings" "faded" "[I") (by decide +kernel)) (fun _ h9 => h9) rfl dX4_taleInBed_34 ?_
          refine lv_iload_n hx hb dX4_taleInBed_37 rfl (lv_at hl 2 rfl) ?_
          refine lv_bipush (v := 41) hx hb dX4_taleInBed_38 (by decide) ?_
          refine lv_imul hx hb dX4_taleInBed_40 ?_
          refine lv_iload_n hx hb dX4_taleInBed_41 rfl (lv_at hl 4 rfl) ?_
          refine lv_iload_n hx hb dX4_taleInBed_42 rfl (lv_at hl 3 rfl) ?_
          obtain ⟨n_12, hF⟩ := q_nz_s hF
          refine lv_idiv hx hb dX4_taleInBed_43 n_12 ?_
          refine lv_iadd hx hb dX4_taleInBed_44 ?_
          obtain ⟨r_13, i_14, e_15, hF⟩ := q_rd_s hF
          refine r_iald (v := r_13) hx hb hK hP 1 rfl i_14 e_15 dX4_taleInBed_45 ?_
          refine lv_goto (tgt := 51) hx hb dX4_taleInBed_46 (by decide) ?_
          cases hF
          exact r_iret hx hb hr hlk hS () rfl hP hD dX4_taleInBed_51
set_option maxHeartbeats 4000000 in
set_option maxRecDepth 100000 in
theorem m_X4_isSo (l : Launch) (g : GT) (sz : Nat) (qY : Nat) (AY : Nat → Nat) (σY : qS) (qC : Nat) (AC : Nat → Nat) (σC : qS) (a2 : Int32) (a3 : Int32) (rr : Int32) (hF : f_X4_isSo σY σC a2 a3 = some rr) : Ci l yX4_isSo wsX4_isSo { frames := 2, cells := 0, slots := 0, locals := 46 } g sz [.ref qY, .ref qC, .int a2, .int a3] (wX4 g qY AY σY ++ wX1 g qC AC σC) rr (wX4 g qY AY σY ++ wX1 g qC AC σC) := by
  refine gMet_i (cc := cX4_isSo) (maxL := 5) (ret := (some .boolean)) (by decide) rfl (Nat.le_of_ble_eq_true rfl) ?_
  intro p e s m args below meth c Z hx hb hr F hlk hnm hK hN hA H locs hP hD hS ls hl
  have hl : lv_has ls 5 [(0, .ref qY), (1, .ref qC), (2, .int a2), (3, .int a3)] := hl
  have F : CallFix p m c cX4_isSo 5 s args wsX4_isSo RX4 := F
  have hts := F.2.2.2.2
  have hown : s.vm.findClass RX4 = some m.cls := F.2.2.2.1
  dsimp only [f_X4_isSo] at hF
  refine lv_iconst (v := 0) hx hb dX4_isSo_0 (by decide) ?_
  refine lv_istore (lv' := [(4, .int 0), (0, .ref qY), (1, .ref qC), (2, .int a2), (3, .int a3)]) hx hb dX4_isSo_1 hl (by decide) rfl (fun ls hl => ?_)
  refine q_loop (fun u0 => wX4 g qY AY σY ++ wX1 g qC AC σC) (fun u0 => [(4, .int u0), (0, .ref qY), (1, .ref qC), (2, .int a2), (3, .int a3)]) 41 hF ?_ ?_ hP hD hS (lv_sub hl [0, 1, 2, 3, 4] rfl)
  · rintro v4_1 hF H locs ls hP hD hS hl
    try dsimp only at hF
    have hP : va_P g.1 vwCl (wX4 g qY AY σY ++ wX1 g qC AC σC) H := hP
    have hD : va_D Z (wX4 g qY AY σY ++ wX1 g qC AC σC) := hD
    have hl : lv_has ls 5 [(4, .int v4_1), (0, .ref qY), (1, .ref qC), (2, .int a2), (3, .int a3)] := hl
    refine lv_iconst (v := 1) hx hb dX4_isSo_41 (by decide) ?_
    cases hF
    exact r_zret hx hb hr hlk hS () (by decide) rfl hP hD dX4_isSo_42
  · rintro k again kk ag v4_1 hF H locs ls hP hD hS hl
    dsimp only [b_X4_isSo_3] at hF
    have hP : va_P g.1 vwCl (wX4 g qY AY σY ++ wX1 g qC AC σC) H := hP
    have hD : va_D Z (wX4 g qY AY σY ++ wX1 g qC AC σC) := hD
    have hl : lv_has ls 5 [(4, .int v4_1), (0, .ref qY), (1, .ref qC), (2, .int a2), (3, .int a3)] := hl
    refine lv_iload hx hb dX4_isSo_3 (lv_at hl 0 rfl) ?_
    refine lv_aload_n hx hb dX4_isSo_5 rfl (lv_at hl 2 rfl) ?_
    obtain ⟨r_2, h_3, hF⟩ := q_cl_s hF
    refine gcV_i (As := []) (rest := [.int v4_1]) (ci := 1) (q := (RX1, TX1, 12)) F hK hN hP hD hS hA (m_X1_sightCount l g H.size qC AC σC r_2 h_3) gX4_isSo_X1_sightCount kX1_sightCount rfl rfl rfl rfl ⟨(Nat.le_of_ble_eq_true rfl), (Nat.le_of_ble_eq_true rfl)⟩ [4, 5, 6, 7, 8, 9, 10, 11] [0, 1, 2, 3] rfl rfl rfl (by decide) rfl rfl rfl rfl rfl hl.1 (Nat.le_of_ble_eq_true rfl) dX4_isSo_6 ⟨(Nat.le_of_ble_eq_true rfl), (Nat.le_of_ble_eq_true rfl)⟩ (fun r_w u_w H locs hw hP hD hS => ?_)
    have hP : va_P g.1 vwCl (wX4 g qY AY σY ++ wX1 g qC AC σC) H := hP
    have hD : va_D Z (wX4 g qY AY σY ++ wX1 g qC AC σC) := hD
    obtain rfl : r_2 = r_w := hw.symm
    refine lv_icmp_ge (tgt := 41) hx hb dX4_isSo_9 (by decide) (fun c_4 => ?_) (fun c_4 => ?_)
    · have hF := q_if_t c_4 hF
      exact kk v4_1 hF _ _ _ hP hD hS (lv_sub hl [0, 1, 2, 3, 4] rfl)
    · have hF := q_if_f c_4 hF
      refine lv_aload_n hx hb dX4_isSo_12 rfl (lv_at hl 1 rfl) ?_
      refine lv_iload_n hx hb dX4_isSo_13 rfl (lv_at hl 3 rfl) ?_
      refine lv_iload_n hx hb dX4_isSo_14 rfl (lv_at hl 4 rfl) ?_
      refine lv_aload_n hx hb dX4_isSo_15 rfl (lv_at hl 2 rfl) ?_
      refine lv_iload hx hb dX4_isSo_16 (lv_at hl 0 rfl) ?_
      obtain ⟨r_5, h_6, hF⟩ := q_cl_s hF
      refine gcV_i (As := [.int v4_1]) (rest := [.int a3, .int a2, .ref qY]) (ci := 1) (q := (RX1, TX1, 12)) F hK hN hP hD hS hA (m_X1_sightBed l g H.size qC AC σC v4_1 r_5 h_6) gX4_isSo_X1_sightBed kX1_sightBed rfl rfl rfl rfl ⟨(Nat.le_of_ble_eq_true rfl), (Nat.le_of_ble_eq_true rfl)⟩ [4, 5, 6, 7, 8, 9, 10, 11] [0, 1, 2, 3] rfl rfl rfl (by decide) rfl rfl rfl rfl rfl hl.1 (Nat.le_of_ble_eq_true rfl) dX4_isSo_18 ⟨(Nat.le_of_ble_eq_true rfl), (Nat.le_of_ble_eq_true rfl)⟩ (fun r_w u_w H locs hw hP hD hS => ?_)
      have hP : va_P g.1 vwCl (wX4 g qY AY σY ++ wX1 g qC AC σC) H := hP
      have hD : va_D Z (wX4 g qY AY σY ++ wX1 g qC AC σC) := hD
      obtain rfl : r_5 = r_w := hw.symm
      obtain ⟨r_7, h_8, hF⟩ := q_cl_s hF
      refine gcV_i (As := [.int a2, .int a3, .int r_5]) (rest := []) (ci := 4) (q := (RX4, TX4, 4)) F hK hN hP hD hS hA (m_X4_taleInBed l g H.size qY AY σY a2 a3 r_5 r_7 h_8) gX4_isSo_X4_taleInBed kX4_taleInBed rfl rfl rfl rfl ⟨(Nat.le_of_ble_eq_true rfl), (Nat.le_of_ble_eq_true rfl)⟩ [0, 1, 2, 3] [4, 5, 6, 7, 8, 9, 10, 11] rfl rfl rfl (by decide) rfl rfl rfl rfl rfl hl.1 (Nat.le_of_ble_eq_true rfl) dX4_isSo_21 ⟨(Nat.le_of_ble_eq_true rfl), (Nat.le_of_ble_eq_true rfl)⟩ (fun r_w u_w H locs hw hP hD hS => ?_)
      have hP : va_P g.1 vwCl (wX4 g qY AY σY ++ wX1 g qC AC σC) H := hP.sub [8, 9, 10, 11, 0, 1, 2, 3, 4, 5, 6, 7] rfl
      have hD : va_D Z (wX4 g qY AY σY ++ wX1 g qC AC σC) := hD.sub [8, 9, 10, 11, 0, 1, 2, 3, 4, 5, 6, 7] (by decide) rfl
      obtain rfl : r_7 = r_w := hw.symm
      refine lv_aload_n hx hb dX4_isSo_24 rfl (lv_at hl 2 rfl) ?_
      refine lv_iload hx hb dX4_isSo_25 (lv_at hl 0 rfl) ?_
      obtain ⟨r_9, h_10, hF⟩ := q_cl_s hF
      refine gcV_i (As := [.int v4_1]) (rest := [.int r_7]) (ci := 1) (q := (RX1, TX1, 12)) F hK hN hP hD hS hA (m_X1_sightTale l g H.size qC AC σC v4_1 r_9 h_10) gX4_isSo_X1_sightTale kX1_sightTale rfl rfl rfl rfl ⟨(Nat.le_of_ble_eq_true rfl), (Nat.le_of_ble_eq_true rfl)⟩ [4, 5, 6, 7, 8, 9, 10, 11] [0, 1, 2, 3] rfl rfl rfl (by decide) rfl rfl rfl rfl rfl hl.1 (Nat.le_of_ble_eq_true rfl) dX4_isSo_27 ⟨(Nat.le_of_ble_eq_true rfl), (Nat.le_of_ble_eq_true rfl)⟩ (fun r_w u_w H locs hw hP hD hS => ?_)
      have hP : va_P g.1 vwCl (wX4 g qY AY σY ++ wX1 g qC AC σC) H := hP
      have hD : va_D Z (wX4 g qY AY σY ++ wX1 g qC AC σC) := hD
      obtain rfl : r_9 = r_w := hw.symm
      refine lv_icmp_eq (tgt := 35) hx hb dX4_isSo_30 (by decide) (fun c_11 => ?_) (fun c_11 => ?_)
      · have hF := q_if_t c_11 hF
        refine lv_iinc (v := v4_1 + 1) (lv' := [(4, .int (v4_1 + 1)), (0, .ref qY), (1, .ref qC), (2, .int a2), (3, .int a3)]) hx hb dX4_isSo_35 hl (k := 0) rfl rfl (by decide) rfl (fun ls hl => ?_)
        refine lv_goto (tgt := 3) hx hb dX4_isSo_38 (by decide) ?_
        exact ag (v4_1 + 1) hF _ _ _ hP hD hS (lv_sub hl [0, 1, 2, 3, 4] rfl)
      · have hF := q_if_f c_11 hF
        refine lv_iconst (v := 0) hx hb dX4_isSo_33 (by decide) ?_
        cases hF
        exact r_zret hx hb hr hlk hS () (by decide) rfl hP hD dX4_isSo_34
set_option maxHeartbeats 4000000 in
set_option maxRecDepth 100000 in
theorem m_X4_gather (l : Launch) (g : GT) (sz : Nat) (qY : Nat) (AY : Nat → Nat) (σY : qS) (qC : Nat) (AC : Nat → Nat) (σC : qS) (σY' : qS) (hF : f_X4_gather σY σC = some σY') : Cv l yX4_gather wsX4_gather { frames := 3, cells := 0, slots := 0, locals := 70 } g sz [.ref qY, .ref qC] (wX4 g qY AY σY ++ wX1 g qC AC σC) (wX4 g qY AY σY' ++ wX1 g qC AC σC) := by
  refine gMet_v (cc := cX4_gather) (maxL := 4) (ret := none) (by decide) rfl (Nat.le_of_ble_eq_true rfl) ?_
  intro p e s m args below meth c Z hx hb hr F hlk hnm hK hN hA H locs hP hD hS ls hl
  have hl : lv_has ls 4 [(0, .ref qY), (1, .ref qC)] := hl
  have F : CallFix p m c cX4_gather 4 s args wsX4_gather RX4 := F
  have hts := F.2.2.2.2
  have hown : s.vm.findClass RX4 = some m.cls := F.2.2.2.1
  have hi4 : ∀ w ∈ u_ws RX4 TX4 4, w ∈ wsX4_gather := by decide +kernel
  dsimp only [f_X4_gather] at hF
  refine lv_aload_n hx hb dX4_gather_0 rfl (lv_at hl 0 rfl) ?_
  refine lv_aload_n hx hb dX4_gather_1 rfl (lv_at hl 1 rfl) ?_
  obtain ⟨σY_1, h_2, hF⟩ := q_cl_s hF
  refine gcV_v (As := [.ref qC]) (rest := []) (ci := 4) (q := (RX4, TX4, 4)) F hK hN hP hD hS hA (m_X4_fadeAll l g H.size qY AY σY qC AC σC σY_1 h_2) gX4_gather_X4_fadeAll kX4_fadeAll rfl rfl rfl rfl ⟨(Nat.le_of_ble_eq_true rfl), (Nat.le_of_ble_eq_true rfl)⟩ [0, 1, 2, 3, 4, 5, 6, 7, 8, 9, 10, 11] [] rfl rfl rfl (by decide) rfl rfl rfl rfl rfl hl.1 (Nat.le_of_ble_eq_true rfl) dX4_gather_2 ⟨(Nat.le_of_ble_eq_true rfl), (Nat.le_of_ble_eq_true rfl)⟩ (fun u_w H locs hw hP hD hS => ?_)
  have hP : va_P g.1 vwCl (wX4 g qY AY σY_1 ++ wX1 g qC AC σC) H := hP
  have hD : va_D Z (wX4 g qY AY σY_1 ++ wX1 g qC AC σC) := hD
  refine lv_aload_n hx hb dX4_gather_5 rfl (lv_at hl 0 rfl) ?_
  refine lv_iconst (v := 0) hx hb dX4_gather_6 (by decide) ?_
  obtain ⟨σY_3, e_4, hF⟩ := q_bd_s hF
  refine va_put (D := g.1) (ci := 4) (v := .int 0) (ty := .int) (C := RX4) (T := TX4) (N := 4) hx hb hts hi4 tyX4 tyX4_ok nmX4 hown hK hP hD hS 0 rfl rfl 3 (by decide) (hts (.fieldLink RX4 25 "PanTales$Sayings" "count" "I") (by decide +kernel)) (fun _ h9 => h9) rfl (by decide +kernel) rfl rfl (Nat.le_of_ble_eq_true rfl) dX4_gather_7 (fun H locs hP hD hS => ?_)
  have hP : va_P g.1 vwCl (wX4 g qY AY (q_pt σY_1 3 (0 : Int32)) ++ wX1 g qC AC σC) H := hP
  have hD : va_D Z (wX4 g qY AY (q_pt σY_1 3 (0 : Int32)) ++ wX1 g qC AC σC) := hD
  rw [e_4] at hP hD
  refine lv_iconst (v := 0) hx hb dX4_gather_10 (by decide) ?_
  refine lv_istore_n (lv' := [(2, .int 0), (0, .ref qY), (1, .ref qC)]) hx hb dX4_gather_11 rfl hl (by decide) rfl (fun ls hl => ?_)
  refine q_loop (fun u0 => wX4 g qY AY u0.2 ++ wX1 g qC AC σC) (fun u0 => [(2, .int u0.1), (0, .ref qY), (1, .ref qC)]) 85 hF ?_ ?_ hP hD hS (lv_sub hl [0, 1, 2] rfl)
  · rintro ⟨v2_5, σY_5⟩ hF H locs ls hP hD hS hl
    try dsimp only at hF
    have hP : va_P g.1 vwCl (wX4 g qY AY σY_5 ++ wX1 g qC AC σC) H := hP
    have hD : va_D Z (wX4 g qY AY σY_5 ++ wX1 g qC AC σC) := hD
    have hl : lv_has ls 4 [(2, .int v2_5), (0, .ref qY), (1, .ref qC)] := hl
    cases hF
    exact r_vret hx hb hr hlk hS () trivial hP hD dX4_gather_85
  · rintro k again kk ag ⟨v2_5, σY_5⟩ hF H locs ls hP hD hS hl
    dsimp only [b_X4_gather_12] at hF
    have hP : va_P g.1 vwCl (wX4 g qY AY σY_5 ++ wX1 g qC AC σC) H := hP
    have hD : va_D Z (wX4 g qY AY σY_5 ++ wX1 g qC AC σC) := hD
    have hl : lv_has ls 4 [(2, .int v2_5), (0, .ref qY), (1, .ref qC)] := hl
    refine lv_iload_n hx hb dX4_gather_12 rfl (lv_at hl 0 rfl) ?_
    refine lv_bipush (v := 10) hx hb dX4_gather_13 (by decide) ?_
    refine lv_icmp_ge (tgt := 85) hx hb dX4_gather_15 (by decide) (fun c_6 => ?_) (fun c_6 => ?_)
    · have hF := q_if_t c_6 hF
      exact kk (v2_5, σY_5) hF _ _ _ hP hD hS (lv_sub hl [0, 1, 2] rfl)
    · have hF := q_if_f c_6 hF
      refine lv_iconst (v := 1) hx hb dX4_gather_18 (by decide) ?_
      refine lv_istore_n (lv' := [(3, .int 1), (2, .int v2_5), (0, .ref qY), (1, .ref qC)]) hx hb dX4_gather_19 rfl hl (by decide) rfl (fun ls hl => ?_)
      refine q_loop (fun u0 => wX4 g qY AY u0.2 ++ wX1 g qC AC σC) (fun u0 => [(3, .int u0.1), (2, .int v2_5), (0, .ref qY), (1, .ref qC)]) 79 hF ?_ ?_ hP hD hS (lv_sub hl [0, 1, 2, 3] rfl)
      · rintro ⟨v3_7, σY_7⟩ hF H locs ls hP hD hS hl
        try dsimp only at hF
        have hP : va_P g.1 vwCl (wX4 g qY AY σY_7 ++ wX1 g qC AC σC) H := hP
        have hD : va_D Z (wX4 g qY AY σY_7 ++ wX1 g qC AC σC) := hD
        have hl : lv_has ls 4 [(3, .int v3_7), (2, .int v2_5), (0, .ref qY), (1, .ref qC)] := hl
        refine lv_iinc (v := v2_5 + 1) (lv' := [(2, .int (v2_5 + 1)), (3, .int v3_7), (0, .ref qY), (1, .ref qC)]) hx hb dX4_gather_79 hl (k := 1) rfl rfl (by decide) rfl (fun ls hl => ?_)
        refine lv_goto (tgt := 12) hx hb dX4_gather_82 (by decide) ?_
        exact ag (v2_5 + 1, σY_7) hF _ _ _ hP hD hS (lv_sub hl [0, 2, 3] rfl)
      · rintro k again kk ag ⟨v3_7, σY_7⟩ hF H locs ls hP hD hS hl
        dsimp only [b_X4_gather_20] at hF
        have hP : va_P g.1 vwCl (wX4 g qY AY σY_7 ++ wX1 g qC AC σC) H := hP
        have hD : va_D Z (wX4 g qY AY σY_7 ++ wX1 g qC AC σC) := hD
        have hl : lv_has ls 4 [(3, .int v3_7), (2, .int v2_5), (0, .ref qY), (1, .ref qC)] := hl
        refine lv_iload_n hx hb dX4_gather_20 rfl (lv_at hl 0 rfl) ?_
        refine lv_iconst (v := 5) hx hb dX4_gather_21 (by decide) ?_
        refine lv_icmp_gt (tgt := 79) hx hb dX4_gather_22 (by decide) (fun c_8 => ?_) (fun c_8 => ?_)
        · have hF := q_if_t c_8 hF
          exact kk (v3_7, σY_7) hF _ _ _ hP hD hS (lv_sub hl [0, 1, 2, 3] rfl)
        · have hF := q_if_f c_8 hF
          refine lv_aload_n hx hb dX4_gather_25 rfl (lv_at hl 2 rfl) ?_
          refine lv_aload_n hx hb dX4_gather_26 rfl (lv_at hl 3 rfl) ?_
          refine lv_iload_n hx hb dX4_gather_27 rfl (lv_at hl 1 rfl) ?_
          refine lv_iload_n hx hb dX4_gather_28 rfl (lv_at hl 0 rfl) ?_
          obtain ⟨r_9, h_10, hF⟩ := q_cl_s hF
          refine gcV_i (As := [.ref qC, .int v2_5, .int v3_7]) (rest := []) (ci := 4) (q := (RX4, TX4, 4)) F hK hN hP hD hS hA (m_X4_isSo l g H.size qY AY σY_7 qC AC σC v2_5 v3_7 r_9 h_10) gX4_gather_X4_isSo kX4_isSo rfl rfl rfl rfl ⟨(Nat.le_of_ble_eq_true rfl), (Nat.le_of_ble_eq_true rfl)⟩ [0, 1, 2, 3, 4, 5, 6, 7, 8, 9, 10, 11] [] rfl rfl rfl (by decide) rfl rfl rfl rfl rfl hl.1 (Nat.le_of_ble_eq_true rfl) dX4_gather_29 ⟨(Nat.le_of_ble_eq_true rfl), (Nat.le_of_ble_eq_true rfl)⟩ (fun r_w u_w H locs hw hP hD hS => ?_)
          have hP : va_P g.1 vwCl (wX4 g qY AY σY_7 ++ wX1 g qC AC σC) H := hP
          have hD : va_D Z (wX4 g qY AY σY_7 ++ wX1 g qC AC σC) := hD
          obtain rfl : r_9 = r_w := hw.symm
          refine lv_if_eq (tgt := 73) hx hb dX4_gather_32 (by decide) (fun c_11 => ?_) (fun c_11 => ?_)
          · have hF := q_if_t c_11 hF
            refine lv_iinc (v := v3_7 + 1) (lv' := [(3, .int (v3_7 + 1)), (2, .int v2_5), (0, .ref qY), (1, .ref qC)]) hx hb dX4_gather_73 hl (k := 0) rfl rfl (by decide) rfl (fun ls hl => ?_)
            refine lv_goto (tgt := 20) hx hb dX4_gather_76 (by decide) ?_
            exact ag (v3_7 + 1, σY_7) hF _ _ _ hP hD hS (lv_sub hl [0, 1, 2, 3] rfl)
          · have hF := q_if_f c_11 hF
            refine lv_aload_n hx hb dX4_gather_35 rfl (lv_at hl 2 rfl) ?_
            refine va_get (D := g.1) (ci := 4) (v := .int (σY_7 99 3)) (C := RX4) (T := TX4) (N := 4) hx hb hts hi4 hown hK hP 0 rfl rfl 3 (by decide) (hts (.fieldLink RX4 25 "PanTales$Sayings" "count" "I") (by decide +kernel)) (fun _ h9 => h9) rfl dX4_gather_36 ?_
            refine lv_iconst (v := 0) hx hb dX4_gather_39 (by decide) ?_
            refine lv_bipush (v := 49) hx hb dX4_gather_40 (by decide) ?_
            obtain ⟨r_12, h_13, hF⟩ := q_cl_s hF
            refine gcPN (As := [.int (σY_7 99 3), .int 0, .int 49]) (rest := []) F (m_X6_within l (σY_7 99 3) (0 : Int32) (49 : Int32) r_12 h_13) gX4_gather_X6_within_n33 kX6_within (hts (.initialized RX6) (by decide +kernel)) (hN.get 16 rfl) (hts (.static yX6_within) (by decide +kernel)) rfl rfl rfl ⟨(Nat.le_of_ble_eq_true rfl), (Nat.le_of_ble_eq_true rfl)⟩ rfl rfl hl.1 (Nat.le_of_ble_eq_true rfl) dX4_gather_42 ⟨(Nat.le_of_ble_eq_true rfl), (Nat.le_of_ble_eq_true rfl)⟩ ?_
            refine lv_if_eq (tgt := 73) hx hb dX4_gather_45 (by decide) (fun c_14 => ?_) (fun c_14 => ?_)
            · have hF := q_if_t c_14 hF
              refine lv_iinc (v := v3_7 + 1) (lv' := [(3, .int (v3_7 + 1)), (2, .int v2_5), (0, .ref qY), (1, .ref qC)]) hx hb dX4_gather_73 hl (k := 0) rfl rfl (by decide) rfl (fun ls hl => ?_)
              refine lv_goto (tgt := 20) hx hb dX4_gather_76 (by decide) ?_
              exact ag (v3_7 + 1, σY_7) hF _ _ _ hP hD hS (lv_sub hl [0, 1, 2, 3] rfl)
            · have hF := q_if_f c_14 hF
              refine lv_aload_n hx hb dX4_gather_48 rfl (lv_at hl 2 rfl) ?_
              refine va_get (D := g.1) (ci := 4) (v := .ref (AY 1)) (C := RX4) (T := TX4) (N := 4) hx hb hts hi4 hown hK hP 0 rfl rfl 1 (by decide) (hts (.fieldLink RX4 15 "PanTales$Sayings" "twos" "[I") (by decide +kernel)) (fun _ h9 => h9) rfl dX4_gather_49 ?_
              refine lv_aload_n hx hb dX4_gather_52 rfl (lv_at hl 2 rfl) ?_
              refine va_get (D := g.1) (ci := 4) (v := .int (σY_7 99 3)) (C := RX4) (T := TX4) (N := 4) hx hb hts hi4 hown hK hP 0 rfl rfl 3 (by decide) (hts (.fieldLink RX4 25 "PanTales$Sayings" "count" "I") (by decide +kernel)) (fun _ h9 => h9) rfl dX4_gather_53 ?_
              refine lv_bipush (v := 10) hx hb dX4_gather_56 (by decide) ?_
              refine lv_iload_n hx hb dX4_gather_58 rfl (lv_at hl 1 rfl) ?_
              refine lv_imul hx hb dX4_gather_59 ?_
              refine lv_iload_n hx hb dX4_gather_60 rfl (lv_at hl 0 rfl) ?_
              refine lv_iadd hx hb dX4_gather_61 ?_
              obtain ⟨σY_15, i_16, e_17, hF⟩ := q_wr_s hF
              refine r_iast (f' := upd (σY_7 1) (σY_7 99 3).toNatClampNeg (((10 : Int32) * v2_5) + v3_7)) hx hb hK hP hD hS 2 rfl i_16 (fun _ _ => rfl) dX4_gather_62 (fun H locs hP hD hS => ?_)
              have hP : va_P g.1 vwCl (wX4 g qY AY (q_up σY_7 1 (upd (σY_7 1) (σY_7 99 3).toNatClampNeg (((10 : Int32) * v2_5) + v3_7))) ++ wX1 g qC AC σC) H := hP
              have hD : va_D Z (wX4 g qY AY (q_up σY_7 1 (upd (σY_7 1) (σY_7 99 3).toNatClampNeg (((10 : Int32) * v2_5) + v3_7))) ++ wX1 g qC AC σC) := hD
              rw [e_17] at hP hD
              refine lv_aload_n hx hb dX4_gather_63 rfl (lv_at hl 2 rfl) ?_
              refine lv_dup hx hb dX4_gather_64 rfl ?_
              refine va_get (D := g.1) (ci := 4) (v := .int (σY_15 99 3)) (C := RX4) (T := TX4) (N := 4) hx hb hts hi4 hown hK hP 0 rfl rfl 3 (by decide) (hts (.fieldLink RX4 25 "PanTales$Sayings" "count" "I") (by decide +kernel)) (fun _ h9 => h9) rfl dX4_gather_65 ?_
              refine lv_iconst (v := 1) hx hb dX4_gather_68 (by decide) ?_
              refine lv_iadd hx hb dX4_gather_69 ?_
              obtain ⟨σY_18, e_19, hF⟩ := q_bd_s hF
              refine va_put (D := g.1) (ci := 4) (v := .int ((σY_15 99 3) + 1)) (ty := .int) (C := RX4) (T := TX4) (N := 4) hx hb hts hi4 tyX4 tyX4_ok nmX4 hown hK hP hD hS 0 rfl rfl 3 (by decide) (hts (.fieldLink RX4 25 "PanTales$Sayings" "count" "I") (by decide +kernel)) (fun _ h9 => h9) rfl (by decide +kernel) rfl rfl (Nat.le_of_ble_eq_true rfl) dX4_gather_70 (fun H locs hP hD hS => ?_)
              have hP : va_P g.1 vwCl (wX4 g qY AY (q_pt σY_15 3 ((σY_15 99 3) + 1)) ++ wX1 g qC AC σC) H := hP
              have hD : va_D Z (wX4 g qY AY (q_pt σY_15 3 ((σY_15 99 3) + 1)) ++ wX1 g qC AC σC) := hD
              rw [e_19] at hP hD
              refine lv_iinc (v := v3_7 + 1) (lv' := [(3, .int (v3_7 + 1)), (2, .int v2_5), (0, .ref qY), (1, .ref qC)]) hx hb dX4_gather_73 hl (k := 0) rfl rfl (by decide) rfl (fun ls hl => ?_)
              refine lv_goto (tgt := 20) hx hb dX4_gather_76 (by decide) ?_
              exact ag (v3_7 + 1, σY_18) hF _ _ _ hP hD hS (lv_sub hl [0, 1, 2, 3] rfl)
set_option maxHeartbeats 4000000 in
set_option maxRecDepth 100000 in
theorem m_X4_size (l : Launch) (g : GT) (sz : Nat) (qY : Nat) (AY : Nat → Nat) (σY : qS) (rr : Int32) (hF : f_X4_size σY = some rr) : Ci l yX4_size wsX4_size { frames := 0, cells := 0, slots := 0, locals := 0 } g sz [.ref qY] (wX4 g qY AY σY) rr (wX4 g qY AY σY) := by
  refine gMet_i (cc := cX4_size) (maxL := 1) (ret := (some .int)) (by decide) rfl (Nat.le_of_ble_eq_true rfl) ?_
  intro p e s m args below meth c Z hx hb hr F hlk hnm hK hN hA H locs hP hD hS ls hl
  have hl : lv_has ls 1 [(0, .ref qY)] := hl
  have F : CallFix p m c cX4_size 1 s args wsX4_size RX4 := F
  have hts := F.2.2.2.2
  have hown : s.vm.findClass RX4 = some m.cls := F.2.2.2.1
  have hi4 : ∀ w ∈ u_ws RX4 TX4 4, w ∈ wsX4_size := by decide +kernel
  dsimp only [f_X4_size] at hF
  refine lv_aload_n hx hb dX4_size_0 rfl (lv_at hl 0 rfl) ?_
  refine va_get (D := g.1) (ci := 4) (v := .int (σY 99 3)) (C := RX4) (T := TX4) (N := 4) hx hb hts hi4 hown hK hP 0 rfl rfl 3 (by decide) (hts (.fieldLink RX4 25 "PanTales$Sayings" "count" "I") (by decide +kernel)) (fun _ h9 => h9) rfl dX4_size_1 ?_
  cases hF
  exact r_iret hx hb hr hlk hS () rfl hP hD dX4_size_4
set_option maxHeartbeats 4000000 in
set_option maxRecDepth 100000 in
theorem m_X4_pick (l : Launch) (g : GT) (sz : Nat) (qY : Nat) (AY : Nat → Nat) (σY : qS) (a1 : Int32) (rr : Int32) (hF : f_X4_pick σY a1 = some rr) : Ci l yX4_pick wsX4_pick { frames := 1, cells := 0, slots := 0, locals := 22 } g sz [.ref qY, .int a1] (wX4 g qY AY σY) rr (wX4 g qY AY σY) := by
  refine gMet_i (cc := cX4_pick) (maxL := 2) (ret := (some .int)) (by decide) rfl (Nat.le_of_ble_eq_true rfl) ?_
  intro p e s m args below meth c Z hx hb hr F hlk hnm hK hN hA H locs hP hD hS ls hl
  have hl : lv_has ls 2 [(0, .ref qY), (1, .int a1)] := hl
  have F : CallFix p m c cX4_pick 2 s args wsX4_pick RX4 := F
  have hts := F.2.2.2.2
  have hown : s.vm.findClass RX4 = some m.cls := F.2.2.2.1
  have hi4 : ∀ w ∈ u_ws RX4 TX4 4, w ∈ wsX4_pick := by decide +kernel
  dsimp only [f_X4_pick] at hF
  refine lv_iload_n hx hb dX4_pick_0 rfl (lv_at hl 1 rfl) ?_
  refine lv_iconst (v := 0) hx hb dX4_pick_1 (by decide) ?_
  refine lv_bipush (v := 49) hx hb dX4_pick_2 (by decide) ?_
  obtain ⟨r_1, h_2, hF⟩ := q_cl_s hF
  refine gcPN (As := [.int a1, .int 0, .int 49]) (rest := []) F (m_X6_within l a1 (0 : Int32) (49 : Int32) r_1 h_2) gX4_pick_X6_within_n33 kX6_within (hts (.initialized RX6) (by decide +kernel)) (hN.get 16 rfl) (hts (.static yX6_within) (by decide +kernel)) rfl rfl rfl ⟨(Nat.le_of_ble_eq_true rfl), (Nat.le_of_ble_eq_true rfl)⟩ rfl rfl hl.1 (Nat.le_of_ble_eq_true rfl) dX4_pick_4 ⟨(Nat.le_of_ble_eq_true rfl), (Nat.le_of_ble_eq_true rfl)⟩ ?_
  refine lv_if_eq (tgt := 27) hx hb dX4_pick_7 (by decide) (fun c_3 => ?_) (fun c_3 => ?_)
  · have hF := q_if_t c_3 hF
    refine lv_bipush (v := (-6)) hx hb dX4_pick_27 (by decide) ?_
    cases hF
    exact r_iret hx hb hr hlk hS () rfl hP hD dX4_pick_29
  · have hF := q_if_f c_3 hF
    refine lv_iload_n hx hb dX4_pick_10 rfl (lv_at hl 1 rfl) ?_
    refine lv_aload_n hx hb dX4_pick_11 rfl (lv_at hl 0 rfl) ?_
    refine va_get (D := g.1) (ci := 4) (v := .int (σY 99 3)) (C := RX4) (T := TX4) (N := 4) hx hb hts hi4 hown hK hP 0 rfl rfl 3 (by decide) (hts (.fieldLink RX4 25 "PanTales$Sayings" "count" "I") (by decide +kernel)) (fun _ h9 => h9) rfl dX4_pick_12 ?_
    refine lv_icmp_ge (tgt := 27) hx hb dX4_pick_15 (by decide) (fun c_4 => ?_) (fun c_4 => ?_)
    · have hF := q_if_t c_4 hF
      refine lv_bipush (v := (-6)) hx hb dX4_pick_27 (by decide) ?_
      cases hF
      exact r_iret hx hb hr hlk hS () rfl hP hD dX4_pick_29
    · have hF := q_if_f c_4 hF
      refine lv_aload_n hx hb dX4_pick_18 rfl (lv_at hl 0 rfl) ?_
      refine va_get (D := g.1) (ci := 4) (v := .ref (AY 1)) (C := RX4) (T := TX4) (N := 4) hx hb hts hi4 hown hK hP 0 rfl rfl 1 (by decide) (hts (.fieldLink RX4 15 "PanTales$Sayings" "twos" "[I") (by decide +kernel)) (fun _ h9 => h9) rfl dX4_pick_19 ?_
      refine lv_iload_n hx hb dX4_pick_22 rfl (lv_at hl 1 rfl) ?_
      obtain ⟨r_5, i_6, e_7, hF⟩ := q_rd_s hF
      refine r_iald (v := r_5) hx hb hK hP 2 rfl i_6 e_7 dX4_pick_23 ?_
      refine lv_goto (tgt := 29) hx hb dX4_pick_24 (by decide) ?_
      cases hF
      exact r_iret hx hb hr hlk hS () rfl hP hD dX4_pick_29
set_option maxHeartbeats 4000000 in
set_option maxRecDepth 100000 in
theorem m_X4_mostLeft (l : Launch) (g : GT) (sz : Nat) (qY : Nat) (AY : Nat → Nat) (σY : qS) (a1 : Int32) (rr : Int32) (σY' : qS) (hF : f_X4_mostLeft σY a1 = some (rr, σY')) : Ci l yX4_mostLeft wsX4_mostLeft { frames := 2, cells := 0, slots := 0, locals := 46 } g sz [.ref qY, .int a1] (wX4 g qY AY σY) rr (wX4 g qY AY σY') := by
  refine gMet_i (cc := cX4_mostLeft) (maxL := 6) (ret := (some .int)) (by decide) rfl (Nat.le_of_ble_eq_true rfl) ?_
  intro p e s m args below meth c Z hx hb hr F hlk hnm hK hN hA H locs hP hD hS ls hl
  have hl : lv_has ls 6 [(0, .ref qY), (1, .int a1)] := hl
  have F : CallFix p m c cX4_mostLeft 6 s args wsX4_mostLeft RX4 := F
  have hts := F.2.2.2.2
  have hown : s.vm.findClass RX4 = some m.cls := F.2.2.2.1
  have hi4 : ∀ w ∈ u_ws RX4 TX4 4, w ∈ wsX4_mostLeft := by decide +kernel
  dsimp only [f_X4_mostLeft] at hF
  refine lv_aload_n hx hb dX4_mostLeft_0 rfl (lv_at hl 0 rfl) ?_
  refine va_get (D := g.1) (ci := 4) (v := .ref (AY 2)) (C := RX4) (T := TX4) (N := 4) hx hb hts hi4 hown hK hP 0 rfl rfl 2 (by decide) (hts (.fieldLink RX4 18 "PanTales$Sayings" "left" "[I") (by decide +kernel)) (fun _ h9 => h9) rfl dX4_mostLeft_1 ?_
  refine lv_iconst (v := 0) hx hb dX4_mostLeft_4 (by decide) ?_
  obtain ⟨σt_1, h_2, hF⟩ := q_cl_s hF
  refine gcS_v (As := [.ref (AY 2), .int 0]) (rest := []) F hK hN hP hD hS hA (m_J7_fill_53178 l g H.size (AY 2) 10 (fun _ => σY 2) (0 : Int32) σt_1 h_2) gX4_mostLeft_J7_fill_53178 kJ7_fill_53178 rfl rfl rfl ⟨(Nat.le_of_ble_eq_true rfl), (Nat.le_of_ble_eq_true rfl)⟩ [3] [0, 1, 2] rfl rfl rfl (by decide) rfl rfl rfl hl.1 (Nat.le_of_ble_eq_true rfl) dX4_mostLeft_5 ⟨(Nat.le_of_ble_eq_true rfl), (Nat.le_of_ble_eq_true rfl)⟩ (fun u_w H locs hw hP hD hS => ?_)
  obtain ⟨σY_3, e_4, hF⟩ := q_bd_s hF
  have hP : va_P g.1 vwCl (wX4 g qY AY (q_up σY 2 (σt_1 0))) H := hP
  have hD : va_D Z (wX4 g qY AY (q_up σY 2 (σt_1 0))) := hD
  rw [e_4] at hP hD
  refine lv_iconst (v := 0) hx hb dX4_mostLeft_8 (by decide) ?_
  refine lv_istore_n (lv' := [(2, .int 0), (0, .ref qY), (1, .int a1)]) hx hb dX4_mostLeft_9 rfl hl (by decide) rfl (fun ls hl => ?_)
  refine lv_iconst (v := 0) hx hb dX4_mostLeft_10 (by decide) ?_
  refine lv_istore_n (lv' := [(3, .int 0), (2, .int 0), (0, .ref qY), (1, .int a1)]) hx hb dX4_mostLeft_11 rfl hl (by decide) rfl (fun ls hl => ?_)
  refine q_loop (fun u0 => wX4 g qY AY u0.2.2) (fun u0 => [(3, .int u0.1), (2, .int u0.2.1), (0, .ref qY), (1, .int a1)]) 81 hF ?_ ?_ hP hD hS (lv_sub hl [0, 1, 2, 3] rfl)
  · rintro ⟨v3_5, v2_5, σY_5⟩ hF H locs ls hP hD hS hl
    try dsimp only at hF
    have hP : va_P g.1 vwCl (wX4 g qY AY σY_5) H := hP
    have hD : va_D Z (wX4 g qY AY σY_5) := hD
    have hl : lv_has ls 6 [(3, .int v3_5), (2, .int v2_5), (0, .ref qY), (1, .int a1)] := hl
    refine lv_iload_n hx hb dX4_mostLeft_81 rfl (lv_at hl 1 rfl) ?_
    cases hF
    exact r_iret hx hb hr hlk hS () rfl hP hD dX4_mostLeft_82
  · rintro k again kk ag ⟨v3_5, v2_5, σY_5⟩ hF H locs ls hP hD hS hl
    dsimp only [b_X4_mostLeft_12] at hF
    have hP : va_P g.1 vwCl (wX4 g qY AY σY_5) H := hP
    have hD : va_D Z (wX4 g qY AY σY_5) := hD
    have hl : lv_has ls 6 [(3, .int v3_5), (2, .int v2_5), (0, .ref qY), (1, .int a1)] := hl
    refine lv_iload_n hx hb dX4_mostLeft_12 rfl (lv_at hl 0 rfl) ?_
    refine lv_aload_n hx hb dX4_mostLeft_13 rfl (lv_at hl 2 rfl) ?_
    refine va_get (D := g.1) (ci := 4) (v := .int (σY_5 99 3)) (C := RX4) (T := TX4) (N := 4) hx hb hts hi4 hown hK hP 0 rfl rfl 3 (by decide) (hts (.fieldLink RX4 25 "PanTales$Sayings" "count" "I") (by decide +kernel)) (fun _ h9 => h9) rfl dX4_mostLeft_14 ?_
    refine lv_icmp_ge (tgt := 81) hx hb dX4_mostLeft_17 (by decide) (fun c_6 => ?_) (fun c_6 => ?_)
    · have hF := q_if_t c_6 hF
      exact kk (v3_5, v2_5, σY_5) hF _ _ _ hP hD hS (lv_sub hl [0, 1, 2, 3] rfl)
    · have hF := q_if_f c_6 hF
      refine lv_aload_n hx hb dX4_mostLeft_20 rfl (lv_at hl 2 rfl) ?_
      refine lv_iload_n hx hb dX4_mostLeft_21 rfl (lv_at hl 0 rfl) ?_
      obtain ⟨r_7, h_8, hF⟩ := q_cl_s hF
      refine gcV_i (As := [.int v3_5]) (rest := []) (ci := 4) (q := (RX4, TX4, 4)) F hK hN hP hD hS hA (m_X4_pick l g H.size qY AY σY_5 v3_5 r_7 h_8) gX4_mostLeft_X4_pick kX4_pick rfl rfl rfl rfl ⟨(Nat.le_of_ble_eq_true rfl), (Nat.le_of_ble_eq_true rfl)⟩ [0, 1, 2, 3] [] rfl rfl rfl (by decide) rfl rfl rfl rfl rfl hl.1 (Nat.le_of_ble_eq_true rfl) dX4_mostLeft_22 ⟨(Nat.le_of_ble_eq_true rfl), (Nat.le_of_ble_eq_true rfl)⟩ (fun r_w u_w H locs hw hP hD hS => ?_)
      have hP : va_P g.1 vwCl (wX4 g qY AY σY_5) H := hP
      have hD : va_D Z (wX4 g qY AY σY_5) := hD
      obtain rfl : r_7 = r_w := hw.symm
      refine lv_istore (lv' := [(4, .int r_7), (3, .int v3_5), (2, .int v2_5), (0, .ref qY), (1, .int a1)]) hx hb dX4_mostLeft_25 hl (by decide) rfl (fun ls hl => ?_)
      refine lv_aload_n hx hb dX4_mostLeft_27 rfl (lv_at hl 3 rfl) ?_
      refine lv_iload hx hb dX4_mostLeft_28 (lv_at hl 0 rfl) ?_
      refine lv_bipush (v := 10) hx hb dX4_mostLeft_30 (by decide) ?_
      refine lv_idiv hx hb dX4_mostLeft_32 (by decide) ?_
      refine lv_iload hx hb dX4_mostLeft_33 (lv_at hl 0 rfl) ?_
      refine lv_bipush (v := 10) hx hb dX4_mostLeft_35 (by decide) ?_
      refine lv_irem hx hb dX4_mostLeft_37 (by decide) ?_
      refine lv_iload_n hx hb dX4_mostLeft_38 rfl (lv_at hl 4 rfl) ?_
      obtain ⟨r_9, h_10, hF⟩ := q_cl_s hF
      refine gcV_i (As := [.int (r_7 / 10), .int (r_7 - r_7 / 10 * 10), .int a1]) (rest := []) (ci := 4) (q := (RX4, TX4, 4)) F hK hN hP hD hS hA (m_X4_taleInBed l g H.size qY AY σY_5 (r_7 / 10) (r_7 - r_7 / 10 * 10) a1 r_9 h_10) gX4_mostLeft_X4_taleInBed kX4_taleInBed rfl rfl rfl rfl ⟨(Nat.le_of_ble_eq_true rfl), (Nat.le_of_ble_eq_true rfl)⟩ [0, 1, 2, 3] [] rfl rfl rfl (by decide) rfl rfl rfl rfl rfl hl.1 (Nat.le_of_ble_eq_true rfl) dX4_mostLeft_39 ⟨(Nat.le_of_ble_eq_true rfl), (Nat.le_of_ble_eq_true rfl)⟩ (fun r_w u_w H locs hw hP hD hS => ?_)
      have hP : va_P g.1 vwCl (wX4 g qY AY σY_5) H := hP
      have hD : va_D Z (wX4 g qY AY σY_5) := hD
      obtain rfl : r_9 = r_w := hw.symm
      refine lv_istore (lv' := [(5, .int r_9), (4, .int r_7), (3, .int v3_5), (2, .int v2_5), (0, .ref qY), (1, .int a1)]) hx hb dX4_mostLeft_42 hl (by decide) rfl (fun ls hl => ?_)
      refine lv_iload hx hb dX4_mostLeft_44 (lv_at hl 0 rfl) ?_
      obtain ⟨r_11, h_12, hF⟩ := q_cl_s hF
      refine gcPN (As := [.int r_9]) (rest := []) F (m_X6_isTale l r_9 r_11 h_12) gX4_mostLeft_X6_isTale_n57 kX6_isTale (hts (.initialized RX6) (by decide +kernel)) (hN.get 15 rfl) (hts (.static yX6_isTale) (by decide +kernel)) rfl rfl rfl ⟨(Nat.le_of_ble_eq_true rfl), (Nat.le_of_ble_eq_true rfl)⟩ rfl rfl hl.1 (Nat.le_of_ble_eq_true rfl) dX4_mostLeft_46 ⟨(Nat.le_of_ble_eq_true rfl), (Nat.le_of_ble_eq_true rfl)⟩ ?_
      refine lv_if_eq (tgt := 75) hx hb dX4_mostLeft_49 (by decide) (fun c_13 => ?_) (fun c_13 => ?_)
      · have hF := q_if_t c_13 hF
        refine lv_iinc (v := v3_5 + 1) (lv' := [(3, .int (v3_5 + 1)), (5, .int r_9), (4, .int r_7), (2, .int v2_5), (0, .ref qY), (1, .int a1)]) hx hb dX4_mostLeft_75 hl (k := 2) rfl rfl (by decide) rfl (fun ls hl => ?_)
        refine lv_goto (tgt := 12) hx hb dX4_mostLeft_78 (by decide) ?_
        exact ag (v3_5 + 1, v2_5, σY_5) hF _ _ _ hP hD hS (lv_sub hl [0, 3, 4, 5] rfl)
      · have hF := q_if_f c_13 hF
        refine lv_aload_n hx hb dX4_mostLeft_52 rfl (lv_at hl 4 rfl) ?_
        refine va_get (D := g.1) (ci := 4) (v := .ref (AY 2)) (C := RX4) (T := TX4) (N := 4) hx hb hts hi4 hown hK hP 0 rfl rfl 2 (by decide) (hts (.fieldLink RX4 18 "PanTales$Sayings" "left" "[I") (by decide +kernel)) (fun _ h9 => h9) rfl dX4_mostLeft_53 ?_
        refine lv_iload hx hb dX4_mostLeft_56 (lv_at hl 0 rfl) ?_
        refine lv_dup2_11 hx hb dX4_mostLeft_58 rfl rfl ?_
        obtain ⟨r_14, i_15, e_16, hF⟩ := q_rd_s hF
        refine r_iald (v := r_14) hx hb hK hP 3 rfl i_15 e_16 dX4_mostLeft_59 ?_
        refine lv_iconst (v := 1) hx hb dX4_mostLeft_60 (by decide) ?_
        refine lv_iadd hx hb dX4_mostLeft_61 ?_
        obtain ⟨σY_17, i_18, e_19, hF⟩ := q_wr_s hF
        refine r_iast (f' := upd (σY_5 2) r_9.toNatClampNeg (r_14 + 1)) hx hb hK hP hD hS 3 rfl i_18 (fun _ _ => rfl) dX4_mostLeft_62 (fun H locs hP hD hS => ?_)
        have hP : va_P g.1 vwCl (wX4 g qY AY (q_up σY_5 2 (upd (σY_5 2) r_9.toNatClampNeg (r_14 + 1)))) H := hP
        have hD : va_D Z (wX4 g qY AY (q_up σY_5 2 (upd (σY_5 2) r_9.toNatClampNeg (r_14 + 1)))) := hD
        rw [e_19] at hP hD
        refine lv_iload_n hx hb dX4_mostLeft_63 rfl (lv_at hl 3 rfl) ?_
        refine lv_aload_n hx hb dX4_mostLeft_64 rfl (lv_at hl 4 rfl) ?_
        refine va_get (D := g.1) (ci := 4) (v := .ref (AY 2)) (C := RX4) (T := TX4) (N := 4) hx hb hts hi4 hown hK hP 0 rfl rfl 2 (by decide) (hts (.fieldLink RX4 18 "PanTales$Sayings" "left" "[I") (by decide +kernel)) (fun _ h9 => h9) rfl dX4_mostLeft_65 ?_
        refine lv_iload hx hb dX4_mostLeft_68 (lv_at hl 0 rfl) ?_
        obtain ⟨r_20, i_21, e_22, hF⟩ := q_rd_s hF
        refine r_iald (v := r_20) hx hb hK hP 3 rfl i_21 e_22 dX4_mostLeft_70 ?_
        refine va_mmax hx hb (F.2.2.1.trans hl.1.symm) hown (hts (.methodLink RX4 73 Lib.Math.max.name) (by decide +kernel)) (hts (.static Lib.Math.max.name) (by decide +kernel)) (hts (.initialized "java/lang/Math") (by decide +kernel)) (hts (.code Lib.Math.max.name Lib.Math.max.code 2 (some .int)) (by decide +kernel)) (Nat.le_of_ble_eq_true rfl) (Nat.le_of_ble_eq_true rfl) (Nat.le_of_ble_eq_true rfl) (Nat.le_of_ble_eq_true rfl) dX4_mostLeft_71 ?_
        obtain ⟨v2_23, e_24, hF⟩ := q_bd_s hF
        refine gtop e_24 ?_
        refine lv_istore_n (lv' := [(2, .int v2_23), (5, .int r_9), (4, .int r_7), (3, .int v3_5), (0, .ref qY), (1, .int a1)]) hx hb dX4_mostLeft_74 rfl hl (by decide) rfl (fun ls hl => ?_)
        refine lv_iinc (v := v3_5 + 1) (lv' := [(3, .int (v3_5 + 1)), (2, .int v2_23), (5, .int r_9), (4, .int r_7), (0, .ref qY), (1, .int a1)]) hx hb dX4_mostLeft_75 hl (k := 3) rfl rfl (by decide) rfl (fun ls hl => ?_)
        refine lv_goto (tgt := 12) hx hb dX4_mostLeft_78 (by decide) ?_
        exact ag (v3_5 + 1, v2_23, σY_17) hF _ _ _ hP hD hS (lv_sub hl [0, 1, 4, 5] rfl)
set_option maxHeartbeats 4000000 in
set_option maxRecDepth 100000 in
theorem m_X4_bedToAsk (l : Launch) (g : GT) (sz : Nat) (qY : Nat) (AY : Nat → Nat) (σY : qS) (rr : Int32) (σY' : qS) (hF : f_X4_bedToAsk σY = some (rr, σY')) : Ci l yX4_bedToAsk wsX4_bedToAsk { frames := 3, cells := 0, slots := 0, locals := 71 } g sz [.ref qY] (wX4 g qY AY σY) rr (wX4 g qY AY σY') := by
  refine gMet_i (cc := cX4_bedToAsk) (maxL := 5) (ret := (some .int)) (by decide) rfl (Nat.le_of_ble_eq_true rfl) ?_
  intro p e s m args below meth c Z hx hb hr F hlk hnm hK hN hA H locs hP hD hS ls hl
  have hl : lv_has ls 5 [(0, .ref qY)] := hl
  have F : CallFix p m c cX4_bedToAsk 5 s args wsX4_bedToAsk RX4 := F
  have hts := F.2.2.2.2
  have hown : s.vm.findClass RX4 = some m.cls := F.2.2.2.1
  have hi4 : ∀ w ∈ u_ws RX4 TX4 4, w ∈ wsX4_bedToAsk := by decide +kernel
  dsimp only [f_X4_bedToAsk] at hF
  refine lv_aload_n hx hb dX4_bedToAsk_0 rfl (lv_at hl 0 rfl) ?_
  refine va_get (D := g.1) (ci := 4) (v := .int (σY 99 3)) (C := RX4) (T := TX4) (N := 4) hx hb hts hi4 hown hK hP 0 rfl rfl 3 (by decide) (hts (.fieldLink RX4 25 "PanTales$Sayings" "count" "I") (by decide +kernel)) (fun _ h9 => h9) rfl dX4_bedToAsk_1 ?_
  refine lv_if_ne (tgt := 10) hx hb dX4_bedToAsk_4 (by decide) (fun c_1 => ?_) (fun c_1 => ?_)
  · have hF := q_if_f c_1 hF
    refine lv_iconst (v := 0) hx hb dX4_bedToAsk_10 (by decide) ?_
    refine lv_istore_n (lv' := [(1, .int 0), (0, .ref qY)]) hx hb dX4_bedToAsk_11 rfl hl (by decide) rfl (fun ls hl => ?_)
    refine lv_aload_n hx hb dX4_bedToAsk_12 rfl (lv_at hl 1 rfl) ?_
    refine lv_iconst (v := 0) hx hb dX4_bedToAsk_13 (by decide) ?_
    obtain ⟨⟨r_2, σY_3⟩, h_4, hF⟩ := q_cl_s hF
    try dsimp only at hF
    refine gcV_i (As := [.int 0]) (rest := []) (ci := 4) (q := (RX4, TX4, 4)) F hK hN hP hD hS hA (m_X4_mostLeft l g H.size qY AY σY (0 : Int32) r_2 σY_3 h_4) gX4_bedToAsk_X4_mostLeft kX4_mostLeft rfl rfl rfl rfl ⟨(Nat.le_of_ble_eq_true rfl), (Nat.le_of_ble_eq_true rfl)⟩ [0, 1, 2, 3] [] rfl rfl rfl (by decide) rfl rfl rfl rfl rfl hl.1 (Nat.le_of_ble_eq_true rfl) dX4_bedToAsk_14 ⟨(Nat.le_of_ble_eq_true rfl), (Nat.le_of_ble_eq_true rfl)⟩ (fun r_w u_w H locs hw hP hD hS => ?_)
    have hP : va_P g.1 vwCl (wX4 g qY AY σY_3) H := hP
    have hD : va_D Z (wX4 g qY AY σY_3) := hD
    obtain rfl : r_2 = r_w := hw.symm
    refine lv_istore_n (lv' := [(2, .int r_2), (1, .int 0), (0, .ref qY)]) hx hb dX4_bedToAsk_17 rfl hl (by decide) rfl (fun ls hl => ?_)
    refine lv_iconst (v := 1) hx hb dX4_bedToAsk_18 (by decide) ?_
    refine lv_istore_n (lv' := [(3, .int 1), (2, .int r_2), (1, .int 0), (0, .ref qY)]) hx hb dX4_bedToAsk_19 rfl hl (by decide) rfl (fun ls hl => ?_)
    refine q_loop (fun u0 => wX4 g qY AY u0.2.1) (fun u0 => [(3, .int u0.1), (2, .int u0.2.2.1), (1, .int u0.2.2.2), (0, .ref qY)]) 50 hF ?_ ?_ hP hD hS (lv_sub hl [0, 1, 2, 3] rfl)
    · rintro ⟨v3_6, σY_6, v2_6, v1_6⟩ hF H locs ls hP hD hS hl
      try dsimp only at hF
      have hP : va_P g.1 vwCl (wX4 g qY AY σY_6) H := hP
      have hD : va_D Z (wX4 g qY AY σY_6) := hD
      have hl : lv_has ls 5 [(3, .int v3_6), (2, .int v2_6), (1, .int v1_6), (0, .ref qY)] := hl
      refine lv_iload_n hx hb dX4_bedToAsk_50 rfl (lv_at hl 2 rfl) ?_
      cases hF
      exact r_iret hx hb hr hlk hS () rfl hP hD dX4_bedToAsk_51
    · rintro k again kk ag ⟨v3_6, σY_6, v2_6, v1_6⟩ hF H locs ls hP hD hS hl
      dsimp only [b_X4_bedToAsk_20] at hF
      have hP : va_P g.1 vwCl (wX4 g qY AY σY_6) H := hP
      have hD : va_D Z (wX4 g qY AY σY_6) := hD
      have hl : lv_has ls 5 [(3, .int v3_6), (2, .int v2_6), (1, .int v1_6), (0, .ref qY)] := hl
      refine lv_iload_n hx hb dX4_bedToAsk_20 rfl (lv_at hl 0 rfl) ?_
      refine lv_bipush (v := 41) hx hb dX4_bedToAsk_21 (by decide) ?_
      refine lv_icmp_ge (tgt := 50) hx hb dX4_bedToAsk_23 (by decide) (fun c_7 => ?_) (fun c_7 => ?_)
      · have hF := q_if_t c_7 hF
        exact kk (v3_6, σY_6, v2_6, v1_6) hF _ _ _ hP hD hS (lv_sub hl [0, 1, 2, 3] rfl)
      · have hF := q_if_f c_7 hF
        refine lv_aload_n hx hb dX4_bedToAsk_26 rfl (lv_at hl 3 rfl) ?_
        refine lv_iload_n hx hb dX4_bedToAsk_27 rfl (lv_at hl 0 rfl) ?_
        obtain ⟨⟨r_8, σY_9⟩, h_10, hF⟩ := q_cl_s hF
        try dsimp only at hF
        refine gcV_i (As := [.int v3_6]) (rest := []) (ci := 4) (q := (RX4, TX4, 4)) F hK hN hP hD hS hA (m_X4_mostLeft l g H.size qY AY σY_6 v3_6 r_8 σY_9 h_10) gX4_bedToAsk_X4_mostLeft kX4_mostLeft rfl rfl rfl rfl ⟨(Nat.le_of_ble_eq_true rfl), (Nat.le_of_ble_eq_true rfl)⟩ [0, 1, 2, 3] [] rfl rfl rfl (by decide) rfl rfl rfl rfl rfl hl.1 (Nat.le_of_ble_eq_true rfl) dX4_bedToAsk_28 ⟨(Nat.le_of_ble_eq_true rfl), (Nat.le_of_ble_eq_true rfl)⟩ (fun r_w u_w H locs hw hP hD hS => ?_)
        have hP : va_P g.1 vwCl (wX4 g qY AY σY_9) H := hP
        have hD : va_D Z (wX4 g qY AY σY_9) := hD
        obtain rfl : r_8 = r_w := hw.symm
        refine lv_istore (lv' := [(4, .int r_8), (3, .int v3_6), (2, .int v2_6), (1, .int v1_6), (0, .ref qY)]) hx hb dX4_bedToAsk_31 hl (by decide) rfl (fun ls hl => ?_)
        refine lv_iload hx hb dX4_bedToAsk_33 (lv_at hl 0 rfl) ?_
        refine lv_iload_n hx hb dX4_bedToAsk_35 rfl (lv_at hl 2 rfl) ?_
        refine lv_icmp_ge (tgt := 44) hx hb dX4_bedToAsk_36 (by decide) (fun c_12 => ?_) (fun c_12 => ?_)
        · have hF := q_if_t c_12 hF
          refine lv_iinc (v := v3_6 + 1) (lv' := [(3, .int (v3_6 + 1)), (4, .int r_8), (2, .int v2_6), (1, .int v1_6), (0, .ref qY)]) hx hb dX4_bedToAsk_44 hl (k := 1) rfl rfl (by decide) rfl (fun ls hl => ?_)
          refine lv_goto (tgt := 20) hx hb dX4_bedToAsk_47 (by decide) ?_
          exact ag (v3_6 + 1, σY_9, v2_6, v1_6) hF _ _ _ hP hD hS (lv_sub hl [0, 2, 3, 4] rfl)
        · have hF := q_if_f c_12 hF
          refine lv_iload_n hx hb dX4_bedToAsk_39 rfl (lv_at hl 1 rfl) ?_
          refine lv_istore_n (lv' := [(1, .int v3_6), (4, .int r_8), (3, .int v3_6), (2, .int v2_6), (0, .ref qY)]) hx hb dX4_bedToAsk_40 rfl hl (by decide) rfl (fun ls hl => ?_)
          refine lv_iload hx hb dX4_bedToAsk_41 (lv_at hl 1 rfl) ?_
          refine lv_istore_n (lv' := [(2, .int r_8), (1, .int v3_6), (4, .int r_8), (3, .int v3_6), (0, .ref qY)]) hx hb dX4_bedToAsk_43 rfl hl (by decide) rfl (fun ls hl => ?_)
          refine lv_iinc (v := v3_6 + 1) (lv' := [(3, .int (v3_6 + 1)), (2, .int r_8), (1, .int v3_6), (4, .int r_8), (0, .ref qY)]) hx hb dX4_bedToAsk_44 hl (k := 3) rfl rfl (by decide) rfl (fun ls hl => ?_)
          refine lv_goto (tgt := 20) hx hb dX4_bedToAsk_47 (by decide) ?_
          exact ag (v3_6 + 1, σY_9, r_8, v3_6) hF _ _ _ hP hD hS (lv_sub hl [0, 1, 2, 4] rfl)
  · have hF := q_if_t (by first | exact c_1 | exact Classical.not_not.mp c_1) hF
    refine lv_bipush (v := (-6)) hx hb dX4_bedToAsk_7 (by decide) ?_
    cases hF
    exact r_iret hx hb hr hlk hS () rfl hP hD dX4_bedToAsk_9
set_option maxHeartbeats 4000000 in
set_option maxRecDepth 100000 in
theorem m_X0_leastTake (l : Launch) (g : GT) (sz : Nat) (qK : Nat) (AK : Nat → Nat) (σK : qS) (ℓK : qL) (a1 : Int32) (rr : Int32) (hF : f_X0_leastTake σK ℓK a1 = some rr) : Ci l yX0_leastTake wsX0_leastTake { frames := 1, cells := 0, slots := 0, locals := 22 } g sz [.ref qK, .int a1] (wX0 g qK AK σK ℓK) rr (wX0 g qK AK σK ℓK) := by
  refine gMet_i (cc := cX0_leastTake) (maxL := 4) (ret := (some .int)) (by decide) rfl (Nat.le_of_ble_eq_true rfl) ?_
  intro p e s m args below meth c Z hx hb hr F hlk hnm hK hN hA H locs hP hD hS ls hl
  have hl : lv_has ls 4 [(0, .ref qK), (1, .int a1)] := hl
  have F : CallFix p m c cX0_leastTake 4 s args wsX0_leastTake RX0 := F
  have hts := F.2.2.2.2
  have hown : s.vm.findClass RX0 = some m.cls := F.2.2.2.1
  have hi0 : ∀ w ∈ u_ws RX0 TX0 3, w ∈ wsX0_leastTake := by decide +kernel
  dsimp only [f_X0_leastTake] at hF
  refine lv_iconst (v := 1) hx hb dX0_leastTake_0 (by decide) ?_
  refine lv_istore_n (lv' := [(2, .int 1), (0, .ref qK), (1, .int a1)]) hx hb dX0_leastTake_1 rfl hl (by decide) rfl (fun ls hl => ?_)
  refine q_loop (fun u0 => wX0 g qK AK σK ℓK) (fun u0 => [(2, .int u0), (0, .ref qK), (1, .int a1)]) 41 hF ?_ ?_ hP hD hS (lv_sub hl [0, 1, 2] rfl)
  · rintro v2_1 hF H locs ls hP hD hS hl
    try dsimp only at hF
    have hP : va_P g.1 vwCl (wX0 g qK AK σK ℓK) H := hP
    have hD : va_D Z (wX0 g qK AK σK ℓK) := hD
    have hl : lv_has ls 4 [(2, .int v2_1), (0, .ref qK), (1, .int a1)] := hl
    refine lv_iload_n hx hb dX0_leastTake_41 rfl (lv_at hl 2 rfl) ?_
    cases hF
    exact r_iret hx hb hr hlk hS () rfl hP hD dX0_leastTake_42
  · rintro k again kk ag v2_1 hF H locs ls hP hD hS hl
    dsimp only [b_X0_leastTake_2] at hF
    have hP : va_P g.1 vwCl (wX0 g qK AK σK ℓK) H := hP
    have hD : va_D Z (wX0 g qK AK σK ℓK) := hD
    have hl : lv_has ls 4 [(2, .int v2_1), (0, .ref qK), (1, .int a1)] := hl
    refine lv_iload_n hx hb dX0_leastTake_2 rfl (lv_at hl 0 rfl) ?_
    refine lv_iload_n hx hb dX0_leastTake_3 rfl (lv_at hl 2 rfl) ?_
    refine lv_icmp_ge (tgt := 41) hx hb dX0_leastTake_4 (by decide) (fun c_2 => ?_) (fun c_2 => ?_)
    · have hF := q_if_t c_2 hF
      exact kk v2_1 hF _ _ _ hP hD hS (lv_sub hl [0, 1, 2] rfl)
    · have hF := q_if_f c_2 hF
      refine lv_iload_n hx hb dX0_leastTake_7 rfl (lv_at hl 2 rfl) ?_
      refine lv_iload_n hx hb dX0_leastTake_8 rfl (lv_at hl 0 rfl) ?_
      refine lv_isub hx hb dX0_leastTake_9 ?_
      obtain ⟨v3_3, e_4, hF⟩ := q_bd_s hF
      refine gtop e_4 ?_
      refine lv_istore_n (lv' := [(3, .int v3_3), (2, .int v2_1), (0, .ref qK), (1, .int a1)]) hx hb dX0_leastTake_10 rfl hl (by decide) rfl (fun ls hl => ?_)
      refine lv_iload_n hx hb dX0_leastTake_11 rfl (lv_at hl 0 rfl) ?_
      refine lv_iconst (v := 1) hx hb dX0_leastTake_12 (by decide) ?_
      refine lv_bipush (v := 60) hx hb dX0_leastTake_13 (by decide) ?_
      obtain ⟨r_5, h_6, hF⟩ := q_cl_s hF
      refine gcPN (As := [.int v3_3, .int 1, .int 60]) (rest := []) F (m_X6_within l v3_3 (1 : Int32) (60 : Int32) r_5 h_6) gX0_leastTake_X6_within_n34 kX6_within (hts (.initialized RX6) (by decide +kernel)) (hN.get 17 rfl) (hts (.static yX6_within) (by decide +kernel)) rfl rfl rfl ⟨(Nat.le_of_ble_eq_true rfl), (Nat.le_of_ble_eq_true rfl)⟩ rfl rfl hl.1 (Nat.le_of_ble_eq_true rfl) dX0_leastTake_15 ⟨(Nat.le_of_ble_eq_true rfl), (Nat.le_of_ble_eq_true rfl)⟩ ?_
      refine lv_if_eq (tgt := 35) hx hb dX0_leastTake_18 (by decide) (fun c_7 => ?_) (fun c_7 => ?_)
      · have hF := q_if_t c_7 hF
        refine lv_iinc (v := v2_1 + 1) (lv' := [(2, .int (v2_1 + 1)), (3, .int v3_3), (0, .ref qK), (1, .int a1)]) hx hb dX0_leastTake_35 hl (k := 1) rfl rfl (by decide) rfl (fun ls hl => ?_)
        refine lv_goto (tgt := 2) hx hb dX0_leastTake_38 (by decide) ?_
        exact ag (v2_1 + 1) hF _ _ _ hP hD hS (lv_sub hl [0, 2, 3] rfl)
      · have hF := q_if_f c_7 hF
        refine lv_aload_n hx hb dX0_leastTake_21 rfl (lv_at hl 2 rfl) ?_
        refine va_get (D := g.1) (ci := 0) (v := .ref (AK 2)) (C := RX0) (T := TX0) (N := 3) hx hb hts hi0 hown hK hP 0 rfl rfl 2 (by decide) (hts (.fieldLink RX0 18 "PanTales$Chances" "takes" "[I") (by decide +kernel)) (fun _ h9 => h9) rfl dX0_leastTake_22 ?_
        refine lv_iload_n hx hb dX0_leastTake_25 rfl (lv_at hl 0 rfl) ?_
        obtain ⟨r_8, i_9, e_10, hF⟩ := q_rd_s hF
        refine r_iald (v := r_8) hx hb hK hP 3 rfl i_9 e_10 dX0_leastTake_26 ?_
        refine lv_iconst (v := 2) hx hb dX0_leastTake_27 (by decide) ?_
        refine lv_iload_n hx hb dX0_leastTake_28 rfl (lv_at hl 1 rfl) ?_
        refine lv_imul hx hb dX0_leastTake_29 ?_
        refine lv_icmp_le (tgt := 35) hx hb dX0_leastTake_30 (by decide) (fun c_11 => ?_) (fun c_11 => ?_)
        · have hF := q_if_t c_11 hF
          refine lv_iinc (v := v2_1 + 1) (lv' := [(2, .int (v2_1 + 1)), (3, .int v3_3), (0, .ref qK), (1, .int a1)]) hx hb dX0_leastTake_35 hl (k := 1) rfl rfl (by decide) rfl (fun ls hl => ?_)
          refine lv_goto (tgt := 2) hx hb dX0_leastTake_38 (by decide) ?_
          exact ag (v2_1 + 1) hF _ _ _ hP hD hS (lv_sub hl [0, 2, 3] rfl)
        · have hF := q_if_f c_11 hF
          refine lv_iload_n hx hb dX0_leastTake_33 rfl (lv_at hl 1 rfl) ?_
          cases hF
          exact r_iret hx hb hr hlk hS () rfl hP hD dX0_leastTake_34
set_option maxHeartbeats 4000000 in
set_option maxRecDepth 100000 in
theorem m_X0_firstTake (l : Launch) (g : GT) (sz : Nat) (qK : Nat) (AK : Nat → Nat) (σK : qS) (ℓK : qL) (a1 : Int32) (rr : Int32) (σK' : qS) (hF : f_X0_firstTake σK ℓK a1 = some (rr, σK')) : Ci l yX0_firstTake wsX0_firstTake { frames := 2, cells := 0, slots := 0, locals := 45 } g sz [.ref qK, .int a1] (wX0 g qK AK σK ℓK) rr (wX0 g qK AK σK' ℓK) := by
  refine gMet_i (cc := cX0_firstTake) (maxL := 3) (ret := (some .int)) (by decide) rfl (Nat.le_of_ble_eq_true rfl) ?_
  intro p e s m args below meth c Z hx hb hr F hlk hnm hK hN hA H locs hP hD hS ls hl
  have hl : lv_has ls 3 [(0, .ref qK), (1, .int a1)] := hl
  have F : CallFix p m c cX0_firstTake 3 s args wsX0_firstTake RX0 := F
  have hts := F.2.2.2.2
  have hown : s.vm.findClass RX0 = some m.cls := F.2.2.2.1
  have hi0 : ∀ w ∈ u_ws RX0 TX0 3, w ∈ wsX0_firstTake := by decide +kernel
  dsimp only [f_X0_firstTake] at hF
  refine lv_iload_n hx hb dX0_firstTake_0 rfl (lv_at hl 1 rfl) ?_
  refine lv_iconst (v := 1) hx hb dX0_firstTake_1 (by decide) ?_
  refine lv_bipush (v := 60) hx hb dX0_firstTake_2 (by decide) ?_
  obtain ⟨r_1, h_2, hF⟩ := q_cl_s hF
  refine gcPN (As := [.int a1, .int 1, .int 60]) (rest := []) F (m_X6_within l a1 (1 : Int32) (60 : Int32) r_1 h_2) gX0_firstTake_X6_within_n34 kX6_within (hts (.initialized RX6) (by decide +kernel)) (hN.get 17 rfl) (hts (.static yX6_within) (by decide +kernel)) rfl rfl rfl ⟨(Nat.le_of_ble_eq_true rfl), (Nat.le_of_ble_eq_true rfl)⟩ rfl rfl hl.1 (Nat.le_of_ble_eq_true rfl) dX0_firstTake_4 ⟨(Nat.le_of_ble_eq_true rfl), (Nat.le_of_ble_eq_true rfl)⟩ ?_
  refine lv_if_ne (tgt := 13) hx hb dX0_firstTake_7 (by decide) (fun c_3 => ?_) (fun c_3 => ?_)
  · have hF := q_if_f c_3 hF
    refine lv_iconst (v := 1) hx hb dX0_firstTake_13 (by decide) ?_
    refine lv_istore_n (lv' := [(2, .int 1), (0, .ref qK), (1, .int a1)]) hx hb dX0_firstTake_14 rfl hl (by decide) rfl (fun ls hl => ?_)
    refine q_loop (fun u0 => wX0 g qK AK u0.2 ℓK) (fun u0 => [(2, .int u0.1), (0, .ref qK), (1, .int a1)]) 37 hF ?_ ?_ hP hD hS (lv_sub hl [0, 1, 2] rfl)
    · rintro ⟨v2_4, σK_4⟩ hF H locs ls hP hD hS hl
      try dsimp only at hF
      have hP : va_P g.1 vwCl (wX0 g qK AK σK_4 ℓK) H := hP
      have hD : va_D Z (wX0 g qK AK σK_4 ℓK) := hD
      have hl : lv_has ls 3 [(2, .int v2_4), (0, .ref qK), (1, .int a1)] := hl
      refine lv_aload_n hx hb dX0_firstTake_37 rfl (lv_at hl 1 rfl) ?_
      refine va_get (D := g.1) (ci := 0) (v := .ref (AK 2)) (C := RX0) (T := TX0) (N := 3) hx hb hts hi0 hown hK hP 0 rfl rfl 2 (by decide) (hts (.fieldLink RX0 18 "PanTales$Chances" "takes" "[I") (by decide +kernel)) (fun _ h9 => h9) rfl dX0_firstTake_38 ?_
      refine lv_iload_n hx hb dX0_firstTake_41 rfl (lv_at hl 2 rfl) ?_
      obtain ⟨r_5, i_6, e_7, hF⟩ := q_rd_s hF
      refine r_iald (v := r_5) hx hb hK hP 3 rfl i_6 e_7 dX0_firstTake_42 ?_
      refine lv_iload_n hx hb dX0_firstTake_43 rfl (lv_at hl 2 rfl) ?_
      refine lv_icmp_ge (tgt := 56) hx hb dX0_firstTake_44 (by decide) (fun c_8 => ?_) (fun c_8 => ?_)
      · have hF := q_if_t c_8 hF
        refine lv_bipush (v := (-6)) hx hb dX0_firstTake_56 (by decide) ?_
        cases hF
        exact r_iret hx hb hr hlk hS () rfl hP hD dX0_firstTake_58
      · have hF := q_if_f c_8 hF
        refine lv_aload_n hx hb dX0_firstTake_47 rfl (lv_at hl 1 rfl) ?_
        refine va_get (D := g.1) (ci := 0) (v := .ref (AK 2)) (C := RX0) (T := TX0) (N := 3) hx hb hts hi0 hown hK hP 0 rfl rfl 2 (by decide) (hts (.fieldLink RX0 18 "PanTales$Chances" "takes" "[I") (by decide +kernel)) (fun _ h9 => h9) rfl dX0_firstTake_48 ?_
        refine lv_iload_n hx hb dX0_firstTake_51 rfl (lv_at hl 2 rfl) ?_
        obtain ⟨r_9, i_10, e_11, hF⟩ := q_rd_s hF
        refine r_iald (v := r_9) hx hb hK hP 3 rfl i_10 e_11 dX0_firstTake_52 ?_
        refine lv_goto (tgt := 58) hx hb dX0_firstTake_53 (by decide) ?_
        cases hF
        exact r_iret hx hb hr hlk hS () rfl hP hD dX0_firstTake_58
    · rintro k again kk ag ⟨v2_4, σK_4⟩ hF H locs ls hP hD hS hl
      dsimp only [b_X0_firstTake_15] at hF
      have hP : va_P g.1 vwCl (wX0 g qK AK σK_4 ℓK) H := hP
      have hD : va_D Z (wX0 g qK AK σK_4 ℓK) := hD
      have hl : lv_has ls 3 [(2, .int v2_4), (0, .ref qK), (1, .int a1)] := hl
      refine lv_iload_n hx hb dX0_firstTake_15 rfl (lv_at hl 0 rfl) ?_
      refine lv_iload_n hx hb dX0_firstTake_16 rfl (lv_at hl 2 rfl) ?_
      refine lv_icmp_gt (tgt := 37) hx hb dX0_firstTake_17 (by decide) (fun c_12 => ?_) (fun c_12 => ?_)
      · have hF := q_if_t c_12 hF
        exact kk (v2_4, σK_4) hF _ _ _ hP hD hS (lv_sub hl [0, 1, 2] rfl)
      · have hF := q_if_f c_12 hF
        refine lv_aload_n hx hb dX0_firstTake_20 rfl (lv_at hl 1 rfl) ?_
        refine va_get (D := g.1) (ci := 0) (v := .ref (AK 2)) (C := RX0) (T := TX0) (N := 3) hx hb hts hi0 hown hK hP 0 rfl rfl 2 (by decide) (hts (.fieldLink RX0 18 "PanTales$Chances" "takes" "[I") (by decide +kernel)) (fun _ h9 => h9) rfl dX0_firstTake_21 ?_
        refine lv_iload_n hx hb dX0_firstTake_24 rfl (lv_at hl 0 rfl) ?_
        refine lv_aload_n hx hb dX0_firstTake_25 rfl (lv_at hl 1 rfl) ?_
        refine lv_iload_n hx hb dX0_firstTake_26 rfl (lv_at hl 0 rfl) ?_
        obtain ⟨r_13, h_14, hF⟩ := q_cl_s hF
        refine gcV_i (As := [.int v2_4]) (rest := [.int v2_4, .ref (AK 2)]) (ci := 0) (q := (RX0, TX0, 3)) F hK hN hP hD hS hA (m_X0_leastTake l g H.size qK AK σK_4 ℓK v2_4 r_13 h_14) gX0_firstTake_X0_leastTake kX0_leastTake rfl rfl rfl rfl ⟨(Nat.le_of_ble_eq_true rfl), (Nat.le_of_ble_eq_true rfl)⟩ [0, 1, 2, 3] [] rfl rfl rfl (by decide) rfl rfl rfl rfl rfl hl.1 (Nat.le_of_ble_eq_true rfl) dX0_firstTake_27 ⟨(Nat.le_of_ble_eq_true rfl), (Nat.le_of_ble_eq_true rfl)⟩ (fun r_w u_w H locs hw hP hD hS => ?_)
        have hP : va_P g.1 vwCl (wX0 g qK AK σK_4 ℓK) H := hP
        have hD : va_D Z (wX0 g qK AK σK_4 ℓK) := hD
        obtain rfl : r_13 = r_w := hw.symm
        obtain ⟨σK_15, i_16, e_17, hF⟩ := q_wr_s hF
        refine r_iast (f' := upd (σK_4 2) v2_4.toNatClampNeg r_13) hx hb hK hP hD hS 3 rfl i_16 (fun _ _ => rfl) dX0_firstTake_30 (fun H locs hP hD hS => ?_)
        have hP : va_P g.1 vwCl (wX0 g qK AK (q_up σK_4 2 (upd (σK_4 2) v2_4.toNatClampNeg r_13)) ℓK) H := hP
        have hD : va_D Z (wX0 g qK AK (q_up σK_4 2 (upd (σK_4 2) v2_4.toNatClampNeg r_13)) ℓK) := hD
        rw [e_17] at hP hD
        refine lv_iinc (v := v2_4 + 1) (lv' := [(2, .int (v2_4 + 1)), (0, .ref qK), (1, .int a1)]) hx hb dX0_firstTake_31 hl (k := 0) rfl rfl (by decide) rfl (fun ls hl => ?_)
        refine lv_goto (tgt := 15) hx hb dX0_firstTake_34 (by decide) ?_
        exact ag (v2_4 + 1, σK_15) hF _ _ _ hP hD hS (lv_sub hl [0, 1, 2] rfl)
  · have hF := q_if_t (by first | exact c_3 | exact Classical.not_not.mp c_3) hF
    refine lv_bipush (v := (-6)) hx hb dX0_firstTake_10 (by decide) ?_
    cases hF
    exact r_iret hx hb hr hlk hS () rfl hP hD dX0_firstTake_12

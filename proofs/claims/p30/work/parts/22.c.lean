theorem kX1_behindStirs : YOk yX1_behindStirs 2 := by decide +kernel
theorem kX1_stirsToRing : YOk yX1_stirsToRing 1 := by decide +kernel
theorem kX1_stirsOfRing : YOk yX1_stirsOfRing 1 := by decide +kernel
theorem kX1_sightCount : YOk yX1_sightCount 0 := by decide +kernel
theorem kX1_addSight : YOk yX1_addSight 2 := by decide +kernel
theorem kX1_dropSights : YOk yX1_dropSights 0 := by decide +kernel
theorem kX1_sightBed : YOk yX1_sightBed 1 := by decide +kernel
theorem kX1_sightTale : YOk yX1_sightTale 1 := by decide +kernel
theorem kX1_isConvinced : YOk yX1_isConvinced 2 := by decide +kernel
theorem kX1_reasonAgainst : YOk yX1_reasonAgainst 2 := by decide +kernel
theorem kX1_warmBed : YOk yX1_warmBed 1 := by decide +kernel
theorem kX1_act : YOk yX1_act 3 := by decide +kernel
theorem kX1_copyFrom : YOk yX1_copyFrom 1 := by decide +kernel
set_option maxHeartbeats 4000000 in
set_option maxRecDepth 100000 in
theorem m_X1_behindStirs (l : Launch) (g : GT) (sz : Nat) (qC : Nat) (AC : Nat → Nat) (σC : qS) (a1 : Int32) (a2 : Int32) (rr : Int32) (hF : f_X1_behindStirs σC a1 a2 = some rr) : Ci l yX1_behindStirs wsX1_behindStirs { frames := 2, cells := 0, slots := 0, locals := 41 } g sz [.ref qC, .int a1, .int a2] (wX1 g qC AC σC) rr (wX1 g qC AC σC) := by
  refine gMet_i (cc := cX1_behindStirs) (maxL := 5) (ret := (some .int)) (by decide) rfl (Nat.le_of_ble_eq_true rfl) ?_
  intro p e s m args below meth c Z hx hb hr F hlk hnm hK hN hA H locs hP hD hS ls hl
  have hl : lv_has ls 5 [(0, .ref qC), (1, .int a1), (2, .int a2)] := hl
  have F : CallFix p m c cX1_behindStirs 5 s args wsX1_behindStirs RX1 := F
  have hts := F.2.2.2.2
  have hown : s.vm.findClass RX1 = some m.cls := F.2.2.2.1
  dsimp only [f_X1_behindStirs] at hF
  refine lv_iload_n hx hb dX1_behindStirs_0 rfl (lv_at hl 1 rfl) ?_
  refine lv_istore_n (lv' := [(3, .int a1), (0, .ref qC), (1, .int a1), (2, .int a2)]) hx hb dX1_behindStirs_1 rfl hl (by decide) rfl (fun ls hl => ?_)
  refine lv_iconst (v := 0) hx hb dX1_behindStirs_2 (by decide) ?_
  refine lv_istore (lv' := [(4, .int 0), (3, .int a1), (0, .ref qC), (1, .int a1), (2, .int a2)]) hx hb dX1_behindStirs_3 hl (by decide) rfl (fun ls hl => ?_)
  refine q_loop (fun u0 => wX1 g qC AC σC) (fun u0 => [(4, .int u0.1), (3, .int u0.2), (0, .ref qC), (2, .int a2)]) 23 hF ?_ ?_ hP hD hS (lv_sub hl [0, 1, 2, 4] rfl)
  · rintro ⟨v4_1, v3_1⟩ hF H locs ls hP hD hS hl
    try dsimp only at hF
    have hP : va_P g.1 vwCl (wX1 g qC AC σC) H := hP
    have hD : va_D Z (wX1 g qC AC σC) := hD
    have hl : lv_has ls 5 [(4, .int v4_1), (3, .int v3_1), (0, .ref qC), (2, .int a2)] := hl
    refine lv_iload_n hx hb dX1_behindStirs_23 rfl (lv_at hl 1 rfl) ?_
    cases hF
    exact r_iret hx hb hr hlk hS () rfl hP hD dX1_behindStirs_24
  · rintro k again kk ag ⟨v4_1, v3_1⟩ hF H locs ls hP hD hS hl
    dsimp only [b_X1_behindStirs_5] at hF
    have hP : va_P g.1 vwCl (wX1 g qC AC σC) H := hP
    have hD : va_D Z (wX1 g qC AC σC) := hD
    have hl : lv_has ls 5 [(4, .int v4_1), (3, .int v3_1), (0, .ref qC), (2, .int a2)] := hl
    refine lv_iload hx hb dX1_behindStirs_5 (lv_at hl 0 rfl) ?_
    refine lv_iload_n hx hb dX1_behindStirs_7 rfl (lv_at hl 3 rfl) ?_
    refine lv_icmp_ge (tgt := 23) hx hb dX1_behindStirs_8 (by decide) (fun c_2 => ?_) (fun c_2 => ?_)
    · have hF := q_if_t c_2 hF
      exact kk (v4_1, v3_1) hF _ _ _ hP hD hS (lv_sub hl [0, 1, 2, 3] rfl)
    · have hF := q_if_f c_2 hF
      refine lv_aload_n hx hb dX1_behindStirs_11 rfl (lv_at hl 2 rfl) ?_
      refine lv_iload_n hx hb dX1_behindStirs_12 rfl (lv_at hl 1 rfl) ?_
      obtain ⟨r_3, h_4, hF⟩ := q_cl_s hF
      refine gcV_i (As := [.int v3_1]) (rest := []) (ci := 1) (q := (RX1, TX1, 12)) F hK hN hP hD hS hA (m_X1_fadesInto l g H.size qC AC σC v3_1 r_3 h_4) gX1_behindStirs_X1_fadesInto kX1_fadesInto rfl rfl rfl rfl ⟨(Nat.le_of_ble_eq_true rfl), (Nat.le_of_ble_eq_true rfl)⟩ [0, 1, 2, 3, 4, 5, 6, 7] [] rfl rfl rfl (by decide) rfl rfl rfl rfl rfl hl.1 (Nat.le_of_ble_eq_true rfl) dX1_behindStirs_13 ⟨(Nat.le_of_ble_eq_true rfl), (Nat.le_of_ble_eq_true rfl)⟩ (fun r_w u_w H locs hw hP hD hS => ?_)
      have hP : va_P g.1 vwCl (wX1 g qC AC σC) H := hP
      have hD : va_D Z (wX1 g qC AC σC) := hD
      obtain rfl : r_3 = r_w := hw.symm
      refine lv_istore_n (lv' := [(3, .int r_3), (4, .int v4_1), (0, .ref qC), (2, .int a2)]) hx hb dX1_behindStirs_16 rfl hl (by decide) rfl (fun ls hl => ?_)
      refine lv_iinc (v := v4_1 + 1) (lv' := [(4, .int (v4_1 + 1)), (3, .int r_3), (0, .ref qC), (2, .int a2)]) hx hb dX1_behindStirs_17 hl (k := 1) rfl rfl (by decide) rfl (fun ls hl => ?_)
      refine lv_goto (tgt := 5) hx hb dX1_behindStirs_20 (by decide) ?_
      exact ag (v4_1 + 1, r_3) hF _ _ _ hP hD hS (lv_sub hl [0, 1, 2, 3] rfl)
set_option maxHeartbeats 4000000 in
set_option maxRecDepth 100000 in
theorem m_X1_stirsToRing (l : Launch) (g : GT) (sz : Nat) (qC : Nat) (AC : Nat → Nat) (σC : qS) (a1 : Int32) (rr : Int32) (hF : f_X1_stirsToRing σC a1 = some rr) : Ci l yX1_stirsToRing wsX1_stirsToRing { frames := 2, cells := 0, slots := 0, locals := 41 } g sz [.ref qC, .int a1] (wX1 g qC AC σC) rr (wX1 g qC AC σC) := by
  refine gMet_i (cc := cX1_stirsToRing) (maxL := 5) (ret := (some .int)) (by decide) rfl (Nat.le_of_ble_eq_true rfl) ?_
  intro p e s m args below meth c Z hx hb hr F hlk hnm hK hN hA H locs hP hD hS ls hl
  have hl : lv_has ls 5 [(0, .ref qC), (1, .int a1)] := hl
  have F : CallFix p m c cX1_stirsToRing 5 s args wsX1_stirsToRing RX1 := F
  have hts := F.2.2.2.2
  have hown : s.vm.findClass RX1 = some m.cls := F.2.2.2.1
  dsimp only [f_X1_stirsToRing] at hF
  refine lv_iconst (v := 0) hx hb dX1_stirsToRing_0 (by decide) ?_
  refine lv_istore_n (lv' := [(2, .int 0), (0, .ref qC), (1, .int a1)]) hx hb dX1_stirsToRing_1 rfl hl (by decide) rfl (fun ls hl => ?_)
  refine lv_iload_n hx hb dX1_stirsToRing_2 rfl (lv_at hl 2 rfl) ?_
  refine lv_istore_n (lv' := [(3, .int a1), (2, .int 0), (0, .ref qC), (1, .int a1)]) hx hb dX1_stirsToRing_3 rfl hl (by decide) rfl (fun ls hl => ?_)
  refine lv_iconst (v := 0) hx hb dX1_stirsToRing_4 (by decide) ?_
  refine lv_istore (lv' := [(4, .int 0), (3, .int a1), (2, .int 0), (0, .ref qC), (1, .int a1)]) hx hb dX1_stirsToRing_5 hl (by decide) rfl (fun ls hl => ?_)
  refine q_loop (fun u0 => wX1 g qC AC σC) (fun u0 => [(4, .int u0.1), (3, .int u0.2.1), (2, .int u0.2.2), (0, .ref qC)]) 50 hF ?_ ?_ hP hD hS (lv_sub hl [0, 1, 2, 3] rfl)
  · rintro ⟨v4_1, v3_1, v2_1⟩ hF H locs ls hP hD hS hl
    try dsimp only at hF
    have hP : va_P g.1 vwCl (wX1 g qC AC σC) H := hP
    have hD : va_D Z (wX1 g qC AC σC) := hD
    have hl : lv_has ls 5 [(4, .int v4_1), (3, .int v3_1), (2, .int v2_1), (0, .ref qC)] := hl
    refine lv_bipush (v := 10) hx hb dX1_stirsToRing_50 (by decide) ?_
    cases hF
    exact r_iret hx hb hr hlk hS () rfl hP hD dX1_stirsToRing_52
  · rintro k again kk ag ⟨v4_1, v3_1, v2_1⟩ hF H locs ls hP hD hS hl
    dsimp only [b_X1_stirsToRing_7] at hF
    have hP : va_P g.1 vwCl (wX1 g qC AC σC) H := hP
    have hD : va_D Z (wX1 g qC AC σC) := hD
    have hl : lv_has ls 5 [(4, .int v4_1), (3, .int v3_1), (2, .int v2_1), (0, .ref qC)] := hl
    refine lv_iload hx hb dX1_stirsToRing_7 (lv_at hl 0 rfl) ?_
    refine lv_bipush (v := 10) hx hb dX1_stirsToRing_9 (by decide) ?_
    refine lv_icmp_gt (tgt := 50) hx hb dX1_stirsToRing_11 (by decide) (fun c_2 => ?_) (fun c_2 => ?_)
    · have hF := q_if_t c_2 hF
      exact kk (v4_1, v3_1, v2_1) hF _ _ _ hP hD hS (lv_sub hl [0, 1, 2, 3] rfl)
    · have hF := q_if_f c_2 hF
      refine lv_iload_n hx hb dX1_stirsToRing_14 rfl (lv_at hl 1 rfl) ?_
      obtain ⟨r_3, h_4, hF⟩ := q_cl_s hF
      refine gcPN (As := [.int v3_1]) (rest := []) F (m_X6_isTale l v3_1 r_3 h_4) gX1_stirsToRing_X6_isTale_n86 kX6_isTale (hts (.initialized RX6) (by decide +kernel)) (hN.get 7 rfl) (hts (.static yX6_isTale) (by decide +kernel)) rfl rfl rfl ⟨(Nat.le_of_ble_eq_true rfl), (Nat.le_of_ble_eq_true rfl)⟩ rfl rfl hl.1 (Nat.le_of_ble_eq_true rfl) dX1_stirsToRing_15 ⟨(Nat.le_of_ble_eq_true rfl), (Nat.le_of_ble_eq_true rfl)⟩ ?_
      refine lv_if_eq (tgt := 29) hx hb dX1_stirsToRing_18 (by decide) (fun c_5 => ?_) (fun c_5 => ?_)
      · have hF := q_if_t c_5 hF
        refine lv_iload hx hb dX1_stirsToRing_29 (lv_at hl 0 rfl) ?_
        cases hF
        exact r_iret hx hb hr hlk hS () rfl hP hD dX1_stirsToRing_31
      · have hF := q_if_f c_5 hF
        refine lv_iload_n hx hb dX1_stirsToRing_21 rfl (lv_at hl 1 rfl) ?_
        refine lv_iload_n hx hb dX1_stirsToRing_22 rfl (lv_at hl 2 rfl) ?_
        obtain ⟨r_6, h_7, hF⟩ := q_cl_s hF
        refine gcPN (As := [.int v3_1, .int v2_1]) (rest := []) F (m_X6_isIn l v3_1 v2_1 r_6 h_7) gX1_stirsToRing_X6_isIn_n92 kX6_isIn (hts (.initialized RX6) (by decide +kernel)) (hN.get 13 rfl) (hts (.static yX6_isIn) (by decide +kernel)) rfl rfl rfl ⟨(Nat.le_of_ble_eq_true rfl), (Nat.le_of_ble_eq_true rfl)⟩ rfl rfl hl.1 (Nat.le_of_ble_eq_true rfl) dX1_stirsToRing_23 ⟨(Nat.le_of_ble_eq_true rfl), (Nat.le_of_ble_eq_true rfl)⟩ ?_
        refine lv_if_eq (tgt := 32) hx hb dX1_stirsToRing_26 (by decide) (fun c_8 => ?_) (fun c_8 => ?_)
        · have hF := q_if_t c_8 hF
          refine lv_iload_n hx hb dX1_stirsToRing_32 rfl (lv_at hl 2 rfl) ?_
          refine lv_iconst (v := 1) hx hb dX1_stirsToRing_33 (by decide) ?_
          refine lv_iload_n hx hb dX1_stirsToRing_34 rfl (lv_at hl 1 rfl) ?_
          refine lv_ishl hx hb dX1_stirsToRing_35 ?_
          refine lv_ior hx hb dX1_stirsToRing_36 ?_
          obtain ⟨v2_9, e_10, hF⟩ := q_bd_s hF
          refine gtop e_10 ?_
          refine lv_istore_n (lv' := [(2, .int v2_9), (4, .int v4_1), (3, .int v3_1), (0, .ref qC)]) hx hb dX1_stirsToRing_37 rfl hl (by decide) rfl (fun ls hl => ?_)
          refine lv_aload_n hx hb dX1_stirsToRing_38 rfl (lv_at hl 3 rfl) ?_
          refine lv_iload_n hx hb dX1_stirsToRing_39 rfl (lv_at hl 2 rfl) ?_
          obtain ⟨r_11, h_12, hF⟩ := q_cl_s hF
          refine gcV_i (As := [.int v3_1]) (rest := []) (ci := 1) (q := (RX1, TX1, 12)) F hK hN hP hD hS hA (m_X1_fadesInto l g H.size qC AC σC v3_1 r_11 h_12) gX1_stirsToRing_X1_fadesInto kX1_fadesInto rfl rfl rfl rfl ⟨(Nat.le_of_ble_eq_true rfl), (Nat.le_of_ble_eq_true rfl)⟩ [0, 1, 2, 3, 4, 5, 6, 7] [] rfl rfl rfl (by decide) rfl rfl rfl rfl rfl hl.1 (Nat.le_of_ble_eq_true rfl) dX1_stirsToRing_40 ⟨(Nat.le_of_ble_eq_true rfl), (Nat.le_of_ble_eq_true rfl)⟩ (fun r_w u_w H locs hw hP hD hS => ?_)
          have hP : va_P g.1 vwCl (wX1 g qC AC σC) H := hP
          have hD : va_D Z (wX1 g qC AC σC) := hD
          obtain rfl : r_11 = r_w := hw.symm
          refine lv_istore_n (lv' := [(3, .int r_11), (2, .int v2_9), (4, .int v4_1), (0, .ref qC)]) hx hb dX1_stirsToRing_43 rfl hl (by decide) rfl (fun ls hl => ?_)
          refine lv_iinc (v := v4_1 + 1) (lv' := [(4, .int (v4_1 + 1)), (3, .int r_11), (2, .int v2_9), (0, .ref qC)]) hx hb dX1_stirsToRing_44 hl (k := 2) rfl rfl (by decide) rfl (fun ls hl => ?_)
          refine lv_goto (tgt := 7) hx hb dX1_stirsToRing_47 (by decide) ?_
          exact ag (v4_1 + 1, r_11, v2_9) hF _ _ _ hP hD hS (lv_sub hl [0, 1, 2, 3] rfl)
        · have hF := q_if_f c_8 hF
          refine lv_iload hx hb dX1_stirsToRing_29 (lv_at hl 0 rfl) ?_
          cases hF
          exact r_iret hx hb hr hlk hS () rfl hP hD dX1_stirsToRing_31
set_option maxHeartbeats 4000000 in
set_option maxRecDepth 100000 in
theorem m_X1_stirsOfRing (l : Launch) (g : GT) (sz : Nat) (qC : Nat) (AC : Nat → Nat) (σC : qS) (a1 : Int32) (rr : Int32) (hF : f_X1_stirsOfRing σC a1 = some rr) : Ci l yX1_stirsOfRing wsX1_stirsOfRing { frames := 3, cells := 0, slots := 0, locals := 65 } g sz [.ref qC, .int a1] (wX1 g qC AC σC) rr (wX1 g qC AC σC) := by
  refine gMet_i (cc := cX1_stirsOfRing) (maxL := 5) (ret := (some .int)) (by decide) rfl (Nat.le_of_ble_eq_true rfl) ?_
  intro p e s m args below meth c Z hx hb hr F hlk hnm hK hN hA H locs hP hD hS ls hl
  have hl : lv_has ls 5 [(0, .ref qC), (1, .int a1)] := hl
  have F : CallFix p m c cX1_stirsOfRing 5 s args wsX1_stirsOfRing RX1 := F
  have hts := F.2.2.2.2
  have hown : s.vm.findClass RX1 = some m.cls := F.2.2.2.1
  dsimp only [f_X1_stirsOfRing] at hF
  refine lv_aload_n hx hb dX1_stirsOfRing_0 rfl (lv_at hl 0 rfl) ?_
  refine lv_iload_n hx hb dX1_stirsOfRing_1 rfl (lv_at hl 1 rfl) ?_
  obtain ⟨r_1, h_2, hF⟩ := q_cl_s hF
  refine gcV_i (As := [.int a1]) (rest := []) (ci := 1) (q := (RX1, TX1, 12)) F hK hN hP hD hS hA (m_X1_stirsToRing l g H.size qC AC σC a1 r_1 h_2) gX1_stirsOfRing_X1_stirsToRing kX1_stirsToRing rfl rfl rfl rfl ⟨(Nat.le_of_ble_eq_true rfl), (Nat.le_of_ble_eq_true rfl)⟩ [0, 1, 2, 3, 4, 5, 6, 7] [] rfl rfl rfl (by decide) rfl rfl rfl rfl rfl hl.1 (Nat.le_of_ble_eq_true rfl) dX1_stirsOfRing_2 ⟨(Nat.le_of_ble_eq_true rfl), (Nat.le_of_ble_eq_true rfl)⟩ (fun r_w u_w H locs hw hP hD hS => ?_)
  have hP : va_P g.1 vwCl (wX1 g qC AC σC) H := hP
  have hD : va_D Z (wX1 g qC AC σC) := hD
  obtain rfl : r_1 = r_w := hw.symm
  refine lv_istore_n (lv' := [(2, .int r_1), (0, .ref qC), (1, .int a1)]) hx hb dX1_stirsOfRing_5 rfl hl (by decide) rfl (fun ls hl => ?_)
  refine lv_aload_n hx hb dX1_stirsOfRing_6 rfl (lv_at hl 1 rfl) ?_
  refine lv_iload_n hx hb dX1_stirsOfRing_7 rfl (lv_at hl 2 rfl) ?_
  refine lv_iload_n hx hb dX1_stirsOfRing_8 rfl (lv_at hl 0 rfl) ?_
  obtain ⟨r_3, h_4, hF⟩ := q_cl_s hF
  refine gcV_i (As := [.int a1, .int r_1]) (rest := []) (ci := 1) (q := (RX1, TX1, 12)) F hK hN hP hD hS hA (m_X1_behindStirs l g H.size qC AC σC a1 r_1 r_3 h_4) gX1_stirsOfRing_X1_behindStirs kX1_behindStirs rfl rfl rfl rfl ⟨(Nat.le_of_ble_eq_true rfl), (Nat.le_of_ble_eq_true rfl)⟩ [0, 1, 2, 3, 4, 5, 6, 7] [] rfl rfl rfl (by decide) rfl rfl rfl rfl rfl hl.1 (Nat.le_of_ble_eq_true rfl) dX1_stirsOfRing_9 ⟨(Nat.le_of_ble_eq_true rfl), (Nat.le_of_ble_eq_true rfl)⟩ (fun r_w u_w H locs hw hP hD hS => ?_)
  have hP : va_P g.1 vwCl (wX1 g qC AC σC) H := hP
  have hD : va_D Z (wX1 g qC AC σC) := hD
  obtain rfl : r_3 = r_w := hw.symm
  refine lv_istore_n (lv' := [(3, .int r_3), (2, .int r_1), (0, .ref qC), (1, .int a1)]) hx hb dX1_stirsOfRing_12 rfl hl (by decide) rfl (fun ls hl => ?_)
  refine lv_iconst (v := 0) hx hb dX1_stirsOfRing_13 (by decide) ?_
  refine lv_istore (lv' := [(4, .int 0), (3, .int r_3), (2, .int r_1), (0, .ref qC), (1, .int a1)]) hx hb dX1_stirsOfRing_14 hl (by decide) rfl (fun ls hl => ?_)
  refine q_loop (fun u0 => wX1 g qC AC σC) (fun u0 => [(4, .int u0), (3, .int r_3), (2, .int r_1), (0, .ref qC), (1, .int a1)]) 44 hF ?_ ?_ hP hD hS (lv_sub hl [0, 1, 2, 3, 4] rfl)
  · rintro v4_5 hF H locs ls hP hD hS hl
    try dsimp only at hF
    have hP : va_P g.1 vwCl (wX1 g qC AC σC) H := hP
    have hD : va_D Z (wX1 g qC AC σC) := hD
    have hl : lv_has ls 5 [(4, .int v4_5), (3, .int r_3), (2, .int r_1), (0, .ref qC), (1, .int a1)] := hl
    refine lv_iload_n hx hb dX1_stirsOfRing_44 rfl (lv_at hl 2 rfl) ?_
    cases hF
    exact r_iret hx hb hr hlk hS () rfl hP hD dX1_stirsOfRing_45
  · rintro k again kk ag v4_5 hF H locs ls hP hD hS hl
    dsimp only [b_X1_stirsOfRing_16] at hF
    have hP : va_P g.1 vwCl (wX1 g qC AC σC) H := hP
    have hD : va_D Z (wX1 g qC AC σC) := hD
    have hl : lv_has ls 5 [(4, .int v4_5), (3, .int r_3), (2, .int r_1), (0, .ref qC), (1, .int a1)] := hl
    refine lv_iload hx hb dX1_stirsOfRing_16 (lv_at hl 0 rfl) ?_
    refine lv_iload_n hx hb dX1_stirsOfRing_18 rfl (lv_at hl 2 rfl) ?_
    refine lv_icmp_ge (tgt := 44) hx hb dX1_stirsOfRing_19 (by decide) (fun c_6 => ?_) (fun c_6 => ?_)
    · have hF := q_if_t c_6 hF
      exact kk v4_5 hF _ _ _ hP hD hS (lv_sub hl [0, 1, 2, 3, 4] rfl)
    · have hF := q_if_f c_6 hF
      refine lv_aload_n hx hb dX1_stirsOfRing_22 rfl (lv_at hl 3 rfl) ?_
      refine lv_iload_n hx hb dX1_stirsOfRing_23 rfl (lv_at hl 4 rfl) ?_
      refine lv_iload hx hb dX1_stirsOfRing_24 (lv_at hl 0 rfl) ?_
      obtain ⟨r_7, h_8, hF⟩ := q_cl_s hF
      refine gcV_i (As := [.int a1, .int v4_5]) (rest := []) (ci := 1) (q := (RX1, TX1, 12)) F hK hN hP hD hS hA (m_X1_behindStirs l g H.size qC AC σC a1 v4_5 r_7 h_8) gX1_stirsOfRing_X1_behindStirs kX1_behindStirs rfl rfl rfl rfl ⟨(Nat.le_of_ble_eq_true rfl), (Nat.le_of_ble_eq_true rfl)⟩ [0, 1, 2, 3, 4, 5, 6, 7] [] rfl rfl rfl (by decide) rfl rfl rfl rfl rfl hl.1 (Nat.le_of_ble_eq_true rfl) dX1_stirsOfRing_26 ⟨(Nat.le_of_ble_eq_true rfl), (Nat.le_of_ble_eq_true rfl)⟩ (fun r_w u_w H locs hw hP hD hS => ?_)
      have hP : va_P g.1 vwCl (wX1 g qC AC σC) H := hP
      have hD : va_D Z (wX1 g qC AC σC) := hD
      obtain rfl : r_7 = r_w := hw.symm
      refine lv_iload_n hx hb dX1_stirsOfRing_29 rfl (lv_at hl 1 rfl) ?_
      refine lv_icmp_ne (tgt := 38) hx hb dX1_stirsOfRing_30 (by decide) (fun c_9 => ?_) (fun c_9 => ?_)
      · have hF := q_if_f c_9 hF
        refine lv_iinc (v := v4_5 + 1) (lv' := [(4, .int (v4_5 + 1)), (3, .int r_3), (2, .int r_1), (0, .ref qC), (1, .int a1)]) hx hb dX1_stirsOfRing_38 hl (k := 0) rfl rfl (by decide) rfl (fun ls hl => ?_)
        refine lv_goto (tgt := 16) hx hb dX1_stirsOfRing_41 (by decide) ?_
        exact ag (v4_5 + 1) hF _ _ _ hP hD hS (lv_sub hl [0, 1, 2, 3, 4] rfl)
      · have hF := q_if_t (by first | exact c_9 | exact Classical.not_not.mp c_9) hF
        refine lv_iload_n hx hb dX1_stirsOfRing_33 rfl (lv_at hl 2 rfl) ?_
        refine lv_iload hx hb dX1_stirsOfRing_34 (lv_at hl 0 rfl) ?_
        refine lv_isub hx hb dX1_stirsOfRing_36 ?_
        cases hF
        exact r_iret hx hb hr hlk hS () rfl hP hD dX1_stirsOfRing_37
set_option maxHeartbeats 4000000 in
set_option maxRecDepth 100000 in
theorem m_X1_sightCount (l : Launch) (g : GT) (sz : Nat) (qC : Nat) (AC : Nat → Nat) (σC : qS) (rr : Int32) (hF : f_X1_sightCount σC = some rr) : Ci l yX1_sightCount wsX1_sightCount { frames := 0, cells := 0, slots := 0, locals := 0 } g sz [.ref qC] (wX1 g qC AC σC) rr (wX1 g qC AC σC) := by
  refine gMet_i (cc := cX1_sightCount) (maxL := 1) (ret := (some .int)) (by decide) rfl (Nat.le_of_ble_eq_true rfl) ?_
  intro p e s m args below meth c Z hx hb hr F hlk hnm hK hN hA H locs hP hD hS ls hl
  have hl : lv_has ls 1 [(0, .ref qC)] := hl
  have F : CallFix p m c cX1_sightCount 1 s args wsX1_sightCount RX1 := F
  have hts := F.2.2.2.2
  have hown : s.vm.findClass RX1 = some m.cls := F.2.2.2.1
  have hi1 : ∀ w ∈ u_ws RX1 TX1 12, w ∈ wsX1_sightCount := by decide +kernel
  dsimp only [f_X1_sightCount] at hF
  refine lv_aload_n hx hb dX1_sightCount_0 rfl (lv_at hl 0 rfl) ?_
  refine va_get (D := g.1) (ci := 1) (v := .int (σC 99 7)) (C := RX1) (T := TX1) (N := 12) hx hb hts hi1 hown hK hP 0 rfl rfl 7 (by decide) (hts (.fieldLink RX1 49 "PanTales$Close" "sights" "I") (by decide +kernel)) (fun _ h9 => h9) rfl dX1_sightCount_1 ?_
  cases hF
  exact r_iret hx hb hr hlk hS () rfl hP hD dX1_sightCount_4
set_option maxHeartbeats 4000000 in
set_option maxRecDepth 100000 in
theorem m_X1_addSight (l : Launch) (g : GT) (sz : Nat) (qC : Nat) (AC : Nat → Nat) (σC : qS) (a1 : Int32) (a2 : Int32) (rr : Int32) (σC' : qS) (hF : f_X1_addSight σC a1 a2 = some (rr, σC')) : Ci l yX1_addSight wsX1_addSight { frames := 1, cells := 0, slots := 0, locals := 22 } g sz [.ref qC, .int a1, .int a2] (wX1 g qC AC σC) rr (wX1 g qC AC σC') := by
  refine gMet_i (cc := cX1_addSight) (maxL := 3) (ret := (some .boolean)) (by decide) rfl (Nat.le_of_ble_eq_true rfl) ?_
  intro p e s m args below meth c Z hx hb hr F hlk hnm hK hN hA H locs hP hD hS ls hl
  have hl : lv_has ls 3 [(0, .ref qC), (1, .int a1), (2, .int a2)] := hl
  have F : CallFix p m c cX1_addSight 3 s args wsX1_addSight RX1 := F
  have hts := F.2.2.2.2
  have hown : s.vm.findClass RX1 = some m.cls := F.2.2.2.1
  have hi1 : ∀ w ∈ u_ws RX1 TX1 12, w ∈ wsX1_addSight := by decide +kernel
  dsimp only [f_X1_addSight] at hF
  refine lv_aload_n hx hb dX1_addSight_0 rfl (lv_at hl 0 rfl) ?_
  refine va_get (D := g.1) (ci := 1) (v := .int (σC 99 7)) (C := RX1) (T := TX1) (N := 12) hx hb hts hi1 hown hK hP 0 rfl rfl 7 (by decide) (hts (.fieldLink RX1 49 "PanTales$Close" "sights" "I") (by decide +kernel)) (fun _ h9 => h9) rfl dX1_addSight_1 ?_
  refine lv_iconst (v := 0) hx hb dX1_addSight_4 (by decide) ?_
  refine lv_bipush (v := 7) hx hb dX1_addSight_5 (by decide) ?_
  obtain ⟨r_1, h_2, hF⟩ := q_cl_s hF
  refine gcPN (As := [.int (σC 99 7), .int 0, .int 7]) (rest := []) F (m_X6_within l (σC 99 7) (0 : Int32) (7 : Int32) r_1 h_2) gX1_addSight_X6_within_n103 kX6_within (hts (.initialized RX6) (by decide +kernel)) (hN.get 14 rfl) (hts (.static yX6_within) (by decide +kernel)) rfl rfl rfl ⟨(Nat.le_of_ble_eq_true rfl), (Nat.le_of_ble_eq_true rfl)⟩ rfl rfl hl.1 (Nat.le_of_ble_eq_true rfl) dX1_addSight_7 ⟨(Nat.le_of_ble_eq_true rfl), (Nat.le_of_ble_eq_true rfl)⟩ ?_
  refine lv_if_ne (tgt := 15) hx hb dX1_addSight_10 (by decide) (fun c_3 => ?_) (fun c_3 => ?_)
  · have hF := q_if_f c_3 hF
    refine lv_aload_n hx hb dX1_addSight_15 rfl (lv_at hl 0 rfl) ?_
    refine va_get (D := g.1) (ci := 1) (v := .ref (AC 5)) (C := RX1) (T := TX1) (N := 12) hx hb hts hi1 hown hK hP 0 rfl rfl 5 (by decide) (hts (.fieldLink RX1 27 "PanTales$Close" "sightBeds" "[I") (by decide +kernel)) (fun _ h9 => h9) rfl dX1_addSight_16 ?_
    refine lv_aload_n hx hb dX1_addSight_19 rfl (lv_at hl 0 rfl) ?_
    refine va_get (D := g.1) (ci := 1) (v := .int (σC 99 7)) (C := RX1) (T := TX1) (N := 12) hx hb hts hi1 hown hK hP 0 rfl rfl 7 (by decide) (hts (.fieldLink RX1 49 "PanTales$Close" "sights" "I") (by decide +kernel)) (fun _ h9 => h9) rfl dX1_addSight_20 ?_
    refine lv_iload_n hx hb dX1_addSight_23 rfl (lv_at hl 1 rfl) ?_
    obtain ⟨σC_4, i_5, e_6, hF⟩ := q_wr_s hF
    refine r_iast (f' := upd (σC 5) (σC 99 7).toNatClampNeg a1) hx hb hK hP hD hS 6 rfl i_5 (fun _ _ => rfl) dX1_addSight_24 (fun H locs hP hD hS => ?_)
    have hP : va_P g.1 vwCl (wX1 g qC AC (q_up σC 5 (upd (σC 5) (σC 99 7).toNatClampNeg a1))) H := hP
    have hD : va_D Z (wX1 g qC AC (q_up σC 5 (upd (σC 5) (σC 99 7).toNatClampNeg a1))) := hD
    rw [e_6] at hP hD
    refine lv_aload_n hx hb dX1_addSight_25 rfl (lv_at hl 0 rfl) ?_
    refine va_get (D := g.1) (ci := 1) (v := .ref (AC 6)) (C := RX1) (T := TX1) (N := 12) hx hb hts hi1 hown hK hP 0 rfl rfl 6 (by decide) (hts (.fieldLink RX1 30 "PanTales$Close" "sightTales" "[I") (by decide +kernel)) (fun _ h9 => h9) rfl dX1_addSight_26 ?_
    refine lv_aload_n hx hb dX1_addSight_29 rfl (lv_at hl 0 rfl) ?_
    refine va_get (D := g.1) (ci := 1) (v := .int (σC_4 99 7)) (C := RX1) (T := TX1) (N := 12) hx hb hts hi1 hown hK hP 0 rfl rfl 7 (by decide) (hts (.fieldLink RX1 49 "PanTales$Close" "sights" "I") (by decide +kernel)) (fun _ h9 => h9) rfl dX1_addSight_30 ?_
    refine lv_iload_n hx hb dX1_addSight_33 rfl (lv_at hl 2 rfl) ?_
    obtain ⟨σC_7, i_8, e_9, hF⟩ := q_wr_s hF
    refine r_iast (f' := upd (σC_4 6) (σC_4 99 7).toNatClampNeg a2) hx hb hK hP hD hS 7 rfl i_8 (fun _ _ => rfl) dX1_addSight_34 (fun H locs hP hD hS => ?_)
    have hP : va_P g.1 vwCl (wX1 g qC AC (q_up σC_4 6 (upd (σC_4 6) (σC_4 99 7).toNatClampNeg a2))) H := hP
    have hD : va_D Z (wX1 g qC AC (q_up σC_4 6 (upd (σC_4 6) (σC_4 99 7).toNatClampNeg a2))) := hD
    rw [e_9] at hP hD
    refine lv_aload_n hx hb dX1_addSight_35 rfl (lv_at hl 0 rfl) ?_
    refine lv_dup hx hb dX1_addSight_36 rfl ?_
    refine va_get (D := g.1) (ci := 1) (v := .int (σC_7 99 7)) (C := RX1) (T := TX1) (N := 12) hx hb hts hi1 hown hK hP 0 rfl rfl 7 (by decide) (hts (.fieldLink RX1 49 "PanTales$Close" "sights" "I") (by decide +kernel)) (fun _ h9 => h9) rfl dX1_addSight_37 ?_
    refine lv_iconst (v := 1) hx hb dX1_addSight_40 (by decide) ?_
    refine lv_iadd hx hb dX1_addSight_41 ?_
    obtain ⟨σC_10, e_11, hF⟩ := q_bd_s hF
    refine va_put (D := g.1) (ci := 1) (v := .int ((σC_7 99 7) + 1)) (ty := .int) (C := RX1) (T := TX1) (N := 12) hx hb hts hi1 tyX1 tyX1_ok nmX1 hown hK hP hD hS 0 rfl rfl 7 (by decide) (hts (.fieldLink RX1 49 "PanTales$Close" "sights" "I") (by decide +kernel)) (fun _ h9 => h9) rfl (by decide +kernel) rfl rfl (Nat.le_of_ble_eq_true rfl) dX1_addSight_42 (fun H locs hP hD hS => ?_)
    have hP : va_P g.1 vwCl (wX1 g qC AC (q_pt σC_7 7 ((σC_7 99 7) + 1))) H := hP
    have hD : va_D Z (wX1 g qC AC (q_pt σC_7 7 ((σC_7 99 7) + 1))) := hD
    rw [e_11] at hP hD
    refine lv_iconst (v := 1) hx hb dX1_addSight_45 (by decide) ?_
    cases hF
    exact r_zret hx hb hr hlk hS () (by decide) rfl hP hD dX1_addSight_46
  · have hF := q_if_t (by first | exact c_3 | exact Classical.not_not.mp c_3) hF
    refine lv_iconst (v := 0) hx hb dX1_addSight_13 (by decide) ?_
    cases hF
    exact r_zret hx hb hr hlk hS () (by decide) rfl hP hD dX1_addSight_14
set_option maxHeartbeats 4000000 in
set_option maxRecDepth 100000 in
theorem m_X1_dropSights (l : Launch) (g : GT) (sz : Nat) (qC : Nat) (AC : Nat → Nat) (σC : qS) (σC' : qS) (hF : f_X1_dropSights σC = some σC') : Cv l yX1_dropSights wsX1_dropSights { frames := 0, cells := 0, slots := 0, locals := 0 } g sz [.ref qC] (wX1 g qC AC σC) (wX1 g qC AC σC') := by
  refine gMet_v (cc := cX1_dropSights) (maxL := 1) (ret := none) (by decide) rfl (Nat.le_of_ble_eq_true rfl) ?_
  intro p e s m args below meth c Z hx hb hr F hlk hnm hK hN hA H locs hP hD hS ls hl
  have hl : lv_has ls 1 [(0, .ref qC)] := hl
  have F : CallFix p m c cX1_dropSights 1 s args wsX1_dropSights RX1 := F
  have hts := F.2.2.2.2
  have hown : s.vm.findClass RX1 = some m.cls := F.2.2.2.1
  have hi1 : ∀ w ∈ u_ws RX1 TX1 12, w ∈ wsX1_dropSights := by decide +kernel
  dsimp only [f_X1_dropSights] at hF
  refine lv_aload_n hx hb dX1_dropSights_0 rfl (lv_at hl 0 rfl) ?_
  refine lv_iconst (v := 0) hx hb dX1_dropSights_1 (by decide) ?_
  obtain ⟨σC_1, e_2, hF⟩ := q_bd_s hF
  refine va_put (D := g.1) (ci := 1) (v := .int 0) (ty := .int) (C := RX1) (T := TX1) (N := 12) hx hb hts hi1 tyX1 tyX1_ok nmX1 hown hK hP hD hS 0 rfl rfl 7 (by decide) (hts (.fieldLink RX1 49 "PanTales$Close" "sights" "I") (by decide +kernel)) (fun _ h9 => h9) rfl (by decide +kernel) rfl rfl (Nat.le_of_ble_eq_true rfl) dX1_dropSights_2 (fun H locs hP hD hS => ?_)
  have hP : va_P g.1 vwCl (wX1 g qC AC (q_pt σC 7 (0 : Int32))) H := hP
  have hD : va_D Z (wX1 g qC AC (q_pt σC 7 (0 : Int32))) := hD
  rw [e_2] at hP hD
  cases hF
  exact r_vret hx hb hr hlk hS () trivial hP hD dX1_dropSights_5
set_option maxHeartbeats 4000000 in
set_option maxRecDepth 100000 in
theorem m_X1_sightBed (l : Launch) (g : GT) (sz : Nat) (qC : Nat) (AC : Nat → Nat) (σC : qS) (a1 : Int32) (rr : Int32) (hF : f_X1_sightBed σC a1 = some rr) : Ci l yX1_sightBed wsX1_sightBed { frames := 1, cells := 0, slots := 0, locals := 22 } g sz [.ref qC, .int a1] (wX1 g qC AC σC) rr (wX1 g qC AC σC) := by
  refine gMet_i (cc := cX1_sightBed) (maxL := 2) (ret := (some .int)) (by decide) rfl (Nat.le_of_ble_eq_true rfl) ?_
  intro p e s m args below meth c Z hx hb hr F hlk hnm hK hN hA H locs hP hD hS ls hl
  have hl : lv_has ls 2 [(0, .ref qC), (1, .int a1)] := hl
  have F : CallFix p m c cX1_sightBed 2 s args wsX1_sightBed RX1 := F
  have hts := F.2.2.2.2
  have hown : s.vm.findClass RX1 = some m.cls := F.2.2.2.1
  have hi1 : ∀ w ∈ u_ws RX1 TX1 12, w ∈ wsX1_sightBed := by decide +kernel
  dsimp only [f_X1_sightBed] at hF
  refine lv_iload_n hx hb dX1_sightBed_0 rfl (lv_at hl 1 rfl) ?_
  refine lv_iconst (v := 0) hx hb dX1_sightBed_1 (by decide) ?_
  refine lv_bipush (v := 7) hx hb dX1_sightBed_2 (by decide) ?_
  obtain ⟨r_1, h_2, hF⟩ := q_cl_s hF
  refine gcPN (As := [.int a1, .int 0, .int 7]) (rest := []) F (m_X6_within l a1 (0 : Int32) (7 : Int32) r_1 h_2) gX1_sightBed_X6_within_n103 kX6_within (hts (.initialized RX6) (by decide +kernel)) (hN.get 14 rfl) (hts (.static yX6_within) (by decide +kernel)) rfl rfl rfl ⟨(Nat.le_of_ble_eq_true rfl), (Nat.le_of_ble_eq_true rfl)⟩ rfl rfl hl.1 (Nat.le_of_ble_eq_true rfl) dX1_sightBed_4 ⟨(Nat.le_of_ble_eq_true rfl), (Nat.le_of_ble_eq_true rfl)⟩ ?_
  refine lv_if_eq (tgt := 19) hx hb dX1_sightBed_7 (by decide) (fun c_3 => ?_) (fun c_3 => ?_)
  · have hF := q_if_t c_3 hF
    refine lv_bipush (v := (-6)) hx hb dX1_sightBed_19 (by decide) ?_
    cases hF
    exact r_iret hx hb hr hlk hS () rfl hP hD dX1_sightBed_21
  · have hF := q_if_f c_3 hF
    refine lv_aload_n hx hb dX1_sightBed_10 rfl (lv_at hl 0 rfl) ?_
    refine va_get (D := g.1) (ci := 1) (v := .ref (AC 5)) (C := RX1) (T := TX1) (N := 12) hx hb hts hi1 hown hK hP 0 rfl rfl 5 (by decide) (hts (.fieldLink RX1 27 "PanTales$Close" "sightBeds" "[I") (by decide +kernel)) (fun _ h9 => h9) rfl dX1_sightBed_11 ?_
    refine lv_iload_n hx hb dX1_sightBed_14 rfl (lv_at hl 1 rfl) ?_
    obtain ⟨r_4, i_5, e_6, hF⟩ := q_rd_s hF
    refine r_iald (v := r_4) hx hb hK hP 6 rfl i_5 e_6 dX1_sightBed_15 ?_
    refine lv_goto (tgt := 21) hx hb dX1_sightBed_16 (by decide) ?_
    cases hF
    exact r_iret hx hb hr hlk hS () rfl hP hD dX1_sightBed_21
set_option maxHeartbeats 4000000 in
set_option maxRecDepth 100000 in
theorem m_X1_sightTale (l : Launch) (g : GT) (sz : Nat) (qC : Nat) (AC : Nat → Nat) (σC : qS) (a1 : Int32) (rr : Int32) (hF : f_X1_sightTale σC a1 = some rr) : Ci l yX1_sightTale wsX1_sightTale { frames := 1, cells := 0, slots := 0, locals := 22 } g sz [.ref qC, .int a1] (wX1 g qC AC σC) rr (wX1 g qC AC σC) := by
  refine gMet_i (cc := cX1_sightTale) (maxL := 2) (ret := (some .int)) (by decide) rfl (Nat.le_of_ble_eq_true rfl) ?_
  intro p e s m args below meth c Z hx hb hr F hlk hnm hK hN hA H locs hP hD hS ls hl
  have hl : lv_has ls 2 [(0, .ref qC), (1, .int a1)] := hl
  have F : CallFix p m c cX1_sightTale 2 s args wsX1_sightTale RX1 := F
  have hts := F.2.2.2.2
  have hown : s.vm.findClass RX1 = some m.cls := F.2.2.2.1
  have hi1 : ∀ w ∈ u_ws RX1 TX1 12, w ∈ wsX1_sightTale := by decide +kernel
  dsimp only [f_X1_sightTale] at hF
  refine lv_iload_n hx hb dX1_sightTale_0 rfl (lv_at hl 1 rfl) ?_
  refine lv_iconst (v := 0) hx hb dX1_sightTale_1 (by decide) ?_
  refine lv_bipush (v := 7) hx hb dX1_sightTale_2 (by decide) ?_
  obtain ⟨r_1, h_2, hF⟩ := q_cl_s hF
  refine gcPN (As := [.int a1, .int 0, .int 7]) (rest := []) F (m_X6_within l a1 (0 : Int32) (7 : Int32) r_1 h_2) gX1_sightTale_X6_within_n103 kX6_within (hts (.initialized RX6) (by decide +kernel)) (hN.get 14 rfl) (hts (.static yX6_within) (by decide +kernel)) rfl rfl rfl ⟨(Nat.le_of_ble_eq_true rfl), (Nat.le_of_ble_eq_true rfl)⟩ rfl rfl hl.1 (Nat.le_of_ble_eq_true rfl) dX1_sightTale_4 ⟨(Nat.le_of_ble_eq_true rfl), (Nat.le_of_ble_eq_true rfl)⟩ ?_
  refine lv_if_eq (tgt := 19) hx hb dX1_sightTale_7 (by decide) (fun c_3 => ?_) (fun c_3 => ?_)
  · have hF := q_if_t c_3 hF
    refine lv_bipush (v := (-6)) hx hb dX1_sightTale_19 (by decide) ?_
    cases hF
    exact r_iret hx hb hr hlk hS () rfl hP hD dX1_sightTale_21
  · have hF := q_if_f c_3 hF
    refine lv_aload_n hx hb dX1_sightTale_10 rfl (lv_at hl 0 rfl) ?_
    refine va_get (D := g.1) (ci := 1) (v := .ref (AC 6)) (C := RX1) (T := TX1) (N := 12) hx hb hts hi1 hown hK hP 0 rfl rfl 6 (by decide) (hts (.fieldLink RX1 30 "PanTales$Close" "sightTales" "[I") (by decide +kernel)) (fun _ h9 => h9) rfl dX1_sightTale_11 ?_
    refine lv_iload_n hx hb dX1_sightTale_14 rfl (lv_at hl 1 rfl) ?_
    obtain ⟨r_4, i_5, e_6, hF⟩ := q_rd_s hF
    refine r_iald (v := r_4) hx hb hK hP 7 rfl i_5 e_6 dX1_sightTale_15 ?_
    refine lv_goto (tgt := 21) hx hb dX1_sightTale_16 (by decide) ?_
    cases hF
    exact r_iret hx hb hr hlk hS () rfl hP hD dX1_sightTale_21
set_option maxHeartbeats 4000000 in
set_option maxRecDepth 100000 in
theorem m_X1_isConvinced (l : Launch) (g : GT) (sz : Nat) (qC : Nat) (AC : Nat → Nat) (σC : qS) (a1 : Int32) (a2 : Int32) (rr : Int32) (hF : f_X1_isConvinced σC a1 a2 = some rr) : Ci l yX1_isConvinced wsX1_isConvinced { frames := 1, cells := 0, slots := 0, locals := 20 } g sz [.ref qC, .int a1, .int a2] (wX1 g qC AC σC) rr (wX1 g qC AC σC) := by
  refine gMet_i (cc := cX1_isConvinced) (maxL := 3) (ret := (some .boolean)) (by decide) rfl (Nat.le_of_ble_eq_true rfl) ?_
  intro p e s m args below meth c Z hx hb hr F hlk hnm hK hN hA H locs hP hD hS ls hl
  have hl : lv_has ls 3 [(0, .ref qC), (1, .int a1), (2, .int a2)] := hl
  have F : CallFix p m c cX1_isConvinced 3 s args wsX1_isConvinced RX1 := F
  have hts := F.2.2.2.2
  have hown : s.vm.findClass RX1 = some m.cls := F.2.2.2.1
  have hi1 : ∀ w ∈ u_ws RX1 TX1 12, w ∈ wsX1_isConvinced := by decide +kernel
  dsimp only [f_X1_isConvinced] at hF
  refine lv_iload_n hx hb dX1_isConvinced_0 rfl (lv_at hl 1 rfl) ?_
  obtain ⟨r_1, h_2, hF⟩ := q_cl_s hF
  refine gcPN (As := [.int a1]) (rest := []) F (m_X6_isHouse l a1 r_1 h_2) gX1_isConvinced_X6_isHouse_n65 kX6_isHouse (hts (.initialized RX6) (by decide +kernel)) (hN.get 6 rfl) (hts (.static yX6_isHouse) (by decide +kernel)) rfl rfl rfl ⟨(Nat.le_of_ble_eq_true rfl), (Nat.le_of_ble_eq_true rfl)⟩ rfl rfl hl.1 (Nat.le_of_ble_eq_true rfl) dX1_isConvinced_1 ⟨(Nat.le_of_ble_eq_true rfl), (Nat.le_of_ble_eq_true rfl)⟩ ?_
  refine lv_if_eq (tgt := 24) hx hb dX1_isConvinced_4 (by decide) (fun c_3 => ?_) (fun c_3 => ?_)
  · have hF := q_if_t c_3 hF
    refine lv_iconst (v := 0) hx hb dX1_isConvinced_24 (by decide) ?_
    cases hF
    exact r_zret hx hb hr hlk hS () (by decide) rfl hP hD dX1_isConvinced_25
  · have hF := q_if_f c_3 hF
    refine lv_iload_n hx hb dX1_isConvinced_7 rfl (lv_at hl 2 rfl) ?_
    refine lv_bipush (v := 9) hx hb dX1_isConvinced_8 (by decide) ?_
    refine lv_aload_n hx hb dX1_isConvinced_10 rfl (lv_at hl 0 rfl) ?_
    refine va_get (D := g.1) (ci := 1) (v := .ref (AC 1)) (C := RX1) (T := TX1) (N := 12) hx hb hts hi1 hown hK hP 0 rfl rfl 1 (by decide) (hts (.fieldLink RX1 15 "PanTales$Close" "doubts" "[I") (by decide +kernel)) (fun _ h9 => h9) rfl dX1_isConvinced_11 ?_
    refine lv_iload_n hx hb dX1_isConvinced_14 rfl (lv_at hl 1 rfl) ?_
    obtain ⟨r_4, i_5, e_6, hF⟩ := q_rd_s hF
    refine r_iald (v := r_4) hx hb hK hP 2 rfl i_5 e_6 dX1_isConvinced_15 ?_
    refine lv_imul hx hb dX1_isConvinced_16 ?_
    refine lv_icmp_le (tgt := 24) hx hb dX1_isConvinced_17 (by decide) (fun c_7 => ?_) (fun c_7 => ?_)
    · have hF := q_if_t c_7 hF
      refine lv_iconst (v := 0) hx hb dX1_isConvinced_24 (by decide) ?_
      cases hF
      exact r_zret hx hb hr hlk hS () (by decide) rfl hP hD dX1_isConvinced_25
    · have hF := q_if_f c_7 hF
      refine lv_iconst (v := 1) hx hb dX1_isConvinced_20 (by decide) ?_
      refine lv_goto (tgt := 25) hx hb dX1_isConvinced_21 (by decide) ?_
      cases hF
      exact r_zret hx hb hr hlk hS () (by decide) rfl hP hD dX1_isConvinced_25
set_option maxHeartbeats 4000000 in
set_option maxRecDepth 100000 in
theorem m_X1_reasonAgainst (l : Launch) (g : GT) (sz : Nat) (qC : Nat) (AC : Nat → Nat) (σC : qS) (a1 : Int32) (a2 : Int32) (rr : Int32) (hF : f_X1_reasonAgainst σC a1 a2 = some rr) : Ci l yX1_reasonAgainst wsX1_reasonAgainst { frames := 2, cells := 0, slots := 0, locals := 42 } g sz [.ref qC, .int a1, .int a2] (wX1 g qC AC σC) rr (wX1 g qC AC σC) := by
  refine gMet_i (cc := cX1_reasonAgainst) (maxL := 3) (ret := (some .int)) (by decide) rfl (Nat.le_of_ble_eq_true rfl) ?_
  intro p e s m args below meth c Z hx hb hr F hlk hnm hK hN hA H locs hP hD hS ls hl
  have hl : lv_has ls 3 [(0, .ref qC), (1, .int a1), (2, .int a2)] := hl
  have F : CallFix p m c cX1_reasonAgainst 3 s args wsX1_reasonAgainst RX1 := F
  have hts := F.2.2.2.2
  have hown : s.vm.findClass RX1 = some m.cls := F.2.2.2.1
  have hi1 : ∀ w ∈ u_ws RX1 TX1 12, w ∈ wsX1_reasonAgainst := by decide +kernel
  dsimp only [f_X1_reasonAgainst] at hF
  refine lv_iload_n hx hb dX1_reasonAgainst_0 rfl (lv_at hl 1 rfl) ?_
  by_cases k_1 : a1 = 0
  · have hF := q_if_t k_1 hF
    refine gtop (y := 0) k_1 ?_
    refine lv_tableIn (tgt := 32) (off := 31) hx hb dX1_reasonAgainst_1 (by decide) (by decide) rfl (by decide) ?_
    refine lv_aload_n hx hb dX1_reasonAgainst_32 rfl (lv_at hl 0 rfl) ?_
    refine va_get (D := g.1) (ci := 1) (v := .int (σC 99 8)) (C := RX1) (T := TX1) (N := 12) hx hb hts hi1 hown hK hP 0 rfl rfl 8 (by decide) (hts (.fieldLink RX1 33 "PanTales$Close" "place" "I") (by decide +kernel)) (fun _ h9 => h9) rfl dX1_reasonAgainst_33 ?_
    refine lv_bipush (v := 10) hx hb dX1_reasonAgainst_36 (by decide) ?_
    refine lv_icmp_ne (tgt := 45) hx hb dX1_reasonAgainst_38 (by decide) (fun c_2 => ?_) (fun c_2 => ?_)
    · have hF := q_if_f c_2 hF
      refine lv_iconst (v := 1) hx hb dX1_reasonAgainst_45 (by decide) ?_
      cases hF
      exact r_iret hx hb hr hlk hS () rfl hP hD dX1_reasonAgainst_46
    · have hF := q_if_t (by first | exact c_2 | exact Classical.not_not.mp c_2) hF
      refine lv_iconst (v := 0) hx hb dX1_reasonAgainst_41 (by decide) ?_
      refine lv_goto (tgt := 46) hx hb dX1_reasonAgainst_42 (by decide) ?_
      cases hF
      exact r_iret hx hb hr hlk hS () rfl hP hD dX1_reasonAgainst_46
  have hF := q_if_f k_1 hF
  by_cases k_3 : a1 = 1
  · have hF := q_if_t k_3 hF
    refine gtop (y := 1) k_3 ?_
    refine lv_tableIn (tgt := 47) (off := 46) hx hb dX1_reasonAgainst_1 (by decide) (by decide) rfl (by decide) ?_
    refine lv_aload_n hx hb dX1_reasonAgainst_47 rfl (lv_at hl 0 rfl) ?_
    refine lv_aload_n hx hb dX1_reasonAgainst_48 rfl (lv_at hl 0 rfl) ?_
    refine va_get (D := g.1) (ci := 1) (v := .int (σC 99 8)) (C := RX1) (T := TX1) (N := 12) hx hb hts hi1 hown hK hP 0 rfl rfl 8 (by decide) (hts (.fieldLink RX1 33 "PanTales$Close" "place" "I") (by decide +kernel)) (fun _ h9 => h9) rfl dX1_reasonAgainst_49 ?_
    refine lv_iload_n hx hb dX1_reasonAgainst_52 rfl (lv_at hl 2 rfl) ?_
    obtain ⟨r_4, h_5, hF⟩ := q_cl_s hF
    refine gcV_i (As := [.int (σC 99 8), .int a2]) (rest := []) (ci := 1) (q := (RX1, TX1, 12)) F hK hN hP hD hS hA (m_X1_longBetween l g H.size qC AC σC (σC 99 8) a2 r_4 h_5) gX1_reasonAgainst_X1_longBetween kX1_longBetween rfl rfl rfl rfl ⟨(Nat.le_of_ble_eq_true rfl), (Nat.le_of_ble_eq_true rfl)⟩ [0, 1, 2, 3, 4, 5, 6, 7] [] rfl rfl rfl (by decide) rfl rfl rfl rfl rfl hl.1 (Nat.le_of_ble_eq_true rfl) dX1_reasonAgainst_53 ⟨(Nat.le_of_ble_eq_true rfl), (Nat.le_of_ble_eq_true rfl)⟩ (fun r_w u_w H locs hw hP hD hS => ?_)
    have hP : va_P g.1 vwCl (wX1 g qC AC σC) H := hP
    have hD : va_D Z (wX1 g qC AC σC) := hD
    obtain rfl : r_4 = r_w := hw.symm
    refine lv_if_le (tgt := 63) hx hb dX1_reasonAgainst_56 (by decide) (fun c_6 => ?_) (fun c_6 => ?_)
    · have hF := q_if_t c_6 hF
      refine lv_iconst (v := 2) hx hb dX1_reasonAgainst_63 (by decide) ?_
      cases hF
      exact r_iret hx hb hr hlk hS () rfl hP hD dX1_reasonAgainst_64
    · have hF := q_if_f c_6 hF
      refine lv_iconst (v := 0) hx hb dX1_reasonAgainst_59 (by decide) ?_
      refine lv_goto (tgt := 64) hx hb dX1_reasonAgainst_60 (by decide) ?_
      cases hF
      exact r_iret hx hb hr hlk hS () rfl hP hD dX1_reasonAgainst_64
  have hF := q_if_f k_3 hF
  by_cases k_7 : a1 = 2
  · have hF := q_if_t k_7 hF
    refine gtop (y := 2) k_7 ?_
    refine lv_tableIn (tgt := 65) (off := 64) hx hb dX1_reasonAgainst_1 (by decide) (by decide) rfl (by decide) ?_
    refine lv_aload_n hx hb dX1_reasonAgainst_65 rfl (lv_at hl 0 rfl) ?_
    refine va_get (D := g.1) (ci := 1) (v := .int (σC 99 8)) (C := RX1) (T := TX1) (N := 12) hx hb hts hi1 hown hK hP 0 rfl rfl 8 (by decide) (hts (.fieldLink RX1 33 "PanTales$Close" "place" "I") (by decide +kernel)) (fun _ h9 => h9) rfl dX1_reasonAgainst_66 ?_
    refine lv_bipush (v := 10) hx hb dX1_reasonAgainst_69 (by decide) ?_
    refine lv_icmp_ne (tgt := 76) hx hb dX1_reasonAgainst_71 (by decide) (fun c_8 => ?_) (fun c_8 => ?_)
    · have hF := q_if_f c_8 hF
      refine lv_aload_n hx hb dX1_reasonAgainst_76 rfl (lv_at hl 0 rfl) ?_
      refine va_get (D := g.1) (ci := 1) (v := .int (σC 99 9)) (C := RX1) (T := TX1) (N := 12) hx hb hts hi1 hown hK hP 0 rfl rfl 9 (by decide) (hts (.fieldLink RX1 52 "PanTales$Close" "heat" "I") (by decide +kernel)) (fun _ h9 => h9) rfl dX1_reasonAgainst_77 ?_
      refine lv_if_le (tgt := 87) hx hb dX1_reasonAgainst_80 (by decide) (fun c_9 => ?_) (fun c_9 => ?_)
      · have hF := q_if_t c_9 hF
        refine lv_iconst (v := 3) hx hb dX1_reasonAgainst_87 (by decide) ?_
        cases hF
        exact r_iret hx hb hr hlk hS () rfl hP hD dX1_reasonAgainst_88
      · have hF := q_if_f c_9 hF
        refine lv_iconst (v := 0) hx hb dX1_reasonAgainst_83 (by decide) ?_
        refine lv_goto (tgt := 88) hx hb dX1_reasonAgainst_84 (by decide) ?_
        cases hF
        exact r_iret hx hb hr hlk hS () rfl hP hD dX1_reasonAgainst_88
    · have hF := q_if_t (by first | exact c_8 | exact Classical.not_not.mp c_8) hF
      refine lv_iconst (v := 1) hx hb dX1_reasonAgainst_74 (by decide) ?_
      cases hF
      exact r_iret hx hb hr hlk hS () rfl hP hD dX1_reasonAgainst_75
  have hF := q_if_f k_7 hF
  by_cases k_10 : a1 = 3
  · have hF := q_if_t k_10 hF
    refine gtop (y := 3) k_10 ?_
    refine lv_tableIn (tgt := 89) (off := 88) hx hb dX1_reasonAgainst_1 (by decide) (by decide) rfl (by decide) ?_
    refine lv_aload_n hx hb dX1_reasonAgainst_89 rfl (lv_at hl 0 rfl) ?_
    refine va_get (D := g.1) (ci := 1) (v := .int (σC 99 9)) (C := RX1) (T := TX1) (N := 12) hx hb hts hi1 hown hK hP 0 rfl rfl 9 (by decide) (hts (.fieldLink RX1 52 "PanTales$Close" "heat" "I") (by decide +kernel)) (fun _ h9 => h9) rfl dX1_reasonAgainst_90 ?_
    refine lv_if_le (tgt := 100) hx hb dX1_reasonAgainst_93 (by decide) (fun c_11 => ?_) (fun c_11 => ?_)
    · have hF := q_if_t c_11 hF
      refine lv_iconst (v := 3) hx hb dX1_reasonAgainst_100 (by decide) ?_
      cases hF
      exact r_iret hx hb hr hlk hS () rfl hP hD dX1_reasonAgainst_101
    · have hF := q_if_f c_11 hF
      refine lv_iconst (v := 0) hx hb dX1_reasonAgainst_96 (by decide) ?_
      refine lv_goto (tgt := 101) hx hb dX1_reasonAgainst_97 (by decide) ?_
      cases hF
      exact r_iret hx hb hr hlk hS () rfl hP hD dX1_reasonAgainst_101
  have hF := q_if_f k_10 hF
  refine lv_tableOut (tgt := 102) hx hb dX1_reasonAgainst_1 (sw_out 4 (by decide) (by decide) (lt_s (lt_s (lt_s (lt_s lt_0 k_1) k_3) k_7) k_10)) (by decide) ?_
  refine lv_aload_n hx hb dX1_reasonAgainst_102 rfl (lv_at hl 0 rfl) ?_
  refine va_get (D := g.1) (ci := 1) (v := .int (σC 99 11)) (C := RX1) (T := TX1) (N := 12) hx hb hts hi1 hown hK hP 0 rfl rfl 11 (by decide) (hts (.fieldLink RX1 58 "PanTales$Close" "mornings" "I") (by decide +kernel)) (fun _ h9 => h9) rfl dX1_reasonAgainst_103 ?_
  refine lv_bipush (v := 99) hx hb dX1_reasonAgainst_106 (by decide) ?_
  refine lv_icmp_ge (tgt := 115) hx hb dX1_reasonAgainst_108 (by decide) (fun c_12 => ?_) (fun c_12 => ?_)
  · have hF := q_if_t c_12 hF
    refine lv_iconst (v := 4) hx hb dX1_reasonAgainst_115 (by decide) ?_
    cases hF
    exact r_iret hx hb hr hlk hS () rfl hP hD dX1_reasonAgainst_116
  · have hF := q_if_f c_12 hF
    refine lv_iconst (v := 0) hx hb dX1_reasonAgainst_111 (by decide) ?_
    refine lv_goto (tgt := 116) hx hb dX1_reasonAgainst_112 (by decide) ?_
    cases hF
    exact r_iret hx hb hr hlk hS () rfl hP hD dX1_reasonAgainst_116
set_option maxHeartbeats 4000000 in
set_option maxRecDepth 100000 in
theorem m_X1_warmBed (l : Launch) (g : GT) (sz : Nat) (qC : Nat) (AC : Nat → Nat) (σC : qS) (a1 : Int32) (σC' : qS) (hF : f_X1_warmBed σC a1 = some σC') : Cv l yX1_warmBed wsX1_warmBed { frames := 2, cells := 0, slots := 0, locals := 43 } g sz [.ref qC, .int a1] (wX1 g qC AC σC) (wX1 g qC AC σC') := by
  refine gMet_v (cc := cX1_warmBed) (maxL := 2) (ret := none) (by decide) rfl (Nat.le_of_ble_eq_true rfl) ?_
  intro p e s m args below meth c Z hx hb hr F hlk hnm hK hN hA H locs hP hD hS ls hl
  have hl : lv_has ls 2 [(0, .ref qC), (1, .int a1)] := hl
  have F : CallFix p m c cX1_warmBed 2 s args wsX1_warmBed RX1 := F
  have hts := F.2.2.2.2
  have hown : s.vm.findClass RX1 = some m.cls := F.2.2.2.1
  have hi1 : ∀ w ∈ u_ws RX1 TX1 12, w ∈ wsX1_warmBed := by decide +kernel
  dsimp only [f_X1_warmBed] at hF
  refine lv_aload_n hx hb dX1_warmBed_0 rfl (lv_at hl 0 rfl) ?_
  refine lv_iload_n hx hb dX1_warmBed_1 rfl (lv_at hl 1 rfl) ?_
  obtain ⟨r_1, h_2, hF⟩ := q_cl_s hF
  refine gcV_i (As := [.int a1]) (rest := []) (ci := 1) (q := (RX1, TX1, 12)) F hK hN hP hD hS hA (m_X1_isDamp l g H.size qC AC σC a1 r_1 h_2) gX1_warmBed_X1_isDamp kX1_isDamp rfl rfl rfl rfl ⟨(Nat.le_of_ble_eq_true rfl), (Nat.le_of_ble_eq_true rfl)⟩ [0, 1, 2, 3, 4, 5, 6, 7] [] rfl rfl rfl (by decide) rfl rfl rfl rfl rfl hl.1 (Nat.le_of_ble_eq_true rfl) dX1_warmBed_2 ⟨(Nat.le_of_ble_eq_true rfl), (Nat.le_of_ble_eq_true rfl)⟩ (fun r_w u_w H locs hw hP hD hS => ?_)
  have hP : va_P g.1 vwCl (wX1 g qC AC σC) H := hP
  have hD : va_D Z (wX1 g qC AC σC) := hD
  obtain rfl : r_1 = r_w := hw.symm
  refine lv_if_eq (tgt := 24) hx hb dX1_warmBed_5 (by decide) (fun c_3 => ?_) (fun c_3 => ?_)
  · have hF := q_if_t c_3 hF
    refine lv_aload_n hx hb dX1_warmBed_24 rfl (lv_at hl 0 rfl) ?_
    refine lv_iload_n hx hb dX1_warmBed_25 rfl (lv_at hl 1 rfl) ?_
    refine lv_aload_n hx hb dX1_warmBed_26 rfl (lv_at hl 0 rfl) ?_
    refine va_get (D := g.1) (ci := 1) (v := .int (σC 99 9)) (C := RX1) (T := TX1) (N := 12) hx hb hts hi1 hown hK hP 0 rfl rfl 9 (by decide) (hts (.fieldLink RX1 52 "PanTales$Close" "heat" "I") (by decide +kernel)) (fun _ h9 => h9) rfl dX1_warmBed_27 ?_
    obtain ⟨r_4, h_5, hF⟩ := q_cl_s hF
    refine gcV_i (As := [.int a1, .int (σC 99 9)]) (rest := []) (ci := 1) (q := (RX1, TX1, 12)) F hK hN hP hD hS hA (m_X1_isConvinced l g H.size qC AC σC a1 (σC 99 9) r_4 h_5) gX1_warmBed_X1_isConvinced kX1_isConvinced rfl rfl rfl rfl ⟨(Nat.le_of_ble_eq_true rfl), (Nat.le_of_ble_eq_true rfl)⟩ [0, 1, 2, 3, 4, 5, 6, 7] [] rfl rfl rfl (by decide) rfl rfl rfl rfl rfl hl.1 (Nat.le_of_ble_eq_true rfl) dX1_warmBed_30 ⟨(Nat.le_of_ble_eq_true rfl), (Nat.le_of_ble_eq_true rfl)⟩ (fun r_w u_w H locs hw hP hD hS => ?_)
    have hP : va_P g.1 vwCl (wX1 g qC AC σC) H := hP
    have hD : va_D Z (wX1 g qC AC σC) := hD
    obtain rfl : r_4 = r_w := hw.symm
    refine lv_if_eq (tgt := 48) hx hb dX1_warmBed_33 (by decide) (fun c_6 => ?_) (fun c_6 => ?_)
    · have hF := q_if_t c_6 hF
      refine lv_aload_n hx hb dX1_warmBed_48 rfl (lv_at hl 0 rfl) ?_
      refine lv_iload_n hx hb dX1_warmBed_49 rfl (lv_at hl 1 rfl) ?_
      refine lv_bipush (v := 9) hx hb dX1_warmBed_50 (by decide) ?_
      refine lv_aload_n hx hb dX1_warmBed_52 rfl (lv_at hl 0 rfl) ?_
      refine lv_iload_n hx hb dX1_warmBed_53 rfl (lv_at hl 1 rfl) ?_
      obtain ⟨r_7, h_8, hF⟩ := q_cl_s hF
      refine gcV_i (As := [.int a1]) (rest := [.int 9, .int a1, .ref qC]) (ci := 1) (q := (RX1, TX1, 12)) F hK hN hP hD hS hA (m_X1_doubtOf l g H.size qC AC σC a1 r_7 h_8) gX1_warmBed_X1_doubtOf kX1_doubtOf rfl rfl rfl rfl ⟨(Nat.le_of_ble_eq_true rfl), (Nat.le_of_ble_eq_true rfl)⟩ [0, 1, 2, 3, 4, 5, 6, 7] [] rfl rfl rfl (by decide) rfl rfl rfl rfl rfl hl.1 (Nat.le_of_ble_eq_true rfl) dX1_warmBed_54 ⟨(Nat.le_of_ble_eq_true rfl), (Nat.le_of_ble_eq_true rfl)⟩ (fun r_w u_w H locs hw hP hD hS => ?_)
      have hP : va_P g.1 vwCl (wX1 g qC AC σC) H := hP
      have hD : va_D Z (wX1 g qC AC σC) := hD
      obtain rfl : r_7 = r_w := hw.symm
      refine lv_iconst (v := 1) hx hb dX1_warmBed_57 (by decide) ?_
      refine lv_iadd hx hb dX1_warmBed_58 ?_
      refine va_mmin hx hb (F.2.2.1.trans hl.1.symm) hown (hts (.methodLink RX1 119 Lib.Math.min.name) (by decide +kernel)) (hts (.static Lib.Math.min.name) (by decide +kernel)) (hts (.initialized "java/lang/Math") (by decide +kernel)) (hts (.code Lib.Math.min.name Lib.Math.min.code 2 (some .int)) (by decide +kernel)) (Nat.le_of_ble_eq_true rfl) (Nat.le_of_ble_eq_true rfl) (Nat.le_of_ble_eq_true rfl) (Nat.le_of_ble_eq_true rfl) dX1_warmBed_59 ?_
      refine lv_iconst (v := 0) hx hb dX1_warmBed_62 (by decide) ?_
      obtain ⟨σC_9, h_10, hF⟩ := q_cl_s hF
      refine gcV_v (As := [.int a1, .int (if (r_7 + 1) < 9 then (r_7 + 1) else 9), .int 0]) (rest := []) (ci := 1) (q := (RX1, TX1, 12)) F hK hN hP hD hS hA (m_X1_furnish l g H.size qC AC σC a1 (if (r_7 + 1) < 9 then (r_7 + 1) else 9) (0 : Int32) σC_9 h_10) gX1_warmBed_X1_furnish kX1_furnish rfl rfl rfl rfl ⟨(Nat.le_of_ble_eq_true rfl), (Nat.le_of_ble_eq_true rfl)⟩ [0, 1, 2, 3, 4, 5, 6, 7] [] rfl rfl rfl (by decide) rfl rfl rfl rfl rfl hl.1 (Nat.le_of_ble_eq_true rfl) dX1_warmBed_63 ⟨(Nat.le_of_ble_eq_true rfl), (Nat.le_of_ble_eq_true rfl)⟩ (fun u_w H locs hw hP hD hS => ?_)
      have hP : va_P g.1 vwCl (wX1 g qC AC σC_9) H := hP
      have hD : va_D Z (wX1 g qC AC σC_9) := hD
      refine lv_aload_n hx hb dX1_warmBed_66 rfl (lv_at hl 0 rfl) ?_
      refine lv_iconst (v := 0) hx hb dX1_warmBed_67 (by decide) ?_
      refine lv_aload_n hx hb dX1_warmBed_68 rfl (lv_at hl 0 rfl) ?_
      refine va_get (D := g.1) (ci := 1) (v := .int (σC_9 99 9)) (C := RX1) (T := TX1) (N := 12) hx hb hts hi1 hown hK hP 0 rfl rfl 9 (by decide) (hts (.fieldLink RX1 52 "PanTales$Close" "heat" "I") (by decide +kernel)) (fun _ h9 => h9) rfl dX1_warmBed_69 ?_
      refine lv_iconst (v := 5) hx hb dX1_warmBed_72 (by decide) ?_
      refine lv_isub hx hb dX1_warmBed_73 ?_
      refine va_mmax hx hb (F.2.2.1.trans hl.1.symm) hown (hts (.methodLink RX1 110 Lib.Math.max.name) (by decide +kernel)) (hts (.static Lib.Math.max.name) (by decide +kernel)) (hts (.initialized "java/lang/Math") (by decide +kernel)) (hts (.code Lib.Math.max.name Lib.Math.max.code 2 (some .int)) (by decide +kernel)) (Nat.le_of_ble_eq_true rfl) (Nat.le_of_ble_eq_true rfl) (Nat.le_of_ble_eq_true rfl) (Nat.le_of_ble_eq_true rfl) dX1_warmBed_74 ?_
      obtain ⟨σC_11, e_12, hF⟩ := q_bd_s hF
      refine va_put (D := g.1) (ci := 1) (v := .int (if (0 : Int32) < ((σC_9 99 9) - 5) then ((σC_9 99 9) - 5) else 0)) (ty := .int) (C := RX1) (T := TX1) (N := 12) hx hb hts hi1 tyX1 tyX1_ok nmX1 hown hK hP hD hS 0 rfl rfl 9 (by decide) (hts (.fieldLink RX1 52 "PanTales$Close" "heat" "I") (by decide +kernel)) (fun _ h9 => h9) rfl (by decide +kernel) rfl rfl (Nat.le_of_ble_eq_true rfl) dX1_warmBed_77 (fun H locs hP hD hS => ?_)
      have hP : va_P g.1 vwCl (wX1 g qC AC (q_pt σC_9 9 (if (0 : Int32) < ((σC_9 99 9) - 5) then ((σC_9 99 9) - 5) else 0))) H := hP
      have hD : va_D Z (wX1 g qC AC (q_pt σC_9 9 (if (0 : Int32) < ((σC_9 99 9) - 5) then ((σC_9 99 9) - 5) else 0))) := hD
      rw [e_12] at hP hD
      cases hF
      exact r_vret hx hb hr hlk hS () trivial hP hD dX1_warmBed_80
    · have hF := q_if_f c_6 hF
      refine lv_aload_n hx hb dX1_warmBed_36 rfl (lv_at hl 0 rfl) ?_
      refine lv_iload_n hx hb dX1_warmBed_37 rfl (lv_at hl 1 rfl) ?_
      refine lv_aload_n hx hb dX1_warmBed_38 rfl (lv_at hl 0 rfl) ?_
      refine va_get (D := g.1) (ci := 1) (v := .int (σC 99 10)) (C := RX1) (T := TX1) (N := 12) hx hb hts hi1 hown hK hP 0 rfl rfl 10 (by decide) (hts (.fieldLink RX1 55 "PanTales$Close" "tale" "I") (by decide +kernel)) (fun _ h9 => h9) rfl dX1_warmBed_39 ?_
      obtain ⟨σC_13, h_14, hF⟩ := q_cl_s hF
      refine gcV_v (As := [.int a1, .int (σC 99 10)]) (rest := []) (ci := 1) (q := (RX1, TX1, 12)) F hK hN hP hD hS hA (m_X1_convince l g H.size qC AC σC a1 (σC 99 10) σC_13 h_14) gX1_warmBed_X1_convince kX1_convince rfl rfl rfl rfl ⟨(Nat.le_of_ble_eq_true rfl), (Nat.le_of_ble_eq_true rfl)⟩ [0, 1, 2, 3, 4, 5, 6, 7] [] rfl rfl rfl (by decide) rfl rfl rfl rfl rfl hl.1 (Nat.le_of_ble_eq_true rfl) dX1_warmBed_42 ⟨(Nat.le_of_ble_eq_true rfl), (Nat.le_of_ble_eq_true rfl)⟩ (fun u_w H locs hw hP hD hS => ?_)
      have hP : va_P g.1 vwCl (wX1 g qC AC σC_13) H := hP
      have hD : va_D Z (wX1 g qC AC σC_13) := hD
      refine lv_goto (tgt := 66) hx hb dX1_warmBed_45 (by decide) ?_
      refine lv_aload_n hx hb dX1_warmBed_66 rfl (lv_at hl 0 rfl) ?_
      refine lv_iconst (v := 0) hx hb dX1_warmBed_67 (by decide) ?_
      refine lv_aload_n hx hb dX1_warmBed_68 rfl (lv_at hl 0 rfl) ?_
      refine va_get (D := g.1) (ci := 1) (v := .int (σC_13 99 9)) (C := RX1) (T := TX1) (N := 12) hx hb hts hi1 hown hK hP 0 rfl rfl 9 (by decide) (hts (.fieldLink RX1 52 "PanTales$Close" "heat" "I") (by decide +kernel)) (fun _ h9 => h9) rfl dX1_warmBed_69 ?_
      refine lv_iconst (v := 5) hx hb dX1_warmBed_72 (by decide) ?_
      refine lv_isub hx hb dX1_warmBed_73 ?_
      refine va_mmax hx hb (F.2.2.1.trans hl.1.symm) hown (hts (.methodLink RX1 110 Lib.Math.max.name) (by decide +kernel)) (hts (.static Lib.Math.max.name) (by decide +kernel)) (hts (.initialized "java/lang/Math") (by decide +kernel)) (hts (.code Lib.Math.max.name Lib.Math.max.code 2 (some .int)) (by decide +kernel)) (Nat.le_of_ble_eq_true rfl) (Nat.le_of_ble_eq_true rfl) (Nat.le_of_ble_eq_true rfl) (Nat.le_of_ble_eq_true rfl) dX1_warmBed_74 ?_
      obtain ⟨σC_15, e_16, hF⟩ := q_bd_s hF
      refine va_put (D := g.1) (ci := 1) (v := .int (if (0 : Int32) < ((σC_13 99 9) - 5) then ((σC_13 99 9) - 5) else 0)) (ty := .int) (C := RX1) (T := TX1) (N := 12) hx hb hts hi1 tyX1 tyX1_ok nmX1 hown hK hP hD hS 0 rfl rfl 9 (by decide) (hts (.fieldLink RX1 52 "PanTales$Close" "heat" "I") (by decide +kernel)) (fun _ h9 => h9) rfl (by decide +kernel) rfl rfl (Nat.le_of_ble_eq_true rfl) dX1_warmBed_77 (fun H locs hP hD hS => ?_)
      have hP : va_P g.1 vwCl (wX1 g qC AC (q_pt σC_13 9 (if (0 : Int32) < ((σC_13 99 9) - 5) then ((σC_13 99 9) - 5) else 0))) H := hP
      have hD : va_D Z (wX1 g qC AC (q_pt σC_13 9 (if (0 : Int32) < ((σC_13 99 9) - 5) then ((σC_13 99 9) - 5) else 0))) := hD
      rw [e_16] at hP hD
      cases hF
      exact r_vret hx hb hr hlk hS () trivial hP hD dX1_warmBed_80
  · have hF := q_if_f c_3 hF
    refine lv_aload_n hx hb dX1_warmBed_8 rfl (lv_at hl 0 rfl) ?_
    refine lv_iconst (v := 0) hx hb dX1_warmBed_9 (by decide) ?_
    refine lv_aload_n hx hb dX1_warmBed_10 rfl (lv_at hl 0 rfl) ?_
    refine va_get (D := g.1) (ci := 1) (v := .int (σC 99 9)) (C := RX1) (T := TX1) (N := 12) hx hb hts hi1 hown hK hP 0 rfl rfl 9 (by decide) (hts (.fieldLink RX1 52 "PanTales$Close" "heat" "I") (by decide +kernel)) (fun _ h9 => h9) rfl dX1_warmBed_11 ?_
    refine lv_bipush (v := 10) hx hb dX1_warmBed_14 (by decide) ?_
    refine lv_isub hx hb dX1_warmBed_16 ?_
    refine va_mmax hx hb (F.2.2.1.trans hl.1.symm) hown (hts (.methodLink RX1 110 Lib.Math.max.name) (by decide +kernel)) (hts (.static Lib.Math.max.name) (by decide +kernel)) (hts (.initialized "java/lang/Math") (by decide +kernel)) (hts (.code Lib.Math.max.name Lib.Math.max.code 2 (some .int)) (by decide +kernel)) (Nat.le_of_ble_eq_true rfl) (Nat.le_of_ble_eq_true rfl) (Nat.le_of_ble_eq_true rfl) (Nat.le_of_ble_eq_true rfl) dX1_warmBed_17 ?_
    obtain ⟨σC_17, e_18, hF⟩ := q_bd_s hF
    refine va_put (D := g.1) (ci := 1) (v := .int (if (0 : Int32) < ((σC 99 9) - 10) then ((σC 99 9) - 10) else 0)) (ty := .int) (C := RX1) (T := TX1) (N := 12) hx hb hts hi1 tyX1 tyX1_ok nmX1 hown hK hP hD hS 0 rfl rfl 9 (by decide) (hts (.fieldLink RX1 52 "PanTales$Close" "heat" "I") (by decide +kernel)) (fun _ h9 => h9) rfl (by decide +kernel) rfl rfl (Nat.le_of_ble_eq_true rfl) dX1_warmBed_20 (fun H locs hP hD hS => ?_)
    have hP : va_P g.1 vwCl (wX1 g qC AC (q_pt σC 9 (if (0 : Int32) < ((σC 99 9) - 10) then ((σC 99 9) - 10) else 0))) H := hP
    have hD : va_D Z (wX1 g qC AC (q_pt σC 9 (if (0 : Int32) < ((σC 99 9) - 10) then ((σC 99 9) - 10) else 0))) := hD
    rw [e_18] at hP hD
    cases hF
    exact r_vret hx hb hr hlk hS () trivial hP hD dX1_warmBed_23
set_option maxHeartbeats 4000000 in
set_option maxRecDepth 100000 in
theorem m_X1_act (l : Launch) (g : GT) (sz : Nat) (qC : Nat) (AC : Nat → Nat) (σC : qS) (a1 : Int32) (a2 : Int32) (a3 : Int32) (σC' : qS) (hF : f_X1_act σC a1 a2 a3 = some σC') : Cv l yX1_act wsX1_act { frames := 3, cells := 0, slots := 0, locals := 64 } g sz [.ref qC, .int a1, .int a2, .int a3] (wX1 g qC AC σC) (wX1 g qC AC σC') := by
  refine gMet_v (cc := cX1_act) (maxL := 4) (ret := none) (by decide) rfl (Nat.le_of_ble_eq_true rfl) ?_
  intro p e s m args below meth c Z hx hb hr F hlk hnm hK hN hA H locs hP hD hS ls hl
  have hl : lv_has ls 4 [(0, .ref qC), (1, .int a1), (2, .int a2), (3, .int a3)] := hl
  have F : CallFix p m c cX1_act 4 s args wsX1_act RX1 := F
  have hts := F.2.2.2.2
  have hown : s.vm.findClass RX1 = some m.cls := F.2.2.2.1
  have hi1 : ∀ w ∈ u_ws RX1 TX1 12, w ∈ wsX1_act := by decide +kernel
  dsimp only [f_X1_act] at hF
  refine lv_iload_n hx hb dX1_act_0 rfl (lv_at hl 1 rfl) ?_
  by_cases k_1 : a1 = 0
  · have hF := q_if_t k_1 hF
    refine gtop (y := 0) k_1 ?_
    refine lv_tableIn (tgt := 32) (off := 31) hx hb dX1_act_1 (by decide) (by decide) rfl (by decide) ?_
    refine lv_aload_n hx hb dX1_act_32 rfl (lv_at hl 0 rfl) ?_
    refine lv_iload_n hx hb dX1_act_33 rfl (lv_at hl 2 rfl) ?_
    obtain ⟨σC_2, e_3, hF⟩ := q_bd_s hF
    refine va_put (D := g.1) (ci := 1) (v := .int a2) (ty := .int) (C := RX1) (T := TX1) (N := 12) hx hb hts hi1 tyX1 tyX1_ok nmX1 hown hK hP hD hS 0 rfl rfl 10 (by decide) (hts (.fieldLink RX1 55 "PanTales$Close" "tale" "I") (by decide +kernel)) (fun _ h9 => h9) rfl (by decide +kernel) rfl rfl (Nat.le_of_ble_eq_true rfl) dX1_act_34 (fun H locs hP hD hS => ?_)
    have hP : va_P g.1 vwCl (wX1 g qC AC (q_pt σC 10 a2)) H := hP
    have hD : va_D Z (wX1 g qC AC (q_pt σC 10 a2)) := hD
    rw [e_3] at hP hD
    refine lv_aload_n hx hb dX1_act_37 rfl (lv_at hl 0 rfl) ?_
    refine lv_iload_n hx hb dX1_act_38 rfl (lv_at hl 3 rfl) ?_
    obtain ⟨σC_4, e_5, hF⟩ := q_bd_s hF
    refine va_put (D := g.1) (ci := 1) (v := .int a3) (ty := .int) (C := RX1) (T := TX1) (N := 12) hx hb hts hi1 tyX1 tyX1_ok nmX1 hown hK hP hD hS 0 rfl rfl 9 (by decide) (hts (.fieldLink RX1 52 "PanTales$Close" "heat" "I") (by decide +kernel)) (fun _ h9 => h9) rfl (by decide +kernel) rfl rfl (Nat.le_of_ble_eq_true rfl) dX1_act_39 (fun H locs hP hD hS => ?_)
    have hP : va_P g.1 vwCl (wX1 g qC AC (q_pt σC_2 9 a3)) H := hP
    have hD : va_D Z (wX1 g qC AC (q_pt σC_2 9 a3)) := hD
    rw [e_5] at hP hD
    refine lv_goto (tgt := 146) hx hb dX1_act_42 (by decide) ?_
    cases hF
    exact r_vret hx hb hr hlk hS () trivial hP hD dX1_act_146
  have hF := q_if_f k_1 hF
  by_cases k_6 : a1 = 1
  · have hF := q_if_t k_6 hF
    refine gtop (y := 1) k_6 ?_
    refine lv_tableIn (tgt := 45) (off := 44) hx hb dX1_act_1 (by decide) (by decide) rfl (by decide) ?_
    refine lv_aload_n hx hb dX1_act_45 rfl (lv_at hl 0 rfl) ?_
    refine lv_iconst (v := 0) hx hb dX1_act_46 (by decide) ?_
    refine lv_aload_n hx hb dX1_act_47 rfl (lv_at hl 0 rfl) ?_
    refine va_get (D := g.1) (ci := 1) (v := .int (σC 99 9)) (C := RX1) (T := TX1) (N := 12) hx hb hts hi1 hown hK hP 0 rfl rfl 9 (by decide) (hts (.fieldLink RX1 52 "PanTales$Close" "heat" "I") (by decide +kernel)) (fun _ h9 => h9) rfl dX1_act_48 ?_
    refine lv_aload_n hx hb dX1_act_51 rfl (lv_at hl 0 rfl) ?_
    refine lv_aload_n hx hb dX1_act_52 rfl (lv_at hl 0 rfl) ?_
    refine va_get (D := g.1) (ci := 1) (v := .int (σC 99 8)) (C := RX1) (T := TX1) (N := 12) hx hb hts hi1 hown hK hP 0 rfl rfl 8 (by decide) (hts (.fieldLink RX1 33 "PanTales$Close" "place" "I") (by decide +kernel)) (fun _ h9 => h9) rfl dX1_act_53 ?_
    refine lv_iload_n hx hb dX1_act_56 rfl (lv_at hl 2 rfl) ?_
    obtain ⟨r_7, h_8, hF⟩ := q_cl_s hF
    refine gcV_i (As := [.int (σC 99 8), .int a2]) (rest := [.int (σC 99 9), .int 0, .ref qC]) (ci := 1) (q := (RX1, TX1, 12)) F hK hN hP hD hS hA (m_X1_longBetween l g H.size qC AC σC (σC 99 8) a2 r_7 h_8) gX1_act_X1_longBetween kX1_longBetween rfl rfl rfl rfl ⟨(Nat.le_of_ble_eq_true rfl), (Nat.le_of_ble_eq_true rfl)⟩ [0, 1, 2, 3, 4, 5, 6, 7] [] rfl rfl rfl (by decide) rfl rfl rfl rfl rfl hl.1 (Nat.le_of_ble_eq_true rfl) dX1_act_57 ⟨(Nat.le_of_ble_eq_true rfl), (Nat.le_of_ble_eq_true rfl)⟩ (fun r_w u_w H locs hw hP hD hS => ?_)
    have hP : va_P g.1 vwCl (wX1 g qC AC σC) H := hP
    have hD : va_D Z (wX1 g qC AC σC) := hD
    obtain rfl : r_7 = r_w := hw.symm
    refine lv_isub hx hb dX1_act_60 ?_
    refine va_mmax hx hb (F.2.2.1.trans hl.1.symm) hown (hts (.methodLink RX1 110 Lib.Math.max.name) (by decide +kernel)) (hts (.static Lib.Math.max.name) (by decide +kernel)) (hts (.initialized "java/lang/Math") (by decide +kernel)) (hts (.code Lib.Math.max.name Lib.Math.max.code 2 (some .int)) (by decide +kernel)) (Nat.le_of_ble_eq_true rfl) (Nat.le_of_ble_eq_true rfl) (Nat.le_of_ble_eq_true rfl) (Nat.le_of_ble_eq_true rfl) dX1_act_61 ?_
    obtain ⟨σC_9, e_10, hF⟩ := q_bd_s hF
    refine va_put (D := g.1) (ci := 1) (v := .int (if (0 : Int32) < ((σC 99 9) - r_7) then ((σC 99 9) - r_7) else 0)) (ty := .int) (C := RX1) (T := TX1) (N := 12) hx hb hts hi1 tyX1 tyX1_ok nmX1 hown hK hP hD hS 0 rfl rfl 9 (by decide) (hts (.fieldLink RX1 52 "PanTales$Close" "heat" "I") (by decide +kernel)) (fun _ h9 => h9) rfl (by decide +kernel) rfl rfl (Nat.le_of_ble_eq_true rfl) dX1_act_64 (fun H locs hP hD hS => ?_)
    have hP : va_P g.1 vwCl (wX1 g qC AC (q_pt σC 9 (if (0 : Int32) < ((σC 99 9) - r_7) then ((σC 99 9) - r_7) else 0))) H := hP
    have hD : va_D Z (wX1 g qC AC (q_pt σC 9 (if (0 : Int32) < ((σC 99 9) - r_7) then ((σC 99 9) - r_7) else 0))) := hD
    rw [e_10] at hP hD
    refine lv_aload_n hx hb dX1_act_67 rfl (lv_at hl 0 rfl) ?_
    refine lv_iload_n hx hb dX1_act_68 rfl (lv_at hl 2 rfl) ?_
    obtain ⟨σC_11, e_12, hF⟩ := q_bd_s hF
    refine va_put (D := g.1) (ci := 1) (v := .int a2) (ty := .int) (C := RX1) (T := TX1) (N := 12) hx hb hts hi1 tyX1 tyX1_ok nmX1 hown hK hP hD hS 0 rfl rfl 8 (by decide) (hts (.fieldLink RX1 33 "PanTales$Close" "place" "I") (by decide +kernel)) (fun _ h9 => h9) rfl (by decide +kernel) rfl rfl (Nat.le_of_ble_eq_true rfl) dX1_act_69 (fun H locs hP hD hS => ?_)
    have hP : va_P g.1 vwCl (wX1 g qC AC (q_pt σC_9 8 a2)) H := hP
    have hD : va_D Z (wX1 g qC AC (q_pt σC_9 8 a2)) := hD
    rw [e_12] at hP hD
    refine lv_goto (tgt := 146) hx hb dX1_act_72 (by decide) ?_
    cases hF
    exact r_vret hx hb hr hlk hS () trivial hP hD dX1_act_146
  have hF := q_if_f k_6 hF
  by_cases k_13 : a1 = 2
  · have hF := q_if_t k_13 hF
    refine gtop (y := 2) k_13 ?_
    refine lv_tableIn (tgt := 75) (off := 74) hx hb dX1_act_1 (by decide) (by decide) rfl (by decide) ?_
    refine lv_aload_n hx hb dX1_act_75 rfl (lv_at hl 0 rfl) ?_
    refine lv_aload_n hx hb dX1_act_76 rfl (lv_at hl 0 rfl) ?_
    refine va_get (D := g.1) (ci := 1) (v := .int (σC 99 8)) (C := RX1) (T := TX1) (N := 12) hx hb hts hi1 hown hK hP 0 rfl rfl 8 (by decide) (hts (.fieldLink RX1 33 "PanTales$Close" "place" "I") (by decide +kernel)) (fun _ h9 => h9) rfl dX1_act_77 ?_
    obtain ⟨σC_14, h_15, hF⟩ := q_cl_s hF
    refine gcV_v (As := [.int (σC 99 8)]) (rest := []) (ci := 1) (q := (RX1, TX1, 12)) F hK hN hP hD hS hA (m_X1_warmBed l g H.size qC AC σC (σC 99 8) σC_14 h_15) gX1_act_X1_warmBed kX1_warmBed rfl rfl rfl rfl ⟨(Nat.le_of_ble_eq_true rfl), (Nat.le_of_ble_eq_true rfl)⟩ [0, 1, 2, 3, 4, 5, 6, 7] [] rfl rfl rfl (by decide) rfl rfl rfl rfl rfl hl.1 (Nat.le_of_ble_eq_true rfl) dX1_act_80 ⟨(Nat.le_of_ble_eq_true rfl), (Nat.le_of_ble_eq_true rfl)⟩ (fun u_w H locs hw hP hD hS => ?_)
    have hP : va_P g.1 vwCl (wX1 g qC AC σC_14) H := hP
    have hD : va_D Z (wX1 g qC AC σC_14) := hD
    refine lv_goto (tgt := 146) hx hb dX1_act_83 (by decide) ?_
    cases hF
    exact r_vret hx hb hr hlk hS () trivial hP hD dX1_act_146
  have hF := q_if_f k_13 hF
  by_cases k_16 : a1 = 3
  · have hF := q_if_t k_16 hF
    refine gtop (y := 3) k_16 ?_
    refine lv_tableIn (tgt := 86) (off := 85) hx hb dX1_act_1 (by decide) (by decide) rfl (by decide) ?_
    refine lv_aload_n hx hb dX1_act_86 rfl (lv_at hl 0 rfl) ?_
    refine lv_bipush (v := 99) hx hb dX1_act_87 (by decide) ?_
    refine lv_aload_n hx hb dX1_act_89 rfl (lv_at hl 0 rfl) ?_
    refine va_get (D := g.1) (ci := 1) (v := .int (σC 99 9)) (C := RX1) (T := TX1) (N := 12) hx hb hts hi1 hown hK hP 0 rfl rfl 9 (by decide) (hts (.fieldLink RX1 52 "PanTales$Close" "heat" "I") (by decide +kernel)) (fun _ h9 => h9) rfl dX1_act_90 ?_
    refine lv_bipush (v := 10) hx hb dX1_act_93 (by decide) ?_
    refine lv_iadd hx hb dX1_act_95 ?_
    refine va_mmin hx hb (F.2.2.1.trans hl.1.symm) hown (hts (.methodLink RX1 119 Lib.Math.min.name) (by decide +kernel)) (hts (.static Lib.Math.min.name) (by decide +kernel)) (hts (.initialized "java/lang/Math") (by decide +kernel)) (hts (.code Lib.Math.min.name Lib.Math.min.code 2 (some .int)) (by decide +kernel)) (Nat.le_of_ble_eq_true rfl) (Nat.le_of_ble_eq_true rfl) (Nat.le_of_ble_eq_true rfl) (Nat.le_of_ble_eq_true rfl) dX1_act_96 ?_
    obtain ⟨σC_17, e_18, hF⟩ := q_bd_s hF
    refine va_put (D := g.1) (ci := 1) (v := .int (if ((σC 99 9) + 10) < 99 then ((σC 99 9) + 10) else 99)) (ty := .int) (C := RX1) (T := TX1) (N := 12) hx hb hts hi1 tyX1 tyX1_ok nmX1 hown hK hP hD hS 0 rfl rfl 9 (by decide) (hts (.fieldLink RX1 52 "PanTales$Close" "heat" "I") (by decide +kernel)) (fun _ h9 => h9) rfl (by decide +kernel) rfl rfl (Nat.le_of_ble_eq_true rfl) dX1_act_99 (fun H locs hP hD hS => ?_)
    have hP : va_P g.1 vwCl (wX1 g qC AC (q_pt σC 9 (if ((σC 99 9) + 10) < 99 then ((σC 99 9) + 10) else 99))) H := hP
    have hD : va_D Z (wX1 g qC AC (q_pt σC 9 (if ((σC 99 9) + 10) < 99 then ((σC 99 9) + 10) else 99))) := hD
    rw [e_18] at hP hD
    refine lv_aload_n hx hb dX1_act_102 rfl (lv_at hl 0 rfl) ?_
    refine lv_aload_n hx hb dX1_act_103 rfl (lv_at hl 0 rfl) ?_
    refine lv_aload_n hx hb dX1_act_104 rfl (lv_at hl 0 rfl) ?_
    refine va_get (D := g.1) (ci := 1) (v := .int (σC_17 99 10)) (C := RX1) (T := TX1) (N := 12) hx hb hts hi1 hown hK hP 0 rfl rfl 10 (by decide) (hts (.fieldLink RX1 55 "PanTales$Close" "tale" "I") (by decide +kernel)) (fun _ h9 => h9) rfl dX1_act_105 ?_
    obtain ⟨r_19, h_20, hF⟩ := q_cl_s hF
    refine gcV_i (As := [.int (σC_17 99 10)]) (rest := [.ref qC]) (ci := 1) (q := (RX1, TX1, 12)) F hK hN hP hD hS hA (m_X1_fadesInto l g H.size qC AC σC_17 (σC_17 99 10) r_19 h_20) gX1_act_X1_fadesInto kX1_fadesInto rfl rfl rfl rfl ⟨(Nat.le_of_ble_eq_true rfl), (Nat.le_of_ble_eq_true rfl)⟩ [0, 1, 2, 3, 4, 5, 6, 7] [] rfl rfl rfl (by decide) rfl rfl rfl rfl rfl hl.1 (Nat.le_of_ble_eq_true rfl) dX1_act_108 ⟨(Nat.le_of_ble_eq_true rfl), (Nat.le_of_ble_eq_true rfl)⟩ (fun r_w u_w H locs hw hP hD hS => ?_)
    have hP : va_P g.1 vwCl (wX1 g qC AC σC_17) H := hP
    have hD : va_D Z (wX1 g qC AC σC_17) := hD
    obtain rfl : r_19 = r_w := hw.symm
    obtain ⟨σC_21, e_22, hF⟩ := q_bd_s hF
    refine va_put (D := g.1) (ci := 1) (v := .int r_19) (ty := .int) (C := RX1) (T := TX1) (N := 12) hx hb hts hi1 tyX1 tyX1_ok nmX1 hown hK hP hD hS 0 rfl rfl 10 (by decide) (hts (.fieldLink RX1 55 "PanTales$Close" "tale" "I") (by decide +kernel)) (fun _ h9 => h9) rfl (by decide +kernel) rfl rfl (Nat.le_of_ble_eq_true rfl) dX1_act_111 (fun H locs hP hD hS => ?_)
    have hP : va_P g.1 vwCl (wX1 g qC AC (q_pt σC_17 10 r_19)) H := hP
    have hD : va_D Z (wX1 g qC AC (q_pt σC_17 10 r_19)) := hD
    rw [e_22] at hP hD
    refine lv_goto (tgt := 146) hx hb dX1_act_114 (by decide) ?_
    cases hF
    exact r_vret hx hb hr hlk hS () trivial hP hD dX1_act_146
  have hF := q_if_f k_16 hF
  refine lv_tableOut (tgt := 117) hx hb dX1_act_1 (sw_out 4 (by decide) (by decide) (lt_s (lt_s (lt_s (lt_s lt_0 k_1) k_6) k_13) k_16)) (by decide) ?_
  refine lv_aload_n hx hb dX1_act_117 rfl (lv_at hl 0 rfl) ?_
  refine lv_bipush (v := 10) hx hb dX1_act_118 (by decide) ?_
  obtain ⟨σC_23, e_24, hF⟩ := q_bd_s hF
  refine va_put (D := g.1) (ci := 1) (v := .int 10) (ty := .int) (C := RX1) (T := TX1) (N := 12) hx hb hts hi1 tyX1 tyX1_ok nmX1 hown hK hP hD hS 0 rfl rfl 8 (by decide) (hts (.fieldLink RX1 33 "PanTales$Close" "place" "I") (by decide +kernel)) (fun _ h9 => h9) rfl (by decide +kernel) rfl rfl (Nat.le_of_ble_eq_true rfl) dX1_act_120 (fun H locs hP hD hS => ?_)
  have hP : va_P g.1 vwCl (wX1 g qC AC (q_pt σC 8 (10 : Int32))) H := hP
  have hD : va_D Z (wX1 g qC AC (q_pt σC 8 (10 : Int32))) := hD
  rw [e_24] at hP hD
  refine lv_aload_n hx hb dX1_act_123 rfl (lv_at hl 0 rfl) ?_
  refine lv_iconst (v := 0) hx hb dX1_act_124 (by decide) ?_
  obtain ⟨σC_25, e_26, hF⟩ := q_bd_s hF
  refine va_put (D := g.1) (ci := 1) (v := .int 0) (ty := .int) (C := RX1) (T := TX1) (N := 12) hx hb hts hi1 tyX1 tyX1_ok nmX1 hown hK hP hD hS 0 rfl rfl 9 (by decide) (hts (.fieldLink RX1 52 "PanTales$Close" "heat" "I") (by decide +kernel)) (fun _ h9 => h9) rfl (by decide +kernel) rfl rfl (Nat.le_of_ble_eq_true rfl) dX1_act_125 (fun H locs hP hD hS => ?_)
  have hP : va_P g.1 vwCl (wX1 g qC AC (q_pt σC_23 9 (0 : Int32))) H := hP
  have hD : va_D Z (wX1 g qC AC (q_pt σC_23 9 (0 : Int32))) := hD
  rw [e_26] at hP hD
  refine lv_aload_n hx hb dX1_act_128 rfl (lv_at hl 0 rfl) ?_
  refine lv_dup hx hb dX1_act_129 rfl ?_
  refine va_get (D := g.1) (ci := 1) (v := .int (σC_25 99 11)) (C := RX1) (T := TX1) (N := 12) hx hb hts hi1 hown hK hP 0 rfl rfl 11 (by decide) (hts (.fieldLink RX1 58 "PanTales$Close" "mornings" "I") (by decide +kernel)) (fun _ h9 => h9) rfl dX1_act_130 ?_
  refine lv_iconst (v := 1) hx hb dX1_act_133 (by decide) ?_
  refine lv_iadd hx hb dX1_act_134 ?_
  obtain ⟨σC_27, e_28, hF⟩ := q_bd_s hF
  refine va_put (D := g.1) (ci := 1) (v := .int ((σC_25 99 11) + 1)) (ty := .int) (C := RX1) (T := TX1) (N := 12) hx hb hts hi1 tyX1 tyX1_ok nmX1 hown hK hP hD hS 0 rfl rfl 11 (by decide) (hts (.fieldLink RX1 58 "PanTales$Close" "mornings" "I") (by decide +kernel)) (fun _ h9 => h9) rfl (by decide +kernel) rfl rfl (Nat.le_of_ble_eq_true rfl) dX1_act_135 (fun H locs hP hD hS => ?_)
  have hP : va_P g.1 vwCl (wX1 g qC AC (q_pt σC_25 11 ((σC_25 99 11) + 1))) H := hP
  have hD : va_D Z (wX1 g qC AC (q_pt σC_25 11 ((σC_25 99 11) + 1))) := hD
  rw [e_28] at hP hD
  refine lv_aload_n hx hb dX1_act_138 rfl (lv_at hl 0 rfl) ?_
  refine va_get (D := g.1) (ci := 1) (v := .ref (AC 2)) (C := RX1) (T := TX1) (N := 12) hx hb hts hi1 hown hK hP 0 rfl rfl 2 (by decide) (hts (.fieldLink RX1 18 "PanTales$Close" "damps" "[I") (by decide +kernel)) (fun _ h9 => h9) rfl dX1_act_139 ?_
  refine lv_iconst (v := 0) hx hb dX1_act_142 (by decide) ?_
  obtain ⟨σt_29, h_30, hF⟩ := q_cl_s hF
  refine gcS_v (As := [.ref (AC 2), .int 0]) (rest := []) F hK hN hP hD hS hA (m_J7_fill_53178 l g H.size (AC 2) 10 (fun _ => σC_27 2) (0 : Int32) σt_29 h_30) gX1_act_J7_fill_53178 kJ7_fill_53178 rfl rfl rfl ⟨(Nat.le_of_ble_eq_true rfl), (Nat.le_of_ble_eq_true rfl)⟩ [3] [0, 1, 2, 4, 5, 6, 7] rfl rfl rfl (by decide) rfl rfl rfl hl.1 (Nat.le_of_ble_eq_true rfl) dX1_act_143 ⟨(Nat.le_of_ble_eq_true rfl), (Nat.le_of_ble_eq_true rfl)⟩ (fun u_w H locs hw hP hD hS => ?_)
  obtain ⟨σC_31, e_32, hF⟩ := q_bd_s hF
  have hP : va_P g.1 vwCl (wX1 g qC AC (q_up σC_27 2 (σt_29 0))) H := hP.sub [0, 1, 2, 7, 3, 4, 5, 6] rfl
  have hD : va_D Z (wX1 g qC AC (q_up σC_27 2 (σt_29 0))) := hD.sub [0, 1, 2, 7, 3, 4, 5, 6] (by decide) rfl
  rw [e_32] at hP hD
  cases hF
  exact r_vret hx hb hr hlk hS () trivial hP hD dX1_act_146
set_option maxHeartbeats 4000000 in
set_option maxRecDepth 100000 in
theorem m_X1_copyFrom (l : Launch) (g : GT) (sz : Nat) (qC : Nat) (AC : Nat → Nat) (σC : qS) (qD : Nat) (AD : Nat → Nat) (σD : qS) (σC' : qS) (hF : f_X1_copyFrom σC σD = some σC') : Cv l yX1_copyFrom wsX1_copyFrom { frames := 1, cells := 0, slots := 0, locals := 80 } g sz [.ref qC, .ref qD] (wX1 g qC AC σC ++ wX1 g qD AD σD) (wX1 g qC AC σC' ++ wX1 g qD AD σD) := by
  refine gMet_v (cc := cX1_copyFrom) (maxL := 2) (ret := none) (by decide) rfl (Nat.le_of_ble_eq_true rfl) ?_
  intro p e s m args below meth c Z hx hb hr F hlk hnm hK hN hA H locs hP hD hS ls hl
  have hl : lv_has ls 2 [(0, .ref qC), (1, .ref qD)] := hl
  have F : CallFix p m c cX1_copyFrom 2 s args wsX1_copyFrom RX1 := F
  have hts := F.2.2.2.2
  have hown : s.vm.findClass RX1 = some m.cls := F.2.2.2.1
  have hi1 : ∀ w ∈ u_ws RX1 TX1 12, w ∈ wsX1_copyFrom := by decide +kernel
  dsimp only [f_X1_copyFrom] at hF
  refine lv_aload_n hx hb dX1_copyFrom_0 rfl (lv_at hl 1 rfl) ?_
  refine va_get (D := g.1) (ci := 1) (v := .ref (AD 0)) (C := RX1) (T := TX1) (N := 12) hx hb hts hi1 hown hK hP 8 rfl rfl 0 (by decide) (hts (.fieldLink RX1 9 "PanTales$Close" "roads" "[I") (by decide +kernel)) (fun _ h9 => h9) rfl dX1_copyFrom_1 ?_
  refine lv_iconst (v := 0) hx hb dX1_copyFrom_4 (by decide) ?_
  refine lv_aload_n hx hb dX1_copyFrom_5 rfl (lv_at hl 0 rfl) ?_
  refine va_get (D := g.1) (ci := 1) (v := .ref (AC 0)) (C := RX1) (T := TX1) (N := 12) hx hb hts hi1 hown hK hP 0 rfl rfl 0 (by decide) (hts (.fieldLink RX1 9 "PanTales$Close" "roads" "[I") (by decide +kernel)) (fun _ h9 => h9) rfl dX1_copyFrom_6 ?_
  refine lv_iconst (v := 0) hx hb dX1_copyFrom_9 (by decide) ?_
  refine lv_bipush (v := 121) hx hb dX1_copyFrom_10 (by decide) ?_
  obtain ⟨σC_1, e_2, hF⟩ := q_bd_s hF
  refine r_copyi hx hb (F.2.2.1.trans hl.1.symm) hown (hts (.methodLink RX1 43 arraycopyName) (by decide +kernel)) (hts (.native arraycopyName) (by decide +kernel)) (hts (.static arraycopyName) (by decide +kernel)) (hts (.initialized "java/lang/System") (by decide +kernel)) hK hP hD hS 9 1 rfl rfl (N := 121) (by decide) (nI_clamp (n := 121) (by decide)) (Nat.le_of_ble_eq_true rfl) (Nat.le_of_ble_eq_true rfl) dX1_copyFrom_12 (fun H locs hP hD hS => ?_)
  have hP : va_P g.1 vwCl (wX1 g qC AC (q_up σC 0 (σD 0)) ++ wX1 g qD AD σD) H := hP
  have hD : va_D Z (wX1 g qC AC (q_up σC 0 (σD 0)) ++ wX1 g qD AD σD) := hD
  rw [e_2] at hP hD
  refine lv_aload_n hx hb dX1_copyFrom_15 rfl (lv_at hl 1 rfl) ?_
  refine va_get (D := g.1) (ci := 1) (v := .ref (AD 1)) (C := RX1) (T := TX1) (N := 12) hx hb hts hi1 hown hK hP 8 rfl rfl 1 (by decide) (hts (.fieldLink RX1 15 "PanTales$Close" "doubts" "[I") (by decide +kernel)) (fun _ h9 => h9) rfl dX1_copyFrom_16 ?_
  refine lv_iconst (v := 0) hx hb dX1_copyFrom_19 (by decide) ?_
  refine lv_aload_n hx hb dX1_copyFrom_20 rfl (lv_at hl 0 rfl) ?_
  refine va_get (D := g.1) (ci := 1) (v := .ref (AC 1)) (C := RX1) (T := TX1) (N := 12) hx hb hts hi1 hown hK hP 0 rfl rfl 1 (by decide) (hts (.fieldLink RX1 15 "PanTales$Close" "doubts" "[I") (by decide +kernel)) (fun _ h9 => h9) rfl dX1_copyFrom_21 ?_
  refine lv_iconst (v := 0) hx hb dX1_copyFrom_24 (by decide) ?_
  refine lv_bipush (v := 10) hx hb dX1_copyFrom_25 (by decide) ?_
  obtain ⟨σC_3, e_4, hF⟩ := q_bd_s hF
  refine r_copyi hx hb (F.2.2.1.trans hl.1.symm) hown (hts (.methodLink RX1 43 arraycopyName) (by decide +kernel)) (hts (.native arraycopyName) (by decide +kernel)) (hts (.static arraycopyName) (by decide +kernel)) (hts (.initialized "java/lang/System") (by decide +kernel)) hK hP hD hS 10 2 rfl rfl (N := 10) (by decide) (nI_clamp (n := 10) (by decide)) (Nat.le_of_ble_eq_true rfl) (Nat.le_of_ble_eq_true rfl) dX1_copyFrom_27 (fun H locs hP hD hS => ?_)
  have hP : va_P g.1 vwCl (wX1 g qC AC (q_up σC_1 1 (σD 1)) ++ wX1 g qD AD σD) H := hP
  have hD : va_D Z (wX1 g qC AC (q_up σC_1 1 (σD 1)) ++ wX1 g qD AD σD) := hD
  rw [e_4] at hP hD
  refine lv_aload_n hx hb dX1_copyFrom_30 rfl (lv_at hl 1 rfl) ?_
  refine va_get (D := g.1) (ci := 1) (v := .ref (AD 2)) (C := RX1) (T := TX1) (N := 12) hx hb hts hi1 hown hK hP 8 rfl rfl 2 (by decide) (hts (.fieldLink RX1 18 "PanTales$Close" "damps" "[I") (by decide +kernel)) (fun _ h9 => h9) rfl dX1_copyFrom_31 ?_
  refine lv_iconst (v := 0) hx hb dX1_copyFrom_34 (by decide) ?_
  refine lv_aload_n hx hb dX1_copyFrom_35 rfl (lv_at hl 0 rfl) ?_
  refine va_get (D := g.1) (ci := 1) (v := .ref (AC 2)) (C := RX1) (T := TX1) (N := 12) hx hb hts hi1 hown hK hP 0 rfl rfl 2 (by decide) (hts (.fieldLink RX1 18 "PanTales$Close" "damps" "[I") (by decide +kernel)) (fun _ h9 => h9) rfl dX1_copyFrom_36 ?_
  refine lv_iconst (v := 0) hx hb dX1_copyFrom_39 (by decide) ?_
  refine lv_bipush (v := 10) hx hb dX1_copyFrom_40 (by decide) ?_
  obtain ⟨σC_5, e_6, hF⟩ := q_bd_s hF
  refine r_copyi hx hb (F.2.2.1.trans hl.1.symm) hown (hts (.methodLink RX1 43 arraycopyName) (by decide +kernel)) (hts (.native arraycopyName) (by decide +kernel)) (hts (.static arraycopyName) (by decide +kernel)) (hts (.initialized "java/lang/System") (by decide +kernel)) hK hP hD hS 11 3 rfl rfl (N := 10) (by decide) (nI_clamp (n := 10) (by decide)) (Nat.le_of_ble_eq_true rfl) (Nat.le_of_ble_eq_true rfl) dX1_copyFrom_42 (fun H locs hP hD hS => ?_)
  have hP : va_P g.1 vwCl (wX1 g qC AC (q_up σC_3 2 (σD 2)) ++ wX1 g qD AD σD) H := hP
  have hD : va_D Z (wX1 g qC AC (q_up σC_3 2 (σD 2)) ++ wX1 g qD AD σD) := hD
  rw [e_6] at hP hD
  refine lv_aload_n hx hb dX1_copyFrom_45 rfl (lv_at hl 1 rfl) ?_
  refine va_get (D := g.1) (ci := 1) (v := .ref (AD 3)) (C := RX1) (T := TX1) (N := 12) hx hb hts hi1 hown hK hP 8 rfl rfl 3 (by decide) (hts (.fieldLink RX1 21 "PanTales$Close" "beliefs" "[I") (by decide +kernel)) (fun _ h9 => h9) rfl dX1_copyFrom_46 ?_
  refine lv_iconst (v := 0) hx hb dX1_copyFrom_49 (by decide) ?_
  refine lv_aload_n hx hb dX1_copyFrom_50 rfl (lv_at hl 0 rfl) ?_
  refine va_get (D := g.1) (ci := 1) (v := .ref (AC 3)) (C := RX1) (T := TX1) (N := 12) hx hb hts hi1 hown hK hP 0 rfl rfl 3 (by decide) (hts (.fieldLink RX1 21 "PanTales$Close" "beliefs" "[I") (by decide +kernel)) (fun _ h9 => h9) rfl dX1_copyFrom_51 ?_
  refine lv_iconst (v := 0) hx hb dX1_copyFrom_54 (by decide) ?_
  refine lv_bipush (v := 10) hx hb dX1_copyFrom_55 (by decide) ?_
  obtain ⟨σC_7, e_8, hF⟩ := q_bd_s hF
  refine r_copyi hx hb (F.2.2.1.trans hl.1.symm) hown (hts (.methodLink RX1 43 arraycopyName) (by decide +kernel)) (hts (.native arraycopyName) (by decide +kernel)) (hts (.static arraycopyName) (by decide +kernel)) (hts (.initialized "java/lang/System") (by decide +kernel)) hK hP hD hS 12 4 rfl rfl (N := 10) (by decide) (nI_clamp (n := 10) (by decide)) (Nat.le_of_ble_eq_true rfl) (Nat.le_of_ble_eq_true rfl) dX1_copyFrom_57 (fun H locs hP hD hS => ?_)
  have hP : va_P g.1 vwCl (wX1 g qC AC (q_up σC_5 3 (σD 3)) ++ wX1 g qD AD σD) H := hP
  have hD : va_D Z (wX1 g qC AC (q_up σC_5 3 (σD 3)) ++ wX1 g qD AD σD) := hD
  rw [e_8] at hP hD
  refine lv_aload_n hx hb dX1_copyFrom_60 rfl (lv_at hl 1 rfl) ?_
  refine va_get (D := g.1) (ci := 1) (v := .ref (AD 4)) (C := RX1) (T := TX1) (N := 12) hx hb hts hi1 hown hK hP 8 rfl rfl 4 (by decide) (hts (.fieldLink RX1 24 "PanTales$Close" "fadings" "[I") (by decide +kernel)) (fun _ h9 => h9) rfl dX1_copyFrom_61 ?_
  refine lv_iconst (v := 0) hx hb dX1_copyFrom_64 (by decide) ?_
  refine lv_aload_n hx hb dX1_copyFrom_65 rfl (lv_at hl 0 rfl) ?_
  refine va_get (D := g.1) (ci := 1) (v := .ref (AC 4)) (C := RX1) (T := TX1) (N := 12) hx hb hts hi1 hown hK hP 0 rfl rfl 4 (by decide) (hts (.fieldLink RX1 24 "PanTales$Close" "fadings" "[I") (by decide +kernel)) (fun _ h9 => h9) rfl dX1_copyFrom_66 ?_
  refine lv_iconst (v := 0) hx hb dX1_copyFrom_69 (by decide) ?_
  refine lv_bipush (v := 10) hx hb dX1_copyFrom_70 (by decide) ?_
  obtain ⟨σC_9, e_10, hF⟩ := q_bd_s hF
  refine r_copyi hx hb (F.2.2.1.trans hl.1.symm) hown (hts (.methodLink RX1 43 arraycopyName) (by decide +kernel)) (hts (.native arraycopyName) (by decide +kernel)) (hts (.static arraycopyName) (by decide +kernel)) (hts (.initialized "java/lang/System") (by decide +kernel)) hK hP hD hS 13 5 rfl rfl (N := 10) (by decide) (nI_clamp (n := 10) (by decide)) (Nat.le_of_ble_eq_true rfl) (Nat.le_of_ble_eq_true rfl) dX1_copyFrom_72 (fun H locs hP hD hS => ?_)
  have hP : va_P g.1 vwCl (wX1 g qC AC (q_up σC_7 4 (σD 4)) ++ wX1 g qD AD σD) H := hP
  have hD : va_D Z (wX1 g qC AC (q_up σC_7 4 (σD 4)) ++ wX1 g qD AD σD) := hD
  rw [e_10] at hP hD
  refine lv_aload_n hx hb dX1_copyFrom_75 rfl (lv_at hl 1 rfl) ?_
  refine va_get (D := g.1) (ci := 1) (v := .ref (AD 5)) (C := RX1) (T := TX1) (N := 12) hx hb hts hi1 hown hK hP 8 rfl rfl 5 (by decide) (hts (.fieldLink RX1 27 "PanTales$Close" "sightBeds" "[I") (by decide +kernel)) (fun _ h9 => h9) rfl dX1_copyFrom_76 ?_
  refine lv_iconst (v := 0) hx hb dX1_copyFrom_79 (by decide) ?_
  refine lv_aload_n hx hb dX1_copyFrom_80 rfl (lv_at hl 0 rfl) ?_
  refine va_get (D := g.1) (ci := 1) (v := .ref (AC 5)) (C := RX1) (T := TX1) (N := 12) hx hb hts hi1 hown hK hP 0 rfl rfl 5 (by decide) (hts (.fieldLink RX1 27 "PanTales$Close" "sightBeds" "[I") (by decide +kernel)) (fun _ h9 => h9) rfl dX1_copyFrom_81 ?_
  refine lv_iconst (v := 0) hx hb dX1_copyFrom_84 (by decide) ?_
  refine lv_bipush (v := 8) hx hb dX1_copyFrom_85 (by decide) ?_
  obtain ⟨σC_11, e_12, hF⟩ := q_bd_s hF
  refine r_copyi hx hb (F.2.2.1.trans hl.1.symm) hown (hts (.methodLink RX1 43 arraycopyName) (by decide +kernel)) (hts (.native arraycopyName) (by decide +kernel)) (hts (.static arraycopyName) (by decide +kernel)) (hts (.initialized "java/lang/System") (by decide +kernel)) hK hP hD hS 14 6 rfl rfl (N := 8) (by decide) (nI_clamp (n := 8) (by decide)) (Nat.le_of_ble_eq_true rfl) (Nat.le_of_ble_eq_true rfl) dX1_copyFrom_87 (fun H locs hP hD hS => ?_)
  have hP : va_P g.1 vwCl (wX1 g qC AC (q_up σC_9 5 (σD 5)) ++ wX1 g qD AD σD) H := hP
  have hD : va_D Z (wX1 g qC AC (q_up σC_9 5 (σD 5)) ++ wX1 g qD AD σD) := hD
  rw [e_12] at hP hD
  refine lv_aload_n hx hb dX1_copyFrom_90 rfl (lv_at hl 1 rfl) ?_
  refine va_get (D := g.1) (ci := 1) (v := .ref (AD 6)) (C := RX1) (T := TX1) (N := 12) hx hb hts hi1 hown hK hP 8 rfl rfl 6 (by decide) (hts (.fieldLink RX1 30 "PanTales$Close" "sightTales" "[I") (by decide +kernel)) (fun _ h9 => h9) rfl dX1_copyFrom_91 ?_
  refine lv_iconst (v := 0) hx hb dX1_copyFrom_94 (by decide) ?_
  refine lv_aload_n hx hb dX1_copyFrom_95 rfl (lv_at hl 0 rfl) ?_
  refine va_get (D := g.1) (ci := 1) (v := .ref (AC 6)) (C := RX1) (T := TX1) (N := 12) hx hb hts hi1 hown hK hP 0 rfl rfl 6 (by decide) (hts (.fieldLink RX1 30 "PanTales$Close" "sightTales" "[I") (by decide +kernel)) (fun _ h9 => h9) rfl dX1_copyFrom_96 ?_
  refine lv_iconst (v := 0) hx hb dX1_copyFrom_99 (by decide) ?_
  refine lv_bipush (v := 8) hx hb dX1_copyFrom_100 (by decide) ?_
  obtain ⟨σC_13, e_14, hF⟩ := q_bd_s hF
  refine r_copyi hx hb (F.2.2.1.trans hl.1.symm) hown (hts (.methodLink RX1 43 arraycopyName) (by decide +kernel)) (hts (.native arraycopyName) (by decide +kernel)) (hts (.static arraycopyName) (by decide +kernel)) (hts (.initialized "java/lang/System") (by decide +kernel)) hK hP hD hS 15 7 rfl rfl (N := 8) (by decide) (nI_clamp (n := 8) (by decide)) (Nat.le_of_ble_eq_true rfl) (Nat.le_of_ble_eq_true rfl) dX1_copyFrom_102 (fun H locs hP hD hS => ?_)
  have hP : va_P g.1 vwCl (wX1 g qC AC (q_up σC_11 6 (σD 6)) ++ wX1 g qD AD σD) H := hP
  have hD : va_D Z (wX1 g qC AC (q_up σC_11 6 (σD 6)) ++ wX1 g qD AD σD) := hD
  rw [e_14] at hP hD
  refine lv_aload_n hx hb dX1_copyFrom_105 rfl (lv_at hl 0 rfl) ?_
  refine lv_aload_n hx hb dX1_copyFrom_106 rfl (lv_at hl 1 rfl) ?_
  refine va_get (D := g.1) (ci := 1) (v := .int (σD 99 7)) (C := RX1) (T := TX1) (N := 12) hx hb hts hi1 hown hK hP 8 rfl rfl 7 (by decide) (hts (.fieldLink RX1 49 "PanTales$Close" "sights" "I") (by decide +kernel)) (fun _ h9 => h9) rfl dX1_copyFrom_107 ?_
  obtain ⟨σC_15, e_16, hF⟩ := q_bd_s hF
  refine va_put (D := g.1) (ci := 1) (v := .int (σD 99 7)) (ty := .int) (C := RX1) (T := TX1) (N := 12) hx hb hts hi1 tyX1 tyX1_ok nmX1 hown hK hP hD hS 0 rfl rfl 7 (by decide) (hts (.fieldLink RX1 49 "PanTales$Close" "sights" "I") (by decide +kernel)) (fun _ h9 => h9) rfl (by decide +kernel) rfl rfl (Nat.le_of_ble_eq_true rfl) dX1_copyFrom_110 (fun H locs hP hD hS => ?_)
  have hP : va_P g.1 vwCl (wX1 g qC AC (q_pt σC_13 7 (σD 99 7)) ++ wX1 g qD AD σD) H := hP
  have hD : va_D Z (wX1 g qC AC (q_pt σC_13 7 (σD 99 7)) ++ wX1 g qD AD σD) := hD
  rw [e_16] at hP hD
  refine lv_aload_n hx hb dX1_copyFrom_113 rfl (lv_at hl 0 rfl) ?_
  refine lv_aload_n hx hb dX1_copyFrom_114 rfl (lv_at hl 1 rfl) ?_
  refine va_get (D := g.1) (ci := 1) (v := .int (σD 99 8)) (C := RX1) (T := TX1) (N := 12) hx hb hts hi1 hown hK hP 8 rfl rfl 8 (by decide) (hts (.fieldLink RX1 33 "PanTales$Close" "place" "I") (by decide +kernel)) (fun _ h9 => h9) rfl dX1_copyFrom_115 ?_
  obtain ⟨σC_17, e_18, hF⟩ := q_bd_s hF
  refine va_put (D := g.1) (ci := 1) (v := .int (σD 99 8)) (ty := .int) (C := RX1) (T := TX1) (N := 12) hx hb hts hi1 tyX1 tyX1_ok nmX1 hown hK hP hD hS 0 rfl rfl 8 (by decide) (hts (.fieldLink RX1 33 "PanTales$Close" "place" "I") (by decide +kernel)) (fun _ h9 => h9) rfl (by decide +kernel) rfl rfl (Nat.le_of_ble_eq_true rfl) dX1_copyFrom_118 (fun H locs hP hD hS => ?_)
  have hP : va_P g.1 vwCl (wX1 g qC AC (q_pt σC_15 8 (σD 99 8)) ++ wX1 g qD AD σD) H := hP
  have hD : va_D Z (wX1 g qC AC (q_pt σC_15 8 (σD 99 8)) ++ wX1 g qD AD σD) := hD
  rw [e_18] at hP hD
  refine lv_aload_n hx hb dX1_copyFrom_121 rfl (lv_at hl 0 rfl) ?_
  refine lv_aload_n hx hb dX1_copyFrom_122 rfl (lv_at hl 1 rfl) ?_
  refine va_get (D := g.1) (ci := 1) (v := .int (σD 99 9)) (C := RX1) (T := TX1) (N := 12) hx hb hts hi1 hown hK hP 8 rfl rfl 9 (by decide) (hts (.fieldLink RX1 52 "PanTales$Close" "heat" "I") (by decide +kernel)) (fun _ h9 => h9) rfl dX1_copyFrom_123 ?_
  obtain ⟨σC_19, e_20, hF⟩ := q_bd_s hF
  refine va_put (D := g.1) (ci := 1) (v := .int (σD 99 9)) (ty := .int) (C := RX1) (T := TX1) (N := 12) hx hb hts hi1 tyX1 tyX1_ok nmX1 hown hK hP hD hS 0 rfl rfl 9 (by decide) (hts (.fieldLink RX1 52 "PanTales$Close" "heat" "I") (by decide +kernel)) (fun _ h9 => h9) rfl (by decide +kernel) rfl rfl (Nat.le_of_ble_eq_true rfl) dX1_copyFrom_126 (fun H locs hP hD hS => ?_)
  have hP : va_P g.1 vwCl (wX1 g qC AC (q_pt σC_17 9 (σD 99 9)) ++ wX1 g qD AD σD) H := hP
  have hD : va_D Z (wX1 g qC AC (q_pt σC_17 9 (σD 99 9)) ++ wX1 g qD AD σD) := hD
  rw [e_20] at hP hD
  refine lv_aload_n hx hb dX1_copyFrom_129 rfl (lv_at hl 0 rfl) ?_
  refine lv_aload_n hx hb dX1_copyFrom_130 rfl (lv_at hl 1 rfl) ?_
  refine va_get (D := g.1) (ci := 1) (v := .int (σD 99 10)) (C := RX1) (T := TX1) (N := 12) hx hb hts hi1 hown hK hP 8 rfl rfl 10 (by decide) (hts (.fieldLink RX1 55 "PanTales$Close" "tale" "I") (by decide +kernel)) (fun _ h9 => h9) rfl dX1_copyFrom_131 ?_
  obtain ⟨σC_21, e_22, hF⟩ := q_bd_s hF
  refine va_put (D := g.1) (ci := 1) (v := .int (σD 99 10)) (ty := .int) (C := RX1) (T := TX1) (N := 12) hx hb hts hi1 tyX1 tyX1_ok nmX1 hown hK hP hD hS 0 rfl rfl 10 (by decide) (hts (.fieldLink RX1 55 "PanTales$Close" "tale" "I") (by decide +kernel)) (fun _ h9 => h9) rfl (by decide +kernel) rfl rfl (Nat.le_of_ble_eq_true rfl) dX1_copyFrom_134 (fun H locs hP hD hS => ?_)
  have hP : va_P g.1 vwCl (wX1 g qC AC (q_pt σC_19 10 (σD 99 10)) ++ wX1 g qD AD σD) H := hP
  have hD : va_D Z (wX1 g qC AC (q_pt σC_19 10 (σD 99 10)) ++ wX1 g qD AD σD) := hD
  rw [e_22] at hP hD
  refine lv_aload_n hx hb dX1_copyFrom_137 rfl (lv_at hl 0 rfl) ?_
  refine lv_aload_n hx hb dX1_copyFrom_138 rfl (lv_at hl 1 rfl) ?_
  refine va_get (D := g.1) (ci := 1) (v := .int (σD 99 11)) (C := RX1) (T := TX1) (N := 12) hx hb hts hi1 hown hK hP 8 rfl rfl 11 (by decide) (hts (.fieldLink RX1 58 "PanTales$Close" "mornings" "I") (by decide +kernel)) (fun _ h9 => h9) rfl dX1_copyFrom_139 ?_
  obtain ⟨σC_23, e_24, hF⟩ := q_bd_s hF
  refine va_put (D := g.1) (ci := 1) (v := .int (σD 99 11)) (ty := .int) (C := RX1) (T := TX1) (N := 12) hx hb hts hi1 tyX1 tyX1_ok nmX1 hown hK hP hD hS 0 rfl rfl 11 (by decide) (hts (.fieldLink RX1 58 "PanTales$Close" "mornings" "I") (by decide +kernel)) (fun _ h9 => h9) rfl (by decide +kernel) rfl rfl (Nat.le_of_ble_eq_true rfl) dX1_copyFrom_142 (fun H locs hP hD hS => ?_)
  have hP : va_P g.1 vwCl (wX1 g qC AC (q_pt σC_21 11 (σD 99 11)) ++ wX1 g qD AD σD) H := hP
  have hD : va_D Z (wX1 g qC AC (q_pt σC_21 11 (σD 99 11)) ++ wX1 g qD AD σD) := hD
  rw [e_24] at hP hD
  cases hF
  exact r_vret hx hb hr hlk hS () trivial hP hD dX1_copyFrom_145

theorem kX3_size : YOk yX3_size 0 := by decide +kernel
theorem kX3_add : YOk yX3_add 1 := by decide +kernel
theorem kX3_clear : YOk yX3_clear 0 := by decide +kernel
theorem kX3_signAt : YOk yX3_signAt 1 := by decide +kernel
theorem kX3_digitAt : YOk yX3_digitAt 1 := by decide +kernel
theorem kX3_placeAt : YOk yX3_placeAt 1 := by decide +kernel
theorem kX3_kindAt : YOk yX3_kindAt 1 := by decide +kernel
theorem kX3_whatAt : YOk yX3_whatAt 1 := by decide +kernel
theorem kX3_faultPlace : YOk yX3_faultPlace 0 := by decide +kernel
theorem kX2_actOn : YOk yX2_actOn 4 := by decide +kernel
theorem kX2_pass : YOk yX2_pass 3 := by decide +kernel
set_option maxHeartbeats 4000000 in
set_option maxRecDepth 100000 in
theorem m_X3_size (l : Launch) (g : GT) (sz : Nat) (qP : Nat) (AP : Nat → Nat) (σP : qS) (rr : Int32) (hF : f_X3_size σP = some rr) : Ci l yX3_size wsX3_size { frames := 0, cells := 0, slots := 0, locals := 0 } g sz [.ref qP] (wX3 g qP AP σP) rr (wX3 g qP AP σP) := by
  refine gMet_i (cc := cX3_size) (maxL := 1) (ret := (some .int)) (by decide) rfl (Nat.le_of_ble_eq_true rfl) ?_
  intro p e s m args below meth c Z hx hb hr F hlk hnm hK hN hA H locs hP hD hS ls hl
  have hl : lv_has ls 1 [(0, .ref qP)] := hl
  have F : CallFix p m c cX3_size 1 s args wsX3_size RX3 := F
  have hts := F.2.2.2.2
  have hown : s.vm.findClass RX3 = some m.cls := F.2.2.2.1
  have hi3 : ∀ w ∈ u_ws RX3 TX3 2, w ∈ wsX3_size := by decide +kernel
  dsimp only [f_X3_size] at hF
  refine lv_aload_n hx hb dX3_size_0 rfl (lv_at hl 0 rfl) ?_
  refine va_get (D := g.1) (ci := 3) (v := .int (σP 99 1)) (C := RX3) (T := TX3) (N := 2) hx hb hts hi3 hown hK hP 0 rfl rfl 1 (by decide) (hts (.fieldLink RX3 15 "PanTales$Pad" "count" "I") (by decide +kernel)) (fun _ h9 => h9) rfl dX3_size_1 ?_
  cases hF
  exact r_iret hx hb hr hlk hS () rfl hP hD dX3_size_4
set_option maxHeartbeats 4000000 in
set_option maxRecDepth 100000 in
theorem m_X3_add (l : Launch) (g : GT) (sz : Nat) (qP : Nat) (AP : Nat → Nat) (σP : qS) (a1 : Int32) (rr : Int32) (σP' : qS) (hF : f_X3_add σP a1 = some (rr, σP')) : Ci l yX3_add wsX3_add { frames := 1, cells := 0, slots := 0, locals := 22 } g sz [.ref qP, .int a1] (wX3 g qP AP σP) rr (wX3 g qP AP σP') := by
  refine gMet_i (cc := cX3_add) (maxL := 2) (ret := (some .boolean)) (by decide) rfl (Nat.le_of_ble_eq_true rfl) ?_
  intro p e s m args below meth c Z hx hb hr F hlk hnm hK hN hA H locs hP hD hS ls hl
  have hl : lv_has ls 2 [(0, .ref qP), (1, .int a1)] := hl
  have F : CallFix p m c cX3_add 2 s args wsX3_add RX3 := F
  have hts := F.2.2.2.2
  have hown : s.vm.findClass RX3 = some m.cls := F.2.2.2.1
  have hi3 : ∀ w ∈ u_ws RX3 TX3 2, w ∈ wsX3_add := by decide +kernel
  dsimp only [f_X3_add] at hF
  refine lv_aload_n hx hb dX3_add_0 rfl (lv_at hl 0 rfl) ?_
  refine va_get (D := g.1) (ci := 3) (v := .int (σP 99 1)) (C := RX3) (T := TX3) (N := 2) hx hb hts hi3 hown hK hP 0 rfl rfl 1 (by decide) (hts (.fieldLink RX3 15 "PanTales$Pad" "count" "I") (by decide +kernel)) (fun _ h9 => h9) rfl dX3_add_1 ?_
  refine lv_iconst (v := 0) hx hb dX3_add_4 (by decide) ?_
  refine lv_bipush (v := 59) hx hb dX3_add_5 (by decide) ?_
  obtain ⟨r_1, h_2, hF⟩ := q_cl_s hF
  refine gcPN (As := [.int (σP 99 1), .int 0, .int 59]) (rest := []) F (m_X6_within l (σP 99 1) (0 : Int32) (59 : Int32) r_1 h_2) gX3_add_X6_within_n19 kX6_within (hts (.initialized RX6) (by decide +kernel)) (hN.get 8 rfl) (hts (.static yX6_within) (by decide +kernel)) rfl rfl rfl ⟨(Nat.le_of_ble_eq_true rfl), (Nat.le_of_ble_eq_true rfl)⟩ rfl rfl hl.1 (Nat.le_of_ble_eq_true rfl) dX3_add_7 ⟨(Nat.le_of_ble_eq_true rfl), (Nat.le_of_ble_eq_true rfl)⟩ ?_
  refine lv_if_ne (tgt := 15) hx hb dX3_add_10 (by decide) (fun c_3 => ?_) (fun c_3 => ?_)
  · have hF := q_if_f c_3 hF
    refine lv_aload_n hx hb dX3_add_15 rfl (lv_at hl 0 rfl) ?_
    refine va_get (D := g.1) (ci := 3) (v := .ref (AP 0)) (C := RX3) (T := TX3) (N := 2) hx hb hts hi3 hown hK hP 0 rfl rfl 0 (by decide) (hts (.fieldLink RX3 9 "PanTales$Pad" "signs" "[I") (by decide +kernel)) (fun _ h9 => h9) rfl dX3_add_16 ?_
    refine lv_aload_n hx hb dX3_add_19 rfl (lv_at hl 0 rfl) ?_
    refine va_get (D := g.1) (ci := 3) (v := .int (σP 99 1)) (C := RX3) (T := TX3) (N := 2) hx hb hts hi3 hown hK hP 0 rfl rfl 1 (by decide) (hts (.fieldLink RX3 15 "PanTales$Pad" "count" "I") (by decide +kernel)) (fun _ h9 => h9) rfl dX3_add_20 ?_
    refine lv_iload_n hx hb dX3_add_23 rfl (lv_at hl 1 rfl) ?_
    obtain ⟨σP_4, i_5, e_6, hF⟩ := q_wr_s hF
    refine r_iast (f' := upd (σP 0) (σP 99 1).toNatClampNeg a1) hx hb hK hP hD hS 1 rfl i_5 (fun _ _ => rfl) dX3_add_24 (fun H locs hP hD hS => ?_)
    have hP : va_P g.1 vwCl (wX3 g qP AP (q_up σP 0 (upd (σP 0) (σP 99 1).toNatClampNeg a1))) H := hP
    have hD : va_D Z (wX3 g qP AP (q_up σP 0 (upd (σP 0) (σP 99 1).toNatClampNeg a1))) := hD
    rw [e_6] at hP hD
    refine lv_aload_n hx hb dX3_add_25 rfl (lv_at hl 0 rfl) ?_
    refine lv_dup hx hb dX3_add_26 rfl ?_
    refine va_get (D := g.1) (ci := 3) (v := .int (σP_4 99 1)) (C := RX3) (T := TX3) (N := 2) hx hb hts hi3 hown hK hP 0 rfl rfl 1 (by decide) (hts (.fieldLink RX3 15 "PanTales$Pad" "count" "I") (by decide +kernel)) (fun _ h9 => h9) rfl dX3_add_27 ?_
    refine lv_iconst (v := 1) hx hb dX3_add_30 (by decide) ?_
    refine lv_iadd hx hb dX3_add_31 ?_
    obtain ⟨σP_7, e_8, hF⟩ := q_bd_s hF
    refine va_put (D := g.1) (ci := 3) (v := .int ((σP_4 99 1) + 1)) (ty := .int) (C := RX3) (T := TX3) (N := 2) hx hb hts hi3 tyX3 tyX3_ok nmX3 hown hK hP hD hS 0 rfl rfl 1 (by decide) (hts (.fieldLink RX3 15 "PanTales$Pad" "count" "I") (by decide +kernel)) (fun _ h9 => h9) rfl (by decide +kernel) rfl rfl (Nat.le_of_ble_eq_true rfl) dX3_add_32 (fun H locs hP hD hS => ?_)
    have hP : va_P g.1 vwCl (wX3 g qP AP (q_pt σP_4 1 ((σP_4 99 1) + 1))) H := hP
    have hD : va_D Z (wX3 g qP AP (q_pt σP_4 1 ((σP_4 99 1) + 1))) := hD
    rw [e_8] at hP hD
    refine lv_iconst (v := 1) hx hb dX3_add_35 (by decide) ?_
    cases hF
    exact r_zret hx hb hr hlk hS () (by decide) rfl hP hD dX3_add_36
  · have hF := q_if_t (by first | exact c_3 | exact Classical.not_not.mp c_3) hF
    refine lv_iconst (v := 0) hx hb dX3_add_13 (by decide) ?_
    cases hF
    exact r_zret hx hb hr hlk hS () (by decide) rfl hP hD dX3_add_14
set_option maxHeartbeats 4000000 in
set_option maxRecDepth 100000 in
theorem m_X3_clear (l : Launch) (g : GT) (sz : Nat) (qP : Nat) (AP : Nat → Nat) (σP : qS) (σP' : qS) (hF : f_X3_clear σP = some σP') : Cv l yX3_clear wsX3_clear { frames := 0, cells := 0, slots := 0, locals := 0 } g sz [.ref qP] (wX3 g qP AP σP) (wX3 g qP AP σP') := by
  refine gMet_v (cc := cX3_clear) (maxL := 1) (ret := none) (by decide) rfl (Nat.le_of_ble_eq_true rfl) ?_
  intro p e s m args below meth c Z hx hb hr F hlk hnm hK hN hA H locs hP hD hS ls hl
  have hl : lv_has ls 1 [(0, .ref qP)] := hl
  have F : CallFix p m c cX3_clear 1 s args wsX3_clear RX3 := F
  have hts := F.2.2.2.2
  have hown : s.vm.findClass RX3 = some m.cls := F.2.2.2.1
  have hi3 : ∀ w ∈ u_ws RX3 TX3 2, w ∈ wsX3_clear := by decide +kernel
  dsimp only [f_X3_clear] at hF
  refine lv_aload_n hx hb dX3_clear_0 rfl (lv_at hl 0 rfl) ?_
  refine lv_iconst (v := 0) hx hb dX3_clear_1 (by decide) ?_
  obtain ⟨σP_1, e_2, hF⟩ := q_bd_s hF
  refine va_put (D := g.1) (ci := 3) (v := .int 0) (ty := .int) (C := RX3) (T := TX3) (N := 2) hx hb hts hi3 tyX3 tyX3_ok nmX3 hown hK hP hD hS 0 rfl rfl 1 (by decide) (hts (.fieldLink RX3 15 "PanTales$Pad" "count" "I") (by decide +kernel)) (fun _ h9 => h9) rfl (by decide +kernel) rfl rfl (Nat.le_of_ble_eq_true rfl) dX3_clear_2 (fun H locs hP hD hS => ?_)
  have hP : va_P g.1 vwCl (wX3 g qP AP (q_pt σP 1 (0 : Int32))) H := hP
  have hD : va_D Z (wX3 g qP AP (q_pt σP 1 (0 : Int32))) := hD
  rw [e_2] at hP hD
  cases hF
  exact r_vret hx hb hr hlk hS () trivial hP hD dX3_clear_5
set_option maxHeartbeats 4000000 in
set_option maxRecDepth 100000 in
theorem m_X3_signAt (l : Launch) (g : GT) (sz : Nat) (qP : Nat) (AP : Nat → Nat) (σP : qS) (a1 : Int32) (rr : Int32) (hF : f_X3_signAt σP a1 = some rr) : Ci l yX3_signAt wsX3_signAt { frames := 1, cells := 0, slots := 0, locals := 22 } g sz [.ref qP, .int a1] (wX3 g qP AP σP) rr (wX3 g qP AP σP) := by
  refine gMet_i (cc := cX3_signAt) (maxL := 2) (ret := (some .int)) (by decide) rfl (Nat.le_of_ble_eq_true rfl) ?_
  intro p e s m args below meth c Z hx hb hr F hlk hnm hK hN hA H locs hP hD hS ls hl
  have hl : lv_has ls 2 [(0, .ref qP), (1, .int a1)] := hl
  have F : CallFix p m c cX3_signAt 2 s args wsX3_signAt RX3 := F
  have hts := F.2.2.2.2
  have hown : s.vm.findClass RX3 = some m.cls := F.2.2.2.1
  have hi3 : ∀ w ∈ u_ws RX3 TX3 2, w ∈ wsX3_signAt := by decide +kernel
  dsimp only [f_X3_signAt] at hF
  refine lv_iload_n hx hb dX3_signAt_0 rfl (lv_at hl 1 rfl) ?_
  refine lv_iconst (v := 0) hx hb dX3_signAt_1 (by decide) ?_
  refine lv_bipush (v := 59) hx hb dX3_signAt_2 (by decide) ?_
  obtain ⟨r_1, h_2, hF⟩ := q_cl_s hF
  refine gcPN (As := [.int a1, .int 0, .int 59]) (rest := []) F (m_X6_within l a1 (0 : Int32) (59 : Int32) r_1 h_2) gX3_signAt_X6_within_n19 kX6_within (hts (.initialized RX6) (by decide +kernel)) (hN.get 8 rfl) (hts (.static yX6_within) (by decide +kernel)) rfl rfl rfl ⟨(Nat.le_of_ble_eq_true rfl), (Nat.le_of_ble_eq_true rfl)⟩ rfl rfl hl.1 (Nat.le_of_ble_eq_true rfl) dX3_signAt_4 ⟨(Nat.le_of_ble_eq_true rfl), (Nat.le_of_ble_eq_true rfl)⟩ ?_
  refine lv_if_eq (tgt := 27) hx hb dX3_signAt_7 (by decide) (fun c_3 => ?_) (fun c_3 => ?_)
  · have hF := q_if_t c_3 hF
    refine lv_bipush (v := (-6)) hx hb dX3_signAt_27 (by decide) ?_
    cases hF
    exact r_iret hx hb hr hlk hS () rfl hP hD dX3_signAt_29
  · have hF := q_if_f c_3 hF
    refine lv_iload_n hx hb dX3_signAt_10 rfl (lv_at hl 1 rfl) ?_
    refine lv_aload_n hx hb dX3_signAt_11 rfl (lv_at hl 0 rfl) ?_
    refine va_get (D := g.1) (ci := 3) (v := .int (σP 99 1)) (C := RX3) (T := TX3) (N := 2) hx hb hts hi3 hown hK hP 0 rfl rfl 1 (by decide) (hts (.fieldLink RX3 15 "PanTales$Pad" "count" "I") (by decide +kernel)) (fun _ h9 => h9) rfl dX3_signAt_12 ?_
    refine lv_icmp_ge (tgt := 27) hx hb dX3_signAt_15 (by decide) (fun c_4 => ?_) (fun c_4 => ?_)
    · have hF := q_if_t c_4 hF
      refine lv_bipush (v := (-6)) hx hb dX3_signAt_27 (by decide) ?_
      cases hF
      exact r_iret hx hb hr hlk hS () rfl hP hD dX3_signAt_29
    · have hF := q_if_f c_4 hF
      refine lv_aload_n hx hb dX3_signAt_18 rfl (lv_at hl 0 rfl) ?_
      refine va_get (D := g.1) (ci := 3) (v := .ref (AP 0)) (C := RX3) (T := TX3) (N := 2) hx hb hts hi3 hown hK hP 0 rfl rfl 0 (by decide) (hts (.fieldLink RX3 9 "PanTales$Pad" "signs" "[I") (by decide +kernel)) (fun _ h9 => h9) rfl dX3_signAt_19 ?_
      refine lv_iload_n hx hb dX3_signAt_22 rfl (lv_at hl 1 rfl) ?_
      obtain ⟨r_5, i_6, e_7, hF⟩ := q_rd_s hF
      refine r_iald (v := r_5) hx hb hK hP 1 rfl i_6 e_7 dX3_signAt_23 ?_
      refine lv_goto (tgt := 29) hx hb dX3_signAt_24 (by decide) ?_
      cases hF
      exact r_iret hx hb hr hlk hS () rfl hP hD dX3_signAt_29
set_option maxHeartbeats 4000000 in
set_option maxRecDepth 100000 in
theorem m_X3_digitAt (l : Launch) (g : GT) (sz : Nat) (qP : Nat) (AP : Nat → Nat) (σP : qS) (a1 : Int32) (rr : Int32) (hF : f_X3_digitAt σP a1 = some rr) : Ci l yX3_digitAt wsX3_digitAt { frames := 2, cells := 0, slots := 0, locals := 43 } g sz [.ref qP, .int a1] (wX3 g qP AP σP) rr (wX3 g qP AP σP) := by
  refine gMet_i (cc := cX3_digitAt) (maxL := 2) (ret := (some .int)) (by decide) rfl (Nat.le_of_ble_eq_true rfl) ?_
  intro p e s m args below meth c Z hx hb hr F hlk hnm hK hN hA H locs hP hD hS ls hl
  have hl : lv_has ls 2 [(0, .ref qP), (1, .int a1)] := hl
  have F : CallFix p m c cX3_digitAt 2 s args wsX3_digitAt RX3 := F
  have hts := F.2.2.2.2
  have hown : s.vm.findClass RX3 = some m.cls := F.2.2.2.1
  dsimp only [f_X3_digitAt] at hF
  refine lv_aload_n hx hb dX3_digitAt_0 rfl (lv_at hl 0 rfl) ?_
  refine lv_iload_n hx hb dX3_digitAt_1 rfl (lv_at hl 1 rfl) ?_
  obtain ⟨r_1, h_2, hF⟩ := q_cl_s hF
  refine gcV_i (As := [.int a1]) (rest := []) (ci := 3) (q := (RX3, TX3, 2)) F hK hN hP hD hS hA (m_X3_signAt l g H.size qP AP σP a1 r_1 h_2) gX3_digitAt_X3_signAt kX3_signAt rfl rfl rfl rfl ⟨(Nat.le_of_ble_eq_true rfl), (Nat.le_of_ble_eq_true rfl)⟩ [0, 1] [] rfl rfl rfl (by decide) rfl rfl rfl rfl rfl hl.1 (Nat.le_of_ble_eq_true rfl) dX3_digitAt_2 ⟨(Nat.le_of_ble_eq_true rfl), (Nat.le_of_ble_eq_true rfl)⟩ (fun r_w u_w H locs hw hP hD hS => ?_)
  have hP : va_P g.1 vwCl (wX3 g qP AP σP) H := hP
  have hD : va_D Z (wX3 g qP AP σP) := hD
  obtain rfl : r_1 = r_w := hw.symm
  refine lv_bipush (v := 48) hx hb dX3_digitAt_5 (by decide) ?_
  refine lv_isub hx hb dX3_digitAt_7 ?_
  cases hF
  exact r_iret hx hb hr hlk hS () rfl hP hD dX3_digitAt_8
set_option maxHeartbeats 4000000 in
set_option maxRecDepth 100000 in
theorem m_X3_placeAt (l : Launch) (g : GT) (sz : Nat) (qP : Nat) (AP : Nat → Nat) (σP : qS) (a1 : Int32) (rr : Int32) (hF : f_X3_placeAt σP a1 = some rr) : Ci l yX3_placeAt wsX3_placeAt { frames := 2, cells := 0, slots := 0, locals := 43 } g sz [.ref qP, .int a1] (wX3 g qP AP σP) rr (wX3 g qP AP σP) := by
  refine gMet_i (cc := cX3_placeAt) (maxL := 3) (ret := (some .int)) (by decide) rfl (Nat.le_of_ble_eq_true rfl) ?_
  intro p e s m args below meth c Z hx hb hr F hlk hnm hK hN hA H locs hP hD hS ls hl
  have hl : lv_has ls 3 [(0, .ref qP), (1, .int a1)] := hl
  have F : CallFix p m c cX3_placeAt 3 s args wsX3_placeAt RX3 := F
  have hts := F.2.2.2.2
  have hown : s.vm.findClass RX3 = some m.cls := F.2.2.2.1
  dsimp only [f_X3_placeAt] at hF
  refine lv_aload_n hx hb dX3_placeAt_0 rfl (lv_at hl 0 rfl) ?_
  refine lv_iload_n hx hb dX3_placeAt_1 rfl (lv_at hl 1 rfl) ?_
  obtain ⟨r_1, h_2, hF⟩ := q_cl_s hF
  refine gcV_i (As := [.int a1]) (rest := []) (ci := 3) (q := (RX3, TX3, 2)) F hK hN hP hD hS hA (m_X3_signAt l g H.size qP AP σP a1 r_1 h_2) gX3_placeAt_X3_signAt kX3_signAt rfl rfl rfl rfl ⟨(Nat.le_of_ble_eq_true rfl), (Nat.le_of_ble_eq_true rfl)⟩ [0, 1] [] rfl rfl rfl (by decide) rfl rfl rfl rfl rfl hl.1 (Nat.le_of_ble_eq_true rfl) dX3_placeAt_2 ⟨(Nat.le_of_ble_eq_true rfl), (Nat.le_of_ble_eq_true rfl)⟩ (fun r_w u_w H locs hw hP hD hS => ?_)
  have hP : va_P g.1 vwCl (wX3 g qP AP σP) H := hP
  have hD : va_D Z (wX3 g qP AP σP) := hD
  obtain rfl : r_1 = r_w := hw.symm
  refine lv_istore_n (lv' := [(2, .int r_1), (0, .ref qP), (1, .int a1)]) hx hb dX3_placeAt_5 rfl hl (by decide) rfl (fun ls hl => ?_)
  refine lv_iload_n hx hb dX3_placeAt_6 rfl (lv_at hl 0 rfl) ?_
  refine lv_bipush (v := 65) hx hb dX3_placeAt_7 (by decide) ?_
  refine lv_bipush (v := 74) hx hb dX3_placeAt_9 (by decide) ?_
  obtain ⟨r_3, h_4, hF⟩ := q_cl_s hF
  refine gcPN (As := [.int r_1, .int 65, .int 74]) (rest := []) F (m_X6_within l r_1 (65 : Int32) (74 : Int32) r_3 h_4) gX3_placeAt_X6_within_n19 kX6_within (hts (.initialized RX6) (by decide +kernel)) (hN.get 8 rfl) (hts (.static yX6_within) (by decide +kernel)) rfl rfl rfl ⟨(Nat.le_of_ble_eq_true rfl), (Nat.le_of_ble_eq_true rfl)⟩ rfl rfl hl.1 (Nat.le_of_ble_eq_true rfl) dX3_placeAt_11 ⟨(Nat.le_of_ble_eq_true rfl), (Nat.le_of_ble_eq_true rfl)⟩ ?_
  refine lv_if_eq (tgt := 22) hx hb dX3_placeAt_14 (by decide) (fun c_5 => ?_) (fun c_5 => ?_)
  · have hF := q_if_t c_5 hF
    refine lv_iload_n hx hb dX3_placeAt_22 rfl (lv_at hl 0 rfl) ?_
    refine lv_bipush (v := 107) hx hb dX3_placeAt_23 (by decide) ?_
    refine lv_icmp_ne (tgt := 33) hx hb dX3_placeAt_25 (by decide) (fun c_6 => ?_) (fun c_6 => ?_)
    · have hF := q_if_f c_6 hF
      refine lv_bipush (v := (-6)) hx hb dX3_placeAt_33 (by decide) ?_
      cases hF
      exact r_iret hx hb hr hlk hS () rfl hP hD dX3_placeAt_35
    · have hF := q_if_t (by first | exact c_6 | exact Classical.not_not.mp c_6) hF
      refine lv_bipush (v := 10) hx hb dX3_placeAt_28 (by decide) ?_
      refine lv_goto (tgt := 35) hx hb dX3_placeAt_30 (by decide) ?_
      cases hF
      exact r_iret hx hb hr hlk hS () rfl hP hD dX3_placeAt_35
  · have hF := q_if_f c_5 hF
    refine lv_iload_n hx hb dX3_placeAt_17 rfl (lv_at hl 0 rfl) ?_
    refine lv_bipush (v := 65) hx hb dX3_placeAt_18 (by decide) ?_
    refine lv_isub hx hb dX3_placeAt_20 ?_
    cases hF
    exact r_iret hx hb hr hlk hS () rfl hP hD dX3_placeAt_21
set_option maxHeartbeats 4000000 in
set_option maxRecDepth 100000 in
theorem m_X3_kindAt (l : Launch) (g : GT) (sz : Nat) (qP : Nat) (AP : Nat → Nat) (σP : qS) (a1 : Int32) (rr : Int32) (hF : f_X3_kindAt σP a1 = some rr) : Ci l yX3_kindAt wsX3_kindAt { frames := 3, cells := 0, slots := 0, locals := 65 } g sz [.ref qP, .int a1] (wX3 g qP AP σP) rr (wX3 g qP AP σP) := by
  refine gMet_i (cc := cX3_kindAt) (maxL := 2) (ret := (some .int)) (by decide) rfl (Nat.le_of_ble_eq_true rfl) ?_
  intro p e s m args below meth c Z hx hb hr F hlk hnm hK hN hA H locs hP hD hS ls hl
  have hl : lv_has ls 2 [(0, .ref qP), (1, .int a1)] := hl
  have F : CallFix p m c cX3_kindAt 2 s args wsX3_kindAt RX3 := F
  have hts := F.2.2.2.2
  have hown : s.vm.findClass RX3 = some m.cls := F.2.2.2.1
  dsimp only [f_X3_kindAt] at hF
  refine lv_aload_n hx hb dX3_kindAt_0 rfl (lv_at hl 0 rfl) ?_
  refine lv_iload_n hx hb dX3_kindAt_1 rfl (lv_at hl 1 rfl) ?_
  obtain ⟨r_1, h_2, hF⟩ := q_cl_s hF
  refine gcV_i (As := [.int a1]) (rest := []) (ci := 3) (q := (RX3, TX3, 2)) F hK hN hP hD hS hA (m_X3_signAt l g H.size qP AP σP a1 r_1 h_2) gX3_kindAt_X3_signAt kX3_signAt rfl rfl rfl rfl ⟨(Nat.le_of_ble_eq_true rfl), (Nat.le_of_ble_eq_true rfl)⟩ [0, 1] [] rfl rfl rfl (by decide) rfl rfl rfl rfl rfl hl.1 (Nat.le_of_ble_eq_true rfl) dX3_kindAt_2 ⟨(Nat.le_of_ble_eq_true rfl), (Nat.le_of_ble_eq_true rfl)⟩ (fun r_w u_w H locs hw hP hD hS => ?_)
  have hP : va_P g.1 vwCl (wX3 g qP AP σP) H := hP
  have hD : va_D Z (wX3 g qP AP σP) := hD
  obtain rfl : r_1 = r_w := hw.symm
  by_cases k_3 : r_1 = 42
  · have hF := q_if_t k_3 hF
    refine gtop (y := 42) k_3 ?_
    refine lv_lookup (tgt := 50) (off := 45) hx hb dX3_kindAt_5 (by decide) (by decide) (by decide) ?_
    refine lv_iconst (v := 2) hx hb dX3_kindAt_50 (by decide) ?_
    cases hF
    exact r_iret hx hb hr hlk hS () rfl hP hD dX3_kindAt_51
  have hF := q_if_f k_3 hF
  by_cases k_4 : r_1 = 46
  · have hF := q_if_t k_4 hF
    refine gtop (y := 46) k_4 ?_
    refine lv_lookup (tgt := 54) (off := 49) hx hb dX3_kindAt_5 (by decide) (by decide) (by decide) ?_
    refine lv_iconst (v := 4) hx hb dX3_kindAt_54 (by decide) ?_
    cases hF
    exact r_iret hx hb hr hlk hS () rfl hP hD dX3_kindAt_55
  have hF := q_if_f k_4 hF
  by_cases k_5 : r_1 = 61
  · have hF := q_if_t k_5 hF
    refine gtop (y := 61) k_5 ?_
    refine lv_lookup (tgt := 48) (off := 43) hx hb dX3_kindAt_5 (by decide) (by decide) (by decide) ?_
    refine lv_iconst (v := 0) hx hb dX3_kindAt_48 (by decide) ?_
    cases hF
    exact r_iret hx hb hr hlk hS () rfl hP hD dX3_kindAt_49
  have hF := q_if_f k_5 hF
  by_cases k_6 : r_1 = 126
  · have hF := q_if_t k_6 hF
    refine gtop (y := 126) k_6 ?_
    refine lv_lookup (tgt := 52) (off := 47) hx hb dX3_kindAt_5 (by decide) (by decide) (by decide) ?_
    refine lv_iconst (v := 3) hx hb dX3_kindAt_52 (by decide) ?_
    cases hF
    exact r_iret hx hb hr hlk hS () rfl hP hD dX3_kindAt_53
  have hF := q_if_f k_6 hF
  refine lv_lookup (tgt := 56) (off := 51) hx hb dX3_kindAt_5 (by decide) (by show (if (42 : Int) = (r_1 : Int32).toInt then (45 : Int) else if (46 : Int) = (r_1 : Int32).toInt then (49 : Int) else if (61 : Int) = (r_1 : Int32).toInt then (43 : Int) else if (126 : Int) = (r_1 : Int32).toInt then (47 : Int) else 51) = (51 : Int); rw [if_neg (sw_ne k_3 (by decide)), if_neg (sw_ne k_4 (by decide)), if_neg (sw_ne k_5 (by decide)), if_neg (sw_ne k_6 (by decide))]) (by decide) ?_
  refine lv_aload_n hx hb dX3_kindAt_56 rfl (lv_at hl 0 rfl) ?_
  refine lv_iload_n hx hb dX3_kindAt_57 rfl (lv_at hl 1 rfl) ?_
  obtain ⟨r_7, h_8, hF⟩ := q_cl_s hF
  refine gcV_i (As := [.int a1]) (rest := []) (ci := 3) (q := (RX3, TX3, 2)) F hK hN hP hD hS hA (m_X3_placeAt l g H.size qP AP σP a1 r_7 h_8) gX3_kindAt_X3_placeAt kX3_placeAt rfl rfl rfl rfl ⟨(Nat.le_of_ble_eq_true rfl), (Nat.le_of_ble_eq_true rfl)⟩ [0, 1] [] rfl rfl rfl (by decide) rfl rfl rfl rfl rfl hl.1 (Nat.le_of_ble_eq_true rfl) dX3_kindAt_58 ⟨(Nat.le_of_ble_eq_true rfl), (Nat.le_of_ble_eq_true rfl)⟩ (fun r_w u_w H locs hw hP hD hS => ?_)
  have hP : va_P g.1 vwCl (wX3 g qP AP σP) H := hP
  have hD : va_D Z (wX3 g qP AP σP) := hD
  obtain rfl : r_7 = r_w := hw.symm
  refine lv_bipush (v := (-6)) hx hb dX3_kindAt_61 (by decide) ?_
  refine lv_icmp_ne (tgt := 71) hx hb dX3_kindAt_63 (by decide) (fun c_9 => ?_) (fun c_9 => ?_)
  · have hF := q_if_f c_9 hF
    refine lv_iconst (v := 1) hx hb dX3_kindAt_71 (by decide) ?_
    cases hF
    exact r_iret hx hb hr hlk hS () rfl hP hD dX3_kindAt_72
  · have hF := q_if_t (by first | exact c_9 | exact Classical.not_not.mp c_9) hF
    refine lv_bipush (v := (-6)) hx hb dX3_kindAt_66 (by decide) ?_
    refine lv_goto (tgt := 72) hx hb dX3_kindAt_68 (by decide) ?_
    cases hF
    exact r_iret hx hb hr hlk hS () rfl hP hD dX3_kindAt_72
set_option maxHeartbeats 4000000 in
set_option maxRecDepth 100000 in
theorem m_X3_whatAt (l : Launch) (g : GT) (sz : Nat) (qP : Nat) (AP : Nat → Nat) (σP : qS) (a1 : Int32) (rr : Int32) (hF : f_X3_whatAt σP a1 = some rr) : Ci l yX3_whatAt wsX3_whatAt { frames := 4, cells := 0, slots := 0, locals := 86 } g sz [.ref qP, .int a1] (wX3 g qP AP σP) rr (wX3 g qP AP σP) := by
  refine gMet_i (cc := cX3_whatAt) (maxL := 2) (ret := (some .int)) (by decide) rfl (Nat.le_of_ble_eq_true rfl) ?_
  intro p e s m args below meth c Z hx hb hr F hlk hnm hK hN hA H locs hP hD hS ls hl
  have hl : lv_has ls 2 [(0, .ref qP), (1, .int a1)] := hl
  have F : CallFix p m c cX3_whatAt 2 s args wsX3_whatAt RX3 := F
  have hts := F.2.2.2.2
  have hown : s.vm.findClass RX3 = some m.cls := F.2.2.2.1
  dsimp only [f_X3_whatAt] at hF
  refine lv_aload_n hx hb dX3_whatAt_0 rfl (lv_at hl 0 rfl) ?_
  refine lv_iload_n hx hb dX3_whatAt_1 rfl (lv_at hl 1 rfl) ?_
  obtain ⟨r_1, h_2, hF⟩ := q_cl_s hF
  refine gcV_i (As := [.int a1]) (rest := []) (ci := 3) (q := (RX3, TX3, 2)) F hK hN hP hD hS hA (m_X3_kindAt l g H.size qP AP σP a1 r_1 h_2) gX3_whatAt_X3_kindAt kX3_kindAt rfl rfl rfl rfl ⟨(Nat.le_of_ble_eq_true rfl), (Nat.le_of_ble_eq_true rfl)⟩ [0, 1] [] rfl rfl rfl (by decide) rfl rfl rfl rfl rfl hl.1 (Nat.le_of_ble_eq_true rfl) dX3_whatAt_2 ⟨(Nat.le_of_ble_eq_true rfl), (Nat.le_of_ble_eq_true rfl)⟩ (fun r_w u_w H locs hw hP hD hS => ?_)
  have hP : va_P g.1 vwCl (wX3 g qP AP σP) H := hP
  have hD : va_D Z (wX3 g qP AP σP) := hD
  obtain rfl : r_1 = r_w := hw.symm
  refine lv_if_ne (tgt := 18) hx hb dX3_whatAt_5 (by decide) (fun c_3 => ?_) (fun c_3 => ?_)
  · have hF := q_if_f c_3 hF
    refine lv_aload_n hx hb dX3_whatAt_18 rfl (lv_at hl 0 rfl) ?_
    refine lv_iload_n hx hb dX3_whatAt_19 rfl (lv_at hl 1 rfl) ?_
    obtain ⟨r_4, h_5, hF⟩ := q_cl_s hF
    refine gcV_i (As := [.int a1]) (rest := []) (ci := 3) (q := (RX3, TX3, 2)) F hK hN hP hD hS hA (m_X3_placeAt l g H.size qP AP σP a1 r_4 h_5) gX3_whatAt_X3_placeAt kX3_placeAt rfl rfl rfl rfl ⟨(Nat.le_of_ble_eq_true rfl), (Nat.le_of_ble_eq_true rfl)⟩ [0, 1] [] rfl rfl rfl (by decide) rfl rfl rfl rfl rfl hl.1 (Nat.le_of_ble_eq_true rfl) dX3_whatAt_20 ⟨(Nat.le_of_ble_eq_true rfl), (Nat.le_of_ble_eq_true rfl)⟩ (fun r_w u_w H locs hw hP hD hS => ?_)
    have hP : va_P g.1 vwCl (wX3 g qP AP σP) H := hP
    have hD : va_D Z (wX3 g qP AP σP) := hD
    obtain rfl : r_4 = r_w := hw.symm
    cases hF
    exact r_iret hx hb hr hlk hS () rfl hP hD dX3_whatAt_23
  · have hF := q_if_t (by first | exact c_3 | exact Classical.not_not.mp c_3) hF
    refine lv_aload_n hx hb dX3_whatAt_8 rfl (lv_at hl 0 rfl) ?_
    refine lv_iload_n hx hb dX3_whatAt_9 rfl (lv_at hl 1 rfl) ?_
    refine lv_iconst (v := 1) hx hb dX3_whatAt_10 (by decide) ?_
    refine lv_iadd hx hb dX3_whatAt_11 ?_
    obtain ⟨r_6, h_7, hF⟩ := q_cl_s hF
    refine gcV_i (As := [.int (a1 + 1)]) (rest := []) (ci := 3) (q := (RX3, TX3, 2)) F hK hN hP hD hS hA (m_X3_digitAt l g H.size qP AP σP (a1 + 1) r_6 h_7) gX3_whatAt_X3_digitAt kX3_digitAt rfl rfl rfl rfl ⟨(Nat.le_of_ble_eq_true rfl), (Nat.le_of_ble_eq_true rfl)⟩ [0, 1] [] rfl rfl rfl (by decide) rfl rfl rfl rfl rfl hl.1 (Nat.le_of_ble_eq_true rfl) dX3_whatAt_12 ⟨(Nat.le_of_ble_eq_true rfl), (Nat.le_of_ble_eq_true rfl)⟩ (fun r_w u_w H locs hw hP hD hS => ?_)
    have hP : va_P g.1 vwCl (wX3 g qP AP σP) H := hP
    have hD : va_D Z (wX3 g qP AP σP) := hD
    obtain rfl : r_6 = r_w := hw.symm
    refine lv_goto (tgt := 23) hx hb dX3_whatAt_15 (by decide) ?_
    cases hF
    exact r_iret hx hb hr hlk hS () rfl hP hD dX3_whatAt_23
set_option maxHeartbeats 4000000 in
set_option maxRecDepth 100000 in
theorem m_X3_faultPlace (l : Launch) (g : GT) (sz : Nat) (qP : Nat) (AP : Nat → Nat) (σP : qS) (rr : Int32) (hF : f_X3_faultPlace σP = some rr) : Ci l yX3_faultPlace wsX3_faultPlace { frames := 4, cells := 0, slots := 0, locals := 86 } g sz [.ref qP] (wX3 g qP AP σP) rr (wX3 g qP AP σP) := by
  refine gMet_i (cc := cX3_faultPlace) (maxL := 3) (ret := (some .int)) (by decide) rfl (Nat.le_of_ble_eq_true rfl) ?_
  intro p e s m args below meth c Z hx hb hr F hlk hnm hK hN hA H locs hP hD hS ls hl
  have hl : lv_has ls 3 [(0, .ref qP)] := hl
  have F : CallFix p m c cX3_faultPlace 3 s args wsX3_faultPlace RX3 := F
  have hts := F.2.2.2.2
  have hown : s.vm.findClass RX3 = some m.cls := F.2.2.2.1
  have hi3 : ∀ w ∈ u_ws RX3 TX3 2, w ∈ wsX3_faultPlace := by decide +kernel
  dsimp only [f_X3_faultPlace] at hF
  refine lv_iconst (v := 0) hx hb dX3_faultPlace_0 (by decide) ?_
  refine lv_istore_n (lv' := [(1, .int 0), (0, .ref qP)]) hx hb dX3_faultPlace_1 rfl hl (by decide) rfl (fun ls hl => ?_)
  refine q_loop (fun u0 => wX3 g qP AP σP) (fun u0 => [(1, .int u0), (0, .ref qP)]) 87 hF ?_ ?_ hP hD hS (lv_sub hl [0, 1] rfl)
  · rintro v1_1 hF H locs ls hP hD hS hl
    try dsimp only at hF
    have hP : va_P g.1 vwCl (wX3 g qP AP σP) H := hP
    have hD : va_D Z (wX3 g qP AP σP) := hD
    have hl : lv_has ls 3 [(1, .int v1_1), (0, .ref qP)] := hl
    refine lv_bipush (v := (-6)) hx hb dX3_faultPlace_87 (by decide) ?_
    cases hF
    exact r_iret hx hb hr hlk hS () rfl hP hD dX3_faultPlace_89
  · rintro k again kk ag v1_1 hF H locs ls hP hD hS hl
    dsimp only [b_X3_faultPlace_2] at hF
    have hP : va_P g.1 vwCl (wX3 g qP AP σP) H := hP
    have hD : va_D Z (wX3 g qP AP σP) := hD
    have hl : lv_has ls 3 [(1, .int v1_1), (0, .ref qP)] := hl
    refine lv_iload_n hx hb dX3_faultPlace_2 rfl (lv_at hl 0 rfl) ?_
    refine lv_aload_n hx hb dX3_faultPlace_3 rfl (lv_at hl 1 rfl) ?_
    refine va_get (D := g.1) (ci := 3) (v := .int (σP 99 1)) (C := RX3) (T := TX3) (N := 2) hx hb hts hi3 hown hK hP 0 rfl rfl 1 (by decide) (hts (.fieldLink RX3 15 "PanTales$Pad" "count" "I") (by decide +kernel)) (fun _ h9 => h9) rfl dX3_faultPlace_4 ?_
    refine lv_icmp_ge (tgt := 87) hx hb dX3_faultPlace_7 (by decide) (fun c_2 => ?_) (fun c_2 => ?_)
    · have hF := q_if_t c_2 hF
      exact kk v1_1 hF _ _ _ hP hD hS (lv_sub hl [0, 1] rfl)
    · have hF := q_if_f c_2 hF
      refine lv_aload_n hx hb dX3_faultPlace_10 rfl (lv_at hl 1 rfl) ?_
      refine lv_iload_n hx hb dX3_faultPlace_11 rfl (lv_at hl 0 rfl) ?_
      obtain ⟨r_3, h_4, hF⟩ := q_cl_s hF
      refine gcV_i (As := [.int v1_1]) (rest := []) (ci := 3) (q := (RX3, TX3, 2)) F hK hN hP hD hS hA (m_X3_kindAt l g H.size qP AP σP v1_1 r_3 h_4) gX3_faultPlace_X3_kindAt kX3_kindAt rfl rfl rfl rfl ⟨(Nat.le_of_ble_eq_true rfl), (Nat.le_of_ble_eq_true rfl)⟩ [0, 1] [] rfl rfl rfl (by decide) rfl rfl rfl rfl rfl hl.1 (Nat.le_of_ble_eq_true rfl) dX3_faultPlace_12 ⟨(Nat.le_of_ble_eq_true rfl), (Nat.le_of_ble_eq_true rfl)⟩ (fun r_w u_w H locs hw hP hD hS => ?_)
      have hP : va_P g.1 vwCl (wX3 g qP AP σP) H := hP
      have hD : va_D Z (wX3 g qP AP σP) := hD
      obtain rfl : r_3 = r_w := hw.symm
      refine lv_istore_n (lv' := [(2, .int r_3), (1, .int v1_1), (0, .ref qP)]) hx hb dX3_faultPlace_15 rfl hl (by decide) rfl (fun ls hl => ?_)
      refine lv_iload_n hx hb dX3_faultPlace_16 rfl (lv_at hl 0 rfl) ?_
      refine lv_bipush (v := (-6)) hx hb dX3_faultPlace_17 (by decide) ?_
      refine lv_icmp_ne (tgt := 24) hx hb dX3_faultPlace_19 (by decide) (fun c_5 => ?_) (fun c_5 => ?_)
      · have hF := q_if_f c_5 hF
        refine lv_iload_n hx hb dX3_faultPlace_24 rfl (lv_at hl 0 rfl) ?_
        refine lv_if_ne (tgt := 48) hx hb dX3_faultPlace_25 (by decide) (fun c_6 => ?_) (fun c_6 => ?_)
        · have hF := q_if_f c_6 hF
          refine lv_iload_n hx hb dX3_faultPlace_48 rfl (lv_at hl 0 rfl) ?_
          refine lv_if_ne (tgt := 72) hx hb dX3_faultPlace_49 (by decide) (fun c_7 => ?_) (fun c_7 => ?_)
          · have hF := q_if_f c_7 hF
            refine lv_iload_n hx hb dX3_faultPlace_72 rfl (lv_at hl 1 rfl) ?_
            refine lv_iload_n hx hb dX3_faultPlace_73 rfl (lv_at hl 0 rfl) ?_
            refine lv_if_ne (tgt := 81) hx hb dX3_faultPlace_74 (by decide) (fun c_8 => ?_) (fun c_8 => ?_)
            · have hF := q_if_f c_8 hF
              refine lv_iconst (v := 1) hx hb dX3_faultPlace_81 (by decide) ?_
              refine lv_iadd hx hb dX3_faultPlace_82 ?_
              obtain ⟨v1_9, e_10, hF⟩ := q_bd_s hF
              refine gtop e_10 ?_
              refine lv_istore_n (lv' := [(1, .int v1_9), (2, .int r_3), (0, .ref qP)]) hx hb dX3_faultPlace_83 rfl hl (by decide) rfl (fun ls hl => ?_)
              refine lv_goto (tgt := 2) hx hb dX3_faultPlace_84 (by decide) ?_
              exact ag v1_9 hF _ _ _ hP hD hS (lv_sub hl [0, 2] rfl)
            · have hF := q_if_t (by first | exact c_8 | exact Classical.not_not.mp c_8) hF
              refine lv_iconst (v := 3) hx hb dX3_faultPlace_77 (by decide) ?_
              refine lv_goto (tgt := 82) hx hb dX3_faultPlace_78 (by decide) ?_
              refine lv_iadd hx hb dX3_faultPlace_82 ?_
              obtain ⟨v1_11, e_12, hF⟩ := q_bd_s hF
              refine gtop e_12 ?_
              refine lv_istore_n (lv' := [(1, .int v1_11), (2, .int r_3), (0, .ref qP)]) hx hb dX3_faultPlace_83 rfl hl (by decide) rfl (fun ls hl => ?_)
              refine lv_goto (tgt := 2) hx hb dX3_faultPlace_84 (by decide) ?_
              exact ag v1_11 hF _ _ _ hP hD hS (lv_sub hl [0, 2] rfl)
          · have hF := q_if_t (by first | exact c_7 | exact Classical.not_not.mp c_7) hF
            refine lv_aload_n hx hb dX3_faultPlace_52 rfl (lv_at hl 2 rfl) ?_
            refine lv_iload_n hx hb dX3_faultPlace_53 rfl (lv_at hl 1 rfl) ?_
            refine lv_iconst (v := 2) hx hb dX3_faultPlace_54 (by decide) ?_
            refine lv_iadd hx hb dX3_faultPlace_55 ?_
            obtain ⟨r_13, h_14, hF⟩ := q_cl_s hF
            refine gcV_i (As := [.int (v1_1 + 2)]) (rest := []) (ci := 3) (q := (RX3, TX3, 2)) F hK hN hP hD hS hA (m_X3_digitAt l g H.size qP AP σP (v1_1 + 2) r_13 h_14) gX3_faultPlace_X3_digitAt kX3_digitAt rfl rfl rfl rfl ⟨(Nat.le_of_ble_eq_true rfl), (Nat.le_of_ble_eq_true rfl)⟩ [0, 1] [] rfl rfl rfl (by decide) rfl rfl rfl rfl rfl hl.1 (Nat.le_of_ble_eq_true rfl) dX3_faultPlace_56 ⟨(Nat.le_of_ble_eq_true rfl), (Nat.le_of_ble_eq_true rfl)⟩ (fun r_w u_w H locs hw hP hD hS => ?_)
            have hP : va_P g.1 vwCl (wX3 g qP AP σP) H := hP
            have hD : va_D Z (wX3 g qP AP σP) := hD
            obtain rfl : r_13 = r_w := hw.symm
            refine lv_iconst (v := 1) hx hb dX3_faultPlace_59 (by decide) ?_
            refine lv_bipush (v := 9) hx hb dX3_faultPlace_60 (by decide) ?_
            obtain ⟨r_15, h_16, hF⟩ := q_cl_s hF
            refine gcPN (As := [.int r_13, .int 1, .int 9]) (rest := []) F (m_X6_within l r_13 (1 : Int32) (9 : Int32) r_15 h_16) gX3_faultPlace_X6_within_n19 kX6_within (hts (.initialized RX6) (by decide +kernel)) (hN.get 8 rfl) (hts (.static yX6_within) (by decide +kernel)) rfl rfl rfl ⟨(Nat.le_of_ble_eq_true rfl), (Nat.le_of_ble_eq_true rfl)⟩ rfl rfl hl.1 (Nat.le_of_ble_eq_true rfl) dX3_faultPlace_62 ⟨(Nat.le_of_ble_eq_true rfl), (Nat.le_of_ble_eq_true rfl)⟩ ?_
            refine lv_if_ne (tgt := 72) hx hb dX3_faultPlace_65 (by decide) (fun c_17 => ?_) (fun c_17 => ?_)
            · have hF := q_if_f c_17 hF
              refine lv_iload_n hx hb dX3_faultPlace_72 rfl (lv_at hl 1 rfl) ?_
              refine lv_iload_n hx hb dX3_faultPlace_73 rfl (lv_at hl 0 rfl) ?_
              refine lv_if_ne (tgt := 81) hx hb dX3_faultPlace_74 (by decide) (fun c_18 => ?_) (fun c_18 => ?_)
              · have hF := q_if_f c_18 hF
                refine lv_iconst (v := 1) hx hb dX3_faultPlace_81 (by decide) ?_
                refine lv_iadd hx hb dX3_faultPlace_82 ?_
                obtain ⟨v1_19, e_20, hF⟩ := q_bd_s hF
                refine gtop e_20 ?_
                refine lv_istore_n (lv' := [(1, .int v1_19), (2, .int r_3), (0, .ref qP)]) hx hb dX3_faultPlace_83 rfl hl (by decide) rfl (fun ls hl => ?_)
                refine lv_goto (tgt := 2) hx hb dX3_faultPlace_84 (by decide) ?_
                exact ag v1_19 hF _ _ _ hP hD hS (lv_sub hl [0, 2] rfl)
              · have hF := q_if_t (by first | exact c_18 | exact Classical.not_not.mp c_18) hF
                refine lv_iconst (v := 3) hx hb dX3_faultPlace_77 (by decide) ?_
                refine lv_goto (tgt := 82) hx hb dX3_faultPlace_78 (by decide) ?_
                refine lv_iadd hx hb dX3_faultPlace_82 ?_
                obtain ⟨v1_21, e_22, hF⟩ := q_bd_s hF
                refine gtop e_22 ?_
                refine lv_istore_n (lv' := [(1, .int v1_21), (2, .int r_3), (0, .ref qP)]) hx hb dX3_faultPlace_83 rfl hl (by decide) rfl (fun ls hl => ?_)
                refine lv_goto (tgt := 2) hx hb dX3_faultPlace_84 (by decide) ?_
                exact ag v1_21 hF _ _ _ hP hD hS (lv_sub hl [0, 2] rfl)
            · have hF := q_if_t (by first | exact c_17 | exact Classical.not_not.mp c_17) hF
              refine lv_iload_n hx hb dX3_faultPlace_68 rfl (lv_at hl 1 rfl) ?_
              refine lv_iconst (v := 2) hx hb dX3_faultPlace_69 (by decide) ?_
              refine lv_iadd hx hb dX3_faultPlace_70 ?_
              cases hF
              exact r_iret hx hb hr hlk hS () rfl hP hD dX3_faultPlace_71
        · have hF := q_if_t (by first | exact c_6 | exact Classical.not_not.mp c_6) hF
          refine lv_aload_n hx hb dX3_faultPlace_28 rfl (lv_at hl 2 rfl) ?_
          refine lv_iload_n hx hb dX3_faultPlace_29 rfl (lv_at hl 1 rfl) ?_
          refine lv_iconst (v := 1) hx hb dX3_faultPlace_30 (by decide) ?_
          refine lv_iadd hx hb dX3_faultPlace_31 ?_
          obtain ⟨r_23, h_24, hF⟩ := q_cl_s hF
          refine gcV_i (As := [.int (v1_1 + 1)]) (rest := []) (ci := 3) (q := (RX3, TX3, 2)) F hK hN hP hD hS hA (m_X3_digitAt l g H.size qP AP σP (v1_1 + 1) r_23 h_24) gX3_faultPlace_X3_digitAt kX3_digitAt rfl rfl rfl rfl ⟨(Nat.le_of_ble_eq_true rfl), (Nat.le_of_ble_eq_true rfl)⟩ [0, 1] [] rfl rfl rfl (by decide) rfl rfl rfl rfl rfl hl.1 (Nat.le_of_ble_eq_true rfl) dX3_faultPlace_32 ⟨(Nat.le_of_ble_eq_true rfl), (Nat.le_of_ble_eq_true rfl)⟩ (fun r_w u_w H locs hw hP hD hS => ?_)
          have hP : va_P g.1 vwCl (wX3 g qP AP σP) H := hP
          have hD : va_D Z (wX3 g qP AP σP) := hD
          obtain rfl : r_23 = r_w := hw.symm
          refine lv_iconst (v := 0) hx hb dX3_faultPlace_35 (by decide) ?_
          refine lv_bipush (v := 9) hx hb dX3_faultPlace_36 (by decide) ?_
          obtain ⟨r_25, h_26, hF⟩ := q_cl_s hF
          refine gcPN (As := [.int r_23, .int 0, .int 9]) (rest := []) F (m_X6_within l r_23 (0 : Int32) (9 : Int32) r_25 h_26) gX3_faultPlace_X6_within_n19 kX6_within (hts (.initialized RX6) (by decide +kernel)) (hN.get 8 rfl) (hts (.static yX6_within) (by decide +kernel)) rfl rfl rfl ⟨(Nat.le_of_ble_eq_true rfl), (Nat.le_of_ble_eq_true rfl)⟩ rfl rfl hl.1 (Nat.le_of_ble_eq_true rfl) dX3_faultPlace_38 ⟨(Nat.le_of_ble_eq_true rfl), (Nat.le_of_ble_eq_true rfl)⟩ ?_
          refine lv_if_ne (tgt := 48) hx hb dX3_faultPlace_41 (by decide) (fun c_27 => ?_) (fun c_27 => ?_)
          · have hF := q_if_f c_27 hF
            refine lv_iload_n hx hb dX3_faultPlace_48 rfl (lv_at hl 0 rfl) ?_
            refine lv_if_ne (tgt := 72) hx hb dX3_faultPlace_49 (by decide) (fun c_28 => ?_) (fun c_28 => ?_)
            · have hF := q_if_f c_28 hF
              refine lv_iload_n hx hb dX3_faultPlace_72 rfl (lv_at hl 1 rfl) ?_
              refine lv_iload_n hx hb dX3_faultPlace_73 rfl (lv_at hl 0 rfl) ?_
              refine lv_if_ne (tgt := 81) hx hb dX3_faultPlace_74 (by decide) (fun c_29 => ?_) (fun c_29 => ?_)
              · have hF := q_if_f c_29 hF
                refine lv_iconst (v := 1) hx hb dX3_faultPlace_81 (by decide) ?_
                refine lv_iadd hx hb dX3_faultPlace_82 ?_
                obtain ⟨v1_30, e_31, hF⟩ := q_bd_s hF
                refine gtop e_31 ?_
                refine lv_istore_n (lv' := [(1, .int v1_30), (2, .int r_3), (0, .ref qP)]) hx hb dX3_faultPlace_83 rfl hl (by decide) rfl (fun ls hl => ?_)
                refine lv_goto (tgt := 2) hx hb dX3_faultPlace_84 (by decide) ?_
                exact ag v1_30 hF _ _ _ hP hD hS (lv_sub hl [0, 2] rfl)
              · have hF := q_if_t (by first | exact c_29 | exact Classical.not_not.mp c_29) hF
                refine lv_iconst (v := 3) hx hb dX3_faultPlace_77 (by decide) ?_
                refine lv_goto (tgt := 82) hx hb dX3_faultPlace_78 (by decide) ?_
                refine lv_iadd hx hb dX3_faultPlace_82 ?_
                obtain ⟨v1_32, e_33, hF⟩ := q_bd_s hF
                refine gtop e_33 ?_
                refine lv_istore_n (lv' := [(1, .int v1_32), (2, .int r_3), (0, .ref qP)]) hx hb dX3_faultPlace_83 rfl hl (by decide) rfl (fun ls hl => ?_)
                refine lv_goto (tgt := 2) hx hb dX3_faultPlace_84 (by decide) ?_
                exact ag v1_32 hF _ _ _ hP hD hS (lv_sub hl [0, 2] rfl)
            · have hF := q_if_t (by first | exact c_28 | exact Classical.not_not.mp c_28) hF
              refine lv_aload_n hx hb dX3_faultPlace_52 rfl (lv_at hl 2 rfl) ?_
              refine lv_iload_n hx hb dX3_faultPlace_53 rfl (lv_at hl 1 rfl) ?_
              refine lv_iconst (v := 2) hx hb dX3_faultPlace_54 (by decide) ?_
              refine lv_iadd hx hb dX3_faultPlace_55 ?_
              obtain ⟨r_34, h_35, hF⟩ := q_cl_s hF
              refine gcV_i (As := [.int (v1_1 + 2)]) (rest := []) (ci := 3) (q := (RX3, TX3, 2)) F hK hN hP hD hS hA (m_X3_digitAt l g H.size qP AP σP (v1_1 + 2) r_34 h_35) gX3_faultPlace_X3_digitAt kX3_digitAt rfl rfl rfl rfl ⟨(Nat.le_of_ble_eq_true rfl), (Nat.le_of_ble_eq_true rfl)⟩ [0, 1] [] rfl rfl rfl (by decide) rfl rfl rfl rfl rfl hl.1 (Nat.le_of_ble_eq_true rfl) dX3_faultPlace_56 ⟨(Nat.le_of_ble_eq_true rfl), (Nat.le_of_ble_eq_true rfl)⟩ (fun r_w u_w H locs hw hP hD hS => ?_)
              have hP : va_P g.1 vwCl (wX3 g qP AP σP) H := hP
              have hD : va_D Z (wX3 g qP AP σP) := hD
              obtain rfl : r_34 = r_w := hw.symm
              refine lv_iconst (v := 1) hx hb dX3_faultPlace_59 (by decide) ?_
              refine lv_bipush (v := 9) hx hb dX3_faultPlace_60 (by decide) ?_
              obtain ⟨r_36, h_37, hF⟩ := q_cl_s hF
              refine gcPN (As := [.int r_34, .int 1, .int 9]) (rest := []) F (m_X6_within l r_34 (1 : Int32) (9 : Int32) r_36 h_37) gX3_faultPlace_X6_within_n19 kX6_within (hts (.initialized RX6) (by decide +kernel)) (hN.get 8 rfl) (hts (.static yX6_within) (by decide +kernel)) rfl rfl rfl ⟨(Nat.le_of_ble_eq_true rfl), (Nat.le_of_ble_eq_true rfl)⟩ rfl rfl hl.1 (Nat.le_of_ble_eq_true rfl) dX3_faultPlace_62 ⟨(Nat.le_of_ble_eq_true rfl), (Nat.le_of_ble_eq_true rfl)⟩ ?_
              refine lv_if_ne (tgt := 72) hx hb dX3_faultPlace_65 (by decide) (fun c_38 => ?_) (fun c_38 => ?_)
              · have hF := q_if_f c_38 hF
                refine lv_iload_n hx hb dX3_faultPlace_72 rfl (lv_at hl 1 rfl) ?_
                refine lv_iload_n hx hb dX3_faultPlace_73 rfl (lv_at hl 0 rfl) ?_
                refine lv_if_ne (tgt := 81) hx hb dX3_faultPlace_74 (by decide) (fun c_39 => ?_) (fun c_39 => ?_)
                · have hF := q_if_f c_39 hF
                  refine lv_iconst (v := 1) hx hb dX3_faultPlace_81 (by decide) ?_
                  refine lv_iadd hx hb dX3_faultPlace_82 ?_
                  obtain ⟨v1_40, e_41, hF⟩ := q_bd_s hF
                  refine gtop e_41 ?_
                  refine lv_istore_n (lv' := [(1, .int v1_40), (2, .int r_3), (0, .ref qP)]) hx hb dX3_faultPlace_83 rfl hl (by decide) rfl (fun ls hl => ?_)
                  refine lv_goto (tgt := 2) hx hb dX3_faultPlace_84 (by decide) ?_
                  exact ag v1_40 hF _ _ _ hP hD hS (lv_sub hl [0, 2] rfl)
                · have hF := q_if_t (by first | exact c_39 | exact Classical.not_not.mp c_39) hF
                  refine lv_iconst (v := 3) hx hb dX3_faultPlace_77 (by decide) ?_
                  refine lv_goto (tgt := 82) hx hb dX3_faultPlace_78 (by decide) ?_
                  refine lv_iadd hx hb dX3_faultPlace_82 ?_
                  obtain ⟨v1_42, e_43, hF⟩ := q_bd_s hF
                  refine gtop e_43 ?_
                  refine lv_istore_n (lv' := [(1, .int v1_42), (2, .int r_3), (0, .ref qP)]) hx hb dX3_faultPlace_83 rfl hl (by decide) rfl (fun ls hl => ?_)
                  refine lv_goto (tgt := 2) hx hb dX3_faultPlace_84 (by decide) ?_
                  exact ag v1_42 hF _ _ _ hP hD hS (lv_sub hl [0, 2] rfl)
              · have hF := q_if_t (by first | exact c_38 | exact Classical.not_not.mp c_38) hF
                refine lv_iload_n hx hb dX3_faultPlace_68 rfl (lv_at hl 1 rfl) ?_
                refine lv_iconst (v := 2) hx hb dX3_faultPlace_69 (by decide) ?_
                refine lv_iadd hx hb dX3_faultPlace_70 ?_
                cases hF
                exact r_iret hx hb hr hlk hS () rfl hP hD dX3_faultPlace_71
          · have hF := q_if_t (by first | exact c_27 | exact Classical.not_not.mp c_27) hF
            refine lv_iload_n hx hb dX3_faultPlace_44 rfl (lv_at hl 1 rfl) ?_
            refine lv_iconst (v := 1) hx hb dX3_faultPlace_45 (by decide) ?_
            refine lv_iadd hx hb dX3_faultPlace_46 ?_
            cases hF
            exact r_iret hx hb hr hlk hS () rfl hP hD dX3_faultPlace_47
      · have hF := q_if_t (by first | exact c_5 | exact Classical.not_not.mp c_5) hF
        refine lv_iload_n hx hb dX3_faultPlace_22 rfl (lv_at hl 1 rfl) ?_
        cases hF
        exact r_iret hx hb hr hlk hS () rfl hP hD dX3_faultPlace_23
set_option maxHeartbeats 4000000 in
set_option maxRecDepth 100000 in
theorem m_X2_actOn (l : Launch) (g : GT) (sz : Nat) (qN : Nat) (σN : qS) (qD : Nat) (AD : Nat → Nat) (σD : qS) (a2 : Int32) (a3 : Int32) (a4 : Int32) (σN' : qS) (σD' : qS) (hF : f_X2_actOn σN σD a2 a3 a4 = some (σN', σD')) : Cv l yX2_actOn wsX2_actOn { frames := 4, cells := 0, slots := 0, locals := 87 } g sz [.ref qN, .ref qD, .int a2, .int a3, .int a4] (wX2 qN σN ++ wX1 g qD AD σD) (wX2 qN σN' ++ wX1 g qD AD σD') := by
  refine gMet_v (cc := cX2_actOn) (maxL := 7) (ret := none) (by decide) rfl (Nat.le_of_ble_eq_true rfl) ?_
  intro p e s m args below meth c Z hx hb hr F hlk hnm hK hN hA H locs hP hD hS ls hl
  have hl : lv_has ls 7 [(0, .ref qN), (1, .ref qD), (2, .int a2), (3, .int a3), (4, .int a4)] := hl
  have F : CallFix p m c cX2_actOn 7 s args wsX2_actOn RX2 := F
  have hts := F.2.2.2.2
  have hown : s.vm.findClass RX2 = some m.cls := F.2.2.2.1
  have hi2 : ∀ w ∈ u_ws RX2 TX2 6, w ∈ wsX2_actOn := by decide +kernel
  dsimp only [f_X2_actOn] at hF
  refine lv_aload_n hx hb dX2_actOn_0 rfl (lv_at hl 1 rfl) ?_
  refine lv_iconst (v := 0) hx hb dX2_actOn_1 (by decide) ?_
  obtain ⟨r_1, h_2, hF⟩ := q_cl_s hF
  refine gcV_i (As := [.int 0]) (rest := []) (ci := 1) (q := (RX1, TX1, 12)) F hK hN hP hD hS hA (m_X1_panFact l g H.size qD AD σD (0 : Int32) r_1 h_2) gX2_actOn_X1_panFact kX1_panFact rfl rfl rfl rfl ⟨(Nat.le_of_ble_eq_true rfl), (Nat.le_of_ble_eq_true rfl)⟩ [1, 2, 3, 4, 5, 6, 7, 8] [0] rfl rfl rfl (by decide) rfl rfl rfl rfl rfl hl.1 (Nat.le_of_ble_eq_true rfl) dX2_actOn_2 ⟨(Nat.le_of_ble_eq_true rfl), (Nat.le_of_ble_eq_true rfl)⟩ (fun r_w u_w H locs hw hP hD hS => ?_)
  have hP : va_P g.1 vwCl (wX2 qN σN ++ wX1 g qD AD σD) H := hP
  have hD : va_D Z (wX2 qN σN ++ wX1 g qD AD σD) := hD
  obtain rfl : r_1 = r_w := hw.symm
  refine lv_istore (lv' := [(5, .int r_1), (0, .ref qN), (1, .ref qD), (2, .int a2), (3, .int a3), (4, .int a4)]) hx hb dX2_actOn_5 hl (by decide) rfl (fun ls hl => ?_)
  refine lv_aload_n hx hb dX2_actOn_7 rfl (lv_at hl 2 rfl) ?_
  refine lv_iload hx hb dX2_actOn_8 (lv_at hl 0 rfl) ?_
  obtain ⟨r_3, h_4, hF⟩ := q_cl_s hF
  refine gcV_i (As := [.int r_1]) (rest := []) (ci := 1) (q := (RX1, TX1, 12)) F hK hN hP hD hS hA (m_X1_beliefOf l g H.size qD AD σD r_1 r_3 h_4) gX2_actOn_X1_beliefOf kX1_beliefOf rfl rfl rfl rfl ⟨(Nat.le_of_ble_eq_true rfl), (Nat.le_of_ble_eq_true rfl)⟩ [1, 2, 3, 4, 5, 6, 7, 8] [0] rfl rfl rfl (by decide) rfl rfl rfl rfl rfl hl.1 (Nat.le_of_ble_eq_true rfl) dX2_actOn_10 ⟨(Nat.le_of_ble_eq_true rfl), (Nat.le_of_ble_eq_true rfl)⟩ (fun r_w u_w H locs hw hP hD hS => ?_)
  have hP : va_P g.1 vwCl (wX2 qN σN ++ wX1 g qD AD σD) H := hP
  have hD : va_D Z (wX2 qN σN ++ wX1 g qD AD σD) := hD
  obtain rfl : r_3 = r_w := hw.symm
  refine lv_istore (lv' := [(6, .int r_3), (5, .int r_1), (0, .ref qN), (1, .ref qD), (2, .int a2), (3, .int a3), (4, .int a4)]) hx hb dX2_actOn_13 hl (by decide) rfl (fun ls hl => ?_)
  refine lv_aload_n hx hb dX2_actOn_15 rfl (lv_at hl 3 rfl) ?_
  refine lv_iload_n hx hb dX2_actOn_16 rfl (lv_at hl 4 rfl) ?_
  refine lv_iload_n hx hb dX2_actOn_17 rfl (lv_at hl 5 rfl) ?_
  refine lv_iload hx hb dX2_actOn_18 (lv_at hl 6 rfl) ?_
  obtain ⟨σD_5, h_6, hF⟩ := q_cl_s hF
  refine gcV_v (As := [.int a2, .int a3, .int a4]) (rest := []) (ci := 1) (q := (RX1, TX1, 12)) F hK hN hP hD hS hA (m_X1_act l g H.size qD AD σD a2 a3 a4 σD_5 h_6) gX2_actOn_X1_act kX1_act rfl rfl rfl rfl ⟨(Nat.le_of_ble_eq_true rfl), (Nat.le_of_ble_eq_true rfl)⟩ [1, 2, 3, 4, 5, 6, 7, 8] [0] rfl rfl rfl (by decide) rfl rfl rfl rfl rfl hl.1 (Nat.le_of_ble_eq_true rfl) dX2_actOn_20 ⟨(Nat.le_of_ble_eq_true rfl), (Nat.le_of_ble_eq_true rfl)⟩ (fun u_w H locs hw hP hD hS => ?_)
  have hP : va_P g.1 vwCl (wX2 qN σN ++ wX1 g qD AD σD_5) H := hP
  have hD : va_D Z (wX2 qN σN ++ wX1 g qD AD σD_5) := hD
  refine lv_aload_n hx hb dX2_actOn_23 rfl (lv_at hl 2 rfl) ?_
  refine va_get (D := g.1) (ci := 2) (v := .int (σN 99 4)) (C := RX2) (T := TX2) (N := 6) hx hb hts hi2 hown hK hP 0 rfl rfl 4 (by decide) (hts (.fieldLink RX2 24 "PanTales$Night" "otherAct" "I") (by decide +kernel)) (fun _ h9 => h9) rfl dX2_actOn_24 ?_
  refine lv_bipush (v := (-6)) hx hb dX2_actOn_27 (by decide) ?_
  refine lv_icmp_ne (tgt := 57) hx hb dX2_actOn_29 (by decide) (fun c_7 => ?_) (fun c_7 => ?_)
  · have hF := q_if_f c_7 hF
    refine lv_iload_n hx hb dX2_actOn_57 rfl (lv_at hl 4 rfl) ?_
    refine lv_iconst (v := 2) hx hb dX2_actOn_58 (by decide) ?_
    refine lv_icmp_ne (tgt := 72) hx hb dX2_actOn_59 (by decide) (fun c_8 => ?_) (fun c_8 => ?_)
    · have hF := q_if_f c_8 hF
      refine lv_aload_n hx hb dX2_actOn_72 rfl (lv_at hl 2 rfl) ?_
      refine lv_dup hx hb dX2_actOn_73 rfl ?_
      refine va_get (D := g.1) (ci := 2) (v := .int (σN 99 0)) (C := RX2) (T := TX2) (N := 6) hx hb hts hi2 hown hK hP 0 rfl rfl 0 (by decide) (hts (.fieldLink RX2 9 "PanTales$Night" "acts" "I") (by decide +kernel)) (fun _ h9 => h9) rfl dX2_actOn_74 ?_
      refine lv_iconst (v := 1) hx hb dX2_actOn_77 (by decide) ?_
      refine lv_iadd hx hb dX2_actOn_78 ?_
      obtain ⟨σN_9, e_10, hF⟩ := q_bd_s hF
      refine va_put (D := g.1) (ci := 2) (v := .int ((σN 99 0) + 1)) (ty := .int) (C := RX2) (T := TX2) (N := 6) hx hb hts hi2 tyX2 tyX2_ok nmX2 hown hK hP hD hS 0 rfl rfl 0 (by decide) (hts (.fieldLink RX2 9 "PanTales$Night" "acts" "I") (by decide +kernel)) (fun _ h9 => h9) rfl (by decide +kernel) rfl rfl (Nat.le_of_ble_eq_true rfl) dX2_actOn_79 (fun H locs hP hD hS => ?_)
      have hP : va_P g.1 vwCl (wX2 qN (q_pt σN 0 ((σN 99 0) + 1)) ++ wX1 g qD AD σD_5) H := hP
      have hD : va_D Z (wX2 qN (q_pt σN 0 ((σN 99 0) + 1)) ++ wX1 g qD AD σD_5) := hD
      rw [e_10] at hP hD
      cases hF
      exact r_vret hx hb hr hlk hS () trivial hP hD dX2_actOn_82
    · have hF := q_if_t (by first | exact c_8 | exact Classical.not_not.mp c_8) hF
      refine lv_aload_n hx hb dX2_actOn_62 rfl (lv_at hl 2 rfl) ?_
      refine lv_dup hx hb dX2_actOn_63 rfl ?_
      refine va_get (D := g.1) (ci := 2) (v := .int (σN 99 1)) (C := RX2) (T := TX2) (N := 6) hx hb hts hi2 hown hK hP 0 rfl rfl 1 (by decide) (hts (.fieldLink RX2 15 "PanTales$Night" "beds" "I") (by decide +kernel)) (fun _ h9 => h9) rfl dX2_actOn_64 ?_
      refine lv_iconst (v := 1) hx hb dX2_actOn_67 (by decide) ?_
      refine lv_iadd hx hb dX2_actOn_68 ?_
      obtain ⟨σN_11, e_12, hF⟩ := q_bd_s hF
      refine va_put (D := g.1) (ci := 2) (v := .int ((σN 99 1) + 1)) (ty := .int) (C := RX2) (T := TX2) (N := 6) hx hb hts hi2 tyX2 tyX2_ok nmX2 hown hK hP hD hS 0 rfl rfl 1 (by decide) (hts (.fieldLink RX2 15 "PanTales$Night" "beds" "I") (by decide +kernel)) (fun _ h9 => h9) rfl (by decide +kernel) rfl rfl (Nat.le_of_ble_eq_true rfl) dX2_actOn_69 (fun H locs hP hD hS => ?_)
      have hP : va_P g.1 vwCl (wX2 qN (q_pt σN 1 ((σN 99 1) + 1)) ++ wX1 g qD AD σD_5) H := hP
      have hD : va_D Z (wX2 qN (q_pt σN 1 ((σN 99 1) + 1)) ++ wX1 g qD AD σD_5) := hD
      rw [e_12] at hP hD
      refine lv_aload_n hx hb dX2_actOn_72 rfl (lv_at hl 2 rfl) ?_
      refine lv_dup hx hb dX2_actOn_73 rfl ?_
      refine va_get (D := g.1) (ci := 2) (v := .int (σN_11 99 0)) (C := RX2) (T := TX2) (N := 6) hx hb hts hi2 hown hK hP 0 rfl rfl 0 (by decide) (hts (.fieldLink RX2 9 "PanTales$Night" "acts" "I") (by decide +kernel)) (fun _ h9 => h9) rfl dX2_actOn_74 ?_
      refine lv_iconst (v := 1) hx hb dX2_actOn_77 (by decide) ?_
      refine lv_iadd hx hb dX2_actOn_78 ?_
      obtain ⟨σN_13, e_14, hF⟩ := q_bd_s hF
      refine va_put (D := g.1) (ci := 2) (v := .int ((σN_11 99 0) + 1)) (ty := .int) (C := RX2) (T := TX2) (N := 6) hx hb hts hi2 tyX2 tyX2_ok nmX2 hown hK hP hD hS 0 rfl rfl 0 (by decide) (hts (.fieldLink RX2 9 "PanTales$Night" "acts" "I") (by decide +kernel)) (fun _ h9 => h9) rfl (by decide +kernel) rfl rfl (Nat.le_of_ble_eq_true rfl) dX2_actOn_79 (fun H locs hP hD hS => ?_)
      have hP : va_P g.1 vwCl (wX2 qN (q_pt σN_11 0 ((σN_11 99 0) + 1)) ++ wX1 g qD AD σD_5) H := hP
      have hD : va_D Z (wX2 qN (q_pt σN_11 0 ((σN_11 99 0) + 1)) ++ wX1 g qD AD σD_5) := hD
      rw [e_14] at hP hD
      cases hF
      exact r_vret hx hb hr hlk hS () trivial hP hD dX2_actOn_82
  · have hF := q_if_t (by first | exact c_7 | exact Classical.not_not.mp c_7) hF
    refine lv_aload_n hx hb dX2_actOn_32 rfl (lv_at hl 3 rfl) ?_
    refine lv_iload hx hb dX2_actOn_33 (lv_at hl 1 rfl) ?_
    obtain ⟨r_15, h_16, hF⟩ := q_cl_s hF
    refine gcV_i (As := [.int r_1]) (rest := []) (ci := 1) (q := (RX1, TX1, 12)) F hK hN hP hD hS hA (m_X1_beliefOf l g H.size qD AD σD_5 r_1 r_15 h_16) gX2_actOn_X1_beliefOf kX1_beliefOf rfl rfl rfl rfl ⟨(Nat.le_of_ble_eq_true rfl), (Nat.le_of_ble_eq_true rfl)⟩ [1, 2, 3, 4, 5, 6, 7, 8] [0] rfl rfl rfl (by decide) rfl rfl rfl rfl rfl hl.1 (Nat.le_of_ble_eq_true rfl) dX2_actOn_35 ⟨(Nat.le_of_ble_eq_true rfl), (Nat.le_of_ble_eq_true rfl)⟩ (fun r_w u_w H locs hw hP hD hS => ?_)
    have hP : va_P g.1 vwCl (wX2 qN σN ++ wX1 g qD AD σD_5) H := hP
    have hD : va_D Z (wX2 qN σN ++ wX1 g qD AD σD_5) := hD
    obtain rfl : r_15 = r_w := hw.symm
    refine lv_iload hx hb dX2_actOn_38 (lv_at hl 0 rfl) ?_
    refine lv_icmp_eq (tgt := 57) hx hb dX2_actOn_40 (by decide) (fun c_17 => ?_) (fun c_17 => ?_)
    · have hF := q_if_t c_17 hF
      refine lv_iload_n hx hb dX2_actOn_57 rfl (lv_at hl 4 rfl) ?_
      refine lv_iconst (v := 2) hx hb dX2_actOn_58 (by decide) ?_
      refine lv_icmp_ne (tgt := 72) hx hb dX2_actOn_59 (by decide) (fun c_18 => ?_) (fun c_18 => ?_)
      · have hF := q_if_f c_18 hF
        refine lv_aload_n hx hb dX2_actOn_72 rfl (lv_at hl 2 rfl) ?_
        refine lv_dup hx hb dX2_actOn_73 rfl ?_
        refine va_get (D := g.1) (ci := 2) (v := .int (σN 99 0)) (C := RX2) (T := TX2) (N := 6) hx hb hts hi2 hown hK hP 0 rfl rfl 0 (by decide) (hts (.fieldLink RX2 9 "PanTales$Night" "acts" "I") (by decide +kernel)) (fun _ h9 => h9) rfl dX2_actOn_74 ?_
        refine lv_iconst (v := 1) hx hb dX2_actOn_77 (by decide) ?_
        refine lv_iadd hx hb dX2_actOn_78 ?_
        obtain ⟨σN_19, e_20, hF⟩ := q_bd_s hF
        refine va_put (D := g.1) (ci := 2) (v := .int ((σN 99 0) + 1)) (ty := .int) (C := RX2) (T := TX2) (N := 6) hx hb hts hi2 tyX2 tyX2_ok nmX2 hown hK hP hD hS 0 rfl rfl 0 (by decide) (hts (.fieldLink RX2 9 "PanTales$Night" "acts" "I") (by decide +kernel)) (fun _ h9 => h9) rfl (by decide +kernel) rfl rfl (Nat.le_of_ble_eq_true rfl) dX2_actOn_79 (fun H locs hP hD hS => ?_)
        have hP : va_P g.1 vwCl (wX2 qN (q_pt σN 0 ((σN 99 0) + 1)) ++ wX1 g qD AD σD_5) H := hP
        have hD : va_D Z (wX2 qN (q_pt σN 0 ((σN 99 0) + 1)) ++ wX1 g qD AD σD_5) := hD
        rw [e_20] at hP hD
        cases hF
        exact r_vret hx hb hr hlk hS () trivial hP hD dX2_actOn_82
      · have hF := q_if_t (by first | exact c_18 | exact Classical.not_not.mp c_18) hF
        refine lv_aload_n hx hb dX2_actOn_62 rfl (lv_at hl 2 rfl) ?_
        refine lv_dup hx hb dX2_actOn_63 rfl ?_
        refine va_get (D := g.1) (ci := 2) (v := .int (σN 99 1)) (C := RX2) (T := TX2) (N := 6) hx hb hts hi2 hown hK hP 0 rfl rfl 1 (by decide) (hts (.fieldLink RX2 15 "PanTales$Night" "beds" "I") (by decide +kernel)) (fun _ h9 => h9) rfl dX2_actOn_64 ?_
        refine lv_iconst (v := 1) hx hb dX2_actOn_67 (by decide) ?_
        refine lv_iadd hx hb dX2_actOn_68 ?_
        obtain ⟨σN_21, e_22, hF⟩ := q_bd_s hF
        refine va_put (D := g.1) (ci := 2) (v := .int ((σN 99 1) + 1)) (ty := .int) (C := RX2) (T := TX2) (N := 6) hx hb hts hi2 tyX2 tyX2_ok nmX2 hown hK hP hD hS 0 rfl rfl 1 (by decide) (hts (.fieldLink RX2 15 "PanTales$Night" "beds" "I") (by decide +kernel)) (fun _ h9 => h9) rfl (by decide +kernel) rfl rfl (Nat.le_of_ble_eq_true rfl) dX2_actOn_69 (fun H locs hP hD hS => ?_)
        have hP : va_P g.1 vwCl (wX2 qN (q_pt σN 1 ((σN 99 1) + 1)) ++ wX1 g qD AD σD_5) H := hP
        have hD : va_D Z (wX2 qN (q_pt σN 1 ((σN 99 1) + 1)) ++ wX1 g qD AD σD_5) := hD
        rw [e_22] at hP hD
        refine lv_aload_n hx hb dX2_actOn_72 rfl (lv_at hl 2 rfl) ?_
        refine lv_dup hx hb dX2_actOn_73 rfl ?_
        refine va_get (D := g.1) (ci := 2) (v := .int (σN_21 99 0)) (C := RX2) (T := TX2) (N := 6) hx hb hts hi2 hown hK hP 0 rfl rfl 0 (by decide) (hts (.fieldLink RX2 9 "PanTales$Night" "acts" "I") (by decide +kernel)) (fun _ h9 => h9) rfl dX2_actOn_74 ?_
        refine lv_iconst (v := 1) hx hb dX2_actOn_77 (by decide) ?_
        refine lv_iadd hx hb dX2_actOn_78 ?_
        obtain ⟨σN_23, e_24, hF⟩ := q_bd_s hF
        refine va_put (D := g.1) (ci := 2) (v := .int ((σN_21 99 0) + 1)) (ty := .int) (C := RX2) (T := TX2) (N := 6) hx hb hts hi2 tyX2 tyX2_ok nmX2 hown hK hP hD hS 0 rfl rfl 0 (by decide) (hts (.fieldLink RX2 9 "PanTales$Night" "acts" "I") (by decide +kernel)) (fun _ h9 => h9) rfl (by decide +kernel) rfl rfl (Nat.le_of_ble_eq_true rfl) dX2_actOn_79 (fun H locs hP hD hS => ?_)
        have hP : va_P g.1 vwCl (wX2 qN (q_pt σN_21 0 ((σN_21 99 0) + 1)) ++ wX1 g qD AD σD_5) H := hP
        have hD : va_D Z (wX2 qN (q_pt σN_21 0 ((σN_21 99 0) + 1)) ++ wX1 g qD AD σD_5) := hD
        rw [e_24] at hP hD
        cases hF
        exact r_vret hx hb hr hlk hS () trivial hP hD dX2_actOn_82
    · have hF := q_if_f c_17 hF
      refine lv_aload_n hx hb dX2_actOn_43 rfl (lv_at hl 2 rfl) ?_
      refine lv_aload_n hx hb dX2_actOn_44 rfl (lv_at hl 2 rfl) ?_
      refine va_get (D := g.1) (ci := 2) (v := .int (σN 99 0)) (C := RX2) (T := TX2) (N := 6) hx hb hts hi2 hown hK hP 0 rfl rfl 0 (by decide) (hts (.fieldLink RX2 9 "PanTales$Night" "acts" "I") (by decide +kernel)) (fun _ h9 => h9) rfl dX2_actOn_45 ?_
      obtain ⟨σN_25, e_26, hF⟩ := q_bd_s hF
      refine va_put (D := g.1) (ci := 2) (v := .int (σN 99 0)) (ty := .int) (C := RX2) (T := TX2) (N := 6) hx hb hts hi2 tyX2 tyX2_ok nmX2 hown hK hP hD hS 0 rfl rfl 4 (by decide) (hts (.fieldLink RX2 24 "PanTales$Night" "otherAct" "I") (by decide +kernel)) (fun _ h9 => h9) rfl (by decide +kernel) rfl rfl (Nat.le_of_ble_eq_true rfl) dX2_actOn_48 (fun H locs hP hD hS => ?_)
      have hP : va_P g.1 vwCl (wX2 qN (q_pt σN 4 (σN 99 0)) ++ wX1 g qD AD σD_5) H := hP
      have hD : va_D Z (wX2 qN (q_pt σN 4 (σN 99 0)) ++ wX1 g qD AD σD_5) := hD
      rw [e_26] at hP hD
      refine lv_aload_n hx hb dX2_actOn_51 rfl (lv_at hl 2 rfl) ?_
      refine lv_iload hx hb dX2_actOn_52 (lv_at hl 1 rfl) ?_
      obtain ⟨σN_27, e_28, hF⟩ := q_bd_s hF
      refine va_put (D := g.1) (ci := 2) (v := .int r_1) (ty := .int) (C := RX2) (T := TX2) (N := 6) hx hb hts hi2 tyX2 tyX2_ok nmX2 hown hK hP hD hS 0 rfl rfl 5 (by decide) (hts (.fieldLink RX2 27 "PanTales$Night" "otherHouse" "I") (by decide +kernel)) (fun _ h9 => h9) rfl (by decide +kernel) rfl rfl (Nat.le_of_ble_eq_true rfl) dX2_actOn_54 (fun H locs hP hD hS => ?_)
      have hP : va_P g.1 vwCl (wX2 qN (q_pt σN_25 5 r_1) ++ wX1 g qD AD σD_5) H := hP
      have hD : va_D Z (wX2 qN (q_pt σN_25 5 r_1) ++ wX1 g qD AD σD_5) := hD
      rw [e_28] at hP hD
      refine lv_iload_n hx hb dX2_actOn_57 rfl (lv_at hl 4 rfl) ?_
      refine lv_iconst (v := 2) hx hb dX2_actOn_58 (by decide) ?_
      refine lv_icmp_ne (tgt := 72) hx hb dX2_actOn_59 (by decide) (fun c_29 => ?_) (fun c_29 => ?_)
      · have hF := q_if_f c_29 hF
        refine lv_aload_n hx hb dX2_actOn_72 rfl (lv_at hl 2 rfl) ?_
        refine lv_dup hx hb dX2_actOn_73 rfl ?_
        refine va_get (D := g.1) (ci := 2) (v := .int (σN_27 99 0)) (C := RX2) (T := TX2) (N := 6) hx hb hts hi2 hown hK hP 0 rfl rfl 0 (by decide) (hts (.fieldLink RX2 9 "PanTales$Night" "acts" "I") (by decide +kernel)) (fun _ h9 => h9) rfl dX2_actOn_74 ?_
        refine lv_iconst (v := 1) hx hb dX2_actOn_77 (by decide) ?_
        refine lv_iadd hx hb dX2_actOn_78 ?_
        obtain ⟨σN_30, e_31, hF⟩ := q_bd_s hF
        refine va_put (D := g.1) (ci := 2) (v := .int ((σN_27 99 0) + 1)) (ty := .int) (C := RX2) (T := TX2) (N := 6) hx hb hts hi2 tyX2 tyX2_ok nmX2 hown hK hP hD hS 0 rfl rfl 0 (by decide) (hts (.fieldLink RX2 9 "PanTales$Night" "acts" "I") (by decide +kernel)) (fun _ h9 => h9) rfl (by decide +kernel) rfl rfl (Nat.le_of_ble_eq_true rfl) dX2_actOn_79 (fun H locs hP hD hS => ?_)
        have hP : va_P g.1 vwCl (wX2 qN (q_pt σN_27 0 ((σN_27 99 0) + 1)) ++ wX1 g qD AD σD_5) H := hP
        have hD : va_D Z (wX2 qN (q_pt σN_27 0 ((σN_27 99 0) + 1)) ++ wX1 g qD AD σD_5) := hD
        rw [e_31] at hP hD
        cases hF
        exact r_vret hx hb hr hlk hS () trivial hP hD dX2_actOn_82
      · have hF := q_if_t (by first | exact c_29 | exact Classical.not_not.mp c_29) hF
        refine lv_aload_n hx hb dX2_actOn_62 rfl (lv_at hl 2 rfl) ?_
        refine lv_dup hx hb dX2_actOn_63 rfl ?_
        refine va_get (D := g.1) (ci := 2) (v := .int (σN_27 99 1)) (C := RX2) (T := TX2) (N := 6) hx hb hts hi2 hown hK hP 0 rfl rfl 1 (by decide) (hts (.fieldLink RX2 15 "PanTales$Night" "beds" "I") (by decide +kernel)) (fun _ h9 => h9) rfl dX2_actOn_64 ?_
        refine lv_iconst (v := 1) hx hb dX2_actOn_67 (by decide) ?_
        refine lv_iadd hx hb dX2_actOn_68 ?_
        obtain ⟨σN_32, e_33, hF⟩ := q_bd_s hF
        refine va_put (D := g.1) (ci := 2) (v := .int ((σN_27 99 1) + 1)) (ty := .int) (C := RX2) (T := TX2) (N := 6) hx hb hts hi2 tyX2 tyX2_ok nmX2 hown hK hP hD hS 0 rfl rfl 1 (by decide) (hts (.fieldLink RX2 15 "PanTales$Night" "beds" "I") (by decide +kernel)) (fun _ h9 => h9) rfl (by decide +kernel) rfl rfl (Nat.le_of_ble_eq_true rfl) dX2_actOn_69 (fun H locs hP hD hS => ?_)
        have hP : va_P g.1 vwCl (wX2 qN (q_pt σN_27 1 ((σN_27 99 1) + 1)) ++ wX1 g qD AD σD_5) H := hP
        have hD : va_D Z (wX2 qN (q_pt σN_27 1 ((σN_27 99 1) + 1)) ++ wX1 g qD AD σD_5) := hD
        rw [e_33] at hP hD
        refine lv_aload_n hx hb dX2_actOn_72 rfl (lv_at hl 2 rfl) ?_
        refine lv_dup hx hb dX2_actOn_73 rfl ?_
        refine va_get (D := g.1) (ci := 2) (v := .int (σN_32 99 0)) (C := RX2) (T := TX2) (N := 6) hx hb hts hi2 hown hK hP 0 rfl rfl 0 (by decide) (hts (.fieldLink RX2 9 "PanTales$Night" "acts" "I") (by decide +kernel)) (fun _ h9 => h9) rfl dX2_actOn_74 ?_
        refine lv_iconst (v := 1) hx hb dX2_actOn_77 (by decide) ?_
        refine lv_iadd hx hb dX2_actOn_78 ?_
        obtain ⟨σN_34, e_35, hF⟩ := q_bd_s hF
        refine va_put (D := g.1) (ci := 2) (v := .int ((σN_32 99 0) + 1)) (ty := .int) (C := RX2) (T := TX2) (N := 6) hx hb hts hi2 tyX2 tyX2_ok nmX2 hown hK hP hD hS 0 rfl rfl 0 (by decide) (hts (.fieldLink RX2 9 "PanTales$Night" "acts" "I") (by decide +kernel)) (fun _ h9 => h9) rfl (by decide +kernel) rfl rfl (Nat.le_of_ble_eq_true rfl) dX2_actOn_79 (fun H locs hP hD hS => ?_)
        have hP : va_P g.1 vwCl (wX2 qN (q_pt σN_32 0 ((σN_32 99 0) + 1)) ++ wX1 g qD AD σD_5) H := hP
        have hD : va_D Z (wX2 qN (q_pt σN_32 0 ((σN_32 99 0) + 1)) ++ wX1 g qD AD σD_5) := hD
        rw [e_35] at hP hD
        cases hF
        exact r_vret hx hb hr hlk hS () trivial hP hD dX2_actOn_82
set_option maxHeartbeats 4000000 in
set_option maxRecDepth 100000 in
theorem m_X2_pass (l : Launch) (g : GT) (sz : Nat) (qN : Nat) (σN : qS) (qP : Nat) (AP : Nat → Nat) (σP : qS) (qD : Nat) (AD : Nat → Nat) (σD : qS) (qC : Nat) (AC : Nat → Nat) (σC : qS) (rr : Int32) (σN' : qS) (σD' : qS) (hF : f_X2_pass σN σP σD σC = some (rr, σN', σD')) : Ci l yX2_pass wsX2_pass { frames := 5, cells := 0, slots := 0, locals := 113 } g sz [.ref qN, .ref qP, .ref qD, .ref qC] (wX2 qN σN ++ wX3 g qP AP σP ++ wX1 g qD AD σD ++ wX1 g qC AC σC) rr (wX2 qN σN' ++ wX3 g qP AP σP ++ wX1 g qD AD σD' ++ wX1 g qC AC σC) := by
  refine gMet_i (cc := cX2_pass) (maxL := 7) (ret := (some .int)) (by decide) rfl (Nat.le_of_ble_eq_true rfl) ?_
  intro p e s m args below meth c Z hx hb hr F hlk hnm hK hN hA H locs hP hD hS ls hl
  have hl : lv_has ls 7 [(0, .ref qN), (1, .ref qP), (2, .ref qD), (3, .ref qC)] := hl
  have F : CallFix p m c cX2_pass 7 s args wsX2_pass RX2 := F
  have hts := F.2.2.2.2
  have hown : s.vm.findClass RX2 = some m.cls := F.2.2.2.1
  have hi2 : ∀ w ∈ u_ws RX2 TX2 6, w ∈ wsX2_pass := by decide +kernel
  dsimp only [f_X2_pass] at hF
  refine lv_aload_n hx hb dX2_pass_0 rfl (lv_at hl 0 rfl) ?_
  refine lv_iconst (v := 0) hx hb dX2_pass_1 (by decide) ?_
  obtain ⟨σN_1, e_2, hF⟩ := q_bd_s hF
  refine va_put (D := g.1) (ci := 2) (v := .int 0) (ty := .int) (C := RX2) (T := TX2) (N := 6) hx hb hts hi2 tyX2 tyX2_ok nmX2 hown hK hP hD hS 0 rfl rfl 0 (by decide) (hts (.fieldLink RX2 9 "PanTales$Night" "acts" "I") (by decide +kernel)) (fun _ h9 => h9) rfl (by decide +kernel) rfl rfl (Nat.le_of_ble_eq_true rfl) dX2_pass_2 (fun H locs hP hD hS => ?_)
  have hP : va_P g.1 vwCl (wX2 qN (q_pt σN 0 (0 : Int32)) ++ wX3 g qP AP σP ++ wX1 g qD AD σD ++ wX1 g qC AC σC) H := hP
  have hD : va_D Z (wX2 qN (q_pt σN 0 (0 : Int32)) ++ wX3 g qP AP σP ++ wX1 g qD AD σD ++ wX1 g qC AC σC) := hD
  rw [e_2] at hP hD
  refine lv_aload_n hx hb dX2_pass_5 rfl (lv_at hl 0 rfl) ?_
  refine lv_iconst (v := 0) hx hb dX2_pass_6 (by decide) ?_
  obtain ⟨σN_3, e_4, hF⟩ := q_bd_s hF
  refine va_put (D := g.1) (ci := 2) (v := .int 0) (ty := .int) (C := RX2) (T := TX2) (N := 6) hx hb hts hi2 tyX2 tyX2_ok nmX2 hown hK hP hD hS 0 rfl rfl 1 (by decide) (hts (.fieldLink RX2 15 "PanTales$Night" "beds" "I") (by decide +kernel)) (fun _ h9 => h9) rfl (by decide +kernel) rfl rfl (Nat.le_of_ble_eq_true rfl) dX2_pass_7 (fun H locs hP hD hS => ?_)
  have hP : va_P g.1 vwCl (wX2 qN (q_pt σN_1 1 (0 : Int32)) ++ wX3 g qP AP σP ++ wX1 g qD AD σD ++ wX1 g qC AC σC) H := hP
  have hD : va_D Z (wX2 qN (q_pt σN_1 1 (0 : Int32)) ++ wX3 g qP AP σP ++ wX1 g qD AD σD ++ wX1 g qC AC σC) := hD
  rw [e_4] at hP hD
  refine lv_aload_n hx hb dX2_pass_10 rfl (lv_at hl 0 rfl) ?_
  refine lv_bipush (v := (-6)) hx hb dX2_pass_11 (by decide) ?_
  obtain ⟨σN_5, e_6, hF⟩ := q_bd_s hF
  refine va_put (D := g.1) (ci := 2) (v := .int (-6)) (ty := .int) (C := RX2) (T := TX2) (N := 6) hx hb hts hi2 tyX2 tyX2_ok nmX2 hown hK hP hD hS 0 rfl rfl 2 (by decide) (hts (.fieldLink RX2 18 "PanTales$Night" "hinderedAct" "I") (by decide +kernel)) (fun _ h9 => h9) rfl (by decide +kernel) rfl rfl (Nat.le_of_ble_eq_true rfl) dX2_pass_13 (fun H locs hP hD hS => ?_)
  have hP : va_P g.1 vwCl (wX2 qN (q_pt σN_3 2 (-6 : Int32)) ++ wX3 g qP AP σP ++ wX1 g qD AD σD ++ wX1 g qC AC σC) H := hP
  have hD : va_D Z (wX2 qN (q_pt σN_3 2 (-6 : Int32)) ++ wX3 g qP AP σP ++ wX1 g qD AD σD ++ wX1 g qC AC σC) := hD
  rw [e_6] at hP hD
  refine lv_aload_n hx hb dX2_pass_16 rfl (lv_at hl 0 rfl) ?_
  refine lv_bipush (v := (-6)) hx hb dX2_pass_17 (by decide) ?_
  obtain ⟨σN_7, e_8, hF⟩ := q_bd_s hF
  refine va_put (D := g.1) (ci := 2) (v := .int (-6)) (ty := .int) (C := RX2) (T := TX2) (N := 6) hx hb hts hi2 tyX2 tyX2_ok nmX2 hown hK hP hD hS 0 rfl rfl 3 (by decide) (hts (.fieldLink RX2 21 "PanTales$Night" "reason" "I") (by decide +kernel)) (fun _ h9 => h9) rfl (by decide +kernel) rfl rfl (Nat.le_of_ble_eq_true rfl) dX2_pass_19 (fun H locs hP hD hS => ?_)
  have hP : va_P g.1 vwCl (wX2 qN (q_pt σN_5 3 (-6 : Int32)) ++ wX3 g qP AP σP ++ wX1 g qD AD σD ++ wX1 g qC AC σC) H := hP
  have hD : va_D Z (wX2 qN (q_pt σN_5 3 (-6 : Int32)) ++ wX3 g qP AP σP ++ wX1 g qD AD σD ++ wX1 g qC AC σC) := hD
  rw [e_8] at hP hD
  refine lv_aload_n hx hb dX2_pass_22 rfl (lv_at hl 0 rfl) ?_
  refine lv_bipush (v := (-6)) hx hb dX2_pass_23 (by decide) ?_
  obtain ⟨σN_9, e_10, hF⟩ := q_bd_s hF
  refine va_put (D := g.1) (ci := 2) (v := .int (-6)) (ty := .int) (C := RX2) (T := TX2) (N := 6) hx hb hts hi2 tyX2 tyX2_ok nmX2 hown hK hP hD hS 0 rfl rfl 4 (by decide) (hts (.fieldLink RX2 24 "PanTales$Night" "otherAct" "I") (by decide +kernel)) (fun _ h9 => h9) rfl (by decide +kernel) rfl rfl (Nat.le_of_ble_eq_true rfl) dX2_pass_25 (fun H locs hP hD hS => ?_)
  have hP : va_P g.1 vwCl (wX2 qN (q_pt σN_7 4 (-6 : Int32)) ++ wX3 g qP AP σP ++ wX1 g qD AD σD ++ wX1 g qC AC σC) H := hP
  have hD : va_D Z (wX2 qN (q_pt σN_7 4 (-6 : Int32)) ++ wX3 g qP AP σP ++ wX1 g qD AD σD ++ wX1 g qC AC σC) := hD
  rw [e_10] at hP hD
  refine lv_aload_n hx hb dX2_pass_28 rfl (lv_at hl 0 rfl) ?_
  refine lv_bipush (v := (-6)) hx hb dX2_pass_29 (by decide) ?_
  obtain ⟨σN_11, e_12, hF⟩ := q_bd_s hF
  refine va_put (D := g.1) (ci := 2) (v := .int (-6)) (ty := .int) (C := RX2) (T := TX2) (N := 6) hx hb hts hi2 tyX2 tyX2_ok nmX2 hown hK hP hD hS 0 rfl rfl 5 (by decide) (hts (.fieldLink RX2 27 "PanTales$Night" "otherHouse" "I") (by decide +kernel)) (fun _ h9 => h9) rfl (by decide +kernel) rfl rfl (Nat.le_of_ble_eq_true rfl) dX2_pass_31 (fun H locs hP hD hS => ?_)
  have hP : va_P g.1 vwCl (wX2 qN (q_pt σN_9 5 (-6 : Int32)) ++ wX3 g qP AP σP ++ wX1 g qD AD σD ++ wX1 g qC AC σC) H := hP
  have hD : va_D Z (wX2 qN (q_pt σN_9 5 (-6 : Int32)) ++ wX3 g qP AP σP ++ wX1 g qD AD σD ++ wX1 g qC AC σC) := hD
  rw [e_12] at hP hD
  refine lv_aload_n hx hb dX2_pass_34 rfl (lv_at hl 1 rfl) ?_
  obtain ⟨r_13, h_14, hF⟩ := q_cl_s hF
  refine gcV_i (As := []) (rest := []) (ci := 3) (q := (RX3, TX3, 2)) F hK hN hP hD hS hA (m_X3_faultPlace l g H.size qP AP σP r_13 h_14) gX2_pass_X3_faultPlace kX3_faultPlace rfl rfl rfl rfl ⟨(Nat.le_of_ble_eq_true rfl), (Nat.le_of_ble_eq_true rfl)⟩ [1, 2] [0, 3, 4, 5, 6, 7, 8, 9, 10, 11, 12, 13, 14, 15, 16, 17, 18] rfl rfl rfl (by decide) rfl rfl rfl rfl rfl hl.1 (Nat.le_of_ble_eq_true rfl) dX2_pass_35 ⟨(Nat.le_of_ble_eq_true rfl), (Nat.le_of_ble_eq_true rfl)⟩ (fun r_w u_w H locs hw hP hD hS => ?_)
  have hP : va_P g.1 vwCl (wX2 qN σN_11 ++ wX3 g qP AP σP ++ wX1 g qD AD σD ++ wX1 g qC AC σC) H := hP.sub [0, 17, 18, 1, 2, 3, 4, 5, 6, 7, 8, 9, 10, 11, 12, 13, 14, 15, 16] rfl
  have hD : va_D Z (wX2 qN σN_11 ++ wX3 g qP AP σP ++ wX1 g qD AD σD ++ wX1 g qC AC σC) := hD.sub [0, 17, 18, 1, 2, 3, 4, 5, 6, 7, 8, 9, 10, 11, 12, 13, 14, 15, 16] (by decide) rfl
  obtain rfl : r_13 = r_w := hw.symm
  refine lv_bipush (v := (-6)) hx hb dX2_pass_38 (by decide) ?_
  refine lv_icmp_eq (tgt := 46) hx hb dX2_pass_40 (by decide) (fun c_15 => ?_) (fun c_15 => ?_)
  · have hF := q_if_t c_15 hF
    refine lv_aload_n hx hb dX2_pass_46 rfl (lv_at hl 2 rfl) ?_
    refine lv_aload_n hx hb dX2_pass_47 rfl (lv_at hl 3 rfl) ?_
    obtain ⟨σD_16, h_17, hF⟩ := q_cl_s hF
    refine gcV_v (As := [.ref qC]) (rest := []) (ci := 1) (q := (RX1, TX1, 12)) F hK hN hP hD hS hA (m_X1_copyFrom l g H.size qD AD σD qC AC σC σD_16 h_17) gX2_pass_X1_copyFrom kX1_copyFrom rfl rfl rfl rfl ⟨(Nat.le_of_ble_eq_true rfl), (Nat.le_of_ble_eq_true rfl)⟩ [3, 4, 5, 6, 7, 8, 9, 10, 11, 12, 13, 14, 15, 16, 17, 18] [0, 1, 2] rfl rfl rfl (by decide) rfl rfl rfl rfl rfl hl.1 (Nat.le_of_ble_eq_true rfl) dX2_pass_48 ⟨(Nat.le_of_ble_eq_true rfl), (Nat.le_of_ble_eq_true rfl)⟩ (fun u_w H locs hw hP hD hS => ?_)
    have hP : va_P g.1 vwCl (wX2 qN σN_11 ++ wX3 g qP AP σP ++ wX1 g qD AD σD_16 ++ wX1 g qC AC σC) H := hP
    have hD : va_D Z (wX2 qN σN_11 ++ wX3 g qP AP σP ++ wX1 g qD AD σD_16 ++ wX1 g qC AC σC) := hD
    refine lv_iconst (v := 0) hx hb dX2_pass_51 (by decide) ?_
    refine lv_istore (lv' := [(4, .int 0), (0, .ref qN), (1, .ref qP), (2, .ref qD), (3, .ref qC)]) hx hb dX2_pass_52 hl (by decide) rfl (fun ls hl => ?_)
    refine q_loop (fun u0 => wX2 qN u0.2.1 ++ wX3 g qP AP σP ++ wX1 g qD AD u0.2.2 ++ wX1 g qC AC σC) (fun u0 => [(4, .int u0.1), (0, .ref qN), (1, .ref qP), (2, .ref qD)]) 149 hF ?_ ?_ hP hD hS (lv_sub hl [0, 1, 2, 3] rfl)
    · rintro ⟨v4_18, σN_18, σD_18⟩ hF H locs ls hP hD hS hl
      try dsimp only at hF
      have hP : va_P g.1 vwCl (wX2 qN σN_18 ++ wX3 g qP AP σP ++ wX1 g qD AD σD_18 ++ wX1 g qC AC σC) H := hP
      have hD : va_D Z (wX2 qN σN_18 ++ wX3 g qP AP σP ++ wX1 g qD AD σD_18 ++ wX1 g qC AC σC) := hD
      have hl : lv_has ls 7 [(4, .int v4_18), (0, .ref qN), (1, .ref qP), (2, .ref qD)] := hl
      refine lv_iconst (v := 0) hx hb dX2_pass_149 (by decide) ?_
      cases hF
      exact r_iret hx hb hr hlk hS () rfl hP hD dX2_pass_150
    · rintro k again kk ag ⟨v4_18, σN_18, σD_18⟩ hF H locs ls hP hD hS hl
      dsimp only [b_X2_pass_54] at hF
      have hP : va_P g.1 vwCl (wX2 qN σN_18 ++ wX3 g qP AP σP ++ wX1 g qD AD σD_18 ++ wX1 g qC AC σC) H := hP
      have hD : va_D Z (wX2 qN σN_18 ++ wX3 g qP AP σP ++ wX1 g qD AD σD_18 ++ wX1 g qC AC σC) := hD
      have hl : lv_has ls 7 [(4, .int v4_18), (0, .ref qN), (1, .ref qP), (2, .ref qD)] := hl
      refine lv_iload hx hb dX2_pass_54 (lv_at hl 0 rfl) ?_
      refine lv_aload_n hx hb dX2_pass_56 rfl (lv_at hl 2 rfl) ?_
      obtain ⟨r_19, h_20, hF⟩ := q_cl_s hF
      refine gcV_i (As := []) (rest := [.int v4_18]) (ci := 3) (q := (RX3, TX3, 2)) F hK hN hP hD hS hA (m_X3_size l g H.size qP AP σP r_19 h_20) gX2_pass_X3_size kX3_size rfl rfl rfl rfl ⟨(Nat.le_of_ble_eq_true rfl), (Nat.le_of_ble_eq_true rfl)⟩ [1, 2] [0, 3, 4, 5, 6, 7, 8, 9, 10, 11, 12, 13, 14, 15, 16, 17, 18] rfl rfl rfl (by decide) rfl rfl rfl rfl rfl hl.1 (Nat.le_of_ble_eq_true rfl) dX2_pass_57 ⟨(Nat.le_of_ble_eq_true rfl), (Nat.le_of_ble_eq_true rfl)⟩ (fun r_w u_w H locs hw hP hD hS => ?_)
      have hP : va_P g.1 vwCl (wX2 qN σN_18 ++ wX3 g qP AP σP ++ wX1 g qD AD σD_18 ++ wX1 g qC AC σC) H := hP.sub [0, 17, 18, 1, 2, 3, 4, 5, 6, 7, 8, 9, 10, 11, 12, 13, 14, 15, 16] rfl
      have hD : va_D Z (wX2 qN σN_18 ++ wX3 g qP AP σP ++ wX1 g qD AD σD_18 ++ wX1 g qC AC σC) := hD.sub [0, 17, 18, 1, 2, 3, 4, 5, 6, 7, 8, 9, 10, 11, 12, 13, 14, 15, 16] (by decide) rfl
      obtain rfl : r_19 = r_w := hw.symm
      refine lv_icmp_ge (tgt := 149) hx hb dX2_pass_60 (by decide) (fun c_21 => ?_) (fun c_21 => ?_)
      · have hF := q_if_t c_21 hF
        exact kk (v4_18, σN_18, σD_18) hF _ _ _ hP hD hS (lv_sub hl [0, 1, 2, 3] rfl)
      · have hF := q_if_f c_21 hF
        refine lv_aload_n hx hb dX2_pass_63 rfl (lv_at hl 2 rfl) ?_
        refine lv_iload hx hb dX2_pass_64 (lv_at hl 0 rfl) ?_
        obtain ⟨r_22, h_23, hF⟩ := q_cl_s hF
        refine gcV_i (As := [.int v4_18]) (rest := []) (ci := 3) (q := (RX3, TX3, 2)) F hK hN hP hD hS hA (m_X3_kindAt l g H.size qP AP σP v4_18 r_22 h_23) gX2_pass_X3_kindAt kX3_kindAt rfl rfl rfl rfl ⟨(Nat.le_of_ble_eq_true rfl), (Nat.le_of_ble_eq_true rfl)⟩ [1, 2] [0, 3, 4, 5, 6, 7, 8, 9, 10, 11, 12, 13, 14, 15, 16, 17, 18] rfl rfl rfl (by decide) rfl rfl rfl rfl rfl hl.1 (Nat.le_of_ble_eq_true rfl) dX2_pass_66 ⟨(Nat.le_of_ble_eq_true rfl), (Nat.le_of_ble_eq_true rfl)⟩ (fun r_w u_w H locs hw hP hD hS => ?_)
        have hP : va_P g.1 vwCl (wX2 qN σN_18 ++ wX3 g qP AP σP ++ wX1 g qD AD σD_18 ++ wX1 g qC AC σC) H := hP.sub [0, 17, 18, 1, 2, 3, 4, 5, 6, 7, 8, 9, 10, 11, 12, 13, 14, 15, 16] rfl
        have hD : va_D Z (wX2 qN σN_18 ++ wX3 g qP AP σP ++ wX1 g qD AD σD_18 ++ wX1 g qC AC σC) := hD.sub [0, 17, 18, 1, 2, 3, 4, 5, 6, 7, 8, 9, 10, 11, 12, 13, 14, 15, 16] (by decide) rfl
        obtain rfl : r_22 = r_w := hw.symm
        refine lv_istore (lv' := [(5, .int r_22), (4, .int v4_18), (0, .ref qN), (1, .ref qP), (2, .ref qD)]) hx hb dX2_pass_69 hl (by decide) rfl (fun ls hl => ?_)
        refine lv_aload_n hx hb dX2_pass_71 rfl (lv_at hl 4 rfl) ?_
        refine lv_iload hx hb dX2_pass_72 (lv_at hl 0 rfl) ?_
        refine lv_aload_n hx hb dX2_pass_74 rfl (lv_at hl 3 rfl) ?_
        refine lv_iload hx hb dX2_pass_75 (lv_at hl 1 rfl) ?_
        obtain ⟨r_24, h_25, hF⟩ := q_cl_s hF
        refine gcV_i (As := [.int v4_18]) (rest := [.int r_22, .ref qD]) (ci := 3) (q := (RX3, TX3, 2)) F hK hN hP hD hS hA (m_X3_whatAt l g H.size qP AP σP v4_18 r_24 h_25) gX2_pass_X3_whatAt kX3_whatAt rfl rfl rfl rfl ⟨(Nat.le_of_ble_eq_true rfl), (Nat.le_of_ble_eq_true rfl)⟩ [1, 2] [0, 3, 4, 5, 6, 7, 8, 9, 10, 11, 12, 13, 14, 15, 16, 17, 18] rfl rfl rfl (by decide) rfl rfl rfl rfl rfl hl.1 (Nat.le_of_ble_eq_true rfl) dX2_pass_77 ⟨(Nat.le_of_ble_eq_true rfl), (Nat.le_of_ble_eq_true rfl)⟩ (fun r_w u_w H locs hw hP hD hS => ?_)
        have hP : va_P g.1 vwCl (wX2 qN σN_18 ++ wX3 g qP AP σP ++ wX1 g qD AD σD_18 ++ wX1 g qC AC σC) H := hP.sub [0, 17, 18, 1, 2, 3, 4, 5, 6, 7, 8, 9, 10, 11, 12, 13, 14, 15, 16] rfl
        have hD : va_D Z (wX2 qN σN_18 ++ wX3 g qP AP σP ++ wX1 g qD AD σD_18 ++ wX1 g qC AC σC) := hD.sub [0, 17, 18, 1, 2, 3, 4, 5, 6, 7, 8, 9, 10, 11, 12, 13, 14, 15, 16] (by decide) rfl
        obtain rfl : r_24 = r_w := hw.symm
        obtain ⟨r_26, h_27, hF⟩ := q_cl_s hF
        refine gcV_i (As := [.int r_22, .int r_24]) (rest := []) (ci := 1) (q := (RX1, TX1, 12)) F hK hN hP hD hS hA (m_X1_reasonAgainst l g H.size qD AD σD_18 r_22 r_24 r_26 h_27) gX2_pass_X1_reasonAgainst kX1_reasonAgainst rfl rfl rfl rfl ⟨(Nat.le_of_ble_eq_true rfl), (Nat.le_of_ble_eq_true rfl)⟩ [3, 4, 5, 6, 7, 8, 9, 10] [0, 1, 2, 11, 12, 13, 14, 15, 16, 17, 18] rfl rfl rfl (by decide) rfl rfl rfl rfl rfl hl.1 (Nat.le_of_ble_eq_true rfl) dX2_pass_80 ⟨(Nat.le_of_ble_eq_true rfl), (Nat.le_of_ble_eq_true rfl)⟩ (fun r_w u_w H locs hw hP hD hS => ?_)
        have hP : va_P g.1 vwCl (wX2 qN σN_18 ++ wX3 g qP AP σP ++ wX1 g qD AD σD_18 ++ wX1 g qC AC σC) H := hP.sub [0, 1, 2, 11, 12, 13, 14, 15, 16, 17, 18, 3, 4, 5, 6, 7, 8, 9, 10] rfl
        have hD : va_D Z (wX2 qN σN_18 ++ wX3 g qP AP σP ++ wX1 g qD AD σD_18 ++ wX1 g qC AC σC) := hD.sub [0, 1, 2, 11, 12, 13, 14, 15, 16, 17, 18, 3, 4, 5, 6, 7, 8, 9, 10] (by decide) rfl
        obtain rfl : r_26 = r_w := hw.symm
        refine lv_istore (lv' := [(6, .int r_26), (5, .int r_22), (4, .int v4_18), (0, .ref qN), (1, .ref qP), (2, .ref qD)]) hx hb dX2_pass_83 hl (by decide) rfl (fun ls hl => ?_)
        refine lv_iload hx hb dX2_pass_85 (lv_at hl 0 rfl) ?_
        refine lv_if_eq (tgt := 107) hx hb dX2_pass_87 (by decide) (fun c_28 => ?_) (fun c_28 => ?_)
        · have hF := q_if_t c_28 hF
          refine lv_aload_n hx hb dX2_pass_107 rfl (lv_at hl 3 rfl) ?_
          refine lv_aload_n hx hb dX2_pass_108 rfl (lv_at hl 5 rfl) ?_
          refine lv_iload hx hb dX2_pass_109 (lv_at hl 1 rfl) ?_
          refine lv_aload_n hx hb dX2_pass_111 rfl (lv_at hl 4 rfl) ?_
          refine lv_iload hx hb dX2_pass_112 (lv_at hl 2 rfl) ?_
          obtain ⟨r_29, h_30, hF⟩ := q_cl_s hF
          refine gcV_i (As := [.int v4_18]) (rest := [.int r_22, .ref qD, .ref qN]) (ci := 3) (q := (RX3, TX3, 2)) F hK hN hP hD hS hA (m_X3_whatAt l g H.size qP AP σP v4_18 r_29 h_30) gX2_pass_X3_whatAt kX3_whatAt rfl rfl rfl rfl ⟨(Nat.le_of_ble_eq_true rfl), (Nat.le_of_ble_eq_true rfl)⟩ [1, 2] [0, 3, 4, 5, 6, 7, 8, 9, 10, 11, 12, 13, 14, 15, 16, 17, 18] rfl rfl rfl (by decide) rfl rfl rfl rfl rfl hl.1 (Nat.le_of_ble_eq_true rfl) dX2_pass_114 ⟨(Nat.le_of_ble_eq_true rfl), (Nat.le_of_ble_eq_true rfl)⟩ (fun r_w u_w H locs hw hP hD hS => ?_)
          have hP : va_P g.1 vwCl (wX2 qN σN_18 ++ wX3 g qP AP σP ++ wX1 g qD AD σD_18 ++ wX1 g qC AC σC) H := hP.sub [0, 17, 18, 1, 2, 3, 4, 5, 6, 7, 8, 9, 10, 11, 12, 13, 14, 15, 16] rfl
          have hD : va_D Z (wX2 qN σN_18 ++ wX3 g qP AP σP ++ wX1 g qD AD σD_18 ++ wX1 g qC AC σC) := hD.sub [0, 17, 18, 1, 2, 3, 4, 5, 6, 7, 8, 9, 10, 11, 12, 13, 14, 15, 16] (by decide) rfl
          obtain rfl : r_29 = r_w := hw.symm
          refine lv_bipush (v := 10) hx hb dX2_pass_117 (by decide) ?_
          refine lv_aload_n hx hb dX2_pass_119 rfl (lv_at hl 4 rfl) ?_
          refine lv_iload hx hb dX2_pass_120 (lv_at hl 2 rfl) ?_
          refine lv_iconst (v := 2) hx hb dX2_pass_122 (by decide) ?_
          refine lv_iadd hx hb dX2_pass_123 ?_
          obtain ⟨r_31, h_32, hF⟩ := q_cl_s hF
          refine gcV_i (As := [.int (v4_18 + 2)]) (rest := [.int 10, .int r_29, .int r_22, .ref qD, .ref qN]) (ci := 3) (q := (RX3, TX3, 2)) F hK hN hP hD hS hA (m_X3_digitAt l g H.size qP AP σP (v4_18 + 2) r_31 h_32) gX2_pass_X3_digitAt kX3_digitAt rfl rfl rfl rfl ⟨(Nat.le_of_ble_eq_true rfl), (Nat.le_of_ble_eq_true rfl)⟩ [1, 2] [0, 3, 4, 5, 6, 7, 8, 9, 10, 11, 12, 13, 14, 15, 16, 17, 18] rfl rfl rfl (by decide) rfl rfl rfl rfl rfl hl.1 (Nat.le_of_ble_eq_true rfl) dX2_pass_124 ⟨(Nat.le_of_ble_eq_true rfl), (Nat.le_of_ble_eq_true rfl)⟩ (fun r_w u_w H locs hw hP hD hS => ?_)
          have hP : va_P g.1 vwCl (wX2 qN σN_18 ++ wX3 g qP AP σP ++ wX1 g qD AD σD_18 ++ wX1 g qC AC σC) H := hP.sub [0, 17, 18, 1, 2, 3, 4, 5, 6, 7, 8, 9, 10, 11, 12, 13, 14, 15, 16] rfl
          have hD : va_D Z (wX2 qN σN_18 ++ wX3 g qP AP σP ++ wX1 g qD AD σD_18 ++ wX1 g qC AC σC) := hD.sub [0, 17, 18, 1, 2, 3, 4, 5, 6, 7, 8, 9, 10, 11, 12, 13, 14, 15, 16] (by decide) rfl
          obtain rfl : r_31 = r_w := hw.symm
          refine lv_imul hx hb dX2_pass_127 ?_
          obtain ⟨⟨σN_33, σD_34⟩, h_35, hF⟩ := q_cl_s hF
          try dsimp only at hF
          refine gcV_v (As := [.ref qD, .int r_22, .int r_29, .int ((10 : Int32) * r_31)]) (rest := []) (ci := 2) (q := (RX2, TX2, 6)) F hK hN hP hD hS hA (m_X2_actOn l g H.size qN σN_18 qD AD σD_18 r_22 r_29 ((10 : Int32) * r_31) σN_33 σD_34 h_35) gX2_pass_X2_actOn kX2_actOn rfl rfl rfl rfl ⟨(Nat.le_of_ble_eq_true rfl), (Nat.le_of_ble_eq_true rfl)⟩ [0, 3, 4, 5, 6, 7, 8, 9, 10] [1, 2, 11, 12, 13, 14, 15, 16, 17, 18] rfl rfl rfl (by decide) rfl rfl rfl rfl rfl hl.1 (Nat.le_of_ble_eq_true rfl) dX2_pass_128 ⟨(Nat.le_of_ble_eq_true rfl), (Nat.le_of_ble_eq_true rfl)⟩ (fun u_w H locs hw hP hD hS => ?_)
          have hP : va_P g.1 vwCl (wX2 qN σN_33 ++ wX3 g qP AP σP ++ wX1 g qD AD σD_34 ++ wX1 g qC AC σC) H := hP.sub [10, 0, 1, 11, 12, 13, 14, 15, 16, 17, 18, 2, 3, 4, 5, 6, 7, 8, 9] rfl
          have hD : va_D Z (wX2 qN σN_33 ++ wX3 g qP AP σP ++ wX1 g qD AD σD_34 ++ wX1 g qC AC σC) := hD.sub [10, 0, 1, 11, 12, 13, 14, 15, 16, 17, 18, 2, 3, 4, 5, 6, 7, 8, 9] (by decide) rfl
          refine lv_iload hx hb dX2_pass_131 (lv_at hl 2 rfl) ?_
          refine lv_iload hx hb dX2_pass_133 (lv_at hl 1 rfl) ?_
          refine lv_if_ne (tgt := 142) hx hb dX2_pass_135 (by decide) (fun c_37 => ?_) (fun c_37 => ?_)
          · have hF := q_if_f c_37 hF
            refine lv_iconst (v := 1) hx hb dX2_pass_142 (by decide) ?_
            refine lv_iadd hx hb dX2_pass_143 ?_
            obtain ⟨v4_38, e_39, hF⟩ := q_bd_s hF
            refine gtop e_39 ?_
            refine lv_istore (lv' := [(4, .int v4_38), (6, .int r_26), (5, .int r_22), (0, .ref qN), (1, .ref qP), (2, .ref qD)]) hx hb dX2_pass_144 hl (by decide) rfl (fun ls hl => ?_)
            refine lv_goto (tgt := 54) hx hb dX2_pass_146 (by decide) ?_
            exact ag (v4_38, σN_33, σD_34) hF _ _ _ hP hD hS (lv_sub hl [0, 3, 4, 5] rfl)
          · have hF := q_if_t (by first | exact c_37 | exact Classical.not_not.mp c_37) hF
            refine lv_iconst (v := 3) hx hb dX2_pass_138 (by decide) ?_
            refine lv_goto (tgt := 143) hx hb dX2_pass_139 (by decide) ?_
            refine lv_iadd hx hb dX2_pass_143 ?_
            obtain ⟨v4_40, e_41, hF⟩ := q_bd_s hF
            refine gtop e_41 ?_
            refine lv_istore (lv' := [(4, .int v4_40), (6, .int r_26), (5, .int r_22), (0, .ref qN), (1, .ref qP), (2, .ref qD)]) hx hb dX2_pass_144 hl (by decide) rfl (fun ls hl => ?_)
            refine lv_goto (tgt := 54) hx hb dX2_pass_146 (by decide) ?_
            exact ag (v4_40, σN_33, σD_34) hF _ _ _ hP hD hS (lv_sub hl [0, 3, 4, 5] rfl)
        · have hF := q_if_f c_28 hF
          refine lv_aload_n hx hb dX2_pass_90 rfl (lv_at hl 3 rfl) ?_
          refine lv_aload_n hx hb dX2_pass_91 rfl (lv_at hl 3 rfl) ?_
          refine va_get (D := g.1) (ci := 2) (v := .int (σN_18 99 0)) (C := RX2) (T := TX2) (N := 6) hx hb hts hi2 hown hK hP 0 rfl rfl 0 (by decide) (hts (.fieldLink RX2 9 "PanTales$Night" "acts" "I") (by decide +kernel)) (fun _ h9 => h9) rfl dX2_pass_92 ?_
          obtain ⟨σN_42, e_43, hF⟩ := q_bd_s hF
          refine va_put (D := g.1) (ci := 2) (v := .int (σN_18 99 0)) (ty := .int) (C := RX2) (T := TX2) (N := 6) hx hb hts hi2 tyX2 tyX2_ok nmX2 hown hK hP hD hS 0 rfl rfl 2 (by decide) (hts (.fieldLink RX2 18 "PanTales$Night" "hinderedAct" "I") (by decide +kernel)) (fun _ h9 => h9) rfl (by decide +kernel) rfl rfl (Nat.le_of_ble_eq_true rfl) dX2_pass_95 (fun H locs hP hD hS => ?_)
          have hP : va_P g.1 vwCl (wX2 qN (q_pt σN_18 2 (σN_18 99 0)) ++ wX3 g qP AP σP ++ wX1 g qD AD σD_18 ++ wX1 g qC AC σC) H := hP
          have hD : va_D Z (wX2 qN (q_pt σN_18 2 (σN_18 99 0)) ++ wX3 g qP AP σP ++ wX1 g qD AD σD_18 ++ wX1 g qC AC σC) := hD
          rw [e_43] at hP hD
          refine lv_aload_n hx hb dX2_pass_98 rfl (lv_at hl 3 rfl) ?_
          refine lv_iload hx hb dX2_pass_99 (lv_at hl 0 rfl) ?_
          obtain ⟨σN_44, e_45, hF⟩ := q_bd_s hF
          refine va_put (D := g.1) (ci := 2) (v := .int r_26) (ty := .int) (C := RX2) (T := TX2) (N := 6) hx hb hts hi2 tyX2 tyX2_ok nmX2 hown hK hP hD hS 0 rfl rfl 3 (by decide) (hts (.fieldLink RX2 21 "PanTales$Night" "reason" "I") (by decide +kernel)) (fun _ h9 => h9) rfl (by decide +kernel) rfl rfl (Nat.le_of_ble_eq_true rfl) dX2_pass_101 (fun H locs hP hD hS => ?_)
          have hP : va_P g.1 vwCl (wX2 qN (q_pt σN_42 3 r_26) ++ wX3 g qP AP σP ++ wX1 g qD AD σD_18 ++ wX1 g qC AC σC) H := hP
          have hD : va_D Z (wX2 qN (q_pt σN_42 3 r_26) ++ wX3 g qP AP σP ++ wX1 g qD AD σD_18 ++ wX1 g qC AC σC) := hD
          rw [e_45] at hP hD
          refine lv_bipush (v := (-3)) hx hb dX2_pass_104 (by decide) ?_
          cases hF
          exact r_iret hx hb hr hlk hS () rfl hP hD dX2_pass_106
  · have hF := q_if_f c_15 hF
    refine lv_bipush (v := (-5)) hx hb dX2_pass_43 (by decide) ?_
    cases hF
    exact r_iret hx hb hr hlk hS () rfl hP hD dX2_pass_45

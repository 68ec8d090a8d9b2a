theorem kX7_road : YOk yX7_road 3 := by decide +kernel
theorem kX7_house : YOk yX7_house 3 := by decide +kernel
theorem kX7_tell : YOk yX7_tell 2 := by decide +kernel
theorem kX7_fade : YOk yX7_fade 2 := by decide +kernel
theorem kX7_say : YOk yX7_say 1 := by decide +kernel
theorem kX7_wipe : YOk yX7_wipe 0 := by decide +kernel
theorem kX7_close : YOk yX7_close 2 := by decide +kernel
theorem kX7_begin : YOk yX7_begin 1 := by decide +kernel
theorem kX7_readOn : YOk yX7_readOn 2 := by decide +kernel
theorem kX7_fault : YOk yX7_fault 0 := by decide +kernel
theorem kX7_whyNot : YOk yX7_whyNot 2 := by decide +kernel
theorem kX7_fill : YOk yX7_fill 2 := by decide +kernel
theorem kX7_carry : YOk yX7_carry 1 := by decide +kernel
theorem kX7_put : YOk yX7_put 0 := by decide +kernel
theorem kX7_stir : YOk yX7_stir 0 := by decide +kernel
theorem kX7_morning : YOk yX7_morning 0 := by decide +kernel
theorem kX7_happen : YOk yX7_happen 3 := by decide +kernel
theorem kX7_keepNow : YOk yX7_keepNow 0 := by decide +kernel
theorem kX7_back : YOk yX7_back 1 := by decide +kernel
theorem kX7_goOne : YOk yX7_goOne 1 := by decide +kernel
theorem kX7_goNights : YOk yX7_goNights 0 := by decide +kernel
theorem kX7_refusal : YOk yX7_refusal 0 := by decide +kernel
theorem kX7_judge : YOk yX7_judge 1 := by decide +kernel
theorem kX7_ofHouse : YOk yX7_ofHouse 2 := by decide +kernel
theorem kX7_behind : YOk yX7_behind 2 := by decide +kernel
theorem kX7_ofPan : YOk yX7_ofPan 1 := by decide +kernel
theorem kX7_pan : YOk yX7_pan 1 := by decide +kernel
theorem kX7_believing : YOk yX7_believing 1 := by decide +kernel
theorem kX7_holds : YOk yX7_holds 1 := by decide +kernel
theorem kX7_other : YOk yX7_other 1 := by decide +kernel
theorem kX7_done : YOk yX7_done 0 := by decide +kernel
set_option maxHeartbeats 4000000 in
set_option maxRecDepth 100000 in
theorem m_X7_road (l : Launch) (g : GT) (sz : Nat) (qM : Nat) (AM : Nat → Nat) (σM : qS) (ℓM : qL) (a1 : Int32) (a2 : Int32) (a3 : Int32) (rr : Int32) (σM' : qS) (hF : f_X7_road σM ℓM a1 a2 a3 = some (rr, σM')) : Ci l yX7_road wsX7_road { frames := 2, cells := 0, slots := 0, locals := 45 } g sz [.ref qM, .int a1, .int a2, .int a3] (wX7 g qM AM σM ℓM) rr (wX7 g qM AM σM' ℓM) := by
  refine gMet_i (cc := cX7_road) (maxL := 5) (ret := (some .int)) (by decide) rfl (Nat.le_of_ble_eq_true rfl) ?_
  intro p e s m args below meth c Z hx hb hr F hlk hnm hK hN hA H locs hP hD hS ls hl
  have hl : lv_has ls 5 [(0, .ref qM), (1, .int a1), (2, .int a2), (3, .int a3)] := hl
  have F : CallFix p m c cX7_road 5 s args wsX7_road RX7 := F
  have hts := F.2.2.2.2
  have hown : s.vm.findClass RX7 = some m.cls := F.2.2.2.1
  have hi7 : ∀ w ∈ u_ws RX7 TX7 34, w ∈ wsX7_road := by decide +kernel
  dsimp only [f_X7_road] at hF
  refine lv_iload_n hx hb dX7_road_0 rfl (lv_at hl 1 rfl) ?_
  obtain ⟨r_1, h_2, hF⟩ := q_cl_s hF
  refine gcP (As := [.int a1]) (rest := []) F (m_X7_isPlace l a1 r_1 h_2) gX7_road_X7_isPlace kX7_isPlace rfl rfl rfl ⟨(Nat.le_of_ble_eq_true rfl), (Nat.le_of_ble_eq_true rfl)⟩ rfl rfl hl.1 (Nat.le_of_ble_eq_true rfl) dX7_road_1 ⟨(Nat.le_of_ble_eq_true rfl), (Nat.le_of_ble_eq_true rfl)⟩ ?_
  refine lv_if_eq (tgt := 19) hx hb dX7_road_4 (by decide) (fun c_3 => ?_) (fun c_3 => ?_)
  · have hF := q_if_t c_3 hF
    refine lv_iconst (v := (-1)) hx hb dX7_road_19 (by decide) ?_
    cases hF
    exact r_iret hx hb hr hlk hS () rfl hP hD dX7_road_20
  · have hF := q_if_f c_3 hF
    refine lv_iload_n hx hb dX7_road_7 rfl (lv_at hl 2 rfl) ?_
    obtain ⟨r_4, h_5, hF⟩ := q_cl_s hF
    refine gcP (As := [.int a2]) (rest := []) F (m_X7_isPlace l a2 r_4 h_5) gX7_road_X7_isPlace kX7_isPlace rfl rfl rfl ⟨(Nat.le_of_ble_eq_true rfl), (Nat.le_of_ble_eq_true rfl)⟩ rfl rfl hl.1 (Nat.le_of_ble_eq_true rfl) dX7_road_8 ⟨(Nat.le_of_ble_eq_true rfl), (Nat.le_of_ble_eq_true rfl)⟩ ?_
    refine lv_if_eq (tgt := 19) hx hb dX7_road_11 (by decide) (fun c_6 => ?_) (fun c_6 => ?_)
    · have hF := q_if_t c_6 hF
      refine lv_iconst (v := (-1)) hx hb dX7_road_19 (by decide) ?_
      cases hF
      exact r_iret hx hb hr hlk hS () rfl hP hD dX7_road_20
    · have hF := q_if_f c_6 hF
      refine lv_iload_n hx hb dX7_road_14 rfl (lv_at hl 1 rfl) ?_
      refine lv_iload_n hx hb dX7_road_15 rfl (lv_at hl 2 rfl) ?_
      refine lv_icmp_ne (tgt := 21) hx hb dX7_road_16 (by decide) (fun c_7 => ?_) (fun c_7 => ?_)
      · have hF := q_if_f c_7 hF
        refine lv_iload_n hx hb dX7_road_21 rfl (lv_at hl 3 rfl) ?_
        refine lv_i2l (v := a3.toInt64) hx hb dX7_road_22 rfl ?_
        refine lv_lconst (v := 0) hx hb dX7_road_23 (by decide) ?_
        refine lv_ldc2 (v := 9) hx hb hown (hts (.constantLong RX7 76 (9)) (by decide +kernel)) dX7_road_24 ?_
        obtain ⟨r_8, h_9, hF⟩ := q_cl_s hF
        refine gcP (As := [.long a3.toInt64, .long 0, .long 9]) (rest := []) F (m_X7_in l a3.toInt64 (0 : Int64) (9 : Int64) r_8 h_9) gX7_road_X7_in kX7_in rfl rfl rfl ⟨(Nat.le_of_ble_eq_true rfl), (Nat.le_of_ble_eq_true rfl)⟩ rfl rfl hl.1 (Nat.le_of_ble_eq_true rfl) dX7_road_27 ⟨(Nat.le_of_ble_eq_true rfl), (Nat.le_of_ble_eq_true rfl)⟩ ?_
        refine lv_if_ne (tgt := 36) hx hb dX7_road_30 (by decide) (fun c_10 => ?_) (fun c_10 => ?_)
        · have hF := q_if_f c_10 hF
          refine lv_aload_n hx hb dX7_road_36 rfl (lv_at hl 0 rfl) ?_
          refine va_get (D := g.1) (ci := 7) (v := .ref (AM 0)) (C := RX7) (T := TX7) (N := 34) hx hb hts hi7 hown hK hP 0 rfl rfl 0 (by decide) (hts (.fieldLink RX7 7 "PanTalesModel" "roads" "[I") (by decide +kernel)) (fun _ h9 => h9) rfl dX7_road_37 ?_
          refine lv_bipush (v := 11) hx hb dX7_road_40 (by decide) ?_
          refine lv_iload_n hx hb dX7_road_42 rfl (lv_at hl 1 rfl) ?_
          refine lv_imul hx hb dX7_road_43 ?_
          refine lv_iload_n hx hb dX7_road_44 rfl (lv_at hl 2 rfl) ?_
          refine lv_iadd hx hb dX7_road_45 ?_
          obtain ⟨r_11, i_12, e_13, hF⟩ := q_rd_s hF
          refine r_iald (v := r_11) hx hb hK hP 1 rfl i_12 e_13 dX7_road_46 ?_
          refine lv_istore (lv' := [(4, .int r_11), (0, .ref qM), (1, .int a1), (2, .int a2), (3, .int a3)]) hx hb dX7_road_47 hl (by decide) rfl (fun ls hl => ?_)
          refine lv_aload_n hx hb dX7_road_49 rfl (lv_at hl 1 rfl) ?_
          refine va_get (D := g.1) (ci := 7) (v := .ref (AM 0)) (C := RX7) (T := TX7) (N := 34) hx hb hts hi7 hown hK hP 0 rfl rfl 0 (by decide) (hts (.fieldLink RX7 7 "PanTalesModel" "roads" "[I") (by decide +kernel)) (fun _ h9 => h9) rfl dX7_road_50 ?_
          refine lv_bipush (v := 11) hx hb dX7_road_53 (by decide) ?_
          refine lv_iload_n hx hb dX7_road_55 rfl (lv_at hl 2 rfl) ?_
          refine lv_imul hx hb dX7_road_56 ?_
          refine lv_iload_n hx hb dX7_road_57 rfl (lv_at hl 3 rfl) ?_
          refine lv_iadd hx hb dX7_road_58 ?_
          refine lv_iload_n hx hb dX7_road_59 rfl (lv_at hl 4 rfl) ?_
          obtain ⟨σM_14, i_15, e_16, hF⟩ := q_wr_s hF
          refine r_iast (f' := upd (σM 0) (((11 : Int32) * a1) + a2).toNatClampNeg a3) hx hb hK hP hD hS 1 rfl i_15 (fun _ _ => rfl) dX7_road_60 (fun H locs hP hD hS => ?_)
          have hP : va_P g.1 vwCl (wX7 g qM AM (q_up σM 0 (upd (σM 0) (((11 : Int32) * a1) + a2).toNatClampNeg a3)) ℓM) H := hP
          have hD : va_D Z (wX7 g qM AM (q_up σM 0 (upd (σM 0) (((11 : Int32) * a1) + a2).toNatClampNeg a3)) ℓM) := hD
          rw [e_16] at hP hD
          refine lv_aload_n hx hb dX7_road_61 rfl (lv_at hl 1 rfl) ?_
          refine va_get (D := g.1) (ci := 7) (v := .ref (AM 0)) (C := RX7) (T := TX7) (N := 34) hx hb hts hi7 hown hK hP 0 rfl rfl 0 (by decide) (hts (.fieldLink RX7 7 "PanTalesModel" "roads" "[I") (by decide +kernel)) (fun _ h9 => h9) rfl dX7_road_62 ?_
          refine lv_bipush (v := 11) hx hb dX7_road_65 (by decide) ?_
          refine lv_iload_n hx hb dX7_road_67 rfl (lv_at hl 3 rfl) ?_
          refine lv_imul hx hb dX7_road_68 ?_
          refine lv_iload_n hx hb dX7_road_69 rfl (lv_at hl 2 rfl) ?_
          refine lv_iadd hx hb dX7_road_70 ?_
          refine lv_iload_n hx hb dX7_road_71 rfl (lv_at hl 4 rfl) ?_
          obtain ⟨σM_17, i_18, e_19, hF⟩ := q_wr_s hF
          refine r_iast (f' := upd (σM_14 0) (((11 : Int32) * a2) + a1).toNatClampNeg a3) hx hb hK hP hD hS 1 rfl i_18 (fun _ _ => rfl) dX7_road_72 (fun H locs hP hD hS => ?_)
          have hP : va_P g.1 vwCl (wX7 g qM AM (q_up σM_14 0 (upd (σM_14 0) (((11 : Int32) * a2) + a1).toNatClampNeg a3)) ℓM) H := hP
          have hD : va_D Z (wX7 g qM AM (q_up σM_14 0 (upd (σM_14 0) (((11 : Int32) * a2) + a1).toNatClampNeg a3)) ℓM) := hD
          rw [e_19] at hP hD
          refine lv_iload hx hb dX7_road_73 (lv_at hl 0 rfl) ?_
          cases hF
          exact r_iret hx hb hr hlk hS () rfl hP hD dX7_road_75
        · have hF := q_if_t (by first | exact c_10 | exact Classical.not_not.mp c_10) hF
          refine lv_bipush (v := (-2)) hx hb dX7_road_33 (by decide) ?_
          cases hF
          exact r_iret hx hb hr hlk hS () rfl hP hD dX7_road_35
      · have hF := q_if_t (by first | exact c_7 | exact Classical.not_not.mp c_7) hF
        refine lv_iconst (v := (-1)) hx hb dX7_road_19 (by decide) ?_
        cases hF
        exact r_iret hx hb hr hlk hS () rfl hP hD dX7_road_20
set_option maxHeartbeats 4000000 in
set_option maxRecDepth 100000 in
theorem m_X7_house (l : Launch) (g : GT) (sz : Nat) (qM : Nat) (AM : Nat → Nat) (σM : qS) (ℓM : qL) (a1 : Int32) (a2 : Int32) (a3 : Int32) (rr : Int32) (σM' : qS) (hF : f_X7_house σM ℓM a1 a2 a3 = some (rr, σM')) : Ci l yX7_house wsX7_house { frames := 2, cells := 0, slots := 0, locals := 45 } g sz [.ref qM, .int a1, .int a2, .int a3] (wX7 g qM AM σM ℓM) rr (wX7 g qM AM σM' ℓM) := by
  refine gMet_i (cc := cX7_house) (maxL := 5) (ret := (some .int)) (by decide) rfl (Nat.le_of_ble_eq_true rfl) ?_
  intro p e s m args below meth c Z hx hb hr F hlk hnm hK hN hA H locs hP hD hS ls hl
  have hl : lv_has ls 5 [(0, .ref qM), (1, .int a1), (2, .int a2), (3, .int a3)] := hl
  have F : CallFix p m c cX7_house 5 s args wsX7_house RX7 := F
  have hts := F.2.2.2.2
  have hown : s.vm.findClass RX7 = some m.cls := F.2.2.2.1
  have hi7 : ∀ w ∈ u_ws RX7 TX7 34, w ∈ wsX7_house := by decide +kernel
  dsimp only [f_X7_house] at hF
  refine lv_iload_n hx hb dX7_house_0 rfl (lv_at hl 1 rfl) ?_
  obtain ⟨r_1, h_2, hF⟩ := q_cl_s hF
  refine gcP (As := [.int a1]) (rest := []) F (m_X7_isHouse l a1 r_1 h_2) gX7_house_X7_isHouse kX7_isHouse rfl rfl rfl ⟨(Nat.le_of_ble_eq_true rfl), (Nat.le_of_ble_eq_true rfl)⟩ rfl rfl hl.1 (Nat.le_of_ble_eq_true rfl) dX7_house_1 ⟨(Nat.le_of_ble_eq_true rfl), (Nat.le_of_ble_eq_true rfl)⟩ ?_
  refine lv_if_ne (tgt := 9) hx hb dX7_house_4 (by decide) (fun c_3 => ?_) (fun c_3 => ?_)
  · have hF := q_if_f c_3 hF
    refine lv_iload_n hx hb dX7_house_9 rfl (lv_at hl 2 rfl) ?_
    refine lv_i2l (v := a2.toInt64) hx hb dX7_house_10 rfl ?_
    refine lv_lconst (v := 0) hx hb dX7_house_11 (by decide) ?_
    refine lv_ldc2 (v := 9) hx hb hown (hts (.constantLong RX7 76 (9)) (by decide +kernel)) dX7_house_12 ?_
    obtain ⟨r_4, h_5, hF⟩ := q_cl_s hF
    refine gcP (As := [.long a2.toInt64, .long 0, .long 9]) (rest := []) F (m_X7_in l a2.toInt64 (0 : Int64) (9 : Int64) r_4 h_5) gX7_house_X7_in kX7_in rfl rfl rfl ⟨(Nat.le_of_ble_eq_true rfl), (Nat.le_of_ble_eq_true rfl)⟩ rfl rfl hl.1 (Nat.le_of_ble_eq_true rfl) dX7_house_15 ⟨(Nat.le_of_ble_eq_true rfl), (Nat.le_of_ble_eq_true rfl)⟩ ?_
    refine lv_if_eq (tgt := 31) hx hb dX7_house_18 (by decide) (fun c_6 => ?_) (fun c_6 => ?_)
    · have hF := q_if_t c_6 hF
      refine lv_bipush (v := (-2)) hx hb dX7_house_31 (by decide) ?_
      cases hF
      exact r_iret hx hb hr hlk hS () rfl hP hD dX7_house_33
    · have hF := q_if_f c_6 hF
      refine lv_iload_n hx hb dX7_house_21 rfl (lv_at hl 3 rfl) ?_
      refine lv_i2l (v := a3.toInt64) hx hb dX7_house_22 rfl ?_
      refine lv_lconst (v := 0) hx hb dX7_house_23 (by decide) ?_
      refine lv_lconst (v := 1) hx hb dX7_house_24 (by decide) ?_
      obtain ⟨r_7, h_8, hF⟩ := q_cl_s hF
      refine gcP (As := [.long a3.toInt64, .long 0, .long 1]) (rest := []) F (m_X7_in l a3.toInt64 (0 : Int64) (1 : Int64) r_7 h_8) gX7_house_X7_in kX7_in rfl rfl rfl ⟨(Nat.le_of_ble_eq_true rfl), (Nat.le_of_ble_eq_true rfl)⟩ rfl rfl hl.1 (Nat.le_of_ble_eq_true rfl) dX7_house_25 ⟨(Nat.le_of_ble_eq_true rfl), (Nat.le_of_ble_eq_true rfl)⟩ ?_
      refine lv_if_ne (tgt := 34) hx hb dX7_house_28 (by decide) (fun c_9 => ?_) (fun c_9 => ?_)
      · have hF := q_if_f c_9 hF
        refine lv_aload_n hx hb dX7_house_34 rfl (lv_at hl 0 rfl) ?_
        refine va_get (D := g.1) (ci := 7) (v := .ref (AM 1)) (C := RX7) (T := TX7) (N := 34) hx hb hts hi7 hown hK hP 0 rfl rfl 1 (by decide) (hts (.fieldLink RX7 13 "PanTalesModel" "doubt" "[I") (by decide +kernel)) (fun _ h9 => h9) rfl dX7_house_35 ?_
        refine lv_iload_n hx hb dX7_house_38 rfl (lv_at hl 1 rfl) ?_
        obtain ⟨r_10, i_11, e_12, hF⟩ := q_rd_s hF
        refine r_iald (v := r_10) hx hb hK hP 2 rfl i_11 e_12 dX7_house_39 ?_
        refine lv_istore (lv' := [(4, .int r_10), (0, .ref qM), (1, .int a1), (2, .int a2), (3, .int a3)]) hx hb dX7_house_40 hl (by decide) rfl (fun ls hl => ?_)
        refine lv_aload_n hx hb dX7_house_42 rfl (lv_at hl 1 rfl) ?_
        refine va_get (D := g.1) (ci := 7) (v := .ref (AM 1)) (C := RX7) (T := TX7) (N := 34) hx hb hts hi7 hown hK hP 0 rfl rfl 1 (by decide) (hts (.fieldLink RX7 13 "PanTalesModel" "doubt" "[I") (by decide +kernel)) (fun _ h9 => h9) rfl dX7_house_43 ?_
        refine lv_iload_n hx hb dX7_house_46 rfl (lv_at hl 2 rfl) ?_
        refine lv_iload_n hx hb dX7_house_47 rfl (lv_at hl 3 rfl) ?_
        obtain ⟨σM_13, i_14, e_15, hF⟩ := q_wr_s hF
        refine r_iast (f' := upd (σM 1) a1.toNatClampNeg a2) hx hb hK hP hD hS 2 rfl i_14 (fun _ _ => rfl) dX7_house_48 (fun H locs hP hD hS => ?_)
        have hP : va_P g.1 vwCl (wX7 g qM AM (q_up σM 1 (upd (σM 1) a1.toNatClampNeg a2)) ℓM) H := hP
        have hD : va_D Z (wX7 g qM AM (q_up σM 1 (upd (σM 1) a1.toNatClampNeg a2)) ℓM) := hD
        rw [e_15] at hP hD
        refine lv_aload_n hx hb dX7_house_49 rfl (lv_at hl 1 rfl) ?_
        refine va_get (D := g.1) (ci := 7) (v := .ref (AM 2)) (C := RX7) (T := TX7) (N := 34) hx hb hts hi7 hown hK hP 0 rfl rfl 2 (by decide) (hts (.fieldLink RX7 16 "PanTalesModel" "damp" "[I") (by decide +kernel)) (fun _ h9 => h9) rfl dX7_house_50 ?_
        refine lv_iload_n hx hb dX7_house_53 rfl (lv_at hl 2 rfl) ?_
        refine lv_iload_n hx hb dX7_house_54 rfl (lv_at hl 4 rfl) ?_
        obtain ⟨σM_16, i_17, e_18, hF⟩ := q_wr_s hF
        refine r_iast (f' := upd (σM_13 2) a1.toNatClampNeg a3) hx hb hK hP hD hS 3 rfl i_17 (fun _ _ => rfl) dX7_house_55 (fun H locs hP hD hS => ?_)
        have hP : va_P g.1 vwCl (wX7 g qM AM (q_up σM_13 2 (upd (σM_13 2) a1.toNatClampNeg a3)) ℓM) H := hP
        have hD : va_D Z (wX7 g qM AM (q_up σM_13 2 (upd (σM_13 2) a1.toNatClampNeg a3)) ℓM) := hD
        rw [e_18] at hP hD
        refine lv_iload hx hb dX7_house_56 (lv_at hl 0 rfl) ?_
        cases hF
        exact r_iret hx hb hr hlk hS () rfl hP hD dX7_house_58
      · have hF := q_if_t (by first | exact c_9 | exact Classical.not_not.mp c_9) hF
        refine lv_bipush (v := (-2)) hx hb dX7_house_31 (by decide) ?_
        cases hF
        exact r_iret hx hb hr hlk hS () rfl hP hD dX7_house_33
  · have hF := q_if_t (by first | exact c_3 | exact Classical.not_not.mp c_3) hF
    refine lv_iconst (v := (-1)) hx hb dX7_house_7 (by decide) ?_
    cases hF
    exact r_iret hx hb hr hlk hS () rfl hP hD dX7_house_8
set_option maxHeartbeats 4000000 in
set_option maxRecDepth 100000 in
theorem m_X7_tell (l : Launch) (g : GT) (sz : Nat) (qM : Nat) (AM : Nat → Nat) (σM : qS) (ℓM : qL) (a1 : Int32) (a2 : Int32) (rr : Int32) (σM' : qS) (hF : f_X7_tell σM ℓM a1 a2 = some (rr, σM')) : Ci l yX7_tell wsX7_tell { frames := 2, cells := 0, slots := 0, locals := 45 } g sz [.ref qM, .int a1, .int a2] (wX7 g qM AM σM ℓM) rr (wX7 g qM AM σM' ℓM) := by
  refine gMet_i (cc := cX7_tell) (maxL := 4) (ret := (some .int)) (by decide) rfl (Nat.le_of_ble_eq_true rfl) ?_
  intro p e s m args below meth c Z hx hb hr F hlk hnm hK hN hA H locs hP hD hS ls hl
  have hl : lv_has ls 4 [(0, .ref qM), (1, .int a1), (2, .int a2)] := hl
  have F : CallFix p m c cX7_tell 4 s args wsX7_tell RX7 := F
  have hts := F.2.2.2.2
  have hown : s.vm.findClass RX7 = some m.cls := F.2.2.2.1
  have hi7 : ∀ w ∈ u_ws RX7 TX7 34, w ∈ wsX7_tell := by decide +kernel
  dsimp only [f_X7_tell] at hF
  refine lv_iload_n hx hb dX7_tell_0 rfl (lv_at hl 1 rfl) ?_
  obtain ⟨r_1, h_2, hF⟩ := q_cl_s hF
  refine gcP (As := [.int a1]) (rest := []) F (m_X7_isHouse l a1 r_1 h_2) gX7_tell_X7_isHouse kX7_isHouse rfl rfl rfl ⟨(Nat.le_of_ble_eq_true rfl), (Nat.le_of_ble_eq_true rfl)⟩ rfl rfl hl.1 (Nat.le_of_ble_eq_true rfl) dX7_tell_1 ⟨(Nat.le_of_ble_eq_true rfl), (Nat.le_of_ble_eq_true rfl)⟩ ?_
  refine lv_if_eq (tgt := 21) hx hb dX7_tell_4 (by decide) (fun c_3 => ?_) (fun c_3 => ?_)
  · have hF := q_if_t c_3 hF
    refine lv_iconst (v := (-1)) hx hb dX7_tell_21 (by decide) ?_
    cases hF
    exact r_iret hx hb hr hlk hS () rfl hP hD dX7_tell_22
  · have hF := q_if_f c_3 hF
    refine lv_iload_n hx hb dX7_tell_7 rfl (lv_at hl 2 rfl) ?_
    refine lv_i2l (v := a2.toInt64) hx hb dX7_tell_8 rfl ?_
    refine lv_ldc2 (v := (-1)) hx hb hown (hts (.constantLong RX7 91 (-1)) (by decide +kernel)) dX7_tell_9 ?_
    refine lv_ldc2 (v := 9) hx hb hown (hts (.constantLong RX7 76 (9)) (by decide +kernel)) dX7_tell_12 ?_
    obtain ⟨r_4, h_5, hF⟩ := q_cl_s hF
    refine gcP (As := [.long a2.toInt64, .long (-1), .long 9]) (rest := []) F (m_X7_in l a2.toInt64 (-1 : Int64) (9 : Int64) r_4 h_5) gX7_tell_X7_in kX7_in rfl rfl rfl ⟨(Nat.le_of_ble_eq_true rfl), (Nat.le_of_ble_eq_true rfl)⟩ rfl rfl hl.1 (Nat.le_of_ble_eq_true rfl) dX7_tell_15 ⟨(Nat.le_of_ble_eq_true rfl), (Nat.le_of_ble_eq_true rfl)⟩ ?_
    refine lv_if_ne (tgt := 23) hx hb dX7_tell_18 (by decide) (fun c_6 => ?_) (fun c_6 => ?_)
    · have hF := q_if_f c_6 hF
      refine lv_aload_n hx hb dX7_tell_23 rfl (lv_at hl 0 rfl) ?_
      refine va_get (D := g.1) (ci := 7) (v := .ref (AM 3)) (C := RX7) (T := TX7) (N := 34) hx hb hts hi7 hown hK hP 0 rfl rfl 3 (by decide) (hts (.fieldLink RX7 19 "PanTalesModel" "believes" "[I") (by decide +kernel)) (fun _ h9 => h9) rfl dX7_tell_24 ?_
      refine lv_iload_n hx hb dX7_tell_27 rfl (lv_at hl 1 rfl) ?_
      obtain ⟨r_7, i_8, e_9, hF⟩ := q_rd_s hF
      refine r_iald (v := r_7) hx hb hK hP 4 rfl i_8 e_9 dX7_tell_28 ?_
      refine lv_istore_n (lv' := [(3, .int r_7), (0, .ref qM), (1, .int a1), (2, .int a2)]) hx hb dX7_tell_29 rfl hl (by decide) rfl (fun ls hl => ?_)
      refine lv_aload_n hx hb dX7_tell_30 rfl (lv_at hl 1 rfl) ?_
      refine va_get (D := g.1) (ci := 7) (v := .ref (AM 3)) (C := RX7) (T := TX7) (N := 34) hx hb hts hi7 hown hK hP 0 rfl rfl 3 (by decide) (hts (.fieldLink RX7 19 "PanTalesModel" "believes" "[I") (by decide +kernel)) (fun _ h9 => h9) rfl dX7_tell_31 ?_
      refine lv_iload_n hx hb dX7_tell_34 rfl (lv_at hl 2 rfl) ?_
      refine lv_iload_n hx hb dX7_tell_35 rfl (lv_at hl 3 rfl) ?_
      refine lv_if_ge (tgt := 44) hx hb dX7_tell_36 (by decide) (fun c_10 => ?_) (fun c_10 => ?_)
      · have hF := q_if_t c_10 hF
        refine lv_iload_n hx hb dX7_tell_44 rfl (lv_at hl 3 rfl) ?_
        obtain ⟨σM_11, i_12, e_13, hF⟩ := q_wr_s hF
        refine r_iast (f' := upd (σM 3) a1.toNatClampNeg a2) hx hb hK hP hD hS 4 rfl i_12 (fun _ _ => rfl) dX7_tell_45 (fun H locs hP hD hS => ?_)
        have hP : va_P g.1 vwCl (wX7 g qM AM (q_up σM 3 (upd (σM 3) a1.toNatClampNeg a2)) ℓM) H := hP
        have hD : va_D Z (wX7 g qM AM (q_up σM 3 (upd (σM 3) a1.toNatClampNeg a2)) ℓM) := hD
        rw [e_13] at hP hD
        refine lv_iload_n hx hb dX7_tell_46 rfl (lv_at hl 0 rfl) ?_
        cases hF
        exact r_iret hx hb hr hlk hS () rfl hP hD dX7_tell_47
      · have hF := q_if_f c_10 hF
        refine lv_bipush (v := (-6)) hx hb dX7_tell_39 (by decide) ?_
        refine lv_goto (tgt := 45) hx hb dX7_tell_41 (by decide) ?_
        obtain ⟨σM_14, i_15, e_16, hF⟩ := q_wr_s hF
        refine r_iast (f' := upd (σM 3) a1.toNatClampNeg (-6 : Int32)) hx hb hK hP hD hS 4 rfl i_15 (fun _ _ => rfl) dX7_tell_45 (fun H locs hP hD hS => ?_)
        have hP : va_P g.1 vwCl (wX7 g qM AM (q_up σM 3 (upd (σM 3) a1.toNatClampNeg (-6 : Int32))) ℓM) H := hP
        have hD : va_D Z (wX7 g qM AM (q_up σM 3 (upd (σM 3) a1.toNatClampNeg (-6 : Int32))) ℓM) := hD
        rw [e_16] at hP hD
        refine lv_iload_n hx hb dX7_tell_46 rfl (lv_at hl 0 rfl) ?_
        cases hF
        exact r_iret hx hb hr hlk hS () rfl hP hD dX7_tell_47
    · have hF := q_if_t (by first | exact c_6 | exact Classical.not_not.mp c_6) hF
      refine lv_iconst (v := (-1)) hx hb dX7_tell_21 (by decide) ?_
      cases hF
      exact r_iret hx hb hr hlk hS () rfl hP hD dX7_tell_22
set_option maxHeartbeats 4000000 in
set_option maxRecDepth 100000 in
theorem m_X7_fade (l : Launch) (g : GT) (sz : Nat) (qM : Nat) (AM : Nat → Nat) (σM : qS) (ℓM : qL) (a1 : Int32) (a2 : Int32) (rr : Int32) (σM' : qS) (hF : f_X7_fade σM ℓM a1 a2 = some (rr, σM')) : Ci l yX7_fade wsX7_fade { frames := 2, cells := 0, slots := 0, locals := 45 } g sz [.ref qM, .int a1, .int a2] (wX7 g qM AM σM ℓM) rr (wX7 g qM AM σM' ℓM) := by
  refine gMet_i (cc := cX7_fade) (maxL := 4) (ret := (some .int)) (by decide) rfl (Nat.le_of_ble_eq_true rfl) ?_
  intro p e s m args below meth c Z hx hb hr F hlk hnm hK hN hA H locs hP hD hS ls hl
  have hl : lv_has ls 4 [(0, .ref qM), (1, .int a1), (2, .int a2)] := hl
  have F : CallFix p m c cX7_fade 4 s args wsX7_fade RX7 := F
  have hts := F.2.2.2.2
  have hown : s.vm.findClass RX7 = some m.cls := F.2.2.2.1
  have hi7 : ∀ w ∈ u_ws RX7 TX7 34, w ∈ wsX7_fade := by decide +kernel
  dsimp only [f_X7_fade] at hF
  refine lv_iload_n hx hb dX7_fade_0 rfl (lv_at hl 1 rfl) ?_
  obtain ⟨r_1, h_2, hF⟩ := q_cl_s hF
  refine gcP (As := [.int a1]) (rest := []) F (m_X7_isTale l a1 r_1 h_2) gX7_fade_X7_isTale kX7_isTale rfl rfl rfl ⟨(Nat.le_of_ble_eq_true rfl), (Nat.le_of_ble_eq_true rfl)⟩ rfl rfl hl.1 (Nat.le_of_ble_eq_true rfl) dX7_fade_1 ⟨(Nat.le_of_ble_eq_true rfl), (Nat.le_of_ble_eq_true rfl)⟩ ?_
  refine lv_if_eq (tgt := 14) hx hb dX7_fade_4 (by decide) (fun c_3 => ?_) (fun c_3 => ?_)
  · have hF := q_if_t c_3 hF
    refine lv_iconst (v := (-1)) hx hb dX7_fade_14 (by decide) ?_
    cases hF
    exact r_iret hx hb hr hlk hS () rfl hP hD dX7_fade_15
  · have hF := q_if_f c_3 hF
    refine lv_iload_n hx hb dX7_fade_7 rfl (lv_at hl 2 rfl) ?_
    obtain ⟨r_4, h_5, hF⟩ := q_cl_s hF
    refine gcP (As := [.int a2]) (rest := []) F (m_X7_isTale l a2 r_4 h_5) gX7_fade_X7_isTale kX7_isTale rfl rfl rfl ⟨(Nat.le_of_ble_eq_true rfl), (Nat.le_of_ble_eq_true rfl)⟩ rfl rfl hl.1 (Nat.le_of_ble_eq_true rfl) dX7_fade_8 ⟨(Nat.le_of_ble_eq_true rfl), (Nat.le_of_ble_eq_true rfl)⟩ ?_
    refine lv_if_ne (tgt := 16) hx hb dX7_fade_11 (by decide) (fun c_6 => ?_) (fun c_6 => ?_)
    · have hF := q_if_f c_6 hF
      refine lv_aload_n hx hb dX7_fade_16 rfl (lv_at hl 0 rfl) ?_
      refine va_get (D := g.1) (ci := 7) (v := .ref (AM 4)) (C := RX7) (T := TX7) (N := 34) hx hb hts hi7 hown hK hP 0 rfl rfl 4 (by decide) (hts (.fieldLink RX7 22 "PanTalesModel" "fades" "[I") (by decide +kernel)) (fun _ h9 => h9) rfl dX7_fade_17 ?_
      refine lv_iload_n hx hb dX7_fade_20 rfl (lv_at hl 1 rfl) ?_
      obtain ⟨r_7, i_8, e_9, hF⟩ := q_rd_s hF
      refine r_iald (v := r_7) hx hb hK hP 5 rfl i_8 e_9 dX7_fade_21 ?_
      refine lv_istore_n (lv' := [(3, .int r_7), (0, .ref qM), (1, .int a1), (2, .int a2)]) hx hb dX7_fade_22 rfl hl (by decide) rfl (fun ls hl => ?_)
      refine lv_aload_n hx hb dX7_fade_23 rfl (lv_at hl 1 rfl) ?_
      refine va_get (D := g.1) (ci := 7) (v := .ref (AM 4)) (C := RX7) (T := TX7) (N := 34) hx hb hts hi7 hown hK hP 0 rfl rfl 4 (by decide) (hts (.fieldLink RX7 22 "PanTalesModel" "fades" "[I") (by decide +kernel)) (fun _ h9 => h9) rfl dX7_fade_24 ?_
      refine lv_iload_n hx hb dX7_fade_27 rfl (lv_at hl 2 rfl) ?_
      refine lv_iload_n hx hb dX7_fade_28 rfl (lv_at hl 3 rfl) ?_
      obtain ⟨σM_10, i_11, e_12, hF⟩ := q_wr_s hF
      refine r_iast (f' := upd (σM 4) a1.toNatClampNeg a2) hx hb hK hP hD hS 5 rfl i_11 (fun _ _ => rfl) dX7_fade_29 (fun H locs hP hD hS => ?_)
      have hP : va_P g.1 vwCl (wX7 g qM AM (q_up σM 4 (upd (σM 4) a1.toNatClampNeg a2)) ℓM) H := hP
      have hD : va_D Z (wX7 g qM AM (q_up σM 4 (upd (σM 4) a1.toNatClampNeg a2)) ℓM) := hD
      rw [e_12] at hP hD
      refine lv_iload_n hx hb dX7_fade_30 rfl (lv_at hl 0 rfl) ?_
      cases hF
      exact r_iret hx hb hr hlk hS () rfl hP hD dX7_fade_31
    · have hF := q_if_t (by first | exact c_6 | exact Classical.not_not.mp c_6) hF
      refine lv_iconst (v := (-1)) hx hb dX7_fade_14 (by decide) ?_
      cases hF
      exact r_iret hx hb hr hlk hS () rfl hP hD dX7_fade_15
set_option maxHeartbeats 4000000 in
set_option maxRecDepth 100000 in
theorem m_X7_say (l : Launch) (g : GT) (sz : Nat) (qM : Nat) (AM : Nat → Nat) (σM : qS) (ℓM : qL) (a1 : Int32) (rr : Int32) (σM' : qS) (hF : f_X7_say σM ℓM a1 = some (rr, σM')) : Ci l yX7_say wsX7_say { frames := 1, cells := 0, slots := 0, locals := 25 } g sz [.ref qM, .int a1] (wX7 g qM AM σM ℓM) rr (wX7 g qM AM σM' ℓM) := by
  refine gMet_i (cc := cX7_say) (maxL := 2) (ret := (some .int)) (by decide) rfl (Nat.le_of_ble_eq_true rfl) ?_
  intro p e s m args below meth c Z hx hb hr F hlk hnm hK hN hA H locs hP hD hS ls hl
  have hl : lv_has ls 2 [(0, .ref qM), (1, .int a1)] := hl
  have F : CallFix p m c cX7_say 2 s args wsX7_say RX7 := F
  have hts := F.2.2.2.2
  have hown : s.vm.findClass RX7 = some m.cls := F.2.2.2.1
  have hi7 : ∀ w ∈ u_ws RX7 TX7 34, w ∈ wsX7_say := by decide +kernel
  dsimp only [f_X7_say] at hF
  refine lv_iload_n hx hb dX7_say_0 rfl (lv_at hl 1 rfl) ?_
  refine lv_i2l (v := a1.toInt64) hx hb dX7_say_1 rfl ?_
  refine lv_ldc2 (v := 33) hx hb hown (hts (.constantLong RX7 96 (33)) (by decide +kernel)) dX7_say_2 ?_
  refine lv_ldc2 (v := 126) hx hb hown (hts (.constantLong RX7 98 (126)) (by decide +kernel)) dX7_say_5 ?_
  obtain ⟨r_1, h_2, hF⟩ := q_cl_s hF
  refine gcP (As := [.long a1.toInt64, .long 33, .long 126]) (rest := []) F (m_X7_in l a1.toInt64 (33 : Int64) (126 : Int64) r_1 h_2) gX7_say_X7_in kX7_in rfl rfl rfl ⟨(Nat.le_of_ble_eq_true rfl), (Nat.le_of_ble_eq_true rfl)⟩ rfl rfl hl.1 (Nat.le_of_ble_eq_true rfl) dX7_say_8 ⟨(Nat.le_of_ble_eq_true rfl), (Nat.le_of_ble_eq_true rfl)⟩ ?_
  refine lv_if_ne (tgt := 17) hx hb dX7_say_11 (by decide) (fun c_3 => ?_) (fun c_3 => ?_)
  · have hF := q_if_f c_3 hF
    refine lv_aload_n hx hb dX7_say_17 rfl (lv_at hl 0 rfl) ?_
    refine va_get (D := g.1) (ci := 7) (v := .int (σM 99 13)) (C := RX7) (T := TX7) (N := 34) hx hb hts hi7 hown hK hP 0 rfl rfl 13 (by decide) (hts (.fieldLink RX7 100 "PanTalesModel" "padMany" "I") (by decide +kernel)) (fun _ h9 => h9) rfl dX7_say_18 ?_
    refine lv_bipush (v := 60) hx hb dX7_say_21 (by decide) ?_
    refine lv_icmp_ne (tgt := 29) hx hb dX7_say_23 (by decide) (fun c_4 => ?_) (fun c_4 => ?_)
    · have hF := q_if_f c_4 hF
      refine lv_aload_n hx hb dX7_say_29 rfl (lv_at hl 0 rfl) ?_
      refine va_get (D := g.1) (ci := 7) (v := .ref (AM 12)) (C := RX7) (T := TX7) (N := 34) hx hb hts hi7 hown hK hP 0 rfl rfl 12 (by decide) (hts (.fieldLink RX7 31 "PanTalesModel" "pad" "[I") (by decide +kernel)) (fun _ h9 => h9) rfl dX7_say_30 ?_
      refine lv_aload_n hx hb dX7_say_33 rfl (lv_at hl 0 rfl) ?_
      refine va_get (D := g.1) (ci := 7) (v := .int (σM 99 13)) (C := RX7) (T := TX7) (N := 34) hx hb hts hi7 hown hK hP 0 rfl rfl 13 (by decide) (hts (.fieldLink RX7 100 "PanTalesModel" "padMany" "I") (by decide +kernel)) (fun _ h9 => h9) rfl dX7_say_34 ?_
      refine lv_iload_n hx hb dX7_say_37 rfl (lv_at hl 1 rfl) ?_
      obtain ⟨σM_5, i_6, e_7, hF⟩ := q_wr_s hF
      refine r_iast (f' := upd (σM 12) (σM 99 13).toNatClampNeg a1) hx hb hK hP hD hS 8 rfl i_6 (fun _ _ => rfl) dX7_say_38 (fun H locs hP hD hS => ?_)
      have hP : va_P g.1 vwCl (wX7 g qM AM (q_up σM 12 (upd (σM 12) (σM 99 13).toNatClampNeg a1)) ℓM) H := hP
      have hD : va_D Z (wX7 g qM AM (q_up σM 12 (upd (σM 12) (σM 99 13).toNatClampNeg a1)) ℓM) := hD
      rw [e_7] at hP hD
      refine lv_aload_n hx hb dX7_say_39 rfl (lv_at hl 0 rfl) ?_
      refine lv_dup hx hb dX7_say_40 rfl ?_
      refine va_get (D := g.1) (ci := 7) (v := .int (σM_5 99 13)) (C := RX7) (T := TX7) (N := 34) hx hb hts hi7 hown hK hP 0 rfl rfl 13 (by decide) (hts (.fieldLink RX7 100 "PanTalesModel" "padMany" "I") (by decide +kernel)) (fun _ h9 => h9) rfl dX7_say_41 ?_
      refine lv_iconst (v := 1) hx hb dX7_say_44 (by decide) ?_
      refine lv_iadd hx hb dX7_say_45 ?_
      obtain ⟨σM_8, e_9, hF⟩ := q_bd_s hF
      refine va_put (D := g.1) (ci := 7) (v := .int ((σM_5 99 13) + 1)) (ty := .int) (C := RX7) (T := TX7) (N := 34) hx hb hts hi7 tyX7 tyX7_ok nmX7 hown hK hP hD hS 0 rfl rfl 13 (by decide) (hts (.fieldLink RX7 100 "PanTalesModel" "padMany" "I") (by decide +kernel)) (fun _ h9 => h9) rfl (by decide +kernel) rfl rfl (Nat.le_of_ble_eq_true rfl) dX7_say_46 (fun H locs hP hD hS => ?_)
      have hP : va_P g.1 vwCl (wX7 g qM AM (q_pt σM_5 13 ((σM_5 99 13) + 1)) ℓM) H := hP
      have hD : va_D Z (wX7 g qM AM (q_pt σM_5 13 ((σM_5 99 13) + 1)) ℓM) := hD
      rw [e_9] at hP hD
      refine lv_aload_n hx hb dX7_say_49 rfl (lv_at hl 0 rfl) ?_
      refine va_get (D := g.1) (ci := 7) (v := .int (σM_8 99 13)) (C := RX7) (T := TX7) (N := 34) hx hb hts hi7 hown hK hP 0 rfl rfl 13 (by decide) (hts (.fieldLink RX7 100 "PanTalesModel" "padMany" "I") (by decide +kernel)) (fun _ h9 => h9) rfl dX7_say_50 ?_
      cases hF
      exact r_iret hx hb hr hlk hS () rfl hP hD dX7_say_53
    · have hF := q_if_t (by first | exact c_4 | exact Classical.not_not.mp c_4) hF
      refine lv_bipush (v := (-4)) hx hb dX7_say_26 (by decide) ?_
      cases hF
      exact r_iret hx hb hr hlk hS () rfl hP hD dX7_say_28
  · have hF := q_if_t (by first | exact c_3 | exact Classical.not_not.mp c_3) hF
    refine lv_bipush (v := (-2)) hx hb dX7_say_14 (by decide) ?_
    cases hF
    exact r_iret hx hb hr hlk hS () rfl hP hD dX7_say_16
set_option maxHeartbeats 4000000 in
set_option maxRecDepth 100000 in
theorem m_X7_wipe (l : Launch) (g : GT) (sz : Nat) (qM : Nat) (AM : Nat → Nat) (σM : qS) (ℓM : qL) (rr : Int32) (σM' : qS) (hF : f_X7_wipe σM ℓM = some (rr, σM')) : Ci l yX7_wipe wsX7_wipe { frames := 0, cells := 0, slots := 0, locals := 0 } g sz [.ref qM] (wX7 g qM AM σM ℓM) rr (wX7 g qM AM σM' ℓM) := by
  refine gMet_i (cc := cX7_wipe) (maxL := 2) (ret := (some .int)) (by decide) rfl (Nat.le_of_ble_eq_true rfl) ?_
  intro p e s m args below meth c Z hx hb hr F hlk hnm hK hN hA H locs hP hD hS ls hl
  have hl : lv_has ls 2 [(0, .ref qM)] := hl
  have F : CallFix p m c cX7_wipe 2 s args wsX7_wipe RX7 := F
  have hts := F.2.2.2.2
  have hown : s.vm.findClass RX7 = some m.cls := F.2.2.2.1
  have hi7 : ∀ w ∈ u_ws RX7 TX7 34, w ∈ wsX7_wipe := by decide +kernel
  dsimp only [f_X7_wipe] at hF
  refine lv_aload_n hx hb dX7_wipe_0 rfl (lv_at hl 0 rfl) ?_
  refine va_get (D := g.1) (ci := 7) (v := .int (σM 99 13)) (C := RX7) (T := TX7) (N := 34) hx hb hts hi7 hown hK hP 0 rfl rfl 13 (by decide) (hts (.fieldLink RX7 100 "PanTalesModel" "padMany" "I") (by decide +kernel)) (fun _ h9 => h9) rfl dX7_wipe_1 ?_
  obtain ⟨v1_1, e_2, hF⟩ := q_bd_s hF
  refine gtop e_2 ?_
  refine lv_istore_n (lv' := [(1, .int v1_1), (0, .ref qM)]) hx hb dX7_wipe_4 rfl hl (by decide) rfl (fun ls hl => ?_)
  refine lv_aload_n hx hb dX7_wipe_5 rfl (lv_at hl 1 rfl) ?_
  refine lv_iconst (v := 0) hx hb dX7_wipe_6 (by decide) ?_
  obtain ⟨σM_3, e_4, hF⟩ := q_bd_s hF
  refine va_put (D := g.1) (ci := 7) (v := .int 0) (ty := .int) (C := RX7) (T := TX7) (N := 34) hx hb hts hi7 tyX7 tyX7_ok nmX7 hown hK hP hD hS 0 rfl rfl 13 (by decide) (hts (.fieldLink RX7 100 "PanTalesModel" "padMany" "I") (by decide +kernel)) (fun _ h9 => h9) rfl (by decide +kernel) rfl rfl (Nat.le_of_ble_eq_true rfl) dX7_wipe_7 (fun H locs hP hD hS => ?_)
  have hP : va_P g.1 vwCl (wX7 g qM AM (q_pt σM 13 (0 : Int32)) ℓM) H := hP
  have hD : va_D Z (wX7 g qM AM (q_pt σM 13 (0 : Int32)) ℓM) := hD
  rw [e_4] at hP hD
  refine lv_iload_n hx hb dX7_wipe_10 rfl (lv_at hl 0 rfl) ?_
  cases hF
  exact r_iret hx hb hr hlk hS () rfl hP hD dX7_wipe_11
set_option maxHeartbeats 4000000 in
set_option maxRecDepth 100000 in
theorem m_X7_close (l : Launch) (g : GT) (sz : Nat) (qM : Nat) (AM : Nat → Nat) (σM : qS) (ℓM : qL) (a1 : Int32) (a2 : Int32) (rr : Int32) (σM' : qS) (hF : f_X7_close σM ℓM a1 a2 = some (rr, σM')) : Ci l yX7_close wsX7_close { frames := 0, cells := 0, slots := 0, locals := 0 } g sz [.ref qM, .int a1, .int a2] (wX7 g qM AM σM ℓM) rr (wX7 g qM AM σM' ℓM) := by
  refine gMet_i (cc := cX7_close) (maxL := 3) (ret := (some .int)) (by decide) rfl (Nat.le_of_ble_eq_true rfl) ?_
  intro p e s m args below meth c Z hx hb hr F hlk hnm hK hN hA H locs hP hD hS ls hl
  have hl : lv_has ls 3 [(0, .ref qM), (1, .int a1), (2, .int a2)] := hl
  have F : CallFix p m c cX7_close 3 s args wsX7_close RX7 := F
  have hts := F.2.2.2.2
  have hown : s.vm.findClass RX7 = some m.cls := F.2.2.2.1
  have hi7 : ∀ w ∈ u_ws RX7 TX7 34, w ∈ wsX7_close := by decide +kernel
  dsimp only [f_X7_close] at hF
  refine lv_aload_n hx hb dX7_close_0 rfl (lv_at hl 0 rfl) ?_
  refine va_get (D := g.1) (ci := 7) (v := .ref (AM 14)) (C := RX7) (T := TX7) (N := 34) hx hb hts hi7 hown hK hP 0 rfl rfl 14 (by decide) (hts (.fieldLink RX7 34 "PanTalesModel" "act" "[I") (by decide +kernel)) (fun _ h9 => h9) rfl dX7_close_1 ?_
  refine lv_aload_n hx hb dX7_close_4 rfl (lv_at hl 0 rfl) ?_
  refine va_get (D := g.1) (ci := 7) (v := .int (σM 99 17)) (C := RX7) (T := TX7) (N := 34) hx hb hts hi7 hown hK hP 0 rfl rfl 17 (by decide) (hts (.fieldLink RX7 103 "PanTalesModel" "acts" "I") (by decide +kernel)) (fun _ h9 => h9) rfl dX7_close_5 ?_
  refine lv_iload_n hx hb dX7_close_8 rfl (lv_at hl 1 rfl) ?_
  obtain ⟨σM_1, i_2, e_3, hF⟩ := q_wr_s hF
  refine r_iast (f' := upd (σM 14) (σM 99 17).toNatClampNeg a1) hx hb hK hP hD hS 9 rfl i_2 (fun _ _ => rfl) dX7_close_9 (fun H locs hP hD hS => ?_)
  have hP : va_P g.1 vwCl (wX7 g qM AM (q_up σM 14 (upd (σM 14) (σM 99 17).toNatClampNeg a1)) ℓM) H := hP
  have hD : va_D Z (wX7 g qM AM (q_up σM 14 (upd (σM 14) (σM 99 17).toNatClampNeg a1)) ℓM) := hD
  rw [e_3] at hP hD
  refine lv_aload_n hx hb dX7_close_10 rfl (lv_at hl 0 rfl) ?_
  refine va_get (D := g.1) (ci := 7) (v := .ref (AM 16)) (C := RX7) (T := TX7) (N := 34) hx hb hts hi7 hown hK hP 0 rfl rfl 16 (by decide) (hts (.fieldLink RX7 40 "PanTalesModel" "much" "[I") (by decide +kernel)) (fun _ h9 => h9) rfl dX7_close_11 ?_
  refine lv_aload_n hx hb dX7_close_14 rfl (lv_at hl 0 rfl) ?_
  refine va_get (D := g.1) (ci := 7) (v := .int (σM_1 99 17)) (C := RX7) (T := TX7) (N := 34) hx hb hts hi7 hown hK hP 0 rfl rfl 17 (by decide) (hts (.fieldLink RX7 103 "PanTalesModel" "acts" "I") (by decide +kernel)) (fun _ h9 => h9) rfl dX7_close_15 ?_
  refine lv_iload_n hx hb dX7_close_18 rfl (lv_at hl 2 rfl) ?_
  obtain ⟨σM_4, i_5, e_6, hF⟩ := q_wr_s hF
  refine r_iast (f' := upd (σM_1 16) (σM_1 99 17).toNatClampNeg a2) hx hb hK hP hD hS 11 rfl i_5 (fun _ _ => rfl) dX7_close_19 (fun H locs hP hD hS => ?_)
  have hP : va_P g.1 vwCl (wX7 g qM AM (q_up σM_1 16 (upd (σM_1 16) (σM_1 99 17).toNatClampNeg a2)) ℓM) H := hP
  have hD : va_D Z (wX7 g qM AM (q_up σM_1 16 (upd (σM_1 16) (σM_1 99 17).toNatClampNeg a2)) ℓM) := hD
  rw [e_6] at hP hD
  refine lv_aload_n hx hb dX7_close_20 rfl (lv_at hl 0 rfl) ?_
  refine lv_dup hx hb dX7_close_21 rfl ?_
  refine va_get (D := g.1) (ci := 7) (v := .int (σM_4 99 17)) (C := RX7) (T := TX7) (N := 34) hx hb hts hi7 hown hK hP 0 rfl rfl 17 (by decide) (hts (.fieldLink RX7 103 "PanTalesModel" "acts" "I") (by decide +kernel)) (fun _ h9 => h9) rfl dX7_close_22 ?_
  refine lv_iconst (v := 1) hx hb dX7_close_25 (by decide) ?_
  refine lv_iadd hx hb dX7_close_26 ?_
  obtain ⟨σM_7, e_8, hF⟩ := q_bd_s hF
  refine va_put (D := g.1) (ci := 7) (v := .int ((σM_4 99 17) + 1)) (ty := .int) (C := RX7) (T := TX7) (N := 34) hx hb hts hi7 tyX7 tyX7_ok nmX7 hown hK hP hD hS 0 rfl rfl 17 (by decide) (hts (.fieldLink RX7 103 "PanTalesModel" "acts" "I") (by decide +kernel)) (fun _ h9 => h9) rfl (by decide +kernel) rfl rfl (Nat.le_of_ble_eq_true rfl) dX7_close_27 (fun H locs hP hD hS => ?_)
  have hP : va_P g.1 vwCl (wX7 g qM AM (q_pt σM_4 17 ((σM_4 99 17) + 1)) ℓM) H := hP
  have hD : va_D Z (wX7 g qM AM (q_pt σM_4 17 ((σM_4 99 17) + 1)) ℓM) := hD
  rw [e_8] at hP hD
  refine lv_iconst (v := 0) hx hb dX7_close_30 (by decide) ?_
  cases hF
  exact r_iret hx hb hr hlk hS () rfl hP hD dX7_close_31
set_option maxHeartbeats 4000000 in
set_option maxRecDepth 100000 in
theorem m_X7_begin (l : Launch) (g : GT) (sz : Nat) (qM : Nat) (AM : Nat → Nat) (σM : qS) (ℓM : qL) (a1 : Int32) (rr : Int32) (σM' : qS) (hF : f_X7_begin σM ℓM a1 = some (rr, σM')) : Ci l yX7_begin wsX7_begin { frames := 1, cells := 0, slots := 0, locals := 25 } g sz [.ref qM, .int a1] (wX7 g qM AM σM ℓM) rr (wX7 g qM AM σM' ℓM) := by
  refine gMet_i (cc := cX7_begin) (maxL := 3) (ret := (some .int)) (by decide) rfl (Nat.le_of_ble_eq_true rfl) ?_
  intro p e s m args below meth c Z hx hb hr F hlk hnm hK hN hA H locs hP hD hS ls hl
  have hl : lv_has ls 3 [(0, .ref qM), (1, .int a1)] := hl
  have F : CallFix p m c cX7_begin 3 s args wsX7_begin RX7 := F
  have hts := F.2.2.2.2
  have hown : s.vm.findClass RX7 = some m.cls := F.2.2.2.1
  have hi7 : ∀ w ∈ u_ws RX7 TX7 34, w ∈ wsX7_begin := by decide +kernel
  dsimp only [f_X7_begin] at hF
  refine lv_iload_n hx hb dX7_begin_0 rfl (lv_at hl 1 rfl) ?_
  refine lv_i2l (v := a1.toInt64) hx hb dX7_begin_1 rfl ?_
  refine lv_ldc2 (v := 65) hx hb hown (hts (.constantLong RX7 106 (65)) (by decide +kernel)) dX7_begin_2 ?_
  refine lv_ldc2 (v := 74) hx hb hown (hts (.constantLong RX7 108 (74)) (by decide +kernel)) dX7_begin_5 ?_
  obtain ⟨r_1, h_2, hF⟩ := q_cl_s hF
  refine gcP (As := [.long a1.toInt64, .long 65, .long 74]) (rest := []) F (m_X7_in l a1.toInt64 (65 : Int64) (74 : Int64) r_1 h_2) gX7_begin_X7_in kX7_in rfl rfl rfl ⟨(Nat.le_of_ble_eq_true rfl), (Nat.le_of_ble_eq_true rfl)⟩ rfl rfl hl.1 (Nat.le_of_ble_eq_true rfl) dX7_begin_8 ⟨(Nat.le_of_ble_eq_true rfl), (Nat.le_of_ble_eq_true rfl)⟩ ?_
  refine lv_istore_n (lv' := [(2, .int r_1), (0, .ref qM), (1, .int a1)]) hx hb dX7_begin_11 rfl hl (by decide) rfl (fun ls hl => ?_)
  refine lv_aload_n hx hb dX7_begin_12 rfl (lv_at hl 1 rfl) ?_
  refine va_get (D := g.1) (ci := 7) (v := .ref (AM 15)) (C := RX7) (T := TX7) (N := 34) hx hb hts hi7 hown hK hP 0 rfl rfl 15 (by decide) (hts (.fieldLink RX7 37 "PanTalesModel" "which" "[I") (by decide +kernel)) (fun _ h9 => h9) rfl dX7_begin_13 ?_
  refine lv_aload_n hx hb dX7_begin_16 rfl (lv_at hl 1 rfl) ?_
  refine va_get (D := g.1) (ci := 7) (v := .int (σM 99 17)) (C := RX7) (T := TX7) (N := 34) hx hb hts hi7 hown hK hP 0 rfl rfl 17 (by decide) (hts (.fieldLink RX7 103 "PanTalesModel" "acts" "I") (by decide +kernel)) (fun _ h9 => h9) rfl dX7_begin_17 ?_
  refine lv_iload_n hx hb dX7_begin_20 rfl (lv_at hl 0 rfl) ?_
  refine lv_if_eq (tgt := 31) hx hb dX7_begin_21 (by decide) (fun c_3 => ?_) (fun c_3 => ?_)
  · have hF := q_if_t c_3 hF
    refine lv_bipush (v := 10) hx hb dX7_begin_31 (by decide) ?_
    obtain ⟨σM_4, i_5, e_6, hF⟩ := q_wr_s hF
    refine r_iast (f' := upd (σM 15) (σM 99 17).toNatClampNeg (10 : Int32)) hx hb hK hP hD hS 10 rfl i_5 (fun _ _ => rfl) dX7_begin_33 (fun H locs hP hD hS => ?_)
    have hP : va_P g.1 vwCl (wX7 g qM AM (q_up σM 15 (upd (σM 15) (σM 99 17).toNatClampNeg (10 : Int32))) ℓM) H := hP
    have hD : va_D Z (wX7 g qM AM (q_up σM 15 (upd (σM 15) (σM 99 17).toNatClampNeg (10 : Int32))) ℓM) := hD
    rw [e_6] at hP hD
    refine lv_iload_n hx hb dX7_begin_34 rfl (lv_at hl 2 rfl) ?_
    by_cases k_7 : a1 = 42
    · have hF := q_if_t k_7 hF
      refine gtop (y := 42) k_7 ?_
      refine lv_lookup (tgt := 78) (off := 43) hx hb dX7_begin_35 (by decide) (by decide) (by decide) ?_
      refine lv_aload_n hx hb dX7_begin_78 rfl (lv_at hl 1 rfl) ?_
      refine lv_iconst (v := 2) hx hb dX7_begin_79 (by decide) ?_
      refine lv_iconst (v := 0) hx hb dX7_begin_80 (by decide) ?_
      obtain ⟨⟨r_8, σM_9⟩, h_10, hF⟩ := q_cl_s hF
      try dsimp only at hF
      refine gcV_i (As := [.int 2, .int 0]) (rest := []) (ci := 7) (q := (RX7, TX7, 34)) F hK hN hP hD hS hA (m_X7_close l g H.size qM AM σM_4 ℓM (2 : Int32) (0 : Int32) r_8 σM_9 h_10) gX7_begin_X7_close kX7_close rfl rfl rfl rfl ⟨(Nat.le_of_ble_eq_true rfl), (Nat.le_of_ble_eq_true rfl)⟩ [0, 1, 2, 3, 4, 5, 6, 7, 8, 9, 10, 11, 12, 13, 14, 15, 16, 17, 18, 19, 20] [] rfl rfl rfl (by decide) rfl rfl rfl rfl rfl hl.1 (Nat.le_of_ble_eq_true rfl) dX7_begin_81 ⟨(Nat.le_of_ble_eq_true rfl), (Nat.le_of_ble_eq_true rfl)⟩ (fun r_w u_w H locs hw hP hD hS => ?_)
      have hP : va_P g.1 vwCl (wX7 g qM AM σM_9 ℓM) H := hP
      have hD : va_D Z (wX7 g qM AM σM_9 ℓM) := hD
      obtain rfl : r_8 = r_w := hw.symm
      cases hF
      exact r_iret hx hb hr hlk hS () rfl hP hD dX7_begin_84
    have hF := q_if_f k_7 hF
    by_cases k_12 : a1 = 46
    · have hF := q_if_t k_12 hF
      refine gtop (y := 46) k_12 ?_
      refine lv_lookup (tgt := 92) (off := 57) hx hb dX7_begin_35 (by decide) (by decide) (by decide) ?_
      refine lv_aload_n hx hb dX7_begin_92 rfl (lv_at hl 1 rfl) ?_
      refine lv_iconst (v := 4) hx hb dX7_begin_93 (by decide) ?_
      refine lv_iconst (v := 0) hx hb dX7_begin_94 (by decide) ?_
      obtain ⟨⟨r_13, σM_14⟩, h_15, hF⟩ := q_cl_s hF
      try dsimp only at hF
      refine gcV_i (As := [.int 4, .int 0]) (rest := []) (ci := 7) (q := (RX7, TX7, 34)) F hK hN hP hD hS hA (m_X7_close l g H.size qM AM σM_4 ℓM (4 : Int32) (0 : Int32) r_13 σM_14 h_15) gX7_begin_X7_close kX7_close rfl rfl rfl rfl ⟨(Nat.le_of_ble_eq_true rfl), (Nat.le_of_ble_eq_true rfl)⟩ [0, 1, 2, 3, 4, 5, 6, 7, 8, 9, 10, 11, 12, 13, 14, 15, 16, 17, 18, 19, 20] [] rfl rfl rfl (by decide) rfl rfl rfl rfl rfl hl.1 (Nat.le_of_ble_eq_true rfl) dX7_begin_95 ⟨(Nat.le_of_ble_eq_true rfl), (Nat.le_of_ble_eq_true rfl)⟩ (fun r_w u_w H locs hw hP hD hS => ?_)
      have hP : va_P g.1 vwCl (wX7 g qM AM σM_14 ℓM) H := hP
      have hD : va_D Z (wX7 g qM AM σM_14 ℓM) := hD
      obtain rfl : r_13 = r_w := hw.symm
      cases hF
      exact r_iret hx hb hr hlk hS () rfl hP hD dX7_begin_98
    have hF := q_if_f k_12 hF
    by_cases k_17 : a1 = 61
    · have hF := q_if_t k_17 hF
      refine gtop (y := 61) k_17 ?_
      refine lv_lookup (tgt := 76) (off := 41) hx hb dX7_begin_35 (by decide) (by decide) (by decide) ?_
      refine lv_iconst (v := 1) hx hb dX7_begin_76 (by decide) ?_
      cases hF
      exact r_iret hx hb hr hlk hS () rfl hP hD dX7_begin_77
    have hF := q_if_f k_17 hF
    by_cases k_18 : a1 = 126
    · have hF := q_if_t k_18 hF
      refine gtop (y := 126) k_18 ?_
      refine lv_lookup (tgt := 85) (off := 50) hx hb dX7_begin_35 (by decide) (by decide) (by decide) ?_
      refine lv_aload_n hx hb dX7_begin_85 rfl (lv_at hl 1 rfl) ?_
      refine lv_iconst (v := 3) hx hb dX7_begin_86 (by decide) ?_
      refine lv_iconst (v := 0) hx hb dX7_begin_87 (by decide) ?_
      obtain ⟨⟨r_19, σM_20⟩, h_21, hF⟩ := q_cl_s hF
      try dsimp only at hF
      refine gcV_i (As := [.int 3, .int 0]) (rest := []) (ci := 7) (q := (RX7, TX7, 34)) F hK hN hP hD hS hA (m_X7_close l g H.size qM AM σM_4 ℓM (3 : Int32) (0 : Int32) r_19 σM_20 h_21) gX7_begin_X7_close kX7_close rfl rfl rfl rfl ⟨(Nat.le_of_ble_eq_true rfl), (Nat.le_of_ble_eq_true rfl)⟩ [0, 1, 2, 3, 4, 5, 6, 7, 8, 9, 10, 11, 12, 13, 14, 15, 16, 17, 18, 19, 20] [] rfl rfl rfl (by decide) rfl rfl rfl rfl rfl hl.1 (Nat.le_of_ble_eq_true rfl) dX7_begin_88 ⟨(Nat.le_of_ble_eq_true rfl), (Nat.le_of_ble_eq_true rfl)⟩ (fun r_w u_w H locs hw hP hD hS => ?_)
      have hP : va_P g.1 vwCl (wX7 g qM AM σM_20 ℓM) H := hP
      have hD : va_D Z (wX7 g qM AM σM_20 ℓM) := hD
      obtain rfl : r_19 = r_w := hw.symm
      cases hF
      exact r_iret hx hb hr hlk hS () rfl hP hD dX7_begin_91
    have hF := q_if_f k_18 hF
    refine lv_lookup (tgt := 99) (off := 64) hx hb dX7_begin_35 (by decide) (by show (if (42 : Int) = (a1 : Int32).toInt then (43 : Int) else if (46 : Int) = (a1 : Int32).toInt then (57 : Int) else if (61 : Int) = (a1 : Int32).toInt then (41 : Int) else if (126 : Int) = (a1 : Int32).toInt then (50 : Int) else 64) = (64 : Int); rw [if_neg (sw_ne k_7 (by decide)), if_neg (sw_ne k_12 (by decide)), if_neg (sw_ne k_17 (by decide)), if_neg (sw_ne k_18 (by decide))]) (by decide) ?_
    refine lv_iload_n hx hb dX7_begin_99 rfl (lv_at hl 0 rfl) ?_
    refine lv_if_ne (tgt := 109) hx hb dX7_begin_100 (by decide) (fun c_23 => ?_) (fun c_23 => ?_)
    · have hF := q_if_f c_23 hF
      refine lv_aload_n hx hb dX7_begin_109 rfl (lv_at hl 1 rfl) ?_
      refine lv_iconst (v := 1) hx hb dX7_begin_110 (by decide) ?_
      refine lv_iconst (v := 0) hx hb dX7_begin_111 (by decide) ?_
      obtain ⟨⟨r_24, σM_25⟩, h_26, hF⟩ := q_cl_s hF
      try dsimp only at hF
      refine gcV_i (As := [.int 1, .int 0]) (rest := []) (ci := 7) (q := (RX7, TX7, 34)) F hK hN hP hD hS hA (m_X7_close l g H.size qM AM σM_4 ℓM (1 : Int32) (0 : Int32) r_24 σM_25 h_26) gX7_begin_X7_close kX7_close rfl rfl rfl rfl ⟨(Nat.le_of_ble_eq_true rfl), (Nat.le_of_ble_eq_true rfl)⟩ [0, 1, 2, 3, 4, 5, 6, 7, 8, 9, 10, 11, 12, 13, 14, 15, 16, 17, 18, 19, 20] [] rfl rfl rfl (by decide) rfl rfl rfl rfl rfl hl.1 (Nat.le_of_ble_eq_true rfl) dX7_begin_112 ⟨(Nat.le_of_ble_eq_true rfl), (Nat.le_of_ble_eq_true rfl)⟩ (fun r_w u_w H locs hw hP hD hS => ?_)
      have hP : va_P g.1 vwCl (wX7 g qM AM σM_25 ℓM) H := hP
      have hD : va_D Z (wX7 g qM AM σM_25 ℓM) := hD
      obtain rfl : r_24 = r_w := hw.symm
      refine lv_goto (tgt := 120) hx hb dX7_begin_115 (by decide) ?_
      cases hF
      exact r_iret hx hb hr hlk hS () rfl hP hD dX7_begin_120
    · have hF := q_if_t (by first | exact c_23 | exact Classical.not_not.mp c_23) hF
      refine lv_iload_n hx hb dX7_begin_103 rfl (lv_at hl 2 rfl) ?_
      refine lv_bipush (v := 107) hx hb dX7_begin_104 (by decide) ?_
      refine lv_icmp_ne (tgt := 118) hx hb dX7_begin_106 (by decide) (fun c_28 => ?_) (fun c_28 => ?_)
      · have hF := q_if_f c_28 hF
        refine lv_bipush (v := (-6)) hx hb dX7_begin_118 (by decide) ?_
        cases hF
        exact r_iret hx hb hr hlk hS () rfl hP hD dX7_begin_120
      · have hF := q_if_t (by first | exact c_28 | exact Classical.not_not.mp c_28) hF
        refine lv_aload_n hx hb dX7_begin_109 rfl (lv_at hl 1 rfl) ?_
        refine lv_iconst (v := 1) hx hb dX7_begin_110 (by decide) ?_
        refine lv_iconst (v := 0) hx hb dX7_begin_111 (by decide) ?_
        obtain ⟨⟨r_29, σM_30⟩, h_31, hF⟩ := q_cl_s hF
        try dsimp only at hF
        refine gcV_i (As := [.int 1, .int 0]) (rest := []) (ci := 7) (q := (RX7, TX7, 34)) F hK hN hP hD hS hA (m_X7_close l g H.size qM AM σM_4 ℓM (1 : Int32) (0 : Int32) r_29 σM_30 h_31) gX7_begin_X7_close kX7_close rfl rfl rfl rfl ⟨(Nat.le_of_ble_eq_true rfl), (Nat.le_of_ble_eq_true rfl)⟩ [0, 1, 2, 3, 4, 5, 6, 7, 8, 9, 10, 11, 12, 13, 14, 15, 16, 17, 18, 19, 20] [] rfl rfl rfl (by decide) rfl rfl rfl rfl rfl hl.1 (Nat.le_of_ble_eq_true rfl) dX7_begin_112 ⟨(Nat.le_of_ble_eq_true rfl), (Nat.le_of_ble_eq_true rfl)⟩ (fun r_w u_w H locs hw hP hD hS => ?_)
        have hP : va_P g.1 vwCl (wX7 g qM AM σM_30 ℓM) H := hP
        have hD : va_D Z (wX7 g qM AM σM_30 ℓM) := hD
        obtain rfl : r_29 = r_w := hw.symm
        refine lv_goto (tgt := 120) hx hb dX7_begin_115 (by decide) ?_
        cases hF
        exact r_iret hx hb hr hlk hS () rfl hP hD dX7_begin_120
  · have hF := q_if_f c_3 hF
    refine lv_iload_n hx hb dX7_begin_24 rfl (lv_at hl 2 rfl) ?_
    refine lv_bipush (v := 65) hx hb dX7_begin_25 (by decide) ?_
    refine lv_isub hx hb dX7_begin_27 ?_
    refine lv_goto (tgt := 33) hx hb dX7_begin_28 (by decide) ?_
    obtain ⟨σM_33, i_34, e_35, hF⟩ := q_wr_s hF
    refine r_iast (f' := upd (σM 15) (σM 99 17).toNatClampNeg (a1 - 65)) hx hb hK hP hD hS 10 rfl i_34 (fun _ _ => rfl) dX7_begin_33 (fun H locs hP hD hS => ?_)
    have hP : va_P g.1 vwCl (wX7 g qM AM (q_up σM 15 (upd (σM 15) (σM 99 17).toNatClampNeg (a1 - 65))) ℓM) H := hP
    have hD : va_D Z (wX7 g qM AM (q_up σM 15 (upd (σM 15) (σM 99 17).toNatClampNeg (a1 - 65))) ℓM) := hD
    rw [e_35] at hP hD
    refine lv_iload_n hx hb dX7_begin_34 rfl (lv_at hl 2 rfl) ?_
    by_cases k_36 : a1 = 42
    · have hF := q_if_t k_36 hF
      refine gtop (y := 42) k_36 ?_
      refine lv_lookup (tgt := 78) (off := 43) hx hb dX7_begin_35 (by decide) (by decide) (by decide) ?_
      refine lv_aload_n hx hb dX7_begin_78 rfl (lv_at hl 1 rfl) ?_
      refine lv_iconst (v := 2) hx hb dX7_begin_79 (by decide) ?_
      refine lv_iconst (v := 0) hx hb dX7_begin_80 (by decide) ?_
      obtain ⟨⟨r_37, σM_38⟩, h_39, hF⟩ := q_cl_s hF
      try dsimp only at hF
      refine gcV_i (As := [.int 2, .int 0]) (rest := []) (ci := 7) (q := (RX7, TX7, 34)) F hK hN hP hD hS hA (m_X7_close l g H.size qM AM σM_33 ℓM (2 : Int32) (0 : Int32) r_37 σM_38 h_39) gX7_begin_X7_close kX7_close rfl rfl rfl rfl ⟨(Nat.le_of_ble_eq_true rfl), (Nat.le_of_ble_eq_true rfl)⟩ [0, 1, 2, 3, 4, 5, 6, 7, 8, 9, 10, 11, 12, 13, 14, 15, 16, 17, 18, 19, 20] [] rfl rfl rfl (by decide) rfl rfl rfl rfl rfl hl.1 (Nat.le_of_ble_eq_true rfl) dX7_begin_81 ⟨(Nat.le_of_ble_eq_true rfl), (Nat.le_of_ble_eq_true rfl)⟩ (fun r_w u_w H locs hw hP hD hS => ?_)
      have hP : va_P g.1 vwCl (wX7 g qM AM σM_38 ℓM) H := hP
      have hD : va_D Z (wX7 g qM AM σM_38 ℓM) := hD
      obtain rfl : r_37 = r_w := hw.symm
      cases hF
      exact r_iret hx hb hr hlk hS () rfl hP hD dX7_begin_84
    have hF := q_if_f k_36 hF
    by_cases k_41 : a1 = 46
    · have hF := q_if_t k_41 hF
      refine gtop (y := 46) k_41 ?_
      refine lv_lookup (tgt := 92) (off := 57) hx hb dX7_begin_35 (by decide) (by decide) (by decide) ?_
      refine lv_aload_n hx hb dX7_begin_92 rfl (lv_at hl 1 rfl) ?_
      refine lv_iconst (v := 4) hx hb dX7_begin_93 (by decide) ?_
      refine lv_iconst (v := 0) hx hb dX7_begin_94 (by decide) ?_
      obtain ⟨⟨r_42, σM_43⟩, h_44, hF⟩ := q_cl_s hF
      try dsimp only at hF
      refine gcV_i (As := [.int 4, .int 0]) (rest := []) (ci := 7) (q := (RX7, TX7, 34)) F hK hN hP hD hS hA (m_X7_close l g H.size qM AM σM_33 ℓM (4 : Int32) (0 : Int32) r_42 σM_43 h_44) gX7_begin_X7_close kX7_close rfl rfl rfl rfl ⟨(Nat.le_of_ble_eq_true rfl), (Nat.le_of_ble_eq_true rfl)⟩ [0, 1, 2, 3, 4, 5, 6, 7, 8, 9, 10, 11, 12, 13, 14, 15, 16, 17, 18, 19, 20] [] rfl rfl rfl (by decide) rfl rfl rfl rfl rfl hl.1 (Nat.le_of_ble_eq_true rfl) dX7_begin_95 ⟨(Nat.le_of_ble_eq_true rfl), (Nat.le_of_ble_eq_true rfl)⟩ (fun r_w u_w H locs hw hP hD hS => ?_)
      have hP : va_P g.1 vwCl (wX7 g qM AM σM_43 ℓM) H := hP
      have hD : va_D Z (wX7 g qM AM σM_43 ℓM) := hD
      obtain rfl : r_42 = r_w := hw.symm
      cases hF
      exact r_iret hx hb hr hlk hS () rfl hP hD dX7_begin_98
    have hF := q_if_f k_41 hF
    by_cases k_46 : a1 = 61
    · have hF := q_if_t k_46 hF
      refine gtop (y := 61) k_46 ?_
      refine lv_lookup (tgt := 76) (off := 41) hx hb dX7_begin_35 (by decide) (by decide) (by decide) ?_
      refine lv_iconst (v := 1) hx hb dX7_begin_76 (by decide) ?_
      cases hF
      exact r_iret hx hb hr hlk hS () rfl hP hD dX7_begin_77
    have hF := q_if_f k_46 hF
    by_cases k_47 : a1 = 126
    · have hF := q_if_t k_47 hF
      refine gtop (y := 126) k_47 ?_
      refine lv_lookup (tgt := 85) (off := 50) hx hb dX7_begin_35 (by decide) (by decide) (by decide) ?_
      refine lv_aload_n hx hb dX7_begin_85 rfl (lv_at hl 1 rfl) ?_
      refine lv_iconst (v := 3) hx hb dX7_begin_86 (by decide) ?_
      refine lv_iconst (v := 0) hx hb dX7_begin_87 (by decide) ?_
      obtain ⟨⟨r_48, σM_49⟩, h_50, hF⟩ := q_cl_s hF
      try dsimp only at hF
      refine gcV_i (As := [.int 3, .int 0]) (rest := []) (ci := 7) (q := (RX7, TX7, 34)) F hK hN hP hD hS hA (m_X7_close l g H.size qM AM σM_33 ℓM (3 : Int32) (0 : Int32) r_48 σM_49 h_50) gX7_begin_X7_close kX7_close rfl rfl rfl rfl ⟨(Nat.le_of_ble_eq_true rfl), (Nat.le_of_ble_eq_true rfl)⟩ [0, 1, 2, 3, 4, 5, 6, 7, 8, 9, 10, 11, 12, 13, 14, 15, 16, 17, 18, 19, 20] [] rfl rfl rfl (by decide) rfl rfl rfl rfl rfl hl.1 (Nat.le_of_ble_eq_true rfl) dX7_begin_88 ⟨(Nat.le_of_ble_eq_true rfl), (Nat.le_of_ble_eq_true rfl)⟩ (fun r_w u_w H locs hw hP hD hS => ?_)
      have hP : va_P g.1 vwCl (wX7 g qM AM σM_49 ℓM) H := hP
      have hD : va_D Z (wX7 g qM AM σM_49 ℓM) := hD
      obtain rfl : r_48 = r_w := hw.symm
      cases hF
      exact r_iret hx hb hr hlk hS () rfl hP hD dX7_begin_91
    have hF := q_if_f k_47 hF
    refine lv_lookup (tgt := 99) (off := 64) hx hb dX7_begin_35 (by decide) (by show (if (42 : Int) = (a1 : Int32).toInt then (43 : Int) else if (46 : Int) = (a1 : Int32).toInt then (57 : Int) else if (61 : Int) = (a1 : Int32).toInt then (41 : Int) else if (126 : Int) = (a1 : Int32).toInt then (50 : Int) else 64) = (64 : Int); rw [if_neg (sw_ne k_36 (by decide)), if_neg (sw_ne k_41 (by decide)), if_neg (sw_ne k_46 (by decide)), if_neg (sw_ne k_47 (by decide))]) (by decide) ?_
    refine lv_iload_n hx hb dX7_begin_99 rfl (lv_at hl 0 rfl) ?_
    refine lv_if_ne (tgt := 109) hx hb dX7_begin_100 (by decide) (fun c_52 => ?_) (fun c_52 => ?_)
    · have hF := q_if_f c_52 hF
      refine lv_aload_n hx hb dX7_begin_109 rfl (lv_at hl 1 rfl) ?_
      refine lv_iconst (v := 1) hx hb dX7_begin_110 (by decide) ?_
      refine lv_iconst (v := 0) hx hb dX7_begin_111 (by decide) ?_
      obtain ⟨⟨r_53, σM_54⟩, h_55, hF⟩ := q_cl_s hF
      try dsimp only at hF
      refine gcV_i (As := [.int 1, .int 0]) (rest := []) (ci := 7) (q := (RX7, TX7, 34)) F hK hN hP hD hS hA (m_X7_close l g H.size qM AM σM_33 ℓM (1 : Int32) (0 : Int32) r_53 σM_54 h_55) gX7_begin_X7_close kX7_close rfl rfl rfl rfl ⟨(Nat.le_of_ble_eq_true rfl), (Nat.le_of_ble_eq_true rfl)⟩ [0, 1, 2, 3, 4, 5, 6, 7, 8, 9, 10, 11, 12, 13, 14, 15, 16, 17, 18, 19, 20] [] rfl rfl rfl (by decide) rfl rfl rfl rfl rfl hl.1 (Nat.le_of_ble_eq_true rfl) dX7_begin_112 ⟨(Nat.le_of_ble_eq_true rfl), (Nat.le_of_ble_eq_true rfl)⟩ (fun r_w u_w H locs hw hP hD hS => ?_)
      have hP : va_P g.1 vwCl (wX7 g qM AM σM_54 ℓM) H := hP
      have hD : va_D Z (wX7 g qM AM σM_54 ℓM) := hD
      obtain rfl : r_53 = r_w := hw.symm
      refine lv_goto (tgt := 120) hx hb dX7_begin_115 (by decide) ?_
      cases hF
      exact r_iret hx hb hr hlk hS () rfl hP hD dX7_begin_120
    · have hF := q_if_t (by first | exact c_52 | exact Classical.not_not.mp c_52) hF
      refine lv_iload_n hx hb dX7_begin_103 rfl (lv_at hl 2 rfl) ?_
      refine lv_bipush (v := 107) hx hb dX7_begin_104 (by decide) ?_
      refine lv_icmp_ne (tgt := 118) hx hb dX7_begin_106 (by decide) (fun c_57 => ?_) (fun c_57 => ?_)
      · have hF := q_if_f c_57 hF
        refine lv_bipush (v := (-6)) hx hb dX7_begin_118 (by decide) ?_
        cases hF
        exact r_iret hx hb hr hlk hS () rfl hP hD dX7_begin_120
      · have hF := q_if_t (by first | exact c_57 | exact Classical.not_not.mp c_57) hF
        refine lv_aload_n hx hb dX7_begin_109 rfl (lv_at hl 1 rfl) ?_
        refine lv_iconst (v := 1) hx hb dX7_begin_110 (by decide) ?_
        refine lv_iconst (v := 0) hx hb dX7_begin_111 (by decide) ?_
        obtain ⟨⟨r_58, σM_59⟩, h_60, hF⟩ := q_cl_s hF
        try dsimp only at hF
        refine gcV_i (As := [.int 1, .int 0]) (rest := []) (ci := 7) (q := (RX7, TX7, 34)) F hK hN hP hD hS hA (m_X7_close l g H.size qM AM σM_33 ℓM (1 : Int32) (0 : Int32) r_58 σM_59 h_60) gX7_begin_X7_close kX7_close rfl rfl rfl rfl ⟨(Nat.le_of_ble_eq_true rfl), (Nat.le_of_ble_eq_true rfl)⟩ [0, 1, 2, 3, 4, 5, 6, 7, 8, 9, 10, 11, 12, 13, 14, 15, 16, 17, 18, 19, 20] [] rfl rfl rfl (by decide) rfl rfl rfl rfl rfl hl.1 (Nat.le_of_ble_eq_true rfl) dX7_begin_112 ⟨(Nat.le_of_ble_eq_true rfl), (Nat.le_of_ble_eq_true rfl)⟩ (fun r_w u_w H locs hw hP hD hS => ?_)
        have hP : va_P g.1 vwCl (wX7 g qM AM σM_59 ℓM) H := hP
        have hD : va_D Z (wX7 g qM AM σM_59 ℓM) := hD
        obtain rfl : r_58 = r_w := hw.symm
        refine lv_goto (tgt := 120) hx hb dX7_begin_115 (by decide) ?_
        cases hF
        exact r_iret hx hb hr hlk hS () rfl hP hD dX7_begin_120
set_option maxHeartbeats 4000000 in
set_option maxRecDepth 100000 in
theorem m_X7_readOn (l : Launch) (g : GT) (sz : Nat) (qM : Nat) (AM : Nat → Nat) (σM : qS) (ℓM : qL) (a1 : Int32) (a2 : Int32) (rr : Int32) (σM' : qS) (hF : f_X7_readOn σM ℓM a1 a2 = some (rr, σM')) : Ci l yX7_readOn wsX7_readOn { frames := 2, cells := 0, slots := 0, locals := 47 } g sz [.ref qM, .int a1, .int a2] (wX7 g qM AM σM ℓM) rr (wX7 g qM AM σM' ℓM) := by
  refine gMet_i (cc := cX7_readOn) (maxL := 3) (ret := (some .int)) (by decide) rfl (Nat.le_of_ble_eq_true rfl) ?_
  intro p e s m args below meth c Z hx hb hr F hlk hnm hK hN hA H locs hP hD hS ls hl
  have hl : lv_has ls 3 [(0, .ref qM), (1, .int a1), (2, .int a2)] := hl
  have F : CallFix p m c cX7_readOn 3 s args wsX7_readOn RX7 := F
  have hts := F.2.2.2.2
  have hown : s.vm.findClass RX7 = some m.cls := F.2.2.2.1
  have hi7 : ∀ w ∈ u_ws RX7 TX7 34, w ∈ wsX7_readOn := by decide +kernel
  dsimp only [f_X7_readOn] at hF
  refine lv_iload_n hx hb dX7_readOn_0 rfl (lv_at hl 1 rfl) ?_
  refine lv_if_ne (tgt := 10) hx hb dX7_readOn_1 (by decide) (fun c_1 => ?_) (fun c_1 => ?_)
  · have hF := q_if_f c_1 hF
    refine lv_iload_n hx hb dX7_readOn_10 rfl (lv_at hl 1 rfl) ?_
    refine lv_iconst (v := 1) hx hb dX7_readOn_11 (by decide) ?_
    refine lv_icmp_ne (tgt := 49) hx hb dX7_readOn_12 (by decide) (fun c_2 => ?_) (fun c_2 => ?_)
    · have hF := q_if_f c_2 hF
      refine lv_iload_n hx hb dX7_readOn_49 rfl (lv_at hl 2 rfl) ?_
      refine lv_i2l (v := a2.toInt64) hx hb dX7_readOn_50 rfl ?_
      refine lv_ldc2 (v := 49) hx hb hown (hts (.constantLong RX7 122 (49)) (by decide +kernel)) dX7_readOn_51 ?_
      refine lv_ldc2 (v := 57) hx hb hown (hts (.constantLong RX7 120 (57)) (by decide +kernel)) dX7_readOn_54 ?_
      obtain ⟨r_3, h_4, hF⟩ := q_cl_s hF
      refine gcP (As := [.long a2.toInt64, .long 49, .long 57]) (rest := []) F (m_X7_in l a2.toInt64 (49 : Int64) (57 : Int64) r_3 h_4) gX7_readOn_X7_in kX7_in rfl rfl rfl ⟨(Nat.le_of_ble_eq_true rfl), (Nat.le_of_ble_eq_true rfl)⟩ rfl rfl hl.1 (Nat.le_of_ble_eq_true rfl) dX7_readOn_57 ⟨(Nat.le_of_ble_eq_true rfl), (Nat.le_of_ble_eq_true rfl)⟩ ?_
      refine lv_if_eq (tgt := 78) hx hb dX7_readOn_60 (by decide) (fun c_5 => ?_) (fun c_5 => ?_)
      · have hF := q_if_t c_5 hF
        refine lv_bipush (v := (-6)) hx hb dX7_readOn_78 (by decide) ?_
        cases hF
        exact r_iret hx hb hr hlk hS () rfl hP hD dX7_readOn_80
      · have hF := q_if_f c_5 hF
        refine lv_aload_n hx hb dX7_readOn_63 rfl (lv_at hl 0 rfl) ?_
        refine lv_iconst (v := 0) hx hb dX7_readOn_64 (by decide) ?_
        refine lv_bipush (v := 10) hx hb dX7_readOn_65 (by decide) ?_
        refine lv_iload_n hx hb dX7_readOn_67 rfl (lv_at hl 2 rfl) ?_
        refine lv_bipush (v := 48) hx hb dX7_readOn_68 (by decide) ?_
        refine lv_isub hx hb dX7_readOn_70 ?_
        refine lv_imul hx hb dX7_readOn_71 ?_
        obtain ⟨⟨r_6, σM_7⟩, h_8, hF⟩ := q_cl_s hF
        try dsimp only at hF
        refine gcV_i (As := [.int 0, .int ((10 : Int32) * (a2 - 48))]) (rest := []) (ci := 7) (q := (RX7, TX7, 34)) F hK hN hP hD hS hA (m_X7_close l g H.size qM AM σM ℓM (0 : Int32) ((10 : Int32) * (a2 - 48)) r_6 σM_7 h_8) gX7_readOn_X7_close kX7_close rfl rfl rfl rfl ⟨(Nat.le_of_ble_eq_true rfl), (Nat.le_of_ble_eq_true rfl)⟩ [0, 1, 2, 3, 4, 5, 6, 7, 8, 9, 10, 11, 12, 13, 14, 15, 16, 17, 18, 19, 20] [] rfl rfl rfl (by decide) rfl rfl rfl rfl rfl hl.1 (Nat.le_of_ble_eq_true rfl) dX7_readOn_72 ⟨(Nat.le_of_ble_eq_true rfl), (Nat.le_of_ble_eq_true rfl)⟩ (fun r_w u_w H locs hw hP hD hS => ?_)
        have hP : va_P g.1 vwCl (wX7 g qM AM σM_7 ℓM) H := hP
        have hD : va_D Z (wX7 g qM AM σM_7 ℓM) := hD
        obtain rfl : r_6 = r_w := hw.symm
        refine lv_goto (tgt := 80) hx hb dX7_readOn_75 (by decide) ?_
        cases hF
        exact r_iret hx hb hr hlk hS () rfl hP hD dX7_readOn_80
    · have hF := q_if_t (by first | exact c_2 | exact Classical.not_not.mp c_2) hF
      refine lv_aload_n hx hb dX7_readOn_15 rfl (lv_at hl 0 rfl) ?_
      refine va_get (D := g.1) (ci := 7) (v := .ref (AM 15)) (C := RX7) (T := TX7) (N := 34) hx hb hts hi7 hown hK hP 0 rfl rfl 15 (by decide) (hts (.fieldLink RX7 37 "PanTalesModel" "which" "[I") (by decide +kernel)) (fun _ h9 => h9) rfl dX7_readOn_16 ?_
      refine lv_aload_n hx hb dX7_readOn_19 rfl (lv_at hl 0 rfl) ?_
      refine va_get (D := g.1) (ci := 7) (v := .int (σM 99 17)) (C := RX7) (T := TX7) (N := 34) hx hb hts hi7 hown hK hP 0 rfl rfl 17 (by decide) (hts (.fieldLink RX7 103 "PanTalesModel" "acts" "I") (by decide +kernel)) (fun _ h9 => h9) rfl dX7_readOn_20 ?_
      refine lv_iload_n hx hb dX7_readOn_23 rfl (lv_at hl 2 rfl) ?_
      refine lv_bipush (v := 48) hx hb dX7_readOn_24 (by decide) ?_
      refine lv_isub hx hb dX7_readOn_26 ?_
      obtain ⟨σM_10, i_11, e_12, hF⟩ := q_wr_s hF
      refine r_iast (f' := upd (σM 15) (σM 99 17).toNatClampNeg (a2 - 48)) hx hb hK hP hD hS 10 rfl i_11 (fun _ _ => rfl) dX7_readOn_27 (fun H locs hP hD hS => ?_)
      have hP : va_P g.1 vwCl (wX7 g qM AM (q_up σM 15 (upd (σM 15) (σM 99 17).toNatClampNeg (a2 - 48))) ℓM) H := hP
      have hD : va_D Z (wX7 g qM AM (q_up σM 15 (upd (σM 15) (σM 99 17).toNatClampNeg (a2 - 48))) ℓM) := hD
      rw [e_12] at hP hD
      refine lv_iload_n hx hb dX7_readOn_28 rfl (lv_at hl 2 rfl) ?_
      refine lv_i2l (v := a2.toInt64) hx hb dX7_readOn_29 rfl ?_
      refine lv_ldc2 (v := 48) hx hb hown (hts (.constantLong RX7 118 (48)) (by decide +kernel)) dX7_readOn_30 ?_
      refine lv_ldc2 (v := 57) hx hb hown (hts (.constantLong RX7 120 (57)) (by decide +kernel)) dX7_readOn_33 ?_
      obtain ⟨r_13, h_14, hF⟩ := q_cl_s hF
      refine gcP (As := [.long a2.toInt64, .long 48, .long 57]) (rest := []) F (m_X7_in l a2.toInt64 (48 : Int64) (57 : Int64) r_13 h_14) gX7_readOn_X7_in kX7_in rfl rfl rfl ⟨(Nat.le_of_ble_eq_true rfl), (Nat.le_of_ble_eq_true rfl)⟩ rfl rfl hl.1 (Nat.le_of_ble_eq_true rfl) dX7_readOn_36 ⟨(Nat.le_of_ble_eq_true rfl), (Nat.le_of_ble_eq_true rfl)⟩ ?_
      refine lv_if_eq (tgt := 46) hx hb dX7_readOn_39 (by decide) (fun c_15 => ?_) (fun c_15 => ?_)
      · have hF := q_if_t c_15 hF
        refine lv_bipush (v := (-6)) hx hb dX7_readOn_46 (by decide) ?_
        cases hF
        exact r_iret hx hb hr hlk hS () rfl hP hD dX7_readOn_48
      · have hF := q_if_f c_15 hF
        refine lv_iconst (v := 2) hx hb dX7_readOn_42 (by decide) ?_
        refine lv_goto (tgt := 48) hx hb dX7_readOn_43 (by decide) ?_
        cases hF
        exact r_iret hx hb hr hlk hS () rfl hP hD dX7_readOn_48
  · have hF := q_if_t (by first | exact c_1 | exact Classical.not_not.mp c_1) hF
    refine lv_aload_n hx hb dX7_readOn_4 rfl (lv_at hl 0 rfl) ?_
    refine lv_iload_n hx hb dX7_readOn_5 rfl (lv_at hl 2 rfl) ?_
    obtain ⟨⟨r_16, σM_17⟩, h_18, hF⟩ := q_cl_s hF
    try dsimp only at hF
    refine gcV_i (As := [.int a2]) (rest := []) (ci := 7) (q := (RX7, TX7, 34)) F hK hN hP hD hS hA (m_X7_begin l g H.size qM AM σM ℓM a2 r_16 σM_17 h_18) gX7_readOn_X7_begin kX7_begin rfl rfl rfl rfl ⟨(Nat.le_of_ble_eq_true rfl), (Nat.le_of_ble_eq_true rfl)⟩ [0, 1, 2, 3, 4, 5, 6, 7, 8, 9, 10, 11, 12, 13, 14, 15, 16, 17, 18, 19, 20] [] rfl rfl rfl (by decide) rfl rfl rfl rfl rfl hl.1 (Nat.le_of_ble_eq_true rfl) dX7_readOn_6 ⟨(Nat.le_of_ble_eq_true rfl), (Nat.le_of_ble_eq_true rfl)⟩ (fun r_w u_w H locs hw hP hD hS => ?_)
    have hP : va_P g.1 vwCl (wX7 g qM AM σM_17 ℓM) H := hP
    have hD : va_D Z (wX7 g qM AM σM_17 ℓM) := hD
    obtain rfl : r_16 = r_w := hw.symm
    cases hF
    exact r_iret hx hb hr hlk hS () rfl hP hD dX7_readOn_9
set_option maxHeartbeats 4000000 in
set_option maxRecDepth 100000 in
theorem m_X7_fault (l : Launch) (g : GT) (sz : Nat) (qM : Nat) (AM : Nat → Nat) (σM : qS) (ℓM : qL) (rr : Int32) (σM' : qS) (hF : f_X7_fault σM ℓM = some (rr, σM')) : Ci l yX7_fault wsX7_fault { frames := 3, cells := 0, slots := 0, locals := 69 } g sz [.ref qM] (wX7 g qM AM σM ℓM) rr (wX7 g qM AM σM' ℓM) := by
  refine gMet_i (cc := cX7_fault) (maxL := 3) (ret := (some .int)) (by decide) rfl (Nat.le_of_ble_eq_true rfl) ?_
  intro p e s m args below meth c Z hx hb hr F hlk hnm hK hN hA H locs hP hD hS ls hl
  have hl : lv_has ls 3 [(0, .ref qM)] := hl
  have F : CallFix p m c cX7_fault 3 s args wsX7_fault RX7 := F
  have hts := F.2.2.2.2
  have hown : s.vm.findClass RX7 = some m.cls := F.2.2.2.1
  have hi7 : ∀ w ∈ u_ws RX7 TX7 34, w ∈ wsX7_fault := by decide +kernel
  dsimp only [f_X7_fault] at hF
  refine lv_aload_n hx hb dX7_fault_0 rfl (lv_at hl 0 rfl) ?_
  refine lv_iconst (v := 0) hx hb dX7_fault_1 (by decide) ?_
  obtain ⟨σM_1, e_2, hF⟩ := q_bd_s hF
  refine va_put (D := g.1) (ci := 7) (v := .int 0) (ty := .int) (C := RX7) (T := TX7) (N := 34) hx hb hts hi7 tyX7 tyX7_ok nmX7 hown hK hP hD hS 0 rfl rfl 17 (by decide) (hts (.fieldLink RX7 103 "PanTalesModel" "acts" "I") (by decide +kernel)) (fun _ h9 => h9) rfl (by decide +kernel) rfl rfl (Nat.le_of_ble_eq_true rfl) dX7_fault_2 (fun H locs hP hD hS => ?_)
  have hP : va_P g.1 vwCl (wX7 g qM AM (q_pt σM 17 (0 : Int32)) ℓM) H := hP
  have hD : va_D Z (wX7 g qM AM (q_pt σM 17 (0 : Int32)) ℓM) := hD
  rw [e_2] at hP hD
  refine lv_iconst (v := 0) hx hb dX7_fault_5 (by decide) ?_
  refine lv_istore_n (lv' := [(1, .int 0), (0, .ref qM)]) hx hb dX7_fault_6 rfl hl (by decide) rfl (fun ls hl => ?_)
  refine lv_iconst (v := 0) hx hb dX7_fault_7 (by decide) ?_
  refine lv_istore_n (lv' := [(2, .int 0), (1, .int 0), (0, .ref qM)]) hx hb dX7_fault_8 rfl hl (by decide) rfl (fun ls hl => ?_)
  refine q_loop (fun u0 => wX7 g qM AM u0.2.2 ℓM) (fun u0 => [(2, .int u0.1), (1, .int u0.2.1), (0, .ref qM)]) 41 hF ?_ ?_ hP hD hS (lv_sub hl [0, 1, 2] rfl)
  · rintro ⟨v2_3, v1_3, σM_3⟩ hF H locs ls hP hD hS hl
    try dsimp only at hF
    have hP : va_P g.1 vwCl (wX7 g qM AM σM_3 ℓM) H := hP
    have hD : va_D Z (wX7 g qM AM σM_3 ℓM) := hD
    have hl : lv_has ls 3 [(2, .int v2_3), (1, .int v1_3), (0, .ref qM)] := hl
    refine lv_iload_n hx hb dX7_fault_41 rfl (lv_at hl 1 rfl) ?_
    refine lv_if_ne (tgt := 50) hx hb dX7_fault_42 (by decide) (fun c_4 => ?_) (fun c_4 => ?_)
    · have hF := q_if_f c_4 hF
      refine lv_aload_n hx hb dX7_fault_50 rfl (lv_at hl 2 rfl) ?_
      refine va_get (D := g.1) (ci := 7) (v := .int (σM_3 99 13)) (C := RX7) (T := TX7) (N := 34) hx hb hts hi7 hown hK hP 0 rfl rfl 13 (by decide) (hts (.fieldLink RX7 100 "PanTalesModel" "padMany" "I") (by decide +kernel)) (fun _ h9 => h9) rfl dX7_fault_51 ?_
      cases hF
      exact r_iret hx hb hr hlk hS () rfl hP hD dX7_fault_54
    · have hF := q_if_t (by first | exact c_4 | exact Classical.not_not.mp c_4) hF
      refine lv_bipush (v := (-6)) hx hb dX7_fault_45 (by decide) ?_
      refine lv_goto (tgt := 54) hx hb dX7_fault_47 (by decide) ?_
      cases hF
      exact r_iret hx hb hr hlk hS () rfl hP hD dX7_fault_54
  · rintro k again kk ag ⟨v2_3, v1_3, σM_3⟩ hF H locs ls hP hD hS hl
    dsimp only [b_X7_fault_9] at hF
    have hP : va_P g.1 vwCl (wX7 g qM AM σM_3 ℓM) H := hP
    have hD : va_D Z (wX7 g qM AM σM_3 ℓM) := hD
    have hl : lv_has ls 3 [(2, .int v2_3), (1, .int v1_3), (0, .ref qM)] := hl
    refine lv_iload_n hx hb dX7_fault_9 rfl (lv_at hl 0 rfl) ?_
    refine lv_aload_n hx hb dX7_fault_10 rfl (lv_at hl 2 rfl) ?_
    refine va_get (D := g.1) (ci := 7) (v := .int (σM_3 99 13)) (C := RX7) (T := TX7) (N := 34) hx hb hts hi7 hown hK hP 0 rfl rfl 13 (by decide) (hts (.fieldLink RX7 100 "PanTalesModel" "padMany" "I") (by decide +kernel)) (fun _ h9 => h9) rfl dX7_fault_11 ?_
    refine lv_icmp_ge (tgt := 41) hx hb dX7_fault_14 (by decide) (fun c_5 => ?_) (fun c_5 => ?_)
    · have hF := q_if_t c_5 hF
      exact kk (v2_3, v1_3, σM_3) hF _ _ _ hP hD hS (lv_sub hl [0, 1, 2] rfl)
    · have hF := q_if_f c_5 hF
      refine lv_aload_n hx hb dX7_fault_17 rfl (lv_at hl 2 rfl) ?_
      refine lv_iload_n hx hb dX7_fault_18 rfl (lv_at hl 1 rfl) ?_
      refine lv_aload_n hx hb dX7_fault_19 rfl (lv_at hl 2 rfl) ?_
      refine va_get (D := g.1) (ci := 7) (v := .ref (AM 12)) (C := RX7) (T := TX7) (N := 34) hx hb hts hi7 hown hK hP 0 rfl rfl 12 (by decide) (hts (.fieldLink RX7 31 "PanTalesModel" "pad" "[I") (by decide +kernel)) (fun _ h9 => h9) rfl dX7_fault_20 ?_
      refine lv_iload_n hx hb dX7_fault_23 rfl (lv_at hl 0 rfl) ?_
      obtain ⟨r_6, i_7, e_8, hF⟩ := q_rd_s hF
      refine r_iald (v := r_6) hx hb hK hP 8 rfl i_7 e_8 dX7_fault_24 ?_
      obtain ⟨⟨r_9, σM_10⟩, h_11, hF⟩ := q_cl_s hF
      try dsimp only at hF
      refine gcV_i (As := [.int v1_3, .int r_6]) (rest := []) (ci := 7) (q := (RX7, TX7, 34)) F hK hN hP hD hS hA (m_X7_readOn l g H.size qM AM σM_3 ℓM v1_3 r_6 r_9 σM_10 h_11) gX7_fault_X7_readOn kX7_readOn rfl rfl rfl rfl ⟨(Nat.le_of_ble_eq_true rfl), (Nat.le_of_ble_eq_true rfl)⟩ [0, 1, 2, 3, 4, 5, 6, 7, 8, 9, 10, 11, 12, 13, 14, 15, 16, 17, 18, 19, 20] [] rfl rfl rfl (by decide) rfl rfl rfl rfl rfl hl.1 (Nat.le_of_ble_eq_true rfl) dX7_fault_25 ⟨(Nat.le_of_ble_eq_true rfl), (Nat.le_of_ble_eq_true rfl)⟩ (fun r_w u_w H locs hw hP hD hS => ?_)
      have hP : va_P g.1 vwCl (wX7 g qM AM σM_10 ℓM) H := hP
      have hD : va_D Z (wX7 g qM AM σM_10 ℓM) := hD
      obtain rfl : r_9 = r_w := hw.symm
      refine lv_istore_n (lv' := [(1, .int r_9), (2, .int v2_3), (0, .ref qM)]) hx hb dX7_fault_28 rfl hl (by decide) rfl (fun ls hl => ?_)
      refine lv_iload_n hx hb dX7_fault_29 rfl (lv_at hl 0 rfl) ?_
      refine lv_if_ge (tgt := 35) hx hb dX7_fault_30 (by decide) (fun c_13 => ?_) (fun c_13 => ?_)
      · have hF := q_if_t c_13 hF
        refine lv_iinc (v := v2_3 + 1) (lv' := [(2, .int (v2_3 + 1)), (1, .int r_9), (0, .ref qM)]) hx hb dX7_fault_35 hl (k := 1) rfl rfl (by decide) rfl (fun ls hl => ?_)
        refine lv_goto (tgt := 9) hx hb dX7_fault_38 (by decide) ?_
        exact ag (v2_3 + 1, r_9, σM_10) hF _ _ _ hP hD hS (lv_sub hl [0, 1, 2] rfl)
      · have hF := q_if_f c_13 hF
        refine lv_iload_n hx hb dX7_fault_33 rfl (lv_at hl 1 rfl) ?_
        cases hF
        exact r_iret hx hb hr hlk hS () rfl hP hD dX7_fault_34
set_option maxHeartbeats 4000000 in
set_option maxRecDepth 100000 in
theorem m_X7_whyNot (l : Launch) (g : GT) (sz : Nat) (qM : Nat) (AM : Nat → Nat) (σM : qS) (ℓM : qL) (a1 : Int32) (a2 : Int32) (rr : Int32) (hF : f_X7_whyNot σM ℓM a1 a2 = some rr) : Ci l yX7_whyNot wsX7_whyNot { frames := 0, cells := 0, slots := 0, locals := 0 } g sz [.ref qM, .int a1, .int a2] (wX7 g qM AM σM ℓM) rr (wX7 g qM AM σM ℓM) := by
  refine gMet_i (cc := cX7_whyNot) (maxL := 3) (ret := (some .int)) (by decide) rfl (Nat.le_of_ble_eq_true rfl) ?_
  intro p e s m args below meth c Z hx hb hr F hlk hnm hK hN hA H locs hP hD hS ls hl
  have hl : lv_has ls 3 [(0, .ref qM), (1, .int a1), (2, .int a2)] := hl
  have F : CallFix p m c cX7_whyNot 3 s args wsX7_whyNot RX7 := F
  have hts := F.2.2.2.2
  have hown : s.vm.findClass RX7 = some m.cls := F.2.2.2.1
  have hi7 : ∀ w ∈ u_ws RX7 TX7 34, w ∈ wsX7_whyNot := by decide +kernel
  dsimp only [f_X7_whyNot] at hF
  refine lv_iload_n hx hb dX7_whyNot_0 rfl (lv_at hl 1 rfl) ?_
  by_cases k_1 : a1 = 0
  · have hF := q_if_t k_1 hF
    refine gtop (y := 0) k_1 ?_
    refine lv_tableIn (tgt := 32) (off := 31) hx hb dX7_whyNot_1 (by decide) (by decide) rfl (by decide) ?_
    refine lv_aload_n hx hb dX7_whyNot_32 rfl (lv_at hl 0 rfl) ?_
    refine va_get (D := g.1) (ci := 7) (v := .int (σM 99 5)) (C := RX7) (T := TX7) (N := 34) hx hb hts hi7 hown hK hP 0 rfl rfl 5 (by decide) (hts (.fieldLink RX7 72 "PanTalesModel" "panPlace" "I") (by decide +kernel)) (fun _ h9 => h9) rfl dX7_whyNot_33 ?_
    refine lv_bipush (v := 10) hx hb dX7_whyNot_36 (by decide) ?_
    refine lv_icmp_ne (tgt := 45) hx hb dX7_whyNot_38 (by decide) (fun c_2 => ?_) (fun c_2 => ?_)
    · have hF := q_if_f c_2 hF
      refine lv_iconst (v := 1) hx hb dX7_whyNot_45 (by decide) ?_
      cases hF
      exact r_iret hx hb hr hlk hS () rfl hP hD dX7_whyNot_46
    · have hF := q_if_t (by first | exact c_2 | exact Classical.not_not.mp c_2) hF
      refine lv_iconst (v := 0) hx hb dX7_whyNot_41 (by decide) ?_
      refine lv_goto (tgt := 46) hx hb dX7_whyNot_42 (by decide) ?_
      cases hF
      exact r_iret hx hb hr hlk hS () rfl hP hD dX7_whyNot_46
  have hF := q_if_f k_1 hF
  by_cases k_3 : a1 = 1
  · have hF := q_if_t k_3 hF
    refine gtop (y := 1) k_3 ?_
    refine lv_tableIn (tgt := 47) (off := 46) hx hb dX7_whyNot_1 (by decide) (by decide) rfl (by decide) ?_
    refine lv_aload_n hx hb dX7_whyNot_47 rfl (lv_at hl 0 rfl) ?_
    refine va_get (D := g.1) (ci := 7) (v := .ref (AM 0)) (C := RX7) (T := TX7) (N := 34) hx hb hts hi7 hown hK hP 0 rfl rfl 0 (by decide) (hts (.fieldLink RX7 7 "PanTalesModel" "roads" "[I") (by decide +kernel)) (fun _ h9 => h9) rfl dX7_whyNot_48 ?_
    refine lv_bipush (v := 11) hx hb dX7_whyNot_51 (by decide) ?_
    refine lv_aload_n hx hb dX7_whyNot_53 rfl (lv_at hl 0 rfl) ?_
    refine va_get (D := g.1) (ci := 7) (v := .int (σM 99 5)) (C := RX7) (T := TX7) (N := 34) hx hb hts hi7 hown hK hP 0 rfl rfl 5 (by decide) (hts (.fieldLink RX7 72 "PanTalesModel" "panPlace" "I") (by decide +kernel)) (fun _ h9 => h9) rfl dX7_whyNot_54 ?_
    refine lv_imul hx hb dX7_whyNot_57 ?_
    refine lv_iload_n hx hb dX7_whyNot_58 rfl (lv_at hl 2 rfl) ?_
    refine lv_iadd hx hb dX7_whyNot_59 ?_
    obtain ⟨r_4, i_5, e_6, hF⟩ := q_rd_s hF
    refine r_iald (v := r_4) hx hb hK hP 1 rfl i_5 e_6 dX7_whyNot_60 ?_
    refine lv_if_ne (tgt := 68) hx hb dX7_whyNot_61 (by decide) (fun c_7 => ?_) (fun c_7 => ?_)
    · have hF := q_if_f c_7 hF
      refine lv_iconst (v := 0) hx hb dX7_whyNot_68 (by decide) ?_
      cases hF
      exact r_iret hx hb hr hlk hS () rfl hP hD dX7_whyNot_69
    · have hF := q_if_t (by first | exact c_7 | exact Classical.not_not.mp c_7) hF
      refine lv_iconst (v := 2) hx hb dX7_whyNot_64 (by decide) ?_
      refine lv_goto (tgt := 69) hx hb dX7_whyNot_65 (by decide) ?_
      cases hF
      exact r_iret hx hb hr hlk hS () rfl hP hD dX7_whyNot_69
  have hF := q_if_f k_3 hF
  by_cases k_8 : a1 = 2
  · have hF := q_if_t k_8 hF
    refine gtop (y := 2) k_8 ?_
    refine lv_tableIn (tgt := 70) (off := 69) hx hb dX7_whyNot_1 (by decide) (by decide) rfl (by decide) ?_
    refine lv_aload_n hx hb dX7_whyNot_70 rfl (lv_at hl 0 rfl) ?_
    refine va_get (D := g.1) (ci := 7) (v := .int (σM 99 5)) (C := RX7) (T := TX7) (N := 34) hx hb hts hi7 hown hK hP 0 rfl rfl 5 (by decide) (hts (.fieldLink RX7 72 "PanTalesModel" "panPlace" "I") (by decide +kernel)) (fun _ h9 => h9) rfl dX7_whyNot_71 ?_
    refine lv_bipush (v := 10) hx hb dX7_whyNot_74 (by decide) ?_
    refine lv_icmp_ne (tgt := 83) hx hb dX7_whyNot_76 (by decide) (fun c_9 => ?_) (fun c_9 => ?_)
    · have hF := q_if_f c_9 hF
      refine lv_aload_n hx hb dX7_whyNot_83 rfl (lv_at hl 0 rfl) ?_
      refine va_get (D := g.1) (ci := 7) (v := .int (σM 99 6)) (C := RX7) (T := TX7) (N := 34) hx hb hts hi7 hown hK hP 0 rfl rfl 6 (by decide) (hts (.fieldLink RX7 127 "PanTalesModel" "heat" "I") (by decide +kernel)) (fun _ h9 => h9) rfl dX7_whyNot_84 ?_
      refine lv_if_ne (tgt := 94) hx hb dX7_whyNot_87 (by decide) (fun c_10 => ?_) (fun c_10 => ?_)
      · have hF := q_if_f c_10 hF
        refine lv_iconst (v := 0) hx hb dX7_whyNot_94 (by decide) ?_
        cases hF
        exact r_iret hx hb hr hlk hS () rfl hP hD dX7_whyNot_95
      · have hF := q_if_t (by first | exact c_10 | exact Classical.not_not.mp c_10) hF
        refine lv_iconst (v := 3) hx hb dX7_whyNot_90 (by decide) ?_
        refine lv_goto (tgt := 95) hx hb dX7_whyNot_91 (by decide) ?_
        cases hF
        exact r_iret hx hb hr hlk hS () rfl hP hD dX7_whyNot_95
    · have hF := q_if_t (by first | exact c_9 | exact Classical.not_not.mp c_9) hF
      refine lv_iconst (v := 1) hx hb dX7_whyNot_79 (by decide) ?_
      refine lv_goto (tgt := 95) hx hb dX7_whyNot_80 (by decide) ?_
      cases hF
      exact r_iret hx hb hr hlk hS () rfl hP hD dX7_whyNot_95
  have hF := q_if_f k_8 hF
  by_cases k_11 : a1 = 3
  · have hF := q_if_t k_11 hF
    refine gtop (y := 3) k_11 ?_
    refine lv_tableIn (tgt := 96) (off := 95) hx hb dX7_whyNot_1 (by decide) (by decide) rfl (by decide) ?_
    refine lv_aload_n hx hb dX7_whyNot_96 rfl (lv_at hl 0 rfl) ?_
    refine va_get (D := g.1) (ci := 7) (v := .int (σM 99 6)) (C := RX7) (T := TX7) (N := 34) hx hb hts hi7 hown hK hP 0 rfl rfl 6 (by decide) (hts (.fieldLink RX7 127 "PanTalesModel" "heat" "I") (by decide +kernel)) (fun _ h9 => h9) rfl dX7_whyNot_97 ?_
    refine lv_if_ne (tgt := 107) hx hb dX7_whyNot_100 (by decide) (fun c_12 => ?_) (fun c_12 => ?_)
    · have hF := q_if_f c_12 hF
      refine lv_iconst (v := 0) hx hb dX7_whyNot_107 (by decide) ?_
      cases hF
      exact r_iret hx hb hr hlk hS () rfl hP hD dX7_whyNot_108
    · have hF := q_if_t (by first | exact c_12 | exact Classical.not_not.mp c_12) hF
      refine lv_iconst (v := 3) hx hb dX7_whyNot_103 (by decide) ?_
      refine lv_goto (tgt := 108) hx hb dX7_whyNot_104 (by decide) ?_
      cases hF
      exact r_iret hx hb hr hlk hS () rfl hP hD dX7_whyNot_108
  have hF := q_if_f k_11 hF
  refine lv_tableOut (tgt := 109) hx hb dX7_whyNot_1 (sw_out 4 (by decide) (by decide) (lt_s (lt_s (lt_s (lt_s lt_0 k_1) k_3) k_8) k_11)) (by decide) ?_
  refine lv_aload_n hx hb dX7_whyNot_109 rfl (lv_at hl 0 rfl) ?_
  refine va_get (D := g.1) (ci := 7) (v := .int (σM 99 8)) (C := RX7) (T := TX7) (N := 34) hx hb hts hi7 hown hK hP 0 rfl rfl 8 (by decide) (hts (.fieldLink RX7 130 "PanTalesModel" "mornings" "I") (by decide +kernel)) (fun _ h9 => h9) rfl dX7_whyNot_110 ?_
  refine lv_bipush (v := 99) hx hb dX7_whyNot_113 (by decide) ?_
  refine lv_icmp_ne (tgt := 122) hx hb dX7_whyNot_115 (by decide) (fun c_13 => ?_) (fun c_13 => ?_)
  · have hF := q_if_f c_13 hF
    refine lv_iconst (v := 0) hx hb dX7_whyNot_122 (by decide) ?_
    cases hF
    exact r_iret hx hb hr hlk hS () rfl hP hD dX7_whyNot_123
  · have hF := q_if_t (by first | exact c_13 | exact Classical.not_not.mp c_13) hF
    refine lv_iconst (v := 4) hx hb dX7_whyNot_118 (by decide) ?_
    refine lv_goto (tgt := 123) hx hb dX7_whyNot_119 (by decide) ?_
    cases hF
    exact r_iret hx hb hr hlk hS () rfl hP hD dX7_whyNot_123
set_option maxHeartbeats 4000000 in
set_option maxRecDepth 100000 in
theorem m_X7_fill (l : Launch) (g : GT) (sz : Nat) (qM : Nat) (AM : Nat → Nat) (σM : qS) (ℓM : qL) (a1 : Int32) (a2 : Int32) (σM' : qS) (hF : f_X7_fill σM ℓM a1 a2 = some σM') : Cv l yX7_fill wsX7_fill { frames := 0, cells := 0, slots := 0, locals := 0 } g sz [.ref qM, .int a1, .int a2] (wX7 g qM AM σM ℓM) (wX7 g qM AM σM' ℓM) := by
  refine gMet_v (cc := cX7_fill) (maxL := 3) (ret := none) (by decide) rfl (Nat.le_of_ble_eq_true rfl) ?_
  intro p e s m args below meth c Z hx hb hr F hlk hnm hK hN hA H locs hP hD hS ls hl
  have hl : lv_has ls 3 [(0, .ref qM), (1, .int a1), (2, .int a2)] := hl
  have F : CallFix p m c cX7_fill 3 s args wsX7_fill RX7 := F
  have hts := F.2.2.2.2
  have hown : s.vm.findClass RX7 = some m.cls := F.2.2.2.1
  have hi7 : ∀ w ∈ u_ws RX7 TX7 34, w ∈ wsX7_fill := by decide +kernel
  dsimp only [f_X7_fill] at hF
  refine lv_aload_n hx hb dX7_fill_0 rfl (lv_at hl 0 rfl) ?_
  refine lv_iload_n hx hb dX7_fill_1 rfl (lv_at hl 1 rfl) ?_
  obtain ⟨σM_1, e_2, hF⟩ := q_bd_s hF
  refine va_put (D := g.1) (ci := 7) (v := .int a1) (ty := .int) (C := RX7) (T := TX7) (N := 34) hx hb hts hi7 tyX7 tyX7_ok nmX7 hown hK hP hD hS 0 rfl rfl 7 (by decide) (hts (.fieldLink RX7 136 "PanTalesModel" "panTale" "I") (by decide +kernel)) (fun _ h9 => h9) rfl (by decide +kernel) rfl rfl (Nat.le_of_ble_eq_true rfl) dX7_fill_2 (fun H locs hP hD hS => ?_)
  have hP : va_P g.1 vwCl (wX7 g qM AM (q_pt σM 7 a1) ℓM) H := hP
  have hD : va_D Z (wX7 g qM AM (q_pt σM 7 a1) ℓM) := hD
  rw [e_2] at hP hD
  refine lv_aload_n hx hb dX7_fill_5 rfl (lv_at hl 0 rfl) ?_
  refine lv_iload_n hx hb dX7_fill_6 rfl (lv_at hl 2 rfl) ?_
  obtain ⟨σM_3, e_4, hF⟩ := q_bd_s hF
  refine va_put (D := g.1) (ci := 7) (v := .int a2) (ty := .int) (C := RX7) (T := TX7) (N := 34) hx hb hts hi7 tyX7 tyX7_ok nmX7 hown hK hP hD hS 0 rfl rfl 6 (by decide) (hts (.fieldLink RX7 127 "PanTalesModel" "heat" "I") (by decide +kernel)) (fun _ h9 => h9) rfl (by decide +kernel) rfl rfl (Nat.le_of_ble_eq_true rfl) dX7_fill_7 (fun H locs hP hD hS => ?_)
  have hP : va_P g.1 vwCl (wX7 g qM AM (q_pt σM_1 6 a2) ℓM) H := hP
  have hD : va_D Z (wX7 g qM AM (q_pt σM_1 6 a2) ℓM) := hD
  rw [e_4] at hP hD
  cases hF
  exact r_vret hx hb hr hlk hS () trivial hP hD dX7_fill_10
set_option maxHeartbeats 4000000 in
set_option maxRecDepth 100000 in
theorem m_X7_carry (l : Launch) (g : GT) (sz : Nat) (qM : Nat) (AM : Nat → Nat) (σM : qS) (ℓM : qL) (a1 : Int32) (σM' : qS) (hF : f_X7_carry σM ℓM a1 = some σM') : Cv l yX7_carry wsX7_carry { frames := 1, cells := 0, slots := 0, locals := 21 } g sz [.ref qM, .int a1] (wX7 g qM AM σM ℓM) (wX7 g qM AM σM' ℓM) := by
  refine gMet_v (cc := cX7_carry) (maxL := 2) (ret := none) (by decide) rfl (Nat.le_of_ble_eq_true rfl) ?_
  intro p e s m args below meth c Z hx hb hr F hlk hnm hK hN hA H locs hP hD hS ls hl
  have hl : lv_has ls 2 [(0, .ref qM), (1, .int a1)] := hl
  have F : CallFix p m c cX7_carry 2 s args wsX7_carry RX7 := F
  have hts := F.2.2.2.2
  have hown : s.vm.findClass RX7 = some m.cls := F.2.2.2.1
  have hi7 : ∀ w ∈ u_ws RX7 TX7 34, w ∈ wsX7_carry := by decide +kernel
  dsimp only [f_X7_carry] at hF
  refine lv_aload_n hx hb dX7_carry_0 rfl (lv_at hl 0 rfl) ?_
  refine lv_aload_n hx hb dX7_carry_1 rfl (lv_at hl 0 rfl) ?_
  refine va_get (D := g.1) (ci := 7) (v := .int (σM 99 6)) (C := RX7) (T := TX7) (N := 34) hx hb hts hi7 hown hK hP 0 rfl rfl 6 (by decide) (hts (.fieldLink RX7 127 "PanTalesModel" "heat" "I") (by decide +kernel)) (fun _ h9 => h9) rfl dX7_carry_2 ?_
  refine lv_aload_n hx hb dX7_carry_5 rfl (lv_at hl 0 rfl) ?_
  refine va_get (D := g.1) (ci := 7) (v := .ref (AM 0)) (C := RX7) (T := TX7) (N := 34) hx hb hts hi7 hown hK hP 0 rfl rfl 0 (by decide) (hts (.fieldLink RX7 7 "PanTalesModel" "roads" "[I") (by decide +kernel)) (fun _ h9 => h9) rfl dX7_carry_6 ?_
  refine lv_bipush (v := 11) hx hb dX7_carry_9 (by decide) ?_
  refine lv_aload_n hx hb dX7_carry_11 rfl (lv_at hl 0 rfl) ?_
  refine va_get (D := g.1) (ci := 7) (v := .int (σM 99 5)) (C := RX7) (T := TX7) (N := 34) hx hb hts hi7 hown hK hP 0 rfl rfl 5 (by decide) (hts (.fieldLink RX7 72 "PanTalesModel" "panPlace" "I") (by decide +kernel)) (fun _ h9 => h9) rfl dX7_carry_12 ?_
  refine lv_imul hx hb dX7_carry_15 ?_
  refine lv_iload_n hx hb dX7_carry_16 rfl (lv_at hl 1 rfl) ?_
  refine lv_iadd hx hb dX7_carry_17 ?_
  obtain ⟨r_1, i_2, e_3, hF⟩ := q_rd_s hF
  refine r_iald (v := r_1) hx hb hK hP 1 rfl i_2 e_3 dX7_carry_18 ?_
  obtain ⟨r_4, h_5, hF⟩ := q_cl_s hF
  refine gcP (As := [.int (σM 99 6), .int r_1]) (rest := [.ref qM]) F (m_X7_cooled l (σM 99 6) r_1 r_4 h_5) gX7_carry_X7_cooled kX7_cooled rfl rfl rfl ⟨(Nat.le_of_ble_eq_true rfl), (Nat.le_of_ble_eq_true rfl)⟩ rfl rfl hl.1 (Nat.le_of_ble_eq_true rfl) dX7_carry_19 ⟨(Nat.le_of_ble_eq_true rfl), (Nat.le_of_ble_eq_true rfl)⟩ ?_
  obtain ⟨σM_6, e_7, hF⟩ := q_bd_s hF
  refine va_put (D := g.1) (ci := 7) (v := .int r_4) (ty := .int) (C := RX7) (T := TX7) (N := 34) hx hb hts hi7 tyX7 tyX7_ok nmX7 hown hK hP hD hS 0 rfl rfl 6 (by decide) (hts (.fieldLink RX7 127 "PanTalesModel" "heat" "I") (by decide +kernel)) (fun _ h9 => h9) rfl (by decide +kernel) rfl rfl (Nat.le_of_ble_eq_true rfl) dX7_carry_22 (fun H locs hP hD hS => ?_)
  have hP : va_P g.1 vwCl (wX7 g qM AM (q_pt σM 6 r_4) ℓM) H := hP
  have hD : va_D Z (wX7 g qM AM (q_pt σM 6 r_4) ℓM) := hD
  rw [e_7] at hP hD
  refine lv_aload_n hx hb dX7_carry_25 rfl (lv_at hl 0 rfl) ?_
  refine lv_iload_n hx hb dX7_carry_26 rfl (lv_at hl 1 rfl) ?_
  obtain ⟨σM_8, e_9, hF⟩ := q_bd_s hF
  refine va_put (D := g.1) (ci := 7) (v := .int a1) (ty := .int) (C := RX7) (T := TX7) (N := 34) hx hb hts hi7 tyX7 tyX7_ok nmX7 hown hK hP hD hS 0 rfl rfl 5 (by decide) (hts (.fieldLink RX7 72 "PanTalesModel" "panPlace" "I") (by decide +kernel)) (fun _ h9 => h9) rfl (by decide +kernel) rfl rfl (Nat.le_of_ble_eq_true rfl) dX7_carry_27 (fun H locs hP hD hS => ?_)
  have hP : va_P g.1 vwCl (wX7 g qM AM (q_pt σM_6 5 a1) ℓM) H := hP
  have hD : va_D Z (wX7 g qM AM (q_pt σM_6 5 a1) ℓM) := hD
  rw [e_9] at hP hD
  cases hF
  exact r_vret hx hb hr hlk hS () trivial hP hD dX7_carry_30
set_option maxHeartbeats 4000000 in
set_option maxRecDepth 100000 in
theorem m_X7_put (l : Launch) (g : GT) (sz : Nat) (qM : Nat) (AM : Nat → Nat) (σM : qS) (ℓM : qL) (σM' : qS) (hF : f_X7_put σM ℓM = some σM') : Cv l yX7_put wsX7_put { frames := 1, cells := 0, slots := 0, locals := 21 } g sz [.ref qM] (wX7 g qM AM σM ℓM) (wX7 g qM AM σM' ℓM) := by
  refine gMet_v (cc := cX7_put) (maxL := 2) (ret := none) (by decide) rfl (Nat.le_of_ble_eq_true rfl) ?_
  intro p e s m args below meth c Z hx hb hr F hlk hnm hK hN hA H locs hP hD hS ls hl
  have hl : lv_has ls 2 [(0, .ref qM)] := hl
  have F : CallFix p m c cX7_put 2 s args wsX7_put RX7 := F
  have hts := F.2.2.2.2
  have hown : s.vm.findClass RX7 = some m.cls := F.2.2.2.1
  have hi7 : ∀ w ∈ u_ws RX7 TX7 34, w ∈ wsX7_put := by decide +kernel
  dsimp only [f_X7_put] at hF
  refine lv_aload_n hx hb dX7_put_0 rfl (lv_at hl 0 rfl) ?_
  refine va_get (D := g.1) (ci := 7) (v := .int (σM 99 5)) (C := RX7) (T := TX7) (N := 34) hx hb hts hi7 hown hK hP 0 rfl rfl 5 (by decide) (hts (.fieldLink RX7 72 "PanTalesModel" "panPlace" "I") (by decide +kernel)) (fun _ h9 => h9) rfl dX7_put_1 ?_
  obtain ⟨v1_1, e_2, hF⟩ := q_bd_s hF
  refine gtop e_2 ?_
  refine lv_istore_n (lv' := [(1, .int v1_1), (0, .ref qM)]) hx hb dX7_put_4 rfl hl (by decide) rfl (fun ls hl => ?_)
  refine lv_aload_n hx hb dX7_put_5 rfl (lv_at hl 1 rfl) ?_
  refine va_get (D := g.1) (ci := 7) (v := .ref (AM 2)) (C := RX7) (T := TX7) (N := 34) hx hb hts hi7 hown hK hP 0 rfl rfl 2 (by decide) (hts (.fieldLink RX7 16 "PanTalesModel" "damp" "[I") (by decide +kernel)) (fun _ h9 => h9) rfl dX7_put_6 ?_
  refine lv_iload_n hx hb dX7_put_9 rfl (lv_at hl 0 rfl) ?_
  obtain ⟨r_3, i_4, e_5, hF⟩ := q_rd_s hF
  refine r_iald (v := r_3) hx hb hK hP 3 rfl i_4 e_5 dX7_put_10 ?_
  refine lv_iconst (v := 1) hx hb dX7_put_11 (by decide) ?_
  refine lv_icmp_ne (tgt := 29) hx hb dX7_put_12 (by decide) (fun c_6 => ?_) (fun c_6 => ?_)
  · have hF := q_if_f c_6 hF
    refine lv_aload_n hx hb dX7_put_29 rfl (lv_at hl 1 rfl) ?_
    refine va_get (D := g.1) (ci := 7) (v := .int (σM 99 6)) (C := RX7) (T := TX7) (N := 34) hx hb hts hi7 hown hK hP 0 rfl rfl 6 (by decide) (hts (.fieldLink RX7 127 "PanTalesModel" "heat" "I") (by decide +kernel)) (fun _ h9 => h9) rfl dX7_put_30 ?_
    refine lv_bipush (v := 9) hx hb dX7_put_33 (by decide) ?_
    refine lv_aload_n hx hb dX7_put_35 rfl (lv_at hl 1 rfl) ?_
    refine va_get (D := g.1) (ci := 7) (v := .ref (AM 1)) (C := RX7) (T := TX7) (N := 34) hx hb hts hi7 hown hK hP 0 rfl rfl 1 (by decide) (hts (.fieldLink RX7 13 "PanTalesModel" "doubt" "[I") (by decide +kernel)) (fun _ h9 => h9) rfl dX7_put_36 ?_
    refine lv_iload_n hx hb dX7_put_39 rfl (lv_at hl 0 rfl) ?_
    obtain ⟨r_7, i_8, e_9, hF⟩ := q_rd_s hF
    refine r_iald (v := r_7) hx hb hK hP 2 rfl i_8 e_9 dX7_put_40 ?_
    refine lv_imul hx hb dX7_put_41 ?_
    refine lv_icmp_le (tgt := 58) hx hb dX7_put_42 (by decide) (fun c_10 => ?_) (fun c_10 => ?_)
    · have hF := q_if_t c_10 hF
      refine lv_aload_n hx hb dX7_put_58 rfl (lv_at hl 1 rfl) ?_
      refine va_get (D := g.1) (ci := 7) (v := .ref (AM 1)) (C := RX7) (T := TX7) (N := 34) hx hb hts hi7 hown hK hP 0 rfl rfl 1 (by decide) (hts (.fieldLink RX7 13 "PanTalesModel" "doubt" "[I") (by decide +kernel)) (fun _ h9 => h9) rfl dX7_put_59 ?_
      refine lv_iload_n hx hb dX7_put_62 rfl (lv_at hl 0 rfl) ?_
      refine lv_aload_n hx hb dX7_put_63 rfl (lv_at hl 1 rfl) ?_
      refine va_get (D := g.1) (ci := 7) (v := .ref (AM 1)) (C := RX7) (T := TX7) (N := 34) hx hb hts hi7 hown hK hP 0 rfl rfl 1 (by decide) (hts (.fieldLink RX7 13 "PanTalesModel" "doubt" "[I") (by decide +kernel)) (fun _ h9 => h9) rfl dX7_put_64 ?_
      refine lv_iload_n hx hb dX7_put_67 rfl (lv_at hl 0 rfl) ?_
      obtain ⟨r_11, i_12, e_13, hF⟩ := q_rd_s hF
      refine r_iald (v := r_11) hx hb hK hP 2 rfl i_12 e_13 dX7_put_68 ?_
      refine lv_bipush (v := 9) hx hb dX7_put_69 (by decide) ?_
      refine lv_icmp_ge (tgt := 85) hx hb dX7_put_71 (by decide) (fun c_14 => ?_) (fun c_14 => ?_)
      · have hF := q_if_t c_14 hF
        refine lv_bipush (v := 9) hx hb dX7_put_85 (by decide) ?_
        obtain ⟨σM_15, i_16, e_17, hF⟩ := q_wr_s hF
        refine r_iast (f' := upd (σM 1) v1_1.toNatClampNeg (9 : Int32)) hx hb hK hP hD hS 2 rfl i_16 (fun _ _ => rfl) dX7_put_87 (fun H locs hP hD hS => ?_)
        have hP : va_P g.1 vwCl (wX7 g qM AM (q_up σM 1 (upd (σM 1) v1_1.toNatClampNeg (9 : Int32))) ℓM) H := hP
        have hD : va_D Z (wX7 g qM AM (q_up σM 1 (upd (σM 1) v1_1.toNatClampNeg (9 : Int32))) ℓM) := hD
        rw [e_17] at hP hD
        refine lv_aload_n hx hb dX7_put_88 rfl (lv_at hl 1 rfl) ?_
        refine lv_aload_n hx hb dX7_put_89 rfl (lv_at hl 1 rfl) ?_
        refine va_get (D := g.1) (ci := 7) (v := .int (σM_15 99 6)) (C := RX7) (T := TX7) (N := 34) hx hb hts hi7 hown hK hP 0 rfl rfl 6 (by decide) (hts (.fieldLink RX7 127 "PanTalesModel" "heat" "I") (by decide +kernel)) (fun _ h9 => h9) rfl dX7_put_90 ?_
        refine lv_iconst (v := 5) hx hb dX7_put_93 (by decide) ?_
        obtain ⟨r_18, h_19, hF⟩ := q_cl_s hF
        refine gcP (As := [.int (σM_15 99 6), .int 5]) (rest := [.ref qM]) F (m_X7_cooled l (σM_15 99 6) (5 : Int32) r_18 h_19) gX7_put_X7_cooled kX7_cooled rfl rfl rfl ⟨(Nat.le_of_ble_eq_true rfl), (Nat.le_of_ble_eq_true rfl)⟩ rfl rfl hl.1 (Nat.le_of_ble_eq_true rfl) dX7_put_94 ⟨(Nat.le_of_ble_eq_true rfl), (Nat.le_of_ble_eq_true rfl)⟩ ?_
        obtain ⟨σM_20, e_21, hF⟩ := q_bd_s hF
        refine va_put (D := g.1) (ci := 7) (v := .int r_18) (ty := .int) (C := RX7) (T := TX7) (N := 34) hx hb hts hi7 tyX7 tyX7_ok nmX7 hown hK hP hD hS 0 rfl rfl 6 (by decide) (hts (.fieldLink RX7 127 "PanTalesModel" "heat" "I") (by decide +kernel)) (fun _ h9 => h9) rfl (by decide +kernel) rfl rfl (Nat.le_of_ble_eq_true rfl) dX7_put_97 (fun H locs hP hD hS => ?_)
        have hP : va_P g.1 vwCl (wX7 g qM AM (q_pt σM_15 6 r_18) ℓM) H := hP
        have hD : va_D Z (wX7 g qM AM (q_pt σM_15 6 r_18) ℓM) := hD
        rw [e_21] at hP hD
        cases hF
        exact r_vret hx hb hr hlk hS () trivial hP hD dX7_put_100
      · have hF := q_if_f c_14 hF
        refine lv_aload_n hx hb dX7_put_74 rfl (lv_at hl 1 rfl) ?_
        refine va_get (D := g.1) (ci := 7) (v := .ref (AM 1)) (C := RX7) (T := TX7) (N := 34) hx hb hts hi7 hown hK hP 0 rfl rfl 1 (by decide) (hts (.fieldLink RX7 13 "PanTalesModel" "doubt" "[I") (by decide +kernel)) (fun _ h9 => h9) rfl dX7_put_75 ?_
        refine lv_iload_n hx hb dX7_put_78 rfl (lv_at hl 0 rfl) ?_
        obtain ⟨r_22, i_23, e_24, hF⟩ := q_rd_s hF
        refine r_iald (v := r_22) hx hb hK hP 2 rfl i_23 e_24 dX7_put_79 ?_
        refine lv_iconst (v := 1) hx hb dX7_put_80 (by decide) ?_
        refine lv_iadd hx hb dX7_put_81 ?_
        refine lv_goto (tgt := 87) hx hb dX7_put_82 (by decide) ?_
        obtain ⟨σM_25, i_26, e_27, hF⟩ := q_wr_s hF
        refine r_iast (f' := upd (σM 1) v1_1.toNatClampNeg (r_22 + 1)) hx hb hK hP hD hS 2 rfl i_26 (fun _ _ => rfl) dX7_put_87 (fun H locs hP hD hS => ?_)
        have hP : va_P g.1 vwCl (wX7 g qM AM (q_up σM 1 (upd (σM 1) v1_1.toNatClampNeg (r_22 + 1))) ℓM) H := hP
        have hD : va_D Z (wX7 g qM AM (q_up σM 1 (upd (σM 1) v1_1.toNatClampNeg (r_22 + 1))) ℓM) := hD
        rw [e_27] at hP hD
        refine lv_aload_n hx hb dX7_put_88 rfl (lv_at hl 1 rfl) ?_
        refine lv_aload_n hx hb dX7_put_89 rfl (lv_at hl 1 rfl) ?_
        refine va_get (D := g.1) (ci := 7) (v := .int (σM_25 99 6)) (C := RX7) (T := TX7) (N := 34) hx hb hts hi7 hown hK hP 0 rfl rfl 6 (by decide) (hts (.fieldLink RX7 127 "PanTalesModel" "heat" "I") (by decide +kernel)) (fun _ h9 => h9) rfl dX7_put_90 ?_
        refine lv_iconst (v := 5) hx hb dX7_put_93 (by decide) ?_
        obtain ⟨r_28, h_29, hF⟩ := q_cl_s hF
        refine gcP (As := [.int (σM_25 99 6), .int 5]) (rest := [.ref qM]) F (m_X7_cooled l (σM_25 99 6) (5 : Int32) r_28 h_29) gX7_put_X7_cooled kX7_cooled rfl rfl rfl ⟨(Nat.le_of_ble_eq_true rfl), (Nat.le_of_ble_eq_true rfl)⟩ rfl rfl hl.1 (Nat.le_of_ble_eq_true rfl) dX7_put_94 ⟨(Nat.le_of_ble_eq_true rfl), (Nat.le_of_ble_eq_true rfl)⟩ ?_
        obtain ⟨σM_30, e_31, hF⟩ := q_bd_s hF
        refine va_put (D := g.1) (ci := 7) (v := .int r_28) (ty := .int) (C := RX7) (T := TX7) (N := 34) hx hb hts hi7 tyX7 tyX7_ok nmX7 hown hK hP hD hS 0 rfl rfl 6 (by decide) (hts (.fieldLink RX7 127 "PanTalesModel" "heat" "I") (by decide +kernel)) (fun _ h9 => h9) rfl (by decide +kernel) rfl rfl (Nat.le_of_ble_eq_true rfl) dX7_put_97 (fun H locs hP hD hS => ?_)
        have hP : va_P g.1 vwCl (wX7 g qM AM (q_pt σM_25 6 r_28) ℓM) H := hP
        have hD : va_D Z (wX7 g qM AM (q_pt σM_25 6 r_28) ℓM) := hD
        rw [e_31] at hP hD
        cases hF
        exact r_vret hx hb hr hlk hS () trivial hP hD dX7_put_100
    · have hF := q_if_f c_10 hF
      refine lv_aload_n hx hb dX7_put_45 rfl (lv_at hl 1 rfl) ?_
      refine va_get (D := g.1) (ci := 7) (v := .ref (AM 3)) (C := RX7) (T := TX7) (N := 34) hx hb hts hi7 hown hK hP 0 rfl rfl 3 (by decide) (hts (.fieldLink RX7 19 "PanTalesModel" "believes" "[I") (by decide +kernel)) (fun _ h9 => h9) rfl dX7_put_46 ?_
      refine lv_iload_n hx hb dX7_put_49 rfl (lv_at hl 0 rfl) ?_
      refine lv_aload_n hx hb dX7_put_50 rfl (lv_at hl 1 rfl) ?_
      refine va_get (D := g.1) (ci := 7) (v := .int (σM 99 7)) (C := RX7) (T := TX7) (N := 34) hx hb hts hi7 hown hK hP 0 rfl rfl 7 (by decide) (hts (.fieldLink RX7 136 "PanTalesModel" "panTale" "I") (by decide +kernel)) (fun _ h9 => h9) rfl dX7_put_51 ?_
      obtain ⟨σM_32, i_33, e_34, hF⟩ := q_wr_s hF
      refine r_iast (f' := upd (σM 3) v1_1.toNatClampNeg (σM 99 7)) hx hb hK hP hD hS 4 rfl i_33 (fun _ _ => rfl) dX7_put_54 (fun H locs hP hD hS => ?_)
      have hP : va_P g.1 vwCl (wX7 g qM AM (q_up σM 3 (upd (σM 3) v1_1.toNatClampNeg (σM 99 7))) ℓM) H := hP
      have hD : va_D Z (wX7 g qM AM (q_up σM 3 (upd (σM 3) v1_1.toNatClampNeg (σM 99 7))) ℓM) := hD
      rw [e_34] at hP hD
      refine lv_goto (tgt := 88) hx hb dX7_put_55 (by decide) ?_
      refine lv_aload_n hx hb dX7_put_88 rfl (lv_at hl 1 rfl) ?_
      refine lv_aload_n hx hb dX7_put_89 rfl (lv_at hl 1 rfl) ?_
      refine va_get (D := g.1) (ci := 7) (v := .int (σM_32 99 6)) (C := RX7) (T := TX7) (N := 34) hx hb hts hi7 hown hK hP 0 rfl rfl 6 (by decide) (hts (.fieldLink RX7 127 "PanTalesModel" "heat" "I") (by decide +kernel)) (fun _ h9 => h9) rfl dX7_put_90 ?_
      refine lv_iconst (v := 5) hx hb dX7_put_93 (by decide) ?_
      obtain ⟨r_35, h_36, hF⟩ := q_cl_s hF
      refine gcP (As := [.int (σM_32 99 6), .int 5]) (rest := [.ref qM]) F (m_X7_cooled l (σM_32 99 6) (5 : Int32) r_35 h_36) gX7_put_X7_cooled kX7_cooled rfl rfl rfl ⟨(Nat.le_of_ble_eq_true rfl), (Nat.le_of_ble_eq_true rfl)⟩ rfl rfl hl.1 (Nat.le_of_ble_eq_true rfl) dX7_put_94 ⟨(Nat.le_of_ble_eq_true rfl), (Nat.le_of_ble_eq_true rfl)⟩ ?_
      obtain ⟨σM_37, e_38, hF⟩ := q_bd_s hF
      refine va_put (D := g.1) (ci := 7) (v := .int r_35) (ty := .int) (C := RX7) (T := TX7) (N := 34) hx hb hts hi7 tyX7 tyX7_ok nmX7 hown hK hP hD hS 0 rfl rfl 6 (by decide) (hts (.fieldLink RX7 127 "PanTalesModel" "heat" "I") (by decide +kernel)) (fun _ h9 => h9) rfl (by decide +kernel) rfl rfl (Nat.le_of_ble_eq_true rfl) dX7_put_97 (fun H locs hP hD hS => ?_)
      have hP : va_P g.1 vwCl (wX7 g qM AM (q_pt σM_32 6 r_35) ℓM) H := hP
      have hD : va_D Z (wX7 g qM AM (q_pt σM_32 6 r_35) ℓM) := hD
      rw [e_38] at hP hD
      cases hF
      exact r_vret hx hb hr hlk hS () trivial hP hD dX7_put_100
  · have hF := q_if_t (by first | exact c_6 | exact Classical.not_not.mp c_6) hF
    refine lv_aload_n hx hb dX7_put_15 rfl (lv_at hl 1 rfl) ?_
    refine lv_aload_n hx hb dX7_put_16 rfl (lv_at hl 1 rfl) ?_
    refine va_get (D := g.1) (ci := 7) (v := .int (σM 99 6)) (C := RX7) (T := TX7) (N := 34) hx hb hts hi7 hown hK hP 0 rfl rfl 6 (by decide) (hts (.fieldLink RX7 127 "PanTalesModel" "heat" "I") (by decide +kernel)) (fun _ h9 => h9) rfl dX7_put_17 ?_
    refine lv_bipush (v := 10) hx hb dX7_put_20 (by decide) ?_
    obtain ⟨r_39, h_40, hF⟩ := q_cl_s hF
    refine gcP (As := [.int (σM 99 6), .int 10]) (rest := [.ref qM]) F (m_X7_cooled l (σM 99 6) (10 : Int32) r_39 h_40) gX7_put_X7_cooled kX7_cooled rfl rfl rfl ⟨(Nat.le_of_ble_eq_true rfl), (Nat.le_of_ble_eq_true rfl)⟩ rfl rfl hl.1 (Nat.le_of_ble_eq_true rfl) dX7_put_22 ⟨(Nat.le_of_ble_eq_true rfl), (Nat.le_of_ble_eq_true rfl)⟩ ?_
    obtain ⟨σM_41, e_42, hF⟩ := q_bd_s hF
    refine va_put (D := g.1) (ci := 7) (v := .int r_39) (ty := .int) (C := RX7) (T := TX7) (N := 34) hx hb hts hi7 tyX7 tyX7_ok nmX7 hown hK hP hD hS 0 rfl rfl 6 (by decide) (hts (.fieldLink RX7 127 "PanTalesModel" "heat" "I") (by decide +kernel)) (fun _ h9 => h9) rfl (by decide +kernel) rfl rfl (Nat.le_of_ble_eq_true rfl) dX7_put_25 (fun H locs hP hD hS => ?_)
    have hP : va_P g.1 vwCl (wX7 g qM AM (q_pt σM 6 r_39) ℓM) H := hP
    have hD : va_D Z (wX7 g qM AM (q_pt σM 6 r_39) ℓM) := hD
    rw [e_42] at hP hD
    cases hF
    exact r_vret hx hb hr hlk hS () trivial hP hD dX7_put_28
set_option maxHeartbeats 4000000 in
set_option maxRecDepth 100000 in
theorem m_X7_stir (l : Launch) (g : GT) (sz : Nat) (qM : Nat) (AM : Nat → Nat) (σM : qS) (ℓM : qL) (σM' : qS) (hF : f_X7_stir σM ℓM = some σM') : Cv l yX7_stir wsX7_stir { frames := 0, cells := 0, slots := 0, locals := 0 } g sz [.ref qM] (wX7 g qM AM σM ℓM) (wX7 g qM AM σM' ℓM) := by
  refine gMet_v (cc := cX7_stir) (maxL := 1) (ret := none) (by decide) rfl (Nat.le_of_ble_eq_true rfl) ?_
  intro p e s m args below meth c Z hx hb hr F hlk hnm hK hN hA H locs hP hD hS ls hl
  have hl : lv_has ls 1 [(0, .ref qM)] := hl
  have F : CallFix p m c cX7_stir 1 s args wsX7_stir RX7 := F
  have hts := F.2.2.2.2
  have hown : s.vm.findClass RX7 = some m.cls := F.2.2.2.1
  have hi7 : ∀ w ∈ u_ws RX7 TX7 34, w ∈ wsX7_stir := by decide +kernel
  dsimp only [f_X7_stir] at hF
  refine lv_aload_n hx hb dX7_stir_0 rfl (lv_at hl 0 rfl) ?_
  refine lv_aload_n hx hb dX7_stir_1 rfl (lv_at hl 0 rfl) ?_
  refine va_get (D := g.1) (ci := 7) (v := .int (σM 99 6)) (C := RX7) (T := TX7) (N := 34) hx hb hts hi7 hown hK hP 0 rfl rfl 6 (by decide) (hts (.fieldLink RX7 127 "PanTalesModel" "heat" "I") (by decide +kernel)) (fun _ h9 => h9) rfl dX7_stir_2 ?_
  refine lv_bipush (v := 10) hx hb dX7_stir_5 (by decide) ?_
  refine lv_iadd hx hb dX7_stir_7 ?_
  refine lv_bipush (v := 99) hx hb dX7_stir_8 (by decide) ?_
  refine lv_icmp_le (tgt := 18) hx hb dX7_stir_10 (by decide) (fun c_1 => ?_) (fun c_1 => ?_)
  · have hF := q_if_t c_1 hF
    refine lv_aload_n hx hb dX7_stir_18 rfl (lv_at hl 0 rfl) ?_
    refine va_get (D := g.1) (ci := 7) (v := .int (σM 99 6)) (C := RX7) (T := TX7) (N := 34) hx hb hts hi7 hown hK hP 0 rfl rfl 6 (by decide) (hts (.fieldLink RX7 127 "PanTalesModel" "heat" "I") (by decide +kernel)) (fun _ h9 => h9) rfl dX7_stir_19 ?_
    refine lv_bipush (v := 10) hx hb dX7_stir_22 (by decide) ?_
    refine lv_iadd hx hb dX7_stir_24 ?_
    obtain ⟨σM_2, e_3, hF⟩ := q_bd_s hF
    refine va_put (D := g.1) (ci := 7) (v := .int ((σM 99 6) + 10)) (ty := .int) (C := RX7) (T := TX7) (N := 34) hx hb hts hi7 tyX7 tyX7_ok nmX7 hown hK hP hD hS 0 rfl rfl 6 (by decide) (hts (.fieldLink RX7 127 "PanTalesModel" "heat" "I") (by decide +kernel)) (fun _ h9 => h9) rfl (by decide +kernel) rfl rfl (Nat.le_of_ble_eq_true rfl) dX7_stir_25 (fun H locs hP hD hS => ?_)
    have hP : va_P g.1 vwCl (wX7 g qM AM (q_pt σM 6 ((σM 99 6) + 10)) ℓM) H := hP
    have hD : va_D Z (wX7 g qM AM (q_pt σM 6 ((σM 99 6) + 10)) ℓM) := hD
    rw [e_3] at hP hD
    refine lv_aload_n hx hb dX7_stir_28 rfl (lv_at hl 0 rfl) ?_
    refine lv_aload_n hx hb dX7_stir_29 rfl (lv_at hl 0 rfl) ?_
    refine va_get (D := g.1) (ci := 7) (v := .ref (AM 4)) (C := RX7) (T := TX7) (N := 34) hx hb hts hi7 hown hK hP 0 rfl rfl 4 (by decide) (hts (.fieldLink RX7 22 "PanTalesModel" "fades" "[I") (by decide +kernel)) (fun _ h9 => h9) rfl dX7_stir_30 ?_
    refine lv_aload_n hx hb dX7_stir_33 rfl (lv_at hl 0 rfl) ?_
    refine va_get (D := g.1) (ci := 7) (v := .int (σM_2 99 7)) (C := RX7) (T := TX7) (N := 34) hx hb hts hi7 hown hK hP 0 rfl rfl 7 (by decide) (hts (.fieldLink RX7 136 "PanTalesModel" "panTale" "I") (by decide +kernel)) (fun _ h9 => h9) rfl dX7_stir_34 ?_
    obtain ⟨r_4, i_5, e_6, hF⟩ := q_rd_s hF
    refine r_iald (v := r_4) hx hb hK hP 5 rfl i_5 e_6 dX7_stir_37 ?_
    obtain ⟨σM_7, e_8, hF⟩ := q_bd_s hF
    refine va_put (D := g.1) (ci := 7) (v := .int r_4) (ty := .int) (C := RX7) (T := TX7) (N := 34) hx hb hts hi7 tyX7 tyX7_ok nmX7 hown hK hP hD hS 0 rfl rfl 7 (by decide) (hts (.fieldLink RX7 136 "PanTalesModel" "panTale" "I") (by decide +kernel)) (fun _ h9 => h9) rfl (by decide +kernel) rfl rfl (Nat.le_of_ble_eq_true rfl) dX7_stir_38 (fun H locs hP hD hS => ?_)
    have hP : va_P g.1 vwCl (wX7 g qM AM (q_pt σM_2 7 r_4) ℓM) H := hP
    have hD : va_D Z (wX7 g qM AM (q_pt σM_2 7 r_4) ℓM) := hD
    rw [e_8] at hP hD
    cases hF
    exact r_vret hx hb hr hlk hS () trivial hP hD dX7_stir_41
  · have hF := q_if_f c_1 hF
    refine lv_bipush (v := 99) hx hb dX7_stir_13 (by decide) ?_
    refine lv_goto (tgt := 25) hx hb dX7_stir_15 (by decide) ?_
    obtain ⟨σM_9, e_10, hF⟩ := q_bd_s hF
    refine va_put (D := g.1) (ci := 7) (v := .int 99) (ty := .int) (C := RX7) (T := TX7) (N := 34) hx hb hts hi7 tyX7 tyX7_ok nmX7 hown hK hP hD hS 0 rfl rfl 6 (by decide) (hts (.fieldLink RX7 127 "PanTalesModel" "heat" "I") (by decide +kernel)) (fun _ h9 => h9) rfl (by decide +kernel) rfl rfl (Nat.le_of_ble_eq_true rfl) dX7_stir_25 (fun H locs hP hD hS => ?_)
    have hP : va_P g.1 vwCl (wX7 g qM AM (q_pt σM 6 (99 : Int32)) ℓM) H := hP
    have hD : va_D Z (wX7 g qM AM (q_pt σM 6 (99 : Int32)) ℓM) := hD
    rw [e_10] at hP hD
    refine lv_aload_n hx hb dX7_stir_28 rfl (lv_at hl 0 rfl) ?_
    refine lv_aload_n hx hb dX7_stir_29 rfl (lv_at hl 0 rfl) ?_
    refine va_get (D := g.1) (ci := 7) (v := .ref (AM 4)) (C := RX7) (T := TX7) (N := 34) hx hb hts hi7 hown hK hP 0 rfl rfl 4 (by decide) (hts (.fieldLink RX7 22 "PanTalesModel" "fades" "[I") (by decide +kernel)) (fun _ h9 => h9) rfl dX7_stir_30 ?_
    refine lv_aload_n hx hb dX7_stir_33 rfl (lv_at hl 0 rfl) ?_
    refine va_get (D := g.1) (ci := 7) (v := .int (σM_9 99 7)) (C := RX7) (T := TX7) (N := 34) hx hb hts hi7 hown hK hP 0 rfl rfl 7 (by decide) (hts (.fieldLink RX7 136 "PanTalesModel" "panTale" "I") (by decide +kernel)) (fun _ h9 => h9) rfl dX7_stir_34 ?_
    obtain ⟨r_11, i_12, e_13, hF⟩ := q_rd_s hF
    refine r_iald (v := r_11) hx hb hK hP 5 rfl i_12 e_13 dX7_stir_37 ?_
    obtain ⟨σM_14, e_15, hF⟩ := q_bd_s hF
    refine va_put (D := g.1) (ci := 7) (v := .int r_11) (ty := .int) (C := RX7) (T := TX7) (N := 34) hx hb hts hi7 tyX7 tyX7_ok nmX7 hown hK hP hD hS 0 rfl rfl 7 (by decide) (hts (.fieldLink RX7 136 "PanTalesModel" "panTale" "I") (by decide +kernel)) (fun _ h9 => h9) rfl (by decide +kernel) rfl rfl (Nat.le_of_ble_eq_true rfl) dX7_stir_38 (fun H locs hP hD hS => ?_)
    have hP : va_P g.1 vwCl (wX7 g qM AM (q_pt σM_9 7 r_11) ℓM) H := hP
    have hD : va_D Z (wX7 g qM AM (q_pt σM_9 7 r_11) ℓM) := hD
    rw [e_15] at hP hD
    cases hF
    exact r_vret hx hb hr hlk hS () trivial hP hD dX7_stir_41
set_option maxHeartbeats 4000000 in
set_option maxRecDepth 100000 in
theorem m_X7_morning (l : Launch) (g : GT) (sz : Nat) (qM : Nat) (AM : Nat → Nat) (σM : qS) (ℓM : qL) (σM' : qS) (hF : f_X7_morning σM ℓM = some σM') : Cv l yX7_morning wsX7_morning { frames := 0, cells := 0, slots := 0, locals := 0 } g sz [.ref qM] (wX7 g qM AM σM ℓM) (wX7 g qM AM σM' ℓM) := by
  refine gMet_v (cc := cX7_morning) (maxL := 2) (ret := none) (by decide) rfl (Nat.le_of_ble_eq_true rfl) ?_
  intro p e s m args below meth c Z hx hb hr F hlk hnm hK hN hA H locs hP hD hS ls hl
  have hl : lv_has ls 2 [(0, .ref qM)] := hl
  have F : CallFix p m c cX7_morning 2 s args wsX7_morning RX7 := F
  have hts := F.2.2.2.2
  have hown : s.vm.findClass RX7 = some m.cls := F.2.2.2.1
  have hi7 : ∀ w ∈ u_ws RX7 TX7 34, w ∈ wsX7_morning := by decide +kernel
  dsimp only [f_X7_morning] at hF
  refine lv_aload_n hx hb dX7_morning_0 rfl (lv_at hl 0 rfl) ?_
  refine lv_bipush (v := 10) hx hb dX7_morning_1 (by decide) ?_
  obtain ⟨σM_1, e_2, hF⟩ := q_bd_s hF
  refine va_put (D := g.1) (ci := 7) (v := .int 10) (ty := .int) (C := RX7) (T := TX7) (N := 34) hx hb hts hi7 tyX7 tyX7_ok nmX7 hown hK hP hD hS 0 rfl rfl 5 (by decide) (hts (.fieldLink RX7 72 "PanTalesModel" "panPlace" "I") (by decide +kernel)) (fun _ h9 => h9) rfl (by decide +kernel) rfl rfl (Nat.le_of_ble_eq_true rfl) dX7_morning_3 (fun H locs hP hD hS => ?_)
  have hP : va_P g.1 vwCl (wX7 g qM AM (q_pt σM 5 (10 : Int32)) ℓM) H := hP
  have hD : va_D Z (wX7 g qM AM (q_pt σM 5 (10 : Int32)) ℓM) := hD
  rw [e_2] at hP hD
  refine lv_aload_n hx hb dX7_morning_6 rfl (lv_at hl 0 rfl) ?_
  refine lv_iconst (v := 0) hx hb dX7_morning_7 (by decide) ?_
  obtain ⟨σM_3, e_4, hF⟩ := q_bd_s hF
  refine va_put (D := g.1) (ci := 7) (v := .int 0) (ty := .int) (C := RX7) (T := TX7) (N := 34) hx hb hts hi7 tyX7 tyX7_ok nmX7 hown hK hP hD hS 0 rfl rfl 6 (by decide) (hts (.fieldLink RX7 127 "PanTalesModel" "heat" "I") (by decide +kernel)) (fun _ h9 => h9) rfl (by decide +kernel) rfl rfl (Nat.le_of_ble_eq_true rfl) dX7_morning_8 (fun H locs hP hD hS => ?_)
  have hP : va_P g.1 vwCl (wX7 g qM AM (q_pt σM_1 6 (0 : Int32)) ℓM) H := hP
  have hD : va_D Z (wX7 g qM AM (q_pt σM_1 6 (0 : Int32)) ℓM) := hD
  rw [e_4] at hP hD
  refine lv_iconst (v := 0) hx hb dX7_morning_11 (by decide) ?_
  refine lv_istore_n (lv' := [(1, .int 0), (0, .ref qM)]) hx hb dX7_morning_12 rfl hl (by decide) rfl (fun ls hl => ?_)
  refine q_loop (fun u0 => wX7 g qM AM u0.2 ℓM) (fun u0 => [(1, .int u0.1), (0, .ref qM)]) 32 hF ?_ ?_ hP hD hS (lv_sub hl [0, 1] rfl)
  · rintro ⟨v1_5, σM_5⟩ hF H locs ls hP hD hS hl
    try dsimp only at hF
    have hP : va_P g.1 vwCl (wX7 g qM AM σM_5 ℓM) H := hP
    have hD : va_D Z (wX7 g qM AM σM_5 ℓM) := hD
    have hl : lv_has ls 2 [(1, .int v1_5), (0, .ref qM)] := hl
    refine lv_aload_n hx hb dX7_morning_32 rfl (lv_at hl 1 rfl) ?_
    refine lv_dup hx hb dX7_morning_33 rfl ?_
    refine va_get (D := g.1) (ci := 7) (v := .int (σM_5 99 8)) (C := RX7) (T := TX7) (N := 34) hx hb hts hi7 hown hK hP 0 rfl rfl 8 (by decide) (hts (.fieldLink RX7 130 "PanTalesModel" "mornings" "I") (by decide +kernel)) (fun _ h9 => h9) rfl dX7_morning_34 ?_
    refine lv_iconst (v := 1) hx hb dX7_morning_37 (by decide) ?_
    refine lv_iadd hx hb dX7_morning_38 ?_
    obtain ⟨σM_6, e_7, hF⟩ := q_bd_s hF
    refine va_put (D := g.1) (ci := 7) (v := .int ((σM_5 99 8) + 1)) (ty := .int) (C := RX7) (T := TX7) (N := 34) hx hb hts hi7 tyX7 tyX7_ok nmX7 hown hK hP hD hS 0 rfl rfl 8 (by decide) (hts (.fieldLink RX7 130 "PanTalesModel" "mornings" "I") (by decide +kernel)) (fun _ h9 => h9) rfl (by decide +kernel) rfl rfl (Nat.le_of_ble_eq_true rfl) dX7_morning_39 (fun H locs hP hD hS => ?_)
    have hP : va_P g.1 vwCl (wX7 g qM AM (q_pt σM_5 8 ((σM_5 99 8) + 1)) ℓM) H := hP
    have hD : va_D Z (wX7 g qM AM (q_pt σM_5 8 ((σM_5 99 8) + 1)) ℓM) := hD
    rw [e_7] at hP hD
    cases hF
    exact r_vret hx hb hr hlk hS () trivial hP hD dX7_morning_42
  · rintro k again kk ag ⟨v1_5, σM_5⟩ hF H locs ls hP hD hS hl
    dsimp only [b_X7_morning_13] at hF
    have hP : va_P g.1 vwCl (wX7 g qM AM σM_5 ℓM) H := hP
    have hD : va_D Z (wX7 g qM AM σM_5 ℓM) := hD
    have hl : lv_has ls 2 [(1, .int v1_5), (0, .ref qM)] := hl
    refine lv_iload_n hx hb dX7_morning_13 rfl (lv_at hl 0 rfl) ?_
    refine lv_bipush (v := 10) hx hb dX7_morning_14 (by decide) ?_
    refine lv_icmp_ge (tgt := 32) hx hb dX7_morning_16 (by decide) (fun c_8 => ?_) (fun c_8 => ?_)
    · have hF := q_if_t c_8 hF
      exact kk (v1_5, σM_5) hF _ _ _ hP hD hS (lv_sub hl [0, 1] rfl)
    · have hF := q_if_f c_8 hF
      refine lv_aload_n hx hb dX7_morning_19 rfl (lv_at hl 1 rfl) ?_
      refine va_get (D := g.1) (ci := 7) (v := .ref (AM 2)) (C := RX7) (T := TX7) (N := 34) hx hb hts hi7 hown hK hP 0 rfl rfl 2 (by decide) (hts (.fieldLink RX7 16 "PanTalesModel" "damp" "[I") (by decide +kernel)) (fun _ h9 => h9) rfl dX7_morning_20 ?_
      refine lv_iload_n hx hb dX7_morning_23 rfl (lv_at hl 0 rfl) ?_
      refine lv_iconst (v := 0) hx hb dX7_morning_24 (by decide) ?_
      obtain ⟨σM_9, i_10, e_11, hF⟩ := q_wr_s hF
      refine r_iast (f' := upd (σM_5 2) v1_5.toNatClampNeg (0 : Int32)) hx hb hK hP hD hS 3 rfl i_10 (fun _ _ => rfl) dX7_morning_25 (fun H locs hP hD hS => ?_)
      have hP : va_P g.1 vwCl (wX7 g qM AM (q_up σM_5 2 (upd (σM_5 2) v1_5.toNatClampNeg (0 : Int32))) ℓM) H := hP
      have hD : va_D Z (wX7 g qM AM (q_up σM_5 2 (upd (σM_5 2) v1_5.toNatClampNeg (0 : Int32))) ℓM) := hD
      rw [e_11] at hP hD
      refine lv_iinc (v := v1_5 + 1) (lv' := [(1, .int (v1_5 + 1)), (0, .ref qM)]) hx hb dX7_morning_26 hl (k := 0) rfl rfl (by decide) rfl (fun ls hl => ?_)
      refine lv_goto (tgt := 13) hx hb dX7_morning_29 (by decide) ?_
      exact ag (v1_5 + 1, σM_9) hF _ _ _ hP hD hS (lv_sub hl [0, 1] rfl)
set_option maxHeartbeats 4000000 in
set_option maxRecDepth 100000 in
theorem m_X7_happen (l : Launch) (g : GT) (sz : Nat) (qM : Nat) (AM : Nat → Nat) (σM : qS) (ℓM : qL) (a1 : Int32) (a2 : Int32) (a3 : Int32) (σM' : qS) (hF : f_X7_happen σM ℓM a1 a2 a3 = some σM') : Cv l yX7_happen wsX7_happen { frames := 2, cells := 0, slots := 0, locals := 42 } g sz [.ref qM, .int a1, .int a2, .int a3] (wX7 g qM AM σM ℓM) (wX7 g qM AM σM' ℓM) := by
  refine gMet_v (cc := cX7_happen) (maxL := 4) (ret := none) (by decide) rfl (Nat.le_of_ble_eq_true rfl) ?_
  intro p e s m args below meth c Z hx hb hr F hlk hnm hK hN hA H locs hP hD hS ls hl
  have hl : lv_has ls 4 [(0, .ref qM), (1, .int a1), (2, .int a2), (3, .int a3)] := hl
  have F : CallFix p m c cX7_happen 4 s args wsX7_happen RX7 := F
  have hts := F.2.2.2.2
  have hown : s.vm.findClass RX7 = some m.cls := F.2.2.2.1
  dsimp only [f_X7_happen] at hF
  refine lv_iload_n hx hb dX7_happen_0 rfl (lv_at hl 1 rfl) ?_
  by_cases k_1 : a1 = 0
  · have hF := q_if_t k_1 hF
    refine gtop (y := 0) k_1 ?_
    refine lv_tableIn (tgt := 32) (off := 31) hx hb dX7_happen_1 (by decide) (by decide) rfl (by decide) ?_
    refine lv_aload_n hx hb dX7_happen_32 rfl (lv_at hl 0 rfl) ?_
    refine lv_iload_n hx hb dX7_happen_33 rfl (lv_at hl 2 rfl) ?_
    refine lv_iload_n hx hb dX7_happen_34 rfl (lv_at hl 3 rfl) ?_
    obtain ⟨σM_2, h_3, hF⟩ := q_cl_s hF
    refine gcV_v (As := [.int a2, .int a3]) (rest := []) (ci := 7) (q := (RX7, TX7, 34)) F hK hN hP hD hS hA (m_X7_fill l g H.size qM AM σM ℓM a2 a3 σM_2 h_3) gX7_happen_X7_fill kX7_fill rfl rfl rfl rfl ⟨(Nat.le_of_ble_eq_true rfl), (Nat.le_of_ble_eq_true rfl)⟩ [0, 1, 2, 3, 4, 5, 6, 7, 8, 9, 10, 11, 12, 13, 14, 15, 16, 17, 18, 19, 20] [] rfl rfl rfl (by decide) rfl rfl rfl rfl rfl hl.1 (Nat.le_of_ble_eq_true rfl) dX7_happen_35 ⟨(Nat.le_of_ble_eq_true rfl), (Nat.le_of_ble_eq_true rfl)⟩ (fun u_w H locs hw hP hD hS => ?_)
    have hP : va_P g.1 vwCl (wX7 g qM AM σM_2 ℓM) H := hP
    have hD : va_D Z (wX7 g qM AM σM_2 ℓM) := hD
    refine lv_goto (tgt := 67) hx hb dX7_happen_38 (by decide) ?_
    cases hF
    exact r_vret hx hb hr hlk hS () trivial hP hD dX7_happen_67
  have hF := q_if_f k_1 hF
  by_cases k_4 : a1 = 1
  · have hF := q_if_t k_4 hF
    refine gtop (y := 1) k_4 ?_
    refine lv_tableIn (tgt := 41) (off := 40) hx hb dX7_happen_1 (by decide) (by decide) rfl (by decide) ?_
    refine lv_aload_n hx hb dX7_happen_41 rfl (lv_at hl 0 rfl) ?_
    refine lv_iload_n hx hb dX7_happen_42 rfl (lv_at hl 2 rfl) ?_
    obtain ⟨σM_5, h_6, hF⟩ := q_cl_s hF
    refine gcV_v (As := [.int a2]) (rest := []) (ci := 7) (q := (RX7, TX7, 34)) F hK hN hP hD hS hA (m_X7_carry l g H.size qM AM σM ℓM a2 σM_5 h_6) gX7_happen_X7_carry kX7_carry rfl rfl rfl rfl ⟨(Nat.le_of_ble_eq_true rfl), (Nat.le_of_ble_eq_true rfl)⟩ [0, 1, 2, 3, 4, 5, 6, 7, 8, 9, 10, 11, 12, 13, 14, 15, 16, 17, 18, 19, 20] [] rfl rfl rfl (by decide) rfl rfl rfl rfl rfl hl.1 (Nat.le_of_ble_eq_true rfl) dX7_happen_43 ⟨(Nat.le_of_ble_eq_true rfl), (Nat.le_of_ble_eq_true rfl)⟩ (fun u_w H locs hw hP hD hS => ?_)
    have hP : va_P g.1 vwCl (wX7 g qM AM σM_5 ℓM) H := hP
    have hD : va_D Z (wX7 g qM AM σM_5 ℓM) := hD
    refine lv_goto (tgt := 67) hx hb dX7_happen_46 (by decide) ?_
    cases hF
    exact r_vret hx hb hr hlk hS () trivial hP hD dX7_happen_67
  have hF := q_if_f k_4 hF
  by_cases k_7 : a1 = 2
  · have hF := q_if_t k_7 hF
    refine gtop (y := 2) k_7 ?_
    refine lv_tableIn (tgt := 49) (off := 48) hx hb dX7_happen_1 (by decide) (by decide) rfl (by decide) ?_
    refine lv_aload_n hx hb dX7_happen_49 rfl (lv_at hl 0 rfl) ?_
    obtain ⟨σM_8, h_9, hF⟩ := q_cl_s hF
    refine gcV_v (As := []) (rest := []) (ci := 7) (q := (RX7, TX7, 34)) F hK hN hP hD hS hA (m_X7_put l g H.size qM AM σM ℓM σM_8 h_9) gX7_happen_X7_put kX7_put rfl rfl rfl rfl ⟨(Nat.le_of_ble_eq_true rfl), (Nat.le_of_ble_eq_true rfl)⟩ [0, 1, 2, 3, 4, 5, 6, 7, 8, 9, 10, 11, 12, 13, 14, 15, 16, 17, 18, 19, 20] [] rfl rfl rfl (by decide) rfl rfl rfl rfl rfl hl.1 (Nat.le_of_ble_eq_true rfl) dX7_happen_50 ⟨(Nat.le_of_ble_eq_true rfl), (Nat.le_of_ble_eq_true rfl)⟩ (fun u_w H locs hw hP hD hS => ?_)
    have hP : va_P g.1 vwCl (wX7 g qM AM σM_8 ℓM) H := hP
    have hD : va_D Z (wX7 g qM AM σM_8 ℓM) := hD
    refine lv_goto (tgt := 67) hx hb dX7_happen_53 (by decide) ?_
    cases hF
    exact r_vret hx hb hr hlk hS () trivial hP hD dX7_happen_67
  have hF := q_if_f k_7 hF
  by_cases k_10 : a1 = 3
  · have hF := q_if_t k_10 hF
    refine gtop (y := 3) k_10 ?_
    refine lv_tableIn (tgt := 56) (off := 55) hx hb dX7_happen_1 (by decide) (by decide) rfl (by decide) ?_
    refine lv_aload_n hx hb dX7_happen_56 rfl (lv_at hl 0 rfl) ?_
    obtain ⟨σM_11, h_12, hF⟩ := q_cl_s hF
    refine gcV_v (As := []) (rest := []) (ci := 7) (q := (RX7, TX7, 34)) F hK hN hP hD hS hA (m_X7_stir l g H.size qM AM σM ℓM σM_11 h_12) gX7_happen_X7_stir kX7_stir rfl rfl rfl rfl ⟨(Nat.le_of_ble_eq_true rfl), (Nat.le_of_ble_eq_true rfl)⟩ [0, 1, 2, 3, 4, 5, 6, 7, 8, 9, 10, 11, 12, 13, 14, 15, 16, 17, 18, 19, 20] [] rfl rfl rfl (by decide) rfl rfl rfl rfl rfl hl.1 (Nat.le_of_ble_eq_true rfl) dX7_happen_57 ⟨(Nat.le_of_ble_eq_true rfl), (Nat.le_of_ble_eq_true rfl)⟩ (fun u_w H locs hw hP hD hS => ?_)
    have hP : va_P g.1 vwCl (wX7 g qM AM σM_11 ℓM) H := hP
    have hD : va_D Z (wX7 g qM AM σM_11 ℓM) := hD
    refine lv_goto (tgt := 67) hx hb dX7_happen_60 (by decide) ?_
    cases hF
    exact r_vret hx hb hr hlk hS () trivial hP hD dX7_happen_67
  have hF := q_if_f k_10 hF
  refine lv_tableOut (tgt := 63) hx hb dX7_happen_1 (sw_out 4 (by decide) (by decide) (lt_s (lt_s (lt_s (lt_s lt_0 k_1) k_4) k_7) k_10)) (by decide) ?_
  refine lv_aload_n hx hb dX7_happen_63 rfl (lv_at hl 0 rfl) ?_
  obtain ⟨σM_13, h_14, hF⟩ := q_cl_s hF
  refine gcV_v (As := []) (rest := []) (ci := 7) (q := (RX7, TX7, 34)) F hK hN hP hD hS hA (m_X7_morning l g H.size qM AM σM ℓM σM_13 h_14) gX7_happen_X7_morning kX7_morning rfl rfl rfl rfl ⟨(Nat.le_of_ble_eq_true rfl), (Nat.le_of_ble_eq_true rfl)⟩ [0, 1, 2, 3, 4, 5, 6, 7, 8, 9, 10, 11, 12, 13, 14, 15, 16, 17, 18, 19, 20] [] rfl rfl rfl (by decide) rfl rfl rfl rfl rfl hl.1 (Nat.le_of_ble_eq_true rfl) dX7_happen_64 ⟨(Nat.le_of_ble_eq_true rfl), (Nat.le_of_ble_eq_true rfl)⟩ (fun u_w H locs hw hP hD hS => ?_)
  have hP : va_P g.1 vwCl (wX7 g qM AM σM_13 ℓM) H := hP
  have hD : va_D Z (wX7 g qM AM σM_13 ℓM) := hD
  cases hF
  exact r_vret hx hb hr hlk hS () trivial hP hD dX7_happen_67
set_option maxHeartbeats 4000000 in
set_option maxRecDepth 100000 in
theorem m_X7_keepNow (l : Launch) (g : GT) (sz : Nat) (qM : Nat) (AM : Nat → Nat) (σM : qS) (ℓM : qL) (σM' : qS) (hF : f_X7_keepNow σM ℓM = some σM') : Cv l yX7_keepNow wsX7_keepNow { frames := 0, cells := 0, slots := 0, locals := 0 } g sz [.ref qM] (wX7 g qM AM σM ℓM) (wX7 g qM AM σM' ℓM) := by
  refine gMet_v (cc := cX7_keepNow) (maxL := 2) (ret := none) (by decide) rfl (Nat.le_of_ble_eq_true rfl) ?_
  intro p e s m args below meth c Z hx hb hr F hlk hnm hK hN hA H locs hP hD hS ls hl
  have hl : lv_has ls 2 [(0, .ref qM)] := hl
  have F : CallFix p m c cX7_keepNow 2 s args wsX7_keepNow RX7 := F
  have hts := F.2.2.2.2
  have hown : s.vm.findClass RX7 = some m.cls := F.2.2.2.1
  have hi7 : ∀ w ∈ u_ws RX7 TX7 34, w ∈ wsX7_keepNow := by decide +kernel
  dsimp only [f_X7_keepNow] at hF
  refine lv_iconst (v := 0) hx hb dX7_keepNow_0 (by decide) ?_
  refine lv_istore_n (lv' := [(1, .int 0), (0, .ref qM)]) hx hb dX7_keepNow_1 rfl hl (by decide) rfl (fun ls hl => ?_)
  refine q_loop (fun u0 => wX7 g qM AM u0.2 ℓM) (fun u0 => [(1, .int u0.1), (0, .ref qM)]) 56 hF ?_ ?_ hP hD hS (lv_sub hl [0, 1] rfl)
  · rintro ⟨v1_1, σM_1⟩ hF H locs ls hP hD hS hl
    try dsimp only at hF
    have hP : va_P g.1 vwCl (wX7 g qM AM σM_1 ℓM) H := hP
    have hD : va_D Z (wX7 g qM AM σM_1 ℓM) := hD
    have hl : lv_has ls 2 [(1, .int v1_1), (0, .ref qM)] := hl
    refine lv_aload_n hx hb dX7_keepNow_56 rfl (lv_at hl 1 rfl) ?_
    refine va_get (D := g.1) (ci := 7) (v := .ref (AM 18)) (C := RX7) (T := TX7) (N := 34) hx hb hts hi7 hown hK hP 0 rfl rfl 18 (by decide) (hts (.fieldLink RX7 43 "PanTalesModel" "had" "[I") (by decide +kernel)) (fun _ h9 => h9) rfl dX7_keepNow_57 ?_
    refine lv_bipush (v := 30) hx hb dX7_keepNow_60 (by decide) ?_
    refine lv_aload_n hx hb dX7_keepNow_62 rfl (lv_at hl 1 rfl) ?_
    refine va_get (D := g.1) (ci := 7) (v := .int (σM_1 99 5)) (C := RX7) (T := TX7) (N := 34) hx hb hts hi7 hown hK hP 0 rfl rfl 5 (by decide) (hts (.fieldLink RX7 72 "PanTalesModel" "panPlace" "I") (by decide +kernel)) (fun _ h9 => h9) rfl dX7_keepNow_63 ?_
    obtain ⟨σM_2, i_3, e_4, hF⟩ := q_wr_s hF
    refine r_iast (f' := upd (σM_1 18) (30 : Int32).toNatClampNeg (σM_1 99 5)) hx hb hK hP hD hS 12 rfl i_3 (fun _ _ => rfl) dX7_keepNow_66 (fun H locs hP hD hS => ?_)
    have hP : va_P g.1 vwCl (wX7 g qM AM (q_up σM_1 18 (upd (σM_1 18) (30 : Int32).toNatClampNeg (σM_1 99 5))) ℓM) H := hP
    have hD : va_D Z (wX7 g qM AM (q_up σM_1 18 (upd (σM_1 18) (30 : Int32).toNatClampNeg (σM_1 99 5))) ℓM) := hD
    rw [e_4] at hP hD
    refine lv_aload_n hx hb dX7_keepNow_67 rfl (lv_at hl 1 rfl) ?_
    refine va_get (D := g.1) (ci := 7) (v := .ref (AM 18)) (C := RX7) (T := TX7) (N := 34) hx hb hts hi7 hown hK hP 0 rfl rfl 18 (by decide) (hts (.fieldLink RX7 43 "PanTalesModel" "had" "[I") (by decide +kernel)) (fun _ h9 => h9) rfl dX7_keepNow_68 ?_
    refine lv_bipush (v := 31) hx hb dX7_keepNow_71 (by decide) ?_
    refine lv_aload_n hx hb dX7_keepNow_73 rfl (lv_at hl 1 rfl) ?_
    refine va_get (D := g.1) (ci := 7) (v := .int (σM_2 99 6)) (C := RX7) (T := TX7) (N := 34) hx hb hts hi7 hown hK hP 0 rfl rfl 6 (by decide) (hts (.fieldLink RX7 127 "PanTalesModel" "heat" "I") (by decide +kernel)) (fun _ h9 => h9) rfl dX7_keepNow_74 ?_
    obtain ⟨σM_5, i_6, e_7, hF⟩ := q_wr_s hF
    refine r_iast (f' := upd (σM_2 18) (31 : Int32).toNatClampNeg (σM_2 99 6)) hx hb hK hP hD hS 12 rfl i_6 (fun _ _ => rfl) dX7_keepNow_77 (fun H locs hP hD hS => ?_)
    have hP : va_P g.1 vwCl (wX7 g qM AM (q_up σM_2 18 (upd (σM_2 18) (31 : Int32).toNatClampNeg (σM_2 99 6))) ℓM) H := hP
    have hD : va_D Z (wX7 g qM AM (q_up σM_2 18 (upd (σM_2 18) (31 : Int32).toNatClampNeg (σM_2 99 6))) ℓM) := hD
    rw [e_7] at hP hD
    refine lv_aload_n hx hb dX7_keepNow_78 rfl (lv_at hl 1 rfl) ?_
    refine va_get (D := g.1) (ci := 7) (v := .ref (AM 18)) (C := RX7) (T := TX7) (N := 34) hx hb hts hi7 hown hK hP 0 rfl rfl 18 (by decide) (hts (.fieldLink RX7 43 "PanTalesModel" "had" "[I") (by decide +kernel)) (fun _ h9 => h9) rfl dX7_keepNow_79 ?_
    refine lv_bipush (v := 32) hx hb dX7_keepNow_82 (by decide) ?_
    refine lv_aload_n hx hb dX7_keepNow_84 rfl (lv_at hl 1 rfl) ?_
    refine va_get (D := g.1) (ci := 7) (v := .int (σM_5 99 7)) (C := RX7) (T := TX7) (N := 34) hx hb hts hi7 hown hK hP 0 rfl rfl 7 (by decide) (hts (.fieldLink RX7 136 "PanTalesModel" "panTale" "I") (by decide +kernel)) (fun _ h9 => h9) rfl dX7_keepNow_85 ?_
    obtain ⟨σM_8, i_9, e_10, hF⟩ := q_wr_s hF
    refine r_iast (f' := upd (σM_5 18) (32 : Int32).toNatClampNeg (σM_5 99 7)) hx hb hK hP hD hS 12 rfl i_9 (fun _ _ => rfl) dX7_keepNow_88 (fun H locs hP hD hS => ?_)
    have hP : va_P g.1 vwCl (wX7 g qM AM (q_up σM_5 18 (upd (σM_5 18) (32 : Int32).toNatClampNeg (σM_5 99 7))) ℓM) H := hP
    have hD : va_D Z (wX7 g qM AM (q_up σM_5 18 (upd (σM_5 18) (32 : Int32).toNatClampNeg (σM_5 99 7))) ℓM) := hD
    rw [e_10] at hP hD
    refine lv_aload_n hx hb dX7_keepNow_89 rfl (lv_at hl 1 rfl) ?_
    refine va_get (D := g.1) (ci := 7) (v := .ref (AM 18)) (C := RX7) (T := TX7) (N := 34) hx hb hts hi7 hown hK hP 0 rfl rfl 18 (by decide) (hts (.fieldLink RX7 43 "PanTalesModel" "had" "[I") (by decide +kernel)) (fun _ h9 => h9) rfl dX7_keepNow_90 ?_
    refine lv_bipush (v := 33) hx hb dX7_keepNow_93 (by decide) ?_
    refine lv_aload_n hx hb dX7_keepNow_95 rfl (lv_at hl 1 rfl) ?_
    refine va_get (D := g.1) (ci := 7) (v := .int (σM_8 99 8)) (C := RX7) (T := TX7) (N := 34) hx hb hts hi7 hown hK hP 0 rfl rfl 8 (by decide) (hts (.fieldLink RX7 130 "PanTalesModel" "mornings" "I") (by decide +kernel)) (fun _ h9 => h9) rfl dX7_keepNow_96 ?_
    obtain ⟨σM_11, i_12, e_13, hF⟩ := q_wr_s hF
    refine r_iast (f' := upd (σM_8 18) (33 : Int32).toNatClampNeg (σM_8 99 8)) hx hb hK hP hD hS 12 rfl i_12 (fun _ _ => rfl) dX7_keepNow_99 (fun H locs hP hD hS => ?_)
    have hP : va_P g.1 vwCl (wX7 g qM AM (q_up σM_8 18 (upd (σM_8 18) (33 : Int32).toNatClampNeg (σM_8 99 8))) ℓM) H := hP
    have hD : va_D Z (wX7 g qM AM (q_up σM_8 18 (upd (σM_8 18) (33 : Int32).toNatClampNeg (σM_8 99 8))) ℓM) := hD
    rw [e_13] at hP hD
    cases hF
    exact r_vret hx hb hr hlk hS () trivial hP hD dX7_keepNow_100
  · rintro k again kk ag ⟨v1_1, σM_1⟩ hF H locs ls hP hD hS hl
    dsimp only [b_X7_keepNow_2] at hF
    have hP : va_P g.1 vwCl (wX7 g qM AM σM_1 ℓM) H := hP
    have hD : va_D Z (wX7 g qM AM σM_1 ℓM) := hD
    have hl : lv_has ls 2 [(1, .int v1_1), (0, .ref qM)] := hl
    refine lv_iload_n hx hb dX7_keepNow_2 rfl (lv_at hl 0 rfl) ?_
    refine lv_bipush (v := 10) hx hb dX7_keepNow_3 (by decide) ?_
    refine lv_icmp_ge (tgt := 56) hx hb dX7_keepNow_5 (by decide) (fun c_14 => ?_) (fun c_14 => ?_)
    · have hF := q_if_t c_14 hF
      exact kk (v1_1, σM_1) hF _ _ _ hP hD hS (lv_sub hl [0, 1] rfl)
    · have hF := q_if_f c_14 hF
      refine lv_aload_n hx hb dX7_keepNow_8 rfl (lv_at hl 1 rfl) ?_
      refine va_get (D := g.1) (ci := 7) (v := .ref (AM 18)) (C := RX7) (T := TX7) (N := 34) hx hb hts hi7 hown hK hP 0 rfl rfl 18 (by decide) (hts (.fieldLink RX7 43 "PanTalesModel" "had" "[I") (by decide +kernel)) (fun _ h9 => h9) rfl dX7_keepNow_9 ?_
      refine lv_iload_n hx hb dX7_keepNow_12 rfl (lv_at hl 0 rfl) ?_
      refine lv_aload_n hx hb dX7_keepNow_13 rfl (lv_at hl 1 rfl) ?_
      refine va_get (D := g.1) (ci := 7) (v := .ref (AM 1)) (C := RX7) (T := TX7) (N := 34) hx hb hts hi7 hown hK hP 0 rfl rfl 1 (by decide) (hts (.fieldLink RX7 13 "PanTalesModel" "doubt" "[I") (by decide +kernel)) (fun _ h9 => h9) rfl dX7_keepNow_14 ?_
      refine lv_iload_n hx hb dX7_keepNow_17 rfl (lv_at hl 0 rfl) ?_
      obtain ⟨r_15, i_16, e_17, hF⟩ := q_rd_s hF
      refine r_iald (v := r_15) hx hb hK hP 2 rfl i_16 e_17 dX7_keepNow_18 ?_
      obtain ⟨σM_18, i_19, e_20, hF⟩ := q_wr_s hF
      refine r_iast (f' := upd (σM_1 18) v1_1.toNatClampNeg r_15) hx hb hK hP hD hS 12 rfl i_19 (fun _ _ => rfl) dX7_keepNow_19 (fun H locs hP hD hS => ?_)
      have hP : va_P g.1 vwCl (wX7 g qM AM (q_up σM_1 18 (upd (σM_1 18) v1_1.toNatClampNeg r_15)) ℓM) H := hP
      have hD : va_D Z (wX7 g qM AM (q_up σM_1 18 (upd (σM_1 18) v1_1.toNatClampNeg r_15)) ℓM) := hD
      rw [e_20] at hP hD
      refine lv_aload_n hx hb dX7_keepNow_20 rfl (lv_at hl 1 rfl) ?_
      refine va_get (D := g.1) (ci := 7) (v := .ref (AM 18)) (C := RX7) (T := TX7) (N := 34) hx hb hts hi7 hown hK hP 0 rfl rfl 18 (by decide) (hts (.fieldLink RX7 43 "PanTalesModel" "had" "[I") (by decide +kernel)) (fun _ h9 => h9) rfl dX7_keepNow_21 ?_
      refine lv_bipush (v := 10) hx hb dX7_keepNow_24 (by decide) ?_
      refine lv_iload_n hx hb dX7_keepNow_26 rfl (lv_at hl 0 rfl) ?_
      refine lv_iadd hx hb dX7_keepNow_27 ?_
      refine lv_aload_n hx hb dX7_keepNow_28 rfl (lv_at hl 1 rfl) ?_
      refine va_get (D := g.1) (ci := 7) (v := .ref (AM 2)) (C := RX7) (T := TX7) (N := 34) hx hb hts hi7 hown hK hP 0 rfl rfl 2 (by decide) (hts (.fieldLink RX7 16 "PanTalesModel" "damp" "[I") (by decide +kernel)) (fun _ h9 => h9) rfl dX7_keepNow_29 ?_
      refine lv_iload_n hx hb dX7_keepNow_32 rfl (lv_at hl 0 rfl) ?_
      obtain ⟨r_21, i_22, e_23, hF⟩ := q_rd_s hF
      refine r_iald (v := r_21) hx hb hK hP 3 rfl i_22 e_23 dX7_keepNow_33 ?_
      obtain ⟨σM_24, i_25, e_26, hF⟩ := q_wr_s hF
      refine r_iast (f' := upd (σM_18 18) ((10 : Int32) + v1_1).toNatClampNeg r_21) hx hb hK hP hD hS 12 rfl i_25 (fun _ _ => rfl) dX7_keepNow_34 (fun H locs hP hD hS => ?_)
      have hP : va_P g.1 vwCl (wX7 g qM AM (q_up σM_18 18 (upd (σM_18 18) ((10 : Int32) + v1_1).toNatClampNeg r_21)) ℓM) H := hP
      have hD : va_D Z (wX7 g qM AM (q_up σM_18 18 (upd (σM_18 18) ((10 : Int32) + v1_1).toNatClampNeg r_21)) ℓM) := hD
      rw [e_26] at hP hD
      refine lv_aload_n hx hb dX7_keepNow_35 rfl (lv_at hl 1 rfl) ?_
      refine va_get (D := g.1) (ci := 7) (v := .ref (AM 18)) (C := RX7) (T := TX7) (N := 34) hx hb hts hi7 hown hK hP 0 rfl rfl 18 (by decide) (hts (.fieldLink RX7 43 "PanTalesModel" "had" "[I") (by decide +kernel)) (fun _ h9 => h9) rfl dX7_keepNow_36 ?_
      refine lv_bipush (v := 20) hx hb dX7_keepNow_39 (by decide) ?_
      refine lv_iload_n hx hb dX7_keepNow_41 rfl (lv_at hl 0 rfl) ?_
      refine lv_iadd hx hb dX7_keepNow_42 ?_
      refine lv_aload_n hx hb dX7_keepNow_43 rfl (lv_at hl 1 rfl) ?_
      refine va_get (D := g.1) (ci := 7) (v := .ref (AM 3)) (C := RX7) (T := TX7) (N := 34) hx hb hts hi7 hown hK hP 0 rfl rfl 3 (by decide) (hts (.fieldLink RX7 19 "PanTalesModel" "believes" "[I") (by decide +kernel)) (fun _ h9 => h9) rfl dX7_keepNow_44 ?_
      refine lv_iload_n hx hb dX7_keepNow_47 rfl (lv_at hl 0 rfl) ?_
      obtain ⟨r_27, i_28, e_29, hF⟩ := q_rd_s hF
      refine r_iald (v := r_27) hx hb hK hP 4 rfl i_28 e_29 dX7_keepNow_48 ?_
      obtain ⟨σM_30, i_31, e_32, hF⟩ := q_wr_s hF
      refine r_iast (f' := upd (σM_24 18) ((20 : Int32) + v1_1).toNatClampNeg r_27) hx hb hK hP hD hS 12 rfl i_31 (fun _ _ => rfl) dX7_keepNow_49 (fun H locs hP hD hS => ?_)
      have hP : va_P g.1 vwCl (wX7 g qM AM (q_up σM_24 18 (upd (σM_24 18) ((20 : Int32) + v1_1).toNatClampNeg r_27)) ℓM) H := hP
      have hD : va_D Z (wX7 g qM AM (q_up σM_24 18 (upd (σM_24 18) ((20 : Int32) + v1_1).toNatClampNeg r_27)) ℓM) := hD
      rw [e_32] at hP hD
      refine lv_iinc (v := v1_1 + 1) (lv' := [(1, .int (v1_1 + 1)), (0, .ref qM)]) hx hb dX7_keepNow_50 hl (k := 0) rfl rfl (by decide) rfl (fun ls hl => ?_)
      refine lv_goto (tgt := 2) hx hb dX7_keepNow_53 (by decide) ?_
      exact ag (v1_1 + 1, σM_30) hF _ _ _ hP hD hS (lv_sub hl [0, 1] rfl)
set_option maxHeartbeats 4000000 in
set_option maxRecDepth 100000 in
theorem m_X7_back (l : Launch) (g : GT) (sz : Nat) (qM : Nat) (AM : Nat → Nat) (σM : qS) (ℓM : qL) (a1 : Int32) (rr : Int32) (σM' : qS) (hF : f_X7_back σM ℓM a1 = some (rr, σM')) : Ci l yX7_back wsX7_back { frames := 0, cells := 0, slots := 0, locals := 0 } g sz [.ref qM, .int a1] (wX7 g qM AM σM ℓM) rr (wX7 g qM AM σM' ℓM) := by
  refine gMet_i (cc := cX7_back) (maxL := 3) (ret := (some .int)) (by decide) rfl (Nat.le_of_ble_eq_true rfl) ?_
  intro p e s m args below meth c Z hx hb hr F hlk hnm hK hN hA H locs hP hD hS ls hl
  have hl : lv_has ls 3 [(0, .ref qM), (1, .int a1)] := hl
  have F : CallFix p m c cX7_back 3 s args wsX7_back RX7 := F
  have hts := F.2.2.2.2
  have hown : s.vm.findClass RX7 = some m.cls := F.2.2.2.1
  have hi7 : ∀ w ∈ u_ws RX7 TX7 34, w ∈ wsX7_back := by decide +kernel
  dsimp only [f_X7_back] at hF
  refine lv_iconst (v := 0) hx hb dX7_back_0 (by decide) ?_
  refine lv_istore_n (lv' := [(2, .int 0), (0, .ref qM), (1, .int a1)]) hx hb dX7_back_1 rfl hl (by decide) rfl (fun ls hl => ?_)
  refine q_loop (fun u0 => wX7 g qM AM u0.2 ℓM) (fun u0 => [(2, .int u0.1), (0, .ref qM), (1, .int a1)]) 56 hF ?_ ?_ hP hD hS (lv_sub hl [0, 1, 2] rfl)
  · rintro ⟨v2_1, σM_1⟩ hF H locs ls hP hD hS hl
    try dsimp only at hF
    have hP : va_P g.1 vwCl (wX7 g qM AM σM_1 ℓM) H := hP
    have hD : va_D Z (wX7 g qM AM σM_1 ℓM) := hD
    have hl : lv_has ls 3 [(2, .int v2_1), (0, .ref qM), (1, .int a1)] := hl
    refine lv_aload_n hx hb dX7_back_56 rfl (lv_at hl 1 rfl) ?_
    refine lv_aload_n hx hb dX7_back_57 rfl (lv_at hl 1 rfl) ?_
    refine va_get (D := g.1) (ci := 7) (v := .ref (AM 18)) (C := RX7) (T := TX7) (N := 34) hx hb hts hi7 hown hK hP 0 rfl rfl 18 (by decide) (hts (.fieldLink RX7 43 "PanTalesModel" "had" "[I") (by decide +kernel)) (fun _ h9 => h9) rfl dX7_back_58 ?_
    refine lv_bipush (v := 30) hx hb dX7_back_61 (by decide) ?_
    obtain ⟨r_2, i_3, e_4, hF⟩ := q_rd_s hF
    refine r_iald (v := r_2) hx hb hK hP 12 rfl i_3 e_4 dX7_back_63 ?_
    obtain ⟨σM_5, e_6, hF⟩ := q_bd_s hF
    refine va_put (D := g.1) (ci := 7) (v := .int r_2) (ty := .int) (C := RX7) (T := TX7) (N := 34) hx hb hts hi7 tyX7 tyX7_ok nmX7 hown hK hP hD hS 0 rfl rfl 5 (by decide) (hts (.fieldLink RX7 72 "PanTalesModel" "panPlace" "I") (by decide +kernel)) (fun _ h9 => h9) rfl (by decide +kernel) rfl rfl (Nat.le_of_ble_eq_true rfl) dX7_back_64 (fun H locs hP hD hS => ?_)
    have hP : va_P g.1 vwCl (wX7 g qM AM (q_pt σM_1 5 r_2) ℓM) H := hP
    have hD : va_D Z (wX7 g qM AM (q_pt σM_1 5 r_2) ℓM) := hD
    rw [e_6] at hP hD
    refine lv_aload_n hx hb dX7_back_67 rfl (lv_at hl 1 rfl) ?_
    refine lv_aload_n hx hb dX7_back_68 rfl (lv_at hl 1 rfl) ?_
    refine va_get (D := g.1) (ci := 7) (v := .ref (AM 18)) (C := RX7) (T := TX7) (N := 34) hx hb hts hi7 hown hK hP 0 rfl rfl 18 (by decide) (hts (.fieldLink RX7 43 "PanTalesModel" "had" "[I") (by decide +kernel)) (fun _ h9 => h9) rfl dX7_back_69 ?_
    refine lv_bipush (v := 31) hx hb dX7_back_72 (by decide) ?_
    obtain ⟨r_7, i_8, e_9, hF⟩ := q_rd_s hF
    refine r_iald (v := r_7) hx hb hK hP 12 rfl i_8 e_9 dX7_back_74 ?_
    obtain ⟨σM_10, e_11, hF⟩ := q_bd_s hF
    refine va_put (D := g.1) (ci := 7) (v := .int r_7) (ty := .int) (C := RX7) (T := TX7) (N := 34) hx hb hts hi7 tyX7 tyX7_ok nmX7 hown hK hP hD hS 0 rfl rfl 6 (by decide) (hts (.fieldLink RX7 127 "PanTalesModel" "heat" "I") (by decide +kernel)) (fun _ h9 => h9) rfl (by decide +kernel) rfl rfl (Nat.le_of_ble_eq_true rfl) dX7_back_75 (fun H locs hP hD hS => ?_)
    have hP : va_P g.1 vwCl (wX7 g qM AM (q_pt σM_5 6 r_7) ℓM) H := hP
    have hD : va_D Z (wX7 g qM AM (q_pt σM_5 6 r_7) ℓM) := hD
    rw [e_11] at hP hD
    refine lv_aload_n hx hb dX7_back_78 rfl (lv_at hl 1 rfl) ?_
    refine lv_aload_n hx hb dX7_back_79 rfl (lv_at hl 1 rfl) ?_
    refine va_get (D := g.1) (ci := 7) (v := .ref (AM 18)) (C := RX7) (T := TX7) (N := 34) hx hb hts hi7 hown hK hP 0 rfl rfl 18 (by decide) (hts (.fieldLink RX7 43 "PanTalesModel" "had" "[I") (by decide +kernel)) (fun _ h9 => h9) rfl dX7_back_80 ?_
    refine lv_bipush (v := 32) hx hb dX7_back_83 (by decide) ?_
    obtain ⟨r_12, i_13, e_14, hF⟩ := q_rd_s hF
    refine r_iald (v := r_12) hx hb hK hP 12 rfl i_13 e_14 dX7_back_85 ?_
    obtain ⟨σM_15, e_16, hF⟩ := q_bd_s hF
    refine va_put (D := g.1) (ci := 7) (v := .int r_12) (ty := .int) (C := RX7) (T := TX7) (N := 34) hx hb hts hi7 tyX7 tyX7_ok nmX7 hown hK hP hD hS 0 rfl rfl 7 (by decide) (hts (.fieldLink RX7 136 "PanTalesModel" "panTale" "I") (by decide +kernel)) (fun _ h9 => h9) rfl (by decide +kernel) rfl rfl (Nat.le_of_ble_eq_true rfl) dX7_back_86 (fun H locs hP hD hS => ?_)
    have hP : va_P g.1 vwCl (wX7 g qM AM (q_pt σM_10 7 r_12) ℓM) H := hP
    have hD : va_D Z (wX7 g qM AM (q_pt σM_10 7 r_12) ℓM) := hD
    rw [e_16] at hP hD
    refine lv_aload_n hx hb dX7_back_89 rfl (lv_at hl 1 rfl) ?_
    refine lv_aload_n hx hb dX7_back_90 rfl (lv_at hl 1 rfl) ?_
    refine va_get (D := g.1) (ci := 7) (v := .ref (AM 18)) (C := RX7) (T := TX7) (N := 34) hx hb hts hi7 hown hK hP 0 rfl rfl 18 (by decide) (hts (.fieldLink RX7 43 "PanTalesModel" "had" "[I") (by decide +kernel)) (fun _ h9 => h9) rfl dX7_back_91 ?_
    refine lv_bipush (v := 33) hx hb dX7_back_94 (by decide) ?_
    obtain ⟨r_17, i_18, e_19, hF⟩ := q_rd_s hF
    refine r_iald (v := r_17) hx hb hK hP 12 rfl i_18 e_19 dX7_back_96 ?_
    obtain ⟨σM_20, e_21, hF⟩ := q_bd_s hF
    refine va_put (D := g.1) (ci := 7) (v := .int r_17) (ty := .int) (C := RX7) (T := TX7) (N := 34) hx hb hts hi7 tyX7 tyX7_ok nmX7 hown hK hP hD hS 0 rfl rfl 8 (by decide) (hts (.fieldLink RX7 130 "PanTalesModel" "mornings" "I") (by decide +kernel)) (fun _ h9 => h9) rfl (by decide +kernel) rfl rfl (Nat.le_of_ble_eq_true rfl) dX7_back_97 (fun H locs hP hD hS => ?_)
    have hP : va_P g.1 vwCl (wX7 g qM AM (q_pt σM_15 8 r_17) ℓM) H := hP
    have hD : va_D Z (wX7 g qM AM (q_pt σM_15 8 r_17) ℓM) := hD
    rw [e_21] at hP hD
    refine lv_iload_n hx hb dX7_back_100 rfl (lv_at hl 2 rfl) ?_
    cases hF
    exact r_iret hx hb hr hlk hS () rfl hP hD dX7_back_101
  · rintro k again kk ag ⟨v2_1, σM_1⟩ hF H locs ls hP hD hS hl
    dsimp only [b_X7_back_2] at hF
    have hP : va_P g.1 vwCl (wX7 g qM AM σM_1 ℓM) H := hP
    have hD : va_D Z (wX7 g qM AM σM_1 ℓM) := hD
    have hl : lv_has ls 3 [(2, .int v2_1), (0, .ref qM), (1, .int a1)] := hl
    refine lv_iload_n hx hb dX7_back_2 rfl (lv_at hl 0 rfl) ?_
    refine lv_bipush (v := 10) hx hb dX7_back_3 (by decide) ?_
    refine lv_icmp_ge (tgt := 56) hx hb dX7_back_5 (by decide) (fun c_22 => ?_) (fun c_22 => ?_)
    · have hF := q_if_t c_22 hF
      exact kk (v2_1, σM_1) hF _ _ _ hP hD hS (lv_sub hl [0, 1, 2] rfl)
    · have hF := q_if_f c_22 hF
      refine lv_aload_n hx hb dX7_back_8 rfl (lv_at hl 1 rfl) ?_
      refine va_get (D := g.1) (ci := 7) (v := .ref (AM 1)) (C := RX7) (T := TX7) (N := 34) hx hb hts hi7 hown hK hP 0 rfl rfl 1 (by decide) (hts (.fieldLink RX7 13 "PanTalesModel" "doubt" "[I") (by decide +kernel)) (fun _ h9 => h9) rfl dX7_back_9 ?_
      refine lv_iload_n hx hb dX7_back_12 rfl (lv_at hl 0 rfl) ?_
      refine lv_aload_n hx hb dX7_back_13 rfl (lv_at hl 1 rfl) ?_
      refine va_get (D := g.1) (ci := 7) (v := .ref (AM 18)) (C := RX7) (T := TX7) (N := 34) hx hb hts hi7 hown hK hP 0 rfl rfl 18 (by decide) (hts (.fieldLink RX7 43 "PanTalesModel" "had" "[I") (by decide +kernel)) (fun _ h9 => h9) rfl dX7_back_14 ?_
      refine lv_iload_n hx hb dX7_back_17 rfl (lv_at hl 0 rfl) ?_
      obtain ⟨r_23, i_24, e_25, hF⟩ := q_rd_s hF
      refine r_iald (v := r_23) hx hb hK hP 12 rfl i_24 e_25 dX7_back_18 ?_
      obtain ⟨σM_26, i_27, e_28, hF⟩ := q_wr_s hF
      refine r_iast (f' := upd (σM_1 1) v2_1.toNatClampNeg r_23) hx hb hK hP hD hS 2 rfl i_27 (fun _ _ => rfl) dX7_back_19 (fun H locs hP hD hS => ?_)
      have hP : va_P g.1 vwCl (wX7 g qM AM (q_up σM_1 1 (upd (σM_1 1) v2_1.toNatClampNeg r_23)) ℓM) H := hP
      have hD : va_D Z (wX7 g qM AM (q_up σM_1 1 (upd (σM_1 1) v2_1.toNatClampNeg r_23)) ℓM) := hD
      rw [e_28] at hP hD
      refine lv_aload_n hx hb dX7_back_20 rfl (lv_at hl 1 rfl) ?_
      refine va_get (D := g.1) (ci := 7) (v := .ref (AM 2)) (C := RX7) (T := TX7) (N := 34) hx hb hts hi7 hown hK hP 0 rfl rfl 2 (by decide) (hts (.fieldLink RX7 16 "PanTalesModel" "damp" "[I") (by decide +kernel)) (fun _ h9 => h9) rfl dX7_back_21 ?_
      refine lv_iload_n hx hb dX7_back_24 rfl (lv_at hl 0 rfl) ?_
      refine lv_aload_n hx hb dX7_back_25 rfl (lv_at hl 1 rfl) ?_
      refine va_get (D := g.1) (ci := 7) (v := .ref (AM 18)) (C := RX7) (T := TX7) (N := 34) hx hb hts hi7 hown hK hP 0 rfl rfl 18 (by decide) (hts (.fieldLink RX7 43 "PanTalesModel" "had" "[I") (by decide +kernel)) (fun _ h9 => h9) rfl dX7_back_26 ?_
      refine lv_bipush (v := 10) hx hb dX7_back_29 (by decide) ?_
      refine lv_iload_n hx hb dX7_back_31 rfl (lv_at hl 0 rfl) ?_
      refine lv_iadd hx hb dX7_back_32 ?_
      obtain ⟨r_29, i_30, e_31, hF⟩ := q_rd_s hF
      refine r_iald (v := r_29) hx hb hK hP 12 rfl i_30 e_31 dX7_back_33 ?_
      obtain ⟨σM_32, i_33, e_34, hF⟩ := q_wr_s hF
      refine r_iast (f' := upd (σM_26 2) v2_1.toNatClampNeg r_29) hx hb hK hP hD hS 3 rfl i_33 (fun _ _ => rfl) dX7_back_34 (fun H locs hP hD hS => ?_)
      have hP : va_P g.1 vwCl (wX7 g qM AM (q_up σM_26 2 (upd (σM_26 2) v2_1.toNatClampNeg r_29)) ℓM) H := hP
      have hD : va_D Z (wX7 g qM AM (q_up σM_26 2 (upd (σM_26 2) v2_1.toNatClampNeg r_29)) ℓM) := hD
      rw [e_34] at hP hD
      refine lv_aload_n hx hb dX7_back_35 rfl (lv_at hl 1 rfl) ?_
      refine va_get (D := g.1) (ci := 7) (v := .ref (AM 3)) (C := RX7) (T := TX7) (N := 34) hx hb hts hi7 hown hK hP 0 rfl rfl 3 (by decide) (hts (.fieldLink RX7 19 "PanTalesModel" "believes" "[I") (by decide +kernel)) (fun _ h9 => h9) rfl dX7_back_36 ?_
      refine lv_iload_n hx hb dX7_back_39 rfl (lv_at hl 0 rfl) ?_
      refine lv_aload_n hx hb dX7_back_40 rfl (lv_at hl 1 rfl) ?_
      refine va_get (D := g.1) (ci := 7) (v := .ref (AM 18)) (C := RX7) (T := TX7) (N := 34) hx hb hts hi7 hown hK hP 0 rfl rfl 18 (by decide) (hts (.fieldLink RX7 43 "PanTalesModel" "had" "[I") (by decide +kernel)) (fun _ h9 => h9) rfl dX7_back_41 ?_
      refine lv_bipush (v := 20) hx hb dX7_back_44 (by decide) ?_
      refine lv_iload_n hx hb dX7_back_46 rfl (lv_at hl 0 rfl) ?_
      refine lv_iadd hx hb dX7_back_47 ?_
      obtain ⟨r_35, i_36, e_37, hF⟩ := q_rd_s hF
      refine r_iald (v := r_35) hx hb hK hP 12 rfl i_36 e_37 dX7_back_48 ?_
      obtain ⟨σM_38, i_39, e_40, hF⟩ := q_wr_s hF
      refine r_iast (f' := upd (σM_32 3) v2_1.toNatClampNeg r_35) hx hb hK hP hD hS 4 rfl i_39 (fun _ _ => rfl) dX7_back_49 (fun H locs hP hD hS => ?_)
      have hP : va_P g.1 vwCl (wX7 g qM AM (q_up σM_32 3 (upd (σM_32 3) v2_1.toNatClampNeg r_35)) ℓM) H := hP
      have hD : va_D Z (wX7 g qM AM (q_up σM_32 3 (upd (σM_32 3) v2_1.toNatClampNeg r_35)) ℓM) := hD
      rw [e_40] at hP hD
      refine lv_iinc (v := v2_1 + 1) (lv' := [(2, .int (v2_1 + 1)), (0, .ref qM), (1, .int a1)]) hx hb dX7_back_50 hl (k := 0) rfl rfl (by decide) rfl (fun ls hl => ?_)
      refine lv_goto (tgt := 2) hx hb dX7_back_53 (by decide) ?_
      exact ag (v2_1 + 1, σM_38) hF _ _ _ hP hD hS (lv_sub hl [0, 1, 2] rfl)
set_option maxHeartbeats 4000000 in
set_option maxRecDepth 100000 in
theorem m_X7_goOne (l : Launch) (g : GT) (sz : Nat) (qM : Nat) (AM : Nat → Nat) (σM : qS) (ℓM : qL) (a1 : Int32) (σM' : qS) (hF : f_X7_goOne σM ℓM a1 = some σM') : Cv l yX7_goOne wsX7_goOne { frames := 3, cells := 0, slots := 0, locals := 65 } g sz [.ref qM, .int a1] (wX7 g qM AM σM ℓM) (wX7 g qM AM σM' ℓM) := by
  refine gMet_v (cc := cX7_goOne) (maxL := 4) (ret := none) (by decide) rfl (Nat.le_of_ble_eq_true rfl) ?_
  intro p e s m args below meth c Z hx hb hr F hlk hnm hK hN hA H locs hP hD hS ls hl
  have hl : lv_has ls 4 [(0, .ref qM), (1, .int a1)] := hl
  have F : CallFix p m c cX7_goOne 4 s args wsX7_goOne RX7 := F
  have hts := F.2.2.2.2
  have hown : s.vm.findClass RX7 = some m.cls := F.2.2.2.1
  have hi7 : ∀ w ∈ u_ws RX7 TX7 34, w ∈ wsX7_goOne := by decide +kernel
  dsimp only [f_X7_goOne] at hF
  refine lv_aload_n hx hb dX7_goOne_0 rfl (lv_at hl 0 rfl) ?_
  refine va_get (D := g.1) (ci := 7) (v := .int (σM 99 5)) (C := RX7) (T := TX7) (N := 34) hx hb hts hi7 hown hK hP 0 rfl rfl 5 (by decide) (hts (.fieldLink RX7 72 "PanTalesModel" "panPlace" "I") (by decide +kernel)) (fun _ h9 => h9) rfl dX7_goOne_1 ?_
  obtain ⟨v2_1, e_2, hF⟩ := q_bd_s hF
  refine gtop e_2 ?_
  refine lv_istore_n (lv' := [(2, .int v2_1), (0, .ref qM), (1, .int a1)]) hx hb dX7_goOne_4 rfl hl (by decide) rfl (fun ls hl => ?_)
  refine lv_iload_n hx hb dX7_goOne_5 rfl (lv_at hl 0 rfl) ?_
  refine lv_bipush (v := 10) hx hb dX7_goOne_6 (by decide) ?_
  refine lv_icmp_ne (tgt := 16) hx hb dX7_goOne_8 (by decide) (fun c_3 => ?_) (fun c_3 => ?_)
  · have hF := q_if_f c_3 hF
    refine lv_aload_n hx hb dX7_goOne_16 rfl (lv_at hl 1 rfl) ?_
    refine va_get (D := g.1) (ci := 7) (v := .ref (AM 3)) (C := RX7) (T := TX7) (N := 34) hx hb hts hi7 hown hK hP 0 rfl rfl 3 (by decide) (hts (.fieldLink RX7 19 "PanTalesModel" "believes" "[I") (by decide +kernel)) (fun _ h9 => h9) rfl dX7_goOne_17 ?_
    refine lv_iload_n hx hb dX7_goOne_20 rfl (lv_at hl 0 rfl) ?_
    obtain ⟨r_4, i_5, e_6, hF⟩ := q_rd_s hF
    refine r_iald (v := r_4) hx hb hK hP 4 rfl i_5 e_6 dX7_goOne_21 ?_
    refine lv_istore_n (lv' := [(3, .int r_4), (2, .int v2_1), (0, .ref qM), (1, .int a1)]) hx hb dX7_goOne_22 rfl hl (by decide) rfl (fun ls hl => ?_)
    refine lv_aload_n hx hb dX7_goOne_23 rfl (lv_at hl 2 rfl) ?_
    refine lv_aload_n hx hb dX7_goOne_24 rfl (lv_at hl 2 rfl) ?_
    refine va_get (D := g.1) (ci := 7) (v := .ref (AM 14)) (C := RX7) (T := TX7) (N := 34) hx hb hts hi7 hown hK hP 0 rfl rfl 14 (by decide) (hts (.fieldLink RX7 34 "PanTalesModel" "act" "[I") (by decide +kernel)) (fun _ h9 => h9) rfl dX7_goOne_25 ?_
    refine lv_iload_n hx hb dX7_goOne_28 rfl (lv_at hl 3 rfl) ?_
    obtain ⟨r_7, i_8, e_9, hF⟩ := q_rd_s hF
    refine r_iald (v := r_7) hx hb hK hP 9 rfl i_8 e_9 dX7_goOne_29 ?_
    refine lv_aload_n hx hb dX7_goOne_30 rfl (lv_at hl 2 rfl) ?_
    refine va_get (D := g.1) (ci := 7) (v := .ref (AM 15)) (C := RX7) (T := TX7) (N := 34) hx hb hts hi7 hown hK hP 0 rfl rfl 15 (by decide) (hts (.fieldLink RX7 37 "PanTalesModel" "which" "[I") (by decide +kernel)) (fun _ h9 => h9) rfl dX7_goOne_31 ?_
    refine lv_iload_n hx hb dX7_goOne_34 rfl (lv_at hl 3 rfl) ?_
    obtain ⟨r_10, i_11, e_12, hF⟩ := q_rd_s hF
    refine r_iald (v := r_10) hx hb hK hP 10 rfl i_11 e_12 dX7_goOne_35 ?_
    refine lv_aload_n hx hb dX7_goOne_36 rfl (lv_at hl 2 rfl) ?_
    refine va_get (D := g.1) (ci := 7) (v := .ref (AM 16)) (C := RX7) (T := TX7) (N := 34) hx hb hts hi7 hown hK hP 0 rfl rfl 16 (by decide) (hts (.fieldLink RX7 40 "PanTalesModel" "much" "[I") (by decide +kernel)) (fun _ h9 => h9) rfl dX7_goOne_37 ?_
    refine lv_iload_n hx hb dX7_goOne_40 rfl (lv_at hl 3 rfl) ?_
    obtain ⟨r_13, i_14, e_15, hF⟩ := q_rd_s hF
    refine r_iald (v := r_13) hx hb hK hP 11 rfl i_14 e_15 dX7_goOne_41 ?_
    obtain ⟨σM_16, h_17, hF⟩ := q_cl_s hF
    refine gcV_v (As := [.int r_7, .int r_10, .int r_13]) (rest := []) (ci := 7) (q := (RX7, TX7, 34)) F hK hN hP hD hS hA (m_X7_happen l g H.size qM AM σM ℓM r_7 r_10 r_13 σM_16 h_17) gX7_goOne_X7_happen kX7_happen rfl rfl rfl rfl ⟨(Nat.le_of_ble_eq_true rfl), (Nat.le_of_ble_eq_true rfl)⟩ [0, 1, 2, 3, 4, 5, 6, 7, 8, 9, 10, 11, 12, 13, 14, 15, 16, 17, 18, 19, 20] [] rfl rfl rfl (by decide) rfl rfl rfl rfl rfl hl.1 (Nat.le_of_ble_eq_true rfl) dX7_goOne_42 ⟨(Nat.le_of_ble_eq_true rfl), (Nat.le_of_ble_eq_true rfl)⟩ (fun u_w H locs hw hP hD hS => ?_)
    have hP : va_P g.1 vwCl (wX7 g qM AM σM_16 ℓM) H := hP
    have hD : va_D Z (wX7 g qM AM σM_16 ℓM) := hD
    refine lv_aload_n hx hb dX7_goOne_45 rfl (lv_at hl 2 rfl) ?_
    refine lv_dup hx hb dX7_goOne_46 rfl ?_
    refine va_get (D := g.1) (ci := 7) (v := .int (σM_16 99 21)) (C := RX7) (T := TX7) (N := 34) hx hb hts hi7 hown hK hP 0 rfl rfl 21 (by decide) (hts (.fieldLink RX7 160 "PanTalesModel" "beds" "I") (by decide +kernel)) (fun _ h9 => h9) rfl dX7_goOne_47 ?_
    refine lv_aload_n hx hb dX7_goOne_50 rfl (lv_at hl 2 rfl) ?_
    refine va_get (D := g.1) (ci := 7) (v := .ref (AM 14)) (C := RX7) (T := TX7) (N := 34) hx hb hts hi7 hown hK hP 0 rfl rfl 14 (by decide) (hts (.fieldLink RX7 34 "PanTalesModel" "act" "[I") (by decide +kernel)) (fun _ h9 => h9) rfl dX7_goOne_51 ?_
    refine lv_iload_n hx hb dX7_goOne_54 rfl (lv_at hl 3 rfl) ?_
    obtain ⟨r_18, i_19, e_20, hF⟩ := q_rd_s hF
    refine r_iald (v := r_18) hx hb hK hP 9 rfl i_19 e_20 dX7_goOne_55 ?_
    refine lv_iconst (v := 2) hx hb dX7_goOne_56 (by decide) ?_
    refine lv_icmp_ne (tgt := 64) hx hb dX7_goOne_57 (by decide) (fun c_21 => ?_) (fun c_21 => ?_)
    · have hF := q_if_f c_21 hF
      refine lv_iconst (v := 0) hx hb dX7_goOne_64 (by decide) ?_
      refine lv_iadd hx hb dX7_goOne_65 ?_
      obtain ⟨σM_22, e_23, hF⟩ := q_bd_s hF
      refine va_put (D := g.1) (ci := 7) (v := .int ((σM_16 99 21) + 0)) (ty := .int) (C := RX7) (T := TX7) (N := 34) hx hb hts hi7 tyX7 tyX7_ok nmX7 hown hK hP hD hS 0 rfl rfl 21 (by decide) (hts (.fieldLink RX7 160 "PanTalesModel" "beds" "I") (by decide +kernel)) (fun _ h9 => h9) rfl (by decide +kernel) rfl rfl (Nat.le_of_ble_eq_true rfl) dX7_goOne_66 (fun H locs hP hD hS => ?_)
      have hP : va_P g.1 vwCl (wX7 g qM AM (q_pt σM_16 21 ((σM_16 99 21) + 0)) ℓM) H := hP
      have hD : va_D Z (wX7 g qM AM (q_pt σM_16 21 ((σM_16 99 21) + 0)) ℓM) := hD
      rw [e_23] at hP hD
      refine lv_aload_n hx hb dX7_goOne_69 rfl (lv_at hl 2 rfl) ?_
      refine va_get (D := g.1) (ci := 7) (v := .ref (AM 14)) (C := RX7) (T := TX7) (N := 34) hx hb hts hi7 hown hK hP 0 rfl rfl 14 (by decide) (hts (.fieldLink RX7 34 "PanTalesModel" "act" "[I") (by decide +kernel)) (fun _ h9 => h9) rfl dX7_goOne_70 ?_
      refine lv_iload_n hx hb dX7_goOne_73 rfl (lv_at hl 3 rfl) ?_
      obtain ⟨r_24, i_25, e_26, hF⟩ := q_rd_s hF
      refine r_iald (v := r_24) hx hb hK hP 9 rfl i_25 e_26 dX7_goOne_74 ?_
      refine lv_iconst (v := 2) hx hb dX7_goOne_75 (by decide) ?_
      refine lv_icmp_ne (tgt := 106) hx hb dX7_goOne_76 (by decide) (fun c_27 => ?_) (fun c_27 => ?_)
      · have hF := q_if_f c_27 hF
        cases hF
        exact r_vret hx hb hr hlk hS () trivial hP hD dX7_goOne_106
      · have hF := q_if_t (by first | exact c_27 | exact Classical.not_not.mp c_27) hF
        refine lv_aload_n hx hb dX7_goOne_79 rfl (lv_at hl 2 rfl) ?_
        refine va_get (D := g.1) (ci := 7) (v := .ref (AM 3)) (C := RX7) (T := TX7) (N := 34) hx hb hts hi7 hown hK hP 0 rfl rfl 3 (by decide) (hts (.fieldLink RX7 19 "PanTalesModel" "believes" "[I") (by decide +kernel)) (fun _ h9 => h9) rfl dX7_goOne_80 ?_
        refine lv_iload_n hx hb dX7_goOne_83 rfl (lv_at hl 1 rfl) ?_
        obtain ⟨r_28, i_29, e_30, hF⟩ := q_rd_s hF
        refine r_iald (v := r_28) hx hb hK hP 4 rfl i_29 e_30 dX7_goOne_84 ?_
        refine lv_iload_n hx hb dX7_goOne_85 rfl (lv_at hl 0 rfl) ?_
        refine lv_icmp_eq (tgt := 106) hx hb dX7_goOne_86 (by decide) (fun c_31 => ?_) (fun c_31 => ?_)
        · have hF := q_if_t c_31 hF
          cases hF
          exact r_vret hx hb hr hlk hS () trivial hP hD dX7_goOne_106
        · have hF := q_if_f c_31 hF
          refine lv_aload_n hx hb dX7_goOne_89 rfl (lv_at hl 2 rfl) ?_
          refine va_get (D := g.1) (ci := 7) (v := .int (σM_22 99 22)) (C := RX7) (T := TX7) (N := 34) hx hb hts hi7 hown hK hP 0 rfl rfl 22 (by decide) (hts (.fieldLink RX7 163 "PanTalesModel" "otherAct" "I") (by decide +kernel)) (fun _ h9 => h9) rfl dX7_goOne_90 ?_
          refine lv_if_ge (tgt := 106) hx hb dX7_goOne_93 (by decide) (fun c_32 => ?_) (fun c_32 => ?_)
          · have hF := q_if_t c_32 hF
            cases hF
            exact r_vret hx hb hr hlk hS () trivial hP hD dX7_goOne_106
          · have hF := q_if_f c_32 hF
            refine lv_aload_n hx hb dX7_goOne_96 rfl (lv_at hl 2 rfl) ?_
            refine lv_iload_n hx hb dX7_goOne_97 rfl (lv_at hl 3 rfl) ?_
            obtain ⟨σM_33, e_34, hF⟩ := q_bd_s hF
            refine va_put (D := g.1) (ci := 7) (v := .int a1) (ty := .int) (C := RX7) (T := TX7) (N := 34) hx hb hts hi7 tyX7 tyX7_ok nmX7 hown hK hP hD hS 0 rfl rfl 22 (by decide) (hts (.fieldLink RX7 163 "PanTalesModel" "otherAct" "I") (by decide +kernel)) (fun _ h9 => h9) rfl (by decide +kernel) rfl rfl (Nat.le_of_ble_eq_true rfl) dX7_goOne_98 (fun H locs hP hD hS => ?_)
            have hP : va_P g.1 vwCl (wX7 g qM AM (q_pt σM_22 22 a1) ℓM) H := hP
            have hD : va_D Z (wX7 g qM AM (q_pt σM_22 22 a1) ℓM) := hD
            rw [e_34] at hP hD
            refine lv_aload_n hx hb dX7_goOne_101 rfl (lv_at hl 2 rfl) ?_
            refine lv_iload_n hx hb dX7_goOne_102 rfl (lv_at hl 1 rfl) ?_
            obtain ⟨σM_35, e_36, hF⟩ := q_bd_s hF
            refine va_put (D := g.1) (ci := 7) (v := .int v2_1) (ty := .int) (C := RX7) (T := TX7) (N := 34) hx hb hts hi7 tyX7 tyX7_ok nmX7 hown hK hP hD hS 0 rfl rfl 23 (by decide) (hts (.fieldLink RX7 166 "PanTalesModel" "otherHouse" "I") (by decide +kernel)) (fun _ h9 => h9) rfl (by decide +kernel) rfl rfl (Nat.le_of_ble_eq_true rfl) dX7_goOne_103 (fun H locs hP hD hS => ?_)
            have hP : va_P g.1 vwCl (wX7 g qM AM (q_pt σM_33 23 v2_1) ℓM) H := hP
            have hD : va_D Z (wX7 g qM AM (q_pt σM_33 23 v2_1) ℓM) := hD
            rw [e_36] at hP hD
            cases hF
            exact r_vret hx hb hr hlk hS () trivial hP hD dX7_goOne_106
    · have hF := q_if_t (by first | exact c_21 | exact Classical.not_not.mp c_21) hF
      refine lv_iconst (v := 1) hx hb dX7_goOne_60 (by decide) ?_
      refine lv_goto (tgt := 65) hx hb dX7_goOne_61 (by decide) ?_
      refine lv_iadd hx hb dX7_goOne_65 ?_
      obtain ⟨σM_37, e_38, hF⟩ := q_bd_s hF
      refine va_put (D := g.1) (ci := 7) (v := .int ((σM_16 99 21) + 1)) (ty := .int) (C := RX7) (T := TX7) (N := 34) hx hb hts hi7 tyX7 tyX7_ok nmX7 hown hK hP hD hS 0 rfl rfl 21 (by decide) (hts (.fieldLink RX7 160 "PanTalesModel" "beds" "I") (by decide +kernel)) (fun _ h9 => h9) rfl (by decide +kernel) rfl rfl (Nat.le_of_ble_eq_true rfl) dX7_goOne_66 (fun H locs hP hD hS => ?_)
      have hP : va_P g.1 vwCl (wX7 g qM AM (q_pt σM_16 21 ((σM_16 99 21) + 1)) ℓM) H := hP
      have hD : va_D Z (wX7 g qM AM (q_pt σM_16 21 ((σM_16 99 21) + 1)) ℓM) := hD
      rw [e_38] at hP hD
      refine lv_aload_n hx hb dX7_goOne_69 rfl (lv_at hl 2 rfl) ?_
      refine va_get (D := g.1) (ci := 7) (v := .ref (AM 14)) (C := RX7) (T := TX7) (N := 34) hx hb hts hi7 hown hK hP 0 rfl rfl 14 (by decide) (hts (.fieldLink RX7 34 "PanTalesModel" "act" "[I") (by decide +kernel)) (fun _ h9 => h9) rfl dX7_goOne_70 ?_
      refine lv_iload_n hx hb dX7_goOne_73 rfl (lv_at hl 3 rfl) ?_
      obtain ⟨r_39, i_40, e_41, hF⟩ := q_rd_s hF
      refine r_iald (v := r_39) hx hb hK hP 9 rfl i_40 e_41 dX7_goOne_74 ?_
      refine lv_iconst (v := 2) hx hb dX7_goOne_75 (by decide) ?_
      refine lv_icmp_ne (tgt := 106) hx hb dX7_goOne_76 (by decide) (fun c_42 => ?_) (fun c_42 => ?_)
      · have hF := q_if_f c_42 hF
        cases hF
        exact r_vret hx hb hr hlk hS () trivial hP hD dX7_goOne_106
      · have hF := q_if_t (by first | exact c_42 | exact Classical.not_not.mp c_42) hF
        refine lv_aload_n hx hb dX7_goOne_79 rfl (lv_at hl 2 rfl) ?_
        refine va_get (D := g.1) (ci := 7) (v := .ref (AM 3)) (C := RX7) (T := TX7) (N := 34) hx hb hts hi7 hown hK hP 0 rfl rfl 3 (by decide) (hts (.fieldLink RX7 19 "PanTalesModel" "believes" "[I") (by decide +kernel)) (fun _ h9 => h9) rfl dX7_goOne_80 ?_
        refine lv_iload_n hx hb dX7_goOne_83 rfl (lv_at hl 1 rfl) ?_
        obtain ⟨r_43, i_44, e_45, hF⟩ := q_rd_s hF
        refine r_iald (v := r_43) hx hb hK hP 4 rfl i_44 e_45 dX7_goOne_84 ?_
        refine lv_iload_n hx hb dX7_goOne_85 rfl (lv_at hl 0 rfl) ?_
        refine lv_icmp_eq (tgt := 106) hx hb dX7_goOne_86 (by decide) (fun c_46 => ?_) (fun c_46 => ?_)
        · have hF := q_if_t c_46 hF
          cases hF
          exact r_vret hx hb hr hlk hS () trivial hP hD dX7_goOne_106
        · have hF := q_if_f c_46 hF
          refine lv_aload_n hx hb dX7_goOne_89 rfl (lv_at hl 2 rfl) ?_
          refine va_get (D := g.1) (ci := 7) (v := .int (σM_37 99 22)) (C := RX7) (T := TX7) (N := 34) hx hb hts hi7 hown hK hP 0 rfl rfl 22 (by decide) (hts (.fieldLink RX7 163 "PanTalesModel" "otherAct" "I") (by decide +kernel)) (fun _ h9 => h9) rfl dX7_goOne_90 ?_
          refine lv_if_ge (tgt := 106) hx hb dX7_goOne_93 (by decide) (fun c_47 => ?_) (fun c_47 => ?_)
          · have hF := q_if_t c_47 hF
            cases hF
            exact r_vret hx hb hr hlk hS () trivial hP hD dX7_goOne_106
          · have hF := q_if_f c_47 hF
            refine lv_aload_n hx hb dX7_goOne_96 rfl (lv_at hl 2 rfl) ?_
            refine lv_iload_n hx hb dX7_goOne_97 rfl (lv_at hl 3 rfl) ?_
            obtain ⟨σM_48, e_49, hF⟩ := q_bd_s hF
            refine va_put (D := g.1) (ci := 7) (v := .int a1) (ty := .int) (C := RX7) (T := TX7) (N := 34) hx hb hts hi7 tyX7 tyX7_ok nmX7 hown hK hP hD hS 0 rfl rfl 22 (by decide) (hts (.fieldLink RX7 163 "PanTalesModel" "otherAct" "I") (by decide +kernel)) (fun _ h9 => h9) rfl (by decide +kernel) rfl rfl (Nat.le_of_ble_eq_true rfl) dX7_goOne_98 (fun H locs hP hD hS => ?_)
            have hP : va_P g.1 vwCl (wX7 g qM AM (q_pt σM_37 22 a1) ℓM) H := hP
            have hD : va_D Z (wX7 g qM AM (q_pt σM_37 22 a1) ℓM) := hD
            rw [e_49] at hP hD
            refine lv_aload_n hx hb dX7_goOne_101 rfl (lv_at hl 2 rfl) ?_
            refine lv_iload_n hx hb dX7_goOne_102 rfl (lv_at hl 1 rfl) ?_
            obtain ⟨σM_50, e_51, hF⟩ := q_bd_s hF
            refine va_put (D := g.1) (ci := 7) (v := .int v2_1) (ty := .int) (C := RX7) (T := TX7) (N := 34) hx hb hts hi7 tyX7 tyX7_ok nmX7 hown hK hP hD hS 0 rfl rfl 23 (by decide) (hts (.fieldLink RX7 166 "PanTalesModel" "otherHouse" "I") (by decide +kernel)) (fun _ h9 => h9) rfl (by decide +kernel) rfl rfl (Nat.le_of_ble_eq_true rfl) dX7_goOne_103 (fun H locs hP hD hS => ?_)
            have hP : va_P g.1 vwCl (wX7 g qM AM (q_pt σM_48 23 v2_1) ℓM) H := hP
            have hD : va_D Z (wX7 g qM AM (q_pt σM_48 23 v2_1) ℓM) := hD
            rw [e_51] at hP hD
            cases hF
            exact r_vret hx hb hr hlk hS () trivial hP hD dX7_goOne_106
  · have hF := q_if_t (by first | exact c_3 | exact Classical.not_not.mp c_3) hF
    refine lv_bipush (v := (-6)) hx hb dX7_goOne_11 (by decide) ?_
    refine lv_goto (tgt := 22) hx hb dX7_goOne_13 (by decide) ?_
    refine lv_istore_n (lv' := [(3, .int (-6)), (2, .int v2_1), (0, .ref qM), (1, .int a1)]) hx hb dX7_goOne_22 rfl hl (by decide) rfl (fun ls hl => ?_)
    refine lv_aload_n hx hb dX7_goOne_23 rfl (lv_at hl 2 rfl) ?_
    refine lv_aload_n hx hb dX7_goOne_24 rfl (lv_at hl 2 rfl) ?_
    refine va_get (D := g.1) (ci := 7) (v := .ref (AM 14)) (C := RX7) (T := TX7) (N := 34) hx hb hts hi7 hown hK hP 0 rfl rfl 14 (by decide) (hts (.fieldLink RX7 34 "PanTalesModel" "act" "[I") (by decide +kernel)) (fun _ h9 => h9) rfl dX7_goOne_25 ?_
    refine lv_iload_n hx hb dX7_goOne_28 rfl (lv_at hl 3 rfl) ?_
    obtain ⟨r_52, i_53, e_54, hF⟩ := q_rd_s hF
    refine r_iald (v := r_52) hx hb hK hP 9 rfl i_53 e_54 dX7_goOne_29 ?_
    refine lv_aload_n hx hb dX7_goOne_30 rfl (lv_at hl 2 rfl) ?_
    refine va_get (D := g.1) (ci := 7) (v := .ref (AM 15)) (C := RX7) (T := TX7) (N := 34) hx hb hts hi7 hown hK hP 0 rfl rfl 15 (by decide) (hts (.fieldLink RX7 37 "PanTalesModel" "which" "[I") (by decide +kernel)) (fun _ h9 => h9) rfl dX7_goOne_31 ?_
    refine lv_iload_n hx hb dX7_goOne_34 rfl (lv_at hl 3 rfl) ?_
    obtain ⟨r_55, i_56, e_57, hF⟩ := q_rd_s hF
    refine r_iald (v := r_55) hx hb hK hP 10 rfl i_56 e_57 dX7_goOne_35 ?_
    refine lv_aload_n hx hb dX7_goOne_36 rfl (lv_at hl 2 rfl) ?_
    refine va_get (D := g.1) (ci := 7) (v := .ref (AM 16)) (C := RX7) (T := TX7) (N := 34) hx hb hts hi7 hown hK hP 0 rfl rfl 16 (by decide) (hts (.fieldLink RX7 40 "PanTalesModel" "much" "[I") (by decide +kernel)) (fun _ h9 => h9) rfl dX7_goOne_37 ?_
    refine lv_iload_n hx hb dX7_goOne_40 rfl (lv_at hl 3 rfl) ?_
    obtain ⟨r_58, i_59, e_60, hF⟩ := q_rd_s hF
    refine r_iald (v := r_58) hx hb hK hP 11 rfl i_59 e_60 dX7_goOne_41 ?_
    obtain ⟨σM_61, h_62, hF⟩ := q_cl_s hF
    refine gcV_v (As := [.int r_52, .int r_55, .int r_58]) (rest := []) (ci := 7) (q := (RX7, TX7, 34)) F hK hN hP hD hS hA (m_X7_happen l g H.size qM AM σM ℓM r_52 r_55 r_58 σM_61 h_62) gX7_goOne_X7_happen kX7_happen rfl rfl rfl rfl ⟨(Nat.le_of_ble_eq_true rfl), (Nat.le_of_ble_eq_true rfl)⟩ [0, 1, 2, 3, 4, 5, 6, 7, 8, 9, 10, 11, 12, 13, 14, 15, 16, 17, 18, 19, 20] [] rfl rfl rfl (by decide) rfl rfl rfl rfl rfl hl.1 (Nat.le_of_ble_eq_true rfl) dX7_goOne_42 ⟨(Nat.le_of_ble_eq_true rfl), (Nat.le_of_ble_eq_true rfl)⟩ (fun u_w H locs hw hP hD hS => ?_)
    have hP : va_P g.1 vwCl (wX7 g qM AM σM_61 ℓM) H := hP
    have hD : va_D Z (wX7 g qM AM σM_61 ℓM) := hD
    refine lv_aload_n hx hb dX7_goOne_45 rfl (lv_at hl 2 rfl) ?_
    refine lv_dup hx hb dX7_goOne_46 rfl ?_
    refine va_get (D := g.1) (ci := 7) (v := .int (σM_61 99 21)) (C := RX7) (T := TX7) (N := 34) hx hb hts hi7 hown hK hP 0 rfl rfl 21 (by decide) (hts (.fieldLink RX7 160 "PanTalesModel" "beds" "I") (by decide +kernel)) (fun _ h9 => h9) rfl dX7_goOne_47 ?_
    refine lv_aload_n hx hb dX7_goOne_50 rfl (lv_at hl 2 rfl) ?_
    refine va_get (D := g.1) (ci := 7) (v := .ref (AM 14)) (C := RX7) (T := TX7) (N := 34) hx hb hts hi7 hown hK hP 0 rfl rfl 14 (by decide) (hts (.fieldLink RX7 34 "PanTalesModel" "act" "[I") (by decide +kernel)) (fun _ h9 => h9) rfl dX7_goOne_51 ?_
    refine lv_iload_n hx hb dX7_goOne_54 rfl (lv_at hl 3 rfl) ?_
    obtain ⟨r_63, i_64, e_65, hF⟩ := q_rd_s hF
    refine r_iald (v := r_63) hx hb hK hP 9 rfl i_64 e_65 dX7_goOne_55 ?_
    refine lv_iconst (v := 2) hx hb dX7_goOne_56 (by decide) ?_
    refine lv_icmp_ne (tgt := 64) hx hb dX7_goOne_57 (by decide) (fun c_66 => ?_) (fun c_66 => ?_)
    · have hF := q_if_f c_66 hF
      refine lv_iconst (v := 0) hx hb dX7_goOne_64 (by decide) ?_
      refine lv_iadd hx hb dX7_goOne_65 ?_
      obtain ⟨σM_67, e_68, hF⟩ := q_bd_s hF
      refine va_put (D := g.1) (ci := 7) (v := .int ((σM_61 99 21) + 0)) (ty := .int) (C := RX7) (T := TX7) (N := 34) hx hb hts hi7 tyX7 tyX7_ok nmX7 hown hK hP hD hS 0 rfl rfl 21 (by decide) (hts (.fieldLink RX7 160 "PanTalesModel" "beds" "I") (by decide +kernel)) (fun _ h9 => h9) rfl (by decide +kernel) rfl rfl (Nat.le_of_ble_eq_true rfl) dX7_goOne_66 (fun H locs hP hD hS => ?_)
      have hP : va_P g.1 vwCl (wX7 g qM AM (q_pt σM_61 21 ((σM_61 99 21) + 0)) ℓM) H := hP
      have hD : va_D Z (wX7 g qM AM (q_pt σM_61 21 ((σM_61 99 21) + 0)) ℓM) := hD
      rw [e_68] at hP hD
      refine lv_aload_n hx hb dX7_goOne_69 rfl (lv_at hl 2 rfl) ?_
      refine va_get (D := g.1) (ci := 7) (v := .ref (AM 14)) (C := RX7) (T := TX7) (N := 34) hx hb hts hi7 hown hK hP 0 rfl rfl 14 (by decide) (hts (.fieldLink RX7 34 "PanTalesModel" "act" "[I") (by decide +kernel)) (fun _ h9 => h9) rfl dX7_goOne_70 ?_
      refine lv_iload_n hx hb dX7_goOne_73 rfl (lv_at hl 3 rfl) ?_
      obtain ⟨r_69, i_70, e_71, hF⟩ := q_rd_s hF
      refine r_iald (v := r_69) hx hb hK hP 9 rfl i_70 e_71 dX7_goOne_74 ?_
      refine lv_iconst (v := 2) hx hb dX7_goOne_75 (by decide) ?_
      refine lv_icmp_ne (tgt := 106) hx hb dX7_goOne_76 (by decide) (fun c_72 => ?_) (fun c_72 => ?_)
      · have hF := q_if_f c_72 hF
        cases hF
        exact r_vret hx hb hr hlk hS () trivial hP hD dX7_goOne_106
      · have hF := q_if_t (by first | exact c_72 | exact Classical.not_not.mp c_72) hF
        refine lv_aload_n hx hb dX7_goOne_79 rfl (lv_at hl 2 rfl) ?_
        refine va_get (D := g.1) (ci := 7) (v := .ref (AM 3)) (C := RX7) (T := TX7) (N := 34) hx hb hts hi7 hown hK hP 0 rfl rfl 3 (by decide) (hts (.fieldLink RX7 19 "PanTalesModel" "believes" "[I") (by decide +kernel)) (fun _ h9 => h9) rfl dX7_goOne_80 ?_
        refine lv_iload_n hx hb dX7_goOne_83 rfl (lv_at hl 1 rfl) ?_
        obtain ⟨r_73, i_74, e_75, hF⟩ := q_rd_s hF
        refine r_iald (v := r_73) hx hb hK hP 4 rfl i_74 e_75 dX7_goOne_84 ?_
        refine lv_iload_n hx hb dX7_goOne_85 rfl (lv_at hl 0 rfl) ?_
        refine lv_icmp_eq (tgt := 106) hx hb dX7_goOne_86 (by decide) (fun c_76 => ?_) (fun c_76 => ?_)
        · have hF := q_if_t c_76 hF
          cases hF
          exact r_vret hx hb hr hlk hS () trivial hP hD dX7_goOne_106
        · have hF := q_if_f c_76 hF
          refine lv_aload_n hx hb dX7_goOne_89 rfl (lv_at hl 2 rfl) ?_
          refine va_get (D := g.1) (ci := 7) (v := .int (σM_67 99 22)) (C := RX7) (T := TX7) (N := 34) hx hb hts hi7 hown hK hP 0 rfl rfl 22 (by decide) (hts (.fieldLink RX7 163 "PanTalesModel" "otherAct" "I") (by decide +kernel)) (fun _ h9 => h9) rfl dX7_goOne_90 ?_
          refine lv_if_ge (tgt := 106) hx hb dX7_goOne_93 (by decide) (fun c_77 => ?_) (fun c_77 => ?_)
          · have hF := q_if_t c_77 hF
            cases hF
            exact r_vret hx hb hr hlk hS () trivial hP hD dX7_goOne_106
          · have hF := q_if_f c_77 hF
            refine lv_aload_n hx hb dX7_goOne_96 rfl (lv_at hl 2 rfl) ?_
            refine lv_iload_n hx hb dX7_goOne_97 rfl (lv_at hl 3 rfl) ?_
            obtain ⟨σM_78, e_79, hF⟩ := q_bd_s hF
            refine va_put (D := g.1) (ci := 7) (v := .int a1) (ty := .int) (C := RX7) (T := TX7) (N := 34) hx hb hts hi7 tyX7 tyX7_ok nmX7 hown hK hP hD hS 0 rfl rfl 22 (by decide) (hts (.fieldLink RX7 163 "PanTalesModel" "otherAct" "I") (by decide +kernel)) (fun _ h9 => h9) rfl (by decide +kernel) rfl rfl (Nat.le_of_ble_eq_true rfl) dX7_goOne_98 (fun H locs hP hD hS => ?_)
            have hP : va_P g.1 vwCl (wX7 g qM AM (q_pt σM_67 22 a1) ℓM) H := hP
            have hD : va_D Z (wX7 g qM AM (q_pt σM_67 22 a1) ℓM) := hD
            rw [e_79] at hP hD
            refine lv_aload_n hx hb dX7_goOne_101 rfl (lv_at hl 2 rfl) ?_
            refine lv_iload_n hx hb dX7_goOne_102 rfl (lv_at hl 1 rfl) ?_
            obtain ⟨σM_80, e_81, hF⟩ := q_bd_s hF
            refine va_put (D := g.1) (ci := 7) (v := .int v2_1) (ty := .int) (C := RX7) (T := TX7) (N := 34) hx hb hts hi7 tyX7 tyX7_ok nmX7 hown hK hP hD hS 0 rfl rfl 23 (by decide) (hts (.fieldLink RX7 166 "PanTalesModel" "otherHouse" "I") (by decide +kernel)) (fun _ h9 => h9) rfl (by decide +kernel) rfl rfl (Nat.le_of_ble_eq_true rfl) dX7_goOne_103 (fun H locs hP hD hS => ?_)
            have hP : va_P g.1 vwCl (wX7 g qM AM (q_pt σM_78 23 v2_1) ℓM) H := hP
            have hD : va_D Z (wX7 g qM AM (q_pt σM_78 23 v2_1) ℓM) := hD
            rw [e_81] at hP hD
            cases hF
            exact r_vret hx hb hr hlk hS () trivial hP hD dX7_goOne_106
    · have hF := q_if_t (by first | exact c_66 | exact Classical.not_not.mp c_66) hF
      refine lv_iconst (v := 1) hx hb dX7_goOne_60 (by decide) ?_
      refine lv_goto (tgt := 65) hx hb dX7_goOne_61 (by decide) ?_
      refine lv_iadd hx hb dX7_goOne_65 ?_
      obtain ⟨σM_82, e_83, hF⟩ := q_bd_s hF
      refine va_put (D := g.1) (ci := 7) (v := .int ((σM_61 99 21) + 1)) (ty := .int) (C := RX7) (T := TX7) (N := 34) hx hb hts hi7 tyX7 tyX7_ok nmX7 hown hK hP hD hS 0 rfl rfl 21 (by decide) (hts (.fieldLink RX7 160 "PanTalesModel" "beds" "I") (by decide +kernel)) (fun _ h9 => h9) rfl (by decide +kernel) rfl rfl (Nat.le_of_ble_eq_true rfl) dX7_goOne_66 (fun H locs hP hD hS => ?_)
      have hP : va_P g.1 vwCl (wX7 g qM AM (q_pt σM_61 21 ((σM_61 99 21) + 1)) ℓM) H := hP
      have hD : va_D Z (wX7 g qM AM (q_pt σM_61 21 ((σM_61 99 21) + 1)) ℓM) := hD
      rw [e_83] at hP hD
      refine lv_aload_n hx hb dX7_goOne_69 rfl (lv_at hl 2 rfl) ?_
      refine va_get (D := g.1) (ci := 7) (v := .ref (AM 14)) (C := RX7) (T := TX7) (N := 34) hx hb hts hi7 hown hK hP 0 rfl rfl 14 (by decide) (hts (.fieldLink RX7 34 "PanTalesModel" "act" "[I") (by decide +kernel)) (fun _ h9 => h9) rfl dX7_goOne_70 ?_
      refine lv_iload_n hx hb dX7_goOne_73 rfl (lv_at hl 3 rfl) ?_
      obtain ⟨r_84, i_85, e_86, hF⟩ := q_rd_s hF
      refine r_iald (v := r_84) hx hb hK hP 9 rfl i_85 e_86 dX7_goOne_74 ?_
      refine lv_iconst (v := 2) hx hb dX7_goOne_75 (by decide) ?_
      refine lv_icmp_ne (tgt := 106) hx hb dX7_goOne_76 (by decide) (fun c_87 => ?_) (fun c_87 => ?_)
      · have hF := q_if_f c_87 hF
        cases hF
        exact r_vret hx hb hr hlk hS () trivial hP hD dX7_goOne_106
      · have hF := q_if_t (by first | exact c_87 | exact Classical.not_not.mp c_87) hF
        refine lv_aload_n hx hb dX7_goOne_79 rfl (lv_at hl 2 rfl) ?_
        refine va_get (D := g.1) (ci := 7) (v := .ref (AM 3)) (C := RX7) (T := TX7) (N := 34) hx hb hts hi7 hown hK hP 0 rfl rfl 3 (by decide) (hts (.fieldLink RX7 19 "PanTalesModel" "believes" "[I") (by decide +kernel)) (fun _ h9 => h9) rfl dX7_goOne_80 ?_
        refine lv_iload_n hx hb dX7_goOne_83 rfl (lv_at hl 1 rfl) ?_
        obtain ⟨r_88, i_89, e_90, hF⟩ := q_rd_s hF
        refine r_iald (v := r_88) hx hb hK hP 4 rfl i_89 e_90 dX7_goOne_84 ?_
        refine lv_iload_n hx hb dX7_goOne_85 rfl (lv_at hl 0 rfl) ?_
        refine lv_icmp_eq (tgt := 106) hx hb dX7_goOne_86 (by decide) (fun c_91 => ?_) (fun c_91 => ?_)
        · have hF := q_if_t c_91 hF
          cases hF
          exact r_vret hx hb hr hlk hS () trivial hP hD dX7_goOne_106
        · have hF := q_if_f c_91 hF
          refine lv_aload_n hx hb dX7_goOne_89 rfl (lv_at hl 2 rfl) ?_
          refine va_get (D := g.1) (ci := 7) (v := .int (σM_82 99 22)) (C := RX7) (T := TX7) (N := 34) hx hb hts hi7 hown hK hP 0 rfl rfl 22 (by decide) (hts (.fieldLink RX7 163 "PanTalesModel" "otherAct" "I") (by decide +kernel)) (fun _ h9 => h9) rfl dX7_goOne_90 ?_
          refine lv_if_ge (tgt := 106) hx hb dX7_goOne_93 (by decide) (fun c_92 => ?_) (fun c_92 => ?_)
          · have hF := q_if_t c_92 hF
            cases hF
            exact r_vret hx hb hr hlk hS () trivial hP hD dX7_goOne_106
          · have hF := q_if_f c_92 hF
            refine lv_aload_n hx hb dX7_goOne_96 rfl (lv_at hl 2 rfl) ?_
            refine lv_iload_n hx hb dX7_goOne_97 rfl (lv_at hl 3 rfl) ?_
            obtain ⟨σM_93, e_94, hF⟩ := q_bd_s hF
            refine va_put (D := g.1) (ci := 7) (v := .int a1) (ty := .int) (C := RX7) (T := TX7) (N := 34) hx hb hts hi7 tyX7 tyX7_ok nmX7 hown hK hP hD hS 0 rfl rfl 22 (by decide) (hts (.fieldLink RX7 163 "PanTalesModel" "otherAct" "I") (by decide +kernel)) (fun _ h9 => h9) rfl (by decide +kernel) rfl rfl (Nat.le_of_ble_eq_true rfl) dX7_goOne_98 (fun H locs hP hD hS => ?_)
            have hP : va_P g.1 vwCl (wX7 g qM AM (q_pt σM_82 22 a1) ℓM) H := hP
            have hD : va_D Z (wX7 g qM AM (q_pt σM_82 22 a1) ℓM) := hD
            rw [e_94] at hP hD
            refine lv_aload_n hx hb dX7_goOne_101 rfl (lv_at hl 2 rfl) ?_
            refine lv_iload_n hx hb dX7_goOne_102 rfl (lv_at hl 1 rfl) ?_
            obtain ⟨σM_95, e_96, hF⟩ := q_bd_s hF
            refine va_put (D := g.1) (ci := 7) (v := .int v2_1) (ty := .int) (C := RX7) (T := TX7) (N := 34) hx hb hts hi7 tyX7 tyX7_ok nmX7 hown hK hP hD hS 0 rfl rfl 23 (by decide) (hts (.fieldLink RX7 166 "PanTalesModel" "otherHouse" "I") (by decide +kernel)) (fun _ h9 => h9) rfl (by decide +kernel) rfl rfl (Nat.le_of_ble_eq_true rfl) dX7_goOne_103 (fun H locs hP hD hS => ?_)
            have hP : va_P g.1 vwCl (wX7 g qM AM (q_pt σM_93 23 v2_1) ℓM) H := hP
            have hD : va_D Z (wX7 g qM AM (q_pt σM_93 23 v2_1) ℓM) := hD
            rw [e_96] at hP hD
            cases hF
            exact r_vret hx hb hr hlk hS () trivial hP hD dX7_goOne_106
set_option maxHeartbeats 4000000 in
set_option maxRecDepth 100000 in
theorem m_X7_goNights (l : Launch) (g : GT) (sz : Nat) (qM : Nat) (AM : Nat → Nat) (σM : qS) (ℓM : qL) (σM' : qS) (hF : f_X7_goNights σM ℓM = some σM') : Cv l yX7_goNights wsX7_goNights { frames := 4, cells := 0, slots := 0, locals := 88 } g sz [.ref qM] (wX7 g qM AM σM ℓM) (wX7 g qM AM σM' ℓM) := by
  refine gMet_v (cc := cX7_goNights) (maxL := 3) (ret := none) (by decide) rfl (Nat.le_of_ble_eq_true rfl) ?_
  intro p e s m args below meth c Z hx hb hr F hlk hnm hK hN hA H locs hP hD hS ls hl
  have hl : lv_has ls 3 [(0, .ref qM)] := hl
  have F : CallFix p m c cX7_goNights 3 s args wsX7_goNights RX7 := F
  have hts := F.2.2.2.2
  have hown : s.vm.findClass RX7 = some m.cls := F.2.2.2.1
  have hi7 : ∀ w ∈ u_ws RX7 TX7 34, w ∈ wsX7_goNights := by decide +kernel
  dsimp only [f_X7_goNights] at hF
  refine lv_aload_n hx hb dX7_goNights_0 rfl (lv_at hl 0 rfl) ?_
  refine lv_bipush (v := (-6)) hx hb dX7_goNights_1 (by decide) ?_
  obtain ⟨σM_1, e_2, hF⟩ := q_bd_s hF
  refine va_put (D := g.1) (ci := 7) (v := .int (-6)) (ty := .int) (C := RX7) (T := TX7) (N := 34) hx hb hts hi7 tyX7 tyX7_ok nmX7 hown hK hP hD hS 0 rfl rfl 19 (by decide) (hts (.fieldLink RX7 169 "PanTalesModel" "badAct" "I") (by decide +kernel)) (fun _ h9 => h9) rfl (by decide +kernel) rfl rfl (Nat.le_of_ble_eq_true rfl) dX7_goNights_3 (fun H locs hP hD hS => ?_)
  have hP : va_P g.1 vwCl (wX7 g qM AM (q_pt σM 19 (-6 : Int32)) ℓM) H := hP
  have hD : va_D Z (wX7 g qM AM (q_pt σM 19 (-6 : Int32)) ℓM) := hD
  rw [e_2] at hP hD
  refine lv_aload_n hx hb dX7_goNights_6 rfl (lv_at hl 0 rfl) ?_
  refine lv_bipush (v := (-6)) hx hb dX7_goNights_7 (by decide) ?_
  obtain ⟨σM_3, e_4, hF⟩ := q_bd_s hF
  refine va_put (D := g.1) (ci := 7) (v := .int (-6)) (ty := .int) (C := RX7) (T := TX7) (N := 34) hx hb hts hi7 tyX7 tyX7_ok nmX7 hown hK hP hD hS 0 rfl rfl 20 (by decide) (hts (.fieldLink RX7 172 "PanTalesModel" "badWhy" "I") (by decide +kernel)) (fun _ h9 => h9) rfl (by decide +kernel) rfl rfl (Nat.le_of_ble_eq_true rfl) dX7_goNights_9 (fun H locs hP hD hS => ?_)
  have hP : va_P g.1 vwCl (wX7 g qM AM (q_pt σM_1 20 (-6 : Int32)) ℓM) H := hP
  have hD : va_D Z (wX7 g qM AM (q_pt σM_1 20 (-6 : Int32)) ℓM) := hD
  rw [e_4] at hP hD
  refine lv_aload_n hx hb dX7_goNights_12 rfl (lv_at hl 0 rfl) ?_
  refine lv_iconst (v := 0) hx hb dX7_goNights_13 (by decide) ?_
  obtain ⟨σM_5, e_6, hF⟩ := q_bd_s hF
  refine va_put (D := g.1) (ci := 7) (v := .int 0) (ty := .int) (C := RX7) (T := TX7) (N := 34) hx hb hts hi7 tyX7 tyX7_ok nmX7 hown hK hP hD hS 0 rfl rfl 21 (by decide) (hts (.fieldLink RX7 160 "PanTalesModel" "beds" "I") (by decide +kernel)) (fun _ h9 => h9) rfl (by decide +kernel) rfl rfl (Nat.le_of_ble_eq_true rfl) dX7_goNights_14 (fun H locs hP hD hS => ?_)
  have hP : va_P g.1 vwCl (wX7 g qM AM (q_pt σM_3 21 (0 : Int32)) ℓM) H := hP
  have hD : va_D Z (wX7 g qM AM (q_pt σM_3 21 (0 : Int32)) ℓM) := hD
  rw [e_6] at hP hD
  refine lv_aload_n hx hb dX7_goNights_17 rfl (lv_at hl 0 rfl) ?_
  refine lv_bipush (v := (-6)) hx hb dX7_goNights_18 (by decide) ?_
  obtain ⟨σM_7, e_8, hF⟩ := q_bd_s hF
  refine va_put (D := g.1) (ci := 7) (v := .int (-6)) (ty := .int) (C := RX7) (T := TX7) (N := 34) hx hb hts hi7 tyX7 tyX7_ok nmX7 hown hK hP hD hS 0 rfl rfl 22 (by decide) (hts (.fieldLink RX7 163 "PanTalesModel" "otherAct" "I") (by decide +kernel)) (fun _ h9 => h9) rfl (by decide +kernel) rfl rfl (Nat.le_of_ble_eq_true rfl) dX7_goNights_20 (fun H locs hP hD hS => ?_)
  have hP : va_P g.1 vwCl (wX7 g qM AM (q_pt σM_5 22 (-6 : Int32)) ℓM) H := hP
  have hD : va_D Z (wX7 g qM AM (q_pt σM_5 22 (-6 : Int32)) ℓM) := hD
  rw [e_8] at hP hD
  refine lv_aload_n hx hb dX7_goNights_23 rfl (lv_at hl 0 rfl) ?_
  refine lv_bipush (v := (-6)) hx hb dX7_goNights_24 (by decide) ?_
  obtain ⟨σM_9, e_10, hF⟩ := q_bd_s hF
  refine va_put (D := g.1) (ci := 7) (v := .int (-6)) (ty := .int) (C := RX7) (T := TX7) (N := 34) hx hb hts hi7 tyX7 tyX7_ok nmX7 hown hK hP hD hS 0 rfl rfl 23 (by decide) (hts (.fieldLink RX7 166 "PanTalesModel" "otherHouse" "I") (by decide +kernel)) (fun _ h9 => h9) rfl (by decide +kernel) rfl rfl (Nat.le_of_ble_eq_true rfl) dX7_goNights_26 (fun H locs hP hD hS => ?_)
  have hP : va_P g.1 vwCl (wX7 g qM AM (q_pt σM_7 23 (-6 : Int32)) ℓM) H := hP
  have hD : va_D Z (wX7 g qM AM (q_pt σM_7 23 (-6 : Int32)) ℓM) := hD
  rw [e_10] at hP hD
  refine lv_iconst (v := 0) hx hb dX7_goNights_29 (by decide) ?_
  refine lv_istore_n (lv' := [(1, .int 0), (0, .ref qM)]) hx hb dX7_goNights_30 rfl hl (by decide) rfl (fun ls hl => ?_)
  refine q_loop (fun u0 => wX7 g qM AM u0.2 ℓM) (fun u0 => [(1, .int u0.1), (0, .ref qM)]) 106 hF ?_ ?_ hP hD hS (lv_sub hl [0, 1] rfl)
  · rintro ⟨v1_11, σM_11⟩ hF H locs ls hP hD hS hl
    try dsimp only at hF
    have hP : va_P g.1 vwCl (wX7 g qM AM σM_11 ℓM) H := hP
    have hD : va_D Z (wX7 g qM AM σM_11 ℓM) := hD
    have hl : lv_has ls 3 [(1, .int v1_11), (0, .ref qM)] := hl
    cases hF
    exact r_vret hx hb hr hlk hS () trivial hP hD dX7_goNights_106
  · rintro k again kk ag ⟨v1_11, σM_11⟩ hF H locs ls hP hD hS hl
    dsimp only [b_X7_goNights_31] at hF
    have hP : va_P g.1 vwCl (wX7 g qM AM σM_11 ℓM) H := hP
    have hD : va_D Z (wX7 g qM AM σM_11 ℓM) := hD
    have hl : lv_has ls 3 [(1, .int v1_11), (0, .ref qM)] := hl
    refine lv_iload_n hx hb dX7_goNights_31 rfl (lv_at hl 0 rfl) ?_
    refine lv_aload_n hx hb dX7_goNights_32 rfl (lv_at hl 1 rfl) ?_
    refine va_get (D := g.1) (ci := 7) (v := .int (σM_11 99 17)) (C := RX7) (T := TX7) (N := 34) hx hb hts hi7 hown hK hP 0 rfl rfl 17 (by decide) (hts (.fieldLink RX7 103 "PanTalesModel" "acts" "I") (by decide +kernel)) (fun _ h9 => h9) rfl dX7_goNights_33 ?_
    refine lv_icmp_ge (tgt := 106) hx hb dX7_goNights_36 (by decide) (fun c_12 => ?_) (fun c_12 => ?_)
    · have hF := q_if_t c_12 hF
      exact kk (v1_11, σM_11) hF _ _ _ hP hD hS (lv_sub hl [0, 1] rfl)
    · have hF := q_if_f c_12 hF
      refine lv_aload_n hx hb dX7_goNights_39 rfl (lv_at hl 1 rfl) ?_
      refine va_get (D := g.1) (ci := 7) (v := .int (σM_11 99 19)) (C := RX7) (T := TX7) (N := 34) hx hb hts hi7 hown hK hP 0 rfl rfl 19 (by decide) (hts (.fieldLink RX7 169 "PanTalesModel" "badAct" "I") (by decide +kernel)) (fun _ h9 => h9) rfl dX7_goNights_40 ?_
      refine lv_if_ge (tgt := 106) hx hb dX7_goNights_43 (by decide) (fun c_13 => ?_) (fun c_13 => ?_)
      · have hF := q_if_t c_13 hF
        exact kk (v1_11, σM_11) hF _ _ _ hP hD hS (lv_sub hl [0, 1] rfl)
      · have hF := q_if_f c_13 hF
        refine lv_aload_n hx hb dX7_goNights_46 rfl (lv_at hl 1 rfl) ?_
        refine lv_aload_n hx hb dX7_goNights_47 rfl (lv_at hl 1 rfl) ?_
        refine va_get (D := g.1) (ci := 7) (v := .ref (AM 14)) (C := RX7) (T := TX7) (N := 34) hx hb hts hi7 hown hK hP 0 rfl rfl 14 (by decide) (hts (.fieldLink RX7 34 "PanTalesModel" "act" "[I") (by decide +kernel)) (fun _ h9 => h9) rfl dX7_goNights_48 ?_
        refine lv_iload_n hx hb dX7_goNights_51 rfl (lv_at hl 0 rfl) ?_
        obtain ⟨r_14, i_15, e_16, hF⟩ := q_rd_s hF
        refine r_iald (v := r_14) hx hb hK hP 9 rfl i_15 e_16 dX7_goNights_52 ?_
        refine lv_aload_n hx hb dX7_goNights_53 rfl (lv_at hl 1 rfl) ?_
        refine va_get (D := g.1) (ci := 7) (v := .ref (AM 15)) (C := RX7) (T := TX7) (N := 34) hx hb hts hi7 hown hK hP 0 rfl rfl 15 (by decide) (hts (.fieldLink RX7 37 "PanTalesModel" "which" "[I") (by decide +kernel)) (fun _ h9 => h9) rfl dX7_goNights_54 ?_
        refine lv_iload_n hx hb dX7_goNights_57 rfl (lv_at hl 0 rfl) ?_
        obtain ⟨r_17, i_18, e_19, hF⟩ := q_rd_s hF
        refine r_iald (v := r_17) hx hb hK hP 10 rfl i_18 e_19 dX7_goNights_58 ?_
        obtain ⟨r_20, h_21, hF⟩ := q_cl_s hF
        refine gcV_i (As := [.int r_14, .int r_17]) (rest := []) (ci := 7) (q := (RX7, TX7, 34)) F hK hN hP hD hS hA (m_X7_whyNot l g H.size qM AM σM_11 ℓM r_14 r_17 r_20 h_21) gX7_goNights_X7_whyNot kX7_whyNot rfl rfl rfl rfl ⟨(Nat.le_of_ble_eq_true rfl), (Nat.le_of_ble_eq_true rfl)⟩ [0, 1, 2, 3, 4, 5, 6, 7, 8, 9, 10, 11, 12, 13, 14, 15, 16, 17, 18, 19, 20] [] rfl rfl rfl (by decide) rfl rfl rfl rfl rfl hl.1 (Nat.le_of_ble_eq_true rfl) dX7_goNights_59 ⟨(Nat.le_of_ble_eq_true rfl), (Nat.le_of_ble_eq_true rfl)⟩ (fun r_w u_w H locs hw hP hD hS => ?_)
        have hP : va_P g.1 vwCl (wX7 g qM AM σM_11 ℓM) H := hP
        have hD : va_D Z (wX7 g qM AM σM_11 ℓM) := hD
        obtain rfl : r_20 = r_w := hw.symm
        refine lv_istore_n (lv' := [(2, .int r_20), (1, .int v1_11), (0, .ref qM)]) hx hb dX7_goNights_62 rfl hl (by decide) rfl (fun ls hl => ?_)
        refine lv_aload_n hx hb dX7_goNights_63 rfl (lv_at hl 2 rfl) ?_
        refine lv_iload_n hx hb dX7_goNights_64 rfl (lv_at hl 0 rfl) ?_
        refine lv_if_le (tgt := 72) hx hb dX7_goNights_65 (by decide) (fun c_22 => ?_) (fun c_22 => ?_)
        · have hF := q_if_t c_22 hF
          refine lv_bipush (v := (-6)) hx hb dX7_goNights_72 (by decide) ?_
          obtain ⟨σM_23, e_24, hF⟩ := q_bd_s hF
          refine va_put (D := g.1) (ci := 7) (v := .int (-6)) (ty := .int) (C := RX7) (T := TX7) (N := 34) hx hb hts hi7 tyX7 tyX7_ok nmX7 hown hK hP hD hS 0 rfl rfl 19 (by decide) (hts (.fieldLink RX7 169 "PanTalesModel" "badAct" "I") (by decide +kernel)) (fun _ h9 => h9) rfl (by decide +kernel) rfl rfl (Nat.le_of_ble_eq_true rfl) dX7_goNights_74 (fun H locs hP hD hS => ?_)
          have hP : va_P g.1 vwCl (wX7 g qM AM (q_pt σM_11 19 (-6 : Int32)) ℓM) H := hP
          have hD : va_D Z (wX7 g qM AM (q_pt σM_11 19 (-6 : Int32)) ℓM) := hD
          rw [e_24] at hP hD
          refine lv_aload_n hx hb dX7_goNights_77 rfl (lv_at hl 2 rfl) ?_
          refine lv_iload_n hx hb dX7_goNights_78 rfl (lv_at hl 0 rfl) ?_
          refine lv_if_le (tgt := 86) hx hb dX7_goNights_79 (by decide) (fun c_25 => ?_) (fun c_25 => ?_)
          · have hF := q_if_t c_25 hF
            refine lv_bipush (v := (-6)) hx hb dX7_goNights_86 (by decide) ?_
            obtain ⟨σM_26, e_27, hF⟩ := q_bd_s hF
            refine va_put (D := g.1) (ci := 7) (v := .int (-6)) (ty := .int) (C := RX7) (T := TX7) (N := 34) hx hb hts hi7 tyX7 tyX7_ok nmX7 hown hK hP hD hS 0 rfl rfl 20 (by decide) (hts (.fieldLink RX7 172 "PanTalesModel" "badWhy" "I") (by decide +kernel)) (fun _ h9 => h9) rfl (by decide +kernel) rfl rfl (Nat.le_of_ble_eq_true rfl) dX7_goNights_88 (fun H locs hP hD hS => ?_)
            have hP : va_P g.1 vwCl (wX7 g qM AM (q_pt σM_23 20 (-6 : Int32)) ℓM) H := hP
            have hD : va_D Z (wX7 g qM AM (q_pt σM_23 20 (-6 : Int32)) ℓM) := hD
            rw [e_27] at hP hD
            refine lv_iload_n hx hb dX7_goNights_91 rfl (lv_at hl 0 rfl) ?_
            refine lv_if_ne (tgt := 100) hx hb dX7_goNights_92 (by decide) (fun c_28 => ?_) (fun c_28 => ?_)
            · have hF := q_if_f c_28 hF
              refine lv_iinc (v := v1_11 + 1) (lv' := [(1, .int (v1_11 + 1)), (2, .int r_20), (0, .ref qM)]) hx hb dX7_goNights_100 hl (k := 1) rfl rfl (by decide) rfl (fun ls hl => ?_)
              refine lv_goto (tgt := 31) hx hb dX7_goNights_103 (by decide) ?_
              exact ag (v1_11 + 1, σM_26) hF _ _ _ hP hD hS (lv_sub hl [0, 2] rfl)
            · have hF := q_if_t (by first | exact c_28 | exact Classical.not_not.mp c_28) hF
              refine lv_aload_n hx hb dX7_goNights_95 rfl (lv_at hl 2 rfl) ?_
              refine lv_iload_n hx hb dX7_goNights_96 rfl (lv_at hl 1 rfl) ?_
              obtain ⟨σM_29, h_30, hF⟩ := q_cl_s hF
              refine gcV_v (As := [.int v1_11]) (rest := []) (ci := 7) (q := (RX7, TX7, 34)) F hK hN hP hD hS hA (m_X7_goOne l g H.size qM AM σM_26 ℓM v1_11 σM_29 h_30) gX7_goNights_X7_goOne kX7_goOne rfl rfl rfl rfl ⟨(Nat.le_of_ble_eq_true rfl), (Nat.le_of_ble_eq_true rfl)⟩ [0, 1, 2, 3, 4, 5, 6, 7, 8, 9, 10, 11, 12, 13, 14, 15, 16, 17, 18, 19, 20] [] rfl rfl rfl (by decide) rfl rfl rfl rfl rfl hl.1 (Nat.le_of_ble_eq_true rfl) dX7_goNights_97 ⟨(Nat.le_of_ble_eq_true rfl), (Nat.le_of_ble_eq_true rfl)⟩ (fun u_w H locs hw hP hD hS => ?_)
              have hP : va_P g.1 vwCl (wX7 g qM AM σM_29 ℓM) H := hP
              have hD : va_D Z (wX7 g qM AM σM_29 ℓM) := hD
              refine lv_iinc (v := v1_11 + 1) (lv' := [(1, .int (v1_11 + 1)), (2, .int r_20), (0, .ref qM)]) hx hb dX7_goNights_100 hl (k := 1) rfl rfl (by decide) rfl (fun ls hl => ?_)
              refine lv_goto (tgt := 31) hx hb dX7_goNights_103 (by decide) ?_
              exact ag (v1_11 + 1, σM_29) hF _ _ _ hP hD hS (lv_sub hl [0, 2] rfl)
          · have hF := q_if_f c_25 hF
            refine lv_iload_n hx hb dX7_goNights_82 rfl (lv_at hl 0 rfl) ?_
            refine lv_goto (tgt := 88) hx hb dX7_goNights_83 (by decide) ?_
            obtain ⟨σM_31, e_32, hF⟩ := q_bd_s hF
            refine va_put (D := g.1) (ci := 7) (v := .int r_20) (ty := .int) (C := RX7) (T := TX7) (N := 34) hx hb hts hi7 tyX7 tyX7_ok nmX7 hown hK hP hD hS 0 rfl rfl 20 (by decide) (hts (.fieldLink RX7 172 "PanTalesModel" "badWhy" "I") (by decide +kernel)) (fun _ h9 => h9) rfl (by decide +kernel) rfl rfl (Nat.le_of_ble_eq_true rfl) dX7_goNights_88 (fun H locs hP hD hS => ?_)
            have hP : va_P g.1 vwCl (wX7 g qM AM (q_pt σM_23 20 r_20) ℓM) H := hP
            have hD : va_D Z (wX7 g qM AM (q_pt σM_23 20 r_20) ℓM) := hD
            rw [e_32] at hP hD
            refine lv_iload_n hx hb dX7_goNights_91 rfl (lv_at hl 0 rfl) ?_
            refine lv_if_ne (tgt := 100) hx hb dX7_goNights_92 (by decide) (fun c_33 => ?_) (fun c_33 => ?_)
            · have hF := q_if_f c_33 hF
              refine lv_iinc (v := v1_11 + 1) (lv' := [(1, .int (v1_11 + 1)), (2, .int r_20), (0, .ref qM)]) hx hb dX7_goNights_100 hl (k := 1) rfl rfl (by decide) rfl (fun ls hl => ?_)
              refine lv_goto (tgt := 31) hx hb dX7_goNights_103 (by decide) ?_
              exact ag (v1_11 + 1, σM_31) hF _ _ _ hP hD hS (lv_sub hl [0, 2] rfl)
            · have hF := q_if_t (by first | exact c_33 | exact Classical.not_not.mp c_33) hF
              refine lv_aload_n hx hb dX7_goNights_95 rfl (lv_at hl 2 rfl) ?_
              refine lv_iload_n hx hb dX7_goNights_96 rfl (lv_at hl 1 rfl) ?_
              obtain ⟨σM_34, h_35, hF⟩ := q_cl_s hF
              refine gcV_v (As := [.int v1_11]) (rest := []) (ci := 7) (q := (RX7, TX7, 34)) F hK hN hP hD hS hA (m_X7_goOne l g H.size qM AM σM_31 ℓM v1_11 σM_34 h_35) gX7_goNights_X7_goOne kX7_goOne rfl rfl rfl rfl ⟨(Nat.le_of_ble_eq_true rfl), (Nat.le_of_ble_eq_true rfl)⟩ [0, 1, 2, 3, 4, 5, 6, 7, 8, 9, 10, 11, 12, 13, 14, 15, 16, 17, 18, 19, 20] [] rfl rfl rfl (by decide) rfl rfl rfl rfl rfl hl.1 (Nat.le_of_ble_eq_true rfl) dX7_goNights_97 ⟨(Nat.le_of_ble_eq_true rfl), (Nat.le_of_ble_eq_true rfl)⟩ (fun u_w H locs hw hP hD hS => ?_)
              have hP : va_P g.1 vwCl (wX7 g qM AM σM_34 ℓM) H := hP
              have hD : va_D Z (wX7 g qM AM σM_34 ℓM) := hD
              refine lv_iinc (v := v1_11 + 1) (lv' := [(1, .int (v1_11 + 1)), (2, .int r_20), (0, .ref qM)]) hx hb dX7_goNights_100 hl (k := 1) rfl rfl (by decide) rfl (fun ls hl => ?_)
              refine lv_goto (tgt := 31) hx hb dX7_goNights_103 (by decide) ?_
              exact ag (v1_11 + 1, σM_34) hF _ _ _ hP hD hS (lv_sub hl [0, 2] rfl)
        · have hF := q_if_f c_22 hF
          refine lv_iload_n hx hb dX7_goNights_68 rfl (lv_at hl 1 rfl) ?_
          refine lv_goto (tgt := 74) hx hb dX7_goNights_69 (by decide) ?_
          obtain ⟨σM_36, e_37, hF⟩ := q_bd_s hF
          refine va_put (D := g.1) (ci := 7) (v := .int v1_11) (ty := .int) (C := RX7) (T := TX7) (N := 34) hx hb hts hi7 tyX7 tyX7_ok nmX7 hown hK hP hD hS 0 rfl rfl 19 (by decide) (hts (.fieldLink RX7 169 "PanTalesModel" "badAct" "I") (by decide +kernel)) (fun _ h9 => h9) rfl (by decide +kernel) rfl rfl (Nat.le_of_ble_eq_true rfl) dX7_goNights_74 (fun H locs hP hD hS => ?_)
          have hP : va_P g.1 vwCl (wX7 g qM AM (q_pt σM_11 19 v1_11) ℓM) H := hP
          have hD : va_D Z (wX7 g qM AM (q_pt σM_11 19 v1_11) ℓM) := hD
          rw [e_37] at hP hD
          refine lv_aload_n hx hb dX7_goNights_77 rfl (lv_at hl 2 rfl) ?_
          refine lv_iload_n hx hb dX7_goNights_78 rfl (lv_at hl 0 rfl) ?_
          refine lv_if_le (tgt := 86) hx hb dX7_goNights_79 (by decide) (fun c_38 => ?_) (fun c_38 => ?_)
          · have hF := q_if_t c_38 hF
            refine lv_bipush (v := (-6)) hx hb dX7_goNights_86 (by decide) ?_
            obtain ⟨σM_39, e_40, hF⟩ := q_bd_s hF
            refine va_put (D := g.1) (ci := 7) (v := .int (-6)) (ty := .int) (C := RX7) (T := TX7) (N := 34) hx hb hts hi7 tyX7 tyX7_ok nmX7 hown hK hP hD hS 0 rfl rfl 20 (by decide) (hts (.fieldLink RX7 172 "PanTalesModel" "badWhy" "I") (by decide +kernel)) (fun _ h9 => h9) rfl (by decide +kernel) rfl rfl (Nat.le_of_ble_eq_true rfl) dX7_goNights_88 (fun H locs hP hD hS => ?_)
            have hP : va_P g.1 vwCl (wX7 g qM AM (q_pt σM_36 20 (-6 : Int32)) ℓM) H := hP
            have hD : va_D Z (wX7 g qM AM (q_pt σM_36 20 (-6 : Int32)) ℓM) := hD
            rw [e_40] at hP hD
            refine lv_iload_n hx hb dX7_goNights_91 rfl (lv_at hl 0 rfl) ?_
            refine lv_if_ne (tgt := 100) hx hb dX7_goNights_92 (by decide) (fun c_41 => ?_) (fun c_41 => ?_)
            · have hF := q_if_f c_41 hF
              refine lv_iinc (v := v1_11 + 1) (lv' := [(1, .int (v1_11 + 1)), (2, .int r_20), (0, .ref qM)]) hx hb dX7_goNights_100 hl (k := 1) rfl rfl (by decide) rfl (fun ls hl => ?_)
              refine lv_goto (tgt := 31) hx hb dX7_goNights_103 (by decide) ?_
              exact ag (v1_11 + 1, σM_39) hF _ _ _ hP hD hS (lv_sub hl [0, 2] rfl)
            · have hF := q_if_t (by first | exact c_41 | exact Classical.not_not.mp c_41) hF
              refine lv_aload_n hx hb dX7_goNights_95 rfl (lv_at hl 2 rfl) ?_
              refine lv_iload_n hx hb dX7_goNights_96 rfl (lv_at hl 1 rfl) ?_
              obtain ⟨σM_42, h_43, hF⟩ := q_cl_s hF
              refine gcV_v (As := [.int v1_11]) (rest := []) (ci := 7) (q := (RX7, TX7, 34)) F hK hN hP hD hS hA (m_X7_goOne l g H.size qM AM σM_39 ℓM v1_11 σM_42 h_43) gX7_goNights_X7_goOne kX7_goOne rfl rfl rfl rfl ⟨(Nat.le_of_ble_eq_true rfl), (Nat.le_of_ble_eq_true rfl)⟩ [0, 1, 2, 3, 4, 5, 6, 7, 8, 9, 10, 11, 12, 13, 14, 15, 16, 17, 18, 19, 20] [] rfl rfl rfl (by decide) rfl rfl rfl rfl rfl hl.1 (Nat.le_of_ble_eq_true rfl) dX7_goNights_97 ⟨(Nat.le_of_ble_eq_true rfl), (Nat.le_of_ble_eq_true rfl)⟩ (fun u_w H locs hw hP hD hS => ?_)
              have hP : va_P g.1 vwCl (wX7 g qM AM σM_42 ℓM) H := hP
              have hD : va_D Z (wX7 g qM AM σM_42 ℓM) := hD
              refine lv_iinc (v := v1_11 + 1) (lv' := [(1, .int (v1_11 + 1)), (2, .int r_20), (0, .ref qM)]) hx hb dX7_goNights_100 hl (k := 1) rfl rfl (by decide) rfl (fun ls hl => ?_)
              refine lv_goto (tgt := 31) hx hb dX7_goNights_103 (by decide) ?_
              exact ag (v1_11 + 1, σM_42) hF _ _ _ hP hD hS (lv_sub hl [0, 2] rfl)
          · have hF := q_if_f c_38 hF
            refine lv_iload_n hx hb dX7_goNights_82 rfl (lv_at hl 0 rfl) ?_
            refine lv_goto (tgt := 88) hx hb dX7_goNights_83 (by decide) ?_
            obtain ⟨σM_44, e_45, hF⟩ := q_bd_s hF
            refine va_put (D := g.1) (ci := 7) (v := .int r_20) (ty := .int) (C := RX7) (T := TX7) (N := 34) hx hb hts hi7 tyX7 tyX7_ok nmX7 hown hK hP hD hS 0 rfl rfl 20 (by decide) (hts (.fieldLink RX7 172 "PanTalesModel" "badWhy" "I") (by decide +kernel)) (fun _ h9 => h9) rfl (by decide +kernel) rfl rfl (Nat.le_of_ble_eq_true rfl) dX7_goNights_88 (fun H locs hP hD hS => ?_)
            have hP : va_P g.1 vwCl (wX7 g qM AM (q_pt σM_36 20 r_20) ℓM) H := hP
            have hD : va_D Z (wX7 g qM AM (q_pt σM_36 20 r_20) ℓM) := hD
            rw [e_45] at hP hD
            refine lv_iload_n hx hb dX7_goNights_91 rfl (lv_at hl 0 rfl) ?_
            refine lv_if_ne (tgt := 100) hx hb dX7_goNights_92 (by decide) (fun c_46 => ?_) (fun c_46 => ?_)
            · have hF := q_if_f c_46 hF
              refine lv_iinc (v := v1_11 + 1) (lv' := [(1, .int (v1_11 + 1)), (2, .int r_20), (0, .ref qM)]) hx hb dX7_goNights_100 hl (k := 1) rfl rfl (by decide) rfl (fun ls hl => ?_)
              refine lv_goto (tgt := 31) hx hb dX7_goNights_103 (by decide) ?_
              exact ag (v1_11 + 1, σM_44) hF _ _ _ hP hD hS (lv_sub hl [0, 2] rfl)
            · have hF := q_if_t (by first | exact c_46 | exact Classical.not_not.mp c_46) hF
              refine lv_aload_n hx hb dX7_goNights_95 rfl (lv_at hl 2 rfl) ?_
              refine lv_iload_n hx hb dX7_goNights_96 rfl (lv_at hl 1 rfl) ?_
              obtain ⟨σM_47, h_48, hF⟩ := q_cl_s hF
              refine gcV_v (As := [.int v1_11]) (rest := []) (ci := 7) (q := (RX7, TX7, 34)) F hK hN hP hD hS hA (m_X7_goOne l g H.size qM AM σM_44 ℓM v1_11 σM_47 h_48) gX7_goNights_X7_goOne kX7_goOne rfl rfl rfl rfl ⟨(Nat.le_of_ble_eq_true rfl), (Nat.le_of_ble_eq_true rfl)⟩ [0, 1, 2, 3, 4, 5, 6, 7, 8, 9, 10, 11, 12, 13, 14, 15, 16, 17, 18, 19, 20] [] rfl rfl rfl (by decide) rfl rfl rfl rfl rfl hl.1 (Nat.le_of_ble_eq_true rfl) dX7_goNights_97 ⟨(Nat.le_of_ble_eq_true rfl), (Nat.le_of_ble_eq_true rfl)⟩ (fun u_w H locs hw hP hD hS => ?_)
              have hP : va_P g.1 vwCl (wX7 g qM AM σM_47 ℓM) H := hP
              have hD : va_D Z (wX7 g qM AM σM_47 ℓM) := hD
              refine lv_iinc (v := v1_11 + 1) (lv' := [(1, .int (v1_11 + 1)), (2, .int r_20), (0, .ref qM)]) hx hb dX7_goNights_100 hl (k := 1) rfl rfl (by decide) rfl (fun ls hl => ?_)
              refine lv_goto (tgt := 31) hx hb dX7_goNights_103 (by decide) ?_
              exact ag (v1_11 + 1, σM_47) hF _ _ _ hP hD hS (lv_sub hl [0, 2] rfl)
set_option maxHeartbeats 4000000 in
set_option maxRecDepth 100000 in
theorem m_X7_refusal (l : Launch) (g : GT) (sz : Nat) (qM : Nat) (AM : Nat → Nat) (σM : qS) (ℓM : qL) (rr : Int32) (σM' : qS) (hF : f_X7_refusal σM ℓM = some (rr, σM')) : Ci l yX7_refusal wsX7_refusal { frames := 5, cells := 0, slots := 0, locals := 110 } g sz [.ref qM] (wX7 g qM AM σM ℓM) rr (wX7 g qM AM σM' ℓM) := by
  refine gMet_i (cc := cX7_refusal) (maxL := 1) (ret := (some .int)) (by decide) rfl (Nat.le_of_ble_eq_true rfl) ?_
  intro p e s m args below meth c Z hx hb hr F hlk hnm hK hN hA H locs hP hD hS ls hl
  have hl : lv_has ls 1 [(0, .ref qM)] := hl
  have F : CallFix p m c cX7_refusal 1 s args wsX7_refusal RX7 := F
  have hts := F.2.2.2.2
  have hown : s.vm.findClass RX7 = some m.cls := F.2.2.2.1
  have hi7 : ∀ w ∈ u_ws RX7 TX7 34, w ∈ wsX7_refusal := by decide +kernel
  dsimp only [f_X7_refusal] at hF
  refine lv_aload_n hx hb dX7_refusal_0 rfl (lv_at hl 0 rfl) ?_
  obtain ⟨σM_1, h_2, hF⟩ := q_cl_s hF
  refine gcV_v (As := []) (rest := []) (ci := 7) (q := (RX7, TX7, 34)) F hK hN hP hD hS hA (m_X7_keepNow l g H.size qM AM σM ℓM σM_1 h_2) gX7_refusal_X7_keepNow kX7_keepNow rfl rfl rfl rfl ⟨(Nat.le_of_ble_eq_true rfl), (Nat.le_of_ble_eq_true rfl)⟩ [0, 1, 2, 3, 4, 5, 6, 7, 8, 9, 10, 11, 12, 13, 14, 15, 16, 17, 18, 19, 20] [] rfl rfl rfl (by decide) rfl rfl rfl rfl rfl hl.1 (Nat.le_of_ble_eq_true rfl) dX7_refusal_1 ⟨(Nat.le_of_ble_eq_true rfl), (Nat.le_of_ble_eq_true rfl)⟩ (fun u_w H locs hw hP hD hS => ?_)
  have hP : va_P g.1 vwCl (wX7 g qM AM σM_1 ℓM) H := hP
  have hD : va_D Z (wX7 g qM AM σM_1 ℓM) := hD
  refine lv_aload_n hx hb dX7_refusal_4 rfl (lv_at hl 0 rfl) ?_
  obtain ⟨⟨r_3, σM_4⟩, h_5, hF⟩ := q_cl_s hF
  try dsimp only at hF
  refine gcV_i (As := []) (rest := []) (ci := 7) (q := (RX7, TX7, 34)) F hK hN hP hD hS hA (m_X7_fault l g H.size qM AM σM_1 ℓM r_3 σM_4 h_5) gX7_refusal_X7_fault kX7_fault rfl rfl rfl rfl ⟨(Nat.le_of_ble_eq_true rfl), (Nat.le_of_ble_eq_true rfl)⟩ [0, 1, 2, 3, 4, 5, 6, 7, 8, 9, 10, 11, 12, 13, 14, 15, 16, 17, 18, 19, 20] [] rfl rfl rfl (by decide) rfl rfl rfl rfl rfl hl.1 (Nat.le_of_ble_eq_true rfl) dX7_refusal_5 ⟨(Nat.le_of_ble_eq_true rfl), (Nat.le_of_ble_eq_true rfl)⟩ (fun r_w u_w H locs hw hP hD hS => ?_)
  have hP : va_P g.1 vwCl (wX7 g qM AM σM_4 ℓM) H := hP
  have hD : va_D Z (wX7 g qM AM σM_4 ℓM) := hD
  obtain rfl : r_3 = r_w := hw.symm
  refine lv_if_lt (tgt := 14) hx hb dX7_refusal_8 (by decide) (fun c_7 => ?_) (fun c_7 => ?_)
  · have hF := q_if_t c_7 hF
    refine lv_aload_n hx hb dX7_refusal_14 rfl (lv_at hl 0 rfl) ?_
    obtain ⟨σM_8, h_9, hF⟩ := q_cl_s hF
    refine gcV_v (As := []) (rest := []) (ci := 7) (q := (RX7, TX7, 34)) F hK hN hP hD hS hA (m_X7_goNights l g H.size qM AM σM_4 ℓM σM_8 h_9) gX7_refusal_X7_goNights kX7_goNights rfl rfl rfl rfl ⟨(Nat.le_of_ble_eq_true rfl), (Nat.le_of_ble_eq_true rfl)⟩ [0, 1, 2, 3, 4, 5, 6, 7, 8, 9, 10, 11, 12, 13, 14, 15, 16, 17, 18, 19, 20] [] rfl rfl rfl (by decide) rfl rfl rfl rfl rfl hl.1 (Nat.le_of_ble_eq_true rfl) dX7_refusal_15 ⟨(Nat.le_of_ble_eq_true rfl), (Nat.le_of_ble_eq_true rfl)⟩ (fun u_w H locs hw hP hD hS => ?_)
    have hP : va_P g.1 vwCl (wX7 g qM AM σM_8 ℓM) H := hP
    have hD : va_D Z (wX7 g qM AM σM_8 ℓM) := hD
    refine lv_aload_n hx hb dX7_refusal_18 rfl (lv_at hl 0 rfl) ?_
    refine va_get (D := g.1) (ci := 7) (v := .int (σM_8 99 19)) (C := RX7) (T := TX7) (N := 34) hx hb hts hi7 hown hK hP 0 rfl rfl 19 (by decide) (hts (.fieldLink RX7 169 "PanTalesModel" "badAct" "I") (by decide +kernel)) (fun _ h9 => h9) rfl dX7_refusal_19 ?_
    refine lv_if_lt (tgt := 30) hx hb dX7_refusal_22 (by decide) (fun c_10 => ?_) (fun c_10 => ?_)
    · have hF := q_if_t c_10 hF
      refine lv_bipush (v := (-6)) hx hb dX7_refusal_30 (by decide) ?_
      cases hF
      exact r_iret hx hb hr hlk hS () rfl hP hD dX7_refusal_32
    · have hF := q_if_f c_10 hF
      refine lv_bipush (v := (-3)) hx hb dX7_refusal_25 (by decide) ?_
      refine lv_goto (tgt := 32) hx hb dX7_refusal_27 (by decide) ?_
      cases hF
      exact r_iret hx hb hr hlk hS () rfl hP hD dX7_refusal_32
  · have hF := q_if_f c_7 hF
    refine lv_bipush (v := (-5)) hx hb dX7_refusal_11 (by decide) ?_
    cases hF
    exact r_iret hx hb hr hlk hS () rfl hP hD dX7_refusal_13
set_option maxHeartbeats 4000000 in
set_option maxRecDepth 100000 in
theorem m_X7_judge (l : Launch) (g : GT) (sz : Nat) (qM : Nat) (AM : Nat → Nat) (σM : qS) (ℓM : qL) (a1 : Int32) (rr : Int32) (σM' : qS) (hF : f_X7_judge σM ℓM a1 = some (rr, σM')) : Ci l yX7_judge wsX7_judge { frames := 6, cells := 0, slots := 0, locals := 130 } g sz [.ref qM, .int a1] (wX7 g qM AM σM ℓM) rr (wX7 g qM AM σM' ℓM) := by
  refine gMet_i (cc := cX7_judge) (maxL := 3) (ret := (some .int)) (by decide) rfl (Nat.le_of_ble_eq_true rfl) ?_
  intro p e s m args below meth c Z hx hb hr F hlk hnm hK hN hA H locs hP hD hS ls hl
  have hl : lv_has ls 3 [(0, .ref qM), (1, .int a1)] := hl
  have F : CallFix p m c cX7_judge 3 s args wsX7_judge RX7 := F
  have hts := F.2.2.2.2
  have hown : s.vm.findClass RX7 = some m.cls := F.2.2.2.1
  have hi7 : ∀ w ∈ u_ws RX7 TX7 34, w ∈ wsX7_judge := by decide +kernel
  dsimp only [f_X7_judge] at hF
  refine lv_iload_n hx hb dX7_judge_0 rfl (lv_at hl 1 rfl) ?_
  refine lv_i2l (v := a1.toInt64) hx hb dX7_judge_1 rfl ?_
  refine lv_lconst (v := 0) hx hb dX7_judge_2 (by decide) ?_
  refine lv_ldc2 (v := 2) hx hb hown (hts (.constantLong RX7 191 (2)) (by decide +kernel)) dX7_judge_3 ?_
  obtain ⟨r_1, h_2, hF⟩ := q_cl_s hF
  refine gcP (As := [.long a1.toInt64, .long 0, .long 2]) (rest := []) F (m_X7_in l a1.toInt64 (0 : Int64) (2 : Int64) r_1 h_2) gX7_judge_X7_in kX7_in rfl rfl rfl ⟨(Nat.le_of_ble_eq_true rfl), (Nat.le_of_ble_eq_true rfl)⟩ rfl rfl hl.1 (Nat.le_of_ble_eq_true rfl) dX7_judge_6 ⟨(Nat.le_of_ble_eq_true rfl), (Nat.le_of_ble_eq_true rfl)⟩ ?_
  refine lv_if_ne (tgt := 15) hx hb dX7_judge_9 (by decide) (fun c_3 => ?_) (fun c_3 => ?_)
  · have hF := q_if_f c_3 hF
    refine lv_aload_n hx hb dX7_judge_15 rfl (lv_at hl 0 rfl) ?_
    refine lv_aload_n hx hb dX7_judge_16 rfl (lv_at hl 0 rfl) ?_
    obtain ⟨⟨r_4, σM_5⟩, h_6, hF⟩ := q_cl_s hF
    try dsimp only at hF
    refine gcV_i (As := []) (rest := [.ref qM]) (ci := 7) (q := (RX7, TX7, 34)) F hK hN hP hD hS hA (m_X7_refusal l g H.size qM AM σM ℓM r_4 σM_5 h_6) gX7_judge_X7_refusal kX7_refusal rfl rfl rfl rfl ⟨(Nat.le_of_ble_eq_true rfl), (Nat.le_of_ble_eq_true rfl)⟩ [0, 1, 2, 3, 4, 5, 6, 7, 8, 9, 10, 11, 12, 13, 14, 15, 16, 17, 18, 19, 20] [] rfl rfl rfl (by decide) rfl rfl rfl rfl rfl hl.1 (Nat.le_of_ble_eq_true rfl) dX7_judge_17 ⟨(Nat.le_of_ble_eq_true rfl), (Nat.le_of_ble_eq_true rfl)⟩ (fun r_w u_w H locs hw hP hD hS => ?_)
    have hP : va_P g.1 vwCl (wX7 g qM AM σM_5 ℓM) H := hP
    have hD : va_D Z (wX7 g qM AM σM_5 ℓM) := hD
    obtain rfl : r_4 = r_w := hw.symm
    obtain ⟨⟨r_8, σM_9⟩, h_10, hF⟩ := q_cl_s hF
    try dsimp only at hF
    refine gcV_i (As := [.int r_4]) (rest := []) (ci := 7) (q := (RX7, TX7, 34)) F hK hN hP hD hS hA (m_X7_back l g H.size qM AM σM_5 ℓM r_4 r_8 σM_9 h_10) gX7_judge_X7_back kX7_back rfl rfl rfl rfl ⟨(Nat.le_of_ble_eq_true rfl), (Nat.le_of_ble_eq_true rfl)⟩ [0, 1, 2, 3, 4, 5, 6, 7, 8, 9, 10, 11, 12, 13, 14, 15, 16, 17, 18, 19, 20] [] rfl rfl rfl (by decide) rfl rfl rfl rfl rfl hl.1 (Nat.le_of_ble_eq_true rfl) dX7_judge_20 ⟨(Nat.le_of_ble_eq_true rfl), (Nat.le_of_ble_eq_true rfl)⟩ (fun r_w u_w H locs hw hP hD hS => ?_)
    have hP : va_P g.1 vwCl (wX7 g qM AM σM_9 ℓM) H := hP
    have hD : va_D Z (wX7 g qM AM σM_9 ℓM) := hD
    obtain rfl : r_8 = r_w := hw.symm
    refine lv_istore_n (lv' := [(2, .int r_8), (0, .ref qM), (1, .int a1)]) hx hb dX7_judge_23 rfl hl (by decide) rfl (fun ls hl => ?_)
    refine lv_iload_n hx hb dX7_judge_24 rfl (lv_at hl 0 rfl) ?_
    refine lv_bipush (v := (-5)) hx hb dX7_judge_25 (by decide) ?_
    refine lv_icmp_eq (tgt := 41) hx hb dX7_judge_27 (by decide) (fun c_12 => ?_) (fun c_12 => ?_)
    · have hF := q_if_t c_12 hF
      refine lv_iload_n hx hb dX7_judge_41 rfl (lv_at hl 0 rfl) ?_
      cases hF
      exact r_iret hx hb hr hlk hS () rfl hP hD dX7_judge_42
    · have hF := q_if_f c_12 hF
      refine lv_iload_n hx hb dX7_judge_30 rfl (lv_at hl 2 rfl) ?_
      refine lv_iconst (v := 1) hx hb dX7_judge_31 (by decide) ?_
      refine lv_icmp_le (tgt := 43) hx hb dX7_judge_32 (by decide) (fun c_13 => ?_) (fun c_13 => ?_)
      · have hF := q_if_t c_13 hF
        refine lv_iload_n hx hb dX7_judge_43 rfl (lv_at hl 2 rfl) ?_
        refine lv_if_ne (tgt := 54) hx hb dX7_judge_44 (by decide) (fun c_14 => ?_) (fun c_14 => ?_)
        · have hF := q_if_f c_14 hF
          refine lv_iload_n hx hb dX7_judge_54 rfl (lv_at hl 2 rfl) ?_
          refine lv_iconst (v := 1) hx hb dX7_judge_55 (by decide) ?_
          refine lv_icmp_ne (tgt := 66) hx hb dX7_judge_56 (by decide) (fun c_15 => ?_) (fun c_15 => ?_)
          · have hF := q_if_f c_15 hF
            refine lv_aload_n hx hb dX7_judge_66 rfl (lv_at hl 1 rfl) ?_
            refine va_get (D := g.1) (ci := 7) (v := .int (σM_9 99 21)) (C := RX7) (T := TX7) (N := 34) hx hb hts hi7 hown hK hP 0 rfl rfl 21 (by decide) (hts (.fieldLink RX7 160 "PanTalesModel" "beds" "I") (by decide +kernel)) (fun _ h9 => h9) rfl dX7_judge_67 ?_
            cases hF
            exact r_iret hx hb hr hlk hS () rfl hP hD dX7_judge_70
          · have hF := q_if_t (by first | exact c_15 | exact Classical.not_not.mp c_15) hF
            refine lv_aload_n hx hb dX7_judge_59 rfl (lv_at hl 1 rfl) ?_
            refine va_get (D := g.1) (ci := 7) (v := .int (σM_9 99 20)) (C := RX7) (T := TX7) (N := 34) hx hb hts hi7 hown hK hP 0 rfl rfl 20 (by decide) (hts (.fieldLink RX7 172 "PanTalesModel" "badWhy" "I") (by decide +kernel)) (fun _ h9 => h9) rfl dX7_judge_60 ?_
            refine lv_goto (tgt := 70) hx hb dX7_judge_63 (by decide) ?_
            cases hF
            exact r_iret hx hb hr hlk hS () rfl hP hD dX7_judge_70
        · have hF := q_if_t (by first | exact c_14 | exact Classical.not_not.mp c_14) hF
          refine lv_aload_n hx hb dX7_judge_47 rfl (lv_at hl 1 rfl) ?_
          refine va_get (D := g.1) (ci := 7) (v := .int (σM_9 99 19)) (C := RX7) (T := TX7) (N := 34) hx hb hts hi7 hown hK hP 0 rfl rfl 19 (by decide) (hts (.fieldLink RX7 169 "PanTalesModel" "badAct" "I") (by decide +kernel)) (fun _ h9 => h9) rfl dX7_judge_48 ?_
          refine lv_goto (tgt := 70) hx hb dX7_judge_51 (by decide) ?_
          cases hF
          exact r_iret hx hb hr hlk hS () rfl hP hD dX7_judge_70
      · have hF := q_if_f c_13 hF
        refine lv_iload_n hx hb dX7_judge_35 rfl (lv_at hl 0 rfl) ?_
        refine lv_bipush (v := (-3)) hx hb dX7_judge_36 (by decide) ?_
        refine lv_icmp_ne (tgt := 43) hx hb dX7_judge_38 (by decide) (fun c_16 => ?_) (fun c_16 => ?_)
        · have hF := q_if_f c_16 hF
          refine lv_iload_n hx hb dX7_judge_43 rfl (lv_at hl 2 rfl) ?_
          refine lv_if_ne (tgt := 54) hx hb dX7_judge_44 (by decide) (fun c_17 => ?_) (fun c_17 => ?_)
          · have hF := q_if_f c_17 hF
            refine lv_iload_n hx hb dX7_judge_54 rfl (lv_at hl 2 rfl) ?_
            refine lv_iconst (v := 1) hx hb dX7_judge_55 (by decide) ?_
            refine lv_icmp_ne (tgt := 66) hx hb dX7_judge_56 (by decide) (fun c_18 => ?_) (fun c_18 => ?_)
            · have hF := q_if_f c_18 hF
              refine lv_aload_n hx hb dX7_judge_66 rfl (lv_at hl 1 rfl) ?_
              refine va_get (D := g.1) (ci := 7) (v := .int (σM_9 99 21)) (C := RX7) (T := TX7) (N := 34) hx hb hts hi7 hown hK hP 0 rfl rfl 21 (by decide) (hts (.fieldLink RX7 160 "PanTalesModel" "beds" "I") (by decide +kernel)) (fun _ h9 => h9) rfl dX7_judge_67 ?_
              cases hF
              exact r_iret hx hb hr hlk hS () rfl hP hD dX7_judge_70
            · have hF := q_if_t (by first | exact c_18 | exact Classical.not_not.mp c_18) hF
              refine lv_aload_n hx hb dX7_judge_59 rfl (lv_at hl 1 rfl) ?_
              refine va_get (D := g.1) (ci := 7) (v := .int (σM_9 99 20)) (C := RX7) (T := TX7) (N := 34) hx hb hts hi7 hown hK hP 0 rfl rfl 20 (by decide) (hts (.fieldLink RX7 172 "PanTalesModel" "badWhy" "I") (by decide +kernel)) (fun _ h9 => h9) rfl dX7_judge_60 ?_
              refine lv_goto (tgt := 70) hx hb dX7_judge_63 (by decide) ?_
              cases hF
              exact r_iret hx hb hr hlk hS () rfl hP hD dX7_judge_70
          · have hF := q_if_t (by first | exact c_17 | exact Classical.not_not.mp c_17) hF
            refine lv_aload_n hx hb dX7_judge_47 rfl (lv_at hl 1 rfl) ?_
            refine va_get (D := g.1) (ci := 7) (v := .int (σM_9 99 19)) (C := RX7) (T := TX7) (N := 34) hx hb hts hi7 hown hK hP 0 rfl rfl 19 (by decide) (hts (.fieldLink RX7 169 "PanTalesModel" "badAct" "I") (by decide +kernel)) (fun _ h9 => h9) rfl dX7_judge_48 ?_
            refine lv_goto (tgt := 70) hx hb dX7_judge_51 (by decide) ?_
            cases hF
            exact r_iret hx hb hr hlk hS () rfl hP hD dX7_judge_70
        · have hF := q_if_t (by first | exact c_16 | exact Classical.not_not.mp c_16) hF
          refine lv_iload_n hx hb dX7_judge_41 rfl (lv_at hl 0 rfl) ?_
          cases hF
          exact r_iret hx hb hr hlk hS () rfl hP hD dX7_judge_42
  · have hF := q_if_t (by first | exact c_3 | exact Classical.not_not.mp c_3) hF
    refine lv_bipush (v := (-2)) hx hb dX7_judge_12 (by decide) ?_
    cases hF
    exact r_iret hx hb hr hlk hS () rfl hP hD dX7_judge_14
set_option maxHeartbeats 4000000 in
set_option maxRecDepth 100000 in
theorem m_X7_ofHouse (l : Launch) (g : GT) (sz : Nat) (qM : Nat) (AM : Nat → Nat) (σM : qS) (ℓM : qL) (a1 : Int32) (a2 : Int32) (rr : Int32) (hF : f_X7_ofHouse σM ℓM a1 a2 = some rr) : Ci l yX7_ofHouse wsX7_ofHouse { frames := 0, cells := 0, slots := 0, locals := 0 } g sz [.ref qM, .int a1, .int a2] (wX7 g qM AM σM ℓM) rr (wX7 g qM AM σM ℓM) := by
  refine gMet_i (cc := cX7_ofHouse) (maxL := 3) (ret := (some .int)) (by decide) rfl (Nat.le_of_ble_eq_true rfl) ?_
  intro p e s m args below meth c Z hx hb hr F hlk hnm hK hN hA H locs hP hD hS ls hl
  have hl : lv_has ls 3 [(0, .ref qM), (1, .int a1), (2, .int a2)] := hl
  have F : CallFix p m c cX7_ofHouse 3 s args wsX7_ofHouse RX7 := F
  have hts := F.2.2.2.2
  have hown : s.vm.findClass RX7 = some m.cls := F.2.2.2.1
  have hi7 : ∀ w ∈ u_ws RX7 TX7 34, w ∈ wsX7_ofHouse := by decide +kernel
  dsimp only [f_X7_ofHouse] at hF
  refine lv_iload_n hx hb dX7_ofHouse_0 rfl (lv_at hl 2 rfl) ?_
  refine lv_if_ne (tgt := 13) hx hb dX7_ofHouse_1 (by decide) (fun c_1 => ?_) (fun c_1 => ?_)
  · have hF := q_if_f c_1 hF
    refine lv_iload_n hx hb dX7_ofHouse_13 rfl (lv_at hl 2 rfl) ?_
    refine lv_iconst (v := 1) hx hb dX7_ofHouse_14 (by decide) ?_
    refine lv_icmp_ne (tgt := 27) hx hb dX7_ofHouse_15 (by decide) (fun c_2 => ?_) (fun c_2 => ?_)
    · have hF := q_if_f c_2 hF
      refine lv_aload_n hx hb dX7_ofHouse_27 rfl (lv_at hl 0 rfl) ?_
      refine va_get (D := g.1) (ci := 7) (v := .ref (AM 2)) (C := RX7) (T := TX7) (N := 34) hx hb hts hi7 hown hK hP 0 rfl rfl 2 (by decide) (hts (.fieldLink RX7 16 "PanTalesModel" "damp" "[I") (by decide +kernel)) (fun _ h9 => h9) rfl dX7_ofHouse_28 ?_
      refine lv_iload_n hx hb dX7_ofHouse_31 rfl (lv_at hl 1 rfl) ?_
      obtain ⟨r_3, i_4, e_5, hF⟩ := q_rd_s hF
      refine r_iald (v := r_3) hx hb hK hP 3 rfl i_4 e_5 dX7_ofHouse_32 ?_
      cases hF
      exact r_iret hx hb hr hlk hS () rfl hP hD dX7_ofHouse_33
    · have hF := q_if_t (by first | exact c_2 | exact Classical.not_not.mp c_2) hF
      refine lv_aload_n hx hb dX7_ofHouse_18 rfl (lv_at hl 0 rfl) ?_
      refine va_get (D := g.1) (ci := 7) (v := .ref (AM 1)) (C := RX7) (T := TX7) (N := 34) hx hb hts hi7 hown hK hP 0 rfl rfl 1 (by decide) (hts (.fieldLink RX7 13 "PanTalesModel" "doubt" "[I") (by decide +kernel)) (fun _ h9 => h9) rfl dX7_ofHouse_19 ?_
      refine lv_iload_n hx hb dX7_ofHouse_22 rfl (lv_at hl 1 rfl) ?_
      obtain ⟨r_6, i_7, e_8, hF⟩ := q_rd_s hF
      refine r_iald (v := r_6) hx hb hK hP 2 rfl i_7 e_8 dX7_ofHouse_23 ?_
      refine lv_goto (tgt := 33) hx hb dX7_ofHouse_24 (by decide) ?_
      cases hF
      exact r_iret hx hb hr hlk hS () rfl hP hD dX7_ofHouse_33
  · have hF := q_if_t (by first | exact c_1 | exact Classical.not_not.mp c_1) hF
    refine lv_aload_n hx hb dX7_ofHouse_4 rfl (lv_at hl 0 rfl) ?_
    refine va_get (D := g.1) (ci := 7) (v := .ref (AM 3)) (C := RX7) (T := TX7) (N := 34) hx hb hts hi7 hown hK hP 0 rfl rfl 3 (by decide) (hts (.fieldLink RX7 19 "PanTalesModel" "believes" "[I") (by decide +kernel)) (fun _ h9 => h9) rfl dX7_ofHouse_5 ?_
    refine lv_iload_n hx hb dX7_ofHouse_8 rfl (lv_at hl 1 rfl) ?_
    obtain ⟨r_9, i_10, e_11, hF⟩ := q_rd_s hF
    refine r_iald (v := r_9) hx hb hK hP 4 rfl i_10 e_11 dX7_ofHouse_9 ?_
    refine lv_goto (tgt := 33) hx hb dX7_ofHouse_10 (by decide) ?_
    cases hF
    exact r_iret hx hb hr hlk hS () rfl hP hD dX7_ofHouse_33
set_option maxHeartbeats 4000000 in
set_option maxRecDepth 100000 in
theorem m_X7_behind (l : Launch) (g : GT) (sz : Nat) (qM : Nat) (AM : Nat → Nat) (σM : qS) (ℓM : qL) (a1 : Int32) (a2 : Int32) (rr : Int32) (σM' : qS) (hF : f_X7_behind σM ℓM a1 a2 = some (rr, σM')) : Ci l yX7_behind wsX7_behind { frames := 6, cells := 0, slots := 0, locals := 130 } g sz [.ref qM, .int a1, .int a2] (wX7 g qM AM σM ℓM) rr (wX7 g qM AM σM' ℓM) := by
  refine gMet_i (cc := cX7_behind) (maxL := 4) (ret := (some .int)) (by decide) rfl (Nat.le_of_ble_eq_true rfl) ?_
  intro p e s m args below meth c Z hx hb hr F hlk hnm hK hN hA H locs hP hD hS ls hl
  have hl : lv_has ls 4 [(0, .ref qM), (1, .int a1), (2, .int a2)] := hl
  have F : CallFix p m c cX7_behind 4 s args wsX7_behind RX7 := F
  have hts := F.2.2.2.2
  have hown : s.vm.findClass RX7 = some m.cls := F.2.2.2.1
  dsimp only [f_X7_behind] at hF
  refine lv_iload_n hx hb dX7_behind_0 rfl (lv_at hl 1 rfl) ?_
  obtain ⟨r_1, h_2, hF⟩ := q_cl_s hF
  refine gcP (As := [.int a1]) (rest := []) F (m_X7_isHouse l a1 r_1 h_2) gX7_behind_X7_isHouse kX7_isHouse rfl rfl rfl ⟨(Nat.le_of_ble_eq_true rfl), (Nat.le_of_ble_eq_true rfl)⟩ rfl rfl hl.1 (Nat.le_of_ble_eq_true rfl) dX7_behind_1 ⟨(Nat.le_of_ble_eq_true rfl), (Nat.le_of_ble_eq_true rfl)⟩ ?_
  refine lv_if_ne (tgt := 9) hx hb dX7_behind_4 (by decide) (fun c_3 => ?_) (fun c_3 => ?_)
  · have hF := q_if_f c_3 hF
    refine lv_iload_n hx hb dX7_behind_9 rfl (lv_at hl 2 rfl) ?_
    refine lv_i2l (v := a2.toInt64) hx hb dX7_behind_10 rfl ?_
    refine lv_lconst (v := 0) hx hb dX7_behind_11 (by decide) ?_
    refine lv_ldc2 (v := 2) hx hb hown (hts (.constantLong RX7 191 (2)) (by decide +kernel)) dX7_behind_12 ?_
    obtain ⟨r_4, h_5, hF⟩ := q_cl_s hF
    refine gcP (As := [.long a2.toInt64, .long 0, .long 2]) (rest := []) F (m_X7_in l a2.toInt64 (0 : Int64) (2 : Int64) r_4 h_5) gX7_behind_X7_in kX7_in rfl rfl rfl ⟨(Nat.le_of_ble_eq_true rfl), (Nat.le_of_ble_eq_true rfl)⟩ rfl rfl hl.1 (Nat.le_of_ble_eq_true rfl) dX7_behind_15 ⟨(Nat.le_of_ble_eq_true rfl), (Nat.le_of_ble_eq_true rfl)⟩ ?_
    refine lv_if_ne (tgt := 24) hx hb dX7_behind_18 (by decide) (fun c_6 => ?_) (fun c_6 => ?_)
    · have hF := q_if_f c_6 hF
      refine lv_aload_n hx hb dX7_behind_24 rfl (lv_at hl 0 rfl) ?_
      obtain ⟨⟨r_7, σM_8⟩, h_9, hF⟩ := q_cl_s hF
      try dsimp only at hF
      refine gcV_i (As := []) (rest := []) (ci := 7) (q := (RX7, TX7, 34)) F hK hN hP hD hS hA (m_X7_refusal l g H.size qM AM σM ℓM r_7 σM_8 h_9) gX7_behind_X7_refusal kX7_refusal rfl rfl rfl rfl ⟨(Nat.le_of_ble_eq_true rfl), (Nat.le_of_ble_eq_true rfl)⟩ [0, 1, 2, 3, 4, 5, 6, 7, 8, 9, 10, 11, 12, 13, 14, 15, 16, 17, 18, 19, 20] [] rfl rfl rfl (by decide) rfl rfl rfl rfl rfl hl.1 (Nat.le_of_ble_eq_true rfl) dX7_behind_25 ⟨(Nat.le_of_ble_eq_true rfl), (Nat.le_of_ble_eq_true rfl)⟩ (fun r_w u_w H locs hw hP hD hS => ?_)
      have hP : va_P g.1 vwCl (wX7 g qM AM σM_8 ℓM) H := hP
      have hD : va_D Z (wX7 g qM AM σM_8 ℓM) := hD
      obtain rfl : r_7 = r_w := hw.symm
      refine lv_istore_n (lv' := [(3, .int r_7), (0, .ref qM), (1, .int a1), (2, .int a2)]) hx hb dX7_behind_28 rfl hl (by decide) rfl (fun ls hl => ?_)
      refine lv_aload_n hx hb dX7_behind_29 rfl (lv_at hl 1 rfl) ?_
      refine lv_iload_n hx hb dX7_behind_30 rfl (lv_at hl 0 rfl) ?_
      refine lv_bipush (v := (-6)) hx hb dX7_behind_31 (by decide) ?_
      refine lv_icmp_eq (tgt := 40) hx hb dX7_behind_33 (by decide) (fun c_11 => ?_) (fun c_11 => ?_)
      · have hF := q_if_t c_11 hF
        refine lv_aload_n hx hb dX7_behind_40 rfl (lv_at hl 1 rfl) ?_
        refine lv_iload_n hx hb dX7_behind_41 rfl (lv_at hl 2 rfl) ?_
        refine lv_iload_n hx hb dX7_behind_42 rfl (lv_at hl 3 rfl) ?_
        obtain ⟨r_12, h_13, hF⟩ := q_cl_s hF
        refine gcV_i (As := [.int a1, .int a2]) (rest := [.ref qM]) (ci := 7) (q := (RX7, TX7, 34)) F hK hN hP hD hS hA (m_X7_ofHouse l g H.size qM AM σM_8 ℓM a1 a2 r_12 h_13) gX7_behind_X7_ofHouse kX7_ofHouse rfl rfl rfl rfl ⟨(Nat.le_of_ble_eq_true rfl), (Nat.le_of_ble_eq_true rfl)⟩ [0, 1, 2, 3, 4, 5, 6, 7, 8, 9, 10, 11, 12, 13, 14, 15, 16, 17, 18, 19, 20] [] rfl rfl rfl (by decide) rfl rfl rfl rfl rfl hl.1 (Nat.le_of_ble_eq_true rfl) dX7_behind_43 ⟨(Nat.le_of_ble_eq_true rfl), (Nat.le_of_ble_eq_true rfl)⟩ (fun r_w u_w H locs hw hP hD hS => ?_)
        have hP : va_P g.1 vwCl (wX7 g qM AM σM_8 ℓM) H := hP
        have hD : va_D Z (wX7 g qM AM σM_8 ℓM) := hD
        obtain rfl : r_12 = r_w := hw.symm
        obtain ⟨⟨r_14, σM_15⟩, h_16, hF⟩ := q_cl_s hF
        try dsimp only at hF
        refine gcV_i (As := [.int r_12]) (rest := []) (ci := 7) (q := (RX7, TX7, 34)) F hK hN hP hD hS hA (m_X7_back l g H.size qM AM σM_8 ℓM r_12 r_14 σM_15 h_16) gX7_behind_X7_back kX7_back rfl rfl rfl rfl ⟨(Nat.le_of_ble_eq_true rfl), (Nat.le_of_ble_eq_true rfl)⟩ [0, 1, 2, 3, 4, 5, 6, 7, 8, 9, 10, 11, 12, 13, 14, 15, 16, 17, 18, 19, 20] [] rfl rfl rfl (by decide) rfl rfl rfl rfl rfl hl.1 (Nat.le_of_ble_eq_true rfl) dX7_behind_46 ⟨(Nat.le_of_ble_eq_true rfl), (Nat.le_of_ble_eq_true rfl)⟩ (fun r_w u_w H locs hw hP hD hS => ?_)
        have hP : va_P g.1 vwCl (wX7 g qM AM σM_15 ℓM) H := hP
        have hD : va_D Z (wX7 g qM AM σM_15 ℓM) := hD
        obtain rfl : r_14 = r_w := hw.symm
        cases hF
        exact r_iret hx hb hr hlk hS () rfl hP hD dX7_behind_49
      · have hF := q_if_f c_11 hF
        refine lv_iload_n hx hb dX7_behind_36 rfl (lv_at hl 0 rfl) ?_
        refine lv_goto (tgt := 46) hx hb dX7_behind_37 (by decide) ?_
        obtain ⟨⟨r_18, σM_19⟩, h_20, hF⟩ := q_cl_s hF
        try dsimp only at hF
        refine gcV_i (As := [.int r_7]) (rest := []) (ci := 7) (q := (RX7, TX7, 34)) F hK hN hP hD hS hA (m_X7_back l g H.size qM AM σM_8 ℓM r_7 r_18 σM_19 h_20) gX7_behind_X7_back kX7_back rfl rfl rfl rfl ⟨(Nat.le_of_ble_eq_true rfl), (Nat.le_of_ble_eq_true rfl)⟩ [0, 1, 2, 3, 4, 5, 6, 7, 8, 9, 10, 11, 12, 13, 14, 15, 16, 17, 18, 19, 20] [] rfl rfl rfl (by decide) rfl rfl rfl rfl rfl hl.1 (Nat.le_of_ble_eq_true rfl) dX7_behind_46 ⟨(Nat.le_of_ble_eq_true rfl), (Nat.le_of_ble_eq_true rfl)⟩ (fun r_w u_w H locs hw hP hD hS => ?_)
        have hP : va_P g.1 vwCl (wX7 g qM AM σM_19 ℓM) H := hP
        have hD : va_D Z (wX7 g qM AM σM_19 ℓM) := hD
        obtain rfl : r_18 = r_w := hw.symm
        cases hF
        exact r_iret hx hb hr hlk hS () rfl hP hD dX7_behind_49
    · have hF := q_if_t (by first | exact c_6 | exact Classical.not_not.mp c_6) hF
      refine lv_bipush (v := (-2)) hx hb dX7_behind_21 (by decide) ?_
      cases hF
      exact r_iret hx hb hr hlk hS () rfl hP hD dX7_behind_23
  · have hF := q_if_t (by first | exact c_3 | exact Classical.not_not.mp c_3) hF
    refine lv_iconst (v := (-1)) hx hb dX7_behind_7 (by decide) ?_
    cases hF
    exact r_iret hx hb hr hlk hS () rfl hP hD dX7_behind_8
set_option maxHeartbeats 4000000 in
set_option maxRecDepth 100000 in
theorem m_X7_ofPan (l : Launch) (g : GT) (sz : Nat) (qM : Nat) (AM : Nat → Nat) (σM : qS) (ℓM : qL) (a1 : Int32) (rr : Int32) (hF : f_X7_ofPan σM ℓM a1 = some rr) : Ci l yX7_ofPan wsX7_ofPan { frames := 0, cells := 0, slots := 0, locals := 0 } g sz [.ref qM, .int a1] (wX7 g qM AM σM ℓM) rr (wX7 g qM AM σM ℓM) := by
  refine gMet_i (cc := cX7_ofPan) (maxL := 2) (ret := (some .int)) (by decide) rfl (Nat.le_of_ble_eq_true rfl) ?_
  intro p e s m args below meth c Z hx hb hr F hlk hnm hK hN hA H locs hP hD hS ls hl
  have hl : lv_has ls 2 [(0, .ref qM), (1, .int a1)] := hl
  have F : CallFix p m c cX7_ofPan 2 s args wsX7_ofPan RX7 := F
  have hts := F.2.2.2.2
  have hown : s.vm.findClass RX7 = some m.cls := F.2.2.2.1
  have hi7 : ∀ w ∈ u_ws RX7 TX7 34, w ∈ wsX7_ofPan := by decide +kernel
  dsimp only [f_X7_ofPan] at hF
  refine lv_iload_n hx hb dX7_ofPan_0 rfl (lv_at hl 1 rfl) ?_
  refine lv_if_ne (tgt := 11) hx hb dX7_ofPan_1 (by decide) (fun c_1 => ?_) (fun c_1 => ?_)
  · have hF := q_if_f c_1 hF
    refine lv_iload_n hx hb dX7_ofPan_11 rfl (lv_at hl 1 rfl) ?_
    refine lv_iconst (v := 1) hx hb dX7_ofPan_12 (by decide) ?_
    refine lv_icmp_ne (tgt := 23) hx hb dX7_ofPan_13 (by decide) (fun c_2 => ?_) (fun c_2 => ?_)
    · have hF := q_if_f c_2 hF
      refine lv_iload_n hx hb dX7_ofPan_23 rfl (lv_at hl 1 rfl) ?_
      refine lv_iconst (v := 2) hx hb dX7_ofPan_24 (by decide) ?_
      refine lv_icmp_ne (tgt := 35) hx hb dX7_ofPan_25 (by decide) (fun c_3 => ?_) (fun c_3 => ?_)
      · have hF := q_if_f c_3 hF
        refine lv_aload_n hx hb dX7_ofPan_35 rfl (lv_at hl 0 rfl) ?_
        refine va_get (D := g.1) (ci := 7) (v := .int (σM 99 8)) (C := RX7) (T := TX7) (N := 34) hx hb hts hi7 hown hK hP 0 rfl rfl 8 (by decide) (hts (.fieldLink RX7 130 "PanTalesModel" "mornings" "I") (by decide +kernel)) (fun _ h9 => h9) rfl dX7_ofPan_36 ?_
        cases hF
        exact r_iret hx hb hr hlk hS () rfl hP hD dX7_ofPan_39
      · have hF := q_if_t (by first | exact c_3 | exact Classical.not_not.mp c_3) hF
        refine lv_aload_n hx hb dX7_ofPan_28 rfl (lv_at hl 0 rfl) ?_
        refine va_get (D := g.1) (ci := 7) (v := .int (σM 99 7)) (C := RX7) (T := TX7) (N := 34) hx hb hts hi7 hown hK hP 0 rfl rfl 7 (by decide) (hts (.fieldLink RX7 136 "PanTalesModel" "panTale" "I") (by decide +kernel)) (fun _ h9 => h9) rfl dX7_ofPan_29 ?_
        refine lv_goto (tgt := 39) hx hb dX7_ofPan_32 (by decide) ?_
        cases hF
        exact r_iret hx hb hr hlk hS () rfl hP hD dX7_ofPan_39
    · have hF := q_if_t (by first | exact c_2 | exact Classical.not_not.mp c_2) hF
      refine lv_aload_n hx hb dX7_ofPan_16 rfl (lv_at hl 0 rfl) ?_
      refine va_get (D := g.1) (ci := 7) (v := .int (σM 99 6)) (C := RX7) (T := TX7) (N := 34) hx hb hts hi7 hown hK hP 0 rfl rfl 6 (by decide) (hts (.fieldLink RX7 127 "PanTalesModel" "heat" "I") (by decide +kernel)) (fun _ h9 => h9) rfl dX7_ofPan_17 ?_
      refine lv_goto (tgt := 39) hx hb dX7_ofPan_20 (by decide) ?_
      cases hF
      exact r_iret hx hb hr hlk hS () rfl hP hD dX7_ofPan_39
  · have hF := q_if_t (by first | exact c_1 | exact Classical.not_not.mp c_1) hF
    refine lv_aload_n hx hb dX7_ofPan_4 rfl (lv_at hl 0 rfl) ?_
    refine va_get (D := g.1) (ci := 7) (v := .int (σM 99 5)) (C := RX7) (T := TX7) (N := 34) hx hb hts hi7 hown hK hP 0 rfl rfl 5 (by decide) (hts (.fieldLink RX7 72 "PanTalesModel" "panPlace" "I") (by decide +kernel)) (fun _ h9 => h9) rfl dX7_ofPan_5 ?_
    refine lv_goto (tgt := 39) hx hb dX7_ofPan_8 (by decide) ?_
    cases hF
    exact r_iret hx hb hr hlk hS () rfl hP hD dX7_ofPan_39
set_option maxHeartbeats 4000000 in
set_option maxRecDepth 100000 in
theorem m_X7_pan (l : Launch) (g : GT) (sz : Nat) (qM : Nat) (AM : Nat → Nat) (σM : qS) (ℓM : qL) (a1 : Int32) (rr : Int32) (σM' : qS) (hF : f_X7_pan σM ℓM a1 = some (rr, σM')) : Ci l yX7_pan wsX7_pan { frames := 6, cells := 0, slots := 0, locals := 130 } g sz [.ref qM, .int a1] (wX7 g qM AM σM ℓM) rr (wX7 g qM AM σM' ℓM) := by
  refine gMet_i (cc := cX7_pan) (maxL := 3) (ret := (some .int)) (by decide) rfl (Nat.le_of_ble_eq_true rfl) ?_
  intro p e s m args below meth c Z hx hb hr F hlk hnm hK hN hA H locs hP hD hS ls hl
  have hl : lv_has ls 3 [(0, .ref qM), (1, .int a1)] := hl
  have F : CallFix p m c cX7_pan 3 s args wsX7_pan RX7 := F
  have hts := F.2.2.2.2
  have hown : s.vm.findClass RX7 = some m.cls := F.2.2.2.1
  dsimp only [f_X7_pan] at hF
  refine lv_iload_n hx hb dX7_pan_0 rfl (lv_at hl 1 rfl) ?_
  refine lv_i2l (v := a1.toInt64) hx hb dX7_pan_1 rfl ?_
  refine lv_lconst (v := 0) hx hb dX7_pan_2 (by decide) ?_
  refine lv_ldc2 (v := 3) hx hb hown (hts (.constantLong RX7 202 (3)) (by decide +kernel)) dX7_pan_3 ?_
  obtain ⟨r_1, h_2, hF⟩ := q_cl_s hF
  refine gcP (As := [.long a1.toInt64, .long 0, .long 3]) (rest := []) F (m_X7_in l a1.toInt64 (0 : Int64) (3 : Int64) r_1 h_2) gX7_pan_X7_in kX7_in rfl rfl rfl ⟨(Nat.le_of_ble_eq_true rfl), (Nat.le_of_ble_eq_true rfl)⟩ rfl rfl hl.1 (Nat.le_of_ble_eq_true rfl) dX7_pan_6 ⟨(Nat.le_of_ble_eq_true rfl), (Nat.le_of_ble_eq_true rfl)⟩ ?_
  refine lv_if_ne (tgt := 15) hx hb dX7_pan_9 (by decide) (fun c_3 => ?_) (fun c_3 => ?_)
  · have hF := q_if_f c_3 hF
    refine lv_aload_n hx hb dX7_pan_15 rfl (lv_at hl 0 rfl) ?_
    obtain ⟨⟨r_4, σM_5⟩, h_6, hF⟩ := q_cl_s hF
    try dsimp only at hF
    refine gcV_i (As := []) (rest := []) (ci := 7) (q := (RX7, TX7, 34)) F hK hN hP hD hS hA (m_X7_refusal l g H.size qM AM σM ℓM r_4 σM_5 h_6) gX7_pan_X7_refusal kX7_refusal rfl rfl rfl rfl ⟨(Nat.le_of_ble_eq_true rfl), (Nat.le_of_ble_eq_true rfl)⟩ [0, 1, 2, 3, 4, 5, 6, 7, 8, 9, 10, 11, 12, 13, 14, 15, 16, 17, 18, 19, 20] [] rfl rfl rfl (by decide) rfl rfl rfl rfl rfl hl.1 (Nat.le_of_ble_eq_true rfl) dX7_pan_16 ⟨(Nat.le_of_ble_eq_true rfl), (Nat.le_of_ble_eq_true rfl)⟩ (fun r_w u_w H locs hw hP hD hS => ?_)
    have hP : va_P g.1 vwCl (wX7 g qM AM σM_5 ℓM) H := hP
    have hD : va_D Z (wX7 g qM AM σM_5 ℓM) := hD
    obtain rfl : r_4 = r_w := hw.symm
    refine lv_istore_n (lv' := [(2, .int r_4), (0, .ref qM), (1, .int a1)]) hx hb dX7_pan_19 rfl hl (by decide) rfl (fun ls hl => ?_)
    refine lv_aload_n hx hb dX7_pan_20 rfl (lv_at hl 1 rfl) ?_
    refine lv_iload_n hx hb dX7_pan_21 rfl (lv_at hl 0 rfl) ?_
    refine lv_bipush (v := (-6)) hx hb dX7_pan_22 (by decide) ?_
    refine lv_icmp_eq (tgt := 31) hx hb dX7_pan_24 (by decide) (fun c_8 => ?_) (fun c_8 => ?_)
    · have hF := q_if_t c_8 hF
      refine lv_aload_n hx hb dX7_pan_31 rfl (lv_at hl 1 rfl) ?_
      refine lv_iload_n hx hb dX7_pan_32 rfl (lv_at hl 2 rfl) ?_
      obtain ⟨r_9, h_10, hF⟩ := q_cl_s hF
      refine gcV_i (As := [.int a1]) (rest := [.ref qM]) (ci := 7) (q := (RX7, TX7, 34)) F hK hN hP hD hS hA (m_X7_ofPan l g H.size qM AM σM_5 ℓM a1 r_9 h_10) gX7_pan_X7_ofPan kX7_ofPan rfl rfl rfl rfl ⟨(Nat.le_of_ble_eq_true rfl), (Nat.le_of_ble_eq_true rfl)⟩ [0, 1, 2, 3, 4, 5, 6, 7, 8, 9, 10, 11, 12, 13, 14, 15, 16, 17, 18, 19, 20] [] rfl rfl rfl (by decide) rfl rfl rfl rfl rfl hl.1 (Nat.le_of_ble_eq_true rfl) dX7_pan_33 ⟨(Nat.le_of_ble_eq_true rfl), (Nat.le_of_ble_eq_true rfl)⟩ (fun r_w u_w H locs hw hP hD hS => ?_)
      have hP : va_P g.1 vwCl (wX7 g qM AM σM_5 ℓM) H := hP
      have hD : va_D Z (wX7 g qM AM σM_5 ℓM) := hD
      obtain rfl : r_9 = r_w := hw.symm
      obtain ⟨⟨r_11, σM_12⟩, h_13, hF⟩ := q_cl_s hF
      try dsimp only at hF
      refine gcV_i (As := [.int r_9]) (rest := []) (ci := 7) (q := (RX7, TX7, 34)) F hK hN hP hD hS hA (m_X7_back l g H.size qM AM σM_5 ℓM r_9 r_11 σM_12 h_13) gX7_pan_X7_back kX7_back rfl rfl rfl rfl ⟨(Nat.le_of_ble_eq_true rfl), (Nat.le_of_ble_eq_true rfl)⟩ [0, 1, 2, 3, 4, 5, 6, 7, 8, 9, 10, 11, 12, 13, 14, 15, 16, 17, 18, 19, 20] [] rfl rfl rfl (by decide) rfl rfl rfl rfl rfl hl.1 (Nat.le_of_ble_eq_true rfl) dX7_pan_36 ⟨(Nat.le_of_ble_eq_true rfl), (Nat.le_of_ble_eq_true rfl)⟩ (fun r_w u_w H locs hw hP hD hS => ?_)
      have hP : va_P g.1 vwCl (wX7 g qM AM σM_12 ℓM) H := hP
      have hD : va_D Z (wX7 g qM AM σM_12 ℓM) := hD
      obtain rfl : r_11 = r_w := hw.symm
      cases hF
      exact r_iret hx hb hr hlk hS () rfl hP hD dX7_pan_39
    · have hF := q_if_f c_8 hF
      refine lv_iload_n hx hb dX7_pan_27 rfl (lv_at hl 0 rfl) ?_
      refine lv_goto (tgt := 36) hx hb dX7_pan_28 (by decide) ?_
      obtain ⟨⟨r_15, σM_16⟩, h_17, hF⟩ := q_cl_s hF
      try dsimp only at hF
      refine gcV_i (As := [.int r_4]) (rest := []) (ci := 7) (q := (RX7, TX7, 34)) F hK hN hP hD hS hA (m_X7_back l g H.size qM AM σM_5 ℓM r_4 r_15 σM_16 h_17) gX7_pan_X7_back kX7_back rfl rfl rfl rfl ⟨(Nat.le_of_ble_eq_true rfl), (Nat.le_of_ble_eq_true rfl)⟩ [0, 1, 2, 3, 4, 5, 6, 7, 8, 9, 10, 11, 12, 13, 14, 15, 16, 17, 18, 19, 20] [] rfl rfl rfl (by decide) rfl rfl rfl rfl rfl hl.1 (Nat.le_of_ble_eq_true rfl) dX7_pan_36 ⟨(Nat.le_of_ble_eq_true rfl), (Nat.le_of_ble_eq_true rfl)⟩ (fun r_w u_w H locs hw hP hD hS => ?_)
      have hP : va_P g.1 vwCl (wX7 g qM AM σM_16 ℓM) H := hP
      have hD : va_D Z (wX7 g qM AM σM_16 ℓM) := hD
      obtain rfl : r_15 = r_w := hw.symm
      cases hF
      exact r_iret hx hb hr hlk hS () rfl hP hD dX7_pan_39
  · have hF := q_if_t (by first | exact c_3 | exact Classical.not_not.mp c_3) hF
    refine lv_bipush (v := (-2)) hx hb dX7_pan_12 (by decide) ?_
    cases hF
    exact r_iret hx hb hr hlk hS () rfl hP hD dX7_pan_14
set_option maxHeartbeats 4000000 in
set_option maxRecDepth 100000 in
theorem m_X7_believing (l : Launch) (g : GT) (sz : Nat) (qM : Nat) (AM : Nat → Nat) (σM : qS) (ℓM : qL) (a1 : Int32) (rr : Int32) (hF : f_X7_believing σM ℓM a1 = some rr) : Ci l yX7_believing wsX7_believing { frames := 0, cells := 0, slots := 0, locals := 0 } g sz [.ref qM, .int a1] (wX7 g qM AM σM ℓM) rr (wX7 g qM AM σM ℓM) := by
  refine gMet_i (cc := cX7_believing) (maxL := 4) (ret := (some .int)) (by decide) rfl (Nat.le_of_ble_eq_true rfl) ?_
  intro p e s m args below meth c Z hx hb hr F hlk hnm hK hN hA H locs hP hD hS ls hl
  have hl : lv_has ls 4 [(0, .ref qM), (1, .int a1)] := hl
  have F : CallFix p m c cX7_believing 4 s args wsX7_believing RX7 := F
  have hts := F.2.2.2.2
  have hown : s.vm.findClass RX7 = some m.cls := F.2.2.2.1
  have hi7 : ∀ w ∈ u_ws RX7 TX7 34, w ∈ wsX7_believing := by decide +kernel
  dsimp only [f_X7_believing] at hF
  refine lv_iconst (v := 0) hx hb dX7_believing_0 (by decide) ?_
  refine lv_istore_n (lv' := [(2, .int 0), (0, .ref qM), (1, .int a1)]) hx hb dX7_believing_1 rfl hl (by decide) rfl (fun ls hl => ?_)
  refine lv_iconst (v := 0) hx hb dX7_believing_2 (by decide) ?_
  refine lv_istore_n (lv' := [(3, .int 0), (2, .int 0), (0, .ref qM), (1, .int a1)]) hx hb dX7_believing_3 rfl hl (by decide) rfl (fun ls hl => ?_)
  refine q_loop (fun u0 => wX7 g qM AM σM ℓM) (fun u0 => [(3, .int u0.1), (2, .int u0.2), (0, .ref qM), (1, .int a1)]) 36 hF ?_ ?_ hP hD hS (lv_sub hl [0, 1, 2, 3] rfl)
  · rintro ⟨v3_1, v2_1⟩ hF H locs ls hP hD hS hl
    try dsimp only at hF
    have hP : va_P g.1 vwCl (wX7 g qM AM σM ℓM) H := hP
    have hD : va_D Z (wX7 g qM AM σM ℓM) := hD
    have hl : lv_has ls 4 [(3, .int v3_1), (2, .int v2_1), (0, .ref qM), (1, .int a1)] := hl
    refine lv_iload_n hx hb dX7_believing_36 rfl (lv_at hl 1 rfl) ?_
    cases hF
    exact r_iret hx hb hr hlk hS () rfl hP hD dX7_believing_37
  · rintro k again kk ag ⟨v3_1, v2_1⟩ hF H locs ls hP hD hS hl
    dsimp only [b_X7_believing_4] at hF
    have hP : va_P g.1 vwCl (wX7 g qM AM σM ℓM) H := hP
    have hD : va_D Z (wX7 g qM AM σM ℓM) := hD
    have hl : lv_has ls 4 [(3, .int v3_1), (2, .int v2_1), (0, .ref qM), (1, .int a1)] := hl
    refine lv_iload_n hx hb dX7_believing_4 rfl (lv_at hl 0 rfl) ?_
    refine lv_bipush (v := 10) hx hb dX7_believing_5 (by decide) ?_
    refine lv_icmp_ge (tgt := 36) hx hb dX7_believing_7 (by decide) (fun c_2 => ?_) (fun c_2 => ?_)
    · have hF := q_if_t c_2 hF
      exact kk (v3_1, v2_1) hF _ _ _ hP hD hS (lv_sub hl [0, 1, 2, 3] rfl)
    · have hF := q_if_f c_2 hF
      refine lv_iload_n hx hb dX7_believing_10 rfl (lv_at hl 1 rfl) ?_
      refine lv_aload_n hx hb dX7_believing_11 rfl (lv_at hl 2 rfl) ?_
      refine va_get (D := g.1) (ci := 7) (v := .ref (AM 3)) (C := RX7) (T := TX7) (N := 34) hx hb hts hi7 hown hK hP 0 rfl rfl 3 (by decide) (hts (.fieldLink RX7 19 "PanTalesModel" "believes" "[I") (by decide +kernel)) (fun _ h9 => h9) rfl dX7_believing_12 ?_
      refine lv_iload_n hx hb dX7_believing_15 rfl (lv_at hl 0 rfl) ?_
      obtain ⟨r_3, i_4, e_5, hF⟩ := q_rd_s hF
      refine r_iald (v := r_3) hx hb hK hP 4 rfl i_4 e_5 dX7_believing_16 ?_
      refine lv_iload_n hx hb dX7_believing_17 rfl (lv_at hl 3 rfl) ?_
      refine lv_icmp_ne (tgt := 27) hx hb dX7_believing_18 (by decide) (fun c_6 => ?_) (fun c_6 => ?_)
      · have hF := q_if_f c_6 hF
        refine lv_iconst (v := 0) hx hb dX7_believing_27 (by decide) ?_
        refine lv_ior hx hb dX7_believing_28 ?_
        obtain ⟨v2_7, e_8, hF⟩ := q_bd_s hF
        refine gtop e_8 ?_
        refine lv_istore_n (lv' := [(2, .int v2_7), (3, .int v3_1), (0, .ref qM), (1, .int a1)]) hx hb dX7_believing_29 rfl hl (by decide) rfl (fun ls hl => ?_)
        refine lv_iinc (v := v3_1 + 1) (lv' := [(3, .int (v3_1 + 1)), (2, .int v2_7), (0, .ref qM), (1, .int a1)]) hx hb dX7_believing_30 hl (k := 1) rfl rfl (by decide) rfl (fun ls hl => ?_)
        refine lv_goto (tgt := 4) hx hb dX7_believing_33 (by decide) ?_
        exact ag (v3_1 + 1, v2_7) hF _ _ _ hP hD hS (lv_sub hl [0, 1, 2, 3] rfl)
      · have hF := q_if_t (by first | exact c_6 | exact Classical.not_not.mp c_6) hF
        refine lv_iconst (v := 1) hx hb dX7_believing_21 (by decide) ?_
        refine lv_iload_n hx hb dX7_believing_22 rfl (lv_at hl 0 rfl) ?_
        refine lv_ishl hx hb dX7_believing_23 ?_
        refine lv_goto (tgt := 28) hx hb dX7_believing_24 (by decide) ?_
        refine lv_ior hx hb dX7_believing_28 ?_
        obtain ⟨v2_9, e_10, hF⟩ := q_bd_s hF
        refine gtop e_10 ?_
        refine lv_istore_n (lv' := [(2, .int v2_9), (3, .int v3_1), (0, .ref qM), (1, .int a1)]) hx hb dX7_believing_29 rfl hl (by decide) rfl (fun ls hl => ?_)
        refine lv_iinc (v := v3_1 + 1) (lv' := [(3, .int (v3_1 + 1)), (2, .int v2_9), (0, .ref qM), (1, .int a1)]) hx hb dX7_believing_30 hl (k := 1) rfl rfl (by decide) rfl (fun ls hl => ?_)
        refine lv_goto (tgt := 4) hx hb dX7_believing_33 (by decide) ?_
        exact ag (v3_1 + 1, v2_9) hF _ _ _ hP hD hS (lv_sub hl [0, 1, 2, 3] rfl)
set_option maxHeartbeats 4000000 in
set_option maxRecDepth 100000 in
theorem m_X7_holds (l : Launch) (g : GT) (sz : Nat) (qM : Nat) (AM : Nat → Nat) (σM : qS) (ℓM : qL) (a1 : Int32) (rr : Int32) (σM' : qS) (hF : f_X7_holds σM ℓM a1 = some (rr, σM')) : Ci l yX7_holds wsX7_holds { frames := 6, cells := 0, slots := 0, locals := 130 } g sz [.ref qM, .int a1] (wX7 g qM AM σM ℓM) rr (wX7 g qM AM σM' ℓM) := by
  refine gMet_i (cc := cX7_holds) (maxL := 3) (ret := (some .int)) (by decide) rfl (Nat.le_of_ble_eq_true rfl) ?_
  intro p e s m args below meth c Z hx hb hr F hlk hnm hK hN hA H locs hP hD hS ls hl
  have hl : lv_has ls 3 [(0, .ref qM), (1, .int a1)] := hl
  have F : CallFix p m c cX7_holds 3 s args wsX7_holds RX7 := F
  have hts := F.2.2.2.2
  have hown : s.vm.findClass RX7 = some m.cls := F.2.2.2.1
  dsimp only [f_X7_holds] at hF
  refine lv_iload_n hx hb dX7_holds_0 rfl (lv_at hl 1 rfl) ?_
  obtain ⟨r_1, h_2, hF⟩ := q_cl_s hF
  refine gcP (As := [.int a1]) (rest := []) F (m_X7_isTale l a1 r_1 h_2) gX7_holds_X7_isTale kX7_isTale rfl rfl rfl ⟨(Nat.le_of_ble_eq_true rfl), (Nat.le_of_ble_eq_true rfl)⟩ rfl rfl hl.1 (Nat.le_of_ble_eq_true rfl) dX7_holds_1 ⟨(Nat.le_of_ble_eq_true rfl), (Nat.le_of_ble_eq_true rfl)⟩ ?_
  refine lv_if_ne (tgt := 9) hx hb dX7_holds_4 (by decide) (fun c_3 => ?_) (fun c_3 => ?_)
  · have hF := q_if_f c_3 hF
    refine lv_aload_n hx hb dX7_holds_9 rfl (lv_at hl 0 rfl) ?_
    obtain ⟨⟨r_4, σM_5⟩, h_6, hF⟩ := q_cl_s hF
    try dsimp only at hF
    refine gcV_i (As := []) (rest := []) (ci := 7) (q := (RX7, TX7, 34)) F hK hN hP hD hS hA (m_X7_refusal l g H.size qM AM σM ℓM r_4 σM_5 h_6) gX7_holds_X7_refusal kX7_refusal rfl rfl rfl rfl ⟨(Nat.le_of_ble_eq_true rfl), (Nat.le_of_ble_eq_true rfl)⟩ [0, 1, 2, 3, 4, 5, 6, 7, 8, 9, 10, 11, 12, 13, 14, 15, 16, 17, 18, 19, 20] [] rfl rfl rfl (by decide) rfl rfl rfl rfl rfl hl.1 (Nat.le_of_ble_eq_true rfl) dX7_holds_10 ⟨(Nat.le_of_ble_eq_true rfl), (Nat.le_of_ble_eq_true rfl)⟩ (fun r_w u_w H locs hw hP hD hS => ?_)
    have hP : va_P g.1 vwCl (wX7 g qM AM σM_5 ℓM) H := hP
    have hD : va_D Z (wX7 g qM AM σM_5 ℓM) := hD
    obtain rfl : r_4 = r_w := hw.symm
    refine lv_istore_n (lv' := [(2, .int r_4), (0, .ref qM), (1, .int a1)]) hx hb dX7_holds_13 rfl hl (by decide) rfl (fun ls hl => ?_)
    refine lv_aload_n hx hb dX7_holds_14 rfl (lv_at hl 1 rfl) ?_
    refine lv_iload_n hx hb dX7_holds_15 rfl (lv_at hl 0 rfl) ?_
    refine lv_bipush (v := (-6)) hx hb dX7_holds_16 (by decide) ?_
    refine lv_icmp_eq (tgt := 25) hx hb dX7_holds_18 (by decide) (fun c_8 => ?_) (fun c_8 => ?_)
    · have hF := q_if_t c_8 hF
      refine lv_aload_n hx hb dX7_holds_25 rfl (lv_at hl 1 rfl) ?_
      refine lv_iload_n hx hb dX7_holds_26 rfl (lv_at hl 2 rfl) ?_
      obtain ⟨r_9, h_10, hF⟩ := q_cl_s hF
      refine gcV_i (As := [.int a1]) (rest := [.ref qM]) (ci := 7) (q := (RX7, TX7, 34)) F hK hN hP hD hS hA (m_X7_believing l g H.size qM AM σM_5 ℓM a1 r_9 h_10) gX7_holds_X7_believing kX7_believing rfl rfl rfl rfl ⟨(Nat.le_of_ble_eq_true rfl), (Nat.le_of_ble_eq_true rfl)⟩ [0, 1, 2, 3, 4, 5, 6, 7, 8, 9, 10, 11, 12, 13, 14, 15, 16, 17, 18, 19, 20] [] rfl rfl rfl (by decide) rfl rfl rfl rfl rfl hl.1 (Nat.le_of_ble_eq_true rfl) dX7_holds_27 ⟨(Nat.le_of_ble_eq_true rfl), (Nat.le_of_ble_eq_true rfl)⟩ (fun r_w u_w H locs hw hP hD hS => ?_)
      have hP : va_P g.1 vwCl (wX7 g qM AM σM_5 ℓM) H := hP
      have hD : va_D Z (wX7 g qM AM σM_5 ℓM) := hD
      obtain rfl : r_9 = r_w := hw.symm
      obtain ⟨⟨r_11, σM_12⟩, h_13, hF⟩ := q_cl_s hF
      try dsimp only at hF
      refine gcV_i (As := [.int r_9]) (rest := []) (ci := 7) (q := (RX7, TX7, 34)) F hK hN hP hD hS hA (m_X7_back l g H.size qM AM σM_5 ℓM r_9 r_11 σM_12 h_13) gX7_holds_X7_back kX7_back rfl rfl rfl rfl ⟨(Nat.le_of_ble_eq_true rfl), (Nat.le_of_ble_eq_true rfl)⟩ [0, 1, 2, 3, 4, 5, 6, 7, 8, 9, 10, 11, 12, 13, 14, 15, 16, 17, 18, 19, 20] [] rfl rfl rfl (by decide) rfl rfl rfl rfl rfl hl.1 (Nat.le_of_ble_eq_true rfl) dX7_holds_30 ⟨(Nat.le_of_ble_eq_true rfl), (Nat.le_of_ble_eq_true rfl)⟩ (fun r_w u_w H locs hw hP hD hS => ?_)
      have hP : va_P g.1 vwCl (wX7 g qM AM σM_12 ℓM) H := hP
      have hD : va_D Z (wX7 g qM AM σM_12 ℓM) := hD
      obtain rfl : r_11 = r_w := hw.symm
      cases hF
      exact r_iret hx hb hr hlk hS () rfl hP hD dX7_holds_33
    · have hF := q_if_f c_8 hF
      refine lv_iload_n hx hb dX7_holds_21 rfl (lv_at hl 0 rfl) ?_
      refine lv_goto (tgt := 30) hx hb dX7_holds_22 (by decide) ?_
      obtain ⟨⟨r_15, σM_16⟩, h_17, hF⟩ := q_cl_s hF
      try dsimp only at hF
      refine gcV_i (As := [.int r_4]) (rest := []) (ci := 7) (q := (RX7, TX7, 34)) F hK hN hP hD hS hA (m_X7_back l g H.size qM AM σM_5 ℓM r_4 r_15 σM_16 h_17) gX7_holds_X7_back kX7_back rfl rfl rfl rfl ⟨(Nat.le_of_ble_eq_true rfl), (Nat.le_of_ble_eq_true rfl)⟩ [0, 1, 2, 3, 4, 5, 6, 7, 8, 9, 10, 11, 12, 13, 14, 15, 16, 17, 18, 19, 20] [] rfl rfl rfl (by decide) rfl rfl rfl rfl rfl hl.1 (Nat.le_of_ble_eq_true rfl) dX7_holds_30 ⟨(Nat.le_of_ble_eq_true rfl), (Nat.le_of_ble_eq_true rfl)⟩ (fun r_w u_w H locs hw hP hD hS => ?_)
      have hP : va_P g.1 vwCl (wX7 g qM AM σM_16 ℓM) H := hP
      have hD : va_D Z (wX7 g qM AM σM_16 ℓM) := hD
      obtain rfl : r_15 = r_w := hw.symm
      cases hF
      exact r_iret hx hb hr hlk hS () rfl hP hD dX7_holds_33
  · have hF := q_if_t (by first | exact c_3 | exact Classical.not_not.mp c_3) hF
    refine lv_iconst (v := (-1)) hx hb dX7_holds_7 (by decide) ?_
    cases hF
    exact r_iret hx hb hr hlk hS () rfl hP hD dX7_holds_8
set_option maxHeartbeats 4000000 in
set_option maxRecDepth 100000 in
theorem m_X7_other (l : Launch) (g : GT) (sz : Nat) (qM : Nat) (AM : Nat → Nat) (σM : qS) (ℓM : qL) (a1 : Int32) (rr : Int32) (σM' : qS) (hF : f_X7_other σM ℓM a1 = some (rr, σM')) : Ci l yX7_other wsX7_other { frames := 6, cells := 0, slots := 0, locals := 130 } g sz [.ref qM, .int a1] (wX7 g qM AM σM ℓM) rr (wX7 g qM AM σM' ℓM) := by
  refine gMet_i (cc := cX7_other) (maxL := 3) (ret := (some .int)) (by decide) rfl (Nat.le_of_ble_eq_true rfl) ?_
  intro p e s m args below meth c Z hx hb hr F hlk hnm hK hN hA H locs hP hD hS ls hl
  have hl : lv_has ls 3 [(0, .ref qM), (1, .int a1)] := hl
  have F : CallFix p m c cX7_other 3 s args wsX7_other RX7 := F
  have hts := F.2.2.2.2
  have hown : s.vm.findClass RX7 = some m.cls := F.2.2.2.1
  have hi7 : ∀ w ∈ u_ws RX7 TX7 34, w ∈ wsX7_other := by decide +kernel
  dsimp only [f_X7_other] at hF
  refine lv_iload_n hx hb dX7_other_0 rfl (lv_at hl 1 rfl) ?_
  refine lv_i2l (v := a1.toInt64) hx hb dX7_other_1 rfl ?_
  refine lv_lconst (v := 0) hx hb dX7_other_2 (by decide) ?_
  refine lv_lconst (v := 1) hx hb dX7_other_3 (by decide) ?_
  obtain ⟨r_1, h_2, hF⟩ := q_cl_s hF
  refine gcP (As := [.long a1.toInt64, .long 0, .long 1]) (rest := []) F (m_X7_in l a1.toInt64 (0 : Int64) (1 : Int64) r_1 h_2) gX7_other_X7_in kX7_in rfl rfl rfl ⟨(Nat.le_of_ble_eq_true rfl), (Nat.le_of_ble_eq_true rfl)⟩ rfl rfl hl.1 (Nat.le_of_ble_eq_true rfl) dX7_other_4 ⟨(Nat.le_of_ble_eq_true rfl), (Nat.le_of_ble_eq_true rfl)⟩ ?_
  refine lv_if_ne (tgt := 13) hx hb dX7_other_7 (by decide) (fun c_3 => ?_) (fun c_3 => ?_)
  · have hF := q_if_f c_3 hF
    refine lv_aload_n hx hb dX7_other_13 rfl (lv_at hl 0 rfl) ?_
    refine lv_aload_n hx hb dX7_other_14 rfl (lv_at hl 0 rfl) ?_
    obtain ⟨⟨r_4, σM_5⟩, h_6, hF⟩ := q_cl_s hF
    try dsimp only at hF
    refine gcV_i (As := []) (rest := [.ref qM]) (ci := 7) (q := (RX7, TX7, 34)) F hK hN hP hD hS hA (m_X7_refusal l g H.size qM AM σM ℓM r_4 σM_5 h_6) gX7_other_X7_refusal kX7_refusal rfl rfl rfl rfl ⟨(Nat.le_of_ble_eq_true rfl), (Nat.le_of_ble_eq_true rfl)⟩ [0, 1, 2, 3, 4, 5, 6, 7, 8, 9, 10, 11, 12, 13, 14, 15, 16, 17, 18, 19, 20] [] rfl rfl rfl (by decide) rfl rfl rfl rfl rfl hl.1 (Nat.le_of_ble_eq_true rfl) dX7_other_15 ⟨(Nat.le_of_ble_eq_true rfl), (Nat.le_of_ble_eq_true rfl)⟩ (fun r_w u_w H locs hw hP hD hS => ?_)
    have hP : va_P g.1 vwCl (wX7 g qM AM σM_5 ℓM) H := hP
    have hD : va_D Z (wX7 g qM AM σM_5 ℓM) := hD
    obtain rfl : r_4 = r_w := hw.symm
    obtain ⟨⟨r_8, σM_9⟩, h_10, hF⟩ := q_cl_s hF
    try dsimp only at hF
    refine gcV_i (As := [.int r_4]) (rest := []) (ci := 7) (q := (RX7, TX7, 34)) F hK hN hP hD hS hA (m_X7_back l g H.size qM AM σM_5 ℓM r_4 r_8 σM_9 h_10) gX7_other_X7_back kX7_back rfl rfl rfl rfl ⟨(Nat.le_of_ble_eq_true rfl), (Nat.le_of_ble_eq_true rfl)⟩ [0, 1, 2, 3, 4, 5, 6, 7, 8, 9, 10, 11, 12, 13, 14, 15, 16, 17, 18, 19, 20] [] rfl rfl rfl (by decide) rfl rfl rfl rfl rfl hl.1 (Nat.le_of_ble_eq_true rfl) dX7_other_18 ⟨(Nat.le_of_ble_eq_true rfl), (Nat.le_of_ble_eq_true rfl)⟩ (fun r_w u_w H locs hw hP hD hS => ?_)
    have hP : va_P g.1 vwCl (wX7 g qM AM σM_9 ℓM) H := hP
    have hD : va_D Z (wX7 g qM AM σM_9 ℓM) := hD
    obtain rfl : r_8 = r_w := hw.symm
    refine lv_istore_n (lv' := [(2, .int r_8), (0, .ref qM), (1, .int a1)]) hx hb dX7_other_21 rfl hl (by decide) rfl (fun ls hl => ?_)
    refine lv_iload_n hx hb dX7_other_22 rfl (lv_at hl 0 rfl) ?_
    refine lv_bipush (v := (-6)) hx hb dX7_other_23 (by decide) ?_
    refine lv_icmp_eq (tgt := 32) hx hb dX7_other_25 (by decide) (fun c_12 => ?_) (fun c_12 => ?_)
    · have hF := q_if_t c_12 hF
      refine lv_iload_n hx hb dX7_other_32 rfl (lv_at hl 2 rfl) ?_
      refine lv_if_ne (tgt := 43) hx hb dX7_other_33 (by decide) (fun c_13 => ?_) (fun c_13 => ?_)
      · have hF := q_if_f c_13 hF
        refine lv_aload_n hx hb dX7_other_43 rfl (lv_at hl 1 rfl) ?_
        refine va_get (D := g.1) (ci := 7) (v := .int (σM_9 99 23)) (C := RX7) (T := TX7) (N := 34) hx hb hts hi7 hown hK hP 0 rfl rfl 23 (by decide) (hts (.fieldLink RX7 166 "PanTalesModel" "otherHouse" "I") (by decide +kernel)) (fun _ h9 => h9) rfl dX7_other_44 ?_
        cases hF
        exact r_iret hx hb hr hlk hS () rfl hP hD dX7_other_47
      · have hF := q_if_t (by first | exact c_13 | exact Classical.not_not.mp c_13) hF
        refine lv_aload_n hx hb dX7_other_36 rfl (lv_at hl 1 rfl) ?_
        refine va_get (D := g.1) (ci := 7) (v := .int (σM_9 99 22)) (C := RX7) (T := TX7) (N := 34) hx hb hts hi7 hown hK hP 0 rfl rfl 22 (by decide) (hts (.fieldLink RX7 163 "PanTalesModel" "otherAct" "I") (by decide +kernel)) (fun _ h9 => h9) rfl dX7_other_37 ?_
        refine lv_goto (tgt := 47) hx hb dX7_other_40 (by decide) ?_
        cases hF
        exact r_iret hx hb hr hlk hS () rfl hP hD dX7_other_47
    · have hF := q_if_f c_12 hF
      refine lv_iload_n hx hb dX7_other_28 rfl (lv_at hl 0 rfl) ?_
      refine lv_goto (tgt := 47) hx hb dX7_other_29 (by decide) ?_
      cases hF
      exact r_iret hx hb hr hlk hS () rfl hP hD dX7_other_47
  · have hF := q_if_t (by first | exact c_3 | exact Classical.not_not.mp c_3) hF
    refine lv_bipush (v := (-2)) hx hb dX7_other_10 (by decide) ?_
    cases hF
    exact r_iret hx hb hr hlk hS () rfl hP hD dX7_other_12
set_option maxHeartbeats 4000000 in
set_option maxRecDepth 100000 in
theorem m_X7_done (l : Launch) (g : GT) (sz : Nat) (qM : Nat) (AM : Nat → Nat) (σM : qS) (ℓM : qL) (rr : Int32) (σM' : qS) (hF : f_X7_done σM ℓM = some (rr, σM')) : Ci l yX7_done wsX7_done { frames := 6, cells := 0, slots := 0, locals := 130 } g sz [.ref qM] (wX7 g qM AM σM ℓM) rr (wX7 g qM AM σM' ℓM) := by
  refine gMet_i (cc := cX7_done) (maxL := 2) (ret := (some .int)) (by decide) rfl (Nat.le_of_ble_eq_true rfl) ?_
  intro p e s m args below meth c Z hx hb hr F hlk hnm hK hN hA H locs hP hD hS ls hl
  have hl : lv_has ls 2 [(0, .ref qM)] := hl
  have F : CallFix p m c cX7_done 2 s args wsX7_done RX7 := F
  have hts := F.2.2.2.2
  have hown : s.vm.findClass RX7 = some m.cls := F.2.2.2.1
  have hi7 : ∀ w ∈ u_ws RX7 TX7 34, w ∈ wsX7_done := by decide +kernel
  dsimp only [f_X7_done] at hF
  refine lv_aload_n hx hb dX7_done_0 rfl (lv_at hl 0 rfl) ?_
  obtain ⟨⟨r_1, σM_2⟩, h_3, hF⟩ := q_cl_s hF
  try dsimp only at hF
  refine gcV_i (As := []) (rest := []) (ci := 7) (q := (RX7, TX7, 34)) F hK hN hP hD hS hA (m_X7_refusal l g H.size qM AM σM ℓM r_1 σM_2 h_3) gX7_done_X7_refusal kX7_refusal rfl rfl rfl rfl ⟨(Nat.le_of_ble_eq_true rfl), (Nat.le_of_ble_eq_true rfl)⟩ [0, 1, 2, 3, 4, 5, 6, 7, 8, 9, 10, 11, 12, 13, 14, 15, 16, 17, 18, 19, 20] [] rfl rfl rfl (by decide) rfl rfl rfl rfl rfl hl.1 (Nat.le_of_ble_eq_true rfl) dX7_done_1 ⟨(Nat.le_of_ble_eq_true rfl), (Nat.le_of_ble_eq_true rfl)⟩ (fun r_w u_w H locs hw hP hD hS => ?_)
  have hP : va_P g.1 vwCl (wX7 g qM AM σM_2 ℓM) H := hP
  have hD : va_D Z (wX7 g qM AM σM_2 ℓM) := hD
  obtain rfl : r_1 = r_w := hw.symm
  refine lv_istore_n (lv' := [(1, .int r_1), (0, .ref qM)]) hx hb dX7_done_4 rfl hl (by decide) rfl (fun ls hl => ?_)
  refine lv_iload_n hx hb dX7_done_5 rfl (lv_at hl 0 rfl) ?_
  refine lv_bipush (v := (-6)) hx hb dX7_done_6 (by decide) ?_
  refine lv_icmp_eq (tgt := 17) hx hb dX7_done_8 (by decide) (fun c_5 => ?_) (fun c_5 => ?_)
  · have hF := q_if_t c_5 hF
    refine lv_aload_n hx hb dX7_done_17 rfl (lv_at hl 1 rfl) ?_
    refine lv_iconst (v := 0) hx hb dX7_done_18 (by decide) ?_
    obtain ⟨σM_6, e_7, hF⟩ := q_bd_s hF
    refine va_put (D := g.1) (ci := 7) (v := .int 0) (ty := .int) (C := RX7) (T := TX7) (N := 34) hx hb hts hi7 tyX7 tyX7_ok nmX7 hown hK hP hD hS 0 rfl rfl 13 (by decide) (hts (.fieldLink RX7 100 "PanTalesModel" "padMany" "I") (by decide +kernel)) (fun _ h9 => h9) rfl (by decide +kernel) rfl rfl (Nat.le_of_ble_eq_true rfl) dX7_done_19 (fun H locs hP hD hS => ?_)
    have hP : va_P g.1 vwCl (wX7 g qM AM (q_pt σM_2 13 (0 : Int32)) ℓM) H := hP
    have hD : va_D Z (wX7 g qM AM (q_pt σM_2 13 (0 : Int32)) ℓM) := hD
    rw [e_7] at hP hD
    refine lv_aload_n hx hb dX7_done_22 rfl (lv_at hl 1 rfl) ?_
    refine va_get (D := g.1) (ci := 7) (v := .int (σM_6 99 17)) (C := RX7) (T := TX7) (N := 34) hx hb hts hi7 hown hK hP 0 rfl rfl 17 (by decide) (hts (.fieldLink RX7 103 "PanTalesModel" "acts" "I") (by decide +kernel)) (fun _ h9 => h9) rfl dX7_done_23 ?_
    cases hF
    exact r_iret hx hb hr hlk hS () rfl hP hD dX7_done_26
  · have hF := q_if_f c_5 hF
    refine lv_aload_n hx hb dX7_done_11 rfl (lv_at hl 1 rfl) ?_
    refine lv_iload_n hx hb dX7_done_12 rfl (lv_at hl 0 rfl) ?_
    obtain ⟨⟨r_8, σM_9⟩, h_10, hF⟩ := q_cl_s hF
    try dsimp only at hF
    refine gcV_i (As := [.int r_1]) (rest := []) (ci := 7) (q := (RX7, TX7, 34)) F hK hN hP hD hS hA (m_X7_back l g H.size qM AM σM_2 ℓM r_1 r_8 σM_9 h_10) gX7_done_X7_back kX7_back rfl rfl rfl rfl ⟨(Nat.le_of_ble_eq_true rfl), (Nat.le_of_ble_eq_true rfl)⟩ [0, 1, 2, 3, 4, 5, 6, 7, 8, 9, 10, 11, 12, 13, 14, 15, 16, 17, 18, 19, 20] [] rfl rfl rfl (by decide) rfl rfl rfl rfl rfl hl.1 (Nat.le_of_ble_eq_true rfl) dX7_done_13 ⟨(Nat.le_of_ble_eq_true rfl), (Nat.le_of_ble_eq_true rfl)⟩ (fun r_w u_w H locs hw hP hD hS => ?_)
    have hP : va_P g.1 vwCl (wX7 g qM AM σM_9 ℓM) H := hP
    have hD : va_D Z (wX7 g qM AM σM_9 ℓM) := hD
    obtain rfl : r_8 = r_w := hw.symm
    cases hF
    exact r_iret hx hb hr hlk hS () rfl hP hD dX7_done_16

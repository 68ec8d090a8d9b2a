theorem kX6_road : YOk yX6_road 3 := by decide +kernel
theorem kX6_house : YOk yX6_house 3 := by decide +kernel
theorem kX6_tell : YOk yX6_tell 2 := by decide +kernel
theorem kX6_fade : YOk yX6_fade 2 := by decide +kernel
theorem kX6_say : YOk yX6_say 1 := by decide +kernel
theorem kX6_wipe : YOk yX6_wipe 0 := by decide +kernel
theorem kX6_fault : YOk yX6_fault 0 := by decide +kernel
theorem kX6_judge : YOk yX6_judge 1 := by decide +kernel
theorem kX6_behind : YOk yX6_behind 2 := by decide +kernel
theorem kX6_pan : YOk yX6_pan 1 := by decide +kernel
theorem kX6_holds : YOk yX6_holds 1 := by decide +kernel
theorem kX6_other : YOk yX6_other 1 := by decide +kernel
theorem kX6_done : YOk yX6_done 0 := by decide +kernel
set_option maxHeartbeats 4000000 in
set_option maxRecDepth 100000 in
theorem c_X6_road (l : Launch) (g : GT) (sz : Nat) (hζ : Nat) (Qζ Aζ : Nat → Nat) (xζ yζ zζ : Int32) : Ci l yX6_road wsX6_road { frames := 2, cells := 0, slots := 0, locals := 43 } g sz [.ref hζ, .int xζ, .int yζ, .int zζ] [(hζ, .inr (6, [.ref (Qζ 0), .ref (Qζ 1), .ref (Qζ 2), .ref (Qζ 3), .ref (Qζ 4), .ref (Qζ 5), .ref (Qζ 6), .ref (Qζ 7)])), (Qζ 0, .inr (1, oC Aζ iC0)), aI g (Aζ 0) 121 (fun _ => 0)] (roadF xζ yζ zζ) [] := by
  refine gMet_i (cc := cX6_road) (maxL := 5) (ret := (some .int)) (by decide) rfl (Nat.le_of_ble_eq_true rfl) ?_
  intro p e s m args below meth c Z hx hb hr F hlk hnm hK hN hA H locs hP hD hS ls hl
  have hl : lv_has ls 5 [(0, .ref hζ), (1, .int xζ), (2, .int yζ), (3, .int zζ)] := hl
  have F : CallFix p m c cX6_road 5 s args wsX6_road RX6 := F
  have hts := F.2.2.2.2
  have hown : s.vm.findClass RX6 = some m.cls := F.2.2.2.1
  have hi6 : ∀ w ∈ u_ws RX6 TX6 8, w ∈ wsX6_road := by decide +kernel
  refine lv_iload_n hx hb dX6_road_0 rfl (lv_at hl 1 rfl) ?_
  refine gcP (As := [.int xζ]) (rest := []) F (c_X6_isPlace l xζ) gX6_road_X6_isPlace kX6_isPlace rfl rfl rfl ⟨(Nat.le_of_ble_eq_true rfl), (Nat.le_of_ble_eq_true rfl)⟩ rfl rfl hl.1 (Nat.le_of_ble_eq_true rfl) dX6_road_1 ⟨(Nat.le_of_ble_eq_true rfl), (Nat.le_of_ble_eq_true rfl)⟩ ?_
  refine lv_if_eq (tgt := 19) hx hb dX6_road_4 (by decide) (fun c_1 => ?_) (fun c_1 => ?_)
  · have c_1 : inB xζ 0 10 = false := bI_0 c_1
    refine lv_iconst (v := (-1)) hx hb dX6_road_19 (by decide) ?_
    exact r_iret hx hb hr hlk hS () (by unfold roadF; rw [if_neg (bF c_1)]) (hP.sub [] rfl) (hD.sub [] (by decide) rfl) dX6_road_20
  · have c_1 : inB xζ 0 10 = true := bI_1 c_1
    refine lv_iload_n hx hb dX6_road_7 rfl (lv_at hl 2 rfl) ?_
    refine gcP (As := [.int yζ]) (rest := []) F (c_X6_isPlace l yζ) gX6_road_X6_isPlace kX6_isPlace rfl rfl rfl ⟨(Nat.le_of_ble_eq_true rfl), (Nat.le_of_ble_eq_true rfl)⟩ rfl rfl hl.1 (Nat.le_of_ble_eq_true rfl) dX6_road_8 ⟨(Nat.le_of_ble_eq_true rfl), (Nat.le_of_ble_eq_true rfl)⟩ ?_
    refine lv_if_eq (tgt := 19) hx hb dX6_road_11 (by decide) (fun c_2 => ?_) (fun c_2 => ?_)
    · have c_2 : inB yζ 0 10 = false := bI_0 c_2
      refine lv_iconst (v := (-1)) hx hb dX6_road_19 (by decide) ?_
      exact r_iret hx hb hr hlk hS () (by unfold roadF; rw [if_pos c_1, if_neg (bF c_2)]) (hP.sub [] rfl) (hD.sub [] (by decide) rfl) dX6_road_20
    · have c_2 : inB yζ 0 10 = true := bI_1 c_2
      refine lv_iload_n hx hb dX6_road_14 rfl (lv_at hl 1 rfl) ?_
      refine lv_iload_n hx hb dX6_road_15 rfl (lv_at hl 2 rfl) ?_
      refine lv_icmp_ne (tgt := 21) hx hb dX6_road_16 (by decide) (fun c_3 => ?_) (fun c_3 => ?_)
      · refine lv_iload_n hx hb dX6_road_21 rfl (lv_at hl 3 rfl) ?_
        refine lv_iconst (v := 0) hx hb dX6_road_22 (by decide) ?_
        refine lv_bipush (v := 9) hx hb dX6_road_23 (by decide) ?_
        refine gcP (As := [.int zζ, .int 0, .int 9]) (rest := []) F (c_X6_within l zζ 0 9) gX6_road_X6_within kX6_within rfl rfl rfl ⟨(Nat.le_of_ble_eq_true rfl), (Nat.le_of_ble_eq_true rfl)⟩ rfl rfl hl.1 (Nat.le_of_ble_eq_true rfl) dX6_road_25 ⟨(Nat.le_of_ble_eq_true rfl), (Nat.le_of_ble_eq_true rfl)⟩ ?_
        refine lv_if_ne (tgt := 34) hx hb dX6_road_28 (by decide) (fun c_4 => ?_) (fun c_4 => ?_)
        · have c_4 : inB zζ 0 9 = true := bI_1 c_4
          obtain ⟨iζ, hiζ, eiζ⟩ := inB_nat (N := 11) (by decide) c_1
          have hl : lv_has ls 5 [(0, .ref hζ), (1, .int (nI iζ)), (2, .int yζ), (3, .int zζ)] := by first | exact hl | (rw [← (eiζ : xζ = nI iζ)]; exact hl)
          obtain ⟨jζ, hjζ, ejζ⟩ := inB_nat (N := 11) (by decide) c_2
          have hl : lv_has ls 5 [(0, .ref hζ), (1, .int (nI iζ)), (2, .int (nI jζ)), (3, .int zζ)] := by first | exact hl | (rw [← (ejζ : yζ = nI jζ)]; exact hl)
          refine lv_aload_n hx hb dX6_road_34 rfl (lv_at hl 0 rfl) ?_
          refine va_get (D := g.1) (ci := 6) (v := .ref (Qζ 0)) (C := RX6) (T := TX6) (N := 8) hx hb hts hi6 hown hK hP 0 rfl rfl 0 (by decide) (hts (.fieldLink RX6 12 "PanTales" "close" "LPanTales$Close;") (by decide +kernel)) (fun _ h9 => h9) rfl dX6_road_35 ?_
          refine lv_iload_n hx hb dX6_road_38 rfl (lv_at hl 1 rfl) ?_
          refine lv_iload_n hx hb dX6_road_39 rfl (lv_at hl 2 rfl) ?_
          refine gcV_i (As := [.int (nI iζ), .int (nI jζ)]) (rest := []) (ci := 1) (q := (RX1, TX1, 12)) F hK hN hP hD hS hA (c_X1_longBetween l g H.size (Qζ 0) Aζ iC0 (fun _ => 0) iζ jζ (by omega) (by omega)) gX6_road_X1_longBetween kX1_longBetween rfl rfl rfl rfl ⟨(Nat.le_of_ble_eq_true rfl), (Nat.le_of_ble_eq_true rfl)⟩ [1, 2] [0] rfl rfl rfl (by decide) rfl rfl rfl rfl rfl hl.1 (Nat.le_of_ble_eq_true rfl) dX6_road_40 ⟨(Nat.le_of_ble_eq_true rfl), (Nat.le_of_ble_eq_true rfl)⟩ (fun r_w u_w H locs hw hP hD hS => ?_)
          have hP : va_P g.1 vwCl [(hζ, .inr (6, [.ref (Qζ 0), .ref (Qζ 1), .ref (Qζ 2), .ref (Qζ 3), .ref (Qζ 4), .ref (Qζ 5), .ref (Qζ 6), .ref (Qζ 7)])), ((Qζ 0), .inr (1, oC Aζ iC0)), aI g (Aζ 0) 121 (fun _ => 0)] H := hP
          have hD : va_D Z [(hζ, .inr (6, [.ref (Qζ 0), .ref (Qζ 1), .ref (Qζ 2), .ref (Qζ 3), .ref (Qζ 4), .ref (Qζ 5), .ref (Qζ 6), .ref (Qζ 7)])), ((Qζ 0), .inr (1, oC Aζ iC0)), aI g (Aζ 0) 121 (fun _ => 0)] := hD
          obtain rfl := hw
          refine gtop (y := 0) rfl ?_
          refine lv_istore (lv' := [(4, .int 0), (0, .ref hζ), (1, .int (nI iζ)), (2, .int (nI jζ)), (3, .int zζ)]) hx hb dX6_road_43 hl (by decide) rfl (fun ls hl => ?_)
          refine lv_aload_n hx hb dX6_road_45 rfl (lv_at hl 1 rfl) ?_
          refine va_get (D := g.1) (ci := 6) (v := .ref (Qζ 0)) (C := RX6) (T := TX6) (N := 8) hx hb hts hi6 hown hK hP 0 rfl rfl 0 (by decide) (hts (.fieldLink RX6 12 "PanTales" "close" "LPanTales$Close;") (by decide +kernel)) (fun _ h9 => h9) rfl dX6_road_46 ?_
          refine lv_iload_n hx hb dX6_road_49 rfl (lv_at hl 2 rfl) ?_
          refine lv_iload_n hx hb dX6_road_50 rfl (lv_at hl 3 rfl) ?_
          refine lv_iload_n hx hb dX6_road_51 rfl (lv_at hl 4 rfl) ?_
          refine gcV_v (As := [.int (nI iζ), .int (nI jζ), .int zζ]) (rest := []) (ci := 1) (q := (RX1, TX1, 12)) F hK hN hP hD hS hA (c_X1_layRoad l g H.size (Qζ 0) Aζ iC0 (fun _ => 0) iζ jζ zζ (by omega) (by omega)) gX6_road_X1_layRoad kX1_layRoad rfl rfl rfl rfl ⟨(Nat.le_of_ble_eq_true rfl), (Nat.le_of_ble_eq_true rfl)⟩ [1, 2] [0] rfl rfl rfl (by decide) rfl rfl rfl rfl rfl hl.1 (Nat.le_of_ble_eq_true rfl) dX6_road_52 ⟨(Nat.le_of_ble_eq_true rfl), (Nat.le_of_ble_eq_true rfl)⟩ (fun u_w H locs hw hP hD hS => ?_)
          have hP : va_P g.1 vwCl [(hζ, .inr (6, [.ref (Qζ 0), .ref (Qζ 1), .ref (Qζ 2), .ref (Qζ 3), .ref (Qζ 4), .ref (Qζ 5), .ref (Qζ 6), .ref (Qζ 7)]))] H := hP
          have hD : va_D Z [(hζ, .inr (6, [.ref (Qζ 0), .ref (Qζ 1), .ref (Qζ 2), .ref (Qζ 3), .ref (Qζ 4), .ref (Qζ 5), .ref (Qζ 6), .ref (Qζ 7)]))] := hD
          refine lv_iload hx hb dX6_road_55 (lv_at hl 0 rfl) ?_
          exact r_iret hx hb hr hlk hS () (by unfold roadF; rw [if_pos c_1, if_pos c_2, if_neg c_3, if_pos c_4]) (hP.sub [] rfl) (hD.sub [] (by decide) rfl) dX6_road_57
        · have c_4 : inB zζ 0 9 = false := bI_0 c_4
          refine lv_bipush (v := (-2)) hx hb dX6_road_31 (by decide) ?_
          exact r_iret hx hb hr hlk hS () (by unfold roadF; rw [if_pos c_1, if_pos c_2, if_neg c_3, if_neg (bF c_4)]) (hP.sub [] rfl) (hD.sub [] (by decide) rfl) dX6_road_33
      · refine lv_iconst (v := (-1)) hx hb dX6_road_19 (by decide) ?_
        exact r_iret hx hb hr hlk hS () (by unfold roadF; rw [if_pos c_1, if_pos c_2, if_pos c_3]) (hP.sub [] rfl) (hD.sub [] (by decide) rfl) dX6_road_20
set_option maxHeartbeats 4000000 in
set_option maxRecDepth 100000 in
theorem c_X6_house (l : Launch) (g : GT) (sz : Nat) (hζ : Nat) (Qζ Aζ : Nat → Nat) (xζ yζ zζ : Int32) : Ci l yX6_house wsX6_house { frames := 2, cells := 0, slots := 0, locals := 43 } g sz [.ref hζ, .int xζ, .int yζ, .int zζ] [(hζ, .inr (6, [.ref (Qζ 0), .ref (Qζ 1), .ref (Qζ 2), .ref (Qζ 3), .ref (Qζ 4), .ref (Qζ 5), .ref (Qζ 6), .ref (Qζ 7)])), (Qζ 0, .inr (1, oC Aζ iC0)), aI g (Aζ 1) 10 (fun _ => 5), aI g (Aζ 2) 10 (fun _ => 0)] (houseF xζ yζ zζ) [] := by
  refine gMet_i (cc := cX6_house) (maxL := 5) (ret := (some .int)) (by decide) rfl (Nat.le_of_ble_eq_true rfl) ?_
  intro p e s m args below meth c Z hx hb hr F hlk hnm hK hN hA H locs hP hD hS ls hl
  have hl : lv_has ls 5 [(0, .ref hζ), (1, .int xζ), (2, .int yζ), (3, .int zζ)] := hl
  have F : CallFix p m c cX6_house 5 s args wsX6_house RX6 := F
  have hts := F.2.2.2.2
  have hown : s.vm.findClass RX6 = some m.cls := F.2.2.2.1
  have hi6 : ∀ w ∈ u_ws RX6 TX6 8, w ∈ wsX6_house := by decide +kernel
  refine lv_iload_n hx hb dX6_house_0 rfl (lv_at hl 1 rfl) ?_
  refine gcP (As := [.int xζ]) (rest := []) F (c_X6_isHouse l xζ) gX6_house_X6_isHouse kX6_isHouse rfl rfl rfl ⟨(Nat.le_of_ble_eq_true rfl), (Nat.le_of_ble_eq_true rfl)⟩ rfl rfl hl.1 (Nat.le_of_ble_eq_true rfl) dX6_house_1 ⟨(Nat.le_of_ble_eq_true rfl), (Nat.le_of_ble_eq_true rfl)⟩ ?_
  refine lv_if_ne (tgt := 9) hx hb dX6_house_4 (by decide) (fun c_1 => ?_) (fun c_1 => ?_)
  · have c_1 : inB xζ 0 9 = true := bI_1 c_1
    refine lv_iload_n hx hb dX6_house_9 rfl (lv_at hl 2 rfl) ?_
    refine lv_iconst (v := 0) hx hb dX6_house_10 (by decide) ?_
    refine lv_bipush (v := 9) hx hb dX6_house_11 (by decide) ?_
    refine gcP (As := [.int yζ, .int 0, .int 9]) (rest := []) F (c_X6_within l yζ 0 9) gX6_house_X6_within kX6_within rfl rfl rfl ⟨(Nat.le_of_ble_eq_true rfl), (Nat.le_of_ble_eq_true rfl)⟩ rfl rfl hl.1 (Nat.le_of_ble_eq_true rfl) dX6_house_13 ⟨(Nat.le_of_ble_eq_true rfl), (Nat.le_of_ble_eq_true rfl)⟩ ?_
    refine lv_if_eq (tgt := 28) hx hb dX6_house_16 (by decide) (fun c_2 => ?_) (fun c_2 => ?_)
    · have c_2 : inB yζ 0 9 = false := bI_0 c_2
      refine lv_bipush (v := (-2)) hx hb dX6_house_28 (by decide) ?_
      exact r_iret hx hb hr hlk hS () (by unfold houseF; rw [if_pos c_1, if_neg (bF c_2)]) (hP.sub [] rfl) (hD.sub [] (by decide) rfl) dX6_house_30
    · have c_2 : inB yζ 0 9 = true := bI_1 c_2
      refine lv_iload_n hx hb dX6_house_19 rfl (lv_at hl 3 rfl) ?_
      refine lv_iconst (v := 0) hx hb dX6_house_20 (by decide) ?_
      refine lv_iconst (v := 1) hx hb dX6_house_21 (by decide) ?_
      refine gcP (As := [.int zζ, .int 0, .int 1]) (rest := []) F (c_X6_within l zζ 0 1) gX6_house_X6_within kX6_within rfl rfl rfl ⟨(Nat.le_of_ble_eq_true rfl), (Nat.le_of_ble_eq_true rfl)⟩ rfl rfl hl.1 (Nat.le_of_ble_eq_true rfl) dX6_house_22 ⟨(Nat.le_of_ble_eq_true rfl), (Nat.le_of_ble_eq_true rfl)⟩ ?_
      refine lv_if_ne (tgt := 31) hx hb dX6_house_25 (by decide) (fun c_3 => ?_) (fun c_3 => ?_)
      · have c_3 : inB zζ 0 1 = true := bI_1 c_3
        obtain ⟨iζ, hiζ, eiζ⟩ := inB_nat (N := 10) (by decide) c_1
        have hl : lv_has ls 5 [(0, .ref hζ), (1, .int (nI iζ)), (2, .int yζ), (3, .int zζ)] := by first | exact hl | (rw [← (eiζ : xζ = nI iζ)]; exact hl)
        refine lv_aload_n hx hb dX6_house_31 rfl (lv_at hl 0 rfl) ?_
        refine va_get (D := g.1) (ci := 6) (v := .ref (Qζ 0)) (C := RX6) (T := TX6) (N := 8) hx hb hts hi6 hown hK hP 0 rfl rfl 0 (by decide) (hts (.fieldLink RX6 12 "PanTales" "close" "LPanTales$Close;") (by decide +kernel)) (fun _ h9 => h9) rfl dX6_house_32 ?_
        refine lv_iload_n hx hb dX6_house_35 rfl (lv_at hl 1 rfl) ?_
        refine gcV_i (As := [.int (nI iζ)]) (rest := []) (ci := 1) (q := (RX1, TX1, 12)) F hK hN hP hD hS hA (c_X1_doubtOf l g H.size (Qζ 0) Aζ iC0 (fun _ => 5) iζ (by omega)) gX6_house_X1_doubtOf kX1_doubtOf rfl rfl rfl rfl ⟨(Nat.le_of_ble_eq_true rfl), (Nat.le_of_ble_eq_true rfl)⟩ [1, 2] [0, 3] rfl rfl rfl (by decide) rfl rfl rfl rfl rfl hl.1 (Nat.le_of_ble_eq_true rfl) dX6_house_36 ⟨(Nat.le_of_ble_eq_true rfl), (Nat.le_of_ble_eq_true rfl)⟩ (fun r_w u_w H locs hw hP hD hS => ?_)
        have hP : va_P g.1 vwCl [(hζ, .inr (6, [.ref (Qζ 0), .ref (Qζ 1), .ref (Qζ 2), .ref (Qζ 3), .ref (Qζ 4), .ref (Qζ 5), .ref (Qζ 6), .ref (Qζ 7)])), aI g (Aζ 2) 10 (fun _ => 0), ((Qζ 0), .inr (1, oC Aζ iC0)), aI g (Aζ 1) 10 (fun _ => 5)] H := hP
        have hD : va_D Z [(hζ, .inr (6, [.ref (Qζ 0), .ref (Qζ 1), .ref (Qζ 2), .ref (Qζ 3), .ref (Qζ 4), .ref (Qζ 5), .ref (Qζ 6), .ref (Qζ 7)])), aI g (Aζ 2) 10 (fun _ => 0), ((Qζ 0), .inr (1, oC Aζ iC0)), aI g (Aζ 1) 10 (fun _ => 5)] := hD
        obtain rfl := hw
        refine gtop (y := 5) rfl ?_
        refine lv_istore (lv' := [(4, .int 5), (0, .ref hζ), (1, .int (nI iζ)), (2, .int yζ), (3, .int zζ)]) hx hb dX6_house_39 hl (by decide) rfl (fun ls hl => ?_)
        refine lv_aload_n hx hb dX6_house_41 rfl (lv_at hl 1 rfl) ?_
        refine va_get (D := g.1) (ci := 6) (v := .ref (Qζ 0)) (C := RX6) (T := TX6) (N := 8) hx hb hts hi6 hown hK hP 0 rfl rfl 0 (by decide) (hts (.fieldLink RX6 12 "PanTales" "close" "LPanTales$Close;") (by decide +kernel)) (fun _ h9 => h9) rfl dX6_house_42 ?_
        refine lv_iload_n hx hb dX6_house_45 rfl (lv_at hl 2 rfl) ?_
        refine lv_iload_n hx hb dX6_house_46 rfl (lv_at hl 3 rfl) ?_
        refine lv_iload_n hx hb dX6_house_47 rfl (lv_at hl 4 rfl) ?_
        refine gcV_v (As := [.int (nI iζ), .int yζ, .int zζ]) (rest := []) (ci := 1) (q := (RX1, TX1, 12)) F hK hN hP hD hS hA (c_X1_furnish l g H.size (Qζ 0) Aζ iC0 (fun _ => 5) (fun _ => 0) iζ yζ zζ (by omega)) gX6_house_X1_furnish kX1_furnish rfl rfl rfl rfl ⟨(Nat.le_of_ble_eq_true rfl), (Nat.le_of_ble_eq_true rfl)⟩ [2, 3, 1] [0] rfl rfl rfl (by decide) rfl rfl rfl rfl rfl hl.1 (Nat.le_of_ble_eq_true rfl) dX6_house_48 ⟨(Nat.le_of_ble_eq_true rfl), (Nat.le_of_ble_eq_true rfl)⟩ (fun u_w H locs hw hP hD hS => ?_)
        have hP : va_P g.1 vwCl [(hζ, .inr (6, [.ref (Qζ 0), .ref (Qζ 1), .ref (Qζ 2), .ref (Qζ 3), .ref (Qζ 4), .ref (Qζ 5), .ref (Qζ 6), .ref (Qζ 7)]))] H := hP
        have hD : va_D Z [(hζ, .inr (6, [.ref (Qζ 0), .ref (Qζ 1), .ref (Qζ 2), .ref (Qζ 3), .ref (Qζ 4), .ref (Qζ 5), .ref (Qζ 6), .ref (Qζ 7)]))] := hD
        refine lv_iload hx hb dX6_house_51 (lv_at hl 0 rfl) ?_
        exact r_iret hx hb hr hlk hS () (by unfold houseF; rw [if_pos c_1, if_pos c_2, if_pos c_3]) (hP.sub [] rfl) (hD.sub [] (by decide) rfl) dX6_house_53
      · have c_3 : inB zζ 0 1 = false := bI_0 c_3
        refine lv_bipush (v := (-2)) hx hb dX6_house_28 (by decide) ?_
        exact r_iret hx hb hr hlk hS () (by unfold houseF; rw [if_pos c_1, if_pos c_2, if_neg (bF c_3)]) (hP.sub [] rfl) (hD.sub [] (by decide) rfl) dX6_house_30
  · have c_1 : inB xζ 0 9 = false := bI_0 c_1
    refine lv_iconst (v := (-1)) hx hb dX6_house_7 (by decide) ?_
    exact r_iret hx hb hr hlk hS () (by unfold houseF; rw [if_neg (bF c_1)]) (hP.sub [] rfl) (hD.sub [] (by decide) rfl) dX6_house_8
set_option maxHeartbeats 4000000 in
set_option maxRecDepth 100000 in
theorem c_X6_tell (l : Launch) (g : GT) (sz : Nat) (hζ : Nat) (Qζ Aζ : Nat → Nat) (xζ yζ : Int32) : Ci l yX6_tell wsX6_tell { frames := 2, cells := 0, slots := 0, locals := 42 } g sz [.ref hζ, .int xζ, .int yζ] [(hζ, .inr (6, [.ref (Qζ 0), .ref (Qζ 1), .ref (Qζ 2), .ref (Qζ 3), .ref (Qζ 4), .ref (Qζ 5), .ref (Qζ 6), .ref (Qζ 7)])), (Qζ 0, .inr (1, oC Aζ iC0)), aI g (Aζ 3) 10 (fun _ => (-6))] (tellF xζ yζ) [] := by
  refine gMet_i (cc := cX6_tell) (maxL := 4) (ret := (some .int)) (by decide) rfl (Nat.le_of_ble_eq_true rfl) ?_
  intro p e s m args below meth c Z hx hb hr F hlk hnm hK hN hA H locs hP hD hS ls hl
  have hl : lv_has ls 4 [(0, .ref hζ), (1, .int xζ), (2, .int yζ)] := hl
  have F : CallFix p m c cX6_tell 4 s args wsX6_tell RX6 := F
  have hts := F.2.2.2.2
  have hown : s.vm.findClass RX6 = some m.cls := F.2.2.2.1
  have hi6 : ∀ w ∈ u_ws RX6 TX6 8, w ∈ wsX6_tell := by decide +kernel
  refine lv_iload_n hx hb dX6_tell_0 rfl (lv_at hl 1 rfl) ?_
  refine gcP (As := [.int xζ]) (rest := []) F (c_X6_isHouse l xζ) gX6_tell_X6_isHouse kX6_isHouse rfl rfl rfl ⟨(Nat.le_of_ble_eq_true rfl), (Nat.le_of_ble_eq_true rfl)⟩ rfl rfl hl.1 (Nat.le_of_ble_eq_true rfl) dX6_tell_1 ⟨(Nat.le_of_ble_eq_true rfl), (Nat.le_of_ble_eq_true rfl)⟩ ?_
  refine lv_if_eq (tgt := 19) hx hb dX6_tell_4 (by decide) (fun c_1 => ?_) (fun c_1 => ?_)
  · have c_1 : inB xζ 0 9 = false := bI_0 c_1
    refine lv_iconst (v := (-1)) hx hb dX6_tell_19 (by decide) ?_
    exact r_iret hx hb hr hlk hS () (by unfold tellF; rw [if_neg (bF c_1)]) (hP.sub [] rfl) (hD.sub [] (by decide) rfl) dX6_tell_20
  · have c_1 : inB xζ 0 9 = true := bI_1 c_1
    refine lv_iload_n hx hb dX6_tell_7 rfl (lv_at hl 2 rfl) ?_
    refine gcP (As := [.int yζ]) (rest := []) F (c_X6_isTale l yζ) gX6_tell_X6_isTale kX6_isTale rfl rfl rfl ⟨(Nat.le_of_ble_eq_true rfl), (Nat.le_of_ble_eq_true rfl)⟩ rfl rfl hl.1 (Nat.le_of_ble_eq_true rfl) dX6_tell_8 ⟨(Nat.le_of_ble_eq_true rfl), (Nat.le_of_ble_eq_true rfl)⟩ ?_
    refine lv_if_ne (tgt := 21) hx hb dX6_tell_11 (by decide) (fun c_2 => ?_) (fun c_2 => ?_)
    · have c_2 : inB yζ 0 9 = true := bI_1 c_2
      obtain ⟨iζ, hiζ, eiζ⟩ := inB_nat (N := 10) (by decide) c_1
      have hl : lv_has ls 4 [(0, .ref hζ), (1, .int (nI iζ)), (2, .int yζ)] := by first | exact hl | (rw [← (eiζ : xζ = nI iζ)]; exact hl)
      refine lv_aload_n hx hb dX6_tell_21 rfl (lv_at hl 0 rfl) ?_
      refine va_get (D := g.1) (ci := 6) (v := .ref (Qζ 0)) (C := RX6) (T := TX6) (N := 8) hx hb hts hi6 hown hK hP 0 rfl rfl 0 (by decide) (hts (.fieldLink RX6 12 "PanTales" "close" "LPanTales$Close;") (by decide +kernel)) (fun _ h9 => h9) rfl dX6_tell_22 ?_
      refine lv_iload_n hx hb dX6_tell_25 rfl (lv_at hl 1 rfl) ?_
      refine gcV_i (As := [.int (nI iζ)]) (rest := []) (ci := 1) (q := (RX1, TX1, 12)) F hK hN hP hD hS hA (c_X1_beliefOf l g H.size (Qζ 0) Aζ iC0 (fun _ => (-6)) iζ (by omega)) gX6_tell_X1_beliefOf kX1_beliefOf rfl rfl rfl rfl ⟨(Nat.le_of_ble_eq_true rfl), (Nat.le_of_ble_eq_true rfl)⟩ [1, 2] [0] rfl rfl rfl (by decide) rfl rfl rfl rfl rfl hl.1 (Nat.le_of_ble_eq_true rfl) dX6_tell_26 ⟨(Nat.le_of_ble_eq_true rfl), (Nat.le_of_ble_eq_true rfl)⟩ (fun r_w u_w H locs hw hP hD hS => ?_)
      have hP : va_P g.1 vwCl [(hζ, .inr (6, [.ref (Qζ 0), .ref (Qζ 1), .ref (Qζ 2), .ref (Qζ 3), .ref (Qζ 4), .ref (Qζ 5), .ref (Qζ 6), .ref (Qζ 7)])), ((Qζ 0), .inr (1, oC Aζ iC0)), aI g (Aζ 3) 10 (fun _ => (-6))] H := hP
      have hD : va_D Z [(hζ, .inr (6, [.ref (Qζ 0), .ref (Qζ 1), .ref (Qζ 2), .ref (Qζ 3), .ref (Qζ 4), .ref (Qζ 5), .ref (Qζ 6), .ref (Qζ 7)])), ((Qζ 0), .inr (1, oC Aζ iC0)), aI g (Aζ 3) 10 (fun _ => (-6))] := hD
      obtain rfl := hw
      refine gtop (y := (-6)) rfl ?_
      refine lv_istore_n (lv' := [(3, .int (-6)), (0, .ref hζ), (1, .int (nI iζ)), (2, .int yζ)]) hx hb dX6_tell_29 rfl hl (by decide) rfl (fun ls hl => ?_)
      refine lv_aload_n hx hb dX6_tell_30 rfl (lv_at hl 1 rfl) ?_
      refine va_get (D := g.1) (ci := 6) (v := .ref (Qζ 0)) (C := RX6) (T := TX6) (N := 8) hx hb hts hi6 hown hK hP 0 rfl rfl 0 (by decide) (hts (.fieldLink RX6 12 "PanTales" "close" "LPanTales$Close;") (by decide +kernel)) (fun _ h9 => h9) rfl dX6_tell_31 ?_
      refine lv_iload_n hx hb dX6_tell_34 rfl (lv_at hl 2 rfl) ?_
      refine lv_iload_n hx hb dX6_tell_35 rfl (lv_at hl 3 rfl) ?_
      refine lv_iconst (v := (-1)) hx hb dX6_tell_36 (by decide) ?_
      refine lv_icmp_ne (tgt := 45) hx hb dX6_tell_37 (by decide) (fun c_3 => ?_) (fun c_3 => ?_)
      · refine lv_iload_n hx hb dX6_tell_45 rfl (lv_at hl 3 rfl) ?_
        refine gcV_v (As := [.int (nI iζ), .int yζ]) (rest := []) (ci := 1) (q := (RX1, TX1, 12)) F hK hN hP hD hS hA (c_X1_convince l g H.size (Qζ 0) Aζ iC0 (fun _ => (-6)) iζ yζ (by omega)) gX6_tell_X1_convince kX1_convince rfl rfl rfl rfl ⟨(Nat.le_of_ble_eq_true rfl), (Nat.le_of_ble_eq_true rfl)⟩ [1, 2] [0] rfl rfl rfl (by decide) rfl rfl rfl rfl rfl hl.1 (Nat.le_of_ble_eq_true rfl) dX6_tell_46 ⟨(Nat.le_of_ble_eq_true rfl), (Nat.le_of_ble_eq_true rfl)⟩ (fun u_w H locs hw hP hD hS => ?_)
        have hP : va_P g.1 vwCl [(hζ, .inr (6, [.ref (Qζ 0), .ref (Qζ 1), .ref (Qζ 2), .ref (Qζ 3), .ref (Qζ 4), .ref (Qζ 5), .ref (Qζ 6), .ref (Qζ 7)]))] H := hP
        have hD : va_D Z [(hζ, .inr (6, [.ref (Qζ 0), .ref (Qζ 1), .ref (Qζ 2), .ref (Qζ 3), .ref (Qζ 4), .ref (Qζ 5), .ref (Qζ 6), .ref (Qζ 7)]))] := hD
        refine lv_iload_n hx hb dX6_tell_49 rfl (lv_at hl 0 rfl) ?_
        exact r_iret hx hb hr hlk hS () (by unfold tellF; rw [if_pos c_1, if_pos c_2]) (hP.sub [] rfl) (hD.sub [] (by decide) rfl) dX6_tell_50
      · refine lv_bipush (v := (-6)) hx hb dX6_tell_40 (by decide) ?_
        refine lv_goto (tgt := 46) hx hb dX6_tell_42 (by decide) ?_
        refine gcV_v (As := [.int (nI iζ), .int (-6)]) (rest := []) (ci := 1) (q := (RX1, TX1, 12)) F hK hN hP hD hS hA (c_X1_convince l g H.size (Qζ 0) Aζ iC0 (fun _ => (-6)) iζ (-6) (by omega)) gX6_tell_X1_convince kX1_convince rfl rfl rfl rfl ⟨(Nat.le_of_ble_eq_true rfl), (Nat.le_of_ble_eq_true rfl)⟩ [1, 2] [0] rfl rfl rfl (by decide) rfl rfl rfl rfl rfl hl.1 (Nat.le_of_ble_eq_true rfl) dX6_tell_46 ⟨(Nat.le_of_ble_eq_true rfl), (Nat.le_of_ble_eq_true rfl)⟩ (fun u_w H locs hw hP hD hS => ?_)
        have hP : va_P g.1 vwCl [(hζ, .inr (6, [.ref (Qζ 0), .ref (Qζ 1), .ref (Qζ 2), .ref (Qζ 3), .ref (Qζ 4), .ref (Qζ 5), .ref (Qζ 6), .ref (Qζ 7)]))] H := hP
        have hD : va_D Z [(hζ, .inr (6, [.ref (Qζ 0), .ref (Qζ 1), .ref (Qζ 2), .ref (Qζ 3), .ref (Qζ 4), .ref (Qζ 5), .ref (Qζ 6), .ref (Qζ 7)]))] := hD
        refine lv_iload_n hx hb dX6_tell_49 rfl (lv_at hl 0 rfl) ?_
        exact r_iret hx hb hr hlk hS () (by unfold tellF; rw [if_pos c_1, if_pos c_2]) (hP.sub [] rfl) (hD.sub [] (by decide) rfl) dX6_tell_50
    · have c_2 : inB yζ 0 9 = false := bI_0 c_2
      refine lv_iload_n hx hb dX6_tell_14 rfl (lv_at hl 2 rfl) ?_
      refine lv_iconst (v := (-1)) hx hb dX6_tell_15 (by decide) ?_
      refine lv_icmp_eq (tgt := 21) hx hb dX6_tell_16 (by decide) (fun c_4 => ?_) (fun c_4 => ?_)
      · obtain ⟨iζ, hiζ, eiζ⟩ := inB_nat (N := 10) (by decide) c_1
        have hl : lv_has ls 4 [(0, .ref hζ), (1, .int (nI iζ)), (2, .int yζ)] := by first | exact hl | (rw [← (eiζ : xζ = nI iζ)]; exact hl)
        refine lv_aload_n hx hb dX6_tell_21 rfl (lv_at hl 0 rfl) ?_
        refine va_get (D := g.1) (ci := 6) (v := .ref (Qζ 0)) (C := RX6) (T := TX6) (N := 8) hx hb hts hi6 hown hK hP 0 rfl rfl 0 (by decide) (hts (.fieldLink RX6 12 "PanTales" "close" "LPanTales$Close;") (by decide +kernel)) (fun _ h9 => h9) rfl dX6_tell_22 ?_
        refine lv_iload_n hx hb dX6_tell_25 rfl (lv_at hl 1 rfl) ?_
        refine gcV_i (As := [.int (nI iζ)]) (rest := []) (ci := 1) (q := (RX1, TX1, 12)) F hK hN hP hD hS hA (c_X1_beliefOf l g H.size (Qζ 0) Aζ iC0 (fun _ => (-6)) iζ (by omega)) gX6_tell_X1_beliefOf kX1_beliefOf rfl rfl rfl rfl ⟨(Nat.le_of_ble_eq_true rfl), (Nat.le_of_ble_eq_true rfl)⟩ [1, 2] [0] rfl rfl rfl (by decide) rfl rfl rfl rfl rfl hl.1 (Nat.le_of_ble_eq_true rfl) dX6_tell_26 ⟨(Nat.le_of_ble_eq_true rfl), (Nat.le_of_ble_eq_true rfl)⟩ (fun r_w u_w H locs hw hP hD hS => ?_)
        have hP : va_P g.1 vwCl [(hζ, .inr (6, [.ref (Qζ 0), .ref (Qζ 1), .ref (Qζ 2), .ref (Qζ 3), .ref (Qζ 4), .ref (Qζ 5), .ref (Qζ 6), .ref (Qζ 7)])), ((Qζ 0), .inr (1, oC Aζ iC0)), aI g (Aζ 3) 10 (fun _ => (-6))] H := hP
        have hD : va_D Z [(hζ, .inr (6, [.ref (Qζ 0), .ref (Qζ 1), .ref (Qζ 2), .ref (Qζ 3), .ref (Qζ 4), .ref (Qζ 5), .ref (Qζ 6), .ref (Qζ 7)])), ((Qζ 0), .inr (1, oC Aζ iC0)), aI g (Aζ 3) 10 (fun _ => (-6))] := hD
        obtain rfl := hw
        refine gtop (y := (-6)) rfl ?_
        refine lv_istore_n (lv' := [(3, .int (-6)), (0, .ref hζ), (1, .int (nI iζ)), (2, .int yζ)]) hx hb dX6_tell_29 rfl hl (by decide) rfl (fun ls hl => ?_)
        refine lv_aload_n hx hb dX6_tell_30 rfl (lv_at hl 1 rfl) ?_
        refine va_get (D := g.1) (ci := 6) (v := .ref (Qζ 0)) (C := RX6) (T := TX6) (N := 8) hx hb hts hi6 hown hK hP 0 rfl rfl 0 (by decide) (hts (.fieldLink RX6 12 "PanTales" "close" "LPanTales$Close;") (by decide +kernel)) (fun _ h9 => h9) rfl dX6_tell_31 ?_
        refine lv_iload_n hx hb dX6_tell_34 rfl (lv_at hl 2 rfl) ?_
        refine lv_iload_n hx hb dX6_tell_35 rfl (lv_at hl 3 rfl) ?_
        refine lv_iconst (v := (-1)) hx hb dX6_tell_36 (by decide) ?_
        refine lv_icmp_ne (tgt := 45) hx hb dX6_tell_37 (by decide) (fun c_5 => ?_) (fun c_5 => ?_)
        · refine lv_iload_n hx hb dX6_tell_45 rfl (lv_at hl 3 rfl) ?_
          refine gcV_v (As := [.int (nI iζ), .int yζ]) (rest := []) (ci := 1) (q := (RX1, TX1, 12)) F hK hN hP hD hS hA (c_X1_convince l g H.size (Qζ 0) Aζ iC0 (fun _ => (-6)) iζ yζ (by omega)) gX6_tell_X1_convince kX1_convince rfl rfl rfl rfl ⟨(Nat.le_of_ble_eq_true rfl), (Nat.le_of_ble_eq_true rfl)⟩ [1, 2] [0] rfl rfl rfl (by decide) rfl rfl rfl rfl rfl hl.1 (Nat.le_of_ble_eq_true rfl) dX6_tell_46 ⟨(Nat.le_of_ble_eq_true rfl), (Nat.le_of_ble_eq_true rfl)⟩ (fun u_w H locs hw hP hD hS => ?_)
          have hP : va_P g.1 vwCl [(hζ, .inr (6, [.ref (Qζ 0), .ref (Qζ 1), .ref (Qζ 2), .ref (Qζ 3), .ref (Qζ 4), .ref (Qζ 5), .ref (Qζ 6), .ref (Qζ 7)]))] H := hP
          have hD : va_D Z [(hζ, .inr (6, [.ref (Qζ 0), .ref (Qζ 1), .ref (Qζ 2), .ref (Qζ 3), .ref (Qζ 4), .ref (Qζ 5), .ref (Qζ 6), .ref (Qζ 7)]))] := hD
          refine lv_iload_n hx hb dX6_tell_49 rfl (lv_at hl 0 rfl) ?_
          exact r_iret hx hb hr hlk hS () (by unfold tellF; rw [if_pos c_1, if_neg (bF c_2), if_pos c_4]) (hP.sub [] rfl) (hD.sub [] (by decide) rfl) dX6_tell_50
        · refine lv_bipush (v := (-6)) hx hb dX6_tell_40 (by decide) ?_
          refine lv_goto (tgt := 46) hx hb dX6_tell_42 (by decide) ?_
          refine gcV_v (As := [.int (nI iζ), .int (-6)]) (rest := []) (ci := 1) (q := (RX1, TX1, 12)) F hK hN hP hD hS hA (c_X1_convince l g H.size (Qζ 0) Aζ iC0 (fun _ => (-6)) iζ (-6) (by omega)) gX6_tell_X1_convince kX1_convince rfl rfl rfl rfl ⟨(Nat.le_of_ble_eq_true rfl), (Nat.le_of_ble_eq_true rfl)⟩ [1, 2] [0] rfl rfl rfl (by decide) rfl rfl rfl rfl rfl hl.1 (Nat.le_of_ble_eq_true rfl) dX6_tell_46 ⟨(Nat.le_of_ble_eq_true rfl), (Nat.le_of_ble_eq_true rfl)⟩ (fun u_w H locs hw hP hD hS => ?_)
          have hP : va_P g.1 vwCl [(hζ, .inr (6, [.ref (Qζ 0), .ref (Qζ 1), .ref (Qζ 2), .ref (Qζ 3), .ref (Qζ 4), .ref (Qζ 5), .ref (Qζ 6), .ref (Qζ 7)]))] H := hP
          have hD : va_D Z [(hζ, .inr (6, [.ref (Qζ 0), .ref (Qζ 1), .ref (Qζ 2), .ref (Qζ 3), .ref (Qζ 4), .ref (Qζ 5), .ref (Qζ 6), .ref (Qζ 7)]))] := hD
          refine lv_iload_n hx hb dX6_tell_49 rfl (lv_at hl 0 rfl) ?_
          exact r_iret hx hb hr hlk hS () (by unfold tellF; rw [if_pos c_1, if_neg (bF c_2), if_pos c_4]) (hP.sub [] rfl) (hD.sub [] (by decide) rfl) dX6_tell_50
      · refine lv_iconst (v := (-1)) hx hb dX6_tell_19 (by decide) ?_
        exact r_iret hx hb hr hlk hS () (by unfold tellF; rw [if_pos c_1, if_neg (bF c_2), if_neg c_4]) (hP.sub [] rfl) (hD.sub [] (by decide) rfl) dX6_tell_20
set_option maxHeartbeats 4000000 in
set_option maxRecDepth 100000 in
theorem c_X6_fade (l : Launch) (g : GT) (sz : Nat) (hζ : Nat) (Qζ Aζ : Nat → Nat) (xζ yζ : Int32) : Ci l yX6_fade wsX6_fade { frames := 2, cells := 0, slots := 0, locals := 42 } g sz [.ref hζ, .int xζ, .int yζ] [(hζ, .inr (6, [.ref (Qζ 0), .ref (Qζ 1), .ref (Qζ 2), .ref (Qζ 3), .ref (Qζ 4), .ref (Qζ 5), .ref (Qζ 6), .ref (Qζ 7)])), (Qζ 0, .inr (1, oC Aζ iC0)), aI g (Aζ 4) 10 (fun jζ => nI jζ)] (fadeF xζ yζ) [] := by
  refine gMet_i (cc := cX6_fade) (maxL := 4) (ret := (some .int)) (by decide) rfl (Nat.le_of_ble_eq_true rfl) ?_
  intro p e s m args below meth c Z hx hb hr F hlk hnm hK hN hA H locs hP hD hS ls hl
  have hl : lv_has ls 4 [(0, .ref hζ), (1, .int xζ), (2, .int yζ)] := hl
  have F : CallFix p m c cX6_fade 4 s args wsX6_fade RX6 := F
  have hts := F.2.2.2.2
  have hown : s.vm.findClass RX6 = some m.cls := F.2.2.2.1
  have hi6 : ∀ w ∈ u_ws RX6 TX6 8, w ∈ wsX6_fade := by decide +kernel
  refine lv_iload_n hx hb dX6_fade_0 rfl (lv_at hl 1 rfl) ?_
  refine gcP (As := [.int xζ]) (rest := []) F (c_X6_isTale l xζ) gX6_fade_X6_isTale kX6_isTale rfl rfl rfl ⟨(Nat.le_of_ble_eq_true rfl), (Nat.le_of_ble_eq_true rfl)⟩ rfl rfl hl.1 (Nat.le_of_ble_eq_true rfl) dX6_fade_1 ⟨(Nat.le_of_ble_eq_true rfl), (Nat.le_of_ble_eq_true rfl)⟩ ?_
  refine lv_if_eq (tgt := 14) hx hb dX6_fade_4 (by decide) (fun c_1 => ?_) (fun c_1 => ?_)
  · have c_1 : inB xζ 0 9 = false := bI_0 c_1
    refine lv_iconst (v := (-1)) hx hb dX6_fade_14 (by decide) ?_
    exact r_iret hx hb hr hlk hS () (by unfold fadeF; rw [if_neg (bF c_1)]) (hP.sub [] rfl) (hD.sub [] (by decide) rfl) dX6_fade_15
  · have c_1 : inB xζ 0 9 = true := bI_1 c_1
    refine lv_iload_n hx hb dX6_fade_7 rfl (lv_at hl 2 rfl) ?_
    refine gcP (As := [.int yζ]) (rest := []) F (c_X6_isTale l yζ) gX6_fade_X6_isTale kX6_isTale rfl rfl rfl ⟨(Nat.le_of_ble_eq_true rfl), (Nat.le_of_ble_eq_true rfl)⟩ rfl rfl hl.1 (Nat.le_of_ble_eq_true rfl) dX6_fade_8 ⟨(Nat.le_of_ble_eq_true rfl), (Nat.le_of_ble_eq_true rfl)⟩ ?_
    refine lv_if_ne (tgt := 16) hx hb dX6_fade_11 (by decide) (fun c_2 => ?_) (fun c_2 => ?_)
    · have c_2 : inB yζ 0 9 = true := bI_1 c_2
      refine lv_aload_n hx hb dX6_fade_16 rfl (lv_at hl 0 rfl) ?_
      refine va_get (D := g.1) (ci := 6) (v := .ref (Qζ 0)) (C := RX6) (T := TX6) (N := 8) hx hb hts hi6 hown hK hP 0 rfl rfl 0 (by decide) (hts (.fieldLink RX6 12 "PanTales" "close" "LPanTales$Close;") (by decide +kernel)) (fun _ h9 => h9) rfl dX6_fade_17 ?_
      refine lv_iload_n hx hb dX6_fade_20 rfl (lv_at hl 1 rfl) ?_
      refine gcV_i (As := [.int xζ]) (rest := []) (ci := 1) (q := (RX1, TX1, 12)) F hK hN hP hD hS hA (c_X1_fadesInto l g H.size (Qζ 0) Aζ iC0 (fun jζ => nI jζ) xζ) gX6_fade_X1_fadesInto kX1_fadesInto rfl rfl rfl rfl ⟨(Nat.le_of_ble_eq_true rfl), (Nat.le_of_ble_eq_true rfl)⟩ [1, 2] [0] rfl rfl rfl (by decide) rfl rfl rfl rfl rfl hl.1 (Nat.le_of_ble_eq_true rfl) dX6_fade_21 ⟨(Nat.le_of_ble_eq_true rfl), (Nat.le_of_ble_eq_true rfl)⟩ (fun r_w u_w H locs hw hP hD hS => ?_)
      have hP : va_P g.1 vwCl [(hζ, .inr (6, [.ref (Qζ 0), .ref (Qζ 1), .ref (Qζ 2), .ref (Qζ 3), .ref (Qζ 4), .ref (Qζ 5), .ref (Qζ 6), .ref (Qζ 7)])), ((Qζ 0), .inr (1, oC Aζ iC0)), aI g (Aζ 4) 10 (fun jζ => nI jζ)] H := hP
      have hD : va_D Z [(hζ, .inr (6, [.ref (Qζ 0), .ref (Qζ 1), .ref (Qζ 2), .ref (Qζ 3), .ref (Qζ 4), .ref (Qζ 5), .ref (Qζ 6), .ref (Qζ 7)])), ((Qζ 0), .inr (1, oC Aζ iC0)), aI g (Aζ 4) 10 (fun jζ => nI jζ)] := hD
      obtain rfl := hw
      refine gtop (y := xζ) (fdF_in c_1) ?_
      refine lv_istore_n (lv' := [(3, .int xζ), (0, .ref hζ), (1, .int xζ), (2, .int yζ)]) hx hb dX6_fade_24 rfl hl (by decide) rfl (fun ls hl => ?_)
      obtain ⟨iζ, hiζ, eiζ⟩ := inB_nat (N := 10) (by decide) c_1
      have hl : lv_has ls 4 [(3, .int xζ), (0, .ref hζ), (1, .int (nI iζ)), (2, .int yζ)] := by first | exact hl | (rw [← (eiζ : xζ = nI iζ)]; exact hl)
      refine lv_aload_n hx hb dX6_fade_25 rfl (lv_at hl 1 rfl) ?_
      refine va_get (D := g.1) (ci := 6) (v := .ref (Qζ 0)) (C := RX6) (T := TX6) (N := 8) hx hb hts hi6 hown hK hP 0 rfl rfl 0 (by decide) (hts (.fieldLink RX6 12 "PanTales" "close" "LPanTales$Close;") (by decide +kernel)) (fun _ h9 => h9) rfl dX6_fade_26 ?_
      refine lv_iload_n hx hb dX6_fade_29 rfl (lv_at hl 2 rfl) ?_
      refine lv_iload_n hx hb dX6_fade_30 rfl (lv_at hl 3 rfl) ?_
      refine gcV_v (As := [.int (nI iζ), .int yζ]) (rest := []) (ci := 1) (q := (RX1, TX1, 12)) F hK hN hP hD hS hA (c_X1_letFade l g H.size (Qζ 0) Aζ iC0 (fun jζ => nI jζ) iζ yζ (by omega)) gX6_fade_X1_letFade kX1_letFade rfl rfl rfl rfl ⟨(Nat.le_of_ble_eq_true rfl), (Nat.le_of_ble_eq_true rfl)⟩ [1, 2] [0] rfl rfl rfl (by decide) rfl rfl rfl rfl rfl hl.1 (Nat.le_of_ble_eq_true rfl) dX6_fade_31 ⟨(Nat.le_of_ble_eq_true rfl), (Nat.le_of_ble_eq_true rfl)⟩ (fun u_w H locs hw hP hD hS => ?_)
      have hP : va_P g.1 vwCl [(hζ, .inr (6, [.ref (Qζ 0), .ref (Qζ 1), .ref (Qζ 2), .ref (Qζ 3), .ref (Qζ 4), .ref (Qζ 5), .ref (Qζ 6), .ref (Qζ 7)]))] H := hP
      have hD : va_D Z [(hζ, .inr (6, [.ref (Qζ 0), .ref (Qζ 1), .ref (Qζ 2), .ref (Qζ 3), .ref (Qζ 4), .ref (Qζ 5), .ref (Qζ 6), .ref (Qζ 7)]))] := hD
      refine lv_iload_n hx hb dX6_fade_34 rfl (lv_at hl 0 rfl) ?_
      exact r_iret hx hb hr hlk hS () (by unfold fadeF; rw [if_pos c_1, if_pos c_2]) (hP.sub [] rfl) (hD.sub [] (by decide) rfl) dX6_fade_35
    · have c_2 : inB yζ 0 9 = false := bI_0 c_2
      refine lv_iconst (v := (-1)) hx hb dX6_fade_14 (by decide) ?_
      exact r_iret hx hb hr hlk hS () (by unfold fadeF; rw [if_pos c_1, if_neg (bF c_2)]) (hP.sub [] rfl) (hD.sub [] (by decide) rfl) dX6_fade_15
set_option maxHeartbeats 4000000 in
set_option maxRecDepth 100000 in
theorem c_X6_say (l : Launch) (g : GT) (sz : Nat) (hζ : Nat) (Qζ Aζ : Nat → Nat) (qζ : Nat) (xζ : Int32) : Ci l yX6_say wsX6_say { frames := 2, cells := 0, slots := 0, locals := 43 } g sz [.ref hζ, .int xζ] [(hζ, .inr (6, [.ref (Qζ 0), .ref (Qζ 1), .ref (Qζ 2), .ref (Qζ 3), .ref (Qζ 4), .ref (Qζ 5), .ref (Qζ 6), .ref (Qζ 7)])), (Qζ 3, .inr (3, [.ref qζ, .int 0])), aI g qζ 60 (fun _ => 0)] (sayF xζ) [] := by
  refine gMet_i (cc := cX6_say) (maxL := 2) (ret := (some .int)) (by decide) rfl (Nat.le_of_ble_eq_true rfl) ?_
  intro p e s m args below meth c Z hx hb hr F hlk hnm hK hN hA H locs hP hD hS ls hl
  have hl : lv_has ls 2 [(0, .ref hζ), (1, .int xζ)] := hl
  have F : CallFix p m c cX6_say 2 s args wsX6_say RX6 := F
  have hts := F.2.2.2.2
  have hown : s.vm.findClass RX6 = some m.cls := F.2.2.2.1
  have hi6 : ∀ w ∈ u_ws RX6 TX6 8, w ∈ wsX6_say := by decide +kernel
  refine lv_iload_n hx hb dX6_say_0 rfl (lv_at hl 1 rfl) ?_
  refine lv_bipush (v := 33) hx hb dX6_say_1 (by decide) ?_
  refine lv_bipush (v := 126) hx hb dX6_say_3 (by decide) ?_
  refine gcP (As := [.int xζ, .int 33, .int 126]) (rest := []) F (c_X6_within l xζ 33 126) gX6_say_X6_within kX6_within rfl rfl rfl ⟨(Nat.le_of_ble_eq_true rfl), (Nat.le_of_ble_eq_true rfl)⟩ rfl rfl hl.1 (Nat.le_of_ble_eq_true rfl) dX6_say_5 ⟨(Nat.le_of_ble_eq_true rfl), (Nat.le_of_ble_eq_true rfl)⟩ ?_
  refine lv_if_ne (tgt := 14) hx hb dX6_say_8 (by decide) (fun c_1 => ?_) (fun c_1 => ?_)
  · have c_1 : inB xζ 33 126 = true := bI_1 c_1
    refine lv_aload_n hx hb dX6_say_14 rfl (lv_at hl 0 rfl) ?_
    refine va_get (D := g.1) (ci := 6) (v := .ref (Qζ 3)) (C := RX6) (T := TX6) (N := 8) hx hb hts hi6 hown hK hP 0 rfl rfl 3 (by decide) (hts (.fieldLink RX6 26 "PanTales" "pad" "LPanTales$Pad;") (by decide +kernel)) (fun _ h9 => h9) rfl dX6_say_15 ?_
    refine lv_iload_n hx hb dX6_say_18 rfl (lv_at hl 1 rfl) ?_
    refine gcV_i (As := [.int xζ]) (rest := []) (ci := 3) (q := (RX3, TX3, 2)) F hK hN hP hD hS hA (c_X3_add l g H.size (Qζ 3) qζ xζ (fun _ => 0)) gX6_say_X3_add kX3_add rfl rfl rfl rfl ⟨(Nat.le_of_ble_eq_true rfl), (Nat.le_of_ble_eq_true rfl)⟩ [1, 2] [0] rfl rfl rfl (by decide) rfl rfl rfl rfl rfl hl.1 (Nat.le_of_ble_eq_true rfl) dX6_say_19 ⟨(Nat.le_of_ble_eq_true rfl), (Nat.le_of_ble_eq_true rfl)⟩ (fun r_w u_w H locs hw hP hD hS => ?_)
    have hP : va_P g.1 vwCl [(hζ, .inr (6, [.ref (Qζ 0), .ref (Qζ 1), .ref (Qζ 2), .ref (Qζ 3), .ref (Qζ 4), .ref (Qζ 5), .ref (Qζ 6), .ref (Qζ 7)])), ((Qζ 3), .inr (3, [.ref qζ, .int 1]))] H := hP
    have hD : va_D Z [(hζ, .inr (6, [.ref (Qζ 0), .ref (Qζ 1), .ref (Qζ 2), .ref (Qζ 3), .ref (Qζ 4), .ref (Qζ 5), .ref (Qζ 6), .ref (Qζ 7)])), ((Qζ 3), .inr (3, [.ref qζ, .int 1]))] := hD
    obtain rfl := hw
    refine lv_if_eq (tgt := 35) hx hb dX6_say_22 (by decide) (fun c_2 => ?_) (fun c_2 => ?_)
    · exact absurd c_2 (by decide)
    · have c_2 : true = true := bI_1 c_2
      refine lv_aload_n hx hb dX6_say_25 rfl (lv_at hl 0 rfl) ?_
      refine va_get (D := g.1) (ci := 6) (v := .ref (Qζ 3)) (C := RX6) (T := TX6) (N := 8) hx hb hts hi6 hown hK hP 0 rfl rfl 3 (by decide) (hts (.fieldLink RX6 26 "PanTales" "pad" "LPanTales$Pad;") (by decide +kernel)) (fun _ h9 => h9) rfl dX6_say_26 ?_
      refine gcV_i (As := []) (rest := []) (ci := 3) (q := (RX3, TX3, 2)) F hK hN hP hD hS hA (c_X3_size l g H.size (Qζ 3) qζ 1) gX6_say_X3_size kX3_size rfl rfl rfl rfl ⟨(Nat.le_of_ble_eq_true rfl), (Nat.le_of_ble_eq_true rfl)⟩ [1] [0] rfl rfl rfl (by decide) rfl rfl rfl rfl rfl hl.1 (Nat.le_of_ble_eq_true rfl) dX6_say_29 ⟨(Nat.le_of_ble_eq_true rfl), (Nat.le_of_ble_eq_true rfl)⟩ (fun r_w u_w H locs hw hP hD hS => ?_)
      have hP : va_P g.1 vwCl [(hζ, .inr (6, [.ref (Qζ 0), .ref (Qζ 1), .ref (Qζ 2), .ref (Qζ 3), .ref (Qζ 4), .ref (Qζ 5), .ref (Qζ 6), .ref (Qζ 7)])), ((Qζ 3), .inr (3, [.ref qζ, .int 1]))] H := hP
      have hD : va_D Z [(hζ, .inr (6, [.ref (Qζ 0), .ref (Qζ 1), .ref (Qζ 2), .ref (Qζ 3), .ref (Qζ 4), .ref (Qζ 5), .ref (Qζ 6), .ref (Qζ 7)])), ((Qζ 3), .inr (3, [.ref qζ, .int 1]))] := hD
      obtain rfl := hw
      refine lv_goto (tgt := 37) hx hb dX6_say_32 (by decide) ?_
      exact r_iret hx hb hr hlk hS () (by unfold sayF; rw [if_pos c_1]) (hP.sub [] rfl) (hD.sub [] (by decide) rfl) dX6_say_37
  · have c_1 : inB xζ 33 126 = false := bI_0 c_1
    refine lv_bipush (v := (-2)) hx hb dX6_say_11 (by decide) ?_
    exact r_iret hx hb hr hlk hS () (by unfold sayF; rw [if_neg (bF c_1)]) (hP.sub [] rfl) (hD.sub [] (by decide) rfl) dX6_say_13
set_option maxHeartbeats 4000000 in
set_option maxRecDepth 100000 in
theorem c_X6_wipe (l : Launch) (g : GT) (sz : Nat) (hζ : Nat) (Qζ Aζ : Nat → Nat) (qζ : Nat) : Ci l yX6_wipe wsX6_wipe { frames := 1, cells := 0, slots := 0, locals := 20 } g sz [.ref hζ] [(hζ, .inr (6, [.ref (Qζ 0), .ref (Qζ 1), .ref (Qζ 2), .ref (Qζ 3), .ref (Qζ 4), .ref (Qζ 5), .ref (Qζ 6), .ref (Qζ 7)])), (Qζ 3, .inr (3, [.ref qζ, .int 0]))] 0 [] := by
  refine gMet_i (cc := cX6_wipe) (maxL := 2) (ret := (some .int)) (by decide) rfl (Nat.le_of_ble_eq_true rfl) ?_
  intro p e s m args below meth c Z hx hb hr F hlk hnm hK hN hA H locs hP hD hS ls hl
  have hl : lv_has ls 2 [(0, .ref hζ)] := hl
  have F : CallFix p m c cX6_wipe 2 s args wsX6_wipe RX6 := F
  have hts := F.2.2.2.2
  have hown : s.vm.findClass RX6 = some m.cls := F.2.2.2.1
  have hi6 : ∀ w ∈ u_ws RX6 TX6 8, w ∈ wsX6_wipe := by decide +kernel
  refine lv_aload_n hx hb dX6_wipe_0 rfl (lv_at hl 0 rfl) ?_
  refine va_get (D := g.1) (ci := 6) (v := .ref (Qζ 3)) (C := RX6) (T := TX6) (N := 8) hx hb hts hi6 hown hK hP 0 rfl rfl 3 (by decide) (hts (.fieldLink RX6 26 "PanTales" "pad" "LPanTales$Pad;") (by decide +kernel)) (fun _ h9 => h9) rfl dX6_wipe_1 ?_
  refine gcV_i (As := []) (rest := []) (ci := 3) (q := (RX3, TX3, 2)) F hK hN hP hD hS hA (c_X3_size l g H.size (Qζ 3) qζ 0) gX6_wipe_X3_size kX3_size rfl rfl rfl rfl ⟨(Nat.le_of_ble_eq_true rfl), (Nat.le_of_ble_eq_true rfl)⟩ [1] [0] rfl rfl rfl (by decide) rfl rfl rfl rfl rfl hl.1 (Nat.le_of_ble_eq_true rfl) dX6_wipe_4 ⟨(Nat.le_of_ble_eq_true rfl), (Nat.le_of_ble_eq_true rfl)⟩ (fun r_w u_w H locs hw hP hD hS => ?_)
  have hP : va_P g.1 vwCl [(hζ, .inr (6, [.ref (Qζ 0), .ref (Qζ 1), .ref (Qζ 2), .ref (Qζ 3), .ref (Qζ 4), .ref (Qζ 5), .ref (Qζ 6), .ref (Qζ 7)])), ((Qζ 3), .inr (3, [.ref qζ, .int 0]))] H := hP
  have hD : va_D Z [(hζ, .inr (6, [.ref (Qζ 0), .ref (Qζ 1), .ref (Qζ 2), .ref (Qζ 3), .ref (Qζ 4), .ref (Qζ 5), .ref (Qζ 6), .ref (Qζ 7)])), ((Qζ 3), .inr (3, [.ref qζ, .int 0]))] := hD
  obtain rfl := hw
  refine lv_istore_n (lv' := [(1, .int 0), (0, .ref hζ)]) hx hb dX6_wipe_7 rfl hl (by decide) rfl (fun ls hl => ?_)
  refine lv_aload_n hx hb dX6_wipe_8 rfl (lv_at hl 1 rfl) ?_
  refine va_get (D := g.1) (ci := 6) (v := .ref (Qζ 3)) (C := RX6) (T := TX6) (N := 8) hx hb hts hi6 hown hK hP 0 rfl rfl 3 (by decide) (hts (.fieldLink RX6 26 "PanTales" "pad" "LPanTales$Pad;") (by decide +kernel)) (fun _ h9 => h9) rfl dX6_wipe_9 ?_
  refine gcV_v (As := []) (rest := []) (ci := 3) (q := (RX3, TX3, 2)) F hK hN hP hD hS hA (c_X3_clear l g H.size (Qζ 3) qζ 0) gX6_wipe_X3_clear kX3_clear rfl rfl rfl rfl ⟨(Nat.le_of_ble_eq_true rfl), (Nat.le_of_ble_eq_true rfl)⟩ [1] [0] rfl rfl rfl (by decide) rfl rfl rfl rfl rfl hl.1 (Nat.le_of_ble_eq_true rfl) dX6_wipe_12 ⟨(Nat.le_of_ble_eq_true rfl), (Nat.le_of_ble_eq_true rfl)⟩ (fun u_w H locs hw hP hD hS => ?_)
  have hP : va_P g.1 vwCl [(hζ, .inr (6, [.ref (Qζ 0), .ref (Qζ 1), .ref (Qζ 2), .ref (Qζ 3), .ref (Qζ 4), .ref (Qζ 5), .ref (Qζ 6), .ref (Qζ 7)])), ((Qζ 3), .inr (3, [.ref qζ, .int 0]))] H := hP
  have hD : va_D Z [(hζ, .inr (6, [.ref (Qζ 0), .ref (Qζ 1), .ref (Qζ 2), .ref (Qζ 3), .ref (Qζ 4), .ref (Qζ 5), .ref (Qζ 6), .ref (Qζ 7)])), ((Qζ 3), .inr (3, [.ref qζ, .int 0]))] := hD
  refine lv_iload_n hx hb dX6_wipe_15 rfl (lv_at hl 0 rfl) ?_
  exact r_iret hx hb hr hlk hS () rfl (hP.sub [] rfl) (hD.sub [] (by decide) rfl) dX6_wipe_16
set_option maxHeartbeats 4000000 in
set_option maxRecDepth 100000 in
theorem c_X6_fault (l : Launch) (g : GT) (sz : Nat) (hζ : Nat) (Qζ Aζ : Nat → Nat) (qζ : Nat) : Ci l yX6_fault wsX6_fault { frames := 1, cells := 0, slots := 0, locals := 22 } g sz [.ref hζ] [(hζ, .inr (6, [.ref (Qζ 0), .ref (Qζ 1), .ref (Qζ 2), .ref (Qζ 3), .ref (Qζ 4), .ref (Qζ 5), .ref (Qζ 6), .ref (Qζ 7)])), (Qζ 3, .inr (3, [.ref qζ, .int 0]))] (-6) [] := by
  refine gMet_i (cc := cX6_fault) (maxL := 1) (ret := (some .int)) (by decide) rfl (Nat.le_of_ble_eq_true rfl) ?_
  intro p e s m args below meth c Z hx hb hr F hlk hnm hK hN hA H locs hP hD hS ls hl
  have hl : lv_has ls 1 [(0, .ref hζ)] := hl
  have F : CallFix p m c cX6_fault 1 s args wsX6_fault RX6 := F
  have hts := F.2.2.2.2
  have hown : s.vm.findClass RX6 = some m.cls := F.2.2.2.1
  have hi6 : ∀ w ∈ u_ws RX6 TX6 8, w ∈ wsX6_fault := by decide +kernel
  refine lv_aload_n hx hb dX6_fault_0 rfl (lv_at hl 0 rfl) ?_
  refine va_get (D := g.1) (ci := 6) (v := .ref (Qζ 3)) (C := RX6) (T := TX6) (N := 8) hx hb hts hi6 hown hK hP 0 rfl rfl 3 (by decide) (hts (.fieldLink RX6 26 "PanTales" "pad" "LPanTales$Pad;") (by decide +kernel)) (fun _ h9 => h9) rfl dX6_fault_1 ?_
  refine gcV_i (As := []) (rest := []) (ci := 3) (q := (RX3, TX3, 2)) F hK hN hP hD hS hA (c_X3_faultPlace l g H.size (Qζ 3) qζ) gX6_fault_X3_faultPlace kX3_faultPlace rfl rfl rfl rfl ⟨(Nat.le_of_ble_eq_true rfl), (Nat.le_of_ble_eq_true rfl)⟩ [1] [0] rfl rfl rfl (by decide) rfl rfl rfl rfl rfl hl.1 (Nat.le_of_ble_eq_true rfl) dX6_fault_4 ⟨(Nat.le_of_ble_eq_true rfl), (Nat.le_of_ble_eq_true rfl)⟩ (fun r_w u_w H locs hw hP hD hS => ?_)
  have hP : va_P g.1 vwCl [(hζ, .inr (6, [.ref (Qζ 0), .ref (Qζ 1), .ref (Qζ 2), .ref (Qζ 3), .ref (Qζ 4), .ref (Qζ 5), .ref (Qζ 6), .ref (Qζ 7)])), ((Qζ 3), .inr (3, [.ref qζ, .int 0]))] H := hP
  have hD : va_D Z [(hζ, .inr (6, [.ref (Qζ 0), .ref (Qζ 1), .ref (Qζ 2), .ref (Qζ 3), .ref (Qζ 4), .ref (Qζ 5), .ref (Qζ 6), .ref (Qζ 7)])), ((Qζ 3), .inr (3, [.ref qζ, .int 0]))] := hD
  obtain rfl := hw
  exact r_iret hx hb hr hlk hS () rfl (hP.sub [] rfl) (hD.sub [] (by decide) rfl) dX6_fault_7
set_option maxHeartbeats 4000000 in
set_option maxRecDepth 100000 in
theorem c_X6_judge (l : Launch) (g : GT) (sz : Nat) (hζ : Nat) (Qζ Aζ : Nat → Nat) (qζ : Nat) (Bζ : Nat → Nat) (xζ : Int32) : Ci l yX6_judge wsX6_judge { frames := 3, cells := 0, slots := 0, locals := 127 } g sz [.ref hζ, .int xζ] [(hζ, .inr (6, [.ref (Qζ 0), .ref (Qζ 1), .ref (Qζ 2), .ref (Qζ 3), .ref (Qζ 4), .ref (Qζ 5), .ref (Qζ 6), .ref (Qζ 7)])), (Qζ 4, .inr (2, [.int 0, .int 0, .int 0, .int 0, .int 0, .int 0])), (Qζ 3, .inr (3, [.ref qζ, .int 0])), (Qζ 1, .inr (1, oC Bζ iC0)), aI g (Bζ 0) 121 (fun _ => 0), aI g (Bζ 1) 10 (fun _ => 5), aI g (Bζ 2) 10 (fun _ => 0), aI g (Bζ 3) 10 (fun _ => (-6)), aI g (Bζ 4) 10 (fun jζ => nI jζ), aI g (Bζ 5) 8 (fun _ => 0), aI g (Bζ 6) 8 (fun _ => 0), (Qζ 0, .inr (1, oC Aζ iC0)), aI g (Aζ 0) 121 (fun _ => 0), aI g (Aζ 1) 10 (fun _ => 5), aI g (Aζ 2) 10 (fun _ => 0), aI g (Aζ 3) 10 (fun _ => (-6)), aI g (Aζ 4) 10 (fun jζ => nI jζ), aI g (Aζ 5) 8 (fun _ => 0), aI g (Aζ 6) 8 (fun _ => 0)] (judgeF xζ) [] := by
  refine gMet_i (cc := cX6_judge) (maxL := 3) (ret := (some .int)) (by decide) rfl (Nat.le_of_ble_eq_true rfl) ?_
  intro p e s m args below meth c Z hx hb hr F hlk hnm hK hN hA H locs hP hD hS ls hl
  have hl : lv_has ls 3 [(0, .ref hζ), (1, .int xζ)] := hl
  have F : CallFix p m c cX6_judge 3 s args wsX6_judge RX6 := F
  have hts := F.2.2.2.2
  have hown : s.vm.findClass RX6 = some m.cls := F.2.2.2.1
  have hi2 : ∀ w ∈ u_ws RX2 TX2 6, w ∈ wsX6_judge := by decide +kernel
  have hi6 : ∀ w ∈ u_ws RX6 TX6 8, w ∈ wsX6_judge := by decide +kernel
  refine lv_iload_n hx hb dX6_judge_0 rfl (lv_at hl 1 rfl) ?_
  refine lv_iconst (v := 0) hx hb dX6_judge_1 (by decide) ?_
  refine lv_iconst (v := 2) hx hb dX6_judge_2 (by decide) ?_
  refine gcP (As := [.int xζ, .int 0, .int 2]) (rest := []) F (c_X6_within l xζ 0 2) gX6_judge_X6_within kX6_within rfl rfl rfl ⟨(Nat.le_of_ble_eq_true rfl), (Nat.le_of_ble_eq_true rfl)⟩ rfl rfl hl.1 (Nat.le_of_ble_eq_true rfl) dX6_judge_3 ⟨(Nat.le_of_ble_eq_true rfl), (Nat.le_of_ble_eq_true rfl)⟩ ?_
  refine lv_if_ne (tgt := 12) hx hb dX6_judge_6 (by decide) (fun c_1 => ?_) (fun c_1 => ?_)
  · have c_1 : inB xζ 0 2 = true := bI_1 c_1
    refine lv_aload_n hx hb dX6_judge_12 rfl (lv_at hl 0 rfl) ?_
    refine va_get (D := g.1) (ci := 6) (v := .ref (Qζ 4)) (C := RX6) (T := TX6) (N := 8) hx hb hts hi6 hown hK hP 0 rfl rfl 4 (by decide) (hts (.fieldLink RX6 33 "PanTales" "night" "LPanTales$Night;") (by decide +kernel)) (fun _ h9 => h9) rfl dX6_judge_13 ?_
    refine lv_aload_n hx hb dX6_judge_16 rfl (lv_at hl 0 rfl) ?_
    refine va_get (D := g.1) (ci := 6) (v := .ref (Qζ 3)) (C := RX6) (T := TX6) (N := 8) hx hb hts hi6 hown hK hP 0 rfl rfl 3 (by decide) (hts (.fieldLink RX6 26 "PanTales" "pad" "LPanTales$Pad;") (by decide +kernel)) (fun _ h9 => h9) rfl dX6_judge_17 ?_
    refine lv_aload_n hx hb dX6_judge_20 rfl (lv_at hl 0 rfl) ?_
    refine va_get (D := g.1) (ci := 6) (v := .ref (Qζ 1)) (C := RX6) (T := TX6) (N := 8) hx hb hts hi6 hown hK hP 0 rfl rfl 1 (by decide) (hts (.fieldLink RX6 16 "PanTales" "draft" "LPanTales$Close;") (by decide +kernel)) (fun _ h9 => h9) rfl dX6_judge_21 ?_
    refine lv_aload_n hx hb dX6_judge_24 rfl (lv_at hl 0 rfl) ?_
    refine va_get (D := g.1) (ci := 6) (v := .ref (Qζ 0)) (C := RX6) (T := TX6) (N := 8) hx hb hts hi6 hown hK hP 0 rfl rfl 0 (by decide) (hts (.fieldLink RX6 12 "PanTales" "close" "LPanTales$Close;") (by decide +kernel)) (fun _ h9 => h9) rfl dX6_judge_25 ?_
    refine gcV_i (As := [.ref (Qζ 3), .ref (Qζ 1), .ref (Qζ 0)]) (rest := []) (ci := 2) (q := (RX2, TX2, 6)) F hK hN hP hD hS hA (c_X2_pass l g H.size (Qζ 4) (Qζ 3) (Qζ 1) (Qζ 0) qζ 0 0 0 0 0 0 Bζ iC0 Aζ iC0 (fun _ => 0) (fun _ => 5) (fun _ => 0) (fun _ => (-6)) (fun jζ => nI jζ) (fun _ => 0) (fun _ => 0) (fun _ => 0) (fun _ => 5) (fun _ => 0) (fun _ => (-6)) (fun jζ => nI jζ) (fun _ => 0) (fun _ => 0)) gX6_judge_X2_pass kX2_pass rfl rfl rfl rfl ⟨(Nat.le_of_ble_eq_true rfl), (Nat.le_of_ble_eq_true rfl)⟩ [1, 2, 3, 4, 5, 6, 7, 8, 9, 10, 11, 12, 13, 14, 15, 16, 17, 18] [0] rfl rfl rfl (by decide) rfl rfl rfl rfl rfl hl.1 (Nat.le_of_ble_eq_true rfl) dX6_judge_28 ⟨(Nat.le_of_ble_eq_true rfl), (Nat.le_of_ble_eq_true rfl)⟩ (fun r_w u_w H locs hw hP hD hS => ?_)
    have hP : va_P g.1 vwCl [(hζ, .inr (6, [.ref (Qζ 0), .ref (Qζ 1), .ref (Qζ 2), .ref (Qζ 3), .ref (Qζ 4), .ref (Qζ 5), .ref (Qζ 6), .ref (Qζ 7)])), ((Qζ 4), .inr (2, [.int 0, .int 0, .int (-6), .int (-6), .int (-6), .int (-6)])), ((Qζ 3), .inr (3, [.ref qζ, .int 0])), ((Qζ 1), .inr (1, oC Bζ iC0)), aI g (Bζ 0) 121 (fun _ => 0), aI g (Bζ 1) 10 (fun _ => 5), aI g (Bζ 2) 10 (fun _ => 0), aI g (Bζ 3) 10 (fun _ => (-6)), aI g (Bζ 4) 10 (fun jζ => nI jζ), aI g (Bζ 5) 8 (fun _ => 0), aI g (Bζ 6) 8 (fun _ => 0), ((Qζ 0), .inr (1, oC Aζ iC0)), aI g (Aζ 0) 121 (fun _ => 0), aI g (Aζ 1) 10 (fun _ => 5), aI g (Aζ 2) 10 (fun _ => 0), aI g (Aζ 3) 10 (fun _ => (-6)), aI g (Aζ 4) 10 (fun jζ => nI jζ), aI g (Aζ 5) 8 (fun _ => 0), aI g (Aζ 6) 8 (fun _ => 0)] H := hP
    have hD : va_D Z [(hζ, .inr (6, [.ref (Qζ 0), .ref (Qζ 1), .ref (Qζ 2), .ref (Qζ 3), .ref (Qζ 4), .ref (Qζ 5), .ref (Qζ 6), .ref (Qζ 7)])), ((Qζ 4), .inr (2, [.int 0, .int 0, .int (-6), .int (-6), .int (-6), .int (-6)])), ((Qζ 3), .inr (3, [.ref qζ, .int 0])), ((Qζ 1), .inr (1, oC Bζ iC0)), aI g (Bζ 0) 121 (fun _ => 0), aI g (Bζ 1) 10 (fun _ => 5), aI g (Bζ 2) 10 (fun _ => 0), aI g (Bζ 3) 10 (fun _ => (-6)), aI g (Bζ 4) 10 (fun jζ => nI jζ), aI g (Bζ 5) 8 (fun _ => 0), aI g (Bζ 6) 8 (fun _ => 0), ((Qζ 0), .inr (1, oC Aζ iC0)), aI g (Aζ 0) 121 (fun _ => 0), aI g (Aζ 1) 10 (fun _ => 5), aI g (Aζ 2) 10 (fun _ => 0), aI g (Aζ 3) 10 (fun _ => (-6)), aI g (Aζ 4) 10 (fun jζ => nI jζ), aI g (Aζ 5) 8 (fun _ => 0), aI g (Aζ 6) 8 (fun _ => 0)] := hD
    obtain rfl := hw
    refine lv_istore_n (lv' := [(2, .int 0), (0, .ref hζ), (1, .int xζ)]) hx hb dX6_judge_31 rfl hl (by decide) rfl (fun ls hl => ?_)
    refine lv_iload_n hx hb dX6_judge_32 rfl (lv_at hl 0 rfl) ?_
    refine lv_bipush (v := (-5)) hx hb dX6_judge_33 (by decide) ?_
    refine lv_icmp_eq (tgt := 49) hx hb dX6_judge_35 (by decide) (fun c_2 => ?_) (fun c_2 => ?_)
    · exact absurd c_2 (by decide)
    · refine lv_iload_n hx hb dX6_judge_38 rfl (lv_at hl 0 rfl) ?_
      refine lv_bipush (v := (-3)) hx hb dX6_judge_39 (by decide) ?_
      refine lv_icmp_ne (tgt := 51) hx hb dX6_judge_41 (by decide) (fun c_3 => ?_) (fun c_3 => ?_)
      · refine lv_iload_n hx hb dX6_judge_51 rfl (lv_at hl 2 rfl) ?_
        by_cases k_4 : xζ = 0
        · refine gtop (y := 0) k_4 ?_
          refine lv_lookup (tgt := 80) (off := 28) hx hb dX6_judge_52 (by decide) (by decide) (by decide) ?_
          refine lv_aload_n hx hb dX6_judge_80 rfl (lv_at hl 1 rfl) ?_
          refine va_get (D := g.1) (ci := 6) (v := .ref (Qζ 4)) (C := RX6) (T := TX6) (N := 8) hx hb hts hi6 hown hK hP 0 rfl rfl 4 (by decide) (hts (.fieldLink RX6 33 "PanTales" "night" "LPanTales$Night;") (by decide +kernel)) (fun _ h9 => h9) rfl dX6_judge_81 ?_
          refine va_getN (D := g.1) (ci := 2) (v := .int (-6)) (C := RX2) (T := TX2) (N := 6) hx hb hts hi2 hown hK hP 1 rfl rfl 2 (by decide) (va_Nw.use rfl (hN.get 20 rfl)) (fun _ h9 => h9) rfl dX6_judge_84 ?_
          exact r_iret hx hb hr hlk hS () (by unfold judgeF; rw [if_pos c_1, if_pos k_4]) (hP.sub [] rfl) (hD.sub [] (by decide) rfl) dX6_judge_87
        by_cases k_5 : xζ = 1
        · refine gtop (y := 1) k_5 ?_
          refine lv_lookup (tgt := 88) (off := 36) hx hb dX6_judge_52 (by decide) (by decide) (by decide) ?_
          refine lv_aload_n hx hb dX6_judge_88 rfl (lv_at hl 1 rfl) ?_
          refine va_get (D := g.1) (ci := 6) (v := .ref (Qζ 4)) (C := RX6) (T := TX6) (N := 8) hx hb hts hi6 hown hK hP 0 rfl rfl 4 (by decide) (hts (.fieldLink RX6 33 "PanTales" "night" "LPanTales$Night;") (by decide +kernel)) (fun _ h9 => h9) rfl dX6_judge_89 ?_
          refine va_getN (D := g.1) (ci := 2) (v := .int (-6)) (C := RX2) (T := TX2) (N := 6) hx hb hts hi2 hown hK hP 1 rfl rfl 3 (by decide) (va_Nw.use rfl (hN.get 21 rfl)) (fun _ h9 => h9) rfl dX6_judge_92 ?_
          exact r_iret hx hb hr hlk hS () (by unfold judgeF; rw [if_pos c_1, if_neg k_4, if_pos k_5]) (hP.sub [] rfl) (hD.sub [] (by decide) rfl) dX6_judge_95
        refine lv_lookup (tgt := 96) (off := 44) hx hb dX6_judge_52 (by decide) (by show (if (0 : Int) = (xζ : Int32).toInt then (28 : Int) else if (1 : Int) = (xζ : Int32).toInt then (36 : Int) else 44) = (44 : Int); rw [if_neg (sw_ne k_4 (by decide)), if_neg (sw_ne k_5 (by decide))]) (by decide) ?_
        refine lv_aload_n hx hb dX6_judge_96 rfl (lv_at hl 1 rfl) ?_
        refine va_get (D := g.1) (ci := 6) (v := .ref (Qζ 4)) (C := RX6) (T := TX6) (N := 8) hx hb hts hi6 hown hK hP 0 rfl rfl 4 (by decide) (hts (.fieldLink RX6 33 "PanTales" "night" "LPanTales$Night;") (by decide +kernel)) (fun _ h9 => h9) rfl dX6_judge_97 ?_
        refine va_getN (D := g.1) (ci := 2) (v := .int 0) (C := RX2) (T := TX2) (N := 6) hx hb hts hi2 hown hK hP 1 rfl rfl 1 (by decide) (va_Nw.use rfl (hN.get 19 rfl)) (fun _ h9 => h9) rfl dX6_judge_100 ?_
        exact r_iret hx hb hr hlk hS () (by unfold judgeF; rw [if_pos c_1, if_neg k_4, if_neg k_5]) (hP.sub [] rfl) (hD.sub [] (by decide) rfl) dX6_judge_103
      · exact absurd c_3 (by decide)
  · have c_1 : inB xζ 0 2 = false := bI_0 c_1
    refine lv_bipush (v := (-2)) hx hb dX6_judge_9 (by decide) ?_
    exact r_iret hx hb hr hlk hS () (by unfold judgeF; rw [if_neg (bF c_1)]) (hP.sub [] rfl) (hD.sub [] (by decide) rfl) dX6_judge_11
set_option maxHeartbeats 4000000 in
set_option maxRecDepth 100000 in
theorem c_X6_behind (l : Launch) (g : GT) (sz : Nat) (hζ : Nat) (Qζ Aζ : Nat → Nat) (qζ : Nat) (Bζ : Nat → Nat) (xζ yζ : Int32) : Ci l yX6_behind wsX6_behind { frames := 3, cells := 0, slots := 0, locals := 127 } g sz [.ref hζ, .int xζ, .int yζ] [(hζ, .inr (6, [.ref (Qζ 0), .ref (Qζ 1), .ref (Qζ 2), .ref (Qζ 3), .ref (Qζ 4), .ref (Qζ 5), .ref (Qζ 6), .ref (Qζ 7)])), (Qζ 4, .inr (2, [.int 0, .int 0, .int 0, .int 0, .int 0, .int 0])), (Qζ 3, .inr (3, [.ref qζ, .int 0])), (Qζ 1, .inr (1, oC Bζ iC0)), aI g (Bζ 0) 121 (fun _ => 0), aI g (Bζ 1) 10 (fun _ => 5), aI g (Bζ 2) 10 (fun _ => 0), aI g (Bζ 3) 10 (fun _ => (-6)), aI g (Bζ 4) 10 (fun jζ => nI jζ), aI g (Bζ 5) 8 (fun _ => 0), aI g (Bζ 6) 8 (fun _ => 0), (Qζ 0, .inr (1, oC Aζ iC0)), aI g (Aζ 0) 121 (fun _ => 0), aI g (Aζ 1) 10 (fun _ => 5), aI g (Aζ 2) 10 (fun _ => 0), aI g (Aζ 3) 10 (fun _ => (-6)), aI g (Aζ 4) 10 (fun jζ => nI jζ), aI g (Aζ 5) 8 (fun _ => 0), aI g (Aζ 6) 8 (fun _ => 0)] (behindF xζ yζ) [] := by
  refine gMet_i (cc := cX6_behind) (maxL := 4) (ret := (some .int)) (by decide) rfl (Nat.le_of_ble_eq_true rfl) ?_
  intro p e s m args below meth c Z hx hb hr F hlk hnm hK hN hA H locs hP hD hS ls hl
  have hl : lv_has ls 4 [(0, .ref hζ), (1, .int xζ), (2, .int yζ)] := hl
  have F : CallFix p m c cX6_behind 4 s args wsX6_behind RX6 := F
  have hts := F.2.2.2.2
  have hown : s.vm.findClass RX6 = some m.cls := F.2.2.2.1
  have hi6 : ∀ w ∈ u_ws RX6 TX6 8, w ∈ wsX6_behind := by decide +kernel
  refine lv_iload_n hx hb dX6_behind_0 rfl (lv_at hl 1 rfl) ?_
  refine gcP (As := [.int xζ]) (rest := []) F (c_X6_isHouse l xζ) gX6_behind_X6_isHouse kX6_isHouse rfl rfl rfl ⟨(Nat.le_of_ble_eq_true rfl), (Nat.le_of_ble_eq_true rfl)⟩ rfl rfl hl.1 (Nat.le_of_ble_eq_true rfl) dX6_behind_1 ⟨(Nat.le_of_ble_eq_true rfl), (Nat.le_of_ble_eq_true rfl)⟩ ?_
  refine lv_if_ne (tgt := 9) hx hb dX6_behind_4 (by decide) (fun c_1 => ?_) (fun c_1 => ?_)
  · have c_1 : inB xζ 0 9 = true := bI_1 c_1
    refine lv_iload_n hx hb dX6_behind_9 rfl (lv_at hl 2 rfl) ?_
    refine lv_iconst (v := 0) hx hb dX6_behind_10 (by decide) ?_
    refine lv_iconst (v := 2) hx hb dX6_behind_11 (by decide) ?_
    refine gcP (As := [.int yζ, .int 0, .int 2]) (rest := []) F (c_X6_within l yζ 0 2) gX6_behind_X6_within kX6_within rfl rfl rfl ⟨(Nat.le_of_ble_eq_true rfl), (Nat.le_of_ble_eq_true rfl)⟩ rfl rfl hl.1 (Nat.le_of_ble_eq_true rfl) dX6_behind_12 ⟨(Nat.le_of_ble_eq_true rfl), (Nat.le_of_ble_eq_true rfl)⟩ ?_
    refine lv_if_ne (tgt := 21) hx hb dX6_behind_15 (by decide) (fun c_2 => ?_) (fun c_2 => ?_)
    · have c_2 : inB yζ 0 2 = true := bI_1 c_2
      refine lv_aload_n hx hb dX6_behind_21 rfl (lv_at hl 0 rfl) ?_
      refine va_get (D := g.1) (ci := 6) (v := .ref (Qζ 4)) (C := RX6) (T := TX6) (N := 8) hx hb hts hi6 hown hK hP 0 rfl rfl 4 (by decide) (hts (.fieldLink RX6 33 "PanTales" "night" "LPanTales$Night;") (by decide +kernel)) (fun _ h9 => h9) rfl dX6_behind_22 ?_
      refine lv_aload_n hx hb dX6_behind_25 rfl (lv_at hl 0 rfl) ?_
      refine va_get (D := g.1) (ci := 6) (v := .ref (Qζ 3)) (C := RX6) (T := TX6) (N := 8) hx hb hts hi6 hown hK hP 0 rfl rfl 3 (by decide) (hts (.fieldLink RX6 26 "PanTales" "pad" "LPanTales$Pad;") (by decide +kernel)) (fun _ h9 => h9) rfl dX6_behind_26 ?_
      refine lv_aload_n hx hb dX6_behind_29 rfl (lv_at hl 0 rfl) ?_
      refine va_get (D := g.1) (ci := 6) (v := .ref (Qζ 1)) (C := RX6) (T := TX6) (N := 8) hx hb hts hi6 hown hK hP 0 rfl rfl 1 (by decide) (hts (.fieldLink RX6 16 "PanTales" "draft" "LPanTales$Close;") (by decide +kernel)) (fun _ h9 => h9) rfl dX6_behind_30 ?_
      refine lv_aload_n hx hb dX6_behind_33 rfl (lv_at hl 0 rfl) ?_
      refine va_get (D := g.1) (ci := 6) (v := .ref (Qζ 0)) (C := RX6) (T := TX6) (N := 8) hx hb hts hi6 hown hK hP 0 rfl rfl 0 (by decide) (hts (.fieldLink RX6 12 "PanTales" "close" "LPanTales$Close;") (by decide +kernel)) (fun _ h9 => h9) rfl dX6_behind_34 ?_
      refine gcV_i (As := [.ref (Qζ 3), .ref (Qζ 1), .ref (Qζ 0)]) (rest := []) (ci := 2) (q := (RX2, TX2, 6)) F hK hN hP hD hS hA (c_X2_pass l g H.size (Qζ 4) (Qζ 3) (Qζ 1) (Qζ 0) qζ 0 0 0 0 0 0 Bζ iC0 Aζ iC0 (fun _ => 0) (fun _ => 5) (fun _ => 0) (fun _ => (-6)) (fun jζ => nI jζ) (fun _ => 0) (fun _ => 0) (fun _ => 0) (fun _ => 5) (fun _ => 0) (fun _ => (-6)) (fun jζ => nI jζ) (fun _ => 0) (fun _ => 0)) gX6_behind_X2_pass kX2_pass rfl rfl rfl rfl ⟨(Nat.le_of_ble_eq_true rfl), (Nat.le_of_ble_eq_true rfl)⟩ [1, 2, 3, 4, 5, 6, 7, 8, 9, 10, 11, 12, 13, 14, 15, 16, 17, 18] [0] rfl rfl rfl (by decide) rfl rfl rfl rfl rfl hl.1 (Nat.le_of_ble_eq_true rfl) dX6_behind_37 ⟨(Nat.le_of_ble_eq_true rfl), (Nat.le_of_ble_eq_true rfl)⟩ (fun r_w u_w H locs hw hP hD hS => ?_)
      have hP : va_P g.1 vwCl [(hζ, .inr (6, [.ref (Qζ 0), .ref (Qζ 1), .ref (Qζ 2), .ref (Qζ 3), .ref (Qζ 4), .ref (Qζ 5), .ref (Qζ 6), .ref (Qζ 7)])), ((Qζ 4), .inr (2, [.int 0, .int 0, .int (-6), .int (-6), .int (-6), .int (-6)])), ((Qζ 3), .inr (3, [.ref qζ, .int 0])), ((Qζ 1), .inr (1, oC Bζ iC0)), aI g (Bζ 0) 121 (fun _ => 0), aI g (Bζ 1) 10 (fun _ => 5), aI g (Bζ 2) 10 (fun _ => 0), aI g (Bζ 3) 10 (fun _ => (-6)), aI g (Bζ 4) 10 (fun jζ => nI jζ), aI g (Bζ 5) 8 (fun _ => 0), aI g (Bζ 6) 8 (fun _ => 0), ((Qζ 0), .inr (1, oC Aζ iC0)), aI g (Aζ 0) 121 (fun _ => 0), aI g (Aζ 1) 10 (fun _ => 5), aI g (Aζ 2) 10 (fun _ => 0), aI g (Aζ 3) 10 (fun _ => (-6)), aI g (Aζ 4) 10 (fun jζ => nI jζ), aI g (Aζ 5) 8 (fun _ => 0), aI g (Aζ 6) 8 (fun _ => 0)] H := hP
      have hD : va_D Z [(hζ, .inr (6, [.ref (Qζ 0), .ref (Qζ 1), .ref (Qζ 2), .ref (Qζ 3), .ref (Qζ 4), .ref (Qζ 5), .ref (Qζ 6), .ref (Qζ 7)])), ((Qζ 4), .inr (2, [.int 0, .int 0, .int (-6), .int (-6), .int (-6), .int (-6)])), ((Qζ 3), .inr (3, [.ref qζ, .int 0])), ((Qζ 1), .inr (1, oC Bζ iC0)), aI g (Bζ 0) 121 (fun _ => 0), aI g (Bζ 1) 10 (fun _ => 5), aI g (Bζ 2) 10 (fun _ => 0), aI g (Bζ 3) 10 (fun _ => (-6)), aI g (Bζ 4) 10 (fun jζ => nI jζ), aI g (Bζ 5) 8 (fun _ => 0), aI g (Bζ 6) 8 (fun _ => 0), ((Qζ 0), .inr (1, oC Aζ iC0)), aI g (Aζ 0) 121 (fun _ => 0), aI g (Aζ 1) 10 (fun _ => 5), aI g (Aζ 2) 10 (fun _ => 0), aI g (Aζ 3) 10 (fun _ => (-6)), aI g (Aζ 4) 10 (fun jζ => nI jζ), aI g (Aζ 5) 8 (fun _ => 0), aI g (Aζ 6) 8 (fun _ => 0)] := hD
      obtain rfl := hw
      refine lv_istore_n (lv' := [(3, .int 0), (0, .ref hζ), (1, .int xζ), (2, .int yζ)]) hx hb dX6_behind_40 rfl hl (by decide) rfl (fun ls hl => ?_)
      refine lv_iload_n hx hb dX6_behind_41 rfl (lv_at hl 0 rfl) ?_
      refine lv_if_ne (tgt := 57) hx hb dX6_behind_42 (by decide) (fun c_3 => ?_) (fun c_3 => ?_)
      · exact absurd (by decide) c_3
      · obtain ⟨iζ, hiζ, eiζ⟩ := inB_nat (N := 10) (by decide) c_1
        have hl : lv_has ls 4 [(3, .int 0), (0, .ref hζ), (1, .int (nI iζ)), (2, .int yζ)] := by first | exact hl | (rw [← (eiζ : xζ = nI iζ)]; exact hl)
        refine lv_aload_n hx hb dX6_behind_45 rfl (lv_at hl 1 rfl) ?_
        refine va_get (D := g.1) (ci := 6) (v := .ref (Qζ 1)) (C := RX6) (T := TX6) (N := 8) hx hb hts hi6 hown hK hP 0 rfl rfl 1 (by decide) (hts (.fieldLink RX6 16 "PanTales" "draft" "LPanTales$Close;") (by decide +kernel)) (fun _ h9 => h9) rfl dX6_behind_46 ?_
        refine lv_iload_n hx hb dX6_behind_49 rfl (lv_at hl 2 rfl) ?_
        refine lv_iload_n hx hb dX6_behind_50 rfl (lv_at hl 3 rfl) ?_
        refine gcV_i (As := [.int (nI iζ), .int yζ]) (rest := []) (ci := 1) (q := (RX1, TX1, 12)) F hK hN hP hD hS hA (c_X1_houseFact l g H.size (Qζ 1) Bζ iC0 (fun _ => 5) (fun _ => 0) (fun _ => (-6)) iζ yζ (by omega)) gX6_behind_X1_houseFact kX1_houseFact rfl rfl rfl rfl ⟨(Nat.le_of_ble_eq_true rfl), (Nat.le_of_ble_eq_true rfl)⟩ [3, 5, 6, 7] [0, 1, 2, 4, 8, 9, 10, 11, 12, 13, 14, 15, 16, 17, 18] rfl rfl rfl (by decide) rfl rfl rfl rfl rfl hl.1 (Nat.le_of_ble_eq_true rfl) dX6_behind_51 ⟨(Nat.le_of_ble_eq_true rfl), (Nat.le_of_ble_eq_true rfl)⟩ (fun r_w u_w H locs hw hP hD hS => ?_)
        have hP : va_P g.1 vwCl [(hζ, .inr (6, [.ref (Qζ 0), .ref (Qζ 1), .ref (Qζ 2), .ref (Qζ 3), .ref (Qζ 4), .ref (Qζ 5), .ref (Qζ 6), .ref (Qζ 7)])), ((Qζ 4), .inr (2, [.int 0, .int 0, .int (-6), .int (-6), .int (-6), .int (-6)])), ((Qζ 3), .inr (3, [.ref qζ, .int 0])), aI g (Bζ 0) 121 (fun _ => 0), aI g (Bζ 4) 10 (fun jζ => nI jζ), aI g (Bζ 5) 8 (fun _ => 0), aI g (Bζ 6) 8 (fun _ => 0), ((Qζ 0), .inr (1, oC Aζ iC0)), aI g (Aζ 0) 121 (fun _ => 0), aI g (Aζ 1) 10 (fun _ => 5), aI g (Aζ 2) 10 (fun _ => 0), aI g (Aζ 3) 10 (fun _ => (-6)), aI g (Aζ 4) 10 (fun jζ => nI jζ), aI g (Aζ 5) 8 (fun _ => 0), aI g (Aζ 6) 8 (fun _ => 0), ((Qζ 1), .inr (1, oC Bζ iC0)), aI g (Bζ 1) 10 (fun _ => 5), aI g (Bζ 2) 10 (fun _ => 0), aI g (Bζ 3) 10 (fun _ => (-6))] H := hP
        have hD : va_D Z [(hζ, .inr (6, [.ref (Qζ 0), .ref (Qζ 1), .ref (Qζ 2), .ref (Qζ 3), .ref (Qζ 4), .ref (Qζ 5), .ref (Qζ 6), .ref (Qζ 7)])), ((Qζ 4), .inr (2, [.int 0, .int 0, .int (-6), .int (-6), .int (-6), .int (-6)])), ((Qζ 3), .inr (3, [.ref qζ, .int 0])), aI g (Bζ 0) 121 (fun _ => 0), aI g (Bζ 4) 10 (fun jζ => nI jζ), aI g (Bζ 5) 8 (fun _ => 0), aI g (Bζ 6) 8 (fun _ => 0), ((Qζ 0), .inr (1, oC Aζ iC0)), aI g (Aζ 0) 121 (fun _ => 0), aI g (Aζ 1) 10 (fun _ => 5), aI g (Aζ 2) 10 (fun _ => 0), aI g (Aζ 3) 10 (fun _ => (-6)), aI g (Aζ 4) 10 (fun jζ => nI jζ), aI g (Aζ 5) 8 (fun _ => 0), aI g (Aζ 6) 8 (fun _ => 0), ((Qζ 1), .inr (1, oC Bζ iC0)), aI g (Bζ 1) 10 (fun _ => 5), aI g (Bζ 2) 10 (fun _ => 0), aI g (Bζ 3) 10 (fun _ => (-6))] := hD
        obtain rfl := hw
        refine lv_goto (tgt := 58) hx hb dX6_behind_54 (by decide) ?_
        exact r_iret hx hb hr hlk hS () (by unfold behindF; rw [if_pos c_1, if_pos c_2]; rfl) (hP.sub [] rfl) (hD.sub [] (by decide) rfl) dX6_behind_58
    · have c_2 : inB yζ 0 2 = false := bI_0 c_2
      refine lv_bipush (v := (-2)) hx hb dX6_behind_18 (by decide) ?_
      exact r_iret hx hb hr hlk hS () (by unfold behindF; rw [if_pos c_1, if_neg (bF c_2)]) (hP.sub [] rfl) (hD.sub [] (by decide) rfl) dX6_behind_20
  · have c_1 : inB xζ 0 9 = false := bI_0 c_1
    refine lv_iconst (v := (-1)) hx hb dX6_behind_7 (by decide) ?_
    exact r_iret hx hb hr hlk hS () (by unfold behindF; rw [if_neg (bF c_1)]) (hP.sub [] rfl) (hD.sub [] (by decide) rfl) dX6_behind_8
set_option maxHeartbeats 4000000 in
set_option maxRecDepth 100000 in
theorem c_X6_pan (l : Launch) (g : GT) (sz : Nat) (hζ : Nat) (Qζ Aζ : Nat → Nat) (qζ : Nat) (Bζ : Nat → Nat) (xζ : Int32) : Ci l yX6_pan wsX6_pan { frames := 3, cells := 0, slots := 0, locals := 127 } g sz [.ref hζ, .int xζ] [(hζ, .inr (6, [.ref (Qζ 0), .ref (Qζ 1), .ref (Qζ 2), .ref (Qζ 3), .ref (Qζ 4), .ref (Qζ 5), .ref (Qζ 6), .ref (Qζ 7)])), (Qζ 4, .inr (2, [.int 0, .int 0, .int 0, .int 0, .int 0, .int 0])), (Qζ 3, .inr (3, [.ref qζ, .int 0])), (Qζ 1, .inr (1, oC Bζ iC0)), aI g (Bζ 0) 121 (fun _ => 0), aI g (Bζ 1) 10 (fun _ => 5), aI g (Bζ 2) 10 (fun _ => 0), aI g (Bζ 3) 10 (fun _ => (-6)), aI g (Bζ 4) 10 (fun jζ => nI jζ), aI g (Bζ 5) 8 (fun _ => 0), aI g (Bζ 6) 8 (fun _ => 0), (Qζ 0, .inr (1, oC Aζ iC0)), aI g (Aζ 0) 121 (fun _ => 0), aI g (Aζ 1) 10 (fun _ => 5), aI g (Aζ 2) 10 (fun _ => 0), aI g (Aζ 3) 10 (fun _ => (-6)), aI g (Aζ 4) 10 (fun jζ => nI jζ), aI g (Aζ 5) 8 (fun _ => 0), aI g (Aζ 6) 8 (fun _ => 0)] (panF xζ) [] := by
  refine gMet_i (cc := cX6_pan) (maxL := 3) (ret := (some .int)) (by decide) rfl (Nat.le_of_ble_eq_true rfl) ?_
  intro p e s m args below meth c Z hx hb hr F hlk hnm hK hN hA H locs hP hD hS ls hl
  have hl : lv_has ls 3 [(0, .ref hζ), (1, .int xζ)] := hl
  have F : CallFix p m c cX6_pan 3 s args wsX6_pan RX6 := F
  have hts := F.2.2.2.2
  have hown : s.vm.findClass RX6 = some m.cls := F.2.2.2.1
  have hi6 : ∀ w ∈ u_ws RX6 TX6 8, w ∈ wsX6_pan := by decide +kernel
  refine lv_iload_n hx hb dX6_pan_0 rfl (lv_at hl 1 rfl) ?_
  refine lv_iconst (v := 0) hx hb dX6_pan_1 (by decide) ?_
  refine lv_iconst (v := 3) hx hb dX6_pan_2 (by decide) ?_
  refine gcP (As := [.int xζ, .int 0, .int 3]) (rest := []) F (c_X6_within l xζ 0 3) gX6_pan_X6_within kX6_within rfl rfl rfl ⟨(Nat.le_of_ble_eq_true rfl), (Nat.le_of_ble_eq_true rfl)⟩ rfl rfl hl.1 (Nat.le_of_ble_eq_true rfl) dX6_pan_3 ⟨(Nat.le_of_ble_eq_true rfl), (Nat.le_of_ble_eq_true rfl)⟩ ?_
  refine lv_if_ne (tgt := 12) hx hb dX6_pan_6 (by decide) (fun c_1 => ?_) (fun c_1 => ?_)
  · have c_1 : inB xζ 0 3 = true := bI_1 c_1
    refine lv_aload_n hx hb dX6_pan_12 rfl (lv_at hl 0 rfl) ?_
    refine va_get (D := g.1) (ci := 6) (v := .ref (Qζ 4)) (C := RX6) (T := TX6) (N := 8) hx hb hts hi6 hown hK hP 0 rfl rfl 4 (by decide) (hts (.fieldLink RX6 33 "PanTales" "night" "LPanTales$Night;") (by decide +kernel)) (fun _ h9 => h9) rfl dX6_pan_13 ?_
    refine lv_aload_n hx hb dX6_pan_16 rfl (lv_at hl 0 rfl) ?_
    refine va_get (D := g.1) (ci := 6) (v := .ref (Qζ 3)) (C := RX6) (T := TX6) (N := 8) hx hb hts hi6 hown hK hP 0 rfl rfl 3 (by decide) (hts (.fieldLink RX6 26 "PanTales" "pad" "LPanTales$Pad;") (by decide +kernel)) (fun _ h9 => h9) rfl dX6_pan_17 ?_
    refine lv_aload_n hx hb dX6_pan_20 rfl (lv_at hl 0 rfl) ?_
    refine va_get (D := g.1) (ci := 6) (v := .ref (Qζ 1)) (C := RX6) (T := TX6) (N := 8) hx hb hts hi6 hown hK hP 0 rfl rfl 1 (by decide) (hts (.fieldLink RX6 16 "PanTales" "draft" "LPanTales$Close;") (by decide +kernel)) (fun _ h9 => h9) rfl dX6_pan_21 ?_
    refine lv_aload_n hx hb dX6_pan_24 rfl (lv_at hl 0 rfl) ?_
    refine va_get (D := g.1) (ci := 6) (v := .ref (Qζ 0)) (C := RX6) (T := TX6) (N := 8) hx hb hts hi6 hown hK hP 0 rfl rfl 0 (by decide) (hts (.fieldLink RX6 12 "PanTales" "close" "LPanTales$Close;") (by decide +kernel)) (fun _ h9 => h9) rfl dX6_pan_25 ?_
    refine gcV_i (As := [.ref (Qζ 3), .ref (Qζ 1), .ref (Qζ 0)]) (rest := []) (ci := 2) (q := (RX2, TX2, 6)) F hK hN hP hD hS hA (c_X2_pass l g H.size (Qζ 4) (Qζ 3) (Qζ 1) (Qζ 0) qζ 0 0 0 0 0 0 Bζ iC0 Aζ iC0 (fun _ => 0) (fun _ => 5) (fun _ => 0) (fun _ => (-6)) (fun jζ => nI jζ) (fun _ => 0) (fun _ => 0) (fun _ => 0) (fun _ => 5) (fun _ => 0) (fun _ => (-6)) (fun jζ => nI jζ) (fun _ => 0) (fun _ => 0)) gX6_pan_X2_pass kX2_pass rfl rfl rfl rfl ⟨(Nat.le_of_ble_eq_true rfl), (Nat.le_of_ble_eq_true rfl)⟩ [1, 2, 3, 4, 5, 6, 7, 8, 9, 10, 11, 12, 13, 14, 15, 16, 17, 18] [0] rfl rfl rfl (by decide) rfl rfl rfl rfl rfl hl.1 (Nat.le_of_ble_eq_true rfl) dX6_pan_28 ⟨(Nat.le_of_ble_eq_true rfl), (Nat.le_of_ble_eq_true rfl)⟩ (fun r_w u_w H locs hw hP hD hS => ?_)
    have hP : va_P g.1 vwCl [(hζ, .inr (6, [.ref (Qζ 0), .ref (Qζ 1), .ref (Qζ 2), .ref (Qζ 3), .ref (Qζ 4), .ref (Qζ 5), .ref (Qζ 6), .ref (Qζ 7)])), ((Qζ 4), .inr (2, [.int 0, .int 0, .int (-6), .int (-6), .int (-6), .int (-6)])), ((Qζ 3), .inr (3, [.ref qζ, .int 0])), ((Qζ 1), .inr (1, oC Bζ iC0)), aI g (Bζ 0) 121 (fun _ => 0), aI g (Bζ 1) 10 (fun _ => 5), aI g (Bζ 2) 10 (fun _ => 0), aI g (Bζ 3) 10 (fun _ => (-6)), aI g (Bζ 4) 10 (fun jζ => nI jζ), aI g (Bζ 5) 8 (fun _ => 0), aI g (Bζ 6) 8 (fun _ => 0), ((Qζ 0), .inr (1, oC Aζ iC0)), aI g (Aζ 0) 121 (fun _ => 0), aI g (Aζ 1) 10 (fun _ => 5), aI g (Aζ 2) 10 (fun _ => 0), aI g (Aζ 3) 10 (fun _ => (-6)), aI g (Aζ 4) 10 (fun jζ => nI jζ), aI g (Aζ 5) 8 (fun _ => 0), aI g (Aζ 6) 8 (fun _ => 0)] H := hP
    have hD : va_D Z [(hζ, .inr (6, [.ref (Qζ 0), .ref (Qζ 1), .ref (Qζ 2), .ref (Qζ 3), .ref (Qζ 4), .ref (Qζ 5), .ref (Qζ 6), .ref (Qζ 7)])), ((Qζ 4), .inr (2, [.int 0, .int 0, .int (-6), .int (-6), .int (-6), .int (-6)])), ((Qζ 3), .inr (3, [.ref qζ, .int 0])), ((Qζ 1), .inr (1, oC Bζ iC0)), aI g (Bζ 0) 121 (fun _ => 0), aI g (Bζ 1) 10 (fun _ => 5), aI g (Bζ 2) 10 (fun _ => 0), aI g (Bζ 3) 10 (fun _ => (-6)), aI g (Bζ 4) 10 (fun jζ => nI jζ), aI g (Bζ 5) 8 (fun _ => 0), aI g (Bζ 6) 8 (fun _ => 0), ((Qζ 0), .inr (1, oC Aζ iC0)), aI g (Aζ 0) 121 (fun _ => 0), aI g (Aζ 1) 10 (fun _ => 5), aI g (Aζ 2) 10 (fun _ => 0), aI g (Aζ 3) 10 (fun _ => (-6)), aI g (Aζ 4) 10 (fun jζ => nI jζ), aI g (Aζ 5) 8 (fun _ => 0), aI g (Aζ 6) 8 (fun _ => 0)] := hD
    obtain rfl := hw
    refine lv_istore_n (lv' := [(2, .int 0), (0, .ref hζ), (1, .int xζ)]) hx hb dX6_pan_31 rfl hl (by decide) rfl (fun ls hl => ?_)
    refine lv_iload_n hx hb dX6_pan_32 rfl (lv_at hl 0 rfl) ?_
    refine lv_if_ne (tgt := 47) hx hb dX6_pan_33 (by decide) (fun c_2 => ?_) (fun c_2 => ?_)
    · exact absurd (by decide) c_2
    · refine lv_aload_n hx hb dX6_pan_36 rfl (lv_at hl 1 rfl) ?_
      refine va_get (D := g.1) (ci := 6) (v := .ref (Qζ 1)) (C := RX6) (T := TX6) (N := 8) hx hb hts hi6 hown hK hP 0 rfl rfl 1 (by decide) (hts (.fieldLink RX6 16 "PanTales" "draft" "LPanTales$Close;") (by decide +kernel)) (fun _ h9 => h9) rfl dX6_pan_37 ?_
      refine lv_iload_n hx hb dX6_pan_40 rfl (lv_at hl 2 rfl) ?_
      refine gcV_i (As := [.int xζ]) (rest := []) (ci := 1) (q := (RX1, TX1, 12)) F hK hN hP hD hS hA (c_X1_panFact l g H.size (Qζ 1) Bζ iC0 xζ) gX6_pan_X1_panFact kX1_panFact rfl rfl rfl rfl ⟨(Nat.le_of_ble_eq_true rfl), (Nat.le_of_ble_eq_true rfl)⟩ [3] [0, 1, 2, 4, 5, 6, 7, 8, 9, 10, 11, 12, 13, 14, 15, 16, 17, 18] rfl rfl rfl (by decide) rfl rfl rfl rfl rfl hl.1 (Nat.le_of_ble_eq_true rfl) dX6_pan_41 ⟨(Nat.le_of_ble_eq_true rfl), (Nat.le_of_ble_eq_true rfl)⟩ (fun r_w u_w H locs hw hP hD hS => ?_)
      have hP : va_P g.1 vwCl [(hζ, .inr (6, [.ref (Qζ 0), .ref (Qζ 1), .ref (Qζ 2), .ref (Qζ 3), .ref (Qζ 4), .ref (Qζ 5), .ref (Qζ 6), .ref (Qζ 7)])), ((Qζ 4), .inr (2, [.int 0, .int 0, .int (-6), .int (-6), .int (-6), .int (-6)])), ((Qζ 3), .inr (3, [.ref qζ, .int 0])), aI g (Bζ 0) 121 (fun _ => 0), aI g (Bζ 1) 10 (fun _ => 5), aI g (Bζ 2) 10 (fun _ => 0), aI g (Bζ 3) 10 (fun _ => (-6)), aI g (Bζ 4) 10 (fun jζ => nI jζ), aI g (Bζ 5) 8 (fun _ => 0), aI g (Bζ 6) 8 (fun _ => 0), ((Qζ 0), .inr (1, oC Aζ iC0)), aI g (Aζ 0) 121 (fun _ => 0), aI g (Aζ 1) 10 (fun _ => 5), aI g (Aζ 2) 10 (fun _ => 0), aI g (Aζ 3) 10 (fun _ => (-6)), aI g (Aζ 4) 10 (fun jζ => nI jζ), aI g (Aζ 5) 8 (fun _ => 0), aI g (Aζ 6) 8 (fun _ => 0), ((Qζ 1), .inr (1, oC Bζ iC0))] H := hP
      have hD : va_D Z [(hζ, .inr (6, [.ref (Qζ 0), .ref (Qζ 1), .ref (Qζ 2), .ref (Qζ 3), .ref (Qζ 4), .ref (Qζ 5), .ref (Qζ 6), .ref (Qζ 7)])), ((Qζ 4), .inr (2, [.int 0, .int 0, .int (-6), .int (-6), .int (-6), .int (-6)])), ((Qζ 3), .inr (3, [.ref qζ, .int 0])), aI g (Bζ 0) 121 (fun _ => 0), aI g (Bζ 1) 10 (fun _ => 5), aI g (Bζ 2) 10 (fun _ => 0), aI g (Bζ 3) 10 (fun _ => (-6)), aI g (Bζ 4) 10 (fun jζ => nI jζ), aI g (Bζ 5) 8 (fun _ => 0), aI g (Bζ 6) 8 (fun _ => 0), ((Qζ 0), .inr (1, oC Aζ iC0)), aI g (Aζ 0) 121 (fun _ => 0), aI g (Aζ 1) 10 (fun _ => 5), aI g (Aζ 2) 10 (fun _ => 0), aI g (Aζ 3) 10 (fun _ => (-6)), aI g (Aζ 4) 10 (fun jζ => nI jζ), aI g (Aζ 5) 8 (fun _ => 0), aI g (Aζ 6) 8 (fun _ => 0), ((Qζ 1), .inr (1, oC Bζ iC0))] := hD
      obtain rfl := hw
      refine gtop (y := if xζ = 0 then 10 else 0) (pf_fresh xζ) ?_
      refine lv_goto (tgt := 48) hx hb dX6_pan_44 (by decide) ?_
      exact r_iret hx hb hr hlk hS () (by unfold panF; rw [if_pos c_1]) (hP.sub [] rfl) (hD.sub [] (by decide) rfl) dX6_pan_48
  · have c_1 : inB xζ 0 3 = false := bI_0 c_1
    refine lv_bipush (v := (-2)) hx hb dX6_pan_9 (by decide) ?_
    exact r_iret hx hb hr hlk hS () (by unfold panF; rw [if_neg (bF c_1)]) (hP.sub [] rfl) (hD.sub [] (by decide) rfl) dX6_pan_11
set_option maxHeartbeats 4000000 in
set_option maxRecDepth 100000 in
theorem c_X6_holds (l : Launch) (g : GT) (sz : Nat) (hζ : Nat) (Qζ Aζ : Nat → Nat) (qζ : Nat) (Bζ : Nat → Nat) (xζ : Int32) : Ci l yX6_holds wsX6_holds { frames := 3, cells := 0, slots := 0, locals := 127 } g sz [.ref hζ, .int xζ] [(hζ, .inr (6, [.ref (Qζ 0), .ref (Qζ 1), .ref (Qζ 2), .ref (Qζ 3), .ref (Qζ 4), .ref (Qζ 5), .ref (Qζ 6), .ref (Qζ 7)])), (Qζ 4, .inr (2, [.int 0, .int 0, .int 0, .int 0, .int 0, .int 0])), (Qζ 3, .inr (3, [.ref qζ, .int 0])), (Qζ 1, .inr (1, oC Bζ iC0)), aI g (Bζ 0) 121 (fun _ => 0), aI g (Bζ 1) 10 (fun _ => 5), aI g (Bζ 2) 10 (fun _ => 0), aI g (Bζ 3) 10 (fun _ => (-6)), aI g (Bζ 4) 10 (fun jζ => nI jζ), aI g (Bζ 5) 8 (fun _ => 0), aI g (Bζ 6) 8 (fun _ => 0), (Qζ 0, .inr (1, oC Aζ iC0)), aI g (Aζ 0) 121 (fun _ => 0), aI g (Aζ 1) 10 (fun _ => 5), aI g (Aζ 2) 10 (fun _ => 0), aI g (Aζ 3) 10 (fun _ => (-6)), aI g (Aζ 4) 10 (fun jζ => nI jζ), aI g (Aζ 5) 8 (fun _ => 0), aI g (Aζ 6) 8 (fun _ => 0)] (holdsF xζ) [] := by
  refine gMet_i (cc := cX6_holds) (maxL := 3) (ret := (some .int)) (by decide) rfl (Nat.le_of_ble_eq_true rfl) ?_
  intro p e s m args below meth c Z hx hb hr F hlk hnm hK hN hA H locs hP hD hS ls hl
  have hl : lv_has ls 3 [(0, .ref hζ), (1, .int xζ)] := hl
  have F : CallFix p m c cX6_holds 3 s args wsX6_holds RX6 := F
  have hts := F.2.2.2.2
  have hown : s.vm.findClass RX6 = some m.cls := F.2.2.2.1
  have hi6 : ∀ w ∈ u_ws RX6 TX6 8, w ∈ wsX6_holds := by decide +kernel
  refine lv_iload_n hx hb dX6_holds_0 rfl (lv_at hl 1 rfl) ?_
  refine gcP (As := [.int xζ]) (rest := []) F (c_X6_isTale l xζ) gX6_holds_X6_isTale kX6_isTale rfl rfl rfl ⟨(Nat.le_of_ble_eq_true rfl), (Nat.le_of_ble_eq_true rfl)⟩ rfl rfl hl.1 (Nat.le_of_ble_eq_true rfl) dX6_holds_1 ⟨(Nat.le_of_ble_eq_true rfl), (Nat.le_of_ble_eq_true rfl)⟩ ?_
  refine lv_if_ne (tgt := 9) hx hb dX6_holds_4 (by decide) (fun c_1 => ?_) (fun c_1 => ?_)
  · have c_1 : inB xζ 0 9 = true := bI_1 c_1
    refine lv_aload_n hx hb dX6_holds_9 rfl (lv_at hl 0 rfl) ?_
    refine va_get (D := g.1) (ci := 6) (v := .ref (Qζ 4)) (C := RX6) (T := TX6) (N := 8) hx hb hts hi6 hown hK hP 0 rfl rfl 4 (by decide) (hts (.fieldLink RX6 33 "PanTales" "night" "LPanTales$Night;") (by decide +kernel)) (fun _ h9 => h9) rfl dX6_holds_10 ?_
    refine lv_aload_n hx hb dX6_holds_13 rfl (lv_at hl 0 rfl) ?_
    refine va_get (D := g.1) (ci := 6) (v := .ref (Qζ 3)) (C := RX6) (T := TX6) (N := 8) hx hb hts hi6 hown hK hP 0 rfl rfl 3 (by decide) (hts (.fieldLink RX6 26 "PanTales" "pad" "LPanTales$Pad;") (by decide +kernel)) (fun _ h9 => h9) rfl dX6_holds_14 ?_
    refine lv_aload_n hx hb dX6_holds_17 rfl (lv_at hl 0 rfl) ?_
    refine va_get (D := g.1) (ci := 6) (v := .ref (Qζ 1)) (C := RX6) (T := TX6) (N := 8) hx hb hts hi6 hown hK hP 0 rfl rfl 1 (by decide) (hts (.fieldLink RX6 16 "PanTales" "draft" "LPanTales$Close;") (by decide +kernel)) (fun _ h9 => h9) rfl dX6_holds_18 ?_
    refine lv_aload_n hx hb dX6_holds_21 rfl (lv_at hl 0 rfl) ?_
    refine va_get (D := g.1) (ci := 6) (v := .ref (Qζ 0)) (C := RX6) (T := TX6) (N := 8) hx hb hts hi6 hown hK hP 0 rfl rfl 0 (by decide) (hts (.fieldLink RX6 12 "PanTales" "close" "LPanTales$Close;") (by decide +kernel)) (fun _ h9 => h9) rfl dX6_holds_22 ?_
    refine gcV_i (As := [.ref (Qζ 3), .ref (Qζ 1), .ref (Qζ 0)]) (rest := []) (ci := 2) (q := (RX2, TX2, 6)) F hK hN hP hD hS hA (c_X2_pass l g H.size (Qζ 4) (Qζ 3) (Qζ 1) (Qζ 0) qζ 0 0 0 0 0 0 Bζ iC0 Aζ iC0 (fun _ => 0) (fun _ => 5) (fun _ => 0) (fun _ => (-6)) (fun jζ => nI jζ) (fun _ => 0) (fun _ => 0) (fun _ => 0) (fun _ => 5) (fun _ => 0) (fun _ => (-6)) (fun jζ => nI jζ) (fun _ => 0) (fun _ => 0)) gX6_holds_X2_pass kX2_pass rfl rfl rfl rfl ⟨(Nat.le_of_ble_eq_true rfl), (Nat.le_of_ble_eq_true rfl)⟩ [1, 2, 3, 4, 5, 6, 7, 8, 9, 10, 11, 12, 13, 14, 15, 16, 17, 18] [0] rfl rfl rfl (by decide) rfl rfl rfl rfl rfl hl.1 (Nat.le_of_ble_eq_true rfl) dX6_holds_25 ⟨(Nat.le_of_ble_eq_true rfl), (Nat.le_of_ble_eq_true rfl)⟩ (fun r_w u_w H locs hw hP hD hS => ?_)
    have hP : va_P g.1 vwCl [(hζ, .inr (6, [.ref (Qζ 0), .ref (Qζ 1), .ref (Qζ 2), .ref (Qζ 3), .ref (Qζ 4), .ref (Qζ 5), .ref (Qζ 6), .ref (Qζ 7)])), ((Qζ 4), .inr (2, [.int 0, .int 0, .int (-6), .int (-6), .int (-6), .int (-6)])), ((Qζ 3), .inr (3, [.ref qζ, .int 0])), ((Qζ 1), .inr (1, oC Bζ iC0)), aI g (Bζ 0) 121 (fun _ => 0), aI g (Bζ 1) 10 (fun _ => 5), aI g (Bζ 2) 10 (fun _ => 0), aI g (Bζ 3) 10 (fun _ => (-6)), aI g (Bζ 4) 10 (fun jζ => nI jζ), aI g (Bζ 5) 8 (fun _ => 0), aI g (Bζ 6) 8 (fun _ => 0), ((Qζ 0), .inr (1, oC Aζ iC0)), aI g (Aζ 0) 121 (fun _ => 0), aI g (Aζ 1) 10 (fun _ => 5), aI g (Aζ 2) 10 (fun _ => 0), aI g (Aζ 3) 10 (fun _ => (-6)), aI g (Aζ 4) 10 (fun jζ => nI jζ), aI g (Aζ 5) 8 (fun _ => 0), aI g (Aζ 6) 8 (fun _ => 0)] H := hP
    have hD : va_D Z [(hζ, .inr (6, [.ref (Qζ 0), .ref (Qζ 1), .ref (Qζ 2), .ref (Qζ 3), .ref (Qζ 4), .ref (Qζ 5), .ref (Qζ 6), .ref (Qζ 7)])), ((Qζ 4), .inr (2, [.int 0, .int 0, .int (-6), .int (-6), .int (-6), .int (-6)])), ((Qζ 3), .inr (3, [.ref qζ, .int 0])), ((Qζ 1), .inr (1, oC Bζ iC0)), aI g (Bζ 0) 121 (fun _ => 0), aI g (Bζ 1) 10 (fun _ => 5), aI g (Bζ 2) 10 (fun _ => 0), aI g (Bζ 3) 10 (fun _ => (-6)), aI g (Bζ 4) 10 (fun jζ => nI jζ), aI g (Bζ 5) 8 (fun _ => 0), aI g (Bζ 6) 8 (fun _ => 0), ((Qζ 0), .inr (1, oC Aζ iC0)), aI g (Aζ 0) 121 (fun _ => 0), aI g (Aζ 1) 10 (fun _ => 5), aI g (Aζ 2) 10 (fun _ => 0), aI g (Aζ 3) 10 (fun _ => (-6)), aI g (Aζ 4) 10 (fun jζ => nI jζ), aI g (Aζ 5) 8 (fun _ => 0), aI g (Aζ 6) 8 (fun _ => 0)] := hD
    obtain rfl := hw
    refine lv_istore_n (lv' := [(2, .int 0), (0, .ref hζ), (1, .int xζ)]) hx hb dX6_holds_28 rfl hl (by decide) rfl (fun ls hl => ?_)
    refine lv_iload_n hx hb dX6_holds_29 rfl (lv_at hl 0 rfl) ?_
    refine lv_if_ne (tgt := 44) hx hb dX6_holds_30 (by decide) (fun c_2 => ?_) (fun c_2 => ?_)
    · exact absurd (by decide) c_2
    · obtain ⟨iζ, hiζ, eiζ⟩ := inB_nat (N := 10) (by decide) c_1
      have hl : lv_has ls 3 [(2, .int 0), (0, .ref hζ), (1, .int (nI iζ))] := by first | exact hl | (rw [← (eiζ : xζ = nI iζ)]; exact hl)
      refine lv_aload_n hx hb dX6_holds_33 rfl (lv_at hl 1 rfl) ?_
      refine va_get (D := g.1) (ci := 6) (v := .ref (Qζ 1)) (C := RX6) (T := TX6) (N := 8) hx hb hts hi6 hown hK hP 0 rfl rfl 1 (by decide) (hts (.fieldLink RX6 16 "PanTales" "draft" "LPanTales$Close;") (by decide +kernel)) (fun _ h9 => h9) rfl dX6_holds_34 ?_
      refine lv_iload_n hx hb dX6_holds_37 rfl (lv_at hl 2 rfl) ?_
      refine gcV_i (As := [.int (nI iζ)]) (rest := []) (ci := 1) (q := (RX1, TX1, 12)) F hK hN hP hD hS hA (c_X1_believersOf_t l g H.size (Qζ 1) Bζ iC0 iζ (by omega)) gX6_holds_X1_believersOf kX1_believersOf rfl rfl rfl rfl ⟨(Nat.le_of_ble_eq_true rfl), (Nat.le_of_ble_eq_true rfl)⟩ [3, 7] [0, 1, 2, 4, 5, 6, 8, 9, 10, 11, 12, 13, 14, 15, 16, 17, 18] rfl rfl rfl (by decide) rfl rfl rfl rfl rfl hl.1 (Nat.le_of_ble_eq_true rfl) dX6_holds_38 ⟨(Nat.le_of_ble_eq_true rfl), (Nat.le_of_ble_eq_true rfl)⟩ (fun r_w u_w H locs hw hP hD hS => ?_)
      have hP : va_P g.1 vwCl [(hζ, .inr (6, [.ref (Qζ 0), .ref (Qζ 1), .ref (Qζ 2), .ref (Qζ 3), .ref (Qζ 4), .ref (Qζ 5), .ref (Qζ 6), .ref (Qζ 7)])), ((Qζ 4), .inr (2, [.int 0, .int 0, .int (-6), .int (-6), .int (-6), .int (-6)])), ((Qζ 3), .inr (3, [.ref qζ, .int 0])), aI g (Bζ 0) 121 (fun _ => 0), aI g (Bζ 1) 10 (fun _ => 5), aI g (Bζ 2) 10 (fun _ => 0), aI g (Bζ 4) 10 (fun jζ => nI jζ), aI g (Bζ 5) 8 (fun _ => 0), aI g (Bζ 6) 8 (fun _ => 0), ((Qζ 0), .inr (1, oC Aζ iC0)), aI g (Aζ 0) 121 (fun _ => 0), aI g (Aζ 1) 10 (fun _ => 5), aI g (Aζ 2) 10 (fun _ => 0), aI g (Aζ 3) 10 (fun _ => (-6)), aI g (Aζ 4) 10 (fun jζ => nI jζ), aI g (Aζ 5) 8 (fun _ => 0), aI g (Aζ 6) 8 (fun _ => 0), ((Qζ 1), .inr (1, oC Bζ iC0)), aI g (Bζ 3) 10 (fun _ => (-6))] H := hP
      have hD : va_D Z [(hζ, .inr (6, [.ref (Qζ 0), .ref (Qζ 1), .ref (Qζ 2), .ref (Qζ 3), .ref (Qζ 4), .ref (Qζ 5), .ref (Qζ 6), .ref (Qζ 7)])), ((Qζ 4), .inr (2, [.int 0, .int 0, .int (-6), .int (-6), .int (-6), .int (-6)])), ((Qζ 3), .inr (3, [.ref qζ, .int 0])), aI g (Bζ 0) 121 (fun _ => 0), aI g (Bζ 1) 10 (fun _ => 5), aI g (Bζ 2) 10 (fun _ => 0), aI g (Bζ 4) 10 (fun jζ => nI jζ), aI g (Bζ 5) 8 (fun _ => 0), aI g (Bζ 6) 8 (fun _ => 0), ((Qζ 0), .inr (1, oC Aζ iC0)), aI g (Aζ 0) 121 (fun _ => 0), aI g (Aζ 1) 10 (fun _ => 5), aI g (Aζ 2) 10 (fun _ => 0), aI g (Aζ 3) 10 (fun _ => (-6)), aI g (Aζ 4) 10 (fun jζ => nI jζ), aI g (Aζ 5) 8 (fun _ => 0), aI g (Aζ 6) 8 (fun _ => 0), ((Qζ 1), .inr (1, oC Bζ iC0)), aI g (Bζ 3) 10 (fun _ => (-6))] := hD
      obtain rfl := hw
      refine lv_goto (tgt := 45) hx hb dX6_holds_41 (by decide) ?_
      exact r_iret hx hb hr hlk hS () (by unfold holdsF; rw [if_pos c_1]) (hP.sub [] rfl) (hD.sub [] (by decide) rfl) dX6_holds_45
  · have c_1 : inB xζ 0 9 = false := bI_0 c_1
    refine lv_iconst (v := (-1)) hx hb dX6_holds_7 (by decide) ?_
    exact r_iret hx hb hr hlk hS () (by unfold holdsF; rw [if_neg (bF c_1)]) (hP.sub [] rfl) (hD.sub [] (by decide) rfl) dX6_holds_8
set_option maxHeartbeats 4000000 in
set_option maxRecDepth 100000 in
theorem c_X6_other (l : Launch) (g : GT) (sz : Nat) (hζ : Nat) (Qζ Aζ : Nat → Nat) (qζ : Nat) (Bζ : Nat → Nat) (xζ : Int32) : Ci l yX6_other wsX6_other { frames := 3, cells := 0, slots := 0, locals := 127 } g sz [.ref hζ, .int xζ] [(hζ, .inr (6, [.ref (Qζ 0), .ref (Qζ 1), .ref (Qζ 2), .ref (Qζ 3), .ref (Qζ 4), .ref (Qζ 5), .ref (Qζ 6), .ref (Qζ 7)])), (Qζ 4, .inr (2, [.int 0, .int 0, .int 0, .int 0, .int 0, .int 0])), (Qζ 3, .inr (3, [.ref qζ, .int 0])), (Qζ 1, .inr (1, oC Bζ iC0)), aI g (Bζ 0) 121 (fun _ => 0), aI g (Bζ 1) 10 (fun _ => 5), aI g (Bζ 2) 10 (fun _ => 0), aI g (Bζ 3) 10 (fun _ => (-6)), aI g (Bζ 4) 10 (fun jζ => nI jζ), aI g (Bζ 5) 8 (fun _ => 0), aI g (Bζ 6) 8 (fun _ => 0), (Qζ 0, .inr (1, oC Aζ iC0)), aI g (Aζ 0) 121 (fun _ => 0), aI g (Aζ 1) 10 (fun _ => 5), aI g (Aζ 2) 10 (fun _ => 0), aI g (Aζ 3) 10 (fun _ => (-6)), aI g (Aζ 4) 10 (fun jζ => nI jζ), aI g (Aζ 5) 8 (fun _ => 0), aI g (Aζ 6) 8 (fun _ => 0)] (otherF xζ) [] := by
  refine gMet_i (cc := cX6_other) (maxL := 3) (ret := (some .int)) (by decide) rfl (Nat.le_of_ble_eq_true rfl) ?_
  intro p e s m args below meth c Z hx hb hr F hlk hnm hK hN hA H locs hP hD hS ls hl
  have hl : lv_has ls 3 [(0, .ref hζ), (1, .int xζ)] := hl
  have F : CallFix p m c cX6_other 3 s args wsX6_other RX6 := F
  have hts := F.2.2.2.2
  have hown : s.vm.findClass RX6 = some m.cls := F.2.2.2.1
  have hi2 : ∀ w ∈ u_ws RX2 TX2 6, w ∈ wsX6_other := by decide +kernel
  have hi6 : ∀ w ∈ u_ws RX6 TX6 8, w ∈ wsX6_other := by decide +kernel
  refine lv_iload_n hx hb dX6_other_0 rfl (lv_at hl 1 rfl) ?_
  refine lv_iconst (v := 0) hx hb dX6_other_1 (by decide) ?_
  refine lv_iconst (v := 1) hx hb dX6_other_2 (by decide) ?_
  refine gcP (As := [.int xζ, .int 0, .int 1]) (rest := []) F (c_X6_within l xζ 0 1) gX6_other_X6_within kX6_within rfl rfl rfl ⟨(Nat.le_of_ble_eq_true rfl), (Nat.le_of_ble_eq_true rfl)⟩ rfl rfl hl.1 (Nat.le_of_ble_eq_true rfl) dX6_other_3 ⟨(Nat.le_of_ble_eq_true rfl), (Nat.le_of_ble_eq_true rfl)⟩ ?_
  refine lv_if_ne (tgt := 12) hx hb dX6_other_6 (by decide) (fun c_1 => ?_) (fun c_1 => ?_)
  · have c_1 : inB xζ 0 1 = true := bI_1 c_1
    refine lv_aload_n hx hb dX6_other_12 rfl (lv_at hl 0 rfl) ?_
    refine va_get (D := g.1) (ci := 6) (v := .ref (Qζ 4)) (C := RX6) (T := TX6) (N := 8) hx hb hts hi6 hown hK hP 0 rfl rfl 4 (by decide) (hts (.fieldLink RX6 33 "PanTales" "night" "LPanTales$Night;") (by decide +kernel)) (fun _ h9 => h9) rfl dX6_other_13 ?_
    refine lv_aload_n hx hb dX6_other_16 rfl (lv_at hl 0 rfl) ?_
    refine va_get (D := g.1) (ci := 6) (v := .ref (Qζ 3)) (C := RX6) (T := TX6) (N := 8) hx hb hts hi6 hown hK hP 0 rfl rfl 3 (by decide) (hts (.fieldLink RX6 26 "PanTales" "pad" "LPanTales$Pad;") (by decide +kernel)) (fun _ h9 => h9) rfl dX6_other_17 ?_
    refine lv_aload_n hx hb dX6_other_20 rfl (lv_at hl 0 rfl) ?_
    refine va_get (D := g.1) (ci := 6) (v := .ref (Qζ 1)) (C := RX6) (T := TX6) (N := 8) hx hb hts hi6 hown hK hP 0 rfl rfl 1 (by decide) (hts (.fieldLink RX6 16 "PanTales" "draft" "LPanTales$Close;") (by decide +kernel)) (fun _ h9 => h9) rfl dX6_other_21 ?_
    refine lv_aload_n hx hb dX6_other_24 rfl (lv_at hl 0 rfl) ?_
    refine va_get (D := g.1) (ci := 6) (v := .ref (Qζ 0)) (C := RX6) (T := TX6) (N := 8) hx hb hts hi6 hown hK hP 0 rfl rfl 0 (by decide) (hts (.fieldLink RX6 12 "PanTales" "close" "LPanTales$Close;") (by decide +kernel)) (fun _ h9 => h9) rfl dX6_other_25 ?_
    refine gcV_i (As := [.ref (Qζ 3), .ref (Qζ 1), .ref (Qζ 0)]) (rest := []) (ci := 2) (q := (RX2, TX2, 6)) F hK hN hP hD hS hA (c_X2_pass l g H.size (Qζ 4) (Qζ 3) (Qζ 1) (Qζ 0) qζ 0 0 0 0 0 0 Bζ iC0 Aζ iC0 (fun _ => 0) (fun _ => 5) (fun _ => 0) (fun _ => (-6)) (fun jζ => nI jζ) (fun _ => 0) (fun _ => 0) (fun _ => 0) (fun _ => 5) (fun _ => 0) (fun _ => (-6)) (fun jζ => nI jζ) (fun _ => 0) (fun _ => 0)) gX6_other_X2_pass kX2_pass rfl rfl rfl rfl ⟨(Nat.le_of_ble_eq_true rfl), (Nat.le_of_ble_eq_true rfl)⟩ [1, 2, 3, 4, 5, 6, 7, 8, 9, 10, 11, 12, 13, 14, 15, 16, 17, 18] [0] rfl rfl rfl (by decide) rfl rfl rfl rfl rfl hl.1 (Nat.le_of_ble_eq_true rfl) dX6_other_28 ⟨(Nat.le_of_ble_eq_true rfl), (Nat.le_of_ble_eq_true rfl)⟩ (fun r_w u_w H locs hw hP hD hS => ?_)
    have hP : va_P g.1 vwCl [(hζ, .inr (6, [.ref (Qζ 0), .ref (Qζ 1), .ref (Qζ 2), .ref (Qζ 3), .ref (Qζ 4), .ref (Qζ 5), .ref (Qζ 6), .ref (Qζ 7)])), ((Qζ 4), .inr (2, [.int 0, .int 0, .int (-6), .int (-6), .int (-6), .int (-6)])), ((Qζ 3), .inr (3, [.ref qζ, .int 0])), ((Qζ 1), .inr (1, oC Bζ iC0)), aI g (Bζ 0) 121 (fun _ => 0), aI g (Bζ 1) 10 (fun _ => 5), aI g (Bζ 2) 10 (fun _ => 0), aI g (Bζ 3) 10 (fun _ => (-6)), aI g (Bζ 4) 10 (fun jζ => nI jζ), aI g (Bζ 5) 8 (fun _ => 0), aI g (Bζ 6) 8 (fun _ => 0), ((Qζ 0), .inr (1, oC Aζ iC0)), aI g (Aζ 0) 121 (fun _ => 0), aI g (Aζ 1) 10 (fun _ => 5), aI g (Aζ 2) 10 (fun _ => 0), aI g (Aζ 3) 10 (fun _ => (-6)), aI g (Aζ 4) 10 (fun jζ => nI jζ), aI g (Aζ 5) 8 (fun _ => 0), aI g (Aζ 6) 8 (fun _ => 0)] H := hP
    have hD : va_D Z [(hζ, .inr (6, [.ref (Qζ 0), .ref (Qζ 1), .ref (Qζ 2), .ref (Qζ 3), .ref (Qζ 4), .ref (Qζ 5), .ref (Qζ 6), .ref (Qζ 7)])), ((Qζ 4), .inr (2, [.int 0, .int 0, .int (-6), .int (-6), .int (-6), .int (-6)])), ((Qζ 3), .inr (3, [.ref qζ, .int 0])), ((Qζ 1), .inr (1, oC Bζ iC0)), aI g (Bζ 0) 121 (fun _ => 0), aI g (Bζ 1) 10 (fun _ => 5), aI g (Bζ 2) 10 (fun _ => 0), aI g (Bζ 3) 10 (fun _ => (-6)), aI g (Bζ 4) 10 (fun jζ => nI jζ), aI g (Bζ 5) 8 (fun _ => 0), aI g (Bζ 6) 8 (fun _ => 0), ((Qζ 0), .inr (1, oC Aζ iC0)), aI g (Aζ 0) 121 (fun _ => 0), aI g (Aζ 1) 10 (fun _ => 5), aI g (Aζ 2) 10 (fun _ => 0), aI g (Aζ 3) 10 (fun _ => (-6)), aI g (Aζ 4) 10 (fun jζ => nI jζ), aI g (Aζ 5) 8 (fun _ => 0), aI g (Aζ 6) 8 (fun _ => 0)] := hD
    obtain rfl := hw
    refine lv_istore_n (lv' := [(2, .int 0), (0, .ref hζ), (1, .int xζ)]) hx hb dX6_other_31 rfl hl (by decide) rfl (fun ls hl => ?_)
    refine lv_iload_n hx hb dX6_other_32 rfl (lv_at hl 0 rfl) ?_
    refine lv_if_eq (tgt := 38) hx hb dX6_other_33 (by decide) (fun c_2 => ?_) (fun c_2 => ?_)
    · refine lv_iload_n hx hb dX6_other_38 rfl (lv_at hl 2 rfl) ?_
      refine lv_if_ne (tgt := 52) hx hb dX6_other_39 (by decide) (fun c_3 => ?_) (fun c_3 => ?_)
      · refine lv_aload_n hx hb dX6_other_52 rfl (lv_at hl 1 rfl) ?_
        refine va_get (D := g.1) (ci := 6) (v := .ref (Qζ 4)) (C := RX6) (T := TX6) (N := 8) hx hb hts hi6 hown hK hP 0 rfl rfl 4 (by decide) (hts (.fieldLink RX6 33 "PanTales" "night" "LPanTales$Night;") (by decide +kernel)) (fun _ h9 => h9) rfl dX6_other_53 ?_
        refine va_getN (D := g.1) (ci := 2) (v := .int (-6)) (C := RX2) (T := TX2) (N := 6) hx hb hts hi2 hown hK hP 1 rfl rfl 5 (by decide) (va_Nw.use rfl (hN.get 23 rfl)) (fun _ h9 => h9) rfl dX6_other_56 ?_
        exact r_iret hx hb hr hlk hS () (by unfold otherF; rw [if_pos c_1]) (hP.sub [] rfl) (hD.sub [] (by decide) rfl) dX6_other_59
      · refine lv_aload_n hx hb dX6_other_42 rfl (lv_at hl 1 rfl) ?_
        refine va_get (D := g.1) (ci := 6) (v := .ref (Qζ 4)) (C := RX6) (T := TX6) (N := 8) hx hb hts hi6 hown hK hP 0 rfl rfl 4 (by decide) (hts (.fieldLink RX6 33 "PanTales" "night" "LPanTales$Night;") (by decide +kernel)) (fun _ h9 => h9) rfl dX6_other_43 ?_
        refine va_getN (D := g.1) (ci := 2) (v := .int (-6)) (C := RX2) (T := TX2) (N := 6) hx hb hts hi2 hown hK hP 1 rfl rfl 4 (by decide) (va_Nw.use rfl (hN.get 22 rfl)) (fun _ h9 => h9) rfl dX6_other_46 ?_
        refine lv_goto (tgt := 59) hx hb dX6_other_49 (by decide) ?_
        exact r_iret hx hb hr hlk hS () (by unfold otherF; rw [if_pos c_1]) (hP.sub [] rfl) (hD.sub [] (by decide) rfl) dX6_other_59
    · exact absurd (by decide) c_2
  · have c_1 : inB xζ 0 1 = false := bI_0 c_1
    refine lv_bipush (v := (-2)) hx hb dX6_other_9 (by decide) ?_
    exact r_iret hx hb hr hlk hS () (by unfold otherF; rw [if_neg (bF c_1)]) (hP.sub [] rfl) (hD.sub [] (by decide) rfl) dX6_other_11
set_option maxHeartbeats 4000000 in
set_option maxRecDepth 100000 in
theorem c_X6_done (l : Launch) (g : GT) (sz : Nat) (hζ : Nat) (Qζ Aζ : Nat → Nat) (qζ : Nat) (Bζ : Nat → Nat) : Ci l yX6_done wsX6_done { frames := 3, cells := 0, slots := 0, locals := 127 } g sz [.ref hζ] [(hζ, .inr (6, [.ref (Qζ 0), .ref (Qζ 1), .ref (Qζ 2), .ref (Qζ 3), .ref (Qζ 4), .ref (Qζ 5), .ref (Qζ 6), .ref (Qζ 7)])), (Qζ 4, .inr (2, [.int 0, .int 0, .int 0, .int 0, .int 0, .int 0])), (Qζ 3, .inr (3, [.ref qζ, .int 0])), (Qζ 1, .inr (1, oC Bζ iC0)), aI g (Bζ 0) 121 (fun _ => 0), aI g (Bζ 1) 10 (fun _ => 5), aI g (Bζ 2) 10 (fun _ => 0), aI g (Bζ 3) 10 (fun _ => (-6)), aI g (Bζ 4) 10 (fun jζ => nI jζ), aI g (Bζ 5) 8 (fun _ => 0), aI g (Bζ 6) 8 (fun _ => 0), (Qζ 0, .inr (1, oC Aζ iC0)), aI g (Aζ 0) 121 (fun _ => 0), aI g (Aζ 1) 10 (fun _ => 5), aI g (Aζ 2) 10 (fun _ => 0), aI g (Aζ 3) 10 (fun _ => (-6)), aI g (Aζ 4) 10 (fun jζ => nI jζ), aI g (Aζ 5) 8 (fun _ => 0), aI g (Aζ 6) 8 (fun _ => 0)] 0 [] := by
  refine gMet_i (cc := cX6_done) (maxL := 2) (ret := (some .int)) (by decide) rfl (Nat.le_of_ble_eq_true rfl) ?_
  intro p e s m args below meth c Z hx hb hr F hlk hnm hK hN hA H locs hP hD hS ls hl
  have hl : lv_has ls 2 [(0, .ref hζ)] := hl
  have F : CallFix p m c cX6_done 2 s args wsX6_done RX6 := F
  have hts := F.2.2.2.2
  have hown : s.vm.findClass RX6 = some m.cls := F.2.2.2.1
  have hi2 : ∀ w ∈ u_ws RX2 TX2 6, w ∈ wsX6_done := by decide +kernel
  have hi6 : ∀ w ∈ u_ws RX6 TX6 8, w ∈ wsX6_done := by decide +kernel
  refine lv_aload_n hx hb dX6_done_0 rfl (lv_at hl 0 rfl) ?_
  refine va_get (D := g.1) (ci := 6) (v := .ref (Qζ 4)) (C := RX6) (T := TX6) (N := 8) hx hb hts hi6 hown hK hP 0 rfl rfl 4 (by decide) (hts (.fieldLink RX6 33 "PanTales" "night" "LPanTales$Night;") (by decide +kernel)) (fun _ h9 => h9) rfl dX6_done_1 ?_
  refine lv_aload_n hx hb dX6_done_4 rfl (lv_at hl 0 rfl) ?_
  refine va_get (D := g.1) (ci := 6) (v := .ref (Qζ 3)) (C := RX6) (T := TX6) (N := 8) hx hb hts hi6 hown hK hP 0 rfl rfl 3 (by decide) (hts (.fieldLink RX6 26 "PanTales" "pad" "LPanTales$Pad;") (by decide +kernel)) (fun _ h9 => h9) rfl dX6_done_5 ?_
  refine lv_aload_n hx hb dX6_done_8 rfl (lv_at hl 0 rfl) ?_
  refine va_get (D := g.1) (ci := 6) (v := .ref (Qζ 1)) (C := RX6) (T := TX6) (N := 8) hx hb hts hi6 hown hK hP 0 rfl rfl 1 (by decide) (hts (.fieldLink RX6 16 "PanTales" "draft" "LPanTales$Close;") (by decide +kernel)) (fun _ h9 => h9) rfl dX6_done_9 ?_
  refine lv_aload_n hx hb dX6_done_12 rfl (lv_at hl 0 rfl) ?_
  refine va_get (D := g.1) (ci := 6) (v := .ref (Qζ 0)) (C := RX6) (T := TX6) (N := 8) hx hb hts hi6 hown hK hP 0 rfl rfl 0 (by decide) (hts (.fieldLink RX6 12 "PanTales" "close" "LPanTales$Close;") (by decide +kernel)) (fun _ h9 => h9) rfl dX6_done_13 ?_
  refine gcV_i (As := [.ref (Qζ 3), .ref (Qζ 1), .ref (Qζ 0)]) (rest := []) (ci := 2) (q := (RX2, TX2, 6)) F hK hN hP hD hS hA (c_X2_pass l g H.size (Qζ 4) (Qζ 3) (Qζ 1) (Qζ 0) qζ 0 0 0 0 0 0 Bζ iC0 Aζ iC0 (fun _ => 0) (fun _ => 5) (fun _ => 0) (fun _ => (-6)) (fun jζ => nI jζ) (fun _ => 0) (fun _ => 0) (fun _ => 0) (fun _ => 5) (fun _ => 0) (fun _ => (-6)) (fun jζ => nI jζ) (fun _ => 0) (fun _ => 0)) gX6_done_X2_pass kX2_pass rfl rfl rfl rfl ⟨(Nat.le_of_ble_eq_true rfl), (Nat.le_of_ble_eq_true rfl)⟩ [1, 2, 3, 4, 5, 6, 7, 8, 9, 10, 11, 12, 13, 14, 15, 16, 17, 18] [0] rfl rfl rfl (by decide) rfl rfl rfl rfl rfl hl.1 (Nat.le_of_ble_eq_true rfl) dX6_done_16 ⟨(Nat.le_of_ble_eq_true rfl), (Nat.le_of_ble_eq_true rfl)⟩ (fun r_w u_w H locs hw hP hD hS => ?_)
  have hP : va_P g.1 vwCl [(hζ, .inr (6, [.ref (Qζ 0), .ref (Qζ 1), .ref (Qζ 2), .ref (Qζ 3), .ref (Qζ 4), .ref (Qζ 5), .ref (Qζ 6), .ref (Qζ 7)])), ((Qζ 4), .inr (2, [.int 0, .int 0, .int (-6), .int (-6), .int (-6), .int (-6)])), ((Qζ 3), .inr (3, [.ref qζ, .int 0])), ((Qζ 1), .inr (1, oC Bζ iC0)), aI g (Bζ 0) 121 (fun _ => 0), aI g (Bζ 1) 10 (fun _ => 5), aI g (Bζ 2) 10 (fun _ => 0), aI g (Bζ 3) 10 (fun _ => (-6)), aI g (Bζ 4) 10 (fun jζ => nI jζ), aI g (Bζ 5) 8 (fun _ => 0), aI g (Bζ 6) 8 (fun _ => 0), ((Qζ 0), .inr (1, oC Aζ iC0)), aI g (Aζ 0) 121 (fun _ => 0), aI g (Aζ 1) 10 (fun _ => 5), aI g (Aζ 2) 10 (fun _ => 0), aI g (Aζ 3) 10 (fun _ => (-6)), aI g (Aζ 4) 10 (fun jζ => nI jζ), aI g (Aζ 5) 8 (fun _ => 0), aI g (Aζ 6) 8 (fun _ => 0)] H := hP
  have hD : va_D Z [(hζ, .inr (6, [.ref (Qζ 0), .ref (Qζ 1), .ref (Qζ 2), .ref (Qζ 3), .ref (Qζ 4), .ref (Qζ 5), .ref (Qζ 6), .ref (Qζ 7)])), ((Qζ 4), .inr (2, [.int 0, .int 0, .int (-6), .int (-6), .int (-6), .int (-6)])), ((Qζ 3), .inr (3, [.ref qζ, .int 0])), ((Qζ 1), .inr (1, oC Bζ iC0)), aI g (Bζ 0) 121 (fun _ => 0), aI g (Bζ 1) 10 (fun _ => 5), aI g (Bζ 2) 10 (fun _ => 0), aI g (Bζ 3) 10 (fun _ => (-6)), aI g (Bζ 4) 10 (fun jζ => nI jζ), aI g (Bζ 5) 8 (fun _ => 0), aI g (Bζ 6) 8 (fun _ => 0), ((Qζ 0), .inr (1, oC Aζ iC0)), aI g (Aζ 0) 121 (fun _ => 0), aI g (Aζ 1) 10 (fun _ => 5), aI g (Aζ 2) 10 (fun _ => 0), aI g (Aζ 3) 10 (fun _ => (-6)), aI g (Aζ 4) 10 (fun jζ => nI jζ), aI g (Aζ 5) 8 (fun _ => 0), aI g (Aζ 6) 8 (fun _ => 0)] := hD
  obtain rfl := hw
  refine lv_istore_n (lv' := [(1, .int 0), (0, .ref hζ)]) hx hb dX6_done_19 rfl hl (by decide) rfl (fun ls hl => ?_)
  refine lv_iload_n hx hb dX6_done_20 rfl (lv_at hl 0 rfl) ?_
  refine lv_if_eq (tgt := 26) hx hb dX6_done_21 (by decide) (fun c_1 => ?_) (fun c_1 => ?_)
  · refine lv_aload_n hx hb dX6_done_26 rfl (lv_at hl 1 rfl) ?_
    refine va_get (D := g.1) (ci := 6) (v := .ref (Qζ 0)) (C := RX6) (T := TX6) (N := 8) hx hb hts hi6 hown hK hP 0 rfl rfl 0 (by decide) (hts (.fieldLink RX6 12 "PanTales" "close" "LPanTales$Close;") (by decide +kernel)) (fun _ h9 => h9) rfl dX6_done_27 ?_
    refine lv_aload_n hx hb dX6_done_30 rfl (lv_at hl 1 rfl) ?_
    refine va_get (D := g.1) (ci := 6) (v := .ref (Qζ 1)) (C := RX6) (T := TX6) (N := 8) hx hb hts hi6 hown hK hP 0 rfl rfl 1 (by decide) (hts (.fieldLink RX6 16 "PanTales" "draft" "LPanTales$Close;") (by decide +kernel)) (fun _ h9 => h9) rfl dX6_done_31 ?_
    refine gcV_v (As := [.ref (Qζ 1)]) (rest := []) (ci := 1) (q := (RX1, TX1, 12)) F hK hN hP hD hS hA (c_X1_copyFrom l g H.size (Qζ 0) Aζ iC0 (Qζ 1) Bζ iC0 (fun _ => 0) (fun _ => 5) (fun _ => 0) (fun _ => (-6)) (fun jζ => nI jζ) (fun _ => 0) (fun _ => 0) (fun _ => 0) (fun _ => 5) (fun _ => 0) (fun _ => (-6)) (fun jζ => nI jζ) (fun _ => 0) (fun _ => 0)) gX6_done_X1_copyFrom kX1_copyFrom rfl rfl rfl rfl ⟨(Nat.le_of_ble_eq_true rfl), (Nat.le_of_ble_eq_true rfl)⟩ [11, 12, 13, 14, 15, 16, 17, 18, 3, 4, 5, 6, 7, 8, 9, 10] [0, 1, 2] rfl rfl rfl (by decide) rfl rfl rfl rfl rfl hl.1 (Nat.le_of_ble_eq_true rfl) dX6_done_34 ⟨(Nat.le_of_ble_eq_true rfl), (Nat.le_of_ble_eq_true rfl)⟩ (fun u_w H locs hw hP hD hS => ?_)
    have hP : va_P g.1 vwCl [(hζ, .inr (6, [.ref (Qζ 0), .ref (Qζ 1), .ref (Qζ 2), .ref (Qζ 3), .ref (Qζ 4), .ref (Qζ 5), .ref (Qζ 6), .ref (Qζ 7)])), ((Qζ 4), .inr (2, [.int 0, .int 0, .int (-6), .int (-6), .int (-6), .int (-6)])), ((Qζ 3), .inr (3, [.ref qζ, .int 0])), ((Qζ 0), .inr (1, oC Aζ iC0)), aI g (Aζ 0) 121 (fun _ => 0), aI g (Aζ 1) 10 (fun _ => 5), aI g (Aζ 2) 10 (fun _ => 0), aI g (Aζ 3) 10 (fun _ => (-6)), aI g (Aζ 4) 10 (fun jζ => nI jζ), aI g (Aζ 5) 8 (fun _ => 0), aI g (Aζ 6) 8 (fun _ => 0), ((Qζ 1), .inr (1, oC Bζ iC0)), aI g (Bζ 0) 121 (fun _ => 0), aI g (Bζ 1) 10 (fun _ => 5), aI g (Bζ 2) 10 (fun _ => 0), aI g (Bζ 3) 10 (fun _ => (-6)), aI g (Bζ 4) 10 (fun jζ => nI jζ), aI g (Bζ 5) 8 (fun _ => 0), aI g (Bζ 6) 8 (fun _ => 0)] H := hP
    have hD : va_D Z [(hζ, .inr (6, [.ref (Qζ 0), .ref (Qζ 1), .ref (Qζ 2), .ref (Qζ 3), .ref (Qζ 4), .ref (Qζ 5), .ref (Qζ 6), .ref (Qζ 7)])), ((Qζ 4), .inr (2, [.int 0, .int 0, .int (-6), .int (-6), .int (-6), .int (-6)])), ((Qζ 3), .inr (3, [.ref qζ, .int 0])), ((Qζ 0), .inr (1, oC Aζ iC0)), aI g (Aζ 0) 121 (fun _ => 0), aI g (Aζ 1) 10 (fun _ => 5), aI g (Aζ 2) 10 (fun _ => 0), aI g (Aζ 3) 10 (fun _ => (-6)), aI g (Aζ 4) 10 (fun jζ => nI jζ), aI g (Aζ 5) 8 (fun _ => 0), aI g (Aζ 6) 8 (fun _ => 0), ((Qζ 1), .inr (1, oC Bζ iC0)), aI g (Bζ 0) 121 (fun _ => 0), aI g (Bζ 1) 10 (fun _ => 5), aI g (Bζ 2) 10 (fun _ => 0), aI g (Bζ 3) 10 (fun _ => (-6)), aI g (Bζ 4) 10 (fun jζ => nI jζ), aI g (Bζ 5) 8 (fun _ => 0), aI g (Bζ 6) 8 (fun _ => 0)] := hD
    refine lv_aload_n hx hb dX6_done_37 rfl (lv_at hl 1 rfl) ?_
    refine va_get (D := g.1) (ci := 6) (v := .ref (Qζ 3)) (C := RX6) (T := TX6) (N := 8) hx hb hts hi6 hown hK hP 0 rfl rfl 3 (by decide) (hts (.fieldLink RX6 26 "PanTales" "pad" "LPanTales$Pad;") (by decide +kernel)) (fun _ h9 => h9) rfl dX6_done_38 ?_
    refine gcV_v (As := []) (rest := []) (ci := 3) (q := (RX3, TX3, 2)) F hK hN hP hD hS hA (c_X3_clear l g H.size (Qζ 3) qζ 0) gX6_done_X3_clear kX3_clear rfl rfl rfl rfl ⟨(Nat.le_of_ble_eq_true rfl), (Nat.le_of_ble_eq_true rfl)⟩ [2] [0, 1, 3, 4, 5, 6, 7, 8, 9, 10, 11, 12, 13, 14, 15, 16, 17, 18] rfl rfl rfl (by decide) rfl rfl rfl rfl rfl hl.1 (Nat.le_of_ble_eq_true rfl) dX6_done_41 ⟨(Nat.le_of_ble_eq_true rfl), (Nat.le_of_ble_eq_true rfl)⟩ (fun u_w H locs hw hP hD hS => ?_)
    have hP : va_P g.1 vwCl [(hζ, .inr (6, [.ref (Qζ 0), .ref (Qζ 1), .ref (Qζ 2), .ref (Qζ 3), .ref (Qζ 4), .ref (Qζ 5), .ref (Qζ 6), .ref (Qζ 7)])), ((Qζ 4), .inr (2, [.int 0, .int 0, .int (-6), .int (-6), .int (-6), .int (-6)])), ((Qζ 0), .inr (1, oC Aζ iC0)), aI g (Aζ 0) 121 (fun _ => 0), aI g (Aζ 1) 10 (fun _ => 5), aI g (Aζ 2) 10 (fun _ => 0), aI g (Aζ 3) 10 (fun _ => (-6)), aI g (Aζ 4) 10 (fun jζ => nI jζ), aI g (Aζ 5) 8 (fun _ => 0), aI g (Aζ 6) 8 (fun _ => 0), ((Qζ 1), .inr (1, oC Bζ iC0)), aI g (Bζ 0) 121 (fun _ => 0), aI g (Bζ 1) 10 (fun _ => 5), aI g (Bζ 2) 10 (fun _ => 0), aI g (Bζ 3) 10 (fun _ => (-6)), aI g (Bζ 4) 10 (fun jζ => nI jζ), aI g (Bζ 5) 8 (fun _ => 0), aI g (Bζ 6) 8 (fun _ => 0), ((Qζ 3), .inr (3, [.ref qζ, .int 0]))] H := hP
    have hD : va_D Z [(hζ, .inr (6, [.ref (Qζ 0), .ref (Qζ 1), .ref (Qζ 2), .ref (Qζ 3), .ref (Qζ 4), .ref (Qζ 5), .ref (Qζ 6), .ref (Qζ 7)])), ((Qζ 4), .inr (2, [.int 0, .int 0, .int (-6), .int (-6), .int (-6), .int (-6)])), ((Qζ 0), .inr (1, oC Aζ iC0)), aI g (Aζ 0) 121 (fun _ => 0), aI g (Aζ 1) 10 (fun _ => 5), aI g (Aζ 2) 10 (fun _ => 0), aI g (Aζ 3) 10 (fun _ => (-6)), aI g (Aζ 4) 10 (fun jζ => nI jζ), aI g (Aζ 5) 8 (fun _ => 0), aI g (Aζ 6) 8 (fun _ => 0), ((Qζ 1), .inr (1, oC Bζ iC0)), aI g (Bζ 0) 121 (fun _ => 0), aI g (Bζ 1) 10 (fun _ => 5), aI g (Bζ 2) 10 (fun _ => 0), aI g (Bζ 3) 10 (fun _ => (-6)), aI g (Bζ 4) 10 (fun jζ => nI jζ), aI g (Bζ 5) 8 (fun _ => 0), aI g (Bζ 6) 8 (fun _ => 0), ((Qζ 3), .inr (3, [.ref qζ, .int 0]))] := hD
    refine lv_aload_n hx hb dX6_done_44 rfl (lv_at hl 1 rfl) ?_
    refine va_get (D := g.1) (ci := 6) (v := .ref (Qζ 4)) (C := RX6) (T := TX6) (N := 8) hx hb hts hi6 hown hK hP 0 rfl rfl 4 (by decide) (hts (.fieldLink RX6 33 "PanTales" "night" "LPanTales$Night;") (by decide +kernel)) (fun _ h9 => h9) rfl dX6_done_45 ?_
    refine va_getN (D := g.1) (ci := 2) (v := .int 0) (C := RX2) (T := TX2) (N := 6) hx hb hts hi2 hown hK hP 1 rfl rfl 0 (by decide) (va_Nw.use rfl (hN.get 18 rfl)) (fun _ h9 => h9) rfl dX6_done_48 ?_
    exact r_iret hx hb hr hlk hS () rfl (hP.sub [] rfl) (hD.sub [] (by decide) rfl) dX6_done_51
  · exact absurd (by decide) c_1

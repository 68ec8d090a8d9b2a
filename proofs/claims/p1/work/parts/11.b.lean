theorem kX6_near : YOk yX6_near 3 := by decide +kernel
theorem kX6_round : YOk yX6_round 2 := by decide +kernel
theorem kX6_keep : YOk yX6_keep 2 := by decide +kernel
theorem kX6_faded : YOk yX6_faded 2 := by decide +kernel
theorem kX6_seen : YOk yX6_seen 2 := by decide +kernel
theorem kX6_forget : YOk yX6_forget 0 := by decide +kernel
theorem kX6_fits : YOk yX6_fits 1 := by decide +kernel
theorem kX6_ask : YOk yX6_ask 1 := by decide +kernel
set_option maxHeartbeats 4000000 in
set_option maxRecDepth 100000 in
theorem c_X6_near (l : Launch) (g : GT) (sz : Nat) (hζ : Nat) (Qζ Aζ : Nat → Nat) (Gζ : Nat → Nat) (xζ yζ zζ : Int32) : Ci l yX6_near wsX6_near { frames := 4, cells := 0, slots := 0, locals := 91 } g sz [.ref hζ, .int xζ, .int yζ, .int zζ] [(hζ, .inr (6, [.ref (Qζ 0), .ref (Qζ 1), .ref (Qζ 2), .ref (Qζ 3), .ref (Qζ 4), .ref (Qζ 5), .ref (Qζ 6), .ref (Qζ 7)])), (Qζ 5, .inr (5, [.ref (Gζ 0), .ref (Gζ 1), .null])), aI g (Gζ 0) 121 (fun _ => 0), (Qζ 0, .inr (1, oC Aζ iC0)), aI g (Aζ 0) 121 (fun _ => 0)] (nearF xζ yζ zζ) [] := by
  refine gMet_i (cc := cX6_near) (maxL := 4) (ret := (some .int)) (by decide) rfl (Nat.le_of_ble_eq_true rfl) ?_
  intro p e s m args below meth c Z hx hb hr F hlk hnm hK hN hA H locs hP hD hS ls hl
  have hl : lv_has ls 4 [(0, .ref hζ), (1, .int xζ), (2, .int yζ), (3, .int zζ)] := hl
  have F : CallFix p m c cX6_near 4 s args wsX6_near RX6 := F
  have hts := F.2.2.2.2
  have hown : s.vm.findClass RX6 = some m.cls := F.2.2.2.1
  have hi6 : ∀ w ∈ u_ws RX6 TX6 8, w ∈ wsX6_near := by decide +kernel
  refine lv_iload_n hx hb dX6_near_0 rfl (lv_at hl 1 rfl) ?_
  refine gcP (As := [.int xζ]) (rest := []) F (c_X6_isPlace l xζ) gX6_near_X6_isPlace kX6_isPlace rfl rfl rfl ⟨(Nat.le_of_ble_eq_true rfl), (Nat.le_of_ble_eq_true rfl)⟩ rfl rfl hl.1 (Nat.le_of_ble_eq_true rfl) dX6_near_1 ⟨(Nat.le_of_ble_eq_true rfl), (Nat.le_of_ble_eq_true rfl)⟩ ?_
  refine lv_if_eq (tgt := 14) hx hb dX6_near_4 (by decide) (fun c_1 => ?_) (fun c_1 => ?_)
  · have c_1 : inB xζ 0 10 = false := bI_0 c_1
    refine lv_iconst (v := (-1)) hx hb dX6_near_14 (by decide) ?_
    exact r_iret hx hb hr hlk hS () (by unfold nearF; rw [if_neg (bF c_1)]) (hP.sub [] rfl) (hD.sub [] (by decide) rfl) dX6_near_15
  · have c_1 : inB xζ 0 10 = true := bI_1 c_1
    refine lv_iload_n hx hb dX6_near_7 rfl (lv_at hl 2 rfl) ?_
    refine gcP (As := [.int yζ]) (rest := []) F (c_X6_isPlace l yζ) gX6_near_X6_isPlace kX6_isPlace rfl rfl rfl ⟨(Nat.le_of_ble_eq_true rfl), (Nat.le_of_ble_eq_true rfl)⟩ rfl rfl hl.1 (Nat.le_of_ble_eq_true rfl) dX6_near_8 ⟨(Nat.le_of_ble_eq_true rfl), (Nat.le_of_ble_eq_true rfl)⟩ ?_
    refine lv_if_ne (tgt := 16) hx hb dX6_near_11 (by decide) (fun c_2 => ?_) (fun c_2 => ?_)
    · have c_2 : inB yζ 0 10 = true := bI_1 c_2
      refine lv_iload_n hx hb dX6_near_16 rfl (lv_at hl 3 rfl) ?_
      refine lv_iconst (v := 0) hx hb dX6_near_17 (by decide) ?_
      refine lv_iconst (v := 1) hx hb dX6_near_18 (by decide) ?_
      refine gcP (As := [.int zζ, .int 0, .int 1]) (rest := []) F (c_X6_within l zζ 0 1) gX6_near_X6_within kX6_within rfl rfl rfl ⟨(Nat.le_of_ble_eq_true rfl), (Nat.le_of_ble_eq_true rfl)⟩ rfl rfl hl.1 (Nat.le_of_ble_eq_true rfl) dX6_near_19 ⟨(Nat.le_of_ble_eq_true rfl), (Nat.le_of_ble_eq_true rfl)⟩ ?_
      refine lv_if_ne (tgt := 28) hx hb dX6_near_22 (by decide) (fun c_3 => ?_) (fun c_3 => ?_)
      · have c_3 : inB zζ 0 1 = true := bI_1 c_3
        obtain ⟨iζ, hiζ, eiζ⟩ := inB_nat (N := 11) (by decide) c_1
        have hl : lv_has ls 4 [(0, .ref hζ), (1, .int (nI iζ)), (2, .int yζ), (3, .int zζ)] := by first | exact hl | (rw [← (eiζ : xζ = nI iζ)]; exact hl)
        obtain ⟨jζ, hjζ, ejζ⟩ := inB_nat (N := 11) (by decide) c_2
        have hl : lv_has ls 4 [(0, .ref hζ), (1, .int (nI iζ)), (2, .int (nI jζ)), (3, .int zζ)] := by first | exact hl | (rw [← (ejζ : yζ = nI jζ)]; exact hl)
        refine lv_aload_n hx hb dX6_near_28 rfl (lv_at hl 0 rfl) ?_
        refine va_get (D := g.1) (ci := 6) (v := .ref (Qζ 5)) (C := RX6) (T := TX6) (N := 8) hx hb hts hi6 hown hK hP 0 rfl rfl 5 (by decide) (hts (.fieldLink RX6 40 "PanTales" "ways" "LPanTales$Ways;") (by decide +kernel)) (fun _ h9 => h9) rfl dX6_near_29 ?_
        refine lv_aload_n hx hb dX6_near_32 rfl (lv_at hl 0 rfl) ?_
        refine va_get (D := g.1) (ci := 6) (v := .ref (Qζ 0)) (C := RX6) (T := TX6) (N := 8) hx hb hts hi6 hown hK hP 0 rfl rfl 0 (by decide) (hts (.fieldLink RX6 12 "PanTales" "close" "LPanTales$Close;") (by decide +kernel)) (fun _ h9 => h9) rfl dX6_near_33 ?_
        refine gcV_v (As := [.ref (Qζ 0)]) (rest := []) (ci := 5) (q := (RX5, TX5, 3)) F hK hN hP hD hS hA (c_X5_measure l g H.size (Qζ 5) Gζ (fun _ => 0) (Qζ 0) Aζ iC0) gX6_near_X5_measure kX5_measure rfl rfl rfl rfl ⟨(Nat.le_of_ble_eq_true rfl), (Nat.le_of_ble_eq_true rfl)⟩ [1, 2, 3, 4] [0] rfl rfl rfl (by decide) rfl rfl rfl rfl rfl hl.1 (Nat.le_of_ble_eq_true rfl) dX6_near_36 ⟨(Nat.le_of_ble_eq_true rfl), (Nat.le_of_ble_eq_true rfl)⟩ (fun u_w H locs hw hP hD hS => ?_)
        have hP : va_P g.1 vwCl [(hζ, .inr (6, [.ref (Qζ 0), .ref (Qζ 1), .ref (Qζ 2), .ref (Qζ 3), .ref (Qζ 4), .ref (Qζ 5), .ref (Qζ 6), .ref (Qζ 7)])), ((Qζ 5), .inr (5, [.ref (Gζ 0), .ref (Gζ 1), .null])), aI g (Gζ 0) 121 lsF, ((Qζ 0), .inr (1, oC Aζ iC0)), aI g (Aζ 0) 121 (fun _ => 0)] H := hP
        have hD : va_D Z [(hζ, .inr (6, [.ref (Qζ 0), .ref (Qζ 1), .ref (Qζ 2), .ref (Qζ 3), .ref (Qζ 4), .ref (Qζ 5), .ref (Qζ 6), .ref (Qζ 7)])), ((Qζ 5), .inr (5, [.ref (Gζ 0), .ref (Gζ 1), .null])), aI g (Gζ 0) 121 lsF, ((Qζ 0), .inr (1, oC Aζ iC0)), aI g (Aζ 0) 121 (fun _ => 0)] := hD
        refine lv_iload_n hx hb dX6_near_39 rfl (lv_at hl 3 rfl) ?_
        refine lv_if_ne (tgt := 55) hx hb dX6_near_40 (by decide) (fun c_4 => ?_) (fun c_4 => ?_)
        · refine lv_aload_n hx hb dX6_near_55 rfl (lv_at hl 0 rfl) ?_
          refine va_get (D := g.1) (ci := 6) (v := .ref (Qζ 5)) (C := RX6) (T := TX6) (N := 8) hx hb hts hi6 hown hK hP 0 rfl rfl 5 (by decide) (hts (.fieldLink RX6 40 "PanTales" "ways" "LPanTales$Ways;") (by decide +kernel)) (fun _ h9 => h9) rfl dX6_near_56 ?_
          refine lv_aload_n hx hb dX6_near_59 rfl (lv_at hl 0 rfl) ?_
          refine va_get (D := g.1) (ci := 6) (v := .ref (Qζ 0)) (C := RX6) (T := TX6) (N := 8) hx hb hts hi6 hown hK hP 0 rfl rfl 0 (by decide) (hts (.fieldLink RX6 12 "PanTales" "close" "LPanTales$Close;") (by decide +kernel)) (fun _ h9 => h9) rfl dX6_near_60 ?_
          refine lv_iload_n hx hb dX6_near_63 rfl (lv_at hl 1 rfl) ?_
          refine lv_iload_n hx hb dX6_near_64 rfl (lv_at hl 2 rfl) ?_
          refine gcV_i (As := [.ref (Qζ 0), .int (nI iζ), .int (nI jζ)]) (rest := []) (ci := 5) (q := (RX5, TX5, 3)) F hK hN hP hD hS hA (c_X5_nextPlace l g H.size (Qζ 5) Gζ (Qζ 0) iζ jζ (by omega) (by omega)) gX6_near_X5_nextPlace kX5_nextPlace rfl rfl rfl rfl ⟨(Nat.le_of_ble_eq_true rfl), (Nat.le_of_ble_eq_true rfl)⟩ [1, 2] [0, 3, 4] rfl rfl rfl (by decide) rfl rfl rfl rfl rfl hl.1 (Nat.le_of_ble_eq_true rfl) dX6_near_65 ⟨(Nat.le_of_ble_eq_true rfl), (Nat.le_of_ble_eq_true rfl)⟩ (fun r_w u_w H locs hw hP hD hS => ?_)
          have hP : va_P g.1 vwCl [(hζ, .inr (6, [.ref (Qζ 0), .ref (Qζ 1), .ref (Qζ 2), .ref (Qζ 3), .ref (Qζ 4), .ref (Qζ 5), .ref (Qζ 6), .ref (Qζ 7)])), ((Qζ 0), .inr (1, oC Aζ iC0)), aI g (Aζ 0) 121 (fun _ => 0), ((Qζ 5), .inr (5, [.ref (Gζ 0), .ref (Gζ 1), .null])), aI g (Gζ 0) 121 lsF] H := hP
          have hD : va_D Z [(hζ, .inr (6, [.ref (Qζ 0), .ref (Qζ 1), .ref (Qζ 2), .ref (Qζ 3), .ref (Qζ 4), .ref (Qζ 5), .ref (Qζ 6), .ref (Qζ 7)])), ((Qζ 0), .inr (1, oC Aζ iC0)), aI g (Aζ 0) 121 (fun _ => 0), ((Qζ 5), .inr (5, [.ref (Gζ 0), .ref (Gζ 1), .null])), aI g (Gζ 0) 121 lsF] := hD
          obtain rfl := hw
          exact r_iret hx hb hr hlk hS () (by unfold nearF; rw [if_pos c_1, if_pos c_2, if_pos c_3, if_neg c_4]) (hP.sub [] rfl) (hD.sub [] (by decide) rfl) dX6_near_68
        · refine lv_aload_n hx hb dX6_near_43 rfl (lv_at hl 0 rfl) ?_
          refine va_get (D := g.1) (ci := 6) (v := .ref (Qζ 5)) (C := RX6) (T := TX6) (N := 8) hx hb hts hi6 hown hK hP 0 rfl rfl 5 (by decide) (hts (.fieldLink RX6 40 "PanTales" "ways" "LPanTales$Ways;") (by decide +kernel)) (fun _ h9 => h9) rfl dX6_near_44 ?_
          refine lv_iload_n hx hb dX6_near_47 rfl (lv_at hl 1 rfl) ?_
          refine lv_iload_n hx hb dX6_near_48 rfl (lv_at hl 2 rfl) ?_
          refine gcV_i (As := [.int (nI iζ), .int (nI jζ)]) (rest := []) (ci := 5) (q := (RX5, TX5, 3)) F hK hN hP hD hS hA (c_X5_howFar l g H.size (Qζ 5) Gζ iζ jζ (by omega) (by omega)) gX6_near_X5_howFar kX5_howFar rfl rfl rfl rfl ⟨(Nat.le_of_ble_eq_true rfl), (Nat.le_of_ble_eq_true rfl)⟩ [1, 2] [0, 3, 4] rfl rfl rfl (by decide) rfl rfl rfl rfl rfl hl.1 (Nat.le_of_ble_eq_true rfl) dX6_near_49 ⟨(Nat.le_of_ble_eq_true rfl), (Nat.le_of_ble_eq_true rfl)⟩ (fun r_w u_w H locs hw hP hD hS => ?_)
          have hP : va_P g.1 vwCl [(hζ, .inr (6, [.ref (Qζ 0), .ref (Qζ 1), .ref (Qζ 2), .ref (Qζ 3), .ref (Qζ 4), .ref (Qζ 5), .ref (Qζ 6), .ref (Qζ 7)])), ((Qζ 0), .inr (1, oC Aζ iC0)), aI g (Aζ 0) 121 (fun _ => 0), ((Qζ 5), .inr (5, [.ref (Gζ 0), .ref (Gζ 1), .null])), aI g (Gζ 0) 121 lsF] H := hP
          have hD : va_D Z [(hζ, .inr (6, [.ref (Qζ 0), .ref (Qζ 1), .ref (Qζ 2), .ref (Qζ 3), .ref (Qζ 4), .ref (Qζ 5), .ref (Qζ 6), .ref (Qζ 7)])), ((Qζ 0), .inr (1, oC Aζ iC0)), aI g (Aζ 0) 121 (fun _ => 0), ((Qζ 5), .inr (5, [.ref (Gζ 0), .ref (Gζ 1), .null])), aI g (Gζ 0) 121 lsF] := hD
          obtain rfl := hw
          refine lv_goto (tgt := 68) hx hb dX6_near_52 (by decide) ?_
          exact r_iret hx hb hr hlk hS () (by unfold nearF; rw [if_pos c_1, if_pos c_2, if_pos c_3, if_pos c_4]; rw [eiζ, ejζ]; exact nr_eq hiζ hjζ) (hP.sub [] rfl) (hD.sub [] (by decide) rfl) dX6_near_68
      · have c_3 : inB zζ 0 1 = false := bI_0 c_3
        refine lv_bipush (v := (-2)) hx hb dX6_near_25 (by decide) ?_
        exact r_iret hx hb hr hlk hS () (by unfold nearF; rw [if_pos c_1, if_pos c_2, if_neg (bF c_3)]) (hP.sub [] rfl) (hD.sub [] (by decide) rfl) dX6_near_27
    · have c_2 : inB yζ 0 10 = false := bI_0 c_2
      refine lv_iconst (v := (-1)) hx hb dX6_near_14 (by decide) ?_
      exact r_iret hx hb hr hlk hS () (by unfold nearF; rw [if_pos c_1, if_neg (bF c_2)]) (hP.sub [] rfl) (hD.sub [] (by decide) rfl) dX6_near_15
set_option maxHeartbeats 4000000 in
set_option maxRecDepth 100000 in
theorem c_X6_round (l : Launch) (g : GT) (sz : Nat) (hζ : Nat) (Qζ Aζ : Nat → Nat) (Gζ : Nat → Nat) (xζ yζ : Int32) : Mi (S := Unit) l yX6_round wsX6_round { frames := 5, cells := 1, slots := 10240, locals := 114 } g sz [.ref hζ, .int xζ, .int yζ] [(hζ, .inr (6, [.ref (Qζ 0), .ref (Qζ 1), .ref (Qζ 2), .ref (Qζ 3), .ref (Qζ 4), .ref (Qζ 5), .ref (Qζ 6), .ref (Qζ 7)])), (Qζ 5, .inr (5, [.ref (Gζ 0), .ref (Gζ 1), .null])), aI g (Gζ 0) 121 (fun _ => 0), (Qζ 0, .inr (1, oC Aζ iC0)), aI g (Aζ 0) 121 (fun _ => 0), aI g (Aζ 1) 10 (fun _ => 5), aI g (Aζ 2) 10 (fun _ => 0)] 1 10240 (fun r _ => r = roundF xζ yζ) (fun _ => []) := by
  refine gMet_i (cc := cX6_round) (maxL := 4) (ret := (some .int)) (by decide) rfl (Nat.le_of_ble_eq_true rfl) ?_
  intro p e s m args below meth c Z hx hb hr F hlk hnm hK hN hA H locs hP hD hS ls hl
  have hl : lv_has ls 4 [(0, .ref hζ), (1, .int xζ), (2, .int yζ)] := hl
  have F : CallFix p m c cX6_round 4 s args wsX6_round RX6 := F
  have hts := F.2.2.2.2
  have hown : s.vm.findClass RX6 = some m.cls := F.2.2.2.1
  have hi6 : ∀ w ∈ u_ws RX6 TX6 8, w ∈ wsX6_round := by decide +kernel
  refine lv_iload_n hx hb dX6_round_0 rfl (lv_at hl 1 rfl) ?_
  refine lv_iconst (v := 0) hx hb dX6_round_1 (by decide) ?_
  refine lv_bipush (v := 99) hx hb dX6_round_2 (by decide) ?_
  refine gcP (As := [.int xζ, .int 0, .int 99]) (rest := []) F (c_X6_within l xζ 0 99) gX6_round_X6_within kX6_within rfl rfl rfl ⟨(Nat.le_of_ble_eq_true rfl), (Nat.le_of_ble_eq_true rfl)⟩ rfl rfl hl.1 (Nat.le_of_ble_eq_true rfl) dX6_round_4 ⟨(Nat.le_of_ble_eq_true rfl), (Nat.le_of_ble_eq_true rfl)⟩ ?_
  refine lv_if_eq (tgt := 19) hx hb dX6_round_7 (by decide) (fun c_1 => ?_) (fun c_1 => ?_)
  · have c_1 : inB xζ 0 99 = false := bI_0 c_1
    refine lv_bipush (v := (-2)) hx hb dX6_round_19 (by decide) ?_
    refine W.widen (k := 1) (n := 10240) (by decide) (by decide) ?_
    exact r_iret hx hb hr hlk hS () (by unfold roundF; rw [if_neg (bF c_1)]) (hP.sub [] rfl) (hD.sub [] (by decide) rfl) dX6_round_21
  · have c_1 : inB xζ 0 99 = true := bI_1 c_1
    refine lv_iload_n hx hb dX6_round_10 rfl (lv_at hl 2 rfl) ?_
    refine lv_iconst (v := 0) hx hb dX6_round_11 (by decide) ?_
    refine lv_iconst (v := 1) hx hb dX6_round_12 (by decide) ?_
    refine gcP (As := [.int yζ, .int 0, .int 1]) (rest := []) F (c_X6_within l yζ 0 1) gX6_round_X6_within kX6_within rfl rfl rfl ⟨(Nat.le_of_ble_eq_true rfl), (Nat.le_of_ble_eq_true rfl)⟩ rfl rfl hl.1 (Nat.le_of_ble_eq_true rfl) dX6_round_13 ⟨(Nat.le_of_ble_eq_true rfl), (Nat.le_of_ble_eq_true rfl)⟩ ?_
    refine lv_if_ne (tgt := 22) hx hb dX6_round_16 (by decide) (fun c_2 => ?_) (fun c_2 => ?_)
    · have c_2 : inB yζ 0 1 = true := bI_1 c_2
      obtain ⟨t0ζ, ht0ζ, et0ζ⟩ := inB_nat (N := 100) (by decide) c_1
      have hl : lv_has ls 4 [(0, .ref hζ), (1, .int (nI t0ζ)), (2, .int yζ)] := by first | exact hl | (rw [← (et0ζ : xζ = nI t0ζ)]; exact hl)
      refine lv_aload_n hx hb dX6_round_22 rfl (lv_at hl 0 rfl) ?_
      refine va_get (D := g.1) (ci := 6) (v := .ref (Qζ 5)) (C := RX6) (T := TX6) (N := 8) hx hb hts hi6 hown hK hP 0 rfl rfl 5 (by decide) (hts (.fieldLink RX6 40 "PanTales" "ways" "LPanTales$Ways;") (by decide +kernel)) (fun _ h9 => h9) rfl dX6_round_23 ?_
      refine lv_aload_n hx hb dX6_round_26 rfl (lv_at hl 0 rfl) ?_
      refine va_get (D := g.1) (ci := 6) (v := .ref (Qζ 0)) (C := RX6) (T := TX6) (N := 8) hx hb hts hi6 hown hK hP 0 rfl rfl 0 (by decide) (hts (.fieldLink RX6 12 "PanTales" "close" "LPanTales$Close;") (by decide +kernel)) (fun _ h9 => h9) rfl dX6_round_27 ?_
      refine lv_iload_n hx hb dX6_round_30 rfl (lv_at hl 1 rfl) ?_
      refine gcV_i (As := [.ref (Qζ 0), .int (nI t0ζ)]) (rest := []) (ci := 5) (q := (RX5, TX5, 3)) F hK hN hP hD hS hA (c_X5_bestRound l g H.size (Qζ 5) Gζ (fun _ => 0) (Qζ 0) Aζ iC0 t0ζ (by omega)) gX6_round_X5_bestRound kX5_bestRound rfl rfl rfl rfl ⟨(Nat.le_of_ble_eq_true rfl), (Nat.le_of_ble_eq_true rfl)⟩ [1, 2, 3, 4, 5, 6] [0] rfl rfl rfl (by decide) rfl rfl rfl rfl rfl hl.1 (Nat.le_of_ble_eq_true rfl) dX6_round_31 ⟨(Nat.le_of_ble_eq_true rfl), (Nat.le_of_ble_eq_true rfl)⟩ (fun r_w u_w H locs hw hP hD hS => ?_)
      refine W.widen (k := 1) (n := 10240) (by decide) (by decide) ?_
      have hP : va_P g.1 vwCl [(hζ, .inr (6, [.ref (Qζ 0), .ref (Qζ 1), .ref (Qζ 2), .ref (Qζ 3), .ref (Qζ 4), .ref (Qζ 5), .ref (Qζ 6), .ref (Qζ 7)]))] H := hP
      have hD : va_D Z [(hζ, .inr (6, [.ref (Qζ 0), .ref (Qζ 1), .ref (Qζ 2), .ref (Qζ 3), .ref (Qζ 4), .ref (Qζ 5), .ref (Qζ 6), .ref (Qζ 7)]))] := hD
      obtain rfl := hw
      refine lv_istore_n (lv' := [(3, .int 0), (0, .ref hζ), (1, .int (nI t0ζ)), (2, .int yζ)]) hx hb dX6_round_34 rfl hl (by decide) rfl (fun ls hl => ?_)
      refine lv_iload_n hx hb dX6_round_35 rfl (lv_at hl 3 rfl) ?_
      refine lv_if_ne (tgt := 46) hx hb dX6_round_36 (by decide) (fun c_3 => ?_) (fun c_3 => ?_)
      · refine lv_iload_n hx hb dX6_round_46 rfl (lv_at hl 0 rfl) ?_
        exact r_iret hx hb hr hlk hS () (by unfold roundF; rw [if_pos c_1, if_pos c_2]) (hP.sub [] rfl) (hD.sub [] (by decide) rfl) dX6_round_47
      · refine lv_iload_n hx hb dX6_round_39 rfl (lv_at hl 0 rfl) ?_
        refine gcP (As := [.int 0]) (rest := []) F (c_J6_bitCount_0f7a4 l 0) gX6_round_J6_bitCount_0f7a4 kJ6_bitCount_0f7a4 rfl rfl rfl ⟨(Nat.le_of_ble_eq_true rfl), (Nat.le_of_ble_eq_true rfl)⟩ rfl rfl hl.1 (Nat.le_of_ble_eq_true rfl) dX6_round_40 ⟨(Nat.le_of_ble_eq_true rfl), (Nat.le_of_ble_eq_true rfl)⟩ ?_
        refine gtop (y := 0) bcF_0 ?_
        refine lv_goto (tgt := 47) hx hb dX6_round_43 (by decide) ?_
        exact r_iret hx hb hr hlk hS () (by unfold roundF; rw [if_pos c_1, if_pos c_2]) (hP.sub [] rfl) (hD.sub [] (by decide) rfl) dX6_round_47
    · have c_2 : inB yζ 0 1 = false := bI_0 c_2
      refine lv_bipush (v := (-2)) hx hb dX6_round_19 (by decide) ?_
      refine W.widen (k := 1) (n := 10240) (by decide) (by decide) ?_
      exact r_iret hx hb hr hlk hS () (by unfold roundF; rw [if_pos c_1, if_neg (bF c_2)]) (hP.sub [] rfl) (hD.sub [] (by decide) rfl) dX6_round_21
set_option maxHeartbeats 4000000 in
set_option maxRecDepth 100000 in
theorem c_X6_keep (l : Launch) (g : GT) (sz : Nat) (hζ : Nat) (Qζ Aζ : Nat → Nat) (Gζ : Nat → Nat) (xζ yζ : Int32) : Ci l yX6_keep wsX6_keep { frames := 4, cells := 0, slots := 0, locals := 91 } g sz [.ref hζ, .int xζ, .int yζ] [(hζ, .inr (6, [.ref (Qζ 0), .ref (Qζ 1), .ref (Qζ 2), .ref (Qζ 3), .ref (Qζ 4), .ref (Qζ 5), .ref (Qζ 6), .ref (Qζ 7)])), (Qζ 5, .inr (5, [.ref (Gζ 0), .ref (Gζ 1), .null])), aI g (Gζ 1) 11 (fun _ => 0), (Qζ 0, .inr (1, oC Aζ iC0)), aI g (Aζ 0) 121 (fun _ => 0)] (keepF xζ yζ) [] := by
  refine gMet_i (cc := cX6_keep) (maxL := 4) (ret := (some .int)) (by decide) rfl (Nat.le_of_ble_eq_true rfl) ?_
  intro p e s m args below meth c Z hx hb hr F hlk hnm hK hN hA H locs hP hD hS ls hl
  have hl : lv_has ls 4 [(0, .ref hζ), (1, .int xζ), (2, .int yζ)] := hl
  have F : CallFix p m c cX6_keep 4 s args wsX6_keep RX6 := F
  have hts := F.2.2.2.2
  have hown : s.vm.findClass RX6 = some m.cls := F.2.2.2.1
  have hi6 : ∀ w ∈ u_ws RX6 TX6 8, w ∈ wsX6_keep := by decide +kernel
  refine lv_iload_n hx hb dX6_keep_0 rfl (lv_at hl 1 rfl) ?_
  refine gcP (As := [.int xζ]) (rest := []) F (c_X6_isHouse l xζ) gX6_keep_X6_isHouse kX6_isHouse rfl rfl rfl ⟨(Nat.le_of_ble_eq_true rfl), (Nat.le_of_ble_eq_true rfl)⟩ rfl rfl hl.1 (Nat.le_of_ble_eq_true rfl) dX6_keep_1 ⟨(Nat.le_of_ble_eq_true rfl), (Nat.le_of_ble_eq_true rfl)⟩ ?_
  refine lv_if_ne (tgt := 9) hx hb dX6_keep_4 (by decide) (fun c_1 => ?_) (fun c_1 => ?_)
  · have c_1 : inB xζ 0 9 = true := bI_1 c_1
    refine lv_iload_n hx hb dX6_keep_9 rfl (lv_at hl 2 rfl) ?_
    refine lv_iconst (v := 0) hx hb dX6_keep_10 (by decide) ?_
    refine lv_iconst (v := 1) hx hb dX6_keep_11 (by decide) ?_
    refine gcP (As := [.int yζ, .int 0, .int 1]) (rest := []) F (c_X6_within l yζ 0 1) gX6_keep_X6_within kX6_within rfl rfl rfl ⟨(Nat.le_of_ble_eq_true rfl), (Nat.le_of_ble_eq_true rfl)⟩ rfl rfl hl.1 (Nat.le_of_ble_eq_true rfl) dX6_keep_12 ⟨(Nat.le_of_ble_eq_true rfl), (Nat.le_of_ble_eq_true rfl)⟩ ?_
    refine lv_if_ne (tgt := 21) hx hb dX6_keep_15 (by decide) (fun c_2 => ?_) (fun c_2 => ?_)
    · have c_2 : inB yζ 0 1 = true := bI_1 c_2
      obtain ⟨iζ, hiζ, eiζ⟩ := inB_nat (N := 10) (by decide) c_1
      have hl : lv_has ls 4 [(0, .ref hζ), (1, .int (nI iζ)), (2, .int yζ)] := by first | exact hl | (rw [← (eiζ : xζ = nI iζ)]; exact hl)
      refine lv_aload_n hx hb dX6_keep_21 rfl (lv_at hl 0 rfl) ?_
      refine va_get (D := g.1) (ci := 6) (v := .ref (Qζ 5)) (C := RX6) (T := TX6) (N := 8) hx hb hts hi6 hown hK hP 0 rfl rfl 5 (by decide) (hts (.fieldLink RX6 40 "PanTales" "ways" "LPanTales$Ways;") (by decide +kernel)) (fun _ h9 => h9) rfl dX6_keep_22 ?_
      refine lv_aload_n hx hb dX6_keep_25 rfl (lv_at hl 0 rfl) ?_
      refine va_get (D := g.1) (ci := 6) (v := .ref (Qζ 0)) (C := RX6) (T := TX6) (N := 8) hx hb hts hi6 hown hK hP 0 rfl rfl 0 (by decide) (hts (.fieldLink RX6 12 "PanTales" "close" "LPanTales$Close;") (by decide +kernel)) (fun _ h9 => h9) rfl dX6_keep_26 ?_
      refine lv_iload_n hx hb dX6_keep_29 rfl (lv_at hl 1 rfl) ?_
      refine gcV_i (As := [.ref (Qζ 0), .int (nI iζ)]) (rest := []) (ci := 5) (q := (RX5, TX5, 3)) F hK hN hP hD hS hA (c_X5_fewestDamp l g H.size (Qζ 5) Gζ (fun _ => 0) (Qζ 0) Aζ iC0 iζ (by omega)) gX6_keep_X5_fewestDamp kX5_fewestDamp rfl rfl rfl rfl ⟨(Nat.le_of_ble_eq_true rfl), (Nat.le_of_ble_eq_true rfl)⟩ [1, 2, 3, 4] [0] rfl rfl rfl (by decide) rfl rfl rfl rfl rfl hl.1 (Nat.le_of_ble_eq_true rfl) dX6_keep_30 ⟨(Nat.le_of_ble_eq_true rfl), (Nat.le_of_ble_eq_true rfl)⟩ (fun r_w u_w H locs hw hP hD hS => ?_)
      have hP : va_P g.1 vwCl [(hζ, .inr (6, [.ref (Qζ 0), .ref (Qζ 1), .ref (Qζ 2), .ref (Qζ 3), .ref (Qζ 4), .ref (Qζ 5), .ref (Qζ 6), .ref (Qζ 7)]))] H := hP
      have hD : va_D Z [(hζ, .inr (6, [.ref (Qζ 0), .ref (Qζ 1), .ref (Qζ 2), .ref (Qζ 3), .ref (Qζ 4), .ref (Qζ 5), .ref (Qζ 6), .ref (Qζ 7)]))] := hD
      obtain rfl := hw
      refine lv_istore_n (lv' := [(3, .int 0), (0, .ref hζ), (1, .int (nI iζ)), (2, .int yζ)]) hx hb dX6_keep_33 rfl hl (by decide) rfl (fun ls hl => ?_)
      refine lv_iload_n hx hb dX6_keep_34 rfl (lv_at hl 3 rfl) ?_
      refine lv_iconst (v := 1) hx hb dX6_keep_35 (by decide) ?_
      refine lv_icmp_eq (tgt := 45) hx hb dX6_keep_36 (by decide) (fun c_3 => ?_) (fun c_3 => ?_)
      · refine lv_iload_n hx hb dX6_keep_45 rfl (lv_at hl 0 rfl) ?_
        refine lv_goto (tgt := 53) hx hb dX6_keep_46 (by decide) ?_
        exact r_iret hx hb hr hlk hS () (by unfold keepF; rw [if_pos c_1, if_pos c_2]) (hP.sub [] rfl) (hD.sub [] (by decide) rfl) dX6_keep_53
      · refine lv_iload_n hx hb dX6_keep_39 rfl (lv_at hl 0 rfl) ?_
        refine lv_bipush (v := (-6)) hx hb dX6_keep_40 (by decide) ?_
        refine lv_icmp_ne (tgt := 49) hx hb dX6_keep_42 (by decide) (fun c_4 => ?_) (fun c_4 => ?_)
        · refine lv_iload_n hx hb dX6_keep_49 rfl (lv_at hl 0 rfl) ?_
          refine gcP (As := [.int 0]) (rest := []) F (c_J6_bitCount_0f7a4 l 0) gX6_keep_J6_bitCount_0f7a4 kJ6_bitCount_0f7a4 rfl rfl rfl ⟨(Nat.le_of_ble_eq_true rfl), (Nat.le_of_ble_eq_true rfl)⟩ rfl rfl hl.1 (Nat.le_of_ble_eq_true rfl) dX6_keep_50 ⟨(Nat.le_of_ble_eq_true rfl), (Nat.le_of_ble_eq_true rfl)⟩ ?_
          refine gtop (y := 0) bcF_0 ?_
          exact r_iret hx hb hr hlk hS () (by unfold keepF; rw [if_pos c_1, if_pos c_2]) (hP.sub [] rfl) (hD.sub [] (by decide) rfl) dX6_keep_53
        · exact absurd c_4 (by decide)
    · have c_2 : inB yζ 0 1 = false := bI_0 c_2
      refine lv_bipush (v := (-2)) hx hb dX6_keep_18 (by decide) ?_
      exact r_iret hx hb hr hlk hS () (by unfold keepF; rw [if_pos c_1, if_neg (bF c_2)]) (hP.sub [] rfl) (hD.sub [] (by decide) rfl) dX6_keep_20
  · have c_1 : inB xζ 0 9 = false := bI_0 c_1
    refine lv_iconst (v := (-1)) hx hb dX6_keep_7 (by decide) ?_
    exact r_iret hx hb hr hlk hS () (by unfold keepF; rw [if_neg (bF c_1)]) (hP.sub [] rfl) (hD.sub [] (by decide) rfl) dX6_keep_8
set_option maxHeartbeats 4000000 in
set_option maxRecDepth 100000 in
theorem c_X6_faded (l : Launch) (g : GT) (sz : Nat) (hζ : Nat) (Qζ Aζ : Nat → Nat) (xζ yζ : Int32) : Ci l yX6_faded wsX6_faded { frames := 4, cells := 0, slots := 0, locals := 89 } g sz [.ref hζ, .int xζ, .int yζ] [(hζ, .inr (6, [.ref (Qζ 0), .ref (Qζ 1), .ref (Qζ 2), .ref (Qζ 3), .ref (Qζ 4), .ref (Qζ 5), .ref (Qζ 6), .ref (Qζ 7)])), (Qζ 0, .inr (1, oC Aζ iC0)), aI g (Aζ 4) 10 (fun jζ => nI jζ)] (fadedF xζ yζ) [] := by
  refine gMet_i (cc := cX6_faded) (maxL := 3) (ret := (some .int)) (by decide) rfl (Nat.le_of_ble_eq_true rfl) ?_
  intro p e s m args below meth c Z hx hb hr F hlk hnm hK hN hA H locs hP hD hS ls hl
  have hl : lv_has ls 3 [(0, .ref hζ), (1, .int xζ), (2, .int yζ)] := hl
  have F : CallFix p m c cX6_faded 3 s args wsX6_faded RX6 := F
  have hts := F.2.2.2.2
  have hown : s.vm.findClass RX6 = some m.cls := F.2.2.2.1
  have hi6 : ∀ w ∈ u_ws RX6 TX6 8, w ∈ wsX6_faded := by decide +kernel
  refine lv_iload_n hx hb dX6_faded_0 rfl (lv_at hl 1 rfl) ?_
  refine gcP (As := [.int xζ]) (rest := []) F (c_X6_isTale l xζ) gX6_faded_X6_isTale kX6_isTale rfl rfl rfl ⟨(Nat.le_of_ble_eq_true rfl), (Nat.le_of_ble_eq_true rfl)⟩ rfl rfl hl.1 (Nat.le_of_ble_eq_true rfl) dX6_faded_1 ⟨(Nat.le_of_ble_eq_true rfl), (Nat.le_of_ble_eq_true rfl)⟩ ?_
  refine lv_if_ne (tgt := 9) hx hb dX6_faded_4 (by decide) (fun c_1 => ?_) (fun c_1 => ?_)
  · have c_1 : inB xζ 0 9 = true := bI_1 c_1
    refine lv_iload_n hx hb dX6_faded_9 rfl (lv_at hl 2 rfl) ?_
    refine lv_bipush (v := (-2)) hx hb dX6_faded_10 (by decide) ?_
    refine lv_bipush (v := 99) hx hb dX6_faded_12 (by decide) ?_
    refine gcP (As := [.int yζ, .int (-2), .int 99]) (rest := []) F (c_X6_within l yζ (-2) 99) gX6_faded_X6_within kX6_within rfl rfl rfl ⟨(Nat.le_of_ble_eq_true rfl), (Nat.le_of_ble_eq_true rfl)⟩ rfl rfl hl.1 (Nat.le_of_ble_eq_true rfl) dX6_faded_14 ⟨(Nat.le_of_ble_eq_true rfl), (Nat.le_of_ble_eq_true rfl)⟩ ?_
    refine lv_if_ne (tgt := 23) hx hb dX6_faded_17 (by decide) (fun c_2 => ?_) (fun c_2 => ?_)
    · have c_2 : inB yζ (-2) 99 = true := bI_1 c_2
      refine lv_iload_n hx hb dX6_faded_23 rfl (lv_at hl 2 rfl) ?_
      refine lv_if_lt (tgt := 37) hx hb dX6_faded_24 (by decide) (fun c_3 => ?_) (fun c_3 => ?_)
      · refine lv_iload_n hx hb dX6_faded_37 rfl (lv_at hl 2 rfl) ?_
        refine lv_iconst (v := (-1)) hx hb dX6_faded_38 (by decide) ?_
        refine lv_icmp_ne (tgt := 53) hx hb dX6_faded_39 (by decide) (fun c_4 => ?_) (fun c_4 => ?_)
        · obtain ⟨iζ, hiζ, eiζ⟩ := inB_nat (N := 10) (by decide) c_1
          have hl : lv_has ls 3 [(0, .ref hζ), (1, .int (nI iζ)), (2, .int yζ)] := by first | exact hl | (rw [← (eiζ : xζ = nI iζ)]; exact hl)
          refine lv_aload_n hx hb dX6_faded_53 rfl (lv_at hl 0 rfl) ?_
          refine va_get (D := g.1) (ci := 6) (v := .ref (Qζ 0)) (C := RX6) (T := TX6) (N := 8) hx hb hts hi6 hown hK hP 0 rfl rfl 0 (by decide) (hts (.fieldLink RX6 12 "PanTales" "close" "LPanTales$Close;") (by decide +kernel)) (fun _ h9 => h9) rfl dX6_faded_54 ?_
          refine lv_iload_n hx hb dX6_faded_57 rfl (lv_at hl 1 rfl) ?_
          refine gcV_i (As := [.int (nI iζ)]) (rest := []) (ci := 1) (q := (RX1, TX1, 12)) F hK hN hP hD hS hA (c_X1_stirsOfRing l g H.size (Qζ 0) Aζ iC0 iζ (by omega)) gX6_faded_X1_stirsOfRing kX1_stirsOfRing rfl rfl rfl rfl ⟨(Nat.le_of_ble_eq_true rfl), (Nat.le_of_ble_eq_true rfl)⟩ [1, 2] [0] rfl rfl rfl (by decide) rfl rfl rfl rfl rfl hl.1 (Nat.le_of_ble_eq_true rfl) dX6_faded_58 ⟨(Nat.le_of_ble_eq_true rfl), (Nat.le_of_ble_eq_true rfl)⟩ (fun r_w u_w H locs hw hP hD hS => ?_)
          have hP : va_P g.1 vwCl [(hζ, .inr (6, [.ref (Qζ 0), .ref (Qζ 1), .ref (Qζ 2), .ref (Qζ 3), .ref (Qζ 4), .ref (Qζ 5), .ref (Qζ 6), .ref (Qζ 7)])), ((Qζ 0), .inr (1, oC Aζ iC0)), aI g (Aζ 4) 10 (fun jζ => nI jζ)] H := hP
          have hD : va_D Z [(hζ, .inr (6, [.ref (Qζ 0), .ref (Qζ 1), .ref (Qζ 2), .ref (Qζ 3), .ref (Qζ 4), .ref (Qζ 5), .ref (Qζ 6), .ref (Qζ 7)])), ((Qζ 0), .inr (1, oC Aζ iC0)), aI g (Aζ 4) 10 (fun jζ => nI jζ)] := hD
          obtain rfl := hw
          exact r_iret hx hb hr hlk hS () (by unfold fadedF; rw [if_pos c_1, if_pos c_2, if_pos c_3]) (hP.sub [] rfl) (hD.sub [] (by decide) rfl) dX6_faded_61
        · obtain ⟨iζ, hiζ, eiζ⟩ := inB_nat (N := 10) (by decide) c_1
          have hl : lv_has ls 3 [(0, .ref hζ), (1, .int (nI iζ)), (2, .int yζ)] := by first | exact hl | (rw [← (eiζ : xζ = nI iζ)]; exact hl)
          refine lv_aload_n hx hb dX6_faded_42 rfl (lv_at hl 0 rfl) ?_
          refine va_get (D := g.1) (ci := 6) (v := .ref (Qζ 0)) (C := RX6) (T := TX6) (N := 8) hx hb hts hi6 hown hK hP 0 rfl rfl 0 (by decide) (hts (.fieldLink RX6 12 "PanTales" "close" "LPanTales$Close;") (by decide +kernel)) (fun _ h9 => h9) rfl dX6_faded_43 ?_
          refine lv_iload_n hx hb dX6_faded_46 rfl (lv_at hl 1 rfl) ?_
          refine gcV_i (As := [.int (nI iζ)]) (rest := []) (ci := 1) (q := (RX1, TX1, 12)) F hK hN hP hD hS hA (c_X1_stirsToRing l g H.size (Qζ 0) Aζ iC0 iζ (by omega)) gX6_faded_X1_stirsToRing kX1_stirsToRing rfl rfl rfl rfl ⟨(Nat.le_of_ble_eq_true rfl), (Nat.le_of_ble_eq_true rfl)⟩ [1, 2] [0] rfl rfl rfl (by decide) rfl rfl rfl rfl rfl hl.1 (Nat.le_of_ble_eq_true rfl) dX6_faded_47 ⟨(Nat.le_of_ble_eq_true rfl), (Nat.le_of_ble_eq_true rfl)⟩ (fun r_w u_w H locs hw hP hD hS => ?_)
          have hP : va_P g.1 vwCl [(hζ, .inr (6, [.ref (Qζ 0), .ref (Qζ 1), .ref (Qζ 2), .ref (Qζ 3), .ref (Qζ 4), .ref (Qζ 5), .ref (Qζ 6), .ref (Qζ 7)])), ((Qζ 0), .inr (1, oC Aζ iC0)), aI g (Aζ 4) 10 (fun jζ => nI jζ)] H := hP
          have hD : va_D Z [(hζ, .inr (6, [.ref (Qζ 0), .ref (Qζ 1), .ref (Qζ 2), .ref (Qζ 3), .ref (Qζ 4), .ref (Qζ 5), .ref (Qζ 6), .ref (Qζ 7)])), ((Qζ 0), .inr (1, oC Aζ iC0)), aI g (Aζ 4) 10 (fun jζ => nI jζ)] := hD
          obtain rfl := hw
          refine lv_goto (tgt := 61) hx hb dX6_faded_50 (by decide) ?_
          exact r_iret hx hb hr hlk hS () (by unfold fadedF; rw [if_pos c_1, if_pos c_2, if_pos c_3]) (hP.sub [] rfl) (hD.sub [] (by decide) rfl) dX6_faded_61
      · obtain ⟨iζ, hiζ, eiζ⟩ := inB_nat (N := 10) (by decide) c_1
        have hl : lv_has ls 3 [(0, .ref hζ), (1, .int (nI iζ)), (2, .int yζ)] := by first | exact hl | (rw [← (eiζ : xζ = nI iζ)]; exact hl)
        obtain ⟨nζ, hnζ, enζ⟩ := nI_of c_3
        have hl : lv_has ls 3 [(0, .ref hζ), (1, .int (nI iζ)), (2, .int (nI nζ))] := by first | exact hl | (rw [← (enζ : yζ = nI nζ)]; exact hl)
        refine lv_aload_n hx hb dX6_faded_27 rfl (lv_at hl 0 rfl) ?_
        refine va_get (D := g.1) (ci := 6) (v := .ref (Qζ 0)) (C := RX6) (T := TX6) (N := 8) hx hb hts hi6 hown hK hP 0 rfl rfl 0 (by decide) (hts (.fieldLink RX6 12 "PanTales" "close" "LPanTales$Close;") (by decide +kernel)) (fun _ h9 => h9) rfl dX6_faded_28 ?_
        refine lv_iload_n hx hb dX6_faded_31 rfl (lv_at hl 1 rfl) ?_
        refine lv_iload_n hx hb dX6_faded_32 rfl (lv_at hl 2 rfl) ?_
        refine gcV_i (As := [.int (nI iζ), .int (nI nζ)]) (rest := []) (ci := 1) (q := (RX1, TX1, 12)) F hK hN hP hD hS hA (c_X1_behindStirs l g H.size (Qζ 0) Aζ iC0 iζ nζ (by omega) (by omega)) gX6_faded_X1_behindStirs kX1_behindStirs rfl rfl rfl rfl ⟨(Nat.le_of_ble_eq_true rfl), (Nat.le_of_ble_eq_true rfl)⟩ [1, 2] [0] rfl rfl rfl (by decide) rfl rfl rfl rfl rfl hl.1 (Nat.le_of_ble_eq_true rfl) dX6_faded_33 ⟨(Nat.le_of_ble_eq_true rfl), (Nat.le_of_ble_eq_true rfl)⟩ (fun r_w u_w H locs hw hP hD hS => ?_)
        have hP : va_P g.1 vwCl [(hζ, .inr (6, [.ref (Qζ 0), .ref (Qζ 1), .ref (Qζ 2), .ref (Qζ 3), .ref (Qζ 4), .ref (Qζ 5), .ref (Qζ 6), .ref (Qζ 7)])), ((Qζ 0), .inr (1, oC Aζ iC0)), aI g (Aζ 4) 10 (fun jζ => nI jζ)] H := hP
        have hD : va_D Z [(hζ, .inr (6, [.ref (Qζ 0), .ref (Qζ 1), .ref (Qζ 2), .ref (Qζ 3), .ref (Qζ 4), .ref (Qζ 5), .ref (Qζ 6), .ref (Qζ 7)])), ((Qζ 0), .inr (1, oC Aζ iC0)), aI g (Aζ 4) 10 (fun jζ => nI jζ)] := hD
        obtain rfl := hw
        exact r_iret hx hb hr hlk hS () (by unfold fadedF; rw [if_pos c_1, if_pos c_2, if_neg c_3]; exact eiζ.symm) (hP.sub [] rfl) (hD.sub [] (by decide) rfl) dX6_faded_36
    · have c_2 : inB yζ (-2) 99 = false := bI_0 c_2
      refine lv_bipush (v := (-2)) hx hb dX6_faded_20 (by decide) ?_
      exact r_iret hx hb hr hlk hS () (by unfold fadedF; rw [if_pos c_1, if_neg (bF c_2)]) (hP.sub [] rfl) (hD.sub [] (by decide) rfl) dX6_faded_22
  · have c_1 : inB xζ 0 9 = false := bI_0 c_1
    refine lv_iconst (v := (-1)) hx hb dX6_faded_7 (by decide) ?_
    exact r_iret hx hb hr hlk hS () (by unfold fadedF; rw [if_neg (bF c_1)]) (hP.sub [] rfl) (hD.sub [] (by decide) rfl) dX6_faded_8
set_option maxHeartbeats 4000000 in
set_option maxRecDepth 100000 in
theorem c_X6_seen (l : Launch) (g : GT) (sz : Nat) (hζ : Nat) (Qζ Aζ : Nat → Nat) (xζ yζ : Int32) : Ci l yX6_seen wsX6_seen { frames := 2, cells := 0, slots := 0, locals := 44 } g sz [.ref hζ, .int xζ, .int yζ] [(hζ, .inr (6, [.ref (Qζ 0), .ref (Qζ 1), .ref (Qζ 2), .ref (Qζ 3), .ref (Qζ 4), .ref (Qζ 5), .ref (Qζ 6), .ref (Qζ 7)])), (Qζ 0, .inr (1, oC Aζ iC0)), aI g (Aζ 5) 8 (fun _ => 0), aI g (Aζ 6) 8 (fun _ => 0)] (seenF xζ yζ) [] := by
  refine gMet_i (cc := cX6_seen) (maxL := 3) (ret := (some .int)) (by decide) rfl (Nat.le_of_ble_eq_true rfl) ?_
  intro p e s m args below meth c Z hx hb hr F hlk hnm hK hN hA H locs hP hD hS ls hl
  have hl : lv_has ls 3 [(0, .ref hζ), (1, .int xζ), (2, .int yζ)] := hl
  have F : CallFix p m c cX6_seen 3 s args wsX6_seen RX6 := F
  have hts := F.2.2.2.2
  have hown : s.vm.findClass RX6 = some m.cls := F.2.2.2.1
  have hi6 : ∀ w ∈ u_ws RX6 TX6 8, w ∈ wsX6_seen := by decide +kernel
  refine lv_iload_n hx hb dX6_seen_0 rfl (lv_at hl 2 rfl) ?_
  refine gcP (As := [.int yζ]) (rest := []) F (c_X6_isTale l yζ) gX6_seen_X6_isTale kX6_isTale rfl rfl rfl ⟨(Nat.le_of_ble_eq_true rfl), (Nat.le_of_ble_eq_true rfl)⟩ rfl rfl hl.1 (Nat.le_of_ble_eq_true rfl) dX6_seen_1 ⟨(Nat.le_of_ble_eq_true rfl), (Nat.le_of_ble_eq_true rfl)⟩ ?_
  refine lv_if_ne (tgt := 9) hx hb dX6_seen_4 (by decide) (fun c_1 => ?_) (fun c_1 => ?_)
  · have c_1 : inB yζ 0 9 = true := bI_1 c_1
    refine lv_iload_n hx hb dX6_seen_9 rfl (lv_at hl 1 rfl) ?_
    refine lv_iconst (v := 0) hx hb dX6_seen_10 (by decide) ?_
    refine lv_bipush (v := 40) hx hb dX6_seen_11 (by decide) ?_
    refine gcP (As := [.int xζ, .int 0, .int 40]) (rest := []) F (c_X6_within l xζ 0 40) gX6_seen_X6_within kX6_within rfl rfl rfl ⟨(Nat.le_of_ble_eq_true rfl), (Nat.le_of_ble_eq_true rfl)⟩ rfl rfl hl.1 (Nat.le_of_ble_eq_true rfl) dX6_seen_13 ⟨(Nat.le_of_ble_eq_true rfl), (Nat.le_of_ble_eq_true rfl)⟩ ?_
    refine lv_if_ne (tgt := 22) hx hb dX6_seen_16 (by decide) (fun c_2 => ?_) (fun c_2 => ?_)
    · have c_2 : inB xζ 0 40 = true := bI_1 c_2
      refine lv_aload_n hx hb dX6_seen_22 rfl (lv_at hl 0 rfl) ?_
      refine va_get (D := g.1) (ci := 6) (v := .ref (Qζ 0)) (C := RX6) (T := TX6) (N := 8) hx hb hts hi6 hown hK hP 0 rfl rfl 0 (by decide) (hts (.fieldLink RX6 12 "PanTales" "close" "LPanTales$Close;") (by decide +kernel)) (fun _ h9 => h9) rfl dX6_seen_23 ?_
      refine lv_iload_n hx hb dX6_seen_26 rfl (lv_at hl 1 rfl) ?_
      refine lv_iload_n hx hb dX6_seen_27 rfl (lv_at hl 2 rfl) ?_
      refine gcV_i (As := [.int xζ, .int yζ]) (rest := []) (ci := 1) (q := (RX1, TX1, 12)) F hK hN hP hD hS hA (c_X1_addSight l g H.size (Qζ 0) Aζ xζ yζ) gX6_seen_X1_addSight kX1_addSight rfl rfl rfl rfl ⟨(Nat.le_of_ble_eq_true rfl), (Nat.le_of_ble_eq_true rfl)⟩ [1, 2, 3] [0] rfl rfl rfl (by decide) rfl rfl rfl rfl rfl hl.1 (Nat.le_of_ble_eq_true rfl) dX6_seen_28 ⟨(Nat.le_of_ble_eq_true rfl), (Nat.le_of_ble_eq_true rfl)⟩ (fun r_w u_w H locs hw hP hD hS => ?_)
      have hP : va_P g.1 vwCl [(hζ, .inr (6, [.ref (Qζ 0), .ref (Qζ 1), .ref (Qζ 2), .ref (Qζ 3), .ref (Qζ 4), .ref (Qζ 5), .ref (Qζ 6), .ref (Qζ 7)])), ((Qζ 0), .inr (1, oC Aζ (upd iC0 7 1)))] H := hP
      have hD : va_D Z [(hζ, .inr (6, [.ref (Qζ 0), .ref (Qζ 1), .ref (Qζ 2), .ref (Qζ 3), .ref (Qζ 4), .ref (Qζ 5), .ref (Qζ 6), .ref (Qζ 7)])), ((Qζ 0), .inr (1, oC Aζ (upd iC0 7 1)))] := hD
      obtain rfl := hw
      refine lv_if_eq (tgt := 44) hx hb dX6_seen_31 (by decide) (fun c_3 => ?_) (fun c_3 => ?_)
      · exact absurd c_3 (by decide)
      · have c_3 : true = true := bI_1 c_3
        refine lv_aload_n hx hb dX6_seen_34 rfl (lv_at hl 0 rfl) ?_
        refine va_get (D := g.1) (ci := 6) (v := .ref (Qζ 0)) (C := RX6) (T := TX6) (N := 8) hx hb hts hi6 hown hK hP 0 rfl rfl 0 (by decide) (hts (.fieldLink RX6 12 "PanTales" "close" "LPanTales$Close;") (by decide +kernel)) (fun _ h9 => h9) rfl dX6_seen_35 ?_
        refine gcV_i (As := []) (rest := []) (ci := 1) (q := (RX1, TX1, 12)) F hK hN hP hD hS hA (c_X1_sightCount l g H.size (Qζ 0) Aζ (upd iC0 7 1)) gX6_seen_X1_sightCount kX1_sightCount rfl rfl rfl rfl ⟨(Nat.le_of_ble_eq_true rfl), (Nat.le_of_ble_eq_true rfl)⟩ [1] [0] rfl rfl rfl (by decide) rfl rfl rfl rfl rfl hl.1 (Nat.le_of_ble_eq_true rfl) dX6_seen_38 ⟨(Nat.le_of_ble_eq_true rfl), (Nat.le_of_ble_eq_true rfl)⟩ (fun r_w u_w H locs hw hP hD hS => ?_)
        have hP : va_P g.1 vwCl [(hζ, .inr (6, [.ref (Qζ 0), .ref (Qζ 1), .ref (Qζ 2), .ref (Qζ 3), .ref (Qζ 4), .ref (Qζ 5), .ref (Qζ 6), .ref (Qζ 7)])), ((Qζ 0), .inr (1, oC Aζ (upd iC0 7 1)))] H := hP
        have hD : va_D Z [(hζ, .inr (6, [.ref (Qζ 0), .ref (Qζ 1), .ref (Qζ 2), .ref (Qζ 3), .ref (Qζ 4), .ref (Qζ 5), .ref (Qζ 6), .ref (Qζ 7)])), ((Qζ 0), .inr (1, oC Aζ (upd iC0 7 1)))] := hD
        obtain rfl := hw
        refine gtop (y := 1) rfl ?_
        refine lv_goto (tgt := 46) hx hb dX6_seen_41 (by decide) ?_
        exact r_iret hx hb hr hlk hS () (by unfold seenF; rw [if_pos c_1, if_pos c_2]) (hP.sub [] rfl) (hD.sub [] (by decide) rfl) dX6_seen_46
    · have c_2 : inB xζ 0 40 = false := bI_0 c_2
      refine lv_bipush (v := (-2)) hx hb dX6_seen_19 (by decide) ?_
      exact r_iret hx hb hr hlk hS () (by unfold seenF; rw [if_pos c_1, if_neg (bF c_2)]) (hP.sub [] rfl) (hD.sub [] (by decide) rfl) dX6_seen_21
  · have c_1 : inB yζ 0 9 = false := bI_0 c_1
    refine lv_iconst (v := (-1)) hx hb dX6_seen_7 (by decide) ?_
    exact r_iret hx hb hr hlk hS () (by unfold seenF; rw [if_neg (bF c_1)]) (hP.sub [] rfl) (hD.sub [] (by decide) rfl) dX6_seen_8
set_option maxHeartbeats 4000000 in
set_option maxRecDepth 100000 in
theorem c_X6_forget (l : Launch) (g : GT) (sz : Nat) (hζ : Nat) (Qζ Aζ : Nat → Nat)  : Ci l yX6_forget wsX6_forget { frames := 1, cells := 0, slots := 0, locals := 20 } g sz [.ref hζ] [(hζ, .inr (6, [.ref (Qζ 0), .ref (Qζ 1), .ref (Qζ 2), .ref (Qζ 3), .ref (Qζ 4), .ref (Qζ 5), .ref (Qζ 6), .ref (Qζ 7)])), (Qζ 0, .inr (1, oC Aζ iC0))] 0 [] := by
  refine gMet_i (cc := cX6_forget) (maxL := 2) (ret := (some .int)) (by decide) rfl (Nat.le_of_ble_eq_true rfl) ?_
  intro p e s m args below meth c Z hx hb hr F hlk hnm hK hN hA H locs hP hD hS ls hl
  have hl : lv_has ls 2 [(0, .ref hζ)] := hl
  have F : CallFix p m c cX6_forget 2 s args wsX6_forget RX6 := F
  have hts := F.2.2.2.2
  have hown : s.vm.findClass RX6 = some m.cls := F.2.2.2.1
  have hi6 : ∀ w ∈ u_ws RX6 TX6 8, w ∈ wsX6_forget := by decide +kernel
  refine lv_aload_n hx hb dX6_forget_0 rfl (lv_at hl 0 rfl) ?_
  refine va_get (D := g.1) (ci := 6) (v := .ref (Qζ 0)) (C := RX6) (T := TX6) (N := 8) hx hb hts hi6 hown hK hP 0 rfl rfl 0 (by decide) (hts (.fieldLink RX6 12 "PanTales" "close" "LPanTales$Close;") (by decide +kernel)) (fun _ h9 => h9) rfl dX6_forget_1 ?_
  refine gcV_i (As := []) (rest := []) (ci := 1) (q := (RX1, TX1, 12)) F hK hN hP hD hS hA (c_X1_sightCount l g H.size (Qζ 0) Aζ iC0) gX6_forget_X1_sightCount kX1_sightCount rfl rfl rfl rfl ⟨(Nat.le_of_ble_eq_true rfl), (Nat.le_of_ble_eq_true rfl)⟩ [1] [0] rfl rfl rfl (by decide) rfl rfl rfl rfl rfl hl.1 (Nat.le_of_ble_eq_true rfl) dX6_forget_4 ⟨(Nat.le_of_ble_eq_true rfl), (Nat.le_of_ble_eq_true rfl)⟩ (fun r_w u_w H locs hw hP hD hS => ?_)
  have hP : va_P g.1 vwCl [(hζ, .inr (6, [.ref (Qζ 0), .ref (Qζ 1), .ref (Qζ 2), .ref (Qζ 3), .ref (Qζ 4), .ref (Qζ 5), .ref (Qζ 6), .ref (Qζ 7)])), ((Qζ 0), .inr (1, oC Aζ iC0))] H := hP
  have hD : va_D Z [(hζ, .inr (6, [.ref (Qζ 0), .ref (Qζ 1), .ref (Qζ 2), .ref (Qζ 3), .ref (Qζ 4), .ref (Qζ 5), .ref (Qζ 6), .ref (Qζ 7)])), ((Qζ 0), .inr (1, oC Aζ iC0))] := hD
  obtain rfl := hw
  refine gtop (y := 0) rfl ?_
  refine lv_istore_n (lv' := [(1, .int 0), (0, .ref hζ)]) hx hb dX6_forget_7 rfl hl (by decide) rfl (fun ls hl => ?_)
  refine lv_aload_n hx hb dX6_forget_8 rfl (lv_at hl 1 rfl) ?_
  refine va_get (D := g.1) (ci := 6) (v := .ref (Qζ 0)) (C := RX6) (T := TX6) (N := 8) hx hb hts hi6 hown hK hP 0 rfl rfl 0 (by decide) (hts (.fieldLink RX6 12 "PanTales" "close" "LPanTales$Close;") (by decide +kernel)) (fun _ h9 => h9) rfl dX6_forget_9 ?_
  refine gcV_v (As := []) (rest := []) (ci := 1) (q := (RX1, TX1, 12)) F hK hN hP hD hS hA (c_X1_dropSights l g H.size (Qζ 0) Aζ iC0) gX6_forget_X1_dropSights kX1_dropSights rfl rfl rfl rfl ⟨(Nat.le_of_ble_eq_true rfl), (Nat.le_of_ble_eq_true rfl)⟩ [1] [0] rfl rfl rfl (by decide) rfl rfl rfl rfl rfl hl.1 (Nat.le_of_ble_eq_true rfl) dX6_forget_12 ⟨(Nat.le_of_ble_eq_true rfl), (Nat.le_of_ble_eq_true rfl)⟩ (fun u_w H locs hw hP hD hS => ?_)
  have hP : va_P g.1 vwCl [(hζ, .inr (6, [.ref (Qζ 0), .ref (Qζ 1), .ref (Qζ 2), .ref (Qζ 3), .ref (Qζ 4), .ref (Qζ 5), .ref (Qζ 6), .ref (Qζ 7)]))] H := hP
  have hD : va_D Z [(hζ, .inr (6, [.ref (Qζ 0), .ref (Qζ 1), .ref (Qζ 2), .ref (Qζ 3), .ref (Qζ 4), .ref (Qζ 5), .ref (Qζ 6), .ref (Qζ 7)]))] := hD
  refine lv_iload_n hx hb dX6_forget_15 rfl (lv_at hl 0 rfl) ?_
  exact r_iret hx hb hr hlk hS () rfl (hP.sub [] rfl) (hD.sub [] (by decide) rfl) dX6_forget_16
set_option maxHeartbeats 4000000 in
set_option maxRecDepth 100000 in
theorem c_X6_fits (l : Launch) (g : GT) (sz : Nat) (hζ : Nat) (Qζ Aζ : Nat → Nat) (Gζ : Nat → Nat) (xζ : Int32) : Ci l yX6_fits wsX6_fits { frames := 4, cells := 0, slots := 0, locals := 88 } g sz [.ref hζ, .int xζ] [(hζ, .inr (6, [.ref (Qζ 0), .ref (Qζ 1), .ref (Qζ 2), .ref (Qζ 3), .ref (Qζ 4), .ref (Qζ 5), .ref (Qζ 6), .ref (Qζ 7)])), (Qζ 6, .inr (4, [.ref (Gζ 0), .ref (Gζ 1), .ref (Gζ 2), .int 0])), aI g (Gζ 0) 410 (fun _ => 0), aI g (Gζ 1) 50 (fun _ => 0), (Qζ 0, .inr (1, oC Aζ iC0)), aI g (Aζ 4) 10 (fun jζ => nI jζ)] (fitsF xζ) [] := by
  refine gMet_i (cc := cX6_fits) (maxL := 2) (ret := (some .int)) (by decide) rfl (Nat.le_of_ble_eq_true rfl) ?_
  intro p e s m args below meth c Z hx hb hr F hlk hnm hK hN hA H locs hP hD hS ls hl
  have hl : lv_has ls 2 [(0, .ref hζ), (1, .int xζ)] := hl
  have F : CallFix p m c cX6_fits 2 s args wsX6_fits RX6 := F
  have hts := F.2.2.2.2
  have hown : s.vm.findClass RX6 = some m.cls := F.2.2.2.1
  have hi6 : ∀ w ∈ u_ws RX6 TX6 8, w ∈ wsX6_fits := by decide +kernel
  refine lv_aload_n hx hb dX6_fits_0 rfl (lv_at hl 0 rfl) ?_
  refine va_get (D := g.1) (ci := 6) (v := .ref (Qζ 6)) (C := RX6) (T := TX6) (N := 8) hx hb hts hi6 hown hK hP 0 rfl rfl 6 (by decide) (hts (.fieldLink RX6 47 "PanTales" "sayings" "LPanTales$Sayings;") (by decide +kernel)) (fun _ h9 => h9) rfl dX6_fits_1 ?_
  refine lv_aload_n hx hb dX6_fits_4 rfl (lv_at hl 0 rfl) ?_
  refine va_get (D := g.1) (ci := 6) (v := .ref (Qζ 0)) (C := RX6) (T := TX6) (N := 8) hx hb hts hi6 hown hK hP 0 rfl rfl 0 (by decide) (hts (.fieldLink RX6 12 "PanTales" "close" "LPanTales$Close;") (by decide +kernel)) (fun _ h9 => h9) rfl dX6_fits_5 ?_
  refine gcV_v (As := [.ref (Qζ 0)]) (rest := []) (ci := 4) (q := (RX4, TX4, 4)) F hK hN hP hD hS hA (c_X4_gather l g H.size (Qζ 6) Gζ 0 (fun _ => 0) (fun _ => 0) (Qζ 0) Aζ) gX6_fits_X4_gather kX4_gather rfl rfl rfl rfl ⟨(Nat.le_of_ble_eq_true rfl), (Nat.le_of_ble_eq_true rfl)⟩ [1, 2, 3, 4, 5] [0] rfl rfl rfl (by decide) rfl rfl rfl rfl rfl hl.1 (Nat.le_of_ble_eq_true rfl) dX6_fits_8 ⟨(Nat.le_of_ble_eq_true rfl), (Nat.le_of_ble_eq_true rfl)⟩ (fun u_w H locs hw hP hD hS => ?_)
  have hP : va_P g.1 vwCl [(hζ, .inr (6, [.ref (Qζ 0), .ref (Qζ 1), .ref (Qζ 2), .ref (Qζ 3), .ref (Qζ 4), .ref (Qζ 5), .ref (Qζ 6), .ref (Qζ 7)])), ((Qζ 6), .inr (4, [.ref (Gζ 0), .ref (Gζ 1), .ref (Gζ 2), .int 50])), aI g (Gζ 0) 410 fdT, aI g (Gζ 1) 50 twF] H := hP
  have hD : va_D Z [(hζ, .inr (6, [.ref (Qζ 0), .ref (Qζ 1), .ref (Qζ 2), .ref (Qζ 3), .ref (Qζ 4), .ref (Qζ 5), .ref (Qζ 6), .ref (Qζ 7)])), ((Qζ 6), .inr (4, [.ref (Gζ 0), .ref (Gζ 1), .ref (Gζ 2), .int 50])), aI g (Gζ 0) 410 fdT, aI g (Gζ 1) 50 twF] := hD
  refine lv_iload_n hx hb dX6_fits_11 rfl (lv_at hl 1 rfl) ?_
  refine lv_iconst (v := (-1)) hx hb dX6_fits_12 (by decide) ?_
  refine lv_icmp_ne (tgt := 26) hx hb dX6_fits_13 (by decide) (fun c_1 => ?_) (fun c_1 => ?_)
  · refine lv_aload_n hx hb dX6_fits_26 rfl (lv_at hl 0 rfl) ?_
    refine va_get (D := g.1) (ci := 6) (v := .ref (Qζ 6)) (C := RX6) (T := TX6) (N := 8) hx hb hts hi6 hown hK hP 0 rfl rfl 6 (by decide) (hts (.fieldLink RX6 47 "PanTales" "sayings" "LPanTales$Sayings;") (by decide +kernel)) (fun _ h9 => h9) rfl dX6_fits_27 ?_
    refine lv_iload_n hx hb dX6_fits_30 rfl (lv_at hl 1 rfl) ?_
    refine gcV_i (As := [.int xζ]) (rest := []) (ci := 4) (q := (RX4, TX4, 4)) F hK hN hP hD hS hA (c_X4_pick l g H.size (Qζ 6) Gζ xζ) gX6_fits_X4_pick kX4_pick rfl rfl rfl rfl ⟨(Nat.le_of_ble_eq_true rfl), (Nat.le_of_ble_eq_true rfl)⟩ [1, 3] [0, 2] rfl rfl rfl (by decide) rfl rfl rfl rfl rfl hl.1 (Nat.le_of_ble_eq_true rfl) dX6_fits_31 ⟨(Nat.le_of_ble_eq_true rfl), (Nat.le_of_ble_eq_true rfl)⟩ (fun r_w u_w H locs hw hP hD hS => ?_)
    have hP : va_P g.1 vwCl [(hζ, .inr (6, [.ref (Qζ 0), .ref (Qζ 1), .ref (Qζ 2), .ref (Qζ 3), .ref (Qζ 4), .ref (Qζ 5), .ref (Qζ 6), .ref (Qζ 7)])), aI g (Gζ 0) 410 fdT, ((Qζ 6), .inr (4, [.ref (Gζ 0), .ref (Gζ 1), .ref (Gζ 2), .int 50])), aI g (Gζ 1) 50 twF] H := hP
    have hD : va_D Z [(hζ, .inr (6, [.ref (Qζ 0), .ref (Qζ 1), .ref (Qζ 2), .ref (Qζ 3), .ref (Qζ 4), .ref (Qζ 5), .ref (Qζ 6), .ref (Qζ 7)])), aI g (Gζ 0) 410 fdT, ((Qζ 6), .inr (4, [.ref (Gζ 0), .ref (Gζ 1), .ref (Gζ 2), .int 50])), aI g (Gζ 1) 50 twF] := hD
    obtain rfl := hw
    exact r_iret hx hb hr hlk hS () (by unfold fitsF; rw [if_neg c_1]) (hP.sub [] rfl) (hD.sub [] (by decide) rfl) dX6_fits_34
  · refine lv_aload_n hx hb dX6_fits_16 rfl (lv_at hl 0 rfl) ?_
    refine va_get (D := g.1) (ci := 6) (v := .ref (Qζ 6)) (C := RX6) (T := TX6) (N := 8) hx hb hts hi6 hown hK hP 0 rfl rfl 6 (by decide) (hts (.fieldLink RX6 47 "PanTales" "sayings" "LPanTales$Sayings;") (by decide +kernel)) (fun _ h9 => h9) rfl dX6_fits_17 ?_
    refine gcV_i (As := []) (rest := []) (ci := 4) (q := (RX4, TX4, 4)) F hK hN hP hD hS hA (c_X4_size l g H.size (Qζ 6) Gζ 50) gX6_fits_X4_size kX4_size rfl rfl rfl rfl ⟨(Nat.le_of_ble_eq_true rfl), (Nat.le_of_ble_eq_true rfl)⟩ [1] [0, 2, 3] rfl rfl rfl (by decide) rfl rfl rfl rfl rfl hl.1 (Nat.le_of_ble_eq_true rfl) dX6_fits_20 ⟨(Nat.le_of_ble_eq_true rfl), (Nat.le_of_ble_eq_true rfl)⟩ (fun r_w u_w H locs hw hP hD hS => ?_)
    have hP : va_P g.1 vwCl [(hζ, .inr (6, [.ref (Qζ 0), .ref (Qζ 1), .ref (Qζ 2), .ref (Qζ 3), .ref (Qζ 4), .ref (Qζ 5), .ref (Qζ 6), .ref (Qζ 7)])), aI g (Gζ 0) 410 fdT, aI g (Gζ 1) 50 twF, ((Qζ 6), .inr (4, [.ref (Gζ 0), .ref (Gζ 1), .ref (Gζ 2), .int 50]))] H := hP
    have hD : va_D Z [(hζ, .inr (6, [.ref (Qζ 0), .ref (Qζ 1), .ref (Qζ 2), .ref (Qζ 3), .ref (Qζ 4), .ref (Qζ 5), .ref (Qζ 6), .ref (Qζ 7)])), aI g (Gζ 0) 410 fdT, aI g (Gζ 1) 50 twF, ((Qζ 6), .inr (4, [.ref (Gζ 0), .ref (Gζ 1), .ref (Gζ 2), .int 50]))] := hD
    obtain rfl := hw
    refine lv_goto (tgt := 34) hx hb dX6_fits_23 (by decide) ?_
    exact r_iret hx hb hr hlk hS () (by unfold fitsF; rw [if_pos c_1]) (hP.sub [] rfl) (hD.sub [] (by decide) rfl) dX6_fits_34
set_option maxHeartbeats 4000000 in
set_option maxRecDepth 100000 in
theorem c_X6_ask (l : Launch) (g : GT) (sz : Nat) (hζ : Nat) (Qζ Aζ : Nat → Nat) (Gζ : Nat → Nat) (xζ : Int32) : Ci l yX6_ask wsX6_ask { frames := 4, cells := 0, slots := 0, locals := 95 } g sz [.ref hζ, .int xζ] [(hζ, .inr (6, [.ref (Qζ 0), .ref (Qζ 1), .ref (Qζ 2), .ref (Qζ 3), .ref (Qζ 4), .ref (Qζ 5), .ref (Qζ 6), .ref (Qζ 7)])), (Qζ 6, .inr (4, [.ref (Gζ 0), .ref (Gζ 1), .ref (Gζ 2), .int 0])), aI g (Gζ 0) 410 (fun _ => 0), aI g (Gζ 1) 50 (fun _ => 0), aI g (Gζ 2) 10 (fun _ => 0), (Qζ 0, .inr (1, oC Aζ iC0)), aI g (Aζ 4) 10 (fun jζ => nI jζ)] (askF xζ) [] := by
  refine gMet_i (cc := cX6_ask) (maxL := 3) (ret := (some .int)) (by decide) rfl (Nat.le_of_ble_eq_true rfl) ?_
  intro p e s m args below meth c Z hx hb hr F hlk hnm hK hN hA H locs hP hD hS ls hl
  have hl : lv_has ls 3 [(0, .ref hζ), (1, .int xζ)] := hl
  have F : CallFix p m c cX6_ask 3 s args wsX6_ask RX6 := F
  have hts := F.2.2.2.2
  have hown : s.vm.findClass RX6 = some m.cls := F.2.2.2.1
  have hi6 : ∀ w ∈ u_ws RX6 TX6 8, w ∈ wsX6_ask := by decide +kernel
  refine lv_iload_n hx hb dX6_ask_0 rfl (lv_at hl 1 rfl) ?_
  refine lv_iconst (v := 0) hx hb dX6_ask_1 (by decide) ?_
  refine lv_iconst (v := 1) hx hb dX6_ask_2 (by decide) ?_
  refine gcP (As := [.int xζ, .int 0, .int 1]) (rest := []) F (c_X6_within l xζ 0 1) gX6_ask_X6_within kX6_within rfl rfl rfl ⟨(Nat.le_of_ble_eq_true rfl), (Nat.le_of_ble_eq_true rfl)⟩ rfl rfl hl.1 (Nat.le_of_ble_eq_true rfl) dX6_ask_3 ⟨(Nat.le_of_ble_eq_true rfl), (Nat.le_of_ble_eq_true rfl)⟩ ?_
  refine lv_if_ne (tgt := 12) hx hb dX6_ask_6 (by decide) (fun c_1 => ?_) (fun c_1 => ?_)
  · have c_1 : inB xζ 0 1 = true := bI_1 c_1
    refine lv_aload_n hx hb dX6_ask_12 rfl (lv_at hl 0 rfl) ?_
    refine va_get (D := g.1) (ci := 6) (v := .ref (Qζ 6)) (C := RX6) (T := TX6) (N := 8) hx hb hts hi6 hown hK hP 0 rfl rfl 6 (by decide) (hts (.fieldLink RX6 47 "PanTales" "sayings" "LPanTales$Sayings;") (by decide +kernel)) (fun _ h9 => h9) rfl dX6_ask_13 ?_
    refine lv_aload_n hx hb dX6_ask_16 rfl (lv_at hl 0 rfl) ?_
    refine va_get (D := g.1) (ci := 6) (v := .ref (Qζ 0)) (C := RX6) (T := TX6) (N := 8) hx hb hts hi6 hown hK hP 0 rfl rfl 0 (by decide) (hts (.fieldLink RX6 12 "PanTales" "close" "LPanTales$Close;") (by decide +kernel)) (fun _ h9 => h9) rfl dX6_ask_17 ?_
    refine gcV_v (As := [.ref (Qζ 0)]) (rest := []) (ci := 4) (q := (RX4, TX4, 4)) F hK hN hP hD hS hA (c_X4_gather l g H.size (Qζ 6) Gζ 0 (fun _ => 0) (fun _ => 0) (Qζ 0) Aζ) gX6_ask_X4_gather kX4_gather rfl rfl rfl rfl ⟨(Nat.le_of_ble_eq_true rfl), (Nat.le_of_ble_eq_true rfl)⟩ [1, 2, 3, 5, 6] [0, 4] rfl rfl rfl (by decide) rfl rfl rfl rfl rfl hl.1 (Nat.le_of_ble_eq_true rfl) dX6_ask_20 ⟨(Nat.le_of_ble_eq_true rfl), (Nat.le_of_ble_eq_true rfl)⟩ (fun u_w H locs hw hP hD hS => ?_)
    have hP : va_P g.1 vwCl [(hζ, .inr (6, [.ref (Qζ 0), .ref (Qζ 1), .ref (Qζ 2), .ref (Qζ 3), .ref (Qζ 4), .ref (Qζ 5), .ref (Qζ 6), .ref (Qζ 7)])), aI g (Gζ 2) 10 (fun _ => 0), ((Qζ 6), .inr (4, [.ref (Gζ 0), .ref (Gζ 1), .ref (Gζ 2), .int 50])), aI g (Gζ 0) 410 fdT, aI g (Gζ 1) 50 twF] H := hP
    have hD : va_D Z [(hζ, .inr (6, [.ref (Qζ 0), .ref (Qζ 1), .ref (Qζ 2), .ref (Qζ 3), .ref (Qζ 4), .ref (Qζ 5), .ref (Qζ 6), .ref (Qζ 7)])), aI g (Gζ 2) 10 (fun _ => 0), ((Qζ 6), .inr (4, [.ref (Gζ 0), .ref (Gζ 1), .ref (Gζ 2), .int 50])), aI g (Gζ 0) 410 fdT, aI g (Gζ 1) 50 twF] := hD
    refine lv_aload_n hx hb dX6_ask_23 rfl (lv_at hl 0 rfl) ?_
    refine va_get (D := g.1) (ci := 6) (v := .ref (Qζ 6)) (C := RX6) (T := TX6) (N := 8) hx hb hts hi6 hown hK hP 0 rfl rfl 6 (by decide) (hts (.fieldLink RX6 47 "PanTales" "sayings" "LPanTales$Sayings;") (by decide +kernel)) (fun _ h9 => h9) rfl dX6_ask_24 ?_
    refine gcV_i (As := []) (rest := []) (ci := 4) (q := (RX4, TX4, 4)) F hK hN hP hD hS hA (c_X4_bedToAsk l g H.size (Qζ 6) Gζ (fun _ => 0)) gX6_ask_X4_bedToAsk kX4_bedToAsk rfl rfl rfl rfl ⟨(Nat.le_of_ble_eq_true rfl), (Nat.le_of_ble_eq_true rfl)⟩ [2, 3, 4, 1] [0] rfl rfl rfl (by decide) rfl rfl rfl rfl rfl hl.1 (Nat.le_of_ble_eq_true rfl) dX6_ask_27 ⟨(Nat.le_of_ble_eq_true rfl), (Nat.le_of_ble_eq_true rfl)⟩ (fun r_w u_w H locs hw hP hD hS => ?_)
    have hP : va_P g.1 vwCl [(hζ, .inr (6, [.ref (Qζ 0), .ref (Qζ 1), .ref (Qζ 2), .ref (Qζ 3), .ref (Qζ 4), .ref (Qζ 5), .ref (Qζ 6), .ref (Qζ 7)])), ((Qζ 6), .inr (4, [.ref (Gζ 0), .ref (Gζ 1), .ref (Gζ 2), .int 50])), aI g (Gζ 0) 410 fdT, aI g (Gζ 1) 50 twF, aI g (Gζ 2) 10 (lfF 50)] H := hP
    have hD : va_D Z [(hζ, .inr (6, [.ref (Qζ 0), .ref (Qζ 1), .ref (Qζ 2), .ref (Qζ 3), .ref (Qζ 4), .ref (Qζ 5), .ref (Qζ 6), .ref (Qζ 7)])), ((Qζ 6), .inr (4, [.ref (Gζ 0), .ref (Gζ 1), .ref (Gζ 2), .int 50])), aI g (Gζ 0) 410 fdT, aI g (Gζ 1) 50 twF, aI g (Gζ 2) 10 (lfF 50)] := hD
    obtain rfl := hw
    refine lv_istore_n (lv' := [(2, .int 0), (0, .ref hζ), (1, .int xζ)]) hx hb dX6_ask_30 rfl hl (by decide) rfl (fun ls hl => ?_)
    refine lv_iload_n hx hb dX6_ask_31 rfl (lv_at hl 2 rfl) ?_
    refine lv_if_eq (tgt := 41) hx hb dX6_ask_32 (by decide) (fun c_2 => ?_) (fun c_2 => ?_)
    · refine lv_iload_n hx hb dX6_ask_41 rfl (lv_at hl 0 rfl) ?_
      refine lv_goto (tgt := 53) hx hb dX6_ask_42 (by decide) ?_
      exact r_iret hx hb hr hlk hS () (by unfold askF; rw [if_pos c_1, if_pos c_2]) (hP.sub [] rfl) (hD.sub [] (by decide) rfl) dX6_ask_53
    · refine lv_iload_n hx hb dX6_ask_35 rfl (lv_at hl 0 rfl) ?_
      refine lv_bipush (v := (-6)) hx hb dX6_ask_36 (by decide) ?_
      refine lv_icmp_ne (tgt := 45) hx hb dX6_ask_38 (by decide) (fun c_3 => ?_) (fun c_3 => ?_)
      · refine lv_aload_n hx hb dX6_ask_45 rfl (lv_at hl 1 rfl) ?_
        refine va_get (D := g.1) (ci := 6) (v := .ref (Qζ 6)) (C := RX6) (T := TX6) (N := 8) hx hb hts hi6 hown hK hP 0 rfl rfl 6 (by decide) (hts (.fieldLink RX6 47 "PanTales" "sayings" "LPanTales$Sayings;") (by decide +kernel)) (fun _ h9 => h9) rfl dX6_ask_46 ?_
        refine lv_iload_n hx hb dX6_ask_49 rfl (lv_at hl 0 rfl) ?_
        refine gcV_i (As := [.int 0]) (rest := []) (ci := 4) (q := (RX4, TX4, 4)) F hK hN hP hD hS hA (c_X4_mostLeft l g H.size (Qζ 6) Gζ (lfF 50) 0 (by omega)) gX6_ask_X4_mostLeft kX4_mostLeft rfl rfl rfl rfl ⟨(Nat.le_of_ble_eq_true rfl), (Nat.le_of_ble_eq_true rfl)⟩ [1, 2, 3, 4] [0] rfl rfl rfl (by decide) rfl rfl rfl rfl rfl hl.1 (Nat.le_of_ble_eq_true rfl) dX6_ask_50 ⟨(Nat.le_of_ble_eq_true rfl), (Nat.le_of_ble_eq_true rfl)⟩ (fun r_w u_w H locs hw hP hD hS => ?_)
        have hP : va_P g.1 vwCl [(hζ, .inr (6, [.ref (Qζ 0), .ref (Qζ 1), .ref (Qζ 2), .ref (Qζ 3), .ref (Qζ 4), .ref (Qζ 5), .ref (Qζ 6), .ref (Qζ 7)])), ((Qζ 6), .inr (4, [.ref (Gζ 0), .ref (Gζ 1), .ref (Gζ 2), .int 50])), aI g (Gζ 0) 410 fdT, aI g (Gζ 1) 50 twF, aI g (Gζ 2) 10 (lfF 50)] H := hP
        have hD : va_D Z [(hζ, .inr (6, [.ref (Qζ 0), .ref (Qζ 1), .ref (Qζ 2), .ref (Qζ 3), .ref (Qζ 4), .ref (Qζ 5), .ref (Qζ 6), .ref (Qζ 7)])), ((Qζ 6), .inr (4, [.ref (Gζ 0), .ref (Gζ 1), .ref (Gζ 2), .int 50])), aI g (Gζ 0) 410 fdT, aI g (Gζ 1) 50 twF, aI g (Gζ 2) 10 (lfF 50)] := hD
        obtain rfl := hw
        exact r_iret hx hb hr hlk hS () (by unfold askF; rw [if_pos c_1, if_neg c_2]) (hP.sub [] rfl) (hD.sub [] (by decide) rfl) dX6_ask_53
      · exact absurd c_3 (by decide)
  · have c_1 : inB xζ 0 1 = false := bI_0 c_1
    refine lv_bipush (v := (-2)) hx hb dX6_ask_9 (by decide) ?_
    exact r_iret hx hb hr hlk hS () (by unfold askF; rw [if_neg (bF c_1)]) (hP.sub [] rfl) (hD.sub [] (by decide) rfl) dX6_ask_11

theorem kX6_image : YOk yX6_image 1 := by decide +kernel
theorem kX6_restore : YOk yX6_restore 1 := by decide +kernel
theorem kX6_told : YOk yX6_told 1 := by decide +kernel
set_option maxHeartbeats 4000000 in
set_option maxRecDepth 100000 in
theorem c_X6_image (l : Launch) (g : GT) (sz : Nat) (hζ : Nat) (Qζ Aζ : Nat → Nat) (xζ : Int32) : Mi (S := Unit) l yX6_image wsX6_image { frames := 2, cells := 8, slots := 189, locals := 101 } g sz [.ref hζ, .int xζ] [(hζ, .inr (6, [.ref (Qζ 0), .ref (Qζ 1), .ref (Qζ 2), .ref (Qζ 3), .ref (Qζ 4), .ref (Qζ 5), .ref (Qζ 6), .ref (Qζ 7)])), aQ g (Qζ 2) 2 (fun _ => none), (Qζ 0, .inr (1, oC Aζ iC0)), aI g (Aζ 0) 121 (fun _ => 0), aI g (Aζ 1) 10 (fun _ => 5), aI g (Aζ 2) 10 (fun _ => 0), aI g (Aζ 3) 10 (fun _ => (-6)), aI g (Aζ 4) 10 (fun jζ => nI jζ), aI g (Aζ 5) 8 (fun _ => 0), aI g (Aζ 6) 8 (fun _ => 0)] 8 189 (fun r _ => r = imageF xζ) (fun _ => []) := by
  refine gMet_i (cc := cX6_image) (maxL := 3) (ret := (some .int)) (by decide) rfl (Nat.le_of_ble_eq_true rfl) ?_
  intro p e s m args below meth c Z hx hb hr F hlk hnm hK hN hA H locs hP hD hS ls hl
  have hl : lv_has ls 3 [(0, .ref hζ), (1, .int xζ)] := hl
  have F : CallFix p m c cX6_image 3 s args wsX6_image RX6 := F
  have hts := F.2.2.2.2
  have hown : s.vm.findClass RX6 = some m.cls := F.2.2.2.1
  have hi1 : ∀ w ∈ u_ws RX1 TX1 12, w ∈ wsX6_image := by decide +kernel
  have hi6 : ∀ w ∈ u_ws RX6 TX6 8, w ∈ wsX6_image := by decide +kernel
  refine lv_iload_n hx hb dX6_image_0 rfl (lv_at hl 1 rfl) ?_
  refine lv_iconst (v := 0) hx hb dX6_image_1 (by decide) ?_
  refine lv_iconst (v := 1) hx hb dX6_image_2 (by decide) ?_
  refine gcP (As := [.int xζ, .int 0, .int 1]) (rest := []) F (c_X6_within l xζ 0 1) gX6_image_X6_within kX6_within rfl rfl rfl ⟨(Nat.le_of_ble_eq_true rfl), (Nat.le_of_ble_eq_true rfl)⟩ rfl rfl hl.1 (Nat.le_of_ble_eq_true rfl) dX6_image_3 ⟨(Nat.le_of_ble_eq_true rfl), (Nat.le_of_ble_eq_true rfl)⟩ ?_
  refine lv_if_ne (tgt := 12) hx hb dX6_image_6 (by decide) (fun c_1 => ?_) (fun c_1 => ?_)
  · have c_1 : inB xζ 0 1 = true := bI_1 c_1
    refine lv_aload_n hx hb dX6_image_12 rfl (lv_at hl 0 rfl) ?_
    refine va_get (D := g.1) (ci := 6) (v := .ref (Qζ 2)) (C := RX6) (T := TX6) (N := 8) hx hb hts hi6 hown hK hP 0 rfl rfl 2 (by decide) (hts (.fieldLink RX6 19 "PanTales" "images" "[LPanTales$Close;") (by decide +kernel)) (fun _ h9 => h9) rfl dX6_image_13 ?_
    refine lv_iload_n hx hb dX6_image_16 rfl (lv_at hl 1 rfl) ?_
    refine r_aald hx hb hK hP 1 rfl (by obtain ⟨vζ, hvζ, evζ⟩ := inB_nat (N := 2) (by decide) c_1; rw [evζ]; exact vp_in_nI hvζ (by omega)) rfl dX6_image_17 ?_
    refine lv_astore_nN (lv' := [(2, .null), (0, .ref hζ), (1, .int xζ)]) hx hb dX6_image_18 rfl hl (by decide) rfl (fun ls hl => ?_)
    refine lv_aload_nN hx hb dX6_image_19 rfl (lv_at hl 0 rfl) ?_
    refine lv_ifnonnullN hx hb dX6_image_20 ?_
    refine va_new (D := g.1) (ci := 1) (fs := [.null, .null, .null, .null, .null, .null, .null, .int 0, .int 0, .int 0, .int 0, .int 0]) (C := RX1) (T := TX1) (N := 12) hx hb hts hi1 tyX1 tyX1_ok hown (hts (.classLink RX6 9 RX1) (by decide +kernel)) (hts (.instantiable RX1 12) (by decide +kernel)) (hts (.initialized RX1) (by decide +kernel)) hK hP hD hS hA rfl (by decide +kernel) (Nat.le_of_ble_eq_true rfl) (Nat.le_of_ble_eq_true rfl) dX6_image_23 (fun q_2 H hP hD hS => ?_)
    have hP : va_P g.1 vwCl [(hζ, .inr (6, [.ref (Qζ 0), .ref (Qζ 1), .ref (Qζ 2), .ref (Qζ 3), .ref (Qζ 4), .ref (Qζ 5), .ref (Qζ 6), .ref (Qζ 7)])), aQ g (Qζ 2) 2 (fun _ => none), (Qζ 0, .inr (1, oC Aζ iC0)), aI g (Aζ 0) 121 (fun _ => 0), aI g (Aζ 1) 10 (fun _ => 5), aI g (Aζ 2) 10 (fun _ => 0), aI g (Aζ 3) 10 (fun _ => (-6)), aI g (Aζ 4) 10 (fun jζ => nI jζ), aI g (Aζ 5) 8 (fun _ => 0), aI g (Aζ 6) 8 (fun _ => 0), (q_2, .inr (1, [.null, .null, .null, .null, .null, .null, .null, .int 0, .int 0, .int 0, .int 0, .int 0]))] H := hP
    have hD : va_D Z [(hζ, .inr (6, [.ref (Qζ 0), .ref (Qζ 1), .ref (Qζ 2), .ref (Qζ 3), .ref (Qζ 4), .ref (Qζ 5), .ref (Qζ 6), .ref (Qζ 7)])), aQ g (Qζ 2) 2 (fun _ => none), (Qζ 0, .inr (1, oC Aζ iC0)), aI g (Aζ 0) 121 (fun _ => 0), aI g (Aζ 1) 10 (fun _ => 5), aI g (Aζ 2) 10 (fun _ => 0), aI g (Aζ 3) 10 (fun _ => (-6)), aI g (Aζ 4) 10 (fun jζ => nI jζ), aI g (Aζ 5) 8 (fun _ => 0), aI g (Aζ 6) 8 (fun _ => 0), (q_2, .inr (1, [.null, .null, .null, .null, .null, .null, .null, .int 0, .int 0, .int 0, .int 0, .int 0]))] := hD
    refine W.widen (k := 1) (n := 12) (by decide) (by decide) ?_
    refine lv_dup hx hb dX6_image_26 rfl ?_
    refine gcI_v (As := []) (rest := [.ref q_2]) F hK hN hP hD hS hA (c_X1_init l g H.size q_2) gX6_image_X1_init kX1_init rfl (hts (.initialized RX1) (by decide +kernel)) (hts (.methodLink RX6 11 yX1_init) (by decide +kernel)) (hts (.instanceMethod yX1_init) (by decide +kernel)) rfl rfl rfl ⟨(Nat.le_of_ble_eq_true rfl), (Nat.le_of_ble_eq_true rfl)⟩ [10] [0, 1, 2, 3, 4, 5, 6, 7, 8, 9] rfl rfl rfl (by decide) rfl rfl rfl hl.1 (Nat.le_of_ble_eq_true rfl) dX6_image_27 ⟨(Nat.le_of_ble_eq_true rfl), (Nat.le_of_ble_eq_true rfl)⟩ (fun u_w H locs hw hP hD hS => ?_)
    refine W.widen (k := 8) (n := 189) (by decide) (by decide) ?_
    obtain ⟨A_3, rfl⟩ : ∃ z, z = u_w := ⟨_, rfl⟩
    have hw_4 := hw
    have hP : va_P g.1 vwCl [(hζ, .inr (6, [.ref (Qζ 0), .ref (Qζ 1), .ref (Qζ 2), .ref (Qζ 3), .ref (Qζ 4), .ref (Qζ 5), .ref (Qζ 6), .ref (Qζ 7)])), aQ g (Qζ 2) 2 (fun _ => none), (Qζ 0, .inr (1, oC Aζ iC0)), aI g (Aζ 0) 121 (fun _ => 0), aI g (Aζ 1) 10 (fun _ => 5), aI g (Aζ 2) 10 (fun _ => 0), aI g (Aζ 3) 10 (fun _ => (-6)), aI g (Aζ 4) 10 (fun jζ => nI jζ), aI g (Aζ 5) 8 (fun _ => 0), aI g (Aζ 6) 8 (fun _ => 0), (q_2, .inr (1, oC A_3 iC0)), aI g (A_3 0) 121 (fun _ => 0), aI g (A_3 1) 10 (fun _ => 5), aI g (A_3 2) 10 (fun _ => 0), aI g (A_3 3) 10 (fun _ => (-6)), aI g (A_3 4) 10 (fun jζ => nI jζ), aI g (A_3 5) 8 (fun _ => 0), aI g (A_3 6) 8 (fun _ => 0)] H := hP
    have hD : va_D Z [(hζ, .inr (6, [.ref (Qζ 0), .ref (Qζ 1), .ref (Qζ 2), .ref (Qζ 3), .ref (Qζ 4), .ref (Qζ 5), .ref (Qζ 6), .ref (Qζ 7)])), aQ g (Qζ 2) 2 (fun _ => none), (Qζ 0, .inr (1, oC Aζ iC0)), aI g (Aζ 0) 121 (fun _ => 0), aI g (Aζ 1) 10 (fun _ => 5), aI g (Aζ 2) 10 (fun _ => 0), aI g (Aζ 3) 10 (fun _ => (-6)), aI g (Aζ 4) 10 (fun jζ => nI jζ), aI g (Aζ 5) 8 (fun _ => 0), aI g (Aζ 6) 8 (fun _ => 0), (q_2, .inr (1, oC A_3 iC0)), aI g (A_3 0) 121 (fun _ => 0), aI g (A_3 1) 10 (fun _ => 5), aI g (A_3 2) 10 (fun _ => 0), aI g (A_3 3) 10 (fun _ => (-6)), aI g (A_3 4) 10 (fun jζ => nI jζ), aI g (A_3 5) 8 (fun _ => 0), aI g (A_3 6) 8 (fun _ => 0)] := hD
    refine lv_astore_n (lv' := [(2, .ref q_2), (0, .ref hζ), (1, .int xζ)]) hx hb dX6_image_30 rfl hl (by decide) rfl (fun ls hl => ?_)
    refine lv_aload_n hx hb dX6_image_31 rfl (lv_at hl 1 rfl) ?_
    refine va_get (D := g.1) (ci := 6) (v := .ref (Qζ 2)) (C := RX6) (T := TX6) (N := 8) hx hb hts hi6 hown hK hP 0 rfl rfl 2 (by decide) (hts (.fieldLink RX6 19 "PanTales" "images" "[LPanTales$Close;") (by decide +kernel)) (fun _ h9 => h9) rfl dX6_image_32 ?_
    refine lv_iload_n hx hb dX6_image_35 rfl (lv_at hl 2 rfl) ?_
    refine lv_aload_n hx hb dX6_image_36 rfl (lv_at hl 0 rfl) ?_
    refine va_astq (D := g.1) (cl := vwCl) (r := (RX1, TX1, 12)) hx hb hK hP hD hS 1 3 10 1 rfl rfl rfl rfl (by obtain ⟨vζ, hvζ, evζ⟩ := inB_nat (N := 2) (by decide) c_1; rw [evζ]; exact vp_in_nI hvζ (by omega)) dX6_image_37 (fun H locs hP hD hS => ?_)
    have hP : va_P g.1 vwCl [(hζ, .inr (6, [.ref (Qζ 0), .ref (Qζ 1), .ref (Qζ 2), .ref (Qζ 3), .ref (Qζ 4), .ref (Qζ 5), .ref (Qζ 6), .ref (Qζ 7)])), aQ g (Qζ 2) 2 (va_up (fun _ => none) xζ.toNatClampNeg (some q_2)), (Qζ 0, .inr (1, oC Aζ iC0)), aI g (Aζ 0) 121 (fun _ => 0), aI g (Aζ 1) 10 (fun _ => 5), aI g (Aζ 2) 10 (fun _ => 0), aI g (Aζ 3) 10 (fun _ => (-6)), aI g (Aζ 4) 10 (fun jζ => nI jζ), aI g (Aζ 5) 8 (fun _ => 0), aI g (Aζ 6) 8 (fun _ => 0), (q_2, .inr (1, oC A_3 iC0)), aI g (A_3 0) 121 (fun _ => 0), aI g (A_3 1) 10 (fun _ => 5), aI g (A_3 2) 10 (fun _ => 0), aI g (A_3 3) 10 (fun _ => (-6)), aI g (A_3 4) 10 (fun jζ => nI jζ), aI g (A_3 5) 8 (fun _ => 0), aI g (A_3 6) 8 (fun _ => 0)] H := hP
    have hD : va_D Z [(hζ, .inr (6, [.ref (Qζ 0), .ref (Qζ 1), .ref (Qζ 2), .ref (Qζ 3), .ref (Qζ 4), .ref (Qζ 5), .ref (Qζ 6), .ref (Qζ 7)])), aQ g (Qζ 2) 2 (va_up (fun _ => none) xζ.toNatClampNeg (some q_2)), (Qζ 0, .inr (1, oC Aζ iC0)), aI g (Aζ 0) 121 (fun _ => 0), aI g (Aζ 1) 10 (fun _ => 5), aI g (Aζ 2) 10 (fun _ => 0), aI g (Aζ 3) 10 (fun _ => (-6)), aI g (Aζ 4) 10 (fun jζ => nI jζ), aI g (Aζ 5) 8 (fun _ => 0), aI g (Aζ 6) 8 (fun _ => 0), (q_2, .inr (1, oC A_3 iC0)), aI g (A_3 0) 121 (fun _ => 0), aI g (A_3 1) 10 (fun _ => 5), aI g (A_3 2) 10 (fun _ => 0), aI g (A_3 3) 10 (fun _ => (-6)), aI g (A_3 4) 10 (fun jζ => nI jζ), aI g (A_3 5) 8 (fun _ => 0), aI g (A_3 6) 8 (fun _ => 0)] := hD
    refine lv_aload_n hx hb dX6_image_38 rfl (lv_at hl 0 rfl) ?_
    refine lv_aload_n hx hb dX6_image_39 rfl (lv_at hl 1 rfl) ?_
    refine va_get (D := g.1) (ci := 6) (v := .ref (Qζ 0)) (C := RX6) (T := TX6) (N := 8) hx hb hts hi6 hown hK hP 0 rfl rfl 0 (by decide) (hts (.fieldLink RX6 12 "PanTales" "close" "LPanTales$Close;") (by decide +kernel)) (fun _ h9 => h9) rfl dX6_image_40 ?_
    refine gcV_v (As := [.ref (Qζ 0)]) (rest := []) (ci := 1) (q := (RX1, TX1, 12)) F hK hN hP hD hS hA (c_X1_copyFrom l g H.size q_2 A_3 iC0 (Qζ 0) Aζ iC0 (fun _ => 0) (fun _ => 5) (fun _ => 0) (fun _ => (-6)) (fun jζ => nI jζ) (fun _ => 0) (fun _ => 0) (fun _ => 0) (fun _ => 5) (fun _ => 0) (fun _ => (-6)) (fun jζ => nI jζ) (fun _ => 0) (fun _ => 0)) gX6_image_X1_copyFrom kX1_copyFrom rfl rfl rfl rfl ⟨(Nat.le_of_ble_eq_true rfl), (Nat.le_of_ble_eq_true rfl)⟩ [10, 11, 12, 13, 14, 15, 16, 17, 2, 3, 4, 5, 6, 7, 8, 9] [0, 1] rfl rfl rfl (by decide) rfl rfl rfl rfl rfl hl.1 (Nat.le_of_ble_eq_true rfl) dX6_image_43 ⟨(Nat.le_of_ble_eq_true rfl), (Nat.le_of_ble_eq_true rfl)⟩ (fun u_w H locs hw hP hD hS => ?_)
    have hP : va_P g.1 vwCl [(hζ, .inr (6, [.ref (Qζ 0), .ref (Qζ 1), .ref (Qζ 2), .ref (Qζ 3), .ref (Qζ 4), .ref (Qζ 5), .ref (Qζ 6), .ref (Qζ 7)])), aQ g (Qζ 2) 2 (va_up (fun _ => none) xζ.toNatClampNeg (some q_2)), (q_2, .inr (1, oC A_3 iC0)), aI g (A_3 0) 121 (fun _ => 0), aI g (A_3 1) 10 (fun _ => 5), aI g (A_3 2) 10 (fun _ => 0), aI g (A_3 3) 10 (fun _ => (-6)), aI g (A_3 4) 10 (fun jζ => nI jζ), aI g (A_3 5) 8 (fun _ => 0), aI g (A_3 6) 8 (fun _ => 0), ((Qζ 0), .inr (1, oC Aζ iC0)), aI g (Aζ 0) 121 (fun _ => 0), aI g (Aζ 1) 10 (fun _ => 5), aI g (Aζ 2) 10 (fun _ => 0), aI g (Aζ 3) 10 (fun _ => (-6)), aI g (Aζ 4) 10 (fun jζ => nI jζ), aI g (Aζ 5) 8 (fun _ => 0), aI g (Aζ 6) 8 (fun _ => 0)] H := hP
    have hD : va_D Z [(hζ, .inr (6, [.ref (Qζ 0), .ref (Qζ 1), .ref (Qζ 2), .ref (Qζ 3), .ref (Qζ 4), .ref (Qζ 5), .ref (Qζ 6), .ref (Qζ 7)])), aQ g (Qζ 2) 2 (va_up (fun _ => none) xζ.toNatClampNeg (some q_2)), (q_2, .inr (1, oC A_3 iC0)), aI g (A_3 0) 121 (fun _ => 0), aI g (A_3 1) 10 (fun _ => 5), aI g (A_3 2) 10 (fun _ => 0), aI g (A_3 3) 10 (fun _ => (-6)), aI g (A_3 4) 10 (fun jζ => nI jζ), aI g (A_3 5) 8 (fun _ => 0), aI g (A_3 6) 8 (fun _ => 0), ((Qζ 0), .inr (1, oC Aζ iC0)), aI g (Aζ 0) 121 (fun _ => 0), aI g (Aζ 1) 10 (fun _ => 5), aI g (Aζ 2) 10 (fun _ => 0), aI g (Aζ 3) 10 (fun _ => (-6)), aI g (Aζ 4) 10 (fun jζ => nI jζ), aI g (Aζ 5) 8 (fun _ => 0), aI g (Aζ 6) 8 (fun _ => 0)] := hD
    refine lv_iconst (v := 1) hx hb dX6_image_46 (by decide) ?_
    exact r_iret hx hb hr hlk hS () (by unfold imageF; rw [if_pos c_1]) (hP.sub [] rfl) (hD.sub [] (by decide) rfl) dX6_image_47
  · have c_1 : inB xζ 0 1 = false := bI_0 c_1
    refine lv_bipush (v := (-2)) hx hb dX6_image_9 (by decide) ?_
    refine W.widen (k := 8) (n := 189) (by decide) (by decide) ?_
    exact r_iret hx hb hr hlk hS () (by unfold imageF; rw [if_neg (bF c_1)]) (hP.sub [] rfl) (hD.sub [] (by decide) rfl) dX6_image_11
set_option maxHeartbeats 4000000 in
set_option maxRecDepth 100000 in
theorem c_X6_restore (l : Launch) (g : GT) (sz : Nat) (hζ : Nat) (Qζ Aζ : Nat → Nat) (xζ : Int32) : Ci l yX6_restore wsX6_restore { frames := 1, cells := 0, slots := 0, locals := 22 } g sz [.ref hζ, .int xζ] [(hζ, .inr (6, [.ref (Qζ 0), .ref (Qζ 1), .ref (Qζ 2), .ref (Qζ 3), .ref (Qζ 4), .ref (Qζ 5), .ref (Qζ 6), .ref (Qζ 7)])), aQ g (Qζ 2) 2 (fun _ => none)] (restoreF xζ) [] := by
  refine gMet_i (cc := cX6_restore) (maxL := 3) (ret := (some .int)) (by decide) rfl (Nat.le_of_ble_eq_true rfl) ?_
  intro p e s m args below meth c Z hx hb hr F hlk hnm hK hN hA H locs hP hD hS ls hl
  have hl : lv_has ls 3 [(0, .ref hζ), (1, .int xζ)] := hl
  have F : CallFix p m c cX6_restore 3 s args wsX6_restore RX6 := F
  have hts := F.2.2.2.2
  have hown : s.vm.findClass RX6 = some m.cls := F.2.2.2.1
  have hi6 : ∀ w ∈ u_ws RX6 TX6 8, w ∈ wsX6_restore := by decide +kernel
  refine lv_iload_n hx hb dX6_restore_0 rfl (lv_at hl 1 rfl) ?_
  refine lv_iconst (v := 0) hx hb dX6_restore_1 (by decide) ?_
  refine lv_iconst (v := 1) hx hb dX6_restore_2 (by decide) ?_
  refine gcP (As := [.int xζ, .int 0, .int 1]) (rest := []) F (c_X6_within l xζ 0 1) gX6_restore_X6_within kX6_within rfl rfl rfl ⟨(Nat.le_of_ble_eq_true rfl), (Nat.le_of_ble_eq_true rfl)⟩ rfl rfl hl.1 (Nat.le_of_ble_eq_true rfl) dX6_restore_3 ⟨(Nat.le_of_ble_eq_true rfl), (Nat.le_of_ble_eq_true rfl)⟩ ?_
  refine lv_if_ne (tgt := 12) hx hb dX6_restore_6 (by decide) (fun c_1 => ?_) (fun c_1 => ?_)
  · have c_1 : inB xζ 0 1 = true := bI_1 c_1
    refine lv_aload_n hx hb dX6_restore_12 rfl (lv_at hl 0 rfl) ?_
    refine va_get (D := g.1) (ci := 6) (v := .ref (Qζ 2)) (C := RX6) (T := TX6) (N := 8) hx hb hts hi6 hown hK hP 0 rfl rfl 2 (by decide) (hts (.fieldLink RX6 19 "PanTales" "images" "[LPanTales$Close;") (by decide +kernel)) (fun _ h9 => h9) rfl dX6_restore_13 ?_
    refine lv_iload_n hx hb dX6_restore_16 rfl (lv_at hl 1 rfl) ?_
    refine r_aald hx hb hK hP 1 rfl (by obtain ⟨vζ, hvζ, evζ⟩ := inB_nat (N := 2) (by decide) c_1; rw [evζ]; exact vp_in_nI hvζ (by omega)) rfl dX6_restore_17 ?_
    refine lv_astore_nN (lv' := [(2, .null), (0, .ref hζ), (1, .int xζ)]) hx hb dX6_restore_18 rfl hl (by decide) rfl (fun ls hl => ?_)
    refine lv_aload_nN hx hb dX6_restore_19 rfl (lv_at hl 0 rfl) ?_
    refine lv_ifnonnullN hx hb dX6_restore_20 ?_
    refine lv_bipush (v := (-3)) hx hb dX6_restore_23 (by decide) ?_
    exact r_iret hx hb hr hlk hS () (by unfold restoreF; rw [if_pos c_1]) (hP.sub [] rfl) (hD.sub [] (by decide) rfl) dX6_restore_25
  · have c_1 : inB xζ 0 1 = false := bI_0 c_1
    refine lv_bipush (v := (-2)) hx hb dX6_restore_9 (by decide) ?_
    exact r_iret hx hb hr hlk hS () (by unfold restoreF; rw [if_neg (bF c_1)]) (hP.sub [] rfl) (hD.sub [] (by decide) rfl) dX6_restore_11
set_option maxHeartbeats 4000000 in
set_option maxRecDepth 100000 in
theorem c_X6_told (l : Launch) (g : GT) (sz : Nat) (hζ : Nat) (Qζ Aζ : Nat → Nat) (qζ : Nat) (xζ : Int32) : Ci l yX6_told wsX6_told { frames := 3, cells := 0, slots := 0, locals := 63 } g sz [.ref hζ, .int xζ] [(hζ, .inr (6, [.ref (Qζ 0), .ref (Qζ 1), .ref (Qζ 2), .ref (Qζ 3), .ref (Qζ 4), .ref (Qζ 5), .ref (Qζ 6), .ref (Qζ 7)])), (Qζ 3, .inr (3, [.ref qζ, .int 0])), (Qζ 0, .inr (1, oC Aζ iC0)), aI g (Aζ 0) 121 (fun _ => 0), aI g (Aζ 1) 10 (fun _ => 5), aI g (Aζ 2) 10 (fun _ => 0), aI g (Aζ 3) 10 (fun _ => (-6)), aI g (Aζ 4) 10 (fun jζ => nI jζ)] (toldF xζ) [] := by
  refine gMet_i (cc := cX6_told) (maxL := 3) (ret := (some .int)) (by decide) rfl (Nat.le_of_ble_eq_true rfl) ?_
  intro p e s m args below meth c Z hx hb hr F hlk hnm hK hN hA H locs hP hD hS ls hl
  have hl : lv_has ls 3 [(0, .ref hζ), (1, .int xζ)] := hl
  have F : CallFix p m c cX6_told 3 s args wsX6_told RX6 := F
  have hts := F.2.2.2.2
  have hown : s.vm.findClass RX6 = some m.cls := F.2.2.2.1
  have hi6 : ∀ w ∈ u_ws RX6 TX6 8, w ∈ wsX6_told := by decide +kernel
  refine lv_iload_n hx hb dX6_told_0 rfl (lv_at hl 1 rfl) ?_
  refine lv_if_ne (tgt := 12) hx hb dX6_told_1 (by decide) (fun c_1 => ?_) (fun c_1 => ?_)
  · refine lv_iload_n hx hb dX6_told_12 rfl (lv_at hl 1 rfl) ?_
    refine lv_iconst (v := 1) hx hb dX6_told_13 (by decide) ?_
    refine lv_iconst (v := 4) hx hb dX6_told_14 (by decide) ?_
    refine gcP (As := [.int xζ, .int 1, .int 4]) (rest := []) F (c_X6_within l xζ 1 4) gX6_told_X6_within kX6_within rfl rfl rfl ⟨(Nat.le_of_ble_eq_true rfl), (Nat.le_of_ble_eq_true rfl)⟩ rfl rfl hl.1 (Nat.le_of_ble_eq_true rfl) dX6_told_15 ⟨(Nat.le_of_ble_eq_true rfl), (Nat.le_of_ble_eq_true rfl)⟩ ?_
    refine lv_if_eq (tgt := 32) hx hb dX6_told_18 (by decide) (fun c_2 => ?_) (fun c_2 => ?_)
    · have c_2 : inB xζ 1 4 = false := bI_0 c_2
      refine lv_iload_n hx hb dX6_told_32 rfl (lv_at hl 1 rfl) ?_
      refine lv_iconst (v := 5) hx hb dX6_told_33 (by decide) ?_
      refine lv_icmp_ne (tgt := 45) hx hb dX6_told_34 (by decide) (fun c_3 => ?_) (fun c_3 => ?_)
      · refine lv_iload_n hx hb dX6_told_45 rfl (lv_at hl 1 rfl) ?_
        refine lv_bipush (v := 10) hx hb dX6_told_46 (by decide) ?_
        refine lv_bipush (v := 19) hx hb dX6_told_48 (by decide) ?_
        refine gcP (As := [.int xζ, .int 10, .int 19]) (rest := []) F (c_X6_within l xζ 10 19) gX6_told_X6_within kX6_within rfl rfl rfl ⟨(Nat.le_of_ble_eq_true rfl), (Nat.le_of_ble_eq_true rfl)⟩ rfl rfl hl.1 (Nat.le_of_ble_eq_true rfl) dX6_told_50 ⟨(Nat.le_of_ble_eq_true rfl), (Nat.le_of_ble_eq_true rfl)⟩ ?_
        refine lv_if_eq (tgt := 68) hx hb dX6_told_53 (by decide) (fun c_4 => ?_) (fun c_4 => ?_)
        · have c_4 : inB xζ 10 19 = false := bI_0 c_4
          refine lv_iload_n hx hb dX6_told_68 rfl (lv_at hl 1 rfl) ?_
          refine lv_bipush (v := 100) hx hb dX6_told_69 (by decide) ?_
          refine lv_sipush (v := 199) hx hb dX6_told_71 (by decide) ?_
          refine gcP (As := [.int xζ, .int 100, .int 199]) (rest := []) F (c_X6_within l xζ 100 199) gX6_told_X6_within kX6_within rfl rfl rfl ⟨(Nat.le_of_ble_eq_true rfl), (Nat.le_of_ble_eq_true rfl)⟩ rfl rfl hl.1 (Nat.le_of_ble_eq_true rfl) dX6_told_74 ⟨(Nat.le_of_ble_eq_true rfl), (Nat.le_of_ble_eq_true rfl)⟩ ?_
          refine lv_if_eq (tgt := 107) hx hb dX6_told_77 (by decide) (fun c_5 => ?_) (fun c_5 => ?_)
          · have c_5 : inB xζ 100 199 = false := bI_0 c_5
            refine lv_iload_n hx hb dX6_told_107 rfl (lv_at hl 1 rfl) ?_
            refine lv_sipush (v := 1000) hx hb dX6_told_108 (by decide) ?_
            refine lv_sipush (v := 1219) hx hb dX6_told_111 (by decide) ?_
            refine gcP (As := [.int xζ, .int 1000, .int 1219]) (rest := []) F (c_X6_within l xζ 1000 1219) gX6_told_X6_within kX6_within rfl rfl rfl ⟨(Nat.le_of_ble_eq_true rfl), (Nat.le_of_ble_eq_true rfl)⟩ rfl rfl hl.1 (Nat.le_of_ble_eq_true rfl) dX6_told_114 ⟨(Nat.le_of_ble_eq_true rfl), (Nat.le_of_ble_eq_true rfl)⟩ ?_
            refine lv_if_eq (tgt := 138) hx hb dX6_told_117 (by decide) (fun c_6 => ?_) (fun c_6 => ?_)
            · have c_6 : inB xζ 1000 1219 = false := bI_0 c_6
              refine lv_iconst (v := 0) hx hb dX6_told_138 (by decide) ?_
              refine lv_istore_n (lv' := [(2, .int 0), (0, .ref hζ), (1, .int xζ)]) hx hb dX6_told_139 rfl hl (by decide) rfl (fun ls hl => ?_)
              refine lv_iload_n hx hb dX6_told_140 rfl (lv_at hl 0 rfl) ?_
              refine lv_if_eq (tgt := 170) hx hb dX6_told_141 (by decide) (fun c_7 => ?_) (fun c_7 => ?_)
              · refine lv_bipush (v := (-2)) hx hb dX6_told_170 (by decide) ?_
                exact r_iret hx hb hr hlk hS () (by unfold toldF; rw [if_neg c_1, if_neg (bF c_2), if_neg c_3, if_neg (bF c_4), if_neg (bF c_5), if_neg (bF c_6)]) (hP.sub [] rfl) (hD.sub [] (by decide) rfl) dX6_told_172
              · exact absurd (by decide) c_7
            · have c_6 : inB xζ 1000 1219 = true := bI_1 c_6
              obtain ⟨vζ, h1vζ, hvζ, evζ⟩ := inBk_nat (a := 1000) (N := 1220) (by decide) (by decide) c_6
              have hl : lv_has ls 3 [(0, .ref hζ), (1, .int (nI vζ))] := by first | exact hl | (rw [← (evζ : xζ = nI vζ)]; exact hl)
              refine lv_iload_n hx hb dX6_told_120 rfl (lv_at hl 1 rfl) ?_
              refine lv_sipush (v := 1000) hx hb dX6_told_121 (by decide) ?_
              refine lv_isub hx hb dX6_told_124 ?_
              refine gtop (y := nI (vζ - 1000)) (pk_sub (a := vζ) (b := 1000) (by omega)) ?_
              refine lv_bipush (v := 20) hx hb dX6_told_125 (by decide) ?_
              refine lv_irem hx hb dX6_told_127 (by decide) ?_
              refine gtop (y := nI ((vζ - 1000) % 20)) (pk_rem (a := vζ - 1000) (d := 20) (by omega) (by omega) (by omega)) ?_
              refine gcP (As := [.int (nI ((vζ - 1000) % 20))]) (rest := []) F (c_X6_isPlace l (nI ((vζ - 1000) % 20))) gX6_told_X6_isPlace kX6_isPlace rfl rfl rfl ⟨(Nat.le_of_ble_eq_true rfl), (Nat.le_of_ble_eq_true rfl)⟩ rfl rfl hl.1 (Nat.le_of_ble_eq_true rfl) dX6_told_128 ⟨(Nat.le_of_ble_eq_true rfl), (Nat.le_of_ble_eq_true rfl)⟩ ?_
              refine lv_if_eq (tgt := 138) hx hb dX6_told_131 (by decide) (fun c_8 => ?_) (fun c_8 => ?_)
              · have c_8 : inB (nI ((vζ - 1000) % 20)) 0 10 = false := bI_0 c_8
                have hplζ : ¬ (vζ - 1000) % 20 < 11 := by have z := c_8; rw [inB_nI (N := 11) (by decide) (by omega)] at z; exact of_decide_eq_false z
                refine lv_iconst (v := 0) hx hb dX6_told_138 (by decide) ?_
                refine lv_istore_n (lv' := [(2, .int 0), (0, .ref hζ), (1, .int (nI vζ))]) hx hb dX6_told_139 rfl hl (by decide) rfl (fun ls hl => ?_)
                refine lv_iload_n hx hb dX6_told_140 rfl (lv_at hl 0 rfl) ?_
                refine lv_if_eq (tgt := 170) hx hb dX6_told_141 (by decide) (fun c_9 => ?_) (fun c_9 => ?_)
                · refine lv_bipush (v := (-2)) hx hb dX6_told_170 (by decide) ?_
                  exact r_iret hx hb hr hlk hS () (by unfold toldF; rw [if_neg c_1, if_neg (bF c_2), if_neg c_3, if_neg (bF c_4), if_neg (bF c_5), if_pos c_6, evζ, nI_clamp (n := vζ) (by omega)]; unfold tdR; rw [if_neg (by omega)]) (hP.sub [] rfl) (hD.sub [] (by decide) rfl) dX6_told_172
                · exact absurd (by decide) c_9
              · have c_8 : inB (nI ((vζ - 1000) % 20)) 0 10 = true := bI_1 c_8
                have hplζ : (vζ - 1000) % 20 < 11 := by have z := c_8; rw [inB_nI (N := 11) (by decide) (by omega)] at z; exact of_decide_eq_true z
                refine lv_iconst (v := 1) hx hb dX6_told_134 (by decide) ?_
                refine lv_goto (tgt := 139) hx hb dX6_told_135 (by decide) ?_
                refine lv_istore_n (lv' := [(2, .int 1), (0, .ref hζ), (1, .int (nI vζ))]) hx hb dX6_told_139 rfl hl (by decide) rfl (fun ls hl => ?_)
                refine lv_iload_n hx hb dX6_told_140 rfl (lv_at hl 0 rfl) ?_
                refine lv_if_eq (tgt := 170) hx hb dX6_told_141 (by decide) (fun c_10 => ?_) (fun c_10 => ?_)
                · exact absurd c_10 (by decide)
                · refine lv_aload_n hx hb dX6_told_144 rfl (lv_at hl 1 rfl) ?_
                  refine va_get (D := g.1) (ci := 6) (v := .ref (Qζ 0)) (C := RX6) (T := TX6) (N := 8) hx hb hts hi6 hown hK hP 0 rfl rfl 0 (by decide) (hts (.fieldLink RX6 12 "PanTales" "close" "LPanTales$Close;") (by decide +kernel)) (fun _ h9 => h9) rfl dX6_told_145 ?_
                  refine lv_iload_n hx hb dX6_told_148 rfl (lv_at hl 2 rfl) ?_
                  refine lv_sipush (v := 1000) hx hb dX6_told_149 (by decide) ?_
                  refine lv_isub hx hb dX6_told_152 ?_
                  refine gtop (y := nI (vζ - 1000)) (pk_sub (a := vζ) (b := 1000) (by omega)) ?_
                  refine lv_bipush (v := 20) hx hb dX6_told_153 (by decide) ?_
                  refine lv_idiv hx hb dX6_told_155 (by decide) ?_
                  refine gtop (y := nI ((vζ - 1000) / 20)) (pk_div (a := vζ - 1000) (d := 20) (by omega) (by omega) (by omega)) ?_
                  refine lv_iload_n hx hb dX6_told_156 rfl (lv_at hl 2 rfl) ?_
                  refine lv_sipush (v := 1000) hx hb dX6_told_157 (by decide) ?_
                  refine lv_isub hx hb dX6_told_160 ?_
                  refine gtop (y := nI (vζ - 1000)) (pk_sub (a := vζ) (b := 1000) (by omega)) ?_
                  refine lv_bipush (v := 20) hx hb dX6_told_161 (by decide) ?_
                  refine lv_irem hx hb dX6_told_163 (by decide) ?_
                  refine gtop (y := nI ((vζ - 1000) % 20)) (pk_rem (a := vζ - 1000) (d := 20) (by omega) (by omega) (by omega)) ?_
                  refine gcV_i (As := [.int (nI ((vζ - 1000) / 20)), .int (nI ((vζ - 1000) % 20))]) (rest := []) (ci := 1) (q := (RX1, TX1, 12)) F hK hN hP hD hS hA (c_X1_longBetween l g H.size (Qζ 0) Aζ iC0 (fun _ => 0) ((vζ - 1000) / 20) ((vζ - 1000) % 20) (by omega) (by omega)) gX6_told_X1_longBetween kX1_longBetween rfl rfl rfl rfl ⟨(Nat.le_of_ble_eq_true rfl), (Nat.le_of_ble_eq_true rfl)⟩ [2, 3] [0, 1, 4, 5, 6, 7] rfl rfl rfl (by decide) rfl rfl rfl rfl rfl hl.1 (Nat.le_of_ble_eq_true rfl) dX6_told_164 ⟨(Nat.le_of_ble_eq_true rfl), (Nat.le_of_ble_eq_true rfl)⟩ (fun r_w u_w H locs hw hP hD hS => ?_)
                  have hP : va_P g.1 vwCl [(hζ, .inr (6, [.ref (Qζ 0), .ref (Qζ 1), .ref (Qζ 2), .ref (Qζ 3), .ref (Qζ 4), .ref (Qζ 5), .ref (Qζ 6), .ref (Qζ 7)])), (Qζ 3, .inr (3, [.ref qζ, .int 0])), aI g (Aζ 1) 10 (fun _ => 5), aI g (Aζ 2) 10 (fun _ => 0), aI g (Aζ 3) 10 (fun _ => (-6)), aI g (Aζ 4) 10 (fun jζ => nI jζ), ((Qζ 0), .inr (1, oC Aζ iC0)), aI g (Aζ 0) 121 (fun _ => 0)] H := hP
                  have hD : va_D Z [(hζ, .inr (6, [.ref (Qζ 0), .ref (Qζ 1), .ref (Qζ 2), .ref (Qζ 3), .ref (Qζ 4), .ref (Qζ 5), .ref (Qζ 6), .ref (Qζ 7)])), (Qζ 3, .inr (3, [.ref qζ, .int 0])), aI g (Aζ 1) 10 (fun _ => 5), aI g (Aζ 2) 10 (fun _ => 0), aI g (Aζ 3) 10 (fun _ => (-6)), aI g (Aζ 4) 10 (fun jζ => nI jζ), ((Qζ 0), .inr (1, oC Aζ iC0)), aI g (Aζ 0) 121 (fun _ => 0)] := hD
                  obtain rfl := hw
                  refine gtop (y := 0) rfl ?_
                  refine lv_goto (tgt := 172) hx hb dX6_told_167 (by decide) ?_
                  exact r_iret hx hb hr hlk hS () (by unfold toldF; rw [if_neg c_1, if_neg (bF c_2), if_neg c_3, if_neg (bF c_4), if_neg (bF c_5), if_pos c_6, evζ, nI_clamp (n := vζ) (by omega)]; unfold tdR; rw [if_pos (by omega)]) (hP.sub [] rfl) (hD.sub [] (by decide) rfl) dX6_told_172
          · have c_5 : inB xζ 100 199 = true := bI_1 c_5
            obtain ⟨vζ, h1vζ, hvζ, evζ⟩ := inBk_nat (a := 100) (N := 200) (by decide) (by decide) c_5
            have hl : lv_has ls 3 [(0, .ref hζ), (1, .int (nI vζ))] := by first | exact hl | (rw [← (evζ : xζ = nI vζ)]; exact hl)
            refine lv_iload_n hx hb dX6_told_80 rfl (lv_at hl 1 rfl) ?_
            refine lv_bipush (v := 10) hx hb dX6_told_81 (by decide) ?_
            refine lv_irem hx hb dX6_told_83 (by decide) ?_
            refine gtop (y := nI (vζ % 10)) (pk_rem (a := vζ) (d := 10) (by omega) (by omega) (by omega)) ?_
            refine lv_iconst (v := 2) hx hb dX6_told_84 (by decide) ?_
            refine lv_icmp_gt (tgt := 107) hx hb dX6_told_85 (by decide) (fun c_11 => ?_) (fun c_11 => ?_)
            · have c_11 : 2 < (vζ % 10) := (nI_ltI (a := 2) (b := (vζ % 10)) (by omega) (by omega)).mp c_11
              refine lv_iload_n hx hb dX6_told_107 rfl (lv_at hl 1 rfl) ?_
              refine lv_sipush (v := 1000) hx hb dX6_told_108 (by decide) ?_
              refine lv_sipush (v := 1219) hx hb dX6_told_111 (by decide) ?_
              refine gcP (As := [.int (nI vζ), .int 1000, .int 1219]) (rest := []) F (c_X6_within l (nI vζ) 1000 1219) gX6_told_X6_within kX6_within rfl rfl rfl ⟨(Nat.le_of_ble_eq_true rfl), (Nat.le_of_ble_eq_true rfl)⟩ rfl rfl hl.1 (Nat.le_of_ble_eq_true rfl) dX6_told_114 ⟨(Nat.le_of_ble_eq_true rfl), (Nat.le_of_ble_eq_true rfl)⟩ ?_
              refine lv_if_eq (tgt := 138) hx hb dX6_told_117 (by decide) (fun c_12 => ?_) (fun c_12 => ?_)
              · have c_12 : inB (nI vζ) 1000 1219 = false := bI_0 c_12
                refine lv_iconst (v := 0) hx hb dX6_told_138 (by decide) ?_
                refine lv_istore_n (lv' := [(2, .int 0), (0, .ref hζ), (1, .int (nI vζ))]) hx hb dX6_told_139 rfl hl (by decide) rfl (fun ls hl => ?_)
                refine lv_iload_n hx hb dX6_told_140 rfl (lv_at hl 0 rfl) ?_
                refine lv_if_eq (tgt := 170) hx hb dX6_told_141 (by decide) (fun c_13 => ?_) (fun c_13 => ?_)
                · refine lv_bipush (v := (-2)) hx hb dX6_told_170 (by decide) ?_
                  exact r_iret hx hb hr hlk hS () (by unfold toldF; rw [if_neg c_1, if_neg (bF c_2), if_neg c_3, if_neg (bF c_4), if_pos c_5, evζ, nI_clamp (n := vζ) (by omega)]; unfold tdH; rw [if_neg (by omega)]) (hP.sub [] rfl) (hD.sub [] (by decide) rfl) dX6_told_172
                · exact absurd (by decide) c_13
              · exact absurd (bI_1 c_12) (by rw [inB_nIk (a := 1000) (N := 1220) (by decide) (by decide) (by omega), decide_eq_false (by omega)]; decide)
            · have c_11 : ¬ 2 < (vζ % 10) := fun z => c_11 ((nI_ltI (a := 2) (b := (vζ % 10)) (by omega) (by omega)).mpr z)
              refine lv_aload_n hx hb dX6_told_88 rfl (lv_at hl 0 rfl) ?_
              refine va_get (D := g.1) (ci := 6) (v := .ref (Qζ 0)) (C := RX6) (T := TX6) (N := 8) hx hb hts hi6 hown hK hP 0 rfl rfl 0 (by decide) (hts (.fieldLink RX6 12 "PanTales" "close" "LPanTales$Close;") (by decide +kernel)) (fun _ h9 => h9) rfl dX6_told_89 ?_
              refine lv_iload_n hx hb dX6_told_92 rfl (lv_at hl 1 rfl) ?_
              refine lv_bipush (v := 100) hx hb dX6_told_93 (by decide) ?_
              refine lv_isub hx hb dX6_told_95 ?_
              refine gtop (y := nI (vζ - 100)) (pk_sub (a := vζ) (b := 100) (by omega)) ?_
              refine lv_bipush (v := 10) hx hb dX6_told_96 (by decide) ?_
              refine lv_idiv hx hb dX6_told_98 (by decide) ?_
              refine gtop (y := nI ((vζ - 100) / 10)) (pk_div (a := vζ - 100) (d := 10) (by omega) (by omega) (by omega)) ?_
              refine lv_iload_n hx hb dX6_told_99 rfl (lv_at hl 1 rfl) ?_
              refine lv_bipush (v := 10) hx hb dX6_told_100 (by decide) ?_
              refine lv_irem hx hb dX6_told_102 (by decide) ?_
              refine gtop (y := nI (vζ % 10)) (pk_rem (a := vζ) (d := 10) (by omega) (by omega) (by omega)) ?_
              refine gcV_i (As := [.int (nI ((vζ - 100) / 10)), .int (nI (vζ % 10))]) (rest := []) (ci := 1) (q := (RX1, TX1, 12)) F hK hN hP hD hS hA (c_X1_houseFact l g H.size (Qζ 0) Aζ iC0 (fun _ => 5) (fun _ => 0) (fun _ => (-6)) ((vζ - 100) / 10) (nI (vζ % 10)) (by omega)) gX6_told_X1_houseFact kX1_houseFact rfl rfl rfl rfl ⟨(Nat.le_of_ble_eq_true rfl), (Nat.le_of_ble_eq_true rfl)⟩ [2, 4, 5, 6] [0, 1, 3, 7] rfl rfl rfl (by decide) rfl rfl rfl rfl rfl hl.1 (Nat.le_of_ble_eq_true rfl) dX6_told_103 ⟨(Nat.le_of_ble_eq_true rfl), (Nat.le_of_ble_eq_true rfl)⟩ (fun r_w u_w H locs hw hP hD hS => ?_)
              have hP : va_P g.1 vwCl [(hζ, .inr (6, [.ref (Qζ 0), .ref (Qζ 1), .ref (Qζ 2), .ref (Qζ 3), .ref (Qζ 4), .ref (Qζ 5), .ref (Qζ 6), .ref (Qζ 7)])), (Qζ 3, .inr (3, [.ref qζ, .int 0])), aI g (Aζ 0) 121 (fun _ => 0), aI g (Aζ 4) 10 (fun jζ => nI jζ), ((Qζ 0), .inr (1, oC Aζ iC0)), aI g (Aζ 1) 10 (fun _ => 5), aI g (Aζ 2) 10 (fun _ => 0), aI g (Aζ 3) 10 (fun _ => (-6))] H := hP
              have hD : va_D Z [(hζ, .inr (6, [.ref (Qζ 0), .ref (Qζ 1), .ref (Qζ 2), .ref (Qζ 3), .ref (Qζ 4), .ref (Qζ 5), .ref (Qζ 6), .ref (Qζ 7)])), (Qζ 3, .inr (3, [.ref qζ, .int 0])), aI g (Aζ 0) 121 (fun _ => 0), aI g (Aζ 4) 10 (fun jζ => nI jζ), ((Qζ 0), .inr (1, oC Aζ iC0)), aI g (Aζ 1) 10 (fun _ => 5), aI g (Aζ 2) 10 (fun _ => 0), aI g (Aζ 3) 10 (fun _ => (-6))] := hD
              obtain rfl := hw
              exact r_iret hx hb hr hlk hS () (by unfold toldF; rw [if_neg c_1, if_neg (bF c_2), if_neg c_3, if_neg (bF c_4), if_pos c_5, evζ, nI_clamp (n := vζ) (by omega)]; exact td_h (by omega) c_11) (hP.sub [] rfl) (hD.sub [] (by decide) rfl) dX6_told_106
        · have c_4 : inB xζ 10 19 = true := bI_1 c_4
          refine lv_aload_n hx hb dX6_told_56 rfl (lv_at hl 0 rfl) ?_
          refine va_get (D := g.1) (ci := 6) (v := .ref (Qζ 0)) (C := RX6) (T := TX6) (N := 8) hx hb hts hi6 hown hK hP 0 rfl rfl 0 (by decide) (hts (.fieldLink RX6 12 "PanTales" "close" "LPanTales$Close;") (by decide +kernel)) (fun _ h9 => h9) rfl dX6_told_57 ?_
          refine lv_iload_n hx hb dX6_told_60 rfl (lv_at hl 1 rfl) ?_
          refine lv_bipush (v := 10) hx hb dX6_told_61 (by decide) ?_
          refine lv_isub hx hb dX6_told_63 ?_
          refine gcV_i (As := [.int (xζ - 10)]) (rest := []) (ci := 1) (q := (RX1, TX1, 12)) F hK hN hP hD hS hA (c_X1_fadesInto l g H.size (Qζ 0) Aζ iC0 (fun jζ => nI jζ) (xζ - 10)) gX6_told_X1_fadesInto kX1_fadesInto rfl rfl rfl rfl ⟨(Nat.le_of_ble_eq_true rfl), (Nat.le_of_ble_eq_true rfl)⟩ [2, 7] [0, 1, 3, 4, 5, 6] rfl rfl rfl (by decide) rfl rfl rfl rfl rfl hl.1 (Nat.le_of_ble_eq_true rfl) dX6_told_64 ⟨(Nat.le_of_ble_eq_true rfl), (Nat.le_of_ble_eq_true rfl)⟩ (fun r_w u_w H locs hw hP hD hS => ?_)
          have hP : va_P g.1 vwCl [(hζ, .inr (6, [.ref (Qζ 0), .ref (Qζ 1), .ref (Qζ 2), .ref (Qζ 3), .ref (Qζ 4), .ref (Qζ 5), .ref (Qζ 6), .ref (Qζ 7)])), (Qζ 3, .inr (3, [.ref qζ, .int 0])), aI g (Aζ 0) 121 (fun _ => 0), aI g (Aζ 1) 10 (fun _ => 5), aI g (Aζ 2) 10 (fun _ => 0), aI g (Aζ 3) 10 (fun _ => (-6)), ((Qζ 0), .inr (1, oC Aζ iC0)), aI g (Aζ 4) 10 (fun jζ => nI jζ)] H := hP
          have hD : va_D Z [(hζ, .inr (6, [.ref (Qζ 0), .ref (Qζ 1), .ref (Qζ 2), .ref (Qζ 3), .ref (Qζ 4), .ref (Qζ 5), .ref (Qζ 6), .ref (Qζ 7)])), (Qζ 3, .inr (3, [.ref qζ, .int 0])), aI g (Aζ 0) 121 (fun _ => 0), aI g (Aζ 1) 10 (fun _ => 5), aI g (Aζ 2) 10 (fun _ => 0), aI g (Aζ 3) 10 (fun _ => (-6)), ((Qζ 0), .inr (1, oC Aζ iC0)), aI g (Aζ 4) 10 (fun jζ => nI jζ)] := hD
          obtain rfl := hw
          exact r_iret hx hb hr hlk hS () (by unfold toldF; rw [if_neg c_1, if_neg (bF c_2), if_neg c_3, if_pos c_4]) (hP.sub [] rfl) (hD.sub [] (by decide) rfl) dX6_told_67
      · refine lv_aload_n hx hb dX6_told_37 rfl (lv_at hl 0 rfl) ?_
        refine va_get (D := g.1) (ci := 6) (v := .ref (Qζ 0)) (C := RX6) (T := TX6) (N := 8) hx hb hts hi6 hown hK hP 0 rfl rfl 0 (by decide) (hts (.fieldLink RX6 12 "PanTales" "close" "LPanTales$Close;") (by decide +kernel)) (fun _ h9 => h9) rfl dX6_told_38 ?_
        refine gcV_i (As := []) (rest := []) (ci := 1) (q := (RX1, TX1, 12)) F hK hN hP hD hS hA (c_X1_sightCount l g H.size (Qζ 0) Aζ iC0) gX6_told_X1_sightCount kX1_sightCount rfl rfl rfl rfl ⟨(Nat.le_of_ble_eq_true rfl), (Nat.le_of_ble_eq_true rfl)⟩ [2] [0, 1, 3, 4, 5, 6, 7] rfl rfl rfl (by decide) rfl rfl rfl rfl rfl hl.1 (Nat.le_of_ble_eq_true rfl) dX6_told_41 ⟨(Nat.le_of_ble_eq_true rfl), (Nat.le_of_ble_eq_true rfl)⟩ (fun r_w u_w H locs hw hP hD hS => ?_)
        have hP : va_P g.1 vwCl [(hζ, .inr (6, [.ref (Qζ 0), .ref (Qζ 1), .ref (Qζ 2), .ref (Qζ 3), .ref (Qζ 4), .ref (Qζ 5), .ref (Qζ 6), .ref (Qζ 7)])), (Qζ 3, .inr (3, [.ref qζ, .int 0])), aI g (Aζ 0) 121 (fun _ => 0), aI g (Aζ 1) 10 (fun _ => 5), aI g (Aζ 2) 10 (fun _ => 0), aI g (Aζ 3) 10 (fun _ => (-6)), aI g (Aζ 4) 10 (fun jζ => nI jζ), ((Qζ 0), .inr (1, oC Aζ iC0))] H := hP
        have hD : va_D Z [(hζ, .inr (6, [.ref (Qζ 0), .ref (Qζ 1), .ref (Qζ 2), .ref (Qζ 3), .ref (Qζ 4), .ref (Qζ 5), .ref (Qζ 6), .ref (Qζ 7)])), (Qζ 3, .inr (3, [.ref qζ, .int 0])), aI g (Aζ 0) 121 (fun _ => 0), aI g (Aζ 1) 10 (fun _ => 5), aI g (Aζ 2) 10 (fun _ => 0), aI g (Aζ 3) 10 (fun _ => (-6)), aI g (Aζ 4) 10 (fun jζ => nI jζ), ((Qζ 0), .inr (1, oC Aζ iC0))] := hD
        obtain rfl := hw
        refine gtop (y := 0) rfl ?_
        exact r_iret hx hb hr hlk hS () (by unfold toldF; rw [if_neg c_1, if_neg (bF c_2), if_pos c_3]) (hP.sub [] rfl) (hD.sub [] (by decide) rfl) dX6_told_44
    · have c_2 : inB xζ 1 4 = true := bI_1 c_2
      refine lv_aload_n hx hb dX6_told_21 rfl (lv_at hl 0 rfl) ?_
      refine va_get (D := g.1) (ci := 6) (v := .ref (Qζ 0)) (C := RX6) (T := TX6) (N := 8) hx hb hts hi6 hown hK hP 0 rfl rfl 0 (by decide) (hts (.fieldLink RX6 12 "PanTales" "close" "LPanTales$Close;") (by decide +kernel)) (fun _ h9 => h9) rfl dX6_told_22 ?_
      refine lv_iload_n hx hb dX6_told_25 rfl (lv_at hl 1 rfl) ?_
      refine lv_iconst (v := 1) hx hb dX6_told_26 (by decide) ?_
      refine lv_isub hx hb dX6_told_27 ?_
      refine gcV_i (As := [.int (xζ - 1)]) (rest := []) (ci := 1) (q := (RX1, TX1, 12)) F hK hN hP hD hS hA (c_X1_panFact l g H.size (Qζ 0) Aζ iC0 (xζ - 1)) gX6_told_X1_panFact kX1_panFact rfl rfl rfl rfl ⟨(Nat.le_of_ble_eq_true rfl), (Nat.le_of_ble_eq_true rfl)⟩ [2] [0, 1, 3, 4, 5, 6, 7] rfl rfl rfl (by decide) rfl rfl rfl rfl rfl hl.1 (Nat.le_of_ble_eq_true rfl) dX6_told_28 ⟨(Nat.le_of_ble_eq_true rfl), (Nat.le_of_ble_eq_true rfl)⟩ (fun r_w u_w H locs hw hP hD hS => ?_)
      have hP : va_P g.1 vwCl [(hζ, .inr (6, [.ref (Qζ 0), .ref (Qζ 1), .ref (Qζ 2), .ref (Qζ 3), .ref (Qζ 4), .ref (Qζ 5), .ref (Qζ 6), .ref (Qζ 7)])), (Qζ 3, .inr (3, [.ref qζ, .int 0])), aI g (Aζ 0) 121 (fun _ => 0), aI g (Aζ 1) 10 (fun _ => 5), aI g (Aζ 2) 10 (fun _ => 0), aI g (Aζ 3) 10 (fun _ => (-6)), aI g (Aζ 4) 10 (fun jζ => nI jζ), ((Qζ 0), .inr (1, oC Aζ iC0))] H := hP
      have hD : va_D Z [(hζ, .inr (6, [.ref (Qζ 0), .ref (Qζ 1), .ref (Qζ 2), .ref (Qζ 3), .ref (Qζ 4), .ref (Qζ 5), .ref (Qζ 6), .ref (Qζ 7)])), (Qζ 3, .inr (3, [.ref qζ, .int 0])), aI g (Aζ 0) 121 (fun _ => 0), aI g (Aζ 1) 10 (fun _ => 5), aI g (Aζ 2) 10 (fun _ => 0), aI g (Aζ 3) 10 (fun _ => (-6)), aI g (Aζ 4) 10 (fun jζ => nI jζ), ((Qζ 0), .inr (1, oC Aζ iC0))] := hD
      obtain rfl := hw
      exact r_iret hx hb hr hlk hS () (by unfold toldF; rw [if_neg c_1, if_pos c_2]) (hP.sub [] rfl) (hD.sub [] (by decide) rfl) dX6_told_31
  · refine lv_aload_n hx hb dX6_told_4 rfl (lv_at hl 0 rfl) ?_
    refine va_get (D := g.1) (ci := 6) (v := .ref (Qζ 3)) (C := RX6) (T := TX6) (N := 8) hx hb hts hi6 hown hK hP 0 rfl rfl 3 (by decide) (hts (.fieldLink RX6 26 "PanTales" "pad" "LPanTales$Pad;") (by decide +kernel)) (fun _ h9 => h9) rfl dX6_told_5 ?_
    refine gcV_i (As := []) (rest := []) (ci := 3) (q := (RX3, TX3, 2)) F hK hN hP hD hS hA (c_X3_size l g H.size (Qζ 3) qζ 0) gX6_told_X3_size kX3_size rfl rfl rfl rfl ⟨(Nat.le_of_ble_eq_true rfl), (Nat.le_of_ble_eq_true rfl)⟩ [1] [0, 2, 3, 4, 5, 6, 7] rfl rfl rfl (by decide) rfl rfl rfl rfl rfl hl.1 (Nat.le_of_ble_eq_true rfl) dX6_told_8 ⟨(Nat.le_of_ble_eq_true rfl), (Nat.le_of_ble_eq_true rfl)⟩ (fun r_w u_w H locs hw hP hD hS => ?_)
    have hP : va_P g.1 vwCl [(hζ, .inr (6, [.ref (Qζ 0), .ref (Qζ 1), .ref (Qζ 2), .ref (Qζ 3), .ref (Qζ 4), .ref (Qζ 5), .ref (Qζ 6), .ref (Qζ 7)])), (Qζ 0, .inr (1, oC Aζ iC0)), aI g (Aζ 0) 121 (fun _ => 0), aI g (Aζ 1) 10 (fun _ => 5), aI g (Aζ 2) 10 (fun _ => 0), aI g (Aζ 3) 10 (fun _ => (-6)), aI g (Aζ 4) 10 (fun jζ => nI jζ), ((Qζ 3), .inr (3, [.ref qζ, .int 0]))] H := hP
    have hD : va_D Z [(hζ, .inr (6, [.ref (Qζ 0), .ref (Qζ 1), .ref (Qζ 2), .ref (Qζ 3), .ref (Qζ 4), .ref (Qζ 5), .ref (Qζ 6), .ref (Qζ 7)])), (Qζ 0, .inr (1, oC Aζ iC0)), aI g (Aζ 0) 121 (fun _ => 0), aI g (Aζ 1) 10 (fun _ => 5), aI g (Aζ 2) 10 (fun _ => 0), aI g (Aζ 3) 10 (fun _ => (-6)), aI g (Aζ 4) 10 (fun jζ => nI jζ), ((Qζ 3), .inr (3, [.ref qζ, .int 0]))] := hD
    obtain rfl := hw
    exact r_iret hx hb hr hlk hS () (by unfold toldF; rw [if_pos c_1]) (hP.sub [] rfl) (hD.sub [] (by decide) rfl) dX6_told_11

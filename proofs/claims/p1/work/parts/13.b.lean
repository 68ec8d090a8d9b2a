theorem kX7_fadedBy : YOk yX7_fadedBy 2 := by decide +kernel
theorem kX7_cameAhead : YOk yX7_cameAhead 2 := by decide +kernel
theorem kX7_faded : YOk yX7_faded 2 := by decide +kernel
theorem kX7_seen : YOk yX7_seen 2 := by decide +kernel
theorem kX7_forget : YOk yX7_forget 0 := by decide +kernel
theorem kX7_isFit : YOk yX7_isFit 1 := by decide +kernel
theorem kX7_fits : YOk yX7_fits 1 := by decide +kernel
theorem kX7_mostLeft : YOk yX7_mostLeft 1 := by decide +kernel
theorem kX7_ask : YOk yX7_ask 1 := by decide +kernel
set_option maxHeartbeats 4000000 in
set_option maxRecDepth 100000 in
theorem c_X7_fadedBy (l : Launch) (g : GT) (sz : Nat) (hζ : Nat) (Aζ : Nat → Nat) (Iζ : Nat → Int32) (tζ nζ : Nat) (htζ : tζ < 10) (hnζ : nζ < 2 ^ 31) : Ci l yX7_fadedBy wsX7_fadedBy { frames := 0, cells := 0, slots := 0, locals := 0 } g sz [.ref hζ, .int (nI tζ), .int (nI nζ)] [(hζ, .inr (7, oM Aζ Iζ)), aI g (Aζ 4) 10 (fun j => nI j)] (nI tζ) [(hζ, .inr (7, oM Aζ Iζ)), aI g (Aζ 4) 10 (fun j => nI j)] := by
  refine gMet_i (cc := cX7_fadedBy) (maxL := 5) (ret := (some .int)) (by decide) rfl (Nat.le_of_ble_eq_true rfl) ?_
  intro p e s m args below meth c Z hx hb hr F hlk hnm hK hN hA H locs hP hD hS ls hl
  have hl : lv_has ls 5 [(0, .ref hζ), (1, .int (nI tζ)), (2, .int (nI nζ))] := hl
  have F : CallFix p m c cX7_fadedBy 5 s args wsX7_fadedBy RX7 := F
  have hts := F.2.2.2.2
  have hown : s.vm.findClass RX7 = some m.cls := F.2.2.2.1
  have hi7 : ∀ w ∈ u_ws RX7 TX7 34, w ∈ wsX7_fadedBy := by decide +kernel
  refine lv_iload_n hx hb dX7_fadedBy_0 rfl (lv_at hl 1 rfl) ?_
  refine lv_istore_n (lv' := [(3, .int (nI tζ)), (0, .ref hζ), (1, .int (nI tζ)), (2, .int (nI nζ))]) hx hb dX7_fadedBy_1 rfl hl (by decide) rfl (fun ls hl => ?_)
  refine lv_iconst (v := 0) hx hb dX7_fadedBy_2 (by decide) ?_
  refine lv_istore (lv' := [(4, .int 0), (3, .int (nI tζ)), (0, .ref hζ), (1, .int (nI tζ)), (2, .int (nI nζ))]) hx hb dX7_fadedBy_3 hl (by decide) rfl (fun ls hl => ?_)
  refine gloop (σ := Nat) (fun u0 => nζ - u0) (fun u0 => u0 ≤ nζ) (fun u0 => [(hζ, .inr (7, oM Aζ Iζ)), aI g (Aζ 4) 10 (fun j => nI j)]) (fun u0 => [(4, .int (nI u0)), (3, .int (nI tζ)), (0, .ref hζ), (1, .int (nI tζ)), (2, .int (nI nζ))]) ?_ 0 (by first | omega | decide | rfl) (hP.sub [0, 1] rfl) (hD.sub [0, 1] (by decide) rfl) hS (lv_sub hl [0, 1, 2, 3, 4] rfl)
  rintro iζ hiζ ih5 H locs ls hP hD hS hl
  have hiζ : iζ ≤ nζ := hiζ
  have hP : va_P g.1 vwCl [(hζ, .inr (7, oM Aζ Iζ)), aI g (Aζ 4) 10 (fun j => nI j)] H := hP
  have hD : va_D Z [(hζ, .inr (7, oM Aζ Iζ)), aI g (Aζ 4) 10 (fun j => nI j)] := hD
  have hl : lv_has ls 5 [(4, .int (nI iζ)), (3, .int (nI tζ)), (0, .ref hζ), (1, .int (nI tζ)), (2, .int (nI nζ))] := hl
  refine lv_iload hx hb dX7_fadedBy_5 (lv_at hl 0 rfl) ?_
  refine lv_iload_n hx hb dX7_fadedBy_7 rfl (lv_at hl 4 rfl) ?_
  refine lv_icmp_ge (tgt := 24) hx hb dX7_fadedBy_8 (by decide) (fun c_1 => ?_) (fun c_1 => ?_)
  · have c_1 : nζ ≤ iζ := (nI_leI (a := nζ) (b := iζ) (by omega) (by omega)).mp c_1
    refine lv_iload_n hx hb dX7_fadedBy_24 rfl (lv_at hl 1 rfl) ?_
    exact r_iret hx hb hr hlk hS () rfl (hP.sub [0, 1] rfl) (hD.sub [0, 1] (by decide) rfl) dX7_fadedBy_25
  · have c_1 : ¬ nζ ≤ iζ := fun z => c_1 ((nI_leI (a := nζ) (b := iζ) (by omega) (by omega)).mpr z)
    refine lv_aload_n hx hb dX7_fadedBy_11 rfl (lv_at hl 2 rfl) ?_
    refine va_get (D := g.1) (ci := 7) (v := .ref (Aζ 4)) (C := RX7) (T := TX7) (N := 34) hx hb hts hi7 hown hK hP 0 rfl rfl 4 (by decide) (hts (.fieldLink RX7 22 "PanTalesModel" "fades" "[I") (by decide +kernel)) (fun _ h9 => h9) rfl dX7_fadedBy_12 ?_
    refine lv_iload_n hx hb dX7_fadedBy_15 rfl (lv_at hl 1 rfl) ?_
    refine r_iald (v := nI tζ) hx hb hK hP 1 rfl (vp_in_nI (n := tζ) (by omega) (by omega)) (congrArg (fun j => nI j) (nI_clamp (n := tζ) (by omega))) dX7_fadedBy_16 ?_
    refine lv_istore_n (lv' := [(3, .int (nI tζ)), (4, .int (nI iζ)), (0, .ref hζ), (1, .int (nI tζ)), (2, .int (nI nζ))]) hx hb dX7_fadedBy_17 rfl hl (by decide) rfl (fun ls hl => ?_)
    refine lv_iinc (v := nI (iζ + 1)) (lv' := [(4, .int (nI (iζ + 1))), (3, .int (nI tζ)), (0, .ref hζ), (1, .int (nI tζ)), (2, .int (nI nζ))]) hx hb dX7_fadedBy_18 hl (k := 1) rfl (nI_1 iζ) (by decide) rfl (fun ls hl => ?_)
    refine lv_goto (tgt := 5) hx hb dX7_fadedBy_21 (by decide) ?_
    exact ih5 (iζ + 1) (by first | omega | (dsimp only; omega)) (by first | omega | (dsimp only; omega)) _ _ _ (hP.sub [0, 1] rfl) (hD.sub [0, 1] (by decide) rfl) hS (lv_sub hl [0, 1, 2, 3, 4] rfl)
set_option maxHeartbeats 4000000 in
set_option maxRecDepth 100000 in
theorem c_X7_cameAhead (l : Launch) (g : GT) (sz : Nat) (hζ : Nat) (Aζ : Nat → Nat) (Iζ : Nat → Int32) (tζ : Nat) (htζ : tζ < 10) : Ci l yX7_cameAhead wsX7_cameAhead { frames := 1, cells := 0, slots := 0, locals := 24 } g sz [.ref hζ, .int (nI tζ), .int 1] [(hζ, .inr (7, oM Aζ Iζ)), aI g (Aζ 4) 10 (fun j => nI j)] 1 [(hζ, .inr (7, oM Aζ Iζ)), aI g (Aζ 4) 10 (fun j => nI j)] := by
  refine gMet_i (cc := cX7_cameAhead) (maxL := 4) (ret := (some .int)) (by decide) rfl (Nat.le_of_ble_eq_true rfl) ?_
  intro p e s m args below meth c Z hx hb hr F hlk hnm hK hN hA H locs hP hD hS ls hl
  have hl : lv_has ls 4 [(0, .ref hζ), (1, .int (nI tζ)), (2, .int 1)] := hl
  have F : CallFix p m c cX7_cameAhead 4 s args wsX7_cameAhead RX7 := F
  have hts := F.2.2.2.2
  have hown : s.vm.findClass RX7 = some m.cls := F.2.2.2.1
  refine lv_iconst (v := 0) hx hb dX7_cameAhead_0 (by decide) ?_
  refine lv_istore_n (lv' := [(3, .int 0), (0, .ref hζ), (1, .int (nI tζ)), (2, .int 1)]) hx hb dX7_cameAhead_1 rfl hl (by decide) rfl (fun ls hl => ?_)
  refine lv_iload_n hx hb dX7_cameAhead_2 rfl (lv_at hl 0 rfl) ?_
  refine lv_iload_n hx hb dX7_cameAhead_3 rfl (lv_at hl 3 rfl) ?_
  refine lv_icmp_ge (tgt := 32) hx hb dX7_cameAhead_4 (by decide) (fun c_1 => ?_) (fun c_1 => ?_)
  · exact absurd c_1 (by decide)
  · refine lv_aload_n hx hb dX7_cameAhead_7 rfl (lv_at hl 1 rfl) ?_
    refine lv_iload_n hx hb dX7_cameAhead_8 rfl (lv_at hl 2 rfl) ?_
    refine lv_iload_n hx hb dX7_cameAhead_9 rfl (lv_at hl 0 rfl) ?_
    refine gcV_i (As := [.int (nI tζ), .int 0]) (rest := []) (ci := 7) (q := (RX7, TX7, 34)) F hK hN hP hD hS hA (c_X7_fadedBy l g H.size hζ Aζ Iζ tζ 0 (by omega) (by omega)) gX7_cameAhead_X7_fadedBy kX7_fadedBy rfl rfl rfl rfl ⟨(Nat.le_of_ble_eq_true rfl), (Nat.le_of_ble_eq_true rfl)⟩ [0, 1] [] rfl rfl rfl (by decide) rfl rfl rfl rfl rfl hl.1 (Nat.le_of_ble_eq_true rfl) dX7_cameAhead_10 ⟨(Nat.le_of_ble_eq_true rfl), (Nat.le_of_ble_eq_true rfl)⟩ (fun r_w u_w H locs hw hP hD hS => ?_)
    have hP : va_P g.1 vwCl [(hζ, .inr (7, oM Aζ Iζ)), aI g (Aζ 4) 10 (fun j => nI j)] H := hP
    have hD : va_D Z [(hζ, .inr (7, oM Aζ Iζ)), aI g (Aζ 4) 10 (fun j => nI j)] := hD
    obtain rfl := hw
    refine lv_aload_n hx hb dX7_cameAhead_13 rfl (lv_at hl 1 rfl) ?_
    refine lv_iload_n hx hb dX7_cameAhead_14 rfl (lv_at hl 2 rfl) ?_
    refine lv_iload_n hx hb dX7_cameAhead_15 rfl (lv_at hl 3 rfl) ?_
    refine gcV_i (As := [.int (nI tζ), .int 1]) (rest := [.int (nI tζ)]) (ci := 7) (q := (RX7, TX7, 34)) F hK hN hP hD hS hA (c_X7_fadedBy l g H.size hζ Aζ Iζ tζ 1 (by omega) (by omega)) gX7_cameAhead_X7_fadedBy kX7_fadedBy rfl rfl rfl rfl ⟨(Nat.le_of_ble_eq_true rfl), (Nat.le_of_ble_eq_true rfl)⟩ [0, 1] [] rfl rfl rfl (by decide) rfl rfl rfl rfl rfl hl.1 (Nat.le_of_ble_eq_true rfl) dX7_cameAhead_16 ⟨(Nat.le_of_ble_eq_true rfl), (Nat.le_of_ble_eq_true rfl)⟩ (fun r_w u_w H locs hw hP hD hS => ?_)
    have hP : va_P g.1 vwCl [(hζ, .inr (7, oM Aζ Iζ)), aI g (Aζ 4) 10 (fun j => nI j)] H := hP
    have hD : va_D Z [(hζ, .inr (7, oM Aζ Iζ)), aI g (Aζ 4) 10 (fun j => nI j)] := hD
    obtain rfl := hw
    refine lv_icmp_ne (tgt := 26) hx hb dX7_cameAhead_19 (by decide) (fun c_2 => ?_) (fun c_2 => ?_)
    · exact absurd rfl c_2
    · have c_2 : tζ = tζ := (nI_eq (a := tζ) (b := tζ) (by omega) (by omega)).mp c_2
      refine lv_iload_n hx hb dX7_cameAhead_22 rfl (lv_at hl 3 rfl) ?_
      refine lv_iload_n hx hb dX7_cameAhead_23 rfl (lv_at hl 0 rfl) ?_
      refine lv_isub hx hb dX7_cameAhead_24 ?_
      refine gtop (y := 1) (by decide) ?_
      exact r_iret hx hb hr hlk hS () rfl (hP.sub [0, 1] rfl) (hD.sub [0, 1] (by decide) rfl) dX7_cameAhead_25
set_option maxHeartbeats 4000000 in
set_option maxRecDepth 100000 in
theorem c_X7_faded (l : Launch) (g : GT) (sz : Nat) (hζ : Nat) (Aζ : Nat → Nat) (xζ yζ : Int32) : Ci l yX7_faded wsX7_faded { frames := 2, cells := 0, slots := 0, locals := 47 } g sz [.ref hζ, .int xζ, .int yζ] [(hζ, .inr (7, oM Aζ iM0)), aI g (Aζ 4) 10 (fun jζ => nI jζ)] (fadedF xζ yζ) [] := by
  refine gMet_i (cc := cX7_faded) (maxL := 4) (ret := (some .int)) (by decide) rfl (Nat.le_of_ble_eq_true rfl) ?_
  intro p e s m args below meth c Z hx hb hr F hlk hnm hK hN hA H locs hP hD hS ls hl
  have hl : lv_has ls 4 [(0, .ref hζ), (1, .int xζ), (2, .int yζ)] := hl
  have F : CallFix p m c cX7_faded 4 s args wsX7_faded RX7 := F
  have hts := F.2.2.2.2
  have hown : s.vm.findClass RX7 = some m.cls := F.2.2.2.1
  refine lv_iload_n hx hb dX7_faded_0 rfl (lv_at hl 1 rfl) ?_
  refine gcP (As := [.int xζ]) (rest := []) F (c_X7_isTale l xζ) gX7_faded_X7_isTale kX7_isTale rfl rfl rfl ⟨(Nat.le_of_ble_eq_true rfl), (Nat.le_of_ble_eq_true rfl)⟩ rfl rfl hl.1 (Nat.le_of_ble_eq_true rfl) dX7_faded_1 ⟨(Nat.le_of_ble_eq_true rfl), (Nat.le_of_ble_eq_true rfl)⟩ ?_
  refine lv_if_ne (tgt := 9) hx hb dX7_faded_4 (by decide) (fun c_1 => ?_) (fun c_1 => ?_)
  · have c_1 : inB xζ 0 9 = true := bI_1 c_1
    refine lv_iload_n hx hb dX7_faded_9 rfl (lv_at hl 2 rfl) ?_
    refine lv_i2l (v := yζ.toInt64) hx hb dX7_faded_10 rfl ?_
    refine lv_ldc2 (v := (-2)) hx hb hown (hts (.constantLong RX7 237 (-2)) (by decide +kernel)) dX7_faded_11 ?_
    refine lv_ldc2 (v := 99) hx hb hown (hts (.constantLong RX7 219 (99)) (by decide +kernel)) dX7_faded_14 ?_
    refine gcP (As := [.long yζ.toInt64, .long (-2), .long 99]) (rest := []) F (c_X7_in l yζ.toInt64 (-2) 99) gX7_faded_X7_in kX7_in rfl rfl rfl ⟨(Nat.le_of_ble_eq_true rfl), (Nat.le_of_ble_eq_true rfl)⟩ rfl rfl hl.1 (Nat.le_of_ble_eq_true rfl) dX7_faded_17 ⟨(Nat.le_of_ble_eq_true rfl), (Nat.le_of_ble_eq_true rfl)⟩ ?_
    refine gtop (y := bI (inB yζ (-2) 99)) (congrArg bI (inL_i (lo := (-2)) (hi := 99) (by decide) (by decide))) ?_
    refine lv_if_ne (tgt := 26) hx hb dX7_faded_20 (by decide) (fun c_2 => ?_) (fun c_2 => ?_)
    · have c_2 : inB yζ (-2) 99 = true := bI_1 c_2
      refine lv_iload_n hx hb dX7_faded_26 rfl (lv_at hl 2 rfl) ?_
      refine lv_if_lt (tgt := 37) hx hb dX7_faded_27 (by decide) (fun c_3 => ?_) (fun c_3 => ?_)
      · obtain ⟨iζ, hiζ, eiζ⟩ := inB_nat (N := 10) (by decide) c_1
        have hl : lv_has ls 4 [(0, .ref hζ), (1, .int (nI iζ)), (2, .int yζ)] := by first | exact hl | (rw [← (eiζ : xζ = nI iζ)]; exact hl)
        refine lv_iconst (v := 1) hx hb dX7_faded_37 (by decide) ?_
        refine lv_istore_n (lv' := [(3, .int 1), (0, .ref hζ), (1, .int (nI iζ)), (2, .int yζ)]) hx hb dX7_faded_38 rfl hl (by decide) rfl (fun ls hl => ?_)
        refine lv_aload_n hx hb dX7_faded_39 rfl (lv_at hl 1 rfl) ?_
        refine lv_iload_n hx hb dX7_faded_40 rfl (lv_at hl 2 rfl) ?_
        refine lv_iload_n hx hb dX7_faded_41 rfl (lv_at hl 0 rfl) ?_
        refine gcV_i (As := [.int (nI iζ), .int 1]) (rest := []) (ci := 7) (q := (RX7, TX7, 34)) F hK hN hP hD hS hA (c_X7_cameAhead l g H.size hζ Aζ iM0 iζ (by omega)) gX7_faded_X7_cameAhead kX7_cameAhead rfl rfl rfl rfl ⟨(Nat.le_of_ble_eq_true rfl), (Nat.le_of_ble_eq_true rfl)⟩ [0, 1] [] rfl rfl rfl (by decide) rfl rfl rfl rfl rfl hl.1 (Nat.le_of_ble_eq_true rfl) dX7_faded_42 ⟨(Nat.le_of_ble_eq_true rfl), (Nat.le_of_ble_eq_true rfl)⟩ (fun r_w u_w H locs hw hP hD hS => ?_)
        have hP : va_P g.1 vwCl [(hζ, .inr (7, oM Aζ iM0)), aI g (Aζ 4) 10 (fun jζ => nI jζ)] H := hP
        have hD : va_D Z [(hζ, .inr (7, oM Aζ iM0)), aI g (Aζ 4) 10 (fun jζ => nI jζ)] := hD
        obtain rfl := hw
        refine lv_if_ge (tgt := 54) hx hb dX7_faded_45 (by decide) (fun c_4 => ?_) (fun c_4 => ?_)
        · refine lv_iload_n hx hb dX7_faded_54 rfl (lv_at hl 3 rfl) ?_
          refine lv_iconst (v := (-1)) hx hb dX7_faded_55 (by decide) ?_
          refine lv_icmp_ne (tgt := 63) hx hb dX7_faded_56 (by decide) (fun c_5 => ?_) (fun c_5 => ?_)
          · refine lv_aload_n hx hb dX7_faded_63 rfl (lv_at hl 1 rfl) ?_
            refine lv_iload_n hx hb dX7_faded_64 rfl (lv_at hl 2 rfl) ?_
            refine lv_iload_n hx hb dX7_faded_65 rfl (lv_at hl 0 rfl) ?_
            refine gcV_i (As := [.int (nI iζ), .int 1]) (rest := []) (ci := 7) (q := (RX7, TX7, 34)) F hK hN hP hD hS hA (c_X7_cameAhead l g H.size hζ Aζ iM0 iζ (by omega)) gX7_faded_X7_cameAhead kX7_cameAhead rfl rfl rfl rfl ⟨(Nat.le_of_ble_eq_true rfl), (Nat.le_of_ble_eq_true rfl)⟩ [0, 1] [] rfl rfl rfl (by decide) rfl rfl rfl rfl rfl hl.1 (Nat.le_of_ble_eq_true rfl) dX7_faded_66 ⟨(Nat.le_of_ble_eq_true rfl), (Nat.le_of_ble_eq_true rfl)⟩ (fun r_w u_w H locs hw hP hD hS => ?_)
            have hP : va_P g.1 vwCl [(hζ, .inr (7, oM Aζ iM0)), aI g (Aζ 4) 10 (fun jζ => nI jζ)] H := hP
            have hD : va_D Z [(hζ, .inr (7, oM Aζ iM0)), aI g (Aζ 4) 10 (fun jζ => nI jζ)] := hD
            obtain rfl := hw
            exact r_iret hx hb hr hlk hS () (by unfold fadedF; rw [if_pos c_1, if_pos c_2, if_pos c_3]) (hP.sub [] rfl) (hD.sub [] (by decide) rfl) dX7_faded_69
          · refine lv_iload_n hx hb dX7_faded_59 rfl (lv_at hl 0 rfl) ?_
            refine lv_goto (tgt := 69) hx hb dX7_faded_60 (by decide) ?_
            exact r_iret hx hb hr hlk hS () (by unfold fadedF; rw [if_pos c_1, if_pos c_2, if_pos c_3]) (hP.sub [] rfl) (hD.sub [] (by decide) rfl) dX7_faded_69
        · exact absurd (by decide) c_4
      · obtain ⟨iζ, hiζ, eiζ⟩ := inB_nat (N := 10) (by decide) c_1
        have hl : lv_has ls 4 [(0, .ref hζ), (1, .int (nI iζ)), (2, .int yζ)] := by first | exact hl | (rw [← (eiζ : xζ = nI iζ)]; exact hl)
        obtain ⟨nζ, hnζ, enζ⟩ := nI_of c_3
        have hl : lv_has ls 4 [(0, .ref hζ), (1, .int (nI iζ)), (2, .int (nI nζ))] := by first | exact hl | (rw [← (enζ : yζ = nI nζ)]; exact hl)
        refine lv_aload_n hx hb dX7_faded_30 rfl (lv_at hl 0 rfl) ?_
        refine lv_iload_n hx hb dX7_faded_31 rfl (lv_at hl 1 rfl) ?_
        refine lv_iload_n hx hb dX7_faded_32 rfl (lv_at hl 2 rfl) ?_
        refine gcV_i (As := [.int (nI iζ), .int (nI nζ)]) (rest := []) (ci := 7) (q := (RX7, TX7, 34)) F hK hN hP hD hS hA (c_X7_fadedBy l g H.size hζ Aζ iM0 iζ nζ (by omega) (by omega)) gX7_faded_X7_fadedBy kX7_fadedBy rfl rfl rfl rfl ⟨(Nat.le_of_ble_eq_true rfl), (Nat.le_of_ble_eq_true rfl)⟩ [0, 1] [] rfl rfl rfl (by decide) rfl rfl rfl rfl rfl hl.1 (Nat.le_of_ble_eq_true rfl) dX7_faded_33 ⟨(Nat.le_of_ble_eq_true rfl), (Nat.le_of_ble_eq_true rfl)⟩ (fun r_w u_w H locs hw hP hD hS => ?_)
        have hP : va_P g.1 vwCl [(hζ, .inr (7, oM Aζ iM0)), aI g (Aζ 4) 10 (fun jζ => nI jζ)] H := hP
        have hD : va_D Z [(hζ, .inr (7, oM Aζ iM0)), aI g (Aζ 4) 10 (fun jζ => nI jζ)] := hD
        obtain rfl := hw
        exact r_iret hx hb hr hlk hS () (by unfold fadedF; rw [if_pos c_1, if_pos c_2, if_neg c_3]; exact eiζ.symm) (hP.sub [] rfl) (hD.sub [] (by decide) rfl) dX7_faded_36
    · have c_2 : inB yζ (-2) 99 = false := bI_0 c_2
      refine lv_bipush (v := (-2)) hx hb dX7_faded_23 (by decide) ?_
      exact r_iret hx hb hr hlk hS () (by unfold fadedF; rw [if_pos c_1, if_neg (bF c_2)]) (hP.sub [] rfl) (hD.sub [] (by decide) rfl) dX7_faded_25
  · have c_1 : inB xζ 0 9 = false := bI_0 c_1
    refine lv_iconst (v := (-1)) hx hb dX7_faded_7 (by decide) ?_
    exact r_iret hx hb hr hlk hS () (by unfold fadedF; rw [if_neg (bF c_1)]) (hP.sub [] rfl) (hD.sub [] (by decide) rfl) dX7_faded_8
set_option maxHeartbeats 4000000 in
set_option maxRecDepth 100000 in
theorem c_X7_seen (l : Launch) (g : GT) (sz : Nat) (hζ : Nat) (Aζ : Nat → Nat) (xζ yζ : Int32) : Ci l yX7_seen wsX7_seen { frames := 2, cells := 0, slots := 0, locals := 45 } g sz [.ref hζ, .int xζ, .int yζ] [(hζ, .inr (7, oM Aζ iM0)), aI g (Aζ 9) 8 (fun _ => 0), aI g (Aζ 10) 8 (fun _ => 0)] (seenF xζ yζ) [] := by
  refine gMet_i (cc := cX7_seen) (maxL := 3) (ret := (some .int)) (by decide) rfl (Nat.le_of_ble_eq_true rfl) ?_
  intro p e s m args below meth c Z hx hb hr F hlk hnm hK hN hA H locs hP hD hS ls hl
  have hl : lv_has ls 3 [(0, .ref hζ), (1, .int xζ), (2, .int yζ)] := hl
  have F : CallFix p m c cX7_seen 3 s args wsX7_seen RX7 := F
  have hts := F.2.2.2.2
  have hown : s.vm.findClass RX7 = some m.cls := F.2.2.2.1
  have hi7 : ∀ w ∈ u_ws RX7 TX7 34, w ∈ wsX7_seen := by decide +kernel
  refine lv_iload_n hx hb dX7_seen_0 rfl (lv_at hl 2 rfl) ?_
  refine gcP (As := [.int yζ]) (rest := []) F (c_X7_isTale l yζ) gX7_seen_X7_isTale kX7_isTale rfl rfl rfl ⟨(Nat.le_of_ble_eq_true rfl), (Nat.le_of_ble_eq_true rfl)⟩ rfl rfl hl.1 (Nat.le_of_ble_eq_true rfl) dX7_seen_1 ⟨(Nat.le_of_ble_eq_true rfl), (Nat.le_of_ble_eq_true rfl)⟩ ?_
  refine lv_if_ne (tgt := 9) hx hb dX7_seen_4 (by decide) (fun c_1 => ?_) (fun c_1 => ?_)
  · have c_1 : inB yζ 0 9 = true := bI_1 c_1
    refine lv_iload_n hx hb dX7_seen_9 rfl (lv_at hl 1 rfl) ?_
    refine lv_i2l (v := xζ.toInt64) hx hb dX7_seen_10 rfl ?_
    refine lv_lconst (v := 0) hx hb dX7_seen_11 (by decide) ?_
    refine lv_ldc2 (v := 40) hx hb hown (hts (.constantLong RX7 242 (40)) (by decide +kernel)) dX7_seen_12 ?_
    refine gcP (As := [.long xζ.toInt64, .long 0, .long 40]) (rest := []) F (c_X7_in l xζ.toInt64 0 40) gX7_seen_X7_in kX7_in rfl rfl rfl ⟨(Nat.le_of_ble_eq_true rfl), (Nat.le_of_ble_eq_true rfl)⟩ rfl rfl hl.1 (Nat.le_of_ble_eq_true rfl) dX7_seen_15 ⟨(Nat.le_of_ble_eq_true rfl), (Nat.le_of_ble_eq_true rfl)⟩ ?_
    refine gtop (y := bI (inB xζ 0 40)) (congrArg bI (inL_i (lo := 0) (hi := 40) (by decide) (by decide))) ?_
    refine lv_if_ne (tgt := 24) hx hb dX7_seen_18 (by decide) (fun c_2 => ?_) (fun c_2 => ?_)
    · have c_2 : inB xζ 0 40 = true := bI_1 c_2
      refine lv_aload_n hx hb dX7_seen_24 rfl (lv_at hl 0 rfl) ?_
      refine va_get (D := g.1) (ci := 7) (v := .int 0) (C := RX7) (T := TX7) (N := 34) hx hb hts hi7 hown hK hP 0 rfl rfl 11 (by decide) (hts (.fieldLink RX7 244 "PanTalesModel" "sights" "I") (by decide +kernel)) (fun _ h9 => h9) rfl dX7_seen_25 ?_
      refine lv_bipush (v := 8) hx hb dX7_seen_28 (by decide) ?_
      refine lv_icmp_ne (tgt := 36) hx hb dX7_seen_30 (by decide) (fun c_3 => ?_) (fun c_3 => ?_)
      · refine lv_aload_n hx hb dX7_seen_36 rfl (lv_at hl 0 rfl) ?_
        refine va_get (D := g.1) (ci := 7) (v := .ref (Aζ 9)) (C := RX7) (T := TX7) (N := 34) hx hb hts hi7 hown hK hP 0 rfl rfl 9 (by decide) (hts (.fieldLink RX7 25 "PanTalesModel" "sightBed" "[I") (by decide +kernel)) (fun _ h9 => h9) rfl dX7_seen_37 ?_
        refine lv_aload_n hx hb dX7_seen_40 rfl (lv_at hl 0 rfl) ?_
        refine va_get (D := g.1) (ci := 7) (v := .int 0) (C := RX7) (T := TX7) (N := 34) hx hb hts hi7 hown hK hP 0 rfl rfl 11 (by decide) (hts (.fieldLink RX7 244 "PanTalesModel" "sights" "I") (by decide +kernel)) (fun _ h9 => h9) rfl dX7_seen_41 ?_
        refine lv_iload_n hx hb dX7_seen_44 rfl (lv_at hl 1 rfl) ?_
        refine r_iast (f' := upd (fun _ => 0) 0 xζ) hx hb hK hP hD hS 1 rfl (vp_in_nI (n := 0) (by decide) (by decide)) (fun k_u _ => congrArg (fun z_u => upd (fun _ => 0) z_u xζ k_u) (nI_clamp (n := 0) (by decide))) dX7_seen_45 (fun H locs hP hD hS => ?_)
        have hP : va_P g.1 vwCl [(hζ, .inr (7, oM Aζ iM0)), aI g (Aζ 9) 8 (upd (fun _ => 0) 0 xζ), aI g (Aζ 10) 8 (fun _ => 0)] H := hP
        have hD : va_D Z [(hζ, .inr (7, oM Aζ iM0)), aI g (Aζ 9) 8 (upd (fun _ => 0) 0 xζ), aI g (Aζ 10) 8 (fun _ => 0)] := hD
        refine lv_aload_n hx hb dX7_seen_46 rfl (lv_at hl 0 rfl) ?_
        refine va_get (D := g.1) (ci := 7) (v := .ref (Aζ 10)) (C := RX7) (T := TX7) (N := 34) hx hb hts hi7 hown hK hP 0 rfl rfl 10 (by decide) (hts (.fieldLink RX7 28 "PanTalesModel" "sightTale" "[I") (by decide +kernel)) (fun _ h9 => h9) rfl dX7_seen_47 ?_
        refine lv_aload_n hx hb dX7_seen_50 rfl (lv_at hl 0 rfl) ?_
        refine va_get (D := g.1) (ci := 7) (v := .int 0) (C := RX7) (T := TX7) (N := 34) hx hb hts hi7 hown hK hP 0 rfl rfl 11 (by decide) (hts (.fieldLink RX7 244 "PanTalesModel" "sights" "I") (by decide +kernel)) (fun _ h9 => h9) rfl dX7_seen_51 ?_
        refine lv_iload_n hx hb dX7_seen_54 rfl (lv_at hl 2 rfl) ?_
        refine r_iast (f' := upd (fun _ => 0) 0 yζ) hx hb hK hP hD hS 2 rfl (vp_in_nI (n := 0) (by decide) (by decide)) (fun k_u _ => congrArg (fun z_u => upd (fun _ => 0) z_u yζ k_u) (nI_clamp (n := 0) (by decide))) dX7_seen_55 (fun H locs hP hD hS => ?_)
        have hP : va_P g.1 vwCl [(hζ, .inr (7, oM Aζ iM0)), aI g (Aζ 9) 8 (upd (fun _ => 0) 0 xζ), aI g (Aζ 10) 8 (upd (fun _ => 0) 0 yζ)] H := hP
        have hD : va_D Z [(hζ, .inr (7, oM Aζ iM0)), aI g (Aζ 9) 8 (upd (fun _ => 0) 0 xζ), aI g (Aζ 10) 8 (upd (fun _ => 0) 0 yζ)] := hD
        refine lv_aload_n hx hb dX7_seen_56 rfl (lv_at hl 0 rfl) ?_
        refine lv_dup hx hb dX7_seen_57 rfl ?_
        refine va_get (D := g.1) (ci := 7) (v := .int 0) (C := RX7) (T := TX7) (N := 34) hx hb hts hi7 hown hK hP 0 rfl rfl 11 (by decide) (hts (.fieldLink RX7 244 "PanTalesModel" "sights" "I") (by decide +kernel)) (fun _ h9 => h9) rfl dX7_seen_58 ?_
        refine lv_iconst (v := 1) hx hb dX7_seen_61 (by decide) ?_
        refine lv_iadd hx hb dX7_seen_62 ?_
        refine gtop (y := 1) (by decide) ?_
        refine va_put (D := g.1) (ci := 7) (v := .int 1) (ty := .int) (C := RX7) (T := TX7) (N := 34) hx hb hts hi7 tyX7 tyX7_ok nmX7 hown hK hP hD hS 0 rfl rfl 11 (by decide) (hts (.fieldLink RX7 244 "PanTalesModel" "sights" "I") (by decide +kernel)) (fun _ h9 => h9) rfl (by decide +kernel) rfl rfl (Nat.le_of_ble_eq_true rfl) dX7_seen_63 (fun H locs hP hD hS => ?_)
        have hP : va_P g.1 vwCl [(hζ, .inr (7, oM Aζ (upd iM0 11 1))), aI g (Aζ 9) 8 (upd (fun _ => 0) 0 xζ), aI g (Aζ 10) 8 (upd (fun _ => 0) 0 yζ)] H := hP
        have hD : va_D Z [(hζ, .inr (7, oM Aζ (upd iM0 11 1))), aI g (Aζ 9) 8 (upd (fun _ => 0) 0 xζ), aI g (Aζ 10) 8 (upd (fun _ => 0) 0 yζ)] := hD
        refine lv_aload_n hx hb dX7_seen_66 rfl (lv_at hl 0 rfl) ?_
        refine va_get (D := g.1) (ci := 7) (v := .int 1) (C := RX7) (T := TX7) (N := 34) hx hb hts hi7 hown hK hP 0 rfl rfl 11 (by decide) (hts (.fieldLink RX7 244 "PanTalesModel" "sights" "I") (by decide +kernel)) (fun _ h9 => h9) rfl dX7_seen_67 ?_
        exact r_iret hx hb hr hlk hS () (by unfold seenF; rw [if_pos c_1, if_pos c_2]) (hP.sub [] rfl) (hD.sub [] (by decide) rfl) dX7_seen_70
      · exact absurd c_3 (by decide)
    · have c_2 : inB xζ 0 40 = false := bI_0 c_2
      refine lv_bipush (v := (-2)) hx hb dX7_seen_21 (by decide) ?_
      exact r_iret hx hb hr hlk hS () (by unfold seenF; rw [if_pos c_1, if_neg (bF c_2)]) (hP.sub [] rfl) (hD.sub [] (by decide) rfl) dX7_seen_23
  · have c_1 : inB yζ 0 9 = false := bI_0 c_1
    refine lv_iconst (v := (-1)) hx hb dX7_seen_7 (by decide) ?_
    exact r_iret hx hb hr hlk hS () (by unfold seenF; rw [if_neg (bF c_1)]) (hP.sub [] rfl) (hD.sub [] (by decide) rfl) dX7_seen_8
set_option maxHeartbeats 4000000 in
set_option maxRecDepth 100000 in
theorem c_X7_forget (l : Launch) (g : GT) (sz : Nat) (hζ : Nat) (Aζ : Nat → Nat)  : Ci l yX7_forget wsX7_forget { frames := 0, cells := 0, slots := 0, locals := 0 } g sz [.ref hζ] [(hζ, .inr (7, oM Aζ iM0))] 0 [] := by
  refine gMet_i (cc := cX7_forget) (maxL := 2) (ret := (some .int)) (by decide) rfl (Nat.le_of_ble_eq_true rfl) ?_
  intro p e s m args below meth c Z hx hb hr F hlk hnm hK hN hA H locs hP hD hS ls hl
  have hl : lv_has ls 2 [(0, .ref hζ)] := hl
  have F : CallFix p m c cX7_forget 2 s args wsX7_forget RX7 := F
  have hts := F.2.2.2.2
  have hown : s.vm.findClass RX7 = some m.cls := F.2.2.2.1
  have hi7 : ∀ w ∈ u_ws RX7 TX7 34, w ∈ wsX7_forget := by decide +kernel
  refine lv_aload_n hx hb dX7_forget_0 rfl (lv_at hl 0 rfl) ?_
  refine va_get (D := g.1) (ci := 7) (v := .int 0) (C := RX7) (T := TX7) (N := 34) hx hb hts hi7 hown hK hP 0 rfl rfl 11 (by decide) (hts (.fieldLink RX7 244 "PanTalesModel" "sights" "I") (by decide +kernel)) (fun _ h9 => h9) rfl dX7_forget_1 ?_
  refine lv_istore_n (lv' := [(1, .int 0), (0, .ref hζ)]) hx hb dX7_forget_4 rfl hl (by decide) rfl (fun ls hl => ?_)
  refine lv_aload_n hx hb dX7_forget_5 rfl (lv_at hl 1 rfl) ?_
  refine lv_iconst (v := 0) hx hb dX7_forget_6 (by decide) ?_
  refine va_put (D := g.1) (ci := 7) (v := .int 0) (ty := .int) (C := RX7) (T := TX7) (N := 34) hx hb hts hi7 tyX7 tyX7_ok nmX7 hown hK hP hD hS 0 rfl rfl 11 (by decide) (hts (.fieldLink RX7 244 "PanTalesModel" "sights" "I") (by decide +kernel)) (fun _ h9 => h9) rfl (by decide +kernel) rfl rfl (Nat.le_of_ble_eq_true rfl) dX7_forget_7 (fun H locs hP hD hS => ?_)
  have hP : va_P g.1 vwCl [(hζ, .inr (7, oM Aζ (upd iM0 11 0)))] H := hP
  have hD : va_D Z [(hζ, .inr (7, oM Aζ (upd iM0 11 0)))] := hD
  refine lv_iload_n hx hb dX7_forget_10 rfl (lv_at hl 0 rfl) ?_
  exact r_iret hx hb hr hlk hS () rfl (hP.sub [] rfl) (hD.sub [] (by decide) rfl) dX7_forget_11
set_option maxHeartbeats 4000000 in
set_option maxRecDepth 100000 in
theorem c_X7_isFit (l : Launch) (g : GT) (sz : Nat) (hζ : Nat) (Aζ : Nat → Nat) (nζ : Nat) (hnζ : nζ < 100) : Ci l yX7_isFit wsX7_isFit { frames := 1, cells := 0, slots := 0, locals := 25 } g sz [.ref hζ, .int (nI nζ)] [(hζ, .inr (7, oM Aζ iM0))] (bI (inB (nI (nζ % 10)) 1 5)) [(hζ, .inr (7, oM Aζ iM0))] := by
  refine gMet_i (cc := cX7_isFit) (maxL := 4) (ret := (some .boolean)) (by decide) rfl (Nat.le_of_ble_eq_true rfl) ?_
  intro p e s m args below meth c Z hx hb hr F hlk hnm hK hN hA H locs hP hD hS ls hl
  have hl : lv_has ls 4 [(0, .ref hζ), (1, .int (nI nζ))] := hl
  have F : CallFix p m c cX7_isFit 4 s args wsX7_isFit RX7 := F
  have hts := F.2.2.2.2
  have hown : s.vm.findClass RX7 = some m.cls := F.2.2.2.1
  have hi7 : ∀ w ∈ u_ws RX7 TX7 34, w ∈ wsX7_isFit := by decide +kernel
  refine lv_iload_n hx hb dX7_isFit_0 rfl (lv_at hl 1 rfl) ?_
  refine lv_bipush (v := 10) hx hb dX7_isFit_1 (by decide) ?_
  refine lv_irem hx hb dX7_isFit_3 (by decide) ?_
  refine gtop (y := nI (nζ % 10)) (pk_rem (a := nζ) (d := 10) (by omega) (by omega) (by omega)) ?_
  refine lv_i2l (v := (nI (nζ % 10)).toInt64) hx hb dX7_isFit_4 rfl ?_
  refine lv_lconst (v := 1) hx hb dX7_isFit_5 (by decide) ?_
  refine lv_ldc2 (v := 5) hx hb hown (hts (.constantLong RX7 247 (5)) (by decide +kernel)) dX7_isFit_6 ?_
  refine gcP (As := [.long ((nI (nζ % 10)).toInt64), .long 1, .long 5]) (rest := []) F (c_X7_in l ((nI (nζ % 10)).toInt64) 1 5) gX7_isFit_X7_in kX7_in rfl rfl rfl ⟨(Nat.le_of_ble_eq_true rfl), (Nat.le_of_ble_eq_true rfl)⟩ rfl rfl hl.1 (Nat.le_of_ble_eq_true rfl) dX7_isFit_9 ⟨(Nat.le_of_ble_eq_true rfl), (Nat.le_of_ble_eq_true rfl)⟩ ?_
  refine gtop (y := bI (inB (nI (nζ % 10)) 1 5)) (congrArg bI (inL_i (lo := 1) (hi := 5) (by decide) (by decide))) ?_
  refine lv_istore_n (lv' := [(2, .int (bI (inB (nI (nζ % 10)) 1 5))), (0, .ref hζ), (1, .int (nI nζ))]) hx hb dX7_isFit_12 rfl hl (by decide) rfl (fun ls hl => ?_)
  refine lv_iconst (v := 0) hx hb dX7_isFit_13 (by decide) ?_
  refine lv_istore_n (lv' := [(3, .int 0), (2, .int (bI (inB (nI (nζ % 10)) 1 5))), (0, .ref hζ), (1, .int (nI nζ))]) hx hb dX7_isFit_14 rfl hl (by decide) rfl (fun ls hl => ?_)
  refine lv_iload_n hx hb dX7_isFit_15 rfl (lv_at hl 0 rfl) ?_
  refine lv_aload_n hx hb dX7_isFit_16 rfl (lv_at hl 2 rfl) ?_
  refine va_get (D := g.1) (ci := 7) (v := .int 0) (C := RX7) (T := TX7) (N := 34) hx hb hts hi7 hown hK hP 0 rfl rfl 11 (by decide) (hts (.fieldLink RX7 244 "PanTalesModel" "sights" "I") (by decide +kernel)) (fun _ h9 => h9) rfl dX7_isFit_17 ?_
  refine lv_icmp_ge (tgt := 67) hx hb dX7_isFit_20 (by decide) (fun c_1 => ?_) (fun c_1 => ?_)
  · refine lv_iload_n hx hb dX7_isFit_67 rfl (lv_at hl 1 rfl) ?_
    exact r_zret hx hb hr hlk hS () (bI_nar _) rfl (hP.sub [0] rfl) (hD.sub [0] (by decide) rfl) dX7_isFit_68
  · exact absurd (by decide) c_1
set_option maxHeartbeats 4000000 in
set_option maxRecDepth 100000 in
theorem c_X7_fits (l : Launch) (g : GT) (sz : Nat) (hζ : Nat) (Aζ : Nat → Nat) (xζ : Int32) : Ci l yX7_fits wsX7_fits { frames := 2, cells := 0, slots := 0, locals := 48 } g sz [.ref hζ, .int xζ] [(hζ, .inr (7, oM Aζ iM0))] (fitsF xζ) [] := by
  refine gMet_i (cc := cX7_fits) (maxL := 4) (ret := (some .int)) (by decide) rfl (Nat.le_of_ble_eq_true rfl) ?_
  intro p e s m args below meth c Z hx hb hr F hlk hnm hK hN hA H locs hP hD hS ls hl
  have hl : lv_has ls 4 [(0, .ref hζ), (1, .int xζ)] := hl
  have F : CallFix p m c cX7_fits 4 s args wsX7_fits RX7 := F
  have hts := F.2.2.2.2
  have hown : s.vm.findClass RX7 = some m.cls := F.2.2.2.1
  refine lv_iconst (v := 0) hx hb dX7_fits_0 (by decide) ?_
  refine lv_istore_n (lv' := [(2, .int 0), (0, .ref hζ), (1, .int xζ)]) hx hb dX7_fits_1 rfl hl (by decide) rfl (fun ls hl => ?_)
  refine lv_iconst (v := 0) hx hb dX7_fits_2 (by decide) ?_
  refine lv_istore_n (lv' := [(3, .int 0), (2, .int 0), (0, .ref hζ), (1, .int xζ)]) hx hb dX7_fits_3 rfl hl (by decide) rfl (fun ls hl => ?_)
  refine gloop (σ := Nat) (fun u0 => 100 - u0) (fun u0 => u0 ≤ 100 ∧ ∀ qζ, qζ < fcN u0 → ¬ nI qζ = xζ) (fun u0 => [(hζ, .inr (7, oM Aζ iM0))]) (fun u0 => [(3, .int (nI u0)), (2, .int (nI (fcN u0))), (0, .ref hζ), (1, .int xζ)]) ?_ 0 ⟨(by first | omega | decide | rfl), (fun qζ hq1ζ => absurd hq1ζ (Nat.not_lt_zero qζ))⟩ (hP.sub [0] rfl) (hD.sub [0] (by decide) rfl) hS (lv_sub hl [0, 1, 2, 3] rfl)
  rintro iζ ⟨hiζ, hqfζ⟩ ih4 H locs ls hP hD hS hl
  have hiζ : iζ ≤ 100 := hiζ
  have hqfζ : ∀ qζ, qζ < fcN iζ → ¬ nI qζ = xζ := hqfζ
  have hP : va_P g.1 vwCl [(hζ, .inr (7, oM Aζ iM0))] H := hP
  have hD : va_D Z [(hζ, .inr (7, oM Aζ iM0))] := hD
  have hl : lv_has ls 4 [(3, .int (nI iζ)), (2, .int (nI (fcN iζ))), (0, .ref hζ), (1, .int xζ)] := hl
  refine lv_iload_n hx hb dX7_fits_4 rfl (lv_at hl 0 rfl) ?_
  refine lv_bipush (v := 100) hx hb dX7_fits_5 (by decide) ?_
  refine lv_icmp_ge (tgt := 34) hx hb dX7_fits_7 (by decide) (fun c_1 => ?_) (fun c_1 => ?_)
  · have c_1 : 100 ≤ iζ := (nI_leI (a := 100) (b := iζ) (by omega) (by omega)).mp c_1
    obtain rfl : iζ = 100 := by omega
    skip
    refine lv_iload_n hx hb dX7_fits_34 rfl (lv_at hl 3 rfl) ?_
    refine lv_iconst (v := (-1)) hx hb dX7_fits_35 (by decide) ?_
    refine lv_icmp_ne (tgt := 43) hx hb dX7_fits_36 (by decide) (fun c_2 => ?_) (fun c_2 => ?_)
    · refine lv_bipush (v := (-6)) hx hb dX7_fits_43 (by decide) ?_
      exact r_iret hx hb hr hlk hS () (ft_no hqfζ c_2) (hP.sub [] rfl) (hD.sub [] (by decide) rfl) dX7_fits_45
    · refine lv_iload_n hx hb dX7_fits_39 rfl (lv_at hl 1 rfl) ?_
      refine lv_goto (tgt := 45) hx hb dX7_fits_40 (by decide) ?_
      exact r_iret hx hb hr hlk hS () (ft_50 c_2) (hP.sub [] rfl) (hD.sub [] (by decide) rfl) dX7_fits_45
  · have c_1 : ¬ 100 ≤ iζ := fun z => c_1 ((nI_leI (a := 100) (b := iζ) (by omega) (by omega)).mpr z)
    refine lv_aload_n hx hb dX7_fits_10 rfl (lv_at hl 2 rfl) ?_
    refine lv_iload_n hx hb dX7_fits_11 rfl (lv_at hl 0 rfl) ?_
    refine gcV_i (As := [.int (nI iζ)]) (rest := []) (ci := 7) (q := (RX7, TX7, 34)) F hK hN hP hD hS hA (c_X7_isFit l g H.size hζ Aζ iζ (by omega)) gX7_fits_X7_isFit kX7_isFit rfl rfl rfl rfl ⟨(Nat.le_of_ble_eq_true rfl), (Nat.le_of_ble_eq_true rfl)⟩ [0] [] rfl rfl rfl (by decide) rfl rfl rfl rfl rfl hl.1 (Nat.le_of_ble_eq_true rfl) dX7_fits_12 ⟨(Nat.le_of_ble_eq_true rfl), (Nat.le_of_ble_eq_true rfl)⟩ (fun r_w u_w H locs hw hP hD hS => ?_)
    have hP : va_P g.1 vwCl [(hζ, .inr (7, oM Aζ iM0))] H := hP
    have hD : va_D Z [(hζ, .inr (7, oM Aζ iM0))] := hD
    obtain rfl := hw
    refine lv_if_eq (tgt := 28) hx hb dX7_fits_15 (by decide) (fun c_3 => ?_) (fun c_3 => ?_)
    · have c_3 : inB (nI (iζ % 10)) 1 5 = false := bI_0 c_3
      have hfnζ : ¬ (1 ≤ iζ % 10 ∧ iζ % 10 ≤ 5) := fun z_u => bF c_3 ((fit_iff (by omega)).mpr z_u)
      have hl : lv_has ls 4 [(3, .int (nI iζ)), (2, .int (nI (fcN (iζ + 1)))), (0, .ref hζ), (1, .int xζ)] := by first | exact hl | (rw [← (congrArg nI (fc_n hfnζ) : nI (fcN iζ) = nI (fcN (iζ + 1)))]; exact hl)
      refine lv_iinc (v := nI (iζ + 1)) (lv' := [(3, .int (nI (iζ + 1))), (2, .int (nI (fcN (iζ + 1)))), (0, .ref hζ), (1, .int xζ)]) hx hb dX7_fits_28 hl (k := 0) rfl (nI_1 iζ) (by decide) rfl (fun ls hl => ?_)
      refine lv_goto (tgt := 4) hx hb dX7_fits_31 (by decide) ?_
      exact ih4 (iζ + 1) ⟨(by first | omega | (dsimp only; omega)), (by rw [← fc_n hfnζ]; exact hqfζ)⟩ (by first | omega | (dsimp only; omega)) _ _ _ (hP.sub [0] rfl) (hD.sub [0] (by decide) rfl) hS (lv_sub hl [0, 1, 2, 3] rfl)
    · have c_3 : inB (nI (iζ % 10)) 1 5 = true := bI_1 c_3
      have hftζ : 1 ≤ iζ % 10 ∧ iζ % 10 ≤ 5 := (fit_iff (by omega)).mp c_3
      refine lv_iload_n hx hb dX7_fits_18 rfl (lv_at hl 1 rfl) ?_
      refine lv_iload_n hx hb dX7_fits_19 rfl (lv_at hl 3 rfl) ?_
      refine lv_icmp_ne (tgt := 25) hx hb dX7_fits_20 (by decide) (fun c_4 => ?_) (fun c_4 => ?_)
      · refine lv_iinc (v := nI (fcN (iζ + 1))) (lv' := [(2, .int (nI (fcN (iζ + 1)))), (3, .int (nI iζ)), (0, .ref hζ), (1, .int xζ)]) hx hb dX7_fits_25 hl (k := 1) rfl (fc_inc hftζ) (by decide) rfl (fun ls hl => ?_)
        refine lv_iinc (v := nI (iζ + 1)) (lv' := [(3, .int (nI (iζ + 1))), (2, .int (nI (fcN (iζ + 1)))), (0, .ref hζ), (1, .int xζ)]) hx hb dX7_fits_28 hl (k := 1) rfl (nI_1 iζ) (by decide) rfl (fun ls hl => ?_)
        refine lv_goto (tgt := 4) hx hb dX7_fits_31 (by decide) ?_
        exact ih4 (iζ + 1) ⟨(by first | omega | (dsimp only; omega)), (by rw [fc_t hftζ]; intro qζ hq1ζ; exact (Nat.lt_succ_iff_lt_or_eq.mp hq1ζ).elim (fun hq2ζ => hqfζ qζ hq2ζ) (fun hq2ζ => by rw [hq2ζ]; exact c_4))⟩ (by first | omega | (dsimp only; omega)) _ _ _ (hP.sub [0] rfl) (hD.sub [0] (by decide) rfl) hS (lv_sub hl [0, 1, 2, 3] rfl)
      · refine lv_iload_n hx hb dX7_fits_23 rfl (lv_at hl 0 rfl) ?_
        exact r_iret hx hb hr hlk hS () (ft_r (by omega) hftζ c_4) (hP.sub [] rfl) (hD.sub [] (by decide) rfl) dX7_fits_24
set_option maxHeartbeats 4000000 in
set_option maxRecDepth 100000 in
theorem c_X7_mostLeft (l : Launch) (g : GT) (sz : Nat) (hζ : Nat) (Aζ : Nat → Nat) (fζ : Nat → Int32) (bζ : Nat) (hb4ζ : bζ < 41) : Ci l yX7_mostLeft wsX7_mostLeft { frames := 2, cells := 0, slots := 0, locals := 48 } g sz [.ref hζ, .int (nI bζ)] [(hζ, .inr (7, oM Aζ iM0)), aI g (Aζ 4) 10 (fun j => nI j), aI g (Aζ 26) 10 fζ] 5 [(hζ, .inr (7, oM Aζ iM0)), aI g (Aζ 4) 10 (fun j => nI j), aI g (Aζ 26) 10 (lfF (fcN 100))] := by
  refine gMet_i (cc := cX7_mostLeft) (maxL := 5) (ret := (some .int)) (by decide) rfl (Nat.le_of_ble_eq_true rfl) ?_
  intro p e s m args below meth c Z hx hb hr F hlk hnm hK hN hA H locs hP hD hS ls hl
  have hl : lv_has ls 5 [(0, .ref hζ), (1, .int (nI bζ))] := hl
  have F : CallFix p m c cX7_mostLeft 5 s args wsX7_mostLeft RX7 := F
  have hts := F.2.2.2.2
  have hown : s.vm.findClass RX7 = some m.cls := F.2.2.2.1
  have hi7 : ∀ w ∈ u_ws RX7 TX7 34, w ∈ wsX7_mostLeft := by decide +kernel
  refine lv_iconst (v := 0) hx hb dX7_mostLeft_0 (by decide) ?_
  refine lv_istore_n (lv' := [(2, .int 0), (0, .ref hζ), (1, .int (nI bζ))]) hx hb dX7_mostLeft_1 rfl hl (by decide) rfl (fun ls hl => ?_)
  refine lv_iconst (v := 0) hx hb dX7_mostLeft_2 (by decide) ?_
  refine lv_istore_n (lv' := [(3, .int 0), (2, .int 0), (0, .ref hζ), (1, .int (nI bζ))]) hx hb dX7_mostLeft_3 rfl hl (by decide) rfl (fun ls hl => ?_)
  obtain ⟨hP, hD⟩ := r_extI hP hD 2 rfl (f' := fF fζ (fun _ => 0) 0) fF_0
  have hP : va_P g.1 vwCl [(hζ, .inr (7, oM Aζ iM0)), aI g (Aζ 4) 10 (fun j => nI j), aI g (Aζ 26) 10 (fF fζ (fun _ => 0) 0)] H := hP
  have hD : va_D Z [(hζ, .inr (7, oM Aζ iM0)), aI g (Aζ 4) 10 (fun j => nI j), aI g (Aζ 26) 10 (fF fζ (fun _ => 0) 0)] := hD
  refine gloop (σ := Nat) (fun u0 => 10 - u0) (fun u0 => u0 ≤ 10) (fun u0 => [(hζ, .inr (7, oM Aζ iM0)), aI g (Aζ 4) 10 (fun j => nI j), aI g (Aζ 26) 10 (fF fζ (fun _ => 0) u0)]) (fun u0 => [(3, .int (nI u0)), (2, .int 0), (0, .ref hζ), (1, .int (nI bζ))]) ?_ 0 (by first | omega | decide | rfl) (hP.sub [0, 1, 2] rfl) (hD.sub [0, 1, 2] (by decide) rfl) hS (lv_sub hl [0, 1, 2, 3] rfl)
  rintro iζ hiζ ih4 H locs ls hP hD hS hl
  have hiζ : iζ ≤ 10 := hiζ
  have hP : va_P g.1 vwCl [(hζ, .inr (7, oM Aζ iM0)), aI g (Aζ 4) 10 (fun j => nI j), aI g (Aζ 26) 10 (fF fζ (fun _ => 0) iζ)] H := hP
  have hD : va_D Z [(hζ, .inr (7, oM Aζ iM0)), aI g (Aζ 4) 10 (fun j => nI j), aI g (Aζ 26) 10 (fF fζ (fun _ => 0) iζ)] := hD
  have hl : lv_has ls 5 [(3, .int (nI iζ)), (2, .int 0), (0, .ref hζ), (1, .int (nI bζ))] := hl
  refine lv_iload_n hx hb dX7_mostLeft_4 rfl (lv_at hl 0 rfl) ?_
  refine lv_bipush (v := 10) hx hb dX7_mostLeft_5 (by decide) ?_
  refine lv_icmp_ge (tgt := 23) hx hb dX7_mostLeft_7 (by decide) (fun c_1 => ?_) (fun c_1 => ?_)
  · have c_1 : 10 ≤ iζ := (nI_leI (a := 10) (b := iζ) (by omega) (by omega)).mp c_1
    obtain ⟨hP, hD⟩ := r_extI hP hD 2 rfl (f' := (fun _ => 0)) (by intro z hz; exact fF_n z (by omega))
    have hP : va_P g.1 vwCl [(hζ, .inr (7, oM Aζ iM0)), aI g (Aζ 4) 10 (fun j => nI j), aI g (Aζ 26) 10 (fun _ => 0)] H := hP
    have hD : va_D Z [(hζ, .inr (7, oM Aζ iM0)), aI g (Aζ 4) 10 (fun j => nI j), aI g (Aζ 26) 10 (fun _ => 0)] := hD
    refine lv_iconst (v := 0) hx hb dX7_mostLeft_23 (by decide) ?_
    refine lv_istore_n (lv' := [(3, .int 0), (2, .int 0), (0, .ref hζ), (1, .int (nI bζ))]) hx hb dX7_mostLeft_24 rfl hl (by decide) rfl (fun ls hl => ?_)
    obtain ⟨hP, hD⟩ := r_extI hP hD 2 rfl (f' := lfF (fcN 0)) lf_0
    have hP : va_P g.1 vwCl [(hζ, .inr (7, oM Aζ iM0)), aI g (Aζ 4) 10 (fun j => nI j), aI g (Aζ 26) 10 (lfF (fcN 0))] H := hP
    have hD : va_D Z [(hζ, .inr (7, oM Aζ iM0)), aI g (Aζ 4) 10 (fun j => nI j), aI g (Aζ 26) 10 (lfF (fcN 0))] := hD
    refine gloop (σ := Nat) (fun u0 => 100 - u0) (fun u0 => u0 ≤ 100) (fun u0 => [(hζ, .inr (7, oM Aζ iM0)), aI g (Aζ 4) 10 (fun j => nI j), aI g (Aζ 26) 10 (lfF (fcN u0))]) (fun u0 => [(3, .int (nI u0)), (2, .int (nI (msF (fcN u0)))), (0, .ref hζ), (1, .int (nI bζ))]) ?_ 0 (by first | omega | decide | rfl) (hP.sub [0, 1, 2] rfl) (hD.sub [0, 1, 2] (by decide) rfl) hS (lv_sub hl [0, 1, 2, 3] rfl)
    rintro iζ hiζ ih25 H locs ls hP hD hS hl
    have hiζ : iζ ≤ 100 := hiζ
    have hP : va_P g.1 vwCl [(hζ, .inr (7, oM Aζ iM0)), aI g (Aζ 4) 10 (fun j => nI j), aI g (Aζ 26) 10 (lfF (fcN iζ))] H := hP
    have hD : va_D Z [(hζ, .inr (7, oM Aζ iM0)), aI g (Aζ 4) 10 (fun j => nI j), aI g (Aζ 26) 10 (lfF (fcN iζ))] := hD
    have hl : lv_has ls 5 [(3, .int (nI iζ)), (2, .int (nI (msF (fcN iζ)))), (0, .ref hζ), (1, .int (nI bζ))] := hl
    refine lv_iload_n hx hb dX7_mostLeft_25 rfl (lv_at hl 0 rfl) ?_
    refine lv_bipush (v := 100) hx hb dX7_mostLeft_26 (by decide) ?_
    refine lv_icmp_ge (tgt := 95) hx hb dX7_mostLeft_28 (by decide) (fun c_2 => ?_) (fun c_2 => ?_)
    · have c_2 : 100 ≤ iζ := (nI_leI (a := 100) (b := iζ) (by omega) (by omega)).mp c_2
      obtain rfl : iζ = 100 := by omega
      skip
      refine lv_iload_n hx hb dX7_mostLeft_95 rfl (lv_at hl 1 rfl) ?_
      exact r_iret hx hb hr hlk hS () rfl (hP.sub [0, 1, 2] rfl) (hD.sub [0, 1, 2] (by decide) rfl) dX7_mostLeft_96
    · have c_2 : ¬ 100 ≤ iζ := fun z => c_2 ((nI_leI (a := 100) (b := iζ) (by omega) (by omega)).mpr z)
      refine lv_aload_n hx hb dX7_mostLeft_31 rfl (lv_at hl 2 rfl) ?_
      refine lv_iload_n hx hb dX7_mostLeft_32 rfl (lv_at hl 0 rfl) ?_
      refine gcV_i (As := [.int (nI iζ)]) (rest := []) (ci := 7) (q := (RX7, TX7, 34)) F hK hN hP hD hS hA (c_X7_isFit l g H.size hζ Aζ iζ (by omega)) gX7_mostLeft_X7_isFit kX7_isFit rfl rfl rfl rfl ⟨(Nat.le_of_ble_eq_true rfl), (Nat.le_of_ble_eq_true rfl)⟩ [0] [1, 2] rfl rfl rfl (by decide) rfl rfl rfl rfl rfl hl.1 (Nat.le_of_ble_eq_true rfl) dX7_mostLeft_33 ⟨(Nat.le_of_ble_eq_true rfl), (Nat.le_of_ble_eq_true rfl)⟩ (fun r_w u_w H locs hw hP hD hS => ?_)
      have hP : va_P g.1 vwCl [aI g (Aζ 4) 10 (fun j => nI j), aI g (Aζ 26) 10 (lfF (fcN iζ)), (hζ, .inr (7, oM Aζ iM0))] H := hP
      have hD : va_D Z [aI g (Aζ 4) 10 (fun j => nI j), aI g (Aζ 26) 10 (lfF (fcN iζ)), (hζ, .inr (7, oM Aζ iM0))] := hD
      obtain rfl := hw
      refine lv_if_eq (tgt := 89) hx hb dX7_mostLeft_36 (by decide) (fun c_3 => ?_) (fun c_3 => ?_)
      · have c_3 : inB (nI (iζ % 10)) 1 5 = false := bI_0 c_3
        have hfnζ : ¬ (1 ≤ iζ % 10 ∧ iζ % 10 ≤ 5) := fun z_u => bF c_3 ((fit_iff (by omega)).mpr z_u)
        obtain ⟨hP, hD⟩ := r_extI hP hD 1 rfl (f' := lfF (fcN (iζ + 1))) (by intro j_u _; rw [← fc_n hfnζ])
        have hP : va_P g.1 vwCl [aI g (Aζ 4) 10 (fun j => nI j), aI g (Aζ 26) 10 (lfF (fcN (iζ + 1))), (hζ, .inr (7, oM Aζ iM0))] H := hP
        have hD : va_D Z [aI g (Aζ 4) 10 (fun j => nI j), aI g (Aζ 26) 10 (lfF (fcN (iζ + 1))), (hζ, .inr (7, oM Aζ iM0))] := hD
        have hl : lv_has ls 5 [(3, .int (nI iζ)), (2, .int (nI (msF (fcN (iζ + 1))))), (0, .ref hζ), (1, .int (nI bζ))] := by first | exact hl | (rw [← (congrArg (fun q_u => nI (msF q_u)) (fc_n hfnζ) : nI (msF (fcN iζ)) = nI (msF (fcN (iζ + 1))))]; exact hl)
        refine lv_iinc (v := nI (iζ + 1)) (lv' := [(3, .int (nI (iζ + 1))), (2, .int (nI (msF (fcN (iζ + 1))))), (0, .ref hζ), (1, .int (nI bζ))]) hx hb dX7_mostLeft_89 hl (k := 0) rfl (nI_1 iζ) (by decide) rfl (fun ls hl => ?_)
        refine lv_goto (tgt := 25) hx hb dX7_mostLeft_92 (by decide) ?_
        exact ih25 (iζ + 1) (by first | omega | (dsimp only; omega)) (by first | omega | (dsimp only; omega)) _ _ _ (hP.sub [2, 0, 1] rfl) (hD.sub [2, 0, 1] (by decide) rfl) hS (lv_sub hl [0, 1, 2, 3] rfl)
      · have c_3 : inB (nI (iζ % 10)) 1 5 = true := bI_1 c_3
        have hftζ : 1 ≤ iζ % 10 ∧ iζ % 10 ≤ 5 := (fit_iff (by omega)).mp c_3
        refine lv_aload_n hx hb dX7_mostLeft_39 rfl (lv_at hl 2 rfl) ?_
        refine lv_iload_n hx hb dX7_mostLeft_40 rfl (lv_at hl 0 rfl) ?_
        refine lv_bipush (v := 10) hx hb dX7_mostLeft_41 (by decide) ?_
        refine lv_idiv hx hb dX7_mostLeft_43 (by decide) ?_
        refine gtop (y := nI (iζ / 10)) (pk_div (a := iζ) (d := 10) (by omega) (by omega) (by omega)) ?_
        refine lv_iload_n hx hb dX7_mostLeft_44 rfl (lv_at hl 3 rfl) ?_
        refine lv_iload_n hx hb dX7_mostLeft_45 rfl (lv_at hl 0 rfl) ?_
        refine lv_bipush (v := 10) hx hb dX7_mostLeft_46 (by decide) ?_
        refine lv_irem hx hb dX7_mostLeft_48 (by decide) ?_
        refine gtop (y := nI (iζ % 10)) (pk_rem (a := iζ) (d := 10) (by omega) (by omega) (by omega)) ?_
        refine lv_idiv hx hb dX7_mostLeft_49 (nI_ne0 (by omega) (by omega)) ?_
        refine gtop (y := nI (bζ / (iζ % 10))) (pk_div (a := bζ) (d := iζ % 10) (by omega) (by omega) (by omega)) ?_
        refine gcV_i (As := [.int (nI (iζ / 10)), .int (nI (bζ / (iζ % 10)))]) (rest := []) (ci := 7) (q := (RX7, TX7, 34)) F hK hN hP hD hS hA (c_X7_fadedBy l g H.size hζ Aζ iM0 (iζ / 10) (bζ / (iζ % 10)) (by omega) (by have := Nat.div_le_self bζ (iζ % 10); omega)) gX7_mostLeft_X7_fadedBy kX7_fadedBy rfl rfl rfl rfl ⟨(Nat.le_of_ble_eq_true rfl), (Nat.le_of_ble_eq_true rfl)⟩ [2, 0] [1] rfl rfl rfl (by decide) rfl rfl rfl rfl rfl hl.1 (Nat.le_of_ble_eq_true rfl) dX7_mostLeft_50 ⟨(Nat.le_of_ble_eq_true rfl), (Nat.le_of_ble_eq_true rfl)⟩ (fun r_w u_w H locs hw hP hD hS => ?_)
        have hP : va_P g.1 vwCl [aI g (Aζ 26) 10 (lfF (fcN iζ)), (hζ, .inr (7, oM Aζ iM0)), aI g (Aζ 4) 10 (fun j => nI j)] H := hP
        have hD : va_D Z [aI g (Aζ 26) 10 (lfF (fcN iζ)), (hζ, .inr (7, oM Aζ iM0)), aI g (Aζ 4) 10 (fun j => nI j)] := hD
        obtain rfl := hw
        refine lv_istore (lv' := [(4, .int (nI (iζ / 10))), (3, .int (nI iζ)), (2, .int (nI (msF (fcN iζ)))), (0, .ref hζ), (1, .int (nI bζ))]) hx hb dX7_mostLeft_53 hl (by decide) rfl (fun ls hl => ?_)
        refine lv_aload_n hx hb dX7_mostLeft_55 rfl (lv_at hl 3 rfl) ?_
        refine va_get (D := g.1) (ci := 7) (v := .ref (Aζ 26)) (C := RX7) (T := TX7) (N := 34) hx hb hts hi7 hown hK hP 1 rfl rfl 26 (by decide) (hts (.fieldLink RX7 52 "PanTalesModel" "byTale" "[I") (by decide +kernel)) (fun _ h9 => h9) rfl dX7_mostLeft_56 ?_
        refine lv_iload hx hb dX7_mostLeft_59 (lv_at hl 0 rfl) ?_
        refine lv_dup2_11 hx hb dX7_mostLeft_61 rfl rfl ?_
        refine r_iald (v := nI (fcN iζ % 5)) hx hb hK hP 0 rfl (vp_in_nI (n := (iζ / 10)) (by omega) (by omega)) ((congrArg (lfF (fcN iζ)) (nI_clamp (n := iζ / 10) (by omega))).trans (by rw [← fc_d hftζ]; exact lf_v)) dX7_mostLeft_62 ?_
        refine lv_iconst (v := 1) hx hb dX7_mostLeft_63 (by decide) ?_
        refine lv_iadd hx hb dX7_mostLeft_64 ?_
        refine gtop (y := nI ((fcN iζ % 5) + 1)) (nI_add (fcN iζ % 5) 1) ?_
        refine r_iast (f' := lfF (fcN (iζ + 1))) hx hb hK hP hD hS 0 rfl (vp_in_nI (n := (iζ / 10)) (by omega) (by omega)) (by rw [← fc_d hftζ, fc_t hftζ]; exact lf_s (fc_lt (by omega) hftζ)) dX7_mostLeft_65 (fun H locs hP hD hS => ?_)
        have hP : va_P g.1 vwCl [aI g (Aζ 26) 10 (lfF (fcN (iζ + 1))), (hζ, .inr (7, oM Aζ iM0)), aI g (Aζ 4) 10 (fun j => nI j)] H := hP
        have hD : va_D Z [aI g (Aζ 26) 10 (lfF (fcN (iζ + 1))), (hζ, .inr (7, oM Aζ iM0)), aI g (Aζ 4) 10 (fun j => nI j)] := hD
        refine lv_aload_n hx hb dX7_mostLeft_66 rfl (lv_at hl 3 rfl) ?_
        refine va_get (D := g.1) (ci := 7) (v := .ref (Aζ 26)) (C := RX7) (T := TX7) (N := 34) hx hb hts hi7 hown hK hP 1 rfl rfl 26 (by decide) (hts (.fieldLink RX7 52 "PanTalesModel" "byTale" "[I") (by decide +kernel)) (fun _ h9 => h9) rfl dX7_mostLeft_67 ?_
        refine lv_iload hx hb dX7_mostLeft_70 (lv_at hl 0 rfl) ?_
        refine r_iald (v := nI (fcN iζ % 5 + 1)) hx hb hK hP 0 rfl (vp_in_nI (n := (iζ / 10)) (by omega) (by omega)) ((congrArg (lfF (fcN (iζ + 1))) (nI_clamp (n := iζ / 10) (by omega))).trans (by rw [← fc_d hftζ, fc_t hftζ]; exact lf_w)) dX7_mostLeft_72 ?_
        refine lv_iload_n hx hb dX7_mostLeft_73 rfl (lv_at hl 2 rfl) ?_
        refine lv_icmp_le (tgt := 87) hx hb dX7_mostLeft_74 (by decide) (fun c_4 => ?_) (fun c_4 => ?_)
        · have c_4 : (fcN iζ % 5 + 1) ≤ (msF (fcN iζ)) := (nI_leI (a := (fcN iζ % 5 + 1)) (b := (msF (fcN iζ))) (by omega) (by have := ms_le (fcN iζ); omega)).mp c_4
          refine lv_iload_n hx hb dX7_mostLeft_87 rfl (lv_at hl 2 rfl) ?_
          refine gtop (y := nI (msF (fcN (iζ + 1)))) (congrArg nI (by rw [fc_t hftζ]; exact ms_a c_4)) ?_
          refine lv_istore_n (lv' := [(2, .int (nI (msF (fcN (iζ + 1))))), (4, .int (nI (iζ / 10))), (3, .int (nI iζ)), (0, .ref hζ), (1, .int (nI bζ))]) hx hb dX7_mostLeft_88 rfl hl (by decide) rfl (fun ls hl => ?_)
          refine lv_iinc (v := nI (iζ + 1)) (lv' := [(3, .int (nI (iζ + 1))), (2, .int (nI (msF (fcN (iζ + 1))))), (4, .int (nI (iζ / 10))), (0, .ref hζ), (1, .int (nI bζ))]) hx hb dX7_mostLeft_89 hl (k := 2) rfl (nI_1 iζ) (by decide) rfl (fun ls hl => ?_)
          refine lv_goto (tgt := 25) hx hb dX7_mostLeft_92 (by decide) ?_
          exact ih25 (iζ + 1) (by first | omega | (dsimp only; omega)) (by first | omega | (dsimp only; omega)) _ _ _ (hP.sub [1, 2, 0] rfl) (hD.sub [1, 2, 0] (by decide) rfl) hS (lv_sub hl [0, 1, 3, 4] rfl)
        · have c_4 : ¬ (fcN iζ % 5 + 1) ≤ (msF (fcN iζ)) := fun z => c_4 ((nI_leI (a := (fcN iζ % 5 + 1)) (b := (msF (fcN iζ))) (by omega) (by have := ms_le (fcN iζ); omega)).mpr z)
          refine lv_aload_n hx hb dX7_mostLeft_77 rfl (lv_at hl 3 rfl) ?_
          refine va_get (D := g.1) (ci := 7) (v := .ref (Aζ 26)) (C := RX7) (T := TX7) (N := 34) hx hb hts hi7 hown hK hP 1 rfl rfl 26 (by decide) (hts (.fieldLink RX7 52 "PanTalesModel" "byTale" "[I") (by decide +kernel)) (fun _ h9 => h9) rfl dX7_mostLeft_78 ?_
          refine lv_iload hx hb dX7_mostLeft_81 (lv_at hl 0 rfl) ?_
          refine r_iald (v := nI (fcN iζ % 5 + 1)) hx hb hK hP 0 rfl (vp_in_nI (n := (iζ / 10)) (by omega) (by omega)) ((congrArg (lfF (fcN (iζ + 1))) (nI_clamp (n := iζ / 10) (by omega))).trans (by rw [← fc_d hftζ, fc_t hftζ]; exact lf_w)) dX7_mostLeft_83 ?_
          refine lv_goto (tgt := 88) hx hb dX7_mostLeft_84 (by decide) ?_
          refine gtop (y := nI (msF (fcN (iζ + 1)))) (congrArg nI (by rw [fc_t hftζ]; exact ms_b c_4)) ?_
          refine lv_istore_n (lv' := [(2, .int (nI (msF (fcN (iζ + 1))))), (4, .int (nI (iζ / 10))), (3, .int (nI iζ)), (0, .ref hζ), (1, .int (nI bζ))]) hx hb dX7_mostLeft_88 rfl hl (by decide) rfl (fun ls hl => ?_)
          refine lv_iinc (v := nI (iζ + 1)) (lv' := [(3, .int (nI (iζ + 1))), (2, .int (nI (msF (fcN (iζ + 1))))), (4, .int (nI (iζ / 10))), (0, .ref hζ), (1, .int (nI bζ))]) hx hb dX7_mostLeft_89 hl (k := 2) rfl (nI_1 iζ) (by decide) rfl (fun ls hl => ?_)
          refine lv_goto (tgt := 25) hx hb dX7_mostLeft_92 (by decide) ?_
          exact ih25 (iζ + 1) (by first | omega | (dsimp only; omega)) (by first | omega | (dsimp only; omega)) _ _ _ (hP.sub [1, 2, 0] rfl) (hD.sub [1, 2, 0] (by decide) rfl) hS (lv_sub hl [0, 1, 3, 4] rfl)
  · have c_1 : ¬ 10 ≤ iζ := fun z => c_1 ((nI_leI (a := 10) (b := iζ) (by omega) (by omega)).mpr z)
    refine lv_aload_n hx hb dX7_mostLeft_10 rfl (lv_at hl 2 rfl) ?_
    refine va_get (D := g.1) (ci := 7) (v := .ref (Aζ 26)) (C := RX7) (T := TX7) (N := 34) hx hb hts hi7 hown hK hP 0 rfl rfl 26 (by decide) (hts (.fieldLink RX7 52 "PanTalesModel" "byTale" "[I") (by decide +kernel)) (fun _ h9 => h9) rfl dX7_mostLeft_11 ?_
    refine lv_iload_n hx hb dX7_mostLeft_14 rfl (lv_at hl 0 rfl) ?_
    refine lv_iconst (v := 0) hx hb dX7_mostLeft_15 (by decide) ?_
    refine r_iast (f' := fF fζ (fun _ => 0) (iζ + 1)) hx hb hK hP hD hS 2 rfl (vp_in_nI (n := iζ) (by omega) (by omega)) (fF_s (nI_clamp (n := iζ) (by omega)) rfl) dX7_mostLeft_16 (fun H locs hP hD hS => ?_)
    have hP : va_P g.1 vwCl [(hζ, .inr (7, oM Aζ iM0)), aI g (Aζ 4) 10 (fun j => nI j), aI g (Aζ 26) 10 (fF fζ (fun _ => 0) (iζ + 1))] H := hP
    have hD : va_D Z [(hζ, .inr (7, oM Aζ iM0)), aI g (Aζ 4) 10 (fun j => nI j), aI g (Aζ 26) 10 (fF fζ (fun _ => 0) (iζ + 1))] := hD
    refine lv_iinc (v := nI (iζ + 1)) (lv' := [(3, .int (nI (iζ + 1))), (2, .int 0), (0, .ref hζ), (1, .int (nI bζ))]) hx hb dX7_mostLeft_17 hl (k := 0) rfl (nI_1 iζ) (by decide) rfl (fun ls hl => ?_)
    refine lv_goto (tgt := 4) hx hb dX7_mostLeft_20 (by decide) ?_
    exact ih4 (iζ + 1) (by first | omega | (dsimp only; omega)) (by first | omega | (dsimp only; omega)) _ _ _ (hP.sub [0, 1, 2] rfl) (hD.sub [0, 1, 2] (by decide) rfl) hS (lv_sub hl [0, 1, 2, 3] rfl)
set_option maxHeartbeats 4000000 in
set_option maxRecDepth 100000 in
theorem c_X7_ask (l : Launch) (g : GT) (sz : Nat) (hζ : Nat) (Aζ : Nat → Nat) (xζ : Int32) : Ci l yX7_ask wsX7_ask { frames := 3, cells := 0, slots := 0, locals := 72 } g sz [.ref hζ, .int xζ] [(hζ, .inr (7, oM Aζ iM0)), aI g (Aζ 4) 10 (fun jζ => nI jζ), aI g (Aζ 26) 10 (fun _ => 0)] (askF xζ) [] := by
  refine gMet_i (cc := cX7_ask) (maxL := 6) (ret := (some .int)) (by decide) rfl (Nat.le_of_ble_eq_true rfl) ?_
  intro p e s m args below meth c Z hx hb hr F hlk hnm hK hN hA H locs hP hD hS ls hl
  have hl : lv_has ls 6 [(0, .ref hζ), (1, .int xζ)] := hl
  have F : CallFix p m c cX7_ask 6 s args wsX7_ask RX7 := F
  have hts := F.2.2.2.2
  have hown : s.vm.findClass RX7 = some m.cls := F.2.2.2.1
  refine lv_iload_n hx hb dX7_ask_0 rfl (lv_at hl 1 rfl) ?_
  refine lv_i2l (v := xζ.toInt64) hx hb dX7_ask_1 rfl ?_
  refine lv_lconst (v := 0) hx hb dX7_ask_2 (by decide) ?_
  refine lv_lconst (v := 1) hx hb dX7_ask_3 (by decide) ?_
  refine gcP (As := [.long xζ.toInt64, .long 0, .long 1]) (rest := []) F (c_X7_in l xζ.toInt64 0 1) gX7_ask_X7_in kX7_in rfl rfl rfl ⟨(Nat.le_of_ble_eq_true rfl), (Nat.le_of_ble_eq_true rfl)⟩ rfl rfl hl.1 (Nat.le_of_ble_eq_true rfl) dX7_ask_4 ⟨(Nat.le_of_ble_eq_true rfl), (Nat.le_of_ble_eq_true rfl)⟩ ?_
  refine gtop (y := bI (inB xζ 0 1)) (congrArg bI (inL_i (lo := 0) (hi := 1) (by decide) (by decide))) ?_
  refine lv_if_ne (tgt := 13) hx hb dX7_ask_7 (by decide) (fun c_1 => ?_) (fun c_1 => ?_)
  · have c_1 : inB xζ 0 1 = true := bI_1 c_1
    refine lv_iconst (v := 0) hx hb dX7_ask_13 (by decide) ?_
    refine lv_istore_n (lv' := [(2, .int 0), (0, .ref hζ), (1, .int xζ)]) hx hb dX7_ask_14 rfl hl (by decide) rfl (fun ls hl => ?_)
    refine lv_aload_n hx hb dX7_ask_15 rfl (lv_at hl 1 rfl) ?_
    refine lv_iconst (v := 0) hx hb dX7_ask_16 (by decide) ?_
    refine gcV_i (As := [.int 0]) (rest := []) (ci := 7) (q := (RX7, TX7, 34)) F hK hN hP hD hS hA (c_X7_mostLeft l g H.size hζ Aζ (fun _ => 0) 0 (by omega)) gX7_ask_X7_mostLeft kX7_mostLeft rfl rfl rfl rfl ⟨(Nat.le_of_ble_eq_true rfl), (Nat.le_of_ble_eq_true rfl)⟩ [0, 1, 2] [] rfl rfl rfl (by decide) rfl rfl rfl rfl rfl hl.1 (Nat.le_of_ble_eq_true rfl) dX7_ask_17 ⟨(Nat.le_of_ble_eq_true rfl), (Nat.le_of_ble_eq_true rfl)⟩ (fun r_w u_w H locs hw hP hD hS => ?_)
    have hP : va_P g.1 vwCl [(hζ, .inr (7, oM Aζ iM0)), aI g (Aζ 4) 10 (fun jζ => nI jζ), aI g (Aζ 26) 10 (lfF (fcN 100))] H := hP
    have hD : va_D Z [(hζ, .inr (7, oM Aζ iM0)), aI g (Aζ 4) 10 (fun jζ => nI jζ), aI g (Aζ 26) 10 (lfF (fcN 100))] := hD
    obtain rfl := hw
    refine lv_istore_n (lv' := [(3, .int 5), (2, .int 0), (0, .ref hζ), (1, .int xζ)]) hx hb dX7_ask_20 rfl hl (by decide) rfl (fun ls hl => ?_)
    refine lv_iconst (v := 1) hx hb dX7_ask_21 (by decide) ?_
    refine lv_istore (lv' := [(4, .int 1), (3, .int 5), (2, .int 0), (0, .ref hζ), (1, .int xζ)]) hx hb dX7_ask_22 hl (by decide) rfl (fun ls hl => ?_)
    refine gloop (σ := Nat) (fun u0 => 41 - u0) (fun u0 => u0 ≤ 41) (fun u0 => [(hζ, .inr (7, oM Aζ iM0)), aI g (Aζ 4) 10 (fun jζ => nI jζ), aI g (Aζ 26) 10 (lfF (fcN 100))]) (fun u0 => [(4, .int (nI u0)), (3, .int 5), (2, .int 0), (0, .ref hζ), (1, .int xζ)]) ?_ 1 (by first | omega | decide | rfl) (hP.sub [0, 1, 2] rfl) (hD.sub [0, 1, 2] (by decide) rfl) hS (lv_sub hl [0, 1, 2, 3, 4] rfl)
    rintro t0ζ ht0ζ ih24 H locs ls hP hD hS hl
    have ht0ζ : t0ζ ≤ 41 := ht0ζ
    have hP : va_P g.1 vwCl [(hζ, .inr (7, oM Aζ iM0)), aI g (Aζ 4) 10 (fun jζ => nI jζ), aI g (Aζ 26) 10 (lfF (fcN 100))] H := hP
    have hD : va_D Z [(hζ, .inr (7, oM Aζ iM0)), aI g (Aζ 4) 10 (fun jζ => nI jζ), aI g (Aζ 26) 10 (lfF (fcN 100))] := hD
    have hl : lv_has ls 6 [(4, .int (nI t0ζ)), (3, .int 5), (2, .int 0), (0, .ref hζ), (1, .int xζ)] := hl
    refine lv_iload hx hb dX7_ask_24 (lv_at hl 0 rfl) ?_
    refine lv_bipush (v := 40) hx hb dX7_ask_26 (by decide) ?_
    refine lv_icmp_gt (tgt := 71) hx hb dX7_ask_28 (by decide) (fun c_2 => ?_) (fun c_2 => ?_)
    · have c_2 : 40 < t0ζ := (nI_ltI (a := 40) (b := t0ζ) (by omega) (by omega)).mp c_2
      refine lv_iload_n hx hb dX7_ask_71 rfl (lv_at hl 1 rfl) ?_
      refine lv_if_ne (tgt := 80) hx hb dX7_ask_72 (by decide) (fun c_3 => ?_) (fun c_3 => ?_)
      · refine lv_iload_n hx hb dX7_ask_80 rfl (lv_at hl 4 rfl) ?_
        refine lv_if_ne (tgt := 88) hx hb dX7_ask_81 (by decide) (fun c_4 => ?_) (fun c_4 => ?_)
        · refine lv_iload_n hx hb dX7_ask_88 rfl (lv_at hl 1 rfl) ?_
          exact r_iret hx hb hr hlk hS () (by unfold askF; rw [if_pos c_1, if_neg c_4]) (hP.sub [] rfl) (hD.sub [] (by decide) rfl) dX7_ask_89
        · refine lv_iload_n hx hb dX7_ask_84 rfl (lv_at hl 2 rfl) ?_
          refine lv_goto (tgt := 89) hx hb dX7_ask_85 (by decide) ?_
          exact r_iret hx hb hr hlk hS () (by unfold askF; rw [if_pos c_1, if_pos c_4]) (hP.sub [] rfl) (hD.sub [] (by decide) rfl) dX7_ask_89
      · exact absurd c_3 (by decide)
    · have c_2 : ¬ 40 < t0ζ := fun z => c_2 ((nI_ltI (a := 40) (b := t0ζ) (by omega) (by omega)).mpr z)
      refine lv_aload_n hx hb dX7_ask_31 rfl (lv_at hl 3 rfl) ?_
      refine lv_iload hx hb dX7_ask_32 (lv_at hl 0 rfl) ?_
      refine gcV_i (As := [.int (nI t0ζ)]) (rest := []) (ci := 7) (q := (RX7, TX7, 34)) F hK hN hP hD hS hA (c_X7_mostLeft l g H.size hζ Aζ (lfF (fcN 100)) t0ζ (by omega)) gX7_ask_X7_mostLeft kX7_mostLeft rfl rfl rfl rfl ⟨(Nat.le_of_ble_eq_true rfl), (Nat.le_of_ble_eq_true rfl)⟩ [0, 1, 2] [] rfl rfl rfl (by decide) rfl rfl rfl rfl rfl hl.1 (Nat.le_of_ble_eq_true rfl) dX7_ask_34 ⟨(Nat.le_of_ble_eq_true rfl), (Nat.le_of_ble_eq_true rfl)⟩ (fun r_w u_w H locs hw hP hD hS => ?_)
      have hP : va_P g.1 vwCl [(hζ, .inr (7, oM Aζ iM0)), aI g (Aζ 4) 10 (fun jζ => nI jζ), aI g (Aζ 26) 10 (lfF (fcN 100))] H := hP
      have hD : va_D Z [(hζ, .inr (7, oM Aζ iM0)), aI g (Aζ 4) 10 (fun jζ => nI jζ), aI g (Aζ 26) 10 (lfF (fcN 100))] := hD
      obtain rfl := hw
      refine lv_istore (lv' := [(5, .int 5), (4, .int (nI t0ζ)), (3, .int 5), (2, .int 0), (0, .ref hζ), (1, .int xζ)]) hx hb dX7_ask_37 hl (by decide) rfl (fun ls hl => ?_)
      refine lv_iload hx hb dX7_ask_39 (lv_at hl 0 rfl) ?_
      refine lv_iload_n hx hb dX7_ask_41 rfl (lv_at hl 2 rfl) ?_
      refine lv_icmp_ge (tgt := 50) hx hb dX7_ask_42 (by decide) (fun c_5 => ?_) (fun c_5 => ?_)
      · refine lv_iload_n hx hb dX7_ask_50 rfl (lv_at hl 3 rfl) ?_
        refine lv_istore_n (lv' := [(2, .int 0), (5, .int 5), (4, .int (nI t0ζ)), (3, .int 5), (0, .ref hζ), (1, .int xζ)]) hx hb dX7_ask_51 rfl hl (by decide) rfl (fun ls hl => ?_)
        refine lv_iload hx hb dX7_ask_52 (lv_at hl 1 rfl) ?_
        refine lv_iload_n hx hb dX7_ask_54 rfl (lv_at hl 3 rfl) ?_
        refine lv_icmp_ge (tgt := 63) hx hb dX7_ask_55 (by decide) (fun c_6 => ?_) (fun c_6 => ?_)
        · refine lv_iload_n hx hb dX7_ask_63 rfl (lv_at hl 3 rfl) ?_
          refine lv_istore_n (lv' := [(3, .int 5), (2, .int 0), (5, .int 5), (4, .int (nI t0ζ)), (0, .ref hζ), (1, .int xζ)]) hx hb dX7_ask_64 rfl hl (by decide) rfl (fun ls hl => ?_)
          refine lv_iinc (v := nI (t0ζ + 1)) (lv' := [(4, .int (nI (t0ζ + 1))), (3, .int 5), (2, .int 0), (5, .int 5), (0, .ref hζ), (1, .int xζ)]) hx hb dX7_ask_65 hl (k := 3) rfl (nI_1 t0ζ) (by decide) rfl (fun ls hl => ?_)
          refine lv_goto (tgt := 24) hx hb dX7_ask_68 (by decide) ?_
          exact ih24 (t0ζ + 1) (by first | omega | (dsimp only; omega)) (by first | omega | (dsimp only; omega)) _ _ _ (hP.sub [0, 1, 2] rfl) (hD.sub [0, 1, 2] (by decide) rfl) hS (lv_sub hl [0, 1, 2, 4, 5] rfl)
        · exact absurd (by decide) c_6
      · exact absurd (by decide) c_5
  · have c_1 : inB xζ 0 1 = false := bI_0 c_1
    refine lv_bipush (v := (-2)) hx hb dX7_ask_10 (by decide) ?_
    exact r_iret hx hb hr hlk hS () (by unfold askF; rw [if_neg (bF c_1)]) (hP.sub [] rfl) (hD.sub [] (by decide) rfl) dX7_ask_12

theorem kX1_behindStirs : YOk yX1_behindStirs 2 := by decide +kernel
theorem kX1_stirsToRing : YOk yX1_stirsToRing 1 := by decide +kernel
theorem kX1_stirsOfRing : YOk yX1_stirsOfRing 1 := by decide +kernel
theorem kX1_sightCount : YOk yX1_sightCount 0 := by decide +kernel
theorem kX1_addSight : YOk yX1_addSight 2 := by decide +kernel
theorem kX1_dropSights : YOk yX1_dropSights 0 := by decide +kernel
theorem kX1_kindDrawn : YOk yX1_kindDrawn 1 := by decide +kernel
theorem kX1_reasonAgainst : YOk yX1_reasonAgainst 2 := by decide +kernel
theorem kX1_act : YOk yX1_act 3 := by decide +kernel
set_option maxHeartbeats 4000000 in
set_option maxRecDepth 100000 in
theorem c_X1_behindStirs (l : Launch) (g : GT) (sz : Nat) (hζ : Nat) (Aζ : Nat → Nat) (Iζ : Nat → Int32) (tζ nζ : Nat) (htζ : tζ < 10) (hnζ : nζ < 2 ^ 31) : Ci l yX1_behindStirs wsX1_behindStirs { frames := 2, cells := 0, slots := 0, locals := 41 } g sz [.ref hζ, .int (nI tζ), .int (nI nζ)] [(hζ, .inr (1, oC Aζ Iζ)), aI g (Aζ 4) 10 (fun j => nI j)] (nI tζ) [(hζ, .inr (1, oC Aζ Iζ)), aI g (Aζ 4) 10 (fun j => nI j)] := by
  refine gMet_i (cc := cX1_behindStirs) (maxL := 5) (ret := (some .int)) (by decide) rfl (Nat.le_of_ble_eq_true rfl) ?_
  intro p e s m args below meth c Z hx hb hr F hlk hnm hK hN hA H locs hP hD hS ls hl
  have hl : lv_has ls 5 [(0, .ref hζ), (1, .int (nI tζ)), (2, .int (nI nζ))] := hl
  have F : CallFix p m c cX1_behindStirs 5 s args wsX1_behindStirs RX1 := F
  have hts := F.2.2.2.2
  have hown : s.vm.findClass RX1 = some m.cls := F.2.2.2.1
  refine lv_iload_n hx hb dX1_behindStirs_0 rfl (lv_at hl 1 rfl) ?_
  refine lv_istore_n (lv' := [(3, .int (nI tζ)), (0, .ref hζ), (1, .int (nI tζ)), (2, .int (nI nζ))]) hx hb dX1_behindStirs_1 rfl hl (by decide) rfl (fun ls hl => ?_)
  refine lv_iconst (v := 0) hx hb dX1_behindStirs_2 (by decide) ?_
  refine lv_istore (lv' := [(4, .int 0), (3, .int (nI tζ)), (0, .ref hζ), (1, .int (nI tζ)), (2, .int (nI nζ))]) hx hb dX1_behindStirs_3 hl (by decide) rfl (fun ls hl => ?_)
  refine gloop (σ := Nat) (fun u0 => nζ - u0) (fun u0 => u0 ≤ nζ) (fun u0 => [(hζ, .inr (1, oC Aζ Iζ)), aI g (Aζ 4) 10 (fun j => nI j)]) (fun u0 => [(4, .int (nI u0)), (3, .int (nI tζ)), (0, .ref hζ), (1, .int (nI tζ)), (2, .int (nI nζ))]) ?_ 0 (by first | omega | decide | rfl) (hP.sub [0, 1] rfl) (hD.sub [0, 1] (by decide) rfl) hS (lv_sub hl [0, 1, 2, 3, 4] rfl)
  rintro iζ hiζ ih5 H locs ls hP hD hS hl
  have hiζ : iζ ≤ nζ := hiζ
  have hP : va_P g.1 vwCl [(hζ, .inr (1, oC Aζ Iζ)), aI g (Aζ 4) 10 (fun j => nI j)] H := hP
  have hD : va_D Z [(hζ, .inr (1, oC Aζ Iζ)), aI g (Aζ 4) 10 (fun j => nI j)] := hD
  have hl : lv_has ls 5 [(4, .int (nI iζ)), (3, .int (nI tζ)), (0, .ref hζ), (1, .int (nI tζ)), (2, .int (nI nζ))] := hl
  refine lv_iload hx hb dX1_behindStirs_5 (lv_at hl 0 rfl) ?_
  refine lv_iload_n hx hb dX1_behindStirs_7 rfl (lv_at hl 4 rfl) ?_
  refine lv_icmp_ge (tgt := 23) hx hb dX1_behindStirs_8 (by decide) (fun c_1 => ?_) (fun c_1 => ?_)
  · have c_1 : nζ ≤ iζ := (nI_leI (a := nζ) (b := iζ) (by omega) (by omega)).mp c_1
    refine lv_iload_n hx hb dX1_behindStirs_23 rfl (lv_at hl 1 rfl) ?_
    exact r_iret hx hb hr hlk hS () rfl (hP.sub [0, 1] rfl) (hD.sub [0, 1] (by decide) rfl) dX1_behindStirs_24
  · have c_1 : ¬ nζ ≤ iζ := fun z => c_1 ((nI_leI (a := nζ) (b := iζ) (by omega) (by omega)).mpr z)
    refine lv_aload_n hx hb dX1_behindStirs_11 rfl (lv_at hl 2 rfl) ?_
    refine lv_iload_n hx hb dX1_behindStirs_12 rfl (lv_at hl 1 rfl) ?_
    refine gcV_i (As := [.int (nI tζ)]) (rest := []) (ci := 1) (q := (RX1, TX1, 12)) F hK hN hP hD hS hA (c_X1_fadesInto l g H.size hζ Aζ Iζ (fun j => nI j) (nI tζ)) gX1_behindStirs_X1_fadesInto kX1_fadesInto rfl rfl rfl rfl ⟨(Nat.le_of_ble_eq_true rfl), (Nat.le_of_ble_eq_true rfl)⟩ [0, 1] [] rfl rfl rfl (by decide) rfl rfl rfl rfl rfl hl.1 (Nat.le_of_ble_eq_true rfl) dX1_behindStirs_13 ⟨(Nat.le_of_ble_eq_true rfl), (Nat.le_of_ble_eq_true rfl)⟩ (fun r_w u_w H locs hw hP hD hS => ?_)
    have hP : va_P g.1 vwCl [(hζ, .inr (1, oC Aζ Iζ)), aI g (Aζ 4) 10 (fun j => nI j)] H := hP
    have hD : va_D Z [(hζ, .inr (1, oC Aζ Iζ)), aI g (Aζ 4) 10 (fun j => nI j)] := hD
    obtain rfl := hw
    refine gtop (y := nI tζ) (fdF_nI htζ) ?_
    refine lv_istore_n (lv' := [(3, .int (nI tζ)), (4, .int (nI iζ)), (0, .ref hζ), (1, .int (nI tζ)), (2, .int (nI nζ))]) hx hb dX1_behindStirs_16 rfl hl (by decide) rfl (fun ls hl => ?_)
    refine lv_iinc (v := nI (iζ + 1)) (lv' := [(4, .int (nI (iζ + 1))), (3, .int (nI tζ)), (0, .ref hζ), (1, .int (nI tζ)), (2, .int (nI nζ))]) hx hb dX1_behindStirs_17 hl (k := 1) rfl (nI_1 iζ) (by decide) rfl (fun ls hl => ?_)
    refine lv_goto (tgt := 5) hx hb dX1_behindStirs_20 (by decide) ?_
    exact ih5 (iζ + 1) (by first | omega | (dsimp only; omega)) (by first | omega | (dsimp only; omega)) _ _ _ (hP.sub [0, 1] rfl) (hD.sub [0, 1] (by decide) rfl) hS (lv_sub hl [0, 1, 2, 3, 4] rfl)
set_option maxHeartbeats 4000000 in
set_option maxRecDepth 100000 in
theorem c_X1_stirsToRing (l : Launch) (g : GT) (sz : Nat) (hζ : Nat) (Aζ : Nat → Nat) (Iζ : Nat → Int32) (tζ : Nat) (htζ : tζ < 10) : Ci l yX1_stirsToRing wsX1_stirsToRing { frames := 2, cells := 0, slots := 0, locals := 41 } g sz [.ref hζ, .int (nI tζ)] [(hζ, .inr (1, oC Aζ Iζ)), aI g (Aζ 4) 10 (fun j => nI j)] 1 [(hζ, .inr (1, oC Aζ Iζ)), aI g (Aζ 4) 10 (fun j => nI j)] := by
  refine gMet_i (cc := cX1_stirsToRing) (maxL := 5) (ret := (some .int)) (by decide) rfl (Nat.le_of_ble_eq_true rfl) ?_
  intro p e s m args below meth c Z hx hb hr F hlk hnm hK hN hA H locs hP hD hS ls hl
  have hl : lv_has ls 5 [(0, .ref hζ), (1, .int (nI tζ))] := hl
  have F : CallFix p m c cX1_stirsToRing 5 s args wsX1_stirsToRing RX1 := F
  have hts := F.2.2.2.2
  have hown : s.vm.findClass RX1 = some m.cls := F.2.2.2.1
  refine lv_iconst (v := 0) hx hb dX1_stirsToRing_0 (by decide) ?_
  refine lv_istore_n (lv' := [(2, .int 0), (0, .ref hζ), (1, .int (nI tζ))]) hx hb dX1_stirsToRing_1 rfl hl (by decide) rfl (fun ls hl => ?_)
  refine lv_iload_n hx hb dX1_stirsToRing_2 rfl (lv_at hl 2 rfl) ?_
  refine lv_istore_n (lv' := [(3, .int (nI tζ)), (2, .int 0), (0, .ref hζ), (1, .int (nI tζ))]) hx hb dX1_stirsToRing_3 rfl hl (by decide) rfl (fun ls hl => ?_)
  refine lv_iconst (v := 0) hx hb dX1_stirsToRing_4 (by decide) ?_
  refine lv_istore (lv' := [(4, .int 0), (3, .int (nI tζ)), (2, .int 0), (0, .ref hζ), (1, .int (nI tζ))]) hx hb dX1_stirsToRing_5 hl (by decide) rfl (fun ls hl => ?_)
  refine lv_iload hx hb dX1_stirsToRing_7 (lv_at hl 0 rfl) ?_
  refine lv_bipush (v := 10) hx hb dX1_stirsToRing_9 (by decide) ?_
  refine lv_icmp_gt (tgt := 50) hx hb dX1_stirsToRing_11 (by decide) (fun c_1 => ?_) (fun c_1 => ?_)
  · exact absurd c_1 (by decide)
  · refine lv_iload_n hx hb dX1_stirsToRing_14 rfl (lv_at hl 1 rfl) ?_
    refine gcPN (As := [.int (nI tζ)]) (rest := []) F (c_X6_isTale l (nI tζ)) gX1_stirsToRing_X6_isTale_n86 kX6_isTale (hts (.initialized RX6) (by decide +kernel)) (hN.get 7 rfl) (hts (.static yX6_isTale) (by decide +kernel)) rfl rfl rfl ⟨(Nat.le_of_ble_eq_true rfl), (Nat.le_of_ble_eq_true rfl)⟩ rfl rfl hl.1 (Nat.le_of_ble_eq_true rfl) dX1_stirsToRing_15 ⟨(Nat.le_of_ble_eq_true rfl), (Nat.le_of_ble_eq_true rfl)⟩ ?_
    refine lv_if_eq (tgt := 29) hx hb dX1_stirsToRing_18 (by decide) (fun c_2 => ?_) (fun c_2 => ?_)
    · exact absurd (bI_0 c_2) (by rw [nI_nB htζ]; decide)
    · have c_2 : inB (nI tζ) 0 9 = true := bI_1 c_2
      refine lv_iload_n hx hb dX1_stirsToRing_21 rfl (lv_at hl 1 rfl) ?_
      refine lv_iload_n hx hb dX1_stirsToRing_22 rfl (lv_at hl 2 rfl) ?_
      refine gcPN (As := [.int (nI tζ), .int 0]) (rest := []) F (c_X6_isIn l (nI tζ) 0) gX1_stirsToRing_X6_isIn_n92 kX6_isIn (hts (.initialized RX6) (by decide +kernel)) (hN.get 13 rfl) (hts (.static yX6_isIn) (by decide +kernel)) rfl rfl rfl ⟨(Nat.le_of_ble_eq_true rfl), (Nat.le_of_ble_eq_true rfl)⟩ rfl rfl hl.1 (Nat.le_of_ble_eq_true rfl) dX1_stirsToRing_23 ⟨(Nat.le_of_ble_eq_true rfl), (Nat.le_of_ble_eq_true rfl)⟩ ?_
      refine lv_if_eq (tgt := 32) hx hb dX1_stirsToRing_26 (by decide) (fun c_3 => ?_) (fun c_3 => ?_)
      · have c_3 : isInB (nI tζ) 0 = false := bI_0 c_3
        refine lv_iload_n hx hb dX1_stirsToRing_32 rfl (lv_at hl 2 rfl) ?_
        refine lv_iconst (v := 1) hx hb dX1_stirsToRing_33 (by decide) ?_
        refine lv_iload_n hx hb dX1_stirsToRing_34 rfl (lv_at hl 1 rfl) ?_
        refine lv_ishl hx hb dX1_stirsToRing_35 ?_
        refine lv_ior hx hb dX1_stirsToRing_36 ?_
        refine lv_istore_n (lv' := [(2, .int ((0 : Int32) ||| ((1 : Int32) <<< ((nI tζ) &&& 31)))), (4, .int 0), (3, .int (nI tζ)), (0, .ref hζ), (1, .int (nI tζ))]) hx hb dX1_stirsToRing_37 rfl hl (by decide) rfl (fun ls hl => ?_)
        refine lv_aload_n hx hb dX1_stirsToRing_38 rfl (lv_at hl 3 rfl) ?_
        refine lv_iload_n hx hb dX1_stirsToRing_39 rfl (lv_at hl 2 rfl) ?_
        refine gcV_i (As := [.int (nI tζ)]) (rest := []) (ci := 1) (q := (RX1, TX1, 12)) F hK hN hP hD hS hA (c_X1_fadesInto l g H.size hζ Aζ Iζ (fun j => nI j) (nI tζ)) gX1_stirsToRing_X1_fadesInto kX1_fadesInto rfl rfl rfl rfl ⟨(Nat.le_of_ble_eq_true rfl), (Nat.le_of_ble_eq_true rfl)⟩ [0, 1] [] rfl rfl rfl (by decide) rfl rfl rfl rfl rfl hl.1 (Nat.le_of_ble_eq_true rfl) dX1_stirsToRing_40 ⟨(Nat.le_of_ble_eq_true rfl), (Nat.le_of_ble_eq_true rfl)⟩ (fun r_w u_w H locs hw hP hD hS => ?_)
        have hP : va_P g.1 vwCl [(hζ, .inr (1, oC Aζ Iζ)), aI g (Aζ 4) 10 (fun j => nI j)] H := hP
        have hD : va_D Z [(hζ, .inr (1, oC Aζ Iζ)), aI g (Aζ 4) 10 (fun j => nI j)] := hD
        obtain rfl := hw
        refine gtop (y := nI tζ) (fdF_nI htζ) ?_
        refine lv_istore_n (lv' := [(3, .int (nI tζ)), (2, .int ((0 : Int32) ||| ((1 : Int32) <<< ((nI tζ) &&& 31)))), (4, .int 0), (0, .ref hζ), (1, .int (nI tζ))]) hx hb dX1_stirsToRing_43 rfl hl (by decide) rfl (fun ls hl => ?_)
        refine lv_iinc (v := 1) (lv' := [(4, .int 1), (3, .int (nI tζ)), (2, .int ((0 : Int32) ||| ((1 : Int32) <<< ((nI tζ) &&& 31)))), (0, .ref hζ), (1, .int (nI tζ))]) hx hb dX1_stirsToRing_44 hl (k := 2) rfl (by decide) (by decide) rfl (fun ls hl => ?_)
        refine lv_goto (tgt := 7) hx hb dX1_stirsToRing_47 (by decide) ?_
        refine lv_iload hx hb dX1_stirsToRing_7 (lv_at hl 0 rfl) ?_
        refine lv_bipush (v := 10) hx hb dX1_stirsToRing_9 (by decide) ?_
        refine lv_icmp_gt (tgt := 50) hx hb dX1_stirsToRing_11 (by decide) (fun c_4 => ?_) (fun c_4 => ?_)
        · exact absurd c_4 (by decide)
        · refine lv_iload_n hx hb dX1_stirsToRing_14 rfl (lv_at hl 1 rfl) ?_
          refine gcPN (As := [.int (nI tζ)]) (rest := []) F (c_X6_isTale l (nI tζ)) gX1_stirsToRing_X6_isTale_n86 kX6_isTale (hts (.initialized RX6) (by decide +kernel)) (hN.get 7 rfl) (hts (.static yX6_isTale) (by decide +kernel)) rfl rfl rfl ⟨(Nat.le_of_ble_eq_true rfl), (Nat.le_of_ble_eq_true rfl)⟩ rfl rfl hl.1 (Nat.le_of_ble_eq_true rfl) dX1_stirsToRing_15 ⟨(Nat.le_of_ble_eq_true rfl), (Nat.le_of_ble_eq_true rfl)⟩ ?_
          refine lv_if_eq (tgt := 29) hx hb dX1_stirsToRing_18 (by decide) (fun c_5 => ?_) (fun c_5 => ?_)
          · exact absurd (bI_0 c_5) (by rw [nI_nB htζ]; decide)
          · have c_5 : inB (nI tζ) 0 9 = true := bI_1 c_5
            refine lv_iload_n hx hb dX1_stirsToRing_21 rfl (lv_at hl 1 rfl) ?_
            refine lv_iload_n hx hb dX1_stirsToRing_22 rfl (lv_at hl 2 rfl) ?_
            refine gcPN (As := [.int (nI tζ), .int ((0 : Int32) ||| ((1 : Int32) <<< ((nI tζ) &&& 31)))]) (rest := []) F (c_X6_isIn l (nI tζ) ((0 : Int32) ||| ((1 : Int32) <<< ((nI tζ) &&& 31)))) gX1_stirsToRing_X6_isIn_n92 kX6_isIn (hts (.initialized RX6) (by decide +kernel)) (hN.get 13 rfl) (hts (.static yX6_isIn) (by decide +kernel)) rfl rfl rfl ⟨(Nat.le_of_ble_eq_true rfl), (Nat.le_of_ble_eq_true rfl)⟩ rfl rfl hl.1 (Nat.le_of_ble_eq_true rfl) dX1_stirsToRing_23 ⟨(Nat.le_of_ble_eq_true rfl), (Nat.le_of_ble_eq_true rfl)⟩ ?_
            refine lv_if_eq (tgt := 32) hx hb dX1_stirsToRing_26 (by decide) (fun c_6 => ?_) (fun c_6 => ?_)
            · exact absurd (bI_0 c_6) (by rw [isIn_s htζ]; decide)
            · have c_6 : isInB (nI tζ) ((0 : Int32) ||| ((1 : Int32) <<< ((nI tζ) &&& 31))) = true := bI_1 c_6
              refine lv_iload hx hb dX1_stirsToRing_29 (lv_at hl 0 rfl) ?_
              exact r_iret hx hb hr hlk hS () rfl (hP.sub [0, 1] rfl) (hD.sub [0, 1] (by decide) rfl) dX1_stirsToRing_31
      · exact absurd (by rw [isIn_0]; rfl) c_3
set_option maxHeartbeats 4000000 in
set_option maxRecDepth 100000 in
theorem c_X1_stirsOfRing (l : Launch) (g : GT) (sz : Nat) (hζ : Nat) (Aζ : Nat → Nat) (Iζ : Nat → Int32) (tζ : Nat) (htζ : tζ < 10) : Ci l yX1_stirsOfRing wsX1_stirsOfRing { frames := 3, cells := 0, slots := 0, locals := 65 } g sz [.ref hζ, .int (nI tζ)] [(hζ, .inr (1, oC Aζ Iζ)), aI g (Aζ 4) 10 (fun j => nI j)] 1 [(hζ, .inr (1, oC Aζ Iζ)), aI g (Aζ 4) 10 (fun j => nI j)] := by
  refine gMet_i (cc := cX1_stirsOfRing) (maxL := 5) (ret := (some .int)) (by decide) rfl (Nat.le_of_ble_eq_true rfl) ?_
  intro p e s m args below meth c Z hx hb hr F hlk hnm hK hN hA H locs hP hD hS ls hl
  have hl : lv_has ls 5 [(0, .ref hζ), (1, .int (nI tζ))] := hl
  have F : CallFix p m c cX1_stirsOfRing 5 s args wsX1_stirsOfRing RX1 := F
  have hts := F.2.2.2.2
  have hown : s.vm.findClass RX1 = some m.cls := F.2.2.2.1
  refine lv_aload_n hx hb dX1_stirsOfRing_0 rfl (lv_at hl 0 rfl) ?_
  refine lv_iload_n hx hb dX1_stirsOfRing_1 rfl (lv_at hl 1 rfl) ?_
  refine gcV_i (As := [.int (nI tζ)]) (rest := []) (ci := 1) (q := (RX1, TX1, 12)) F hK hN hP hD hS hA (c_X1_stirsToRing l g H.size hζ Aζ Iζ tζ (by omega)) gX1_stirsOfRing_X1_stirsToRing kX1_stirsToRing rfl rfl rfl rfl ⟨(Nat.le_of_ble_eq_true rfl), (Nat.le_of_ble_eq_true rfl)⟩ [0, 1] [] rfl rfl rfl (by decide) rfl rfl rfl rfl rfl hl.1 (Nat.le_of_ble_eq_true rfl) dX1_stirsOfRing_2 ⟨(Nat.le_of_ble_eq_true rfl), (Nat.le_of_ble_eq_true rfl)⟩ (fun r_w u_w H locs hw hP hD hS => ?_)
  have hP : va_P g.1 vwCl [(hζ, .inr (1, oC Aζ Iζ)), aI g (Aζ 4) 10 (fun j => nI j)] H := hP
  have hD : va_D Z [(hζ, .inr (1, oC Aζ Iζ)), aI g (Aζ 4) 10 (fun j => nI j)] := hD
  obtain rfl := hw
  refine lv_istore_n (lv' := [(2, .int 1), (0, .ref hζ), (1, .int (nI tζ))]) hx hb dX1_stirsOfRing_5 rfl hl (by decide) rfl (fun ls hl => ?_)
  refine lv_aload_n hx hb dX1_stirsOfRing_6 rfl (lv_at hl 1 rfl) ?_
  refine lv_iload_n hx hb dX1_stirsOfRing_7 rfl (lv_at hl 2 rfl) ?_
  refine lv_iload_n hx hb dX1_stirsOfRing_8 rfl (lv_at hl 0 rfl) ?_
  refine gcV_i (As := [.int (nI tζ), .int 1]) (rest := []) (ci := 1) (q := (RX1, TX1, 12)) F hK hN hP hD hS hA (c_X1_behindStirs l g H.size hζ Aζ Iζ tζ 1 (by omega) (by omega)) gX1_stirsOfRing_X1_behindStirs kX1_behindStirs rfl rfl rfl rfl ⟨(Nat.le_of_ble_eq_true rfl), (Nat.le_of_ble_eq_true rfl)⟩ [0, 1] [] rfl rfl rfl (by decide) rfl rfl rfl rfl rfl hl.1 (Nat.le_of_ble_eq_true rfl) dX1_stirsOfRing_9 ⟨(Nat.le_of_ble_eq_true rfl), (Nat.le_of_ble_eq_true rfl)⟩ (fun r_w u_w H locs hw hP hD hS => ?_)
  have hP : va_P g.1 vwCl [(hζ, .inr (1, oC Aζ Iζ)), aI g (Aζ 4) 10 (fun j => nI j)] H := hP
  have hD : va_D Z [(hζ, .inr (1, oC Aζ Iζ)), aI g (Aζ 4) 10 (fun j => nI j)] := hD
  obtain rfl := hw
  refine lv_istore_n (lv' := [(3, .int (nI tζ)), (2, .int 1), (0, .ref hζ), (1, .int (nI tζ))]) hx hb dX1_stirsOfRing_12 rfl hl (by decide) rfl (fun ls hl => ?_)
  refine lv_iconst (v := 0) hx hb dX1_stirsOfRing_13 (by decide) ?_
  refine lv_istore (lv' := [(4, .int 0), (3, .int (nI tζ)), (2, .int 1), (0, .ref hζ), (1, .int (nI tζ))]) hx hb dX1_stirsOfRing_14 hl (by decide) rfl (fun ls hl => ?_)
  refine lv_iload hx hb dX1_stirsOfRing_16 (lv_at hl 0 rfl) ?_
  refine lv_iload_n hx hb dX1_stirsOfRing_18 rfl (lv_at hl 2 rfl) ?_
  refine lv_icmp_ge (tgt := 44) hx hb dX1_stirsOfRing_19 (by decide) (fun c_1 => ?_) (fun c_1 => ?_)
  · exact absurd c_1 (by decide)
  · refine lv_aload_n hx hb dX1_stirsOfRing_22 rfl (lv_at hl 3 rfl) ?_
    refine lv_iload_n hx hb dX1_stirsOfRing_23 rfl (lv_at hl 4 rfl) ?_
    refine lv_iload hx hb dX1_stirsOfRing_24 (lv_at hl 0 rfl) ?_
    refine gcV_i (As := [.int (nI tζ), .int 0]) (rest := []) (ci := 1) (q := (RX1, TX1, 12)) F hK hN hP hD hS hA (c_X1_behindStirs l g H.size hζ Aζ Iζ tζ 0 (by omega) (by omega)) gX1_stirsOfRing_X1_behindStirs kX1_behindStirs rfl rfl rfl rfl ⟨(Nat.le_of_ble_eq_true rfl), (Nat.le_of_ble_eq_true rfl)⟩ [0, 1] [] rfl rfl rfl (by decide) rfl rfl rfl rfl rfl hl.1 (Nat.le_of_ble_eq_true rfl) dX1_stirsOfRing_26 ⟨(Nat.le_of_ble_eq_true rfl), (Nat.le_of_ble_eq_true rfl)⟩ (fun r_w u_w H locs hw hP hD hS => ?_)
    have hP : va_P g.1 vwCl [(hζ, .inr (1, oC Aζ Iζ)), aI g (Aζ 4) 10 (fun j => nI j)] H := hP
    have hD : va_D Z [(hζ, .inr (1, oC Aζ Iζ)), aI g (Aζ 4) 10 (fun j => nI j)] := hD
    obtain rfl := hw
    refine lv_iload_n hx hb dX1_stirsOfRing_29 rfl (lv_at hl 1 rfl) ?_
    refine lv_icmp_ne (tgt := 38) hx hb dX1_stirsOfRing_30 (by decide) (fun c_2 => ?_) (fun c_2 => ?_)
    · exact absurd rfl c_2
    · have c_2 : tζ = tζ := (nI_eq (a := tζ) (b := tζ) (by omega) (by omega)).mp c_2
      refine lv_iload_n hx hb dX1_stirsOfRing_33 rfl (lv_at hl 2 rfl) ?_
      refine lv_iload hx hb dX1_stirsOfRing_34 (lv_at hl 0 rfl) ?_
      refine lv_isub hx hb dX1_stirsOfRing_36 ?_
      refine gtop (y := 1) (by decide) ?_
      exact r_iret hx hb hr hlk hS () rfl (hP.sub [0, 1] rfl) (hD.sub [0, 1] (by decide) rfl) dX1_stirsOfRing_37
set_option maxHeartbeats 4000000 in
set_option maxRecDepth 100000 in
theorem c_X1_sightCount (l : Launch) (g : GT) (sz : Nat) (hζ : Nat) (Aζ : Nat → Nat) (Iζ : Nat → Int32) : Ci l yX1_sightCount wsX1_sightCount { frames := 0, cells := 0, slots := 0, locals := 0 } g sz [.ref hζ] [(hζ, .inr (1, oC Aζ Iζ))] (Iζ 7) [(hζ, .inr (1, oC Aζ Iζ))] := by
  refine gMet_i (cc := cX1_sightCount) (maxL := 1) (ret := (some .int)) (by decide) rfl (Nat.le_of_ble_eq_true rfl) ?_
  intro p e s m args below meth c Z hx hb hr F hlk hnm hK hN hA H locs hP hD hS ls hl
  have hl : lv_has ls 1 [(0, .ref hζ)] := hl
  have F : CallFix p m c cX1_sightCount 1 s args wsX1_sightCount RX1 := F
  have hts := F.2.2.2.2
  have hown : s.vm.findClass RX1 = some m.cls := F.2.2.2.1
  have hi1 : ∀ w ∈ u_ws RX1 TX1 12, w ∈ wsX1_sightCount := by decide +kernel
  refine lv_aload_n hx hb dX1_sightCount_0 rfl (lv_at hl 0 rfl) ?_
  refine va_get (D := g.1) (ci := 1) (v := .int (Iζ 7)) (C := RX1) (T := TX1) (N := 12) hx hb hts hi1 hown hK hP 0 rfl rfl 7 (by decide) (hts (.fieldLink RX1 49 "PanTales$Close" "sights" "I") (by decide +kernel)) (fun _ h9 => h9) rfl dX1_sightCount_1 ?_
  exact r_iret hx hb hr hlk hS () rfl (hP.sub [0] rfl) (hD.sub [0] (by decide) rfl) dX1_sightCount_4
set_option maxHeartbeats 4000000 in
set_option maxRecDepth 100000 in
theorem c_X1_addSight (l : Launch) (g : GT) (sz : Nat) (hζ : Nat) (Aζ : Nat → Nat) (xζ yζ : Int32) : Ci l yX1_addSight wsX1_addSight { frames := 1, cells := 0, slots := 0, locals := 22 } g sz [.ref hζ, .int xζ, .int yζ] [(hζ, .inr (1, oC Aζ iC0)), aI g (Aζ 5) 8 (fun _ => 0), aI g (Aζ 6) 8 (fun _ => 0)] (bI true) [(hζ, .inr (1, oC Aζ (upd iC0 7 1)))] := by
  refine gMet_i (cc := cX1_addSight) (maxL := 3) (ret := (some .boolean)) (by decide) rfl (Nat.le_of_ble_eq_true rfl) ?_
  intro p e s m args below meth c Z hx hb hr F hlk hnm hK hN hA H locs hP hD hS ls hl
  have hl : lv_has ls 3 [(0, .ref hζ), (1, .int xζ), (2, .int yζ)] := hl
  have F : CallFix p m c cX1_addSight 3 s args wsX1_addSight RX1 := F
  have hts := F.2.2.2.2
  have hown : s.vm.findClass RX1 = some m.cls := F.2.2.2.1
  have hi1 : ∀ w ∈ u_ws RX1 TX1 12, w ∈ wsX1_addSight := by decide +kernel
  refine lv_aload_n hx hb dX1_addSight_0 rfl (lv_at hl 0 rfl) ?_
  refine va_get (D := g.1) (ci := 1) (v := .int 0) (C := RX1) (T := TX1) (N := 12) hx hb hts hi1 hown hK hP 0 rfl rfl 7 (by decide) (hts (.fieldLink RX1 49 "PanTales$Close" "sights" "I") (by decide +kernel)) (fun _ h9 => h9) rfl dX1_addSight_1 ?_
  refine lv_iconst (v := 0) hx hb dX1_addSight_4 (by decide) ?_
  refine lv_bipush (v := 7) hx hb dX1_addSight_5 (by decide) ?_
  refine gcPN (As := [.int 0, .int 0, .int 7]) (rest := []) F (c_X6_within l 0 0 7) gX1_addSight_X6_within_n103 kX6_within (hts (.initialized RX6) (by decide +kernel)) (hN.get 14 rfl) (hts (.static yX6_within) (by decide +kernel)) rfl rfl rfl ⟨(Nat.le_of_ble_eq_true rfl), (Nat.le_of_ble_eq_true rfl)⟩ rfl rfl hl.1 (Nat.le_of_ble_eq_true rfl) dX1_addSight_7 ⟨(Nat.le_of_ble_eq_true rfl), (Nat.le_of_ble_eq_true rfl)⟩ ?_
  refine lv_if_ne (tgt := 15) hx hb dX1_addSight_10 (by decide) (fun c_1 => ?_) (fun c_1 => ?_)
  · have c_1 : inB 0 0 7 = true := bI_1 c_1
    refine lv_aload_n hx hb dX1_addSight_15 rfl (lv_at hl 0 rfl) ?_
    refine va_get (D := g.1) (ci := 1) (v := .ref (Aζ 5)) (C := RX1) (T := TX1) (N := 12) hx hb hts hi1 hown hK hP 0 rfl rfl 5 (by decide) (hts (.fieldLink RX1 27 "PanTales$Close" "sightBeds" "[I") (by decide +kernel)) (fun _ h9 => h9) rfl dX1_addSight_16 ?_
    refine lv_aload_n hx hb dX1_addSight_19 rfl (lv_at hl 0 rfl) ?_
    refine va_get (D := g.1) (ci := 1) (v := .int 0) (C := RX1) (T := TX1) (N := 12) hx hb hts hi1 hown hK hP 0 rfl rfl 7 (by decide) (hts (.fieldLink RX1 49 "PanTales$Close" "sights" "I") (by decide +kernel)) (fun _ h9 => h9) rfl dX1_addSight_20 ?_
    refine lv_iload_n hx hb dX1_addSight_23 rfl (lv_at hl 1 rfl) ?_
    refine r_iast (f' := upd (fun _ => 0) 0 xζ) hx hb hK hP hD hS 1 rfl (vp_in_nI (n := 0) (by decide) (by decide)) (fun k_u _ => congrArg (fun z_u => upd (fun _ => 0) z_u xζ k_u) (nI_clamp (n := 0) (by decide))) dX1_addSight_24 (fun H locs hP hD hS => ?_)
    have hP : va_P g.1 vwCl [(hζ, .inr (1, oC Aζ iC0)), aI g (Aζ 5) 8 (upd (fun _ => 0) 0 xζ), aI g (Aζ 6) 8 (fun _ => 0)] H := hP
    have hD : va_D Z [(hζ, .inr (1, oC Aζ iC0)), aI g (Aζ 5) 8 (upd (fun _ => 0) 0 xζ), aI g (Aζ 6) 8 (fun _ => 0)] := hD
    refine lv_aload_n hx hb dX1_addSight_25 rfl (lv_at hl 0 rfl) ?_
    refine va_get (D := g.1) (ci := 1) (v := .ref (Aζ 6)) (C := RX1) (T := TX1) (N := 12) hx hb hts hi1 hown hK hP 0 rfl rfl 6 (by decide) (hts (.fieldLink RX1 30 "PanTales$Close" "sightTales" "[I") (by decide +kernel)) (fun _ h9 => h9) rfl dX1_addSight_26 ?_
    refine lv_aload_n hx hb dX1_addSight_29 rfl (lv_at hl 0 rfl) ?_
    refine va_get (D := g.1) (ci := 1) (v := .int 0) (C := RX1) (T := TX1) (N := 12) hx hb hts hi1 hown hK hP 0 rfl rfl 7 (by decide) (hts (.fieldLink RX1 49 "PanTales$Close" "sights" "I") (by decide +kernel)) (fun _ h9 => h9) rfl dX1_addSight_30 ?_
    refine lv_iload_n hx hb dX1_addSight_33 rfl (lv_at hl 2 rfl) ?_
    refine r_iast (f' := upd (fun _ => 0) 0 yζ) hx hb hK hP hD hS 2 rfl (vp_in_nI (n := 0) (by decide) (by decide)) (fun k_u _ => congrArg (fun z_u => upd (fun _ => 0) z_u yζ k_u) (nI_clamp (n := 0) (by decide))) dX1_addSight_34 (fun H locs hP hD hS => ?_)
    have hP : va_P g.1 vwCl [(hζ, .inr (1, oC Aζ iC0)), aI g (Aζ 5) 8 (upd (fun _ => 0) 0 xζ), aI g (Aζ 6) 8 (upd (fun _ => 0) 0 yζ)] H := hP
    have hD : va_D Z [(hζ, .inr (1, oC Aζ iC0)), aI g (Aζ 5) 8 (upd (fun _ => 0) 0 xζ), aI g (Aζ 6) 8 (upd (fun _ => 0) 0 yζ)] := hD
    refine lv_aload_n hx hb dX1_addSight_35 rfl (lv_at hl 0 rfl) ?_
    refine lv_dup hx hb dX1_addSight_36 rfl ?_
    refine va_get (D := g.1) (ci := 1) (v := .int 0) (C := RX1) (T := TX1) (N := 12) hx hb hts hi1 hown hK hP 0 rfl rfl 7 (by decide) (hts (.fieldLink RX1 49 "PanTales$Close" "sights" "I") (by decide +kernel)) (fun _ h9 => h9) rfl dX1_addSight_37 ?_
    refine lv_iconst (v := 1) hx hb dX1_addSight_40 (by decide) ?_
    refine lv_iadd hx hb dX1_addSight_41 ?_
    refine gtop (y := 1) (by decide) ?_
    refine va_put (D := g.1) (ci := 1) (v := .int 1) (ty := .int) (C := RX1) (T := TX1) (N := 12) hx hb hts hi1 tyX1 tyX1_ok nmX1 hown hK hP hD hS 0 rfl rfl 7 (by decide) (hts (.fieldLink RX1 49 "PanTales$Close" "sights" "I") (by decide +kernel)) (fun _ h9 => h9) rfl (by decide +kernel) rfl rfl (Nat.le_of_ble_eq_true rfl) dX1_addSight_42 (fun H locs hP hD hS => ?_)
    have hP : va_P g.1 vwCl [(hζ, .inr (1, oC Aζ (upd iC0 7 1))), aI g (Aζ 5) 8 (upd (fun _ => 0) 0 xζ), aI g (Aζ 6) 8 (upd (fun _ => 0) 0 yζ)] H := hP
    have hD : va_D Z [(hζ, .inr (1, oC Aζ (upd iC0 7 1))), aI g (Aζ 5) 8 (upd (fun _ => 0) 0 xζ), aI g (Aζ 6) 8 (upd (fun _ => 0) 0 yζ)] := hD
    refine lv_iconst (v := 1) hx hb dX1_addSight_45 (by decide) ?_
    exact r_zret hx hb hr hlk hS () (by decide) rfl (hP.sub [0] rfl) (hD.sub [0] (by decide) rfl) dX1_addSight_46
  · exact absurd c_1 (by decide)
set_option maxHeartbeats 4000000 in
set_option maxRecDepth 100000 in
theorem c_X1_dropSights (l : Launch) (g : GT) (sz : Nat) (hζ : Nat) (Aζ : Nat → Nat) (Iζ : Nat → Int32) : Cv l yX1_dropSights wsX1_dropSights { frames := 0, cells := 0, slots := 0, locals := 0 } g sz [.ref hζ] [(hζ, .inr (1, oC Aζ Iζ))] [] := by
  refine gMet_v (cc := cX1_dropSights) (maxL := 1) (ret := none) (by decide) rfl (Nat.le_of_ble_eq_true rfl) ?_
  intro p e s m args below meth c Z hx hb hr F hlk hnm hK hN hA H locs hP hD hS ls hl
  have hl : lv_has ls 1 [(0, .ref hζ)] := hl
  have F : CallFix p m c cX1_dropSights 1 s args wsX1_dropSights RX1 := F
  have hts := F.2.2.2.2
  have hown : s.vm.findClass RX1 = some m.cls := F.2.2.2.1
  have hi1 : ∀ w ∈ u_ws RX1 TX1 12, w ∈ wsX1_dropSights := by decide +kernel
  refine lv_aload_n hx hb dX1_dropSights_0 rfl (lv_at hl 0 rfl) ?_
  refine lv_iconst (v := 0) hx hb dX1_dropSights_1 (by decide) ?_
  refine va_put (D := g.1) (ci := 1) (v := .int 0) (ty := .int) (C := RX1) (T := TX1) (N := 12) hx hb hts hi1 tyX1 tyX1_ok nmX1 hown hK hP hD hS 0 rfl rfl 7 (by decide) (hts (.fieldLink RX1 49 "PanTales$Close" "sights" "I") (by decide +kernel)) (fun _ h9 => h9) rfl (by decide +kernel) rfl rfl (Nat.le_of_ble_eq_true rfl) dX1_dropSights_2 (fun H locs hP hD hS => ?_)
  have hP : va_P g.1 vwCl [(hζ, .inr (1, oC Aζ (upd Iζ 7 0)))] H := hP
  have hD : va_D Z [(hζ, .inr (1, oC Aζ (upd Iζ 7 0)))] := hD
  exact r_vret hx hb hr hlk hS () trivial (hP.sub [] rfl) (hD.sub [] (by decide) rfl) dX1_dropSights_5
set_option maxHeartbeats 4000000 in
set_option maxRecDepth 100000 in
theorem c_X1_kindDrawn (l : Launch) (dζ : Nat) (hdζ : dζ < 8) : Cp l yX1_kindDrawn wsX1_kindDrawn { frames := 0, cells := 0, slots := 0, locals := 0 } [.int (nI dζ)] (nI (kdF dζ)) := by
  refine gMet_p (cc := cX1_kindDrawn) (maxL := 1) (ret := (some .int)) (by decide) rfl (Nat.le_of_ble_eq_true rfl) ?_
  intro p e s m args below meth c hx hb hr F hlk ls hl
  have hl : lv_has ls 1 [(0, .int (nI dζ))] := hl
  have F : CallFix p m c cX1_kindDrawn 1 s args wsX1_kindDrawn RX1 := F
  have hts := F.2.2.2.2
  have hown : s.vm.findClass RX1 = some m.cls := F.2.2.2.1
  refine lv_iload_n hx hb dX1_kindDrawn_0 rfl (lv_at hl 0 rfl) ?_
  by_cases k_1 : nI dζ = 0
  · refine gtop (y := 0) k_1 ?_
    refine lv_tableIn (tgt := 44) (off := 43) hx hb dX1_kindDrawn_1 (by decide) (by decide) rfl (by decide) ?_
    refine lv_iconst (v := 1) hx hb dX1_kindDrawn_44 (by decide) ?_
    exact r_pret hx hb hr hlk (kd_c (c := 0) (r := 1) hdζ k_1 (by decide) rfl) dX1_kindDrawn_45
  by_cases k_2 : nI dζ = 1
  · refine gtop (y := 1) k_2 ?_
    refine lv_tableIn (tgt := 44) (off := 43) hx hb dX1_kindDrawn_1 (by decide) (by decide) rfl (by decide) ?_
    refine lv_iconst (v := 1) hx hb dX1_kindDrawn_44 (by decide) ?_
    exact r_pret hx hb hr hlk (kd_c (c := 1) (r := 1) hdζ k_2 (by decide) rfl) dX1_kindDrawn_45
  by_cases k_3 : nI dζ = 2
  · refine gtop (y := 2) k_3 ?_
    refine lv_tableIn (tgt := 44) (off := 43) hx hb dX1_kindDrawn_1 (by decide) (by decide) rfl (by decide) ?_
    refine lv_iconst (v := 1) hx hb dX1_kindDrawn_44 (by decide) ?_
    exact r_pret hx hb hr hlk (kd_c (c := 2) (r := 1) hdζ k_3 (by decide) rfl) dX1_kindDrawn_45
  by_cases k_4 : nI dζ = 3
  · refine gtop (y := 3) k_4 ?_
    refine lv_tableIn (tgt := 46) (off := 45) hx hb dX1_kindDrawn_1 (by decide) (by decide) rfl (by decide) ?_
    refine lv_iconst (v := 2) hx hb dX1_kindDrawn_46 (by decide) ?_
    exact r_pret hx hb hr hlk (kd_c (c := 3) (r := 2) hdζ k_4 (by decide) rfl) dX1_kindDrawn_47
  by_cases k_5 : nI dζ = 4
  · refine gtop (y := 4) k_5 ?_
    refine lv_tableIn (tgt := 46) (off := 45) hx hb dX1_kindDrawn_1 (by decide) (by decide) rfl (by decide) ?_
    refine lv_iconst (v := 2) hx hb dX1_kindDrawn_46 (by decide) ?_
    exact r_pret hx hb hr hlk (kd_c (c := 4) (r := 2) hdζ k_5 (by decide) rfl) dX1_kindDrawn_47
  by_cases k_6 : nI dζ = 5
  · refine gtop (y := 5) k_6 ?_
    refine lv_tableIn (tgt := 48) (off := 47) hx hb dX1_kindDrawn_1 (by decide) (by decide) rfl (by decide) ?_
    refine lv_iconst (v := 3) hx hb dX1_kindDrawn_48 (by decide) ?_
    exact r_pret hx hb hr hlk (kd_c (c := 5) (r := 3) hdζ k_6 (by decide) rfl) dX1_kindDrawn_49
  by_cases k_7 : nI dζ = 6
  · refine gtop (y := 6) k_7 ?_
    refine lv_tableIn (tgt := 50) (off := 49) hx hb dX1_kindDrawn_1 (by decide) (by decide) rfl (by decide) ?_
    refine lv_iconst (v := 0) hx hb dX1_kindDrawn_50 (by decide) ?_
    exact r_pret hx hb hr hlk (kd_c (c := 6) (r := 0) hdζ k_7 (by decide) rfl) dX1_kindDrawn_51
  refine lv_tableOut (tgt := 52) hx hb dX1_kindDrawn_1 (sw_out 7 (by decide) (by decide) (lt_s (lt_s (lt_s (lt_s (lt_s (lt_s (lt_s lt_0 k_1) k_2) k_3) k_4) k_5) k_6) k_7)) (by decide) ?_
  refine lv_iconst (v := 4) hx hb dX1_kindDrawn_52 (by decide) ?_
  exact r_pret hx hb hr hlk (kd_d hdζ k_1 k_2 k_3 k_4 k_5 k_6 k_7) dX1_kindDrawn_53
set_option maxHeartbeats 4000000 in
set_option maxRecDepth 100000 in
theorem c_X1_reasonAgainst (l : Launch) (g : GT) (sz : Nat) (hζ : Nat) (Aζ : Nat → Nat) (Iζ : Nat → Int32) (kζ nζ : Nat) (hkζ : kζ < 5) (hnζ : nζ < 11) (h8ζ : Iζ 8 = 10) : Ci l yX1_reasonAgainst wsX1_reasonAgainst { frames := 2, cells := 0, slots := 0, locals := 42 } g sz [.ref hζ, .int (nI kζ), .int (nI nζ)] [(hζ, .inr (1, oC Aζ Iζ)), aI g (Aζ 0) 121 (fun _ => 0)] (raF kζ (Iζ 9) (Iζ 11)) [(hζ, .inr (1, oC Aζ Iζ)), aI g (Aζ 0) 121 (fun _ => 0)] := by
  refine gMet_i (cc := cX1_reasonAgainst) (maxL := 3) (ret := (some .int)) (by decide) rfl (Nat.le_of_ble_eq_true rfl) ?_
  intro p e s m args below meth c Z hx hb hr F hlk hnm hK hN hA H locs hP hD hS ls hl
  have hl : lv_has ls 3 [(0, .ref hζ), (1, .int (nI kζ)), (2, .int (nI nζ))] := hl
  have F : CallFix p m c cX1_reasonAgainst 3 s args wsX1_reasonAgainst RX1 := F
  have hts := F.2.2.2.2
  have hown : s.vm.findClass RX1 = some m.cls := F.2.2.2.1
  have hi1 : ∀ w ∈ u_ws RX1 TX1 12, w ∈ wsX1_reasonAgainst := by decide +kernel
  refine lv_iload_n hx hb dX1_reasonAgainst_0 rfl (lv_at hl 1 rfl) ?_
  by_cases k_1 : nI kζ = 0
  · refine gtop (y := 0) k_1 ?_
    refine lv_tableIn (tgt := 32) (off := 31) hx hb dX1_reasonAgainst_1 (by decide) (by decide) rfl (by decide) ?_
    refine lv_aload_n hx hb dX1_reasonAgainst_32 rfl (lv_at hl 0 rfl) ?_
    refine va_get (D := g.1) (ci := 1) (v := .int (Iζ 8)) (C := RX1) (T := TX1) (N := 12) hx hb hts hi1 hown hK hP 0 rfl rfl 8 (by decide) (hts (.fieldLink RX1 33 "PanTales$Close" "place" "I") (by decide +kernel)) (fun _ h9 => h9) rfl dX1_reasonAgainst_33 ?_
    refine lv_bipush (v := 10) hx hb dX1_reasonAgainst_36 (by decide) ?_
    refine lv_icmp_ne (tgt := 45) hx hb dX1_reasonAgainst_38 (by decide) (fun c_2 => ?_) (fun c_2 => ?_)
    · exact absurd h8ζ c_2
    · refine lv_iconst (v := 0) hx hb dX1_reasonAgainst_41 (by decide) ?_
      refine lv_goto (tgt := 46) hx hb dX1_reasonAgainst_42 (by decide) ?_
      exact r_iret hx hb hr hlk hS () (ra_c (c := 0) hkζ k_1 (by decide) rfl) (hP.sub [0, 1] rfl) (hD.sub [0, 1] (by decide) rfl) dX1_reasonAgainst_46
  by_cases k_3 : nI kζ = 1
  · refine gtop (y := 1) k_3 ?_
    refine lv_tableIn (tgt := 47) (off := 46) hx hb dX1_reasonAgainst_1 (by decide) (by decide) rfl (by decide) ?_
    refine lv_aload_n hx hb dX1_reasonAgainst_47 rfl (lv_at hl 0 rfl) ?_
    refine lv_aload_n hx hb dX1_reasonAgainst_48 rfl (lv_at hl 0 rfl) ?_
    refine va_get (D := g.1) (ci := 1) (v := .int (Iζ 8)) (C := RX1) (T := TX1) (N := 12) hx hb hts hi1 hown hK hP 0 rfl rfl 8 (by decide) (hts (.fieldLink RX1 33 "PanTales$Close" "place" "I") (by decide +kernel)) (fun _ h9 => h9) rfl dX1_reasonAgainst_49 ?_
    refine gtop (y := 10) h8ζ ?_
    refine lv_iload_n hx hb dX1_reasonAgainst_52 rfl (lv_at hl 2 rfl) ?_
    refine gcV_i (As := [.int 10, .int (nI nζ)]) (rest := []) (ci := 1) (q := (RX1, TX1, 12)) F hK hN hP hD hS hA (c_X1_longBetween l g H.size hζ Aζ Iζ (fun _ => 0) 10 nζ (by omega) (by omega)) gX1_reasonAgainst_X1_longBetween kX1_longBetween rfl rfl rfl rfl ⟨(Nat.le_of_ble_eq_true rfl), (Nat.le_of_ble_eq_true rfl)⟩ [0, 1] [] rfl rfl rfl (by decide) rfl rfl rfl rfl rfl hl.1 (Nat.le_of_ble_eq_true rfl) dX1_reasonAgainst_53 ⟨(Nat.le_of_ble_eq_true rfl), (Nat.le_of_ble_eq_true rfl)⟩ (fun r_w u_w H locs hw hP hD hS => ?_)
    have hP : va_P g.1 vwCl [(hζ, .inr (1, oC Aζ Iζ)), aI g (Aζ 0) 121 (fun _ => 0)] H := hP
    have hD : va_D Z [(hζ, .inr (1, oC Aζ Iζ)), aI g (Aζ 0) 121 (fun _ => 0)] := hD
    obtain rfl := hw
    refine gtop (y := 0) rfl ?_
    refine lv_if_le (tgt := 63) hx hb dX1_reasonAgainst_56 (by decide) (fun c_4 => ?_) (fun c_4 => ?_)
    · refine lv_iconst (v := 2) hx hb dX1_reasonAgainst_63 (by decide) ?_
      exact r_iret hx hb hr hlk hS () (ra_c (c := 1) hkζ k_3 (by decide) rfl) (hP.sub [0, 1] rfl) (hD.sub [0, 1] (by decide) rfl) dX1_reasonAgainst_64
    · exact absurd (by decide) c_4
  by_cases k_5 : nI kζ = 2
  · refine gtop (y := 2) k_5 ?_
    refine lv_tableIn (tgt := 65) (off := 64) hx hb dX1_reasonAgainst_1 (by decide) (by decide) rfl (by decide) ?_
    refine lv_aload_n hx hb dX1_reasonAgainst_65 rfl (lv_at hl 0 rfl) ?_
    refine va_get (D := g.1) (ci := 1) (v := .int (Iζ 8)) (C := RX1) (T := TX1) (N := 12) hx hb hts hi1 hown hK hP 0 rfl rfl 8 (by decide) (hts (.fieldLink RX1 33 "PanTales$Close" "place" "I") (by decide +kernel)) (fun _ h9 => h9) rfl dX1_reasonAgainst_66 ?_
    refine lv_bipush (v := 10) hx hb dX1_reasonAgainst_69 (by decide) ?_
    refine lv_icmp_ne (tgt := 76) hx hb dX1_reasonAgainst_71 (by decide) (fun c_6 => ?_) (fun c_6 => ?_)
    · exact absurd h8ζ c_6
    · refine lv_iconst (v := 1) hx hb dX1_reasonAgainst_74 (by decide) ?_
      exact r_iret hx hb hr hlk hS () (ra_c (c := 2) hkζ k_5 (by decide) rfl) (hP.sub [0, 1] rfl) (hD.sub [0, 1] (by decide) rfl) dX1_reasonAgainst_75
  by_cases k_7 : nI kζ = 3
  · refine gtop (y := 3) k_7 ?_
    refine lv_tableIn (tgt := 89) (off := 88) hx hb dX1_reasonAgainst_1 (by decide) (by decide) rfl (by decide) ?_
    refine lv_aload_n hx hb dX1_reasonAgainst_89 rfl (lv_at hl 0 rfl) ?_
    refine va_get (D := g.1) (ci := 1) (v := .int (Iζ 9)) (C := RX1) (T := TX1) (N := 12) hx hb hts hi1 hown hK hP 0 rfl rfl 9 (by decide) (hts (.fieldLink RX1 52 "PanTales$Close" "heat" "I") (by decide +kernel)) (fun _ h9 => h9) rfl dX1_reasonAgainst_90 ?_
    refine lv_if_le (tgt := 100) hx hb dX1_reasonAgainst_93 (by decide) (fun c_8 => ?_) (fun c_8 => ?_)
    · refine lv_iconst (v := 3) hx hb dX1_reasonAgainst_100 (by decide) ?_
      exact r_iret hx hb hr hlk hS () (ra_c (c := 3) hkζ k_7 (by decide) (ra_3f c_8)) (hP.sub [0, 1] rfl) (hD.sub [0, 1] (by decide) rfl) dX1_reasonAgainst_101
    · refine lv_iconst (v := 0) hx hb dX1_reasonAgainst_96 (by decide) ?_
      refine lv_goto (tgt := 101) hx hb dX1_reasonAgainst_97 (by decide) ?_
      exact r_iret hx hb hr hlk hS () (ra_c (c := 3) hkζ k_7 (by decide) (ra_3t c_8)) (hP.sub [0, 1] rfl) (hD.sub [0, 1] (by decide) rfl) dX1_reasonAgainst_101
  refine lv_tableOut (tgt := 102) hx hb dX1_reasonAgainst_1 (sw_out 4 (by decide) (by decide) (lt_s (lt_s (lt_s (lt_s lt_0 k_1) k_3) k_5) k_7)) (by decide) ?_
  refine lv_aload_n hx hb dX1_reasonAgainst_102 rfl (lv_at hl 0 rfl) ?_
  refine va_get (D := g.1) (ci := 1) (v := .int (Iζ 11)) (C := RX1) (T := TX1) (N := 12) hx hb hts hi1 hown hK hP 0 rfl rfl 11 (by decide) (hts (.fieldLink RX1 58 "PanTales$Close" "mornings" "I") (by decide +kernel)) (fun _ h9 => h9) rfl dX1_reasonAgainst_103 ?_
  refine lv_bipush (v := 99) hx hb dX1_reasonAgainst_106 (by decide) ?_
  refine lv_icmp_ge (tgt := 115) hx hb dX1_reasonAgainst_108 (by decide) (fun c_9 => ?_) (fun c_9 => ?_)
  · refine lv_iconst (v := 4) hx hb dX1_reasonAgainst_115 (by decide) ?_
    exact r_iret hx hb hr hlk hS () (ra_d hkζ k_1 k_3 k_5 k_7 (ra_4f c_9)) (hP.sub [0, 1] rfl) (hD.sub [0, 1] (by decide) rfl) dX1_reasonAgainst_116
  · refine lv_iconst (v := 0) hx hb dX1_reasonAgainst_111 (by decide) ?_
    refine lv_goto (tgt := 116) hx hb dX1_reasonAgainst_112 (by decide) ?_
    exact r_iret hx hb hr hlk hS () (ra_d hkζ k_1 k_3 k_5 k_7 (ra_4t c_9)) (hP.sub [0, 1] rfl) (hD.sub [0, 1] (by decide) rfl) dX1_reasonAgainst_116
set_option maxHeartbeats 4000000 in
set_option maxRecDepth 100000 in
theorem c_X1_act (l : Launch) (g : GT) (sz : Nat) (hζ : Nat) (Aζ : Nat → Nat) (Iζ : Nat → Int32) (kζ : Nat) (xζ yζ : Int32) (hkζ : kζ < 5) (h12ζ : kζ ≠ 1 ∧ kζ ≠ 2) (h8ζ : Iζ 8 = 10) : Mv (S := Nat → Int32) l yX1_act wsX1_act { frames := 2, cells := 0, slots := 0, locals := 41 } g sz [.ref hζ, .int (nI kζ), .int xζ, .int yζ] [(hζ, .inr (1, oC Aζ Iζ)), aI g (Aζ 2) 10 (fun _ => 0), aI g (Aζ 4) 10 (fun j => nI j)] 0 0 (fun Jζ => Jζ 8 = 10) (fun Jζ => [(hζ, .inr (1, oC Aζ Jζ)), aI g (Aζ 2) 10 (fun _ => 0), aI g (Aζ 4) 10 (fun j => nI j)]) := by
  refine gMet_v (cc := cX1_act) (maxL := 4) (ret := none) (by decide) rfl (Nat.le_of_ble_eq_true rfl) ?_
  intro p e s m args below meth c Z hx hb hr F hlk hnm hK hN hA H locs hP hD hS ls hl
  have hl : lv_has ls 4 [(0, .ref hζ), (1, .int (nI kζ)), (2, .int xζ), (3, .int yζ)] := hl
  have F : CallFix p m c cX1_act 4 s args wsX1_act RX1 := F
  have hts := F.2.2.2.2
  have hown : s.vm.findClass RX1 = some m.cls := F.2.2.2.1
  have hi1 : ∀ w ∈ u_ws RX1 TX1 12, w ∈ wsX1_act := by decide +kernel
  refine lv_iload_n hx hb dX1_act_0 rfl (lv_at hl 1 rfl) ?_
  by_cases k_1 : nI kζ = 0
  · refine gtop (y := 0) k_1 ?_
    refine lv_tableIn (tgt := 32) (off := 31) hx hb dX1_act_1 (by decide) (by decide) rfl (by decide) ?_
    refine lv_aload_n hx hb dX1_act_32 rfl (lv_at hl 0 rfl) ?_
    refine lv_iload_n hx hb dX1_act_33 rfl (lv_at hl 2 rfl) ?_
    refine va_put (D := g.1) (ci := 1) (v := .int xζ) (ty := .int) (C := RX1) (T := TX1) (N := 12) hx hb hts hi1 tyX1 tyX1_ok nmX1 hown hK hP hD hS 0 rfl rfl 10 (by decide) (hts (.fieldLink RX1 55 "PanTales$Close" "tale" "I") (by decide +kernel)) (fun _ h9 => h9) rfl (by decide +kernel) rfl rfl (Nat.le_of_ble_eq_true rfl) dX1_act_34 (fun H locs hP hD hS => ?_)
    have hP : va_P g.1 vwCl [(hζ, .inr (1, oC Aζ (upd Iζ 10 xζ))), aI g (Aζ 2) 10 (fun _ => 0), aI g (Aζ 4) 10 (fun j => nI j)] H := hP
    have hD : va_D Z [(hζ, .inr (1, oC Aζ (upd Iζ 10 xζ))), aI g (Aζ 2) 10 (fun _ => 0), aI g (Aζ 4) 10 (fun j => nI j)] := hD
    refine lv_aload_n hx hb dX1_act_37 rfl (lv_at hl 0 rfl) ?_
    refine lv_iload_n hx hb dX1_act_38 rfl (lv_at hl 3 rfl) ?_
    refine va_put (D := g.1) (ci := 1) (v := .int yζ) (ty := .int) (C := RX1) (T := TX1) (N := 12) hx hb hts hi1 tyX1 tyX1_ok nmX1 hown hK hP hD hS 0 rfl rfl 9 (by decide) (hts (.fieldLink RX1 52 "PanTales$Close" "heat" "I") (by decide +kernel)) (fun _ h9 => h9) rfl (by decide +kernel) rfl rfl (Nat.le_of_ble_eq_true rfl) dX1_act_39 (fun H locs hP hD hS => ?_)
    have hP : va_P g.1 vwCl [(hζ, .inr (1, oC Aζ (upd (upd Iζ 10 xζ) 9 yζ))), aI g (Aζ 2) 10 (fun _ => 0), aI g (Aζ 4) 10 (fun j => nI j)] H := hP
    have hD : va_D Z [(hζ, .inr (1, oC Aζ (upd (upd Iζ 10 xζ) 9 yζ))), aI g (Aζ 2) 10 (fun _ => 0), aI g (Aζ 4) 10 (fun j => nI j)] := hD
    refine lv_goto (tgt := 146) hx hb dX1_act_42 (by decide) ?_
    exact r_vret hx hb hr hlk hS (upd (upd Iζ 10 xζ) 9 yζ) (by first | exact h8ζ | (simp only [up_ne (show (10 : Nat) ≠ 8 by decide), up_ne (show (9 : Nat) ≠ 8 by decide), up_ne (show (11 : Nat) ≠ 8 by decide), up_eq]; first | done | exact h8ζ)) (hP.sub [0, 1, 2] rfl) (hD.sub [0, 1, 2] (by decide) rfl) dX1_act_146
  by_cases k_2 : nI kζ = 1
  · exact absurd ((nI_eq (a := kζ) (b := 1) (by omega) (by omega)).mp k_2) h12ζ.1
  by_cases k_3 : nI kζ = 2
  · exact absurd ((nI_eq (a := kζ) (b := 2) (by omega) (by omega)).mp k_3) h12ζ.2
  by_cases k_4 : nI kζ = 3
  · refine gtop (y := 3) k_4 ?_
    refine lv_tableIn (tgt := 86) (off := 85) hx hb dX1_act_1 (by decide) (by decide) rfl (by decide) ?_
    refine lv_aload_n hx hb dX1_act_86 rfl (lv_at hl 0 rfl) ?_
    refine lv_bipush (v := 99) hx hb dX1_act_87 (by decide) ?_
    refine lv_aload_n hx hb dX1_act_89 rfl (lv_at hl 0 rfl) ?_
    refine va_get (D := g.1) (ci := 1) (v := .int (Iζ 9)) (C := RX1) (T := TX1) (N := 12) hx hb hts hi1 hown hK hP 0 rfl rfl 9 (by decide) (hts (.fieldLink RX1 52 "PanTales$Close" "heat" "I") (by decide +kernel)) (fun _ h9 => h9) rfl dX1_act_90 ?_
    refine lv_bipush (v := 10) hx hb dX1_act_93 (by decide) ?_
    refine lv_iadd hx hb dX1_act_95 ?_
    refine va_mmin hx hb (F.2.2.1.trans hl.1.symm) hown (hts (.methodLink RX1 119 Lib.Math.min.name) (by decide +kernel)) (hts (.static Lib.Math.min.name) (by decide +kernel)) (hts (.initialized "java/lang/Math") (by decide +kernel)) (hts (.code Lib.Math.min.name Lib.Math.min.code 2 (some .int)) (by decide +kernel)) (Nat.le_of_ble_eq_true rfl) (Nat.le_of_ble_eq_true rfl) (Nat.le_of_ble_eq_true rfl) (Nat.le_of_ble_eq_true rfl) dX1_act_96 ?_
    refine va_put (D := g.1) (ci := 1) (v := .int (if (Iζ 9) + 10 < 99 then (Iζ 9) + 10 else 99)) (ty := .int) (C := RX1) (T := TX1) (N := 12) hx hb hts hi1 tyX1 tyX1_ok nmX1 hown hK hP hD hS 0 rfl rfl 9 (by decide) (hts (.fieldLink RX1 52 "PanTales$Close" "heat" "I") (by decide +kernel)) (fun _ h9 => h9) rfl (by decide +kernel) rfl rfl (Nat.le_of_ble_eq_true rfl) dX1_act_99 (fun H locs hP hD hS => ?_)
    have hP : va_P g.1 vwCl [(hζ, .inr (1, oC Aζ (upd Iζ 9 (if (Iζ 9) + 10 < 99 then (Iζ 9) + 10 else 99)))), aI g (Aζ 2) 10 (fun _ => 0), aI g (Aζ 4) 10 (fun j => nI j)] H := hP
    have hD : va_D Z [(hζ, .inr (1, oC Aζ (upd Iζ 9 (if (Iζ 9) + 10 < 99 then (Iζ 9) + 10 else 99)))), aI g (Aζ 2) 10 (fun _ => 0), aI g (Aζ 4) 10 (fun j => nI j)] := hD
    refine lv_aload_n hx hb dX1_act_102 rfl (lv_at hl 0 rfl) ?_
    refine lv_aload_n hx hb dX1_act_103 rfl (lv_at hl 0 rfl) ?_
    refine lv_aload_n hx hb dX1_act_104 rfl (lv_at hl 0 rfl) ?_
    refine va_get (D := g.1) (ci := 1) (v := .int (Iζ 10)) (C := RX1) (T := TX1) (N := 12) hx hb hts hi1 hown hK hP 0 rfl rfl 10 (by decide) (hts (.fieldLink RX1 55 "PanTales$Close" "tale" "I") (by decide +kernel)) (fun _ h9 => h9) rfl dX1_act_105 ?_
    refine gcV_i (As := [.int (Iζ 10)]) (rest := [.ref hζ]) (ci := 1) (q := (RX1, TX1, 12)) F hK hN hP hD hS hA (c_X1_fadesInto l g H.size hζ Aζ (upd Iζ 9 (if (Iζ 9) + 10 < 99 then (Iζ 9) + 10 else 99)) (fun j => nI j) (Iζ 10)) gX1_act_X1_fadesInto kX1_fadesInto rfl rfl rfl rfl ⟨(Nat.le_of_ble_eq_true rfl), (Nat.le_of_ble_eq_true rfl)⟩ [0, 2] [1] rfl rfl rfl (by decide) rfl rfl rfl rfl rfl hl.1 (Nat.le_of_ble_eq_true rfl) dX1_act_108 ⟨(Nat.le_of_ble_eq_true rfl), (Nat.le_of_ble_eq_true rfl)⟩ (fun r_w u_w H locs hw hP hD hS => ?_)
    have hP : va_P g.1 vwCl [aI g (Aζ 2) 10 (fun _ => 0), (hζ, .inr (1, oC Aζ (upd Iζ 9 (if (Iζ 9) + 10 < 99 then (Iζ 9) + 10 else 99)))), aI g (Aζ 4) 10 (fun j => nI j)] H := hP
    have hD : va_D Z [aI g (Aζ 2) 10 (fun _ => 0), (hζ, .inr (1, oC Aζ (upd Iζ 9 (if (Iζ 9) + 10 < 99 then (Iζ 9) + 10 else 99)))), aI g (Aζ 4) 10 (fun j => nI j)] := hD
    obtain rfl := hw
    refine va_put (D := g.1) (ci := 1) (v := .int (fdF (fun j => nI j) (Iζ 10))) (ty := .int) (C := RX1) (T := TX1) (N := 12) hx hb hts hi1 tyX1 tyX1_ok nmX1 hown hK hP hD hS 1 rfl rfl 10 (by decide) (hts (.fieldLink RX1 55 "PanTales$Close" "tale" "I") (by decide +kernel)) (fun _ h9 => h9) rfl (by decide +kernel) rfl rfl (Nat.le_of_ble_eq_true rfl) dX1_act_111 (fun H locs hP hD hS => ?_)
    have hP : va_P g.1 vwCl [aI g (Aζ 2) 10 (fun _ => 0), (hζ, .inr (1, oC Aζ (upd (upd Iζ 9 (if (Iζ 9) + 10 < 99 then (Iζ 9) + 10 else 99)) 10 (fdF (fun j => nI j) (Iζ 10))))), aI g (Aζ 4) 10 (fun j => nI j)] H := hP
    have hD : va_D Z [aI g (Aζ 2) 10 (fun _ => 0), (hζ, .inr (1, oC Aζ (upd (upd Iζ 9 (if (Iζ 9) + 10 < 99 then (Iζ 9) + 10 else 99)) 10 (fdF (fun j => nI j) (Iζ 10))))), aI g (Aζ 4) 10 (fun j => nI j)] := hD
    refine lv_goto (tgt := 146) hx hb dX1_act_114 (by decide) ?_
    exact r_vret hx hb hr hlk hS (upd (upd Iζ 9 (if (Iζ 9) + 10 < 99 then (Iζ 9) + 10 else 99)) 10 (fdF (fun j => nI j) (Iζ 10))) (by first | exact h8ζ | (simp only [up_ne (show (10 : Nat) ≠ 8 by decide), up_ne (show (9 : Nat) ≠ 8 by decide), up_ne (show (11 : Nat) ≠ 8 by decide), up_eq]; first | done | exact h8ζ)) (hP.sub [1, 0, 2] rfl) (hD.sub [1, 0, 2] (by decide) rfl) dX1_act_146
  refine lv_tableOut (tgt := 117) hx hb dX1_act_1 (sw_out 4 (by decide) (by decide) (lt_s (lt_s (lt_s (lt_s lt_0 k_1) k_2) k_3) k_4)) (by decide) ?_
  refine lv_aload_n hx hb dX1_act_117 rfl (lv_at hl 0 rfl) ?_
  refine lv_bipush (v := 10) hx hb dX1_act_118 (by decide) ?_
  refine va_put (D := g.1) (ci := 1) (v := .int 10) (ty := .int) (C := RX1) (T := TX1) (N := 12) hx hb hts hi1 tyX1 tyX1_ok nmX1 hown hK hP hD hS 0 rfl rfl 8 (by decide) (hts (.fieldLink RX1 33 "PanTales$Close" "place" "I") (by decide +kernel)) (fun _ h9 => h9) rfl (by decide +kernel) rfl rfl (Nat.le_of_ble_eq_true rfl) dX1_act_120 (fun H locs hP hD hS => ?_)
  have hP : va_P g.1 vwCl [(hζ, .inr (1, oC Aζ (upd Iζ 8 10))), aI g (Aζ 2) 10 (fun _ => 0), aI g (Aζ 4) 10 (fun j => nI j)] H := hP
  have hD : va_D Z [(hζ, .inr (1, oC Aζ (upd Iζ 8 10))), aI g (Aζ 2) 10 (fun _ => 0), aI g (Aζ 4) 10 (fun j => nI j)] := hD
  refine lv_aload_n hx hb dX1_act_123 rfl (lv_at hl 0 rfl) ?_
  refine lv_iconst (v := 0) hx hb dX1_act_124 (by decide) ?_
  refine va_put (D := g.1) (ci := 1) (v := .int 0) (ty := .int) (C := RX1) (T := TX1) (N := 12) hx hb hts hi1 tyX1 tyX1_ok nmX1 hown hK hP hD hS 0 rfl rfl 9 (by decide) (hts (.fieldLink RX1 52 "PanTales$Close" "heat" "I") (by decide +kernel)) (fun _ h9 => h9) rfl (by decide +kernel) rfl rfl (Nat.le_of_ble_eq_true rfl) dX1_act_125 (fun H locs hP hD hS => ?_)
  have hP : va_P g.1 vwCl [(hζ, .inr (1, oC Aζ (upd (upd Iζ 8 10) 9 0))), aI g (Aζ 2) 10 (fun _ => 0), aI g (Aζ 4) 10 (fun j => nI j)] H := hP
  have hD : va_D Z [(hζ, .inr (1, oC Aζ (upd (upd Iζ 8 10) 9 0))), aI g (Aζ 2) 10 (fun _ => 0), aI g (Aζ 4) 10 (fun j => nI j)] := hD
  refine lv_aload_n hx hb dX1_act_128 rfl (lv_at hl 0 rfl) ?_
  refine lv_dup hx hb dX1_act_129 rfl ?_
  refine va_get (D := g.1) (ci := 1) (v := .int (Iζ 11)) (C := RX1) (T := TX1) (N := 12) hx hb hts hi1 hown hK hP 0 rfl rfl 11 (by decide) (hts (.fieldLink RX1 58 "PanTales$Close" "mornings" "I") (by decide +kernel)) (fun _ h9 => h9) rfl dX1_act_130 ?_
  refine lv_iconst (v := 1) hx hb dX1_act_133 (by decide) ?_
  refine lv_iadd hx hb dX1_act_134 ?_
  refine va_put (D := g.1) (ci := 1) (v := .int ((Iζ 11) + 1)) (ty := .int) (C := RX1) (T := TX1) (N := 12) hx hb hts hi1 tyX1 tyX1_ok nmX1 hown hK hP hD hS 0 rfl rfl 11 (by decide) (hts (.fieldLink RX1 58 "PanTales$Close" "mornings" "I") (by decide +kernel)) (fun _ h9 => h9) rfl (by decide +kernel) rfl rfl (Nat.le_of_ble_eq_true rfl) dX1_act_135 (fun H locs hP hD hS => ?_)
  have hP : va_P g.1 vwCl [(hζ, .inr (1, oC Aζ (upd (upd (upd Iζ 8 10) 9 0) 11 ((Iζ 11) + 1)))), aI g (Aζ 2) 10 (fun _ => 0), aI g (Aζ 4) 10 (fun j => nI j)] H := hP
  have hD : va_D Z [(hζ, .inr (1, oC Aζ (upd (upd (upd Iζ 8 10) 9 0) 11 ((Iζ 11) + 1)))), aI g (Aζ 2) 10 (fun _ => 0), aI g (Aζ 4) 10 (fun j => nI j)] := hD
  refine lv_aload_n hx hb dX1_act_138 rfl (lv_at hl 0 rfl) ?_
  refine va_get (D := g.1) (ci := 1) (v := .ref (Aζ 2)) (C := RX1) (T := TX1) (N := 12) hx hb hts hi1 hown hK hP 0 rfl rfl 2 (by decide) (hts (.fieldLink RX1 18 "PanTales$Close" "damps" "[I") (by decide +kernel)) (fun _ h9 => h9) rfl dX1_act_139 ?_
  refine lv_iconst (v := 0) hx hb dX1_act_142 (by decide) ?_
  refine gcS_v (As := [.ref (Aζ 2), .int 0]) (rest := []) F hK hN hP hD hS hA (c_J7_fill_53178 l g H.size (Aζ 2) 10 (fun _ => 0) 0 (by decide)) gX1_act_J7_fill_53178 kJ7_fill_53178 rfl rfl rfl ⟨(Nat.le_of_ble_eq_true rfl), (Nat.le_of_ble_eq_true rfl)⟩ [1] [0, 2] rfl rfl rfl (by decide) rfl rfl rfl hl.1 (Nat.le_of_ble_eq_true rfl) dX1_act_143 ⟨(Nat.le_of_ble_eq_true rfl), (Nat.le_of_ble_eq_true rfl)⟩ (fun u_w H locs hw hP hD hS => ?_)
  have hP : va_P g.1 vwCl [(hζ, .inr (1, oC Aζ (upd (upd (upd Iζ 8 10) 9 0) 11 ((Iζ 11) + 1)))), aI g (Aζ 4) 10 (fun j => nI j), aI g (Aζ 2) 10 (fun _ => 0)] H := hP
  have hD : va_D Z [(hζ, .inr (1, oC Aζ (upd (upd (upd Iζ 8 10) 9 0) 11 ((Iζ 11) + 1)))), aI g (Aζ 4) 10 (fun j => nI j), aI g (Aζ 2) 10 (fun _ => 0)] := hD
  exact r_vret hx hb hr hlk hS (upd (upd (upd Iζ 8 10) 9 0) 11 ((Iζ 11) + 1)) (by first | exact h8ζ | (simp only [up_ne (show (10 : Nat) ≠ 8 by decide), up_ne (show (9 : Nat) ≠ 8 by decide), up_ne (show (11 : Nat) ≠ 8 by decide), up_eq]; first | done | exact h8ζ)) (hP.sub [0, 2, 1] rfl) (hD.sub [0, 2, 1] (by decide) rfl) dX1_act_146

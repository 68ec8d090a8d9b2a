theorem kX5_fewestDamp : YOk yX5_fewestDamp 2 := by decide +kernel
theorem kX5_heatLeft : YOk yX5_heatLeft 2 := by decide +kernel
theorem kX5_warm : YOk yX5_warm 4 := by decide +kernel
theorem kX5_goOn : YOk yX5_goOn 2 := by decide +kernel
theorem kX5_bestRound : YOk yX5_bestRound 2 := by decide +kernel
set_option maxHeartbeats 4000000 in
set_option maxRecDepth 100000 in
theorem c_X5_fewestDamp (l : Launch) (g : GT) (sz : Nat) (hζ : Nat) (Gζ : Nat → Nat) (fζ : Nat → Int32) (kζ : Nat) (Aζ : Nat → Nat) (Iζ : Nat → Int32) (jζ : Nat) (hjζ : jζ < 10) : Ci l yX5_fewestDamp wsX5_fewestDamp { frames := 3, cells := 0, slots := 0, locals := 66 } g sz [.ref hζ, .ref kζ, .int (nI jζ)] [(hζ, .inr (5, [.ref (Gζ 0), .ref (Gζ 1), .null])), aI g (Gζ 1) 11 fζ, (kζ, .inr (1, oC Aζ Iζ)), aI g (Aζ 0) 121 (fun _ => 0)] 0 [] := by
  refine gMet_i (cc := cX5_fewestDamp) (maxL := 6) (ret := (some .int)) (by decide) rfl (Nat.le_of_ble_eq_true rfl) ?_
  intro p e s m args below meth c Z hx hb hr F hlk hnm hK hN hA H locs hP hD hS ls hl
  have hl : lv_has ls 6 [(0, .ref hζ), (1, .ref kζ), (2, .int (nI jζ))] := hl
  have F : CallFix p m c cX5_fewestDamp 6 s args wsX5_fewestDamp RX5 := F
  have hts := F.2.2.2.2
  have hown : s.vm.findClass RX5 = some m.cls := F.2.2.2.1
  refine lv_aload_n hx hb dX5_fewestDamp_0 rfl (lv_at hl 1 rfl) ?_
  refine lv_bipush (v := 10) hx hb dX5_fewestDamp_1 (by decide) ?_
  refine lv_iload_n hx hb dX5_fewestDamp_3 rfl (lv_at hl 2 rfl) ?_
  refine gcV_i (As := [.int 10, .int (nI jζ)]) (rest := []) (ci := 1) (q := (RX1, TX1, 12)) F hK hN hP hD hS hA (c_X1_longBetween l g H.size kζ Aζ Iζ (fun _ => 0) 10 jζ (by omega) (by omega)) gX5_fewestDamp_X1_longBetween kX1_longBetween rfl rfl rfl rfl ⟨(Nat.le_of_ble_eq_true rfl), (Nat.le_of_ble_eq_true rfl)⟩ [2, 3] [0, 1] rfl rfl rfl (by decide) rfl rfl rfl rfl rfl hl.1 (Nat.le_of_ble_eq_true rfl) dX5_fewestDamp_4 ⟨(Nat.le_of_ble_eq_true rfl), (Nat.le_of_ble_eq_true rfl)⟩ (fun r_w u_w H locs hw hP hD hS => ?_)
  have hP : va_P g.1 vwCl [(hζ, .inr (5, [.ref (Gζ 0), .ref (Gζ 1), .null])), aI g (Gζ 1) 11 fζ, (kζ, .inr (1, oC Aζ Iζ)), aI g (Aζ 0) 121 (fun _ => 0)] H := hP
  have hD : va_D Z [(hζ, .inr (5, [.ref (Gζ 0), .ref (Gζ 1), .null])), aI g (Gζ 1) 11 fζ, (kζ, .inr (1, oC Aζ Iζ)), aI g (Aζ 0) 121 (fun _ => 0)] := hD
  obtain rfl := hw
  refine gtop (y := 0) rfl ?_
  refine lv_if_le (tgt := 13) hx hb dX5_fewestDamp_7 (by decide) (fun c_1 => ?_) (fun c_1 => ?_)
  · refine lv_aload_n hx hb dX5_fewestDamp_13 rfl (lv_at hl 0 rfl) ?_
    refine lv_aload_n hx hb dX5_fewestDamp_14 rfl (lv_at hl 1 rfl) ?_
    refine gcV_v (As := [.ref kζ]) (rest := []) (ci := 5) (q := (RX5, TX5, 3)) F hK hN hP hD hS hA (c_X5_findNeighbours l g H.size hζ Gζ fζ kζ Aζ Iζ) gX5_fewestDamp_X5_findNeighbours kX5_findNeighbours rfl rfl rfl rfl ⟨(Nat.le_of_ble_eq_true rfl), (Nat.le_of_ble_eq_true rfl)⟩ [0, 1, 2, 3] [] rfl rfl rfl (by decide) rfl rfl rfl rfl rfl hl.1 (Nat.le_of_ble_eq_true rfl) dX5_fewestDamp_15 ⟨(Nat.le_of_ble_eq_true rfl), (Nat.le_of_ble_eq_true rfl)⟩ (fun u_w H locs hw hP hD hS => ?_)
    have hP : va_P g.1 vwCl [(hζ, .inr (5, [.ref (Gζ 0), .ref (Gζ 1), .null])), aI g (Gζ 1) 11 (fun _ => 0), (kζ, .inr (1, oC Aζ Iζ)), aI g (Aζ 0) 121 (fun _ => 0)] H := hP
    have hD : va_D Z [(hζ, .inr (5, [.ref (Gζ 0), .ref (Gζ 1), .null])), aI g (Gζ 1) 11 (fun _ => 0), (kζ, .inr (1, oC Aζ Iζ)), aI g (Aζ 0) 121 (fun _ => 0)] := hD
    refine lv_bipush (v := (-6)) hx hb dX5_fewestDamp_18 (by decide) ?_
    refine lv_istore_n (lv' := [(3, .int (-6)), (0, .ref hζ), (1, .ref kζ), (2, .int (nI jζ))]) hx hb dX5_fewestDamp_20 rfl hl (by decide) rfl (fun ls hl => ?_)
    refine lv_iconst (v := 0) hx hb dX5_fewestDamp_21 (by decide) ?_
    refine lv_istore (lv' := [(4, .int 0), (3, .int (-6)), (0, .ref hζ), (1, .ref kζ), (2, .int (nI jζ))]) hx hb dX5_fewestDamp_22 hl (by decide) rfl (fun ls hl => ?_)
    refine lv_iload hx hb dX5_fewestDamp_24 (lv_at hl 0 rfl) ?_
    refine lv_sipush (v := 1024) hx hb dX5_fewestDamp_26 (by decide) ?_
    refine lv_icmp_ge (tgt := 90) hx hb dX5_fewestDamp_29 (by decide) (fun c_2 => ?_) (fun c_2 => ?_)
    · exact absurd c_2 (by decide)
    · refine lv_iload_n hx hb dX5_fewestDamp_32 rfl (lv_at hl 1 rfl) ?_
      refine lv_bipush (v := (-6)) hx hb dX5_fewestDamp_33 (by decide) ?_
      refine lv_icmp_eq (tgt := 50) hx hb dX5_fewestDamp_35 (by decide) (fun c_3 => ?_) (fun c_3 => ?_)
      · refine lv_iconst (v := 1) hx hb dX5_fewestDamp_50 (by decide) ?_
        refine lv_goto (tgt := 55) hx hb dX5_fewestDamp_51 (by decide) ?_
        refine lv_istore (lv' := [(5, .int 1), (4, .int 0), (3, .int (-6)), (0, .ref hζ), (1, .ref kζ), (2, .int (nI jζ))]) hx hb dX5_fewestDamp_55 hl (by decide) rfl (fun ls hl => ?_)
        refine lv_iload hx hb dX5_fewestDamp_57 (lv_at hl 0 rfl) ?_
        refine lv_if_eq (tgt := 84) hx hb dX5_fewestDamp_59 (by decide) (fun c_4 => ?_) (fun c_4 => ?_)
        · exact absurd c_4 (by decide)
        · refine lv_iload_n hx hb dX5_fewestDamp_62 rfl (lv_at hl 5 rfl) ?_
          refine lv_iload hx hb dX5_fewestDamp_63 (lv_at hl 1 rfl) ?_
          refine gcPN (As := [.int (nI jζ), .int 0]) (rest := []) F (c_X6_isIn l (nI jζ) 0) gX5_fewestDamp_X6_isIn_n68 kX6_isIn (hts (.initialized RX6) (by decide +kernel)) (hN.get 12 rfl) (hts (.static yX6_isIn) (by decide +kernel)) rfl rfl rfl ⟨(Nat.le_of_ble_eq_true rfl), (Nat.le_of_ble_eq_true rfl)⟩ rfl rfl hl.1 (Nat.le_of_ble_eq_true rfl) dX5_fewestDamp_65 ⟨(Nat.le_of_ble_eq_true rfl), (Nat.le_of_ble_eq_true rfl)⟩ ?_
          refine lv_if_ne (tgt := 84) hx hb dX5_fewestDamp_68 (by decide) (fun c_5 => ?_) (fun c_5 => ?_)
          · exact absurd (by rw [isIn_0]; rfl) c_5
          · have c_5 : isInB (nI jζ) 0 = false := bI_0 c_5
            refine lv_aload_n hx hb dX5_fewestDamp_71 rfl (lv_at hl 3 rfl) ?_
            refine lv_iload_n hx hb dX5_fewestDamp_72 rfl (lv_at hl 5 rfl) ?_
            refine lv_iload hx hb dX5_fewestDamp_73 (lv_at hl 1 rfl) ?_
            refine gcV_i (As := [.int (nI jζ), .int 0]) (rest := []) (ci := 5) (q := (RX5, TX5, 3)) F hK hN hP hD hS hA (c_X5_leadsTo l g H.size hζ Gζ jζ 0 (by omega)) gX5_fewestDamp_X5_leadsTo kX5_leadsTo rfl rfl rfl rfl ⟨(Nat.le_of_ble_eq_true rfl), (Nat.le_of_ble_eq_true rfl)⟩ [0, 1] [2, 3] rfl rfl rfl (by decide) rfl rfl rfl rfl rfl hl.1 (Nat.le_of_ble_eq_true rfl) dX5_fewestDamp_75 ⟨(Nat.le_of_ble_eq_true rfl), (Nat.le_of_ble_eq_true rfl)⟩ (fun r_w u_w H locs hw hP hD hS => ?_)
            have hP : va_P g.1 vwCl [(kζ, .inr (1, oC Aζ Iζ)), aI g (Aζ 0) 121 (fun _ => 0), (hζ, .inr (5, [.ref (Gζ 0), .ref (Gζ 1), .null])), aI g (Gζ 1) 11 (fun _ => 0)] H := hP
            have hD : va_D Z [(kζ, .inr (1, oC Aζ Iζ)), aI g (Aζ 0) 121 (fun _ => 0), (hζ, .inr (5, [.ref (Gζ 0), .ref (Gζ 1), .null])), aI g (Gζ 1) 11 (fun _ => 0)] := hD
            obtain rfl := hw
            refine lv_if_ne (tgt := 84) hx hb dX5_fewestDamp_78 (by decide) (fun c_6 => ?_) (fun c_6 => ?_)
            · exact absurd (by decide) c_6
            · refine lv_iload hx hb dX5_fewestDamp_81 (lv_at hl 1 rfl) ?_
              refine lv_istore_n (lv' := [(3, .int 0), (5, .int 1), (4, .int 0), (0, .ref hζ), (1, .ref kζ), (2, .int (nI jζ))]) hx hb dX5_fewestDamp_83 rfl hl (by decide) rfl (fun ls hl => ?_)
              refine lv_iinc (v := 1) (lv' := [(4, .int 1), (3, .int 0), (5, .int 1), (0, .ref hζ), (1, .ref kζ), (2, .int (nI jζ))]) hx hb dX5_fewestDamp_84 hl (k := 2) rfl (by decide) (by decide) rfl (fun ls hl => ?_)
              refine lv_goto (tgt := 24) hx hb dX5_fewestDamp_87 (by decide) ?_
              refine gloop (σ := Nat) (fun u0 => 1024 - u0) (fun u0 => u0 ≤ 1024) (fun u0 => [(kζ, .inr (1, oC Aζ Iζ)), aI g (Aζ 0) 121 (fun _ => 0), (hζ, .inr (5, [.ref (Gζ 0), .ref (Gζ 1), .null])), aI g (Gζ 1) 11 (fun _ => 0)]) (fun u0 => [(4, .int (nI u0)), (3, .int 0), (0, .ref hζ), (1, .ref kζ), (2, .int (nI jζ))]) ?_ 1 (by first | omega | decide | rfl) (hP.sub [0, 1, 2, 3] rfl) (hD.sub [0, 1, 2, 3] (by decide) rfl) hS (lv_sub hl [0, 1, 3, 4, 5] rfl)
              rintro nζ hnζ ih24 H locs ls hP hD hS hl
              have hnζ : nζ ≤ 1024 := hnζ
              have hP : va_P g.1 vwCl [(kζ, .inr (1, oC Aζ Iζ)), aI g (Aζ 0) 121 (fun _ => 0), (hζ, .inr (5, [.ref (Gζ 0), .ref (Gζ 1), .null])), aI g (Gζ 1) 11 (fun _ => 0)] H := hP
              have hD : va_D Z [(kζ, .inr (1, oC Aζ Iζ)), aI g (Aζ 0) 121 (fun _ => 0), (hζ, .inr (5, [.ref (Gζ 0), .ref (Gζ 1), .null])), aI g (Gζ 1) 11 (fun _ => 0)] := hD
              have hl : lv_has ls 6 [(4, .int (nI nζ)), (3, .int 0), (0, .ref hζ), (1, .ref kζ), (2, .int (nI jζ))] := hl
              refine lv_iload hx hb dX5_fewestDamp_24 (lv_at hl 0 rfl) ?_
              refine lv_sipush (v := 1024) hx hb dX5_fewestDamp_26 (by decide) ?_
              refine lv_icmp_ge (tgt := 90) hx hb dX5_fewestDamp_29 (by decide) (fun c_7 => ?_) (fun c_7 => ?_)
              · have c_7 : 1024 ≤ nζ := (nI_leI (a := 1024) (b := nζ) (by omega) (by omega)).mp c_7
                refine lv_iload_n hx hb dX5_fewestDamp_90 rfl (lv_at hl 1 rfl) ?_
                exact r_iret hx hb hr hlk hS () rfl (hP.sub [] rfl) (hD.sub [] (by decide) rfl) dX5_fewestDamp_91
              · have c_7 : ¬ 1024 ≤ nζ := fun z => c_7 ((nI_leI (a := 1024) (b := nζ) (by omega) (by omega)).mpr z)
                refine lv_iload_n hx hb dX5_fewestDamp_32 rfl (lv_at hl 1 rfl) ?_
                refine lv_bipush (v := (-6)) hx hb dX5_fewestDamp_33 (by decide) ?_
                refine lv_icmp_eq (tgt := 50) hx hb dX5_fewestDamp_35 (by decide) (fun c_8 => ?_) (fun c_8 => ?_)
                · exact absurd c_8 (by decide)
                · refine lv_iload hx hb dX5_fewestDamp_38 (lv_at hl 0 rfl) ?_
                  refine gcP (As := [.int (nI nζ)]) (rest := []) F (c_J6_bitCount_0f7a4 l (nI nζ)) gX5_fewestDamp_J6_bitCount_0f7a4 kJ6_bitCount_0f7a4 rfl rfl rfl ⟨(Nat.le_of_ble_eq_true rfl), (Nat.le_of_ble_eq_true rfl)⟩ rfl rfl hl.1 (Nat.le_of_ble_eq_true rfl) dX5_fewestDamp_40 ⟨(Nat.le_of_ble_eq_true rfl), (Nat.le_of_ble_eq_true rfl)⟩ ?_
                  refine lv_iload_n hx hb dX5_fewestDamp_43 rfl (lv_at hl 1 rfl) ?_
                  refine gcP (As := [.int 0]) (rest := [.int (bcF (nI nζ))]) F (c_J6_bitCount_0f7a4 l 0) gX5_fewestDamp_J6_bitCount_0f7a4 kJ6_bitCount_0f7a4 rfl rfl rfl ⟨(Nat.le_of_ble_eq_true rfl), (Nat.le_of_ble_eq_true rfl)⟩ rfl rfl hl.1 (Nat.le_of_ble_eq_true rfl) dX5_fewestDamp_44 ⟨(Nat.le_of_ble_eq_true rfl), (Nat.le_of_ble_eq_true rfl)⟩ ?_
                  refine gtop (y := 0) bcF_0 ?_
                  refine lv_icmp_ge (tgt := 54) hx hb dX5_fewestDamp_47 (by decide) (fun c_9 => ?_) (fun c_9 => ?_)
                  · refine lv_iconst (v := 0) hx hb dX5_fewestDamp_54 (by decide) ?_
                    refine lv_istore (lv' := [(5, .int 0), (4, .int (nI nζ)), (3, .int 0), (0, .ref hζ), (1, .ref kζ), (2, .int (nI jζ))]) hx hb dX5_fewestDamp_55 hl (by decide) rfl (fun ls hl => ?_)
                    refine lv_iload hx hb dX5_fewestDamp_57 (lv_at hl 0 rfl) ?_
                    refine lv_if_eq (tgt := 84) hx hb dX5_fewestDamp_59 (by decide) (fun c_10 => ?_) (fun c_10 => ?_)
                    · refine lv_iinc (v := nI (nζ + 1)) (lv' := [(4, .int (nI (nζ + 1))), (5, .int 0), (3, .int 0), (0, .ref hζ), (1, .ref kζ), (2, .int (nI jζ))]) hx hb dX5_fewestDamp_84 hl (k := 1) rfl (nI_1 nζ) (by decide) rfl (fun ls hl => ?_)
                      refine lv_goto (tgt := 24) hx hb dX5_fewestDamp_87 (by decide) ?_
                      exact ih24 (nζ + 1) (by first | omega | (dsimp only; omega)) (by first | omega | (dsimp only; omega)) _ _ _ (hP.sub [0, 1, 2, 3] rfl) (hD.sub [0, 1, 2, 3] (by decide) rfl) hS (lv_sub hl [0, 2, 3, 4, 5] rfl)
                    · exact absurd (by decide) c_10
                  · exact absurd (Int32.not_lt.mp (bcF_pos _)) c_9
      · exact absurd (by decide) c_3
  · exact absurd (by decide) c_1
set_option maxHeartbeats 4000000 in
set_option maxRecDepth 100000 in
theorem c_X5_heatLeft (l : Launch) (g : GT) (sz : Nat) (hζ : Nat) (Gζ : Nat → Nat) (qζ nζ jζ : Nat) (hnζ : nζ < 1024) (hjζ : jζ < 10) : Ci l yX5_heatLeft wsX5_heatLeft { frames := 1, cells := 0, slots := 0, locals := 22 } g sz [.ref hζ, .int (nI nζ), .int (nI jζ)] [(hζ, .inr (5, [.ref (Gζ 0), .ref (Gζ 1), .ref qζ])), aI g qζ 10240 (fun _ => (-1))] (-1) [(hζ, .inr (5, [.ref (Gζ 0), .ref (Gζ 1), .ref qζ])), aI g qζ 10240 (fun _ => (-1))] := by
  refine gMet_i (cc := cX5_heatLeft) (maxL := 4) (ret := (some .int)) (by decide) rfl (Nat.le_of_ble_eq_true rfl) ?_
  intro p e s m args below meth c Z hx hb hr F hlk hnm hK hN hA H locs hP hD hS ls hl
  have hl : lv_has ls 4 [(0, .ref hζ), (1, .int (nI nζ)), (2, .int (nI jζ))] := hl
  have F : CallFix p m c cX5_heatLeft 4 s args wsX5_heatLeft RX5 := F
  have hts := F.2.2.2.2
  have hown : s.vm.findClass RX5 = some m.cls := F.2.2.2.1
  have hi5 : ∀ w ∈ u_ws RX5 TX5 3, w ∈ wsX5_heatLeft := by decide +kernel
  refine lv_aload_n hx hb dX5_heatLeft_0 rfl (lv_at hl 0 rfl) ?_
  refine va_get (D := g.1) (ci := 5) (v := .ref qζ) (C := RX5) (T := TX5) (N := 3) hx hb hts hi5 hown hK hP 0 rfl rfl 2 (by decide) (hts (.fieldLink RX5 42 "PanTales$Ways" "heats" "[I") (by decide +kernel)) (fun _ h9 => h9) rfl dX5_heatLeft_1 ?_
  refine lv_ifnull hx hb dX5_heatLeft_4 ?_
  refine lv_iload_n hx hb dX5_heatLeft_7 rfl (lv_at hl 1 rfl) ?_
  refine lv_iconst (v := 0) hx hb dX5_heatLeft_8 (by decide) ?_
  refine lv_sipush (v := 1023) hx hb dX5_heatLeft_9 (by decide) ?_
  refine gcPN (As := [.int (nI nζ), .int 0, .int 1023]) (rest := []) F (c_X6_within l (nI nζ) 0 1023) gX5_heatLeft_X6_within_n72 kX6_within (hts (.initialized RX6) (by decide +kernel)) (hN.get 10 rfl) (hts (.static yX6_within) (by decide +kernel)) rfl rfl rfl ⟨(Nat.le_of_ble_eq_true rfl), (Nat.le_of_ble_eq_true rfl)⟩ rfl rfl hl.1 (Nat.le_of_ble_eq_true rfl) dX5_heatLeft_12 ⟨(Nat.le_of_ble_eq_true rfl), (Nat.le_of_ble_eq_true rfl)⟩ ?_
  refine lv_if_eq (tgt := 29) hx hb dX5_heatLeft_15 (by decide) (fun c_1 => ?_) (fun c_1 => ?_)
  · exact absurd (bI_0 c_1) (by rw [inB_nI (N := 1024) (by decide) (by omega), decide_eq_true hnζ]; decide)
  · have c_1 : inB (nI nζ) 0 1023 = true := bI_1 c_1
    refine lv_iload_n hx hb dX5_heatLeft_18 rfl (lv_at hl 2 rfl) ?_
    refine gcPN (As := [.int (nI jζ)]) (rest := []) F (c_X6_isHouse l (nI jζ)) gX5_heatLeft_X6_isHouse_n76 kX6_isHouse (hts (.initialized RX6) (by decide +kernel)) (hN.get 11 rfl) (hts (.static yX6_isHouse) (by decide +kernel)) rfl rfl rfl ⟨(Nat.le_of_ble_eq_true rfl), (Nat.le_of_ble_eq_true rfl)⟩ rfl rfl hl.1 (Nat.le_of_ble_eq_true rfl) dX5_heatLeft_19 ⟨(Nat.le_of_ble_eq_true rfl), (Nat.le_of_ble_eq_true rfl)⟩ ?_
    refine lv_if_eq (tgt := 29) hx hb dX5_heatLeft_22 (by decide) (fun c_2 => ?_) (fun c_2 => ?_)
    · exact absurd (bI_0 c_2) (by rw [nI_nB hjζ]; decide)
    · have c_2 : inB (nI jζ) 0 9 = true := bI_1 c_2
      refine lv_iconst (v := 1) hx hb dX5_heatLeft_25 (by decide) ?_
      refine lv_goto (tgt := 30) hx hb dX5_heatLeft_26 (by decide) ?_
      refine lv_istore_n (lv' := [(3, .int 1), (0, .ref hζ), (1, .int (nI nζ)), (2, .int (nI jζ))]) hx hb dX5_heatLeft_30 rfl hl (by decide) rfl (fun ls hl => ?_)
      refine lv_iload_n hx hb dX5_heatLeft_31 rfl (lv_at hl 0 rfl) ?_
      refine lv_if_eq (tgt := 49) hx hb dX5_heatLeft_32 (by decide) (fun c_3 => ?_) (fun c_3 => ?_)
      · exact absurd c_3 (by decide)
      · refine lv_aload_n hx hb dX5_heatLeft_35 rfl (lv_at hl 1 rfl) ?_
        refine va_get (D := g.1) (ci := 5) (v := .ref qζ) (C := RX5) (T := TX5) (N := 3) hx hb hts hi5 hown hK hP 0 rfl rfl 2 (by decide) (hts (.fieldLink RX5 42 "PanTales$Ways" "heats" "[I") (by decide +kernel)) (fun _ h9 => h9) rfl dX5_heatLeft_36 ?_
        refine lv_iload_n hx hb dX5_heatLeft_39 rfl (lv_at hl 2 rfl) ?_
        refine lv_bipush (v := 10) hx hb dX5_heatLeft_40 (by decide) ?_
        refine lv_imul hx hb dX5_heatLeft_42 ?_
        refine gtop (y := nI (nζ * 10)) (pk_mul nζ 10) ?_
        refine lv_iload_n hx hb dX5_heatLeft_43 rfl (lv_at hl 3 rfl) ?_
        refine lv_iadd hx hb dX5_heatLeft_44 ?_
        refine gtop (y := nI ((nζ * 10) + jζ)) (nI_add (nζ * 10) jζ) ?_
        refine r_iald (v := (-1)) hx hb hK hP 1 rfl (vp_in_nI (n := (nζ * 10) + jζ) (by omega) (by omega)) (congrArg (fun _ => (-1)) (nI_clamp (n := (nζ * 10) + jζ) (by omega))) dX5_heatLeft_45 ?_
        refine lv_goto (tgt := 50) hx hb dX5_heatLeft_46 (by decide) ?_
        exact r_iret hx hb hr hlk hS () rfl (hP.sub [0, 1] rfl) (hD.sub [0, 1] (by decide) rfl) dX5_heatLeft_50
set_option maxHeartbeats 4000000 in
set_option maxRecDepth 100000 in
theorem c_X5_warm (l : Launch) (g : GT) (sz : Nat) (hζ : Nat) (Gζ : Nat → Nat) (qζ kζ : Nat) (Aζ : Nat → Nat) (Iζ : Nat → Int32) (yζ : Int32) (jζ : Nat) (xζ : Int32) (hjζ : jζ < 10) (hcoldζ : ¬ (45 : Int32) < xζ) : Cv l yX5_warm wsX5_warm { frames := 2, cells := 0, slots := 0, locals := 42 } g sz [.ref hζ, .ref kζ, .int yζ, .int (nI jζ), .int xζ] [(hζ, .inr (5, [.ref (Gζ 0), .ref (Gζ 1), .ref qζ])), (kζ, .inr (1, oC Aζ Iζ)), aI g (Aζ 1) 10 (fun _ => 5), aI g (Aζ 2) 10 (fun _ => 0)] [(hζ, .inr (5, [.ref (Gζ 0), .ref (Gζ 1), .ref qζ])), (kζ, .inr (1, oC Aζ Iζ)), aI g (Aζ 1) 10 (fun _ => 5), aI g (Aζ 2) 10 (fun _ => 0)] := by
  refine gMet_v (cc := cX5_warm) (maxL := 6) (ret := none) (by decide) rfl (Nat.le_of_ble_eq_true rfl) ?_
  intro p e s m args below meth c Z hx hb hr F hlk hnm hK hN hA H locs hP hD hS ls hl
  have hl : lv_has ls 6 [(0, .ref hζ), (1, .ref kζ), (2, .int yζ), (3, .int (nI jζ)), (4, .int xζ)] := hl
  have F : CallFix p m c cX5_warm 6 s args wsX5_warm RX5 := F
  have hts := F.2.2.2.2
  have hown : s.vm.findClass RX5 = some m.cls := F.2.2.2.1
  refine lv_aload_n hx hb dX5_warm_0 rfl (lv_at hl 1 rfl) ?_
  refine lv_iload_n hx hb dX5_warm_1 rfl (lv_at hl 3 rfl) ?_
  refine gcV_i (As := [.int (nI jζ)]) (rest := []) (ci := 1) (q := (RX1, TX1, 12)) F hK hN hP hD hS hA (c_X1_isDamp l g H.size kζ Aζ Iζ (fun _ => 0) jζ (by omega)) gX5_warm_X1_isDamp kX1_isDamp rfl rfl rfl rfl ⟨(Nat.le_of_ble_eq_true rfl), (Nat.le_of_ble_eq_true rfl)⟩ [1, 3] [0, 2] rfl rfl rfl (by decide) rfl rfl rfl rfl rfl hl.1 (Nat.le_of_ble_eq_true rfl) dX5_warm_2 ⟨(Nat.le_of_ble_eq_true rfl), (Nat.le_of_ble_eq_true rfl)⟩ (fun r_w u_w H locs hw hP hD hS => ?_)
  have hP : va_P g.1 vwCl [(hζ, .inr (5, [.ref (Gζ 0), .ref (Gζ 1), .ref qζ])), aI g (Aζ 1) 10 (fun _ => 5), (kζ, .inr (1, oC Aζ Iζ)), aI g (Aζ 2) 10 (fun _ => 0)] H := hP
  have hD : va_D Z [(hζ, .inr (5, [.ref (Gζ 0), .ref (Gζ 1), .ref qζ])), aI g (Aζ 1) 10 (fun _ => 5), (kζ, .inr (1, oC Aζ Iζ)), aI g (Aζ 2) 10 (fun _ => 0)] := hD
  obtain rfl := hw
  refine lv_if_ne (tgt := 18) hx hb dX5_warm_5 (by decide) (fun c_1 => ?_) (fun c_1 => ?_)
  · exact absurd rfl c_1
  · have c_1 : decide ((fun _ => 0) jζ = 1) = false := bI_0 c_1
    refine lv_aload_n hx hb dX5_warm_8 rfl (lv_at hl 1 rfl) ?_
    refine lv_iload_n hx hb dX5_warm_9 rfl (lv_at hl 3 rfl) ?_
    refine lv_iload hx hb dX5_warm_10 (lv_at hl 4 rfl) ?_
    refine gcV_i (As := [.int (nI jζ), .int xζ]) (rest := []) (ci := 1) (q := (RX1, TX1, 12)) F hK hN hP hD hS hA (c_X1_isConvinced l g H.size kζ Aζ Iζ jζ xζ (by omega)) gX5_warm_X1_isConvinced kX1_isConvinced rfl rfl rfl rfl ⟨(Nat.le_of_ble_eq_true rfl), (Nat.le_of_ble_eq_true rfl)⟩ [2, 1] [0, 3] rfl rfl rfl (by decide) rfl rfl rfl rfl rfl hl.1 (Nat.le_of_ble_eq_true rfl) dX5_warm_12 ⟨(Nat.le_of_ble_eq_true rfl), (Nat.le_of_ble_eq_true rfl)⟩ (fun r_w u_w H locs hw hP hD hS => ?_)
    have hP : va_P g.1 vwCl [(hζ, .inr (5, [.ref (Gζ 0), .ref (Gζ 1), .ref qζ])), aI g (Aζ 2) 10 (fun _ => 0), (kζ, .inr (1, oC Aζ Iζ)), aI g (Aζ 1) 10 (fun _ => 5)] H := hP
    have hD : va_D Z [(hζ, .inr (5, [.ref (Gζ 0), .ref (Gζ 1), .ref qζ])), aI g (Aζ 2) 10 (fun _ => 0), (kζ, .inr (1, oC Aζ Iζ)), aI g (Aζ 1) 10 (fun _ => 5)] := hD
    obtain rfl := hw
    refine lv_if_ne (tgt := 19) hx hb dX5_warm_15 (by decide) (fun c_2 => ?_) (fun c_2 => ?_)
    · exact absurd (by rw [decide_eq_false hcoldζ]; rfl) c_2
    · have c_2 : decide (45 < xζ) = false := bI_0 c_2
      exact r_vret hx hb hr hlk hS () trivial (hP.sub [0, 2, 3, 1] rfl) (hD.sub [0, 2, 3, 1] (by decide) rfl) dX5_warm_18
set_option maxHeartbeats 4000000 in
set_option maxRecDepth 100000 in
theorem c_X5_goOn (l : Launch) (g : GT) (sz : Nat) (hζ : Nat) (Gζ : Nat → Nat) (qζ kζ nζ : Nat) (hnζ : nζ < 1024) : Ci l yX5_goOn wsX5_goOn { frames := 2, cells := 0, slots := 0, locals := 45 } g sz [.ref hζ, .ref kζ, .int (nI nζ)] [(hζ, .inr (5, [.ref (Gζ 0), .ref (Gζ 1), .ref qζ])), aI g qζ 10240 (fun _ => (-1))] 0 [(hζ, .inr (5, [.ref (Gζ 0), .ref (Gζ 1), .ref qζ])), aI g qζ 10240 (fun _ => (-1))] := by
  refine gMet_i (cc := cX5_goOn) (maxL := 7) (ret := (some .boolean)) (by decide) rfl (Nat.le_of_ble_eq_true rfl) ?_
  intro p e s m args below meth c Z hx hb hr F hlk hnm hK hN hA H locs hP hD hS ls hl
  have hl : lv_has ls 7 [(0, .ref hζ), (1, .ref kζ), (2, .int (nI nζ))] := hl
  have F : CallFix p m c cX5_goOn 7 s args wsX5_goOn RX5 := F
  have hts := F.2.2.2.2
  have hown : s.vm.findClass RX5 = some m.cls := F.2.2.2.1
  refine lv_iconst (v := 0) hx hb dX5_goOn_0 (by decide) ?_
  refine lv_istore_n (lv' := [(3, .int 0), (0, .ref hζ), (1, .ref kζ), (2, .int (nI nζ))]) hx hb dX5_goOn_1 rfl hl (by decide) rfl (fun ls hl => ?_)
  refine lv_iconst (v := 0) hx hb dX5_goOn_2 (by decide) ?_
  refine lv_istore (lv' := [(4, .int 0), (3, .int 0), (0, .ref hζ), (1, .ref kζ), (2, .int (nI nζ))]) hx hb dX5_goOn_3 hl (by decide) rfl (fun ls hl => ?_)
  refine gloop (σ := Nat) (fun u0 => 10 - u0) (fun u0 => u0 ≤ 10) (fun u0 => [(hζ, .inr (5, [.ref (Gζ 0), .ref (Gζ 1), .ref qζ])), aI g qζ 10240 (fun _ => (-1))]) (fun u0 => [(4, .int (nI u0)), (3, .int 0), (0, .ref hζ), (1, .ref kζ), (2, .int (nI nζ))]) ?_ 0 (by first | omega | decide | rfl) (hP.sub [0, 1] rfl) (hD.sub [0, 1] (by decide) rfl) hS (lv_sub hl [0, 1, 2, 3, 4] rfl)
  rintro iζ hiζ ih5 H locs ls hP hD hS hl
  have hiζ : iζ ≤ 10 := hiζ
  have hP : va_P g.1 vwCl [(hζ, .inr (5, [.ref (Gζ 0), .ref (Gζ 1), .ref qζ])), aI g qζ 10240 (fun _ => (-1))] H := hP
  have hD : va_D Z [(hζ, .inr (5, [.ref (Gζ 0), .ref (Gζ 1), .ref qζ])), aI g qζ 10240 (fun _ => (-1))] := hD
  have hl : lv_has ls 7 [(4, .int (nI iζ)), (3, .int 0), (0, .ref hζ), (1, .ref kζ), (2, .int (nI nζ))] := hl
  refine lv_iload hx hb dX5_goOn_5 (lv_at hl 0 rfl) ?_
  refine lv_bipush (v := 10) hx hb dX5_goOn_7 (by decide) ?_
  refine lv_icmp_ge (tgt := 87) hx hb dX5_goOn_9 (by decide) (fun c_1 => ?_) (fun c_1 => ?_)
  · have c_1 : 10 ≤ iζ := (nI_leI (a := 10) (b := iζ) (by omega) (by omega)).mp c_1
    refine lv_iload_n hx hb dX5_goOn_87 rfl (lv_at hl 1 rfl) ?_
    exact r_zret hx hb hr hlk hS () (by decide) rfl (hP.sub [0, 1] rfl) (hD.sub [0, 1] (by decide) rfl) dX5_goOn_88
  · have c_1 : ¬ 10 ≤ iζ := fun z => c_1 ((nI_leI (a := 10) (b := iζ) (by omega) (by omega)).mpr z)
    refine lv_aload_n hx hb dX5_goOn_12 rfl (lv_at hl 2 rfl) ?_
    refine lv_iload_n hx hb dX5_goOn_13 rfl (lv_at hl 4 rfl) ?_
    refine lv_iload hx hb dX5_goOn_14 (lv_at hl 0 rfl) ?_
    refine gcV_i (As := [.int (nI nζ), .int (nI iζ)]) (rest := []) (ci := 5) (q := (RX5, TX5, 3)) F hK hN hP hD hS hA (c_X5_heatLeft l g H.size hζ Gζ qζ nζ iζ (by omega) (by omega)) gX5_goOn_X5_heatLeft kX5_heatLeft rfl rfl rfl rfl ⟨(Nat.le_of_ble_eq_true rfl), (Nat.le_of_ble_eq_true rfl)⟩ [0, 1] [] rfl rfl rfl (by decide) rfl rfl rfl rfl rfl hl.1 (Nat.le_of_ble_eq_true rfl) dX5_goOn_16 ⟨(Nat.le_of_ble_eq_true rfl), (Nat.le_of_ble_eq_true rfl)⟩ (fun r_w u_w H locs hw hP hD hS => ?_)
    have hP : va_P g.1 vwCl [(hζ, .inr (5, [.ref (Gζ 0), .ref (Gζ 1), .ref qζ])), aI g qζ 10240 (fun _ => (-1))] H := hP
    have hD : va_D Z [(hζ, .inr (5, [.ref (Gζ 0), .ref (Gζ 1), .ref qζ])), aI g qζ 10240 (fun _ => (-1))] := hD
    obtain rfl := hw
    refine lv_istore (lv' := [(5, .int (-1)), (4, .int (nI iζ)), (3, .int 0), (0, .ref hζ), (1, .ref kζ), (2, .int (nI nζ))]) hx hb dX5_goOn_19 hl (by decide) rfl (fun ls hl => ?_)
    refine lv_iload hx hb dX5_goOn_21 (lv_at hl 0 rfl) ?_
    refine lv_iconst (v := (-1)) hx hb dX5_goOn_23 (by decide) ?_
    refine lv_icmp_ne (tgt := 30) hx hb dX5_goOn_24 (by decide) (fun c_2 => ?_) (fun c_2 => ?_)
    · exact absurd (by decide) c_2
    · refine lv_goto (tgt := 81) hx hb dX5_goOn_27 (by decide) ?_
      refine lv_iinc (v := nI (iζ + 1)) (lv' := [(4, .int (nI (iζ + 1))), (5, .int (-1)), (3, .int 0), (0, .ref hζ), (1, .ref kζ), (2, .int (nI nζ))]) hx hb dX5_goOn_81 hl (k := 1) rfl (nI_1 iζ) (by decide) rfl (fun ls hl => ?_)
      refine lv_goto (tgt := 5) hx hb dX5_goOn_84 (by decide) ?_
      exact ih5 (iζ + 1) (by first | omega | (dsimp only; omega)) (by first | omega | (dsimp only; omega)) _ _ _ (hP.sub [0, 1] rfl) (hD.sub [0, 1] (by decide) rfl) hS (lv_sub hl [0, 2, 3, 4, 5] rfl)
set_option maxHeartbeats 4000000 in
set_option maxRecDepth 100000 in
theorem c_X5_bestRound (l : Launch) (g : GT) (sz : Nat) (hζ : Nat) (Gζ : Nat → Nat) (fζ : Nat → Int32) (kζ : Nat) (Aζ : Nat → Nat) (Iζ : Nat → Int32) (t0ζ : Nat) (ht0ζ : t0ζ < 100) : Mi (S := Unit) l yX5_bestRound wsX5_bestRound { frames := 4, cells := 1, slots := 10240, locals := 90 } g sz [.ref hζ, .ref kζ, .int (nI t0ζ)] [(hζ, .inr (5, [.ref (Gζ 0), .ref (Gζ 1), .null])), aI g (Gζ 0) 121 fζ, (kζ, .inr (1, oC Aζ Iζ)), aI g (Aζ 0) 121 (fun _ => 0), aI g (Aζ 1) 10 (fun _ => 5), aI g (Aζ 2) 10 (fun _ => 0)] 1 10240 (fun r _ => r = 0) (fun _ => []) := by
  refine gMet_i (cc := cX5_bestRound) (maxL := 5) (ret := (some .int)) (by decide) rfl (Nat.le_of_ble_eq_true rfl) ?_
  intro p e s m args below meth c Z hx hb hr F hlk hnm hK hN hA H locs hP hD hS ls hl
  have hl : lv_has ls 5 [(0, .ref hζ), (1, .ref kζ), (2, .int (nI t0ζ))] := hl
  have F : CallFix p m c cX5_bestRound 5 s args wsX5_bestRound RX5 := F
  have hts := F.2.2.2.2
  have hown : s.vm.findClass RX5 = some m.cls := F.2.2.2.1
  have hi5 : ∀ w ∈ u_ws RX5 TX5 3, w ∈ wsX5_bestRound := by decide +kernel
  refine lv_aload_n hx hb dX5_bestRound_0 rfl (lv_at hl 0 rfl) ?_
  refine lv_aload_n hx hb dX5_bestRound_1 rfl (lv_at hl 1 rfl) ?_
  refine gcV_v (As := [.ref kζ]) (rest := []) (ci := 5) (q := (RX5, TX5, 3)) F hK hN hP hD hS hA (c_X5_measure l g H.size hζ Gζ fζ kζ Aζ Iζ) gX5_bestRound_X5_measure kX5_measure rfl rfl rfl rfl ⟨(Nat.le_of_ble_eq_true rfl), (Nat.le_of_ble_eq_true rfl)⟩ [0, 1, 2, 3] [4, 5] rfl rfl rfl (by decide) rfl rfl rfl rfl rfl hl.1 (Nat.le_of_ble_eq_true rfl) dX5_bestRound_2 ⟨(Nat.le_of_ble_eq_true rfl), (Nat.le_of_ble_eq_true rfl)⟩ (fun u_w H locs hw hP hD hS => ?_)
  have hP : va_P g.1 vwCl [aI g (Aζ 1) 10 (fun _ => 5), aI g (Aζ 2) 10 (fun _ => 0), (hζ, .inr (5, [.ref (Gζ 0), .ref (Gζ 1), .null])), aI g (Gζ 0) 121 lsF, (kζ, .inr (1, oC Aζ Iζ)), aI g (Aζ 0) 121 (fun _ => 0)] H := hP
  have hD : va_D Z [aI g (Aζ 1) 10 (fun _ => 5), aI g (Aζ 2) 10 (fun _ => 0), (hζ, .inr (5, [.ref (Gζ 0), .ref (Gζ 1), .null])), aI g (Gζ 0) 121 lsF, (kζ, .inr (1, oC Aζ Iζ)), aI g (Aζ 0) 121 (fun _ => 0)] := hD
  refine lv_aload_n hx hb dX5_bestRound_5 rfl (lv_at hl 0 rfl) ?_
  refine va_get (D := g.1) (ci := 5) (v := .null) (C := RX5) (T := TX5) (N := 3) hx hb hts hi5 hown hK hP 2 rfl rfl 2 (by decide) (hts (.fieldLink RX5 42 "PanTales$Ways" "heats" "[I") (by decide +kernel)) (fun _ h9 => h9) rfl dX5_bestRound_6 ?_
  refine lv_ifnonnullN hx hb dX5_bestRound_9 ?_
  refine lv_aload_n hx hb dX5_bestRound_12 rfl (lv_at hl 0 rfl) ?_
  refine lv_sipush (v := 10240) hx hb dX5_bestRound_13 (by decide) ?_
  refine r_newI (N' := 10240) hx hb (hts (.arrayClass .int) (by decide +kernel)) hK hP hD hS hA (by decide) (nI_clamp (n := 10240) (by decide)) (Nat.le_of_ble_eq_true rfl) (Nat.le_of_ble_eq_true rfl) (Nat.le_of_ble_eq_true rfl) dX5_bestRound_16 (fun q_1 H hP hD hS => ?_)
  have hP : va_P g.1 vwCl [aI g (Aζ 1) 10 (fun _ => 5), aI g (Aζ 2) 10 (fun _ => 0), (hζ, .inr (5, [.ref (Gζ 0), .ref (Gζ 1), .null])), aI g (Gζ 0) 121 lsF, (kζ, .inr (1, oC Aζ Iζ)), aI g (Aζ 0) 121 (fun _ => 0), aI g q_1 10240 (fun _ => 0)] H := hP
  have hD : va_D Z [aI g (Aζ 1) 10 (fun _ => 5), aI g (Aζ 2) 10 (fun _ => 0), (hζ, .inr (5, [.ref (Gζ 0), .ref (Gζ 1), .null])), aI g (Gζ 0) 121 lsF, (kζ, .inr (1, oC Aζ Iζ)), aI g (Aζ 0) 121 (fun _ => 0), aI g q_1 10240 (fun _ => 0)] := hD
  refine W.widen (k := 1) (n := 10240) (by decide) (by decide) ?_
  refine va_put (D := g.1) (ci := 5) (v := .ref q_1) (ty := (.array .int)) (C := RX5) (T := TX5) (N := 3) hx hb hts hi5 tyX5 tyX5_ok nmX5 hown hK hP hD hS 2 rfl rfl 2 (by decide) (hts (.fieldLink RX5 42 "PanTales$Ways" "heats" "[I") (by decide +kernel)) (fun _ h9 => h9) rfl (by decide +kernel) rfl rfl (Nat.le_of_ble_eq_true rfl) dX5_bestRound_18 (fun H locs hP hD hS => ?_)
  have hP : va_P g.1 vwCl [aI g (Aζ 1) 10 (fun _ => 5), aI g (Aζ 2) 10 (fun _ => 0), (hζ, .inr (5, [.ref (Gζ 0), .ref (Gζ 1), .ref q_1])), aI g (Gζ 0) 121 lsF, (kζ, .inr (1, oC Aζ Iζ)), aI g (Aζ 0) 121 (fun _ => 0), aI g q_1 10240 (fun _ => 0)] H := hP
  have hD : va_D Z [aI g (Aζ 1) 10 (fun _ => 5), aI g (Aζ 2) 10 (fun _ => 0), (hζ, .inr (5, [.ref (Gζ 0), .ref (Gζ 1), .ref q_1])), aI g (Gζ 0) 121 lsF, (kζ, .inr (1, oC Aζ Iζ)), aI g (Aζ 0) 121 (fun _ => 0), aI g q_1 10240 (fun _ => 0)] := hD
  refine lv_aload_n hx hb dX5_bestRound_21 rfl (lv_at hl 0 rfl) ?_
  refine va_get (D := g.1) (ci := 5) (v := .ref q_1) (C := RX5) (T := TX5) (N := 3) hx hb hts hi5 hown hK hP 2 rfl rfl 2 (by decide) (hts (.fieldLink RX5 42 "PanTales$Ways" "heats" "[I") (by decide +kernel)) (fun _ h9 => h9) rfl dX5_bestRound_22 ?_
  refine lv_iconst (v := (-1)) hx hb dX5_bestRound_25 (by decide) ?_
  refine gcS_v (As := [.ref q_1, .int (-1)]) (rest := []) F hK hN hP hD hS hA (c_J7_fill_53178 l g H.size q_1 10240 (fun _ => 0) (-1) (by decide)) gX5_bestRound_J7_fill_53178 kJ7_fill_53178 rfl rfl rfl ⟨(Nat.le_of_ble_eq_true rfl), (Nat.le_of_ble_eq_true rfl)⟩ [6] [0, 1, 2, 3, 4, 5] rfl rfl rfl (by decide) rfl rfl rfl hl.1 (Nat.le_of_ble_eq_true rfl) dX5_bestRound_26 ⟨(Nat.le_of_ble_eq_true rfl), (Nat.le_of_ble_eq_true rfl)⟩ (fun u_w H locs hw hP hD hS => ?_)
  have hP : va_P g.1 vwCl [aI g (Aζ 1) 10 (fun _ => 5), aI g (Aζ 2) 10 (fun _ => 0), (hζ, .inr (5, [.ref (Gζ 0), .ref (Gζ 1), .ref q_1])), aI g (Gζ 0) 121 lsF, (kζ, .inr (1, oC Aζ Iζ)), aI g (Aζ 0) 121 (fun _ => 0), aI g q_1 10240 (fun _ => (-1))] H := hP
  have hD : va_D Z [aI g (Aζ 1) 10 (fun _ => 5), aI g (Aζ 2) 10 (fun _ => 0), (hζ, .inr (5, [.ref (Gζ 0), .ref (Gζ 1), .ref q_1])), aI g (Gζ 0) 121 lsF, (kζ, .inr (1, oC Aζ Iζ)), aI g (Aζ 0) 121 (fun _ => 0), aI g q_1 10240 (fun _ => (-1))] := hD
  refine lv_iconst (v := 0) hx hb dX5_bestRound_29 (by decide) ?_
  refine lv_istore_n (lv' := [(3, .int 0), (0, .ref hζ), (1, .ref kζ), (2, .int (nI t0ζ))]) hx hb dX5_bestRound_30 rfl hl (by decide) rfl (fun ls hl => ?_)
  refine gloop (σ := Nat) (fun u0 => 10 - u0) (fun u0 => u0 ≤ 10) (fun u0 => [aI g (Aζ 1) 10 (fun _ => 5), aI g (Aζ 2) 10 (fun _ => 0), (hζ, .inr (5, [.ref (Gζ 0), .ref (Gζ 1), .ref q_1])), aI g (Gζ 0) 121 lsF, (kζ, .inr (1, oC Aζ Iζ)), aI g (Aζ 0) 121 (fun _ => 0), aI g q_1 10240 (fun _ => (-1))]) (fun u0 => [(3, .int (nI u0)), (0, .ref hζ), (1, .ref kζ), (2, .int (nI t0ζ))]) ?_ 0 (by first | omega | decide | rfl) (hP.sub [0, 1, 2, 3, 4, 5, 6] rfl) (hD.sub [0, 1, 2, 3, 4, 5, 6] (by decide) rfl) hS (lv_sub hl [0, 1, 2, 3] rfl)
  rintro iζ hiζ ih31 H locs ls hP hD hS hl
  have hiζ : iζ ≤ 10 := hiζ
  have hP : va_P g.1 vwCl [aI g (Aζ 1) 10 (fun _ => 5), aI g (Aζ 2) 10 (fun _ => 0), (hζ, .inr (5, [.ref (Gζ 0), .ref (Gζ 1), .ref q_1])), aI g (Gζ 0) 121 lsF, (kζ, .inr (1, oC Aζ Iζ)), aI g (Aζ 0) 121 (fun _ => 0), aI g q_1 10240 (fun _ => (-1))] H := hP
  have hD : va_D Z [aI g (Aζ 1) 10 (fun _ => 5), aI g (Aζ 2) 10 (fun _ => 0), (hζ, .inr (5, [.ref (Gζ 0), .ref (Gζ 1), .ref q_1])), aI g (Gζ 0) 121 lsF, (kζ, .inr (1, oC Aζ Iζ)), aI g (Aζ 0) 121 (fun _ => 0), aI g q_1 10240 (fun _ => (-1))] := hD
  have hl : lv_has ls 5 [(3, .int (nI iζ)), (0, .ref hζ), (1, .ref kζ), (2, .int (nI t0ζ))] := hl
  refine lv_iload_n hx hb dX5_bestRound_31 rfl (lv_at hl 0 rfl) ?_
  refine lv_bipush (v := 10) hx hb dX5_bestRound_32 (by decide) ?_
  refine lv_icmp_ge (tgt := 61) hx hb dX5_bestRound_34 (by decide) (fun c_2 => ?_) (fun c_2 => ?_)
  · have c_2 : 10 ≤ iζ := (nI_leI (a := 10) (b := iζ) (by omega) (by omega)).mp c_2
    refine lv_iconst (v := 0) hx hb dX5_bestRound_61 (by decide) ?_
    refine lv_istore_n (lv' := [(3, .int 0), (0, .ref hζ), (1, .ref kζ), (2, .int (nI t0ζ))]) hx hb dX5_bestRound_62 rfl hl (by decide) rfl (fun ls hl => ?_)
    refine lv_iconst (v := 1) hx hb dX5_bestRound_63 (by decide) ?_
    refine lv_istore (lv' := [(4, .int 1), (3, .int 0), (0, .ref hζ), (1, .ref kζ), (2, .int (nI t0ζ))]) hx hb dX5_bestRound_64 hl (by decide) rfl (fun ls hl => ?_)
    refine gloop (σ := Nat) (fun u0 => 1024 - u0) (fun u0 => u0 ≤ 1024) (fun u0 => [aI g (Aζ 1) 10 (fun _ => 5), aI g (Aζ 2) 10 (fun _ => 0), (hζ, .inr (5, [.ref (Gζ 0), .ref (Gζ 1), .ref q_1])), aI g (Gζ 0) 121 lsF, (kζ, .inr (1, oC Aζ Iζ)), aI g (Aζ 0) 121 (fun _ => 0), aI g q_1 10240 (fun _ => (-1))]) (fun u0 => [(4, .int (nI u0)), (3, .int 0), (0, .ref hζ), (1, .ref kζ), (2, .int (nI t0ζ))]) ?_ 1 (by first | omega | decide | rfl) (hP.sub [0, 1, 2, 3, 4, 5, 6] rfl) (hD.sub [0, 1, 2, 3, 4, 5, 6] (by decide) rfl) hS (lv_sub hl [0, 1, 2, 3, 4] rfl)
    rintro nζ hnζ ih66 H locs ls hP hD hS hl
    have hnζ : nζ ≤ 1024 := hnζ
    have hP : va_P g.1 vwCl [aI g (Aζ 1) 10 (fun _ => 5), aI g (Aζ 2) 10 (fun _ => 0), (hζ, .inr (5, [.ref (Gζ 0), .ref (Gζ 1), .ref q_1])), aI g (Gζ 0) 121 lsF, (kζ, .inr (1, oC Aζ Iζ)), aI g (Aζ 0) 121 (fun _ => 0), aI g q_1 10240 (fun _ => (-1))] H := hP
    have hD : va_D Z [aI g (Aζ 1) 10 (fun _ => 5), aI g (Aζ 2) 10 (fun _ => 0), (hζ, .inr (5, [.ref (Gζ 0), .ref (Gζ 1), .ref q_1])), aI g (Gζ 0) 121 lsF, (kζ, .inr (1, oC Aζ Iζ)), aI g (Aζ 0) 121 (fun _ => 0), aI g q_1 10240 (fun _ => (-1))] := hD
    have hl : lv_has ls 5 [(4, .int (nI nζ)), (3, .int 0), (0, .ref hζ), (1, .ref kζ), (2, .int (nI t0ζ))] := hl
    refine lv_iload hx hb dX5_bestRound_66 (lv_at hl 0 rfl) ?_
    refine lv_sipush (v := 1024) hx hb dX5_bestRound_68 (by decide) ?_
    refine lv_icmp_ge (tgt := 105) hx hb dX5_bestRound_71 (by decide) (fun c_3 => ?_) (fun c_3 => ?_)
    · have c_3 : 1024 ≤ nζ := (nI_leI (a := 1024) (b := nζ) (by omega) (by omega)).mp c_3
      refine lv_iload_n hx hb dX5_bestRound_105 rfl (lv_at hl 1 rfl) ?_
      exact r_iret hx hb hr hlk hS () rfl (hP.sub [] rfl) (hD.sub [] (by decide) rfl) dX5_bestRound_106
    · have c_3 : ¬ 1024 ≤ nζ := fun z => c_3 ((nI_leI (a := 1024) (b := nζ) (by omega) (by omega)).mpr z)
      refine lv_aload_n hx hb dX5_bestRound_74 rfl (lv_at hl 2 rfl) ?_
      refine lv_aload_n hx hb dX5_bestRound_75 rfl (lv_at hl 3 rfl) ?_
      refine lv_iload hx hb dX5_bestRound_76 (lv_at hl 0 rfl) ?_
      refine gcV_i (As := [.ref kζ, .int (nI nζ)]) (rest := []) (ci := 5) (q := (RX5, TX5, 3)) F hK hN hP hD hS hA (c_X5_goOn l g H.size hζ Gζ q_1 kζ nζ (by omega)) gX5_bestRound_X5_goOn kX5_goOn rfl rfl rfl rfl ⟨(Nat.le_of_ble_eq_true rfl), (Nat.le_of_ble_eq_true rfl)⟩ [2, 6] [0, 1, 3, 4, 5] rfl rfl rfl (by decide) rfl rfl rfl rfl rfl hl.1 (Nat.le_of_ble_eq_true rfl) dX5_bestRound_78 ⟨(Nat.le_of_ble_eq_true rfl), (Nat.le_of_ble_eq_true rfl)⟩ (fun r_w u_w H locs hw hP hD hS => ?_)
      have hP : va_P g.1 vwCl [aI g (Aζ 1) 10 (fun _ => 5), aI g (Aζ 2) 10 (fun _ => 0), aI g (Gζ 0) 121 lsF, (kζ, .inr (1, oC Aζ Iζ)), aI g (Aζ 0) 121 (fun _ => 0), (hζ, .inr (5, [.ref (Gζ 0), .ref (Gζ 1), .ref q_1])), aI g q_1 10240 (fun _ => (-1))] H := hP
      have hD : va_D Z [aI g (Aζ 1) 10 (fun _ => 5), aI g (Aζ 2) 10 (fun _ => 0), aI g (Gζ 0) 121 lsF, (kζ, .inr (1, oC Aζ Iζ)), aI g (Aζ 0) 121 (fun _ => 0), (hζ, .inr (5, [.ref (Gζ 0), .ref (Gζ 1), .ref q_1])), aI g q_1 10240 (fun _ => (-1))] := hD
      obtain rfl := hw
      refine lv_if_eq (tgt := 99) hx hb dX5_bestRound_81 (by decide) (fun c_4 => ?_) (fun c_4 => ?_)
      · refine lv_iinc (v := nI (nζ + 1)) (lv' := [(4, .int (nI (nζ + 1))), (3, .int 0), (0, .ref hζ), (1, .ref kζ), (2, .int (nI t0ζ))]) hx hb dX5_bestRound_99 hl (k := 0) rfl (nI_1 nζ) (by decide) rfl (fun ls hl => ?_)
        refine lv_goto (tgt := 66) hx hb dX5_bestRound_102 (by decide) ?_
        exact ih66 (nζ + 1) (by first | omega | (dsimp only; omega)) (by first | omega | (dsimp only; omega)) _ _ _ (hP.sub [0, 1, 5, 2, 3, 4, 6] rfl) (hD.sub [0, 1, 5, 2, 3, 4, 6] (by decide) rfl) hS (lv_sub hl [0, 1, 2, 3, 4] rfl)
      · exact absurd (by decide) c_4
  · have c_2 : ¬ 10 ≤ iζ := fun z => c_2 ((nI_leI (a := 10) (b := iζ) (by omega) (by omega)).mpr z)
    refine lv_aload_n hx hb dX5_bestRound_37 rfl (lv_at hl 1 rfl) ?_
    refine lv_aload_n hx hb dX5_bestRound_38 rfl (lv_at hl 2 rfl) ?_
    refine lv_iconst (v := 1) hx hb dX5_bestRound_39 (by decide) ?_
    refine lv_iload_n hx hb dX5_bestRound_40 rfl (lv_at hl 0 rfl) ?_
    refine lv_ishl hx hb dX5_bestRound_41 ?_
    refine lv_iload_n hx hb dX5_bestRound_42 rfl (lv_at hl 0 rfl) ?_
    refine lv_iload_n hx hb dX5_bestRound_43 rfl (lv_at hl 3 rfl) ?_
    refine lv_aload_n hx hb dX5_bestRound_44 rfl (lv_at hl 1 rfl) ?_
    refine lv_bipush (v := 10) hx hb dX5_bestRound_45 (by decide) ?_
    refine lv_iload_n hx hb dX5_bestRound_47 rfl (lv_at hl 0 rfl) ?_
    refine gcV_i (As := [.int 10, .int (nI iζ)]) (rest := [.int (nI t0ζ), .int (nI iζ), .int ((1 : Int32) <<< ((nI iζ) &&& 31)), .ref kζ, .ref hζ]) (ci := 5) (q := (RX5, TX5, 3)) F hK hN hP hD hS hA (c_X5_leastWay l g H.size hζ Gζ (.ref q_1) lsF 10 iζ (by omega) (by omega)) gX5_bestRound_X5_leastWay kX5_leastWay rfl rfl rfl rfl ⟨(Nat.le_of_ble_eq_true rfl), (Nat.le_of_ble_eq_true rfl)⟩ [2, 3] [0, 1, 4, 5, 6] rfl rfl rfl (by decide) rfl rfl rfl rfl rfl hl.1 (Nat.le_of_ble_eq_true rfl) dX5_bestRound_48 ⟨(Nat.le_of_ble_eq_true rfl), (Nat.le_of_ble_eq_true rfl)⟩ (fun r_w u_w H locs hw hP hD hS => ?_)
    have hP : va_P g.1 vwCl [aI g (Aζ 1) 10 (fun _ => 5), aI g (Aζ 2) 10 (fun _ => 0), (kζ, .inr (1, oC Aζ Iζ)), aI g (Aζ 0) 121 (fun _ => 0), aI g q_1 10240 (fun _ => (-1)), (hζ, .inr (5, [.ref (Gζ 0), .ref (Gζ 1), .ref q_1])), aI g (Gζ 0) 121 lsF] H := hP
    have hD : va_D Z [aI g (Aζ 1) 10 (fun _ => 5), aI g (Aζ 2) 10 (fun _ => 0), (kζ, .inr (1, oC Aζ Iζ)), aI g (Aζ 0) 121 (fun _ => 0), aI g q_1 10240 (fun _ => (-1)), (hζ, .inr (5, [.ref (Gζ 0), .ref (Gζ 1), .ref q_1])), aI g (Gζ 0) 121 lsF] := hD
    obtain rfl := hw
    refine gtop (y := lsF (10 * 11 + iζ)) rfl ?_
    refine gtop (y := 1000) (ls_10 (by omega)) ?_
    refine lv_isub hx hb dX5_bestRound_51 ?_
    refine gcV_v (As := [.ref kζ, .int ((1 : Int32) <<< ((nI iζ) &&& 31)), .int (nI iζ), .int ((nI t0ζ) - 1000)]) (rest := []) (ci := 5) (q := (RX5, TX5, 3)) F hK hN hP hD hS hA (c_X5_warm l g H.size hζ Gζ q_1 kζ Aζ Iζ ((1 : Int32) <<< ((nI iζ) &&& 31)) iζ ((nI t0ζ) - 1000) (by omega) (cold_h ht0ζ)) gX5_bestRound_X5_warm kX5_warm rfl rfl rfl rfl ⟨(Nat.le_of_ble_eq_true rfl), (Nat.le_of_ble_eq_true rfl)⟩ [5, 2, 0, 1] [3, 4, 6] rfl rfl rfl (by decide) rfl rfl rfl rfl rfl hl.1 (Nat.le_of_ble_eq_true rfl) dX5_bestRound_52 ⟨(Nat.le_of_ble_eq_true rfl), (Nat.le_of_ble_eq_true rfl)⟩ (fun u_w H locs hw hP hD hS => ?_)
    have hP : va_P g.1 vwCl [aI g (Aζ 0) 121 (fun _ => 0), aI g q_1 10240 (fun _ => (-1)), aI g (Gζ 0) 121 lsF, (hζ, .inr (5, [.ref (Gζ 0), .ref (Gζ 1), .ref q_1])), (kζ, .inr (1, oC Aζ Iζ)), aI g (Aζ 1) 10 (fun _ => 5), aI g (Aζ 2) 10 (fun _ => 0)] H := hP
    have hD : va_D Z [aI g (Aζ 0) 121 (fun _ => 0), aI g q_1 10240 (fun _ => (-1)), aI g (Gζ 0) 121 lsF, (hζ, .inr (5, [.ref (Gζ 0), .ref (Gζ 1), .ref q_1])), (kζ, .inr (1, oC Aζ Iζ)), aI g (Aζ 1) 10 (fun _ => 5), aI g (Aζ 2) 10 (fun _ => 0)] := hD
    refine lv_iinc (v := nI (iζ + 1)) (lv' := [(3, .int (nI (iζ + 1))), (0, .ref hζ), (1, .ref kζ), (2, .int (nI t0ζ))]) hx hb dX5_bestRound_55 hl (k := 0) rfl (nI_1 iζ) (by decide) rfl (fun ls hl => ?_)
    refine lv_goto (tgt := 31) hx hb dX5_bestRound_58 (by decide) ?_
    exact ih31 (iζ + 1) (by first | omega | (dsimp only; omega)) (by first | omega | (dsimp only; omega)) _ _ _ (hP.sub [5, 6, 3, 2, 4, 0, 1] rfl) (hD.sub [5, 6, 3, 2, 4, 0, 1] (by decide) rfl) hS (lv_sub hl [0, 1, 2, 3] rfl)

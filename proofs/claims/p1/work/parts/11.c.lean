theorem kX6_row : YOk yX6_row 6 := by decide +kernel
theorem kX6_embers : YOk yX6_embers 2 := by decide +kernel
theorem kX6_year : YOk yX6_year 3 := by decide +kernel
set_option maxHeartbeats 4000000 in
set_option maxRecDepth 100000 in
theorem c_X6_row (l : Launch) (g : GT) (sz : Nat) (hζ : Nat) (Qζ Aζ : Nat → Nat) (Gζ : Nat → Nat) (x1ζ x2ζ x3ζ x4ζ x5ζ x6ζ : Int32) : Cl l yX6_row wsX6_row { frames := 3, cells := 0, slots := 0, locals := 79 } g sz [.ref hζ, .int x1ζ, .int x2ζ, .int x3ζ, .int x4ζ, .int x5ζ, .int x6ζ] [(hζ, .inr (6, [.ref (Qζ 0), .ref (Qζ 1), .ref (Qζ 2), .ref (Qζ 3), .ref (Qζ 4), .ref (Qζ 5), .ref (Qζ 6), .ref (Qζ 7)])), (Qζ 7, .inr (0, [.ref (Gζ 0), .ref (Gζ 1), .ref (Gζ 2)])), aJ g (Gζ 0) 11 (fun _ => 0), aJ g (Gζ 1) 11 (fun _ => 0)] (rowG x1ζ x2ζ x3ζ x4ζ x5ζ x6ζ) [] := by
  refine gMet_l (cc := cX6_row) (maxL := 16) (ret := (some .long)) (by decide) rfl (Nat.le_of_ble_eq_true rfl) ?_
  intro p e s m args below meth c Z hx hb hr F hlk hnm hK hN hA H locs hP hD hS ls hl
  have hl : lv_has ls 16 [(0, .ref hζ), (1, .int x1ζ), (2, .int x2ζ), (3, .int x3ζ), (4, .int x4ζ), (5, .int x5ζ), (6, .int x6ζ)] := hl
  have F : CallFix p m c cX6_row 16 s args wsX6_row RX6 := F
  have hts := F.2.2.2.2
  have hown : s.vm.findClass RX6 = some m.cls := F.2.2.2.1
  have hi6 : ∀ wζ ∈ u_ws RX6 TX6 8, wζ ∈ wsX6_row := by decide +kernel
  refine lv_iload_n hx hb dX6_row_0 rfl (lv_at hl 1 rfl) ?_
  refine lv_iconst (v := 0) hx hb dX6_row_1 (by decide) ?_
  refine lv_bipush (v := 10) hx hb dX6_row_2 (by decide) ?_
  refine gcP (As := [.int x1ζ, .int 0, .int 10]) (rest := []) F (c_X6_within l x1ζ 0 10) gX6_row_X6_within kX6_within rfl rfl rfl ⟨(Nat.le_of_ble_eq_true rfl), (Nat.le_of_ble_eq_true rfl)⟩ rfl rfl hl.1 (Nat.le_of_ble_eq_true rfl) dX6_row_4 ⟨(Nat.le_of_ble_eq_true rfl), (Nat.le_of_ble_eq_true rfl)⟩ ?_
  refine lv_if_eq (tgt := 64) hx hb dX6_row_7 (by decide) (fun c_1 => ?_) (fun c_1 => ?_)
  · have c_1 : inB x1ζ 0 10 = false := bI_0 c_1
    refine lv_iconst (v := 0) hx hb dX6_row_64 (by decide) ?_
    refine lv_istore (lv' := [(7, .int 0), (0, .ref hζ), (1, .int x1ζ), (2, .int x2ζ), (3, .int x3ζ), (4, .int x4ζ), (5, .int x5ζ), (6, .int x6ζ)]) hx hb dX6_row_65 hl (by decide) rfl (fun ls hl => ?_)
    refine lv_iload hx hb dX6_row_67 (lv_at hl 0 rfl) ?_
    refine lv_if_ne (tgt := 76) hx hb dX6_row_69 (by decide) (fun c_2 => ?_) (fun c_2 => ?_)
    · exact absurd (by decide) c_2
    · refine lv_ldc2 (v := (-1000000000000000002)) hx hb hown (hts (.constantLong RX6 203 (-1000000000000000002)) (by decide +kernel)) dX6_row_72 ?_
      exact r_lret hx hb hr hlk hS () (by unfold rowG; rw [if_neg (bF c_1)]) (hP.sub [] rfl) (hD.sub [] (by decide) rfl) dX6_row_75
  · have c_1 : inB x1ζ 0 10 = true := bI_1 c_1
    refine lv_iload_n hx hb dX6_row_10 rfl (lv_at hl 2 rfl) ?_
    refine lv_iconst (v := 0) hx hb dX6_row_11 (by decide) ?_
    refine lv_bipush (v := 10) hx hb dX6_row_12 (by decide) ?_
    refine gcP (As := [.int x2ζ, .int 0, .int 10]) (rest := []) F (c_X6_within l x2ζ 0 10) gX6_row_X6_within kX6_within rfl rfl rfl ⟨(Nat.le_of_ble_eq_true rfl), (Nat.le_of_ble_eq_true rfl)⟩ rfl rfl hl.1 (Nat.le_of_ble_eq_true rfl) dX6_row_14 ⟨(Nat.le_of_ble_eq_true rfl), (Nat.le_of_ble_eq_true rfl)⟩ ?_
    refine lv_if_eq (tgt := 64) hx hb dX6_row_17 (by decide) (fun c_3 => ?_) (fun c_3 => ?_)
    · have c_3 : inB x2ζ 0 10 = false := bI_0 c_3
      refine lv_iconst (v := 0) hx hb dX6_row_64 (by decide) ?_
      refine lv_istore (lv' := [(7, .int 0), (0, .ref hζ), (1, .int x1ζ), (2, .int x2ζ), (3, .int x3ζ), (4, .int x4ζ), (5, .int x5ζ), (6, .int x6ζ)]) hx hb dX6_row_65 hl (by decide) rfl (fun ls hl => ?_)
      refine lv_iload hx hb dX6_row_67 (lv_at hl 0 rfl) ?_
      refine lv_if_ne (tgt := 76) hx hb dX6_row_69 (by decide) (fun c_4 => ?_) (fun c_4 => ?_)
      · exact absurd (by decide) c_4
      · refine lv_ldc2 (v := (-1000000000000000002)) hx hb hown (hts (.constantLong RX6 203 (-1000000000000000002)) (by decide +kernel)) dX6_row_72 ?_
        exact r_lret hx hb hr hlk hS () (by unfold rowG; rw [if_pos c_1, if_neg (bF c_3)]) (hP.sub [] rfl) (hD.sub [] (by decide) rfl) dX6_row_75
    · have c_3 : inB x2ζ 0 10 = true := bI_1 c_3
      refine lv_iload_n hx hb dX6_row_20 rfl (lv_at hl 3 rfl) ?_
      refine lv_iconst (v := 0) hx hb dX6_row_21 (by decide) ?_
      refine lv_bipush (v := 10) hx hb dX6_row_22 (by decide) ?_
      refine gcP (As := [.int x3ζ, .int 0, .int 10]) (rest := []) F (c_X6_within l x3ζ 0 10) gX6_row_X6_within kX6_within rfl rfl rfl ⟨(Nat.le_of_ble_eq_true rfl), (Nat.le_of_ble_eq_true rfl)⟩ rfl rfl hl.1 (Nat.le_of_ble_eq_true rfl) dX6_row_24 ⟨(Nat.le_of_ble_eq_true rfl), (Nat.le_of_ble_eq_true rfl)⟩ ?_
      refine lv_if_eq (tgt := 64) hx hb dX6_row_27 (by decide) (fun c_5 => ?_) (fun c_5 => ?_)
      · have c_5 : inB x3ζ 0 10 = false := bI_0 c_5
        refine lv_iconst (v := 0) hx hb dX6_row_64 (by decide) ?_
        refine lv_istore (lv' := [(7, .int 0), (0, .ref hζ), (1, .int x1ζ), (2, .int x2ζ), (3, .int x3ζ), (4, .int x4ζ), (5, .int x5ζ), (6, .int x6ζ)]) hx hb dX6_row_65 hl (by decide) rfl (fun ls hl => ?_)
        refine lv_iload hx hb dX6_row_67 (lv_at hl 0 rfl) ?_
        refine lv_if_ne (tgt := 76) hx hb dX6_row_69 (by decide) (fun c_6 => ?_) (fun c_6 => ?_)
        · exact absurd (by decide) c_6
        · refine lv_ldc2 (v := (-1000000000000000002)) hx hb hown (hts (.constantLong RX6 203 (-1000000000000000002)) (by decide +kernel)) dX6_row_72 ?_
          exact r_lret hx hb hr hlk hS () (by unfold rowG; rw [if_pos c_1, if_pos c_3, if_neg (bF c_5)]) (hP.sub [] rfl) (hD.sub [] (by decide) rfl) dX6_row_75
      · have c_5 : inB x3ζ 0 10 = true := bI_1 c_5
        refine lv_iload hx hb dX6_row_30 (lv_at hl 4 rfl) ?_
        refine lv_iconst (v := 0) hx hb dX6_row_32 (by decide) ?_
        refine lv_iload_n hx hb dX6_row_33 rfl (lv_at hl 1 rfl) ?_
        refine gcP (As := [.int x4ζ, .int 0, .int x1ζ]) (rest := []) F (c_X6_within l x4ζ 0 x1ζ) gX6_row_X6_within kX6_within rfl rfl rfl ⟨(Nat.le_of_ble_eq_true rfl), (Nat.le_of_ble_eq_true rfl)⟩ rfl rfl hl.1 (Nat.le_of_ble_eq_true rfl) dX6_row_34 ⟨(Nat.le_of_ble_eq_true rfl), (Nat.le_of_ble_eq_true rfl)⟩ ?_
        refine lv_if_eq (tgt := 64) hx hb dX6_row_37 (by decide) (fun c_7 => ?_) (fun c_7 => ?_)
        · have c_7 : inB x4ζ 0 x1ζ = false := bI_0 c_7
          refine lv_iconst (v := 0) hx hb dX6_row_64 (by decide) ?_
          refine lv_istore (lv' := [(7, .int 0), (0, .ref hζ), (1, .int x1ζ), (2, .int x2ζ), (3, .int x3ζ), (4, .int x4ζ), (5, .int x5ζ), (6, .int x6ζ)]) hx hb dX6_row_65 hl (by decide) rfl (fun ls hl => ?_)
          refine lv_iload hx hb dX6_row_67 (lv_at hl 0 rfl) ?_
          refine lv_if_ne (tgt := 76) hx hb dX6_row_69 (by decide) (fun c_8 => ?_) (fun c_8 => ?_)
          · exact absurd (by decide) c_8
          · refine lv_ldc2 (v := (-1000000000000000002)) hx hb hown (hts (.constantLong RX6 203 (-1000000000000000002)) (by decide +kernel)) dX6_row_72 ?_
            exact r_lret hx hb hr hlk hS () (by unfold rowG; rw [if_pos c_1, if_pos c_3, if_pos c_5, if_neg (bF c_7)]) (hP.sub [] rfl) (hD.sub [] (by decide) rfl) dX6_row_75
        · have c_7 : inB x4ζ 0 x1ζ = true := bI_1 c_7
          refine lv_iload hx hb dX6_row_40 (lv_at hl 5 rfl) ?_
          refine lv_iconst (v := 0) hx hb dX6_row_42 (by decide) ?_
          refine lv_iconst (v := 2) hx hb dX6_row_43 (by decide) ?_
          refine gcP (As := [.int x5ζ, .int 0, .int 2]) (rest := []) F (c_X6_within l x5ζ 0 2) gX6_row_X6_within kX6_within rfl rfl rfl ⟨(Nat.le_of_ble_eq_true rfl), (Nat.le_of_ble_eq_true rfl)⟩ rfl rfl hl.1 (Nat.le_of_ble_eq_true rfl) dX6_row_44 ⟨(Nat.le_of_ble_eq_true rfl), (Nat.le_of_ble_eq_true rfl)⟩ ?_
          refine lv_if_eq (tgt := 64) hx hb dX6_row_47 (by decide) (fun c_9 => ?_) (fun c_9 => ?_)
          · have c_9 : inB x5ζ 0 2 = false := bI_0 c_9
            refine lv_iconst (v := 0) hx hb dX6_row_64 (by decide) ?_
            refine lv_istore (lv' := [(7, .int 0), (0, .ref hζ), (1, .int x1ζ), (2, .int x2ζ), (3, .int x3ζ), (4, .int x4ζ), (5, .int x5ζ), (6, .int x6ζ)]) hx hb dX6_row_65 hl (by decide) rfl (fun ls hl => ?_)
            refine lv_iload hx hb dX6_row_67 (lv_at hl 0 rfl) ?_
            refine lv_if_ne (tgt := 76) hx hb dX6_row_69 (by decide) (fun c_10 => ?_) (fun c_10 => ?_)
            · exact absurd (by decide) c_10
            · refine lv_ldc2 (v := (-1000000000000000002)) hx hb hown (hts (.constantLong RX6 203 (-1000000000000000002)) (by decide +kernel)) dX6_row_72 ?_
              exact r_lret hx hb hr hlk hS () (by unfold rowG; rw [if_pos c_1, if_pos c_3, if_pos c_5, if_pos c_7, if_neg (bF c_9)]) (hP.sub [] rfl) (hD.sub [] (by decide) rfl) dX6_row_75
          · have c_9 : inB x5ζ 0 2 = true := bI_1 c_9
            refine lv_iload hx hb dX6_row_50 (lv_at hl 6 rfl) ?_
            refine lv_iconst (v := 0) hx hb dX6_row_52 (by decide) ?_
            refine lv_iconst (v := 1) hx hb dX6_row_53 (by decide) ?_
            refine gcP (As := [.int x6ζ, .int 0, .int 1]) (rest := []) F (c_X6_within l x6ζ 0 1) gX6_row_X6_within kX6_within rfl rfl rfl ⟨(Nat.le_of_ble_eq_true rfl), (Nat.le_of_ble_eq_true rfl)⟩ rfl rfl hl.1 (Nat.le_of_ble_eq_true rfl) dX6_row_54 ⟨(Nat.le_of_ble_eq_true rfl), (Nat.le_of_ble_eq_true rfl)⟩ ?_
            refine lv_if_eq (tgt := 64) hx hb dX6_row_57 (by decide) (fun c_11 => ?_) (fun c_11 => ?_)
            · have c_11 : inB x6ζ 0 1 = false := bI_0 c_11
              refine lv_iconst (v := 0) hx hb dX6_row_64 (by decide) ?_
              refine lv_istore (lv' := [(7, .int 0), (0, .ref hζ), (1, .int x1ζ), (2, .int x2ζ), (3, .int x3ζ), (4, .int x4ζ), (5, .int x5ζ), (6, .int x6ζ)]) hx hb dX6_row_65 hl (by decide) rfl (fun ls hl => ?_)
              refine lv_iload hx hb dX6_row_67 (lv_at hl 0 rfl) ?_
              refine lv_if_ne (tgt := 76) hx hb dX6_row_69 (by decide) (fun c_12 => ?_) (fun c_12 => ?_)
              · exact absurd (by decide) c_12
              · refine lv_ldc2 (v := (-1000000000000000002)) hx hb hown (hts (.constantLong RX6 203 (-1000000000000000002)) (by decide +kernel)) dX6_row_72 ?_
                exact r_lret hx hb hr hlk hS () (by unfold rowG; rw [if_pos c_1, if_pos c_3, if_pos c_5, if_pos c_7, if_pos c_9, if_neg (bF c_11)]) (hP.sub [] rfl) (hD.sub [] (by decide) rfl) dX6_row_75
            · have c_11 : inB x6ζ 0 1 = true := bI_1 c_11
              refine lv_iconst (v := 1) hx hb dX6_row_60 (by decide) ?_
              refine lv_goto (tgt := 65) hx hb dX6_row_61 (by decide) ?_
              refine lv_istore (lv' := [(7, .int 1), (0, .ref hζ), (1, .int x1ζ), (2, .int x2ζ), (3, .int x3ζ), (4, .int x4ζ), (5, .int x5ζ), (6, .int x6ζ)]) hx hb dX6_row_65 hl (by decide) rfl (fun ls hl => ?_)
              refine lv_iload hx hb dX6_row_67 (lv_at hl 0 rfl) ?_
              refine lv_if_ne (tgt := 76) hx hb dX6_row_69 (by decide) (fun c_13 => ?_) (fun c_13 => ?_)
              · obtain ⟨nζ, r_nζ, enζ⟩ := inB_nat (N := 11) (by decide) c_1
                have hl : lv_has ls 16 [(7, .int 1), (0, .ref hζ), (1, .int (nI nζ)), (2, .int x2ζ), (3, .int x3ζ), (4, .int x4ζ), (5, .int x5ζ), (6, .int x6ζ)] := by first | exact hl | (rw [← (enζ : x1ζ = nI nζ)]; exact hl)
                obtain ⟨tζ, r_tζ, etζ⟩ := inB_nat (N := 11) (by decide) c_3
                have hl : lv_has ls 16 [(7, .int 1), (0, .ref hζ), (1, .int (nI nζ)), (2, .int (nI tζ)), (3, .int x3ζ), (4, .int x4ζ), (5, .int x5ζ), (6, .int x6ζ)] := by first | exact hl | (rw [← (etζ : x2ζ = nI tζ)]; exact hl)
                obtain ⟨uζ, r_uζ, euζ⟩ := inB_nat (N := 11) (by decide) c_5
                have hl : lv_has ls 16 [(7, .int 1), (0, .ref hζ), (1, .int (nI nζ)), (2, .int (nI tζ)), (3, .int (nI uζ)), (4, .int x4ζ), (5, .int x5ζ), (6, .int x6ζ)] := by first | exact hl | (rw [← (euζ : x3ζ = nI uζ)]; exact hl)
                obtain ⟨kζ, r_kζ, ekζ⟩ := inBn_nat (by omega) enζ c_7
                have hl : lv_has ls 16 [(7, .int 1), (0, .ref hζ), (1, .int (nI nζ)), (2, .int (nI tζ)), (3, .int (nI uζ)), (4, .int (nI kζ)), (5, .int x5ζ), (6, .int x6ζ)] := by first | exact hl | (rw [← (ekζ : x4ζ = nI kζ)]; exact hl)
                obtain ⟨wζ, r_wζ, ewζ⟩ := inB_nat (N := 3) (by decide) c_9
                have hl : lv_has ls 16 [(7, .int 1), (0, .ref hζ), (1, .int (nI nζ)), (2, .int (nI tζ)), (3, .int (nI uζ)), (4, .int (nI kζ)), (5, .int (nI wζ)), (6, .int x6ζ)] := by first | exact hl | (rw [← (ewζ : x5ζ = nI wζ)]; exact hl)
                obtain ⟨qζ, r_qζ, eqζ⟩ := inB_nat (N := 2) (by decide) c_11
                have hl : lv_has ls 16 [(7, .int 1), (0, .ref hζ), (1, .int (nI nζ)), (2, .int (nI tζ)), (3, .int (nI uζ)), (4, .int (nI kζ)), (5, .int (nI wζ)), (6, .int (nI qζ))] := by first | exact hl | (rw [← (eqζ : x6ζ = nI qζ)]; exact hl)
                refine lv_aload_n hx hb dX6_row_76 rfl (lv_at hl 1 rfl) ?_
                refine va_get (D := g.1) (ci := 6) (v := .ref (Qζ 7)) (C := RX6) (T := TX6) (N := 8) hx hb hts hi6 hown hK hP 0 rfl rfl 7 (by decide) (hts (.fieldLink RX6 54 "PanTales" "chances" "LPanTales$Chances;") (by decide +kernel)) (fun _ h9 => h9) rfl dX6_row_77 ?_
                refine lv_iload_n hx hb dX6_row_80 rfl (lv_at hl 2 rfl) ?_
                refine lv_iload_n hx hb dX6_row_81 rfl (lv_at hl 3 rfl) ?_
                refine lv_iload_n hx hb dX6_row_82 rfl (lv_at hl 4 rfl) ?_
                refine lv_iload hx hb dX6_row_83 (lv_at hl 5 rfl) ?_
                refine lv_iload hx hb dX6_row_85 (lv_at hl 6 rfl) ?_
                refine gcV_l (As := [.int (nI nζ), .int (nI tζ), .int (nI uζ), .int (nI kζ), .int (nI wζ)]) (rest := []) (ci := 0) (q := (RX0, TX0, 3)) F hK hN hP hD hS hA (c_X0_rowUpper l g H.size (Qζ 7) Gζ (fun _ => 0) (fun _ => 0) nζ tζ uζ kζ wζ (by omega) (by omega) (by omega) (by omega) (by omega)) gX6_row_X0_rowUpper kX0_rowUpper rfl rfl rfl rfl ⟨(Nat.le_of_ble_eq_true rfl), (Nat.le_of_ble_eq_true rfl)⟩ [1, 2, 3] [0] rfl rfl rfl (by decide) rfl rfl rfl rfl rfl hl.1 (Nat.le_of_ble_eq_true rfl) dX6_row_87 ⟨(Nat.le_of_ble_eq_true rfl), (Nat.le_of_ble_eq_true rfl)⟩ (fun r_wζ u_w H locs hw hP hD hS => ?_)
                have hP : va_P g.1 vwCl [(hζ, .inr (6, [.ref (Qζ 0), .ref (Qζ 1), .ref (Qζ 2), .ref (Qζ 3), .ref (Qζ 4), .ref (Qζ 5), .ref (Qζ 6), .ref (Qζ 7)])), ((Qζ 7), .inr (0, [.ref (Gζ 0), .ref (Gζ 1), .ref (Gζ 2)])), aJ g (Gζ 0) 11 (cD tζ uζ nζ), aJ g (Gζ 1) 11 (cN tζ uζ nζ)] H := hP
                have hD : va_D Z [(hζ, .inr (6, [.ref (Qζ 0), .ref (Qζ 1), .ref (Qζ 2), .ref (Qζ 3), .ref (Qζ 4), .ref (Qζ 5), .ref (Qζ 6), .ref (Qζ 7)])), ((Qζ 7), .inr (0, [.ref (Gζ 0), .ref (Gζ 1), .ref (Gζ 2)])), aJ g (Gζ 0) 11 (cD tζ uζ nζ), aJ g (Gζ 1) 11 (cN tζ uζ nζ)] := hD
                obtain rfl := hw
                refine lv_lstore (lv' := [(8, .long (lN (ruS tζ uζ nζ kζ wζ 11))), (7, .int 1), (0, .ref hζ), (1, .int (nI nζ)), (2, .int (nI tζ)), (3, .int (nI uζ)), (4, .int (nI kζ)), (5, .int (nI wζ)), (6, .int (nI qζ))]) hx hb dX6_row_90 hl (by decide) rfl (fun ls hl => ?_)
                refine lv_aload_n hx hb dX6_row_92 rfl (lv_at hl 2 rfl) ?_
                refine va_get (D := g.1) (ci := 6) (v := .ref (Qζ 7)) (C := RX6) (T := TX6) (N := 8) hx hb hts hi6 hown hK hP 0 rfl rfl 7 (by decide) (hts (.fieldLink RX6 54 "PanTales" "chances" "LPanTales$Chances;") (by decide +kernel)) (fun _ h9 => h9) rfl dX6_row_93 ?_
                refine lv_iload_n hx hb dX6_row_96 rfl (lv_at hl 3 rfl) ?_
                refine gcV_l (As := [.int (nI nζ)]) (rest := []) (ci := 0) (q := (RX0, TX0, 3)) F hK hN hP hD hS hA (c_X0_rowLower l g H.size (Qζ 7) Gζ nζ (by omega)) gX6_row_X0_rowLower kX0_rowLower rfl rfl rfl rfl ⟨(Nat.le_of_ble_eq_true rfl), (Nat.le_of_ble_eq_true rfl)⟩ [1] [0, 2, 3] rfl rfl rfl (by decide) rfl rfl rfl rfl rfl hl.1 (Nat.le_of_ble_eq_true rfl) dX6_row_97 ⟨(Nat.le_of_ble_eq_true rfl), (Nat.le_of_ble_eq_true rfl)⟩ (fun r_wζ u_w H locs hw hP hD hS => ?_)
                have hP : va_P g.1 vwCl [(hζ, .inr (6, [.ref (Qζ 0), .ref (Qζ 1), .ref (Qζ 2), .ref (Qζ 3), .ref (Qζ 4), .ref (Qζ 5), .ref (Qζ 6), .ref (Qζ 7)])), aJ g (Gζ 0) 11 (cD tζ uζ nζ), aJ g (Gζ 1) 11 (cN tζ uζ nζ), ((Qζ 7), .inr (0, [.ref (Gζ 0), .ref (Gζ 1), .ref (Gζ 2)]))] H := hP
                have hD : va_D Z [(hζ, .inr (6, [.ref (Qζ 0), .ref (Qζ 1), .ref (Qζ 2), .ref (Qζ 3), .ref (Qζ 4), .ref (Qζ 5), .ref (Qζ 6), .ref (Qζ 7)])), aJ g (Gζ 0) 11 (cD tζ uζ nζ), aJ g (Gζ 1) 11 (cN tζ uζ nζ), ((Qζ 7), .inr (0, [.ref (Gζ 0), .ref (Gζ 1), .ref (Gζ 2)]))] := hD
                obtain rfl := hw
                refine lv_lstore (lv' := [(10, .long (lN (10 ^ nζ))), (8, .long (lN (ruS tζ uζ nζ kζ wζ 11))), (7, .int 1), (0, .ref hζ), (1, .int (nI nζ)), (2, .int (nI tζ)), (3, .int (nI uζ)), (4, .int (nI kζ)), (5, .int (nI wζ)), (6, .int (nI qζ))]) hx hb dX6_row_100 hl (by decide) rfl (fun ls hl => ?_)
                refine lv_lload hx hb dX6_row_102 (lv_at hl 1 rfl) ?_
                refine lv_lload hx hb dX6_row_104 (lv_at hl 0 rfl) ?_
                refine gcS_l (As := [.long (lN (ruS tζ uζ nζ kζ wζ 11)), .long (lN (10 ^ nζ))]) (rest := []) F hK hN hP hD hS hA (c_X6_commonPart l g H.size (ruS tζ uζ nζ kζ wζ 11) (10 ^ nζ) (ru_lt (by omega) (by omega) (by omega)) (p10_lt (by omega))) gX6_row_X6_commonPart kX6_commonPart rfl rfl rfl ⟨(Nat.le_of_ble_eq_true rfl), (Nat.le_of_ble_eq_true rfl)⟩ [] [0, 1, 2, 3] rfl rfl rfl (by decide) rfl rfl rfl hl.1 (Nat.le_of_ble_eq_true rfl) dX6_row_106 ⟨(Nat.le_of_ble_eq_true rfl), (Nat.le_of_ble_eq_true rfl)⟩ (fun r_wζ u_w H locs hw hP hD hS => ?_)
                have hP : va_P g.1 vwCl [(hζ, .inr (6, [.ref (Qζ 0), .ref (Qζ 1), .ref (Qζ 2), .ref (Qζ 3), .ref (Qζ 4), .ref (Qζ 5), .ref (Qζ 6), .ref (Qζ 7)])), aJ g (Gζ 0) 11 (cD tζ uζ nζ), aJ g (Gζ 1) 11 (cN tζ uζ nζ), ((Qζ 7), .inr (0, [.ref (Gζ 0), .ref (Gζ 1), .ref (Gζ 2)]))] H := hP
                have hD : va_D Z [(hζ, .inr (6, [.ref (Qζ 0), .ref (Qζ 1), .ref (Qζ 2), .ref (Qζ 3), .ref (Qζ 4), .ref (Qζ 5), .ref (Qζ 6), .ref (Qζ 7)])), aJ g (Gζ 0) 11 (cD tζ uζ nζ), aJ g (Gζ 1) 11 (cN tζ uζ nζ), ((Qζ 7), .inr (0, [.ref (Gζ 0), .ref (Gζ 1), .ref (Gζ 2)]))] := hD
                obtain rfl := hw
                refine lv_lstore (lv' := [(12, .long (lN (Nat.gcd (ruS tζ uζ nζ kζ wζ 11) (10 ^ nζ)))), (10, .long (lN (10 ^ nζ))), (8, .long (lN (ruS tζ uζ nζ kζ wζ 11))), (7, .int 1), (0, .ref hζ), (1, .int (nI nζ)), (2, .int (nI tζ)), (3, .int (nI uζ)), (4, .int (nI kζ)), (5, .int (nI wζ)), (6, .int (nI qζ))]) hx hb dX6_row_109 hl (by decide) rfl (fun ls hl => ?_)
                refine lv_iload hx hb dX6_row_111 (lv_at hl 10 rfl) ?_
                refine lv_if_ne (tgt := 121) hx hb dX6_row_113 (by decide) (fun c_14 => ?_) (fun c_14 => ?_)
                · have c_14 : ¬ qζ = 0 := fun z => c_14 ((nI_eq (a := qζ) (b := 0) (by omega) (by omega)).mpr z)
                  refine lv_lload hx hb dX6_row_121 (lv_at hl 1 rfl) ?_
                  refine lv_lstore (lv' := [(14, .long (lN (10 ^ nζ))), (12, .long (lN (Nat.gcd (ruS tζ uζ nζ kζ wζ 11) (10 ^ nζ)))), (10, .long (lN (10 ^ nζ))), (8, .long (lN (ruS tζ uζ nζ kζ wζ 11))), (7, .int 1), (0, .ref hζ), (1, .int (nI nζ)), (2, .int (nI tζ)), (3, .int (nI uζ)), (4, .int (nI kζ)), (5, .int (nI wζ)), (6, .int (nI qζ))]) hx hb dX6_row_123 hl (by decide) rfl (fun ls hl => ?_)
                  refine lv_lload hx hb dX6_row_125 (lv_at hl 1 rfl) ?_
                  refine lv_lconst (v := 0) hx hb dX6_row_127 (by decide) ?_
                  refine W.lcmp hx hb dX6_row_128 ?_
                  refine gtop (y := 1) (lg_p (gcd_lt (p10_lt (by omega)) (Nat.pow_pos (by decide))) gcd_p) ?_
                  refine lv_if_le (tgt := 140) hx hb dX6_row_129 (by decide) (fun c_15 => ?_) (fun c_15 => ?_)
                  · exact absurd c_15 (by decide)
                  · refine lv_lload hx hb dX6_row_132 (lv_at hl 0 rfl) ?_
                    refine lv_lload hx hb dX6_row_134 (lv_at hl 1 rfl) ?_
                    refine lv_ldiv hx hb dX6_row_136 (lN_ne0 (gcd_lt (p10_lt (by omega)) (Nat.pow_pos (by decide))) (Nat.pos_iff_ne_zero.mp gcd_p)) ?_
                    refine gtopl (y := lN ((10 ^ nζ) / (Nat.gcd (ruS tζ uζ nζ kζ wζ 11) (10 ^ nζ)))) (pk_lDiv (a := 10 ^ nζ) (b := Nat.gcd (ruS tζ uζ nζ kζ wζ 11) (10 ^ nζ)) (Nat.lt_trans (p10_lt (by omega)) (by decide)) gcd_p (Nat.lt_trans (gcd_lt (p10_lt (by omega)) (Nat.pow_pos (by decide))) (by decide))) ?_
                    refine lv_goto (tgt := 142) hx hb dX6_row_137 (by decide) ?_
                    exact r_lret hx hb hr hlk hS () (by unfold rowG; rw [if_pos c_1, if_pos c_3, if_pos c_5, if_pos c_7, if_pos c_9, if_pos c_11, enζ, etζ, euζ, ekζ, ewζ, eqζ, nI_clamp (n := nζ) (by omega), nI_clamp (n := tζ) (by omega), nI_clamp (n := uζ) (by omega), nI_clamp (n := kζ) (by omega), nI_clamp (n := wζ) (by omega), nI_clamp (n := qζ) (by omega)]; unfold rowF; rw [if_neg c_14]) (hP.sub [] rfl) (hD.sub [] (by decide) rfl) dX6_row_142
                · have c_14 : qζ = 0 := (nI_eq (a := qζ) (b := 0) (by omega) (by omega)).mp c_14
                  refine lv_lload hx hb dX6_row_116 (lv_at hl 2 rfl) ?_
                  refine lv_goto (tgt := 123) hx hb dX6_row_118 (by decide) ?_
                  refine lv_lstore (lv' := [(14, .long (lN (ruS tζ uζ nζ kζ wζ 11))), (12, .long (lN (Nat.gcd (ruS tζ uζ nζ kζ wζ 11) (10 ^ nζ)))), (10, .long (lN (10 ^ nζ))), (8, .long (lN (ruS tζ uζ nζ kζ wζ 11))), (7, .int 1), (0, .ref hζ), (1, .int (nI nζ)), (2, .int (nI tζ)), (3, .int (nI uζ)), (4, .int (nI kζ)), (5, .int (nI wζ)), (6, .int (nI qζ))]) hx hb dX6_row_123 hl (by decide) rfl (fun ls hl => ?_)
                  refine lv_lload hx hb dX6_row_125 (lv_at hl 1 rfl) ?_
                  refine lv_lconst (v := 0) hx hb dX6_row_127 (by decide) ?_
                  refine W.lcmp hx hb dX6_row_128 ?_
                  refine gtop (y := 1) (lg_p (gcd_lt (p10_lt (by omega)) (Nat.pow_pos (by decide))) gcd_p) ?_
                  refine lv_if_le (tgt := 140) hx hb dX6_row_129 (by decide) (fun c_16 => ?_) (fun c_16 => ?_)
                  · exact absurd c_16 (by decide)
                  · refine lv_lload hx hb dX6_row_132 (lv_at hl 0 rfl) ?_
                    refine lv_lload hx hb dX6_row_134 (lv_at hl 1 rfl) ?_
                    refine lv_ldiv hx hb dX6_row_136 (lN_ne0 (gcd_lt (p10_lt (by omega)) (Nat.pow_pos (by decide))) (Nat.pos_iff_ne_zero.mp gcd_p)) ?_
                    refine gtopl (y := lN ((ruS tζ uζ nζ kζ wζ 11) / (Nat.gcd (ruS tζ uζ nζ kζ wζ 11) (10 ^ nζ)))) (pk_lDiv (a := ruS tζ uζ nζ kζ wζ 11) (b := Nat.gcd (ruS tζ uζ nζ kζ wζ 11) (10 ^ nζ)) (Nat.lt_trans (ru_lt (by omega) (by omega) (by omega)) (by decide)) gcd_p (Nat.lt_trans (gcd_lt (p10_lt (by omega)) (Nat.pow_pos (by decide))) (by decide))) ?_
                    refine lv_goto (tgt := 142) hx hb dX6_row_137 (by decide) ?_
                    exact r_lret hx hb hr hlk hS () (by unfold rowG; rw [if_pos c_1, if_pos c_3, if_pos c_5, if_pos c_7, if_pos c_9, if_pos c_11, enζ, etζ, euζ, ekζ, ewζ, eqζ, nI_clamp (n := nζ) (by omega), nI_clamp (n := tζ) (by omega), nI_clamp (n := uζ) (by omega), nI_clamp (n := kζ) (by omega), nI_clamp (n := wζ) (by omega), nI_clamp (n := qζ) (by omega)]; unfold rowF; rw [if_pos c_14]) (hP.sub [] rfl) (hD.sub [] (by decide) rfl) dX6_row_142
              · exact absurd c_13 (by decide)
set_option maxHeartbeats 4000000 in
set_option maxRecDepth 100000 in
theorem c_X6_embers (l : Launch) (g : GT) (sz : Nat) (hζ : Nat) (Qζ Aζ : Nat → Nat) (Gζ : Nat → Nat) (xζ yζ : Int32) : Ci l yX6_embers wsX6_embers { frames := 3, cells := 0, slots := 0, locals := 67 } g sz [.ref hζ, .int xζ, .int yζ] [(hζ, .inr (6, [.ref (Qζ 0), .ref (Qζ 1), .ref (Qζ 2), .ref (Qζ 3), .ref (Qζ 4), .ref (Qζ 5), .ref (Qζ 6), .ref (Qζ 7)])), (Qζ 7, .inr (0, [.ref (Gζ 0), .ref (Gζ 1), .ref (Gζ 2)])), aI g (Gζ 2) 61 (fun _ => 0)] (embersF xζ yζ) [] := by
  refine gMet_i (cc := cX6_embers) (maxL := 4) (ret := (some .int)) (by decide) rfl (Nat.le_of_ble_eq_true rfl) ?_
  intro p e s m args below meth c Z hx hb hr F hlk hnm hK hN hA H locs hP hD hS ls hl
  have hl : lv_has ls 4 [(0, .ref hζ), (1, .int xζ), (2, .int yζ)] := hl
  have F : CallFix p m c cX6_embers 4 s args wsX6_embers RX6 := F
  have hts := F.2.2.2.2
  have hown : s.vm.findClass RX6 = some m.cls := F.2.2.2.1
  have hi6 : ∀ w ∈ u_ws RX6 TX6 8, w ∈ wsX6_embers := by decide +kernel
  refine lv_iload_n hx hb dX6_embers_0 rfl (lv_at hl 1 rfl) ?_
  refine lv_iconst (v := 1) hx hb dX6_embers_1 (by decide) ?_
  refine lv_bipush (v := 60) hx hb dX6_embers_2 (by decide) ?_
  refine gcP (As := [.int xζ, .int 1, .int 60]) (rest := []) F (c_X6_within l xζ 1 60) gX6_embers_X6_within kX6_within rfl rfl rfl ⟨(Nat.le_of_ble_eq_true rfl), (Nat.le_of_ble_eq_true rfl)⟩ rfl rfl hl.1 (Nat.le_of_ble_eq_true rfl) dX6_embers_4 ⟨(Nat.le_of_ble_eq_true rfl), (Nat.le_of_ble_eq_true rfl)⟩ ?_
  refine lv_if_eq (tgt := 19) hx hb dX6_embers_7 (by decide) (fun c_1 => ?_) (fun c_1 => ?_)
  · have c_1 : inB xζ 1 60 = false := bI_0 c_1
    refine lv_bipush (v := (-2)) hx hb dX6_embers_19 (by decide) ?_
    exact r_iret hx hb hr hlk hS () (by unfold embersF; rw [if_neg (bF c_1)]) (hP.sub [] rfl) (hD.sub [] (by decide) rfl) dX6_embers_21
  · have c_1 : inB xζ 1 60 = true := bI_1 c_1
    refine lv_iload_n hx hb dX6_embers_10 rfl (lv_at hl 2 rfl) ?_
    refine lv_iconst (v := 0) hx hb dX6_embers_11 (by decide) ?_
    refine lv_iconst (v := 1) hx hb dX6_embers_12 (by decide) ?_
    refine gcP (As := [.int yζ, .int 0, .int 1]) (rest := []) F (c_X6_within l yζ 0 1) gX6_embers_X6_within kX6_within rfl rfl rfl ⟨(Nat.le_of_ble_eq_true rfl), (Nat.le_of_ble_eq_true rfl)⟩ rfl rfl hl.1 (Nat.le_of_ble_eq_true rfl) dX6_embers_13 ⟨(Nat.le_of_ble_eq_true rfl), (Nat.le_of_ble_eq_true rfl)⟩ ?_
    refine lv_if_ne (tgt := 22) hx hb dX6_embers_16 (by decide) (fun c_2 => ?_) (fun c_2 => ?_)
    · have c_2 : inB yζ 0 1 = true := bI_1 c_2
      obtain ⟨iζ, h1iζ, hiζ, eiζ⟩ := inB1_nat (N := 61) (by decide) c_1
      have hl : lv_has ls 4 [(0, .ref hζ), (1, .int (nI iζ)), (2, .int yζ)] := by first | exact hl | (rw [← (eiζ : xζ = nI iζ)]; exact hl)
      refine lv_aload_n hx hb dX6_embers_22 rfl (lv_at hl 0 rfl) ?_
      refine va_get (D := g.1) (ci := 6) (v := .ref (Qζ 7)) (C := RX6) (T := TX6) (N := 8) hx hb hts hi6 hown hK hP 0 rfl rfl 7 (by decide) (hts (.fieldLink RX6 54 "PanTales" "chances" "LPanTales$Chances;") (by decide +kernel)) (fun _ h9 => h9) rfl dX6_embers_23 ?_
      refine lv_iload_n hx hb dX6_embers_26 rfl (lv_at hl 1 rfl) ?_
      refine gcV_i (As := [.int (nI iζ)]) (rest := []) (ci := 0) (q := (RX0, TX0, 3)) F hK hN hP hD hS hA (c_X0_firstTake l g H.size (Qζ 7) Gζ iζ (by omega) (by omega)) gX6_embers_X0_firstTake kX0_firstTake rfl rfl rfl rfl ⟨(Nat.le_of_ble_eq_true rfl), (Nat.le_of_ble_eq_true rfl)⟩ [1, 2] [0] rfl rfl rfl (by decide) rfl rfl rfl rfl rfl hl.1 (Nat.le_of_ble_eq_true rfl) dX6_embers_27 ⟨(Nat.le_of_ble_eq_true rfl), (Nat.le_of_ble_eq_true rfl)⟩ (fun r_w u_w H locs hw hP hD hS => ?_)
      have hP : va_P g.1 vwCl [(hζ, .inr (6, [.ref (Qζ 0), .ref (Qζ 1), .ref (Qζ 2), .ref (Qζ 3), .ref (Qζ 4), .ref (Qζ 5), .ref (Qζ 6), .ref (Qζ 7)]))] H := hP
      have hD : va_D Z [(hζ, .inr (6, [.ref (Qζ 0), .ref (Qζ 1), .ref (Qζ 2), .ref (Qζ 3), .ref (Qζ 4), .ref (Qζ 5), .ref (Qζ 6), .ref (Qζ 7)]))] := hD
      obtain rfl := hw
      refine lv_istore_n (lv' := [(3, .int (emF iζ 1)), (0, .ref hζ), (1, .int (nI iζ)), (2, .int yζ)]) hx hb dX6_embers_30 rfl hl (by decide) rfl (fun ls hl => ?_)
      refine lv_iload_n hx hb dX6_embers_31 rfl (lv_at hl 3 rfl) ?_
      refine lv_iconst (v := 1) hx hb dX6_embers_32 (by decide) ?_
      refine lv_icmp_ne (tgt := 38) hx hb dX6_embers_33 (by decide) (fun c_3 => ?_) (fun c_3 => ?_)
      · refine lv_iload_n hx hb dX6_embers_38 rfl (lv_at hl 0 rfl) ?_
        refine lv_bipush (v := (-6)) hx hb dX6_embers_39 (by decide) ?_
        refine lv_icmp_ne (tgt := 48) hx hb dX6_embers_41 (by decide) (fun c_4 => ?_) (fun c_4 => ?_)
        · refine lv_iconst (v := 1) hx hb dX6_embers_48 (by decide) ?_
          exact r_iret hx hb hr hlk hS () (by unfold embersF; rw [if_pos c_1, if_pos c_2, eiζ, nI_clamp (n := iζ) (by omega), y01 c_2 c_3]; exact em_1 (by omega) (by omega) c_4) (hP.sub [] rfl) (hD.sub [] (by decide) rfl) dX6_embers_49
        · refine lv_iconst (v := 0) hx hb dX6_embers_44 (by decide) ?_
          refine lv_goto (tgt := 49) hx hb dX6_embers_45 (by decide) ?_
          exact r_iret hx hb hr hlk hS () (by unfold embersF; rw [if_pos c_1, if_pos c_2, eiζ, nI_clamp (n := iζ) (by omega), y01 c_2 c_3]; exact em_0 (by omega) (by omega) c_4) (hP.sub [] rfl) (hD.sub [] (by decide) rfl) dX6_embers_49
      · refine lv_iload_n hx hb dX6_embers_36 rfl (lv_at hl 0 rfl) ?_
        exact r_iret hx hb hr hlk hS () (by unfold embersF; rw [if_pos c_1, if_pos c_2, eiζ, nI_clamp (n := iζ) (by omega), c_3]; rfl) (hP.sub [] rfl) (hD.sub [] (by decide) rfl) dX6_embers_37
    · have c_2 : inB yζ 0 1 = false := bI_0 c_2
      refine lv_bipush (v := (-2)) hx hb dX6_embers_19 (by decide) ?_
      exact r_iret hx hb hr hlk hS () (by unfold embersF; rw [if_pos c_1, if_neg (bF c_2)]) (hP.sub [] rfl) (hD.sub [] (by decide) rfl) dX6_embers_21
set_option maxHeartbeats 4000000 in
set_option maxRecDepth 100000 in
theorem c_X6_year (l : Launch) (g : GT) (sz : Nat) (hζ : Nat) (Qζ Aζ : Nat → Nat) (Bζ : Nat → Nat) (xζ yζ zζ : Int32) : Ci l yX6_year wsX6_year { frames := 4, cells := 0, slots := 0, locals := 101 } g sz [.ref hζ, .int xζ, .int yζ, .int zζ] [(hζ, .inr (6, [.ref (Qζ 0), .ref (Qζ 1), .ref (Qζ 2), .ref (Qζ 3), .ref (Qζ 4), .ref (Qζ 5), .ref (Qζ 6), .ref (Qζ 7)])), (Qζ 1, .inr (1, oC Bζ iC0)), aI g (Bζ 0) 121 (fun _ => 0), aI g (Bζ 1) 10 (fun _ => 5), aI g (Bζ 2) 10 (fun _ => 0), aI g (Bζ 3) 10 (fun _ => (-6)), aI g (Bζ 4) 10 (fun jζ => nI jζ), aI g (Bζ 5) 8 (fun _ => 0), aI g (Bζ 6) 8 (fun _ => 0), (Qζ 0, .inr (1, oC Aζ iC0)), aI g (Aζ 0) 121 (fun _ => 0), aI g (Aζ 1) 10 (fun _ => 5), aI g (Aζ 2) 10 (fun _ => 0), aI g (Aζ 3) 10 (fun _ => (-6)), aI g (Aζ 4) 10 (fun jζ => nI jζ), aI g (Aζ 5) 8 (fun _ => 0), aI g (Aζ 6) 8 (fun _ => 0)] (yearF xζ yζ zζ) [] := by
  refine gMet_i (cc := cX6_year) (maxL := 4) (ret := (some .int)) (by decide) rfl (Nat.le_of_ble_eq_true rfl) ?_
  intro p e s m args below meth c Z hx hb hr F hlk hnm hK hN hA H locs hP hD hS ls hl
  have hl : lv_has ls 4 [(0, .ref hζ), (1, .int xζ), (2, .int yζ), (3, .int zζ)] := hl
  have F : CallFix p m c cX6_year 4 s args wsX6_year RX6 := F
  have hts := F.2.2.2.2
  have hown : s.vm.findClass RX6 = some m.cls := F.2.2.2.1
  have hi6 : ∀ w ∈ u_ws RX6 TX6 8, w ∈ wsX6_year := by decide +kernel
  refine lv_iload_n hx hb dX6_year_0 rfl (lv_at hl 1 rfl) ?_
  refine lv_iconst (v := 0) hx hb dX6_year_1 (by decide) ?_
  refine lv_sipush (v := 9999) hx hb dX6_year_2 (by decide) ?_
  refine gcP (As := [.int xζ, .int 0, .int 9999]) (rest := []) F (c_X6_within l xζ 0 9999) gX6_year_X6_within kX6_within rfl rfl rfl ⟨(Nat.le_of_ble_eq_true rfl), (Nat.le_of_ble_eq_true rfl)⟩ rfl rfl hl.1 (Nat.le_of_ble_eq_true rfl) dX6_year_5 ⟨(Nat.le_of_ble_eq_true rfl), (Nat.le_of_ble_eq_true rfl)⟩ ?_
  refine lv_if_eq (tgt := 30) hx hb dX6_year_8 (by decide) (fun c_1 => ?_) (fun c_1 => ?_)
  · have c_1 : inB xζ 0 9999 = false := bI_0 c_1
    refine lv_bipush (v := (-2)) hx hb dX6_year_30 (by decide) ?_
    exact r_iret hx hb hr hlk hS () (by unfold yearF; rw [if_neg (bF c_1)]) (hP.sub [] rfl) (hD.sub [] (by decide) rfl) dX6_year_32
  · have c_1 : inB xζ 0 9999 = true := bI_1 c_1
    refine lv_iload_n hx hb dX6_year_11 rfl (lv_at hl 2 rfl) ?_
    refine lv_iconst (v := 1) hx hb dX6_year_12 (by decide) ?_
    refine lv_bipush (v := 99) hx hb dX6_year_13 (by decide) ?_
    refine gcP (As := [.int yζ, .int 1, .int 99]) (rest := []) F (c_X6_within l yζ 1 99) gX6_year_X6_within kX6_within rfl rfl rfl ⟨(Nat.le_of_ble_eq_true rfl), (Nat.le_of_ble_eq_true rfl)⟩ rfl rfl hl.1 (Nat.le_of_ble_eq_true rfl) dX6_year_15 ⟨(Nat.le_of_ble_eq_true rfl), (Nat.le_of_ble_eq_true rfl)⟩ ?_
    refine lv_if_eq (tgt := 30) hx hb dX6_year_18 (by decide) (fun c_2 => ?_) (fun c_2 => ?_)
    · have c_2 : inB yζ 1 99 = false := bI_0 c_2
      refine lv_bipush (v := (-2)) hx hb dX6_year_30 (by decide) ?_
      exact r_iret hx hb hr hlk hS () (by unfold yearF; rw [if_pos c_1, if_neg (bF c_2)]) (hP.sub [] rfl) (hD.sub [] (by decide) rfl) dX6_year_32
    · have c_2 : inB yζ 1 99 = true := bI_1 c_2
      refine lv_iload_n hx hb dX6_year_21 rfl (lv_at hl 3 rfl) ?_
      refine lv_iconst (v := 0) hx hb dX6_year_22 (by decide) ?_
      refine lv_iconst (v := 2) hx hb dX6_year_23 (by decide) ?_
      refine gcP (As := [.int zζ, .int 0, .int 2]) (rest := []) F (c_X6_within l zζ 0 2) gX6_year_X6_within kX6_within rfl rfl rfl ⟨(Nat.le_of_ble_eq_true rfl), (Nat.le_of_ble_eq_true rfl)⟩ rfl rfl hl.1 (Nat.le_of_ble_eq_true rfl) dX6_year_24 ⟨(Nat.le_of_ble_eq_true rfl), (Nat.le_of_ble_eq_true rfl)⟩ ?_
      refine lv_if_ne (tgt := 33) hx hb dX6_year_27 (by decide) (fun c_3 => ?_) (fun c_3 => ?_)
      · have c_3 : inB zζ 0 2 = true := bI_1 c_3
        obtain ⟨iζ, hiζ, eiζ⟩ := inB_nat (N := 10000) (by decide) c_1
        have hl : lv_has ls 4 [(0, .ref hζ), (1, .int (nI iζ)), (2, .int yζ), (3, .int zζ)] := by first | exact hl | (rw [← (eiζ : xζ = nI iζ)]; exact hl)
        obtain ⟨jζ, h1jζ, hjζ, ejζ⟩ := inB1_nat (N := 100) (by decide) c_2
        have hl : lv_has ls 4 [(0, .ref hζ), (1, .int (nI iζ)), (2, .int (nI jζ)), (3, .int zζ)] := by first | exact hl | (rw [← (ejζ : yζ = nI jζ)]; exact hl)
        refine lv_aload_n hx hb dX6_year_33 rfl (lv_at hl 0 rfl) ?_
        refine va_get (D := g.1) (ci := 6) (v := .ref (Qζ 1)) (C := RX6) (T := TX6) (N := 8) hx hb hts hi6 hown hK hP 0 rfl rfl 1 (by decide) (hts (.fieldLink RX6 16 "PanTales" "draft" "LPanTales$Close;") (by decide +kernel)) (fun _ h9 => h9) rfl dX6_year_34 ?_
        refine lv_aload_n hx hb dX6_year_37 rfl (lv_at hl 0 rfl) ?_
        refine va_get (D := g.1) (ci := 6) (v := .ref (Qζ 0)) (C := RX6) (T := TX6) (N := 8) hx hb hts hi6 hown hK hP 0 rfl rfl 0 (by decide) (hts (.fieldLink RX6 12 "PanTales" "close" "LPanTales$Close;") (by decide +kernel)) (fun _ h9 => h9) rfl dX6_year_38 ?_
        refine gcV_v (As := [.ref (Qζ 0)]) (rest := []) (ci := 1) (q := (RX1, TX1, 12)) F hK hN hP hD hS hA (c_X1_copyFrom l g H.size (Qζ 1) Bζ iC0 (Qζ 0) Aζ iC0 (fun _ => 0) (fun _ => 5) (fun _ => 0) (fun _ => (-6)) (fun jζ => nI jζ) (fun _ => 0) (fun _ => 0) (fun _ => 0) (fun _ => 5) (fun _ => 0) (fun _ => (-6)) (fun jζ => nI jζ) (fun _ => 0) (fun _ => 0)) gX6_year_X1_copyFrom kX1_copyFrom rfl rfl rfl rfl ⟨(Nat.le_of_ble_eq_true rfl), (Nat.le_of_ble_eq_true rfl)⟩ [1, 2, 3, 4, 5, 6, 7, 8, 9, 10, 11, 12, 13, 14, 15, 16] [0] rfl rfl rfl (by decide) rfl rfl rfl rfl rfl hl.1 (Nat.le_of_ble_eq_true rfl) dX6_year_41 ⟨(Nat.le_of_ble_eq_true rfl), (Nat.le_of_ble_eq_true rfl)⟩ (fun u_w H locs hw hP hD hS => ?_)
        have hP : va_P g.1 vwCl [(hζ, .inr (6, [.ref (Qζ 0), .ref (Qζ 1), .ref (Qζ 2), .ref (Qζ 3), .ref (Qζ 4), .ref (Qζ 5), .ref (Qζ 6), .ref (Qζ 7)])), ((Qζ 1), .inr (1, oC Bζ iC0)), aI g (Bζ 0) 121 (fun _ => 0), aI g (Bζ 1) 10 (fun _ => 5), aI g (Bζ 2) 10 (fun _ => 0), aI g (Bζ 3) 10 (fun _ => (-6)), aI g (Bζ 4) 10 (fun jζ => nI jζ), aI g (Bζ 5) 8 (fun _ => 0), aI g (Bζ 6) 8 (fun _ => 0), ((Qζ 0), .inr (1, oC Aζ iC0)), aI g (Aζ 0) 121 (fun _ => 0), aI g (Aζ 1) 10 (fun _ => 5), aI g (Aζ 2) 10 (fun _ => 0), aI g (Aζ 3) 10 (fun _ => (-6)), aI g (Aζ 4) 10 (fun jζ => nI jζ), aI g (Aζ 5) 8 (fun _ => 0), aI g (Aζ 6) 8 (fun _ => 0)] H := hP
        have hD : va_D Z [(hζ, .inr (6, [.ref (Qζ 0), .ref (Qζ 1), .ref (Qζ 2), .ref (Qζ 3), .ref (Qζ 4), .ref (Qζ 5), .ref (Qζ 6), .ref (Qζ 7)])), ((Qζ 1), .inr (1, oC Bζ iC0)), aI g (Bζ 0) 121 (fun _ => 0), aI g (Bζ 1) 10 (fun _ => 5), aI g (Bζ 2) 10 (fun _ => 0), aI g (Bζ 3) 10 (fun _ => (-6)), aI g (Bζ 4) 10 (fun jζ => nI jζ), aI g (Bζ 5) 8 (fun _ => 0), aI g (Bζ 6) 8 (fun _ => 0), ((Qζ 0), .inr (1, oC Aζ iC0)), aI g (Aζ 0) 121 (fun _ => 0), aI g (Aζ 1) 10 (fun _ => 5), aI g (Aζ 2) 10 (fun _ => 0), aI g (Aζ 3) 10 (fun _ => (-6)), aI g (Aζ 4) 10 (fun jζ => nI jζ), aI g (Aζ 5) 8 (fun _ => 0), aI g (Aζ 6) 8 (fun _ => 0)] := hD
        refine lv_aload_n hx hb dX6_year_44 rfl (lv_at hl 0 rfl) ?_
        refine va_get (D := g.1) (ci := 6) (v := .ref (Qζ 1)) (C := RX6) (T := TX6) (N := 8) hx hb hts hi6 hown hK hP 0 rfl rfl 1 (by decide) (hts (.fieldLink RX6 16 "PanTales" "draft" "LPanTales$Close;") (by decide +kernel)) (fun _ h9 => h9) rfl dX6_year_45 ?_
        refine lv_iload_n hx hb dX6_year_48 rfl (lv_at hl 1 rfl) ?_
        refine lv_iload_n hx hb dX6_year_49 rfl (lv_at hl 2 rfl) ?_
        refine gcV_v (As := [.int (nI iζ), .int (nI jζ)]) (rest := []) (ci := 1) (q := (RX1, TX1, 12)) F hK hN hP hD hS hA (c_X1_liveYear l g H.size (Qζ 1) Bζ iC0 iζ jζ (by omega) (by omega) rfl) gX6_year_X1_liveYear kX1_liveYear rfl rfl rfl rfl ⟨(Nat.le_of_ble_eq_true rfl), (Nat.le_of_ble_eq_true rfl)⟩ [1, 2, 4, 6] [0, 3, 5, 7, 8, 9, 10, 11, 12, 13, 14, 15, 16] rfl rfl rfl (by decide) rfl rfl rfl rfl rfl hl.1 (Nat.le_of_ble_eq_true rfl) dX6_year_50 ⟨(Nat.le_of_ble_eq_true rfl), (Nat.le_of_ble_eq_true rfl)⟩ (fun u_w H locs hw hP hD hS => ?_)
        obtain ⟨J_4, rfl⟩ : ∃ zζ, zζ = u_w := ⟨_, rfl⟩
        have hw_5 := hw
        have hP : va_P g.1 vwCl [(hζ, .inr (6, [.ref (Qζ 0), .ref (Qζ 1), .ref (Qζ 2), .ref (Qζ 3), .ref (Qζ 4), .ref (Qζ 5), .ref (Qζ 6), .ref (Qζ 7)])), aI g (Bζ 1) 10 (fun _ => 5), aI g (Bζ 3) 10 (fun _ => (-6)), aI g (Bζ 5) 8 (fun _ => 0), aI g (Bζ 6) 8 (fun _ => 0), ((Qζ 0), .inr (1, oC Aζ iC0)), aI g (Aζ 0) 121 (fun _ => 0), aI g (Aζ 1) 10 (fun _ => 5), aI g (Aζ 2) 10 (fun _ => 0), aI g (Aζ 3) 10 (fun _ => (-6)), aI g (Aζ 4) 10 (fun jζ => nI jζ), aI g (Aζ 5) 8 (fun _ => 0), aI g (Aζ 6) 8 (fun _ => 0), ((Qζ 1), .inr (1, oC Bζ J_4)), aI g (Bζ 0) 121 (fun _ => 0), aI g (Bζ 2) 10 (fun _ => 0), aI g (Bζ 4) 10 (fun jζ => nI jζ)] H := hP
        have hD : va_D Z [(hζ, .inr (6, [.ref (Qζ 0), .ref (Qζ 1), .ref (Qζ 2), .ref (Qζ 3), .ref (Qζ 4), .ref (Qζ 5), .ref (Qζ 6), .ref (Qζ 7)])), aI g (Bζ 1) 10 (fun _ => 5), aI g (Bζ 3) 10 (fun _ => (-6)), aI g (Bζ 5) 8 (fun _ => 0), aI g (Bζ 6) 8 (fun _ => 0), ((Qζ 0), .inr (1, oC Aζ iC0)), aI g (Aζ 0) 121 (fun _ => 0), aI g (Aζ 1) 10 (fun _ => 5), aI g (Aζ 2) 10 (fun _ => 0), aI g (Aζ 3) 10 (fun _ => (-6)), aI g (Aζ 4) 10 (fun jζ => nI jζ), aI g (Aζ 5) 8 (fun _ => 0), aI g (Aζ 6) 8 (fun _ => 0), ((Qζ 1), .inr (1, oC Bζ J_4)), aI g (Bζ 0) 121 (fun _ => 0), aI g (Bζ 2) 10 (fun _ => 0), aI g (Bζ 4) 10 (fun jζ => nI jζ)] := hD
        refine lv_iload_n hx hb dX6_year_53 rfl (lv_at hl 3 rfl) ?_
        by_cases k_6 : zζ = 0
        · refine gtop (y := 0) k_6 ?_
          refine lv_lookup (tgt := 80) (off := 26) hx hb dX6_year_54 (by decide) (by decide) (by decide) ?_
          refine lv_aload_n hx hb dX6_year_80 rfl (lv_at hl 0 rfl) ?_
          refine va_get (D := g.1) (ci := 6) (v := .ref (Qζ 1)) (C := RX6) (T := TX6) (N := 8) hx hb hts hi6 hown hK hP 0 rfl rfl 1 (by decide) (hts (.fieldLink RX6 16 "PanTales" "draft" "LPanTales$Close;") (by decide +kernel)) (fun _ h9 => h9) rfl dX6_year_81 ?_
          refine gcV_i (As := []) (rest := []) (ci := 1) (q := (RX1, TX1, 12)) F hK hN hP hD hS hA (c_X1_believers l g H.size (Qζ 1) Bζ J_4) gX6_year_X1_believers kX1_believers rfl rfl rfl rfl ⟨(Nat.le_of_ble_eq_true rfl), (Nat.le_of_ble_eq_true rfl)⟩ [13, 2] [0, 1, 3, 4, 5, 6, 7, 8, 9, 10, 11, 12, 14, 15, 16] rfl rfl rfl (by decide) rfl rfl rfl rfl rfl hl.1 (Nat.le_of_ble_eq_true rfl) dX6_year_84 ⟨(Nat.le_of_ble_eq_true rfl), (Nat.le_of_ble_eq_true rfl)⟩ (fun r_w u_w H locs hw hP hD hS => ?_)
          have hP : va_P g.1 vwCl [(hζ, .inr (6, [.ref (Qζ 0), .ref (Qζ 1), .ref (Qζ 2), .ref (Qζ 3), .ref (Qζ 4), .ref (Qζ 5), .ref (Qζ 6), .ref (Qζ 7)])), aI g (Bζ 1) 10 (fun _ => 5), aI g (Bζ 5) 8 (fun _ => 0), aI g (Bζ 6) 8 (fun _ => 0), ((Qζ 0), .inr (1, oC Aζ iC0)), aI g (Aζ 0) 121 (fun _ => 0), aI g (Aζ 1) 10 (fun _ => 5), aI g (Aζ 2) 10 (fun _ => 0), aI g (Aζ 3) 10 (fun _ => (-6)), aI g (Aζ 4) 10 (fun jζ => nI jζ), aI g (Aζ 5) 8 (fun _ => 0), aI g (Aζ 6) 8 (fun _ => 0), aI g (Bζ 0) 121 (fun _ => 0), aI g (Bζ 2) 10 (fun _ => 0), aI g (Bζ 4) 10 (fun jζ => nI jζ), ((Qζ 1), .inr (1, oC Bζ J_4)), aI g (Bζ 3) 10 (fun _ => (-6))] H := hP
          have hD : va_D Z [(hζ, .inr (6, [.ref (Qζ 0), .ref (Qζ 1), .ref (Qζ 2), .ref (Qζ 3), .ref (Qζ 4), .ref (Qζ 5), .ref (Qζ 6), .ref (Qζ 7)])), aI g (Bζ 1) 10 (fun _ => 5), aI g (Bζ 5) 8 (fun _ => 0), aI g (Bζ 6) 8 (fun _ => 0), ((Qζ 0), .inr (1, oC Aζ iC0)), aI g (Aζ 0) 121 (fun _ => 0), aI g (Aζ 1) 10 (fun _ => 5), aI g (Aζ 2) 10 (fun _ => 0), aI g (Aζ 3) 10 (fun _ => (-6)), aI g (Aζ 4) 10 (fun jζ => nI jζ), aI g (Aζ 5) 8 (fun _ => 0), aI g (Aζ 6) 8 (fun _ => 0), aI g (Bζ 0) 121 (fun _ => 0), aI g (Bζ 2) 10 (fun _ => 0), aI g (Bζ 4) 10 (fun jζ => nI jζ), ((Qζ 1), .inr (1, oC Bζ J_4)), aI g (Bζ 3) 10 (fun _ => (-6))] := hD
          obtain rfl := hw
          exact r_iret hx hb hr hlk hS () (by unfold yearF; rw [if_pos c_1, if_pos c_2, if_pos c_3, if_pos k_6]) (hP.sub [] rfl) (hD.sub [] (by decide) rfl) dX6_year_87
        by_cases k_7 : zζ = 1
        · refine gtop (y := 1) k_7 ?_
          refine lv_lookup (tgt := 88) (off := 34) hx hb dX6_year_54 (by decide) (by decide) (by decide) ?_
          refine lv_aload_n hx hb dX6_year_88 rfl (lv_at hl 0 rfl) ?_
          refine va_get (D := g.1) (ci := 6) (v := .ref (Qζ 1)) (C := RX6) (T := TX6) (N := 8) hx hb hts hi6 hown hK hP 0 rfl rfl 1 (by decide) (hts (.fieldLink RX6 16 "PanTales" "draft" "LPanTales$Close;") (by decide +kernel)) (fun _ h9 => h9) rfl dX6_year_89 ?_
          refine gcV_i (As := []) (rest := []) (ci := 1) (q := (RX1, TX1, 12)) F hK hN hP hD hS hA (c_X1_talesBelieved l g H.size (Qζ 1) Bζ J_4) gX6_year_X1_talesBelieved kX1_talesBelieved rfl rfl rfl rfl ⟨(Nat.le_of_ble_eq_true rfl), (Nat.le_of_ble_eq_true rfl)⟩ [13, 2] [0, 1, 3, 4, 5, 6, 7, 8, 9, 10, 11, 12, 14, 15, 16] rfl rfl rfl (by decide) rfl rfl rfl rfl rfl hl.1 (Nat.le_of_ble_eq_true rfl) dX6_year_92 ⟨(Nat.le_of_ble_eq_true rfl), (Nat.le_of_ble_eq_true rfl)⟩ (fun r_w u_w H locs hw hP hD hS => ?_)
          have hP : va_P g.1 vwCl [(hζ, .inr (6, [.ref (Qζ 0), .ref (Qζ 1), .ref (Qζ 2), .ref (Qζ 3), .ref (Qζ 4), .ref (Qζ 5), .ref (Qζ 6), .ref (Qζ 7)])), aI g (Bζ 1) 10 (fun _ => 5), aI g (Bζ 5) 8 (fun _ => 0), aI g (Bζ 6) 8 (fun _ => 0), ((Qζ 0), .inr (1, oC Aζ iC0)), aI g (Aζ 0) 121 (fun _ => 0), aI g (Aζ 1) 10 (fun _ => 5), aI g (Aζ 2) 10 (fun _ => 0), aI g (Aζ 3) 10 (fun _ => (-6)), aI g (Aζ 4) 10 (fun jζ => nI jζ), aI g (Aζ 5) 8 (fun _ => 0), aI g (Aζ 6) 8 (fun _ => 0), aI g (Bζ 0) 121 (fun _ => 0), aI g (Bζ 2) 10 (fun _ => 0), aI g (Bζ 4) 10 (fun jζ => nI jζ), ((Qζ 1), .inr (1, oC Bζ J_4)), aI g (Bζ 3) 10 (fun _ => (-6))] H := hP
          have hD : va_D Z [(hζ, .inr (6, [.ref (Qζ 0), .ref (Qζ 1), .ref (Qζ 2), .ref (Qζ 3), .ref (Qζ 4), .ref (Qζ 5), .ref (Qζ 6), .ref (Qζ 7)])), aI g (Bζ 1) 10 (fun _ => 5), aI g (Bζ 5) 8 (fun _ => 0), aI g (Bζ 6) 8 (fun _ => 0), ((Qζ 0), .inr (1, oC Aζ iC0)), aI g (Aζ 0) 121 (fun _ => 0), aI g (Aζ 1) 10 (fun _ => 5), aI g (Aζ 2) 10 (fun _ => 0), aI g (Aζ 3) 10 (fun _ => (-6)), aI g (Aζ 4) 10 (fun jζ => nI jζ), aI g (Aζ 5) 8 (fun _ => 0), aI g (Aζ 6) 8 (fun _ => 0), aI g (Bζ 0) 121 (fun _ => 0), aI g (Bζ 2) 10 (fun _ => 0), aI g (Bζ 4) 10 (fun jζ => nI jζ), ((Qζ 1), .inr (1, oC Bζ J_4)), aI g (Bζ 3) 10 (fun _ => (-6))] := hD
          obtain rfl := hw
          exact r_iret hx hb hr hlk hS () (by unfold yearF; rw [if_pos c_1, if_pos c_2, if_pos c_3, if_neg k_6, if_pos k_7]) (hP.sub [] rfl) (hD.sub [] (by decide) rfl) dX6_year_95
        refine lv_lookup (tgt := 96) (off := 42) hx hb dX6_year_54 (by decide) (by show (if (0 : Int) = (zζ : Int32).toInt then (26 : Int) else if (1 : Int) = (zζ : Int32).toInt then (34 : Int) else 42) = (42 : Int); rw [if_neg (sw_ne k_6 (by decide)), if_neg (sw_ne k_7 (by decide))]) (by decide) ?_
        refine lv_aload_n hx hb dX6_year_96 rfl (lv_at hl 0 rfl) ?_
        refine va_get (D := g.1) (ci := 6) (v := .ref (Qζ 1)) (C := RX6) (T := TX6) (N := 8) hx hb hts hi6 hown hK hP 0 rfl rfl 1 (by decide) (hts (.fieldLink RX6 16 "PanTales" "draft" "LPanTales$Close;") (by decide +kernel)) (fun _ h9 => h9) rfl dX6_year_97 ?_
        refine gcV_i (As := []) (rest := []) (ci := 1) (q := (RX1, TX1, 12)) F hK hN hP hD hS hA (c_X1_allDoubt l g H.size (Qζ 1) Bζ J_4) gX6_year_X1_allDoubt kX1_allDoubt rfl rfl rfl rfl ⟨(Nat.le_of_ble_eq_true rfl), (Nat.le_of_ble_eq_true rfl)⟩ [13, 1] [0, 2, 3, 4, 5, 6, 7, 8, 9, 10, 11, 12, 14, 15, 16] rfl rfl rfl (by decide) rfl rfl rfl rfl rfl hl.1 (Nat.le_of_ble_eq_true rfl) dX6_year_100 ⟨(Nat.le_of_ble_eq_true rfl), (Nat.le_of_ble_eq_true rfl)⟩ (fun r_w u_w H locs hw hP hD hS => ?_)
        have hP : va_P g.1 vwCl [(hζ, .inr (6, [.ref (Qζ 0), .ref (Qζ 1), .ref (Qζ 2), .ref (Qζ 3), .ref (Qζ 4), .ref (Qζ 5), .ref (Qζ 6), .ref (Qζ 7)])), aI g (Bζ 3) 10 (fun _ => (-6)), aI g (Bζ 5) 8 (fun _ => 0), aI g (Bζ 6) 8 (fun _ => 0), ((Qζ 0), .inr (1, oC Aζ iC0)), aI g (Aζ 0) 121 (fun _ => 0), aI g (Aζ 1) 10 (fun _ => 5), aI g (Aζ 2) 10 (fun _ => 0), aI g (Aζ 3) 10 (fun _ => (-6)), aI g (Aζ 4) 10 (fun jζ => nI jζ), aI g (Aζ 5) 8 (fun _ => 0), aI g (Aζ 6) 8 (fun _ => 0), aI g (Bζ 0) 121 (fun _ => 0), aI g (Bζ 2) 10 (fun _ => 0), aI g (Bζ 4) 10 (fun jζ => nI jζ), ((Qζ 1), .inr (1, oC Bζ J_4)), aI g (Bζ 1) 10 (fun _ => 5)] H := hP
        have hD : va_D Z [(hζ, .inr (6, [.ref (Qζ 0), .ref (Qζ 1), .ref (Qζ 2), .ref (Qζ 3), .ref (Qζ 4), .ref (Qζ 5), .ref (Qζ 6), .ref (Qζ 7)])), aI g (Bζ 3) 10 (fun _ => (-6)), aI g (Bζ 5) 8 (fun _ => 0), aI g (Bζ 6) 8 (fun _ => 0), ((Qζ 0), .inr (1, oC Aζ iC0)), aI g (Aζ 0) 121 (fun _ => 0), aI g (Aζ 1) 10 (fun _ => 5), aI g (Aζ 2) 10 (fun _ => 0), aI g (Aζ 3) 10 (fun _ => (-6)), aI g (Aζ 4) 10 (fun jζ => nI jζ), aI g (Aζ 5) 8 (fun _ => 0), aI g (Aζ 6) 8 (fun _ => 0), aI g (Bζ 0) 121 (fun _ => 0), aI g (Bζ 2) 10 (fun _ => 0), aI g (Bζ 4) 10 (fun jζ => nI jζ), ((Qζ 1), .inr (1, oC Bζ J_4)), aI g (Bζ 1) 10 (fun _ => 5)] := hD
        obtain rfl := hw
        exact r_iret hx hb hr hlk hS () (by unfold yearF; rw [if_pos c_1, if_pos c_2, if_pos c_3, if_neg k_6, if_neg k_7]) (hP.sub [] rfl) (hD.sub [] (by decide) rfl) dX6_year_103
      · have c_3 : inB zζ 0 2 = false := bI_0 c_3
        refine lv_bipush (v := (-2)) hx hb dX6_year_30 (by decide) ?_
        exact r_iret hx hb hr hlk hS () (by unfold yearF; rw [if_pos c_1, if_pos c_2, if_neg (bF c_3)]) (hP.sub [] rfl) (hD.sub [] (by decide) rfl) dX6_year_32

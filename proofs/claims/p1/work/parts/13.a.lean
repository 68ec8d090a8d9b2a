theorem kX7_cooled : YOk yX7_cooled 2 := by decide +kernel
theorem kX7_hottest : YOk yX7_hottest 2 := by decide +kernel
theorem kX7_findHot : YOk yX7_findHot 2 := by decide +kernel
theorem kX7_round : YOk yX7_round 2 := by decide +kernel
theorem kX7_around : YOk yX7_around 1 := by decide +kernel
theorem kX7_isKept : YOk yX7_isKept 2 := by decide +kernel
theorem kX7_keep : YOk yX7_keep 2 := by decide +kernel
set_option maxHeartbeats 4000000 in
set_option maxRecDepth 100000 in
theorem c_X7_cooled (l : Launch) (xζ yζ : Int32) : Cp l yX7_cooled wsX7_cooled { frames := 0, cells := 0, slots := 0, locals := 0 } [.int xζ, .int yζ] (if yζ < xζ then xζ - yζ else 0) := by
  refine gMet_p (cc := cX7_cooled) (maxL := 2) (ret := (some .int)) (by decide) rfl (Nat.le_of_ble_eq_true rfl) ?_
  intro p e s m args below meth c hx hb hr F hlk ls hl
  have hl : lv_has ls 2 [(0, .int xζ), (1, .int yζ)] := hl
  have F : CallFix p m c cX7_cooled 2 s args wsX7_cooled RX7 := F
  have hts := F.2.2.2.2
  have hown : s.vm.findClass RX7 = some m.cls := F.2.2.2.1
  refine lv_iload_n hx hb dX7_cooled_0 rfl (lv_at hl 0 rfl) ?_
  refine lv_iload_n hx hb dX7_cooled_1 rfl (lv_at hl 1 rfl) ?_
  refine lv_icmp_le (tgt := 11) hx hb dX7_cooled_2 (by decide) (fun c_1 => ?_) (fun c_1 => ?_)
  · refine lv_iconst (v := 0) hx hb dX7_cooled_11 (by decide) ?_
    exact r_pret hx hb hr hlk (by rw [if_neg (Int32.not_lt.mpr c_1)]) dX7_cooled_12
  · refine lv_iload_n hx hb dX7_cooled_5 rfl (lv_at hl 0 rfl) ?_
    refine lv_iload_n hx hb dX7_cooled_6 rfl (lv_at hl 1 rfl) ?_
    refine lv_isub hx hb dX7_cooled_7 ?_
    refine lv_goto (tgt := 12) hx hb dX7_cooled_8 (by decide) ?_
    exact r_pret hx hb hr hlk (by rw [if_pos (Int32.not_le.mp c_1)]) dX7_cooled_12
set_option maxHeartbeats 4000000 in
set_option maxRecDepth 100000 in
theorem c_X7_hottest (l : Launch) (g : GT) (sz : Nat) (hζ : Nat) (Aζ : Nat → Nat) (Iζ : Nat → Int32) (s0ζ l0ζ bζ : Nat) (hs0ζ : s0ζ < 1024) (hl0ζ : l0ζ < 10) (hbtζ : 10 * s0ζ ≤ bζ) (hbitζ : ((nI s0ζ >>> (nI l0ζ &&& 31)) &&& 1) = 1) : Ci l yX7_hottest wsX7_hottest { frames := 0, cells := 0, slots := 0, locals := 0 } g sz [.ref hζ, .int (nI s0ζ), .int (nI l0ζ)] [(hζ, .inr (7, oM Aζ Iζ)), aI g (Aζ 24) 121 lsF, aI g (Aζ 25) 10240 (htG (bζ))] (-6) [(hζ, .inr (7, oM Aζ Iζ)), aI g (Aζ 24) 121 lsF, aI g (Aζ 25) 10240 (htG (bζ))] := by
  refine gMet_i (cc := cX7_hottest) (maxL := 8) (ret := (some .int)) (by decide) rfl (Nat.le_of_ble_eq_true rfl) ?_
  intro p e s m args below meth c Z hx hb hr F hlk hnm hK hN hA H locs hP hD hS ls hl
  have hl : lv_has ls 8 [(0, .ref hζ), (1, .int (nI s0ζ)), (2, .int (nI l0ζ))] := hl
  have F : CallFix p m c cX7_hottest 8 s args wsX7_hottest RX7 := F
  have hts := F.2.2.2.2
  have hown : s.vm.findClass RX7 = some m.cls := F.2.2.2.1
  have hi7 : ∀ w ∈ u_ws RX7 TX7 34, w ∈ wsX7_hottest := by decide +kernel
  have hpwζ : 1 ≤ 2 ^ l0ζ := Nat.one_le_two_pow
  refine lv_iload_n hx hb dX7_hottest_0 rfl (lv_at hl 1 rfl) ?_
  refine lv_iconst (v := 1) hx hb dX7_hottest_1 (by decide) ?_
  refine lv_iload_n hx hb dX7_hottest_2 rfl (lv_at hl 2 rfl) ?_
  refine lv_ishl hx hb dX7_hottest_3 ?_
  refine lv_iconst (v := (-1)) hx hb dX7_hottest_4 (by decide) ?_
  refine lv_ixor hx hb dX7_hottest_5 ?_
  refine lv_iand hx hb dX7_hottest_6 ?_
  refine gtop (y := nI (s0ζ - 2 ^ l0ζ)) (hr_set hs0ζ hl0ζ hbitζ) ?_
  refine lv_istore_n (lv' := [(3, .int (nI (s0ζ - 2 ^ l0ζ))), (0, .ref hζ), (1, .int (nI s0ζ)), (2, .int (nI l0ζ))]) hx hb dX7_hottest_7 rfl hl (by decide) rfl (fun ls hl => ?_)
  refine lv_iload_n hx hb dX7_hottest_8 rfl (lv_at hl 0 rfl) ?_
  refine lv_if_ne (tgt := 15) hx hb dX7_hottest_9 (by decide) (fun c_1 => ?_) (fun c_1 => ?_)
  · have c_1 : ¬ (s0ζ - 2 ^ l0ζ) = 0 := fun z => c_1 ((nI_eq (a := (s0ζ - 2 ^ l0ζ)) (b := 0) (by omega) (by omega)).mpr z)
    refine lv_bipush (v := (-6)) hx hb dX7_hottest_15 (by decide) ?_
    refine lv_istore (lv' := [(4, .int (-6)), (3, .int (nI (s0ζ - 2 ^ l0ζ))), (0, .ref hζ), (1, .int (nI s0ζ)), (2, .int (nI l0ζ))]) hx hb dX7_hottest_17 hl (by decide) rfl (fun ls hl => ?_)
    refine lv_iconst (v := 0) hx hb dX7_hottest_19 (by decide) ?_
    refine lv_istore (lv' := [(5, .int 0), (4, .int (-6)), (3, .int (nI (s0ζ - 2 ^ l0ζ))), (0, .ref hζ), (1, .int (nI s0ζ)), (2, .int (nI l0ζ))]) hx hb dX7_hottest_20 hl (by decide) rfl (fun ls hl => ?_)
    refine gloop (σ := Nat) (fun u0 => 10 - u0) (fun u0 => u0 ≤ 10) (fun u0 => [(hζ, .inr (7, oM Aζ Iζ)), aI g (Aζ 24) 121 lsF, aI g (Aζ 25) 10240 (htG (bζ))]) (fun u0 => [(5, .int (nI u0)), (4, .int (-6)), (3, .int (nI (s0ζ - 2 ^ l0ζ))), (0, .ref hζ), (1, .int (nI s0ζ)), (2, .int (nI l0ζ))]) ?_ 0 (by first | omega | decide | rfl) (hP.sub [0, 1, 2] rfl) (hD.sub [0, 1, 2] (by decide) rfl) hS (lv_sub hl [0, 1, 2, 3, 4, 5] rfl)
    rintro iζ hiζ ih22 H locs ls hP hD hS hl
    have hiζ : iζ ≤ 10 := hiζ
    have hP : va_P g.1 vwCl [(hζ, .inr (7, oM Aζ Iζ)), aI g (Aζ 24) 121 lsF, aI g (Aζ 25) 10240 (htG (bζ))] H := hP
    have hD : va_D Z [(hζ, .inr (7, oM Aζ Iζ)), aI g (Aζ 24) 121 lsF, aI g (Aζ 25) 10240 (htG (bζ))] := hD
    have hl : lv_has ls 8 [(5, .int (nI iζ)), (4, .int (-6)), (3, .int (nI (s0ζ - 2 ^ l0ζ))), (0, .ref hζ), (1, .int (nI s0ζ)), (2, .int (nI l0ζ))] := hl
    refine lv_iload hx hb dX7_hottest_22 (lv_at hl 0 rfl) ?_
    refine lv_bipush (v := 10) hx hb dX7_hottest_24 (by decide) ?_
    refine lv_icmp_ge (tgt := 114) hx hb dX7_hottest_26 (by decide) (fun c_2 => ?_) (fun c_2 => ?_)
    · have c_2 : 10 ≤ iζ := (nI_leI (a := 10) (b := iζ) (by omega) (by omega)).mp c_2
      refine lv_iload hx hb dX7_hottest_114 (lv_at hl 1 rfl) ?_
      exact r_iret hx hb hr hlk hS () rfl (hP.sub [0, 1, 2] rfl) (hD.sub [0, 1, 2] (by decide) rfl) dX7_hottest_116
    · have c_2 : ¬ 10 ≤ iζ := fun z => c_2 ((nI_leI (a := 10) (b := iζ) (by omega) (by omega)).mpr z)
      refine lv_iload_n hx hb dX7_hottest_29 rfl (lv_at hl 2 rfl) ?_
      refine lv_iload hx hb dX7_hottest_30 (lv_at hl 0 rfl) ?_
      refine lv_ishr hx hb dX7_hottest_32 ?_
      refine lv_iconst (v := 1) hx hb dX7_hottest_33 (by decide) ?_
      refine lv_iand hx hb dX7_hottest_34 ?_
      refine lv_iconst (v := 1) hx hb dX7_hottest_35 (by decide) ?_
      refine lv_icmp_ne (tgt := 54) hx hb dX7_hottest_36 (by decide) (fun c_3 => ?_) (fun c_3 => ?_)
      · refine lv_bipush (v := (-6)) hx hb dX7_hottest_54 (by decide) ?_
        refine lv_istore (lv' := [(6, .int (-6)), (5, .int (nI iζ)), (4, .int (-6)), (3, .int (nI (s0ζ - 2 ^ l0ζ))), (0, .ref hζ), (1, .int (nI s0ζ)), (2, .int (nI l0ζ))]) hx hb dX7_hottest_56 hl (by decide) rfl (fun ls hl => ?_)
        refine lv_iload hx hb dX7_hottest_58 (lv_at hl 0 rfl) ?_
        refine lv_if_ge (tgt := 68) hx hb dX7_hottest_60 (by decide) (fun c_4 => ?_) (fun c_4 => ?_)
        · exact absurd c_4 (by decide)
        · refine lv_bipush (v := (-6)) hx hb dX7_hottest_63 (by decide) ?_
          refine lv_goto (tgt := 90) hx hb dX7_hottest_65 (by decide) ?_
          refine lv_istore (lv' := [(7, .int (-6)), (6, .int (-6)), (5, .int (nI iζ)), (4, .int (-6)), (3, .int (nI (s0ζ - 2 ^ l0ζ))), (0, .ref hζ), (1, .int (nI s0ζ)), (2, .int (nI l0ζ))]) hx hb dX7_hottest_90 hl (by decide) rfl (fun ls hl => ?_)
          refine lv_iload hx hb dX7_hottest_92 (lv_at hl 0 rfl) ?_
          refine lv_iload hx hb dX7_hottest_94 (lv_at hl 3 rfl) ?_
          refine lv_icmp_le (tgt := 104) hx hb dX7_hottest_96 (by decide) (fun c_5 => ?_) (fun c_5 => ?_)
          · refine lv_iload hx hb dX7_hottest_104 (lv_at hl 3 rfl) ?_
            refine lv_istore (lv' := [(4, .int (-6)), (7, .int (-6)), (6, .int (-6)), (5, .int (nI iζ)), (3, .int (nI (s0ζ - 2 ^ l0ζ))), (0, .ref hζ), (1, .int (nI s0ζ)), (2, .int (nI l0ζ))]) hx hb dX7_hottest_106 hl (by decide) rfl (fun ls hl => ?_)
            refine lv_iinc (v := nI (iζ + 1)) (lv' := [(5, .int (nI (iζ + 1))), (4, .int (-6)), (7, .int (-6)), (6, .int (-6)), (3, .int (nI (s0ζ - 2 ^ l0ζ))), (0, .ref hζ), (1, .int (nI s0ζ)), (2, .int (nI l0ζ))]) hx hb dX7_hottest_108 hl (k := 3) rfl (nI_1 iζ) (by decide) rfl (fun ls hl => ?_)
            refine lv_goto (tgt := 22) hx hb dX7_hottest_111 (by decide) ?_
            exact ih22 (iζ + 1) (by first | omega | (dsimp only; omega)) (by first | omega | (dsimp only; omega)) _ _ _ (hP.sub [0, 1, 2] rfl) (hD.sub [0, 1, 2] (by decide) rfl) hS (lv_sub hl [0, 1, 4, 5, 6, 7] rfl)
          · exact absurd (by decide) c_5
      · refine lv_aload_n hx hb dX7_hottest_39 rfl (lv_at hl 3 rfl) ?_
        refine va_get (D := g.1) (ci := 7) (v := .ref (Aζ 25)) (C := RX7) (T := TX7) (N := 34) hx hb hts hi7 hown hK hP 0 rfl rfl 25 (by decide) (hts (.fieldLink RX7 49 "PanTalesModel" "hot" "[I") (by decide +kernel)) (fun _ h9 => h9) rfl dX7_hottest_40 ?_
        refine lv_bipush (v := 10) hx hb dX7_hottest_43 (by decide) ?_
        refine lv_iload_n hx hb dX7_hottest_45 rfl (lv_at hl 2 rfl) ?_
        refine lv_imul hx hb dX7_hottest_46 ?_
        refine gtop (y := nI (10 * (s0ζ - 2 ^ l0ζ))) (pk_mul 10 (s0ζ - 2 ^ l0ζ)) ?_
        refine lv_iload hx hb dX7_hottest_47 (lv_at hl 0 rfl) ?_
        refine lv_iadd hx hb dX7_hottest_49 ?_
        refine gtop (y := nI ((10 * (s0ζ - 2 ^ l0ζ)) + iζ)) (nI_add (10 * (s0ζ - 2 ^ l0ζ)) iζ) ?_
        refine r_iald (v := (-6)) hx hb hK hP 2 rfl (vp_in_nI (n := (10 * (s0ζ - 2 ^ l0ζ)) + iζ) (by omega) (by omega)) (ht_v (nI_clamp (n := (10 * (s0ζ - 2 ^ l0ζ)) + iζ) (by omega)) (by omega) (by omega)) dX7_hottest_50 ?_
        refine lv_goto (tgt := 56) hx hb dX7_hottest_51 (by decide) ?_
        refine lv_istore (lv' := [(6, .int (-6)), (5, .int (nI iζ)), (4, .int (-6)), (3, .int (nI (s0ζ - 2 ^ l0ζ))), (0, .ref hζ), (1, .int (nI s0ζ)), (2, .int (nI l0ζ))]) hx hb dX7_hottest_56 hl (by decide) rfl (fun ls hl => ?_)
        refine lv_iload hx hb dX7_hottest_58 (lv_at hl 0 rfl) ?_
        refine lv_if_ge (tgt := 68) hx hb dX7_hottest_60 (by decide) (fun c_6 => ?_) (fun c_6 => ?_)
        · exact absurd c_6 (by decide)
        · refine lv_bipush (v := (-6)) hx hb dX7_hottest_63 (by decide) ?_
          refine lv_goto (tgt := 90) hx hb dX7_hottest_65 (by decide) ?_
          refine lv_istore (lv' := [(7, .int (-6)), (6, .int (-6)), (5, .int (nI iζ)), (4, .int (-6)), (3, .int (nI (s0ζ - 2 ^ l0ζ))), (0, .ref hζ), (1, .int (nI s0ζ)), (2, .int (nI l0ζ))]) hx hb dX7_hottest_90 hl (by decide) rfl (fun ls hl => ?_)
          refine lv_iload hx hb dX7_hottest_92 (lv_at hl 0 rfl) ?_
          refine lv_iload hx hb dX7_hottest_94 (lv_at hl 3 rfl) ?_
          refine lv_icmp_le (tgt := 104) hx hb dX7_hottest_96 (by decide) (fun c_7 => ?_) (fun c_7 => ?_)
          · refine lv_iload hx hb dX7_hottest_104 (lv_at hl 3 rfl) ?_
            refine lv_istore (lv' := [(4, .int (-6)), (7, .int (-6)), (6, .int (-6)), (5, .int (nI iζ)), (3, .int (nI (s0ζ - 2 ^ l0ζ))), (0, .ref hζ), (1, .int (nI s0ζ)), (2, .int (nI l0ζ))]) hx hb dX7_hottest_106 hl (by decide) rfl (fun ls hl => ?_)
            refine lv_iinc (v := nI (iζ + 1)) (lv' := [(5, .int (nI (iζ + 1))), (4, .int (-6)), (7, .int (-6)), (6, .int (-6)), (3, .int (nI (s0ζ - 2 ^ l0ζ))), (0, .ref hζ), (1, .int (nI s0ζ)), (2, .int (nI l0ζ))]) hx hb dX7_hottest_108 hl (k := 3) rfl (nI_1 iζ) (by decide) rfl (fun ls hl => ?_)
            refine lv_goto (tgt := 22) hx hb dX7_hottest_111 (by decide) ?_
            exact ih22 (iζ + 1) (by first | omega | (dsimp only; omega)) (by first | omega | (dsimp only; omega)) _ _ _ (hP.sub [0, 1, 2] rfl) (hD.sub [0, 1, 2] (by decide) rfl) hS (lv_sub hl [0, 1, 4, 5, 6, 7] rfl)
          · exact absurd (by decide) c_7
  · have c_1 : (s0ζ - 2 ^ l0ζ) = 0 := (nI_eq (a := (s0ζ - 2 ^ l0ζ)) (b := 0) (by omega) (by omega)).mp c_1
    refine lv_bipush (v := (-6)) hx hb dX7_hottest_12 (by decide) ?_
    exact r_iret hx hb hr hlk hS () rfl (hP.sub [0, 1, 2] rfl) (hD.sub [0, 1, 2] (by decide) rfl) dX7_hottest_14
set_option maxHeartbeats 4000000 in
set_option maxRecDepth 100000 in
theorem c_X7_findHot (l : Launch) (g : GT) (sz : Nat) (hζ : Nat) (Aζ : Nat → Nat) (Iζ : Nat → Int32) (s0ζ t0ζ : Nat) (hs1ζ : 1 ≤ s0ζ) (hs0ζ : s0ζ < 1024) (ht0ζ : t0ζ < 100) : Ci l yX7_findHot wsX7_findHot { frames := 1, cells := 0, slots := 0, locals := 27 } g sz [.ref hζ, .int (nI s0ζ), .int (nI t0ζ)] [(hζ, .inr (7, oM Aζ Iζ)), aI g (Aζ 1) 10 (fun _ => 5), aI g (Aζ 2) 10 (fun _ => 0), aI g (Aζ 24) 121 lsF, aI g (Aζ 25) 10240 (htG (10 * s0ζ))] 0 [(hζ, .inr (7, oM Aζ Iζ)), aI g (Aζ 1) 10 (fun _ => 5), aI g (Aζ 2) 10 (fun _ => 0), aI g (Aζ 24) 121 lsF, aI g (Aζ 25) 10240 (htG (10 * s0ζ + 10))] := by
  refine gMet_i (cc := cX7_findHot) (maxL := 8) (ret := (some .boolean)) (by decide) rfl (Nat.le_of_ble_eq_true rfl) ?_
  intro p e s m args below meth c Z hx hb hr F hlk hnm hK hN hA H locs hP hD hS ls hl
  have hl : lv_has ls 8 [(0, .ref hζ), (1, .int (nI s0ζ)), (2, .int (nI t0ζ))] := hl
  have F : CallFix p m c cX7_findHot 8 s args wsX7_findHot RX7 := F
  have hts := F.2.2.2.2
  have hown : s.vm.findClass RX7 = some m.cls := F.2.2.2.1
  have hi7 : ∀ w ∈ u_ws RX7 TX7 34, w ∈ wsX7_findHot := by decide +kernel
  refine lv_iconst (v := 0) hx hb dX7_findHot_0 (by decide) ?_
  refine lv_istore_n (lv' := [(3, .int 0), (0, .ref hζ), (1, .int (nI s0ζ)), (2, .int (nI t0ζ))]) hx hb dX7_findHot_1 rfl hl (by decide) rfl (fun ls hl => ?_)
  refine lv_iconst (v := 0) hx hb dX7_findHot_2 (by decide) ?_
  refine lv_istore (lv' := [(4, .int 0), (3, .int 0), (0, .ref hζ), (1, .int (nI s0ζ)), (2, .int (nI t0ζ))]) hx hb dX7_findHot_3 hl (by decide) rfl (fun ls hl => ?_)
  refine gloop (σ := Nat) (fun u0 => 10 - u0) (fun u0 => u0 ≤ 10) (fun u0 => [(hζ, .inr (7, oM Aζ Iζ)), aI g (Aζ 1) 10 (fun _ => 5), aI g (Aζ 2) 10 (fun _ => 0), aI g (Aζ 24) 121 lsF, aI g (Aζ 25) 10240 (htG (10 * s0ζ + u0))]) (fun u0 => [(4, .int (nI u0)), (3, .int 0), (0, .ref hζ), (1, .int (nI s0ζ)), (2, .int (nI t0ζ))]) ?_ 0 (by first | omega | decide | rfl) (hP.sub [0, 1, 2, 3, 4] rfl) (hD.sub [0, 1, 2, 3, 4] (by decide) rfl) hS (lv_sub hl [0, 1, 2, 3, 4] rfl)
  rintro l0ζ hl0ζ ih5 H locs ls hP hD hS hl
  have hl0ζ : l0ζ ≤ 10 := hl0ζ
  have hP : va_P g.1 vwCl [(hζ, .inr (7, oM Aζ Iζ)), aI g (Aζ 1) 10 (fun _ => 5), aI g (Aζ 2) 10 (fun _ => 0), aI g (Aζ 24) 121 lsF, aI g (Aζ 25) 10240 (htG (10 * s0ζ + l0ζ))] H := hP
  have hD : va_D Z [(hζ, .inr (7, oM Aζ Iζ)), aI g (Aζ 1) 10 (fun _ => 5), aI g (Aζ 2) 10 (fun _ => 0), aI g (Aζ 24) 121 lsF, aI g (Aζ 25) 10240 (htG (10 * s0ζ + l0ζ))] := hD
  have hl : lv_has ls 8 [(4, .int (nI l0ζ)), (3, .int 0), (0, .ref hζ), (1, .int (nI s0ζ)), (2, .int (nI t0ζ))] := hl
  refine lv_iload hx hb dX7_findHot_5 (lv_at hl 0 rfl) ?_
  refine lv_bipush (v := 10) hx hb dX7_findHot_7 (by decide) ?_
  refine lv_icmp_ge (tgt := 126) hx hb dX7_findHot_9 (by decide) (fun c_1 => ?_) (fun c_1 => ?_)
  · have c_1 : 10 ≤ l0ζ := (nI_leI (a := 10) (b := l0ζ) (by omega) (by omega)).mp c_1
    obtain rfl : l0ζ = 10 := by omega
    skip
    refine lv_iload_n hx hb dX7_findHot_126 rfl (lv_at hl 1 rfl) ?_
    exact r_zret hx hb hr hlk hS () (by decide) rfl (hP.sub [0, 1, 2, 3, 4] rfl) (hD.sub [0, 1, 2, 3, 4] (by decide) rfl) dX7_findHot_127
  · have c_1 : ¬ 10 ≤ l0ζ := fun z => c_1 ((nI_leI (a := 10) (b := l0ζ) (by omega) (by omega)).mpr z)
    refine lv_iload_n hx hb dX7_findHot_12 rfl (lv_at hl 3 rfl) ?_
    refine lv_iload hx hb dX7_findHot_13 (lv_at hl 0 rfl) ?_
    refine lv_ishr hx hb dX7_findHot_15 ?_
    refine lv_iconst (v := 1) hx hb dX7_findHot_16 (by decide) ?_
    refine lv_iand hx hb dX7_findHot_17 ?_
    refine lv_iconst (v := 1) hx hb dX7_findHot_18 (by decide) ?_
    refine lv_icmp_ne (tgt := 26) hx hb dX7_findHot_19 (by decide) (fun c_2 => ?_) (fun c_2 => ?_)
    · refine lv_iconst (v := 0) hx hb dX7_findHot_26 (by decide) ?_
      refine lv_istore (lv' := [(5, .int 0), (4, .int (nI l0ζ)), (3, .int 0), (0, .ref hζ), (1, .int (nI s0ζ)), (2, .int (nI t0ζ))]) hx hb dX7_findHot_27 hl (by decide) rfl (fun ls hl => ?_)
      refine lv_iload_n hx hb dX7_findHot_29 rfl (lv_at hl 4 rfl) ?_
      refine lv_iconst (v := 1) hx hb dX7_findHot_30 (by decide) ?_
      refine lv_iload hx hb dX7_findHot_31 (lv_at hl 1 rfl) ?_
      refine lv_ishl hx hb dX7_findHot_33 ?_
      refine lv_icmp_ne (tgt := 41) hx hb dX7_findHot_34 (by decide) (fun c_3 => ?_) (fun c_3 => ?_)
      · refine lv_iconst (v := 0) hx hb dX7_findHot_41 (by decide) ?_
        refine lv_istore (lv' := [(6, .int 0), (5, .int 0), (4, .int (nI l0ζ)), (3, .int 0), (0, .ref hζ), (1, .int (nI s0ζ)), (2, .int (nI t0ζ))]) hx hb dX7_findHot_42 hl (by decide) rfl (fun ls hl => ?_)
        refine lv_iload hx hb dX7_findHot_44 (lv_at hl 0 rfl) ?_
        refine lv_if_eq (tgt := 72) hx hb dX7_findHot_46 (by decide) (fun c_4 => ?_) (fun c_4 => ?_)
        · refine lv_iload hx hb dX7_findHot_72 (lv_at hl 1 rfl) ?_
          refine lv_if_eq (tgt := 87) hx hb dX7_findHot_74 (by decide) (fun c_5 => ?_) (fun c_5 => ?_)
          · refine lv_bipush (v := (-6)) hx hb dX7_findHot_87 (by decide) ?_
            refine lv_istore (lv' := [(7, .int (-6)), (6, .int 0), (5, .int 0), (4, .int (nI l0ζ)), (3, .int 0), (0, .ref hζ), (1, .int (nI s0ζ)), (2, .int (nI t0ζ))]) hx hb dX7_findHot_89 hl (by decide) rfl (fun ls hl => ?_)
            refine lv_aload_n hx hb dX7_findHot_91 rfl (lv_at hl 5 rfl) ?_
            refine va_get (D := g.1) (ci := 7) (v := .ref (Aζ 25)) (C := RX7) (T := TX7) (N := 34) hx hb hts hi7 hown hK hP 0 rfl rfl 25 (by decide) (hts (.fieldLink RX7 49 "PanTalesModel" "hot" "[I") (by decide +kernel)) (fun _ h9 => h9) rfl dX7_findHot_92 ?_
            refine lv_bipush (v := 10) hx hb dX7_findHot_95 (by decide) ?_
            refine lv_iload_n hx hb dX7_findHot_97 rfl (lv_at hl 6 rfl) ?_
            refine lv_imul hx hb dX7_findHot_98 ?_
            refine gtop (y := nI (10 * s0ζ)) (pk_mul 10 s0ζ) ?_
            refine lv_iload hx hb dX7_findHot_99 (lv_at hl 3 rfl) ?_
            refine lv_iadd hx hb dX7_findHot_101 ?_
            refine gtop (y := nI ((10 * s0ζ) + l0ζ)) (nI_add (10 * s0ζ) l0ζ) ?_
            refine lv_iload hx hb dX7_findHot_102 (lv_at hl 0 rfl) ?_
            refine r_iast (f' := htG (10 * s0ζ + (l0ζ + 1))) hx hb hK hP hD hS 4 rfl (vp_in_nI (n := (10 * s0ζ) + l0ζ) (by omega) (by omega)) (ht_s hs1ζ (nI_clamp (n := 10 * s0ζ + l0ζ) (by omega))) dX7_findHot_104 (fun H locs hP hD hS => ?_)
            have hP : va_P g.1 vwCl [(hζ, .inr (7, oM Aζ Iζ)), aI g (Aζ 1) 10 (fun _ => 5), aI g (Aζ 2) 10 (fun _ => 0), aI g (Aζ 24) 121 lsF, aI g (Aζ 25) 10240 (htG (10 * s0ζ + (l0ζ + 1)))] H := hP
            have hD : va_D Z [(hζ, .inr (7, oM Aζ Iζ)), aI g (Aζ 1) 10 (fun _ => 5), aI g (Aζ 2) 10 (fun _ => 0), aI g (Aζ 24) 121 lsF, aI g (Aζ 25) 10240 (htG (10 * s0ζ + (l0ζ + 1)))] := hD
            refine lv_iload_n hx hb dX7_findHot_105 rfl (lv_at hl 4 rfl) ?_
            refine lv_if_ne (tgt := 114) hx hb dX7_findHot_106 (by decide) (fun c_6 => ?_) (fun c_6 => ?_)
            · exact absurd (by decide) c_6
            · refine lv_iload hx hb dX7_findHot_109 (lv_at hl 0 rfl) ?_
              refine lv_if_lt (tgt := 118) hx hb dX7_findHot_111 (by decide) (fun c_7 => ?_) (fun c_7 => ?_)
              · refine lv_iconst (v := 0) hx hb dX7_findHot_118 (by decide) ?_
                refine lv_istore_n (lv' := [(3, .int 0), (7, .int (-6)), (6, .int 0), (5, .int 0), (4, .int (nI l0ζ)), (0, .ref hζ), (1, .int (nI s0ζ)), (2, .int (nI t0ζ))]) hx hb dX7_findHot_119 rfl hl (by decide) rfl (fun ls hl => ?_)
                refine lv_iinc (v := nI (l0ζ + 1)) (lv' := [(4, .int (nI (l0ζ + 1))), (3, .int 0), (7, .int (-6)), (6, .int 0), (5, .int 0), (0, .ref hζ), (1, .int (nI s0ζ)), (2, .int (nI t0ζ))]) hx hb dX7_findHot_120 hl (k := 4) rfl (nI_1 l0ζ) (by decide) rfl (fun ls hl => ?_)
                refine lv_goto (tgt := 5) hx hb dX7_findHot_123 (by decide) ?_
                exact ih5 (l0ζ + 1) (by first | omega | (dsimp only; omega)) (by first | omega | (dsimp only; omega)) _ _ _ (hP.sub [0, 1, 2, 3, 4] rfl) (hD.sub [0, 1, 2, 3, 4] (by decide) rfl) hS (lv_sub hl [0, 1, 5, 6, 7] rfl)
              · exact absurd (by decide) c_7
          · exact absurd (by decide) c_5
        · exact absurd (by decide) c_4
      · refine lv_iconst (v := 1) hx hb dX7_findHot_37 (by decide) ?_
        refine lv_goto (tgt := 42) hx hb dX7_findHot_38 (by decide) ?_
        refine lv_istore (lv' := [(6, .int 1), (5, .int 0), (4, .int (nI l0ζ)), (3, .int 0), (0, .ref hζ), (1, .int (nI s0ζ)), (2, .int (nI t0ζ))]) hx hb dX7_findHot_42 hl (by decide) rfl (fun ls hl => ?_)
        refine lv_iload hx hb dX7_findHot_44 (lv_at hl 0 rfl) ?_
        refine lv_if_eq (tgt := 72) hx hb dX7_findHot_46 (by decide) (fun c_8 => ?_) (fun c_8 => ?_)
        · exact absurd c_8 (by decide)
        · refine lv_aload_n hx hb dX7_findHot_49 rfl (lv_at hl 4 rfl) ?_
          refine lv_iload_n hx hb dX7_findHot_50 rfl (lv_at hl 6 rfl) ?_
          refine lv_aload_n hx hb dX7_findHot_51 rfl (lv_at hl 4 rfl) ?_
          refine va_get (D := g.1) (ci := 7) (v := .ref (Aζ 24)) (C := RX7) (T := TX7) (N := 34) hx hb hts hi7 hown hK hP 0 rfl rfl 24 (by decide) (hts (.fieldLink RX7 46 "PanTalesModel" "off" "[I") (by decide +kernel)) (fun _ h9 => h9) rfl dX7_findHot_52 ?_
          refine lv_bipush (v := 110) hx hb dX7_findHot_55 (by decide) ?_
          refine lv_iload hx hb dX7_findHot_57 (lv_at hl 2 rfl) ?_
          refine lv_iadd hx hb dX7_findHot_59 ?_
          refine gtop (y := nI (110 + l0ζ)) (nI_add 110 l0ζ) ?_
          refine r_iald (v := 1000) hx hb hK hP 3 rfl (vp_in_nI (n := 110 + l0ζ) (by omega) (by omega)) ((congrArg lsF (nI_clamp (n := 110 + l0ζ) (by omega))).trans (ls_110 (by omega))) dX7_findHot_60 ?_
          refine gcP (As := [.int (nI t0ζ), .int 1000]) (rest := [.ref hζ]) F (c_X7_cooled l (nI t0ζ) 1000) gX7_findHot_X7_cooled kX7_cooled rfl rfl rfl ⟨(Nat.le_of_ble_eq_true rfl), (Nat.le_of_ble_eq_true rfl)⟩ rfl rfl hl.1 (Nat.le_of_ble_eq_true rfl) dX7_findHot_61 ⟨(Nat.le_of_ble_eq_true rfl), (Nat.le_of_ble_eq_true rfl)⟩ ?_
          refine gtop (y := 0) (cool_h ht0ζ) ?_
          refine lv_iload hx hb dX7_findHot_64 (lv_at hl 2 rfl) ?_
          refine gcV_i (As := [.int 0, .int (nI l0ζ)]) (rest := []) (ci := 7) (q := (RX7, TX7, 34)) F hK hN hP hD hS hA (c_X7_behindBed l g H.size hζ Aζ Iζ l0ζ (by omega)) gX7_findHot_X7_behindBed kX7_behindBed rfl rfl rfl rfl ⟨(Nat.le_of_ble_eq_true rfl), (Nat.le_of_ble_eq_true rfl)⟩ [0, 1, 2] [3, 4] rfl rfl rfl (by decide) rfl rfl rfl rfl rfl hl.1 (Nat.le_of_ble_eq_true rfl) dX7_findHot_66 ⟨(Nat.le_of_ble_eq_true rfl), (Nat.le_of_ble_eq_true rfl)⟩ (fun r_w u_w H locs hw hP hD hS => ?_)
          have hP : va_P g.1 vwCl [aI g (Aζ 24) 121 lsF, aI g (Aζ 25) 10240 (htG (10 * s0ζ + l0ζ)), (hζ, .inr (7, oM Aζ Iζ)), aI g (Aζ 1) 10 (fun _ => 5), aI g (Aζ 2) 10 (fun _ => 0)] H := hP
          have hD : va_D Z [aI g (Aζ 24) 121 lsF, aI g (Aζ 25) 10240 (htG (10 * s0ζ + l0ζ)), (hζ, .inr (7, oM Aζ Iζ)), aI g (Aζ 1) 10 (fun _ => 5), aI g (Aζ 2) 10 (fun _ => 0)] := hD
          obtain rfl := hw
          refine lv_goto (tgt := 89) hx hb dX7_findHot_69 (by decide) ?_
          refine lv_istore (lv' := [(7, .int (-6)), (6, .int 1), (5, .int 0), (4, .int (nI l0ζ)), (3, .int 0), (0, .ref hζ), (1, .int (nI s0ζ)), (2, .int (nI t0ζ))]) hx hb dX7_findHot_89 hl (by decide) rfl (fun ls hl => ?_)
          refine lv_aload_n hx hb dX7_findHot_91 rfl (lv_at hl 5 rfl) ?_
          refine va_get (D := g.1) (ci := 7) (v := .ref (Aζ 25)) (C := RX7) (T := TX7) (N := 34) hx hb hts hi7 hown hK hP 2 rfl rfl 25 (by decide) (hts (.fieldLink RX7 49 "PanTalesModel" "hot" "[I") (by decide +kernel)) (fun _ h9 => h9) rfl dX7_findHot_92 ?_
          refine lv_bipush (v := 10) hx hb dX7_findHot_95 (by decide) ?_
          refine lv_iload_n hx hb dX7_findHot_97 rfl (lv_at hl 6 rfl) ?_
          refine lv_imul hx hb dX7_findHot_98 ?_
          refine gtop (y := nI (10 * s0ζ)) (pk_mul 10 s0ζ) ?_
          refine lv_iload hx hb dX7_findHot_99 (lv_at hl 3 rfl) ?_
          refine lv_iadd hx hb dX7_findHot_101 ?_
          refine gtop (y := nI ((10 * s0ζ) + l0ζ)) (nI_add (10 * s0ζ) l0ζ) ?_
          refine lv_iload hx hb dX7_findHot_102 (lv_at hl 0 rfl) ?_
          refine r_iast (f' := htG (10 * s0ζ + (l0ζ + 1))) hx hb hK hP hD hS 1 rfl (vp_in_nI (n := (10 * s0ζ) + l0ζ) (by omega) (by omega)) (ht_s hs1ζ (nI_clamp (n := 10 * s0ζ + l0ζ) (by omega))) dX7_findHot_104 (fun H locs hP hD hS => ?_)
          have hP : va_P g.1 vwCl [aI g (Aζ 24) 121 lsF, aI g (Aζ 25) 10240 (htG (10 * s0ζ + (l0ζ + 1))), (hζ, .inr (7, oM Aζ Iζ)), aI g (Aζ 1) 10 (fun _ => 5), aI g (Aζ 2) 10 (fun _ => 0)] H := hP
          have hD : va_D Z [aI g (Aζ 24) 121 lsF, aI g (Aζ 25) 10240 (htG (10 * s0ζ + (l0ζ + 1))), (hζ, .inr (7, oM Aζ Iζ)), aI g (Aζ 1) 10 (fun _ => 5), aI g (Aζ 2) 10 (fun _ => 0)] := hD
          refine lv_iload_n hx hb dX7_findHot_105 rfl (lv_at hl 4 rfl) ?_
          refine lv_if_ne (tgt := 114) hx hb dX7_findHot_106 (by decide) (fun c_9 => ?_) (fun c_9 => ?_)
          · exact absurd (by decide) c_9
          · refine lv_iload hx hb dX7_findHot_109 (lv_at hl 0 rfl) ?_
            refine lv_if_lt (tgt := 118) hx hb dX7_findHot_111 (by decide) (fun c_10 => ?_) (fun c_10 => ?_)
            · refine lv_iconst (v := 0) hx hb dX7_findHot_118 (by decide) ?_
              refine lv_istore_n (lv' := [(3, .int 0), (7, .int (-6)), (6, .int 1), (5, .int 0), (4, .int (nI l0ζ)), (0, .ref hζ), (1, .int (nI s0ζ)), (2, .int (nI t0ζ))]) hx hb dX7_findHot_119 rfl hl (by decide) rfl (fun ls hl => ?_)
              refine lv_iinc (v := nI (l0ζ + 1)) (lv' := [(4, .int (nI (l0ζ + 1))), (3, .int 0), (7, .int (-6)), (6, .int 1), (5, .int 0), (0, .ref hζ), (1, .int (nI s0ζ)), (2, .int (nI t0ζ))]) hx hb dX7_findHot_120 hl (k := 4) rfl (nI_1 l0ζ) (by decide) rfl (fun ls hl => ?_)
              refine lv_goto (tgt := 5) hx hb dX7_findHot_123 (by decide) ?_
              exact ih5 (l0ζ + 1) (by first | omega | (dsimp only; omega)) (by first | omega | (dsimp only; omega)) _ _ _ (hP.sub [2, 3, 4, 0, 1] rfl) (hD.sub [2, 3, 4, 0, 1] (by decide) rfl) hS (lv_sub hl [0, 1, 5, 6, 7] rfl)
            · exact absurd (by decide) c_10
    · refine lv_iconst (v := 1) hx hb dX7_findHot_22 (by decide) ?_
      refine lv_goto (tgt := 27) hx hb dX7_findHot_23 (by decide) ?_
      refine lv_istore (lv' := [(5, .int 1), (4, .int (nI l0ζ)), (3, .int 0), (0, .ref hζ), (1, .int (nI s0ζ)), (2, .int (nI t0ζ))]) hx hb dX7_findHot_27 hl (by decide) rfl (fun ls hl => ?_)
      refine lv_iload_n hx hb dX7_findHot_29 rfl (lv_at hl 4 rfl) ?_
      refine lv_iconst (v := 1) hx hb dX7_findHot_30 (by decide) ?_
      refine lv_iload hx hb dX7_findHot_31 (lv_at hl 1 rfl) ?_
      refine lv_ishl hx hb dX7_findHot_33 ?_
      refine lv_icmp_ne (tgt := 41) hx hb dX7_findHot_34 (by decide) (fun c_11 => ?_) (fun c_11 => ?_)
      · refine lv_iconst (v := 0) hx hb dX7_findHot_41 (by decide) ?_
        refine lv_istore (lv' := [(6, .int 0), (5, .int 1), (4, .int (nI l0ζ)), (3, .int 0), (0, .ref hζ), (1, .int (nI s0ζ)), (2, .int (nI t0ζ))]) hx hb dX7_findHot_42 hl (by decide) rfl (fun ls hl => ?_)
        refine lv_iload hx hb dX7_findHot_44 (lv_at hl 0 rfl) ?_
        refine lv_if_eq (tgt := 72) hx hb dX7_findHot_46 (by decide) (fun c_12 => ?_) (fun c_12 => ?_)
        · refine lv_iload hx hb dX7_findHot_72 (lv_at hl 1 rfl) ?_
          refine lv_if_eq (tgt := 87) hx hb dX7_findHot_74 (by decide) (fun c_13 => ?_) (fun c_13 => ?_)
          · exact absurd c_13 (by decide)
          · refine lv_aload_n hx hb dX7_findHot_77 rfl (lv_at hl 4 rfl) ?_
            refine lv_iload_n hx hb dX7_findHot_78 rfl (lv_at hl 5 rfl) ?_
            refine lv_iload hx hb dX7_findHot_79 (lv_at hl 2 rfl) ?_
            refine gcV_i (As := [.int (nI s0ζ), .int (nI l0ζ)]) (rest := []) (ci := 7) (q := (RX7, TX7, 34)) F hK hN hP hD hS hA (c_X7_hottest l g H.size hζ Aζ Iζ s0ζ l0ζ (10 * s0ζ + l0ζ) (by omega) (by omega) (by omega) c_2) gX7_findHot_X7_hottest kX7_hottest rfl rfl rfl rfl ⟨(Nat.le_of_ble_eq_true rfl), (Nat.le_of_ble_eq_true rfl)⟩ [0, 3, 4] [1, 2] rfl rfl rfl (by decide) rfl rfl rfl rfl rfl hl.1 (Nat.le_of_ble_eq_true rfl) dX7_findHot_81 ⟨(Nat.le_of_ble_eq_true rfl), (Nat.le_of_ble_eq_true rfl)⟩ (fun r_w u_w H locs hw hP hD hS => ?_)
            have hP : va_P g.1 vwCl [aI g (Aζ 1) 10 (fun _ => 5), aI g (Aζ 2) 10 (fun _ => 0), (hζ, .inr (7, oM Aζ Iζ)), aI g (Aζ 24) 121 lsF, aI g (Aζ 25) 10240 (htG ((10 * s0ζ + l0ζ)))] H := hP
            have hD : va_D Z [aI g (Aζ 1) 10 (fun _ => 5), aI g (Aζ 2) 10 (fun _ => 0), (hζ, .inr (7, oM Aζ Iζ)), aI g (Aζ 24) 121 lsF, aI g (Aζ 25) 10240 (htG ((10 * s0ζ + l0ζ)))] := hD
            obtain rfl := hw
            refine lv_goto (tgt := 89) hx hb dX7_findHot_84 (by decide) ?_
            refine lv_istore (lv' := [(7, .int (-6)), (6, .int 0), (5, .int 1), (4, .int (nI l0ζ)), (3, .int 0), (0, .ref hζ), (1, .int (nI s0ζ)), (2, .int (nI t0ζ))]) hx hb dX7_findHot_89 hl (by decide) rfl (fun ls hl => ?_)
            refine lv_aload_n hx hb dX7_findHot_91 rfl (lv_at hl 5 rfl) ?_
            refine va_get (D := g.1) (ci := 7) (v := .ref (Aζ 25)) (C := RX7) (T := TX7) (N := 34) hx hb hts hi7 hown hK hP 2 rfl rfl 25 (by decide) (hts (.fieldLink RX7 49 "PanTalesModel" "hot" "[I") (by decide +kernel)) (fun _ h9 => h9) rfl dX7_findHot_92 ?_
            refine lv_bipush (v := 10) hx hb dX7_findHot_95 (by decide) ?_
            refine lv_iload_n hx hb dX7_findHot_97 rfl (lv_at hl 6 rfl) ?_
            refine lv_imul hx hb dX7_findHot_98 ?_
            refine gtop (y := nI (10 * s0ζ)) (pk_mul 10 s0ζ) ?_
            refine lv_iload hx hb dX7_findHot_99 (lv_at hl 3 rfl) ?_
            refine lv_iadd hx hb dX7_findHot_101 ?_
            refine gtop (y := nI ((10 * s0ζ) + l0ζ)) (nI_add (10 * s0ζ) l0ζ) ?_
            refine lv_iload hx hb dX7_findHot_102 (lv_at hl 0 rfl) ?_
            refine r_iast (f' := htG (10 * s0ζ + (l0ζ + 1))) hx hb hK hP hD hS 4 rfl (vp_in_nI (n := (10 * s0ζ) + l0ζ) (by omega) (by omega)) (ht_s hs1ζ (nI_clamp (n := 10 * s0ζ + l0ζ) (by omega))) dX7_findHot_104 (fun H locs hP hD hS => ?_)
            have hP : va_P g.1 vwCl [aI g (Aζ 1) 10 (fun _ => 5), aI g (Aζ 2) 10 (fun _ => 0), (hζ, .inr (7, oM Aζ Iζ)), aI g (Aζ 24) 121 lsF, aI g (Aζ 25) 10240 (htG (10 * s0ζ + (l0ζ + 1)))] H := hP
            have hD : va_D Z [aI g (Aζ 1) 10 (fun _ => 5), aI g (Aζ 2) 10 (fun _ => 0), (hζ, .inr (7, oM Aζ Iζ)), aI g (Aζ 24) 121 lsF, aI g (Aζ 25) 10240 (htG (10 * s0ζ + (l0ζ + 1)))] := hD
            refine lv_iload_n hx hb dX7_findHot_105 rfl (lv_at hl 4 rfl) ?_
            refine lv_if_ne (tgt := 114) hx hb dX7_findHot_106 (by decide) (fun c_14 => ?_) (fun c_14 => ?_)
            · exact absurd (by decide) c_14
            · refine lv_iload hx hb dX7_findHot_109 (lv_at hl 0 rfl) ?_
              refine lv_if_lt (tgt := 118) hx hb dX7_findHot_111 (by decide) (fun c_15 => ?_) (fun c_15 => ?_)
              · refine lv_iconst (v := 0) hx hb dX7_findHot_118 (by decide) ?_
                refine lv_istore_n (lv' := [(3, .int 0), (7, .int (-6)), (6, .int 0), (5, .int 1), (4, .int (nI l0ζ)), (0, .ref hζ), (1, .int (nI s0ζ)), (2, .int (nI t0ζ))]) hx hb dX7_findHot_119 rfl hl (by decide) rfl (fun ls hl => ?_)
                refine lv_iinc (v := nI (l0ζ + 1)) (lv' := [(4, .int (nI (l0ζ + 1))), (3, .int 0), (7, .int (-6)), (6, .int 0), (5, .int 1), (0, .ref hζ), (1, .int (nI s0ζ)), (2, .int (nI t0ζ))]) hx hb dX7_findHot_120 hl (k := 4) rfl (nI_1 l0ζ) (by decide) rfl (fun ls hl => ?_)
                refine lv_goto (tgt := 5) hx hb dX7_findHot_123 (by decide) ?_
                exact ih5 (l0ζ + 1) (by first | omega | (dsimp only; omega)) (by first | omega | (dsimp only; omega)) _ _ _ (hP.sub [2, 0, 1, 3, 4] rfl) (hD.sub [2, 0, 1, 3, 4] (by decide) rfl) hS (lv_sub hl [0, 1, 5, 6, 7] rfl)
              · exact absurd (by decide) c_15
        · exact absurd (by decide) c_12
      · refine lv_iconst (v := 1) hx hb dX7_findHot_37 (by decide) ?_
        refine lv_goto (tgt := 42) hx hb dX7_findHot_38 (by decide) ?_
        refine lv_istore (lv' := [(6, .int 1), (5, .int 1), (4, .int (nI l0ζ)), (3, .int 0), (0, .ref hζ), (1, .int (nI s0ζ)), (2, .int (nI t0ζ))]) hx hb dX7_findHot_42 hl (by decide) rfl (fun ls hl => ?_)
        refine lv_iload hx hb dX7_findHot_44 (lv_at hl 0 rfl) ?_
        refine lv_if_eq (tgt := 72) hx hb dX7_findHot_46 (by decide) (fun c_16 => ?_) (fun c_16 => ?_)
        · exact absurd c_16 (by decide)
        · refine lv_aload_n hx hb dX7_findHot_49 rfl (lv_at hl 4 rfl) ?_
          refine lv_iload_n hx hb dX7_findHot_50 rfl (lv_at hl 6 rfl) ?_
          refine lv_aload_n hx hb dX7_findHot_51 rfl (lv_at hl 4 rfl) ?_
          refine va_get (D := g.1) (ci := 7) (v := .ref (Aζ 24)) (C := RX7) (T := TX7) (N := 34) hx hb hts hi7 hown hK hP 0 rfl rfl 24 (by decide) (hts (.fieldLink RX7 46 "PanTalesModel" "off" "[I") (by decide +kernel)) (fun _ h9 => h9) rfl dX7_findHot_52 ?_
          refine lv_bipush (v := 110) hx hb dX7_findHot_55 (by decide) ?_
          refine lv_iload hx hb dX7_findHot_57 (lv_at hl 2 rfl) ?_
          refine lv_iadd hx hb dX7_findHot_59 ?_
          refine gtop (y := nI (110 + l0ζ)) (nI_add 110 l0ζ) ?_
          refine r_iald (v := 1000) hx hb hK hP 3 rfl (vp_in_nI (n := 110 + l0ζ) (by omega) (by omega)) ((congrArg lsF (nI_clamp (n := 110 + l0ζ) (by omega))).trans (ls_110 (by omega))) dX7_findHot_60 ?_
          refine gcP (As := [.int (nI t0ζ), .int 1000]) (rest := [.ref hζ]) F (c_X7_cooled l (nI t0ζ) 1000) gX7_findHot_X7_cooled kX7_cooled rfl rfl rfl ⟨(Nat.le_of_ble_eq_true rfl), (Nat.le_of_ble_eq_true rfl)⟩ rfl rfl hl.1 (Nat.le_of_ble_eq_true rfl) dX7_findHot_61 ⟨(Nat.le_of_ble_eq_true rfl), (Nat.le_of_ble_eq_true rfl)⟩ ?_
          refine gtop (y := 0) (cool_h ht0ζ) ?_
          refine lv_iload hx hb dX7_findHot_64 (lv_at hl 2 rfl) ?_
          refine gcV_i (As := [.int 0, .int (nI l0ζ)]) (rest := []) (ci := 7) (q := (RX7, TX7, 34)) F hK hN hP hD hS hA (c_X7_behindBed l g H.size hζ Aζ Iζ l0ζ (by omega)) gX7_findHot_X7_behindBed kX7_behindBed rfl rfl rfl rfl ⟨(Nat.le_of_ble_eq_true rfl), (Nat.le_of_ble_eq_true rfl)⟩ [0, 1, 2] [3, 4] rfl rfl rfl (by decide) rfl rfl rfl rfl rfl hl.1 (Nat.le_of_ble_eq_true rfl) dX7_findHot_66 ⟨(Nat.le_of_ble_eq_true rfl), (Nat.le_of_ble_eq_true rfl)⟩ (fun r_w u_w H locs hw hP hD hS => ?_)
          have hP : va_P g.1 vwCl [aI g (Aζ 24) 121 lsF, aI g (Aζ 25) 10240 (htG (10 * s0ζ + l0ζ)), (hζ, .inr (7, oM Aζ Iζ)), aI g (Aζ 1) 10 (fun _ => 5), aI g (Aζ 2) 10 (fun _ => 0)] H := hP
          have hD : va_D Z [aI g (Aζ 24) 121 lsF, aI g (Aζ 25) 10240 (htG (10 * s0ζ + l0ζ)), (hζ, .inr (7, oM Aζ Iζ)), aI g (Aζ 1) 10 (fun _ => 5), aI g (Aζ 2) 10 (fun _ => 0)] := hD
          obtain rfl := hw
          refine lv_goto (tgt := 89) hx hb dX7_findHot_69 (by decide) ?_
          refine lv_istore (lv' := [(7, .int (-6)), (6, .int 1), (5, .int 1), (4, .int (nI l0ζ)), (3, .int 0), (0, .ref hζ), (1, .int (nI s0ζ)), (2, .int (nI t0ζ))]) hx hb dX7_findHot_89 hl (by decide) rfl (fun ls hl => ?_)
          refine lv_aload_n hx hb dX7_findHot_91 rfl (lv_at hl 5 rfl) ?_
          refine va_get (D := g.1) (ci := 7) (v := .ref (Aζ 25)) (C := RX7) (T := TX7) (N := 34) hx hb hts hi7 hown hK hP 2 rfl rfl 25 (by decide) (hts (.fieldLink RX7 49 "PanTalesModel" "hot" "[I") (by decide +kernel)) (fun _ h9 => h9) rfl dX7_findHot_92 ?_
          refine lv_bipush (v := 10) hx hb dX7_findHot_95 (by decide) ?_
          refine lv_iload_n hx hb dX7_findHot_97 rfl (lv_at hl 6 rfl) ?_
          refine lv_imul hx hb dX7_findHot_98 ?_
          refine gtop (y := nI (10 * s0ζ)) (pk_mul 10 s0ζ) ?_
          refine lv_iload hx hb dX7_findHot_99 (lv_at hl 3 rfl) ?_
          refine lv_iadd hx hb dX7_findHot_101 ?_
          refine gtop (y := nI ((10 * s0ζ) + l0ζ)) (nI_add (10 * s0ζ) l0ζ) ?_
          refine lv_iload hx hb dX7_findHot_102 (lv_at hl 0 rfl) ?_
          refine r_iast (f' := htG (10 * s0ζ + (l0ζ + 1))) hx hb hK hP hD hS 1 rfl (vp_in_nI (n := (10 * s0ζ) + l0ζ) (by omega) (by omega)) (ht_s hs1ζ (nI_clamp (n := 10 * s0ζ + l0ζ) (by omega))) dX7_findHot_104 (fun H locs hP hD hS => ?_)
          have hP : va_P g.1 vwCl [aI g (Aζ 24) 121 lsF, aI g (Aζ 25) 10240 (htG (10 * s0ζ + (l0ζ + 1))), (hζ, .inr (7, oM Aζ Iζ)), aI g (Aζ 1) 10 (fun _ => 5), aI g (Aζ 2) 10 (fun _ => 0)] H := hP
          have hD : va_D Z [aI g (Aζ 24) 121 lsF, aI g (Aζ 25) 10240 (htG (10 * s0ζ + (l0ζ + 1))), (hζ, .inr (7, oM Aζ Iζ)), aI g (Aζ 1) 10 (fun _ => 5), aI g (Aζ 2) 10 (fun _ => 0)] := hD
          refine lv_iload_n hx hb dX7_findHot_105 rfl (lv_at hl 4 rfl) ?_
          refine lv_if_ne (tgt := 114) hx hb dX7_findHot_106 (by decide) (fun c_17 => ?_) (fun c_17 => ?_)
          · exact absurd (by decide) c_17
          · refine lv_iload hx hb dX7_findHot_109 (lv_at hl 0 rfl) ?_
            refine lv_if_lt (tgt := 118) hx hb dX7_findHot_111 (by decide) (fun c_18 => ?_) (fun c_18 => ?_)
            · refine lv_iconst (v := 0) hx hb dX7_findHot_118 (by decide) ?_
              refine lv_istore_n (lv' := [(3, .int 0), (7, .int (-6)), (6, .int 1), (5, .int 1), (4, .int (nI l0ζ)), (0, .ref hζ), (1, .int (nI s0ζ)), (2, .int (nI t0ζ))]) hx hb dX7_findHot_119 rfl hl (by decide) rfl (fun ls hl => ?_)
              refine lv_iinc (v := nI (l0ζ + 1)) (lv' := [(4, .int (nI (l0ζ + 1))), (3, .int 0), (7, .int (-6)), (6, .int 1), (5, .int 1), (0, .ref hζ), (1, .int (nI s0ζ)), (2, .int (nI t0ζ))]) hx hb dX7_findHot_120 hl (k := 4) rfl (nI_1 l0ζ) (by decide) rfl (fun ls hl => ?_)
              refine lv_goto (tgt := 5) hx hb dX7_findHot_123 (by decide) ?_
              exact ih5 (l0ζ + 1) (by first | omega | (dsimp only; omega)) (by first | omega | (dsimp only; omega)) _ _ _ (hP.sub [2, 3, 4, 0, 1] rfl) (hD.sub [2, 3, 4, 0, 1] (by decide) rfl) hS (lv_sub hl [0, 1, 5, 6, 7] rfl)
            · exact absurd (by decide) c_18
set_option maxHeartbeats 4000000 in
set_option maxRecDepth 100000 in
theorem c_X7_round (l : Launch) (g : GT) (sz : Nat) (hζ : Nat) (Aζ : Nat → Nat) (xζ yζ : Int32) : Ci l yX7_round wsX7_round { frames := 2, cells := 0, slots := 0, locals := 54 } g sz [.ref hζ, .int xζ, .int yζ] [(hζ, .inr (7, oM Aζ iM0)), aI g (Aζ 0) 121 (fun _ => 0), aI g (Aζ 1) 10 (fun _ => 5), aI g (Aζ 2) 10 (fun _ => 0), aI g (Aζ 24) 121 (fun _ => 0), aI g (Aζ 25) 10240 (fun _ => 0)] (roundF xζ yζ) [] := by
  refine gMet_i (cc := cX7_round) (maxL := 6) (ret := (some .int)) (by decide) rfl (Nat.le_of_ble_eq_true rfl) ?_
  intro p e s m args below meth c Z hx hb hr F hlk hnm hK hN hA H locs hP hD hS ls hl
  have hl : lv_has ls 6 [(0, .ref hζ), (1, .int xζ), (2, .int yζ)] := hl
  have F : CallFix p m c cX7_round 6 s args wsX7_round RX7 := F
  have hts := F.2.2.2.2
  have hown : s.vm.findClass RX7 = some m.cls := F.2.2.2.1
  refine lv_iload_n hx hb dX7_round_0 rfl (lv_at hl 1 rfl) ?_
  refine lv_i2l (v := xζ.toInt64) hx hb dX7_round_1 rfl ?_
  refine lv_lconst (v := 0) hx hb dX7_round_2 (by decide) ?_
  refine lv_ldc2 (v := 99) hx hb hown (hts (.constantLong RX7 219 (99)) (by decide +kernel)) dX7_round_3 ?_
  refine gcP (As := [.long xζ.toInt64, .long 0, .long 99]) (rest := []) F (c_X7_in l xζ.toInt64 0 99) gX7_round_X7_in kX7_in rfl rfl rfl ⟨(Nat.le_of_ble_eq_true rfl), (Nat.le_of_ble_eq_true rfl)⟩ rfl rfl hl.1 (Nat.le_of_ble_eq_true rfl) dX7_round_6 ⟨(Nat.le_of_ble_eq_true rfl), (Nat.le_of_ble_eq_true rfl)⟩ ?_
  refine gtop (y := bI (inB xζ 0 99)) (congrArg bI (inL_i (lo := 0) (hi := 99) (by decide) (by decide))) ?_
  refine lv_if_eq (tgt := 22) hx hb dX7_round_9 (by decide) (fun c_1 => ?_) (fun c_1 => ?_)
  · have c_1 : inB xζ 0 99 = false := bI_0 c_1
    refine lv_bipush (v := (-2)) hx hb dX7_round_22 (by decide) ?_
    exact r_iret hx hb hr hlk hS () (by unfold roundF; rw [if_neg (bF c_1)]) (hP.sub [] rfl) (hD.sub [] (by decide) rfl) dX7_round_24
  · have c_1 : inB xζ 0 99 = true := bI_1 c_1
    refine lv_iload_n hx hb dX7_round_12 rfl (lv_at hl 2 rfl) ?_
    refine lv_i2l (v := yζ.toInt64) hx hb dX7_round_13 rfl ?_
    refine lv_lconst (v := 0) hx hb dX7_round_14 (by decide) ?_
    refine lv_lconst (v := 1) hx hb dX7_round_15 (by decide) ?_
    refine gcP (As := [.long yζ.toInt64, .long 0, .long 1]) (rest := []) F (c_X7_in l yζ.toInt64 0 1) gX7_round_X7_in kX7_in rfl rfl rfl ⟨(Nat.le_of_ble_eq_true rfl), (Nat.le_of_ble_eq_true rfl)⟩ rfl rfl hl.1 (Nat.le_of_ble_eq_true rfl) dX7_round_16 ⟨(Nat.le_of_ble_eq_true rfl), (Nat.le_of_ble_eq_true rfl)⟩ ?_
    refine gtop (y := bI (inB yζ 0 1)) (congrArg bI (inL_i (lo := 0) (hi := 1) (by decide) (by decide))) ?_
    refine lv_if_ne (tgt := 25) hx hb dX7_round_19 (by decide) (fun c_2 => ?_) (fun c_2 => ?_)
    · have c_2 : inB yζ 0 1 = true := bI_1 c_2
      obtain ⟨t0ζ, ht0ζ, et0ζ⟩ := inB_nat (N := 100) (by decide) c_1
      have hl : lv_has ls 6 [(0, .ref hζ), (1, .int (nI t0ζ)), (2, .int yζ)] := by first | exact hl | (rw [← (et0ζ : xζ = nI t0ζ)]; exact hl)
      refine lv_aload_n hx hb dX7_round_25 rfl (lv_at hl 0 rfl) ?_
      refine gcV_v (As := []) (rest := []) (ci := 7) (q := (RX7, TX7, 34)) F hK hN hP hD hS hA (c_X7_findOff l g H.size hζ Aζ iM0 (fun _ => 0)) gX7_round_X7_findOff kX7_findOff rfl rfl rfl rfl ⟨(Nat.le_of_ble_eq_true rfl), (Nat.le_of_ble_eq_true rfl)⟩ [0, 1, 4] [2, 3, 5] rfl rfl rfl (by decide) rfl rfl rfl rfl rfl hl.1 (Nat.le_of_ble_eq_true rfl) dX7_round_26 ⟨(Nat.le_of_ble_eq_true rfl), (Nat.le_of_ble_eq_true rfl)⟩ (fun u_w H locs hw hP hD hS => ?_)
      have hP : va_P g.1 vwCl [aI g (Aζ 1) 10 (fun _ => 5), aI g (Aζ 2) 10 (fun _ => 0), aI g (Aζ 25) 10240 (fun _ => 0), (hζ, .inr (7, oM Aζ iM0)), aI g (Aζ 0) 121 (fun _ => 0), aI g (Aζ 24) 121 lsF] H := hP
      have hD : va_D Z [aI g (Aζ 1) 10 (fun _ => 5), aI g (Aζ 2) 10 (fun _ => 0), aI g (Aζ 25) 10240 (fun _ => 0), (hζ, .inr (7, oM Aζ iM0)), aI g (Aζ 0) 121 (fun _ => 0), aI g (Aζ 24) 121 lsF] := hD
      refine lv_iconst (v := 0) hx hb dX7_round_29 (by decide) ?_
      refine lv_istore_n (lv' := [(3, .int 0), (0, .ref hζ), (1, .int (nI t0ζ)), (2, .int yζ)]) hx hb dX7_round_30 rfl hl (by decide) rfl (fun ls hl => ?_)
      refine lv_iconst (v := 1) hx hb dX7_round_31 (by decide) ?_
      refine lv_istore (lv' := [(4, .int 1), (3, .int 0), (0, .ref hζ), (1, .int (nI t0ζ)), (2, .int yζ)]) hx hb dX7_round_32 hl (by decide) rfl (fun ls hl => ?_)
      obtain ⟨hP, hD⟩ := r_extI hP hD 2 rfl (f' := htG (10 * 1)) ht_0
      have hP : va_P g.1 vwCl [aI g (Aζ 1) 10 (fun _ => 5), aI g (Aζ 2) 10 (fun _ => 0), aI g (Aζ 25) 10240 (htG (10 * 1)), (hζ, .inr (7, oM Aζ iM0)), aI g (Aζ 0) 121 (fun _ => 0), aI g (Aζ 24) 121 lsF] H := hP
      have hD : va_D Z [aI g (Aζ 1) 10 (fun _ => 5), aI g (Aζ 2) 10 (fun _ => 0), aI g (Aζ 25) 10240 (htG (10 * 1)), (hζ, .inr (7, oM Aζ iM0)), aI g (Aζ 0) 121 (fun _ => 0), aI g (Aζ 24) 121 lsF] := hD
      refine gloop (σ := Nat) (fun u0 => 1024 - u0) (fun u0 => 1 ≤ u0 ∧ u0 ≤ 1024) (fun u0 => [aI g (Aζ 1) 10 (fun _ => 5), aI g (Aζ 2) 10 (fun _ => 0), aI g (Aζ 25) 10240 (htG (10 * u0)), (hζ, .inr (7, oM Aζ iM0)), aI g (Aζ 0) 121 (fun _ => 0), aI g (Aζ 24) 121 lsF]) (fun u0 => [(4, .int (nI u0)), (3, .int 0), (0, .ref hζ), (1, .int (nI t0ζ)), (2, .int yζ)]) ?_ 1 ⟨(by first | omega | decide | rfl), (by first | omega | decide | rfl)⟩ (hP.sub [0, 1, 2, 3, 4, 5] rfl) (hD.sub [0, 1, 2, 3, 4, 5] (by decide) rfl) hS (lv_sub hl [0, 1, 2, 3, 4] rfl)
      rintro nζ ⟨hn1ζ, hnζ⟩ ih34 H locs ls hP hD hS hl
      have hn1ζ : 1 ≤ nζ := hn1ζ
      have hnζ : nζ ≤ 1024 := hnζ
      have hP : va_P g.1 vwCl [aI g (Aζ 1) 10 (fun _ => 5), aI g (Aζ 2) 10 (fun _ => 0), aI g (Aζ 25) 10240 (htG (10 * nζ)), (hζ, .inr (7, oM Aζ iM0)), aI g (Aζ 0) 121 (fun _ => 0), aI g (Aζ 24) 121 lsF] H := hP
      have hD : va_D Z [aI g (Aζ 1) 10 (fun _ => 5), aI g (Aζ 2) 10 (fun _ => 0), aI g (Aζ 25) 10240 (htG (10 * nζ)), (hζ, .inr (7, oM Aζ iM0)), aI g (Aζ 0) 121 (fun _ => 0), aI g (Aζ 24) 121 lsF] := hD
      have hl : lv_has ls 6 [(4, .int (nI nζ)), (3, .int 0), (0, .ref hζ), (1, .int (nI t0ζ)), (2, .int yζ)] := hl
      refine lv_iload hx hb dX7_round_34 (lv_at hl 0 rfl) ?_
      refine lv_sipush (v := 1024) hx hb dX7_round_36 (by decide) ?_
      refine lv_icmp_ge (tgt := 81) hx hb dX7_round_39 (by decide) (fun c_3 => ?_) (fun c_3 => ?_)
      · have c_3 : 1024 ≤ nζ := (nI_leI (a := 1024) (b := nζ) (by omega) (by omega)).mp c_3
        refine lv_iload_n hx hb dX7_round_81 rfl (lv_at hl 4 rfl) ?_
        refine lv_if_ne (tgt := 92) hx hb dX7_round_82 (by decide) (fun c_4 => ?_) (fun c_4 => ?_)
        · refine lv_iload_n hx hb dX7_round_92 rfl (lv_at hl 1 rfl) ?_
          exact r_iret hx hb hr hlk hS () (by unfold roundF; rw [if_pos c_1, if_pos c_2]) (hP.sub [] rfl) (hD.sub [] (by decide) rfl) dX7_round_93
        · refine lv_iload_n hx hb dX7_round_85 rfl (lv_at hl 1 rfl) ?_
          refine gcP (As := [.int 0]) (rest := []) F (c_X7_ones_0 l ) gX7_round_X7_ones kX7_ones rfl rfl rfl ⟨(Nat.le_of_ble_eq_true rfl), (Nat.le_of_ble_eq_true rfl)⟩ rfl rfl hl.1 (Nat.le_of_ble_eq_true rfl) dX7_round_86 ⟨(Nat.le_of_ble_eq_true rfl), (Nat.le_of_ble_eq_true rfl)⟩ ?_
          refine lv_goto (tgt := 93) hx hb dX7_round_89 (by decide) ?_
          exact r_iret hx hb hr hlk hS () (by unfold roundF; rw [if_pos c_1, if_pos c_2]) (hP.sub [] rfl) (hD.sub [] (by decide) rfl) dX7_round_93
      · have c_3 : ¬ 1024 ≤ nζ := fun z => c_3 ((nI_leI (a := 1024) (b := nζ) (by omega) (by omega)).mpr z)
        refine lv_aload_n hx hb dX7_round_42 rfl (lv_at hl 2 rfl) ?_
        refine lv_iload hx hb dX7_round_43 (lv_at hl 0 rfl) ?_
        refine lv_iload_n hx hb dX7_round_45 rfl (lv_at hl 3 rfl) ?_
        refine gcV_i (As := [.int (nI nζ), .int (nI t0ζ)]) (rest := []) (ci := 7) (q := (RX7, TX7, 34)) F hK hN hP hD hS hA (c_X7_findHot l g H.size hζ Aζ iM0 nζ t0ζ (by omega) (by omega) (by omega)) gX7_round_X7_findHot kX7_findHot rfl rfl rfl rfl ⟨(Nat.le_of_ble_eq_true rfl), (Nat.le_of_ble_eq_true rfl)⟩ [3, 0, 1, 5, 2] [4] rfl rfl rfl (by decide) rfl rfl rfl rfl rfl hl.1 (Nat.le_of_ble_eq_true rfl) dX7_round_46 ⟨(Nat.le_of_ble_eq_true rfl), (Nat.le_of_ble_eq_true rfl)⟩ (fun r_w u_w H locs hw hP hD hS => ?_)
        have hP : va_P g.1 vwCl [aI g (Aζ 0) 121 (fun _ => 0), (hζ, .inr (7, oM Aζ iM0)), aI g (Aζ 1) 10 (fun _ => 5), aI g (Aζ 2) 10 (fun _ => 0), aI g (Aζ 24) 121 lsF, aI g (Aζ 25) 10240 (htG (10 * nζ + 10))] H := hP
        have hD : va_D Z [aI g (Aζ 0) 121 (fun _ => 0), (hζ, .inr (7, oM Aζ iM0)), aI g (Aζ 1) 10 (fun _ => 5), aI g (Aζ 2) 10 (fun _ => 0), aI g (Aζ 24) 121 lsF, aI g (Aζ 25) 10240 (htG (10 * nζ + 10))] := hD
        obtain rfl := hw
        refine lv_istore (lv' := [(5, .int 0), (4, .int (nI nζ)), (3, .int 0), (0, .ref hζ), (1, .int (nI t0ζ)), (2, .int yζ)]) hx hb dX7_round_49 hl (by decide) rfl (fun ls hl => ?_)
        refine lv_iload hx hb dX7_round_51 (lv_at hl 0 rfl) ?_
        refine lv_if_eq (tgt := 73) hx hb dX7_round_53 (by decide) (fun c_5 => ?_) (fun c_5 => ?_)
        · refine lv_iload_n hx hb dX7_round_73 rfl (lv_at hl 2 rfl) ?_
          refine lv_istore_n (lv' := [(3, .int 0), (5, .int 0), (4, .int (nI nζ)), (0, .ref hζ), (1, .int (nI t0ζ)), (2, .int yζ)]) hx hb dX7_round_74 rfl hl (by decide) rfl (fun ls hl => ?_)
          refine lv_iinc (v := nI (nζ + 1)) (lv' := [(4, .int (nI (nζ + 1))), (3, .int 0), (5, .int 0), (0, .ref hζ), (1, .int (nI t0ζ)), (2, .int yζ)]) hx hb dX7_round_75 hl (k := 2) rfl (nI_1 nζ) (by decide) rfl (fun ls hl => ?_)
          refine lv_goto (tgt := 34) hx hb dX7_round_78 (by decide) ?_
          exact ih34 (nζ + 1) ⟨(by first | omega | (dsimp only; omega)), (by first | omega | (dsimp only; omega))⟩ (by first | omega | (dsimp only; omega)) _ _ _ (hP.sub [2, 3, 5, 1, 0, 4] rfl) (hD.sub [2, 3, 5, 1, 0, 4] (by decide) rfl) hS (lv_sub hl [0, 1, 3, 4, 5] rfl)
        · exact absurd (by decide) c_5
    · have c_2 : inB yζ 0 1 = false := bI_0 c_2
      refine lv_bipush (v := (-2)) hx hb dX7_round_22 (by decide) ?_
      exact r_iret hx hb hr hlk hS () (by unfold roundF; rw [if_pos c_1, if_neg (bF c_2)]) (hP.sub [] rfl) (hD.sub [] (by decide) rfl) dX7_round_24
set_option maxHeartbeats 4000000 in
set_option maxRecDepth 100000 in
theorem c_X7_around (l : Launch) (g : GT) (sz : Nat) (hζ : Nat) (Aζ : Nat → Nat) (Iζ : Nat → Int32) : Ci l yX7_around wsX7_around { frames := 0, cells := 0, slots := 0, locals := 0 } g sz [.ref hζ, .int 1024] [(hζ, .inr (7, oM Aζ Iζ)), aI g (Aζ 0) 121 (fun _ => 0)] 1024 [(hζ, .inr (7, oM Aζ Iζ)), aI g (Aζ 0) 121 (fun _ => 0)] := by
  refine gMet_i (cc := cX7_around) (maxL := 4) (ret := (some .int)) (by decide) rfl (Nat.le_of_ble_eq_true rfl) ?_
  intro p e s m args below meth c Z hx hb hr F hlk hnm hK hN hA H locs hP hD hS ls hl
  have hl : lv_has ls 4 [(0, .ref hζ), (1, .int 1024)] := hl
  have F : CallFix p m c cX7_around 4 s args wsX7_around RX7 := F
  have hts := F.2.2.2.2
  have hown : s.vm.findClass RX7 = some m.cls := F.2.2.2.1
  have hi7 : ∀ w ∈ u_ws RX7 TX7 34, w ∈ wsX7_around := by decide +kernel
  refine lv_iload_n hx hb dX7_around_0 rfl (lv_at hl 1 rfl) ?_
  refine lv_istore_n (lv' := [(2, .int 1024), (0, .ref hζ), (1, .int 1024)]) hx hb dX7_around_1 rfl hl (by decide) rfl (fun ls hl => ?_)
  refine lv_iconst (v := 0) hx hb dX7_around_2 (by decide) ?_
  refine lv_istore_n (lv' := [(3, .int 0), (2, .int 1024), (0, .ref hζ), (1, .int 1024)]) hx hb dX7_around_3 rfl hl (by decide) rfl (fun ls hl => ?_)
  refine gloop (σ := Nat) (fun u0 => 121 - u0) (fun u0 => u0 ≤ 121) (fun u0 => [(hζ, .inr (7, oM Aζ Iζ)), aI g (Aζ 0) 121 (fun _ => 0)]) (fun u0 => [(3, .int (nI u0)), (2, .int 1024), (0, .ref hζ), (1, .int 1024)]) ?_ 0 (by first | omega | decide | rfl) (hP.sub [0, 1] rfl) (hD.sub [0, 1] (by decide) rfl) hS (lv_sub hl [0, 1, 2, 3] rfl)
  rintro iζ hiζ ih4 H locs ls hP hD hS hl
  have hiζ : iζ ≤ 121 := hiζ
  have hP : va_P g.1 vwCl [(hζ, .inr (7, oM Aζ Iζ)), aI g (Aζ 0) 121 (fun _ => 0)] H := hP
  have hD : va_D Z [(hζ, .inr (7, oM Aζ Iζ)), aI g (Aζ 0) 121 (fun _ => 0)] := hD
  have hl : lv_has ls 4 [(3, .int (nI iζ)), (2, .int 1024), (0, .ref hζ), (1, .int 1024)] := hl
  refine lv_iload_n hx hb dX7_around_4 rfl (lv_at hl 0 rfl) ?_
  refine lv_bipush (v := 121) hx hb dX7_around_5 (by decide) ?_
  refine lv_icmp_ge (tgt := 50) hx hb dX7_around_7 (by decide) (fun c_1 => ?_) (fun c_1 => ?_)
  · have c_1 : 121 ≤ iζ := (nI_leI (a := 121) (b := iζ) (by omega) (by omega)).mp c_1
    refine lv_iload_n hx hb dX7_around_50 rfl (lv_at hl 1 rfl) ?_
    exact r_iret hx hb hr hlk hS () rfl (hP.sub [0, 1] rfl) (hD.sub [0, 1] (by decide) rfl) dX7_around_51
  · have c_1 : ¬ 121 ≤ iζ := fun z => c_1 ((nI_leI (a := 121) (b := iζ) (by omega) (by omega)).mpr z)
    refine lv_iload_n hx hb dX7_around_10 rfl (lv_at hl 1 rfl) ?_
    refine lv_iload_n hx hb dX7_around_11 rfl (lv_at hl 3 rfl) ?_
    refine lv_iload_n hx hb dX7_around_12 rfl (lv_at hl 0 rfl) ?_
    refine lv_bipush (v := 11) hx hb dX7_around_13 (by decide) ?_
    refine lv_idiv hx hb dX7_around_15 (by decide) ?_
    refine gtop (y := nI (iζ / 11)) (pk_div (a := iζ) (d := 11) (by omega) (by omega) (by omega)) ?_
    refine lv_ishr hx hb dX7_around_16 ?_
    refine lv_iconst (v := 1) hx hb dX7_around_17 (by decide) ?_
    refine lv_iand hx hb dX7_around_18 ?_
    refine lv_iconst (v := 1) hx hb dX7_around_19 (by decide) ?_
    refine lv_icmp_ne (tgt := 41) hx hb dX7_around_20 (by decide) (fun c_2 => ?_) (fun c_2 => ?_)
    · refine lv_iconst (v := 0) hx hb dX7_around_41 (by decide) ?_
      refine lv_ior hx hb dX7_around_42 ?_
      refine gtop (y := 1024) (by decide) ?_
      refine lv_istore_n (lv' := [(2, .int 1024), (3, .int (nI iζ)), (0, .ref hζ), (1, .int 1024)]) hx hb dX7_around_43 rfl hl (by decide) rfl (fun ls hl => ?_)
      refine lv_iinc (v := nI (iζ + 1)) (lv' := [(3, .int (nI (iζ + 1))), (2, .int 1024), (0, .ref hζ), (1, .int 1024)]) hx hb dX7_around_44 hl (k := 1) rfl (nI_1 iζ) (by decide) rfl (fun ls hl => ?_)
      refine lv_goto (tgt := 4) hx hb dX7_around_47 (by decide) ?_
      exact ih4 (iζ + 1) (by first | omega | (dsimp only; omega)) (by first | omega | (dsimp only; omega)) _ _ _ (hP.sub [0, 1] rfl) (hD.sub [0, 1] (by decide) rfl) hS (lv_sub hl [0, 1, 2, 3] rfl)
    · refine lv_aload_n hx hb dX7_around_23 rfl (lv_at hl 2 rfl) ?_
      refine va_get (D := g.1) (ci := 7) (v := .ref (Aζ 0)) (C := RX7) (T := TX7) (N := 34) hx hb hts hi7 hown hK hP 0 rfl rfl 0 (by decide) (hts (.fieldLink RX7 7 "PanTalesModel" "roads" "[I") (by decide +kernel)) (fun _ h9 => h9) rfl dX7_around_24 ?_
      refine lv_iload_n hx hb dX7_around_27 rfl (lv_at hl 0 rfl) ?_
      refine r_iald (v := 0) hx hb hK hP 1 rfl (vp_in_nI (n := iζ) (by omega) (by omega)) (congrArg (fun _ => 0) (nI_clamp (n := iζ) (by omega))) dX7_around_28 ?_
      refine lv_if_le (tgt := 41) hx hb dX7_around_29 (by decide) (fun c_3 => ?_) (fun c_3 => ?_)
      · refine lv_iconst (v := 0) hx hb dX7_around_41 (by decide) ?_
        refine lv_ior hx hb dX7_around_42 ?_
        refine gtop (y := 1024) (by decide) ?_
        refine lv_istore_n (lv' := [(2, .int 1024), (3, .int (nI iζ)), (0, .ref hζ), (1, .int 1024)]) hx hb dX7_around_43 rfl hl (by decide) rfl (fun ls hl => ?_)
        refine lv_iinc (v := nI (iζ + 1)) (lv' := [(3, .int (nI (iζ + 1))), (2, .int 1024), (0, .ref hζ), (1, .int 1024)]) hx hb dX7_around_44 hl (k := 1) rfl (nI_1 iζ) (by decide) rfl (fun ls hl => ?_)
        refine lv_goto (tgt := 4) hx hb dX7_around_47 (by decide) ?_
        exact ih4 (iζ + 1) (by first | omega | (dsimp only; omega)) (by first | omega | (dsimp only; omega)) _ _ _ (hP.sub [0, 1] rfl) (hD.sub [0, 1] (by decide) rfl) hS (lv_sub hl [0, 1, 2, 3] rfl)
      · exact absurd (by decide) c_3
set_option maxHeartbeats 4000000 in
set_option maxRecDepth 100000 in
theorem c_X7_isKept (l : Launch) (g : GT) (sz : Nat) (hζ : Nat) (Aζ : Nat → Nat) (Iζ : Nat → Int32) (jζ : Nat) (hjζ : jζ < 10) : Ci l yX7_isKept wsX7_isKept { frames := 1, cells := 0, slots := 0, locals := 23 } g sz [.ref hζ, .int (nI jζ), .int 0] [(hζ, .inr (7, oM Aζ Iζ)), aI g (Aζ 0) 121 (fun _ => 0)] 1 [(hζ, .inr (7, oM Aζ Iζ)), aI g (Aζ 0) 121 (fun _ => 0)] := by
  refine gMet_i (cc := cX7_isKept) (maxL := 5) (ret := (some .boolean)) (by decide) rfl (Nat.le_of_ble_eq_true rfl) ?_
  intro p e s m args below meth c Z hx hb hr F hlk hnm hK hN hA H locs hP hD hS ls hl
  have hl : lv_has ls 5 [(0, .ref hζ), (1, .int (nI jζ)), (2, .int 0)] := hl
  have F : CallFix p m c cX7_isKept 5 s args wsX7_isKept RX7 := F
  have hts := F.2.2.2.2
  have hown : s.vm.findClass RX7 = some m.cls := F.2.2.2.1
  refine lv_sipush (v := 1024) hx hb dX7_isKept_0 (by decide) ?_
  refine lv_istore_n (lv' := [(3, .int 1024), (0, .ref hζ), (1, .int (nI jζ)), (2, .int 0)]) hx hb dX7_isKept_3 rfl hl (by decide) rfl (fun ls hl => ?_)
  refine lv_iconst (v := 0) hx hb dX7_isKept_4 (by decide) ?_
  refine lv_istore (lv' := [(4, .int 0), (3, .int 1024), (0, .ref hζ), (1, .int (nI jζ)), (2, .int 0)]) hx hb dX7_isKept_5 hl (by decide) rfl (fun ls hl => ?_)
  refine gloop (σ := Nat) (fun u0 => 11 - u0) (fun u0 => u0 ≤ 11) (fun u0 => [(hζ, .inr (7, oM Aζ Iζ)), aI g (Aζ 0) 121 (fun _ => 0)]) (fun u0 => [(4, .int (nI u0)), (3, .int 1024), (0, .ref hζ), (1, .int (nI jζ)), (2, .int 0)]) ?_ 0 (by first | omega | decide | rfl) (hP.sub [0, 1] rfl) (hD.sub [0, 1] (by decide) rfl) hS (lv_sub hl [0, 1, 2, 3, 4] rfl)
  rintro iζ hiζ ih7 H locs ls hP hD hS hl
  have hiζ : iζ ≤ 11 := hiζ
  have hP : va_P g.1 vwCl [(hζ, .inr (7, oM Aζ Iζ)), aI g (Aζ 0) 121 (fun _ => 0)] H := hP
  have hD : va_D Z [(hζ, .inr (7, oM Aζ Iζ)), aI g (Aζ 0) 121 (fun _ => 0)] := hD
  have hl : lv_has ls 5 [(4, .int (nI iζ)), (3, .int 1024), (0, .ref hζ), (1, .int (nI jζ)), (2, .int 0)] := hl
  refine lv_iload hx hb dX7_isKept_7 (lv_at hl 0 rfl) ?_
  refine lv_bipush (v := 11) hx hb dX7_isKept_9 (by decide) ?_
  refine lv_icmp_ge (tgt := 30) hx hb dX7_isKept_11 (by decide) (fun c_1 => ?_) (fun c_1 => ?_)
  · have c_1 : 11 ≤ iζ := (nI_leI (a := 11) (b := iζ) (by omega) (by omega)).mp c_1
    refine lv_iload_n hx hb dX7_isKept_30 rfl (lv_at hl 1 rfl) ?_
    refine lv_iload_n hx hb dX7_isKept_31 rfl (lv_at hl 3 rfl) ?_
    refine lv_ishr hx hb dX7_isKept_32 ?_
    refine lv_iconst (v := 1) hx hb dX7_isKept_33 (by decide) ?_
    refine lv_iand hx hb dX7_isKept_34 ?_
    refine gtop (y := 0) (sh_K hjζ) ?_
    refine lv_if_ne (tgt := 42) hx hb dX7_isKept_35 (by decide) (fun c_2 => ?_) (fun c_2 => ?_)
    · exact absurd (by decide) c_2
    · refine lv_iconst (v := 1) hx hb dX7_isKept_38 (by decide) ?_
      refine lv_goto (tgt := 43) hx hb dX7_isKept_39 (by decide) ?_
      exact r_zret hx hb hr hlk hS () (by decide) rfl (hP.sub [0, 1] rfl) (hD.sub [0, 1] (by decide) rfl) dX7_isKept_43
  · have c_1 : ¬ 11 ≤ iζ := fun z => c_1 ((nI_leI (a := 11) (b := iζ) (by omega) (by omega)).mpr z)
    refine lv_aload_n hx hb dX7_isKept_14 rfl (lv_at hl 2 rfl) ?_
    refine lv_iload_n hx hb dX7_isKept_15 rfl (lv_at hl 1 rfl) ?_
    refine gcV_i (As := [.int 1024]) (rest := []) (ci := 7) (q := (RX7, TX7, 34)) F hK hN hP hD hS hA (c_X7_around l g H.size hζ Aζ Iζ) gX7_isKept_X7_around kX7_around rfl rfl rfl rfl ⟨(Nat.le_of_ble_eq_true rfl), (Nat.le_of_ble_eq_true rfl)⟩ [0, 1] [] rfl rfl rfl (by decide) rfl rfl rfl rfl rfl hl.1 (Nat.le_of_ble_eq_true rfl) dX7_isKept_16 ⟨(Nat.le_of_ble_eq_true rfl), (Nat.le_of_ble_eq_true rfl)⟩ (fun r_w u_w H locs hw hP hD hS => ?_)
    have hP : va_P g.1 vwCl [(hζ, .inr (7, oM Aζ Iζ)), aI g (Aζ 0) 121 (fun _ => 0)] H := hP
    have hD : va_D Z [(hζ, .inr (7, oM Aζ Iζ)), aI g (Aζ 0) 121 (fun _ => 0)] := hD
    obtain rfl := hw
    refine lv_iload_n hx hb dX7_isKept_19 rfl (lv_at hl 4 rfl) ?_
    refine lv_iconst (v := (-1)) hx hb dX7_isKept_20 (by decide) ?_
    refine lv_ixor hx hb dX7_isKept_21 ?_
    refine gtop (y := (-1)) (by decide) ?_
    refine lv_iand hx hb dX7_isKept_22 ?_
    refine gtop (y := 1024) (by decide) ?_
    refine lv_istore_n (lv' := [(3, .int 1024), (4, .int (nI iζ)), (0, .ref hζ), (1, .int (nI jζ)), (2, .int 0)]) hx hb dX7_isKept_23 rfl hl (by decide) rfl (fun ls hl => ?_)
    refine lv_iinc (v := nI (iζ + 1)) (lv' := [(4, .int (nI (iζ + 1))), (3, .int 1024), (0, .ref hζ), (1, .int (nI jζ)), (2, .int 0)]) hx hb dX7_isKept_24 hl (k := 1) rfl (nI_1 iζ) (by decide) rfl (fun ls hl => ?_)
    refine lv_goto (tgt := 7) hx hb dX7_isKept_27 (by decide) ?_
    exact ih7 (iζ + 1) (by first | omega | (dsimp only; omega)) (by first | omega | (dsimp only; omega)) _ _ _ (hP.sub [0, 1] rfl) (hD.sub [0, 1] (by decide) rfl) hS (lv_sub hl [0, 1, 2, 3, 4] rfl)
set_option maxHeartbeats 4000000 in
set_option maxRecDepth 100000 in
theorem c_X7_keep (l : Launch) (g : GT) (sz : Nat) (hζ : Nat) (Aζ : Nat → Nat) (xζ yζ : Int32) : Ci l yX7_keep wsX7_keep { frames := 2, cells := 0, slots := 0, locals := 47 } g sz [.ref hζ, .int xζ, .int yζ] [(hζ, .inr (7, oM Aζ iM0)), aI g (Aζ 0) 121 (fun _ => 0)] (keepF xζ yζ) [] := by
  refine gMet_i (cc := cX7_keep) (maxL := 6) (ret := (some .int)) (by decide) rfl (Nat.le_of_ble_eq_true rfl) ?_
  intro p e s m args below meth c Z hx hb hr F hlk hnm hK hN hA H locs hP hD hS ls hl
  have hl : lv_has ls 6 [(0, .ref hζ), (1, .int xζ), (2, .int yζ)] := hl
  have F : CallFix p m c cX7_keep 6 s args wsX7_keep RX7 := F
  have hts := F.2.2.2.2
  have hown : s.vm.findClass RX7 = some m.cls := F.2.2.2.1
  refine lv_iload_n hx hb dX7_keep_0 rfl (lv_at hl 1 rfl) ?_
  refine gcP (As := [.int xζ]) (rest := []) F (c_X7_isHouse l xζ) gX7_keep_X7_isHouse kX7_isHouse rfl rfl rfl ⟨(Nat.le_of_ble_eq_true rfl), (Nat.le_of_ble_eq_true rfl)⟩ rfl rfl hl.1 (Nat.le_of_ble_eq_true rfl) dX7_keep_1 ⟨(Nat.le_of_ble_eq_true rfl), (Nat.le_of_ble_eq_true rfl)⟩ ?_
  refine lv_if_ne (tgt := 9) hx hb dX7_keep_4 (by decide) (fun c_1 => ?_) (fun c_1 => ?_)
  · have c_1 : inB xζ 0 9 = true := bI_1 c_1
    refine lv_iload_n hx hb dX7_keep_9 rfl (lv_at hl 2 rfl) ?_
    refine lv_i2l (v := yζ.toInt64) hx hb dX7_keep_10 rfl ?_
    refine lv_lconst (v := 0) hx hb dX7_keep_11 (by decide) ?_
    refine lv_lconst (v := 1) hx hb dX7_keep_12 (by decide) ?_
    refine gcP (As := [.long yζ.toInt64, .long 0, .long 1]) (rest := []) F (c_X7_in l yζ.toInt64 0 1) gX7_keep_X7_in kX7_in rfl rfl rfl ⟨(Nat.le_of_ble_eq_true rfl), (Nat.le_of_ble_eq_true rfl)⟩ rfl rfl hl.1 (Nat.le_of_ble_eq_true rfl) dX7_keep_13 ⟨(Nat.le_of_ble_eq_true rfl), (Nat.le_of_ble_eq_true rfl)⟩ ?_
    refine gtop (y := bI (inB yζ 0 1)) (congrArg bI (inL_i (lo := 0) (hi := 1) (by decide) (by decide))) ?_
    refine lv_if_ne (tgt := 22) hx hb dX7_keep_16 (by decide) (fun c_2 => ?_) (fun c_2 => ?_)
    · have c_2 : inB yζ 0 1 = true := bI_1 c_2
      obtain ⟨iζ, hiζ, eiζ⟩ := inB_nat (N := 10) (by decide) c_1
      have hl : lv_has ls 6 [(0, .ref hζ), (1, .int (nI iζ)), (2, .int yζ)] := by first | exact hl | (rw [← (eiζ : xζ = nI iζ)]; exact hl)
      refine lv_bipush (v := (-6)) hx hb dX7_keep_22 (by decide) ?_
      refine lv_istore_n (lv' := [(3, .int (-6)), (0, .ref hζ), (1, .int (nI iζ)), (2, .int yζ)]) hx hb dX7_keep_24 rfl hl (by decide) rfl (fun ls hl => ?_)
      refine lv_iconst (v := 0) hx hb dX7_keep_25 (by decide) ?_
      refine lv_istore (lv' := [(4, .int 0), (3, .int (-6)), (0, .ref hζ), (1, .int (nI iζ)), (2, .int yζ)]) hx hb dX7_keep_26 hl (by decide) rfl (fun ls hl => ?_)
      refine lv_iload hx hb dX7_keep_28 (lv_at hl 0 rfl) ?_
      refine lv_sipush (v := 1024) hx hb dX7_keep_30 (by decide) ?_
      refine lv_icmp_ge (tgt := 96) hx hb dX7_keep_33 (by decide) (fun c_3 => ?_) (fun c_3 => ?_)
      · exact absurd c_3 (by decide)
      · refine lv_iload hx hb dX7_keep_36 (lv_at hl 0 rfl) ?_
        refine lv_iload_n hx hb dX7_keep_38 rfl (lv_at hl 3 rfl) ?_
        refine lv_ishr hx hb dX7_keep_39 ?_
        refine lv_iconst (v := 1) hx hb dX7_keep_40 (by decide) ?_
        refine lv_iand hx hb dX7_keep_41 ?_
        refine gtop (y := 0) (shr_and0 _) ?_
        refine lv_if_ne (tgt := 65) hx hb dX7_keep_42 (by decide) (fun c_4 => ?_) (fun c_4 => ?_)
        · exact absurd (by decide) c_4
        · refine lv_iload_n hx hb dX7_keep_45 rfl (lv_at hl 1 rfl) ?_
          refine lv_if_lt (tgt := 61) hx hb dX7_keep_46 (by decide) (fun c_5 => ?_) (fun c_5 => ?_)
          · refine lv_iconst (v := 1) hx hb dX7_keep_61 (by decide) ?_
            refine lv_goto (tgt := 66) hx hb dX7_keep_62 (by decide) ?_
            refine lv_istore (lv' := [(5, .int 1), (4, .int 0), (3, .int (-6)), (0, .ref hζ), (1, .int (nI iζ)), (2, .int yζ)]) hx hb dX7_keep_66 hl (by decide) rfl (fun ls hl => ?_)
            refine lv_iload hx hb dX7_keep_68 (lv_at hl 0 rfl) ?_
            refine lv_if_eq (tgt := 88) hx hb dX7_keep_70 (by decide) (fun c_6 => ?_) (fun c_6 => ?_)
            · exact absurd c_6 (by decide)
            · refine lv_aload_n hx hb dX7_keep_73 rfl (lv_at hl 3 rfl) ?_
              refine lv_iload_n hx hb dX7_keep_74 rfl (lv_at hl 4 rfl) ?_
              refine lv_iload hx hb dX7_keep_75 (lv_at hl 1 rfl) ?_
              refine gcV_i (As := [.int (nI iζ), .int 0]) (rest := []) (ci := 7) (q := (RX7, TX7, 34)) F hK hN hP hD hS hA (c_X7_isKept l g H.size hζ Aζ iM0 iζ (by omega)) gX7_keep_X7_isKept kX7_isKept rfl rfl rfl rfl ⟨(Nat.le_of_ble_eq_true rfl), (Nat.le_of_ble_eq_true rfl)⟩ [0, 1] [] rfl rfl rfl (by decide) rfl rfl rfl rfl rfl hl.1 (Nat.le_of_ble_eq_true rfl) dX7_keep_77 ⟨(Nat.le_of_ble_eq_true rfl), (Nat.le_of_ble_eq_true rfl)⟩ (fun r_w u_w H locs hw hP hD hS => ?_)
              have hP : va_P g.1 vwCl [(hζ, .inr (7, oM Aζ iM0)), aI g (Aζ 0) 121 (fun _ => 0)] H := hP
              have hD : va_D Z [(hζ, .inr (7, oM Aζ iM0)), aI g (Aζ 0) 121 (fun _ => 0)] := hD
              obtain rfl := hw
              refine lv_if_eq (tgt := 88) hx hb dX7_keep_80 (by decide) (fun c_7 => ?_) (fun c_7 => ?_)
              · exact absurd c_7 (by decide)
              · refine lv_iload hx hb dX7_keep_83 (lv_at hl 1 rfl) ?_
                refine lv_goto (tgt := 89) hx hb dX7_keep_85 (by decide) ?_
                refine lv_istore_n (lv' := [(3, .int 0), (5, .int 1), (4, .int 0), (0, .ref hζ), (1, .int (nI iζ)), (2, .int yζ)]) hx hb dX7_keep_89 rfl hl (by decide) rfl (fun ls hl => ?_)
                refine lv_iinc (v := 1) (lv' := [(4, .int 1), (3, .int 0), (5, .int 1), (0, .ref hζ), (1, .int (nI iζ)), (2, .int yζ)]) hx hb dX7_keep_90 hl (k := 2) rfl (by decide) (by decide) rfl (fun ls hl => ?_)
                refine lv_goto (tgt := 28) hx hb dX7_keep_93 (by decide) ?_
                refine gloop (σ := Nat) (fun u0 => 1024 - u0) (fun u0 => u0 ≤ 1024) (fun u0 => [(hζ, .inr (7, oM Aζ iM0)), aI g (Aζ 0) 121 (fun _ => 0)]) (fun u0 => [(4, .int (nI u0)), (3, .int 0), (0, .ref hζ), (1, .int (nI iζ)), (2, .int yζ)]) ?_ 1 (by first | omega | decide | rfl) (hP.sub [0, 1] rfl) (hD.sub [0, 1] (by decide) rfl) hS (lv_sub hl [0, 1, 3, 4, 5] rfl)
                rintro nζ hnζ ih28 H locs ls hP hD hS hl
                have hnζ : nζ ≤ 1024 := hnζ
                have hP : va_P g.1 vwCl [(hζ, .inr (7, oM Aζ iM0)), aI g (Aζ 0) 121 (fun _ => 0)] H := hP
                have hD : va_D Z [(hζ, .inr (7, oM Aζ iM0)), aI g (Aζ 0) 121 (fun _ => 0)] := hD
                have hl : lv_has ls 6 [(4, .int (nI nζ)), (3, .int 0), (0, .ref hζ), (1, .int (nI iζ)), (2, .int yζ)] := hl
                refine lv_iload hx hb dX7_keep_28 (lv_at hl 0 rfl) ?_
                refine lv_sipush (v := 1024) hx hb dX7_keep_30 (by decide) ?_
                refine lv_icmp_ge (tgt := 96) hx hb dX7_keep_33 (by decide) (fun c_8 => ?_) (fun c_8 => ?_)
                · have c_8 : 1024 ≤ nζ := (nI_leI (a := 1024) (b := nζ) (by omega) (by omega)).mp c_8
                  refine lv_iload_n hx hb dX7_keep_96 rfl (lv_at hl 1 rfl) ?_
                  refine lv_if_lt (tgt := 105) hx hb dX7_keep_97 (by decide) (fun c_9 => ?_) (fun c_9 => ?_)
                  · exact absurd c_9 (by decide)
                  · refine lv_iload_n hx hb dX7_keep_100 rfl (lv_at hl 4 rfl) ?_
                    refine lv_iconst (v := 1) hx hb dX7_keep_101 (by decide) ?_
                    refine lv_icmp_ne (tgt := 109) hx hb dX7_keep_102 (by decide) (fun c_10 => ?_) (fun c_10 => ?_)
                    · refine lv_iload_n hx hb dX7_keep_109 rfl (lv_at hl 1 rfl) ?_
                      refine gcP (As := [.int 0]) (rest := []) F (c_X7_ones_0 l ) gX7_keep_X7_ones kX7_ones rfl rfl rfl ⟨(Nat.le_of_ble_eq_true rfl), (Nat.le_of_ble_eq_true rfl)⟩ rfl rfl hl.1 (Nat.le_of_ble_eq_true rfl) dX7_keep_110 ⟨(Nat.le_of_ble_eq_true rfl), (Nat.le_of_ble_eq_true rfl)⟩ ?_
                      exact r_iret hx hb hr hlk hS () (by unfold keepF; rw [if_pos c_1, if_pos c_2]) (hP.sub [] rfl) (hD.sub [] (by decide) rfl) dX7_keep_113
                    · refine lv_iload_n hx hb dX7_keep_105 rfl (lv_at hl 1 rfl) ?_
                      refine lv_goto (tgt := 113) hx hb dX7_keep_106 (by decide) ?_
                      exact r_iret hx hb hr hlk hS () (by unfold keepF; rw [if_pos c_1, if_pos c_2]) (hP.sub [] rfl) (hD.sub [] (by decide) rfl) dX7_keep_113
                · have c_8 : ¬ 1024 ≤ nζ := fun z => c_8 ((nI_leI (a := 1024) (b := nζ) (by omega) (by omega)).mpr z)
                  refine lv_iload hx hb dX7_keep_36 (lv_at hl 0 rfl) ?_
                  refine lv_iload_n hx hb dX7_keep_38 rfl (lv_at hl 3 rfl) ?_
                  refine lv_ishr hx hb dX7_keep_39 ?_
                  refine lv_iconst (v := 1) hx hb dX7_keep_40 (by decide) ?_
                  refine lv_iand hx hb dX7_keep_41 ?_
                  refine lv_if_ne (tgt := 65) hx hb dX7_keep_42 (by decide) (fun c_11 => ?_) (fun c_11 => ?_)
                  · refine lv_iconst (v := 0) hx hb dX7_keep_65 (by decide) ?_
                    refine lv_istore (lv' := [(5, .int 0), (4, .int (nI nζ)), (3, .int 0), (0, .ref hζ), (1, .int (nI iζ)), (2, .int yζ)]) hx hb dX7_keep_66 hl (by decide) rfl (fun ls hl => ?_)
                    refine lv_iload hx hb dX7_keep_68 (lv_at hl 0 rfl) ?_
                    refine lv_if_eq (tgt := 88) hx hb dX7_keep_70 (by decide) (fun c_12 => ?_) (fun c_12 => ?_)
                    · refine lv_iload_n hx hb dX7_keep_88 rfl (lv_at hl 2 rfl) ?_
                      refine lv_istore_n (lv' := [(3, .int 0), (5, .int 0), (4, .int (nI nζ)), (0, .ref hζ), (1, .int (nI iζ)), (2, .int yζ)]) hx hb dX7_keep_89 rfl hl (by decide) rfl (fun ls hl => ?_)
                      refine lv_iinc (v := nI (nζ + 1)) (lv' := [(4, .int (nI (nζ + 1))), (3, .int 0), (5, .int 0), (0, .ref hζ), (1, .int (nI iζ)), (2, .int yζ)]) hx hb dX7_keep_90 hl (k := 2) rfl (nI_1 nζ) (by decide) rfl (fun ls hl => ?_)
                      refine lv_goto (tgt := 28) hx hb dX7_keep_93 (by decide) ?_
                      exact ih28 (nζ + 1) (by first | omega | (dsimp only; omega)) (by first | omega | (dsimp only; omega)) _ _ _ (hP.sub [0, 1] rfl) (hD.sub [0, 1] (by decide) rfl) hS (lv_sub hl [0, 1, 3, 4, 5] rfl)
                    · exact absurd (by decide) c_12
                  · refine lv_iload_n hx hb dX7_keep_45 rfl (lv_at hl 1 rfl) ?_
                    refine lv_if_lt (tgt := 61) hx hb dX7_keep_46 (by decide) (fun c_13 => ?_) (fun c_13 => ?_)
                    · exact absurd c_13 (by decide)
                    · refine lv_iload hx hb dX7_keep_49 (lv_at hl 0 rfl) ?_
                      refine gcS_i (As := [.int (nI nζ)]) (rest := []) F hK hN hP hD hS hA (c_X7_ones l g H.size nζ (by omega)) gX7_keep_X7_ones kX7_ones rfl rfl rfl ⟨(Nat.le_of_ble_eq_true rfl), (Nat.le_of_ble_eq_true rfl)⟩ [] [0, 1] rfl rfl rfl (by decide) rfl rfl rfl hl.1 (Nat.le_of_ble_eq_true rfl) dX7_keep_51 ⟨(Nat.le_of_ble_eq_true rfl), (Nat.le_of_ble_eq_true rfl)⟩ (fun r_w u_w H locs hw hP hD hS => ?_)
                      have hP : va_P g.1 vwCl [(hζ, .inr (7, oM Aζ iM0)), aI g (Aζ 0) 121 (fun _ => 0)] H := hP
                      have hD : va_D Z [(hζ, .inr (7, oM Aζ iM0)), aI g (Aζ 0) 121 (fun _ => 0)] := hD
                      obtain ⟨r_14, hr_14, rfl⟩ := hw
                      refine lv_iload_n hx hb dX7_keep_54 rfl (lv_at hl 1 rfl) ?_
                      refine gcP (As := [.int 0]) (rest := [.int (nI r_14)]) F (c_X7_ones_0 l ) gX7_keep_X7_ones kX7_ones rfl rfl rfl ⟨(Nat.le_of_ble_eq_true rfl), (Nat.le_of_ble_eq_true rfl)⟩ rfl rfl hl.1 (Nat.le_of_ble_eq_true rfl) dX7_keep_55 ⟨(Nat.le_of_ble_eq_true rfl), (Nat.le_of_ble_eq_true rfl)⟩ ?_
                      refine lv_icmp_ge (tgt := 65) hx hb dX7_keep_58 (by decide) (fun c_15 => ?_) (fun c_15 => ?_)
                      · have c_15 : 0 ≤ r_14 := (nI_leI (a := 0) (b := r_14) (by omega) (by omega)).mp c_15
                        refine lv_iconst (v := 0) hx hb dX7_keep_65 (by decide) ?_
                        refine lv_istore (lv' := [(5, .int 0), (4, .int (nI nζ)), (3, .int 0), (0, .ref hζ), (1, .int (nI iζ)), (2, .int yζ)]) hx hb dX7_keep_66 hl (by decide) rfl (fun ls hl => ?_)
                        refine lv_iload hx hb dX7_keep_68 (lv_at hl 0 rfl) ?_
                        refine lv_if_eq (tgt := 88) hx hb dX7_keep_70 (by decide) (fun c_16 => ?_) (fun c_16 => ?_)
                        · refine lv_iload_n hx hb dX7_keep_88 rfl (lv_at hl 2 rfl) ?_
                          refine lv_istore_n (lv' := [(3, .int 0), (5, .int 0), (4, .int (nI nζ)), (0, .ref hζ), (1, .int (nI iζ)), (2, .int yζ)]) hx hb dX7_keep_89 rfl hl (by decide) rfl (fun ls hl => ?_)
                          refine lv_iinc (v := nI (nζ + 1)) (lv' := [(4, .int (nI (nζ + 1))), (3, .int 0), (5, .int 0), (0, .ref hζ), (1, .int (nI iζ)), (2, .int yζ)]) hx hb dX7_keep_90 hl (k := 2) rfl (nI_1 nζ) (by decide) rfl (fun ls hl => ?_)
                          refine lv_goto (tgt := 28) hx hb dX7_keep_93 (by decide) ?_
                          exact ih28 (nζ + 1) (by first | omega | (dsimp only; omega)) (by first | omega | (dsimp only; omega)) _ _ _ (hP.sub [0, 1] rfl) (hD.sub [0, 1] (by decide) rfl) hS (lv_sub hl [0, 1, 3, 4, 5] rfl)
                        · exact absurd (by decide) c_16
                      · exact absurd (nI_pos' (by assumption)) c_15
          · exact absurd (by decide) c_5
    · have c_2 : inB yζ 0 1 = false := bI_0 c_2
      refine lv_bipush (v := (-2)) hx hb dX7_keep_19 (by decide) ?_
      exact r_iret hx hb hr hlk hS () (by unfold keepF; rw [if_pos c_1, if_neg (bF c_2)]) (hP.sub [] rfl) (hD.sub [] (by decide) rfl) dX7_keep_21
  · have c_1 : inB xζ 0 9 = false := bI_0 c_1
    refine lv_iconst (v := (-1)) hx hb dX7_keep_7 (by decide) ?_
    exact r_iret hx hb hr hlk hS () (by unfold keepF; rw [if_neg (bF c_1)]) (hP.sub [] rfl) (hD.sub [] (by decide) rfl) dX7_keep_8

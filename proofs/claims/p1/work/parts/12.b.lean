theorem kX7_keepNow : YOk yX7_keepNow 0 := by decide +kernel
theorem kX7_back : YOk yX7_back 1 := by decide +kernel
theorem kX7_goNights : YOk yX7_goNights 0 := by decide +kernel
theorem kX7_refusal : YOk yX7_refusal 0 := by decide +kernel
theorem kX7_judge : YOk yX7_judge 1 := by decide +kernel
theorem kX7_ofHouse : YOk yX7_ofHouse 2 := by decide +kernel
theorem kX7_behind : YOk yX7_behind 2 := by decide +kernel
theorem kX7_ofPan : YOk yX7_ofPan 1 := by decide +kernel
theorem kX7_pan : YOk yX7_pan 1 := by decide +kernel
theorem kX7_believing : YOk yX7_believing 1 := by decide +kernel
theorem kX7_holds : YOk yX7_holds 1 := by decide +kernel
theorem kX7_other : YOk yX7_other 1 := by decide +kernel
theorem kX7_done : YOk yX7_done 0 := by decide +kernel
set_option maxHeartbeats 4000000 in
set_option maxRecDepth 100000 in
theorem c_X7_keepNow (l : Launch) (g : GT) (sz : Nat) (hζ : Nat) (Aζ : Nat → Nat)  : Cv l yX7_keepNow wsX7_keepNow { frames := 0, cells := 0, slots := 0, locals := 0 } g sz [.ref hζ] [(hζ, .inr (7, oM Aζ iM0)), aI g (Aζ 1) 10 (fun _ => 5), aI g (Aζ 2) 10 (fun _ => 0), aI g (Aζ 3) 10 (fun _ => (-6)), aI g (Aζ 18) 34 (fun _ => 0)] [(hζ, .inr (7, oM Aζ iM0)), aI g (Aζ 1) 10 (fun _ => 5), aI g (Aζ 2) 10 (fun _ => 0), aI g (Aζ 3) 10 (fun _ => (-6)), aI g (Aζ 18) 34 hdF] := by
  refine gMet_v (cc := cX7_keepNow) (maxL := 2) (ret := none) (by decide) rfl (Nat.le_of_ble_eq_true rfl) ?_
  intro p e s m args below meth c Z hx hb hr F hlk hnm hK hN hA H locs hP hD hS ls hl
  have hl : lv_has ls 2 [(0, .ref hζ)] := hl
  have F : CallFix p m c cX7_keepNow 2 s args wsX7_keepNow RX7 := F
  have hts := F.2.2.2.2
  have hown : s.vm.findClass RX7 = some m.cls := F.2.2.2.1
  have hi7 : ∀ w ∈ u_ws RX7 TX7 34, w ∈ wsX7_keepNow := by decide +kernel
  refine lv_iconst (v := 0) hx hb dX7_keepNow_0 (by decide) ?_
  refine lv_istore_n (lv' := [(1, .int 0), (0, .ref hζ)]) hx hb dX7_keepNow_1 rfl hl (by decide) rfl (fun ls hl => ?_)
  obtain ⟨hP, hD⟩ := r_extI hP hD 4 rfl (f' := hkF (fun _ => 0) 0) hk_0
  have hP : va_P g.1 vwCl [(hζ, .inr (7, oM Aζ iM0)), aI g (Aζ 1) 10 (fun _ => 5), aI g (Aζ 2) 10 (fun _ => 0), aI g (Aζ 3) 10 (fun _ => (-6)), aI g (Aζ 18) 34 (hkF (fun _ => 0) 0)] H := hP
  have hD : va_D Z [(hζ, .inr (7, oM Aζ iM0)), aI g (Aζ 1) 10 (fun _ => 5), aI g (Aζ 2) 10 (fun _ => 0), aI g (Aζ 3) 10 (fun _ => (-6)), aI g (Aζ 18) 34 (hkF (fun _ => 0) 0)] := hD
  refine gloop (σ := Nat) (fun u0 => 10 - u0) (fun u0 => u0 ≤ 10) (fun u0 => [(hζ, .inr (7, oM Aζ iM0)), aI g (Aζ 1) 10 (fun _ => 5), aI g (Aζ 2) 10 (fun _ => 0), aI g (Aζ 3) 10 (fun _ => (-6)), aI g (Aζ 18) 34 (hkF (fun _ => 0) u0)]) (fun u0 => [(1, .int (nI u0)), (0, .ref hζ)]) ?_ 0 (by first | omega | decide | rfl) (hP.sub [0, 1, 2, 3, 4] rfl) (hD.sub [0, 1, 2, 3, 4] (by decide) rfl) hS (lv_sub hl [0, 1] rfl)
  rintro iζ hiζ ih2 H locs ls hP hD hS hl
  have hiζ : iζ ≤ 10 := hiζ
  have hP : va_P g.1 vwCl [(hζ, .inr (7, oM Aζ iM0)), aI g (Aζ 1) 10 (fun _ => 5), aI g (Aζ 2) 10 (fun _ => 0), aI g (Aζ 3) 10 (fun _ => (-6)), aI g (Aζ 18) 34 (hkF (fun _ => 0) iζ)] H := hP
  have hD : va_D Z [(hζ, .inr (7, oM Aζ iM0)), aI g (Aζ 1) 10 (fun _ => 5), aI g (Aζ 2) 10 (fun _ => 0), aI g (Aζ 3) 10 (fun _ => (-6)), aI g (Aζ 18) 34 (hkF (fun _ => 0) iζ)] := hD
  have hl : lv_has ls 2 [(1, .int (nI iζ)), (0, .ref hζ)] := hl
  refine lv_iload_n hx hb dX7_keepNow_2 rfl (lv_at hl 0 rfl) ?_
  refine lv_bipush (v := 10) hx hb dX7_keepNow_3 (by decide) ?_
  refine lv_icmp_ge (tgt := 56) hx hb dX7_keepNow_5 (by decide) (fun c_1 => ?_) (fun c_1 => ?_)
  · have c_1 : 10 ≤ iζ := (nI_leI (a := 10) (b := iζ) (by omega) (by omega)).mp c_1
    obtain rfl : iζ = 10 := by omega
    skip
    refine lv_aload_n hx hb dX7_keepNow_56 rfl (lv_at hl 1 rfl) ?_
    refine va_get (D := g.1) (ci := 7) (v := .ref (Aζ 18)) (C := RX7) (T := TX7) (N := 34) hx hb hts hi7 hown hK hP 0 rfl rfl 18 (by decide) (hts (.fieldLink RX7 43 "PanTalesModel" "had" "[I") (by decide +kernel)) (fun _ h9 => h9) rfl dX7_keepNow_57 ?_
    refine lv_bipush (v := 30) hx hb dX7_keepNow_60 (by decide) ?_
    refine lv_aload_n hx hb dX7_keepNow_62 rfl (lv_at hl 1 rfl) ?_
    refine va_get (D := g.1) (ci := 7) (v := .int 10) (C := RX7) (T := TX7) (N := 34) hx hb hts hi7 hown hK hP 0 rfl rfl 5 (by decide) (hts (.fieldLink RX7 72 "PanTalesModel" "panPlace" "I") (by decide +kernel)) (fun _ h9 => h9) rfl dX7_keepNow_63 ?_
    refine r_iast (f' := upd (hkF (fun _ => 0) 10) 30 10) hx hb hK hP hD hS 4 rfl (vp_in_nI (n := 30) (by decide) (by decide)) (fun k_u _ => congrArg (fun z_u => upd (hkF (fun _ => 0) 10) z_u 10 k_u) (nI_clamp (n := 30) (by decide))) dX7_keepNow_66 (fun H locs hP hD hS => ?_)
    have hP : va_P g.1 vwCl [(hζ, .inr (7, oM Aζ iM0)), aI g (Aζ 1) 10 (fun _ => 5), aI g (Aζ 2) 10 (fun _ => 0), aI g (Aζ 3) 10 (fun _ => (-6)), aI g (Aζ 18) 34 (upd (hkF (fun _ => 0) 10) 30 10)] H := hP
    have hD : va_D Z [(hζ, .inr (7, oM Aζ iM0)), aI g (Aζ 1) 10 (fun _ => 5), aI g (Aζ 2) 10 (fun _ => 0), aI g (Aζ 3) 10 (fun _ => (-6)), aI g (Aζ 18) 34 (upd (hkF (fun _ => 0) 10) 30 10)] := hD
    refine lv_aload_n hx hb dX7_keepNow_67 rfl (lv_at hl 1 rfl) ?_
    refine va_get (D := g.1) (ci := 7) (v := .ref (Aζ 18)) (C := RX7) (T := TX7) (N := 34) hx hb hts hi7 hown hK hP 0 rfl rfl 18 (by decide) (hts (.fieldLink RX7 43 "PanTalesModel" "had" "[I") (by decide +kernel)) (fun _ h9 => h9) rfl dX7_keepNow_68 ?_
    refine lv_bipush (v := 31) hx hb dX7_keepNow_71 (by decide) ?_
    refine lv_aload_n hx hb dX7_keepNow_73 rfl (lv_at hl 1 rfl) ?_
    refine va_get (D := g.1) (ci := 7) (v := .int 0) (C := RX7) (T := TX7) (N := 34) hx hb hts hi7 hown hK hP 0 rfl rfl 6 (by decide) (hts (.fieldLink RX7 127 "PanTalesModel" "heat" "I") (by decide +kernel)) (fun _ h9 => h9) rfl dX7_keepNow_74 ?_
    refine r_iast (f' := upd (upd (hkF (fun _ => 0) 10) 30 10) 31 0) hx hb hK hP hD hS 4 rfl (vp_in_nI (n := 31) (by decide) (by decide)) (fun k_u _ => congrArg (fun z_u => upd (upd (hkF (fun _ => 0) 10) 30 10) z_u 0 k_u) (nI_clamp (n := 31) (by decide))) dX7_keepNow_77 (fun H locs hP hD hS => ?_)
    have hP : va_P g.1 vwCl [(hζ, .inr (7, oM Aζ iM0)), aI g (Aζ 1) 10 (fun _ => 5), aI g (Aζ 2) 10 (fun _ => 0), aI g (Aζ 3) 10 (fun _ => (-6)), aI g (Aζ 18) 34 (upd (upd (hkF (fun _ => 0) 10) 30 10) 31 0)] H := hP
    have hD : va_D Z [(hζ, .inr (7, oM Aζ iM0)), aI g (Aζ 1) 10 (fun _ => 5), aI g (Aζ 2) 10 (fun _ => 0), aI g (Aζ 3) 10 (fun _ => (-6)), aI g (Aζ 18) 34 (upd (upd (hkF (fun _ => 0) 10) 30 10) 31 0)] := hD
    refine lv_aload_n hx hb dX7_keepNow_78 rfl (lv_at hl 1 rfl) ?_
    refine va_get (D := g.1) (ci := 7) (v := .ref (Aζ 18)) (C := RX7) (T := TX7) (N := 34) hx hb hts hi7 hown hK hP 0 rfl rfl 18 (by decide) (hts (.fieldLink RX7 43 "PanTalesModel" "had" "[I") (by decide +kernel)) (fun _ h9 => h9) rfl dX7_keepNow_79 ?_
    refine lv_bipush (v := 32) hx hb dX7_keepNow_82 (by decide) ?_
    refine lv_aload_n hx hb dX7_keepNow_84 rfl (lv_at hl 1 rfl) ?_
    refine va_get (D := g.1) (ci := 7) (v := .int 0) (C := RX7) (T := TX7) (N := 34) hx hb hts hi7 hown hK hP 0 rfl rfl 7 (by decide) (hts (.fieldLink RX7 136 "PanTalesModel" "panTale" "I") (by decide +kernel)) (fun _ h9 => h9) rfl dX7_keepNow_85 ?_
    refine r_iast (f' := upd (upd (upd (hkF (fun _ => 0) 10) 30 10) 31 0) 32 0) hx hb hK hP hD hS 4 rfl (vp_in_nI (n := 32) (by decide) (by decide)) (fun k_u _ => congrArg (fun z_u => upd (upd (upd (hkF (fun _ => 0) 10) 30 10) 31 0) z_u 0 k_u) (nI_clamp (n := 32) (by decide))) dX7_keepNow_88 (fun H locs hP hD hS => ?_)
    have hP : va_P g.1 vwCl [(hζ, .inr (7, oM Aζ iM0)), aI g (Aζ 1) 10 (fun _ => 5), aI g (Aζ 2) 10 (fun _ => 0), aI g (Aζ 3) 10 (fun _ => (-6)), aI g (Aζ 18) 34 (upd (upd (upd (hkF (fun _ => 0) 10) 30 10) 31 0) 32 0)] H := hP
    have hD : va_D Z [(hζ, .inr (7, oM Aζ iM0)), aI g (Aζ 1) 10 (fun _ => 5), aI g (Aζ 2) 10 (fun _ => 0), aI g (Aζ 3) 10 (fun _ => (-6)), aI g (Aζ 18) 34 (upd (upd (upd (hkF (fun _ => 0) 10) 30 10) 31 0) 32 0)] := hD
    refine lv_aload_n hx hb dX7_keepNow_89 rfl (lv_at hl 1 rfl) ?_
    refine va_get (D := g.1) (ci := 7) (v := .ref (Aζ 18)) (C := RX7) (T := TX7) (N := 34) hx hb hts hi7 hown hK hP 0 rfl rfl 18 (by decide) (hts (.fieldLink RX7 43 "PanTalesModel" "had" "[I") (by decide +kernel)) (fun _ h9 => h9) rfl dX7_keepNow_90 ?_
    refine lv_bipush (v := 33) hx hb dX7_keepNow_93 (by decide) ?_
    refine lv_aload_n hx hb dX7_keepNow_95 rfl (lv_at hl 1 rfl) ?_
    refine va_get (D := g.1) (ci := 7) (v := .int 0) (C := RX7) (T := TX7) (N := 34) hx hb hts hi7 hown hK hP 0 rfl rfl 8 (by decide) (hts (.fieldLink RX7 130 "PanTalesModel" "mornings" "I") (by decide +kernel)) (fun _ h9 => h9) rfl dX7_keepNow_96 ?_
    refine r_iast (f' := upd (upd (upd (upd (hkF (fun _ => 0) 10) 30 10) 31 0) 32 0) 33 0) hx hb hK hP hD hS 4 rfl (vp_in_nI (n := 33) (by decide) (by decide)) (fun k_u _ => congrArg (fun z_u => upd (upd (upd (upd (hkF (fun _ => 0) 10) 30 10) 31 0) 32 0) z_u 0 k_u) (nI_clamp (n := 33) (by decide))) dX7_keepNow_99 (fun H locs hP hD hS => ?_)
    have hP : va_P g.1 vwCl [(hζ, .inr (7, oM Aζ iM0)), aI g (Aζ 1) 10 (fun _ => 5), aI g (Aζ 2) 10 (fun _ => 0), aI g (Aζ 3) 10 (fun _ => (-6)), aI g (Aζ 18) 34 (upd (upd (upd (upd (hkF (fun _ => 0) 10) 30 10) 31 0) 32 0) 33 0)] H := hP
    have hD : va_D Z [(hζ, .inr (7, oM Aζ iM0)), aI g (Aζ 1) 10 (fun _ => 5), aI g (Aζ 2) 10 (fun _ => 0), aI g (Aζ 3) 10 (fun _ => (-6)), aI g (Aζ 18) 34 (upd (upd (upd (upd (hkF (fun _ => 0) 10) 30 10) 31 0) 32 0) 33 0)] := hD
    exact r_vret hx hb hr hlk hS () trivial (hP.sub [0, 1, 2, 3, 4] rfl) (hD.sub [0, 1, 2, 3, 4] (by decide) rfl) dX7_keepNow_100
  · have c_1 : ¬ 10 ≤ iζ := fun z => c_1 ((nI_leI (a := 10) (b := iζ) (by omega) (by omega)).mpr z)
    refine lv_aload_n hx hb dX7_keepNow_8 rfl (lv_at hl 1 rfl) ?_
    refine va_get (D := g.1) (ci := 7) (v := .ref (Aζ 18)) (C := RX7) (T := TX7) (N := 34) hx hb hts hi7 hown hK hP 0 rfl rfl 18 (by decide) (hts (.fieldLink RX7 43 "PanTalesModel" "had" "[I") (by decide +kernel)) (fun _ h9 => h9) rfl dX7_keepNow_9 ?_
    refine lv_iload_n hx hb dX7_keepNow_12 rfl (lv_at hl 0 rfl) ?_
    refine lv_aload_n hx hb dX7_keepNow_13 rfl (lv_at hl 1 rfl) ?_
    refine va_get (D := g.1) (ci := 7) (v := .ref (Aζ 1)) (C := RX7) (T := TX7) (N := 34) hx hb hts hi7 hown hK hP 0 rfl rfl 1 (by decide) (hts (.fieldLink RX7 13 "PanTalesModel" "doubt" "[I") (by decide +kernel)) (fun _ h9 => h9) rfl dX7_keepNow_14 ?_
    refine lv_iload_n hx hb dX7_keepNow_17 rfl (lv_at hl 0 rfl) ?_
    refine r_iald (v := 5) hx hb hK hP 1 rfl (vp_in_nI (n := iζ) (by omega) (by omega)) (congrArg (fun _ => 5) (nI_clamp (n := iζ) (by omega))) dX7_keepNow_18 ?_
    refine r_iast (f' := upd (hkF (fun _ => 0) iζ) iζ 5) hx hb hK hP hD hS 4 rfl (vp_in_nI (n := iζ) (by omega) (by omega)) (fun k_u _ => congrArg (fun z_u => upd (hkF (fun _ => 0) iζ) z_u 5 k_u) (nI_clamp (n := iζ) (by omega))) dX7_keepNow_19 (fun H locs hP hD hS => ?_)
    have hP : va_P g.1 vwCl [(hζ, .inr (7, oM Aζ iM0)), aI g (Aζ 1) 10 (fun _ => 5), aI g (Aζ 2) 10 (fun _ => 0), aI g (Aζ 3) 10 (fun _ => (-6)), aI g (Aζ 18) 34 (upd (hkF (fun _ => 0) iζ) iζ 5)] H := hP
    have hD : va_D Z [(hζ, .inr (7, oM Aζ iM0)), aI g (Aζ 1) 10 (fun _ => 5), aI g (Aζ 2) 10 (fun _ => 0), aI g (Aζ 3) 10 (fun _ => (-6)), aI g (Aζ 18) 34 (upd (hkF (fun _ => 0) iζ) iζ 5)] := hD
    refine lv_aload_n hx hb dX7_keepNow_20 rfl (lv_at hl 1 rfl) ?_
    refine va_get (D := g.1) (ci := 7) (v := .ref (Aζ 18)) (C := RX7) (T := TX7) (N := 34) hx hb hts hi7 hown hK hP 0 rfl rfl 18 (by decide) (hts (.fieldLink RX7 43 "PanTalesModel" "had" "[I") (by decide +kernel)) (fun _ h9 => h9) rfl dX7_keepNow_21 ?_
    refine lv_bipush (v := 10) hx hb dX7_keepNow_24 (by decide) ?_
    refine lv_iload_n hx hb dX7_keepNow_26 rfl (lv_at hl 0 rfl) ?_
    refine lv_iadd hx hb dX7_keepNow_27 ?_
    refine gtop (y := nI (10 + iζ)) (nI_add 10 iζ) ?_
    refine lv_aload_n hx hb dX7_keepNow_28 rfl (lv_at hl 1 rfl) ?_
    refine va_get (D := g.1) (ci := 7) (v := .ref (Aζ 2)) (C := RX7) (T := TX7) (N := 34) hx hb hts hi7 hown hK hP 0 rfl rfl 2 (by decide) (hts (.fieldLink RX7 16 "PanTalesModel" "damp" "[I") (by decide +kernel)) (fun _ h9 => h9) rfl dX7_keepNow_29 ?_
    refine lv_iload_n hx hb dX7_keepNow_32 rfl (lv_at hl 0 rfl) ?_
    refine r_iald (v := 0) hx hb hK hP 2 rfl (vp_in_nI (n := iζ) (by omega) (by omega)) (congrArg (fun _ => 0) (nI_clamp (n := iζ) (by omega))) dX7_keepNow_33 ?_
    refine r_iast (f' := upd (upd (hkF (fun _ => 0) iζ) iζ 5) (10 + iζ) 0) hx hb hK hP hD hS 4 rfl (vp_in_nI (n := 10 + iζ) (by omega) (by omega)) (fun k_u _ => congrArg (fun z_u => upd (upd (hkF (fun _ => 0) iζ) iζ 5) z_u 0 k_u) (nI_clamp (n := 10 + iζ) (by omega))) dX7_keepNow_34 (fun H locs hP hD hS => ?_)
    have hP : va_P g.1 vwCl [(hζ, .inr (7, oM Aζ iM0)), aI g (Aζ 1) 10 (fun _ => 5), aI g (Aζ 2) 10 (fun _ => 0), aI g (Aζ 3) 10 (fun _ => (-6)), aI g (Aζ 18) 34 (upd (upd (hkF (fun _ => 0) iζ) iζ 5) (10 + iζ) 0)] H := hP
    have hD : va_D Z [(hζ, .inr (7, oM Aζ iM0)), aI g (Aζ 1) 10 (fun _ => 5), aI g (Aζ 2) 10 (fun _ => 0), aI g (Aζ 3) 10 (fun _ => (-6)), aI g (Aζ 18) 34 (upd (upd (hkF (fun _ => 0) iζ) iζ 5) (10 + iζ) 0)] := hD
    refine lv_aload_n hx hb dX7_keepNow_35 rfl (lv_at hl 1 rfl) ?_
    refine va_get (D := g.1) (ci := 7) (v := .ref (Aζ 18)) (C := RX7) (T := TX7) (N := 34) hx hb hts hi7 hown hK hP 0 rfl rfl 18 (by decide) (hts (.fieldLink RX7 43 "PanTalesModel" "had" "[I") (by decide +kernel)) (fun _ h9 => h9) rfl dX7_keepNow_36 ?_
    refine lv_bipush (v := 20) hx hb dX7_keepNow_39 (by decide) ?_
    refine lv_iload_n hx hb dX7_keepNow_41 rfl (lv_at hl 0 rfl) ?_
    refine lv_iadd hx hb dX7_keepNow_42 ?_
    refine gtop (y := nI (20 + iζ)) (nI_add 20 iζ) ?_
    refine lv_aload_n hx hb dX7_keepNow_43 rfl (lv_at hl 1 rfl) ?_
    refine va_get (D := g.1) (ci := 7) (v := .ref (Aζ 3)) (C := RX7) (T := TX7) (N := 34) hx hb hts hi7 hown hK hP 0 rfl rfl 3 (by decide) (hts (.fieldLink RX7 19 "PanTalesModel" "believes" "[I") (by decide +kernel)) (fun _ h9 => h9) rfl dX7_keepNow_44 ?_
    refine lv_iload_n hx hb dX7_keepNow_47 rfl (lv_at hl 0 rfl) ?_
    refine r_iald (v := (-6)) hx hb hK hP 3 rfl (vp_in_nI (n := iζ) (by omega) (by omega)) (congrArg (fun _ => (-6)) (nI_clamp (n := iζ) (by omega))) dX7_keepNow_48 ?_
    refine r_iast (f' := hkF (fun _ => 0) (iζ + 1)) hx hb hK hP hD hS 4 rfl (vp_in_nI (n := 20 + iζ) (by omega) (by omega)) (hk_s (nI_clamp (n := 20 + iζ) (by omega)) (by omega)) dX7_keepNow_49 (fun H locs hP hD hS => ?_)
    have hP : va_P g.1 vwCl [(hζ, .inr (7, oM Aζ iM0)), aI g (Aζ 1) 10 (fun _ => 5), aI g (Aζ 2) 10 (fun _ => 0), aI g (Aζ 3) 10 (fun _ => (-6)), aI g (Aζ 18) 34 (hkF (fun _ => 0) (iζ + 1))] H := hP
    have hD : va_D Z [(hζ, .inr (7, oM Aζ iM0)), aI g (Aζ 1) 10 (fun _ => 5), aI g (Aζ 2) 10 (fun _ => 0), aI g (Aζ 3) 10 (fun _ => (-6)), aI g (Aζ 18) 34 (hkF (fun _ => 0) (iζ + 1))] := hD
    refine lv_iinc (v := nI (iζ + 1)) (lv' := [(1, .int (nI (iζ + 1))), (0, .ref hζ)]) hx hb dX7_keepNow_50 hl (k := 0) rfl (nI_1 iζ) (by decide) rfl (fun ls hl => ?_)
    refine lv_goto (tgt := 2) hx hb dX7_keepNow_53 (by decide) ?_
    exact ih2 (iζ + 1) (by first | omega | (dsimp only; omega)) (by first | omega | (dsimp only; omega)) _ _ _ (hP.sub [0, 1, 2, 3, 4] rfl) (hD.sub [0, 1, 2, 3, 4] (by decide) rfl) hS (lv_sub hl [0, 1] rfl)
set_option maxHeartbeats 4000000 in
set_option maxRecDepth 100000 in
theorem c_X7_back (l : Launch) (g : GT) (sz : Nat) (hζ : Nat) (Aζ : Nat → Nat) (Iζ : Nat → Int32) (f1ζ f2ζ f3ζ fhζ : Nat → Int32) (xζ : Int32) : Ci l yX7_back wsX7_back { frames := 0, cells := 0, slots := 0, locals := 0 } g sz [.ref hζ, .int xζ] [(hζ, .inr (7, oM Aζ Iζ)), aI g (Aζ 1) 10 f1ζ, aI g (Aζ 2) 10 f2ζ, aI g (Aζ 3) 10 f3ζ, aI g (Aζ 18) 34 fhζ] xζ [(hζ, .inr (7, oM Aζ (upd (upd (upd (upd Iζ 5 (fhζ 30)) 6 (fhζ 31)) 7 (fhζ 32)) 8 (fhζ 33))))] := by
  refine gMet_i (cc := cX7_back) (maxL := 3) (ret := (some .int)) (by decide) rfl (Nat.le_of_ble_eq_true rfl) ?_
  intro p e s m args below meth c Z hx hb hr F hlk hnm hK hN hA H locs hP hD hS ls hl
  have hl : lv_has ls 3 [(0, .ref hζ), (1, .int xζ)] := hl
  have F : CallFix p m c cX7_back 3 s args wsX7_back RX7 := F
  have hts := F.2.2.2.2
  have hown : s.vm.findClass RX7 = some m.cls := F.2.2.2.1
  have hi7 : ∀ w ∈ u_ws RX7 TX7 34, w ∈ wsX7_back := by decide +kernel
  refine lv_iconst (v := 0) hx hb dX7_back_0 (by decide) ?_
  refine lv_istore_n (lv' := [(2, .int 0), (0, .ref hζ), (1, .int xζ)]) hx hb dX7_back_1 rfl hl (by decide) rfl (fun ls hl => ?_)
  refine gloop (σ := Nat × (Nat → Int32) × (Nat → Int32) × (Nat → Int32)) (fun u0 => 10 - u0.1) (fun u0 => u0.1 ≤ 10) (fun u0 => [(hζ, .inr (7, oM Aζ Iζ)), aI g (Aζ 1) 10 u0.2.1, aI g (Aζ 2) 10 u0.2.2.1, aI g (Aζ 3) 10 u0.2.2.2, aI g (Aζ 18) 34 fhζ]) (fun u0 => [(2, .int (nI u0.1)), (0, .ref hζ), (1, .int xζ)]) ?_ (0, f1ζ, f2ζ, f3ζ) (by first | omega | decide | rfl) (hP.sub [0, 1, 2, 3, 4] rfl) (hD.sub [0, 1, 2, 3, 4] (by decide) rfl) hS (lv_sub hl [0, 1, 2] rfl)
  rintro ⟨iζ, g1ζ, g2ζ, g3ζ⟩ hiζ ih2 H locs ls hP hD hS hl
  have hiζ : iζ ≤ 10 := hiζ
  have hP : va_P g.1 vwCl [(hζ, .inr (7, oM Aζ Iζ)), aI g (Aζ 1) 10 g1ζ, aI g (Aζ 2) 10 g2ζ, aI g (Aζ 3) 10 g3ζ, aI g (Aζ 18) 34 fhζ] H := hP
  have hD : va_D Z [(hζ, .inr (7, oM Aζ Iζ)), aI g (Aζ 1) 10 g1ζ, aI g (Aζ 2) 10 g2ζ, aI g (Aζ 3) 10 g3ζ, aI g (Aζ 18) 34 fhζ] := hD
  have hl : lv_has ls 3 [(2, .int (nI iζ)), (0, .ref hζ), (1, .int xζ)] := hl
  refine lv_iload_n hx hb dX7_back_2 rfl (lv_at hl 0 rfl) ?_
  refine lv_bipush (v := 10) hx hb dX7_back_3 (by decide) ?_
  refine lv_icmp_ge (tgt := 56) hx hb dX7_back_5 (by decide) (fun c_1 => ?_) (fun c_1 => ?_)
  · have c_1 : 10 ≤ iζ := (nI_leI (a := 10) (b := iζ) (by omega) (by omega)).mp c_1
    refine lv_aload_n hx hb dX7_back_56 rfl (lv_at hl 1 rfl) ?_
    refine lv_aload_n hx hb dX7_back_57 rfl (lv_at hl 1 rfl) ?_
    refine va_get (D := g.1) (ci := 7) (v := .ref (Aζ 18)) (C := RX7) (T := TX7) (N := 34) hx hb hts hi7 hown hK hP 0 rfl rfl 18 (by decide) (hts (.fieldLink RX7 43 "PanTalesModel" "had" "[I") (by decide +kernel)) (fun _ h9 => h9) rfl dX7_back_58 ?_
    refine lv_bipush (v := 30) hx hb dX7_back_61 (by decide) ?_
    refine r_iald (v := fhζ 30) hx hb hK hP 4 rfl (vp_in_nI (n := 30) (by decide) (by decide)) (congrArg fhζ (nI_clamp (n := 30) (by decide))) dX7_back_63 ?_
    refine va_put (D := g.1) (ci := 7) (v := .int (fhζ 30)) (ty := .int) (C := RX7) (T := TX7) (N := 34) hx hb hts hi7 tyX7 tyX7_ok nmX7 hown hK hP hD hS 0 rfl rfl 5 (by decide) (hts (.fieldLink RX7 72 "PanTalesModel" "panPlace" "I") (by decide +kernel)) (fun _ h9 => h9) rfl (by decide +kernel) rfl rfl (Nat.le_of_ble_eq_true rfl) dX7_back_64 (fun H locs hP hD hS => ?_)
    have hP : va_P g.1 vwCl [(hζ, .inr (7, oM Aζ (upd Iζ 5 (fhζ 30)))), aI g (Aζ 1) 10 g1ζ, aI g (Aζ 2) 10 g2ζ, aI g (Aζ 3) 10 g3ζ, aI g (Aζ 18) 34 fhζ] H := hP
    have hD : va_D Z [(hζ, .inr (7, oM Aζ (upd Iζ 5 (fhζ 30)))), aI g (Aζ 1) 10 g1ζ, aI g (Aζ 2) 10 g2ζ, aI g (Aζ 3) 10 g3ζ, aI g (Aζ 18) 34 fhζ] := hD
    refine lv_aload_n hx hb dX7_back_67 rfl (lv_at hl 1 rfl) ?_
    refine lv_aload_n hx hb dX7_back_68 rfl (lv_at hl 1 rfl) ?_
    refine va_get (D := g.1) (ci := 7) (v := .ref (Aζ 18)) (C := RX7) (T := TX7) (N := 34) hx hb hts hi7 hown hK hP 0 rfl rfl 18 (by decide) (hts (.fieldLink RX7 43 "PanTalesModel" "had" "[I") (by decide +kernel)) (fun _ h9 => h9) rfl dX7_back_69 ?_
    refine lv_bipush (v := 31) hx hb dX7_back_72 (by decide) ?_
    refine r_iald (v := fhζ 31) hx hb hK hP 4 rfl (vp_in_nI (n := 31) (by decide) (by decide)) (congrArg fhζ (nI_clamp (n := 31) (by decide))) dX7_back_74 ?_
    refine va_put (D := g.1) (ci := 7) (v := .int (fhζ 31)) (ty := .int) (C := RX7) (T := TX7) (N := 34) hx hb hts hi7 tyX7 tyX7_ok nmX7 hown hK hP hD hS 0 rfl rfl 6 (by decide) (hts (.fieldLink RX7 127 "PanTalesModel" "heat" "I") (by decide +kernel)) (fun _ h9 => h9) rfl (by decide +kernel) rfl rfl (Nat.le_of_ble_eq_true rfl) dX7_back_75 (fun H locs hP hD hS => ?_)
    have hP : va_P g.1 vwCl [(hζ, .inr (7, oM Aζ (upd (upd Iζ 5 (fhζ 30)) 6 (fhζ 31)))), aI g (Aζ 1) 10 g1ζ, aI g (Aζ 2) 10 g2ζ, aI g (Aζ 3) 10 g3ζ, aI g (Aζ 18) 34 fhζ] H := hP
    have hD : va_D Z [(hζ, .inr (7, oM Aζ (upd (upd Iζ 5 (fhζ 30)) 6 (fhζ 31)))), aI g (Aζ 1) 10 g1ζ, aI g (Aζ 2) 10 g2ζ, aI g (Aζ 3) 10 g3ζ, aI g (Aζ 18) 34 fhζ] := hD
    refine lv_aload_n hx hb dX7_back_78 rfl (lv_at hl 1 rfl) ?_
    refine lv_aload_n hx hb dX7_back_79 rfl (lv_at hl 1 rfl) ?_
    refine va_get (D := g.1) (ci := 7) (v := .ref (Aζ 18)) (C := RX7) (T := TX7) (N := 34) hx hb hts hi7 hown hK hP 0 rfl rfl 18 (by decide) (hts (.fieldLink RX7 43 "PanTalesModel" "had" "[I") (by decide +kernel)) (fun _ h9 => h9) rfl dX7_back_80 ?_
    refine lv_bipush (v := 32) hx hb dX7_back_83 (by decide) ?_
    refine r_iald (v := fhζ 32) hx hb hK hP 4 rfl (vp_in_nI (n := 32) (by decide) (by decide)) (congrArg fhζ (nI_clamp (n := 32) (by decide))) dX7_back_85 ?_
    refine va_put (D := g.1) (ci := 7) (v := .int (fhζ 32)) (ty := .int) (C := RX7) (T := TX7) (N := 34) hx hb hts hi7 tyX7 tyX7_ok nmX7 hown hK hP hD hS 0 rfl rfl 7 (by decide) (hts (.fieldLink RX7 136 "PanTalesModel" "panTale" "I") (by decide +kernel)) (fun _ h9 => h9) rfl (by decide +kernel) rfl rfl (Nat.le_of_ble_eq_true rfl) dX7_back_86 (fun H locs hP hD hS => ?_)
    have hP : va_P g.1 vwCl [(hζ, .inr (7, oM Aζ (upd (upd (upd Iζ 5 (fhζ 30)) 6 (fhζ 31)) 7 (fhζ 32)))), aI g (Aζ 1) 10 g1ζ, aI g (Aζ 2) 10 g2ζ, aI g (Aζ 3) 10 g3ζ, aI g (Aζ 18) 34 fhζ] H := hP
    have hD : va_D Z [(hζ, .inr (7, oM Aζ (upd (upd (upd Iζ 5 (fhζ 30)) 6 (fhζ 31)) 7 (fhζ 32)))), aI g (Aζ 1) 10 g1ζ, aI g (Aζ 2) 10 g2ζ, aI g (Aζ 3) 10 g3ζ, aI g (Aζ 18) 34 fhζ] := hD
    refine lv_aload_n hx hb dX7_back_89 rfl (lv_at hl 1 rfl) ?_
    refine lv_aload_n hx hb dX7_back_90 rfl (lv_at hl 1 rfl) ?_
    refine va_get (D := g.1) (ci := 7) (v := .ref (Aζ 18)) (C := RX7) (T := TX7) (N := 34) hx hb hts hi7 hown hK hP 0 rfl rfl 18 (by decide) (hts (.fieldLink RX7 43 "PanTalesModel" "had" "[I") (by decide +kernel)) (fun _ h9 => h9) rfl dX7_back_91 ?_
    refine lv_bipush (v := 33) hx hb dX7_back_94 (by decide) ?_
    refine r_iald (v := fhζ 33) hx hb hK hP 4 rfl (vp_in_nI (n := 33) (by decide) (by decide)) (congrArg fhζ (nI_clamp (n := 33) (by decide))) dX7_back_96 ?_
    refine va_put (D := g.1) (ci := 7) (v := .int (fhζ 33)) (ty := .int) (C := RX7) (T := TX7) (N := 34) hx hb hts hi7 tyX7 tyX7_ok nmX7 hown hK hP hD hS 0 rfl rfl 8 (by decide) (hts (.fieldLink RX7 130 "PanTalesModel" "mornings" "I") (by decide +kernel)) (fun _ h9 => h9) rfl (by decide +kernel) rfl rfl (Nat.le_of_ble_eq_true rfl) dX7_back_97 (fun H locs hP hD hS => ?_)
    have hP : va_P g.1 vwCl [(hζ, .inr (7, oM Aζ (upd (upd (upd (upd Iζ 5 (fhζ 30)) 6 (fhζ 31)) 7 (fhζ 32)) 8 (fhζ 33)))), aI g (Aζ 1) 10 g1ζ, aI g (Aζ 2) 10 g2ζ, aI g (Aζ 3) 10 g3ζ, aI g (Aζ 18) 34 fhζ] H := hP
    have hD : va_D Z [(hζ, .inr (7, oM Aζ (upd (upd (upd (upd Iζ 5 (fhζ 30)) 6 (fhζ 31)) 7 (fhζ 32)) 8 (fhζ 33)))), aI g (Aζ 1) 10 g1ζ, aI g (Aζ 2) 10 g2ζ, aI g (Aζ 3) 10 g3ζ, aI g (Aζ 18) 34 fhζ] := hD
    refine lv_iload_n hx hb dX7_back_100 rfl (lv_at hl 2 rfl) ?_
    exact r_iret hx hb hr hlk hS () rfl (hP.sub [0] rfl) (hD.sub [0] (by decide) rfl) dX7_back_101
  · have c_1 : ¬ 10 ≤ iζ := fun z => c_1 ((nI_leI (a := 10) (b := iζ) (by omega) (by omega)).mpr z)
    refine lv_aload_n hx hb dX7_back_8 rfl (lv_at hl 1 rfl) ?_
    refine va_get (D := g.1) (ci := 7) (v := .ref (Aζ 1)) (C := RX7) (T := TX7) (N := 34) hx hb hts hi7 hown hK hP 0 rfl rfl 1 (by decide) (hts (.fieldLink RX7 13 "PanTalesModel" "doubt" "[I") (by decide +kernel)) (fun _ h9 => h9) rfl dX7_back_9 ?_
    refine lv_iload_n hx hb dX7_back_12 rfl (lv_at hl 0 rfl) ?_
    refine lv_aload_n hx hb dX7_back_13 rfl (lv_at hl 1 rfl) ?_
    refine va_get (D := g.1) (ci := 7) (v := .ref (Aζ 18)) (C := RX7) (T := TX7) (N := 34) hx hb hts hi7 hown hK hP 0 rfl rfl 18 (by decide) (hts (.fieldLink RX7 43 "PanTalesModel" "had" "[I") (by decide +kernel)) (fun _ h9 => h9) rfl dX7_back_14 ?_
    refine lv_iload_n hx hb dX7_back_17 rfl (lv_at hl 0 rfl) ?_
    refine r_iald (v := fhζ iζ) hx hb hK hP 4 rfl (vp_in_nI (n := iζ) (by omega) (by omega)) (congrArg fhζ (nI_clamp (n := iζ) (by omega))) dX7_back_18 ?_
    refine r_iast (f' := upd g1ζ iζ (fhζ iζ)) hx hb hK hP hD hS 1 rfl (vp_in_nI (n := iζ) (by omega) (by omega)) (fun k_u _ => congrArg (fun z_u => upd g1ζ z_u (fhζ iζ) k_u) (nI_clamp (n := iζ) (by omega))) dX7_back_19 (fun H locs hP hD hS => ?_)
    have hP : va_P g.1 vwCl [(hζ, .inr (7, oM Aζ Iζ)), aI g (Aζ 1) 10 (upd g1ζ iζ (fhζ iζ)), aI g (Aζ 2) 10 g2ζ, aI g (Aζ 3) 10 g3ζ, aI g (Aζ 18) 34 fhζ] H := hP
    have hD : va_D Z [(hζ, .inr (7, oM Aζ Iζ)), aI g (Aζ 1) 10 (upd g1ζ iζ (fhζ iζ)), aI g (Aζ 2) 10 g2ζ, aI g (Aζ 3) 10 g3ζ, aI g (Aζ 18) 34 fhζ] := hD
    refine lv_aload_n hx hb dX7_back_20 rfl (lv_at hl 1 rfl) ?_
    refine va_get (D := g.1) (ci := 7) (v := .ref (Aζ 2)) (C := RX7) (T := TX7) (N := 34) hx hb hts hi7 hown hK hP 0 rfl rfl 2 (by decide) (hts (.fieldLink RX7 16 "PanTalesModel" "damp" "[I") (by decide +kernel)) (fun _ h9 => h9) rfl dX7_back_21 ?_
    refine lv_iload_n hx hb dX7_back_24 rfl (lv_at hl 0 rfl) ?_
    refine lv_aload_n hx hb dX7_back_25 rfl (lv_at hl 1 rfl) ?_
    refine va_get (D := g.1) (ci := 7) (v := .ref (Aζ 18)) (C := RX7) (T := TX7) (N := 34) hx hb hts hi7 hown hK hP 0 rfl rfl 18 (by decide) (hts (.fieldLink RX7 43 "PanTalesModel" "had" "[I") (by decide +kernel)) (fun _ h9 => h9) rfl dX7_back_26 ?_
    refine lv_bipush (v := 10) hx hb dX7_back_29 (by decide) ?_
    refine lv_iload_n hx hb dX7_back_31 rfl (lv_at hl 0 rfl) ?_
    refine lv_iadd hx hb dX7_back_32 ?_
    refine gtop (y := nI (10 + iζ)) (nI_add 10 iζ) ?_
    refine r_iald (v := fhζ (10 + iζ)) hx hb hK hP 4 rfl (vp_in_nI (n := 10 + iζ) (by omega) (by omega)) (congrArg fhζ (nI_clamp (n := 10 + iζ) (by omega))) dX7_back_33 ?_
    refine r_iast (f' := upd g2ζ iζ (fhζ (10 + iζ))) hx hb hK hP hD hS 2 rfl (vp_in_nI (n := iζ) (by omega) (by omega)) (fun k_u _ => congrArg (fun z_u => upd g2ζ z_u (fhζ (10 + iζ)) k_u) (nI_clamp (n := iζ) (by omega))) dX7_back_34 (fun H locs hP hD hS => ?_)
    have hP : va_P g.1 vwCl [(hζ, .inr (7, oM Aζ Iζ)), aI g (Aζ 1) 10 (upd g1ζ iζ (fhζ iζ)), aI g (Aζ 2) 10 (upd g2ζ iζ (fhζ (10 + iζ))), aI g (Aζ 3) 10 g3ζ, aI g (Aζ 18) 34 fhζ] H := hP
    have hD : va_D Z [(hζ, .inr (7, oM Aζ Iζ)), aI g (Aζ 1) 10 (upd g1ζ iζ (fhζ iζ)), aI g (Aζ 2) 10 (upd g2ζ iζ (fhζ (10 + iζ))), aI g (Aζ 3) 10 g3ζ, aI g (Aζ 18) 34 fhζ] := hD
    refine lv_aload_n hx hb dX7_back_35 rfl (lv_at hl 1 rfl) ?_
    refine va_get (D := g.1) (ci := 7) (v := .ref (Aζ 3)) (C := RX7) (T := TX7) (N := 34) hx hb hts hi7 hown hK hP 0 rfl rfl 3 (by decide) (hts (.fieldLink RX7 19 "PanTalesModel" "believes" "[I") (by decide +kernel)) (fun _ h9 => h9) rfl dX7_back_36 ?_
    refine lv_iload_n hx hb dX7_back_39 rfl (lv_at hl 0 rfl) ?_
    refine lv_aload_n hx hb dX7_back_40 rfl (lv_at hl 1 rfl) ?_
    refine va_get (D := g.1) (ci := 7) (v := .ref (Aζ 18)) (C := RX7) (T := TX7) (N := 34) hx hb hts hi7 hown hK hP 0 rfl rfl 18 (by decide) (hts (.fieldLink RX7 43 "PanTalesModel" "had" "[I") (by decide +kernel)) (fun _ h9 => h9) rfl dX7_back_41 ?_
    refine lv_bipush (v := 20) hx hb dX7_back_44 (by decide) ?_
    refine lv_iload_n hx hb dX7_back_46 rfl (lv_at hl 0 rfl) ?_
    refine lv_iadd hx hb dX7_back_47 ?_
    refine gtop (y := nI (20 + iζ)) (nI_add 20 iζ) ?_
    refine r_iald (v := fhζ (20 + iζ)) hx hb hK hP 4 rfl (vp_in_nI (n := 20 + iζ) (by omega) (by omega)) (congrArg fhζ (nI_clamp (n := 20 + iζ) (by omega))) dX7_back_48 ?_
    refine r_iast (f' := upd g3ζ iζ (fhζ (20 + iζ))) hx hb hK hP hD hS 3 rfl (vp_in_nI (n := iζ) (by omega) (by omega)) (fun k_u _ => congrArg (fun z_u => upd g3ζ z_u (fhζ (20 + iζ)) k_u) (nI_clamp (n := iζ) (by omega))) dX7_back_49 (fun H locs hP hD hS => ?_)
    have hP : va_P g.1 vwCl [(hζ, .inr (7, oM Aζ Iζ)), aI g (Aζ 1) 10 (upd g1ζ iζ (fhζ iζ)), aI g (Aζ 2) 10 (upd g2ζ iζ (fhζ (10 + iζ))), aI g (Aζ 3) 10 (upd g3ζ iζ (fhζ (20 + iζ))), aI g (Aζ 18) 34 fhζ] H := hP
    have hD : va_D Z [(hζ, .inr (7, oM Aζ Iζ)), aI g (Aζ 1) 10 (upd g1ζ iζ (fhζ iζ)), aI g (Aζ 2) 10 (upd g2ζ iζ (fhζ (10 + iζ))), aI g (Aζ 3) 10 (upd g3ζ iζ (fhζ (20 + iζ))), aI g (Aζ 18) 34 fhζ] := hD
    refine lv_iinc (v := nI (iζ + 1)) (lv' := [(2, .int (nI (iζ + 1))), (0, .ref hζ), (1, .int xζ)]) hx hb dX7_back_50 hl (k := 0) rfl (nI_1 iζ) (by decide) rfl (fun ls hl => ?_)
    refine lv_goto (tgt := 2) hx hb dX7_back_53 (by decide) ?_
    exact ih2 (iζ + 1, upd g1ζ iζ (fhζ iζ), upd g2ζ iζ (fhζ (10 + iζ)), upd g3ζ iζ (fhζ (20 + iζ))) (by first | omega | (dsimp only; omega)) (by first | omega | (dsimp only; omega)) _ _ _ (hP.sub [0, 1, 2, 3, 4] rfl) (hD.sub [0, 1, 2, 3, 4] (by decide) rfl) hS (lv_sub hl [0, 1, 2] rfl)
set_option maxHeartbeats 4000000 in
set_option maxRecDepth 100000 in
theorem c_X7_goNights (l : Launch) (g : GT) (sz : Nat) (hζ : Nat) (Aζ : Nat → Nat)  : Cv l yX7_goNights wsX7_goNights { frames := 0, cells := 0, slots := 0, locals := 0 } g sz [.ref hζ] [(hζ, .inr (7, oM Aζ (upd iM0 17 0)))] [(hζ, .inr (7, oM Aζ (upd (upd (upd (upd (upd (upd iM0 17 0) 19 (-6)) 20 (-6)) 21 0) 22 (-6)) 23 (-6))))] := by
  refine gMet_v (cc := cX7_goNights) (maxL := 3) (ret := none) (by decide) rfl (Nat.le_of_ble_eq_true rfl) ?_
  intro p e s m args below meth c Z hx hb hr F hlk hnm hK hN hA H locs hP hD hS ls hl
  have hl : lv_has ls 3 [(0, .ref hζ)] := hl
  have F : CallFix p m c cX7_goNights 3 s args wsX7_goNights RX7 := F
  have hts := F.2.2.2.2
  have hown : s.vm.findClass RX7 = some m.cls := F.2.2.2.1
  have hi7 : ∀ w ∈ u_ws RX7 TX7 34, w ∈ wsX7_goNights := by decide +kernel
  refine lv_aload_n hx hb dX7_goNights_0 rfl (lv_at hl 0 rfl) ?_
  refine lv_bipush (v := (-6)) hx hb dX7_goNights_1 (by decide) ?_
  refine va_put (D := g.1) (ci := 7) (v := .int (-6)) (ty := .int) (C := RX7) (T := TX7) (N := 34) hx hb hts hi7 tyX7 tyX7_ok nmX7 hown hK hP hD hS 0 rfl rfl 19 (by decide) (hts (.fieldLink RX7 169 "PanTalesModel" "badAct" "I") (by decide +kernel)) (fun _ h9 => h9) rfl (by decide +kernel) rfl rfl (Nat.le_of_ble_eq_true rfl) dX7_goNights_3 (fun H locs hP hD hS => ?_)
  have hP : va_P g.1 vwCl [(hζ, .inr (7, oM Aζ (upd (upd iM0 17 0) 19 (-6))))] H := hP
  have hD : va_D Z [(hζ, .inr (7, oM Aζ (upd (upd iM0 17 0) 19 (-6))))] := hD
  refine lv_aload_n hx hb dX7_goNights_6 rfl (lv_at hl 0 rfl) ?_
  refine lv_bipush (v := (-6)) hx hb dX7_goNights_7 (by decide) ?_
  refine va_put (D := g.1) (ci := 7) (v := .int (-6)) (ty := .int) (C := RX7) (T := TX7) (N := 34) hx hb hts hi7 tyX7 tyX7_ok nmX7 hown hK hP hD hS 0 rfl rfl 20 (by decide) (hts (.fieldLink RX7 172 "PanTalesModel" "badWhy" "I") (by decide +kernel)) (fun _ h9 => h9) rfl (by decide +kernel) rfl rfl (Nat.le_of_ble_eq_true rfl) dX7_goNights_9 (fun H locs hP hD hS => ?_)
  have hP : va_P g.1 vwCl [(hζ, .inr (7, oM Aζ (upd (upd (upd iM0 17 0) 19 (-6)) 20 (-6))))] H := hP
  have hD : va_D Z [(hζ, .inr (7, oM Aζ (upd (upd (upd iM0 17 0) 19 (-6)) 20 (-6))))] := hD
  refine lv_aload_n hx hb dX7_goNights_12 rfl (lv_at hl 0 rfl) ?_
  refine lv_iconst (v := 0) hx hb dX7_goNights_13 (by decide) ?_
  refine va_put (D := g.1) (ci := 7) (v := .int 0) (ty := .int) (C := RX7) (T := TX7) (N := 34) hx hb hts hi7 tyX7 tyX7_ok nmX7 hown hK hP hD hS 0 rfl rfl 21 (by decide) (hts (.fieldLink RX7 160 "PanTalesModel" "beds" "I") (by decide +kernel)) (fun _ h9 => h9) rfl (by decide +kernel) rfl rfl (Nat.le_of_ble_eq_true rfl) dX7_goNights_14 (fun H locs hP hD hS => ?_)
  have hP : va_P g.1 vwCl [(hζ, .inr (7, oM Aζ (upd (upd (upd (upd iM0 17 0) 19 (-6)) 20 (-6)) 21 0)))] H := hP
  have hD : va_D Z [(hζ, .inr (7, oM Aζ (upd (upd (upd (upd iM0 17 0) 19 (-6)) 20 (-6)) 21 0)))] := hD
  refine lv_aload_n hx hb dX7_goNights_17 rfl (lv_at hl 0 rfl) ?_
  refine lv_bipush (v := (-6)) hx hb dX7_goNights_18 (by decide) ?_
  refine va_put (D := g.1) (ci := 7) (v := .int (-6)) (ty := .int) (C := RX7) (T := TX7) (N := 34) hx hb hts hi7 tyX7 tyX7_ok nmX7 hown hK hP hD hS 0 rfl rfl 22 (by decide) (hts (.fieldLink RX7 163 "PanTalesModel" "otherAct" "I") (by decide +kernel)) (fun _ h9 => h9) rfl (by decide +kernel) rfl rfl (Nat.le_of_ble_eq_true rfl) dX7_goNights_20 (fun H locs hP hD hS => ?_)
  have hP : va_P g.1 vwCl [(hζ, .inr (7, oM Aζ (upd (upd (upd (upd (upd iM0 17 0) 19 (-6)) 20 (-6)) 21 0) 22 (-6))))] H := hP
  have hD : va_D Z [(hζ, .inr (7, oM Aζ (upd (upd (upd (upd (upd iM0 17 0) 19 (-6)) 20 (-6)) 21 0) 22 (-6))))] := hD
  refine lv_aload_n hx hb dX7_goNights_23 rfl (lv_at hl 0 rfl) ?_
  refine lv_bipush (v := (-6)) hx hb dX7_goNights_24 (by decide) ?_
  refine va_put (D := g.1) (ci := 7) (v := .int (-6)) (ty := .int) (C := RX7) (T := TX7) (N := 34) hx hb hts hi7 tyX7 tyX7_ok nmX7 hown hK hP hD hS 0 rfl rfl 23 (by decide) (hts (.fieldLink RX7 166 "PanTalesModel" "otherHouse" "I") (by decide +kernel)) (fun _ h9 => h9) rfl (by decide +kernel) rfl rfl (Nat.le_of_ble_eq_true rfl) dX7_goNights_26 (fun H locs hP hD hS => ?_)
  have hP : va_P g.1 vwCl [(hζ, .inr (7, oM Aζ (upd (upd (upd (upd (upd (upd iM0 17 0) 19 (-6)) 20 (-6)) 21 0) 22 (-6)) 23 (-6))))] H := hP
  have hD : va_D Z [(hζ, .inr (7, oM Aζ (upd (upd (upd (upd (upd (upd iM0 17 0) 19 (-6)) 20 (-6)) 21 0) 22 (-6)) 23 (-6))))] := hD
  refine lv_iconst (v := 0) hx hb dX7_goNights_29 (by decide) ?_
  refine lv_istore_n (lv' := [(1, .int 0), (0, .ref hζ)]) hx hb dX7_goNights_30 rfl hl (by decide) rfl (fun ls hl => ?_)
  refine lv_iload_n hx hb dX7_goNights_31 rfl (lv_at hl 0 rfl) ?_
  refine lv_aload_n hx hb dX7_goNights_32 rfl (lv_at hl 1 rfl) ?_
  refine va_get (D := g.1) (ci := 7) (v := .int 0) (C := RX7) (T := TX7) (N := 34) hx hb hts hi7 hown hK hP 0 rfl rfl 17 (by decide) (hts (.fieldLink RX7 103 "PanTalesModel" "acts" "I") (by decide +kernel)) (fun _ h9 => h9) rfl dX7_goNights_33 ?_
  refine lv_icmp_ge (tgt := 106) hx hb dX7_goNights_36 (by decide) (fun c_1 => ?_) (fun c_1 => ?_)
  · exact r_vret hx hb hr hlk hS () trivial (hP.sub [0] rfl) (hD.sub [0] (by decide) rfl) dX7_goNights_106
  · exact absurd (by decide) c_1
set_option maxHeartbeats 4000000 in
set_option maxRecDepth 100000 in
theorem c_X7_refusal (l : Launch) (g : GT) (sz : Nat) (hζ : Nat) (Aζ : Nat → Nat)  : Ci l yX7_refusal wsX7_refusal { frames := 1, cells := 0, slots := 0, locals := 22 } g sz [.ref hζ] [(hζ, .inr (7, oM Aζ iM0)), aI g (Aζ 1) 10 (fun _ => 5), aI g (Aζ 2) 10 (fun _ => 0), aI g (Aζ 3) 10 (fun _ => (-6)), aI g (Aζ 18) 34 (fun _ => 0)] (-6) [(hζ, .inr (7, oM Aζ (upd (upd (upd (upd (upd (upd iM0 17 0) 19 (-6)) 20 (-6)) 21 0) 22 (-6)) 23 (-6)))), aI g (Aζ 1) 10 (fun _ => 5), aI g (Aζ 2) 10 (fun _ => 0), aI g (Aζ 3) 10 (fun _ => (-6)), aI g (Aζ 18) 34 hdF] := by
  refine gMet_i (cc := cX7_refusal) (maxL := 1) (ret := (some .int)) (by decide) rfl (Nat.le_of_ble_eq_true rfl) ?_
  intro p e s m args below meth c Z hx hb hr F hlk hnm hK hN hA H locs hP hD hS ls hl
  have hl : lv_has ls 1 [(0, .ref hζ)] := hl
  have F : CallFix p m c cX7_refusal 1 s args wsX7_refusal RX7 := F
  have hts := F.2.2.2.2
  have hown : s.vm.findClass RX7 = some m.cls := F.2.2.2.1
  have hi7 : ∀ w ∈ u_ws RX7 TX7 34, w ∈ wsX7_refusal := by decide +kernel
  refine lv_aload_n hx hb dX7_refusal_0 rfl (lv_at hl 0 rfl) ?_
  refine gcV_v (As := []) (rest := []) (ci := 7) (q := (RX7, TX7, 34)) F hK hN hP hD hS hA (c_X7_keepNow l g H.size hζ Aζ) gX7_refusal_X7_keepNow kX7_keepNow rfl rfl rfl rfl ⟨(Nat.le_of_ble_eq_true rfl), (Nat.le_of_ble_eq_true rfl)⟩ [0, 1, 2, 3, 4] [] rfl rfl rfl (by decide) rfl rfl rfl rfl rfl hl.1 (Nat.le_of_ble_eq_true rfl) dX7_refusal_1 ⟨(Nat.le_of_ble_eq_true rfl), (Nat.le_of_ble_eq_true rfl)⟩ (fun u_w H locs hw hP hD hS => ?_)
  have hP : va_P g.1 vwCl [(hζ, .inr (7, oM Aζ iM0)), aI g (Aζ 1) 10 (fun _ => 5), aI g (Aζ 2) 10 (fun _ => 0), aI g (Aζ 3) 10 (fun _ => (-6)), aI g (Aζ 18) 34 hdF] H := hP
  have hD : va_D Z [(hζ, .inr (7, oM Aζ iM0)), aI g (Aζ 1) 10 (fun _ => 5), aI g (Aζ 2) 10 (fun _ => 0), aI g (Aζ 3) 10 (fun _ => (-6)), aI g (Aζ 18) 34 hdF] := hD
  refine lv_aload_n hx hb dX7_refusal_4 rfl (lv_at hl 0 rfl) ?_
  refine gcV_i (As := []) (rest := []) (ci := 7) (q := (RX7, TX7, 34)) F hK hN hP hD hS hA (c_X7_fault l g H.size hζ Aζ) gX7_refusal_X7_fault kX7_fault rfl rfl rfl rfl ⟨(Nat.le_of_ble_eq_true rfl), (Nat.le_of_ble_eq_true rfl)⟩ [0] [1, 2, 3, 4] rfl rfl rfl (by decide) rfl rfl rfl rfl rfl hl.1 (Nat.le_of_ble_eq_true rfl) dX7_refusal_5 ⟨(Nat.le_of_ble_eq_true rfl), (Nat.le_of_ble_eq_true rfl)⟩ (fun r_w u_w H locs hw hP hD hS => ?_)
  have hP : va_P g.1 vwCl [aI g (Aζ 1) 10 (fun _ => 5), aI g (Aζ 2) 10 (fun _ => 0), aI g (Aζ 3) 10 (fun _ => (-6)), aI g (Aζ 18) 34 hdF, (hζ, .inr (7, oM Aζ (upd iM0 17 0)))] H := hP
  have hD : va_D Z [aI g (Aζ 1) 10 (fun _ => 5), aI g (Aζ 2) 10 (fun _ => 0), aI g (Aζ 3) 10 (fun _ => (-6)), aI g (Aζ 18) 34 hdF, (hζ, .inr (7, oM Aζ (upd iM0 17 0)))] := hD
  obtain rfl := hw
  refine lv_if_lt (tgt := 14) hx hb dX7_refusal_8 (by decide) (fun c_1 => ?_) (fun c_1 => ?_)
  · refine lv_aload_n hx hb dX7_refusal_14 rfl (lv_at hl 0 rfl) ?_
    refine gcV_v (As := []) (rest := []) (ci := 7) (q := (RX7, TX7, 34)) F hK hN hP hD hS hA (c_X7_goNights l g H.size hζ Aζ) gX7_refusal_X7_goNights kX7_goNights rfl rfl rfl rfl ⟨(Nat.le_of_ble_eq_true rfl), (Nat.le_of_ble_eq_true rfl)⟩ [4] [0, 1, 2, 3] rfl rfl rfl (by decide) rfl rfl rfl rfl rfl hl.1 (Nat.le_of_ble_eq_true rfl) dX7_refusal_15 ⟨(Nat.le_of_ble_eq_true rfl), (Nat.le_of_ble_eq_true rfl)⟩ (fun u_w H locs hw hP hD hS => ?_)
    have hP : va_P g.1 vwCl [aI g (Aζ 1) 10 (fun _ => 5), aI g (Aζ 2) 10 (fun _ => 0), aI g (Aζ 3) 10 (fun _ => (-6)), aI g (Aζ 18) 34 hdF, (hζ, .inr (7, oM Aζ (upd (upd (upd (upd (upd ((upd iM0 17 0)) 19 (-6)) 20 (-6)) 21 0) 22 (-6)) 23 (-6))))] H := hP
    have hD : va_D Z [aI g (Aζ 1) 10 (fun _ => 5), aI g (Aζ 2) 10 (fun _ => 0), aI g (Aζ 3) 10 (fun _ => (-6)), aI g (Aζ 18) 34 hdF, (hζ, .inr (7, oM Aζ (upd (upd (upd (upd (upd ((upd iM0 17 0)) 19 (-6)) 20 (-6)) 21 0) 22 (-6)) 23 (-6))))] := hD
    refine lv_aload_n hx hb dX7_refusal_18 rfl (lv_at hl 0 rfl) ?_
    refine va_get (D := g.1) (ci := 7) (v := .int (-6)) (C := RX7) (T := TX7) (N := 34) hx hb hts hi7 hown hK hP 4 rfl rfl 19 (by decide) (hts (.fieldLink RX7 169 "PanTalesModel" "badAct" "I") (by decide +kernel)) (fun _ h9 => h9) rfl dX7_refusal_19 ?_
    refine lv_if_lt (tgt := 30) hx hb dX7_refusal_22 (by decide) (fun c_2 => ?_) (fun c_2 => ?_)
    · refine lv_bipush (v := (-6)) hx hb dX7_refusal_30 (by decide) ?_
      exact r_iret hx hb hr hlk hS () rfl (hP.sub [4, 0, 1, 2, 3] rfl) (hD.sub [4, 0, 1, 2, 3] (by decide) rfl) dX7_refusal_32
    · exact absurd (by decide) c_2
  · exact absurd (by decide) c_1
set_option maxHeartbeats 4000000 in
set_option maxRecDepth 100000 in
theorem c_X7_judge (l : Launch) (g : GT) (sz : Nat) (hζ : Nat) (Aζ : Nat → Nat) (xζ : Int32) : Ci l yX7_judge wsX7_judge { frames := 2, cells := 0, slots := 0, locals := 42 } g sz [.ref hζ, .int xζ] [(hζ, .inr (7, oM Aζ iM0)), aI g (Aζ 1) 10 (fun _ => 5), aI g (Aζ 2) 10 (fun _ => 0), aI g (Aζ 3) 10 (fun _ => (-6)), aI g (Aζ 18) 34 (fun _ => 0)] (judgeF xζ) [] := by
  refine gMet_i (cc := cX7_judge) (maxL := 3) (ret := (some .int)) (by decide) rfl (Nat.le_of_ble_eq_true rfl) ?_
  intro p e s m args below meth c Z hx hb hr F hlk hnm hK hN hA H locs hP hD hS ls hl
  have hl : lv_has ls 3 [(0, .ref hζ), (1, .int xζ)] := hl
  have F : CallFix p m c cX7_judge 3 s args wsX7_judge RX7 := F
  have hts := F.2.2.2.2
  have hown : s.vm.findClass RX7 = some m.cls := F.2.2.2.1
  have hi7 : ∀ w ∈ u_ws RX7 TX7 34, w ∈ wsX7_judge := by decide +kernel
  refine lv_iload_n hx hb dX7_judge_0 rfl (lv_at hl 1 rfl) ?_
  refine lv_i2l (v := xζ.toInt64) hx hb dX7_judge_1 rfl ?_
  refine lv_lconst (v := 0) hx hb dX7_judge_2 (by decide) ?_
  refine lv_ldc2 (v := 2) hx hb hown (hts (.constantLong RX7 191 (2)) (by decide +kernel)) dX7_judge_3 ?_
  refine gcP (As := [.long xζ.toInt64, .long 0, .long 2]) (rest := []) F (c_X7_in l xζ.toInt64 0 2) gX7_judge_X7_in kX7_in rfl rfl rfl ⟨(Nat.le_of_ble_eq_true rfl), (Nat.le_of_ble_eq_true rfl)⟩ rfl rfl hl.1 (Nat.le_of_ble_eq_true rfl) dX7_judge_6 ⟨(Nat.le_of_ble_eq_true rfl), (Nat.le_of_ble_eq_true rfl)⟩ ?_
  refine gtop (y := bI (inB xζ 0 2)) (congrArg bI (inL_i (lo := 0) (hi := 2) (by decide) (by decide))) ?_
  refine lv_if_ne (tgt := 15) hx hb dX7_judge_9 (by decide) (fun c_1 => ?_) (fun c_1 => ?_)
  · have c_1 : inB xζ 0 2 = true := bI_1 c_1
    refine lv_aload_n hx hb dX7_judge_15 rfl (lv_at hl 0 rfl) ?_
    refine lv_aload_n hx hb dX7_judge_16 rfl (lv_at hl 0 rfl) ?_
    refine gcV_i (As := []) (rest := [.ref hζ]) (ci := 7) (q := (RX7, TX7, 34)) F hK hN hP hD hS hA (c_X7_refusal l g H.size hζ Aζ) gX7_judge_X7_refusal kX7_refusal rfl rfl rfl rfl ⟨(Nat.le_of_ble_eq_true rfl), (Nat.le_of_ble_eq_true rfl)⟩ [0, 1, 2, 3, 4] [] rfl rfl rfl (by decide) rfl rfl rfl rfl rfl hl.1 (Nat.le_of_ble_eq_true rfl) dX7_judge_17 ⟨(Nat.le_of_ble_eq_true rfl), (Nat.le_of_ble_eq_true rfl)⟩ (fun r_w u_w H locs hw hP hD hS => ?_)
    have hP : va_P g.1 vwCl [(hζ, .inr (7, oM Aζ (upd (upd (upd (upd (upd (upd iM0 17 0) 19 (-6)) 20 (-6)) 21 0) 22 (-6)) 23 (-6)))), aI g (Aζ 1) 10 (fun _ => 5), aI g (Aζ 2) 10 (fun _ => 0), aI g (Aζ 3) 10 (fun _ => (-6)), aI g (Aζ 18) 34 hdF] H := hP
    have hD : va_D Z [(hζ, .inr (7, oM Aζ (upd (upd (upd (upd (upd (upd iM0 17 0) 19 (-6)) 20 (-6)) 21 0) 22 (-6)) 23 (-6)))), aI g (Aζ 1) 10 (fun _ => 5), aI g (Aζ 2) 10 (fun _ => 0), aI g (Aζ 3) 10 (fun _ => (-6)), aI g (Aζ 18) 34 hdF] := hD
    obtain rfl := hw
    refine gcV_i (As := [.int (-6)]) (rest := []) (ci := 7) (q := (RX7, TX7, 34)) F hK hN hP hD hS hA (c_X7_back l g H.size hζ Aζ (upd (upd (upd (upd (upd (upd iM0 17 0) 19 (-6)) 20 (-6)) 21 0) 22 (-6)) 23 (-6)) (fun _ => 5) (fun _ => 0) (fun _ => (-6)) hdF (-6)) gX7_judge_X7_back kX7_back rfl rfl rfl rfl ⟨(Nat.le_of_ble_eq_true rfl), (Nat.le_of_ble_eq_true rfl)⟩ [0, 1, 2, 3, 4] [] rfl rfl rfl (by decide) rfl rfl rfl rfl rfl hl.1 (Nat.le_of_ble_eq_true rfl) dX7_judge_20 ⟨(Nat.le_of_ble_eq_true rfl), (Nat.le_of_ble_eq_true rfl)⟩ (fun r_w u_w H locs hw hP hD hS => ?_)
    have hP : va_P g.1 vwCl [(hζ, .inr (7, oM Aζ (upd (upd (upd (upd (upd (upd (upd (upd (upd (upd iM0 17 0) 19 (-6)) 20 (-6)) 21 0) 22 (-6)) 23 (-6)) 5 (hdF 30)) 6 (hdF 31)) 7 (hdF 32)) 8 (hdF 33))))] H := hP
    have hD : va_D Z [(hζ, .inr (7, oM Aζ (upd (upd (upd (upd (upd (upd (upd (upd (upd (upd iM0 17 0) 19 (-6)) 20 (-6)) 21 0) 22 (-6)) 23 (-6)) 5 (hdF 30)) 6 (hdF 31)) 7 (hdF 32)) 8 (hdF 33))))] := hD
    obtain rfl := hw
    refine lv_istore_n (lv' := [(2, .int (-6)), (0, .ref hζ), (1, .int xζ)]) hx hb dX7_judge_23 rfl hl (by decide) rfl (fun ls hl => ?_)
    refine lv_iload_n hx hb dX7_judge_24 rfl (lv_at hl 0 rfl) ?_
    refine lv_bipush (v := (-5)) hx hb dX7_judge_25 (by decide) ?_
    refine lv_icmp_eq (tgt := 41) hx hb dX7_judge_27 (by decide) (fun c_2 => ?_) (fun c_2 => ?_)
    · exact absurd c_2 (by decide)
    · refine lv_iload_n hx hb dX7_judge_30 rfl (lv_at hl 2 rfl) ?_
      refine lv_iconst (v := 1) hx hb dX7_judge_31 (by decide) ?_
      refine lv_icmp_le (tgt := 43) hx hb dX7_judge_32 (by decide) (fun c_3 => ?_) (fun c_3 => ?_)
      · refine lv_iload_n hx hb dX7_judge_43 rfl (lv_at hl 2 rfl) ?_
        refine lv_if_ne (tgt := 54) hx hb dX7_judge_44 (by decide) (fun c_4 => ?_) (fun c_4 => ?_)
        · refine lv_iload_n hx hb dX7_judge_54 rfl (lv_at hl 2 rfl) ?_
          refine lv_iconst (v := 1) hx hb dX7_judge_55 (by decide) ?_
          refine lv_icmp_ne (tgt := 66) hx hb dX7_judge_56 (by decide) (fun c_5 => ?_) (fun c_5 => ?_)
          · refine lv_aload_n hx hb dX7_judge_66 rfl (lv_at hl 1 rfl) ?_
            refine va_get (D := g.1) (ci := 7) (v := .int 0) (C := RX7) (T := TX7) (N := 34) hx hb hts hi7 hown hK hP 0 rfl rfl 21 (by decide) (hts (.fieldLink RX7 160 "PanTalesModel" "beds" "I") (by decide +kernel)) (fun _ h9 => h9) rfl dX7_judge_67 ?_
            exact r_iret hx hb hr hlk hS () (by unfold judgeF; rw [if_pos c_1, if_neg c_4, if_neg c_5]) (hP.sub [] rfl) (hD.sub [] (by decide) rfl) dX7_judge_70
          · refine lv_aload_n hx hb dX7_judge_59 rfl (lv_at hl 1 rfl) ?_
            refine va_get (D := g.1) (ci := 7) (v := .int (-6)) (C := RX7) (T := TX7) (N := 34) hx hb hts hi7 hown hK hP 0 rfl rfl 20 (by decide) (hts (.fieldLink RX7 172 "PanTalesModel" "badWhy" "I") (by decide +kernel)) (fun _ h9 => h9) rfl dX7_judge_60 ?_
            refine lv_goto (tgt := 70) hx hb dX7_judge_63 (by decide) ?_
            exact r_iret hx hb hr hlk hS () (by unfold judgeF; rw [if_pos c_1, if_neg c_4, if_pos c_5]) (hP.sub [] rfl) (hD.sub [] (by decide) rfl) dX7_judge_70
        · refine lv_aload_n hx hb dX7_judge_47 rfl (lv_at hl 1 rfl) ?_
          refine va_get (D := g.1) (ci := 7) (v := .int (-6)) (C := RX7) (T := TX7) (N := 34) hx hb hts hi7 hown hK hP 0 rfl rfl 19 (by decide) (hts (.fieldLink RX7 169 "PanTalesModel" "badAct" "I") (by decide +kernel)) (fun _ h9 => h9) rfl dX7_judge_48 ?_
          refine lv_goto (tgt := 70) hx hb dX7_judge_51 (by decide) ?_
          exact r_iret hx hb hr hlk hS () (by unfold judgeF; rw [if_pos c_1, if_pos c_4]) (hP.sub [] rfl) (hD.sub [] (by decide) rfl) dX7_judge_70
      · refine lv_iload_n hx hb dX7_judge_35 rfl (lv_at hl 0 rfl) ?_
        refine lv_bipush (v := (-3)) hx hb dX7_judge_36 (by decide) ?_
        refine lv_icmp_ne (tgt := 43) hx hb dX7_judge_38 (by decide) (fun c_6 => ?_) (fun c_6 => ?_)
        · refine lv_iload_n hx hb dX7_judge_43 rfl (lv_at hl 2 rfl) ?_
          refine lv_if_ne (tgt := 54) hx hb dX7_judge_44 (by decide) (fun c_7 => ?_) (fun c_7 => ?_)
          · refine lv_iload_n hx hb dX7_judge_54 rfl (lv_at hl 2 rfl) ?_
            refine lv_iconst (v := 1) hx hb dX7_judge_55 (by decide) ?_
            refine lv_icmp_ne (tgt := 66) hx hb dX7_judge_56 (by decide) (fun c_8 => ?_) (fun c_8 => ?_)
            · refine lv_aload_n hx hb dX7_judge_66 rfl (lv_at hl 1 rfl) ?_
              refine va_get (D := g.1) (ci := 7) (v := .int 0) (C := RX7) (T := TX7) (N := 34) hx hb hts hi7 hown hK hP 0 rfl rfl 21 (by decide) (hts (.fieldLink RX7 160 "PanTalesModel" "beds" "I") (by decide +kernel)) (fun _ h9 => h9) rfl dX7_judge_67 ?_
              exact r_iret hx hb hr hlk hS () (by unfold judgeF; rw [if_pos c_1, if_neg c_7, if_neg c_8]) (hP.sub [] rfl) (hD.sub [] (by decide) rfl) dX7_judge_70
            · refine lv_aload_n hx hb dX7_judge_59 rfl (lv_at hl 1 rfl) ?_
              refine va_get (D := g.1) (ci := 7) (v := .int (-6)) (C := RX7) (T := TX7) (N := 34) hx hb hts hi7 hown hK hP 0 rfl rfl 20 (by decide) (hts (.fieldLink RX7 172 "PanTalesModel" "badWhy" "I") (by decide +kernel)) (fun _ h9 => h9) rfl dX7_judge_60 ?_
              refine lv_goto (tgt := 70) hx hb dX7_judge_63 (by decide) ?_
              exact r_iret hx hb hr hlk hS () (by unfold judgeF; rw [if_pos c_1, if_neg c_7, if_pos c_8]) (hP.sub [] rfl) (hD.sub [] (by decide) rfl) dX7_judge_70
          · refine lv_aload_n hx hb dX7_judge_47 rfl (lv_at hl 1 rfl) ?_
            refine va_get (D := g.1) (ci := 7) (v := .int (-6)) (C := RX7) (T := TX7) (N := 34) hx hb hts hi7 hown hK hP 0 rfl rfl 19 (by decide) (hts (.fieldLink RX7 169 "PanTalesModel" "badAct" "I") (by decide +kernel)) (fun _ h9 => h9) rfl dX7_judge_48 ?_
            refine lv_goto (tgt := 70) hx hb dX7_judge_51 (by decide) ?_
            exact r_iret hx hb hr hlk hS () (by unfold judgeF; rw [if_pos c_1, if_pos c_7]) (hP.sub [] rfl) (hD.sub [] (by decide) rfl) dX7_judge_70
        · exact absurd c_6 (by decide)
  · have c_1 : inB xζ 0 2 = false := bI_0 c_1
    refine lv_bipush (v := (-2)) hx hb dX7_judge_12 (by decide) ?_
    exact r_iret hx hb hr hlk hS () (by unfold judgeF; rw [if_neg (bF c_1)]) (hP.sub [] rfl) (hD.sub [] (by decide) rfl) dX7_judge_14
set_option maxHeartbeats 4000000 in
set_option maxRecDepth 100000 in
theorem c_X7_ofHouse (l : Launch) (g : GT) (sz : Nat) (hζ : Nat) (Aζ : Nat → Nat) (Iζ : Nat → Int32) (jζ : Nat) (xζ : Int32) (hjζ : jζ < 10) : Ci l yX7_ofHouse wsX7_ofHouse { frames := 0, cells := 0, slots := 0, locals := 0 } g sz [.ref hζ, .int (nI jζ), .int xζ] [(hζ, .inr (7, oM Aζ Iζ)), aI g (Aζ 1) 10 (fun _ => 5), aI g (Aζ 2) 10 (fun _ => 0), aI g (Aζ 3) 10 (fun _ => (-6))] (ohF xζ) [(hζ, .inr (7, oM Aζ Iζ)), aI g (Aζ 1) 10 (fun _ => 5), aI g (Aζ 2) 10 (fun _ => 0), aI g (Aζ 3) 10 (fun _ => (-6))] := by
  refine gMet_i (cc := cX7_ofHouse) (maxL := 3) (ret := (some .int)) (by decide) rfl (Nat.le_of_ble_eq_true rfl) ?_
  intro p e s m args below meth c Z hx hb hr F hlk hnm hK hN hA H locs hP hD hS ls hl
  have hl : lv_has ls 3 [(0, .ref hζ), (1, .int (nI jζ)), (2, .int xζ)] := hl
  have F : CallFix p m c cX7_ofHouse 3 s args wsX7_ofHouse RX7 := F
  have hts := F.2.2.2.2
  have hown : s.vm.findClass RX7 = some m.cls := F.2.2.2.1
  have hi7 : ∀ w ∈ u_ws RX7 TX7 34, w ∈ wsX7_ofHouse := by decide +kernel
  refine lv_iload_n hx hb dX7_ofHouse_0 rfl (lv_at hl 2 rfl) ?_
  refine lv_if_ne (tgt := 13) hx hb dX7_ofHouse_1 (by decide) (fun c_1 => ?_) (fun c_1 => ?_)
  · refine lv_iload_n hx hb dX7_ofHouse_13 rfl (lv_at hl 2 rfl) ?_
    refine lv_iconst (v := 1) hx hb dX7_ofHouse_14 (by decide) ?_
    refine lv_icmp_ne (tgt := 27) hx hb dX7_ofHouse_15 (by decide) (fun c_2 => ?_) (fun c_2 => ?_)
    · refine lv_aload_n hx hb dX7_ofHouse_27 rfl (lv_at hl 0 rfl) ?_
      refine va_get (D := g.1) (ci := 7) (v := .ref (Aζ 2)) (C := RX7) (T := TX7) (N := 34) hx hb hts hi7 hown hK hP 0 rfl rfl 2 (by decide) (hts (.fieldLink RX7 16 "PanTalesModel" "damp" "[I") (by decide +kernel)) (fun _ h9 => h9) rfl dX7_ofHouse_28 ?_
      refine lv_iload_n hx hb dX7_ofHouse_31 rfl (lv_at hl 1 rfl) ?_
      refine r_iald (v := 0) hx hb hK hP 2 rfl (vp_in_nI (n := jζ) (by omega) (by omega)) (congrArg (fun _ => 0) (nI_clamp (n := jζ) (by omega))) dX7_ofHouse_32 ?_
      exact r_iret hx hb hr hlk hS () (by unfold ohF; rw [if_neg c_1, if_neg c_2]) (hP.sub [0, 1, 2, 3] rfl) (hD.sub [0, 1, 2, 3] (by decide) rfl) dX7_ofHouse_33
    · refine lv_aload_n hx hb dX7_ofHouse_18 rfl (lv_at hl 0 rfl) ?_
      refine va_get (D := g.1) (ci := 7) (v := .ref (Aζ 1)) (C := RX7) (T := TX7) (N := 34) hx hb hts hi7 hown hK hP 0 rfl rfl 1 (by decide) (hts (.fieldLink RX7 13 "PanTalesModel" "doubt" "[I") (by decide +kernel)) (fun _ h9 => h9) rfl dX7_ofHouse_19 ?_
      refine lv_iload_n hx hb dX7_ofHouse_22 rfl (lv_at hl 1 rfl) ?_
      refine r_iald (v := 5) hx hb hK hP 1 rfl (vp_in_nI (n := jζ) (by omega) (by omega)) (congrArg (fun _ => 5) (nI_clamp (n := jζ) (by omega))) dX7_ofHouse_23 ?_
      refine lv_goto (tgt := 33) hx hb dX7_ofHouse_24 (by decide) ?_
      exact r_iret hx hb hr hlk hS () (by unfold ohF; rw [if_neg c_1, if_pos c_2]) (hP.sub [0, 1, 2, 3] rfl) (hD.sub [0, 1, 2, 3] (by decide) rfl) dX7_ofHouse_33
  · refine lv_aload_n hx hb dX7_ofHouse_4 rfl (lv_at hl 0 rfl) ?_
    refine va_get (D := g.1) (ci := 7) (v := .ref (Aζ 3)) (C := RX7) (T := TX7) (N := 34) hx hb hts hi7 hown hK hP 0 rfl rfl 3 (by decide) (hts (.fieldLink RX7 19 "PanTalesModel" "believes" "[I") (by decide +kernel)) (fun _ h9 => h9) rfl dX7_ofHouse_5 ?_
    refine lv_iload_n hx hb dX7_ofHouse_8 rfl (lv_at hl 1 rfl) ?_
    refine r_iald (v := (-6)) hx hb hK hP 3 rfl (vp_in_nI (n := jζ) (by omega) (by omega)) (congrArg (fun _ => (-6)) (nI_clamp (n := jζ) (by omega))) dX7_ofHouse_9 ?_
    refine lv_goto (tgt := 33) hx hb dX7_ofHouse_10 (by decide) ?_
    exact r_iret hx hb hr hlk hS () (by unfold ohF; rw [if_pos c_1]) (hP.sub [0, 1, 2, 3] rfl) (hD.sub [0, 1, 2, 3] (by decide) rfl) dX7_ofHouse_33
set_option maxHeartbeats 4000000 in
set_option maxRecDepth 100000 in
theorem c_X7_behind (l : Launch) (g : GT) (sz : Nat) (hζ : Nat) (Aζ : Nat → Nat) (xζ yζ : Int32) : Ci l yX7_behind wsX7_behind { frames := 2, cells := 0, slots := 0, locals := 45 } g sz [.ref hζ, .int xζ, .int yζ] [(hζ, .inr (7, oM Aζ iM0)), aI g (Aζ 1) 10 (fun _ => 5), aI g (Aζ 2) 10 (fun _ => 0), aI g (Aζ 3) 10 (fun _ => (-6)), aI g (Aζ 18) 34 (fun _ => 0)] (behindF xζ yζ) [] := by
  refine gMet_i (cc := cX7_behind) (maxL := 4) (ret := (some .int)) (by decide) rfl (Nat.le_of_ble_eq_true rfl) ?_
  intro p e s m args below meth c Z hx hb hr F hlk hnm hK hN hA H locs hP hD hS ls hl
  have hl : lv_has ls 4 [(0, .ref hζ), (1, .int xζ), (2, .int yζ)] := hl
  have F : CallFix p m c cX7_behind 4 s args wsX7_behind RX7 := F
  have hts := F.2.2.2.2
  have hown : s.vm.findClass RX7 = some m.cls := F.2.2.2.1
  refine lv_iload_n hx hb dX7_behind_0 rfl (lv_at hl 1 rfl) ?_
  refine gcP (As := [.int xζ]) (rest := []) F (c_X7_isHouse l xζ) gX7_behind_X7_isHouse kX7_isHouse rfl rfl rfl ⟨(Nat.le_of_ble_eq_true rfl), (Nat.le_of_ble_eq_true rfl)⟩ rfl rfl hl.1 (Nat.le_of_ble_eq_true rfl) dX7_behind_1 ⟨(Nat.le_of_ble_eq_true rfl), (Nat.le_of_ble_eq_true rfl)⟩ ?_
  refine lv_if_ne (tgt := 9) hx hb dX7_behind_4 (by decide) (fun c_1 => ?_) (fun c_1 => ?_)
  · have c_1 : inB xζ 0 9 = true := bI_1 c_1
    refine lv_iload_n hx hb dX7_behind_9 rfl (lv_at hl 2 rfl) ?_
    refine lv_i2l (v := yζ.toInt64) hx hb dX7_behind_10 rfl ?_
    refine lv_lconst (v := 0) hx hb dX7_behind_11 (by decide) ?_
    refine lv_ldc2 (v := 2) hx hb hown (hts (.constantLong RX7 191 (2)) (by decide +kernel)) dX7_behind_12 ?_
    refine gcP (As := [.long yζ.toInt64, .long 0, .long 2]) (rest := []) F (c_X7_in l yζ.toInt64 0 2) gX7_behind_X7_in kX7_in rfl rfl rfl ⟨(Nat.le_of_ble_eq_true rfl), (Nat.le_of_ble_eq_true rfl)⟩ rfl rfl hl.1 (Nat.le_of_ble_eq_true rfl) dX7_behind_15 ⟨(Nat.le_of_ble_eq_true rfl), (Nat.le_of_ble_eq_true rfl)⟩ ?_
    refine gtop (y := bI (inB yζ 0 2)) (congrArg bI (inL_i (lo := 0) (hi := 2) (by decide) (by decide))) ?_
    refine lv_if_ne (tgt := 24) hx hb dX7_behind_18 (by decide) (fun c_2 => ?_) (fun c_2 => ?_)
    · have c_2 : inB yζ 0 2 = true := bI_1 c_2
      refine lv_aload_n hx hb dX7_behind_24 rfl (lv_at hl 0 rfl) ?_
      refine gcV_i (As := []) (rest := []) (ci := 7) (q := (RX7, TX7, 34)) F hK hN hP hD hS hA (c_X7_refusal l g H.size hζ Aζ) gX7_behind_X7_refusal kX7_refusal rfl rfl rfl rfl ⟨(Nat.le_of_ble_eq_true rfl), (Nat.le_of_ble_eq_true rfl)⟩ [0, 1, 2, 3, 4] [] rfl rfl rfl (by decide) rfl rfl rfl rfl rfl hl.1 (Nat.le_of_ble_eq_true rfl) dX7_behind_25 ⟨(Nat.le_of_ble_eq_true rfl), (Nat.le_of_ble_eq_true rfl)⟩ (fun r_w u_w H locs hw hP hD hS => ?_)
      have hP : va_P g.1 vwCl [(hζ, .inr (7, oM Aζ (upd (upd (upd (upd (upd (upd iM0 17 0) 19 (-6)) 20 (-6)) 21 0) 22 (-6)) 23 (-6)))), aI g (Aζ 1) 10 (fun _ => 5), aI g (Aζ 2) 10 (fun _ => 0), aI g (Aζ 3) 10 (fun _ => (-6)), aI g (Aζ 18) 34 hdF] H := hP
      have hD : va_D Z [(hζ, .inr (7, oM Aζ (upd (upd (upd (upd (upd (upd iM0 17 0) 19 (-6)) 20 (-6)) 21 0) 22 (-6)) 23 (-6)))), aI g (Aζ 1) 10 (fun _ => 5), aI g (Aζ 2) 10 (fun _ => 0), aI g (Aζ 3) 10 (fun _ => (-6)), aI g (Aζ 18) 34 hdF] := hD
      obtain rfl := hw
      refine lv_istore_n (lv' := [(3, .int (-6)), (0, .ref hζ), (1, .int xζ), (2, .int yζ)]) hx hb dX7_behind_28 rfl hl (by decide) rfl (fun ls hl => ?_)
      refine lv_aload_n hx hb dX7_behind_29 rfl (lv_at hl 1 rfl) ?_
      refine lv_iload_n hx hb dX7_behind_30 rfl (lv_at hl 0 rfl) ?_
      refine lv_bipush (v := (-6)) hx hb dX7_behind_31 (by decide) ?_
      refine lv_icmp_eq (tgt := 40) hx hb dX7_behind_33 (by decide) (fun c_3 => ?_) (fun c_3 => ?_)
      · obtain ⟨iζ, hiζ, eiζ⟩ := inB_nat (N := 10) (by decide) c_1
        have hl : lv_has ls 4 [(3, .int (-6)), (0, .ref hζ), (1, .int (nI iζ)), (2, .int yζ)] := by first | exact hl | (rw [← (eiζ : xζ = nI iζ)]; exact hl)
        refine lv_aload_n hx hb dX7_behind_40 rfl (lv_at hl 1 rfl) ?_
        refine lv_iload_n hx hb dX7_behind_41 rfl (lv_at hl 2 rfl) ?_
        refine lv_iload_n hx hb dX7_behind_42 rfl (lv_at hl 3 rfl) ?_
        refine gcV_i (As := [.int (nI iζ), .int yζ]) (rest := [.ref hζ]) (ci := 7) (q := (RX7, TX7, 34)) F hK hN hP hD hS hA (c_X7_ofHouse l g H.size hζ Aζ (upd (upd (upd (upd (upd (upd iM0 17 0) 19 (-6)) 20 (-6)) 21 0) 22 (-6)) 23 (-6)) iζ yζ (by omega)) gX7_behind_X7_ofHouse kX7_ofHouse rfl rfl rfl rfl ⟨(Nat.le_of_ble_eq_true rfl), (Nat.le_of_ble_eq_true rfl)⟩ [0, 1, 2, 3] [4] rfl rfl rfl (by decide) rfl rfl rfl rfl rfl hl.1 (Nat.le_of_ble_eq_true rfl) dX7_behind_43 ⟨(Nat.le_of_ble_eq_true rfl), (Nat.le_of_ble_eq_true rfl)⟩ (fun r_w u_w H locs hw hP hD hS => ?_)
        have hP : va_P g.1 vwCl [aI g (Aζ 18) 34 hdF, (hζ, .inr (7, oM Aζ (upd (upd (upd (upd (upd (upd iM0 17 0) 19 (-6)) 20 (-6)) 21 0) 22 (-6)) 23 (-6)))), aI g (Aζ 1) 10 (fun _ => 5), aI g (Aζ 2) 10 (fun _ => 0), aI g (Aζ 3) 10 (fun _ => (-6))] H := hP
        have hD : va_D Z [aI g (Aζ 18) 34 hdF, (hζ, .inr (7, oM Aζ (upd (upd (upd (upd (upd (upd iM0 17 0) 19 (-6)) 20 (-6)) 21 0) 22 (-6)) 23 (-6)))), aI g (Aζ 1) 10 (fun _ => 5), aI g (Aζ 2) 10 (fun _ => 0), aI g (Aζ 3) 10 (fun _ => (-6))] := hD
        obtain rfl := hw
        refine gcV_i (As := [.int (ohF yζ)]) (rest := []) (ci := 7) (q := (RX7, TX7, 34)) F hK hN hP hD hS hA (c_X7_back l g H.size hζ Aζ (upd (upd (upd (upd (upd (upd iM0 17 0) 19 (-6)) 20 (-6)) 21 0) 22 (-6)) 23 (-6)) (fun _ => 5) (fun _ => 0) (fun _ => (-6)) hdF (ohF yζ)) gX7_behind_X7_back kX7_back rfl rfl rfl rfl ⟨(Nat.le_of_ble_eq_true rfl), (Nat.le_of_ble_eq_true rfl)⟩ [1, 2, 3, 4, 0] [] rfl rfl rfl (by decide) rfl rfl rfl rfl rfl hl.1 (Nat.le_of_ble_eq_true rfl) dX7_behind_46 ⟨(Nat.le_of_ble_eq_true rfl), (Nat.le_of_ble_eq_true rfl)⟩ (fun r_w u_w H locs hw hP hD hS => ?_)
        have hP : va_P g.1 vwCl [(hζ, .inr (7, oM Aζ (upd (upd (upd (upd (upd (upd (upd (upd (upd (upd iM0 17 0) 19 (-6)) 20 (-6)) 21 0) 22 (-6)) 23 (-6)) 5 (hdF 30)) 6 (hdF 31)) 7 (hdF 32)) 8 (hdF 33))))] H := hP
        have hD : va_D Z [(hζ, .inr (7, oM Aζ (upd (upd (upd (upd (upd (upd (upd (upd (upd (upd iM0 17 0) 19 (-6)) 20 (-6)) 21 0) 22 (-6)) 23 (-6)) 5 (hdF 30)) 6 (hdF 31)) 7 (hdF 32)) 8 (hdF 33))))] := hD
        obtain rfl := hw
        exact r_iret hx hb hr hlk hS () (by unfold behindF; rw [if_pos c_1, if_pos c_2]; rfl) (hP.sub [] rfl) (hD.sub [] (by decide) rfl) dX7_behind_49
      · exact absurd (by decide) c_3
    · have c_2 : inB yζ 0 2 = false := bI_0 c_2
      refine lv_bipush (v := (-2)) hx hb dX7_behind_21 (by decide) ?_
      exact r_iret hx hb hr hlk hS () (by unfold behindF; rw [if_pos c_1, if_neg (bF c_2)]) (hP.sub [] rfl) (hD.sub [] (by decide) rfl) dX7_behind_23
  · have c_1 : inB xζ 0 9 = false := bI_0 c_1
    refine lv_iconst (v := (-1)) hx hb dX7_behind_7 (by decide) ?_
    exact r_iret hx hb hr hlk hS () (by unfold behindF; rw [if_neg (bF c_1)]) (hP.sub [] rfl) (hD.sub [] (by decide) rfl) dX7_behind_8
set_option maxHeartbeats 4000000 in
set_option maxRecDepth 100000 in
theorem c_X7_ofPan (l : Launch) (g : GT) (sz : Nat) (hζ : Nat) (Aζ : Nat → Nat) (xζ : Int32) : Ci l yX7_ofPan wsX7_ofPan { frames := 0, cells := 0, slots := 0, locals := 0 } g sz [.ref hζ, .int xζ] [(hζ, .inr (7, oM Aζ (upd (upd (upd (upd (upd (upd iM0 17 0) 19 (-6)) 20 (-6)) 21 0) 22 (-6)) 23 (-6))))] (panG xζ) [(hζ, .inr (7, oM Aζ (upd (upd (upd (upd (upd (upd iM0 17 0) 19 (-6)) 20 (-6)) 21 0) 22 (-6)) 23 (-6))))] := by
  refine gMet_i (cc := cX7_ofPan) (maxL := 2) (ret := (some .int)) (by decide) rfl (Nat.le_of_ble_eq_true rfl) ?_
  intro p e s m args below meth c Z hx hb hr F hlk hnm hK hN hA H locs hP hD hS ls hl
  have hl : lv_has ls 2 [(0, .ref hζ), (1, .int xζ)] := hl
  have F : CallFix p m c cX7_ofPan 2 s args wsX7_ofPan RX7 := F
  have hts := F.2.2.2.2
  have hown : s.vm.findClass RX7 = some m.cls := F.2.2.2.1
  have hi7 : ∀ w ∈ u_ws RX7 TX7 34, w ∈ wsX7_ofPan := by decide +kernel
  refine lv_iload_n hx hb dX7_ofPan_0 rfl (lv_at hl 1 rfl) ?_
  refine lv_if_ne (tgt := 11) hx hb dX7_ofPan_1 (by decide) (fun c_1 => ?_) (fun c_1 => ?_)
  · refine lv_iload_n hx hb dX7_ofPan_11 rfl (lv_at hl 1 rfl) ?_
    refine lv_iconst (v := 1) hx hb dX7_ofPan_12 (by decide) ?_
    refine lv_icmp_ne (tgt := 23) hx hb dX7_ofPan_13 (by decide) (fun c_2 => ?_) (fun c_2 => ?_)
    · refine lv_iload_n hx hb dX7_ofPan_23 rfl (lv_at hl 1 rfl) ?_
      refine lv_iconst (v := 2) hx hb dX7_ofPan_24 (by decide) ?_
      refine lv_icmp_ne (tgt := 35) hx hb dX7_ofPan_25 (by decide) (fun c_3 => ?_) (fun c_3 => ?_)
      · refine lv_aload_n hx hb dX7_ofPan_35 rfl (lv_at hl 0 rfl) ?_
        refine va_get (D := g.1) (ci := 7) (v := .int 0) (C := RX7) (T := TX7) (N := 34) hx hb hts hi7 hown hK hP 0 rfl rfl 8 (by decide) (hts (.fieldLink RX7 130 "PanTalesModel" "mornings" "I") (by decide +kernel)) (fun _ h9 => h9) rfl dX7_ofPan_36 ?_
        exact r_iret hx hb hr hlk hS () (by unfold panG; rw [if_neg c_1]) (hP.sub [0] rfl) (hD.sub [0] (by decide) rfl) dX7_ofPan_39
      · refine lv_aload_n hx hb dX7_ofPan_28 rfl (lv_at hl 0 rfl) ?_
        refine va_get (D := g.1) (ci := 7) (v := .int 0) (C := RX7) (T := TX7) (N := 34) hx hb hts hi7 hown hK hP 0 rfl rfl 7 (by decide) (hts (.fieldLink RX7 136 "PanTalesModel" "panTale" "I") (by decide +kernel)) (fun _ h9 => h9) rfl dX7_ofPan_29 ?_
        refine lv_goto (tgt := 39) hx hb dX7_ofPan_32 (by decide) ?_
        exact r_iret hx hb hr hlk hS () (by unfold panG; rw [if_neg c_1]) (hP.sub [0] rfl) (hD.sub [0] (by decide) rfl) dX7_ofPan_39
    · refine lv_aload_n hx hb dX7_ofPan_16 rfl (lv_at hl 0 rfl) ?_
      refine va_get (D := g.1) (ci := 7) (v := .int 0) (C := RX7) (T := TX7) (N := 34) hx hb hts hi7 hown hK hP 0 rfl rfl 6 (by decide) (hts (.fieldLink RX7 127 "PanTalesModel" "heat" "I") (by decide +kernel)) (fun _ h9 => h9) rfl dX7_ofPan_17 ?_
      refine lv_goto (tgt := 39) hx hb dX7_ofPan_20 (by decide) ?_
      exact r_iret hx hb hr hlk hS () (by unfold panG; rw [if_neg c_1]) (hP.sub [0] rfl) (hD.sub [0] (by decide) rfl) dX7_ofPan_39
  · refine lv_aload_n hx hb dX7_ofPan_4 rfl (lv_at hl 0 rfl) ?_
    refine va_get (D := g.1) (ci := 7) (v := .int 10) (C := RX7) (T := TX7) (N := 34) hx hb hts hi7 hown hK hP 0 rfl rfl 5 (by decide) (hts (.fieldLink RX7 72 "PanTalesModel" "panPlace" "I") (by decide +kernel)) (fun _ h9 => h9) rfl dX7_ofPan_5 ?_
    refine lv_goto (tgt := 39) hx hb dX7_ofPan_8 (by decide) ?_
    exact r_iret hx hb hr hlk hS () (by unfold panG; rw [if_pos c_1]) (hP.sub [0] rfl) (hD.sub [0] (by decide) rfl) dX7_ofPan_39
set_option maxHeartbeats 4000000 in
set_option maxRecDepth 100000 in
theorem c_X7_pan (l : Launch) (g : GT) (sz : Nat) (hζ : Nat) (Aζ : Nat → Nat) (xζ : Int32) : Ci l yX7_pan wsX7_pan { frames := 2, cells := 0, slots := 0, locals := 42 } g sz [.ref hζ, .int xζ] [(hζ, .inr (7, oM Aζ iM0)), aI g (Aζ 1) 10 (fun _ => 5), aI g (Aζ 2) 10 (fun _ => 0), aI g (Aζ 3) 10 (fun _ => (-6)), aI g (Aζ 18) 34 (fun _ => 0)] (panF xζ) [] := by
  refine gMet_i (cc := cX7_pan) (maxL := 3) (ret := (some .int)) (by decide) rfl (Nat.le_of_ble_eq_true rfl) ?_
  intro p e s m args below meth c Z hx hb hr F hlk hnm hK hN hA H locs hP hD hS ls hl
  have hl : lv_has ls 3 [(0, .ref hζ), (1, .int xζ)] := hl
  have F : CallFix p m c cX7_pan 3 s args wsX7_pan RX7 := F
  have hts := F.2.2.2.2
  have hown : s.vm.findClass RX7 = some m.cls := F.2.2.2.1
  refine lv_iload_n hx hb dX7_pan_0 rfl (lv_at hl 1 rfl) ?_
  refine lv_i2l (v := xζ.toInt64) hx hb dX7_pan_1 rfl ?_
  refine lv_lconst (v := 0) hx hb dX7_pan_2 (by decide) ?_
  refine lv_ldc2 (v := 3) hx hb hown (hts (.constantLong RX7 202 (3)) (by decide +kernel)) dX7_pan_3 ?_
  refine gcP (As := [.long xζ.toInt64, .long 0, .long 3]) (rest := []) F (c_X7_in l xζ.toInt64 0 3) gX7_pan_X7_in kX7_in rfl rfl rfl ⟨(Nat.le_of_ble_eq_true rfl), (Nat.le_of_ble_eq_true rfl)⟩ rfl rfl hl.1 (Nat.le_of_ble_eq_true rfl) dX7_pan_6 ⟨(Nat.le_of_ble_eq_true rfl), (Nat.le_of_ble_eq_true rfl)⟩ ?_
  refine gtop (y := bI (inB xζ 0 3)) (congrArg bI (inL_i (lo := 0) (hi := 3) (by decide) (by decide))) ?_
  refine lv_if_ne (tgt := 15) hx hb dX7_pan_9 (by decide) (fun c_1 => ?_) (fun c_1 => ?_)
  · have c_1 : inB xζ 0 3 = true := bI_1 c_1
    refine lv_aload_n hx hb dX7_pan_15 rfl (lv_at hl 0 rfl) ?_
    refine gcV_i (As := []) (rest := []) (ci := 7) (q := (RX7, TX7, 34)) F hK hN hP hD hS hA (c_X7_refusal l g H.size hζ Aζ) gX7_pan_X7_refusal kX7_refusal rfl rfl rfl rfl ⟨(Nat.le_of_ble_eq_true rfl), (Nat.le_of_ble_eq_true rfl)⟩ [0, 1, 2, 3, 4] [] rfl rfl rfl (by decide) rfl rfl rfl rfl rfl hl.1 (Nat.le_of_ble_eq_true rfl) dX7_pan_16 ⟨(Nat.le_of_ble_eq_true rfl), (Nat.le_of_ble_eq_true rfl)⟩ (fun r_w u_w H locs hw hP hD hS => ?_)
    have hP : va_P g.1 vwCl [(hζ, .inr (7, oM Aζ (upd (upd (upd (upd (upd (upd iM0 17 0) 19 (-6)) 20 (-6)) 21 0) 22 (-6)) 23 (-6)))), aI g (Aζ 1) 10 (fun _ => 5), aI g (Aζ 2) 10 (fun _ => 0), aI g (Aζ 3) 10 (fun _ => (-6)), aI g (Aζ 18) 34 hdF] H := hP
    have hD : va_D Z [(hζ, .inr (7, oM Aζ (upd (upd (upd (upd (upd (upd iM0 17 0) 19 (-6)) 20 (-6)) 21 0) 22 (-6)) 23 (-6)))), aI g (Aζ 1) 10 (fun _ => 5), aI g (Aζ 2) 10 (fun _ => 0), aI g (Aζ 3) 10 (fun _ => (-6)), aI g (Aζ 18) 34 hdF] := hD
    obtain rfl := hw
    refine lv_istore_n (lv' := [(2, .int (-6)), (0, .ref hζ), (1, .int xζ)]) hx hb dX7_pan_19 rfl hl (by decide) rfl (fun ls hl => ?_)
    refine lv_aload_n hx hb dX7_pan_20 rfl (lv_at hl 1 rfl) ?_
    refine lv_iload_n hx hb dX7_pan_21 rfl (lv_at hl 0 rfl) ?_
    refine lv_bipush (v := (-6)) hx hb dX7_pan_22 (by decide) ?_
    refine lv_icmp_eq (tgt := 31) hx hb dX7_pan_24 (by decide) (fun c_2 => ?_) (fun c_2 => ?_)
    · refine lv_aload_n hx hb dX7_pan_31 rfl (lv_at hl 1 rfl) ?_
      refine lv_iload_n hx hb dX7_pan_32 rfl (lv_at hl 2 rfl) ?_
      refine gcV_i (As := [.int xζ]) (rest := [.ref hζ]) (ci := 7) (q := (RX7, TX7, 34)) F hK hN hP hD hS hA (c_X7_ofPan l g H.size hζ Aζ xζ) gX7_pan_X7_ofPan kX7_ofPan rfl rfl rfl rfl ⟨(Nat.le_of_ble_eq_true rfl), (Nat.le_of_ble_eq_true rfl)⟩ [0] [1, 2, 3, 4] rfl rfl rfl (by decide) rfl rfl rfl rfl rfl hl.1 (Nat.le_of_ble_eq_true rfl) dX7_pan_33 ⟨(Nat.le_of_ble_eq_true rfl), (Nat.le_of_ble_eq_true rfl)⟩ (fun r_w u_w H locs hw hP hD hS => ?_)
      have hP : va_P g.1 vwCl [aI g (Aζ 1) 10 (fun _ => 5), aI g (Aζ 2) 10 (fun _ => 0), aI g (Aζ 3) 10 (fun _ => (-6)), aI g (Aζ 18) 34 hdF, (hζ, .inr (7, oM Aζ (upd (upd (upd (upd (upd (upd iM0 17 0) 19 (-6)) 20 (-6)) 21 0) 22 (-6)) 23 (-6))))] H := hP
      have hD : va_D Z [aI g (Aζ 1) 10 (fun _ => 5), aI g (Aζ 2) 10 (fun _ => 0), aI g (Aζ 3) 10 (fun _ => (-6)), aI g (Aζ 18) 34 hdF, (hζ, .inr (7, oM Aζ (upd (upd (upd (upd (upd (upd iM0 17 0) 19 (-6)) 20 (-6)) 21 0) 22 (-6)) 23 (-6))))] := hD
      obtain rfl := hw
      refine gcV_i (As := [.int (panG xζ)]) (rest := []) (ci := 7) (q := (RX7, TX7, 34)) F hK hN hP hD hS hA (c_X7_back l g H.size hζ Aζ (upd (upd (upd (upd (upd (upd iM0 17 0) 19 (-6)) 20 (-6)) 21 0) 22 (-6)) 23 (-6)) (fun _ => 5) (fun _ => 0) (fun _ => (-6)) hdF (panG xζ)) gX7_pan_X7_back kX7_back rfl rfl rfl rfl ⟨(Nat.le_of_ble_eq_true rfl), (Nat.le_of_ble_eq_true rfl)⟩ [4, 0, 1, 2, 3] [] rfl rfl rfl (by decide) rfl rfl rfl rfl rfl hl.1 (Nat.le_of_ble_eq_true rfl) dX7_pan_36 ⟨(Nat.le_of_ble_eq_true rfl), (Nat.le_of_ble_eq_true rfl)⟩ (fun r_w u_w H locs hw hP hD hS => ?_)
      have hP : va_P g.1 vwCl [(hζ, .inr (7, oM Aζ (upd (upd (upd (upd (upd (upd (upd (upd (upd (upd iM0 17 0) 19 (-6)) 20 (-6)) 21 0) 22 (-6)) 23 (-6)) 5 (hdF 30)) 6 (hdF 31)) 7 (hdF 32)) 8 (hdF 33))))] H := hP
      have hD : va_D Z [(hζ, .inr (7, oM Aζ (upd (upd (upd (upd (upd (upd (upd (upd (upd (upd iM0 17 0) 19 (-6)) 20 (-6)) 21 0) 22 (-6)) 23 (-6)) 5 (hdF 30)) 6 (hdF 31)) 7 (hdF 32)) 8 (hdF 33))))] := hD
      obtain rfl := hw
      exact r_iret hx hb hr hlk hS () (by unfold panF; rw [if_pos c_1]; rfl) (hP.sub [] rfl) (hD.sub [] (by decide) rfl) dX7_pan_39
    · exact absurd (by decide) c_2
  · have c_1 : inB xζ 0 3 = false := bI_0 c_1
    refine lv_bipush (v := (-2)) hx hb dX7_pan_12 (by decide) ?_
    exact r_iret hx hb hr hlk hS () (by unfold panF; rw [if_neg (bF c_1)]) (hP.sub [] rfl) (hD.sub [] (by decide) rfl) dX7_pan_14
set_option maxHeartbeats 4000000 in
set_option maxRecDepth 100000 in
theorem c_X7_believing_t (l : Launch) (g : GT) (sz : Nat) (hζ : Nat) (Aζ : Nat → Nat) (Iζ : Nat → Int32) (tζ : Nat) (htζ : tζ < 2 ^ 31) : Ci l yX7_believing wsX7_believing { frames := 0, cells := 0, slots := 0, locals := 0 } g sz [.ref hζ, .int (nI tζ)] [(hζ, .inr (7, oM Aζ Iζ)), aI g (Aζ 3) 10 (fun _ => (-6))] 0 [(hζ, .inr (7, oM Aζ Iζ)), aI g (Aζ 3) 10 (fun _ => (-6))] := by
  refine gMet_i (cc := cX7_believing) (maxL := 4) (ret := (some .int)) (by decide) rfl (Nat.le_of_ble_eq_true rfl) ?_
  intro p e s m args below meth c Z hx hb hr F hlk hnm hK hN hA H locs hP hD hS ls hl
  have hl : lv_has ls 4 [(0, .ref hζ), (1, .int (nI tζ))] := hl
  have F : CallFix p m c cX7_believing 4 s args wsX7_believing RX7 := F
  have hts := F.2.2.2.2
  have hown : s.vm.findClass RX7 = some m.cls := F.2.2.2.1
  have hi7 : ∀ w ∈ u_ws RX7 TX7 34, w ∈ wsX7_believing := by decide +kernel
  refine lv_iconst (v := 0) hx hb dX7_believing_0 (by decide) ?_
  refine lv_istore_n (lv' := [(2, .int 0), (0, .ref hζ), (1, .int (nI tζ))]) hx hb dX7_believing_1 rfl hl (by decide) rfl (fun ls hl => ?_)
  refine lv_iconst (v := 0) hx hb dX7_believing_2 (by decide) ?_
  refine lv_istore_n (lv' := [(3, .int 0), (2, .int 0), (0, .ref hζ), (1, .int (nI tζ))]) hx hb dX7_believing_3 rfl hl (by decide) rfl (fun ls hl => ?_)
  refine gloop (σ := Nat) (fun u0 => 10 - u0) (fun u0 => u0 ≤ 10) (fun u0 => [(hζ, .inr (7, oM Aζ Iζ)), aI g (Aζ 3) 10 (fun _ => (-6))]) (fun u0 => [(3, .int (nI u0)), (2, .int 0), (0, .ref hζ), (1, .int (nI tζ))]) ?_ 0 (by first | omega | decide | rfl) (hP.sub [0, 1] rfl) (hD.sub [0, 1] (by decide) rfl) hS (lv_sub hl [0, 1, 2, 3] rfl)
  rintro iζ hiζ ih4 H locs ls hP hD hS hl
  have hiζ : iζ ≤ 10 := hiζ
  have hP : va_P g.1 vwCl [(hζ, .inr (7, oM Aζ Iζ)), aI g (Aζ 3) 10 (fun _ => (-6))] H := hP
  have hD : va_D Z [(hζ, .inr (7, oM Aζ Iζ)), aI g (Aζ 3) 10 (fun _ => (-6))] := hD
  have hl : lv_has ls 4 [(3, .int (nI iζ)), (2, .int 0), (0, .ref hζ), (1, .int (nI tζ))] := hl
  refine lv_iload_n hx hb dX7_believing_4 rfl (lv_at hl 0 rfl) ?_
  refine lv_bipush (v := 10) hx hb dX7_believing_5 (by decide) ?_
  refine lv_icmp_ge (tgt := 36) hx hb dX7_believing_7 (by decide) (fun c_1 => ?_) (fun c_1 => ?_)
  · have c_1 : 10 ≤ iζ := (nI_leI (a := 10) (b := iζ) (by omega) (by omega)).mp c_1
    refine lv_iload_n hx hb dX7_believing_36 rfl (lv_at hl 1 rfl) ?_
    exact r_iret hx hb hr hlk hS () rfl (hP.sub [0, 1] rfl) (hD.sub [0, 1] (by decide) rfl) dX7_believing_37
  · have c_1 : ¬ 10 ≤ iζ := fun z => c_1 ((nI_leI (a := 10) (b := iζ) (by omega) (by omega)).mpr z)
    refine lv_iload_n hx hb dX7_believing_10 rfl (lv_at hl 1 rfl) ?_
    refine lv_aload_n hx hb dX7_believing_11 rfl (lv_at hl 2 rfl) ?_
    refine va_get (D := g.1) (ci := 7) (v := .ref (Aζ 3)) (C := RX7) (T := TX7) (N := 34) hx hb hts hi7 hown hK hP 0 rfl rfl 3 (by decide) (hts (.fieldLink RX7 19 "PanTalesModel" "believes" "[I") (by decide +kernel)) (fun _ h9 => h9) rfl dX7_believing_12 ?_
    refine lv_iload_n hx hb dX7_believing_15 rfl (lv_at hl 0 rfl) ?_
    refine r_iald (v := (-6)) hx hb hK hP 1 rfl (vp_in_nI (n := iζ) (by omega) (by omega)) (congrArg (fun _ => (-6)) (nI_clamp (n := iζ) (by omega))) dX7_believing_16 ?_
    refine lv_iload_n hx hb dX7_believing_17 rfl (lv_at hl 3 rfl) ?_
    refine lv_icmp_ne (tgt := 27) hx hb dX7_believing_18 (by decide) (fun c_2 => ?_) (fun c_2 => ?_)
    · refine lv_iconst (v := 0) hx hb dX7_believing_27 (by decide) ?_
      refine lv_ior hx hb dX7_believing_28 ?_
      refine gtop (y := 0) (by decide) ?_
      refine lv_istore_n (lv' := [(2, .int 0), (3, .int (nI iζ)), (0, .ref hζ), (1, .int (nI tζ))]) hx hb dX7_believing_29 rfl hl (by decide) rfl (fun ls hl => ?_)
      refine lv_iinc (v := nI (iζ + 1)) (lv' := [(3, .int (nI (iζ + 1))), (2, .int 0), (0, .ref hζ), (1, .int (nI tζ))]) hx hb dX7_believing_30 hl (k := 1) rfl (nI_1 iζ) (by decide) rfl (fun ls hl => ?_)
      refine lv_goto (tgt := 4) hx hb dX7_believing_33 (by decide) ?_
      exact ih4 (iζ + 1) (by first | omega | (dsimp only; omega)) (by first | omega | (dsimp only; omega)) _ _ _ (hP.sub [0, 1] rfl) (hD.sub [0, 1] (by decide) rfl) hS (lv_sub hl [0, 1, 2, 3] rfl)
    · exact absurd c_2 (neg6_ne htζ)
set_option maxHeartbeats 4000000 in
set_option maxRecDepth 100000 in
theorem c_X7_believing_n (l : Launch) (g : GT) (sz : Nat) (hζ : Nat) (Aζ : Nat → Nat) (Iζ : Nat → Int32) : Ci l yX7_believing wsX7_believing { frames := 0, cells := 0, slots := 0, locals := 0 } g sz [.ref hζ, .int (-6)] [(hζ, .inr (7, oM Aζ Iζ)), aI g (Aζ 3) 10 (fun _ => (-6))] 1023 [(hζ, .inr (7, oM Aζ Iζ)), aI g (Aζ 3) 10 (fun _ => (-6))] := by
  refine gMet_i (cc := cX7_believing) (maxL := 4) (ret := (some .int)) (by decide) rfl (Nat.le_of_ble_eq_true rfl) ?_
  intro p e s m args below meth c Z hx hb hr F hlk hnm hK hN hA H locs hP hD hS ls hl
  have hl : lv_has ls 4 [(0, .ref hζ), (1, .int (-6))] := hl
  have F : CallFix p m c cX7_believing 4 s args wsX7_believing RX7 := F
  have hts := F.2.2.2.2
  have hown : s.vm.findClass RX7 = some m.cls := F.2.2.2.1
  have hi7 : ∀ w ∈ u_ws RX7 TX7 34, w ∈ wsX7_believing := by decide +kernel
  refine lv_iconst (v := 0) hx hb dX7_believing_0 (by decide) ?_
  refine lv_istore_n (lv' := [(2, .int 0), (0, .ref hζ), (1, .int (-6))]) hx hb dX7_believing_1 rfl hl (by decide) rfl (fun ls hl => ?_)
  refine lv_iconst (v := 0) hx hb dX7_believing_2 (by decide) ?_
  refine lv_istore_n (lv' := [(3, .int 0), (2, .int 0), (0, .ref hζ), (1, .int (-6))]) hx hb dX7_believing_3 rfl hl (by decide) rfl (fun ls hl => ?_)
  refine gloop (σ := Nat) (fun u0 => 10 - u0) (fun u0 => u0 ≤ 10) (fun u0 => [(hζ, .inr (7, oM Aζ Iζ)), aI g (Aζ 3) 10 (fun _ => (-6))]) (fun u0 => [(3, .int (nI u0)), (2, .int (nI (2 ^ u0 - 1))), (0, .ref hζ), (1, .int (-6))]) ?_ 0 (by first | omega | decide | rfl) (hP.sub [0, 1] rfl) (hD.sub [0, 1] (by decide) rfl) hS (lv_sub hl [0, 1, 2, 3] rfl)
  rintro iζ hiζ ih4 H locs ls hP hD hS hl
  have hiζ : iζ ≤ 10 := hiζ
  have hP : va_P g.1 vwCl [(hζ, .inr (7, oM Aζ Iζ)), aI g (Aζ 3) 10 (fun _ => (-6))] H := hP
  have hD : va_D Z [(hζ, .inr (7, oM Aζ Iζ)), aI g (Aζ 3) 10 (fun _ => (-6))] := hD
  have hl : lv_has ls 4 [(3, .int (nI iζ)), (2, .int (nI (2 ^ iζ - 1))), (0, .ref hζ), (1, .int (-6))] := hl
  refine lv_iload_n hx hb dX7_believing_4 rfl (lv_at hl 0 rfl) ?_
  refine lv_bipush (v := 10) hx hb dX7_believing_5 (by decide) ?_
  refine lv_icmp_ge (tgt := 36) hx hb dX7_believing_7 (by decide) (fun c_1 => ?_) (fun c_1 => ?_)
  · have c_1 : 10 ≤ iζ := (nI_leI (a := 10) (b := iζ) (by omega) (by omega)).mp c_1
    obtain rfl : iζ = 10 := by omega
    skip
    refine lv_iload_n hx hb dX7_believing_36 rfl (lv_at hl 1 rfl) ?_
    exact r_iret hx hb hr hlk hS () rfl (hP.sub [0, 1] rfl) (hD.sub [0, 1] (by decide) rfl) dX7_believing_37
  · have c_1 : ¬ 10 ≤ iζ := fun z => c_1 ((nI_leI (a := 10) (b := iζ) (by omega) (by omega)).mpr z)
    refine lv_iload_n hx hb dX7_believing_10 rfl (lv_at hl 1 rfl) ?_
    refine lv_aload_n hx hb dX7_believing_11 rfl (lv_at hl 2 rfl) ?_
    refine va_get (D := g.1) (ci := 7) (v := .ref (Aζ 3)) (C := RX7) (T := TX7) (N := 34) hx hb hts hi7 hown hK hP 0 rfl rfl 3 (by decide) (hts (.fieldLink RX7 19 "PanTalesModel" "believes" "[I") (by decide +kernel)) (fun _ h9 => h9) rfl dX7_believing_12 ?_
    refine lv_iload_n hx hb dX7_believing_15 rfl (lv_at hl 0 rfl) ?_
    refine r_iald (v := (-6)) hx hb hK hP 1 rfl (vp_in_nI (n := iζ) (by omega) (by omega)) (congrArg (fun _ => (-6)) (nI_clamp (n := iζ) (by omega))) dX7_believing_16 ?_
    refine lv_iload_n hx hb dX7_believing_17 rfl (lv_at hl 3 rfl) ?_
    refine lv_icmp_ne (tgt := 27) hx hb dX7_believing_18 (by decide) (fun c_2 => ?_) (fun c_2 => ?_)
    · exact absurd (by decide) c_2
    · refine lv_iconst (v := 1) hx hb dX7_believing_21 (by decide) ?_
      refine lv_iload_n hx hb dX7_believing_22 rfl (lv_at hl 0 rfl) ?_
      refine lv_ishl hx hb dX7_believing_23 ?_
      refine lv_goto (tgt := 28) hx hb dX7_believing_24 (by decide) ?_
      refine lv_ior hx hb dX7_believing_28 ?_
      refine gtop (y := nI (2 ^ (iζ + 1) - 1)) (beq_0 (by omega)) ?_
      refine lv_istore_n (lv' := [(2, .int (nI (2 ^ (iζ + 1) - 1))), (3, .int (nI iζ)), (0, .ref hζ), (1, .int (-6))]) hx hb dX7_believing_29 rfl hl (by decide) rfl (fun ls hl => ?_)
      refine lv_iinc (v := nI (iζ + 1)) (lv' := [(3, .int (nI (iζ + 1))), (2, .int (nI (2 ^ (iζ + 1) - 1))), (0, .ref hζ), (1, .int (-6))]) hx hb dX7_believing_30 hl (k := 1) rfl (nI_1 iζ) (by decide) rfl (fun ls hl => ?_)
      refine lv_goto (tgt := 4) hx hb dX7_believing_33 (by decide) ?_
      exact ih4 (iζ + 1) (by first | omega | (dsimp only; omega)) (by first | omega | (dsimp only; omega)) _ _ _ (hP.sub [0, 1] rfl) (hD.sub [0, 1] (by decide) rfl) hS (lv_sub hl [0, 1, 2, 3] rfl)
set_option maxHeartbeats 4000000 in
set_option maxRecDepth 100000 in
theorem c_X7_holds (l : Launch) (g : GT) (sz : Nat) (hζ : Nat) (Aζ : Nat → Nat) (xζ : Int32) : Ci l yX7_holds wsX7_holds { frames := 2, cells := 0, slots := 0, locals := 45 } g sz [.ref hζ, .int xζ] [(hζ, .inr (7, oM Aζ iM0)), aI g (Aζ 1) 10 (fun _ => 5), aI g (Aζ 2) 10 (fun _ => 0), aI g (Aζ 3) 10 (fun _ => (-6)), aI g (Aζ 18) 34 (fun _ => 0)] (holdsF xζ) [] := by
  refine gMet_i (cc := cX7_holds) (maxL := 3) (ret := (some .int)) (by decide) rfl (Nat.le_of_ble_eq_true rfl) ?_
  intro p e s m args below meth c Z hx hb hr F hlk hnm hK hN hA H locs hP hD hS ls hl
  have hl : lv_has ls 3 [(0, .ref hζ), (1, .int xζ)] := hl
  have F : CallFix p m c cX7_holds 3 s args wsX7_holds RX7 := F
  have hts := F.2.2.2.2
  have hown : s.vm.findClass RX7 = some m.cls := F.2.2.2.1
  refine lv_iload_n hx hb dX7_holds_0 rfl (lv_at hl 1 rfl) ?_
  refine gcP (As := [.int xζ]) (rest := []) F (c_X7_isTale l xζ) gX7_holds_X7_isTale kX7_isTale rfl rfl rfl ⟨(Nat.le_of_ble_eq_true rfl), (Nat.le_of_ble_eq_true rfl)⟩ rfl rfl hl.1 (Nat.le_of_ble_eq_true rfl) dX7_holds_1 ⟨(Nat.le_of_ble_eq_true rfl), (Nat.le_of_ble_eq_true rfl)⟩ ?_
  refine lv_if_ne (tgt := 9) hx hb dX7_holds_4 (by decide) (fun c_1 => ?_) (fun c_1 => ?_)
  · have c_1 : inB xζ 0 9 = true := bI_1 c_1
    refine lv_aload_n hx hb dX7_holds_9 rfl (lv_at hl 0 rfl) ?_
    refine gcV_i (As := []) (rest := []) (ci := 7) (q := (RX7, TX7, 34)) F hK hN hP hD hS hA (c_X7_refusal l g H.size hζ Aζ) gX7_holds_X7_refusal kX7_refusal rfl rfl rfl rfl ⟨(Nat.le_of_ble_eq_true rfl), (Nat.le_of_ble_eq_true rfl)⟩ [0, 1, 2, 3, 4] [] rfl rfl rfl (by decide) rfl rfl rfl rfl rfl hl.1 (Nat.le_of_ble_eq_true rfl) dX7_holds_10 ⟨(Nat.le_of_ble_eq_true rfl), (Nat.le_of_ble_eq_true rfl)⟩ (fun r_w u_w H locs hw hP hD hS => ?_)
    have hP : va_P g.1 vwCl [(hζ, .inr (7, oM Aζ (upd (upd (upd (upd (upd (upd iM0 17 0) 19 (-6)) 20 (-6)) 21 0) 22 (-6)) 23 (-6)))), aI g (Aζ 1) 10 (fun _ => 5), aI g (Aζ 2) 10 (fun _ => 0), aI g (Aζ 3) 10 (fun _ => (-6)), aI g (Aζ 18) 34 hdF] H := hP
    have hD : va_D Z [(hζ, .inr (7, oM Aζ (upd (upd (upd (upd (upd (upd iM0 17 0) 19 (-6)) 20 (-6)) 21 0) 22 (-6)) 23 (-6)))), aI g (Aζ 1) 10 (fun _ => 5), aI g (Aζ 2) 10 (fun _ => 0), aI g (Aζ 3) 10 (fun _ => (-6)), aI g (Aζ 18) 34 hdF] := hD
    obtain rfl := hw
    refine lv_istore_n (lv' := [(2, .int (-6)), (0, .ref hζ), (1, .int xζ)]) hx hb dX7_holds_13 rfl hl (by decide) rfl (fun ls hl => ?_)
    refine lv_aload_n hx hb dX7_holds_14 rfl (lv_at hl 1 rfl) ?_
    refine lv_iload_n hx hb dX7_holds_15 rfl (lv_at hl 0 rfl) ?_
    refine lv_bipush (v := (-6)) hx hb dX7_holds_16 (by decide) ?_
    refine lv_icmp_eq (tgt := 25) hx hb dX7_holds_18 (by decide) (fun c_2 => ?_) (fun c_2 => ?_)
    · obtain ⟨iζ, hiζ, eiζ⟩ := inB_nat (N := 10) (by decide) c_1
      have hl : lv_has ls 3 [(2, .int (-6)), (0, .ref hζ), (1, .int (nI iζ))] := by first | exact hl | (rw [← (eiζ : xζ = nI iζ)]; exact hl)
      refine lv_aload_n hx hb dX7_holds_25 rfl (lv_at hl 1 rfl) ?_
      refine lv_iload_n hx hb dX7_holds_26 rfl (lv_at hl 2 rfl) ?_
      refine gcV_i (As := [.int (nI iζ)]) (rest := [.ref hζ]) (ci := 7) (q := (RX7, TX7, 34)) F hK hN hP hD hS hA (c_X7_believing_t l g H.size hζ Aζ (upd (upd (upd (upd (upd (upd iM0 17 0) 19 (-6)) 20 (-6)) 21 0) 22 (-6)) 23 (-6)) iζ (by omega)) gX7_holds_X7_believing kX7_believing rfl rfl rfl rfl ⟨(Nat.le_of_ble_eq_true rfl), (Nat.le_of_ble_eq_true rfl)⟩ [0, 3] [1, 2, 4] rfl rfl rfl (by decide) rfl rfl rfl rfl rfl hl.1 (Nat.le_of_ble_eq_true rfl) dX7_holds_27 ⟨(Nat.le_of_ble_eq_true rfl), (Nat.le_of_ble_eq_true rfl)⟩ (fun r_w u_w H locs hw hP hD hS => ?_)
      have hP : va_P g.1 vwCl [aI g (Aζ 1) 10 (fun _ => 5), aI g (Aζ 2) 10 (fun _ => 0), aI g (Aζ 18) 34 hdF, (hζ, .inr (7, oM Aζ (upd (upd (upd (upd (upd (upd iM0 17 0) 19 (-6)) 20 (-6)) 21 0) 22 (-6)) 23 (-6)))), aI g (Aζ 3) 10 (fun _ => (-6))] H := hP
      have hD : va_D Z [aI g (Aζ 1) 10 (fun _ => 5), aI g (Aζ 2) 10 (fun _ => 0), aI g (Aζ 18) 34 hdF, (hζ, .inr (7, oM Aζ (upd (upd (upd (upd (upd (upd iM0 17 0) 19 (-6)) 20 (-6)) 21 0) 22 (-6)) 23 (-6)))), aI g (Aζ 3) 10 (fun _ => (-6))] := hD
      obtain rfl := hw
      refine gcV_i (As := [.int 0]) (rest := []) (ci := 7) (q := (RX7, TX7, 34)) F hK hN hP hD hS hA (c_X7_back l g H.size hζ Aζ (upd (upd (upd (upd (upd (upd iM0 17 0) 19 (-6)) 20 (-6)) 21 0) 22 (-6)) 23 (-6)) (fun _ => 5) (fun _ => 0) (fun _ => (-6)) hdF 0) gX7_holds_X7_back kX7_back rfl rfl rfl rfl ⟨(Nat.le_of_ble_eq_true rfl), (Nat.le_of_ble_eq_true rfl)⟩ [3, 0, 1, 4, 2] [] rfl rfl rfl (by decide) rfl rfl rfl rfl rfl hl.1 (Nat.le_of_ble_eq_true rfl) dX7_holds_30 ⟨(Nat.le_of_ble_eq_true rfl), (Nat.le_of_ble_eq_true rfl)⟩ (fun r_w u_w H locs hw hP hD hS => ?_)
      have hP : va_P g.1 vwCl [(hζ, .inr (7, oM Aζ (upd (upd (upd (upd (upd (upd (upd (upd (upd (upd iM0 17 0) 19 (-6)) 20 (-6)) 21 0) 22 (-6)) 23 (-6)) 5 (hdF 30)) 6 (hdF 31)) 7 (hdF 32)) 8 (hdF 33))))] H := hP
      have hD : va_D Z [(hζ, .inr (7, oM Aζ (upd (upd (upd (upd (upd (upd (upd (upd (upd (upd iM0 17 0) 19 (-6)) 20 (-6)) 21 0) 22 (-6)) 23 (-6)) 5 (hdF 30)) 6 (hdF 31)) 7 (hdF 32)) 8 (hdF 33))))] := hD
      obtain rfl := hw
      exact r_iret hx hb hr hlk hS () (by unfold holdsF; rw [if_pos c_1]) (hP.sub [] rfl) (hD.sub [] (by decide) rfl) dX7_holds_33
    · exact absurd (by decide) c_2
  · have c_1 : inB xζ 0 9 = false := bI_0 c_1
    refine lv_iconst (v := (-1)) hx hb dX7_holds_7 (by decide) ?_
    exact r_iret hx hb hr hlk hS () (by unfold holdsF; rw [if_neg (bF c_1)]) (hP.sub [] rfl) (hD.sub [] (by decide) rfl) dX7_holds_8
set_option maxHeartbeats 4000000 in
set_option maxRecDepth 100000 in
theorem c_X7_other (l : Launch) (g : GT) (sz : Nat) (hζ : Nat) (Aζ : Nat → Nat) (xζ : Int32) : Ci l yX7_other wsX7_other { frames := 2, cells := 0, slots := 0, locals := 42 } g sz [.ref hζ, .int xζ] [(hζ, .inr (7, oM Aζ iM0)), aI g (Aζ 1) 10 (fun _ => 5), aI g (Aζ 2) 10 (fun _ => 0), aI g (Aζ 3) 10 (fun _ => (-6)), aI g (Aζ 18) 34 (fun _ => 0)] (otherF xζ) [] := by
  refine gMet_i (cc := cX7_other) (maxL := 3) (ret := (some .int)) (by decide) rfl (Nat.le_of_ble_eq_true rfl) ?_
  intro p e s m args below meth c Z hx hb hr F hlk hnm hK hN hA H locs hP hD hS ls hl
  have hl : lv_has ls 3 [(0, .ref hζ), (1, .int xζ)] := hl
  have F : CallFix p m c cX7_other 3 s args wsX7_other RX7 := F
  have hts := F.2.2.2.2
  have hown : s.vm.findClass RX7 = some m.cls := F.2.2.2.1
  have hi7 : ∀ w ∈ u_ws RX7 TX7 34, w ∈ wsX7_other := by decide +kernel
  refine lv_iload_n hx hb dX7_other_0 rfl (lv_at hl 1 rfl) ?_
  refine lv_i2l (v := xζ.toInt64) hx hb dX7_other_1 rfl ?_
  refine lv_lconst (v := 0) hx hb dX7_other_2 (by decide) ?_
  refine lv_lconst (v := 1) hx hb dX7_other_3 (by decide) ?_
  refine gcP (As := [.long xζ.toInt64, .long 0, .long 1]) (rest := []) F (c_X7_in l xζ.toInt64 0 1) gX7_other_X7_in kX7_in rfl rfl rfl ⟨(Nat.le_of_ble_eq_true rfl), (Nat.le_of_ble_eq_true rfl)⟩ rfl rfl hl.1 (Nat.le_of_ble_eq_true rfl) dX7_other_4 ⟨(Nat.le_of_ble_eq_true rfl), (Nat.le_of_ble_eq_true rfl)⟩ ?_
  refine gtop (y := bI (inB xζ 0 1)) (congrArg bI (inL_i (lo := 0) (hi := 1) (by decide) (by decide))) ?_
  refine lv_if_ne (tgt := 13) hx hb dX7_other_7 (by decide) (fun c_1 => ?_) (fun c_1 => ?_)
  · have c_1 : inB xζ 0 1 = true := bI_1 c_1
    refine lv_aload_n hx hb dX7_other_13 rfl (lv_at hl 0 rfl) ?_
    refine lv_aload_n hx hb dX7_other_14 rfl (lv_at hl 0 rfl) ?_
    refine gcV_i (As := []) (rest := [.ref hζ]) (ci := 7) (q := (RX7, TX7, 34)) F hK hN hP hD hS hA (c_X7_refusal l g H.size hζ Aζ) gX7_other_X7_refusal kX7_refusal rfl rfl rfl rfl ⟨(Nat.le_of_ble_eq_true rfl), (Nat.le_of_ble_eq_true rfl)⟩ [0, 1, 2, 3, 4] [] rfl rfl rfl (by decide) rfl rfl rfl rfl rfl hl.1 (Nat.le_of_ble_eq_true rfl) dX7_other_15 ⟨(Nat.le_of_ble_eq_true rfl), (Nat.le_of_ble_eq_true rfl)⟩ (fun r_w u_w H locs hw hP hD hS => ?_)
    have hP : va_P g.1 vwCl [(hζ, .inr (7, oM Aζ (upd (upd (upd (upd (upd (upd iM0 17 0) 19 (-6)) 20 (-6)) 21 0) 22 (-6)) 23 (-6)))), aI g (Aζ 1) 10 (fun _ => 5), aI g (Aζ 2) 10 (fun _ => 0), aI g (Aζ 3) 10 (fun _ => (-6)), aI g (Aζ 18) 34 hdF] H := hP
    have hD : va_D Z [(hζ, .inr (7, oM Aζ (upd (upd (upd (upd (upd (upd iM0 17 0) 19 (-6)) 20 (-6)) 21 0) 22 (-6)) 23 (-6)))), aI g (Aζ 1) 10 (fun _ => 5), aI g (Aζ 2) 10 (fun _ => 0), aI g (Aζ 3) 10 (fun _ => (-6)), aI g (Aζ 18) 34 hdF] := hD
    obtain rfl := hw
    refine gcV_i (As := [.int (-6)]) (rest := []) (ci := 7) (q := (RX7, TX7, 34)) F hK hN hP hD hS hA (c_X7_back l g H.size hζ Aζ (upd (upd (upd (upd (upd (upd iM0 17 0) 19 (-6)) 20 (-6)) 21 0) 22 (-6)) 23 (-6)) (fun _ => 5) (fun _ => 0) (fun _ => (-6)) hdF (-6)) gX7_other_X7_back kX7_back rfl rfl rfl rfl ⟨(Nat.le_of_ble_eq_true rfl), (Nat.le_of_ble_eq_true rfl)⟩ [0, 1, 2, 3, 4] [] rfl rfl rfl (by decide) rfl rfl rfl rfl rfl hl.1 (Nat.le_of_ble_eq_true rfl) dX7_other_18 ⟨(Nat.le_of_ble_eq_true rfl), (Nat.le_of_ble_eq_true rfl)⟩ (fun r_w u_w H locs hw hP hD hS => ?_)
    have hP : va_P g.1 vwCl [(hζ, .inr (7, oM Aζ (upd (upd (upd (upd (upd (upd (upd (upd (upd (upd iM0 17 0) 19 (-6)) 20 (-6)) 21 0) 22 (-6)) 23 (-6)) 5 (hdF 30)) 6 (hdF 31)) 7 (hdF 32)) 8 (hdF 33))))] H := hP
    have hD : va_D Z [(hζ, .inr (7, oM Aζ (upd (upd (upd (upd (upd (upd (upd (upd (upd (upd iM0 17 0) 19 (-6)) 20 (-6)) 21 0) 22 (-6)) 23 (-6)) 5 (hdF 30)) 6 (hdF 31)) 7 (hdF 32)) 8 (hdF 33))))] := hD
    obtain rfl := hw
    refine lv_istore_n (lv' := [(2, .int (-6)), (0, .ref hζ), (1, .int xζ)]) hx hb dX7_other_21 rfl hl (by decide) rfl (fun ls hl => ?_)
    refine lv_iload_n hx hb dX7_other_22 rfl (lv_at hl 0 rfl) ?_
    refine lv_bipush (v := (-6)) hx hb dX7_other_23 (by decide) ?_
    refine lv_icmp_eq (tgt := 32) hx hb dX7_other_25 (by decide) (fun c_2 => ?_) (fun c_2 => ?_)
    · refine lv_iload_n hx hb dX7_other_32 rfl (lv_at hl 2 rfl) ?_
      refine lv_if_ne (tgt := 43) hx hb dX7_other_33 (by decide) (fun c_3 => ?_) (fun c_3 => ?_)
      · refine lv_aload_n hx hb dX7_other_43 rfl (lv_at hl 1 rfl) ?_
        refine va_get (D := g.1) (ci := 7) (v := .int (-6)) (C := RX7) (T := TX7) (N := 34) hx hb hts hi7 hown hK hP 0 rfl rfl 23 (by decide) (hts (.fieldLink RX7 166 "PanTalesModel" "otherHouse" "I") (by decide +kernel)) (fun _ h9 => h9) rfl dX7_other_44 ?_
        exact r_iret hx hb hr hlk hS () (by unfold otherF; rw [if_pos c_1]) (hP.sub [] rfl) (hD.sub [] (by decide) rfl) dX7_other_47
      · refine lv_aload_n hx hb dX7_other_36 rfl (lv_at hl 1 rfl) ?_
        refine va_get (D := g.1) (ci := 7) (v := .int (-6)) (C := RX7) (T := TX7) (N := 34) hx hb hts hi7 hown hK hP 0 rfl rfl 22 (by decide) (hts (.fieldLink RX7 163 "PanTalesModel" "otherAct" "I") (by decide +kernel)) (fun _ h9 => h9) rfl dX7_other_37 ?_
        refine lv_goto (tgt := 47) hx hb dX7_other_40 (by decide) ?_
        exact r_iret hx hb hr hlk hS () (by unfold otherF; rw [if_pos c_1]) (hP.sub [] rfl) (hD.sub [] (by decide) rfl) dX7_other_47
    · exact absurd (by decide) c_2
  · have c_1 : inB xζ 0 1 = false := bI_0 c_1
    refine lv_bipush (v := (-2)) hx hb dX7_other_10 (by decide) ?_
    exact r_iret hx hb hr hlk hS () (by unfold otherF; rw [if_neg (bF c_1)]) (hP.sub [] rfl) (hD.sub [] (by decide) rfl) dX7_other_12
set_option maxHeartbeats 4000000 in
set_option maxRecDepth 100000 in
theorem c_X7_done (l : Launch) (g : GT) (sz : Nat) (hζ : Nat) (Aζ : Nat → Nat)  : Ci l yX7_done wsX7_done { frames := 2, cells := 0, slots := 0, locals := 42 } g sz [.ref hζ] [(hζ, .inr (7, oM Aζ iM0)), aI g (Aζ 1) 10 (fun _ => 5), aI g (Aζ 2) 10 (fun _ => 0), aI g (Aζ 3) 10 (fun _ => (-6)), aI g (Aζ 18) 34 (fun _ => 0)] 0 [] := by
  refine gMet_i (cc := cX7_done) (maxL := 2) (ret := (some .int)) (by decide) rfl (Nat.le_of_ble_eq_true rfl) ?_
  intro p e s m args below meth c Z hx hb hr F hlk hnm hK hN hA H locs hP hD hS ls hl
  have hl : lv_has ls 2 [(0, .ref hζ)] := hl
  have F : CallFix p m c cX7_done 2 s args wsX7_done RX7 := F
  have hts := F.2.2.2.2
  have hown : s.vm.findClass RX7 = some m.cls := F.2.2.2.1
  have hi7 : ∀ w ∈ u_ws RX7 TX7 34, w ∈ wsX7_done := by decide +kernel
  refine lv_aload_n hx hb dX7_done_0 rfl (lv_at hl 0 rfl) ?_
  refine gcV_i (As := []) (rest := []) (ci := 7) (q := (RX7, TX7, 34)) F hK hN hP hD hS hA (c_X7_refusal l g H.size hζ Aζ) gX7_done_X7_refusal kX7_refusal rfl rfl rfl rfl ⟨(Nat.le_of_ble_eq_true rfl), (Nat.le_of_ble_eq_true rfl)⟩ [0, 1, 2, 3, 4] [] rfl rfl rfl (by decide) rfl rfl rfl rfl rfl hl.1 (Nat.le_of_ble_eq_true rfl) dX7_done_1 ⟨(Nat.le_of_ble_eq_true rfl), (Nat.le_of_ble_eq_true rfl)⟩ (fun r_w u_w H locs hw hP hD hS => ?_)
  have hP : va_P g.1 vwCl [(hζ, .inr (7, oM Aζ (upd (upd (upd (upd (upd (upd iM0 17 0) 19 (-6)) 20 (-6)) 21 0) 22 (-6)) 23 (-6)))), aI g (Aζ 1) 10 (fun _ => 5), aI g (Aζ 2) 10 (fun _ => 0), aI g (Aζ 3) 10 (fun _ => (-6)), aI g (Aζ 18) 34 hdF] H := hP
  have hD : va_D Z [(hζ, .inr (7, oM Aζ (upd (upd (upd (upd (upd (upd iM0 17 0) 19 (-6)) 20 (-6)) 21 0) 22 (-6)) 23 (-6)))), aI g (Aζ 1) 10 (fun _ => 5), aI g (Aζ 2) 10 (fun _ => 0), aI g (Aζ 3) 10 (fun _ => (-6)), aI g (Aζ 18) 34 hdF] := hD
  obtain rfl := hw
  refine lv_istore_n (lv' := [(1, .int (-6)), (0, .ref hζ)]) hx hb dX7_done_4 rfl hl (by decide) rfl (fun ls hl => ?_)
  refine lv_iload_n hx hb dX7_done_5 rfl (lv_at hl 0 rfl) ?_
  refine lv_bipush (v := (-6)) hx hb dX7_done_6 (by decide) ?_
  refine lv_icmp_eq (tgt := 17) hx hb dX7_done_8 (by decide) (fun c_1 => ?_) (fun c_1 => ?_)
  · refine lv_aload_n hx hb dX7_done_17 rfl (lv_at hl 1 rfl) ?_
    refine lv_iconst (v := 0) hx hb dX7_done_18 (by decide) ?_
    refine va_put (D := g.1) (ci := 7) (v := .int 0) (ty := .int) (C := RX7) (T := TX7) (N := 34) hx hb hts hi7 tyX7 tyX7_ok nmX7 hown hK hP hD hS 0 rfl rfl 13 (by decide) (hts (.fieldLink RX7 100 "PanTalesModel" "padMany" "I") (by decide +kernel)) (fun _ h9 => h9) rfl (by decide +kernel) rfl rfl (Nat.le_of_ble_eq_true rfl) dX7_done_19 (fun H locs hP hD hS => ?_)
    have hP : va_P g.1 vwCl [(hζ, .inr (7, oM Aζ (upd (upd (upd (upd (upd (upd (upd iM0 17 0) 19 (-6)) 20 (-6)) 21 0) 22 (-6)) 23 (-6)) 13 0))), aI g (Aζ 1) 10 (fun _ => 5), aI g (Aζ 2) 10 (fun _ => 0), aI g (Aζ 3) 10 (fun _ => (-6)), aI g (Aζ 18) 34 hdF] H := hP
    have hD : va_D Z [(hζ, .inr (7, oM Aζ (upd (upd (upd (upd (upd (upd (upd iM0 17 0) 19 (-6)) 20 (-6)) 21 0) 22 (-6)) 23 (-6)) 13 0))), aI g (Aζ 1) 10 (fun _ => 5), aI g (Aζ 2) 10 (fun _ => 0), aI g (Aζ 3) 10 (fun _ => (-6)), aI g (Aζ 18) 34 hdF] := hD
    refine lv_aload_n hx hb dX7_done_22 rfl (lv_at hl 1 rfl) ?_
    refine va_get (D := g.1) (ci := 7) (v := .int 0) (C := RX7) (T := TX7) (N := 34) hx hb hts hi7 hown hK hP 0 rfl rfl 17 (by decide) (hts (.fieldLink RX7 103 "PanTalesModel" "acts" "I") (by decide +kernel)) (fun _ h9 => h9) rfl dX7_done_23 ?_
    exact r_iret hx hb hr hlk hS () rfl (hP.sub [] rfl) (hD.sub [] (by decide) rfl) dX7_done_26
  · exact absurd (by decide) c_1

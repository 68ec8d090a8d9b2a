theorem kX0_init : YOk yX0_init 0 := by decide +kernel
theorem kX0_weigh : YOk yX0_weigh 3 := by decide +kernel
theorem kX0_rowUpper : YOk yX0_rowUpper 5 := by decide +kernel
theorem kX0_rowLower : YOk yX0_rowLower 1 := by decide +kernel
theorem kX6_commonPart : YOk yX6_commonPart 2 := by decide +kernel
theorem kX0_leastTake : YOk yX0_leastTake 1 := by decide +kernel
theorem kX0_firstTake : YOk yX0_firstTake 1 := by decide +kernel
set_option maxHeartbeats 4000000 in
set_option maxRecDepth 100000 in
theorem c_X0_init (l : Launch) (g : GT) (sz : Nat) (hζ : Nat) : Mv (S := Nat → Nat) l yX0_init wsX0_init { frames := 1, cells := 3, slots := 83, locals := 40 } g sz [.ref hζ] [(hζ, .inr (0, [.null, .null, .null]))] 3 83 (fun _ => True) (fun Gζ => [(hζ, .inr (0, [.ref (Gζ 0), .ref (Gζ 1), .ref (Gζ 2)])), aJ g (Gζ 0) 11 (fun _ => 0), aJ g (Gζ 1) 11 (fun _ => 0), aI g (Gζ 2) 61 (fun _ => 0)]) := by
  refine gMet_v (cc := cX0_init) (maxL := 1) (ret := none) (by decide) rfl (Nat.le_of_ble_eq_true rfl) ?_
  intro p e s m args below meth c Z hx hb hr F hlk hnm hK hN hA H locs hP hD hS ls hl
  have hl : lv_has ls 1 [(0, .ref hζ)] := hl
  have F : CallFix p m c cX0_init 1 s args wsX0_init RX0 := F
  have hts := F.2.2.2.2
  have hown : s.vm.findClass RX0 = some m.cls := F.2.2.2.1
  have hi0 : ∀ w ∈ u_ws RX0 TX0 3, w ∈ wsX0_init := by decide +kernel
  refine lv_aload_n hx hb dX0_init_0 rfl (lv_at hl 0 rfl) ?_
  refine W.objInit hx hb hown (hts (.methodLink RX0 3 objectInit) (by decide +kernel)) (hts (.instanceMethod objectInit) (by decide +kernel)) (hts (.code objectInit ⟨#[0xb1]⟩ 1 none) (by decide +kernel)) rfl (by rw [F.2.2.1]; exact hl.1) rfl dX0_init_1 (Nat.le_of_ble_eq_true rfl) (Nat.le_of_ble_eq_true rfl) ?_
  refine W.eq (g2 := F0 m 4 ls []) rfl ?_
  refine lv_aload_n hx hb dX0_init_4 rfl (lv_at hl 0 rfl) ?_
  refine lv_bipush (v := 11) hx hb dX0_init_5 (by decide) ?_
  refine r_newJ (N' := 11) hx hb (hts (.arrayClass .long) (by decide +kernel)) hK hP hD hS hA (by decide) (nI_clamp (n := 11) (by decide)) (Nat.le_of_ble_eq_true rfl) (Nat.le_of_ble_eq_true rfl) (Nat.le_of_ble_eq_true rfl) dX0_init_7 (fun q_1 H hP hD hS => ?_)
  have hP : va_P g.1 vwCl [(hζ, .inr (0, [.null, .null, .null])), aJ g q_1 11 (fun _ => 0)] H := hP
  have hD : va_D Z [(hζ, .inr (0, [.null, .null, .null])), aJ g q_1 11 (fun _ => 0)] := hD
  refine W.widen (k := 1) (n := 11) (by decide) (by decide) ?_
  refine va_putF (D := g.1) (ci := 0) (v := .ref q_1) (ty := (.array .long)) (C := RX0) (T := TX0) (N := 3) hx hb hts hi0 tyX0 tyX0_ok nmX0 hown hK hP hD hS 0 rfl rfl 0 (by decide) (hts (.fieldLink RX0 9 "PanTales$Chances" "lastDoes" "[J") (by decide +kernel)) (fun _ h9 => h9) rfl hnm rfl (by decide +kernel) rfl rfl (Nat.le_of_ble_eq_true rfl) dX0_init_9 (fun H locs hP hD hS => ?_)
  have hP : va_P g.1 vwCl [(hζ, .inr (0, [.ref q_1, .null, .null])), aJ g q_1 11 (fun _ => 0)] H := hP
  have hD : va_D Z [(hζ, .inr (0, [.ref q_1, .null, .null])), aJ g q_1 11 (fun _ => 0)] := hD
  refine lv_aload_n hx hb dX0_init_12 rfl (lv_at hl 0 rfl) ?_
  refine lv_bipush (v := 11) hx hb dX0_init_13 (by decide) ?_
  refine r_newJ (N' := 11) hx hb (hts (.arrayClass .long) (by decide +kernel)) hK hP hD hS hA (by decide) (nI_clamp (n := 11) (by decide)) (Nat.le_of_ble_eq_true rfl) (Nat.le_of_ble_eq_true rfl) (Nat.le_of_ble_eq_true rfl) dX0_init_15 (fun q_2 H hP hD hS => ?_)
  have hP : va_P g.1 vwCl [(hζ, .inr (0, [.ref q_1, .null, .null])), aJ g q_1 11 (fun _ => 0), aJ g q_2 11 (fun _ => 0)] H := hP
  have hD : va_D Z [(hζ, .inr (0, [.ref q_1, .null, .null])), aJ g q_1 11 (fun _ => 0), aJ g q_2 11 (fun _ => 0)] := hD
  refine W.widen (k := 2) (n := 22) (by decide) (by decide) ?_
  refine va_putF (D := g.1) (ci := 0) (v := .ref q_2) (ty := (.array .long)) (C := RX0) (T := TX0) (N := 3) hx hb hts hi0 tyX0 tyX0_ok nmX0 hown hK hP hD hS 0 rfl rfl 1 (by decide) (hts (.fieldLink RX0 15 "PanTales$Chances" "lastNot" "[J") (by decide +kernel)) (fun _ h9 => h9) rfl hnm rfl (by decide +kernel) rfl rfl (Nat.le_of_ble_eq_true rfl) dX0_init_17 (fun H locs hP hD hS => ?_)
  have hP : va_P g.1 vwCl [(hζ, .inr (0, [.ref q_1, .ref q_2, .null])), aJ g q_1 11 (fun _ => 0), aJ g q_2 11 (fun _ => 0)] H := hP
  have hD : va_D Z [(hζ, .inr (0, [.ref q_1, .ref q_2, .null])), aJ g q_1 11 (fun _ => 0), aJ g q_2 11 (fun _ => 0)] := hD
  refine lv_aload_n hx hb dX0_init_20 rfl (lv_at hl 0 rfl) ?_
  refine lv_bipush (v := 61) hx hb dX0_init_21 (by decide) ?_
  refine r_newI (N' := 61) hx hb (hts (.arrayClass .int) (by decide +kernel)) hK hP hD hS hA (by decide) (nI_clamp (n := 61) (by decide)) (Nat.le_of_ble_eq_true rfl) (Nat.le_of_ble_eq_true rfl) (Nat.le_of_ble_eq_true rfl) dX0_init_23 (fun q_3 H hP hD hS => ?_)
  have hP : va_P g.1 vwCl [(hζ, .inr (0, [.ref q_1, .ref q_2, .null])), aJ g q_1 11 (fun _ => 0), aJ g q_2 11 (fun _ => 0), aI g q_3 61 (fun _ => 0)] H := hP
  have hD : va_D Z [(hζ, .inr (0, [.ref q_1, .ref q_2, .null])), aJ g q_1 11 (fun _ => 0), aJ g q_2 11 (fun _ => 0), aI g q_3 61 (fun _ => 0)] := hD
  refine W.widen (k := 3) (n := 83) (by decide) (by decide) ?_
  refine va_putF (D := g.1) (ci := 0) (v := .ref q_3) (ty := (.array .int)) (C := RX0) (T := TX0) (N := 3) hx hb hts hi0 tyX0 tyX0_ok nmX0 hown hK hP hD hS 0 rfl rfl 2 (by decide) (hts (.fieldLink RX0 18 "PanTales$Chances" "takes" "[I") (by decide +kernel)) (fun _ h9 => h9) rfl hnm rfl (by decide +kernel) rfl rfl (Nat.le_of_ble_eq_true rfl) dX0_init_25 (fun H locs hP hD hS => ?_)
  have hP : va_P g.1 vwCl [(hζ, .inr (0, [.ref q_1, .ref q_2, .ref q_3])), aJ g q_1 11 (fun _ => 0), aJ g q_2 11 (fun _ => 0), aI g q_3 61 (fun _ => 0)] H := hP
  have hD : va_D Z [(hζ, .inr (0, [.ref q_1, .ref q_2, .ref q_3])), aJ g q_1 11 (fun _ => 0), aJ g q_2 11 (fun _ => 0), aI g q_3 61 (fun _ => 0)] := hD
  exact r_vret hx hb hr hlk hS (mkA [q_1, q_2, q_3]) trivial (hP.sub [0, 1, 2, 3] rfl) (hD.sub [0, 1, 2, 3] (by decide) rfl) dX0_init_28
set_option maxHeartbeats 4000000 in
set_option maxRecDepth 100000 in
theorem c_X0_weigh (l : Launch) (g : GT) (sz : Nat) (hζ : Nat) (Gζ : Nat → Nat) (fζ f0ζ : Nat → Int64) (nζ tζ uζ : Nat) (hnζ : nζ ≤ 10) (htζ : tζ ≤ 10) (huζ : uζ ≤ 10) : Cv l yX0_weigh wsX0_weigh { frames := 1, cells := 0, slots := 0, locals := 24 } g sz [.ref hζ, .int (nI nζ), .int (nI tζ), .int (nI uζ)] [(hζ, .inr (0, [.ref (Gζ 0), .ref (Gζ 1), .ref (Gζ 2)])), aJ g (Gζ 0) 11 fζ, aJ g (Gζ 1) 11 f0ζ] [(hζ, .inr (0, [.ref (Gζ 0), .ref (Gζ 1), .ref (Gζ 2)])), aJ g (Gζ 0) 11 (cD tζ uζ nζ), aJ g (Gζ 1) 11 (cN tζ uζ nζ)] := by
  refine gMet_v (cc := cX0_weigh) (maxL := 6) (ret := none) (by decide) rfl (Nat.le_of_ble_eq_true rfl) ?_
  intro p e s m args below meth c Z hx hb hr F hlk hnm hK hN hA H locs hP hD hS ls hl
  have hl : lv_has ls 6 [(0, .ref hζ), (1, .int (nI nζ)), (2, .int (nI tζ)), (3, .int (nI uζ))] := hl
  have F : CallFix p m c cX0_weigh 6 s args wsX0_weigh RX0 := F
  have hts := F.2.2.2.2
  have hown : s.vm.findClass RX0 = some m.cls := F.2.2.2.1
  have hi0 : ∀ w ∈ u_ws RX0 TX0 3, w ∈ wsX0_weigh := by decide +kernel
  refine lv_aload_n hx hb dX0_weigh_0 rfl (lv_at hl 0 rfl) ?_
  refine va_get (D := g.1) (ci := 0) (v := .ref (Gζ 0)) (C := RX0) (T := TX0) (N := 3) hx hb hts hi0 hown hK hP 0 rfl rfl 0 (by decide) (hts (.fieldLink RX0 9 "PanTales$Chances" "lastDoes" "[J") (by decide +kernel)) (fun _ h9 => h9) rfl dX0_weigh_1 ?_
  refine lv_lconst (v := 0) hx hb dX0_weigh_4 (by decide) ?_
  refine gcS_v (As := [.ref (Gζ 0), .long 0]) (rest := []) F hK hN hP hD hS hA (c_J7_fill_d0a16 l g H.size (Gζ 0) 11 fζ 0 (by decide)) gX0_weigh_J7_fill_d0a16 kJ7_fill_d0a16 rfl rfl rfl ⟨(Nat.le_of_ble_eq_true rfl), (Nat.le_of_ble_eq_true rfl)⟩ [1] [0, 2] rfl rfl rfl (by decide) rfl rfl rfl hl.1 (Nat.le_of_ble_eq_true rfl) dX0_weigh_5 ⟨(Nat.le_of_ble_eq_true rfl), (Nat.le_of_ble_eq_true rfl)⟩ (fun u_w H locs hw hP hD hS => ?_)
  have hP : va_P g.1 vwCl [(hζ, .inr (0, [.ref (Gζ 0), .ref (Gζ 1), .ref (Gζ 2)])), aJ g (Gζ 1) 11 f0ζ, aJ g (Gζ 0) 11 (fun _ => 0)] H := hP
  have hD : va_D Z [(hζ, .inr (0, [.ref (Gζ 0), .ref (Gζ 1), .ref (Gζ 2)])), aJ g (Gζ 1) 11 f0ζ, aJ g (Gζ 0) 11 (fun _ => 0)] := hD
  refine lv_aload_n hx hb dX0_weigh_8 rfl (lv_at hl 0 rfl) ?_
  refine va_get (D := g.1) (ci := 0) (v := .ref (Gζ 1)) (C := RX0) (T := TX0) (N := 3) hx hb hts hi0 hown hK hP 0 rfl rfl 1 (by decide) (hts (.fieldLink RX0 15 "PanTales$Chances" "lastNot" "[J") (by decide +kernel)) (fun _ h9 => h9) rfl dX0_weigh_9 ?_
  refine lv_lconst (v := 0) hx hb dX0_weigh_12 (by decide) ?_
  refine gcS_v (As := [.ref (Gζ 1), .long 0]) (rest := []) F hK hN hP hD hS hA (c_J7_fill_d0a16 l g H.size (Gζ 1) 11 f0ζ 0 (by decide)) gX0_weigh_J7_fill_d0a16 kJ7_fill_d0a16 rfl rfl rfl ⟨(Nat.le_of_ble_eq_true rfl), (Nat.le_of_ble_eq_true rfl)⟩ [1] [0, 2] rfl rfl rfl (by decide) rfl rfl rfl hl.1 (Nat.le_of_ble_eq_true rfl) dX0_weigh_13 ⟨(Nat.le_of_ble_eq_true rfl), (Nat.le_of_ble_eq_true rfl)⟩ (fun u_w H locs hw hP hD hS => ?_)
  have hP : va_P g.1 vwCl [(hζ, .inr (0, [.ref (Gζ 0), .ref (Gζ 1), .ref (Gζ 2)])), aJ g (Gζ 0) 11 (fun _ => 0), aJ g (Gζ 1) 11 (fun _ => 0)] H := hP
  have hD : va_D Z [(hζ, .inr (0, [.ref (Gζ 0), .ref (Gζ 1), .ref (Gζ 2)])), aJ g (Gζ 0) 11 (fun _ => 0), aJ g (Gζ 1) 11 (fun _ => 0)] := hD
  refine lv_aload_n hx hb dX0_weigh_16 rfl (lv_at hl 0 rfl) ?_
  refine va_get (D := g.1) (ci := 0) (v := .ref (Gζ 0)) (C := RX0) (T := TX0) (N := 3) hx hb hts hi0 hown hK hP 0 rfl rfl 0 (by decide) (hts (.fieldLink RX0 9 "PanTales$Chances" "lastDoes" "[J") (by decide +kernel)) (fun _ h9 => h9) rfl dX0_weigh_17 ?_
  refine lv_iconst (v := 0) hx hb dX0_weigh_20 (by decide) ?_
  refine lv_lconst (v := 1) hx hb dX0_weigh_21 (by decide) ?_
  refine r_last (f' := cD tζ uζ 0) hx hb hK hP hD hS 1 rfl (vp_in_nI (n := 0) (by decide) (by decide)) cD_0 dX0_weigh_22 (fun H locs hP hD hS => ?_)
  have hP : va_P g.1 vwCl [(hζ, .inr (0, [.ref (Gζ 0), .ref (Gζ 1), .ref (Gζ 2)])), aJ g (Gζ 0) 11 (cD tζ uζ 0), aJ g (Gζ 1) 11 (fun _ => 0)] H := hP
  have hD : va_D Z [(hζ, .inr (0, [.ref (Gζ 0), .ref (Gζ 1), .ref (Gζ 2)])), aJ g (Gζ 0) 11 (cD tζ uζ 0), aJ g (Gζ 1) 11 (fun _ => 0)] := hD
  refine lv_iconst (v := 0) hx hb dX0_weigh_23 (by decide) ?_
  refine lv_istore (lv' := [(4, .int 0), (0, .ref hζ), (1, .int (nI nζ)), (2, .int (nI tζ)), (3, .int (nI uζ))]) hx hb dX0_weigh_24 hl (by decide) rfl (fun ls hl => ?_)
  obtain ⟨hP, hD⟩ := r_extJ hP hD 2 rfl (f' := cN tζ uζ 0) cN_0
  have hP : va_P g.1 vwCl [(hζ, .inr (0, [.ref (Gζ 0), .ref (Gζ 1), .ref (Gζ 2)])), aJ g (Gζ 0) 11 (cD tζ uζ 0), aJ g (Gζ 1) 11 (cN tζ uζ 0)] H := hP
  have hD : va_D Z [(hζ, .inr (0, [.ref (Gζ 0), .ref (Gζ 1), .ref (Gζ 2)])), aJ g (Gζ 0) 11 (cD tζ uζ 0), aJ g (Gζ 1) 11 (cN tζ uζ 0)] := hD
  refine gloop (σ := Nat) (fun u0 => nζ - u0) (fun u0 => u0 ≤ nζ) (fun u0 => [(hζ, .inr (0, [.ref (Gζ 0), .ref (Gζ 1), .ref (Gζ 2)])), aJ g (Gζ 0) 11 (cD tζ uζ u0), aJ g (Gζ 1) 11 (cN tζ uζ u0)]) (fun u0 => [(4, .int (nI u0)), (0, .ref hζ), (1, .int (nI nζ)), (2, .int (nI tζ)), (3, .int (nI uζ))]) ?_ 0 (by first | omega | decide | rfl) (hP.sub [0, 1, 2] rfl) (hD.sub [0, 1, 2] (by decide) rfl) hS (lv_sub hl [0, 1, 2, 3, 4] rfl)
  rintro aζ haζ ih26 H locs ls hP hD hS hl
  have haζ : aζ ≤ nζ := haζ
  have hP : va_P g.1 vwCl [(hζ, .inr (0, [.ref (Gζ 0), .ref (Gζ 1), .ref (Gζ 2)])), aJ g (Gζ 0) 11 (cD tζ uζ aζ), aJ g (Gζ 1) 11 (cN tζ uζ aζ)] H := hP
  have hD : va_D Z [(hζ, .inr (0, [.ref (Gζ 0), .ref (Gζ 1), .ref (Gζ 2)])), aJ g (Gζ 0) 11 (cD tζ uζ aζ), aJ g (Gζ 1) 11 (cN tζ uζ aζ)] := hD
  have hl : lv_has ls 6 [(4, .int (nI aζ)), (0, .ref hζ), (1, .int (nI nζ)), (2, .int (nI tζ)), (3, .int (nI uζ))] := hl
  refine lv_iload hx hb dX0_weigh_26 (lv_at hl 0 rfl) ?_
  refine lv_iload_n hx hb dX0_weigh_28 rfl (lv_at hl 2 rfl) ?_
  refine lv_icmp_ge (tgt := 128) hx hb dX0_weigh_29 (by decide) (fun c_1 => ?_) (fun c_1 => ?_)
  · have c_1 : nζ ≤ aζ := (nI_leI (a := nζ) (b := aζ) (by omega) (by omega)).mp c_1
    have ea : aζ = nζ := by omega
    subst ea
    skip
    exact r_vret hx hb hr hlk hS () trivial (hP.sub [0, 1, 2] rfl) (hD.sub [0, 1, 2] (by decide) rfl) dX0_weigh_128
  · have c_1 : ¬ nζ ≤ aζ := fun z => c_1 ((nI_leI (a := nζ) (b := aζ) (by omega) (by omega)).mpr z)
    refine lv_bipush (v := 10) hx hb dX0_weigh_32 (by decide) ?_
    refine lv_istore (lv' := [(5, .int 10), (4, .int (nI aζ)), (0, .ref hζ), (1, .int (nI nζ)), (2, .int (nI tζ)), (3, .int (nI uζ))]) hx hb dX0_weigh_34 hl (by decide) rfl (fun ls hl => ?_)
    obtain ⟨hP, hD⟩ := r_extJ hP hD 1 rfl (f' := mxG (cD tζ uζ (aζ + 1)) (cD tζ uζ aζ) 11) mx_11
    have hP : va_P g.1 vwCl [(hζ, .inr (0, [.ref (Gζ 0), .ref (Gζ 1), .ref (Gζ 2)])), aJ g (Gζ 0) 11 (mxG (cD tζ uζ (aζ + 1)) (cD tζ uζ aζ) 11), aJ g (Gζ 1) 11 (cN tζ uζ aζ)] H := hP
    have hD : va_D Z [(hζ, .inr (0, [.ref (Gζ 0), .ref (Gζ 1), .ref (Gζ 2)])), aJ g (Gζ 0) 11 (mxG (cD tζ uζ (aζ + 1)) (cD tζ uζ aζ) 11), aJ g (Gζ 1) 11 (cN tζ uζ aζ)] := hD
    obtain ⟨hP, hD⟩ := r_extJ hP hD 2 rfl (f' := mxG (cN tζ uζ (aζ + 1)) (cN tζ uζ aζ) 11) mx_11
    have hP : va_P g.1 vwCl [(hζ, .inr (0, [.ref (Gζ 0), .ref (Gζ 1), .ref (Gζ 2)])), aJ g (Gζ 0) 11 (mxG (cD tζ uζ (aζ + 1)) (cD tζ uζ aζ) 11), aJ g (Gζ 1) 11 (mxG (cN tζ uζ (aζ + 1)) (cN tζ uζ aζ) 11)] H := hP
    have hD : va_D Z [(hζ, .inr (0, [.ref (Gζ 0), .ref (Gζ 1), .ref (Gζ 2)])), aJ g (Gζ 0) 11 (mxG (cD tζ uζ (aζ + 1)) (cD tζ uζ aζ) 11), aJ g (Gζ 1) 11 (mxG (cN tζ uζ (aζ + 1)) (cN tζ uζ aζ) 11)] := hD
    refine gloop (σ := Nat) (fun u0 => u0) (fun u0 => u0 ≤ 10) (fun u0 => [(hζ, .inr (0, [.ref (Gζ 0), .ref (Gζ 1), .ref (Gζ 2)])), aJ g (Gζ 0) 11 (mxG (cD tζ uζ (aζ + 1)) (cD tζ uζ aζ) (u0 + 1)), aJ g (Gζ 1) 11 (mxG (cN tζ uζ (aζ + 1)) (cN tζ uζ aζ) (u0 + 1))]) (fun u0 => [(5, .int (nI u0)), (4, .int (nI aζ)), (0, .ref hζ), (1, .int (nI nζ)), (2, .int (nI tζ)), (3, .int (nI uζ))]) ?_ 10 (by first | omega | decide | rfl) (hP.sub [0, 1, 2] rfl) (hD.sub [0, 1, 2] (by decide) rfl) hS (lv_sub hl [0, 1, 2, 3, 4, 5] rfl)
    rintro bζ hbdζ ih36 H locs ls hP hD hS hl
    have hbdζ : bζ ≤ 10 := hbdζ
    have hP : va_P g.1 vwCl [(hζ, .inr (0, [.ref (Gζ 0), .ref (Gζ 1), .ref (Gζ 2)])), aJ g (Gζ 0) 11 (mxG (cD tζ uζ (aζ + 1)) (cD tζ uζ aζ) (bζ + 1)), aJ g (Gζ 1) 11 (mxG (cN tζ uζ (aζ + 1)) (cN tζ uζ aζ) (bζ + 1))] H := hP
    have hD : va_D Z [(hζ, .inr (0, [.ref (Gζ 0), .ref (Gζ 1), .ref (Gζ 2)])), aJ g (Gζ 0) 11 (mxG (cD tζ uζ (aζ + 1)) (cD tζ uζ aζ) (bζ + 1)), aJ g (Gζ 1) 11 (mxG (cN tζ uζ (aζ + 1)) (cN tζ uζ aζ) (bζ + 1))] := hD
    have hl : lv_has ls 6 [(5, .int (nI bζ)), (4, .int (nI aζ)), (0, .ref hζ), (1, .int (nI nζ)), (2, .int (nI tζ)), (3, .int (nI uζ))] := hl
    refine lv_iload hx hb dX0_weigh_36 (lv_at hl 0 rfl) ?_
    refine lv_if_lt (tgt := 122) hx hb dX0_weigh_38 (by decide) (fun c_2 => ?_) (fun c_2 => ?_)
    · exact absurd c_2 (nI_pos (by omega))
    · have c_2 : ¬ bζ < 0 := fun z => c_2 ((nI_ltI (a := bζ) (b := 0) (by omega) (by omega)).mpr z)
      refine lv_aload_n hx hb dX0_weigh_41 rfl (lv_at hl 2 rfl) ?_
      refine va_get (D := g.1) (ci := 0) (v := .ref (Gζ 1)) (C := RX0) (T := TX0) (N := 3) hx hb hts hi0 hown hK hP 0 rfl rfl 1 (by decide) (hts (.fieldLink RX0 15 "PanTales$Chances" "lastNot" "[J") (by decide +kernel)) (fun _ h9 => h9) rfl dX0_weigh_42 ?_
      refine lv_iload hx hb dX0_weigh_45 (lv_at hl 0 rfl) ?_
      refine lv_aload_n hx hb dX0_weigh_47 rfl (lv_at hl 2 rfl) ?_
      refine va_get (D := g.1) (ci := 0) (v := .ref (Gζ 0)) (C := RX0) (T := TX0) (N := 3) hx hb hts hi0 hown hK hP 0 rfl rfl 0 (by decide) (hts (.fieldLink RX0 9 "PanTales$Chances" "lastDoes" "[J") (by decide +kernel)) (fun _ h9 => h9) rfl dX0_weigh_48 ?_
      refine lv_iload hx hb dX0_weigh_51 (lv_at hl 0 rfl) ?_
      refine r_lald (v := lN ((wDN tζ uζ aζ).1 bζ)) hx hb hK hP 1 rfl (vp_in_nI (n := bζ) (by omega) (by omega)) (mx_old (nI_clamp (n := bζ) (by omega)) (by omega) rfl) dX0_weigh_53 ?_
      refine lv_bipush (v := 10) hx hb dX0_weigh_54 (by decide) ?_
      refine lv_iload_n hx hb dX0_weigh_56 rfl (lv_at hl 4 rfl) ?_
      refine lv_isub hx hb dX0_weigh_57 ?_
      refine gtop (y := nI (10 - tζ)) (pk_sub (a := 10) (b := tζ) (by omega)) ?_
      refine lv_i2l (v := lN (10 - tζ)) hx hb dX0_weigh_58 (nI_l (by omega)) ?_
      refine lv_lmul hx hb dX0_weigh_59 ?_
      refine gtopl (y := lN (((wDN tζ uζ aζ).1 bζ) * (10 - tζ))) (lN_mul ((wDN tζ uζ aζ).1 bζ) (10 - tζ)) ?_
      refine lv_aload_n hx hb dX0_weigh_60 rfl (lv_at hl 2 rfl) ?_
      refine va_get (D := g.1) (ci := 0) (v := .ref (Gζ 1)) (C := RX0) (T := TX0) (N := 3) hx hb hts hi0 hown hK hP 0 rfl rfl 1 (by decide) (hts (.fieldLink RX0 15 "PanTales$Chances" "lastNot" "[J") (by decide +kernel)) (fun _ h9 => h9) rfl dX0_weigh_61 ?_
      refine lv_iload hx hb dX0_weigh_64 (lv_at hl 0 rfl) ?_
      refine r_lald (v := lN ((wDN tζ uζ aζ).2 bζ)) hx hb hK hP 2 rfl (vp_in_nI (n := bζ) (by omega) (by omega)) (mx_old (nI_clamp (n := bζ) (by omega)) (by omega) rfl) dX0_weigh_66 ?_
      refine lv_bipush (v := 10) hx hb dX0_weigh_67 (by decide) ?_
      refine lv_iload_n hx hb dX0_weigh_69 rfl (lv_at hl 5 rfl) ?_
      refine lv_isub hx hb dX0_weigh_70 ?_
      refine gtop (y := nI (10 - uζ)) (pk_sub (a := 10) (b := uζ) (by omega)) ?_
      refine lv_i2l (v := lN (10 - uζ)) hx hb dX0_weigh_71 (nI_l (by omega)) ?_
      refine lv_lmul hx hb dX0_weigh_72 ?_
      refine gtopl (y := lN (((wDN tζ uζ aζ).2 bζ) * (10 - uζ))) (lN_mul ((wDN tζ uζ aζ).2 bζ) (10 - uζ)) ?_
      refine lv_ladd hx hb dX0_weigh_73 ?_
      refine gtopl (y := lN ((((wDN tζ uζ aζ).1 bζ) * (10 - tζ)) + (((wDN tζ uζ aζ).2 bζ) * (10 - uζ)))) (lN_add (((wDN tζ uζ aζ).1 bζ) * (10 - tζ)) (((wDN tζ uζ aζ).2 bζ) * (10 - uζ))) ?_
      refine r_last (f' := mxG (cN tζ uζ (aζ + 1)) (cN tζ uζ aζ) bζ) hx hb hK hP hD hS 2 rfl (vp_in_nI (n := bζ) (by omega) (by omega)) (mx_s (nI_clamp (n := bζ) (by omega)) rfl) dX0_weigh_74 (fun H locs hP hD hS => ?_)
      have hP : va_P g.1 vwCl [(hζ, .inr (0, [.ref (Gζ 0), .ref (Gζ 1), .ref (Gζ 2)])), aJ g (Gζ 0) 11 (mxG (cD tζ uζ (aζ + 1)) (cD tζ uζ aζ) (bζ + 1)), aJ g (Gζ 1) 11 (mxG (cN tζ uζ (aζ + 1)) (cN tζ uζ aζ) bζ)] H := hP
      have hD : va_D Z [(hζ, .inr (0, [.ref (Gζ 0), .ref (Gζ 1), .ref (Gζ 2)])), aJ g (Gζ 0) 11 (mxG (cD tζ uζ (aζ + 1)) (cD tζ uζ aζ) (bζ + 1)), aJ g (Gζ 1) 11 (mxG (cN tζ uζ (aζ + 1)) (cN tζ uζ aζ) bζ)] := hD
      refine lv_aload_n hx hb dX0_weigh_75 rfl (lv_at hl 2 rfl) ?_
      refine va_get (D := g.1) (ci := 0) (v := .ref (Gζ 0)) (C := RX0) (T := TX0) (N := 3) hx hb hts hi0 hown hK hP 0 rfl rfl 0 (by decide) (hts (.fieldLink RX0 9 "PanTales$Chances" "lastDoes" "[J") (by decide +kernel)) (fun _ h9 => h9) rfl dX0_weigh_76 ?_
      refine lv_iload hx hb dX0_weigh_79 (lv_at hl 0 rfl) ?_
      refine lv_iload hx hb dX0_weigh_81 (lv_at hl 0 rfl) ?_
      refine lv_if_le (tgt := 114) hx hb dX0_weigh_83 (by decide) (fun c_3 => ?_) (fun c_3 => ?_)
      · have c_3 : bζ ≤ 0 := (nI_leI (a := bζ) (b := 0) (by omega) (by omega)).mp c_3
        obtain rfl : bζ = 0 := by omega
        skip
        refine lv_lconst (v := 0) hx hb dX0_weigh_114 (by decide) ?_
        refine r_last (f' := mxG (cD tζ uζ (aζ + 1)) (cD tζ uζ aζ) 0) hx hb hK hP hD hS 1 rfl (vp_in_nI (n := 0) (by omega) (by omega)) (mx_s (b := 0) (nI_clamp (n := 0) (by decide)) rfl) dX0_weigh_115 (fun H locs hP hD hS => ?_)
        have hP : va_P g.1 vwCl [(hζ, .inr (0, [.ref (Gζ 0), .ref (Gζ 1), .ref (Gζ 2)])), aJ g (Gζ 0) 11 (mxG (cD tζ uζ (aζ + 1)) (cD tζ uζ aζ) 0), aJ g (Gζ 1) 11 (mxG (cN tζ uζ (aζ + 1)) (cN tζ uζ aζ) 0)] H := hP
        have hD : va_D Z [(hζ, .inr (0, [.ref (Gζ 0), .ref (Gζ 1), .ref (Gζ 2)])), aJ g (Gζ 0) 11 (mxG (cD tζ uζ (aζ + 1)) (cD tζ uζ aζ) 0), aJ g (Gζ 1) 11 (mxG (cN tζ uζ (aζ + 1)) (cN tζ uζ aζ) 0)] := hD
        refine lv_iinc (v := (-1)) (lv' := [(5, .int (-1)), (4, .int (nI aζ)), (0, .ref hζ), (1, .int (nI nζ)), (2, .int (nI tζ)), (3, .int (nI uζ))]) hx hb dX0_weigh_116 hl (k := 0) rfl (by decide) (by decide) rfl (fun ls hl => ?_)
        refine lv_goto (tgt := 36) hx hb dX0_weigh_119 (by decide) ?_
        refine lv_iload hx hb dX0_weigh_36 (lv_at hl 0 rfl) ?_
        refine lv_if_lt (tgt := 122) hx hb dX0_weigh_38 (by decide) (fun c_4 => ?_) (fun c_4 => ?_)
        · obtain ⟨hP, hD⟩ := r_extJ hP hD 1 rfl (f' := cD tζ uζ (aζ + 1)) mx_0
          have hP : va_P g.1 vwCl [(hζ, .inr (0, [.ref (Gζ 0), .ref (Gζ 1), .ref (Gζ 2)])), aJ g (Gζ 0) 11 (cD tζ uζ (aζ + 1)), aJ g (Gζ 1) 11 (mxG (cN tζ uζ (aζ + 1)) (cN tζ uζ aζ) 0)] H := hP
          have hD : va_D Z [(hζ, .inr (0, [.ref (Gζ 0), .ref (Gζ 1), .ref (Gζ 2)])), aJ g (Gζ 0) 11 (cD tζ uζ (aζ + 1)), aJ g (Gζ 1) 11 (mxG (cN tζ uζ (aζ + 1)) (cN tζ uζ aζ) 0)] := hD
          obtain ⟨hP, hD⟩ := r_extJ hP hD 2 rfl (f' := cN tζ uζ (aζ + 1)) mx_0
          have hP : va_P g.1 vwCl [(hζ, .inr (0, [.ref (Gζ 0), .ref (Gζ 1), .ref (Gζ 2)])), aJ g (Gζ 0) 11 (cD tζ uζ (aζ + 1)), aJ g (Gζ 1) 11 (cN tζ uζ (aζ + 1))] H := hP
          have hD : va_D Z [(hζ, .inr (0, [.ref (Gζ 0), .ref (Gζ 1), .ref (Gζ 2)])), aJ g (Gζ 0) 11 (cD tζ uζ (aζ + 1)), aJ g (Gζ 1) 11 (cN tζ uζ (aζ + 1))] := hD
          refine lv_iinc (v := nI (aζ + 1)) (lv' := [(4, .int (nI (aζ + 1))), (5, .int (-1)), (0, .ref hζ), (1, .int (nI nζ)), (2, .int (nI tζ)), (3, .int (nI uζ))]) hx hb dX0_weigh_122 hl (k := 1) rfl (nI_1 aζ) (by decide) rfl (fun ls hl => ?_)
          refine lv_goto (tgt := 26) hx hb dX0_weigh_125 (by decide) ?_
          exact ih26 (aζ + 1) (by first | omega | (dsimp only; omega)) (by first | omega | (dsimp only; omega)) _ _ _ (hP.sub [0, 1, 2] rfl) (hD.sub [0, 1, 2] (by decide) rfl) hS (lv_sub hl [0, 2, 3, 4, 5] rfl)
        · exact absurd (by decide) c_4
      · have c_3 : ¬ bζ ≤ 0 := fun z => c_3 ((nI_leI (a := bζ) (b := 0) (by omega) (by omega)).mpr z)
        obtain ⟨b2ζ, rfl⟩ : ∃ q, bζ = q + 1 := ⟨bζ - 1, by omega⟩
        skip
        refine lv_aload_n hx hb dX0_weigh_86 rfl (lv_at hl 2 rfl) ?_
        refine va_get (D := g.1) (ci := 0) (v := .ref (Gζ 0)) (C := RX0) (T := TX0) (N := 3) hx hb hts hi0 hown hK hP 0 rfl rfl 0 (by decide) (hts (.fieldLink RX0 9 "PanTales$Chances" "lastDoes" "[J") (by decide +kernel)) (fun _ h9 => h9) rfl dX0_weigh_87 ?_
        refine lv_iload hx hb dX0_weigh_90 (lv_at hl 0 rfl) ?_
        refine lv_iconst (v := 1) hx hb dX0_weigh_92 (by decide) ?_
        refine lv_isub hx hb dX0_weigh_93 ?_
        refine gtop (y := nI b2ζ) (nI_pred b2ζ) ?_
        refine r_lald (v := lN ((wDN tζ uζ aζ).1 b2ζ)) hx hb hK hP 1 rfl (vp_in_nI (n := b2ζ) (by omega) (by omega)) (mx_old (nI_clamp (n := b2ζ) (by omega)) (by omega) rfl) dX0_weigh_94 ?_
        refine lv_iload_n hx hb dX0_weigh_95 rfl (lv_at hl 4 rfl) ?_
        refine lv_i2l (v := lN tζ) hx hb dX0_weigh_96 (nI_l (by omega)) ?_
        refine lv_lmul hx hb dX0_weigh_97 ?_
        refine gtopl (y := lN (((wDN tζ uζ aζ).1 b2ζ) * tζ)) (lN_mul ((wDN tζ uζ aζ).1 b2ζ) tζ) ?_
        refine lv_aload_n hx hb dX0_weigh_98 rfl (lv_at hl 2 rfl) ?_
        refine va_get (D := g.1) (ci := 0) (v := .ref (Gζ 1)) (C := RX0) (T := TX0) (N := 3) hx hb hts hi0 hown hK hP 0 rfl rfl 1 (by decide) (hts (.fieldLink RX0 15 "PanTales$Chances" "lastNot" "[J") (by decide +kernel)) (fun _ h9 => h9) rfl dX0_weigh_99 ?_
        refine lv_iload hx hb dX0_weigh_102 (lv_at hl 0 rfl) ?_
        refine lv_iconst (v := 1) hx hb dX0_weigh_104 (by decide) ?_
        refine lv_isub hx hb dX0_weigh_105 ?_
        refine gtop (y := nI b2ζ) (nI_pred b2ζ) ?_
        refine r_lald (v := lN ((wDN tζ uζ aζ).2 b2ζ)) hx hb hK hP 2 rfl (vp_in_nI (n := b2ζ) (by omega) (by omega)) (mx_old (nI_clamp (n := b2ζ) (by omega)) (by omega) rfl) dX0_weigh_106 ?_
        refine lv_iload_n hx hb dX0_weigh_107 rfl (lv_at hl 5 rfl) ?_
        refine lv_i2l (v := lN uζ) hx hb dX0_weigh_108 (nI_l (by omega)) ?_
        refine lv_lmul hx hb dX0_weigh_109 ?_
        refine gtopl (y := lN (((wDN tζ uζ aζ).2 b2ζ) * uζ)) (lN_mul ((wDN tζ uζ aζ).2 b2ζ) uζ) ?_
        refine lv_ladd hx hb dX0_weigh_110 ?_
        refine gtopl (y := lN ((((wDN tζ uζ aζ).1 b2ζ) * tζ) + (((wDN tζ uζ aζ).2 b2ζ) * uζ))) (lN_add (((wDN tζ uζ aζ).1 b2ζ) * tζ) (((wDN tζ uζ aζ).2 b2ζ) * uζ)) ?_
        refine lv_goto (tgt := 115) hx hb dX0_weigh_111 (by decide) ?_
        refine r_last (f' := mxG (cD tζ uζ (aζ + 1)) (cD tζ uζ aζ) (b2ζ + 1)) hx hb hK hP hD hS 1 rfl (vp_in_nI (n := (b2ζ + 1)) (by omega) (by omega)) (mx_s (b := b2ζ + 1) (nI_clamp (n := b2ζ + 1) (by omega)) rfl) dX0_weigh_115 (fun H locs hP hD hS => ?_)
        have hP : va_P g.1 vwCl [(hζ, .inr (0, [.ref (Gζ 0), .ref (Gζ 1), .ref (Gζ 2)])), aJ g (Gζ 0) 11 (mxG (cD tζ uζ (aζ + 1)) (cD tζ uζ aζ) (b2ζ + 1)), aJ g (Gζ 1) 11 (mxG (cN tζ uζ (aζ + 1)) (cN tζ uζ aζ) (b2ζ + 1))] H := hP
        have hD : va_D Z [(hζ, .inr (0, [.ref (Gζ 0), .ref (Gζ 1), .ref (Gζ 2)])), aJ g (Gζ 0) 11 (mxG (cD tζ uζ (aζ + 1)) (cD tζ uζ aζ) (b2ζ + 1)), aJ g (Gζ 1) 11 (mxG (cN tζ uζ (aζ + 1)) (cN tζ uζ aζ) (b2ζ + 1))] := hD
        refine lv_iinc (v := nI b2ζ) (lv' := [(5, .int (nI b2ζ)), (4, .int (nI aζ)), (0, .ref hζ), (1, .int (nI nζ)), (2, .int (nI tζ)), (3, .int (nI uζ))]) hx hb dX0_weigh_116 hl (k := 0) rfl (pk_m1 b2ζ) (by decide) rfl (fun ls hl => ?_)
        refine lv_goto (tgt := 36) hx hb dX0_weigh_119 (by decide) ?_
        exact ih36 b2ζ (by first | omega | (dsimp only; omega)) (by first | omega | (dsimp only; omega)) _ _ _ (hP.sub [0, 1, 2] rfl) (hD.sub [0, 1, 2] (by decide) rfl) hS (lv_sub hl [0, 1, 2, 3, 4, 5] rfl)
set_option maxHeartbeats 4000000 in
set_option maxRecDepth 100000 in
theorem c_X0_rowUpper (l : Launch) (g : GT) (sz : Nat) (hζ : Nat) (Gζ : Nat → Nat) (fζ f0ζ : Nat → Int64) (nζ tζ uζ kζ wζ : Nat) (hnζ : nζ ≤ 10) (htζ : tζ ≤ 10) (huζ : uζ ≤ 10) (hkζ : kζ ≤ 10) (hw2ζ : wζ ≤ 2) : Cl l yX0_rowUpper wsX0_rowUpper { frames := 2, cells := 0, slots := 0, locals := 49 } g sz [.ref hζ, .int (nI nζ), .int (nI tζ), .int (nI uζ), .int (nI kζ), .int (nI wζ)] [(hζ, .inr (0, [.ref (Gζ 0), .ref (Gζ 1), .ref (Gζ 2)])), aJ g (Gζ 0) 11 fζ, aJ g (Gζ 1) 11 f0ζ] (lN (ruS tζ uζ nζ kζ wζ 11)) [(hζ, .inr (0, [.ref (Gζ 0), .ref (Gζ 1), .ref (Gζ 2)])), aJ g (Gζ 0) 11 (cD tζ uζ nζ), aJ g (Gζ 1) 11 (cN tζ uζ nζ)] := by
  refine gMet_l (cc := cX0_rowUpper) (maxL := 11) (ret := (some .long)) (by decide) rfl (Nat.le_of_ble_eq_true rfl) ?_
  intro p e s m args below meth c Z hx hb hr F hlk hnm hK hN hA H locs hP hD hS ls hl
  have hl : lv_has ls 11 [(0, .ref hζ), (1, .int (nI nζ)), (2, .int (nI tζ)), (3, .int (nI uζ)), (4, .int (nI kζ)), (5, .int (nI wζ))] := hl
  have F : CallFix p m c cX0_rowUpper 11 s args wsX0_rowUpper RX0 := F
  have hts := F.2.2.2.2
  have hown : s.vm.findClass RX0 = some m.cls := F.2.2.2.1
  have hi0 : ∀ wζ ∈ u_ws RX0 TX0 3, wζ ∈ wsX0_rowUpper := by decide +kernel
  refine lv_aload_n hx hb dX0_rowUpper_0 rfl (lv_at hl 0 rfl) ?_
  refine lv_iload_n hx hb dX0_rowUpper_1 rfl (lv_at hl 1 rfl) ?_
  refine lv_iload_n hx hb dX0_rowUpper_2 rfl (lv_at hl 2 rfl) ?_
  refine lv_iload_n hx hb dX0_rowUpper_3 rfl (lv_at hl 3 rfl) ?_
  refine gcV_v (As := [.int (nI nζ), .int (nI tζ), .int (nI uζ)]) (rest := []) (ci := 0) (q := (RX0, TX0, 3)) F hK hN hP hD hS hA (c_X0_weigh l g H.size hζ Gζ fζ f0ζ nζ tζ uζ (by omega) (by omega) (by omega)) gX0_rowUpper_X0_weigh kX0_weigh rfl rfl rfl rfl ⟨(Nat.le_of_ble_eq_true rfl), (Nat.le_of_ble_eq_true rfl)⟩ [0, 1, 2] [] rfl rfl rfl (by decide) rfl rfl rfl rfl rfl hl.1 (Nat.le_of_ble_eq_true rfl) dX0_rowUpper_4 ⟨(Nat.le_of_ble_eq_true rfl), (Nat.le_of_ble_eq_true rfl)⟩ (fun u_w H locs hw hP hD hS => ?_)
  have hP : va_P g.1 vwCl [(hζ, .inr (0, [.ref (Gζ 0), .ref (Gζ 1), .ref (Gζ 2)])), aJ g (Gζ 0) 11 (cD tζ uζ nζ), aJ g (Gζ 1) 11 (cN tζ uζ nζ)] H := hP
  have hD : va_D Z [(hζ, .inr (0, [.ref (Gζ 0), .ref (Gζ 1), .ref (Gζ 2)])), aJ g (Gζ 0) 11 (cD tζ uζ nζ), aJ g (Gζ 1) 11 (cN tζ uζ nζ)] := hD
  refine lv_lconst (v := 0) hx hb dX0_rowUpper_7 (by decide) ?_
  refine lv_lstore (lv' := [(6, .long 0), (0, .ref hζ), (1, .int (nI nζ)), (2, .int (nI tζ)), (3, .int (nI uζ)), (4, .int (nI kζ)), (5, .int (nI wζ))]) hx hb dX0_rowUpper_8 hl (by decide) rfl (fun ls hl => ?_)
  refine lv_iconst (v := 0) hx hb dX0_rowUpper_10 (by decide) ?_
  refine lv_istore (lv' := [(8, .int 0), (6, .long 0), (0, .ref hζ), (1, .int (nI nζ)), (2, .int (nI tζ)), (3, .int (nI uζ)), (4, .int (nI kζ)), (5, .int (nI wζ))]) hx hb dX0_rowUpper_11 hl (by decide) rfl (fun ls hl => ?_)
  refine gloop (σ := Nat) (fun u0 => 11 - u0) (fun u0 => u0 ≤ 11) (fun u0 => [(hζ, .inr (0, [.ref (Gζ 0), .ref (Gζ 1), .ref (Gζ 2)])), aJ g (Gζ 0) 11 (cD tζ uζ nζ), aJ g (Gζ 1) 11 (cN tζ uζ nζ)]) (fun u0 => [(8, .int (nI u0)), (6, .long (lN (ruS tζ uζ nζ kζ wζ u0))), (0, .ref hζ), (1, .int (nI nζ)), (2, .int (nI tζ)), (3, .int (nI uζ)), (4, .int (nI kζ)), (5, .int (nI wζ))]) ?_ 0 (by first | omega | decide | rfl) (hP.sub [0, 1, 2] rfl) (hD.sub [0, 1, 2] (by decide) rfl) hS (lv_sub hl [0, 1, 2, 3, 4, 5, 6, 7] rfl)
  rintro iζ hiζ ih13 H locs ls hP hD hS hl
  have hiζ : iζ ≤ 11 := hiζ
  have hP : va_P g.1 vwCl [(hζ, .inr (0, [.ref (Gζ 0), .ref (Gζ 1), .ref (Gζ 2)])), aJ g (Gζ 0) 11 (cD tζ uζ nζ), aJ g (Gζ 1) 11 (cN tζ uζ nζ)] H := hP
  have hD : va_D Z [(hζ, .inr (0, [.ref (Gζ 0), .ref (Gζ 1), .ref (Gζ 2)])), aJ g (Gζ 0) 11 (cD tζ uζ nζ), aJ g (Gζ 1) 11 (cN tζ uζ nζ)] := hD
  have hl : lv_has ls 11 [(8, .int (nI iζ)), (6, .long (lN (ruS tζ uζ nζ kζ wζ iζ))), (0, .ref hζ), (1, .int (nI nζ)), (2, .int (nI tζ)), (3, .int (nI uζ)), (4, .int (nI kζ)), (5, .int (nI wζ))] := hl
  refine lv_iload hx hb dX0_rowUpper_13 (lv_at hl 0 rfl) ?_
  refine lv_bipush (v := 10) hx hb dX0_rowUpper_15 (by decide) ?_
  refine lv_icmp_gt (tgt := 90) hx hb dX0_rowUpper_17 (by decide) (fun c_1 => ?_) (fun c_1 => ?_)
  · have c_1 : 10 < iζ := (nI_ltI (a := 10) (b := iζ) (by omega) (by omega)).mp c_1
    obtain rfl : iζ = 11 := by omega
    skip
    refine lv_lload hx hb dX0_rowUpper_90 (lv_at hl 1 rfl) ?_
    exact r_lret hx hb hr hlk hS () rfl (hP.sub [0, 1, 2] rfl) (hD.sub [0, 1, 2] (by decide) rfl) dX0_rowUpper_92
  · have c_1 : ¬ 10 < iζ := fun z => c_1 ((nI_ltI (a := 10) (b := iζ) (by omega) (by omega)).mpr z)
    refine lv_aload_n hx hb dX0_rowUpper_20 rfl (lv_at hl 2 rfl) ?_
    refine va_get (D := g.1) (ci := 0) (v := .ref (Gζ 0)) (C := RX0) (T := TX0) (N := 3) hx hb hts hi0 hown hK hP 0 rfl rfl 0 (by decide) (hts (.fieldLink RX0 9 "PanTales$Chances" "lastDoes" "[J") (by decide +kernel)) (fun _ h9 => h9) rfl dX0_rowUpper_21 ?_
    refine lv_iload hx hb dX0_rowUpper_24 (lv_at hl 0 rfl) ?_
    refine r_lald (v := lN ((wDN tζ uζ nζ).1 iζ)) hx hb hK hP 1 rfl (vp_in_nI (n := iζ) (by omega) (by omega)) (congrArg (cD tζ uζ nζ) (nI_clamp (n := iζ) (by omega))) dX0_rowUpper_26 ?_
    refine lv_aload_n hx hb dX0_rowUpper_27 rfl (lv_at hl 2 rfl) ?_
    refine va_get (D := g.1) (ci := 0) (v := .ref (Gζ 1)) (C := RX0) (T := TX0) (N := 3) hx hb hts hi0 hown hK hP 0 rfl rfl 1 (by decide) (hts (.fieldLink RX0 15 "PanTales$Chances" "lastNot" "[J") (by decide +kernel)) (fun _ h9 => h9) rfl dX0_rowUpper_28 ?_
    refine lv_iload hx hb dX0_rowUpper_31 (lv_at hl 0 rfl) ?_
    refine r_lald (v := lN ((wDN tζ uζ nζ).2 iζ)) hx hb hK hP 2 rfl (vp_in_nI (n := iζ) (by omega) (by omega)) (congrArg (cN tζ uζ nζ) (nI_clamp (n := iζ) (by omega))) dX0_rowUpper_33 ?_
    refine lv_ladd hx hb dX0_rowUpper_34 ?_
    refine gtopl (y := lN (wtF tζ uζ nζ iζ)) (lN_add _ _) ?_
    refine lv_lstore (lv' := [(9, .long (lN (wtF tζ uζ nζ iζ))), (8, .int (nI iζ)), (6, .long (lN (ruS tζ uζ nζ kζ wζ iζ))), (0, .ref hζ), (1, .int (nI nζ)), (2, .int (nI tζ)), (3, .int (nI uζ)), (4, .int (nI kζ)), (5, .int (nI wζ))]) hx hb dX0_rowUpper_35 hl (by decide) rfl (fun ls hl => ?_)
    refine lv_iload hx hb dX0_rowUpper_37 (lv_at hl 8 rfl) ?_
    refine lv_iconst (v := 2) hx hb dX0_rowUpper_39 (by decide) ?_
    refine lv_icmp_ne (tgt := 57) hx hb dX0_rowUpper_40 (by decide) (fun c_2 => ?_) (fun c_2 => ?_)
    · have c_2 : ¬ wζ = 2 := fun z => c_2 ((nI_eq (a := wζ) (b := 2) (by omega) (by omega)).mpr z)
      refine lv_iload hx hb dX0_rowUpper_57 (lv_at hl 1 rfl) ?_
      refine lv_iload hx hb dX0_rowUpper_59 (lv_at hl 7 rfl) ?_
      refine lv_icmp_eq (tgt := 77) hx hb dX0_rowUpper_61 (by decide) (fun c_3 => ?_) (fun c_3 => ?_)
      · have c_3 : iζ = kζ := (nI_eq (a := iζ) (b := kζ) (by omega) (by omega)).mp c_3
        refine lv_lload hx hb dX0_rowUpper_77 (lv_at hl 2 rfl) ?_
        refine lv_lload hx hb dX0_rowUpper_79 (lv_at hl 0 rfl) ?_
        refine lv_ladd hx hb dX0_rowUpper_81 ?_
        refine gtopl (y := lN (ruS tζ uζ nζ kζ wζ (iζ + 1))) ((lN_add _ _).trans (congrArg lN (ru_a c_2 (by omega)))) ?_
        refine lv_lstore (lv' := [(6, .long (lN (ruS tζ uζ nζ kζ wζ (iζ + 1)))), (9, .long (lN (wtF tζ uζ nζ iζ))), (8, .int (nI iζ)), (0, .ref hζ), (1, .int (nI nζ)), (2, .int (nI tζ)), (3, .int (nI uζ)), (4, .int (nI kζ)), (5, .int (nI wζ))]) hx hb dX0_rowUpper_82 hl (by decide) rfl (fun ls hl => ?_)
        refine lv_iinc (v := nI (iζ + 1)) (lv' := [(8, .int (nI (iζ + 1))), (6, .long (lN (ruS tζ uζ nζ kζ wζ (iζ + 1)))), (9, .long (lN (wtF tζ uζ nζ iζ))), (0, .ref hζ), (1, .int (nI nζ)), (2, .int (nI tζ)), (3, .int (nI uζ)), (4, .int (nI kζ)), (5, .int (nI wζ))]) hx hb dX0_rowUpper_84 hl (k := 2) rfl (nI_1 iζ) (by decide) rfl (fun ls hl => ?_)
        refine lv_goto (tgt := 13) hx hb dX0_rowUpper_87 (by decide) ?_
        exact ih13 (iζ + 1) (by first | omega | (dsimp only; omega)) (by first | omega | (dsimp only; omega)) _ _ _ (hP.sub [0, 1, 2] rfl) (hD.sub [0, 1, 2] (by decide) rfl) hS (lv_sub hl [0, 1, 3, 4, 5, 6, 7, 8] rfl)
      · have c_3 : ¬ iζ = kζ := fun z => c_3 ((nI_eq (a := iζ) (b := kζ) (by omega) (by omega)).mpr z)
        refine lv_iload hx hb dX0_rowUpper_64 (lv_at hl 8 rfl) ?_
        refine lv_iconst (v := 1) hx hb dX0_rowUpper_66 (by decide) ?_
        refine lv_icmp_ne (tgt := 84) hx hb dX0_rowUpper_67 (by decide) (fun c_4 => ?_) (fun c_4 => ?_)
        · have c_4 : ¬ wζ = 1 := fun z => c_4 ((nI_eq (a := wζ) (b := 1) (by omega) (by omega)).mpr z)
          have hl : lv_has ls 11 [(9, .long (lN (wtF tζ uζ nζ iζ))), (8, .int (nI iζ)), (6, .long (lN (ruS tζ uζ nζ kζ wζ (iζ + 1)))), (0, .ref hζ), (1, .int (nI nζ)), (2, .int (nI tζ)), (3, .int (nI uζ)), (4, .int (nI kζ)), (5, .int (nI wζ))] := by first | exact hl | (rw [← (congrArg lN (ru_n c_2 (by omega)) : lN (ruS tζ uζ nζ kζ wζ iζ) = lN (ruS tζ uζ nζ kζ wζ (iζ + 1)))]; exact hl)
          refine lv_iinc (v := nI (iζ + 1)) (lv' := [(8, .int (nI (iζ + 1))), (9, .long (lN (wtF tζ uζ nζ iζ))), (6, .long (lN (ruS tζ uζ nζ kζ wζ (iζ + 1)))), (0, .ref hζ), (1, .int (nI nζ)), (2, .int (nI tζ)), (3, .int (nI uζ)), (4, .int (nI kζ)), (5, .int (nI wζ))]) hx hb dX0_rowUpper_84 hl (k := 1) rfl (nI_1 iζ) (by decide) rfl (fun ls hl => ?_)
          refine lv_goto (tgt := 13) hx hb dX0_rowUpper_87 (by decide) ?_
          exact ih13 (iζ + 1) (by first | omega | (dsimp only; omega)) (by first | omega | (dsimp only; omega)) _ _ _ (hP.sub [0, 1, 2] rfl) (hD.sub [0, 1, 2] (by decide) rfl) hS (lv_sub hl [0, 2, 3, 4, 5, 6, 7, 8] rfl)
        · have c_4 : wζ = 1 := (nI_eq (a := wζ) (b := 1) (by omega) (by omega)).mp c_4
          refine lv_iload hx hb dX0_rowUpper_70 (lv_at hl 1 rfl) ?_
          refine lv_iload hx hb dX0_rowUpper_72 (lv_at hl 7 rfl) ?_
          refine lv_icmp_le (tgt := 84) hx hb dX0_rowUpper_74 (by decide) (fun c_5 => ?_) (fun c_5 => ?_)
          · have c_5 : iζ ≤ kζ := (nI_leI (a := iζ) (b := kζ) (by omega) (by omega)).mp c_5
            have hl : lv_has ls 11 [(9, .long (lN (wtF tζ uζ nζ iζ))), (8, .int (nI iζ)), (6, .long (lN (ruS tζ uζ nζ kζ wζ (iζ + 1)))), (0, .ref hζ), (1, .int (nI nζ)), (2, .int (nI tζ)), (3, .int (nI uζ)), (4, .int (nI kζ)), (5, .int (nI wζ))] := by first | exact hl | (rw [← (congrArg lN (ru_n c_2 (by omega)) : lN (ruS tζ uζ nζ kζ wζ iζ) = lN (ruS tζ uζ nζ kζ wζ (iζ + 1)))]; exact hl)
            refine lv_iinc (v := nI (iζ + 1)) (lv' := [(8, .int (nI (iζ + 1))), (9, .long (lN (wtF tζ uζ nζ iζ))), (6, .long (lN (ruS tζ uζ nζ kζ wζ (iζ + 1)))), (0, .ref hζ), (1, .int (nI nζ)), (2, .int (nI tζ)), (3, .int (nI uζ)), (4, .int (nI kζ)), (5, .int (nI wζ))]) hx hb dX0_rowUpper_84 hl (k := 1) rfl (nI_1 iζ) (by decide) rfl (fun ls hl => ?_)
            refine lv_goto (tgt := 13) hx hb dX0_rowUpper_87 (by decide) ?_
            exact ih13 (iζ + 1) (by first | omega | (dsimp only; omega)) (by first | omega | (dsimp only; omega)) _ _ _ (hP.sub [0, 1, 2] rfl) (hD.sub [0, 1, 2] (by decide) rfl) hS (lv_sub hl [0, 2, 3, 4, 5, 6, 7, 8] rfl)
          · have c_5 : ¬ iζ ≤ kζ := fun z => c_5 ((nI_leI (a := iζ) (b := kζ) (by omega) (by omega)).mpr z)
            refine lv_lload hx hb dX0_rowUpper_77 (lv_at hl 2 rfl) ?_
            refine lv_lload hx hb dX0_rowUpper_79 (lv_at hl 0 rfl) ?_
            refine lv_ladd hx hb dX0_rowUpper_81 ?_
            refine gtopl (y := lN (ruS tζ uζ nζ kζ wζ (iζ + 1))) ((lN_add _ _).trans (congrArg lN (ru_a c_2 (by omega)))) ?_
            refine lv_lstore (lv' := [(6, .long (lN (ruS tζ uζ nζ kζ wζ (iζ + 1)))), (9, .long (lN (wtF tζ uζ nζ iζ))), (8, .int (nI iζ)), (0, .ref hζ), (1, .int (nI nζ)), (2, .int (nI tζ)), (3, .int (nI uζ)), (4, .int (nI kζ)), (5, .int (nI wζ))]) hx hb dX0_rowUpper_82 hl (by decide) rfl (fun ls hl => ?_)
            refine lv_iinc (v := nI (iζ + 1)) (lv' := [(8, .int (nI (iζ + 1))), (6, .long (lN (ruS tζ uζ nζ kζ wζ (iζ + 1)))), (9, .long (lN (wtF tζ uζ nζ iζ))), (0, .ref hζ), (1, .int (nI nζ)), (2, .int (nI tζ)), (3, .int (nI uζ)), (4, .int (nI kζ)), (5, .int (nI wζ))]) hx hb dX0_rowUpper_84 hl (k := 2) rfl (nI_1 iζ) (by decide) rfl (fun ls hl => ?_)
            refine lv_goto (tgt := 13) hx hb dX0_rowUpper_87 (by decide) ?_
            exact ih13 (iζ + 1) (by first | omega | (dsimp only; omega)) (by first | omega | (dsimp only; omega)) _ _ _ (hP.sub [0, 1, 2] rfl) (hD.sub [0, 1, 2] (by decide) rfl) hS (lv_sub hl [0, 1, 3, 4, 5, 6, 7, 8] rfl)
    · have c_2 : wζ = 2 := (nI_eq (a := wζ) (b := 2) (by omega) (by omega)).mp c_2
      refine lv_lload hx hb dX0_rowUpper_43 (lv_at hl 2 rfl) ?_
      refine lv_iload hx hb dX0_rowUpper_45 (lv_at hl 1 rfl) ?_
      refine lv_i2l (v := lN iζ) hx hb dX0_rowUpper_47 (nI_l (by omega)) ?_
      refine lv_lload hx hb dX0_rowUpper_48 (lv_at hl 0 rfl) ?_
      refine lv_lmul hx hb dX0_rowUpper_50 ?_
      refine gtopl (y := lN (iζ * (wtF tζ uζ nζ iζ))) (lN_mul iζ (wtF tζ uζ nζ iζ)) ?_
      refine lv_ladd hx hb dX0_rowUpper_51 ?_
      refine gtopl (y := lN (ruS tζ uζ nζ kζ wζ (iζ + 1))) ((lN_add _ _).trans (congrArg lN (ru_2 c_2))) ?_
      refine lv_lstore (lv' := [(6, .long (lN (ruS tζ uζ nζ kζ wζ (iζ + 1)))), (9, .long (lN (wtF tζ uζ nζ iζ))), (8, .int (nI iζ)), (0, .ref hζ), (1, .int (nI nζ)), (2, .int (nI tζ)), (3, .int (nI uζ)), (4, .int (nI kζ)), (5, .int (nI wζ))]) hx hb dX0_rowUpper_52 hl (by decide) rfl (fun ls hl => ?_)
      refine lv_goto (tgt := 84) hx hb dX0_rowUpper_54 (by decide) ?_
      refine lv_iinc (v := nI (iζ + 1)) (lv' := [(8, .int (nI (iζ + 1))), (6, .long (lN (ruS tζ uζ nζ kζ wζ (iζ + 1)))), (9, .long (lN (wtF tζ uζ nζ iζ))), (0, .ref hζ), (1, .int (nI nζ)), (2, .int (nI tζ)), (3, .int (nI uζ)), (4, .int (nI kζ)), (5, .int (nI wζ))]) hx hb dX0_rowUpper_84 hl (k := 2) rfl (nI_1 iζ) (by decide) rfl (fun ls hl => ?_)
      refine lv_goto (tgt := 13) hx hb dX0_rowUpper_87 (by decide) ?_
      exact ih13 (iζ + 1) (by first | omega | (dsimp only; omega)) (by first | omega | (dsimp only; omega)) _ _ _ (hP.sub [0, 1, 2] rfl) (hD.sub [0, 1, 2] (by decide) rfl) hS (lv_sub hl [0, 1, 3, 4, 5, 6, 7, 8] rfl)
set_option maxHeartbeats 4000000 in
set_option maxRecDepth 100000 in
theorem c_X0_rowLower (l : Launch) (g : GT) (sz : Nat) (hζ : Nat) (Gζ : Nat → Nat) (nζ : Nat) (hnζ : nζ ≤ 10) : Cl l yX0_rowLower wsX0_rowLower { frames := 0, cells := 0, slots := 0, locals := 0 } g sz [.ref hζ, .int (nI nζ)] [(hζ, .inr (0, [.ref (Gζ 0), .ref (Gζ 1), .ref (Gζ 2)]))] (lN (10 ^ nζ)) [(hζ, .inr (0, [.ref (Gζ 0), .ref (Gζ 1), .ref (Gζ 2)]))] := by
  refine gMet_l (cc := cX0_rowLower) (maxL := 5) (ret := (some .long)) (by decide) rfl (Nat.le_of_ble_eq_true rfl) ?_
  intro p e s m args below meth c Z hx hb hr F hlk hnm hK hN hA H locs hP hD hS ls hl
  have hl : lv_has ls 5 [(0, .ref hζ), (1, .int (nI nζ))] := hl
  have F : CallFix p m c cX0_rowLower 5 s args wsX0_rowLower RX0 := F
  have hts := F.2.2.2.2
  have hown : s.vm.findClass RX0 = some m.cls := F.2.2.2.1
  refine lv_lconst (v := 1) hx hb dX0_rowLower_0 (by decide) ?_
  refine lv_lstore_n (lv' := [(2, .long 1), (0, .ref hζ), (1, .int (nI nζ))]) hx hb dX0_rowLower_1 rfl hl (by decide) rfl (fun ls hl => ?_)
  refine lv_iconst (v := 0) hx hb dX0_rowLower_2 (by decide) ?_
  refine lv_istore (lv' := [(4, .int 0), (2, .long 1), (0, .ref hζ), (1, .int (nI nζ))]) hx hb dX0_rowLower_3 hl (by decide) rfl (fun ls hl => ?_)
  refine gloop (σ := Nat) (fun u0 => nζ - u0) (fun u0 => u0 ≤ nζ) (fun u0 => [(hζ, .inr (0, [.ref (Gζ 0), .ref (Gζ 1), .ref (Gζ 2)]))]) (fun u0 => [(4, .int (nI u0)), (2, .long (lN (10 ^ u0))), (0, .ref hζ), (1, .int (nI nζ))]) ?_ 0 (by first | omega | decide | rfl) (hP.sub [0] rfl) (hD.sub [0] (by decide) rfl) hS (lv_sub hl [0, 1, 2, 3] rfl)
  rintro iζ hiζ ih5 H locs ls hP hD hS hl
  have hiζ : iζ ≤ nζ := hiζ
  have hP : va_P g.1 vwCl [(hζ, .inr (0, [.ref (Gζ 0), .ref (Gζ 1), .ref (Gζ 2)]))] H := hP
  have hD : va_D Z [(hζ, .inr (0, [.ref (Gζ 0), .ref (Gζ 1), .ref (Gζ 2)]))] := hD
  have hl : lv_has ls 5 [(4, .int (nI iζ)), (2, .long (lN (10 ^ iζ))), (0, .ref hζ), (1, .int (nI nζ))] := hl
  refine lv_iload hx hb dX0_rowLower_5 (lv_at hl 0 rfl) ?_
  refine lv_iload_n hx hb dX0_rowLower_7 rfl (lv_at hl 3 rfl) ?_
  refine lv_icmp_ge (tgt := 23) hx hb dX0_rowLower_8 (by decide) (fun c_1 => ?_) (fun c_1 => ?_)
  · have c_1 : nζ ≤ iζ := (nI_leI (a := nζ) (b := iζ) (by omega) (by omega)).mp c_1
    have ei : iζ = nζ := by omega
    subst ei
    skip
    refine lv_lload_n hx hb dX0_rowLower_23 rfl (lv_at hl 1 rfl) ?_
    exact r_lret hx hb hr hlk hS () rfl (hP.sub [0] rfl) (hD.sub [0] (by decide) rfl) dX0_rowLower_24
  · have c_1 : ¬ nζ ≤ iζ := fun z => c_1 ((nI_leI (a := nζ) (b := iζ) (by omega) (by omega)).mpr z)
    refine lv_lload_n hx hb dX0_rowLower_11 rfl (lv_at hl 1 rfl) ?_
    refine lv_ldc2 (v := 10) hx hb hown (hts (.constantLong RX0 26 (10)) (by decide +kernel)) dX0_rowLower_12 ?_
    refine lv_lmul hx hb dX0_rowLower_15 ?_
    refine gtopl (y := lN (10 ^ (iζ + 1))) ((lN_mul _ _).trans (congrArg lN (Nat.pow_succ ..).symm)) ?_
    refine lv_lstore_n (lv' := [(2, .long (lN (10 ^ (iζ + 1)))), (4, .int (nI iζ)), (0, .ref hζ), (1, .int (nI nζ))]) hx hb dX0_rowLower_16 rfl hl (by decide) rfl (fun ls hl => ?_)
    refine lv_iinc (v := nI (iζ + 1)) (lv' := [(4, .int (nI (iζ + 1))), (2, .long (lN (10 ^ (iζ + 1)))), (0, .ref hζ), (1, .int (nI nζ))]) hx hb dX0_rowLower_17 hl (k := 1) rfl (nI_1 iζ) (by decide) rfl (fun ls hl => ?_)
    refine lv_goto (tgt := 5) hx hb dX0_rowLower_20 (by decide) ?_
    exact ih5 (iζ + 1) (by first | omega | (dsimp only; omega)) (by first | omega | (dsimp only; omega)) _ _ _ (hP.sub [0] rfl) (hD.sub [0] (by decide) rfl) hS (lv_sub hl [0, 1, 2, 3] rfl)
set_option maxHeartbeats 4000000 in
set_option maxRecDepth 100000 in
theorem c_X6_commonPart (l : Launch) (g : GT) (sz : Nat) (aζ bζ : Nat) (hgaζ : aζ < 2 ^ 60) (hgbζ : bζ < 2 ^ 60) : Cl l yX6_commonPart wsX6_commonPart { frames := 0, cells := 0, slots := 0, locals := 0 } g sz [.long (lN aζ), .long (lN bζ)] [] (lN (Nat.gcd aζ bζ)) [] := by
  refine gMet_l (cc := cX6_commonPart) (maxL := 11) (ret := (some .long)) (by decide) rfl (Nat.le_of_ble_eq_true rfl) ?_
  intro p e s m args below meth c Z hx hb hr F hlk hnm hK hN hA H locs hP hD hS ls hl
  have hl : lv_has ls 11 [(0, .long (lN aζ)), (2, .long (lN bζ))] := hl
  have F : CallFix p m c cX6_commonPart 11 s args wsX6_commonPart RX6 := F
  have hts := F.2.2.2.2
  have hown : s.vm.findClass RX6 = some m.cls := F.2.2.2.1
  refine lv_lload_n hx hb dX6_commonPart_0 rfl (lv_at hl 0 rfl) ?_
  refine lv_lstore (lv' := [(4, .long (lN aζ)), (0, .long (lN aζ)), (2, .long (lN bζ))]) hx hb dX6_commonPart_1 hl (by decide) rfl (fun ls hl => ?_)
  refine lv_lload_n hx hb dX6_commonPart_3 rfl (lv_at hl 2 rfl) ?_
  refine lv_lstore (lv' := [(6, .long (lN bζ)), (4, .long (lN aζ)), (0, .long (lN aζ)), (2, .long (lN bζ))]) hx hb dX6_commonPart_4 hl (by decide) rfl (fun ls hl => ?_)
  refine lv_iconst (v := 0) hx hb dX6_commonPart_6 (by decide) ?_
  refine lv_istore (lv' := [(8, .int 0), (6, .long (lN bζ)), (4, .long (lN aζ)), (0, .long (lN aζ)), (2, .long (lN bζ))]) hx hb dX6_commonPart_7 hl (by decide) rfl (fun ls hl => ?_)
  refine gloop (σ := Nat × Nat × Nat) (fun u0 => 1000 - u0.1) (fun u0 => u0.1 ≤ 1000 ∧ u0.2.1 < 2 ^ 60 ∧ u0.2.2 < 2 ^ 60 ∧ Nat.gcd u0.2.1 u0.2.2 = Nat.gcd aζ bζ ∧ cpI u0.1 u0.2.1 u0.2.2) (fun u0 => []) (fun u0 => [(8, .int (nI u0.1)), (6, .long (lN u0.2.2)), (4, .long (lN u0.2.1)), (0, .long (lN aζ)), (2, .long (lN bζ))]) ?_ (0, aζ, bζ) ⟨(by first | omega | decide | rfl), hgaζ, hgbζ, rfl, (Or.inr (Or.inl rfl))⟩ (hP.sub [] rfl) (hD.sub [] (by decide) rfl) hS (lv_sub hl [0, 1, 2, 3, 4] rfl)
  rintro ⟨iζ, xζ, yζ⟩ ⟨hiζ, hxxζ, hyyζ, hgζ, hmζ⟩ ih9 H locs ls hP hD hS hl
  have hiζ : iζ ≤ 1000 := hiζ
  have hxxζ : xζ < 2 ^ 60 := hxxζ
  have hyyζ : yζ < 2 ^ 60 := hyyζ
  have hgζ : Nat.gcd xζ yζ = Nat.gcd aζ bζ := hgζ
  have hmζ : cpI iζ xζ yζ := hmζ
  have hP : va_P g.1 vwCl [] H := hP
  have hD : va_D Z [] := hD
  have hl : lv_has ls 11 [(8, .int (nI iζ)), (6, .long (lN yζ)), (4, .long (lN xζ)), (0, .long (lN aζ)), (2, .long (lN bζ))] := hl
  refine lv_iload hx hb dX6_commonPart_9 (lv_at hl 0 rfl) ?_
  refine lv_sipush (v := 1000) hx hb dX6_commonPart_11 (by decide) ?_
  refine lv_icmp_ge (tgt := 45) hx hb dX6_commonPart_14 (by decide) (fun c_1 => ?_) (fun c_1 => ?_)
  · have c_1 : 1000 ≤ iζ := (nI_leI (a := 1000) (b := iζ) (by omega) (by omega)).mp c_1
    obtain rfl : yζ = 0 := cpI_e c_1 hmζ
    skip
    refine lv_lload hx hb dX6_commonPart_45 (lv_at hl 2 rfl) ?_
    exact r_lret hx hb hr hlk hS () (by rw [← hgζ, Nat.gcd_zero_right]) (hP.sub [] rfl) (hD.sub [] (by decide) rfl) dX6_commonPart_47
  · have c_1 : ¬ 1000 ≤ iζ := fun z => c_1 ((nI_leI (a := 1000) (b := iζ) (by omega) (by omega)).mpr z)
    refine lv_lload hx hb dX6_commonPart_17 (lv_at hl 1 rfl) ?_
    refine lv_lconst (v := 0) hx hb dX6_commonPart_19 (by decide) ?_
    refine W.lcmp hx hb dX6_commonPart_20 ?_
    refine lv_if_eq (tgt := 45) hx hb dX6_commonPart_21 (by decide) (fun c_2 => ?_) (fun c_2 => ?_)
    · obtain rfl : yζ = 0 := lg_0 hyyζ c_2
      skip
      refine lv_lload hx hb dX6_commonPart_45 (lv_at hl 2 rfl) ?_
      exact r_lret hx hb hr hlk hS () (by rw [← hgζ, Nat.gcd_zero_right]) (hP.sub [] rfl) (hD.sub [] (by decide) rfl) dX6_commonPart_47
    · have hy0ζ : yζ ≠ 0 := lg_n c_2
      refine lv_lload hx hb dX6_commonPart_24 (lv_at hl 2 rfl) ?_
      refine lv_lload hx hb dX6_commonPart_26 (lv_at hl 1 rfl) ?_
      refine lv_lrem hx hb dX6_commonPart_28 (lN_ne0 hyyζ hy0ζ) ?_
      refine gtopl (y := lN (xζ % yζ)) (pk_lRem (a := xζ) (b := yζ) (by omega) (by omega) (by omega)) ?_
      refine lv_lstore (lv' := [(9, .long (lN (xζ % yζ))), (8, .int (nI iζ)), (6, .long (lN yζ)), (4, .long (lN xζ)), (0, .long (lN aζ)), (2, .long (lN bζ))]) hx hb dX6_commonPart_29 hl (by decide) rfl (fun ls hl => ?_)
      refine lv_lload hx hb dX6_commonPart_31 (lv_at hl 2 rfl) ?_
      refine lv_lstore (lv' := [(4, .long (lN yζ)), (9, .long (lN (xζ % yζ))), (8, .int (nI iζ)), (6, .long (lN yζ)), (0, .long (lN aζ)), (2, .long (lN bζ))]) hx hb dX6_commonPart_33 hl (by decide) rfl (fun ls hl => ?_)
      refine lv_lload hx hb dX6_commonPart_35 (lv_at hl 1 rfl) ?_
      refine lv_lstore (lv' := [(6, .long (lN (xζ % yζ))), (4, .long (lN yζ)), (9, .long (lN (xζ % yζ))), (8, .int (nI iζ)), (0, .long (lN aζ)), (2, .long (lN bζ))]) hx hb dX6_commonPart_37 hl (by decide) rfl (fun ls hl => ?_)
      refine lv_iinc (v := nI (iζ + 1)) (lv' := [(8, .int (nI (iζ + 1))), (6, .long (lN (xζ % yζ))), (4, .long (lN yζ)), (9, .long (lN (xζ % yζ))), (0, .long (lN aζ)), (2, .long (lN bζ))]) hx hb dX6_commonPart_39 hl (k := 3) rfl (nI_1 iζ) (by decide) rfl (fun ls hl => ?_)
      refine lv_goto (tgt := 9) hx hb dX6_commonPart_42 (by decide) ?_
      exact ih9 (iζ + 1, yζ, xζ % yζ) ⟨(by first | omega | (dsimp only; omega)), hyyζ, (Nat.lt_trans (Nat.mod_lt _ (by omega)) hyyζ), (gcd_s hgζ), (cpI_s hxxζ hyyζ hy0ζ hmζ)⟩ (by first | omega | (dsimp only; omega)) _ _ _ (hP.sub [] rfl) (hD.sub [] (by decide) rfl) hS (lv_sub hl [0, 1, 2, 4, 5] rfl)
set_option maxHeartbeats 4000000 in
set_option maxRecDepth 100000 in
theorem c_X0_leastTake (l : Launch) (g : GT) (sz : Nat) (hζ : Nat) (Gζ : Nat → Nat) (fζ : Nat → Int32) (jζ : Nat) (hj1ζ : 1 ≤ jζ) (hjζ : jζ ≤ 60) (hfζ : ∀ z, 1 ≤ z → z < jζ → fζ z = nI (tkN z)) : Ci l yX0_leastTake wsX0_leastTake { frames := 1, cells := 0, slots := 0, locals := 22 } g sz [.ref hζ, .int (nI jζ)] [(hζ, .inr (0, [.ref (Gζ 0), .ref (Gζ 1), .ref (Gζ 2)])), aI g (Gζ 2) 61 fζ] (nI (tkN jζ)) [(hζ, .inr (0, [.ref (Gζ 0), .ref (Gζ 1), .ref (Gζ 2)])), aI g (Gζ 2) 61 fζ] := by
  refine gMet_i (cc := cX0_leastTake) (maxL := 4) (ret := (some .int)) (by decide) rfl (Nat.le_of_ble_eq_true rfl) ?_
  intro p e s m args below meth c Z hx hb hr F hlk hnm hK hN hA H locs hP hD hS ls hl
  have hl : lv_has ls 4 [(0, .ref hζ), (1, .int (nI jζ))] := hl
  have F : CallFix p m c cX0_leastTake 4 s args wsX0_leastTake RX0 := F
  have hts := F.2.2.2.2
  have hown : s.vm.findClass RX0 = some m.cls := F.2.2.2.1
  have hi0 : ∀ w ∈ u_ws RX0 TX0 3, w ∈ wsX0_leastTake := by decide +kernel
  refine lv_iconst (v := 1) hx hb dX0_leastTake_0 (by decide) ?_
  refine lv_istore_n (lv' := [(2, .int 1), (0, .ref hζ), (1, .int (nI jζ))]) hx hb dX0_leastTake_1 rfl hl (by decide) rfl (fun ls hl => ?_)
  refine gloop (σ := Nat) (fun u0 => jζ - u0) (fun u0 => 1 ≤ u0 ∧ u0 ≤ jζ ∧ u0 ≤ tkN jζ) (fun u0 => [(hζ, .inr (0, [.ref (Gζ 0), .ref (Gζ 1), .ref (Gζ 2)])), aI g (Gζ 2) 61 fζ]) (fun u0 => [(2, .int (nI u0)), (0, .ref hζ), (1, .int (nI jζ))]) ?_ 1 ⟨(by first | omega | decide | rfl), (by first | omega | decide | rfl), (tk_1 hjζ hj1ζ)⟩ (hP.sub [0, 1] rfl) (hD.sub [0, 1] (by decide) rfl) hS (lv_sub hl [0, 1, 2] rfl)
  rintro iζ ⟨h1iζ, hiζ, hitζ⟩ ih2 H locs ls hP hD hS hl
  have h1iζ : 1 ≤ iζ := h1iζ
  have hiζ : iζ ≤ jζ := hiζ
  have hitζ : iζ ≤ tkN jζ := hitζ
  have hP : va_P g.1 vwCl [(hζ, .inr (0, [.ref (Gζ 0), .ref (Gζ 1), .ref (Gζ 2)])), aI g (Gζ 2) 61 fζ] H := hP
  have hD : va_D Z [(hζ, .inr (0, [.ref (Gζ 0), .ref (Gζ 1), .ref (Gζ 2)])), aI g (Gζ 2) 61 fζ] := hD
  have hl : lv_has ls 4 [(2, .int (nI iζ)), (0, .ref hζ), (1, .int (nI jζ))] := hl
  refine lv_iload_n hx hb dX0_leastTake_2 rfl (lv_at hl 0 rfl) ?_
  refine lv_iload_n hx hb dX0_leastTake_3 rfl (lv_at hl 2 rfl) ?_
  refine lv_icmp_ge (tgt := 41) hx hb dX0_leastTake_4 (by decide) (fun c_1 => ?_) (fun c_1 => ?_)
  · have c_1 : jζ ≤ iζ := (nI_leI (a := jζ) (b := iζ) (by omega) (by omega)).mp c_1
    refine lv_iload_n hx hb dX0_leastTake_41 rfl (lv_at hl 2 rfl) ?_
    exact r_iret hx hb hr hlk hS () (congrArg nI (by have := tk_le hjζ; omega)) (hP.sub [0, 1] rfl) (hD.sub [0, 1] (by decide) rfl) dX0_leastTake_42
  · have c_1 : ¬ jζ ≤ iζ := fun z => c_1 ((nI_leI (a := jζ) (b := iζ) (by omega) (by omega)).mpr z)
    refine lv_iload_n hx hb dX0_leastTake_7 rfl (lv_at hl 2 rfl) ?_
    refine lv_iload_n hx hb dX0_leastTake_8 rfl (lv_at hl 0 rfl) ?_
    refine lv_isub hx hb dX0_leastTake_9 ?_
    refine gtop (y := nI (jζ - iζ)) (pk_sub (a := jζ) (b := iζ) (by omega)) ?_
    refine lv_istore_n (lv' := [(3, .int (nI (jζ - iζ))), (2, .int (nI iζ)), (0, .ref hζ), (1, .int (nI jζ))]) hx hb dX0_leastTake_10 rfl hl (by decide) rfl (fun ls hl => ?_)
    refine lv_iload_n hx hb dX0_leastTake_11 rfl (lv_at hl 0 rfl) ?_
    refine lv_iconst (v := 1) hx hb dX0_leastTake_12 (by decide) ?_
    refine lv_bipush (v := 60) hx hb dX0_leastTake_13 (by decide) ?_
    refine gcPN (As := [.int (nI (jζ - iζ)), .int 1, .int 60]) (rest := []) F (c_X6_within l (nI (jζ - iζ)) 1 60) gX0_leastTake_X6_within_n34 kX6_within (hts (.initialized RX6) (by decide +kernel)) (hN.get 17 rfl) (hts (.static yX6_within) (by decide +kernel)) rfl rfl rfl ⟨(Nat.le_of_ble_eq_true rfl), (Nat.le_of_ble_eq_true rfl)⟩ rfl rfl hl.1 (Nat.le_of_ble_eq_true rfl) dX0_leastTake_15 ⟨(Nat.le_of_ble_eq_true rfl), (Nat.le_of_ble_eq_true rfl)⟩ ?_
    refine lv_if_eq (tgt := 35) hx hb dX0_leastTake_18 (by decide) (fun c_2 => ?_) (fun c_2 => ?_)
    · exact absurd (bI_0 c_2) (by rw [inB_in1 (N := 61) (by decide) (by omega) (by omega)]; decide)
    · have c_2 : inB (nI (jζ - iζ)) 1 60 = true := bI_1 c_2
      refine lv_aload_n hx hb dX0_leastTake_21 rfl (lv_at hl 2 rfl) ?_
      refine va_get (D := g.1) (ci := 0) (v := .ref (Gζ 2)) (C := RX0) (T := TX0) (N := 3) hx hb hts hi0 hown hK hP 0 rfl rfl 2 (by decide) (hts (.fieldLink RX0 18 "PanTales$Chances" "takes" "[I") (by decide +kernel)) (fun _ h9 => h9) rfl dX0_leastTake_22 ?_
      refine lv_iload_n hx hb dX0_leastTake_25 rfl (lv_at hl 0 rfl) ?_
      refine r_iald (v := nI (tkN (jζ - iζ))) hx hb hK hP 1 rfl (vp_in_nI (n := jζ - iζ) (by omega) (by omega)) ((congrArg fζ (nI_clamp (n := jζ - iζ) (by omega))).trans (hfζ _ (by omega) (by omega))) dX0_leastTake_26 ?_
      refine lv_iconst (v := 2) hx hb dX0_leastTake_27 (by decide) ?_
      refine lv_iload_n hx hb dX0_leastTake_28 rfl (lv_at hl 1 rfl) ?_
      refine lv_imul hx hb dX0_leastTake_29 ?_
      refine gtop (y := nI (2 * iζ)) (pk_mul 2 iζ) ?_
      refine lv_icmp_le (tgt := 35) hx hb dX0_leastTake_30 (by decide) (fun c_3 => ?_) (fun c_3 => ?_)
      · have c_3 : (tkN (jζ - iζ)) ≤ (2 * iζ) := (nI_leI (a := (tkN (jζ - iζ))) (b := (2 * iζ)) (by have := tk_le (e := jζ - iζ) (by omega); omega) (by omega)).mp c_3
        refine lv_iinc (v := nI (iζ + 1)) (lv' := [(2, .int (nI (iζ + 1))), (3, .int (nI (jζ - iζ))), (0, .ref hζ), (1, .int (nI jζ))]) hx hb dX0_leastTake_35 hl (k := 1) rfl (nI_1 iζ) (by decide) rfl (fun ls hl => ?_)
        refine lv_goto (tgt := 2) hx hb dX0_leastTake_38 (by decide) ?_
        exact ih2 (iζ + 1) ⟨(by first | omega | (dsimp only; omega)), (by first | omega | (dsimp only; omega)), (by have q := tk_k hjζ h1iζ (by omega) hitζ; omega)⟩ (by first | omega | (dsimp only; omega)) _ _ _ (hP.sub [0, 1] rfl) (hD.sub [0, 1] (by decide) rfl) hS (lv_sub hl [0, 2, 3] rfl)
      · have c_3 : ¬ (tkN (jζ - iζ)) ≤ (2 * iζ) := fun z => c_3 ((nI_leI (a := (tkN (jζ - iζ))) (b := (2 * iζ)) (by have := tk_le (e := jζ - iζ) (by omega); omega) (by omega)).mpr z)
        refine lv_iload_n hx hb dX0_leastTake_33 rfl (lv_at hl 1 rfl) ?_
        exact r_iret hx hb hr hlk hS () (congrArg nI ((tk_k hjζ h1iζ (by omega) hitζ).mp (by omega))) (hP.sub [0, 1] rfl) (hD.sub [0, 1] (by decide) rfl) dX0_leastTake_34
set_option maxHeartbeats 4000000 in
set_option maxRecDepth 100000 in
theorem c_X0_firstTake (l : Launch) (g : GT) (sz : Nat) (hζ : Nat) (Gζ : Nat → Nat) (nζ : Nat) (hn1ζ : 1 ≤ nζ) (hnζ : nζ ≤ 60) : Ci l yX0_firstTake wsX0_firstTake { frames := 2, cells := 0, slots := 0, locals := 45 } g sz [.ref hζ, .int (nI nζ)] [(hζ, .inr (0, [.ref (Gζ 0), .ref (Gζ 1), .ref (Gζ 2)])), aI g (Gζ 2) 61 (fun _ => 0)] (emF nζ 1) [] := by
  refine gMet_i (cc := cX0_firstTake) (maxL := 3) (ret := (some .int)) (by decide) rfl (Nat.le_of_ble_eq_true rfl) ?_
  intro p e s m args below meth c Z hx hb hr F hlk hnm hK hN hA H locs hP hD hS ls hl
  have hl : lv_has ls 3 [(0, .ref hζ), (1, .int (nI nζ))] := hl
  have F : CallFix p m c cX0_firstTake 3 s args wsX0_firstTake RX0 := F
  have hts := F.2.2.2.2
  have hown : s.vm.findClass RX0 = some m.cls := F.2.2.2.1
  have hi0 : ∀ w ∈ u_ws RX0 TX0 3, w ∈ wsX0_firstTake := by decide +kernel
  refine lv_iload_n hx hb dX0_firstTake_0 rfl (lv_at hl 1 rfl) ?_
  refine lv_iconst (v := 1) hx hb dX0_firstTake_1 (by decide) ?_
  refine lv_bipush (v := 60) hx hb dX0_firstTake_2 (by decide) ?_
  refine gcPN (As := [.int (nI nζ), .int 1, .int 60]) (rest := []) F (c_X6_within l (nI nζ) 1 60) gX0_firstTake_X6_within_n34 kX6_within (hts (.initialized RX6) (by decide +kernel)) (hN.get 17 rfl) (hts (.static yX6_within) (by decide +kernel)) rfl rfl rfl ⟨(Nat.le_of_ble_eq_true rfl), (Nat.le_of_ble_eq_true rfl)⟩ rfl rfl hl.1 (Nat.le_of_ble_eq_true rfl) dX0_firstTake_4 ⟨(Nat.le_of_ble_eq_true rfl), (Nat.le_of_ble_eq_true rfl)⟩ ?_
  refine lv_if_ne (tgt := 13) hx hb dX0_firstTake_7 (by decide) (fun c_1 => ?_) (fun c_1 => ?_)
  · have c_1 : inB (nI nζ) 1 60 = true := bI_1 c_1
    refine lv_iconst (v := 1) hx hb dX0_firstTake_13 (by decide) ?_
    refine lv_istore_n (lv' := [(2, .int 1), (0, .ref hζ), (1, .int (nI nζ))]) hx hb dX0_firstTake_14 rfl hl (by decide) rfl (fun ls hl => ?_)
    obtain ⟨hP, hD⟩ := r_extI hP hD 1 rfl (f' := fF (fun _ => 0) tkV 1) tk_0
    have hP : va_P g.1 vwCl [(hζ, .inr (0, [.ref (Gζ 0), .ref (Gζ 1), .ref (Gζ 2)])), aI g (Gζ 2) 61 (fF (fun _ => 0) tkV 1)] H := hP
    have hD : va_D Z [(hζ, .inr (0, [.ref (Gζ 0), .ref (Gζ 1), .ref (Gζ 2)])), aI g (Gζ 2) 61 (fF (fun _ => 0) tkV 1)] := hD
    refine gloop (σ := Nat) (fun u0 => nζ + 1 - u0) (fun u0 => 1 ≤ u0 ∧ u0 ≤ nζ + 1) (fun u0 => [(hζ, .inr (0, [.ref (Gζ 0), .ref (Gζ 1), .ref (Gζ 2)])), aI g (Gζ 2) 61 (fF (fun _ => 0) tkV u0)]) (fun u0 => [(2, .int (nI u0)), (0, .ref hζ), (1, .int (nI nζ))]) ?_ 1 ⟨(by first | omega | decide | rfl), (by first | omega | decide | rfl)⟩ (hP.sub [0, 1] rfl) (hD.sub [0, 1] (by decide) rfl) hS (lv_sub hl [0, 1, 2] rfl)
    rintro iζ ⟨h1iζ, hiζ⟩ ih15 H locs ls hP hD hS hl
    have h1iζ : 1 ≤ iζ := h1iζ
    have hiζ : iζ ≤ nζ + 1 := hiζ
    have hP : va_P g.1 vwCl [(hζ, .inr (0, [.ref (Gζ 0), .ref (Gζ 1), .ref (Gζ 2)])), aI g (Gζ 2) 61 (fF (fun _ => 0) tkV iζ)] H := hP
    have hD : va_D Z [(hζ, .inr (0, [.ref (Gζ 0), .ref (Gζ 1), .ref (Gζ 2)])), aI g (Gζ 2) 61 (fF (fun _ => 0) tkV iζ)] := hD
    have hl : lv_has ls 3 [(2, .int (nI iζ)), (0, .ref hζ), (1, .int (nI nζ))] := hl
    refine lv_iload_n hx hb dX0_firstTake_15 rfl (lv_at hl 0 rfl) ?_
    refine lv_iload_n hx hb dX0_firstTake_16 rfl (lv_at hl 2 rfl) ?_
    refine lv_icmp_gt (tgt := 37) hx hb dX0_firstTake_17 (by decide) (fun c_2 => ?_) (fun c_2 => ?_)
    · have c_2 : nζ < iζ := (nI_ltI (a := nζ) (b := iζ) (by omega) (by omega)).mp c_2
      refine lv_aload_n hx hb dX0_firstTake_37 rfl (lv_at hl 1 rfl) ?_
      refine va_get (D := g.1) (ci := 0) (v := .ref (Gζ 2)) (C := RX0) (T := TX0) (N := 3) hx hb hts hi0 hown hK hP 0 rfl rfl 2 (by decide) (hts (.fieldLink RX0 18 "PanTales$Chances" "takes" "[I") (by decide +kernel)) (fun _ h9 => h9) rfl dX0_firstTake_38 ?_
      refine lv_iload_n hx hb dX0_firstTake_41 rfl (lv_at hl 2 rfl) ?_
      refine r_iald (v := nI (tkN nζ)) hx hb hK hP 1 rfl (vp_in_nI (n := nζ) (by omega) (by omega)) ((congrArg (fF (fun _ => 0) tkV iζ) (nI_clamp (n := nζ) (by omega))).trans (fF_n nζ (by omega))) dX0_firstTake_42 ?_
      refine lv_iload_n hx hb dX0_firstTake_43 rfl (lv_at hl 2 rfl) ?_
      refine lv_icmp_ge (tgt := 56) hx hb dX0_firstTake_44 (by decide) (fun c_3 => ?_) (fun c_3 => ?_)
      · have c_3 : nζ ≤ (tkN nζ) := (nI_leI (a := nζ) (b := (tkN nζ)) (by omega) (by have := tk_le hnζ; omega)).mp c_3
        refine lv_bipush (v := (-6)) hx hb dX0_firstTake_56 (by decide) ?_
        exact r_iret hx hb hr hlk hS () (by unfold emF; rw [if_pos rfl, if_neg (by omega)]) (hP.sub [] rfl) (hD.sub [] (by decide) rfl) dX0_firstTake_58
      · have c_3 : ¬ nζ ≤ (tkN nζ) := fun z => c_3 ((nI_leI (a := nζ) (b := (tkN nζ)) (by omega) (by have := tk_le hnζ; omega)).mpr z)
        refine lv_aload_n hx hb dX0_firstTake_47 rfl (lv_at hl 1 rfl) ?_
        refine va_get (D := g.1) (ci := 0) (v := .ref (Gζ 2)) (C := RX0) (T := TX0) (N := 3) hx hb hts hi0 hown hK hP 0 rfl rfl 2 (by decide) (hts (.fieldLink RX0 18 "PanTales$Chances" "takes" "[I") (by decide +kernel)) (fun _ h9 => h9) rfl dX0_firstTake_48 ?_
        refine lv_iload_n hx hb dX0_firstTake_51 rfl (lv_at hl 2 rfl) ?_
        refine r_iald (v := nI (tkN nζ)) hx hb hK hP 1 rfl (vp_in_nI (n := nζ) (by omega) (by omega)) ((congrArg (fF (fun _ => 0) tkV iζ) (nI_clamp (n := nζ) (by omega))).trans (fF_n nζ (by omega))) dX0_firstTake_52 ?_
        refine lv_goto (tgt := 58) hx hb dX0_firstTake_53 (by decide) ?_
        exact r_iret hx hb hr hlk hS () (by unfold emF; rw [if_pos rfl, if_pos (by omega)]) (hP.sub [] rfl) (hD.sub [] (by decide) rfl) dX0_firstTake_58
    · have c_2 : ¬ nζ < iζ := fun z => c_2 ((nI_ltI (a := nζ) (b := iζ) (by omega) (by omega)).mpr z)
      refine lv_aload_n hx hb dX0_firstTake_20 rfl (lv_at hl 1 rfl) ?_
      refine va_get (D := g.1) (ci := 0) (v := .ref (Gζ 2)) (C := RX0) (T := TX0) (N := 3) hx hb hts hi0 hown hK hP 0 rfl rfl 2 (by decide) (hts (.fieldLink RX0 18 "PanTales$Chances" "takes" "[I") (by decide +kernel)) (fun _ h9 => h9) rfl dX0_firstTake_21 ?_
      refine lv_iload_n hx hb dX0_firstTake_24 rfl (lv_at hl 0 rfl) ?_
      refine lv_aload_n hx hb dX0_firstTake_25 rfl (lv_at hl 1 rfl) ?_
      refine lv_iload_n hx hb dX0_firstTake_26 rfl (lv_at hl 0 rfl) ?_
      refine gcV_i (As := [.int (nI iζ)]) (rest := [.int (nI iζ), .ref (Gζ 2)]) (ci := 0) (q := (RX0, TX0, 3)) F hK hN hP hD hS hA (c_X0_leastTake l g H.size hζ Gζ (fF (fun _ => 0) tkV iζ) iζ (by omega) (by omega) (fun z hz1 hz2 => fF_n z hz2)) gX0_firstTake_X0_leastTake kX0_leastTake rfl rfl rfl rfl ⟨(Nat.le_of_ble_eq_true rfl), (Nat.le_of_ble_eq_true rfl)⟩ [0, 1] [] rfl rfl rfl (by decide) rfl rfl rfl rfl rfl hl.1 (Nat.le_of_ble_eq_true rfl) dX0_firstTake_27 ⟨(Nat.le_of_ble_eq_true rfl), (Nat.le_of_ble_eq_true rfl)⟩ (fun r_w u_w H locs hw hP hD hS => ?_)
      have hP : va_P g.1 vwCl [(hζ, .inr (0, [.ref (Gζ 0), .ref (Gζ 1), .ref (Gζ 2)])), aI g (Gζ 2) 61 (fF (fun _ => 0) tkV iζ)] H := hP
      have hD : va_D Z [(hζ, .inr (0, [.ref (Gζ 0), .ref (Gζ 1), .ref (Gζ 2)])), aI g (Gζ 2) 61 (fF (fun _ => 0) tkV iζ)] := hD
      obtain rfl := hw
      refine r_iast (f' := fF (fun _ => 0) tkV (iζ + 1)) hx hb hK hP hD hS 1 rfl (vp_in_nI (n := iζ) (by omega) (by omega)) (fF_s (nI_clamp (n := iζ) (by omega)) rfl) dX0_firstTake_30 (fun H locs hP hD hS => ?_)
      have hP : va_P g.1 vwCl [(hζ, .inr (0, [.ref (Gζ 0), .ref (Gζ 1), .ref (Gζ 2)])), aI g (Gζ 2) 61 (fF (fun _ => 0) tkV (iζ + 1))] H := hP
      have hD : va_D Z [(hζ, .inr (0, [.ref (Gζ 0), .ref (Gζ 1), .ref (Gζ 2)])), aI g (Gζ 2) 61 (fF (fun _ => 0) tkV (iζ + 1))] := hD
      refine lv_iinc (v := nI (iζ + 1)) (lv' := [(2, .int (nI (iζ + 1))), (0, .ref hζ), (1, .int (nI nζ))]) hx hb dX0_firstTake_31 hl (k := 0) rfl (nI_1 iζ) (by decide) rfl (fun ls hl => ?_)
      refine lv_goto (tgt := 15) hx hb dX0_firstTake_34 (by decide) ?_
      exact ih15 (iζ + 1) ⟨(by first | omega | (dsimp only; omega)), (by first | omega | (dsimp only; omega))⟩ (by first | omega | (dsimp only; omega)) _ _ _ (hP.sub [0, 1] rfl) (hD.sub [0, 1] (by decide) rfl) hS (lv_sub hl [0, 1, 2] rfl)
  · exact absurd c_1 (by rw [inB_in1 (N := 61) (by decide) (by omega) (by omega)]; decide)

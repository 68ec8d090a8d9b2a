theorem kX1_longBetween : YOk yX1_longBetween 2 := by decide +kernel
theorem kX1_doubtOf : YOk yX1_doubtOf 1 := by decide +kernel
theorem kX1_beliefOf : YOk yX1_beliefOf 1 := by decide +kernel
theorem kX1_fadesInto : YOk yX1_fadesInto 1 := by decide +kernel
theorem kX1_isDamp : YOk yX1_isDamp 1 := by decide +kernel
theorem kX1_layRoad : YOk yX1_layRoad 3 := by decide +kernel
theorem kX1_furnish : YOk yX1_furnish 3 := by decide +kernel
theorem kX1_convince : YOk yX1_convince 2 := by decide +kernel
theorem kX1_letFade : YOk yX1_letFade 2 := by decide +kernel
set_option maxHeartbeats 4000000 in
set_option maxRecDepth 100000 in
theorem c_X1_longBetween (l : Launch) (g : GT) (sz : Nat) (hζ : Nat) (Aζ : Nat → Nat) (Iζ : Nat → Int32) (f0ζ : Nat → Int32) (iζ jζ : Nat) (hiζ : iζ < 11) (hjζ : jζ < 11) : Ci l yX1_longBetween wsX1_longBetween { frames := 1, cells := 0, slots := 0, locals := 20 } g sz [.ref hζ, .int (nI iζ), .int (nI jζ)] [(hζ, .inr (1, oC Aζ Iζ)), aI g (Aζ 0) 121 f0ζ] (f0ζ (iζ * 11 + jζ)) [(hζ, .inr (1, oC Aζ Iζ)), aI g (Aζ 0) 121 f0ζ] := by
  refine gMet_i (cc := cX1_longBetween) (maxL := 3) (ret := (some .int)) (by decide) rfl (Nat.le_of_ble_eq_true rfl) ?_
  intro p e s m args below meth c Z hx hb hr F hlk hnm hK hN hA H locs hP hD hS ls hl
  have hl : lv_has ls 3 [(0, .ref hζ), (1, .int (nI iζ)), (2, .int (nI jζ))] := hl
  have F : CallFix p m c cX1_longBetween 3 s args wsX1_longBetween RX1 := F
  have hts := F.2.2.2.2
  have hown : s.vm.findClass RX1 = some m.cls := F.2.2.2.1
  have hi1 : ∀ w ∈ u_ws RX1 TX1 12, w ∈ wsX1_longBetween := by decide +kernel
  refine lv_iload_n hx hb dX1_longBetween_0 rfl (lv_at hl 1 rfl) ?_
  refine gcPN (As := [.int (nI iζ)]) (rest := []) F (c_X6_isPlace l (nI iζ)) gX1_longBetween_X6_isPlace_n61 kX6_isPlace (hts (.initialized RX6) (by decide +kernel)) (hN.get 5 rfl) (hts (.static yX6_isPlace) (by decide +kernel)) rfl rfl rfl ⟨(Nat.le_of_ble_eq_true rfl), (Nat.le_of_ble_eq_true rfl)⟩ rfl rfl hl.1 (Nat.le_of_ble_eq_true rfl) dX1_longBetween_1 ⟨(Nat.le_of_ble_eq_true rfl), (Nat.le_of_ble_eq_true rfl)⟩ ?_
  refine lv_if_eq (tgt := 28) hx hb dX1_longBetween_4 (by decide) (fun c_1 => ?_) (fun c_1 => ?_)
  · exact absurd (bI_0 c_1) (by rw [nI_pB hiζ]; decide)
  · have c_1 : inB (nI iζ) 0 10 = true := bI_1 c_1
    refine lv_iload_n hx hb dX1_longBetween_7 rfl (lv_at hl 2 rfl) ?_
    refine gcPN (As := [.int (nI jζ)]) (rest := []) F (c_X6_isPlace l (nI jζ)) gX1_longBetween_X6_isPlace_n61 kX6_isPlace (hts (.initialized RX6) (by decide +kernel)) (hN.get 5 rfl) (hts (.static yX6_isPlace) (by decide +kernel)) rfl rfl rfl ⟨(Nat.le_of_ble_eq_true rfl), (Nat.le_of_ble_eq_true rfl)⟩ rfl rfl hl.1 (Nat.le_of_ble_eq_true rfl) dX1_longBetween_8 ⟨(Nat.le_of_ble_eq_true rfl), (Nat.le_of_ble_eq_true rfl)⟩ ?_
    refine lv_if_eq (tgt := 28) hx hb dX1_longBetween_11 (by decide) (fun c_2 => ?_) (fun c_2 => ?_)
    · exact absurd (bI_0 c_2) (by rw [nI_pB hjζ]; decide)
    · have c_2 : inB (nI jζ) 0 10 = true := bI_1 c_2
      refine lv_aload_n hx hb dX1_longBetween_14 rfl (lv_at hl 0 rfl) ?_
      refine va_get (D := g.1) (ci := 1) (v := .ref (Aζ 0)) (C := RX1) (T := TX1) (N := 12) hx hb hts hi1 hown hK hP 0 rfl rfl 0 (by decide) (hts (.fieldLink RX1 9 "PanTales$Close" "roads" "[I") (by decide +kernel)) (fun _ h9 => h9) rfl dX1_longBetween_15 ?_
      refine lv_iload_n hx hb dX1_longBetween_18 rfl (lv_at hl 1 rfl) ?_
      refine lv_bipush (v := 11) hx hb dX1_longBetween_19 (by decide) ?_
      refine lv_imul hx hb dX1_longBetween_21 ?_
      refine gtop (y := nI (iζ * 11)) (pk_mul iζ 11) ?_
      refine lv_iload_n hx hb dX1_longBetween_22 rfl (lv_at hl 2 rfl) ?_
      refine lv_iadd hx hb dX1_longBetween_23 ?_
      refine gtop (y := nI ((iζ * 11) + jζ)) (nI_add (iζ * 11) jζ) ?_
      refine r_iald (v := f0ζ ((iζ * 11) + jζ)) hx hb hK hP 1 rfl (vp_in_nI (n := (iζ * 11) + jζ) (by omega) (by omega)) (congrArg f0ζ (nI_clamp (n := (iζ * 11) + jζ) (by omega))) dX1_longBetween_24 ?_
      refine lv_goto (tgt := 29) hx hb dX1_longBetween_25 (by decide) ?_
      exact r_iret hx hb hr hlk hS () rfl (hP.sub [0, 1] rfl) (hD.sub [0, 1] (by decide) rfl) dX1_longBetween_29
set_option maxHeartbeats 4000000 in
set_option maxRecDepth 100000 in
theorem c_X1_doubtOf (l : Launch) (g : GT) (sz : Nat) (hζ : Nat) (Aζ : Nat → Nat) (Iζ : Nat → Int32) (f1ζ : Nat → Int32) (jζ : Nat) (hjζ : jζ < 10) : Ci l yX1_doubtOf wsX1_doubtOf { frames := 1, cells := 0, slots := 0, locals := 20 } g sz [.ref hζ, .int (nI jζ)] [(hζ, .inr (1, oC Aζ Iζ)), aI g (Aζ 1) 10 f1ζ] (f1ζ jζ) [(hζ, .inr (1, oC Aζ Iζ)), aI g (Aζ 1) 10 f1ζ] := by
  refine gMet_i (cc := cX1_doubtOf) (maxL := 2) (ret := (some .int)) (by decide) rfl (Nat.le_of_ble_eq_true rfl) ?_
  intro p e s m args below meth c Z hx hb hr F hlk hnm hK hN hA H locs hP hD hS ls hl
  have hl : lv_has ls 2 [(0, .ref hζ), (1, .int (nI jζ))] := hl
  have F : CallFix p m c cX1_doubtOf 2 s args wsX1_doubtOf RX1 := F
  have hts := F.2.2.2.2
  have hown : s.vm.findClass RX1 = some m.cls := F.2.2.2.1
  have hi1 : ∀ w ∈ u_ws RX1 TX1 12, w ∈ wsX1_doubtOf := by decide +kernel
  refine lv_iload_n hx hb dX1_doubtOf_0 rfl (lv_at hl 1 rfl) ?_
  refine gcPN (As := [.int (nI jζ)]) (rest := []) F (c_X6_isHouse l (nI jζ)) gX1_doubtOf_X6_isHouse_n65 kX6_isHouse (hts (.initialized RX6) (by decide +kernel)) (hN.get 6 rfl) (hts (.static yX6_isHouse) (by decide +kernel)) rfl rfl rfl ⟨(Nat.le_of_ble_eq_true rfl), (Nat.le_of_ble_eq_true rfl)⟩ rfl rfl hl.1 (Nat.le_of_ble_eq_true rfl) dX1_doubtOf_1 ⟨(Nat.le_of_ble_eq_true rfl), (Nat.le_of_ble_eq_true rfl)⟩ ?_
  refine lv_if_eq (tgt := 16) hx hb dX1_doubtOf_4 (by decide) (fun c_1 => ?_) (fun c_1 => ?_)
  · exact absurd (bI_0 c_1) (by rw [nI_nB hjζ]; decide)
  · have c_1 : inB (nI jζ) 0 9 = true := bI_1 c_1
    refine lv_aload_n hx hb dX1_doubtOf_7 rfl (lv_at hl 0 rfl) ?_
    refine va_get (D := g.1) (ci := 1) (v := .ref (Aζ 1)) (C := RX1) (T := TX1) (N := 12) hx hb hts hi1 hown hK hP 0 rfl rfl 1 (by decide) (hts (.fieldLink RX1 15 "PanTales$Close" "doubts" "[I") (by decide +kernel)) (fun _ h9 => h9) rfl dX1_doubtOf_8 ?_
    refine lv_iload_n hx hb dX1_doubtOf_11 rfl (lv_at hl 1 rfl) ?_
    refine r_iald (v := f1ζ jζ) hx hb hK hP 1 rfl (vp_in_nI (n := jζ) (by omega) (by omega)) (congrArg f1ζ (nI_clamp (n := jζ) (by omega))) dX1_doubtOf_12 ?_
    refine lv_goto (tgt := 18) hx hb dX1_doubtOf_13 (by decide) ?_
    exact r_iret hx hb hr hlk hS () rfl (hP.sub [0, 1] rfl) (hD.sub [0, 1] (by decide) rfl) dX1_doubtOf_18
set_option maxHeartbeats 4000000 in
set_option maxRecDepth 100000 in
theorem c_X1_beliefOf (l : Launch) (g : GT) (sz : Nat) (hζ : Nat) (Aζ : Nat → Nat) (Iζ : Nat → Int32) (f3ζ : Nat → Int32) (jζ : Nat) (hjζ : jζ < 10) : Ci l yX1_beliefOf wsX1_beliefOf { frames := 1, cells := 0, slots := 0, locals := 20 } g sz [.ref hζ, .int (nI jζ)] [(hζ, .inr (1, oC Aζ Iζ)), aI g (Aζ 3) 10 f3ζ] (f3ζ jζ) [(hζ, .inr (1, oC Aζ Iζ)), aI g (Aζ 3) 10 f3ζ] := by
  refine gMet_i (cc := cX1_beliefOf) (maxL := 2) (ret := (some .int)) (by decide) rfl (Nat.le_of_ble_eq_true rfl) ?_
  intro p e s m args below meth c Z hx hb hr F hlk hnm hK hN hA H locs hP hD hS ls hl
  have hl : lv_has ls 2 [(0, .ref hζ), (1, .int (nI jζ))] := hl
  have F : CallFix p m c cX1_beliefOf 2 s args wsX1_beliefOf RX1 := F
  have hts := F.2.2.2.2
  have hown : s.vm.findClass RX1 = some m.cls := F.2.2.2.1
  have hi1 : ∀ w ∈ u_ws RX1 TX1 12, w ∈ wsX1_beliefOf := by decide +kernel
  refine lv_iload_n hx hb dX1_beliefOf_0 rfl (lv_at hl 1 rfl) ?_
  refine gcPN (As := [.int (nI jζ)]) (rest := []) F (c_X6_isHouse l (nI jζ)) gX1_beliefOf_X6_isHouse_n65 kX6_isHouse (hts (.initialized RX6) (by decide +kernel)) (hN.get 6 rfl) (hts (.static yX6_isHouse) (by decide +kernel)) rfl rfl rfl ⟨(Nat.le_of_ble_eq_true rfl), (Nat.le_of_ble_eq_true rfl)⟩ rfl rfl hl.1 (Nat.le_of_ble_eq_true rfl) dX1_beliefOf_1 ⟨(Nat.le_of_ble_eq_true rfl), (Nat.le_of_ble_eq_true rfl)⟩ ?_
  refine lv_if_eq (tgt := 16) hx hb dX1_beliefOf_4 (by decide) (fun c_1 => ?_) (fun c_1 => ?_)
  · exact absurd (bI_0 c_1) (by rw [nI_nB hjζ]; decide)
  · have c_1 : inB (nI jζ) 0 9 = true := bI_1 c_1
    refine lv_aload_n hx hb dX1_beliefOf_7 rfl (lv_at hl 0 rfl) ?_
    refine va_get (D := g.1) (ci := 1) (v := .ref (Aζ 3)) (C := RX1) (T := TX1) (N := 12) hx hb hts hi1 hown hK hP 0 rfl rfl 3 (by decide) (hts (.fieldLink RX1 21 "PanTales$Close" "beliefs" "[I") (by decide +kernel)) (fun _ h9 => h9) rfl dX1_beliefOf_8 ?_
    refine lv_iload_n hx hb dX1_beliefOf_11 rfl (lv_at hl 1 rfl) ?_
    refine r_iald (v := f3ζ jζ) hx hb hK hP 1 rfl (vp_in_nI (n := jζ) (by omega) (by omega)) (congrArg f3ζ (nI_clamp (n := jζ) (by omega))) dX1_beliefOf_12 ?_
    refine lv_goto (tgt := 18) hx hb dX1_beliefOf_13 (by decide) ?_
    exact r_iret hx hb hr hlk hS () rfl (hP.sub [0, 1] rfl) (hD.sub [0, 1] (by decide) rfl) dX1_beliefOf_18
set_option maxHeartbeats 4000000 in
set_option maxRecDepth 100000 in
theorem c_X1_fadesInto (l : Launch) (g : GT) (sz : Nat) (hζ : Nat) (Aζ : Nat → Nat) (Iζ : Nat → Int32) (f4ζ : Nat → Int32) (xζ : Int32) : Ci l yX1_fadesInto wsX1_fadesInto { frames := 1, cells := 0, slots := 0, locals := 20 } g sz [.ref hζ, .int xζ] [(hζ, .inr (1, oC Aζ Iζ)), aI g (Aζ 4) 10 f4ζ] (fdF f4ζ xζ) [(hζ, .inr (1, oC Aζ Iζ)), aI g (Aζ 4) 10 f4ζ] := by
  refine gMet_i (cc := cX1_fadesInto) (maxL := 2) (ret := (some .int)) (by decide) rfl (Nat.le_of_ble_eq_true rfl) ?_
  intro p e s m args below meth c Z hx hb hr F hlk hnm hK hN hA H locs hP hD hS ls hl
  have hl : lv_has ls 2 [(0, .ref hζ), (1, .int xζ)] := hl
  have F : CallFix p m c cX1_fadesInto 2 s args wsX1_fadesInto RX1 := F
  have hts := F.2.2.2.2
  have hown : s.vm.findClass RX1 = some m.cls := F.2.2.2.1
  have hi1 : ∀ w ∈ u_ws RX1 TX1 12, w ∈ wsX1_fadesInto := by decide +kernel
  refine lv_iload_n hx hb dX1_fadesInto_0 rfl (lv_at hl 1 rfl) ?_
  refine gcPN (As := [.int xζ]) (rest := []) F (c_X6_isTale l xζ) gX1_fadesInto_X6_isTale_n86 kX6_isTale (hts (.initialized RX6) (by decide +kernel)) (hN.get 7 rfl) (hts (.static yX6_isTale) (by decide +kernel)) rfl rfl rfl ⟨(Nat.le_of_ble_eq_true rfl), (Nat.le_of_ble_eq_true rfl)⟩ rfl rfl hl.1 (Nat.le_of_ble_eq_true rfl) dX1_fadesInto_1 ⟨(Nat.le_of_ble_eq_true rfl), (Nat.le_of_ble_eq_true rfl)⟩ ?_
  refine lv_if_eq (tgt := 16) hx hb dX1_fadesInto_4 (by decide) (fun c_1 => ?_) (fun c_1 => ?_)
  · have c_1 : inB xζ 0 9 = false := bI_0 c_1
    refine lv_bipush (v := (-6)) hx hb dX1_fadesInto_16 (by decide) ?_
    exact r_iret hx hb hr hlk hS () (by unfold fdF; rw [if_neg (by rw [c_1]; decide)]) (hP.sub [0, 1] rfl) (hD.sub [0, 1] (by decide) rfl) dX1_fadesInto_18
  · have c_1 : inB xζ 0 9 = true := bI_1 c_1
    refine lv_aload_n hx hb dX1_fadesInto_7 rfl (lv_at hl 0 rfl) ?_
    refine va_get (D := g.1) (ci := 1) (v := .ref (Aζ 4)) (C := RX1) (T := TX1) (N := 12) hx hb hts hi1 hown hK hP 0 rfl rfl 4 (by decide) (hts (.fieldLink RX1 24 "PanTales$Close" "fadings" "[I") (by decide +kernel)) (fun _ h9 => h9) rfl dX1_fadesInto_8 ?_
    refine lv_iload_n hx hb dX1_fadesInto_11 rfl (lv_at hl 1 rfl) ?_
    refine r_iald (v := f4ζ xζ.toNatClampNeg) hx hb hK hP 1 rfl (by obtain ⟨j, hj, rfl⟩ := inB_nat (N := 10) (by decide) c_1; exact vp_in_nI hj (by omega)) rfl dX1_fadesInto_12 ?_
    refine lv_goto (tgt := 18) hx hb dX1_fadesInto_13 (by decide) ?_
    exact r_iret hx hb hr hlk hS () (by unfold fdF; rw [if_pos c_1]) (hP.sub [0, 1] rfl) (hD.sub [0, 1] (by decide) rfl) dX1_fadesInto_18
set_option maxHeartbeats 4000000 in
set_option maxRecDepth 100000 in
theorem c_X1_isDamp (l : Launch) (g : GT) (sz : Nat) (hζ : Nat) (Aζ : Nat → Nat) (Iζ : Nat → Int32) (f2ζ : Nat → Int32) (jζ : Nat) (hjζ : jζ < 10) : Ci l yX1_isDamp wsX1_isDamp { frames := 1, cells := 0, slots := 0, locals := 20 } g sz [.ref hζ, .int (nI jζ)] [(hζ, .inr (1, oC Aζ Iζ)), aI g (Aζ 2) 10 f2ζ] (bI (decide (f2ζ jζ = 1))) [(hζ, .inr (1, oC Aζ Iζ)), aI g (Aζ 2) 10 f2ζ] := by
  refine gMet_i (cc := cX1_isDamp) (maxL := 2) (ret := (some .boolean)) (by decide) rfl (Nat.le_of_ble_eq_true rfl) ?_
  intro p e s m args below meth c Z hx hb hr F hlk hnm hK hN hA H locs hP hD hS ls hl
  have hl : lv_has ls 2 [(0, .ref hζ), (1, .int (nI jζ))] := hl
  have F : CallFix p m c cX1_isDamp 2 s args wsX1_isDamp RX1 := F
  have hts := F.2.2.2.2
  have hown : s.vm.findClass RX1 = some m.cls := F.2.2.2.1
  have hi1 : ∀ w ∈ u_ws RX1 TX1 12, w ∈ wsX1_isDamp := by decide +kernel
  refine lv_iload_n hx hb dX1_isDamp_0 rfl (lv_at hl 1 rfl) ?_
  refine gcPN (As := [.int (nI jζ)]) (rest := []) F (c_X6_isHouse l (nI jζ)) gX1_isDamp_X6_isHouse_n65 kX6_isHouse (hts (.initialized RX6) (by decide +kernel)) (hN.get 6 rfl) (hts (.static yX6_isHouse) (by decide +kernel)) rfl rfl rfl ⟨(Nat.le_of_ble_eq_true rfl), (Nat.le_of_ble_eq_true rfl)⟩ rfl rfl hl.1 (Nat.le_of_ble_eq_true rfl) dX1_isDamp_1 ⟨(Nat.le_of_ble_eq_true rfl), (Nat.le_of_ble_eq_true rfl)⟩ ?_
  refine lv_if_eq (tgt := 21) hx hb dX1_isDamp_4 (by decide) (fun c_1 => ?_) (fun c_1 => ?_)
  · exact absurd (bI_0 c_1) (by rw [nI_nB hjζ]; decide)
  · have c_1 : inB (nI jζ) 0 9 = true := bI_1 c_1
    refine lv_aload_n hx hb dX1_isDamp_7 rfl (lv_at hl 0 rfl) ?_
    refine va_get (D := g.1) (ci := 1) (v := .ref (Aζ 2)) (C := RX1) (T := TX1) (N := 12) hx hb hts hi1 hown hK hP 0 rfl rfl 2 (by decide) (hts (.fieldLink RX1 18 "PanTales$Close" "damps" "[I") (by decide +kernel)) (fun _ h9 => h9) rfl dX1_isDamp_8 ?_
    refine lv_iload_n hx hb dX1_isDamp_11 rfl (lv_at hl 1 rfl) ?_
    refine r_iald (v := f2ζ jζ) hx hb hK hP 1 rfl (vp_in_nI (n := jζ) (by omega) (by omega)) (congrArg f2ζ (nI_clamp (n := jζ) (by omega))) dX1_isDamp_12 ?_
    refine lv_iconst (v := 1) hx hb dX1_isDamp_13 (by decide) ?_
    refine lv_icmp_ne (tgt := 21) hx hb dX1_isDamp_14 (by decide) (fun c_2 => ?_) (fun c_2 => ?_)
    · refine lv_iconst (v := 0) hx hb dX1_isDamp_21 (by decide) ?_
      exact r_zret hx hb hr hlk hS () (by decide) (dI_f c_2) (hP.sub [0, 1] rfl) (hD.sub [0, 1] (by decide) rfl) dX1_isDamp_22
    · refine lv_iconst (v := 1) hx hb dX1_isDamp_17 (by decide) ?_
      refine lv_goto (tgt := 22) hx hb dX1_isDamp_18 (by decide) ?_
      exact r_zret hx hb hr hlk hS () (by decide) (dI_t c_2) (hP.sub [0, 1] rfl) (hD.sub [0, 1] (by decide) rfl) dX1_isDamp_22
set_option maxHeartbeats 4000000 in
set_option maxRecDepth 100000 in
theorem c_X1_layRoad (l : Launch) (g : GT) (sz : Nat) (hζ : Nat) (Aζ : Nat → Nat) (Iζ : Nat → Int32) (f0ζ : Nat → Int32) (iζ jζ : Nat) (xζ : Int32) (hiζ : iζ < 11) (hjζ : jζ < 11) : Cv l yX1_layRoad wsX1_layRoad { frames := 1, cells := 0, slots := 0, locals := 20 } g sz [.ref hζ, .int (nI iζ), .int (nI jζ), .int xζ] [(hζ, .inr (1, oC Aζ Iζ)), aI g (Aζ 0) 121 f0ζ] [] := by
  refine gMet_v (cc := cX1_layRoad) (maxL := 4) (ret := none) (by decide) rfl (Nat.le_of_ble_eq_true rfl) ?_
  intro p e s m args below meth c Z hx hb hr F hlk hnm hK hN hA H locs hP hD hS ls hl
  have hl : lv_has ls 4 [(0, .ref hζ), (1, .int (nI iζ)), (2, .int (nI jζ)), (3, .int xζ)] := hl
  have F : CallFix p m c cX1_layRoad 4 s args wsX1_layRoad RX1 := F
  have hts := F.2.2.2.2
  have hown : s.vm.findClass RX1 = some m.cls := F.2.2.2.1
  have hi1 : ∀ w ∈ u_ws RX1 TX1 12, w ∈ wsX1_layRoad := by decide +kernel
  refine lv_iload_n hx hb dX1_layRoad_0 rfl (lv_at hl 1 rfl) ?_
  refine gcPN (As := [.int (nI iζ)]) (rest := []) F (c_X6_isPlace l (nI iζ)) gX1_layRoad_X6_isPlace_n61 kX6_isPlace (hts (.initialized RX6) (by decide +kernel)) (hN.get 5 rfl) (hts (.static yX6_isPlace) (by decide +kernel)) rfl rfl rfl ⟨(Nat.le_of_ble_eq_true rfl), (Nat.le_of_ble_eq_true rfl)⟩ rfl rfl hl.1 (Nat.le_of_ble_eq_true rfl) dX1_layRoad_1 ⟨(Nat.le_of_ble_eq_true rfl), (Nat.le_of_ble_eq_true rfl)⟩ ?_
  refine lv_if_eq (tgt := 38) hx hb dX1_layRoad_4 (by decide) (fun c_1 => ?_) (fun c_1 => ?_)
  · exact absurd (bI_0 c_1) (by rw [nI_pB hiζ]; decide)
  · have c_1 : inB (nI iζ) 0 10 = true := bI_1 c_1
    refine lv_iload_n hx hb dX1_layRoad_7 rfl (lv_at hl 2 rfl) ?_
    refine gcPN (As := [.int (nI jζ)]) (rest := []) F (c_X6_isPlace l (nI jζ)) gX1_layRoad_X6_isPlace_n61 kX6_isPlace (hts (.initialized RX6) (by decide +kernel)) (hN.get 5 rfl) (hts (.static yX6_isPlace) (by decide +kernel)) rfl rfl rfl ⟨(Nat.le_of_ble_eq_true rfl), (Nat.le_of_ble_eq_true rfl)⟩ rfl rfl hl.1 (Nat.le_of_ble_eq_true rfl) dX1_layRoad_8 ⟨(Nat.le_of_ble_eq_true rfl), (Nat.le_of_ble_eq_true rfl)⟩ ?_
    refine lv_if_eq (tgt := 38) hx hb dX1_layRoad_11 (by decide) (fun c_2 => ?_) (fun c_2 => ?_)
    · exact absurd (bI_0 c_2) (by rw [nI_pB hjζ]; decide)
    · have c_2 : inB (nI jζ) 0 10 = true := bI_1 c_2
      refine lv_aload_n hx hb dX1_layRoad_14 rfl (lv_at hl 0 rfl) ?_
      refine va_get (D := g.1) (ci := 1) (v := .ref (Aζ 0)) (C := RX1) (T := TX1) (N := 12) hx hb hts hi1 hown hK hP 0 rfl rfl 0 (by decide) (hts (.fieldLink RX1 9 "PanTales$Close" "roads" "[I") (by decide +kernel)) (fun _ h9 => h9) rfl dX1_layRoad_15 ?_
      refine lv_iload_n hx hb dX1_layRoad_18 rfl (lv_at hl 1 rfl) ?_
      refine lv_bipush (v := 11) hx hb dX1_layRoad_19 (by decide) ?_
      refine lv_imul hx hb dX1_layRoad_21 ?_
      refine gtop (y := nI (iζ * 11)) (pk_mul iζ 11) ?_
      refine lv_iload_n hx hb dX1_layRoad_22 rfl (lv_at hl 2 rfl) ?_
      refine lv_iadd hx hb dX1_layRoad_23 ?_
      refine gtop (y := nI ((iζ * 11) + jζ)) (nI_add (iζ * 11) jζ) ?_
      refine lv_iload_n hx hb dX1_layRoad_24 rfl (lv_at hl 3 rfl) ?_
      refine r_iast (f' := upd f0ζ ((iζ * 11) + jζ) xζ) hx hb hK hP hD hS 1 rfl (vp_in_nI (n := (iζ * 11) + jζ) (by omega) (by omega)) (fun k_u _ => congrArg (fun z_u => upd f0ζ z_u xζ k_u) (nI_clamp (n := (iζ * 11) + jζ) (by omega))) dX1_layRoad_25 (fun H locs hP hD hS => ?_)
      have hP : va_P g.1 vwCl [(hζ, .inr (1, oC Aζ Iζ)), aI g (Aζ 0) 121 (upd f0ζ ((iζ * 11) + jζ) xζ)] H := hP
      have hD : va_D Z [(hζ, .inr (1, oC Aζ Iζ)), aI g (Aζ 0) 121 (upd f0ζ ((iζ * 11) + jζ) xζ)] := hD
      refine lv_aload_n hx hb dX1_layRoad_26 rfl (lv_at hl 0 rfl) ?_
      refine va_get (D := g.1) (ci := 1) (v := .ref (Aζ 0)) (C := RX1) (T := TX1) (N := 12) hx hb hts hi1 hown hK hP 0 rfl rfl 0 (by decide) (hts (.fieldLink RX1 9 "PanTales$Close" "roads" "[I") (by decide +kernel)) (fun _ h9 => h9) rfl dX1_layRoad_27 ?_
      refine lv_iload_n hx hb dX1_layRoad_30 rfl (lv_at hl 2 rfl) ?_
      refine lv_bipush (v := 11) hx hb dX1_layRoad_31 (by decide) ?_
      refine lv_imul hx hb dX1_layRoad_33 ?_
      refine gtop (y := nI (jζ * 11)) (pk_mul jζ 11) ?_
      refine lv_iload_n hx hb dX1_layRoad_34 rfl (lv_at hl 1 rfl) ?_
      refine lv_iadd hx hb dX1_layRoad_35 ?_
      refine gtop (y := nI ((jζ * 11) + iζ)) (nI_add (jζ * 11) iζ) ?_
      refine lv_iload_n hx hb dX1_layRoad_36 rfl (lv_at hl 3 rfl) ?_
      refine r_iast (f' := upd (upd f0ζ ((iζ * 11) + jζ) xζ) ((jζ * 11) + iζ) xζ) hx hb hK hP hD hS 1 rfl (vp_in_nI (n := (jζ * 11) + iζ) (by omega) (by omega)) (fun k_u _ => congrArg (fun z_u => upd (upd f0ζ ((iζ * 11) + jζ) xζ) z_u xζ k_u) (nI_clamp (n := (jζ * 11) + iζ) (by omega))) dX1_layRoad_37 (fun H locs hP hD hS => ?_)
      have hP : va_P g.1 vwCl [(hζ, .inr (1, oC Aζ Iζ)), aI g (Aζ 0) 121 (upd (upd f0ζ ((iζ * 11) + jζ) xζ) ((jζ * 11) + iζ) xζ)] H := hP
      have hD : va_D Z [(hζ, .inr (1, oC Aζ Iζ)), aI g (Aζ 0) 121 (upd (upd f0ζ ((iζ * 11) + jζ) xζ) ((jζ * 11) + iζ) xζ)] := hD
      exact r_vret hx hb hr hlk hS () trivial (hP.sub [] rfl) (hD.sub [] (by decide) rfl) dX1_layRoad_38
set_option maxHeartbeats 4000000 in
set_option maxRecDepth 100000 in
theorem c_X1_furnish (l : Launch) (g : GT) (sz : Nat) (hζ : Nat) (Aζ : Nat → Nat) (Iζ : Nat → Int32) (f1ζ f2ζ : Nat → Int32) (jζ : Nat) (xζ yζ : Int32) (hjζ : jζ < 10) : Cv l yX1_furnish wsX1_furnish { frames := 1, cells := 0, slots := 0, locals := 20 } g sz [.ref hζ, .int (nI jζ), .int xζ, .int yζ] [(hζ, .inr (1, oC Aζ Iζ)), aI g (Aζ 1) 10 f1ζ, aI g (Aζ 2) 10 f2ζ] [] := by
  refine gMet_v (cc := cX1_furnish) (maxL := 4) (ret := none) (by decide) rfl (Nat.le_of_ble_eq_true rfl) ?_
  intro p e s m args below meth c Z hx hb hr F hlk hnm hK hN hA H locs hP hD hS ls hl
  have hl : lv_has ls 4 [(0, .ref hζ), (1, .int (nI jζ)), (2, .int xζ), (3, .int yζ)] := hl
  have F : CallFix p m c cX1_furnish 4 s args wsX1_furnish RX1 := F
  have hts := F.2.2.2.2
  have hown : s.vm.findClass RX1 = some m.cls := F.2.2.2.1
  have hi1 : ∀ w ∈ u_ws RX1 TX1 12, w ∈ wsX1_furnish := by decide +kernel
  refine lv_iload_n hx hb dX1_furnish_0 rfl (lv_at hl 1 rfl) ?_
  refine gcPN (As := [.int (nI jζ)]) (rest := []) F (c_X6_isHouse l (nI jζ)) gX1_furnish_X6_isHouse_n65 kX6_isHouse (hts (.initialized RX6) (by decide +kernel)) (hN.get 6 rfl) (hts (.static yX6_isHouse) (by decide +kernel)) rfl rfl rfl ⟨(Nat.le_of_ble_eq_true rfl), (Nat.le_of_ble_eq_true rfl)⟩ rfl rfl hl.1 (Nat.le_of_ble_eq_true rfl) dX1_furnish_1 ⟨(Nat.le_of_ble_eq_true rfl), (Nat.le_of_ble_eq_true rfl)⟩ ?_
  refine lv_if_eq (tgt := 21) hx hb dX1_furnish_4 (by decide) (fun c_1 => ?_) (fun c_1 => ?_)
  · exact absurd (bI_0 c_1) (by rw [nI_nB hjζ]; decide)
  · have c_1 : inB (nI jζ) 0 9 = true := bI_1 c_1
    refine lv_aload_n hx hb dX1_furnish_7 rfl (lv_at hl 0 rfl) ?_
    refine va_get (D := g.1) (ci := 1) (v := .ref (Aζ 1)) (C := RX1) (T := TX1) (N := 12) hx hb hts hi1 hown hK hP 0 rfl rfl 1 (by decide) (hts (.fieldLink RX1 15 "PanTales$Close" "doubts" "[I") (by decide +kernel)) (fun _ h9 => h9) rfl dX1_furnish_8 ?_
    refine lv_iload_n hx hb dX1_furnish_11 rfl (lv_at hl 1 rfl) ?_
    refine lv_iload_n hx hb dX1_furnish_12 rfl (lv_at hl 2 rfl) ?_
    refine r_iast (f' := upd f1ζ jζ xζ) hx hb hK hP hD hS 1 rfl (vp_in_nI (n := jζ) (by omega) (by omega)) (fun k_u _ => congrArg (fun z_u => upd f1ζ z_u xζ k_u) (nI_clamp (n := jζ) (by omega))) dX1_furnish_13 (fun H locs hP hD hS => ?_)
    have hP : va_P g.1 vwCl [(hζ, .inr (1, oC Aζ Iζ)), aI g (Aζ 1) 10 (upd f1ζ jζ xζ), aI g (Aζ 2) 10 f2ζ] H := hP
    have hD : va_D Z [(hζ, .inr (1, oC Aζ Iζ)), aI g (Aζ 1) 10 (upd f1ζ jζ xζ), aI g (Aζ 2) 10 f2ζ] := hD
    refine lv_aload_n hx hb dX1_furnish_14 rfl (lv_at hl 0 rfl) ?_
    refine va_get (D := g.1) (ci := 1) (v := .ref (Aζ 2)) (C := RX1) (T := TX1) (N := 12) hx hb hts hi1 hown hK hP 0 rfl rfl 2 (by decide) (hts (.fieldLink RX1 18 "PanTales$Close" "damps" "[I") (by decide +kernel)) (fun _ h9 => h9) rfl dX1_furnish_15 ?_
    refine lv_iload_n hx hb dX1_furnish_18 rfl (lv_at hl 1 rfl) ?_
    refine lv_iload_n hx hb dX1_furnish_19 rfl (lv_at hl 3 rfl) ?_
    refine r_iast (f' := upd f2ζ jζ yζ) hx hb hK hP hD hS 2 rfl (vp_in_nI (n := jζ) (by omega) (by omega)) (fun k_u _ => congrArg (fun z_u => upd f2ζ z_u yζ k_u) (nI_clamp (n := jζ) (by omega))) dX1_furnish_20 (fun H locs hP hD hS => ?_)
    have hP : va_P g.1 vwCl [(hζ, .inr (1, oC Aζ Iζ)), aI g (Aζ 1) 10 (upd f1ζ jζ xζ), aI g (Aζ 2) 10 (upd f2ζ jζ yζ)] H := hP
    have hD : va_D Z [(hζ, .inr (1, oC Aζ Iζ)), aI g (Aζ 1) 10 (upd f1ζ jζ xζ), aI g (Aζ 2) 10 (upd f2ζ jζ yζ)] := hD
    exact r_vret hx hb hr hlk hS () trivial (hP.sub [] rfl) (hD.sub [] (by decide) rfl) dX1_furnish_21
set_option maxHeartbeats 4000000 in
set_option maxRecDepth 100000 in
theorem c_X1_convince (l : Launch) (g : GT) (sz : Nat) (hζ : Nat) (Aζ : Nat → Nat) (Iζ : Nat → Int32) (f3ζ : Nat → Int32) (jζ : Nat) (xζ : Int32) (hjζ : jζ < 10) : Cv l yX1_convince wsX1_convince { frames := 1, cells := 0, slots := 0, locals := 20 } g sz [.ref hζ, .int (nI jζ), .int xζ] [(hζ, .inr (1, oC Aζ Iζ)), aI g (Aζ 3) 10 f3ζ] [] := by
  refine gMet_v (cc := cX1_convince) (maxL := 3) (ret := none) (by decide) rfl (Nat.le_of_ble_eq_true rfl) ?_
  intro p e s m args below meth c Z hx hb hr F hlk hnm hK hN hA H locs hP hD hS ls hl
  have hl : lv_has ls 3 [(0, .ref hζ), (1, .int (nI jζ)), (2, .int xζ)] := hl
  have F : CallFix p m c cX1_convince 3 s args wsX1_convince RX1 := F
  have hts := F.2.2.2.2
  have hown : s.vm.findClass RX1 = some m.cls := F.2.2.2.1
  have hi1 : ∀ w ∈ u_ws RX1 TX1 12, w ∈ wsX1_convince := by decide +kernel
  refine lv_iload_n hx hb dX1_convince_0 rfl (lv_at hl 1 rfl) ?_
  refine gcPN (As := [.int (nI jζ)]) (rest := []) F (c_X6_isHouse l (nI jζ)) gX1_convince_X6_isHouse_n65 kX6_isHouse (hts (.initialized RX6) (by decide +kernel)) (hN.get 6 rfl) (hts (.static yX6_isHouse) (by decide +kernel)) rfl rfl rfl ⟨(Nat.le_of_ble_eq_true rfl), (Nat.le_of_ble_eq_true rfl)⟩ rfl rfl hl.1 (Nat.le_of_ble_eq_true rfl) dX1_convince_1 ⟨(Nat.le_of_ble_eq_true rfl), (Nat.le_of_ble_eq_true rfl)⟩ ?_
  refine lv_if_eq (tgt := 14) hx hb dX1_convince_4 (by decide) (fun c_1 => ?_) (fun c_1 => ?_)
  · exact absurd (bI_0 c_1) (by rw [nI_nB hjζ]; decide)
  · have c_1 : inB (nI jζ) 0 9 = true := bI_1 c_1
    refine lv_aload_n hx hb dX1_convince_7 rfl (lv_at hl 0 rfl) ?_
    refine va_get (D := g.1) (ci := 1) (v := .ref (Aζ 3)) (C := RX1) (T := TX1) (N := 12) hx hb hts hi1 hown hK hP 0 rfl rfl 3 (by decide) (hts (.fieldLink RX1 21 "PanTales$Close" "beliefs" "[I") (by decide +kernel)) (fun _ h9 => h9) rfl dX1_convince_8 ?_
    refine lv_iload_n hx hb dX1_convince_11 rfl (lv_at hl 1 rfl) ?_
    refine lv_iload_n hx hb dX1_convince_12 rfl (lv_at hl 2 rfl) ?_
    refine r_iast (f' := upd f3ζ jζ xζ) hx hb hK hP hD hS 1 rfl (vp_in_nI (n := jζ) (by omega) (by omega)) (fun k_u _ => congrArg (fun z_u => upd f3ζ z_u xζ k_u) (nI_clamp (n := jζ) (by omega))) dX1_convince_13 (fun H locs hP hD hS => ?_)
    have hP : va_P g.1 vwCl [(hζ, .inr (1, oC Aζ Iζ)), aI g (Aζ 3) 10 (upd f3ζ jζ xζ)] H := hP
    have hD : va_D Z [(hζ, .inr (1, oC Aζ Iζ)), aI g (Aζ 3) 10 (upd f3ζ jζ xζ)] := hD
    exact r_vret hx hb hr hlk hS () trivial (hP.sub [] rfl) (hD.sub [] (by decide) rfl) dX1_convince_14
set_option maxHeartbeats 4000000 in
set_option maxRecDepth 100000 in
theorem c_X1_letFade (l : Launch) (g : GT) (sz : Nat) (hζ : Nat) (Aζ : Nat → Nat) (Iζ : Nat → Int32) (f4ζ : Nat → Int32) (jζ : Nat) (xζ : Int32) (hjζ : jζ < 10) : Cv l yX1_letFade wsX1_letFade { frames := 1, cells := 0, slots := 0, locals := 20 } g sz [.ref hζ, .int (nI jζ), .int xζ] [(hζ, .inr (1, oC Aζ Iζ)), aI g (Aζ 4) 10 f4ζ] [] := by
  refine gMet_v (cc := cX1_letFade) (maxL := 3) (ret := none) (by decide) rfl (Nat.le_of_ble_eq_true rfl) ?_
  intro p e s m args below meth c Z hx hb hr F hlk hnm hK hN hA H locs hP hD hS ls hl
  have hl : lv_has ls 3 [(0, .ref hζ), (1, .int (nI jζ)), (2, .int xζ)] := hl
  have F : CallFix p m c cX1_letFade 3 s args wsX1_letFade RX1 := F
  have hts := F.2.2.2.2
  have hown : s.vm.findClass RX1 = some m.cls := F.2.2.2.1
  have hi1 : ∀ w ∈ u_ws RX1 TX1 12, w ∈ wsX1_letFade := by decide +kernel
  refine lv_iload_n hx hb dX1_letFade_0 rfl (lv_at hl 1 rfl) ?_
  refine gcPN (As := [.int (nI jζ)]) (rest := []) F (c_X6_isTale l (nI jζ)) gX1_letFade_X6_isTale_n86 kX6_isTale (hts (.initialized RX6) (by decide +kernel)) (hN.get 7 rfl) (hts (.static yX6_isTale) (by decide +kernel)) rfl rfl rfl ⟨(Nat.le_of_ble_eq_true rfl), (Nat.le_of_ble_eq_true rfl)⟩ rfl rfl hl.1 (Nat.le_of_ble_eq_true rfl) dX1_letFade_1 ⟨(Nat.le_of_ble_eq_true rfl), (Nat.le_of_ble_eq_true rfl)⟩ ?_
  refine lv_if_eq (tgt := 14) hx hb dX1_letFade_4 (by decide) (fun c_1 => ?_) (fun c_1 => ?_)
  · exact absurd (bI_0 c_1) (by rw [nI_nB hjζ]; decide)
  · have c_1 : inB (nI jζ) 0 9 = true := bI_1 c_1
    refine lv_aload_n hx hb dX1_letFade_7 rfl (lv_at hl 0 rfl) ?_
    refine va_get (D := g.1) (ci := 1) (v := .ref (Aζ 4)) (C := RX1) (T := TX1) (N := 12) hx hb hts hi1 hown hK hP 0 rfl rfl 4 (by decide) (hts (.fieldLink RX1 24 "PanTales$Close" "fadings" "[I") (by decide +kernel)) (fun _ h9 => h9) rfl dX1_letFade_8 ?_
    refine lv_iload_n hx hb dX1_letFade_11 rfl (lv_at hl 1 rfl) ?_
    refine lv_iload_n hx hb dX1_letFade_12 rfl (lv_at hl 2 rfl) ?_
    refine r_iast (f' := upd f4ζ jζ xζ) hx hb hK hP hD hS 1 rfl (vp_in_nI (n := jζ) (by omega) (by omega)) (fun k_u _ => congrArg (fun z_u => upd f4ζ z_u xζ k_u) (nI_clamp (n := jζ) (by omega))) dX1_letFade_13 (fun H locs hP hD hS => ?_)
    have hP : va_P g.1 vwCl [(hζ, .inr (1, oC Aζ Iζ)), aI g (Aζ 4) 10 (upd f4ζ jζ xζ)] H := hP
    have hD : va_D Z [(hζ, .inr (1, oC Aζ Iζ)), aI g (Aζ 4) 10 (upd f4ζ jζ xζ)] := hD
    exact r_vret hx hb hr hlk hS () trivial (hP.sub [] rfl) (hD.sub [] (by decide) rfl) dX1_letFade_14

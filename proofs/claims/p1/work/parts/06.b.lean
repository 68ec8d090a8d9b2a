theorem kX1_houseFact : YOk yX1_houseFact 2 := by decide +kernel
theorem kX1_panFact : YOk yX1_panFact 1 := by decide +kernel
theorem kX1_believersOf : YOk yX1_believersOf 1 := by decide +kernel
theorem kX1_believers : YOk yX1_believers 0 := by decide +kernel
theorem kX1_talesBelieved : YOk yX1_talesBelieved 0 := by decide +kernel
theorem kX1_allDoubt : YOk yX1_allDoubt 0 := by decide +kernel
set_option maxHeartbeats 4000000 in
set_option maxRecDepth 100000 in
theorem c_X1_houseFact (l : Launch) (g : GT) (sz : Nat) (hζ : Nat) (Aζ : Nat → Nat) (Iζ : Nat → Int32) (f1ζ f2ζ f3ζ : Nat → Int32) (jζ : Nat) (xζ : Int32) (hjζ : jζ < 10) : Ci l yX1_houseFact wsX1_houseFact { frames := 2, cells := 0, slots := 0, locals := 41 } g sz [.ref hζ, .int (nI jζ), .int xζ] [(hζ, .inr (1, oC Aζ Iζ)), aI g (Aζ 1) 10 f1ζ, aI g (Aζ 2) 10 f2ζ, aI g (Aζ 3) 10 f3ζ] (hfF f1ζ f2ζ f3ζ jζ xζ) [(hζ, .inr (1, oC Aζ Iζ)), aI g (Aζ 1) 10 f1ζ, aI g (Aζ 2) 10 f2ζ, aI g (Aζ 3) 10 f3ζ] := by
  refine gMet_i (cc := cX1_houseFact) (maxL := 3) (ret := (some .int)) (by decide) rfl (Nat.le_of_ble_eq_true rfl) ?_
  intro p e s m args below meth c Z hx hb hr F hlk hnm hK hN hA H locs hP hD hS ls hl
  have hl : lv_has ls 3 [(0, .ref hζ), (1, .int (nI jζ)), (2, .int xζ)] := hl
  have F : CallFix p m c cX1_houseFact 3 s args wsX1_houseFact RX1 := F
  have hts := F.2.2.2.2
  have hown : s.vm.findClass RX1 = some m.cls := F.2.2.2.1
  refine lv_iload_n hx hb dX1_houseFact_0 rfl (lv_at hl 2 rfl) ?_
  by_cases k_1 : xζ = 0
  · refine gtop (y := 0) k_1 ?_
    refine lv_lookup (tgt := 28) (off := 27) hx hb dX1_houseFact_1 (by decide) (by decide) (by decide) ?_
    refine lv_aload_n hx hb dX1_houseFact_28 rfl (lv_at hl 0 rfl) ?_
    refine lv_iload_n hx hb dX1_houseFact_29 rfl (lv_at hl 1 rfl) ?_
    refine gcV_i (As := [.int (nI jζ)]) (rest := []) (ci := 1) (q := (RX1, TX1, 12)) F hK hN hP hD hS hA (c_X1_beliefOf l g H.size hζ Aζ Iζ f3ζ jζ (by omega)) gX1_houseFact_X1_beliefOf kX1_beliefOf rfl rfl rfl rfl ⟨(Nat.le_of_ble_eq_true rfl), (Nat.le_of_ble_eq_true rfl)⟩ [0, 3] [1, 2] rfl rfl rfl (by decide) rfl rfl rfl rfl rfl hl.1 (Nat.le_of_ble_eq_true rfl) dX1_houseFact_30 ⟨(Nat.le_of_ble_eq_true rfl), (Nat.le_of_ble_eq_true rfl)⟩ (fun r_w u_w H locs hw hP hD hS => ?_)
    have hP : va_P g.1 vwCl [aI g (Aζ 1) 10 f1ζ, aI g (Aζ 2) 10 f2ζ, (hζ, .inr (1, oC Aζ Iζ)), aI g (Aζ 3) 10 f3ζ] H := hP
    have hD : va_D Z [aI g (Aζ 1) 10 f1ζ, aI g (Aζ 2) 10 f2ζ, (hζ, .inr (1, oC Aζ Iζ)), aI g (Aζ 3) 10 f3ζ] := hD
    obtain rfl := hw
    refine gtop (y := f3ζ jζ) rfl ?_
    exact r_iret hx hb hr hlk hS () (by unfold hfF; rw [if_pos k_1]) (hP.sub [2, 0, 1, 3] rfl) (hD.sub [2, 0, 1, 3] (by decide) rfl) dX1_houseFact_33
  by_cases k_2 : xζ = 1
  · refine gtop (y := 1) k_2 ?_
    refine lv_lookup (tgt := 34) (off := 33) hx hb dX1_houseFact_1 (by decide) (by decide) (by decide) ?_
    refine lv_aload_n hx hb dX1_houseFact_34 rfl (lv_at hl 0 rfl) ?_
    refine lv_iload_n hx hb dX1_houseFact_35 rfl (lv_at hl 1 rfl) ?_
    refine gcV_i (As := [.int (nI jζ)]) (rest := []) (ci := 1) (q := (RX1, TX1, 12)) F hK hN hP hD hS hA (c_X1_doubtOf l g H.size hζ Aζ Iζ f1ζ jζ (by omega)) gX1_houseFact_X1_doubtOf kX1_doubtOf rfl rfl rfl rfl ⟨(Nat.le_of_ble_eq_true rfl), (Nat.le_of_ble_eq_true rfl)⟩ [0, 1] [2, 3] rfl rfl rfl (by decide) rfl rfl rfl rfl rfl hl.1 (Nat.le_of_ble_eq_true rfl) dX1_houseFact_36 ⟨(Nat.le_of_ble_eq_true rfl), (Nat.le_of_ble_eq_true rfl)⟩ (fun r_w u_w H locs hw hP hD hS => ?_)
    have hP : va_P g.1 vwCl [aI g (Aζ 2) 10 f2ζ, aI g (Aζ 3) 10 f3ζ, (hζ, .inr (1, oC Aζ Iζ)), aI g (Aζ 1) 10 f1ζ] H := hP
    have hD : va_D Z [aI g (Aζ 2) 10 f2ζ, aI g (Aζ 3) 10 f3ζ, (hζ, .inr (1, oC Aζ Iζ)), aI g (Aζ 1) 10 f1ζ] := hD
    obtain rfl := hw
    refine gtop (y := f1ζ jζ) rfl ?_
    exact r_iret hx hb hr hlk hS () (by unfold hfF; rw [if_neg k_1, if_pos k_2]) (hP.sub [2, 3, 0, 1] rfl) (hD.sub [2, 3, 0, 1] (by decide) rfl) dX1_houseFact_39
  refine lv_lookup (tgt := 40) (off := 39) hx hb dX1_houseFact_1 (by decide) (by show (if (0 : Int) = (xζ : Int32).toInt then (27 : Int) else if (1 : Int) = (xζ : Int32).toInt then (33 : Int) else 39) = (39 : Int); rw [if_neg (sw_ne k_1 (by decide)), if_neg (sw_ne k_2 (by decide))]) (by decide) ?_
  refine lv_aload_n hx hb dX1_houseFact_40 rfl (lv_at hl 0 rfl) ?_
  refine lv_iload_n hx hb dX1_houseFact_41 rfl (lv_at hl 1 rfl) ?_
  refine gcV_i (As := [.int (nI jζ)]) (rest := []) (ci := 1) (q := (RX1, TX1, 12)) F hK hN hP hD hS hA (c_X1_isDamp l g H.size hζ Aζ Iζ f2ζ jζ (by omega)) gX1_houseFact_X1_isDamp kX1_isDamp rfl rfl rfl rfl ⟨(Nat.le_of_ble_eq_true rfl), (Nat.le_of_ble_eq_true rfl)⟩ [0, 2] [1, 3] rfl rfl rfl (by decide) rfl rfl rfl rfl rfl hl.1 (Nat.le_of_ble_eq_true rfl) dX1_houseFact_42 ⟨(Nat.le_of_ble_eq_true rfl), (Nat.le_of_ble_eq_true rfl)⟩ (fun r_w u_w H locs hw hP hD hS => ?_)
  have hP : va_P g.1 vwCl [aI g (Aζ 1) 10 f1ζ, aI g (Aζ 3) 10 f3ζ, (hζ, .inr (1, oC Aζ Iζ)), aI g (Aζ 2) 10 f2ζ] H := hP
  have hD : va_D Z [aI g (Aζ 1) 10 f1ζ, aI g (Aζ 3) 10 f3ζ, (hζ, .inr (1, oC Aζ Iζ)), aI g (Aζ 2) 10 f2ζ] := hD
  obtain rfl := hw
  refine lv_if_eq (tgt := 52) hx hb dX1_houseFact_45 (by decide) (fun c_3 => ?_) (fun c_3 => ?_)
  · have c_3 : decide (f2ζ jζ = 1) = false := bI_0 c_3
    refine lv_iconst (v := 0) hx hb dX1_houseFact_52 (by decide) ?_
    exact r_iret hx hb hr hlk hS () (by unfold hfF; rw [if_neg k_1, if_neg k_2, c_3]; rfl) (hP.sub [2, 0, 3, 1] rfl) (hD.sub [2, 0, 3, 1] (by decide) rfl) dX1_houseFact_53
  · have c_3 : decide (f2ζ jζ = 1) = true := bI_1 c_3
    refine lv_iconst (v := 1) hx hb dX1_houseFact_48 (by decide) ?_
    refine lv_goto (tgt := 53) hx hb dX1_houseFact_49 (by decide) ?_
    exact r_iret hx hb hr hlk hS () (by unfold hfF; rw [if_neg k_1, if_neg k_2, c_3]; rfl) (hP.sub [2, 0, 3, 1] rfl) (hD.sub [2, 0, 3, 1] (by decide) rfl) dX1_houseFact_53
set_option maxHeartbeats 4000000 in
set_option maxRecDepth 100000 in
theorem c_X1_panFact (l : Launch) (g : GT) (sz : Nat) (hζ : Nat) (Aζ : Nat → Nat) (Iζ : Nat → Int32) (xζ : Int32) : Ci l yX1_panFact wsX1_panFact { frames := 0, cells := 0, slots := 0, locals := 0 } g sz [.ref hζ, .int xζ] [(hζ, .inr (1, oC Aζ Iζ))] (pfF Iζ xζ) [(hζ, .inr (1, oC Aζ Iζ))] := by
  refine gMet_i (cc := cX1_panFact) (maxL := 2) (ret := (some .int)) (by decide) rfl (Nat.le_of_ble_eq_true rfl) ?_
  intro p e s m args below meth c Z hx hb hr F hlk hnm hK hN hA H locs hP hD hS ls hl
  have hl : lv_has ls 2 [(0, .ref hζ), (1, .int xζ)] := hl
  have F : CallFix p m c cX1_panFact 2 s args wsX1_panFact RX1 := F
  have hts := F.2.2.2.2
  have hown : s.vm.findClass RX1 = some m.cls := F.2.2.2.1
  have hi1 : ∀ w ∈ u_ws RX1 TX1 12, w ∈ wsX1_panFact := by decide +kernel
  refine lv_iload_n hx hb dX1_panFact_0 rfl (lv_at hl 1 rfl) ?_
  by_cases k_1 : xζ = 0
  · refine gtop (y := 0) k_1 ?_
    refine lv_tableIn (tgt := 28) (off := 27) hx hb dX1_panFact_1 (by decide) (by decide) rfl (by decide) ?_
    refine lv_aload_n hx hb dX1_panFact_28 rfl (lv_at hl 0 rfl) ?_
    refine va_get (D := g.1) (ci := 1) (v := .int (Iζ 8)) (C := RX1) (T := TX1) (N := 12) hx hb hts hi1 hown hK hP 0 rfl rfl 8 (by decide) (hts (.fieldLink RX1 33 "PanTales$Close" "place" "I") (by decide +kernel)) (fun _ h9 => h9) rfl dX1_panFact_29 ?_
    exact r_iret hx hb hr hlk hS () (by unfold pfF; rw [if_pos k_1]) (hP.sub [0] rfl) (hD.sub [0] (by decide) rfl) dX1_panFact_32
  by_cases k_2 : xζ = 1
  · refine gtop (y := 1) k_2 ?_
    refine lv_tableIn (tgt := 33) (off := 32) hx hb dX1_panFact_1 (by decide) (by decide) rfl (by decide) ?_
    refine lv_aload_n hx hb dX1_panFact_33 rfl (lv_at hl 0 rfl) ?_
    refine va_get (D := g.1) (ci := 1) (v := .int (Iζ 9)) (C := RX1) (T := TX1) (N := 12) hx hb hts hi1 hown hK hP 0 rfl rfl 9 (by decide) (hts (.fieldLink RX1 52 "PanTales$Close" "heat" "I") (by decide +kernel)) (fun _ h9 => h9) rfl dX1_panFact_34 ?_
    exact r_iret hx hb hr hlk hS () (by unfold pfF; rw [if_neg k_1, if_pos k_2]) (hP.sub [0] rfl) (hD.sub [0] (by decide) rfl) dX1_panFact_37
  by_cases k_3 : xζ = 2
  · refine gtop (y := 2) k_3 ?_
    refine lv_tableIn (tgt := 38) (off := 37) hx hb dX1_panFact_1 (by decide) (by decide) rfl (by decide) ?_
    refine lv_aload_n hx hb dX1_panFact_38 rfl (lv_at hl 0 rfl) ?_
    refine va_get (D := g.1) (ci := 1) (v := .int (Iζ 10)) (C := RX1) (T := TX1) (N := 12) hx hb hts hi1 hown hK hP 0 rfl rfl 10 (by decide) (hts (.fieldLink RX1 55 "PanTales$Close" "tale" "I") (by decide +kernel)) (fun _ h9 => h9) rfl dX1_panFact_39 ?_
    exact r_iret hx hb hr hlk hS () (by unfold pfF; rw [if_neg k_1, if_neg k_2, if_pos k_3]) (hP.sub [0] rfl) (hD.sub [0] (by decide) rfl) dX1_panFact_42
  refine lv_tableOut (tgt := 43) hx hb dX1_panFact_1 (sw_out 3 (by decide) (by decide) (lt_s (lt_s (lt_s lt_0 k_1) k_2) k_3)) (by decide) ?_
  refine lv_aload_n hx hb dX1_panFact_43 rfl (lv_at hl 0 rfl) ?_
  refine va_get (D := g.1) (ci := 1) (v := .int (Iζ 11)) (C := RX1) (T := TX1) (N := 12) hx hb hts hi1 hown hK hP 0 rfl rfl 11 (by decide) (hts (.fieldLink RX1 58 "PanTales$Close" "mornings" "I") (by decide +kernel)) (fun _ h9 => h9) rfl dX1_panFact_44 ?_
  exact r_iret hx hb hr hlk hS () (by unfold pfF; rw [if_neg k_1, if_neg k_2, if_neg k_3]) (hP.sub [0] rfl) (hD.sub [0] (by decide) rfl) dX1_panFact_47
set_option maxHeartbeats 4000000 in
set_option maxRecDepth 100000 in
theorem c_X1_believersOf_t (l : Launch) (g : GT) (sz : Nat) (hζ : Nat) (Aζ : Nat → Nat) (Iζ : Nat → Int32) (tζ : Nat) (htζ : tζ < 2 ^ 31) : Ci l yX1_believersOf wsX1_believersOf { frames := 0, cells := 0, slots := 0, locals := 0 } g sz [.ref hζ, .int (nI tζ)] [(hζ, .inr (1, oC Aζ Iζ)), aI g (Aζ 3) 10 (fun _ => (-6))] 0 [(hζ, .inr (1, oC Aζ Iζ)), aI g (Aζ 3) 10 (fun _ => (-6))] := by
  refine gMet_i (cc := cX1_believersOf) (maxL := 4) (ret := (some .int)) (by decide) rfl (Nat.le_of_ble_eq_true rfl) ?_
  intro p e s m args below meth c Z hx hb hr F hlk hnm hK hN hA H locs hP hD hS ls hl
  have hl : lv_has ls 4 [(0, .ref hζ), (1, .int (nI tζ))] := hl
  have F : CallFix p m c cX1_believersOf 4 s args wsX1_believersOf RX1 := F
  have hts := F.2.2.2.2
  have hown : s.vm.findClass RX1 = some m.cls := F.2.2.2.1
  have hi1 : ∀ w ∈ u_ws RX1 TX1 12, w ∈ wsX1_believersOf := by decide +kernel
  refine lv_iconst (v := 0) hx hb dX1_believersOf_0 (by decide) ?_
  refine lv_istore_n (lv' := [(2, .int 0), (0, .ref hζ), (1, .int (nI tζ))]) hx hb dX1_believersOf_1 rfl hl (by decide) rfl (fun ls hl => ?_)
  refine lv_iconst (v := 0) hx hb dX1_believersOf_2 (by decide) ?_
  refine lv_istore_n (lv' := [(3, .int 0), (2, .int 0), (0, .ref hζ), (1, .int (nI tζ))]) hx hb dX1_believersOf_3 rfl hl (by decide) rfl (fun ls hl => ?_)
  refine gloop (σ := Nat) (fun u0 => 10 - u0) (fun u0 => u0 ≤ 10) (fun u0 => [(hζ, .inr (1, oC Aζ Iζ)), aI g (Aζ 3) 10 (fun _ => (-6))]) (fun u0 => [(3, .int (nI u0)), (2, .int 0), (0, .ref hζ), (1, .int (nI tζ))]) ?_ 0 (by first | omega | decide | rfl) (hP.sub [0, 1] rfl) (hD.sub [0, 1] (by decide) rfl) hS (lv_sub hl [0, 1, 2, 3] rfl)
  rintro iζ hiζ ih4 H locs ls hP hD hS hl
  have hiζ : iζ ≤ 10 := hiζ
  have hP : va_P g.1 vwCl [(hζ, .inr (1, oC Aζ Iζ)), aI g (Aζ 3) 10 (fun _ => (-6))] H := hP
  have hD : va_D Z [(hζ, .inr (1, oC Aζ Iζ)), aI g (Aζ 3) 10 (fun _ => (-6))] := hD
  have hl : lv_has ls 4 [(3, .int (nI iζ)), (2, .int 0), (0, .ref hζ), (1, .int (nI tζ))] := hl
  refine lv_iload_n hx hb dX1_believersOf_4 rfl (lv_at hl 0 rfl) ?_
  refine lv_bipush (v := 10) hx hb dX1_believersOf_5 (by decide) ?_
  refine lv_icmp_ge (tgt := 32) hx hb dX1_believersOf_7 (by decide) (fun c_1 => ?_) (fun c_1 => ?_)
  · have c_1 : 10 ≤ iζ := (nI_leI (a := 10) (b := iζ) (by omega) (by omega)).mp c_1
    refine lv_iload_n hx hb dX1_believersOf_32 rfl (lv_at hl 1 rfl) ?_
    exact r_iret hx hb hr hlk hS () rfl (hP.sub [0, 1] rfl) (hD.sub [0, 1] (by decide) rfl) dX1_believersOf_33
  · have c_1 : ¬ 10 ≤ iζ := fun z => c_1 ((nI_leI (a := 10) (b := iζ) (by omega) (by omega)).mpr z)
    refine lv_aload_n hx hb dX1_believersOf_10 rfl (lv_at hl 2 rfl) ?_
    refine va_get (D := g.1) (ci := 1) (v := .ref (Aζ 3)) (C := RX1) (T := TX1) (N := 12) hx hb hts hi1 hown hK hP 0 rfl rfl 3 (by decide) (hts (.fieldLink RX1 21 "PanTales$Close" "beliefs" "[I") (by decide +kernel)) (fun _ h9 => h9) rfl dX1_believersOf_11 ?_
    refine lv_iload_n hx hb dX1_believersOf_14 rfl (lv_at hl 0 rfl) ?_
    refine r_iald (v := (-6)) hx hb hK hP 1 rfl (vp_in_nI (n := iζ) (by omega) (by omega)) (congrArg (fun _ => (-6)) (nI_clamp (n := iζ) (by omega))) dX1_believersOf_15 ?_
    refine lv_iload_n hx hb dX1_believersOf_16 rfl (lv_at hl 3 rfl) ?_
    refine lv_icmp_ne (tgt := 26) hx hb dX1_believersOf_17 (by decide) (fun c_2 => ?_) (fun c_2 => ?_)
    · refine lv_iinc (v := nI (iζ + 1)) (lv' := [(3, .int (nI (iζ + 1))), (2, .int 0), (0, .ref hζ), (1, .int (nI tζ))]) hx hb dX1_believersOf_26 hl (k := 0) rfl (nI_1 iζ) (by decide) rfl (fun ls hl => ?_)
      refine lv_goto (tgt := 4) hx hb dX1_believersOf_29 (by decide) ?_
      exact ih4 (iζ + 1) (by first | omega | (dsimp only; omega)) (by first | omega | (dsimp only; omega)) _ _ _ (hP.sub [0, 1] rfl) (hD.sub [0, 1] (by decide) rfl) hS (lv_sub hl [0, 1, 2, 3] rfl)
    · exact absurd c_2 (neg6_ne htζ)
set_option maxHeartbeats 4000000 in
set_option maxRecDepth 100000 in
theorem c_X1_believersOf_n (l : Launch) (g : GT) (sz : Nat) (hζ : Nat) (Aζ : Nat → Nat) (Iζ : Nat → Int32) : Ci l yX1_believersOf wsX1_believersOf { frames := 0, cells := 0, slots := 0, locals := 0 } g sz [.ref hζ, .int (-6)] [(hζ, .inr (1, oC Aζ Iζ)), aI g (Aζ 3) 10 (fun _ => (-6))] 1023 [(hζ, .inr (1, oC Aζ Iζ)), aI g (Aζ 3) 10 (fun _ => (-6))] := by
  refine gMet_i (cc := cX1_believersOf) (maxL := 4) (ret := (some .int)) (by decide) rfl (Nat.le_of_ble_eq_true rfl) ?_
  intro p e s m args below meth c Z hx hb hr F hlk hnm hK hN hA H locs hP hD hS ls hl
  have hl : lv_has ls 4 [(0, .ref hζ), (1, .int (-6))] := hl
  have F : CallFix p m c cX1_believersOf 4 s args wsX1_believersOf RX1 := F
  have hts := F.2.2.2.2
  have hown : s.vm.findClass RX1 = some m.cls := F.2.2.2.1
  have hi1 : ∀ w ∈ u_ws RX1 TX1 12, w ∈ wsX1_believersOf := by decide +kernel
  refine lv_iconst (v := 0) hx hb dX1_believersOf_0 (by decide) ?_
  refine lv_istore_n (lv' := [(2, .int 0), (0, .ref hζ), (1, .int (-6))]) hx hb dX1_believersOf_1 rfl hl (by decide) rfl (fun ls hl => ?_)
  refine lv_iconst (v := 0) hx hb dX1_believersOf_2 (by decide) ?_
  refine lv_istore_n (lv' := [(3, .int 0), (2, .int 0), (0, .ref hζ), (1, .int (-6))]) hx hb dX1_believersOf_3 rfl hl (by decide) rfl (fun ls hl => ?_)
  refine gloop (σ := Nat) (fun u0 => 10 - u0) (fun u0 => u0 ≤ 10) (fun u0 => [(hζ, .inr (1, oC Aζ Iζ)), aI g (Aζ 3) 10 (fun _ => (-6))]) (fun u0 => [(3, .int (nI u0)), (2, .int (nI (2 ^ u0 - 1))), (0, .ref hζ), (1, .int (-6))]) ?_ 0 (by first | omega | decide | rfl) (hP.sub [0, 1] rfl) (hD.sub [0, 1] (by decide) rfl) hS (lv_sub hl [0, 1, 2, 3] rfl)
  rintro iζ hiζ ih4 H locs ls hP hD hS hl
  have hiζ : iζ ≤ 10 := hiζ
  have hP : va_P g.1 vwCl [(hζ, .inr (1, oC Aζ Iζ)), aI g (Aζ 3) 10 (fun _ => (-6))] H := hP
  have hD : va_D Z [(hζ, .inr (1, oC Aζ Iζ)), aI g (Aζ 3) 10 (fun _ => (-6))] := hD
  have hl : lv_has ls 4 [(3, .int (nI iζ)), (2, .int (nI (2 ^ iζ - 1))), (0, .ref hζ), (1, .int (-6))] := hl
  refine lv_iload_n hx hb dX1_believersOf_4 rfl (lv_at hl 0 rfl) ?_
  refine lv_bipush (v := 10) hx hb dX1_believersOf_5 (by decide) ?_
  refine lv_icmp_ge (tgt := 32) hx hb dX1_believersOf_7 (by decide) (fun c_1 => ?_) (fun c_1 => ?_)
  · have c_1 : 10 ≤ iζ := (nI_leI (a := 10) (b := iζ) (by omega) (by omega)).mp c_1
    obtain rfl : iζ = 10 := by omega
    skip
    refine lv_iload_n hx hb dX1_believersOf_32 rfl (lv_at hl 1 rfl) ?_
    exact r_iret hx hb hr hlk hS () rfl (hP.sub [0, 1] rfl) (hD.sub [0, 1] (by decide) rfl) dX1_believersOf_33
  · have c_1 : ¬ 10 ≤ iζ := fun z => c_1 ((nI_leI (a := 10) (b := iζ) (by omega) (by omega)).mpr z)
    refine lv_aload_n hx hb dX1_believersOf_10 rfl (lv_at hl 2 rfl) ?_
    refine va_get (D := g.1) (ci := 1) (v := .ref (Aζ 3)) (C := RX1) (T := TX1) (N := 12) hx hb hts hi1 hown hK hP 0 rfl rfl 3 (by decide) (hts (.fieldLink RX1 21 "PanTales$Close" "beliefs" "[I") (by decide +kernel)) (fun _ h9 => h9) rfl dX1_believersOf_11 ?_
    refine lv_iload_n hx hb dX1_believersOf_14 rfl (lv_at hl 0 rfl) ?_
    refine r_iald (v := (-6)) hx hb hK hP 1 rfl (vp_in_nI (n := iζ) (by omega) (by omega)) (congrArg (fun _ => (-6)) (nI_clamp (n := iζ) (by omega))) dX1_believersOf_15 ?_
    refine lv_iload_n hx hb dX1_believersOf_16 rfl (lv_at hl 3 rfl) ?_
    refine lv_icmp_ne (tgt := 26) hx hb dX1_believersOf_17 (by decide) (fun c_2 => ?_) (fun c_2 => ?_)
    · exact absurd (by decide) c_2
    · refine lv_iload_n hx hb dX1_believersOf_20 rfl (lv_at hl 1 rfl) ?_
      refine lv_iconst (v := 1) hx hb dX1_believersOf_21 (by decide) ?_
      refine lv_iload_n hx hb dX1_believersOf_22 rfl (lv_at hl 0 rfl) ?_
      refine lv_ishl hx hb dX1_believersOf_23 ?_
      refine lv_ior hx hb dX1_believersOf_24 ?_
      refine gtop (y := nI (2 ^ (iζ + 1) - 1)) (beq_0 (by omega)) ?_
      refine lv_istore_n (lv' := [(2, .int (nI (2 ^ (iζ + 1) - 1))), (3, .int (nI iζ)), (0, .ref hζ), (1, .int (-6))]) hx hb dX1_believersOf_25 rfl hl (by decide) rfl (fun ls hl => ?_)
      refine lv_iinc (v := nI (iζ + 1)) (lv' := [(3, .int (nI (iζ + 1))), (2, .int (nI (2 ^ (iζ + 1) - 1))), (0, .ref hζ), (1, .int (-6))]) hx hb dX1_believersOf_26 hl (k := 1) rfl (nI_1 iζ) (by decide) rfl (fun ls hl => ?_)
      refine lv_goto (tgt := 4) hx hb dX1_believersOf_29 (by decide) ?_
      exact ih4 (iζ + 1) (by first | omega | (dsimp only; omega)) (by first | omega | (dsimp only; omega)) _ _ _ (hP.sub [0, 1] rfl) (hD.sub [0, 1] (by decide) rfl) hS (lv_sub hl [0, 1, 2, 3] rfl)
set_option maxHeartbeats 4000000 in
set_option maxRecDepth 100000 in
theorem c_X1_believers (l : Launch) (g : GT) (sz : Nat) (hζ : Nat) (Aζ : Nat → Nat) (Iζ : Nat → Int32) : Ci l yX1_believers wsX1_believers { frames := 1, cells := 0, slots := 0, locals := 23 } g sz [.ref hζ] [(hζ, .inr (1, oC Aζ Iζ)), aI g (Aζ 3) 10 (fun _ => (-6))] 0 [(hζ, .inr (1, oC Aζ Iζ)), aI g (Aζ 3) 10 (fun _ => (-6))] := by
  refine gMet_i (cc := cX1_believers) (maxL := 1) (ret := (some .int)) (by decide) rfl (Nat.le_of_ble_eq_true rfl) ?_
  intro p e s m args below meth c Z hx hb hr F hlk hnm hK hN hA H locs hP hD hS ls hl
  have hl : lv_has ls 1 [(0, .ref hζ)] := hl
  have F : CallFix p m c cX1_believers 1 s args wsX1_believers RX1 := F
  have hts := F.2.2.2.2
  have hown : s.vm.findClass RX1 = some m.cls := F.2.2.2.1
  refine lv_bipush (v := 10) hx hb dX1_believers_0 (by decide) ?_
  refine lv_aload_n hx hb dX1_believers_2 rfl (lv_at hl 0 rfl) ?_
  refine lv_bipush (v := (-6)) hx hb dX1_believers_3 (by decide) ?_
  refine gcV_i (As := [.int (-6)]) (rest := [.int 10]) (ci := 1) (q := (RX1, TX1, 12)) F hK hN hP hD hS hA (c_X1_believersOf_n l g H.size hζ Aζ Iζ) gX1_believers_X1_believersOf kX1_believersOf rfl rfl rfl rfl ⟨(Nat.le_of_ble_eq_true rfl), (Nat.le_of_ble_eq_true rfl)⟩ [0, 1] [] rfl rfl rfl (by decide) rfl rfl rfl rfl rfl hl.1 (Nat.le_of_ble_eq_true rfl) dX1_believers_5 ⟨(Nat.le_of_ble_eq_true rfl), (Nat.le_of_ble_eq_true rfl)⟩ (fun r_w u_w H locs hw hP hD hS => ?_)
  have hP : va_P g.1 vwCl [(hζ, .inr (1, oC Aζ Iζ)), aI g (Aζ 3) 10 (fun _ => (-6))] H := hP
  have hD : va_D Z [(hζ, .inr (1, oC Aζ Iζ)), aI g (Aζ 3) 10 (fun _ => (-6))] := hD
  obtain rfl := hw
  refine gcP (As := [.int 1023]) (rest := [.int 10]) F (c_J6_bitCount_0f7a4 l 1023) gX1_believers_J6_bitCount_0f7a4 kJ6_bitCount_0f7a4 rfl rfl rfl ⟨(Nat.le_of_ble_eq_true rfl), (Nat.le_of_ble_eq_true rfl)⟩ rfl rfl hl.1 (Nat.le_of_ble_eq_true rfl) dX1_believers_8 ⟨(Nat.le_of_ble_eq_true rfl), (Nat.le_of_ble_eq_true rfl)⟩ ?_
  refine gtop (y := 10) bcF_1023 ?_
  refine lv_isub hx hb dX1_believers_11 ?_
  refine gtop (y := 0) (by decide) ?_
  exact r_iret hx hb hr hlk hS () rfl (hP.sub [0, 1] rfl) (hD.sub [0, 1] (by decide) rfl) dX1_believers_12
set_option maxHeartbeats 4000000 in
set_option maxRecDepth 100000 in
theorem c_X1_talesBelieved (l : Launch) (g : GT) (sz : Nat) (hζ : Nat) (Aζ : Nat → Nat) (Iζ : Nat → Int32) : Ci l yX1_talesBelieved wsX1_talesBelieved { frames := 1, cells := 0, slots := 0, locals := 23 } g sz [.ref hζ] [(hζ, .inr (1, oC Aζ Iζ)), aI g (Aζ 3) 10 (fun _ => (-6))] 0 [(hζ, .inr (1, oC Aζ Iζ)), aI g (Aζ 3) 10 (fun _ => (-6))] := by
  refine gMet_i (cc := cX1_talesBelieved) (maxL := 3) (ret := (some .int)) (by decide) rfl (Nat.le_of_ble_eq_true rfl) ?_
  intro p e s m args below meth c Z hx hb hr F hlk hnm hK hN hA H locs hP hD hS ls hl
  have hl : lv_has ls 3 [(0, .ref hζ)] := hl
  have F : CallFix p m c cX1_talesBelieved 3 s args wsX1_talesBelieved RX1 := F
  have hts := F.2.2.2.2
  have hown : s.vm.findClass RX1 = some m.cls := F.2.2.2.1
  refine lv_iconst (v := 0) hx hb dX1_talesBelieved_0 (by decide) ?_
  refine lv_istore_n (lv' := [(1, .int 0), (0, .ref hζ)]) hx hb dX1_talesBelieved_1 rfl hl (by decide) rfl (fun ls hl => ?_)
  refine lv_iconst (v := 0) hx hb dX1_talesBelieved_2 (by decide) ?_
  refine lv_istore_n (lv' := [(2, .int 0), (1, .int 0), (0, .ref hζ)]) hx hb dX1_talesBelieved_3 rfl hl (by decide) rfl (fun ls hl => ?_)
  refine gloop (σ := Nat) (fun u0 => 10 - u0) (fun u0 => u0 ≤ 10) (fun u0 => [(hζ, .inr (1, oC Aζ Iζ)), aI g (Aζ 3) 10 (fun _ => (-6))]) (fun u0 => [(2, .int (nI u0)), (1, .int 0), (0, .ref hζ)]) ?_ 0 (by first | omega | decide | rfl) (hP.sub [0, 1] rfl) (hD.sub [0, 1] (by decide) rfl) hS (lv_sub hl [0, 1, 2] rfl)
  rintro iζ hiζ ih4 H locs ls hP hD hS hl
  have hiζ : iζ ≤ 10 := hiζ
  have hP : va_P g.1 vwCl [(hζ, .inr (1, oC Aζ Iζ)), aI g (Aζ 3) 10 (fun _ => (-6))] H := hP
  have hD : va_D Z [(hζ, .inr (1, oC Aζ Iζ)), aI g (Aζ 3) 10 (fun _ => (-6))] := hD
  have hl : lv_has ls 3 [(2, .int (nI iζ)), (1, .int 0), (0, .ref hζ)] := hl
  refine lv_iload_n hx hb dX1_talesBelieved_4 rfl (lv_at hl 0 rfl) ?_
  refine lv_bipush (v := 10) hx hb dX1_talesBelieved_5 (by decide) ?_
  refine lv_icmp_ge (tgt := 27) hx hb dX1_talesBelieved_7 (by decide) (fun c_1 => ?_) (fun c_1 => ?_)
  · have c_1 : 10 ≤ iζ := (nI_leI (a := 10) (b := iζ) (by omega) (by omega)).mp c_1
    refine lv_iload_n hx hb dX1_talesBelieved_27 rfl (lv_at hl 1 rfl) ?_
    exact r_iret hx hb hr hlk hS () rfl (hP.sub [0, 1] rfl) (hD.sub [0, 1] (by decide) rfl) dX1_talesBelieved_28
  · have c_1 : ¬ 10 ≤ iζ := fun z => c_1 ((nI_leI (a := 10) (b := iζ) (by omega) (by omega)).mpr z)
    refine lv_aload_n hx hb dX1_talesBelieved_10 rfl (lv_at hl 2 rfl) ?_
    refine lv_iload_n hx hb dX1_talesBelieved_11 rfl (lv_at hl 0 rfl) ?_
    refine gcV_i (As := [.int (nI iζ)]) (rest := []) (ci := 1) (q := (RX1, TX1, 12)) F hK hN hP hD hS hA (c_X1_believersOf_t l g H.size hζ Aζ Iζ iζ (by omega)) gX1_talesBelieved_X1_believersOf kX1_believersOf rfl rfl rfl rfl ⟨(Nat.le_of_ble_eq_true rfl), (Nat.le_of_ble_eq_true rfl)⟩ [0, 1] [] rfl rfl rfl (by decide) rfl rfl rfl rfl rfl hl.1 (Nat.le_of_ble_eq_true rfl) dX1_talesBelieved_12 ⟨(Nat.le_of_ble_eq_true rfl), (Nat.le_of_ble_eq_true rfl)⟩ (fun r_w u_w H locs hw hP hD hS => ?_)
    have hP : va_P g.1 vwCl [(hζ, .inr (1, oC Aζ Iζ)), aI g (Aζ 3) 10 (fun _ => (-6))] H := hP
    have hD : va_D Z [(hζ, .inr (1, oC Aζ Iζ)), aI g (Aζ 3) 10 (fun _ => (-6))] := hD
    obtain rfl := hw
    refine lv_if_eq (tgt := 21) hx hb dX1_talesBelieved_15 (by decide) (fun c_2 => ?_) (fun c_2 => ?_)
    · refine lv_iinc (v := nI (iζ + 1)) (lv' := [(2, .int (nI (iζ + 1))), (1, .int 0), (0, .ref hζ)]) hx hb dX1_talesBelieved_21 hl (k := 0) rfl (nI_1 iζ) (by decide) rfl (fun ls hl => ?_)
      refine lv_goto (tgt := 4) hx hb dX1_talesBelieved_24 (by decide) ?_
      exact ih4 (iζ + 1) (by first | omega | (dsimp only; omega)) (by first | omega | (dsimp only; omega)) _ _ _ (hP.sub [0, 1] rfl) (hD.sub [0, 1] (by decide) rfl) hS (lv_sub hl [0, 1, 2] rfl)
    · exact absurd (by decide) c_2
set_option maxHeartbeats 4000000 in
set_option maxRecDepth 100000 in
theorem c_X1_allDoubt (l : Launch) (g : GT) (sz : Nat) (hζ : Nat) (Aζ : Nat → Nat) (Iζ : Nat → Int32) : Ci l yX1_allDoubt wsX1_allDoubt { frames := 0, cells := 0, slots := 0, locals := 0 } g sz [.ref hζ] [(hζ, .inr (1, oC Aζ Iζ)), aI g (Aζ 1) 10 (fun _ => 5)] 50 [(hζ, .inr (1, oC Aζ Iζ)), aI g (Aζ 1) 10 (fun _ => 5)] := by
  refine gMet_i (cc := cX1_allDoubt) (maxL := 3) (ret := (some .int)) (by decide) rfl (Nat.le_of_ble_eq_true rfl) ?_
  intro p e s m args below meth c Z hx hb hr F hlk hnm hK hN hA H locs hP hD hS ls hl
  have hl : lv_has ls 3 [(0, .ref hζ)] := hl
  have F : CallFix p m c cX1_allDoubt 3 s args wsX1_allDoubt RX1 := F
  have hts := F.2.2.2.2
  have hown : s.vm.findClass RX1 = some m.cls := F.2.2.2.1
  have hi1 : ∀ w ∈ u_ws RX1 TX1 12, w ∈ wsX1_allDoubt := by decide +kernel
  refine lv_iconst (v := 0) hx hb dX1_allDoubt_0 (by decide) ?_
  refine lv_istore_n (lv' := [(1, .int 0), (0, .ref hζ)]) hx hb dX1_allDoubt_1 rfl hl (by decide) rfl (fun ls hl => ?_)
  refine lv_iconst (v := 0) hx hb dX1_allDoubt_2 (by decide) ?_
  refine lv_istore_n (lv' := [(2, .int 0), (1, .int 0), (0, .ref hζ)]) hx hb dX1_allDoubt_3 rfl hl (by decide) rfl (fun ls hl => ?_)
  refine gloop (σ := Nat) (fun u0 => 10 - u0) (fun u0 => u0 ≤ 10) (fun u0 => [(hζ, .inr (1, oC Aζ Iζ)), aI g (Aζ 1) 10 (fun _ => 5)]) (fun u0 => [(2, .int (nI u0)), (1, .int (nI (5 * u0))), (0, .ref hζ)]) ?_ 0 (by first | omega | decide | rfl) (hP.sub [0, 1] rfl) (hD.sub [0, 1] (by decide) rfl) hS (lv_sub hl [0, 1, 2] rfl)
  rintro iζ hiζ ih4 H locs ls hP hD hS hl
  have hiζ : iζ ≤ 10 := hiζ
  have hP : va_P g.1 vwCl [(hζ, .inr (1, oC Aζ Iζ)), aI g (Aζ 1) 10 (fun _ => 5)] H := hP
  have hD : va_D Z [(hζ, .inr (1, oC Aζ Iζ)), aI g (Aζ 1) 10 (fun _ => 5)] := hD
  have hl : lv_has ls 3 [(2, .int (nI iζ)), (1, .int (nI (5 * iζ))), (0, .ref hζ)] := hl
  refine lv_iload_n hx hb dX1_allDoubt_4 rfl (lv_at hl 0 rfl) ?_
  refine lv_bipush (v := 10) hx hb dX1_allDoubt_5 (by decide) ?_
  refine lv_icmp_ge (tgt := 25) hx hb dX1_allDoubt_7 (by decide) (fun c_1 => ?_) (fun c_1 => ?_)
  · have c_1 : 10 ≤ iζ := (nI_leI (a := 10) (b := iζ) (by omega) (by omega)).mp c_1
    obtain rfl : iζ = 10 := by omega
    skip
    refine lv_iload_n hx hb dX1_allDoubt_25 rfl (lv_at hl 1 rfl) ?_
    exact r_iret hx hb hr hlk hS () rfl (hP.sub [0, 1] rfl) (hD.sub [0, 1] (by decide) rfl) dX1_allDoubt_26
  · have c_1 : ¬ 10 ≤ iζ := fun z => c_1 ((nI_leI (a := 10) (b := iζ) (by omega) (by omega)).mpr z)
    refine lv_iload_n hx hb dX1_allDoubt_10 rfl (lv_at hl 1 rfl) ?_
    refine lv_aload_n hx hb dX1_allDoubt_11 rfl (lv_at hl 2 rfl) ?_
    refine va_get (D := g.1) (ci := 1) (v := .ref (Aζ 1)) (C := RX1) (T := TX1) (N := 12) hx hb hts hi1 hown hK hP 0 rfl rfl 1 (by decide) (hts (.fieldLink RX1 15 "PanTales$Close" "doubts" "[I") (by decide +kernel)) (fun _ h9 => h9) rfl dX1_allDoubt_12 ?_
    refine lv_iload_n hx hb dX1_allDoubt_15 rfl (lv_at hl 0 rfl) ?_
    refine r_iald (v := 5) hx hb hK hP 1 rfl (vp_in_nI (n := iζ) (by omega) (by omega)) (congrArg (fun _ => 5) (nI_clamp (n := iζ) (by omega))) dX1_allDoubt_16 ?_
    refine lv_iadd hx hb dX1_allDoubt_17 ?_
    refine gtop (y := nI (5 * (iζ + 1))) (by rw [show nI (5 * (iζ + 1)) = nI (5 * iζ + 5) from rfl]; exact nI_add (5 * iζ) 5) ?_
    refine lv_istore_n (lv' := [(1, .int (nI (5 * (iζ + 1)))), (2, .int (nI iζ)), (0, .ref hζ)]) hx hb dX1_allDoubt_18 rfl hl (by decide) rfl (fun ls hl => ?_)
    refine lv_iinc (v := nI (iζ + 1)) (lv' := [(2, .int (nI (iζ + 1))), (1, .int (nI (5 * (iζ + 1)))), (0, .ref hζ)]) hx hb dX1_allDoubt_19 hl (k := 1) rfl (nI_1 iζ) (by decide) rfl (fun ls hl => ?_)
    refine lv_goto (tgt := 4) hx hb dX1_allDoubt_22 (by decide) ?_
    exact ih4 (iζ + 1) (by first | omega | (dsimp only; omega)) (by first | omega | (dsimp only; omega)) _ _ _ (hP.sub [0, 1] rfl) (hD.sub [0, 1] (by decide) rfl) hS (lv_sub hl [0, 1, 2] rfl)

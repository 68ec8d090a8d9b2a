theorem kX7_actBy : YOk yX7_actBy 1 := by decide +kernel
theorem kX7_whyNot : YOk yX7_whyNot 2 := by decide +kernel
theorem kX7_fill : YOk yX7_fill 2 := by decide +kernel
theorem kX7_stir : YOk yX7_stir 0 := by decide +kernel
theorem kX7_morning : YOk yX7_morning 0 := by decide +kernel
theorem kX7_happen : YOk yX7_happen 3 := by decide +kernel
theorem kX7_talesBelieved : YOk yX7_talesBelieved 0 := by decide +kernel
theorem kX7_doubts : YOk yX7_doubts 0 := by decide +kernel
theorem kX7_year : YOk yX7_year 3 := by decide +kernel
set_option maxHeartbeats 4000000 in
set_option maxRecDepth 100000 in
theorem c_X7_actBy (l : Launch) (dζ : Nat) (hdζ : dζ < 8) : Cp l yX7_actBy wsX7_actBy { frames := 0, cells := 0, slots := 0, locals := 0 } [.int (nI dζ)] (nI (kdF dζ)) := by
  refine gMet_p (cc := cX7_actBy) (maxL := 1) (ret := (some .int)) (by decide) rfl (Nat.le_of_ble_eq_true rfl) ?_
  intro p e s m args below meth c hx hb hr F hlk ls hl
  have hl : lv_has ls 1 [(0, .int (nI dζ))] := hl
  have F : CallFix p m c cX7_actBy 1 s args wsX7_actBy RX7 := F
  have hts := F.2.2.2.2
  have hown : s.vm.findClass RX7 = some m.cls := F.2.2.2.1
  refine lv_iload_n hx hb dX7_actBy_0 rfl (lv_at hl 0 rfl) ?_
  refine lv_iconst (v := 3) hx hb dX7_actBy_1 (by decide) ?_
  refine lv_icmp_ge (tgt := 9) hx hb dX7_actBy_2 (by decide) (fun c_1 => ?_) (fun c_1 => ?_)
  · have c_1 : 3 ≤ dζ := (nI_leI (a := 3) (b := dζ) (by omega) (by omega)).mp c_1
    refine lv_iload_n hx hb dX7_actBy_9 rfl (lv_at hl 0 rfl) ?_
    refine lv_iconst (v := 5) hx hb dX7_actBy_10 (by decide) ?_
    refine lv_icmp_ge (tgt := 18) hx hb dX7_actBy_11 (by decide) (fun c_2 => ?_) (fun c_2 => ?_)
    · have c_2 : 5 ≤ dζ := (nI_leI (a := 5) (b := dζ) (by omega) (by omega)).mp c_2
      refine lv_iload_n hx hb dX7_actBy_18 rfl (lv_at hl 0 rfl) ?_
      refine lv_iconst (v := 5) hx hb dX7_actBy_19 (by decide) ?_
      refine lv_icmp_ne (tgt := 27) hx hb dX7_actBy_20 (by decide) (fun c_3 => ?_) (fun c_3 => ?_)
      · have c_3 : ¬ dζ = 5 := fun z => c_3 ((nI_eq (a := dζ) (b := 5) (by omega) (by omega)).mpr z)
        refine lv_iload_n hx hb dX7_actBy_27 rfl (lv_at hl 0 rfl) ?_
        refine lv_bipush (v := 6) hx hb dX7_actBy_28 (by decide) ?_
        refine lv_icmp_ne (tgt := 37) hx hb dX7_actBy_30 (by decide) (fun c_4 => ?_) (fun c_4 => ?_)
        · have c_4 : ¬ dζ = 6 := fun z => c_4 ((nI_eq (a := dζ) (b := 6) (by omega) (by omega)).mpr z)
          refine lv_iconst (v := 4) hx hb dX7_actBy_37 (by decide) ?_
          exact r_pret hx hb hr hlk (by show nI 4 = nI (kdF dζ); congr 1; unfold kdF; (repeat' split) <;> omega) dX7_actBy_38
        · have c_4 : dζ = 6 := (nI_eq (a := dζ) (b := 6) (by omega) (by omega)).mp c_4
          refine lv_iconst (v := 0) hx hb dX7_actBy_33 (by decide) ?_
          refine lv_goto (tgt := 38) hx hb dX7_actBy_34 (by decide) ?_
          exact r_pret hx hb hr hlk (by show nI 0 = nI (kdF dζ); congr 1; unfold kdF; (repeat' split) <;> omega) dX7_actBy_38
      · have c_3 : dζ = 5 := (nI_eq (a := dζ) (b := 5) (by omega) (by omega)).mp c_3
        refine lv_iconst (v := 3) hx hb dX7_actBy_23 (by decide) ?_
        refine lv_goto (tgt := 38) hx hb dX7_actBy_24 (by decide) ?_
        exact r_pret hx hb hr hlk (by show nI 3 = nI (kdF dζ); congr 1; unfold kdF; (repeat' split) <;> omega) dX7_actBy_38
    · have c_2 : ¬ 5 ≤ dζ := fun z => c_2 ((nI_leI (a := 5) (b := dζ) (by omega) (by omega)).mpr z)
      refine lv_iconst (v := 2) hx hb dX7_actBy_14 (by decide) ?_
      refine lv_goto (tgt := 38) hx hb dX7_actBy_15 (by decide) ?_
      exact r_pret hx hb hr hlk (by show nI 2 = nI (kdF dζ); congr 1; unfold kdF; (repeat' split) <;> omega) dX7_actBy_38
  · have c_1 : ¬ 3 ≤ dζ := fun z => c_1 ((nI_leI (a := 3) (b := dζ) (by omega) (by omega)).mpr z)
    refine lv_iconst (v := 1) hx hb dX7_actBy_5 (by decide) ?_
    refine lv_goto (tgt := 38) hx hb dX7_actBy_6 (by decide) ?_
    exact r_pret hx hb hr hlk (by show nI 1 = nI (kdF dζ); congr 1; unfold kdF; (repeat' split) <;> omega) dX7_actBy_38
set_option maxHeartbeats 4000000 in
set_option maxRecDepth 100000 in
theorem c_X7_whyNot (l : Launch) (g : GT) (sz : Nat) (hζ : Nat) (Aζ : Nat → Nat) (Iζ : Nat → Int32) (kζ nζ : Nat) (hkζ : kζ < 5) (hnζ : nζ < 11) (h8ζ : Iζ 5 = 10) : Ci l yX7_whyNot wsX7_whyNot { frames := 0, cells := 0, slots := 0, locals := 0 } g sz [.ref hζ, .int (nI kζ), .int (nI nζ)] [(hζ, .inr (7, oM Aζ Iζ)), aI g (Aζ 0) 121 (fun _ => 0)] (rmF kζ (Iζ 6) (Iζ 8)) [(hζ, .inr (7, oM Aζ Iζ)), aI g (Aζ 0) 121 (fun _ => 0)] := by
  refine gMet_i (cc := cX7_whyNot) (maxL := 3) (ret := (some .int)) (by decide) rfl (Nat.le_of_ble_eq_true rfl) ?_
  intro p e s m args below meth c Z hx hb hr F hlk hnm hK hN hA H locs hP hD hS ls hl
  have hl : lv_has ls 3 [(0, .ref hζ), (1, .int (nI kζ)), (2, .int (nI nζ))] := hl
  have F : CallFix p m c cX7_whyNot 3 s args wsX7_whyNot RX7 := F
  have hts := F.2.2.2.2
  have hown : s.vm.findClass RX7 = some m.cls := F.2.2.2.1
  have hi7 : ∀ w ∈ u_ws RX7 TX7 34, w ∈ wsX7_whyNot := by decide +kernel
  refine lv_iload_n hx hb dX7_whyNot_0 rfl (lv_at hl 1 rfl) ?_
  by_cases k_1 : nI kζ = 0
  · refine gtop (y := 0) k_1 ?_
    refine lv_tableIn (tgt := 32) (off := 31) hx hb dX7_whyNot_1 (by decide) (by decide) rfl (by decide) ?_
    refine lv_aload_n hx hb dX7_whyNot_32 rfl (lv_at hl 0 rfl) ?_
    refine va_get (D := g.1) (ci := 7) (v := .int (Iζ 5)) (C := RX7) (T := TX7) (N := 34) hx hb hts hi7 hown hK hP 0 rfl rfl 5 (by decide) (hts (.fieldLink RX7 72 "PanTalesModel" "panPlace" "I") (by decide +kernel)) (fun _ h9 => h9) rfl dX7_whyNot_33 ?_
    refine gtop (y := 10) h8ζ ?_
    refine lv_bipush (v := 10) hx hb dX7_whyNot_36 (by decide) ?_
    refine lv_icmp_ne (tgt := 45) hx hb dX7_whyNot_38 (by decide) (fun c_2 => ?_) (fun c_2 => ?_)
    · exact absurd (by decide) c_2
    · refine lv_iconst (v := 0) hx hb dX7_whyNot_41 (by decide) ?_
      refine lv_goto (tgt := 46) hx hb dX7_whyNot_42 (by decide) ?_
      exact r_iret hx hb hr hlk hS () (rm_c (c := 0) hkζ k_1 (by decide) rfl) (hP.sub [0, 1] rfl) (hD.sub [0, 1] (by decide) rfl) dX7_whyNot_46
  by_cases k_3 : nI kζ = 1
  · refine gtop (y := 1) k_3 ?_
    refine lv_tableIn (tgt := 47) (off := 46) hx hb dX7_whyNot_1 (by decide) (by decide) rfl (by decide) ?_
    refine lv_aload_n hx hb dX7_whyNot_47 rfl (lv_at hl 0 rfl) ?_
    refine va_get (D := g.1) (ci := 7) (v := .ref (Aζ 0)) (C := RX7) (T := TX7) (N := 34) hx hb hts hi7 hown hK hP 0 rfl rfl 0 (by decide) (hts (.fieldLink RX7 7 "PanTalesModel" "roads" "[I") (by decide +kernel)) (fun _ h9 => h9) rfl dX7_whyNot_48 ?_
    refine lv_bipush (v := 11) hx hb dX7_whyNot_51 (by decide) ?_
    refine lv_aload_n hx hb dX7_whyNot_53 rfl (lv_at hl 0 rfl) ?_
    refine va_get (D := g.1) (ci := 7) (v := .int (Iζ 5)) (C := RX7) (T := TX7) (N := 34) hx hb hts hi7 hown hK hP 0 rfl rfl 5 (by decide) (hts (.fieldLink RX7 72 "PanTalesModel" "panPlace" "I") (by decide +kernel)) (fun _ h9 => h9) rfl dX7_whyNot_54 ?_
    refine gtop (y := 10) h8ζ ?_
    refine lv_imul hx hb dX7_whyNot_57 ?_
    refine gtop (y := 110) (by decide) ?_
    refine lv_iload_n hx hb dX7_whyNot_58 rfl (lv_at hl 2 rfl) ?_
    refine lv_iadd hx hb dX7_whyNot_59 ?_
    refine gtop (y := nI (110 + nζ)) (nI_add 110 nζ) ?_
    refine r_iald (v := 0) hx hb hK hP 1 rfl (vp_in_nI (n := 110 + nζ) (by omega) (by omega)) (congrArg (fun _ => 0) (nI_clamp (n := 110 + nζ) (by omega))) dX7_whyNot_60 ?_
    refine lv_if_ne (tgt := 68) hx hb dX7_whyNot_61 (by decide) (fun c_4 => ?_) (fun c_4 => ?_)
    · exact absurd (by decide) c_4
    · refine lv_iconst (v := 2) hx hb dX7_whyNot_64 (by decide) ?_
      refine lv_goto (tgt := 69) hx hb dX7_whyNot_65 (by decide) ?_
      exact r_iret hx hb hr hlk hS () (rm_c (c := 1) hkζ k_3 (by decide) rfl) (hP.sub [0, 1] rfl) (hD.sub [0, 1] (by decide) rfl) dX7_whyNot_69
  by_cases k_5 : nI kζ = 2
  · refine gtop (y := 2) k_5 ?_
    refine lv_tableIn (tgt := 70) (off := 69) hx hb dX7_whyNot_1 (by decide) (by decide) rfl (by decide) ?_
    refine lv_aload_n hx hb dX7_whyNot_70 rfl (lv_at hl 0 rfl) ?_
    refine va_get (D := g.1) (ci := 7) (v := .int (Iζ 5)) (C := RX7) (T := TX7) (N := 34) hx hb hts hi7 hown hK hP 0 rfl rfl 5 (by decide) (hts (.fieldLink RX7 72 "PanTalesModel" "panPlace" "I") (by decide +kernel)) (fun _ h9 => h9) rfl dX7_whyNot_71 ?_
    refine gtop (y := 10) h8ζ ?_
    refine lv_bipush (v := 10) hx hb dX7_whyNot_74 (by decide) ?_
    refine lv_icmp_ne (tgt := 83) hx hb dX7_whyNot_76 (by decide) (fun c_6 => ?_) (fun c_6 => ?_)
    · exact absurd (by decide) c_6
    · refine lv_iconst (v := 1) hx hb dX7_whyNot_79 (by decide) ?_
      refine lv_goto (tgt := 95) hx hb dX7_whyNot_80 (by decide) ?_
      exact r_iret hx hb hr hlk hS () (rm_c (c := 2) hkζ k_5 (by decide) rfl) (hP.sub [0, 1] rfl) (hD.sub [0, 1] (by decide) rfl) dX7_whyNot_95
  by_cases k_7 : nI kζ = 3
  · refine gtop (y := 3) k_7 ?_
    refine lv_tableIn (tgt := 96) (off := 95) hx hb dX7_whyNot_1 (by decide) (by decide) rfl (by decide) ?_
    refine lv_aload_n hx hb dX7_whyNot_96 rfl (lv_at hl 0 rfl) ?_
    refine va_get (D := g.1) (ci := 7) (v := .int (Iζ 6)) (C := RX7) (T := TX7) (N := 34) hx hb hts hi7 hown hK hP 0 rfl rfl 6 (by decide) (hts (.fieldLink RX7 127 "PanTalesModel" "heat" "I") (by decide +kernel)) (fun _ h9 => h9) rfl dX7_whyNot_97 ?_
    refine lv_if_ne (tgt := 107) hx hb dX7_whyNot_100 (by decide) (fun c_8 => ?_) (fun c_8 => ?_)
    · refine lv_iconst (v := 0) hx hb dX7_whyNot_107 (by decide) ?_
      exact r_iret hx hb hr hlk hS () (rm_c (c := 3) hkζ k_7 (by decide) (rm_3n c_8)) (hP.sub [0, 1] rfl) (hD.sub [0, 1] (by decide) rfl) dX7_whyNot_108
    · refine lv_iconst (v := 3) hx hb dX7_whyNot_103 (by decide) ?_
      refine lv_goto (tgt := 108) hx hb dX7_whyNot_104 (by decide) ?_
      exact r_iret hx hb hr hlk hS () (rm_c (c := 3) hkζ k_7 (by decide) (rm_3z c_8)) (hP.sub [0, 1] rfl) (hD.sub [0, 1] (by decide) rfl) dX7_whyNot_108
  refine lv_tableOut (tgt := 109) hx hb dX7_whyNot_1 (sw_out 4 (by decide) (by decide) (lt_s (lt_s (lt_s (lt_s lt_0 k_1) k_3) k_5) k_7)) (by decide) ?_
  refine lv_aload_n hx hb dX7_whyNot_109 rfl (lv_at hl 0 rfl) ?_
  refine va_get (D := g.1) (ci := 7) (v := .int (Iζ 8)) (C := RX7) (T := TX7) (N := 34) hx hb hts hi7 hown hK hP 0 rfl rfl 8 (by decide) (hts (.fieldLink RX7 130 "PanTalesModel" "mornings" "I") (by decide +kernel)) (fun _ h9 => h9) rfl dX7_whyNot_110 ?_
  refine lv_bipush (v := 99) hx hb dX7_whyNot_113 (by decide) ?_
  refine lv_icmp_ne (tgt := 122) hx hb dX7_whyNot_115 (by decide) (fun c_9 => ?_) (fun c_9 => ?_)
  · refine lv_iconst (v := 0) hx hb dX7_whyNot_122 (by decide) ?_
    exact r_iret hx hb hr hlk hS () (rm_d hkζ k_1 k_3 k_5 k_7 (rm_4n c_9)) (hP.sub [0, 1] rfl) (hD.sub [0, 1] (by decide) rfl) dX7_whyNot_123
  · refine lv_iconst (v := 4) hx hb dX7_whyNot_118 (by decide) ?_
    refine lv_goto (tgt := 123) hx hb dX7_whyNot_119 (by decide) ?_
    exact r_iret hx hb hr hlk hS () (rm_d hkζ k_1 k_3 k_5 k_7 (rm_4z c_9)) (hP.sub [0, 1] rfl) (hD.sub [0, 1] (by decide) rfl) dX7_whyNot_123
set_option maxHeartbeats 4000000 in
set_option maxRecDepth 100000 in
theorem c_X7_fill (l : Launch) (g : GT) (sz : Nat) (hζ : Nat) (Aζ : Nat → Nat) (Iζ : Nat → Int32) (xζ yζ : Int32) : Cv l yX7_fill wsX7_fill { frames := 0, cells := 0, slots := 0, locals := 0 } g sz [.ref hζ, .int xζ, .int yζ] [(hζ, .inr (7, oM Aζ Iζ))] [(hζ, .inr (7, oM Aζ (upd (upd Iζ 7 xζ) 6 yζ)))] := by
  refine gMet_v (cc := cX7_fill) (maxL := 3) (ret := none) (by decide) rfl (Nat.le_of_ble_eq_true rfl) ?_
  intro p e s m args below meth c Z hx hb hr F hlk hnm hK hN hA H locs hP hD hS ls hl
  have hl : lv_has ls 3 [(0, .ref hζ), (1, .int xζ), (2, .int yζ)] := hl
  have F : CallFix p m c cX7_fill 3 s args wsX7_fill RX7 := F
  have hts := F.2.2.2.2
  have hown : s.vm.findClass RX7 = some m.cls := F.2.2.2.1
  have hi7 : ∀ w ∈ u_ws RX7 TX7 34, w ∈ wsX7_fill := by decide +kernel
  refine lv_aload_n hx hb dX7_fill_0 rfl (lv_at hl 0 rfl) ?_
  refine lv_iload_n hx hb dX7_fill_1 rfl (lv_at hl 1 rfl) ?_
  refine va_put (D := g.1) (ci := 7) (v := .int xζ) (ty := .int) (C := RX7) (T := TX7) (N := 34) hx hb hts hi7 tyX7 tyX7_ok nmX7 hown hK hP hD hS 0 rfl rfl 7 (by decide) (hts (.fieldLink RX7 136 "PanTalesModel" "panTale" "I") (by decide +kernel)) (fun _ h9 => h9) rfl (by decide +kernel) rfl rfl (Nat.le_of_ble_eq_true rfl) dX7_fill_2 (fun H locs hP hD hS => ?_)
  have hP : va_P g.1 vwCl [(hζ, .inr (7, oM Aζ (upd Iζ 7 xζ)))] H := hP
  have hD : va_D Z [(hζ, .inr (7, oM Aζ (upd Iζ 7 xζ)))] := hD
  refine lv_aload_n hx hb dX7_fill_5 rfl (lv_at hl 0 rfl) ?_
  refine lv_iload_n hx hb dX7_fill_6 rfl (lv_at hl 2 rfl) ?_
  refine va_put (D := g.1) (ci := 7) (v := .int yζ) (ty := .int) (C := RX7) (T := TX7) (N := 34) hx hb hts hi7 tyX7 tyX7_ok nmX7 hown hK hP hD hS 0 rfl rfl 6 (by decide) (hts (.fieldLink RX7 127 "PanTalesModel" "heat" "I") (by decide +kernel)) (fun _ h9 => h9) rfl (by decide +kernel) rfl rfl (Nat.le_of_ble_eq_true rfl) dX7_fill_7 (fun H locs hP hD hS => ?_)
  have hP : va_P g.1 vwCl [(hζ, .inr (7, oM Aζ (upd (upd Iζ 7 xζ) 6 yζ)))] H := hP
  have hD : va_D Z [(hζ, .inr (7, oM Aζ (upd (upd Iζ 7 xζ) 6 yζ)))] := hD
  exact r_vret hx hb hr hlk hS () trivial (hP.sub [0] rfl) (hD.sub [0] (by decide) rfl) dX7_fill_10
set_option maxHeartbeats 4000000 in
set_option maxRecDepth 100000 in
theorem c_X7_stir (l : Launch) (g : GT) (sz : Nat) (hζ : Nat) (Aζ : Nat → Nat) (Iζ : Nat → Int32) (tζ : Nat) (htζ : tζ < 10) (h8ζ : Iζ 5 = 10) (h7ζ : Iζ 7 = nI tζ) : Mv (S := Nat → Int32) l yX7_stir wsX7_stir { frames := 0, cells := 0, slots := 0, locals := 0 } g sz [.ref hζ] [(hζ, .inr (7, oM Aζ Iζ)), aI g (Aζ 4) 10 (fun j => nI j)] 0 0 (fun Jζ => yrI Jζ) (fun Jζ => [(hζ, .inr (7, oM Aζ Jζ)), aI g (Aζ 4) 10 (fun j => nI j)]) := by
  refine gMet_v (cc := cX7_stir) (maxL := 1) (ret := none) (by decide) rfl (Nat.le_of_ble_eq_true rfl) ?_
  intro p e s m args below meth c Z hx hb hr F hlk hnm hK hN hA H locs hP hD hS ls hl
  have hl : lv_has ls 1 [(0, .ref hζ)] := hl
  have F : CallFix p m c cX7_stir 1 s args wsX7_stir RX7 := F
  have hts := F.2.2.2.2
  have hown : s.vm.findClass RX7 = some m.cls := F.2.2.2.1
  have hi7 : ∀ w ∈ u_ws RX7 TX7 34, w ∈ wsX7_stir := by decide +kernel
  refine lv_aload_n hx hb dX7_stir_0 rfl (lv_at hl 0 rfl) ?_
  refine lv_aload_n hx hb dX7_stir_1 rfl (lv_at hl 0 rfl) ?_
  refine va_get (D := g.1) (ci := 7) (v := .int (Iζ 6)) (C := RX7) (T := TX7) (N := 34) hx hb hts hi7 hown hK hP 0 rfl rfl 6 (by decide) (hts (.fieldLink RX7 127 "PanTalesModel" "heat" "I") (by decide +kernel)) (fun _ h9 => h9) rfl dX7_stir_2 ?_
  refine lv_bipush (v := 10) hx hb dX7_stir_5 (by decide) ?_
  refine lv_iadd hx hb dX7_stir_7 ?_
  refine lv_bipush (v := 99) hx hb dX7_stir_8 (by decide) ?_
  refine lv_icmp_le (tgt := 18) hx hb dX7_stir_10 (by decide) (fun c_1 => ?_) (fun c_1 => ?_)
  · refine lv_aload_n hx hb dX7_stir_18 rfl (lv_at hl 0 rfl) ?_
    refine va_get (D := g.1) (ci := 7) (v := .int (Iζ 6)) (C := RX7) (T := TX7) (N := 34) hx hb hts hi7 hown hK hP 0 rfl rfl 6 (by decide) (hts (.fieldLink RX7 127 "PanTalesModel" "heat" "I") (by decide +kernel)) (fun _ h9 => h9) rfl dX7_stir_19 ?_
    refine lv_bipush (v := 10) hx hb dX7_stir_22 (by decide) ?_
    refine lv_iadd hx hb dX7_stir_24 ?_
    refine va_put (D := g.1) (ci := 7) (v := .int ((Iζ 6) + 10)) (ty := .int) (C := RX7) (T := TX7) (N := 34) hx hb hts hi7 tyX7 tyX7_ok nmX7 hown hK hP hD hS 0 rfl rfl 6 (by decide) (hts (.fieldLink RX7 127 "PanTalesModel" "heat" "I") (by decide +kernel)) (fun _ h9 => h9) rfl (by decide +kernel) rfl rfl (Nat.le_of_ble_eq_true rfl) dX7_stir_25 (fun H locs hP hD hS => ?_)
    have hP : va_P g.1 vwCl [(hζ, .inr (7, oM Aζ (upd Iζ 6 ((Iζ 6) + 10)))), aI g (Aζ 4) 10 (fun j => nI j)] H := hP
    have hD : va_D Z [(hζ, .inr (7, oM Aζ (upd Iζ 6 ((Iζ 6) + 10)))), aI g (Aζ 4) 10 (fun j => nI j)] := hD
    refine lv_aload_n hx hb dX7_stir_28 rfl (lv_at hl 0 rfl) ?_
    refine lv_aload_n hx hb dX7_stir_29 rfl (lv_at hl 0 rfl) ?_
    refine va_get (D := g.1) (ci := 7) (v := .ref (Aζ 4)) (C := RX7) (T := TX7) (N := 34) hx hb hts hi7 hown hK hP 0 rfl rfl 4 (by decide) (hts (.fieldLink RX7 22 "PanTalesModel" "fades" "[I") (by decide +kernel)) (fun _ h9 => h9) rfl dX7_stir_30 ?_
    refine lv_aload_n hx hb dX7_stir_33 rfl (lv_at hl 0 rfl) ?_
    refine va_get (D := g.1) (ci := 7) (v := .int (Iζ 7)) (C := RX7) (T := TX7) (N := 34) hx hb hts hi7 hown hK hP 0 rfl rfl 7 (by decide) (hts (.fieldLink RX7 136 "PanTalesModel" "panTale" "I") (by decide +kernel)) (fun _ h9 => h9) rfl dX7_stir_34 ?_
    refine gtop (y := nI tζ) h7ζ ?_
    refine r_iald (v := nI tζ) hx hb hK hP 1 rfl (vp_in_nI (n := tζ) (by omega) (by omega)) (congrArg (fun j => nI j) (nI_clamp (n := tζ) (by omega))) dX7_stir_37 ?_
    refine va_put (D := g.1) (ci := 7) (v := .int (nI tζ)) (ty := .int) (C := RX7) (T := TX7) (N := 34) hx hb hts hi7 tyX7 tyX7_ok nmX7 hown hK hP hD hS 0 rfl rfl 7 (by decide) (hts (.fieldLink RX7 136 "PanTalesModel" "panTale" "I") (by decide +kernel)) (fun _ h9 => h9) rfl (by decide +kernel) rfl rfl (Nat.le_of_ble_eq_true rfl) dX7_stir_38 (fun H locs hP hD hS => ?_)
    have hP : va_P g.1 vwCl [(hζ, .inr (7, oM Aζ (upd (upd Iζ 6 ((Iζ 6) + 10)) 7 (nI tζ)))), aI g (Aζ 4) 10 (fun j => nI j)] H := hP
    have hD : va_D Z [(hζ, .inr (7, oM Aζ (upd (upd Iζ 6 ((Iζ 6) + 10)) 7 (nI tζ)))), aI g (Aζ 4) 10 (fun j => nI j)] := hD
    exact r_vret hx hb hr hlk hS (upd (upd Iζ 6 ((Iζ 6) + 10)) 7 (nI tζ)) ⟨h8ζ, tζ, htζ, rfl⟩ (hP.sub [0, 1] rfl) (hD.sub [0, 1] (by decide) rfl) dX7_stir_41
  · refine lv_bipush (v := 99) hx hb dX7_stir_13 (by decide) ?_
    refine lv_goto (tgt := 25) hx hb dX7_stir_15 (by decide) ?_
    refine va_put (D := g.1) (ci := 7) (v := .int 99) (ty := .int) (C := RX7) (T := TX7) (N := 34) hx hb hts hi7 tyX7 tyX7_ok nmX7 hown hK hP hD hS 0 rfl rfl 6 (by decide) (hts (.fieldLink RX7 127 "PanTalesModel" "heat" "I") (by decide +kernel)) (fun _ h9 => h9) rfl (by decide +kernel) rfl rfl (Nat.le_of_ble_eq_true rfl) dX7_stir_25 (fun H locs hP hD hS => ?_)
    have hP : va_P g.1 vwCl [(hζ, .inr (7, oM Aζ (upd Iζ 6 99))), aI g (Aζ 4) 10 (fun j => nI j)] H := hP
    have hD : va_D Z [(hζ, .inr (7, oM Aζ (upd Iζ 6 99))), aI g (Aζ 4) 10 (fun j => nI j)] := hD
    refine lv_aload_n hx hb dX7_stir_28 rfl (lv_at hl 0 rfl) ?_
    refine lv_aload_n hx hb dX7_stir_29 rfl (lv_at hl 0 rfl) ?_
    refine va_get (D := g.1) (ci := 7) (v := .ref (Aζ 4)) (C := RX7) (T := TX7) (N := 34) hx hb hts hi7 hown hK hP 0 rfl rfl 4 (by decide) (hts (.fieldLink RX7 22 "PanTalesModel" "fades" "[I") (by decide +kernel)) (fun _ h9 => h9) rfl dX7_stir_30 ?_
    refine lv_aload_n hx hb dX7_stir_33 rfl (lv_at hl 0 rfl) ?_
    refine va_get (D := g.1) (ci := 7) (v := .int (Iζ 7)) (C := RX7) (T := TX7) (N := 34) hx hb hts hi7 hown hK hP 0 rfl rfl 7 (by decide) (hts (.fieldLink RX7 136 "PanTalesModel" "panTale" "I") (by decide +kernel)) (fun _ h9 => h9) rfl dX7_stir_34 ?_
    refine gtop (y := nI tζ) h7ζ ?_
    refine r_iald (v := nI tζ) hx hb hK hP 1 rfl (vp_in_nI (n := tζ) (by omega) (by omega)) (congrArg (fun j => nI j) (nI_clamp (n := tζ) (by omega))) dX7_stir_37 ?_
    refine va_put (D := g.1) (ci := 7) (v := .int (nI tζ)) (ty := .int) (C := RX7) (T := TX7) (N := 34) hx hb hts hi7 tyX7 tyX7_ok nmX7 hown hK hP hD hS 0 rfl rfl 7 (by decide) (hts (.fieldLink RX7 136 "PanTalesModel" "panTale" "I") (by decide +kernel)) (fun _ h9 => h9) rfl (by decide +kernel) rfl rfl (Nat.le_of_ble_eq_true rfl) dX7_stir_38 (fun H locs hP hD hS => ?_)
    have hP : va_P g.1 vwCl [(hζ, .inr (7, oM Aζ (upd (upd Iζ 6 99) 7 (nI tζ)))), aI g (Aζ 4) 10 (fun j => nI j)] H := hP
    have hD : va_D Z [(hζ, .inr (7, oM Aζ (upd (upd Iζ 6 99) 7 (nI tζ)))), aI g (Aζ 4) 10 (fun j => nI j)] := hD
    exact r_vret hx hb hr hlk hS (upd (upd Iζ 6 99) 7 (nI tζ)) ⟨h8ζ, tζ, htζ, rfl⟩ (hP.sub [0, 1] rfl) (hD.sub [0, 1] (by decide) rfl) dX7_stir_41
set_option maxHeartbeats 4000000 in
set_option maxRecDepth 100000 in
theorem c_X7_morning (l : Launch) (g : GT) (sz : Nat) (hζ : Nat) (Aζ : Nat → Nat) (Iζ : Nat → Int32) (tζ : Nat) (htζ : tζ < 10) (h8ζ : Iζ 5 = 10) (h7ζ : Iζ 7 = nI tζ) : Mv (S := Nat → Int32) l yX7_morning wsX7_morning { frames := 0, cells := 0, slots := 0, locals := 0 } g sz [.ref hζ] [(hζ, .inr (7, oM Aζ Iζ)), aI g (Aζ 2) 10 (fun _ => 0)] 0 0 (fun Jζ => yrI Jζ) (fun Jζ => [(hζ, .inr (7, oM Aζ Jζ)), aI g (Aζ 2) 10 (fun _ => 0)]) := by
  refine gMet_v (cc := cX7_morning) (maxL := 2) (ret := none) (by decide) rfl (Nat.le_of_ble_eq_true rfl) ?_
  intro p e s m args below meth c Z hx hb hr F hlk hnm hK hN hA H locs hP hD hS ls hl
  have hl : lv_has ls 2 [(0, .ref hζ)] := hl
  have F : CallFix p m c cX7_morning 2 s args wsX7_morning RX7 := F
  have hts := F.2.2.2.2
  have hown : s.vm.findClass RX7 = some m.cls := F.2.2.2.1
  have hi7 : ∀ w ∈ u_ws RX7 TX7 34, w ∈ wsX7_morning := by decide +kernel
  refine lv_aload_n hx hb dX7_morning_0 rfl (lv_at hl 0 rfl) ?_
  refine lv_bipush (v := 10) hx hb dX7_morning_1 (by decide) ?_
  refine va_put (D := g.1) (ci := 7) (v := .int 10) (ty := .int) (C := RX7) (T := TX7) (N := 34) hx hb hts hi7 tyX7 tyX7_ok nmX7 hown hK hP hD hS 0 rfl rfl 5 (by decide) (hts (.fieldLink RX7 72 "PanTalesModel" "panPlace" "I") (by decide +kernel)) (fun _ h9 => h9) rfl (by decide +kernel) rfl rfl (Nat.le_of_ble_eq_true rfl) dX7_morning_3 (fun H locs hP hD hS => ?_)
  have hP : va_P g.1 vwCl [(hζ, .inr (7, oM Aζ (upd Iζ 5 10))), aI g (Aζ 2) 10 (fun _ => 0)] H := hP
  have hD : va_D Z [(hζ, .inr (7, oM Aζ (upd Iζ 5 10))), aI g (Aζ 2) 10 (fun _ => 0)] := hD
  refine lv_aload_n hx hb dX7_morning_6 rfl (lv_at hl 0 rfl) ?_
  refine lv_iconst (v := 0) hx hb dX7_morning_7 (by decide) ?_
  refine va_put (D := g.1) (ci := 7) (v := .int 0) (ty := .int) (C := RX7) (T := TX7) (N := 34) hx hb hts hi7 tyX7 tyX7_ok nmX7 hown hK hP hD hS 0 rfl rfl 6 (by decide) (hts (.fieldLink RX7 127 "PanTalesModel" "heat" "I") (by decide +kernel)) (fun _ h9 => h9) rfl (by decide +kernel) rfl rfl (Nat.le_of_ble_eq_true rfl) dX7_morning_8 (fun H locs hP hD hS => ?_)
  have hP : va_P g.1 vwCl [(hζ, .inr (7, oM Aζ (upd (upd Iζ 5 10) 6 0))), aI g (Aζ 2) 10 (fun _ => 0)] H := hP
  have hD : va_D Z [(hζ, .inr (7, oM Aζ (upd (upd Iζ 5 10) 6 0))), aI g (Aζ 2) 10 (fun _ => 0)] := hD
  refine lv_iconst (v := 0) hx hb dX7_morning_11 (by decide) ?_
  refine lv_istore_n (lv' := [(1, .int 0), (0, .ref hζ)]) hx hb dX7_morning_12 rfl hl (by decide) rfl (fun ls hl => ?_)
  refine gloop (σ := Nat) (fun u0 => 10 - u0) (fun u0 => u0 ≤ 10) (fun u0 => [(hζ, .inr (7, oM Aζ (upd (upd Iζ 5 10) 6 0))), aI g (Aζ 2) 10 (fun _ => 0)]) (fun u0 => [(1, .int (nI u0)), (0, .ref hζ)]) ?_ 0 (by first | omega | decide | rfl) (hP.sub [0, 1] rfl) (hD.sub [0, 1] (by decide) rfl) hS (lv_sub hl [0, 1] rfl)
  rintro iζ hiζ ih13 H locs ls hP hD hS hl
  have hiζ : iζ ≤ 10 := hiζ
  have hP : va_P g.1 vwCl [(hζ, .inr (7, oM Aζ (upd (upd Iζ 5 10) 6 0))), aI g (Aζ 2) 10 (fun _ => 0)] H := hP
  have hD : va_D Z [(hζ, .inr (7, oM Aζ (upd (upd Iζ 5 10) 6 0))), aI g (Aζ 2) 10 (fun _ => 0)] := hD
  have hl : lv_has ls 2 [(1, .int (nI iζ)), (0, .ref hζ)] := hl
  refine lv_iload_n hx hb dX7_morning_13 rfl (lv_at hl 0 rfl) ?_
  refine lv_bipush (v := 10) hx hb dX7_morning_14 (by decide) ?_
  refine lv_icmp_ge (tgt := 32) hx hb dX7_morning_16 (by decide) (fun c_1 => ?_) (fun c_1 => ?_)
  · have c_1 : 10 ≤ iζ := (nI_leI (a := 10) (b := iζ) (by omega) (by omega)).mp c_1
    refine lv_aload_n hx hb dX7_morning_32 rfl (lv_at hl 1 rfl) ?_
    refine lv_dup hx hb dX7_morning_33 rfl ?_
    refine va_get (D := g.1) (ci := 7) (v := .int (Iζ 8)) (C := RX7) (T := TX7) (N := 34) hx hb hts hi7 hown hK hP 0 rfl rfl 8 (by decide) (hts (.fieldLink RX7 130 "PanTalesModel" "mornings" "I") (by decide +kernel)) (fun _ h9 => h9) rfl dX7_morning_34 ?_
    refine lv_iconst (v := 1) hx hb dX7_morning_37 (by decide) ?_
    refine lv_iadd hx hb dX7_morning_38 ?_
    refine va_put (D := g.1) (ci := 7) (v := .int ((Iζ 8) + 1)) (ty := .int) (C := RX7) (T := TX7) (N := 34) hx hb hts hi7 tyX7 tyX7_ok nmX7 hown hK hP hD hS 0 rfl rfl 8 (by decide) (hts (.fieldLink RX7 130 "PanTalesModel" "mornings" "I") (by decide +kernel)) (fun _ h9 => h9) rfl (by decide +kernel) rfl rfl (Nat.le_of_ble_eq_true rfl) dX7_morning_39 (fun H locs hP hD hS => ?_)
    have hP : va_P g.1 vwCl [(hζ, .inr (7, oM Aζ (upd (upd (upd Iζ 5 10) 6 0) 8 ((Iζ 8) + 1)))), aI g (Aζ 2) 10 (fun _ => 0)] H := hP
    have hD : va_D Z [(hζ, .inr (7, oM Aζ (upd (upd (upd Iζ 5 10) 6 0) 8 ((Iζ 8) + 1)))), aI g (Aζ 2) 10 (fun _ => 0)] := hD
    exact r_vret hx hb hr hlk hS (upd (upd (upd Iζ 5 10) 6 0) 8 ((Iζ 8) + 1)) ⟨rfl, tζ, htζ, h7ζ⟩ (hP.sub [0, 1] rfl) (hD.sub [0, 1] (by decide) rfl) dX7_morning_42
  · have c_1 : ¬ 10 ≤ iζ := fun z => c_1 ((nI_leI (a := 10) (b := iζ) (by omega) (by omega)).mpr z)
    refine lv_aload_n hx hb dX7_morning_19 rfl (lv_at hl 1 rfl) ?_
    refine va_get (D := g.1) (ci := 7) (v := .ref (Aζ 2)) (C := RX7) (T := TX7) (N := 34) hx hb hts hi7 hown hK hP 0 rfl rfl 2 (by decide) (hts (.fieldLink RX7 16 "PanTalesModel" "damp" "[I") (by decide +kernel)) (fun _ h9 => h9) rfl dX7_morning_20 ?_
    refine lv_iload_n hx hb dX7_morning_23 rfl (lv_at hl 0 rfl) ?_
    refine lv_iconst (v := 0) hx hb dX7_morning_24 (by decide) ?_
    refine r_iast (f' := (fun _ => 0)) hx hb hK hP hD hS 1 rfl (vp_in_nI (n := iζ) (by omega) (by omega)) z_upd dX7_morning_25 (fun H locs hP hD hS => ?_)
    have hP : va_P g.1 vwCl [(hζ, .inr (7, oM Aζ (upd (upd Iζ 5 10) 6 0))), aI g (Aζ 2) 10 (fun _ => 0)] H := hP
    have hD : va_D Z [(hζ, .inr (7, oM Aζ (upd (upd Iζ 5 10) 6 0))), aI g (Aζ 2) 10 (fun _ => 0)] := hD
    refine lv_iinc (v := nI (iζ + 1)) (lv' := [(1, .int (nI (iζ + 1))), (0, .ref hζ)]) hx hb dX7_morning_26 hl (k := 0) rfl (nI_1 iζ) (by decide) rfl (fun ls hl => ?_)
    refine lv_goto (tgt := 13) hx hb dX7_morning_29 (by decide) ?_
    exact ih13 (iζ + 1) (by first | omega | (dsimp only; omega)) (by first | omega | (dsimp only; omega)) _ _ _ (hP.sub [0, 1] rfl) (hD.sub [0, 1] (by decide) rfl) hS (lv_sub hl [0, 1] rfl)
set_option maxHeartbeats 4000000 in
set_option maxRecDepth 100000 in
theorem c_X7_happen (l : Launch) (g : GT) (sz : Nat) (hζ : Nat) (Aζ : Nat → Nat) (Iζ : Nat → Int32) (kζ nζ : Nat) (yζ : Int32) (hkζ : kζ < 5) (h12ζ : kζ ≠ 1 ∧ kζ ≠ 2) (hn10ζ : kζ = 0 → nζ < 10) (hyrζ : yrI Iζ) : Mv (S := Nat → Int32) l yX7_happen wsX7_happen { frames := 1, cells := 0, slots := 0, locals := 22 } g sz [.ref hζ, .int (nI kζ), .int (nI nζ), .int yζ] [(hζ, .inr (7, oM Aζ Iζ)), aI g (Aζ 2) 10 (fun _ => 0), aI g (Aζ 4) 10 (fun j => nI j)] 0 0 (fun Jζ => yrI Jζ) (fun Jζ => [(hζ, .inr (7, oM Aζ Jζ)), aI g (Aζ 2) 10 (fun _ => 0), aI g (Aζ 4) 10 (fun j => nI j)]) := by
  refine gMet_v (cc := cX7_happen) (maxL := 4) (ret := none) (by decide) rfl (Nat.le_of_ble_eq_true rfl) ?_
  intro p e s m args below meth c Z hx hb hr F hlk hnm hK hN hA H locs hP hD hS ls hl
  have hl : lv_has ls 4 [(0, .ref hζ), (1, .int (nI kζ)), (2, .int (nI nζ)), (3, .int yζ)] := hl
  have F : CallFix p m c cX7_happen 4 s args wsX7_happen RX7 := F
  have hts := F.2.2.2.2
  have hown : s.vm.findClass RX7 = some m.cls := F.2.2.2.1
  obtain ⟨h8ζ, tζ, htζ, h7ζ⟩ := hyrζ
  refine lv_iload_n hx hb dX7_happen_0 rfl (lv_at hl 1 rfl) ?_
  by_cases k_1 : nI kζ = 0
  · refine gtop (y := 0) k_1 ?_
    refine lv_tableIn (tgt := 32) (off := 31) hx hb dX7_happen_1 (by decide) (by decide) rfl (by decide) ?_
    refine lv_aload_n hx hb dX7_happen_32 rfl (lv_at hl 0 rfl) ?_
    refine lv_iload_n hx hb dX7_happen_33 rfl (lv_at hl 2 rfl) ?_
    refine lv_iload_n hx hb dX7_happen_34 rfl (lv_at hl 3 rfl) ?_
    refine gcV_v (As := [.int (nI nζ), .int yζ]) (rest := []) (ci := 7) (q := (RX7, TX7, 34)) F hK hN hP hD hS hA (c_X7_fill l g H.size hζ Aζ Iζ (nI nζ) yζ) gX7_happen_X7_fill kX7_fill rfl rfl rfl rfl ⟨(Nat.le_of_ble_eq_true rfl), (Nat.le_of_ble_eq_true rfl)⟩ [0] [1, 2] rfl rfl rfl (by decide) rfl rfl rfl rfl rfl hl.1 (Nat.le_of_ble_eq_true rfl) dX7_happen_35 ⟨(Nat.le_of_ble_eq_true rfl), (Nat.le_of_ble_eq_true rfl)⟩ (fun u_w H locs hw hP hD hS => ?_)
    have hP : va_P g.1 vwCl [aI g (Aζ 2) 10 (fun _ => 0), aI g (Aζ 4) 10 (fun j => nI j), (hζ, .inr (7, oM Aζ (upd (upd Iζ 7 (nI nζ)) 6 yζ)))] H := hP
    have hD : va_D Z [aI g (Aζ 2) 10 (fun _ => 0), aI g (Aζ 4) 10 (fun j => nI j), (hζ, .inr (7, oM Aζ (upd (upd Iζ 7 (nI nζ)) 6 yζ)))] := hD
    refine lv_goto (tgt := 67) hx hb dX7_happen_38 (by decide) ?_
    exact r_vret hx hb hr hlk hS (upd (upd Iζ 7 (nI nζ)) 6 yζ) ⟨h8ζ, nζ, hn10ζ ((nI_eq (a := kζ) (b := 0) (by omega) (by decide)).mp k_1), rfl⟩ (hP.sub [2, 0, 1] rfl) (hD.sub [2, 0, 1] (by decide) rfl) dX7_happen_67
  by_cases k_2 : nI kζ = 1
  · exact absurd ((nI_eq (a := kζ) (b := 1) (by omega) (by omega)).mp k_2) h12ζ.1
  by_cases k_3 : nI kζ = 2
  · exact absurd ((nI_eq (a := kζ) (b := 2) (by omega) (by omega)).mp k_3) h12ζ.2
  by_cases k_4 : nI kζ = 3
  · refine gtop (y := 3) k_4 ?_
    refine lv_tableIn (tgt := 56) (off := 55) hx hb dX7_happen_1 (by decide) (by decide) rfl (by decide) ?_
    refine lv_aload_n hx hb dX7_happen_56 rfl (lv_at hl 0 rfl) ?_
    refine gcV_v (As := []) (rest := []) (ci := 7) (q := (RX7, TX7, 34)) F hK hN hP hD hS hA (c_X7_stir l g H.size hζ Aζ Iζ tζ htζ h8ζ h7ζ) gX7_happen_X7_stir kX7_stir rfl rfl rfl rfl ⟨(Nat.le_of_ble_eq_true rfl), (Nat.le_of_ble_eq_true rfl)⟩ [0, 2] [1] rfl rfl rfl (by decide) rfl rfl rfl rfl rfl hl.1 (Nat.le_of_ble_eq_true rfl) dX7_happen_57 ⟨(Nat.le_of_ble_eq_true rfl), (Nat.le_of_ble_eq_true rfl)⟩ (fun u_w H locs hw hP hD hS => ?_)
    obtain ⟨J_5, rfl⟩ : ∃ z, z = u_w := ⟨_, rfl⟩
    have hw_6 := hw
    have hP : va_P g.1 vwCl [aI g (Aζ 2) 10 (fun _ => 0), (hζ, .inr (7, oM Aζ J_5)), aI g (Aζ 4) 10 (fun j => nI j)] H := hP
    have hD : va_D Z [aI g (Aζ 2) 10 (fun _ => 0), (hζ, .inr (7, oM Aζ J_5)), aI g (Aζ 4) 10 (fun j => nI j)] := hD
    refine lv_goto (tgt := 67) hx hb dX7_happen_60 (by decide) ?_
    exact r_vret hx hb hr hlk hS J_5 hw_6 (hP.sub [1, 0, 2] rfl) (hD.sub [1, 0, 2] (by decide) rfl) dX7_happen_67
  refine lv_tableOut (tgt := 63) hx hb dX7_happen_1 (sw_out 4 (by decide) (by decide) (lt_s (lt_s (lt_s (lt_s lt_0 k_1) k_2) k_3) k_4)) (by decide) ?_
  refine lv_aload_n hx hb dX7_happen_63 rfl (lv_at hl 0 rfl) ?_
  refine gcV_v (As := []) (rest := []) (ci := 7) (q := (RX7, TX7, 34)) F hK hN hP hD hS hA (c_X7_morning l g H.size hζ Aζ Iζ tζ htζ h8ζ h7ζ) gX7_happen_X7_morning kX7_morning rfl rfl rfl rfl ⟨(Nat.le_of_ble_eq_true rfl), (Nat.le_of_ble_eq_true rfl)⟩ [0, 1] [2] rfl rfl rfl (by decide) rfl rfl rfl rfl rfl hl.1 (Nat.le_of_ble_eq_true rfl) dX7_happen_64 ⟨(Nat.le_of_ble_eq_true rfl), (Nat.le_of_ble_eq_true rfl)⟩ (fun u_w H locs hw hP hD hS => ?_)
  obtain ⟨J_7, rfl⟩ : ∃ z, z = u_w := ⟨_, rfl⟩
  have hw_8 := hw
  have hP : va_P g.1 vwCl [aI g (Aζ 4) 10 (fun j => nI j), (hζ, .inr (7, oM Aζ J_7)), aI g (Aζ 2) 10 (fun _ => 0)] H := hP
  have hD : va_D Z [aI g (Aζ 4) 10 (fun j => nI j), (hζ, .inr (7, oM Aζ J_7)), aI g (Aζ 2) 10 (fun _ => 0)] := hD
  exact r_vret hx hb hr hlk hS J_7 hw_8 (hP.sub [1, 2, 0] rfl) (hD.sub [1, 2, 0] (by decide) rfl) dX7_happen_67
set_option maxHeartbeats 4000000 in
set_option maxRecDepth 100000 in
theorem c_X7_talesBelieved (l : Launch) (g : GT) (sz : Nat) (hζ : Nat) (Aζ : Nat → Nat) (Iζ : Nat → Int32) : Ci l yX7_talesBelieved wsX7_talesBelieved { frames := 1, cells := 0, slots := 0, locals := 23 } g sz [.ref hζ] [(hζ, .inr (7, oM Aζ Iζ)), aI g (Aζ 3) 10 (fun _ => (-6))] 0 [(hζ, .inr (7, oM Aζ Iζ)), aI g (Aζ 3) 10 (fun _ => (-6))] := by
  refine gMet_i (cc := cX7_talesBelieved) (maxL := 3) (ret := (some .int)) (by decide) rfl (Nat.le_of_ble_eq_true rfl) ?_
  intro p e s m args below meth c Z hx hb hr F hlk hnm hK hN hA H locs hP hD hS ls hl
  have hl : lv_has ls 3 [(0, .ref hζ)] := hl
  have F : CallFix p m c cX7_talesBelieved 3 s args wsX7_talesBelieved RX7 := F
  have hts := F.2.2.2.2
  have hown : s.vm.findClass RX7 = some m.cls := F.2.2.2.1
  refine lv_iconst (v := 0) hx hb dX7_talesBelieved_0 (by decide) ?_
  refine lv_istore_n (lv' := [(1, .int 0), (0, .ref hζ)]) hx hb dX7_talesBelieved_1 rfl hl (by decide) rfl (fun ls hl => ?_)
  refine lv_iconst (v := 0) hx hb dX7_talesBelieved_2 (by decide) ?_
  refine lv_istore_n (lv' := [(2, .int 0), (1, .int 0), (0, .ref hζ)]) hx hb dX7_talesBelieved_3 rfl hl (by decide) rfl (fun ls hl => ?_)
  refine gloop (σ := Nat) (fun u0 => 10 - u0) (fun u0 => u0 ≤ 10) (fun u0 => [(hζ, .inr (7, oM Aζ Iζ)), aI g (Aζ 3) 10 (fun _ => (-6))]) (fun u0 => [(2, .int (nI u0)), (1, .int 0), (0, .ref hζ)]) ?_ 0 (by first | omega | decide | rfl) (hP.sub [0, 1] rfl) (hD.sub [0, 1] (by decide) rfl) hS (lv_sub hl [0, 1, 2] rfl)
  rintro iζ hiζ ih4 H locs ls hP hD hS hl
  have hiζ : iζ ≤ 10 := hiζ
  have hP : va_P g.1 vwCl [(hζ, .inr (7, oM Aζ Iζ)), aI g (Aζ 3) 10 (fun _ => (-6))] H := hP
  have hD : va_D Z [(hζ, .inr (7, oM Aζ Iζ)), aI g (Aζ 3) 10 (fun _ => (-6))] := hD
  have hl : lv_has ls 3 [(2, .int (nI iζ)), (1, .int 0), (0, .ref hζ)] := hl
  refine lv_iload_n hx hb dX7_talesBelieved_4 rfl (lv_at hl 0 rfl) ?_
  refine lv_bipush (v := 10) hx hb dX7_talesBelieved_5 (by decide) ?_
  refine lv_icmp_ge (tgt := 32) hx hb dX7_talesBelieved_7 (by decide) (fun c_1 => ?_) (fun c_1 => ?_)
  · have c_1 : 10 ≤ iζ := (nI_leI (a := 10) (b := iζ) (by omega) (by omega)).mp c_1
    refine lv_iload_n hx hb dX7_talesBelieved_32 rfl (lv_at hl 1 rfl) ?_
    exact r_iret hx hb hr hlk hS () rfl (hP.sub [0, 1] rfl) (hD.sub [0, 1] (by decide) rfl) dX7_talesBelieved_33
  · have c_1 : ¬ 10 ≤ iζ := fun z => c_1 ((nI_leI (a := 10) (b := iζ) (by omega) (by omega)).mpr z)
    refine lv_iload_n hx hb dX7_talesBelieved_10 rfl (lv_at hl 1 rfl) ?_
    refine lv_aload_n hx hb dX7_talesBelieved_11 rfl (lv_at hl 2 rfl) ?_
    refine lv_iload_n hx hb dX7_talesBelieved_12 rfl (lv_at hl 0 rfl) ?_
    refine gcV_i (As := [.int (nI iζ)]) (rest := [.int 0]) (ci := 7) (q := (RX7, TX7, 34)) F hK hN hP hD hS hA (c_X7_believing_t l g H.size hζ Aζ Iζ iζ (by omega)) gX7_talesBelieved_X7_believing kX7_believing rfl rfl rfl rfl ⟨(Nat.le_of_ble_eq_true rfl), (Nat.le_of_ble_eq_true rfl)⟩ [0, 1] [] rfl rfl rfl (by decide) rfl rfl rfl rfl rfl hl.1 (Nat.le_of_ble_eq_true rfl) dX7_talesBelieved_13 ⟨(Nat.le_of_ble_eq_true rfl), (Nat.le_of_ble_eq_true rfl)⟩ (fun r_w u_w H locs hw hP hD hS => ?_)
    have hP : va_P g.1 vwCl [(hζ, .inr (7, oM Aζ Iζ)), aI g (Aζ 3) 10 (fun _ => (-6))] H := hP
    have hD : va_D Z [(hζ, .inr (7, oM Aζ Iζ)), aI g (Aζ 3) 10 (fun _ => (-6))] := hD
    obtain rfl := hw
    refine lv_if_eq (tgt := 23) hx hb dX7_talesBelieved_16 (by decide) (fun c_2 => ?_) (fun c_2 => ?_)
    · refine lv_iconst (v := 0) hx hb dX7_talesBelieved_23 (by decide) ?_
      refine lv_iadd hx hb dX7_talesBelieved_24 ?_
      refine gtop (y := 0) (by decide) ?_
      refine lv_istore_n (lv' := [(1, .int 0), (2, .int (nI iζ)), (0, .ref hζ)]) hx hb dX7_talesBelieved_25 rfl hl (by decide) rfl (fun ls hl => ?_)
      refine lv_iinc (v := nI (iζ + 1)) (lv' := [(2, .int (nI (iζ + 1))), (1, .int 0), (0, .ref hζ)]) hx hb dX7_talesBelieved_26 hl (k := 1) rfl (nI_1 iζ) (by decide) rfl (fun ls hl => ?_)
      refine lv_goto (tgt := 4) hx hb dX7_talesBelieved_29 (by decide) ?_
      exact ih4 (iζ + 1) (by first | omega | (dsimp only; omega)) (by first | omega | (dsimp only; omega)) _ _ _ (hP.sub [0, 1] rfl) (hD.sub [0, 1] (by decide) rfl) hS (lv_sub hl [0, 1, 2] rfl)
    · exact absurd (by decide) c_2
set_option maxHeartbeats 4000000 in
set_option maxRecDepth 100000 in
theorem c_X7_doubts (l : Launch) (g : GT) (sz : Nat) (hζ : Nat) (Aζ : Nat → Nat) (Iζ : Nat → Int32) : Ci l yX7_doubts wsX7_doubts { frames := 0, cells := 0, slots := 0, locals := 0 } g sz [.ref hζ] [(hζ, .inr (7, oM Aζ Iζ)), aI g (Aζ 1) 10 (fun _ => 5)] 50 [(hζ, .inr (7, oM Aζ Iζ)), aI g (Aζ 1) 10 (fun _ => 5)] := by
  refine gMet_i (cc := cX7_doubts) (maxL := 3) (ret := (some .int)) (by decide) rfl (Nat.le_of_ble_eq_true rfl) ?_
  intro p e s m args below meth c Z hx hb hr F hlk hnm hK hN hA H locs hP hD hS ls hl
  have hl : lv_has ls 3 [(0, .ref hζ)] := hl
  have F : CallFix p m c cX7_doubts 3 s args wsX7_doubts RX7 := F
  have hts := F.2.2.2.2
  have hown : s.vm.findClass RX7 = some m.cls := F.2.2.2.1
  have hi7 : ∀ w ∈ u_ws RX7 TX7 34, w ∈ wsX7_doubts := by decide +kernel
  refine lv_iconst (v := 0) hx hb dX7_doubts_0 (by decide) ?_
  refine lv_istore_n (lv' := [(1, .int 0), (0, .ref hζ)]) hx hb dX7_doubts_1 rfl hl (by decide) rfl (fun ls hl => ?_)
  refine lv_iconst (v := 0) hx hb dX7_doubts_2 (by decide) ?_
  refine lv_istore_n (lv' := [(2, .int 0), (1, .int 0), (0, .ref hζ)]) hx hb dX7_doubts_3 rfl hl (by decide) rfl (fun ls hl => ?_)
  refine gloop (σ := Nat) (fun u0 => 10 - u0) (fun u0 => u0 ≤ 10) (fun u0 => [(hζ, .inr (7, oM Aζ Iζ)), aI g (Aζ 1) 10 (fun _ => 5)]) (fun u0 => [(2, .int (nI u0)), (1, .int (nI (5 * u0))), (0, .ref hζ)]) ?_ 0 (by first | omega | decide | rfl) (hP.sub [0, 1] rfl) (hD.sub [0, 1] (by decide) rfl) hS (lv_sub hl [0, 1, 2] rfl)
  rintro iζ hiζ ih4 H locs ls hP hD hS hl
  have hiζ : iζ ≤ 10 := hiζ
  have hP : va_P g.1 vwCl [(hζ, .inr (7, oM Aζ Iζ)), aI g (Aζ 1) 10 (fun _ => 5)] H := hP
  have hD : va_D Z [(hζ, .inr (7, oM Aζ Iζ)), aI g (Aζ 1) 10 (fun _ => 5)] := hD
  have hl : lv_has ls 3 [(2, .int (nI iζ)), (1, .int (nI (5 * iζ))), (0, .ref hζ)] := hl
  refine lv_iload_n hx hb dX7_doubts_4 rfl (lv_at hl 0 rfl) ?_
  refine lv_bipush (v := 10) hx hb dX7_doubts_5 (by decide) ?_
  refine lv_icmp_ge (tgt := 25) hx hb dX7_doubts_7 (by decide) (fun c_1 => ?_) (fun c_1 => ?_)
  · have c_1 : 10 ≤ iζ := (nI_leI (a := 10) (b := iζ) (by omega) (by omega)).mp c_1
    obtain rfl : iζ = 10 := by omega
    skip
    refine lv_iload_n hx hb dX7_doubts_25 rfl (lv_at hl 1 rfl) ?_
    exact r_iret hx hb hr hlk hS () rfl (hP.sub [0, 1] rfl) (hD.sub [0, 1] (by decide) rfl) dX7_doubts_26
  · have c_1 : ¬ 10 ≤ iζ := fun z => c_1 ((nI_leI (a := 10) (b := iζ) (by omega) (by omega)).mpr z)
    refine lv_iload_n hx hb dX7_doubts_10 rfl (lv_at hl 1 rfl) ?_
    refine lv_aload_n hx hb dX7_doubts_11 rfl (lv_at hl 2 rfl) ?_
    refine va_get (D := g.1) (ci := 7) (v := .ref (Aζ 1)) (C := RX7) (T := TX7) (N := 34) hx hb hts hi7 hown hK hP 0 rfl rfl 1 (by decide) (hts (.fieldLink RX7 13 "PanTalesModel" "doubt" "[I") (by decide +kernel)) (fun _ h9 => h9) rfl dX7_doubts_12 ?_
    refine lv_iload_n hx hb dX7_doubts_15 rfl (lv_at hl 0 rfl) ?_
    refine r_iald (v := 5) hx hb hK hP 1 rfl (vp_in_nI (n := iζ) (by omega) (by omega)) (congrArg (fun _ => 5) (nI_clamp (n := iζ) (by omega))) dX7_doubts_16 ?_
    refine lv_iadd hx hb dX7_doubts_17 ?_
    refine gtop (y := nI (5 * (iζ + 1))) (by rw [show nI (5 * (iζ + 1)) = nI (5 * iζ + 5) from rfl]; exact nI_add (5 * iζ) 5) ?_
    refine lv_istore_n (lv' := [(1, .int (nI (5 * (iζ + 1)))), (2, .int (nI iζ)), (0, .ref hζ)]) hx hb dX7_doubts_18 rfl hl (by decide) rfl (fun ls hl => ?_)
    refine lv_iinc (v := nI (iζ + 1)) (lv' := [(2, .int (nI (iζ + 1))), (1, .int (nI (5 * (iζ + 1)))), (0, .ref hζ)]) hx hb dX7_doubts_19 hl (k := 1) rfl (nI_1 iζ) (by decide) rfl (fun ls hl => ?_)
    refine lv_goto (tgt := 4) hx hb dX7_doubts_22 (by decide) ?_
    exact ih4 (iζ + 1) (by first | omega | (dsimp only; omega)) (by first | omega | (dsimp only; omega)) _ _ _ (hP.sub [0, 1] rfl) (hD.sub [0, 1] (by decide) rfl) hS (lv_sub hl [0, 1, 2] rfl)
set_option maxHeartbeats 4000000 in
set_option maxRecDepth 100000 in
theorem c_X7_year (l : Launch) (g : GT) (sz : Nat) (hζ : Nat) (Aζ : Nat → Nat) (xζ yζ zζ : Int32) : Ci l yX7_year wsX7_year { frames := 2, cells := 0, slots := 0, locals := 45 } g sz [.ref hζ, .int xζ, .int yζ, .int zζ] [(hζ, .inr (7, oM Aζ iM0)), aI g (Aζ 0) 121 (fun _ => 0), aI g (Aζ 1) 10 (fun _ => 5), aI g (Aζ 2) 10 (fun _ => 0), aI g (Aζ 3) 10 (fun _ => (-6)), aI g (Aζ 4) 10 (fun jζ => nI jζ), aI g (Aζ 18) 34 (fun _ => 0)] (yearF xζ yζ zζ) [] := by
  refine gMet_i (cc := cX7_year) (maxL := 9) (ret := (some .int)) (by decide) rfl (Nat.le_of_ble_eq_true rfl) ?_
  intro p e s m args below meth c Z hx hb hr F hlk hnm hK hN hA H locs hP hD hS ls hl
  have hl : lv_has ls 9 [(0, .ref hζ), (1, .int xζ), (2, .int yζ), (3, .int zζ)] := hl
  have F : CallFix p m c cX7_year 9 s args wsX7_year RX7 := F
  have hts := F.2.2.2.2
  have hown : s.vm.findClass RX7 = some m.cls := F.2.2.2.1
  refine lv_iload_n hx hb dX7_year_0 rfl (lv_at hl 1 rfl) ?_
  refine lv_i2l (v := xζ.toInt64) hx hb dX7_year_1 rfl ?_
  refine lv_lconst (v := 0) hx hb dX7_year_2 (by decide) ?_
  refine lv_ldc2 (v := 9999) hx hb hown (hts (.constantLong RX7 276 (9999)) (by decide +kernel)) dX7_year_3 ?_
  refine gcP (As := [.long xζ.toInt64, .long 0, .long 9999]) (rest := []) F (c_X7_in l xζ.toInt64 0 9999) gX7_year_X7_in kX7_in rfl rfl rfl ⟨(Nat.le_of_ble_eq_true rfl), (Nat.le_of_ble_eq_true rfl)⟩ rfl rfl hl.1 (Nat.le_of_ble_eq_true rfl) dX7_year_6 ⟨(Nat.le_of_ble_eq_true rfl), (Nat.le_of_ble_eq_true rfl)⟩ ?_
  refine gtop (y := bI (inB xζ 0 9999)) (congrArg bI (inL_i (lo := 0) (hi := 9999) (by decide) (by decide))) ?_
  refine lv_if_eq (tgt := 36) hx hb dX7_year_9 (by decide) (fun c_1 => ?_) (fun c_1 => ?_)
  · have c_1 : inB xζ 0 9999 = false := bI_0 c_1
    refine lv_bipush (v := (-2)) hx hb dX7_year_36 (by decide) ?_
    exact r_iret hx hb hr hlk hS () (by unfold yearF; rw [if_neg (bF c_1)]) (hP.sub [] rfl) (hD.sub [] (by decide) rfl) dX7_year_38
  · have c_1 : inB xζ 0 9999 = true := bI_1 c_1
    refine lv_iload_n hx hb dX7_year_12 rfl (lv_at hl 2 rfl) ?_
    refine lv_i2l (v := yζ.toInt64) hx hb dX7_year_13 rfl ?_
    refine lv_lconst (v := 1) hx hb dX7_year_14 (by decide) ?_
    refine lv_ldc2 (v := 99) hx hb hown (hts (.constantLong RX7 219 (99)) (by decide +kernel)) dX7_year_15 ?_
    refine gcP (As := [.long yζ.toInt64, .long 1, .long 99]) (rest := []) F (c_X7_in l yζ.toInt64 1 99) gX7_year_X7_in kX7_in rfl rfl rfl ⟨(Nat.le_of_ble_eq_true rfl), (Nat.le_of_ble_eq_true rfl)⟩ rfl rfl hl.1 (Nat.le_of_ble_eq_true rfl) dX7_year_18 ⟨(Nat.le_of_ble_eq_true rfl), (Nat.le_of_ble_eq_true rfl)⟩ ?_
    refine gtop (y := bI (inB yζ 1 99)) (congrArg bI (inL_i (lo := 1) (hi := 99) (by decide) (by decide))) ?_
    refine lv_if_eq (tgt := 36) hx hb dX7_year_21 (by decide) (fun c_2 => ?_) (fun c_2 => ?_)
    · have c_2 : inB yζ 1 99 = false := bI_0 c_2
      refine lv_bipush (v := (-2)) hx hb dX7_year_36 (by decide) ?_
      exact r_iret hx hb hr hlk hS () (by unfold yearF; rw [if_pos c_1, if_neg (bF c_2)]) (hP.sub [] rfl) (hD.sub [] (by decide) rfl) dX7_year_38
    · have c_2 : inB yζ 1 99 = true := bI_1 c_2
      refine lv_iload_n hx hb dX7_year_24 rfl (lv_at hl 3 rfl) ?_
      refine lv_i2l (v := zζ.toInt64) hx hb dX7_year_25 rfl ?_
      refine lv_lconst (v := 0) hx hb dX7_year_26 (by decide) ?_
      refine lv_ldc2 (v := 2) hx hb hown (hts (.constantLong RX7 191 (2)) (by decide +kernel)) dX7_year_27 ?_
      refine gcP (As := [.long zζ.toInt64, .long 0, .long 2]) (rest := []) F (c_X7_in l zζ.toInt64 0 2) gX7_year_X7_in kX7_in rfl rfl rfl ⟨(Nat.le_of_ble_eq_true rfl), (Nat.le_of_ble_eq_true rfl)⟩ rfl rfl hl.1 (Nat.le_of_ble_eq_true rfl) dX7_year_30 ⟨(Nat.le_of_ble_eq_true rfl), (Nat.le_of_ble_eq_true rfl)⟩ ?_
      refine gtop (y := bI (inB zζ 0 2)) (congrArg bI (inL_i (lo := 0) (hi := 2) (by decide) (by decide))) ?_
      refine lv_if_ne (tgt := 39) hx hb dX7_year_33 (by decide) (fun c_3 => ?_) (fun c_3 => ?_)
      · have c_3 : inB zζ 0 2 = true := bI_1 c_3
        obtain ⟨iζ, hiζ, eiζ⟩ := inB_nat (N := 10000) (by decide) c_1
        have hl : lv_has ls 9 [(0, .ref hζ), (1, .int (nI iζ)), (2, .int yζ), (3, .int zζ)] := by first | exact hl | (rw [← (eiζ : xζ = nI iζ)]; exact hl)
        obtain ⟨jζ, h1jζ, hjζ, ejζ⟩ := inB1_nat (N := 100) (by decide) c_2
        have hl : lv_has ls 9 [(0, .ref hζ), (1, .int (nI iζ)), (2, .int (nI jζ)), (3, .int zζ)] := by first | exact hl | (rw [← (ejζ : yζ = nI jζ)]; exact hl)
        refine lv_aload_n hx hb dX7_year_39 rfl (lv_at hl 0 rfl) ?_
        refine gcV_v (As := []) (rest := []) (ci := 7) (q := (RX7, TX7, 34)) F hK hN hP hD hS hA (c_X7_keepNow l g H.size hζ Aζ) gX7_year_X7_keepNow kX7_keepNow rfl rfl rfl rfl ⟨(Nat.le_of_ble_eq_true rfl), (Nat.le_of_ble_eq_true rfl)⟩ [0, 2, 3, 4, 6] [1, 5] rfl rfl rfl (by decide) rfl rfl rfl rfl rfl hl.1 (Nat.le_of_ble_eq_true rfl) dX7_year_40 ⟨(Nat.le_of_ble_eq_true rfl), (Nat.le_of_ble_eq_true rfl)⟩ (fun u_w H locs hw hP hD hS => ?_)
        have hP : va_P g.1 vwCl [aI g (Aζ 0) 121 (fun _ => 0), aI g (Aζ 4) 10 (fun jζ => nI jζ), (hζ, .inr (7, oM Aζ iM0)), aI g (Aζ 1) 10 (fun _ => 5), aI g (Aζ 2) 10 (fun _ => 0), aI g (Aζ 3) 10 (fun _ => (-6)), aI g (Aζ 18) 34 hdF] H := hP
        have hD : va_D Z [aI g (Aζ 0) 121 (fun _ => 0), aI g (Aζ 4) 10 (fun jζ => nI jζ), (hζ, .inr (7, oM Aζ iM0)), aI g (Aζ 1) 10 (fun _ => 5), aI g (Aζ 2) 10 (fun _ => 0), aI g (Aζ 3) 10 (fun _ => (-6)), aI g (Aζ 18) 34 hdF] := hD
        refine lv_iload_n hx hb dX7_year_43 rfl (lv_at hl 1 rfl) ?_
        refine lv_istore (lv' := [(4, .int (nI iζ)), (0, .ref hζ), (1, .int (nI iζ)), (2, .int (nI jζ)), (3, .int zζ)]) hx hb dX7_year_44 hl (by decide) rfl (fun ls hl => ?_)
        refine lv_iconst (v := 0) hx hb dX7_year_46 (by decide) ?_
        refine lv_istore (lv' := [(5, .int 0), (4, .int (nI iζ)), (0, .ref hζ), (1, .int (nI iζ)), (2, .int (nI jζ)), (3, .int zζ)]) hx hb dX7_year_47 hl (by decide) rfl (fun ls hl => ?_)
        refine gloop (σ := Nat × Nat × (Nat → Int32)) (fun u0 => jζ - u0.1) (fun u0 => u0.1 ≤ jζ ∧ u0.2.1 < 65537 ∧ yrI u0.2.2) (fun u0 => [aI g (Aζ 0) 121 (fun _ => 0), aI g (Aζ 4) 10 (fun jζ => nI jζ), (hζ, .inr (7, oM Aζ u0.2.2)), aI g (Aζ 1) 10 (fun _ => 5), aI g (Aζ 2) 10 (fun _ => 0), aI g (Aζ 3) 10 (fun _ => (-6)), aI g (Aζ 18) 34 hdF]) (fun u0 => [(5, .int (nI u0.1)), (4, .int (nI u0.2.1)), (0, .ref hζ), (1, .int (nI iζ)), (2, .int (nI jζ)), (3, .int zζ)]) ?_ (0, iζ, iM0) ⟨(by first | omega | decide | rfl), (show iζ < 65537 by omega), ⟨rfl, 0, by decide, rfl⟩⟩ (hP.sub [0, 1, 2, 3, 4, 5, 6] rfl) (hD.sub [0, 1, 2, 3, 4, 5, 6] (by decide) rfl) hS (lv_sub hl [0, 1, 2, 3, 4, 5] rfl)
        rintro ⟨nζ, kζ, Jζ⟩ ⟨hnζ, hkζ, hyrζ⟩ ih49 H locs ls hP hD hS hl
        have hnζ : nζ ≤ jζ := hnζ
        have hkζ : kζ < 65537 := hkζ
        have hyrζ : yrI Jζ := hyrζ
        have hP : va_P g.1 vwCl [aI g (Aζ 0) 121 (fun _ => 0), aI g (Aζ 4) 10 (fun jζ => nI jζ), (hζ, .inr (7, oM Aζ Jζ)), aI g (Aζ 1) 10 (fun _ => 5), aI g (Aζ 2) 10 (fun _ => 0), aI g (Aζ 3) 10 (fun _ => (-6)), aI g (Aζ 18) 34 hdF] H := hP
        have hD : va_D Z [aI g (Aζ 0) 121 (fun _ => 0), aI g (Aζ 4) 10 (fun jζ => nI jζ), (hζ, .inr (7, oM Aζ Jζ)), aI g (Aζ 1) 10 (fun _ => 5), aI g (Aζ 2) 10 (fun _ => 0), aI g (Aζ 3) 10 (fun _ => (-6)), aI g (Aζ 18) 34 hdF] := hD
        have hl : lv_has ls 9 [(5, .int (nI nζ)), (4, .int (nI kζ)), (0, .ref hζ), (1, .int (nI iζ)), (2, .int (nI jζ)), (3, .int zζ)] := hl
        refine lv_iload hx hb dX7_year_49 (lv_at hl 0 rfl) ?_
        refine lv_iload_n hx hb dX7_year_51 rfl (lv_at hl 4 rfl) ?_
        refine lv_icmp_ge (tgt := 146) hx hb dX7_year_52 (by decide) (fun c_4 => ?_) (fun c_4 => ?_)
        · have c_4 : jζ ≤ nζ := (nI_leI (a := jζ) (b := nζ) (by omega) (by omega)).mp c_4
          refine lv_iload_n hx hb dX7_year_146 rfl (lv_at hl 5 rfl) ?_
          refine lv_if_ne (tgt := 165) hx hb dX7_year_147 (by decide) (fun c_5 => ?_) (fun c_5 => ?_)
          · refine lv_iload_n hx hb dX7_year_165 rfl (lv_at hl 5 rfl) ?_
            refine lv_iconst (v := 1) hx hb dX7_year_166 (by decide) ?_
            refine lv_icmp_ne (tgt := 177) hx hb dX7_year_167 (by decide) (fun c_6 => ?_) (fun c_6 => ?_)
            · refine lv_aload_n hx hb dX7_year_177 rfl (lv_at hl 2 rfl) ?_
              refine gcV_i (As := []) (rest := []) (ci := 7) (q := (RX7, TX7, 34)) F hK hN hP hD hS hA (c_X7_doubts l g H.size hζ Aζ Jζ) gX7_year_X7_doubts kX7_doubts rfl rfl rfl rfl ⟨(Nat.le_of_ble_eq_true rfl), (Nat.le_of_ble_eq_true rfl)⟩ [2, 3] [0, 1, 4, 5, 6] rfl rfl rfl (by decide) rfl rfl rfl rfl rfl hl.1 (Nat.le_of_ble_eq_true rfl) dX7_year_178 ⟨(Nat.le_of_ble_eq_true rfl), (Nat.le_of_ble_eq_true rfl)⟩ (fun r_w u_w H locs hw hP hD hS => ?_)
              have hP : va_P g.1 vwCl [aI g (Aζ 0) 121 (fun _ => 0), aI g (Aζ 4) 10 (fun jζ => nI jζ), aI g (Aζ 2) 10 (fun _ => 0), aI g (Aζ 3) 10 (fun _ => (-6)), aI g (Aζ 18) 34 hdF, (hζ, .inr (7, oM Aζ Jζ)), aI g (Aζ 1) 10 (fun _ => 5)] H := hP
              have hD : va_D Z [aI g (Aζ 0) 121 (fun _ => 0), aI g (Aζ 4) 10 (fun jζ => nI jζ), aI g (Aζ 2) 10 (fun _ => 0), aI g (Aζ 3) 10 (fun _ => (-6)), aI g (Aζ 18) 34 hdF, (hζ, .inr (7, oM Aζ Jζ)), aI g (Aζ 1) 10 (fun _ => 5)] := hD
              obtain rfl := hw
              refine lv_istore (lv' := [(5, .int 50), (4, .int (nI kζ)), (0, .ref hζ), (1, .int (nI iζ)), (2, .int (nI jζ)), (3, .int zζ)]) hx hb dX7_year_181 hl (by decide) rfl (fun ls hl => ?_)
              refine lv_aload_n hx hb dX7_year_183 rfl (lv_at hl 2 rfl) ?_
              refine lv_iload hx hb dX7_year_184 (lv_at hl 0 rfl) ?_
              refine gcV_i (As := [.int 50]) (rest := []) (ci := 7) (q := (RX7, TX7, 34)) F hK hN hP hD hS hA (c_X7_back l g H.size hζ Aζ Jζ (fun _ => 5) (fun _ => 0) (fun _ => (-6)) hdF 50) gX7_year_X7_back kX7_back rfl rfl rfl rfl ⟨(Nat.le_of_ble_eq_true rfl), (Nat.le_of_ble_eq_true rfl)⟩ [5, 6, 2, 3, 4] [0, 1] rfl rfl rfl (by decide) rfl rfl rfl rfl rfl hl.1 (Nat.le_of_ble_eq_true rfl) dX7_year_186 ⟨(Nat.le_of_ble_eq_true rfl), (Nat.le_of_ble_eq_true rfl)⟩ (fun r_w u_w H locs hw hP hD hS => ?_)
              have hP : va_P g.1 vwCl [aI g (Aζ 0) 121 (fun _ => 0), aI g (Aζ 4) 10 (fun jζ => nI jζ), (hζ, .inr (7, oM Aζ (upd (upd (upd (upd Jζ 5 (hdF 30)) 6 (hdF 31)) 7 (hdF 32)) 8 (hdF 33))))] H := hP
              have hD : va_D Z [aI g (Aζ 0) 121 (fun _ => 0), aI g (Aζ 4) 10 (fun jζ => nI jζ), (hζ, .inr (7, oM Aζ (upd (upd (upd (upd Jζ 5 (hdF 30)) 6 (hdF 31)) 7 (hdF 32)) 8 (hdF 33))))] := hD
              obtain rfl := hw
              exact r_iret hx hb hr hlk hS () (by unfold yearF; rw [if_pos c_1, if_pos c_2, if_pos c_3, if_neg c_5, if_neg c_6]) (hP.sub [] rfl) (hD.sub [] (by decide) rfl) dX7_year_189
            · refine lv_aload_n hx hb dX7_year_170 rfl (lv_at hl 2 rfl) ?_
              refine gcV_i (As := []) (rest := []) (ci := 7) (q := (RX7, TX7, 34)) F hK hN hP hD hS hA (c_X7_talesBelieved l g H.size hζ Aζ Jζ) gX7_year_X7_talesBelieved kX7_talesBelieved rfl rfl rfl rfl ⟨(Nat.le_of_ble_eq_true rfl), (Nat.le_of_ble_eq_true rfl)⟩ [2, 5] [0, 1, 3, 4, 6] rfl rfl rfl (by decide) rfl rfl rfl rfl rfl hl.1 (Nat.le_of_ble_eq_true rfl) dX7_year_171 ⟨(Nat.le_of_ble_eq_true rfl), (Nat.le_of_ble_eq_true rfl)⟩ (fun r_w u_w H locs hw hP hD hS => ?_)
              have hP : va_P g.1 vwCl [aI g (Aζ 0) 121 (fun _ => 0), aI g (Aζ 4) 10 (fun jζ => nI jζ), aI g (Aζ 1) 10 (fun _ => 5), aI g (Aζ 2) 10 (fun _ => 0), aI g (Aζ 18) 34 hdF, (hζ, .inr (7, oM Aζ Jζ)), aI g (Aζ 3) 10 (fun _ => (-6))] H := hP
              have hD : va_D Z [aI g (Aζ 0) 121 (fun _ => 0), aI g (Aζ 4) 10 (fun jζ => nI jζ), aI g (Aζ 1) 10 (fun _ => 5), aI g (Aζ 2) 10 (fun _ => 0), aI g (Aζ 18) 34 hdF, (hζ, .inr (7, oM Aζ Jζ)), aI g (Aζ 3) 10 (fun _ => (-6))] := hD
              obtain rfl := hw
              refine lv_goto (tgt := 181) hx hb dX7_year_174 (by decide) ?_
              refine lv_istore (lv' := [(5, .int 0), (4, .int (nI kζ)), (0, .ref hζ), (1, .int (nI iζ)), (2, .int (nI jζ)), (3, .int zζ)]) hx hb dX7_year_181 hl (by decide) rfl (fun ls hl => ?_)
              refine lv_aload_n hx hb dX7_year_183 rfl (lv_at hl 2 rfl) ?_
              refine lv_iload hx hb dX7_year_184 (lv_at hl 0 rfl) ?_
              refine gcV_i (As := [.int 0]) (rest := []) (ci := 7) (q := (RX7, TX7, 34)) F hK hN hP hD hS hA (c_X7_back l g H.size hζ Aζ Jζ (fun _ => 5) (fun _ => 0) (fun _ => (-6)) hdF 0) gX7_year_X7_back kX7_back rfl rfl rfl rfl ⟨(Nat.le_of_ble_eq_true rfl), (Nat.le_of_ble_eq_true rfl)⟩ [5, 2, 3, 6, 4] [0, 1] rfl rfl rfl (by decide) rfl rfl rfl rfl rfl hl.1 (Nat.le_of_ble_eq_true rfl) dX7_year_186 ⟨(Nat.le_of_ble_eq_true rfl), (Nat.le_of_ble_eq_true rfl)⟩ (fun r_w u_w H locs hw hP hD hS => ?_)
              have hP : va_P g.1 vwCl [aI g (Aζ 0) 121 (fun _ => 0), aI g (Aζ 4) 10 (fun jζ => nI jζ), (hζ, .inr (7, oM Aζ (upd (upd (upd (upd Jζ 5 (hdF 30)) 6 (hdF 31)) 7 (hdF 32)) 8 (hdF 33))))] H := hP
              have hD : va_D Z [aI g (Aζ 0) 121 (fun _ => 0), aI g (Aζ 4) 10 (fun jζ => nI jζ), (hζ, .inr (7, oM Aζ (upd (upd (upd (upd Jζ 5 (hdF 30)) 6 (hdF 31)) 7 (hdF 32)) 8 (hdF 33))))] := hD
              obtain rfl := hw
              exact r_iret hx hb hr hlk hS () (by unfold yearF; rw [if_pos c_1, if_pos c_2, if_pos c_3, if_neg c_5, if_pos c_6]) (hP.sub [] rfl) (hD.sub [] (by decide) rfl) dX7_year_189
          · refine lv_bipush (v := 10) hx hb dX7_year_150 (by decide) ?_
            refine lv_aload_n hx hb dX7_year_152 rfl (lv_at hl 2 rfl) ?_
            refine lv_bipush (v := (-6)) hx hb dX7_year_153 (by decide) ?_
            refine gcV_i (As := [.int (-6)]) (rest := [.int 10]) (ci := 7) (q := (RX7, TX7, 34)) F hK hN hP hD hS hA (c_X7_believing_n l g H.size hζ Aζ Jζ) gX7_year_X7_believing kX7_believing rfl rfl rfl rfl ⟨(Nat.le_of_ble_eq_true rfl), (Nat.le_of_ble_eq_true rfl)⟩ [2, 5] [0, 1, 3, 4, 6] rfl rfl rfl (by decide) rfl rfl rfl rfl rfl hl.1 (Nat.le_of_ble_eq_true rfl) dX7_year_155 ⟨(Nat.le_of_ble_eq_true rfl), (Nat.le_of_ble_eq_true rfl)⟩ (fun r_w u_w H locs hw hP hD hS => ?_)
            have hP : va_P g.1 vwCl [aI g (Aζ 0) 121 (fun _ => 0), aI g (Aζ 4) 10 (fun jζ => nI jζ), aI g (Aζ 1) 10 (fun _ => 5), aI g (Aζ 2) 10 (fun _ => 0), aI g (Aζ 18) 34 hdF, (hζ, .inr (7, oM Aζ Jζ)), aI g (Aζ 3) 10 (fun _ => (-6))] H := hP
            have hD : va_D Z [aI g (Aζ 0) 121 (fun _ => 0), aI g (Aζ 4) 10 (fun jζ => nI jζ), aI g (Aζ 1) 10 (fun _ => 5), aI g (Aζ 2) 10 (fun _ => 0), aI g (Aζ 18) 34 hdF, (hζ, .inr (7, oM Aζ Jζ)), aI g (Aζ 3) 10 (fun _ => (-6))] := hD
            obtain rfl := hw
            refine gcP (As := [.int 1023]) (rest := [.int 10]) F (c_X7_ones_1023 l ) gX7_year_X7_ones kX7_ones rfl rfl rfl ⟨(Nat.le_of_ble_eq_true rfl), (Nat.le_of_ble_eq_true rfl)⟩ rfl rfl hl.1 (Nat.le_of_ble_eq_true rfl) dX7_year_158 ⟨(Nat.le_of_ble_eq_true rfl), (Nat.le_of_ble_eq_true rfl)⟩ ?_
            refine lv_isub hx hb dX7_year_161 ?_
            refine gtop (y := 0) (by decide) ?_
            refine lv_goto (tgt := 181) hx hb dX7_year_162 (by decide) ?_
            refine lv_istore (lv' := [(5, .int 0), (4, .int (nI kζ)), (0, .ref hζ), (1, .int (nI iζ)), (2, .int (nI jζ)), (3, .int zζ)]) hx hb dX7_year_181 hl (by decide) rfl (fun ls hl => ?_)
            refine lv_aload_n hx hb dX7_year_183 rfl (lv_at hl 2 rfl) ?_
            refine lv_iload hx hb dX7_year_184 (lv_at hl 0 rfl) ?_
            refine gcV_i (As := [.int 0]) (rest := []) (ci := 7) (q := (RX7, TX7, 34)) F hK hN hP hD hS hA (c_X7_back l g H.size hζ Aζ Jζ (fun _ => 5) (fun _ => 0) (fun _ => (-6)) hdF 0) gX7_year_X7_back kX7_back rfl rfl rfl rfl ⟨(Nat.le_of_ble_eq_true rfl), (Nat.le_of_ble_eq_true rfl)⟩ [5, 2, 3, 6, 4] [0, 1] rfl rfl rfl (by decide) rfl rfl rfl rfl rfl hl.1 (Nat.le_of_ble_eq_true rfl) dX7_year_186 ⟨(Nat.le_of_ble_eq_true rfl), (Nat.le_of_ble_eq_true rfl)⟩ (fun r_w u_w H locs hw hP hD hS => ?_)
            have hP : va_P g.1 vwCl [aI g (Aζ 0) 121 (fun _ => 0), aI g (Aζ 4) 10 (fun jζ => nI jζ), (hζ, .inr (7, oM Aζ (upd (upd (upd (upd Jζ 5 (hdF 30)) 6 (hdF 31)) 7 (hdF 32)) 8 (hdF 33))))] H := hP
            have hD : va_D Z [aI g (Aζ 0) 121 (fun _ => 0), aI g (Aζ 4) 10 (fun jζ => nI jζ), (hζ, .inr (7, oM Aζ (upd (upd (upd (upd Jζ 5 (hdF 30)) 6 (hdF 31)) 7 (hdF 32)) 8 (hdF 33))))] := hD
            obtain rfl := hw
            exact r_iret hx hb hr hlk hS () (by unfold yearF; rw [if_pos c_1, if_pos c_2, if_pos c_3, if_pos c_5]) (hP.sub [] rfl) (hD.sub [] (by decide) rfl) dX7_year_189
        · have c_4 : ¬ jζ ≤ nζ := fun zζ => c_4 ((nI_leI (a := jζ) (b := nζ) (by omega) (by omega)).mpr zζ)
          refine lv_ldc2 (v := 75) hx hb hown (hts (.constantLong RX7 278 (75)) (by decide +kernel)) dX7_year_55 ?_
          refine lv_iload hx hb dX7_year_58 (lv_at hl 1 rfl) ?_
          refine lv_i2l (v := lN kζ) hx hb dX7_year_60 (nI_l (by omega)) ?_
          refine lv_lmul hx hb dX7_year_61 ?_
          refine gtopl (y := lN (75 * kζ)) (lN_mul 75 kζ) ?_
          refine lv_ldc2 (v := 74) hx hb hown (hts (.constantLong RX7 108 (74)) (by decide +kernel)) dX7_year_62 ?_
          refine lv_ladd hx hb dX7_year_65 ?_
          refine gtopl (y := lN ((75 * kζ) + 74)) (lN_add (75 * kζ) 74) ?_
          refine lv_ldc2 (v := 65537) hx hb hown (hts (.constantLong RX7 280 (65537)) (by decide +kernel)) dX7_year_66 ?_
          refine lv_lrem hx hb dX7_year_69 (by decide) ?_
          refine gtopl (y := lN ((75 * kζ + 74) % 65537)) (pk_lRem (a := 75 * kζ + 74) (b := 65537) (by omega) (by omega) (by omega)) ?_
          refine lv_l2i (v := nI ((75 * kζ + 74) % 65537)) hx hb dX7_year_70 (lN_i ((75 * kζ + 74) % 65537)) ?_
          obtain ⟨k2ζ, hk2ζ, ek2ζ⟩ : ∃ q_u : Nat, q_u < 65537 ∧ q_u = (75 * kζ + 74) % 65537 := ⟨_, Nat.mod_lt _ (by decide), rfl⟩
          refine gtop (y := nI k2ζ) (by rw [ek2ζ]) ?_
          refine lv_istore (lv' := [(4, .int (nI k2ζ)), (5, .int (nI nζ)), (0, .ref hζ), (1, .int (nI iζ)), (2, .int (nI jζ)), (3, .int zζ)]) hx hb dX7_year_71 hl (by decide) rfl (fun ls hl => ?_)
          refine lv_iload hx hb dX7_year_73 (lv_at hl 0 rfl) ?_
          refine lv_bipush (v := 8) hx hb dX7_year_75 (by decide) ?_
          refine lv_irem hx hb dX7_year_77 (by decide) ?_
          refine gtop (y := nI (k2ζ % 8)) (pk_rem (a := k2ζ) (d := 8) (by omega) (by omega) (by omega)) ?_
          refine gcP (As := [.int (nI (k2ζ % 8))]) (rest := []) F (c_X7_actBy l (k2ζ % 8) (by omega)) gX7_year_X7_actBy kX7_actBy rfl rfl rfl ⟨(Nat.le_of_ble_eq_true rfl), (Nat.le_of_ble_eq_true rfl)⟩ rfl rfl hl.1 (Nat.le_of_ble_eq_true rfl) dX7_year_78 ⟨(Nat.le_of_ble_eq_true rfl), (Nat.le_of_ble_eq_true rfl)⟩ ?_
          refine lv_istore (lv' := [(6, .int (nI (kdF (k2ζ % 8)))), (4, .int (nI k2ζ)), (5, .int (nI nζ)), (0, .ref hζ), (1, .int (nI iζ)), (2, .int (nI jζ)), (3, .int zζ)]) hx hb dX7_year_81 hl (by decide) rfl (fun ls hl => ?_)
          refine lv_iload hx hb dX7_year_83 (lv_at hl 1 rfl) ?_
          refine lv_bipush (v := 8) hx hb dX7_year_85 (by decide) ?_
          refine lv_idiv hx hb dX7_year_87 (by decide) ?_
          refine gtop (y := nI (k2ζ / 8)) (pk_div (a := k2ζ) (d := 8) (by omega) (by omega) (by omega)) ?_
          refine lv_iload hx hb dX7_year_88 (lv_at hl 0 rfl) ?_
          refine lv_iconst (v := 1) hx hb dX7_year_90 (by decide) ?_
          refine lv_icmp_ne (tgt := 99) hx hb dX7_year_91 (by decide) (fun c_7 => ?_) (fun c_7 => ?_)
          · have c_7 : ¬ (kdF (k2ζ % 8)) = 1 := fun zζ => c_7 ((nI_eq (a := (kdF (k2ζ % 8))) (b := 1) (by have := kdF_lt (k2ζ % 8); omega) (by decide)).mpr zζ)
            refine lv_bipush (v := 10) hx hb dX7_year_99 (by decide) ?_
            refine lv_irem hx hb dX7_year_101 (by decide) ?_
            refine gtop (y := nI ((k2ζ / 8) % 10)) (pk_rem (a := k2ζ / 8) (d := 10) (by omega) (by omega) (by omega)) ?_
            refine lv_istore (lv' := [(7, .int (nI ((k2ζ / 8) % 10))), (6, .int (nI (kdF (k2ζ % 8)))), (4, .int (nI k2ζ)), (5, .int (nI nζ)), (0, .ref hζ), (1, .int (nI iζ)), (2, .int (nI jζ)), (3, .int zζ)]) hx hb dX7_year_102 hl (by decide) rfl (fun ls hl => ?_)
            refine lv_bipush (v := 10) hx hb dX7_year_104 (by decide) ?_
            refine lv_iconst (v := 1) hx hb dX7_year_106 (by decide) ?_
            refine lv_iload hx hb dX7_year_107 (lv_at hl 2 rfl) ?_
            refine lv_bipush (v := 80) hx hb dX7_year_109 (by decide) ?_
            refine lv_idiv hx hb dX7_year_111 (by decide) ?_
            refine gtop (y := nI (k2ζ / 80)) (pk_div (a := k2ζ) (d := 80) (by omega) (by omega) (by omega)) ?_
            refine lv_bipush (v := 9) hx hb dX7_year_112 (by decide) ?_
            refine lv_irem hx hb dX7_year_114 (by decide) ?_
            refine gtop (y := nI ((k2ζ / 80) % 9)) (pk_rem (a := k2ζ / 80) (d := 9) (by omega) (by omega) (by omega)) ?_
            refine lv_iadd hx hb dX7_year_115 ?_
            refine gtop (y := nI (1 + ((k2ζ / 80) % 9))) (nI_add 1 ((k2ζ / 80) % 9)) ?_
            refine lv_imul hx hb dX7_year_116 ?_
            refine gtop (y := nI (10 * (1 + ((k2ζ / 80) % 9)))) (pk_mul 10 (1 + ((k2ζ / 80) % 9))) ?_
            refine lv_istore (lv' := [(8, .int (nI (10 * (1 + ((k2ζ / 80) % 9))))), (7, .int (nI ((k2ζ / 8) % 10))), (6, .int (nI (kdF (k2ζ % 8)))), (4, .int (nI k2ζ)), (5, .int (nI nζ)), (0, .ref hζ), (1, .int (nI iζ)), (2, .int (nI jζ)), (3, .int zζ)]) hx hb dX7_year_117 hl (by decide) rfl (fun ls hl => ?_)
            refine lv_aload_n hx hb dX7_year_119 rfl (lv_at hl 5 rfl) ?_
            refine lv_iload hx hb dX7_year_120 (lv_at hl 2 rfl) ?_
            refine lv_iload hx hb dX7_year_122 (lv_at hl 1 rfl) ?_
            refine gcV_i (As := [.int (nI (kdF (k2ζ % 8))), .int (nI ((k2ζ / 8) % 10))]) (rest := []) (ci := 7) (q := (RX7, TX7, 34)) F hK hN hP hD hS hA (c_X7_whyNot l g H.size hζ Aζ Jζ (kdF (k2ζ % 8)) ((k2ζ / 8) % 10) (kdF_lt _) (by omega) hyrζ.1) gX7_year_X7_whyNot kX7_whyNot rfl rfl rfl rfl ⟨(Nat.le_of_ble_eq_true rfl), (Nat.le_of_ble_eq_true rfl)⟩ [2, 0] [1, 3, 4, 5, 6] rfl rfl rfl (by decide) rfl rfl rfl rfl rfl hl.1 (Nat.le_of_ble_eq_true rfl) dX7_year_124 ⟨(Nat.le_of_ble_eq_true rfl), (Nat.le_of_ble_eq_true rfl)⟩ (fun r_w u_w H locs hw hP hD hS => ?_)
            have hP : va_P g.1 vwCl [aI g (Aζ 4) 10 (fun jζ => nI jζ), aI g (Aζ 1) 10 (fun _ => 5), aI g (Aζ 2) 10 (fun _ => 0), aI g (Aζ 3) 10 (fun _ => (-6)), aI g (Aζ 18) 34 hdF, (hζ, .inr (7, oM Aζ Jζ)), aI g (Aζ 0) 121 (fun _ => 0)] H := hP
            have hD : va_D Z [aI g (Aζ 4) 10 (fun jζ => nI jζ), aI g (Aζ 1) 10 (fun _ => 5), aI g (Aζ 2) 10 (fun _ => 0), aI g (Aζ 3) 10 (fun _ => (-6)), aI g (Aζ 18) 34 hdF, (hζ, .inr (7, oM Aζ Jζ)), aI g (Aζ 0) 121 (fun _ => 0)] := hD
            obtain rfl := hw
            refine lv_if_ne (tgt := 140) hx hb dX7_year_127 (by decide) (fun c_8 => ?_) (fun c_8 => ?_)
            · refine lv_iinc (v := nI (nζ + 1)) (lv' := [(5, .int (nI (nζ + 1))), (8, .int (nI (10 * (1 + ((k2ζ / 80) % 9))))), (7, .int (nI ((k2ζ / 8) % 10))), (6, .int (nI (kdF (k2ζ % 8)))), (4, .int (nI k2ζ)), (0, .ref hζ), (1, .int (nI iζ)), (2, .int (nI jζ)), (3, .int zζ)]) hx hb dX7_year_140 hl (k := 4) rfl (nI_1 nζ) (by decide) rfl (fun ls hl => ?_)
              refine lv_goto (tgt := 49) hx hb dX7_year_143 (by decide) ?_
              exact ih49 (nζ + 1, k2ζ, Jζ) ⟨(by first | omega | (dsimp only; omega)), hk2ζ, hyrζ⟩ (by first | omega | (dsimp only; omega)) _ _ _ (hP.sub [6, 0, 5, 1, 2, 3, 4] rfl) (hD.sub [6, 0, 5, 1, 2, 3, 4] (by decide) rfl) hS (lv_sub hl [0, 4, 5, 6, 7, 8] rfl)
            · refine lv_aload_n hx hb dX7_year_130 rfl (lv_at hl 5 rfl) ?_
              refine lv_iload hx hb dX7_year_131 (lv_at hl 2 rfl) ?_
              refine lv_iload hx hb dX7_year_133 (lv_at hl 1 rfl) ?_
              refine lv_iload hx hb dX7_year_135 (lv_at hl 0 rfl) ?_
              refine gcV_v (As := [.int (nI (kdF (k2ζ % 8))), .int (nI ((k2ζ / 8) % 10)), .int (nI (10 * (1 + ((k2ζ / 80) % 9))))]) (rest := []) (ci := 7) (q := (RX7, TX7, 34)) F hK hN hP hD hS hA (c_X7_happen l g H.size hζ Aζ Jζ (kdF (k2ζ % 8)) ((k2ζ / 8) % 10) (nI (10 * (1 + ((k2ζ / 80) % 9)))) (kdF_lt _) (rm_12 c_8) (fun z_u => by omega) hyrζ) gX7_year_X7_happen kX7_happen rfl rfl rfl rfl ⟨(Nat.le_of_ble_eq_true rfl), (Nat.le_of_ble_eq_true rfl)⟩ [5, 2, 0] [1, 3, 4, 6] rfl rfl rfl (by decide) rfl rfl rfl rfl rfl hl.1 (Nat.le_of_ble_eq_true rfl) dX7_year_137 ⟨(Nat.le_of_ble_eq_true rfl), (Nat.le_of_ble_eq_true rfl)⟩ (fun u_w H locs hw hP hD hS => ?_)
              obtain ⟨J_9, rfl⟩ : ∃ zζ, zζ = u_w := ⟨_, rfl⟩
              have hw_10 := hw
              have hP : va_P g.1 vwCl [aI g (Aζ 1) 10 (fun _ => 5), aI g (Aζ 3) 10 (fun _ => (-6)), aI g (Aζ 18) 34 hdF, aI g (Aζ 0) 121 (fun _ => 0), (hζ, .inr (7, oM Aζ J_9)), aI g (Aζ 2) 10 (fun _ => 0), aI g (Aζ 4) 10 (fun jζ => nI jζ)] H := hP
              have hD : va_D Z [aI g (Aζ 1) 10 (fun _ => 5), aI g (Aζ 3) 10 (fun _ => (-6)), aI g (Aζ 18) 34 hdF, aI g (Aζ 0) 121 (fun _ => 0), (hζ, .inr (7, oM Aζ J_9)), aI g (Aζ 2) 10 (fun _ => 0), aI g (Aζ 4) 10 (fun jζ => nI jζ)] := hD
              refine lv_iinc (v := nI (nζ + 1)) (lv' := [(5, .int (nI (nζ + 1))), (8, .int (nI (10 * (1 + ((k2ζ / 80) % 9))))), (7, .int (nI ((k2ζ / 8) % 10))), (6, .int (nI (kdF (k2ζ % 8)))), (4, .int (nI k2ζ)), (0, .ref hζ), (1, .int (nI iζ)), (2, .int (nI jζ)), (3, .int zζ)]) hx hb dX7_year_140 hl (k := 4) rfl (nI_1 nζ) (by decide) rfl (fun ls hl => ?_)
              refine lv_goto (tgt := 49) hx hb dX7_year_143 (by decide) ?_
              exact ih49 (nζ + 1, k2ζ, J_9) ⟨(by first | omega | (dsimp only; omega)), hk2ζ, hw_10⟩ (by first | omega | (dsimp only; omega)) _ _ _ (hP.sub [3, 6, 4, 0, 5, 1, 2] rfl) (hD.sub [3, 6, 4, 0, 5, 1, 2] (by decide) rfl) hS (lv_sub hl [0, 4, 5, 6, 7, 8] rfl)
          · have c_7 : (kdF (k2ζ % 8)) = 1 := (nI_eq (a := (kdF (k2ζ % 8))) (b := 1) (by have := kdF_lt (k2ζ % 8); omega) (by decide)).mp c_7
            refine lv_bipush (v := 11) hx hb dX7_year_94 (by decide) ?_
            refine lv_goto (tgt := 101) hx hb dX7_year_96 (by decide) ?_
            refine lv_irem hx hb dX7_year_101 (by decide) ?_
            refine gtop (y := nI ((k2ζ / 8) % 11)) (pk_rem (a := k2ζ / 8) (d := 11) (by omega) (by omega) (by omega)) ?_
            refine lv_istore (lv' := [(7, .int (nI ((k2ζ / 8) % 11))), (6, .int (nI (kdF (k2ζ % 8)))), (4, .int (nI k2ζ)), (5, .int (nI nζ)), (0, .ref hζ), (1, .int (nI iζ)), (2, .int (nI jζ)), (3, .int zζ)]) hx hb dX7_year_102 hl (by decide) rfl (fun ls hl => ?_)
            refine lv_bipush (v := 10) hx hb dX7_year_104 (by decide) ?_
            refine lv_iconst (v := 1) hx hb dX7_year_106 (by decide) ?_
            refine lv_iload hx hb dX7_year_107 (lv_at hl 2 rfl) ?_
            refine lv_bipush (v := 80) hx hb dX7_year_109 (by decide) ?_
            refine lv_idiv hx hb dX7_year_111 (by decide) ?_
            refine gtop (y := nI (k2ζ / 80)) (pk_div (a := k2ζ) (d := 80) (by omega) (by omega) (by omega)) ?_
            refine lv_bipush (v := 9) hx hb dX7_year_112 (by decide) ?_
            refine lv_irem hx hb dX7_year_114 (by decide) ?_
            refine gtop (y := nI ((k2ζ / 80) % 9)) (pk_rem (a := k2ζ / 80) (d := 9) (by omega) (by omega) (by omega)) ?_
            refine lv_iadd hx hb dX7_year_115 ?_
            refine gtop (y := nI (1 + ((k2ζ / 80) % 9))) (nI_add 1 ((k2ζ / 80) % 9)) ?_
            refine lv_imul hx hb dX7_year_116 ?_
            refine gtop (y := nI (10 * (1 + ((k2ζ / 80) % 9)))) (pk_mul 10 (1 + ((k2ζ / 80) % 9))) ?_
            refine lv_istore (lv' := [(8, .int (nI (10 * (1 + ((k2ζ / 80) % 9))))), (7, .int (nI ((k2ζ / 8) % 11))), (6, .int (nI (kdF (k2ζ % 8)))), (4, .int (nI k2ζ)), (5, .int (nI nζ)), (0, .ref hζ), (1, .int (nI iζ)), (2, .int (nI jζ)), (3, .int zζ)]) hx hb dX7_year_117 hl (by decide) rfl (fun ls hl => ?_)
            refine lv_aload_n hx hb dX7_year_119 rfl (lv_at hl 5 rfl) ?_
            refine lv_iload hx hb dX7_year_120 (lv_at hl 2 rfl) ?_
            refine lv_iload hx hb dX7_year_122 (lv_at hl 1 rfl) ?_
            refine gcV_i (As := [.int (nI (kdF (k2ζ % 8))), .int (nI ((k2ζ / 8) % 11))]) (rest := []) (ci := 7) (q := (RX7, TX7, 34)) F hK hN hP hD hS hA (c_X7_whyNot l g H.size hζ Aζ Jζ (kdF (k2ζ % 8)) ((k2ζ / 8) % 11) (kdF_lt _) (by omega) hyrζ.1) gX7_year_X7_whyNot kX7_whyNot rfl rfl rfl rfl ⟨(Nat.le_of_ble_eq_true rfl), (Nat.le_of_ble_eq_true rfl)⟩ [2, 0] [1, 3, 4, 5, 6] rfl rfl rfl (by decide) rfl rfl rfl rfl rfl hl.1 (Nat.le_of_ble_eq_true rfl) dX7_year_124 ⟨(Nat.le_of_ble_eq_true rfl), (Nat.le_of_ble_eq_true rfl)⟩ (fun r_w u_w H locs hw hP hD hS => ?_)
            have hP : va_P g.1 vwCl [aI g (Aζ 4) 10 (fun jζ => nI jζ), aI g (Aζ 1) 10 (fun _ => 5), aI g (Aζ 2) 10 (fun _ => 0), aI g (Aζ 3) 10 (fun _ => (-6)), aI g (Aζ 18) 34 hdF, (hζ, .inr (7, oM Aζ Jζ)), aI g (Aζ 0) 121 (fun _ => 0)] H := hP
            have hD : va_D Z [aI g (Aζ 4) 10 (fun jζ => nI jζ), aI g (Aζ 1) 10 (fun _ => 5), aI g (Aζ 2) 10 (fun _ => 0), aI g (Aζ 3) 10 (fun _ => (-6)), aI g (Aζ 18) 34 hdF, (hζ, .inr (7, oM Aζ Jζ)), aI g (Aζ 0) 121 (fun _ => 0)] := hD
            obtain rfl := hw
            refine lv_if_ne (tgt := 140) hx hb dX7_year_127 (by decide) (fun c_11 => ?_) (fun c_11 => ?_)
            · refine lv_iinc (v := nI (nζ + 1)) (lv' := [(5, .int (nI (nζ + 1))), (8, .int (nI (10 * (1 + ((k2ζ / 80) % 9))))), (7, .int (nI ((k2ζ / 8) % 11))), (6, .int (nI (kdF (k2ζ % 8)))), (4, .int (nI k2ζ)), (0, .ref hζ), (1, .int (nI iζ)), (2, .int (nI jζ)), (3, .int zζ)]) hx hb dX7_year_140 hl (k := 4) rfl (nI_1 nζ) (by decide) rfl (fun ls hl => ?_)
              refine lv_goto (tgt := 49) hx hb dX7_year_143 (by decide) ?_
              exact ih49 (nζ + 1, k2ζ, Jζ) ⟨(by first | omega | (dsimp only; omega)), hk2ζ, hyrζ⟩ (by first | omega | (dsimp only; omega)) _ _ _ (hP.sub [6, 0, 5, 1, 2, 3, 4] rfl) (hD.sub [6, 0, 5, 1, 2, 3, 4] (by decide) rfl) hS (lv_sub hl [0, 4, 5, 6, 7, 8] rfl)
            · refine lv_aload_n hx hb dX7_year_130 rfl (lv_at hl 5 rfl) ?_
              refine lv_iload hx hb dX7_year_131 (lv_at hl 2 rfl) ?_
              refine lv_iload hx hb dX7_year_133 (lv_at hl 1 rfl) ?_
              refine lv_iload hx hb dX7_year_135 (lv_at hl 0 rfl) ?_
              refine gcV_v (As := [.int (nI (kdF (k2ζ % 8))), .int (nI ((k2ζ / 8) % 11)), .int (nI (10 * (1 + ((k2ζ / 80) % 9))))]) (rest := []) (ci := 7) (q := (RX7, TX7, 34)) F hK hN hP hD hS hA (c_X7_happen l g H.size hζ Aζ Jζ (kdF (k2ζ % 8)) ((k2ζ / 8) % 11) (nI (10 * (1 + ((k2ζ / 80) % 9)))) (kdF_lt _) (rm_12 c_11) (fun z_u => by omega) hyrζ) gX7_year_X7_happen kX7_happen rfl rfl rfl rfl ⟨(Nat.le_of_ble_eq_true rfl), (Nat.le_of_ble_eq_true rfl)⟩ [5, 2, 0] [1, 3, 4, 6] rfl rfl rfl (by decide) rfl rfl rfl rfl rfl hl.1 (Nat.le_of_ble_eq_true rfl) dX7_year_137 ⟨(Nat.le_of_ble_eq_true rfl), (Nat.le_of_ble_eq_true rfl)⟩ (fun u_w H locs hw hP hD hS => ?_)
              obtain ⟨J_12, rfl⟩ : ∃ zζ, zζ = u_w := ⟨_, rfl⟩
              have hw_13 := hw
              have hP : va_P g.1 vwCl [aI g (Aζ 1) 10 (fun _ => 5), aI g (Aζ 3) 10 (fun _ => (-6)), aI g (Aζ 18) 34 hdF, aI g (Aζ 0) 121 (fun _ => 0), (hζ, .inr (7, oM Aζ J_12)), aI g (Aζ 2) 10 (fun _ => 0), aI g (Aζ 4) 10 (fun jζ => nI jζ)] H := hP
              have hD : va_D Z [aI g (Aζ 1) 10 (fun _ => 5), aI g (Aζ 3) 10 (fun _ => (-6)), aI g (Aζ 18) 34 hdF, aI g (Aζ 0) 121 (fun _ => 0), (hζ, .inr (7, oM Aζ J_12)), aI g (Aζ 2) 10 (fun _ => 0), aI g (Aζ 4) 10 (fun jζ => nI jζ)] := hD
              refine lv_iinc (v := nI (nζ + 1)) (lv' := [(5, .int (nI (nζ + 1))), (8, .int (nI (10 * (1 + ((k2ζ / 80) % 9))))), (7, .int (nI ((k2ζ / 8) % 11))), (6, .int (nI (kdF (k2ζ % 8)))), (4, .int (nI k2ζ)), (0, .ref hζ), (1, .int (nI iζ)), (2, .int (nI jζ)), (3, .int zζ)]) hx hb dX7_year_140 hl (k := 4) rfl (nI_1 nζ) (by decide) rfl (fun ls hl => ?_)
              refine lv_goto (tgt := 49) hx hb dX7_year_143 (by decide) ?_
              exact ih49 (nζ + 1, k2ζ, J_12) ⟨(by first | omega | (dsimp only; omega)), hk2ζ, hw_13⟩ (by first | omega | (dsimp only; omega)) _ _ _ (hP.sub [3, 6, 4, 0, 5, 1, 2] rfl) (hD.sub [3, 6, 4, 0, 5, 1, 2] (by decide) rfl) hS (lv_sub hl [0, 4, 5, 6, 7, 8] rfl)
      · have c_3 : inB zζ 0 2 = false := bI_0 c_3
        refine lv_bipush (v := (-2)) hx hb dX7_year_36 (by decide) ?_
        exact r_iret hx hb hr hlk hS () (by unfold yearF; rw [if_pos c_1, if_pos c_2, if_neg (bF c_3)]) (hP.sub [] rfl) (hD.sub [] (by decide) rfl) dX7_year_38

theorem kX7_findOff : YOk yX7_findOff 0 := by decide +kernel
theorem kX7_near : YOk yX7_near 3 := by decide +kernel
theorem kX7_behindBed : YOk yX7_behindBed 2 := by decide +kernel
set_option maxHeartbeats 4000000 in
set_option maxRecDepth 100000 in
theorem c_X7_findOff (l : Launch) (g : GT) (sz : Nat) (hζ : Nat) (Aζ : Nat → Nat) (Iζ : Nat → Int32) (fζ : Nat → Int32) : Cv l yX7_findOff wsX7_findOff { frames := 0, cells := 0, slots := 0, locals := 0 } g sz [.ref hζ] [(hζ, .inr (7, oM Aζ Iζ)), aI g (Aζ 0) 121 (fun _ => 0), aI g (Aζ 24) 121 fζ] [(hζ, .inr (7, oM Aζ Iζ)), aI g (Aζ 0) 121 (fun _ => 0), aI g (Aζ 24) 121 lsF] := by
  refine gMet_v (cc := cX7_findOff) (maxL := 4) (ret := none) (by decide) rfl (Nat.le_of_ble_eq_true rfl) ?_
  intro p e s m args below meth c Z hx hb hr F hlk hnm hK hN hA H locs hP hD hS ls hl
  have hl : lv_has ls 4 [(0, .ref hζ)] := hl
  have F : CallFix p m c cX7_findOff 4 s args wsX7_findOff RX7 := F
  have hts := F.2.2.2.2
  have hown : s.vm.findClass RX7 = some m.cls := F.2.2.2.1
  have hi7 : ∀ w ∈ u_ws RX7 TX7 34, w ∈ wsX7_findOff := by decide +kernel
  refine lv_iconst (v := 0) hx hb dX7_findOff_0 (by decide) ?_
  refine lv_istore_n (lv' := [(1, .int 0), (0, .ref hζ)]) hx hb dX7_findOff_1 rfl hl (by decide) rfl (fun ls hl => ?_)
  obtain ⟨hP, hD⟩ := r_extI hP hD 2 rfl (f' := fF fζ lsF 0) fF_0
  have hP : va_P g.1 vwCl [(hζ, .inr (7, oM Aζ Iζ)), aI g (Aζ 0) 121 (fun _ => 0), aI g (Aζ 24) 121 (fF fζ lsF 0)] H := hP
  have hD : va_D Z [(hζ, .inr (7, oM Aζ Iζ)), aI g (Aζ 0) 121 (fun _ => 0), aI g (Aζ 24) 121 (fF fζ lsF 0)] := hD
  refine gloop (σ := Nat) (fun u0 => 121 - u0) (fun u0 => u0 ≤ 121) (fun u0 => [(hζ, .inr (7, oM Aζ Iζ)), aI g (Aζ 0) 121 (fun _ => 0), aI g (Aζ 24) 121 (fF fζ lsF u0)]) (fun u0 => [(1, .int (nI u0)), (0, .ref hζ)]) ?_ 0 (by first | omega | decide | rfl) (hP.sub [0, 1, 2] rfl) (hD.sub [0, 1, 2] (by decide) rfl) hS (lv_sub hl [0, 1] rfl)
  rintro iζ hiζ ih2 H locs ls hP hD hS hl
  have hiζ : iζ ≤ 121 := hiζ
  have hP : va_P g.1 vwCl [(hζ, .inr (7, oM Aζ Iζ)), aI g (Aζ 0) 121 (fun _ => 0), aI g (Aζ 24) 121 (fF fζ lsF iζ)] H := hP
  have hD : va_D Z [(hζ, .inr (7, oM Aζ Iζ)), aI g (Aζ 0) 121 (fun _ => 0), aI g (Aζ 24) 121 (fF fζ lsF iζ)] := hD
  have hl : lv_has ls 4 [(1, .int (nI iζ)), (0, .ref hζ)] := hl
  refine lv_iload_n hx hb dX7_findOff_2 rfl (lv_at hl 0 rfl) ?_
  refine lv_bipush (v := 121) hx hb dX7_findOff_3 (by decide) ?_
  refine lv_icmp_ge (tgt := 56) hx hb dX7_findOff_5 (by decide) (fun c_1 => ?_) (fun c_1 => ?_)
  · have c_1 : 121 ≤ iζ := (nI_leI (a := 121) (b := iζ) (by omega) (by omega)).mp c_1
    obtain ⟨hP, hD⟩ := r_extI hP hD 2 rfl (f' := lsF) (by intro z hz; exact fF_n z (by omega))
    have hP : va_P g.1 vwCl [(hζ, .inr (7, oM Aζ Iζ)), aI g (Aζ 0) 121 (fun _ => 0), aI g (Aζ 24) 121 lsF] H := hP
    have hD : va_D Z [(hζ, .inr (7, oM Aζ Iζ)), aI g (Aζ 0) 121 (fun _ => 0), aI g (Aζ 24) 121 lsF] := hD
    refine lv_iconst (v := 0) hx hb dX7_findOff_56 (by decide) ?_
    refine lv_istore_n (lv' := [(1, .int 0), (0, .ref hζ)]) hx hb dX7_findOff_57 rfl hl (by decide) rfl (fun ls hl => ?_)
    refine gloop (σ := Nat) (fun u0 => 11 - u0) (fun u0 => u0 ≤ 11) (fun u0 => [(hζ, .inr (7, oM Aζ Iζ)), aI g (Aζ 0) 121 (fun _ => 0), aI g (Aζ 24) 121 lsF]) (fun u0 => [(1, .int (nI u0)), (0, .ref hζ)]) ?_ 0 (by first | omega | decide | rfl) (hP.sub [0, 1, 2] rfl) (hD.sub [0, 1, 2] (by decide) rfl) hS (lv_sub hl [0, 1] rfl)
    rintro oζ hoζ ih58 H locs ls hP hD hS hl
    have hoζ : oζ ≤ 11 := hoζ
    have hP : va_P g.1 vwCl [(hζ, .inr (7, oM Aζ Iζ)), aI g (Aζ 0) 121 (fun _ => 0), aI g (Aζ 24) 121 lsF] H := hP
    have hD : va_D Z [(hζ, .inr (7, oM Aζ Iζ)), aI g (Aζ 0) 121 (fun _ => 0), aI g (Aζ 24) 121 lsF] := hD
    have hl : lv_has ls 4 [(1, .int (nI oζ)), (0, .ref hζ)] := hl
    refine lv_iload_n hx hb dX7_findOff_58 rfl (lv_at hl 0 rfl) ?_
    refine lv_bipush (v := 11) hx hb dX7_findOff_59 (by decide) ?_
    refine lv_icmp_ge (tgt := 140) hx hb dX7_findOff_61 (by decide) (fun c_2 => ?_) (fun c_2 => ?_)
    · have c_2 : 11 ≤ oζ := (nI_leI (a := 11) (b := oζ) (by omega) (by omega)).mp c_2
      exact r_vret hx hb hr hlk hS () trivial (hP.sub [0, 1, 2] rfl) (hD.sub [0, 1, 2] (by decide) rfl) dX7_findOff_140
    · have c_2 : ¬ 11 ≤ oζ := fun z => c_2 ((nI_leI (a := 11) (b := oζ) (by omega) (by omega)).mpr z)
      refine lv_iconst (v := 0) hx hb dX7_findOff_64 (by decide) ?_
      refine lv_istore_n (lv' := [(2, .int 0), (1, .int (nI oζ)), (0, .ref hζ)]) hx hb dX7_findOff_65 rfl hl (by decide) rfl (fun ls hl => ?_)
      refine gloop (σ := Nat) (fun u0 => 121 - u0) (fun u0 => u0 ≤ 121) (fun u0 => [(hζ, .inr (7, oM Aζ Iζ)), aI g (Aζ 0) 121 (fun _ => 0), aI g (Aζ 24) 121 lsF]) (fun u0 => [(2, .int (nI u0)), (1, .int (nI oζ)), (0, .ref hζ)]) ?_ 0 (by first | omega | decide | rfl) (hP.sub [0, 1, 2] rfl) (hD.sub [0, 1, 2] (by decide) rfl) hS (lv_sub hl [0, 1, 2] rfl)
      rintro iζ hiζ ih66 H locs ls hP hD hS hl
      have hiζ : iζ ≤ 121 := hiζ
      have hP : va_P g.1 vwCl [(hζ, .inr (7, oM Aζ Iζ)), aI g (Aζ 0) 121 (fun _ => 0), aI g (Aζ 24) 121 lsF] H := hP
      have hD : va_D Z [(hζ, .inr (7, oM Aζ Iζ)), aI g (Aζ 0) 121 (fun _ => 0), aI g (Aζ 24) 121 lsF] := hD
      have hl : lv_has ls 4 [(2, .int (nI iζ)), (1, .int (nI oζ)), (0, .ref hζ)] := hl
      refine lv_iload_n hx hb dX7_findOff_66 rfl (lv_at hl 0 rfl) ?_
      refine lv_bipush (v := 121) hx hb dX7_findOff_67 (by decide) ?_
      refine lv_icmp_ge (tgt := 134) hx hb dX7_findOff_69 (by decide) (fun c_3 => ?_) (fun c_3 => ?_)
      · have c_3 : 121 ≤ iζ := (nI_leI (a := 121) (b := iζ) (by omega) (by omega)).mp c_3
        refine lv_iinc (v := nI (oζ + 1)) (lv' := [(1, .int (nI (oζ + 1))), (2, .int (nI iζ)), (0, .ref hζ)]) hx hb dX7_findOff_134 hl (k := 1) rfl (nI_1 oζ) (by decide) rfl (fun ls hl => ?_)
        refine lv_goto (tgt := 58) hx hb dX7_findOff_137 (by decide) ?_
        exact ih58 (oζ + 1) (by first | omega | (dsimp only; omega)) (by first | omega | (dsimp only; omega)) _ _ _ (hP.sub [0, 1, 2] rfl) (hD.sub [0, 1, 2] (by decide) rfl) hS (lv_sub hl [0, 2] rfl)
      · have c_3 : ¬ 121 ≤ iζ := fun z => c_3 ((nI_leI (a := 121) (b := iζ) (by omega) (by omega)).mpr z)
        refine lv_aload_n hx hb dX7_findOff_72 rfl (lv_at hl 2 rfl) ?_
        refine va_get (D := g.1) (ci := 7) (v := .ref (Aζ 24)) (C := RX7) (T := TX7) (N := 34) hx hb hts hi7 hown hK hP 0 rfl rfl 24 (by decide) (hts (.fieldLink RX7 46 "PanTalesModel" "off" "[I") (by decide +kernel)) (fun _ h9 => h9) rfl dX7_findOff_73 ?_
        refine lv_bipush (v := 11) hx hb dX7_findOff_76 (by decide) ?_
        refine lv_iload_n hx hb dX7_findOff_78 rfl (lv_at hl 0 rfl) ?_
        refine lv_bipush (v := 11) hx hb dX7_findOff_79 (by decide) ?_
        refine lv_idiv hx hb dX7_findOff_81 (by decide) ?_
        refine gtop (y := nI (iζ / 11)) (pk_div (a := iζ) (d := 11) (by omega) (by omega) (by omega)) ?_
        refine lv_imul hx hb dX7_findOff_82 ?_
        refine gtop (y := nI (11 * (iζ / 11))) (pk_mul 11 (iζ / 11)) ?_
        refine lv_iload_n hx hb dX7_findOff_83 rfl (lv_at hl 1 rfl) ?_
        refine lv_iadd hx hb dX7_findOff_84 ?_
        refine gtop (y := nI ((11 * (iζ / 11)) + oζ)) (nI_add (11 * (iζ / 11)) oζ) ?_
        refine r_iald (v := lsF ((11 * (iζ / 11)) + oζ)) hx hb hK hP 2 rfl (vp_in_nI (n := (11 * (iζ / 11)) + oζ) (by omega) (by omega)) (congrArg lsF (nI_clamp (n := (11 * (iζ / 11)) + oζ) (by omega))) dX7_findOff_85 ?_
        refine lv_aload_n hx hb dX7_findOff_86 rfl (lv_at hl 2 rfl) ?_
        refine va_get (D := g.1) (ci := 7) (v := .ref (Aζ 24)) (C := RX7) (T := TX7) (N := 34) hx hb hts hi7 hown hK hP 0 rfl rfl 24 (by decide) (hts (.fieldLink RX7 46 "PanTalesModel" "off" "[I") (by decide +kernel)) (fun _ h9 => h9) rfl dX7_findOff_87 ?_
        refine lv_bipush (v := 11) hx hb dX7_findOff_90 (by decide) ?_
        refine lv_iload_n hx hb dX7_findOff_92 rfl (lv_at hl 1 rfl) ?_
        refine lv_imul hx hb dX7_findOff_93 ?_
        refine gtop (y := nI (11 * oζ)) (pk_mul 11 oζ) ?_
        refine lv_iload_n hx hb dX7_findOff_94 rfl (lv_at hl 0 rfl) ?_
        refine lv_bipush (v := 11) hx hb dX7_findOff_95 (by decide) ?_
        refine lv_irem hx hb dX7_findOff_97 (by decide) ?_
        refine gtop (y := nI (iζ % 11)) (pk_rem (a := iζ) (d := 11) (by omega) (by omega) (by omega)) ?_
        refine lv_iadd hx hb dX7_findOff_98 ?_
        refine gtop (y := nI ((11 * oζ) + (iζ % 11))) (nI_add (11 * oζ) (iζ % 11)) ?_
        refine r_iald (v := lsF ((11 * oζ) + (iζ % 11))) hx hb hK hP 2 rfl (vp_in_nI (n := (11 * oζ) + (iζ % 11)) (by omega) (by omega)) (congrArg lsF (nI_clamp (n := (11 * oζ) + (iζ % 11)) (by omega))) dX7_findOff_99 ?_
        refine lv_iadd hx hb dX7_findOff_100 ?_
        refine lv_istore_n (lv' := [(3, .int ((lsF ((11 * (iζ / 11)) + oζ)) + (lsF ((11 * oζ) + (iζ % 11))))), (2, .int (nI iζ)), (1, .int (nI oζ)), (0, .ref hζ)]) hx hb dX7_findOff_101 rfl hl (by decide) rfl (fun ls hl => ?_)
        refine lv_aload_n hx hb dX7_findOff_102 rfl (lv_at hl 3 rfl) ?_
        refine va_get (D := g.1) (ci := 7) (v := .ref (Aζ 24)) (C := RX7) (T := TX7) (N := 34) hx hb hts hi7 hown hK hP 0 rfl rfl 24 (by decide) (hts (.fieldLink RX7 46 "PanTalesModel" "off" "[I") (by decide +kernel)) (fun _ h9 => h9) rfl dX7_findOff_103 ?_
        refine lv_iload_n hx hb dX7_findOff_106 rfl (lv_at hl 1 rfl) ?_
        refine lv_iload_n hx hb dX7_findOff_107 rfl (lv_at hl 0 rfl) ?_
        refine lv_aload_n hx hb dX7_findOff_108 rfl (lv_at hl 3 rfl) ?_
        refine va_get (D := g.1) (ci := 7) (v := .ref (Aζ 24)) (C := RX7) (T := TX7) (N := 34) hx hb hts hi7 hown hK hP 0 rfl rfl 24 (by decide) (hts (.fieldLink RX7 46 "PanTalesModel" "off" "[I") (by decide +kernel)) (fun _ h9 => h9) rfl dX7_findOff_109 ?_
        refine lv_iload_n hx hb dX7_findOff_112 rfl (lv_at hl 1 rfl) ?_
        refine r_iald (v := lsF iζ) hx hb hK hP 2 rfl (vp_in_nI (n := iζ) (by omega) (by omega)) (congrArg lsF (nI_clamp (n := iζ) (by omega))) dX7_findOff_113 ?_
        refine lv_icmp_ge (tgt := 121) hx hb dX7_findOff_114 (by decide) (fun c_4 => ?_) (fun c_4 => ?_)
        · refine lv_aload_n hx hb dX7_findOff_121 rfl (lv_at hl 3 rfl) ?_
          refine va_get (D := g.1) (ci := 7) (v := .ref (Aζ 24)) (C := RX7) (T := TX7) (N := 34) hx hb hts hi7 hown hK hP 0 rfl rfl 24 (by decide) (hts (.fieldLink RX7 46 "PanTalesModel" "off" "[I") (by decide +kernel)) (fun _ h9 => h9) rfl dX7_findOff_122 ?_
          refine lv_iload_n hx hb dX7_findOff_125 rfl (lv_at hl 1 rfl) ?_
          refine r_iald (v := lsF iζ) hx hb hK hP 2 rfl (vp_in_nI (n := iζ) (by omega) (by omega)) (congrArg lsF (nI_clamp (n := iζ) (by omega))) dX7_findOff_126 ?_
          refine r_iast (f' := lsF) hx hb hK hP hD hS 2 rfl (vp_in_nI (n := iζ) (by omega) (by omega)) (upd_same (nI_clamp (n := iζ) (by omega))) dX7_findOff_127 (fun H locs hP hD hS => ?_)
          have hP : va_P g.1 vwCl [(hζ, .inr (7, oM Aζ Iζ)), aI g (Aζ 0) 121 (fun _ => 0), aI g (Aζ 24) 121 lsF] H := hP
          have hD : va_D Z [(hζ, .inr (7, oM Aζ Iζ)), aI g (Aζ 0) 121 (fun _ => 0), aI g (Aζ 24) 121 lsF] := hD
          refine lv_iinc (v := nI (iζ + 1)) (lv' := [(2, .int (nI (iζ + 1))), (3, .int ((lsF ((11 * (iζ / 11)) + oζ)) + (lsF ((11 * oζ) + (iζ % 11))))), (1, .int (nI oζ)), (0, .ref hζ)]) hx hb dX7_findOff_128 hl (k := 1) rfl (nI_1 iζ) (by decide) rfl (fun ls hl => ?_)
          refine lv_goto (tgt := 66) hx hb dX7_findOff_131 (by decide) ?_
          exact ih66 (iζ + 1) (by first | omega | (dsimp only; omega)) (by first | omega | (dsimp only; omega)) _ _ _ (hP.sub [0, 1, 2] rfl) (hD.sub [0, 1, 2] (by decide) rfl) hS (lv_sub hl [0, 2, 3] rfl)
        · exact absurd (ls_tr2 (by omega) (by omega)) c_4
  · have c_1 : ¬ 121 ≤ iζ := fun z => c_1 ((nI_leI (a := 121) (b := iζ) (by omega) (by omega)).mpr z)
    refine lv_aload_n hx hb dX7_findOff_8 rfl (lv_at hl 1 rfl) ?_
    refine va_get (D := g.1) (ci := 7) (v := .ref (Aζ 24)) (C := RX7) (T := TX7) (N := 34) hx hb hts hi7 hown hK hP 0 rfl rfl 24 (by decide) (hts (.fieldLink RX7 46 "PanTalesModel" "off" "[I") (by decide +kernel)) (fun _ h9 => h9) rfl dX7_findOff_9 ?_
    refine lv_iload_n hx hb dX7_findOff_12 rfl (lv_at hl 0 rfl) ?_
    refine lv_iload_n hx hb dX7_findOff_13 rfl (lv_at hl 0 rfl) ?_
    refine lv_bipush (v := 11) hx hb dX7_findOff_14 (by decide) ?_
    refine lv_idiv hx hb dX7_findOff_16 (by decide) ?_
    refine gtop (y := nI (iζ / 11)) (pk_div (a := iζ) (d := 11) (by omega) (by omega) (by omega)) ?_
    refine lv_iload_n hx hb dX7_findOff_17 rfl (lv_at hl 0 rfl) ?_
    refine lv_bipush (v := 11) hx hb dX7_findOff_18 (by decide) ?_
    refine lv_irem hx hb dX7_findOff_20 (by decide) ?_
    refine gtop (y := nI (iζ % 11)) (pk_rem (a := iζ) (d := 11) (by omega) (by omega) (by omega)) ?_
    refine lv_icmp_ne (tgt := 28) hx hb dX7_findOff_21 (by decide) (fun c_5 => ?_) (fun c_5 => ?_)
    · have c_5 : ¬ (iζ / 11) = (iζ % 11) := fun z => c_5 ((nI_eq (a := (iζ / 11)) (b := (iζ % 11)) (by omega) (by omega)).mpr z)
      refine lv_aload_n hx hb dX7_findOff_28 rfl (lv_at hl 1 rfl) ?_
      refine va_get (D := g.1) (ci := 7) (v := .ref (Aζ 0)) (C := RX7) (T := TX7) (N := 34) hx hb hts hi7 hown hK hP 0 rfl rfl 0 (by decide) (hts (.fieldLink RX7 7 "PanTalesModel" "roads" "[I") (by decide +kernel)) (fun _ h9 => h9) rfl dX7_findOff_29 ?_
      refine lv_iload_n hx hb dX7_findOff_32 rfl (lv_at hl 0 rfl) ?_
      refine r_iald (v := 0) hx hb hK hP 1 rfl (vp_in_nI (n := iζ) (by omega) (by omega)) (congrArg (fun _ => 0) (nI_clamp (n := iζ) (by omega))) dX7_findOff_33 ?_
      refine lv_if_le (tgt := 46) hx hb dX7_findOff_34 (by decide) (fun c_6 => ?_) (fun c_6 => ?_)
      · refine lv_sipush (v := 1000) hx hb dX7_findOff_46 (by decide) ?_
        refine r_iast (f' := fF fζ lsF (iζ + 1)) hx hb hK hP hD hS 2 rfl (vp_in_nI (n := iζ) (by omega) (by omega)) (fF_s (nI_clamp (n := iζ) (by omega)) (ls_o c_5)) dX7_findOff_49 (fun H locs hP hD hS => ?_)
        have hP : va_P g.1 vwCl [(hζ, .inr (7, oM Aζ Iζ)), aI g (Aζ 0) 121 (fun _ => 0), aI g (Aζ 24) 121 (fF fζ lsF (iζ + 1))] H := hP
        have hD : va_D Z [(hζ, .inr (7, oM Aζ Iζ)), aI g (Aζ 0) 121 (fun _ => 0), aI g (Aζ 24) 121 (fF fζ lsF (iζ + 1))] := hD
        refine lv_iinc (v := nI (iζ + 1)) (lv' := [(1, .int (nI (iζ + 1))), (0, .ref hζ)]) hx hb dX7_findOff_50 hl (k := 0) rfl (nI_1 iζ) (by decide) rfl (fun ls hl => ?_)
        refine lv_goto (tgt := 2) hx hb dX7_findOff_53 (by decide) ?_
        exact ih2 (iζ + 1) (by first | omega | (dsimp only; omega)) (by first | omega | (dsimp only; omega)) _ _ _ (hP.sub [0, 1, 2] rfl) (hD.sub [0, 1, 2] (by decide) rfl) hS (lv_sub hl [0, 1] rfl)
      · exact absurd (by decide) c_6
    · have c_5 : (iζ / 11) = (iζ % 11) := (nI_eq (a := (iζ / 11)) (b := (iζ % 11)) (by omega) (by omega)).mp c_5
      refine lv_iconst (v := 0) hx hb dX7_findOff_24 (by decide) ?_
      refine lv_goto (tgt := 49) hx hb dX7_findOff_25 (by decide) ?_
      refine r_iast (f' := fF fζ lsF (iζ + 1)) hx hb hK hP hD hS 2 rfl (vp_in_nI (n := iζ) (by omega) (by omega)) (fF_s (nI_clamp (n := iζ) (by omega)) (ls_d c_5)) dX7_findOff_49 (fun H locs hP hD hS => ?_)
      have hP : va_P g.1 vwCl [(hζ, .inr (7, oM Aζ Iζ)), aI g (Aζ 0) 121 (fun _ => 0), aI g (Aζ 24) 121 (fF fζ lsF (iζ + 1))] H := hP
      have hD : va_D Z [(hζ, .inr (7, oM Aζ Iζ)), aI g (Aζ 0) 121 (fun _ => 0), aI g (Aζ 24) 121 (fF fζ lsF (iζ + 1))] := hD
      refine lv_iinc (v := nI (iζ + 1)) (lv' := [(1, .int (nI (iζ + 1))), (0, .ref hζ)]) hx hb dX7_findOff_50 hl (k := 0) rfl (nI_1 iζ) (by decide) rfl (fun ls hl => ?_)
      refine lv_goto (tgt := 2) hx hb dX7_findOff_53 (by decide) ?_
      exact ih2 (iζ + 1) (by first | omega | (dsimp only; omega)) (by first | omega | (dsimp only; omega)) _ _ _ (hP.sub [0, 1, 2] rfl) (hD.sub [0, 1, 2] (by decide) rfl) hS (lv_sub hl [0, 1] rfl)
set_option maxHeartbeats 4000000 in
set_option maxRecDepth 100000 in
theorem c_X7_near (l : Launch) (g : GT) (sz : Nat) (hζ : Nat) (Aζ : Nat → Nat) (xζ yζ zζ : Int32) : Ci l yX7_near wsX7_near { frames := 2, cells := 0, slots := 0, locals := 45 } g sz [.ref hζ, .int xζ, .int yζ, .int zζ] [(hζ, .inr (7, oM Aζ iM0)), aI g (Aζ 0) 121 (fun _ => 0), aI g (Aζ 24) 121 (fun _ => 0)] (nearF xζ yζ zζ) [] := by
  refine gMet_i (cc := cX7_near) (maxL := 8) (ret := (some .int)) (by decide) rfl (Nat.le_of_ble_eq_true rfl) ?_
  intro p e s m args below meth c Z hx hb hr F hlk hnm hK hN hA H locs hP hD hS ls hl
  have hl : lv_has ls 8 [(0, .ref hζ), (1, .int xζ), (2, .int yζ), (3, .int zζ)] := hl
  have F : CallFix p m c cX7_near 8 s args wsX7_near RX7 := F
  have hts := F.2.2.2.2
  have hown : s.vm.findClass RX7 = some m.cls := F.2.2.2.1
  have hi7 : ∀ w ∈ u_ws RX7 TX7 34, w ∈ wsX7_near := by decide +kernel
  refine lv_iload_n hx hb dX7_near_0 rfl (lv_at hl 1 rfl) ?_
  refine gcP (As := [.int xζ]) (rest := []) F (c_X7_isPlace l xζ) gX7_near_X7_isPlace kX7_isPlace rfl rfl rfl ⟨(Nat.le_of_ble_eq_true rfl), (Nat.le_of_ble_eq_true rfl)⟩ rfl rfl hl.1 (Nat.le_of_ble_eq_true rfl) dX7_near_1 ⟨(Nat.le_of_ble_eq_true rfl), (Nat.le_of_ble_eq_true rfl)⟩ ?_
  refine lv_if_eq (tgt := 14) hx hb dX7_near_4 (by decide) (fun c_1 => ?_) (fun c_1 => ?_)
  · have c_1 : inB xζ 0 10 = false := bI_0 c_1
    refine lv_iconst (v := (-1)) hx hb dX7_near_14 (by decide) ?_
    exact r_iret hx hb hr hlk hS () (by unfold nearF; rw [if_neg (bF c_1)]) (hP.sub [] rfl) (hD.sub [] (by decide) rfl) dX7_near_15
  · have c_1 : inB xζ 0 10 = true := bI_1 c_1
    refine lv_iload_n hx hb dX7_near_7 rfl (lv_at hl 2 rfl) ?_
    refine gcP (As := [.int yζ]) (rest := []) F (c_X7_isPlace l yζ) gX7_near_X7_isPlace kX7_isPlace rfl rfl rfl ⟨(Nat.le_of_ble_eq_true rfl), (Nat.le_of_ble_eq_true rfl)⟩ rfl rfl hl.1 (Nat.le_of_ble_eq_true rfl) dX7_near_8 ⟨(Nat.le_of_ble_eq_true rfl), (Nat.le_of_ble_eq_true rfl)⟩ ?_
    refine lv_if_ne (tgt := 16) hx hb dX7_near_11 (by decide) (fun c_2 => ?_) (fun c_2 => ?_)
    · have c_2 : inB yζ 0 10 = true := bI_1 c_2
      refine lv_iload_n hx hb dX7_near_16 rfl (lv_at hl 3 rfl) ?_
      refine lv_i2l (v := zζ.toInt64) hx hb dX7_near_17 rfl ?_
      refine lv_lconst (v := 0) hx hb dX7_near_18 (by decide) ?_
      refine lv_lconst (v := 1) hx hb dX7_near_19 (by decide) ?_
      refine gcP (As := [.long zζ.toInt64, .long 0, .long 1]) (rest := []) F (c_X7_in l zζ.toInt64 0 1) gX7_near_X7_in kX7_in rfl rfl rfl ⟨(Nat.le_of_ble_eq_true rfl), (Nat.le_of_ble_eq_true rfl)⟩ rfl rfl hl.1 (Nat.le_of_ble_eq_true rfl) dX7_near_20 ⟨(Nat.le_of_ble_eq_true rfl), (Nat.le_of_ble_eq_true rfl)⟩ ?_
      refine gtop (y := bI (inB zζ 0 1)) (congrArg bI (inL_i (lo := 0) (hi := 1) (by decide) (by decide))) ?_
      refine lv_if_ne (tgt := 29) hx hb dX7_near_23 (by decide) (fun c_3 => ?_) (fun c_3 => ?_)
      · have c_3 : inB zζ 0 1 = true := bI_1 c_3
        obtain ⟨iζ, hiζ, eiζ⟩ := inB_nat (N := 11) (by decide) c_1
        have hl : lv_has ls 8 [(0, .ref hζ), (1, .int (nI iζ)), (2, .int yζ), (3, .int zζ)] := by first | exact hl | (rw [← (eiζ : xζ = nI iζ)]; exact hl)
        obtain ⟨jζ, hjζ, ejζ⟩ := inB_nat (N := 11) (by decide) c_2
        have hl : lv_has ls 8 [(0, .ref hζ), (1, .int (nI iζ)), (2, .int (nI jζ)), (3, .int zζ)] := by first | exact hl | (rw [← (ejζ : yζ = nI jζ)]; exact hl)
        refine lv_aload_n hx hb dX7_near_29 rfl (lv_at hl 0 rfl) ?_
        refine gcV_v (As := []) (rest := []) (ci := 7) (q := (RX7, TX7, 34)) F hK hN hP hD hS hA (c_X7_findOff l g H.size hζ Aζ iM0 (fun _ => 0)) gX7_near_X7_findOff kX7_findOff rfl rfl rfl rfl ⟨(Nat.le_of_ble_eq_true rfl), (Nat.le_of_ble_eq_true rfl)⟩ [0, 1, 2] [] rfl rfl rfl (by decide) rfl rfl rfl rfl rfl hl.1 (Nat.le_of_ble_eq_true rfl) dX7_near_30 ⟨(Nat.le_of_ble_eq_true rfl), (Nat.le_of_ble_eq_true rfl)⟩ (fun u_w H locs hw hP hD hS => ?_)
        have hP : va_P g.1 vwCl [(hζ, .inr (7, oM Aζ iM0)), aI g (Aζ 0) 121 (fun _ => 0), aI g (Aζ 24) 121 lsF] H := hP
        have hD : va_D Z [(hζ, .inr (7, oM Aζ iM0)), aI g (Aζ 0) 121 (fun _ => 0), aI g (Aζ 24) 121 lsF] := hD
        refine lv_aload_n hx hb dX7_near_33 rfl (lv_at hl 0 rfl) ?_
        refine va_get (D := g.1) (ci := 7) (v := .ref (Aζ 24)) (C := RX7) (T := TX7) (N := 34) hx hb hts hi7 hown hK hP 0 rfl rfl 24 (by decide) (hts (.fieldLink RX7 46 "PanTalesModel" "off" "[I") (by decide +kernel)) (fun _ h9 => h9) rfl dX7_near_34 ?_
        refine lv_bipush (v := 11) hx hb dX7_near_37 (by decide) ?_
        refine lv_iload_n hx hb dX7_near_39 rfl (lv_at hl 1 rfl) ?_
        refine lv_imul hx hb dX7_near_40 ?_
        refine gtop (y := nI (11 * iζ)) (pk_mul 11 iζ) ?_
        refine lv_iload_n hx hb dX7_near_41 rfl (lv_at hl 2 rfl) ?_
        refine lv_iadd hx hb dX7_near_42 ?_
        refine gtop (y := nI ((11 * iζ) + jζ)) (nI_add (11 * iζ) jζ) ?_
        refine r_iald (v := lsF ((11 * iζ) + jζ)) hx hb hK hP 2 rfl (vp_in_nI (n := (11 * iζ) + jζ) (by omega) (by omega)) (congrArg lsF (nI_clamp (n := (11 * iζ) + jζ) (by omega))) dX7_near_43 ?_
        refine gtop (y := if iζ = jζ then 0 else 1000) (ls_w hiζ hjζ) ?_
        refine lv_istore (lv' := [(4, .int (if iζ = jζ then 0 else 1000)), (0, .ref hζ), (1, .int (nI iζ)), (2, .int (nI jζ)), (3, .int zζ)]) hx hb dX7_near_44 hl (by decide) rfl (fun ls hl => ?_)
        refine lv_iload hx hb dX7_near_46 (lv_at hl 0 rfl) ?_
        refine lv_sipush (v := 1000) hx hb dX7_near_48 (by decide) ?_
        refine lv_icmp_lt (tgt := 57) hx hb dX7_near_51 (by decide) (fun c_4 => ?_) (fun c_4 => ?_)
        · have hijζ : iζ = jζ := ls_lt c_4
          refine lv_iload_n hx hb dX7_near_57 rfl (lv_at hl 4 rfl) ?_
          refine lv_if_ne (tgt := 64) hx hb dX7_near_58 (by decide) (fun c_5 => ?_) (fun c_5 => ?_)
          · refine lv_bipush (v := (-6)) hx hb dX7_near_64 (by decide) ?_
            refine lv_istore (lv' := [(5, .int (-6)), (4, .int (if iζ = jζ then 0 else 1000)), (0, .ref hζ), (1, .int (nI iζ)), (2, .int (nI jζ)), (3, .int zζ)]) hx hb dX7_near_66 hl (by decide) rfl (fun ls hl => ?_)
            refine lv_bipush (v := 10) hx hb dX7_near_68 (by decide) ?_
            refine lv_istore (lv' := [(6, .int 10), (5, .int (-6)), (4, .int (if iζ = jζ then 0 else 1000)), (0, .ref hζ), (1, .int (nI iζ)), (2, .int (nI jζ)), (3, .int zζ)]) hx hb dX7_near_70 hl (by decide) rfl (fun ls hl => ?_)
            refine lv_iload hx hb dX7_near_72 (lv_at hl 0 rfl) ?_
            refine lv_if_lt (tgt := 136) hx hb dX7_near_74 (by decide) (fun c_6 => ?_) (fun c_6 => ?_)
            · exact absurd c_6 (by decide)
            · refine lv_iload_n hx hb dX7_near_77 rfl (lv_at hl 4 rfl) ?_
              refine lv_iload_n hx hb dX7_near_78 rfl (lv_at hl 5 rfl) ?_
              refine lv_icmp_eq (tgt := 136) hx hb dX7_near_79 (by decide) (fun c_7 => ?_) (fun c_7 => ?_)
              · have c_7 : iζ = jζ := (nI_eq (a := iζ) (b := jζ) (by omega) (by omega)).mp c_7
                refine lv_iload hx hb dX7_near_136 (lv_at hl 1 rfl) ?_
                exact r_iret hx hb hr hlk hS () (nr_y hiζ hjζ eiζ ejζ hijζ c_1 c_2 c_3 c_5) (hP.sub [] rfl) (hD.sub [] (by decide) rfl) dX7_near_138
              · exact absurd (by rw [hijζ]) c_7
          · refine lv_iload hx hb dX7_near_61 (lv_at hl 0 rfl) ?_
            exact r_iret hx hb hr hlk hS () (nr_z hiζ hjζ eiζ ejζ hijζ c_1 c_2 c_3 c_5) (hP.sub [] rfl) (hD.sub [] (by decide) rfl) dX7_near_63
        · have hijζ : ¬ iζ = jζ := ls_ge c_4
          refine lv_bipush (v := (-6)) hx hb dX7_near_54 (by decide) ?_
          exact r_iret hx hb hr hlk hS () (nr_n hiζ hjζ eiζ ejζ hijζ c_1 c_2 c_3 ) (hP.sub [] rfl) (hD.sub [] (by decide) rfl) dX7_near_56
      · have c_3 : inB zζ 0 1 = false := bI_0 c_3
        refine lv_bipush (v := (-2)) hx hb dX7_near_26 (by decide) ?_
        exact r_iret hx hb hr hlk hS () (by unfold nearF; rw [if_pos c_1, if_pos c_2, if_neg (bF c_3)]) (hP.sub [] rfl) (hD.sub [] (by decide) rfl) dX7_near_28
    · have c_2 : inB yζ 0 10 = false := bI_0 c_2
      refine lv_iconst (v := (-1)) hx hb dX7_near_14 (by decide) ?_
      exact r_iret hx hb hr hlk hS () (by unfold nearF; rw [if_pos c_1, if_neg (bF c_2)]) (hP.sub [] rfl) (hD.sub [] (by decide) rfl) dX7_near_15
set_option maxHeartbeats 4000000 in
set_option maxRecDepth 100000 in
theorem c_X7_behindBed (l : Launch) (g : GT) (sz : Nat) (hζ : Nat) (Aζ : Nat → Nat) (Iζ : Nat → Int32) (jζ : Nat) (hjζ : jζ < 10) : Ci l yX7_behindBed wsX7_behindBed { frames := 0, cells := 0, slots := 0, locals := 0 } g sz [.ref hζ, .int 0, .int (nI jζ)] [(hζ, .inr (7, oM Aζ Iζ)), aI g (Aζ 1) 10 (fun _ => 5), aI g (Aζ 2) 10 (fun _ => 0)] (-6) [(hζ, .inr (7, oM Aζ Iζ)), aI g (Aζ 1) 10 (fun _ => 5), aI g (Aζ 2) 10 (fun _ => 0)] := by
  refine gMet_i (cc := cX7_behindBed) (maxL := 3) (ret := (some .int)) (by decide) rfl (Nat.le_of_ble_eq_true rfl) ?_
  intro p e s m args below meth c Z hx hb hr F hlk hnm hK hN hA H locs hP hD hS ls hl
  have hl : lv_has ls 3 [(0, .ref hζ), (1, .int 0), (2, .int (nI jζ))] := hl
  have F : CallFix p m c cX7_behindBed 3 s args wsX7_behindBed RX7 := F
  have hts := F.2.2.2.2
  have hown : s.vm.findClass RX7 = some m.cls := F.2.2.2.1
  have hi7 : ∀ w ∈ u_ws RX7 TX7 34, w ∈ wsX7_behindBed := by decide +kernel
  refine lv_aload_n hx hb dX7_behindBed_0 rfl (lv_at hl 0 rfl) ?_
  refine va_get (D := g.1) (ci := 7) (v := .ref (Aζ 2)) (C := RX7) (T := TX7) (N := 34) hx hb hts hi7 hown hK hP 0 rfl rfl 2 (by decide) (hts (.fieldLink RX7 16 "PanTalesModel" "damp" "[I") (by decide +kernel)) (fun _ h9 => h9) rfl dX7_behindBed_1 ?_
  refine lv_iload_n hx hb dX7_behindBed_4 rfl (lv_at hl 2 rfl) ?_
  refine r_iald (v := 0) hx hb hK hP 2 rfl (vp_in_nI (n := jζ) (by omega) (by omega)) (congrArg (fun _ => 0) (nI_clamp (n := jζ) (by omega))) dX7_behindBed_5 ?_
  refine lv_if_ne (tgt := 30) hx hb dX7_behindBed_6 (by decide) (fun c_1 => ?_) (fun c_1 => ?_)
  · exact absurd (by decide) c_1
  · refine lv_iload_n hx hb dX7_behindBed_9 rfl (lv_at hl 1 rfl) ?_
    refine lv_bipush (v := 9) hx hb dX7_behindBed_10 (by decide) ?_
    refine lv_aload_n hx hb dX7_behindBed_12 rfl (lv_at hl 0 rfl) ?_
    refine va_get (D := g.1) (ci := 7) (v := .ref (Aζ 1)) (C := RX7) (T := TX7) (N := 34) hx hb hts hi7 hown hK hP 0 rfl rfl 1 (by decide) (hts (.fieldLink RX7 13 "PanTalesModel" "doubt" "[I") (by decide +kernel)) (fun _ h9 => h9) rfl dX7_behindBed_13 ?_
    refine lv_iload_n hx hb dX7_behindBed_16 rfl (lv_at hl 2 rfl) ?_
    refine r_iald (v := 5) hx hb hK hP 1 rfl (vp_in_nI (n := jζ) (by omega) (by omega)) (congrArg (fun _ => 5) (nI_clamp (n := jζ) (by omega))) dX7_behindBed_17 ?_
    refine lv_imul hx hb dX7_behindBed_18 ?_
    refine gtop (y := 45) (by decide) ?_
    refine lv_icmp_le (tgt := 30) hx hb dX7_behindBed_19 (by decide) (fun c_2 => ?_) (fun c_2 => ?_)
    · refine lv_bipush (v := (-6)) hx hb dX7_behindBed_30 (by decide) ?_
      exact r_iret hx hb hr hlk hS () rfl (hP.sub [0, 1, 2] rfl) (hD.sub [0, 1, 2] (by decide) rfl) dX7_behindBed_32
    · exact absurd (by decide) c_2

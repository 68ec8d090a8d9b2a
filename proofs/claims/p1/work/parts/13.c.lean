theorem kX7_oneHouse : YOk yX7_oneHouse 2 := by decide +kernel
theorem kX7_lowest : YOk yX7_lowest 3 := by decide +kernel
theorem kX7_isRow : YOk yX7_isRow 4 := by decide +kernel
theorem kX7_row : YOk yX7_row 6 := by decide +kernel
set_option maxHeartbeats 4000000 in
set_option maxRecDepth 100000 in
theorem c_X7_oneHouse (l : Launch) (g : GT) (sz : Nat) (hζ : Nat) (Aζ : Nat → Nat) (Iζ : Nat → Int32) (fζ : Nat → Int64) (tζ uζ aζ : Nat) (htζ : tζ ≤ 10) (huζ : uζ ≤ 10) (haζ : aζ < 10) : Cv l yX7_oneHouse wsX7_oneHouse { frames := 0, cells := 0, slots := 0, locals := 0 } g sz [.ref hζ, .int (nI tζ), .int (nI uζ)] [(hζ, .inr (7, oM Aζ Iζ)), aJ g (Aζ 27) 22 (prF tζ uζ aζ), aJ g (Aζ 28) 22 fζ] [(hζ, .inr (7, oM Aζ Iζ)), aJ g (Aζ 27) 22 (prF tζ uζ (aζ + 1)), aJ g (Aζ 28) 22 (prF tζ uζ (aζ + 1))] := by
  refine gMet_v (cc := cX7_oneHouse) (maxL := 8) (ret := none) (by decide) rfl (Nat.le_of_ble_eq_true rfl) ?_
  intro p e s m args below meth c Z hx hb hr F hlk hnm hK hN hA H locs hP hD hS ls hl
  have hl : lv_has ls 8 [(0, .ref hζ), (1, .int (nI tζ)), (2, .int (nI uζ))] := hl
  have F : CallFix p m c cX7_oneHouse 8 s args wsX7_oneHouse RX7 := F
  have hts := F.2.2.2.2
  have hown : s.vm.findClass RX7 = some m.cls := F.2.2.2.1
  have hi7 : ∀ w ∈ u_ws RX7 TX7 34, w ∈ wsX7_oneHouse := by decide +kernel
  refine lv_iconst (v := 0) hx hb dX7_oneHouse_0 (by decide) ?_
  refine lv_istore_n (lv' := [(3, .int 0), (0, .ref hζ), (1, .int (nI tζ)), (2, .int (nI uζ))]) hx hb dX7_oneHouse_1 rfl hl (by decide) rfl (fun ls hl => ?_)
  obtain ⟨hP, hD⟩ := r_extJ hP hD 2 rfl (f' := fF fζ (fun _ => 0) 0) fF_0
  have hP : va_P g.1 vwCl [(hζ, .inr (7, oM Aζ Iζ)), aJ g (Aζ 27) 22 (prF tζ uζ aζ), aJ g (Aζ 28) 22 (fF fζ (fun _ => 0) 0)] H := hP
  have hD : va_D Z [(hζ, .inr (7, oM Aζ Iζ)), aJ g (Aζ 27) 22 (prF tζ uζ aζ), aJ g (Aζ 28) 22 (fF fζ (fun _ => 0) 0)] := hD
  refine gloop (σ := Nat) (fun u0 => 22 - u0) (fun u0 => u0 ≤ 22) (fun u0 => [(hζ, .inr (7, oM Aζ Iζ)), aJ g (Aζ 27) 22 (prF tζ uζ aζ), aJ g (Aζ 28) 22 (fF fζ (fun _ => 0) u0)]) (fun u0 => [(3, .int (nI u0)), (0, .ref hζ), (1, .int (nI tζ)), (2, .int (nI uζ))]) ?_ 0 (by first | omega | decide | rfl) (hP.sub [0, 1, 2] rfl) (hD.sub [0, 1, 2] (by decide) rfl) hS (lv_sub hl [0, 1, 2, 3] rfl)
  rintro iζ hiζ ih2 H locs ls hP hD hS hl
  have hiζ : iζ ≤ 22 := hiζ
  have hP : va_P g.1 vwCl [(hζ, .inr (7, oM Aζ Iζ)), aJ g (Aζ 27) 22 (prF tζ uζ aζ), aJ g (Aζ 28) 22 (fF fζ (fun _ => 0) iζ)] H := hP
  have hD : va_D Z [(hζ, .inr (7, oM Aζ Iζ)), aJ g (Aζ 27) 22 (prF tζ uζ aζ), aJ g (Aζ 28) 22 (fF fζ (fun _ => 0) iζ)] := hD
  have hl : lv_has ls 8 [(3, .int (nI iζ)), (0, .ref hζ), (1, .int (nI tζ)), (2, .int (nI uζ))] := hl
  refine lv_iload_n hx hb dX7_oneHouse_2 rfl (lv_at hl 0 rfl) ?_
  refine lv_bipush (v := 22) hx hb dX7_oneHouse_3 (by decide) ?_
  refine lv_icmp_ge (tgt := 21) hx hb dX7_oneHouse_5 (by decide) (fun c_1 => ?_) (fun c_1 => ?_)
  · have c_1 : 22 ≤ iζ := (nI_leI (a := 22) (b := iζ) (by omega) (by omega)).mp c_1
    obtain ⟨hP, hD⟩ := r_extJ hP hD 2 rfl (f' := (fun _ => 0)) (by intro z hz; exact fF_n z (by omega))
    have hP : va_P g.1 vwCl [(hζ, .inr (7, oM Aζ Iζ)), aJ g (Aζ 27) 22 (prF tζ uζ aζ), aJ g (Aζ 28) 22 (fun _ => 0)] H := hP
    have hD : va_D Z [(hζ, .inr (7, oM Aζ Iζ)), aJ g (Aζ 27) 22 (prF tζ uζ aζ), aJ g (Aζ 28) 22 (fun _ => 0)] := hD
    refine lv_iconst (v := 0) hx hb dX7_oneHouse_21 (by decide) ?_
    refine lv_istore_n (lv' := [(3, .int 0), (0, .ref hζ), (1, .int (nI tζ)), (2, .int (nI uζ))]) hx hb dX7_oneHouse_22 rfl hl (by decide) rfl (fun ls hl => ?_)
    obtain ⟨hP, hD⟩ := r_extJ hP hD 2 rfl (f' := ptF tζ uζ aζ 0 0) pt_0
    have hP : va_P g.1 vwCl [(hζ, .inr (7, oM Aζ Iζ)), aJ g (Aζ 27) 22 (prF tζ uζ aζ), aJ g (Aζ 28) 22 (ptF tζ uζ aζ 0 0)] H := hP
    have hD : va_D Z [(hζ, .inr (7, oM Aζ Iζ)), aJ g (Aζ 27) 22 (prF tζ uζ aζ), aJ g (Aζ 28) 22 (ptF tζ uζ aζ 0 0)] := hD
    refine gloop (σ := Nat) (fun u0 => 10 - u0) (fun u0 => u0 ≤ 10) (fun u0 => [(hζ, .inr (7, oM Aζ Iζ)), aJ g (Aζ 27) 22 (prF tζ uζ aζ), aJ g (Aζ 28) 22 (ptF tζ uζ aζ u0 u0)]) (fun u0 => [(3, .int (nI u0)), (0, .ref hζ), (1, .int (nI tζ)), (2, .int (nI uζ))]) ?_ 0 (by first | omega | decide | rfl) (hP.sub [0, 1, 2] rfl) (hD.sub [0, 1, 2] (by decide) rfl) hS (lv_sub hl [0, 1, 2, 3] rfl)
    rintro iζ hiζ ih23 H locs ls hP hD hS hl
    have hiζ : iζ ≤ 10 := hiζ
    have hP : va_P g.1 vwCl [(hζ, .inr (7, oM Aζ Iζ)), aJ g (Aζ 27) 22 (prF tζ uζ aζ), aJ g (Aζ 28) 22 (ptF tζ uζ aζ iζ iζ)] H := hP
    have hD : va_D Z [(hζ, .inr (7, oM Aζ Iζ)), aJ g (Aζ 27) 22 (prF tζ uζ aζ), aJ g (Aζ 28) 22 (ptF tζ uζ aζ iζ iζ)] := hD
    have hl : lv_has ls 8 [(3, .int (nI iζ)), (0, .ref hζ), (1, .int (nI tζ)), (2, .int (nI uζ))] := hl
    refine lv_iload_n hx hb dX7_oneHouse_23 rfl (lv_at hl 0 rfl) ?_
    refine lv_bipush (v := 10) hx hb dX7_oneHouse_24 (by decide) ?_
    refine lv_icmp_ge (tgt := 125) hx hb dX7_oneHouse_26 (by decide) (fun c_2 => ?_) (fun c_2 => ?_)
    · have c_2 : 10 ≤ iζ := (nI_leI (a := 10) (b := iζ) (by omega) (by omega)).mp c_2
      obtain ⟨hP, hD⟩ := r_extJ hP hD 2 rfl (f' := prF tζ uζ (aζ + 1)) (pt_10 c_2 haζ)
      have hP : va_P g.1 vwCl [(hζ, .inr (7, oM Aζ Iζ)), aJ g (Aζ 27) 22 (prF tζ uζ aζ), aJ g (Aζ 28) 22 (prF tζ uζ (aζ + 1))] H := hP
      have hD : va_D Z [(hζ, .inr (7, oM Aζ Iζ)), aJ g (Aζ 27) 22 (prF tζ uζ aζ), aJ g (Aζ 28) 22 (prF tζ uζ (aζ + 1))] := hD
      refine lv_iconst (v := 0) hx hb dX7_oneHouse_125 (by decide) ?_
      refine lv_istore_n (lv' := [(3, .int 0), (0, .ref hζ), (1, .int (nI tζ)), (2, .int (nI uζ))]) hx hb dX7_oneHouse_126 rfl hl (by decide) rfl (fun ls hl => ?_)
      obtain ⟨hP, hD⟩ := r_extJ hP hD 1 rfl (f' := fF (prF tζ uζ aζ) (prF tζ uζ (aζ + 1)) 0) fF_0
      have hP : va_P g.1 vwCl [(hζ, .inr (7, oM Aζ Iζ)), aJ g (Aζ 27) 22 (fF (prF tζ uζ aζ) (prF tζ uζ (aζ + 1)) 0), aJ g (Aζ 28) 22 (prF tζ uζ (aζ + 1))] H := hP
      have hD : va_D Z [(hζ, .inr (7, oM Aζ Iζ)), aJ g (Aζ 27) 22 (fF (prF tζ uζ aζ) (prF tζ uζ (aζ + 1)) 0), aJ g (Aζ 28) 22 (prF tζ uζ (aζ + 1))] := hD
      refine gloop (σ := Nat) (fun u0 => 22 - u0) (fun u0 => u0 ≤ 22) (fun u0 => [(hζ, .inr (7, oM Aζ Iζ)), aJ g (Aζ 27) 22 (fF (prF tζ uζ aζ) (prF tζ uζ (aζ + 1)) u0), aJ g (Aζ 28) 22 (prF tζ uζ (aζ + 1))]) (fun u0 => [(3, .int (nI u0)), (0, .ref hζ), (1, .int (nI tζ)), (2, .int (nI uζ))]) ?_ 0 (by first | omega | decide | rfl) (hP.sub [0, 1, 2] rfl) (hD.sub [0, 1, 2] (by decide) rfl) hS (lv_sub hl [0, 1, 2, 3] rfl)
      rintro iζ hiζ ih127 H locs ls hP hD hS hl
      have hiζ : iζ ≤ 22 := hiζ
      have hP : va_P g.1 vwCl [(hζ, .inr (7, oM Aζ Iζ)), aJ g (Aζ 27) 22 (fF (prF tζ uζ aζ) (prF tζ uζ (aζ + 1)) iζ), aJ g (Aζ 28) 22 (prF tζ uζ (aζ + 1))] H := hP
      have hD : va_D Z [(hζ, .inr (7, oM Aζ Iζ)), aJ g (Aζ 27) 22 (fF (prF tζ uζ aζ) (prF tζ uζ (aζ + 1)) iζ), aJ g (Aζ 28) 22 (prF tζ uζ (aζ + 1))] := hD
      have hl : lv_has ls 8 [(3, .int (nI iζ)), (0, .ref hζ), (1, .int (nI tζ)), (2, .int (nI uζ))] := hl
      refine lv_iload_n hx hb dX7_oneHouse_127 rfl (lv_at hl 0 rfl) ?_
      refine lv_bipush (v := 22) hx hb dX7_oneHouse_128 (by decide) ?_
      refine lv_icmp_ge (tgt := 151) hx hb dX7_oneHouse_130 (by decide) (fun c_3 => ?_) (fun c_3 => ?_)
      · have c_3 : 22 ≤ iζ := (nI_leI (a := 22) (b := iζ) (by omega) (by omega)).mp c_3
        obtain ⟨hP, hD⟩ := r_extJ hP hD 1 rfl (f' := prF tζ uζ (aζ + 1)) (by intro z hz; exact fF_n z (by omega))
        have hP : va_P g.1 vwCl [(hζ, .inr (7, oM Aζ Iζ)), aJ g (Aζ 27) 22 (prF tζ uζ (aζ + 1)), aJ g (Aζ 28) 22 (prF tζ uζ (aζ + 1))] H := hP
        have hD : va_D Z [(hζ, .inr (7, oM Aζ Iζ)), aJ g (Aζ 27) 22 (prF tζ uζ (aζ + 1)), aJ g (Aζ 28) 22 (prF tζ uζ (aζ + 1))] := hD
        exact r_vret hx hb hr hlk hS () trivial (hP.sub [0, 1, 2] rfl) (hD.sub [0, 1, 2] (by decide) rfl) dX7_oneHouse_151
      · have c_3 : ¬ 22 ≤ iζ := fun z => c_3 ((nI_leI (a := 22) (b := iζ) (by omega) (by omega)).mpr z)
        refine lv_aload_n hx hb dX7_oneHouse_133 rfl (lv_at hl 1 rfl) ?_
        refine va_get (D := g.1) (ci := 7) (v := .ref (Aζ 27)) (C := RX7) (T := TX7) (N := 34) hx hb hts hi7 hown hK hP 0 rfl rfl 27 (by decide) (hts (.fieldLink RX7 55 "PanTalesModel" "parts" "[J") (by decide +kernel)) (fun _ h9 => h9) rfl dX7_oneHouse_134 ?_
        refine lv_iload_n hx hb dX7_oneHouse_137 rfl (lv_at hl 0 rfl) ?_
        refine lv_aload_n hx hb dX7_oneHouse_138 rfl (lv_at hl 1 rfl) ?_
        refine va_get (D := g.1) (ci := 7) (v := .ref (Aζ 28)) (C := RX7) (T := TX7) (N := 34) hx hb hts hi7 hown hK hP 0 rfl rfl 28 (by decide) (hts (.fieldLink RX7 59 "PanTalesModel" "partsThen" "[J") (by decide +kernel)) (fun _ h9 => h9) rfl dX7_oneHouse_139 ?_
        refine lv_iload_n hx hb dX7_oneHouse_142 rfl (lv_at hl 0 rfl) ?_
        refine r_lald (v := prF tζ uζ (aζ + 1) iζ) hx hb hK hP 2 rfl (vp_in_nI (n := iζ) (by omega) (by omega)) (congrArg (prF tζ uζ (aζ + 1)) (nI_clamp (n := iζ) (by omega))) dX7_oneHouse_143 ?_
        refine r_last (f' := fF (prF tζ uζ aζ) (prF tζ uζ (aζ + 1)) (iζ + 1)) hx hb hK hP hD hS 1 rfl (vp_in_nI (n := iζ) (by omega) (by omega)) (fF_sJ (nI_clamp (n := iζ) (by omega)) rfl) dX7_oneHouse_144 (fun H locs hP hD hS => ?_)
        have hP : va_P g.1 vwCl [(hζ, .inr (7, oM Aζ Iζ)), aJ g (Aζ 27) 22 (fF (prF tζ uζ aζ) (prF tζ uζ (aζ + 1)) (iζ + 1)), aJ g (Aζ 28) 22 (prF tζ uζ (aζ + 1))] H := hP
        have hD : va_D Z [(hζ, .inr (7, oM Aζ Iζ)), aJ g (Aζ 27) 22 (fF (prF tζ uζ aζ) (prF tζ uζ (aζ + 1)) (iζ + 1)), aJ g (Aζ 28) 22 (prF tζ uζ (aζ + 1))] := hD
        refine lv_iinc (v := nI (iζ + 1)) (lv' := [(3, .int (nI (iζ + 1))), (0, .ref hζ), (1, .int (nI tζ)), (2, .int (nI uζ))]) hx hb dX7_oneHouse_145 hl (k := 0) rfl (nI_1 iζ) (by decide) rfl (fun ls hl => ?_)
        refine lv_goto (tgt := 127) hx hb dX7_oneHouse_148 (by decide) ?_
        exact ih127 (iζ + 1) (by first | omega | (dsimp only; omega)) (by first | omega | (dsimp only; omega)) _ _ _ (hP.sub [0, 1, 2] rfl) (hD.sub [0, 1, 2] (by decide) rfl) hS (lv_sub hl [0, 1, 2, 3] rfl)
    · have c_2 : ¬ 10 ≤ iζ := fun z => c_2 ((nI_leI (a := 10) (b := iζ) (by omega) (by omega)).mpr z)
      refine lv_iload_n hx hb dX7_oneHouse_29 rfl (lv_at hl 2 rfl) ?_
      refine lv_i2l (v := lN tζ) hx hb dX7_oneHouse_30 (nI_l (by omega)) ?_
      refine lv_aload_n hx hb dX7_oneHouse_31 rfl (lv_at hl 1 rfl) ?_
      refine va_get (D := g.1) (ci := 7) (v := .ref (Aζ 27)) (C := RX7) (T := TX7) (N := 34) hx hb hts hi7 hown hK hP 0 rfl rfl 27 (by decide) (hts (.fieldLink RX7 55 "PanTalesModel" "parts" "[J") (by decide +kernel)) (fun _ h9 => h9) rfl dX7_oneHouse_32 ?_
      refine lv_iconst (v := 2) hx hb dX7_oneHouse_35 (by decide) ?_
      refine lv_iload_n hx hb dX7_oneHouse_36 rfl (lv_at hl 0 rfl) ?_
      refine lv_imul hx hb dX7_oneHouse_37 ?_
      refine gtop (y := nI (2 * iζ)) (pk_mul 2 iζ) ?_
      refine lv_iconst (v := 1) hx hb dX7_oneHouse_38 (by decide) ?_
      refine lv_iadd hx hb dX7_oneHouse_39 ?_
      refine gtop (y := nI ((2 * iζ) + 1)) (nI_add (2 * iζ) 1) ?_
      refine r_lald (v := lN ((wDN tζ uζ aζ).1 iζ)) hx hb hK hP 1 rfl (vp_in_nI (n := (2 * iζ) + 1) (by omega) (by omega)) (pr_o (nI_clamp (n := 2 * iζ + 1) (by omega))) dX7_oneHouse_40 ?_
      refine lv_lmul hx hb dX7_oneHouse_41 ?_
      refine gtopl (y := lN (tζ * ((wDN tζ uζ aζ).1 iζ))) (lN_mul tζ ((wDN tζ uζ aζ).1 iζ)) ?_
      refine lv_iload_n hx hb dX7_oneHouse_42 rfl (lv_at hl 3 rfl) ?_
      refine lv_i2l (v := lN uζ) hx hb dX7_oneHouse_43 (nI_l (by omega)) ?_
      refine lv_aload_n hx hb dX7_oneHouse_44 rfl (lv_at hl 1 rfl) ?_
      refine va_get (D := g.1) (ci := 7) (v := .ref (Aζ 27)) (C := RX7) (T := TX7) (N := 34) hx hb hts hi7 hown hK hP 0 rfl rfl 27 (by decide) (hts (.fieldLink RX7 55 "PanTalesModel" "parts" "[J") (by decide +kernel)) (fun _ h9 => h9) rfl dX7_oneHouse_45 ?_
      refine lv_iconst (v := 2) hx hb dX7_oneHouse_48 (by decide) ?_
      refine lv_iload_n hx hb dX7_oneHouse_49 rfl (lv_at hl 0 rfl) ?_
      refine lv_imul hx hb dX7_oneHouse_50 ?_
      refine gtop (y := nI (2 * iζ)) (pk_mul 2 iζ) ?_
      refine r_lald (v := lN ((wDN tζ uζ aζ).2 iζ)) hx hb hK hP 1 rfl (vp_in_nI (n := 2 * iζ) (by omega) (by omega)) (pr_e (nI_clamp (n := 2 * iζ) (by omega))) dX7_oneHouse_51 ?_
      refine lv_lmul hx hb dX7_oneHouse_52 ?_
      refine gtopl (y := lN (uζ * ((wDN tζ uζ aζ).2 iζ))) (lN_mul uζ ((wDN tζ uζ aζ).2 iζ)) ?_
      refine lv_ladd hx hb dX7_oneHouse_53 ?_
      refine gtopl (y := lN ((wDN tζ uζ (aζ + 1)).1 (iζ + 1))) ((lN_add _ _).trans (congrArg lN wd_1)) ?_
      refine lv_lstore (lv' := [(4, .long (lN ((wDN tζ uζ (aζ + 1)).1 (iζ + 1)))), (3, .int (nI iζ)), (0, .ref hζ), (1, .int (nI tζ)), (2, .int (nI uζ))]) hx hb dX7_oneHouse_54 hl (by decide) rfl (fun ls hl => ?_)
      refine lv_ldc2 (v := 10) hx hb hown (hts (.constantLong RX7 82 (10)) (by decide +kernel)) dX7_oneHouse_56 ?_
      refine lv_iload_n hx hb dX7_oneHouse_59 rfl (lv_at hl 3 rfl) ?_
      refine lv_i2l (v := lN tζ) hx hb dX7_oneHouse_60 (nI_l (by omega)) ?_
      refine lv_lsub hx hb dX7_oneHouse_61 ?_
      refine gtopl (y := lN (10 - tζ)) (lN_sub (a := 10) (b := tζ) (by omega)) ?_
      refine lv_aload_n hx hb dX7_oneHouse_62 rfl (lv_at hl 2 rfl) ?_
      refine va_get (D := g.1) (ci := 7) (v := .ref (Aζ 27)) (C := RX7) (T := TX7) (N := 34) hx hb hts hi7 hown hK hP 0 rfl rfl 27 (by decide) (hts (.fieldLink RX7 55 "PanTalesModel" "parts" "[J") (by decide +kernel)) (fun _ h9 => h9) rfl dX7_oneHouse_63 ?_
      refine lv_iconst (v := 2) hx hb dX7_oneHouse_66 (by decide) ?_
      refine lv_iload_n hx hb dX7_oneHouse_67 rfl (lv_at hl 1 rfl) ?_
      refine lv_imul hx hb dX7_oneHouse_68 ?_
      refine gtop (y := nI (2 * iζ)) (pk_mul 2 iζ) ?_
      refine lv_iconst (v := 1) hx hb dX7_oneHouse_69 (by decide) ?_
      refine lv_iadd hx hb dX7_oneHouse_70 ?_
      refine gtop (y := nI ((2 * iζ) + 1)) (nI_add (2 * iζ) 1) ?_
      refine r_lald (v := lN ((wDN tζ uζ aζ).1 iζ)) hx hb hK hP 1 rfl (vp_in_nI (n := (2 * iζ) + 1) (by omega) (by omega)) (pr_o (nI_clamp (n := 2 * iζ + 1) (by omega))) dX7_oneHouse_71 ?_
      refine lv_lmul hx hb dX7_oneHouse_72 ?_
      refine gtopl (y := lN ((10 - tζ) * ((wDN tζ uζ aζ).1 iζ))) (lN_mul (10 - tζ) ((wDN tζ uζ aζ).1 iζ)) ?_
      refine lv_ldc2 (v := 10) hx hb hown (hts (.constantLong RX7 82 (10)) (by decide +kernel)) dX7_oneHouse_73 ?_
      refine lv_iload_n hx hb dX7_oneHouse_76 rfl (lv_at hl 4 rfl) ?_
      refine lv_i2l (v := lN uζ) hx hb dX7_oneHouse_77 (nI_l (by omega)) ?_
      refine lv_lsub hx hb dX7_oneHouse_78 ?_
      refine gtopl (y := lN (10 - uζ)) (lN_sub (a := 10) (b := uζ) (by omega)) ?_
      refine lv_aload_n hx hb dX7_oneHouse_79 rfl (lv_at hl 2 rfl) ?_
      refine va_get (D := g.1) (ci := 7) (v := .ref (Aζ 27)) (C := RX7) (T := TX7) (N := 34) hx hb hts hi7 hown hK hP 0 rfl rfl 27 (by decide) (hts (.fieldLink RX7 55 "PanTalesModel" "parts" "[J") (by decide +kernel)) (fun _ h9 => h9) rfl dX7_oneHouse_80 ?_
      refine lv_iconst (v := 2) hx hb dX7_oneHouse_83 (by decide) ?_
      refine lv_iload_n hx hb dX7_oneHouse_84 rfl (lv_at hl 1 rfl) ?_
      refine lv_imul hx hb dX7_oneHouse_85 ?_
      refine gtop (y := nI (2 * iζ)) (pk_mul 2 iζ) ?_
      refine r_lald (v := lN ((wDN tζ uζ aζ).2 iζ)) hx hb hK hP 1 rfl (vp_in_nI (n := 2 * iζ) (by omega) (by omega)) (pr_e (nI_clamp (n := 2 * iζ) (by omega))) dX7_oneHouse_86 ?_
      refine lv_lmul hx hb dX7_oneHouse_87 ?_
      refine gtopl (y := lN ((10 - uζ) * ((wDN tζ uζ aζ).2 iζ))) (lN_mul (10 - uζ) ((wDN tζ uζ aζ).2 iζ)) ?_
      refine lv_ladd hx hb dX7_oneHouse_88 ?_
      refine gtopl (y := lN ((wDN tζ uζ (aζ + 1)).2 iζ)) ((lN_add _ _).trans (congrArg lN wd_2)) ?_
      refine lv_lstore (lv' := [(6, .long (lN ((wDN tζ uζ (aζ + 1)).2 iζ))), (4, .long (lN ((wDN tζ uζ (aζ + 1)).1 (iζ + 1)))), (3, .int (nI iζ)), (0, .ref hζ), (1, .int (nI tζ)), (2, .int (nI uζ))]) hx hb dX7_oneHouse_89 hl (by decide) rfl (fun ls hl => ?_)
      refine lv_aload_n hx hb dX7_oneHouse_91 rfl (lv_at hl 3 rfl) ?_
      refine va_get (D := g.1) (ci := 7) (v := .ref (Aζ 28)) (C := RX7) (T := TX7) (N := 34) hx hb hts hi7 hown hK hP 0 rfl rfl 28 (by decide) (hts (.fieldLink RX7 59 "PanTalesModel" "partsThen" "[J") (by decide +kernel)) (fun _ h9 => h9) rfl dX7_oneHouse_92 ?_
      refine lv_iconst (v := 2) hx hb dX7_oneHouse_95 (by decide) ?_
      refine lv_iload_n hx hb dX7_oneHouse_96 rfl (lv_at hl 2 rfl) ?_
      refine lv_imul hx hb dX7_oneHouse_97 ?_
      refine gtop (y := nI (2 * iζ)) (pk_mul 2 iζ) ?_
      refine lv_iconst (v := 3) hx hb dX7_oneHouse_98 (by decide) ?_
      refine lv_iadd hx hb dX7_oneHouse_99 ?_
      refine gtop (y := nI ((2 * iζ) + 3)) (nI_add (2 * iζ) 3) ?_
      refine lv_dup2_11 hx hb dX7_oneHouse_100 rfl rfl ?_
      refine r_lald (v := 0) hx hb hK hP 2 rfl (vp_in_nI (n := (2 * iζ) + 3) (by omega) (by omega)) (pt_o0 (nI_clamp (n := 2 * iζ + 3) (by omega))) dX7_oneHouse_101 ?_
      refine lv_lload hx hb dX7_oneHouse_102 (lv_at hl 1 rfl) ?_
      refine lv_ladd hx hb dX7_oneHouse_104 ?_
      refine gtopl (y := lN ((wDN tζ uζ (aζ + 1)).1 (iζ + 1))) ((lN_add 0 _).trans (congrArg lN (Nat.zero_add _))) ?_
      refine r_last (f' := ptF tζ uζ aζ (iζ + 1) iζ) hx hb hK hP hD hS 2 rfl (vp_in_nI (n := (2 * iζ) + 3) (by omega) (by omega)) (pt_so (nI_clamp (n := 2 * iζ + 3) (by omega))) dX7_oneHouse_105 (fun H locs hP hD hS => ?_)
      have hP : va_P g.1 vwCl [(hζ, .inr (7, oM Aζ Iζ)), aJ g (Aζ 27) 22 (prF tζ uζ aζ), aJ g (Aζ 28) 22 (ptF tζ uζ aζ (iζ + 1) iζ)] H := hP
      have hD : va_D Z [(hζ, .inr (7, oM Aζ Iζ)), aJ g (Aζ 27) 22 (prF tζ uζ aζ), aJ g (Aζ 28) 22 (ptF tζ uζ aζ (iζ + 1) iζ)] := hD
      refine lv_aload_n hx hb dX7_oneHouse_106 rfl (lv_at hl 3 rfl) ?_
      refine va_get (D := g.1) (ci := 7) (v := .ref (Aζ 28)) (C := RX7) (T := TX7) (N := 34) hx hb hts hi7 hown hK hP 0 rfl rfl 28 (by decide) (hts (.fieldLink RX7 59 "PanTalesModel" "partsThen" "[J") (by decide +kernel)) (fun _ h9 => h9) rfl dX7_oneHouse_107 ?_
      refine lv_iconst (v := 2) hx hb dX7_oneHouse_110 (by decide) ?_
      refine lv_iload_n hx hb dX7_oneHouse_111 rfl (lv_at hl 2 rfl) ?_
      refine lv_imul hx hb dX7_oneHouse_112 ?_
      refine gtop (y := nI (2 * iζ)) (pk_mul 2 iζ) ?_
      refine lv_dup2_11 hx hb dX7_oneHouse_113 rfl rfl ?_
      refine r_lald (v := 0) hx hb hK hP 2 rfl (vp_in_nI (n := 2 * iζ) (by omega) (by omega)) (pt_e0 (nI_clamp (n := 2 * iζ) (by omega))) dX7_oneHouse_114 ?_
      refine lv_lload hx hb dX7_oneHouse_115 (lv_at hl 0 rfl) ?_
      refine lv_ladd hx hb dX7_oneHouse_117 ?_
      refine gtopl (y := lN ((wDN tζ uζ (aζ + 1)).2 iζ)) ((lN_add 0 _).trans (congrArg lN (Nat.zero_add _))) ?_
      refine r_last (f' := ptF tζ uζ aζ (iζ + 1) (iζ + 1)) hx hb hK hP hD hS 2 rfl (vp_in_nI (n := 2 * iζ) (by omega) (by omega)) (pt_se (nI_clamp (n := 2 * iζ) (by omega))) dX7_oneHouse_118 (fun H locs hP hD hS => ?_)
      have hP : va_P g.1 vwCl [(hζ, .inr (7, oM Aζ Iζ)), aJ g (Aζ 27) 22 (prF tζ uζ aζ), aJ g (Aζ 28) 22 (ptF tζ uζ aζ (iζ + 1) (iζ + 1))] H := hP
      have hD : va_D Z [(hζ, .inr (7, oM Aζ Iζ)), aJ g (Aζ 27) 22 (prF tζ uζ aζ), aJ g (Aζ 28) 22 (ptF tζ uζ aζ (iζ + 1) (iζ + 1))] := hD
      refine lv_iinc (v := nI (iζ + 1)) (lv' := [(3, .int (nI (iζ + 1))), (6, .long (lN ((wDN tζ uζ (aζ + 1)).2 iζ))), (4, .long (lN ((wDN tζ uζ (aζ + 1)).1 (iζ + 1)))), (0, .ref hζ), (1, .int (nI tζ)), (2, .int (nI uζ))]) hx hb dX7_oneHouse_119 hl (k := 2) rfl (nI_1 iζ) (by decide) rfl (fun ls hl => ?_)
      refine lv_goto (tgt := 23) hx hb dX7_oneHouse_122 (by decide) ?_
      exact ih23 (iζ + 1) (by first | omega | (dsimp only; omega)) (by first | omega | (dsimp only; omega)) _ _ _ (hP.sub [0, 1, 2] rfl) (hD.sub [0, 1, 2] (by decide) rfl) hS (lv_sub hl [0, 3, 4, 5] rfl)
  · have c_1 : ¬ 22 ≤ iζ := fun z => c_1 ((nI_leI (a := 22) (b := iζ) (by omega) (by omega)).mpr z)
    refine lv_aload_n hx hb dX7_oneHouse_8 rfl (lv_at hl 1 rfl) ?_
    refine va_get (D := g.1) (ci := 7) (v := .ref (Aζ 28)) (C := RX7) (T := TX7) (N := 34) hx hb hts hi7 hown hK hP 0 rfl rfl 28 (by decide) (hts (.fieldLink RX7 59 "PanTalesModel" "partsThen" "[J") (by decide +kernel)) (fun _ h9 => h9) rfl dX7_oneHouse_9 ?_
    refine lv_iload_n hx hb dX7_oneHouse_12 rfl (lv_at hl 0 rfl) ?_
    refine lv_lconst (v := 0) hx hb dX7_oneHouse_13 (by decide) ?_
    refine r_last (f' := fF fζ (fun _ => 0) (iζ + 1)) hx hb hK hP hD hS 2 rfl (vp_in_nI (n := iζ) (by omega) (by omega)) (fF_sJ (nI_clamp (n := iζ) (by omega)) rfl) dX7_oneHouse_14 (fun H locs hP hD hS => ?_)
    have hP : va_P g.1 vwCl [(hζ, .inr (7, oM Aζ Iζ)), aJ g (Aζ 27) 22 (prF tζ uζ aζ), aJ g (Aζ 28) 22 (fF fζ (fun _ => 0) (iζ + 1))] H := hP
    have hD : va_D Z [(hζ, .inr (7, oM Aζ Iζ)), aJ g (Aζ 27) 22 (prF tζ uζ aζ), aJ g (Aζ 28) 22 (fF fζ (fun _ => 0) (iζ + 1))] := hD
    refine lv_iinc (v := nI (iζ + 1)) (lv' := [(3, .int (nI (iζ + 1))), (0, .ref hζ), (1, .int (nI tζ)), (2, .int (nI uζ))]) hx hb dX7_oneHouse_15 hl (k := 0) rfl (nI_1 iζ) (by decide) rfl (fun ls hl => ?_)
    refine lv_goto (tgt := 2) hx hb dX7_oneHouse_18 (by decide) ?_
    exact ih2 (iζ + 1) (by first | omega | (dsimp only; omega)) (by first | omega | (dsimp only; omega)) _ _ _ (hP.sub [0, 1, 2] rfl) (hD.sub [0, 1, 2] (by decide) rfl) hS (lv_sub hl [0, 1, 2, 3] rfl)
set_option maxHeartbeats 4000000 in
set_option maxRecDepth 100000 in
theorem c_X7_lowest (l : Launch) (g : GT) (sz : Nat) (aζ bζ qζ : Nat) (hgaζ : aζ < 2 ^ 60) (hgbζ : bζ < 2 ^ 60) (hgpζ : 0 < bζ) (hq3ζ : qζ < 2) : Cl l yX7_lowest wsX7_lowest { frames := 0, cells := 0, slots := 0, locals := 0 } g sz [.long (lN aζ), .long (lN bζ), .int (nI qζ)] [] (lN ((if qζ = 0 then aζ else bζ) / Nat.gcd aζ bζ)) [] := by
  refine gMet_l (cc := cX7_lowest) (maxL := 11) (ret := (some .long)) (by decide) rfl (Nat.le_of_ble_eq_true rfl) ?_
  intro p e s m args below meth c Z hx hb hr F hlk hnm hK hN hA H locs hP hD hS ls hl
  have hl : lv_has ls 11 [(0, .long (lN aζ)), (2, .long (lN bζ)), (4, .int (nI qζ))] := hl
  have F : CallFix p m c cX7_lowest 11 s args wsX7_lowest RX7 := F
  have hts := F.2.2.2.2
  have hown : s.vm.findClass RX7 = some m.cls := F.2.2.2.1
  refine lv_lload_n hx hb dX7_lowest_0 rfl (lv_at hl 1 rfl) ?_
  refine lv_lstore (lv' := [(5, .long (lN bζ)), (0, .long (lN aζ)), (2, .long (lN bζ)), (4, .int (nI qζ))]) hx hb dX7_lowest_1 hl (by decide) rfl (fun ls hl => ?_)
  refine lv_lload_n hx hb dX7_lowest_3 rfl (lv_at hl 1 rfl) ?_
  refine lv_lstore (lv' := [(7, .long (lN aζ)), (5, .long (lN bζ)), (0, .long (lN aζ)), (2, .long (lN bζ)), (4, .int (nI qζ))]) hx hb dX7_lowest_4 hl (by decide) rfl (fun ls hl => ?_)
  refine gloop (σ := Nat × Nat) (fun u0 => u0.2) (fun u0 => u0.1 < 2 ^ 60 ∧ u0.2 < 2 ^ 60 ∧ Nat.gcd u0.1 u0.2 = Nat.gcd bζ aζ) (fun u0 => []) (fun u0 => [(7, .long (lN u0.2)), (5, .long (lN u0.1)), (0, .long (lN aζ)), (2, .long (lN bζ)), (4, .int (nI qζ))]) ?_ (bζ, aζ) ⟨hgbζ, hgaζ, rfl⟩ (hP.sub [] rfl) (hD.sub [] (by decide) rfl) hS (lv_sub hl [0, 1, 2, 3, 4] rfl)
  rintro ⟨xζ, yζ⟩ ⟨hxxζ, hyyζ, hgζ⟩ ih6 H locs ls hP hD hS hl
  have hxxζ : xζ < 2 ^ 60 := hxxζ
  have hyyζ : yζ < 2 ^ 60 := hyyζ
  have hgζ : Nat.gcd xζ yζ = Nat.gcd bζ aζ := hgζ
  have hP : va_P g.1 vwCl [] H := hP
  have hD : va_D Z [] := hD
  have hl : lv_has ls 11 [(7, .long (lN yζ)), (5, .long (lN xζ)), (0, .long (lN aζ)), (2, .long (lN bζ)), (4, .int (nI qζ))] := hl
  refine lv_lload hx hb dX7_lowest_6 (lv_at hl 0 rfl) ?_
  refine lv_lconst (v := 0) hx hb dX7_lowest_8 (by decide) ?_
  refine W.lcmp hx hb dX7_lowest_9 ?_
  refine lv_if_eq (tgt := 31) hx hb dX7_lowest_10 (by decide) (fun c_1 => ?_) (fun c_1 => ?_)
  · obtain rfl : yζ = 0 := lg_0 hyyζ c_1
    skip
    have hx1ζ : xζ = Nat.gcd aζ bζ := by rw [Nat.gcd_comm aζ bζ, ← hgζ, Nat.gcd_zero_right]
    have hx0ζ : 0 < xζ := by rw [hx1ζ]; exact Nat.gcd_pos_of_pos_right _ hgpζ
    refine lv_iload hx hb dX7_lowest_31 (lv_at hl 4 rfl) ?_
    refine lv_if_ne (tgt := 43) hx hb dX7_lowest_33 (by decide) (fun c_2 => ?_) (fun c_2 => ?_)
    · have c_2 : ¬ qζ = 0 := fun z => c_2 ((nI_eq (a := qζ) (b := 0) (by omega) (by omega)).mpr z)
      refine lv_lload_n hx hb dX7_lowest_43 rfl (lv_at hl 3 rfl) ?_
      refine lv_lload hx hb dX7_lowest_44 (lv_at hl 1 rfl) ?_
      refine lv_ldiv hx hb dX7_lowest_46 (lN_ne0 hxxζ (by omega)) ?_
      refine gtopl (y := lN (bζ / xζ)) (pk_lDiv (a := bζ) (b := xζ) (by omega) hx0ζ (by omega)) ?_
      exact r_lret hx hb hr hlk hS () (by rw [if_neg c_2, ← hx1ζ]) (hP.sub [] rfl) (hD.sub [] (by decide) rfl) dX7_lowest_47
    · have c_2 : qζ = 0 := (nI_eq (a := qζ) (b := 0) (by omega) (by omega)).mp c_2
      refine lv_lload_n hx hb dX7_lowest_36 rfl (lv_at hl 2 rfl) ?_
      refine lv_lload hx hb dX7_lowest_37 (lv_at hl 1 rfl) ?_
      refine lv_ldiv hx hb dX7_lowest_39 (lN_ne0 hxxζ (by omega)) ?_
      refine gtopl (y := lN (aζ / xζ)) (pk_lDiv (a := aζ) (b := xζ) (by omega) hx0ζ (by omega)) ?_
      refine lv_goto (tgt := 47) hx hb dX7_lowest_40 (by decide) ?_
      exact r_lret hx hb hr hlk hS () (by rw [if_pos c_2, ← hx1ζ]) (hP.sub [] rfl) (hD.sub [] (by decide) rfl) dX7_lowest_47
  · have hy0ζ : yζ ≠ 0 := lg_n c_1
    refine lv_lload hx hb dX7_lowest_13 (lv_at hl 1 rfl) ?_
    refine lv_lload hx hb dX7_lowest_15 (lv_at hl 0 rfl) ?_
    refine lv_lrem hx hb dX7_lowest_17 (lN_ne0 hyyζ hy0ζ) ?_
    refine gtopl (y := lN (xζ % yζ)) (pk_lRem (a := xζ) (b := yζ) (by omega) (by omega) (by omega)) ?_
    refine lv_lstore (lv' := [(9, .long (lN (xζ % yζ))), (7, .long (lN yζ)), (5, .long (lN xζ)), (0, .long (lN aζ)), (2, .long (lN bζ)), (4, .int (nI qζ))]) hx hb dX7_lowest_18 hl (by decide) rfl (fun ls hl => ?_)
    refine lv_lload hx hb dX7_lowest_20 (lv_at hl 1 rfl) ?_
    refine lv_lstore (lv' := [(5, .long (lN yζ)), (9, .long (lN (xζ % yζ))), (7, .long (lN yζ)), (0, .long (lN aζ)), (2, .long (lN bζ)), (4, .int (nI qζ))]) hx hb dX7_lowest_22 hl (by decide) rfl (fun ls hl => ?_)
    refine lv_lload hx hb dX7_lowest_24 (lv_at hl 1 rfl) ?_
    refine lv_lstore (lv' := [(7, .long (lN (xζ % yζ))), (5, .long (lN yζ)), (9, .long (lN (xζ % yζ))), (0, .long (lN aζ)), (2, .long (lN bζ)), (4, .int (nI qζ))]) hx hb dX7_lowest_26 hl (by decide) rfl (fun ls hl => ?_)
    refine lv_goto (tgt := 6) hx hb dX7_lowest_28 (by decide) ?_
    exact ih6 (yζ, xζ % yζ) ⟨hyyζ, (Nat.lt_trans (Nat.mod_lt _ (by omega)) hyyζ), (gcd_s hgζ)⟩ (Nat.mod_lt _ (by omega)) _ _ _ (hP.sub [] rfl) (hD.sub [] (by decide) rfl) hS (lv_sub hl [0, 1, 3, 4, 5] rfl)
set_option maxHeartbeats 4000000 in
set_option maxRecDepth 100000 in
theorem c_X7_isRow (l : Launch) (nζ tζ uζ kζ : Int32) : Cp l yX7_isRow wsX7_isRow { frames := 1, cells := 0, slots := 0, locals := 25 } [.int nζ, .int tζ, .int uζ, .int kζ] (bI (isRowB nζ tζ uζ kζ)) := by
  refine gMet_p (cc := cX7_isRow) (maxL := 4) (ret := (some .boolean)) (by decide) rfl (Nat.le_of_ble_eq_true rfl) ?_
  intro p e s m args below meth c hx hb hr F hlk ls hl
  have hl : lv_has ls 4 [(0, .int nζ), (1, .int tζ), (2, .int uζ), (3, .int kζ)] := hl
  have F : CallFix p m c cX7_isRow 4 s args wsX7_isRow RX7 := F
  have hts := F.2.2.2.2
  have hown : s.vm.findClass RX7 = some m.cls := F.2.2.2.1
  refine lv_iload_n hx hb dX7_isRow_0 rfl (lv_at hl 0 rfl) ?_
  refine lv_i2l (v := nζ.toInt64) hx hb dX7_isRow_1 rfl ?_
  refine lv_lconst (v := 0) hx hb dX7_isRow_2 (by decide) ?_
  refine lv_ldc2 (v := 10) hx hb hown (hts (.constantLong RX7 82 (10)) (by decide +kernel)) dX7_isRow_3 ?_
  refine gcP (As := [.long nζ.toInt64, .long 0, .long 10]) (rest := []) F (c_X7_in l nζ.toInt64 0 10) gX7_isRow_X7_in kX7_in rfl rfl rfl ⟨(Nat.le_of_ble_eq_true rfl), (Nat.le_of_ble_eq_true rfl)⟩ rfl rfl hl.1 (Nat.le_of_ble_eq_true rfl) dX7_isRow_6 ⟨(Nat.le_of_ble_eq_true rfl), (Nat.le_of_ble_eq_true rfl)⟩ ?_
  refine gtop (y := bI (inB nζ 0 10)) (congrArg bI (inL_i (lo := 0) (hi := 10) (by decide) (by decide))) ?_
  refine lv_if_eq (tgt := 51) hx hb dX7_isRow_9 (by decide) (fun c_1 => ?_) (fun c_1 => ?_)
  · have c_1 : inB nζ 0 10 = false := bI_0 c_1
    refine lv_iconst (v := 0) hx hb dX7_isRow_51 (by decide) ?_
    exact r_pzret hx hb hr hlk (by decide) (by unfold isRowB; rw [c_1]; rfl) dX7_isRow_52
  · have c_1 : inB nζ 0 10 = true := bI_1 c_1
    refine lv_iload_n hx hb dX7_isRow_12 rfl (lv_at hl 1 rfl) ?_
    refine lv_i2l (v := tζ.toInt64) hx hb dX7_isRow_13 rfl ?_
    refine lv_lconst (v := 0) hx hb dX7_isRow_14 (by decide) ?_
    refine lv_ldc2 (v := 10) hx hb hown (hts (.constantLong RX7 82 (10)) (by decide +kernel)) dX7_isRow_15 ?_
    refine gcP (As := [.long tζ.toInt64, .long 0, .long 10]) (rest := []) F (c_X7_in l tζ.toInt64 0 10) gX7_isRow_X7_in kX7_in rfl rfl rfl ⟨(Nat.le_of_ble_eq_true rfl), (Nat.le_of_ble_eq_true rfl)⟩ rfl rfl hl.1 (Nat.le_of_ble_eq_true rfl) dX7_isRow_18 ⟨(Nat.le_of_ble_eq_true rfl), (Nat.le_of_ble_eq_true rfl)⟩ ?_
    refine gtop (y := bI (inB tζ 0 10)) (congrArg bI (inL_i (lo := 0) (hi := 10) (by decide) (by decide))) ?_
    refine lv_if_eq (tgt := 51) hx hb dX7_isRow_21 (by decide) (fun c_2 => ?_) (fun c_2 => ?_)
    · have c_2 : inB tζ 0 10 = false := bI_0 c_2
      refine lv_iconst (v := 0) hx hb dX7_isRow_51 (by decide) ?_
      exact r_pzret hx hb hr hlk (by decide) (by unfold isRowB; rw [c_1, c_2]; rfl) dX7_isRow_52
    · have c_2 : inB tζ 0 10 = true := bI_1 c_2
      refine lv_iload_n hx hb dX7_isRow_24 rfl (lv_at hl 2 rfl) ?_
      refine lv_i2l (v := uζ.toInt64) hx hb dX7_isRow_25 rfl ?_
      refine lv_lconst (v := 0) hx hb dX7_isRow_26 (by decide) ?_
      refine lv_ldc2 (v := 10) hx hb hown (hts (.constantLong RX7 82 (10)) (by decide +kernel)) dX7_isRow_27 ?_
      refine gcP (As := [.long uζ.toInt64, .long 0, .long 10]) (rest := []) F (c_X7_in l uζ.toInt64 0 10) gX7_isRow_X7_in kX7_in rfl rfl rfl ⟨(Nat.le_of_ble_eq_true rfl), (Nat.le_of_ble_eq_true rfl)⟩ rfl rfl hl.1 (Nat.le_of_ble_eq_true rfl) dX7_isRow_30 ⟨(Nat.le_of_ble_eq_true rfl), (Nat.le_of_ble_eq_true rfl)⟩ ?_
      refine gtop (y := bI (inB uζ 0 10)) (congrArg bI (inL_i (lo := 0) (hi := 10) (by decide) (by decide))) ?_
      refine lv_if_eq (tgt := 51) hx hb dX7_isRow_33 (by decide) (fun c_3 => ?_) (fun c_3 => ?_)
      · have c_3 : inB uζ 0 10 = false := bI_0 c_3
        refine lv_iconst (v := 0) hx hb dX7_isRow_51 (by decide) ?_
        exact r_pzret hx hb hr hlk (by decide) (by unfold isRowB; rw [c_1, c_2, c_3]; rfl) dX7_isRow_52
      · have c_3 : inB uζ 0 10 = true := bI_1 c_3
        refine lv_iload_n hx hb dX7_isRow_36 rfl (lv_at hl 3 rfl) ?_
        refine lv_i2l (v := kζ.toInt64) hx hb dX7_isRow_37 rfl ?_
        refine lv_lconst (v := 0) hx hb dX7_isRow_38 (by decide) ?_
        refine lv_iload_n hx hb dX7_isRow_39 rfl (lv_at hl 0 rfl) ?_
        refine lv_i2l (v := nζ.toInt64) hx hb dX7_isRow_40 rfl ?_
        refine gcP (As := [.long kζ.toInt64, .long 0, .long nζ.toInt64]) (rest := []) F (c_X7_in l kζ.toInt64 0 nζ.toInt64) gX7_isRow_X7_in kX7_in rfl rfl rfl ⟨(Nat.le_of_ble_eq_true rfl), (Nat.le_of_ble_eq_true rfl)⟩ rfl rfl hl.1 (Nat.le_of_ble_eq_true rfl) dX7_isRow_41 ⟨(Nat.le_of_ble_eq_true rfl), (Nat.le_of_ble_eq_true rfl)⟩ ?_
        refine gtop (y := bI (inB kζ 0 nζ)) (congrArg bI (inL_i (lo := 0) (hi := nζ) (by decide) rfl)) ?_
        refine lv_if_eq (tgt := 51) hx hb dX7_isRow_44 (by decide) (fun c_4 => ?_) (fun c_4 => ?_)
        · have c_4 : inB kζ 0 nζ = false := bI_0 c_4
          refine lv_iconst (v := 0) hx hb dX7_isRow_51 (by decide) ?_
          exact r_pzret hx hb hr hlk (by decide) (by unfold isRowB; rw [c_1, c_2, c_3, c_4]; rfl) dX7_isRow_52
        · have c_4 : inB kζ 0 nζ = true := bI_1 c_4
          refine lv_iconst (v := 1) hx hb dX7_isRow_47 (by decide) ?_
          refine lv_goto (tgt := 52) hx hb dX7_isRow_48 (by decide) ?_
          exact r_pzret hx hb hr hlk (by decide) (by unfold isRowB; rw [c_1, c_2, c_3, c_4]; rfl) dX7_isRow_52
set_option maxHeartbeats 4000000 in
set_option maxRecDepth 100000 in
theorem c_X7_row (l : Launch) (g : GT) (sz : Nat) (hζ : Nat) (Aζ : Nat → Nat) (x1ζ x2ζ x3ζ x4ζ x5ζ x6ζ : Int32) : Cl l yX7_row wsX7_row { frames := 2, cells := 0, slots := 0, locals := 48 } g sz [.ref hζ, .int x1ζ, .int x2ζ, .int x3ζ, .int x4ζ, .int x5ζ, .int x6ζ] [(hζ, .inr (7, oM Aζ iM0)), aJ g (Aζ 27) 22 (fun _ => 0), aJ g (Aζ 28) 22 (fun _ => 0)] (rowG x1ζ x2ζ x3ζ x4ζ x5ζ x6ζ) [] := by
  refine gMet_l (cc := cX7_row) (maxL := 15) (ret := (some .long)) (by decide) rfl (Nat.le_of_ble_eq_true rfl) ?_
  intro p e s m args below meth c Z hx hb hr F hlk hnm hK hN hA H locs hP hD hS ls hl
  have hl : lv_has ls 15 [(0, .ref hζ), (1, .int x1ζ), (2, .int x2ζ), (3, .int x3ζ), (4, .int x4ζ), (5, .int x5ζ), (6, .int x6ζ)] := hl
  have F : CallFix p m c cX7_row 15 s args wsX7_row RX7 := F
  have hts := F.2.2.2.2
  have hown : s.vm.findClass RX7 = some m.cls := F.2.2.2.1
  have hi7 : ∀ wζ ∈ u_ws RX7 TX7 34, wζ ∈ wsX7_row := by decide +kernel
  refine lv_iload_n hx hb dX7_row_0 rfl (lv_at hl 1 rfl) ?_
  refine lv_iload_n hx hb dX7_row_1 rfl (lv_at hl 2 rfl) ?_
  refine lv_iload_n hx hb dX7_row_2 rfl (lv_at hl 3 rfl) ?_
  refine lv_iload hx hb dX7_row_3 (lv_at hl 4 rfl) ?_
  refine gcP (As := [.int x1ζ, .int x2ζ, .int x3ζ, .int x4ζ]) (rest := []) F (c_X7_isRow l x1ζ x2ζ x3ζ x4ζ) gX7_row_X7_isRow kX7_isRow rfl rfl rfl ⟨(Nat.le_of_ble_eq_true rfl), (Nat.le_of_ble_eq_true rfl)⟩ rfl rfl hl.1 (Nat.le_of_ble_eq_true rfl) dX7_row_5 ⟨(Nat.le_of_ble_eq_true rfl), (Nat.le_of_ble_eq_true rfl)⟩ ?_
  refine lv_if_eq (tgt := 35) hx hb dX7_row_8 (by decide) (fun c_1 => ?_) (fun c_1 => ?_)
  · have c_1 : isRowB x1ζ x2ζ x3ζ x4ζ = false := bI_0 c_1
    refine lv_ldc2 (v := (-1000000000000000002)) hx hb hown (hts (.constantLong RX7 259 (-1000000000000000002)) (by decide +kernel)) dX7_row_35 ?_
    exact r_lret hx hb hr hlk hS () (isRow_f c_1) (hP.sub [] rfl) (hD.sub [] (by decide) rfl) dX7_row_38
  · have c_1 : isRowB x1ζ x2ζ x3ζ x4ζ = true := bI_1 c_1
    refine lv_iload hx hb dX7_row_11 (lv_at hl 5 rfl) ?_
    refine lv_i2l (v := x5ζ.toInt64) hx hb dX7_row_13 rfl ?_
    refine lv_lconst (v := 0) hx hb dX7_row_14 (by decide) ?_
    refine lv_ldc2 (v := 2) hx hb hown (hts (.constantLong RX7 191 (2)) (by decide +kernel)) dX7_row_15 ?_
    refine gcP (As := [.long x5ζ.toInt64, .long 0, .long 2]) (rest := []) F (c_X7_in l x5ζ.toInt64 0 2) gX7_row_X7_in kX7_in rfl rfl rfl ⟨(Nat.le_of_ble_eq_true rfl), (Nat.le_of_ble_eq_true rfl)⟩ rfl rfl hl.1 (Nat.le_of_ble_eq_true rfl) dX7_row_18 ⟨(Nat.le_of_ble_eq_true rfl), (Nat.le_of_ble_eq_true rfl)⟩ ?_
    refine gtop (y := bI (inB x5ζ 0 2)) (congrArg bI (inL_i (lo := 0) (hi := 2) (by decide) (by decide))) ?_
    refine lv_if_eq (tgt := 35) hx hb dX7_row_21 (by decide) (fun c_2 => ?_) (fun c_2 => ?_)
    · have c_2 : inB x5ζ 0 2 = false := bI_0 c_2
      refine lv_ldc2 (v := (-1000000000000000002)) hx hb hown (hts (.constantLong RX7 259 (-1000000000000000002)) (by decide +kernel)) dX7_row_35 ?_
      exact r_lret hx hb hr hlk hS () (by unfold rowG; rw [if_pos (isRow_t c_1).1, if_pos (isRow_t c_1).2.1, if_pos (isRow_t c_1).2.2.1, if_pos (isRow_t c_1).2.2.2, if_neg (bF c_2)]) (hP.sub [] rfl) (hD.sub [] (by decide) rfl) dX7_row_38
    · have c_2 : inB x5ζ 0 2 = true := bI_1 c_2
      refine lv_iload hx hb dX7_row_24 (lv_at hl 6 rfl) ?_
      refine lv_i2l (v := x6ζ.toInt64) hx hb dX7_row_26 rfl ?_
      refine lv_lconst (v := 0) hx hb dX7_row_27 (by decide) ?_
      refine lv_lconst (v := 1) hx hb dX7_row_28 (by decide) ?_
      refine gcP (As := [.long x6ζ.toInt64, .long 0, .long 1]) (rest := []) F (c_X7_in l x6ζ.toInt64 0 1) gX7_row_X7_in kX7_in rfl rfl rfl ⟨(Nat.le_of_ble_eq_true rfl), (Nat.le_of_ble_eq_true rfl)⟩ rfl rfl hl.1 (Nat.le_of_ble_eq_true rfl) dX7_row_29 ⟨(Nat.le_of_ble_eq_true rfl), (Nat.le_of_ble_eq_true rfl)⟩ ?_
      refine gtop (y := bI (inB x6ζ 0 1)) (congrArg bI (inL_i (lo := 0) (hi := 1) (by decide) (by decide))) ?_
      refine lv_if_ne (tgt := 39) hx hb dX7_row_32 (by decide) (fun c_3 => ?_) (fun c_3 => ?_)
      · have c_3 : inB x6ζ 0 1 = true := bI_1 c_3
        have hirζ := isRow_t c_1
        obtain ⟨nζ, r_nζ, enζ⟩ := inB_nat (N := 11) (by decide) hirζ.1
        have hl : lv_has ls 15 [(0, .ref hζ), (1, .int (nI nζ)), (2, .int x2ζ), (3, .int x3ζ), (4, .int x4ζ), (5, .int x5ζ), (6, .int x6ζ)] := by first | exact hl | (rw [← (enζ : x1ζ = nI nζ)]; exact hl)
        obtain ⟨tζ, r_tζ, etζ⟩ := inB_nat (N := 11) (by decide) hirζ.2.1
        have hl : lv_has ls 15 [(0, .ref hζ), (1, .int (nI nζ)), (2, .int (nI tζ)), (3, .int x3ζ), (4, .int x4ζ), (5, .int x5ζ), (6, .int x6ζ)] := by first | exact hl | (rw [← (etζ : x2ζ = nI tζ)]; exact hl)
        obtain ⟨uζ, r_uζ, euζ⟩ := inB_nat (N := 11) (by decide) hirζ.2.2.1
        have hl : lv_has ls 15 [(0, .ref hζ), (1, .int (nI nζ)), (2, .int (nI tζ)), (3, .int (nI uζ)), (4, .int x4ζ), (5, .int x5ζ), (6, .int x6ζ)] := by first | exact hl | (rw [← (euζ : x3ζ = nI uζ)]; exact hl)
        obtain ⟨kζ, r_kζ, ekζ⟩ := inBn_nat (by omega) enζ hirζ.2.2.2
        have hl : lv_has ls 15 [(0, .ref hζ), (1, .int (nI nζ)), (2, .int (nI tζ)), (3, .int (nI uζ)), (4, .int (nI kζ)), (5, .int x5ζ), (6, .int x6ζ)] := by first | exact hl | (rw [← (ekζ : x4ζ = nI kζ)]; exact hl)
        obtain ⟨wζ, r_wζ, ewζ⟩ := inB_nat (N := 3) (by decide) c_2
        have hl : lv_has ls 15 [(0, .ref hζ), (1, .int (nI nζ)), (2, .int (nI tζ)), (3, .int (nI uζ)), (4, .int (nI kζ)), (5, .int (nI wζ)), (6, .int x6ζ)] := by first | exact hl | (rw [← (ewζ : x5ζ = nI wζ)]; exact hl)
        obtain ⟨qζ, r_qζ, eqζ⟩ := inB_nat (N := 2) (by decide) c_3
        have hl : lv_has ls 15 [(0, .ref hζ), (1, .int (nI nζ)), (2, .int (nI tζ)), (3, .int (nI uζ)), (4, .int (nI kζ)), (5, .int (nI wζ)), (6, .int (nI qζ))] := by first | exact hl | (rw [← (eqζ : x6ζ = nI qζ)]; exact hl)
        refine lv_iconst (v := 0) hx hb dX7_row_39 (by decide) ?_
        refine lv_istore (lv' := [(7, .int 0), (0, .ref hζ), (1, .int (nI nζ)), (2, .int (nI tζ)), (3, .int (nI uζ)), (4, .int (nI kζ)), (5, .int (nI wζ)), (6, .int (nI qζ))]) hx hb dX7_row_40 hl (by decide) rfl (fun ls hl => ?_)
        refine gloop (σ := Nat) (fun u0 => 22 - u0) (fun u0 => u0 ≤ 22) (fun u0 => [(hζ, .inr (7, oM Aζ iM0)), aJ g (Aζ 27) 22 (fun _ => 0), aJ g (Aζ 28) 22 (fun _ => 0)]) (fun u0 => [(7, .int (nI u0)), (0, .ref hζ), (1, .int (nI nζ)), (2, .int (nI tζ)), (3, .int (nI uζ)), (4, .int (nI kζ)), (5, .int (nI wζ)), (6, .int (nI qζ))]) ?_ 0 (by first | omega | decide | rfl) (hP.sub [0, 1, 2] rfl) (hD.sub [0, 1, 2] (by decide) rfl) hS (lv_sub hl [0, 1, 2, 3, 4, 5, 6, 7] rfl)
        rintro iζ hiζ ih42 H locs ls hP hD hS hl
        have hiζ : iζ ≤ 22 := hiζ
        have hP : va_P g.1 vwCl [(hζ, .inr (7, oM Aζ iM0)), aJ g (Aζ 27) 22 (fun _ => 0), aJ g (Aζ 28) 22 (fun _ => 0)] H := hP
        have hD : va_D Z [(hζ, .inr (7, oM Aζ iM0)), aJ g (Aζ 27) 22 (fun _ => 0), aJ g (Aζ 28) 22 (fun _ => 0)] := hD
        have hl : lv_has ls 15 [(7, .int (nI iζ)), (0, .ref hζ), (1, .int (nI nζ)), (2, .int (nI tζ)), (3, .int (nI uζ)), (4, .int (nI kζ)), (5, .int (nI wζ)), (6, .int (nI qζ))] := hl
        refine lv_iload hx hb dX7_row_42 (lv_at hl 0 rfl) ?_
        refine lv_bipush (v := 22) hx hb dX7_row_44 (by decide) ?_
        refine lv_icmp_ge (tgt := 63) hx hb dX7_row_46 (by decide) (fun c_4 => ?_) (fun c_4 => ?_)
        · have c_4 : 22 ≤ iζ := (nI_leI (a := 22) (b := iζ) (by omega) (by omega)).mp c_4
          refine lv_aload_n hx hb dX7_row_63 rfl (lv_at hl 1 rfl) ?_
          refine va_get (D := g.1) (ci := 7) (v := .ref (Aζ 27)) (C := RX7) (T := TX7) (N := 34) hx hb hts hi7 hown hK hP 0 rfl rfl 27 (by decide) (hts (.fieldLink RX7 55 "PanTalesModel" "parts" "[J") (by decide +kernel)) (fun _ h9 => h9) rfl dX7_row_64 ?_
          refine lv_iconst (v := 1) hx hb dX7_row_67 (by decide) ?_
          refine lv_lconst (v := 1) hx hb dX7_row_68 (by decide) ?_
          refine r_last (f' := prF tζ uζ 0) hx hb hK hP hD hS 1 rfl (vp_in_nI (n := 1) (by decide) (by decide)) pr_0 dX7_row_69 (fun H locs hP hD hS => ?_)
          have hP : va_P g.1 vwCl [(hζ, .inr (7, oM Aζ iM0)), aJ g (Aζ 27) 22 (prF tζ uζ 0), aJ g (Aζ 28) 22 (fun _ => 0)] H := hP
          have hD : va_D Z [(hζ, .inr (7, oM Aζ iM0)), aJ g (Aζ 27) 22 (prF tζ uζ 0), aJ g (Aζ 28) 22 (fun _ => 0)] := hD
          refine lv_lconst (v := 1) hx hb dX7_row_70 (by decide) ?_
          refine lv_lstore (lv' := [(7, .long 1), (0, .ref hζ), (1, .int (nI nζ)), (2, .int (nI tζ)), (3, .int (nI uζ)), (4, .int (nI kζ)), (5, .int (nI wζ)), (6, .int (nI qζ))]) hx hb dX7_row_71 hl (by decide) rfl (fun ls hl => ?_)
          refine lv_iconst (v := 0) hx hb dX7_row_73 (by decide) ?_
          refine lv_istore (lv' := [(9, .int 0), (7, .long 1), (0, .ref hζ), (1, .int (nI nζ)), (2, .int (nI tζ)), (3, .int (nI uζ)), (4, .int (nI kζ)), (5, .int (nI wζ)), (6, .int (nI qζ))]) hx hb dX7_row_74 hl (by decide) rfl (fun ls hl => ?_)
          refine gloop (σ := Nat × (Nat → Int64)) (fun u0 => nζ - u0.1) (fun u0 => u0.1 ≤ nζ) (fun u0 => [(hζ, .inr (7, oM Aζ iM0)), aJ g (Aζ 27) 22 (prF tζ uζ u0.1), aJ g (Aζ 28) 22 u0.2]) (fun u0 => [(9, .int (nI u0.1)), (7, .long (lN (10 ^ u0.1))), (0, .ref hζ), (1, .int (nI nζ)), (2, .int (nI tζ)), (3, .int (nI uζ)), (4, .int (nI kζ)), (5, .int (nI wζ)), (6, .int (nI qζ))]) ?_ (0, (fun _ => 0)) (by first | omega | decide | rfl) (hP.sub [0, 1, 2] rfl) (hD.sub [0, 1, 2] (by decide) rfl) hS (lv_sub hl [0, 1, 2, 3, 4, 5, 6, 7, 8] rfl)
          rintro ⟨iζ, f7ζ⟩ hiζ ih76 H locs ls hP hD hS hl
          have hiζ : iζ ≤ nζ := hiζ
          have hP : va_P g.1 vwCl [(hζ, .inr (7, oM Aζ iM0)), aJ g (Aζ 27) 22 (prF tζ uζ iζ), aJ g (Aζ 28) 22 f7ζ] H := hP
          have hD : va_D Z [(hζ, .inr (7, oM Aζ iM0)), aJ g (Aζ 27) 22 (prF tζ uζ iζ), aJ g (Aζ 28) 22 f7ζ] := hD
          have hl : lv_has ls 15 [(9, .int (nI iζ)), (7, .long (lN (10 ^ iζ))), (0, .ref hζ), (1, .int (nI nζ)), (2, .int (nI tζ)), (3, .int (nI uζ)), (4, .int (nI kζ)), (5, .int (nI wζ)), (6, .int (nI qζ))] := hl
          refine lv_iload hx hb dX7_row_76 (lv_at hl 0 rfl) ?_
          refine lv_iload_n hx hb dX7_row_78 rfl (lv_at hl 3 rfl) ?_
          refine lv_icmp_ge (tgt := 102) hx hb dX7_row_79 (by decide) (fun c_5 => ?_) (fun c_5 => ?_)
          · have c_5 : nζ ≤ iζ := (nI_leI (a := nζ) (b := iζ) (by omega) (by omega)).mp c_5
            obtain rfl : nζ = iζ := by omega
            refine lv_lconst (v := 0) hx hb dX7_row_102 (by decide) ?_
            refine lv_lstore (lv' := [(9, .long 0), (7, .long (lN (10 ^ nζ))), (0, .ref hζ), (1, .int (nI nζ)), (2, .int (nI tζ)), (3, .int (nI uζ)), (4, .int (nI kζ)), (5, .int (nI wζ)), (6, .int (nI qζ))]) hx hb dX7_row_103 hl (by decide) rfl (fun ls hl => ?_)
            refine lv_iconst (v := 0) hx hb dX7_row_105 (by decide) ?_
            refine lv_istore (lv' := [(11, .int 0), (9, .long 0), (7, .long (lN (10 ^ nζ))), (0, .ref hζ), (1, .int (nI nζ)), (2, .int (nI tζ)), (3, .int (nI uζ)), (4, .int (nI kζ)), (5, .int (nI wζ)), (6, .int (nI qζ))]) hx hb dX7_row_106 hl (by decide) rfl (fun ls hl => ?_)
            refine gloop (σ := Nat) (fun u0 => nζ + 1 - u0) (fun u0 => u0 ≤ nζ + 1) (fun u0 => [(hζ, .inr (7, oM Aζ iM0)), aJ g (Aζ 27) 22 (prF tζ uζ nζ), aJ g (Aζ 28) 22 f7ζ]) (fun u0 => [(11, .int (nI u0)), (9, .long (lN (ruS tζ uζ nζ kζ wζ u0))), (7, .long (lN (10 ^ nζ))), (0, .ref hζ), (1, .int (nI nζ)), (2, .int (nI tζ)), (3, .int (nI uζ)), (4, .int (nI kζ)), (5, .int (nI wζ)), (6, .int (nI qζ))]) ?_ 0 (by first | omega | decide | rfl) (hP.sub [0, 1, 2] rfl) (hD.sub [0, 1, 2] (by decide) rfl) hS (lv_sub hl [0, 1, 2, 3, 4, 5, 6, 7, 8, 9] rfl)
            rintro iζ hiζ ih108 H locs ls hP hD hS hl
            have hiζ : iζ ≤ nζ + 1 := hiζ
            have hP : va_P g.1 vwCl [(hζ, .inr (7, oM Aζ iM0)), aJ g (Aζ 27) 22 (prF tζ uζ nζ), aJ g (Aζ 28) 22 f7ζ] H := hP
            have hD : va_D Z [(hζ, .inr (7, oM Aζ iM0)), aJ g (Aζ 27) 22 (prF tζ uζ nζ), aJ g (Aζ 28) 22 f7ζ] := hD
            have hl : lv_has ls 15 [(11, .int (nI iζ)), (9, .long (lN (ruS tζ uζ nζ kζ wζ iζ))), (7, .long (lN (10 ^ nζ))), (0, .ref hζ), (1, .int (nI nζ)), (2, .int (nI tζ)), (3, .int (nI uζ)), (4, .int (nI kζ)), (5, .int (nI wζ)), (6, .int (nI qζ))] := hl
            refine lv_iload hx hb dX7_row_108 (lv_at hl 0 rfl) ?_
            refine lv_iload_n hx hb dX7_row_110 rfl (lv_at hl 4 rfl) ?_
            refine lv_icmp_gt (tgt := 208) hx hb dX7_row_111 (by decide) (fun c_6 => ?_) (fun c_6 => ?_)
            · have c_6 : nζ < iζ := (nI_ltI (a := nζ) (b := iζ) (by omega) (by omega)).mp c_6
              obtain rfl : iζ = nζ + 1 := by omega
              skip
              refine lv_lload hx hb dX7_row_208 (lv_at hl 1 rfl) ?_
              refine lv_lload hx hb dX7_row_210 (lv_at hl 2 rfl) ?_
              refine lv_iload hx hb dX7_row_212 (lv_at hl 9 rfl) ?_
              refine gcS_l (As := [.long (lN (ruS tζ uζ nζ kζ wζ (nζ + 1))), .long (lN (10 ^ nζ)), .int (nI qζ)]) (rest := []) F hK hN hP hD hS hA (c_X7_lowest l g H.size (ruS tζ uζ nζ kζ wζ (nζ + 1)) (10 ^ nζ) qζ (Nat.lt_of_le_of_lt (ru_le (by omega) (by omega) (by omega) _ (by omega)) (Nat.lt_of_le_of_lt (Nat.mul_le_mul (show nζ + 1 ≤ 11 by omega) (Nat.le_refl _)) (by decide))) (p10_lt (by omega)) (Nat.pow_pos (by decide)) (by omega)) gX7_row_X7_lowest kX7_lowest rfl rfl rfl ⟨(Nat.le_of_ble_eq_true rfl), (Nat.le_of_ble_eq_true rfl)⟩ [] [0, 1, 2] rfl rfl rfl (by decide) rfl rfl rfl hl.1 (Nat.le_of_ble_eq_true rfl) dX7_row_214 ⟨(Nat.le_of_ble_eq_true rfl), (Nat.le_of_ble_eq_true rfl)⟩ (fun r_wζ u_w H locs hw hP hD hS => ?_)
              have hP : va_P g.1 vwCl [(hζ, .inr (7, oM Aζ iM0)), aJ g (Aζ 27) 22 (prF tζ uζ nζ), aJ g (Aζ 28) 22 f7ζ] H := hP
              have hD : va_D Z [(hζ, .inr (7, oM Aζ iM0)), aJ g (Aζ 27) 22 (prF tζ uζ nζ), aJ g (Aζ 28) 22 f7ζ] := hD
              obtain rfl := hw
              exact r_lret hx hb hr hlk hS () (by unfold rowG; rw [if_pos (isRow_t c_1).1, if_pos (isRow_t c_1).2.1, if_pos (isRow_t c_1).2.2.1, if_pos (isRow_t c_1).2.2.2, if_pos c_2, if_pos c_3, enζ, etζ, euζ, ekζ, ewζ, eqζ, nI_clamp (n := nζ) (by omega), nI_clamp (n := tζ) (by omega), nI_clamp (n := uζ) (by omega), nI_clamp (n := kζ) (by omega), nI_clamp (n := wζ) (by omega), nI_clamp (n := qζ) (by omega)]; unfold rowF; rw [ru_top (by omega) 11 (by omega)]) (hP.sub [] rfl) (hD.sub [] (by decide) rfl) dX7_row_217
            · have c_6 : ¬ nζ < iζ := fun z => c_6 ((nI_ltI (a := nζ) (b := iζ) (by omega) (by omega)).mpr z)
              refine lv_aload_n hx hb dX7_row_114 rfl (lv_at hl 3 rfl) ?_
              refine va_get (D := g.1) (ci := 7) (v := .ref (Aζ 27)) (C := RX7) (T := TX7) (N := 34) hx hb hts hi7 hown hK hP 0 rfl rfl 27 (by decide) (hts (.fieldLink RX7 55 "PanTalesModel" "parts" "[J") (by decide +kernel)) (fun _ h9 => h9) rfl dX7_row_115 ?_
              refine lv_iconst (v := 2) hx hb dX7_row_118 (by decide) ?_
              refine lv_iload hx hb dX7_row_119 (lv_at hl 0 rfl) ?_
              refine lv_imul hx hb dX7_row_121 ?_
              refine gtop (y := nI (2 * iζ)) (pk_mul 2 iζ) ?_
              refine r_lald (v := lN ((wDN tζ uζ nζ).2 iζ)) hx hb hK hP 1 rfl (vp_in_nI (n := 2 * iζ) (by omega) (by omega)) (pr_e (nI_clamp (n := 2 * iζ) (by omega))) dX7_row_122 ?_
              refine lv_aload_n hx hb dX7_row_123 rfl (lv_at hl 3 rfl) ?_
              refine va_get (D := g.1) (ci := 7) (v := .ref (Aζ 27)) (C := RX7) (T := TX7) (N := 34) hx hb hts hi7 hown hK hP 0 rfl rfl 27 (by decide) (hts (.fieldLink RX7 55 "PanTalesModel" "parts" "[J") (by decide +kernel)) (fun _ h9 => h9) rfl dX7_row_124 ?_
              refine lv_iconst (v := 2) hx hb dX7_row_127 (by decide) ?_
              refine lv_iload hx hb dX7_row_128 (lv_at hl 0 rfl) ?_
              refine lv_imul hx hb dX7_row_130 ?_
              refine gtop (y := nI (2 * iζ)) (pk_mul 2 iζ) ?_
              refine lv_iconst (v := 1) hx hb dX7_row_131 (by decide) ?_
              refine lv_iadd hx hb dX7_row_132 ?_
              refine gtop (y := nI ((2 * iζ) + 1)) (nI_add (2 * iζ) 1) ?_
              refine r_lald (v := lN ((wDN tζ uζ nζ).1 iζ)) hx hb hK hP 1 rfl (vp_in_nI (n := (2 * iζ) + 1) (by omega) (by omega)) (pr_o (nI_clamp (n := 2 * iζ + 1) (by omega))) dX7_row_133 ?_
              refine lv_ladd hx hb dX7_row_134 ?_
              refine gtopl (y := lN (wtF tζ uζ nζ iζ)) ((lN_add _ _).trans (congrArg lN (Nat.add_comm _ _))) ?_
              refine lv_lstore (lv' := [(12, .long (lN (wtF tζ uζ nζ iζ))), (11, .int (nI iζ)), (9, .long (lN (ruS tζ uζ nζ kζ wζ iζ))), (7, .long (lN (10 ^ nζ))), (0, .ref hζ), (1, .int (nI nζ)), (2, .int (nI tζ)), (3, .int (nI uζ)), (4, .int (nI kζ)), (5, .int (nI wζ)), (6, .int (nI qζ))]) hx hb dX7_row_135 hl (by decide) rfl (fun ls hl => ?_)
              refine lv_iload hx hb dX7_row_137 (lv_at hl 9 rfl) ?_
              refine lv_if_ne (tgt := 157) hx hb dX7_row_139 (by decide) (fun c_7 => ?_) (fun c_7 => ?_)
              · have c_7 : ¬ wζ = 0 := fun z => c_7 ((nI_eq (a := wζ) (b := 0) (by omega) (by omega)).mpr z)
                refine lv_iload hx hb dX7_row_157 (lv_at hl 1 rfl) ?_
                refine lv_iload hx hb dX7_row_159 (lv_at hl 8 rfl) ?_
                refine lv_icmp_lt (tgt := 168) hx hb dX7_row_161 (by decide) (fun c_8 => ?_) (fun c_8 => ?_)
                · have c_8 : iζ < kζ := (nI_ltI (a := iζ) (b := kζ) (by omega) (by omega)).mp c_8
                  refine lv_iconst (v := 0) hx hb dX7_row_168 (by decide) ?_
                  refine lv_istore (lv' := [(14, .int 0), (12, .long (lN (wtF tζ uζ nζ iζ))), (11, .int (nI iζ)), (9, .long (lN (ruS tζ uζ nζ kζ wζ iζ))), (7, .long (lN (10 ^ nζ))), (0, .ref hζ), (1, .int (nI nζ)), (2, .int (nI tζ)), (3, .int (nI uζ)), (4, .int (nI kζ)), (5, .int (nI wζ)), (6, .int (nI qζ))]) hx hb dX7_row_169 hl (by decide) rfl (fun ls hl => ?_)
                  refine lv_lload hx hb dX7_row_171 (lv_at hl 3 rfl) ?_
                  refine lv_iload hx hb dX7_row_173 (lv_at hl 10 rfl) ?_
                  refine lv_iconst (v := 2) hx hb dX7_row_175 (by decide) ?_
                  refine lv_icmp_ne (tgt := 188) hx hb dX7_row_176 (by decide) (fun c_9 => ?_) (fun c_9 => ?_)
                  · have c_9 : ¬ wζ = 2 := fun z => c_9 ((nI_eq (a := wζ) (b := 2) (by omega) (by omega)).mpr z)
                    refine lv_iload hx hb dX7_row_188 (lv_at hl 0 rfl) ?_
                    refine lv_if_eq (tgt := 198) hx hb dX7_row_190 (by decide) (fun c_10 => ?_) (fun c_10 => ?_)
                    · refine lv_lconst (v := 0) hx hb dX7_row_198 (by decide) ?_
                      refine lv_ladd hx hb dX7_row_199 ?_
                      refine gtopl (y := lN (ruS tζ uζ nζ kζ wζ (iζ + 1))) ((lN_add _ 0).trans (congrArg lN ((Nat.add_zero _).trans (ru_n c_9 (by omega))))) ?_
                      refine lv_lstore (lv' := [(9, .long (lN (ruS tζ uζ nζ kζ wζ (iζ + 1)))), (14, .int 0), (12, .long (lN (wtF tζ uζ nζ iζ))), (11, .int (nI iζ)), (7, .long (lN (10 ^ nζ))), (0, .ref hζ), (1, .int (nI nζ)), (2, .int (nI tζ)), (3, .int (nI uζ)), (4, .int (nI kζ)), (5, .int (nI wζ)), (6, .int (nI qζ))]) hx hb dX7_row_200 hl (by decide) rfl (fun ls hl => ?_)
                      refine lv_iinc (v := nI (iζ + 1)) (lv' := [(11, .int (nI (iζ + 1))), (9, .long (lN (ruS tζ uζ nζ kζ wζ (iζ + 1)))), (14, .int 0), (12, .long (lN (wtF tζ uζ nζ iζ))), (7, .long (lN (10 ^ nζ))), (0, .ref hζ), (1, .int (nI nζ)), (2, .int (nI tζ)), (3, .int (nI uζ)), (4, .int (nI kζ)), (5, .int (nI wζ)), (6, .int (nI qζ))]) hx hb dX7_row_202 hl (k := 3) rfl (nI_1 iζ) (by decide) rfl (fun ls hl => ?_)
                      refine lv_goto (tgt := 108) hx hb dX7_row_205 (by decide) ?_
                      exact ih108 (iζ + 1) (by first | omega | (dsimp only; omega)) (by first | omega | (dsimp only; omega)) _ _ _ (hP.sub [0, 1, 2] rfl) (hD.sub [0, 1, 2] (by decide) rfl) hS (lv_sub hl [0, 1, 4, 5, 6, 7, 8, 9, 10, 11] rfl)
                    · exact absurd (by decide) c_10
                  · have c_9 : wζ = 2 := (nI_eq (a := wζ) (b := 2) (by omega) (by omega)).mp c_9
                    refine lv_iload hx hb dX7_row_179 (lv_at hl 2 rfl) ?_
                    refine lv_i2l (v := lN iζ) hx hb dX7_row_181 (nI_l (by omega)) ?_
                    refine lv_lload hx hb dX7_row_182 (lv_at hl 1 rfl) ?_
                    refine lv_lmul hx hb dX7_row_184 ?_
                    refine gtopl (y := lN (iζ * (wtF tζ uζ nζ iζ))) (lN_mul iζ (wtF tζ uζ nζ iζ)) ?_
                    refine lv_goto (tgt := 199) hx hb dX7_row_185 (by decide) ?_
                    refine lv_ladd hx hb dX7_row_199 ?_
                    refine gtopl (y := lN (ruS tζ uζ nζ kζ wζ (iζ + 1))) ((lN_add _ _).trans (congrArg lN (ru_2 c_9))) ?_
                    refine lv_lstore (lv' := [(9, .long (lN (ruS tζ uζ nζ kζ wζ (iζ + 1)))), (14, .int 0), (12, .long (lN (wtF tζ uζ nζ iζ))), (11, .int (nI iζ)), (7, .long (lN (10 ^ nζ))), (0, .ref hζ), (1, .int (nI nζ)), (2, .int (nI tζ)), (3, .int (nI uζ)), (4, .int (nI kζ)), (5, .int (nI wζ)), (6, .int (nI qζ))]) hx hb dX7_row_200 hl (by decide) rfl (fun ls hl => ?_)
                    refine lv_iinc (v := nI (iζ + 1)) (lv' := [(11, .int (nI (iζ + 1))), (9, .long (lN (ruS tζ uζ nζ kζ wζ (iζ + 1)))), (14, .int 0), (12, .long (lN (wtF tζ uζ nζ iζ))), (7, .long (lN (10 ^ nζ))), (0, .ref hζ), (1, .int (nI nζ)), (2, .int (nI tζ)), (3, .int (nI uζ)), (4, .int (nI kζ)), (5, .int (nI wζ)), (6, .int (nI qζ))]) hx hb dX7_row_202 hl (k := 3) rfl (nI_1 iζ) (by decide) rfl (fun ls hl => ?_)
                    refine lv_goto (tgt := 108) hx hb dX7_row_205 (by decide) ?_
                    exact ih108 (iζ + 1) (by first | omega | (dsimp only; omega)) (by first | omega | (dsimp only; omega)) _ _ _ (hP.sub [0, 1, 2] rfl) (hD.sub [0, 1, 2] (by decide) rfl) hS (lv_sub hl [0, 1, 4, 5, 6, 7, 8, 9, 10, 11] rfl)
                · have c_8 : ¬ iζ < kζ := fun z => c_8 ((nI_ltI (a := iζ) (b := kζ) (by omega) (by omega)).mpr z)
                  refine lv_iconst (v := 1) hx hb dX7_row_164 (by decide) ?_
                  refine lv_goto (tgt := 169) hx hb dX7_row_165 (by decide) ?_
                  refine lv_istore (lv' := [(14, .int 1), (12, .long (lN (wtF tζ uζ nζ iζ))), (11, .int (nI iζ)), (9, .long (lN (ruS tζ uζ nζ kζ wζ iζ))), (7, .long (lN (10 ^ nζ))), (0, .ref hζ), (1, .int (nI nζ)), (2, .int (nI tζ)), (3, .int (nI uζ)), (4, .int (nI kζ)), (5, .int (nI wζ)), (6, .int (nI qζ))]) hx hb dX7_row_169 hl (by decide) rfl (fun ls hl => ?_)
                  refine lv_lload hx hb dX7_row_171 (lv_at hl 3 rfl) ?_
                  refine lv_iload hx hb dX7_row_173 (lv_at hl 10 rfl) ?_
                  refine lv_iconst (v := 2) hx hb dX7_row_175 (by decide) ?_
                  refine lv_icmp_ne (tgt := 188) hx hb dX7_row_176 (by decide) (fun c_11 => ?_) (fun c_11 => ?_)
                  · have c_11 : ¬ wζ = 2 := fun z => c_11 ((nI_eq (a := wζ) (b := 2) (by omega) (by omega)).mpr z)
                    refine lv_iload hx hb dX7_row_188 (lv_at hl 0 rfl) ?_
                    refine lv_if_eq (tgt := 198) hx hb dX7_row_190 (by decide) (fun c_12 => ?_) (fun c_12 => ?_)
                    · exact absurd c_12 (by decide)
                    · refine lv_lload hx hb dX7_row_193 (lv_at hl 1 rfl) ?_
                      refine lv_goto (tgt := 199) hx hb dX7_row_195 (by decide) ?_
                      refine lv_ladd hx hb dX7_row_199 ?_
                      refine gtopl (y := lN (ruS tζ uζ nζ kζ wζ (iζ + 1))) ((lN_add _ _).trans (congrArg lN (ru_a c_11 (by omega)))) ?_
                      refine lv_lstore (lv' := [(9, .long (lN (ruS tζ uζ nζ kζ wζ (iζ + 1)))), (14, .int 1), (12, .long (lN (wtF tζ uζ nζ iζ))), (11, .int (nI iζ)), (7, .long (lN (10 ^ nζ))), (0, .ref hζ), (1, .int (nI nζ)), (2, .int (nI tζ)), (3, .int (nI uζ)), (4, .int (nI kζ)), (5, .int (nI wζ)), (6, .int (nI qζ))]) hx hb dX7_row_200 hl (by decide) rfl (fun ls hl => ?_)
                      refine lv_iinc (v := nI (iζ + 1)) (lv' := [(11, .int (nI (iζ + 1))), (9, .long (lN (ruS tζ uζ nζ kζ wζ (iζ + 1)))), (14, .int 1), (12, .long (lN (wtF tζ uζ nζ iζ))), (7, .long (lN (10 ^ nζ))), (0, .ref hζ), (1, .int (nI nζ)), (2, .int (nI tζ)), (3, .int (nI uζ)), (4, .int (nI kζ)), (5, .int (nI wζ)), (6, .int (nI qζ))]) hx hb dX7_row_202 hl (k := 3) rfl (nI_1 iζ) (by decide) rfl (fun ls hl => ?_)
                      refine lv_goto (tgt := 108) hx hb dX7_row_205 (by decide) ?_
                      exact ih108 (iζ + 1) (by first | omega | (dsimp only; omega)) (by first | omega | (dsimp only; omega)) _ _ _ (hP.sub [0, 1, 2] rfl) (hD.sub [0, 1, 2] (by decide) rfl) hS (lv_sub hl [0, 1, 4, 5, 6, 7, 8, 9, 10, 11] rfl)
                  · have c_11 : wζ = 2 := (nI_eq (a := wζ) (b := 2) (by omega) (by omega)).mp c_11
                    refine lv_iload hx hb dX7_row_179 (lv_at hl 2 rfl) ?_
                    refine lv_i2l (v := lN iζ) hx hb dX7_row_181 (nI_l (by omega)) ?_
                    refine lv_lload hx hb dX7_row_182 (lv_at hl 1 rfl) ?_
                    refine lv_lmul hx hb dX7_row_184 ?_
                    refine gtopl (y := lN (iζ * (wtF tζ uζ nζ iζ))) (lN_mul iζ (wtF tζ uζ nζ iζ)) ?_
                    refine lv_goto (tgt := 199) hx hb dX7_row_185 (by decide) ?_
                    refine lv_ladd hx hb dX7_row_199 ?_
                    refine gtopl (y := lN (ruS tζ uζ nζ kζ wζ (iζ + 1))) ((lN_add _ _).trans (congrArg lN (ru_2 c_11))) ?_
                    refine lv_lstore (lv' := [(9, .long (lN (ruS tζ uζ nζ kζ wζ (iζ + 1)))), (14, .int 1), (12, .long (lN (wtF tζ uζ nζ iζ))), (11, .int (nI iζ)), (7, .long (lN (10 ^ nζ))), (0, .ref hζ), (1, .int (nI nζ)), (2, .int (nI tζ)), (3, .int (nI uζ)), (4, .int (nI kζ)), (5, .int (nI wζ)), (6, .int (nI qζ))]) hx hb dX7_row_200 hl (by decide) rfl (fun ls hl => ?_)
                    refine lv_iinc (v := nI (iζ + 1)) (lv' := [(11, .int (nI (iζ + 1))), (9, .long (lN (ruS tζ uζ nζ kζ wζ (iζ + 1)))), (14, .int 1), (12, .long (lN (wtF tζ uζ nζ iζ))), (7, .long (lN (10 ^ nζ))), (0, .ref hζ), (1, .int (nI nζ)), (2, .int (nI tζ)), (3, .int (nI uζ)), (4, .int (nI kζ)), (5, .int (nI wζ)), (6, .int (nI qζ))]) hx hb dX7_row_202 hl (k := 3) rfl (nI_1 iζ) (by decide) rfl (fun ls hl => ?_)
                    refine lv_goto (tgt := 108) hx hb dX7_row_205 (by decide) ?_
                    exact ih108 (iζ + 1) (by first | omega | (dsimp only; omega)) (by first | omega | (dsimp only; omega)) _ _ _ (hP.sub [0, 1, 2] rfl) (hD.sub [0, 1, 2] (by decide) rfl) hS (lv_sub hl [0, 1, 4, 5, 6, 7, 8, 9, 10, 11] rfl)
              · have c_7 : wζ = 0 := (nI_eq (a := wζ) (b := 0) (by omega) (by omega)).mp c_7
                refine lv_iload hx hb dX7_row_142 (lv_at hl 1 rfl) ?_
                refine lv_iload hx hb dX7_row_144 (lv_at hl 8 rfl) ?_
                refine lv_icmp_ne (tgt := 153) hx hb dX7_row_146 (by decide) (fun c_13 => ?_) (fun c_13 => ?_)
                · have c_13 : ¬ iζ = kζ := fun z => c_13 ((nI_eq (a := iζ) (b := kζ) (by omega) (by omega)).mpr z)
                  refine lv_iconst (v := 0) hx hb dX7_row_153 (by decide) ?_
                  refine lv_goto (tgt := 169) hx hb dX7_row_154 (by decide) ?_
                  refine lv_istore (lv' := [(14, .int 0), (12, .long (lN (wtF tζ uζ nζ iζ))), (11, .int (nI iζ)), (9, .long (lN (ruS tζ uζ nζ kζ wζ iζ))), (7, .long (lN (10 ^ nζ))), (0, .ref hζ), (1, .int (nI nζ)), (2, .int (nI tζ)), (3, .int (nI uζ)), (4, .int (nI kζ)), (5, .int (nI wζ)), (6, .int (nI qζ))]) hx hb dX7_row_169 hl (by decide) rfl (fun ls hl => ?_)
                  refine lv_lload hx hb dX7_row_171 (lv_at hl 3 rfl) ?_
                  refine lv_iload hx hb dX7_row_173 (lv_at hl 10 rfl) ?_
                  refine lv_iconst (v := 2) hx hb dX7_row_175 (by decide) ?_
                  refine lv_icmp_ne (tgt := 188) hx hb dX7_row_176 (by decide) (fun c_14 => ?_) (fun c_14 => ?_)
                  · have c_14 : ¬ wζ = 2 := fun z => c_14 ((nI_eq (a := wζ) (b := 2) (by omega) (by omega)).mpr z)
                    refine lv_iload hx hb dX7_row_188 (lv_at hl 0 rfl) ?_
                    refine lv_if_eq (tgt := 198) hx hb dX7_row_190 (by decide) (fun c_15 => ?_) (fun c_15 => ?_)
                    · refine lv_lconst (v := 0) hx hb dX7_row_198 (by decide) ?_
                      refine lv_ladd hx hb dX7_row_199 ?_
                      refine gtopl (y := lN (ruS tζ uζ nζ kζ wζ (iζ + 1))) ((lN_add _ 0).trans (congrArg lN ((Nat.add_zero _).trans (ru_n c_14 (by omega))))) ?_
                      refine lv_lstore (lv' := [(9, .long (lN (ruS tζ uζ nζ kζ wζ (iζ + 1)))), (14, .int 0), (12, .long (lN (wtF tζ uζ nζ iζ))), (11, .int (nI iζ)), (7, .long (lN (10 ^ nζ))), (0, .ref hζ), (1, .int (nI nζ)), (2, .int (nI tζ)), (3, .int (nI uζ)), (4, .int (nI kζ)), (5, .int (nI wζ)), (6, .int (nI qζ))]) hx hb dX7_row_200 hl (by decide) rfl (fun ls hl => ?_)
                      refine lv_iinc (v := nI (iζ + 1)) (lv' := [(11, .int (nI (iζ + 1))), (9, .long (lN (ruS tζ uζ nζ kζ wζ (iζ + 1)))), (14, .int 0), (12, .long (lN (wtF tζ uζ nζ iζ))), (7, .long (lN (10 ^ nζ))), (0, .ref hζ), (1, .int (nI nζ)), (2, .int (nI tζ)), (3, .int (nI uζ)), (4, .int (nI kζ)), (5, .int (nI wζ)), (6, .int (nI qζ))]) hx hb dX7_row_202 hl (k := 3) rfl (nI_1 iζ) (by decide) rfl (fun ls hl => ?_)
                      refine lv_goto (tgt := 108) hx hb dX7_row_205 (by decide) ?_
                      exact ih108 (iζ + 1) (by first | omega | (dsimp only; omega)) (by first | omega | (dsimp only; omega)) _ _ _ (hP.sub [0, 1, 2] rfl) (hD.sub [0, 1, 2] (by decide) rfl) hS (lv_sub hl [0, 1, 4, 5, 6, 7, 8, 9, 10, 11] rfl)
                    · exact absurd (by decide) c_15
                  · have c_14 : wζ = 2 := (nI_eq (a := wζ) (b := 2) (by omega) (by omega)).mp c_14
                    refine lv_iload hx hb dX7_row_179 (lv_at hl 2 rfl) ?_
                    refine lv_i2l (v := lN iζ) hx hb dX7_row_181 (nI_l (by omega)) ?_
                    refine lv_lload hx hb dX7_row_182 (lv_at hl 1 rfl) ?_
                    refine lv_lmul hx hb dX7_row_184 ?_
                    refine gtopl (y := lN (iζ * (wtF tζ uζ nζ iζ))) (lN_mul iζ (wtF tζ uζ nζ iζ)) ?_
                    refine lv_goto (tgt := 199) hx hb dX7_row_185 (by decide) ?_
                    refine lv_ladd hx hb dX7_row_199 ?_
                    refine gtopl (y := lN (ruS tζ uζ nζ kζ wζ (iζ + 1))) ((lN_add _ _).trans (congrArg lN (ru_2 c_14))) ?_
                    refine lv_lstore (lv' := [(9, .long (lN (ruS tζ uζ nζ kζ wζ (iζ + 1)))), (14, .int 0), (12, .long (lN (wtF tζ uζ nζ iζ))), (11, .int (nI iζ)), (7, .long (lN (10 ^ nζ))), (0, .ref hζ), (1, .int (nI nζ)), (2, .int (nI tζ)), (3, .int (nI uζ)), (4, .int (nI kζ)), (5, .int (nI wζ)), (6, .int (nI qζ))]) hx hb dX7_row_200 hl (by decide) rfl (fun ls hl => ?_)
                    refine lv_iinc (v := nI (iζ + 1)) (lv' := [(11, .int (nI (iζ + 1))), (9, .long (lN (ruS tζ uζ nζ kζ wζ (iζ + 1)))), (14, .int 0), (12, .long (lN (wtF tζ uζ nζ iζ))), (7, .long (lN (10 ^ nζ))), (0, .ref hζ), (1, .int (nI nζ)), (2, .int (nI tζ)), (3, .int (nI uζ)), (4, .int (nI kζ)), (5, .int (nI wζ)), (6, .int (nI qζ))]) hx hb dX7_row_202 hl (k := 3) rfl (nI_1 iζ) (by decide) rfl (fun ls hl => ?_)
                    refine lv_goto (tgt := 108) hx hb dX7_row_205 (by decide) ?_
                    exact ih108 (iζ + 1) (by first | omega | (dsimp only; omega)) (by first | omega | (dsimp only; omega)) _ _ _ (hP.sub [0, 1, 2] rfl) (hD.sub [0, 1, 2] (by decide) rfl) hS (lv_sub hl [0, 1, 4, 5, 6, 7, 8, 9, 10, 11] rfl)
                · have c_13 : iζ = kζ := (nI_eq (a := iζ) (b := kζ) (by omega) (by omega)).mp c_13
                  refine lv_iconst (v := 1) hx hb dX7_row_149 (by decide) ?_
                  refine lv_goto (tgt := 169) hx hb dX7_row_150 (by decide) ?_
                  refine lv_istore (lv' := [(14, .int 1), (12, .long (lN (wtF tζ uζ nζ iζ))), (11, .int (nI iζ)), (9, .long (lN (ruS tζ uζ nζ kζ wζ iζ))), (7, .long (lN (10 ^ nζ))), (0, .ref hζ), (1, .int (nI nζ)), (2, .int (nI tζ)), (3, .int (nI uζ)), (4, .int (nI kζ)), (5, .int (nI wζ)), (6, .int (nI qζ))]) hx hb dX7_row_169 hl (by decide) rfl (fun ls hl => ?_)
                  refine lv_lload hx hb dX7_row_171 (lv_at hl 3 rfl) ?_
                  refine lv_iload hx hb dX7_row_173 (lv_at hl 10 rfl) ?_
                  refine lv_iconst (v := 2) hx hb dX7_row_175 (by decide) ?_
                  refine lv_icmp_ne (tgt := 188) hx hb dX7_row_176 (by decide) (fun c_16 => ?_) (fun c_16 => ?_)
                  · have c_16 : ¬ wζ = 2 := fun z => c_16 ((nI_eq (a := wζ) (b := 2) (by omega) (by omega)).mpr z)
                    refine lv_iload hx hb dX7_row_188 (lv_at hl 0 rfl) ?_
                    refine lv_if_eq (tgt := 198) hx hb dX7_row_190 (by decide) (fun c_17 => ?_) (fun c_17 => ?_)
                    · exact absurd c_17 (by decide)
                    · refine lv_lload hx hb dX7_row_193 (lv_at hl 1 rfl) ?_
                      refine lv_goto (tgt := 199) hx hb dX7_row_195 (by decide) ?_
                      refine lv_ladd hx hb dX7_row_199 ?_
                      refine gtopl (y := lN (ruS tζ uζ nζ kζ wζ (iζ + 1))) ((lN_add _ _).trans (congrArg lN (ru_a c_16 (by omega)))) ?_
                      refine lv_lstore (lv' := [(9, .long (lN (ruS tζ uζ nζ kζ wζ (iζ + 1)))), (14, .int 1), (12, .long (lN (wtF tζ uζ nζ iζ))), (11, .int (nI iζ)), (7, .long (lN (10 ^ nζ))), (0, .ref hζ), (1, .int (nI nζ)), (2, .int (nI tζ)), (3, .int (nI uζ)), (4, .int (nI kζ)), (5, .int (nI wζ)), (6, .int (nI qζ))]) hx hb dX7_row_200 hl (by decide) rfl (fun ls hl => ?_)
                      refine lv_iinc (v := nI (iζ + 1)) (lv' := [(11, .int (nI (iζ + 1))), (9, .long (lN (ruS tζ uζ nζ kζ wζ (iζ + 1)))), (14, .int 1), (12, .long (lN (wtF tζ uζ nζ iζ))), (7, .long (lN (10 ^ nζ))), (0, .ref hζ), (1, .int (nI nζ)), (2, .int (nI tζ)), (3, .int (nI uζ)), (4, .int (nI kζ)), (5, .int (nI wζ)), (6, .int (nI qζ))]) hx hb dX7_row_202 hl (k := 3) rfl (nI_1 iζ) (by decide) rfl (fun ls hl => ?_)
                      refine lv_goto (tgt := 108) hx hb dX7_row_205 (by decide) ?_
                      exact ih108 (iζ + 1) (by first | omega | (dsimp only; omega)) (by first | omega | (dsimp only; omega)) _ _ _ (hP.sub [0, 1, 2] rfl) (hD.sub [0, 1, 2] (by decide) rfl) hS (lv_sub hl [0, 1, 4, 5, 6, 7, 8, 9, 10, 11] rfl)
                  · have c_16 : wζ = 2 := (nI_eq (a := wζ) (b := 2) (by omega) (by omega)).mp c_16
                    refine lv_iload hx hb dX7_row_179 (lv_at hl 2 rfl) ?_
                    refine lv_i2l (v := lN iζ) hx hb dX7_row_181 (nI_l (by omega)) ?_
                    refine lv_lload hx hb dX7_row_182 (lv_at hl 1 rfl) ?_
                    refine lv_lmul hx hb dX7_row_184 ?_
                    refine gtopl (y := lN (iζ * (wtF tζ uζ nζ iζ))) (lN_mul iζ (wtF tζ uζ nζ iζ)) ?_
                    refine lv_goto (tgt := 199) hx hb dX7_row_185 (by decide) ?_
                    refine lv_ladd hx hb dX7_row_199 ?_
                    refine gtopl (y := lN (ruS tζ uζ nζ kζ wζ (iζ + 1))) ((lN_add _ _).trans (congrArg lN (ru_2 c_16))) ?_
                    refine lv_lstore (lv' := [(9, .long (lN (ruS tζ uζ nζ kζ wζ (iζ + 1)))), (14, .int 1), (12, .long (lN (wtF tζ uζ nζ iζ))), (11, .int (nI iζ)), (7, .long (lN (10 ^ nζ))), (0, .ref hζ), (1, .int (nI nζ)), (2, .int (nI tζ)), (3, .int (nI uζ)), (4, .int (nI kζ)), (5, .int (nI wζ)), (6, .int (nI qζ))]) hx hb dX7_row_200 hl (by decide) rfl (fun ls hl => ?_)
                    refine lv_iinc (v := nI (iζ + 1)) (lv' := [(11, .int (nI (iζ + 1))), (9, .long (lN (ruS tζ uζ nζ kζ wζ (iζ + 1)))), (14, .int 1), (12, .long (lN (wtF tζ uζ nζ iζ))), (7, .long (lN (10 ^ nζ))), (0, .ref hζ), (1, .int (nI nζ)), (2, .int (nI tζ)), (3, .int (nI uζ)), (4, .int (nI kζ)), (5, .int (nI wζ)), (6, .int (nI qζ))]) hx hb dX7_row_202 hl (k := 3) rfl (nI_1 iζ) (by decide) rfl (fun ls hl => ?_)
                    refine lv_goto (tgt := 108) hx hb dX7_row_205 (by decide) ?_
                    exact ih108 (iζ + 1) (by first | omega | (dsimp only; omega)) (by first | omega | (dsimp only; omega)) _ _ _ (hP.sub [0, 1, 2] rfl) (hD.sub [0, 1, 2] (by decide) rfl) hS (lv_sub hl [0, 1, 4, 5, 6, 7, 8, 9, 10, 11] rfl)
          · have c_5 : ¬ nζ ≤ iζ := fun z => c_5 ((nI_leI (a := nζ) (b := iζ) (by omega) (by omega)).mpr z)
            refine lv_aload_n hx hb dX7_row_82 rfl (lv_at hl 2 rfl) ?_
            refine lv_iload_n hx hb dX7_row_83 rfl (lv_at hl 4 rfl) ?_
            refine lv_iload_n hx hb dX7_row_84 rfl (lv_at hl 5 rfl) ?_
            refine gcV_v (As := [.int (nI tζ), .int (nI uζ)]) (rest := []) (ci := 7) (q := (RX7, TX7, 34)) F hK hN hP hD hS hA (c_X7_oneHouse l g H.size hζ Aζ iM0 f7ζ tζ uζ iζ (by omega) (by omega) (by omega)) gX7_row_X7_oneHouse kX7_oneHouse rfl rfl rfl rfl ⟨(Nat.le_of_ble_eq_true rfl), (Nat.le_of_ble_eq_true rfl)⟩ [0, 1, 2] [] rfl rfl rfl (by decide) rfl rfl rfl rfl rfl hl.1 (Nat.le_of_ble_eq_true rfl) dX7_row_85 ⟨(Nat.le_of_ble_eq_true rfl), (Nat.le_of_ble_eq_true rfl)⟩ (fun u_w H locs hw hP hD hS => ?_)
            have hP : va_P g.1 vwCl [(hζ, .inr (7, oM Aζ iM0)), aJ g (Aζ 27) 22 (prF tζ uζ (iζ + 1)), aJ g (Aζ 28) 22 (prF tζ uζ (iζ + 1))] H := hP
            have hD : va_D Z [(hζ, .inr (7, oM Aζ iM0)), aJ g (Aζ 27) 22 (prF tζ uζ (iζ + 1)), aJ g (Aζ 28) 22 (prF tζ uζ (iζ + 1))] := hD
            refine lv_lload hx hb dX7_row_88 (lv_at hl 1 rfl) ?_
            refine lv_ldc2 (v := 10) hx hb hown (hts (.constantLong RX7 82 (10)) (by decide +kernel)) dX7_row_90 ?_
            refine lv_lmul hx hb dX7_row_93 ?_
            refine gtopl (y := lN (10 ^ (iζ + 1))) ((lN_mul _ _).trans (congrArg lN (Nat.pow_succ ..).symm)) ?_
            refine lv_lstore (lv' := [(7, .long (lN (10 ^ (iζ + 1)))), (9, .int (nI iζ)), (0, .ref hζ), (1, .int (nI nζ)), (2, .int (nI tζ)), (3, .int (nI uζ)), (4, .int (nI kζ)), (5, .int (nI wζ)), (6, .int (nI qζ))]) hx hb dX7_row_94 hl (by decide) rfl (fun ls hl => ?_)
            refine lv_iinc (v := nI (iζ + 1)) (lv' := [(9, .int (nI (iζ + 1))), (7, .long (lN (10 ^ (iζ + 1)))), (0, .ref hζ), (1, .int (nI nζ)), (2, .int (nI tζ)), (3, .int (nI uζ)), (4, .int (nI kζ)), (5, .int (nI wζ)), (6, .int (nI qζ))]) hx hb dX7_row_96 hl (k := 1) rfl (nI_1 iζ) (by decide) rfl (fun ls hl => ?_)
            refine lv_goto (tgt := 76) hx hb dX7_row_99 (by decide) ?_
            exact ih76 (iζ + 1, prF tζ uζ (iζ + 1)) (by first | omega | (dsimp only; omega)) (by first | omega | (dsimp only; omega)) _ _ _ (hP.sub [0, 1, 2] rfl) (hD.sub [0, 1, 2] (by decide) rfl) hS (lv_sub hl [0, 1, 2, 3, 4, 5, 6, 7, 8] rfl)
        · have c_4 : ¬ 22 ≤ iζ := fun z => c_4 ((nI_leI (a := 22) (b := iζ) (by omega) (by omega)).mpr z)
          refine lv_aload_n hx hb dX7_row_49 rfl (lv_at hl 1 rfl) ?_
          refine va_get (D := g.1) (ci := 7) (v := .ref (Aζ 27)) (C := RX7) (T := TX7) (N := 34) hx hb hts hi7 hown hK hP 0 rfl rfl 27 (by decide) (hts (.fieldLink RX7 55 "PanTalesModel" "parts" "[J") (by decide +kernel)) (fun _ h9 => h9) rfl dX7_row_50 ?_
          refine lv_iload hx hb dX7_row_53 (lv_at hl 0 rfl) ?_
          refine lv_lconst (v := 0) hx hb dX7_row_55 (by decide) ?_
          refine r_last (f' := (fun _ => 0)) hx hb hK hP hD hS 1 rfl (vp_in_nI (n := iζ) (by omega) (by omega)) z_updL dX7_row_56 (fun H locs hP hD hS => ?_)
          have hP : va_P g.1 vwCl [(hζ, .inr (7, oM Aζ iM0)), aJ g (Aζ 27) 22 (fun _ => 0), aJ g (Aζ 28) 22 (fun _ => 0)] H := hP
          have hD : va_D Z [(hζ, .inr (7, oM Aζ iM0)), aJ g (Aζ 27) 22 (fun _ => 0), aJ g (Aζ 28) 22 (fun _ => 0)] := hD
          refine lv_iinc (v := nI (iζ + 1)) (lv' := [(7, .int (nI (iζ + 1))), (0, .ref hζ), (1, .int (nI nζ)), (2, .int (nI tζ)), (3, .int (nI uζ)), (4, .int (nI kζ)), (5, .int (nI wζ)), (6, .int (nI qζ))]) hx hb dX7_row_57 hl (k := 0) rfl (nI_1 iζ) (by decide) rfl (fun ls hl => ?_)
          refine lv_goto (tgt := 42) hx hb dX7_row_60 (by decide) ?_
          exact ih42 (iζ + 1) (by first | omega | (dsimp only; omega)) (by first | omega | (dsimp only; omega)) _ _ _ (hP.sub [0, 1, 2] rfl) (hD.sub [0, 1, 2] (by decide) rfl) hS (lv_sub hl [0, 1, 2, 3, 4, 5, 6, 7] rfl)
      · have c_3 : inB x6ζ 0 1 = false := bI_0 c_3
        refine lv_ldc2 (v := (-1000000000000000002)) hx hb hown (hts (.constantLong RX7 259 (-1000000000000000002)) (by decide +kernel)) dX7_row_35 ?_
        exact r_lret hx hb hr hlk hS () (by unfold rowG; rw [if_pos (isRow_t c_1).1, if_pos (isRow_t c_1).2.1, if_pos (isRow_t c_1).2.2.1, if_pos (isRow_t c_1).2.2.2, if_pos c_2, if_neg (bF c_3)]) (hP.sub [] rfl) (hD.sub [] (by decide) rfl) dX7_row_38

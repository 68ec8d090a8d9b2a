theorem kX4_init : YOk yX4_init 0 := by decide +kernel
theorem kX4_fadeAll : YOk yX4_fadeAll 1 := by decide +kernel
theorem kX4_isSo : YOk yX4_isSo 3 := by decide +kernel
theorem kX4_gather : YOk yX4_gather 1 := by decide +kernel
theorem kX4_size : YOk yX4_size 0 := by decide +kernel
theorem kX4_pick : YOk yX4_pick 1 := by decide +kernel
theorem kX4_taleInBed : YOk yX4_taleInBed 3 := by decide +kernel
theorem kX4_mostLeft : YOk yX4_mostLeft 1 := by decide +kernel
theorem kX4_bedToAsk : YOk yX4_bedToAsk 0 := by decide +kernel
set_option maxHeartbeats 4000000 in
set_option maxRecDepth 100000 in
theorem c_X4_init (l : Launch) (g : GT) (sz : Nat) (hζ : Nat) : Mv (S := Nat → Nat) l yX4_init wsX4_init { frames := 1, cells := 3, slots := 470, locals := 40 } g sz [.ref hζ] [(hζ, .inr (4, [.null, .null, .null, .int 0]))] 3 470 (fun _ => True) (fun Gζ => [(hζ, .inr (4, [.ref (Gζ 0), .ref (Gζ 1), .ref (Gζ 2), .int 0])), aI g (Gζ 0) 410 (fun _ => 0), aI g (Gζ 1) 50 (fun _ => 0), aI g (Gζ 2) 10 (fun _ => 0)]) := by
  refine gMet_v (cc := cX4_init) (maxL := 1) (ret := none) (by decide) rfl (Nat.le_of_ble_eq_true rfl) ?_
  intro p e s m args below meth c Z hx hb hr F hlk hnm hK hN hA H locs hP hD hS ls hl
  have hl : lv_has ls 1 [(0, .ref hζ)] := hl
  have F : CallFix p m c cX4_init 1 s args wsX4_init RX4 := F
  have hts := F.2.2.2.2
  have hown : s.vm.findClass RX4 = some m.cls := F.2.2.2.1
  have hi4 : ∀ w ∈ u_ws RX4 TX4 4, w ∈ wsX4_init := by decide +kernel
  refine lv_aload_n hx hb dX4_init_0 rfl (lv_at hl 0 rfl) ?_
  refine W.objInit hx hb hown (hts (.methodLink RX4 3 objectInit) (by decide +kernel)) (hts (.instanceMethod objectInit) (by decide +kernel)) (hts (.code objectInit ⟨#[0xb1]⟩ 1 none) (by decide +kernel)) rfl (by rw [F.2.2.1]; exact hl.1) rfl dX4_init_1 (Nat.le_of_ble_eq_true rfl) (Nat.le_of_ble_eq_true rfl) ?_
  refine W.eq (g2 := F0 m 4 ls []) rfl ?_
  refine lv_aload_n hx hb dX4_init_4 rfl (lv_at hl 0 rfl) ?_
  refine lv_sipush (v := 410) hx hb dX4_init_5 (by decide) ?_
  refine r_newI (N' := 410) hx hb (hts (.arrayClass .int) (by decide +kernel)) hK hP hD hS hA (by decide) (nI_clamp (n := 410) (by decide)) (Nat.le_of_ble_eq_true rfl) (Nat.le_of_ble_eq_true rfl) (Nat.le_of_ble_eq_true rfl) dX4_init_8 (fun q_1 H hP hD hS => ?_)
  have hP : va_P g.1 vwCl [(hζ, .inr (4, [.null, .null, .null, .int 0])), aI g q_1 410 (fun _ => 0)] H := hP
  have hD : va_D Z [(hζ, .inr (4, [.null, .null, .null, .int 0])), aI g q_1 410 (fun _ => 0)] := hD
  refine W.widen (k := 1) (n := 410) (by decide) (by decide) ?_
  refine va_putF (D := g.1) (ci := 4) (v := .ref q_1) (ty := (.array .int)) (C := RX4) (T := TX4) (N := 4) hx hb hts hi4 tyX4 tyX4_ok nmX4 hown hK hP hD hS 0 rfl rfl 0 (by decide) (hts (.fieldLink RX4 9 "PanTales$Sayings" "faded" "[I") (by decide +kernel)) (fun _ h9 => h9) rfl hnm rfl (by decide +kernel) rfl rfl (Nat.le_of_ble_eq_true rfl) dX4_init_10 (fun H locs hP hD hS => ?_)
  have hP : va_P g.1 vwCl [(hζ, .inr (4, [.ref q_1, .null, .null, .int 0])), aI g q_1 410 (fun _ => 0)] H := hP
  have hD : va_D Z [(hζ, .inr (4, [.ref q_1, .null, .null, .int 0])), aI g q_1 410 (fun _ => 0)] := hD
  refine lv_aload_n hx hb dX4_init_13 rfl (lv_at hl 0 rfl) ?_
  refine lv_bipush (v := 50) hx hb dX4_init_14 (by decide) ?_
  refine r_newI (N' := 50) hx hb (hts (.arrayClass .int) (by decide +kernel)) hK hP hD hS hA (by decide) (nI_clamp (n := 50) (by decide)) (Nat.le_of_ble_eq_true rfl) (Nat.le_of_ble_eq_true rfl) (Nat.le_of_ble_eq_true rfl) dX4_init_16 (fun q_2 H hP hD hS => ?_)
  have hP : va_P g.1 vwCl [(hζ, .inr (4, [.ref q_1, .null, .null, .int 0])), aI g q_1 410 (fun _ => 0), aI g q_2 50 (fun _ => 0)] H := hP
  have hD : va_D Z [(hζ, .inr (4, [.ref q_1, .null, .null, .int 0])), aI g q_1 410 (fun _ => 0), aI g q_2 50 (fun _ => 0)] := hD
  refine W.widen (k := 2) (n := 460) (by decide) (by decide) ?_
  refine va_putF (D := g.1) (ci := 4) (v := .ref q_2) (ty := (.array .int)) (C := RX4) (T := TX4) (N := 4) hx hb hts hi4 tyX4 tyX4_ok nmX4 hown hK hP hD hS 0 rfl rfl 1 (by decide) (hts (.fieldLink RX4 15 "PanTales$Sayings" "twos" "[I") (by decide +kernel)) (fun _ h9 => h9) rfl hnm rfl (by decide +kernel) rfl rfl (Nat.le_of_ble_eq_true rfl) dX4_init_18 (fun H locs hP hD hS => ?_)
  have hP : va_P g.1 vwCl [(hζ, .inr (4, [.ref q_1, .ref q_2, .null, .int 0])), aI g q_1 410 (fun _ => 0), aI g q_2 50 (fun _ => 0)] H := hP
  have hD : va_D Z [(hζ, .inr (4, [.ref q_1, .ref q_2, .null, .int 0])), aI g q_1 410 (fun _ => 0), aI g q_2 50 (fun _ => 0)] := hD
  refine lv_aload_n hx hb dX4_init_21 rfl (lv_at hl 0 rfl) ?_
  refine lv_bipush (v := 10) hx hb dX4_init_22 (by decide) ?_
  refine r_newI (N' := 10) hx hb (hts (.arrayClass .int) (by decide +kernel)) hK hP hD hS hA (by decide) (nI_clamp (n := 10) (by decide)) (Nat.le_of_ble_eq_true rfl) (Nat.le_of_ble_eq_true rfl) (Nat.le_of_ble_eq_true rfl) dX4_init_24 (fun q_3 H hP hD hS => ?_)
  have hP : va_P g.1 vwCl [(hζ, .inr (4, [.ref q_1, .ref q_2, .null, .int 0])), aI g q_1 410 (fun _ => 0), aI g q_2 50 (fun _ => 0), aI g q_3 10 (fun _ => 0)] H := hP
  have hD : va_D Z [(hζ, .inr (4, [.ref q_1, .ref q_2, .null, .int 0])), aI g q_1 410 (fun _ => 0), aI g q_2 50 (fun _ => 0), aI g q_3 10 (fun _ => 0)] := hD
  refine W.widen (k := 3) (n := 470) (by decide) (by decide) ?_
  refine va_putF (D := g.1) (ci := 4) (v := .ref q_3) (ty := (.array .int)) (C := RX4) (T := TX4) (N := 4) hx hb hts hi4 tyX4 tyX4_ok nmX4 hown hK hP hD hS 0 rfl rfl 2 (by decide) (hts (.fieldLink RX4 18 "PanTales$Sayings" "left" "[I") (by decide +kernel)) (fun _ h9 => h9) rfl hnm rfl (by decide +kernel) rfl rfl (Nat.le_of_ble_eq_true rfl) dX4_init_26 (fun H locs hP hD hS => ?_)
  have hP : va_P g.1 vwCl [(hζ, .inr (4, [.ref q_1, .ref q_2, .ref q_3, .int 0])), aI g q_1 410 (fun _ => 0), aI g q_2 50 (fun _ => 0), aI g q_3 10 (fun _ => 0)] H := hP
  have hD : va_D Z [(hζ, .inr (4, [.ref q_1, .ref q_2, .ref q_3, .int 0])), aI g q_1 410 (fun _ => 0), aI g q_2 50 (fun _ => 0), aI g q_3 10 (fun _ => 0)] := hD
  exact r_vret hx hb hr hlk hS (mkA [q_1, q_2, q_3]) trivial (hP.sub [0, 1, 2, 3] rfl) (hD.sub [0, 1, 2, 3] (by decide) rfl) dX4_init_29
set_option maxHeartbeats 4000000 in
set_option maxRecDepth 100000 in
theorem c_X4_fadeAll (l : Launch) (g : GT) (sz : Nat) (hζ : Nat) (Gζ : Nat → Nat) (xζ : Int32) (fζ : Nat → Int32) (kζ : Nat) (Aζ : Nat → Nat) : Cv l yX4_fadeAll wsX4_fadeAll { frames := 2, cells := 0, slots := 0, locals := 41 } g sz [.ref hζ, .ref kζ] [(hζ, .inr (4, [.ref (Gζ 0), .ref (Gζ 1), .ref (Gζ 2), .int xζ])), aI g (Gζ 0) 410 fζ, (kζ, .inr (1, oC Aζ iC0)), aI g (Aζ 4) 10 (fun j => nI j)] [(hζ, .inr (4, [.ref (Gζ 0), .ref (Gζ 1), .ref (Gζ 2), .int xζ])), aI g (Gζ 0) 410 fdT, (kζ, .inr (1, oC Aζ iC0)), aI g (Aζ 4) 10 (fun j => nI j)] := by
  refine gMet_v (cc := cX4_fadeAll) (maxL := 5) (ret := none) (by decide) rfl (Nat.le_of_ble_eq_true rfl) ?_
  intro p e s m args below meth c Z hx hb hr F hlk hnm hK hN hA H locs hP hD hS ls hl
  have hl : lv_has ls 5 [(0, .ref hζ), (1, .ref kζ)] := hl
  have F : CallFix p m c cX4_fadeAll 5 s args wsX4_fadeAll RX4 := F
  have hts := F.2.2.2.2
  have hown : s.vm.findClass RX4 = some m.cls := F.2.2.2.1
  have hi4 : ∀ w ∈ u_ws RX4 TX4 4, w ∈ wsX4_fadeAll := by decide +kernel
  refine lv_iconst (v := 0) hx hb dX4_fadeAll_0 (by decide) ?_
  refine lv_istore_n (lv' := [(2, .int 0), (0, .ref hζ), (1, .ref kζ)]) hx hb dX4_fadeAll_1 rfl hl (by decide) rfl (fun ls hl => ?_)
  obtain ⟨hP, hD⟩ := r_extI hP hD 1 rfl (f' := fF fζ fdT (41 * 0)) fF_0
  have hP : va_P g.1 vwCl [(hζ, .inr (4, [.ref (Gζ 0), .ref (Gζ 1), .ref (Gζ 2), .int xζ])), aI g (Gζ 0) 410 (fF fζ fdT (41 * 0)), (kζ, .inr (1, oC Aζ iC0)), aI g (Aζ 4) 10 (fun j => nI j)] H := hP
  have hD : va_D Z [(hζ, .inr (4, [.ref (Gζ 0), .ref (Gζ 1), .ref (Gζ 2), .int xζ])), aI g (Gζ 0) 410 (fF fζ fdT (41 * 0)), (kζ, .inr (1, oC Aζ iC0)), aI g (Aζ 4) 10 (fun j => nI j)] := hD
  refine gloop (σ := Nat) (fun u0 => 10 - u0) (fun u0 => u0 ≤ 10) (fun u0 => [(hζ, .inr (4, [.ref (Gζ 0), .ref (Gζ 1), .ref (Gζ 2), .int xζ])), aI g (Gζ 0) 410 (fF fζ fdT (41 * u0)), (kζ, .inr (1, oC Aζ iC0)), aI g (Aζ 4) 10 (fun j => nI j)]) (fun u0 => [(2, .int (nI u0)), (0, .ref hζ), (1, .ref kζ)]) ?_ 0 (by first | omega | decide | rfl) (hP.sub [0, 1, 2, 3] rfl) (hD.sub [0, 1, 2, 3] (by decide) rfl) hS (lv_sub hl [0, 1, 2] rfl)
  rintro iζ hiζ ih2 H locs ls hP hD hS hl
  have hiζ : iζ ≤ 10 := hiζ
  have hP : va_P g.1 vwCl [(hζ, .inr (4, [.ref (Gζ 0), .ref (Gζ 1), .ref (Gζ 2), .int xζ])), aI g (Gζ 0) 410 (fF fζ fdT (41 * iζ)), (kζ, .inr (1, oC Aζ iC0)), aI g (Aζ 4) 10 (fun j => nI j)] H := hP
  have hD : va_D Z [(hζ, .inr (4, [.ref (Gζ 0), .ref (Gζ 1), .ref (Gζ 2), .int xζ])), aI g (Gζ 0) 410 (fF fζ fdT (41 * iζ)), (kζ, .inr (1, oC Aζ iC0)), aI g (Aζ 4) 10 (fun j => nI j)] := hD
  have hl : lv_has ls 5 [(2, .int (nI iζ)), (0, .ref hζ), (1, .ref kζ)] := hl
  refine lv_iload_n hx hb dX4_fadeAll_2 rfl (lv_at hl 0 rfl) ?_
  refine lv_bipush (v := 10) hx hb dX4_fadeAll_3 (by decide) ?_
  refine lv_icmp_ge (tgt := 51) hx hb dX4_fadeAll_5 (by decide) (fun c_1 => ?_) (fun c_1 => ?_)
  · have c_1 : 10 ≤ iζ := (nI_leI (a := 10) (b := iζ) (by omega) (by omega)).mp c_1
    obtain ⟨hP, hD⟩ := r_extI hP hD 1 rfl (f' := fdT) (by intro z hz; exact fF_n z (by omega))
    have hP : va_P g.1 vwCl [(hζ, .inr (4, [.ref (Gζ 0), .ref (Gζ 1), .ref (Gζ 2), .int xζ])), aI g (Gζ 0) 410 fdT, (kζ, .inr (1, oC Aζ iC0)), aI g (Aζ 4) 10 (fun j => nI j)] H := hP
    have hD : va_D Z [(hζ, .inr (4, [.ref (Gζ 0), .ref (Gζ 1), .ref (Gζ 2), .int xζ])), aI g (Gζ 0) 410 fdT, (kζ, .inr (1, oC Aζ iC0)), aI g (Aζ 4) 10 (fun j => nI j)] := hD
    exact r_vret hx hb hr hlk hS () trivial (hP.sub [0, 1, 2, 3] rfl) (hD.sub [0, 1, 2, 3] (by decide) rfl) dX4_fadeAll_51
  · have c_1 : ¬ 10 ≤ iζ := fun z => c_1 ((nI_leI (a := 10) (b := iζ) (by omega) (by omega)).mpr z)
    refine lv_iload_n hx hb dX4_fadeAll_8 rfl (lv_at hl 0 rfl) ?_
    refine lv_istore_n (lv' := [(3, .int (nI iζ)), (2, .int (nI iζ)), (0, .ref hζ), (1, .ref kζ)]) hx hb dX4_fadeAll_9 rfl hl (by decide) rfl (fun ls hl => ?_)
    refine lv_iconst (v := 0) hx hb dX4_fadeAll_10 (by decide) ?_
    refine lv_istore (lv' := [(4, .int 0), (3, .int (nI iζ)), (2, .int (nI iζ)), (0, .ref hζ), (1, .ref kζ)]) hx hb dX4_fadeAll_11 hl (by decide) rfl (fun ls hl => ?_)
    refine gloop (σ := Nat) (fun u0 => 41 - u0) (fun u0 => u0 ≤ 41) (fun u0 => [(hζ, .inr (4, [.ref (Gζ 0), .ref (Gζ 1), .ref (Gζ 2), .int xζ])), aI g (Gζ 0) 410 (fF fζ fdT (41 * iζ + u0)), (kζ, .inr (1, oC Aζ iC0)), aI g (Aζ 4) 10 (fun j => nI j)]) (fun u0 => [(4, .int (nI u0)), (3, .int (nI iζ)), (2, .int (nI iζ)), (0, .ref hζ), (1, .ref kζ)]) ?_ 0 (by first | omega | decide | rfl) (hP.sub [0, 1, 2, 3] rfl) (hD.sub [0, 1, 2, 3] (by decide) rfl) hS (lv_sub hl [0, 1, 2, 3, 4] rfl)
    rintro tζ htζ ih13 H locs ls hP hD hS hl
    have htζ : tζ ≤ 41 := htζ
    have hP : va_P g.1 vwCl [(hζ, .inr (4, [.ref (Gζ 0), .ref (Gζ 1), .ref (Gζ 2), .int xζ])), aI g (Gζ 0) 410 (fF fζ fdT (41 * iζ + tζ)), (kζ, .inr (1, oC Aζ iC0)), aI g (Aζ 4) 10 (fun j => nI j)] H := hP
    have hD : va_D Z [(hζ, .inr (4, [.ref (Gζ 0), .ref (Gζ 1), .ref (Gζ 2), .int xζ])), aI g (Gζ 0) 410 (fF fζ fdT (41 * iζ + tζ)), (kζ, .inr (1, oC Aζ iC0)), aI g (Aζ 4) 10 (fun j => nI j)] := hD
    have hl : lv_has ls 5 [(4, .int (nI tζ)), (3, .int (nI iζ)), (2, .int (nI iζ)), (0, .ref hζ), (1, .ref kζ)] := hl
    refine lv_iload hx hb dX4_fadeAll_13 (lv_at hl 0 rfl) ?_
    refine lv_bipush (v := 41) hx hb dX4_fadeAll_15 (by decide) ?_
    refine lv_icmp_ge (tgt := 45) hx hb dX4_fadeAll_17 (by decide) (fun c_2 => ?_) (fun c_2 => ?_)
    · have c_2 : 41 ≤ tζ := (nI_leI (a := 41) (b := tζ) (by omega) (by omega)).mp c_2
      obtain rfl : tζ = 41 := by omega
      skip
      refine lv_iinc (v := nI (iζ + 1)) (lv' := [(2, .int (nI (iζ + 1))), (4, .int (nI 41)), (3, .int (nI iζ)), (0, .ref hζ), (1, .ref kζ)]) hx hb dX4_fadeAll_45 hl (k := 2) rfl (nI_1 iζ) (by decide) rfl (fun ls hl => ?_)
      refine lv_goto (tgt := 2) hx hb dX4_fadeAll_48 (by decide) ?_
      exact ih2 (iζ + 1) (by first | omega | (dsimp only; omega)) (by first | omega | (dsimp only; omega)) _ _ _ (hP.sub [0, 1, 2, 3] rfl) (hD.sub [0, 1, 2, 3] (by decide) rfl) hS (lv_sub hl [0, 3, 4] rfl)
    · have c_2 : ¬ 41 ≤ tζ := fun z => c_2 ((nI_leI (a := 41) (b := tζ) (by omega) (by omega)).mpr z)
      refine lv_aload_n hx hb dX4_fadeAll_20 rfl (lv_at hl 3 rfl) ?_
      refine va_get (D := g.1) (ci := 4) (v := .ref (Gζ 0)) (C := RX4) (T := TX4) (N := 4) hx hb hts hi4 hown hK hP 0 rfl rfl 0 (by decide) (hts (.fieldLink RX4 9 "PanTales$Sayings" "faded" "[I") (by decide +kernel)) (fun _ h9 => h9) rfl dX4_fadeAll_21 ?_
      refine lv_iload_n hx hb dX4_fadeAll_24 rfl (lv_at hl 2 rfl) ?_
      refine lv_bipush (v := 41) hx hb dX4_fadeAll_25 (by decide) ?_
      refine lv_imul hx hb dX4_fadeAll_27 ?_
      refine gtop (y := nI (iζ * 41)) (pk_mul iζ 41) ?_
      refine lv_iload hx hb dX4_fadeAll_28 (lv_at hl 0 rfl) ?_
      refine lv_iadd hx hb dX4_fadeAll_30 ?_
      refine gtop (y := nI ((iζ * 41) + tζ)) (nI_add (iζ * 41) tζ) ?_
      refine lv_iload_n hx hb dX4_fadeAll_31 rfl (lv_at hl 1 rfl) ?_
      refine r_iast (f' := fF fζ fdT (41 * iζ + (tζ + 1))) hx hb hK hP hD hS 1 rfl (vp_in_nI (n := (iζ * 41) + tζ) (by omega) (by omega)) (fF_s ((nI_clamp (n := iζ * 41 + tζ) (by omega)).trans (by omega)) (fdT_v (by omega))) dX4_fadeAll_32 (fun H locs hP hD hS => ?_)
      have hP : va_P g.1 vwCl [(hζ, .inr (4, [.ref (Gζ 0), .ref (Gζ 1), .ref (Gζ 2), .int xζ])), aI g (Gζ 0) 410 (fF fζ fdT (41 * iζ + (tζ + 1))), (kζ, .inr (1, oC Aζ iC0)), aI g (Aζ 4) 10 (fun j => nI j)] H := hP
      have hD : va_D Z [(hζ, .inr (4, [.ref (Gζ 0), .ref (Gζ 1), .ref (Gζ 2), .int xζ])), aI g (Gζ 0) 410 (fF fζ fdT (41 * iζ + (tζ + 1))), (kζ, .inr (1, oC Aζ iC0)), aI g (Aζ 4) 10 (fun j => nI j)] := hD
      refine lv_aload_n hx hb dX4_fadeAll_33 rfl (lv_at hl 4 rfl) ?_
      refine lv_iload_n hx hb dX4_fadeAll_34 rfl (lv_at hl 1 rfl) ?_
      refine gcV_i (As := [.int (nI iζ)]) (rest := []) (ci := 1) (q := (RX1, TX1, 12)) F hK hN hP hD hS hA (c_X1_fadesInto l g H.size kζ Aζ iC0 (fun j => nI j) (nI iζ)) gX4_fadeAll_X1_fadesInto kX1_fadesInto rfl rfl rfl rfl ⟨(Nat.le_of_ble_eq_true rfl), (Nat.le_of_ble_eq_true rfl)⟩ [2, 3] [0, 1] rfl rfl rfl (by decide) rfl rfl rfl rfl rfl hl.1 (Nat.le_of_ble_eq_true rfl) dX4_fadeAll_35 ⟨(Nat.le_of_ble_eq_true rfl), (Nat.le_of_ble_eq_true rfl)⟩ (fun r_w u_w H locs hw hP hD hS => ?_)
      have hP : va_P g.1 vwCl [(hζ, .inr (4, [.ref (Gζ 0), .ref (Gζ 1), .ref (Gζ 2), .int xζ])), aI g (Gζ 0) 410 (fF fζ fdT (41 * iζ + (tζ + 1))), (kζ, .inr (1, oC Aζ iC0)), aI g (Aζ 4) 10 (fun j => nI j)] H := hP
      have hD : va_D Z [(hζ, .inr (4, [.ref (Gζ 0), .ref (Gζ 1), .ref (Gζ 2), .int xζ])), aI g (Gζ 0) 410 (fF fζ fdT (41 * iζ + (tζ + 1))), (kζ, .inr (1, oC Aζ iC0)), aI g (Aζ 4) 10 (fun j => nI j)] := hD
      obtain rfl := hw
      refine gtop (y := nI iζ) (fdF_nI (by omega)) ?_
      refine lv_istore_n (lv' := [(3, .int (nI iζ)), (4, .int (nI tζ)), (2, .int (nI iζ)), (0, .ref hζ), (1, .ref kζ)]) hx hb dX4_fadeAll_38 rfl hl (by decide) rfl (fun ls hl => ?_)
      refine lv_iinc (v := nI (tζ + 1)) (lv' := [(4, .int (nI (tζ + 1))), (3, .int (nI iζ)), (2, .int (nI iζ)), (0, .ref hζ), (1, .ref kζ)]) hx hb dX4_fadeAll_39 hl (k := 1) rfl (nI_1 tζ) (by decide) rfl (fun ls hl => ?_)
      refine lv_goto (tgt := 13) hx hb dX4_fadeAll_42 (by decide) ?_
      exact ih13 (tζ + 1) (by first | omega | (dsimp only; omega)) (by first | omega | (dsimp only; omega)) _ _ _ (hP.sub [0, 1, 2, 3] rfl) (hD.sub [0, 1, 2, 3] (by decide) rfl) hS (lv_sub hl [0, 1, 2, 3, 4] rfl)
set_option maxHeartbeats 4000000 in
set_option maxRecDepth 100000 in
theorem c_X4_isSo (l : Launch) (g : GT) (sz : Nat) (hζ : Nat) (Gζ : Nat → Nat) (zζ : Int32) (kζ : Nat) (Aζ : Nat → Nat) (xζ yζ : Int32) : Ci l yX4_isSo wsX4_isSo { frames := 1, cells := 0, slots := 0, locals := 20 } g sz [.ref hζ, .ref kζ, .int xζ, .int yζ] [(hζ, .inr (4, [.ref (Gζ 0), .ref (Gζ 1), .ref (Gζ 2), .int zζ])), (kζ, .inr (1, oC Aζ iC0))] 1 [(hζ, .inr (4, [.ref (Gζ 0), .ref (Gζ 1), .ref (Gζ 2), .int zζ])), (kζ, .inr (1, oC Aζ iC0))] := by
  refine gMet_i (cc := cX4_isSo) (maxL := 5) (ret := (some .boolean)) (by decide) rfl (Nat.le_of_ble_eq_true rfl) ?_
  intro p e s m args below meth c Z hx hb hr F hlk hnm hK hN hA H locs hP hD hS ls hl
  have hl : lv_has ls 5 [(0, .ref hζ), (1, .ref kζ), (2, .int xζ), (3, .int yζ)] := hl
  have F : CallFix p m c cX4_isSo 5 s args wsX4_isSo RX4 := F
  have hts := F.2.2.2.2
  have hown : s.vm.findClass RX4 = some m.cls := F.2.2.2.1
  refine lv_iconst (v := 0) hx hb dX4_isSo_0 (by decide) ?_
  refine lv_istore (lv' := [(4, .int 0), (0, .ref hζ), (1, .ref kζ), (2, .int xζ), (3, .int yζ)]) hx hb dX4_isSo_1 hl (by decide) rfl (fun ls hl => ?_)
  refine lv_iload hx hb dX4_isSo_3 (lv_at hl 0 rfl) ?_
  refine lv_aload_n hx hb dX4_isSo_5 rfl (lv_at hl 2 rfl) ?_
  refine gcV_i (As := []) (rest := [.int 0]) (ci := 1) (q := (RX1, TX1, 12)) F hK hN hP hD hS hA (c_X1_sightCount l g H.size kζ Aζ iC0) gX4_isSo_X1_sightCount kX1_sightCount rfl rfl rfl rfl ⟨(Nat.le_of_ble_eq_true rfl), (Nat.le_of_ble_eq_true rfl)⟩ [1] [0] rfl rfl rfl (by decide) rfl rfl rfl rfl rfl hl.1 (Nat.le_of_ble_eq_true rfl) dX4_isSo_6 ⟨(Nat.le_of_ble_eq_true rfl), (Nat.le_of_ble_eq_true rfl)⟩ (fun r_w u_w H locs hw hP hD hS => ?_)
  have hP : va_P g.1 vwCl [(hζ, .inr (4, [.ref (Gζ 0), .ref (Gζ 1), .ref (Gζ 2), .int zζ])), (kζ, .inr (1, oC Aζ iC0))] H := hP
  have hD : va_D Z [(hζ, .inr (4, [.ref (Gζ 0), .ref (Gζ 1), .ref (Gζ 2), .int zζ])), (kζ, .inr (1, oC Aζ iC0))] := hD
  obtain rfl := hw
  refine gtop (y := 0) rfl ?_
  refine lv_icmp_ge (tgt := 41) hx hb dX4_isSo_9 (by decide) (fun c_1 => ?_) (fun c_1 => ?_)
  · refine lv_iconst (v := 1) hx hb dX4_isSo_41 (by decide) ?_
    exact r_zret hx hb hr hlk hS () (by decide) rfl (hP.sub [0, 1] rfl) (hD.sub [0, 1] (by decide) rfl) dX4_isSo_42
  · exact absurd (by decide) c_1
set_option maxHeartbeats 4000000 in
set_option maxRecDepth 100000 in
theorem c_X4_gather (l : Launch) (g : GT) (sz : Nat) (hζ : Nat) (Gζ : Nat → Nat) (xζ : Int32) (fζ f2ζ : Nat → Int32) (kζ : Nat) (Aζ : Nat → Nat) : Cv l yX4_gather wsX4_gather { frames := 3, cells := 0, slots := 0, locals := 65 } g sz [.ref hζ, .ref kζ] [(hζ, .inr (4, [.ref (Gζ 0), .ref (Gζ 1), .ref (Gζ 2), .int xζ])), aI g (Gζ 0) 410 fζ, aI g (Gζ 1) 50 f2ζ, (kζ, .inr (1, oC Aζ iC0)), aI g (Aζ 4) 10 (fun j => nI j)] [(hζ, .inr (4, [.ref (Gζ 0), .ref (Gζ 1), .ref (Gζ 2), .int 50])), aI g (Gζ 0) 410 fdT, aI g (Gζ 1) 50 twF] := by
  refine gMet_v (cc := cX4_gather) (maxL := 4) (ret := none) (by decide) rfl (Nat.le_of_ble_eq_true rfl) ?_
  intro p e s m args below meth c Z hx hb hr F hlk hnm hK hN hA H locs hP hD hS ls hl
  have hl : lv_has ls 4 [(0, .ref hζ), (1, .ref kζ)] := hl
  have F : CallFix p m c cX4_gather 4 s args wsX4_gather RX4 := F
  have hts := F.2.2.2.2
  have hown : s.vm.findClass RX4 = some m.cls := F.2.2.2.1
  have hi4 : ∀ w ∈ u_ws RX4 TX4 4, w ∈ wsX4_gather := by decide +kernel
  refine lv_aload_n hx hb dX4_gather_0 rfl (lv_at hl 0 rfl) ?_
  refine lv_aload_n hx hb dX4_gather_1 rfl (lv_at hl 1 rfl) ?_
  refine gcV_v (As := [.ref kζ]) (rest := []) (ci := 4) (q := (RX4, TX4, 4)) F hK hN hP hD hS hA (c_X4_fadeAll l g H.size hζ Gζ xζ fζ kζ Aζ) gX4_gather_X4_fadeAll kX4_fadeAll rfl rfl rfl rfl ⟨(Nat.le_of_ble_eq_true rfl), (Nat.le_of_ble_eq_true rfl)⟩ [0, 1, 3, 4] [2] rfl rfl rfl (by decide) rfl rfl rfl rfl rfl hl.1 (Nat.le_of_ble_eq_true rfl) dX4_gather_2 ⟨(Nat.le_of_ble_eq_true rfl), (Nat.le_of_ble_eq_true rfl)⟩ (fun u_w H locs hw hP hD hS => ?_)
  have hP : va_P g.1 vwCl [aI g (Gζ 1) 50 f2ζ, (hζ, .inr (4, [.ref (Gζ 0), .ref (Gζ 1), .ref (Gζ 2), .int xζ])), aI g (Gζ 0) 410 fdT, (kζ, .inr (1, oC Aζ iC0)), aI g (Aζ 4) 10 (fun j => nI j)] H := hP
  have hD : va_D Z [aI g (Gζ 1) 50 f2ζ, (hζ, .inr (4, [.ref (Gζ 0), .ref (Gζ 1), .ref (Gζ 2), .int xζ])), aI g (Gζ 0) 410 fdT, (kζ, .inr (1, oC Aζ iC0)), aI g (Aζ 4) 10 (fun j => nI j)] := hD
  refine lv_aload_n hx hb dX4_gather_5 rfl (lv_at hl 0 rfl) ?_
  refine lv_iconst (v := 0) hx hb dX4_gather_6 (by decide) ?_
  refine va_put (D := g.1) (ci := 4) (v := .int 0) (ty := .int) (C := RX4) (T := TX4) (N := 4) hx hb hts hi4 tyX4 tyX4_ok nmX4 hown hK hP hD hS 1 rfl rfl 3 (by decide) (hts (.fieldLink RX4 25 "PanTales$Sayings" "count" "I") (by decide +kernel)) (fun _ h9 => h9) rfl (by decide +kernel) rfl rfl (Nat.le_of_ble_eq_true rfl) dX4_gather_7 (fun H locs hP hD hS => ?_)
  have hP : va_P g.1 vwCl [aI g (Gζ 1) 50 f2ζ, (hζ, .inr (4, [.ref (Gζ 0), .ref (Gζ 1), .ref (Gζ 2), .int 0])), aI g (Gζ 0) 410 fdT, (kζ, .inr (1, oC Aζ iC0)), aI g (Aζ 4) 10 (fun j => nI j)] H := hP
  have hD : va_D Z [aI g (Gζ 1) 50 f2ζ, (hζ, .inr (4, [.ref (Gζ 0), .ref (Gζ 1), .ref (Gζ 2), .int 0])), aI g (Gζ 0) 410 fdT, (kζ, .inr (1, oC Aζ iC0)), aI g (Aζ 4) 10 (fun j => nI j)] := hD
  refine lv_iconst (v := 0) hx hb dX4_gather_10 (by decide) ?_
  refine lv_istore_n (lv' := [(2, .int 0), (0, .ref hζ), (1, .ref kζ)]) hx hb dX4_gather_11 rfl hl (by decide) rfl (fun ls hl => ?_)
  obtain ⟨hP, hD⟩ := r_extI hP hD 0 rfl (f' := fF f2ζ twF 0) fF_0
  have hP : va_P g.1 vwCl [aI g (Gζ 1) 50 (fF f2ζ twF 0), (hζ, .inr (4, [.ref (Gζ 0), .ref (Gζ 1), .ref (Gζ 2), .int 0])), aI g (Gζ 0) 410 fdT, (kζ, .inr (1, oC Aζ iC0)), aI g (Aζ 4) 10 (fun j => nI j)] H := hP
  have hD : va_D Z [aI g (Gζ 1) 50 (fF f2ζ twF 0), (hζ, .inr (4, [.ref (Gζ 0), .ref (Gζ 1), .ref (Gζ 2), .int 0])), aI g (Gζ 0) 410 fdT, (kζ, .inr (1, oC Aζ iC0)), aI g (Aζ 4) 10 (fun j => nI j)] := hD
  refine gloop (σ := Nat × Nat) (fun u0 => 10 - u0.1) (fun u0 => u0.1 ≤ 10 ∧ u0.2 = 5 * u0.1) (fun u0 => [aI g (Gζ 1) 50 (fF f2ζ twF u0.2), (hζ, .inr (4, [.ref (Gζ 0), .ref (Gζ 1), .ref (Gζ 2), .int (nI u0.2)])), aI g (Gζ 0) 410 fdT, (kζ, .inr (1, oC Aζ iC0)), aI g (Aζ 4) 10 (fun j => nI j)]) (fun u0 => [(2, .int (nI u0.1)), (0, .ref hζ), (1, .ref kζ)]) ?_ (0, 0) ⟨(by first | omega | decide | rfl), (by first | omega | decide | rfl)⟩ (hP.sub [0, 1, 2, 3, 4] rfl) (hD.sub [0, 1, 2, 3, 4] (by decide) rfl) hS (lv_sub hl [0, 1, 2] rfl)
  rintro ⟨iζ, nζ⟩ ⟨hiζ, hnζ⟩ ih12 H locs ls hP hD hS hl
  have hiζ : iζ ≤ 10 := hiζ
  have hnζ : nζ = 5 * iζ := hnζ
  have hP : va_P g.1 vwCl [aI g (Gζ 1) 50 (fF f2ζ twF nζ), (hζ, .inr (4, [.ref (Gζ 0), .ref (Gζ 1), .ref (Gζ 2), .int (nI nζ)])), aI g (Gζ 0) 410 fdT, (kζ, .inr (1, oC Aζ iC0)), aI g (Aζ 4) 10 (fun j => nI j)] H := hP
  have hD : va_D Z [aI g (Gζ 1) 50 (fF f2ζ twF nζ), (hζ, .inr (4, [.ref (Gζ 0), .ref (Gζ 1), .ref (Gζ 2), .int (nI nζ)])), aI g (Gζ 0) 410 fdT, (kζ, .inr (1, oC Aζ iC0)), aI g (Aζ 4) 10 (fun j => nI j)] := hD
  have hl : lv_has ls 4 [(2, .int (nI iζ)), (0, .ref hζ), (1, .ref kζ)] := hl
  refine lv_iload_n hx hb dX4_gather_12 rfl (lv_at hl 0 rfl) ?_
  refine lv_bipush (v := 10) hx hb dX4_gather_13 (by decide) ?_
  refine lv_icmp_ge (tgt := 85) hx hb dX4_gather_15 (by decide) (fun c_1 => ?_) (fun c_1 => ?_)
  · have c_1 : 10 ≤ iζ := (nI_leI (a := 10) (b := iζ) (by omega) (by omega)).mp c_1
    obtain rfl : nζ = 50 := by omega
    skip
    obtain ⟨hP, hD⟩ := r_extI hP hD 0 rfl (f' := twF) (by intro z hz; exact fF_n z (by omega))
    have hP : va_P g.1 vwCl [aI g (Gζ 1) 50 twF, (hζ, .inr (4, [.ref (Gζ 0), .ref (Gζ 1), .ref (Gζ 2), .int (nI 50)])), aI g (Gζ 0) 410 fdT, (kζ, .inr (1, oC Aζ iC0)), aI g (Aζ 4) 10 (fun j => nI j)] H := hP
    have hD : va_D Z [aI g (Gζ 1) 50 twF, (hζ, .inr (4, [.ref (Gζ 0), .ref (Gζ 1), .ref (Gζ 2), .int (nI 50)])), aI g (Gζ 0) 410 fdT, (kζ, .inr (1, oC Aζ iC0)), aI g (Aζ 4) 10 (fun j => nI j)] := hD
    exact r_vret hx hb hr hlk hS () trivial (hP.sub [1, 2, 0] rfl) (hD.sub [1, 2, 0] (by decide) rfl) dX4_gather_85
  · have c_1 : ¬ 10 ≤ iζ := fun z => c_1 ((nI_leI (a := 10) (b := iζ) (by omega) (by omega)).mpr z)
    refine lv_iconst (v := 1) hx hb dX4_gather_18 (by decide) ?_
    refine lv_istore_n (lv' := [(3, .int 1), (2, .int (nI iζ)), (0, .ref hζ), (1, .ref kζ)]) hx hb dX4_gather_19 rfl hl (by decide) rfl (fun ls hl => ?_)
    refine gloop (σ := Nat × Nat) (fun u0 => 6 - u0.1) (fun u0 => 1 ≤ u0.1 ∧ u0.1 ≤ 6 ∧ u0.2 + 1 = 5 * iζ + u0.1) (fun u0 => [aI g (Gζ 1) 50 (fF f2ζ twF u0.2), (hζ, .inr (4, [.ref (Gζ 0), .ref (Gζ 1), .ref (Gζ 2), .int (nI u0.2)])), aI g (Gζ 0) 410 fdT, (kζ, .inr (1, oC Aζ iC0)), aI g (Aζ 4) 10 (fun j => nI j)]) (fun u0 => [(3, .int (nI u0.1)), (2, .int (nI iζ)), (0, .ref hζ), (1, .ref kζ)]) ?_ (1, nζ) ⟨(by first | omega | decide | rfl), (by first | omega | decide | rfl), (by first | omega | decide | rfl)⟩ (hP.sub [0, 1, 2, 3, 4] rfl) (hD.sub [0, 1, 2, 3, 4] (by decide) rfl) hS (lv_sub hl [0, 1, 2, 3] rfl)
    rintro ⟨tζ, nζ⟩ ⟨h1tζ, htζ, hnζ⟩ ih20 H locs ls hP hD hS hl
    have h1tζ : 1 ≤ tζ := h1tζ
    have htζ : tζ ≤ 6 := htζ
    have hnζ : nζ + 1 = 5 * iζ + tζ := hnζ
    have hP : va_P g.1 vwCl [aI g (Gζ 1) 50 (fF f2ζ twF nζ), (hζ, .inr (4, [.ref (Gζ 0), .ref (Gζ 1), .ref (Gζ 2), .int (nI nζ)])), aI g (Gζ 0) 410 fdT, (kζ, .inr (1, oC Aζ iC0)), aI g (Aζ 4) 10 (fun j => nI j)] H := hP
    have hD : va_D Z [aI g (Gζ 1) 50 (fF f2ζ twF nζ), (hζ, .inr (4, [.ref (Gζ 0), .ref (Gζ 1), .ref (Gζ 2), .int (nI nζ)])), aI g (Gζ 0) 410 fdT, (kζ, .inr (1, oC Aζ iC0)), aI g (Aζ 4) 10 (fun j => nI j)] := hD
    have hl : lv_has ls 4 [(3, .int (nI tζ)), (2, .int (nI iζ)), (0, .ref hζ), (1, .ref kζ)] := hl
    refine lv_iload_n hx hb dX4_gather_20 rfl (lv_at hl 0 rfl) ?_
    refine lv_iconst (v := 5) hx hb dX4_gather_21 (by decide) ?_
    refine lv_icmp_gt (tgt := 79) hx hb dX4_gather_22 (by decide) (fun c_2 => ?_) (fun c_2 => ?_)
    · have c_2 : 5 < tζ := (nI_ltI (a := 5) (b := tζ) (by omega) (by omega)).mp c_2
      refine lv_iinc (v := nI (iζ + 1)) (lv' := [(2, .int (nI (iζ + 1))), (3, .int (nI tζ)), (0, .ref hζ), (1, .ref kζ)]) hx hb dX4_gather_79 hl (k := 1) rfl (nI_1 iζ) (by decide) rfl (fun ls hl => ?_)
      refine lv_goto (tgt := 12) hx hb dX4_gather_82 (by decide) ?_
      exact ih12 (iζ + 1, nζ) ⟨(by first | omega | (dsimp only; omega)), (by first | omega | (dsimp only; omega))⟩ (by first | omega | (dsimp only; omega)) _ _ _ (hP.sub [0, 1, 2, 3, 4] rfl) (hD.sub [0, 1, 2, 3, 4] (by decide) rfl) hS (lv_sub hl [0, 2, 3] rfl)
    · have c_2 : ¬ 5 < tζ := fun z => c_2 ((nI_ltI (a := 5) (b := tζ) (by omega) (by omega)).mpr z)
      refine lv_aload_n hx hb dX4_gather_25 rfl (lv_at hl 2 rfl) ?_
      refine lv_aload_n hx hb dX4_gather_26 rfl (lv_at hl 3 rfl) ?_
      refine lv_iload_n hx hb dX4_gather_27 rfl (lv_at hl 1 rfl) ?_
      refine lv_iload_n hx hb dX4_gather_28 rfl (lv_at hl 0 rfl) ?_
      refine gcV_i (As := [.ref kζ, .int (nI iζ), .int (nI tζ)]) (rest := []) (ci := 4) (q := (RX4, TX4, 4)) F hK hN hP hD hS hA (c_X4_isSo l g H.size hζ Gζ (nI nζ) kζ Aζ (nI iζ) (nI tζ)) gX4_gather_X4_isSo kX4_isSo rfl rfl rfl rfl ⟨(Nat.le_of_ble_eq_true rfl), (Nat.le_of_ble_eq_true rfl)⟩ [1, 3] [0, 2, 4] rfl rfl rfl (by decide) rfl rfl rfl rfl rfl hl.1 (Nat.le_of_ble_eq_true rfl) dX4_gather_29 ⟨(Nat.le_of_ble_eq_true rfl), (Nat.le_of_ble_eq_true rfl)⟩ (fun r_w u_w H locs hw hP hD hS => ?_)
      have hP : va_P g.1 vwCl [aI g (Gζ 1) 50 (fF f2ζ twF nζ), aI g (Gζ 0) 410 fdT, aI g (Aζ 4) 10 (fun j => nI j), (hζ, .inr (4, [.ref (Gζ 0), .ref (Gζ 1), .ref (Gζ 2), .int (nI nζ)])), (kζ, .inr (1, oC Aζ iC0))] H := hP
      have hD : va_D Z [aI g (Gζ 1) 50 (fF f2ζ twF nζ), aI g (Gζ 0) 410 fdT, aI g (Aζ 4) 10 (fun j => nI j), (hζ, .inr (4, [.ref (Gζ 0), .ref (Gζ 1), .ref (Gζ 2), .int (nI nζ)])), (kζ, .inr (1, oC Aζ iC0))] := hD
      obtain rfl := hw
      refine lv_if_eq (tgt := 73) hx hb dX4_gather_32 (by decide) (fun c_3 => ?_) (fun c_3 => ?_)
      · exact absurd c_3 (by decide)
      · refine lv_aload_n hx hb dX4_gather_35 rfl (lv_at hl 2 rfl) ?_
        refine va_get (D := g.1) (ci := 4) (v := .int (nI nζ)) (C := RX4) (T := TX4) (N := 4) hx hb hts hi4 hown hK hP 3 rfl rfl 3 (by decide) (hts (.fieldLink RX4 25 "PanTales$Sayings" "count" "I") (by decide +kernel)) (fun _ h9 => h9) rfl dX4_gather_36 ?_
        refine lv_iconst (v := 0) hx hb dX4_gather_39 (by decide) ?_
        refine lv_bipush (v := 49) hx hb dX4_gather_40 (by decide) ?_
        refine gcPN (As := [.int (nI nζ), .int 0, .int 49]) (rest := []) F (c_X6_within l (nI nζ) 0 49) gX4_gather_X6_within_n33 kX6_within (hts (.initialized RX6) (by decide +kernel)) (hN.get 16 rfl) (hts (.static yX6_within) (by decide +kernel)) rfl rfl rfl ⟨(Nat.le_of_ble_eq_true rfl), (Nat.le_of_ble_eq_true rfl)⟩ rfl rfl hl.1 (Nat.le_of_ble_eq_true rfl) dX4_gather_42 ⟨(Nat.le_of_ble_eq_true rfl), (Nat.le_of_ble_eq_true rfl)⟩ ?_
        refine lv_if_eq (tgt := 73) hx hb dX4_gather_45 (by decide) (fun c_4 => ?_) (fun c_4 => ?_)
        · exact absurd (bI_0 c_4) (by rw [inB_nI (N := 50) (by decide) (by omega), decide_eq_true (show nζ < 50 by omega)]; decide)
        · have c_4 : inB (nI nζ) 0 49 = true := bI_1 c_4
          refine lv_aload_n hx hb dX4_gather_48 rfl (lv_at hl 2 rfl) ?_
          refine va_get (D := g.1) (ci := 4) (v := .ref (Gζ 1)) (C := RX4) (T := TX4) (N := 4) hx hb hts hi4 hown hK hP 3 rfl rfl 1 (by decide) (hts (.fieldLink RX4 15 "PanTales$Sayings" "twos" "[I") (by decide +kernel)) (fun _ h9 => h9) rfl dX4_gather_49 ?_
          refine lv_aload_n hx hb dX4_gather_52 rfl (lv_at hl 2 rfl) ?_
          refine va_get (D := g.1) (ci := 4) (v := .int (nI nζ)) (C := RX4) (T := TX4) (N := 4) hx hb hts hi4 hown hK hP 3 rfl rfl 3 (by decide) (hts (.fieldLink RX4 25 "PanTales$Sayings" "count" "I") (by decide +kernel)) (fun _ h9 => h9) rfl dX4_gather_53 ?_
          refine lv_bipush (v := 10) hx hb dX4_gather_56 (by decide) ?_
          refine lv_iload_n hx hb dX4_gather_58 rfl (lv_at hl 1 rfl) ?_
          refine lv_imul hx hb dX4_gather_59 ?_
          refine gtop (y := nI (10 * iζ)) (pk_mul 10 iζ) ?_
          refine lv_iload_n hx hb dX4_gather_60 rfl (lv_at hl 0 rfl) ?_
          refine lv_iadd hx hb dX4_gather_61 ?_
          refine gtop (y := nI ((10 * iζ) + tζ)) (nI_add (10 * iζ) tζ) ?_
          refine r_iast (f' := fF f2ζ twF (nζ + 1)) hx hb hK hP hD hS 0 rfl (vp_in_nI (n := nζ) (by omega) (by omega)) (fF_s (nI_clamp (n := nζ) (by omega)) (tw_v hnζ (by omega) (by omega))) dX4_gather_62 (fun H locs hP hD hS => ?_)
          have hP : va_P g.1 vwCl [aI g (Gζ 1) 50 (fF f2ζ twF (nζ + 1)), aI g (Gζ 0) 410 fdT, aI g (Aζ 4) 10 (fun j => nI j), (hζ, .inr (4, [.ref (Gζ 0), .ref (Gζ 1), .ref (Gζ 2), .int (nI nζ)])), (kζ, .inr (1, oC Aζ iC0))] H := hP
          have hD : va_D Z [aI g (Gζ 1) 50 (fF f2ζ twF (nζ + 1)), aI g (Gζ 0) 410 fdT, aI g (Aζ 4) 10 (fun j => nI j), (hζ, .inr (4, [.ref (Gζ 0), .ref (Gζ 1), .ref (Gζ 2), .int (nI nζ)])), (kζ, .inr (1, oC Aζ iC0))] := hD
          refine lv_aload_n hx hb dX4_gather_63 rfl (lv_at hl 2 rfl) ?_
          refine lv_dup hx hb dX4_gather_64 rfl ?_
          refine va_get (D := g.1) (ci := 4) (v := .int (nI nζ)) (C := RX4) (T := TX4) (N := 4) hx hb hts hi4 hown hK hP 3 rfl rfl 3 (by decide) (hts (.fieldLink RX4 25 "PanTales$Sayings" "count" "I") (by decide +kernel)) (fun _ h9 => h9) rfl dX4_gather_65 ?_
          refine lv_iconst (v := 1) hx hb dX4_gather_68 (by decide) ?_
          refine lv_iadd hx hb dX4_gather_69 ?_
          refine gtop (y := nI (nζ + 1)) (nI_add nζ 1) ?_
          refine va_put (D := g.1) (ci := 4) (v := .int (nI (nζ + 1))) (ty := .int) (C := RX4) (T := TX4) (N := 4) hx hb hts hi4 tyX4 tyX4_ok nmX4 hown hK hP hD hS 3 rfl rfl 3 (by decide) (hts (.fieldLink RX4 25 "PanTales$Sayings" "count" "I") (by decide +kernel)) (fun _ h9 => h9) rfl (by decide +kernel) rfl rfl (Nat.le_of_ble_eq_true rfl) dX4_gather_70 (fun H locs hP hD hS => ?_)
          have hP : va_P g.1 vwCl [aI g (Gζ 1) 50 (fF f2ζ twF (nζ + 1)), aI g (Gζ 0) 410 fdT, aI g (Aζ 4) 10 (fun j => nI j), (hζ, .inr (4, [.ref (Gζ 0), .ref (Gζ 1), .ref (Gζ 2), .int (nI (nζ + 1))])), (kζ, .inr (1, oC Aζ iC0))] H := hP
          have hD : va_D Z [aI g (Gζ 1) 50 (fF f2ζ twF (nζ + 1)), aI g (Gζ 0) 410 fdT, aI g (Aζ 4) 10 (fun j => nI j), (hζ, .inr (4, [.ref (Gζ 0), .ref (Gζ 1), .ref (Gζ 2), .int (nI (nζ + 1))])), (kζ, .inr (1, oC Aζ iC0))] := hD
          refine lv_iinc (v := nI (tζ + 1)) (lv' := [(3, .int (nI (tζ + 1))), (2, .int (nI iζ)), (0, .ref hζ), (1, .ref kζ)]) hx hb dX4_gather_73 hl (k := 0) rfl (nI_1 tζ) (by decide) rfl (fun ls hl => ?_)
          refine lv_goto (tgt := 20) hx hb dX4_gather_76 (by decide) ?_
          exact ih20 (tζ + 1, nζ + 1) ⟨(by first | omega | (dsimp only; omega)), (by first | omega | (dsimp only; omega)), (by first | omega | (dsimp only; omega))⟩ (by first | omega | (dsimp only; omega)) _ _ _ (hP.sub [0, 3, 1, 4, 2] rfl) (hD.sub [0, 3, 1, 4, 2] (by decide) rfl) hS (lv_sub hl [0, 1, 2, 3] rfl)
set_option maxHeartbeats 4000000 in
set_option maxRecDepth 100000 in
theorem c_X4_size (l : Launch) (g : GT) (sz : Nat) (hζ : Nat) (Gζ : Nat → Nat) (nζ : Int32) : Ci l yX4_size wsX4_size { frames := 0, cells := 0, slots := 0, locals := 0 } g sz [.ref hζ] [(hζ, .inr (4, [.ref (Gζ 0), .ref (Gζ 1), .ref (Gζ 2), .int nζ]))] nζ [(hζ, .inr (4, [.ref (Gζ 0), .ref (Gζ 1), .ref (Gζ 2), .int nζ]))] := by
  refine gMet_i (cc := cX4_size) (maxL := 1) (ret := (some .int)) (by decide) rfl (Nat.le_of_ble_eq_true rfl) ?_
  intro p e s m args below meth c Z hx hb hr F hlk hnm hK hN hA H locs hP hD hS ls hl
  have hl : lv_has ls 1 [(0, .ref hζ)] := hl
  have F : CallFix p m c cX4_size 1 s args wsX4_size RX4 := F
  have hts := F.2.2.2.2
  have hown : s.vm.findClass RX4 = some m.cls := F.2.2.2.1
  have hi4 : ∀ w ∈ u_ws RX4 TX4 4, w ∈ wsX4_size := by decide +kernel
  refine lv_aload_n hx hb dX4_size_0 rfl (lv_at hl 0 rfl) ?_
  refine va_get (D := g.1) (ci := 4) (v := .int nζ) (C := RX4) (T := TX4) (N := 4) hx hb hts hi4 hown hK hP 0 rfl rfl 3 (by decide) (hts (.fieldLink RX4 25 "PanTales$Sayings" "count" "I") (by decide +kernel)) (fun _ h9 => h9) rfl dX4_size_1 ?_
  exact r_iret hx hb hr hlk hS () rfl (hP.sub [0] rfl) (hD.sub [0] (by decide) rfl) dX4_size_4
set_option maxHeartbeats 4000000 in
set_option maxRecDepth 100000 in
theorem c_X4_pick (l : Launch) (g : GT) (sz : Nat) (hζ : Nat) (Gζ : Nat → Nat) (xζ : Int32) : Ci l yX4_pick wsX4_pick { frames := 1, cells := 0, slots := 0, locals := 22 } g sz [.ref hζ, .int xζ] [(hζ, .inr (4, [.ref (Gζ 0), .ref (Gζ 1), .ref (Gζ 2), .int 50])), aI g (Gζ 1) 50 twF] (pkF xζ) [(hζ, .inr (4, [.ref (Gζ 0), .ref (Gζ 1), .ref (Gζ 2), .int 50])), aI g (Gζ 1) 50 twF] := by
  refine gMet_i (cc := cX4_pick) (maxL := 2) (ret := (some .int)) (by decide) rfl (Nat.le_of_ble_eq_true rfl) ?_
  intro p e s m args below meth c Z hx hb hr F hlk hnm hK hN hA H locs hP hD hS ls hl
  have hl : lv_has ls 2 [(0, .ref hζ), (1, .int xζ)] := hl
  have F : CallFix p m c cX4_pick 2 s args wsX4_pick RX4 := F
  have hts := F.2.2.2.2
  have hown : s.vm.findClass RX4 = some m.cls := F.2.2.2.1
  have hi4 : ∀ w ∈ u_ws RX4 TX4 4, w ∈ wsX4_pick := by decide +kernel
  refine lv_iload_n hx hb dX4_pick_0 rfl (lv_at hl 1 rfl) ?_
  refine lv_iconst (v := 0) hx hb dX4_pick_1 (by decide) ?_
  refine lv_bipush (v := 49) hx hb dX4_pick_2 (by decide) ?_
  refine gcPN (As := [.int xζ, .int 0, .int 49]) (rest := []) F (c_X6_within l xζ 0 49) gX4_pick_X6_within_n33 kX6_within (hts (.initialized RX6) (by decide +kernel)) (hN.get 16 rfl) (hts (.static yX6_within) (by decide +kernel)) rfl rfl rfl ⟨(Nat.le_of_ble_eq_true rfl), (Nat.le_of_ble_eq_true rfl)⟩ rfl rfl hl.1 (Nat.le_of_ble_eq_true rfl) dX4_pick_4 ⟨(Nat.le_of_ble_eq_true rfl), (Nat.le_of_ble_eq_true rfl)⟩ ?_
  refine lv_if_eq (tgt := 27) hx hb dX4_pick_7 (by decide) (fun c_1 => ?_) (fun c_1 => ?_)
  · have c_1 : inB xζ 0 49 = false := bI_0 c_1
    refine lv_bipush (v := (-6)) hx hb dX4_pick_27 (by decide) ?_
    exact r_iret hx hb hr hlk hS () (by unfold pkF; rw [if_neg (by rw [c_1]; decide)]) (hP.sub [0, 1] rfl) (hD.sub [0, 1] (by decide) rfl) dX4_pick_29
  · have c_1 : inB xζ 0 49 = true := bI_1 c_1
    refine lv_iload_n hx hb dX4_pick_10 rfl (lv_at hl 1 rfl) ?_
    refine lv_aload_n hx hb dX4_pick_11 rfl (lv_at hl 0 rfl) ?_
    refine va_get (D := g.1) (ci := 4) (v := .int 50) (C := RX4) (T := TX4) (N := 4) hx hb hts hi4 hown hK hP 0 rfl rfl 3 (by decide) (hts (.fieldLink RX4 25 "PanTales$Sayings" "count" "I") (by decide +kernel)) (fun _ h9 => h9) rfl dX4_pick_12 ?_
    refine lv_icmp_ge (tgt := 27) hx hb dX4_pick_15 (by decide) (fun c_2 => ?_) (fun c_2 => ?_)
    · exact absurd c_2 (Int32.not_le.mpr (by obtain ⟨j, hj, rfl⟩ := inB_nat (N := 50) (by decide) c_1; exact (nI_ltI (a := j) (b := 50) (by omega) (by omega)).mpr hj))
    · refine lv_aload_n hx hb dX4_pick_18 rfl (lv_at hl 0 rfl) ?_
      refine va_get (D := g.1) (ci := 4) (v := .ref (Gζ 1)) (C := RX4) (T := TX4) (N := 4) hx hb hts hi4 hown hK hP 0 rfl rfl 1 (by decide) (hts (.fieldLink RX4 15 "PanTales$Sayings" "twos" "[I") (by decide +kernel)) (fun _ h9 => h9) rfl dX4_pick_19 ?_
      refine lv_iload_n hx hb dX4_pick_22 rfl (lv_at hl 1 rfl) ?_
      refine r_iald (v := twF xζ.toNatClampNeg) hx hb hK hP 1 rfl (by obtain ⟨j, hj, rfl⟩ := inB_nat (N := 50) (by decide) c_1; exact vp_in_nI hj (by omega)) rfl dX4_pick_23 ?_
      refine lv_goto (tgt := 29) hx hb dX4_pick_24 (by decide) ?_
      exact r_iret hx hb hr hlk hS () (by unfold pkF; rw [if_pos c_1]) (hP.sub [0, 1] rfl) (hD.sub [0, 1] (by decide) rfl) dX4_pick_29
set_option maxHeartbeats 4000000 in
set_option maxRecDepth 100000 in
theorem c_X4_taleInBed (l : Launch) (g : GT) (sz : Nat) (hζ : Nat) (Gζ : Nat → Nat) (zζ : Int32) (tζ nζ bζ : Nat) (htζ : tζ < 10) (hnζ : 1 ≤ nζ) (hn5ζ : nζ ≤ 5) (hb4ζ : bζ < 41) : Ci l yX4_taleInBed wsX4_taleInBed { frames := 1, cells := 0, slots := 0, locals := 22 } g sz [.ref hζ, .int (nI tζ), .int (nI nζ), .int (nI bζ)] [(hζ, .inr (4, [.ref (Gζ 0), .ref (Gζ 1), .ref (Gζ 2), .int zζ])), aI g (Gζ 0) 410 fdT] (nI tζ) [(hζ, .inr (4, [.ref (Gζ 0), .ref (Gζ 1), .ref (Gζ 2), .int zζ])), aI g (Gζ 0) 410 fdT] := by
  refine gMet_i (cc := cX4_taleInBed) (maxL := 5) (ret := (some .int)) (by decide) rfl (Nat.le_of_ble_eq_true rfl) ?_
  intro p e s m args below meth c Z hx hb hr F hlk hnm hK hN hA H locs hP hD hS ls hl
  have hl : lv_has ls 5 [(0, .ref hζ), (1, .int (nI tζ)), (2, .int (nI nζ)), (3, .int (nI bζ))] := hl
  have F : CallFix p m c cX4_taleInBed 5 s args wsX4_taleInBed RX4 := F
  have hts := F.2.2.2.2
  have hown : s.vm.findClass RX4 = some m.cls := F.2.2.2.1
  have hi4 : ∀ w ∈ u_ws RX4 TX4 4, w ∈ wsX4_taleInBed := by decide +kernel
  have hbn : bζ / nζ ≤ bζ := Nat.div_le_self bζ nζ
  refine lv_iload_n hx hb dX4_taleInBed_0 rfl (lv_at hl 1 rfl) ?_
  refine gcPN (As := [.int (nI tζ)]) (rest := []) F (c_X6_isTale l (nI tζ)) gX4_taleInBed_X6_isTale_n57 kX6_isTale (hts (.initialized RX6) (by decide +kernel)) (hN.get 15 rfl) (hts (.static yX6_isTale) (by decide +kernel)) rfl rfl rfl ⟨(Nat.le_of_ble_eq_true rfl), (Nat.le_of_ble_eq_true rfl)⟩ rfl rfl hl.1 (Nat.le_of_ble_eq_true rfl) dX4_taleInBed_1 ⟨(Nat.le_of_ble_eq_true rfl), (Nat.le_of_ble_eq_true rfl)⟩ ?_
  refine lv_if_eq (tgt := 25) hx hb dX4_taleInBed_4 (by decide) (fun c_1 => ?_) (fun c_1 => ?_)
  · exact absurd (bI_0 c_1) (by rw [nI_nB htζ]; decide)
  · have c_1 : inB (nI tζ) 0 9 = true := bI_1 c_1
    refine lv_iload_n hx hb dX4_taleInBed_7 rfl (lv_at hl 2 rfl) ?_
    refine lv_if_le (tgt := 25) hx hb dX4_taleInBed_8 (by decide) (fun c_2 => ?_) (fun c_2 => ?_)
    · exact absurd ((nI_leI (a := nζ) (b := 0) (by omega) (by omega)).mp c_2) (by omega)
    · have c_2 : ¬ nζ ≤ 0 := fun zζ => c_2 ((nI_leI (a := nζ) (b := 0) (by omega) (by omega)).mpr zζ)
      refine lv_iload_n hx hb dX4_taleInBed_11 rfl (lv_at hl 3 rfl) ?_
      refine lv_iconst (v := 0) hx hb dX4_taleInBed_12 (by decide) ?_
      refine lv_bipush (v := 40) hx hb dX4_taleInBed_13 (by decide) ?_
      refine gcPN (As := [.int (nI bζ), .int 0, .int 40]) (rest := []) F (c_X6_within l (nI bζ) 0 40) gX4_taleInBed_X6_within_n33 kX6_within (hts (.initialized RX6) (by decide +kernel)) (hN.get 16 rfl) (hts (.static yX6_within) (by decide +kernel)) rfl rfl rfl ⟨(Nat.le_of_ble_eq_true rfl), (Nat.le_of_ble_eq_true rfl)⟩ rfl rfl hl.1 (Nat.le_of_ble_eq_true rfl) dX4_taleInBed_15 ⟨(Nat.le_of_ble_eq_true rfl), (Nat.le_of_ble_eq_true rfl)⟩ ?_
      refine lv_if_eq (tgt := 25) hx hb dX4_taleInBed_18 (by decide) (fun c_3 => ?_) (fun c_3 => ?_)
      · exact absurd (bI_0 c_3) (by rw [inB_nI (N := 41) (by decide) (by omega), decide_eq_true hb4ζ]; decide)
      · have c_3 : inB (nI bζ) 0 40 = true := bI_1 c_3
        refine lv_iconst (v := 1) hx hb dX4_taleInBed_21 (by decide) ?_
        refine lv_goto (tgt := 26) hx hb dX4_taleInBed_22 (by decide) ?_
        refine lv_istore (lv' := [(4, .int 1), (0, .ref hζ), (1, .int (nI tζ)), (2, .int (nI nζ)), (3, .int (nI bζ))]) hx hb dX4_taleInBed_26 hl (by decide) rfl (fun ls hl => ?_)
        refine lv_iload hx hb dX4_taleInBed_28 (lv_at hl 0 rfl) ?_
        refine lv_if_eq (tgt := 49) hx hb dX4_taleInBed_30 (by decide) (fun c_4 => ?_) (fun c_4 => ?_)
        · exact absurd c_4 (by decide)
        · refine lv_aload_n hx hb dX4_taleInBed_33 rfl (lv_at hl 1 rfl) ?_
          refine va_get (D := g.1) (ci := 4) (v := .ref (Gζ 0)) (C := RX4) (T := TX4) (N := 4) hx hb hts hi4 hown hK hP 0 rfl rfl 0 (by decide) (hts (.fieldLink RX4 9 "PanTales$Sayings" "faded" "[I") (by decide +kernel)) (fun _ h9 => h9) rfl dX4_taleInBed_34 ?_
          refine lv_iload_n hx hb dX4_taleInBed_37 rfl (lv_at hl 2 rfl) ?_
          refine lv_bipush (v := 41) hx hb dX4_taleInBed_38 (by decide) ?_
          refine lv_imul hx hb dX4_taleInBed_40 ?_
          refine gtop (y := nI (tζ * 41)) (pk_mul tζ 41) ?_
          refine lv_iload_n hx hb dX4_taleInBed_41 rfl (lv_at hl 4 rfl) ?_
          refine lv_iload_n hx hb dX4_taleInBed_42 rfl (lv_at hl 3 rfl) ?_
          refine lv_idiv hx hb dX4_taleInBed_43 (nI_ne0 (by omega) (by omega)) ?_
          refine gtop (y := nI (bζ / nζ)) (pk_div (a := bζ) (d := nζ) (by omega) (by omega) (by omega)) ?_
          refine lv_iadd hx hb dX4_taleInBed_44 ?_
          refine gtop (y := nI ((tζ * 41) + (bζ / nζ))) (nI_add (tζ * 41) (bζ / nζ)) ?_
          refine r_iald (v := nI tζ) hx hb hK hP 1 rfl (vp_in_nI (n := (tζ * 41) + (bζ / nζ)) (by omega) (by omega)) (tb_v (by omega) htζ) dX4_taleInBed_45 ?_
          refine lv_goto (tgt := 51) hx hb dX4_taleInBed_46 (by decide) ?_
          exact r_iret hx hb hr hlk hS () rfl (hP.sub [0, 1] rfl) (hD.sub [0, 1] (by decide) rfl) dX4_taleInBed_51
set_option maxHeartbeats 4000000 in
set_option maxRecDepth 100000 in
theorem c_X4_mostLeft (l : Launch) (g : GT) (sz : Nat) (hζ : Nat) (Gζ : Nat → Nat) (fζ : Nat → Int32) (bζ : Nat) (hb4ζ : bζ < 41) : Ci l yX4_mostLeft wsX4_mostLeft { frames := 2, cells := 0, slots := 0, locals := 46 } g sz [.ref hζ, .int (nI bζ)] [(hζ, .inr (4, [.ref (Gζ 0), .ref (Gζ 1), .ref (Gζ 2), .int 50])), aI g (Gζ 0) 410 fdT, aI g (Gζ 1) 50 twF, aI g (Gζ 2) 10 fζ] 5 [(hζ, .inr (4, [.ref (Gζ 0), .ref (Gζ 1), .ref (Gζ 2), .int 50])), aI g (Gζ 0) 410 fdT, aI g (Gζ 1) 50 twF, aI g (Gζ 2) 10 (lfF 50)] := by
  refine gMet_i (cc := cX4_mostLeft) (maxL := 6) (ret := (some .int)) (by decide) rfl (Nat.le_of_ble_eq_true rfl) ?_
  intro p e s m args below meth c Z hx hb hr F hlk hnm hK hN hA H locs hP hD hS ls hl
  have hl : lv_has ls 6 [(0, .ref hζ), (1, .int (nI bζ))] := hl
  have F : CallFix p m c cX4_mostLeft 6 s args wsX4_mostLeft RX4 := F
  have hts := F.2.2.2.2
  have hown : s.vm.findClass RX4 = some m.cls := F.2.2.2.1
  have hi4 : ∀ w ∈ u_ws RX4 TX4 4, w ∈ wsX4_mostLeft := by decide +kernel
  refine lv_aload_n hx hb dX4_mostLeft_0 rfl (lv_at hl 0 rfl) ?_
  refine va_get (D := g.1) (ci := 4) (v := .ref (Gζ 2)) (C := RX4) (T := TX4) (N := 4) hx hb hts hi4 hown hK hP 0 rfl rfl 2 (by decide) (hts (.fieldLink RX4 18 "PanTales$Sayings" "left" "[I") (by decide +kernel)) (fun _ h9 => h9) rfl dX4_mostLeft_1 ?_
  refine lv_iconst (v := 0) hx hb dX4_mostLeft_4 (by decide) ?_
  refine gcS_v (As := [.ref (Gζ 2), .int 0]) (rest := []) F hK hN hP hD hS hA (c_J7_fill_53178 l g H.size (Gζ 2) 10 fζ 0 (by decide)) gX4_mostLeft_J7_fill_53178 kJ7_fill_53178 rfl rfl rfl ⟨(Nat.le_of_ble_eq_true rfl), (Nat.le_of_ble_eq_true rfl)⟩ [3] [0, 1, 2] rfl rfl rfl (by decide) rfl rfl rfl hl.1 (Nat.le_of_ble_eq_true rfl) dX4_mostLeft_5 ⟨(Nat.le_of_ble_eq_true rfl), (Nat.le_of_ble_eq_true rfl)⟩ (fun u_w H locs hw hP hD hS => ?_)
  have hP : va_P g.1 vwCl [(hζ, .inr (4, [.ref (Gζ 0), .ref (Gζ 1), .ref (Gζ 2), .int 50])), aI g (Gζ 0) 410 fdT, aI g (Gζ 1) 50 twF, aI g (Gζ 2) 10 (fun _ => 0)] H := hP
  have hD : va_D Z [(hζ, .inr (4, [.ref (Gζ 0), .ref (Gζ 1), .ref (Gζ 2), .int 50])), aI g (Gζ 0) 410 fdT, aI g (Gζ 1) 50 twF, aI g (Gζ 2) 10 (fun _ => 0)] := hD
  refine lv_iconst (v := 0) hx hb dX4_mostLeft_8 (by decide) ?_
  refine lv_istore_n (lv' := [(2, .int 0), (0, .ref hζ), (1, .int (nI bζ))]) hx hb dX4_mostLeft_9 rfl hl (by decide) rfl (fun ls hl => ?_)
  refine lv_iconst (v := 0) hx hb dX4_mostLeft_10 (by decide) ?_
  refine lv_istore_n (lv' := [(3, .int 0), (2, .int 0), (0, .ref hζ), (1, .int (nI bζ))]) hx hb dX4_mostLeft_11 rfl hl (by decide) rfl (fun ls hl => ?_)
  obtain ⟨hP, hD⟩ := r_extI hP hD 3 rfl (f' := lfF 0) lf_0
  have hP : va_P g.1 vwCl [(hζ, .inr (4, [.ref (Gζ 0), .ref (Gζ 1), .ref (Gζ 2), .int 50])), aI g (Gζ 0) 410 fdT, aI g (Gζ 1) 50 twF, aI g (Gζ 2) 10 (lfF 0)] H := hP
  have hD : va_D Z [(hζ, .inr (4, [.ref (Gζ 0), .ref (Gζ 1), .ref (Gζ 2), .int 50])), aI g (Gζ 0) 410 fdT, aI g (Gζ 1) 50 twF, aI g (Gζ 2) 10 (lfF 0)] := hD
  refine gloop (σ := Nat) (fun u0 => 50 - u0) (fun u0 => u0 ≤ 50) (fun u0 => [(hζ, .inr (4, [.ref (Gζ 0), .ref (Gζ 1), .ref (Gζ 2), .int 50])), aI g (Gζ 0) 410 fdT, aI g (Gζ 1) 50 twF, aI g (Gζ 2) 10 (lfF u0)]) (fun u0 => [(3, .int (nI u0)), (2, .int (nI (msF u0))), (0, .ref hζ), (1, .int (nI bζ))]) ?_ 0 (by first | omega | decide | rfl) (hP.sub [0, 1, 2, 3] rfl) (hD.sub [0, 1, 2, 3] (by decide) rfl) hS (lv_sub hl [0, 1, 2, 3] rfl)
  rintro iζ hiζ ih12 H locs ls hP hD hS hl
  have hiζ : iζ ≤ 50 := hiζ
  have hP : va_P g.1 vwCl [(hζ, .inr (4, [.ref (Gζ 0), .ref (Gζ 1), .ref (Gζ 2), .int 50])), aI g (Gζ 0) 410 fdT, aI g (Gζ 1) 50 twF, aI g (Gζ 2) 10 (lfF iζ)] H := hP
  have hD : va_D Z [(hζ, .inr (4, [.ref (Gζ 0), .ref (Gζ 1), .ref (Gζ 2), .int 50])), aI g (Gζ 0) 410 fdT, aI g (Gζ 1) 50 twF, aI g (Gζ 2) 10 (lfF iζ)] := hD
  have hl : lv_has ls 6 [(3, .int (nI iζ)), (2, .int (nI (msF iζ))), (0, .ref hζ), (1, .int (nI bζ))] := hl
  refine lv_iload_n hx hb dX4_mostLeft_12 rfl (lv_at hl 0 rfl) ?_
  refine lv_aload_n hx hb dX4_mostLeft_13 rfl (lv_at hl 2 rfl) ?_
  refine va_get (D := g.1) (ci := 4) (v := .int 50) (C := RX4) (T := TX4) (N := 4) hx hb hts hi4 hown hK hP 0 rfl rfl 3 (by decide) (hts (.fieldLink RX4 25 "PanTales$Sayings" "count" "I") (by decide +kernel)) (fun _ h9 => h9) rfl dX4_mostLeft_14 ?_
  refine lv_icmp_ge (tgt := 81) hx hb dX4_mostLeft_17 (by decide) (fun c_1 => ?_) (fun c_1 => ?_)
  · have c_1 : 50 ≤ iζ := (nI_leI (a := 50) (b := iζ) (by omega) (by omega)).mp c_1
    obtain rfl : iζ = 50 := by omega
    skip
    refine lv_iload_n hx hb dX4_mostLeft_81 rfl (lv_at hl 1 rfl) ?_
    exact r_iret hx hb hr hlk hS () rfl (hP.sub [0, 1, 2, 3] rfl) (hD.sub [0, 1, 2, 3] (by decide) rfl) dX4_mostLeft_82
  · have c_1 : ¬ 50 ≤ iζ := fun z => c_1 ((nI_leI (a := 50) (b := iζ) (by omega) (by omega)).mpr z)
    refine lv_aload_n hx hb dX4_mostLeft_20 rfl (lv_at hl 2 rfl) ?_
    refine lv_iload_n hx hb dX4_mostLeft_21 rfl (lv_at hl 0 rfl) ?_
    refine gcV_i (As := [.int (nI iζ)]) (rest := []) (ci := 4) (q := (RX4, TX4, 4)) F hK hN hP hD hS hA (c_X4_pick l g H.size hζ Gζ (nI iζ)) gX4_mostLeft_X4_pick kX4_pick rfl rfl rfl rfl ⟨(Nat.le_of_ble_eq_true rfl), (Nat.le_of_ble_eq_true rfl)⟩ [0, 2] [1, 3] rfl rfl rfl (by decide) rfl rfl rfl rfl rfl hl.1 (Nat.le_of_ble_eq_true rfl) dX4_mostLeft_22 ⟨(Nat.le_of_ble_eq_true rfl), (Nat.le_of_ble_eq_true rfl)⟩ (fun r_w u_w H locs hw hP hD hS => ?_)
    have hP : va_P g.1 vwCl [aI g (Gζ 0) 410 fdT, aI g (Gζ 2) 10 (lfF iζ), (hζ, .inr (4, [.ref (Gζ 0), .ref (Gζ 1), .ref (Gζ 2), .int 50])), aI g (Gζ 1) 50 twF] H := hP
    have hD : va_D Z [aI g (Gζ 0) 410 fdT, aI g (Gζ 2) 10 (lfF iζ), (hζ, .inr (4, [.ref (Gζ 0), .ref (Gζ 1), .ref (Gζ 2), .int 50])), aI g (Gζ 1) 50 twF] := hD
    obtain rfl := hw
    refine gtop (y := nI (10 * (iζ / 5) + iζ % 5 + 1)) (pkF_nI (by omega)) ?_
    refine lv_istore (lv' := [(4, .int (nI (10 * (iζ / 5) + iζ % 5 + 1))), (3, .int (nI iζ)), (2, .int (nI (msF iζ))), (0, .ref hζ), (1, .int (nI bζ))]) hx hb dX4_mostLeft_25 hl (by decide) rfl (fun ls hl => ?_)
    refine lv_aload_n hx hb dX4_mostLeft_27 rfl (lv_at hl 3 rfl) ?_
    refine lv_iload hx hb dX4_mostLeft_28 (lv_at hl 0 rfl) ?_
    refine lv_bipush (v := 10) hx hb dX4_mostLeft_30 (by decide) ?_
    refine lv_idiv hx hb dX4_mostLeft_32 (by decide) ?_
    refine gtop (y := nI (iζ / 5)) ((pk_div (a := 10 * (iζ / 5) + iζ % 5 + 1) (d := 10) (by omega) (by omega) (by omega)).trans (congrArg nI (by omega))) ?_
    refine lv_iload hx hb dX4_mostLeft_33 (lv_at hl 0 rfl) ?_
    refine lv_bipush (v := 10) hx hb dX4_mostLeft_35 (by decide) ?_
    refine lv_irem hx hb dX4_mostLeft_37 (by decide) ?_
    refine gtop (y := nI (iζ % 5 + 1)) ((pk_rem (a := 10 * (iζ / 5) + iζ % 5 + 1) (d := 10) (by omega) (by omega) (by omega)).trans (congrArg nI (by omega))) ?_
    refine lv_iload_n hx hb dX4_mostLeft_38 rfl (lv_at hl 4 rfl) ?_
    refine gcV_i (As := [.int (nI (iζ / 5)), .int (nI (iζ % 5 + 1)), .int (nI bζ)]) (rest := []) (ci := 4) (q := (RX4, TX4, 4)) F hK hN hP hD hS hA (c_X4_taleInBed l g H.size hζ Gζ 50 (iζ / 5) (iζ % 5 + 1) bζ (by omega) (by omega) (by omega) (by omega)) gX4_mostLeft_X4_taleInBed kX4_taleInBed rfl rfl rfl rfl ⟨(Nat.le_of_ble_eq_true rfl), (Nat.le_of_ble_eq_true rfl)⟩ [2, 0] [1, 3] rfl rfl rfl (by decide) rfl rfl rfl rfl rfl hl.1 (Nat.le_of_ble_eq_true rfl) dX4_mostLeft_39 ⟨(Nat.le_of_ble_eq_true rfl), (Nat.le_of_ble_eq_true rfl)⟩ (fun r_w u_w H locs hw hP hD hS => ?_)
    have hP : va_P g.1 vwCl [aI g (Gζ 2) 10 (lfF iζ), aI g (Gζ 1) 50 twF, (hζ, .inr (4, [.ref (Gζ 0), .ref (Gζ 1), .ref (Gζ 2), .int 50])), aI g (Gζ 0) 410 fdT] H := hP
    have hD : va_D Z [aI g (Gζ 2) 10 (lfF iζ), aI g (Gζ 1) 50 twF, (hζ, .inr (4, [.ref (Gζ 0), .ref (Gζ 1), .ref (Gζ 2), .int 50])), aI g (Gζ 0) 410 fdT] := hD
    obtain rfl := hw
    refine lv_istore (lv' := [(5, .int (nI (iζ / 5))), (4, .int (nI (10 * (iζ / 5) + iζ % 5 + 1))), (3, .int (nI iζ)), (2, .int (nI (msF iζ))), (0, .ref hζ), (1, .int (nI bζ))]) hx hb dX4_mostLeft_42 hl (by decide) rfl (fun ls hl => ?_)
    refine lv_iload hx hb dX4_mostLeft_44 (lv_at hl 0 rfl) ?_
    refine gcPN (As := [.int (nI (iζ / 5))]) (rest := []) F (c_X6_isTale l (nI (iζ / 5))) gX4_mostLeft_X6_isTale_n57 kX6_isTale (hts (.initialized RX6) (by decide +kernel)) (hN.get 15 rfl) (hts (.static yX6_isTale) (by decide +kernel)) rfl rfl rfl ⟨(Nat.le_of_ble_eq_true rfl), (Nat.le_of_ble_eq_true rfl)⟩ rfl rfl hl.1 (Nat.le_of_ble_eq_true rfl) dX4_mostLeft_46 ⟨(Nat.le_of_ble_eq_true rfl), (Nat.le_of_ble_eq_true rfl)⟩ ?_
    refine lv_if_eq (tgt := 75) hx hb dX4_mostLeft_49 (by decide) (fun c_2 => ?_) (fun c_2 => ?_)
    · exact absurd (bI_0 c_2) (by rw [nI_nB (show iζ / 5 < 10 by omega)]; decide)
    · have c_2 : inB (nI (iζ / 5)) 0 9 = true := bI_1 c_2
      refine lv_aload_n hx hb dX4_mostLeft_52 rfl (lv_at hl 4 rfl) ?_
      refine va_get (D := g.1) (ci := 4) (v := .ref (Gζ 2)) (C := RX4) (T := TX4) (N := 4) hx hb hts hi4 hown hK hP 2 rfl rfl 2 (by decide) (hts (.fieldLink RX4 18 "PanTales$Sayings" "left" "[I") (by decide +kernel)) (fun _ h9 => h9) rfl dX4_mostLeft_53 ?_
      refine lv_iload hx hb dX4_mostLeft_56 (lv_at hl 0 rfl) ?_
      refine lv_dup2_11 hx hb dX4_mostLeft_58 rfl rfl ?_
      refine r_iald (v := nI (iζ % 5)) hx hb hK hP 0 rfl (vp_in_nI (n := (iζ / 5)) (by omega) (by omega)) ((congrArg (lfF iζ) (nI_clamp (n := iζ / 5) (by omega))).trans lf_v) dX4_mostLeft_59 ?_
      refine lv_iconst (v := 1) hx hb dX4_mostLeft_60 (by decide) ?_
      refine lv_iadd hx hb dX4_mostLeft_61 ?_
      refine gtop (y := nI ((iζ % 5) + 1)) (nI_add (iζ % 5) 1) ?_
      refine r_iast (f' := lfF (iζ + 1)) hx hb hK hP hD hS 0 rfl (vp_in_nI (n := (iζ / 5)) (by omega) (by omega)) (lf_s (by omega)) dX4_mostLeft_62 (fun H locs hP hD hS => ?_)
      have hP : va_P g.1 vwCl [aI g (Gζ 2) 10 (lfF (iζ + 1)), aI g (Gζ 1) 50 twF, (hζ, .inr (4, [.ref (Gζ 0), .ref (Gζ 1), .ref (Gζ 2), .int 50])), aI g (Gζ 0) 410 fdT] H := hP
      have hD : va_D Z [aI g (Gζ 2) 10 (lfF (iζ + 1)), aI g (Gζ 1) 50 twF, (hζ, .inr (4, [.ref (Gζ 0), .ref (Gζ 1), .ref (Gζ 2), .int 50])), aI g (Gζ 0) 410 fdT] := hD
      refine lv_iload_n hx hb dX4_mostLeft_63 rfl (lv_at hl 3 rfl) ?_
      refine lv_aload_n hx hb dX4_mostLeft_64 rfl (lv_at hl 4 rfl) ?_
      refine va_get (D := g.1) (ci := 4) (v := .ref (Gζ 2)) (C := RX4) (T := TX4) (N := 4) hx hb hts hi4 hown hK hP 2 rfl rfl 2 (by decide) (hts (.fieldLink RX4 18 "PanTales$Sayings" "left" "[I") (by decide +kernel)) (fun _ h9 => h9) rfl dX4_mostLeft_65 ?_
      refine lv_iload hx hb dX4_mostLeft_68 (lv_at hl 0 rfl) ?_
      refine r_iald (v := nI (iζ % 5 + 1)) hx hb hK hP 0 rfl (vp_in_nI (n := (iζ / 5)) (by omega) (by omega)) ((congrArg (lfF (iζ + 1)) (nI_clamp (n := iζ / 5) (by omega))).trans lf_w) dX4_mostLeft_70 ?_
      refine va_mmax hx hb (F.2.2.1.trans hl.1.symm) hown (hts (.methodLink RX4 73 Lib.Math.max.name) (by decide +kernel)) (hts (.static Lib.Math.max.name) (by decide +kernel)) (hts (.initialized "java/lang/Math") (by decide +kernel)) (hts (.code Lib.Math.max.name Lib.Math.max.code 2 (some .int)) (by decide +kernel)) (Nat.le_of_ble_eq_true rfl) (Nat.le_of_ble_eq_true rfl) (Nat.le_of_ble_eq_true rfl) (Nat.le_of_ble_eq_true rfl) dX4_mostLeft_71 ?_
      refine gtop (y := nI (msF (iζ + 1))) (ms_v (by omega)) ?_
      refine lv_istore_n (lv' := [(2, .int (nI (msF (iζ + 1)))), (5, .int (nI (iζ / 5))), (4, .int (nI (10 * (iζ / 5) + iζ % 5 + 1))), (3, .int (nI iζ)), (0, .ref hζ), (1, .int (nI bζ))]) hx hb dX4_mostLeft_74 rfl hl (by decide) rfl (fun ls hl => ?_)
      refine lv_iinc (v := nI (iζ + 1)) (lv' := [(3, .int (nI (iζ + 1))), (2, .int (nI (msF (iζ + 1)))), (5, .int (nI (iζ / 5))), (4, .int (nI (10 * (iζ / 5) + iζ % 5 + 1))), (0, .ref hζ), (1, .int (nI bζ))]) hx hb dX4_mostLeft_75 hl (k := 3) rfl (nI_1 iζ) (by decide) rfl (fun ls hl => ?_)
      refine lv_goto (tgt := 12) hx hb dX4_mostLeft_78 (by decide) ?_
      exact ih12 (iζ + 1) (by first | omega | (dsimp only; omega)) (by first | omega | (dsimp only; omega)) _ _ _ (hP.sub [2, 3, 1, 0] rfl) (hD.sub [2, 3, 1, 0] (by decide) rfl) hS (lv_sub hl [0, 1, 4, 5] rfl)
set_option maxHeartbeats 4000000 in
set_option maxRecDepth 100000 in
theorem c_X4_bedToAsk (l : Launch) (g : GT) (sz : Nat) (hζ : Nat) (Gζ : Nat → Nat) (fζ : Nat → Int32) : Ci l yX4_bedToAsk wsX4_bedToAsk { frames := 3, cells := 0, slots := 0, locals := 71 } g sz [.ref hζ] [(hζ, .inr (4, [.ref (Gζ 0), .ref (Gζ 1), .ref (Gζ 2), .int 50])), aI g (Gζ 0) 410 fdT, aI g (Gζ 1) 50 twF, aI g (Gζ 2) 10 fζ] 0 [(hζ, .inr (4, [.ref (Gζ 0), .ref (Gζ 1), .ref (Gζ 2), .int 50])), aI g (Gζ 0) 410 fdT, aI g (Gζ 1) 50 twF, aI g (Gζ 2) 10 (lfF 50)] := by
  refine gMet_i (cc := cX4_bedToAsk) (maxL := 5) (ret := (some .int)) (by decide) rfl (Nat.le_of_ble_eq_true rfl) ?_
  intro p e s m args below meth c Z hx hb hr F hlk hnm hK hN hA H locs hP hD hS ls hl
  have hl : lv_has ls 5 [(0, .ref hζ)] := hl
  have F : CallFix p m c cX4_bedToAsk 5 s args wsX4_bedToAsk RX4 := F
  have hts := F.2.2.2.2
  have hown : s.vm.findClass RX4 = some m.cls := F.2.2.2.1
  have hi4 : ∀ w ∈ u_ws RX4 TX4 4, w ∈ wsX4_bedToAsk := by decide +kernel
  refine lv_aload_n hx hb dX4_bedToAsk_0 rfl (lv_at hl 0 rfl) ?_
  refine va_get (D := g.1) (ci := 4) (v := .int 50) (C := RX4) (T := TX4) (N := 4) hx hb hts hi4 hown hK hP 0 rfl rfl 3 (by decide) (hts (.fieldLink RX4 25 "PanTales$Sayings" "count" "I") (by decide +kernel)) (fun _ h9 => h9) rfl dX4_bedToAsk_1 ?_
  refine lv_if_ne (tgt := 10) hx hb dX4_bedToAsk_4 (by decide) (fun c_1 => ?_) (fun c_1 => ?_)
  · refine lv_iconst (v := 0) hx hb dX4_bedToAsk_10 (by decide) ?_
    refine lv_istore_n (lv' := [(1, .int 0), (0, .ref hζ)]) hx hb dX4_bedToAsk_11 rfl hl (by decide) rfl (fun ls hl => ?_)
    refine lv_aload_n hx hb dX4_bedToAsk_12 rfl (lv_at hl 1 rfl) ?_
    refine lv_iconst (v := 0) hx hb dX4_bedToAsk_13 (by decide) ?_
    refine gcV_i (As := [.int 0]) (rest := []) (ci := 4) (q := (RX4, TX4, 4)) F hK hN hP hD hS hA (c_X4_mostLeft l g H.size hζ Gζ fζ 0 (by omega)) gX4_bedToAsk_X4_mostLeft kX4_mostLeft rfl rfl rfl rfl ⟨(Nat.le_of_ble_eq_true rfl), (Nat.le_of_ble_eq_true rfl)⟩ [0, 1, 2, 3] [] rfl rfl rfl (by decide) rfl rfl rfl rfl rfl hl.1 (Nat.le_of_ble_eq_true rfl) dX4_bedToAsk_14 ⟨(Nat.le_of_ble_eq_true rfl), (Nat.le_of_ble_eq_true rfl)⟩ (fun r_w u_w H locs hw hP hD hS => ?_)
    have hP : va_P g.1 vwCl [(hζ, .inr (4, [.ref (Gζ 0), .ref (Gζ 1), .ref (Gζ 2), .int 50])), aI g (Gζ 0) 410 fdT, aI g (Gζ 1) 50 twF, aI g (Gζ 2) 10 (lfF 50)] H := hP
    have hD : va_D Z [(hζ, .inr (4, [.ref (Gζ 0), .ref (Gζ 1), .ref (Gζ 2), .int 50])), aI g (Gζ 0) 410 fdT, aI g (Gζ 1) 50 twF, aI g (Gζ 2) 10 (lfF 50)] := hD
    obtain rfl := hw
    refine lv_istore_n (lv' := [(2, .int 5), (1, .int 0), (0, .ref hζ)]) hx hb dX4_bedToAsk_17 rfl hl (by decide) rfl (fun ls hl => ?_)
    refine lv_iconst (v := 1) hx hb dX4_bedToAsk_18 (by decide) ?_
    refine lv_istore_n (lv' := [(3, .int 1), (2, .int 5), (1, .int 0), (0, .ref hζ)]) hx hb dX4_bedToAsk_19 rfl hl (by decide) rfl (fun ls hl => ?_)
    refine gloop (σ := Nat) (fun u0 => 41 - u0) (fun u0 => u0 ≤ 41) (fun u0 => [(hζ, .inr (4, [.ref (Gζ 0), .ref (Gζ 1), .ref (Gζ 2), .int 50])), aI g (Gζ 0) 410 fdT, aI g (Gζ 1) 50 twF, aI g (Gζ 2) 10 (lfF 50)]) (fun u0 => [(3, .int (nI u0)), (2, .int 5), (1, .int 0), (0, .ref hζ)]) ?_ 1 (by first | omega | decide | rfl) (hP.sub [0, 1, 2, 3] rfl) (hD.sub [0, 1, 2, 3] (by decide) rfl) hS (lv_sub hl [0, 1, 2, 3] rfl)
    rintro tζ htζ ih20 H locs ls hP hD hS hl
    have htζ : tζ ≤ 41 := htζ
    have hP : va_P g.1 vwCl [(hζ, .inr (4, [.ref (Gζ 0), .ref (Gζ 1), .ref (Gζ 2), .int 50])), aI g (Gζ 0) 410 fdT, aI g (Gζ 1) 50 twF, aI g (Gζ 2) 10 (lfF 50)] H := hP
    have hD : va_D Z [(hζ, .inr (4, [.ref (Gζ 0), .ref (Gζ 1), .ref (Gζ 2), .int 50])), aI g (Gζ 0) 410 fdT, aI g (Gζ 1) 50 twF, aI g (Gζ 2) 10 (lfF 50)] := hD
    have hl : lv_has ls 5 [(3, .int (nI tζ)), (2, .int 5), (1, .int 0), (0, .ref hζ)] := hl
    refine lv_iload_n hx hb dX4_bedToAsk_20 rfl (lv_at hl 0 rfl) ?_
    refine lv_bipush (v := 41) hx hb dX4_bedToAsk_21 (by decide) ?_
    refine lv_icmp_ge (tgt := 50) hx hb dX4_bedToAsk_23 (by decide) (fun c_2 => ?_) (fun c_2 => ?_)
    · have c_2 : 41 ≤ tζ := (nI_leI (a := 41) (b := tζ) (by omega) (by omega)).mp c_2
      refine lv_iload_n hx hb dX4_bedToAsk_50 rfl (lv_at hl 2 rfl) ?_
      exact r_iret hx hb hr hlk hS () rfl (hP.sub [0, 1, 2, 3] rfl) (hD.sub [0, 1, 2, 3] (by decide) rfl) dX4_bedToAsk_51
    · have c_2 : ¬ 41 ≤ tζ := fun z => c_2 ((nI_leI (a := 41) (b := tζ) (by omega) (by omega)).mpr z)
      refine lv_aload_n hx hb dX4_bedToAsk_26 rfl (lv_at hl 3 rfl) ?_
      refine lv_iload_n hx hb dX4_bedToAsk_27 rfl (lv_at hl 0 rfl) ?_
      refine gcV_i (As := [.int (nI tζ)]) (rest := []) (ci := 4) (q := (RX4, TX4, 4)) F hK hN hP hD hS hA (c_X4_mostLeft l g H.size hζ Gζ (lfF 50) tζ (by omega)) gX4_bedToAsk_X4_mostLeft kX4_mostLeft rfl rfl rfl rfl ⟨(Nat.le_of_ble_eq_true rfl), (Nat.le_of_ble_eq_true rfl)⟩ [0, 1, 2, 3] [] rfl rfl rfl (by decide) rfl rfl rfl rfl rfl hl.1 (Nat.le_of_ble_eq_true rfl) dX4_bedToAsk_28 ⟨(Nat.le_of_ble_eq_true rfl), (Nat.le_of_ble_eq_true rfl)⟩ (fun r_w u_w H locs hw hP hD hS => ?_)
      have hP : va_P g.1 vwCl [(hζ, .inr (4, [.ref (Gζ 0), .ref (Gζ 1), .ref (Gζ 2), .int 50])), aI g (Gζ 0) 410 fdT, aI g (Gζ 1) 50 twF, aI g (Gζ 2) 10 (lfF 50)] H := hP
      have hD : va_D Z [(hζ, .inr (4, [.ref (Gζ 0), .ref (Gζ 1), .ref (Gζ 2), .int 50])), aI g (Gζ 0) 410 fdT, aI g (Gζ 1) 50 twF, aI g (Gζ 2) 10 (lfF 50)] := hD
      obtain rfl := hw
      refine lv_istore (lv' := [(4, .int 5), (3, .int (nI tζ)), (2, .int 5), (1, .int 0), (0, .ref hζ)]) hx hb dX4_bedToAsk_31 hl (by decide) rfl (fun ls hl => ?_)
      refine lv_iload hx hb dX4_bedToAsk_33 (lv_at hl 0 rfl) ?_
      refine lv_iload_n hx hb dX4_bedToAsk_35 rfl (lv_at hl 2 rfl) ?_
      refine lv_icmp_ge (tgt := 44) hx hb dX4_bedToAsk_36 (by decide) (fun c_3 => ?_) (fun c_3 => ?_)
      · refine lv_iinc (v := nI (tζ + 1)) (lv' := [(3, .int (nI (tζ + 1))), (4, .int 5), (2, .int 5), (1, .int 0), (0, .ref hζ)]) hx hb dX4_bedToAsk_44 hl (k := 1) rfl (nI_1 tζ) (by decide) rfl (fun ls hl => ?_)
        refine lv_goto (tgt := 20) hx hb dX4_bedToAsk_47 (by decide) ?_
        exact ih20 (tζ + 1) (by first | omega | (dsimp only; omega)) (by first | omega | (dsimp only; omega)) _ _ _ (hP.sub [0, 1, 2, 3] rfl) (hD.sub [0, 1, 2, 3] (by decide) rfl) hS (lv_sub hl [0, 2, 3, 4] rfl)
      · exact absurd (by decide) c_3
  · exact absurd c_1 (by decide)

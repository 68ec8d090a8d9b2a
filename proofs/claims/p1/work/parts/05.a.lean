theorem kX6_within : YOk yX6_within 3 := by decide +kernel
theorem kX6_isPlace : YOk yX6_isPlace 1 := by decide +kernel
theorem kX6_isHouse : YOk yX6_isHouse 1 := by decide +kernel
theorem kX6_isTale : YOk yX6_isTale 1 := by decide +kernel
theorem kX6_isIn : YOk yX6_isIn 2 := by decide +kernel
theorem kJ7_fill_53178 : YOk yJ7_fill_53178 2 := by decide +kernel
theorem kJ7_fill_d0a16 : YOk yJ7_fill_d0a16 2 := by decide +kernel
theorem kJ6_bitCount_0f7a4 : YOk yJ6_bitCount_0f7a4 1 := by decide +kernel
set_option maxHeartbeats 4000000 in
set_option maxRecDepth 100000 in
theorem c_X6_within (l : Launch) (xζ loζ hiζ : Int32) : Cp l yX6_within wsX6_within { frames := 0, cells := 0, slots := 0, locals := 0 } [.int xζ, .int loζ, .int hiζ] (bI (inB xζ loζ hiζ)) := by
  refine gMet_p (cc := cX6_within) (maxL := 3) (ret := (some .boolean)) (by decide) rfl (Nat.le_of_ble_eq_true rfl) ?_
  intro p e s m args below meth c hx hb hr F hlk ls hl
  have hl : lv_has ls 3 [(0, .int xζ), (1, .int loζ), (2, .int hiζ)] := hl
  have F : CallFix p m c cX6_within 3 s args wsX6_within RX6 := F
  have hts := F.2.2.2.2
  have hown : s.vm.findClass RX6 = some m.cls := F.2.2.2.1
  refine lv_iload_n hx hb dX6_within_0 rfl (lv_at hl 0 rfl) ?_
  refine lv_iload_n hx hb dX6_within_1 rfl (lv_at hl 1 rfl) ?_
  refine lv_icmp_lt (tgt := 14) hx hb dX6_within_2 (by decide) (fun c_1 => ?_) (fun c_1 => ?_)
  · refine lv_iconst (v := 0) hx hb dX6_within_14 (by decide) ?_
    exact r_pzret hx hb hr hlk (by decide) (bw_l c_1) dX6_within_15
  · refine lv_iload_n hx hb dX6_within_5 rfl (lv_at hl 0 rfl) ?_
    refine lv_iload_n hx hb dX6_within_6 rfl (lv_at hl 2 rfl) ?_
    refine lv_icmp_gt (tgt := 14) hx hb dX6_within_7 (by decide) (fun c_2 => ?_) (fun c_2 => ?_)
    · refine lv_iconst (v := 0) hx hb dX6_within_14 (by decide) ?_
      exact r_pzret hx hb hr hlk (by decide) (bw_h c_2) dX6_within_15
    · refine lv_iconst (v := 1) hx hb dX6_within_10 (by decide) ?_
      refine lv_goto (tgt := 15) hx hb dX6_within_11 (by decide) ?_
      exact r_pzret hx hb hr hlk (by decide) (bw_t c_1 c_2) dX6_within_15
set_option maxHeartbeats 4000000 in
set_option maxRecDepth 100000 in
theorem c_X6_isPlace (l : Launch) (xζ : Int32) : Cp l yX6_isPlace wsX6_isPlace { frames := 0, cells := 0, slots := 0, locals := 0 } [.int xζ] (bI (inB xζ 0 10)) := by
  refine gMet_p (cc := cX6_isPlace) (maxL := 1) (ret := (some .boolean)) (by decide) rfl (Nat.le_of_ble_eq_true rfl) ?_
  intro p e s m args below meth c hx hb hr F hlk ls hl
  have hl : lv_has ls 1 [(0, .int xζ)] := hl
  have F : CallFix p m c cX6_isPlace 1 s args wsX6_isPlace RX6 := F
  have hts := F.2.2.2.2
  have hown : s.vm.findClass RX6 = some m.cls := F.2.2.2.1
  refine lv_iload_n hx hb dX6_isPlace_0 rfl (lv_at hl 0 rfl) ?_
  refine lv_if_lt (tgt := 14) hx hb dX6_isPlace_1 (by decide) (fun c_1 => ?_) (fun c_1 => ?_)
  · refine lv_iconst (v := 0) hx hb dX6_isPlace_14 (by decide) ?_
    exact r_pzret hx hb hr hlk (by decide) (bw_l c_1) dX6_isPlace_15
  · refine lv_iload_n hx hb dX6_isPlace_4 rfl (lv_at hl 0 rfl) ?_
    refine lv_bipush (v := 11) hx hb dX6_isPlace_5 (by decide) ?_
    refine lv_icmp_ge (tgt := 14) hx hb dX6_isPlace_7 (by decide) (fun c_2 => ?_) (fun c_2 => ?_)
    · refine lv_iconst (v := 0) hx hb dX6_isPlace_14 (by decide) ?_
      exact r_pzret hx hb hr hlk (by decide) (bw_h1 (by decide) c_2) dX6_isPlace_15
    · refine lv_iconst (v := 1) hx hb dX6_isPlace_10 (by decide) ?_
      refine lv_goto (tgt := 15) hx hb dX6_isPlace_11 (by decide) ?_
      exact r_pzret hx hb hr hlk (by decide) (bw_t1 (by decide) c_1 c_2) dX6_isPlace_15
set_option maxHeartbeats 4000000 in
set_option maxRecDepth 100000 in
theorem c_X6_isHouse (l : Launch) (xζ : Int32) : Cp l yX6_isHouse wsX6_isHouse { frames := 0, cells := 0, slots := 0, locals := 0 } [.int xζ] (bI (inB xζ 0 9)) := by
  refine gMet_p (cc := cX6_isHouse) (maxL := 1) (ret := (some .boolean)) (by decide) rfl (Nat.le_of_ble_eq_true rfl) ?_
  intro p e s m args below meth c hx hb hr F hlk ls hl
  have hl : lv_has ls 1 [(0, .int xζ)] := hl
  have F : CallFix p m c cX6_isHouse 1 s args wsX6_isHouse RX6 := F
  have hts := F.2.2.2.2
  have hown : s.vm.findClass RX6 = some m.cls := F.2.2.2.1
  refine lv_iload_n hx hb dX6_isHouse_0 rfl (lv_at hl 0 rfl) ?_
  refine lv_if_lt (tgt := 14) hx hb dX6_isHouse_1 (by decide) (fun c_1 => ?_) (fun c_1 => ?_)
  · refine lv_iconst (v := 0) hx hb dX6_isHouse_14 (by decide) ?_
    exact r_pzret hx hb hr hlk (by decide) (bw_l c_1) dX6_isHouse_15
  · refine lv_iload_n hx hb dX6_isHouse_4 rfl (lv_at hl 0 rfl) ?_
    refine lv_bipush (v := 10) hx hb dX6_isHouse_5 (by decide) ?_
    refine lv_icmp_ge (tgt := 14) hx hb dX6_isHouse_7 (by decide) (fun c_2 => ?_) (fun c_2 => ?_)
    · refine lv_iconst (v := 0) hx hb dX6_isHouse_14 (by decide) ?_
      exact r_pzret hx hb hr hlk (by decide) (bw_h1 (by decide) c_2) dX6_isHouse_15
    · refine lv_iconst (v := 1) hx hb dX6_isHouse_10 (by decide) ?_
      refine lv_goto (tgt := 15) hx hb dX6_isHouse_11 (by decide) ?_
      exact r_pzret hx hb hr hlk (by decide) (bw_t1 (by decide) c_1 c_2) dX6_isHouse_15
set_option maxHeartbeats 4000000 in
set_option maxRecDepth 100000 in
theorem c_X6_isTale (l : Launch) (xζ : Int32) : Cp l yX6_isTale wsX6_isTale { frames := 0, cells := 0, slots := 0, locals := 0 } [.int xζ] (bI (inB xζ 0 9)) := by
  refine gMet_p (cc := cX6_isTale) (maxL := 1) (ret := (some .boolean)) (by decide) rfl (Nat.le_of_ble_eq_true rfl) ?_
  intro p e s m args below meth c hx hb hr F hlk ls hl
  have hl : lv_has ls 1 [(0, .int xζ)] := hl
  have F : CallFix p m c cX6_isTale 1 s args wsX6_isTale RX6 := F
  have hts := F.2.2.2.2
  have hown : s.vm.findClass RX6 = some m.cls := F.2.2.2.1
  refine lv_iload_n hx hb dX6_isTale_0 rfl (lv_at hl 0 rfl) ?_
  refine lv_if_lt (tgt := 14) hx hb dX6_isTale_1 (by decide) (fun c_1 => ?_) (fun c_1 => ?_)
  · refine lv_iconst (v := 0) hx hb dX6_isTale_14 (by decide) ?_
    exact r_pzret hx hb hr hlk (by decide) (bw_l c_1) dX6_isTale_15
  · refine lv_iload_n hx hb dX6_isTale_4 rfl (lv_at hl 0 rfl) ?_
    refine lv_bipush (v := 10) hx hb dX6_isTale_5 (by decide) ?_
    refine lv_icmp_ge (tgt := 14) hx hb dX6_isTale_7 (by decide) (fun c_2 => ?_) (fun c_2 => ?_)
    · refine lv_iconst (v := 0) hx hb dX6_isTale_14 (by decide) ?_
      exact r_pzret hx hb hr hlk (by decide) (bw_h1 (by decide) c_2) dX6_isTale_15
    · refine lv_iconst (v := 1) hx hb dX6_isTale_10 (by decide) ?_
      refine lv_goto (tgt := 15) hx hb dX6_isTale_11 (by decide) ?_
      exact r_pzret hx hb hr hlk (by decide) (bw_t1 (by decide) c_1 c_2) dX6_isTale_15
set_option maxHeartbeats 4000000 in
set_option maxRecDepth 100000 in
theorem c_X6_isIn (l : Launch) (xζ yζ : Int32) : Cp l yX6_isIn wsX6_isIn { frames := 0, cells := 0, slots := 0, locals := 0 } [.int xζ, .int yζ] (bI (isInB xζ yζ)) := by
  refine gMet_p (cc := cX6_isIn) (maxL := 2) (ret := (some .boolean)) (by decide) rfl (Nat.le_of_ble_eq_true rfl) ?_
  intro p e s m args below meth c hx hb hr F hlk ls hl
  have hl : lv_has ls 2 [(0, .int xζ), (1, .int yζ)] := hl
  have F : CallFix p m c cX6_isIn 2 s args wsX6_isIn RX6 := F
  have hts := F.2.2.2.2
  have hown : s.vm.findClass RX6 = some m.cls := F.2.2.2.1
  refine lv_iload_n hx hb dX6_isIn_0 rfl (lv_at hl 1 rfl) ?_
  refine lv_iload_n hx hb dX6_isIn_1 rfl (lv_at hl 0 rfl) ?_
  refine lv_ishr hx hb dX6_isIn_2 ?_
  refine lv_iconst (v := 1) hx hb dX6_isIn_3 (by decide) ?_
  refine lv_iand hx hb dX6_isIn_4 ?_
  refine lv_iconst (v := 1) hx hb dX6_isIn_5 (by decide) ?_
  refine lv_icmp_ne (tgt := 13) hx hb dX6_isIn_6 (by decide) (fun c_1 => ?_) (fun c_1 => ?_)
  · refine lv_iconst (v := 0) hx hb dX6_isIn_13 (by decide) ?_
    exact r_pzret hx hb hr hlk (by decide) (dI_f c_1) dX6_isIn_14
  · refine lv_iconst (v := 1) hx hb dX6_isIn_9 (by decide) ?_
    refine lv_goto (tgt := 14) hx hb dX6_isIn_10 (by decide) ?_
    exact r_pzret hx hb hr hlk (by decide) (dI_t c_1) dX6_isIn_14
set_option maxHeartbeats 4000000 in
set_option maxRecDepth 100000 in
theorem c_J7_fill_53178 (l : Launch) (g : GT) (sz : Nat) (aζ nζ : Nat) (fζ : Nat → Int32) (vζ : Int32) (hnζ : nζ < 2 ^ 31) : Cv l yJ7_fill_53178 wsJ7_fill_53178 { frames := 0, cells := 0, slots := 0, locals := 0 } g sz [.ref aζ, .int vζ] [aI g aζ nζ fζ] [aI g aζ nζ (fun _ => vζ)] := by
  refine gMet_v (cc := cJ7_fill_53178) (maxL := 4) (ret := none) (by decide) rfl (Nat.le_of_ble_eq_true rfl) ?_
  intro p e s m args below meth c Z hx hb hr F hlk hnm hK hN hA H locs hP hD hS ls hl
  have hl : lv_has ls 4 [(0, .ref aζ), (1, .int vζ)] := hl
  have F : CallFix p m c cJ7_fill_53178 4 s args wsJ7_fill_53178 RJ7 := F
  have hts := F.2.2.2.2
  have hown : s.vm.findClass RJ7 = some m.cls := F.2.2.2.1
  refine lv_iconst (v := 0) hx hb dJ7_fill_53178_0 (by decide) ?_
  refine lv_istore_n (lv' := [(2, .int 0), (0, .ref aζ), (1, .int vζ)]) hx hb dJ7_fill_53178_1 rfl hl (by decide) rfl (fun ls hl => ?_)
  refine lv_aload_n hx hb dJ7_fill_53178_2 rfl (lv_at hl 1 rfl) ?_
  refine va_alen (v := nI nζ) hx hb hK hP 0 0 rfl rfl rfl dJ7_fill_53178_3 ?_
  refine lv_istore_n (lv' := [(3, .int (nI nζ)), (2, .int 0), (0, .ref aζ), (1, .int vζ)]) hx hb dJ7_fill_53178_4 rfl hl (by decide) rfl (fun ls hl => ?_)
  obtain ⟨hP, hD⟩ := r_extI hP hD 0 rfl (f' := fF fζ (fun _ => vζ) 0) fF_0
  have hP : va_P g.1 vwCl [aI g aζ nζ (fF fζ (fun _ => vζ) 0)] H := hP
  have hD : va_D Z [aI g aζ nζ (fF fζ (fun _ => vζ) 0)] := hD
  refine gloop (σ := Nat) (fun u0 => nζ - u0) (fun u0 => u0 ≤ nζ) (fun u0 => [aI g aζ nζ (fF fζ (fun _ => vζ) u0)]) (fun u0 => [(3, .int (nI nζ)), (2, .int (nI u0)), (0, .ref aζ), (1, .int vζ)]) ?_ 0 (by first | omega | decide | rfl) (hP.sub [0] rfl) (hD.sub [0] (by decide) rfl) hS (lv_sub hl [0, 1, 2, 3] rfl)
  rintro iζ hiζ ih5 H locs ls hP hD hS hl
  have hiζ : iζ ≤ nζ := hiζ
  have hP : va_P g.1 vwCl [aI g aζ nζ (fF fζ (fun _ => vζ) iζ)] H := hP
  have hD : va_D Z [aI g aζ nζ (fF fζ (fun _ => vζ) iζ)] := hD
  have hl : lv_has ls 4 [(3, .int (nI nζ)), (2, .int (nI iζ)), (0, .ref aζ), (1, .int vζ)] := hl
  refine lv_iload_n hx hb dJ7_fill_53178_5 rfl (lv_at hl 1 rfl) ?_
  refine lv_iload_n hx hb dJ7_fill_53178_6 rfl (lv_at hl 0 rfl) ?_
  refine lv_icmp_ge (tgt := 20) hx hb dJ7_fill_53178_7 (by decide) (fun c_1 => ?_) (fun c_1 => ?_)
  · have c_1 : nζ ≤ iζ := (nI_leI (a := nζ) (b := iζ) (by omega) (by omega)).mp c_1
    obtain ⟨hP, hD⟩ := r_extI hP hD 0 rfl (f' := (fun _ => vζ)) (by intro j hj; exact fF_n j (by omega))
    have hP : va_P g.1 vwCl [aI g aζ nζ (fun _ => vζ)] H := hP
    have hD : va_D Z [aI g aζ nζ (fun _ => vζ)] := hD
    exact r_vret hx hb hr hlk hS () trivial (hP.sub [0] rfl) (hD.sub [0] (by decide) rfl) dJ7_fill_53178_20
  · have c_1 : ¬ nζ ≤ iζ := fun z => c_1 ((nI_leI (a := nζ) (b := iζ) (by omega) (by omega)).mpr z)
    refine lv_aload_n hx hb dJ7_fill_53178_10 rfl (lv_at hl 2 rfl) ?_
    refine lv_iload_n hx hb dJ7_fill_53178_11 rfl (lv_at hl 1 rfl) ?_
    refine lv_iload_n hx hb dJ7_fill_53178_12 rfl (lv_at hl 3 rfl) ?_
    refine r_iast (f' := fF fζ (fun _ => vζ) (iζ + 1)) hx hb hK hP hD hS 0 rfl (vp_in_nI (n := iζ) (by omega) (by omega)) (fF_s (nI_clamp (n := iζ) (by omega)) rfl) dJ7_fill_53178_13 (fun H locs hP hD hS => ?_)
    have hP : va_P g.1 vwCl [aI g aζ nζ (fF fζ (fun _ => vζ) (iζ + 1))] H := hP
    have hD : va_D Z [aI g aζ nζ (fF fζ (fun _ => vζ) (iζ + 1))] := hD
    refine lv_iinc (v := nI (iζ + 1)) (lv' := [(2, .int (nI (iζ + 1))), (3, .int (nI nζ)), (0, .ref aζ), (1, .int vζ)]) hx hb dJ7_fill_53178_14 hl (k := 1) rfl (nI_1 iζ) (by decide) rfl (fun ls hl => ?_)
    refine lv_goto (tgt := 5) hx hb dJ7_fill_53178_17 (by decide) ?_
    exact ih5 (iζ + 1) (by first | omega | (dsimp only; omega)) (by first | omega | (dsimp only; omega)) _ _ _ (hP.sub [0] rfl) (hD.sub [0] (by decide) rfl) hS (lv_sub hl [1, 0, 2, 3] rfl)
set_option maxHeartbeats 4000000 in
set_option maxRecDepth 100000 in
theorem c_J7_fill_d0a16 (l : Launch) (g : GT) (sz : Nat) (aζ nζ : Nat) (fζ : Nat → Int64) (vζ : Int64) (hnζ : nζ < 2 ^ 31) : Cv l yJ7_fill_d0a16 wsJ7_fill_d0a16 { frames := 0, cells := 0, slots := 0, locals := 0 } g sz [.ref aζ, .long vζ] [aJ g aζ nζ fζ] [aJ g aζ nζ (fun _ => vζ)] := by
  refine gMet_v (cc := cJ7_fill_d0a16) (maxL := 5) (ret := none) (by decide) rfl (Nat.le_of_ble_eq_true rfl) ?_
  intro p e s m args below meth c Z hx hb hr F hlk hnm hK hN hA H locs hP hD hS ls hl
  have hl : lv_has ls 5 [(0, .ref aζ), (1, .long vζ)] := hl
  have F : CallFix p m c cJ7_fill_d0a16 5 s args wsJ7_fill_d0a16 RJ7 := F
  have hts := F.2.2.2.2
  have hown : s.vm.findClass RJ7 = some m.cls := F.2.2.2.1
  refine lv_iconst (v := 0) hx hb dJ7_fill_d0a16_0 (by decide) ?_
  refine lv_istore_n (lv' := [(3, .int 0), (0, .ref aζ), (1, .long vζ)]) hx hb dJ7_fill_d0a16_1 rfl hl (by decide) rfl (fun ls hl => ?_)
  refine lv_aload_n hx hb dJ7_fill_d0a16_2 rfl (lv_at hl 1 rfl) ?_
  refine va_alen (v := nI nζ) hx hb hK hP 0 1 rfl rfl rfl dJ7_fill_d0a16_3 ?_
  refine lv_istore (lv' := [(4, .int (nI nζ)), (3, .int 0), (0, .ref aζ), (1, .long vζ)]) hx hb dJ7_fill_d0a16_4 hl (by decide) rfl (fun ls hl => ?_)
  obtain ⟨hP, hD⟩ := r_extJ hP hD 0 rfl (f' := fF fζ (fun _ => vζ) 0) fF_0
  have hP : va_P g.1 vwCl [aJ g aζ nζ (fF fζ (fun _ => vζ) 0)] H := hP
  have hD : va_D Z [aJ g aζ nζ (fF fζ (fun _ => vζ) 0)] := hD
  refine gloop (σ := Nat) (fun u0 => nζ - u0) (fun u0 => u0 ≤ nζ) (fun u0 => [aJ g aζ nζ (fF fζ (fun _ => vζ) u0)]) (fun u0 => [(4, .int (nI nζ)), (3, .int (nI u0)), (0, .ref aζ), (1, .long vζ)]) ?_ 0 (by first | omega | decide | rfl) (hP.sub [0] rfl) (hD.sub [0] (by decide) rfl) hS (lv_sub hl [0, 1, 2, 3] rfl)
  rintro iζ hiζ ih6 H locs ls hP hD hS hl
  have hiζ : iζ ≤ nζ := hiζ
  have hP : va_P g.1 vwCl [aJ g aζ nζ (fF fζ (fun _ => vζ) iζ)] H := hP
  have hD : va_D Z [aJ g aζ nζ (fF fζ (fun _ => vζ) iζ)] := hD
  have hl : lv_has ls 5 [(4, .int (nI nζ)), (3, .int (nI iζ)), (0, .ref aζ), (1, .long vζ)] := hl
  refine lv_iload_n hx hb dJ7_fill_d0a16_6 rfl (lv_at hl 1 rfl) ?_
  refine lv_iload hx hb dJ7_fill_d0a16_7 (lv_at hl 0 rfl) ?_
  refine lv_icmp_ge (tgt := 22) hx hb dJ7_fill_d0a16_9 (by decide) (fun c_1 => ?_) (fun c_1 => ?_)
  · have c_1 : nζ ≤ iζ := (nI_leI (a := nζ) (b := iζ) (by omega) (by omega)).mp c_1
    obtain ⟨hP, hD⟩ := r_extJ hP hD 0 rfl (f' := (fun _ => vζ)) (by intro j hj; exact fF_n j (by omega))
    have hP : va_P g.1 vwCl [aJ g aζ nζ (fun _ => vζ)] H := hP
    have hD : va_D Z [aJ g aζ nζ (fun _ => vζ)] := hD
    exact r_vret hx hb hr hlk hS () trivial (hP.sub [0] rfl) (hD.sub [0] (by decide) rfl) dJ7_fill_d0a16_22
  · have c_1 : ¬ nζ ≤ iζ := fun z => c_1 ((nI_leI (a := nζ) (b := iζ) (by omega) (by omega)).mpr z)
    refine lv_aload_n hx hb dJ7_fill_d0a16_12 rfl (lv_at hl 2 rfl) ?_
    refine lv_iload_n hx hb dJ7_fill_d0a16_13 rfl (lv_at hl 1 rfl) ?_
    refine lv_lload_n hx hb dJ7_fill_d0a16_14 rfl (lv_at hl 3 rfl) ?_
    refine r_last (f' := fF fζ (fun _ => vζ) (iζ + 1)) hx hb hK hP hD hS 0 rfl (vp_in_nI (n := iζ) (by omega) (by omega)) (fF_sJ (nI_clamp (n := iζ) (by omega)) rfl) dJ7_fill_d0a16_15 (fun H locs hP hD hS => ?_)
    have hP : va_P g.1 vwCl [aJ g aζ nζ (fF fζ (fun _ => vζ) (iζ + 1))] H := hP
    have hD : va_D Z [aJ g aζ nζ (fF fζ (fun _ => vζ) (iζ + 1))] := hD
    refine lv_iinc (v := nI (iζ + 1)) (lv' := [(3, .int (nI (iζ + 1))), (4, .int (nI nζ)), (0, .ref aζ), (1, .long vζ)]) hx hb dJ7_fill_d0a16_16 hl (k := 1) rfl (nI_1 iζ) (by decide) rfl (fun ls hl => ?_)
    refine lv_goto (tgt := 6) hx hb dJ7_fill_d0a16_19 (by decide) ?_
    exact ih6 (iζ + 1) (by first | omega | (dsimp only; omega)) (by first | omega | (dsimp only; omega)) _ _ _ (hP.sub [0] rfl) (hD.sub [0] (by decide) rfl) hS (lv_sub hl [1, 0, 2, 3] rfl)
set_option maxHeartbeats 4000000 in
set_option maxRecDepth 100000 in
theorem c_J6_bitCount_0f7a4 (l : Launch) (xζ : Int32) : Cp l yJ6_bitCount_0f7a4 wsJ6_bitCount_0f7a4 { frames := 0, cells := 0, slots := 0, locals := 0 } [.int xζ] (bcF xζ) := by
  refine gMet_p (cc := cJ6_bitCount_0f7a4) (maxL := 1) (ret := (some .int)) (by decide) rfl (Nat.le_of_ble_eq_true rfl) ?_
  intro p e s m args below meth c hx hb hr F hlk ls hl
  have hl : lv_has ls 1 [(0, .int xζ)] := hl
  have F : CallFix p m c cJ6_bitCount_0f7a4 1 s args wsJ6_bitCount_0f7a4 RJ6 := F
  have hts := F.2.2.2.2
  have hown : s.vm.findClass RJ6 = some m.cls := F.2.2.2.1
  refine lv_iload_n hx hb dJ6_bitCount_0f7a4_0 rfl (lv_at hl 0 rfl) ?_
  refine lv_iload_n hx hb dJ6_bitCount_0f7a4_1 rfl (lv_at hl 0 rfl) ?_
  refine lv_iconst (v := 1) hx hb dJ6_bitCount_0f7a4_2 (by decide) ?_
  refine lv_iushr (v := ((xζ).toUInt32 >>> ((1 : Int32).toUInt32 &&& Int32.toUInt32 31)).toInt32) hx hb dJ6_bitCount_0f7a4_3 rfl ?_
  refine lv_ldcw (v := 1431655765) hx hb hown (hts (.constant RJ6 265 (1431655765)) (by decide +kernel)) dJ6_bitCount_0f7a4_4 ?_
  refine lv_iand hx hb dJ6_bitCount_0f7a4_7 ?_
  refine lv_isub hx hb dJ6_bitCount_0f7a4_8 ?_
  refine gtop (y := bc1 xζ) rfl ?_
  refine lv_istore_n (lv' := [(0, .int (bc1 xζ))]) hx hb dJ6_bitCount_0f7a4_9 rfl hl (by decide) rfl (fun ls hl => ?_)
  refine lv_iload_n hx hb dJ6_bitCount_0f7a4_10 rfl (lv_at hl 0 rfl) ?_
  refine lv_ldcw (v := 858993459) hx hb hown (hts (.constant RJ6 266 (858993459)) (by decide +kernel)) dJ6_bitCount_0f7a4_11 ?_
  refine lv_iand hx hb dJ6_bitCount_0f7a4_14 ?_
  refine lv_iload_n hx hb dJ6_bitCount_0f7a4_15 rfl (lv_at hl 0 rfl) ?_
  refine lv_iconst (v := 2) hx hb dJ6_bitCount_0f7a4_16 (by decide) ?_
  refine lv_iushr (v := ((bc1 xζ).toUInt32 >>> ((2 : Int32).toUInt32 &&& Int32.toUInt32 31)).toInt32) hx hb dJ6_bitCount_0f7a4_17 rfl ?_
  refine lv_ldcw (v := 858993459) hx hb hown (hts (.constant RJ6 266 (858993459)) (by decide +kernel)) dJ6_bitCount_0f7a4_18 ?_
  refine lv_iand hx hb dJ6_bitCount_0f7a4_21 ?_
  refine lv_iadd hx hb dJ6_bitCount_0f7a4_22 ?_
  refine gtop (y := bc2 (bc1 xζ)) rfl ?_
  refine lv_istore_n (lv' := [(0, .int (bc2 (bc1 xζ)))]) hx hb dJ6_bitCount_0f7a4_23 rfl hl (by decide) rfl (fun ls hl => ?_)
  refine lv_iload_n hx hb dJ6_bitCount_0f7a4_24 rfl (lv_at hl 0 rfl) ?_
  refine lv_iload_n hx hb dJ6_bitCount_0f7a4_25 rfl (lv_at hl 0 rfl) ?_
  refine lv_iconst (v := 4) hx hb dJ6_bitCount_0f7a4_26 (by decide) ?_
  refine lv_iushr (v := ((bc2 (bc1 xζ)).toUInt32 >>> ((4 : Int32).toUInt32 &&& Int32.toUInt32 31)).toInt32) hx hb dJ6_bitCount_0f7a4_27 rfl ?_
  refine lv_iadd hx hb dJ6_bitCount_0f7a4_28 ?_
  refine lv_ldcw (v := 252645135) hx hb hown (hts (.constant RJ6 267 (252645135)) (by decide +kernel)) dJ6_bitCount_0f7a4_29 ?_
  refine lv_iand hx hb dJ6_bitCount_0f7a4_32 ?_
  refine gtop (y := bc3 (bc2 (bc1 xζ))) rfl ?_
  refine lv_istore_n (lv' := [(0, .int (bc3 (bc2 (bc1 xζ))))]) hx hb dJ6_bitCount_0f7a4_33 rfl hl (by decide) rfl (fun ls hl => ?_)
  refine lv_iload_n hx hb dJ6_bitCount_0f7a4_34 rfl (lv_at hl 0 rfl) ?_
  refine lv_iload_n hx hb dJ6_bitCount_0f7a4_35 rfl (lv_at hl 0 rfl) ?_
  refine lv_bipush (v := 8) hx hb dJ6_bitCount_0f7a4_36 (by decide) ?_
  refine lv_iushr (v := ((bc3 (bc2 (bc1 xζ))).toUInt32 >>> ((8 : Int32).toUInt32 &&& Int32.toUInt32 31)).toInt32) hx hb dJ6_bitCount_0f7a4_38 rfl ?_
  refine lv_iadd hx hb dJ6_bitCount_0f7a4_39 ?_
  refine gtop (y := bc4 (bc3 (bc2 (bc1 xζ)))) rfl ?_
  refine lv_istore_n (lv' := [(0, .int (bc4 (bc3 (bc2 (bc1 xζ)))))]) hx hb dJ6_bitCount_0f7a4_40 rfl hl (by decide) rfl (fun ls hl => ?_)
  refine lv_iload_n hx hb dJ6_bitCount_0f7a4_41 rfl (lv_at hl 0 rfl) ?_
  refine lv_iload_n hx hb dJ6_bitCount_0f7a4_42 rfl (lv_at hl 0 rfl) ?_
  refine lv_bipush (v := 16) hx hb dJ6_bitCount_0f7a4_43 (by decide) ?_
  refine lv_iushr (v := ((bc4 (bc3 (bc2 (bc1 xζ)))).toUInt32 >>> ((16 : Int32).toUInt32 &&& Int32.toUInt32 31)).toInt32) hx hb dJ6_bitCount_0f7a4_45 rfl ?_
  refine lv_iadd hx hb dJ6_bitCount_0f7a4_46 ?_
  refine gtop (y := bc5 (bc4 (bc3 (bc2 (bc1 xζ))))) rfl ?_
  refine lv_istore_n (lv' := [(0, .int (bc5 (bc4 (bc3 (bc2 (bc1 xζ))))))]) hx hb dJ6_bitCount_0f7a4_47 rfl hl (by decide) rfl (fun ls hl => ?_)
  refine lv_iload_n hx hb dJ6_bitCount_0f7a4_48 rfl (lv_at hl 0 rfl) ?_
  refine lv_bipush (v := 63) hx hb dJ6_bitCount_0f7a4_49 (by decide) ?_
  refine lv_iand hx hb dJ6_bitCount_0f7a4_51 ?_
  exact r_pret hx hb hr hlk rfl dJ6_bitCount_0f7a4_52

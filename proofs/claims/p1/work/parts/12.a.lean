theorem kX7_in : YOk yX7_in 3 := by decide +kernel
theorem kX7_isHouse : YOk yX7_isHouse 1 := by decide +kernel
theorem kX7_isPlace : YOk yX7_isPlace 1 := by decide +kernel
theorem kX7_isTale : YOk yX7_isTale 1 := by decide +kernel
theorem kX7_ones : YOk yX7_ones 1 := by decide +kernel
theorem kX7_road : YOk yX7_road 3 := by decide +kernel
theorem kX7_house : YOk yX7_house 3 := by decide +kernel
theorem kX7_tell : YOk yX7_tell 2 := by decide +kernel
theorem kX7_fade : YOk yX7_fade 2 := by decide +kernel
theorem kX7_say : YOk yX7_say 1 := by decide +kernel
theorem kX7_wipe : YOk yX7_wipe 0 := by decide +kernel
theorem kX7_fault : YOk yX7_fault 0 := by decide +kernel
set_option maxHeartbeats 4000000 in
set_option maxRecDepth 100000 in
theorem c_X7_in (l : Launch) (xζ loζ hiζ : Int64) : Cp l yX7_in wsX7_in { frames := 0, cells := 0, slots := 0, locals := 0 } [.long xζ, .long loζ, .long hiζ] (bI (inL xζ loζ hiζ)) := by
  refine gMet_p (cc := cX7_in) (maxL := 6) (ret := (some .boolean)) (by decide) rfl (Nat.le_of_ble_eq_true rfl) ?_
  intro p e s m args below meth c hx hb hr F hlk ls hl
  have hl : lv_has ls 6 [(0, .long xζ), (2, .long loζ), (4, .long hiζ)] := hl
  have F : CallFix p m c cX7_in 6 s args wsX7_in RX7 := F
  have hts := F.2.2.2.2
  have hown : s.vm.findClass RX7 = some m.cls := F.2.2.2.1
  refine lv_lload_n hx hb dX7_in_0 rfl (lv_at hl 0 rfl) ?_
  refine lv_lload_n hx hb dX7_in_1 rfl (lv_at hl 1 rfl) ?_
  refine W.lcmp hx hb dX7_in_2 ?_
  refine lv_if_lt (tgt := 17) hx hb dX7_in_3 (by decide) (fun c_1 => ?_) (fun c_1 => ?_)
  · refine lv_iconst (v := 0) hx hb dX7_in_17 (by decide) ?_
    exact r_pzret hx hb hr hlk (by decide) (il_l c_1) dX7_in_18
  · refine lv_lload_n hx hb dX7_in_6 rfl (lv_at hl 0 rfl) ?_
    refine lv_lload hx hb dX7_in_7 (lv_at hl 2 rfl) ?_
    refine W.lcmp hx hb dX7_in_9 ?_
    refine lv_if_gt (tgt := 17) hx hb dX7_in_10 (by decide) (fun c_2 => ?_) (fun c_2 => ?_)
    · refine lv_iconst (v := 0) hx hb dX7_in_17 (by decide) ?_
      exact r_pzret hx hb hr hlk (by decide) (il_h c_2) dX7_in_18
    · refine lv_iconst (v := 1) hx hb dX7_in_13 (by decide) ?_
      refine lv_goto (tgt := 18) hx hb dX7_in_14 (by decide) ?_
      exact r_pzret hx hb hr hlk (by decide) (il_t c_1 c_2) dX7_in_18
set_option maxHeartbeats 4000000 in
set_option maxRecDepth 100000 in
theorem c_X7_isHouse (l : Launch) (xζ : Int32) : Cp l yX7_isHouse wsX7_isHouse { frames := 1, cells := 0, slots := 0, locals := 25 } [.int xζ] (bI (inB xζ 0 9)) := by
  refine gMet_p (cc := cX7_isHouse) (maxL := 1) (ret := (some .boolean)) (by decide) rfl (Nat.le_of_ble_eq_true rfl) ?_
  intro p e s m args below meth c hx hb hr F hlk ls hl
  have hl : lv_has ls 1 [(0, .int xζ)] := hl
  have F : CallFix p m c cX7_isHouse 1 s args wsX7_isHouse RX7 := F
  have hts := F.2.2.2.2
  have hown : s.vm.findClass RX7 = some m.cls := F.2.2.2.1
  refine lv_iload_n hx hb dX7_isHouse_0 rfl (lv_at hl 0 rfl) ?_
  refine lv_i2l (v := xζ.toInt64) hx hb dX7_isHouse_1 rfl ?_
  refine lv_lconst (v := 0) hx hb dX7_isHouse_2 (by decide) ?_
  refine lv_ldc2 (v := 9) hx hb hown (hts (.constantLong RX7 76 (9)) (by decide +kernel)) dX7_isHouse_3 ?_
  refine gcP (As := [.long xζ.toInt64, .long 0, .long 9]) (rest := []) F (c_X7_in l xζ.toInt64 0 9) gX7_isHouse_X7_in kX7_in rfl rfl rfl ⟨(Nat.le_of_ble_eq_true rfl), (Nat.le_of_ble_eq_true rfl)⟩ rfl rfl hl.1 (Nat.le_of_ble_eq_true rfl) dX7_isHouse_6 ⟨(Nat.le_of_ble_eq_true rfl), (Nat.le_of_ble_eq_true rfl)⟩ ?_
  refine gtop (y := bI (inB xζ 0 9)) (congrArg bI (inL_i (lo := 0) (hi := 9) (by decide) (by decide))) ?_
  exact r_pzret hx hb hr hlk (bI_nar _) rfl dX7_isHouse_9
set_option maxHeartbeats 4000000 in
set_option maxRecDepth 100000 in
theorem c_X7_isPlace (l : Launch) (xζ : Int32) : Cp l yX7_isPlace wsX7_isPlace { frames := 1, cells := 0, slots := 0, locals := 25 } [.int xζ] (bI (inB xζ 0 10)) := by
  refine gMet_p (cc := cX7_isPlace) (maxL := 1) (ret := (some .boolean)) (by decide) rfl (Nat.le_of_ble_eq_true rfl) ?_
  intro p e s m args below meth c hx hb hr F hlk ls hl
  have hl : lv_has ls 1 [(0, .int xζ)] := hl
  have F : CallFix p m c cX7_isPlace 1 s args wsX7_isPlace RX7 := F
  have hts := F.2.2.2.2
  have hown : s.vm.findClass RX7 = some m.cls := F.2.2.2.1
  refine lv_iload_n hx hb dX7_isPlace_0 rfl (lv_at hl 0 rfl) ?_
  refine lv_i2l (v := xζ.toInt64) hx hb dX7_isPlace_1 rfl ?_
  refine lv_lconst (v := 0) hx hb dX7_isPlace_2 (by decide) ?_
  refine lv_ldc2 (v := 10) hx hb hown (hts (.constantLong RX7 82 (10)) (by decide +kernel)) dX7_isPlace_3 ?_
  refine gcP (As := [.long xζ.toInt64, .long 0, .long 10]) (rest := []) F (c_X7_in l xζ.toInt64 0 10) gX7_isPlace_X7_in kX7_in rfl rfl rfl ⟨(Nat.le_of_ble_eq_true rfl), (Nat.le_of_ble_eq_true rfl)⟩ rfl rfl hl.1 (Nat.le_of_ble_eq_true rfl) dX7_isPlace_6 ⟨(Nat.le_of_ble_eq_true rfl), (Nat.le_of_ble_eq_true rfl)⟩ ?_
  refine gtop (y := bI (inB xζ 0 10)) (congrArg bI (inL_i (lo := 0) (hi := 10) (by decide) (by decide))) ?_
  exact r_pzret hx hb hr hlk (bI_nar _) rfl dX7_isPlace_9
set_option maxHeartbeats 4000000 in
set_option maxRecDepth 100000 in
theorem c_X7_isTale (l : Launch) (xζ : Int32) : Cp l yX7_isTale wsX7_isTale { frames := 1, cells := 0, slots := 0, locals := 25 } [.int xζ] (bI (inB xζ 0 9)) := by
  refine gMet_p (cc := cX7_isTale) (maxL := 1) (ret := (some .boolean)) (by decide) rfl (Nat.le_of_ble_eq_true rfl) ?_
  intro p e s m args below meth c hx hb hr F hlk ls hl
  have hl : lv_has ls 1 [(0, .int xζ)] := hl
  have F : CallFix p m c cX7_isTale 1 s args wsX7_isTale RX7 := F
  have hts := F.2.2.2.2
  have hown : s.vm.findClass RX7 = some m.cls := F.2.2.2.1
  refine lv_iload_n hx hb dX7_isTale_0 rfl (lv_at hl 0 rfl) ?_
  refine lv_i2l (v := xζ.toInt64) hx hb dX7_isTale_1 rfl ?_
  refine lv_lconst (v := 0) hx hb dX7_isTale_2 (by decide) ?_
  refine lv_ldc2 (v := 9) hx hb hown (hts (.constantLong RX7 76 (9)) (by decide +kernel)) dX7_isTale_3 ?_
  refine gcP (As := [.long xζ.toInt64, .long 0, .long 9]) (rest := []) F (c_X7_in l xζ.toInt64 0 9) gX7_isTale_X7_in kX7_in rfl rfl rfl ⟨(Nat.le_of_ble_eq_true rfl), (Nat.le_of_ble_eq_true rfl)⟩ rfl rfl hl.1 (Nat.le_of_ble_eq_true rfl) dX7_isTale_6 ⟨(Nat.le_of_ble_eq_true rfl), (Nat.le_of_ble_eq_true rfl)⟩ ?_
  refine gtop (y := bI (inB xζ 0 9)) (congrArg bI (inL_i (lo := 0) (hi := 9) (by decide) (by decide))) ?_
  exact r_pzret hx hb hr hlk (bI_nar _) rfl dX7_isTale_9
set_option maxHeartbeats 4000000 in
set_option maxRecDepth 100000 in
theorem c_X7_ones_0 (l : Launch)  : Cp l yX7_ones wsX7_ones { frames := 0, cells := 0, slots := 0, locals := 0 } [.int 0] 0 := by
  refine gMet_p (cc := cX7_ones) (maxL := 3) (ret := (some .int)) (by decide) rfl (Nat.le_of_ble_eq_true rfl) ?_
  intro p e s m args below meth c hx hb hr F hlk ls hl
  have hl : lv_has ls 3 [(0, .int 0)] := hl
  have F : CallFix p m c cX7_ones 3 s args wsX7_ones RX7 := F
  have hts := F.2.2.2.2
  have hown : s.vm.findClass RX7 = some m.cls := F.2.2.2.1
  refine lv_iconst (v := 0) hx hb dX7_ones_0 (by decide) ?_
  refine lv_istore_n (lv' := [(1, .int 0), (0, .int 0)]) hx hb dX7_ones_1 rfl hl (by decide) rfl (fun ls hl => ?_)
  refine lv_iload_n hx hb dX7_ones_2 rfl (lv_at hl 1 rfl) ?_
  refine lv_istore_n (lv' := [(2, .int 0), (1, .int 0), (0, .int 0)]) hx hb dX7_ones_3 rfl hl (by decide) rfl (fun ls hl => ?_)
  refine lv_iload_n hx hb dX7_ones_4 rfl (lv_at hl 0 rfl) ?_
  refine lv_if_eq (tgt := 20) hx hb dX7_ones_5 (by decide) (fun c_1 => ?_) (fun c_1 => ?_)
  · refine lv_iload_n hx hb dX7_ones_20 rfl (lv_at hl 1 rfl) ?_
    exact r_pret hx hb hr hlk rfl dX7_ones_21
  · exact absurd (by decide) c_1
set_option maxHeartbeats 4000000 in
set_option maxRecDepth 100000 in
theorem c_X7_ones (l : Launch) (g : GT) (sz : Nat) (nζ : Nat) (hnζ : nζ < 2 ^ 31) : Mi (S := Unit) l yX7_ones wsX7_ones { frames := 0, cells := 0, slots := 0, locals := 0 } g sz [.int (nI nζ)] [] 0 0 (fun r _ => ∃ kζ, kζ < 2 ^ 31 ∧ r = nI kζ) (fun _ => []) := by
  refine gMet_i (cc := cX7_ones) (maxL := 3) (ret := (some .int)) (by decide) rfl (Nat.le_of_ble_eq_true rfl) ?_
  intro p e s m args below meth c Z hx hb hr F hlk hnm hK hN hA H locs hP hD hS ls hl
  have hl : lv_has ls 3 [(0, .int (nI nζ))] := hl
  have F : CallFix p m c cX7_ones 3 s args wsX7_ones RX7 := F
  have hts := F.2.2.2.2
  have hown : s.vm.findClass RX7 = some m.cls := F.2.2.2.1
  refine lv_iconst (v := 0) hx hb dX7_ones_0 (by decide) ?_
  refine lv_istore_n (lv' := [(1, .int 0), (0, .int (nI nζ))]) hx hb dX7_ones_1 rfl hl (by decide) rfl (fun ls hl => ?_)
  refine lv_iload_n hx hb dX7_ones_2 rfl (lv_at hl 1 rfl) ?_
  refine lv_istore_n (lv' := [(2, .int (nI nζ)), (1, .int 0), (0, .int (nI nζ))]) hx hb dX7_ones_3 rfl hl (by decide) rfl (fun ls hl => ?_)
  refine gloop (σ := Nat × Nat) (fun u0 => u0.2) (fun u0 => u0.1 + u0.2 ≤ nζ) (fun u0 => []) (fun u0 => [(2, .int (nI u0.2)), (1, .int (nI u0.1)), (0, .int (nI nζ))]) ?_ (0, nζ) (by first | omega | decide | rfl) (hP.sub [] rfl) (hD.sub [] (by decide) rfl) hS (lv_sub hl [0, 1, 2] rfl)
  rintro ⟨kζ, jζ⟩ hkjζ ih4 H locs ls hP hD hS hl
  have hkjζ : kζ + jζ ≤ nζ := hkjζ
  have hP : va_P g.1 vwCl [] H := hP
  have hD : va_D Z [] := hD
  have hl : lv_has ls 3 [(2, .int (nI jζ)), (1, .int (nI kζ)), (0, .int (nI nζ))] := hl
  refine lv_iload_n hx hb dX7_ones_4 rfl (lv_at hl 0 rfl) ?_
  refine lv_if_eq (tgt := 20) hx hb dX7_ones_5 (by decide) (fun c_1 => ?_) (fun c_1 => ?_)
  · have c_1 : jζ = 0 := (nI_eq (a := jζ) (b := 0) (by omega) (by omega)).mp c_1
    refine lv_iload_n hx hb dX7_ones_20 rfl (lv_at hl 1 rfl) ?_
    exact r_iret hx hb hr hlk hS () ⟨kζ, by omega, rfl⟩ (hP.sub [] rfl) (hD.sub [] (by decide) rfl) dX7_ones_21
  · have c_1 : ¬ jζ = 0 := fun z => c_1 ((nI_eq (a := jζ) (b := 0) (by omega) (by omega)).mpr z)
    refine lv_iinc (v := nI (kζ + 1)) (lv' := [(1, .int (nI (kζ + 1))), (2, .int (nI jζ)), (0, .int (nI nζ))]) hx hb dX7_ones_8 hl (k := 1) rfl (nI_1 kζ) (by decide) rfl (fun ls hl => ?_)
    refine lv_iload_n hx hb dX7_ones_11 rfl (lv_at hl 1 rfl) ?_
    refine lv_iload_n hx hb dX7_ones_12 rfl (lv_at hl 1 rfl) ?_
    refine lv_iconst (v := 1) hx hb dX7_ones_13 (by decide) ?_
    refine lv_isub hx hb dX7_ones_14 ?_
    refine gtop (y := nI (jζ - 1)) (pk_sub (a := jζ) (b := 1) (by omega)) ?_
    refine lv_iand hx hb dX7_ones_15 ?_
    refine gtop (y := nI (jζ &&& (jζ - 1))) (nx_and _ _) ?_
    refine lv_istore_n (lv' := [(2, .int (nI (jζ &&& (jζ - 1)))), (1, .int (nI (kζ + 1))), (0, .int (nI nζ))]) hx hb dX7_ones_16 rfl hl (by decide) rfl (fun ls hl => ?_)
    refine lv_goto (tgt := 4) hx hb dX7_ones_17 (by decide) ?_
    exact ih4 (kζ + 1, jζ &&& (jζ - 1)) (by have z : jζ &&& (jζ - 1) ≤ jζ - 1 := Nat.and_le_right; omega) (by have z : jζ &&& (jζ - 1) ≤ jζ - 1 := Nat.and_le_right; dsimp only; omega) _ _ _ (hP.sub [] rfl) (hD.sub [] (by decide) rfl) hS (lv_sub hl [0, 1, 2] rfl)
set_option maxHeartbeats 4000000 in
set_option maxRecDepth 100000 in
theorem c_X7_ones_1023 (l : Launch)  : Cp l yX7_ones wsX7_ones { frames := 0, cells := 0, slots := 0, locals := 0 } [.int 1023] 10 := by
  refine gMet_p (cc := cX7_ones) (maxL := 3) (ret := (some .int)) (by decide) rfl (Nat.le_of_ble_eq_true rfl) ?_
  intro p e s m args below meth c hx hb hr F hlk ls hl
  have hl : lv_has ls 3 [(0, .int 1023)] := hl
  have F : CallFix p m c cX7_ones 3 s args wsX7_ones RX7 := F
  have hts := F.2.2.2.2
  have hown : s.vm.findClass RX7 = some m.cls := F.2.2.2.1
  refine lv_iconst (v := 0) hx hb dX7_ones_0 (by decide) ?_
  refine lv_istore_n (lv' := [(1, .int 0), (0, .int 1023)]) hx hb dX7_ones_1 rfl hl (by decide) rfl (fun ls hl => ?_)
  refine lv_iload_n hx hb dX7_ones_2 rfl (lv_at hl 1 rfl) ?_
  refine lv_istore_n (lv' := [(2, .int 1023), (1, .int 0), (0, .int 1023)]) hx hb dX7_ones_3 rfl hl (by decide) rfl (fun ls hl => ?_)
  refine lv_iload_n hx hb dX7_ones_4 rfl (lv_at hl 0 rfl) ?_
  refine lv_if_eq (tgt := 20) hx hb dX7_ones_5 (by decide) (fun c_1 => ?_) (fun c_1 => ?_)
  · exact absurd c_1 (by decide)
  · refine lv_iinc (v := 1) (lv' := [(1, .int 1), (2, .int 1023), (0, .int 1023)]) hx hb dX7_ones_8 hl (k := 1) rfl (by decide) (by decide) rfl (fun ls hl => ?_)
    refine lv_iload_n hx hb dX7_ones_11 rfl (lv_at hl 1 rfl) ?_
    refine lv_iload_n hx hb dX7_ones_12 rfl (lv_at hl 1 rfl) ?_
    refine lv_iconst (v := 1) hx hb dX7_ones_13 (by decide) ?_
    refine lv_isub hx hb dX7_ones_14 ?_
    refine gtop (y := 1022) (by decide) ?_
    refine lv_iand hx hb dX7_ones_15 ?_
    refine gtop (y := 1022) (by decide) ?_
    refine lv_istore_n (lv' := [(2, .int 1022), (1, .int 1), (0, .int 1023)]) hx hb dX7_ones_16 rfl hl (by decide) rfl (fun ls hl => ?_)
    refine lv_goto (tgt := 4) hx hb dX7_ones_17 (by decide) ?_
    refine lv_iload_n hx hb dX7_ones_4 rfl (lv_at hl 0 rfl) ?_
    refine lv_if_eq (tgt := 20) hx hb dX7_ones_5 (by decide) (fun c_2 => ?_) (fun c_2 => ?_)
    · exact absurd c_2 (by decide)
    · refine lv_iinc (v := 2) (lv' := [(1, .int 2), (2, .int 1022), (0, .int 1023)]) hx hb dX7_ones_8 hl (k := 1) rfl (by decide) (by decide) rfl (fun ls hl => ?_)
      refine lv_iload_n hx hb dX7_ones_11 rfl (lv_at hl 1 rfl) ?_
      refine lv_iload_n hx hb dX7_ones_12 rfl (lv_at hl 1 rfl) ?_
      refine lv_iconst (v := 1) hx hb dX7_ones_13 (by decide) ?_
      refine lv_isub hx hb dX7_ones_14 ?_
      refine gtop (y := 1021) (by decide) ?_
      refine lv_iand hx hb dX7_ones_15 ?_
      refine gtop (y := 1020) (by decide) ?_
      refine lv_istore_n (lv' := [(2, .int 1020), (1, .int 2), (0, .int 1023)]) hx hb dX7_ones_16 rfl hl (by decide) rfl (fun ls hl => ?_)
      refine lv_goto (tgt := 4) hx hb dX7_ones_17 (by decide) ?_
      refine lv_iload_n hx hb dX7_ones_4 rfl (lv_at hl 0 rfl) ?_
      refine lv_if_eq (tgt := 20) hx hb dX7_ones_5 (by decide) (fun c_3 => ?_) (fun c_3 => ?_)
      · exact absurd c_3 (by decide)
      · refine lv_iinc (v := 3) (lv' := [(1, .int 3), (2, .int 1020), (0, .int 1023)]) hx hb dX7_ones_8 hl (k := 1) rfl (by decide) (by decide) rfl (fun ls hl => ?_)
        refine lv_iload_n hx hb dX7_ones_11 rfl (lv_at hl 1 rfl) ?_
        refine lv_iload_n hx hb dX7_ones_12 rfl (lv_at hl 1 rfl) ?_
        refine lv_iconst (v := 1) hx hb dX7_ones_13 (by decide) ?_
        refine lv_isub hx hb dX7_ones_14 ?_
        refine gtop (y := 1019) (by decide) ?_
        refine lv_iand hx hb dX7_ones_15 ?_
        refine gtop (y := 1016) (by decide) ?_
        refine lv_istore_n (lv' := [(2, .int 1016), (1, .int 3), (0, .int 1023)]) hx hb dX7_ones_16 rfl hl (by decide) rfl (fun ls hl => ?_)
        refine lv_goto (tgt := 4) hx hb dX7_ones_17 (by decide) ?_
        refine lv_iload_n hx hb dX7_ones_4 rfl (lv_at hl 0 rfl) ?_
        refine lv_if_eq (tgt := 20) hx hb dX7_ones_5 (by decide) (fun c_4 => ?_) (fun c_4 => ?_)
        · exact absurd c_4 (by decide)
        · refine lv_iinc (v := 4) (lv' := [(1, .int 4), (2, .int 1016), (0, .int 1023)]) hx hb dX7_ones_8 hl (k := 1) rfl (by decide) (by decide) rfl (fun ls hl => ?_)
          refine lv_iload_n hx hb dX7_ones_11 rfl (lv_at hl 1 rfl) ?_
          refine lv_iload_n hx hb dX7_ones_12 rfl (lv_at hl 1 rfl) ?_
          refine lv_iconst (v := 1) hx hb dX7_ones_13 (by decide) ?_
          refine lv_isub hx hb dX7_ones_14 ?_
          refine gtop (y := 1015) (by decide) ?_
          refine lv_iand hx hb dX7_ones_15 ?_
          refine gtop (y := 1008) (by decide) ?_
          refine lv_istore_n (lv' := [(2, .int 1008), (1, .int 4), (0, .int 1023)]) hx hb dX7_ones_16 rfl hl (by decide) rfl (fun ls hl => ?_)
          refine lv_goto (tgt := 4) hx hb dX7_ones_17 (by decide) ?_
          refine lv_iload_n hx hb dX7_ones_4 rfl (lv_at hl 0 rfl) ?_
          refine lv_if_eq (tgt := 20) hx hb dX7_ones_5 (by decide) (fun c_5 => ?_) (fun c_5 => ?_)
          · exact absurd c_5 (by decide)
          · refine lv_iinc (v := 5) (lv' := [(1, .int 5), (2, .int 1008), (0, .int 1023)]) hx hb dX7_ones_8 hl (k := 1) rfl (by decide) (by decide) rfl (fun ls hl => ?_)
            refine lv_iload_n hx hb dX7_ones_11 rfl (lv_at hl 1 rfl) ?_
            refine lv_iload_n hx hb dX7_ones_12 rfl (lv_at hl 1 rfl) ?_
            refine lv_iconst (v := 1) hx hb dX7_ones_13 (by decide) ?_
            refine lv_isub hx hb dX7_ones_14 ?_
            refine gtop (y := 1007) (by decide) ?_
            refine lv_iand hx hb dX7_ones_15 ?_
            refine gtop (y := 992) (by decide) ?_
            refine lv_istore_n (lv' := [(2, .int 992), (1, .int 5), (0, .int 1023)]) hx hb dX7_ones_16 rfl hl (by decide) rfl (fun ls hl => ?_)
            refine lv_goto (tgt := 4) hx hb dX7_ones_17 (by decide) ?_
            refine lv_iload_n hx hb dX7_ones_4 rfl (lv_at hl 0 rfl) ?_
            refine lv_if_eq (tgt := 20) hx hb dX7_ones_5 (by decide) (fun c_6 => ?_) (fun c_6 => ?_)
            · exact absurd c_6 (by decide)
            · refine lv_iinc (v := 6) (lv' := [(1, .int 6), (2, .int 992), (0, .int 1023)]) hx hb dX7_ones_8 hl (k := 1) rfl (by decide) (by decide) rfl (fun ls hl => ?_)
              refine lv_iload_n hx hb dX7_ones_11 rfl (lv_at hl 1 rfl) ?_
              refine lv_iload_n hx hb dX7_ones_12 rfl (lv_at hl 1 rfl) ?_
              refine lv_iconst (v := 1) hx hb dX7_ones_13 (by decide) ?_
              refine lv_isub hx hb dX7_ones_14 ?_
              refine gtop (y := 991) (by decide) ?_
              refine lv_iand hx hb dX7_ones_15 ?_
              refine gtop (y := 960) (by decide) ?_
              refine lv_istore_n (lv' := [(2, .int 960), (1, .int 6), (0, .int 1023)]) hx hb dX7_ones_16 rfl hl (by decide) rfl (fun ls hl => ?_)
              refine lv_goto (tgt := 4) hx hb dX7_ones_17 (by decide) ?_
              refine lv_iload_n hx hb dX7_ones_4 rfl (lv_at hl 0 rfl) ?_
              refine lv_if_eq (tgt := 20) hx hb dX7_ones_5 (by decide) (fun c_7 => ?_) (fun c_7 => ?_)
              · exact absurd c_7 (by decide)
              · refine lv_iinc (v := 7) (lv' := [(1, .int 7), (2, .int 960), (0, .int 1023)]) hx hb dX7_ones_8 hl (k := 1) rfl (by decide) (by decide) rfl (fun ls hl => ?_)
                refine lv_iload_n hx hb dX7_ones_11 rfl (lv_at hl 1 rfl) ?_
                refine lv_iload_n hx hb dX7_ones_12 rfl (lv_at hl 1 rfl) ?_
                refine lv_iconst (v := 1) hx hb dX7_ones_13 (by decide) ?_
                refine lv_isub hx hb dX7_ones_14 ?_
                refine gtop (y := 959) (by decide) ?_
                refine lv_iand hx hb dX7_ones_15 ?_
                refine gtop (y := 896) (by decide) ?_
                refine lv_istore_n (lv' := [(2, .int 896), (1, .int 7), (0, .int 1023)]) hx hb dX7_ones_16 rfl hl (by decide) rfl (fun ls hl => ?_)
                refine lv_goto (tgt := 4) hx hb dX7_ones_17 (by decide) ?_
                refine lv_iload_n hx hb dX7_ones_4 rfl (lv_at hl 0 rfl) ?_
                refine lv_if_eq (tgt := 20) hx hb dX7_ones_5 (by decide) (fun c_8 => ?_) (fun c_8 => ?_)
                · exact absurd c_8 (by decide)
                · refine lv_iinc (v := 8) (lv' := [(1, .int 8), (2, .int 896), (0, .int 1023)]) hx hb dX7_ones_8 hl (k := 1) rfl (by decide) (by decide) rfl (fun ls hl => ?_)
                  refine lv_iload_n hx hb dX7_ones_11 rfl (lv_at hl 1 rfl) ?_
                  refine lv_iload_n hx hb dX7_ones_12 rfl (lv_at hl 1 rfl) ?_
                  refine lv_iconst (v := 1) hx hb dX7_ones_13 (by decide) ?_
                  refine lv_isub hx hb dX7_ones_14 ?_
                  refine gtop (y := 895) (by decide) ?_
                  refine lv_iand hx hb dX7_ones_15 ?_
                  refine gtop (y := 768) (by decide) ?_
                  refine lv_istore_n (lv' := [(2, .int 768), (1, .int 8), (0, .int 1023)]) hx hb dX7_ones_16 rfl hl (by decide) rfl (fun ls hl => ?_)
                  refine lv_goto (tgt := 4) hx hb dX7_ones_17 (by decide) ?_
                  refine lv_iload_n hx hb dX7_ones_4 rfl (lv_at hl 0 rfl) ?_
                  refine lv_if_eq (tgt := 20) hx hb dX7_ones_5 (by decide) (fun c_9 => ?_) (fun c_9 => ?_)
                  · exact absurd c_9 (by decide)
                  · refine lv_iinc (v := 9) (lv' := [(1, .int 9), (2, .int 768), (0, .int 1023)]) hx hb dX7_ones_8 hl (k := 1) rfl (by decide) (by decide) rfl (fun ls hl => ?_)
                    refine lv_iload_n hx hb dX7_ones_11 rfl (lv_at hl 1 rfl) ?_
                    refine lv_iload_n hx hb dX7_ones_12 rfl (lv_at hl 1 rfl) ?_
                    refine lv_iconst (v := 1) hx hb dX7_ones_13 (by decide) ?_
                    refine lv_isub hx hb dX7_ones_14 ?_
                    refine gtop (y := 767) (by decide) ?_
                    refine lv_iand hx hb dX7_ones_15 ?_
                    refine gtop (y := 512) (by decide) ?_
                    refine lv_istore_n (lv' := [(2, .int 512), (1, .int 9), (0, .int 1023)]) hx hb dX7_ones_16 rfl hl (by decide) rfl (fun ls hl => ?_)
                    refine lv_goto (tgt := 4) hx hb dX7_ones_17 (by decide) ?_
                    refine lv_iload_n hx hb dX7_ones_4 rfl (lv_at hl 0 rfl) ?_
                    refine lv_if_eq (tgt := 20) hx hb dX7_ones_5 (by decide) (fun c_10 => ?_) (fun c_10 => ?_)
                    · exact absurd c_10 (by decide)
                    · refine lv_iinc (v := 10) (lv' := [(1, .int 10), (2, .int 512), (0, .int 1023)]) hx hb dX7_ones_8 hl (k := 1) rfl (by decide) (by decide) rfl (fun ls hl => ?_)
                      refine lv_iload_n hx hb dX7_ones_11 rfl (lv_at hl 1 rfl) ?_
                      refine lv_iload_n hx hb dX7_ones_12 rfl (lv_at hl 1 rfl) ?_
                      refine lv_iconst (v := 1) hx hb dX7_ones_13 (by decide) ?_
                      refine lv_isub hx hb dX7_ones_14 ?_
                      refine gtop (y := 511) (by decide) ?_
                      refine lv_iand hx hb dX7_ones_15 ?_
                      refine gtop (y := 0) (by decide) ?_
                      refine lv_istore_n (lv' := [(2, .int 0), (1, .int 10), (0, .int 1023)]) hx hb dX7_ones_16 rfl hl (by decide) rfl (fun ls hl => ?_)
                      refine lv_goto (tgt := 4) hx hb dX7_ones_17 (by decide) ?_
                      refine lv_iload_n hx hb dX7_ones_4 rfl (lv_at hl 0 rfl) ?_
                      refine lv_if_eq (tgt := 20) hx hb dX7_ones_5 (by decide) (fun c_11 => ?_) (fun c_11 => ?_)
                      · refine lv_iload_n hx hb dX7_ones_20 rfl (lv_at hl 1 rfl) ?_
                        exact r_pret hx hb hr hlk rfl dX7_ones_21
                      · exact absurd (by decide) c_11
set_option maxHeartbeats 4000000 in
set_option maxRecDepth 100000 in
theorem c_X7_road (l : Launch) (g : GT) (sz : Nat) (hζ : Nat) (Aζ : Nat → Nat) (xζ yζ zζ : Int32) : Ci l yX7_road wsX7_road { frames := 2, cells := 0, slots := 0, locals := 45 } g sz [.ref hζ, .int xζ, .int yζ, .int zζ] [(hζ, .inr (7, oM Aζ iM0)), aI g (Aζ 0) 121 (fun _ => 0)] (roadF xζ yζ zζ) [] := by
  refine gMet_i (cc := cX7_road) (maxL := 5) (ret := (some .int)) (by decide) rfl (Nat.le_of_ble_eq_true rfl) ?_
  intro p e s m args below meth c Z hx hb hr F hlk hnm hK hN hA H locs hP hD hS ls hl
  have hl : lv_has ls 5 [(0, .ref hζ), (1, .int xζ), (2, .int yζ), (3, .int zζ)] := hl
  have F : CallFix p m c cX7_road 5 s args wsX7_road RX7 := F
  have hts := F.2.2.2.2
  have hown : s.vm.findClass RX7 = some m.cls := F.2.2.2.1
  have hi7 : ∀ w ∈ u_ws RX7 TX7 34, w ∈ wsX7_road := by decide +kernel
  refine lv_iload_n hx hb dX7_road_0 rfl (lv_at hl 1 rfl) ?_
  refine gcP (As := [.int xζ]) (rest := []) F (c_X7_isPlace l xζ) gX7_road_X7_isPlace kX7_isPlace rfl rfl rfl ⟨(Nat.le_of_ble_eq_true rfl), (Nat.le_of_ble_eq_true rfl)⟩ rfl rfl hl.1 (Nat.le_of_ble_eq_true rfl) dX7_road_1 ⟨(Nat.le_of_ble_eq_true rfl), (Nat.le_of_ble_eq_true rfl)⟩ ?_
  refine lv_if_eq (tgt := 19) hx hb dX7_road_4 (by decide) (fun c_1 => ?_) (fun c_1 => ?_)
  · have c_1 : inB xζ 0 10 = false := bI_0 c_1
    refine lv_iconst (v := (-1)) hx hb dX7_road_19 (by decide) ?_
    exact r_iret hx hb hr hlk hS () (by unfold roadF; rw [if_neg (bF c_1)]) (hP.sub [] rfl) (hD.sub [] (by decide) rfl) dX7_road_20
  · have c_1 : inB xζ 0 10 = true := bI_1 c_1
    refine lv_iload_n hx hb dX7_road_7 rfl (lv_at hl 2 rfl) ?_
    refine gcP (As := [.int yζ]) (rest := []) F (c_X7_isPlace l yζ) gX7_road_X7_isPlace kX7_isPlace rfl rfl rfl ⟨(Nat.le_of_ble_eq_true rfl), (Nat.le_of_ble_eq_true rfl)⟩ rfl rfl hl.1 (Nat.le_of_ble_eq_true rfl) dX7_road_8 ⟨(Nat.le_of_ble_eq_true rfl), (Nat.le_of_ble_eq_true rfl)⟩ ?_
    refine lv_if_eq (tgt := 19) hx hb dX7_road_11 (by decide) (fun c_2 => ?_) (fun c_2 => ?_)
    · have c_2 : inB yζ 0 10 = false := bI_0 c_2
      refine lv_iconst (v := (-1)) hx hb dX7_road_19 (by decide) ?_
      exact r_iret hx hb hr hlk hS () (by unfold roadF; rw [if_pos c_1, if_neg (bF c_2)]) (hP.sub [] rfl) (hD.sub [] (by decide) rfl) dX7_road_20
    · have c_2 : inB yζ 0 10 = true := bI_1 c_2
      refine lv_iload_n hx hb dX7_road_14 rfl (lv_at hl 1 rfl) ?_
      refine lv_iload_n hx hb dX7_road_15 rfl (lv_at hl 2 rfl) ?_
      refine lv_icmp_ne (tgt := 21) hx hb dX7_road_16 (by decide) (fun c_3 => ?_) (fun c_3 => ?_)
      · refine lv_iload_n hx hb dX7_road_21 rfl (lv_at hl 3 rfl) ?_
        refine lv_i2l (v := zζ.toInt64) hx hb dX7_road_22 rfl ?_
        refine lv_lconst (v := 0) hx hb dX7_road_23 (by decide) ?_
        refine lv_ldc2 (v := 9) hx hb hown (hts (.constantLong RX7 76 (9)) (by decide +kernel)) dX7_road_24 ?_
        refine gcP (As := [.long zζ.toInt64, .long 0, .long 9]) (rest := []) F (c_X7_in l zζ.toInt64 0 9) gX7_road_X7_in kX7_in rfl rfl rfl ⟨(Nat.le_of_ble_eq_true rfl), (Nat.le_of_ble_eq_true rfl)⟩ rfl rfl hl.1 (Nat.le_of_ble_eq_true rfl) dX7_road_27 ⟨(Nat.le_of_ble_eq_true rfl), (Nat.le_of_ble_eq_true rfl)⟩ ?_
        refine gtop (y := bI (inB zζ 0 9)) (congrArg bI (inL_i (lo := 0) (hi := 9) (by decide) (by decide))) ?_
        refine lv_if_ne (tgt := 36) hx hb dX7_road_30 (by decide) (fun c_4 => ?_) (fun c_4 => ?_)
        · have c_4 : inB zζ 0 9 = true := bI_1 c_4
          obtain ⟨iζ, hiζ, eiζ⟩ := inB_nat (N := 11) (by decide) c_1
          have hl : lv_has ls 5 [(0, .ref hζ), (1, .int (nI iζ)), (2, .int yζ), (3, .int zζ)] := by first | exact hl | (rw [← (eiζ : xζ = nI iζ)]; exact hl)
          obtain ⟨jζ, hjζ, ejζ⟩ := inB_nat (N := 11) (by decide) c_2
          have hl : lv_has ls 5 [(0, .ref hζ), (1, .int (nI iζ)), (2, .int (nI jζ)), (3, .int zζ)] := by first | exact hl | (rw [← (ejζ : yζ = nI jζ)]; exact hl)
          refine lv_aload_n hx hb dX7_road_36 rfl (lv_at hl 0 rfl) ?_
          refine va_get (D := g.1) (ci := 7) (v := .ref (Aζ 0)) (C := RX7) (T := TX7) (N := 34) hx hb hts hi7 hown hK hP 0 rfl rfl 0 (by decide) (hts (.fieldLink RX7 7 "PanTalesModel" "roads" "[I") (by decide +kernel)) (fun _ h9 => h9) rfl dX7_road_37 ?_
          refine lv_bipush (v := 11) hx hb dX7_road_40 (by decide) ?_
          refine lv_iload_n hx hb dX7_road_42 rfl (lv_at hl 1 rfl) ?_
          refine lv_imul hx hb dX7_road_43 ?_
          refine gtop (y := nI (11 * iζ)) (pk_mul 11 iζ) ?_
          refine lv_iload_n hx hb dX7_road_44 rfl (lv_at hl 2 rfl) ?_
          refine lv_iadd hx hb dX7_road_45 ?_
          refine gtop (y := nI ((11 * iζ) + jζ)) (nI_add (11 * iζ) jζ) ?_
          refine r_iald (v := 0) hx hb hK hP 1 rfl (vp_in_nI (n := (11 * iζ) + jζ) (by omega) (by omega)) (congrArg (fun _ => 0) (nI_clamp (n := (11 * iζ) + jζ) (by omega))) dX7_road_46 ?_
          refine lv_istore (lv' := [(4, .int 0), (0, .ref hζ), (1, .int (nI iζ)), (2, .int (nI jζ)), (3, .int zζ)]) hx hb dX7_road_47 hl (by decide) rfl (fun ls hl => ?_)
          refine lv_aload_n hx hb dX7_road_49 rfl (lv_at hl 1 rfl) ?_
          refine va_get (D := g.1) (ci := 7) (v := .ref (Aζ 0)) (C := RX7) (T := TX7) (N := 34) hx hb hts hi7 hown hK hP 0 rfl rfl 0 (by decide) (hts (.fieldLink RX7 7 "PanTalesModel" "roads" "[I") (by decide +kernel)) (fun _ h9 => h9) rfl dX7_road_50 ?_
          refine lv_bipush (v := 11) hx hb dX7_road_53 (by decide) ?_
          refine lv_iload_n hx hb dX7_road_55 rfl (lv_at hl 2 rfl) ?_
          refine lv_imul hx hb dX7_road_56 ?_
          refine gtop (y := nI (11 * iζ)) (pk_mul 11 iζ) ?_
          refine lv_iload_n hx hb dX7_road_57 rfl (lv_at hl 3 rfl) ?_
          refine lv_iadd hx hb dX7_road_58 ?_
          refine gtop (y := nI ((11 * iζ) + jζ)) (nI_add (11 * iζ) jζ) ?_
          refine lv_iload_n hx hb dX7_road_59 rfl (lv_at hl 4 rfl) ?_
          refine r_iast (f' := upd (fun _ => 0) ((11 * iζ) + jζ) zζ) hx hb hK hP hD hS 1 rfl (vp_in_nI (n := (11 * iζ) + jζ) (by omega) (by omega)) (fun k_u _ => congrArg (fun z_u => upd (fun _ => 0) z_u zζ k_u) (nI_clamp (n := (11 * iζ) + jζ) (by omega))) dX7_road_60 (fun H locs hP hD hS => ?_)
          have hP : va_P g.1 vwCl [(hζ, .inr (7, oM Aζ iM0)), aI g (Aζ 0) 121 (upd (fun _ => 0) ((11 * iζ) + jζ) zζ)] H := hP
          have hD : va_D Z [(hζ, .inr (7, oM Aζ iM0)), aI g (Aζ 0) 121 (upd (fun _ => 0) ((11 * iζ) + jζ) zζ)] := hD
          refine lv_aload_n hx hb dX7_road_61 rfl (lv_at hl 1 rfl) ?_
          refine va_get (D := g.1) (ci := 7) (v := .ref (Aζ 0)) (C := RX7) (T := TX7) (N := 34) hx hb hts hi7 hown hK hP 0 rfl rfl 0 (by decide) (hts (.fieldLink RX7 7 "PanTalesModel" "roads" "[I") (by decide +kernel)) (fun _ h9 => h9) rfl dX7_road_62 ?_
          refine lv_bipush (v := 11) hx hb dX7_road_65 (by decide) ?_
          refine lv_iload_n hx hb dX7_road_67 rfl (lv_at hl 3 rfl) ?_
          refine lv_imul hx hb dX7_road_68 ?_
          refine gtop (y := nI (11 * jζ)) (pk_mul 11 jζ) ?_
          refine lv_iload_n hx hb dX7_road_69 rfl (lv_at hl 2 rfl) ?_
          refine lv_iadd hx hb dX7_road_70 ?_
          refine gtop (y := nI ((11 * jζ) + iζ)) (nI_add (11 * jζ) iζ) ?_
          refine lv_iload_n hx hb dX7_road_71 rfl (lv_at hl 4 rfl) ?_
          refine r_iast (f' := upd (upd (fun _ => 0) ((11 * iζ) + jζ) zζ) ((11 * jζ) + iζ) zζ) hx hb hK hP hD hS 1 rfl (vp_in_nI (n := (11 * jζ) + iζ) (by omega) (by omega)) (fun k_u _ => congrArg (fun z_u => upd (upd (fun _ => 0) ((11 * iζ) + jζ) zζ) z_u zζ k_u) (nI_clamp (n := (11 * jζ) + iζ) (by omega))) dX7_road_72 (fun H locs hP hD hS => ?_)
          have hP : va_P g.1 vwCl [(hζ, .inr (7, oM Aζ iM0)), aI g (Aζ 0) 121 (upd (upd (fun _ => 0) ((11 * iζ) + jζ) zζ) ((11 * jζ) + iζ) zζ)] H := hP
          have hD : va_D Z [(hζ, .inr (7, oM Aζ iM0)), aI g (Aζ 0) 121 (upd (upd (fun _ => 0) ((11 * iζ) + jζ) zζ) ((11 * jζ) + iζ) zζ)] := hD
          refine lv_iload hx hb dX7_road_73 (lv_at hl 0 rfl) ?_
          exact r_iret hx hb hr hlk hS () (by unfold roadF; rw [if_pos c_1, if_pos c_2, if_neg c_3, if_pos c_4]) (hP.sub [] rfl) (hD.sub [] (by decide) rfl) dX7_road_75
        · have c_4 : inB zζ 0 9 = false := bI_0 c_4
          refine lv_bipush (v := (-2)) hx hb dX7_road_33 (by decide) ?_
          exact r_iret hx hb hr hlk hS () (by unfold roadF; rw [if_pos c_1, if_pos c_2, if_neg c_3, if_neg (bF c_4)]) (hP.sub [] rfl) (hD.sub [] (by decide) rfl) dX7_road_35
      · refine lv_iconst (v := (-1)) hx hb dX7_road_19 (by decide) ?_
        exact r_iret hx hb hr hlk hS () (by unfold roadF; rw [if_pos c_1, if_pos c_2, if_pos c_3]) (hP.sub [] rfl) (hD.sub [] (by decide) rfl) dX7_road_20
set_option maxHeartbeats 4000000 in
set_option maxRecDepth 100000 in
theorem c_X7_house (l : Launch) (g : GT) (sz : Nat) (hζ : Nat) (Aζ : Nat → Nat) (xζ yζ zζ : Int32) : Ci l yX7_house wsX7_house { frames := 2, cells := 0, slots := 0, locals := 45 } g sz [.ref hζ, .int xζ, .int yζ, .int zζ] [(hζ, .inr (7, oM Aζ iM0)), aI g (Aζ 1) 10 (fun _ => 5), aI g (Aζ 2) 10 (fun _ => 0)] (houseF xζ yζ zζ) [] := by
  refine gMet_i (cc := cX7_house) (maxL := 5) (ret := (some .int)) (by decide) rfl (Nat.le_of_ble_eq_true rfl) ?_
  intro p e s m args below meth c Z hx hb hr F hlk hnm hK hN hA H locs hP hD hS ls hl
  have hl : lv_has ls 5 [(0, .ref hζ), (1, .int xζ), (2, .int yζ), (3, .int zζ)] := hl
  have F : CallFix p m c cX7_house 5 s args wsX7_house RX7 := F
  have hts := F.2.2.2.2
  have hown : s.vm.findClass RX7 = some m.cls := F.2.2.2.1
  have hi7 : ∀ w ∈ u_ws RX7 TX7 34, w ∈ wsX7_house := by decide +kernel
  refine lv_iload_n hx hb dX7_house_0 rfl (lv_at hl 1 rfl) ?_
  refine gcP (As := [.int xζ]) (rest := []) F (c_X7_isHouse l xζ) gX7_house_X7_isHouse kX7_isHouse rfl rfl rfl ⟨(Nat.le_of_ble_eq_true rfl), (Nat.le_of_ble_eq_true rfl)⟩ rfl rfl hl.1 (Nat.le_of_ble_eq_true rfl) dX7_house_1 ⟨(Nat.le_of_ble_eq_true rfl), (Nat.le_of_ble_eq_true rfl)⟩ ?_
  refine lv_if_ne (tgt := 9) hx hb dX7_house_4 (by decide) (fun c_1 => ?_) (fun c_1 => ?_)
  · have c_1 : inB xζ 0 9 = true := bI_1 c_1
    refine lv_iload_n hx hb dX7_house_9 rfl (lv_at hl 2 rfl) ?_
    refine lv_i2l (v := yζ.toInt64) hx hb dX7_house_10 rfl ?_
    refine lv_lconst (v := 0) hx hb dX7_house_11 (by decide) ?_
    refine lv_ldc2 (v := 9) hx hb hown (hts (.constantLong RX7 76 (9)) (by decide +kernel)) dX7_house_12 ?_
    refine gcP (As := [.long yζ.toInt64, .long 0, .long 9]) (rest := []) F (c_X7_in l yζ.toInt64 0 9) gX7_house_X7_in kX7_in rfl rfl rfl ⟨(Nat.le_of_ble_eq_true rfl), (Nat.le_of_ble_eq_true rfl)⟩ rfl rfl hl.1 (Nat.le_of_ble_eq_true rfl) dX7_house_15 ⟨(Nat.le_of_ble_eq_true rfl), (Nat.le_of_ble_eq_true rfl)⟩ ?_
    refine gtop (y := bI (inB yζ 0 9)) (congrArg bI (inL_i (lo := 0) (hi := 9) (by decide) (by decide))) ?_
    refine lv_if_eq (tgt := 31) hx hb dX7_house_18 (by decide) (fun c_2 => ?_) (fun c_2 => ?_)
    · have c_2 : inB yζ 0 9 = false := bI_0 c_2
      refine lv_bipush (v := (-2)) hx hb dX7_house_31 (by decide) ?_
      exact r_iret hx hb hr hlk hS () (by unfold houseF; rw [if_pos c_1, if_neg (bF c_2)]) (hP.sub [] rfl) (hD.sub [] (by decide) rfl) dX7_house_33
    · have c_2 : inB yζ 0 9 = true := bI_1 c_2
      refine lv_iload_n hx hb dX7_house_21 rfl (lv_at hl 3 rfl) ?_
      refine lv_i2l (v := zζ.toInt64) hx hb dX7_house_22 rfl ?_
      refine lv_lconst (v := 0) hx hb dX7_house_23 (by decide) ?_
      refine lv_lconst (v := 1) hx hb dX7_house_24 (by decide) ?_
      refine gcP (As := [.long zζ.toInt64, .long 0, .long 1]) (rest := []) F (c_X7_in l zζ.toInt64 0 1) gX7_house_X7_in kX7_in rfl rfl rfl ⟨(Nat.le_of_ble_eq_true rfl), (Nat.le_of_ble_eq_true rfl)⟩ rfl rfl hl.1 (Nat.le_of_ble_eq_true rfl) dX7_house_25 ⟨(Nat.le_of_ble_eq_true rfl), (Nat.le_of_ble_eq_true rfl)⟩ ?_
      refine gtop (y := bI (inB zζ 0 1)) (congrArg bI (inL_i (lo := 0) (hi := 1) (by decide) (by decide))) ?_
      refine lv_if_ne (tgt := 34) hx hb dX7_house_28 (by decide) (fun c_3 => ?_) (fun c_3 => ?_)
      · have c_3 : inB zζ 0 1 = true := bI_1 c_3
        obtain ⟨iζ, hiζ, eiζ⟩ := inB_nat (N := 10) (by decide) c_1
        have hl : lv_has ls 5 [(0, .ref hζ), (1, .int (nI iζ)), (2, .int yζ), (3, .int zζ)] := by first | exact hl | (rw [← (eiζ : xζ = nI iζ)]; exact hl)
        refine lv_aload_n hx hb dX7_house_34 rfl (lv_at hl 0 rfl) ?_
        refine va_get (D := g.1) (ci := 7) (v := .ref (Aζ 1)) (C := RX7) (T := TX7) (N := 34) hx hb hts hi7 hown hK hP 0 rfl rfl 1 (by decide) (hts (.fieldLink RX7 13 "PanTalesModel" "doubt" "[I") (by decide +kernel)) (fun _ h9 => h9) rfl dX7_house_35 ?_
        refine lv_iload_n hx hb dX7_house_38 rfl (lv_at hl 1 rfl) ?_
        refine r_iald (v := 5) hx hb hK hP 1 rfl (vp_in_nI (n := iζ) (by omega) (by omega)) (congrArg (fun _ => 5) (nI_clamp (n := iζ) (by omega))) dX7_house_39 ?_
        refine lv_istore (lv' := [(4, .int 5), (0, .ref hζ), (1, .int (nI iζ)), (2, .int yζ), (3, .int zζ)]) hx hb dX7_house_40 hl (by decide) rfl (fun ls hl => ?_)
        refine lv_aload_n hx hb dX7_house_42 rfl (lv_at hl 1 rfl) ?_
        refine va_get (D := g.1) (ci := 7) (v := .ref (Aζ 1)) (C := RX7) (T := TX7) (N := 34) hx hb hts hi7 hown hK hP 0 rfl rfl 1 (by decide) (hts (.fieldLink RX7 13 "PanTalesModel" "doubt" "[I") (by decide +kernel)) (fun _ h9 => h9) rfl dX7_house_43 ?_
        refine lv_iload_n hx hb dX7_house_46 rfl (lv_at hl 2 rfl) ?_
        refine lv_iload_n hx hb dX7_house_47 rfl (lv_at hl 3 rfl) ?_
        refine r_iast (f' := upd (fun _ => 5) iζ yζ) hx hb hK hP hD hS 1 rfl (vp_in_nI (n := iζ) (by omega) (by omega)) (fun k_u _ => congrArg (fun z_u => upd (fun _ => 5) z_u yζ k_u) (nI_clamp (n := iζ) (by omega))) dX7_house_48 (fun H locs hP hD hS => ?_)
        have hP : va_P g.1 vwCl [(hζ, .inr (7, oM Aζ iM0)), aI g (Aζ 1) 10 (upd (fun _ => 5) iζ yζ), aI g (Aζ 2) 10 (fun _ => 0)] H := hP
        have hD : va_D Z [(hζ, .inr (7, oM Aζ iM0)), aI g (Aζ 1) 10 (upd (fun _ => 5) iζ yζ), aI g (Aζ 2) 10 (fun _ => 0)] := hD
        refine lv_aload_n hx hb dX7_house_49 rfl (lv_at hl 1 rfl) ?_
        refine va_get (D := g.1) (ci := 7) (v := .ref (Aζ 2)) (C := RX7) (T := TX7) (N := 34) hx hb hts hi7 hown hK hP 0 rfl rfl 2 (by decide) (hts (.fieldLink RX7 16 "PanTalesModel" "damp" "[I") (by decide +kernel)) (fun _ h9 => h9) rfl dX7_house_50 ?_
        refine lv_iload_n hx hb dX7_house_53 rfl (lv_at hl 2 rfl) ?_
        refine lv_iload_n hx hb dX7_house_54 rfl (lv_at hl 4 rfl) ?_
        refine r_iast (f' := upd (fun _ => 0) iζ zζ) hx hb hK hP hD hS 2 rfl (vp_in_nI (n := iζ) (by omega) (by omega)) (fun k_u _ => congrArg (fun z_u => upd (fun _ => 0) z_u zζ k_u) (nI_clamp (n := iζ) (by omega))) dX7_house_55 (fun H locs hP hD hS => ?_)
        have hP : va_P g.1 vwCl [(hζ, .inr (7, oM Aζ iM0)), aI g (Aζ 1) 10 (upd (fun _ => 5) iζ yζ), aI g (Aζ 2) 10 (upd (fun _ => 0) iζ zζ)] H := hP
        have hD : va_D Z [(hζ, .inr (7, oM Aζ iM0)), aI g (Aζ 1) 10 (upd (fun _ => 5) iζ yζ), aI g (Aζ 2) 10 (upd (fun _ => 0) iζ zζ)] := hD
        refine lv_iload hx hb dX7_house_56 (lv_at hl 0 rfl) ?_
        exact r_iret hx hb hr hlk hS () (by unfold houseF; rw [if_pos c_1, if_pos c_2, if_pos c_3]) (hP.sub [] rfl) (hD.sub [] (by decide) rfl) dX7_house_58
      · have c_3 : inB zζ 0 1 = false := bI_0 c_3
        refine lv_bipush (v := (-2)) hx hb dX7_house_31 (by decide) ?_
        exact r_iret hx hb hr hlk hS () (by unfold houseF; rw [if_pos c_1, if_pos c_2, if_neg (bF c_3)]) (hP.sub [] rfl) (hD.sub [] (by decide) rfl) dX7_house_33
  · have c_1 : inB xζ 0 9 = false := bI_0 c_1
    refine lv_iconst (v := (-1)) hx hb dX7_house_7 (by decide) ?_
    exact r_iret hx hb hr hlk hS () (by unfold houseF; rw [if_neg (bF c_1)]) (hP.sub [] rfl) (hD.sub [] (by decide) rfl) dX7_house_8
set_option maxHeartbeats 4000000 in
set_option maxRecDepth 100000 in
theorem c_X7_tell (l : Launch) (g : GT) (sz : Nat) (hζ : Nat) (Aζ : Nat → Nat) (xζ yζ : Int32) : Ci l yX7_tell wsX7_tell { frames := 2, cells := 0, slots := 0, locals := 45 } g sz [.ref hζ, .int xζ, .int yζ] [(hζ, .inr (7, oM Aζ iM0)), aI g (Aζ 3) 10 (fun _ => (-6))] (tellF xζ yζ) [] := by
  refine gMet_i (cc := cX7_tell) (maxL := 4) (ret := (some .int)) (by decide) rfl (Nat.le_of_ble_eq_true rfl) ?_
  intro p e s m args below meth c Z hx hb hr F hlk hnm hK hN hA H locs hP hD hS ls hl
  have hl : lv_has ls 4 [(0, .ref hζ), (1, .int xζ), (2, .int yζ)] := hl
  have F : CallFix p m c cX7_tell 4 s args wsX7_tell RX7 := F
  have hts := F.2.2.2.2
  have hown : s.vm.findClass RX7 = some m.cls := F.2.2.2.1
  have hi7 : ∀ w ∈ u_ws RX7 TX7 34, w ∈ wsX7_tell := by decide +kernel
  refine lv_iload_n hx hb dX7_tell_0 rfl (lv_at hl 1 rfl) ?_
  refine gcP (As := [.int xζ]) (rest := []) F (c_X7_isHouse l xζ) gX7_tell_X7_isHouse kX7_isHouse rfl rfl rfl ⟨(Nat.le_of_ble_eq_true rfl), (Nat.le_of_ble_eq_true rfl)⟩ rfl rfl hl.1 (Nat.le_of_ble_eq_true rfl) dX7_tell_1 ⟨(Nat.le_of_ble_eq_true rfl), (Nat.le_of_ble_eq_true rfl)⟩ ?_
  refine lv_if_eq (tgt := 21) hx hb dX7_tell_4 (by decide) (fun c_1 => ?_) (fun c_1 => ?_)
  · have c_1 : inB xζ 0 9 = false := bI_0 c_1
    refine lv_iconst (v := (-1)) hx hb dX7_tell_21 (by decide) ?_
    exact r_iret hx hb hr hlk hS () (by unfold tellF; rw [if_neg (bF c_1)]) (hP.sub [] rfl) (hD.sub [] (by decide) rfl) dX7_tell_22
  · have c_1 : inB xζ 0 9 = true := bI_1 c_1
    refine lv_iload_n hx hb dX7_tell_7 rfl (lv_at hl 2 rfl) ?_
    refine lv_i2l (v := yζ.toInt64) hx hb dX7_tell_8 rfl ?_
    refine lv_ldc2 (v := (-1)) hx hb hown (hts (.constantLong RX7 91 (-1)) (by decide +kernel)) dX7_tell_9 ?_
    refine lv_ldc2 (v := 9) hx hb hown (hts (.constantLong RX7 76 (9)) (by decide +kernel)) dX7_tell_12 ?_
    refine gcP (As := [.long yζ.toInt64, .long (-1), .long 9]) (rest := []) F (c_X7_in l yζ.toInt64 (-1) 9) gX7_tell_X7_in kX7_in rfl rfl rfl ⟨(Nat.le_of_ble_eq_true rfl), (Nat.le_of_ble_eq_true rfl)⟩ rfl rfl hl.1 (Nat.le_of_ble_eq_true rfl) dX7_tell_15 ⟨(Nat.le_of_ble_eq_true rfl), (Nat.le_of_ble_eq_true rfl)⟩ ?_
    refine gtop (y := bI (inB yζ (-1) 9)) (congrArg bI (inL_i (lo := (-1)) (hi := 9) (by decide) (by decide))) ?_
    refine lv_if_ne (tgt := 23) hx hb dX7_tell_18 (by decide) (fun c_2 => ?_) (fun c_2 => ?_)
    · have c_2 : inB yζ (-1) 9 = true := bI_1 c_2
      obtain ⟨iζ, hiζ, eiζ⟩ := inB_nat (N := 10) (by decide) c_1
      have hl : lv_has ls 4 [(0, .ref hζ), (1, .int (nI iζ)), (2, .int yζ)] := by first | exact hl | (rw [← (eiζ : xζ = nI iζ)]; exact hl)
      refine lv_aload_n hx hb dX7_tell_23 rfl (lv_at hl 0 rfl) ?_
      refine va_get (D := g.1) (ci := 7) (v := .ref (Aζ 3)) (C := RX7) (T := TX7) (N := 34) hx hb hts hi7 hown hK hP 0 rfl rfl 3 (by decide) (hts (.fieldLink RX7 19 "PanTalesModel" "believes" "[I") (by decide +kernel)) (fun _ h9 => h9) rfl dX7_tell_24 ?_
      refine lv_iload_n hx hb dX7_tell_27 rfl (lv_at hl 1 rfl) ?_
      refine r_iald (v := (-6)) hx hb hK hP 1 rfl (vp_in_nI (n := iζ) (by omega) (by omega)) (congrArg (fun _ => (-6)) (nI_clamp (n := iζ) (by omega))) dX7_tell_28 ?_
      refine lv_istore_n (lv' := [(3, .int (-6)), (0, .ref hζ), (1, .int (nI iζ)), (2, .int yζ)]) hx hb dX7_tell_29 rfl hl (by decide) rfl (fun ls hl => ?_)
      refine lv_aload_n hx hb dX7_tell_30 rfl (lv_at hl 1 rfl) ?_
      refine va_get (D := g.1) (ci := 7) (v := .ref (Aζ 3)) (C := RX7) (T := TX7) (N := 34) hx hb hts hi7 hown hK hP 0 rfl rfl 3 (by decide) (hts (.fieldLink RX7 19 "PanTalesModel" "believes" "[I") (by decide +kernel)) (fun _ h9 => h9) rfl dX7_tell_31 ?_
      refine lv_iload_n hx hb dX7_tell_34 rfl (lv_at hl 2 rfl) ?_
      refine lv_iload_n hx hb dX7_tell_35 rfl (lv_at hl 3 rfl) ?_
      refine lv_if_ge (tgt := 44) hx hb dX7_tell_36 (by decide) (fun c_3 => ?_) (fun c_3 => ?_)
      · refine lv_iload_n hx hb dX7_tell_44 rfl (lv_at hl 3 rfl) ?_
        refine r_iast (f' := upd (fun _ => (-6)) iζ yζ) hx hb hK hP hD hS 1 rfl (vp_in_nI (n := iζ) (by omega) (by omega)) (fun k_u _ => congrArg (fun z_u => upd (fun _ => (-6)) z_u yζ k_u) (nI_clamp (n := iζ) (by omega))) dX7_tell_45 (fun H locs hP hD hS => ?_)
        have hP : va_P g.1 vwCl [(hζ, .inr (7, oM Aζ iM0)), aI g (Aζ 3) 10 (upd (fun _ => (-6)) iζ yζ)] H := hP
        have hD : va_D Z [(hζ, .inr (7, oM Aζ iM0)), aI g (Aζ 3) 10 (upd (fun _ => (-6)) iζ yζ)] := hD
        refine lv_iload_n hx hb dX7_tell_46 rfl (lv_at hl 0 rfl) ?_
        exact r_iret hx hb hr hlk hS () (tl_t c_1 c_2) (hP.sub [] rfl) (hD.sub [] (by decide) rfl) dX7_tell_47
      · refine lv_bipush (v := (-6)) hx hb dX7_tell_39 (by decide) ?_
        refine lv_goto (tgt := 45) hx hb dX7_tell_41 (by decide) ?_
        refine r_iast (f' := upd (fun _ => (-6)) iζ (-6)) hx hb hK hP hD hS 1 rfl (vp_in_nI (n := iζ) (by omega) (by omega)) (fun k_u _ => congrArg (fun z_u => upd (fun _ => (-6)) z_u (-6) k_u) (nI_clamp (n := iζ) (by omega))) dX7_tell_45 (fun H locs hP hD hS => ?_)
        have hP : va_P g.1 vwCl [(hζ, .inr (7, oM Aζ iM0)), aI g (Aζ 3) 10 (upd (fun _ => (-6)) iζ (-6))] H := hP
        have hD : va_D Z [(hζ, .inr (7, oM Aζ iM0)), aI g (Aζ 3) 10 (upd (fun _ => (-6)) iζ (-6))] := hD
        refine lv_iload_n hx hb dX7_tell_46 rfl (lv_at hl 0 rfl) ?_
        exact r_iret hx hb hr hlk hS () (tl_t c_1 c_2) (hP.sub [] rfl) (hD.sub [] (by decide) rfl) dX7_tell_47
    · have c_2 : inB yζ (-1) 9 = false := bI_0 c_2
      refine lv_iconst (v := (-1)) hx hb dX7_tell_21 (by decide) ?_
      exact r_iret hx hb hr hlk hS () (tl_f c_1 c_2) (hP.sub [] rfl) (hD.sub [] (by decide) rfl) dX7_tell_22
set_option maxHeartbeats 4000000 in
set_option maxRecDepth 100000 in
theorem c_X7_fade (l : Launch) (g : GT) (sz : Nat) (hζ : Nat) (Aζ : Nat → Nat) (xζ yζ : Int32) : Ci l yX7_fade wsX7_fade { frames := 2, cells := 0, slots := 0, locals := 45 } g sz [.ref hζ, .int xζ, .int yζ] [(hζ, .inr (7, oM Aζ iM0)), aI g (Aζ 4) 10 (fun jζ => nI jζ)] (fadeF xζ yζ) [] := by
  refine gMet_i (cc := cX7_fade) (maxL := 4) (ret := (some .int)) (by decide) rfl (Nat.le_of_ble_eq_true rfl) ?_
  intro p e s m args below meth c Z hx hb hr F hlk hnm hK hN hA H locs hP hD hS ls hl
  have hl : lv_has ls 4 [(0, .ref hζ), (1, .int xζ), (2, .int yζ)] := hl
  have F : CallFix p m c cX7_fade 4 s args wsX7_fade RX7 := F
  have hts := F.2.2.2.2
  have hown : s.vm.findClass RX7 = some m.cls := F.2.2.2.1
  have hi7 : ∀ w ∈ u_ws RX7 TX7 34, w ∈ wsX7_fade := by decide +kernel
  refine lv_iload_n hx hb dX7_fade_0 rfl (lv_at hl 1 rfl) ?_
  refine gcP (As := [.int xζ]) (rest := []) F (c_X7_isTale l xζ) gX7_fade_X7_isTale kX7_isTale rfl rfl rfl ⟨(Nat.le_of_ble_eq_true rfl), (Nat.le_of_ble_eq_true rfl)⟩ rfl rfl hl.1 (Nat.le_of_ble_eq_true rfl) dX7_fade_1 ⟨(Nat.le_of_ble_eq_true rfl), (Nat.le_of_ble_eq_true rfl)⟩ ?_
  refine lv_if_eq (tgt := 14) hx hb dX7_fade_4 (by decide) (fun c_1 => ?_) (fun c_1 => ?_)
  · have c_1 : inB xζ 0 9 = false := bI_0 c_1
    refine lv_iconst (v := (-1)) hx hb dX7_fade_14 (by decide) ?_
    exact r_iret hx hb hr hlk hS () (by unfold fadeF; rw [if_neg (bF c_1)]) (hP.sub [] rfl) (hD.sub [] (by decide) rfl) dX7_fade_15
  · have c_1 : inB xζ 0 9 = true := bI_1 c_1
    refine lv_iload_n hx hb dX7_fade_7 rfl (lv_at hl 2 rfl) ?_
    refine gcP (As := [.int yζ]) (rest := []) F (c_X7_isTale l yζ) gX7_fade_X7_isTale kX7_isTale rfl rfl rfl ⟨(Nat.le_of_ble_eq_true rfl), (Nat.le_of_ble_eq_true rfl)⟩ rfl rfl hl.1 (Nat.le_of_ble_eq_true rfl) dX7_fade_8 ⟨(Nat.le_of_ble_eq_true rfl), (Nat.le_of_ble_eq_true rfl)⟩ ?_
    refine lv_if_ne (tgt := 16) hx hb dX7_fade_11 (by decide) (fun c_2 => ?_) (fun c_2 => ?_)
    · have c_2 : inB yζ 0 9 = true := bI_1 c_2
      obtain ⟨iζ, hiζ, eiζ⟩ := inB_nat (N := 10) (by decide) c_1
      have hl : lv_has ls 4 [(0, .ref hζ), (1, .int (nI iζ)), (2, .int yζ)] := by first | exact hl | (rw [← (eiζ : xζ = nI iζ)]; exact hl)
      refine lv_aload_n hx hb dX7_fade_16 rfl (lv_at hl 0 rfl) ?_
      refine va_get (D := g.1) (ci := 7) (v := .ref (Aζ 4)) (C := RX7) (T := TX7) (N := 34) hx hb hts hi7 hown hK hP 0 rfl rfl 4 (by decide) (hts (.fieldLink RX7 22 "PanTalesModel" "fades" "[I") (by decide +kernel)) (fun _ h9 => h9) rfl dX7_fade_17 ?_
      refine lv_iload_n hx hb dX7_fade_20 rfl (lv_at hl 1 rfl) ?_
      refine r_iald (v := nI iζ) hx hb hK hP 1 rfl (vp_in_nI (n := iζ) (by omega) (by omega)) (congrArg (fun jζ => nI jζ) (nI_clamp (n := iζ) (by omega))) dX7_fade_21 ?_
      refine lv_istore_n (lv' := [(3, .int (nI iζ)), (0, .ref hζ), (1, .int (nI iζ)), (2, .int yζ)]) hx hb dX7_fade_22 rfl hl (by decide) rfl (fun ls hl => ?_)
      refine lv_aload_n hx hb dX7_fade_23 rfl (lv_at hl 1 rfl) ?_
      refine va_get (D := g.1) (ci := 7) (v := .ref (Aζ 4)) (C := RX7) (T := TX7) (N := 34) hx hb hts hi7 hown hK hP 0 rfl rfl 4 (by decide) (hts (.fieldLink RX7 22 "PanTalesModel" "fades" "[I") (by decide +kernel)) (fun _ h9 => h9) rfl dX7_fade_24 ?_
      refine lv_iload_n hx hb dX7_fade_27 rfl (lv_at hl 2 rfl) ?_
      refine lv_iload_n hx hb dX7_fade_28 rfl (lv_at hl 3 rfl) ?_
      refine r_iast (f' := upd (fun jζ => nI jζ) iζ yζ) hx hb hK hP hD hS 1 rfl (vp_in_nI (n := iζ) (by omega) (by omega)) (fun k_u _ => congrArg (fun z_u => upd (fun jζ => nI jζ) z_u yζ k_u) (nI_clamp (n := iζ) (by omega))) dX7_fade_29 (fun H locs hP hD hS => ?_)
      have hP : va_P g.1 vwCl [(hζ, .inr (7, oM Aζ iM0)), aI g (Aζ 4) 10 (upd (fun jζ => nI jζ) iζ yζ)] H := hP
      have hD : va_D Z [(hζ, .inr (7, oM Aζ iM0)), aI g (Aζ 4) 10 (upd (fun jζ => nI jζ) iζ yζ)] := hD
      refine lv_iload_n hx hb dX7_fade_30 rfl (lv_at hl 0 rfl) ?_
      exact r_iret hx hb hr hlk hS () (by unfold fadeF; rw [if_pos c_1, if_pos c_2]; exact eiζ.symm) (hP.sub [] rfl) (hD.sub [] (by decide) rfl) dX7_fade_31
    · have c_2 : inB yζ 0 9 = false := bI_0 c_2
      refine lv_iconst (v := (-1)) hx hb dX7_fade_14 (by decide) ?_
      exact r_iret hx hb hr hlk hS () (by unfold fadeF; rw [if_pos c_1, if_neg (bF c_2)]) (hP.sub [] rfl) (hD.sub [] (by decide) rfl) dX7_fade_15
set_option maxHeartbeats 4000000 in
set_option maxRecDepth 100000 in
theorem c_X7_say (l : Launch) (g : GT) (sz : Nat) (hζ : Nat) (Aζ : Nat → Nat) (xζ : Int32) : Ci l yX7_say wsX7_say { frames := 1, cells := 0, slots := 0, locals := 25 } g sz [.ref hζ, .int xζ] [(hζ, .inr (7, oM Aζ iM0)), aI g (Aζ 12) 60 (fun _ => 0)] (sayF xζ) [] := by
  refine gMet_i (cc := cX7_say) (maxL := 2) (ret := (some .int)) (by decide) rfl (Nat.le_of_ble_eq_true rfl) ?_
  intro p e s m args below meth c Z hx hb hr F hlk hnm hK hN hA H locs hP hD hS ls hl
  have hl : lv_has ls 2 [(0, .ref hζ), (1, .int xζ)] := hl
  have F : CallFix p m c cX7_say 2 s args wsX7_say RX7 := F
  have hts := F.2.2.2.2
  have hown : s.vm.findClass RX7 = some m.cls := F.2.2.2.1
  have hi7 : ∀ w ∈ u_ws RX7 TX7 34, w ∈ wsX7_say := by decide +kernel
  refine lv_iload_n hx hb dX7_say_0 rfl (lv_at hl 1 rfl) ?_
  refine lv_i2l (v := xζ.toInt64) hx hb dX7_say_1 rfl ?_
  refine lv_ldc2 (v := 33) hx hb hown (hts (.constantLong RX7 96 (33)) (by decide +kernel)) dX7_say_2 ?_
  refine lv_ldc2 (v := 126) hx hb hown (hts (.constantLong RX7 98 (126)) (by decide +kernel)) dX7_say_5 ?_
  refine gcP (As := [.long xζ.toInt64, .long 33, .long 126]) (rest := []) F (c_X7_in l xζ.toInt64 33 126) gX7_say_X7_in kX7_in rfl rfl rfl ⟨(Nat.le_of_ble_eq_true rfl), (Nat.le_of_ble_eq_true rfl)⟩ rfl rfl hl.1 (Nat.le_of_ble_eq_true rfl) dX7_say_8 ⟨(Nat.le_of_ble_eq_true rfl), (Nat.le_of_ble_eq_true rfl)⟩ ?_
  refine gtop (y := bI (inB xζ 33 126)) (congrArg bI (inL_i (lo := 33) (hi := 126) (by decide) (by decide))) ?_
  refine lv_if_ne (tgt := 17) hx hb dX7_say_11 (by decide) (fun c_1 => ?_) (fun c_1 => ?_)
  · have c_1 : inB xζ 33 126 = true := bI_1 c_1
    refine lv_aload_n hx hb dX7_say_17 rfl (lv_at hl 0 rfl) ?_
    refine va_get (D := g.1) (ci := 7) (v := .int 0) (C := RX7) (T := TX7) (N := 34) hx hb hts hi7 hown hK hP 0 rfl rfl 13 (by decide) (hts (.fieldLink RX7 100 "PanTalesModel" "padMany" "I") (by decide +kernel)) (fun _ h9 => h9) rfl dX7_say_18 ?_
    refine lv_bipush (v := 60) hx hb dX7_say_21 (by decide) ?_
    refine lv_icmp_ne (tgt := 29) hx hb dX7_say_23 (by decide) (fun c_2 => ?_) (fun c_2 => ?_)
    · refine lv_aload_n hx hb dX7_say_29 rfl (lv_at hl 0 rfl) ?_
      refine va_get (D := g.1) (ci := 7) (v := .ref (Aζ 12)) (C := RX7) (T := TX7) (N := 34) hx hb hts hi7 hown hK hP 0 rfl rfl 12 (by decide) (hts (.fieldLink RX7 31 "PanTalesModel" "pad" "[I") (by decide +kernel)) (fun _ h9 => h9) rfl dX7_say_30 ?_
      refine lv_aload_n hx hb dX7_say_33 rfl (lv_at hl 0 rfl) ?_
      refine va_get (D := g.1) (ci := 7) (v := .int 0) (C := RX7) (T := TX7) (N := 34) hx hb hts hi7 hown hK hP 0 rfl rfl 13 (by decide) (hts (.fieldLink RX7 100 "PanTalesModel" "padMany" "I") (by decide +kernel)) (fun _ h9 => h9) rfl dX7_say_34 ?_
      refine lv_iload_n hx hb dX7_say_37 rfl (lv_at hl 1 rfl) ?_
      refine r_iast (f' := upd (fun _ => 0) 0 xζ) hx hb hK hP hD hS 1 rfl (vp_in_nI (n := 0) (by decide) (by decide)) (fun k_u _ => congrArg (fun z_u => upd (fun _ => 0) z_u xζ k_u) (nI_clamp (n := 0) (by decide))) dX7_say_38 (fun H locs hP hD hS => ?_)
      have hP : va_P g.1 vwCl [(hζ, .inr (7, oM Aζ iM0)), aI g (Aζ 12) 60 (upd (fun _ => 0) 0 xζ)] H := hP
      have hD : va_D Z [(hζ, .inr (7, oM Aζ iM0)), aI g (Aζ 12) 60 (upd (fun _ => 0) 0 xζ)] := hD
      refine lv_aload_n hx hb dX7_say_39 rfl (lv_at hl 0 rfl) ?_
      refine lv_dup hx hb dX7_say_40 rfl ?_
      refine va_get (D := g.1) (ci := 7) (v := .int 0) (C := RX7) (T := TX7) (N := 34) hx hb hts hi7 hown hK hP 0 rfl rfl 13 (by decide) (hts (.fieldLink RX7 100 "PanTalesModel" "padMany" "I") (by decide +kernel)) (fun _ h9 => h9) rfl dX7_say_41 ?_
      refine lv_iconst (v := 1) hx hb dX7_say_44 (by decide) ?_
      refine lv_iadd hx hb dX7_say_45 ?_
      refine gtop (y := 1) (by decide) ?_
      refine va_put (D := g.1) (ci := 7) (v := .int 1) (ty := .int) (C := RX7) (T := TX7) (N := 34) hx hb hts hi7 tyX7 tyX7_ok nmX7 hown hK hP hD hS 0 rfl rfl 13 (by decide) (hts (.fieldLink RX7 100 "PanTalesModel" "padMany" "I") (by decide +kernel)) (fun _ h9 => h9) rfl (by decide +kernel) rfl rfl (Nat.le_of_ble_eq_true rfl) dX7_say_46 (fun H locs hP hD hS => ?_)
      have hP : va_P g.1 vwCl [(hζ, .inr (7, oM Aζ (upd iM0 13 1))), aI g (Aζ 12) 60 (upd (fun _ => 0) 0 xζ)] H := hP
      have hD : va_D Z [(hζ, .inr (7, oM Aζ (upd iM0 13 1))), aI g (Aζ 12) 60 (upd (fun _ => 0) 0 xζ)] := hD
      refine lv_aload_n hx hb dX7_say_49 rfl (lv_at hl 0 rfl) ?_
      refine va_get (D := g.1) (ci := 7) (v := .int 1) (C := RX7) (T := TX7) (N := 34) hx hb hts hi7 hown hK hP 0 rfl rfl 13 (by decide) (hts (.fieldLink RX7 100 "PanTalesModel" "padMany" "I") (by decide +kernel)) (fun _ h9 => h9) rfl dX7_say_50 ?_
      exact r_iret hx hb hr hlk hS () (by unfold sayF; rw [if_pos c_1]) (hP.sub [] rfl) (hD.sub [] (by decide) rfl) dX7_say_53
    · exact absurd c_2 (by decide)
  · have c_1 : inB xζ 33 126 = false := bI_0 c_1
    refine lv_bipush (v := (-2)) hx hb dX7_say_14 (by decide) ?_
    exact r_iret hx hb hr hlk hS () (by unfold sayF; rw [if_neg (bF c_1)]) (hP.sub [] rfl) (hD.sub [] (by decide) rfl) dX7_say_16
set_option maxHeartbeats 4000000 in
set_option maxRecDepth 100000 in
theorem c_X7_wipe (l : Launch) (g : GT) (sz : Nat) (hζ : Nat) (Aζ : Nat → Nat)  : Ci l yX7_wipe wsX7_wipe { frames := 0, cells := 0, slots := 0, locals := 0 } g sz [.ref hζ] [(hζ, .inr (7, oM Aζ iM0))] 0 [] := by
  refine gMet_i (cc := cX7_wipe) (maxL := 2) (ret := (some .int)) (by decide) rfl (Nat.le_of_ble_eq_true rfl) ?_
  intro p e s m args below meth c Z hx hb hr F hlk hnm hK hN hA H locs hP hD hS ls hl
  have hl : lv_has ls 2 [(0, .ref hζ)] := hl
  have F : CallFix p m c cX7_wipe 2 s args wsX7_wipe RX7 := F
  have hts := F.2.2.2.2
  have hown : s.vm.findClass RX7 = some m.cls := F.2.2.2.1
  have hi7 : ∀ w ∈ u_ws RX7 TX7 34, w ∈ wsX7_wipe := by decide +kernel
  refine lv_aload_n hx hb dX7_wipe_0 rfl (lv_at hl 0 rfl) ?_
  refine va_get (D := g.1) (ci := 7) (v := .int 0) (C := RX7) (T := TX7) (N := 34) hx hb hts hi7 hown hK hP 0 rfl rfl 13 (by decide) (hts (.fieldLink RX7 100 "PanTalesModel" "padMany" "I") (by decide +kernel)) (fun _ h9 => h9) rfl dX7_wipe_1 ?_
  refine lv_istore_n (lv' := [(1, .int 0), (0, .ref hζ)]) hx hb dX7_wipe_4 rfl hl (by decide) rfl (fun ls hl => ?_)
  refine lv_aload_n hx hb dX7_wipe_5 rfl (lv_at hl 1 rfl) ?_
  refine lv_iconst (v := 0) hx hb dX7_wipe_6 (by decide) ?_
  refine va_put (D := g.1) (ci := 7) (v := .int 0) (ty := .int) (C := RX7) (T := TX7) (N := 34) hx hb hts hi7 tyX7 tyX7_ok nmX7 hown hK hP hD hS 0 rfl rfl 13 (by decide) (hts (.fieldLink RX7 100 "PanTalesModel" "padMany" "I") (by decide +kernel)) (fun _ h9 => h9) rfl (by decide +kernel) rfl rfl (Nat.le_of_ble_eq_true rfl) dX7_wipe_7 (fun H locs hP hD hS => ?_)
  have hP : va_P g.1 vwCl [(hζ, .inr (7, oM Aζ (upd iM0 13 0)))] H := hP
  have hD : va_D Z [(hζ, .inr (7, oM Aζ (upd iM0 13 0)))] := hD
  refine lv_iload_n hx hb dX7_wipe_10 rfl (lv_at hl 0 rfl) ?_
  exact r_iret hx hb hr hlk hS () rfl (hP.sub [] rfl) (hD.sub [] (by decide) rfl) dX7_wipe_11
set_option maxHeartbeats 4000000 in
set_option maxRecDepth 100000 in
theorem c_X7_fault (l : Launch) (g : GT) (sz : Nat) (hζ : Nat) (Aζ : Nat → Nat)  : Ci l yX7_fault wsX7_fault { frames := 0, cells := 0, slots := 0, locals := 0 } g sz [.ref hζ] [(hζ, .inr (7, oM Aζ iM0))] (-6) [(hζ, .inr (7, oM Aζ (upd iM0 17 0)))] := by
  refine gMet_i (cc := cX7_fault) (maxL := 3) (ret := (some .int)) (by decide) rfl (Nat.le_of_ble_eq_true rfl) ?_
  intro p e s m args below meth c Z hx hb hr F hlk hnm hK hN hA H locs hP hD hS ls hl
  have hl : lv_has ls 3 [(0, .ref hζ)] := hl
  have F : CallFix p m c cX7_fault 3 s args wsX7_fault RX7 := F
  have hts := F.2.2.2.2
  have hown : s.vm.findClass RX7 = some m.cls := F.2.2.2.1
  have hi7 : ∀ w ∈ u_ws RX7 TX7 34, w ∈ wsX7_fault := by decide +kernel
  refine lv_aload_n hx hb dX7_fault_0 rfl (lv_at hl 0 rfl) ?_
  refine lv_iconst (v := 0) hx hb dX7_fault_1 (by decide) ?_
  refine va_put (D := g.1) (ci := 7) (v := .int 0) (ty := .int) (C := RX7) (T := TX7) (N := 34) hx hb hts hi7 tyX7 tyX7_ok nmX7 hown hK hP hD hS 0 rfl rfl 17 (by decide) (hts (.fieldLink RX7 103 "PanTalesModel" "acts" "I") (by decide +kernel)) (fun _ h9 => h9) rfl (by decide +kernel) rfl rfl (Nat.le_of_ble_eq_true rfl) dX7_fault_2 (fun H locs hP hD hS => ?_)
  have hP : va_P g.1 vwCl [(hζ, .inr (7, oM Aζ (upd iM0 17 0)))] H := hP
  have hD : va_D Z [(hζ, .inr (7, oM Aζ (upd iM0 17 0)))] := hD
  refine lv_iconst (v := 0) hx hb dX7_fault_5 (by decide) ?_
  refine lv_istore_n (lv' := [(1, .int 0), (0, .ref hζ)]) hx hb dX7_fault_6 rfl hl (by decide) rfl (fun ls hl => ?_)
  refine lv_iconst (v := 0) hx hb dX7_fault_7 (by decide) ?_
  refine lv_istore_n (lv' := [(2, .int 0), (1, .int 0), (0, .ref hζ)]) hx hb dX7_fault_8 rfl hl (by decide) rfl (fun ls hl => ?_)
  refine lv_iload_n hx hb dX7_fault_9 rfl (lv_at hl 0 rfl) ?_
  refine lv_aload_n hx hb dX7_fault_10 rfl (lv_at hl 2 rfl) ?_
  refine va_get (D := g.1) (ci := 7) (v := .int 0) (C := RX7) (T := TX7) (N := 34) hx hb hts hi7 hown hK hP 0 rfl rfl 13 (by decide) (hts (.fieldLink RX7 100 "PanTalesModel" "padMany" "I") (by decide +kernel)) (fun _ h9 => h9) rfl dX7_fault_11 ?_
  refine lv_icmp_ge (tgt := 41) hx hb dX7_fault_14 (by decide) (fun c_1 => ?_) (fun c_1 => ?_)
  · refine lv_iload_n hx hb dX7_fault_41 rfl (lv_at hl 1 rfl) ?_
    refine lv_if_ne (tgt := 50) hx hb dX7_fault_42 (by decide) (fun c_2 => ?_) (fun c_2 => ?_)
    · exact absurd (by decide) c_2
    · refine lv_bipush (v := (-6)) hx hb dX7_fault_45 (by decide) ?_
      refine lv_goto (tgt := 54) hx hb dX7_fault_47 (by decide) ?_
      exact r_iret hx hb hr hlk hS () rfl (hP.sub [0] rfl) (hD.sub [0] (by decide) rfl) dX7_fault_54
  · exact absurd (by decide) c_1

theorem kX6_within : YOk yX6_within 3 := by decide +kernel
theorem kX6_isPlace : YOk yX6_isPlace 1 := by decide +kernel
theorem kX6_isHouse : YOk yX6_isHouse 1 := by decide +kernel
theorem kX6_isTale : YOk yX6_isTale 1 := by decide +kernel
theorem kX6_isIn : YOk yX6_isIn 2 := by decide +kernel
theorem kJ6_bitCount_0f7a4 : YOk yJ6_bitCount_0f7a4 1 := by decide +kernel
set_option maxHeartbeats 4000000 in
set_option maxRecDepth 100000 in
theorem m_X6_within (l : Launch) (a1 : Int32) (a2 : Int32) (a3 : Int32) (rr : Int32) (hF : f_X6_within a1 a2 a3 = some rr) : Cp l yX6_within wsX6_within { frames := 0, cells := 0, slots := 0, locals := 0 } [.int a1, .int a2, .int a3] rr := by
  refine gMet_p (cc := cX6_within) (maxL := 3) (ret := (some .boolean)) (by decide) rfl (Nat.le_of_ble_eq_true rfl) ?_
  intro p e s m args below meth c hx hb hr F hlk ls hl
  have hl : lv_has ls 3 [(0, .int a1), (1, .int a2), (2, .int a3)] := hl
  have F : CallFix p m c cX6_within 3 s args wsX6_within RX6 := F
  have hts := F.2.2.2.2
  have hown : s.vm.findClass RX6 = some m.cls := F.2.2.2.1
  dsimp only [f_X6_within] at hF
  refine lv_iload_n hx hb dX6_within_0 rfl (lv_at hl 0 rfl) ?_
  refine lv_iload_n hx hb dX6_within_1 rfl (lv_at hl 1 rfl) ?_
  refine lv_icmp_lt (tgt := 14) hx hb dX6_within_2 (by decide) (fun c_1 => ?_) (fun c_1 => ?_)
  · have hF := q_if_t c_1 hF
    refine lv_iconst (v := 0) hx hb dX6_within_14 (by decide) ?_
    cases hF
    exact r_pzret hx hb hr hlk (by decide) rfl dX6_within_15
  · have hF := q_if_f c_1 hF
    refine lv_iload_n hx hb dX6_within_5 rfl (lv_at hl 0 rfl) ?_
    refine lv_iload_n hx hb dX6_within_6 rfl (lv_at hl 2 rfl) ?_
    refine lv_icmp_gt (tgt := 14) hx hb dX6_within_7 (by decide) (fun c_2 => ?_) (fun c_2 => ?_)
    · have hF := q_if_t c_2 hF
      refine lv_iconst (v := 0) hx hb dX6_within_14 (by decide) ?_
      cases hF
      exact r_pzret hx hb hr hlk (by decide) rfl dX6_within_15
    · have hF := q_if_f c_2 hF
      refine lv_iconst (v := 1) hx hb dX6_within_10 (by decide) ?_
      refine lv_goto (tgt := 15) hx hb dX6_within_11 (by decide) ?_
      cases hF
      exact r_pzret hx hb hr hlk (by decide) rfl dX6_within_15
set_option maxHeartbeats 4000000 in
set_option maxRecDepth 100000 in
theorem m_X6_isPlace (l : Launch) (a1 : Int32) (rr : Int32) (hF : f_X6_isPlace a1 = some rr) : Cp l yX6_isPlace wsX6_isPlace { frames := 0, cells := 0, slots := 0, locals := 0 } [.int a1] rr := by
  refine gMet_p (cc := cX6_isPlace) (maxL := 1) (ret := (some .boolean)) (by decide) rfl (Nat.le_of_ble_eq_true rfl) ?_
  intro p e s m args below meth c hx hb hr F hlk ls hl
  have hl : lv_has ls 1 [(0, .int a1)] := hl
  have F : CallFix p m c cX6_isPlace 1 s args wsX6_isPlace RX6 := F
  have hts := F.2.2.2.2
  have hown : s.vm.findClass RX6 = some m.cls := F.2.2.2.1
  dsimp only [f_X6_isPlace] at hF
  refine lv_iload_n hx hb dX6_isPlace_0 rfl (lv_at hl 0 rfl) ?_
  refine lv_if_lt (tgt := 14) hx hb dX6_isPlace_1 (by decide) (fun c_1 => ?_) (fun c_1 => ?_)
  · have hF := q_if_t c_1 hF
    refine lv_iconst (v := 0) hx hb dX6_isPlace_14 (by decide) ?_
    cases hF
    exact r_pzret hx hb hr hlk (by decide) rfl dX6_isPlace_15
  · have hF := q_if_f c_1 hF
    refine lv_iload_n hx hb dX6_isPlace_4 rfl (lv_at hl 0 rfl) ?_
    refine lv_bipush (v := 11) hx hb dX6_isPlace_5 (by decide) ?_
    refine lv_icmp_ge (tgt := 14) hx hb dX6_isPlace_7 (by decide) (fun c_2 => ?_) (fun c_2 => ?_)
    · have hF := q_if_t c_2 hF
      refine lv_iconst (v := 0) hx hb dX6_isPlace_14 (by decide) ?_
      cases hF
      exact r_pzret hx hb hr hlk (by decide) rfl dX6_isPlace_15
    · have hF := q_if_f c_2 hF
      refine lv_iconst (v := 1) hx hb dX6_isPlace_10 (by decide) ?_
      refine lv_goto (tgt := 15) hx hb dX6_isPlace_11 (by decide) ?_
      cases hF
      exact r_pzret hx hb hr hlk (by decide) rfl dX6_isPlace_15
set_option maxHeartbeats 4000000 in
set_option maxRecDepth 100000 in
theorem m_X6_isHouse (l : Launch) (a1 : Int32) (rr : Int32) (hF : f_X6_isHouse a1 = some rr) : Cp l yX6_isHouse wsX6_isHouse { frames := 0, cells := 0, slots := 0, locals := 0 } [.int a1] rr := by
  refine gMet_p (cc := cX6_isHouse) (maxL := 1) (ret := (some .boolean)) (by decide) rfl (Nat.le_of_ble_eq_true rfl) ?_
  intro p e s m args below meth c hx hb hr F hlk ls hl
  have hl : lv_has ls 1 [(0, .int a1)] := hl
  have F : CallFix p m c cX6_isHouse 1 s args wsX6_isHouse RX6 := F
  have hts := F.2.2.2.2
  have hown : s.vm.findClass RX6 = some m.cls := F.2.2.2.1
  dsimp only [f_X6_isHouse] at hF
  refine lv_iload_n hx hb dX6_isHouse_0 rfl (lv_at hl 0 rfl) ?_
  refine lv_if_lt (tgt := 14) hx hb dX6_isHouse_1 (by decide) (fun c_1 => ?_) (fun c_1 => ?_)
  · have hF := q_if_t c_1 hF
    refine lv_iconst (v := 0) hx hb dX6_isHouse_14 (by decide) ?_
    cases hF
    exact r_pzret hx hb hr hlk (by decide) rfl dX6_isHouse_15
  · have hF := q_if_f c_1 hF
    refine lv_iload_n hx hb dX6_isHouse_4 rfl (lv_at hl 0 rfl) ?_
    refine lv_bipush (v := 10) hx hb dX6_isHouse_5 (by decide) ?_
    refine lv_icmp_ge (tgt := 14) hx hb dX6_isHouse_7 (by decide) (fun c_2 => ?_) (fun c_2 => ?_)
    · have hF := q_if_t c_2 hF
      refine lv_iconst (v := 0) hx hb dX6_isHouse_14 (by decide) ?_
      cases hF
      exact r_pzret hx hb hr hlk (by decide) rfl dX6_isHouse_15
    · have hF := q_if_f c_2 hF
      refine lv_iconst (v := 1) hx hb dX6_isHouse_10 (by decide) ?_
      refine lv_goto (tgt := 15) hx hb dX6_isHouse_11 (by decide) ?_
      cases hF
      exact r_pzret hx hb hr hlk (by decide) rfl dX6_isHouse_15
set_option maxHeartbeats 4000000 in
set_option maxRecDepth 100000 in
theorem m_X6_isTale (l : Launch) (a1 : Int32) (rr : Int32) (hF : f_X6_isTale a1 = some rr) : Cp l yX6_isTale wsX6_isTale { frames := 0, cells := 0, slots := 0, locals := 0 } [.int a1] rr := by
  refine gMet_p (cc := cX6_isTale) (maxL := 1) (ret := (some .boolean)) (by decide) rfl (Nat.le_of_ble_eq_true rfl) ?_
  intro p e s m args below meth c hx hb hr F hlk ls hl
  have hl : lv_has ls 1 [(0, .int a1)] := hl
  have F : CallFix p m c cX6_isTale 1 s args wsX6_isTale RX6 := F
  have hts := F.2.2.2.2
  have hown : s.vm.findClass RX6 = some m.cls := F.2.2.2.1
  dsimp only [f_X6_isTale] at hF
  refine lv_iload_n hx hb dX6_isTale_0 rfl (lv_at hl 0 rfl) ?_
  refine lv_if_lt (tgt := 14) hx hb dX6_isTale_1 (by decide) (fun c_1 => ?_) (fun c_1 => ?_)
  · have hF := q_if_t c_1 hF
    refine lv_iconst (v := 0) hx hb dX6_isTale_14 (by decide) ?_
    cases hF
    exact r_pzret hx hb hr hlk (by decide) rfl dX6_isTale_15
  · have hF := q_if_f c_1 hF
    refine lv_iload_n hx hb dX6_isTale_4 rfl (lv_at hl 0 rfl) ?_
    refine lv_bipush (v := 10) hx hb dX6_isTale_5 (by decide) ?_
    refine lv_icmp_ge (tgt := 14) hx hb dX6_isTale_7 (by decide) (fun c_2 => ?_) (fun c_2 => ?_)
    · have hF := q_if_t c_2 hF
      refine lv_iconst (v := 0) hx hb dX6_isTale_14 (by decide) ?_
      cases hF
      exact r_pzret hx hb hr hlk (by decide) rfl dX6_isTale_15
    · have hF := q_if_f c_2 hF
      refine lv_iconst (v := 1) hx hb dX6_isTale_10 (by decide) ?_
      refine lv_goto (tgt := 15) hx hb dX6_isTale_11 (by decide) ?_
      cases hF
      exact r_pzret hx hb hr hlk (by decide) rfl dX6_isTale_15
set_option maxHeartbeats 4000000 in
set_option maxRecDepth 100000 in
theorem m_X6_isIn (l : Launch) (a1 : Int32) (a2 : Int32) (rr : Int32) (hF : f_X6_isIn a1 a2 = some rr) : Cp l yX6_isIn wsX6_isIn { frames := 0, cells := 0, slots := 0, locals := 0 } [.int a1, .int a2] rr := by
  refine gMet_p (cc := cX6_isIn) (maxL := 2) (ret := (some .boolean)) (by decide) rfl (Nat.le_of_ble_eq_true rfl) ?_
  intro p e s m args below meth c hx hb hr F hlk ls hl
  have hl : lv_has ls 2 [(0, .int a1), (1, .int a2)] := hl
  have F : CallFix p m c cX6_isIn 2 s args wsX6_isIn RX6 := F
  have hts := F.2.2.2.2
  have hown : s.vm.findClass RX6 = some m.cls := F.2.2.2.1
  dsimp only [f_X6_isIn] at hF
  refine lv_iload_n hx hb dX6_isIn_0 rfl (lv_at hl 1 rfl) ?_
  refine lv_iload_n hx hb dX6_isIn_1 rfl (lv_at hl 0 rfl) ?_
  refine lv_ishr hx hb dX6_isIn_2 ?_
  refine lv_iconst (v := 1) hx hb dX6_isIn_3 (by decide) ?_
  refine lv_iand hx hb dX6_isIn_4 ?_
  refine lv_iconst (v := 1) hx hb dX6_isIn_5 (by decide) ?_
  refine lv_icmp_ne (tgt := 13) hx hb dX6_isIn_6 (by decide) (fun c_1 => ?_) (fun c_1 => ?_)
  · have hF := q_if_f c_1 hF
    refine lv_iconst (v := 0) hx hb dX6_isIn_13 (by decide) ?_
    cases hF
    exact r_pzret hx hb hr hlk (by decide) rfl dX6_isIn_14
  · have hF := q_if_t (by first | exact c_1 | exact Classical.not_not.mp c_1) hF
    refine lv_iconst (v := 1) hx hb dX6_isIn_9 (by decide) ?_
    refine lv_goto (tgt := 14) hx hb dX6_isIn_10 (by decide) ?_
    cases hF
    exact r_pzret hx hb hr hlk (by decide) rfl dX6_isIn_14
set_option maxHeartbeats 4000000 in
set_option maxRecDepth 100000 in
theorem m_J6_bitCount_0f7a4 (l : Launch) (a1 : Int32) (rr : Int32) (hF : f_J6_bitCount_0f7a4 a1 = some rr) : Cp l yJ6_bitCount_0f7a4 wsJ6_bitCount_0f7a4 { frames := 0, cells := 0, slots := 0, locals := 0 } [.int a1] rr := by
  refine gMet_p (cc := cJ6_bitCount_0f7a4) (maxL := 1) (ret := (some .int)) (by decide) rfl (Nat.le_of_ble_eq_true rfl) ?_
  intro p e s m args below meth c hx hb hr F hlk ls hl
  have hl : lv_has ls 1 [(0, .int a1)] := hl
  have F : CallFix p m c cJ6_bitCount_0f7a4 1 s args wsJ6_bitCount_0f7a4 RJ6 := F
  have hts := F.2.2.2.2
  have hown : s.vm.findClass RJ6 = some m.cls := F.2.2.2.1
  dsimp only [f_J6_bitCount_0f7a4] at hF
  refine lv_iload_n hx hb dJ6_bitCount_0f7a4_0 rfl (lv_at hl 0 rfl) ?_
  refine lv_iload_n hx hb dJ6_bitCount_0f7a4_1 rfl (lv_at hl 0 rfl) ?_
  refine lv_iconst (v := 1) hx hb dJ6_bitCount_0f7a4_2 (by decide) ?_
  refine lv_iushr (v := (a1.toUInt32 >>> ((1 : Int32).toUInt32 &&& Int32.toUInt32 31)).toInt32) hx hb dJ6_bitCount_0f7a4_3 rfl ?_
  refine lv_ldcw (v := 1431655765) hx hb hown (hts (.constant RJ6 265 (1431655765)) (by decide +kernel)) dJ6_bitCount_0f7a4_4 ?_
  refine lv_iand hx hb dJ6_bitCount_0f7a4_7 ?_
  refine lv_isub hx hb dJ6_bitCount_0f7a4_8 ?_
  obtain ⟨v0_1, e_2, hF⟩ := q_bd_s hF
  refine gtop e_2 ?_
  refine lv_istore_n (lv' := [(0, .int v0_1)]) hx hb dJ6_bitCount_0f7a4_9 rfl hl (by decide) rfl (fun ls hl => ?_)
  refine lv_iload_n hx hb dJ6_bitCount_0f7a4_10 rfl (lv_at hl 0 rfl) ?_
  refine lv_ldcw (v := 858993459) hx hb hown (hts (.constant RJ6 266 (858993459)) (by decide +kernel)) dJ6_bitCount_0f7a4_11 ?_
  refine lv_iand hx hb dJ6_bitCount_0f7a4_14 ?_
  refine lv_iload_n hx hb dJ6_bitCount_0f7a4_15 rfl (lv_at hl 0 rfl) ?_
  refine lv_iconst (v := 2) hx hb dJ6_bitCount_0f7a4_16 (by decide) ?_
  refine lv_iushr (v := (v0_1.toUInt32 >>> ((2 : Int32).toUInt32 &&& Int32.toUInt32 31)).toInt32) hx hb dJ6_bitCount_0f7a4_17 rfl ?_
  refine lv_ldcw (v := 858993459) hx hb hown (hts (.constant RJ6 266 (858993459)) (by decide +kernel)) dJ6_bitCount_0f7a4_18 ?_
  refine lv_iand hx hb dJ6_bitCount_0f7a4_21 ?_
  refine lv_iadd hx hb dJ6_bitCount_0f7a4_22 ?_
  obtain ⟨v0_3, e_4, hF⟩ := q_bd_s hF
  refine gtop e_4 ?_
  refine lv_istore_n (lv' := [(0, .int v0_3)]) hx hb dJ6_bitCount_0f7a4_23 rfl hl (by decide) rfl (fun ls hl => ?_)
  refine lv_iload_n hx hb dJ6_bitCount_0f7a4_24 rfl (lv_at hl 0 rfl) ?_
  refine lv_iload_n hx hb dJ6_bitCount_0f7a4_25 rfl (lv_at hl 0 rfl) ?_
  refine lv_iconst (v := 4) hx hb dJ6_bitCount_0f7a4_26 (by decide) ?_
  refine lv_iushr (v := (v0_3.toUInt32 >>> ((4 : Int32).toUInt32 &&& Int32.toUInt32 31)).toInt32) hx hb dJ6_bitCount_0f7a4_27 rfl ?_
  refine lv_iadd hx hb dJ6_bitCount_0f7a4_28 ?_
  refine lv_ldcw (v := 252645135) hx hb hown (hts (.constant RJ6 267 (252645135)) (by decide +kernel)) dJ6_bitCount_0f7a4_29 ?_
  refine lv_iand hx hb dJ6_bitCount_0f7a4_32 ?_
  obtain ⟨v0_5, e_6, hF⟩ := q_bd_s hF
  refine gtop e_6 ?_
  refine lv_istore_n (lv' := [(0, .int v0_5)]) hx hb dJ6_bitCount_0f7a4_33 rfl hl (by decide) rfl (fun ls hl => ?_)
  refine lv_iload_n hx hb dJ6_bitCount_0f7a4_34 rfl (lv_at hl 0 rfl) ?_
  refine lv_iload_n hx hb dJ6_bitCount_0f7a4_35 rfl (lv_at hl 0 rfl) ?_
  refine lv_bipush (v := 8) hx hb dJ6_bitCount_0f7a4_36 (by decide) ?_
  refine lv_iushr (v := (v0_5.toUInt32 >>> ((8 : Int32).toUInt32 &&& Int32.toUInt32 31)).toInt32) hx hb dJ6_bitCount_0f7a4_38 rfl ?_
  refine lv_iadd hx hb dJ6_bitCount_0f7a4_39 ?_
  obtain ⟨v0_7, e_8, hF⟩ := q_bd_s hF
  refine gtop e_8 ?_
  refine lv_istore_n (lv' := [(0, .int v0_7)]) hx hb dJ6_bitCount_0f7a4_40 rfl hl (by decide) rfl (fun ls hl => ?_)
  refine lv_iload_n hx hb dJ6_bitCount_0f7a4_41 rfl (lv_at hl 0 rfl) ?_
  refine lv_iload_n hx hb dJ6_bitCount_0f7a4_42 rfl (lv_at hl 0 rfl) ?_
  refine lv_bipush (v := 16) hx hb dJ6_bitCount_0f7a4_43 (by decide) ?_
  refine lv_iushr (v := (v0_7.toUInt32 >>> ((16 : Int32).toUInt32 &&& Int32.toUInt32 31)).toInt32) hx hb dJ6_bitCount_0f7a4_45 rfl ?_
  refine lv_iadd hx hb dJ6_bitCount_0f7a4_46 ?_
  obtain ⟨v0_9, e_10, hF⟩ := q_bd_s hF
  refine gtop e_10 ?_
  refine lv_istore_n (lv' := [(0, .int v0_9)]) hx hb dJ6_bitCount_0f7a4_47 rfl hl (by decide) rfl (fun ls hl => ?_)
  refine lv_iload_n hx hb dJ6_bitCount_0f7a4_48 rfl (lv_at hl 0 rfl) ?_
  refine lv_bipush (v := 63) hx hb dJ6_bitCount_0f7a4_49 (by decide) ?_
  refine lv_iand hx hb dJ6_bitCount_0f7a4_51 ?_
  cases hF
  exact r_pret hx hb hr hlk rfl dJ6_bitCount_0f7a4_52
set_option maxHeartbeats 4000000 in
set_option maxRecDepth 100000 in
theorem m_J7_fill_53178 (l : Launch) (g : GT) (sz : Nat) (qR : Nat) (nR : Nat) (σR : qS) (a2 : Int32) (σR' : qS) (hF : f_J7_fill_53178 nR σR a2 = some σR') : Cv l yJ7_fill_53178 wsJ7_fill_53178 { frames := 0, cells := 0, slots := 0, locals := 0 } g sz [.ref qR, .int a2] (wR g qR nR σR) (wR g qR nR σR') := by
  refine gMet_v (cc := cJ7_fill_53178) (maxL := 4) (ret := none) (by decide) rfl (Nat.le_of_ble_eq_true rfl) ?_
  intro p e s m args below meth c Z hx hb hr F hlk hnm hK hN hA H locs hP hD hS ls hl
  have hl : lv_has ls 4 [(0, .ref qR), (1, .int a2)] := hl
  have F : CallFix p m c cJ7_fill_53178 4 s args wsJ7_fill_53178 RJ7 := F
  have hts := F.2.2.2.2
  have hown : s.vm.findClass RJ7 = some m.cls := F.2.2.2.1
  dsimp only [f_J7_fill_53178] at hF
  refine lv_iconst (v := 0) hx hb dJ7_fill_53178_0 (by decide) ?_
  refine lv_istore_n (lv' := [(2, .int 0), (0, .ref qR), (1, .int a2)]) hx hb dJ7_fill_53178_1 rfl hl (by decide) rfl (fun ls hl => ?_)
  refine lv_aload_n hx hb dJ7_fill_53178_2 rfl (lv_at hl 1 rfl) ?_
  refine va_alen (v := nI nR) hx hb hK hP 0 0 rfl rfl rfl dJ7_fill_53178_3 ?_
  obtain ⟨v3_1, e_2, hF⟩ := q_bd_s hF
  refine gtop e_2 ?_
  refine lv_istore_n (lv' := [(3, .int v3_1), (2, .int 0), (0, .ref qR), (1, .int a2)]) hx hb dJ7_fill_53178_4 rfl hl (by decide) rfl (fun ls hl => ?_)
  refine q_loop (fun u0 => wR g qR nR u0.2) (fun u0 => [(3, .int v3_1), (2, .int u0.1), (0, .ref qR), (1, .int a2)]) 20 hF ?_ ?_ hP hD hS (lv_sub hl [0, 1, 2, 3] rfl)
  · rintro ⟨v2_3, σR_3⟩ hF H locs ls hP hD hS hl
    try dsimp only at hF
    have hP : va_P g.1 vwCl (wR g qR nR σR_3) H := hP
    have hD : va_D Z (wR g qR nR σR_3) := hD
    have hl : lv_has ls 4 [(3, .int v3_1), (2, .int v2_3), (0, .ref qR), (1, .int a2)] := hl
    cases hF
    exact r_vret hx hb hr hlk hS () trivial hP hD dJ7_fill_53178_20
  · rintro k again kk ag ⟨v2_3, σR_3⟩ hF H locs ls hP hD hS hl
    dsimp only [b_J7_fill_53178_5] at hF
    have hP : va_P g.1 vwCl (wR g qR nR σR_3) H := hP
    have hD : va_D Z (wR g qR nR σR_3) := hD
    have hl : lv_has ls 4 [(3, .int v3_1), (2, .int v2_3), (0, .ref qR), (1, .int a2)] := hl
    refine lv_iload_n hx hb dJ7_fill_53178_5 rfl (lv_at hl 1 rfl) ?_
    refine lv_iload_n hx hb dJ7_fill_53178_6 rfl (lv_at hl 0 rfl) ?_
    refine lv_icmp_ge (tgt := 20) hx hb dJ7_fill_53178_7 (by decide) (fun c_4 => ?_) (fun c_4 => ?_)
    · have hF := q_if_t c_4 hF
      exact kk (v2_3, σR_3) hF _ _ _ hP hD hS (lv_sub hl [0, 1, 2, 3] rfl)
    · have hF := q_if_f c_4 hF
      refine lv_aload_n hx hb dJ7_fill_53178_10 rfl (lv_at hl 2 rfl) ?_
      refine lv_iload_n hx hb dJ7_fill_53178_11 rfl (lv_at hl 1 rfl) ?_
      refine lv_iload_n hx hb dJ7_fill_53178_12 rfl (lv_at hl 3 rfl) ?_
      obtain ⟨σR_5, i_6, e_7, hF⟩ := q_wr_s hF
      refine r_iast (f' := upd (σR_3 0) v2_3.toNatClampNeg a2) hx hb hK hP hD hS 0 rfl i_6 (fun _ _ => rfl) dJ7_fill_53178_13 (fun H locs hP hD hS => ?_)
      have hP : va_P g.1 vwCl (wR g qR nR (q_up σR_3 0 (upd (σR_3 0) v2_3.toNatClampNeg a2))) H := hP
      have hD : va_D Z (wR g qR nR (q_up σR_3 0 (upd (σR_3 0) v2_3.toNatClampNeg a2))) := hD
      rw [e_7] at hP hD
      refine lv_iinc (v := v2_3 + 1) (lv' := [(2, .int (v2_3 + 1)), (3, .int v3_1), (0, .ref qR), (1, .int a2)]) hx hb dJ7_fill_53178_14 hl (k := 1) rfl rfl (by decide) rfl (fun ls hl => ?_)
      refine lv_goto (tgt := 5) hx hb dJ7_fill_53178_17 (by decide) ?_
      exact ag (v2_3 + 1, σR_5) hF _ _ _ hP hD hS (lv_sub hl [1, 0, 2, 3] rfl)

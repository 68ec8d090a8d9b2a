theorem kX7_in : YOk yX7_in 3 := by decide +kernel
theorem kX7_ones : YOk yX7_ones 1 := by decide +kernel
theorem kX7_isHouse : YOk yX7_isHouse 1 := by decide +kernel
theorem kX7_isPlace : YOk yX7_isPlace 1 := by decide +kernel
theorem kX7_isTale : YOk yX7_isTale 1 := by decide +kernel
theorem kX7_cooled : YOk yX7_cooled 2 := by decide +kernel
theorem kX7_lowest : YOk yX7_lowest 3 := by decide +kernel
theorem kX7_isRow : YOk yX7_isRow 4 := by decide +kernel
theorem kX7_actBy : YOk yX7_actBy 1 := by decide +kernel
set_option maxHeartbeats 4000000 in
set_option maxRecDepth 100000 in
theorem m_X7_in (l : Launch) (a1 : Int64) (a2 : Int64) (a3 : Int64) (rr : Int32) (hF : f_X7_in a1 a2 a3 = some rr) : Cp l yX7_in wsX7_in { frames := 0, cells := 0, slots := 0, locals := 0 } [.long a1, .long a2, .long a3] rr := by
  refine gMet_p (cc := cX7_in) (maxL := 6) (ret := (some .boolean)) (by decide) rfl (Nat.le_of_ble_eq_true rfl) ?_
  intro p e s m args below meth c hx hb hr F hlk ls hl
  have hl : lv_has ls 6 [(0, .long a1), (2, .long a2), (4, .long a3)] := hl
  have F : CallFix p m c cX7_in 6 s args wsX7_in RX7 := F
  have hts := F.2.2.2.2
  have hown : s.vm.findClass RX7 = some m.cls := F.2.2.2.1
  dsimp only [f_X7_in] at hF
  refine lv_lload_n hx hb dX7_in_0 rfl (lv_at hl 0 rfl) ?_
  refine lv_lload_n hx hb dX7_in_1 rfl (lv_at hl 1 rfl) ?_
  refine W.lcmp hx hb dX7_in_2 ?_
  refine lv_if_lt (tgt := 17) hx hb dX7_in_3 (by decide) (fun c_1 => ?_) (fun c_1 => ?_)
  · have hF := q_if_t c_1 hF
    refine lv_iconst (v := 0) hx hb dX7_in_17 (by decide) ?_
    cases hF
    exact r_pzret hx hb hr hlk (by decide) rfl dX7_in_18
  · have hF := q_if_f c_1 hF
    refine lv_lload_n hx hb dX7_in_6 rfl (lv_at hl 0 rfl) ?_
    refine lv_lload hx hb dX7_in_7 (lv_at hl 2 rfl) ?_
    refine W.lcmp hx hb dX7_in_9 ?_
    refine lv_if_gt (tgt := 17) hx hb dX7_in_10 (by decide) (fun c_2 => ?_) (fun c_2 => ?_)
    · have hF := q_if_t c_2 hF
      refine lv_iconst (v := 0) hx hb dX7_in_17 (by decide) ?_
      cases hF
      exact r_pzret hx hb hr hlk (by decide) rfl dX7_in_18
    · have hF := q_if_f c_2 hF
      refine lv_iconst (v := 1) hx hb dX7_in_13 (by decide) ?_
      refine lv_goto (tgt := 18) hx hb dX7_in_14 (by decide) ?_
      cases hF
      exact r_pzret hx hb hr hlk (by decide) rfl dX7_in_18
set_option maxHeartbeats 4000000 in
set_option maxRecDepth 100000 in
theorem m_X7_ones (l : Launch) (a1 : Int32) (rr : Int32) (hF : f_X7_ones a1 = some rr) : Cp l yX7_ones wsX7_ones { frames := 0, cells := 0, slots := 0, locals := 0 } [.int a1] rr := by
  refine gMet_p (cc := cX7_ones) (maxL := 3) (ret := (some .int)) (by decide) rfl (Nat.le_of_ble_eq_true rfl) ?_
  intro p e s m args below meth c hx hb hr F hlk ls hl
  have hl : lv_has ls 3 [(0, .int a1)] := hl
  have F : CallFix p m c cX7_ones 3 s args wsX7_ones RX7 := F
  have hts := F.2.2.2.2
  have hown : s.vm.findClass RX7 = some m.cls := F.2.2.2.1
  dsimp only [f_X7_ones] at hF
  refine lv_iconst (v := 0) hx hb dX7_ones_0 (by decide) ?_
  refine lv_istore_n (lv' := [(1, .int 0), (0, .int a1)]) hx hb dX7_ones_1 rfl hl (by decide) rfl (fun ls hl => ?_)
  refine lv_iload_n hx hb dX7_ones_2 rfl (lv_at hl 1 rfl) ?_
  refine lv_istore_n (lv' := [(2, .int a1), (1, .int 0), (0, .int a1)]) hx hb dX7_ones_3 rfl hl (by decide) rfl (fun ls hl => ?_)
  refine q_loopP (fun u0 => [(2, .int u0.1), (1, .int u0.2)]) 20 hF ?_ ?_ (lv_sub hl [0, 1] rfl)
  · rintro ⟨v2_1, v1_1⟩ hF ls hl
    try dsimp only at hF
    have hl : lv_has ls 3 [(2, .int v2_1), (1, .int v1_1)] := hl
    refine lv_iload_n hx hb dX7_ones_20 rfl (lv_at hl 1 rfl) ?_
    cases hF
    exact r_pret hx hb hr hlk rfl dX7_ones_21
  · rintro k again kk ag ⟨v2_1, v1_1⟩ hF ls hl
    dsimp only [b_X7_ones_4] at hF
    have hl : lv_has ls 3 [(2, .int v2_1), (1, .int v1_1)] := hl
    refine lv_iload_n hx hb dX7_ones_4 rfl (lv_at hl 0 rfl) ?_
    refine lv_if_eq (tgt := 20) hx hb dX7_ones_5 (by decide) (fun c_2 => ?_) (fun c_2 => ?_)
    · have hF := q_if_t c_2 hF
      exact kk (v2_1, v1_1) hF _ (lv_sub hl [0, 1] rfl)
    · have hF := q_if_f c_2 hF
      refine lv_iinc (v := v1_1 + 1) (lv' := [(1, .int (v1_1 + 1)), (2, .int v2_1)]) hx hb dX7_ones_8 hl (k := 1) rfl rfl (by decide) rfl (fun ls hl => ?_)
      refine lv_iload_n hx hb dX7_ones_11 rfl (lv_at hl 1 rfl) ?_
      refine lv_iload_n hx hb dX7_ones_12 rfl (lv_at hl 1 rfl) ?_
      refine lv_iconst (v := 1) hx hb dX7_ones_13 (by decide) ?_
      refine lv_isub hx hb dX7_ones_14 ?_
      refine lv_iand hx hb dX7_ones_15 ?_
      obtain ⟨v2_3, e_4, hF⟩ := q_bd_s hF
      refine gtop e_4 ?_
      refine lv_istore_n (lv' := [(2, .int v2_3), (1, .int (v1_1 + 1))]) hx hb dX7_ones_16 rfl hl (by decide) rfl (fun ls hl => ?_)
      refine lv_goto (tgt := 4) hx hb dX7_ones_17 (by decide) ?_
      exact ag (v2_3, v1_1 + 1) hF _ (lv_sub hl [0, 1] rfl)
set_option maxHeartbeats 4000000 in
set_option maxRecDepth 100000 in
theorem m_X7_isHouse (l : Launch) (a1 : Int32) (rr : Int32) (hF : f_X7_isHouse a1 = some rr) : Cp l yX7_isHouse wsX7_isHouse { frames := 1, cells := 0, slots := 0, locals := 25 } [.int a1] rr := by
  refine gMet_p (cc := cX7_isHouse) (maxL := 1) (ret := (some .boolean)) (by decide) rfl (Nat.le_of_ble_eq_true rfl) ?_
  intro p e s m args below meth c hx hb hr F hlk ls hl
  have hl : lv_has ls 1 [(0, .int a1)] := hl
  have F : CallFix p m c cX7_isHouse 1 s args wsX7_isHouse RX7 := F
  have hts := F.2.2.2.2
  have hown : s.vm.findClass RX7 = some m.cls := F.2.2.2.1
  dsimp only [f_X7_isHouse] at hF
  refine lv_iload_n hx hb dX7_isHouse_0 rfl (lv_at hl 0 rfl) ?_
  refine lv_i2l (v := a1.toInt64) hx hb dX7_isHouse_1 rfl ?_
  refine lv_lconst (v := 0) hx hb dX7_isHouse_2 (by decide) ?_
  refine lv_ldc2 (v := 9) hx hb hown (hts (.constantLong RX7 76 (9)) (by decide +kernel)) dX7_isHouse_3 ?_
  obtain ⟨r_1, h_2, hF⟩ := q_cl_s hF
  refine gcP (As := [.long a1.toInt64, .long 0, .long 9]) (rest := []) F (m_X7_in l a1.toInt64 (0 : Int64) (9 : Int64) r_1 h_2) gX7_isHouse_X7_in kX7_in rfl rfl rfl ⟨(Nat.le_of_ble_eq_true rfl), (Nat.le_of_ble_eq_true rfl)⟩ rfl rfl hl.1 (Nat.le_of_ble_eq_true rfl) dX7_isHouse_6 ⟨(Nat.le_of_ble_eq_true rfl), (Nat.le_of_ble_eq_true rfl)⟩ ?_
  obtain ⟨b_3, hF⟩ := q_chk_s hF
  cases hF
  exact r_pzret hx hb hr hlk (q_isB_nar b_3) rfl dX7_isHouse_9
set_option maxHeartbeats 4000000 in
set_option maxRecDepth 100000 in
theorem m_X7_isPlace (l : Launch) (a1 : Int32) (rr : Int32) (hF : f_X7_isPlace a1 = some rr) : Cp l yX7_isPlace wsX7_isPlace { frames := 1, cells := 0, slots := 0, locals := 25 } [.int a1] rr := by
  refine gMet_p (cc := cX7_isPlace) (maxL := 1) (ret := (some .boolean)) (by decide) rfl (Nat.le_of_ble_eq_true rfl) ?_
  intro p e s m args below meth c hx hb hr F hlk ls hl
  have hl : lv_has ls 1 [(0, .int a1)] := hl
  have F : CallFix p m c cX7_isPlace 1 s args wsX7_isPlace RX7 := F
  have hts := F.2.2.2.2
  have hown : s.vm.findClass RX7 = some m.cls := F.2.2.2.1
  dsimp only [f_X7_isPlace] at hF
  refine lv_iload_n hx hb dX7_isPlace_0 rfl (lv_at hl 0 rfl) ?_
  refine lv_i2l (v := a1.toInt64) hx hb dX7_isPlace_1 rfl ?_
  refine lv_lconst (v := 0) hx hb dX7_isPlace_2 (by decide) ?_
  refine lv_ldc2 (v := 10) hx hb hown (hts (.constantLong RX7 82 (10)) (by decide +kernel)) dX7_isPlace_3 ?_
  obtain ⟨r_1, h_2, hF⟩ := q_cl_s hF
  refine gcP (As := [.long a1.toInt64, .long 0, .long 10]) (rest := []) F (m_X7_in l a1.toInt64 (0 : Int64) (10 : Int64) r_1 h_2) gX7_isPlace_X7_in kX7_in rfl rfl rfl ⟨(Nat.le_of_ble_eq_true rfl), (Nat.le_of_ble_eq_true rfl)⟩ rfl rfl hl.1 (Nat.le_of_ble_eq_true rfl) dX7_isPlace_6 ⟨(Nat.le_of_ble_eq_true rfl), (Nat.le_of_ble_eq_true rfl)⟩ ?_
  obtain ⟨b_3, hF⟩ := q_chk_s hF
  cases hF
  exact r_pzret hx hb hr hlk (q_isB_nar b_3) rfl dX7_isPlace_9
set_option maxHeartbeats 4000000 in
set_option maxRecDepth 100000 in
theorem m_X7_isTale (l : Launch) (a1 : Int32) (rr : Int32) (hF : f_X7_isTale a1 = some rr) : Cp l yX7_isTale wsX7_isTale { frames := 1, cells := 0, slots := 0, locals := 25 } [.int a1] rr := by
  refine gMet_p (cc := cX7_isTale) (maxL := 1) (ret := (some .boolean)) (by decide) rfl (Nat.le_of_ble_eq_true rfl) ?_
  intro p e s m args below meth c hx hb hr F hlk ls hl
  have hl : lv_has ls 1 [(0, .int a1)] := hl
  have F : CallFix p m c cX7_isTale 1 s args wsX7_isTale RX7 := F
  have hts := F.2.2.2.2
  have hown : s.vm.findClass RX7 = some m.cls := F.2.2.2.1
  dsimp only [f_X7_isTale] at hF
  refine lv_iload_n hx hb dX7_isTale_0 rfl (lv_at hl 0 rfl) ?_
  refine lv_i2l (v := a1.toInt64) hx hb dX7_isTale_1 rfl ?_
  refine lv_lconst (v := 0) hx hb dX7_isTale_2 (by decide) ?_
  refine lv_ldc2 (v := 9) hx hb hown (hts (.constantLong RX7 76 (9)) (by decide +kernel)) dX7_isTale_3 ?_
  obtain ⟨r_1, h_2, hF⟩ := q_cl_s hF
  refine gcP (As := [.long a1.toInt64, .long 0, .long 9]) (rest := []) F (m_X7_in l a1.toInt64 (0 : Int64) (9 : Int64) r_1 h_2) gX7_isTale_X7_in kX7_in rfl rfl rfl ⟨(Nat.le_of_ble_eq_true rfl), (Nat.le_of_ble_eq_true rfl)⟩ rfl rfl hl.1 (Nat.le_of_ble_eq_true rfl) dX7_isTale_6 ⟨(Nat.le_of_ble_eq_true rfl), (Nat.le_of_ble_eq_true rfl)⟩ ?_
  obtain ⟨b_3, hF⟩ := q_chk_s hF
  cases hF
  exact r_pzret hx hb hr hlk (q_isB_nar b_3) rfl dX7_isTale_9
set_option maxHeartbeats 4000000 in
set_option maxRecDepth 100000 in
theorem m_X7_cooled (l : Launch) (a1 : Int32) (a2 : Int32) (rr : Int32) (hF : f_X7_cooled a1 a2 = some rr) : Cp l yX7_cooled wsX7_cooled { frames := 0, cells := 0, slots := 0, locals := 0 } [.int a1, .int a2] rr := by
  refine gMet_p (cc := cX7_cooled) (maxL := 2) (ret := (some .int)) (by decide) rfl (Nat.le_of_ble_eq_true rfl) ?_
  intro p e s m args below meth c hx hb hr F hlk ls hl
  have hl : lv_has ls 2 [(0, .int a1), (1, .int a2)] := hl
  have F : CallFix p m c cX7_cooled 2 s args wsX7_cooled RX7 := F
  have hts := F.2.2.2.2
  have hown : s.vm.findClass RX7 = some m.cls := F.2.2.2.1
  dsimp only [f_X7_cooled] at hF
  refine lv_iload_n hx hb dX7_cooled_0 rfl (lv_at hl 0 rfl) ?_
  refine lv_iload_n hx hb dX7_cooled_1 rfl (lv_at hl 1 rfl) ?_
  refine lv_icmp_le (tgt := 11) hx hb dX7_cooled_2 (by decide) (fun c_1 => ?_) (fun c_1 => ?_)
  · have hF := q_if_t c_1 hF
    refine lv_iconst (v := 0) hx hb dX7_cooled_11 (by decide) ?_
    cases hF
    exact r_pret hx hb hr hlk rfl dX7_cooled_12
  · have hF := q_if_f c_1 hF
    refine lv_iload_n hx hb dX7_cooled_5 rfl (lv_at hl 0 rfl) ?_
    refine lv_iload_n hx hb dX7_cooled_6 rfl (lv_at hl 1 rfl) ?_
    refine lv_isub hx hb dX7_cooled_7 ?_
    refine lv_goto (tgt := 12) hx hb dX7_cooled_8 (by decide) ?_
    cases hF
    exact r_pret hx hb hr hlk rfl dX7_cooled_12
set_option maxHeartbeats 4000000 in
set_option maxRecDepth 100000 in
theorem m_X7_lowest (l : Launch) (g : GT) (sz : Nat) (a1 : Int64) (a2 : Int64) (a3 : Int32) (rr : Int64) (hF : f_X7_lowest a1 a2 a3 = some rr) : Cl l yX7_lowest wsX7_lowest { frames := 0, cells := 0, slots := 0, locals := 0 } g sz [.long a1, .long a2, .int a3] ([]) rr ([]) := by
  refine gMet_l (cc := cX7_lowest) (maxL := 11) (ret := (some .long)) (by decide) rfl (Nat.le_of_ble_eq_true rfl) ?_
  intro p e s m args below meth c Z hx hb hr F hlk hnm hK hN hA H locs hP hD hS ls hl
  have hl : lv_has ls 11 [(0, .long a1), (2, .long a2), (4, .int a3)] := hl
  have F : CallFix p m c cX7_lowest 11 s args wsX7_lowest RX7 := F
  have hts := F.2.2.2.2
  have hown : s.vm.findClass RX7 = some m.cls := F.2.2.2.1
  dsimp only [f_X7_lowest] at hF
  refine lv_lload_n hx hb dX7_lowest_0 rfl (lv_at hl 1 rfl) ?_
  refine lv_lstore (lv' := [(5, .long a2), (0, .long a1), (2, .long a2), (4, .int a3)]) hx hb dX7_lowest_1 hl (by decide) rfl (fun ls hl => ?_)
  refine lv_lload_n hx hb dX7_lowest_3 rfl (lv_at hl 1 rfl) ?_
  refine lv_lstore (lv' := [(7, .long a1), (5, .long a2), (0, .long a1), (2, .long a2), (4, .int a3)]) hx hb dX7_lowest_4 hl (by decide) rfl (fun ls hl => ?_)
  refine q_loop (fun u0 => []) (fun u0 => [(7, .long u0.1), (5, .long u0.2), (0, .long a1), (2, .long a2), (4, .int a3)]) 31 hF ?_ ?_ hP hD hS (lv_sub hl [0, 1, 2, 3, 4] rfl)
  · rintro ⟨v7_1, v5_1⟩ hF H locs ls hP hD hS hl
    try dsimp only at hF
    have hP : va_P g.1 vwCl ([]) H := hP
    have hD : va_D Z ([]) := hD
    have hl : lv_has ls 11 [(7, .long v7_1), (5, .long v5_1), (0, .long a1), (2, .long a2), (4, .int a3)] := hl
    refine lv_iload hx hb dX7_lowest_31 (lv_at hl 4 rfl) ?_
    refine lv_if_ne (tgt := 43) hx hb dX7_lowest_33 (by decide) (fun c_2 => ?_) (fun c_2 => ?_)
    · have hF := q_if_f c_2 hF
      refine lv_lload_n hx hb dX7_lowest_43 rfl (lv_at hl 3 rfl) ?_
      refine lv_lload hx hb dX7_lowest_44 (lv_at hl 1 rfl) ?_
      obtain ⟨n_3, hF⟩ := q_nzL_s hF
      refine lv_ldiv hx hb dX7_lowest_46 n_3 ?_
      cases hF
      exact r_lret hx hb hr hlk hS () rfl hP hD dX7_lowest_47
    · have hF := q_if_t (by first | exact c_2 | exact Classical.not_not.mp c_2) hF
      refine lv_lload_n hx hb dX7_lowest_36 rfl (lv_at hl 2 rfl) ?_
      refine lv_lload hx hb dX7_lowest_37 (lv_at hl 1 rfl) ?_
      obtain ⟨n_4, hF⟩ := q_nzL_s hF
      refine lv_ldiv hx hb dX7_lowest_39 n_4 ?_
      refine lv_goto (tgt := 47) hx hb dX7_lowest_40 (by decide) ?_
      cases hF
      exact r_lret hx hb hr hlk hS () rfl hP hD dX7_lowest_47
  · rintro k again kk ag ⟨v7_1, v5_1⟩ hF H locs ls hP hD hS hl
    dsimp only [b_X7_lowest_6] at hF
    have hP : va_P g.1 vwCl ([]) H := hP
    have hD : va_D Z ([]) := hD
    have hl : lv_has ls 11 [(7, .long v7_1), (5, .long v5_1), (0, .long a1), (2, .long a2), (4, .int a3)] := hl
    refine lv_lload hx hb dX7_lowest_6 (lv_at hl 0 rfl) ?_
    refine lv_lconst (v := 0) hx hb dX7_lowest_8 (by decide) ?_
    refine W.lcmp hx hb dX7_lowest_9 ?_
    refine lv_if_eq (tgt := 31) hx hb dX7_lowest_10 (by decide) (fun c_5 => ?_) (fun c_5 => ?_)
    · have hF := q_if_t c_5 hF
      exact kk (v7_1, v5_1) hF _ _ _ hP hD hS (lv_sub hl [0, 1, 2, 3, 4] rfl)
    · have hF := q_if_f c_5 hF
      refine lv_lload hx hb dX7_lowest_13 (lv_at hl 1 rfl) ?_
      refine lv_lload hx hb dX7_lowest_15 (lv_at hl 0 rfl) ?_
      obtain ⟨n_6, hF⟩ := q_nzL_s hF
      refine lv_lrem hx hb dX7_lowest_17 n_6 ?_
      obtain ⟨v9_7, e_8, hF⟩ := q_bd_s hF
      refine gtopl e_8 ?_
      refine lv_lstore (lv' := [(9, .long v9_7), (7, .long v7_1), (5, .long v5_1), (0, .long a1), (2, .long a2), (4, .int a3)]) hx hb dX7_lowest_18 hl (by decide) rfl (fun ls hl => ?_)
      refine lv_lload hx hb dX7_lowest_20 (lv_at hl 1 rfl) ?_
      refine lv_lstore (lv' := [(5, .long v7_1), (9, .long v9_7), (7, .long v7_1), (0, .long a1), (2, .long a2), (4, .int a3)]) hx hb dX7_lowest_22 hl (by decide) rfl (fun ls hl => ?_)
      refine lv_lload hx hb dX7_lowest_24 (lv_at hl 1 rfl) ?_
      refine lv_lstore (lv' := [(7, .long v9_7), (5, .long v7_1), (9, .long v9_7), (0, .long a1), (2, .long a2), (4, .int a3)]) hx hb dX7_lowest_26 hl (by decide) rfl (fun ls hl => ?_)
      refine lv_goto (tgt := 6) hx hb dX7_lowest_28 (by decide) ?_
      exact ag (v9_7, v7_1) hF _ _ _ hP hD hS (lv_sub hl [0, 1, 3, 4, 5] rfl)
set_option maxHeartbeats 4000000 in
set_option maxRecDepth 100000 in
theorem m_X7_isRow (l : Launch) (a1 : Int32) (a2 : Int32) (a3 : Int32) (a4 : Int32) (rr : Int32) (hF : f_X7_isRow a1 a2 a3 a4 = some rr) : Cp l yX7_isRow wsX7_isRow { frames := 1, cells := 0, slots := 0, locals := 25 } [.int a1, .int a2, .int a3, .int a4] rr := by
  refine gMet_p (cc := cX7_isRow) (maxL := 4) (ret := (some .boolean)) (by decide) rfl (Nat.le_of_ble_eq_true rfl) ?_
  intro p e s m args below meth c hx hb hr F hlk ls hl
  have hl : lv_has ls 4 [(0, .int a1), (1, .int a2), (2, .int a3), (3, .int a4)] := hl
  have F : CallFix p m c cX7_isRow 4 s args wsX7_isRow RX7 := F
  have hts := F.2.2.2.2
  have hown : s.vm.findClass RX7 = some m.cls := F.2.2.2.1
  dsimp only [f_X7_isRow] at hF
  refine lv_iload_n hx hb dX7_isRow_0 rfl (lv_at hl 0 rfl) ?_
  refine lv_i2l (v := a1.toInt64) hx hb dX7_isRow_1 rfl ?_
  refine lv_lconst (v := 0) hx hb dX7_isRow_2 (by decide) ?_
  refine lv_ldc2 (v := 10) hx hb hown (hts (.constantLong RX7 82 (10)) (by decide +kernel)) dX7_isRow_3 ?_
  obtain ⟨r_1, h_2, hF⟩ := q_cl_s hF
  refine gcP (As := [.long a1.toInt64, .long 0, .long 10]) (rest := []) F (m_X7_in l a1.toInt64 (0 : Int64) (10 : Int64) r_1 h_2) gX7_isRow_X7_in kX7_in rfl rfl rfl ⟨(Nat.le_of_ble_eq_true rfl), (Nat.le_of_ble_eq_true rfl)⟩ rfl rfl hl.1 (Nat.le_of_ble_eq_true rfl) dX7_isRow_6 ⟨(Nat.le_of_ble_eq_true rfl), (Nat.le_of_ble_eq_true rfl)⟩ ?_
  refine lv_if_eq (tgt := 51) hx hb dX7_isRow_9 (by decide) (fun c_3 => ?_) (fun c_3 => ?_)
  · have hF := q_if_t c_3 hF
    refine lv_iconst (v := 0) hx hb dX7_isRow_51 (by decide) ?_
    cases hF
    exact r_pzret hx hb hr hlk (by decide) rfl dX7_isRow_52
  · have hF := q_if_f c_3 hF
    refine lv_iload_n hx hb dX7_isRow_12 rfl (lv_at hl 1 rfl) ?_
    refine lv_i2l (v := a2.toInt64) hx hb dX7_isRow_13 rfl ?_
    refine lv_lconst (v := 0) hx hb dX7_isRow_14 (by decide) ?_
    refine lv_ldc2 (v := 10) hx hb hown (hts (.constantLong RX7 82 (10)) (by decide +kernel)) dX7_isRow_15 ?_
    obtain ⟨r_4, h_5, hF⟩ := q_cl_s hF
    refine gcP (As := [.long a2.toInt64, .long 0, .long 10]) (rest := []) F (m_X7_in l a2.toInt64 (0 : Int64) (10 : Int64) r_4 h_5) gX7_isRow_X7_in kX7_in rfl rfl rfl ⟨(Nat.le_of_ble_eq_true rfl), (Nat.le_of_ble_eq_true rfl)⟩ rfl rfl hl.1 (Nat.le_of_ble_eq_true rfl) dX7_isRow_18 ⟨(Nat.le_of_ble_eq_true rfl), (Nat.le_of_ble_eq_true rfl)⟩ ?_
    refine lv_if_eq (tgt := 51) hx hb dX7_isRow_21 (by decide) (fun c_6 => ?_) (fun c_6 => ?_)
    · have hF := q_if_t c_6 hF
      refine lv_iconst (v := 0) hx hb dX7_isRow_51 (by decide) ?_
      cases hF
      exact r_pzret hx hb hr hlk (by decide) rfl dX7_isRow_52
    · have hF := q_if_f c_6 hF
      refine lv_iload_n hx hb dX7_isRow_24 rfl (lv_at hl 2 rfl) ?_
      refine lv_i2l (v := a3.toInt64) hx hb dX7_isRow_25 rfl ?_
      refine lv_lconst (v := 0) hx hb dX7_isRow_26 (by decide) ?_
      refine lv_ldc2 (v := 10) hx hb hown (hts (.constantLong RX7 82 (10)) (by decide +kernel)) dX7_isRow_27 ?_
      obtain ⟨r_7, h_8, hF⟩ := q_cl_s hF
      refine gcP (As := [.long a3.toInt64, .long 0, .long 10]) (rest := []) F (m_X7_in l a3.toInt64 (0 : Int64) (10 : Int64) r_7 h_8) gX7_isRow_X7_in kX7_in rfl rfl rfl ⟨(Nat.le_of_ble_eq_true rfl), (Nat.le_of_ble_eq_true rfl)⟩ rfl rfl hl.1 (Nat.le_of_ble_eq_true rfl) dX7_isRow_30 ⟨(Nat.le_of_ble_eq_true rfl), (Nat.le_of_ble_eq_true rfl)⟩ ?_
      refine lv_if_eq (tgt := 51) hx hb dX7_isRow_33 (by decide) (fun c_9 => ?_) (fun c_9 => ?_)
      · have hF := q_if_t c_9 hF
        refine lv_iconst (v := 0) hx hb dX7_isRow_51 (by decide) ?_
        cases hF
        exact r_pzret hx hb hr hlk (by decide) rfl dX7_isRow_52
      · have hF := q_if_f c_9 hF
        refine lv_iload_n hx hb dX7_isRow_36 rfl (lv_at hl 3 rfl) ?_
        refine lv_i2l (v := a4.toInt64) hx hb dX7_isRow_37 rfl ?_
        refine lv_lconst (v := 0) hx hb dX7_isRow_38 (by decide) ?_
        refine lv_iload_n hx hb dX7_isRow_39 rfl (lv_at hl 0 rfl) ?_
        refine lv_i2l (v := a1.toInt64) hx hb dX7_isRow_40 rfl ?_
        obtain ⟨r_10, h_11, hF⟩ := q_cl_s hF
        refine gcP (As := [.long a4.toInt64, .long 0, .long a1.toInt64]) (rest := []) F (m_X7_in l a4.toInt64 (0 : Int64) a1.toInt64 r_10 h_11) gX7_isRow_X7_in kX7_in rfl rfl rfl ⟨(Nat.le_of_ble_eq_true rfl), (Nat.le_of_ble_eq_true rfl)⟩ rfl rfl hl.1 (Nat.le_of_ble_eq_true rfl) dX7_isRow_41 ⟨(Nat.le_of_ble_eq_true rfl), (Nat.le_of_ble_eq_true rfl)⟩ ?_
        refine lv_if_eq (tgt := 51) hx hb dX7_isRow_44 (by decide) (fun c_12 => ?_) (fun c_12 => ?_)
        · have hF := q_if_t c_12 hF
          refine lv_iconst (v := 0) hx hb dX7_isRow_51 (by decide) ?_
          cases hF
          exact r_pzret hx hb hr hlk (by decide) rfl dX7_isRow_52
        · have hF := q_if_f c_12 hF
          refine lv_iconst (v := 1) hx hb dX7_isRow_47 (by decide) ?_
          refine lv_goto (tgt := 52) hx hb dX7_isRow_48 (by decide) ?_
          cases hF
          exact r_pzret hx hb hr hlk (by decide) rfl dX7_isRow_52
set_option maxHeartbeats 4000000 in
set_option maxRecDepth 100000 in
theorem m_X7_actBy (l : Launch) (a1 : Int32) (rr : Int32) (hF : f_X7_actBy a1 = some rr) : Cp l yX7_actBy wsX7_actBy { frames := 0, cells := 0, slots := 0, locals := 0 } [.int a1] rr := by
  refine gMet_p (cc := cX7_actBy) (maxL := 1) (ret := (some .int)) (by decide) rfl (Nat.le_of_ble_eq_true rfl) ?_
  intro p e s m args below meth c hx hb hr F hlk ls hl
  have hl : lv_has ls 1 [(0, .int a1)] := hl
  have F : CallFix p m c cX7_actBy 1 s args wsX7_actBy RX7 := F
  have hts := F.2.2.2.2
  have hown : s.vm.findClass RX7 = some m.cls := F.2.2.2.1
  dsimp only [f_X7_actBy] at hF
  refine lv_iload_n hx hb dX7_actBy_0 rfl (lv_at hl 0 rfl) ?_
  refine lv_iconst (v := 3) hx hb dX7_actBy_1 (by decide) ?_
  refine lv_icmp_ge (tgt := 9) hx hb dX7_actBy_2 (by decide) (fun c_1 => ?_) (fun c_1 => ?_)
  · have hF := q_if_t c_1 hF
    refine lv_iload_n hx hb dX7_actBy_9 rfl (lv_at hl 0 rfl) ?_
    refine lv_iconst (v := 5) hx hb dX7_actBy_10 (by decide) ?_
    refine lv_icmp_ge (tgt := 18) hx hb dX7_actBy_11 (by decide) (fun c_2 => ?_) (fun c_2 => ?_)
    · have hF := q_if_t c_2 hF
      refine lv_iload_n hx hb dX7_actBy_18 rfl (lv_at hl 0 rfl) ?_
      refine lv_iconst (v := 5) hx hb dX7_actBy_19 (by decide) ?_
      refine lv_icmp_ne (tgt := 27) hx hb dX7_actBy_20 (by decide) (fun c_3 => ?_) (fun c_3 => ?_)
      · have hF := q_if_f c_3 hF
        refine lv_iload_n hx hb dX7_actBy_27 rfl (lv_at hl 0 rfl) ?_
        refine lv_bipush (v := 6) hx hb dX7_actBy_28 (by decide) ?_
        refine lv_icmp_ne (tgt := 37) hx hb dX7_actBy_30 (by decide) (fun c_4 => ?_) (fun c_4 => ?_)
        · have hF := q_if_f c_4 hF
          refine lv_iconst (v := 4) hx hb dX7_actBy_37 (by decide) ?_
          cases hF
          exact r_pret hx hb hr hlk rfl dX7_actBy_38
        · have hF := q_if_t (by first | exact c_4 | exact Classical.not_not.mp c_4) hF
          refine lv_iconst (v := 0) hx hb dX7_actBy_33 (by decide) ?_
          refine lv_goto (tgt := 38) hx hb dX7_actBy_34 (by decide) ?_
          cases hF
          exact r_pret hx hb hr hlk rfl dX7_actBy_38
      · have hF := q_if_t (by first | exact c_3 | exact Classical.not_not.mp c_3) hF
        refine lv_iconst (v := 3) hx hb dX7_actBy_23 (by decide) ?_
        refine lv_goto (tgt := 38) hx hb dX7_actBy_24 (by decide) ?_
        cases hF
        exact r_pret hx hb hr hlk rfl dX7_actBy_38
    · have hF := q_if_f c_2 hF
      refine lv_iconst (v := 2) hx hb dX7_actBy_14 (by decide) ?_
      refine lv_goto (tgt := 38) hx hb dX7_actBy_15 (by decide) ?_
      cases hF
      exact r_pret hx hb hr hlk rfl dX7_actBy_38
  · have hF := q_if_f c_1 hF
    refine lv_iconst (v := 1) hx hb dX7_actBy_5 (by decide) ?_
    refine lv_goto (tgt := 38) hx hb dX7_actBy_6 (by decide) ?_
    cases hF
    exact r_pret hx hb hr hlk rfl dX7_actBy_38

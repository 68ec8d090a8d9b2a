theorem kX6_within : YOk yX6_within 3 := by decide +kernel
theorem kX6_isPlace : YOk yX6_isPlace 1 := by decide +kernel
theorem kX6_isHouse : YOk yX6_isHouse 1 := by decide +kernel
theorem kX6_isTale : YOk yX6_isTale 1 := by decide +kernel
theorem kX6_isIn : YOk yX6_isIn 2 := by decide +kernel
theorem kX1_longBetween : YOk yX1_longBetween 2 := by decide +kernel
theorem kX1_doubtOf : YOk yX1_doubtOf 1 := by decide +kernel
theorem kX1_beliefOf : YOk yX1_beliefOf 1 := by decide +kernel
theorem kX1_fadesInto : YOk yX1_fadesInto 1 := by decide +kernel
set_option maxHeartbeats 4000000 in
set_option maxRecDepth 100000 in
theorem c_X6_within (l : Launch) (x lo hi : Int32) : Cp l yX6_within wsX6_within { frames := 0, cells := 0, slots := 0, locals := 0 } [.int x, .int lo, .int hi] (bI (inB x lo hi)) := by
  refine gMet_p (cc := cX6_within) (maxL := 3) (ret := (some .boolean)) (by decide) rfl (Nat.le_of_ble_eq_true rfl) ?_
  intro p e s m args below meth c hx hb hr F hlk ls hl
  have hl : lv_has ls 3 [(0, .int x), (1, .int lo), (2, .int hi)] := hl
  have hts := F.2.2.2.2
  have hown : s.vm.findClass RX6 = some m.cls := F.2.2.2.1
  refine lv_iload_n hx hb dX6_within_0 rfl (lv_at hl 0 rfl) ?_
  refine lv_iload_n hx hb dX6_within_1 rfl (lv_at hl 1 rfl) ?_
  refine lv_icmp_lt (tgt := 14) hx hb dX6_within_2 (by decide) (fun c_1 => ?_) (fun c_1 => ?_)
  · refine lv_iconst (v := 0) hx hb dX6_within_14 (by decide) ?_
    exact r_pzret hx hb hr hlk (by decide) (bw_l c_1) dX6_within_15
  · refine lv_iload_n hx hb dX6_within_5 rfl (lv_at hl 0 rfl) ?_
    refine lv_iload_n hx hb dX6_within_6 rfl (lv_at hl 2 rfl) ?_
    refine lv_icmp_gt (tgt := 14) hx hb dX6_within_7 (by decide) (fun c_2 => ?_) (fun c_2 => ?_)
    · refine lv_iconst (v := 0) hx hb dX6_within_14 (by decide) ?_
      exact r_pzret hx hb hr hlk (by decide) (bw_h c_2) dX6_within_15
    · refine lv_iconst (v := 1) hx hb dX6_within_10 (by decide) ?_
      refine lv_goto (tgt := 15) hx hb dX6_within_11 (by decide) ?_
      exact r_pzret hx hb hr hlk (by decide) (bw_t c_1 c_2) dX6_within_15
set_option maxHeartbeats 4000000 in
set_option maxRecDepth 100000 in
theorem c_X6_isPlace (l : Launch) (x : Int32) : Cp l yX6_isPlace wsX6_isPlace { frames := 0, cells := 0, slots := 0, locals := 0 } [.int x] (bI (inB x 0 10)) := by
  refine gMet_p (cc := cX6_isPlace) (maxL := 1) (ret := (some .boolean)) (by decide) rfl (Nat.le_of_ble_eq_true rfl) ?_
  intro p e s m args below meth c hx hb hr F hlk ls hl
  have hl : lv_has ls 1 [(0, .int x)] := hl
  have hts := F.2.2.2.2
  have hown : s.vm.findClass RX6 = some m.cls := F.2.2.2.1
  refine lv_iload_n hx hb dX6_isPlace_0 rfl (lv_at hl 0 rfl) ?_
  refine lv_if_lt (tgt := 14) hx hb dX6_isPlace_1 (by decide) (fun c_1 => ?_) (fun c_1 => ?_)
  · refine lv_iconst (v := 0) hx hb dX6_isPlace_14 (by decide) ?_
    exact r_pzret hx hb hr hlk (by decide) (bw_l c_1) dX6_isPlace_15
  · refine lv_iload_n hx hb dX6_isPlace_4 rfl (lv_at hl 0 rfl) ?_
    refine lv_bipush (v := 11) hx hb dX6_isPlace_5 (by decide) ?_
    refine lv_icmp_ge (tgt := 14) hx hb dX6_isPlace_7 (by decide) (fun c_2 => ?_) (fun c_2 => ?_)
    · refine lv_iconst (v := 0) hx hb dX6_isPlace_14 (by decide) ?_
      exact r_pzret hx hb hr hlk (by decide) (bw_h1 (by decide) c_2) dX6_isPlace_15
    · refine lv_iconst (v := 1) hx hb dX6_isPlace_10 (by decide) ?_
      refine lv_goto (tgt := 15) hx hb dX6_isPlace_11 (by decide) ?_
      exact r_pzret hx hb hr hlk (by decide) (bw_t1 (by decide) c_1 c_2) dX6_isPlace_15
set_option maxHeartbeats 4000000 in
set_option maxRecDepth 100000 in
theorem c_X6_isHouse (l : Launch) (x : Int32) : Cp l yX6_isHouse wsX6_isHouse { frames := 0, cells := 0, slots := 0, locals := 0 } [.int x] (bI (inB x 0 9)) := by
  refine gMet_p (cc := cX6_isHouse) (maxL := 1) (ret := (some .boolean)) (by decide) rfl (Nat.le_of_ble_eq_true rfl) ?_
  intro p e s m args below meth c hx hb hr F hlk ls hl
  have hl : lv_has ls 1 [(0, .int x)] := hl
  have hts := F.2.2.2.2
  have hown : s.vm.findClass RX6 = some m.cls := F.2.2.2.1
  refine lv_iload_n hx hb dX6_isHouse_0 rfl (lv_at hl 0 rfl) ?_
  refine lv_if_lt (tgt := 14) hx hb dX6_isHouse_1 (by decide) (fun c_1 => ?_) (fun c_1 => ?_)
  · refine lv_iconst (v := 0) hx hb dX6_isHouse_14 (by decide) ?_
    exact r_pzret hx hb hr hlk (by decide) (bw_l c_1) dX6_isHouse_15
  · refine lv_iload_n hx hb dX6_isHouse_4 rfl (lv_at hl 0 rfl) ?_
    refine lv_bipush (v := 10) hx hb dX6_isHouse_5 (by decide) ?_
    refine lv_icmp_ge (tgt := 14) hx hb dX6_isHouse_7 (by decide) (fun c_2 => ?_) (fun c_2 => ?_)
    · refine lv_iconst (v := 0) hx hb dX6_isHouse_14 (by decide) ?_
      exact r_pzret hx hb hr hlk (by decide) (bw_h1 (by decide) c_2) dX6_isHouse_15
    · refine lv_iconst (v := 1) hx hb dX6_isHouse_10 (by decide) ?_
      refine lv_goto (tgt := 15) hx hb dX6_isHouse_11 (by decide) ?_
      exact r_pzret hx hb hr hlk (by decide) (bw_t1 (by decide) c_1 c_2) dX6_isHouse_15
set_option maxHeartbeats 4000000 in
set_option maxRecDepth 100000 in
theorem c_X6_isTale (l : Launch) (x : Int32) : Cp l yX6_isTale wsX6_isTale { frames := 0, cells := 0, slots := 0, locals := 0 } [.int x] (bI (inB x 0 9)) := by
  refine gMet_p (cc := cX6_isTale) (maxL := 1) (ret := (some .boolean)) (by decide) rfl (Nat.le_of_ble_eq_true rfl) ?_
  intro p e s m args below meth c hx hb hr F hlk ls hl
  have hl : lv_has ls 1 [(0, .int x)] := hl
  have hts := F.2.2.2.2
  have hown : s.vm.findClass RX6 = some m.cls := F.2.2.2.1
  refine lv_iload_n hx hb dX6_isTale_0 rfl (lv_at hl 0 rfl) ?_
  refine lv_if_lt (tgt := 14) hx hb dX6_isTale_1 (by decide) (fun c_1 => ?_) (fun c_1 => ?_)
  · refine lv_iconst (v := 0) hx hb dX6_isTale_14 (by decide) ?_
    exact r_pzret hx hb hr hlk (by decide) (bw_l c_1) dX6_isTale_15
  · refine lv_iload_n hx hb dX6_isTale_4 rfl (lv_at hl 0 rfl) ?_
    refine lv_bipush (v := 10) hx hb dX6_isTale_5 (by decide) ?_
    refine lv_icmp_ge (tgt := 14) hx hb dX6_isTale_7 (by decide) (fun c_2 => ?_) (fun c_2 => ?_)
    · refine lv_iconst (v := 0) hx hb dX6_isTale_14 (by decide) ?_
      exact r_pzret hx hb hr hlk (by decide) (bw_h1 (by decide) c_2) dX6_isTale_15
    · refine lv_iconst (v := 1) hx hb dX6_isTale_10 (by decide) ?_
      refine lv_goto (tgt := 15) hx hb dX6_isTale_11 (by decide) ?_
      exact r_pzret hx hb hr hlk (by decide) (bw_t1 (by decide) c_1 c_2) dX6_isTale_15
set_option maxHeartbeats 4000000 in
set_option maxRecDepth 100000 in
theorem c_X6_isIn (l : Launch) (x y : Int32) : Cp l yX6_isIn wsX6_isIn { frames := 0, cells := 0, slots := 0, locals := 0 } [.int x, .int y] (bI (isInB x y)) := by
  refine gMet_p (cc := cX6_isIn) (maxL := 2) (ret := (some .boolean)) (by decide) rfl (Nat.le_of_ble_eq_true rfl) ?_
  intro p e s m args below meth c hx hb hr F hlk ls hl
  have hl : lv_has ls 2 [(0, .int x), (1, .int y)] := hl
  have hts := F.2.2.2.2
  have hown : s.vm.findClass RX6 = some m.cls := F.2.2.2.1
  refine lv_iload_n hx hb dX6_isIn_0 rfl (lv_at hl 1 rfl) ?_
  refine lv_iload_n hx hb dX6_isIn_1 rfl (lv_at hl 0 rfl) ?_
  refine lv_ishr hx hb dX6_isIn_2 ?_
  refine lv_iconst (v := 1) hx hb dX6_isIn_3 (by decide) ?_
  refine lv_iand hx hb dX6_isIn_4 ?_
  refine lv_iconst (v := 1) hx hb dX6_isIn_5 (by decide) ?_
  refine lv_icmp_ne (tgt := 13) hx hb dX6_isIn_6 (by decide) (fun c_1 => ?_) (fun c_1 => ?_)
  · refine lv_iconst (v := 0) hx hb dX6_isIn_13 (by decide) ?_
    exact r_pzret hx hb hr hlk (by decide) (dI_f c_1) dX6_isIn_14
  · refine lv_iconst (v := 1) hx hb dX6_isIn_9 (by decide) ?_
    refine lv_goto (tgt := 14) hx hb dX6_isIn_10 (by decide) ?_
    exact r_pzret hx hb hr hlk (by decide) (dI_t c_1) dX6_isIn_14
set_option maxHeartbeats 4000000 in
set_option maxRecDepth 100000 in
theorem c_X1_longBetween (l : Launch) (g : GT) (sz : Nat) (h : Nat) (A : Nat → Nat) (I : Nat → Int32) (f0 : Nat → Int32) (i j : Nat) (hi : i < 11) (hj : j < 11) : Ci l yX1_longBetween wsX1_longBetween { frames := 1, cells := 0, slots := 0, locals := 20 } g sz [.ref h, .int (nI i), .int (nI j)] [(h, .inr (1, oC A I)), aI g (A 0) 121 f0] (f0 (i * 11 + j)) [(h, .inr (1, oC A I)), aI g (A 0) 121 f0] := by
  refine gMet_i (cc := cX1_longBetween) (maxL := 3) (ret := (some .int)) (by decide) rfl (Nat.le_of_ble_eq_true rfl) ?_
  intro p e s m args below meth c Z hx hb hr F hlk hnm hK hN hA hP hD hS ls hl
  have hl : lv_has ls 3 [(0, .ref h), (1, .int (nI i)), (2, .int (nI j))] := hl
  have hts := F.2.2.2.2
  have hown : s.vm.findClass RX1 = some m.cls := F.2.2.2.1
  have hi1 : ∀ w ∈ u_ws RX1 TX1 12, w ∈ wsX1_longBetween := by decide +kernel
  refine lv_iload_n hx hb dX1_longBetween_0 rfl (lv_at hl 1 rfl) ?_
  refine gcPN (As := [.int (nI i)]) (rest := []) F (c_X6_isPlace l (nI i)) gX1_longBetween_X6_isPlace_n61 kX6_isPlace (hts (.initialized RX6) (by decide +kernel)) (hN.get 5 rfl) (hts (.static yX6_isPlace) (by decide +kernel)) rfl rfl rfl ⟨(Nat.le_of_ble_eq_true rfl), (Nat.le_of_ble_eq_true rfl)⟩ rfl rfl hl.1 (Nat.le_of_ble_eq_true rfl) dX1_longBetween_1 ⟨(Nat.le_of_ble_eq_true rfl), (Nat.le_of_ble_eq_true rfl)⟩ ?_
  refine lv_if_eq (tgt := 28) hx hb dX1_longBetween_4 (by decide) (fun c_1 => ?_) (fun c_1 => ?_)
  · exact absurd (bI_0 c_1) (by rw [inB_nI (N := 11) (by decide) (by omega), decide_eq_true hi]; decide)
  · have c_1 : inB (nI i) 0 10 = true := bI_1 c_1
    refine lv_iload_n hx hb dX1_longBetween_7 rfl (lv_at hl 2 rfl) ?_
    refine gcPN (As := [.int (nI j)]) (rest := []) F (c_X6_isPlace l (nI j)) gX1_longBetween_X6_isPlace_n61 kX6_isPlace (hts (.initialized RX6) (by decide +kernel)) (hN.get 5 rfl) (hts (.static yX6_isPlace) (by decide +kernel)) rfl rfl rfl ⟨(Nat.le_of_ble_eq_true rfl), (Nat.le_of_ble_eq_true rfl)⟩ rfl rfl hl.1 (Nat.le_of_ble_eq_true rfl) dX1_longBetween_8 ⟨(Nat.le_of_ble_eq_true rfl), (Nat.le_of_ble_eq_true rfl)⟩ ?_
    refine lv_if_eq (tgt := 28) hx hb dX1_longBetween_11 (by decide) (fun c_2 => ?_) (fun c_2 => ?_)
    · exact absurd (bI_0 c_2) (by rw [inB_nI (N := 11) (by decide) (by omega), decide_eq_true hj]; decide)
    · have c_2 : inB (nI j) 0 10 = true := bI_1 c_2
      refine lv_aload_n hx hb dX1_longBetween_14 rfl (lv_at hl 0 rfl) ?_
      refine va_get (D := g.1) (ci := 1) (v := .ref (A 0)) (C := RX1) (T := TX1) (N := 12) hx hb hts hi1 hown hK hP 0 rfl rfl 0 (by decide) (hts (.fieldLink RX1 9 "PanTales$Close" "roads" "[I") (by decide +kernel)) (fun _ h9 => h9) rfl dX1_longBetween_15 ?_
      refine lv_iload_n hx hb dX1_longBetween_18 rfl (lv_at hl 1 rfl) ?_
      refine lv_bipush (v := 11) hx hb dX1_longBetween_19 (by decide) ?_
      refine lv_imul hx hb dX1_longBetween_21 ?_
      refine gtop (y := nI (i * 11)) (pk_mul i 11) ?_
      refine lv_iload_n hx hb dX1_longBetween_22 rfl (lv_at hl 2 rfl) ?_
      refine lv_iadd hx hb dX1_longBetween_23 ?_
      refine gtop (y := nI ((i * 11) + j)) (nI_add (i * 11) j) ?_
      refine r_iald (v := f0 ((i * 11) + j)) hx hb hK hP 1 rfl (vp_in_nI (n := (i * 11) + j) (by omega) (by omega)) (congrArg f0 (nI_clamp (n := (i * 11) + j) (by omega))) dX1_longBetween_24 ?_
      refine lv_goto (tgt := 29) hx hb dX1_longBetween_25 (by decide) ?_
      exact r_iret hx hb hr hlk hS () rfl (hP.sub [0, 1] rfl) (hD.sub [0, 1] (by decide) rfl) dX1_longBetween_29
set_option maxHeartbeats 4000000 in
set_option maxRecDepth 100000 in
theorem c_X1_doubtOf (l : Launch) (g : GT) (sz : Nat) (h : Nat) (A : Nat → Nat) (I : Nat → Int32) (f1 : Nat → Int32) (j : Nat) (hj : j < 10) : Ci l yX1_doubtOf wsX1_doubtOf { frames := 1, cells := 0, slots := 0, locals := 20 } g sz [.ref h, .int (nI j)] [(h, .inr (1, oC A I)), aI g (A 1) 10 f1] (f1 j) [(h, .inr (1, oC A I)), aI g (A 1) 10 f1] := by
  refine gMet_i (cc := cX1_doubtOf) (maxL := 2) (ret := (some .int)) (by decide) rfl (Nat.le_of_ble_eq_true rfl) ?_
  intro p e s m args below meth c Z hx hb hr F hlk hnm hK hN hA hP hD hS ls hl
  have hl : lv_has ls 2 [(0, .ref h), (1, .int (nI j))] := hl
  have hts := F.2.2.2.2
  have hown : s.vm.findClass RX1 = some m.cls := F.2.2.2.1
  have hi1 : ∀ w ∈ u_ws RX1 TX1 12, w ∈ wsX1_doubtOf := by decide +kernel
  refine lv_iload_n hx hb dX1_doubtOf_0 rfl (lv_at hl 1 rfl) ?_
  refine gcPN (As := [.int (nI j)]) (rest := []) F (c_X6_isHouse l (nI j)) gX1_doubtOf_X6_isHouse_n65 kX6_isHouse (hts (.initialized RX6) (by decide +kernel)) (hN.get 6 rfl) (hts (.static yX6_isHouse) (by decide +kernel)) rfl rfl rfl ⟨(Nat.le_of_ble_eq_true rfl), (Nat.le_of_ble_eq_true rfl)⟩ rfl rfl hl.1 (Nat.le_of_ble_eq_true rfl) dX1_doubtOf_1 ⟨(Nat.le_of_ble_eq_true rfl), (Nat.le_of_ble_eq_true rfl)⟩ ?_
  refine lv_if_eq (tgt := 16) hx hb dX1_doubtOf_4 (by decide) (fun c_1 => ?_) (fun c_1 => ?_)
  · exact absurd (bI_0 c_1) (by rw [inB_nI (N := 10) (by decide) (by omega), decide_eq_true hj]; decide)
  · have c_1 : inB (nI j) 0 9 = true := bI_1 c_1
    refine lv_aload_n hx hb dX1_doubtOf_7 rfl (lv_at hl 0 rfl) ?_
    refine va_get (D := g.1) (ci := 1) (v := .ref (A 1)) (C := RX1) (T := TX1) (N := 12) hx hb hts hi1 hown hK hP 0 rfl rfl 1 (by decide) (hts (.fieldLink RX1 15 "PanTales$Close" "doubts" "[I") (by decide +kernel)) (fun _ h9 => h9) rfl dX1_doubtOf_8 ?_
    refine lv_iload_n hx hb dX1_doubtOf_11 rfl (lv_at hl 1 rfl) ?_
    refine r_iald (v := f1 j) hx hb hK hP 1 rfl (vp_in_nI (n := j) (by omega) (by omega)) (congrArg f1 (nI_clamp (n := j) (by omega))) dX1_doubtOf_12 ?_
    refine lv_goto (tgt := 18) hx hb dX1_doubtOf_13 (by decide) ?_
    exact r_iret hx hb hr hlk hS () rfl (hP.sub [0, 1] rfl) (hD.sub [0, 1] (by decide) rfl) dX1_doubtOf_18
set_option maxHeartbeats 4000000 in
set_option maxRecDepth 100000 in
theorem c_X1_beliefOf (l : Launch) (g : GT) (sz : Nat) (h : Nat) (A : Nat → Nat) (I : Nat → Int32) (f3 : Nat → Int32) (j : Nat) (hj : j < 10) : Ci l yX1_beliefOf wsX1_beliefOf { frames := 1, cells := 0, slots := 0, locals := 20 } g sz [.ref h, .int (nI j)] [(h, .inr (1, oC A I)), aI g (A 3) 10 f3] (f3 j) [(h, .inr (1, oC A I)), aI g (A 3) 10 f3] := by
  refine gMet_i (cc := cX1_beliefOf) (maxL := 2) (ret := (some .int)) (by decide) rfl (Nat.le_of_ble_eq_true rfl) ?_
  intro p e s m args below meth c Z hx hb hr F hlk hnm hK hN hA hP hD hS ls hl
  have hl : lv_has ls 2 [(0, .ref h), (1, .int (nI j))] := hl
  have hts := F.2.2.2.2
  have hown : s.vm.findClass RX1 = some m.cls := F.2.2.2.1
  have hi1 : ∀ w ∈ u_ws RX1 TX1 12, w ∈ wsX1_beliefOf := by decide +kernel
  refine lv_iload_n hx hb dX1_beliefOf_0 rfl (lv_at hl 1 rfl) ?_
  refine gcPN (As := [.int (nI j)]) (rest := []) F (c_X6_isHouse l (nI j)) gX1_beliefOf_X6_isHouse_n65 kX6_isHouse (hts (.initialized RX6) (by decide +kernel)) (hN.get 6 rfl) (hts (.static yX6_isHouse) (by decide +kernel)) rfl rfl rfl ⟨(Nat.le_of_ble_eq_true rfl), (Nat.le_of_ble_eq_true rfl)⟩ rfl rfl hl.1 (Nat.le_of_ble_eq_true rfl) dX1_beliefOf_1 ⟨(Nat.le_of_ble_eq_true rfl), (Nat.le_of_ble_eq_true rfl)⟩ ?_
  refine lv_if_eq (tgt := 16) hx hb dX1_beliefOf_4 (by decide) (fun c_1 => ?_) (fun c_1 => ?_)
  · exact absurd (bI_0 c_1) (by rw [inB_nI (N := 10) (by decide) (by omega), decide_eq_true hj]; decide)
  · have c_1 : inB (nI j) 0 9 = true := bI_1 c_1
    refine lv_aload_n hx hb dX1_beliefOf_7 rfl (lv_at hl 0 rfl) ?_
    refine va_get (D := g.1) (ci := 1) (v := .ref (A 3)) (C := RX1) (T := TX1) (N := 12) hx hb hts hi1 hown hK hP 0 rfl rfl 3 (by decide) (hts (.fieldLink RX1 21 "PanTales$Close" "beliefs" "[I") (by decide +kernel)) (fun _ h9 => h9) rfl dX1_beliefOf_8 ?_
    refine lv_iload_n hx hb dX1_beliefOf_11 rfl (lv_at hl 1 rfl) ?_
    refine r_iald (v := f3 j) hx hb hK hP 1 rfl (vp_in_nI (n := j) (by omega) (by omega)) (congrArg f3 (nI_clamp (n := j) (by omega))) dX1_beliefOf_12 ?_
    refine lv_goto (tgt := 18) hx hb dX1_beliefOf_13 (by decide) ?_
    exact r_iret hx hb hr hlk hS () rfl (hP.sub [0, 1] rfl) (hD.sub [0, 1] (by decide) rfl) dX1_beliefOf_18
set_option maxHeartbeats 4000000 in
set_option maxRecDepth 100000 in
theorem c_X1_fadesInto (l : Launch) (g : GT) (sz : Nat) (h : Nat) (A : Nat → Nat) (I : Nat → Int32) (f4 : Nat → Int32) (j : Nat) (hj : j < 10) : Ci l yX1_fadesInto wsX1_fadesInto { frames := 1, cells := 0, slots := 0, locals := 20 } g sz [.ref h, .int (nI j)] [(h, .inr (1, oC A I)), aI g (A 4) 10 f4] (f4 j) [(h, .inr (1, oC A I)), aI g (A 4) 10 f4] := by
  refine gMet_i (cc := cX1_fadesInto) (maxL := 2) (ret := (some .int)) (by decide) rfl (Nat.le_of_ble_eq_true rfl) ?_
  intro p e s m args below meth c Z hx hb hr F hlk hnm hK hN hA hP hD hS ls hl
  have hl : lv_has ls 2 [(0, .ref h), (1, .int (nI j))] := hl
  have hts := F.2.2.2.2
  have hown : s.vm.findClass RX1 = some m.cls := F.2.2.2.1
  have hi1 : ∀ w ∈ u_ws RX1 TX1 12, w ∈ wsX1_fadesInto := by decide +kernel
  refine lv_iload_n hx hb dX1_fadesInto_0 rfl (lv_at hl 1 rfl) ?_
  refine gcPN (As := [.int (nI j)]) (rest := []) F (c_X6_isTale l (nI j)) gX1_fadesInto_X6_isTale_n86 kX6_isTale (hts (.initialized RX6) (by decide +kernel)) (hN.get 7 rfl) (hts (.static yX6_isTale) (by decide +kernel)) rfl rfl rfl ⟨(Nat.le_of_ble_eq_true rfl), (Nat.le_of_ble_eq_true rfl)⟩ rfl rfl hl.1 (Nat.le_of_ble_eq_true rfl) dX1_fadesInto_1 ⟨(Nat.le_of_ble_eq_true rfl), (Nat.le_of_ble_eq_true rfl)⟩ ?_
  refine lv_if_eq (tgt := 16) hx hb dX1_fadesInto_4 (by decide) (fun c_1 => ?_) (fun c_1 => ?_)
  · exact absurd (bI_0 c_1) (by rw [inB_nI (N := 10) (by decide) (by omega), decide_eq_true hj]; decide)
  · have c_1 : inB (nI j) 0 9 = true := bI_1 c_1
    refine lv_aload_n hx hb dX1_fadesInto_7 rfl (lv_at hl 0 rfl) ?_
    refine va_get (D := g.1) (ci := 1) (v := .ref (A 4)) (C := RX1) (T := TX1) (N := 12) hx hb hts hi1 hown hK hP 0 rfl rfl 4 (by decide) (hts (.fieldLink RX1 24 "PanTales$Close" "fadings" "[I") (by decide +kernel)) (fun _ h9 => h9) rfl dX1_fadesInto_8 ?_
    refine lv_iload_n hx hb dX1_fadesInto_11 rfl (lv_at hl 1 rfl) ?_
    refine r_iald (v := f4 j) hx hb hK hP 1 rfl (vp_in_nI (n := j) (by omega) (by omega)) (congrArg f4 (nI_clamp (n := j) (by omega))) dX1_fadesInto_12 ?_
    refine lv_goto (tgt := 18) hx hb dX1_fadesInto_13 (by decide) ?_
    exact r_iret hx hb hr hlk hS () rfl (hP.sub [0, 1] rfl) (hD.sub [0, 1] (by decide) rfl) dX1_fadesInto_18

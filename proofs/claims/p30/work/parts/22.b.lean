theorem kX1_longBetween : YOk yX1_longBetween 2 := by decide +kernel
theorem kX1_layRoad : YOk yX1_layRoad 3 := by decide +kernel
theorem kX1_doubtOf : YOk yX1_doubtOf 1 := by decide +kernel
theorem kX1_isDamp : YOk yX1_isDamp 1 := by decide +kernel
theorem kX1_beliefOf : YOk yX1_beliefOf 1 := by decide +kernel
theorem kX1_furnish : YOk yX1_furnish 3 := by decide +kernel
theorem kX1_convince : YOk yX1_convince 2 := by decide +kernel
theorem kX1_houseFact : YOk yX1_houseFact 2 := by decide +kernel
theorem kX1_panFact : YOk yX1_panFact 1 := by decide +kernel
theorem kX1_believersOf : YOk yX1_believersOf 1 := by decide +kernel
theorem kX1_fadesInto : YOk yX1_fadesInto 1 := by decide +kernel
theorem kX1_letFade : YOk yX1_letFade 2 := by decide +kernel
set_option maxHeartbeats 4000000 in
set_option maxRecDepth 100000 in
theorem m_X1_longBetween (l : Launch) (g : GT) (sz : Nat) (qC : Nat) (AC : Nat → Nat) (σC : qS) (a1 : Int32) (a2 : Int32) (rr : Int32) (hF : f_X1_longBetween σC a1 a2 = some rr) : Ci l yX1_longBetween wsX1_longBetween { frames := 1, cells := 0, slots := 0, locals := 20 } g sz [.ref qC, .int a1, .int a2] (wX1 g qC AC σC) rr (wX1 g qC AC σC) := by
  refine gMet_i (cc := cX1_longBetween) (maxL := 3) (ret := (some .int)) (by decide) rfl (Nat.le_of_ble_eq_true rfl) ?_
  intro p e s m args below meth c Z hx hb hr F hlk hnm hK hN hA H locs hP hD hS ls hl
  have hl : lv_has ls 3 [(0, .ref qC), (1, .int a1), (2, .int a2)] := hl
  have F : CallFix p m c cX1_longBetween 3 s args wsX1_longBetween RX1 := F
  have hts := F.2.2.2.2
  have hown : s.vm.findClass RX1 = some m.cls := F.2.2.2.1
  have hi1 : ∀ w ∈ u_ws RX1 TX1 12, w ∈ wsX1_longBetween := by decide +kernel
  dsimp only [f_X1_longBetween] at hF
  refine lv_iload_n hx hb dX1_longBetween_0 rfl (lv_at hl 1 rfl) ?_
  obtain ⟨r_1, h_2, hF⟩ := q_cl_s hF
  refine gcPN (As := [.int a1]) (rest := []) F (m_X6_isPlace l a1 r_1 h_2) gX1_longBetween_X6_isPlace_n61 kX6_isPlace (hts (.initialized RX6) (by decide +kernel)) (hN.get 5 rfl) (hts (.static yX6_isPlace) (by decide +kernel)) rfl rfl rfl ⟨(Nat.le_of_ble_eq_true rfl), (Nat.le_of_ble_eq_true rfl)⟩ rfl rfl hl.1 (Nat.le_of_ble_eq_true rfl) dX1_longBetween_1 ⟨(Nat.le_of_ble_eq_true rfl), (Nat.le_of_ble_eq_true rfl)⟩ ?_
  refine lv_if_eq (tgt := 28) hx hb dX1_longBetween_4 (by decide) (fun c_3 => ?_) (fun c_3 => ?_)
  · have hF := q_if_t c_3 hF
    refine lv_iconst (v := 0) hx hb dX1_longBetween_28 (by decide) ?_
    cases hF
    exact r_iret hx hb hr hlk hS () rfl hP hD dX1_longBetween_29
  · have hF := q_if_f c_3 hF
    refine lv_iload_n hx hb dX1_longBetween_7 rfl (lv_at hl 2 rfl) ?_
    obtain ⟨r_4, h_5, hF⟩ := q_cl_s hF
    refine gcPN (As := [.int a2]) (rest := []) F (m_X6_isPlace l a2 r_4 h_5) gX1_longBetween_X6_isPlace_n61 kX6_isPlace (hts (.initialized RX6) (by decide +kernel)) (hN.get 5 rfl) (hts (.static yX6_isPlace) (by decide +kernel)) rfl rfl rfl ⟨(Nat.le_of_ble_eq_true rfl), (Nat.le_of_ble_eq_true rfl)⟩ rfl rfl hl.1 (Nat.le_of_ble_eq_true rfl) dX1_longBetween_8 ⟨(Nat.le_of_ble_eq_true rfl), (Nat.le_of_ble_eq_true rfl)⟩ ?_
    refine lv_if_eq (tgt := 28) hx hb dX1_longBetween_11 (by decide) (fun c_6 => ?_) (fun c_6 => ?_)
    · have hF := q_if_t c_6 hF
      refine lv_iconst (v := 0) hx hb dX1_longBetween_28 (by decide) ?_
      cases hF
      exact r_iret hx hb hr hlk hS () rfl hP hD dX1_longBetween_29
    · have hF := q_if_f c_6 hF
      refine lv_aload_n hx hb dX1_longBetween_14 rfl (lv_at hl 0 rfl) ?_
      refine va_get (D := g.1) (ci := 1) (v := .ref (AC 0)) (C := RX1) (T := TX1) (N := 12) hx hb hts hi1 hown hK hP 0 rfl rfl 0 (by decide) (hts (.fieldLink RX1 9 "PanTales$Close" "roads" "[I") (by decide +kernel)) (fun _ h9 => h9) rfl dX1_longBetween_15 ?_
      refine lv_iload_n hx hb dX1_longBetween_18 rfl (lv_at hl 1 rfl) ?_
      refine lv_bipush (v := 11) hx hb dX1_longBetween_19 (by decide) ?_
      refine lv_imul hx hb dX1_longBetween_21 ?_
      refine lv_iload_n hx hb dX1_longBetween_22 rfl (lv_at hl 2 rfl) ?_
      refine lv_iadd hx hb dX1_longBetween_23 ?_
      obtain ⟨r_7, i_8, e_9, hF⟩ := q_rd_s hF
      refine r_iald (v := r_7) hx hb hK hP 1 rfl i_8 e_9 dX1_longBetween_24 ?_
      refine lv_goto (tgt := 29) hx hb dX1_longBetween_25 (by decide) ?_
      cases hF
      exact r_iret hx hb hr hlk hS () rfl hP hD dX1_longBetween_29
set_option maxHeartbeats 4000000 in
set_option maxRecDepth 100000 in
theorem m_X1_layRoad (l : Launch) (g : GT) (sz : Nat) (qC : Nat) (AC : Nat → Nat) (σC : qS) (a1 : Int32) (a2 : Int32) (a3 : Int32) (σC' : qS) (hF : f_X1_layRoad σC a1 a2 a3 = some σC') : Cv l yX1_layRoad wsX1_layRoad { frames := 1, cells := 0, slots := 0, locals := 20 } g sz [.ref qC, .int a1, .int a2, .int a3] (wX1 g qC AC σC) (wX1 g qC AC σC') := by
  refine gMet_v (cc := cX1_layRoad) (maxL := 4) (ret := none) (by decide) rfl (Nat.le_of_ble_eq_true rfl) ?_
  intro p e s m args below meth c Z hx hb hr F hlk hnm hK hN hA H locs hP hD hS ls hl
  have hl : lv_has ls 4 [(0, .ref qC), (1, .int a1), (2, .int a2), (3, .int a3)] := hl
  have F : CallFix p m c cX1_layRoad 4 s args wsX1_layRoad RX1 := F
  have hts := F.2.2.2.2
  have hown : s.vm.findClass RX1 = some m.cls := F.2.2.2.1
  have hi1 : ∀ w ∈ u_ws RX1 TX1 12, w ∈ wsX1_layRoad := by decide +kernel
  dsimp only [f_X1_layRoad] at hF
  refine lv_iload_n hx hb dX1_layRoad_0 rfl (lv_at hl 1 rfl) ?_
  obtain ⟨r_1, h_2, hF⟩ := q_cl_s hF
  refine gcPN (As := [.int a1]) (rest := []) F (m_X6_isPlace l a1 r_1 h_2) gX1_layRoad_X6_isPlace_n61 kX6_isPlace (hts (.initialized RX6) (by decide +kernel)) (hN.get 5 rfl) (hts (.static yX6_isPlace) (by decide +kernel)) rfl rfl rfl ⟨(Nat.le_of_ble_eq_true rfl), (Nat.le_of_ble_eq_true rfl)⟩ rfl rfl hl.1 (Nat.le_of_ble_eq_true rfl) dX1_layRoad_1 ⟨(Nat.le_of_ble_eq_true rfl), (Nat.le_of_ble_eq_true rfl)⟩ ?_
  refine lv_if_eq (tgt := 38) hx hb dX1_layRoad_4 (by decide) (fun c_3 => ?_) (fun c_3 => ?_)
  · have hF := q_if_t c_3 hF
    cases hF
    exact r_vret hx hb hr hlk hS () trivial hP hD dX1_layRoad_38
  · have hF := q_if_f c_3 hF
    refine lv_iload_n hx hb dX1_layRoad_7 rfl (lv_at hl 2 rfl) ?_
    obtain ⟨r_4, h_5, hF⟩ := q_cl_s hF
    refine gcPN (As := [.int a2]) (rest := []) F (m_X6_isPlace l a2 r_4 h_5) gX1_layRoad_X6_isPlace_n61 kX6_isPlace (hts (.initialized RX6) (by decide +kernel)) (hN.get 5 rfl) (hts (.static yX6_isPlace) (by decide +kernel)) rfl rfl rfl ⟨(Nat.le_of_ble_eq_true rfl), (Nat.le_of_ble_eq_true rfl)⟩ rfl rfl hl.1 (Nat.le_of_ble_eq_true rfl) dX1_layRoad_8 ⟨(Nat.le_of_ble_eq_true rfl), (Nat.le_of_ble_eq_true rfl)⟩ ?_
    refine lv_if_eq (tgt := 38) hx hb dX1_layRoad_11 (by decide) (fun c_6 => ?_) (fun c_6 => ?_)
    · have hF := q_if_t c_6 hF
      cases hF
      exact r_vret hx hb hr hlk hS () trivial hP hD dX1_layRoad_38
    · have hF := q_if_f c_6 hF
      refine lv_aload_n hx hb dX1_layRoad_14 rfl (lv_at hl 0 rfl) ?_
      refine va_get (D := g.1) (ci := 1) (v := .ref (AC 0)) (C := RX1) (T := TX1) (N := 12) hx hb hts hi1 hown hK hP 0 rfl rfl 0 (by decide) (hts (.fieldLink RX1 9 "PanTales$Close" "roads" "[I") (by decide +kernel)) (fun _ h9 => h9) rfl dX1_layRoad_15 ?_
      refine lv_iload_n hx hb dX1_layRoad_18 rfl (lv_at hl 1 rfl) ?_
      refine lv_bipush (v := 11) hx hb dX1_layRoad_19 (by decide) ?_
      refine lv_imul hx hb dX1_layRoad_21 ?_
      refine lv_iload_n hx hb dX1_layRoad_22 rfl (lv_at hl 2 rfl) ?_
      refine lv_iadd hx hb dX1_layRoad_23 ?_
      refine lv_iload_n hx hb dX1_layRoad_24 rfl (lv_at hl 3 rfl) ?_
      obtain ⟨σC_7, i_8, e_9, hF⟩ := q_wr_s hF
      refine r_iast (f' := upd (σC 0) ((a1 * 11) + a2).toNatClampNeg a3) hx hb hK hP hD hS 1 rfl i_8 (fun _ _ => rfl) dX1_layRoad_25 (fun H locs hP hD hS => ?_)
      have hP : va_P g.1 vwCl (wX1 g qC AC (q_up σC 0 (upd (σC 0) ((a1 * 11) + a2).toNatClampNeg a3))) H := hP
      have hD : va_D Z (wX1 g qC AC (q_up σC 0 (upd (σC 0) ((a1 * 11) + a2).toNatClampNeg a3))) := hD
      rw [e_9] at hP hD
      refine lv_aload_n hx hb dX1_layRoad_26 rfl (lv_at hl 0 rfl) ?_
      refine va_get (D := g.1) (ci := 1) (v := .ref (AC 0)) (C := RX1) (T := TX1) (N := 12) hx hb hts hi1 hown hK hP 0 rfl rfl 0 (by decide) (hts (.fieldLink RX1 9 "PanTales$Close" "roads" "[I") (by decide +kernel)) (fun _ h9 => h9) rfl dX1_layRoad_27 ?_
      refine lv_iload_n hx hb dX1_layRoad_30 rfl (lv_at hl 2 rfl) ?_
      refine lv_bipush (v := 11) hx hb dX1_layRoad_31 (by decide) ?_
      refine lv_imul hx hb dX1_layRoad_33 ?_
      refine lv_iload_n hx hb dX1_layRoad_34 rfl (lv_at hl 1 rfl) ?_
      refine lv_iadd hx hb dX1_layRoad_35 ?_
      refine lv_iload_n hx hb dX1_layRoad_36 rfl (lv_at hl 3 rfl) ?_
      obtain ⟨σC_10, i_11, e_12, hF⟩ := q_wr_s hF
      refine r_iast (f' := upd (σC_7 0) ((a2 * 11) + a1).toNatClampNeg a3) hx hb hK hP hD hS 1 rfl i_11 (fun _ _ => rfl) dX1_layRoad_37 (fun H locs hP hD hS => ?_)
      have hP : va_P g.1 vwCl (wX1 g qC AC (q_up σC_7 0 (upd (σC_7 0) ((a2 * 11) + a1).toNatClampNeg a3))) H := hP
      have hD : va_D Z (wX1 g qC AC (q_up σC_7 0 (upd (σC_7 0) ((a2 * 11) + a1).toNatClampNeg a3))) := hD
      rw [e_12] at hP hD
      cases hF
      exact r_vret hx hb hr hlk hS () trivial hP hD dX1_layRoad_38
set_option maxHeartbeats 4000000 in
set_option maxRecDepth 100000 in
theorem m_X1_doubtOf (l : Launch) (g : GT) (sz : Nat) (qC : Nat) (AC : Nat → Nat) (σC : qS) (a1 : Int32) (rr : Int32) (hF : f_X1_doubtOf σC a1 = some rr) : Ci l yX1_doubtOf wsX1_doubtOf { frames := 1, cells := 0, slots := 0, locals := 20 } g sz [.ref qC, .int a1] (wX1 g qC AC σC) rr (wX1 g qC AC σC) := by
  refine gMet_i (cc := cX1_doubtOf) (maxL := 2) (ret := (some .int)) (by decide) rfl (Nat.le_of_ble_eq_true rfl) ?_
  intro p e s m args below meth c Z hx hb hr F hlk hnm hK hN hA H locs hP hD hS ls hl
  have hl : lv_has ls 2 [(0, .ref qC), (1, .int a1)] := hl
  have F : CallFix p m c cX1_doubtOf 2 s args wsX1_doubtOf RX1 := F
  have hts := F.2.2.2.2
  have hown : s.vm.findClass RX1 = some m.cls := F.2.2.2.1
  have hi1 : ∀ w ∈ u_ws RX1 TX1 12, w ∈ wsX1_doubtOf := by decide +kernel
  dsimp only [f_X1_doubtOf] at hF
  refine lv_iload_n hx hb dX1_doubtOf_0 rfl (lv_at hl 1 rfl) ?_
  obtain ⟨r_1, h_2, hF⟩ := q_cl_s hF
  refine gcPN (As := [.int a1]) (rest := []) F (m_X6_isHouse l a1 r_1 h_2) gX1_doubtOf_X6_isHouse_n65 kX6_isHouse (hts (.initialized RX6) (by decide +kernel)) (hN.get 6 rfl) (hts (.static yX6_isHouse) (by decide +kernel)) rfl rfl rfl ⟨(Nat.le_of_ble_eq_true rfl), (Nat.le_of_ble_eq_true rfl)⟩ rfl rfl hl.1 (Nat.le_of_ble_eq_true rfl) dX1_doubtOf_1 ⟨(Nat.le_of_ble_eq_true rfl), (Nat.le_of_ble_eq_true rfl)⟩ ?_
  refine lv_if_eq (tgt := 16) hx hb dX1_doubtOf_4 (by decide) (fun c_3 => ?_) (fun c_3 => ?_)
  · have hF := q_if_t c_3 hF
    refine lv_bipush (v := 9) hx hb dX1_doubtOf_16 (by decide) ?_
    cases hF
    exact r_iret hx hb hr hlk hS () rfl hP hD dX1_doubtOf_18
  · have hF := q_if_f c_3 hF
    refine lv_aload_n hx hb dX1_doubtOf_7 rfl (lv_at hl 0 rfl) ?_
    refine va_get (D := g.1) (ci := 1) (v := .ref (AC 1)) (C := RX1) (T := TX1) (N := 12) hx hb hts hi1 hown hK hP 0 rfl rfl 1 (by decide) (hts (.fieldLink RX1 15 "PanTales$Close" "doubts" "[I") (by decide +kernel)) (fun _ h9 => h9) rfl dX1_doubtOf_8 ?_
    refine lv_iload_n hx hb dX1_doubtOf_11 rfl (lv_at hl 1 rfl) ?_
    obtain ⟨r_4, i_5, e_6, hF⟩ := q_rd_s hF
    refine r_iald (v := r_4) hx hb hK hP 2 rfl i_5 e_6 dX1_doubtOf_12 ?_
    refine lv_goto (tgt := 18) hx hb dX1_doubtOf_13 (by decide) ?_
    cases hF
    exact r_iret hx hb hr hlk hS () rfl hP hD dX1_doubtOf_18
set_option maxHeartbeats 4000000 in
set_option maxRecDepth 100000 in
theorem m_X1_isDamp (l : Launch) (g : GT) (sz : Nat) (qC : Nat) (AC : Nat → Nat) (σC : qS) (a1 : Int32) (rr : Int32) (hF : f_X1_isDamp σC a1 = some rr) : Ci l yX1_isDamp wsX1_isDamp { frames := 1, cells := 0, slots := 0, locals := 20 } g sz [.ref qC, .int a1] (wX1 g qC AC σC) rr (wX1 g qC AC σC) := by
  refine gMet_i (cc := cX1_isDamp) (maxL := 2) (ret := (some .boolean)) (by decide) rfl (Nat.le_of_ble_eq_true rfl) ?_
  intro p e s m args below meth c Z hx hb hr F hlk hnm hK hN hA H locs hP hD hS ls hl
  have hl : lv_has ls 2 [(0, .ref qC), (1, .int a1)] := hl
  have F : CallFix p m c cX1_isDamp 2 s args wsX1_isDamp RX1 := F
  have hts := F.2.2.2.2
  have hown : s.vm.findClass RX1 = some m.cls := F.2.2.2.1
  have hi1 : ∀ w ∈ u_ws RX1 TX1 12, w ∈ wsX1_isDamp := by decide +kernel
  dsimp only [f_X1_isDamp] at hF
  refine lv_iload_n hx hb dX1_isDamp_0 rfl (lv_at hl 1 rfl) ?_
  obtain ⟨r_1, h_2, hF⟩ := q_cl_s hF
  refine gcPN (As := [.int a1]) (rest := []) F (m_X6_isHouse l a1 r_1 h_2) gX1_isDamp_X6_isHouse_n65 kX6_isHouse (hts (.initialized RX6) (by decide +kernel)) (hN.get 6 rfl) (hts (.static yX6_isHouse) (by decide +kernel)) rfl rfl rfl ⟨(Nat.le_of_ble_eq_true rfl), (Nat.le_of_ble_eq_true rfl)⟩ rfl rfl hl.1 (Nat.le_of_ble_eq_true rfl) dX1_isDamp_1 ⟨(Nat.le_of_ble_eq_true rfl), (Nat.le_of_ble_eq_true rfl)⟩ ?_
  refine lv_if_eq (tgt := 21) hx hb dX1_isDamp_4 (by decide) (fun c_3 => ?_) (fun c_3 => ?_)
  · have hF := q_if_t c_3 hF
    refine lv_iconst (v := 0) hx hb dX1_isDamp_21 (by decide) ?_
    cases hF
    exact r_zret hx hb hr hlk hS () (by decide) rfl hP hD dX1_isDamp_22
  · have hF := q_if_f c_3 hF
    refine lv_aload_n hx hb dX1_isDamp_7 rfl (lv_at hl 0 rfl) ?_
    refine va_get (D := g.1) (ci := 1) (v := .ref (AC 2)) (C := RX1) (T := TX1) (N := 12) hx hb hts hi1 hown hK hP 0 rfl rfl 2 (by decide) (hts (.fieldLink RX1 18 "PanTales$Close" "damps" "[I") (by decide +kernel)) (fun _ h9 => h9) rfl dX1_isDamp_8 ?_
    refine lv_iload_n hx hb dX1_isDamp_11 rfl (lv_at hl 1 rfl) ?_
    obtain ⟨r_4, i_5, e_6, hF⟩ := q_rd_s hF
    refine r_iald (v := r_4) hx hb hK hP 3 rfl i_5 e_6 dX1_isDamp_12 ?_
    refine lv_iconst (v := 1) hx hb dX1_isDamp_13 (by decide) ?_
    refine lv_icmp_ne (tgt := 21) hx hb dX1_isDamp_14 (by decide) (fun c_7 => ?_) (fun c_7 => ?_)
    · have hF := q_if_f c_7 hF
      refine lv_iconst (v := 0) hx hb dX1_isDamp_21 (by decide) ?_
      cases hF
      exact r_zret hx hb hr hlk hS () (by decide) rfl hP hD dX1_isDamp_22
    · have hF := q_if_t (by first | exact c_7 | exact Classical.not_not.mp c_7) hF
      refine lv_iconst (v := 1) hx hb dX1_isDamp_17 (by decide) ?_
      refine lv_goto (tgt := 22) hx hb dX1_isDamp_18 (by decide) ?_
      cases hF
      exact r_zret hx hb hr hlk hS () (by decide) rfl hP hD dX1_isDamp_22
set_option maxHeartbeats 4000000 in
set_option maxRecDepth 100000 in
theorem m_X1_beliefOf (l : Launch) (g : GT) (sz : Nat) (qC : Nat) (AC : Nat → Nat) (σC : qS) (a1 : Int32) (rr : Int32) (hF : f_X1_beliefOf σC a1 = some rr) : Ci l yX1_beliefOf wsX1_beliefOf { frames := 1, cells := 0, slots := 0, locals := 20 } g sz [.ref qC, .int a1] (wX1 g qC AC σC) rr (wX1 g qC AC σC) := by
  refine gMet_i (cc := cX1_beliefOf) (maxL := 2) (ret := (some .int)) (by decide) rfl (Nat.le_of_ble_eq_true rfl) ?_
  intro p e s m args below meth c Z hx hb hr F hlk hnm hK hN hA H locs hP hD hS ls hl
  have hl : lv_has ls 2 [(0, .ref qC), (1, .int a1)] := hl
  have F : CallFix p m c cX1_beliefOf 2 s args wsX1_beliefOf RX1 := F
  have hts := F.2.2.2.2
  have hown : s.vm.findClass RX1 = some m.cls := F.2.2.2.1
  have hi1 : ∀ w ∈ u_ws RX1 TX1 12, w ∈ wsX1_beliefOf := by decide +kernel
  dsimp only [f_X1_beliefOf] at hF
  refine lv_iload_n hx hb dX1_beliefOf_0 rfl (lv_at hl 1 rfl) ?_
  obtain ⟨r_1, h_2, hF⟩ := q_cl_s hF
  refine gcPN (As := [.int a1]) (rest := []) F (m_X6_isHouse l a1 r_1 h_2) gX1_beliefOf_X6_isHouse_n65 kX6_isHouse (hts (.initialized RX6) (by decide +kernel)) (hN.get 6 rfl) (hts (.static yX6_isHouse) (by decide +kernel)) rfl rfl rfl ⟨(Nat.le_of_ble_eq_true rfl), (Nat.le_of_ble_eq_true rfl)⟩ rfl rfl hl.1 (Nat.le_of_ble_eq_true rfl) dX1_beliefOf_1 ⟨(Nat.le_of_ble_eq_true rfl), (Nat.le_of_ble_eq_true rfl)⟩ ?_
  refine lv_if_eq (tgt := 16) hx hb dX1_beliefOf_4 (by decide) (fun c_3 => ?_) (fun c_3 => ?_)
  · have hF := q_if_t c_3 hF
    refine lv_bipush (v := (-6)) hx hb dX1_beliefOf_16 (by decide) ?_
    cases hF
    exact r_iret hx hb hr hlk hS () rfl hP hD dX1_beliefOf_18
  · have hF := q_if_f c_3 hF
    refine lv_aload_n hx hb dX1_beliefOf_7 rfl (lv_at hl 0 rfl) ?_
    refine va_get (D := g.1) (ci := 1) (v := .ref (AC 3)) (C := RX1) (T := TX1) (N := 12) hx hb hts hi1 hown hK hP 0 rfl rfl 3 (by decide) (hts (.fieldLink RX1 21 "PanTales$Close" "beliefs" "[I") (by decide +kernel)) (fun _ h9 => h9) rfl dX1_beliefOf_8 ?_
    refine lv_iload_n hx hb dX1_beliefOf_11 rfl (lv_at hl 1 rfl) ?_
    obtain ⟨r_4, i_5, e_6, hF⟩ := q_rd_s hF
    refine r_iald (v := r_4) hx hb hK hP 4 rfl i_5 e_6 dX1_beliefOf_12 ?_
    refine lv_goto (tgt := 18) hx hb dX1_beliefOf_13 (by decide) ?_
    cases hF
    exact r_iret hx hb hr hlk hS () rfl hP hD dX1_beliefOf_18
set_option maxHeartbeats 4000000 in
set_option maxRecDepth 100000 in
theorem m_X1_furnish (l : Launch) (g : GT) (sz : Nat) (qC : Nat) (AC : Nat → Nat) (σC : qS) (a1 : Int32) (a2 : Int32) (a3 : Int32) (σC' : qS) (hF : f_X1_furnish σC a1 a2 a3 = some σC') : Cv l yX1_furnish wsX1_furnish { frames := 1, cells := 0, slots := 0, locals := 20 } g sz [.ref qC, .int a1, .int a2, .int a3] (wX1 g qC AC σC) (wX1 g qC AC σC') := by
  refine gMet_v (cc := cX1_furnish) (maxL := 4) (ret := none) (by decide) rfl (Nat.le_of_ble_eq_true rfl) ?_
  intro p e s m args below meth c Z hx hb hr F hlk hnm hK hN hA H locs hP hD hS ls hl
  have hl : lv_has ls 4 [(0, .ref qC), (1, .int a1), (2, .int a2), (3, .int a3)] := hl
  have F : CallFix p m c cX1_furnish 4 s args wsX1_furnish RX1 := F
  have hts := F.2.2.2.2
  have hown : s.vm.findClass RX1 = some m.cls := F.2.2.2.1
  have hi1 : ∀ w ∈ u_ws RX1 TX1 12, w ∈ wsX1_furnish := by decide +kernel
  dsimp only [f_X1_furnish] at hF
  refine lv_iload_n hx hb dX1_furnish_0 rfl (lv_at hl 1 rfl) ?_
  obtain ⟨r_1, h_2, hF⟩ := q_cl_s hF
  refine gcPN (As := [.int a1]) (rest := []) F (m_X6_isHouse l a1 r_1 h_2) gX1_furnish_X6_isHouse_n65 kX6_isHouse (hts (.initialized RX6) (by decide +kernel)) (hN.get 6 rfl) (hts (.static yX6_isHouse) (by decide +kernel)) rfl rfl rfl ⟨(Nat.le_of_ble_eq_true rfl), (Nat.le_of_ble_eq_true rfl)⟩ rfl rfl hl.1 (Nat.le_of_ble_eq_true rfl) dX1_furnish_1 ⟨(Nat.le_of_ble_eq_true rfl), (Nat.le_of_ble_eq_true rfl)⟩ ?_
  refine lv_if_eq (tgt := 21) hx hb dX1_furnish_4 (by decide) (fun c_3 => ?_) (fun c_3 => ?_)
  · have hF := q_if_t c_3 hF
    cases hF
    exact r_vret hx hb hr hlk hS () trivial hP hD dX1_furnish_21
  · have hF := q_if_f c_3 hF
    refine lv_aload_n hx hb dX1_furnish_7 rfl (lv_at hl 0 rfl) ?_
    refine va_get (D := g.1) (ci := 1) (v := .ref (AC 1)) (C := RX1) (T := TX1) (N := 12) hx hb hts hi1 hown hK hP 0 rfl rfl 1 (by decide) (hts (.fieldLink RX1 15 "PanTales$Close" "doubts" "[I") (by decide +kernel)) (fun _ h9 => h9) rfl dX1_furnish_8 ?_
    refine lv_iload_n hx hb dX1_furnish_11 rfl (lv_at hl 1 rfl) ?_
    refine lv_iload_n hx hb dX1_furnish_12 rfl (lv_at hl 2 rfl) ?_
    obtain ⟨σC_4, i_5, e_6, hF⟩ := q_wr_s hF
    refine r_iast (f' := upd (σC 1) a1.toNatClampNeg a2) hx hb hK hP hD hS 2 rfl i_5 (fun _ _ => rfl) dX1_furnish_13 (fun H locs hP hD hS => ?_)
    have hP : va_P g.1 vwCl (wX1 g qC AC (q_up σC 1 (upd (σC 1) a1.toNatClampNeg a2))) H := hP
    have hD : va_D Z (wX1 g qC AC (q_up σC 1 (upd (σC 1) a1.toNatClampNeg a2))) := hD
    rw [e_6] at hP hD
    refine lv_aload_n hx hb dX1_furnish_14 rfl (lv_at hl 0 rfl) ?_
    refine va_get (D := g.1) (ci := 1) (v := .ref (AC 2)) (C := RX1) (T := TX1) (N := 12) hx hb hts hi1 hown hK hP 0 rfl rfl 2 (by decide) (hts (.fieldLink RX1 18 "PanTales$Close" "damps" "[I") (by decide +kernel)) (fun _ h9 => h9) rfl dX1_furnish_15 ?_
    refine lv_iload_n hx hb dX1_furnish_18 rfl (lv_at hl 1 rfl) ?_
    refine lv_iload_n hx hb dX1_furnish_19 rfl (lv_at hl 3 rfl) ?_
    obtain ⟨σC_7, i_8, e_9, hF⟩ := q_wr_s hF
    refine r_iast (f' := upd (σC_4 2) a1.toNatClampNeg a3) hx hb hK hP hD hS 3 rfl i_8 (fun _ _ => rfl) dX1_furnish_20 (fun H locs hP hD hS => ?_)
    have hP : va_P g.1 vwCl (wX1 g qC AC (q_up σC_4 2 (upd (σC_4 2) a1.toNatClampNeg a3))) H := hP
    have hD : va_D Z (wX1 g qC AC (q_up σC_4 2 (upd (σC_4 2) a1.toNatClampNeg a3))) := hD
    rw [e_9] at hP hD
    cases hF
    exact r_vret hx hb hr hlk hS () trivial hP hD dX1_furnish_21
set_option maxHeartbeats 4000000 in
set_option maxRecDepth 100000 in
theorem m_X1_convince (l : Launch) (g : GT) (sz : Nat) (qC : Nat) (AC : Nat → Nat) (σC : qS) (a1 : Int32) (a2 : Int32) (σC' : qS) (hF : f_X1_convince σC a1 a2 = some σC') : Cv l yX1_convince wsX1_convince { frames := 1, cells := 0, slots := 0, locals := 20 } g sz [.ref qC, .int a1, .int a2] (wX1 g qC AC σC) (wX1 g qC AC σC') := by
  refine gMet_v (cc := cX1_convince) (maxL := 3) (ret := none) (by decide) rfl (Nat.le_of_ble_eq_true rfl) ?_
  intro p e s m args below meth c Z hx hb hr F hlk hnm hK hN hA H locs hP hD hS ls hl
  have hl : lv_has ls 3 [(0, .ref qC), (1, .int a1), (2, .int a2)] := hl
  have F : CallFix p m c cX1_convince 3 s args wsX1_convince RX1 := F
  have hts := F.2.2.2.2
  have hown : s.vm.findClass RX1 = some m.cls := F.2.2.2.1
  have hi1 : ∀ w ∈ u_ws RX1 TX1 12, w ∈ wsX1_convince := by decide +kernel
  dsimp only [f_X1_convince] at hF
  refine lv_iload_n hx hb dX1_convince_0 rfl (lv_at hl 1 rfl) ?_
  obtain ⟨r_1, h_2, hF⟩ := q_cl_s hF
  refine gcPN (As := [.int a1]) (rest := []) F (m_X6_isHouse l a1 r_1 h_2) gX1_convince_X6_isHouse_n65 kX6_isHouse (hts (.initialized RX6) (by decide +kernel)) (hN.get 6 rfl) (hts (.static yX6_isHouse) (by decide +kernel)) rfl rfl rfl ⟨(Nat.le_of_ble_eq_true rfl), (Nat.le_of_ble_eq_true rfl)⟩ rfl rfl hl.1 (Nat.le_of_ble_eq_true rfl) dX1_convince_1 ⟨(Nat.le_of_ble_eq_true rfl), (Nat.le_of_ble_eq_true rfl)⟩ ?_
  refine lv_if_eq (tgt := 14) hx hb dX1_convince_4 (by decide) (fun c_3 => ?_) (fun c_3 => ?_)
  · have hF := q_if_t c_3 hF
    cases hF
    exact r_vret hx hb hr hlk hS () trivial hP hD dX1_convince_14
  · have hF := q_if_f c_3 hF
    refine lv_aload_n hx hb dX1_convince_7 rfl (lv_at hl 0 rfl) ?_
    refine va_get (D := g.1) (ci := 1) (v := .ref (AC 3)) (C := RX1) (T := TX1) (N := 12) hx hb hts hi1 hown hK hP 0 rfl rfl 3 (by decide) (hts (.fieldLink RX1 21 "PanTales$Close" "beliefs" "[I") (by decide +kernel)) (fun _ h9 => h9) rfl dX1_convince_8 ?_
    refine lv_iload_n hx hb dX1_convince_11 rfl (lv_at hl 1 rfl) ?_
    refine lv_iload_n hx hb dX1_convince_12 rfl (lv_at hl 2 rfl) ?_
    obtain ⟨σC_4, i_5, e_6, hF⟩ := q_wr_s hF
    refine r_iast (f' := upd (σC 3) a1.toNatClampNeg a2) hx hb hK hP hD hS 4 rfl i_5 (fun _ _ => rfl) dX1_convince_13 (fun H locs hP hD hS => ?_)
    have hP : va_P g.1 vwCl (wX1 g qC AC (q_up σC 3 (upd (σC 3) a1.toNatClampNeg a2))) H := hP
    have hD : va_D Z (wX1 g qC AC (q_up σC 3 (upd (σC 3) a1.toNatClampNeg a2))) := hD
    rw [e_6] at hP hD
    cases hF
    exact r_vret hx hb hr hlk hS () trivial hP hD dX1_convince_14
set_option maxHeartbeats 4000000 in
set_option maxRecDepth 100000 in
theorem m_X1_houseFact (l : Launch) (g : GT) (sz : Nat) (qC : Nat) (AC : Nat → Nat) (σC : qS) (a1 : Int32) (a2 : Int32) (rr : Int32) (hF : f_X1_houseFact σC a1 a2 = some rr) : Ci l yX1_houseFact wsX1_houseFact { frames := 2, cells := 0, slots := 0, locals := 41 } g sz [.ref qC, .int a1, .int a2] (wX1 g qC AC σC) rr (wX1 g qC AC σC) := by
  refine gMet_i (cc := cX1_houseFact) (maxL := 3) (ret := (some .int)) (by decide) rfl (Nat.le_of_ble_eq_true rfl) ?_
  intro p e s m args below meth c Z hx hb hr F hlk hnm hK hN hA H locs hP hD hS ls hl
  have hl : lv_has ls 3 [(0, .ref qC), (1, .int a1), (2, .int a2)] := hl
  have F : CallFix p m c cX1_houseFact 3 s args wsX1_houseFact RX1 := F
  have hts := F.2.2.2.2
  have hown : s.vm.findClass RX1 = some m.cls := F.2.2.2.1
  dsimp only [f_X1_houseFact] at hF
  refine lv_iload_n hx hb dX1_houseFact_0 rfl (lv_at hl 2 rfl) ?_
  by_cases k_1 : a2 = 0
  · have hF := q_if_t k_1 hF
    refine gtop (y := 0) k_1 ?_
    refine lv_lookup (tgt := 28) (off := 27) hx hb dX1_houseFact_1 (by decide) (by decide) (by decide) ?_
    refine lv_aload_n hx hb dX1_houseFact_28 rfl (lv_at hl 0 rfl) ?_
    refine lv_iload_n hx hb dX1_houseFact_29 rfl (lv_at hl 1 rfl) ?_
    obtain ⟨r_2, h_3, hF⟩ := q_cl_s hF
    refine gcV_i (As := [.int a1]) (rest := []) (ci := 1) (q := (RX1, TX1, 12)) F hK hN hP hD hS hA (m_X1_beliefOf l g H.size qC AC σC a1 r_2 h_3) gX1_houseFact_X1_beliefOf kX1_beliefOf rfl rfl rfl rfl ⟨(Nat.le_of_ble_eq_true rfl), (Nat.le_of_ble_eq_true rfl)⟩ [0, 1, 2, 3, 4, 5, 6, 7] [] rfl rfl rfl (by decide) rfl rfl rfl rfl rfl hl.1 (Nat.le_of_ble_eq_true rfl) dX1_houseFact_30 ⟨(Nat.le_of_ble_eq_true rfl), (Nat.le_of_ble_eq_true rfl)⟩ (fun r_w u_w H locs hw hP hD hS => ?_)
    have hP : va_P g.1 vwCl (wX1 g qC AC σC) H := hP
    have hD : va_D Z (wX1 g qC AC σC) := hD
    obtain rfl : r_2 = r_w := hw.symm
    cases hF
    exact r_iret hx hb hr hlk hS () rfl hP hD dX1_houseFact_33
  have hF := q_if_f k_1 hF
  by_cases k_4 : a2 = 1
  · have hF := q_if_t k_4 hF
    refine gtop (y := 1) k_4 ?_
    refine lv_lookup (tgt := 34) (off := 33) hx hb dX1_houseFact_1 (by decide) (by decide) (by decide) ?_
    refine lv_aload_n hx hb dX1_houseFact_34 rfl (lv_at hl 0 rfl) ?_
    refine lv_iload_n hx hb dX1_houseFact_35 rfl (lv_at hl 1 rfl) ?_
    obtain ⟨r_5, h_6, hF⟩ := q_cl_s hF
    refine gcV_i (As := [.int a1]) (rest := []) (ci := 1) (q := (RX1, TX1, 12)) F hK hN hP hD hS hA (m_X1_doubtOf l g H.size qC AC σC a1 r_5 h_6) gX1_houseFact_X1_doubtOf kX1_doubtOf rfl rfl rfl rfl ⟨(Nat.le_of_ble_eq_true rfl), (Nat.le_of_ble_eq_true rfl)⟩ [0, 1, 2, 3, 4, 5, 6, 7] [] rfl rfl rfl (by decide) rfl rfl rfl rfl rfl hl.1 (Nat.le_of_ble_eq_true rfl) dX1_houseFact_36 ⟨(Nat.le_of_ble_eq_true rfl), (Nat.le_of_ble_eq_true rfl)⟩ (fun r_w u_w H locs hw hP hD hS => ?_)
    have hP : va_P g.1 vwCl (wX1 g qC AC σC) H := hP
    have hD : va_D Z (wX1 g qC AC σC) := hD
    obtain rfl : r_5 = r_w := hw.symm
    cases hF
    exact r_iret hx hb hr hlk hS () rfl hP hD dX1_houseFact_39
  have hF := q_if_f k_4 hF
  refine lv_lookup (tgt := 40) (off := 39) hx hb dX1_houseFact_1 (by decide) (by show (if (0 : Int) = (a2 : Int32).toInt then (27 : Int) else if (1 : Int) = (a2 : Int32).toInt then (33 : Int) else 39) = (39 : Int); rw [if_neg (sw_ne k_1 (by decide)), if_neg (sw_ne k_4 (by decide))]) (by decide) ?_
  refine lv_aload_n hx hb dX1_houseFact_40 rfl (lv_at hl 0 rfl) ?_
  refine lv_iload_n hx hb dX1_houseFact_41 rfl (lv_at hl 1 rfl) ?_
  obtain ⟨r_7, h_8, hF⟩ := q_cl_s hF
  refine gcV_i (As := [.int a1]) (rest := []) (ci := 1) (q := (RX1, TX1, 12)) F hK hN hP hD hS hA (m_X1_isDamp l g H.size qC AC σC a1 r_7 h_8) gX1_houseFact_X1_isDamp kX1_isDamp rfl rfl rfl rfl ⟨(Nat.le_of_ble_eq_true rfl), (Nat.le_of_ble_eq_true rfl)⟩ [0, 1, 2, 3, 4, 5, 6, 7] [] rfl rfl rfl (by decide) rfl rfl rfl rfl rfl hl.1 (Nat.le_of_ble_eq_true rfl) dX1_houseFact_42 ⟨(Nat.le_of_ble_eq_true rfl), (Nat.le_of_ble_eq_true rfl)⟩ (fun r_w u_w H locs hw hP hD hS => ?_)
  have hP : va_P g.1 vwCl (wX1 g qC AC σC) H := hP
  have hD : va_D Z (wX1 g qC AC σC) := hD
  obtain rfl : r_7 = r_w := hw.symm
  refine lv_if_eq (tgt := 52) hx hb dX1_houseFact_45 (by decide) (fun c_9 => ?_) (fun c_9 => ?_)
  · have hF := q_if_t c_9 hF
    refine lv_iconst (v := 0) hx hb dX1_houseFact_52 (by decide) ?_
    cases hF
    exact r_iret hx hb hr hlk hS () rfl hP hD dX1_houseFact_53
  · have hF := q_if_f c_9 hF
    refine lv_iconst (v := 1) hx hb dX1_houseFact_48 (by decide) ?_
    refine lv_goto (tgt := 53) hx hb dX1_houseFact_49 (by decide) ?_
    cases hF
    exact r_iret hx hb hr hlk hS () rfl hP hD dX1_houseFact_53
set_option maxHeartbeats 4000000 in
set_option maxRecDepth 100000 in
theorem m_X1_panFact (l : Launch) (g : GT) (sz : Nat) (qC : Nat) (AC : Nat → Nat) (σC : qS) (a1 : Int32) (rr : Int32) (hF : f_X1_panFact σC a1 = some rr) : Ci l yX1_panFact wsX1_panFact { frames := 0, cells := 0, slots := 0, locals := 0 } g sz [.ref qC, .int a1] (wX1 g qC AC σC) rr (wX1 g qC AC σC) := by
  refine gMet_i (cc := cX1_panFact) (maxL := 2) (ret := (some .int)) (by decide) rfl (Nat.le_of_ble_eq_true rfl) ?_
  intro p e s m args below meth c Z hx hb hr F hlk hnm hK hN hA H locs hP hD hS ls hl
  have hl : lv_has ls 2 [(0, .ref qC), (1, .int a1)] := hl
  have F : CallFix p m c cX1_panFact 2 s args wsX1_panFact RX1 := F
  have hts := F.2.2.2.2
  have hown : s.vm.findClass RX1 = some m.cls := F.2.2.2.1
  have hi1 : ∀ w ∈ u_ws RX1 TX1 12, w ∈ wsX1_panFact := by decide +kernel
  dsimp only [f_X1_panFact] at hF
  refine lv_iload_n hx hb dX1_panFact_0 rfl (lv_at hl 1 rfl) ?_
  by_cases k_1 : a1 = 0
  · have hF := q_if_t k_1 hF
    refine gtop (y := 0) k_1 ?_
    refine lv_tableIn (tgt := 28) (off := 27) hx hb dX1_panFact_1 (by decide) (by decide) rfl (by decide) ?_
    refine lv_aload_n hx hb dX1_panFact_28 rfl (lv_at hl 0 rfl) ?_
    refine va_get (D := g.1) (ci := 1) (v := .int (σC 99 8)) (C := RX1) (T := TX1) (N := 12) hx hb hts hi1 hown hK hP 0 rfl rfl 8 (by decide) (hts (.fieldLink RX1 33 "PanTales$Close" "place" "I") (by decide +kernel)) (fun _ h9 => h9) rfl dX1_panFact_29 ?_
    cases hF
    exact r_iret hx hb hr hlk hS () rfl hP hD dX1_panFact_32
  have hF := q_if_f k_1 hF
  by_cases k_2 : a1 = 1
  · have hF := q_if_t k_2 hF
    refine gtop (y := 1) k_2 ?_
    refine lv_tableIn (tgt := 33) (off := 32) hx hb dX1_panFact_1 (by decide) (by decide) rfl (by decide) ?_
    refine lv_aload_n hx hb dX1_panFact_33 rfl (lv_at hl 0 rfl) ?_
    refine va_get (D := g.1) (ci := 1) (v := .int (σC 99 9)) (C := RX1) (T := TX1) (N := 12) hx hb hts hi1 hown hK hP 0 rfl rfl 9 (by decide) (hts (.fieldLink RX1 52 "PanTales$Close" "heat" "I") (by decide +kernel)) (fun _ h9 => h9) rfl dX1_panFact_34 ?_
    cases hF
    exact r_iret hx hb hr hlk hS () rfl hP hD dX1_panFact_37
  have hF := q_if_f k_2 hF
  by_cases k_3 : a1 = 2
  · have hF := q_if_t k_3 hF
    refine gtop (y := 2) k_3 ?_
    refine lv_tableIn (tgt := 38) (off := 37) hx hb dX1_panFact_1 (by decide) (by decide) rfl (by decide) ?_
    refine lv_aload_n hx hb dX1_panFact_38 rfl (lv_at hl 0 rfl) ?_
    refine va_get (D := g.1) (ci := 1) (v := .int (σC 99 10)) (C := RX1) (T := TX1) (N := 12) hx hb hts hi1 hown hK hP 0 rfl rfl 10 (by decide) (hts (.fieldLink RX1 55 "PanTales$Close" "tale" "I") (by decide +kernel)) (fun _ h9 => h9) rfl dX1_panFact_39 ?_
    cases hF
    exact r_iret hx hb hr hlk hS () rfl hP hD dX1_panFact_42
  have hF := q_if_f k_3 hF
  refine lv_tableOut (tgt := 43) hx hb dX1_panFact_1 (sw_out 3 (by decide) (by decide) (lt_s (lt_s (lt_s lt_0 k_1) k_2) k_3)) (by decide) ?_
  refine lv_aload_n hx hb dX1_panFact_43 rfl (lv_at hl 0 rfl) ?_
  refine va_get (D := g.1) (ci := 1) (v := .int (σC 99 11)) (C := RX1) (T := TX1) (N := 12) hx hb hts hi1 hown hK hP 0 rfl rfl 11 (by decide) (hts (.fieldLink RX1 58 "PanTales$Close" "mornings" "I") (by decide +kernel)) (fun _ h9 => h9) rfl dX1_panFact_44 ?_
  cases hF
  exact r_iret hx hb hr hlk hS () rfl hP hD dX1_panFact_47
set_option maxHeartbeats 4000000 in
set_option maxRecDepth 100000 in
theorem m_X1_believersOf (l : Launch) (g : GT) (sz : Nat) (qC : Nat) (AC : Nat → Nat) (σC : qS) (a1 : Int32) (rr : Int32) (hF : f_X1_believersOf σC a1 = some rr) : Ci l yX1_believersOf wsX1_believersOf { frames := 0, cells := 0, slots := 0, locals := 0 } g sz [.ref qC, .int a1] (wX1 g qC AC σC) rr (wX1 g qC AC σC) := by
  refine gMet_i (cc := cX1_believersOf) (maxL := 4) (ret := (some .int)) (by decide) rfl (Nat.le_of_ble_eq_true rfl) ?_
  intro p e s m args below meth c Z hx hb hr F hlk hnm hK hN hA H locs hP hD hS ls hl
  have hl : lv_has ls 4 [(0, .ref qC), (1, .int a1)] := hl
  have F : CallFix p m c cX1_believersOf 4 s args wsX1_believersOf RX1 := F
  have hts := F.2.2.2.2
  have hown : s.vm.findClass RX1 = some m.cls := F.2.2.2.1
  have hi1 : ∀ w ∈ u_ws RX1 TX1 12, w ∈ wsX1_believersOf := by decide +kernel
  dsimp only [f_X1_believersOf] at hF
  refine lv_iconst (v := 0) hx hb dX1_believersOf_0 (by decide) ?_
  refine lv_istore_n (lv' := [(2, .int 0), (0, .ref qC), (1, .int a1)]) hx hb dX1_believersOf_1 rfl hl (by decide) rfl (fun ls hl => ?_)
  refine lv_iconst (v := 0) hx hb dX1_believersOf_2 (by decide) ?_
  refine lv_istore_n (lv' := [(3, .int 0), (2, .int 0), (0, .ref qC), (1, .int a1)]) hx hb dX1_believersOf_3 rfl hl (by decide) rfl (fun ls hl => ?_)
  refine q_loop (fun u0 => wX1 g qC AC σC) (fun u0 => [(3, .int u0.1), (2, .int u0.2), (0, .ref qC), (1, .int a1)]) 32 hF ?_ ?_ hP hD hS (lv_sub hl [0, 1, 2, 3] rfl)
  · rintro ⟨v3_1, v2_1⟩ hF H locs ls hP hD hS hl
    try dsimp only at hF
    have hP : va_P g.1 vwCl (wX1 g qC AC σC) H := hP
    have hD : va_D Z (wX1 g qC AC σC) := hD
    have hl : lv_has ls 4 [(3, .int v3_1), (2, .int v2_1), (0, .ref qC), (1, .int a1)] := hl
    refine lv_iload_n hx hb dX1_believersOf_32 rfl (lv_at hl 1 rfl) ?_
    cases hF
    exact r_iret hx hb hr hlk hS () rfl hP hD dX1_believersOf_33
  · rintro k again kk ag ⟨v3_1, v2_1⟩ hF H locs ls hP hD hS hl
    dsimp only [b_X1_believersOf_4] at hF
    have hP : va_P g.1 vwCl (wX1 g qC AC σC) H := hP
    have hD : va_D Z (wX1 g qC AC σC) := hD
    have hl : lv_has ls 4 [(3, .int v3_1), (2, .int v2_1), (0, .ref qC), (1, .int a1)] := hl
    refine lv_iload_n hx hb dX1_believersOf_4 rfl (lv_at hl 0 rfl) ?_
    refine lv_bipush (v := 10) hx hb dX1_believersOf_5 (by decide) ?_
    refine lv_icmp_ge (tgt := 32) hx hb dX1_believersOf_7 (by decide) (fun c_2 => ?_) (fun c_2 => ?_)
    · have hF := q_if_t c_2 hF
      exact kk (v3_1, v2_1) hF _ _ _ hP hD hS (lv_sub hl [0, 1, 2, 3] rfl)
    · have hF := q_if_f c_2 hF
      refine lv_aload_n hx hb dX1_believersOf_10 rfl (lv_at hl 2 rfl) ?_
      refine va_get (D := g.1) (ci := 1) (v := .ref (AC 3)) (C := RX1) (T := TX1) (N := 12) hx hb hts hi1 hown hK hP 0 rfl rfl 3 (by decide) (hts (.fieldLink RX1 21 "PanTales$Close" "beliefs" "[I") (by decide +kernel)) (fun _ h9 => h9) rfl dX1_believersOf_11 ?_
      refine lv_iload_n hx hb dX1_believersOf_14 rfl (lv_at hl 0 rfl) ?_
      obtain ⟨r_3, i_4, e_5, hF⟩ := q_rd_s hF
      refine r_iald (v := r_3) hx hb hK hP 4 rfl i_4 e_5 dX1_believersOf_15 ?_
      refine lv_iload_n hx hb dX1_believersOf_16 rfl (lv_at hl 3 rfl) ?_
      refine lv_icmp_ne (tgt := 26) hx hb dX1_believersOf_17 (by decide) (fun c_6 => ?_) (fun c_6 => ?_)
      · have hF := q_if_f c_6 hF
        refine lv_iinc (v := v3_1 + 1) (lv' := [(3, .int (v3_1 + 1)), (2, .int v2_1), (0, .ref qC), (1, .int a1)]) hx hb dX1_believersOf_26 hl (k := 0) rfl rfl (by decide) rfl (fun ls hl => ?_)
        refine lv_goto (tgt := 4) hx hb dX1_believersOf_29 (by decide) ?_
        exact ag (v3_1 + 1, v2_1) hF _ _ _ hP hD hS (lv_sub hl [0, 1, 2, 3] rfl)
      · have hF := q_if_t (by first | exact c_6 | exact Classical.not_not.mp c_6) hF
        refine lv_iload_n hx hb dX1_believersOf_20 rfl (lv_at hl 1 rfl) ?_
        refine lv_iconst (v := 1) hx hb dX1_believersOf_21 (by decide) ?_
        refine lv_iload_n hx hb dX1_believersOf_22 rfl (lv_at hl 0 rfl) ?_
        refine lv_ishl hx hb dX1_believersOf_23 ?_
        refine lv_ior hx hb dX1_believersOf_24 ?_
        obtain ⟨v2_7, e_8, hF⟩ := q_bd_s hF
        refine gtop e_8 ?_
        refine lv_istore_n (lv' := [(2, .int v2_7), (3, .int v3_1), (0, .ref qC), (1, .int a1)]) hx hb dX1_believersOf_25 rfl hl (by decide) rfl (fun ls hl => ?_)
        refine lv_iinc (v := v3_1 + 1) (lv' := [(3, .int (v3_1 + 1)), (2, .int v2_7), (0, .ref qC), (1, .int a1)]) hx hb dX1_believersOf_26 hl (k := 1) rfl rfl (by decide) rfl (fun ls hl => ?_)
        refine lv_goto (tgt := 4) hx hb dX1_believersOf_29 (by decide) ?_
        exact ag (v3_1 + 1, v2_7) hF _ _ _ hP hD hS (lv_sub hl [0, 1, 2, 3] rfl)
set_option maxHeartbeats 4000000 in
set_option maxRecDepth 100000 in
theorem m_X1_fadesInto (l : Launch) (g : GT) (sz : Nat) (qC : Nat) (AC : Nat → Nat) (σC : qS) (a1 : Int32) (rr : Int32) (hF : f_X1_fadesInto σC a1 = some rr) : Ci l yX1_fadesInto wsX1_fadesInto { frames := 1, cells := 0, slots := 0, locals := 20 } g sz [.ref qC, .int a1] (wX1 g qC AC σC) rr (wX1 g qC AC σC) := by
  refine gMet_i (cc := cX1_fadesInto) (maxL := 2) (ret := (some .int)) (by decide) rfl (Nat.le_of_ble_eq_true rfl) ?_
  intro p e s m args below meth c Z hx hb hr F hlk hnm hK hN hA H locs hP hD hS ls hl
  have hl : lv_has ls 2 [(0, .ref qC), (1, .int a1)] := hl
  have F : CallFix p m c cX1_fadesInto 2 s args wsX1_fadesInto RX1 := F
  have hts := F.2.2.2.2
  have hown : s.vm.findClass RX1 = some m.cls := F.2.2.2.1
  have hi1 : ∀ w ∈ u_ws RX1 TX1 12, w ∈ wsX1_fadesInto := by decide +kernel
  dsimp only [f_X1_fadesInto] at hF
  refine lv_iload_n hx hb dX1_fadesInto_0 rfl (lv_at hl 1 rfl) ?_
  obtain ⟨r_1, h_2, hF⟩ := q_cl_s hF
  refine gcPN (As := [.int a1]) (rest := []) F (m_X6_isTale l a1 r_1 h_2) gX1_fadesInto_X6_isTale_n86 kX6_isTale (hts (.initialized RX6) (by decide +kernel)) (hN.get 7 rfl) (hts (.static yX6_isTale) (by decide +kernel)) rfl rfl rfl ⟨(Nat.le_of_ble_eq_true rfl), (Nat.le_of_ble_eq_true rfl)⟩ rfl rfl hl.1 (Nat.le_of_ble_eq_true rfl) dX1_fadesInto_1 ⟨(Nat.le_of_ble_eq_true rfl), (Nat.le_of_ble_eq_true rfl)⟩ ?_
  refine lv_if_eq (tgt := 16) hx hb dX1_fadesInto_4 (by decide) (fun c_3 => ?_) (fun c_3 => ?_)
  · have hF := q_if_t c_3 hF
    refine lv_bipush (v := (-6)) hx hb dX1_fadesInto_16 (by decide) ?_
    cases hF
    exact r_iret hx hb hr hlk hS () rfl hP hD dX1_fadesInto_18
  · have hF := q_if_f c_3 hF
    refine lv_aload_n hx hb dX1_fadesInto_7 rfl (lv_at hl 0 rfl) ?_
    refine va_get (D := g.1) (ci := 1) (v := .ref (AC 4)) (C := RX1) (T := TX1) (N := 12) hx hb hts hi1 hown hK hP 0 rfl rfl 4 (by decide) (hts (.fieldLink RX1 24 "PanTales$Close" "fadings" "[I") (by decide +kernel)) (fun _ h9 => h9) rfl dX1_fadesInto_8 ?_
    refine lv_iload_n hx hb dX1_fadesInto_11 rfl (lv_at hl 1 rfl) ?_
    obtain ⟨r_4, i_5, e_6, hF⟩ := q_rd_s hF
    refine r_iald (v := r_4) hx hb hK hP 5 rfl i_5 e_6 dX1_fadesInto_12 ?_
    refine lv_goto (tgt := 18) hx hb dX1_fadesInto_13 (by decide) ?_
    cases hF
    exact r_iret hx hb hr hlk hS () rfl hP hD dX1_fadesInto_18
set_option maxHeartbeats 4000000 in
set_option maxRecDepth 100000 in
theorem m_X1_letFade (l : Launch) (g : GT) (sz : Nat) (qC : Nat) (AC : Nat → Nat) (σC : qS) (a1 : Int32) (a2 : Int32) (σC' : qS) (hF : f_X1_letFade σC a1 a2 = some σC') : Cv l yX1_letFade wsX1_letFade { frames := 1, cells := 0, slots := 0, locals := 20 } g sz [.ref qC, .int a1, .int a2] (wX1 g qC AC σC) (wX1 g qC AC σC') := by
  refine gMet_v (cc := cX1_letFade) (maxL := 3) (ret := none) (by decide) rfl (Nat.le_of_ble_eq_true rfl) ?_
  intro p e s m args below meth c Z hx hb hr F hlk hnm hK hN hA H locs hP hD hS ls hl
  have hl : lv_has ls 3 [(0, .ref qC), (1, .int a1), (2, .int a2)] := hl
  have F : CallFix p m c cX1_letFade 3 s args wsX1_letFade RX1 := F
  have hts := F.2.2.2.2
  have hown : s.vm.findClass RX1 = some m.cls := F.2.2.2.1
  have hi1 : ∀ w ∈ u_ws RX1 TX1 12, w ∈ wsX1_letFade := by decide +kernel
  dsimp only [f_X1_letFade] at hF
  refine lv_iload_n hx hb dX1_letFade_0 rfl (lv_at hl 1 rfl) ?_
  obtain ⟨r_1, h_2, hF⟩ := q_cl_s hF
  refine gcPN (As := [.int a1]) (rest := []) F (m_X6_isTale l a1 r_1 h_2) gX1_letFade_X6_isTale_n86 kX6_isTale (hts (.initialized RX6) (by decide +kernel)) (hN.get 7 rfl) (hts (.static yX6_isTale) (by decide +kernel)) rfl rfl rfl ⟨(Nat.le_of_ble_eq_true rfl), (Nat.le_of_ble_eq_true rfl)⟩ rfl rfl hl.1 (Nat.le_of_ble_eq_true rfl) dX1_letFade_1 ⟨(Nat.le_of_ble_eq_true rfl), (Nat.le_of_ble_eq_true rfl)⟩ ?_
  refine lv_if_eq (tgt := 14) hx hb dX1_letFade_4 (by decide) (fun c_3 => ?_) (fun c_3 => ?_)
  · have hF := q_if_t c_3 hF
    cases hF
    exact r_vret hx hb hr hlk hS () trivial hP hD dX1_letFade_14
  · have hF := q_if_f c_3 hF
    refine lv_aload_n hx hb dX1_letFade_7 rfl (lv_at hl 0 rfl) ?_
    refine va_get (D := g.1) (ci := 1) (v := .ref (AC 4)) (C := RX1) (T := TX1) (N := 12) hx hb hts hi1 hown hK hP 0 rfl rfl 4 (by decide) (hts (.fieldLink RX1 24 "PanTales$Close" "fadings" "[I") (by decide +kernel)) (fun _ h9 => h9) rfl dX1_letFade_8 ?_
    refine lv_iload_n hx hb dX1_letFade_11 rfl (lv_at hl 1 rfl) ?_
    refine lv_iload_n hx hb dX1_letFade_12 rfl (lv_at hl 2 rfl) ?_
    obtain ⟨σC_4, i_5, e_6, hF⟩ := q_wr_s hF
    refine r_iast (f' := upd (σC 4) a1.toNatClampNeg a2) hx hb hK hP hD hS 5 rfl i_5 (fun _ _ => rfl) dX1_letFade_13 (fun H locs hP hD hS => ?_)
    have hP : va_P g.1 vwCl (wX1 g qC AC (q_up σC 4 (upd (σC 4) a1.toNatClampNeg a2))) H := hP
    have hD : va_D Z (wX1 g qC AC (q_up σC 4 (upd (σC 4) a1.toNatClampNeg a2))) := hD
    rw [e_6] at hP hD
    cases hF
    exact r_vret hx hb hr hlk hS () trivial hP hD dX1_letFade_14

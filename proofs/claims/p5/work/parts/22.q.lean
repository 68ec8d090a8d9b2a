theorem kX7_passRow : YOk yX7_passRow 2 := by decide +kernel
theorem kX7_passAll : YOk yX7_passAll 0 := by decide +kernel
theorem kX7_image : YOk yX7_image 1 := by decide +kernel
theorem kX7_restore : YOk yX7_restore 1 := by decide +kernel
theorem kX7_told : YOk yX7_told 1 := by decide +kernel
set_option maxHeartbeats 4000000 in
set_option maxRecDepth 100000 in
theorem m_X7_passRow_0 (l : Launch) (g : GT) (sz : Nat) (qM : Nat) (AM : Nat → Nat) (σM : qS) (ℓM : qL) (a2 : Int32) (σM' : qS) (hF : f_X7_passRow_0 σM ℓM a2 = some σM') : Cv l yX7_passRow wsX7_passRow { frames := 1, cells := 0, slots := 0, locals := 22 } g sz [.ref qM, .ref (AM 0), .int a2] (wX7 g qM AM σM ℓM) (wX7 g qM AM σM' ℓM) := by
  refine gMet_v (cc := cX7_passRow) (maxL := 4) (ret := none) (by decide) rfl (Nat.le_of_ble_eq_true rfl) ?_
  intro p e s m args below meth c Z hx hb hr F hlk hnm hK hN hA H locs hP hD hS ls hl
  have hl : lv_has ls 4 [(0, .ref qM), (1, .ref (AM 0)), (2, .int a2)] := hl
  have F : CallFix p m c cX7_passRow 4 s args wsX7_passRow RX7 := F
  have hts := F.2.2.2.2
  have hown : s.vm.findClass RX7 = some m.cls := F.2.2.2.1
  dsimp only [f_X7_passRow_0] at hF
  refine lv_iconst (v := 0) hx hb dX7_passRow_0 (by decide) ?_
  refine lv_istore_n (lv' := [(3, .int 0), (0, .ref qM), (1, .ref (AM 0)), (2, .int a2)]) hx hb dX7_passRow_1 rfl hl (by decide) rfl (fun ls hl => ?_)
  refine q_loop (fun u0 => wX7 g qM AM u0.2 ℓM) (fun u0 => [(3, .int u0.1), (0, .ref qM), (1, .ref (AM 0)), (2, .int a2)]) 23 hF ?_ ?_ hP hD hS (lv_sub hl [0, 1, 2, 3] rfl)
  · rintro ⟨v3_1, σM_1⟩ hF H locs ls hP hD hS hl
    try dsimp only at hF
    have hP : va_P g.1 vwCl (wX7 g qM AM σM_1 ℓM) H := hP
    have hD : va_D Z (wX7 g qM AM σM_1 ℓM) := hD
    have hl : lv_has ls 4 [(3, .int v3_1), (0, .ref qM), (1, .ref (AM 0)), (2, .int a2)] := hl
    cases hF
    exact r_vret hx hb hr hlk hS () trivial hP hD dX7_passRow_23
  · rintro k again kk ag ⟨v3_1, σM_1⟩ hF H locs ls hP hD hS hl
    dsimp only [b_X7_passRow_0_2] at hF
    have hP : va_P g.1 vwCl (wX7 g qM AM σM_1 ℓM) H := hP
    have hD : va_D Z (wX7 g qM AM σM_1 ℓM) := hD
    have hl : lv_has ls 4 [(3, .int v3_1), (0, .ref qM), (1, .ref (AM 0)), (2, .int a2)] := hl
    refine lv_iload_n hx hb dX7_passRow_2 rfl (lv_at hl 0 rfl) ?_
    refine lv_iload_n hx hb dX7_passRow_3 rfl (lv_at hl 3 rfl) ?_
    refine lv_icmp_ge (tgt := 23) hx hb dX7_passRow_4 (by decide) (fun c_2 => ?_) (fun c_2 => ?_)
    · have hF := q_if_t c_2 hF
      exact kk (v3_1, σM_1) hF _ _ _ hP hD hS (lv_sub hl [0, 1, 2, 3] rfl)
    · have hF := q_if_f c_2 hF
      refine lv_aload_n hx hb dX7_passRow_7 rfl (lv_at hl 2 rfl) ?_
      refine lv_iload_n hx hb dX7_passRow_8 rfl (lv_at hl 0 rfl) ?_
      refine lv_aload_n hx hb dX7_passRow_9 rfl (lv_at hl 1 rfl) ?_
      refine lv_aload_n hx hb dX7_passRow_10 rfl (lv_at hl 2 rfl) ?_
      refine lv_iload_n hx hb dX7_passRow_11 rfl (lv_at hl 0 rfl) ?_
      obtain ⟨r_3, i_4, e_5, hF⟩ := q_rd_s hF
      refine r_iald (v := r_3) hx hb hK hP 1 rfl i_4 e_5 dX7_passRow_12 ?_
      obtain ⟨⟨r_6, σM_7⟩, h_8, hF⟩ := q_cl_s hF
      try dsimp only at hF
      refine gcV_i (As := [.int r_3]) (rest := [.int v3_1, .ref (AM 0)]) (ci := 7) (q := (RX7, TX7, 34)) F hK hN hP hD hS hA (m_X7_pass l g H.size qM AM σM_1 ℓM r_3 r_6 σM_7 h_8) gX7_passRow_X7_pass kX7_pass rfl rfl rfl rfl ⟨(Nat.le_of_ble_eq_true rfl), (Nat.le_of_ble_eq_true rfl)⟩ [0, 1, 2, 3, 4, 5, 6, 7, 8, 9, 10, 11, 12, 13, 14, 15, 16, 17, 18, 19, 20] [] rfl rfl rfl (by decide) rfl rfl rfl rfl rfl hl.1 (Nat.le_of_ble_eq_true rfl) dX7_passRow_13 ⟨(Nat.le_of_ble_eq_true rfl), (Nat.le_of_ble_eq_true rfl)⟩ (fun r_w u_w H locs hw hP hD hS => ?_)
      have hP : va_P g.1 vwCl (wX7 g qM AM σM_7 ℓM) H := hP
      have hD : va_D Z (wX7 g qM AM σM_7 ℓM) := hD
      obtain rfl : r_6 = r_w := hw.symm
      obtain ⟨σM_10, i_11, e_12, hF⟩ := q_wr_s hF
      refine r_iast (f' := upd (σM_7 0) v3_1.toNatClampNeg r_6) hx hb hK hP hD hS 1 rfl i_11 (fun _ _ => rfl) dX7_passRow_16 (fun H locs hP hD hS => ?_)
      have hP : va_P g.1 vwCl (wX7 g qM AM (q_up σM_7 0 (upd (σM_7 0) v3_1.toNatClampNeg r_6)) ℓM) H := hP
      have hD : va_D Z (wX7 g qM AM (q_up σM_7 0 (upd (σM_7 0) v3_1.toNatClampNeg r_6)) ℓM) := hD
      rw [e_12] at hP hD
      refine lv_iinc (v := v3_1 + 1) (lv' := [(3, .int (v3_1 + 1)), (0, .ref qM), (1, .ref (AM 0)), (2, .int a2)]) hx hb dX7_passRow_17 hl (k := 0) rfl rfl (by decide) rfl (fun ls hl => ?_)
      refine lv_goto (tgt := 2) hx hb dX7_passRow_20 (by decide) ?_
      exact ag (v3_1 + 1, σM_10) hF _ _ _ hP hD hS (lv_sub hl [0, 1, 2, 3] rfl)
set_option maxHeartbeats 4000000 in
set_option maxRecDepth 100000 in
theorem m_X7_passRow_1 (l : Launch) (g : GT) (sz : Nat) (qM : Nat) (AM : Nat → Nat) (σM : qS) (ℓM : qL) (a2 : Int32) (σM' : qS) (hF : f_X7_passRow_1 σM ℓM a2 = some σM') : Cv l yX7_passRow wsX7_passRow { frames := 1, cells := 0, slots := 0, locals := 22 } g sz [.ref qM, .ref (AM 1), .int a2] (wX7 g qM AM σM ℓM) (wX7 g qM AM σM' ℓM) := by
  refine gMet_v (cc := cX7_passRow) (maxL := 4) (ret := none) (by decide) rfl (Nat.le_of_ble_eq_true rfl) ?_
  intro p e s m args below meth c Z hx hb hr F hlk hnm hK hN hA H locs hP hD hS ls hl
  have hl : lv_has ls 4 [(0, .ref qM), (1, .ref (AM 1)), (2, .int a2)] := hl
  have F : CallFix p m c cX7_passRow 4 s args wsX7_passRow RX7 := F
  have hts := F.2.2.2.2
  have hown : s.vm.findClass RX7 = some m.cls := F.2.2.2.1
  dsimp only [f_X7_passRow_1] at hF
  refine lv_iconst (v := 0) hx hb dX7_passRow_0 (by decide) ?_
  refine lv_istore_n (lv' := [(3, .int 0), (0, .ref qM), (1, .ref (AM 1)), (2, .int a2)]) hx hb dX7_passRow_1 rfl hl (by decide) rfl (fun ls hl => ?_)
  refine q_loop (fun u0 => wX7 g qM AM u0.2 ℓM) (fun u0 => [(3, .int u0.1), (0, .ref qM), (1, .ref (AM 1)), (2, .int a2)]) 23 hF ?_ ?_ hP hD hS (lv_sub hl [0, 1, 2, 3] rfl)
  · rintro ⟨v3_1, σM_1⟩ hF H locs ls hP hD hS hl
    try dsimp only at hF
    have hP : va_P g.1 vwCl (wX7 g qM AM σM_1 ℓM) H := hP
    have hD : va_D Z (wX7 g qM AM σM_1 ℓM) := hD
    have hl : lv_has ls 4 [(3, .int v3_1), (0, .ref qM), (1, .ref (AM 1)), (2, .int a2)] := hl
    cases hF
    exact r_vret hx hb hr hlk hS () trivial hP hD dX7_passRow_23
  · rintro k again kk ag ⟨v3_1, σM_1⟩ hF H locs ls hP hD hS hl
    dsimp only [b_X7_passRow_1_2] at hF
    have hP : va_P g.1 vwCl (wX7 g qM AM σM_1 ℓM) H := hP
    have hD : va_D Z (wX7 g qM AM σM_1 ℓM) := hD
    have hl : lv_has ls 4 [(3, .int v3_1), (0, .ref qM), (1, .ref (AM 1)), (2, .int a2)] := hl
    refine lv_iload_n hx hb dX7_passRow_2 rfl (lv_at hl 0 rfl) ?_
    refine lv_iload_n hx hb dX7_passRow_3 rfl (lv_at hl 3 rfl) ?_
    refine lv_icmp_ge (tgt := 23) hx hb dX7_passRow_4 (by decide) (fun c_2 => ?_) (fun c_2 => ?_)
    · have hF := q_if_t c_2 hF
      exact kk (v3_1, σM_1) hF _ _ _ hP hD hS (lv_sub hl [0, 1, 2, 3] rfl)
    · have hF := q_if_f c_2 hF
      refine lv_aload_n hx hb dX7_passRow_7 rfl (lv_at hl 2 rfl) ?_
      refine lv_iload_n hx hb dX7_passRow_8 rfl (lv_at hl 0 rfl) ?_
      refine lv_aload_n hx hb dX7_passRow_9 rfl (lv_at hl 1 rfl) ?_
      refine lv_aload_n hx hb dX7_passRow_10 rfl (lv_at hl 2 rfl) ?_
      refine lv_iload_n hx hb dX7_passRow_11 rfl (lv_at hl 0 rfl) ?_
      obtain ⟨r_3, i_4, e_5, hF⟩ := q_rd_s hF
      refine r_iald (v := r_3) hx hb hK hP 2 rfl i_4 e_5 dX7_passRow_12 ?_
      obtain ⟨⟨r_6, σM_7⟩, h_8, hF⟩ := q_cl_s hF
      try dsimp only at hF
      refine gcV_i (As := [.int r_3]) (rest := [.int v3_1, .ref (AM 1)]) (ci := 7) (q := (RX7, TX7, 34)) F hK hN hP hD hS hA (m_X7_pass l g H.size qM AM σM_1 ℓM r_3 r_6 σM_7 h_8) gX7_passRow_X7_pass kX7_pass rfl rfl rfl rfl ⟨(Nat.le_of_ble_eq_true rfl), (Nat.le_of_ble_eq_true rfl)⟩ [0, 1, 2, 3, 4, 5, 6, 7, 8, 9, 10, 11, 12, 13, 14, 15, 16, 17, 18, 19, 20] [] rfl rfl rfl (by decide) rfl rfl rfl rfl rfl hl.1 (Nat.le_of_ble_eq_true rfl) dX7_passRow_13 ⟨(Nat.le_of_ble_eq_true rfl), (Nat.le_of_ble_eq_true rfl)⟩ (fun r_w u_w H locs hw hP hD hS => ?_)
      have hP : va_P g.1 vwCl (wX7 g qM AM σM_7 ℓM) H := hP
      have hD : va_D Z (wX7 g qM AM σM_7 ℓM) := hD
      obtain rfl : r_6 = r_w := hw.symm
      obtain ⟨σM_10, i_11, e_12, hF⟩ := q_wr_s hF
      refine r_iast (f' := upd (σM_7 1) v3_1.toNatClampNeg r_6) hx hb hK hP hD hS 2 rfl i_11 (fun _ _ => rfl) dX7_passRow_16 (fun H locs hP hD hS => ?_)
      have hP : va_P g.1 vwCl (wX7 g qM AM (q_up σM_7 1 (upd (σM_7 1) v3_1.toNatClampNeg r_6)) ℓM) H := hP
      have hD : va_D Z (wX7 g qM AM (q_up σM_7 1 (upd (σM_7 1) v3_1.toNatClampNeg r_6)) ℓM) := hD
      rw [e_12] at hP hD
      refine lv_iinc (v := v3_1 + 1) (lv' := [(3, .int (v3_1 + 1)), (0, .ref qM), (1, .ref (AM 1)), (2, .int a2)]) hx hb dX7_passRow_17 hl (k := 0) rfl rfl (by decide) rfl (fun ls hl => ?_)
      refine lv_goto (tgt := 2) hx hb dX7_passRow_20 (by decide) ?_
      exact ag (v3_1 + 1, σM_10) hF _ _ _ hP hD hS (lv_sub hl [0, 1, 2, 3] rfl)
set_option maxHeartbeats 4000000 in
set_option maxRecDepth 100000 in
theorem m_X7_passRow_2 (l : Launch) (g : GT) (sz : Nat) (qM : Nat) (AM : Nat → Nat) (σM : qS) (ℓM : qL) (a2 : Int32) (σM' : qS) (hF : f_X7_passRow_2 σM ℓM a2 = some σM') : Cv l yX7_passRow wsX7_passRow { frames := 1, cells := 0, slots := 0, locals := 22 } g sz [.ref qM, .ref (AM 2), .int a2] (wX7 g qM AM σM ℓM) (wX7 g qM AM σM' ℓM) := by
  refine gMet_v (cc := cX7_passRow) (maxL := 4) (ret := none) (by decide) rfl (Nat.le_of_ble_eq_true rfl) ?_
  intro p e s m args below meth c Z hx hb hr F hlk hnm hK hN hA H locs hP hD hS ls hl
  have hl : lv_has ls 4 [(0, .ref qM), (1, .ref (AM 2)), (2, .int a2)] := hl
  have F : CallFix p m c cX7_passRow 4 s args wsX7_passRow RX7 := F
  have hts := F.2.2.2.2
  have hown : s.vm.findClass RX7 = some m.cls := F.2.2.2.1
  dsimp only [f_X7_passRow_2] at hF
  refine lv_iconst (v := 0) hx hb dX7_passRow_0 (by decide) ?_
  refine lv_istore_n (lv' := [(3, .int 0), (0, .ref qM), (1, .ref (AM 2)), (2, .int a2)]) hx hb dX7_passRow_1 rfl hl (by decide) rfl (fun ls hl => ?_)
  refine q_loop (fun u0 => wX7 g qM AM u0.2 ℓM) (fun u0 => [(3, .int u0.1), (0, .ref qM), (1, .ref (AM 2)), (2, .int a2)]) 23 hF ?_ ?_ hP hD hS (lv_sub hl [0, 1, 2, 3] rfl)
  · rintro ⟨v3_1, σM_1⟩ hF H locs ls hP hD hS hl
    try dsimp only at hF
    have hP : va_P g.1 vwCl (wX7 g qM AM σM_1 ℓM) H := hP
    have hD : va_D Z (wX7 g qM AM σM_1 ℓM) := hD
    have hl : lv_has ls 4 [(3, .int v3_1), (0, .ref qM), (1, .ref (AM 2)), (2, .int a2)] := hl
    cases hF
    exact r_vret hx hb hr hlk hS () trivial hP hD dX7_passRow_23
  · rintro k again kk ag ⟨v3_1, σM_1⟩ hF H locs ls hP hD hS hl
    dsimp only [b_X7_passRow_2_2] at hF
    have hP : va_P g.1 vwCl (wX7 g qM AM σM_1 ℓM) H := hP
    have hD : va_D Z (wX7 g qM AM σM_1 ℓM) := hD
    have hl : lv_has ls 4 [(3, .int v3_1), (0, .ref qM), (1, .ref (AM 2)), (2, .int a2)] := hl
    refine lv_iload_n hx hb dX7_passRow_2 rfl (lv_at hl 0 rfl) ?_
    refine lv_iload_n hx hb dX7_passRow_3 rfl (lv_at hl 3 rfl) ?_
    refine lv_icmp_ge (tgt := 23) hx hb dX7_passRow_4 (by decide) (fun c_2 => ?_) (fun c_2 => ?_)
    · have hF := q_if_t c_2 hF
      exact kk (v3_1, σM_1) hF _ _ _ hP hD hS (lv_sub hl [0, 1, 2, 3] rfl)
    · have hF := q_if_f c_2 hF
      refine lv_aload_n hx hb dX7_passRow_7 rfl (lv_at hl 2 rfl) ?_
      refine lv_iload_n hx hb dX7_passRow_8 rfl (lv_at hl 0 rfl) ?_
      refine lv_aload_n hx hb dX7_passRow_9 rfl (lv_at hl 1 rfl) ?_
      refine lv_aload_n hx hb dX7_passRow_10 rfl (lv_at hl 2 rfl) ?_
      refine lv_iload_n hx hb dX7_passRow_11 rfl (lv_at hl 0 rfl) ?_
      obtain ⟨r_3, i_4, e_5, hF⟩ := q_rd_s hF
      refine r_iald (v := r_3) hx hb hK hP 3 rfl i_4 e_5 dX7_passRow_12 ?_
      obtain ⟨⟨r_6, σM_7⟩, h_8, hF⟩ := q_cl_s hF
      try dsimp only at hF
      refine gcV_i (As := [.int r_3]) (rest := [.int v3_1, .ref (AM 2)]) (ci := 7) (q := (RX7, TX7, 34)) F hK hN hP hD hS hA (m_X7_pass l g H.size qM AM σM_1 ℓM r_3 r_6 σM_7 h_8) gX7_passRow_X7_pass kX7_pass rfl rfl rfl rfl ⟨(Nat.le_of_ble_eq_true rfl), (Nat.le_of_ble_eq_true rfl)⟩ [0, 1, 2, 3, 4, 5, 6, 7, 8, 9, 10, 11, 12, 13, 14, 15, 16, 17, 18, 19, 20] [] rfl rfl rfl (by decide) rfl rfl rfl rfl rfl hl.1 (Nat.le_of_ble_eq_true rfl) dX7_passRow_13 ⟨(Nat.le_of_ble_eq_true rfl), (Nat.le_of_ble_eq_true rfl)⟩ (fun r_w u_w H locs hw hP hD hS => ?_)
      have hP : va_P g.1 vwCl (wX7 g qM AM σM_7 ℓM) H := hP
      have hD : va_D Z (wX7 g qM AM σM_7 ℓM) := hD
      obtain rfl : r_6 = r_w := hw.symm
      obtain ⟨σM_10, i_11, e_12, hF⟩ := q_wr_s hF
      refine r_iast (f' := upd (σM_7 2) v3_1.toNatClampNeg r_6) hx hb hK hP hD hS 3 rfl i_11 (fun _ _ => rfl) dX7_passRow_16 (fun H locs hP hD hS => ?_)
      have hP : va_P g.1 vwCl (wX7 g qM AM (q_up σM_7 2 (upd (σM_7 2) v3_1.toNatClampNeg r_6)) ℓM) H := hP
      have hD : va_D Z (wX7 g qM AM (q_up σM_7 2 (upd (σM_7 2) v3_1.toNatClampNeg r_6)) ℓM) := hD
      rw [e_12] at hP hD
      refine lv_iinc (v := v3_1 + 1) (lv' := [(3, .int (v3_1 + 1)), (0, .ref qM), (1, .ref (AM 2)), (2, .int a2)]) hx hb dX7_passRow_17 hl (k := 0) rfl rfl (by decide) rfl (fun ls hl => ?_)
      refine lv_goto (tgt := 2) hx hb dX7_passRow_20 (by decide) ?_
      exact ag (v3_1 + 1, σM_10) hF _ _ _ hP hD hS (lv_sub hl [0, 1, 2, 3] rfl)
set_option maxHeartbeats 4000000 in
set_option maxRecDepth 100000 in
theorem m_X7_passRow_3 (l : Launch) (g : GT) (sz : Nat) (qM : Nat) (AM : Nat → Nat) (σM : qS) (ℓM : qL) (a2 : Int32) (σM' : qS) (hF : f_X7_passRow_3 σM ℓM a2 = some σM') : Cv l yX7_passRow wsX7_passRow { frames := 1, cells := 0, slots := 0, locals := 22 } g sz [.ref qM, .ref (AM 3), .int a2] (wX7 g qM AM σM ℓM) (wX7 g qM AM σM' ℓM) := by
  refine gMet_v (cc := cX7_passRow) (maxL := 4) (ret := none) (by decide) rfl (Nat.le_of_ble_eq_true rfl) ?_
  intro p e s m args below meth c Z hx hb hr F hlk hnm hK hN hA H locs hP hD hS ls hl
  have hl : lv_has ls 4 [(0, .ref qM), (1, .ref (AM 3)), (2, .int a2)] := hl
  have F : CallFix p m c cX7_passRow 4 s args wsX7_passRow RX7 := F
  have hts := F.2.2.2.2
  have hown : s.vm.findClass RX7 = some m.cls := F.2.2.2.1
  dsimp only [f_X7_passRow_3] at hF
  refine lv_iconst (v := 0) hx hb dX7_passRow_0 (by decide) ?_
  refine lv_istore_n (lv' := [(3, .int 0), (0, .ref qM), (1, .ref (AM 3)), (2, .int a2)]) hx hb dX7_passRow_1 rfl hl (by decide) rfl (fun ls hl => ?_)
  refine q_loop (fun u0 => wX7 g qM AM u0.2 ℓM) (fun u0 => [(3, .int u0.1), (0, .ref qM), (1, .ref (AM 3)), (2, .int a2)]) 23 hF ?_ ?_ hP hD hS (lv_sub hl [0, 1, 2, 3] rfl)
  · rintro ⟨v3_1, σM_1⟩ hF H locs ls hP hD hS hl
    try dsimp only at hF
    have hP : va_P g.1 vwCl (wX7 g qM AM σM_1 ℓM) H := hP
    have hD : va_D Z (wX7 g qM AM σM_1 ℓM) := hD
    have hl : lv_has ls 4 [(3, .int v3_1), (0, .ref qM), (1, .ref (AM 3)), (2, .int a2)] := hl
    cases hF
    exact r_vret hx hb hr hlk hS () trivial hP hD dX7_passRow_23
  · rintro k again kk ag ⟨v3_1, σM_1⟩ hF H locs ls hP hD hS hl
    dsimp only [b_X7_passRow_3_2] at hF
    have hP : va_P g.1 vwCl (wX7 g qM AM σM_1 ℓM) H := hP
    have hD : va_D Z (wX7 g qM AM σM_1 ℓM) := hD
    have hl : lv_has ls 4 [(3, .int v3_1), (0, .ref qM), (1, .ref (AM 3)), (2, .int a2)] := hl
    refine lv_iload_n hx hb dX7_passRow_2 rfl (lv_at hl 0 rfl) ?_
    refine lv_iload_n hx hb dX7_passRow_3 rfl (lv_at hl 3 rfl) ?_
    refine lv_icmp_ge (tgt := 23) hx hb dX7_passRow_4 (by decide) (fun c_2 => ?_) (fun c_2 => ?_)
    · have hF := q_if_t c_2 hF
      exact kk (v3_1, σM_1) hF _ _ _ hP hD hS (lv_sub hl [0, 1, 2, 3] rfl)
    · have hF := q_if_f c_2 hF
      refine lv_aload_n hx hb dX7_passRow_7 rfl (lv_at hl 2 rfl) ?_
      refine lv_iload_n hx hb dX7_passRow_8 rfl (lv_at hl 0 rfl) ?_
      refine lv_aload_n hx hb dX7_passRow_9 rfl (lv_at hl 1 rfl) ?_
      refine lv_aload_n hx hb dX7_passRow_10 rfl (lv_at hl 2 rfl) ?_
      refine lv_iload_n hx hb dX7_passRow_11 rfl (lv_at hl 0 rfl) ?_
      obtain ⟨r_3, i_4, e_5, hF⟩ := q_rd_s hF
      refine r_iald (v := r_3) hx hb hK hP 4 rfl i_4 e_5 dX7_passRow_12 ?_
      obtain ⟨⟨r_6, σM_7⟩, h_8, hF⟩ := q_cl_s hF
      try dsimp only at hF
      refine gcV_i (As := [.int r_3]) (rest := [.int v3_1, .ref (AM 3)]) (ci := 7) (q := (RX7, TX7, 34)) F hK hN hP hD hS hA (m_X7_pass l g H.size qM AM σM_1 ℓM r_3 r_6 σM_7 h_8) gX7_passRow_X7_pass kX7_pass rfl rfl rfl rfl ⟨(Nat.le_of_ble_eq_true rfl), (Nat.le_of_ble_eq_true rfl)⟩ [0, 1, 2, 3, 4, 5, 6, 7, 8, 9, 10, 11, 12, 13, 14, 15, 16, 17, 18, 19, 20] [] rfl rfl rfl (by decide) rfl rfl rfl rfl rfl hl.1 (Nat.le_of_ble_eq_true rfl) dX7_passRow_13 ⟨(Nat.le_of_ble_eq_true rfl), (Nat.le_of_ble_eq_true rfl)⟩ (fun r_w u_w H locs hw hP hD hS => ?_)
      have hP : va_P g.1 vwCl (wX7 g qM AM σM_7 ℓM) H := hP
      have hD : va_D Z (wX7 g qM AM σM_7 ℓM) := hD
      obtain rfl : r_6 = r_w := hw.symm
      obtain ⟨σM_10, i_11, e_12, hF⟩ := q_wr_s hF
      refine r_iast (f' := upd (σM_7 3) v3_1.toNatClampNeg r_6) hx hb hK hP hD hS 4 rfl i_11 (fun _ _ => rfl) dX7_passRow_16 (fun H locs hP hD hS => ?_)
      have hP : va_P g.1 vwCl (wX7 g qM AM (q_up σM_7 3 (upd (σM_7 3) v3_1.toNatClampNeg r_6)) ℓM) H := hP
      have hD : va_D Z (wX7 g qM AM (q_up σM_7 3 (upd (σM_7 3) v3_1.toNatClampNeg r_6)) ℓM) := hD
      rw [e_12] at hP hD
      refine lv_iinc (v := v3_1 + 1) (lv' := [(3, .int (v3_1 + 1)), (0, .ref qM), (1, .ref (AM 3)), (2, .int a2)]) hx hb dX7_passRow_17 hl (k := 0) rfl rfl (by decide) rfl (fun ls hl => ?_)
      refine lv_goto (tgt := 2) hx hb dX7_passRow_20 (by decide) ?_
      exact ag (v3_1 + 1, σM_10) hF _ _ _ hP hD hS (lv_sub hl [0, 1, 2, 3] rfl)
set_option maxHeartbeats 4000000 in
set_option maxRecDepth 100000 in
theorem m_X7_passRow_4 (l : Launch) (g : GT) (sz : Nat) (qM : Nat) (AM : Nat → Nat) (σM : qS) (ℓM : qL) (a2 : Int32) (σM' : qS) (hF : f_X7_passRow_4 σM ℓM a2 = some σM') : Cv l yX7_passRow wsX7_passRow { frames := 1, cells := 0, slots := 0, locals := 22 } g sz [.ref qM, .ref (AM 4), .int a2] (wX7 g qM AM σM ℓM) (wX7 g qM AM σM' ℓM) := by
  refine gMet_v (cc := cX7_passRow) (maxL := 4) (ret := none) (by decide) rfl (Nat.le_of_ble_eq_true rfl) ?_
  intro p e s m args below meth c Z hx hb hr F hlk hnm hK hN hA H locs hP hD hS ls hl
  have hl : lv_has ls 4 [(0, .ref qM), (1, .ref (AM 4)), (2, .int a2)] := hl
  have F : CallFix p m c cX7_passRow 4 s args wsX7_passRow RX7 := F
  have hts := F.2.2.2.2
  have hown : s.vm.findClass RX7 = some m.cls := F.2.2.2.1
  dsimp only [f_X7_passRow_4] at hF
  refine lv_iconst (v := 0) hx hb dX7_passRow_0 (by decide) ?_
  refine lv_istore_n (lv' := [(3, .int 0), (0, .ref qM), (1, .ref (AM 4)), (2, .int a2)]) hx hb dX7_passRow_1 rfl hl (by decide) rfl (fun ls hl => ?_)
  refine q_loop (fun u0 => wX7 g qM AM u0.2 ℓM) (fun u0 => [(3, .int u0.1), (0, .ref qM), (1, .ref (AM 4)), (2, .int a2)]) 23 hF ?_ ?_ hP hD hS (lv_sub hl [0, 1, 2, 3] rfl)
  · rintro ⟨v3_1, σM_1⟩ hF H locs ls hP hD hS hl
    try dsimp only at hF
    have hP : va_P g.1 vwCl (wX7 g qM AM σM_1 ℓM) H := hP
    have hD : va_D Z (wX7 g qM AM σM_1 ℓM) := hD
    have hl : lv_has ls 4 [(3, .int v3_1), (0, .ref qM), (1, .ref (AM 4)), (2, .int a2)] := hl
    cases hF
    exact r_vret hx hb hr hlk hS () trivial hP hD dX7_passRow_23
  · rintro k again kk ag ⟨v3_1, σM_1⟩ hF H locs ls hP hD hS hl
    dsimp only [b_X7_passRow_4_2] at hF
    have hP : va_P g.1 vwCl (wX7 g qM AM σM_1 ℓM) H := hP
    have hD : va_D Z (wX7 g qM AM σM_1 ℓM) := hD
    have hl : lv_has ls 4 [(3, .int v3_1), (0, .ref qM), (1, .ref (AM 4)), (2, .int a2)] := hl
    refine lv_iload_n hx hb dX7_passRow_2 rfl (lv_at hl 0 rfl) ?_
    refine lv_iload_n hx hb dX7_passRow_3 rfl (lv_at hl 3 rfl) ?_
    refine lv_icmp_ge (tgt := 23) hx hb dX7_passRow_4 (by decide) (fun c_2 => ?_) (fun c_2 => ?_)
    · have hF := q_if_t c_2 hF
      exact kk (v3_1, σM_1) hF _ _ _ hP hD hS (lv_sub hl [0, 1, 2, 3] rfl)
    · have hF := q_if_f c_2 hF
      refine lv_aload_n hx hb dX7_passRow_7 rfl (lv_at hl 2 rfl) ?_
      refine lv_iload_n hx hb dX7_passRow_8 rfl (lv_at hl 0 rfl) ?_
      refine lv_aload_n hx hb dX7_passRow_9 rfl (lv_at hl 1 rfl) ?_
      refine lv_aload_n hx hb dX7_passRow_10 rfl (lv_at hl 2 rfl) ?_
      refine lv_iload_n hx hb dX7_passRow_11 rfl (lv_at hl 0 rfl) ?_
      obtain ⟨r_3, i_4, e_5, hF⟩ := q_rd_s hF
      refine r_iald (v := r_3) hx hb hK hP 5 rfl i_4 e_5 dX7_passRow_12 ?_
      obtain ⟨⟨r_6, σM_7⟩, h_8, hF⟩ := q_cl_s hF
      try dsimp only at hF
      refine gcV_i (As := [.int r_3]) (rest := [.int v3_1, .ref (AM 4)]) (ci := 7) (q := (RX7, TX7, 34)) F hK hN hP hD hS hA (m_X7_pass l g H.size qM AM σM_1 ℓM r_3 r_6 σM_7 h_8) gX7_passRow_X7_pass kX7_pass rfl rfl rfl rfl ⟨(Nat.le_of_ble_eq_true rfl), (Nat.le_of_ble_eq_true rfl)⟩ [0, 1, 2, 3, 4, 5, 6, 7, 8, 9, 10, 11, 12, 13, 14, 15, 16, 17, 18, 19, 20] [] rfl rfl rfl (by decide) rfl rfl rfl rfl rfl hl.1 (Nat.le_of_ble_eq_true rfl) dX7_passRow_13 ⟨(Nat.le_of_ble_eq_true rfl), (Nat.le_of_ble_eq_true rfl)⟩ (fun r_w u_w H locs hw hP hD hS => ?_)
      have hP : va_P g.1 vwCl (wX7 g qM AM σM_7 ℓM) H := hP
      have hD : va_D Z (wX7 g qM AM σM_7 ℓM) := hD
      obtain rfl : r_6 = r_w := hw.symm
      obtain ⟨σM_10, i_11, e_12, hF⟩ := q_wr_s hF
      refine r_iast (f' := upd (σM_7 4) v3_1.toNatClampNeg r_6) hx hb hK hP hD hS 5 rfl i_11 (fun _ _ => rfl) dX7_passRow_16 (fun H locs hP hD hS => ?_)
      have hP : va_P g.1 vwCl (wX7 g qM AM (q_up σM_7 4 (upd (σM_7 4) v3_1.toNatClampNeg r_6)) ℓM) H := hP
      have hD : va_D Z (wX7 g qM AM (q_up σM_7 4 (upd (σM_7 4) v3_1.toNatClampNeg r_6)) ℓM) := hD
      rw [e_12] at hP hD
      refine lv_iinc (v := v3_1 + 1) (lv' := [(3, .int (v3_1 + 1)), (0, .ref qM), (1, .ref (AM 4)), (2, .int a2)]) hx hb dX7_passRow_17 hl (k := 0) rfl rfl (by decide) rfl (fun ls hl => ?_)
      refine lv_goto (tgt := 2) hx hb dX7_passRow_20 (by decide) ?_
      exact ag (v3_1 + 1, σM_10) hF _ _ _ hP hD hS (lv_sub hl [0, 1, 2, 3] rfl)
set_option maxHeartbeats 4000000 in
set_option maxRecDepth 100000 in
theorem m_X7_passRow_9 (l : Launch) (g : GT) (sz : Nat) (qM : Nat) (AM : Nat → Nat) (σM : qS) (ℓM : qL) (a2 : Int32) (σM' : qS) (hF : f_X7_passRow_9 σM ℓM a2 = some σM') : Cv l yX7_passRow wsX7_passRow { frames := 1, cells := 0, slots := 0, locals := 22 } g sz [.ref qM, .ref (AM 9), .int a2] (wX7 g qM AM σM ℓM) (wX7 g qM AM σM' ℓM) := by
  refine gMet_v (cc := cX7_passRow) (maxL := 4) (ret := none) (by decide) rfl (Nat.le_of_ble_eq_true rfl) ?_
  intro p e s m args below meth c Z hx hb hr F hlk hnm hK hN hA H locs hP hD hS ls hl
  have hl : lv_has ls 4 [(0, .ref qM), (1, .ref (AM 9)), (2, .int a2)] := hl
  have F : CallFix p m c cX7_passRow 4 s args wsX7_passRow RX7 := F
  have hts := F.2.2.2.2
  have hown : s.vm.findClass RX7 = some m.cls := F.2.2.2.1
  dsimp only [f_X7_passRow_9] at hF
  refine lv_iconst (v := 0) hx hb dX7_passRow_0 (by decide) ?_
  refine lv_istore_n (lv' := [(3, .int 0), (0, .ref qM), (1, .ref (AM 9)), (2, .int a2)]) hx hb dX7_passRow_1 rfl hl (by decide) rfl (fun ls hl => ?_)
  refine q_loop (fun u0 => wX7 g qM AM u0.2 ℓM) (fun u0 => [(3, .int u0.1), (0, .ref qM), (1, .ref (AM 9)), (2, .int a2)]) 23 hF ?_ ?_ hP hD hS (lv_sub hl [0, 1, 2, 3] rfl)
  · rintro ⟨v3_1, σM_1⟩ hF H locs ls hP hD hS hl
    try dsimp only at hF
    have hP : va_P g.1 vwCl (wX7 g qM AM σM_1 ℓM) H := hP
    have hD : va_D Z (wX7 g qM AM σM_1 ℓM) := hD
    have hl : lv_has ls 4 [(3, .int v3_1), (0, .ref qM), (1, .ref (AM 9)), (2, .int a2)] := hl
    cases hF
    exact r_vret hx hb hr hlk hS () trivial hP hD dX7_passRow_23
  · rintro k again kk ag ⟨v3_1, σM_1⟩ hF H locs ls hP hD hS hl
    dsimp only [b_X7_passRow_9_2] at hF
    have hP : va_P g.1 vwCl (wX7 g qM AM σM_1 ℓM) H := hP
    have hD : va_D Z (wX7 g qM AM σM_1 ℓM) := hD
    have hl : lv_has ls 4 [(3, .int v3_1), (0, .ref qM), (1, .ref (AM 9)), (2, .int a2)] := hl
    refine lv_iload_n hx hb dX7_passRow_2 rfl (lv_at hl 0 rfl) ?_
    refine lv_iload_n hx hb dX7_passRow_3 rfl (lv_at hl 3 rfl) ?_
    refine lv_icmp_ge (tgt := 23) hx hb dX7_passRow_4 (by decide) (fun c_2 => ?_) (fun c_2 => ?_)
    · have hF := q_if_t c_2 hF
      exact kk (v3_1, σM_1) hF _ _ _ hP hD hS (lv_sub hl [0, 1, 2, 3] rfl)
    · have hF := q_if_f c_2 hF
      refine lv_aload_n hx hb dX7_passRow_7 rfl (lv_at hl 2 rfl) ?_
      refine lv_iload_n hx hb dX7_passRow_8 rfl (lv_at hl 0 rfl) ?_
      refine lv_aload_n hx hb dX7_passRow_9 rfl (lv_at hl 1 rfl) ?_
      refine lv_aload_n hx hb dX7_passRow_10 rfl (lv_at hl 2 rfl) ?_
      refine lv_iload_n hx hb dX7_passRow_11 rfl (lv_at hl 0 rfl) ?_
      obtain ⟨r_3, i_4, e_5, hF⟩ := q_rd_s hF
      refine r_iald (v := r_3) hx hb hK hP 6 rfl i_4 e_5 dX7_passRow_12 ?_
      obtain ⟨⟨r_6, σM_7⟩, h_8, hF⟩ := q_cl_s hF
      try dsimp only at hF
      refine gcV_i (As := [.int r_3]) (rest := [.int v3_1, .ref (AM 9)]) (ci := 7) (q := (RX7, TX7, 34)) F hK hN hP hD hS hA (m_X7_pass l g H.size qM AM σM_1 ℓM r_3 r_6 σM_7 h_8) gX7_passRow_X7_pass kX7_pass rfl rfl rfl rfl ⟨(Nat.le_of_ble_eq_true rfl), (Nat.le_of_ble_eq_true rfl)⟩ [0, 1, 2, 3, 4, 5, 6, 7, 8, 9, 10, 11, 12, 13, 14, 15, 16, 17, 18, 19, 20] [] rfl rfl rfl (by decide) rfl rfl rfl rfl rfl hl.1 (Nat.le_of_ble_eq_true rfl) dX7_passRow_13 ⟨(Nat.le_of_ble_eq_true rfl), (Nat.le_of_ble_eq_true rfl)⟩ (fun r_w u_w H locs hw hP hD hS => ?_)
      have hP : va_P g.1 vwCl (wX7 g qM AM σM_7 ℓM) H := hP
      have hD : va_D Z (wX7 g qM AM σM_7 ℓM) := hD
      obtain rfl : r_6 = r_w := hw.symm
      obtain ⟨σM_10, i_11, e_12, hF⟩ := q_wr_s hF
      refine r_iast (f' := upd (σM_7 9) v3_1.toNatClampNeg r_6) hx hb hK hP hD hS 6 rfl i_11 (fun _ _ => rfl) dX7_passRow_16 (fun H locs hP hD hS => ?_)
      have hP : va_P g.1 vwCl (wX7 g qM AM (q_up σM_7 9 (upd (σM_7 9) v3_1.toNatClampNeg r_6)) ℓM) H := hP
      have hD : va_D Z (wX7 g qM AM (q_up σM_7 9 (upd (σM_7 9) v3_1.toNatClampNeg r_6)) ℓM) := hD
      rw [e_12] at hP hD
      refine lv_iinc (v := v3_1 + 1) (lv' := [(3, .int (v3_1 + 1)), (0, .ref qM), (1, .ref (AM 9)), (2, .int a2)]) hx hb dX7_passRow_17 hl (k := 0) rfl rfl (by decide) rfl (fun ls hl => ?_)
      refine lv_goto (tgt := 2) hx hb dX7_passRow_20 (by decide) ?_
      exact ag (v3_1 + 1, σM_10) hF _ _ _ hP hD hS (lv_sub hl [0, 1, 2, 3] rfl)
set_option maxHeartbeats 4000000 in
set_option maxRecDepth 100000 in
theorem m_X7_passRow_10 (l : Launch) (g : GT) (sz : Nat) (qM : Nat) (AM : Nat → Nat) (σM : qS) (ℓM : qL) (a2 : Int32) (σM' : qS) (hF : f_X7_passRow_10 σM ℓM a2 = some σM') : Cv l yX7_passRow wsX7_passRow { frames := 1, cells := 0, slots := 0, locals := 22 } g sz [.ref qM, .ref (AM 10), .int a2] (wX7 g qM AM σM ℓM) (wX7 g qM AM σM' ℓM) := by
  refine gMet_v (cc := cX7_passRow) (maxL := 4) (ret := none) (by decide) rfl (Nat.le_of_ble_eq_true rfl) ?_
  intro p e s m args below meth c Z hx hb hr F hlk hnm hK hN hA H locs hP hD hS ls hl
  have hl : lv_has ls 4 [(0, .ref qM), (1, .ref (AM 10)), (2, .int a2)] := hl
  have F : CallFix p m c cX7_passRow 4 s args wsX7_passRow RX7 := F
  have hts := F.2.2.2.2
  have hown : s.vm.findClass RX7 = some m.cls := F.2.2.2.1
  dsimp only [f_X7_passRow_10] at hF
  refine lv_iconst (v := 0) hx hb dX7_passRow_0 (by decide) ?_
  refine lv_istore_n (lv' := [(3, .int 0), (0, .ref qM), (1, .ref (AM 10)), (2, .int a2)]) hx hb dX7_passRow_1 rfl hl (by decide) rfl (fun ls hl => ?_)
  refine q_loop (fun u0 => wX7 g qM AM u0.2 ℓM) (fun u0 => [(3, .int u0.1), (0, .ref qM), (1, .ref (AM 10)), (2, .int a2)]) 23 hF ?_ ?_ hP hD hS (lv_sub hl [0, 1, 2, 3] rfl)
  · rintro ⟨v3_1, σM_1⟩ hF H locs ls hP hD hS hl
    try dsimp only at hF
    have hP : va_P g.1 vwCl (wX7 g qM AM σM_1 ℓM) H := hP
    have hD : va_D Z (wX7 g qM AM σM_1 ℓM) := hD
    have hl : lv_has ls 4 [(3, .int v3_1), (0, .ref qM), (1, .ref (AM 10)), (2, .int a2)] := hl
    cases hF
    exact r_vret hx hb hr hlk hS () trivial hP hD dX7_passRow_23
  · rintro k again kk ag ⟨v3_1, σM_1⟩ hF H locs ls hP hD hS hl
    dsimp only [b_X7_passRow_10_2] at hF
    have hP : va_P g.1 vwCl (wX7 g qM AM σM_1 ℓM) H := hP
    have hD : va_D Z (wX7 g qM AM σM_1 ℓM) := hD
    have hl : lv_has ls 4 [(3, .int v3_1), (0, .ref qM), (1, .ref (AM 10)), (2, .int a2)] := hl
    refine lv_iload_n hx hb dX7_passRow_2 rfl (lv_at hl 0 rfl) ?_
    refine lv_iload_n hx hb dX7_passRow_3 rfl (lv_at hl 3 rfl) ?_
    refine lv_icmp_ge (tgt := 23) hx hb dX7_passRow_4 (by decide) (fun c_2 => ?_) (fun c_2 => ?_)
    · have hF := q_if_t c_2 hF
      exact kk (v3_1, σM_1) hF _ _ _ hP hD hS (lv_sub hl [0, 1, 2, 3] rfl)
    · have hF := q_if_f c_2 hF
      refine lv_aload_n hx hb dX7_passRow_7 rfl (lv_at hl 2 rfl) ?_
      refine lv_iload_n hx hb dX7_passRow_8 rfl (lv_at hl 0 rfl) ?_
      refine lv_aload_n hx hb dX7_passRow_9 rfl (lv_at hl 1 rfl) ?_
      refine lv_aload_n hx hb dX7_passRow_10 rfl (lv_at hl 2 rfl) ?_
      refine lv_iload_n hx hb dX7_passRow_11 rfl (lv_at hl 0 rfl) ?_
      obtain ⟨r_3, i_4, e_5, hF⟩ := q_rd_s hF
      refine r_iald (v := r_3) hx hb hK hP 7 rfl i_4 e_5 dX7_passRow_12 ?_
      obtain ⟨⟨r_6, σM_7⟩, h_8, hF⟩ := q_cl_s hF
      try dsimp only at hF
      refine gcV_i (As := [.int r_3]) (rest := [.int v3_1, .ref (AM 10)]) (ci := 7) (q := (RX7, TX7, 34)) F hK hN hP hD hS hA (m_X7_pass l g H.size qM AM σM_1 ℓM r_3 r_6 σM_7 h_8) gX7_passRow_X7_pass kX7_pass rfl rfl rfl rfl ⟨(Nat.le_of_ble_eq_true rfl), (Nat.le_of_ble_eq_true rfl)⟩ [0, 1, 2, 3, 4, 5, 6, 7, 8, 9, 10, 11, 12, 13, 14, 15, 16, 17, 18, 19, 20] [] rfl rfl rfl (by decide) rfl rfl rfl rfl rfl hl.1 (Nat.le_of_ble_eq_true rfl) dX7_passRow_13 ⟨(Nat.le_of_ble_eq_true rfl), (Nat.le_of_ble_eq_true rfl)⟩ (fun r_w u_w H locs hw hP hD hS => ?_)
      have hP : va_P g.1 vwCl (wX7 g qM AM σM_7 ℓM) H := hP
      have hD : va_D Z (wX7 g qM AM σM_7 ℓM) := hD
      obtain rfl : r_6 = r_w := hw.symm
      obtain ⟨σM_10, i_11, e_12, hF⟩ := q_wr_s hF
      refine r_iast (f' := upd (σM_7 10) v3_1.toNatClampNeg r_6) hx hb hK hP hD hS 7 rfl i_11 (fun _ _ => rfl) dX7_passRow_16 (fun H locs hP hD hS => ?_)
      have hP : va_P g.1 vwCl (wX7 g qM AM (q_up σM_7 10 (upd (σM_7 10) v3_1.toNatClampNeg r_6)) ℓM) H := hP
      have hD : va_D Z (wX7 g qM AM (q_up σM_7 10 (upd (σM_7 10) v3_1.toNatClampNeg r_6)) ℓM) := hD
      rw [e_12] at hP hD
      refine lv_iinc (v := v3_1 + 1) (lv' := [(3, .int (v3_1 + 1)), (0, .ref qM), (1, .ref (AM 10)), (2, .int a2)]) hx hb dX7_passRow_17 hl (k := 0) rfl rfl (by decide) rfl (fun ls hl => ?_)
      refine lv_goto (tgt := 2) hx hb dX7_passRow_20 (by decide) ?_
      exact ag (v3_1 + 1, σM_10) hF _ _ _ hP hD hS (lv_sub hl [0, 1, 2, 3] rfl)
set_option maxHeartbeats 4000000 in
set_option maxRecDepth 100000 in
theorem m_X7_passAll (l : Launch) (g : GT) (sz : Nat) (qM : Nat) (AM : Nat → Nat) (σM : qS) (ℓM : qL) (σM' : qS) (hF : f_X7_passAll σM ℓM = some σM') : Cv l yX7_passAll wsX7_passAll { frames := 2, cells := 0, slots := 0, locals := 45 } g sz [.ref qM] (wX7 g qM AM σM ℓM) (wX7 g qM AM σM' ℓM) := by
  refine gMet_v (cc := cX7_passAll) (maxL := 1) (ret := none) (by decide) rfl (Nat.le_of_ble_eq_true rfl) ?_
  intro p e s m args below meth c Z hx hb hr F hlk hnm hK hN hA H locs hP hD hS ls hl
  have hl : lv_has ls 1 [(0, .ref qM)] := hl
  have F : CallFix p m c cX7_passAll 1 s args wsX7_passAll RX7 := F
  have hts := F.2.2.2.2
  have hown : s.vm.findClass RX7 = some m.cls := F.2.2.2.1
  have hi7 : ∀ w ∈ u_ws RX7 TX7 34, w ∈ wsX7_passAll := by decide +kernel
  dsimp only [f_X7_passAll] at hF
  refine lv_aload_n hx hb dX7_passAll_0 rfl (lv_at hl 0 rfl) ?_
  refine lv_aload_n hx hb dX7_passAll_1 rfl (lv_at hl 0 rfl) ?_
  refine lv_aload_n hx hb dX7_passAll_2 rfl (lv_at hl 0 rfl) ?_
  refine va_get (D := g.1) (ci := 7) (v := .int (σM 99 5)) (C := RX7) (T := TX7) (N := 34) hx hb hts hi7 hown hK hP 0 rfl rfl 5 (by decide) (hts (.fieldLink RX7 72 "PanTalesModel" "panPlace" "I") (by decide +kernel)) (fun _ h9 => h9) rfl dX7_passAll_3 ?_
  obtain ⟨⟨r_1, σM_2⟩, h_3, hF⟩ := q_cl_s hF
  try dsimp only at hF
  refine gcV_i (As := [.int (σM 99 5)]) (rest := [.ref qM]) (ci := 7) (q := (RX7, TX7, 34)) F hK hN hP hD hS hA (m_X7_pass l g H.size qM AM σM ℓM (σM 99 5) r_1 σM_2 h_3) gX7_passAll_X7_pass kX7_pass rfl rfl rfl rfl ⟨(Nat.le_of_ble_eq_true rfl), (Nat.le_of_ble_eq_true rfl)⟩ [0, 1, 2, 3, 4, 5, 6, 7, 8, 9, 10, 11, 12, 13, 14, 15, 16, 17, 18, 19, 20] [] rfl rfl rfl (by decide) rfl rfl rfl rfl rfl hl.1 (Nat.le_of_ble_eq_true rfl) dX7_passAll_6 ⟨(Nat.le_of_ble_eq_true rfl), (Nat.le_of_ble_eq_true rfl)⟩ (fun r_w u_w H locs hw hP hD hS => ?_)
  have hP : va_P g.1 vwCl (wX7 g qM AM σM_2 ℓM) H := hP
  have hD : va_D Z (wX7 g qM AM σM_2 ℓM) := hD
  obtain rfl : r_1 = r_w := hw.symm
  obtain ⟨σM_5, e_6, hF⟩ := q_bd_s hF
  refine va_put (D := g.1) (ci := 7) (v := .int r_1) (ty := .int) (C := RX7) (T := TX7) (N := 34) hx hb hts hi7 tyX7 tyX7_ok nmX7 hown hK hP hD hS 0 rfl rfl 5 (by decide) (hts (.fieldLink RX7 72 "PanTalesModel" "panPlace" "I") (by decide +kernel)) (fun _ h9 => h9) rfl (by decide +kernel) rfl rfl (Nat.le_of_ble_eq_true rfl) dX7_passAll_9 (fun H locs hP hD hS => ?_)
  have hP : va_P g.1 vwCl (wX7 g qM AM (q_pt σM_2 5 r_1) ℓM) H := hP
  have hD : va_D Z (wX7 g qM AM (q_pt σM_2 5 r_1) ℓM) := hD
  rw [e_6] at hP hD
  refine lv_aload_n hx hb dX7_passAll_12 rfl (lv_at hl 0 rfl) ?_
  refine lv_aload_n hx hb dX7_passAll_13 rfl (lv_at hl 0 rfl) ?_
  refine lv_aload_n hx hb dX7_passAll_14 rfl (lv_at hl 0 rfl) ?_
  refine va_get (D := g.1) (ci := 7) (v := .int (σM_5 99 6)) (C := RX7) (T := TX7) (N := 34) hx hb hts hi7 hown hK hP 0 rfl rfl 6 (by decide) (hts (.fieldLink RX7 127 "PanTalesModel" "heat" "I") (by decide +kernel)) (fun _ h9 => h9) rfl dX7_passAll_15 ?_
  obtain ⟨⟨r_7, σM_8⟩, h_9, hF⟩ := q_cl_s hF
  try dsimp only at hF
  refine gcV_i (As := [.int (σM_5 99 6)]) (rest := [.ref qM]) (ci := 7) (q := (RX7, TX7, 34)) F hK hN hP hD hS hA (m_X7_pass l g H.size qM AM σM_5 ℓM (σM_5 99 6) r_7 σM_8 h_9) gX7_passAll_X7_pass kX7_pass rfl rfl rfl rfl ⟨(Nat.le_of_ble_eq_true rfl), (Nat.le_of_ble_eq_true rfl)⟩ [0, 1, 2, 3, 4, 5, 6, 7, 8, 9, 10, 11, 12, 13, 14, 15, 16, 17, 18, 19, 20] [] rfl rfl rfl (by decide) rfl rfl rfl rfl rfl hl.1 (Nat.le_of_ble_eq_true rfl) dX7_passAll_18 ⟨(Nat.le_of_ble_eq_true rfl), (Nat.le_of_ble_eq_true rfl)⟩ (fun r_w u_w H locs hw hP hD hS => ?_)
  have hP : va_P g.1 vwCl (wX7 g qM AM σM_8 ℓM) H := hP
  have hD : va_D Z (wX7 g qM AM σM_8 ℓM) := hD
  obtain rfl : r_7 = r_w := hw.symm
  obtain ⟨σM_11, e_12, hF⟩ := q_bd_s hF
  refine va_put (D := g.1) (ci := 7) (v := .int r_7) (ty := .int) (C := RX7) (T := TX7) (N := 34) hx hb hts hi7 tyX7 tyX7_ok nmX7 hown hK hP hD hS 0 rfl rfl 6 (by decide) (hts (.fieldLink RX7 127 "PanTalesModel" "heat" "I") (by decide +kernel)) (fun _ h9 => h9) rfl (by decide +kernel) rfl rfl (Nat.le_of_ble_eq_true rfl) dX7_passAll_21 (fun H locs hP hD hS => ?_)
  have hP : va_P g.1 vwCl (wX7 g qM AM (q_pt σM_8 6 r_7) ℓM) H := hP
  have hD : va_D Z (wX7 g qM AM (q_pt σM_8 6 r_7) ℓM) := hD
  rw [e_12] at hP hD
  refine lv_aload_n hx hb dX7_passAll_24 rfl (lv_at hl 0 rfl) ?_
  refine lv_aload_n hx hb dX7_passAll_25 rfl (lv_at hl 0 rfl) ?_
  refine lv_aload_n hx hb dX7_passAll_26 rfl (lv_at hl 0 rfl) ?_
  refine va_get (D := g.1) (ci := 7) (v := .int (σM_11 99 7)) (C := RX7) (T := TX7) (N := 34) hx hb hts hi7 hown hK hP 0 rfl rfl 7 (by decide) (hts (.fieldLink RX7 136 "PanTalesModel" "panTale" "I") (by decide +kernel)) (fun _ h9 => h9) rfl dX7_passAll_27 ?_
  obtain ⟨⟨r_13, σM_14⟩, h_15, hF⟩ := q_cl_s hF
  try dsimp only at hF
  refine gcV_i (As := [.int (σM_11 99 7)]) (rest := [.ref qM]) (ci := 7) (q := (RX7, TX7, 34)) F hK hN hP hD hS hA (m_X7_pass l g H.size qM AM σM_11 ℓM (σM_11 99 7) r_13 σM_14 h_15) gX7_passAll_X7_pass kX7_pass rfl rfl rfl rfl ⟨(Nat.le_of_ble_eq_true rfl), (Nat.le_of_ble_eq_true rfl)⟩ [0, 1, 2, 3, 4, 5, 6, 7, 8, 9, 10, 11, 12, 13, 14, 15, 16, 17, 18, 19, 20] [] rfl rfl rfl (by decide) rfl rfl rfl rfl rfl hl.1 (Nat.le_of_ble_eq_true rfl) dX7_passAll_30 ⟨(Nat.le_of_ble_eq_true rfl), (Nat.le_of_ble_eq_true rfl)⟩ (fun r_w u_w H locs hw hP hD hS => ?_)
  have hP : va_P g.1 vwCl (wX7 g qM AM σM_14 ℓM) H := hP
  have hD : va_D Z (wX7 g qM AM σM_14 ℓM) := hD
  obtain rfl : r_13 = r_w := hw.symm
  obtain ⟨σM_17, e_18, hF⟩ := q_bd_s hF
  refine va_put (D := g.1) (ci := 7) (v := .int r_13) (ty := .int) (C := RX7) (T := TX7) (N := 34) hx hb hts hi7 tyX7 tyX7_ok nmX7 hown hK hP hD hS 0 rfl rfl 7 (by decide) (hts (.fieldLink RX7 136 "PanTalesModel" "panTale" "I") (by decide +kernel)) (fun _ h9 => h9) rfl (by decide +kernel) rfl rfl (Nat.le_of_ble_eq_true rfl) dX7_passAll_33 (fun H locs hP hD hS => ?_)
  have hP : va_P g.1 vwCl (wX7 g qM AM (q_pt σM_14 7 r_13) ℓM) H := hP
  have hD : va_D Z (wX7 g qM AM (q_pt σM_14 7 r_13) ℓM) := hD
  rw [e_18] at hP hD
  refine lv_aload_n hx hb dX7_passAll_36 rfl (lv_at hl 0 rfl) ?_
  refine lv_aload_n hx hb dX7_passAll_37 rfl (lv_at hl 0 rfl) ?_
  refine lv_aload_n hx hb dX7_passAll_38 rfl (lv_at hl 0 rfl) ?_
  refine va_get (D := g.1) (ci := 7) (v := .int (σM_17 99 8)) (C := RX7) (T := TX7) (N := 34) hx hb hts hi7 hown hK hP 0 rfl rfl 8 (by decide) (hts (.fieldLink RX7 130 "PanTalesModel" "mornings" "I") (by decide +kernel)) (fun _ h9 => h9) rfl dX7_passAll_39 ?_
  obtain ⟨⟨r_19, σM_20⟩, h_21, hF⟩ := q_cl_s hF
  try dsimp only at hF
  refine gcV_i (As := [.int (σM_17 99 8)]) (rest := [.ref qM]) (ci := 7) (q := (RX7, TX7, 34)) F hK hN hP hD hS hA (m_X7_pass l g H.size qM AM σM_17 ℓM (σM_17 99 8) r_19 σM_20 h_21) gX7_passAll_X7_pass kX7_pass rfl rfl rfl rfl ⟨(Nat.le_of_ble_eq_true rfl), (Nat.le_of_ble_eq_true rfl)⟩ [0, 1, 2, 3, 4, 5, 6, 7, 8, 9, 10, 11, 12, 13, 14, 15, 16, 17, 18, 19, 20] [] rfl rfl rfl (by decide) rfl rfl rfl rfl rfl hl.1 (Nat.le_of_ble_eq_true rfl) dX7_passAll_42 ⟨(Nat.le_of_ble_eq_true rfl), (Nat.le_of_ble_eq_true rfl)⟩ (fun r_w u_w H locs hw hP hD hS => ?_)
  have hP : va_P g.1 vwCl (wX7 g qM AM σM_20 ℓM) H := hP
  have hD : va_D Z (wX7 g qM AM σM_20 ℓM) := hD
  obtain rfl : r_19 = r_w := hw.symm
  obtain ⟨σM_23, e_24, hF⟩ := q_bd_s hF
  refine va_put (D := g.1) (ci := 7) (v := .int r_19) (ty := .int) (C := RX7) (T := TX7) (N := 34) hx hb hts hi7 tyX7 tyX7_ok nmX7 hown hK hP hD hS 0 rfl rfl 8 (by decide) (hts (.fieldLink RX7 130 "PanTalesModel" "mornings" "I") (by decide +kernel)) (fun _ h9 => h9) rfl (by decide +kernel) rfl rfl (Nat.le_of_ble_eq_true rfl) dX7_passAll_45 (fun H locs hP hD hS => ?_)
  have hP : va_P g.1 vwCl (wX7 g qM AM (q_pt σM_20 8 r_19) ℓM) H := hP
  have hD : va_D Z (wX7 g qM AM (q_pt σM_20 8 r_19) ℓM) := hD
  rw [e_24] at hP hD
  refine lv_aload_n hx hb dX7_passAll_48 rfl (lv_at hl 0 rfl) ?_
  refine lv_aload_n hx hb dX7_passAll_49 rfl (lv_at hl 0 rfl) ?_
  refine lv_aload_n hx hb dX7_passAll_50 rfl (lv_at hl 0 rfl) ?_
  refine va_get (D := g.1) (ci := 7) (v := .int (σM_23 99 11)) (C := RX7) (T := TX7) (N := 34) hx hb hts hi7 hown hK hP 0 rfl rfl 11 (by decide) (hts (.fieldLink RX7 244 "PanTalesModel" "sights" "I") (by decide +kernel)) (fun _ h9 => h9) rfl dX7_passAll_51 ?_
  obtain ⟨⟨r_25, σM_26⟩, h_27, hF⟩ := q_cl_s hF
  try dsimp only at hF
  refine gcV_i (As := [.int (σM_23 99 11)]) (rest := [.ref qM]) (ci := 7) (q := (RX7, TX7, 34)) F hK hN hP hD hS hA (m_X7_pass l g H.size qM AM σM_23 ℓM (σM_23 99 11) r_25 σM_26 h_27) gX7_passAll_X7_pass kX7_pass rfl rfl rfl rfl ⟨(Nat.le_of_ble_eq_true rfl), (Nat.le_of_ble_eq_true rfl)⟩ [0, 1, 2, 3, 4, 5, 6, 7, 8, 9, 10, 11, 12, 13, 14, 15, 16, 17, 18, 19, 20] [] rfl rfl rfl (by decide) rfl rfl rfl rfl rfl hl.1 (Nat.le_of_ble_eq_true rfl) dX7_passAll_54 ⟨(Nat.le_of_ble_eq_true rfl), (Nat.le_of_ble_eq_true rfl)⟩ (fun r_w u_w H locs hw hP hD hS => ?_)
  have hP : va_P g.1 vwCl (wX7 g qM AM σM_26 ℓM) H := hP
  have hD : va_D Z (wX7 g qM AM σM_26 ℓM) := hD
  obtain rfl : r_25 = r_w := hw.symm
  obtain ⟨σM_29, e_30, hF⟩ := q_bd_s hF
  refine va_put (D := g.1) (ci := 7) (v := .int r_25) (ty := .int) (C := RX7) (T := TX7) (N := 34) hx hb hts hi7 tyX7 tyX7_ok nmX7 hown hK hP hD hS 0 rfl rfl 11 (by decide) (hts (.fieldLink RX7 244 "PanTalesModel" "sights" "I") (by decide +kernel)) (fun _ h9 => h9) rfl (by decide +kernel) rfl rfl (Nat.le_of_ble_eq_true rfl) dX7_passAll_57 (fun H locs hP hD hS => ?_)
  have hP : va_P g.1 vwCl (wX7 g qM AM (q_pt σM_26 11 r_25) ℓM) H := hP
  have hD : va_D Z (wX7 g qM AM (q_pt σM_26 11 r_25) ℓM) := hD
  rw [e_30] at hP hD
  refine lv_aload_n hx hb dX7_passAll_60 rfl (lv_at hl 0 rfl) ?_
  refine lv_aload_n hx hb dX7_passAll_61 rfl (lv_at hl 0 rfl) ?_
  refine va_get (D := g.1) (ci := 7) (v := .ref (AM 0)) (C := RX7) (T := TX7) (N := 34) hx hb hts hi7 hown hK hP 0 rfl rfl 0 (by decide) (hts (.fieldLink RX7 7 "PanTalesModel" "roads" "[I") (by decide +kernel)) (fun _ h9 => h9) rfl dX7_passAll_62 ?_
  refine lv_bipush (v := 121) hx hb dX7_passAll_65 (by decide) ?_
  obtain ⟨σM_31, h_32, hF⟩ := q_cl_s hF
  refine gcV_v (As := [.ref (AM 0), .int 121]) (rest := []) (ci := 7) (q := (RX7, TX7, 34)) F hK hN hP hD hS hA (m_X7_passRow_0 l g H.size qM AM σM_29 ℓM (121 : Int32) σM_31 h_32) gX7_passAll_X7_passRow kX7_passRow rfl rfl rfl rfl ⟨(Nat.le_of_ble_eq_true rfl), (Nat.le_of_ble_eq_true rfl)⟩ [0, 1, 2, 3, 4, 5, 6, 7, 8, 9, 10, 11, 12, 13, 14, 15, 16, 17, 18, 19, 20] [] rfl rfl rfl (by decide) rfl rfl rfl rfl rfl hl.1 (Nat.le_of_ble_eq_true rfl) dX7_passAll_67 ⟨(Nat.le_of_ble_eq_true rfl), (Nat.le_of_ble_eq_true rfl)⟩ (fun u_w H locs hw hP hD hS => ?_)
  have hP : va_P g.1 vwCl (wX7 g qM AM σM_31 ℓM) H := hP
  have hD : va_D Z (wX7 g qM AM σM_31 ℓM) := hD
  refine lv_aload_n hx hb dX7_passAll_70 rfl (lv_at hl 0 rfl) ?_
  refine lv_aload_n hx hb dX7_passAll_71 rfl (lv_at hl 0 rfl) ?_
  refine va_get (D := g.1) (ci := 7) (v := .ref (AM 1)) (C := RX7) (T := TX7) (N := 34) hx hb hts hi7 hown hK hP 0 rfl rfl 1 (by decide) (hts (.fieldLink RX7 13 "PanTalesModel" "doubt" "[I") (by decide +kernel)) (fun _ h9 => h9) rfl dX7_passAll_72 ?_
  refine lv_bipush (v := 10) hx hb dX7_passAll_75 (by decide) ?_
  obtain ⟨σM_33, h_34, hF⟩ := q_cl_s hF
  refine gcV_v (As := [.ref (AM 1), .int 10]) (rest := []) (ci := 7) (q := (RX7, TX7, 34)) F hK hN hP hD hS hA (m_X7_passRow_1 l g H.size qM AM σM_31 ℓM (10 : Int32) σM_33 h_34) gX7_passAll_X7_passRow kX7_passRow rfl rfl rfl rfl ⟨(Nat.le_of_ble_eq_true rfl), (Nat.le_of_ble_eq_true rfl)⟩ [0, 1, 2, 3, 4, 5, 6, 7, 8, 9, 10, 11, 12, 13, 14, 15, 16, 17, 18, 19, 20] [] rfl rfl rfl (by decide) rfl rfl rfl rfl rfl hl.1 (Nat.le_of_ble_eq_true rfl) dX7_passAll_77 ⟨(Nat.le_of_ble_eq_true rfl), (Nat.le_of_ble_eq_true rfl)⟩ (fun u_w H locs hw hP hD hS => ?_)
  have hP : va_P g.1 vwCl (wX7 g qM AM σM_33 ℓM) H := hP
  have hD : va_D Z (wX7 g qM AM σM_33 ℓM) := hD
  refine lv_aload_n hx hb dX7_passAll_80 rfl (lv_at hl 0 rfl) ?_
  refine lv_aload_n hx hb dX7_passAll_81 rfl (lv_at hl 0 rfl) ?_
  refine va_get (D := g.1) (ci := 7) (v := .ref (AM 2)) (C := RX7) (T := TX7) (N := 34) hx hb hts hi7 hown hK hP 0 rfl rfl 2 (by decide) (hts (.fieldLink RX7 16 "PanTalesModel" "damp" "[I") (by decide +kernel)) (fun _ h9 => h9) rfl dX7_passAll_82 ?_
  refine lv_bipush (v := 10) hx hb dX7_passAll_85 (by decide) ?_
  obtain ⟨σM_35, h_36, hF⟩ := q_cl_s hF
  refine gcV_v (As := [.ref (AM 2), .int 10]) (rest := []) (ci := 7) (q := (RX7, TX7, 34)) F hK hN hP hD hS hA (m_X7_passRow_2 l g H.size qM AM σM_33 ℓM (10 : Int32) σM_35 h_36) gX7_passAll_X7_passRow kX7_passRow rfl rfl rfl rfl ⟨(Nat.le_of_ble_eq_true rfl), (Nat.le_of_ble_eq_true rfl)⟩ [0, 1, 2, 3, 4, 5, 6, 7, 8, 9, 10, 11, 12, 13, 14, 15, 16, 17, 18, 19, 20] [] rfl rfl rfl (by decide) rfl rfl rfl rfl rfl hl.1 (Nat.le_of_ble_eq_true rfl) dX7_passAll_87 ⟨(Nat.le_of_ble_eq_true rfl), (Nat.le_of_ble_eq_true rfl)⟩ (fun u_w H locs hw hP hD hS => ?_)
  have hP : va_P g.1 vwCl (wX7 g qM AM σM_35 ℓM) H := hP
  have hD : va_D Z (wX7 g qM AM σM_35 ℓM) := hD
  refine lv_aload_n hx hb dX7_passAll_90 rfl (lv_at hl 0 rfl) ?_
  refine lv_aload_n hx hb dX7_passAll_91 rfl (lv_at hl 0 rfl) ?_
  refine va_get (D := g.1) (ci := 7) (v := .ref (AM 3)) (C := RX7) (T := TX7) (N := 34) hx hb hts hi7 hown hK hP 0 rfl rfl 3 (by decide) (hts (.fieldLink RX7 19 "PanTalesModel" "believes" "[I") (by decide +kernel)) (fun _ h9 => h9) rfl dX7_passAll_92 ?_
  refine lv_bipush (v := 10) hx hb dX7_passAll_95 (by decide) ?_
  obtain ⟨σM_37, h_38, hF⟩ := q_cl_s hF
  refine gcV_v (As := [.ref (AM 3), .int 10]) (rest := []) (ci := 7) (q := (RX7, TX7, 34)) F hK hN hP hD hS hA (m_X7_passRow_3 l g H.size qM AM σM_35 ℓM (10 : Int32) σM_37 h_38) gX7_passAll_X7_passRow kX7_passRow rfl rfl rfl rfl ⟨(Nat.le_of_ble_eq_true rfl), (Nat.le_of_ble_eq_true rfl)⟩ [0, 1, 2, 3, 4, 5, 6, 7, 8, 9, 10, 11, 12, 13, 14, 15, 16, 17, 18, 19, 20] [] rfl rfl rfl (by decide) rfl rfl rfl rfl rfl hl.1 (Nat.le_of_ble_eq_true rfl) dX7_passAll_97 ⟨(Nat.le_of_ble_eq_true rfl), (Nat.le_of_ble_eq_true rfl)⟩ (fun u_w H locs hw hP hD hS => ?_)
  have hP : va_P g.1 vwCl (wX7 g qM AM σM_37 ℓM) H := hP
  have hD : va_D Z (wX7 g qM AM σM_37 ℓM) := hD
  refine lv_aload_n hx hb dX7_passAll_100 rfl (lv_at hl 0 rfl) ?_
  refine lv_aload_n hx hb dX7_passAll_101 rfl (lv_at hl 0 rfl) ?_
  refine va_get (D := g.1) (ci := 7) (v := .ref (AM 4)) (C := RX7) (T := TX7) (N := 34) hx hb hts hi7 hown hK hP 0 rfl rfl 4 (by decide) (hts (.fieldLink RX7 22 "PanTalesModel" "fades" "[I") (by decide +kernel)) (fun _ h9 => h9) rfl dX7_passAll_102 ?_
  refine lv_bipush (v := 10) hx hb dX7_passAll_105 (by decide) ?_
  obtain ⟨σM_39, h_40, hF⟩ := q_cl_s hF
  refine gcV_v (As := [.ref (AM 4), .int 10]) (rest := []) (ci := 7) (q := (RX7, TX7, 34)) F hK hN hP hD hS hA (m_X7_passRow_4 l g H.size qM AM σM_37 ℓM (10 : Int32) σM_39 h_40) gX7_passAll_X7_passRow kX7_passRow rfl rfl rfl rfl ⟨(Nat.le_of_ble_eq_true rfl), (Nat.le_of_ble_eq_true rfl)⟩ [0, 1, 2, 3, 4, 5, 6, 7, 8, 9, 10, 11, 12, 13, 14, 15, 16, 17, 18, 19, 20] [] rfl rfl rfl (by decide) rfl rfl rfl rfl rfl hl.1 (Nat.le_of_ble_eq_true rfl) dX7_passAll_107 ⟨(Nat.le_of_ble_eq_true rfl), (Nat.le_of_ble_eq_true rfl)⟩ (fun u_w H locs hw hP hD hS => ?_)
  have hP : va_P g.1 vwCl (wX7 g qM AM σM_39 ℓM) H := hP
  have hD : va_D Z (wX7 g qM AM σM_39 ℓM) := hD
  refine lv_aload_n hx hb dX7_passAll_110 rfl (lv_at hl 0 rfl) ?_
  refine lv_aload_n hx hb dX7_passAll_111 rfl (lv_at hl 0 rfl) ?_
  refine va_get (D := g.1) (ci := 7) (v := .ref (AM 9)) (C := RX7) (T := TX7) (N := 34) hx hb hts hi7 hown hK hP 0 rfl rfl 9 (by decide) (hts (.fieldLink RX7 25 "PanTalesModel" "sightBed" "[I") (by decide +kernel)) (fun _ h9 => h9) rfl dX7_passAll_112 ?_
  refine lv_bipush (v := 8) hx hb dX7_passAll_115 (by decide) ?_
  obtain ⟨σM_41, h_42, hF⟩ := q_cl_s hF
  refine gcV_v (As := [.ref (AM 9), .int 8]) (rest := []) (ci := 7) (q := (RX7, TX7, 34)) F hK hN hP hD hS hA (m_X7_passRow_9 l g H.size qM AM σM_39 ℓM (8 : Int32) σM_41 h_42) gX7_passAll_X7_passRow kX7_passRow rfl rfl rfl rfl ⟨(Nat.le_of_ble_eq_true rfl), (Nat.le_of_ble_eq_true rfl)⟩ [0, 1, 2, 3, 4, 5, 6, 7, 8, 9, 10, 11, 12, 13, 14, 15, 16, 17, 18, 19, 20] [] rfl rfl rfl (by decide) rfl rfl rfl rfl rfl hl.1 (Nat.le_of_ble_eq_true rfl) dX7_passAll_117 ⟨(Nat.le_of_ble_eq_true rfl), (Nat.le_of_ble_eq_true rfl)⟩ (fun u_w H locs hw hP hD hS => ?_)
  have hP : va_P g.1 vwCl (wX7 g qM AM σM_41 ℓM) H := hP
  have hD : va_D Z (wX7 g qM AM σM_41 ℓM) := hD
  refine lv_aload_n hx hb dX7_passAll_120 rfl (lv_at hl 0 rfl) ?_
  refine lv_aload_n hx hb dX7_passAll_121 rfl (lv_at hl 0 rfl) ?_
  refine va_get (D := g.1) (ci := 7) (v := .ref (AM 10)) (C := RX7) (T := TX7) (N := 34) hx hb hts hi7 hown hK hP 0 rfl rfl 10 (by decide) (hts (.fieldLink RX7 28 "PanTalesModel" "sightTale" "[I") (by decide +kernel)) (fun _ h9 => h9) rfl dX7_passAll_122 ?_
  refine lv_bipush (v := 8) hx hb dX7_passAll_125 (by decide) ?_
  obtain ⟨σM_43, h_44, hF⟩ := q_cl_s hF
  refine gcV_v (As := [.ref (AM 10), .int 8]) (rest := []) (ci := 7) (q := (RX7, TX7, 34)) F hK hN hP hD hS hA (m_X7_passRow_10 l g H.size qM AM σM_41 ℓM (8 : Int32) σM_43 h_44) gX7_passAll_X7_passRow kX7_passRow rfl rfl rfl rfl ⟨(Nat.le_of_ble_eq_true rfl), (Nat.le_of_ble_eq_true rfl)⟩ [0, 1, 2, 3, 4, 5, 6, 7, 8, 9, 10, 11, 12, 13, 14, 15, 16, 17, 18, 19, 20] [] rfl rfl rfl (by decide) rfl rfl rfl rfl rfl hl.1 (Nat.le_of_ble_eq_true rfl) dX7_passAll_127 ⟨(Nat.le_of_ble_eq_true rfl), (Nat.le_of_ble_eq_true rfl)⟩ (fun u_w H locs hw hP hD hS => ?_)
  have hP : va_P g.1 vwCl (wX7 g qM AM σM_43 ℓM) H := hP
  have hD : va_D Z (wX7 g qM AM σM_43 ℓM) := hD
  cases hF
  exact r_vret hx hb hr hlk hS () trivial hP hD dX7_passAll_130
set_option maxHeartbeats 4000000 in
set_option maxRecDepth 100000 in
theorem m_X7_image (l : Launch) (g : GT) (sz : Nat) (qM : Nat) (AM : Nat → Nat) (σM : qS) (ℓM : qL) (a1 : Int32) (rr : Int32) (σM' : qS) (hF : f_X7_image σM ℓM a1 = some (rr, σM')) : Ci l yX7_image wsX7_image { frames := 3, cells := 0, slots := 0, locals := 65 } g sz [.ref qM, .int a1] (wX7 g qM AM σM ℓM) rr (wX7 g qM AM σM' ℓM) := by
  refine gMet_i (cc := cX7_image) (maxL := 2) (ret := (some .int)) (by decide) rfl (Nat.le_of_ble_eq_true rfl) ?_
  intro p e s m args below meth c Z hx hb hr F hlk hnm hK hN hA H locs hP hD hS ls hl
  have hl : lv_has ls 2 [(0, .ref qM), (1, .int a1)] := hl
  have F : CallFix p m c cX7_image 2 s args wsX7_image RX7 := F
  have hts := F.2.2.2.2
  have hown : s.vm.findClass RX7 = some m.cls := F.2.2.2.1
  have hi7 : ∀ w ∈ u_ws RX7 TX7 34, w ∈ wsX7_image := by decide +kernel
  dsimp only [f_X7_image] at hF
  refine lv_iload_n hx hb dX7_image_0 rfl (lv_at hl 1 rfl) ?_
  refine lv_i2l (v := a1.toInt64) hx hb dX7_image_1 rfl ?_
  refine lv_lconst (v := 0) hx hb dX7_image_2 (by decide) ?_
  refine lv_lconst (v := 1) hx hb dX7_image_3 (by decide) ?_
  obtain ⟨r_1, h_2, hF⟩ := q_cl_s hF
  refine gcP (As := [.long a1.toInt64, .long 0, .long 1]) (rest := []) F (m_X7_in l a1.toInt64 (0 : Int64) (1 : Int64) r_1 h_2) gX7_image_X7_in kX7_in rfl rfl rfl ⟨(Nat.le_of_ble_eq_true rfl), (Nat.le_of_ble_eq_true rfl)⟩ rfl rfl hl.1 (Nat.le_of_ble_eq_true rfl) dX7_image_4 ⟨(Nat.le_of_ble_eq_true rfl), (Nat.le_of_ble_eq_true rfl)⟩ ?_
  refine lv_if_ne (tgt := 13) hx hb dX7_image_7 (by decide) (fun c_3 => ?_) (fun c_3 => ?_)
  · have hF := q_if_f c_3 hF
    refine lv_aload_n hx hb dX7_image_13 rfl (lv_at hl 0 rfl) ?_
    refine lv_sipush (v := 200) hx hb dX7_image_14 (by decide) ?_
    refine lv_iload_n hx hb dX7_image_17 rfl (lv_at hl 1 rfl) ?_
    refine lv_imul hx hb dX7_image_18 ?_
    obtain ⟨σM_4, e_5, hF⟩ := q_bd_s hF
    refine va_put (D := g.1) (ci := 7) (v := .int ((200 : Int32) * a1)) (ty := .int) (C := RX7) (T := TX7) (N := 34) hx hb hts hi7 tyX7 tyX7_ok nmX7 hown hK hP hD hS 0 rfl rfl 32 (by decide) (hts (.fieldLink RX7 295 "PanTalesModel" "keptAt" "I") (by decide +kernel)) (fun _ h9 => h9) rfl (by decide +kernel) rfl rfl (Nat.le_of_ble_eq_true rfl) dX7_image_19 (fun H locs hP hD hS => ?_)
    have hP : va_P g.1 vwCl (wX7 g qM AM (q_pt σM 32 ((200 : Int32) * a1)) ℓM) H := hP
    have hD : va_D Z (wX7 g qM AM (q_pt σM 32 ((200 : Int32) * a1)) ℓM) := hD
    rw [e_5] at hP hD
    refine lv_aload_n hx hb dX7_image_22 rfl (lv_at hl 0 rfl) ?_
    refine lv_iconst (v := 1) hx hb dX7_image_23 (by decide) ?_
    obtain ⟨σM_6, e_7, hF⟩ := q_bd_s hF
    refine va_put (D := g.1) (ci := 7) (v := .int 1) (ty := .boolean) (C := RX7) (T := TX7) (N := 34) hx hb hts hi7 tyX7 tyX7_ok nmX7 hown hK hP hD hS 0 rfl rfl 33 (by decide) (hts (.fieldLink RX7 291 "PanTalesModel" "isWriting" "Z") (by decide +kernel)) (fun _ h9 => h9) rfl (by decide +kernel) (by decide) (by decide) (Nat.le_of_ble_eq_true rfl) dX7_image_24 (fun H locs hP hD hS => ?_)
    have hP : va_P g.1 vwCl (wX7 g qM AM (q_pt σM_4 33 (1 : Int32)) ℓM) H := hP
    have hD : va_D Z (wX7 g qM AM (q_pt σM_4 33 (1 : Int32)) ℓM) := hD
    rw [e_7] at hP hD
    refine lv_aload_n hx hb dX7_image_27 rfl (lv_at hl 0 rfl) ?_
    obtain ⟨σM_8, h_9, hF⟩ := q_cl_s hF
    refine gcV_v (As := []) (rest := []) (ci := 7) (q := (RX7, TX7, 34)) F hK hN hP hD hS hA (m_X7_passAll l g H.size qM AM σM_6 ℓM σM_8 h_9) gX7_image_X7_passAll kX7_passAll rfl rfl rfl rfl ⟨(Nat.le_of_ble_eq_true rfl), (Nat.le_of_ble_eq_true rfl)⟩ [0, 1, 2, 3, 4, 5, 6, 7, 8, 9, 10, 11, 12, 13, 14, 15, 16, 17, 18, 19, 20] [] rfl rfl rfl (by decide) rfl rfl rfl rfl rfl hl.1 (Nat.le_of_ble_eq_true rfl) dX7_image_28 ⟨(Nat.le_of_ble_eq_true rfl), (Nat.le_of_ble_eq_true rfl)⟩ (fun u_w H locs hw hP hD hS => ?_)
    have hP : va_P g.1 vwCl (wX7 g qM AM σM_8 ℓM) H := hP
    have hD : va_D Z (wX7 g qM AM σM_8 ℓM) := hD
    refine lv_aload_n hx hb dX7_image_31 rfl (lv_at hl 0 rfl) ?_
    refine va_get (D := g.1) (ci := 7) (v := .ref (AM 31)) (C := RX7) (T := TX7) (N := 34) hx hb hts hi7 hown hK hP 0 rfl rfl 31 (by decide) (hts (.fieldLink RX7 69 "PanTalesModel" "isKeptImage" "[Z") (by decide +kernel)) (fun _ h9 => h9) rfl dX7_image_32 ?_
    refine lv_iload_n hx hb dX7_image_35 rfl (lv_at hl 1 rfl) ?_
    refine lv_iconst (v := 1) hx hb dX7_image_36 (by decide) ?_
    obtain ⟨σM_10, i_11, e_12, hF⟩ := q_wrZ_s hF
    refine r_zast (f' := upd (σM_8 31) a1.toNatClampNeg (vp_nar .boolean (1 : Int32))) hx hb hK hP hD hS 20 rfl i_11 (fun _ _ => rfl) dX7_image_37 (fun H locs hP hD hS => ?_)
    have hP : va_P g.1 vwCl (wX7 g qM AM (q_up σM_8 31 (upd (σM_8 31) a1.toNatClampNeg (vp_nar .boolean (1 : Int32)))) ℓM) H := hP
    have hD : va_D Z (wX7 g qM AM (q_up σM_8 31 (upd (σM_8 31) a1.toNatClampNeg (vp_nar .boolean (1 : Int32)))) ℓM) := hD
    rw [e_12] at hP hD
    refine lv_iconst (v := 1) hx hb dX7_image_38 (by decide) ?_
    cases hF
    exact r_iret hx hb hr hlk hS () rfl hP hD dX7_image_39
  · have hF := q_if_t (by first | exact c_3 | exact Classical.not_not.mp c_3) hF
    refine lv_bipush (v := (-2)) hx hb dX7_image_10 (by decide) ?_
    cases hF
    exact r_iret hx hb hr hlk hS () rfl hP hD dX7_image_12
set_option maxHeartbeats 4000000 in
set_option maxRecDepth 100000 in
theorem m_X7_restore (l : Launch) (g : GT) (sz : Nat) (qM : Nat) (AM : Nat → Nat) (σM : qS) (ℓM : qL) (a1 : Int32) (rr : Int32) (σM' : qS) (hF : f_X7_restore σM ℓM a1 = some (rr, σM')) : Ci l yX7_restore wsX7_restore { frames := 3, cells := 0, slots := 0, locals := 65 } g sz [.ref qM, .int a1] (wX7 g qM AM σM ℓM) rr (wX7 g qM AM σM' ℓM) := by
  refine gMet_i (cc := cX7_restore) (maxL := 2) (ret := (some .int)) (by decide) rfl (Nat.le_of_ble_eq_true rfl) ?_
  intro p e s m args below meth c Z hx hb hr F hlk hnm hK hN hA H locs hP hD hS ls hl
  have hl : lv_has ls 2 [(0, .ref qM), (1, .int a1)] := hl
  have F : CallFix p m c cX7_restore 2 s args wsX7_restore RX7 := F
  have hts := F.2.2.2.2
  have hown : s.vm.findClass RX7 = some m.cls := F.2.2.2.1
  have hi7 : ∀ w ∈ u_ws RX7 TX7 34, w ∈ wsX7_restore := by decide +kernel
  dsimp only [f_X7_restore] at hF
  refine lv_iload_n hx hb dX7_restore_0 rfl (lv_at hl 1 rfl) ?_
  refine lv_i2l (v := a1.toInt64) hx hb dX7_restore_1 rfl ?_
  refine lv_lconst (v := 0) hx hb dX7_restore_2 (by decide) ?_
  refine lv_lconst (v := 1) hx hb dX7_restore_3 (by decide) ?_
  obtain ⟨r_1, h_2, hF⟩ := q_cl_s hF
  refine gcP (As := [.long a1.toInt64, .long 0, .long 1]) (rest := []) F (m_X7_in l a1.toInt64 (0 : Int64) (1 : Int64) r_1 h_2) gX7_restore_X7_in kX7_in rfl rfl rfl ⟨(Nat.le_of_ble_eq_true rfl), (Nat.le_of_ble_eq_true rfl)⟩ rfl rfl hl.1 (Nat.le_of_ble_eq_true rfl) dX7_restore_4 ⟨(Nat.le_of_ble_eq_true rfl), (Nat.le_of_ble_eq_true rfl)⟩ ?_
  refine lv_if_ne (tgt := 13) hx hb dX7_restore_7 (by decide) (fun c_3 => ?_) (fun c_3 => ?_)
  · have hF := q_if_f c_3 hF
    refine lv_aload_n hx hb dX7_restore_13 rfl (lv_at hl 0 rfl) ?_
    refine va_get (D := g.1) (ci := 7) (v := .ref (AM 31)) (C := RX7) (T := TX7) (N := 34) hx hb hts hi7 hown hK hP 0 rfl rfl 31 (by decide) (hts (.fieldLink RX7 69 "PanTalesModel" "isKeptImage" "[Z") (by decide +kernel)) (fun _ h9 => h9) rfl dX7_restore_14 ?_
    refine lv_iload_n hx hb dX7_restore_17 rfl (lv_at hl 1 rfl) ?_
    obtain ⟨r_4, i_5, e_6, hF⟩ := q_rd_s hF
    refine r_zald (v := r_4) hx hb hK hP 20 rfl i_5 e_6 dX7_restore_18 ?_
    refine lv_if_ne (tgt := 25) hx hb dX7_restore_19 (by decide) (fun c_7 => ?_) (fun c_7 => ?_)
    · have hF := q_if_f c_7 hF
      refine lv_aload_n hx hb dX7_restore_25 rfl (lv_at hl 0 rfl) ?_
      refine lv_sipush (v := 200) hx hb dX7_restore_26 (by decide) ?_
      refine lv_iload_n hx hb dX7_restore_29 rfl (lv_at hl 1 rfl) ?_
      refine lv_imul hx hb dX7_restore_30 ?_
      obtain ⟨σM_8, e_9, hF⟩ := q_bd_s hF
      refine va_put (D := g.1) (ci := 7) (v := .int ((200 : Int32) * a1)) (ty := .int) (C := RX7) (T := TX7) (N := 34) hx hb hts hi7 tyX7 tyX7_ok nmX7 hown hK hP hD hS 0 rfl rfl 32 (by decide) (hts (.fieldLink RX7 295 "PanTalesModel" "keptAt" "I") (by decide +kernel)) (fun _ h9 => h9) rfl (by decide +kernel) rfl rfl (Nat.le_of_ble_eq_true rfl) dX7_restore_31 (fun H locs hP hD hS => ?_)
      have hP : va_P g.1 vwCl (wX7 g qM AM (q_pt σM 32 ((200 : Int32) * a1)) ℓM) H := hP
      have hD : va_D Z (wX7 g qM AM (q_pt σM 32 ((200 : Int32) * a1)) ℓM) := hD
      rw [e_9] at hP hD
      refine lv_aload_n hx hb dX7_restore_34 rfl (lv_at hl 0 rfl) ?_
      refine lv_iconst (v := 0) hx hb dX7_restore_35 (by decide) ?_
      obtain ⟨σM_10, e_11, hF⟩ := q_bd_s hF
      refine va_put (D := g.1) (ci := 7) (v := .int 0) (ty := .boolean) (C := RX7) (T := TX7) (N := 34) hx hb hts hi7 tyX7 tyX7_ok nmX7 hown hK hP hD hS 0 rfl rfl 33 (by decide) (hts (.fieldLink RX7 291 "PanTalesModel" "isWriting" "Z") (by decide +kernel)) (fun _ h9 => h9) rfl (by decide +kernel) (by decide) (by decide) (Nat.le_of_ble_eq_true rfl) dX7_restore_36 (fun H locs hP hD hS => ?_)
      have hP : va_P g.1 vwCl (wX7 g qM AM (q_pt σM_8 33 (0 : Int32)) ℓM) H := hP
      have hD : va_D Z (wX7 g qM AM (q_pt σM_8 33 (0 : Int32)) ℓM) := hD
      rw [e_11] at hP hD
      refine lv_aload_n hx hb dX7_restore_39 rfl (lv_at hl 0 rfl) ?_
      obtain ⟨σM_12, h_13, hF⟩ := q_cl_s hF
      refine gcV_v (As := []) (rest := []) (ci := 7) (q := (RX7, TX7, 34)) F hK hN hP hD hS hA (m_X7_passAll l g H.size qM AM σM_10 ℓM σM_12 h_13) gX7_restore_X7_passAll kX7_passAll rfl rfl rfl rfl ⟨(Nat.le_of_ble_eq_true rfl), (Nat.le_of_ble_eq_true rfl)⟩ [0, 1, 2, 3, 4, 5, 6, 7, 8, 9, 10, 11, 12, 13, 14, 15, 16, 17, 18, 19, 20] [] rfl rfl rfl (by decide) rfl rfl rfl rfl rfl hl.1 (Nat.le_of_ble_eq_true rfl) dX7_restore_40 ⟨(Nat.le_of_ble_eq_true rfl), (Nat.le_of_ble_eq_true rfl)⟩ (fun u_w H locs hw hP hD hS => ?_)
      have hP : va_P g.1 vwCl (wX7 g qM AM σM_12 ℓM) H := hP
      have hD : va_D Z (wX7 g qM AM σM_12 ℓM) := hD
      refine lv_iconst (v := 1) hx hb dX7_restore_43 (by decide) ?_
      cases hF
      exact r_iret hx hb hr hlk hS () rfl hP hD dX7_restore_44
    · have hF := q_if_t (by first | exact c_7 | exact Classical.not_not.mp c_7) hF
      refine lv_bipush (v := (-3)) hx hb dX7_restore_22 (by decide) ?_
      cases hF
      exact r_iret hx hb hr hlk hS () rfl hP hD dX7_restore_24
  · have hF := q_if_t (by first | exact c_3 | exact Classical.not_not.mp c_3) hF
    refine lv_bipush (v := (-2)) hx hb dX7_restore_10 (by decide) ?_
    cases hF
    exact r_iret hx hb hr hlk hS () rfl hP hD dX7_restore_12
set_option maxHeartbeats 4000000 in
set_option maxRecDepth 100000 in
theorem m_X7_told (l : Launch) (g : GT) (sz : Nat) (qM : Nat) (AM : Nat → Nat) (σM : qS) (ℓM : qL) (a1 : Int32) (rr : Int32) (hF : f_X7_told σM ℓM a1 = some rr) : Ci l yX7_told wsX7_told { frames := 2, cells := 0, slots := 0, locals := 45 } g sz [.ref qM, .int a1] (wX7 g qM AM σM ℓM) rr (wX7 g qM AM σM ℓM) := by
  refine gMet_i (cc := cX7_told) (maxL := 4) (ret := (some .int)) (by decide) rfl (Nat.le_of_ble_eq_true rfl) ?_
  intro p e s m args below meth c Z hx hb hr F hlk hnm hK hN hA H locs hP hD hS ls hl
  have hl : lv_has ls 4 [(0, .ref qM), (1, .int a1)] := hl
  have F : CallFix p m c cX7_told 4 s args wsX7_told RX7 := F
  have hts := F.2.2.2.2
  have hown : s.vm.findClass RX7 = some m.cls := F.2.2.2.1
  have hi7 : ∀ w ∈ u_ws RX7 TX7 34, w ∈ wsX7_told := by decide +kernel
  dsimp only [f_X7_told] at hF
  refine lv_iload_n hx hb dX7_told_0 rfl (lv_at hl 1 rfl) ?_
  refine lv_i2l (v := a1.toInt64) hx hb dX7_told_1 rfl ?_
  refine lv_ldc2 (v := 1000) hx hb hown (hts (.constantLong RX7 308 (1000)) (by decide +kernel)) dX7_told_2 ?_
  refine lv_ldc2 (v := 1219) hx hb hown (hts (.constantLong RX7 310 (1219)) (by decide +kernel)) dX7_told_5 ?_
  obtain ⟨r_1, h_2, hF⟩ := q_cl_s hF
  refine gcP (As := [.long a1.toInt64, .long 1000, .long 1219]) (rest := []) F (m_X7_in l a1.toInt64 (1000 : Int64) (1219 : Int64) r_1 h_2) gX7_told_X7_in kX7_in rfl rfl rfl ⟨(Nat.le_of_ble_eq_true rfl), (Nat.le_of_ble_eq_true rfl)⟩ rfl rfl hl.1 (Nat.le_of_ble_eq_true rfl) dX7_told_8 ⟨(Nat.le_of_ble_eq_true rfl), (Nat.le_of_ble_eq_true rfl)⟩ ?_
  refine lv_if_eq (tgt := 56) hx hb dX7_told_11 (by decide) (fun c_3 => ?_) (fun c_3 => ?_)
  · have hF := q_if_t c_3 hF
    refine lv_iload_n hx hb dX7_told_56 rfl (lv_at hl 1 rfl) ?_
    refine lv_i2l (v := a1.toInt64) hx hb dX7_told_57 rfl ?_
    refine lv_ldc2 (v := 100) hx hb hown (hts (.constantLong RX7 312 (100)) (by decide +kernel)) dX7_told_58 ?_
    refine lv_ldc2 (v := 199) hx hb hown (hts (.constantLong RX7 314 (199)) (by decide +kernel)) dX7_told_61 ?_
    obtain ⟨r_4, h_5, hF⟩ := q_cl_s hF
    refine gcP (As := [.long a1.toInt64, .long 100, .long 199]) (rest := []) F (m_X7_in l a1.toInt64 (100 : Int64) (199 : Int64) r_4 h_5) gX7_told_X7_in kX7_in rfl rfl rfl ⟨(Nat.le_of_ble_eq_true rfl), (Nat.le_of_ble_eq_true rfl)⟩ rfl rfl hl.1 (Nat.le_of_ble_eq_true rfl) dX7_told_64 ⟨(Nat.le_of_ble_eq_true rfl), (Nat.le_of_ble_eq_true rfl)⟩ ?_
    refine lv_if_eq (tgt := 99) hx hb dX7_told_67 (by decide) (fun c_6 => ?_) (fun c_6 => ?_)
    · have hF := q_if_t c_6 hF
      refine lv_iload_n hx hb dX7_told_99 rfl (lv_at hl 1 rfl) ?_
      refine lv_i2l (v := a1.toInt64) hx hb dX7_told_100 rfl ?_
      refine lv_ldc2 (v := 10) hx hb hown (hts (.constantLong RX7 82 (10)) (by decide +kernel)) dX7_told_101 ?_
      refine lv_ldc2 (v := 19) hx hb hown (hts (.constantLong RX7 316 (19)) (by decide +kernel)) dX7_told_104 ?_
      obtain ⟨r_7, h_8, hF⟩ := q_cl_s hF
      refine gcP (As := [.long a1.toInt64, .long 10, .long 19]) (rest := []) F (m_X7_in l a1.toInt64 (10 : Int64) (19 : Int64) r_7 h_8) gX7_told_X7_in kX7_in rfl rfl rfl ⟨(Nat.le_of_ble_eq_true rfl), (Nat.le_of_ble_eq_true rfl)⟩ rfl rfl hl.1 (Nat.le_of_ble_eq_true rfl) dX7_told_107 ⟨(Nat.le_of_ble_eq_true rfl), (Nat.le_of_ble_eq_true rfl)⟩ ?_
      refine lv_if_eq (tgt := 123) hx hb dX7_told_110 (by decide) (fun c_9 => ?_) (fun c_9 => ?_)
      · have hF := q_if_t c_9 hF
        refine lv_iload_n hx hb dX7_told_123 rfl (lv_at hl 1 rfl) ?_
        by_cases k_10 : a1 = 0
        · have hF := q_if_t k_10 hF
          refine gtop (y := 0) k_10 ?_
          refine lv_tableIn (tgt := 164) (off := 40) hx hb dX7_told_124 (by decide) (by decide) rfl (by decide) ?_
          refine lv_aload_n hx hb dX7_told_164 rfl (lv_at hl 0 rfl) ?_
          refine va_get (D := g.1) (ci := 7) (v := .int (σM 99 13)) (C := RX7) (T := TX7) (N := 34) hx hb hts hi7 hown hK hP 0 rfl rfl 13 (by decide) (hts (.fieldLink RX7 100 "PanTalesModel" "padMany" "I") (by decide +kernel)) (fun _ h9 => h9) rfl dX7_told_165 ?_
          cases hF
          exact r_iret hx hb hr hlk hS () rfl hP hD dX7_told_168
        have hF := q_if_f k_10 hF
        by_cases k_11 : a1 = 1
        · have hF := q_if_t k_11 hF
          refine gtop (y := 1) k_11 ?_
          refine lv_tableIn (tgt := 169) (off := 45) hx hb dX7_told_124 (by decide) (by decide) rfl (by decide) ?_
          refine lv_aload_n hx hb dX7_told_169 rfl (lv_at hl 0 rfl) ?_
          refine va_get (D := g.1) (ci := 7) (v := .int (σM 99 5)) (C := RX7) (T := TX7) (N := 34) hx hb hts hi7 hown hK hP 0 rfl rfl 5 (by decide) (hts (.fieldLink RX7 72 "PanTalesModel" "panPlace" "I") (by decide +kernel)) (fun _ h9 => h9) rfl dX7_told_170 ?_
          cases hF
          exact r_iret hx hb hr hlk hS () rfl hP hD dX7_told_173
        have hF := q_if_f k_11 hF
        by_cases k_12 : a1 = 2
        · have hF := q_if_t k_12 hF
          refine gtop (y := 2) k_12 ?_
          refine lv_tableIn (tgt := 174) (off := 50) hx hb dX7_told_124 (by decide) (by decide) rfl (by decide) ?_
          refine lv_aload_n hx hb dX7_told_174 rfl (lv_at hl 0 rfl) ?_
          refine va_get (D := g.1) (ci := 7) (v := .int (σM 99 6)) (C := RX7) (T := TX7) (N := 34) hx hb hts hi7 hown hK hP 0 rfl rfl 6 (by decide) (hts (.fieldLink RX7 127 "PanTalesModel" "heat" "I") (by decide +kernel)) (fun _ h9 => h9) rfl dX7_told_175 ?_
          cases hF
          exact r_iret hx hb hr hlk hS () rfl hP hD dX7_told_178
        have hF := q_if_f k_12 hF
        by_cases k_13 : a1 = 3
        · have hF := q_if_t k_13 hF
          refine gtop (y := 3) k_13 ?_
          refine lv_tableIn (tgt := 179) (off := 55) hx hb dX7_told_124 (by decide) (by decide) rfl (by decide) ?_
          refine lv_aload_n hx hb dX7_told_179 rfl (lv_at hl 0 rfl) ?_
          refine va_get (D := g.1) (ci := 7) (v := .int (σM 99 7)) (C := RX7) (T := TX7) (N := 34) hx hb hts hi7 hown hK hP 0 rfl rfl 7 (by decide) (hts (.fieldLink RX7 136 "PanTalesModel" "panTale" "I") (by decide +kernel)) (fun _ h9 => h9) rfl dX7_told_180 ?_
          cases hF
          exact r_iret hx hb hr hlk hS () rfl hP hD dX7_told_183
        have hF := q_if_f k_13 hF
        by_cases k_14 : a1 = 4
        · have hF := q_if_t k_14 hF
          refine gtop (y := 4) k_14 ?_
          refine lv_tableIn (tgt := 184) (off := 60) hx hb dX7_told_124 (by decide) (by decide) rfl (by decide) ?_
          refine lv_aload_n hx hb dX7_told_184 rfl (lv_at hl 0 rfl) ?_
          refine va_get (D := g.1) (ci := 7) (v := .int (σM 99 8)) (C := RX7) (T := TX7) (N := 34) hx hb hts hi7 hown hK hP 0 rfl rfl 8 (by decide) (hts (.fieldLink RX7 130 "PanTalesModel" "mornings" "I") (by decide +kernel)) (fun _ h9 => h9) rfl dX7_told_185 ?_
          cases hF
          exact r_iret hx hb hr hlk hS () rfl hP hD dX7_told_188
        have hF := q_if_f k_14 hF
        by_cases k_15 : a1 = 5
        · have hF := q_if_t k_15 hF
          refine gtop (y := 5) k_15 ?_
          refine lv_tableIn (tgt := 189) (off := 65) hx hb dX7_told_124 (by decide) (by decide) rfl (by decide) ?_
          refine lv_aload_n hx hb dX7_told_189 rfl (lv_at hl 0 rfl) ?_
          refine va_get (D := g.1) (ci := 7) (v := .int (σM 99 11)) (C := RX7) (T := TX7) (N := 34) hx hb hts hi7 hown hK hP 0 rfl rfl 11 (by decide) (hts (.fieldLink RX7 244 "PanTalesModel" "sights" "I") (by decide +kernel)) (fun _ h9 => h9) rfl dX7_told_190 ?_
          cases hF
          exact r_iret hx hb hr hlk hS () rfl hP hD dX7_told_193
        have hF := q_if_f k_15 hF
        refine lv_tableOut (tgt := 194) hx hb dX7_told_124 (sw_out 6 (by decide) (by decide) (lt_s (lt_s (lt_s (lt_s (lt_s (lt_s lt_0 k_10) k_11) k_12) k_13) k_14) k_15)) (by decide) ?_
        refine lv_bipush (v := (-2)) hx hb dX7_told_194 (by decide) ?_
        cases hF
        exact r_iret hx hb hr hlk hS () rfl hP hD dX7_told_196
      · have hF := q_if_f c_9 hF
        refine lv_aload_n hx hb dX7_told_113 rfl (lv_at hl 0 rfl) ?_
        refine va_get (D := g.1) (ci := 7) (v := .ref (AM 4)) (C := RX7) (T := TX7) (N := 34) hx hb hts hi7 hown hK hP 0 rfl rfl 4 (by decide) (hts (.fieldLink RX7 22 "PanTalesModel" "fades" "[I") (by decide +kernel)) (fun _ h9 => h9) rfl dX7_told_114 ?_
        refine lv_iload_n hx hb dX7_told_117 rfl (lv_at hl 1 rfl) ?_
        refine lv_bipush (v := 10) hx hb dX7_told_118 (by decide) ?_
        refine lv_isub hx hb dX7_told_120 ?_
        obtain ⟨r_16, i_17, e_18, hF⟩ := q_rd_s hF
        refine r_iald (v := r_16) hx hb hK hP 5 rfl i_17 e_18 dX7_told_121 ?_
        cases hF
        exact r_iret hx hb hr hlk hS () rfl hP hD dX7_told_122
    · have hF := q_if_f c_6 hF
      refine lv_iload_n hx hb dX7_told_70 rfl (lv_at hl 1 rfl) ?_
      refine lv_bipush (v := 10) hx hb dX7_told_71 (by decide) ?_
      refine lv_irem hx hb dX7_told_73 (by decide) ?_
      refine lv_iconst (v := 3) hx hb dX7_told_74 (by decide) ?_
      refine lv_icmp_ge (tgt := 96) hx hb dX7_told_75 (by decide) (fun c_19 => ?_) (fun c_19 => ?_)
      · have hF := q_if_t c_19 hF
        refine lv_bipush (v := (-2)) hx hb dX7_told_96 (by decide) ?_
        cases hF
        exact r_iret hx hb hr hlk hS () rfl hP hD dX7_told_98
      · have hF := q_if_f c_19 hF
        refine lv_aload_n hx hb dX7_told_78 rfl (lv_at hl 0 rfl) ?_
        refine lv_iload_n hx hb dX7_told_79 rfl (lv_at hl 1 rfl) ?_
        refine lv_bipush (v := 100) hx hb dX7_told_80 (by decide) ?_
        refine lv_isub hx hb dX7_told_82 ?_
        refine lv_bipush (v := 10) hx hb dX7_told_83 (by decide) ?_
        refine lv_idiv hx hb dX7_told_85 (by decide) ?_
        refine lv_iload_n hx hb dX7_told_86 rfl (lv_at hl 1 rfl) ?_
        refine lv_bipush (v := 10) hx hb dX7_told_87 (by decide) ?_
        refine lv_irem hx hb dX7_told_89 (by decide) ?_
        obtain ⟨r_20, h_21, hF⟩ := q_cl_s hF
        refine gcV_i (As := [.int ((a1 - 100) / 10), .int (a1 - a1 / 10 * 10)]) (rest := []) (ci := 7) (q := (RX7, TX7, 34)) F hK hN hP hD hS hA (m_X7_ofHouse l g H.size qM AM σM ℓM ((a1 - 100) / 10) (a1 - a1 / 10 * 10) r_20 h_21) gX7_told_X7_ofHouse kX7_ofHouse rfl rfl rfl rfl ⟨(Nat.le_of_ble_eq_true rfl), (Nat.le_of_ble_eq_true rfl)⟩ [0, 1, 2, 3, 4, 5, 6, 7, 8, 9, 10, 11, 12, 13, 14, 15, 16, 17, 18, 19, 20] [] rfl rfl rfl (by decide) rfl rfl rfl rfl rfl hl.1 (Nat.le_of_ble_eq_true rfl) dX7_told_90 ⟨(Nat.le_of_ble_eq_true rfl), (Nat.le_of_ble_eq_true rfl)⟩ (fun r_w u_w H locs hw hP hD hS => ?_)
        have hP : va_P g.1 vwCl (wX7 g qM AM σM ℓM) H := hP
        have hD : va_D Z (wX7 g qM AM σM ℓM) := hD
        obtain rfl : r_20 = r_w := hw.symm
        refine lv_goto (tgt := 98) hx hb dX7_told_93 (by decide) ?_
        cases hF
        exact r_iret hx hb hr hlk hS () rfl hP hD dX7_told_98
  · have hF := q_if_f c_3 hF
    refine lv_iload_n hx hb dX7_told_14 rfl (lv_at hl 1 rfl) ?_
    refine lv_sipush (v := 1000) hx hb dX7_told_15 (by decide) ?_
    refine lv_isub hx hb dX7_told_18 ?_
    refine lv_bipush (v := 20) hx hb dX7_told_19 (by decide) ?_
    refine lv_idiv hx hb dX7_told_21 (by decide) ?_
    obtain ⟨v2_22, e_23, hF⟩ := q_bd_s hF
    refine gtop e_23 ?_
    refine lv_istore_n (lv' := [(2, .int v2_22), (0, .ref qM), (1, .int a1)]) hx hb dX7_told_22 rfl hl (by decide) rfl (fun ls hl => ?_)
    refine lv_iload_n hx hb dX7_told_23 rfl (lv_at hl 2 rfl) ?_
    refine lv_sipush (v := 1000) hx hb dX7_told_24 (by decide) ?_
    refine lv_isub hx hb dX7_told_27 ?_
    refine lv_bipush (v := 20) hx hb dX7_told_28 (by decide) ?_
    refine lv_irem hx hb dX7_told_30 (by decide) ?_
    obtain ⟨v3_24, e_25, hF⟩ := q_bd_s hF
    refine gtop e_25 ?_
    refine lv_istore_n (lv' := [(3, .int v3_24), (2, .int v2_22), (0, .ref qM), (1, .int a1)]) hx hb dX7_told_31 rfl hl (by decide) rfl (fun ls hl => ?_)
    refine lv_iload_n hx hb dX7_told_32 rfl (lv_at hl 0 rfl) ?_
    obtain ⟨r_26, h_27, hF⟩ := q_cl_s hF
    refine gcP (As := [.int v3_24]) (rest := []) F (m_X7_isPlace l v3_24 r_26 h_27) gX7_told_X7_isPlace kX7_isPlace rfl rfl rfl ⟨(Nat.le_of_ble_eq_true rfl), (Nat.le_of_ble_eq_true rfl)⟩ rfl rfl hl.1 (Nat.le_of_ble_eq_true rfl) dX7_told_33 ⟨(Nat.le_of_ble_eq_true rfl), (Nat.le_of_ble_eq_true rfl)⟩ ?_
    refine lv_if_eq (tgt := 53) hx hb dX7_told_36 (by decide) (fun c_28 => ?_) (fun c_28 => ?_)
    · have hF := q_if_t c_28 hF
      refine lv_bipush (v := (-2)) hx hb dX7_told_53 (by decide) ?_
      cases hF
      exact r_iret hx hb hr hlk hS () rfl hP hD dX7_told_55
    · have hF := q_if_f c_28 hF
      refine lv_aload_n hx hb dX7_told_39 rfl (lv_at hl 2 rfl) ?_
      refine va_get (D := g.1) (ci := 7) (v := .ref (AM 0)) (C := RX7) (T := TX7) (N := 34) hx hb hts hi7 hown hK hP 0 rfl rfl 0 (by decide) (hts (.fieldLink RX7 7 "PanTalesModel" "roads" "[I") (by decide +kernel)) (fun _ h9 => h9) rfl dX7_told_40 ?_
      refine lv_bipush (v := 11) hx hb dX7_told_43 (by decide) ?_
      refine lv_iload_n hx hb dX7_told_45 rfl (lv_at hl 1 rfl) ?_
      refine lv_imul hx hb dX7_told_46 ?_
      refine lv_iload_n hx hb dX7_told_47 rfl (lv_at hl 0 rfl) ?_
      refine lv_iadd hx hb dX7_told_48 ?_
      obtain ⟨r_29, i_30, e_31, hF⟩ := q_rd_s hF
      refine r_iald (v := r_29) hx hb hK hP 1 rfl i_30 e_31 dX7_told_49 ?_
      refine lv_goto (tgt := 55) hx hb dX7_told_50 (by decide) ?_
      cases hF
      exact r_iret hx hb hr hlk hS () rfl hP hD dX7_told_55

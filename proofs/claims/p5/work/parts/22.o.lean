theorem kX7_findOff : YOk yX7_findOff 0 := by decide +kernel
theorem kX7_near : YOk yX7_near 3 := by decide +kernel
theorem kX7_behindBed : YOk yX7_behindBed 2 := by decide +kernel
theorem kX7_hottest : YOk yX7_hottest 2 := by decide +kernel
theorem kX7_findHot : YOk yX7_findHot 2 := by decide +kernel
theorem kX7_round : YOk yX7_round 2 := by decide +kernel
theorem kX7_around : YOk yX7_around 1 := by decide +kernel
theorem kX7_isKept : YOk yX7_isKept 2 := by decide +kernel
theorem kX7_keep : YOk yX7_keep 2 := by decide +kernel
theorem kX7_fadedBy : YOk yX7_fadedBy 2 := by decide +kernel
theorem kX7_cameAhead : YOk yX7_cameAhead 2 := by decide +kernel
theorem kX7_faded : YOk yX7_faded 2 := by decide +kernel
theorem kX7_seen : YOk yX7_seen 2 := by decide +kernel
theorem kX7_forget : YOk yX7_forget 0 := by decide +kernel
theorem kX7_isFit : YOk yX7_isFit 1 := by decide +kernel
theorem kX7_fits : YOk yX7_fits 1 := by decide +kernel
theorem kX7_mostLeft : YOk yX7_mostLeft 1 := by decide +kernel
theorem kX7_ask : YOk yX7_ask 1 := by decide +kernel
set_option maxHeartbeats 4000000 in
set_option maxRecDepth 100000 in
theorem m_X7_findOff (l : Launch) (g : GT) (sz : Nat) (qM : Nat) (AM : Nat → Nat) (σM : qS) (ℓM : qL) (σM' : qS) (hF : f_X7_findOff σM ℓM = some σM') : Cv l yX7_findOff wsX7_findOff { frames := 0, cells := 0, slots := 0, locals := 0 } g sz [.ref qM] (wX7 g qM AM σM ℓM) (wX7 g qM AM σM' ℓM) := by
  refine gMet_v (cc := cX7_findOff) (maxL := 4) (ret := none) (by decide) rfl (Nat.le_of_ble_eq_true rfl) ?_
  intro p e s m args below meth c Z hx hb hr F hlk hnm hK hN hA H locs hP hD hS ls hl
  have hl : lv_has ls 4 [(0, .ref qM)] := hl
  have F : CallFix p m c cX7_findOff 4 s args wsX7_findOff RX7 := F
  have hts := F.2.2.2.2
  have hown : s.vm.findClass RX7 = some m.cls := F.2.2.2.1
  have hi7 : ∀ w ∈ u_ws RX7 TX7 34, w ∈ wsX7_findOff := by decide +kernel
  dsimp only [f_X7_findOff] at hF
  refine lv_iconst (v := 0) hx hb dX7_findOff_0 (by decide) ?_
  refine lv_istore_n (lv' := [(1, .int 0), (0, .ref qM)]) hx hb dX7_findOff_1 rfl hl (by decide) rfl (fun ls hl => ?_)
  refine q_loop (fun u0 => wX7 g qM AM u0.2 ℓM) (fun u0 => [(1, .int u0.1), (0, .ref qM)]) 56 hF ?_ ?_ hP hD hS (lv_sub hl [0, 1] rfl)
  · rintro ⟨v1_1, σM_1⟩ hF H locs ls hP hD hS hl
    try dsimp only at hF
    have hP : va_P g.1 vwCl (wX7 g qM AM σM_1 ℓM) H := hP
    have hD : va_D Z (wX7 g qM AM σM_1 ℓM) := hD
    have hl : lv_has ls 4 [(1, .int v1_1), (0, .ref qM)] := hl
    refine lv_iconst (v := 0) hx hb dX7_findOff_56 (by decide) ?_
    refine lv_istore_n (lv' := [(1, .int 0), (0, .ref qM)]) hx hb dX7_findOff_57 rfl hl (by decide) rfl (fun ls hl => ?_)
    refine q_loop (fun u0 => wX7 g qM AM u0.2 ℓM) (fun u0 => [(1, .int u0.1), (0, .ref qM)]) 140 hF ?_ ?_ hP hD hS (lv_sub hl [0, 1] rfl)
    · rintro ⟨v1_2, σM_2⟩ hF H locs ls hP hD hS hl
      try dsimp only at hF
      have hP : va_P g.1 vwCl (wX7 g qM AM σM_2 ℓM) H := hP
      have hD : va_D Z (wX7 g qM AM σM_2 ℓM) := hD
      have hl : lv_has ls 4 [(1, .int v1_2), (0, .ref qM)] := hl
      cases hF
      exact r_vret hx hb hr hlk hS () trivial hP hD dX7_findOff_140
    · rintro k again kk ag ⟨v1_2, σM_2⟩ hF H locs ls hP hD hS hl
      dsimp only [b_X7_findOff_58] at hF
      have hP : va_P g.1 vwCl (wX7 g qM AM σM_2 ℓM) H := hP
      have hD : va_D Z (wX7 g qM AM σM_2 ℓM) := hD
      have hl : lv_has ls 4 [(1, .int v1_2), (0, .ref qM)] := hl
      refine lv_iload_n hx hb dX7_findOff_58 rfl (lv_at hl 0 rfl) ?_
      refine lv_bipush (v := 11) hx hb dX7_findOff_59 (by decide) ?_
      refine lv_icmp_ge (tgt := 140) hx hb dX7_findOff_61 (by decide) (fun c_3 => ?_) (fun c_3 => ?_)
      · have hF := q_if_t c_3 hF
        exact kk (v1_2, σM_2) hF _ _ _ hP hD hS (lv_sub hl [0, 1] rfl)
      · have hF := q_if_f c_3 hF
        refine lv_iconst (v := 0) hx hb dX7_findOff_64 (by decide) ?_
        refine lv_istore_n (lv' := [(2, .int 0), (1, .int v1_2), (0, .ref qM)]) hx hb dX7_findOff_65 rfl hl (by decide) rfl (fun ls hl => ?_)
        refine q_loop (fun u0 => wX7 g qM AM u0.2 ℓM) (fun u0 => [(2, .int u0.1), (1, .int v1_2), (0, .ref qM)]) 134 hF ?_ ?_ hP hD hS (lv_sub hl [0, 1, 2] rfl)
        · rintro ⟨v2_4, σM_4⟩ hF H locs ls hP hD hS hl
          try dsimp only at hF
          have hP : va_P g.1 vwCl (wX7 g qM AM σM_4 ℓM) H := hP
          have hD : va_D Z (wX7 g qM AM σM_4 ℓM) := hD
          have hl : lv_has ls 4 [(2, .int v2_4), (1, .int v1_2), (0, .ref qM)] := hl
          refine lv_iinc (v := v1_2 + 1) (lv' := [(1, .int (v1_2 + 1)), (2, .int v2_4), (0, .ref qM)]) hx hb dX7_findOff_134 hl (k := 1) rfl rfl (by decide) rfl (fun ls hl => ?_)
          refine lv_goto (tgt := 58) hx hb dX7_findOff_137 (by decide) ?_
          exact ag (v1_2 + 1, σM_4) hF _ _ _ hP hD hS (lv_sub hl [0, 2] rfl)
        · rintro k again kk ag ⟨v2_4, σM_4⟩ hF H locs ls hP hD hS hl
          dsimp only [b_X7_findOff_66] at hF
          have hP : va_P g.1 vwCl (wX7 g qM AM σM_4 ℓM) H := hP
          have hD : va_D Z (wX7 g qM AM σM_4 ℓM) := hD
          have hl : lv_has ls 4 [(2, .int v2_4), (1, .int v1_2), (0, .ref qM)] := hl
          refine lv_iload_n hx hb dX7_findOff_66 rfl (lv_at hl 0 rfl) ?_
          refine lv_bipush (v := 121) hx hb dX7_findOff_67 (by decide) ?_
          refine lv_icmp_ge (tgt := 134) hx hb dX7_findOff_69 (by decide) (fun c_5 => ?_) (fun c_5 => ?_)
          · have hF := q_if_t c_5 hF
            exact kk (v2_4, σM_4) hF _ _ _ hP hD hS (lv_sub hl [0, 1, 2] rfl)
          · have hF := q_if_f c_5 hF
            refine lv_aload_n hx hb dX7_findOff_72 rfl (lv_at hl 2 rfl) ?_
            refine va_get (D := g.1) (ci := 7) (v := .ref (AM 24)) (C := RX7) (T := TX7) (N := 34) hx hb hts hi7 hown hK hP 0 rfl rfl 24 (by decide) (hts (.fieldLink RX7 46 "PanTalesModel" "off" "[I") (by decide +kernel)) (fun _ h9 => h9) rfl dX7_findOff_73 ?_
            refine lv_bipush (v := 11) hx hb dX7_findOff_76 (by decide) ?_
            refine lv_iload_n hx hb dX7_findOff_78 rfl (lv_at hl 0 rfl) ?_
            refine lv_bipush (v := 11) hx hb dX7_findOff_79 (by decide) ?_
            refine lv_idiv hx hb dX7_findOff_81 (by decide) ?_
            refine lv_imul hx hb dX7_findOff_82 ?_
            refine lv_iload_n hx hb dX7_findOff_83 rfl (lv_at hl 1 rfl) ?_
            refine lv_iadd hx hb dX7_findOff_84 ?_
            obtain ⟨r_6, i_7, e_8, hF⟩ := q_rd_s hF
            refine r_iald (v := r_6) hx hb hK hP 13 rfl i_7 e_8 dX7_findOff_85 ?_
            refine lv_aload_n hx hb dX7_findOff_86 rfl (lv_at hl 2 rfl) ?_
            refine va_get (D := g.1) (ci := 7) (v := .ref (AM 24)) (C := RX7) (T := TX7) (N := 34) hx hb hts hi7 hown hK hP 0 rfl rfl 24 (by decide) (hts (.fieldLink RX7 46 "PanTalesModel" "off" "[I") (by decide +kernel)) (fun _ h9 => h9) rfl dX7_findOff_87 ?_
            refine lv_bipush (v := 11) hx hb dX7_findOff_90 (by decide) ?_
            refine lv_iload_n hx hb dX7_findOff_92 rfl (lv_at hl 1 rfl) ?_
            refine lv_imul hx hb dX7_findOff_93 ?_
            refine lv_iload_n hx hb dX7_findOff_94 rfl (lv_at hl 0 rfl) ?_
            refine lv_bipush (v := 11) hx hb dX7_findOff_95 (by decide) ?_
            refine lv_irem hx hb dX7_findOff_97 (by decide) ?_
            refine lv_iadd hx hb dX7_findOff_98 ?_
            obtain ⟨r_9, i_10, e_11, hF⟩ := q_rd_s hF
            refine r_iald (v := r_9) hx hb hK hP 13 rfl i_10 e_11 dX7_findOff_99 ?_
            refine lv_iadd hx hb dX7_findOff_100 ?_
            obtain ⟨v3_12, e_13, hF⟩ := q_bd_s hF
            refine gtop e_13 ?_
            refine lv_istore_n (lv' := [(3, .int v3_12), (2, .int v2_4), (1, .int v1_2), (0, .ref qM)]) hx hb dX7_findOff_101 rfl hl (by decide) rfl (fun ls hl => ?_)
            refine lv_aload_n hx hb dX7_findOff_102 rfl (lv_at hl 3 rfl) ?_
            refine va_get (D := g.1) (ci := 7) (v := .ref (AM 24)) (C := RX7) (T := TX7) (N := 34) hx hb hts hi7 hown hK hP 0 rfl rfl 24 (by decide) (hts (.fieldLink RX7 46 "PanTalesModel" "off" "[I") (by decide +kernel)) (fun _ h9 => h9) rfl dX7_findOff_103 ?_
            refine lv_iload_n hx hb dX7_findOff_106 rfl (lv_at hl 1 rfl) ?_
            refine lv_iload_n hx hb dX7_findOff_107 rfl (lv_at hl 0 rfl) ?_
            refine lv_aload_n hx hb dX7_findOff_108 rfl (lv_at hl 3 rfl) ?_
            refine va_get (D := g.1) (ci := 7) (v := .ref (AM 24)) (C := RX7) (T := TX7) (N := 34) hx hb hts hi7 hown hK hP 0 rfl rfl 24 (by decide) (hts (.fieldLink RX7 46 "PanTalesModel" "off" "[I") (by decide +kernel)) (fun _ h9 => h9) rfl dX7_findOff_109 ?_
            refine lv_iload_n hx hb dX7_findOff_112 rfl (lv_at hl 1 rfl) ?_
            obtain ⟨r_14, i_15, e_16, hF⟩ := q_rd_s hF
            refine r_iald (v := r_14) hx hb hK hP 13 rfl i_15 e_16 dX7_findOff_113 ?_
            refine lv_icmp_ge (tgt := 121) hx hb dX7_findOff_114 (by decide) (fun c_17 => ?_) (fun c_17 => ?_)
            · have hF := q_if_t c_17 hF
              refine lv_aload_n hx hb dX7_findOff_121 rfl (lv_at hl 3 rfl) ?_
              refine va_get (D := g.1) (ci := 7) (v := .ref (AM 24)) (C := RX7) (T := TX7) (N := 34) hx hb hts hi7 hown hK hP 0 rfl rfl 24 (by decide) (hts (.fieldLink RX7 46 "PanTalesModel" "off" "[I") (by decide +kernel)) (fun _ h9 => h9) rfl dX7_findOff_122 ?_
              refine lv_iload_n hx hb dX7_findOff_125 rfl (lv_at hl 1 rfl) ?_
              obtain ⟨r_18, i_19, e_20, hF⟩ := q_rd_s hF
              refine r_iald (v := r_18) hx hb hK hP 13 rfl i_19 e_20 dX7_findOff_126 ?_
              obtain ⟨σM_21, i_22, e_23, hF⟩ := q_wr_s hF
              refine r_iast (f' := upd (σM_4 24) v2_4.toNatClampNeg r_18) hx hb hK hP hD hS 13 rfl i_22 (fun _ _ => rfl) dX7_findOff_127 (fun H locs hP hD hS => ?_)
              have hP : va_P g.1 vwCl (wX7 g qM AM (q_up σM_4 24 (upd (σM_4 24) v2_4.toNatClampNeg r_18)) ℓM) H := hP
              have hD : va_D Z (wX7 g qM AM (q_up σM_4 24 (upd (σM_4 24) v2_4.toNatClampNeg r_18)) ℓM) := hD
              rw [e_23] at hP hD
              refine lv_iinc (v := v2_4 + 1) (lv' := [(2, .int (v2_4 + 1)), (3, .int v3_12), (1, .int v1_2), (0, .ref qM)]) hx hb dX7_findOff_128 hl (k := 1) rfl rfl (by decide) rfl (fun ls hl => ?_)
              refine lv_goto (tgt := 66) hx hb dX7_findOff_131 (by decide) ?_
              exact ag (v2_4 + 1, σM_21) hF _ _ _ hP hD hS (lv_sub hl [0, 2, 3] rfl)
            · have hF := q_if_f c_17 hF
              refine lv_iload_n hx hb dX7_findOff_117 rfl (lv_at hl 0 rfl) ?_
              refine lv_goto (tgt := 127) hx hb dX7_findOff_118 (by decide) ?_
              obtain ⟨σM_24, i_25, e_26, hF⟩ := q_wr_s hF
              refine r_iast (f' := upd (σM_4 24) v2_4.toNatClampNeg v3_12) hx hb hK hP hD hS 13 rfl i_25 (fun _ _ => rfl) dX7_findOff_127 (fun H locs hP hD hS => ?_)
              have hP : va_P g.1 vwCl (wX7 g qM AM (q_up σM_4 24 (upd (σM_4 24) v2_4.toNatClampNeg v3_12)) ℓM) H := hP
              have hD : va_D Z (wX7 g qM AM (q_up σM_4 24 (upd (σM_4 24) v2_4.toNatClampNeg v3_12)) ℓM) := hD
              rw [e_26] at hP hD
              refine lv_iinc (v := v2_4 + 1) (lv' := [(2, .int (v2_4 + 1)), (3, .int v3_12), (1, .int v1_2), (0, .ref qM)]) hx hb dX7_findOff_128 hl (k := 1) rfl rfl (by decide) rfl (fun ls hl => ?_)
              refine lv_goto (tgt := 66) hx hb dX7_findOff_131 (by decide) ?_
              exact ag (v2_4 + 1, σM_24) hF _ _ _ hP hD hS (lv_sub hl [0, 2, 3] rfl)
  · rintro k again kk ag ⟨v1_1, σM_1⟩ hF H locs ls hP hD hS hl
    dsimp only [b_X7_findOff_2] at hF
    have hP : va_P g.1 vwCl (wX7 g qM AM σM_1 ℓM) H := hP
    have hD : va_D Z (wX7 g qM AM σM_1 ℓM) := hD
    have hl : lv_has ls 4 [(1, .int v1_1), (0, .ref qM)] := hl
    refine lv_iload_n hx hb dX7_findOff_2 rfl (lv_at hl 0 rfl) ?_
    refine lv_bipush (v := 121) hx hb dX7_findOff_3 (by decide) ?_
    refine lv_icmp_ge (tgt := 56) hx hb dX7_findOff_5 (by decide) (fun c_27 => ?_) (fun c_27 => ?_)
    · have hF := q_if_t c_27 hF
      exact kk (v1_1, σM_1) hF _ _ _ hP hD hS (lv_sub hl [0, 1] rfl)
    · have hF := q_if_f c_27 hF
      refine lv_aload_n hx hb dX7_findOff_8 rfl (lv_at hl 1 rfl) ?_
      refine va_get (D := g.1) (ci := 7) (v := .ref (AM 24)) (C := RX7) (T := TX7) (N := 34) hx hb hts hi7 hown hK hP 0 rfl rfl 24 (by decide) (hts (.fieldLink RX7 46 "PanTalesModel" "off" "[I") (by decide +kernel)) (fun _ h9 => h9) rfl dX7_findOff_9 ?_
      refine lv_iload_n hx hb dX7_findOff_12 rfl (lv_at hl 0 rfl) ?_
      refine lv_iload_n hx hb dX7_findOff_13 rfl (lv_at hl 0 rfl) ?_
      refine lv_bipush (v := 11) hx hb dX7_findOff_14 (by decide) ?_
      refine lv_idiv hx hb dX7_findOff_16 (by decide) ?_
      refine lv_iload_n hx hb dX7_findOff_17 rfl (lv_at hl 0 rfl) ?_
      refine lv_bipush (v := 11) hx hb dX7_findOff_18 (by decide) ?_
      refine lv_irem hx hb dX7_findOff_20 (by decide) ?_
      refine lv_icmp_ne (tgt := 28) hx hb dX7_findOff_21 (by decide) (fun c_28 => ?_) (fun c_28 => ?_)
      · have hF := q_if_f c_28 hF
        refine lv_aload_n hx hb dX7_findOff_28 rfl (lv_at hl 1 rfl) ?_
        refine va_get (D := g.1) (ci := 7) (v := .ref (AM 0)) (C := RX7) (T := TX7) (N := 34) hx hb hts hi7 hown hK hP 0 rfl rfl 0 (by decide) (hts (.fieldLink RX7 7 "PanTalesModel" "roads" "[I") (by decide +kernel)) (fun _ h9 => h9) rfl dX7_findOff_29 ?_
        refine lv_iload_n hx hb dX7_findOff_32 rfl (lv_at hl 0 rfl) ?_
        obtain ⟨r_29, i_30, e_31, hF⟩ := q_rd_s hF
        refine r_iald (v := r_29) hx hb hK hP 1 rfl i_30 e_31 dX7_findOff_33 ?_
        refine lv_if_le (tgt := 46) hx hb dX7_findOff_34 (by decide) (fun c_32 => ?_) (fun c_32 => ?_)
        · have hF := q_if_t c_32 hF
          refine lv_sipush (v := 1000) hx hb dX7_findOff_46 (by decide) ?_
          obtain ⟨σM_33, i_34, e_35, hF⟩ := q_wr_s hF
          refine r_iast (f' := upd (σM_1 24) v1_1.toNatClampNeg (1000 : Int32)) hx hb hK hP hD hS 13 rfl i_34 (fun _ _ => rfl) dX7_findOff_49 (fun H locs hP hD hS => ?_)
          have hP : va_P g.1 vwCl (wX7 g qM AM (q_up σM_1 24 (upd (σM_1 24) v1_1.toNatClampNeg (1000 : Int32))) ℓM) H := hP
          have hD : va_D Z (wX7 g qM AM (q_up σM_1 24 (upd (σM_1 24) v1_1.toNatClampNeg (1000 : Int32))) ℓM) := hD
          rw [e_35] at hP hD
          refine lv_iinc (v := v1_1 + 1) (lv' := [(1, .int (v1_1 + 1)), (0, .ref qM)]) hx hb dX7_findOff_50 hl (k := 0) rfl rfl (by decide) rfl (fun ls hl => ?_)
          refine lv_goto (tgt := 2) hx hb dX7_findOff_53 (by decide) ?_
          exact ag (v1_1 + 1, σM_33) hF _ _ _ hP hD hS (lv_sub hl [0, 1] rfl)
        · have hF := q_if_f c_32 hF
          refine lv_aload_n hx hb dX7_findOff_37 rfl (lv_at hl 1 rfl) ?_
          refine va_get (D := g.1) (ci := 7) (v := .ref (AM 0)) (C := RX7) (T := TX7) (N := 34) hx hb hts hi7 hown hK hP 0 rfl rfl 0 (by decide) (hts (.fieldLink RX7 7 "PanTalesModel" "roads" "[I") (by decide +kernel)) (fun _ h9 => h9) rfl dX7_findOff_38 ?_
          refine lv_iload_n hx hb dX7_findOff_41 rfl (lv_at hl 0 rfl) ?_
          obtain ⟨r_36, i_37, e_38, hF⟩ := q_rd_s hF
          refine r_iald (v := r_36) hx hb hK hP 1 rfl i_37 e_38 dX7_findOff_42 ?_
          refine lv_goto (tgt := 49) hx hb dX7_findOff_43 (by decide) ?_
          obtain ⟨σM_39, i_40, e_41, hF⟩ := q_wr_s hF
          refine r_iast (f' := upd (σM_1 24) v1_1.toNatClampNeg r_36) hx hb hK hP hD hS 13 rfl i_40 (fun _ _ => rfl) dX7_findOff_49 (fun H locs hP hD hS => ?_)
          have hP : va_P g.1 vwCl (wX7 g qM AM (q_up σM_1 24 (upd (σM_1 24) v1_1.toNatClampNeg r_36)) ℓM) H := hP
          have hD : va_D Z (wX7 g qM AM (q_up σM_1 24 (upd (σM_1 24) v1_1.toNatClampNeg r_36)) ℓM) := hD
          rw [e_41] at hP hD
          refine lv_iinc (v := v1_1 + 1) (lv' := [(1, .int (v1_1 + 1)), (0, .ref qM)]) hx hb dX7_findOff_50 hl (k := 0) rfl rfl (by decide) rfl (fun ls hl => ?_)
          refine lv_goto (tgt := 2) hx hb dX7_findOff_53 (by decide) ?_
          exact ag (v1_1 + 1, σM_39) hF _ _ _ hP hD hS (lv_sub hl [0, 1] rfl)
      · have hF := q_if_t (by first | exact c_28 | exact Classical.not_not.mp c_28) hF
        refine lv_iconst (v := 0) hx hb dX7_findOff_24 (by decide) ?_
        refine lv_goto (tgt := 49) hx hb dX7_findOff_25 (by decide) ?_
        obtain ⟨σM_42, i_43, e_44, hF⟩ := q_wr_s hF
        refine r_iast (f' := upd (σM_1 24) v1_1.toNatClampNeg (0 : Int32)) hx hb hK hP hD hS 13 rfl i_43 (fun _ _ => rfl) dX7_findOff_49 (fun H locs hP hD hS => ?_)
        have hP : va_P g.1 vwCl (wX7 g qM AM (q_up σM_1 24 (upd (σM_1 24) v1_1.toNatClampNeg (0 : Int32))) ℓM) H := hP
        have hD : va_D Z (wX7 g qM AM (q_up σM_1 24 (upd (σM_1 24) v1_1.toNatClampNeg (0 : Int32))) ℓM) := hD
        rw [e_44] at hP hD
        refine lv_iinc (v := v1_1 + 1) (lv' := [(1, .int (v1_1 + 1)), (0, .ref qM)]) hx hb dX7_findOff_50 hl (k := 0) rfl rfl (by decide) rfl (fun ls hl => ?_)
        refine lv_goto (tgt := 2) hx hb dX7_findOff_53 (by decide) ?_
        exact ag (v1_1 + 1, σM_42) hF _ _ _ hP hD hS (lv_sub hl [0, 1] rfl)
set_option maxHeartbeats 4000000 in
set_option maxRecDepth 100000 in
theorem m_X7_near (l : Launch) (g : GT) (sz : Nat) (qM : Nat) (AM : Nat → Nat) (σM : qS) (ℓM : qL) (a1 : Int32) (a2 : Int32) (a3 : Int32) (rr : Int32) (σM' : qS) (hF : f_X7_near σM ℓM a1 a2 a3 = some (rr, σM')) : Ci l yX7_near wsX7_near { frames := 2, cells := 0, slots := 0, locals := 45 } g sz [.ref qM, .int a1, .int a2, .int a3] (wX7 g qM AM σM ℓM) rr (wX7 g qM AM σM' ℓM) := by
  refine gMet_i (cc := cX7_near) (maxL := 8) (ret := (some .int)) (by decide) rfl (Nat.le_of_ble_eq_true rfl) ?_
  intro p e s m args below meth c Z hx hb hr F hlk hnm hK hN hA H locs hP hD hS ls hl
  have hl : lv_has ls 8 [(0, .ref qM), (1, .int a1), (2, .int a2), (3, .int a3)] := hl
  have F : CallFix p m c cX7_near 8 s args wsX7_near RX7 := F
  have hts := F.2.2.2.2
  have hown : s.vm.findClass RX7 = some m.cls := F.2.2.2.1
  have hi7 : ∀ w ∈ u_ws RX7 TX7 34, w ∈ wsX7_near := by decide +kernel
  dsimp only [f_X7_near] at hF
  refine lv_iload_n hx hb dX7_near_0 rfl (lv_at hl 1 rfl) ?_
  obtain ⟨r_1, h_2, hF⟩ := q_cl_s hF
  refine gcP (As := [.int a1]) (rest := []) F (m_X7_isPlace l a1 r_1 h_2) gX7_near_X7_isPlace kX7_isPlace rfl rfl rfl ⟨(Nat.le_of_ble_eq_true rfl), (Nat.le_of_ble_eq_true rfl)⟩ rfl rfl hl.1 (Nat.le_of_ble_eq_true rfl) dX7_near_1 ⟨(Nat.le_of_ble_eq_true rfl), (Nat.le_of_ble_eq_true rfl)⟩ ?_
  refine lv_if_eq (tgt := 14) hx hb dX7_near_4 (by decide) (fun c_3 => ?_) (fun c_3 => ?_)
  · have hF := q_if_t c_3 hF
    refine lv_iconst (v := (-1)) hx hb dX7_near_14 (by decide) ?_
    cases hF
    exact r_iret hx hb hr hlk hS () rfl hP hD dX7_near_15
  · have hF := q_if_f c_3 hF
    refine lv_iload_n hx hb dX7_near_7 rfl (lv_at hl 2 rfl) ?_
    obtain ⟨r_4, h_5, hF⟩ := q_cl_s hF
    refine gcP (As := [.int a2]) (rest := []) F (m_X7_isPlace l a2 r_4 h_5) gX7_near_X7_isPlace kX7_isPlace rfl rfl rfl ⟨(Nat.le_of_ble_eq_true rfl), (Nat.le_of_ble_eq_true rfl)⟩ rfl rfl hl.1 (Nat.le_of_ble_eq_true rfl) dX7_near_8 ⟨(Nat.le_of_ble_eq_true rfl), (Nat.le_of_ble_eq_true rfl)⟩ ?_
    refine lv_if_ne (tgt := 16) hx hb dX7_near_11 (by decide) (fun c_6 => ?_) (fun c_6 => ?_)
    · have hF := q_if_f c_6 hF
      refine lv_iload_n hx hb dX7_near_16 rfl (lv_at hl 3 rfl) ?_
      refine lv_i2l (v := a3.toInt64) hx hb dX7_near_17 rfl ?_
      refine lv_lconst (v := 0) hx hb dX7_near_18 (by decide) ?_
      refine lv_lconst (v := 1) hx hb dX7_near_19 (by decide) ?_
      obtain ⟨r_7, h_8, hF⟩ := q_cl_s hF
      refine gcP (As := [.long a3.toInt64, .long 0, .long 1]) (rest := []) F (m_X7_in l a3.toInt64 (0 : Int64) (1 : Int64) r_7 h_8) gX7_near_X7_in kX7_in rfl rfl rfl ⟨(Nat.le_of_ble_eq_true rfl), (Nat.le_of_ble_eq_true rfl)⟩ rfl rfl hl.1 (Nat.le_of_ble_eq_true rfl) dX7_near_20 ⟨(Nat.le_of_ble_eq_true rfl), (Nat.le_of_ble_eq_true rfl)⟩ ?_
      refine lv_if_ne (tgt := 29) hx hb dX7_near_23 (by decide) (fun c_9 => ?_) (fun c_9 => ?_)
      · have hF := q_if_f c_9 hF
        refine lv_aload_n hx hb dX7_near_29 rfl (lv_at hl 0 rfl) ?_
        obtain ⟨σM_10, h_11, hF⟩ := q_cl_s hF
        refine gcV_v (As := []) (rest := []) (ci := 7) (q := (RX7, TX7, 34)) F hK hN hP hD hS hA (m_X7_findOff l g H.size qM AM σM ℓM σM_10 h_11) gX7_near_X7_findOff kX7_findOff rfl rfl rfl rfl ⟨(Nat.le_of_ble_eq_true rfl), (Nat.le_of_ble_eq_true rfl)⟩ [0, 1, 2, 3, 4, 5, 6, 7, 8, 9, 10, 11, 12, 13, 14, 15, 16, 17, 18, 19, 20] [] rfl rfl rfl (by decide) rfl rfl rfl rfl rfl hl.1 (Nat.le_of_ble_eq_true rfl) dX7_near_30 ⟨(Nat.le_of_ble_eq_true rfl), (Nat.le_of_ble_eq_true rfl)⟩ (fun u_w H locs hw hP hD hS => ?_)
        have hP : va_P g.1 vwCl (wX7 g qM AM σM_10 ℓM) H := hP
        have hD : va_D Z (wX7 g qM AM σM_10 ℓM) := hD
        refine lv_aload_n hx hb dX7_near_33 rfl (lv_at hl 0 rfl) ?_
        refine va_get (D := g.1) (ci := 7) (v := .ref (AM 24)) (C := RX7) (T := TX7) (N := 34) hx hb hts hi7 hown hK hP 0 rfl rfl 24 (by decide) (hts (.fieldLink RX7 46 "PanTalesModel" "off" "[I") (by decide +kernel)) (fun _ h9 => h9) rfl dX7_near_34 ?_
        refine lv_bipush (v := 11) hx hb dX7_near_37 (by decide) ?_
        refine lv_iload_n hx hb dX7_near_39 rfl (lv_at hl 1 rfl) ?_
        refine lv_imul hx hb dX7_near_40 ?_
        refine lv_iload_n hx hb dX7_near_41 rfl (lv_at hl 2 rfl) ?_
        refine lv_iadd hx hb dX7_near_42 ?_
        obtain ⟨r_12, i_13, e_14, hF⟩ := q_rd_s hF
        refine r_iald (v := r_12) hx hb hK hP 13 rfl i_13 e_14 dX7_near_43 ?_
        refine lv_istore (lv' := [(4, .int r_12), (0, .ref qM), (1, .int a1), (2, .int a2), (3, .int a3)]) hx hb dX7_near_44 hl (by decide) rfl (fun ls hl => ?_)
        refine lv_iload hx hb dX7_near_46 (lv_at hl 0 rfl) ?_
        refine lv_sipush (v := 1000) hx hb dX7_near_48 (by decide) ?_
        refine lv_icmp_lt (tgt := 57) hx hb dX7_near_51 (by decide) (fun c_15 => ?_) (fun c_15 => ?_)
        · have hF := q_if_t c_15 hF
          refine lv_iload_n hx hb dX7_near_57 rfl (lv_at hl 4 rfl) ?_
          refine lv_if_ne (tgt := 64) hx hb dX7_near_58 (by decide) (fun c_16 => ?_) (fun c_16 => ?_)
          · have hF := q_if_f c_16 hF
            refine lv_bipush (v := (-6)) hx hb dX7_near_64 (by decide) ?_
            refine lv_istore (lv' := [(5, .int (-6)), (4, .int r_12), (0, .ref qM), (1, .int a1), (2, .int a2), (3, .int a3)]) hx hb dX7_near_66 hl (by decide) rfl (fun ls hl => ?_)
            refine lv_bipush (v := 10) hx hb dX7_near_68 (by decide) ?_
            refine lv_istore (lv' := [(6, .int 10), (5, .int (-6)), (4, .int r_12), (0, .ref qM), (1, .int a1), (2, .int a2), (3, .int a3)]) hx hb dX7_near_70 hl (by decide) rfl (fun ls hl => ?_)
            refine q_loop (fun u0 => wX7 g qM AM σM_10 ℓM) (fun u0 => [(6, .int u0.1), (5, .int u0.2), (4, .int r_12), (0, .ref qM), (1, .int a1), (2, .int a2)]) 136 hF ?_ ?_ hP hD hS (lv_sub hl [0, 1, 2, 3, 4, 5] rfl)
            · rintro ⟨v6_17, v5_17⟩ hF H locs ls hP hD hS hl
              try dsimp only at hF
              have hP : va_P g.1 vwCl (wX7 g qM AM σM_10 ℓM) H := hP
              have hD : va_D Z (wX7 g qM AM σM_10 ℓM) := hD
              have hl : lv_has ls 8 [(6, .int v6_17), (5, .int v5_17), (4, .int r_12), (0, .ref qM), (1, .int a1), (2, .int a2)] := hl
              refine lv_iload hx hb dX7_near_136 (lv_at hl 1 rfl) ?_
              cases hF
              exact r_iret hx hb hr hlk hS () rfl hP hD dX7_near_138
            · rintro k again kk ag ⟨v6_17, v5_17⟩ hF H locs ls hP hD hS hl
              dsimp only [b_X7_near_72] at hF
              have hP : va_P g.1 vwCl (wX7 g qM AM σM_10 ℓM) H := hP
              have hD : va_D Z (wX7 g qM AM σM_10 ℓM) := hD
              have hl : lv_has ls 8 [(6, .int v6_17), (5, .int v5_17), (4, .int r_12), (0, .ref qM), (1, .int a1), (2, .int a2)] := hl
              refine lv_iload hx hb dX7_near_72 (lv_at hl 0 rfl) ?_
              refine lv_if_lt (tgt := 136) hx hb dX7_near_74 (by decide) (fun c_18 => ?_) (fun c_18 => ?_)
              · have hF := q_if_t c_18 hF
                exact kk (v6_17, v5_17) hF _ _ _ hP hD hS (lv_sub hl [0, 1, 2, 3, 4, 5] rfl)
              · have hF := q_if_f c_18 hF
                refine lv_iload_n hx hb dX7_near_77 rfl (lv_at hl 4 rfl) ?_
                refine lv_iload_n hx hb dX7_near_78 rfl (lv_at hl 5 rfl) ?_
                refine lv_icmp_eq (tgt := 136) hx hb dX7_near_79 (by decide) (fun c_19 => ?_) (fun c_19 => ?_)
                · have hF := q_if_t c_19 hF
                  exact kk (v6_17, v5_17) hF _ _ _ hP hD hS (lv_sub hl [0, 1, 2, 3, 4, 5] rfl)
                · have hF := q_if_f c_19 hF
                  refine lv_aload_n hx hb dX7_near_82 rfl (lv_at hl 3 rfl) ?_
                  refine va_get (D := g.1) (ci := 7) (v := .ref (AM 0)) (C := RX7) (T := TX7) (N := 34) hx hb hts hi7 hown hK hP 0 rfl rfl 0 (by decide) (hts (.fieldLink RX7 7 "PanTalesModel" "roads" "[I") (by decide +kernel)) (fun _ h9 => h9) rfl dX7_near_83 ?_
                  refine lv_bipush (v := 11) hx hb dX7_near_86 (by decide) ?_
                  refine lv_iload_n hx hb dX7_near_88 rfl (lv_at hl 4 rfl) ?_
                  refine lv_imul hx hb dX7_near_89 ?_
                  refine lv_iload hx hb dX7_near_90 (lv_at hl 0 rfl) ?_
                  refine lv_iadd hx hb dX7_near_92 ?_
                  obtain ⟨r_20, i_21, e_22, hF⟩ := q_rd_s hF
                  refine r_iald (v := r_20) hx hb hK hP 1 rfl i_21 e_22 dX7_near_93 ?_
                  refine lv_istore (lv' := [(7, .int r_20), (6, .int v6_17), (5, .int v5_17), (4, .int r_12), (0, .ref qM), (1, .int a1), (2, .int a2)]) hx hb dX7_near_94 hl (by decide) rfl (fun ls hl => ?_)
                  refine lv_iload hx hb dX7_near_96 (lv_at hl 0 rfl) ?_
                  refine lv_if_le (tgt := 126) hx hb dX7_near_98 (by decide) (fun c_23 => ?_) (fun c_23 => ?_)
                  · have hF := q_if_t c_23 hF
                    refine lv_iload hx hb dX7_near_126 (lv_at hl 2 rfl) ?_
                    refine lv_istore (lv' := [(5, .int v5_17), (7, .int r_20), (6, .int v6_17), (4, .int r_12), (0, .ref qM), (1, .int a1), (2, .int a2)]) hx hb dX7_near_128 hl (by decide) rfl (fun ls hl => ?_)
                    refine lv_iinc (v := v6_17 + (-1)) (lv' := [(6, .int (v6_17 + (-1))), (5, .int v5_17), (7, .int r_20), (4, .int r_12), (0, .ref qM), (1, .int a1), (2, .int a2)]) hx hb dX7_near_130 hl (k := 2) rfl rfl (by decide) rfl (fun ls hl => ?_)
                    refine lv_goto (tgt := 72) hx hb dX7_near_133 (by decide) ?_
                    exact ag (v6_17 + (-1), v5_17) hF _ _ _ hP hD hS (lv_sub hl [0, 1, 3, 4, 5, 6] rfl)
                  · have hF := q_if_f c_23 hF
                    refine lv_iload hx hb dX7_near_101 (lv_at hl 0 rfl) ?_
                    refine lv_aload_n hx hb dX7_near_103 rfl (lv_at hl 4 rfl) ?_
                    refine va_get (D := g.1) (ci := 7) (v := .ref (AM 24)) (C := RX7) (T := TX7) (N := 34) hx hb hts hi7 hown hK hP 0 rfl rfl 24 (by decide) (hts (.fieldLink RX7 46 "PanTalesModel" "off" "[I") (by decide +kernel)) (fun _ h9 => h9) rfl dX7_near_104 ?_
                    refine lv_bipush (v := 11) hx hb dX7_near_107 (by decide) ?_
                    refine lv_iload hx hb dX7_near_109 (lv_at hl 1 rfl) ?_
                    refine lv_imul hx hb dX7_near_111 ?_
                    refine lv_iload_n hx hb dX7_near_112 rfl (lv_at hl 6 rfl) ?_
                    refine lv_iadd hx hb dX7_near_113 ?_
                    obtain ⟨r_24, i_25, e_26, hF⟩ := q_rd_s hF
                    refine r_iald (v := r_24) hx hb hK hP 13 rfl i_25 e_26 dX7_near_114 ?_
                    refine lv_iadd hx hb dX7_near_115 ?_
                    refine lv_iload hx hb dX7_near_116 (lv_at hl 3 rfl) ?_
                    refine lv_icmp_ne (tgt := 126) hx hb dX7_near_118 (by decide) (fun c_27 => ?_) (fun c_27 => ?_)
                    · have hF := q_if_f c_27 hF
                      refine lv_iload hx hb dX7_near_126 (lv_at hl 2 rfl) ?_
                      refine lv_istore (lv' := [(5, .int v5_17), (7, .int r_20), (6, .int v6_17), (4, .int r_12), (0, .ref qM), (1, .int a1), (2, .int a2)]) hx hb dX7_near_128 hl (by decide) rfl (fun ls hl => ?_)
                      refine lv_iinc (v := v6_17 + (-1)) (lv' := [(6, .int (v6_17 + (-1))), (5, .int v5_17), (7, .int r_20), (4, .int r_12), (0, .ref qM), (1, .int a1), (2, .int a2)]) hx hb dX7_near_130 hl (k := 2) rfl rfl (by decide) rfl (fun ls hl => ?_)
                      refine lv_goto (tgt := 72) hx hb dX7_near_133 (by decide) ?_
                      exact ag (v6_17 + (-1), v5_17) hF _ _ _ hP hD hS (lv_sub hl [0, 1, 3, 4, 5, 6] rfl)
                    · have hF := q_if_t (by first | exact c_27 | exact Classical.not_not.mp c_27) hF
                      refine lv_iload hx hb dX7_near_121 (lv_at hl 1 rfl) ?_
                      refine lv_goto (tgt := 128) hx hb dX7_near_123 (by decide) ?_
                      refine lv_istore (lv' := [(5, .int v6_17), (7, .int r_20), (6, .int v6_17), (4, .int r_12), (0, .ref qM), (1, .int a1), (2, .int a2)]) hx hb dX7_near_128 hl (by decide) rfl (fun ls hl => ?_)
                      refine lv_iinc (v := v6_17 + (-1)) (lv' := [(6, .int (v6_17 + (-1))), (5, .int v6_17), (7, .int r_20), (4, .int r_12), (0, .ref qM), (1, .int a1), (2, .int a2)]) hx hb dX7_near_130 hl (k := 2) rfl rfl (by decide) rfl (fun ls hl => ?_)
                      refine lv_goto (tgt := 72) hx hb dX7_near_133 (by decide) ?_
                      exact ag (v6_17 + (-1), v6_17) hF _ _ _ hP hD hS (lv_sub hl [0, 1, 3, 4, 5, 6] rfl)
          · have hF := q_if_t (by first | exact c_16 | exact Classical.not_not.mp c_16) hF
            refine lv_iload hx hb dX7_near_61 (lv_at hl 0 rfl) ?_
            cases hF
            exact r_iret hx hb hr hlk hS () rfl hP hD dX7_near_63
        · have hF := q_if_f c_15 hF
          refine lv_bipush (v := (-6)) hx hb dX7_near_54 (by decide) ?_
          cases hF
          exact r_iret hx hb hr hlk hS () rfl hP hD dX7_near_56
      · have hF := q_if_t (by first | exact c_9 | exact Classical.not_not.mp c_9) hF
        refine lv_bipush (v := (-2)) hx hb dX7_near_26 (by decide) ?_
        cases hF
        exact r_iret hx hb hr hlk hS () rfl hP hD dX7_near_28
    · have hF := q_if_t (by first | exact c_6 | exact Classical.not_not.mp c_6) hF
      refine lv_iconst (v := (-1)) hx hb dX7_near_14 (by decide) ?_
      cases hF
      exact r_iret hx hb hr hlk hS () rfl hP hD dX7_near_15
set_option maxHeartbeats 4000000 in
set_option maxRecDepth 100000 in
theorem m_X7_behindBed (l : Launch) (g : GT) (sz : Nat) (qM : Nat) (AM : Nat → Nat) (σM : qS) (ℓM : qL) (a1 : Int32) (a2 : Int32) (rr : Int32) (hF : f_X7_behindBed σM ℓM a1 a2 = some rr) : Ci l yX7_behindBed wsX7_behindBed { frames := 1, cells := 0, slots := 0, locals := 21 } g sz [.ref qM, .int a1, .int a2] (wX7 g qM AM σM ℓM) rr (wX7 g qM AM σM ℓM) := by
  refine gMet_i (cc := cX7_behindBed) (maxL := 3) (ret := (some .int)) (by decide) rfl (Nat.le_of_ble_eq_true rfl) ?_
  intro p e s m args below meth c Z hx hb hr F hlk hnm hK hN hA H locs hP hD hS ls hl
  have hl : lv_has ls 3 [(0, .ref qM), (1, .int a1), (2, .int a2)] := hl
  have F : CallFix p m c cX7_behindBed 3 s args wsX7_behindBed RX7 := F
  have hts := F.2.2.2.2
  have hown : s.vm.findClass RX7 = some m.cls := F.2.2.2.1
  have hi7 : ∀ w ∈ u_ws RX7 TX7 34, w ∈ wsX7_behindBed := by decide +kernel
  dsimp only [f_X7_behindBed] at hF
  refine lv_aload_n hx hb dX7_behindBed_0 rfl (lv_at hl 0 rfl) ?_
  refine va_get (D := g.1) (ci := 7) (v := .ref (AM 2)) (C := RX7) (T := TX7) (N := 34) hx hb hts hi7 hown hK hP 0 rfl rfl 2 (by decide) (hts (.fieldLink RX7 16 "PanTalesModel" "damp" "[I") (by decide +kernel)) (fun _ h9 => h9) rfl dX7_behindBed_1 ?_
  refine lv_iload_n hx hb dX7_behindBed_4 rfl (lv_at hl 2 rfl) ?_
  obtain ⟨r_1, i_2, e_3, hF⟩ := q_rd_s hF
  refine r_iald (v := r_1) hx hb hK hP 3 rfl i_2 e_3 dX7_behindBed_5 ?_
  refine lv_if_ne (tgt := 30) hx hb dX7_behindBed_6 (by decide) (fun c_4 => ?_) (fun c_4 => ?_)
  · have hF := q_if_f c_4 hF
    refine lv_bipush (v := (-6)) hx hb dX7_behindBed_30 (by decide) ?_
    cases hF
    exact r_iret hx hb hr hlk hS () rfl hP hD dX7_behindBed_32
  · have hF := q_if_t (by first | exact c_4 | exact Classical.not_not.mp c_4) hF
    refine lv_iload_n hx hb dX7_behindBed_9 rfl (lv_at hl 1 rfl) ?_
    refine lv_bipush (v := 9) hx hb dX7_behindBed_10 (by decide) ?_
    refine lv_aload_n hx hb dX7_behindBed_12 rfl (lv_at hl 0 rfl) ?_
    refine va_get (D := g.1) (ci := 7) (v := .ref (AM 1)) (C := RX7) (T := TX7) (N := 34) hx hb hts hi7 hown hK hP 0 rfl rfl 1 (by decide) (hts (.fieldLink RX7 13 "PanTalesModel" "doubt" "[I") (by decide +kernel)) (fun _ h9 => h9) rfl dX7_behindBed_13 ?_
    refine lv_iload_n hx hb dX7_behindBed_16 rfl (lv_at hl 2 rfl) ?_
    obtain ⟨r_5, i_6, e_7, hF⟩ := q_rd_s hF
    refine r_iald (v := r_5) hx hb hK hP 2 rfl i_6 e_7 dX7_behindBed_17 ?_
    refine lv_imul hx hb dX7_behindBed_18 ?_
    refine lv_icmp_le (tgt := 30) hx hb dX7_behindBed_19 (by decide) (fun c_8 => ?_) (fun c_8 => ?_)
    · have hF := q_if_t c_8 hF
      refine lv_bipush (v := (-6)) hx hb dX7_behindBed_30 (by decide) ?_
      cases hF
      exact r_iret hx hb hr hlk hS () rfl hP hD dX7_behindBed_32
    · have hF := q_if_f c_8 hF
      refine lv_iload_n hx hb dX7_behindBed_22 rfl (lv_at hl 1 rfl) ?_
      refine lv_iconst (v := 5) hx hb dX7_behindBed_23 (by decide) ?_
      obtain ⟨r_9, h_10, hF⟩ := q_cl_s hF
      refine gcP (As := [.int a1, .int 5]) (rest := []) F (m_X7_cooled l a1 (5 : Int32) r_9 h_10) gX7_behindBed_X7_cooled kX7_cooled rfl rfl rfl ⟨(Nat.le_of_ble_eq_true rfl), (Nat.le_of_ble_eq_true rfl)⟩ rfl rfl hl.1 (Nat.le_of_ble_eq_true rfl) dX7_behindBed_24 ⟨(Nat.le_of_ble_eq_true rfl), (Nat.le_of_ble_eq_true rfl)⟩ ?_
      refine lv_goto (tgt := 32) hx hb dX7_behindBed_27 (by decide) ?_
      cases hF
      exact r_iret hx hb hr hlk hS () rfl hP hD dX7_behindBed_32
set_option maxHeartbeats 4000000 in
set_option maxRecDepth 100000 in
theorem m_X7_hottest (l : Launch) (g : GT) (sz : Nat) (qM : Nat) (AM : Nat → Nat) (σM : qS) (ℓM : qL) (a1 : Int32) (a2 : Int32) (rr : Int32) (hF : f_X7_hottest σM ℓM a1 a2 = some rr) : Ci l yX7_hottest wsX7_hottest { frames := 2, cells := 0, slots := 0, locals := 43 } g sz [.ref qM, .int a1, .int a2] (wX7 g qM AM σM ℓM) rr (wX7 g qM AM σM ℓM) := by
  refine gMet_i (cc := cX7_hottest) (maxL := 8) (ret := (some .int)) (by decide) rfl (Nat.le_of_ble_eq_true rfl) ?_
  intro p e s m args below meth c Z hx hb hr F hlk hnm hK hN hA H locs hP hD hS ls hl
  have hl : lv_has ls 8 [(0, .ref qM), (1, .int a1), (2, .int a2)] := hl
  have F : CallFix p m c cX7_hottest 8 s args wsX7_hottest RX7 := F
  have hts := F.2.2.2.2
  have hown : s.vm.findClass RX7 = some m.cls := F.2.2.2.1
  have hi7 : ∀ w ∈ u_ws RX7 TX7 34, w ∈ wsX7_hottest := by decide +kernel
  dsimp only [f_X7_hottest] at hF
  refine lv_iload_n hx hb dX7_hottest_0 rfl (lv_at hl 1 rfl) ?_
  refine lv_iconst (v := 1) hx hb dX7_hottest_1 (by decide) ?_
  refine lv_iload_n hx hb dX7_hottest_2 rfl (lv_at hl 2 rfl) ?_
  refine lv_ishl hx hb dX7_hottest_3 ?_
  refine lv_iconst (v := (-1)) hx hb dX7_hottest_4 (by decide) ?_
  refine lv_ixor hx hb dX7_hottest_5 ?_
  refine lv_iand hx hb dX7_hottest_6 ?_
  obtain ⟨v3_1, e_2, hF⟩ := q_bd_s hF
  refine gtop e_2 ?_
  refine lv_istore_n (lv' := [(3, .int v3_1), (0, .ref qM), (1, .int a1), (2, .int a2)]) hx hb dX7_hottest_7 rfl hl (by decide) rfl (fun ls hl => ?_)
  refine lv_iload_n hx hb dX7_hottest_8 rfl (lv_at hl 0 rfl) ?_
  refine lv_if_ne (tgt := 15) hx hb dX7_hottest_9 (by decide) (fun c_3 => ?_) (fun c_3 => ?_)
  · have hF := q_if_f c_3 hF
    refine lv_bipush (v := (-6)) hx hb dX7_hottest_15 (by decide) ?_
    refine lv_istore (lv' := [(4, .int (-6)), (3, .int v3_1), (0, .ref qM), (1, .int a1), (2, .int a2)]) hx hb dX7_hottest_17 hl (by decide) rfl (fun ls hl => ?_)
    refine lv_iconst (v := 0) hx hb dX7_hottest_19 (by decide) ?_
    refine lv_istore (lv' := [(5, .int 0), (4, .int (-6)), (3, .int v3_1), (0, .ref qM), (1, .int a1), (2, .int a2)]) hx hb dX7_hottest_20 hl (by decide) rfl (fun ls hl => ?_)
    refine q_loop (fun u0 => wX7 g qM AM σM ℓM) (fun u0 => [(5, .int u0.1), (4, .int u0.2), (3, .int v3_1), (0, .ref qM), (2, .int a2)]) 114 hF ?_ ?_ hP hD hS (lv_sub hl [0, 1, 2, 3, 5] rfl)
    · rintro ⟨v5_4, v4_4⟩ hF H locs ls hP hD hS hl
      try dsimp only at hF
      have hP : va_P g.1 vwCl (wX7 g qM AM σM ℓM) H := hP
      have hD : va_D Z (wX7 g qM AM σM ℓM) := hD
      have hl : lv_has ls 8 [(5, .int v5_4), (4, .int v4_4), (3, .int v3_1), (0, .ref qM), (2, .int a2)] := hl
      refine lv_iload hx hb dX7_hottest_114 (lv_at hl 1 rfl) ?_
      cases hF
      exact r_iret hx hb hr hlk hS () rfl hP hD dX7_hottest_116
    · rintro k again kk ag ⟨v5_4, v4_4⟩ hF H locs ls hP hD hS hl
      dsimp only [b_X7_hottest_22] at hF
      have hP : va_P g.1 vwCl (wX7 g qM AM σM ℓM) H := hP
      have hD : va_D Z (wX7 g qM AM σM ℓM) := hD
      have hl : lv_has ls 8 [(5, .int v5_4), (4, .int v4_4), (3, .int v3_1), (0, .ref qM), (2, .int a2)] := hl
      refine lv_iload hx hb dX7_hottest_22 (lv_at hl 0 rfl) ?_
      refine lv_bipush (v := 10) hx hb dX7_hottest_24 (by decide) ?_
      refine lv_icmp_ge (tgt := 114) hx hb dX7_hottest_26 (by decide) (fun c_5 => ?_) (fun c_5 => ?_)
      · have hF := q_if_t c_5 hF
        exact kk (v5_4, v4_4) hF _ _ _ hP hD hS (lv_sub hl [0, 1, 2, 3, 4] rfl)
      · have hF := q_if_f c_5 hF
        refine lv_iload_n hx hb dX7_hottest_29 rfl (lv_at hl 2 rfl) ?_
        refine lv_iload hx hb dX7_hottest_30 (lv_at hl 0 rfl) ?_
        refine lv_ishr hx hb dX7_hottest_32 ?_
        refine lv_iconst (v := 1) hx hb dX7_hottest_33 (by decide) ?_
        refine lv_iand hx hb dX7_hottest_34 ?_
        refine lv_iconst (v := 1) hx hb dX7_hottest_35 (by decide) ?_
        refine lv_icmp_ne (tgt := 54) hx hb dX7_hottest_36 (by decide) (fun c_6 => ?_) (fun c_6 => ?_)
        · have hF := q_if_f c_6 hF
          refine lv_bipush (v := (-6)) hx hb dX7_hottest_54 (by decide) ?_
          refine lv_istore (lv' := [(6, .int (-6)), (5, .int v5_4), (4, .int v4_4), (3, .int v3_1), (0, .ref qM), (2, .int a2)]) hx hb dX7_hottest_56 hl (by decide) rfl (fun ls hl => ?_)
          refine lv_iload hx hb dX7_hottest_58 (lv_at hl 0 rfl) ?_
          refine lv_if_ge (tgt := 68) hx hb dX7_hottest_60 (by decide) (fun c_7 => ?_) (fun c_7 => ?_)
          · first | exact absurd c_7 (by decide) | exact c_7 (by decide)
          · refine lv_bipush (v := (-6)) hx hb dX7_hottest_63 (by decide) ?_
            refine lv_goto (tgt := 90) hx hb dX7_hottest_65 (by decide) ?_
            refine lv_istore (lv' := [(7, .int (-6)), (6, .int (-6)), (5, .int v5_4), (4, .int v4_4), (3, .int v3_1), (0, .ref qM), (2, .int a2)]) hx hb dX7_hottest_90 hl (by decide) rfl (fun ls hl => ?_)
            refine lv_iload hx hb dX7_hottest_92 (lv_at hl 0 rfl) ?_
            refine lv_iload hx hb dX7_hottest_94 (lv_at hl 3 rfl) ?_
            refine lv_icmp_le (tgt := 104) hx hb dX7_hottest_96 (by decide) (fun c_8 => ?_) (fun c_8 => ?_)
            · have hF := q_if_t c_8 hF
              refine lv_iload hx hb dX7_hottest_104 (lv_at hl 3 rfl) ?_
              refine lv_istore (lv' := [(4, .int v4_4), (7, .int (-6)), (6, .int (-6)), (5, .int v5_4), (3, .int v3_1), (0, .ref qM), (2, .int a2)]) hx hb dX7_hottest_106 hl (by decide) rfl (fun ls hl => ?_)
              refine lv_iinc (v := v5_4 + 1) (lv' := [(5, .int (v5_4 + 1)), (4, .int v4_4), (7, .int (-6)), (6, .int (-6)), (3, .int v3_1), (0, .ref qM), (2, .int a2)]) hx hb dX7_hottest_108 hl (k := 3) rfl rfl (by decide) rfl (fun ls hl => ?_)
              refine lv_goto (tgt := 22) hx hb dX7_hottest_111 (by decide) ?_
              exact ag (v5_4 + 1, v4_4) hF _ _ _ hP hD hS (lv_sub hl [0, 1, 4, 5, 6] rfl)
            · have hF := q_if_f c_8 hF
              refine lv_iload hx hb dX7_hottest_99 (lv_at hl 0 rfl) ?_
              refine lv_goto (tgt := 106) hx hb dX7_hottest_101 (by decide) ?_
              refine lv_istore (lv' := [(4, .int (-6)), (7, .int (-6)), (6, .int (-6)), (5, .int v5_4), (3, .int v3_1), (0, .ref qM), (2, .int a2)]) hx hb dX7_hottest_106 hl (by decide) rfl (fun ls hl => ?_)
              refine lv_iinc (v := v5_4 + 1) (lv' := [(5, .int (v5_4 + 1)), (4, .int (-6)), (7, .int (-6)), (6, .int (-6)), (3, .int v3_1), (0, .ref qM), (2, .int a2)]) hx hb dX7_hottest_108 hl (k := 3) rfl rfl (by decide) rfl (fun ls hl => ?_)
              refine lv_goto (tgt := 22) hx hb dX7_hottest_111 (by decide) ?_
              exact ag (v5_4 + 1, (-6 : Int32)) hF _ _ _ hP hD hS (lv_sub hl [0, 1, 4, 5, 6] rfl)
        · have hF := q_if_t (by first | exact c_6 | exact Classical.not_not.mp c_6) hF
          refine lv_aload_n hx hb dX7_hottest_39 rfl (lv_at hl 3 rfl) ?_
          refine va_get (D := g.1) (ci := 7) (v := .ref (AM 25)) (C := RX7) (T := TX7) (N := 34) hx hb hts hi7 hown hK hP 0 rfl rfl 25 (by decide) (hts (.fieldLink RX7 49 "PanTalesModel" "hot" "[I") (by decide +kernel)) (fun _ h9 => h9) rfl dX7_hottest_40 ?_
          refine lv_bipush (v := 10) hx hb dX7_hottest_43 (by decide) ?_
          refine lv_iload_n hx hb dX7_hottest_45 rfl (lv_at hl 2 rfl) ?_
          refine lv_imul hx hb dX7_hottest_46 ?_
          refine lv_iload hx hb dX7_hottest_47 (lv_at hl 0 rfl) ?_
          refine lv_iadd hx hb dX7_hottest_49 ?_
          obtain ⟨r_9, i_10, e_11, hF⟩ := q_rd_s hF
          refine r_iald (v := r_9) hx hb hK hP 14 rfl i_10 e_11 dX7_hottest_50 ?_
          refine lv_goto (tgt := 56) hx hb dX7_hottest_51 (by decide) ?_
          refine lv_istore (lv' := [(6, .int r_9), (5, .int v5_4), (4, .int v4_4), (3, .int v3_1), (0, .ref qM), (2, .int a2)]) hx hb dX7_hottest_56 hl (by decide) rfl (fun ls hl => ?_)
          refine lv_iload hx hb dX7_hottest_58 (lv_at hl 0 rfl) ?_
          refine lv_if_ge (tgt := 68) hx hb dX7_hottest_60 (by decide) (fun c_12 => ?_) (fun c_12 => ?_)
          · have hF := q_if_t c_12 hF
            refine lv_aload_n hx hb dX7_hottest_68 rfl (lv_at hl 4 rfl) ?_
            refine lv_iload hx hb dX7_hottest_69 (lv_at hl 0 rfl) ?_
            refine lv_aload_n hx hb dX7_hottest_71 rfl (lv_at hl 4 rfl) ?_
            refine va_get (D := g.1) (ci := 7) (v := .ref (AM 24)) (C := RX7) (T := TX7) (N := 34) hx hb hts hi7 hown hK hP 0 rfl rfl 24 (by decide) (hts (.fieldLink RX7 46 "PanTalesModel" "off" "[I") (by decide +kernel)) (fun _ h9 => h9) rfl dX7_hottest_72 ?_
            refine lv_bipush (v := 11) hx hb dX7_hottest_75 (by decide) ?_
            refine lv_iload hx hb dX7_hottest_77 (lv_at hl 1 rfl) ?_
            refine lv_imul hx hb dX7_hottest_79 ?_
            refine lv_iload_n hx hb dX7_hottest_80 rfl (lv_at hl 5 rfl) ?_
            refine lv_iadd hx hb dX7_hottest_81 ?_
            obtain ⟨r_13, i_14, e_15, hF⟩ := q_rd_s hF
            refine r_iald (v := r_13) hx hb hK hP 13 rfl i_14 e_15 dX7_hottest_82 ?_
            obtain ⟨r_16, h_17, hF⟩ := q_cl_s hF
            refine gcP (As := [.int r_9, .int r_13]) (rest := [.ref qM]) F (m_X7_cooled l r_9 r_13 r_16 h_17) gX7_hottest_X7_cooled kX7_cooled rfl rfl rfl ⟨(Nat.le_of_ble_eq_true rfl), (Nat.le_of_ble_eq_true rfl)⟩ rfl rfl hl.1 (Nat.le_of_ble_eq_true rfl) dX7_hottest_83 ⟨(Nat.le_of_ble_eq_true rfl), (Nat.le_of_ble_eq_true rfl)⟩ ?_
            refine lv_iload_n hx hb dX7_hottest_86 rfl (lv_at hl 5 rfl) ?_
            obtain ⟨r_18, h_19, hF⟩ := q_cl_s hF
            refine gcV_i (As := [.int r_16, .int a2]) (rest := []) (ci := 7) (q := (RX7, TX7, 34)) F hK hN hP hD hS hA (m_X7_behindBed l g H.size qM AM σM ℓM r_16 a2 r_18 h_19) gX7_hottest_X7_behindBed kX7_behindBed rfl rfl rfl rfl ⟨(Nat.le_of_ble_eq_true rfl), (Nat.le_of_ble_eq_true rfl)⟩ [0, 1, 2, 3, 4, 5, 6, 7, 8, 9, 10, 11, 12, 13, 14, 15, 16, 17, 18, 19, 20] [] rfl rfl rfl (by decide) rfl rfl rfl rfl rfl hl.1 (Nat.le_of_ble_eq_true rfl) dX7_hottest_87 ⟨(Nat.le_of_ble_eq_true rfl), (Nat.le_of_ble_eq_true rfl)⟩ (fun r_w u_w H locs hw hP hD hS => ?_)
            have hP : va_P g.1 vwCl (wX7 g qM AM σM ℓM) H := hP
            have hD : va_D Z (wX7 g qM AM σM ℓM) := hD
            obtain rfl : r_18 = r_w := hw.symm
            refine lv_istore (lv' := [(7, .int r_18), (6, .int r_9), (5, .int v5_4), (4, .int v4_4), (3, .int v3_1), (0, .ref qM), (2, .int a2)]) hx hb dX7_hottest_90 hl (by decide) rfl (fun ls hl => ?_)
            refine lv_iload hx hb dX7_hottest_92 (lv_at hl 0 rfl) ?_
            refine lv_iload hx hb dX7_hottest_94 (lv_at hl 3 rfl) ?_
            refine lv_icmp_le (tgt := 104) hx hb dX7_hottest_96 (by decide) (fun c_20 => ?_) (fun c_20 => ?_)
            · have hF := q_if_t c_20 hF
              refine lv_iload hx hb dX7_hottest_104 (lv_at hl 3 rfl) ?_
              refine lv_istore (lv' := [(4, .int v4_4), (7, .int r_18), (6, .int r_9), (5, .int v5_4), (3, .int v3_1), (0, .ref qM), (2, .int a2)]) hx hb dX7_hottest_106 hl (by decide) rfl (fun ls hl => ?_)
              refine lv_iinc (v := v5_4 + 1) (lv' := [(5, .int (v5_4 + 1)), (4, .int v4_4), (7, .int r_18), (6, .int r_9), (3, .int v3_1), (0, .ref qM), (2, .int a2)]) hx hb dX7_hottest_108 hl (k := 3) rfl rfl (by decide) rfl (fun ls hl => ?_)
              refine lv_goto (tgt := 22) hx hb dX7_hottest_111 (by decide) ?_
              exact ag (v5_4 + 1, v4_4) hF _ _ _ hP hD hS (lv_sub hl [0, 1, 4, 5, 6] rfl)
            · have hF := q_if_f c_20 hF
              refine lv_iload hx hb dX7_hottest_99 (lv_at hl 0 rfl) ?_
              refine lv_goto (tgt := 106) hx hb dX7_hottest_101 (by decide) ?_
              refine lv_istore (lv' := [(4, .int r_18), (7, .int r_18), (6, .int r_9), (5, .int v5_4), (3, .int v3_1), (0, .ref qM), (2, .int a2)]) hx hb dX7_hottest_106 hl (by decide) rfl (fun ls hl => ?_)
              refine lv_iinc (v := v5_4 + 1) (lv' := [(5, .int (v5_4 + 1)), (4, .int r_18), (7, .int r_18), (6, .int r_9), (3, .int v3_1), (0, .ref qM), (2, .int a2)]) hx hb dX7_hottest_108 hl (k := 3) rfl rfl (by decide) rfl (fun ls hl => ?_)
              refine lv_goto (tgt := 22) hx hb dX7_hottest_111 (by decide) ?_
              exact ag (v5_4 + 1, r_18) hF _ _ _ hP hD hS (lv_sub hl [0, 1, 4, 5, 6] rfl)
          · have hF := q_if_f c_12 hF
            refine lv_bipush (v := (-6)) hx hb dX7_hottest_63 (by decide) ?_
            refine lv_goto (tgt := 90) hx hb dX7_hottest_65 (by decide) ?_
            refine lv_istore (lv' := [(7, .int (-6)), (6, .int r_9), (5, .int v5_4), (4, .int v4_4), (3, .int v3_1), (0, .ref qM), (2, .int a2)]) hx hb dX7_hottest_90 hl (by decide) rfl (fun ls hl => ?_)
            refine lv_iload hx hb dX7_hottest_92 (lv_at hl 0 rfl) ?_
            refine lv_iload hx hb dX7_hottest_94 (lv_at hl 3 rfl) ?_
            refine lv_icmp_le (tgt := 104) hx hb dX7_hottest_96 (by decide) (fun c_21 => ?_) (fun c_21 => ?_)
            · have hF := q_if_t c_21 hF
              refine lv_iload hx hb dX7_hottest_104 (lv_at hl 3 rfl) ?_
              refine lv_istore (lv' := [(4, .int v4_4), (7, .int (-6)), (6, .int r_9), (5, .int v5_4), (3, .int v3_1), (0, .ref qM), (2, .int a2)]) hx hb dX7_hottest_106 hl (by decide) rfl (fun ls hl => ?_)
              refine lv_iinc (v := v5_4 + 1) (lv' := [(5, .int (v5_4 + 1)), (4, .int v4_4), (7, .int (-6)), (6, .int r_9), (3, .int v3_1), (0, .ref qM), (2, .int a2)]) hx hb dX7_hottest_108 hl (k := 3) rfl rfl (by decide) rfl (fun ls hl => ?_)
              refine lv_goto (tgt := 22) hx hb dX7_hottest_111 (by decide) ?_
              exact ag (v5_4 + 1, v4_4) hF _ _ _ hP hD hS (lv_sub hl [0, 1, 4, 5, 6] rfl)
            · have hF := q_if_f c_21 hF
              refine lv_iload hx hb dX7_hottest_99 (lv_at hl 0 rfl) ?_
              refine lv_goto (tgt := 106) hx hb dX7_hottest_101 (by decide) ?_
              refine lv_istore (lv' := [(4, .int (-6)), (7, .int (-6)), (6, .int r_9), (5, .int v5_4), (3, .int v3_1), (0, .ref qM), (2, .int a2)]) hx hb dX7_hottest_106 hl (by decide) rfl (fun ls hl => ?_)
              refine lv_iinc (v := v5_4 + 1) (lv' := [(5, .int (v5_4 + 1)), (4, .int (-6)), (7, .int (-6)), (6, .int r_9), (3, .int v3_1), (0, .ref qM), (2, .int a2)]) hx hb dX7_hottest_108 hl (k := 3) rfl rfl (by decide) rfl (fun ls hl => ?_)
              refine lv_goto (tgt := 22) hx hb dX7_hottest_111 (by decide) ?_
              exact ag (v5_4 + 1, (-6 : Int32)) hF _ _ _ hP hD hS (lv_sub hl [0, 1, 4, 5, 6] rfl)
  · have hF := q_if_t (by first | exact c_3 | exact Classical.not_not.mp c_3) hF
    refine lv_bipush (v := (-6)) hx hb dX7_hottest_12 (by decide) ?_
    cases hF
    exact r_iret hx hb hr hlk hS () rfl hP hD dX7_hottest_14
set_option maxHeartbeats 4000000 in
set_option maxRecDepth 100000 in
theorem m_X7_findHot (l : Launch) (g : GT) (sz : Nat) (qM : Nat) (AM : Nat → Nat) (σM : qS) (ℓM : qL) (a1 : Int32) (a2 : Int32) (rr : Int32) (σM' : qS) (hF : f_X7_findHot σM ℓM a1 a2 = some (rr, σM')) : Ci l yX7_findHot wsX7_findHot { frames := 3, cells := 0, slots := 0, locals := 70 } g sz [.ref qM, .int a1, .int a2] (wX7 g qM AM σM ℓM) rr (wX7 g qM AM σM' ℓM) := by
  refine gMet_i (cc := cX7_findHot) (maxL := 8) (ret := (some .boolean)) (by decide) rfl (Nat.le_of_ble_eq_true rfl) ?_
  intro p e s m args below meth c Z hx hb hr F hlk hnm hK hN hA H locs hP hD hS ls hl
  have hl : lv_has ls 8 [(0, .ref qM), (1, .int a1), (2, .int a2)] := hl
  have F : CallFix p m c cX7_findHot 8 s args wsX7_findHot RX7 := F
  have hts := F.2.2.2.2
  have hown : s.vm.findClass RX7 = some m.cls := F.2.2.2.1
  have hi7 : ∀ w ∈ u_ws RX7 TX7 34, w ∈ wsX7_findHot := by decide +kernel
  dsimp only [f_X7_findHot] at hF
  refine lv_iconst (v := 0) hx hb dX7_findHot_0 (by decide) ?_
  refine lv_istore_n (lv' := [(3, .int 0), (0, .ref qM), (1, .int a1), (2, .int a2)]) hx hb dX7_findHot_1 rfl hl (by decide) rfl (fun ls hl => ?_)
  refine lv_iconst (v := 0) hx hb dX7_findHot_2 (by decide) ?_
  refine lv_istore (lv' := [(4, .int 0), (3, .int 0), (0, .ref qM), (1, .int a1), (2, .int a2)]) hx hb dX7_findHot_3 hl (by decide) rfl (fun ls hl => ?_)
  refine q_loop (fun u0 => wX7 g qM AM u0.2.1 ℓM) (fun u0 => [(4, .int u0.1), (3, .int u0.2.2), (0, .ref qM), (1, .int a1), (2, .int a2)]) 126 hF ?_ ?_ hP hD hS (lv_sub hl [0, 1, 2, 3, 4] rfl)
  · rintro ⟨v4_1, σM_1, v3_1⟩ hF H locs ls hP hD hS hl
    try dsimp only at hF
    have hP : va_P g.1 vwCl (wX7 g qM AM σM_1 ℓM) H := hP
    have hD : va_D Z (wX7 g qM AM σM_1 ℓM) := hD
    have hl : lv_has ls 8 [(4, .int v4_1), (3, .int v3_1), (0, .ref qM), (1, .int a1), (2, .int a2)] := hl
    refine lv_iload_n hx hb dX7_findHot_126 rfl (lv_at hl 1 rfl) ?_
    obtain ⟨b_2, hF⟩ := q_chk_s hF
    cases hF
    exact r_zret hx hb hr hlk hS () (q_isB_nar b_2) rfl hP hD dX7_findHot_127
  · rintro k again kk ag ⟨v4_1, σM_1, v3_1⟩ hF H locs ls hP hD hS hl
    dsimp only [b_X7_findHot_5] at hF
    have hP : va_P g.1 vwCl (wX7 g qM AM σM_1 ℓM) H := hP
    have hD : va_D Z (wX7 g qM AM σM_1 ℓM) := hD
    have hl : lv_has ls 8 [(4, .int v4_1), (3, .int v3_1), (0, .ref qM), (1, .int a1), (2, .int a2)] := hl
    refine lv_iload hx hb dX7_findHot_5 (lv_at hl 0 rfl) ?_
    refine lv_bipush (v := 10) hx hb dX7_findHot_7 (by decide) ?_
    refine lv_icmp_ge (tgt := 126) hx hb dX7_findHot_9 (by decide) (fun c_3 => ?_) (fun c_3 => ?_)
    · have hF := q_if_t c_3 hF
      exact kk (v4_1, σM_1, v3_1) hF _ _ _ hP hD hS (lv_sub hl [0, 1, 2, 3, 4] rfl)
    · have hF := q_if_f c_3 hF
      refine lv_iload_n hx hb dX7_findHot_12 rfl (lv_at hl 3 rfl) ?_
      refine lv_iload hx hb dX7_findHot_13 (lv_at hl 0 rfl) ?_
      refine lv_ishr hx hb dX7_findHot_15 ?_
      refine lv_iconst (v := 1) hx hb dX7_findHot_16 (by decide) ?_
      refine lv_iand hx hb dX7_findHot_17 ?_
      refine lv_iconst (v := 1) hx hb dX7_findHot_18 (by decide) ?_
      refine lv_icmp_ne (tgt := 26) hx hb dX7_findHot_19 (by decide) (fun c_4 => ?_) (fun c_4 => ?_)
      · have hF := q_if_f c_4 hF
        refine lv_iconst (v := 0) hx hb dX7_findHot_26 (by decide) ?_
        refine lv_istore (lv' := [(5, .int 0), (4, .int v4_1), (3, .int v3_1), (0, .ref qM), (1, .int a1), (2, .int a2)]) hx hb dX7_findHot_27 hl (by decide) rfl (fun ls hl => ?_)
        refine lv_iload_n hx hb dX7_findHot_29 rfl (lv_at hl 4 rfl) ?_
        refine lv_iconst (v := 1) hx hb dX7_findHot_30 (by decide) ?_
        refine lv_iload hx hb dX7_findHot_31 (lv_at hl 1 rfl) ?_
        refine lv_ishl hx hb dX7_findHot_33 ?_
        refine lv_icmp_ne (tgt := 41) hx hb dX7_findHot_34 (by decide) (fun c_5 => ?_) (fun c_5 => ?_)
        · have hF := q_if_f c_5 hF
          refine lv_iconst (v := 0) hx hb dX7_findHot_41 (by decide) ?_
          refine lv_istore (lv' := [(6, .int 0), (5, .int 0), (4, .int v4_1), (3, .int v3_1), (0, .ref qM), (1, .int a1), (2, .int a2)]) hx hb dX7_findHot_42 hl (by decide) rfl (fun ls hl => ?_)
          refine lv_iload hx hb dX7_findHot_44 (lv_at hl 0 rfl) ?_
          refine lv_if_eq (tgt := 72) hx hb dX7_findHot_46 (by decide) (fun c_6 => ?_) (fun c_6 => ?_)
          · refine lv_iload hx hb dX7_findHot_72 (lv_at hl 1 rfl) ?_
            refine lv_if_eq (tgt := 87) hx hb dX7_findHot_74 (by decide) (fun c_7 => ?_) (fun c_7 => ?_)
            · refine lv_bipush (v := (-6)) hx hb dX7_findHot_87 (by decide) ?_
              refine lv_istore (lv' := [(7, .int (-6)), (6, .int 0), (5, .int 0), (4, .int v4_1), (3, .int v3_1), (0, .ref qM), (1, .int a1), (2, .int a2)]) hx hb dX7_findHot_89 hl (by decide) rfl (fun ls hl => ?_)
              refine lv_aload_n hx hb dX7_findHot_91 rfl (lv_at hl 5 rfl) ?_
              refine va_get (D := g.1) (ci := 7) (v := .ref (AM 25)) (C := RX7) (T := TX7) (N := 34) hx hb hts hi7 hown hK hP 0 rfl rfl 25 (by decide) (hts (.fieldLink RX7 49 "PanTalesModel" "hot" "[I") (by decide +kernel)) (fun _ h9 => h9) rfl dX7_findHot_92 ?_
              refine lv_bipush (v := 10) hx hb dX7_findHot_95 (by decide) ?_
              refine lv_iload_n hx hb dX7_findHot_97 rfl (lv_at hl 6 rfl) ?_
              refine lv_imul hx hb dX7_findHot_98 ?_
              refine lv_iload hx hb dX7_findHot_99 (lv_at hl 3 rfl) ?_
              refine lv_iadd hx hb dX7_findHot_101 ?_
              refine lv_iload hx hb dX7_findHot_102 (lv_at hl 0 rfl) ?_
              obtain ⟨σM_8, i_9, e_10, hF⟩ := q_wr_s hF
              refine r_iast (f' := upd (σM_1 25) (((10 : Int32) * a1) + v4_1).toNatClampNeg (-6 : Int32)) hx hb hK hP hD hS 14 rfl i_9 (fun _ _ => rfl) dX7_findHot_104 (fun H locs hP hD hS => ?_)
              have hP : va_P g.1 vwCl (wX7 g qM AM (q_up σM_1 25 (upd (σM_1 25) (((10 : Int32) * a1) + v4_1).toNatClampNeg (-6 : Int32))) ℓM) H := hP
              have hD : va_D Z (wX7 g qM AM (q_up σM_1 25 (upd (σM_1 25) (((10 : Int32) * a1) + v4_1).toNatClampNeg (-6 : Int32))) ℓM) := hD
              rw [e_10] at hP hD
              refine lv_iload_n hx hb dX7_findHot_105 rfl (lv_at hl 4 rfl) ?_
              refine lv_if_ne (tgt := 114) hx hb dX7_findHot_106 (by decide) (fun c_11 => ?_) (fun c_11 => ?_)
              · have hF := q_if_f c_11 hF
                refine lv_iconst (v := 1) hx hb dX7_findHot_114 (by decide) ?_
                refine lv_goto (tgt := 119) hx hb dX7_findHot_115 (by decide) ?_
                refine lv_istore_n (lv' := [(3, .int 1), (7, .int (-6)), (6, .int 0), (5, .int 0), (4, .int v4_1), (0, .ref qM), (1, .int a1), (2, .int a2)]) hx hb dX7_findHot_119 rfl hl (by decide) rfl (fun ls hl => ?_)
                refine lv_iinc (v := v4_1 + 1) (lv' := [(4, .int (v4_1 + 1)), (3, .int 1), (7, .int (-6)), (6, .int 0), (5, .int 0), (0, .ref qM), (1, .int a1), (2, .int a2)]) hx hb dX7_findHot_120 hl (k := 4) rfl rfl (by decide) rfl (fun ls hl => ?_)
                refine lv_goto (tgt := 5) hx hb dX7_findHot_123 (by decide) ?_
                exact ag (v4_1 + 1, σM_8, (1 : Int32)) hF _ _ _ hP hD hS (lv_sub hl [0, 1, 5, 6, 7] rfl)
              · have hF := q_if_t (by first | exact c_11 | exact Classical.not_not.mp c_11) hF
                refine lv_iload hx hb dX7_findHot_109 (lv_at hl 0 rfl) ?_
                refine lv_if_lt (tgt := 118) hx hb dX7_findHot_111 (by decide) (fun c_12 => ?_) (fun c_12 => ?_)
                · refine lv_iconst (v := 0) hx hb dX7_findHot_118 (by decide) ?_
                  refine lv_istore_n (lv' := [(3, .int 0), (7, .int (-6)), (6, .int 0), (5, .int 0), (4, .int v4_1), (0, .ref qM), (1, .int a1), (2, .int a2)]) hx hb dX7_findHot_119 rfl hl (by decide) rfl (fun ls hl => ?_)
                  refine lv_iinc (v := v4_1 + 1) (lv' := [(4, .int (v4_1 + 1)), (3, .int 0), (7, .int (-6)), (6, .int 0), (5, .int 0), (0, .ref qM), (1, .int a1), (2, .int a2)]) hx hb dX7_findHot_120 hl (k := 4) rfl rfl (by decide) rfl (fun ls hl => ?_)
                  refine lv_goto (tgt := 5) hx hb dX7_findHot_123 (by decide) ?_
                  exact ag (v4_1 + 1, σM_8, (0 : Int32)) hF _ _ _ hP hD hS (lv_sub hl [0, 1, 5, 6, 7] rfl)
                · first | exact absurd c_12 (by decide) | exact c_12 (by decide)
            · first | exact absurd c_7 (by decide) | exact c_7 (by decide)
          · first | exact absurd c_6 (by decide) | exact c_6 (by decide)
        · have hF := q_if_t (by first | exact c_5 | exact Classical.not_not.mp c_5) hF
          refine lv_iconst (v := 1) hx hb dX7_findHot_37 (by decide) ?_
          refine lv_goto (tgt := 42) hx hb dX7_findHot_38 (by decide) ?_
          refine lv_istore (lv' := [(6, .int 1), (5, .int 0), (4, .int v4_1), (3, .int v3_1), (0, .ref qM), (1, .int a1), (2, .int a2)]) hx hb dX7_findHot_42 hl (by decide) rfl (fun ls hl => ?_)
          refine lv_iload hx hb dX7_findHot_44 (lv_at hl 0 rfl) ?_
          refine lv_if_eq (tgt := 72) hx hb dX7_findHot_46 (by decide) (fun c_13 => ?_) (fun c_13 => ?_)
          · first | exact absurd c_13 (by decide) | exact c_13 (by decide)
          · refine lv_aload_n hx hb dX7_findHot_49 rfl (lv_at hl 4 rfl) ?_
            refine lv_iload_n hx hb dX7_findHot_50 rfl (lv_at hl 6 rfl) ?_
            refine lv_aload_n hx hb dX7_findHot_51 rfl (lv_at hl 4 rfl) ?_
            refine va_get (D := g.1) (ci := 7) (v := .ref (AM 24)) (C := RX7) (T := TX7) (N := 34) hx hb hts hi7 hown hK hP 0 rfl rfl 24 (by decide) (hts (.fieldLink RX7 46 "PanTalesModel" "off" "[I") (by decide +kernel)) (fun _ h9 => h9) rfl dX7_findHot_52 ?_
            refine lv_bipush (v := 110) hx hb dX7_findHot_55 (by decide) ?_
            refine lv_iload hx hb dX7_findHot_57 (lv_at hl 2 rfl) ?_
            refine lv_iadd hx hb dX7_findHot_59 ?_
            obtain ⟨r_14, i_15, e_16, hF⟩ := q_rd_s hF
            refine r_iald (v := r_14) hx hb hK hP 13 rfl i_15 e_16 dX7_findHot_60 ?_
            obtain ⟨r_17, h_18, hF⟩ := q_cl_s hF
            refine gcP (As := [.int a2, .int r_14]) (rest := [.ref qM]) F (m_X7_cooled l a2 r_14 r_17 h_18) gX7_findHot_X7_cooled kX7_cooled rfl rfl rfl ⟨(Nat.le_of_ble_eq_true rfl), (Nat.le_of_ble_eq_true rfl)⟩ rfl rfl hl.1 (Nat.le_of_ble_eq_true rfl) dX7_findHot_61 ⟨(Nat.le_of_ble_eq_true rfl), (Nat.le_of_ble_eq_true rfl)⟩ ?_
            refine lv_iload hx hb dX7_findHot_64 (lv_at hl 2 rfl) ?_
            obtain ⟨r_19, h_20, hF⟩ := q_cl_s hF
            refine gcV_i (As := [.int r_17, .int v4_1]) (rest := []) (ci := 7) (q := (RX7, TX7, 34)) F hK hN hP hD hS hA (m_X7_behindBed l g H.size qM AM σM_1 ℓM r_17 v4_1 r_19 h_20) gX7_findHot_X7_behindBed kX7_behindBed rfl rfl rfl rfl ⟨(Nat.le_of_ble_eq_true rfl), (Nat.le_of_ble_eq_true rfl)⟩ [0, 1, 2, 3, 4, 5, 6, 7, 8, 9, 10, 11, 12, 13, 14, 15, 16, 17, 18, 19, 20] [] rfl rfl rfl (by decide) rfl rfl rfl rfl rfl hl.1 (Nat.le_of_ble_eq_true rfl) dX7_findHot_66 ⟨(Nat.le_of_ble_eq_true rfl), (Nat.le_of_ble_eq_true rfl)⟩ (fun r_w u_w H locs hw hP hD hS => ?_)
            have hP : va_P g.1 vwCl (wX7 g qM AM σM_1 ℓM) H := hP
            have hD : va_D Z (wX7 g qM AM σM_1 ℓM) := hD
            obtain rfl : r_19 = r_w := hw.symm
            refine lv_goto (tgt := 89) hx hb dX7_findHot_69 (by decide) ?_
            refine lv_istore (lv' := [(7, .int r_19), (6, .int 1), (5, .int 0), (4, .int v4_1), (3, .int v3_1), (0, .ref qM), (1, .int a1), (2, .int a2)]) hx hb dX7_findHot_89 hl (by decide) rfl (fun ls hl => ?_)
            refine lv_aload_n hx hb dX7_findHot_91 rfl (lv_at hl 5 rfl) ?_
            refine va_get (D := g.1) (ci := 7) (v := .ref (AM 25)) (C := RX7) (T := TX7) (N := 34) hx hb hts hi7 hown hK hP 0 rfl rfl 25 (by decide) (hts (.fieldLink RX7 49 "PanTalesModel" "hot" "[I") (by decide +kernel)) (fun _ h9 => h9) rfl dX7_findHot_92 ?_
            refine lv_bipush (v := 10) hx hb dX7_findHot_95 (by decide) ?_
            refine lv_iload_n hx hb dX7_findHot_97 rfl (lv_at hl 6 rfl) ?_
            refine lv_imul hx hb dX7_findHot_98 ?_
            refine lv_iload hx hb dX7_findHot_99 (lv_at hl 3 rfl) ?_
            refine lv_iadd hx hb dX7_findHot_101 ?_
            refine lv_iload hx hb dX7_findHot_102 (lv_at hl 0 rfl) ?_
            obtain ⟨σM_21, i_22, e_23, hF⟩ := q_wr_s hF
            refine r_iast (f' := upd (σM_1 25) (((10 : Int32) * a1) + v4_1).toNatClampNeg r_19) hx hb hK hP hD hS 14 rfl i_22 (fun _ _ => rfl) dX7_findHot_104 (fun H locs hP hD hS => ?_)
            have hP : va_P g.1 vwCl (wX7 g qM AM (q_up σM_1 25 (upd (σM_1 25) (((10 : Int32) * a1) + v4_1).toNatClampNeg r_19)) ℓM) H := hP
            have hD : va_D Z (wX7 g qM AM (q_up σM_1 25 (upd (σM_1 25) (((10 : Int32) * a1) + v4_1).toNatClampNeg r_19)) ℓM) := hD
            rw [e_23] at hP hD
            refine lv_iload_n hx hb dX7_findHot_105 rfl (lv_at hl 4 rfl) ?_
            refine lv_if_ne (tgt := 114) hx hb dX7_findHot_106 (by decide) (fun c_24 => ?_) (fun c_24 => ?_)
            · have hF := q_if_f c_24 hF
              refine lv_iconst (v := 1) hx hb dX7_findHot_114 (by decide) ?_
              refine lv_goto (tgt := 119) hx hb dX7_findHot_115 (by decide) ?_
              refine lv_istore_n (lv' := [(3, .int 1), (7, .int r_19), (6, .int 1), (5, .int 0), (4, .int v4_1), (0, .ref qM), (1, .int a1), (2, .int a2)]) hx hb dX7_findHot_119 rfl hl (by decide) rfl (fun ls hl => ?_)
              refine lv_iinc (v := v4_1 + 1) (lv' := [(4, .int (v4_1 + 1)), (3, .int 1), (7, .int r_19), (6, .int 1), (5, .int 0), (0, .ref qM), (1, .int a1), (2, .int a2)]) hx hb dX7_findHot_120 hl (k := 4) rfl rfl (by decide) rfl (fun ls hl => ?_)
              refine lv_goto (tgt := 5) hx hb dX7_findHot_123 (by decide) ?_
              exact ag (v4_1 + 1, σM_21, (1 : Int32)) hF _ _ _ hP hD hS (lv_sub hl [0, 1, 5, 6, 7] rfl)
            · have hF := q_if_t (by first | exact c_24 | exact Classical.not_not.mp c_24) hF
              refine lv_iload hx hb dX7_findHot_109 (lv_at hl 0 rfl) ?_
              refine lv_if_lt (tgt := 118) hx hb dX7_findHot_111 (by decide) (fun c_25 => ?_) (fun c_25 => ?_)
              · have hF := q_if_t c_25 hF
                refine lv_iconst (v := 0) hx hb dX7_findHot_118 (by decide) ?_
                refine lv_istore_n (lv' := [(3, .int 0), (7, .int r_19), (6, .int 1), (5, .int 0), (4, .int v4_1), (0, .ref qM), (1, .int a1), (2, .int a2)]) hx hb dX7_findHot_119 rfl hl (by decide) rfl (fun ls hl => ?_)
                refine lv_iinc (v := v4_1 + 1) (lv' := [(4, .int (v4_1 + 1)), (3, .int 0), (7, .int r_19), (6, .int 1), (5, .int 0), (0, .ref qM), (1, .int a1), (2, .int a2)]) hx hb dX7_findHot_120 hl (k := 4) rfl rfl (by decide) rfl (fun ls hl => ?_)
                refine lv_goto (tgt := 5) hx hb dX7_findHot_123 (by decide) ?_
                exact ag (v4_1 + 1, σM_21, (0 : Int32)) hF _ _ _ hP hD hS (lv_sub hl [0, 1, 5, 6, 7] rfl)
              · have hF := q_if_f c_25 hF
                refine lv_iconst (v := 1) hx hb dX7_findHot_114 (by decide) ?_
                refine lv_goto (tgt := 119) hx hb dX7_findHot_115 (by decide) ?_
                refine lv_istore_n (lv' := [(3, .int 1), (7, .int r_19), (6, .int 1), (5, .int 0), (4, .int v4_1), (0, .ref qM), (1, .int a1), (2, .int a2)]) hx hb dX7_findHot_119 rfl hl (by decide) rfl (fun ls hl => ?_)
                refine lv_iinc (v := v4_1 + 1) (lv' := [(4, .int (v4_1 + 1)), (3, .int 1), (7, .int r_19), (6, .int 1), (5, .int 0), (0, .ref qM), (1, .int a1), (2, .int a2)]) hx hb dX7_findHot_120 hl (k := 4) rfl rfl (by decide) rfl (fun ls hl => ?_)
                refine lv_goto (tgt := 5) hx hb dX7_findHot_123 (by decide) ?_
                exact ag (v4_1 + 1, σM_21, (1 : Int32)) hF _ _ _ hP hD hS (lv_sub hl [0, 1, 5, 6, 7] rfl)
      · have hF := q_if_t (by first | exact c_4 | exact Classical.not_not.mp c_4) hF
        refine lv_iconst (v := 1) hx hb dX7_findHot_22 (by decide) ?_
        refine lv_goto (tgt := 27) hx hb dX7_findHot_23 (by decide) ?_
        refine lv_istore (lv' := [(5, .int 1), (4, .int v4_1), (3, .int v3_1), (0, .ref qM), (1, .int a1), (2, .int a2)]) hx hb dX7_findHot_27 hl (by decide) rfl (fun ls hl => ?_)
        refine lv_iload_n hx hb dX7_findHot_29 rfl (lv_at hl 4 rfl) ?_
        refine lv_iconst (v := 1) hx hb dX7_findHot_30 (by decide) ?_
        refine lv_iload hx hb dX7_findHot_31 (lv_at hl 1 rfl) ?_
        refine lv_ishl hx hb dX7_findHot_33 ?_
        refine lv_icmp_ne (tgt := 41) hx hb dX7_findHot_34 (by decide) (fun c_26 => ?_) (fun c_26 => ?_)
        · have hF := q_if_f c_26 hF
          refine lv_iconst (v := 0) hx hb dX7_findHot_41 (by decide) ?_
          refine lv_istore (lv' := [(6, .int 0), (5, .int 1), (4, .int v4_1), (3, .int v3_1), (0, .ref qM), (1, .int a1), (2, .int a2)]) hx hb dX7_findHot_42 hl (by decide) rfl (fun ls hl => ?_)
          refine lv_iload hx hb dX7_findHot_44 (lv_at hl 0 rfl) ?_
          refine lv_if_eq (tgt := 72) hx hb dX7_findHot_46 (by decide) (fun c_27 => ?_) (fun c_27 => ?_)
          · refine lv_iload hx hb dX7_findHot_72 (lv_at hl 1 rfl) ?_
            refine lv_if_eq (tgt := 87) hx hb dX7_findHot_74 (by decide) (fun c_28 => ?_) (fun c_28 => ?_)
            · first | exact absurd c_28 (by decide) | exact c_28 (by decide)
            · refine lv_aload_n hx hb dX7_findHot_77 rfl (lv_at hl 4 rfl) ?_
              refine lv_iload_n hx hb dX7_findHot_78 rfl (lv_at hl 5 rfl) ?_
              refine lv_iload hx hb dX7_findHot_79 (lv_at hl 2 rfl) ?_
              obtain ⟨r_29, h_30, hF⟩ := q_cl_s hF
              refine gcV_i (As := [.int a1, .int v4_1]) (rest := []) (ci := 7) (q := (RX7, TX7, 34)) F hK hN hP hD hS hA (m_X7_hottest l g H.size qM AM σM_1 ℓM a1 v4_1 r_29 h_30) gX7_findHot_X7_hottest kX7_hottest rfl rfl rfl rfl ⟨(Nat.le_of_ble_eq_true rfl), (Nat.le_of_ble_eq_true rfl)⟩ [0, 1, 2, 3, 4, 5, 6, 7, 8, 9, 10, 11, 12, 13, 14, 15, 16, 17, 18, 19, 20] [] rfl rfl rfl (by decide) rfl rfl rfl rfl rfl hl.1 (Nat.le_of_ble_eq_true rfl) dX7_findHot_81 ⟨(Nat.le_of_ble_eq_true rfl), (Nat.le_of_ble_eq_true rfl)⟩ (fun r_w u_w H locs hw hP hD hS => ?_)
              have hP : va_P g.1 vwCl (wX7 g qM AM σM_1 ℓM) H := hP
              have hD : va_D Z (wX7 g qM AM σM_1 ℓM) := hD
              obtain rfl : r_29 = r_w := hw.symm
              refine lv_goto (tgt := 89) hx hb dX7_findHot_84 (by decide) ?_
              refine lv_istore (lv' := [(7, .int r_29), (6, .int 0), (5, .int 1), (4, .int v4_1), (3, .int v3_1), (0, .ref qM), (1, .int a1), (2, .int a2)]) hx hb dX7_findHot_89 hl (by decide) rfl (fun ls hl => ?_)
              refine lv_aload_n hx hb dX7_findHot_91 rfl (lv_at hl 5 rfl) ?_
              refine va_get (D := g.1) (ci := 7) (v := .ref (AM 25)) (C := RX7) (T := TX7) (N := 34) hx hb hts hi7 hown hK hP 0 rfl rfl 25 (by decide) (hts (.fieldLink RX7 49 "PanTalesModel" "hot" "[I") (by decide +kernel)) (fun _ h9 => h9) rfl dX7_findHot_92 ?_
              refine lv_bipush (v := 10) hx hb dX7_findHot_95 (by decide) ?_
              refine lv_iload_n hx hb dX7_findHot_97 rfl (lv_at hl 6 rfl) ?_
              refine lv_imul hx hb dX7_findHot_98 ?_
              refine lv_iload hx hb dX7_findHot_99 (lv_at hl 3 rfl) ?_
              refine lv_iadd hx hb dX7_findHot_101 ?_
              refine lv_iload hx hb dX7_findHot_102 (lv_at hl 0 rfl) ?_
              obtain ⟨σM_31, i_32, e_33, hF⟩ := q_wr_s hF
              refine r_iast (f' := upd (σM_1 25) (((10 : Int32) * a1) + v4_1).toNatClampNeg r_29) hx hb hK hP hD hS 14 rfl i_32 (fun _ _ => rfl) dX7_findHot_104 (fun H locs hP hD hS => ?_)
              have hP : va_P g.1 vwCl (wX7 g qM AM (q_up σM_1 25 (upd (σM_1 25) (((10 : Int32) * a1) + v4_1).toNatClampNeg r_29)) ℓM) H := hP
              have hD : va_D Z (wX7 g qM AM (q_up σM_1 25 (upd (σM_1 25) (((10 : Int32) * a1) + v4_1).toNatClampNeg r_29)) ℓM) := hD
              rw [e_33] at hP hD
              refine lv_iload_n hx hb dX7_findHot_105 rfl (lv_at hl 4 rfl) ?_
              refine lv_if_ne (tgt := 114) hx hb dX7_findHot_106 (by decide) (fun c_34 => ?_) (fun c_34 => ?_)
              · have hF := q_if_f c_34 hF
                refine lv_iconst (v := 1) hx hb dX7_findHot_114 (by decide) ?_
                refine lv_goto (tgt := 119) hx hb dX7_findHot_115 (by decide) ?_
                refine lv_istore_n (lv' := [(3, .int 1), (7, .int r_29), (6, .int 0), (5, .int 1), (4, .int v4_1), (0, .ref qM), (1, .int a1), (2, .int a2)]) hx hb dX7_findHot_119 rfl hl (by decide) rfl (fun ls hl => ?_)
                refine lv_iinc (v := v4_1 + 1) (lv' := [(4, .int (v4_1 + 1)), (3, .int 1), (7, .int r_29), (6, .int 0), (5, .int 1), (0, .ref qM), (1, .int a1), (2, .int a2)]) hx hb dX7_findHot_120 hl (k := 4) rfl rfl (by decide) rfl (fun ls hl => ?_)
                refine lv_goto (tgt := 5) hx hb dX7_findHot_123 (by decide) ?_
                exact ag (v4_1 + 1, σM_31, (1 : Int32)) hF _ _ _ hP hD hS (lv_sub hl [0, 1, 5, 6, 7] rfl)
              · have hF := q_if_t (by first | exact c_34 | exact Classical.not_not.mp c_34) hF
                refine lv_iload hx hb dX7_findHot_109 (lv_at hl 0 rfl) ?_
                refine lv_if_lt (tgt := 118) hx hb dX7_findHot_111 (by decide) (fun c_35 => ?_) (fun c_35 => ?_)
                · have hF := q_if_t c_35 hF
                  refine lv_iconst (v := 0) hx hb dX7_findHot_118 (by decide) ?_
                  refine lv_istore_n (lv' := [(3, .int 0), (7, .int r_29), (6, .int 0), (5, .int 1), (4, .int v4_1), (0, .ref qM), (1, .int a1), (2, .int a2)]) hx hb dX7_findHot_119 rfl hl (by decide) rfl (fun ls hl => ?_)
                  refine lv_iinc (v := v4_1 + 1) (lv' := [(4, .int (v4_1 + 1)), (3, .int 0), (7, .int r_29), (6, .int 0), (5, .int 1), (0, .ref qM), (1, .int a1), (2, .int a2)]) hx hb dX7_findHot_120 hl (k := 4) rfl rfl (by decide) rfl (fun ls hl => ?_)
                  refine lv_goto (tgt := 5) hx hb dX7_findHot_123 (by decide) ?_
                  exact ag (v4_1 + 1, σM_31, (0 : Int32)) hF _ _ _ hP hD hS (lv_sub hl [0, 1, 5, 6, 7] rfl)
                · have hF := q_if_f c_35 hF
                  refine lv_iconst (v := 1) hx hb dX7_findHot_114 (by decide) ?_
                  refine lv_goto (tgt := 119) hx hb dX7_findHot_115 (by decide) ?_
                  refine lv_istore_n (lv' := [(3, .int 1), (7, .int r_29), (6, .int 0), (5, .int 1), (4, .int v4_1), (0, .ref qM), (1, .int a1), (2, .int a2)]) hx hb dX7_findHot_119 rfl hl (by decide) rfl (fun ls hl => ?_)
                  refine lv_iinc (v := v4_1 + 1) (lv' := [(4, .int (v4_1 + 1)), (3, .int 1), (7, .int r_29), (6, .int 0), (5, .int 1), (0, .ref qM), (1, .int a1), (2, .int a2)]) hx hb dX7_findHot_120 hl (k := 4) rfl rfl (by decide) rfl (fun ls hl => ?_)
                  refine lv_goto (tgt := 5) hx hb dX7_findHot_123 (by decide) ?_
                  exact ag (v4_1 + 1, σM_31, (1 : Int32)) hF _ _ _ hP hD hS (lv_sub hl [0, 1, 5, 6, 7] rfl)
          · first | exact absurd c_27 (by decide) | exact c_27 (by decide)
        · have hF := q_if_t (by first | exact c_26 | exact Classical.not_not.mp c_26) hF
          refine lv_iconst (v := 1) hx hb dX7_findHot_37 (by decide) ?_
          refine lv_goto (tgt := 42) hx hb dX7_findHot_38 (by decide) ?_
          refine lv_istore (lv' := [(6, .int 1), (5, .int 1), (4, .int v4_1), (3, .int v3_1), (0, .ref qM), (1, .int a1), (2, .int a2)]) hx hb dX7_findHot_42 hl (by decide) rfl (fun ls hl => ?_)
          refine lv_iload hx hb dX7_findHot_44 (lv_at hl 0 rfl) ?_
          refine lv_if_eq (tgt := 72) hx hb dX7_findHot_46 (by decide) (fun c_36 => ?_) (fun c_36 => ?_)
          · first | exact absurd c_36 (by decide) | exact c_36 (by decide)
          · refine lv_aload_n hx hb dX7_findHot_49 rfl (lv_at hl 4 rfl) ?_
            refine lv_iload_n hx hb dX7_findHot_50 rfl (lv_at hl 6 rfl) ?_
            refine lv_aload_n hx hb dX7_findHot_51 rfl (lv_at hl 4 rfl) ?_
            refine va_get (D := g.1) (ci := 7) (v := .ref (AM 24)) (C := RX7) (T := TX7) (N := 34) hx hb hts hi7 hown hK hP 0 rfl rfl 24 (by decide) (hts (.fieldLink RX7 46 "PanTalesModel" "off" "[I") (by decide +kernel)) (fun _ h9 => h9) rfl dX7_findHot_52 ?_
            refine lv_bipush (v := 110) hx hb dX7_findHot_55 (by decide) ?_
            refine lv_iload hx hb dX7_findHot_57 (lv_at hl 2 rfl) ?_
            refine lv_iadd hx hb dX7_findHot_59 ?_
            obtain ⟨r_37, i_38, e_39, hF⟩ := q_rd_s hF
            refine r_iald (v := r_37) hx hb hK hP 13 rfl i_38 e_39 dX7_findHot_60 ?_
            obtain ⟨r_40, h_41, hF⟩ := q_cl_s hF
            refine gcP (As := [.int a2, .int r_37]) (rest := [.ref qM]) F (m_X7_cooled l a2 r_37 r_40 h_41) gX7_findHot_X7_cooled kX7_cooled rfl rfl rfl ⟨(Nat.le_of_ble_eq_true rfl), (Nat.le_of_ble_eq_true rfl)⟩ rfl rfl hl.1 (Nat.le_of_ble_eq_true rfl) dX7_findHot_61 ⟨(Nat.le_of_ble_eq_true rfl), (Nat.le_of_ble_eq_true rfl)⟩ ?_
            refine lv_iload hx hb dX7_findHot_64 (lv_at hl 2 rfl) ?_
            obtain ⟨r_42, h_43, hF⟩ := q_cl_s hF
            refine gcV_i (As := [.int r_40, .int v4_1]) (rest := []) (ci := 7) (q := (RX7, TX7, 34)) F hK hN hP hD hS hA (m_X7_behindBed l g H.size qM AM σM_1 ℓM r_40 v4_1 r_42 h_43) gX7_findHot_X7_behindBed kX7_behindBed rfl rfl rfl rfl ⟨(Nat.le_of_ble_eq_true rfl), (Nat.le_of_ble_eq_true rfl)⟩ [0, 1, 2, 3, 4, 5, 6, 7, 8, 9, 10, 11, 12, 13, 14, 15, 16, 17, 18, 19, 20] [] rfl rfl rfl (by decide) rfl rfl rfl rfl rfl hl.1 (Nat.le_of_ble_eq_true rfl) dX7_findHot_66 ⟨(Nat.le_of_ble_eq_true rfl), (Nat.le_of_ble_eq_true rfl)⟩ (fun r_w u_w H locs hw hP hD hS => ?_)
            have hP : va_P g.1 vwCl (wX7 g qM AM σM_1 ℓM) H := hP
            have hD : va_D Z (wX7 g qM AM σM_1 ℓM) := hD
            obtain rfl : r_42 = r_w := hw.symm
            refine lv_goto (tgt := 89) hx hb dX7_findHot_69 (by decide) ?_
            refine lv_istore (lv' := [(7, .int r_42), (6, .int 1), (5, .int 1), (4, .int v4_1), (3, .int v3_1), (0, .ref qM), (1, .int a1), (2, .int a2)]) hx hb dX7_findHot_89 hl (by decide) rfl (fun ls hl => ?_)
            refine lv_aload_n hx hb dX7_findHot_91 rfl (lv_at hl 5 rfl) ?_
            refine va_get (D := g.1) (ci := 7) (v := .ref (AM 25)) (C := RX7) (T := TX7) (N := 34) hx hb hts hi7 hown hK hP 0 rfl rfl 25 (by decide) (hts (.fieldLink RX7 49 "PanTalesModel" "hot" "[I") (by decide +kernel)) (fun _ h9 => h9) rfl dX7_findHot_92 ?_
            refine lv_bipush (v := 10) hx hb dX7_findHot_95 (by decide) ?_
            refine lv_iload_n hx hb dX7_findHot_97 rfl (lv_at hl 6 rfl) ?_
            refine lv_imul hx hb dX7_findHot_98 ?_
            refine lv_iload hx hb dX7_findHot_99 (lv_at hl 3 rfl) ?_
            refine lv_iadd hx hb dX7_findHot_101 ?_
            refine lv_iload hx hb dX7_findHot_102 (lv_at hl 0 rfl) ?_
            obtain ⟨σM_44, i_45, e_46, hF⟩ := q_wr_s hF
            refine r_iast (f' := upd (σM_1 25) (((10 : Int32) * a1) + v4_1).toNatClampNeg r_42) hx hb hK hP hD hS 14 rfl i_45 (fun _ _ => rfl) dX7_findHot_104 (fun H locs hP hD hS => ?_)
            have hP : va_P g.1 vwCl (wX7 g qM AM (q_up σM_1 25 (upd (σM_1 25) (((10 : Int32) * a1) + v4_1).toNatClampNeg r_42)) ℓM) H := hP
            have hD : va_D Z (wX7 g qM AM (q_up σM_1 25 (upd (σM_1 25) (((10 : Int32) * a1) + v4_1).toNatClampNeg r_42)) ℓM) := hD
            rw [e_46] at hP hD
            refine lv_iload_n hx hb dX7_findHot_105 rfl (lv_at hl 4 rfl) ?_
            refine lv_if_ne (tgt := 114) hx hb dX7_findHot_106 (by decide) (fun c_47 => ?_) (fun c_47 => ?_)
            · have hF := q_if_f c_47 hF
              refine lv_iconst (v := 1) hx hb dX7_findHot_114 (by decide) ?_
              refine lv_goto (tgt := 119) hx hb dX7_findHot_115 (by decide) ?_
              refine lv_istore_n (lv' := [(3, .int 1), (7, .int r_42), (6, .int 1), (5, .int 1), (4, .int v4_1), (0, .ref qM), (1, .int a1), (2, .int a2)]) hx hb dX7_findHot_119 rfl hl (by decide) rfl (fun ls hl => ?_)
              refine lv_iinc (v := v4_1 + 1) (lv' := [(4, .int (v4_1 + 1)), (3, .int 1), (7, .int r_42), (6, .int 1), (5, .int 1), (0, .ref qM), (1, .int a1), (2, .int a2)]) hx hb dX7_findHot_120 hl (k := 4) rfl rfl (by decide) rfl (fun ls hl => ?_)
              refine lv_goto (tgt := 5) hx hb dX7_findHot_123 (by decide) ?_
              exact ag (v4_1 + 1, σM_44, (1 : Int32)) hF _ _ _ hP hD hS (lv_sub hl [0, 1, 5, 6, 7] rfl)
            · have hF := q_if_t (by first | exact c_47 | exact Classical.not_not.mp c_47) hF
              refine lv_iload hx hb dX7_findHot_109 (lv_at hl 0 rfl) ?_
              refine lv_if_lt (tgt := 118) hx hb dX7_findHot_111 (by decide) (fun c_48 => ?_) (fun c_48 => ?_)
              · have hF := q_if_t c_48 hF
                refine lv_iconst (v := 0) hx hb dX7_findHot_118 (by decide) ?_
                refine lv_istore_n (lv' := [(3, .int 0), (7, .int r_42), (6, .int 1), (5, .int 1), (4, .int v4_1), (0, .ref qM), (1, .int a1), (2, .int a2)]) hx hb dX7_findHot_119 rfl hl (by decide) rfl (fun ls hl => ?_)
                refine lv_iinc (v := v4_1 + 1) (lv' := [(4, .int (v4_1 + 1)), (3, .int 0), (7, .int r_42), (6, .int 1), (5, .int 1), (0, .ref qM), (1, .int a1), (2, .int a2)]) hx hb dX7_findHot_120 hl (k := 4) rfl rfl (by decide) rfl (fun ls hl => ?_)
                refine lv_goto (tgt := 5) hx hb dX7_findHot_123 (by decide) ?_
                exact ag (v4_1 + 1, σM_44, (0 : Int32)) hF _ _ _ hP hD hS (lv_sub hl [0, 1, 5, 6, 7] rfl)
              · have hF := q_if_f c_48 hF
                refine lv_iconst (v := 1) hx hb dX7_findHot_114 (by decide) ?_
                refine lv_goto (tgt := 119) hx hb dX7_findHot_115 (by decide) ?_
                refine lv_istore_n (lv' := [(3, .int 1), (7, .int r_42), (6, .int 1), (5, .int 1), (4, .int v4_1), (0, .ref qM), (1, .int a1), (2, .int a2)]) hx hb dX7_findHot_119 rfl hl (by decide) rfl (fun ls hl => ?_)
                refine lv_iinc (v := v4_1 + 1) (lv' := [(4, .int (v4_1 + 1)), (3, .int 1), (7, .int r_42), (6, .int 1), (5, .int 1), (0, .ref qM), (1, .int a1), (2, .int a2)]) hx hb dX7_findHot_120 hl (k := 4) rfl rfl (by decide) rfl (fun ls hl => ?_)
                refine lv_goto (tgt := 5) hx hb dX7_findHot_123 (by decide) ?_
                exact ag (v4_1 + 1, σM_44, (1 : Int32)) hF _ _ _ hP hD hS (lv_sub hl [0, 1, 5, 6, 7] rfl)
set_option maxHeartbeats 4000000 in
set_option maxRecDepth 100000 in
theorem m_X7_round (l : Launch) (g : GT) (sz : Nat) (qM : Nat) (AM : Nat → Nat) (σM : qS) (ℓM : qL) (a1 : Int32) (a2 : Int32) (rr : Int32) (σM' : qS) (hF : f_X7_round σM ℓM a1 a2 = some (rr, σM')) : Ci l yX7_round wsX7_round { frames := 4, cells := 0, slots := 0, locals := 97 } g sz [.ref qM, .int a1, .int a2] (wX7 g qM AM σM ℓM) rr (wX7 g qM AM σM' ℓM) := by
  refine gMet_i (cc := cX7_round) (maxL := 6) (ret := (some .int)) (by decide) rfl (Nat.le_of_ble_eq_true rfl) ?_
  intro p e s m args below meth c Z hx hb hr F hlk hnm hK hN hA H locs hP hD hS ls hl
  have hl : lv_has ls 6 [(0, .ref qM), (1, .int a1), (2, .int a2)] := hl
  have F : CallFix p m c cX7_round 6 s args wsX7_round RX7 := F
  have hts := F.2.2.2.2
  have hown : s.vm.findClass RX7 = some m.cls := F.2.2.2.1
  dsimp only [f_X7_round] at hF
  refine lv_iload_n hx hb dX7_round_0 rfl (lv_at hl 1 rfl) ?_
  refine lv_i2l (v := a1.toInt64) hx hb dX7_round_1 rfl ?_
  refine lv_lconst (v := 0) hx hb dX7_round_2 (by decide) ?_
  refine lv_ldc2 (v := 99) hx hb hown (hts (.constantLong RX7 219 (99)) (by decide +kernel)) dX7_round_3 ?_
  obtain ⟨r_1, h_2, hF⟩ := q_cl_s hF
  refine gcP (As := [.long a1.toInt64, .long 0, .long 99]) (rest := []) F (m_X7_in l a1.toInt64 (0 : Int64) (99 : Int64) r_1 h_2) gX7_round_X7_in kX7_in rfl rfl rfl ⟨(Nat.le_of_ble_eq_true rfl), (Nat.le_of_ble_eq_true rfl)⟩ rfl rfl hl.1 (Nat.le_of_ble_eq_true rfl) dX7_round_6 ⟨(Nat.le_of_ble_eq_true rfl), (Nat.le_of_ble_eq_true rfl)⟩ ?_
  refine lv_if_eq (tgt := 22) hx hb dX7_round_9 (by decide) (fun c_3 => ?_) (fun c_3 => ?_)
  · have hF := q_if_t c_3 hF
    refine lv_bipush (v := (-2)) hx hb dX7_round_22 (by decide) ?_
    cases hF
    exact r_iret hx hb hr hlk hS () rfl hP hD dX7_round_24
  · have hF := q_if_f c_3 hF
    refine lv_iload_n hx hb dX7_round_12 rfl (lv_at hl 2 rfl) ?_
    refine lv_i2l (v := a2.toInt64) hx hb dX7_round_13 rfl ?_
    refine lv_lconst (v := 0) hx hb dX7_round_14 (by decide) ?_
    refine lv_lconst (v := 1) hx hb dX7_round_15 (by decide) ?_
    obtain ⟨r_4, h_5, hF⟩ := q_cl_s hF
    refine gcP (As := [.long a2.toInt64, .long 0, .long 1]) (rest := []) F (m_X7_in l a2.toInt64 (0 : Int64) (1 : Int64) r_4 h_5) gX7_round_X7_in kX7_in rfl rfl rfl ⟨(Nat.le_of_ble_eq_true rfl), (Nat.le_of_ble_eq_true rfl)⟩ rfl rfl hl.1 (Nat.le_of_ble_eq_true rfl) dX7_round_16 ⟨(Nat.le_of_ble_eq_true rfl), (Nat.le_of_ble_eq_true rfl)⟩ ?_
    refine lv_if_ne (tgt := 25) hx hb dX7_round_19 (by decide) (fun c_6 => ?_) (fun c_6 => ?_)
    · have hF := q_if_f c_6 hF
      refine lv_aload_n hx hb dX7_round_25 rfl (lv_at hl 0 rfl) ?_
      obtain ⟨σM_7, h_8, hF⟩ := q_cl_s hF
      refine gcV_v (As := []) (rest := []) (ci := 7) (q := (RX7, TX7, 34)) F hK hN hP hD hS hA (m_X7_findOff l g H.size qM AM σM ℓM σM_7 h_8) gX7_round_X7_findOff kX7_findOff rfl rfl rfl rfl ⟨(Nat.le_of_ble_eq_true rfl), (Nat.le_of_ble_eq_true rfl)⟩ [0, 1, 2, 3, 4, 5, 6, 7, 8, 9, 10, 11, 12, 13, 14, 15, 16, 17, 18, 19, 20] [] rfl rfl rfl (by decide) rfl rfl rfl rfl rfl hl.1 (Nat.le_of_ble_eq_true rfl) dX7_round_26 ⟨(Nat.le_of_ble_eq_true rfl), (Nat.le_of_ble_eq_true rfl)⟩ (fun u_w H locs hw hP hD hS => ?_)
      have hP : va_P g.1 vwCl (wX7 g qM AM σM_7 ℓM) H := hP
      have hD : va_D Z (wX7 g qM AM σM_7 ℓM) := hD
      refine lv_iconst (v := 0) hx hb dX7_round_29 (by decide) ?_
      refine lv_istore_n (lv' := [(3, .int 0), (0, .ref qM), (1, .int a1), (2, .int a2)]) hx hb dX7_round_30 rfl hl (by decide) rfl (fun ls hl => ?_)
      refine lv_iconst (v := 1) hx hb dX7_round_31 (by decide) ?_
      refine lv_istore (lv' := [(4, .int 1), (3, .int 0), (0, .ref qM), (1, .int a1), (2, .int a2)]) hx hb dX7_round_32 hl (by decide) rfl (fun ls hl => ?_)
      refine q_loop (fun u0 => wX7 g qM AM u0.2.1 ℓM) (fun u0 => [(4, .int u0.1), (3, .int u0.2.2), (0, .ref qM), (1, .int a1), (2, .int a2)]) 81 hF ?_ ?_ hP hD hS (lv_sub hl [0, 1, 2, 3, 4] rfl)
      · rintro ⟨v4_9, σM_9, v3_9⟩ hF H locs ls hP hD hS hl
        try dsimp only at hF
        have hP : va_P g.1 vwCl (wX7 g qM AM σM_9 ℓM) H := hP
        have hD : va_D Z (wX7 g qM AM σM_9 ℓM) := hD
        have hl : lv_has ls 6 [(4, .int v4_9), (3, .int v3_9), (0, .ref qM), (1, .int a1), (2, .int a2)] := hl
        refine lv_iload_n hx hb dX7_round_81 rfl (lv_at hl 4 rfl) ?_
        refine lv_if_ne (tgt := 92) hx hb dX7_round_82 (by decide) (fun c_10 => ?_) (fun c_10 => ?_)
        · have hF := q_if_f c_10 hF
          refine lv_iload_n hx hb dX7_round_92 rfl (lv_at hl 1 rfl) ?_
          cases hF
          exact r_iret hx hb hr hlk hS () rfl hP hD dX7_round_93
        · have hF := q_if_t (by first | exact c_10 | exact Classical.not_not.mp c_10) hF
          refine lv_iload_n hx hb dX7_round_85 rfl (lv_at hl 1 rfl) ?_
          obtain ⟨r_11, h_12, hF⟩ := q_cl_s hF
          refine gcP (As := [.int v3_9]) (rest := []) F (m_X7_ones l v3_9 r_11 h_12) gX7_round_X7_ones kX7_ones rfl rfl rfl ⟨(Nat.le_of_ble_eq_true rfl), (Nat.le_of_ble_eq_true rfl)⟩ rfl rfl hl.1 (Nat.le_of_ble_eq_true rfl) dX7_round_86 ⟨(Nat.le_of_ble_eq_true rfl), (Nat.le_of_ble_eq_true rfl)⟩ ?_
          refine lv_goto (tgt := 93) hx hb dX7_round_89 (by decide) ?_
          cases hF
          exact r_iret hx hb hr hlk hS () rfl hP hD dX7_round_93
      · rintro k again kk ag ⟨v4_9, σM_9, v3_9⟩ hF H locs ls hP hD hS hl
        dsimp only [b_X7_round_34] at hF
        have hP : va_P g.1 vwCl (wX7 g qM AM σM_9 ℓM) H := hP
        have hD : va_D Z (wX7 g qM AM σM_9 ℓM) := hD
        have hl : lv_has ls 6 [(4, .int v4_9), (3, .int v3_9), (0, .ref qM), (1, .int a1), (2, .int a2)] := hl
        refine lv_iload hx hb dX7_round_34 (lv_at hl 0 rfl) ?_
        refine lv_sipush (v := 1024) hx hb dX7_round_36 (by decide) ?_
        refine lv_icmp_ge (tgt := 81) hx hb dX7_round_39 (by decide) (fun c_13 => ?_) (fun c_13 => ?_)
        · have hF := q_if_t c_13 hF
          exact kk (v4_9, σM_9, v3_9) hF _ _ _ hP hD hS (lv_sub hl [0, 1, 2, 3, 4] rfl)
        · have hF := q_if_f c_13 hF
          refine lv_aload_n hx hb dX7_round_42 rfl (lv_at hl 2 rfl) ?_
          refine lv_iload hx hb dX7_round_43 (lv_at hl 0 rfl) ?_
          refine lv_iload_n hx hb dX7_round_45 rfl (lv_at hl 3 rfl) ?_
          obtain ⟨⟨r_14, σM_15⟩, h_16, hF⟩ := q_cl_s hF
          try dsimp only at hF
          refine gcV_i (As := [.int v4_9, .int a1]) (rest := []) (ci := 7) (q := (RX7, TX7, 34)) F hK hN hP hD hS hA (m_X7_findHot l g H.size qM AM σM_9 ℓM v4_9 a1 r_14 σM_15 h_16) gX7_round_X7_findHot kX7_findHot rfl rfl rfl rfl ⟨(Nat.le_of_ble_eq_true rfl), (Nat.le_of_ble_eq_true rfl)⟩ [0, 1, 2, 3, 4, 5, 6, 7, 8, 9, 10, 11, 12, 13, 14, 15, 16, 17, 18, 19, 20] [] rfl rfl rfl (by decide) rfl rfl rfl rfl rfl hl.1 (Nat.le_of_ble_eq_true rfl) dX7_round_46 ⟨(Nat.le_of_ble_eq_true rfl), (Nat.le_of_ble_eq_true rfl)⟩ (fun r_w u_w H locs hw hP hD hS => ?_)
          have hP : va_P g.1 vwCl (wX7 g qM AM σM_15 ℓM) H := hP
          have hD : va_D Z (wX7 g qM AM σM_15 ℓM) := hD
          obtain rfl : r_14 = r_w := hw.symm
          refine lv_istore (lv' := [(5, .int r_14), (4, .int v4_9), (3, .int v3_9), (0, .ref qM), (1, .int a1), (2, .int a2)]) hx hb dX7_round_49 hl (by decide) rfl (fun ls hl => ?_)
          refine lv_iload hx hb dX7_round_51 (lv_at hl 0 rfl) ?_
          refine lv_if_eq (tgt := 73) hx hb dX7_round_53 (by decide) (fun c_18 => ?_) (fun c_18 => ?_)
          · have hF := q_if_t c_18 hF
            refine lv_iload_n hx hb dX7_round_73 rfl (lv_at hl 2 rfl) ?_
            refine lv_istore_n (lv' := [(3, .int v3_9), (5, .int r_14), (4, .int v4_9), (0, .ref qM), (1, .int a1), (2, .int a2)]) hx hb dX7_round_74 rfl hl (by decide) rfl (fun ls hl => ?_)
            refine lv_iinc (v := v4_9 + 1) (lv' := [(4, .int (v4_9 + 1)), (3, .int v3_9), (5, .int r_14), (0, .ref qM), (1, .int a1), (2, .int a2)]) hx hb dX7_round_75 hl (k := 2) rfl rfl (by decide) rfl (fun ls hl => ?_)
            refine lv_goto (tgt := 34) hx hb dX7_round_78 (by decide) ?_
            exact ag (v4_9 + 1, σM_15, v3_9) hF _ _ _ hP hD hS (lv_sub hl [0, 1, 3, 4, 5] rfl)
          · have hF := q_if_f c_18 hF
            refine lv_iload hx hb dX7_round_56 (lv_at hl 1 rfl) ?_
            obtain ⟨r_19, h_20, hF⟩ := q_cl_s hF
            refine gcP (As := [.int v4_9]) (rest := []) F (m_X7_ones l v4_9 r_19 h_20) gX7_round_X7_ones kX7_ones rfl rfl rfl ⟨(Nat.le_of_ble_eq_true rfl), (Nat.le_of_ble_eq_true rfl)⟩ rfl rfl hl.1 (Nat.le_of_ble_eq_true rfl) dX7_round_58 ⟨(Nat.le_of_ble_eq_true rfl), (Nat.le_of_ble_eq_true rfl)⟩ ?_
            refine lv_iload_n hx hb dX7_round_61 rfl (lv_at hl 2 rfl) ?_
            obtain ⟨r_21, h_22, hF⟩ := q_cl_s hF
            refine gcP (As := [.int v3_9]) (rest := [.int r_19]) F (m_X7_ones l v3_9 r_21 h_22) gX7_round_X7_ones kX7_ones rfl rfl rfl ⟨(Nat.le_of_ble_eq_true rfl), (Nat.le_of_ble_eq_true rfl)⟩ rfl rfl hl.1 (Nat.le_of_ble_eq_true rfl) dX7_round_62 ⟨(Nat.le_of_ble_eq_true rfl), (Nat.le_of_ble_eq_true rfl)⟩ ?_
            refine lv_icmp_le (tgt := 73) hx hb dX7_round_65 (by decide) (fun c_23 => ?_) (fun c_23 => ?_)
            · have hF := q_if_t c_23 hF
              refine lv_iload_n hx hb dX7_round_73 rfl (lv_at hl 2 rfl) ?_
              refine lv_istore_n (lv' := [(3, .int v3_9), (5, .int r_14), (4, .int v4_9), (0, .ref qM), (1, .int a1), (2, .int a2)]) hx hb dX7_round_74 rfl hl (by decide) rfl (fun ls hl => ?_)
              refine lv_iinc (v := v4_9 + 1) (lv' := [(4, .int (v4_9 + 1)), (3, .int v3_9), (5, .int r_14), (0, .ref qM), (1, .int a1), (2, .int a2)]) hx hb dX7_round_75 hl (k := 2) rfl rfl (by decide) rfl (fun ls hl => ?_)
              refine lv_goto (tgt := 34) hx hb dX7_round_78 (by decide) ?_
              exact ag (v4_9 + 1, σM_15, v3_9) hF _ _ _ hP hD hS (lv_sub hl [0, 1, 3, 4, 5] rfl)
            · have hF := q_if_f c_23 hF
              refine lv_iload hx hb dX7_round_68 (lv_at hl 1 rfl) ?_
              refine lv_goto (tgt := 74) hx hb dX7_round_70 (by decide) ?_
              refine lv_istore_n (lv' := [(3, .int v4_9), (5, .int r_14), (4, .int v4_9), (0, .ref qM), (1, .int a1), (2, .int a2)]) hx hb dX7_round_74 rfl hl (by decide) rfl (fun ls hl => ?_)
              refine lv_iinc (v := v4_9 + 1) (lv' := [(4, .int (v4_9 + 1)), (3, .int v4_9), (5, .int r_14), (0, .ref qM), (1, .int a1), (2, .int a2)]) hx hb dX7_round_75 hl (k := 2) rfl rfl (by decide) rfl (fun ls hl => ?_)
              refine lv_goto (tgt := 34) hx hb dX7_round_78 (by decide) ?_
              exact ag (v4_9 + 1, σM_15, v4_9) hF _ _ _ hP hD hS (lv_sub hl [0, 1, 3, 4, 5] rfl)
    · have hF := q_if_t (by first | exact c_6 | exact Classical.not_not.mp c_6) hF
      refine lv_bipush (v := (-2)) hx hb dX7_round_22 (by decide) ?_
      cases hF
      exact r_iret hx hb hr hlk hS () rfl hP hD dX7_round_24
set_option maxHeartbeats 4000000 in
set_option maxRecDepth 100000 in
theorem m_X7_around (l : Launch) (g : GT) (sz : Nat) (qM : Nat) (AM : Nat → Nat) (σM : qS) (ℓM : qL) (a1 : Int32) (rr : Int32) (hF : f_X7_around σM ℓM a1 = some rr) : Ci l yX7_around wsX7_around { frames := 0, cells := 0, slots := 0, locals := 0 } g sz [.ref qM, .int a1] (wX7 g qM AM σM ℓM) rr (wX7 g qM AM σM ℓM) := by
  refine gMet_i (cc := cX7_around) (maxL := 4) (ret := (some .int)) (by decide) rfl (Nat.le_of_ble_eq_true rfl) ?_
  intro p e s m args below meth c Z hx hb hr F hlk hnm hK hN hA H locs hP hD hS ls hl
  have hl : lv_has ls 4 [(0, .ref qM), (1, .int a1)] := hl
  have F : CallFix p m c cX7_around 4 s args wsX7_around RX7 := F
  have hts := F.2.2.2.2
  have hown : s.vm.findClass RX7 = some m.cls := F.2.2.2.1
  have hi7 : ∀ w ∈ u_ws RX7 TX7 34, w ∈ wsX7_around := by decide +kernel
  dsimp only [f_X7_around] at hF
  refine lv_iload_n hx hb dX7_around_0 rfl (lv_at hl 1 rfl) ?_
  refine lv_istore_n (lv' := [(2, .int a1), (0, .ref qM), (1, .int a1)]) hx hb dX7_around_1 rfl hl (by decide) rfl (fun ls hl => ?_)
  refine lv_iconst (v := 0) hx hb dX7_around_2 (by decide) ?_
  refine lv_istore_n (lv' := [(3, .int 0), (2, .int a1), (0, .ref qM), (1, .int a1)]) hx hb dX7_around_3 rfl hl (by decide) rfl (fun ls hl => ?_)
  refine q_loop (fun u0 => wX7 g qM AM σM ℓM) (fun u0 => [(3, .int u0.1), (2, .int u0.2), (0, .ref qM), (1, .int a1)]) 50 hF ?_ ?_ hP hD hS (lv_sub hl [0, 1, 2, 3] rfl)
  · rintro ⟨v3_1, v2_1⟩ hF H locs ls hP hD hS hl
    try dsimp only at hF
    have hP : va_P g.1 vwCl (wX7 g qM AM σM ℓM) H := hP
    have hD : va_D Z (wX7 g qM AM σM ℓM) := hD
    have hl : lv_has ls 4 [(3, .int v3_1), (2, .int v2_1), (0, .ref qM), (1, .int a1)] := hl
    refine lv_iload_n hx hb dX7_around_50 rfl (lv_at hl 1 rfl) ?_
    cases hF
    exact r_iret hx hb hr hlk hS () rfl hP hD dX7_around_51
  · rintro k again kk ag ⟨v3_1, v2_1⟩ hF H locs ls hP hD hS hl
    dsimp only [b_X7_around_4] at hF
    have hP : va_P g.1 vwCl (wX7 g qM AM σM ℓM) H := hP
    have hD : va_D Z (wX7 g qM AM σM ℓM) := hD
    have hl : lv_has ls 4 [(3, .int v3_1), (2, .int v2_1), (0, .ref qM), (1, .int a1)] := hl
    refine lv_iload_n hx hb dX7_around_4 rfl (lv_at hl 0 rfl) ?_
    refine lv_bipush (v := 121) hx hb dX7_around_5 (by decide) ?_
    refine lv_icmp_ge (tgt := 50) hx hb dX7_around_7 (by decide) (fun c_2 => ?_) (fun c_2 => ?_)
    · have hF := q_if_t c_2 hF
      exact kk (v3_1, v2_1) hF _ _ _ hP hD hS (lv_sub hl [0, 1, 2, 3] rfl)
    · have hF := q_if_f c_2 hF
      refine lv_iload_n hx hb dX7_around_10 rfl (lv_at hl 1 rfl) ?_
      refine lv_iload_n hx hb dX7_around_11 rfl (lv_at hl 3 rfl) ?_
      refine lv_iload_n hx hb dX7_around_12 rfl (lv_at hl 0 rfl) ?_
      refine lv_bipush (v := 11) hx hb dX7_around_13 (by decide) ?_
      refine lv_idiv hx hb dX7_around_15 (by decide) ?_
      refine lv_ishr hx hb dX7_around_16 ?_
      refine lv_iconst (v := 1) hx hb dX7_around_17 (by decide) ?_
      refine lv_iand hx hb dX7_around_18 ?_
      refine lv_iconst (v := 1) hx hb dX7_around_19 (by decide) ?_
      refine lv_icmp_ne (tgt := 41) hx hb dX7_around_20 (by decide) (fun c_3 => ?_) (fun c_3 => ?_)
      · have hF := q_if_f c_3 hF
        refine lv_iconst (v := 0) hx hb dX7_around_41 (by decide) ?_
        refine lv_ior hx hb dX7_around_42 ?_
        obtain ⟨v2_4, e_5, hF⟩ := q_bd_s hF
        refine gtop e_5 ?_
        refine lv_istore_n (lv' := [(2, .int v2_4), (3, .int v3_1), (0, .ref qM), (1, .int a1)]) hx hb dX7_around_43 rfl hl (by decide) rfl (fun ls hl => ?_)
        refine lv_iinc (v := v3_1 + 1) (lv' := [(3, .int (v3_1 + 1)), (2, .int v2_4), (0, .ref qM), (1, .int a1)]) hx hb dX7_around_44 hl (k := 1) rfl rfl (by decide) rfl (fun ls hl => ?_)
        refine lv_goto (tgt := 4) hx hb dX7_around_47 (by decide) ?_
        exact ag (v3_1 + 1, v2_4) hF _ _ _ hP hD hS (lv_sub hl [0, 1, 2, 3] rfl)
      · have hF := q_if_t (by first | exact c_3 | exact Classical.not_not.mp c_3) hF
        refine lv_aload_n hx hb dX7_around_23 rfl (lv_at hl 2 rfl) ?_
        refine va_get (D := g.1) (ci := 7) (v := .ref (AM 0)) (C := RX7) (T := TX7) (N := 34) hx hb hts hi7 hown hK hP 0 rfl rfl 0 (by decide) (hts (.fieldLink RX7 7 "PanTalesModel" "roads" "[I") (by decide +kernel)) (fun _ h9 => h9) rfl dX7_around_24 ?_
        refine lv_iload_n hx hb dX7_around_27 rfl (lv_at hl 0 rfl) ?_
        obtain ⟨r_6, i_7, e_8, hF⟩ := q_rd_s hF
        refine r_iald (v := r_6) hx hb hK hP 1 rfl i_7 e_8 dX7_around_28 ?_
        refine lv_if_le (tgt := 41) hx hb dX7_around_29 (by decide) (fun c_9 => ?_) (fun c_9 => ?_)
        · have hF := q_if_t c_9 hF
          refine lv_iconst (v := 0) hx hb dX7_around_41 (by decide) ?_
          refine lv_ior hx hb dX7_around_42 ?_
          obtain ⟨v2_10, e_11, hF⟩ := q_bd_s hF
          refine gtop e_11 ?_
          refine lv_istore_n (lv' := [(2, .int v2_10), (3, .int v3_1), (0, .ref qM), (1, .int a1)]) hx hb dX7_around_43 rfl hl (by decide) rfl (fun ls hl => ?_)
          refine lv_iinc (v := v3_1 + 1) (lv' := [(3, .int (v3_1 + 1)), (2, .int v2_10), (0, .ref qM), (1, .int a1)]) hx hb dX7_around_44 hl (k := 1) rfl rfl (by decide) rfl (fun ls hl => ?_)
          refine lv_goto (tgt := 4) hx hb dX7_around_47 (by decide) ?_
          exact ag (v3_1 + 1, v2_10) hF _ _ _ hP hD hS (lv_sub hl [0, 1, 2, 3] rfl)
        · have hF := q_if_f c_9 hF
          refine lv_iconst (v := 1) hx hb dX7_around_32 (by decide) ?_
          refine lv_iload_n hx hb dX7_around_33 rfl (lv_at hl 0 rfl) ?_
          refine lv_bipush (v := 11) hx hb dX7_around_34 (by decide) ?_
          refine lv_irem hx hb dX7_around_36 (by decide) ?_
          refine lv_ishl hx hb dX7_around_37 ?_
          refine lv_goto (tgt := 42) hx hb dX7_around_38 (by decide) ?_
          refine lv_ior hx hb dX7_around_42 ?_
          obtain ⟨v2_12, e_13, hF⟩ := q_bd_s hF
          refine gtop e_13 ?_
          refine lv_istore_n (lv' := [(2, .int v2_12), (3, .int v3_1), (0, .ref qM), (1, .int a1)]) hx hb dX7_around_43 rfl hl (by decide) rfl (fun ls hl => ?_)
          refine lv_iinc (v := v3_1 + 1) (lv' := [(3, .int (v3_1 + 1)), (2, .int v2_12), (0, .ref qM), (1, .int a1)]) hx hb dX7_around_44 hl (k := 1) rfl rfl (by decide) rfl (fun ls hl => ?_)
          refine lv_goto (tgt := 4) hx hb dX7_around_47 (by decide) ?_
          exact ag (v3_1 + 1, v2_12) hF _ _ _ hP hD hS (lv_sub hl [0, 1, 2, 3] rfl)
set_option maxHeartbeats 4000000 in
set_option maxRecDepth 100000 in
theorem m_X7_isKept (l : Launch) (g : GT) (sz : Nat) (qM : Nat) (AM : Nat → Nat) (σM : qS) (ℓM : qL) (a1 : Int32) (a2 : Int32) (rr : Int32) (hF : f_X7_isKept σM ℓM a1 a2 = some rr) : Ci l yX7_isKept wsX7_isKept { frames := 1, cells := 0, slots := 0, locals := 23 } g sz [.ref qM, .int a1, .int a2] (wX7 g qM AM σM ℓM) rr (wX7 g qM AM σM ℓM) := by
  refine gMet_i (cc := cX7_isKept) (maxL := 5) (ret := (some .boolean)) (by decide) rfl (Nat.le_of_ble_eq_true rfl) ?_
  intro p e s m args below meth c Z hx hb hr F hlk hnm hK hN hA H locs hP hD hS ls hl
  have hl : lv_has ls 5 [(0, .ref qM), (1, .int a1), (2, .int a2)] := hl
  have F : CallFix p m c cX7_isKept 5 s args wsX7_isKept RX7 := F
  have hts := F.2.2.2.2
  have hown : s.vm.findClass RX7 = some m.cls := F.2.2.2.1
  dsimp only [f_X7_isKept] at hF
  refine lv_sipush (v := 1024) hx hb dX7_isKept_0 (by decide) ?_
  refine lv_istore_n (lv' := [(3, .int 1024), (0, .ref qM), (1, .int a1), (2, .int a2)]) hx hb dX7_isKept_3 rfl hl (by decide) rfl (fun ls hl => ?_)
  refine lv_iconst (v := 0) hx hb dX7_isKept_4 (by decide) ?_
  refine lv_istore (lv' := [(4, .int 0), (3, .int 1024), (0, .ref qM), (1, .int a1), (2, .int a2)]) hx hb dX7_isKept_5 hl (by decide) rfl (fun ls hl => ?_)
  refine q_loop (fun u0 => wX7 g qM AM σM ℓM) (fun u0 => [(4, .int u0.1), (3, .int u0.2), (0, .ref qM), (1, .int a1), (2, .int a2)]) 30 hF ?_ ?_ hP hD hS (lv_sub hl [0, 1, 2, 3, 4] rfl)
  · rintro ⟨v4_1, v3_1⟩ hF H locs ls hP hD hS hl
    try dsimp only at hF
    have hP : va_P g.1 vwCl (wX7 g qM AM σM ℓM) H := hP
    have hD : va_D Z (wX7 g qM AM σM ℓM) := hD
    have hl : lv_has ls 5 [(4, .int v4_1), (3, .int v3_1), (0, .ref qM), (1, .int a1), (2, .int a2)] := hl
    refine lv_iload_n hx hb dX7_isKept_30 rfl (lv_at hl 1 rfl) ?_
    refine lv_iload_n hx hb dX7_isKept_31 rfl (lv_at hl 3 rfl) ?_
    refine lv_ishr hx hb dX7_isKept_32 ?_
    refine lv_iconst (v := 1) hx hb dX7_isKept_33 (by decide) ?_
    refine lv_iand hx hb dX7_isKept_34 ?_
    refine lv_if_ne (tgt := 42) hx hb dX7_isKept_35 (by decide) (fun c_2 => ?_) (fun c_2 => ?_)
    · have hF := q_if_f c_2 hF
      refine lv_iconst (v := 0) hx hb dX7_isKept_42 (by decide) ?_
      cases hF
      exact r_zret hx hb hr hlk hS () (by decide) rfl hP hD dX7_isKept_43
    · have hF := q_if_t (by first | exact c_2 | exact Classical.not_not.mp c_2) hF
      refine lv_iconst (v := 1) hx hb dX7_isKept_38 (by decide) ?_
      refine lv_goto (tgt := 43) hx hb dX7_isKept_39 (by decide) ?_
      cases hF
      exact r_zret hx hb hr hlk hS () (by decide) rfl hP hD dX7_isKept_43
  · rintro k again kk ag ⟨v4_1, v3_1⟩ hF H locs ls hP hD hS hl
    dsimp only [b_X7_isKept_7] at hF
    have hP : va_P g.1 vwCl (wX7 g qM AM σM ℓM) H := hP
    have hD : va_D Z (wX7 g qM AM σM ℓM) := hD
    have hl : lv_has ls 5 [(4, .int v4_1), (3, .int v3_1), (0, .ref qM), (1, .int a1), (2, .int a2)] := hl
    refine lv_iload hx hb dX7_isKept_7 (lv_at hl 0 rfl) ?_
    refine lv_bipush (v := 11) hx hb dX7_isKept_9 (by decide) ?_
    refine lv_icmp_ge (tgt := 30) hx hb dX7_isKept_11 (by decide) (fun c_3 => ?_) (fun c_3 => ?_)
    · have hF := q_if_t c_3 hF
      exact kk (v4_1, v3_1) hF _ _ _ hP hD hS (lv_sub hl [0, 1, 2, 3, 4] rfl)
    · have hF := q_if_f c_3 hF
      refine lv_aload_n hx hb dX7_isKept_14 rfl (lv_at hl 2 rfl) ?_
      refine lv_iload_n hx hb dX7_isKept_15 rfl (lv_at hl 1 rfl) ?_
      obtain ⟨r_4, h_5, hF⟩ := q_cl_s hF
      refine gcV_i (As := [.int v3_1]) (rest := []) (ci := 7) (q := (RX7, TX7, 34)) F hK hN hP hD hS hA (m_X7_around l g H.size qM AM σM ℓM v3_1 r_4 h_5) gX7_isKept_X7_around kX7_around rfl rfl rfl rfl ⟨(Nat.le_of_ble_eq_true rfl), (Nat.le_of_ble_eq_true rfl)⟩ [0, 1, 2, 3, 4, 5, 6, 7, 8, 9, 10, 11, 12, 13, 14, 15, 16, 17, 18, 19, 20] [] rfl rfl rfl (by decide) rfl rfl rfl rfl rfl hl.1 (Nat.le_of_ble_eq_true rfl) dX7_isKept_16 ⟨(Nat.le_of_ble_eq_true rfl), (Nat.le_of_ble_eq_true rfl)⟩ (fun r_w u_w H locs hw hP hD hS => ?_)
      have hP : va_P g.1 vwCl (wX7 g qM AM σM ℓM) H := hP
      have hD : va_D Z (wX7 g qM AM σM ℓM) := hD
      obtain rfl : r_4 = r_w := hw.symm
      refine lv_iload_n hx hb dX7_isKept_19 rfl (lv_at hl 4 rfl) ?_
      refine lv_iconst (v := (-1)) hx hb dX7_isKept_20 (by decide) ?_
      refine lv_ixor hx hb dX7_isKept_21 ?_
      refine lv_iand hx hb dX7_isKept_22 ?_
      obtain ⟨v3_6, e_7, hF⟩ := q_bd_s hF
      refine gtop e_7 ?_
      refine lv_istore_n (lv' := [(3, .int v3_6), (4, .int v4_1), (0, .ref qM), (1, .int a1), (2, .int a2)]) hx hb dX7_isKept_23 rfl hl (by decide) rfl (fun ls hl => ?_)
      refine lv_iinc (v := v4_1 + 1) (lv' := [(4, .int (v4_1 + 1)), (3, .int v3_6), (0, .ref qM), (1, .int a1), (2, .int a2)]) hx hb dX7_isKept_24 hl (k := 1) rfl rfl (by decide) rfl (fun ls hl => ?_)
      refine lv_goto (tgt := 7) hx hb dX7_isKept_27 (by decide) ?_
      exact ag (v4_1 + 1, v3_6) hF _ _ _ hP hD hS (lv_sub hl [0, 1, 2, 3, 4] rfl)
set_option maxHeartbeats 4000000 in
set_option maxRecDepth 100000 in
theorem m_X7_keep (l : Launch) (g : GT) (sz : Nat) (qM : Nat) (AM : Nat → Nat) (σM : qS) (ℓM : qL) (a1 : Int32) (a2 : Int32) (rr : Int32) (hF : f_X7_keep σM ℓM a1 a2 = some rr) : Ci l yX7_keep wsX7_keep { frames := 2, cells := 0, slots := 0, locals := 47 } g sz [.ref qM, .int a1, .int a2] (wX7 g qM AM σM ℓM) rr (wX7 g qM AM σM ℓM) := by
  refine gMet_i (cc := cX7_keep) (maxL := 6) (ret := (some .int)) (by decide) rfl (Nat.le_of_ble_eq_true rfl) ?_
  intro p e s m args below meth c Z hx hb hr F hlk hnm hK hN hA H locs hP hD hS ls hl
  have hl : lv_has ls 6 [(0, .ref qM), (1, .int a1), (2, .int a2)] := hl
  have F : CallFix p m c cX7_keep 6 s args wsX7_keep RX7 := F
  have hts := F.2.2.2.2
  have hown : s.vm.findClass RX7 = some m.cls := F.2.2.2.1
  dsimp only [f_X7_keep] at hF
  refine lv_iload_n hx hb dX7_keep_0 rfl (lv_at hl 1 rfl) ?_
  obtain ⟨r_1, h_2, hF⟩ := q_cl_s hF
  refine gcP (As := [.int a1]) (rest := []) F (m_X7_isHouse l a1 r_1 h_2) gX7_keep_X7_isHouse kX7_isHouse rfl rfl rfl ⟨(Nat.le_of_ble_eq_true rfl), (Nat.le_of_ble_eq_true rfl)⟩ rfl rfl hl.1 (Nat.le_of_ble_eq_true rfl) dX7_keep_1 ⟨(Nat.le_of_ble_eq_true rfl), (Nat.le_of_ble_eq_true rfl)⟩ ?_
  refine lv_if_ne (tgt := 9) hx hb dX7_keep_4 (by decide) (fun c_3 => ?_) (fun c_3 => ?_)
  · have hF := q_if_f c_3 hF
    refine lv_iload_n hx hb dX7_keep_9 rfl (lv_at hl 2 rfl) ?_
    refine lv_i2l (v := a2.toInt64) hx hb dX7_keep_10 rfl ?_
    refine lv_lconst (v := 0) hx hb dX7_keep_11 (by decide) ?_
    refine lv_lconst (v := 1) hx hb dX7_keep_12 (by decide) ?_
    obtain ⟨r_4, h_5, hF⟩ := q_cl_s hF
    refine gcP (As := [.long a2.toInt64, .long 0, .long 1]) (rest := []) F (m_X7_in l a2.toInt64 (0 : Int64) (1 : Int64) r_4 h_5) gX7_keep_X7_in kX7_in rfl rfl rfl ⟨(Nat.le_of_ble_eq_true rfl), (Nat.le_of_ble_eq_true rfl)⟩ rfl rfl hl.1 (Nat.le_of_ble_eq_true rfl) dX7_keep_13 ⟨(Nat.le_of_ble_eq_true rfl), (Nat.le_of_ble_eq_true rfl)⟩ ?_
    refine lv_if_ne (tgt := 22) hx hb dX7_keep_16 (by decide) (fun c_6 => ?_) (fun c_6 => ?_)
    · have hF := q_if_f c_6 hF
      refine lv_bipush (v := (-6)) hx hb dX7_keep_22 (by decide) ?_
      refine lv_istore_n (lv' := [(3, .int (-6)), (0, .ref qM), (1, .int a1), (2, .int a2)]) hx hb dX7_keep_24 rfl hl (by decide) rfl (fun ls hl => ?_)
      refine lv_iconst (v := 0) hx hb dX7_keep_25 (by decide) ?_
      refine lv_istore (lv' := [(4, .int 0), (3, .int (-6)), (0, .ref qM), (1, .int a1), (2, .int a2)]) hx hb dX7_keep_26 hl (by decide) rfl (fun ls hl => ?_)
      refine q_loop (fun u0 => wX7 g qM AM σM ℓM) (fun u0 => [(4, .int u0.1), (3, .int u0.2), (0, .ref qM), (1, .int a1), (2, .int a2)]) 96 hF ?_ ?_ hP hD hS (lv_sub hl [0, 1, 2, 3, 4] rfl)
      · rintro ⟨v4_7, v3_7⟩ hF H locs ls hP hD hS hl
        try dsimp only at hF
        have hP : va_P g.1 vwCl (wX7 g qM AM σM ℓM) H := hP
        have hD : va_D Z (wX7 g qM AM σM ℓM) := hD
        have hl : lv_has ls 6 [(4, .int v4_7), (3, .int v3_7), (0, .ref qM), (1, .int a1), (2, .int a2)] := hl
        refine lv_iload_n hx hb dX7_keep_96 rfl (lv_at hl 1 rfl) ?_
        refine lv_if_lt (tgt := 105) hx hb dX7_keep_97 (by decide) (fun c_8 => ?_) (fun c_8 => ?_)
        · have hF := q_if_t c_8 hF
          refine lv_iload_n hx hb dX7_keep_105 rfl (lv_at hl 1 rfl) ?_
          refine lv_goto (tgt := 113) hx hb dX7_keep_106 (by decide) ?_
          cases hF
          exact r_iret hx hb hr hlk hS () rfl hP hD dX7_keep_113
        · have hF := q_if_f c_8 hF
          refine lv_iload_n hx hb dX7_keep_100 rfl (lv_at hl 4 rfl) ?_
          refine lv_iconst (v := 1) hx hb dX7_keep_101 (by decide) ?_
          refine lv_icmp_ne (tgt := 109) hx hb dX7_keep_102 (by decide) (fun c_9 => ?_) (fun c_9 => ?_)
          · have hF := q_if_f c_9 hF
            refine lv_iload_n hx hb dX7_keep_109 rfl (lv_at hl 1 rfl) ?_
            obtain ⟨r_10, h_11, hF⟩ := q_cl_s hF
            refine gcP (As := [.int v3_7]) (rest := []) F (m_X7_ones l v3_7 r_10 h_11) gX7_keep_X7_ones kX7_ones rfl rfl rfl ⟨(Nat.le_of_ble_eq_true rfl), (Nat.le_of_ble_eq_true rfl)⟩ rfl rfl hl.1 (Nat.le_of_ble_eq_true rfl) dX7_keep_110 ⟨(Nat.le_of_ble_eq_true rfl), (Nat.le_of_ble_eq_true rfl)⟩ ?_
            cases hF
            exact r_iret hx hb hr hlk hS () rfl hP hD dX7_keep_113
          · have hF := q_if_t (by first | exact c_9 | exact Classical.not_not.mp c_9) hF
            refine lv_iload_n hx hb dX7_keep_105 rfl (lv_at hl 1 rfl) ?_
            refine lv_goto (tgt := 113) hx hb dX7_keep_106 (by decide) ?_
            cases hF
            exact r_iret hx hb hr hlk hS () rfl hP hD dX7_keep_113
      · rintro k again kk ag ⟨v4_7, v3_7⟩ hF H locs ls hP hD hS hl
        dsimp only [b_X7_keep_28] at hF
        have hP : va_P g.1 vwCl (wX7 g qM AM σM ℓM) H := hP
        have hD : va_D Z (wX7 g qM AM σM ℓM) := hD
        have hl : lv_has ls 6 [(4, .int v4_7), (3, .int v3_7), (0, .ref qM), (1, .int a1), (2, .int a2)] := hl
        refine lv_iload hx hb dX7_keep_28 (lv_at hl 0 rfl) ?_
        refine lv_sipush (v := 1024) hx hb dX7_keep_30 (by decide) ?_
        refine lv_icmp_ge (tgt := 96) hx hb dX7_keep_33 (by decide) (fun c_12 => ?_) (fun c_12 => ?_)
        · have hF := q_if_t c_12 hF
          exact kk (v4_7, v3_7) hF _ _ _ hP hD hS (lv_sub hl [0, 1, 2, 3, 4] rfl)
        · have hF := q_if_f c_12 hF
          refine lv_iload hx hb dX7_keep_36 (lv_at hl 0 rfl) ?_
          refine lv_iload_n hx hb dX7_keep_38 rfl (lv_at hl 3 rfl) ?_
          refine lv_ishr hx hb dX7_keep_39 ?_
          refine lv_iconst (v := 1) hx hb dX7_keep_40 (by decide) ?_
          refine lv_iand hx hb dX7_keep_41 ?_
          refine lv_if_ne (tgt := 65) hx hb dX7_keep_42 (by decide) (fun c_13 => ?_) (fun c_13 => ?_)
          · have hF := q_if_f c_13 hF
            refine lv_iconst (v := 0) hx hb dX7_keep_65 (by decide) ?_
            refine lv_istore (lv' := [(5, .int 0), (4, .int v4_7), (3, .int v3_7), (0, .ref qM), (1, .int a1), (2, .int a2)]) hx hb dX7_keep_66 hl (by decide) rfl (fun ls hl => ?_)
            refine lv_iload hx hb dX7_keep_68 (lv_at hl 0 rfl) ?_
            refine lv_if_eq (tgt := 88) hx hb dX7_keep_70 (by decide) (fun c_14 => ?_) (fun c_14 => ?_)
            · refine lv_iload_n hx hb dX7_keep_88 rfl (lv_at hl 2 rfl) ?_
              refine lv_istore_n (lv' := [(3, .int v3_7), (5, .int 0), (4, .int v4_7), (0, .ref qM), (1, .int a1), (2, .int a2)]) hx hb dX7_keep_89 rfl hl (by decide) rfl (fun ls hl => ?_)
              refine lv_iinc (v := v4_7 + 1) (lv' := [(4, .int (v4_7 + 1)), (3, .int v3_7), (5, .int 0), (0, .ref qM), (1, .int a1), (2, .int a2)]) hx hb dX7_keep_90 hl (k := 2) rfl rfl (by decide) rfl (fun ls hl => ?_)
              refine lv_goto (tgt := 28) hx hb dX7_keep_93 (by decide) ?_
              exact ag (v4_7 + 1, v3_7) hF _ _ _ hP hD hS (lv_sub hl [0, 1, 3, 4, 5] rfl)
            · first | exact absurd c_14 (by decide) | exact c_14 (by decide)
          · have hF := q_if_t (by first | exact c_13 | exact Classical.not_not.mp c_13) hF
            refine lv_iload_n hx hb dX7_keep_45 rfl (lv_at hl 1 rfl) ?_
            refine lv_if_lt (tgt := 61) hx hb dX7_keep_46 (by decide) (fun c_15 => ?_) (fun c_15 => ?_)
            · have hF := q_if_t c_15 hF
              refine lv_iconst (v := 1) hx hb dX7_keep_61 (by decide) ?_
              refine lv_goto (tgt := 66) hx hb dX7_keep_62 (by decide) ?_
              refine lv_istore (lv' := [(5, .int 1), (4, .int v4_7), (3, .int v3_7), (0, .ref qM), (1, .int a1), (2, .int a2)]) hx hb dX7_keep_66 hl (by decide) rfl (fun ls hl => ?_)
              refine lv_iload hx hb dX7_keep_68 (lv_at hl 0 rfl) ?_
              refine lv_if_eq (tgt := 88) hx hb dX7_keep_70 (by decide) (fun c_16 => ?_) (fun c_16 => ?_)
              · first | exact absurd c_16 (by decide) | exact c_16 (by decide)
              · refine lv_aload_n hx hb dX7_keep_73 rfl (lv_at hl 3 rfl) ?_
                refine lv_iload_n hx hb dX7_keep_74 rfl (lv_at hl 4 rfl) ?_
                refine lv_iload hx hb dX7_keep_75 (lv_at hl 1 rfl) ?_
                obtain ⟨r_17, h_18, hF⟩ := q_cl_s hF
                refine gcV_i (As := [.int a1, .int v4_7]) (rest := []) (ci := 7) (q := (RX7, TX7, 34)) F hK hN hP hD hS hA (m_X7_isKept l g H.size qM AM σM ℓM a1 v4_7 r_17 h_18) gX7_keep_X7_isKept kX7_isKept rfl rfl rfl rfl ⟨(Nat.le_of_ble_eq_true rfl), (Nat.le_of_ble_eq_true rfl)⟩ [0, 1, 2, 3, 4, 5, 6, 7, 8, 9, 10, 11, 12, 13, 14, 15, 16, 17, 18, 19, 20] [] rfl rfl rfl (by decide) rfl rfl rfl rfl rfl hl.1 (Nat.le_of_ble_eq_true rfl) dX7_keep_77 ⟨(Nat.le_of_ble_eq_true rfl), (Nat.le_of_ble_eq_true rfl)⟩ (fun r_w u_w H locs hw hP hD hS => ?_)
                have hP : va_P g.1 vwCl (wX7 g qM AM σM ℓM) H := hP
                have hD : va_D Z (wX7 g qM AM σM ℓM) := hD
                obtain rfl : r_17 = r_w := hw.symm
                refine lv_if_eq (tgt := 88) hx hb dX7_keep_80 (by decide) (fun c_19 => ?_) (fun c_19 => ?_)
                · have hF := q_if_t c_19 hF
                  refine lv_iload_n hx hb dX7_keep_88 rfl (lv_at hl 2 rfl) ?_
                  refine lv_istore_n (lv' := [(3, .int v3_7), (5, .int 1), (4, .int v4_7), (0, .ref qM), (1, .int a1), (2, .int a2)]) hx hb dX7_keep_89 rfl hl (by decide) rfl (fun ls hl => ?_)
                  refine lv_iinc (v := v4_7 + 1) (lv' := [(4, .int (v4_7 + 1)), (3, .int v3_7), (5, .int 1), (0, .ref qM), (1, .int a1), (2, .int a2)]) hx hb dX7_keep_90 hl (k := 2) rfl rfl (by decide) rfl (fun ls hl => ?_)
                  refine lv_goto (tgt := 28) hx hb dX7_keep_93 (by decide) ?_
                  exact ag (v4_7 + 1, v3_7) hF _ _ _ hP hD hS (lv_sub hl [0, 1, 3, 4, 5] rfl)
                · have hF := q_if_f c_19 hF
                  refine lv_iload hx hb dX7_keep_83 (lv_at hl 1 rfl) ?_
                  refine lv_goto (tgt := 89) hx hb dX7_keep_85 (by decide) ?_
                  refine lv_istore_n (lv' := [(3, .int v4_7), (5, .int 1), (4, .int v4_7), (0, .ref qM), (1, .int a1), (2, .int a2)]) hx hb dX7_keep_89 rfl hl (by decide) rfl (fun ls hl => ?_)
                  refine lv_iinc (v := v4_7 + 1) (lv' := [(4, .int (v4_7 + 1)), (3, .int v4_7), (5, .int 1), (0, .ref qM), (1, .int a1), (2, .int a2)]) hx hb dX7_keep_90 hl (k := 2) rfl rfl (by decide) rfl (fun ls hl => ?_)
                  refine lv_goto (tgt := 28) hx hb dX7_keep_93 (by decide) ?_
                  exact ag (v4_7 + 1, v4_7) hF _ _ _ hP hD hS (lv_sub hl [0, 1, 3, 4, 5] rfl)
            · have hF := q_if_f c_15 hF
              refine lv_iload hx hb dX7_keep_49 (lv_at hl 0 rfl) ?_
              obtain ⟨r_20, h_21, hF⟩ := q_cl_s hF
              refine gcP (As := [.int v4_7]) (rest := []) F (m_X7_ones l v4_7 r_20 h_21) gX7_keep_X7_ones kX7_ones rfl rfl rfl ⟨(Nat.le_of_ble_eq_true rfl), (Nat.le_of_ble_eq_true rfl)⟩ rfl rfl hl.1 (Nat.le_of_ble_eq_true rfl) dX7_keep_51 ⟨(Nat.le_of_ble_eq_true rfl), (Nat.le_of_ble_eq_true rfl)⟩ ?_
              refine lv_iload_n hx hb dX7_keep_54 rfl (lv_at hl 1 rfl) ?_
              obtain ⟨r_22, h_23, hF⟩ := q_cl_s hF
              refine gcP (As := [.int v3_7]) (rest := [.int r_20]) F (m_X7_ones l v3_7 r_22 h_23) gX7_keep_X7_ones kX7_ones rfl rfl rfl ⟨(Nat.le_of_ble_eq_true rfl), (Nat.le_of_ble_eq_true rfl)⟩ rfl rfl hl.1 (Nat.le_of_ble_eq_true rfl) dX7_keep_55 ⟨(Nat.le_of_ble_eq_true rfl), (Nat.le_of_ble_eq_true rfl)⟩ ?_
              refine lv_icmp_ge (tgt := 65) hx hb dX7_keep_58 (by decide) (fun c_24 => ?_) (fun c_24 => ?_)
              · have hF := q_if_t c_24 hF
                refine lv_iconst (v := 0) hx hb dX7_keep_65 (by decide) ?_
                refine lv_istore (lv' := [(5, .int 0), (4, .int v4_7), (3, .int v3_7), (0, .ref qM), (1, .int a1), (2, .int a2)]) hx hb dX7_keep_66 hl (by decide) rfl (fun ls hl => ?_)
                refine lv_iload hx hb dX7_keep_68 (lv_at hl 0 rfl) ?_
                refine lv_if_eq (tgt := 88) hx hb dX7_keep_70 (by decide) (fun c_25 => ?_) (fun c_25 => ?_)
                · refine lv_iload_n hx hb dX7_keep_88 rfl (lv_at hl 2 rfl) ?_
                  refine lv_istore_n (lv' := [(3, .int v3_7), (5, .int 0), (4, .int v4_7), (0, .ref qM), (1, .int a1), (2, .int a2)]) hx hb dX7_keep_89 rfl hl (by decide) rfl (fun ls hl => ?_)
                  refine lv_iinc (v := v4_7 + 1) (lv' := [(4, .int (v4_7 + 1)), (3, .int v3_7), (5, .int 0), (0, .ref qM), (1, .int a1), (2, .int a2)]) hx hb dX7_keep_90 hl (k := 2) rfl rfl (by decide) rfl (fun ls hl => ?_)
                  refine lv_goto (tgt := 28) hx hb dX7_keep_93 (by decide) ?_
                  exact ag (v4_7 + 1, v3_7) hF _ _ _ hP hD hS (lv_sub hl [0, 1, 3, 4, 5] rfl)
                · first | exact absurd c_25 (by decide) | exact c_25 (by decide)
              · have hF := q_if_f c_24 hF
                refine lv_iconst (v := 1) hx hb dX7_keep_61 (by decide) ?_
                refine lv_goto (tgt := 66) hx hb dX7_keep_62 (by decide) ?_
                refine lv_istore (lv' := [(5, .int 1), (4, .int v4_7), (3, .int v3_7), (0, .ref qM), (1, .int a1), (2, .int a2)]) hx hb dX7_keep_66 hl (by decide) rfl (fun ls hl => ?_)
                refine lv_iload hx hb dX7_keep_68 (lv_at hl 0 rfl) ?_
                refine lv_if_eq (tgt := 88) hx hb dX7_keep_70 (by decide) (fun c_26 => ?_) (fun c_26 => ?_)
                · first | exact absurd c_26 (by decide) | exact c_26 (by decide)
                · refine lv_aload_n hx hb dX7_keep_73 rfl (lv_at hl 3 rfl) ?_
                  refine lv_iload_n hx hb dX7_keep_74 rfl (lv_at hl 4 rfl) ?_
                  refine lv_iload hx hb dX7_keep_75 (lv_at hl 1 rfl) ?_
                  obtain ⟨r_27, h_28, hF⟩ := q_cl_s hF
                  refine gcV_i (As := [.int a1, .int v4_7]) (rest := []) (ci := 7) (q := (RX7, TX7, 34)) F hK hN hP hD hS hA (m_X7_isKept l g H.size qM AM σM ℓM a1 v4_7 r_27 h_28) gX7_keep_X7_isKept kX7_isKept rfl rfl rfl rfl ⟨(Nat.le_of_ble_eq_true rfl), (Nat.le_of_ble_eq_true rfl)⟩ [0, 1, 2, 3, 4, 5, 6, 7, 8, 9, 10, 11, 12, 13, 14, 15, 16, 17, 18, 19, 20] [] rfl rfl rfl (by decide) rfl rfl rfl rfl rfl hl.1 (Nat.le_of_ble_eq_true rfl) dX7_keep_77 ⟨(Nat.le_of_ble_eq_true rfl), (Nat.le_of_ble_eq_true rfl)⟩ (fun r_w u_w H locs hw hP hD hS => ?_)
                  have hP : va_P g.1 vwCl (wX7 g qM AM σM ℓM) H := hP
                  have hD : va_D Z (wX7 g qM AM σM ℓM) := hD
                  obtain rfl : r_27 = r_w := hw.symm
                  refine lv_if_eq (tgt := 88) hx hb dX7_keep_80 (by decide) (fun c_29 => ?_) (fun c_29 => ?_)
                  · have hF := q_if_t c_29 hF
                    refine lv_iload_n hx hb dX7_keep_88 rfl (lv_at hl 2 rfl) ?_
                    refine lv_istore_n (lv' := [(3, .int v3_7), (5, .int 1), (4, .int v4_7), (0, .ref qM), (1, .int a1), (2, .int a2)]) hx hb dX7_keep_89 rfl hl (by decide) rfl (fun ls hl => ?_)
                    refine lv_iinc (v := v4_7 + 1) (lv' := [(4, .int (v4_7 + 1)), (3, .int v3_7), (5, .int 1), (0, .ref qM), (1, .int a1), (2, .int a2)]) hx hb dX7_keep_90 hl (k := 2) rfl rfl (by decide) rfl (fun ls hl => ?_)
                    refine lv_goto (tgt := 28) hx hb dX7_keep_93 (by decide) ?_
                    exact ag (v4_7 + 1, v3_7) hF _ _ _ hP hD hS (lv_sub hl [0, 1, 3, 4, 5] rfl)
                  · have hF := q_if_f c_29 hF
                    refine lv_iload hx hb dX7_keep_83 (lv_at hl 1 rfl) ?_
                    refine lv_goto (tgt := 89) hx hb dX7_keep_85 (by decide) ?_
                    refine lv_istore_n (lv' := [(3, .int v4_7), (5, .int 1), (4, .int v4_7), (0, .ref qM), (1, .int a1), (2, .int a2)]) hx hb dX7_keep_89 rfl hl (by decide) rfl (fun ls hl => ?_)
                    refine lv_iinc (v := v4_7 + 1) (lv' := [(4, .int (v4_7 + 1)), (3, .int v4_7), (5, .int 1), (0, .ref qM), (1, .int a1), (2, .int a2)]) hx hb dX7_keep_90 hl (k := 2) rfl rfl (by decide) rfl (fun ls hl => ?_)
                    refine lv_goto (tgt := 28) hx hb dX7_keep_93 (by decide) ?_
                    exact ag (v4_7 + 1, v4_7) hF _ _ _ hP hD hS (lv_sub hl [0, 1, 3, 4, 5] rfl)
    · have hF := q_if_t (by first | exact c_6 | exact Classical.not_not.mp c_6) hF
      refine lv_bipush (v := (-2)) hx hb dX7_keep_19 (by decide) ?_
      cases hF
      exact r_iret hx hb hr hlk hS () rfl hP hD dX7_keep_21
  · have hF := q_if_t (by first | exact c_3 | exact Classical.not_not.mp c_3) hF
    refine lv_iconst (v := (-1)) hx hb dX7_keep_7 (by decide) ?_
    cases hF
    exact r_iret hx hb hr hlk hS () rfl hP hD dX7_keep_8
set_option maxHeartbeats 4000000 in
set_option maxRecDepth 100000 in
theorem m_X7_fadedBy (l : Launch) (g : GT) (sz : Nat) (qM : Nat) (AM : Nat → Nat) (σM : qS) (ℓM : qL) (a1 : Int32) (a2 : Int32) (rr : Int32) (hF : f_X7_fadedBy σM ℓM a1 a2 = some rr) : Ci l yX7_fadedBy wsX7_fadedBy { frames := 0, cells := 0, slots := 0, locals := 0 } g sz [.ref qM, .int a1, .int a2] (wX7 g qM AM σM ℓM) rr (wX7 g qM AM σM ℓM) := by
  refine gMet_i (cc := cX7_fadedBy) (maxL := 5) (ret := (some .int)) (by decide) rfl (Nat.le_of_ble_eq_true rfl) ?_
  intro p e s m args below meth c Z hx hb hr F hlk hnm hK hN hA H locs hP hD hS ls hl
  have hl : lv_has ls 5 [(0, .ref qM), (1, .int a1), (2, .int a2)] := hl
  have F : CallFix p m c cX7_fadedBy 5 s args wsX7_fadedBy RX7 := F
  have hts := F.2.2.2.2
  have hown : s.vm.findClass RX7 = some m.cls := F.2.2.2.1
  have hi7 : ∀ w ∈ u_ws RX7 TX7 34, w ∈ wsX7_fadedBy := by decide +kernel
  dsimp only [f_X7_fadedBy] at hF
  refine lv_iload_n hx hb dX7_fadedBy_0 rfl (lv_at hl 1 rfl) ?_
  refine lv_istore_n (lv' := [(3, .int a1), (0, .ref qM), (1, .int a1), (2, .int a2)]) hx hb dX7_fadedBy_1 rfl hl (by decide) rfl (fun ls hl => ?_)
  refine lv_iconst (v := 0) hx hb dX7_fadedBy_2 (by decide) ?_
  refine lv_istore (lv' := [(4, .int 0), (3, .int a1), (0, .ref qM), (1, .int a1), (2, .int a2)]) hx hb dX7_fadedBy_3 hl (by decide) rfl (fun ls hl => ?_)
  refine q_loop (fun u0 => wX7 g qM AM σM ℓM) (fun u0 => [(4, .int u0.1), (3, .int u0.2), (0, .ref qM), (2, .int a2)]) 24 hF ?_ ?_ hP hD hS (lv_sub hl [0, 1, 2, 4] rfl)
  · rintro ⟨v4_1, v3_1⟩ hF H locs ls hP hD hS hl
    try dsimp only at hF
    have hP : va_P g.1 vwCl (wX7 g qM AM σM ℓM) H := hP
    have hD : va_D Z (wX7 g qM AM σM ℓM) := hD
    have hl : lv_has ls 5 [(4, .int v4_1), (3, .int v3_1), (0, .ref qM), (2, .int a2)] := hl
    refine lv_iload_n hx hb dX7_fadedBy_24 rfl (lv_at hl 1 rfl) ?_
    cases hF
    exact r_iret hx hb hr hlk hS () rfl hP hD dX7_fadedBy_25
  · rintro k again kk ag ⟨v4_1, v3_1⟩ hF H locs ls hP hD hS hl
    dsimp only [b_X7_fadedBy_5] at hF
    have hP : va_P g.1 vwCl (wX7 g qM AM σM ℓM) H := hP
    have hD : va_D Z (wX7 g qM AM σM ℓM) := hD
    have hl : lv_has ls 5 [(4, .int v4_1), (3, .int v3_1), (0, .ref qM), (2, .int a2)] := hl
    refine lv_iload hx hb dX7_fadedBy_5 (lv_at hl 0 rfl) ?_
    refine lv_iload_n hx hb dX7_fadedBy_7 rfl (lv_at hl 3 rfl) ?_
    refine lv_icmp_ge (tgt := 24) hx hb dX7_fadedBy_8 (by decide) (fun c_2 => ?_) (fun c_2 => ?_)
    · have hF := q_if_t c_2 hF
      exact kk (v4_1, v3_1) hF _ _ _ hP hD hS (lv_sub hl [0, 1, 2, 3] rfl)
    · have hF := q_if_f c_2 hF
      refine lv_aload_n hx hb dX7_fadedBy_11 rfl (lv_at hl 2 rfl) ?_
      refine va_get (D := g.1) (ci := 7) (v := .ref (AM 4)) (C := RX7) (T := TX7) (N := 34) hx hb hts hi7 hown hK hP 0 rfl rfl 4 (by decide) (hts (.fieldLink RX7 22 "PanTalesModel" "fades" "[I") (by decide +kernel)) (fun _ h9 => h9) rfl dX7_fadedBy_12 ?_
      refine lv_iload_n hx hb dX7_fadedBy_15 rfl (lv_at hl 1 rfl) ?_
      obtain ⟨r_3, i_4, e_5, hF⟩ := q_rd_s hF
      refine r_iald (v := r_3) hx hb hK hP 5 rfl i_4 e_5 dX7_fadedBy_16 ?_
      refine lv_istore_n (lv' := [(3, .int r_3), (4, .int v4_1), (0, .ref qM), (2, .int a2)]) hx hb dX7_fadedBy_17 rfl hl (by decide) rfl (fun ls hl => ?_)
      refine lv_iinc (v := v4_1 + 1) (lv' := [(4, .int (v4_1 + 1)), (3, .int r_3), (0, .ref qM), (2, .int a2)]) hx hb dX7_fadedBy_18 hl (k := 1) rfl rfl (by decide) rfl (fun ls hl => ?_)
      refine lv_goto (tgt := 5) hx hb dX7_fadedBy_21 (by decide) ?_
      exact ag (v4_1 + 1, r_3) hF _ _ _ hP hD hS (lv_sub hl [0, 1, 2, 3] rfl)
set_option maxHeartbeats 4000000 in
set_option maxRecDepth 100000 in
theorem m_X7_cameAhead (l : Launch) (g : GT) (sz : Nat) (qM : Nat) (AM : Nat → Nat) (σM : qS) (ℓM : qL) (a1 : Int32) (a2 : Int32) (rr : Int32) (hF : f_X7_cameAhead σM ℓM a1 a2 = some rr) : Ci l yX7_cameAhead wsX7_cameAhead { frames := 1, cells := 0, slots := 0, locals := 24 } g sz [.ref qM, .int a1, .int a2] (wX7 g qM AM σM ℓM) rr (wX7 g qM AM σM ℓM) := by
  refine gMet_i (cc := cX7_cameAhead) (maxL := 4) (ret := (some .int)) (by decide) rfl (Nat.le_of_ble_eq_true rfl) ?_
  intro p e s m args below meth c Z hx hb hr F hlk hnm hK hN hA H locs hP hD hS ls hl
  have hl : lv_has ls 4 [(0, .ref qM), (1, .int a1), (2, .int a2)] := hl
  have F : CallFix p m c cX7_cameAhead 4 s args wsX7_cameAhead RX7 := F
  have hts := F.2.2.2.2
  have hown : s.vm.findClass RX7 = some m.cls := F.2.2.2.1
  dsimp only [f_X7_cameAhead] at hF
  refine lv_iconst (v := 0) hx hb dX7_cameAhead_0 (by decide) ?_
  refine lv_istore_n (lv' := [(3, .int 0), (0, .ref qM), (1, .int a1), (2, .int a2)]) hx hb dX7_cameAhead_1 rfl hl (by decide) rfl (fun ls hl => ?_)
  refine q_loop (fun u0 => wX7 g qM AM σM ℓM) (fun u0 => [(3, .int u0), (0, .ref qM), (1, .int a1), (2, .int a2)]) 32 hF ?_ ?_ hP hD hS (lv_sub hl [0, 1, 2, 3] rfl)
  · rintro v3_1 hF H locs ls hP hD hS hl
    try dsimp only at hF
    have hP : va_P g.1 vwCl (wX7 g qM AM σM ℓM) H := hP
    have hD : va_D Z (wX7 g qM AM σM ℓM) := hD
    have hl : lv_has ls 4 [(3, .int v3_1), (0, .ref qM), (1, .int a1), (2, .int a2)] := hl
    refine lv_bipush (v := (-6)) hx hb dX7_cameAhead_32 (by decide) ?_
    cases hF
    exact r_iret hx hb hr hlk hS () rfl hP hD dX7_cameAhead_34
  · rintro k again kk ag v3_1 hF H locs ls hP hD hS hl
    dsimp only [b_X7_cameAhead_2] at hF
    have hP : va_P g.1 vwCl (wX7 g qM AM σM ℓM) H := hP
    have hD : va_D Z (wX7 g qM AM σM ℓM) := hD
    have hl : lv_has ls 4 [(3, .int v3_1), (0, .ref qM), (1, .int a1), (2, .int a2)] := hl
    refine lv_iload_n hx hb dX7_cameAhead_2 rfl (lv_at hl 0 rfl) ?_
    refine lv_iload_n hx hb dX7_cameAhead_3 rfl (lv_at hl 3 rfl) ?_
    refine lv_icmp_ge (tgt := 32) hx hb dX7_cameAhead_4 (by decide) (fun c_2 => ?_) (fun c_2 => ?_)
    · have hF := q_if_t c_2 hF
      exact kk v3_1 hF _ _ _ hP hD hS (lv_sub hl [0, 1, 2, 3] rfl)
    · have hF := q_if_f c_2 hF
      refine lv_aload_n hx hb dX7_cameAhead_7 rfl (lv_at hl 1 rfl) ?_
      refine lv_iload_n hx hb dX7_cameAhead_8 rfl (lv_at hl 2 rfl) ?_
      refine lv_iload_n hx hb dX7_cameAhead_9 rfl (lv_at hl 0 rfl) ?_
      obtain ⟨r_3, h_4, hF⟩ := q_cl_s hF
      refine gcV_i (As := [.int a1, .int v3_1]) (rest := []) (ci := 7) (q := (RX7, TX7, 34)) F hK hN hP hD hS hA (m_X7_fadedBy l g H.size qM AM σM ℓM a1 v3_1 r_3 h_4) gX7_cameAhead_X7_fadedBy kX7_fadedBy rfl rfl rfl rfl ⟨(Nat.le_of_ble_eq_true rfl), (Nat.le_of_ble_eq_true rfl)⟩ [0, 1, 2, 3, 4, 5, 6, 7, 8, 9, 10, 11, 12, 13, 14, 15, 16, 17, 18, 19, 20] [] rfl rfl rfl (by decide) rfl rfl rfl rfl rfl hl.1 (Nat.le_of_ble_eq_true rfl) dX7_cameAhead_10 ⟨(Nat.le_of_ble_eq_true rfl), (Nat.le_of_ble_eq_true rfl)⟩ (fun r_w u_w H locs hw hP hD hS => ?_)
      have hP : va_P g.1 vwCl (wX7 g qM AM σM ℓM) H := hP
      have hD : va_D Z (wX7 g qM AM σM ℓM) := hD
      obtain rfl : r_3 = r_w := hw.symm
      refine lv_aload_n hx hb dX7_cameAhead_13 rfl (lv_at hl 1 rfl) ?_
      refine lv_iload_n hx hb dX7_cameAhead_14 rfl (lv_at hl 2 rfl) ?_
      refine lv_iload_n hx hb dX7_cameAhead_15 rfl (lv_at hl 3 rfl) ?_
      obtain ⟨r_5, h_6, hF⟩ := q_cl_s hF
      refine gcV_i (As := [.int a1, .int a2]) (rest := [.int r_3]) (ci := 7) (q := (RX7, TX7, 34)) F hK hN hP hD hS hA (m_X7_fadedBy l g H.size qM AM σM ℓM a1 a2 r_5 h_6) gX7_cameAhead_X7_fadedBy kX7_fadedBy rfl rfl rfl rfl ⟨(Nat.le_of_ble_eq_true rfl), (Nat.le_of_ble_eq_true rfl)⟩ [0, 1, 2, 3, 4, 5, 6, 7, 8, 9, 10, 11, 12, 13, 14, 15, 16, 17, 18, 19, 20] [] rfl rfl rfl (by decide) rfl rfl rfl rfl rfl hl.1 (Nat.le_of_ble_eq_true rfl) dX7_cameAhead_16 ⟨(Nat.le_of_ble_eq_true rfl), (Nat.le_of_ble_eq_true rfl)⟩ (fun r_w u_w H locs hw hP hD hS => ?_)
      have hP : va_P g.1 vwCl (wX7 g qM AM σM ℓM) H := hP
      have hD : va_D Z (wX7 g qM AM σM ℓM) := hD
      obtain rfl : r_5 = r_w := hw.symm
      refine lv_icmp_ne (tgt := 26) hx hb dX7_cameAhead_19 (by decide) (fun c_7 => ?_) (fun c_7 => ?_)
      · have hF := q_if_f c_7 hF
        refine lv_iinc (v := v3_1 + 1) (lv' := [(3, .int (v3_1 + 1)), (0, .ref qM), (1, .int a1), (2, .int a2)]) hx hb dX7_cameAhead_26 hl (k := 0) rfl rfl (by decide) rfl (fun ls hl => ?_)
        refine lv_goto (tgt := 2) hx hb dX7_cameAhead_29 (by decide) ?_
        exact ag (v3_1 + 1) hF _ _ _ hP hD hS (lv_sub hl [0, 1, 2, 3] rfl)
      · have hF := q_if_t (by first | exact c_7 | exact Classical.not_not.mp c_7) hF
        refine lv_iload_n hx hb dX7_cameAhead_22 rfl (lv_at hl 3 rfl) ?_
        refine lv_iload_n hx hb dX7_cameAhead_23 rfl (lv_at hl 0 rfl) ?_
        refine lv_isub hx hb dX7_cameAhead_24 ?_
        cases hF
        exact r_iret hx hb hr hlk hS () rfl hP hD dX7_cameAhead_25
set_option maxHeartbeats 4000000 in
set_option maxRecDepth 100000 in
theorem m_X7_faded (l : Launch) (g : GT) (sz : Nat) (qM : Nat) (AM : Nat → Nat) (σM : qS) (ℓM : qL) (a1 : Int32) (a2 : Int32) (rr : Int32) (hF : f_X7_faded σM ℓM a1 a2 = some rr) : Ci l yX7_faded wsX7_faded { frames := 2, cells := 0, slots := 0, locals := 47 } g sz [.ref qM, .int a1, .int a2] (wX7 g qM AM σM ℓM) rr (wX7 g qM AM σM ℓM) := by
  refine gMet_i (cc := cX7_faded) (maxL := 4) (ret := (some .int)) (by decide) rfl (Nat.le_of_ble_eq_true rfl) ?_
  intro p e s m args below meth c Z hx hb hr F hlk hnm hK hN hA H locs hP hD hS ls hl
  have hl : lv_has ls 4 [(0, .ref qM), (1, .int a1), (2, .int a2)] := hl
  have F : CallFix p m c cX7_faded 4 s args wsX7_faded RX7 := F
  have hts := F.2.2.2.2
  have hown : s.vm.findClass RX7 = some m.cls := F.2.2.2.1
  dsimp only [f_X7_faded] at hF
  refine lv_iload_n hx hb dX7_faded_0 rfl (lv_at hl 1 rfl) ?_
  obtain ⟨r_1, h_2, hF⟩ := q_cl_s hF
  refine gcP (As := [.int a1]) (rest := []) F (m_X7_isTale l a1 r_1 h_2) gX7_faded_X7_isTale kX7_isTale rfl rfl rfl ⟨(Nat.le_of_ble_eq_true rfl), (Nat.le_of_ble_eq_true rfl)⟩ rfl rfl hl.1 (Nat.le_of_ble_eq_true rfl) dX7_faded_1 ⟨(Nat.le_of_ble_eq_true rfl), (Nat.le_of_ble_eq_true rfl)⟩ ?_
  refine lv_if_ne (tgt := 9) hx hb dX7_faded_4 (by decide) (fun c_3 => ?_) (fun c_3 => ?_)
  · have hF := q_if_f c_3 hF
    refine lv_iload_n hx hb dX7_faded_9 rfl (lv_at hl 2 rfl) ?_
    refine lv_i2l (v := a2.toInt64) hx hb dX7_faded_10 rfl ?_
    refine lv_ldc2 (v := (-2)) hx hb hown (hts (.constantLong RX7 237 (-2)) (by decide +kernel)) dX7_faded_11 ?_
    refine lv_ldc2 (v := 99) hx hb hown (hts (.constantLong RX7 219 (99)) (by decide +kernel)) dX7_faded_14 ?_
    obtain ⟨r_4, h_5, hF⟩ := q_cl_s hF
    refine gcP (As := [.long a2.toInt64, .long (-2), .long 99]) (rest := []) F (m_X7_in l a2.toInt64 (-2 : Int64) (99 : Int64) r_4 h_5) gX7_faded_X7_in kX7_in rfl rfl rfl ⟨(Nat.le_of_ble_eq_true rfl), (Nat.le_of_ble_eq_true rfl)⟩ rfl rfl hl.1 (Nat.le_of_ble_eq_true rfl) dX7_faded_17 ⟨(Nat.le_of_ble_eq_true rfl), (Nat.le_of_ble_eq_true rfl)⟩ ?_
    refine lv_if_ne (tgt := 26) hx hb dX7_faded_20 (by decide) (fun c_6 => ?_) (fun c_6 => ?_)
    · have hF := q_if_f c_6 hF
      refine lv_iload_n hx hb dX7_faded_26 rfl (lv_at hl 2 rfl) ?_
      refine lv_if_lt (tgt := 37) hx hb dX7_faded_27 (by decide) (fun c_7 => ?_) (fun c_7 => ?_)
      · have hF := q_if_t c_7 hF
        refine lv_iconst (v := 1) hx hb dX7_faded_37 (by decide) ?_
        refine lv_istore_n (lv' := [(3, .int 1), (0, .ref qM), (1, .int a1), (2, .int a2)]) hx hb dX7_faded_38 rfl hl (by decide) rfl (fun ls hl => ?_)
        refine q_loop (fun u0 => wX7 g qM AM σM ℓM) (fun u0 => [(3, .int u0), (0, .ref qM), (1, .int a1), (2, .int a2)]) 54 hF ?_ ?_ hP hD hS (lv_sub hl [0, 1, 2, 3] rfl)
        · rintro v3_8 hF H locs ls hP hD hS hl
          try dsimp only at hF
          have hP : va_P g.1 vwCl (wX7 g qM AM σM ℓM) H := hP
          have hD : va_D Z (wX7 g qM AM σM ℓM) := hD
          have hl : lv_has ls 4 [(3, .int v3_8), (0, .ref qM), (1, .int a1), (2, .int a2)] := hl
          refine lv_iload_n hx hb dX7_faded_54 rfl (lv_at hl 3 rfl) ?_
          refine lv_iconst (v := (-1)) hx hb dX7_faded_55 (by decide) ?_
          refine lv_icmp_ne (tgt := 63) hx hb dX7_faded_56 (by decide) (fun c_9 => ?_) (fun c_9 => ?_)
          · have hF := q_if_f c_9 hF
            refine lv_aload_n hx hb dX7_faded_63 rfl (lv_at hl 1 rfl) ?_
            refine lv_iload_n hx hb dX7_faded_64 rfl (lv_at hl 2 rfl) ?_
            refine lv_iload_n hx hb dX7_faded_65 rfl (lv_at hl 0 rfl) ?_
            obtain ⟨r_10, h_11, hF⟩ := q_cl_s hF
            refine gcV_i (As := [.int a1, .int v3_8]) (rest := []) (ci := 7) (q := (RX7, TX7, 34)) F hK hN hP hD hS hA (m_X7_cameAhead l g H.size qM AM σM ℓM a1 v3_8 r_10 h_11) gX7_faded_X7_cameAhead kX7_cameAhead rfl rfl rfl rfl ⟨(Nat.le_of_ble_eq_true rfl), (Nat.le_of_ble_eq_true rfl)⟩ [0, 1, 2, 3, 4, 5, 6, 7, 8, 9, 10, 11, 12, 13, 14, 15, 16, 17, 18, 19, 20] [] rfl rfl rfl (by decide) rfl rfl rfl rfl rfl hl.1 (Nat.le_of_ble_eq_true rfl) dX7_faded_66 ⟨(Nat.le_of_ble_eq_true rfl), (Nat.le_of_ble_eq_true rfl)⟩ (fun r_w u_w H locs hw hP hD hS => ?_)
            have hP : va_P g.1 vwCl (wX7 g qM AM σM ℓM) H := hP
            have hD : va_D Z (wX7 g qM AM σM ℓM) := hD
            obtain rfl : r_10 = r_w := hw.symm
            cases hF
            exact r_iret hx hb hr hlk hS () rfl hP hD dX7_faded_69
          · have hF := q_if_t (by first | exact c_9 | exact Classical.not_not.mp c_9) hF
            refine lv_iload_n hx hb dX7_faded_59 rfl (lv_at hl 0 rfl) ?_
            refine lv_goto (tgt := 69) hx hb dX7_faded_60 (by decide) ?_
            cases hF
            exact r_iret hx hb hr hlk hS () rfl hP hD dX7_faded_69
        · rintro k again kk ag v3_8 hF H locs ls hP hD hS hl
          dsimp only [b_X7_faded_39] at hF
          have hP : va_P g.1 vwCl (wX7 g qM AM σM ℓM) H := hP
          have hD : va_D Z (wX7 g qM AM σM ℓM) := hD
          have hl : lv_has ls 4 [(3, .int v3_8), (0, .ref qM), (1, .int a1), (2, .int a2)] := hl
          refine lv_aload_n hx hb dX7_faded_39 rfl (lv_at hl 1 rfl) ?_
          refine lv_iload_n hx hb dX7_faded_40 rfl (lv_at hl 2 rfl) ?_
          refine lv_iload_n hx hb dX7_faded_41 rfl (lv_at hl 0 rfl) ?_
          obtain ⟨r_12, h_13, hF⟩ := q_cl_s hF
          refine gcV_i (As := [.int a1, .int v3_8]) (rest := []) (ci := 7) (q := (RX7, TX7, 34)) F hK hN hP hD hS hA (m_X7_cameAhead l g H.size qM AM σM ℓM a1 v3_8 r_12 h_13) gX7_faded_X7_cameAhead kX7_cameAhead rfl rfl rfl rfl ⟨(Nat.le_of_ble_eq_true rfl), (Nat.le_of_ble_eq_true rfl)⟩ [0, 1, 2, 3, 4, 5, 6, 7, 8, 9, 10, 11, 12, 13, 14, 15, 16, 17, 18, 19, 20] [] rfl rfl rfl (by decide) rfl rfl rfl rfl rfl hl.1 (Nat.le_of_ble_eq_true rfl) dX7_faded_42 ⟨(Nat.le_of_ble_eq_true rfl), (Nat.le_of_ble_eq_true rfl)⟩ (fun r_w u_w H locs hw hP hD hS => ?_)
          have hP : va_P g.1 vwCl (wX7 g qM AM σM ℓM) H := hP
          have hD : va_D Z (wX7 g qM AM σM ℓM) := hD
          obtain rfl : r_12 = r_w := hw.symm
          refine lv_if_ge (tgt := 54) hx hb dX7_faded_45 (by decide) (fun c_14 => ?_) (fun c_14 => ?_)
          · have hF := q_if_t c_14 hF
            exact kk v3_8 hF _ _ _ hP hD hS (lv_sub hl [0, 1, 2, 3] rfl)
          · have hF := q_if_f c_14 hF
            refine lv_iinc (v := v3_8 + 1) (lv' := [(3, .int (v3_8 + 1)), (0, .ref qM), (1, .int a1), (2, .int a2)]) hx hb dX7_faded_48 hl (k := 0) rfl rfl (by decide) rfl (fun ls hl => ?_)
            refine lv_goto (tgt := 39) hx hb dX7_faded_51 (by decide) ?_
            exact ag (v3_8 + 1) hF _ _ _ hP hD hS (lv_sub hl [0, 1, 2, 3] rfl)
      · have hF := q_if_f c_7 hF
        refine lv_aload_n hx hb dX7_faded_30 rfl (lv_at hl 0 rfl) ?_
        refine lv_iload_n hx hb dX7_faded_31 rfl (lv_at hl 1 rfl) ?_
        refine lv_iload_n hx hb dX7_faded_32 rfl (lv_at hl 2 rfl) ?_
        obtain ⟨r_15, h_16, hF⟩ := q_cl_s hF
        refine gcV_i (As := [.int a1, .int a2]) (rest := []) (ci := 7) (q := (RX7, TX7, 34)) F hK hN hP hD hS hA (m_X7_fadedBy l g H.size qM AM σM ℓM a1 a2 r_15 h_16) gX7_faded_X7_fadedBy kX7_fadedBy rfl rfl rfl rfl ⟨(Nat.le_of_ble_eq_true rfl), (Nat.le_of_ble_eq_true rfl)⟩ [0, 1, 2, 3, 4, 5, 6, 7, 8, 9, 10, 11, 12, 13, 14, 15, 16, 17, 18, 19, 20] [] rfl rfl rfl (by decide) rfl rfl rfl rfl rfl hl.1 (Nat.le_of_ble_eq_true rfl) dX7_faded_33 ⟨(Nat.le_of_ble_eq_true rfl), (Nat.le_of_ble_eq_true rfl)⟩ (fun r_w u_w H locs hw hP hD hS => ?_)
        have hP : va_P g.1 vwCl (wX7 g qM AM σM ℓM) H := hP
        have hD : va_D Z (wX7 g qM AM σM ℓM) := hD
        obtain rfl : r_15 = r_w := hw.symm
        cases hF
        exact r_iret hx hb hr hlk hS () rfl hP hD dX7_faded_36
    · have hF := q_if_t (by first | exact c_6 | exact Classical.not_not.mp c_6) hF
      refine lv_bipush (v := (-2)) hx hb dX7_faded_23 (by decide) ?_
      cases hF
      exact r_iret hx hb hr hlk hS () rfl hP hD dX7_faded_25
  · have hF := q_if_t (by first | exact c_3 | exact Classical.not_not.mp c_3) hF
    refine lv_iconst (v := (-1)) hx hb dX7_faded_7 (by decide) ?_
    cases hF
    exact r_iret hx hb hr hlk hS () rfl hP hD dX7_faded_8
set_option maxHeartbeats 4000000 in
set_option maxRecDepth 100000 in
theorem m_X7_seen (l : Launch) (g : GT) (sz : Nat) (qM : Nat) (AM : Nat → Nat) (σM : qS) (ℓM : qL) (a1 : Int32) (a2 : Int32) (rr : Int32) (σM' : qS) (hF : f_X7_seen σM ℓM a1 a2 = some (rr, σM')) : Ci l yX7_seen wsX7_seen { frames := 2, cells := 0, slots := 0, locals := 45 } g sz [.ref qM, .int a1, .int a2] (wX7 g qM AM σM ℓM) rr (wX7 g qM AM σM' ℓM) := by
  refine gMet_i (cc := cX7_seen) (maxL := 3) (ret := (some .int)) (by decide) rfl (Nat.le_of_ble_eq_true rfl) ?_
  intro p e s m args below meth c Z hx hb hr F hlk hnm hK hN hA H locs hP hD hS ls hl
  have hl : lv_has ls 3 [(0, .ref qM), (1, .int a1), (2, .int a2)] := hl
  have F : CallFix p m c cX7_seen 3 s args wsX7_seen RX7 := F
  have hts := F.2.2.2.2
  have hown : s.vm.findClass RX7 = some m.cls := F.2.2.2.1
  have hi7 : ∀ w ∈ u_ws RX7 TX7 34, w ∈ wsX7_seen := by decide +kernel
  dsimp only [f_X7_seen] at hF
  refine lv_iload_n hx hb dX7_seen_0 rfl (lv_at hl 2 rfl) ?_
  obtain ⟨r_1, h_2, hF⟩ := q_cl_s hF
  refine gcP (As := [.int a2]) (rest := []) F (m_X7_isTale l a2 r_1 h_2) gX7_seen_X7_isTale kX7_isTale rfl rfl rfl ⟨(Nat.le_of_ble_eq_true rfl), (Nat.le_of_ble_eq_true rfl)⟩ rfl rfl hl.1 (Nat.le_of_ble_eq_true rfl) dX7_seen_1 ⟨(Nat.le_of_ble_eq_true rfl), (Nat.le_of_ble_eq_true rfl)⟩ ?_
  refine lv_if_ne (tgt := 9) hx hb dX7_seen_4 (by decide) (fun c_3 => ?_) (fun c_3 => ?_)
  · have hF := q_if_f c_3 hF
    refine lv_iload_n hx hb dX7_seen_9 rfl (lv_at hl 1 rfl) ?_
    refine lv_i2l (v := a1.toInt64) hx hb dX7_seen_10 rfl ?_
    refine lv_lconst (v := 0) hx hb dX7_seen_11 (by decide) ?_
    refine lv_ldc2 (v := 40) hx hb hown (hts (.constantLong RX7 242 (40)) (by decide +kernel)) dX7_seen_12 ?_
    obtain ⟨r_4, h_5, hF⟩ := q_cl_s hF
    refine gcP (As := [.long a1.toInt64, .long 0, .long 40]) (rest := []) F (m_X7_in l a1.toInt64 (0 : Int64) (40 : Int64) r_4 h_5) gX7_seen_X7_in kX7_in rfl rfl rfl ⟨(Nat.le_of_ble_eq_true rfl), (Nat.le_of_ble_eq_true rfl)⟩ rfl rfl hl.1 (Nat.le_of_ble_eq_true rfl) dX7_seen_15 ⟨(Nat.le_of_ble_eq_true rfl), (Nat.le_of_ble_eq_true rfl)⟩ ?_
    refine lv_if_ne (tgt := 24) hx hb dX7_seen_18 (by decide) (fun c_6 => ?_) (fun c_6 => ?_)
    · have hF := q_if_f c_6 hF
      refine lv_aload_n hx hb dX7_seen_24 rfl (lv_at hl 0 rfl) ?_
      refine va_get (D := g.1) (ci := 7) (v := .int (σM 99 11)) (C := RX7) (T := TX7) (N := 34) hx hb hts hi7 hown hK hP 0 rfl rfl 11 (by decide) (hts (.fieldLink RX7 244 "PanTalesModel" "sights" "I") (by decide +kernel)) (fun _ h9 => h9) rfl dX7_seen_25 ?_
      refine lv_bipush (v := 8) hx hb dX7_seen_28 (by decide) ?_
      refine lv_icmp_ne (tgt := 36) hx hb dX7_seen_30 (by decide) (fun c_7 => ?_) (fun c_7 => ?_)
      · have hF := q_if_f c_7 hF
        refine lv_aload_n hx hb dX7_seen_36 rfl (lv_at hl 0 rfl) ?_
        refine va_get (D := g.1) (ci := 7) (v := .ref (AM 9)) (C := RX7) (T := TX7) (N := 34) hx hb hts hi7 hown hK hP 0 rfl rfl 9 (by decide) (hts (.fieldLink RX7 25 "PanTalesModel" "sightBed" "[I") (by decide +kernel)) (fun _ h9 => h9) rfl dX7_seen_37 ?_
        refine lv_aload_n hx hb dX7_seen_40 rfl (lv_at hl 0 rfl) ?_
        refine va_get (D := g.1) (ci := 7) (v := .int (σM 99 11)) (C := RX7) (T := TX7) (N := 34) hx hb hts hi7 hown hK hP 0 rfl rfl 11 (by decide) (hts (.fieldLink RX7 244 "PanTalesModel" "sights" "I") (by decide +kernel)) (fun _ h9 => h9) rfl dX7_seen_41 ?_
        refine lv_iload_n hx hb dX7_seen_44 rfl (lv_at hl 1 rfl) ?_
        obtain ⟨σM_8, i_9, e_10, hF⟩ := q_wr_s hF
        refine r_iast (f' := upd (σM 9) (σM 99 11).toNatClampNeg a1) hx hb hK hP hD hS 6 rfl i_9 (fun _ _ => rfl) dX7_seen_45 (fun H locs hP hD hS => ?_)
        have hP : va_P g.1 vwCl (wX7 g qM AM (q_up σM 9 (upd (σM 9) (σM 99 11).toNatClampNeg a1)) ℓM) H := hP
        have hD : va_D Z (wX7 g qM AM (q_up σM 9 (upd (σM 9) (σM 99 11).toNatClampNeg a1)) ℓM) := hD
        rw [e_10] at hP hD
        refine lv_aload_n hx hb dX7_seen_46 rfl (lv_at hl 0 rfl) ?_
        refine va_get (D := g.1) (ci := 7) (v := .ref (AM 10)) (C := RX7) (T := TX7) (N := 34) hx hb hts hi7 hown hK hP 0 rfl rfl 10 (by decide) (hts (.fieldLink RX7 28 "PanTalesModel" "sightTale" "[I") (by decide +kernel)) (fun _ h9 => h9) rfl dX7_seen_47 ?_
        refine lv_aload_n hx hb dX7_seen_50 rfl (lv_at hl 0 rfl) ?_
        refine va_get (D := g.1) (ci := 7) (v := .int (σM_8 99 11)) (C := RX7) (T := TX7) (N := 34) hx hb hts hi7 hown hK hP 0 rfl rfl 11 (by decide) (hts (.fieldLink RX7 244 "PanTalesModel" "sights" "I") (by decide +kernel)) (fun _ h9 => h9) rfl dX7_seen_51 ?_
        refine lv_iload_n hx hb dX7_seen_54 rfl (lv_at hl 2 rfl) ?_
        obtain ⟨σM_11, i_12, e_13, hF⟩ := q_wr_s hF
        refine r_iast (f' := upd (σM_8 10) (σM_8 99 11).toNatClampNeg a2) hx hb hK hP hD hS 7 rfl i_12 (fun _ _ => rfl) dX7_seen_55 (fun H locs hP hD hS => ?_)
        have hP : va_P g.1 vwCl (wX7 g qM AM (q_up σM_8 10 (upd (σM_8 10) (σM_8 99 11).toNatClampNeg a2)) ℓM) H := hP
        have hD : va_D Z (wX7 g qM AM (q_up σM_8 10 (upd (σM_8 10) (σM_8 99 11).toNatClampNeg a2)) ℓM) := hD
        rw [e_13] at hP hD
        refine lv_aload_n hx hb dX7_seen_56 rfl (lv_at hl 0 rfl) ?_
        refine lv_dup hx hb dX7_seen_57 rfl ?_
        refine va_get (D := g.1) (ci := 7) (v := .int (σM_11 99 11)) (C := RX7) (T := TX7) (N := 34) hx hb hts hi7 hown hK hP 0 rfl rfl 11 (by decide) (hts (.fieldLink RX7 244 "PanTalesModel" "sights" "I") (by decide +kernel)) (fun _ h9 => h9) rfl dX7_seen_58 ?_
        refine lv_iconst (v := 1) hx hb dX7_seen_61 (by decide) ?_
        refine lv_iadd hx hb dX7_seen_62 ?_
        obtain ⟨σM_14, e_15, hF⟩ := q_bd_s hF
        refine va_put (D := g.1) (ci := 7) (v := .int ((σM_11 99 11) + 1)) (ty := .int) (C := RX7) (T := TX7) (N := 34) hx hb hts hi7 tyX7 tyX7_ok nmX7 hown hK hP hD hS 0 rfl rfl 11 (by decide) (hts (.fieldLink RX7 244 "PanTalesModel" "sights" "I") (by decide +kernel)) (fun _ h9 => h9) rfl (by decide +kernel) rfl rfl (Nat.le_of_ble_eq_true rfl) dX7_seen_63 (fun H locs hP hD hS => ?_)
        have hP : va_P g.1 vwCl (wX7 g qM AM (q_pt σM_11 11 ((σM_11 99 11) + 1)) ℓM) H := hP
        have hD : va_D Z (wX7 g qM AM (q_pt σM_11 11 ((σM_11 99 11) + 1)) ℓM) := hD
        rw [e_15] at hP hD
        refine lv_aload_n hx hb dX7_seen_66 rfl (lv_at hl 0 rfl) ?_
        refine va_get (D := g.1) (ci := 7) (v := .int (σM_14 99 11)) (C := RX7) (T := TX7) (N := 34) hx hb hts hi7 hown hK hP 0 rfl rfl 11 (by decide) (hts (.fieldLink RX7 244 "PanTalesModel" "sights" "I") (by decide +kernel)) (fun _ h9 => h9) rfl dX7_seen_67 ?_
        cases hF
        exact r_iret hx hb hr hlk hS () rfl hP hD dX7_seen_70
      · have hF := q_if_t (by first | exact c_7 | exact Classical.not_not.mp c_7) hF
        refine lv_bipush (v := (-4)) hx hb dX7_seen_33 (by decide) ?_
        cases hF
        exact r_iret hx hb hr hlk hS () rfl hP hD dX7_seen_35
    · have hF := q_if_t (by first | exact c_6 | exact Classical.not_not.mp c_6) hF
      refine lv_bipush (v := (-2)) hx hb dX7_seen_21 (by decide) ?_
      cases hF
      exact r_iret hx hb hr hlk hS () rfl hP hD dX7_seen_23
  · have hF := q_if_t (by first | exact c_3 | exact Classical.not_not.mp c_3) hF
    refine lv_iconst (v := (-1)) hx hb dX7_seen_7 (by decide) ?_
    cases hF
    exact r_iret hx hb hr hlk hS () rfl hP hD dX7_seen_8
set_option maxHeartbeats 4000000 in
set_option maxRecDepth 100000 in
theorem m_X7_forget (l : Launch) (g : GT) (sz : Nat) (qM : Nat) (AM : Nat → Nat) (σM : qS) (ℓM : qL) (rr : Int32) (σM' : qS) (hF : f_X7_forget σM ℓM = some (rr, σM')) : Ci l yX7_forget wsX7_forget { frames := 0, cells := 0, slots := 0, locals := 0 } g sz [.ref qM] (wX7 g qM AM σM ℓM) rr (wX7 g qM AM σM' ℓM) := by
  refine gMet_i (cc := cX7_forget) (maxL := 2) (ret := (some .int)) (by decide) rfl (Nat.le_of_ble_eq_true rfl) ?_
  intro p e s m args below meth c Z hx hb hr F hlk hnm hK hN hA H locs hP hD hS ls hl
  have hl : lv_has ls 2 [(0, .ref qM)] := hl
  have F : CallFix p m c cX7_forget 2 s args wsX7_forget RX7 := F
  have hts := F.2.2.2.2
  have hown : s.vm.findClass RX7 = some m.cls := F.2.2.2.1
  have hi7 : ∀ w ∈ u_ws RX7 TX7 34, w ∈ wsX7_forget := by decide +kernel
  dsimp only [f_X7_forget] at hF
  refine lv_aload_n hx hb dX7_forget_0 rfl (lv_at hl 0 rfl) ?_
  refine va_get (D := g.1) (ci := 7) (v := .int (σM 99 11)) (C := RX7) (T := TX7) (N := 34) hx hb hts hi7 hown hK hP 0 rfl rfl 11 (by decide) (hts (.fieldLink RX7 244 "PanTalesModel" "sights" "I") (by decide +kernel)) (fun _ h9 => h9) rfl dX7_forget_1 ?_
  obtain ⟨v1_1, e_2, hF⟩ := q_bd_s hF
  refine gtop e_2 ?_
  refine lv_istore_n (lv' := [(1, .int v1_1), (0, .ref qM)]) hx hb dX7_forget_4 rfl hl (by decide) rfl (fun ls hl => ?_)
  refine lv_aload_n hx hb dX7_forget_5 rfl (lv_at hl 1 rfl) ?_
  refine lv_iconst (v := 0) hx hb dX7_forget_6 (by decide) ?_
  obtain ⟨σM_3, e_4, hF⟩ := q_bd_s hF
  refine va_put (D := g.1) (ci := 7) (v := .int 0) (ty := .int) (C := RX7) (T := TX7) (N := 34) hx hb hts hi7 tyX7 tyX7_ok nmX7 hown hK hP hD hS 0 rfl rfl 11 (by decide) (hts (.fieldLink RX7 244 "PanTalesModel" "sights" "I") (by decide +kernel)) (fun _ h9 => h9) rfl (by decide +kernel) rfl rfl (Nat.le_of_ble_eq_true rfl) dX7_forget_7 (fun H locs hP hD hS => ?_)
  have hP : va_P g.1 vwCl (wX7 g qM AM (q_pt σM 11 (0 : Int32)) ℓM) H := hP
  have hD : va_D Z (wX7 g qM AM (q_pt σM 11 (0 : Int32)) ℓM) := hD
  rw [e_4] at hP hD
  refine lv_iload_n hx hb dX7_forget_10 rfl (lv_at hl 0 rfl) ?_
  cases hF
  exact r_iret hx hb hr hlk hS () rfl hP hD dX7_forget_11
set_option maxHeartbeats 4000000 in
set_option maxRecDepth 100000 in
theorem m_X7_isFit (l : Launch) (g : GT) (sz : Nat) (qM : Nat) (AM : Nat → Nat) (σM : qS) (ℓM : qL) (a1 : Int32) (rr : Int32) (hF : f_X7_isFit σM ℓM a1 = some rr) : Ci l yX7_isFit wsX7_isFit { frames := 1, cells := 0, slots := 0, locals := 25 } g sz [.ref qM, .int a1] (wX7 g qM AM σM ℓM) rr (wX7 g qM AM σM ℓM) := by
  refine gMet_i (cc := cX7_isFit) (maxL := 4) (ret := (some .boolean)) (by decide) rfl (Nat.le_of_ble_eq_true rfl) ?_
  intro p e s m args below meth c Z hx hb hr F hlk hnm hK hN hA H locs hP hD hS ls hl
  have hl : lv_has ls 4 [(0, .ref qM), (1, .int a1)] := hl
  have F : CallFix p m c cX7_isFit 4 s args wsX7_isFit RX7 := F
  have hts := F.2.2.2.2
  have hown : s.vm.findClass RX7 = some m.cls := F.2.2.2.1
  have hi7 : ∀ w ∈ u_ws RX7 TX7 34, w ∈ wsX7_isFit := by decide +kernel
  dsimp only [f_X7_isFit] at hF
  refine lv_iload_n hx hb dX7_isFit_0 rfl (lv_at hl 1 rfl) ?_
  refine lv_bipush (v := 10) hx hb dX7_isFit_1 (by decide) ?_
  refine lv_irem hx hb dX7_isFit_3 (by decide) ?_
  refine lv_i2l (v := (a1 - a1 / 10 * 10).toInt64) hx hb dX7_isFit_4 rfl ?_
  refine lv_lconst (v := 1) hx hb dX7_isFit_5 (by decide) ?_
  refine lv_ldc2 (v := 5) hx hb hown (hts (.constantLong RX7 247 (5)) (by decide +kernel)) dX7_isFit_6 ?_
  obtain ⟨r_1, h_2, hF⟩ := q_cl_s hF
  refine gcP (As := [.long ((a1 - a1 / 10 * 10).toInt64), .long 1, .long 5]) (rest := []) F (m_X7_in l ((a1 - a1 / 10 * 10).toInt64) (1 : Int64) (5 : Int64) r_1 h_2) gX7_isFit_X7_in kX7_in rfl rfl rfl ⟨(Nat.le_of_ble_eq_true rfl), (Nat.le_of_ble_eq_true rfl)⟩ rfl rfl hl.1 (Nat.le_of_ble_eq_true rfl) dX7_isFit_9 ⟨(Nat.le_of_ble_eq_true rfl), (Nat.le_of_ble_eq_true rfl)⟩ ?_
  refine lv_istore_n (lv' := [(2, .int r_1), (0, .ref qM), (1, .int a1)]) hx hb dX7_isFit_12 rfl hl (by decide) rfl (fun ls hl => ?_)
  refine lv_iconst (v := 0) hx hb dX7_isFit_13 (by decide) ?_
  refine lv_istore_n (lv' := [(3, .int 0), (2, .int r_1), (0, .ref qM), (1, .int a1)]) hx hb dX7_isFit_14 rfl hl (by decide) rfl (fun ls hl => ?_)
  refine q_loop (fun u0 => wX7 g qM AM σM ℓM) (fun u0 => [(3, .int u0.1), (2, .int u0.2), (0, .ref qM), (1, .int a1)]) 67 hF ?_ ?_ hP hD hS (lv_sub hl [0, 1, 2, 3] rfl)
  · rintro ⟨v3_3, v2_3⟩ hF H locs ls hP hD hS hl
    try dsimp only at hF
    have hP : va_P g.1 vwCl (wX7 g qM AM σM ℓM) H := hP
    have hD : va_D Z (wX7 g qM AM σM ℓM) := hD
    have hl : lv_has ls 4 [(3, .int v3_3), (2, .int v2_3), (0, .ref qM), (1, .int a1)] := hl
    refine lv_iload_n hx hb dX7_isFit_67 rfl (lv_at hl 1 rfl) ?_
    obtain ⟨b_4, hF⟩ := q_chk_s hF
    cases hF
    exact r_zret hx hb hr hlk hS () (q_isB_nar b_4) rfl hP hD dX7_isFit_68
  · rintro k again kk ag ⟨v3_3, v2_3⟩ hF H locs ls hP hD hS hl
    dsimp only [b_X7_isFit_15] at hF
    have hP : va_P g.1 vwCl (wX7 g qM AM σM ℓM) H := hP
    have hD : va_D Z (wX7 g qM AM σM ℓM) := hD
    have hl : lv_has ls 4 [(3, .int v3_3), (2, .int v2_3), (0, .ref qM), (1, .int a1)] := hl
    refine lv_iload_n hx hb dX7_isFit_15 rfl (lv_at hl 0 rfl) ?_
    refine lv_aload_n hx hb dX7_isFit_16 rfl (lv_at hl 2 rfl) ?_
    refine va_get (D := g.1) (ci := 7) (v := .int (σM 99 11)) (C := RX7) (T := TX7) (N := 34) hx hb hts hi7 hown hK hP 0 rfl rfl 11 (by decide) (hts (.fieldLink RX7 244 "PanTalesModel" "sights" "I") (by decide +kernel)) (fun _ h9 => h9) rfl dX7_isFit_17 ?_
    refine lv_icmp_ge (tgt := 67) hx hb dX7_isFit_20 (by decide) (fun c_5 => ?_) (fun c_5 => ?_)
    · have hF := q_if_t c_5 hF
      exact kk (v3_3, v2_3) hF _ _ _ hP hD hS (lv_sub hl [0, 1, 2, 3] rfl)
    · have hF := q_if_f c_5 hF
      refine lv_iload_n hx hb dX7_isFit_23 rfl (lv_at hl 1 rfl) ?_
      refine lv_if_eq (tgt := 67) hx hb dX7_isFit_24 (by decide) (fun c_6 => ?_) (fun c_6 => ?_)
      · have hF := q_if_t c_6 hF
        exact kk (v3_3, v2_3) hF _ _ _ hP hD hS (lv_sub hl [0, 1, 2, 3] rfl)
      · have hF := q_if_f c_6 hF
        refine lv_aload_n hx hb dX7_isFit_27 rfl (lv_at hl 2 rfl) ?_
        refine lv_iload_n hx hb dX7_isFit_28 rfl (lv_at hl 3 rfl) ?_
        refine lv_bipush (v := 10) hx hb dX7_isFit_29 (by decide) ?_
        refine lv_idiv hx hb dX7_isFit_31 (by decide) ?_
        refine lv_aload_n hx hb dX7_isFit_32 rfl (lv_at hl 2 rfl) ?_
        refine va_get (D := g.1) (ci := 7) (v := .ref (AM 9)) (C := RX7) (T := TX7) (N := 34) hx hb hts hi7 hown hK hP 0 rfl rfl 9 (by decide) (hts (.fieldLink RX7 25 "PanTalesModel" "sightBed" "[I") (by decide +kernel)) (fun _ h9 => h9) rfl dX7_isFit_33 ?_
        refine lv_iload_n hx hb dX7_isFit_36 rfl (lv_at hl 0 rfl) ?_
        obtain ⟨r_7, i_8, e_9, hF⟩ := q_rd_s hF
        refine r_iald (v := r_7) hx hb hK hP 6 rfl i_8 e_9 dX7_isFit_37 ?_
        refine lv_iload_n hx hb dX7_isFit_38 rfl (lv_at hl 3 rfl) ?_
        refine lv_bipush (v := 10) hx hb dX7_isFit_39 (by decide) ?_
        refine lv_irem hx hb dX7_isFit_41 (by decide) ?_
        obtain ⟨n_10, hF⟩ := q_nz_s hF
        refine lv_idiv hx hb dX7_isFit_42 n_10 ?_
        obtain ⟨r_11, h_12, hF⟩ := q_cl_s hF
        refine gcV_i (As := [.int (a1 / 10), .int (r_7 / (a1 - a1 / 10 * 10))]) (rest := []) (ci := 7) (q := (RX7, TX7, 34)) F hK hN hP hD hS hA (m_X7_fadedBy l g H.size qM AM σM ℓM (a1 / 10) (r_7 / (a1 - a1 / 10 * 10)) r_11 h_12) gX7_isFit_X7_fadedBy kX7_fadedBy rfl rfl rfl rfl ⟨(Nat.le_of_ble_eq_true rfl), (Nat.le_of_ble_eq_true rfl)⟩ [0, 1, 2, 3, 4, 5, 6, 7, 8, 9, 10, 11, 12, 13, 14, 15, 16, 17, 18, 19, 20] [] rfl rfl rfl (by decide) rfl rfl rfl rfl rfl hl.1 (Nat.le_of_ble_eq_true rfl) dX7_isFit_43 ⟨(Nat.le_of_ble_eq_true rfl), (Nat.le_of_ble_eq_true rfl)⟩ (fun r_w u_w H locs hw hP hD hS => ?_)
        have hP : va_P g.1 vwCl (wX7 g qM AM σM ℓM) H := hP
        have hD : va_D Z (wX7 g qM AM σM ℓM) := hD
        obtain rfl : r_11 = r_w := hw.symm
        refine lv_aload_n hx hb dX7_isFit_46 rfl (lv_at hl 2 rfl) ?_
        refine va_get (D := g.1) (ci := 7) (v := .ref (AM 10)) (C := RX7) (T := TX7) (N := 34) hx hb hts hi7 hown hK hP 0 rfl rfl 10 (by decide) (hts (.fieldLink RX7 28 "PanTalesModel" "sightTale" "[I") (by decide +kernel)) (fun _ h9 => h9) rfl dX7_isFit_47 ?_
        refine lv_iload_n hx hb dX7_isFit_50 rfl (lv_at hl 0 rfl) ?_
        obtain ⟨r_13, i_14, e_15, hF⟩ := q_rd_s hF
        refine r_iald (v := r_13) hx hb hK hP 7 rfl i_14 e_15 dX7_isFit_51 ?_
        refine lv_icmp_ne (tgt := 59) hx hb dX7_isFit_52 (by decide) (fun c_16 => ?_) (fun c_16 => ?_)
        · have hF := q_if_f c_16 hF
          refine lv_iconst (v := 0) hx hb dX7_isFit_59 (by decide) ?_
          refine lv_istore_n (lv' := [(2, .int 0), (3, .int v3_3), (0, .ref qM), (1, .int a1)]) hx hb dX7_isFit_60 rfl hl (by decide) rfl (fun ls hl => ?_)
          refine lv_iinc (v := v3_3 + 1) (lv' := [(3, .int (v3_3 + 1)), (2, .int 0), (0, .ref qM), (1, .int a1)]) hx hb dX7_isFit_61 hl (k := 1) rfl rfl (by decide) rfl (fun ls hl => ?_)
          refine lv_goto (tgt := 15) hx hb dX7_isFit_64 (by decide) ?_
          exact ag (v3_3 + 1, (0 : Int32)) hF _ _ _ hP hD hS (lv_sub hl [0, 1, 2, 3] rfl)
        · have hF := q_if_t (by first | exact c_16 | exact Classical.not_not.mp c_16) hF
          refine lv_iconst (v := 1) hx hb dX7_isFit_55 (by decide) ?_
          refine lv_goto (tgt := 60) hx hb dX7_isFit_56 (by decide) ?_
          refine lv_istore_n (lv' := [(2, .int 1), (3, .int v3_3), (0, .ref qM), (1, .int a1)]) hx hb dX7_isFit_60 rfl hl (by decide) rfl (fun ls hl => ?_)
          refine lv_iinc (v := v3_3 + 1) (lv' := [(3, .int (v3_3 + 1)), (2, .int 1), (0, .ref qM), (1, .int a1)]) hx hb dX7_isFit_61 hl (k := 1) rfl rfl (by decide) rfl (fun ls hl => ?_)
          refine lv_goto (tgt := 15) hx hb dX7_isFit_64 (by decide) ?_
          exact ag (v3_3 + 1, (1 : Int32)) hF _ _ _ hP hD hS (lv_sub hl [0, 1, 2, 3] rfl)
set_option maxHeartbeats 4000000 in
set_option maxRecDepth 100000 in
theorem m_X7_fits (l : Launch) (g : GT) (sz : Nat) (qM : Nat) (AM : Nat → Nat) (σM : qS) (ℓM : qL) (a1 : Int32) (rr : Int32) (hF : f_X7_fits σM ℓM a1 = some rr) : Ci l yX7_fits wsX7_fits { frames := 2, cells := 0, slots := 0, locals := 48 } g sz [.ref qM, .int a1] (wX7 g qM AM σM ℓM) rr (wX7 g qM AM σM ℓM) := by
  refine gMet_i (cc := cX7_fits) (maxL := 4) (ret := (some .int)) (by decide) rfl (Nat.le_of_ble_eq_true rfl) ?_
  intro p e s m args below meth c Z hx hb hr F hlk hnm hK hN hA H locs hP hD hS ls hl
  have hl : lv_has ls 4 [(0, .ref qM), (1, .int a1)] := hl
  have F : CallFix p m c cX7_fits 4 s args wsX7_fits RX7 := F
  have hts := F.2.2.2.2
  have hown : s.vm.findClass RX7 = some m.cls := F.2.2.2.1
  dsimp only [f_X7_fits] at hF
  refine lv_iconst (v := 0) hx hb dX7_fits_0 (by decide) ?_
  refine lv_istore_n (lv' := [(2, .int 0), (0, .ref qM), (1, .int a1)]) hx hb dX7_fits_1 rfl hl (by decide) rfl (fun ls hl => ?_)
  refine lv_iconst (v := 0) hx hb dX7_fits_2 (by decide) ?_
  refine lv_istore_n (lv' := [(3, .int 0), (2, .int 0), (0, .ref qM), (1, .int a1)]) hx hb dX7_fits_3 rfl hl (by decide) rfl (fun ls hl => ?_)
  refine q_loop (fun u0 => wX7 g qM AM σM ℓM) (fun u0 => [(3, .int u0.1), (2, .int u0.2), (0, .ref qM), (1, .int a1)]) 34 hF ?_ ?_ hP hD hS (lv_sub hl [0, 1, 2, 3] rfl)
  · rintro ⟨v3_1, v2_1⟩ hF H locs ls hP hD hS hl
    try dsimp only at hF
    have hP : va_P g.1 vwCl (wX7 g qM AM σM ℓM) H := hP
    have hD : va_D Z (wX7 g qM AM σM ℓM) := hD
    have hl : lv_has ls 4 [(3, .int v3_1), (2, .int v2_1), (0, .ref qM), (1, .int a1)] := hl
    refine lv_iload_n hx hb dX7_fits_34 rfl (lv_at hl 3 rfl) ?_
    refine lv_iconst (v := (-1)) hx hb dX7_fits_35 (by decide) ?_
    refine lv_icmp_ne (tgt := 43) hx hb dX7_fits_36 (by decide) (fun c_2 => ?_) (fun c_2 => ?_)
    · have hF := q_if_f c_2 hF
      refine lv_bipush (v := (-6)) hx hb dX7_fits_43 (by decide) ?_
      cases hF
      exact r_iret hx hb hr hlk hS () rfl hP hD dX7_fits_45
    · have hF := q_if_t (by first | exact c_2 | exact Classical.not_not.mp c_2) hF
      refine lv_iload_n hx hb dX7_fits_39 rfl (lv_at hl 1 rfl) ?_
      refine lv_goto (tgt := 45) hx hb dX7_fits_40 (by decide) ?_
      cases hF
      exact r_iret hx hb hr hlk hS () rfl hP hD dX7_fits_45
  · rintro k again kk ag ⟨v3_1, v2_1⟩ hF H locs ls hP hD hS hl
    dsimp only [b_X7_fits_4] at hF
    have hP : va_P g.1 vwCl (wX7 g qM AM σM ℓM) H := hP
    have hD : va_D Z (wX7 g qM AM σM ℓM) := hD
    have hl : lv_has ls 4 [(3, .int v3_1), (2, .int v2_1), (0, .ref qM), (1, .int a1)] := hl
    refine lv_iload_n hx hb dX7_fits_4 rfl (lv_at hl 0 rfl) ?_
    refine lv_bipush (v := 100) hx hb dX7_fits_5 (by decide) ?_
    refine lv_icmp_ge (tgt := 34) hx hb dX7_fits_7 (by decide) (fun c_3 => ?_) (fun c_3 => ?_)
    · have hF := q_if_t c_3 hF
      exact kk (v3_1, v2_1) hF _ _ _ hP hD hS (lv_sub hl [0, 1, 2, 3] rfl)
    · have hF := q_if_f c_3 hF
      refine lv_aload_n hx hb dX7_fits_10 rfl (lv_at hl 2 rfl) ?_
      refine lv_iload_n hx hb dX7_fits_11 rfl (lv_at hl 0 rfl) ?_
      obtain ⟨r_4, h_5, hF⟩ := q_cl_s hF
      refine gcV_i (As := [.int v3_1]) (rest := []) (ci := 7) (q := (RX7, TX7, 34)) F hK hN hP hD hS hA (m_X7_isFit l g H.size qM AM σM ℓM v3_1 r_4 h_5) gX7_fits_X7_isFit kX7_isFit rfl rfl rfl rfl ⟨(Nat.le_of_ble_eq_true rfl), (Nat.le_of_ble_eq_true rfl)⟩ [0, 1, 2, 3, 4, 5, 6, 7, 8, 9, 10, 11, 12, 13, 14, 15, 16, 17, 18, 19, 20] [] rfl rfl rfl (by decide) rfl rfl rfl rfl rfl hl.1 (Nat.le_of_ble_eq_true rfl) dX7_fits_12 ⟨(Nat.le_of_ble_eq_true rfl), (Nat.le_of_ble_eq_true rfl)⟩ (fun r_w u_w H locs hw hP hD hS => ?_)
      have hP : va_P g.1 vwCl (wX7 g qM AM σM ℓM) H := hP
      have hD : va_D Z (wX7 g qM AM σM ℓM) := hD
      obtain rfl : r_4 = r_w := hw.symm
      refine lv_if_eq (tgt := 28) hx hb dX7_fits_15 (by decide) (fun c_6 => ?_) (fun c_6 => ?_)
      · have hF := q_if_t c_6 hF
        refine lv_iinc (v := v3_1 + 1) (lv' := [(3, .int (v3_1 + 1)), (2, .int v2_1), (0, .ref qM), (1, .int a1)]) hx hb dX7_fits_28 hl (k := 0) rfl rfl (by decide) rfl (fun ls hl => ?_)
        refine lv_goto (tgt := 4) hx hb dX7_fits_31 (by decide) ?_
        exact ag (v3_1 + 1, v2_1) hF _ _ _ hP hD hS (lv_sub hl [0, 1, 2, 3] rfl)
      · have hF := q_if_f c_6 hF
        refine lv_iload_n hx hb dX7_fits_18 rfl (lv_at hl 1 rfl) ?_
        refine lv_iload_n hx hb dX7_fits_19 rfl (lv_at hl 3 rfl) ?_
        refine lv_icmp_ne (tgt := 25) hx hb dX7_fits_20 (by decide) (fun c_7 => ?_) (fun c_7 => ?_)
        · have hF := q_if_f c_7 hF
          refine lv_iinc (v := v2_1 + 1) (lv' := [(2, .int (v2_1 + 1)), (3, .int v3_1), (0, .ref qM), (1, .int a1)]) hx hb dX7_fits_25 hl (k := 1) rfl rfl (by decide) rfl (fun ls hl => ?_)
          refine lv_iinc (v := v3_1 + 1) (lv' := [(3, .int (v3_1 + 1)), (2, .int (v2_1 + 1)), (0, .ref qM), (1, .int a1)]) hx hb dX7_fits_28 hl (k := 1) rfl rfl (by decide) rfl (fun ls hl => ?_)
          refine lv_goto (tgt := 4) hx hb dX7_fits_31 (by decide) ?_
          exact ag (v3_1 + 1, v2_1 + 1) hF _ _ _ hP hD hS (lv_sub hl [0, 1, 2, 3] rfl)
        · have hF := q_if_t (by first | exact c_7 | exact Classical.not_not.mp c_7) hF
          refine lv_iload_n hx hb dX7_fits_23 rfl (lv_at hl 0 rfl) ?_
          cases hF
          exact r_iret hx hb hr hlk hS () rfl hP hD dX7_fits_24
set_option maxHeartbeats 4000000 in
set_option maxRecDepth 100000 in
theorem m_X7_mostLeft (l : Launch) (g : GT) (sz : Nat) (qM : Nat) (AM : Nat → Nat) (σM : qS) (ℓM : qL) (a1 : Int32) (rr : Int32) (σM' : qS) (hF : f_X7_mostLeft σM ℓM a1 = some (rr, σM')) : Ci l yX7_mostLeft wsX7_mostLeft { frames := 2, cells := 0, slots := 0, locals := 48 } g sz [.ref qM, .int a1] (wX7 g qM AM σM ℓM) rr (wX7 g qM AM σM' ℓM) := by
  refine gMet_i (cc := cX7_mostLeft) (maxL := 5) (ret := (some .int)) (by decide) rfl (Nat.le_of_ble_eq_true rfl) ?_
  intro p e s m args below meth c Z hx hb hr F hlk hnm hK hN hA H locs hP hD hS ls hl
  have hl : lv_has ls 5 [(0, .ref qM), (1, .int a1)] := hl
  have F : CallFix p m c cX7_mostLeft 5 s args wsX7_mostLeft RX7 := F
  have hts := F.2.2.2.2
  have hown : s.vm.findClass RX7 = some m.cls := F.2.2.2.1
  have hi7 : ∀ w ∈ u_ws RX7 TX7 34, w ∈ wsX7_mostLeft := by decide +kernel
  dsimp only [f_X7_mostLeft] at hF
  refine lv_iconst (v := 0) hx hb dX7_mostLeft_0 (by decide) ?_
  refine lv_istore_n (lv' := [(2, .int 0), (0, .ref qM), (1, .int a1)]) hx hb dX7_mostLeft_1 rfl hl (by decide) rfl (fun ls hl => ?_)
  refine lv_iconst (v := 0) hx hb dX7_mostLeft_2 (by decide) ?_
  refine lv_istore_n (lv' := [(3, .int 0), (2, .int 0), (0, .ref qM), (1, .int a1)]) hx hb dX7_mostLeft_3 rfl hl (by decide) rfl (fun ls hl => ?_)
  refine q_loop (fun u0 => wX7 g qM AM u0.2 ℓM) (fun u0 => [(3, .int u0.1), (2, .int 0), (0, .ref qM), (1, .int a1)]) 23 hF ?_ ?_ hP hD hS (lv_sub hl [0, 1, 2, 3] rfl)
  · rintro ⟨v3_1, σM_1⟩ hF H locs ls hP hD hS hl
    try dsimp only at hF
    have hP : va_P g.1 vwCl (wX7 g qM AM σM_1 ℓM) H := hP
    have hD : va_D Z (wX7 g qM AM σM_1 ℓM) := hD
    have hl : lv_has ls 5 [(3, .int v3_1), (2, .int 0), (0, .ref qM), (1, .int a1)] := hl
    refine lv_iconst (v := 0) hx hb dX7_mostLeft_23 (by decide) ?_
    refine lv_istore_n (lv' := [(3, .int 0), (2, .int 0), (0, .ref qM), (1, .int a1)]) hx hb dX7_mostLeft_24 rfl hl (by decide) rfl (fun ls hl => ?_)
    refine q_loop (fun u0 => wX7 g qM AM u0.2.1 ℓM) (fun u0 => [(3, .int u0.1), (2, .int u0.2.2), (0, .ref qM), (1, .int a1)]) 95 hF ?_ ?_ hP hD hS (lv_sub hl [0, 1, 2, 3] rfl)
    · rintro ⟨v3_2, σM_2, v2_2⟩ hF H locs ls hP hD hS hl
      try dsimp only at hF
      have hP : va_P g.1 vwCl (wX7 g qM AM σM_2 ℓM) H := hP
      have hD : va_D Z (wX7 g qM AM σM_2 ℓM) := hD
      have hl : lv_has ls 5 [(3, .int v3_2), (2, .int v2_2), (0, .ref qM), (1, .int a1)] := hl
      refine lv_iload_n hx hb dX7_mostLeft_95 rfl (lv_at hl 1 rfl) ?_
      cases hF
      exact r_iret hx hb hr hlk hS () rfl hP hD dX7_mostLeft_96
    · rintro k again kk ag ⟨v3_2, σM_2, v2_2⟩ hF H locs ls hP hD hS hl
      dsimp only [b_X7_mostLeft_25] at hF
      have hP : va_P g.1 vwCl (wX7 g qM AM σM_2 ℓM) H := hP
      have hD : va_D Z (wX7 g qM AM σM_2 ℓM) := hD
      have hl : lv_has ls 5 [(3, .int v3_2), (2, .int v2_2), (0, .ref qM), (1, .int a1)] := hl
      refine lv_iload_n hx hb dX7_mostLeft_25 rfl (lv_at hl 0 rfl) ?_
      refine lv_bipush (v := 100) hx hb dX7_mostLeft_26 (by decide) ?_
      refine lv_icmp_ge (tgt := 95) hx hb dX7_mostLeft_28 (by decide) (fun c_3 => ?_) (fun c_3 => ?_)
      · have hF := q_if_t c_3 hF
        exact kk (v3_2, σM_2, v2_2) hF _ _ _ hP hD hS (lv_sub hl [0, 1, 2, 3] rfl)
      · have hF := q_if_f c_3 hF
        refine lv_aload_n hx hb dX7_mostLeft_31 rfl (lv_at hl 2 rfl) ?_
        refine lv_iload_n hx hb dX7_mostLeft_32 rfl (lv_at hl 0 rfl) ?_
        obtain ⟨r_4, h_5, hF⟩ := q_cl_s hF
        refine gcV_i (As := [.int v3_2]) (rest := []) (ci := 7) (q := (RX7, TX7, 34)) F hK hN hP hD hS hA (m_X7_isFit l g H.size qM AM σM_2 ℓM v3_2 r_4 h_5) gX7_mostLeft_X7_isFit kX7_isFit rfl rfl rfl rfl ⟨(Nat.le_of_ble_eq_true rfl), (Nat.le_of_ble_eq_true rfl)⟩ [0, 1, 2, 3, 4, 5, 6, 7, 8, 9, 10, 11, 12, 13, 14, 15, 16, 17, 18, 19, 20] [] rfl rfl rfl (by decide) rfl rfl rfl rfl rfl hl.1 (Nat.le_of_ble_eq_true rfl) dX7_mostLeft_33 ⟨(Nat.le_of_ble_eq_true rfl), (Nat.le_of_ble_eq_true rfl)⟩ (fun r_w u_w H locs hw hP hD hS => ?_)
        have hP : va_P g.1 vwCl (wX7 g qM AM σM_2 ℓM) H := hP
        have hD : va_D Z (wX7 g qM AM σM_2 ℓM) := hD
        obtain rfl : r_4 = r_w := hw.symm
        refine lv_if_eq (tgt := 89) hx hb dX7_mostLeft_36 (by decide) (fun c_6 => ?_) (fun c_6 => ?_)
        · have hF := q_if_t c_6 hF
          refine lv_iinc (v := v3_2 + 1) (lv' := [(3, .int (v3_2 + 1)), (2, .int v2_2), (0, .ref qM), (1, .int a1)]) hx hb dX7_mostLeft_89 hl (k := 0) rfl rfl (by decide) rfl (fun ls hl => ?_)
          refine lv_goto (tgt := 25) hx hb dX7_mostLeft_92 (by decide) ?_
          exact ag (v3_2 + 1, σM_2, v2_2) hF _ _ _ hP hD hS (lv_sub hl [0, 1, 2, 3] rfl)
        · have hF := q_if_f c_6 hF
          refine lv_aload_n hx hb dX7_mostLeft_39 rfl (lv_at hl 2 rfl) ?_
          refine lv_iload_n hx hb dX7_mostLeft_40 rfl (lv_at hl 0 rfl) ?_
          refine lv_bipush (v := 10) hx hb dX7_mostLeft_41 (by decide) ?_
          refine lv_idiv hx hb dX7_mostLeft_43 (by decide) ?_
          refine lv_iload_n hx hb dX7_mostLeft_44 rfl (lv_at hl 3 rfl) ?_
          refine lv_iload_n hx hb dX7_mostLeft_45 rfl (lv_at hl 0 rfl) ?_
          refine lv_bipush (v := 10) hx hb dX7_mostLeft_46 (by decide) ?_
          refine lv_irem hx hb dX7_mostLeft_48 (by decide) ?_
          obtain ⟨n_7, hF⟩ := q_nz_s hF
          refine lv_idiv hx hb dX7_mostLeft_49 n_7 ?_
          obtain ⟨r_8, h_9, hF⟩ := q_cl_s hF
          refine gcV_i (As := [.int (v3_2 / 10), .int (a1 / (v3_2 - v3_2 / 10 * 10))]) (rest := []) (ci := 7) (q := (RX7, TX7, 34)) F hK hN hP hD hS hA (m_X7_fadedBy l g H.size qM AM σM_2 ℓM (v3_2 / 10) (a1 / (v3_2 - v3_2 / 10 * 10)) r_8 h_9) gX7_mostLeft_X7_fadedBy kX7_fadedBy rfl rfl rfl rfl ⟨(Nat.le_of_ble_eq_true rfl), (Nat.le_of_ble_eq_true rfl)⟩ [0, 1, 2, 3, 4, 5, 6, 7, 8, 9, 10, 11, 12, 13, 14, 15, 16, 17, 18, 19, 20] [] rfl rfl rfl (by decide) rfl rfl rfl rfl rfl hl.1 (Nat.le_of_ble_eq_true rfl) dX7_mostLeft_50 ⟨(Nat.le_of_ble_eq_true rfl), (Nat.le_of_ble_eq_true rfl)⟩ (fun r_w u_w H locs hw hP hD hS => ?_)
          have hP : va_P g.1 vwCl (wX7 g qM AM σM_2 ℓM) H := hP
          have hD : va_D Z (wX7 g qM AM σM_2 ℓM) := hD
          obtain rfl : r_8 = r_w := hw.symm
          refine lv_istore (lv' := [(4, .int r_8), (3, .int v3_2), (2, .int v2_2), (0, .ref qM), (1, .int a1)]) hx hb dX7_mostLeft_53 hl (by decide) rfl (fun ls hl => ?_)
          refine lv_aload_n hx hb dX7_mostLeft_55 rfl (lv_at hl 3 rfl) ?_
          refine va_get (D := g.1) (ci := 7) (v := .ref (AM 26)) (C := RX7) (T := TX7) (N := 34) hx hb hts hi7 hown hK hP 0 rfl rfl 26 (by decide) (hts (.fieldLink RX7 52 "PanTalesModel" "byTale" "[I") (by decide +kernel)) (fun _ h9 => h9) rfl dX7_mostLeft_56 ?_
          refine lv_iload hx hb dX7_mostLeft_59 (lv_at hl 0 rfl) ?_
          refine lv_dup2_11 hx hb dX7_mostLeft_61 rfl rfl ?_
          obtain ⟨r_10, i_11, e_12, hF⟩ := q_rd_s hF
          refine r_iald (v := r_10) hx hb hK hP 15 rfl i_11 e_12 dX7_mostLeft_62 ?_
          refine lv_iconst (v := 1) hx hb dX7_mostLeft_63 (by decide) ?_
          refine lv_iadd hx hb dX7_mostLeft_64 ?_
          obtain ⟨σM_13, i_14, e_15, hF⟩ := q_wr_s hF
          refine r_iast (f' := upd (σM_2 26) r_8.toNatClampNeg (r_10 + 1)) hx hb hK hP hD hS 15 rfl i_14 (fun _ _ => rfl) dX7_mostLeft_65 (fun H locs hP hD hS => ?_)
          have hP : va_P g.1 vwCl (wX7 g qM AM (q_up σM_2 26 (upd (σM_2 26) r_8.toNatClampNeg (r_10 + 1))) ℓM) H := hP
          have hD : va_D Z (wX7 g qM AM (q_up σM_2 26 (upd (σM_2 26) r_8.toNatClampNeg (r_10 + 1))) ℓM) := hD
          rw [e_15] at hP hD
          refine lv_aload_n hx hb dX7_mostLeft_66 rfl (lv_at hl 3 rfl) ?_
          refine va_get (D := g.1) (ci := 7) (v := .ref (AM 26)) (C := RX7) (T := TX7) (N := 34) hx hb hts hi7 hown hK hP 0 rfl rfl 26 (by decide) (hts (.fieldLink RX7 52 "PanTalesModel" "byTale" "[I") (by decide +kernel)) (fun _ h9 => h9) rfl dX7_mostLeft_67 ?_
          refine lv_iload hx hb dX7_mostLeft_70 (lv_at hl 0 rfl) ?_
          obtain ⟨r_16, i_17, e_18, hF⟩ := q_rd_s hF
          refine r_iald (v := r_16) hx hb hK hP 15 rfl i_17 e_18 dX7_mostLeft_72 ?_
          refine lv_iload_n hx hb dX7_mostLeft_73 rfl (lv_at hl 2 rfl) ?_
          refine lv_icmp_le (tgt := 87) hx hb dX7_mostLeft_74 (by decide) (fun c_19 => ?_) (fun c_19 => ?_)
          · have hF := q_if_t c_19 hF
            refine lv_iload_n hx hb dX7_mostLeft_87 rfl (lv_at hl 2 rfl) ?_
            refine lv_istore_n (lv' := [(2, .int v2_2), (4, .int r_8), (3, .int v3_2), (0, .ref qM), (1, .int a1)]) hx hb dX7_mostLeft_88 rfl hl (by decide) rfl (fun ls hl => ?_)
            refine lv_iinc (v := v3_2 + 1) (lv' := [(3, .int (v3_2 + 1)), (2, .int v2_2), (4, .int r_8), (0, .ref qM), (1, .int a1)]) hx hb dX7_mostLeft_89 hl (k := 2) rfl rfl (by decide) rfl (fun ls hl => ?_)
            refine lv_goto (tgt := 25) hx hb dX7_mostLeft_92 (by decide) ?_
            exact ag (v3_2 + 1, σM_13, v2_2) hF _ _ _ hP hD hS (lv_sub hl [0, 1, 3, 4] rfl)
          · have hF := q_if_f c_19 hF
            refine lv_aload_n hx hb dX7_mostLeft_77 rfl (lv_at hl 3 rfl) ?_
            refine va_get (D := g.1) (ci := 7) (v := .ref (AM 26)) (C := RX7) (T := TX7) (N := 34) hx hb hts hi7 hown hK hP 0 rfl rfl 26 (by decide) (hts (.fieldLink RX7 52 "PanTalesModel" "byTale" "[I") (by decide +kernel)) (fun _ h9 => h9) rfl dX7_mostLeft_78 ?_
            refine lv_iload hx hb dX7_mostLeft_81 (lv_at hl 0 rfl) ?_
            obtain ⟨r_20, i_21, e_22, hF⟩ := q_rd_s hF
            refine r_iald (v := r_20) hx hb hK hP 15 rfl i_21 e_22 dX7_mostLeft_83 ?_
            refine lv_goto (tgt := 88) hx hb dX7_mostLeft_84 (by decide) ?_
            refine lv_istore_n (lv' := [(2, .int r_20), (4, .int r_8), (3, .int v3_2), (0, .ref qM), (1, .int a1)]) hx hb dX7_mostLeft_88 rfl hl (by decide) rfl (fun ls hl => ?_)
            refine lv_iinc (v := v3_2 + 1) (lv' := [(3, .int (v3_2 + 1)), (2, .int r_20), (4, .int r_8), (0, .ref qM), (1, .int a1)]) hx hb dX7_mostLeft_89 hl (k := 2) rfl rfl (by decide) rfl (fun ls hl => ?_)
            refine lv_goto (tgt := 25) hx hb dX7_mostLeft_92 (by decide) ?_
            exact ag (v3_2 + 1, σM_13, r_20) hF _ _ _ hP hD hS (lv_sub hl [0, 1, 3, 4] rfl)
  · rintro k again kk ag ⟨v3_1, σM_1⟩ hF H locs ls hP hD hS hl
    dsimp only [b_X7_mostLeft_4] at hF
    have hP : va_P g.1 vwCl (wX7 g qM AM σM_1 ℓM) H := hP
    have hD : va_D Z (wX7 g qM AM σM_1 ℓM) := hD
    have hl : lv_has ls 5 [(3, .int v3_1), (2, .int 0), (0, .ref qM), (1, .int a1)] := hl
    refine lv_iload_n hx hb dX7_mostLeft_4 rfl (lv_at hl 0 rfl) ?_
    refine lv_bipush (v := 10) hx hb dX7_mostLeft_5 (by decide) ?_
    refine lv_icmp_ge (tgt := 23) hx hb dX7_mostLeft_7 (by decide) (fun c_23 => ?_) (fun c_23 => ?_)
    · have hF := q_if_t c_23 hF
      exact kk (v3_1, σM_1) hF _ _ _ hP hD hS (lv_sub hl [0, 1, 2, 3] rfl)
    · have hF := q_if_f c_23 hF
      refine lv_aload_n hx hb dX7_mostLeft_10 rfl (lv_at hl 2 rfl) ?_
      refine va_get (D := g.1) (ci := 7) (v := .ref (AM 26)) (C := RX7) (T := TX7) (N := 34) hx hb hts hi7 hown hK hP 0 rfl rfl 26 (by decide) (hts (.fieldLink RX7 52 "PanTalesModel" "byTale" "[I") (by decide +kernel)) (fun _ h9 => h9) rfl dX7_mostLeft_11 ?_
      refine lv_iload_n hx hb dX7_mostLeft_14 rfl (lv_at hl 0 rfl) ?_
      refine lv_iconst (v := 0) hx hb dX7_mostLeft_15 (by decide) ?_
      obtain ⟨σM_24, i_25, e_26, hF⟩ := q_wr_s hF
      refine r_iast (f' := upd (σM_1 26) v3_1.toNatClampNeg (0 : Int32)) hx hb hK hP hD hS 15 rfl i_25 (fun _ _ => rfl) dX7_mostLeft_16 (fun H locs hP hD hS => ?_)
      have hP : va_P g.1 vwCl (wX7 g qM AM (q_up σM_1 26 (upd (σM_1 26) v3_1.toNatClampNeg (0 : Int32))) ℓM) H := hP
      have hD : va_D Z (wX7 g qM AM (q_up σM_1 26 (upd (σM_1 26) v3_1.toNatClampNeg (0 : Int32))) ℓM) := hD
      rw [e_26] at hP hD
      refine lv_iinc (v := v3_1 + 1) (lv' := [(3, .int (v3_1 + 1)), (2, .int 0), (0, .ref qM), (1, .int a1)]) hx hb dX7_mostLeft_17 hl (k := 0) rfl rfl (by decide) rfl (fun ls hl => ?_)
      refine lv_goto (tgt := 4) hx hb dX7_mostLeft_20 (by decide) ?_
      exact ag (v3_1 + 1, σM_24) hF _ _ _ hP hD hS (lv_sub hl [0, 1, 2, 3] rfl)
set_option maxHeartbeats 4000000 in
set_option maxRecDepth 100000 in
theorem m_X7_ask (l : Launch) (g : GT) (sz : Nat) (qM : Nat) (AM : Nat → Nat) (σM : qS) (ℓM : qL) (a1 : Int32) (rr : Int32) (σM' : qS) (hF : f_X7_ask σM ℓM a1 = some (rr, σM')) : Ci l yX7_ask wsX7_ask { frames := 3, cells := 0, slots := 0, locals := 72 } g sz [.ref qM, .int a1] (wX7 g qM AM σM ℓM) rr (wX7 g qM AM σM' ℓM) := by
  refine gMet_i (cc := cX7_ask) (maxL := 6) (ret := (some .int)) (by decide) rfl (Nat.le_of_ble_eq_true rfl) ?_
  intro p e s m args below meth c Z hx hb hr F hlk hnm hK hN hA H locs hP hD hS ls hl
  have hl : lv_has ls 6 [(0, .ref qM), (1, .int a1)] := hl
  have F : CallFix p m c cX7_ask 6 s args wsX7_ask RX7 := F
  have hts := F.2.2.2.2
  have hown : s.vm.findClass RX7 = some m.cls := F.2.2.2.1
  dsimp only [f_X7_ask] at hF
  refine lv_iload_n hx hb dX7_ask_0 rfl (lv_at hl 1 rfl) ?_
  refine lv_i2l (v := a1.toInt64) hx hb dX7_ask_1 rfl ?_
  refine lv_lconst (v := 0) hx hb dX7_ask_2 (by decide) ?_
  refine lv_lconst (v := 1) hx hb dX7_ask_3 (by decide) ?_
  obtain ⟨r_1, h_2, hF⟩ := q_cl_s hF
  refine gcP (As := [.long a1.toInt64, .long 0, .long 1]) (rest := []) F (m_X7_in l a1.toInt64 (0 : Int64) (1 : Int64) r_1 h_2) gX7_ask_X7_in kX7_in rfl rfl rfl ⟨(Nat.le_of_ble_eq_true rfl), (Nat.le_of_ble_eq_true rfl)⟩ rfl rfl hl.1 (Nat.le_of_ble_eq_true rfl) dX7_ask_4 ⟨(Nat.le_of_ble_eq_true rfl), (Nat.le_of_ble_eq_true rfl)⟩ ?_
  refine lv_if_ne (tgt := 13) hx hb dX7_ask_7 (by decide) (fun c_3 => ?_) (fun c_3 => ?_)
  · have hF := q_if_f c_3 hF
    refine lv_iconst (v := 0) hx hb dX7_ask_13 (by decide) ?_
    refine lv_istore_n (lv' := [(2, .int 0), (0, .ref qM), (1, .int a1)]) hx hb dX7_ask_14 rfl hl (by decide) rfl (fun ls hl => ?_)
    refine lv_aload_n hx hb dX7_ask_15 rfl (lv_at hl 1 rfl) ?_
    refine lv_iconst (v := 0) hx hb dX7_ask_16 (by decide) ?_
    obtain ⟨⟨r_4, σM_5⟩, h_6, hF⟩ := q_cl_s hF
    try dsimp only at hF
    refine gcV_i (As := [.int 0]) (rest := []) (ci := 7) (q := (RX7, TX7, 34)) F hK hN hP hD hS hA (m_X7_mostLeft l g H.size qM AM σM ℓM (0 : Int32) r_4 σM_5 h_6) gX7_ask_X7_mostLeft kX7_mostLeft rfl rfl rfl rfl ⟨(Nat.le_of_ble_eq_true rfl), (Nat.le_of_ble_eq_true rfl)⟩ [0, 1, 2, 3, 4, 5, 6, 7, 8, 9, 10, 11, 12, 13, 14, 15, 16, 17, 18, 19, 20] [] rfl rfl rfl (by decide) rfl rfl rfl rfl rfl hl.1 (Nat.le_of_ble_eq_true rfl) dX7_ask_17 ⟨(Nat.le_of_ble_eq_true rfl), (Nat.le_of_ble_eq_true rfl)⟩ (fun r_w u_w H locs hw hP hD hS => ?_)
    have hP : va_P g.1 vwCl (wX7 g qM AM σM_5 ℓM) H := hP
    have hD : va_D Z (wX7 g qM AM σM_5 ℓM) := hD
    obtain rfl : r_4 = r_w := hw.symm
    refine lv_istore_n (lv' := [(3, .int r_4), (2, .int 0), (0, .ref qM), (1, .int a1)]) hx hb dX7_ask_20 rfl hl (by decide) rfl (fun ls hl => ?_)
    refine lv_iconst (v := 1) hx hb dX7_ask_21 (by decide) ?_
    refine lv_istore (lv' := [(4, .int 1), (3, .int r_4), (2, .int 0), (0, .ref qM), (1, .int a1)]) hx hb dX7_ask_22 hl (by decide) rfl (fun ls hl => ?_)
    refine q_loop (fun u0 => wX7 g qM AM u0.2.1 ℓM) (fun u0 => [(4, .int u0.1), (3, .int u0.2.2.1), (2, .int u0.2.2.2), (0, .ref qM), (1, .int a1)]) 71 hF ?_ ?_ hP hD hS (lv_sub hl [0, 1, 2, 3, 4] rfl)
    · rintro ⟨v4_8, σM_8, v3_8, v2_8⟩ hF H locs ls hP hD hS hl
      try dsimp only at hF
      have hP : va_P g.1 vwCl (wX7 g qM AM σM_8 ℓM) H := hP
      have hD : va_D Z (wX7 g qM AM σM_8 ℓM) := hD
      have hl : lv_has ls 6 [(4, .int v4_8), (3, .int v3_8), (2, .int v2_8), (0, .ref qM), (1, .int a1)] := hl
      refine lv_iload_n hx hb dX7_ask_71 rfl (lv_at hl 1 rfl) ?_
      refine lv_if_ne (tgt := 80) hx hb dX7_ask_72 (by decide) (fun c_9 => ?_) (fun c_9 => ?_)
      · have hF := q_if_f c_9 hF
        refine lv_iload_n hx hb dX7_ask_80 rfl (lv_at hl 4 rfl) ?_
        refine lv_if_ne (tgt := 88) hx hb dX7_ask_81 (by decide) (fun c_10 => ?_) (fun c_10 => ?_)
        · have hF := q_if_f c_10 hF
          refine lv_iload_n hx hb dX7_ask_88 rfl (lv_at hl 1 rfl) ?_
          cases hF
          exact r_iret hx hb hr hlk hS () rfl hP hD dX7_ask_89
        · have hF := q_if_t (by first | exact c_10 | exact Classical.not_not.mp c_10) hF
          refine lv_iload_n hx hb dX7_ask_84 rfl (lv_at hl 2 rfl) ?_
          refine lv_goto (tgt := 89) hx hb dX7_ask_85 (by decide) ?_
          cases hF
          exact r_iret hx hb hr hlk hS () rfl hP hD dX7_ask_89
      · have hF := q_if_t (by first | exact c_9 | exact Classical.not_not.mp c_9) hF
        refine lv_bipush (v := (-6)) hx hb dX7_ask_75 (by decide) ?_
        refine lv_goto (tgt := 89) hx hb dX7_ask_77 (by decide) ?_
        cases hF
        exact r_iret hx hb hr hlk hS () rfl hP hD dX7_ask_89
    · rintro k again kk ag ⟨v4_8, σM_8, v3_8, v2_8⟩ hF H locs ls hP hD hS hl
      dsimp only [b_X7_ask_24] at hF
      have hP : va_P g.1 vwCl (wX7 g qM AM σM_8 ℓM) H := hP
      have hD : va_D Z (wX7 g qM AM σM_8 ℓM) := hD
      have hl : lv_has ls 6 [(4, .int v4_8), (3, .int v3_8), (2, .int v2_8), (0, .ref qM), (1, .int a1)] := hl
      refine lv_iload hx hb dX7_ask_24 (lv_at hl 0 rfl) ?_
      refine lv_bipush (v := 40) hx hb dX7_ask_26 (by decide) ?_
      refine lv_icmp_gt (tgt := 71) hx hb dX7_ask_28 (by decide) (fun c_11 => ?_) (fun c_11 => ?_)
      · have hF := q_if_t c_11 hF
        exact kk (v4_8, σM_8, v3_8, v2_8) hF _ _ _ hP hD hS (lv_sub hl [0, 1, 2, 3, 4] rfl)
      · have hF := q_if_f c_11 hF
        refine lv_aload_n hx hb dX7_ask_31 rfl (lv_at hl 3 rfl) ?_
        refine lv_iload hx hb dX7_ask_32 (lv_at hl 0 rfl) ?_
        obtain ⟨⟨r_12, σM_13⟩, h_14, hF⟩ := q_cl_s hF
        try dsimp only at hF
        refine gcV_i (As := [.int v4_8]) (rest := []) (ci := 7) (q := (RX7, TX7, 34)) F hK hN hP hD hS hA (m_X7_mostLeft l g H.size qM AM σM_8 ℓM v4_8 r_12 σM_13 h_14) gX7_ask_X7_mostLeft kX7_mostLeft rfl rfl rfl rfl ⟨(Nat.le_of_ble_eq_true rfl), (Nat.le_of_ble_eq_true rfl)⟩ [0, 1, 2, 3, 4, 5, 6, 7, 8, 9, 10, 11, 12, 13, 14, 15, 16, 17, 18, 19, 20] [] rfl rfl rfl (by decide) rfl rfl rfl rfl rfl hl.1 (Nat.le_of_ble_eq_true rfl) dX7_ask_34 ⟨(Nat.le_of_ble_eq_true rfl), (Nat.le_of_ble_eq_true rfl)⟩ (fun r_w u_w H locs hw hP hD hS => ?_)
        have hP : va_P g.1 vwCl (wX7 g qM AM σM_13 ℓM) H := hP
        have hD : va_D Z (wX7 g qM AM σM_13 ℓM) := hD
        obtain rfl : r_12 = r_w := hw.symm
        refine lv_istore (lv' := [(5, .int r_12), (4, .int v4_8), (3, .int v3_8), (2, .int v2_8), (0, .ref qM), (1, .int a1)]) hx hb dX7_ask_37 hl (by decide) rfl (fun ls hl => ?_)
        refine lv_iload hx hb dX7_ask_39 (lv_at hl 0 rfl) ?_
        refine lv_iload_n hx hb dX7_ask_41 rfl (lv_at hl 2 rfl) ?_
        refine lv_icmp_ge (tgt := 50) hx hb dX7_ask_42 (by decide) (fun c_16 => ?_) (fun c_16 => ?_)
        · have hF := q_if_t c_16 hF
          refine lv_iload_n hx hb dX7_ask_50 rfl (lv_at hl 3 rfl) ?_
          refine lv_istore_n (lv' := [(2, .int v2_8), (5, .int r_12), (4, .int v4_8), (3, .int v3_8), (0, .ref qM), (1, .int a1)]) hx hb dX7_ask_51 rfl hl (by decide) rfl (fun ls hl => ?_)
          refine lv_iload hx hb dX7_ask_52 (lv_at hl 1 rfl) ?_
          refine lv_iload_n hx hb dX7_ask_54 rfl (lv_at hl 3 rfl) ?_
          refine lv_icmp_ge (tgt := 63) hx hb dX7_ask_55 (by decide) (fun c_17 => ?_) (fun c_17 => ?_)
          · have hF := q_if_t c_17 hF
            refine lv_iload_n hx hb dX7_ask_63 rfl (lv_at hl 3 rfl) ?_
            refine lv_istore_n (lv' := [(3, .int v3_8), (2, .int v2_8), (5, .int r_12), (4, .int v4_8), (0, .ref qM), (1, .int a1)]) hx hb dX7_ask_64 rfl hl (by decide) rfl (fun ls hl => ?_)
            refine lv_iinc (v := v4_8 + 1) (lv' := [(4, .int (v4_8 + 1)), (3, .int v3_8), (2, .int v2_8), (5, .int r_12), (0, .ref qM), (1, .int a1)]) hx hb dX7_ask_65 hl (k := 3) rfl rfl (by decide) rfl (fun ls hl => ?_)
            refine lv_goto (tgt := 24) hx hb dX7_ask_68 (by decide) ?_
            exact ag (v4_8 + 1, σM_13, v3_8, v2_8) hF _ _ _ hP hD hS (lv_sub hl [0, 1, 2, 4, 5] rfl)
          · have hF := q_if_f c_17 hF
            refine lv_iload hx hb dX7_ask_58 (lv_at hl 1 rfl) ?_
            refine lv_goto (tgt := 64) hx hb dX7_ask_60 (by decide) ?_
            refine lv_istore_n (lv' := [(3, .int r_12), (2, .int v2_8), (5, .int r_12), (4, .int v4_8), (0, .ref qM), (1, .int a1)]) hx hb dX7_ask_64 rfl hl (by decide) rfl (fun ls hl => ?_)
            refine lv_iinc (v := v4_8 + 1) (lv' := [(4, .int (v4_8 + 1)), (3, .int r_12), (2, .int v2_8), (5, .int r_12), (0, .ref qM), (1, .int a1)]) hx hb dX7_ask_65 hl (k := 3) rfl rfl (by decide) rfl (fun ls hl => ?_)
            refine lv_goto (tgt := 24) hx hb dX7_ask_68 (by decide) ?_
            exact ag (v4_8 + 1, σM_13, r_12, v2_8) hF _ _ _ hP hD hS (lv_sub hl [0, 1, 2, 4, 5] rfl)
        · have hF := q_if_f c_16 hF
          refine lv_iload hx hb dX7_ask_45 (lv_at hl 1 rfl) ?_
          refine lv_goto (tgt := 51) hx hb dX7_ask_47 (by decide) ?_
          refine lv_istore_n (lv' := [(2, .int v4_8), (5, .int r_12), (4, .int v4_8), (3, .int v3_8), (0, .ref qM), (1, .int a1)]) hx hb dX7_ask_51 rfl hl (by decide) rfl (fun ls hl => ?_)
          refine lv_iload hx hb dX7_ask_52 (lv_at hl 1 rfl) ?_
          refine lv_iload_n hx hb dX7_ask_54 rfl (lv_at hl 3 rfl) ?_
          refine lv_icmp_ge (tgt := 63) hx hb dX7_ask_55 (by decide) (fun c_18 => ?_) (fun c_18 => ?_)
          · have hF := q_if_t c_18 hF
            refine lv_iload_n hx hb dX7_ask_63 rfl (lv_at hl 3 rfl) ?_
            refine lv_istore_n (lv' := [(3, .int v3_8), (2, .int v4_8), (5, .int r_12), (4, .int v4_8), (0, .ref qM), (1, .int a1)]) hx hb dX7_ask_64 rfl hl (by decide) rfl (fun ls hl => ?_)
            refine lv_iinc (v := v4_8 + 1) (lv' := [(4, .int (v4_8 + 1)), (3, .int v3_8), (2, .int v4_8), (5, .int r_12), (0, .ref qM), (1, .int a1)]) hx hb dX7_ask_65 hl (k := 3) rfl rfl (by decide) rfl (fun ls hl => ?_)
            refine lv_goto (tgt := 24) hx hb dX7_ask_68 (by decide) ?_
            exact ag (v4_8 + 1, σM_13, v3_8, v4_8) hF _ _ _ hP hD hS (lv_sub hl [0, 1, 2, 4, 5] rfl)
          · have hF := q_if_f c_18 hF
            refine lv_iload hx hb dX7_ask_58 (lv_at hl 1 rfl) ?_
            refine lv_goto (tgt := 64) hx hb dX7_ask_60 (by decide) ?_
            refine lv_istore_n (lv' := [(3, .int r_12), (2, .int v4_8), (5, .int r_12), (4, .int v4_8), (0, .ref qM), (1, .int a1)]) hx hb dX7_ask_64 rfl hl (by decide) rfl (fun ls hl => ?_)
            refine lv_iinc (v := v4_8 + 1) (lv' := [(4, .int (v4_8 + 1)), (3, .int r_12), (2, .int v4_8), (5, .int r_12), (0, .ref qM), (1, .int a1)]) hx hb dX7_ask_65 hl (k := 3) rfl rfl (by decide) rfl (fun ls hl => ?_)
            refine lv_goto (tgt := 24) hx hb dX7_ask_68 (by decide) ?_
            exact ag (v4_8 + 1, σM_13, r_12, v4_8) hF _ _ _ hP hD hS (lv_sub hl [0, 1, 2, 4, 5] rfl)
  · have hF := q_if_t (by first | exact c_3 | exact Classical.not_not.mp c_3) hF
    refine lv_bipush (v := (-2)) hx hb dX7_ask_10 (by decide) ?_
    cases hF
    exact r_iret hx hb hr hlk hS () rfl hP hD dX7_ask_12

theorem kX7_oneHouse : YOk yX7_oneHouse 2 := by decide +kernel
theorem kX7_row : YOk yX7_row 6 := by decide +kernel
theorem kX7_winsBy : YOk yX7_winsBy 2 := by decide +kernel
theorem kX7_findWins : YOk yX7_findWins 1 := by decide +kernel
theorem kX7_embers : YOk yX7_embers 2 := by decide +kernel
theorem kX7_talesBelieved : YOk yX7_talesBelieved 0 := by decide +kernel
theorem kX7_doubts : YOk yX7_doubts 0 := by decide +kernel
theorem kX7_year : YOk yX7_year 3 := by decide +kernel
theorem kX7_pass : YOk yX7_pass 1 := by decide +kernel
set_option maxHeartbeats 4000000 in
set_option maxRecDepth 100000 in
theorem m_X7_oneHouse (l : Launch) (g : GT) (sz : Nat) (qM : Nat) (AM : Nat → Nat) (σM : qS) (ℓM : qL) (a1 : Int32) (a2 : Int32) (ℓM' : qL) (hF : f_X7_oneHouse σM ℓM a1 a2 = some ℓM') : Cv l yX7_oneHouse wsX7_oneHouse { frames := 0, cells := 0, slots := 0, locals := 0 } g sz [.ref qM, .int a1, .int a2] (wX7 g qM AM σM ℓM) (wX7 g qM AM σM ℓM') := by
  refine gMet_v (cc := cX7_oneHouse) (maxL := 8) (ret := none) (by decide) rfl (Nat.le_of_ble_eq_true rfl) ?_
  intro p e s m args below meth c Z hx hb hr F hlk hnm hK hN hA H locs hP hD hS ls hl
  have hl : lv_has ls 8 [(0, .ref qM), (1, .int a1), (2, .int a2)] := hl
  have F : CallFix p m c cX7_oneHouse 8 s args wsX7_oneHouse RX7 := F
  have hts := F.2.2.2.2
  have hown : s.vm.findClass RX7 = some m.cls := F.2.2.2.1
  have hi7 : ∀ w ∈ u_ws RX7 TX7 34, w ∈ wsX7_oneHouse := by decide +kernel
  dsimp only [f_X7_oneHouse] at hF
  refine lv_iconst (v := 0) hx hb dX7_oneHouse_0 (by decide) ?_
  refine lv_istore_n (lv' := [(3, .int 0), (0, .ref qM), (1, .int a1), (2, .int a2)]) hx hb dX7_oneHouse_1 rfl hl (by decide) rfl (fun ls hl => ?_)
  refine q_loop (fun u0 => wX7 g qM AM σM u0.2) (fun u0 => [(3, .int u0.1), (0, .ref qM), (1, .int a1), (2, .int a2)]) 21 hF ?_ ?_ hP hD hS (lv_sub hl [0, 1, 2, 3] rfl)
  · rintro ⟨v3_1, ℓM_1⟩ hF H locs ls hP hD hS hl
    try dsimp only at hF
    have hP : va_P g.1 vwCl (wX7 g qM AM σM ℓM_1) H := hP
    have hD : va_D Z (wX7 g qM AM σM ℓM_1) := hD
    have hl : lv_has ls 8 [(3, .int v3_1), (0, .ref qM), (1, .int a1), (2, .int a2)] := hl
    refine lv_iconst (v := 0) hx hb dX7_oneHouse_21 (by decide) ?_
    refine lv_istore_n (lv' := [(3, .int 0), (0, .ref qM), (1, .int a1), (2, .int a2)]) hx hb dX7_oneHouse_22 rfl hl (by decide) rfl (fun ls hl => ?_)
    refine q_loop (fun u0 => wX7 g qM AM σM u0.2) (fun u0 => [(3, .int u0.1), (0, .ref qM), (1, .int a1), (2, .int a2)]) 125 hF ?_ ?_ hP hD hS (lv_sub hl [0, 1, 2, 3] rfl)
    · rintro ⟨v3_2, ℓM_2⟩ hF H locs ls hP hD hS hl
      try dsimp only at hF
      have hP : va_P g.1 vwCl (wX7 g qM AM σM ℓM_2) H := hP
      have hD : va_D Z (wX7 g qM AM σM ℓM_2) := hD
      have hl : lv_has ls 8 [(3, .int v3_2), (0, .ref qM), (1, .int a1), (2, .int a2)] := hl
      refine lv_iconst (v := 0) hx hb dX7_oneHouse_125 (by decide) ?_
      refine lv_istore_n (lv' := [(3, .int 0), (0, .ref qM), (1, .int a1), (2, .int a2)]) hx hb dX7_oneHouse_126 rfl hl (by decide) rfl (fun ls hl => ?_)
      refine q_loop (fun u0 => wX7 g qM AM σM u0.2) (fun u0 => [(3, .int u0.1), (0, .ref qM)]) 151 hF ?_ ?_ hP hD hS (lv_sub hl [0, 1] rfl)
      · rintro ⟨v3_3, ℓM_3⟩ hF H locs ls hP hD hS hl
        try dsimp only at hF
        have hP : va_P g.1 vwCl (wX7 g qM AM σM ℓM_3) H := hP
        have hD : va_D Z (wX7 g qM AM σM ℓM_3) := hD
        have hl : lv_has ls 8 [(3, .int v3_3), (0, .ref qM)] := hl
        cases hF
        exact r_vret hx hb hr hlk hS () trivial hP hD dX7_oneHouse_151
      · rintro k again kk ag ⟨v3_3, ℓM_3⟩ hF H locs ls hP hD hS hl
        dsimp only [b_X7_oneHouse_127] at hF
        have hP : va_P g.1 vwCl (wX7 g qM AM σM ℓM_3) H := hP
        have hD : va_D Z (wX7 g qM AM σM ℓM_3) := hD
        have hl : lv_has ls 8 [(3, .int v3_3), (0, .ref qM)] := hl
        refine lv_iload_n hx hb dX7_oneHouse_127 rfl (lv_at hl 0 rfl) ?_
        refine lv_bipush (v := 22) hx hb dX7_oneHouse_128 (by decide) ?_
        refine lv_icmp_ge (tgt := 151) hx hb dX7_oneHouse_130 (by decide) (fun c_4 => ?_) (fun c_4 => ?_)
        · have hF := q_if_t c_4 hF
          exact kk (v3_3, ℓM_3) hF _ _ _ hP hD hS (lv_sub hl [0, 1] rfl)
        · have hF := q_if_f c_4 hF
          refine lv_aload_n hx hb dX7_oneHouse_133 rfl (lv_at hl 1 rfl) ?_
          refine va_get (D := g.1) (ci := 7) (v := .ref (AM 27)) (C := RX7) (T := TX7) (N := 34) hx hb hts hi7 hown hK hP 0 rfl rfl 27 (by decide) (hts (.fieldLink RX7 55 "PanTalesModel" "parts" "[J") (by decide +kernel)) (fun _ h9 => h9) rfl dX7_oneHouse_134 ?_
          refine lv_iload_n hx hb dX7_oneHouse_137 rfl (lv_at hl 0 rfl) ?_
          refine lv_aload_n hx hb dX7_oneHouse_138 rfl (lv_at hl 1 rfl) ?_
          refine va_get (D := g.1) (ci := 7) (v := .ref (AM 28)) (C := RX7) (T := TX7) (N := 34) hx hb hts hi7 hown hK hP 0 rfl rfl 28 (by decide) (hts (.fieldLink RX7 59 "PanTalesModel" "partsThen" "[J") (by decide +kernel)) (fun _ h9 => h9) rfl dX7_oneHouse_139 ?_
          refine lv_iload_n hx hb dX7_oneHouse_142 rfl (lv_at hl 0 rfl) ?_
          obtain ⟨r_5, i_6, e_7, hF⟩ := q_rdL_s hF
          refine r_lald (v := r_5) hx hb hK hP 17 rfl i_6 e_7 dX7_oneHouse_143 ?_
          obtain ⟨ℓM_8, i_9, e_10, hF⟩ := q_wrL_s hF
          refine r_last (f' := vp_updL (ℓM_3 27) v3_3.toNatClampNeg r_5) hx hb hK hP hD hS 16 rfl i_9 (fun _ _ => rfl) dX7_oneHouse_144 (fun H locs hP hD hS => ?_)
          have hP : va_P g.1 vwCl (wX7 g qM AM σM (q_upL ℓM_3 27 (vp_updL (ℓM_3 27) v3_3.toNatClampNeg r_5))) H := hP
          have hD : va_D Z (wX7 g qM AM σM (q_upL ℓM_3 27 (vp_updL (ℓM_3 27) v3_3.toNatClampNeg r_5))) := hD
          rw [e_10] at hP hD
          refine lv_iinc (v := v3_3 + 1) (lv' := [(3, .int (v3_3 + 1)), (0, .ref qM)]) hx hb dX7_oneHouse_145 hl (k := 0) rfl rfl (by decide) rfl (fun ls hl => ?_)
          refine lv_goto (tgt := 127) hx hb dX7_oneHouse_148 (by decide) ?_
          exact ag (v3_3 + 1, ℓM_8) hF _ _ _ hP hD hS (lv_sub hl [0, 1] rfl)
    · rintro k again kk ag ⟨v3_2, ℓM_2⟩ hF H locs ls hP hD hS hl
      dsimp only [b_X7_oneHouse_23] at hF
      have hP : va_P g.1 vwCl (wX7 g qM AM σM ℓM_2) H := hP
      have hD : va_D Z (wX7 g qM AM σM ℓM_2) := hD
      have hl : lv_has ls 8 [(3, .int v3_2), (0, .ref qM), (1, .int a1), (2, .int a2)] := hl
      refine lv_iload_n hx hb dX7_oneHouse_23 rfl (lv_at hl 0 rfl) ?_
      refine lv_bipush (v := 10) hx hb dX7_oneHouse_24 (by decide) ?_
      refine lv_icmp_ge (tgt := 125) hx hb dX7_oneHouse_26 (by decide) (fun c_11 => ?_) (fun c_11 => ?_)
      · have hF := q_if_t c_11 hF
        exact kk (v3_2, ℓM_2) hF _ _ _ hP hD hS (lv_sub hl [0, 1, 2, 3] rfl)
      · have hF := q_if_f c_11 hF
        refine lv_iload_n hx hb dX7_oneHouse_29 rfl (lv_at hl 2 rfl) ?_
        refine lv_i2l (v := a1.toInt64) hx hb dX7_oneHouse_30 rfl ?_
        refine lv_aload_n hx hb dX7_oneHouse_31 rfl (lv_at hl 1 rfl) ?_
        refine va_get (D := g.1) (ci := 7) (v := .ref (AM 27)) (C := RX7) (T := TX7) (N := 34) hx hb hts hi7 hown hK hP 0 rfl rfl 27 (by decide) (hts (.fieldLink RX7 55 "PanTalesModel" "parts" "[J") (by decide +kernel)) (fun _ h9 => h9) rfl dX7_oneHouse_32 ?_
        refine lv_iconst (v := 2) hx hb dX7_oneHouse_35 (by decide) ?_
        refine lv_iload_n hx hb dX7_oneHouse_36 rfl (lv_at hl 0 rfl) ?_
        refine lv_imul hx hb dX7_oneHouse_37 ?_
        refine lv_iconst (v := 1) hx hb dX7_oneHouse_38 (by decide) ?_
        refine lv_iadd hx hb dX7_oneHouse_39 ?_
        obtain ⟨r_12, i_13, e_14, hF⟩ := q_rdL_s hF
        refine r_lald (v := r_12) hx hb hK hP 16 rfl i_13 e_14 dX7_oneHouse_40 ?_
        refine lv_lmul hx hb dX7_oneHouse_41 ?_
        refine lv_iload_n hx hb dX7_oneHouse_42 rfl (lv_at hl 3 rfl) ?_
        refine lv_i2l (v := a2.toInt64) hx hb dX7_oneHouse_43 rfl ?_
        refine lv_aload_n hx hb dX7_oneHouse_44 rfl (lv_at hl 1 rfl) ?_
        refine va_get (D := g.1) (ci := 7) (v := .ref (AM 27)) (C := RX7) (T := TX7) (N := 34) hx hb hts hi7 hown hK hP 0 rfl rfl 27 (by decide) (hts (.fieldLink RX7 55 "PanTalesModel" "parts" "[J") (by decide +kernel)) (fun _ h9 => h9) rfl dX7_oneHouse_45 ?_
        refine lv_iconst (v := 2) hx hb dX7_oneHouse_48 (by decide) ?_
        refine lv_iload_n hx hb dX7_oneHouse_49 rfl (lv_at hl 0 rfl) ?_
        refine lv_imul hx hb dX7_oneHouse_50 ?_
        obtain ⟨r_15, i_16, e_17, hF⟩ := q_rdL_s hF
        refine r_lald (v := r_15) hx hb hK hP 16 rfl i_16 e_17 dX7_oneHouse_51 ?_
        refine lv_lmul hx hb dX7_oneHouse_52 ?_
        refine lv_ladd hx hb dX7_oneHouse_53 ?_
        obtain ⟨v4_18, e_19, hF⟩ := q_bd_s hF
        refine gtopl e_19 ?_
        refine lv_lstore (lv' := [(4, .long v4_18), (3, .int v3_2), (0, .ref qM), (1, .int a1), (2, .int a2)]) hx hb dX7_oneHouse_54 hl (by decide) rfl (fun ls hl => ?_)
        refine lv_ldc2 (v := 10) hx hb hown (hts (.constantLong RX7 82 (10)) (by decide +kernel)) dX7_oneHouse_56 ?_
        refine lv_iload_n hx hb dX7_oneHouse_59 rfl (lv_at hl 3 rfl) ?_
        refine lv_i2l (v := a1.toInt64) hx hb dX7_oneHouse_60 rfl ?_
        refine lv_lsub hx hb dX7_oneHouse_61 ?_
        refine lv_aload_n hx hb dX7_oneHouse_62 rfl (lv_at hl 2 rfl) ?_
        refine va_get (D := g.1) (ci := 7) (v := .ref (AM 27)) (C := RX7) (T := TX7) (N := 34) hx hb hts hi7 hown hK hP 0 rfl rfl 27 (by decide) (hts (.fieldLink RX7 55 "PanTalesModel" "parts" "[J") (by decide +kernel)) (fun _ h9 => h9) rfl dX7_oneHouse_63 ?_
        refine lv_iconst (v := 2) hx hb dX7_oneHouse_66 (by decide) ?_
        refine lv_iload_n hx hb dX7_oneHouse_67 rfl (lv_at hl 1 rfl) ?_
        refine lv_imul hx hb dX7_oneHouse_68 ?_
        refine lv_iconst (v := 1) hx hb dX7_oneHouse_69 (by decide) ?_
        refine lv_iadd hx hb dX7_oneHouse_70 ?_
        obtain ⟨r_20, i_21, e_22, hF⟩ := q_rdL_s hF
        refine r_lald (v := r_20) hx hb hK hP 16 rfl i_21 e_22 dX7_oneHouse_71 ?_
        refine lv_lmul hx hb dX7_oneHouse_72 ?_
        refine lv_ldc2 (v := 10) hx hb hown (hts (.constantLong RX7 82 (10)) (by decide +kernel)) dX7_oneHouse_73 ?_
        refine lv_iload_n hx hb dX7_oneHouse_76 rfl (lv_at hl 4 rfl) ?_
        refine lv_i2l (v := a2.toInt64) hx hb dX7_oneHouse_77 rfl ?_
        refine lv_lsub hx hb dX7_oneHouse_78 ?_
        refine lv_aload_n hx hb dX7_oneHouse_79 rfl (lv_at hl 2 rfl) ?_
        refine va_get (D := g.1) (ci := 7) (v := .ref (AM 27)) (C := RX7) (T := TX7) (N := 34) hx hb hts hi7 hown hK hP 0 rfl rfl 27 (by decide) (hts (.fieldLink RX7 55 "PanTalesModel" "parts" "[J") (by decide +kernel)) (fun _ h9 => h9) rfl dX7_oneHouse_80 ?_
        refine lv_iconst (v := 2) hx hb dX7_oneHouse_83 (by decide) ?_
        refine lv_iload_n hx hb dX7_oneHouse_84 rfl (lv_at hl 1 rfl) ?_
        refine lv_imul hx hb dX7_oneHouse_85 ?_
        obtain ⟨r_23, i_24, e_25, hF⟩ := q_rdL_s hF
        refine r_lald (v := r_23) hx hb hK hP 16 rfl i_24 e_25 dX7_oneHouse_86 ?_
        refine lv_lmul hx hb dX7_oneHouse_87 ?_
        refine lv_ladd hx hb dX7_oneHouse_88 ?_
        obtain ⟨v6_26, e_27, hF⟩ := q_bd_s hF
        refine gtopl e_27 ?_
        refine lv_lstore (lv' := [(6, .long v6_26), (4, .long v4_18), (3, .int v3_2), (0, .ref qM), (1, .int a1), (2, .int a2)]) hx hb dX7_oneHouse_89 hl (by decide) rfl (fun ls hl => ?_)
        refine lv_aload_n hx hb dX7_oneHouse_91 rfl (lv_at hl 3 rfl) ?_
        refine va_get (D := g.1) (ci := 7) (v := .ref (AM 28)) (C := RX7) (T := TX7) (N := 34) hx hb hts hi7 hown hK hP 0 rfl rfl 28 (by decide) (hts (.fieldLink RX7 59 "PanTalesModel" "partsThen" "[J") (by decide +kernel)) (fun _ h9 => h9) rfl dX7_oneHouse_92 ?_
        refine lv_iconst (v := 2) hx hb dX7_oneHouse_95 (by decide) ?_
        refine lv_iload_n hx hb dX7_oneHouse_96 rfl (lv_at hl 2 rfl) ?_
        refine lv_imul hx hb dX7_oneHouse_97 ?_
        refine lv_iconst (v := 3) hx hb dX7_oneHouse_98 (by decide) ?_
        refine lv_iadd hx hb dX7_oneHouse_99 ?_
        refine lv_dup2_11 hx hb dX7_oneHouse_100 rfl rfl ?_
        obtain ⟨r_28, i_29, e_30, hF⟩ := q_rdL_s hF
        refine r_lald (v := r_28) hx hb hK hP 17 rfl i_29 e_30 dX7_oneHouse_101 ?_
        refine lv_lload hx hb dX7_oneHouse_102 (lv_at hl 1 rfl) ?_
        refine lv_ladd hx hb dX7_oneHouse_104 ?_
        obtain ⟨ℓM_31, i_32, e_33, hF⟩ := q_wrL_s hF
        refine r_last (f' := vp_updL (ℓM_2 28) (((2 : Int32) * v3_2) + 3).toNatClampNeg (r_28 + v4_18)) hx hb hK hP hD hS 17 rfl i_32 (fun _ _ => rfl) dX7_oneHouse_105 (fun H locs hP hD hS => ?_)
        have hP : va_P g.1 vwCl (wX7 g qM AM σM (q_upL ℓM_2 28 (vp_updL (ℓM_2 28) (((2 : Int32) * v3_2) + 3).toNatClampNeg (r_28 + v4_18)))) H := hP
        have hD : va_D Z (wX7 g qM AM σM (q_upL ℓM_2 28 (vp_updL (ℓM_2 28) (((2 : Int32) * v3_2) + 3).toNatClampNeg (r_28 + v4_18)))) := hD
        rw [e_33] at hP hD
        refine lv_aload_n hx hb dX7_oneHouse_106 rfl (lv_at hl 3 rfl) ?_
        refine va_get (D := g.1) (ci := 7) (v := .ref (AM 28)) (C := RX7) (T := TX7) (N := 34) hx hb hts hi7 hown hK hP 0 rfl rfl 28 (by decide) (hts (.fieldLink RX7 59 "PanTalesModel" "partsThen" "[J") (by decide +kernel)) (fun _ h9 => h9) rfl dX7_oneHouse_107 ?_
        refine lv_iconst (v := 2) hx hb dX7_oneHouse_110 (by decide) ?_
        refine lv_iload_n hx hb dX7_oneHouse_111 rfl (lv_at hl 2 rfl) ?_
        refine lv_imul hx hb dX7_oneHouse_112 ?_
        refine lv_dup2_11 hx hb dX7_oneHouse_113 rfl rfl ?_
        obtain ⟨r_34, i_35, e_36, hF⟩ := q_rdL_s hF
        refine r_lald (v := r_34) hx hb hK hP 17 rfl i_35 e_36 dX7_oneHouse_114 ?_
        refine lv_lload hx hb dX7_oneHouse_115 (lv_at hl 0 rfl) ?_
        refine lv_ladd hx hb dX7_oneHouse_117 ?_
        obtain ⟨ℓM_37, i_38, e_39, hF⟩ := q_wrL_s hF
        refine r_last (f' := vp_updL (ℓM_31 28) ((2 : Int32) * v3_2).toNatClampNeg (r_34 + v6_26)) hx hb hK hP hD hS 17 rfl i_38 (fun _ _ => rfl) dX7_oneHouse_118 (fun H locs hP hD hS => ?_)
        have hP : va_P g.1 vwCl (wX7 g qM AM σM (q_upL ℓM_31 28 (vp_updL (ℓM_31 28) ((2 : Int32) * v3_2).toNatClampNeg (r_34 + v6_26)))) H := hP
        have hD : va_D Z (wX7 g qM AM σM (q_upL ℓM_31 28 (vp_updL (ℓM_31 28) ((2 : Int32) * v3_2).toNatClampNeg (r_34 + v6_26)))) := hD
        rw [e_39] at hP hD
        refine lv_iinc (v := v3_2 + 1) (lv' := [(3, .int (v3_2 + 1)), (6, .long v6_26), (4, .long v4_18), (0, .ref qM), (1, .int a1), (2, .int a2)]) hx hb dX7_oneHouse_119 hl (k := 2) rfl rfl (by decide) rfl (fun ls hl => ?_)
        refine lv_goto (tgt := 23) hx hb dX7_oneHouse_122 (by decide) ?_
        exact ag (v3_2 + 1, ℓM_37) hF _ _ _ hP hD hS (lv_sub hl [0, 3, 4, 5] rfl)
  · rintro k again kk ag ⟨v3_1, ℓM_1⟩ hF H locs ls hP hD hS hl
    dsimp only [b_X7_oneHouse_2] at hF
    have hP : va_P g.1 vwCl (wX7 g qM AM σM ℓM_1) H := hP
    have hD : va_D Z (wX7 g qM AM σM ℓM_1) := hD
    have hl : lv_has ls 8 [(3, .int v3_1), (0, .ref qM), (1, .int a1), (2, .int a2)] := hl
    refine lv_iload_n hx hb dX7_oneHouse_2 rfl (lv_at hl 0 rfl) ?_
    refine lv_bipush (v := 22) hx hb dX7_oneHouse_3 (by decide) ?_
    refine lv_icmp_ge (tgt := 21) hx hb dX7_oneHouse_5 (by decide) (fun c_40 => ?_) (fun c_40 => ?_)
    · have hF := q_if_t c_40 hF
      exact kk (v3_1, ℓM_1) hF _ _ _ hP hD hS (lv_sub hl [0, 1, 2, 3] rfl)
    · have hF := q_if_f c_40 hF
      refine lv_aload_n hx hb dX7_oneHouse_8 rfl (lv_at hl 1 rfl) ?_
      refine va_get (D := g.1) (ci := 7) (v := .ref (AM 28)) (C := RX7) (T := TX7) (N := 34) hx hb hts hi7 hown hK hP 0 rfl rfl 28 (by decide) (hts (.fieldLink RX7 59 "PanTalesModel" "partsThen" "[J") (by decide +kernel)) (fun _ h9 => h9) rfl dX7_oneHouse_9 ?_
      refine lv_iload_n hx hb dX7_oneHouse_12 rfl (lv_at hl 0 rfl) ?_
      refine lv_lconst (v := 0) hx hb dX7_oneHouse_13 (by decide) ?_
      obtain ⟨ℓM_41, i_42, e_43, hF⟩ := q_wrL_s hF
      refine r_last (f' := vp_updL (ℓM_1 28) v3_1.toNatClampNeg (0 : Int64)) hx hb hK hP hD hS 17 rfl i_42 (fun _ _ => rfl) dX7_oneHouse_14 (fun H locs hP hD hS => ?_)
      have hP : va_P g.1 vwCl (wX7 g qM AM σM (q_upL ℓM_1 28 (vp_updL (ℓM_1 28) v3_1.toNatClampNeg (0 : Int64)))) H := hP
      have hD : va_D Z (wX7 g qM AM σM (q_upL ℓM_1 28 (vp_updL (ℓM_1 28) v3_1.toNatClampNeg (0 : Int64)))) := hD
      rw [e_43] at hP hD
      refine lv_iinc (v := v3_1 + 1) (lv' := [(3, .int (v3_1 + 1)), (0, .ref qM), (1, .int a1), (2, .int a2)]) hx hb dX7_oneHouse_15 hl (k := 0) rfl rfl (by decide) rfl (fun ls hl => ?_)
      refine lv_goto (tgt := 2) hx hb dX7_oneHouse_18 (by decide) ?_
      exact ag (v3_1 + 1, ℓM_41) hF _ _ _ hP hD hS (lv_sub hl [0, 1, 2, 3] rfl)
set_option maxHeartbeats 4000000 in
set_option maxRecDepth 100000 in
theorem m_X7_row (l : Launch) (g : GT) (sz : Nat) (qM : Nat) (AM : Nat → Nat) (σM : qS) (ℓM : qL) (a1 : Int32) (a2 : Int32) (a3 : Int32) (a4 : Int32) (a5 : Int32) (a6 : Int32) (rr : Int64) (ℓM' : qL) (hF : f_X7_row σM ℓM a1 a2 a3 a4 a5 a6 = some (rr, ℓM')) : Cl l yX7_row wsX7_row { frames := 2, cells := 0, slots := 0, locals := 48 } g sz [.ref qM, .int a1, .int a2, .int a3, .int a4, .int a5, .int a6] (wX7 g qM AM σM ℓM) rr (wX7 g qM AM σM ℓM') := by
  refine gMet_l (cc := cX7_row) (maxL := 15) (ret := (some .long)) (by decide) rfl (Nat.le_of_ble_eq_true rfl) ?_
  intro p e s m args below meth c Z hx hb hr F hlk hnm hK hN hA H locs hP hD hS ls hl
  have hl : lv_has ls 15 [(0, .ref qM), (1, .int a1), (2, .int a2), (3, .int a3), (4, .int a4), (5, .int a5), (6, .int a6)] := hl
  have F : CallFix p m c cX7_row 15 s args wsX7_row RX7 := F
  have hts := F.2.2.2.2
  have hown : s.vm.findClass RX7 = some m.cls := F.2.2.2.1
  have hi7 : ∀ w ∈ u_ws RX7 TX7 34, w ∈ wsX7_row := by decide +kernel
  dsimp only [f_X7_row] at hF
  refine lv_iload_n hx hb dX7_row_0 rfl (lv_at hl 1 rfl) ?_
  refine lv_iload_n hx hb dX7_row_1 rfl (lv_at hl 2 rfl) ?_
  refine lv_iload_n hx hb dX7_row_2 rfl (lv_at hl 3 rfl) ?_
  refine lv_iload hx hb dX7_row_3 (lv_at hl 4 rfl) ?_
  obtain ⟨r_1, h_2, hF⟩ := q_cl_s hF
  refine gcP (As := [.int a1, .int a2, .int a3, .int a4]) (rest := []) F (m_X7_isRow l a1 a2 a3 a4 r_1 h_2) gX7_row_X7_isRow kX7_isRow rfl rfl rfl ⟨(Nat.le_of_ble_eq_true rfl), (Nat.le_of_ble_eq_true rfl)⟩ rfl rfl hl.1 (Nat.le_of_ble_eq_true rfl) dX7_row_5 ⟨(Nat.le_of_ble_eq_true rfl), (Nat.le_of_ble_eq_true rfl)⟩ ?_
  refine lv_if_eq (tgt := 35) hx hb dX7_row_8 (by decide) (fun c_3 => ?_) (fun c_3 => ?_)
  · have hF := q_if_t c_3 hF
    refine lv_ldc2 (v := (-1000000000000000002)) hx hb hown (hts (.constantLong RX7 259 (-1000000000000000002)) (by decide +kernel)) dX7_row_35 ?_
    cases hF
    exact r_lret hx hb hr hlk hS () rfl hP hD dX7_row_38
  · have hF := q_if_f c_3 hF
    refine lv_iload hx hb dX7_row_11 (lv_at hl 5 rfl) ?_
    refine lv_i2l (v := a5.toInt64) hx hb dX7_row_13 rfl ?_
    refine lv_lconst (v := 0) hx hb dX7_row_14 (by decide) ?_
    refine lv_ldc2 (v := 2) hx hb hown (hts (.constantLong RX7 191 (2)) (by decide +kernel)) dX7_row_15 ?_
    obtain ⟨r_4, h_5, hF⟩ := q_cl_s hF
    refine gcP (As := [.long a5.toInt64, .long 0, .long 2]) (rest := []) F (m_X7_in l a5.toInt64 (0 : Int64) (2 : Int64) r_4 h_5) gX7_row_X7_in kX7_in rfl rfl rfl ⟨(Nat.le_of_ble_eq_true rfl), (Nat.le_of_ble_eq_true rfl)⟩ rfl rfl hl.1 (Nat.le_of_ble_eq_true rfl) dX7_row_18 ⟨(Nat.le_of_ble_eq_true rfl), (Nat.le_of_ble_eq_true rfl)⟩ ?_
    refine lv_if_eq (tgt := 35) hx hb dX7_row_21 (by decide) (fun c_6 => ?_) (fun c_6 => ?_)
    · have hF := q_if_t c_6 hF
      refine lv_ldc2 (v := (-1000000000000000002)) hx hb hown (hts (.constantLong RX7 259 (-1000000000000000002)) (by decide +kernel)) dX7_row_35 ?_
      cases hF
      exact r_lret hx hb hr hlk hS () rfl hP hD dX7_row_38
    · have hF := q_if_f c_6 hF
      refine lv_iload hx hb dX7_row_24 (lv_at hl 6 rfl) ?_
      refine lv_i2l (v := a6.toInt64) hx hb dX7_row_26 rfl ?_
      refine lv_lconst (v := 0) hx hb dX7_row_27 (by decide) ?_
      refine lv_lconst (v := 1) hx hb dX7_row_28 (by decide) ?_
      obtain ⟨r_7, h_8, hF⟩ := q_cl_s hF
      refine gcP (As := [.long a6.toInt64, .long 0, .long 1]) (rest := []) F (m_X7_in l a6.toInt64 (0 : Int64) (1 : Int64) r_7 h_8) gX7_row_X7_in kX7_in rfl rfl rfl ⟨(Nat.le_of_ble_eq_true rfl), (Nat.le_of_ble_eq_true rfl)⟩ rfl rfl hl.1 (Nat.le_of_ble_eq_true rfl) dX7_row_29 ⟨(Nat.le_of_ble_eq_true rfl), (Nat.le_of_ble_eq_true rfl)⟩ ?_
      refine lv_if_ne (tgt := 39) hx hb dX7_row_32 (by decide) (fun c_9 => ?_) (fun c_9 => ?_)
      · have hF := q_if_f c_9 hF
        refine lv_iconst (v := 0) hx hb dX7_row_39 (by decide) ?_
        refine lv_istore (lv' := [(7, .int 0), (0, .ref qM), (1, .int a1), (2, .int a2), (3, .int a3), (4, .int a4), (5, .int a5), (6, .int a6)]) hx hb dX7_row_40 hl (by decide) rfl (fun ls hl => ?_)
        refine q_loop (fun u0 => wX7 g qM AM σM u0.2) (fun u0 => [(7, .int u0.1), (0, .ref qM), (1, .int a1), (2, .int a2), (3, .int a3), (4, .int a4), (5, .int a5), (6, .int a6)]) 63 hF ?_ ?_ hP hD hS (lv_sub hl [0, 1, 2, 3, 4, 5, 6, 7] rfl)
        · rintro ⟨v7_10, ℓM_10⟩ hF H locs ls hP hD hS hl
          try dsimp only at hF
          have hP : va_P g.1 vwCl (wX7 g qM AM σM ℓM_10) H := hP
          have hD : va_D Z (wX7 g qM AM σM ℓM_10) := hD
          have hl : lv_has ls 15 [(7, .int v7_10), (0, .ref qM), (1, .int a1), (2, .int a2), (3, .int a3), (4, .int a4), (5, .int a5), (6, .int a6)] := hl
          refine lv_aload_n hx hb dX7_row_63 rfl (lv_at hl 1 rfl) ?_
          refine va_get (D := g.1) (ci := 7) (v := .ref (AM 27)) (C := RX7) (T := TX7) (N := 34) hx hb hts hi7 hown hK hP 0 rfl rfl 27 (by decide) (hts (.fieldLink RX7 55 "PanTalesModel" "parts" "[J") (by decide +kernel)) (fun _ h9 => h9) rfl dX7_row_64 ?_
          refine lv_iconst (v := 1) hx hb dX7_row_67 (by decide) ?_
          refine lv_lconst (v := 1) hx hb dX7_row_68 (by decide) ?_
          obtain ⟨ℓM_11, i_12, e_13, hF⟩ := q_wrL_s hF
          refine r_last (f' := vp_updL (ℓM_10 27) (1 : Int32).toNatClampNeg (1 : Int64)) hx hb hK hP hD hS 16 rfl i_12 (fun _ _ => rfl) dX7_row_69 (fun H locs hP hD hS => ?_)
          have hP : va_P g.1 vwCl (wX7 g qM AM σM (q_upL ℓM_10 27 (vp_updL (ℓM_10 27) (1 : Int32).toNatClampNeg (1 : Int64)))) H := hP
          have hD : va_D Z (wX7 g qM AM σM (q_upL ℓM_10 27 (vp_updL (ℓM_10 27) (1 : Int32).toNatClampNeg (1 : Int64)))) := hD
          rw [e_13] at hP hD
          refine lv_lconst (v := 1) hx hb dX7_row_70 (by decide) ?_
          refine lv_lstore (lv' := [(7, .long 1), (0, .ref qM), (1, .int a1), (2, .int a2), (3, .int a3), (4, .int a4), (5, .int a5), (6, .int a6)]) hx hb dX7_row_71 hl (by decide) rfl (fun ls hl => ?_)
          refine lv_iconst (v := 0) hx hb dX7_row_73 (by decide) ?_
          refine lv_istore (lv' := [(9, .int 0), (7, .long 1), (0, .ref qM), (1, .int a1), (2, .int a2), (3, .int a3), (4, .int a4), (5, .int a5), (6, .int a6)]) hx hb dX7_row_74 hl (by decide) rfl (fun ls hl => ?_)
          refine q_loop (fun u0 => wX7 g qM AM σM u0.2.2) (fun u0 => [(9, .int u0.1), (7, .long u0.2.1), (0, .ref qM), (1, .int a1), (2, .int a2), (3, .int a3), (4, .int a4), (5, .int a5), (6, .int a6)]) 102 hF ?_ ?_ hP hD hS (lv_sub hl [0, 1, 2, 3, 4, 5, 6, 7, 8] rfl)
          · rintro ⟨v9_14, v7_14, ℓM_14⟩ hF H locs ls hP hD hS hl
            try dsimp only at hF
            have hP : va_P g.1 vwCl (wX7 g qM AM σM ℓM_14) H := hP
            have hD : va_D Z (wX7 g qM AM σM ℓM_14) := hD
            have hl : lv_has ls 15 [(9, .int v9_14), (7, .long v7_14), (0, .ref qM), (1, .int a1), (2, .int a2), (3, .int a3), (4, .int a4), (5, .int a5), (6, .int a6)] := hl
            refine lv_lconst (v := 0) hx hb dX7_row_102 (by decide) ?_
            refine lv_lstore (lv' := [(9, .long 0), (7, .long v7_14), (0, .ref qM), (1, .int a1), (2, .int a2), (3, .int a3), (4, .int a4), (5, .int a5), (6, .int a6)]) hx hb dX7_row_103 hl (by decide) rfl (fun ls hl => ?_)
            refine lv_iconst (v := 0) hx hb dX7_row_105 (by decide) ?_
            refine lv_istore (lv' := [(11, .int 0), (9, .long 0), (7, .long v7_14), (0, .ref qM), (1, .int a1), (2, .int a2), (3, .int a3), (4, .int a4), (5, .int a5), (6, .int a6)]) hx hb dX7_row_106 hl (by decide) rfl (fun ls hl => ?_)
            refine q_loop (fun u0 => wX7 g qM AM σM ℓM_14) (fun u0 => [(11, .int u0.1), (9, .long u0.2), (7, .long v7_14), (0, .ref qM), (1, .int a1), (4, .int a4), (5, .int a5), (6, .int a6)]) 208 hF ?_ ?_ hP hD hS (lv_sub hl [0, 1, 2, 3, 4, 7, 8, 9] rfl)
            · rintro ⟨v11_15, v9_15⟩ hF H locs ls hP hD hS hl
              try dsimp only at hF
              have hP : va_P g.1 vwCl (wX7 g qM AM σM ℓM_14) H := hP
              have hD : va_D Z (wX7 g qM AM σM ℓM_14) := hD
              have hl : lv_has ls 15 [(11, .int v11_15), (9, .long v9_15), (7, .long v7_14), (0, .ref qM), (1, .int a1), (4, .int a4), (5, .int a5), (6, .int a6)] := hl
              refine lv_lload hx hb dX7_row_208 (lv_at hl 1 rfl) ?_
              refine lv_lload hx hb dX7_row_210 (lv_at hl 2 rfl) ?_
              refine lv_iload hx hb dX7_row_212 (lv_at hl 7 rfl) ?_
              obtain ⟨r_16, h_17, hF⟩ := q_cl_s hF
              refine gcS_l (As := [.long v9_15, .long v7_14, .int a6]) (rest := []) F hK hN hP hD hS hA (m_X7_lowest l g H.size v9_15 v7_14 a6 r_16 h_17) gX7_row_X7_lowest kX7_lowest rfl rfl rfl ⟨(Nat.le_of_ble_eq_true rfl), (Nat.le_of_ble_eq_true rfl)⟩ [] [0, 1, 2, 3, 4, 5, 6, 7, 8, 9, 10, 11, 12, 13, 14, 15, 16, 17, 18, 19, 20] rfl rfl rfl (by decide) rfl rfl rfl hl.1 (Nat.le_of_ble_eq_true rfl) dX7_row_214 ⟨(Nat.le_of_ble_eq_true rfl), (Nat.le_of_ble_eq_true rfl)⟩ (fun r_w u_w H locs hw hP hD hS => ?_)
              have hP : va_P g.1 vwCl (wX7 g qM AM σM ℓM_14) H := hP
              have hD : va_D Z (wX7 g qM AM σM ℓM_14) := hD
              obtain rfl : r_16 = r_w := hw.symm
              cases hF
              exact r_lret hx hb hr hlk hS () rfl hP hD dX7_row_217
            · rintro k again kk ag ⟨v11_15, v9_15⟩ hF H locs ls hP hD hS hl
              dsimp only [b_X7_row_108] at hF
              have hP : va_P g.1 vwCl (wX7 g qM AM σM ℓM_14) H := hP
              have hD : va_D Z (wX7 g qM AM σM ℓM_14) := hD
              have hl : lv_has ls 15 [(11, .int v11_15), (9, .long v9_15), (7, .long v7_14), (0, .ref qM), (1, .int a1), (4, .int a4), (5, .int a5), (6, .int a6)] := hl
              refine lv_iload hx hb dX7_row_108 (lv_at hl 0 rfl) ?_
              refine lv_iload_n hx hb dX7_row_110 rfl (lv_at hl 4 rfl) ?_
              refine lv_icmp_gt (tgt := 208) hx hb dX7_row_111 (by decide) (fun c_18 => ?_) (fun c_18 => ?_)
              · have hF := q_if_t c_18 hF
                exact kk (v11_15, v9_15) hF _ _ _ hP hD hS (lv_sub hl [0, 1, 2, 3, 4, 5, 6, 7] rfl)
              · have hF := q_if_f c_18 hF
                refine lv_aload_n hx hb dX7_row_114 rfl (lv_at hl 3 rfl) ?_
                refine va_get (D := g.1) (ci := 7) (v := .ref (AM 27)) (C := RX7) (T := TX7) (N := 34) hx hb hts hi7 hown hK hP 0 rfl rfl 27 (by decide) (hts (.fieldLink RX7 55 "PanTalesModel" "parts" "[J") (by decide +kernel)) (fun _ h9 => h9) rfl dX7_row_115 ?_
                refine lv_iconst (v := 2) hx hb dX7_row_118 (by decide) ?_
                refine lv_iload hx hb dX7_row_119 (lv_at hl 0 rfl) ?_
                refine lv_imul hx hb dX7_row_121 ?_
                obtain ⟨r_19, i_20, e_21, hF⟩ := q_rdL_s hF
                refine r_lald (v := r_19) hx hb hK hP 16 rfl i_20 e_21 dX7_row_122 ?_
                refine lv_aload_n hx hb dX7_row_123 rfl (lv_at hl 3 rfl) ?_
                refine va_get (D := g.1) (ci := 7) (v := .ref (AM 27)) (C := RX7) (T := TX7) (N := 34) hx hb hts hi7 hown hK hP 0 rfl rfl 27 (by decide) (hts (.fieldLink RX7 55 "PanTalesModel" "parts" "[J") (by decide +kernel)) (fun _ h9 => h9) rfl dX7_row_124 ?_
                refine lv_iconst (v := 2) hx hb dX7_row_127 (by decide) ?_
                refine lv_iload hx hb dX7_row_128 (lv_at hl 0 rfl) ?_
                refine lv_imul hx hb dX7_row_130 ?_
                refine lv_iconst (v := 1) hx hb dX7_row_131 (by decide) ?_
                refine lv_iadd hx hb dX7_row_132 ?_
                obtain ⟨r_22, i_23, e_24, hF⟩ := q_rdL_s hF
                refine r_lald (v := r_22) hx hb hK hP 16 rfl i_23 e_24 dX7_row_133 ?_
                refine lv_ladd hx hb dX7_row_134 ?_
                obtain ⟨v12_25, e_26, hF⟩ := q_bd_s hF
                refine gtopl e_26 ?_
                refine lv_lstore (lv' := [(12, .long v12_25), (11, .int v11_15), (9, .long v9_15), (7, .long v7_14), (0, .ref qM), (1, .int a1), (4, .int a4), (5, .int a5), (6, .int a6)]) hx hb dX7_row_135 hl (by decide) rfl (fun ls hl => ?_)
                refine lv_iload hx hb dX7_row_137 (lv_at hl 7 rfl) ?_
                refine lv_if_ne (tgt := 157) hx hb dX7_row_139 (by decide) (fun c_27 => ?_) (fun c_27 => ?_)
                · have hF := q_if_f c_27 hF
                  refine lv_iload hx hb dX7_row_157 (lv_at hl 1 rfl) ?_
                  refine lv_iload hx hb dX7_row_159 (lv_at hl 6 rfl) ?_
                  refine lv_icmp_lt (tgt := 168) hx hb dX7_row_161 (by decide) (fun c_28 => ?_) (fun c_28 => ?_)
                  · have hF := q_if_t c_28 hF
                    refine lv_iconst (v := 0) hx hb dX7_row_168 (by decide) ?_
                    refine lv_istore (lv' := [(14, .int 0), (12, .long v12_25), (11, .int v11_15), (9, .long v9_15), (7, .long v7_14), (0, .ref qM), (1, .int a1), (4, .int a4), (5, .int a5), (6, .int a6)]) hx hb dX7_row_169 hl (by decide) rfl (fun ls hl => ?_)
                    refine lv_lload hx hb dX7_row_171 (lv_at hl 3 rfl) ?_
                    refine lv_iload hx hb dX7_row_173 (lv_at hl 8 rfl) ?_
                    refine lv_iconst (v := 2) hx hb dX7_row_175 (by decide) ?_
                    refine lv_icmp_ne (tgt := 188) hx hb dX7_row_176 (by decide) (fun c_29 => ?_) (fun c_29 => ?_)
                    · have hF := q_if_f c_29 hF
                      refine lv_iload hx hb dX7_row_188 (lv_at hl 0 rfl) ?_
                      refine lv_if_eq (tgt := 198) hx hb dX7_row_190 (by decide) (fun c_30 => ?_) (fun c_30 => ?_)
                      · refine lv_lconst (v := 0) hx hb dX7_row_198 (by decide) ?_
                        refine lv_ladd hx hb dX7_row_199 ?_
                        obtain ⟨v9_31, e_32, hF⟩ := q_bd_s hF
                        refine gtopl e_32 ?_
                        refine lv_lstore (lv' := [(9, .long v9_31), (14, .int 0), (12, .long v12_25), (11, .int v11_15), (7, .long v7_14), (0, .ref qM), (1, .int a1), (4, .int a4), (5, .int a5), (6, .int a6)]) hx hb dX7_row_200 hl (by decide) rfl (fun ls hl => ?_)
                        refine lv_iinc (v := v11_15 + 1) (lv' := [(11, .int (v11_15 + 1)), (9, .long v9_31), (14, .int 0), (12, .long v12_25), (7, .long v7_14), (0, .ref qM), (1, .int a1), (4, .int a4), (5, .int a5), (6, .int a6)]) hx hb dX7_row_202 hl (k := 3) rfl rfl (by decide) rfl (fun ls hl => ?_)
                        refine lv_goto (tgt := 108) hx hb dX7_row_205 (by decide) ?_
                        exact ag (v11_15 + 1, v9_31) hF _ _ _ hP hD hS (lv_sub hl [0, 1, 4, 5, 6, 7, 8, 9] rfl)
                      · first | exact absurd c_30 (by decide) | exact c_30 (by decide)
                    · have hF := q_if_t (by first | exact c_29 | exact Classical.not_not.mp c_29) hF
                      refine lv_iload hx hb dX7_row_179 (lv_at hl 2 rfl) ?_
                      refine lv_i2l (v := v11_15.toInt64) hx hb dX7_row_181 rfl ?_
                      refine lv_lload hx hb dX7_row_182 (lv_at hl 1 rfl) ?_
                      refine lv_lmul hx hb dX7_row_184 ?_
                      refine lv_goto (tgt := 199) hx hb dX7_row_185 (by decide) ?_
                      refine lv_ladd hx hb dX7_row_199 ?_
                      obtain ⟨v9_33, e_34, hF⟩ := q_bd_s hF
                      refine gtopl e_34 ?_
                      refine lv_lstore (lv' := [(9, .long v9_33), (14, .int 0), (12, .long v12_25), (11, .int v11_15), (7, .long v7_14), (0, .ref qM), (1, .int a1), (4, .int a4), (5, .int a5), (6, .int a6)]) hx hb dX7_row_200 hl (by decide) rfl (fun ls hl => ?_)
                      refine lv_iinc (v := v11_15 + 1) (lv' := [(11, .int (v11_15 + 1)), (9, .long v9_33), (14, .int 0), (12, .long v12_25), (7, .long v7_14), (0, .ref qM), (1, .int a1), (4, .int a4), (5, .int a5), (6, .int a6)]) hx hb dX7_row_202 hl (k := 3) rfl rfl (by decide) rfl (fun ls hl => ?_)
                      refine lv_goto (tgt := 108) hx hb dX7_row_205 (by decide) ?_
                      exact ag (v11_15 + 1, v9_33) hF _ _ _ hP hD hS (lv_sub hl [0, 1, 4, 5, 6, 7, 8, 9] rfl)
                  · have hF := q_if_f c_28 hF
                    refine lv_iconst (v := 1) hx hb dX7_row_164 (by decide) ?_
                    refine lv_goto (tgt := 169) hx hb dX7_row_165 (by decide) ?_
                    refine lv_istore (lv' := [(14, .int 1), (12, .long v12_25), (11, .int v11_15), (9, .long v9_15), (7, .long v7_14), (0, .ref qM), (1, .int a1), (4, .int a4), (5, .int a5), (6, .int a6)]) hx hb dX7_row_169 hl (by decide) rfl (fun ls hl => ?_)
                    refine lv_lload hx hb dX7_row_171 (lv_at hl 3 rfl) ?_
                    refine lv_iload hx hb dX7_row_173 (lv_at hl 8 rfl) ?_
                    refine lv_iconst (v := 2) hx hb dX7_row_175 (by decide) ?_
                    refine lv_icmp_ne (tgt := 188) hx hb dX7_row_176 (by decide) (fun c_35 => ?_) (fun c_35 => ?_)
                    · have hF := q_if_f c_35 hF
                      refine lv_iload hx hb dX7_row_188 (lv_at hl 0 rfl) ?_
                      refine lv_if_eq (tgt := 198) hx hb dX7_row_190 (by decide) (fun c_36 => ?_) (fun c_36 => ?_)
                      · first | exact absurd c_36 (by decide) | exact c_36 (by decide)
                      · refine lv_lload hx hb dX7_row_193 (lv_at hl 1 rfl) ?_
                        refine lv_goto (tgt := 199) hx hb dX7_row_195 (by decide) ?_
                        refine lv_ladd hx hb dX7_row_199 ?_
                        obtain ⟨v9_37, e_38, hF⟩ := q_bd_s hF
                        refine gtopl e_38 ?_
                        refine lv_lstore (lv' := [(9, .long v9_37), (14, .int 1), (12, .long v12_25), (11, .int v11_15), (7, .long v7_14), (0, .ref qM), (1, .int a1), (4, .int a4), (5, .int a5), (6, .int a6)]) hx hb dX7_row_200 hl (by decide) rfl (fun ls hl => ?_)
                        refine lv_iinc (v := v11_15 + 1) (lv' := [(11, .int (v11_15 + 1)), (9, .long v9_37), (14, .int 1), (12, .long v12_25), (7, .long v7_14), (0, .ref qM), (1, .int a1), (4, .int a4), (5, .int a5), (6, .int a6)]) hx hb dX7_row_202 hl (k := 3) rfl rfl (by decide) rfl (fun ls hl => ?_)
                        refine lv_goto (tgt := 108) hx hb dX7_row_205 (by decide) ?_
                        exact ag (v11_15 + 1, v9_37) hF _ _ _ hP hD hS (lv_sub hl [0, 1, 4, 5, 6, 7, 8, 9] rfl)
                    · have hF := q_if_t (by first | exact c_35 | exact Classical.not_not.mp c_35) hF
                      refine lv_iload hx hb dX7_row_179 (lv_at hl 2 rfl) ?_
                      refine lv_i2l (v := v11_15.toInt64) hx hb dX7_row_181 rfl ?_
                      refine lv_lload hx hb dX7_row_182 (lv_at hl 1 rfl) ?_
                      refine lv_lmul hx hb dX7_row_184 ?_
                      refine lv_goto (tgt := 199) hx hb dX7_row_185 (by decide) ?_
                      refine lv_ladd hx hb dX7_row_199 ?_
                      obtain ⟨v9_39, e_40, hF⟩ := q_bd_s hF
                      refine gtopl e_40 ?_
                      refine lv_lstore (lv' := [(9, .long v9_39), (14, .int 1), (12, .long v12_25), (11, .int v11_15), (7, .long v7_14), (0, .ref qM), (1, .int a1), (4, .int a4), (5, .int a5), (6, .int a6)]) hx hb dX7_row_200 hl (by decide) rfl (fun ls hl => ?_)
                      refine lv_iinc (v := v11_15 + 1) (lv' := [(11, .int (v11_15 + 1)), (9, .long v9_39), (14, .int 1), (12, .long v12_25), (7, .long v7_14), (0, .ref qM), (1, .int a1), (4, .int a4), (5, .int a5), (6, .int a6)]) hx hb dX7_row_202 hl (k := 3) rfl rfl (by decide) rfl (fun ls hl => ?_)
                      refine lv_goto (tgt := 108) hx hb dX7_row_205 (by decide) ?_
                      exact ag (v11_15 + 1, v9_39) hF _ _ _ hP hD hS (lv_sub hl [0, 1, 4, 5, 6, 7, 8, 9] rfl)
                · have hF := q_if_t (by first | exact c_27 | exact Classical.not_not.mp c_27) hF
                  refine lv_iload hx hb dX7_row_142 (lv_at hl 1 rfl) ?_
                  refine lv_iload hx hb dX7_row_144 (lv_at hl 6 rfl) ?_
                  refine lv_icmp_ne (tgt := 153) hx hb dX7_row_146 (by decide) (fun c_41 => ?_) (fun c_41 => ?_)
                  · have hF := q_if_f c_41 hF
                    refine lv_iconst (v := 0) hx hb dX7_row_153 (by decide) ?_
                    refine lv_goto (tgt := 169) hx hb dX7_row_154 (by decide) ?_
                    refine lv_istore (lv' := [(14, .int 0), (12, .long v12_25), (11, .int v11_15), (9, .long v9_15), (7, .long v7_14), (0, .ref qM), (1, .int a1), (4, .int a4), (5, .int a5), (6, .int a6)]) hx hb dX7_row_169 hl (by decide) rfl (fun ls hl => ?_)
                    refine lv_lload hx hb dX7_row_171 (lv_at hl 3 rfl) ?_
                    refine lv_iload hx hb dX7_row_173 (lv_at hl 8 rfl) ?_
                    refine lv_iconst (v := 2) hx hb dX7_row_175 (by decide) ?_
                    refine lv_icmp_ne (tgt := 188) hx hb dX7_row_176 (by decide) (fun c_42 => ?_) (fun c_42 => ?_)
                    · have hF := q_if_f c_42 hF
                      refine lv_iload hx hb dX7_row_188 (lv_at hl 0 rfl) ?_
                      refine lv_if_eq (tgt := 198) hx hb dX7_row_190 (by decide) (fun c_43 => ?_) (fun c_43 => ?_)
                      · refine lv_lconst (v := 0) hx hb dX7_row_198 (by decide) ?_
                        refine lv_ladd hx hb dX7_row_199 ?_
                        obtain ⟨v9_44, e_45, hF⟩ := q_bd_s hF
                        refine gtopl e_45 ?_
                        refine lv_lstore (lv' := [(9, .long v9_44), (14, .int 0), (12, .long v12_25), (11, .int v11_15), (7, .long v7_14), (0, .ref qM), (1, .int a1), (4, .int a4), (5, .int a5), (6, .int a6)]) hx hb dX7_row_200 hl (by decide) rfl (fun ls hl => ?_)
                        refine lv_iinc (v := v11_15 + 1) (lv' := [(11, .int (v11_15 + 1)), (9, .long v9_44), (14, .int 0), (12, .long v12_25), (7, .long v7_14), (0, .ref qM), (1, .int a1), (4, .int a4), (5, .int a5), (6, .int a6)]) hx hb dX7_row_202 hl (k := 3) rfl rfl (by decide) rfl (fun ls hl => ?_)
                        refine lv_goto (tgt := 108) hx hb dX7_row_205 (by decide) ?_
                        exact ag (v11_15 + 1, v9_44) hF _ _ _ hP hD hS (lv_sub hl [0, 1, 4, 5, 6, 7, 8, 9] rfl)
                      · first | exact absurd c_43 (by decide) | exact c_43 (by decide)
                    · have hF := q_if_t (by first | exact c_42 | exact Classical.not_not.mp c_42) hF
                      refine lv_iload hx hb dX7_row_179 (lv_at hl 2 rfl) ?_
                      refine lv_i2l (v := v11_15.toInt64) hx hb dX7_row_181 rfl ?_
                      refine lv_lload hx hb dX7_row_182 (lv_at hl 1 rfl) ?_
                      refine lv_lmul hx hb dX7_row_184 ?_
                      refine lv_goto (tgt := 199) hx hb dX7_row_185 (by decide) ?_
                      refine lv_ladd hx hb dX7_row_199 ?_
                      obtain ⟨v9_46, e_47, hF⟩ := q_bd_s hF
                      refine gtopl e_47 ?_
                      refine lv_lstore (lv' := [(9, .long v9_46), (14, .int 0), (12, .long v12_25), (11, .int v11_15), (7, .long v7_14), (0, .ref qM), (1, .int a1), (4, .int a4), (5, .int a5), (6, .int a6)]) hx hb dX7_row_200 hl (by decide) rfl (fun ls hl => ?_)
                      refine lv_iinc (v := v11_15 + 1) (lv' := [(11, .int (v11_15 + 1)), (9, .long v9_46), (14, .int 0), (12, .long v12_25), (7, .long v7_14), (0, .ref qM), (1, .int a1), (4, .int a4), (5, .int a5), (6, .int a6)]) hx hb dX7_row_202 hl (k := 3) rfl rfl (by decide) rfl (fun ls hl => ?_)
                      refine lv_goto (tgt := 108) hx hb dX7_row_205 (by decide) ?_
                      exact ag (v11_15 + 1, v9_46) hF _ _ _ hP hD hS (lv_sub hl [0, 1, 4, 5, 6, 7, 8, 9] rfl)
                  · have hF := q_if_t (by first | exact c_41 | exact Classical.not_not.mp c_41) hF
                    refine lv_iconst (v := 1) hx hb dX7_row_149 (by decide) ?_
                    refine lv_goto (tgt := 169) hx hb dX7_row_150 (by decide) ?_
                    refine lv_istore (lv' := [(14, .int 1), (12, .long v12_25), (11, .int v11_15), (9, .long v9_15), (7, .long v7_14), (0, .ref qM), (1, .int a1), (4, .int a4), (5, .int a5), (6, .int a6)]) hx hb dX7_row_169 hl (by decide) rfl (fun ls hl => ?_)
                    refine lv_lload hx hb dX7_row_171 (lv_at hl 3 rfl) ?_
                    refine lv_iload hx hb dX7_row_173 (lv_at hl 8 rfl) ?_
                    refine lv_iconst (v := 2) hx hb dX7_row_175 (by decide) ?_
                    refine lv_icmp_ne (tgt := 188) hx hb dX7_row_176 (by decide) (fun c_48 => ?_) (fun c_48 => ?_)
                    · have hF := q_if_f c_48 hF
                      refine lv_iload hx hb dX7_row_188 (lv_at hl 0 rfl) ?_
                      refine lv_if_eq (tgt := 198) hx hb dX7_row_190 (by decide) (fun c_49 => ?_) (fun c_49 => ?_)
                      · first | exact absurd c_49 (by decide) | exact c_49 (by decide)
                      · refine lv_lload hx hb dX7_row_193 (lv_at hl 1 rfl) ?_
                        refine lv_goto (tgt := 199) hx hb dX7_row_195 (by decide) ?_
                        refine lv_ladd hx hb dX7_row_199 ?_
                        obtain ⟨v9_50, e_51, hF⟩ := q_bd_s hF
                        refine gtopl e_51 ?_
                        refine lv_lstore (lv' := [(9, .long v9_50), (14, .int 1), (12, .long v12_25), (11, .int v11_15), (7, .long v7_14), (0, .ref qM), (1, .int a1), (4, .int a4), (5, .int a5), (6, .int a6)]) hx hb dX7_row_200 hl (by decide) rfl (fun ls hl => ?_)
                        refine lv_iinc (v := v11_15 + 1) (lv' := [(11, .int (v11_15 + 1)), (9, .long v9_50), (14, .int 1), (12, .long v12_25), (7, .long v7_14), (0, .ref qM), (1, .int a1), (4, .int a4), (5, .int a5), (6, .int a6)]) hx hb dX7_row_202 hl (k := 3) rfl rfl (by decide) rfl (fun ls hl => ?_)
                        refine lv_goto (tgt := 108) hx hb dX7_row_205 (by decide) ?_
                        exact ag (v11_15 + 1, v9_50) hF _ _ _ hP hD hS (lv_sub hl [0, 1, 4, 5, 6, 7, 8, 9] rfl)
                    · have hF := q_if_t (by first | exact c_48 | exact Classical.not_not.mp c_48) hF
                      refine lv_iload hx hb dX7_row_179 (lv_at hl 2 rfl) ?_
                      refine lv_i2l (v := v11_15.toInt64) hx hb dX7_row_181 rfl ?_
                      refine lv_lload hx hb dX7_row_182 (lv_at hl 1 rfl) ?_
                      refine lv_lmul hx hb dX7_row_184 ?_
                      refine lv_goto (tgt := 199) hx hb dX7_row_185 (by decide) ?_
                      refine lv_ladd hx hb dX7_row_199 ?_
                      obtain ⟨v9_52, e_53, hF⟩ := q_bd_s hF
                      refine gtopl e_53 ?_
                      refine lv_lstore (lv' := [(9, .long v9_52), (14, .int 1), (12, .long v12_25), (11, .int v11_15), (7, .long v7_14), (0, .ref qM), (1, .int a1), (4, .int a4), (5, .int a5), (6, .int a6)]) hx hb dX7_row_200 hl (by decide) rfl (fun ls hl => ?_)
                      refine lv_iinc (v := v11_15 + 1) (lv' := [(11, .int (v11_15 + 1)), (9, .long v9_52), (14, .int 1), (12, .long v12_25), (7, .long v7_14), (0, .ref qM), (1, .int a1), (4, .int a4), (5, .int a5), (6, .int a6)]) hx hb dX7_row_202 hl (k := 3) rfl rfl (by decide) rfl (fun ls hl => ?_)
                      refine lv_goto (tgt := 108) hx hb dX7_row_205 (by decide) ?_
                      exact ag (v11_15 + 1, v9_52) hF _ _ _ hP hD hS (lv_sub hl [0, 1, 4, 5, 6, 7, 8, 9] rfl)
          · rintro k again kk ag ⟨v9_14, v7_14, ℓM_14⟩ hF H locs ls hP hD hS hl
            dsimp only [b_X7_row_76] at hF
            have hP : va_P g.1 vwCl (wX7 g qM AM σM ℓM_14) H := hP
            have hD : va_D Z (wX7 g qM AM σM ℓM_14) := hD
            have hl : lv_has ls 15 [(9, .int v9_14), (7, .long v7_14), (0, .ref qM), (1, .int a1), (2, .int a2), (3, .int a3), (4, .int a4), (5, .int a5), (6, .int a6)] := hl
            refine lv_iload hx hb dX7_row_76 (lv_at hl 0 rfl) ?_
            refine lv_iload_n hx hb dX7_row_78 rfl (lv_at hl 3 rfl) ?_
            refine lv_icmp_ge (tgt := 102) hx hb dX7_row_79 (by decide) (fun c_54 => ?_) (fun c_54 => ?_)
            · have hF := q_if_t c_54 hF
              exact kk (v9_14, v7_14, ℓM_14) hF _ _ _ hP hD hS (lv_sub hl [0, 1, 2, 3, 4, 5, 6, 7, 8] rfl)
            · have hF := q_if_f c_54 hF
              refine lv_aload_n hx hb dX7_row_82 rfl (lv_at hl 2 rfl) ?_
              refine lv_iload_n hx hb dX7_row_83 rfl (lv_at hl 4 rfl) ?_
              refine lv_iload_n hx hb dX7_row_84 rfl (lv_at hl 5 rfl) ?_
              obtain ⟨ℓM_55, h_56, hF⟩ := q_cl_s hF
              refine gcV_v (As := [.int a2, .int a3]) (rest := []) (ci := 7) (q := (RX7, TX7, 34)) F hK hN hP hD hS hA (m_X7_oneHouse l g H.size qM AM σM ℓM_14 a2 a3 ℓM_55 h_56) gX7_row_X7_oneHouse kX7_oneHouse rfl rfl rfl rfl ⟨(Nat.le_of_ble_eq_true rfl), (Nat.le_of_ble_eq_true rfl)⟩ [0, 1, 2, 3, 4, 5, 6, 7, 8, 9, 10, 11, 12, 13, 14, 15, 16, 17, 18, 19, 20] [] rfl rfl rfl (by decide) rfl rfl rfl rfl rfl hl.1 (Nat.le_of_ble_eq_true rfl) dX7_row_85 ⟨(Nat.le_of_ble_eq_true rfl), (Nat.le_of_ble_eq_true rfl)⟩ (fun u_w H locs hw hP hD hS => ?_)
              have hP : va_P g.1 vwCl (wX7 g qM AM σM ℓM_55) H := hP
              have hD : va_D Z (wX7 g qM AM σM ℓM_55) := hD
              refine lv_lload hx hb dX7_row_88 (lv_at hl 1 rfl) ?_
              refine lv_ldc2 (v := 10) hx hb hown (hts (.constantLong RX7 82 (10)) (by decide +kernel)) dX7_row_90 ?_
              refine lv_lmul hx hb dX7_row_93 ?_
              obtain ⟨v7_57, e_58, hF⟩ := q_bd_s hF
              refine gtopl e_58 ?_
              refine lv_lstore (lv' := [(7, .long v7_57), (9, .int v9_14), (0, .ref qM), (1, .int a1), (2, .int a2), (3, .int a3), (4, .int a4), (5, .int a5), (6, .int a6)]) hx hb dX7_row_94 hl (by decide) rfl (fun ls hl => ?_)
              refine lv_iinc (v := v9_14 + 1) (lv' := [(9, .int (v9_14 + 1)), (7, .long v7_57), (0, .ref qM), (1, .int a1), (2, .int a2), (3, .int a3), (4, .int a4), (5, .int a5), (6, .int a6)]) hx hb dX7_row_96 hl (k := 1) rfl rfl (by decide) rfl (fun ls hl => ?_)
              refine lv_goto (tgt := 76) hx hb dX7_row_99 (by decide) ?_
              exact ag (v9_14 + 1, v7_57, ℓM_55) hF _ _ _ hP hD hS (lv_sub hl [0, 1, 2, 3, 4, 5, 6, 7, 8] rfl)
        · rintro k again kk ag ⟨v7_10, ℓM_10⟩ hF H locs ls hP hD hS hl
          dsimp only [b_X7_row_42] at hF
          have hP : va_P g.1 vwCl (wX7 g qM AM σM ℓM_10) H := hP
          have hD : va_D Z (wX7 g qM AM σM ℓM_10) := hD
          have hl : lv_has ls 15 [(7, .int v7_10), (0, .ref qM), (1, .int a1), (2, .int a2), (3, .int a3), (4, .int a4), (5, .int a5), (6, .int a6)] := hl
          refine lv_iload hx hb dX7_row_42 (lv_at hl 0 rfl) ?_
          refine lv_bipush (v := 22) hx hb dX7_row_44 (by decide) ?_
          refine lv_icmp_ge (tgt := 63) hx hb dX7_row_46 (by decide) (fun c_59 => ?_) (fun c_59 => ?_)
          · have hF := q_if_t c_59 hF
            exact kk (v7_10, ℓM_10) hF _ _ _ hP hD hS (lv_sub hl [0, 1, 2, 3, 4, 5, 6, 7] rfl)
          · have hF := q_if_f c_59 hF
            refine lv_aload_n hx hb dX7_row_49 rfl (lv_at hl 1 rfl) ?_
            refine va_get (D := g.1) (ci := 7) (v := .ref (AM 27)) (C := RX7) (T := TX7) (N := 34) hx hb hts hi7 hown hK hP 0 rfl rfl 27 (by decide) (hts (.fieldLink RX7 55 "PanTalesModel" "parts" "[J") (by decide +kernel)) (fun _ h9 => h9) rfl dX7_row_50 ?_
            refine lv_iload hx hb dX7_row_53 (lv_at hl 0 rfl) ?_
            refine lv_lconst (v := 0) hx hb dX7_row_55 (by decide) ?_
            obtain ⟨ℓM_60, i_61, e_62, hF⟩ := q_wrL_s hF
            refine r_last (f' := vp_updL (ℓM_10 27) v7_10.toNatClampNeg (0 : Int64)) hx hb hK hP hD hS 16 rfl i_61 (fun _ _ => rfl) dX7_row_56 (fun H locs hP hD hS => ?_)
            have hP : va_P g.1 vwCl (wX7 g qM AM σM (q_upL ℓM_10 27 (vp_updL (ℓM_10 27) v7_10.toNatClampNeg (0 : Int64)))) H := hP
            have hD : va_D Z (wX7 g qM AM σM (q_upL ℓM_10 27 (vp_updL (ℓM_10 27) v7_10.toNatClampNeg (0 : Int64)))) := hD
            rw [e_62] at hP hD
            refine lv_iinc (v := v7_10 + 1) (lv' := [(7, .int (v7_10 + 1)), (0, .ref qM), (1, .int a1), (2, .int a2), (3, .int a3), (4, .int a4), (5, .int a5), (6, .int a6)]) hx hb dX7_row_57 hl (k := 0) rfl rfl (by decide) rfl (fun ls hl => ?_)
            refine lv_goto (tgt := 42) hx hb dX7_row_60 (by decide) ?_
            exact ag (v7_10 + 1, ℓM_60) hF _ _ _ hP hD hS (lv_sub hl [0, 1, 2, 3, 4, 5, 6, 7] rfl)
      · have hF := q_if_t (by first | exact c_9 | exact Classical.not_not.mp c_9) hF
        refine lv_ldc2 (v := (-1000000000000000002)) hx hb hown (hts (.constantLong RX7 259 (-1000000000000000002)) (by decide +kernel)) dX7_row_35 ?_
        cases hF
        exact r_lret hx hb hr hlk hS () rfl hP hD dX7_row_38
set_option maxHeartbeats 4000000 in
set_option maxRecDepth 100000 in
theorem m_X7_winsBy (l : Launch) (g : GT) (sz : Nat) (qM : Nat) (AM : Nat → Nat) (σM : qS) (ℓM : qL) (a1 : Int32) (a2 : Int32) (rr : Int32) (hF : f_X7_winsBy σM ℓM a1 a2 = some rr) : Ci l yX7_winsBy wsX7_winsBy { frames := 0, cells := 0, slots := 0, locals := 0 } g sz [.ref qM, .int a1, .int a2] (wX7 g qM AM σM ℓM) rr (wX7 g qM AM σM ℓM) := by
  refine gMet_i (cc := cX7_winsBy) (maxL := 4) (ret := (some .boolean)) (by decide) rfl (Nat.le_of_ble_eq_true rfl) ?_
  intro p e s m args below meth c Z hx hb hr F hlk hnm hK hN hA H locs hP hD hS ls hl
  have hl : lv_has ls 4 [(0, .ref qM), (1, .int a1), (2, .int a2)] := hl
  have F : CallFix p m c cX7_winsBy 4 s args wsX7_winsBy RX7 := F
  have hts := F.2.2.2.2
  have hown : s.vm.findClass RX7 = some m.cls := F.2.2.2.1
  have hi7 : ∀ w ∈ u_ws RX7 TX7 34, w ∈ wsX7_winsBy := by decide +kernel
  dsimp only [f_X7_winsBy] at hF
  refine lv_iconst (v := 2) hx hb dX7_winsBy_0 (by decide) ?_
  refine lv_iload_n hx hb dX7_winsBy_1 rfl (lv_at hl 2 rfl) ?_
  refine lv_imul hx hb dX7_winsBy_2 ?_
  refine lv_iload_n hx hb dX7_winsBy_3 rfl (lv_at hl 1 rfl) ?_
  refine lv_iload_n hx hb dX7_winsBy_4 rfl (lv_at hl 2 rfl) ?_
  refine lv_isub hx hb dX7_winsBy_5 ?_
  refine lv_icmp_ge (tgt := 15) hx hb dX7_winsBy_6 (by decide) (fun c_1 => ?_) (fun c_1 => ?_)
  · have hF := q_if_t c_1 hF
    refine lv_iload_n hx hb dX7_winsBy_15 rfl (lv_at hl 1 rfl) ?_
    refine lv_iload_n hx hb dX7_winsBy_16 rfl (lv_at hl 2 rfl) ?_
    refine lv_isub hx hb dX7_winsBy_17 ?_
    obtain ⟨v3_2, e_3, hF⟩ := q_bd_s hF
    refine gtop e_3 ?_
    refine lv_istore_n (lv' := [(3, .int v3_2), (0, .ref qM), (1, .int a1), (2, .int a2)]) hx hb dX7_winsBy_18 rfl hl (by decide) rfl (fun ls hl => ?_)
    refine lv_iload_n hx hb dX7_winsBy_19 rfl (lv_at hl 3 rfl) ?_
    refine lv_iload_n hx hb dX7_winsBy_20 rfl (lv_at hl 2 rfl) ?_
    refine lv_icmp_eq (tgt := 40) hx hb dX7_winsBy_21 (by decide) (fun c_4 => ?_) (fun c_4 => ?_)
    · have hF := q_if_t c_4 hF
      refine lv_iconst (v := 1) hx hb dX7_winsBy_40 (by decide) ?_
      refine lv_goto (tgt := 45) hx hb dX7_winsBy_41 (by decide) ?_
      cases hF
      exact r_zret hx hb hr hlk hS () (by decide) rfl hP hD dX7_winsBy_45
    · have hF := q_if_f c_4 hF
      refine lv_aload_n hx hb dX7_winsBy_24 rfl (lv_at hl 1 rfl) ?_
      refine va_get (D := g.1) (ci := 7) (v := .ref (AM 29)) (C := RX7) (T := TX7) (N := 34) hx hb hts hi7 hown hK hP 0 rfl rfl 29 (by decide) (hts (.fieldLink RX7 62 "PanTalesModel" "wins" "[Z") (by decide +kernel)) (fun _ h9 => h9) rfl dX7_winsBy_25 ?_
      refine lv_bipush (v := 61) hx hb dX7_winsBy_28 (by decide) ?_
      refine lv_iload_n hx hb dX7_winsBy_30 rfl (lv_at hl 2 rfl) ?_
      refine lv_iload_n hx hb dX7_winsBy_31 rfl (lv_at hl 3 rfl) ?_
      refine lv_isub hx hb dX7_winsBy_32 ?_
      refine lv_imul hx hb dX7_winsBy_33 ?_
      refine lv_iload_n hx hb dX7_winsBy_34 rfl (lv_at hl 0 rfl) ?_
      refine lv_iadd hx hb dX7_winsBy_35 ?_
      obtain ⟨r_5, i_6, e_7, hF⟩ := q_rd_s hF
      refine r_zald (v := r_5) hx hb hK hP 18 rfl i_6 e_7 dX7_winsBy_36 ?_
      refine lv_if_ne (tgt := 44) hx hb dX7_winsBy_37 (by decide) (fun c_8 => ?_) (fun c_8 => ?_)
      · have hF := q_if_f c_8 hF
        refine lv_iconst (v := 0) hx hb dX7_winsBy_44 (by decide) ?_
        cases hF
        exact r_zret hx hb hr hlk hS () (by decide) rfl hP hD dX7_winsBy_45
      · have hF := q_if_t (by first | exact c_8 | exact Classical.not_not.mp c_8) hF
        refine lv_iconst (v := 1) hx hb dX7_winsBy_40 (by decide) ?_
        refine lv_goto (tgt := 45) hx hb dX7_winsBy_41 (by decide) ?_
        cases hF
        exact r_zret hx hb hr hlk hS () (by decide) rfl hP hD dX7_winsBy_45
  · have hF := q_if_f c_1 hF
    refine lv_iconst (v := 2) hx hb dX7_winsBy_9 (by decide) ?_
    refine lv_iload_n hx hb dX7_winsBy_10 rfl (lv_at hl 2 rfl) ?_
    refine lv_imul hx hb dX7_winsBy_11 ?_
    refine lv_goto (tgt := 18) hx hb dX7_winsBy_12 (by decide) ?_
    obtain ⟨v3_9, e_10, hF⟩ := q_bd_s hF
    refine gtop e_10 ?_
    refine lv_istore_n (lv' := [(3, .int v3_9), (0, .ref qM), (1, .int a1), (2, .int a2)]) hx hb dX7_winsBy_18 rfl hl (by decide) rfl (fun ls hl => ?_)
    refine lv_iload_n hx hb dX7_winsBy_19 rfl (lv_at hl 3 rfl) ?_
    refine lv_iload_n hx hb dX7_winsBy_20 rfl (lv_at hl 2 rfl) ?_
    refine lv_icmp_eq (tgt := 40) hx hb dX7_winsBy_21 (by decide) (fun c_11 => ?_) (fun c_11 => ?_)
    · have hF := q_if_t c_11 hF
      refine lv_iconst (v := 1) hx hb dX7_winsBy_40 (by decide) ?_
      refine lv_goto (tgt := 45) hx hb dX7_winsBy_41 (by decide) ?_
      cases hF
      exact r_zret hx hb hr hlk hS () (by decide) rfl hP hD dX7_winsBy_45
    · have hF := q_if_f c_11 hF
      refine lv_aload_n hx hb dX7_winsBy_24 rfl (lv_at hl 1 rfl) ?_
      refine va_get (D := g.1) (ci := 7) (v := .ref (AM 29)) (C := RX7) (T := TX7) (N := 34) hx hb hts hi7 hown hK hP 0 rfl rfl 29 (by decide) (hts (.fieldLink RX7 62 "PanTalesModel" "wins" "[Z") (by decide +kernel)) (fun _ h9 => h9) rfl dX7_winsBy_25 ?_
      refine lv_bipush (v := 61) hx hb dX7_winsBy_28 (by decide) ?_
      refine lv_iload_n hx hb dX7_winsBy_30 rfl (lv_at hl 2 rfl) ?_
      refine lv_iload_n hx hb dX7_winsBy_31 rfl (lv_at hl 3 rfl) ?_
      refine lv_isub hx hb dX7_winsBy_32 ?_
      refine lv_imul hx hb dX7_winsBy_33 ?_
      refine lv_iload_n hx hb dX7_winsBy_34 rfl (lv_at hl 0 rfl) ?_
      refine lv_iadd hx hb dX7_winsBy_35 ?_
      obtain ⟨r_12, i_13, e_14, hF⟩ := q_rd_s hF
      refine r_zald (v := r_12) hx hb hK hP 18 rfl i_13 e_14 dX7_winsBy_36 ?_
      refine lv_if_ne (tgt := 44) hx hb dX7_winsBy_37 (by decide) (fun c_15 => ?_) (fun c_15 => ?_)
      · have hF := q_if_f c_15 hF
        refine lv_iconst (v := 0) hx hb dX7_winsBy_44 (by decide) ?_
        cases hF
        exact r_zret hx hb hr hlk hS () (by decide) rfl hP hD dX7_winsBy_45
      · have hF := q_if_t (by first | exact c_15 | exact Classical.not_not.mp c_15) hF
        refine lv_iconst (v := 1) hx hb dX7_winsBy_40 (by decide) ?_
        refine lv_goto (tgt := 45) hx hb dX7_winsBy_41 (by decide) ?_
        cases hF
        exact r_zret hx hb hr hlk hS () (by decide) rfl hP hD dX7_winsBy_45
set_option maxHeartbeats 4000000 in
set_option maxRecDepth 100000 in
theorem m_X7_findWins (l : Launch) (g : GT) (sz : Nat) (qM : Nat) (AM : Nat → Nat) (σM : qS) (ℓM : qL) (a1 : Int32) (σM' : qS) (hF : f_X7_findWins σM ℓM a1 = some σM') : Cv l yX7_findWins wsX7_findWins { frames := 1, cells := 0, slots := 0, locals := 23 } g sz [.ref qM, .int a1] (wX7 g qM AM σM ℓM) (wX7 g qM AM σM' ℓM) := by
  refine gMet_v (cc := cX7_findWins) (maxL := 4) (ret := none) (by decide) rfl (Nat.le_of_ble_eq_true rfl) ?_
  intro p e s m args below meth c Z hx hb hr F hlk hnm hK hN hA H locs hP hD hS ls hl
  have hl : lv_has ls 4 [(0, .ref qM), (1, .int a1)] := hl
  have F : CallFix p m c cX7_findWins 4 s args wsX7_findWins RX7 := F
  have hts := F.2.2.2.2
  have hown : s.vm.findClass RX7 = some m.cls := F.2.2.2.1
  have hi7 : ∀ w ∈ u_ws RX7 TX7 34, w ∈ wsX7_findWins := by decide +kernel
  dsimp only [f_X7_findWins] at hF
  refine lv_iconst (v := 0) hx hb dX7_findWins_0 (by decide) ?_
  refine lv_istore_n (lv' := [(2, .int 0), (0, .ref qM), (1, .int a1)]) hx hb dX7_findWins_1 rfl hl (by decide) rfl (fun ls hl => ?_)
  refine q_loop (fun u0 => wX7 g qM AM u0.2 ℓM) (fun u0 => [(2, .int u0.1), (0, .ref qM), (1, .int a1)]) 77 hF ?_ ?_ hP hD hS (lv_sub hl [0, 1, 2] rfl)
  · rintro ⟨v2_1, σM_1⟩ hF H locs ls hP hD hS hl
    try dsimp only at hF
    have hP : va_P g.1 vwCl (wX7 g qM AM σM_1 ℓM) H := hP
    have hD : va_D Z (wX7 g qM AM σM_1 ℓM) := hD
    have hl : lv_has ls 4 [(2, .int v2_1), (0, .ref qM), (1, .int a1)] := hl
    cases hF
    exact r_vret hx hb hr hlk hS () trivial hP hD dX7_findWins_77
  · rintro k again kk ag ⟨v2_1, σM_1⟩ hF H locs ls hP hD hS hl
    dsimp only [b_X7_findWins_2] at hF
    have hP : va_P g.1 vwCl (wX7 g qM AM σM_1 ℓM) H := hP
    have hD : va_D Z (wX7 g qM AM σM_1 ℓM) := hD
    have hl : lv_has ls 4 [(2, .int v2_1), (0, .ref qM), (1, .int a1)] := hl
    refine lv_iload_n hx hb dX7_findWins_2 rfl (lv_at hl 0 rfl) ?_
    refine lv_iload_n hx hb dX7_findWins_3 rfl (lv_at hl 2 rfl) ?_
    refine lv_icmp_gt (tgt := 77) hx hb dX7_findWins_4 (by decide) (fun c_2 => ?_) (fun c_2 => ?_)
    · have hF := q_if_t c_2 hF
      exact kk (v2_1, σM_1) hF _ _ _ hP hD hS (lv_sub hl [0, 1, 2] rfl)
    · have hF := q_if_f c_2 hF
      refine lv_aload_n hx hb dX7_findWins_7 rfl (lv_at hl 1 rfl) ?_
      refine va_get (D := g.1) (ci := 7) (v := .ref (AM 29)) (C := RX7) (T := TX7) (N := 34) hx hb hts hi7 hown hK hP 0 rfl rfl 29 (by decide) (hts (.fieldLink RX7 62 "PanTalesModel" "wins" "[Z") (by decide +kernel)) (fun _ h9 => h9) rfl dX7_findWins_8 ?_
      refine lv_bipush (v := 61) hx hb dX7_findWins_11 (by decide) ?_
      refine lv_iload_n hx hb dX7_findWins_13 rfl (lv_at hl 0 rfl) ?_
      refine lv_imul hx hb dX7_findWins_14 ?_
      refine lv_iconst (v := 0) hx hb dX7_findWins_15 (by decide) ?_
      obtain ⟨σM_3, i_4, e_5, hF⟩ := q_wrZ_s hF
      refine r_zast (f' := upd (σM_1 29) ((61 : Int32) * v2_1).toNatClampNeg (vp_nar .boolean (0 : Int32))) hx hb hK hP hD hS 18 rfl i_4 (fun _ _ => rfl) dX7_findWins_16 (fun H locs hP hD hS => ?_)
      have hP : va_P g.1 vwCl (wX7 g qM AM (q_up σM_1 29 (upd (σM_1 29) ((61 : Int32) * v2_1).toNatClampNeg (vp_nar .boolean (0 : Int32)))) ℓM) H := hP
      have hD : va_D Z (wX7 g qM AM (q_up σM_1 29 (upd (σM_1 29) ((61 : Int32) * v2_1).toNatClampNeg (vp_nar .boolean (0 : Int32)))) ℓM) := hD
      rw [e_5] at hP hD
      refine lv_iconst (v := 1) hx hb dX7_findWins_17 (by decide) ?_
      refine lv_istore_n (lv' := [(3, .int 1), (2, .int v2_1), (0, .ref qM), (1, .int a1)]) hx hb dX7_findWins_18 rfl hl (by decide) rfl (fun ls hl => ?_)
      refine q_loop (fun u0 => wX7 g qM AM u0.2 ℓM) (fun u0 => [(3, .int u0.1), (2, .int v2_1), (0, .ref qM), (1, .int a1)]) 71 hF ?_ ?_ hP hD hS (lv_sub hl [0, 1, 2, 3] rfl)
      · rintro ⟨v3_6, σM_6⟩ hF H locs ls hP hD hS hl
        try dsimp only at hF
        have hP : va_P g.1 vwCl (wX7 g qM AM σM_6 ℓM) H := hP
        have hD : va_D Z (wX7 g qM AM σM_6 ℓM) := hD
        have hl : lv_has ls 4 [(3, .int v3_6), (2, .int v2_1), (0, .ref qM), (1, .int a1)] := hl
        refine lv_iinc (v := v2_1 + 1) (lv' := [(2, .int (v2_1 + 1)), (3, .int v3_6), (0, .ref qM), (1, .int a1)]) hx hb dX7_findWins_71 hl (k := 1) rfl rfl (by decide) rfl (fun ls hl => ?_)
        refine lv_goto (tgt := 2) hx hb dX7_findWins_74 (by decide) ?_
        exact ag (v2_1 + 1, σM_6) hF _ _ _ hP hD hS (lv_sub hl [0, 2, 3] rfl)
      · rintro k again kk ag ⟨v3_6, σM_6⟩ hF H locs ls hP hD hS hl
        dsimp only [b_X7_findWins_19] at hF
        have hP : va_P g.1 vwCl (wX7 g qM AM σM_6 ℓM) H := hP
        have hD : va_D Z (wX7 g qM AM σM_6 ℓM) := hD
        have hl : lv_has ls 4 [(3, .int v3_6), (2, .int v2_1), (0, .ref qM), (1, .int a1)] := hl
        refine lv_iload_n hx hb dX7_findWins_19 rfl (lv_at hl 0 rfl) ?_
        refine lv_iload_n hx hb dX7_findWins_20 rfl (lv_at hl 1 rfl) ?_
        refine lv_icmp_gt (tgt := 71) hx hb dX7_findWins_21 (by decide) (fun c_7 => ?_) (fun c_7 => ?_)
        · have hF := q_if_t c_7 hF
          exact kk (v3_6, σM_6) hF _ _ _ hP hD hS (lv_sub hl [0, 1, 2, 3] rfl)
        · have hF := q_if_f c_7 hF
          refine lv_aload_n hx hb dX7_findWins_24 rfl (lv_at hl 2 rfl) ?_
          refine va_get (D := g.1) (ci := 7) (v := .ref (AM 29)) (C := RX7) (T := TX7) (N := 34) hx hb hts hi7 hown hK hP 0 rfl rfl 29 (by decide) (hts (.fieldLink RX7 62 "PanTalesModel" "wins" "[Z") (by decide +kernel)) (fun _ h9 => h9) rfl dX7_findWins_25 ?_
          refine lv_bipush (v := 61) hx hb dX7_findWins_28 (by decide) ?_
          refine lv_iload_n hx hb dX7_findWins_30 rfl (lv_at hl 1 rfl) ?_
          refine lv_imul hx hb dX7_findWins_31 ?_
          refine lv_iload_n hx hb dX7_findWins_32 rfl (lv_at hl 0 rfl) ?_
          refine lv_iadd hx hb dX7_findWins_33 ?_
          refine lv_aload_n hx hb dX7_findWins_34 rfl (lv_at hl 2 rfl) ?_
          refine va_get (D := g.1) (ci := 7) (v := .ref (AM 29)) (C := RX7) (T := TX7) (N := 34) hx hb hts hi7 hown hK hP 0 rfl rfl 29 (by decide) (hts (.fieldLink RX7 62 "PanTalesModel" "wins" "[Z") (by decide +kernel)) (fun _ h9 => h9) rfl dX7_findWins_35 ?_
          refine lv_bipush (v := 61) hx hb dX7_findWins_38 (by decide) ?_
          refine lv_iload_n hx hb dX7_findWins_40 rfl (lv_at hl 1 rfl) ?_
          refine lv_imul hx hb dX7_findWins_41 ?_
          refine lv_iload_n hx hb dX7_findWins_42 rfl (lv_at hl 0 rfl) ?_
          refine lv_iadd hx hb dX7_findWins_43 ?_
          refine lv_iconst (v := 1) hx hb dX7_findWins_44 (by decide) ?_
          refine lv_isub hx hb dX7_findWins_45 ?_
          obtain ⟨r_8, i_9, e_10, hF⟩ := q_rd_s hF
          refine r_zald (v := r_8) hx hb hK hP 18 rfl i_9 e_10 dX7_findWins_46 ?_
          refine lv_if_ne (tgt := 59) hx hb dX7_findWins_47 (by decide) (fun c_11 => ?_) (fun c_11 => ?_)
          · have hF := q_if_f c_11 hF
            refine lv_iconst (v := 1) hx hb dX7_findWins_59 (by decide) ?_
            refine lv_goto (tgt := 64) hx hb dX7_findWins_60 (by decide) ?_
            obtain ⟨σM_12, i_13, e_14, hF⟩ := q_wrZ_s hF
            refine r_zast (f' := upd (σM_6 29) (((61 : Int32) * v2_1) + v3_6).toNatClampNeg (vp_nar .boolean (1 : Int32))) hx hb hK hP hD hS 18 rfl i_13 (fun _ _ => rfl) dX7_findWins_64 (fun H locs hP hD hS => ?_)
            have hP : va_P g.1 vwCl (wX7 g qM AM (q_up σM_6 29 (upd (σM_6 29) (((61 : Int32) * v2_1) + v3_6).toNatClampNeg (vp_nar .boolean (1 : Int32)))) ℓM) H := hP
            have hD : va_D Z (wX7 g qM AM (q_up σM_6 29 (upd (σM_6 29) (((61 : Int32) * v2_1) + v3_6).toNatClampNeg (vp_nar .boolean (1 : Int32)))) ℓM) := hD
            rw [e_14] at hP hD
            refine lv_iinc (v := v3_6 + 1) (lv' := [(3, .int (v3_6 + 1)), (2, .int v2_1), (0, .ref qM), (1, .int a1)]) hx hb dX7_findWins_65 hl (k := 0) rfl rfl (by decide) rfl (fun ls hl => ?_)
            refine lv_goto (tgt := 19) hx hb dX7_findWins_68 (by decide) ?_
            exact ag (v3_6 + 1, σM_12) hF _ _ _ hP hD hS (lv_sub hl [0, 1, 2, 3] rfl)
          · have hF := q_if_t (by first | exact c_11 | exact Classical.not_not.mp c_11) hF
            refine lv_aload_n hx hb dX7_findWins_50 rfl (lv_at hl 2 rfl) ?_
            refine lv_iload_n hx hb dX7_findWins_51 rfl (lv_at hl 1 rfl) ?_
            refine lv_iload_n hx hb dX7_findWins_52 rfl (lv_at hl 0 rfl) ?_
            obtain ⟨r_15, h_16, hF⟩ := q_cl_s hF
            refine gcV_i (As := [.int v2_1, .int v3_6]) (rest := [.int (((61 : Int32) * v2_1) + v3_6), .ref (AM 29)]) (ci := 7) (q := (RX7, TX7, 34)) F hK hN hP hD hS hA (m_X7_winsBy l g H.size qM AM σM_6 ℓM v2_1 v3_6 r_15 h_16) gX7_findWins_X7_winsBy kX7_winsBy rfl rfl rfl rfl ⟨(Nat.le_of_ble_eq_true rfl), (Nat.le_of_ble_eq_true rfl)⟩ [0, 1, 2, 3, 4, 5, 6, 7, 8, 9, 10, 11, 12, 13, 14, 15, 16, 17, 18, 19, 20] [] rfl rfl rfl (by decide) rfl rfl rfl rfl rfl hl.1 (Nat.le_of_ble_eq_true rfl) dX7_findWins_53 ⟨(Nat.le_of_ble_eq_true rfl), (Nat.le_of_ble_eq_true rfl)⟩ (fun r_w u_w H locs hw hP hD hS => ?_)
            have hP : va_P g.1 vwCl (wX7 g qM AM σM_6 ℓM) H := hP
            have hD : va_D Z (wX7 g qM AM σM_6 ℓM) := hD
            obtain rfl : r_15 = r_w := hw.symm
            refine lv_if_eq (tgt := 63) hx hb dX7_findWins_56 (by decide) (fun c_17 => ?_) (fun c_17 => ?_)
            · have hF := q_if_t c_17 hF
              refine lv_iconst (v := 0) hx hb dX7_findWins_63 (by decide) ?_
              obtain ⟨σM_18, i_19, e_20, hF⟩ := q_wrZ_s hF
              refine r_zast (f' := upd (σM_6 29) (((61 : Int32) * v2_1) + v3_6).toNatClampNeg (vp_nar .boolean (0 : Int32))) hx hb hK hP hD hS 18 rfl i_19 (fun _ _ => rfl) dX7_findWins_64 (fun H locs hP hD hS => ?_)
              have hP : va_P g.1 vwCl (wX7 g qM AM (q_up σM_6 29 (upd (σM_6 29) (((61 : Int32) * v2_1) + v3_6).toNatClampNeg (vp_nar .boolean (0 : Int32)))) ℓM) H := hP
              have hD : va_D Z (wX7 g qM AM (q_up σM_6 29 (upd (σM_6 29) (((61 : Int32) * v2_1) + v3_6).toNatClampNeg (vp_nar .boolean (0 : Int32)))) ℓM) := hD
              rw [e_20] at hP hD
              refine lv_iinc (v := v3_6 + 1) (lv' := [(3, .int (v3_6 + 1)), (2, .int v2_1), (0, .ref qM), (1, .int a1)]) hx hb dX7_findWins_65 hl (k := 0) rfl rfl (by decide) rfl (fun ls hl => ?_)
              refine lv_goto (tgt := 19) hx hb dX7_findWins_68 (by decide) ?_
              exact ag (v3_6 + 1, σM_18) hF _ _ _ hP hD hS (lv_sub hl [0, 1, 2, 3] rfl)
            · have hF := q_if_f c_17 hF
              refine lv_iconst (v := 1) hx hb dX7_findWins_59 (by decide) ?_
              refine lv_goto (tgt := 64) hx hb dX7_findWins_60 (by decide) ?_
              obtain ⟨σM_21, i_22, e_23, hF⟩ := q_wrZ_s hF
              refine r_zast (f' := upd (σM_6 29) (((61 : Int32) * v2_1) + v3_6).toNatClampNeg (vp_nar .boolean (1 : Int32))) hx hb hK hP hD hS 18 rfl i_22 (fun _ _ => rfl) dX7_findWins_64 (fun H locs hP hD hS => ?_)
              have hP : va_P g.1 vwCl (wX7 g qM AM (q_up σM_6 29 (upd (σM_6 29) (((61 : Int32) * v2_1) + v3_6).toNatClampNeg (vp_nar .boolean (1 : Int32)))) ℓM) H := hP
              have hD : va_D Z (wX7 g qM AM (q_up σM_6 29 (upd (σM_6 29) (((61 : Int32) * v2_1) + v3_6).toNatClampNeg (vp_nar .boolean (1 : Int32)))) ℓM) := hD
              rw [e_23] at hP hD
              refine lv_iinc (v := v3_6 + 1) (lv' := [(3, .int (v3_6 + 1)), (2, .int v2_1), (0, .ref qM), (1, .int a1)]) hx hb dX7_findWins_65 hl (k := 0) rfl rfl (by decide) rfl (fun ls hl => ?_)
              refine lv_goto (tgt := 19) hx hb dX7_findWins_68 (by decide) ?_
              exact ag (v3_6 + 1, σM_21) hF _ _ _ hP hD hS (lv_sub hl [0, 1, 2, 3] rfl)
set_option maxHeartbeats 4000000 in
set_option maxRecDepth 100000 in
theorem m_X7_embers (l : Launch) (g : GT) (sz : Nat) (qM : Nat) (AM : Nat → Nat) (σM : qS) (ℓM : qL) (a1 : Int32) (a2 : Int32) (rr : Int32) (σM' : qS) (hF : f_X7_embers σM ℓM a1 a2 = some (rr, σM')) : Ci l yX7_embers wsX7_embers { frames := 2, cells := 0, slots := 0, locals := 46 } g sz [.ref qM, .int a1, .int a2] (wX7 g qM AM σM ℓM) rr (wX7 g qM AM σM' ℓM) := by
  refine gMet_i (cc := cX7_embers) (maxL := 5) (ret := (some .int)) (by decide) rfl (Nat.le_of_ble_eq_true rfl) ?_
  intro p e s m args below meth c Z hx hb hr F hlk hnm hK hN hA H locs hP hD hS ls hl
  have hl : lv_has ls 5 [(0, .ref qM), (1, .int a1), (2, .int a2)] := hl
  have F : CallFix p m c cX7_embers 5 s args wsX7_embers RX7 := F
  have hts := F.2.2.2.2
  have hown : s.vm.findClass RX7 = some m.cls := F.2.2.2.1
  dsimp only [f_X7_embers] at hF
  refine lv_iload_n hx hb dX7_embers_0 rfl (lv_at hl 1 rfl) ?_
  refine lv_i2l (v := a1.toInt64) hx hb dX7_embers_1 rfl ?_
  refine lv_lconst (v := 1) hx hb dX7_embers_2 (by decide) ?_
  refine lv_ldc2 (v := 60) hx hb hown (hts (.constantLong RX7 271 (60)) (by decide +kernel)) dX7_embers_3 ?_
  obtain ⟨r_1, h_2, hF⟩ := q_cl_s hF
  refine gcP (As := [.long a1.toInt64, .long 1, .long 60]) (rest := []) F (m_X7_in l a1.toInt64 (1 : Int64) (60 : Int64) r_1 h_2) gX7_embers_X7_in kX7_in rfl rfl rfl ⟨(Nat.le_of_ble_eq_true rfl), (Nat.le_of_ble_eq_true rfl)⟩ rfl rfl hl.1 (Nat.le_of_ble_eq_true rfl) dX7_embers_6 ⟨(Nat.le_of_ble_eq_true rfl), (Nat.le_of_ble_eq_true rfl)⟩ ?_
  refine lv_if_eq (tgt := 22) hx hb dX7_embers_9 (by decide) (fun c_3 => ?_) (fun c_3 => ?_)
  · have hF := q_if_t c_3 hF
    refine lv_bipush (v := (-2)) hx hb dX7_embers_22 (by decide) ?_
    cases hF
    exact r_iret hx hb hr hlk hS () rfl hP hD dX7_embers_24
  · have hF := q_if_f c_3 hF
    refine lv_iload_n hx hb dX7_embers_12 rfl (lv_at hl 2 rfl) ?_
    refine lv_i2l (v := a2.toInt64) hx hb dX7_embers_13 rfl ?_
    refine lv_lconst (v := 0) hx hb dX7_embers_14 (by decide) ?_
    refine lv_lconst (v := 1) hx hb dX7_embers_15 (by decide) ?_
    obtain ⟨r_4, h_5, hF⟩ := q_cl_s hF
    refine gcP (As := [.long a2.toInt64, .long 0, .long 1]) (rest := []) F (m_X7_in l a2.toInt64 (0 : Int64) (1 : Int64) r_4 h_5) gX7_embers_X7_in kX7_in rfl rfl rfl ⟨(Nat.le_of_ble_eq_true rfl), (Nat.le_of_ble_eq_true rfl)⟩ rfl rfl hl.1 (Nat.le_of_ble_eq_true rfl) dX7_embers_16 ⟨(Nat.le_of_ble_eq_true rfl), (Nat.le_of_ble_eq_true rfl)⟩ ?_
    refine lv_if_ne (tgt := 25) hx hb dX7_embers_19 (by decide) (fun c_6 => ?_) (fun c_6 => ?_)
    · have hF := q_if_f c_6 hF
      refine lv_aload_n hx hb dX7_embers_25 rfl (lv_at hl 0 rfl) ?_
      refine lv_iload_n hx hb dX7_embers_26 rfl (lv_at hl 1 rfl) ?_
      obtain ⟨σM_7, h_8, hF⟩ := q_cl_s hF
      refine gcV_v (As := [.int a1]) (rest := []) (ci := 7) (q := (RX7, TX7, 34)) F hK hN hP hD hS hA (m_X7_findWins l g H.size qM AM σM ℓM a1 σM_7 h_8) gX7_embers_X7_findWins kX7_findWins rfl rfl rfl rfl ⟨(Nat.le_of_ble_eq_true rfl), (Nat.le_of_ble_eq_true rfl)⟩ [0, 1, 2, 3, 4, 5, 6, 7, 8, 9, 10, 11, 12, 13, 14, 15, 16, 17, 18, 19, 20] [] rfl rfl rfl (by decide) rfl rfl rfl rfl rfl hl.1 (Nat.le_of_ble_eq_true rfl) dX7_embers_27 ⟨(Nat.le_of_ble_eq_true rfl), (Nat.le_of_ble_eq_true rfl)⟩ (fun u_w H locs hw hP hD hS => ?_)
      have hP : va_P g.1 vwCl (wX7 g qM AM σM_7 ℓM) H := hP
      have hD : va_D Z (wX7 g qM AM σM_7 ℓM) := hD
      refine lv_bipush (v := (-6)) hx hb dX7_embers_30 (by decide) ?_
      refine lv_istore_n (lv' := [(3, .int (-6)), (0, .ref qM), (1, .int a1), (2, .int a2)]) hx hb dX7_embers_32 rfl hl (by decide) rfl (fun ls hl => ?_)
      refine lv_iload_n hx hb dX7_embers_33 rfl (lv_at hl 2 rfl) ?_
      refine lv_iconst (v := 1) hx hb dX7_embers_34 (by decide) ?_
      refine lv_isub hx hb dX7_embers_35 ?_
      obtain ⟨v4_9, e_10, hF⟩ := q_bd_s hF
      refine gtop e_10 ?_
      refine lv_istore (lv' := [(4, .int v4_9), (3, .int (-6)), (0, .ref qM), (1, .int a1), (2, .int a2)]) hx hb dX7_embers_36 hl (by decide) rfl (fun ls hl => ?_)
      refine q_loop (fun u0 => wX7 g qM AM σM_7 ℓM) (fun u0 => [(4, .int u0.1), (3, .int u0.2), (0, .ref qM), (1, .int a1), (2, .int a2)]) 66 hF ?_ ?_ hP hD hS (lv_sub hl [0, 1, 2, 3, 4] rfl)
      · rintro ⟨v4_11, v3_11⟩ hF H locs ls hP hD hS hl
        try dsimp only at hF
        have hP : va_P g.1 vwCl (wX7 g qM AM σM_7 ℓM) H := hP
        have hD : va_D Z (wX7 g qM AM σM_7 ℓM) := hD
        have hl : lv_has ls 5 [(4, .int v4_11), (3, .int v3_11), (0, .ref qM), (1, .int a1), (2, .int a2)] := hl
        refine lv_iload_n hx hb dX7_embers_66 rfl (lv_at hl 4 rfl) ?_
        refine lv_iconst (v := 1) hx hb dX7_embers_67 (by decide) ?_
        refine lv_icmp_ne (tgt := 75) hx hb dX7_embers_68 (by decide) (fun c_12 => ?_) (fun c_12 => ?_)
        · have hF := q_if_f c_12 hF
          refine lv_iload_n hx hb dX7_embers_75 rfl (lv_at hl 1 rfl) ?_
          refine lv_if_ge (tgt := 83) hx hb dX7_embers_76 (by decide) (fun c_13 => ?_) (fun c_13 => ?_)
          · have hF := q_if_t c_13 hF
            refine lv_iconst (v := 1) hx hb dX7_embers_83 (by decide) ?_
            cases hF
            exact r_iret hx hb hr hlk hS () rfl hP hD dX7_embers_84
          · have hF := q_if_f c_13 hF
            refine lv_iconst (v := 0) hx hb dX7_embers_79 (by decide) ?_
            refine lv_goto (tgt := 84) hx hb dX7_embers_80 (by decide) ?_
            cases hF
            exact r_iret hx hb hr hlk hS () rfl hP hD dX7_embers_84
        · have hF := q_if_t (by first | exact c_12 | exact Classical.not_not.mp c_12) hF
          refine lv_iload_n hx hb dX7_embers_71 rfl (lv_at hl 1 rfl) ?_
          refine lv_goto (tgt := 84) hx hb dX7_embers_72 (by decide) ?_
          cases hF
          exact r_iret hx hb hr hlk hS () rfl hP hD dX7_embers_84
      · rintro k again kk ag ⟨v4_11, v3_11⟩ hF H locs ls hP hD hS hl
        dsimp only [b_X7_embers_38] at hF
        have hP : va_P g.1 vwCl (wX7 g qM AM σM_7 ℓM) H := hP
        have hD : va_D Z (wX7 g qM AM σM_7 ℓM) := hD
        have hl : lv_has ls 5 [(4, .int v4_11), (3, .int v3_11), (0, .ref qM), (1, .int a1), (2, .int a2)] := hl
        refine lv_iload hx hb dX7_embers_38 (lv_at hl 0 rfl) ?_
        refine lv_if_le (tgt := 66) hx hb dX7_embers_40 (by decide) (fun c_14 => ?_) (fun c_14 => ?_)
        · have hF := q_if_t c_14 hF
          exact kk (v4_11, v3_11) hF _ _ _ hP hD hS (lv_sub hl [0, 1, 2, 3, 4] rfl)
        · have hF := q_if_f c_14 hF
          refine lv_aload_n hx hb dX7_embers_43 rfl (lv_at hl 2 rfl) ?_
          refine lv_iload_n hx hb dX7_embers_44 rfl (lv_at hl 3 rfl) ?_
          refine lv_iload hx hb dX7_embers_45 (lv_at hl 0 rfl) ?_
          obtain ⟨r_15, h_16, hF⟩ := q_cl_s hF
          refine gcV_i (As := [.int a1, .int v4_11]) (rest := []) (ci := 7) (q := (RX7, TX7, 34)) F hK hN hP hD hS hA (m_X7_winsBy l g H.size qM AM σM_7 ℓM a1 v4_11 r_15 h_16) gX7_embers_X7_winsBy kX7_winsBy rfl rfl rfl rfl ⟨(Nat.le_of_ble_eq_true rfl), (Nat.le_of_ble_eq_true rfl)⟩ [0, 1, 2, 3, 4, 5, 6, 7, 8, 9, 10, 11, 12, 13, 14, 15, 16, 17, 18, 19, 20] [] rfl rfl rfl (by decide) rfl rfl rfl rfl rfl hl.1 (Nat.le_of_ble_eq_true rfl) dX7_embers_47 ⟨(Nat.le_of_ble_eq_true rfl), (Nat.le_of_ble_eq_true rfl)⟩ (fun r_w u_w H locs hw hP hD hS => ?_)
          have hP : va_P g.1 vwCl (wX7 g qM AM σM_7 ℓM) H := hP
          have hD : va_D Z (wX7 g qM AM σM_7 ℓM) := hD
          obtain rfl : r_15 = r_w := hw.symm
          refine lv_if_eq (tgt := 58) hx hb dX7_embers_50 (by decide) (fun c_17 => ?_) (fun c_17 => ?_)
          · have hF := q_if_t c_17 hF
            refine lv_iload_n hx hb dX7_embers_58 rfl (lv_at hl 1 rfl) ?_
            refine lv_istore_n (lv' := [(3, .int v3_11), (4, .int v4_11), (0, .ref qM), (1, .int a1), (2, .int a2)]) hx hb dX7_embers_59 rfl hl (by decide) rfl (fun ls hl => ?_)
            refine lv_iinc (v := v4_11 + (-1)) (lv' := [(4, .int (v4_11 + (-1))), (3, .int v3_11), (0, .ref qM), (1, .int a1), (2, .int a2)]) hx hb dX7_embers_60 hl (k := 1) rfl rfl (by decide) rfl (fun ls hl => ?_)
            refine lv_goto (tgt := 38) hx hb dX7_embers_63 (by decide) ?_
            exact ag (v4_11 + (-1), v3_11) hF _ _ _ hP hD hS (lv_sub hl [0, 1, 2, 3, 4] rfl)
          · have hF := q_if_f c_17 hF
            refine lv_iload hx hb dX7_embers_53 (lv_at hl 0 rfl) ?_
            refine lv_goto (tgt := 59) hx hb dX7_embers_55 (by decide) ?_
            refine lv_istore_n (lv' := [(3, .int v4_11), (4, .int v4_11), (0, .ref qM), (1, .int a1), (2, .int a2)]) hx hb dX7_embers_59 rfl hl (by decide) rfl (fun ls hl => ?_)
            refine lv_iinc (v := v4_11 + (-1)) (lv' := [(4, .int (v4_11 + (-1))), (3, .int v4_11), (0, .ref qM), (1, .int a1), (2, .int a2)]) hx hb dX7_embers_60 hl (k := 1) rfl rfl (by decide) rfl (fun ls hl => ?_)
            refine lv_goto (tgt := 38) hx hb dX7_embers_63 (by decide) ?_
            exact ag (v4_11 + (-1), v4_11) hF _ _ _ hP hD hS (lv_sub hl [0, 1, 2, 3, 4] rfl)
    · have hF := q_if_t (by first | exact c_6 | exact Classical.not_not.mp c_6) hF
      refine lv_bipush (v := (-2)) hx hb dX7_embers_22 (by decide) ?_
      cases hF
      exact r_iret hx hb hr hlk hS () rfl hP hD dX7_embers_24
set_option maxHeartbeats 4000000 in
set_option maxRecDepth 100000 in
theorem m_X7_talesBelieved (l : Launch) (g : GT) (sz : Nat) (qM : Nat) (AM : Nat → Nat) (σM : qS) (ℓM : qL) (rr : Int32) (hF : f_X7_talesBelieved σM ℓM = some rr) : Ci l yX7_talesBelieved wsX7_talesBelieved { frames := 1, cells := 0, slots := 0, locals := 23 } g sz [.ref qM] (wX7 g qM AM σM ℓM) rr (wX7 g qM AM σM ℓM) := by
  refine gMet_i (cc := cX7_talesBelieved) (maxL := 3) (ret := (some .int)) (by decide) rfl (Nat.le_of_ble_eq_true rfl) ?_
  intro p e s m args below meth c Z hx hb hr F hlk hnm hK hN hA H locs hP hD hS ls hl
  have hl : lv_has ls 3 [(0, .ref qM)] := hl
  have F : CallFix p m c cX7_talesBelieved 3 s args wsX7_talesBelieved RX7 := F
  have hts := F.2.2.2.2
  have hown : s.vm.findClass RX7 = some m.cls := F.2.2.2.1
  dsimp only [f_X7_talesBelieved] at hF
  refine lv_iconst (v := 0) hx hb dX7_talesBelieved_0 (by decide) ?_
  refine lv_istore_n (lv' := [(1, .int 0), (0, .ref qM)]) hx hb dX7_talesBelieved_1 rfl hl (by decide) rfl (fun ls hl => ?_)
  refine lv_iconst (v := 0) hx hb dX7_talesBelieved_2 (by decide) ?_
  refine lv_istore_n (lv' := [(2, .int 0), (1, .int 0), (0, .ref qM)]) hx hb dX7_talesBelieved_3 rfl hl (by decide) rfl (fun ls hl => ?_)
  refine q_loop (fun u0 => wX7 g qM AM σM ℓM) (fun u0 => [(2, .int u0.1), (1, .int u0.2), (0, .ref qM)]) 32 hF ?_ ?_ hP hD hS (lv_sub hl [0, 1, 2] rfl)
  · rintro ⟨v2_1, v1_1⟩ hF H locs ls hP hD hS hl
    try dsimp only at hF
    have hP : va_P g.1 vwCl (wX7 g qM AM σM ℓM) H := hP
    have hD : va_D Z (wX7 g qM AM σM ℓM) := hD
    have hl : lv_has ls 3 [(2, .int v2_1), (1, .int v1_1), (0, .ref qM)] := hl
    refine lv_iload_n hx hb dX7_talesBelieved_32 rfl (lv_at hl 1 rfl) ?_
    cases hF
    exact r_iret hx hb hr hlk hS () rfl hP hD dX7_talesBelieved_33
  · rintro k again kk ag ⟨v2_1, v1_1⟩ hF H locs ls hP hD hS hl
    dsimp only [b_X7_talesBelieved_4] at hF
    have hP : va_P g.1 vwCl (wX7 g qM AM σM ℓM) H := hP
    have hD : va_D Z (wX7 g qM AM σM ℓM) := hD
    have hl : lv_has ls 3 [(2, .int v2_1), (1, .int v1_1), (0, .ref qM)] := hl
    refine lv_iload_n hx hb dX7_talesBelieved_4 rfl (lv_at hl 0 rfl) ?_
    refine lv_bipush (v := 10) hx hb dX7_talesBelieved_5 (by decide) ?_
    refine lv_icmp_ge (tgt := 32) hx hb dX7_talesBelieved_7 (by decide) (fun c_2 => ?_) (fun c_2 => ?_)
    · have hF := q_if_t c_2 hF
      exact kk (v2_1, v1_1) hF _ _ _ hP hD hS (lv_sub hl [0, 1, 2] rfl)
    · have hF := q_if_f c_2 hF
      refine lv_iload_n hx hb dX7_talesBelieved_10 rfl (lv_at hl 1 rfl) ?_
      refine lv_aload_n hx hb dX7_talesBelieved_11 rfl (lv_at hl 2 rfl) ?_
      refine lv_iload_n hx hb dX7_talesBelieved_12 rfl (lv_at hl 0 rfl) ?_
      obtain ⟨r_3, h_4, hF⟩ := q_cl_s hF
      refine gcV_i (As := [.int v2_1]) (rest := [.int v1_1]) (ci := 7) (q := (RX7, TX7, 34)) F hK hN hP hD hS hA (m_X7_believing l g H.size qM AM σM ℓM v2_1 r_3 h_4) gX7_talesBelieved_X7_believing kX7_believing rfl rfl rfl rfl ⟨(Nat.le_of_ble_eq_true rfl), (Nat.le_of_ble_eq_true rfl)⟩ [0, 1, 2, 3, 4, 5, 6, 7, 8, 9, 10, 11, 12, 13, 14, 15, 16, 17, 18, 19, 20] [] rfl rfl rfl (by decide) rfl rfl rfl rfl rfl hl.1 (Nat.le_of_ble_eq_true rfl) dX7_talesBelieved_13 ⟨(Nat.le_of_ble_eq_true rfl), (Nat.le_of_ble_eq_true rfl)⟩ (fun r_w u_w H locs hw hP hD hS => ?_)
      have hP : va_P g.1 vwCl (wX7 g qM AM σM ℓM) H := hP
      have hD : va_D Z (wX7 g qM AM σM ℓM) := hD
      obtain rfl : r_3 = r_w := hw.symm
      refine lv_if_eq (tgt := 23) hx hb dX7_talesBelieved_16 (by decide) (fun c_5 => ?_) (fun c_5 => ?_)
      · have hF := q_if_t c_5 hF
        refine lv_iconst (v := 0) hx hb dX7_talesBelieved_23 (by decide) ?_
        refine lv_iadd hx hb dX7_talesBelieved_24 ?_
        obtain ⟨v1_6, e_7, hF⟩ := q_bd_s hF
        refine gtop e_7 ?_
        refine lv_istore_n (lv' := [(1, .int v1_6), (2, .int v2_1), (0, .ref qM)]) hx hb dX7_talesBelieved_25 rfl hl (by decide) rfl (fun ls hl => ?_)
        refine lv_iinc (v := v2_1 + 1) (lv' := [(2, .int (v2_1 + 1)), (1, .int v1_6), (0, .ref qM)]) hx hb dX7_talesBelieved_26 hl (k := 1) rfl rfl (by decide) rfl (fun ls hl => ?_)
        refine lv_goto (tgt := 4) hx hb dX7_talesBelieved_29 (by decide) ?_
        exact ag (v2_1 + 1, v1_6) hF _ _ _ hP hD hS (lv_sub hl [0, 1, 2] rfl)
      · have hF := q_if_f c_5 hF
        refine lv_iconst (v := 1) hx hb dX7_talesBelieved_19 (by decide) ?_
        refine lv_goto (tgt := 24) hx hb dX7_talesBelieved_20 (by decide) ?_
        refine lv_iadd hx hb dX7_talesBelieved_24 ?_
        obtain ⟨v1_8, e_9, hF⟩ := q_bd_s hF
        refine gtop e_9 ?_
        refine lv_istore_n (lv' := [(1, .int v1_8), (2, .int v2_1), (0, .ref qM)]) hx hb dX7_talesBelieved_25 rfl hl (by decide) rfl (fun ls hl => ?_)
        refine lv_iinc (v := v2_1 + 1) (lv' := [(2, .int (v2_1 + 1)), (1, .int v1_8), (0, .ref qM)]) hx hb dX7_talesBelieved_26 hl (k := 1) rfl rfl (by decide) rfl (fun ls hl => ?_)
        refine lv_goto (tgt := 4) hx hb dX7_talesBelieved_29 (by decide) ?_
        exact ag (v2_1 + 1, v1_8) hF _ _ _ hP hD hS (lv_sub hl [0, 1, 2] rfl)
set_option maxHeartbeats 4000000 in
set_option maxRecDepth 100000 in
theorem m_X7_doubts (l : Launch) (g : GT) (sz : Nat) (qM : Nat) (AM : Nat → Nat) (σM : qS) (ℓM : qL) (rr : Int32) (hF : f_X7_doubts σM ℓM = some rr) : Ci l yX7_doubts wsX7_doubts { frames := 0, cells := 0, slots := 0, locals := 0 } g sz [.ref qM] (wX7 g qM AM σM ℓM) rr (wX7 g qM AM σM ℓM) := by
  refine gMet_i (cc := cX7_doubts) (maxL := 3) (ret := (some .int)) (by decide) rfl (Nat.le_of_ble_eq_true rfl) ?_
  intro p e s m args below meth c Z hx hb hr F hlk hnm hK hN hA H locs hP hD hS ls hl
  have hl : lv_has ls 3 [(0, .ref qM)] := hl
  have F : CallFix p m c cX7_doubts 3 s args wsX7_doubts RX7 := F
  have hts := F.2.2.2.2
  have hown : s.vm.findClass RX7 = some m.cls := F.2.2.2.1
  have hi7 : ∀ w ∈ u_ws RX7 TX7 34, w ∈ wsX7_doubts := by decide +kernel
  dsimp only [f_X7_doubts] at hF
  refine lv_iconst (v := 0) hx hb dX7_doubts_0 (by decide) ?_
  refine lv_istore_n (lv' := [(1, .int 0), (0, .ref qM)]) hx hb dX7_doubts_1 rfl hl (by decide) rfl (fun ls hl => ?_)
  refine lv_iconst (v := 0) hx hb dX7_doubts_2 (by decide) ?_
  refine lv_istore_n (lv' := [(2, .int 0), (1, .int 0), (0, .ref qM)]) hx hb dX7_doubts_3 rfl hl (by decide) rfl (fun ls hl => ?_)
  refine q_loop (fun u0 => wX7 g qM AM σM ℓM) (fun u0 => [(2, .int u0.1), (1, .int u0.2), (0, .ref qM)]) 25 hF ?_ ?_ hP hD hS (lv_sub hl [0, 1, 2] rfl)
  · rintro ⟨v2_1, v1_1⟩ hF H locs ls hP hD hS hl
    try dsimp only at hF
    have hP : va_P g.1 vwCl (wX7 g qM AM σM ℓM) H := hP
    have hD : va_D Z (wX7 g qM AM σM ℓM) := hD
    have hl : lv_has ls 3 [(2, .int v2_1), (1, .int v1_1), (0, .ref qM)] := hl
    refine lv_iload_n hx hb dX7_doubts_25 rfl (lv_at hl 1 rfl) ?_
    cases hF
    exact r_iret hx hb hr hlk hS () rfl hP hD dX7_doubts_26
  · rintro k again kk ag ⟨v2_1, v1_1⟩ hF H locs ls hP hD hS hl
    dsimp only [b_X7_doubts_4] at hF
    have hP : va_P g.1 vwCl (wX7 g qM AM σM ℓM) H := hP
    have hD : va_D Z (wX7 g qM AM σM ℓM) := hD
    have hl : lv_has ls 3 [(2, .int v2_1), (1, .int v1_1), (0, .ref qM)] := hl
    refine lv_iload_n hx hb dX7_doubts_4 rfl (lv_at hl 0 rfl) ?_
    refine lv_bipush (v := 10) hx hb dX7_doubts_5 (by decide) ?_
    refine lv_icmp_ge (tgt := 25) hx hb dX7_doubts_7 (by decide) (fun c_2 => ?_) (fun c_2 => ?_)
    · have hF := q_if_t c_2 hF
      exact kk (v2_1, v1_1) hF _ _ _ hP hD hS (lv_sub hl [0, 1, 2] rfl)
    · have hF := q_if_f c_2 hF
      refine lv_iload_n hx hb dX7_doubts_10 rfl (lv_at hl 1 rfl) ?_
      refine lv_aload_n hx hb dX7_doubts_11 rfl (lv_at hl 2 rfl) ?_
      refine va_get (D := g.1) (ci := 7) (v := .ref (AM 1)) (C := RX7) (T := TX7) (N := 34) hx hb hts hi7 hown hK hP 0 rfl rfl 1 (by decide) (hts (.fieldLink RX7 13 "PanTalesModel" "doubt" "[I") (by decide +kernel)) (fun _ h9 => h9) rfl dX7_doubts_12 ?_
      refine lv_iload_n hx hb dX7_doubts_15 rfl (lv_at hl 0 rfl) ?_
      obtain ⟨r_3, i_4, e_5, hF⟩ := q_rd_s hF
      refine r_iald (v := r_3) hx hb hK hP 2 rfl i_4 e_5 dX7_doubts_16 ?_
      refine lv_iadd hx hb dX7_doubts_17 ?_
      obtain ⟨v1_6, e_7, hF⟩ := q_bd_s hF
      refine gtop e_7 ?_
      refine lv_istore_n (lv' := [(1, .int v1_6), (2, .int v2_1), (0, .ref qM)]) hx hb dX7_doubts_18 rfl hl (by decide) rfl (fun ls hl => ?_)
      refine lv_iinc (v := v2_1 + 1) (lv' := [(2, .int (v2_1 + 1)), (1, .int v1_6), (0, .ref qM)]) hx hb dX7_doubts_19 hl (k := 1) rfl rfl (by decide) rfl (fun ls hl => ?_)
      refine lv_goto (tgt := 4) hx hb dX7_doubts_22 (by decide) ?_
      exact ag (v2_1 + 1, v1_6) hF _ _ _ hP hD hS (lv_sub hl [0, 1, 2] rfl)
set_option maxHeartbeats 4000000 in
set_option maxRecDepth 100000 in
theorem m_X7_year (l : Launch) (g : GT) (sz : Nat) (qM : Nat) (AM : Nat → Nat) (σM : qS) (ℓM : qL) (a1 : Int32) (a2 : Int32) (a3 : Int32) (rr : Int32) (σM' : qS) (hF : f_X7_year σM ℓM a1 a2 a3 = some (rr, σM')) : Ci l yX7_year wsX7_year { frames := 3, cells := 0, slots := 0, locals := 65 } g sz [.ref qM, .int a1, .int a2, .int a3] (wX7 g qM AM σM ℓM) rr (wX7 g qM AM σM' ℓM) := by
  refine gMet_i (cc := cX7_year) (maxL := 9) (ret := (some .int)) (by decide) rfl (Nat.le_of_ble_eq_true rfl) ?_
  intro p e s m args below meth c Z hx hb hr F hlk hnm hK hN hA H locs hP hD hS ls hl
  have hl : lv_has ls 9 [(0, .ref qM), (1, .int a1), (2, .int a2), (3, .int a3)] := hl
  have F : CallFix p m c cX7_year 9 s args wsX7_year RX7 := F
  have hts := F.2.2.2.2
  have hown : s.vm.findClass RX7 = some m.cls := F.2.2.2.1
  dsimp only [f_X7_year] at hF
  refine lv_iload_n hx hb dX7_year_0 rfl (lv_at hl 1 rfl) ?_
  refine lv_i2l (v := a1.toInt64) hx hb dX7_year_1 rfl ?_
  refine lv_lconst (v := 0) hx hb dX7_year_2 (by decide) ?_
  refine lv_ldc2 (v := 9999) hx hb hown (hts (.constantLong RX7 276 (9999)) (by decide +kernel)) dX7_year_3 ?_
  obtain ⟨r_1, h_2, hF⟩ := q_cl_s hF
  refine gcP (As := [.long a1.toInt64, .long 0, .long 9999]) (rest := []) F (m_X7_in l a1.toInt64 (0 : Int64) (9999 : Int64) r_1 h_2) gX7_year_X7_in kX7_in rfl rfl rfl ⟨(Nat.le_of_ble_eq_true rfl), (Nat.le_of_ble_eq_true rfl)⟩ rfl rfl hl.1 (Nat.le_of_ble_eq_true rfl) dX7_year_6 ⟨(Nat.le_of_ble_eq_true rfl), (Nat.le_of_ble_eq_true rfl)⟩ ?_
  refine lv_if_eq (tgt := 36) hx hb dX7_year_9 (by decide) (fun c_3 => ?_) (fun c_3 => ?_)
  · have hF := q_if_t c_3 hF
    refine lv_bipush (v := (-2)) hx hb dX7_year_36 (by decide) ?_
    cases hF
    exact r_iret hx hb hr hlk hS () rfl hP hD dX7_year_38
  · have hF := q_if_f c_3 hF
    refine lv_iload_n hx hb dX7_year_12 rfl (lv_at hl 2 rfl) ?_
    refine lv_i2l (v := a2.toInt64) hx hb dX7_year_13 rfl ?_
    refine lv_lconst (v := 1) hx hb dX7_year_14 (by decide) ?_
    refine lv_ldc2 (v := 99) hx hb hown (hts (.constantLong RX7 219 (99)) (by decide +kernel)) dX7_year_15 ?_
    obtain ⟨r_4, h_5, hF⟩ := q_cl_s hF
    refine gcP (As := [.long a2.toInt64, .long 1, .long 99]) (rest := []) F (m_X7_in l a2.toInt64 (1 : Int64) (99 : Int64) r_4 h_5) gX7_year_X7_in kX7_in rfl rfl rfl ⟨(Nat.le_of_ble_eq_true rfl), (Nat.le_of_ble_eq_true rfl)⟩ rfl rfl hl.1 (Nat.le_of_ble_eq_true rfl) dX7_year_18 ⟨(Nat.le_of_ble_eq_true rfl), (Nat.le_of_ble_eq_true rfl)⟩ ?_
    refine lv_if_eq (tgt := 36) hx hb dX7_year_21 (by decide) (fun c_6 => ?_) (fun c_6 => ?_)
    · have hF := q_if_t c_6 hF
      refine lv_bipush (v := (-2)) hx hb dX7_year_36 (by decide) ?_
      cases hF
      exact r_iret hx hb hr hlk hS () rfl hP hD dX7_year_38
    · have hF := q_if_f c_6 hF
      refine lv_iload_n hx hb dX7_year_24 rfl (lv_at hl 3 rfl) ?_
      refine lv_i2l (v := a3.toInt64) hx hb dX7_year_25 rfl ?_
      refine lv_lconst (v := 0) hx hb dX7_year_26 (by decide) ?_
      refine lv_ldc2 (v := 2) hx hb hown (hts (.constantLong RX7 191 (2)) (by decide +kernel)) dX7_year_27 ?_
      obtain ⟨r_7, h_8, hF⟩ := q_cl_s hF
      refine gcP (As := [.long a3.toInt64, .long 0, .long 2]) (rest := []) F (m_X7_in l a3.toInt64 (0 : Int64) (2 : Int64) r_7 h_8) gX7_year_X7_in kX7_in rfl rfl rfl ⟨(Nat.le_of_ble_eq_true rfl), (Nat.le_of_ble_eq_true rfl)⟩ rfl rfl hl.1 (Nat.le_of_ble_eq_true rfl) dX7_year_30 ⟨(Nat.le_of_ble_eq_true rfl), (Nat.le_of_ble_eq_true rfl)⟩ ?_
      refine lv_if_ne (tgt := 39) hx hb dX7_year_33 (by decide) (fun c_9 => ?_) (fun c_9 => ?_)
      · have hF := q_if_f c_9 hF
        refine lv_aload_n hx hb dX7_year_39 rfl (lv_at hl 0 rfl) ?_
        obtain ⟨σM_10, h_11, hF⟩ := q_cl_s hF
        refine gcV_v (As := []) (rest := []) (ci := 7) (q := (RX7, TX7, 34)) F hK hN hP hD hS hA (m_X7_keepNow l g H.size qM AM σM ℓM σM_10 h_11) gX7_year_X7_keepNow kX7_keepNow rfl rfl rfl rfl ⟨(Nat.le_of_ble_eq_true rfl), (Nat.le_of_ble_eq_true rfl)⟩ [0, 1, 2, 3, 4, 5, 6, 7, 8, 9, 10, 11, 12, 13, 14, 15, 16, 17, 18, 19, 20] [] rfl rfl rfl (by decide) rfl rfl rfl rfl rfl hl.1 (Nat.le_of_ble_eq_true rfl) dX7_year_40 ⟨(Nat.le_of_ble_eq_true rfl), (Nat.le_of_ble_eq_true rfl)⟩ (fun u_w H locs hw hP hD hS => ?_)
        have hP : va_P g.1 vwCl (wX7 g qM AM σM_10 ℓM) H := hP
        have hD : va_D Z (wX7 g qM AM σM_10 ℓM) := hD
        refine lv_iload_n hx hb dX7_year_43 rfl (lv_at hl 1 rfl) ?_
        refine lv_istore (lv' := [(4, .int a1), (0, .ref qM), (1, .int a1), (2, .int a2), (3, .int a3)]) hx hb dX7_year_44 hl (by decide) rfl (fun ls hl => ?_)
        refine lv_iconst (v := 0) hx hb dX7_year_46 (by decide) ?_
        refine lv_istore (lv' := [(5, .int 0), (4, .int a1), (0, .ref qM), (1, .int a1), (2, .int a2), (3, .int a3)]) hx hb dX7_year_47 hl (by decide) rfl (fun ls hl => ?_)
        refine q_loop (fun u0 => wX7 g qM AM u0.2.2 ℓM) (fun u0 => [(5, .int u0.1), (4, .int u0.2.1), (0, .ref qM), (2, .int a2), (3, .int a3)]) 146 hF ?_ ?_ hP hD hS (lv_sub hl [0, 1, 2, 4, 5] rfl)
        · rintro ⟨v5_12, v4_12, σM_12⟩ hF H locs ls hP hD hS hl
          try dsimp only at hF
          have hP : va_P g.1 vwCl (wX7 g qM AM σM_12 ℓM) H := hP
          have hD : va_D Z (wX7 g qM AM σM_12 ℓM) := hD
          have hl : lv_has ls 9 [(5, .int v5_12), (4, .int v4_12), (0, .ref qM), (2, .int a2), (3, .int a3)] := hl
          refine lv_iload_n hx hb dX7_year_146 rfl (lv_at hl 4 rfl) ?_
          refine lv_if_ne (tgt := 165) hx hb dX7_year_147 (by decide) (fun c_13 => ?_) (fun c_13 => ?_)
          · have hF := q_if_f c_13 hF
            refine lv_iload_n hx hb dX7_year_165 rfl (lv_at hl 4 rfl) ?_
            refine lv_iconst (v := 1) hx hb dX7_year_166 (by decide) ?_
            refine lv_icmp_ne (tgt := 177) hx hb dX7_year_167 (by decide) (fun c_14 => ?_) (fun c_14 => ?_)
            · have hF := q_if_f c_14 hF
              refine lv_aload_n hx hb dX7_year_177 rfl (lv_at hl 2 rfl) ?_
              obtain ⟨r_15, h_16, hF⟩ := q_cl_s hF
              refine gcV_i (As := []) (rest := []) (ci := 7) (q := (RX7, TX7, 34)) F hK hN hP hD hS hA (m_X7_doubts l g H.size qM AM σM_12 ℓM r_15 h_16) gX7_year_X7_doubts kX7_doubts rfl rfl rfl rfl ⟨(Nat.le_of_ble_eq_true rfl), (Nat.le_of_ble_eq_true rfl)⟩ [0, 1, 2, 3, 4, 5, 6, 7, 8, 9, 10, 11, 12, 13, 14, 15, 16, 17, 18, 19, 20] [] rfl rfl rfl (by decide) rfl rfl rfl rfl rfl hl.1 (Nat.le_of_ble_eq_true rfl) dX7_year_178 ⟨(Nat.le_of_ble_eq_true rfl), (Nat.le_of_ble_eq_true rfl)⟩ (fun r_w u_w H locs hw hP hD hS => ?_)
              have hP : va_P g.1 vwCl (wX7 g qM AM σM_12 ℓM) H := hP
              have hD : va_D Z (wX7 g qM AM σM_12 ℓM) := hD
              obtain rfl : r_15 = r_w := hw.symm
              refine lv_istore (lv' := [(5, .int r_15), (4, .int v4_12), (0, .ref qM), (2, .int a2), (3, .int a3)]) hx hb dX7_year_181 hl (by decide) rfl (fun ls hl => ?_)
              refine lv_aload_n hx hb dX7_year_183 rfl (lv_at hl 2 rfl) ?_
              refine lv_iload hx hb dX7_year_184 (lv_at hl 0 rfl) ?_
              obtain ⟨⟨r_17, σM_18⟩, h_19, hF⟩ := q_cl_s hF
              try dsimp only at hF
              refine gcV_i (As := [.int r_15]) (rest := []) (ci := 7) (q := (RX7, TX7, 34)) F hK hN hP hD hS hA (m_X7_back l g H.size qM AM σM_12 ℓM r_15 r_17 σM_18 h_19) gX7_year_X7_back kX7_back rfl rfl rfl rfl ⟨(Nat.le_of_ble_eq_true rfl), (Nat.le_of_ble_eq_true rfl)⟩ [0, 1, 2, 3, 4, 5, 6, 7, 8, 9, 10, 11, 12, 13, 14, 15, 16, 17, 18, 19, 20] [] rfl rfl rfl (by decide) rfl rfl rfl rfl rfl hl.1 (Nat.le_of_ble_eq_true rfl) dX7_year_186 ⟨(Nat.le_of_ble_eq_true rfl), (Nat.le_of_ble_eq_true rfl)⟩ (fun r_w u_w H locs hw hP hD hS => ?_)
              have hP : va_P g.1 vwCl (wX7 g qM AM σM_18 ℓM) H := hP
              have hD : va_D Z (wX7 g qM AM σM_18 ℓM) := hD
              obtain rfl : r_17 = r_w := hw.symm
              cases hF
              exact r_iret hx hb hr hlk hS () rfl hP hD dX7_year_189
            · have hF := q_if_t (by first | exact c_14 | exact Classical.not_not.mp c_14) hF
              refine lv_aload_n hx hb dX7_year_170 rfl (lv_at hl 2 rfl) ?_
              obtain ⟨r_21, h_22, hF⟩ := q_cl_s hF
              refine gcV_i (As := []) (rest := []) (ci := 7) (q := (RX7, TX7, 34)) F hK hN hP hD hS hA (m_X7_talesBelieved l g H.size qM AM σM_12 ℓM r_21 h_22) gX7_year_X7_talesBelieved kX7_talesBelieved rfl rfl rfl rfl ⟨(Nat.le_of_ble_eq_true rfl), (Nat.le_of_ble_eq_true rfl)⟩ [0, 1, 2, 3, 4, 5, 6, 7, 8, 9, 10, 11, 12, 13, 14, 15, 16, 17, 18, 19, 20] [] rfl rfl rfl (by decide) rfl rfl rfl rfl rfl hl.1 (Nat.le_of_ble_eq_true rfl) dX7_year_171 ⟨(Nat.le_of_ble_eq_true rfl), (Nat.le_of_ble_eq_true rfl)⟩ (fun r_w u_w H locs hw hP hD hS => ?_)
              have hP : va_P g.1 vwCl (wX7 g qM AM σM_12 ℓM) H := hP
              have hD : va_D Z (wX7 g qM AM σM_12 ℓM) := hD
              obtain rfl : r_21 = r_w := hw.symm
              refine lv_goto (tgt := 181) hx hb dX7_year_174 (by decide) ?_
              refine lv_istore (lv' := [(5, .int r_21), (4, .int v4_12), (0, .ref qM), (2, .int a2), (3, .int a3)]) hx hb dX7_year_181 hl (by decide) rfl (fun ls hl => ?_)
              refine lv_aload_n hx hb dX7_year_183 rfl (lv_at hl 2 rfl) ?_
              refine lv_iload hx hb dX7_year_184 (lv_at hl 0 rfl) ?_
              obtain ⟨⟨r_23, σM_24⟩, h_25, hF⟩ := q_cl_s hF
              try dsimp only at hF
              refine gcV_i (As := [.int r_21]) (rest := []) (ci := 7) (q := (RX7, TX7, 34)) F hK hN hP hD hS hA (m_X7_back l g H.size qM AM σM_12 ℓM r_21 r_23 σM_24 h_25) gX7_year_X7_back kX7_back rfl rfl rfl rfl ⟨(Nat.le_of_ble_eq_true rfl), (Nat.le_of_ble_eq_true rfl)⟩ [0, 1, 2, 3, 4, 5, 6, 7, 8, 9, 10, 11, 12, 13, 14, 15, 16, 17, 18, 19, 20] [] rfl rfl rfl (by decide) rfl rfl rfl rfl rfl hl.1 (Nat.le_of_ble_eq_true rfl) dX7_year_186 ⟨(Nat.le_of_ble_eq_true rfl), (Nat.le_of_ble_eq_true rfl)⟩ (fun r_w u_w H locs hw hP hD hS => ?_)
              have hP : va_P g.1 vwCl (wX7 g qM AM σM_24 ℓM) H := hP
              have hD : va_D Z (wX7 g qM AM σM_24 ℓM) := hD
              obtain rfl : r_23 = r_w := hw.symm
              cases hF
              exact r_iret hx hb hr hlk hS () rfl hP hD dX7_year_189
          · have hF := q_if_t (by first | exact c_13 | exact Classical.not_not.mp c_13) hF
            refine lv_bipush (v := 10) hx hb dX7_year_150 (by decide) ?_
            refine lv_aload_n hx hb dX7_year_152 rfl (lv_at hl 2 rfl) ?_
            refine lv_bipush (v := (-6)) hx hb dX7_year_153 (by decide) ?_
            obtain ⟨r_27, h_28, hF⟩ := q_cl_s hF
            refine gcV_i (As := [.int (-6)]) (rest := [.int 10]) (ci := 7) (q := (RX7, TX7, 34)) F hK hN hP hD hS hA (m_X7_believing l g H.size qM AM σM_12 ℓM (-6 : Int32) r_27 h_28) gX7_year_X7_believing kX7_believing rfl rfl rfl rfl ⟨(Nat.le_of_ble_eq_true rfl), (Nat.le_of_ble_eq_true rfl)⟩ [0, 1, 2, 3, 4, 5, 6, 7, 8, 9, 10, 11, 12, 13, 14, 15, 16, 17, 18, 19, 20] [] rfl rfl rfl (by decide) rfl rfl rfl rfl rfl hl.1 (Nat.le_of_ble_eq_true rfl) dX7_year_155 ⟨(Nat.le_of_ble_eq_true rfl), (Nat.le_of_ble_eq_true rfl)⟩ (fun r_w u_w H locs hw hP hD hS => ?_)
            have hP : va_P g.1 vwCl (wX7 g qM AM σM_12 ℓM) H := hP
            have hD : va_D Z (wX7 g qM AM σM_12 ℓM) := hD
            obtain rfl : r_27 = r_w := hw.symm
            obtain ⟨r_29, h_30, hF⟩ := q_cl_s hF
            refine gcP (As := [.int r_27]) (rest := [.int 10]) F (m_X7_ones l r_27 r_29 h_30) gX7_year_X7_ones kX7_ones rfl rfl rfl ⟨(Nat.le_of_ble_eq_true rfl), (Nat.le_of_ble_eq_true rfl)⟩ rfl rfl hl.1 (Nat.le_of_ble_eq_true rfl) dX7_year_158 ⟨(Nat.le_of_ble_eq_true rfl), (Nat.le_of_ble_eq_true rfl)⟩ ?_
            refine lv_isub hx hb dX7_year_161 ?_
            refine lv_goto (tgt := 181) hx hb dX7_year_162 (by decide) ?_
            obtain ⟨v5_31, e_32, hF⟩ := q_bd_s hF
            refine gtop e_32 ?_
            refine lv_istore (lv' := [(5, .int v5_31), (4, .int v4_12), (0, .ref qM), (2, .int a2), (3, .int a3)]) hx hb dX7_year_181 hl (by decide) rfl (fun ls hl => ?_)
            refine lv_aload_n hx hb dX7_year_183 rfl (lv_at hl 2 rfl) ?_
            refine lv_iload hx hb dX7_year_184 (lv_at hl 0 rfl) ?_
            obtain ⟨⟨r_33, σM_34⟩, h_35, hF⟩ := q_cl_s hF
            try dsimp only at hF
            refine gcV_i (As := [.int v5_31]) (rest := []) (ci := 7) (q := (RX7, TX7, 34)) F hK hN hP hD hS hA (m_X7_back l g H.size qM AM σM_12 ℓM v5_31 r_33 σM_34 h_35) gX7_year_X7_back kX7_back rfl rfl rfl rfl ⟨(Nat.le_of_ble_eq_true rfl), (Nat.le_of_ble_eq_true rfl)⟩ [0, 1, 2, 3, 4, 5, 6, 7, 8, 9, 10, 11, 12, 13, 14, 15, 16, 17, 18, 19, 20] [] rfl rfl rfl (by decide) rfl rfl rfl rfl rfl hl.1 (Nat.le_of_ble_eq_true rfl) dX7_year_186 ⟨(Nat.le_of_ble_eq_true rfl), (Nat.le_of_ble_eq_true rfl)⟩ (fun r_w u_w H locs hw hP hD hS => ?_)
            have hP : va_P g.1 vwCl (wX7 g qM AM σM_34 ℓM) H := hP
            have hD : va_D Z (wX7 g qM AM σM_34 ℓM) := hD
            obtain rfl : r_33 = r_w := hw.symm
            cases hF
            exact r_iret hx hb hr hlk hS () rfl hP hD dX7_year_189
        · rintro k again kk ag ⟨v5_12, v4_12, σM_12⟩ hF H locs ls hP hD hS hl
          dsimp only [b_X7_year_49] at hF
          have hP : va_P g.1 vwCl (wX7 g qM AM σM_12 ℓM) H := hP
          have hD : va_D Z (wX7 g qM AM σM_12 ℓM) := hD
          have hl : lv_has ls 9 [(5, .int v5_12), (4, .int v4_12), (0, .ref qM), (2, .int a2), (3, .int a3)] := hl
          refine lv_iload hx hb dX7_year_49 (lv_at hl 0 rfl) ?_
          refine lv_iload_n hx hb dX7_year_51 rfl (lv_at hl 3 rfl) ?_
          refine lv_icmp_ge (tgt := 146) hx hb dX7_year_52 (by decide) (fun c_37 => ?_) (fun c_37 => ?_)
          · have hF := q_if_t c_37 hF
            exact kk (v5_12, v4_12, σM_12) hF _ _ _ hP hD hS (lv_sub hl [0, 1, 2, 3, 4] rfl)
          · have hF := q_if_f c_37 hF
            refine lv_ldc2 (v := 75) hx hb hown (hts (.constantLong RX7 278 (75)) (by decide +kernel)) dX7_year_55 ?_
            refine lv_iload hx hb dX7_year_58 (lv_at hl 1 rfl) ?_
            refine lv_i2l (v := v4_12.toInt64) hx hb dX7_year_60 rfl ?_
            refine lv_lmul hx hb dX7_year_61 ?_
            refine lv_ldc2 (v := 74) hx hb hown (hts (.constantLong RX7 108 (74)) (by decide +kernel)) dX7_year_62 ?_
            refine lv_ladd hx hb dX7_year_65 ?_
            refine lv_ldc2 (v := 65537) hx hb hown (hts (.constantLong RX7 280 (65537)) (by decide +kernel)) dX7_year_66 ?_
            refine lv_lrem hx hb dX7_year_69 (by decide) ?_
            refine lv_l2i (v := ((((75 : Int64) * v4_12.toInt64) + 74) - (((75 : Int64) * v4_12.toInt64) + 74) / 65537 * 65537).toInt32) hx hb dX7_year_70 rfl ?_
            obtain ⟨v4_38, e_39, hF⟩ := q_bd_s hF
            refine gtop e_39 ?_
            refine lv_istore (lv' := [(4, .int v4_38), (5, .int v5_12), (0, .ref qM), (2, .int a2), (3, .int a3)]) hx hb dX7_year_71 hl (by decide) rfl (fun ls hl => ?_)
            refine lv_iload hx hb dX7_year_73 (lv_at hl 0 rfl) ?_
            refine lv_bipush (v := 8) hx hb dX7_year_75 (by decide) ?_
            refine lv_irem hx hb dX7_year_77 (by decide) ?_
            obtain ⟨r_40, h_41, hF⟩ := q_cl_s hF
            refine gcP (As := [.int (v4_38 - v4_38 / 8 * 8)]) (rest := []) F (m_X7_actBy l (v4_38 - v4_38 / 8 * 8) r_40 h_41) gX7_year_X7_actBy kX7_actBy rfl rfl rfl ⟨(Nat.le_of_ble_eq_true rfl), (Nat.le_of_ble_eq_true rfl)⟩ rfl rfl hl.1 (Nat.le_of_ble_eq_true rfl) dX7_year_78 ⟨(Nat.le_of_ble_eq_true rfl), (Nat.le_of_ble_eq_true rfl)⟩ ?_
            refine lv_istore (lv' := [(6, .int r_40), (4, .int v4_38), (5, .int v5_12), (0, .ref qM), (2, .int a2), (3, .int a3)]) hx hb dX7_year_81 hl (by decide) rfl (fun ls hl => ?_)
            refine lv_iload hx hb dX7_year_83 (lv_at hl 1 rfl) ?_
            refine lv_bipush (v := 8) hx hb dX7_year_85 (by decide) ?_
            refine lv_idiv hx hb dX7_year_87 (by decide) ?_
            refine lv_iload hx hb dX7_year_88 (lv_at hl 0 rfl) ?_
            refine lv_iconst (v := 1) hx hb dX7_year_90 (by decide) ?_
            refine lv_icmp_ne (tgt := 99) hx hb dX7_year_91 (by decide) (fun c_42 => ?_) (fun c_42 => ?_)
            · have hF := q_if_f c_42 hF
              refine lv_bipush (v := 10) hx hb dX7_year_99 (by decide) ?_
              refine lv_irem hx hb dX7_year_101 (by decide) ?_
              obtain ⟨v7_43, e_44, hF⟩ := q_bd_s hF
              refine gtop e_44 ?_
              refine lv_istore (lv' := [(7, .int v7_43), (6, .int r_40), (4, .int v4_38), (5, .int v5_12), (0, .ref qM), (2, .int a2), (3, .int a3)]) hx hb dX7_year_102 hl (by decide) rfl (fun ls hl => ?_)
              refine lv_bipush (v := 10) hx hb dX7_year_104 (by decide) ?_
              refine lv_iconst (v := 1) hx hb dX7_year_106 (by decide) ?_
              refine lv_iload hx hb dX7_year_107 (lv_at hl 2 rfl) ?_
              refine lv_bipush (v := 80) hx hb dX7_year_109 (by decide) ?_
              refine lv_idiv hx hb dX7_year_111 (by decide) ?_
              refine lv_bipush (v := 9) hx hb dX7_year_112 (by decide) ?_
              refine lv_irem hx hb dX7_year_114 (by decide) ?_
              refine lv_iadd hx hb dX7_year_115 ?_
              refine lv_imul hx hb dX7_year_116 ?_
              obtain ⟨v8_45, e_46, hF⟩ := q_bd_s hF
              refine gtop e_46 ?_
              refine lv_istore (lv' := [(8, .int v8_45), (7, .int v7_43), (6, .int r_40), (4, .int v4_38), (5, .int v5_12), (0, .ref qM), (2, .int a2), (3, .int a3)]) hx hb dX7_year_117 hl (by decide) rfl (fun ls hl => ?_)
              refine lv_aload_n hx hb dX7_year_119 rfl (lv_at hl 5 rfl) ?_
              refine lv_iload hx hb dX7_year_120 (lv_at hl 2 rfl) ?_
              refine lv_iload hx hb dX7_year_122 (lv_at hl 1 rfl) ?_
              obtain ⟨r_47, h_48, hF⟩ := q_cl_s hF
              refine gcV_i (As := [.int r_40, .int v7_43]) (rest := []) (ci := 7) (q := (RX7, TX7, 34)) F hK hN hP hD hS hA (m_X7_whyNot l g H.size qM AM σM_12 ℓM r_40 v7_43 r_47 h_48) gX7_year_X7_whyNot kX7_whyNot rfl rfl rfl rfl ⟨(Nat.le_of_ble_eq_true rfl), (Nat.le_of_ble_eq_true rfl)⟩ [0, 1, 2, 3, 4, 5, 6, 7, 8, 9, 10, 11, 12, 13, 14, 15, 16, 17, 18, 19, 20] [] rfl rfl rfl (by decide) rfl rfl rfl rfl rfl hl.1 (Nat.le_of_ble_eq_true rfl) dX7_year_124 ⟨(Nat.le_of_ble_eq_true rfl), (Nat.le_of_ble_eq_true rfl)⟩ (fun r_w u_w H locs hw hP hD hS => ?_)
              have hP : va_P g.1 vwCl (wX7 g qM AM σM_12 ℓM) H := hP
              have hD : va_D Z (wX7 g qM AM σM_12 ℓM) := hD
              obtain rfl : r_47 = r_w := hw.symm
              refine lv_if_ne (tgt := 140) hx hb dX7_year_127 (by decide) (fun c_49 => ?_) (fun c_49 => ?_)
              · have hF := q_if_f c_49 hF
                refine lv_iinc (v := v5_12 + 1) (lv' := [(5, .int (v5_12 + 1)), (8, .int v8_45), (7, .int v7_43), (6, .int r_40), (4, .int v4_38), (0, .ref qM), (2, .int a2), (3, .int a3)]) hx hb dX7_year_140 hl (k := 4) rfl rfl (by decide) rfl (fun ls hl => ?_)
                refine lv_goto (tgt := 49) hx hb dX7_year_143 (by decide) ?_
                exact ag (v5_12 + 1, v4_38, σM_12) hF _ _ _ hP hD hS (lv_sub hl [0, 4, 5, 6, 7] rfl)
              · have hF := q_if_t (by first | exact c_49 | exact Classical.not_not.mp c_49) hF
                refine lv_aload_n hx hb dX7_year_130 rfl (lv_at hl 5 rfl) ?_
                refine lv_iload hx hb dX7_year_131 (lv_at hl 2 rfl) ?_
                refine lv_iload hx hb dX7_year_133 (lv_at hl 1 rfl) ?_
                refine lv_iload hx hb dX7_year_135 (lv_at hl 0 rfl) ?_
                obtain ⟨σM_50, h_51, hF⟩ := q_cl_s hF
                refine gcV_v (As := [.int r_40, .int v7_43, .int v8_45]) (rest := []) (ci := 7) (q := (RX7, TX7, 34)) F hK hN hP hD hS hA (m_X7_happen l g H.size qM AM σM_12 ℓM r_40 v7_43 v8_45 σM_50 h_51) gX7_year_X7_happen kX7_happen rfl rfl rfl rfl ⟨(Nat.le_of_ble_eq_true rfl), (Nat.le_of_ble_eq_true rfl)⟩ [0, 1, 2, 3, 4, 5, 6, 7, 8, 9, 10, 11, 12, 13, 14, 15, 16, 17, 18, 19, 20] [] rfl rfl rfl (by decide) rfl rfl rfl rfl rfl hl.1 (Nat.le_of_ble_eq_true rfl) dX7_year_137 ⟨(Nat.le_of_ble_eq_true rfl), (Nat.le_of_ble_eq_true rfl)⟩ (fun u_w H locs hw hP hD hS => ?_)
                have hP : va_P g.1 vwCl (wX7 g qM AM σM_50 ℓM) H := hP
                have hD : va_D Z (wX7 g qM AM σM_50 ℓM) := hD
                refine lv_iinc (v := v5_12 + 1) (lv' := [(5, .int (v5_12 + 1)), (8, .int v8_45), (7, .int v7_43), (6, .int r_40), (4, .int v4_38), (0, .ref qM), (2, .int a2), (3, .int a3)]) hx hb dX7_year_140 hl (k := 4) rfl rfl (by decide) rfl (fun ls hl => ?_)
                refine lv_goto (tgt := 49) hx hb dX7_year_143 (by decide) ?_
                exact ag (v5_12 + 1, v4_38, σM_50) hF _ _ _ hP hD hS (lv_sub hl [0, 4, 5, 6, 7] rfl)
            · have hF := q_if_t (by first | exact c_42 | exact Classical.not_not.mp c_42) hF
              refine lv_bipush (v := 11) hx hb dX7_year_94 (by decide) ?_
              refine lv_goto (tgt := 101) hx hb dX7_year_96 (by decide) ?_
              refine lv_irem hx hb dX7_year_101 (by decide) ?_
              obtain ⟨v7_52, e_53, hF⟩ := q_bd_s hF
              refine gtop e_53 ?_
              refine lv_istore (lv' := [(7, .int v7_52), (6, .int r_40), (4, .int v4_38), (5, .int v5_12), (0, .ref qM), (2, .int a2), (3, .int a3)]) hx hb dX7_year_102 hl (by decide) rfl (fun ls hl => ?_)
              refine lv_bipush (v := 10) hx hb dX7_year_104 (by decide) ?_
              refine lv_iconst (v := 1) hx hb dX7_year_106 (by decide) ?_
              refine lv_iload hx hb dX7_year_107 (lv_at hl 2 rfl) ?_
              refine lv_bipush (v := 80) hx hb dX7_year_109 (by decide) ?_
              refine lv_idiv hx hb dX7_year_111 (by decide) ?_
              refine lv_bipush (v := 9) hx hb dX7_year_112 (by decide) ?_
              refine lv_irem hx hb dX7_year_114 (by decide) ?_
              refine lv_iadd hx hb dX7_year_115 ?_
              refine lv_imul hx hb dX7_year_116 ?_
              obtain ⟨v8_54, e_55, hF⟩ := q_bd_s hF
              refine gtop e_55 ?_
              refine lv_istore (lv' := [(8, .int v8_54), (7, .int v7_52), (6, .int r_40), (4, .int v4_38), (5, .int v5_12), (0, .ref qM), (2, .int a2), (3, .int a3)]) hx hb dX7_year_117 hl (by decide) rfl (fun ls hl => ?_)
              refine lv_aload_n hx hb dX7_year_119 rfl (lv_at hl 5 rfl) ?_
              refine lv_iload hx hb dX7_year_120 (lv_at hl 2 rfl) ?_
              refine lv_iload hx hb dX7_year_122 (lv_at hl 1 rfl) ?_
              obtain ⟨r_56, h_57, hF⟩ := q_cl_s hF
              refine gcV_i (As := [.int r_40, .int v7_52]) (rest := []) (ci := 7) (q := (RX7, TX7, 34)) F hK hN hP hD hS hA (m_X7_whyNot l g H.size qM AM σM_12 ℓM r_40 v7_52 r_56 h_57) gX7_year_X7_whyNot kX7_whyNot rfl rfl rfl rfl ⟨(Nat.le_of_ble_eq_true rfl), (Nat.le_of_ble_eq_true rfl)⟩ [0, 1, 2, 3, 4, 5, 6, 7, 8, 9, 10, 11, 12, 13, 14, 15, 16, 17, 18, 19, 20] [] rfl rfl rfl (by decide) rfl rfl rfl rfl rfl hl.1 (Nat.le_of_ble_eq_true rfl) dX7_year_124 ⟨(Nat.le_of_ble_eq_true rfl), (Nat.le_of_ble_eq_true rfl)⟩ (fun r_w u_w H locs hw hP hD hS => ?_)
              have hP : va_P g.1 vwCl (wX7 g qM AM σM_12 ℓM) H := hP
              have hD : va_D Z (wX7 g qM AM σM_12 ℓM) := hD
              obtain rfl : r_56 = r_w := hw.symm
              refine lv_if_ne (tgt := 140) hx hb dX7_year_127 (by decide) (fun c_58 => ?_) (fun c_58 => ?_)
              · have hF := q_if_f c_58 hF
                refine lv_iinc (v := v5_12 + 1) (lv' := [(5, .int (v5_12 + 1)), (8, .int v8_54), (7, .int v7_52), (6, .int r_40), (4, .int v4_38), (0, .ref qM), (2, .int a2), (3, .int a3)]) hx hb dX7_year_140 hl (k := 4) rfl rfl (by decide) rfl (fun ls hl => ?_)
                refine lv_goto (tgt := 49) hx hb dX7_year_143 (by decide) ?_
                exact ag (v5_12 + 1, v4_38, σM_12) hF _ _ _ hP hD hS (lv_sub hl [0, 4, 5, 6, 7] rfl)
              · have hF := q_if_t (by first | exact c_58 | exact Classical.not_not.mp c_58) hF
                refine lv_aload_n hx hb dX7_year_130 rfl (lv_at hl 5 rfl) ?_
                refine lv_iload hx hb dX7_year_131 (lv_at hl 2 rfl) ?_
                refine lv_iload hx hb dX7_year_133 (lv_at hl 1 rfl) ?_
                refine lv_iload hx hb dX7_year_135 (lv_at hl 0 rfl) ?_
                obtain ⟨σM_59, h_60, hF⟩ := q_cl_s hF
                refine gcV_v (As := [.int r_40, .int v7_52, .int v8_54]) (rest := []) (ci := 7) (q := (RX7, TX7, 34)) F hK hN hP hD hS hA (m_X7_happen l g H.size qM AM σM_12 ℓM r_40 v7_52 v8_54 σM_59 h_60) gX7_year_X7_happen kX7_happen rfl rfl rfl rfl ⟨(Nat.le_of_ble_eq_true rfl), (Nat.le_of_ble_eq_true rfl)⟩ [0, 1, 2, 3, 4, 5, 6, 7, 8, 9, 10, 11, 12, 13, 14, 15, 16, 17, 18, 19, 20] [] rfl rfl rfl (by decide) rfl rfl rfl rfl rfl hl.1 (Nat.le_of_ble_eq_true rfl) dX7_year_137 ⟨(Nat.le_of_ble_eq_true rfl), (Nat.le_of_ble_eq_true rfl)⟩ (fun u_w H locs hw hP hD hS => ?_)
                have hP : va_P g.1 vwCl (wX7 g qM AM σM_59 ℓM) H := hP
                have hD : va_D Z (wX7 g qM AM σM_59 ℓM) := hD
                refine lv_iinc (v := v5_12 + 1) (lv' := [(5, .int (v5_12 + 1)), (8, .int v8_54), (7, .int v7_52), (6, .int r_40), (4, .int v4_38), (0, .ref qM), (2, .int a2), (3, .int a3)]) hx hb dX7_year_140 hl (k := 4) rfl rfl (by decide) rfl (fun ls hl => ?_)
                refine lv_goto (tgt := 49) hx hb dX7_year_143 (by decide) ?_
                exact ag (v5_12 + 1, v4_38, σM_59) hF _ _ _ hP hD hS (lv_sub hl [0, 4, 5, 6, 7] rfl)
      · have hF := q_if_t (by first | exact c_9 | exact Classical.not_not.mp c_9) hF
        refine lv_bipush (v := (-2)) hx hb dX7_year_36 (by decide) ?_
        cases hF
        exact r_iret hx hb hr hlk hS () rfl hP hD dX7_year_38
set_option maxHeartbeats 4000000 in
set_option maxRecDepth 100000 in
theorem m_X7_pass (l : Launch) (g : GT) (sz : Nat) (qM : Nat) (AM : Nat → Nat) (σM : qS) (ℓM : qL) (a1 : Int32) (rr : Int32) (σM' : qS) (hF : f_X7_pass σM ℓM a1 = some (rr, σM')) : Ci l yX7_pass wsX7_pass { frames := 0, cells := 0, slots := 0, locals := 0 } g sz [.ref qM, .int a1] (wX7 g qM AM σM ℓM) rr (wX7 g qM AM σM' ℓM) := by
  refine gMet_i (cc := cX7_pass) (maxL := 3) (ret := (some .int)) (by decide) rfl (Nat.le_of_ble_eq_true rfl) ?_
  intro p e s m args below meth c Z hx hb hr F hlk hnm hK hN hA H locs hP hD hS ls hl
  have hl : lv_has ls 3 [(0, .ref qM), (1, .int a1)] := hl
  have F : CallFix p m c cX7_pass 3 s args wsX7_pass RX7 := F
  have hts := F.2.2.2.2
  have hown : s.vm.findClass RX7 = some m.cls := F.2.2.2.1
  have hi7 : ∀ w ∈ u_ws RX7 TX7 34, w ∈ wsX7_pass := by decide +kernel
  dsimp only [f_X7_pass] at hF
  refine lv_aload_n hx hb dX7_pass_0 rfl (lv_at hl 0 rfl) ?_
  refine va_get (D := g.1) (ci := 7) (v := .int (σM 99 33)) (C := RX7) (T := TX7) (N := 34) hx hb hts hi7 hown hK hP 0 rfl rfl 33 (by decide) (hts (.fieldLink RX7 291 "PanTalesModel" "isWriting" "Z") (by decide +kernel)) (fun _ h9 => h9) rfl dX7_pass_1 ?_
  refine lv_if_eq (tgt := 11) hx hb dX7_pass_4 (by decide) (fun c_1 => ?_) (fun c_1 => ?_)
  · have hF := q_if_t c_1 hF
    refine lv_aload_n hx hb dX7_pass_11 rfl (lv_at hl 0 rfl) ?_
    refine va_get (D := g.1) (ci := 7) (v := .ref (AM 30)) (C := RX7) (T := TX7) (N := 34) hx hb hts hi7 hown hK hP 0 rfl rfl 30 (by decide) (hts (.fieldLink RX7 66 "PanTalesModel" "kept" "[I") (by decide +kernel)) (fun _ h9 => h9) rfl dX7_pass_12 ?_
    refine lv_aload_n hx hb dX7_pass_15 rfl (lv_at hl 0 rfl) ?_
    refine va_get (D := g.1) (ci := 7) (v := .int (σM 99 32)) (C := RX7) (T := TX7) (N := 34) hx hb hts hi7 hown hK hP 0 rfl rfl 32 (by decide) (hts (.fieldLink RX7 295 "PanTalesModel" "keptAt" "I") (by decide +kernel)) (fun _ h9 => h9) rfl dX7_pass_16 ?_
    obtain ⟨r_2, i_3, e_4, hF⟩ := q_rd_s hF
    refine r_iald (v := r_2) hx hb hK hP 19 rfl i_3 e_4 dX7_pass_19 ?_
    refine lv_istore_n (lv' := [(2, .int r_2), (0, .ref qM), (1, .int a1)]) hx hb dX7_pass_20 rfl hl (by decide) rfl (fun ls hl => ?_)
    refine lv_aload_n hx hb dX7_pass_21 rfl (lv_at hl 1 rfl) ?_
    refine va_get (D := g.1) (ci := 7) (v := .ref (AM 30)) (C := RX7) (T := TX7) (N := 34) hx hb hts hi7 hown hK hP 0 rfl rfl 30 (by decide) (hts (.fieldLink RX7 66 "PanTalesModel" "kept" "[I") (by decide +kernel)) (fun _ h9 => h9) rfl dX7_pass_22 ?_
    refine lv_aload_n hx hb dX7_pass_25 rfl (lv_at hl 1 rfl) ?_
    refine va_get (D := g.1) (ci := 7) (v := .int (σM 99 32)) (C := RX7) (T := TX7) (N := 34) hx hb hts hi7 hown hK hP 0 rfl rfl 32 (by decide) (hts (.fieldLink RX7 295 "PanTalesModel" "keptAt" "I") (by decide +kernel)) (fun _ h9 => h9) rfl dX7_pass_26 ?_
    refine lv_iload_n hx hb dX7_pass_29 rfl (lv_at hl 0 rfl) ?_
    obtain ⟨σM_5, i_6, e_7, hF⟩ := q_wr_s hF
    refine r_iast (f' := upd (σM 30) (σM 99 32).toNatClampNeg r_2) hx hb hK hP hD hS 19 rfl i_6 (fun _ _ => rfl) dX7_pass_30 (fun H locs hP hD hS => ?_)
    have hP : va_P g.1 vwCl (wX7 g qM AM (q_up σM 30 (upd (σM 30) (σM 99 32).toNatClampNeg r_2)) ℓM) H := hP
    have hD : va_D Z (wX7 g qM AM (q_up σM 30 (upd (σM 30) (σM 99 32).toNatClampNeg r_2)) ℓM) := hD
    rw [e_7] at hP hD
    refine lv_aload_n hx hb dX7_pass_31 rfl (lv_at hl 1 rfl) ?_
    refine lv_dup hx hb dX7_pass_32 rfl ?_
    refine va_get (D := g.1) (ci := 7) (v := .int (σM_5 99 32)) (C := RX7) (T := TX7) (N := 34) hx hb hts hi7 hown hK hP 0 rfl rfl 32 (by decide) (hts (.fieldLink RX7 295 "PanTalesModel" "keptAt" "I") (by decide +kernel)) (fun _ h9 => h9) rfl dX7_pass_33 ?_
    refine lv_iconst (v := 1) hx hb dX7_pass_36 (by decide) ?_
    refine lv_iadd hx hb dX7_pass_37 ?_
    obtain ⟨σM_8, e_9, hF⟩ := q_bd_s hF
    refine va_put (D := g.1) (ci := 7) (v := .int ((σM_5 99 32) + 1)) (ty := .int) (C := RX7) (T := TX7) (N := 34) hx hb hts hi7 tyX7 tyX7_ok nmX7 hown hK hP hD hS 0 rfl rfl 32 (by decide) (hts (.fieldLink RX7 295 "PanTalesModel" "keptAt" "I") (by decide +kernel)) (fun _ h9 => h9) rfl (by decide +kernel) rfl rfl (Nat.le_of_ble_eq_true rfl) dX7_pass_38 (fun H locs hP hD hS => ?_)
    have hP : va_P g.1 vwCl (wX7 g qM AM (q_pt σM_5 32 ((σM_5 99 32) + 1)) ℓM) H := hP
    have hD : va_D Z (wX7 g qM AM (q_pt σM_5 32 ((σM_5 99 32) + 1)) ℓM) := hD
    rw [e_9] at hP hD
    refine lv_iload_n hx hb dX7_pass_41 rfl (lv_at hl 0 rfl) ?_
    cases hF
    exact r_iret hx hb hr hlk hS () rfl hP hD dX7_pass_42
  · have hF := q_if_f c_1 hF
    refine lv_iload_n hx hb dX7_pass_7 rfl (lv_at hl 1 rfl) ?_
    refine lv_goto (tgt := 20) hx hb dX7_pass_8 (by decide) ?_
    refine lv_istore_n (lv' := [(2, .int a1), (0, .ref qM), (1, .int a1)]) hx hb dX7_pass_20 rfl hl (by decide) rfl (fun ls hl => ?_)
    refine lv_aload_n hx hb dX7_pass_21 rfl (lv_at hl 1 rfl) ?_
    refine va_get (D := g.1) (ci := 7) (v := .ref (AM 30)) (C := RX7) (T := TX7) (N := 34) hx hb hts hi7 hown hK hP 0 rfl rfl 30 (by decide) (hts (.fieldLink RX7 66 "PanTalesModel" "kept" "[I") (by decide +kernel)) (fun _ h9 => h9) rfl dX7_pass_22 ?_
    refine lv_aload_n hx hb dX7_pass_25 rfl (lv_at hl 1 rfl) ?_
    refine va_get (D := g.1) (ci := 7) (v := .int (σM 99 32)) (C := RX7) (T := TX7) (N := 34) hx hb hts hi7 hown hK hP 0 rfl rfl 32 (by decide) (hts (.fieldLink RX7 295 "PanTalesModel" "keptAt" "I") (by decide +kernel)) (fun _ h9 => h9) rfl dX7_pass_26 ?_
    refine lv_iload_n hx hb dX7_pass_29 rfl (lv_at hl 0 rfl) ?_
    obtain ⟨σM_10, i_11, e_12, hF⟩ := q_wr_s hF
    refine r_iast (f' := upd (σM 30) (σM 99 32).toNatClampNeg a1) hx hb hK hP hD hS 19 rfl i_11 (fun _ _ => rfl) dX7_pass_30 (fun H locs hP hD hS => ?_)
    have hP : va_P g.1 vwCl (wX7 g qM AM (q_up σM 30 (upd (σM 30) (σM 99 32).toNatClampNeg a1)) ℓM) H := hP
    have hD : va_D Z (wX7 g qM AM (q_up σM 30 (upd (σM 30) (σM 99 32).toNatClampNeg a1)) ℓM) := hD
    rw [e_12] at hP hD
    refine lv_aload_n hx hb dX7_pass_31 rfl (lv_at hl 1 rfl) ?_
    refine lv_dup hx hb dX7_pass_32 rfl ?_
    refine va_get (D := g.1) (ci := 7) (v := .int (σM_10 99 32)) (C := RX7) (T := TX7) (N := 34) hx hb hts hi7 hown hK hP 0 rfl rfl 32 (by decide) (hts (.fieldLink RX7 295 "PanTalesModel" "keptAt" "I") (by decide +kernel)) (fun _ h9 => h9) rfl dX7_pass_33 ?_
    refine lv_iconst (v := 1) hx hb dX7_pass_36 (by decide) ?_
    refine lv_iadd hx hb dX7_pass_37 ?_
    obtain ⟨σM_13, e_14, hF⟩ := q_bd_s hF
    refine va_put (D := g.1) (ci := 7) (v := .int ((σM_10 99 32) + 1)) (ty := .int) (C := RX7) (T := TX7) (N := 34) hx hb hts hi7 tyX7 tyX7_ok nmX7 hown hK hP hD hS 0 rfl rfl 32 (by decide) (hts (.fieldLink RX7 295 "PanTalesModel" "keptAt" "I") (by decide +kernel)) (fun _ h9 => h9) rfl (by decide +kernel) rfl rfl (Nat.le_of_ble_eq_true rfl) dX7_pass_38 (fun H locs hP hD hS => ?_)
    have hP : va_P g.1 vwCl (wX7 g qM AM (q_pt σM_10 32 ((σM_10 99 32) + 1)) ℓM) H := hP
    have hD : va_D Z (wX7 g qM AM (q_pt σM_10 32 ((σM_10 99 32) + 1)) ℓM) := hD
    rw [e_14] at hP hD
    refine lv_iload_n hx hb dX7_pass_41 rfl (lv_at hl 0 rfl) ?_
    cases hF
    exact r_iret hx hb hr hlk hS () rfl hP hD dX7_pass_42

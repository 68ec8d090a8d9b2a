theorem kL_cell : YOk yL_cell 3 := by decide +kernel
set_option maxHeartbeats 4000000 in
set_option maxRecDepth 100000 in
theorem m_L_cell (l : Launch) (b L : Nat) (xs : Nat → Int32) (a1 a2 rr : Int32) (hF : f_L_cell L xs a1 a2 = some rr) : Cx l yL_cell wsL_cell { frames := 0, cells := 0, slots := 0, locals := 0 } [.ref b, .int a1, .int a2] b L xs rr := by
  refine gMet_x (cc := cL_cell) (maxL := 3) (ret := (some .int)) (by decide) rfl (Nat.le_of_ble_eq_true rfl) ?_
  intro p e s m args below meth c hx hb hr F hlk hX hbl ls hl
  have hl : lv_has ls 3 [(0, .ref b), (1, .int a1), (2, .int a2)] := hl
  have F : CallFix p m c cL_cell 3 s args wsL_cell RL := F
  have hts := F.2.2.2.2
  have hown : s.vm.findClass RL = some m.cls := F.2.2.2.1
  dsimp only [f_L_cell] at hF
  refine lv_aload_n hx hb dL_cell_0 rfl (lv_at hl 0 rfl) ?_
  refine va_slen hx hb hX hbl (A := fun _ => False) id va_S.rf dL_cell_1 ?_
  refine lv_if_ne (tgt := 14) hx hb dL_cell_2 (by decide) (fun c_1 => ?_) (fun c_1 => ?_)
  · have hF := q_if_f c_1 hF
    refine lv_aload_n hx hb dL_cell_14 rfl (lv_at hl 0 rfl) ?_
    refine lv_iload_n hx hb dL_cell_15 rfl (lv_at hl 1 rfl) ?_
    refine lv_aload_n hx hb dL_cell_16 rfl (lv_at hl 0 rfl) ?_
    refine va_slen hx hb hX hbl (A := fun _ => False) id va_S.rf dL_cell_17 ?_
    obtain ⟨n_2, hF⟩ := q_nz_s hF
    refine lv_irem hx hb dL_cell_18 n_2 ?_
    obtain ⟨r_3, i_4, e_5, hF⟩ := q_xs_s hF
    refine va_sld hx hb hX hbl (A := fun _ => False) id va_S.rf i_4 dL_cell_19 ?_
    refine gtop (y := r_3) e_5 ?_
    refine lv_iload_n hx hb dL_cell_20 rfl (lv_at hl 1 rfl) ?_
    refine lv_bipush (v := 7) hx hb dL_cell_21 (by decide) ?_
    refine lv_irem hx hb dL_cell_23 (by decide) ?_
    refine lv_ishr hx hb dL_cell_24 ?_
    refine lv_ldc (v := 4194303) hx hb hown (hts (.constant RL 7 (4194303)) (by decide +kernel)) dL_cell_25 ?_
    refine lv_iand hx hb dL_cell_27 ?_
    refine lv_iload_n hx hb dL_cell_28 rfl (lv_at hl 2 rfl) ?_
    obtain ⟨n_6, hF⟩ := q_nz_s hF
    refine lv_irem hx hb dL_cell_29 n_6 ?_
    cases hF
    exact r_pret hx hb hr hlk rfl dL_cell_30
  · have hF := q_if_t (by first | exact c_1 | exact Classical.not_not.mp c_1) hF
    refine lv_iload_n hx hb dL_cell_5 rfl (lv_at hl 1 rfl) ?_
    refine lv_bipush (v := 37) hx hb dL_cell_6 (by decide) ?_
    refine lv_imul hx hb dL_cell_8 ?_
    refine lv_iconst (v := 5) hx hb dL_cell_9 (by decide) ?_
    refine lv_iadd hx hb dL_cell_10 ?_
    refine lv_goto (tgt := 28) hx hb dL_cell_11 (by decide) ?_
    refine lv_iload_n hx hb dL_cell_28 rfl (lv_at hl 2 rfl) ?_
    obtain ⟨n_7, hF⟩ := q_nz_s hF
    refine lv_irem hx hb dL_cell_29 n_7 ?_
    cases hF
    exact r_pret hx hb hr hlk rfl dL_cell_30
theorem kL_has : YOk yL_has 2 := by decide +kernel
theorem kL_bits : YOk yL_bits 1 := by decide +kernel
set_option maxHeartbeats 4000000 in
set_option maxRecDepth 100000 in
theorem m_L_has (l : Launch) (a1 : Int32) (a2 : Int32) (rr : Int32) (hF : f_L_has a1 a2 = some rr) : Cp l yL_has wsL_has { frames := 0, cells := 0, slots := 0, locals := 0 } [.int a1, .int a2] rr := by
  refine gMet_p (cc := cL_has) (maxL := 2) (ret := (some .boolean)) (by decide) rfl (Nat.le_of_ble_eq_true rfl) ?_
  intro p e s m args below meth c hx hb hr F hlk ls hl
  have hl : lv_has ls 2 [(0, .int a1), (1, .int a2)] := hl
  have F : CallFix p m c cL_has 2 s args wsL_has RL := F
  have hts := F.2.2.2.2
  have hown : s.vm.findClass RL = some m.cls := F.2.2.2.1
  dsimp only [f_L_has] at hF
  refine lv_iload_n hx hb dL_has_0 rfl (lv_at hl 0 rfl) ?_
  refine lv_iload_n hx hb dL_has_1 rfl (lv_at hl 1 rfl) ?_
  refine lv_ishr hx hb dL_has_2 ?_
  refine lv_iconst (v := 1) hx hb dL_has_3 (by decide) ?_
  refine lv_iand hx hb dL_has_4 ?_
  refine lv_iconst (v := 1) hx hb dL_has_5 (by decide) ?_
  refine lv_icmp_ne (tgt := 13) hx hb dL_has_6 (by decide) (fun c_1 => ?_) (fun c_1 => ?_)
  · have hF := q_if_f c_1 hF
    refine lv_iconst (v := 0) hx hb dL_has_13 (by decide) ?_
    cases hF
    exact r_pzret hx hb hr hlk (by decide) rfl dL_has_14
  · have hF := q_if_t (by first | exact c_1 | exact Classical.not_not.mp c_1) hF
    refine lv_iconst (v := 1) hx hb dL_has_9 (by decide) ?_
    refine lv_goto (tgt := 14) hx hb dL_has_10 (by decide) ?_
    cases hF
    exact r_pzret hx hb hr hlk (by decide) rfl dL_has_14
set_option maxHeartbeats 4000000 in
set_option maxRecDepth 100000 in
theorem m_L_bits (l : Launch) (a1 : Int32) (rr : Int32) (hF : f_L_bits a1 = some rr) : Cp l yL_bits wsL_bits { frames := 0, cells := 0, slots := 0, locals := 0 } [.int a1] rr := by
  refine gMet_p (cc := cL_bits) (maxL := 3) (ret := (some .int)) (by decide) rfl (Nat.le_of_ble_eq_true rfl) ?_
  intro p e s m args below meth c hx hb hr F hlk ls hl
  have hl : lv_has ls 3 [(0, .int a1)] := hl
  have F : CallFix p m c cL_bits 3 s args wsL_bits RL := F
  have hts := F.2.2.2.2
  have hown : s.vm.findClass RL = some m.cls := F.2.2.2.1
  dsimp only [f_L_bits] at hF
  refine lv_iconst (v := 0) hx hb dL_bits_0 (by decide) ?_
  refine lv_istore_n (lv' := [(1, .int 0), (0, .int a1)]) hx hb dL_bits_1 rfl hl (by decide) rfl (fun ls hl => ?_)
  refine lv_iconst (v := 0) hx hb dL_bits_2 (by decide) ?_
  refine lv_istore_n (lv' := [(2, .int 0), (1, .int 0), (0, .int a1)]) hx hb dL_bits_3 rfl hl (by decide) rfl (fun ls hl => ?_)
  refine q_loopP (fun u0 => [(2, .int u0.1), (1, .int u0.2), (0, .int a1)]) 24 hF ?_ ?_ (lv_sub hl [0, 1, 2] rfl)
  · rintro ⟨v2_1, v1_1⟩ hF ls hl
    try dsimp only at hF
    have hl : lv_has ls 3 [(2, .int v2_1), (1, .int v1_1), (0, .int a1)] := hl
    refine lv_iload_n hx hb dL_bits_24 rfl (lv_at hl 1 rfl) ?_
    cases hF
    exact r_pret hx hb hr hlk rfl dL_bits_25
  · rintro k again kk ag ⟨v2_1, v1_1⟩ hF ls hl
    dsimp only [b_L_bits_4] at hF
    have hl : lv_has ls 3 [(2, .int v2_1), (1, .int v1_1), (0, .int a1)] := hl
    refine lv_iload_n hx hb dL_bits_4 rfl (lv_at hl 0 rfl) ?_
    refine lv_bipush (v := 12) hx hb dL_bits_5 (by decide) ?_
    refine lv_icmp_ge (tgt := 24) hx hb dL_bits_7 (by decide) (fun c_2 => ?_) (fun c_2 => ?_)
    · have hF := q_if_t c_2 hF
      exact kk (v2_1, v1_1) hF _ (lv_sub hl [0, 1, 2] rfl)
    · have hF := q_if_f c_2 hF
      refine lv_iload_n hx hb dL_bits_10 rfl (lv_at hl 1 rfl) ?_
      refine lv_iload_n hx hb dL_bits_11 rfl (lv_at hl 2 rfl) ?_
      refine lv_iload_n hx hb dL_bits_12 rfl (lv_at hl 0 rfl) ?_
      refine lv_ishr hx hb dL_bits_13 ?_
      refine lv_iconst (v := 1) hx hb dL_bits_14 (by decide) ?_
      refine lv_iand hx hb dL_bits_15 ?_
      refine lv_iadd hx hb dL_bits_16 ?_
      obtain ⟨v1_3, e_4, hF⟩ := q_bd_s hF
      refine gtop e_4 ?_
      refine lv_istore_n (lv' := [(1, .int v1_3), (2, .int v2_1), (0, .int a1)]) hx hb dL_bits_17 rfl hl (by decide) rfl (fun ls hl => ?_)
      refine lv_iinc (v := v2_1 + 1) (lv' := [(2, .int (v2_1 + 1)), (1, .int v1_3), (0, .int a1)]) hx hb dL_bits_18 hl (k := 1) rfl rfl (by decide) rfl (fun ls hl => ?_)
      refine lv_goto (tgt := 4) hx hb dL_bits_21 (by decide) ?_
      exact ag (v2_1 + 1, v1_3) hF _ (lv_sub hl [0, 1, 2] rfl)

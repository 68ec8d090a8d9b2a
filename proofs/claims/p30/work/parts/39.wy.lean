set_option maxHeartbeats 8000000 in
set_option maxRecDepth 100000 in
theorem gs_65 {p : Program} {l : Launch} {e : Env} {s : State} {m : MethodId} {below : List Frame} {meth : Method} {c : Code} {b : Nat} {g : GT} {Z : Nat → Prop} {H : Heap} {locs : List Loc} {ls : Array Slot} {qX : Nat} {AX AC AD AP AW AY AK : Nat → Nat} {L : Nat} {xs : Nat → Int32} {σC : qS} {σD : qS} {σP : qS} {σN : qS} {σW : qS} {σY : qS} {σK : qS} {ℓK : qL} {v2 : Int32}
    (hx : p.tables.exec = Jvm.exec) (hb : c.code = cL_law) (hr : meth.sig.returnType = ret) (hlocks : meth.locks = false) (F : CallFix p m c cL_law 30 s #[Value.ref b] wsL_law RL) (hK : va_K g.1 vwCl (tyL g) s) (hN : NW s) (hA : ∀ q : Nat, s.heap.size ≤ q → Z q) (hZ : Z = fun q => s.heap.size ≤ q) (hbA : ¬ Z b) (hX : va_X b L xs s s.heap) (hbl : b < s.heap.size) (hF : g_65 L xs σC σD σP σN σW σY σK ℓK v2 = some 1)
    (hP : va_P g.1 vwCl (wX6 qX AX ++ wX1 g (AX 0) AC σC ++ wX1 g (AX 1) AD σD ++ wX3 g (AX 3) AP σP ++ wX2 (AX 4) σN ++ wX5 g (AX 5) AW .null σW ++ wX4 g (AX 6) AY σY ++ wX0 g (AX 7) AK σK ℓK) H) (hD : va_D Z (wX6 qX AX ++ wX1 g (AX 0) AC σC ++ wX1 g (AX 1) AD σD ++ wX3 g (AX 3) AP σP ++ wX2 (AX 4) σN ++ wX5 g (AX 5) AW .null σW ++ wX4 g (AX 6) AY σY ++ wX0 g (AX 7) AK σK ℓK)) (hS : va_S Z s.heap H locs) (hl : lv_has ls 30 [(0, .ref b), (1, .ref qX), (2, .int v2)]) : W p l e room_1 s m #[Value.ref b] below meth c H locs 100 20000 (lw_Z below #[Value.ref b] s) (F0 m 65 ls []) := by
  have hts := F.2.2.2.2
  have hown : s.vm.findClass RL = some m.cls := F.2.2.2.1
  dsimp only [g_65] at hF
  refine lv_aload_n hx hb dL_law_65 rfl (lv_at hl 0 rfl) ?_
  refine lv_iconst (v := 1) hx hb dL_law_66 (by decide) ?_
  refine lv_bipush (v := 10) hx hb dL_law_67 (by decide) ?_
  obtain ⟨r_1, h_2, hF⟩ := q_cl_s hF
  refine gcX (As := [.ref b, .int 1, .int 10]) (rest := []) F hX hbl hbA hS (m_L_cell l b L xs (1 : Int32) (10 : Int32) r_1 h_2) gL_law_L_cell kL_cell rfl rfl rfl ⟨(Nat.le_of_ble_eq_true rfl), (Nat.le_of_ble_eq_true rfl)⟩ rfl rfl hl.1 (Nat.le_of_ble_eq_true rfl) dL_law_69 ⟨(Nat.le_of_ble_eq_true rfl), (Nat.le_of_ble_eq_true rfl)⟩ ?_
  refine lv_istore_n (lv' := [(3, .int r_1), (0, .ref b), (1, .ref qX), (2, .int v2)]) hx hb dL_law_72 rfl hl (by decide) rfl (fun ls hl => ?_)
  refine lv_iconst (v := 1) hx hb dL_law_73 (by decide) ?_
  refine lv_aload_n hx hb dL_law_74 rfl (lv_at hl 1 rfl) ?_
  refine lv_iconst (v := 2) hx hb dL_law_75 (by decide) ?_
  refine lv_bipush (v := 9) hx hb dL_law_76 (by decide) ?_
  obtain ⟨r_3, h_4, hF⟩ := q_cl_s hF
  refine gcX (As := [.ref b, .int 2, .int 9]) (rest := [.int 1]) F hX hbl hbA hS (m_L_cell l b L xs (2 : Int32) (9 : Int32) r_3 h_4) gL_law_L_cell kL_cell rfl rfl rfl ⟨(Nat.le_of_ble_eq_true rfl), (Nat.le_of_ble_eq_true rfl)⟩ rfl rfl hl.1 (Nat.le_of_ble_eq_true rfl) dL_law_78 ⟨(Nat.le_of_ble_eq_true rfl), (Nat.le_of_ble_eq_true rfl)⟩ ?_
  refine lv_iadd hx hb dL_law_81 ?_
  obtain ⟨v4_5, e_6, hF⟩ := q_bd_s hF
  refine gtop e_6 ?_
  refine lv_istore (lv' := [(4, .int v4_5), (3, .int r_1), (0, .ref b), (1, .ref qX), (2, .int v2)]) hx hb dL_law_82 hl (by decide) rfl (fun ls hl => ?_)
  refine lv_iconst (v := 3) hx hb dL_law_84 (by decide) ?_
  refine lv_istore (lv' := [(5, .int 3), (4, .int v4_5), (3, .int r_1), (0, .ref b), (1, .ref qX), (2, .int v2)]) hx hb dL_law_85 hl (by decide) rfl (fun ls hl => ?_)
  refine lv_bipush (v := 10) hx hb dL_law_87 (by decide) ?_
  refine lv_iload hx hb dL_law_89 (lv_at hl 1 rfl) ?_
  refine lv_imul hx hb dL_law_91 ?_
  obtain ⟨v6_7, e_8, hF⟩ := q_bd_s hF
  refine gtop e_8 ?_
  refine lv_istore (lv' := [(6, .int v6_7), (5, .int 3), (4, .int v4_5), (3, .int r_1), (0, .ref b), (1, .ref qX), (2, .int v2)]) hx hb dL_law_92 hl (by decide) rfl (fun ls hl => ?_)
  refine lv_iconst (v := 0) hx hb dL_law_94 (by decide) ?_
  refine lv_istore (lv' := [(7, .int 0), (6, .int v6_7), (5, .int 3), (4, .int v4_5), (3, .int r_1), (0, .ref b), (1, .ref qX), (2, .int v2)]) hx hb dL_law_95 hl (by decide) rfl (fun ls hl => ?_)
  refine lv_iconst (v := 1) hx hb dL_law_97 (by decide) ?_
  refine lv_istore (lv' := [(8, .int 1), (7, .int 0), (6, .int v6_7), (5, .int 3), (4, .int v4_5), (3, .int r_1), (0, .ref b), (1, .ref qX), (2, .int v2)]) hx hb dL_law_98 hl (by decide) rfl (fun ls hl => ?_)
  refine lv_aload_n hx hb dL_law_100 rfl (lv_at hl 7 rfl) ?_
  refine lv_bipush (v := 61) hx hb dL_law_101 (by decide) ?_
  obtain ⟨⟨r_9, σP_10⟩, h_11, hF⟩ := q_cl_s hF
  try dsimp only at hF
  refine gcV_i (As := [.int 61]) (rest := []) (ci := 6) (q := (RX6, TX6, 8)) F hK hN hP hD hS hA (m_X6_say l g H.size qX AX AP σP (61 : Int32) r_9 σP_10 h_11) gL_law_X6_say kX6_say rfl rfl rfl rfl ⟨(Nat.le_of_ble_eq_true rfl), (Nat.le_of_ble_eq_true rfl)⟩ [0, 17, 18] [1, 2, 3, 4, 5, 6, 7, 8, 9, 10, 11, 12, 13, 14, 15, 16, 19, 20, 21, 22, 23, 24, 25, 26, 27, 28, 29, 30] rfl rfl rfl (by decide) rfl rfl rfl rfl rfl hl.1 (Nat.le_of_ble_eq_true rfl) dL_law_103 ⟨(Nat.le_of_ble_eq_true rfl), (Nat.le_of_ble_eq_true rfl)⟩ (fun r_w u_w H locs hw hP hD hS => ?_)
  have hP : va_P g.1 vwCl ([((AX 0), .inr (1, oC AC (σC 99))), aI g (AC 0) 121 (σC 0), aI g (AC 1) 10 (σC 1), aI g (AC 2) 10 (σC 2), aI g (AC 3) 10 (σC 3), aI g (AC 4) 10 (σC 4), aI g (AC 5) 8 (σC 5), aI g (AC 6) 8 (σC 6), ((AX 1), .inr (1, oC AD (σD 99))), aI g (AD 0) 121 (σD 0), aI g (AD 1) 10 (σD 1), aI g (AD 2) 10 (σD 2), aI g (AD 3) 10 (σD 3), aI g (AD 4) 10 (σD 4), aI g (AD 5) 8 (σD 5), aI g (AD 6) 8 (σD 6), ((AX 4), .inr (2, oX2 (σN 99))), ((AX 5), .inr (5, oX5 AW .null)), aI g (AW 0) 121 (σW 0), aI g (AW 1) 11 (σW 1), ((AX 6), .inr (4, oX4 AY (σY 99))), aI g (AY 0) 410 (σY 0), aI g (AY 1) 50 (σY 1), aI g (AY 2) 10 (σY 2), ((AX 7), .inr (0, oX0 AK)), aJ g (AK 0) 11 (ℓK 0), aJ g (AK 1) 11 (ℓK 1), aI g (AK 2) 61 (σK 2), (qX, .inr (6, oX6 AX)), ((AX 3), .inr (3, oX3 AP (σP_10 99))), aI g (AP 0) 60 (σP_10 0)]) H := hP
  have hD : va_D Z ([((AX 0), .inr (1, oC AC (σC 99))), aI g (AC 0) 121 (σC 0), aI g (AC 1) 10 (σC 1), aI g (AC 2) 10 (σC 2), aI g (AC 3) 10 (σC 3), aI g (AC 4) 10 (σC 4), aI g (AC 5) 8 (σC 5), aI g (AC 6) 8 (σC 6), ((AX 1), .inr (1, oC AD (σD 99))), aI g (AD 0) 121 (σD 0), aI g (AD 1) 10 (σD 1), aI g (AD 2) 10 (σD 2), aI g (AD 3) 10 (σD 3), aI g (AD 4) 10 (σD 4), aI g (AD 5) 8 (σD 5), aI g (AD 6) 8 (σD 6), ((AX 4), .inr (2, oX2 (σN 99))), ((AX 5), .inr (5, oX5 AW .null)), aI g (AW 0) 121 (σW 0), aI g (AW 1) 11 (σW 1), ((AX 6), .inr (4, oX4 AY (σY 99))), aI g (AY 0) 410 (σY 0), aI g (AY 1) 50 (σY 1), aI g (AY 2) 10 (σY 2), ((AX 7), .inr (0, oX0 AK)), aJ g (AK 0) 11 (ℓK 0), aJ g (AK 1) 11 (ℓK 1), aI g (AK 2) 61 (σK 2), (qX, .inr (6, oX6 AX)), ((AX 3), .inr (3, oX3 AP (σP_10 99))), aI g (AP 0) 60 (σP_10 0)]) := hD
  have hP : va_P g.1 vwCl (wX6 qX AX ++ wX1 g (AX 0) AC σC ++ wX1 g (AX 1) AD σD ++ wX3 g (AX 3) AP σP_10 ++ wX2 (AX 4) σN ++ wX5 g (AX 5) AW .null σW ++ wX4 g (AX 6) AY σY ++ wX0 g (AX 7) AK σK ℓK) H := hP.sub [28, 0, 1, 2, 3, 4, 5, 6, 7, 8, 9, 10, 11, 12, 13, 14, 15, 29, 30, 16, 17, 18, 19, 20, 21, 22, 23, 24, 25, 26, 27] rfl
  have hD : va_D Z (wX6 qX AX ++ wX1 g (AX 0) AC σC ++ wX1 g (AX 1) AD σD ++ wX3 g (AX 3) AP σP_10 ++ wX2 (AX 4) σN ++ wX5 g (AX 5) AW .null σW ++ wX4 g (AX 6) AY σY ++ wX0 g (AX 7) AK σK ℓK) := hD.sub [28, 0, 1, 2, 3, 4, 5, 6, 7, 8, 9, 10, 11, 12, 13, 14, 15, 29, 30, 16, 17, 18, 19, 20, 21, 22, 23, 24, 25, 26, 27] (by decide) rfl
  obtain rfl : r_9 = r_w := hw.symm
  refine lv_iconst (v := 1) hx hb dL_law_106 (by decide) ?_
  refine lv_icmp_ne (tgt := 135) hx hb dL_law_107 (by decide) (fun c_13 => ?_) (fun c_13 => ?_)
  · have hF := q_if_f c_13 hF
    refine lv_iconst (v := 0) hx hb dL_law_135 (by decide) ?_
    exact absurd hF (by decide)
  · have hF := q_if_t (by first | exact c_13 | exact Classical.not_not.mp c_13) hF
    refine lv_aload_n hx hb dL_law_110 rfl (lv_at hl 7 rfl) ?_
    refine lv_bipush (v := 48) hx hb dL_law_111 (by decide) ?_
    refine lv_iload_n hx hb dL_law_113 rfl (lv_at hl 5 rfl) ?_
    refine lv_iadd hx hb dL_law_114 ?_
    obtain ⟨⟨r_14, σP_15⟩, h_16, hF⟩ := q_cl_s hF
    try dsimp only at hF
    refine gcV_i (As := [.int ((48 : Int32) + r_1)]) (rest := []) (ci := 6) (q := (RX6, TX6, 8)) F hK hN hP hD hS hA (m_X6_say l g H.size qX AX AP σP_10 ((48 : Int32) + r_1) r_14 σP_15 h_16) gL_law_X6_say kX6_say rfl rfl rfl rfl ⟨(Nat.le_of_ble_eq_true rfl), (Nat.le_of_ble_eq_true rfl)⟩ [0, 17, 18] [1, 2, 3, 4, 5, 6, 7, 8, 9, 10, 11, 12, 13, 14, 15, 16, 19, 20, 21, 22, 23, 24, 25, 26, 27, 28, 29, 30] rfl rfl rfl (by decide) rfl rfl rfl rfl rfl hl.1 (Nat.le_of_ble_eq_true rfl) dL_law_115 ⟨(Nat.le_of_ble_eq_true rfl), (Nat.le_of_ble_eq_true rfl)⟩ (fun r_w u_w H locs hw hP hD hS => ?_)
    have hP : va_P g.1 vwCl ([((AX 0), .inr (1, oC AC (σC 99))), aI g (AC 0) 121 (σC 0), aI g (AC 1) 10 (σC 1), aI g (AC 2) 10 (σC 2), aI g (AC 3) 10 (σC 3), aI g (AC 4) 10 (σC 4), aI g (AC 5) 8 (σC 5), aI g (AC 6) 8 (σC 6), ((AX 1), .inr (1, oC AD (σD 99))), aI g (AD 0) 121 (σD 0), aI g (AD 1) 10 (σD 1), aI g (AD 2) 10 (σD 2), aI g (AD 3) 10 (σD 3), aI g (AD 4) 10 (σD 4), aI g (AD 5) 8 (σD 5), aI g (AD 6) 8 (σD 6), ((AX 4), .inr (2, oX2 (σN 99))), ((AX 5), .inr (5, oX5 AW .null)), aI g (AW 0) 121 (σW 0), aI g (AW 1) 11 (σW 1), ((AX 6), .inr (4, oX4 AY (σY 99))), aI g (AY 0) 410 (σY 0), aI g (AY 1) 50 (σY 1), aI g (AY 2) 10 (σY 2), ((AX 7), .inr (0, oX0 AK)), aJ g (AK 0) 11 (ℓK 0), aJ g (AK 1) 11 (ℓK 1), aI g (AK 2) 61 (σK 2), (qX, .inr (6, oX6 AX)), ((AX 3), .inr (3, oX3 AP (σP_15 99))), aI g (AP 0) 60 (σP_15 0)]) H := hP
    have hD : va_D Z ([((AX 0), .inr (1, oC AC (σC 99))), aI g (AC 0) 121 (σC 0), aI g (AC 1) 10 (σC 1), aI g (AC 2) 10 (σC 2), aI g (AC 3) 10 (σC 3), aI g (AC 4) 10 (σC 4), aI g (AC 5) 8 (σC 5), aI g (AC 6) 8 (σC 6), ((AX 1), .inr (1, oC AD (σD 99))), aI g (AD 0) 121 (σD 0), aI g (AD 1) 10 (σD 1), aI g (AD 2) 10 (σD 2), aI g (AD 3) 10 (σD 3), aI g (AD 4) 10 (σD 4), aI g (AD 5) 8 (σD 5), aI g (AD 6) 8 (σD 6), ((AX 4), .inr (2, oX2 (σN 99))), ((AX 5), .inr (5, oX5 AW .null)), aI g (AW 0) 121 (σW 0), aI g (AW 1) 11 (σW 1), ((AX 6), .inr (4, oX4 AY (σY 99))), aI g (AY 0) 410 (σY 0), aI g (AY 1) 50 (σY 1), aI g (AY 2) 10 (σY 2), ((AX 7), .inr (0, oX0 AK)), aJ g (AK 0) 11 (ℓK 0), aJ g (AK 1) 11 (ℓK 1), aI g (AK 2) 61 (σK 2), (qX, .inr (6, oX6 AX)), ((AX 3), .inr (3, oX3 AP (σP_15 99))), aI g (AP 0) 60 (σP_15 0)]) := hD
    have hP : va_P g.1 vwCl (wX6 qX AX ++ wX1 g (AX 0) AC σC ++ wX1 g (AX 1) AD σD ++ wX3 g (AX 3) AP σP_15 ++ wX2 (AX 4) σN ++ wX5 g (AX 5) AW .null σW ++ wX4 g (AX 6) AY σY ++ wX0 g (AX 7) AK σK ℓK) H := hP.sub [28, 0, 1, 2, 3, 4, 5, 6, 7, 8, 9, 10, 11, 12, 13, 14, 15, 29, 30, 16, 17, 18, 19, 20, 21, 22, 23, 24, 25, 26, 27] rfl
    have hD : va_D Z (wX6 qX AX ++ wX1 g (AX 0) AC σC ++ wX1 g (AX 1) AD σD ++ wX3 g (AX 3) AP σP_15 ++ wX2 (AX 4) σN ++ wX5 g (AX 5) AW .null σW ++ wX4 g (AX 6) AY σY ++ wX0 g (AX 7) AK σK ℓK) := hD.sub [28, 0, 1, 2, 3, 4, 5, 6, 7, 8, 9, 10, 11, 12, 13, 14, 15, 29, 30, 16, 17, 18, 19, 20, 21, 22, 23, 24, 25, 26, 27] (by decide) rfl
    obtain rfl : r_14 = r_w := hw.symm
    refine lv_iconst (v := 2) hx hb dL_law_118 (by decide) ?_
    refine lv_icmp_ne (tgt := 135) hx hb dL_law_119 (by decide) (fun c_18 => ?_) (fun c_18 => ?_)
    · have hF := q_if_f c_18 hF
      refine lv_iconst (v := 0) hx hb dL_law_135 (by decide) ?_
      exact absurd hF (by decide)
    · have hF := q_if_t (by first | exact c_18 | exact Classical.not_not.mp c_18) hF
      refine lv_aload_n hx hb dL_law_122 rfl (lv_at hl 7 rfl) ?_
      refine lv_bipush (v := 48) hx hb dL_law_123 (by decide) ?_
      refine lv_iload hx hb dL_law_125 (lv_at hl 4 rfl) ?_
      refine lv_iadd hx hb dL_law_127 ?_
      obtain ⟨⟨r_19, σP_20⟩, h_21, hF⟩ := q_cl_s hF
      try dsimp only at hF
      refine gcV_i (As := [.int ((48 : Int32) + v4_5)]) (rest := []) (ci := 6) (q := (RX6, TX6, 8)) F hK hN hP hD hS hA (m_X6_say l g H.size qX AX AP σP_15 ((48 : Int32) + v4_5) r_19 σP_20 h_21) gL_law_X6_say kX6_say rfl rfl rfl rfl ⟨(Nat.le_of_ble_eq_true rfl), (Nat.le_of_ble_eq_true rfl)⟩ [0, 17, 18] [1, 2, 3, 4, 5, 6, 7, 8, 9, 10, 11, 12, 13, 14, 15, 16, 19, 20, 21, 22, 23, 24, 25, 26, 27, 28, 29, 30] rfl rfl rfl (by decide) rfl rfl rfl rfl rfl hl.1 (Nat.le_of_ble_eq_true rfl) dL_law_128 ⟨(Nat.le_of_ble_eq_true rfl), (Nat.le_of_ble_eq_true rfl)⟩ (fun r_w u_w H locs hw hP hD hS => ?_)
      have hP : va_P g.1 vwCl ([((AX 0), .inr (1, oC AC (σC 99))), aI g (AC 0) 121 (σC 0), aI g (AC 1) 10 (σC 1), aI g (AC 2) 10 (σC 2), aI g (AC 3) 10 (σC 3), aI g (AC 4) 10 (σC 4), aI g (AC 5) 8 (σC 5), aI g (AC 6) 8 (σC 6), ((AX 1), .inr (1, oC AD (σD 99))), aI g (AD 0) 121 (σD 0), aI g (AD 1) 10 (σD 1), aI g (AD 2) 10 (σD 2), aI g (AD 3) 10 (σD 3), aI g (AD 4) 10 (σD 4), aI g (AD 5) 8 (σD 5), aI g (AD 6) 8 (σD 6), ((AX 4), .inr (2, oX2 (σN 99))), ((AX 5), .inr (5, oX5 AW .null)), aI g (AW 0) 121 (σW 0), aI g (AW 1) 11 (σW 1), ((AX 6), .inr (4, oX4 AY (σY 99))), aI g (AY 0) 410 (σY 0), aI g (AY 1) 50 (σY 1), aI g (AY 2) 10 (σY 2), ((AX 7), .inr (0, oX0 AK)), aJ g (AK 0) 11 (ℓK 0), aJ g (AK 1) 11 (ℓK 1), aI g (AK 2) 61 (σK 2), (qX, .inr (6, oX6 AX)), ((AX 3), .inr (3, oX3 AP (σP_20 99))), aI g (AP 0) 60 (σP_20 0)]) H := hP
      have hD : va_D Z ([((AX 0), .inr (1, oC AC (σC 99))), aI g (AC 0) 121 (σC 0), aI g (AC 1) 10 (σC 1), aI g (AC 2) 10 (σC 2), aI g (AC 3) 10 (σC 3), aI g (AC 4) 10 (σC 4), aI g (AC 5) 8 (σC 5), aI g (AC 6) 8 (σC 6), ((AX 1), .inr (1, oC AD (σD 99))), aI g (AD 0) 121 (σD 0), aI g (AD 1) 10 (σD 1), aI g (AD 2) 10 (σD 2), aI g (AD 3) 10 (σD 3), aI g (AD 4) 10 (σD 4), aI g (AD 5) 8 (σD 5), aI g (AD 6) 8 (σD 6), ((AX 4), .inr (2, oX2 (σN 99))), ((AX 5), .inr (5, oX5 AW .null)), aI g (AW 0) 121 (σW 0), aI g (AW 1) 11 (σW 1), ((AX 6), .inr (4, oX4 AY (σY 99))), aI g (AY 0) 410 (σY 0), aI g (AY 1) 50 (σY 1), aI g (AY 2) 10 (σY 2), ((AX 7), .inr (0, oX0 AK)), aJ g (AK 0) 11 (ℓK 0), aJ g (AK 1) 11 (ℓK 1), aI g (AK 2) 61 (σK 2), (qX, .inr (6, oX6 AX)), ((AX 3), .inr (3, oX3 AP (σP_20 99))), aI g (AP 0) 60 (σP_20 0)]) := hD
      have hP : va_P g.1 vwCl (wX6 qX AX ++ wX1 g (AX 0) AC σC ++ wX1 g (AX 1) AD σD ++ wX3 g (AX 3) AP σP_20 ++ wX2 (AX 4) σN ++ wX5 g (AX 5) AW .null σW ++ wX4 g (AX 6) AY σY ++ wX0 g (AX 7) AK σK ℓK) H := hP.sub [28, 0, 1, 2, 3, 4, 5, 6, 7, 8, 9, 10, 11, 12, 13, 14, 15, 29, 30, 16, 17, 18, 19, 20, 21, 22, 23, 24, 25, 26, 27] rfl
      have hD : va_D Z (wX6 qX AX ++ wX1 g (AX 0) AC σC ++ wX1 g (AX 1) AD σD ++ wX3 g (AX 3) AP σP_20 ++ wX2 (AX 4) σN ++ wX5 g (AX 5) AW .null σW ++ wX4 g (AX 6) AY σY ++ wX0 g (AX 7) AK σK ℓK) := hD.sub [28, 0, 1, 2, 3, 4, 5, 6, 7, 8, 9, 10, 11, 12, 13, 14, 15, 29, 30, 16, 17, 18, 19, 20, 21, 22, 23, 24, 25, 26, 27] (by decide) rfl
      obtain rfl : r_19 = r_w := hw.symm
      refine lv_iconst (v := 3) hx hb dL_law_131 (by decide) ?_
      refine lv_icmp_eq (tgt := 137) hx hb dL_law_132 (by decide) (fun c_23 => ?_) (fun c_23 => ?_)
      · have hF := q_if_t c_23 hF
        exact gs_137 hx hb hr hlocks F hK hN hA hZ hbA hX hbl hF hP hD hS (lv_sub hl [6, 7, 8, 5, 4, 3, 2, 1, 0] rfl)
      · have hF := q_if_f c_23 hF
        refine lv_iconst (v := 0) hx hb dL_law_135 (by decide) ?_
        exact absurd hF (by decide)

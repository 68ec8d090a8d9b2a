theorem kX5_init : YOk yX5_init 0 := by decide +kernel
theorem kX5_leastWay : YOk yX5_leastWay 2 := by decide +kernel
theorem kX5_shortenPast : YOk yX5_shortenPast 2 := by decide +kernel
theorem kX5_measure : YOk yX5_measure 1 := by decide +kernel
theorem kX5_howFar : YOk yX5_howFar 2 := by decide +kernel
theorem kX5_nextPlace : YOk yX5_nextPlace 3 := by decide +kernel
theorem kX5_findNeighbours : YOk yX5_findNeighbours 1 := by decide +kernel
theorem kX5_leadsTo : YOk yX5_leadsTo 2 := by decide +kernel
set_option maxHeartbeats 4000000 in
set_option maxRecDepth 100000 in
theorem c_X5_init (l : Launch) (g : GT) (sz : Nat) (hζ : Nat) : Mv (S := Nat → Nat) l yX5_init wsX5_init { frames := 1, cells := 2, slots := 132, locals := 40 } g sz [.ref hζ] [(hζ, .inr (5, [.null, .null, .null]))] 2 132 (fun _ => True) (fun Gζ => [(hζ, .inr (5, [.ref (Gζ 0), .ref (Gζ 1), .null])), aI g (Gζ 0) 121 (fun _ => 0), aI g (Gζ 1) 11 (fun _ => 0)]) := by
  refine gMet_v (cc := cX5_init) (maxL := 1) (ret := none) (by decide) rfl (Nat.le_of_ble_eq_true rfl) ?_
  intro p e s m args below meth c Z hx hb hr F hlk hnm hK hN hA H locs hP hD hS ls hl
  have hl : lv_has ls 1 [(0, .ref hζ)] := hl
  have F : CallFix p m c cX5_init 1 s args wsX5_init RX5 := F
  have hts := F.2.2.2.2
  have hown : s.vm.findClass RX5 = some m.cls := F.2.2.2.1
  have hi5 : ∀ w ∈ u_ws RX5 TX5 3, w ∈ wsX5_init := by decide +kernel
  refine lv_aload_n hx hb dX5_init_0 rfl (lv_at hl 0 rfl) ?_
  refine W.objInit hx hb hown (hts (.methodLink RX5 3 objectInit) (by decide +kernel)) (hts (.instanceMethod objectInit) (by decide +kernel)) (hts (.code objectInit ⟨#[0xb1]⟩ 1 none) (by decide +kernel)) rfl (by rw [F.2.2.1]; exact hl.1) rfl dX5_init_1 (Nat.le_of_ble_eq_true rfl) (Nat.le_of_ble_eq_true rfl) ?_
  refine W.eq (g2 := F0 m 4 ls []) rfl ?_
  refine lv_aload_n hx hb dX5_init_4 rfl (lv_at hl 0 rfl) ?_
  refine lv_bipush (v := 121) hx hb dX5_init_5 (by decide) ?_
  refine r_newI (N' := 121) hx hb (hts (.arrayClass .int) (by decide +kernel)) hK hP hD hS hA (by decide) (nI_clamp (n := 121) (by decide)) (Nat.le_of_ble_eq_true rfl) (Nat.le_of_ble_eq_true rfl) (Nat.le_of_ble_eq_true rfl) dX5_init_7 (fun q_1 H hP hD hS => ?_)
  have hP : va_P g.1 vwCl [(hζ, .inr (5, [.null, .null, .null])), aI g q_1 121 (fun _ => 0)] H := hP
  have hD : va_D Z [(hζ, .inr (5, [.null, .null, .null])), aI g q_1 121 (fun _ => 0)] := hD
  refine W.widen (k := 1) (n := 121) (by decide) (by decide) ?_
  refine va_putF (D := g.1) (ci := 5) (v := .ref q_1) (ty := (.array .int)) (C := RX5) (T := TX5) (N := 3) hx hb hts hi5 tyX5 tyX5_ok nmX5 hown hK hP hD hS 0 rfl rfl 0 (by decide) (hts (.fieldLink RX5 9 "PanTales$Ways" "least" "[I") (by decide +kernel)) (fun _ h9 => h9) rfl hnm rfl (by decide +kernel) rfl rfl (Nat.le_of_ble_eq_true rfl) dX5_init_9 (fun H locs hP hD hS => ?_)
  have hP : va_P g.1 vwCl [(hζ, .inr (5, [.ref q_1, .null, .null])), aI g q_1 121 (fun _ => 0)] H := hP
  have hD : va_D Z [(hζ, .inr (5, [.ref q_1, .null, .null])), aI g q_1 121 (fun _ => 0)] := hD
  refine lv_aload_n hx hb dX5_init_12 rfl (lv_at hl 0 rfl) ?_
  refine lv_bipush (v := 11) hx hb dX5_init_13 (by decide) ?_
  refine r_newI (N' := 11) hx hb (hts (.arrayClass .int) (by decide +kernel)) hK hP hD hS hA (by decide) (nI_clamp (n := 11) (by decide)) (Nat.le_of_ble_eq_true rfl) (Nat.le_of_ble_eq_true rfl) (Nat.le_of_ble_eq_true rfl) dX5_init_15 (fun q_2 H hP hD hS => ?_)
  have hP : va_P g.1 vwCl [(hζ, .inr (5, [.ref q_1, .null, .null])), aI g q_1 121 (fun _ => 0), aI g q_2 11 (fun _ => 0)] H := hP
  have hD : va_D Z [(hζ, .inr (5, [.ref q_1, .null, .null])), aI g q_1 121 (fun _ => 0), aI g q_2 11 (fun _ => 0)] := hD
  refine W.widen (k := 2) (n := 132) (by decide) (by decide) ?_
  refine va_putF (D := g.1) (ci := 5) (v := .ref q_2) (ty := (.array .int)) (C := RX5) (T := TX5) (N := 3) hx hb hts hi5 tyX5 tyX5_ok nmX5 hown hK hP hD hS 0 rfl rfl 1 (by decide) (hts (.fieldLink RX5 15 "PanTales$Ways" "neighbours" "[I") (by decide +kernel)) (fun _ h9 => h9) rfl hnm rfl (by decide +kernel) rfl rfl (Nat.le_of_ble_eq_true rfl) dX5_init_17 (fun H locs hP hD hS => ?_)
  have hP : va_P g.1 vwCl [(hζ, .inr (5, [.ref q_1, .ref q_2, .null])), aI g q_1 121 (fun _ => 0), aI g q_2 11 (fun _ => 0)] H := hP
  have hD : va_D Z [(hζ, .inr (5, [.ref q_1, .ref q_2, .null])), aI g q_1 121 (fun _ => 0), aI g q_2 11 (fun _ => 0)] := hD
  exact r_vret hx hb hr hlk hS (mkA [q_1, q_2]) trivial (hP.sub [0, 1, 2] rfl) (hD.sub [0, 1, 2] (by decide) rfl) dX5_init_20
set_option maxHeartbeats 4000000 in
set_option maxRecDepth 100000 in
theorem c_X5_leastWay (l : Launch) (g : GT) (sz : Nat) (hζ : Nat) (Gζ : Nat → Nat) (hvζ : Value) (fζ : Nat → Int32) (iζ jζ : Nat) (hiζ : iζ < 11) (hjζ : jζ < 11) : Ci l yX5_leastWay wsX5_leastWay { frames := 1, cells := 0, slots := 0, locals := 20 } g sz [.ref hζ, .int (nI iζ), .int (nI jζ)] [(hζ, .inr (5, [.ref (Gζ 0), .ref (Gζ 1), hvζ])), aI g (Gζ 0) 121 fζ] (fζ (iζ * 11 + jζ)) [(hζ, .inr (5, [.ref (Gζ 0), .ref (Gζ 1), hvζ])), aI g (Gζ 0) 121 fζ] := by
  refine gMet_i (cc := cX5_leastWay) (maxL := 3) (ret := (some .int)) (by decide) rfl (Nat.le_of_ble_eq_true rfl) ?_
  intro p e s m args below meth c Z hx hb hr F hlk hnm hK hN hA H locs hP hD hS ls hl
  have hl : lv_has ls 3 [(0, .ref hζ), (1, .int (nI iζ)), (2, .int (nI jζ))] := hl
  have F : CallFix p m c cX5_leastWay 3 s args wsX5_leastWay RX5 := F
  have hts := F.2.2.2.2
  have hown : s.vm.findClass RX5 = some m.cls := F.2.2.2.1
  have hi5 : ∀ w ∈ u_ws RX5 TX5 3, w ∈ wsX5_leastWay := by decide +kernel
  refine lv_iload_n hx hb dX5_leastWay_0 rfl (lv_at hl 1 rfl) ?_
  refine gcPN (As := [.int (nI iζ)]) (rest := []) F (c_X6_isPlace l (nI iζ)) gX5_leastWay_X6_isPlace_n31 kX6_isPlace (hts (.initialized RX6) (by decide +kernel)) (hN.get 9 rfl) (hts (.static yX6_isPlace) (by decide +kernel)) rfl rfl rfl ⟨(Nat.le_of_ble_eq_true rfl), (Nat.le_of_ble_eq_true rfl)⟩ rfl rfl hl.1 (Nat.le_of_ble_eq_true rfl) dX5_leastWay_1 ⟨(Nat.le_of_ble_eq_true rfl), (Nat.le_of_ble_eq_true rfl)⟩ ?_
  refine lv_if_eq (tgt := 28) hx hb dX5_leastWay_4 (by decide) (fun c_1 => ?_) (fun c_1 => ?_)
  · exact absurd (bI_0 c_1) (by rw [nI_pB hiζ]; decide)
  · have c_1 : inB (nI iζ) 0 10 = true := bI_1 c_1
    refine lv_iload_n hx hb dX5_leastWay_7 rfl (lv_at hl 2 rfl) ?_
    refine gcPN (As := [.int (nI jζ)]) (rest := []) F (c_X6_isPlace l (nI jζ)) gX5_leastWay_X6_isPlace_n31 kX6_isPlace (hts (.initialized RX6) (by decide +kernel)) (hN.get 9 rfl) (hts (.static yX6_isPlace) (by decide +kernel)) rfl rfl rfl ⟨(Nat.le_of_ble_eq_true rfl), (Nat.le_of_ble_eq_true rfl)⟩ rfl rfl hl.1 (Nat.le_of_ble_eq_true rfl) dX5_leastWay_8 ⟨(Nat.le_of_ble_eq_true rfl), (Nat.le_of_ble_eq_true rfl)⟩ ?_
    refine lv_if_eq (tgt := 28) hx hb dX5_leastWay_11 (by decide) (fun c_2 => ?_) (fun c_2 => ?_)
    · exact absurd (bI_0 c_2) (by rw [nI_pB hjζ]; decide)
    · have c_2 : inB (nI jζ) 0 10 = true := bI_1 c_2
      refine lv_aload_n hx hb dX5_leastWay_14 rfl (lv_at hl 0 rfl) ?_
      refine va_get (D := g.1) (ci := 5) (v := .ref (Gζ 0)) (C := RX5) (T := TX5) (N := 3) hx hb hts hi5 hown hK hP 0 rfl rfl 0 (by decide) (hts (.fieldLink RX5 9 "PanTales$Ways" "least" "[I") (by decide +kernel)) (fun _ h9 => h9) rfl dX5_leastWay_15 ?_
      refine lv_iload_n hx hb dX5_leastWay_18 rfl (lv_at hl 1 rfl) ?_
      refine lv_bipush (v := 11) hx hb dX5_leastWay_19 (by decide) ?_
      refine lv_imul hx hb dX5_leastWay_21 ?_
      refine gtop (y := nI (iζ * 11)) (pk_mul iζ 11) ?_
      refine lv_iload_n hx hb dX5_leastWay_22 rfl (lv_at hl 2 rfl) ?_
      refine lv_iadd hx hb dX5_leastWay_23 ?_
      refine gtop (y := nI ((iζ * 11) + jζ)) (nI_add (iζ * 11) jζ) ?_
      refine r_iald (v := fζ ((iζ * 11) + jζ)) hx hb hK hP 1 rfl (vp_in_nI (n := (iζ * 11) + jζ) (by omega) (by omega)) (congrArg fζ (nI_clamp (n := (iζ * 11) + jζ) (by omega))) dX5_leastWay_24 ?_
      refine lv_goto (tgt := 31) hx hb dX5_leastWay_25 (by decide) ?_
      exact r_iret hx hb hr hlk hS () rfl (hP.sub [0, 1] rfl) (hD.sub [0, 1] (by decide) rfl) dX5_leastWay_31
set_option maxHeartbeats 4000000 in
set_option maxRecDepth 100000 in
theorem c_X5_shortenPast (l : Launch) (g : GT) (sz : Nat) (hζ : Nat) (Gζ : Nat → Nat) (iζ jζ : Nat) (hiζ : iζ < 11) (hjζ : jζ < 11) : Cv l yX5_shortenPast wsX5_shortenPast { frames := 2, cells := 0, slots := 0, locals := 42 } g sz [.ref hζ, .int (nI iζ), .int (nI jζ)] [(hζ, .inr (5, [.ref (Gζ 0), .ref (Gζ 1), .null])), aI g (Gζ 0) 121 lsF] [(hζ, .inr (5, [.ref (Gζ 0), .ref (Gζ 1), .null])), aI g (Gζ 0) 121 lsF] := by
  refine gMet_v (cc := cX5_shortenPast) (maxL := 5) (ret := none) (by decide) rfl (Nat.le_of_ble_eq_true rfl) ?_
  intro p e s m args below meth c Z hx hb hr F hlk hnm hK hN hA H locs hP hD hS ls hl
  have hl : lv_has ls 5 [(0, .ref hζ), (1, .int (nI iζ)), (2, .int (nI jζ))] := hl
  have F : CallFix p m c cX5_shortenPast 5 s args wsX5_shortenPast RX5 := F
  have hts := F.2.2.2.2
  have hown : s.vm.findClass RX5 = some m.cls := F.2.2.2.1
  refine lv_iconst (v := 0) hx hb dX5_shortenPast_0 (by decide) ?_
  refine lv_istore_n (lv' := [(3, .int 0), (0, .ref hζ), (1, .int (nI iζ)), (2, .int (nI jζ))]) hx hb dX5_shortenPast_1 rfl hl (by decide) rfl (fun ls hl => ?_)
  refine gloop (σ := Nat) (fun u0 => 11 - u0) (fun u0 => u0 ≤ 11) (fun u0 => [(hζ, .inr (5, [.ref (Gζ 0), .ref (Gζ 1), .null])), aI g (Gζ 0) 121 lsF]) (fun u0 => [(3, .int (nI u0)), (0, .ref hζ), (1, .int (nI iζ)), (2, .int (nI jζ))]) ?_ 0 (by first | omega | decide | rfl) (hP.sub [0, 1] rfl) (hD.sub [0, 1] (by decide) rfl) hS (lv_sub hl [0, 1, 2, 3] rfl)
  rintro tζ htζ ih2 H locs ls hP hD hS hl
  have htζ : tζ ≤ 11 := htζ
  have hP : va_P g.1 vwCl [(hζ, .inr (5, [.ref (Gζ 0), .ref (Gζ 1), .null])), aI g (Gζ 0) 121 lsF] H := hP
  have hD : va_D Z [(hζ, .inr (5, [.ref (Gζ 0), .ref (Gζ 1), .null])), aI g (Gζ 0) 121 lsF] := hD
  have hl : lv_has ls 5 [(3, .int (nI tζ)), (0, .ref hζ), (1, .int (nI iζ)), (2, .int (nI jζ))] := hl
  refine lv_iload_n hx hb dX5_shortenPast_2 rfl (lv_at hl 0 rfl) ?_
  refine lv_bipush (v := 11) hx hb dX5_shortenPast_3 (by decide) ?_
  refine lv_icmp_ge (tgt := 60) hx hb dX5_shortenPast_5 (by decide) (fun c_1 => ?_) (fun c_1 => ?_)
  · have c_1 : 11 ≤ tζ := (nI_leI (a := 11) (b := tζ) (by omega) (by omega)).mp c_1
    exact r_vret hx hb hr hlk hS () trivial (hP.sub [0, 1] rfl) (hD.sub [0, 1] (by decide) rfl) dX5_shortenPast_60
  · have c_1 : ¬ 11 ≤ tζ := fun z => c_1 ((nI_leI (a := 11) (b := tζ) (by omega) (by omega)).mpr z)
    refine lv_aload_n hx hb dX5_shortenPast_8 rfl (lv_at hl 1 rfl) ?_
    refine lv_iload_n hx hb dX5_shortenPast_9 rfl (lv_at hl 3 rfl) ?_
    refine lv_iload_n hx hb dX5_shortenPast_10 rfl (lv_at hl 2 rfl) ?_
    refine gcV_i (As := [.int (nI jζ), .int (nI iζ)]) (rest := []) (ci := 5) (q := (RX5, TX5, 3)) F hK hN hP hD hS hA (c_X5_leastWay l g H.size hζ Gζ (.null) lsF jζ iζ (by omega) (by omega)) gX5_shortenPast_X5_leastWay kX5_leastWay rfl rfl rfl rfl ⟨(Nat.le_of_ble_eq_true rfl), (Nat.le_of_ble_eq_true rfl)⟩ [0, 1] [] rfl rfl rfl (by decide) rfl rfl rfl rfl rfl hl.1 (Nat.le_of_ble_eq_true rfl) dX5_shortenPast_11 ⟨(Nat.le_of_ble_eq_true rfl), (Nat.le_of_ble_eq_true rfl)⟩ (fun r_w u_w H locs hw hP hD hS => ?_)
    have hP : va_P g.1 vwCl [(hζ, .inr (5, [.ref (Gζ 0), .ref (Gζ 1), .null])), aI g (Gζ 0) 121 lsF] H := hP
    have hD : va_D Z [(hζ, .inr (5, [.ref (Gζ 0), .ref (Gζ 1), .null])), aI g (Gζ 0) 121 lsF] := hD
    obtain rfl := hw
    refine gtop (y := lsF (jζ * 11 + iζ)) rfl ?_
    refine lv_aload_n hx hb dX5_shortenPast_14 rfl (lv_at hl 1 rfl) ?_
    refine lv_iload_n hx hb dX5_shortenPast_15 rfl (lv_at hl 2 rfl) ?_
    refine lv_iload_n hx hb dX5_shortenPast_16 rfl (lv_at hl 0 rfl) ?_
    refine gcV_i (As := [.int (nI iζ), .int (nI tζ)]) (rest := [.int (lsF (jζ * 11 + iζ))]) (ci := 5) (q := (RX5, TX5, 3)) F hK hN hP hD hS hA (c_X5_leastWay l g H.size hζ Gζ (.null) lsF iζ tζ (by omega) (by omega)) gX5_shortenPast_X5_leastWay kX5_leastWay rfl rfl rfl rfl ⟨(Nat.le_of_ble_eq_true rfl), (Nat.le_of_ble_eq_true rfl)⟩ [0, 1] [] rfl rfl rfl (by decide) rfl rfl rfl rfl rfl hl.1 (Nat.le_of_ble_eq_true rfl) dX5_shortenPast_17 ⟨(Nat.le_of_ble_eq_true rfl), (Nat.le_of_ble_eq_true rfl)⟩ (fun r_w u_w H locs hw hP hD hS => ?_)
    have hP : va_P g.1 vwCl [(hζ, .inr (5, [.ref (Gζ 0), .ref (Gζ 1), .null])), aI g (Gζ 0) 121 lsF] H := hP
    have hD : va_D Z [(hζ, .inr (5, [.ref (Gζ 0), .ref (Gζ 1), .null])), aI g (Gζ 0) 121 lsF] := hD
    obtain rfl := hw
    refine gtop (y := lsF (iζ * 11 + tζ)) rfl ?_
    refine lv_iadd hx hb dX5_shortenPast_20 ?_
    refine lv_istore (lv' := [(4, .int ((lsF (jζ * 11 + iζ)) + (lsF (iζ * 11 + tζ)))), (3, .int (nI tζ)), (0, .ref hζ), (1, .int (nI iζ)), (2, .int (nI jζ))]) hx hb dX5_shortenPast_21 hl (by decide) rfl (fun ls hl => ?_)
    refine lv_iload hx hb dX5_shortenPast_23 (lv_at hl 0 rfl) ?_
    refine lv_aload_n hx hb dX5_shortenPast_25 rfl (lv_at hl 2 rfl) ?_
    refine lv_iload_n hx hb dX5_shortenPast_26 rfl (lv_at hl 4 rfl) ?_
    refine lv_iload_n hx hb dX5_shortenPast_27 rfl (lv_at hl 1 rfl) ?_
    refine gcV_i (As := [.int (nI jζ), .int (nI tζ)]) (rest := [.int ((lsF (jζ * 11 + iζ)) + (lsF (iζ * 11 + tζ)))]) (ci := 5) (q := (RX5, TX5, 3)) F hK hN hP hD hS hA (c_X5_leastWay l g H.size hζ Gζ (.null) lsF jζ tζ (by omega) (by omega)) gX5_shortenPast_X5_leastWay kX5_leastWay rfl rfl rfl rfl ⟨(Nat.le_of_ble_eq_true rfl), (Nat.le_of_ble_eq_true rfl)⟩ [0, 1] [] rfl rfl rfl (by decide) rfl rfl rfl rfl rfl hl.1 (Nat.le_of_ble_eq_true rfl) dX5_shortenPast_28 ⟨(Nat.le_of_ble_eq_true rfl), (Nat.le_of_ble_eq_true rfl)⟩ (fun r_w u_w H locs hw hP hD hS => ?_)
    have hP : va_P g.1 vwCl [(hζ, .inr (5, [.ref (Gζ 0), .ref (Gζ 1), .null])), aI g (Gζ 0) 121 lsF] H := hP
    have hD : va_D Z [(hζ, .inr (5, [.ref (Gζ 0), .ref (Gζ 1), .null])), aI g (Gζ 0) 121 lsF] := hD
    obtain rfl := hw
    refine gtop (y := lsF (jζ * 11 + tζ)) rfl ?_
    refine lv_icmp_ge (tgt := 54) hx hb dX5_shortenPast_31 (by decide) (fun c_2 => ?_) (fun c_2 => ?_)
    · refine lv_iinc (v := nI (tζ + 1)) (lv' := [(3, .int (nI (tζ + 1))), (4, .int ((lsF (jζ * 11 + iζ)) + (lsF (iζ * 11 + tζ)))), (0, .ref hζ), (1, .int (nI iζ)), (2, .int (nI jζ))]) hx hb dX5_shortenPast_54 hl (k := 1) rfl (nI_1 tζ) (by decide) rfl (fun ls hl => ?_)
      refine lv_goto (tgt := 2) hx hb dX5_shortenPast_57 (by decide) ?_
      exact ih2 (tζ + 1) (by first | omega | (dsimp only; omega)) (by first | omega | (dsimp only; omega)) _ _ _ (hP.sub [0, 1] rfl) (hD.sub [0, 1] (by decide) rfl) hS (lv_sub hl [0, 2, 3, 4] rfl)
    · exact absurd (ls_tri hiζ hjζ (by omega)) c_2
set_option maxHeartbeats 4000000 in
set_option maxRecDepth 100000 in
theorem c_X5_measure (l : Launch) (g : GT) (sz : Nat) (hζ : Nat) (Gζ : Nat → Nat) (fζ : Nat → Int32) (kζ : Nat) (Aζ : Nat → Nat) (Iζ : Nat → Int32) : Cv l yX5_measure wsX5_measure { frames := 3, cells := 0, slots := 0, locals := 66 } g sz [.ref hζ, .ref kζ] [(hζ, .inr (5, [.ref (Gζ 0), .ref (Gζ 1), .null])), aI g (Gζ 0) 121 fζ, (kζ, .inr (1, oC Aζ Iζ)), aI g (Aζ 0) 121 (fun _ => 0)] [(hζ, .inr (5, [.ref (Gζ 0), .ref (Gζ 1), .null])), aI g (Gζ 0) 121 lsF, (kζ, .inr (1, oC Aζ Iζ)), aI g (Aζ 0) 121 (fun _ => 0)] := by
  refine gMet_v (cc := cX5_measure) (maxL := 5) (ret := none) (by decide) rfl (Nat.le_of_ble_eq_true rfl) ?_
  intro p e s m args below meth c Z hx hb hr F hlk hnm hK hN hA H locs hP hD hS ls hl
  have hl : lv_has ls 5 [(0, .ref hζ), (1, .ref kζ)] := hl
  have F : CallFix p m c cX5_measure 5 s args wsX5_measure RX5 := F
  have hts := F.2.2.2.2
  have hown : s.vm.findClass RX5 = some m.cls := F.2.2.2.1
  have hi5 : ∀ w ∈ u_ws RX5 TX5 3, w ∈ wsX5_measure := by decide +kernel
  refine lv_iconst (v := 0) hx hb dX5_measure_0 (by decide) ?_
  refine lv_istore_n (lv' := [(2, .int 0), (0, .ref hζ), (1, .ref kζ)]) hx hb dX5_measure_1 rfl hl (by decide) rfl (fun ls hl => ?_)
  obtain ⟨hP, hD⟩ := r_extI hP hD 1 rfl (f' := fF fζ lsF (11 * 0)) fF_0
  have hP : va_P g.1 vwCl [(hζ, .inr (5, [.ref (Gζ 0), .ref (Gζ 1), .null])), aI g (Gζ 0) 121 (fF fζ lsF (11 * 0)), (kζ, .inr (1, oC Aζ Iζ)), aI g (Aζ 0) 121 (fun _ => 0)] H := hP
  have hD : va_D Z [(hζ, .inr (5, [.ref (Gζ 0), .ref (Gζ 1), .null])), aI g (Gζ 0) 121 (fF fζ lsF (11 * 0)), (kζ, .inr (1, oC Aζ Iζ)), aI g (Aζ 0) 121 (fun _ => 0)] := hD
  refine gloop (σ := Nat) (fun u0 => 11 - u0) (fun u0 => u0 ≤ 11) (fun u0 => [(hζ, .inr (5, [.ref (Gζ 0), .ref (Gζ 1), .null])), aI g (Gζ 0) 121 (fF fζ lsF (11 * u0)), (kζ, .inr (1, oC Aζ Iζ)), aI g (Aζ 0) 121 (fun _ => 0)]) (fun u0 => [(2, .int (nI u0)), (0, .ref hζ), (1, .ref kζ)]) ?_ 0 (by first | omega | decide | rfl) (hP.sub [0, 1, 2, 3] rfl) (hD.sub [0, 1, 2, 3] (by decide) rfl) hS (lv_sub hl [0, 1, 2] rfl)
  rintro iζ hiζ ih2 H locs ls hP hD hS hl
  have hiζ : iζ ≤ 11 := hiζ
  have hP : va_P g.1 vwCl [(hζ, .inr (5, [.ref (Gζ 0), .ref (Gζ 1), .null])), aI g (Gζ 0) 121 (fF fζ lsF (11 * iζ)), (kζ, .inr (1, oC Aζ Iζ)), aI g (Aζ 0) 121 (fun _ => 0)] H := hP
  have hD : va_D Z [(hζ, .inr (5, [.ref (Gζ 0), .ref (Gζ 1), .null])), aI g (Gζ 0) 121 (fF fζ lsF (11 * iζ)), (kζ, .inr (1, oC Aζ Iζ)), aI g (Aζ 0) 121 (fun _ => 0)] := hD
  have hl : lv_has ls 5 [(2, .int (nI iζ)), (0, .ref hζ), (1, .ref kζ)] := hl
  refine lv_iload_n hx hb dX5_measure_2 rfl (lv_at hl 0 rfl) ?_
  refine lv_bipush (v := 11) hx hb dX5_measure_3 (by decide) ?_
  refine lv_icmp_ge (tgt := 72) hx hb dX5_measure_5 (by decide) (fun c_1 => ?_) (fun c_1 => ?_)
  · have c_1 : 11 ≤ iζ := (nI_leI (a := 11) (b := iζ) (by omega) (by omega)).mp c_1
    obtain ⟨hP, hD⟩ := r_extI hP hD 1 rfl (f' := lsF) (by intro z hz; exact fF_n z (by omega))
    have hP : va_P g.1 vwCl [(hζ, .inr (5, [.ref (Gζ 0), .ref (Gζ 1), .null])), aI g (Gζ 0) 121 lsF, (kζ, .inr (1, oC Aζ Iζ)), aI g (Aζ 0) 121 (fun _ => 0)] H := hP
    have hD : va_D Z [(hζ, .inr (5, [.ref (Gζ 0), .ref (Gζ 1), .null])), aI g (Gζ 0) 121 lsF, (kζ, .inr (1, oC Aζ Iζ)), aI g (Aζ 0) 121 (fun _ => 0)] := hD
    refine lv_iconst (v := 0) hx hb dX5_measure_72 (by decide) ?_
    refine lv_istore_n (lv' := [(2, .int 0), (0, .ref hζ), (1, .ref kζ)]) hx hb dX5_measure_73 rfl hl (by decide) rfl (fun ls hl => ?_)
    refine gloop (σ := Nat) (fun u0 => 11 - u0) (fun u0 => u0 ≤ 11) (fun u0 => [(hζ, .inr (5, [.ref (Gζ 0), .ref (Gζ 1), .null])), aI g (Gζ 0) 121 lsF, (kζ, .inr (1, oC Aζ Iζ)), aI g (Aζ 0) 121 (fun _ => 0)]) (fun u0 => [(2, .int (nI u0)), (0, .ref hζ), (1, .ref kζ)]) ?_ 0 (by first | omega | decide | rfl) (hP.sub [0, 1, 2, 3] rfl) (hD.sub [0, 1, 2, 3] (by decide) rfl) hS (lv_sub hl [0, 1, 2] rfl)
    rintro iζ hiζ ih74 H locs ls hP hD hS hl
    have hiζ : iζ ≤ 11 := hiζ
    have hP : va_P g.1 vwCl [(hζ, .inr (5, [.ref (Gζ 0), .ref (Gζ 1), .null])), aI g (Gζ 0) 121 lsF, (kζ, .inr (1, oC Aζ Iζ)), aI g (Aζ 0) 121 (fun _ => 0)] H := hP
    have hD : va_D Z [(hζ, .inr (5, [.ref (Gζ 0), .ref (Gζ 1), .null])), aI g (Gζ 0) 121 lsF, (kζ, .inr (1, oC Aζ Iζ)), aI g (Aζ 0) 121 (fun _ => 0)] := hD
    have hl : lv_has ls 5 [(2, .int (nI iζ)), (0, .ref hζ), (1, .ref kζ)] := hl
    refine lv_iload_n hx hb dX5_measure_74 rfl (lv_at hl 0 rfl) ?_
    refine lv_bipush (v := 11) hx hb dX5_measure_75 (by decide) ?_
    refine lv_icmp_ge (tgt := 106) hx hb dX5_measure_77 (by decide) (fun c_2 => ?_) (fun c_2 => ?_)
    · have c_2 : 11 ≤ iζ := (nI_leI (a := 11) (b := iζ) (by omega) (by omega)).mp c_2
      exact r_vret hx hb hr hlk hS () trivial (hP.sub [0, 1, 2, 3] rfl) (hD.sub [0, 1, 2, 3] (by decide) rfl) dX5_measure_106
    · have c_2 : ¬ 11 ≤ iζ := fun z => c_2 ((nI_leI (a := 11) (b := iζ) (by omega) (by omega)).mpr z)
      refine lv_iconst (v := 0) hx hb dX5_measure_80 (by decide) ?_
      refine lv_istore_n (lv' := [(3, .int 0), (2, .int (nI iζ)), (0, .ref hζ), (1, .ref kζ)]) hx hb dX5_measure_81 rfl hl (by decide) rfl (fun ls hl => ?_)
      refine gloop (σ := Nat) (fun u0 => 11 - u0) (fun u0 => u0 ≤ 11) (fun u0 => [(hζ, .inr (5, [.ref (Gζ 0), .ref (Gζ 1), .null])), aI g (Gζ 0) 121 lsF, (kζ, .inr (1, oC Aζ Iζ)), aI g (Aζ 0) 121 (fun _ => 0)]) (fun u0 => [(3, .int (nI u0)), (2, .int (nI iζ)), (0, .ref hζ), (1, .ref kζ)]) ?_ 0 (by first | omega | decide | rfl) (hP.sub [0, 1, 2, 3] rfl) (hD.sub [0, 1, 2, 3] (by decide) rfl) hS (lv_sub hl [0, 1, 2, 3] rfl)
      rintro jζ hjζ ih82 H locs ls hP hD hS hl
      have hjζ : jζ ≤ 11 := hjζ
      have hP : va_P g.1 vwCl [(hζ, .inr (5, [.ref (Gζ 0), .ref (Gζ 1), .null])), aI g (Gζ 0) 121 lsF, (kζ, .inr (1, oC Aζ Iζ)), aI g (Aζ 0) 121 (fun _ => 0)] H := hP
      have hD : va_D Z [(hζ, .inr (5, [.ref (Gζ 0), .ref (Gζ 1), .null])), aI g (Gζ 0) 121 lsF, (kζ, .inr (1, oC Aζ Iζ)), aI g (Aζ 0) 121 (fun _ => 0)] := hD
      have hl : lv_has ls 5 [(3, .int (nI jζ)), (2, .int (nI iζ)), (0, .ref hζ), (1, .ref kζ)] := hl
      refine lv_iload_n hx hb dX5_measure_82 rfl (lv_at hl 0 rfl) ?_
      refine lv_bipush (v := 11) hx hb dX5_measure_83 (by decide) ?_
      refine lv_icmp_ge (tgt := 100) hx hb dX5_measure_85 (by decide) (fun c_3 => ?_) (fun c_3 => ?_)
      · have c_3 : 11 ≤ jζ := (nI_leI (a := 11) (b := jζ) (by omega) (by omega)).mp c_3
        refine lv_iinc (v := nI (iζ + 1)) (lv' := [(2, .int (nI (iζ + 1))), (3, .int (nI jζ)), (0, .ref hζ), (1, .ref kζ)]) hx hb dX5_measure_100 hl (k := 1) rfl (nI_1 iζ) (by decide) rfl (fun ls hl => ?_)
        refine lv_goto (tgt := 74) hx hb dX5_measure_103 (by decide) ?_
        exact ih74 (iζ + 1) (by first | omega | (dsimp only; omega)) (by first | omega | (dsimp only; omega)) _ _ _ (hP.sub [0, 1, 2, 3] rfl) (hD.sub [0, 1, 2, 3] (by decide) rfl) hS (lv_sub hl [0, 2, 3] rfl)
      · have c_3 : ¬ 11 ≤ jζ := fun z => c_3 ((nI_leI (a := 11) (b := jζ) (by omega) (by omega)).mpr z)
        refine lv_aload_n hx hb dX5_measure_88 rfl (lv_at hl 2 rfl) ?_
        refine lv_iload_n hx hb dX5_measure_89 rfl (lv_at hl 1 rfl) ?_
        refine lv_iload_n hx hb dX5_measure_90 rfl (lv_at hl 0 rfl) ?_
        refine gcV_v (As := [.int (nI iζ), .int (nI jζ)]) (rest := []) (ci := 5) (q := (RX5, TX5, 3)) F hK hN hP hD hS hA (c_X5_shortenPast l g H.size hζ Gζ iζ jζ (by omega) (by omega)) gX5_measure_X5_shortenPast kX5_shortenPast rfl rfl rfl rfl ⟨(Nat.le_of_ble_eq_true rfl), (Nat.le_of_ble_eq_true rfl)⟩ [0, 1] [2, 3] rfl rfl rfl (by decide) rfl rfl rfl rfl rfl hl.1 (Nat.le_of_ble_eq_true rfl) dX5_measure_91 ⟨(Nat.le_of_ble_eq_true rfl), (Nat.le_of_ble_eq_true rfl)⟩ (fun u_w H locs hw hP hD hS => ?_)
        have hP : va_P g.1 vwCl [(kζ, .inr (1, oC Aζ Iζ)), aI g (Aζ 0) 121 (fun _ => 0), (hζ, .inr (5, [.ref (Gζ 0), .ref (Gζ 1), .null])), aI g (Gζ 0) 121 lsF] H := hP
        have hD : va_D Z [(kζ, .inr (1, oC Aζ Iζ)), aI g (Aζ 0) 121 (fun _ => 0), (hζ, .inr (5, [.ref (Gζ 0), .ref (Gζ 1), .null])), aI g (Gζ 0) 121 lsF] := hD
        refine lv_iinc (v := nI (jζ + 1)) (lv' := [(3, .int (nI (jζ + 1))), (2, .int (nI iζ)), (0, .ref hζ), (1, .ref kζ)]) hx hb dX5_measure_94 hl (k := 0) rfl (nI_1 jζ) (by decide) rfl (fun ls hl => ?_)
        refine lv_goto (tgt := 82) hx hb dX5_measure_97 (by decide) ?_
        exact ih82 (jζ + 1) (by first | omega | (dsimp only; omega)) (by first | omega | (dsimp only; omega)) _ _ _ (hP.sub [2, 3, 0, 1] rfl) (hD.sub [2, 3, 0, 1] (by decide) rfl) hS (lv_sub hl [0, 1, 2, 3] rfl)
  · have c_1 : ¬ 11 ≤ iζ := fun z => c_1 ((nI_leI (a := 11) (b := iζ) (by omega) (by omega)).mpr z)
    refine lv_iconst (v := 0) hx hb dX5_measure_8 (by decide) ?_
    refine lv_istore_n (lv' := [(3, .int 0), (2, .int (nI iζ)), (0, .ref hζ), (1, .ref kζ)]) hx hb dX5_measure_9 rfl hl (by decide) rfl (fun ls hl => ?_)
    obtain ⟨hP, hD⟩ := r_extI hP hD 1 rfl (f' := fG fζ iζ 0) fG_0
    have hP : va_P g.1 vwCl [(hζ, .inr (5, [.ref (Gζ 0), .ref (Gζ 1), .null])), aI g (Gζ 0) 121 (fG fζ iζ 0), (kζ, .inr (1, oC Aζ Iζ)), aI g (Aζ 0) 121 (fun _ => 0)] H := hP
    have hD : va_D Z [(hζ, .inr (5, [.ref (Gζ 0), .ref (Gζ 1), .null])), aI g (Gζ 0) 121 (fG fζ iζ 0), (kζ, .inr (1, oC Aζ Iζ)), aI g (Aζ 0) 121 (fun _ => 0)] := hD
    refine gloop (σ := Nat) (fun u0 => 11 - u0) (fun u0 => u0 ≤ 11) (fun u0 => [(hζ, .inr (5, [.ref (Gζ 0), .ref (Gζ 1), .null])), aI g (Gζ 0) 121 (fG fζ iζ u0), (kζ, .inr (1, oC Aζ Iζ)), aI g (Aζ 0) 121 (fun _ => 0)]) (fun u0 => [(3, .int (nI u0)), (2, .int (nI iζ)), (0, .ref hζ), (1, .ref kζ)]) ?_ 0 (by first | omega | decide | rfl) (hP.sub [0, 1, 2, 3] rfl) (hD.sub [0, 1, 2, 3] (by decide) rfl) hS (lv_sub hl [0, 1, 2, 3] rfl)
    rintro jζ hjζ ih10 H locs ls hP hD hS hl
    have hjζ : jζ ≤ 11 := hjζ
    have hP : va_P g.1 vwCl [(hζ, .inr (5, [.ref (Gζ 0), .ref (Gζ 1), .null])), aI g (Gζ 0) 121 (fG fζ iζ jζ), (kζ, .inr (1, oC Aζ Iζ)), aI g (Aζ 0) 121 (fun _ => 0)] H := hP
    have hD : va_D Z [(hζ, .inr (5, [.ref (Gζ 0), .ref (Gζ 1), .null])), aI g (Gζ 0) 121 (fG fζ iζ jζ), (kζ, .inr (1, oC Aζ Iζ)), aI g (Aζ 0) 121 (fun _ => 0)] := hD
    have hl : lv_has ls 5 [(3, .int (nI jζ)), (2, .int (nI iζ)), (0, .ref hζ), (1, .ref kζ)] := hl
    refine lv_iload_n hx hb dX5_measure_10 rfl (lv_at hl 0 rfl) ?_
    refine lv_bipush (v := 11) hx hb dX5_measure_11 (by decide) ?_
    refine lv_icmp_ge (tgt := 54) hx hb dX5_measure_13 (by decide) (fun c_4 => ?_) (fun c_4 => ?_)
    · have c_4 : 11 ≤ jζ := (nI_leI (a := 11) (b := jζ) (by omega) (by omega)).mp c_4
      refine lv_aload_n hx hb dX5_measure_54 rfl (lv_at hl 2 rfl) ?_
      refine va_get (D := g.1) (ci := 5) (v := .ref (Gζ 0)) (C := RX5) (T := TX5) (N := 3) hx hb hts hi5 hown hK hP 0 rfl rfl 0 (by decide) (hts (.fieldLink RX5 9 "PanTales$Ways" "least" "[I") (by decide +kernel)) (fun _ h9 => h9) rfl dX5_measure_55 ?_
      refine lv_iload_n hx hb dX5_measure_58 rfl (lv_at hl 1 rfl) ?_
      refine lv_bipush (v := 11) hx hb dX5_measure_59 (by decide) ?_
      refine lv_imul hx hb dX5_measure_61 ?_
      refine gtop (y := nI (iζ * 11)) (pk_mul iζ 11) ?_
      refine lv_iload_n hx hb dX5_measure_62 rfl (lv_at hl 1 rfl) ?_
      refine lv_iadd hx hb dX5_measure_63 ?_
      refine gtop (y := nI ((iζ * 11) + iζ)) (nI_add (iζ * 11) iζ) ?_
      refine lv_iconst (v := 0) hx hb dX5_measure_64 (by decide) ?_
      refine r_iast (f' := fF fζ lsF (11 * (iζ + 1))) hx hb hK hP hD hS 1 rfl (vp_in_nI (n := (iζ * 11) + iζ) (by omega) (by omega)) (fG_d (nI_clamp (n := iζ * 11 + iζ) (by omega)) (by omega) (by omega)) dX5_measure_65 (fun H locs hP hD hS => ?_)
      have hP : va_P g.1 vwCl [(hζ, .inr (5, [.ref (Gζ 0), .ref (Gζ 1), .null])), aI g (Gζ 0) 121 (fF fζ lsF (11 * (iζ + 1))), (kζ, .inr (1, oC Aζ Iζ)), aI g (Aζ 0) 121 (fun _ => 0)] H := hP
      have hD : va_D Z [(hζ, .inr (5, [.ref (Gζ 0), .ref (Gζ 1), .null])), aI g (Gζ 0) 121 (fF fζ lsF (11 * (iζ + 1))), (kζ, .inr (1, oC Aζ Iζ)), aI g (Aζ 0) 121 (fun _ => 0)] := hD
      refine lv_iinc (v := nI (iζ + 1)) (lv' := [(2, .int (nI (iζ + 1))), (3, .int (nI jζ)), (0, .ref hζ), (1, .ref kζ)]) hx hb dX5_measure_66 hl (k := 1) rfl (nI_1 iζ) (by decide) rfl (fun ls hl => ?_)
      refine lv_goto (tgt := 2) hx hb dX5_measure_69 (by decide) ?_
      exact ih2 (iζ + 1) (by first | omega | (dsimp only; omega)) (by first | omega | (dsimp only; omega)) _ _ _ (hP.sub [0, 1, 2, 3] rfl) (hD.sub [0, 1, 2, 3] (by decide) rfl) hS (lv_sub hl [0, 2, 3] rfl)
    · have c_4 : ¬ 11 ≤ jζ := fun z => c_4 ((nI_leI (a := 11) (b := jζ) (by omega) (by omega)).mpr z)
      refine lv_aload_n hx hb dX5_measure_16 rfl (lv_at hl 3 rfl) ?_
      refine lv_iload_n hx hb dX5_measure_17 rfl (lv_at hl 1 rfl) ?_
      refine lv_iload_n hx hb dX5_measure_18 rfl (lv_at hl 0 rfl) ?_
      refine gcV_i (As := [.int (nI iζ), .int (nI jζ)]) (rest := []) (ci := 1) (q := (RX1, TX1, 12)) F hK hN hP hD hS hA (c_X1_longBetween l g H.size kζ Aζ Iζ (fun _ => 0) iζ jζ (by omega) (by omega)) gX5_measure_X1_longBetween kX1_longBetween rfl rfl rfl rfl ⟨(Nat.le_of_ble_eq_true rfl), (Nat.le_of_ble_eq_true rfl)⟩ [2, 3] [0, 1] rfl rfl rfl (by decide) rfl rfl rfl rfl rfl hl.1 (Nat.le_of_ble_eq_true rfl) dX5_measure_19 ⟨(Nat.le_of_ble_eq_true rfl), (Nat.le_of_ble_eq_true rfl)⟩ (fun r_w u_w H locs hw hP hD hS => ?_)
      have hP : va_P g.1 vwCl [(hζ, .inr (5, [.ref (Gζ 0), .ref (Gζ 1), .null])), aI g (Gζ 0) 121 (fG fζ iζ jζ), (kζ, .inr (1, oC Aζ Iζ)), aI g (Aζ 0) 121 (fun _ => 0)] H := hP
      have hD : va_D Z [(hζ, .inr (5, [.ref (Gζ 0), .ref (Gζ 1), .null])), aI g (Gζ 0) 121 (fG fζ iζ jζ), (kζ, .inr (1, oC Aζ Iζ)), aI g (Aζ 0) 121 (fun _ => 0)] := hD
      obtain rfl := hw
      refine gtop (y := 0) rfl ?_
      refine lv_istore (lv' := [(4, .int 0), (3, .int (nI jζ)), (2, .int (nI iζ)), (0, .ref hζ), (1, .ref kζ)]) hx hb dX5_measure_22 hl (by decide) rfl (fun ls hl => ?_)
      refine lv_aload_n hx hb dX5_measure_24 rfl (lv_at hl 3 rfl) ?_
      refine va_get (D := g.1) (ci := 5) (v := .ref (Gζ 0)) (C := RX5) (T := TX5) (N := 3) hx hb hts hi5 hown hK hP 0 rfl rfl 0 (by decide) (hts (.fieldLink RX5 9 "PanTales$Ways" "least" "[I") (by decide +kernel)) (fun _ h9 => h9) rfl dX5_measure_25 ?_
      refine lv_iload_n hx hb dX5_measure_28 rfl (lv_at hl 2 rfl) ?_
      refine lv_bipush (v := 11) hx hb dX5_measure_29 (by decide) ?_
      refine lv_imul hx hb dX5_measure_31 ?_
      refine gtop (y := nI (iζ * 11)) (pk_mul iζ 11) ?_
      refine lv_iload_n hx hb dX5_measure_32 rfl (lv_at hl 1 rfl) ?_
      refine lv_iadd hx hb dX5_measure_33 ?_
      refine gtop (y := nI ((iζ * 11) + jζ)) (nI_add (iζ * 11) jζ) ?_
      refine lv_iload hx hb dX5_measure_34 (lv_at hl 0 rfl) ?_
      refine lv_if_le (tgt := 44) hx hb dX5_measure_36 (by decide) (fun c_5 => ?_) (fun c_5 => ?_)
      · refine lv_sipush (v := 1000) hx hb dX5_measure_44 (by decide) ?_
        refine r_iast (f' := fG fζ iζ (jζ + 1)) hx hb hK hP hD hS 1 rfl (vp_in_nI (n := (iζ * 11) + jζ) (by omega) (by omega)) (fG_s (nI_clamp (n := iζ * 11 + jζ) (by omega))) dX5_measure_47 (fun H locs hP hD hS => ?_)
        have hP : va_P g.1 vwCl [(hζ, .inr (5, [.ref (Gζ 0), .ref (Gζ 1), .null])), aI g (Gζ 0) 121 (fG fζ iζ (jζ + 1)), (kζ, .inr (1, oC Aζ Iζ)), aI g (Aζ 0) 121 (fun _ => 0)] H := hP
        have hD : va_D Z [(hζ, .inr (5, [.ref (Gζ 0), .ref (Gζ 1), .null])), aI g (Gζ 0) 121 (fG fζ iζ (jζ + 1)), (kζ, .inr (1, oC Aζ Iζ)), aI g (Aζ 0) 121 (fun _ => 0)] := hD
        refine lv_iinc (v := nI (jζ + 1)) (lv' := [(3, .int (nI (jζ + 1))), (4, .int 0), (2, .int (nI iζ)), (0, .ref hζ), (1, .ref kζ)]) hx hb dX5_measure_48 hl (k := 1) rfl (nI_1 jζ) (by decide) rfl (fun ls hl => ?_)
        refine lv_goto (tgt := 10) hx hb dX5_measure_51 (by decide) ?_
        exact ih10 (jζ + 1) (by first | omega | (dsimp only; omega)) (by first | omega | (dsimp only; omega)) _ _ _ (hP.sub [0, 1, 2, 3] rfl) (hD.sub [0, 1, 2, 3] (by decide) rfl) hS (lv_sub hl [0, 2, 3, 4] rfl)
      · exact absurd (by decide) c_5
set_option maxHeartbeats 4000000 in
set_option maxRecDepth 100000 in
theorem c_X5_howFar (l : Launch) (g : GT) (sz : Nat) (hζ : Nat) (Gζ : Nat → Nat) (iζ jζ : Nat) (hiζ : iζ < 11) (hjζ : jζ < 11) : Ci l yX5_howFar wsX5_howFar { frames := 2, cells := 0, slots := 0, locals := 42 } g sz [.ref hζ, .int (nI iζ), .int (nI jζ)] [(hζ, .inr (5, [.ref (Gζ 0), .ref (Gζ 1), .null])), aI g (Gζ 0) 121 lsF] (nrF iζ jζ) [(hζ, .inr (5, [.ref (Gζ 0), .ref (Gζ 1), .null])), aI g (Gζ 0) 121 lsF] := by
  refine gMet_i (cc := cX5_howFar) (maxL := 4) (ret := (some .int)) (by decide) rfl (Nat.le_of_ble_eq_true rfl) ?_
  intro p e s m args below meth c Z hx hb hr F hlk hnm hK hN hA H locs hP hD hS ls hl
  have hl : lv_has ls 4 [(0, .ref hζ), (1, .int (nI iζ)), (2, .int (nI jζ))] := hl
  have F : CallFix p m c cX5_howFar 4 s args wsX5_howFar RX5 := F
  have hts := F.2.2.2.2
  have hown : s.vm.findClass RX5 = some m.cls := F.2.2.2.1
  refine lv_aload_n hx hb dX5_howFar_0 rfl (lv_at hl 0 rfl) ?_
  refine lv_iload_n hx hb dX5_howFar_1 rfl (lv_at hl 1 rfl) ?_
  refine lv_iload_n hx hb dX5_howFar_2 rfl (lv_at hl 2 rfl) ?_
  refine gcV_i (As := [.int (nI iζ), .int (nI jζ)]) (rest := []) (ci := 5) (q := (RX5, TX5, 3)) F hK hN hP hD hS hA (c_X5_leastWay l g H.size hζ Gζ (.null) lsF iζ jζ (by omega) (by omega)) gX5_howFar_X5_leastWay kX5_leastWay rfl rfl rfl rfl ⟨(Nat.le_of_ble_eq_true rfl), (Nat.le_of_ble_eq_true rfl)⟩ [0, 1] [] rfl rfl rfl (by decide) rfl rfl rfl rfl rfl hl.1 (Nat.le_of_ble_eq_true rfl) dX5_howFar_3 ⟨(Nat.le_of_ble_eq_true rfl), (Nat.le_of_ble_eq_true rfl)⟩ (fun r_w u_w H locs hw hP hD hS => ?_)
  have hP : va_P g.1 vwCl [(hζ, .inr (5, [.ref (Gζ 0), .ref (Gζ 1), .null])), aI g (Gζ 0) 121 lsF] H := hP
  have hD : va_D Z [(hζ, .inr (5, [.ref (Gζ 0), .ref (Gζ 1), .null])), aI g (Gζ 0) 121 lsF] := hD
  obtain rfl := hw
  refine gtop (y := lsF (iζ * 11 + jζ)) rfl ?_
  refine gtop (y := if iζ = jζ then 0 else 1000) (ls_v hiζ hjζ) ?_
  refine lv_istore_n (lv' := [(3, .int (if iζ = jζ then 0 else 1000)), (0, .ref hζ), (1, .int (nI iζ)), (2, .int (nI jζ))]) hx hb dX5_howFar_6 rfl hl (by decide) rfl (fun ls hl => ?_)
  refine lv_iload_n hx hb dX5_howFar_7 rfl (lv_at hl 0 rfl) ?_
  refine lv_sipush (v := 1000) hx hb dX5_howFar_8 (by decide) ?_
  refine lv_icmp_ge (tgt := 18) hx hb dX5_howFar_11 (by decide) (fun c_1 => ?_) (fun c_1 => ?_)
  · refine lv_bipush (v := (-6)) hx hb dX5_howFar_18 (by decide) ?_
    exact r_iret hx hb hr hlk hS () (hw_f c_1) (hP.sub [0, 1] rfl) (hD.sub [0, 1] (by decide) rfl) dX5_howFar_20
  · refine lv_iload_n hx hb dX5_howFar_14 rfl (lv_at hl 0 rfl) ?_
    refine lv_goto (tgt := 20) hx hb dX5_howFar_15 (by decide) ?_
    exact r_iret hx hb hr hlk hS () (hw_t c_1) (hP.sub [0, 1] rfl) (hD.sub [0, 1] (by decide) rfl) dX5_howFar_20
set_option maxHeartbeats 4000000 in
set_option maxRecDepth 100000 in
theorem c_X5_nextPlace (l : Launch) (g : GT) (sz : Nat) (hζ : Nat) (Gζ : Nat → Nat) (kζ : Nat) (iζ jζ : Nat) (hiζ : iζ < 11) (hjζ : jζ < 11) : Ci l yX5_nextPlace wsX5_nextPlace { frames := 3, cells := 0, slots := 0, locals := 65 } g sz [.ref hζ, .ref kζ, .int (nI iζ), .int (nI jζ)] [(hζ, .inr (5, [.ref (Gζ 0), .ref (Gζ 1), .null])), aI g (Gζ 0) 121 lsF] (-6) [(hζ, .inr (5, [.ref (Gζ 0), .ref (Gζ 1), .null])), aI g (Gζ 0) 121 lsF] := by
  refine gMet_i (cc := cX5_nextPlace) (maxL := 7) (ret := (some .int)) (by decide) rfl (Nat.le_of_ble_eq_true rfl) ?_
  intro p e s m args below meth c Z hx hb hr F hlk hnm hK hN hA H locs hP hD hS ls hl
  have hl : lv_has ls 7 [(0, .ref hζ), (1, .ref kζ), (2, .int (nI iζ)), (3, .int (nI jζ))] := hl
  have F : CallFix p m c cX5_nextPlace 7 s args wsX5_nextPlace RX5 := F
  have hts := F.2.2.2.2
  have hown : s.vm.findClass RX5 = some m.cls := F.2.2.2.1
  refine lv_aload_n hx hb dX5_nextPlace_0 rfl (lv_at hl 0 rfl) ?_
  refine lv_iload_n hx hb dX5_nextPlace_1 rfl (lv_at hl 2 rfl) ?_
  refine lv_iload_n hx hb dX5_nextPlace_2 rfl (lv_at hl 3 rfl) ?_
  refine gcV_i (As := [.int (nI iζ), .int (nI jζ)]) (rest := []) (ci := 5) (q := (RX5, TX5, 3)) F hK hN hP hD hS hA (c_X5_howFar l g H.size hζ Gζ iζ jζ (by omega) (by omega)) gX5_nextPlace_X5_howFar kX5_howFar rfl rfl rfl rfl ⟨(Nat.le_of_ble_eq_true rfl), (Nat.le_of_ble_eq_true rfl)⟩ [0, 1] [] rfl rfl rfl (by decide) rfl rfl rfl rfl rfl hl.1 (Nat.le_of_ble_eq_true rfl) dX5_nextPlace_3 ⟨(Nat.le_of_ble_eq_true rfl), (Nat.le_of_ble_eq_true rfl)⟩ (fun r_w u_w H locs hw hP hD hS => ?_)
  have hP : va_P g.1 vwCl [(hζ, .inr (5, [.ref (Gζ 0), .ref (Gζ 1), .null])), aI g (Gζ 0) 121 lsF] H := hP
  have hD : va_D Z [(hζ, .inr (5, [.ref (Gζ 0), .ref (Gζ 1), .null])), aI g (Gζ 0) 121 lsF] := hD
  obtain rfl := hw
  refine lv_istore (lv' := [(4, .int (nrF iζ jζ)), (0, .ref hζ), (1, .ref kζ), (2, .int (nI iζ)), (3, .int (nI jζ))]) hx hb dX5_nextPlace_6 hl (by decide) rfl (fun ls hl => ?_)
  refine lv_iload hx hb dX5_nextPlace_8 (lv_at hl 0 rfl) ?_
  refine lv_bipush (v := (-6)) hx hb dX5_nextPlace_10 (by decide) ?_
  refine lv_icmp_eq (tgt := 20) hx hb dX5_nextPlace_12 (by decide) (fun c_1 => ?_) (fun c_1 => ?_)
  · refine lv_bipush (v := (-6)) hx hb dX5_nextPlace_20 (by decide) ?_
    exact r_iret hx hb hr hlk hS () rfl (hP.sub [0, 1] rfl) (hD.sub [0, 1] (by decide) rfl) dX5_nextPlace_22
  · refine lv_iload_n hx hb dX5_nextPlace_15 rfl (lv_at hl 3 rfl) ?_
    refine lv_iload_n hx hb dX5_nextPlace_16 rfl (lv_at hl 4 rfl) ?_
    refine lv_icmp_ne (tgt := 23) hx hb dX5_nextPlace_17 (by decide) (fun c_2 => ?_) (fun c_2 => ?_)
    · exact absurd (by unfold nrF; rw [if_neg (fun z => c_2 (by rw [z]))]) c_1
    · have c_2 : iζ = jζ := (nI_eq (a := iζ) (b := jζ) (by omega) (by omega)).mp c_2
      refine lv_bipush (v := (-6)) hx hb dX5_nextPlace_20 (by decide) ?_
      exact r_iret hx hb hr hlk hS () rfl (hP.sub [0, 1] rfl) (hD.sub [0, 1] (by decide) rfl) dX5_nextPlace_22
set_option maxHeartbeats 4000000 in
set_option maxRecDepth 100000 in
theorem c_X5_findNeighbours (l : Launch) (g : GT) (sz : Nat) (hζ : Nat) (Gζ : Nat → Nat) (fζ : Nat → Int32) (kζ : Nat) (Aζ : Nat → Nat) (Iζ : Nat → Int32) : Cv l yX5_findNeighbours wsX5_findNeighbours { frames := 2, cells := 0, slots := 0, locals := 42 } g sz [.ref hζ, .ref kζ] [(hζ, .inr (5, [.ref (Gζ 0), .ref (Gζ 1), .null])), aI g (Gζ 1) 11 fζ, (kζ, .inr (1, oC Aζ Iζ)), aI g (Aζ 0) 121 (fun _ => 0)] [(hζ, .inr (5, [.ref (Gζ 0), .ref (Gζ 1), .null])), aI g (Gζ 1) 11 (fun _ => 0), (kζ, .inr (1, oC Aζ Iζ)), aI g (Aζ 0) 121 (fun _ => 0)] := by
  refine gMet_v (cc := cX5_findNeighbours) (maxL := 5) (ret := none) (by decide) rfl (Nat.le_of_ble_eq_true rfl) ?_
  intro p e s m args below meth c Z hx hb hr F hlk hnm hK hN hA H locs hP hD hS ls hl
  have hl : lv_has ls 5 [(0, .ref hζ), (1, .ref kζ)] := hl
  have F : CallFix p m c cX5_findNeighbours 5 s args wsX5_findNeighbours RX5 := F
  have hts := F.2.2.2.2
  have hown : s.vm.findClass RX5 = some m.cls := F.2.2.2.1
  have hi5 : ∀ w ∈ u_ws RX5 TX5 3, w ∈ wsX5_findNeighbours := by decide +kernel
  refine lv_iconst (v := 0) hx hb dX5_findNeighbours_0 (by decide) ?_
  refine lv_istore_n (lv' := [(2, .int 0), (0, .ref hζ), (1, .ref kζ)]) hx hb dX5_findNeighbours_1 rfl hl (by decide) rfl (fun ls hl => ?_)
  obtain ⟨hP, hD⟩ := r_extI hP hD 1 rfl (f' := fF fζ (fun _ => 0) 0) fF_0
  have hP : va_P g.1 vwCl [(hζ, .inr (5, [.ref (Gζ 0), .ref (Gζ 1), .null])), aI g (Gζ 1) 11 (fF fζ (fun _ => 0) 0), (kζ, .inr (1, oC Aζ Iζ)), aI g (Aζ 0) 121 (fun _ => 0)] H := hP
  have hD : va_D Z [(hζ, .inr (5, [.ref (Gζ 0), .ref (Gζ 1), .null])), aI g (Gζ 1) 11 (fF fζ (fun _ => 0) 0), (kζ, .inr (1, oC Aζ Iζ)), aI g (Aζ 0) 121 (fun _ => 0)] := hD
  refine gloop (σ := Nat) (fun u0 => 11 - u0) (fun u0 => u0 ≤ 11) (fun u0 => [(hζ, .inr (5, [.ref (Gζ 0), .ref (Gζ 1), .null])), aI g (Gζ 1) 11 (fF fζ (fun _ => 0) u0), (kζ, .inr (1, oC Aζ Iζ)), aI g (Aζ 0) 121 (fun _ => 0)]) (fun u0 => [(2, .int (nI u0)), (0, .ref hζ), (1, .ref kζ)]) ?_ 0 (by first | omega | decide | rfl) (hP.sub [0, 1, 2, 3] rfl) (hD.sub [0, 1, 2, 3] (by decide) rfl) hS (lv_sub hl [0, 1, 2] rfl)
  rintro iζ hiζ ih2 H locs ls hP hD hS hl
  have hiζ : iζ ≤ 11 := hiζ
  have hP : va_P g.1 vwCl [(hζ, .inr (5, [.ref (Gζ 0), .ref (Gζ 1), .null])), aI g (Gζ 1) 11 (fF fζ (fun _ => 0) iζ), (kζ, .inr (1, oC Aζ Iζ)), aI g (Aζ 0) 121 (fun _ => 0)] H := hP
  have hD : va_D Z [(hζ, .inr (5, [.ref (Gζ 0), .ref (Gζ 1), .null])), aI g (Gζ 1) 11 (fF fζ (fun _ => 0) iζ), (kζ, .inr (1, oC Aζ Iζ)), aI g (Aζ 0) 121 (fun _ => 0)] := hD
  have hl : lv_has ls 5 [(2, .int (nI iζ)), (0, .ref hζ), (1, .ref kζ)] := hl
  refine lv_iload_n hx hb dX5_findNeighbours_2 rfl (lv_at hl 0 rfl) ?_
  refine lv_bipush (v := 11) hx hb dX5_findNeighbours_3 (by decide) ?_
  refine lv_icmp_ge (tgt := 56) hx hb dX5_findNeighbours_5 (by decide) (fun c_1 => ?_) (fun c_1 => ?_)
  · have c_1 : 11 ≤ iζ := (nI_leI (a := 11) (b := iζ) (by omega) (by omega)).mp c_1
    obtain ⟨hP, hD⟩ := r_extI hP hD 1 rfl (f' := (fun _ => 0)) (by intro z hz; exact fF_n z (by omega))
    have hP : va_P g.1 vwCl [(hζ, .inr (5, [.ref (Gζ 0), .ref (Gζ 1), .null])), aI g (Gζ 1) 11 (fun _ => 0), (kζ, .inr (1, oC Aζ Iζ)), aI g (Aζ 0) 121 (fun _ => 0)] H := hP
    have hD : va_D Z [(hζ, .inr (5, [.ref (Gζ 0), .ref (Gζ 1), .null])), aI g (Gζ 1) 11 (fun _ => 0), (kζ, .inr (1, oC Aζ Iζ)), aI g (Aζ 0) 121 (fun _ => 0)] := hD
    exact r_vret hx hb hr hlk hS () trivial (hP.sub [0, 1, 2, 3] rfl) (hD.sub [0, 1, 2, 3] (by decide) rfl) dX5_findNeighbours_56
  · have c_1 : ¬ 11 ≤ iζ := fun z => c_1 ((nI_leI (a := 11) (b := iζ) (by omega) (by omega)).mpr z)
    refine lv_iconst (v := 0) hx hb dX5_findNeighbours_8 (by decide) ?_
    refine lv_istore_n (lv' := [(3, .int 0), (2, .int (nI iζ)), (0, .ref hζ), (1, .ref kζ)]) hx hb dX5_findNeighbours_9 rfl hl (by decide) rfl (fun ls hl => ?_)
    refine lv_iconst (v := 0) hx hb dX5_findNeighbours_10 (by decide) ?_
    refine lv_istore (lv' := [(4, .int 0), (3, .int 0), (2, .int (nI iζ)), (0, .ref hζ), (1, .ref kζ)]) hx hb dX5_findNeighbours_11 hl (by decide) rfl (fun ls hl => ?_)
    refine gloop (σ := Nat) (fun u0 => 11 - u0) (fun u0 => u0 ≤ 11) (fun u0 => [(hζ, .inr (5, [.ref (Gζ 0), .ref (Gζ 1), .null])), aI g (Gζ 1) 11 (fF fζ (fun _ => 0) iζ), (kζ, .inr (1, oC Aζ Iζ)), aI g (Aζ 0) 121 (fun _ => 0)]) (fun u0 => [(4, .int (nI u0)), (3, .int 0), (2, .int (nI iζ)), (0, .ref hζ), (1, .ref kζ)]) ?_ 0 (by first | omega | decide | rfl) (hP.sub [0, 1, 2, 3] rfl) (hD.sub [0, 1, 2, 3] (by decide) rfl) hS (lv_sub hl [0, 1, 2, 3, 4] rfl)
    rintro jζ hjζ ih13 H locs ls hP hD hS hl
    have hjζ : jζ ≤ 11 := hjζ
    have hP : va_P g.1 vwCl [(hζ, .inr (5, [.ref (Gζ 0), .ref (Gζ 1), .null])), aI g (Gζ 1) 11 (fF fζ (fun _ => 0) iζ), (kζ, .inr (1, oC Aζ Iζ)), aI g (Aζ 0) 121 (fun _ => 0)] H := hP
    have hD : va_D Z [(hζ, .inr (5, [.ref (Gζ 0), .ref (Gζ 1), .null])), aI g (Gζ 1) 11 (fF fζ (fun _ => 0) iζ), (kζ, .inr (1, oC Aζ Iζ)), aI g (Aζ 0) 121 (fun _ => 0)] := hD
    have hl : lv_has ls 5 [(4, .int (nI jζ)), (3, .int 0), (2, .int (nI iζ)), (0, .ref hζ), (1, .ref kζ)] := hl
    refine lv_iload hx hb dX5_findNeighbours_13 (lv_at hl 0 rfl) ?_
    refine lv_bipush (v := 11) hx hb dX5_findNeighbours_15 (by decide) ?_
    refine lv_icmp_ge (tgt := 43) hx hb dX5_findNeighbours_17 (by decide) (fun c_2 => ?_) (fun c_2 => ?_)
    · have c_2 : 11 ≤ jζ := (nI_leI (a := 11) (b := jζ) (by omega) (by omega)).mp c_2
      refine lv_aload_n hx hb dX5_findNeighbours_43 rfl (lv_at hl 3 rfl) ?_
      refine va_get (D := g.1) (ci := 5) (v := .ref (Gζ 1)) (C := RX5) (T := TX5) (N := 3) hx hb hts hi5 hown hK hP 0 rfl rfl 1 (by decide) (hts (.fieldLink RX5 15 "PanTales$Ways" "neighbours" "[I") (by decide +kernel)) (fun _ h9 => h9) rfl dX5_findNeighbours_44 ?_
      refine lv_iload_n hx hb dX5_findNeighbours_47 rfl (lv_at hl 2 rfl) ?_
      refine lv_iload_n hx hb dX5_findNeighbours_48 rfl (lv_at hl 1 rfl) ?_
      refine r_iast (f' := fF fζ (fun _ => 0) (iζ + 1)) hx hb hK hP hD hS 1 rfl (vp_in_nI (n := iζ) (by omega) (by omega)) (fF_s (nI_clamp (n := iζ) (by omega)) rfl) dX5_findNeighbours_49 (fun H locs hP hD hS => ?_)
      have hP : va_P g.1 vwCl [(hζ, .inr (5, [.ref (Gζ 0), .ref (Gζ 1), .null])), aI g (Gζ 1) 11 (fF fζ (fun _ => 0) (iζ + 1)), (kζ, .inr (1, oC Aζ Iζ)), aI g (Aζ 0) 121 (fun _ => 0)] H := hP
      have hD : va_D Z [(hζ, .inr (5, [.ref (Gζ 0), .ref (Gζ 1), .null])), aI g (Gζ 1) 11 (fF fζ (fun _ => 0) (iζ + 1)), (kζ, .inr (1, oC Aζ Iζ)), aI g (Aζ 0) 121 (fun _ => 0)] := hD
      refine lv_iinc (v := nI (iζ + 1)) (lv' := [(2, .int (nI (iζ + 1))), (4, .int (nI jζ)), (3, .int 0), (0, .ref hζ), (1, .ref kζ)]) hx hb dX5_findNeighbours_50 hl (k := 2) rfl (nI_1 iζ) (by decide) rfl (fun ls hl => ?_)
      refine lv_goto (tgt := 2) hx hb dX5_findNeighbours_53 (by decide) ?_
      exact ih2 (iζ + 1) (by first | omega | (dsimp only; omega)) (by first | omega | (dsimp only; omega)) _ _ _ (hP.sub [0, 1, 2, 3] rfl) (hD.sub [0, 1, 2, 3] (by decide) rfl) hS (lv_sub hl [0, 3, 4] rfl)
    · have c_2 : ¬ 11 ≤ jζ := fun z => c_2 ((nI_leI (a := 11) (b := jζ) (by omega) (by omega)).mpr z)
      refine lv_aload_n hx hb dX5_findNeighbours_20 rfl (lv_at hl 4 rfl) ?_
      refine lv_iload_n hx hb dX5_findNeighbours_21 rfl (lv_at hl 2 rfl) ?_
      refine lv_iload hx hb dX5_findNeighbours_22 (lv_at hl 0 rfl) ?_
      refine gcV_i (As := [.int (nI iζ), .int (nI jζ)]) (rest := []) (ci := 1) (q := (RX1, TX1, 12)) F hK hN hP hD hS hA (c_X1_longBetween l g H.size kζ Aζ Iζ (fun _ => 0) iζ jζ (by omega) (by omega)) gX5_findNeighbours_X1_longBetween kX1_longBetween rfl rfl rfl rfl ⟨(Nat.le_of_ble_eq_true rfl), (Nat.le_of_ble_eq_true rfl)⟩ [2, 3] [0, 1] rfl rfl rfl (by decide) rfl rfl rfl rfl rfl hl.1 (Nat.le_of_ble_eq_true rfl) dX5_findNeighbours_24 ⟨(Nat.le_of_ble_eq_true rfl), (Nat.le_of_ble_eq_true rfl)⟩ (fun r_w u_w H locs hw hP hD hS => ?_)
      have hP : va_P g.1 vwCl [(hζ, .inr (5, [.ref (Gζ 0), .ref (Gζ 1), .null])), aI g (Gζ 1) 11 (fF fζ (fun _ => 0) iζ), (kζ, .inr (1, oC Aζ Iζ)), aI g (Aζ 0) 121 (fun _ => 0)] H := hP
      have hD : va_D Z [(hζ, .inr (5, [.ref (Gζ 0), .ref (Gζ 1), .null])), aI g (Gζ 1) 11 (fF fζ (fun _ => 0) iζ), (kζ, .inr (1, oC Aζ Iζ)), aI g (Aζ 0) 121 (fun _ => 0)] := hD
      obtain rfl := hw
      refine gtop (y := 0) rfl ?_
      refine lv_if_le (tgt := 37) hx hb dX5_findNeighbours_27 (by decide) (fun c_3 => ?_) (fun c_3 => ?_)
      · refine lv_iinc (v := nI (jζ + 1)) (lv' := [(4, .int (nI (jζ + 1))), (3, .int 0), (2, .int (nI iζ)), (0, .ref hζ), (1, .ref kζ)]) hx hb dX5_findNeighbours_37 hl (k := 0) rfl (nI_1 jζ) (by decide) rfl (fun ls hl => ?_)
        refine lv_goto (tgt := 13) hx hb dX5_findNeighbours_40 (by decide) ?_
        exact ih13 (jζ + 1) (by first | omega | (dsimp only; omega)) (by first | omega | (dsimp only; omega)) _ _ _ (hP.sub [0, 1, 2, 3] rfl) (hD.sub [0, 1, 2, 3] (by decide) rfl) hS (lv_sub hl [0, 1, 2, 3, 4] rfl)
      · exact absurd (by decide) c_3
set_option maxHeartbeats 4000000 in
set_option maxRecDepth 100000 in
theorem c_X5_leadsTo (l : Launch) (g : GT) (sz : Nat) (hζ : Nat) (Gζ : Nat → Nat) (jζ : Nat) (xζ : Int32) (hjζ : jζ < 10) : Ci l yX5_leadsTo wsX5_leadsTo { frames := 1, cells := 0, slots := 0, locals := 21 } g sz [.ref hζ, .int (nI jζ), .int xζ] [(hζ, .inr (5, [.ref (Gζ 0), .ref (Gζ 1), .null])), aI g (Gζ 1) 11 (fun _ => 0)] 0 [(hζ, .inr (5, [.ref (Gζ 0), .ref (Gζ 1), .null])), aI g (Gζ 1) 11 (fun _ => 0)] := by
  refine gMet_i (cc := cX5_leadsTo) (maxL := 7) (ret := (some .boolean)) (by decide) rfl (Nat.le_of_ble_eq_true rfl) ?_
  intro p e s m args below meth c Z hx hb hr F hlk hnm hK hN hA H locs hP hD hS ls hl
  have hl : lv_has ls 7 [(0, .ref hζ), (1, .int (nI jζ)), (2, .int xζ)] := hl
  have F : CallFix p m c cX5_leadsTo 7 s args wsX5_leadsTo RX5 := F
  have hts := F.2.2.2.2
  have hown : s.vm.findClass RX5 = some m.cls := F.2.2.2.1
  have hi5 : ∀ w ∈ u_ws RX5 TX5 3, w ∈ wsX5_leadsTo := by decide +kernel
  refine lv_sipush (v := 1024) hx hb dX5_leadsTo_0 (by decide) ?_
  refine lv_istore_n (lv' := [(3, .int 1024), (0, .ref hζ), (1, .int (nI jζ)), (2, .int xζ)]) hx hb dX5_leadsTo_3 rfl hl (by decide) rfl (fun ls hl => ?_)
  refine lv_iconst (v := 0) hx hb dX5_leadsTo_4 (by decide) ?_
  refine lv_istore (lv' := [(4, .int 0), (3, .int 1024), (0, .ref hζ), (1, .int (nI jζ)), (2, .int xζ)]) hx hb dX5_leadsTo_5 hl (by decide) rfl (fun ls hl => ?_)
  refine gloop (σ := Nat) (fun u0 => 11 - u0) (fun u0 => u0 ≤ 11) (fun u0 => [(hζ, .inr (5, [.ref (Gζ 0), .ref (Gζ 1), .null])), aI g (Gζ 1) 11 (fun _ => 0)]) (fun u0 => [(4, .int (nI u0)), (3, .int 1024), (0, .ref hζ), (1, .int (nI jζ)), (2, .int xζ)]) ?_ 0 (by first | omega | decide | rfl) (hP.sub [0, 1] rfl) (hD.sub [0, 1] (by decide) rfl) hS (lv_sub hl [0, 1, 2, 3, 4] rfl)
  rintro iζ hiζ ih7 H locs ls hP hD hS hl
  have hiζ : iζ ≤ 11 := hiζ
  have hP : va_P g.1 vwCl [(hζ, .inr (5, [.ref (Gζ 0), .ref (Gζ 1), .null])), aI g (Gζ 1) 11 (fun _ => 0)] H := hP
  have hD : va_D Z [(hζ, .inr (5, [.ref (Gζ 0), .ref (Gζ 1), .null])), aI g (Gζ 1) 11 (fun _ => 0)] := hD
  have hl : lv_has ls 7 [(4, .int (nI iζ)), (3, .int 1024), (0, .ref hζ), (1, .int (nI jζ)), (2, .int xζ)] := hl
  refine lv_iload hx hb dX5_leadsTo_7 (lv_at hl 0 rfl) ?_
  refine lv_bipush (v := 11) hx hb dX5_leadsTo_9 (by decide) ?_
  refine lv_icmp_ge (tgt := 75) hx hb dX5_leadsTo_11 (by decide) (fun c_1 => ?_) (fun c_1 => ?_)
  · have c_1 : 11 ≤ iζ := (nI_leI (a := 11) (b := iζ) (by omega) (by omega)).mp c_1
    refine lv_iload_n hx hb dX5_leadsTo_75 rfl (lv_at hl 3 rfl) ?_
    refine lv_iload_n hx hb dX5_leadsTo_76 rfl (lv_at hl 1 rfl) ?_
    refine gcPN (As := [.int (nI jζ), .int 1024]) (rest := []) F (c_X6_isIn l (nI jζ) 1024) gX5_leadsTo_X6_isIn_n68 kX6_isIn (hts (.initialized RX6) (by decide +kernel)) (hN.get 12 rfl) (hts (.static yX6_isIn) (by decide +kernel)) rfl rfl rfl ⟨(Nat.le_of_ble_eq_true rfl), (Nat.le_of_ble_eq_true rfl)⟩ rfl rfl hl.1 (Nat.le_of_ble_eq_true rfl) dX5_leadsTo_77 ⟨(Nat.le_of_ble_eq_true rfl), (Nat.le_of_ble_eq_true rfl)⟩ ?_
    refine gtop (y := 0) (by rw [isIn_K hjζ]; rfl) ?_
    exact r_zret hx hb hr hlk hS () (by decide) rfl (hP.sub [0, 1] rfl) (hD.sub [0, 1] (by decide) rfl) dX5_leadsTo_80
  · have c_1 : ¬ 11 ≤ iζ := fun z => c_1 ((nI_leI (a := 11) (b := iζ) (by omega) (by omega)).mpr z)
    refine lv_iload_n hx hb dX5_leadsTo_14 rfl (lv_at hl 3 rfl) ?_
    refine lv_iload_n hx hb dX5_leadsTo_15 rfl (lv_at hl 1 rfl) ?_
    refine gcPN (As := [.int (nI jζ), .int 1024]) (rest := []) F (c_X6_isIn l (nI jζ) 1024) gX5_leadsTo_X6_isIn_n68 kX6_isIn (hts (.initialized RX6) (by decide +kernel)) (hN.get 12 rfl) (hts (.static yX6_isIn) (by decide +kernel)) rfl rfl rfl ⟨(Nat.le_of_ble_eq_true rfl), (Nat.le_of_ble_eq_true rfl)⟩ rfl rfl hl.1 (Nat.le_of_ble_eq_true rfl) dX5_leadsTo_16 ⟨(Nat.le_of_ble_eq_true rfl), (Nat.le_of_ble_eq_true rfl)⟩ ?_
    refine lv_if_ne (tgt := 75) hx hb dX5_leadsTo_19 (by decide) (fun c_2 => ?_) (fun c_2 => ?_)
    · exact absurd (by rw [isIn_K hjζ]; rfl) c_2
    · have c_2 : isInB (nI jζ) 1024 = false := bI_0 c_2
      refine lv_iload_n hx hb dX5_leadsTo_22 rfl (lv_at hl 1 rfl) ?_
      refine lv_istore (lv' := [(5, .int 1024), (4, .int (nI iζ)), (3, .int 1024), (0, .ref hζ), (1, .int (nI jζ)), (2, .int xζ)]) hx hb dX5_leadsTo_23 hl (by decide) rfl (fun ls hl => ?_)
      refine lv_iconst (v := 0) hx hb dX5_leadsTo_25 (by decide) ?_
      refine lv_istore (lv' := [(6, .int 0), (5, .int 1024), (4, .int (nI iζ)), (3, .int 1024), (0, .ref hζ), (1, .int (nI jζ)), (2, .int xζ)]) hx hb dX5_leadsTo_26 hl (by decide) rfl (fun ls hl => ?_)
      refine gloop (σ := Nat) (fun u0 => 11 - u0) (fun u0 => u0 ≤ 11) (fun u0 => [(hζ, .inr (5, [.ref (Gζ 0), .ref (Gζ 1), .null])), aI g (Gζ 1) 11 (fun _ => 0)]) (fun u0 => [(6, .int (nI u0)), (5, .int 1024), (4, .int (nI iζ)), (3, .int 1024), (0, .ref hζ), (1, .int (nI jζ)), (2, .int xζ)]) ?_ 0 (by first | omega | decide | rfl) (hP.sub [0, 1] rfl) (hD.sub [0, 1] (by decide) rfl) hS (lv_sub hl [0, 1, 2, 3, 4, 5, 6] rfl)
      rintro tζ htζ ih28 H locs ls hP hD hS hl
      have htζ : tζ ≤ 11 := htζ
      have hP : va_P g.1 vwCl [(hζ, .inr (5, [.ref (Gζ 0), .ref (Gζ 1), .null])), aI g (Gζ 1) 11 (fun _ => 0)] H := hP
      have hD : va_D Z [(hζ, .inr (5, [.ref (Gζ 0), .ref (Gζ 1), .null])), aI g (Gζ 1) 11 (fun _ => 0)] := hD
      have hl : lv_has ls 7 [(6, .int (nI tζ)), (5, .int 1024), (4, .int (nI iζ)), (3, .int 1024), (0, .ref hζ), (1, .int (nI jζ)), (2, .int xζ)] := hl
      refine lv_iload hx hb dX5_leadsTo_28 (lv_at hl 0 rfl) ?_
      refine lv_bipush (v := 11) hx hb dX5_leadsTo_30 (by decide) ?_
      refine lv_icmp_ge (tgt := 66) hx hb dX5_leadsTo_32 (by decide) (fun c_3 => ?_) (fun c_3 => ?_)
      · have c_3 : 11 ≤ tζ := (nI_leI (a := 11) (b := tζ) (by omega) (by omega)).mp c_3
        refine lv_iload hx hb dX5_leadsTo_66 (lv_at hl 1 rfl) ?_
        refine lv_istore_n (lv' := [(3, .int 1024), (6, .int (nI tζ)), (5, .int 1024), (4, .int (nI iζ)), (0, .ref hζ), (1, .int (nI jζ)), (2, .int xζ)]) hx hb dX5_leadsTo_68 rfl hl (by decide) rfl (fun ls hl => ?_)
        refine lv_iinc (v := nI (iζ + 1)) (lv' := [(4, .int (nI (iζ + 1))), (3, .int 1024), (6, .int (nI tζ)), (5, .int 1024), (0, .ref hζ), (1, .int (nI jζ)), (2, .int xζ)]) hx hb dX5_leadsTo_69 hl (k := 3) rfl (nI_1 iζ) (by decide) rfl (fun ls hl => ?_)
        refine lv_goto (tgt := 7) hx hb dX5_leadsTo_72 (by decide) ?_
        exact ih7 (iζ + 1) (by first | omega | (dsimp only; omega)) (by first | omega | (dsimp only; omega)) _ _ _ (hP.sub [0, 1] rfl) (hD.sub [0, 1] (by decide) rfl) hS (lv_sub hl [0, 1, 4, 5, 6] rfl)
      · have c_3 : ¬ 11 ≤ tζ := fun z => c_3 ((nI_leI (a := 11) (b := tζ) (by omega) (by omega)).mpr z)
        refine lv_iload hx hb dX5_leadsTo_35 (lv_at hl 0 rfl) ?_
        refine lv_iload_n hx hb dX5_leadsTo_37 rfl (lv_at hl 3 rfl) ?_
        refine gcPN (As := [.int (nI tζ), .int 1024]) (rest := []) F (c_X6_isIn l (nI tζ) 1024) gX5_leadsTo_X6_isIn_n68 kX6_isIn (hts (.initialized RX6) (by decide +kernel)) (hN.get 12 rfl) (hts (.static yX6_isIn) (by decide +kernel)) rfl rfl rfl ⟨(Nat.le_of_ble_eq_true rfl), (Nat.le_of_ble_eq_true rfl)⟩ rfl rfl hl.1 (Nat.le_of_ble_eq_true rfl) dX5_leadsTo_38 ⟨(Nat.le_of_ble_eq_true rfl), (Nat.le_of_ble_eq_true rfl)⟩ ?_
        refine lv_if_eq (tgt := 60) hx hb dX5_leadsTo_41 (by decide) (fun c_4 => ?_) (fun c_4 => ?_)
        · have c_4 : isInB (nI tζ) 1024 = false := bI_0 c_4
          refine lv_iinc (v := nI (tζ + 1)) (lv' := [(6, .int (nI (tζ + 1))), (5, .int 1024), (4, .int (nI iζ)), (3, .int 1024), (0, .ref hζ), (1, .int (nI jζ)), (2, .int xζ)]) hx hb dX5_leadsTo_60 hl (k := 0) rfl (nI_1 tζ) (by decide) rfl (fun ls hl => ?_)
          refine lv_goto (tgt := 28) hx hb dX5_leadsTo_63 (by decide) ?_
          exact ih28 (tζ + 1) (by first | omega | (dsimp only; omega)) (by first | omega | (dsimp only; omega)) _ _ _ (hP.sub [0, 1] rfl) (hD.sub [0, 1] (by decide) rfl) hS (lv_sub hl [0, 1, 2, 3, 4, 5, 6] rfl)
        · have c_4 : isInB (nI tζ) 1024 = true := bI_1 c_4
          refine lv_iload hx hb dX5_leadsTo_44 (lv_at hl 1 rfl) ?_
          refine lv_aload_n hx hb dX5_leadsTo_46 rfl (lv_at hl 4 rfl) ?_
          refine va_get (D := g.1) (ci := 5) (v := .ref (Gζ 1)) (C := RX5) (T := TX5) (N := 3) hx hb hts hi5 hown hK hP 0 rfl rfl 1 (by decide) (hts (.fieldLink RX5 15 "PanTales$Ways" "neighbours" "[I") (by decide +kernel)) (fun _ h9 => h9) rfl dX5_leadsTo_47 ?_
          refine lv_iload hx hb dX5_leadsTo_50 (lv_at hl 0 rfl) ?_
          refine r_iald (v := 0) hx hb hK hP 1 rfl (vp_in_nI (n := tζ) (by omega) (by omega)) (congrArg (fun _ => 0) (nI_clamp (n := tζ) (by omega))) dX5_leadsTo_52 ?_
          refine lv_iload_n hx hb dX5_leadsTo_53 rfl (lv_at hl 6 rfl) ?_
          refine lv_iconst (v := (-1)) hx hb dX5_leadsTo_54 (by decide) ?_
          refine lv_ixor hx hb dX5_leadsTo_55 ?_
          refine lv_iand hx hb dX5_leadsTo_56 ?_
          refine gtop (y := 0) (and_0 _) ?_
          refine lv_ior hx hb dX5_leadsTo_57 ?_
          refine gtop (y := 1024) (by decide) ?_
          refine lv_istore (lv' := [(5, .int 1024), (6, .int (nI tζ)), (4, .int (nI iζ)), (3, .int 1024), (0, .ref hζ), (1, .int (nI jζ)), (2, .int xζ)]) hx hb dX5_leadsTo_58 hl (by decide) rfl (fun ls hl => ?_)
          refine lv_iinc (v := nI (tζ + 1)) (lv' := [(6, .int (nI (tζ + 1))), (5, .int 1024), (4, .int (nI iζ)), (3, .int 1024), (0, .ref hζ), (1, .int (nI jζ)), (2, .int xζ)]) hx hb dX5_leadsTo_60 hl (k := 1) rfl (nI_1 tζ) (by decide) rfl (fun ls hl => ?_)
          refine lv_goto (tgt := 28) hx hb dX5_leadsTo_63 (by decide) ?_
          exact ih28 (tζ + 1) (by first | omega | (dsimp only; omega)) (by first | omega | (dsimp only; omega)) _ _ _ (hP.sub [0, 1] rfl) (hD.sub [0, 1] (by decide) rfl) hS (lv_sub hl [0, 1, 2, 3, 4, 5, 6] rfl)

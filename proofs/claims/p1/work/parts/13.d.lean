theorem kX7_winsBy : YOk yX7_winsBy 2 := by decide +kernel
theorem kX7_findWins : YOk yX7_findWins 1 := by decide +kernel
theorem kX7_embers : YOk yX7_embers 2 := by decide +kernel
set_option maxHeartbeats 4000000 in
set_option maxRecDepth 100000 in
theorem c_X7_winsBy (l : Launch) (g : GT) (sz : Nat) (hζ : Nat) (Aζ : Nat → Nat) (fζ : Nat → Int32) (l0ζ kζ : Nat) (hk1ζ : 1 ≤ kζ) (hklζ : kζ ≤ l0ζ) (hl0ζ : l0ζ ≤ 60) (hwfζ : ∀ q, q / 61 < l0ζ → fζ q = wnF q) : Ci l yX7_winsBy wsX7_winsBy { frames := 0, cells := 0, slots := 0, locals := 0 } g sz [.ref hζ, .int (nI l0ζ), .int (nI kζ)] [(hζ, .inr (7, oM Aζ iM0)), aZ g (Aζ 29) 3721 fζ] (bI (wbB l0ζ kζ)) [(hζ, .inr (7, oM Aζ iM0)), aZ g (Aζ 29) 3721 fζ] := by
  refine gMet_i (cc := cX7_winsBy) (maxL := 4) (ret := (some .boolean)) (by decide) rfl (Nat.le_of_ble_eq_true rfl) ?_
  intro p e s m args below meth c Z hx hb hr F hlk hnm hK hN hA H locs hP hD hS ls hl
  have hl : lv_has ls 4 [(0, .ref hζ), (1, .int (nI l0ζ)), (2, .int (nI kζ))] := hl
  have F : CallFix p m c cX7_winsBy 4 s args wsX7_winsBy RX7 := F
  have hts := F.2.2.2.2
  have hown : s.vm.findClass RX7 = some m.cls := F.2.2.2.1
  have hi7 : ∀ w ∈ u_ws RX7 TX7 34, w ∈ wsX7_winsBy := by decide +kernel
  refine lv_iconst (v := 2) hx hb dX7_winsBy_0 (by decide) ?_
  refine lv_iload_n hx hb dX7_winsBy_1 rfl (lv_at hl 2 rfl) ?_
  refine lv_imul hx hb dX7_winsBy_2 ?_
  refine gtop (y := nI (2 * kζ)) (pk_mul 2 kζ) ?_
  refine lv_iload_n hx hb dX7_winsBy_3 rfl (lv_at hl 1 rfl) ?_
  refine lv_iload_n hx hb dX7_winsBy_4 rfl (lv_at hl 2 rfl) ?_
  refine lv_isub hx hb dX7_winsBy_5 ?_
  refine gtop (y := nI (l0ζ - kζ)) (pk_sub (a := l0ζ) (b := kζ) (by omega)) ?_
  refine lv_icmp_ge (tgt := 15) hx hb dX7_winsBy_6 (by decide) (fun c_1 => ?_) (fun c_1 => ?_)
  · have c_1 : (l0ζ - kζ) ≤ (2 * kζ) := (nI_leI (a := (l0ζ - kζ)) (b := (2 * kζ)) (by omega) (by omega)).mp c_1
    refine lv_iload_n hx hb dX7_winsBy_15 rfl (lv_at hl 1 rfl) ?_
    refine lv_iload_n hx hb dX7_winsBy_16 rfl (lv_at hl 2 rfl) ?_
    refine lv_isub hx hb dX7_winsBy_17 ?_
    refine gtop (y := nI (l0ζ - kζ)) (pk_sub (a := l0ζ) (b := kζ) (by omega)) ?_
    refine gtop (y := nI (moF l0ζ kζ)) (congrArg nI (by unfold moF; rw [if_neg (by omega)])) ?_
    refine lv_istore_n (lv' := [(3, .int (nI (moF l0ζ kζ))), (0, .ref hζ), (1, .int (nI l0ζ)), (2, .int (nI kζ))]) hx hb dX7_winsBy_18 rfl hl (by decide) rfl (fun ls hl => ?_)
    refine lv_iload_n hx hb dX7_winsBy_19 rfl (lv_at hl 3 rfl) ?_
    refine lv_iload_n hx hb dX7_winsBy_20 rfl (lv_at hl 2 rfl) ?_
    refine lv_icmp_eq (tgt := 40) hx hb dX7_winsBy_21 (by decide) (fun c_2 => ?_) (fun c_2 => ?_)
    · have c_2 : kζ = l0ζ := (nI_eq (a := kζ) (b := l0ζ) (by omega) (by omega)).mp c_2
      refine lv_iconst (v := 1) hx hb dX7_winsBy_40 (by decide) ?_
      refine lv_goto (tgt := 45) hx hb dX7_winsBy_41 (by decide) ?_
      exact r_zret hx hb hr hlk hS () (by decide) (by rw [show kζ = l0ζ by omega]; exact wb_eq) (hP.sub [0, 1] rfl) (hD.sub [0, 1] (by decide) rfl) dX7_winsBy_45
    · have c_2 : ¬ kζ = l0ζ := fun z => c_2 ((nI_eq (a := kζ) (b := l0ζ) (by omega) (by omega)).mpr z)
      have hmoζ : moF l0ζ kζ ≤ l0ζ - kζ := mo_le
      have hneζ : ¬ kζ = l0ζ := by omega
      refine lv_aload_n hx hb dX7_winsBy_24 rfl (lv_at hl 1 rfl) ?_
      refine va_get (D := g.1) (ci := 7) (v := .ref (Aζ 29)) (C := RX7) (T := TX7) (N := 34) hx hb hts hi7 hown hK hP 0 rfl rfl 29 (by decide) (hts (.fieldLink RX7 62 "PanTalesModel" "wins" "[Z") (by decide +kernel)) (fun _ h9 => h9) rfl dX7_winsBy_25 ?_
      refine lv_bipush (v := 61) hx hb dX7_winsBy_28 (by decide) ?_
      refine lv_iload_n hx hb dX7_winsBy_30 rfl (lv_at hl 2 rfl) ?_
      refine lv_iload_n hx hb dX7_winsBy_31 rfl (lv_at hl 3 rfl) ?_
      refine lv_isub hx hb dX7_winsBy_32 ?_
      refine gtop (y := nI (l0ζ - kζ)) (pk_sub (a := l0ζ) (b := kζ) (by omega)) ?_
      refine lv_imul hx hb dX7_winsBy_33 ?_
      refine gtop (y := nI (61 * (l0ζ - kζ))) (pk_mul 61 (l0ζ - kζ)) ?_
      refine lv_iload_n hx hb dX7_winsBy_34 rfl (lv_at hl 0 rfl) ?_
      refine lv_iadd hx hb dX7_winsBy_35 ?_
      refine gtop (y := nI ((61 * (l0ζ - kζ)) + (moF l0ζ kζ))) (nI_add (61 * (l0ζ - kζ)) (moF l0ζ kζ)) ?_
      refine r_zald (v := bI (decide (1 ≤ moF l0ζ kζ ∧ tkN (l0ζ - kζ) ≤ moF l0ζ kζ))) hx hb hK hP 1 rfl (vp_in_nI (n := (61 * (l0ζ - kζ)) + (moF l0ζ kζ)) (by omega) (by omega)) ((congrArg fζ (nI_clamp (n := 61 * (l0ζ - kζ) + moF l0ζ kζ) (by omega))).trans ((hwfζ _ (by omega)).trans (mo_v hk1ζ (by omega) hl0ζ))) dX7_winsBy_36 ?_
      refine lv_if_ne (tgt := 44) hx hb dX7_winsBy_37 (by decide) (fun c_3 => ?_) (fun c_3 => ?_)
      · have c_3 : decide (1 ≤ moF l0ζ kζ ∧ tkN (l0ζ - kζ) ≤ moF l0ζ kζ) = true := bI_1 c_3
        refine lv_iconst (v := 0) hx hb dX7_winsBy_44 (by decide) ?_
        exact r_zret hx hb hr hlk hS () (by decide) (by rw [wb_n hneζ c_3]; rfl) (hP.sub [0, 1] rfl) (hD.sub [0, 1] (by decide) rfl) dX7_winsBy_45
      · have c_3 : decide (1 ≤ moF l0ζ kζ ∧ tkN (l0ζ - kζ) ≤ moF l0ζ kζ) = false := bI_0 c_3
        refine lv_iconst (v := 1) hx hb dX7_winsBy_40 (by decide) ?_
        refine lv_goto (tgt := 45) hx hb dX7_winsBy_41 (by decide) ?_
        exact r_zret hx hb hr hlk hS () (by decide) (by rw [wb_n hneζ c_3]; rfl) (hP.sub [0, 1] rfl) (hD.sub [0, 1] (by decide) rfl) dX7_winsBy_45
  · have c_1 : ¬ (l0ζ - kζ) ≤ (2 * kζ) := fun z => c_1 ((nI_leI (a := (l0ζ - kζ)) (b := (2 * kζ)) (by omega) (by omega)).mpr z)
    refine lv_iconst (v := 2) hx hb dX7_winsBy_9 (by decide) ?_
    refine lv_iload_n hx hb dX7_winsBy_10 rfl (lv_at hl 2 rfl) ?_
    refine lv_imul hx hb dX7_winsBy_11 ?_
    refine gtop (y := nI (2 * kζ)) (pk_mul 2 kζ) ?_
    refine lv_goto (tgt := 18) hx hb dX7_winsBy_12 (by decide) ?_
    refine gtop (y := nI (moF l0ζ kζ)) (congrArg nI (by unfold moF; rw [if_pos (by omega)])) ?_
    refine lv_istore_n (lv' := [(3, .int (nI (moF l0ζ kζ))), (0, .ref hζ), (1, .int (nI l0ζ)), (2, .int (nI kζ))]) hx hb dX7_winsBy_18 rfl hl (by decide) rfl (fun ls hl => ?_)
    refine lv_iload_n hx hb dX7_winsBy_19 rfl (lv_at hl 3 rfl) ?_
    refine lv_iload_n hx hb dX7_winsBy_20 rfl (lv_at hl 2 rfl) ?_
    refine lv_icmp_eq (tgt := 40) hx hb dX7_winsBy_21 (by decide) (fun c_4 => ?_) (fun c_4 => ?_)
    · have c_4 : kζ = l0ζ := (nI_eq (a := kζ) (b := l0ζ) (by omega) (by omega)).mp c_4
      refine lv_iconst (v := 1) hx hb dX7_winsBy_40 (by decide) ?_
      refine lv_goto (tgt := 45) hx hb dX7_winsBy_41 (by decide) ?_
      exact r_zret hx hb hr hlk hS () (by decide) (by rw [show kζ = l0ζ by omega]; exact wb_eq) (hP.sub [0, 1] rfl) (hD.sub [0, 1] (by decide) rfl) dX7_winsBy_45
    · have c_4 : ¬ kζ = l0ζ := fun z => c_4 ((nI_eq (a := kζ) (b := l0ζ) (by omega) (by omega)).mpr z)
      have hmoζ : moF l0ζ kζ ≤ l0ζ - kζ := mo_le
      have hneζ : ¬ kζ = l0ζ := by omega
      refine lv_aload_n hx hb dX7_winsBy_24 rfl (lv_at hl 1 rfl) ?_
      refine va_get (D := g.1) (ci := 7) (v := .ref (Aζ 29)) (C := RX7) (T := TX7) (N := 34) hx hb hts hi7 hown hK hP 0 rfl rfl 29 (by decide) (hts (.fieldLink RX7 62 "PanTalesModel" "wins" "[Z") (by decide +kernel)) (fun _ h9 => h9) rfl dX7_winsBy_25 ?_
      refine lv_bipush (v := 61) hx hb dX7_winsBy_28 (by decide) ?_
      refine lv_iload_n hx hb dX7_winsBy_30 rfl (lv_at hl 2 rfl) ?_
      refine lv_iload_n hx hb dX7_winsBy_31 rfl (lv_at hl 3 rfl) ?_
      refine lv_isub hx hb dX7_winsBy_32 ?_
      refine gtop (y := nI (l0ζ - kζ)) (pk_sub (a := l0ζ) (b := kζ) (by omega)) ?_
      refine lv_imul hx hb dX7_winsBy_33 ?_
      refine gtop (y := nI (61 * (l0ζ - kζ))) (pk_mul 61 (l0ζ - kζ)) ?_
      refine lv_iload_n hx hb dX7_winsBy_34 rfl (lv_at hl 0 rfl) ?_
      refine lv_iadd hx hb dX7_winsBy_35 ?_
      refine gtop (y := nI ((61 * (l0ζ - kζ)) + (moF l0ζ kζ))) (nI_add (61 * (l0ζ - kζ)) (moF l0ζ kζ)) ?_
      refine r_zald (v := bI (decide (1 ≤ moF l0ζ kζ ∧ tkN (l0ζ - kζ) ≤ moF l0ζ kζ))) hx hb hK hP 1 rfl (vp_in_nI (n := (61 * (l0ζ - kζ)) + (moF l0ζ kζ)) (by omega) (by omega)) ((congrArg fζ (nI_clamp (n := 61 * (l0ζ - kζ) + moF l0ζ kζ) (by omega))).trans ((hwfζ _ (by omega)).trans (mo_v hk1ζ (by omega) hl0ζ))) dX7_winsBy_36 ?_
      refine lv_if_ne (tgt := 44) hx hb dX7_winsBy_37 (by decide) (fun c_5 => ?_) (fun c_5 => ?_)
      · have c_5 : decide (1 ≤ moF l0ζ kζ ∧ tkN (l0ζ - kζ) ≤ moF l0ζ kζ) = true := bI_1 c_5
        refine lv_iconst (v := 0) hx hb dX7_winsBy_44 (by decide) ?_
        exact r_zret hx hb hr hlk hS () (by decide) (by rw [wb_n hneζ c_5]; rfl) (hP.sub [0, 1] rfl) (hD.sub [0, 1] (by decide) rfl) dX7_winsBy_45
      · have c_5 : decide (1 ≤ moF l0ζ kζ ∧ tkN (l0ζ - kζ) ≤ moF l0ζ kζ) = false := bI_0 c_5
        refine lv_iconst (v := 1) hx hb dX7_winsBy_40 (by decide) ?_
        refine lv_goto (tgt := 45) hx hb dX7_winsBy_41 (by decide) ?_
        exact r_zret hx hb hr hlk hS () (by decide) (by rw [wb_n hneζ c_5]; rfl) (hP.sub [0, 1] rfl) (hD.sub [0, 1] (by decide) rfl) dX7_winsBy_45
set_option maxHeartbeats 4000000 in
set_option maxRecDepth 100000 in
theorem c_X7_findWins (l : Launch) (g : GT) (sz : Nat) (hζ : Nat) (Aζ : Nat → Nat) (nζ : Nat) (hnζ : nζ ≤ 60) : Cv l yX7_findWins wsX7_findWins { frames := 1, cells := 0, slots := 0, locals := 23 } g sz [.ref hζ, .int (nI nζ)] [(hζ, .inr (7, oM Aζ iM0)), aZ g (Aζ 29) 3721 (fun _ => 0)] [(hζ, .inr (7, oM Aζ iM0)), aZ g (Aζ 29) 3721 (wpF (nζ + 1) 0)] := by
  refine gMet_v (cc := cX7_findWins) (maxL := 4) (ret := none) (by decide) rfl (Nat.le_of_ble_eq_true rfl) ?_
  intro p e s m args below meth c Z hx hb hr F hlk hnm hK hN hA H locs hP hD hS ls hl
  have hl : lv_has ls 4 [(0, .ref hζ), (1, .int (nI nζ))] := hl
  have F : CallFix p m c cX7_findWins 4 s args wsX7_findWins RX7 := F
  have hts := F.2.2.2.2
  have hown : s.vm.findClass RX7 = some m.cls := F.2.2.2.1
  have hi7 : ∀ w ∈ u_ws RX7 TX7 34, w ∈ wsX7_findWins := by decide +kernel
  refine lv_iconst (v := 0) hx hb dX7_findWins_0 (by decide) ?_
  refine lv_istore_n (lv' := [(2, .int 0), (0, .ref hζ), (1, .int (nI nζ))]) hx hb dX7_findWins_1 rfl hl (by decide) rfl (fun ls hl => ?_)
  obtain ⟨hP, hD⟩ := r_extI hP hD 1 rfl (f' := wpF 0 0) wp_0
  have hP : va_P g.1 vwCl [(hζ, .inr (7, oM Aζ iM0)), aZ g (Aζ 29) 3721 (wpF 0 0)] H := hP
  have hD : va_D Z [(hζ, .inr (7, oM Aζ iM0)), aZ g (Aζ 29) 3721 (wpF 0 0)] := hD
  refine gloop (σ := Nat) (fun u0 => nζ + 1 - u0) (fun u0 => u0 ≤ nζ + 1) (fun u0 => [(hζ, .inr (7, oM Aζ iM0)), aZ g (Aζ 29) 3721 (wpF u0 0)]) (fun u0 => [(2, .int (nI u0)), (0, .ref hζ), (1, .int (nI nζ))]) ?_ 0 (by first | omega | decide | rfl) (hP.sub [0, 1] rfl) (hD.sub [0, 1] (by decide) rfl) hS (lv_sub hl [0, 1, 2] rfl)
  rintro l0ζ hl0ζ ih2 H locs ls hP hD hS hl
  have hl0ζ : l0ζ ≤ nζ + 1 := hl0ζ
  have hP : va_P g.1 vwCl [(hζ, .inr (7, oM Aζ iM0)), aZ g (Aζ 29) 3721 (wpF l0ζ 0)] H := hP
  have hD : va_D Z [(hζ, .inr (7, oM Aζ iM0)), aZ g (Aζ 29) 3721 (wpF l0ζ 0)] := hD
  have hl : lv_has ls 4 [(2, .int (nI l0ζ)), (0, .ref hζ), (1, .int (nI nζ))] := hl
  refine lv_iload_n hx hb dX7_findWins_2 rfl (lv_at hl 0 rfl) ?_
  refine lv_iload_n hx hb dX7_findWins_3 rfl (lv_at hl 2 rfl) ?_
  refine lv_icmp_gt (tgt := 77) hx hb dX7_findWins_4 (by decide) (fun c_1 => ?_) (fun c_1 => ?_)
  · have c_1 : nζ < l0ζ := (nI_ltI (a := nζ) (b := l0ζ) (by omega) (by omega)).mp c_1
    have elζ : l0ζ = nζ + 1 := by omega
    obtain ⟨hP, hD⟩ := r_extI hP hD 1 rfl (f' := wpF (nζ + 1) 0) (by intro q_u _; rw [elζ])
    have hP : va_P g.1 vwCl [(hζ, .inr (7, oM Aζ iM0)), aZ g (Aζ 29) 3721 (wpF (nζ + 1) 0)] H := hP
    have hD : va_D Z [(hζ, .inr (7, oM Aζ iM0)), aZ g (Aζ 29) 3721 (wpF (nζ + 1) 0)] := hD
    exact r_vret hx hb hr hlk hS () trivial (hP.sub [0, 1] rfl) (hD.sub [0, 1] (by decide) rfl) dX7_findWins_77
  · have c_1 : ¬ nζ < l0ζ := fun z => c_1 ((nI_ltI (a := nζ) (b := l0ζ) (by omega) (by omega)).mpr z)
    refine lv_aload_n hx hb dX7_findWins_7 rfl (lv_at hl 1 rfl) ?_
    refine va_get (D := g.1) (ci := 7) (v := .ref (Aζ 29)) (C := RX7) (T := TX7) (N := 34) hx hb hts hi7 hown hK hP 0 rfl rfl 29 (by decide) (hts (.fieldLink RX7 62 "PanTalesModel" "wins" "[Z") (by decide +kernel)) (fun _ h9 => h9) rfl dX7_findWins_8 ?_
    refine lv_bipush (v := 61) hx hb dX7_findWins_11 (by decide) ?_
    refine lv_iload_n hx hb dX7_findWins_13 rfl (lv_at hl 0 rfl) ?_
    refine lv_imul hx hb dX7_findWins_14 ?_
    refine gtop (y := nI (61 * l0ζ)) (pk_mul 61 l0ζ) ?_
    refine lv_iconst (v := 0) hx hb dX7_findWins_15 (by decide) ?_
    refine r_zast (f' := wpF l0ζ 1) hx hb hK hP hD hS 1 rfl (vp_in_nI (n := 61 * l0ζ) (by omega) (by omega)) (wp_1 (nI_clamp (n := 61 * l0ζ) (by omega))) dX7_findWins_16 (fun H locs hP hD hS => ?_)
    have hP : va_P g.1 vwCl [(hζ, .inr (7, oM Aζ iM0)), aZ g (Aζ 29) 3721 (wpF l0ζ 1)] H := hP
    have hD : va_D Z [(hζ, .inr (7, oM Aζ iM0)), aZ g (Aζ 29) 3721 (wpF l0ζ 1)] := hD
    refine lv_iconst (v := 1) hx hb dX7_findWins_17 (by decide) ?_
    refine lv_istore_n (lv' := [(3, .int 1), (2, .int (nI l0ζ)), (0, .ref hζ), (1, .int (nI nζ))]) hx hb dX7_findWins_18 rfl hl (by decide) rfl (fun ls hl => ?_)
    refine gloop (σ := Nat) (fun u0 => l0ζ + 1 - u0) (fun u0 => 1 ≤ u0 ∧ u0 ≤ l0ζ + 1) (fun u0 => [(hζ, .inr (7, oM Aζ iM0)), aZ g (Aζ 29) 3721 (wpF l0ζ u0)]) (fun u0 => [(3, .int (nI u0)), (2, .int (nI l0ζ)), (0, .ref hζ), (1, .int (nI nζ))]) ?_ 1 ⟨(by first | omega | decide | rfl), (by first | omega | decide | rfl)⟩ (hP.sub [0, 1] rfl) (hD.sub [0, 1] (by decide) rfl) hS (lv_sub hl [0, 1, 2, 3] rfl)
    rintro kζ ⟨hk1ζ, hklζ⟩ ih19 H locs ls hP hD hS hl
    have hk1ζ : 1 ≤ kζ := hk1ζ
    have hklζ : kζ ≤ l0ζ + 1 := hklζ
    have hP : va_P g.1 vwCl [(hζ, .inr (7, oM Aζ iM0)), aZ g (Aζ 29) 3721 (wpF l0ζ kζ)] H := hP
    have hD : va_D Z [(hζ, .inr (7, oM Aζ iM0)), aZ g (Aζ 29) 3721 (wpF l0ζ kζ)] := hD
    have hl : lv_has ls 4 [(3, .int (nI kζ)), (2, .int (nI l0ζ)), (0, .ref hζ), (1, .int (nI nζ))] := hl
    refine lv_iload_n hx hb dX7_findWins_19 rfl (lv_at hl 0 rfl) ?_
    refine lv_iload_n hx hb dX7_findWins_20 rfl (lv_at hl 1 rfl) ?_
    refine lv_icmp_gt (tgt := 71) hx hb dX7_findWins_21 (by decide) (fun c_2 => ?_) (fun c_2 => ?_)
    · have c_2 : l0ζ < kζ := (nI_ltI (a := l0ζ) (b := kζ) (by omega) (by omega)).mp c_2
      obtain ⟨hP, hD⟩ := r_extI hP hD 1 rfl (f' := wpF (l0ζ + 1) 0) (by intro q_u hq_u; have e_u : kζ = l0ζ + 1 := (by omega); rw [e_u]; exact wp_n (by omega) q_u hq_u)
      have hP : va_P g.1 vwCl [(hζ, .inr (7, oM Aζ iM0)), aZ g (Aζ 29) 3721 (wpF (l0ζ + 1) 0)] H := hP
      have hD : va_D Z [(hζ, .inr (7, oM Aζ iM0)), aZ g (Aζ 29) 3721 (wpF (l0ζ + 1) 0)] := hD
      refine lv_iinc (v := nI (l0ζ + 1)) (lv' := [(2, .int (nI (l0ζ + 1))), (3, .int (nI kζ)), (0, .ref hζ), (1, .int (nI nζ))]) hx hb dX7_findWins_71 hl (k := 1) rfl (nI_1 l0ζ) (by decide) rfl (fun ls hl => ?_)
      refine lv_goto (tgt := 2) hx hb dX7_findWins_74 (by decide) ?_
      exact ih2 (l0ζ + 1) (by first | omega | (dsimp only; omega)) (by first | omega | (dsimp only; omega)) _ _ _ (hP.sub [0, 1] rfl) (hD.sub [0, 1] (by decide) rfl) hS (lv_sub hl [0, 2, 3] rfl)
    · have c_2 : ¬ l0ζ < kζ := fun z => c_2 ((nI_ltI (a := l0ζ) (b := kζ) (by omega) (by omega)).mpr z)
      refine lv_aload_n hx hb dX7_findWins_24 rfl (lv_at hl 2 rfl) ?_
      refine va_get (D := g.1) (ci := 7) (v := .ref (Aζ 29)) (C := RX7) (T := TX7) (N := 34) hx hb hts hi7 hown hK hP 0 rfl rfl 29 (by decide) (hts (.fieldLink RX7 62 "PanTalesModel" "wins" "[Z") (by decide +kernel)) (fun _ h9 => h9) rfl dX7_findWins_25 ?_
      refine lv_bipush (v := 61) hx hb dX7_findWins_28 (by decide) ?_
      refine lv_iload_n hx hb dX7_findWins_30 rfl (lv_at hl 1 rfl) ?_
      refine lv_imul hx hb dX7_findWins_31 ?_
      refine gtop (y := nI (61 * l0ζ)) (pk_mul 61 l0ζ) ?_
      refine lv_iload_n hx hb dX7_findWins_32 rfl (lv_at hl 0 rfl) ?_
      refine lv_iadd hx hb dX7_findWins_33 ?_
      refine gtop (y := nI ((61 * l0ζ) + kζ)) (nI_add (61 * l0ζ) kζ) ?_
      refine lv_aload_n hx hb dX7_findWins_34 rfl (lv_at hl 2 rfl) ?_
      refine va_get (D := g.1) (ci := 7) (v := .ref (Aζ 29)) (C := RX7) (T := TX7) (N := 34) hx hb hts hi7 hown hK hP 0 rfl rfl 29 (by decide) (hts (.fieldLink RX7 62 "PanTalesModel" "wins" "[Z") (by decide +kernel)) (fun _ h9 => h9) rfl dX7_findWins_35 ?_
      refine lv_bipush (v := 61) hx hb dX7_findWins_38 (by decide) ?_
      refine lv_iload_n hx hb dX7_findWins_40 rfl (lv_at hl 1 rfl) ?_
      refine lv_imul hx hb dX7_findWins_41 ?_
      refine gtop (y := nI (61 * l0ζ)) (pk_mul 61 l0ζ) ?_
      refine lv_iload_n hx hb dX7_findWins_42 rfl (lv_at hl 0 rfl) ?_
      refine lv_iadd hx hb dX7_findWins_43 ?_
      refine gtop (y := nI ((61 * l0ζ) + kζ)) (nI_add (61 * l0ζ) kζ) ?_
      refine lv_iconst (v := 1) hx hb dX7_findWins_44 (by decide) ?_
      refine lv_isub hx hb dX7_findWins_45 ?_
      refine gtop (y := nI (61 * l0ζ + kζ - 1)) (pk_sub (a := 61 * l0ζ + kζ) (b := 1) (by omega)) ?_
      refine r_zald (v := bI (decide (1 ≤ kζ - 1 ∧ tkN l0ζ ≤ kζ - 1))) hx hb hK hP 1 rfl (vp_in_nI (n := 61 * l0ζ + kζ - 1) (by omega) (by omega)) ((wp_v (nI_clamp (n := 61 * l0ζ + kζ - 1) (by omega)) (by omega)).trans (wn_p hk1ζ (by omega) (by omega))) dX7_findWins_46 ?_
      refine lv_if_ne (tgt := 59) hx hb dX7_findWins_47 (by decide) (fun c_3 => ?_) (fun c_3 => ?_)
      · have c_3 : decide (1 ≤ kζ - 1 ∧ tkN l0ζ ≤ kζ - 1) = true := bI_1 c_3
        refine lv_iconst (v := 1) hx hb dX7_findWins_59 (by decide) ?_
        refine lv_goto (tgt := 64) hx hb dX7_findWins_60 (by decide) ?_
        refine r_zast (f' := wpF l0ζ (kζ + 1)) hx hb hK hP hD hS 1 rfl (vp_in_nI (n := (61 * l0ζ) + kζ) (by omega) (by omega)) (wp_s (nI_clamp (n := 61 * l0ζ + kζ) (by omega)) (by omega) (wn_1 hk1ζ (by omega) (by omega) c_3)) dX7_findWins_64 (fun H locs hP hD hS => ?_)
        have hP : va_P g.1 vwCl [(hζ, .inr (7, oM Aζ iM0)), aZ g (Aζ 29) 3721 (wpF l0ζ (kζ + 1))] H := hP
        have hD : va_D Z [(hζ, .inr (7, oM Aζ iM0)), aZ g (Aζ 29) 3721 (wpF l0ζ (kζ + 1))] := hD
        refine lv_iinc (v := nI (kζ + 1)) (lv' := [(3, .int (nI (kζ + 1))), (2, .int (nI l0ζ)), (0, .ref hζ), (1, .int (nI nζ))]) hx hb dX7_findWins_65 hl (k := 0) rfl (nI_1 kζ) (by decide) rfl (fun ls hl => ?_)
        refine lv_goto (tgt := 19) hx hb dX7_findWins_68 (by decide) ?_
        exact ih19 (kζ + 1) ⟨(by first | omega | (dsimp only; omega)), (by first | omega | (dsimp only; omega))⟩ (by first | omega | (dsimp only; omega)) _ _ _ (hP.sub [0, 1] rfl) (hD.sub [0, 1] (by decide) rfl) hS (lv_sub hl [0, 1, 2, 3] rfl)
      · have c_3 : decide (1 ≤ kζ - 1 ∧ tkN l0ζ ≤ kζ - 1) = false := bI_0 c_3
        refine lv_aload_n hx hb dX7_findWins_50 rfl (lv_at hl 2 rfl) ?_
        refine lv_iload_n hx hb dX7_findWins_51 rfl (lv_at hl 1 rfl) ?_
        refine lv_iload_n hx hb dX7_findWins_52 rfl (lv_at hl 0 rfl) ?_
        refine gcV_i (As := [.int (nI l0ζ), .int (nI kζ)]) (rest := [.int (nI ((61 * l0ζ) + kζ)), .ref (Aζ 29)]) (ci := 7) (q := (RX7, TX7, 34)) F hK hN hP hD hS hA (c_X7_winsBy l g H.size hζ Aζ (wpF l0ζ kζ) l0ζ kζ (by omega) (by omega) (by omega) (fun q_u hq_u => by unfold wpF; rw [if_pos (Or.inl hq_u)])) gX7_findWins_X7_winsBy kX7_winsBy rfl rfl rfl rfl ⟨(Nat.le_of_ble_eq_true rfl), (Nat.le_of_ble_eq_true rfl)⟩ [0, 1] [] rfl rfl rfl (by decide) rfl rfl rfl rfl rfl hl.1 (Nat.le_of_ble_eq_true rfl) dX7_findWins_53 ⟨(Nat.le_of_ble_eq_true rfl), (Nat.le_of_ble_eq_true rfl)⟩ (fun r_w u_w H locs hw hP hD hS => ?_)
        have hP : va_P g.1 vwCl [(hζ, .inr (7, oM Aζ iM0)), aZ g (Aζ 29) 3721 (wpF l0ζ kζ)] H := hP
        have hD : va_D Z [(hζ, .inr (7, oM Aζ iM0)), aZ g (Aζ 29) 3721 (wpF l0ζ kζ)] := hD
        obtain rfl := hw
        refine lv_if_eq (tgt := 63) hx hb dX7_findWins_56 (by decide) (fun c_4 => ?_) (fun c_4 => ?_)
        · have c_4 : wbB l0ζ kζ = false := bI_0 c_4
          refine lv_iconst (v := 0) hx hb dX7_findWins_63 (by decide) ?_
          refine r_zast (f' := wpF l0ζ (kζ + 1)) hx hb hK hP hD hS 1 rfl (vp_in_nI (n := (61 * l0ζ) + kζ) (by omega) (by omega)) (wp_s (nI_clamp (n := 61 * l0ζ + kζ) (by omega)) (by omega) (wn_2 hk1ζ (by omega) (by omega) c_3 (b := false) c_4)) dX7_findWins_64 (fun H locs hP hD hS => ?_)
          have hP : va_P g.1 vwCl [(hζ, .inr (7, oM Aζ iM0)), aZ g (Aζ 29) 3721 (wpF l0ζ (kζ + 1))] H := hP
          have hD : va_D Z [(hζ, .inr (7, oM Aζ iM0)), aZ g (Aζ 29) 3721 (wpF l0ζ (kζ + 1))] := hD
          refine lv_iinc (v := nI (kζ + 1)) (lv' := [(3, .int (nI (kζ + 1))), (2, .int (nI l0ζ)), (0, .ref hζ), (1, .int (nI nζ))]) hx hb dX7_findWins_65 hl (k := 0) rfl (nI_1 kζ) (by decide) rfl (fun ls hl => ?_)
          refine lv_goto (tgt := 19) hx hb dX7_findWins_68 (by decide) ?_
          exact ih19 (kζ + 1) ⟨(by first | omega | (dsimp only; omega)), (by first | omega | (dsimp only; omega))⟩ (by first | omega | (dsimp only; omega)) _ _ _ (hP.sub [0, 1] rfl) (hD.sub [0, 1] (by decide) rfl) hS (lv_sub hl [0, 1, 2, 3] rfl)
        · have c_4 : wbB l0ζ kζ = true := bI_1 c_4
          refine lv_iconst (v := 1) hx hb dX7_findWins_59 (by decide) ?_
          refine lv_goto (tgt := 64) hx hb dX7_findWins_60 (by decide) ?_
          refine r_zast (f' := wpF l0ζ (kζ + 1)) hx hb hK hP hD hS 1 rfl (vp_in_nI (n := (61 * l0ζ) + kζ) (by omega) (by omega)) (wp_s (nI_clamp (n := 61 * l0ζ + kζ) (by omega)) (by omega) (wn_2 hk1ζ (by omega) (by omega) c_3 (b := true) c_4)) dX7_findWins_64 (fun H locs hP hD hS => ?_)
          have hP : va_P g.1 vwCl [(hζ, .inr (7, oM Aζ iM0)), aZ g (Aζ 29) 3721 (wpF l0ζ (kζ + 1))] H := hP
          have hD : va_D Z [(hζ, .inr (7, oM Aζ iM0)), aZ g (Aζ 29) 3721 (wpF l0ζ (kζ + 1))] := hD
          refine lv_iinc (v := nI (kζ + 1)) (lv' := [(3, .int (nI (kζ + 1))), (2, .int (nI l0ζ)), (0, .ref hζ), (1, .int (nI nζ))]) hx hb dX7_findWins_65 hl (k := 0) rfl (nI_1 kζ) (by decide) rfl (fun ls hl => ?_)
          refine lv_goto (tgt := 19) hx hb dX7_findWins_68 (by decide) ?_
          exact ih19 (kζ + 1) ⟨(by first | omega | (dsimp only; omega)), (by first | omega | (dsimp only; omega))⟩ (by first | omega | (dsimp only; omega)) _ _ _ (hP.sub [0, 1] rfl) (hD.sub [0, 1] (by decide) rfl) hS (lv_sub hl [0, 1, 2, 3] rfl)
set_option maxHeartbeats 4000000 in
set_option maxRecDepth 100000 in
theorem c_X7_embers (l : Launch) (g : GT) (sz : Nat) (hζ : Nat) (Aζ : Nat → Nat) (xζ yζ : Int32) : Ci l yX7_embers wsX7_embers { frames := 2, cells := 0, slots := 0, locals := 46 } g sz [.ref hζ, .int xζ, .int yζ] [(hζ, .inr (7, oM Aζ iM0)), aZ g (Aζ 29) 3721 (fun _ => 0)] (embersF xζ yζ) [] := by
  refine gMet_i (cc := cX7_embers) (maxL := 5) (ret := (some .int)) (by decide) rfl (Nat.le_of_ble_eq_true rfl) ?_
  intro p e s m args below meth c Z hx hb hr F hlk hnm hK hN hA H locs hP hD hS ls hl
  have hl : lv_has ls 5 [(0, .ref hζ), (1, .int xζ), (2, .int yζ)] := hl
  have F : CallFix p m c cX7_embers 5 s args wsX7_embers RX7 := F
  have hts := F.2.2.2.2
  have hown : s.vm.findClass RX7 = some m.cls := F.2.2.2.1
  refine lv_iload_n hx hb dX7_embers_0 rfl (lv_at hl 1 rfl) ?_
  refine lv_i2l (v := xζ.toInt64) hx hb dX7_embers_1 rfl ?_
  refine lv_lconst (v := 1) hx hb dX7_embers_2 (by decide) ?_
  refine lv_ldc2 (v := 60) hx hb hown (hts (.constantLong RX7 271 (60)) (by decide +kernel)) dX7_embers_3 ?_
  refine gcP (As := [.long xζ.toInt64, .long 1, .long 60]) (rest := []) F (c_X7_in l xζ.toInt64 1 60) gX7_embers_X7_in kX7_in rfl rfl rfl ⟨(Nat.le_of_ble_eq_true rfl), (Nat.le_of_ble_eq_true rfl)⟩ rfl rfl hl.1 (Nat.le_of_ble_eq_true rfl) dX7_embers_6 ⟨(Nat.le_of_ble_eq_true rfl), (Nat.le_of_ble_eq_true rfl)⟩ ?_
  refine gtop (y := bI (inB xζ 1 60)) (congrArg bI (inL_i (lo := 1) (hi := 60) (by decide) (by decide))) ?_
  refine lv_if_eq (tgt := 22) hx hb dX7_embers_9 (by decide) (fun c_1 => ?_) (fun c_1 => ?_)
  · have c_1 : inB xζ 1 60 = false := bI_0 c_1
    refine lv_bipush (v := (-2)) hx hb dX7_embers_22 (by decide) ?_
    exact r_iret hx hb hr hlk hS () (by unfold embersF; rw [if_neg (bF c_1)]) (hP.sub [] rfl) (hD.sub [] (by decide) rfl) dX7_embers_24
  · have c_1 : inB xζ 1 60 = true := bI_1 c_1
    refine lv_iload_n hx hb dX7_embers_12 rfl (lv_at hl 2 rfl) ?_
    refine lv_i2l (v := yζ.toInt64) hx hb dX7_embers_13 rfl ?_
    refine lv_lconst (v := 0) hx hb dX7_embers_14 (by decide) ?_
    refine lv_lconst (v := 1) hx hb dX7_embers_15 (by decide) ?_
    refine gcP (As := [.long yζ.toInt64, .long 0, .long 1]) (rest := []) F (c_X7_in l yζ.toInt64 0 1) gX7_embers_X7_in kX7_in rfl rfl rfl ⟨(Nat.le_of_ble_eq_true rfl), (Nat.le_of_ble_eq_true rfl)⟩ rfl rfl hl.1 (Nat.le_of_ble_eq_true rfl) dX7_embers_16 ⟨(Nat.le_of_ble_eq_true rfl), (Nat.le_of_ble_eq_true rfl)⟩ ?_
    refine gtop (y := bI (inB yζ 0 1)) (congrArg bI (inL_i (lo := 0) (hi := 1) (by decide) (by decide))) ?_
    refine lv_if_ne (tgt := 25) hx hb dX7_embers_19 (by decide) (fun c_2 => ?_) (fun c_2 => ?_)
    · have c_2 : inB yζ 0 1 = true := bI_1 c_2
      obtain ⟨iζ, h1iζ, hiζ, eiζ⟩ := inB1_nat (N := 61) (by decide) c_1
      have hl : lv_has ls 5 [(0, .ref hζ), (1, .int (nI iζ)), (2, .int yζ)] := by first | exact hl | (rw [← (eiζ : xζ = nI iζ)]; exact hl)
      refine lv_aload_n hx hb dX7_embers_25 rfl (lv_at hl 0 rfl) ?_
      refine lv_iload_n hx hb dX7_embers_26 rfl (lv_at hl 1 rfl) ?_
      refine gcV_v (As := [.int (nI iζ)]) (rest := []) (ci := 7) (q := (RX7, TX7, 34)) F hK hN hP hD hS hA (c_X7_findWins l g H.size hζ Aζ iζ (by omega)) gX7_embers_X7_findWins kX7_findWins rfl rfl rfl rfl ⟨(Nat.le_of_ble_eq_true rfl), (Nat.le_of_ble_eq_true rfl)⟩ [0, 1] [] rfl rfl rfl (by decide) rfl rfl rfl rfl rfl hl.1 (Nat.le_of_ble_eq_true rfl) dX7_embers_27 ⟨(Nat.le_of_ble_eq_true rfl), (Nat.le_of_ble_eq_true rfl)⟩ (fun u_w H locs hw hP hD hS => ?_)
      have hP : va_P g.1 vwCl [(hζ, .inr (7, oM Aζ iM0)), aZ g (Aζ 29) 3721 (wpF (iζ + 1) 0)] H := hP
      have hD : va_D Z [(hζ, .inr (7, oM Aζ iM0)), aZ g (Aζ 29) 3721 (wpF (iζ + 1) 0)] := hD
      refine lv_bipush (v := (-6)) hx hb dX7_embers_30 (by decide) ?_
      refine lv_istore_n (lv' := [(3, .int (-6)), (0, .ref hζ), (1, .int (nI iζ)), (2, .int yζ)]) hx hb dX7_embers_32 rfl hl (by decide) rfl (fun ls hl => ?_)
      refine lv_iload_n hx hb dX7_embers_33 rfl (lv_at hl 2 rfl) ?_
      refine lv_iconst (v := 1) hx hb dX7_embers_34 (by decide) ?_
      refine lv_isub hx hb dX7_embers_35 ?_
      refine gtop (y := nI (iζ - 1)) (pk_sub (a := iζ) (b := 1) (by omega)) ?_
      refine lv_istore (lv' := [(4, .int (nI (iζ - 1))), (3, .int (-6)), (0, .ref hζ), (1, .int (nI iζ)), (2, .int yζ)]) hx hb dX7_embers_36 hl (by decide) rfl (fun ls hl => ?_)
      have hl : lv_has ls 5 [(4, .int (nI (iζ - 1))), (3, .int (fsR iζ (iζ - 1 - (iζ - 1)))), (0, .ref hζ), (1, .int (nI iζ)), (2, .int yζ)] := by first | exact hl | (rw [← ((show (-6 : Int32) = fsR iζ (iζ - 1 - (iζ - 1)) by rw [Nat.sub_self]; rfl) : (-6) = fsR iζ (iζ - 1 - (iζ - 1)))]; exact hl)
      refine gloop (σ := Nat) (fun u0 => u0) (fun u0 => u0 ≤ iζ - 1) (fun u0 => [(hζ, .inr (7, oM Aζ iM0)), aZ g (Aζ 29) 3721 (wpF (iζ + 1) 0)]) (fun u0 => [(4, .int (nI u0)), (3, .int (fsR iζ (iζ - 1 - u0))), (0, .ref hζ), (1, .int (nI iζ)), (2, .int yζ)]) ?_ (iζ - 1) (by first | omega | decide | rfl) (hP.sub [0, 1] rfl) (hD.sub [0, 1] (by decide) rfl) hS (lv_sub hl [0, 1, 2, 3, 4] rfl)
      rintro dζ hdζ ih38 H locs ls hP hD hS hl
      have hdζ : dζ ≤ iζ - 1 := hdζ
      have hP : va_P g.1 vwCl [(hζ, .inr (7, oM Aζ iM0)), aZ g (Aζ 29) 3721 (wpF (iζ + 1) 0)] H := hP
      have hD : va_D Z [(hζ, .inr (7, oM Aζ iM0)), aZ g (Aζ 29) 3721 (wpF (iζ + 1) 0)] := hD
      have hl : lv_has ls 5 [(4, .int (nI dζ)), (3, .int (fsR iζ (iζ - 1 - dζ))), (0, .ref hζ), (1, .int (nI iζ)), (2, .int yζ)] := hl
      refine lv_iload hx hb dX7_embers_38 (lv_at hl 0 rfl) ?_
      refine lv_if_le (tgt := 66) hx hb dX7_embers_40 (by decide) (fun c_3 => ?_) (fun c_3 => ?_)
      · have c_3 : dζ ≤ 0 := (nI_leI (a := dζ) (b := 0) (by omega) (by omega)).mp c_3
        have edζ : dζ = 0 := by omega
        have hl : lv_has ls 5 [(4, .int (nI dζ)), (3, .int (emF iζ 1)), (0, .ref hζ), (1, .int (nI iζ)), (2, .int yζ)] := by first | exact hl | (rw [← ((show fsR iζ (iζ - 1 - dζ) = emF iζ 1 by rw [edζ]; exact fs_e (by omega) (by omega)) : fsR iζ (iζ - 1 - dζ) = emF iζ 1)]; exact hl)
        refine lv_iload_n hx hb dX7_embers_66 rfl (lv_at hl 4 rfl) ?_
        refine lv_iconst (v := 1) hx hb dX7_embers_67 (by decide) ?_
        refine lv_icmp_ne (tgt := 75) hx hb dX7_embers_68 (by decide) (fun c_4 => ?_) (fun c_4 => ?_)
        · refine lv_iload_n hx hb dX7_embers_75 rfl (lv_at hl 1 rfl) ?_
          refine lv_if_ge (tgt := 83) hx hb dX7_embers_76 (by decide) (fun c_5 => ?_) (fun c_5 => ?_)
          · refine lv_iconst (v := 1) hx hb dX7_embers_83 (by decide) ?_
            exact r_iret hx hb hr hlk hS () (by unfold embersF; rw [if_pos c_1, if_pos c_2, eiζ, nI_clamp (n := iζ) (by omega), y01 c_2 c_4]; exact em_1n (by omega) (by omega) (Int32.not_lt.mpr c_5)) (hP.sub [] rfl) (hD.sub [] (by decide) rfl) dX7_embers_84
          · refine lv_iconst (v := 0) hx hb dX7_embers_79 (by decide) ?_
            refine lv_goto (tgt := 84) hx hb dX7_embers_80 (by decide) ?_
            exact r_iret hx hb hr hlk hS () (by unfold embersF; rw [if_pos c_1, if_pos c_2, eiζ, nI_clamp (n := iζ) (by omega), y01 c_2 c_4]; exact em_0n (by omega) (by omega) (Int32.not_le.mp c_5)) (hP.sub [] rfl) (hD.sub [] (by decide) rfl) dX7_embers_84
        · refine lv_iload_n hx hb dX7_embers_71 rfl (lv_at hl 1 rfl) ?_
          refine lv_goto (tgt := 84) hx hb dX7_embers_72 (by decide) ?_
          exact r_iret hx hb hr hlk hS () (by unfold embersF; rw [if_pos c_1, if_pos c_2, eiζ, nI_clamp (n := iζ) (by omega), c_4]; rfl) (hP.sub [] rfl) (hD.sub [] (by decide) rfl) dX7_embers_84
      · have c_3 : ¬ dζ ≤ 0 := fun z => c_3 ((nI_leI (a := dζ) (b := 0) (by omega) (by omega)).mpr z)
        refine lv_aload_n hx hb dX7_embers_43 rfl (lv_at hl 2 rfl) ?_
        refine lv_iload_n hx hb dX7_embers_44 rfl (lv_at hl 3 rfl) ?_
        refine lv_iload hx hb dX7_embers_45 (lv_at hl 0 rfl) ?_
        refine gcV_i (As := [.int (nI iζ), .int (nI dζ)]) (rest := []) (ci := 7) (q := (RX7, TX7, 34)) F hK hN hP hD hS hA (c_X7_winsBy l g H.size hζ Aζ (wpF (iζ + 1) 0) iζ dζ (by omega) (by omega) (by omega) (fun q_u hq_u => by unfold wpF; rw [if_pos (Or.inl (by omega))])) gX7_embers_X7_winsBy kX7_winsBy rfl rfl rfl rfl ⟨(Nat.le_of_ble_eq_true rfl), (Nat.le_of_ble_eq_true rfl)⟩ [0, 1] [] rfl rfl rfl (by decide) rfl rfl rfl rfl rfl hl.1 (Nat.le_of_ble_eq_true rfl) dX7_embers_47 ⟨(Nat.le_of_ble_eq_true rfl), (Nat.le_of_ble_eq_true rfl)⟩ (fun r_w u_w H locs hw hP hD hS => ?_)
        have hP : va_P g.1 vwCl [(hζ, .inr (7, oM Aζ iM0)), aZ g (Aζ 29) 3721 (wpF (iζ + 1) 0)] H := hP
        have hD : va_D Z [(hζ, .inr (7, oM Aζ iM0)), aZ g (Aζ 29) 3721 (wpF (iζ + 1) 0)] := hD
        obtain rfl := hw
        refine lv_if_eq (tgt := 58) hx hb dX7_embers_50 (by decide) (fun c_6 => ?_) (fun c_6 => ?_)
        · have c_6 : wbB iζ dζ = false := bI_0 c_6
          refine lv_iload_n hx hb dX7_embers_58 rfl (lv_at hl 1 rfl) ?_
          refine gtop (y := fsR iζ (iζ - 1 - (dζ - 1))) (fs_f (by omega) (by omega) c_6) ?_
          refine lv_istore_n (lv' := [(3, .int (fsR iζ (iζ - 1 - (dζ - 1)))), (4, .int (nI dζ)), (0, .ref hζ), (1, .int (nI iζ)), (2, .int yζ)]) hx hb dX7_embers_59 rfl hl (by decide) rfl (fun ls hl => ?_)
          refine lv_iinc (v := nI (dζ - 1)) (lv' := [(4, .int (nI (dζ - 1))), (3, .int (fsR iζ (iζ - 1 - (dζ - 1)))), (0, .ref hζ), (1, .int (nI iζ)), (2, .int yζ)]) hx hb dX7_embers_60 hl (k := 1) rfl (sb_m1 (by omega)) (by decide) rfl (fun ls hl => ?_)
          refine lv_goto (tgt := 38) hx hb dX7_embers_63 (by decide) ?_
          exact ih38 (dζ - 1) (by first | omega | (dsimp only; omega)) (by first | omega | (dsimp only; omega)) _ _ _ (hP.sub [0, 1] rfl) (hD.sub [0, 1] (by decide) rfl) hS (lv_sub hl [0, 1, 2, 3, 4] rfl)
        · have c_6 : wbB iζ dζ = true := bI_1 c_6
          refine lv_iload hx hb dX7_embers_53 (lv_at hl 0 rfl) ?_
          refine lv_goto (tgt := 59) hx hb dX7_embers_55 (by decide) ?_
          refine gtop (y := fsR iζ (iζ - 1 - (dζ - 1))) (fs_t (by omega) (by omega) c_6) ?_
          refine lv_istore_n (lv' := [(3, .int (fsR iζ (iζ - 1 - (dζ - 1)))), (4, .int (nI dζ)), (0, .ref hζ), (1, .int (nI iζ)), (2, .int yζ)]) hx hb dX7_embers_59 rfl hl (by decide) rfl (fun ls hl => ?_)
          refine lv_iinc (v := nI (dζ - 1)) (lv' := [(4, .int (nI (dζ - 1))), (3, .int (fsR iζ (iζ - 1 - (dζ - 1)))), (0, .ref hζ), (1, .int (nI iζ)), (2, .int yζ)]) hx hb dX7_embers_60 hl (k := 1) rfl (sb_m1 (by omega)) (by decide) rfl (fun ls hl => ?_)
          refine lv_goto (tgt := 38) hx hb dX7_embers_63 (by decide) ?_
          exact ih38 (dζ - 1) (by first | omega | (dsimp only; omega)) (by first | omega | (dsimp only; omega)) _ _ _ (hP.sub [0, 1] rfl) (hD.sub [0, 1] (by decide) rfl) hS (lv_sub hl [0, 1, 2, 3, 4] rfl)
    · have c_2 : inB yζ 0 1 = false := bI_0 c_2
      refine lv_bipush (v := (-2)) hx hb dX7_embers_22 (by decide) ?_
      exact r_iret hx hb hr hlk hS () (by unfold embersF; rw [if_pos c_1, if_neg (bF c_2)]) (hP.sub [] rfl) (hD.sub [] (by decide) rfl) dX7_embers_24

theorem kX7_pass : YOk yX7_pass 1 := by decide +kernel
theorem kX7_passRow : YOk yX7_passRow 2 := by decide +kernel
theorem kX7_passAll : YOk yX7_passAll 0 := by decide +kernel
theorem kX7_image : YOk yX7_image 1 := by decide +kernel
theorem kX7_restore : YOk yX7_restore 1 := by decide +kernel
theorem kX7_told : YOk yX7_told 1 := by decide +kernel
set_option maxHeartbeats 4000000 in
set_option maxRecDepth 100000 in
theorem c_X7_pass (l : Launch) (g : GT) (sz : Nat) (hζ : Nat) (Aζ : Nat → Nat) (Iζ : Nat → Int32) (fζ : Nat → Int32) (nζ : Nat) (xζ : Int32) (hnζ : nζ < 400) (h33ζ : Iζ 33 = 1) (h32ζ : Iζ 32 = nI nζ) : Ci l yX7_pass wsX7_pass { frames := 0, cells := 0, slots := 0, locals := 0 } g sz [.ref hζ, .int xζ] [(hζ, .inr (7, oM Aζ Iζ)), aI g (Aζ 30) 400 fζ] xζ [(hζ, .inr (7, oM Aζ (upd Iζ 32 (nI (nζ + 1))))), aI g (Aζ 30) 400 (upd fζ nζ xζ)] := by
  refine gMet_i (cc := cX7_pass) (maxL := 3) (ret := (some .int)) (by decide) rfl (Nat.le_of_ble_eq_true rfl) ?_
  intro p e s m args below meth c Z hx hb hr F hlk hnm hK hN hA H locs hP hD hS ls hl
  have hl : lv_has ls 3 [(0, .ref hζ), (1, .int xζ)] := hl
  have F : CallFix p m c cX7_pass 3 s args wsX7_pass RX7 := F
  have hts := F.2.2.2.2
  have hown : s.vm.findClass RX7 = some m.cls := F.2.2.2.1
  have hi7 : ∀ w ∈ u_ws RX7 TX7 34, w ∈ wsX7_pass := by decide +kernel
  refine lv_aload_n hx hb dX7_pass_0 rfl (lv_at hl 0 rfl) ?_
  refine va_get (D := g.1) (ci := 7) (v := .int (Iζ 33)) (C := RX7) (T := TX7) (N := 34) hx hb hts hi7 hown hK hP 0 rfl rfl 33 (by decide) (hts (.fieldLink RX7 291 "PanTalesModel" "isWriting" "Z") (by decide +kernel)) (fun _ h9 => h9) rfl dX7_pass_1 ?_
  refine lv_if_eq (tgt := 11) hx hb dX7_pass_4 (by decide) (fun c_1 => ?_) (fun c_1 => ?_)
  · exact absurd c_1 (by rw [h33ζ]; decide)
  · refine lv_iload_n hx hb dX7_pass_7 rfl (lv_at hl 1 rfl) ?_
    refine lv_goto (tgt := 20) hx hb dX7_pass_8 (by decide) ?_
    refine lv_istore_n (lv' := [(2, .int xζ), (0, .ref hζ), (1, .int xζ)]) hx hb dX7_pass_20 rfl hl (by decide) rfl (fun ls hl => ?_)
    refine lv_aload_n hx hb dX7_pass_21 rfl (lv_at hl 1 rfl) ?_
    refine va_get (D := g.1) (ci := 7) (v := .ref (Aζ 30)) (C := RX7) (T := TX7) (N := 34) hx hb hts hi7 hown hK hP 0 rfl rfl 30 (by decide) (hts (.fieldLink RX7 66 "PanTalesModel" "kept" "[I") (by decide +kernel)) (fun _ h9 => h9) rfl dX7_pass_22 ?_
    refine lv_aload_n hx hb dX7_pass_25 rfl (lv_at hl 1 rfl) ?_
    refine va_get (D := g.1) (ci := 7) (v := .int (Iζ 32)) (C := RX7) (T := TX7) (N := 34) hx hb hts hi7 hown hK hP 0 rfl rfl 32 (by decide) (hts (.fieldLink RX7 295 "PanTalesModel" "keptAt" "I") (by decide +kernel)) (fun _ h9 => h9) rfl dX7_pass_26 ?_
    refine gtop (y := nI nζ) h32ζ ?_
    refine lv_iload_n hx hb dX7_pass_29 rfl (lv_at hl 0 rfl) ?_
    refine r_iast (f' := upd fζ nζ xζ) hx hb hK hP hD hS 1 rfl (vp_in_nI (n := nζ) (by omega) (by omega)) (fun k_u _ => congrArg (fun z_u => upd fζ z_u xζ k_u) (nI_clamp (n := nζ) (by omega))) dX7_pass_30 (fun H locs hP hD hS => ?_)
    have hP : va_P g.1 vwCl [(hζ, .inr (7, oM Aζ Iζ)), aI g (Aζ 30) 400 (upd fζ nζ xζ)] H := hP
    have hD : va_D Z [(hζ, .inr (7, oM Aζ Iζ)), aI g (Aζ 30) 400 (upd fζ nζ xζ)] := hD
    refine lv_aload_n hx hb dX7_pass_31 rfl (lv_at hl 1 rfl) ?_
    refine lv_dup hx hb dX7_pass_32 rfl ?_
    refine va_get (D := g.1) (ci := 7) (v := .int (Iζ 32)) (C := RX7) (T := TX7) (N := 34) hx hb hts hi7 hown hK hP 0 rfl rfl 32 (by decide) (hts (.fieldLink RX7 295 "PanTalesModel" "keptAt" "I") (by decide +kernel)) (fun _ h9 => h9) rfl dX7_pass_33 ?_
    refine gtop (y := nI nζ) h32ζ ?_
    refine lv_iconst (v := 1) hx hb dX7_pass_36 (by decide) ?_
    refine lv_iadd hx hb dX7_pass_37 ?_
    refine gtop (y := nI (nζ + 1)) (nI_add nζ 1) ?_
    refine va_put (D := g.1) (ci := 7) (v := .int (nI (nζ + 1))) (ty := .int) (C := RX7) (T := TX7) (N := 34) hx hb hts hi7 tyX7 tyX7_ok nmX7 hown hK hP hD hS 0 rfl rfl 32 (by decide) (hts (.fieldLink RX7 295 "PanTalesModel" "keptAt" "I") (by decide +kernel)) (fun _ h9 => h9) rfl (by decide +kernel) rfl rfl (Nat.le_of_ble_eq_true rfl) dX7_pass_38 (fun H locs hP hD hS => ?_)
    have hP : va_P g.1 vwCl [(hζ, .inr (7, oM Aζ (upd Iζ 32 (nI (nζ + 1))))), aI g (Aζ 30) 400 (upd fζ nζ xζ)] H := hP
    have hD : va_D Z [(hζ, .inr (7, oM Aζ (upd Iζ 32 (nI (nζ + 1))))), aI g (Aζ 30) 400 (upd fζ nζ xζ)] := hD
    refine lv_iload_n hx hb dX7_pass_41 rfl (lv_at hl 0 rfl) ?_
    exact r_iret hx hb hr hlk hS () rfl (hP.sub [0, 1] rfl) (hD.sub [0, 1] (by decide) rfl) dX7_pass_42
set_option maxHeartbeats 4000000 in
set_option maxRecDepth 100000 in
theorem c_X7_passRow (l : Launch) (g : GT) (sz : Nat) (hζ : Nat) (Aζ : Nat → Nat) (Iζ : Nat → Int32) (aζ m0ζ nζ : Nat) (fζ kfζ : Nat → Int32) (hm0ζ : nζ + m0ζ ≤ 400) (h33ζ : Iζ 33 = 1) (h32ζ : Iζ 32 = nI nζ) : Mv (S := (Nat → Int32) × (Nat → Int32)) l yX7_passRow wsX7_passRow { frames := 1, cells := 0, slots := 0, locals := 22 } g sz [.ref hζ, .ref aζ, .int (nI m0ζ)] [(hζ, .inr (7, oM Aζ Iζ)), aI g aζ m0ζ fζ, aI g (Aζ 30) 400 kfζ] 0 0 (fun Eζ => Eζ.1 33 = 1 ∧ Eζ.1 32 = nI (nζ + m0ζ)) (fun Eζ => [(hζ, .inr (7, oM Aζ Eζ.1)), aI g aζ m0ζ fζ, aI g (Aζ 30) 400 Eζ.2]) := by
  refine gMet_v (cc := cX7_passRow) (maxL := 4) (ret := none) (by decide) rfl (Nat.le_of_ble_eq_true rfl) ?_
  intro p e s m args below meth c Z hx hb hr F hlk hnm hK hN hA H locs hP hD hS ls hl
  have hl : lv_has ls 4 [(0, .ref hζ), (1, .ref aζ), (2, .int (nI m0ζ))] := hl
  have F : CallFix p m c cX7_passRow 4 s args wsX7_passRow RX7 := F
  have hts := F.2.2.2.2
  have hown : s.vm.findClass RX7 = some m.cls := F.2.2.2.1
  refine lv_iconst (v := 0) hx hb dX7_passRow_0 (by decide) ?_
  refine lv_istore_n (lv' := [(3, .int 0), (0, .ref hζ), (1, .ref aζ), (2, .int (nI m0ζ))]) hx hb dX7_passRow_1 rfl hl (by decide) rfl (fun ls hl => ?_)
  refine gloop (σ := Nat × (Nat → Int32) × (Nat → Int32)) (fun u0 => m0ζ - u0.1) (fun u0 => u0.1 ≤ m0ζ ∧ u0.2.1 33 = 1 ∧ u0.2.1 32 = nI (nζ + u0.1)) (fun u0 => [(hζ, .inr (7, oM Aζ u0.2.1)), aI g aζ m0ζ fζ, aI g (Aζ 30) 400 u0.2.2]) (fun u0 => [(3, .int (nI u0.1)), (0, .ref hζ), (1, .ref aζ), (2, .int (nI m0ζ))]) ?_ (0, Iζ, kfζ) ⟨(by first | omega | decide | rfl), h33ζ, h32ζ⟩ (hP.sub [0, 1, 2] rfl) (hD.sub [0, 1, 2] (by decide) rfl) hS (lv_sub hl [0, 1, 2, 3] rfl)
  rintro ⟨iζ, Jζ, kf2ζ⟩ ⟨hiζ, h33jζ, h32jζ⟩ ih2 H locs ls hP hD hS hl
  have hiζ : iζ ≤ m0ζ := hiζ
  have h33jζ : Jζ 33 = 1 := h33jζ
  have h32jζ : Jζ 32 = nI (nζ + iζ) := h32jζ
  have hP : va_P g.1 vwCl [(hζ, .inr (7, oM Aζ Jζ)), aI g aζ m0ζ fζ, aI g (Aζ 30) 400 kf2ζ] H := hP
  have hD : va_D Z [(hζ, .inr (7, oM Aζ Jζ)), aI g aζ m0ζ fζ, aI g (Aζ 30) 400 kf2ζ] := hD
  have hl : lv_has ls 4 [(3, .int (nI iζ)), (0, .ref hζ), (1, .ref aζ), (2, .int (nI m0ζ))] := hl
  refine lv_iload_n hx hb dX7_passRow_2 rfl (lv_at hl 0 rfl) ?_
  refine lv_iload_n hx hb dX7_passRow_3 rfl (lv_at hl 3 rfl) ?_
  refine lv_icmp_ge (tgt := 23) hx hb dX7_passRow_4 (by decide) (fun c_1 => ?_) (fun c_1 => ?_)
  · have c_1 : m0ζ ≤ iζ := (nI_leI (a := m0ζ) (b := iζ) (by omega) (by omega)).mp c_1
    exact r_vret hx hb hr hlk hS (Jζ, kf2ζ) ⟨h33jζ, (by have e_u : iζ = m0ζ := (by omega); rw [← e_u]; exact h32jζ)⟩ (hP.sub [0, 1, 2] rfl) (hD.sub [0, 1, 2] (by decide) rfl) dX7_passRow_23
  · have c_1 : ¬ m0ζ ≤ iζ := fun z => c_1 ((nI_leI (a := m0ζ) (b := iζ) (by omega) (by omega)).mpr z)
    refine lv_aload_n hx hb dX7_passRow_7 rfl (lv_at hl 2 rfl) ?_
    refine lv_iload_n hx hb dX7_passRow_8 rfl (lv_at hl 0 rfl) ?_
    refine lv_aload_n hx hb dX7_passRow_9 rfl (lv_at hl 1 rfl) ?_
    refine lv_aload_n hx hb dX7_passRow_10 rfl (lv_at hl 2 rfl) ?_
    refine lv_iload_n hx hb dX7_passRow_11 rfl (lv_at hl 0 rfl) ?_
    refine r_iald (v := fζ iζ) hx hb hK hP 1 rfl (vp_in_nI (n := iζ) (by omega) (by omega)) (congrArg fζ (nI_clamp (n := iζ) (by omega))) dX7_passRow_12 ?_
    refine gcV_i (As := [.int (fζ iζ)]) (rest := [.int (nI iζ), .ref aζ]) (ci := 7) (q := (RX7, TX7, 34)) F hK hN hP hD hS hA (c_X7_pass l g H.size hζ Aζ Jζ kf2ζ (nζ + iζ) (fζ iζ) (by omega) h33jζ h32jζ) gX7_passRow_X7_pass kX7_pass rfl rfl rfl rfl ⟨(Nat.le_of_ble_eq_true rfl), (Nat.le_of_ble_eq_true rfl)⟩ [0, 2] [1] rfl rfl rfl (by decide) rfl rfl rfl rfl rfl hl.1 (Nat.le_of_ble_eq_true rfl) dX7_passRow_13 ⟨(Nat.le_of_ble_eq_true rfl), (Nat.le_of_ble_eq_true rfl)⟩ (fun r_w u_w H locs hw hP hD hS => ?_)
    have hP : va_P g.1 vwCl [aI g aζ m0ζ fζ, (hζ, .inr (7, oM Aζ (upd Jζ 32 (nI ((nζ + iζ) + 1))))), aI g (Aζ 30) 400 (upd kf2ζ (nζ + iζ) (fζ iζ))] H := hP
    have hD : va_D Z [aI g aζ m0ζ fζ, (hζ, .inr (7, oM Aζ (upd Jζ 32 (nI ((nζ + iζ) + 1))))), aI g (Aζ 30) 400 (upd kf2ζ (nζ + iζ) (fζ iζ))] := hD
    obtain rfl := hw
    refine r_iast (f' := fζ) hx hb hK hP hD hS 0 rfl (vp_in_nI (n := iζ) (by omega) (by omega)) (upd_same (nI_clamp (n := iζ) (by omega))) dX7_passRow_16 (fun H locs hP hD hS => ?_)
    have hP : va_P g.1 vwCl [aI g aζ m0ζ fζ, (hζ, .inr (7, oM Aζ (upd Jζ 32 (nI ((nζ + iζ) + 1))))), aI g (Aζ 30) 400 (upd kf2ζ (nζ + iζ) (fζ iζ))] H := hP
    have hD : va_D Z [aI g aζ m0ζ fζ, (hζ, .inr (7, oM Aζ (upd Jζ 32 (nI ((nζ + iζ) + 1))))), aI g (Aζ 30) 400 (upd kf2ζ (nζ + iζ) (fζ iζ))] := hD
    refine lv_iinc (v := nI (iζ + 1)) (lv' := [(3, .int (nI (iζ + 1))), (0, .ref hζ), (1, .ref aζ), (2, .int (nI m0ζ))]) hx hb dX7_passRow_17 hl (k := 0) rfl (nI_1 iζ) (by decide) rfl (fun ls hl => ?_)
    refine lv_goto (tgt := 2) hx hb dX7_passRow_20 (by decide) ?_
    exact ih2 (iζ + 1, upd Jζ 32 (nI ((nζ + iζ) + 1)), upd kf2ζ (nζ + iζ) (fζ iζ)) ⟨(by first | omega | (dsimp only; omega)), h33jζ, rfl⟩ (by first | omega | (dsimp only; omega)) _ _ _ (hP.sub [1, 0, 2] rfl) (hD.sub [1, 0, 2] (by decide) rfl) hS (lv_sub hl [0, 1, 2, 3] rfl)
set_option maxHeartbeats 4000000 in
set_option maxRecDepth 100000 in
theorem c_X7_passAll (l : Launch) (g : GT) (sz : Nat) (hζ : Nat) (Aζ : Nat → Nat) (Iζ : Nat → Int32) (nζ : Nat) (f0ζ f1ζ f2ζ f3ζ f4ζ f5ζ f6ζ kfζ : Nat → Int32) (hnζ : nζ + 200 ≤ 400) (h33ζ : Iζ 33 = 1) (h32ζ : Iζ 32 = nI nζ) : Mv (S := Nat → Int32) l yX7_passAll wsX7_passAll { frames := 2, cells := 0, slots := 0, locals := 45 } g sz [.ref hζ] [(hζ, .inr (7, oM Aζ Iζ)), aI g (Aζ 0) 121 f0ζ, aI g (Aζ 1) 10 f1ζ, aI g (Aζ 2) 10 f2ζ, aI g (Aζ 3) 10 f3ζ, aI g (Aζ 4) 10 f4ζ, aI g (Aζ 9) 8 f5ζ, aI g (Aζ 10) 8 f6ζ, aI g (Aζ 30) 400 kfζ] 0 0 (fun _ => True) (fun Jζ => [(hζ, .inr (7, oM Aζ Jζ))]) := by
  refine gMet_v (cc := cX7_passAll) (maxL := 1) (ret := none) (by decide) rfl (Nat.le_of_ble_eq_true rfl) ?_
  intro p e s m args below meth c Z hx hb hr F hlk hnm hK hN hA H locs hP hD hS ls hl
  have hl : lv_has ls 1 [(0, .ref hζ)] := hl
  have F : CallFix p m c cX7_passAll 1 s args wsX7_passAll RX7 := F
  have hts := F.2.2.2.2
  have hown : s.vm.findClass RX7 = some m.cls := F.2.2.2.1
  have hi7 : ∀ w ∈ u_ws RX7 TX7 34, w ∈ wsX7_passAll := by decide +kernel
  refine lv_aload_n hx hb dX7_passAll_0 rfl (lv_at hl 0 rfl) ?_
  refine lv_aload_n hx hb dX7_passAll_1 rfl (lv_at hl 0 rfl) ?_
  refine lv_aload_n hx hb dX7_passAll_2 rfl (lv_at hl 0 rfl) ?_
  refine va_get (D := g.1) (ci := 7) (v := .int (Iζ 5)) (C := RX7) (T := TX7) (N := 34) hx hb hts hi7 hown hK hP 0 rfl rfl 5 (by decide) (hts (.fieldLink RX7 72 "PanTalesModel" "panPlace" "I") (by decide +kernel)) (fun _ h9 => h9) rfl dX7_passAll_3 ?_
  refine gcV_i (As := [.int (Iζ 5)]) (rest := [.ref hζ]) (ci := 7) (q := (RX7, TX7, 34)) F hK hN hP hD hS hA (c_X7_pass l g H.size hζ Aζ Iζ kfζ nζ (Iζ 5) (by omega) h33ζ h32ζ) gX7_passAll_X7_pass kX7_pass rfl rfl rfl rfl ⟨(Nat.le_of_ble_eq_true rfl), (Nat.le_of_ble_eq_true rfl)⟩ [0, 8] [1, 2, 3, 4, 5, 6, 7] rfl rfl rfl (by decide) rfl rfl rfl rfl rfl hl.1 (Nat.le_of_ble_eq_true rfl) dX7_passAll_6 ⟨(Nat.le_of_ble_eq_true rfl), (Nat.le_of_ble_eq_true rfl)⟩ (fun r_w u_w H locs hw hP hD hS => ?_)
  have hP : va_P g.1 vwCl [aI g (Aζ 0) 121 f0ζ, aI g (Aζ 1) 10 f1ζ, aI g (Aζ 2) 10 f2ζ, aI g (Aζ 3) 10 f3ζ, aI g (Aζ 4) 10 f4ζ, aI g (Aζ 9) 8 f5ζ, aI g (Aζ 10) 8 f6ζ, (hζ, .inr (7, oM Aζ (upd Iζ 32 (nI (nζ + 1))))), aI g (Aζ 30) 400 (upd kfζ nζ (Iζ 5))] H := hP
  have hD : va_D Z [aI g (Aζ 0) 121 f0ζ, aI g (Aζ 1) 10 f1ζ, aI g (Aζ 2) 10 f2ζ, aI g (Aζ 3) 10 f3ζ, aI g (Aζ 4) 10 f4ζ, aI g (Aζ 9) 8 f5ζ, aI g (Aζ 10) 8 f6ζ, (hζ, .inr (7, oM Aζ (upd Iζ 32 (nI (nζ + 1))))), aI g (Aζ 30) 400 (upd kfζ nζ (Iζ 5))] := hD
  obtain rfl := hw
  refine va_put (D := g.1) (ci := 7) (v := .int (Iζ 5)) (ty := .int) (C := RX7) (T := TX7) (N := 34) hx hb hts hi7 tyX7 tyX7_ok nmX7 hown hK hP hD hS 7 rfl rfl 5 (by decide) (hts (.fieldLink RX7 72 "PanTalesModel" "panPlace" "I") (by decide +kernel)) (fun _ h9 => h9) rfl (by decide +kernel) rfl rfl (Nat.le_of_ble_eq_true rfl) dX7_passAll_9 (fun H locs hP hD hS => ?_)
  have hP : va_P g.1 vwCl [aI g (Aζ 0) 121 f0ζ, aI g (Aζ 1) 10 f1ζ, aI g (Aζ 2) 10 f2ζ, aI g (Aζ 3) 10 f3ζ, aI g (Aζ 4) 10 f4ζ, aI g (Aζ 9) 8 f5ζ, aI g (Aζ 10) 8 f6ζ, (hζ, .inr (7, oM Aζ (upd (upd Iζ 32 (nI (nζ + 1))) 5 (Iζ 5)))), aI g (Aζ 30) 400 (upd kfζ nζ (Iζ 5))] H := hP
  have hD : va_D Z [aI g (Aζ 0) 121 f0ζ, aI g (Aζ 1) 10 f1ζ, aI g (Aζ 2) 10 f2ζ, aI g (Aζ 3) 10 f3ζ, aI g (Aζ 4) 10 f4ζ, aI g (Aζ 9) 8 f5ζ, aI g (Aζ 10) 8 f6ζ, (hζ, .inr (7, oM Aζ (upd (upd Iζ 32 (nI (nζ + 1))) 5 (Iζ 5)))), aI g (Aζ 30) 400 (upd kfζ nζ (Iζ 5))] := hD
  refine lv_aload_n hx hb dX7_passAll_12 rfl (lv_at hl 0 rfl) ?_
  refine lv_aload_n hx hb dX7_passAll_13 rfl (lv_at hl 0 rfl) ?_
  refine lv_aload_n hx hb dX7_passAll_14 rfl (lv_at hl 0 rfl) ?_
  refine va_get (D := g.1) (ci := 7) (v := .int (Iζ 6)) (C := RX7) (T := TX7) (N := 34) hx hb hts hi7 hown hK hP 7 rfl rfl 6 (by decide) (hts (.fieldLink RX7 127 "PanTalesModel" "heat" "I") (by decide +kernel)) (fun _ h9 => h9) rfl dX7_passAll_15 ?_
  refine gcV_i (As := [.int (Iζ 6)]) (rest := [.ref hζ]) (ci := 7) (q := (RX7, TX7, 34)) F hK hN hP hD hS hA (c_X7_pass l g H.size hζ Aζ (upd (upd Iζ 32 (nI (nζ + 1))) 5 (Iζ 5)) (upd kfζ nζ (Iζ 5)) (nζ + 1) (Iζ 6) (by omega) h33ζ rfl) gX7_passAll_X7_pass kX7_pass rfl rfl rfl rfl ⟨(Nat.le_of_ble_eq_true rfl), (Nat.le_of_ble_eq_true rfl)⟩ [7, 8] [0, 1, 2, 3, 4, 5, 6] rfl rfl rfl (by decide) rfl rfl rfl rfl rfl hl.1 (Nat.le_of_ble_eq_true rfl) dX7_passAll_18 ⟨(Nat.le_of_ble_eq_true rfl), (Nat.le_of_ble_eq_true rfl)⟩ (fun r_w u_w H locs hw hP hD hS => ?_)
  have hP : va_P g.1 vwCl [aI g (Aζ 0) 121 f0ζ, aI g (Aζ 1) 10 f1ζ, aI g (Aζ 2) 10 f2ζ, aI g (Aζ 3) 10 f3ζ, aI g (Aζ 4) 10 f4ζ, aI g (Aζ 9) 8 f5ζ, aI g (Aζ 10) 8 f6ζ, (hζ, .inr (7, oM Aζ (upd (upd (upd Iζ 32 (nI (nζ + 1))) 5 (Iζ 5)) 32 (nI ((nζ + 1) + 1))))), aI g (Aζ 30) 400 (upd (upd kfζ nζ (Iζ 5)) (nζ + 1) (Iζ 6))] H := hP
  have hD : va_D Z [aI g (Aζ 0) 121 f0ζ, aI g (Aζ 1) 10 f1ζ, aI g (Aζ 2) 10 f2ζ, aI g (Aζ 3) 10 f3ζ, aI g (Aζ 4) 10 f4ζ, aI g (Aζ 9) 8 f5ζ, aI g (Aζ 10) 8 f6ζ, (hζ, .inr (7, oM Aζ (upd (upd (upd Iζ 32 (nI (nζ + 1))) 5 (Iζ 5)) 32 (nI ((nζ + 1) + 1))))), aI g (Aζ 30) 400 (upd (upd kfζ nζ (Iζ 5)) (nζ + 1) (Iζ 6))] := hD
  obtain rfl := hw
  refine va_put (D := g.1) (ci := 7) (v := .int (Iζ 6)) (ty := .int) (C := RX7) (T := TX7) (N := 34) hx hb hts hi7 tyX7 tyX7_ok nmX7 hown hK hP hD hS 7 rfl rfl 6 (by decide) (hts (.fieldLink RX7 127 "PanTalesModel" "heat" "I") (by decide +kernel)) (fun _ h9 => h9) rfl (by decide +kernel) rfl rfl (Nat.le_of_ble_eq_true rfl) dX7_passAll_21 (fun H locs hP hD hS => ?_)
  have hP : va_P g.1 vwCl [aI g (Aζ 0) 121 f0ζ, aI g (Aζ 1) 10 f1ζ, aI g (Aζ 2) 10 f2ζ, aI g (Aζ 3) 10 f3ζ, aI g (Aζ 4) 10 f4ζ, aI g (Aζ 9) 8 f5ζ, aI g (Aζ 10) 8 f6ζ, (hζ, .inr (7, oM Aζ (upd (upd (upd (upd Iζ 32 (nI (nζ + 1))) 5 (Iζ 5)) 32 (nI ((nζ + 1) + 1))) 6 (Iζ 6)))), aI g (Aζ 30) 400 (upd (upd kfζ nζ (Iζ 5)) (nζ + 1) (Iζ 6))] H := hP
  have hD : va_D Z [aI g (Aζ 0) 121 f0ζ, aI g (Aζ 1) 10 f1ζ, aI g (Aζ 2) 10 f2ζ, aI g (Aζ 3) 10 f3ζ, aI g (Aζ 4) 10 f4ζ, aI g (Aζ 9) 8 f5ζ, aI g (Aζ 10) 8 f6ζ, (hζ, .inr (7, oM Aζ (upd (upd (upd (upd Iζ 32 (nI (nζ + 1))) 5 (Iζ 5)) 32 (nI ((nζ + 1) + 1))) 6 (Iζ 6)))), aI g (Aζ 30) 400 (upd (upd kfζ nζ (Iζ 5)) (nζ + 1) (Iζ 6))] := hD
  refine lv_aload_n hx hb dX7_passAll_24 rfl (lv_at hl 0 rfl) ?_
  refine lv_aload_n hx hb dX7_passAll_25 rfl (lv_at hl 0 rfl) ?_
  refine lv_aload_n hx hb dX7_passAll_26 rfl (lv_at hl 0 rfl) ?_
  refine va_get (D := g.1) (ci := 7) (v := .int (Iζ 7)) (C := RX7) (T := TX7) (N := 34) hx hb hts hi7 hown hK hP 7 rfl rfl 7 (by decide) (hts (.fieldLink RX7 136 "PanTalesModel" "panTale" "I") (by decide +kernel)) (fun _ h9 => h9) rfl dX7_passAll_27 ?_
  refine gcV_i (As := [.int (Iζ 7)]) (rest := [.ref hζ]) (ci := 7) (q := (RX7, TX7, 34)) F hK hN hP hD hS hA (c_X7_pass l g H.size hζ Aζ (upd (upd (upd (upd Iζ 32 (nI (nζ + 1))) 5 (Iζ 5)) 32 (nI ((nζ + 1) + 1))) 6 (Iζ 6)) (upd (upd kfζ nζ (Iζ 5)) (nζ + 1) (Iζ 6)) (nζ + 2) (Iζ 7) (by omega) h33ζ rfl) gX7_passAll_X7_pass kX7_pass rfl rfl rfl rfl ⟨(Nat.le_of_ble_eq_true rfl), (Nat.le_of_ble_eq_true rfl)⟩ [7, 8] [0, 1, 2, 3, 4, 5, 6] rfl rfl rfl (by decide) rfl rfl rfl rfl rfl hl.1 (Nat.le_of_ble_eq_true rfl) dX7_passAll_30 ⟨(Nat.le_of_ble_eq_true rfl), (Nat.le_of_ble_eq_true rfl)⟩ (fun r_w u_w H locs hw hP hD hS => ?_)
  have hP : va_P g.1 vwCl [aI g (Aζ 0) 121 f0ζ, aI g (Aζ 1) 10 f1ζ, aI g (Aζ 2) 10 f2ζ, aI g (Aζ 3) 10 f3ζ, aI g (Aζ 4) 10 f4ζ, aI g (Aζ 9) 8 f5ζ, aI g (Aζ 10) 8 f6ζ, (hζ, .inr (7, oM Aζ (upd (upd (upd (upd (upd Iζ 32 (nI (nζ + 1))) 5 (Iζ 5)) 32 (nI ((nζ + 1) + 1))) 6 (Iζ 6)) 32 (nI ((nζ + 2) + 1))))), aI g (Aζ 30) 400 (upd (upd (upd kfζ nζ (Iζ 5)) (nζ + 1) (Iζ 6)) (nζ + 2) (Iζ 7))] H := hP
  have hD : va_D Z [aI g (Aζ 0) 121 f0ζ, aI g (Aζ 1) 10 f1ζ, aI g (Aζ 2) 10 f2ζ, aI g (Aζ 3) 10 f3ζ, aI g (Aζ 4) 10 f4ζ, aI g (Aζ 9) 8 f5ζ, aI g (Aζ 10) 8 f6ζ, (hζ, .inr (7, oM Aζ (upd (upd (upd (upd (upd Iζ 32 (nI (nζ + 1))) 5 (Iζ 5)) 32 (nI ((nζ + 1) + 1))) 6 (Iζ 6)) 32 (nI ((nζ + 2) + 1))))), aI g (Aζ 30) 400 (upd (upd (upd kfζ nζ (Iζ 5)) (nζ + 1) (Iζ 6)) (nζ + 2) (Iζ 7))] := hD
  obtain rfl := hw
  refine va_put (D := g.1) (ci := 7) (v := .int (Iζ 7)) (ty := .int) (C := RX7) (T := TX7) (N := 34) hx hb hts hi7 tyX7 tyX7_ok nmX7 hown hK hP hD hS 7 rfl rfl 7 (by decide) (hts (.fieldLink RX7 136 "PanTalesModel" "panTale" "I") (by decide +kernel)) (fun _ h9 => h9) rfl (by decide +kernel) rfl rfl (Nat.le_of_ble_eq_true rfl) dX7_passAll_33 (fun H locs hP hD hS => ?_)
  have hP : va_P g.1 vwCl [aI g (Aζ 0) 121 f0ζ, aI g (Aζ 1) 10 f1ζ, aI g (Aζ 2) 10 f2ζ, aI g (Aζ 3) 10 f3ζ, aI g (Aζ 4) 10 f4ζ, aI g (Aζ 9) 8 f5ζ, aI g (Aζ 10) 8 f6ζ, (hζ, .inr (7, oM Aζ (upd (upd (upd (upd (upd (upd Iζ 32 (nI (nζ + 1))) 5 (Iζ 5)) 32 (nI ((nζ + 1) + 1))) 6 (Iζ 6)) 32 (nI ((nζ + 2) + 1))) 7 (Iζ 7)))), aI g (Aζ 30) 400 (upd (upd (upd kfζ nζ (Iζ 5)) (nζ + 1) (Iζ 6)) (nζ + 2) (Iζ 7))] H := hP
  have hD : va_D Z [aI g (Aζ 0) 121 f0ζ, aI g (Aζ 1) 10 f1ζ, aI g (Aζ 2) 10 f2ζ, aI g (Aζ 3) 10 f3ζ, aI g (Aζ 4) 10 f4ζ, aI g (Aζ 9) 8 f5ζ, aI g (Aζ 10) 8 f6ζ, (hζ, .inr (7, oM Aζ (upd (upd (upd (upd (upd (upd Iζ 32 (nI (nζ + 1))) 5 (Iζ 5)) 32 (nI ((nζ + 1) + 1))) 6 (Iζ 6)) 32 (nI ((nζ + 2) + 1))) 7 (Iζ 7)))), aI g (Aζ 30) 400 (upd (upd (upd kfζ nζ (Iζ 5)) (nζ + 1) (Iζ 6)) (nζ + 2) (Iζ 7))] := hD
  refine lv_aload_n hx hb dX7_passAll_36 rfl (lv_at hl 0 rfl) ?_
  refine lv_aload_n hx hb dX7_passAll_37 rfl (lv_at hl 0 rfl) ?_
  refine lv_aload_n hx hb dX7_passAll_38 rfl (lv_at hl 0 rfl) ?_
  refine va_get (D := g.1) (ci := 7) (v := .int (Iζ 8)) (C := RX7) (T := TX7) (N := 34) hx hb hts hi7 hown hK hP 7 rfl rfl 8 (by decide) (hts (.fieldLink RX7 130 "PanTalesModel" "mornings" "I") (by decide +kernel)) (fun _ h9 => h9) rfl dX7_passAll_39 ?_
  refine gcV_i (As := [.int (Iζ 8)]) (rest := [.ref hζ]) (ci := 7) (q := (RX7, TX7, 34)) F hK hN hP hD hS hA (c_X7_pass l g H.size hζ Aζ (upd (upd (upd (upd (upd (upd Iζ 32 (nI (nζ + 1))) 5 (Iζ 5)) 32 (nI ((nζ + 1) + 1))) 6 (Iζ 6)) 32 (nI ((nζ + 2) + 1))) 7 (Iζ 7)) (upd (upd (upd kfζ nζ (Iζ 5)) (nζ + 1) (Iζ 6)) (nζ + 2) (Iζ 7)) (nζ + 3) (Iζ 8) (by omega) h33ζ rfl) gX7_passAll_X7_pass kX7_pass rfl rfl rfl rfl ⟨(Nat.le_of_ble_eq_true rfl), (Nat.le_of_ble_eq_true rfl)⟩ [7, 8] [0, 1, 2, 3, 4, 5, 6] rfl rfl rfl (by decide) rfl rfl rfl rfl rfl hl.1 (Nat.le_of_ble_eq_true rfl) dX7_passAll_42 ⟨(Nat.le_of_ble_eq_true rfl), (Nat.le_of_ble_eq_true rfl)⟩ (fun r_w u_w H locs hw hP hD hS => ?_)
  have hP : va_P g.1 vwCl [aI g (Aζ 0) 121 f0ζ, aI g (Aζ 1) 10 f1ζ, aI g (Aζ 2) 10 f2ζ, aI g (Aζ 3) 10 f3ζ, aI g (Aζ 4) 10 f4ζ, aI g (Aζ 9) 8 f5ζ, aI g (Aζ 10) 8 f6ζ, (hζ, .inr (7, oM Aζ (upd (upd (upd (upd (upd (upd (upd Iζ 32 (nI (nζ + 1))) 5 (Iζ 5)) 32 (nI ((nζ + 1) + 1))) 6 (Iζ 6)) 32 (nI ((nζ + 2) + 1))) 7 (Iζ 7)) 32 (nI ((nζ + 3) + 1))))), aI g (Aζ 30) 400 (upd (upd (upd (upd kfζ nζ (Iζ 5)) (nζ + 1) (Iζ 6)) (nζ + 2) (Iζ 7)) (nζ + 3) (Iζ 8))] H := hP
  have hD : va_D Z [aI g (Aζ 0) 121 f0ζ, aI g (Aζ 1) 10 f1ζ, aI g (Aζ 2) 10 f2ζ, aI g (Aζ 3) 10 f3ζ, aI g (Aζ 4) 10 f4ζ, aI g (Aζ 9) 8 f5ζ, aI g (Aζ 10) 8 f6ζ, (hζ, .inr (7, oM Aζ (upd (upd (upd (upd (upd (upd (upd Iζ 32 (nI (nζ + 1))) 5 (Iζ 5)) 32 (nI ((nζ + 1) + 1))) 6 (Iζ 6)) 32 (nI ((nζ + 2) + 1))) 7 (Iζ 7)) 32 (nI ((nζ + 3) + 1))))), aI g (Aζ 30) 400 (upd (upd (upd (upd kfζ nζ (Iζ 5)) (nζ + 1) (Iζ 6)) (nζ + 2) (Iζ 7)) (nζ + 3) (Iζ 8))] := hD
  obtain rfl := hw
  refine va_put (D := g.1) (ci := 7) (v := .int (Iζ 8)) (ty := .int) (C := RX7) (T := TX7) (N := 34) hx hb hts hi7 tyX7 tyX7_ok nmX7 hown hK hP hD hS 7 rfl rfl 8 (by decide) (hts (.fieldLink RX7 130 "PanTalesModel" "mornings" "I") (by decide +kernel)) (fun _ h9 => h9) rfl (by decide +kernel) rfl rfl (Nat.le_of_ble_eq_true rfl) dX7_passAll_45 (fun H locs hP hD hS => ?_)
  have hP : va_P g.1 vwCl [aI g (Aζ 0) 121 f0ζ, aI g (Aζ 1) 10 f1ζ, aI g (Aζ 2) 10 f2ζ, aI g (Aζ 3) 10 f3ζ, aI g (Aζ 4) 10 f4ζ, aI g (Aζ 9) 8 f5ζ, aI g (Aζ 10) 8 f6ζ, (hζ, .inr (7, oM Aζ (upd (upd (upd (upd (upd (upd (upd (upd Iζ 32 (nI (nζ + 1))) 5 (Iζ 5)) 32 (nI ((nζ + 1) + 1))) 6 (Iζ 6)) 32 (nI ((nζ + 2) + 1))) 7 (Iζ 7)) 32 (nI ((nζ + 3) + 1))) 8 (Iζ 8)))), aI g (Aζ 30) 400 (upd (upd (upd (upd kfζ nζ (Iζ 5)) (nζ + 1) (Iζ 6)) (nζ + 2) (Iζ 7)) (nζ + 3) (Iζ 8))] H := hP
  have hD : va_D Z [aI g (Aζ 0) 121 f0ζ, aI g (Aζ 1) 10 f1ζ, aI g (Aζ 2) 10 f2ζ, aI g (Aζ 3) 10 f3ζ, aI g (Aζ 4) 10 f4ζ, aI g (Aζ 9) 8 f5ζ, aI g (Aζ 10) 8 f6ζ, (hζ, .inr (7, oM Aζ (upd (upd (upd (upd (upd (upd (upd (upd Iζ 32 (nI (nζ + 1))) 5 (Iζ 5)) 32 (nI ((nζ + 1) + 1))) 6 (Iζ 6)) 32 (nI ((nζ + 2) + 1))) 7 (Iζ 7)) 32 (nI ((nζ + 3) + 1))) 8 (Iζ 8)))), aI g (Aζ 30) 400 (upd (upd (upd (upd kfζ nζ (Iζ 5)) (nζ + 1) (Iζ 6)) (nζ + 2) (Iζ 7)) (nζ + 3) (Iζ 8))] := hD
  refine lv_aload_n hx hb dX7_passAll_48 rfl (lv_at hl 0 rfl) ?_
  refine lv_aload_n hx hb dX7_passAll_49 rfl (lv_at hl 0 rfl) ?_
  refine lv_aload_n hx hb dX7_passAll_50 rfl (lv_at hl 0 rfl) ?_
  refine va_get (D := g.1) (ci := 7) (v := .int (Iζ 11)) (C := RX7) (T := TX7) (N := 34) hx hb hts hi7 hown hK hP 7 rfl rfl 11 (by decide) (hts (.fieldLink RX7 244 "PanTalesModel" "sights" "I") (by decide +kernel)) (fun _ h9 => h9) rfl dX7_passAll_51 ?_
  refine gcV_i (As := [.int (Iζ 11)]) (rest := [.ref hζ]) (ci := 7) (q := (RX7, TX7, 34)) F hK hN hP hD hS hA (c_X7_pass l g H.size hζ Aζ (upd (upd (upd (upd (upd (upd (upd (upd Iζ 32 (nI (nζ + 1))) 5 (Iζ 5)) 32 (nI ((nζ + 1) + 1))) 6 (Iζ 6)) 32 (nI ((nζ + 2) + 1))) 7 (Iζ 7)) 32 (nI ((nζ + 3) + 1))) 8 (Iζ 8)) (upd (upd (upd (upd kfζ nζ (Iζ 5)) (nζ + 1) (Iζ 6)) (nζ + 2) (Iζ 7)) (nζ + 3) (Iζ 8)) (nζ + 4) (Iζ 11) (by omega) h33ζ rfl) gX7_passAll_X7_pass kX7_pass rfl rfl rfl rfl ⟨(Nat.le_of_ble_eq_true rfl), (Nat.le_of_ble_eq_true rfl)⟩ [7, 8] [0, 1, 2, 3, 4, 5, 6] rfl rfl rfl (by decide) rfl rfl rfl rfl rfl hl.1 (Nat.le_of_ble_eq_true rfl) dX7_passAll_54 ⟨(Nat.le_of_ble_eq_true rfl), (Nat.le_of_ble_eq_true rfl)⟩ (fun r_w u_w H locs hw hP hD hS => ?_)
  have hP : va_P g.1 vwCl [aI g (Aζ 0) 121 f0ζ, aI g (Aζ 1) 10 f1ζ, aI g (Aζ 2) 10 f2ζ, aI g (Aζ 3) 10 f3ζ, aI g (Aζ 4) 10 f4ζ, aI g (Aζ 9) 8 f5ζ, aI g (Aζ 10) 8 f6ζ, (hζ, .inr (7, oM Aζ (upd (upd (upd (upd (upd (upd (upd (upd (upd Iζ 32 (nI (nζ + 1))) 5 (Iζ 5)) 32 (nI ((nζ + 1) + 1))) 6 (Iζ 6)) 32 (nI ((nζ + 2) + 1))) 7 (Iζ 7)) 32 (nI ((nζ + 3) + 1))) 8 (Iζ 8)) 32 (nI ((nζ + 4) + 1))))), aI g (Aζ 30) 400 (upd (upd (upd (upd (upd kfζ nζ (Iζ 5)) (nζ + 1) (Iζ 6)) (nζ + 2) (Iζ 7)) (nζ + 3) (Iζ 8)) (nζ + 4) (Iζ 11))] H := hP
  have hD : va_D Z [aI g (Aζ 0) 121 f0ζ, aI g (Aζ 1) 10 f1ζ, aI g (Aζ 2) 10 f2ζ, aI g (Aζ 3) 10 f3ζ, aI g (Aζ 4) 10 f4ζ, aI g (Aζ 9) 8 f5ζ, aI g (Aζ 10) 8 f6ζ, (hζ, .inr (7, oM Aζ (upd (upd (upd (upd (upd (upd (upd (upd (upd Iζ 32 (nI (nζ + 1))) 5 (Iζ 5)) 32 (nI ((nζ + 1) + 1))) 6 (Iζ 6)) 32 (nI ((nζ + 2) + 1))) 7 (Iζ 7)) 32 (nI ((nζ + 3) + 1))) 8 (Iζ 8)) 32 (nI ((nζ + 4) + 1))))), aI g (Aζ 30) 400 (upd (upd (upd (upd (upd kfζ nζ (Iζ 5)) (nζ + 1) (Iζ 6)) (nζ + 2) (Iζ 7)) (nζ + 3) (Iζ 8)) (nζ + 4) (Iζ 11))] := hD
  obtain rfl := hw
  refine va_put (D := g.1) (ci := 7) (v := .int (Iζ 11)) (ty := .int) (C := RX7) (T := TX7) (N := 34) hx hb hts hi7 tyX7 tyX7_ok nmX7 hown hK hP hD hS 7 rfl rfl 11 (by decide) (hts (.fieldLink RX7 244 "PanTalesModel" "sights" "I") (by decide +kernel)) (fun _ h9 => h9) rfl (by decide +kernel) rfl rfl (Nat.le_of_ble_eq_true rfl) dX7_passAll_57 (fun H locs hP hD hS => ?_)
  have hP : va_P g.1 vwCl [aI g (Aζ 0) 121 f0ζ, aI g (Aζ 1) 10 f1ζ, aI g (Aζ 2) 10 f2ζ, aI g (Aζ 3) 10 f3ζ, aI g (Aζ 4) 10 f4ζ, aI g (Aζ 9) 8 f5ζ, aI g (Aζ 10) 8 f6ζ, (hζ, .inr (7, oM Aζ (upd (upd (upd (upd (upd (upd (upd (upd (upd (upd Iζ 32 (nI (nζ + 1))) 5 (Iζ 5)) 32 (nI ((nζ + 1) + 1))) 6 (Iζ 6)) 32 (nI ((nζ + 2) + 1))) 7 (Iζ 7)) 32 (nI ((nζ + 3) + 1))) 8 (Iζ 8)) 32 (nI ((nζ + 4) + 1))) 11 (Iζ 11)))), aI g (Aζ 30) 400 (upd (upd (upd (upd (upd kfζ nζ (Iζ 5)) (nζ + 1) (Iζ 6)) (nζ + 2) (Iζ 7)) (nζ + 3) (Iζ 8)) (nζ + 4) (Iζ 11))] H := hP
  have hD : va_D Z [aI g (Aζ 0) 121 f0ζ, aI g (Aζ 1) 10 f1ζ, aI g (Aζ 2) 10 f2ζ, aI g (Aζ 3) 10 f3ζ, aI g (Aζ 4) 10 f4ζ, aI g (Aζ 9) 8 f5ζ, aI g (Aζ 10) 8 f6ζ, (hζ, .inr (7, oM Aζ (upd (upd (upd (upd (upd (upd (upd (upd (upd (upd Iζ 32 (nI (nζ + 1))) 5 (Iζ 5)) 32 (nI ((nζ + 1) + 1))) 6 (Iζ 6)) 32 (nI ((nζ + 2) + 1))) 7 (Iζ 7)) 32 (nI ((nζ + 3) + 1))) 8 (Iζ 8)) 32 (nI ((nζ + 4) + 1))) 11 (Iζ 11)))), aI g (Aζ 30) 400 (upd (upd (upd (upd (upd kfζ nζ (Iζ 5)) (nζ + 1) (Iζ 6)) (nζ + 2) (Iζ 7)) (nζ + 3) (Iζ 8)) (nζ + 4) (Iζ 11))] := hD
  refine lv_aload_n hx hb dX7_passAll_60 rfl (lv_at hl 0 rfl) ?_
  refine lv_aload_n hx hb dX7_passAll_61 rfl (lv_at hl 0 rfl) ?_
  refine va_get (D := g.1) (ci := 7) (v := .ref (Aζ 0)) (C := RX7) (T := TX7) (N := 34) hx hb hts hi7 hown hK hP 7 rfl rfl 0 (by decide) (hts (.fieldLink RX7 7 "PanTalesModel" "roads" "[I") (by decide +kernel)) (fun _ h9 => h9) rfl dX7_passAll_62 ?_
  refine lv_bipush (v := 121) hx hb dX7_passAll_65 (by decide) ?_
  refine gcV_v (As := [.ref (Aζ 0), .int 121]) (rest := []) (ci := 7) (q := (RX7, TX7, 34)) F hK hN hP hD hS hA (c_X7_passRow l g H.size hζ Aζ (upd (upd (upd (upd (upd (upd (upd (upd (upd (upd Iζ 32 (nI (nζ + 1))) 5 (Iζ 5)) 32 (nI ((nζ + 1) + 1))) 6 (Iζ 6)) 32 (nI ((nζ + 2) + 1))) 7 (Iζ 7)) 32 (nI ((nζ + 3) + 1))) 8 (Iζ 8)) 32 (nI ((nζ + 4) + 1))) 11 (Iζ 11)) (Aζ 0) 121 (nζ + 5) f0ζ (upd (upd (upd (upd (upd kfζ nζ (Iζ 5)) (nζ + 1) (Iζ 6)) (nζ + 2) (Iζ 7)) (nζ + 3) (Iζ 8)) (nζ + 4) (Iζ 11)) (by omega) h33ζ rfl) gX7_passAll_X7_passRow kX7_passRow rfl rfl rfl rfl ⟨(Nat.le_of_ble_eq_true rfl), (Nat.le_of_ble_eq_true rfl)⟩ [7, 0, 8] [1, 2, 3, 4, 5, 6] rfl rfl rfl (by decide) rfl rfl rfl rfl rfl hl.1 (Nat.le_of_ble_eq_true rfl) dX7_passAll_67 ⟨(Nat.le_of_ble_eq_true rfl), (Nat.le_of_ble_eq_true rfl)⟩ (fun u_w H locs hw hP hD hS => ?_)
  obtain ⟨E_1, rfl⟩ : ∃ z, z = u_w := ⟨_, rfl⟩
  have hw_2 := hw
  have hP : va_P g.1 vwCl [aI g (Aζ 1) 10 f1ζ, aI g (Aζ 2) 10 f2ζ, aI g (Aζ 3) 10 f3ζ, aI g (Aζ 4) 10 f4ζ, aI g (Aζ 9) 8 f5ζ, aI g (Aζ 10) 8 f6ζ, (hζ, .inr (7, oM Aζ E_1.1)), aI g (Aζ 0) 121 f0ζ, aI g (Aζ 30) 400 E_1.2] H := hP
  have hD : va_D Z [aI g (Aζ 1) 10 f1ζ, aI g (Aζ 2) 10 f2ζ, aI g (Aζ 3) 10 f3ζ, aI g (Aζ 4) 10 f4ζ, aI g (Aζ 9) 8 f5ζ, aI g (Aζ 10) 8 f6ζ, (hζ, .inr (7, oM Aζ E_1.1)), aI g (Aζ 0) 121 f0ζ, aI g (Aζ 30) 400 E_1.2] := hD
  refine lv_aload_n hx hb dX7_passAll_70 rfl (lv_at hl 0 rfl) ?_
  refine lv_aload_n hx hb dX7_passAll_71 rfl (lv_at hl 0 rfl) ?_
  refine va_get (D := g.1) (ci := 7) (v := .ref (Aζ 1)) (C := RX7) (T := TX7) (N := 34) hx hb hts hi7 hown hK hP 6 rfl rfl 1 (by decide) (hts (.fieldLink RX7 13 "PanTalesModel" "doubt" "[I") (by decide +kernel)) (fun _ h9 => h9) rfl dX7_passAll_72 ?_
  refine lv_bipush (v := 10) hx hb dX7_passAll_75 (by decide) ?_
  refine gcV_v (As := [.ref (Aζ 1), .int 10]) (rest := []) (ci := 7) (q := (RX7, TX7, 34)) F hK hN hP hD hS hA (c_X7_passRow l g H.size hζ Aζ E_1.1 (Aζ 1) 10 (nζ + 126) f1ζ E_1.2 (by omega) hw_2.1 hw_2.2) gX7_passAll_X7_passRow kX7_passRow rfl rfl rfl rfl ⟨(Nat.le_of_ble_eq_true rfl), (Nat.le_of_ble_eq_true rfl)⟩ [6, 0, 8] [1, 2, 3, 4, 5, 7] rfl rfl rfl (by decide) rfl rfl rfl rfl rfl hl.1 (Nat.le_of_ble_eq_true rfl) dX7_passAll_77 ⟨(Nat.le_of_ble_eq_true rfl), (Nat.le_of_ble_eq_true rfl)⟩ (fun u_w H locs hw hP hD hS => ?_)
  obtain ⟨E_3, rfl⟩ : ∃ z, z = u_w := ⟨_, rfl⟩
  have hw_4 := hw
  have hP : va_P g.1 vwCl [aI g (Aζ 2) 10 f2ζ, aI g (Aζ 3) 10 f3ζ, aI g (Aζ 4) 10 f4ζ, aI g (Aζ 9) 8 f5ζ, aI g (Aζ 10) 8 f6ζ, aI g (Aζ 0) 121 f0ζ, (hζ, .inr (7, oM Aζ E_3.1)), aI g (Aζ 1) 10 f1ζ, aI g (Aζ 30) 400 E_3.2] H := hP
  have hD : va_D Z [aI g (Aζ 2) 10 f2ζ, aI g (Aζ 3) 10 f3ζ, aI g (Aζ 4) 10 f4ζ, aI g (Aζ 9) 8 f5ζ, aI g (Aζ 10) 8 f6ζ, aI g (Aζ 0) 121 f0ζ, (hζ, .inr (7, oM Aζ E_3.1)), aI g (Aζ 1) 10 f1ζ, aI g (Aζ 30) 400 E_3.2] := hD
  refine lv_aload_n hx hb dX7_passAll_80 rfl (lv_at hl 0 rfl) ?_
  refine lv_aload_n hx hb dX7_passAll_81 rfl (lv_at hl 0 rfl) ?_
  refine va_get (D := g.1) (ci := 7) (v := .ref (Aζ 2)) (C := RX7) (T := TX7) (N := 34) hx hb hts hi7 hown hK hP 6 rfl rfl 2 (by decide) (hts (.fieldLink RX7 16 "PanTalesModel" "damp" "[I") (by decide +kernel)) (fun _ h9 => h9) rfl dX7_passAll_82 ?_
  refine lv_bipush (v := 10) hx hb dX7_passAll_85 (by decide) ?_
  refine gcV_v (As := [.ref (Aζ 2), .int 10]) (rest := []) (ci := 7) (q := (RX7, TX7, 34)) F hK hN hP hD hS hA (c_X7_passRow l g H.size hζ Aζ E_3.1 (Aζ 2) 10 (nζ + 136) f2ζ E_3.2 (by omega) hw_4.1 hw_4.2) gX7_passAll_X7_passRow kX7_passRow rfl rfl rfl rfl ⟨(Nat.le_of_ble_eq_true rfl), (Nat.le_of_ble_eq_true rfl)⟩ [6, 0, 8] [1, 2, 3, 4, 5, 7] rfl rfl rfl (by decide) rfl rfl rfl rfl rfl hl.1 (Nat.le_of_ble_eq_true rfl) dX7_passAll_87 ⟨(Nat.le_of_ble_eq_true rfl), (Nat.le_of_ble_eq_true rfl)⟩ (fun u_w H locs hw hP hD hS => ?_)
  obtain ⟨E_5, rfl⟩ : ∃ z, z = u_w := ⟨_, rfl⟩
  have hw_6 := hw
  have hP : va_P g.1 vwCl [aI g (Aζ 3) 10 f3ζ, aI g (Aζ 4) 10 f4ζ, aI g (Aζ 9) 8 f5ζ, aI g (Aζ 10) 8 f6ζ, aI g (Aζ 0) 121 f0ζ, aI g (Aζ 1) 10 f1ζ, (hζ, .inr (7, oM Aζ E_5.1)), aI g (Aζ 2) 10 f2ζ, aI g (Aζ 30) 400 E_5.2] H := hP
  have hD : va_D Z [aI g (Aζ 3) 10 f3ζ, aI g (Aζ 4) 10 f4ζ, aI g (Aζ 9) 8 f5ζ, aI g (Aζ 10) 8 f6ζ, aI g (Aζ 0) 121 f0ζ, aI g (Aζ 1) 10 f1ζ, (hζ, .inr (7, oM Aζ E_5.1)), aI g (Aζ 2) 10 f2ζ, aI g (Aζ 30) 400 E_5.2] := hD
  refine lv_aload_n hx hb dX7_passAll_90 rfl (lv_at hl 0 rfl) ?_
  refine lv_aload_n hx hb dX7_passAll_91 rfl (lv_at hl 0 rfl) ?_
  refine va_get (D := g.1) (ci := 7) (v := .ref (Aζ 3)) (C := RX7) (T := TX7) (N := 34) hx hb hts hi7 hown hK hP 6 rfl rfl 3 (by decide) (hts (.fieldLink RX7 19 "PanTalesModel" "believes" "[I") (by decide +kernel)) (fun _ h9 => h9) rfl dX7_passAll_92 ?_
  refine lv_bipush (v := 10) hx hb dX7_passAll_95 (by decide) ?_
  refine gcV_v (As := [.ref (Aζ 3), .int 10]) (rest := []) (ci := 7) (q := (RX7, TX7, 34)) F hK hN hP hD hS hA (c_X7_passRow l g H.size hζ Aζ E_5.1 (Aζ 3) 10 (nζ + 146) f3ζ E_5.2 (by omega) hw_6.1 hw_6.2) gX7_passAll_X7_passRow kX7_passRow rfl rfl rfl rfl ⟨(Nat.le_of_ble_eq_true rfl), (Nat.le_of_ble_eq_true rfl)⟩ [6, 0, 8] [1, 2, 3, 4, 5, 7] rfl rfl rfl (by decide) rfl rfl rfl rfl rfl hl.1 (Nat.le_of_ble_eq_true rfl) dX7_passAll_97 ⟨(Nat.le_of_ble_eq_true rfl), (Nat.le_of_ble_eq_true rfl)⟩ (fun u_w H locs hw hP hD hS => ?_)
  obtain ⟨E_7, rfl⟩ : ∃ z, z = u_w := ⟨_, rfl⟩
  have hw_8 := hw
  have hP : va_P g.1 vwCl [aI g (Aζ 4) 10 f4ζ, aI g (Aζ 9) 8 f5ζ, aI g (Aζ 10) 8 f6ζ, aI g (Aζ 0) 121 f0ζ, aI g (Aζ 1) 10 f1ζ, aI g (Aζ 2) 10 f2ζ, (hζ, .inr (7, oM Aζ E_7.1)), aI g (Aζ 3) 10 f3ζ, aI g (Aζ 30) 400 E_7.2] H := hP
  have hD : va_D Z [aI g (Aζ 4) 10 f4ζ, aI g (Aζ 9) 8 f5ζ, aI g (Aζ 10) 8 f6ζ, aI g (Aζ 0) 121 f0ζ, aI g (Aζ 1) 10 f1ζ, aI g (Aζ 2) 10 f2ζ, (hζ, .inr (7, oM Aζ E_7.1)), aI g (Aζ 3) 10 f3ζ, aI g (Aζ 30) 400 E_7.2] := hD
  refine lv_aload_n hx hb dX7_passAll_100 rfl (lv_at hl 0 rfl) ?_
  refine lv_aload_n hx hb dX7_passAll_101 rfl (lv_at hl 0 rfl) ?_
  refine va_get (D := g.1) (ci := 7) (v := .ref (Aζ 4)) (C := RX7) (T := TX7) (N := 34) hx hb hts hi7 hown hK hP 6 rfl rfl 4 (by decide) (hts (.fieldLink RX7 22 "PanTalesModel" "fades" "[I") (by decide +kernel)) (fun _ h9 => h9) rfl dX7_passAll_102 ?_
  refine lv_bipush (v := 10) hx hb dX7_passAll_105 (by decide) ?_
  refine gcV_v (As := [.ref (Aζ 4), .int 10]) (rest := []) (ci := 7) (q := (RX7, TX7, 34)) F hK hN hP hD hS hA (c_X7_passRow l g H.size hζ Aζ E_7.1 (Aζ 4) 10 (nζ + 156) f4ζ E_7.2 (by omega) hw_8.1 hw_8.2) gX7_passAll_X7_passRow kX7_passRow rfl rfl rfl rfl ⟨(Nat.le_of_ble_eq_true rfl), (Nat.le_of_ble_eq_true rfl)⟩ [6, 0, 8] [1, 2, 3, 4, 5, 7] rfl rfl rfl (by decide) rfl rfl rfl rfl rfl hl.1 (Nat.le_of_ble_eq_true rfl) dX7_passAll_107 ⟨(Nat.le_of_ble_eq_true rfl), (Nat.le_of_ble_eq_true rfl)⟩ (fun u_w H locs hw hP hD hS => ?_)
  obtain ⟨E_9, rfl⟩ : ∃ z, z = u_w := ⟨_, rfl⟩
  have hw_10 := hw
  have hP : va_P g.1 vwCl [aI g (Aζ 9) 8 f5ζ, aI g (Aζ 10) 8 f6ζ, aI g (Aζ 0) 121 f0ζ, aI g (Aζ 1) 10 f1ζ, aI g (Aζ 2) 10 f2ζ, aI g (Aζ 3) 10 f3ζ, (hζ, .inr (7, oM Aζ E_9.1)), aI g (Aζ 4) 10 f4ζ, aI g (Aζ 30) 400 E_9.2] H := hP
  have hD : va_D Z [aI g (Aζ 9) 8 f5ζ, aI g (Aζ 10) 8 f6ζ, aI g (Aζ 0) 121 f0ζ, aI g (Aζ 1) 10 f1ζ, aI g (Aζ 2) 10 f2ζ, aI g (Aζ 3) 10 f3ζ, (hζ, .inr (7, oM Aζ E_9.1)), aI g (Aζ 4) 10 f4ζ, aI g (Aζ 30) 400 E_9.2] := hD
  refine lv_aload_n hx hb dX7_passAll_110 rfl (lv_at hl 0 rfl) ?_
  refine lv_aload_n hx hb dX7_passAll_111 rfl (lv_at hl 0 rfl) ?_
  refine va_get (D := g.1) (ci := 7) (v := .ref (Aζ 9)) (C := RX7) (T := TX7) (N := 34) hx hb hts hi7 hown hK hP 6 rfl rfl 9 (by decide) (hts (.fieldLink RX7 25 "PanTalesModel" "sightBed" "[I") (by decide +kernel)) (fun _ h9 => h9) rfl dX7_passAll_112 ?_
  refine lv_bipush (v := 8) hx hb dX7_passAll_115 (by decide) ?_
  refine gcV_v (As := [.ref (Aζ 9), .int 8]) (rest := []) (ci := 7) (q := (RX7, TX7, 34)) F hK hN hP hD hS hA (c_X7_passRow l g H.size hζ Aζ E_9.1 (Aζ 9) 8 (nζ + 166) f5ζ E_9.2 (by omega) hw_10.1 hw_10.2) gX7_passAll_X7_passRow kX7_passRow rfl rfl rfl rfl ⟨(Nat.le_of_ble_eq_true rfl), (Nat.le_of_ble_eq_true rfl)⟩ [6, 0, 8] [1, 2, 3, 4, 5, 7] rfl rfl rfl (by decide) rfl rfl rfl rfl rfl hl.1 (Nat.le_of_ble_eq_true rfl) dX7_passAll_117 ⟨(Nat.le_of_ble_eq_true rfl), (Nat.le_of_ble_eq_true rfl)⟩ (fun u_w H locs hw hP hD hS => ?_)
  obtain ⟨E_11, rfl⟩ : ∃ z, z = u_w := ⟨_, rfl⟩
  have hw_12 := hw
  have hP : va_P g.1 vwCl [aI g (Aζ 10) 8 f6ζ, aI g (Aζ 0) 121 f0ζ, aI g (Aζ 1) 10 f1ζ, aI g (Aζ 2) 10 f2ζ, aI g (Aζ 3) 10 f3ζ, aI g (Aζ 4) 10 f4ζ, (hζ, .inr (7, oM Aζ E_11.1)), aI g (Aζ 9) 8 f5ζ, aI g (Aζ 30) 400 E_11.2] H := hP
  have hD : va_D Z [aI g (Aζ 10) 8 f6ζ, aI g (Aζ 0) 121 f0ζ, aI g (Aζ 1) 10 f1ζ, aI g (Aζ 2) 10 f2ζ, aI g (Aζ 3) 10 f3ζ, aI g (Aζ 4) 10 f4ζ, (hζ, .inr (7, oM Aζ E_11.1)), aI g (Aζ 9) 8 f5ζ, aI g (Aζ 30) 400 E_11.2] := hD
  refine lv_aload_n hx hb dX7_passAll_120 rfl (lv_at hl 0 rfl) ?_
  refine lv_aload_n hx hb dX7_passAll_121 rfl (lv_at hl 0 rfl) ?_
  refine va_get (D := g.1) (ci := 7) (v := .ref (Aζ 10)) (C := RX7) (T := TX7) (N := 34) hx hb hts hi7 hown hK hP 6 rfl rfl 10 (by decide) (hts (.fieldLink RX7 28 "PanTalesModel" "sightTale" "[I") (by decide +kernel)) (fun _ h9 => h9) rfl dX7_passAll_122 ?_
  refine lv_bipush (v := 8) hx hb dX7_passAll_125 (by decide) ?_
  refine gcV_v (As := [.ref (Aζ 10), .int 8]) (rest := []) (ci := 7) (q := (RX7, TX7, 34)) F hK hN hP hD hS hA (c_X7_passRow l g H.size hζ Aζ E_11.1 (Aζ 10) 8 (nζ + 174) f6ζ E_11.2 (by omega) hw_12.1 hw_12.2) gX7_passAll_X7_passRow kX7_passRow rfl rfl rfl rfl ⟨(Nat.le_of_ble_eq_true rfl), (Nat.le_of_ble_eq_true rfl)⟩ [6, 0, 8] [1, 2, 3, 4, 5, 7] rfl rfl rfl (by decide) rfl rfl rfl rfl rfl hl.1 (Nat.le_of_ble_eq_true rfl) dX7_passAll_127 ⟨(Nat.le_of_ble_eq_true rfl), (Nat.le_of_ble_eq_true rfl)⟩ (fun u_w H locs hw hP hD hS => ?_)
  obtain ⟨E_13, rfl⟩ : ∃ z, z = u_w := ⟨_, rfl⟩
  have hw_14 := hw
  have hP : va_P g.1 vwCl [aI g (Aζ 0) 121 f0ζ, aI g (Aζ 1) 10 f1ζ, aI g (Aζ 2) 10 f2ζ, aI g (Aζ 3) 10 f3ζ, aI g (Aζ 4) 10 f4ζ, aI g (Aζ 9) 8 f5ζ, (hζ, .inr (7, oM Aζ E_13.1)), aI g (Aζ 10) 8 f6ζ, aI g (Aζ 30) 400 E_13.2] H := hP
  have hD : va_D Z [aI g (Aζ 0) 121 f0ζ, aI g (Aζ 1) 10 f1ζ, aI g (Aζ 2) 10 f2ζ, aI g (Aζ 3) 10 f3ζ, aI g (Aζ 4) 10 f4ζ, aI g (Aζ 9) 8 f5ζ, (hζ, .inr (7, oM Aζ E_13.1)), aI g (Aζ 10) 8 f6ζ, aI g (Aζ 30) 400 E_13.2] := hD
  exact r_vret hx hb hr hlk hS E_13.1 trivial (hP.sub [6] rfl) (hD.sub [6] (by decide) rfl) dX7_passAll_130
set_option maxHeartbeats 4000000 in
set_option maxRecDepth 100000 in
theorem c_X7_image (l : Launch) (g : GT) (sz : Nat) (hζ : Nat) (Aζ : Nat → Nat) (xζ : Int32) : Ci l yX7_image wsX7_image { frames := 3, cells := 0, slots := 0, locals := 65 } g sz [.ref hζ, .int xζ] [(hζ, .inr (7, oM Aζ iM0)), aI g (Aζ 0) 121 (fun _ => 0), aI g (Aζ 1) 10 (fun _ => 5), aI g (Aζ 2) 10 (fun _ => 0), aI g (Aζ 3) 10 (fun _ => (-6)), aI g (Aζ 4) 10 (fun jζ => nI jζ), aI g (Aζ 9) 8 (fun _ => 0), aI g (Aζ 10) 8 (fun _ => 0), aI g (Aζ 30) 400 (fun _ => 0), aZ g (Aζ 31) 2 (fun _ => 0)] (imageF xζ) [] := by
  refine gMet_i (cc := cX7_image) (maxL := 2) (ret := (some .int)) (by decide) rfl (Nat.le_of_ble_eq_true rfl) ?_
  intro p e s m args below meth c Z hx hb hr F hlk hnm hK hN hA H locs hP hD hS ls hl
  have hl : lv_has ls 2 [(0, .ref hζ), (1, .int xζ)] := hl
  have F : CallFix p m c cX7_image 2 s args wsX7_image RX7 := F
  have hts := F.2.2.2.2
  have hown : s.vm.findClass RX7 = some m.cls := F.2.2.2.1
  have hi7 : ∀ w ∈ u_ws RX7 TX7 34, w ∈ wsX7_image := by decide +kernel
  refine lv_iload_n hx hb dX7_image_0 rfl (lv_at hl 1 rfl) ?_
  refine lv_i2l (v := xζ.toInt64) hx hb dX7_image_1 rfl ?_
  refine lv_lconst (v := 0) hx hb dX7_image_2 (by decide) ?_
  refine lv_lconst (v := 1) hx hb dX7_image_3 (by decide) ?_
  refine gcP (As := [.long xζ.toInt64, .long 0, .long 1]) (rest := []) F (c_X7_in l xζ.toInt64 0 1) gX7_image_X7_in kX7_in rfl rfl rfl ⟨(Nat.le_of_ble_eq_true rfl), (Nat.le_of_ble_eq_true rfl)⟩ rfl rfl hl.1 (Nat.le_of_ble_eq_true rfl) dX7_image_4 ⟨(Nat.le_of_ble_eq_true rfl), (Nat.le_of_ble_eq_true rfl)⟩ ?_
  refine gtop (y := bI (inB xζ 0 1)) (congrArg bI (inL_i (lo := 0) (hi := 1) (by decide) (by decide))) ?_
  refine lv_if_ne (tgt := 13) hx hb dX7_image_7 (by decide) (fun c_1 => ?_) (fun c_1 => ?_)
  · have c_1 : inB xζ 0 1 = true := bI_1 c_1
    obtain ⟨iζ, hiζ, eiζ⟩ := inB_nat (N := 2) (by decide) c_1
    have hl : lv_has ls 2 [(0, .ref hζ), (1, .int (nI iζ))] := by first | exact hl | (rw [← (eiζ : xζ = nI iζ)]; exact hl)
    refine lv_aload_n hx hb dX7_image_13 rfl (lv_at hl 0 rfl) ?_
    refine lv_sipush (v := 200) hx hb dX7_image_14 (by decide) ?_
    refine lv_iload_n hx hb dX7_image_17 rfl (lv_at hl 1 rfl) ?_
    refine lv_imul hx hb dX7_image_18 ?_
    refine gtop (y := nI (200 * iζ)) (pk_mul 200 iζ) ?_
    refine va_put (D := g.1) (ci := 7) (v := .int (nI (200 * iζ))) (ty := .int) (C := RX7) (T := TX7) (N := 34) hx hb hts hi7 tyX7 tyX7_ok nmX7 hown hK hP hD hS 0 rfl rfl 32 (by decide) (hts (.fieldLink RX7 295 "PanTalesModel" "keptAt" "I") (by decide +kernel)) (fun _ h9 => h9) rfl (by decide +kernel) rfl rfl (Nat.le_of_ble_eq_true rfl) dX7_image_19 (fun H locs hP hD hS => ?_)
    have hP : va_P g.1 vwCl [(hζ, .inr (7, oM Aζ (upd iM0 32 (nI (200 * iζ))))), aI g (Aζ 0) 121 (fun _ => 0), aI g (Aζ 1) 10 (fun _ => 5), aI g (Aζ 2) 10 (fun _ => 0), aI g (Aζ 3) 10 (fun _ => (-6)), aI g (Aζ 4) 10 (fun jζ => nI jζ), aI g (Aζ 9) 8 (fun _ => 0), aI g (Aζ 10) 8 (fun _ => 0), aI g (Aζ 30) 400 (fun _ => 0), aZ g (Aζ 31) 2 (fun _ => 0)] H := hP
    have hD : va_D Z [(hζ, .inr (7, oM Aζ (upd iM0 32 (nI (200 * iζ))))), aI g (Aζ 0) 121 (fun _ => 0), aI g (Aζ 1) 10 (fun _ => 5), aI g (Aζ 2) 10 (fun _ => 0), aI g (Aζ 3) 10 (fun _ => (-6)), aI g (Aζ 4) 10 (fun jζ => nI jζ), aI g (Aζ 9) 8 (fun _ => 0), aI g (Aζ 10) 8 (fun _ => 0), aI g (Aζ 30) 400 (fun _ => 0), aZ g (Aζ 31) 2 (fun _ => 0)] := hD
    refine lv_aload_n hx hb dX7_image_22 rfl (lv_at hl 0 rfl) ?_
    refine lv_iconst (v := 1) hx hb dX7_image_23 (by decide) ?_
    refine va_put (D := g.1) (ci := 7) (v := .int 1) (ty := .boolean) (C := RX7) (T := TX7) (N := 34) hx hb hts hi7 tyX7 tyX7_ok nmX7 hown hK hP hD hS 0 rfl rfl 33 (by decide) (hts (.fieldLink RX7 291 "PanTalesModel" "isWriting" "Z") (by decide +kernel)) (fun _ h9 => h9) rfl (by decide +kernel) (by decide) (by decide) (Nat.le_of_ble_eq_true rfl) dX7_image_24 (fun H locs hP hD hS => ?_)
    have hP : va_P g.1 vwCl [(hζ, .inr (7, oM Aζ (upd (upd iM0 32 (nI (200 * iζ))) 33 1))), aI g (Aζ 0) 121 (fun _ => 0), aI g (Aζ 1) 10 (fun _ => 5), aI g (Aζ 2) 10 (fun _ => 0), aI g (Aζ 3) 10 (fun _ => (-6)), aI g (Aζ 4) 10 (fun jζ => nI jζ), aI g (Aζ 9) 8 (fun _ => 0), aI g (Aζ 10) 8 (fun _ => 0), aI g (Aζ 30) 400 (fun _ => 0), aZ g (Aζ 31) 2 (fun _ => 0)] H := hP
    have hD : va_D Z [(hζ, .inr (7, oM Aζ (upd (upd iM0 32 (nI (200 * iζ))) 33 1))), aI g (Aζ 0) 121 (fun _ => 0), aI g (Aζ 1) 10 (fun _ => 5), aI g (Aζ 2) 10 (fun _ => 0), aI g (Aζ 3) 10 (fun _ => (-6)), aI g (Aζ 4) 10 (fun jζ => nI jζ), aI g (Aζ 9) 8 (fun _ => 0), aI g (Aζ 10) 8 (fun _ => 0), aI g (Aζ 30) 400 (fun _ => 0), aZ g (Aζ 31) 2 (fun _ => 0)] := hD
    refine lv_aload_n hx hb dX7_image_27 rfl (lv_at hl 0 rfl) ?_
    refine gcV_v (As := []) (rest := []) (ci := 7) (q := (RX7, TX7, 34)) F hK hN hP hD hS hA (c_X7_passAll l g H.size hζ Aζ (upd (upd iM0 32 (nI (200 * iζ))) 33 1) (200 * iζ) (fun _ => 0) (fun _ => 5) (fun _ => 0) (fun _ => (-6)) (fun jζ => nI jζ) (fun _ => 0) (fun _ => 0) (fun _ => 0) (by omega) rfl rfl) gX7_image_X7_passAll kX7_passAll rfl rfl rfl rfl ⟨(Nat.le_of_ble_eq_true rfl), (Nat.le_of_ble_eq_true rfl)⟩ [0, 1, 2, 3, 4, 5, 6, 7, 8] [9] rfl rfl rfl (by decide) rfl rfl rfl rfl rfl hl.1 (Nat.le_of_ble_eq_true rfl) dX7_image_28 ⟨(Nat.le_of_ble_eq_true rfl), (Nat.le_of_ble_eq_true rfl)⟩ (fun u_w H locs hw hP hD hS => ?_)
    obtain ⟨J_2, rfl⟩ : ∃ z, z = u_w := ⟨_, rfl⟩
    have hw_3 := hw
    have hP : va_P g.1 vwCl [aZ g (Aζ 31) 2 (fun _ => 0), (hζ, .inr (7, oM Aζ J_2))] H := hP
    have hD : va_D Z [aZ g (Aζ 31) 2 (fun _ => 0), (hζ, .inr (7, oM Aζ J_2))] := hD
    refine lv_aload_n hx hb dX7_image_31 rfl (lv_at hl 0 rfl) ?_
    refine va_get (D := g.1) (ci := 7) (v := .ref (Aζ 31)) (C := RX7) (T := TX7) (N := 34) hx hb hts hi7 hown hK hP 1 rfl rfl 31 (by decide) (hts (.fieldLink RX7 69 "PanTalesModel" "isKeptImage" "[Z") (by decide +kernel)) (fun _ h9 => h9) rfl dX7_image_32 ?_
    refine lv_iload_n hx hb dX7_image_35 rfl (lv_at hl 1 rfl) ?_
    refine lv_iconst (v := 1) hx hb dX7_image_36 (by decide) ?_
    refine r_zast (f' := upd (fun _ => 0) iζ 1) hx hb hK hP hD hS 0 rfl (vp_in_nI (n := iζ) (by omega) (by omega)) (fun k_u _ => congrArg (fun z_u => upd (fun _ => 0) z_u 1 k_u) (nI_clamp (n := iζ) (by omega))) dX7_image_37 (fun H locs hP hD hS => ?_)
    have hP : va_P g.1 vwCl [aZ g (Aζ 31) 2 (upd (fun _ => 0) iζ 1), (hζ, .inr (7, oM Aζ J_2))] H := hP
    have hD : va_D Z [aZ g (Aζ 31) 2 (upd (fun _ => 0) iζ 1), (hζ, .inr (7, oM Aζ J_2))] := hD
    refine lv_iconst (v := 1) hx hb dX7_image_38 (by decide) ?_
    exact r_iret hx hb hr hlk hS () (by unfold imageF; rw [if_pos c_1]) (hP.sub [] rfl) (hD.sub [] (by decide) rfl) dX7_image_39
  · have c_1 : inB xζ 0 1 = false := bI_0 c_1
    refine lv_bipush (v := (-2)) hx hb dX7_image_10 (by decide) ?_
    exact r_iret hx hb hr hlk hS () (by unfold imageF; rw [if_neg (bF c_1)]) (hP.sub [] rfl) (hD.sub [] (by decide) rfl) dX7_image_12
set_option maxHeartbeats 4000000 in
set_option maxRecDepth 100000 in
theorem c_X7_restore (l : Launch) (g : GT) (sz : Nat) (hζ : Nat) (Aζ : Nat → Nat) (xζ : Int32) : Ci l yX7_restore wsX7_restore { frames := 1, cells := 0, slots := 0, locals := 25 } g sz [.ref hζ, .int xζ] [(hζ, .inr (7, oM Aζ iM0)), aZ g (Aζ 31) 2 (fun _ => 0)] (restoreF xζ) [] := by
  refine gMet_i (cc := cX7_restore) (maxL := 2) (ret := (some .int)) (by decide) rfl (Nat.le_of_ble_eq_true rfl) ?_
  intro p e s m args below meth c Z hx hb hr F hlk hnm hK hN hA H locs hP hD hS ls hl
  have hl : lv_has ls 2 [(0, .ref hζ), (1, .int xζ)] := hl
  have F : CallFix p m c cX7_restore 2 s args wsX7_restore RX7 := F
  have hts := F.2.2.2.2
  have hown : s.vm.findClass RX7 = some m.cls := F.2.2.2.1
  have hi7 : ∀ w ∈ u_ws RX7 TX7 34, w ∈ wsX7_restore := by decide +kernel
  refine lv_iload_n hx hb dX7_restore_0 rfl (lv_at hl 1 rfl) ?_
  refine lv_i2l (v := xζ.toInt64) hx hb dX7_restore_1 rfl ?_
  refine lv_lconst (v := 0) hx hb dX7_restore_2 (by decide) ?_
  refine lv_lconst (v := 1) hx hb dX7_restore_3 (by decide) ?_
  refine gcP (As := [.long xζ.toInt64, .long 0, .long 1]) (rest := []) F (c_X7_in l xζ.toInt64 0 1) gX7_restore_X7_in kX7_in rfl rfl rfl ⟨(Nat.le_of_ble_eq_true rfl), (Nat.le_of_ble_eq_true rfl)⟩ rfl rfl hl.1 (Nat.le_of_ble_eq_true rfl) dX7_restore_4 ⟨(Nat.le_of_ble_eq_true rfl), (Nat.le_of_ble_eq_true rfl)⟩ ?_
  refine gtop (y := bI (inB xζ 0 1)) (congrArg bI (inL_i (lo := 0) (hi := 1) (by decide) (by decide))) ?_
  refine lv_if_ne (tgt := 13) hx hb dX7_restore_7 (by decide) (fun c_1 => ?_) (fun c_1 => ?_)
  · have c_1 : inB xζ 0 1 = true := bI_1 c_1
    obtain ⟨iζ, hiζ, eiζ⟩ := inB_nat (N := 2) (by decide) c_1
    have hl : lv_has ls 2 [(0, .ref hζ), (1, .int (nI iζ))] := by first | exact hl | (rw [← (eiζ : xζ = nI iζ)]; exact hl)
    refine lv_aload_n hx hb dX7_restore_13 rfl (lv_at hl 0 rfl) ?_
    refine va_get (D := g.1) (ci := 7) (v := .ref (Aζ 31)) (C := RX7) (T := TX7) (N := 34) hx hb hts hi7 hown hK hP 0 rfl rfl 31 (by decide) (hts (.fieldLink RX7 69 "PanTalesModel" "isKeptImage" "[Z") (by decide +kernel)) (fun _ h9 => h9) rfl dX7_restore_14 ?_
    refine lv_iload_n hx hb dX7_restore_17 rfl (lv_at hl 1 rfl) ?_
    refine r_zald (v := 0) hx hb hK hP 1 rfl (vp_in_nI (n := iζ) (by omega) (by omega)) (congrArg (fun _ => 0) (nI_clamp (n := iζ) (by omega))) dX7_restore_18 ?_
    refine lv_if_ne (tgt := 25) hx hb dX7_restore_19 (by decide) (fun c_2 => ?_) (fun c_2 => ?_)
    · exact absurd (by decide) c_2
    · refine lv_bipush (v := (-3)) hx hb dX7_restore_22 (by decide) ?_
      exact r_iret hx hb hr hlk hS () (by unfold restoreF; rw [if_pos c_1]) (hP.sub [] rfl) (hD.sub [] (by decide) rfl) dX7_restore_24
  · have c_1 : inB xζ 0 1 = false := bI_0 c_1
    refine lv_bipush (v := (-2)) hx hb dX7_restore_10 (by decide) ?_
    exact r_iret hx hb hr hlk hS () (by unfold restoreF; rw [if_neg (bF c_1)]) (hP.sub [] rfl) (hD.sub [] (by decide) rfl) dX7_restore_12
set_option maxHeartbeats 4000000 in
set_option maxRecDepth 100000 in
theorem c_X7_told (l : Launch) (g : GT) (sz : Nat) (hζ : Nat) (Aζ : Nat → Nat) (xζ : Int32) : Ci l yX7_told wsX7_told { frames := 2, cells := 0, slots := 0, locals := 45 } g sz [.ref hζ, .int xζ] [(hζ, .inr (7, oM Aζ iM0)), aI g (Aζ 0) 121 (fun _ => 0), aI g (Aζ 1) 10 (fun _ => 5), aI g (Aζ 2) 10 (fun _ => 0), aI g (Aζ 3) 10 (fun _ => (-6)), aI g (Aζ 4) 10 (fun jζ => nI jζ)] (toldF xζ) [] := by
  refine gMet_i (cc := cX7_told) (maxL := 4) (ret := (some .int)) (by decide) rfl (Nat.le_of_ble_eq_true rfl) ?_
  intro p e s m args below meth c Z hx hb hr F hlk hnm hK hN hA H locs hP hD hS ls hl
  have hl : lv_has ls 4 [(0, .ref hζ), (1, .int xζ)] := hl
  have F : CallFix p m c cX7_told 4 s args wsX7_told RX7 := F
  have hts := F.2.2.2.2
  have hown : s.vm.findClass RX7 = some m.cls := F.2.2.2.1
  have hi7 : ∀ w ∈ u_ws RX7 TX7 34, w ∈ wsX7_told := by decide +kernel
  refine lv_iload_n hx hb dX7_told_0 rfl (lv_at hl 1 rfl) ?_
  refine lv_i2l (v := xζ.toInt64) hx hb dX7_told_1 rfl ?_
  refine lv_ldc2 (v := 1000) hx hb hown (hts (.constantLong RX7 308 (1000)) (by decide +kernel)) dX7_told_2 ?_
  refine lv_ldc2 (v := 1219) hx hb hown (hts (.constantLong RX7 310 (1219)) (by decide +kernel)) dX7_told_5 ?_
  refine gcP (As := [.long xζ.toInt64, .long 1000, .long 1219]) (rest := []) F (c_X7_in l xζ.toInt64 1000 1219) gX7_told_X7_in kX7_in rfl rfl rfl ⟨(Nat.le_of_ble_eq_true rfl), (Nat.le_of_ble_eq_true rfl)⟩ rfl rfl hl.1 (Nat.le_of_ble_eq_true rfl) dX7_told_8 ⟨(Nat.le_of_ble_eq_true rfl), (Nat.le_of_ble_eq_true rfl)⟩ ?_
  refine gtop (y := bI (inB xζ 1000 1219)) (congrArg bI (inL_i (lo := 1000) (hi := 1219) (by decide) (by decide))) ?_
  refine lv_if_eq (tgt := 56) hx hb dX7_told_11 (by decide) (fun c_1 => ?_) (fun c_1 => ?_)
  · have c_1 : inB xζ 1000 1219 = false := bI_0 c_1
    refine lv_iload_n hx hb dX7_told_56 rfl (lv_at hl 1 rfl) ?_
    refine lv_i2l (v := xζ.toInt64) hx hb dX7_told_57 rfl ?_
    refine lv_ldc2 (v := 100) hx hb hown (hts (.constantLong RX7 312 (100)) (by decide +kernel)) dX7_told_58 ?_
    refine lv_ldc2 (v := 199) hx hb hown (hts (.constantLong RX7 314 (199)) (by decide +kernel)) dX7_told_61 ?_
    refine gcP (As := [.long xζ.toInt64, .long 100, .long 199]) (rest := []) F (c_X7_in l xζ.toInt64 100 199) gX7_told_X7_in kX7_in rfl rfl rfl ⟨(Nat.le_of_ble_eq_true rfl), (Nat.le_of_ble_eq_true rfl)⟩ rfl rfl hl.1 (Nat.le_of_ble_eq_true rfl) dX7_told_64 ⟨(Nat.le_of_ble_eq_true rfl), (Nat.le_of_ble_eq_true rfl)⟩ ?_
    refine gtop (y := bI (inB xζ 100 199)) (congrArg bI (inL_i (lo := 100) (hi := 199) (by decide) (by decide))) ?_
    refine lv_if_eq (tgt := 99) hx hb dX7_told_67 (by decide) (fun c_2 => ?_) (fun c_2 => ?_)
    · have c_2 : inB xζ 100 199 = false := bI_0 c_2
      refine lv_iload_n hx hb dX7_told_99 rfl (lv_at hl 1 rfl) ?_
      refine lv_i2l (v := xζ.toInt64) hx hb dX7_told_100 rfl ?_
      refine lv_ldc2 (v := 10) hx hb hown (hts (.constantLong RX7 82 (10)) (by decide +kernel)) dX7_told_101 ?_
      refine lv_ldc2 (v := 19) hx hb hown (hts (.constantLong RX7 316 (19)) (by decide +kernel)) dX7_told_104 ?_
      refine gcP (As := [.long xζ.toInt64, .long 10, .long 19]) (rest := []) F (c_X7_in l xζ.toInt64 10 19) gX7_told_X7_in kX7_in rfl rfl rfl ⟨(Nat.le_of_ble_eq_true rfl), (Nat.le_of_ble_eq_true rfl)⟩ rfl rfl hl.1 (Nat.le_of_ble_eq_true rfl) dX7_told_107 ⟨(Nat.le_of_ble_eq_true rfl), (Nat.le_of_ble_eq_true rfl)⟩ ?_
      refine gtop (y := bI (inB xζ 10 19)) (congrArg bI (inL_i (lo := 10) (hi := 19) (by decide) (by decide))) ?_
      refine lv_if_eq (tgt := 123) hx hb dX7_told_110 (by decide) (fun c_3 => ?_) (fun c_3 => ?_)
      · have c_3 : inB xζ 10 19 = false := bI_0 c_3
        refine lv_iload_n hx hb dX7_told_123 rfl (lv_at hl 1 rfl) ?_
        by_cases k_4 : xζ = 0
        · refine gtop (y := 0) k_4 ?_
          refine lv_tableIn (tgt := 164) (off := 40) hx hb dX7_told_124 (by decide) (by decide) rfl (by decide) ?_
          refine lv_aload_n hx hb dX7_told_164 rfl (lv_at hl 0 rfl) ?_
          refine va_get (D := g.1) (ci := 7) (v := .int 0) (C := RX7) (T := TX7) (N := 34) hx hb hts hi7 hown hK hP 0 rfl rfl 13 (by decide) (hts (.fieldLink RX7 100 "PanTalesModel" "padMany" "I") (by decide +kernel)) (fun _ h9 => h9) rfl dX7_told_165 ?_
          exact r_iret hx hb hr hlk hS () (by rw [k_4]; decide) (hP.sub [] rfl) (hD.sub [] (by decide) rfl) dX7_told_168
        by_cases k_5 : xζ = 1
        · refine gtop (y := 1) k_5 ?_
          refine lv_tableIn (tgt := 169) (off := 45) hx hb dX7_told_124 (by decide) (by decide) rfl (by decide) ?_
          refine lv_aload_n hx hb dX7_told_169 rfl (lv_at hl 0 rfl) ?_
          refine va_get (D := g.1) (ci := 7) (v := .int 10) (C := RX7) (T := TX7) (N := 34) hx hb hts hi7 hown hK hP 0 rfl rfl 5 (by decide) (hts (.fieldLink RX7 72 "PanTalesModel" "panPlace" "I") (by decide +kernel)) (fun _ h9 => h9) rfl dX7_told_170 ?_
          exact r_iret hx hb hr hlk hS () (by rw [k_5]; decide) (hP.sub [] rfl) (hD.sub [] (by decide) rfl) dX7_told_173
        by_cases k_6 : xζ = 2
        · refine gtop (y := 2) k_6 ?_
          refine lv_tableIn (tgt := 174) (off := 50) hx hb dX7_told_124 (by decide) (by decide) rfl (by decide) ?_
          refine lv_aload_n hx hb dX7_told_174 rfl (lv_at hl 0 rfl) ?_
          refine va_get (D := g.1) (ci := 7) (v := .int 0) (C := RX7) (T := TX7) (N := 34) hx hb hts hi7 hown hK hP 0 rfl rfl 6 (by decide) (hts (.fieldLink RX7 127 "PanTalesModel" "heat" "I") (by decide +kernel)) (fun _ h9 => h9) rfl dX7_told_175 ?_
          exact r_iret hx hb hr hlk hS () (by rw [k_6]; decide) (hP.sub [] rfl) (hD.sub [] (by decide) rfl) dX7_told_178
        by_cases k_7 : xζ = 3
        · refine gtop (y := 3) k_7 ?_
          refine lv_tableIn (tgt := 179) (off := 55) hx hb dX7_told_124 (by decide) (by decide) rfl (by decide) ?_
          refine lv_aload_n hx hb dX7_told_179 rfl (lv_at hl 0 rfl) ?_
          refine va_get (D := g.1) (ci := 7) (v := .int 0) (C := RX7) (T := TX7) (N := 34) hx hb hts hi7 hown hK hP 0 rfl rfl 7 (by decide) (hts (.fieldLink RX7 136 "PanTalesModel" "panTale" "I") (by decide +kernel)) (fun _ h9 => h9) rfl dX7_told_180 ?_
          exact r_iret hx hb hr hlk hS () (by rw [k_7]; decide) (hP.sub [] rfl) (hD.sub [] (by decide) rfl) dX7_told_183
        by_cases k_8 : xζ = 4
        · refine gtop (y := 4) k_8 ?_
          refine lv_tableIn (tgt := 184) (off := 60) hx hb dX7_told_124 (by decide) (by decide) rfl (by decide) ?_
          refine lv_aload_n hx hb dX7_told_184 rfl (lv_at hl 0 rfl) ?_
          refine va_get (D := g.1) (ci := 7) (v := .int 0) (C := RX7) (T := TX7) (N := 34) hx hb hts hi7 hown hK hP 0 rfl rfl 8 (by decide) (hts (.fieldLink RX7 130 "PanTalesModel" "mornings" "I") (by decide +kernel)) (fun _ h9 => h9) rfl dX7_told_185 ?_
          exact r_iret hx hb hr hlk hS () (by rw [k_8]; decide) (hP.sub [] rfl) (hD.sub [] (by decide) rfl) dX7_told_188
        by_cases k_9 : xζ = 5
        · refine gtop (y := 5) k_9 ?_
          refine lv_tableIn (tgt := 189) (off := 65) hx hb dX7_told_124 (by decide) (by decide) rfl (by decide) ?_
          refine lv_aload_n hx hb dX7_told_189 rfl (lv_at hl 0 rfl) ?_
          refine va_get (D := g.1) (ci := 7) (v := .int 0) (C := RX7) (T := TX7) (N := 34) hx hb hts hi7 hown hK hP 0 rfl rfl 11 (by decide) (hts (.fieldLink RX7 244 "PanTalesModel" "sights" "I") (by decide +kernel)) (fun _ h9 => h9) rfl dX7_told_190 ?_
          exact r_iret hx hb hr hlk hS () (by rw [k_9]; decide) (hP.sub [] rfl) (hD.sub [] (by decide) rfl) dX7_told_193
        refine lv_tableOut (tgt := 194) hx hb dX7_told_124 (sw_out 6 (by decide) (by decide) (lt_s (lt_s (lt_s (lt_s (lt_s (lt_s lt_0 k_4) k_5) k_6) k_7) k_8) k_9)) (by decide) ?_
        refine lv_bipush (v := (-2)) hx hb dX7_told_194 (by decide) ?_
        exact r_iret hx hb hr hlk hS () (tdD c_1 c_2 c_3 k_4 k_5 k_6 k_7 k_8 k_9) (hP.sub [] rfl) (hD.sub [] (by decide) rfl) dX7_told_196
      · have c_3 : inB xζ 10 19 = true := bI_1 c_3
        obtain ⟨vζ, h1vζ, hvζ, evζ⟩ := inBk_nat (a := 10) (N := 20) (by decide) (by decide) c_3
        have hl : lv_has ls 4 [(0, .ref hζ), (1, .int (nI vζ))] := by first | exact hl | (rw [← (evζ : xζ = nI vζ)]; exact hl)
        refine lv_aload_n hx hb dX7_told_113 rfl (lv_at hl 0 rfl) ?_
        refine va_get (D := g.1) (ci := 7) (v := .ref (Aζ 4)) (C := RX7) (T := TX7) (N := 34) hx hb hts hi7 hown hK hP 0 rfl rfl 4 (by decide) (hts (.fieldLink RX7 22 "PanTalesModel" "fades" "[I") (by decide +kernel)) (fun _ h9 => h9) rfl dX7_told_114 ?_
        refine lv_iload_n hx hb dX7_told_117 rfl (lv_at hl 1 rfl) ?_
        refine lv_bipush (v := 10) hx hb dX7_told_118 (by decide) ?_
        refine lv_isub hx hb dX7_told_120 ?_
        refine gtop (y := nI (vζ - 10)) (pk_sub (a := vζ) (b := 10) (by omega)) ?_
        refine r_iald (v := nI (vζ - 10)) hx hb hK hP 5 rfl (vp_in_nI (n := vζ - 10) (by omega) (by omega)) (congrArg (fun jζ => nI jζ) (nI_clamp (n := vζ - 10) (by omega))) dX7_told_121 ?_
        exact r_iret hx hb hr hlk hS () (tdC evζ h1vζ hvζ) (hP.sub [] rfl) (hD.sub [] (by decide) rfl) dX7_told_122
    · have c_2 : inB xζ 100 199 = true := bI_1 c_2
      obtain ⟨vζ, h1vζ, hvζ, evζ⟩ := inBk_nat (a := 100) (N := 200) (by decide) (by decide) c_2
      have hl : lv_has ls 4 [(0, .ref hζ), (1, .int (nI vζ))] := by first | exact hl | (rw [← (evζ : xζ = nI vζ)]; exact hl)
      refine lv_iload_n hx hb dX7_told_70 rfl (lv_at hl 1 rfl) ?_
      refine lv_bipush (v := 10) hx hb dX7_told_71 (by decide) ?_
      refine lv_irem hx hb dX7_told_73 (by decide) ?_
      refine gtop (y := nI (vζ % 10)) (pk_rem (a := vζ) (d := 10) (by omega) (by omega) (by omega)) ?_
      refine lv_iconst (v := 3) hx hb dX7_told_74 (by decide) ?_
      refine lv_icmp_ge (tgt := 96) hx hb dX7_told_75 (by decide) (fun c_10 => ?_) (fun c_10 => ?_)
      · have c_10 : 3 ≤ (vζ % 10) := (nI_leI (a := 3) (b := (vζ % 10)) (by omega) (by omega)).mp c_10
        refine lv_bipush (v := (-2)) hx hb dX7_told_96 (by decide) ?_
        exact r_iret hx hb hr hlk hS () (by rw [tdB evζ h1vζ hvζ]; unfold tdH; rw [if_neg (by omega)]) (hP.sub [] rfl) (hD.sub [] (by decide) rfl) dX7_told_98
      · have c_10 : ¬ 3 ≤ (vζ % 10) := fun z => c_10 ((nI_leI (a := 3) (b := (vζ % 10)) (by omega) (by omega)).mpr z)
        refine lv_aload_n hx hb dX7_told_78 rfl (lv_at hl 0 rfl) ?_
        refine lv_iload_n hx hb dX7_told_79 rfl (lv_at hl 1 rfl) ?_
        refine lv_bipush (v := 100) hx hb dX7_told_80 (by decide) ?_
        refine lv_isub hx hb dX7_told_82 ?_
        refine gtop (y := nI (vζ - 100)) (pk_sub (a := vζ) (b := 100) (by omega)) ?_
        refine lv_bipush (v := 10) hx hb dX7_told_83 (by decide) ?_
        refine lv_idiv hx hb dX7_told_85 (by decide) ?_
        refine gtop (y := nI ((vζ - 100) / 10)) (pk_div (a := vζ - 100) (d := 10) (by omega) (by omega) (by omega)) ?_
        refine lv_iload_n hx hb dX7_told_86 rfl (lv_at hl 1 rfl) ?_
        refine lv_bipush (v := 10) hx hb dX7_told_87 (by decide) ?_
        refine lv_irem hx hb dX7_told_89 (by decide) ?_
        refine gtop (y := nI (vζ % 10)) (pk_rem (a := vζ) (d := 10) (by omega) (by omega) (by omega)) ?_
        refine gcV_i (As := [.int (nI ((vζ - 100) / 10)), .int (nI (vζ % 10))]) (rest := []) (ci := 7) (q := (RX7, TX7, 34)) F hK hN hP hD hS hA (c_X7_ofHouse l g H.size hζ Aζ iM0 ((vζ - 100) / 10) (nI (vζ % 10)) (by omega)) gX7_told_X7_ofHouse kX7_ofHouse rfl rfl rfl rfl ⟨(Nat.le_of_ble_eq_true rfl), (Nat.le_of_ble_eq_true rfl)⟩ [0, 2, 3, 4] [1, 5] rfl rfl rfl (by decide) rfl rfl rfl rfl rfl hl.1 (Nat.le_of_ble_eq_true rfl) dX7_told_90 ⟨(Nat.le_of_ble_eq_true rfl), (Nat.le_of_ble_eq_true rfl)⟩ (fun r_w u_w H locs hw hP hD hS => ?_)
        have hP : va_P g.1 vwCl [aI g (Aζ 0) 121 (fun _ => 0), aI g (Aζ 4) 10 (fun jζ => nI jζ), (hζ, .inr (7, oM Aζ iM0)), aI g (Aζ 1) 10 (fun _ => 5), aI g (Aζ 2) 10 (fun _ => 0), aI g (Aζ 3) 10 (fun _ => (-6))] H := hP
        have hD : va_D Z [aI g (Aζ 0) 121 (fun _ => 0), aI g (Aζ 4) 10 (fun jζ => nI jζ), (hζ, .inr (7, oM Aζ iM0)), aI g (Aζ 1) 10 (fun _ => 5), aI g (Aζ 2) 10 (fun _ => 0), aI g (Aζ 3) 10 (fun _ => (-6))] := hD
        obtain rfl := hw
        refine lv_goto (tgt := 98) hx hb dX7_told_93 (by decide) ?_
        exact r_iret hx hb hr hlk hS () (by rw [tdB evζ h1vζ hvζ]; exact td_o (by omega)) (hP.sub [] rfl) (hD.sub [] (by decide) rfl) dX7_told_98
  · have c_1 : inB xζ 1000 1219 = true := bI_1 c_1
    obtain ⟨vζ, h1vζ, hvζ, evζ⟩ := inBk_nat (a := 1000) (N := 1220) (by decide) (by decide) c_1
    have hl : lv_has ls 4 [(0, .ref hζ), (1, .int (nI vζ))] := by first | exact hl | (rw [← (evζ : xζ = nI vζ)]; exact hl)
    refine lv_iload_n hx hb dX7_told_14 rfl (lv_at hl 1 rfl) ?_
    refine lv_sipush (v := 1000) hx hb dX7_told_15 (by decide) ?_
    refine lv_isub hx hb dX7_told_18 ?_
    refine gtop (y := nI (vζ - 1000)) (pk_sub (a := vζ) (b := 1000) (by omega)) ?_
    refine lv_bipush (v := 20) hx hb dX7_told_19 (by decide) ?_
    refine lv_idiv hx hb dX7_told_21 (by decide) ?_
    refine gtop (y := nI ((vζ - 1000) / 20)) (pk_div (a := vζ - 1000) (d := 20) (by omega) (by omega) (by omega)) ?_
    refine lv_istore_n (lv' := [(2, .int (nI ((vζ - 1000) / 20))), (0, .ref hζ), (1, .int (nI vζ))]) hx hb dX7_told_22 rfl hl (by decide) rfl (fun ls hl => ?_)
    refine lv_iload_n hx hb dX7_told_23 rfl (lv_at hl 2 rfl) ?_
    refine lv_sipush (v := 1000) hx hb dX7_told_24 (by decide) ?_
    refine lv_isub hx hb dX7_told_27 ?_
    refine gtop (y := nI (vζ - 1000)) (pk_sub (a := vζ) (b := 1000) (by omega)) ?_
    refine lv_bipush (v := 20) hx hb dX7_told_28 (by decide) ?_
    refine lv_irem hx hb dX7_told_30 (by decide) ?_
    refine gtop (y := nI ((vζ - 1000) % 20)) (pk_rem (a := vζ - 1000) (d := 20) (by omega) (by omega) (by omega)) ?_
    refine lv_istore_n (lv' := [(3, .int (nI ((vζ - 1000) % 20))), (2, .int (nI ((vζ - 1000) / 20))), (0, .ref hζ), (1, .int (nI vζ))]) hx hb dX7_told_31 rfl hl (by decide) rfl (fun ls hl => ?_)
    refine lv_iload_n hx hb dX7_told_32 rfl (lv_at hl 0 rfl) ?_
    refine gcP (As := [.int (nI ((vζ - 1000) % 20))]) (rest := []) F (c_X7_isPlace l (nI ((vζ - 1000) % 20))) gX7_told_X7_isPlace kX7_isPlace rfl rfl rfl ⟨(Nat.le_of_ble_eq_true rfl), (Nat.le_of_ble_eq_true rfl)⟩ rfl rfl hl.1 (Nat.le_of_ble_eq_true rfl) dX7_told_33 ⟨(Nat.le_of_ble_eq_true rfl), (Nat.le_of_ble_eq_true rfl)⟩ ?_
    refine lv_if_eq (tgt := 53) hx hb dX7_told_36 (by decide) (fun c_11 => ?_) (fun c_11 => ?_)
    · have c_11 : inB (nI ((vζ - 1000) % 20)) 0 10 = false := bI_0 c_11
      have hplζ : ¬ (vζ - 1000) % 20 < 11 := by have z := c_11; rw [inB_nI (N := 11) (by decide) (by omega)] at z; exact of_decide_eq_false z
      refine lv_bipush (v := (-2)) hx hb dX7_told_53 (by decide) ?_
      exact r_iret hx hb hr hlk hS () (by rw [tdA evζ h1vζ hvζ]; unfold tdR; rw [if_neg (by omega)]) (hP.sub [] rfl) (hD.sub [] (by decide) rfl) dX7_told_55
    · have c_11 : inB (nI ((vζ - 1000) % 20)) 0 10 = true := bI_1 c_11
      have hplζ : (vζ - 1000) % 20 < 11 := by have z := c_11; rw [inB_nI (N := 11) (by decide) (by omega)] at z; exact of_decide_eq_true z
      refine lv_aload_n hx hb dX7_told_39 rfl (lv_at hl 2 rfl) ?_
      refine va_get (D := g.1) (ci := 7) (v := .ref (Aζ 0)) (C := RX7) (T := TX7) (N := 34) hx hb hts hi7 hown hK hP 0 rfl rfl 0 (by decide) (hts (.fieldLink RX7 7 "PanTalesModel" "roads" "[I") (by decide +kernel)) (fun _ h9 => h9) rfl dX7_told_40 ?_
      refine lv_bipush (v := 11) hx hb dX7_told_43 (by decide) ?_
      refine lv_iload_n hx hb dX7_told_45 rfl (lv_at hl 1 rfl) ?_
      refine lv_imul hx hb dX7_told_46 ?_
      refine gtop (y := nI (11 * ((vζ - 1000) / 20))) (pk_mul 11 ((vζ - 1000) / 20)) ?_
      refine lv_iload_n hx hb dX7_told_47 rfl (lv_at hl 0 rfl) ?_
      refine lv_iadd hx hb dX7_told_48 ?_
      refine gtop (y := nI ((11 * ((vζ - 1000) / 20)) + ((vζ - 1000) % 20))) (nI_add (11 * ((vζ - 1000) / 20)) ((vζ - 1000) % 20)) ?_
      refine r_iald (v := 0) hx hb hK hP 1 rfl (vp_in_nI (n := (11 * ((vζ - 1000) / 20)) + ((vζ - 1000) % 20)) (by omega) (by omega)) (congrArg (fun _ => 0) (nI_clamp (n := (11 * ((vζ - 1000) / 20)) + ((vζ - 1000) % 20)) (by omega))) dX7_told_49 ?_
      refine lv_goto (tgt := 55) hx hb dX7_told_50 (by decide) ?_
      exact r_iret hx hb hr hlk hS () (by rw [tdA evζ h1vζ hvζ]; unfold tdR; rw [if_pos (by omega)]) (hP.sub [] rfl) (hD.sub [] (by decide) rfl) dX7_told_55

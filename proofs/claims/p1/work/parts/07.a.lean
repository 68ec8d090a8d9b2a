theorem kX3_init : YOk yX3_init 0 := by decide +kernel
theorem kX3_size : YOk yX3_size 0 := by decide +kernel
theorem kX3_add : YOk yX3_add 1 := by decide +kernel
theorem kX3_clear : YOk yX3_clear 0 := by decide +kernel
theorem kX3_faultPlace : YOk yX3_faultPlace 0 := by decide +kernel
theorem kX2_init : YOk yX2_init 0 := by decide +kernel
theorem kX2_pass : YOk yX2_pass 3 := by decide +kernel
set_option maxHeartbeats 4000000 in
set_option maxRecDepth 100000 in
theorem c_X3_init (l : Launch) (g : GT) (sz : Nat) (hζ : Nat) : Mv (S := Nat) l yX3_init wsX3_init { frames := 1, cells := 1, slots := 60, locals := 40 } g sz [.ref hζ] [(hζ, .inr (3, [.null, .int 0]))] 1 60 (fun _ => True) (fun aζ => [(hζ, .inr (3, [.ref aζ, .int 0])), aI g aζ 60 (fun _ => 0)]) := by
  refine gMet_v (cc := cX3_init) (maxL := 1) (ret := none) (by decide) rfl (Nat.le_of_ble_eq_true rfl) ?_
  intro p e s m args below meth c Z hx hb hr F hlk hnm hK hN hA H locs hP hD hS ls hl
  have hl : lv_has ls 1 [(0, .ref hζ)] := hl
  have F : CallFix p m c cX3_init 1 s args wsX3_init RX3 := F
  have hts := F.2.2.2.2
  have hown : s.vm.findClass RX3 = some m.cls := F.2.2.2.1
  have hi3 : ∀ w ∈ u_ws RX3 TX3 2, w ∈ wsX3_init := by decide +kernel
  refine lv_aload_n hx hb dX3_init_0 rfl (lv_at hl 0 rfl) ?_
  refine W.objInit hx hb hown (hts (.methodLink RX3 3 objectInit) (by decide +kernel)) (hts (.instanceMethod objectInit) (by decide +kernel)) (hts (.code objectInit ⟨#[0xb1]⟩ 1 none) (by decide +kernel)) rfl (by rw [F.2.2.1]; exact hl.1) rfl dX3_init_1 (Nat.le_of_ble_eq_true rfl) (Nat.le_of_ble_eq_true rfl) ?_
  refine W.eq (g2 := F0 m 4 ls []) rfl ?_
  refine lv_aload_n hx hb dX3_init_4 rfl (lv_at hl 0 rfl) ?_
  refine lv_bipush (v := 60) hx hb dX3_init_5 (by decide) ?_
  refine r_newI (N' := 60) hx hb (hts (.arrayClass .int) (by decide +kernel)) hK hP hD hS hA (by decide) (nI_clamp (n := 60) (by decide)) (Nat.le_of_ble_eq_true rfl) (Nat.le_of_ble_eq_true rfl) (Nat.le_of_ble_eq_true rfl) dX3_init_7 (fun q_1 H hP hD hS => ?_)
  have hP : va_P g.1 vwCl [(hζ, .inr (3, [.null, .int 0])), aI g q_1 60 (fun _ => 0)] H := hP
  have hD : va_D Z [(hζ, .inr (3, [.null, .int 0])), aI g q_1 60 (fun _ => 0)] := hD
  refine W.widen (k := 1) (n := 60) (by decide) (by decide) ?_
  refine va_putF (D := g.1) (ci := 3) (v := .ref q_1) (ty := (.array .int)) (C := RX3) (T := TX3) (N := 2) hx hb hts hi3 tyX3 tyX3_ok nmX3 hown hK hP hD hS 0 rfl rfl 0 (by decide) (hts (.fieldLink RX3 9 "PanTales$Pad" "signs" "[I") (by decide +kernel)) (fun _ h9 => h9) rfl hnm rfl (by decide +kernel) rfl rfl (Nat.le_of_ble_eq_true rfl) dX3_init_9 (fun H locs hP hD hS => ?_)
  have hP : va_P g.1 vwCl [(hζ, .inr (3, [.ref q_1, .int 0])), aI g q_1 60 (fun _ => 0)] H := hP
  have hD : va_D Z [(hζ, .inr (3, [.ref q_1, .int 0])), aI g q_1 60 (fun _ => 0)] := hD
  exact r_vret hx hb hr hlk hS q_1 trivial (hP.sub [0, 1] rfl) (hD.sub [0, 1] (by decide) rfl) dX3_init_12
set_option maxHeartbeats 4000000 in
set_option maxRecDepth 100000 in
theorem c_X3_size (l : Launch) (g : GT) (sz : Nat) (hζ aζ : Nat) (nζ : Int32) : Ci l yX3_size wsX3_size { frames := 0, cells := 0, slots := 0, locals := 0 } g sz [.ref hζ] [(hζ, .inr (3, [.ref aζ, .int nζ]))] nζ [(hζ, .inr (3, [.ref aζ, .int nζ]))] := by
  refine gMet_i (cc := cX3_size) (maxL := 1) (ret := (some .int)) (by decide) rfl (Nat.le_of_ble_eq_true rfl) ?_
  intro p e s m args below meth c Z hx hb hr F hlk hnm hK hN hA H locs hP hD hS ls hl
  have hl : lv_has ls 1 [(0, .ref hζ)] := hl
  have F : CallFix p m c cX3_size 1 s args wsX3_size RX3 := F
  have hts := F.2.2.2.2
  have hown : s.vm.findClass RX3 = some m.cls := F.2.2.2.1
  have hi3 : ∀ w ∈ u_ws RX3 TX3 2, w ∈ wsX3_size := by decide +kernel
  refine lv_aload_n hx hb dX3_size_0 rfl (lv_at hl 0 rfl) ?_
  refine va_get (D := g.1) (ci := 3) (v := .int nζ) (C := RX3) (T := TX3) (N := 2) hx hb hts hi3 hown hK hP 0 rfl rfl 1 (by decide) (hts (.fieldLink RX3 15 "PanTales$Pad" "count" "I") (by decide +kernel)) (fun _ h9 => h9) rfl dX3_size_1 ?_
  exact r_iret hx hb hr hlk hS () rfl (hP.sub [0] rfl) (hD.sub [0] (by decide) rfl) dX3_size_4
set_option maxHeartbeats 4000000 in
set_option maxRecDepth 100000 in
theorem c_X3_add (l : Launch) (g : GT) (sz : Nat) (hζ aζ : Nat) (xζ : Int32) (fζ : Nat → Int32) : Ci l yX3_add wsX3_add { frames := 1, cells := 0, slots := 0, locals := 22 } g sz [.ref hζ, .int xζ] [(hζ, .inr (3, [.ref aζ, .int 0])), aI g aζ 60 fζ] (bI true) [(hζ, .inr (3, [.ref aζ, .int 1]))] := by
  refine gMet_i (cc := cX3_add) (maxL := 2) (ret := (some .boolean)) (by decide) rfl (Nat.le_of_ble_eq_true rfl) ?_
  intro p e s m args below meth c Z hx hb hr F hlk hnm hK hN hA H locs hP hD hS ls hl
  have hl : lv_has ls 2 [(0, .ref hζ), (1, .int xζ)] := hl
  have F : CallFix p m c cX3_add 2 s args wsX3_add RX3 := F
  have hts := F.2.2.2.2
  have hown : s.vm.findClass RX3 = some m.cls := F.2.2.2.1
  have hi3 : ∀ w ∈ u_ws RX3 TX3 2, w ∈ wsX3_add := by decide +kernel
  refine lv_aload_n hx hb dX3_add_0 rfl (lv_at hl 0 rfl) ?_
  refine va_get (D := g.1) (ci := 3) (v := .int 0) (C := RX3) (T := TX3) (N := 2) hx hb hts hi3 hown hK hP 0 rfl rfl 1 (by decide) (hts (.fieldLink RX3 15 "PanTales$Pad" "count" "I") (by decide +kernel)) (fun _ h9 => h9) rfl dX3_add_1 ?_
  refine lv_iconst (v := 0) hx hb dX3_add_4 (by decide) ?_
  refine lv_bipush (v := 59) hx hb dX3_add_5 (by decide) ?_
  refine gcPN (As := [.int 0, .int 0, .int 59]) (rest := []) F (c_X6_within l 0 0 59) gX3_add_X6_within_n19 kX6_within (hts (.initialized RX6) (by decide +kernel)) (hN.get 8 rfl) (hts (.static yX6_within) (by decide +kernel)) rfl rfl rfl ⟨(Nat.le_of_ble_eq_true rfl), (Nat.le_of_ble_eq_true rfl)⟩ rfl rfl hl.1 (Nat.le_of_ble_eq_true rfl) dX3_add_7 ⟨(Nat.le_of_ble_eq_true rfl), (Nat.le_of_ble_eq_true rfl)⟩ ?_
  refine lv_if_ne (tgt := 15) hx hb dX3_add_10 (by decide) (fun c_1 => ?_) (fun c_1 => ?_)
  · have c_1 : inB 0 0 59 = true := bI_1 c_1
    refine lv_aload_n hx hb dX3_add_15 rfl (lv_at hl 0 rfl) ?_
    refine va_get (D := g.1) (ci := 3) (v := .ref aζ) (C := RX3) (T := TX3) (N := 2) hx hb hts hi3 hown hK hP 0 rfl rfl 0 (by decide) (hts (.fieldLink RX3 9 "PanTales$Pad" "signs" "[I") (by decide +kernel)) (fun _ h9 => h9) rfl dX3_add_16 ?_
    refine lv_aload_n hx hb dX3_add_19 rfl (lv_at hl 0 rfl) ?_
    refine va_get (D := g.1) (ci := 3) (v := .int 0) (C := RX3) (T := TX3) (N := 2) hx hb hts hi3 hown hK hP 0 rfl rfl 1 (by decide) (hts (.fieldLink RX3 15 "PanTales$Pad" "count" "I") (by decide +kernel)) (fun _ h9 => h9) rfl dX3_add_20 ?_
    refine lv_iload_n hx hb dX3_add_23 rfl (lv_at hl 1 rfl) ?_
    refine r_iast (f' := upd fζ 0 xζ) hx hb hK hP hD hS 1 rfl (vp_in_nI (n := 0) (by decide) (by decide)) (fun k_u _ => congrArg (fun z_u => upd fζ z_u xζ k_u) (nI_clamp (n := 0) (by decide))) dX3_add_24 (fun H locs hP hD hS => ?_)
    have hP : va_P g.1 vwCl [(hζ, .inr (3, [.ref aζ, .int 0])), aI g aζ 60 (upd fζ 0 xζ)] H := hP
    have hD : va_D Z [(hζ, .inr (3, [.ref aζ, .int 0])), aI g aζ 60 (upd fζ 0 xζ)] := hD
    refine lv_aload_n hx hb dX3_add_25 rfl (lv_at hl 0 rfl) ?_
    refine lv_dup hx hb dX3_add_26 rfl ?_
    refine va_get (D := g.1) (ci := 3) (v := .int 0) (C := RX3) (T := TX3) (N := 2) hx hb hts hi3 hown hK hP 0 rfl rfl 1 (by decide) (hts (.fieldLink RX3 15 "PanTales$Pad" "count" "I") (by decide +kernel)) (fun _ h9 => h9) rfl dX3_add_27 ?_
    refine lv_iconst (v := 1) hx hb dX3_add_30 (by decide) ?_
    refine lv_iadd hx hb dX3_add_31 ?_
    refine gtop (y := 1) (by decide) ?_
    refine va_put (D := g.1) (ci := 3) (v := .int 1) (ty := .int) (C := RX3) (T := TX3) (N := 2) hx hb hts hi3 tyX3 tyX3_ok nmX3 hown hK hP hD hS 0 rfl rfl 1 (by decide) (hts (.fieldLink RX3 15 "PanTales$Pad" "count" "I") (by decide +kernel)) (fun _ h9 => h9) rfl (by decide +kernel) rfl rfl (Nat.le_of_ble_eq_true rfl) dX3_add_32 (fun H locs hP hD hS => ?_)
    have hP : va_P g.1 vwCl [(hζ, .inr (3, [.ref aζ, .int 1])), aI g aζ 60 (upd fζ 0 xζ)] H := hP
    have hD : va_D Z [(hζ, .inr (3, [.ref aζ, .int 1])), aI g aζ 60 (upd fζ 0 xζ)] := hD
    refine lv_iconst (v := 1) hx hb dX3_add_35 (by decide) ?_
    exact r_zret hx hb hr hlk hS () (by decide) rfl (hP.sub [0] rfl) (hD.sub [0] (by decide) rfl) dX3_add_36
  · exact absurd c_1 (by decide)
set_option maxHeartbeats 4000000 in
set_option maxRecDepth 100000 in
theorem c_X3_clear (l : Launch) (g : GT) (sz : Nat) (hζ aζ : Nat) (nζ : Int32) : Cv l yX3_clear wsX3_clear { frames := 0, cells := 0, slots := 0, locals := 0 } g sz [.ref hζ] [(hζ, .inr (3, [.ref aζ, .int nζ]))] [(hζ, .inr (3, [.ref aζ, .int 0]))] := by
  refine gMet_v (cc := cX3_clear) (maxL := 1) (ret := none) (by decide) rfl (Nat.le_of_ble_eq_true rfl) ?_
  intro p e s m args below meth c Z hx hb hr F hlk hnm hK hN hA H locs hP hD hS ls hl
  have hl : lv_has ls 1 [(0, .ref hζ)] := hl
  have F : CallFix p m c cX3_clear 1 s args wsX3_clear RX3 := F
  have hts := F.2.2.2.2
  have hown : s.vm.findClass RX3 = some m.cls := F.2.2.2.1
  have hi3 : ∀ w ∈ u_ws RX3 TX3 2, w ∈ wsX3_clear := by decide +kernel
  refine lv_aload_n hx hb dX3_clear_0 rfl (lv_at hl 0 rfl) ?_
  refine lv_iconst (v := 0) hx hb dX3_clear_1 (by decide) ?_
  refine va_put (D := g.1) (ci := 3) (v := .int 0) (ty := .int) (C := RX3) (T := TX3) (N := 2) hx hb hts hi3 tyX3 tyX3_ok nmX3 hown hK hP hD hS 0 rfl rfl 1 (by decide) (hts (.fieldLink RX3 15 "PanTales$Pad" "count" "I") (by decide +kernel)) (fun _ h9 => h9) rfl (by decide +kernel) rfl rfl (Nat.le_of_ble_eq_true rfl) dX3_clear_2 (fun H locs hP hD hS => ?_)
  have hP : va_P g.1 vwCl [(hζ, .inr (3, [.ref aζ, .int 0]))] H := hP
  have hD : va_D Z [(hζ, .inr (3, [.ref aζ, .int 0]))] := hD
  exact r_vret hx hb hr hlk hS () trivial (hP.sub [0] rfl) (hD.sub [0] (by decide) rfl) dX3_clear_5
set_option maxHeartbeats 4000000 in
set_option maxRecDepth 100000 in
theorem c_X3_faultPlace (l : Launch) (g : GT) (sz : Nat) (hζ aζ : Nat) : Ci l yX3_faultPlace wsX3_faultPlace { frames := 0, cells := 0, slots := 0, locals := 0 } g sz [.ref hζ] [(hζ, .inr (3, [.ref aζ, .int 0]))] (-6) [(hζ, .inr (3, [.ref aζ, .int 0]))] := by
  refine gMet_i (cc := cX3_faultPlace) (maxL := 3) (ret := (some .int)) (by decide) rfl (Nat.le_of_ble_eq_true rfl) ?_
  intro p e s m args below meth c Z hx hb hr F hlk hnm hK hN hA H locs hP hD hS ls hl
  have hl : lv_has ls 3 [(0, .ref hζ)] := hl
  have F : CallFix p m c cX3_faultPlace 3 s args wsX3_faultPlace RX3 := F
  have hts := F.2.2.2.2
  have hown : s.vm.findClass RX3 = some m.cls := F.2.2.2.1
  have hi3 : ∀ w ∈ u_ws RX3 TX3 2, w ∈ wsX3_faultPlace := by decide +kernel
  refine lv_iconst (v := 0) hx hb dX3_faultPlace_0 (by decide) ?_
  refine lv_istore_n (lv' := [(1, .int 0), (0, .ref hζ)]) hx hb dX3_faultPlace_1 rfl hl (by decide) rfl (fun ls hl => ?_)
  refine lv_iload_n hx hb dX3_faultPlace_2 rfl (lv_at hl 0 rfl) ?_
  refine lv_aload_n hx hb dX3_faultPlace_3 rfl (lv_at hl 1 rfl) ?_
  refine va_get (D := g.1) (ci := 3) (v := .int 0) (C := RX3) (T := TX3) (N := 2) hx hb hts hi3 hown hK hP 0 rfl rfl 1 (by decide) (hts (.fieldLink RX3 15 "PanTales$Pad" "count" "I") (by decide +kernel)) (fun _ h9 => h9) rfl dX3_faultPlace_4 ?_
  refine lv_icmp_ge (tgt := 87) hx hb dX3_faultPlace_7 (by decide) (fun c_1 => ?_) (fun c_1 => ?_)
  · refine lv_bipush (v := (-6)) hx hb dX3_faultPlace_87 (by decide) ?_
    exact r_iret hx hb hr hlk hS () rfl (hP.sub [0] rfl) (hD.sub [0] (by decide) rfl) dX3_faultPlace_89
  · exact absurd (by decide) c_1
set_option maxHeartbeats 4000000 in
set_option maxRecDepth 100000 in
theorem c_X2_init (l : Launch) (g : GT) (sz : Nat) (hζ : Nat) : Cv l yX2_init wsX2_init { frames := 1, cells := 0, slots := 0, locals := 40 } g sz [.ref hζ] [(hζ, .inr (2, [.int 0, .int 0, .int 0, .int 0, .int 0, .int 0]))] [(hζ, .inr (2, [.int 0, .int 0, .int 0, .int 0, .int 0, .int 0]))] := by
  refine gMet_v (cc := cX2_init) (maxL := 1) (ret := none) (by decide) rfl (Nat.le_of_ble_eq_true rfl) ?_
  intro p e s m args below meth c Z hx hb hr F hlk hnm hK hN hA H locs hP hD hS ls hl
  have hl : lv_has ls 1 [(0, .ref hζ)] := hl
  have F : CallFix p m c cX2_init 1 s args wsX2_init RX2 := F
  have hts := F.2.2.2.2
  have hown : s.vm.findClass RX2 = some m.cls := F.2.2.2.1
  refine lv_aload_n hx hb dX2_init_0 rfl (lv_at hl 0 rfl) ?_
  refine W.objInit hx hb hown (hts (.methodLink RX2 3 objectInit) (by decide +kernel)) (hts (.instanceMethod objectInit) (by decide +kernel)) (hts (.code objectInit ⟨#[0xb1]⟩ 1 none) (by decide +kernel)) rfl (by rw [F.2.2.1]; exact hl.1) rfl dX2_init_1 (Nat.le_of_ble_eq_true rfl) (Nat.le_of_ble_eq_true rfl) ?_
  refine W.eq (g2 := F0 m 4 ls []) rfl ?_
  exact r_vret hx hb hr hlk hS () trivial (hP.sub [0] rfl) (hD.sub [0] (by decide) rfl) dX2_init_4
set_option maxHeartbeats 4000000 in
set_option maxRecDepth 100000 in
theorem c_X2_pass (l : Launch) (g : GT) (sz : Nat) (hζ kζ dζ wζ aζ : Nat) (n0ζ n1ζ n2ζ n3ζ n4ζ n5ζ : Int32) (Aζ : Nat → Nat) (Iζ : Nat → Int32) (Bζ : Nat → Nat) (Jζ : Nat → Int32) (g0ζ g1ζ g2ζ g3ζ g4ζ g5ζ g6ζ f0ζ f1ζ f2ζ f3ζ f4ζ f5ζ f6ζ : Nat → Int32) : Ci l yX2_pass wsX2_pass { frames := 2, cells := 0, slots := 0, locals := 101 } g sz [.ref hζ, .ref kζ, .ref dζ, .ref wζ] [(hζ, .inr (2, [.int n0ζ, .int n1ζ, .int n2ζ, .int n3ζ, .int n4ζ, .int n5ζ])), (kζ, .inr (3, [.ref aζ, .int 0])), (dζ, .inr (1, oC Aζ Iζ)), aI g (Aζ 0) 121 g0ζ, aI g (Aζ 1) 10 g1ζ, aI g (Aζ 2) 10 g2ζ, aI g (Aζ 3) 10 g3ζ, aI g (Aζ 4) 10 g4ζ, aI g (Aζ 5) 8 g5ζ, aI g (Aζ 6) 8 g6ζ, (wζ, .inr (1, oC Bζ Jζ)), aI g (Bζ 0) 121 f0ζ, aI g (Bζ 1) 10 f1ζ, aI g (Bζ 2) 10 f2ζ, aI g (Bζ 3) 10 f3ζ, aI g (Bζ 4) 10 f4ζ, aI g (Bζ 5) 8 f5ζ, aI g (Bζ 6) 8 f6ζ] 0 [(hζ, .inr (2, [.int 0, .int 0, .int (-6), .int (-6), .int (-6), .int (-6)])), (kζ, .inr (3, [.ref aζ, .int 0])), (dζ, .inr (1, oC Aζ Jζ)), aI g (Aζ 0) 121 f0ζ, aI g (Aζ 1) 10 f1ζ, aI g (Aζ 2) 10 f2ζ, aI g (Aζ 3) 10 f3ζ, aI g (Aζ 4) 10 f4ζ, aI g (Aζ 5) 8 f5ζ, aI g (Aζ 6) 8 f6ζ, (wζ, .inr (1, oC Bζ Jζ)), aI g (Bζ 0) 121 f0ζ, aI g (Bζ 1) 10 f1ζ, aI g (Bζ 2) 10 f2ζ, aI g (Bζ 3) 10 f3ζ, aI g (Bζ 4) 10 f4ζ, aI g (Bζ 5) 8 f5ζ, aI g (Bζ 6) 8 f6ζ] := by
  refine gMet_i (cc := cX2_pass) (maxL := 7) (ret := (some .int)) (by decide) rfl (Nat.le_of_ble_eq_true rfl) ?_
  intro p e s m args below meth c Z hx hb hr F hlk hnm hK hN hA H locs hP hD hS ls hl
  have hl : lv_has ls 7 [(0, .ref hζ), (1, .ref kζ), (2, .ref dζ), (3, .ref wζ)] := hl
  have F : CallFix p m c cX2_pass 7 s args wsX2_pass RX2 := F
  have hts := F.2.2.2.2
  have hown : s.vm.findClass RX2 = some m.cls := F.2.2.2.1
  have hi2 : ∀ wζ ∈ u_ws RX2 TX2 6, wζ ∈ wsX2_pass := by decide +kernel
  refine lv_aload_n hx hb dX2_pass_0 rfl (lv_at hl 0 rfl) ?_
  refine lv_iconst (v := 0) hx hb dX2_pass_1 (by decide) ?_
  refine va_put (D := g.1) (ci := 2) (v := .int 0) (ty := .int) (C := RX2) (T := TX2) (N := 6) hx hb hts hi2 tyX2 tyX2_ok nmX2 hown hK hP hD hS 0 rfl rfl 0 (by decide) (hts (.fieldLink RX2 9 "PanTales$Night" "acts" "I") (by decide +kernel)) (fun _ h9 => h9) rfl (by decide +kernel) rfl rfl (Nat.le_of_ble_eq_true rfl) dX2_pass_2 (fun H locs hP hD hS => ?_)
  have hP : va_P g.1 vwCl [(hζ, .inr (2, [.int 0, .int n1ζ, .int n2ζ, .int n3ζ, .int n4ζ, .int n5ζ])), (kζ, .inr (3, [.ref aζ, .int 0])), (dζ, .inr (1, oC Aζ Iζ)), aI g (Aζ 0) 121 g0ζ, aI g (Aζ 1) 10 g1ζ, aI g (Aζ 2) 10 g2ζ, aI g (Aζ 3) 10 g3ζ, aI g (Aζ 4) 10 g4ζ, aI g (Aζ 5) 8 g5ζ, aI g (Aζ 6) 8 g6ζ, (wζ, .inr (1, oC Bζ Jζ)), aI g (Bζ 0) 121 f0ζ, aI g (Bζ 1) 10 f1ζ, aI g (Bζ 2) 10 f2ζ, aI g (Bζ 3) 10 f3ζ, aI g (Bζ 4) 10 f4ζ, aI g (Bζ 5) 8 f5ζ, aI g (Bζ 6) 8 f6ζ] H := hP
  have hD : va_D Z [(hζ, .inr (2, [.int 0, .int n1ζ, .int n2ζ, .int n3ζ, .int n4ζ, .int n5ζ])), (kζ, .inr (3, [.ref aζ, .int 0])), (dζ, .inr (1, oC Aζ Iζ)), aI g (Aζ 0) 121 g0ζ, aI g (Aζ 1) 10 g1ζ, aI g (Aζ 2) 10 g2ζ, aI g (Aζ 3) 10 g3ζ, aI g (Aζ 4) 10 g4ζ, aI g (Aζ 5) 8 g5ζ, aI g (Aζ 6) 8 g6ζ, (wζ, .inr (1, oC Bζ Jζ)), aI g (Bζ 0) 121 f0ζ, aI g (Bζ 1) 10 f1ζ, aI g (Bζ 2) 10 f2ζ, aI g (Bζ 3) 10 f3ζ, aI g (Bζ 4) 10 f4ζ, aI g (Bζ 5) 8 f5ζ, aI g (Bζ 6) 8 f6ζ] := hD
  refine lv_aload_n hx hb dX2_pass_5 rfl (lv_at hl 0 rfl) ?_
  refine lv_iconst (v := 0) hx hb dX2_pass_6 (by decide) ?_
  refine va_put (D := g.1) (ci := 2) (v := .int 0) (ty := .int) (C := RX2) (T := TX2) (N := 6) hx hb hts hi2 tyX2 tyX2_ok nmX2 hown hK hP hD hS 0 rfl rfl 1 (by decide) (hts (.fieldLink RX2 15 "PanTales$Night" "beds" "I") (by decide +kernel)) (fun _ h9 => h9) rfl (by decide +kernel) rfl rfl (Nat.le_of_ble_eq_true rfl) dX2_pass_7 (fun H locs hP hD hS => ?_)
  have hP : va_P g.1 vwCl [(hζ, .inr (2, [.int 0, .int 0, .int n2ζ, .int n3ζ, .int n4ζ, .int n5ζ])), (kζ, .inr (3, [.ref aζ, .int 0])), (dζ, .inr (1, oC Aζ Iζ)), aI g (Aζ 0) 121 g0ζ, aI g (Aζ 1) 10 g1ζ, aI g (Aζ 2) 10 g2ζ, aI g (Aζ 3) 10 g3ζ, aI g (Aζ 4) 10 g4ζ, aI g (Aζ 5) 8 g5ζ, aI g (Aζ 6) 8 g6ζ, (wζ, .inr (1, oC Bζ Jζ)), aI g (Bζ 0) 121 f0ζ, aI g (Bζ 1) 10 f1ζ, aI g (Bζ 2) 10 f2ζ, aI g (Bζ 3) 10 f3ζ, aI g (Bζ 4) 10 f4ζ, aI g (Bζ 5) 8 f5ζ, aI g (Bζ 6) 8 f6ζ] H := hP
  have hD : va_D Z [(hζ, .inr (2, [.int 0, .int 0, .int n2ζ, .int n3ζ, .int n4ζ, .int n5ζ])), (kζ, .inr (3, [.ref aζ, .int 0])), (dζ, .inr (1, oC Aζ Iζ)), aI g (Aζ 0) 121 g0ζ, aI g (Aζ 1) 10 g1ζ, aI g (Aζ 2) 10 g2ζ, aI g (Aζ 3) 10 g3ζ, aI g (Aζ 4) 10 g4ζ, aI g (Aζ 5) 8 g5ζ, aI g (Aζ 6) 8 g6ζ, (wζ, .inr (1, oC Bζ Jζ)), aI g (Bζ 0) 121 f0ζ, aI g (Bζ 1) 10 f1ζ, aI g (Bζ 2) 10 f2ζ, aI g (Bζ 3) 10 f3ζ, aI g (Bζ 4) 10 f4ζ, aI g (Bζ 5) 8 f5ζ, aI g (Bζ 6) 8 f6ζ] := hD
  refine lv_aload_n hx hb dX2_pass_10 rfl (lv_at hl 0 rfl) ?_
  refine lv_bipush (v := (-6)) hx hb dX2_pass_11 (by decide) ?_
  refine va_put (D := g.1) (ci := 2) (v := .int (-6)) (ty := .int) (C := RX2) (T := TX2) (N := 6) hx hb hts hi2 tyX2 tyX2_ok nmX2 hown hK hP hD hS 0 rfl rfl 2 (by decide) (hts (.fieldLink RX2 18 "PanTales$Night" "hinderedAct" "I") (by decide +kernel)) (fun _ h9 => h9) rfl (by decide +kernel) rfl rfl (Nat.le_of_ble_eq_true rfl) dX2_pass_13 (fun H locs hP hD hS => ?_)
  have hP : va_P g.1 vwCl [(hζ, .inr (2, [.int 0, .int 0, .int (-6), .int n3ζ, .int n4ζ, .int n5ζ])), (kζ, .inr (3, [.ref aζ, .int 0])), (dζ, .inr (1, oC Aζ Iζ)), aI g (Aζ 0) 121 g0ζ, aI g (Aζ 1) 10 g1ζ, aI g (Aζ 2) 10 g2ζ, aI g (Aζ 3) 10 g3ζ, aI g (Aζ 4) 10 g4ζ, aI g (Aζ 5) 8 g5ζ, aI g (Aζ 6) 8 g6ζ, (wζ, .inr (1, oC Bζ Jζ)), aI g (Bζ 0) 121 f0ζ, aI g (Bζ 1) 10 f1ζ, aI g (Bζ 2) 10 f2ζ, aI g (Bζ 3) 10 f3ζ, aI g (Bζ 4) 10 f4ζ, aI g (Bζ 5) 8 f5ζ, aI g (Bζ 6) 8 f6ζ] H := hP
  have hD : va_D Z [(hζ, .inr (2, [.int 0, .int 0, .int (-6), .int n3ζ, .int n4ζ, .int n5ζ])), (kζ, .inr (3, [.ref aζ, .int 0])), (dζ, .inr (1, oC Aζ Iζ)), aI g (Aζ 0) 121 g0ζ, aI g (Aζ 1) 10 g1ζ, aI g (Aζ 2) 10 g2ζ, aI g (Aζ 3) 10 g3ζ, aI g (Aζ 4) 10 g4ζ, aI g (Aζ 5) 8 g5ζ, aI g (Aζ 6) 8 g6ζ, (wζ, .inr (1, oC Bζ Jζ)), aI g (Bζ 0) 121 f0ζ, aI g (Bζ 1) 10 f1ζ, aI g (Bζ 2) 10 f2ζ, aI g (Bζ 3) 10 f3ζ, aI g (Bζ 4) 10 f4ζ, aI g (Bζ 5) 8 f5ζ, aI g (Bζ 6) 8 f6ζ] := hD
  refine lv_aload_n hx hb dX2_pass_16 rfl (lv_at hl 0 rfl) ?_
  refine lv_bipush (v := (-6)) hx hb dX2_pass_17 (by decide) ?_
  refine va_put (D := g.1) (ci := 2) (v := .int (-6)) (ty := .int) (C := RX2) (T := TX2) (N := 6) hx hb hts hi2 tyX2 tyX2_ok nmX2 hown hK hP hD hS 0 rfl rfl 3 (by decide) (hts (.fieldLink RX2 21 "PanTales$Night" "reason" "I") (by decide +kernel)) (fun _ h9 => h9) rfl (by decide +kernel) rfl rfl (Nat.le_of_ble_eq_true rfl) dX2_pass_19 (fun H locs hP hD hS => ?_)
  have hP : va_P g.1 vwCl [(hζ, .inr (2, [.int 0, .int 0, .int (-6), .int (-6), .int n4ζ, .int n5ζ])), (kζ, .inr (3, [.ref aζ, .int 0])), (dζ, .inr (1, oC Aζ Iζ)), aI g (Aζ 0) 121 g0ζ, aI g (Aζ 1) 10 g1ζ, aI g (Aζ 2) 10 g2ζ, aI g (Aζ 3) 10 g3ζ, aI g (Aζ 4) 10 g4ζ, aI g (Aζ 5) 8 g5ζ, aI g (Aζ 6) 8 g6ζ, (wζ, .inr (1, oC Bζ Jζ)), aI g (Bζ 0) 121 f0ζ, aI g (Bζ 1) 10 f1ζ, aI g (Bζ 2) 10 f2ζ, aI g (Bζ 3) 10 f3ζ, aI g (Bζ 4) 10 f4ζ, aI g (Bζ 5) 8 f5ζ, aI g (Bζ 6) 8 f6ζ] H := hP
  have hD : va_D Z [(hζ, .inr (2, [.int 0, .int 0, .int (-6), .int (-6), .int n4ζ, .int n5ζ])), (kζ, .inr (3, [.ref aζ, .int 0])), (dζ, .inr (1, oC Aζ Iζ)), aI g (Aζ 0) 121 g0ζ, aI g (Aζ 1) 10 g1ζ, aI g (Aζ 2) 10 g2ζ, aI g (Aζ 3) 10 g3ζ, aI g (Aζ 4) 10 g4ζ, aI g (Aζ 5) 8 g5ζ, aI g (Aζ 6) 8 g6ζ, (wζ, .inr (1, oC Bζ Jζ)), aI g (Bζ 0) 121 f0ζ, aI g (Bζ 1) 10 f1ζ, aI g (Bζ 2) 10 f2ζ, aI g (Bζ 3) 10 f3ζ, aI g (Bζ 4) 10 f4ζ, aI g (Bζ 5) 8 f5ζ, aI g (Bζ 6) 8 f6ζ] := hD
  refine lv_aload_n hx hb dX2_pass_22 rfl (lv_at hl 0 rfl) ?_
  refine lv_bipush (v := (-6)) hx hb dX2_pass_23 (by decide) ?_
  refine va_put (D := g.1) (ci := 2) (v := .int (-6)) (ty := .int) (C := RX2) (T := TX2) (N := 6) hx hb hts hi2 tyX2 tyX2_ok nmX2 hown hK hP hD hS 0 rfl rfl 4 (by decide) (hts (.fieldLink RX2 24 "PanTales$Night" "otherAct" "I") (by decide +kernel)) (fun _ h9 => h9) rfl (by decide +kernel) rfl rfl (Nat.le_of_ble_eq_true rfl) dX2_pass_25 (fun H locs hP hD hS => ?_)
  have hP : va_P g.1 vwCl [(hζ, .inr (2, [.int 0, .int 0, .int (-6), .int (-6), .int (-6), .int n5ζ])), (kζ, .inr (3, [.ref aζ, .int 0])), (dζ, .inr (1, oC Aζ Iζ)), aI g (Aζ 0) 121 g0ζ, aI g (Aζ 1) 10 g1ζ, aI g (Aζ 2) 10 g2ζ, aI g (Aζ 3) 10 g3ζ, aI g (Aζ 4) 10 g4ζ, aI g (Aζ 5) 8 g5ζ, aI g (Aζ 6) 8 g6ζ, (wζ, .inr (1, oC Bζ Jζ)), aI g (Bζ 0) 121 f0ζ, aI g (Bζ 1) 10 f1ζ, aI g (Bζ 2) 10 f2ζ, aI g (Bζ 3) 10 f3ζ, aI g (Bζ 4) 10 f4ζ, aI g (Bζ 5) 8 f5ζ, aI g (Bζ 6) 8 f6ζ] H := hP
  have hD : va_D Z [(hζ, .inr (2, [.int 0, .int 0, .int (-6), .int (-6), .int (-6), .int n5ζ])), (kζ, .inr (3, [.ref aζ, .int 0])), (dζ, .inr (1, oC Aζ Iζ)), aI g (Aζ 0) 121 g0ζ, aI g (Aζ 1) 10 g1ζ, aI g (Aζ 2) 10 g2ζ, aI g (Aζ 3) 10 g3ζ, aI g (Aζ 4) 10 g4ζ, aI g (Aζ 5) 8 g5ζ, aI g (Aζ 6) 8 g6ζ, (wζ, .inr (1, oC Bζ Jζ)), aI g (Bζ 0) 121 f0ζ, aI g (Bζ 1) 10 f1ζ, aI g (Bζ 2) 10 f2ζ, aI g (Bζ 3) 10 f3ζ, aI g (Bζ 4) 10 f4ζ, aI g (Bζ 5) 8 f5ζ, aI g (Bζ 6) 8 f6ζ] := hD
  refine lv_aload_n hx hb dX2_pass_28 rfl (lv_at hl 0 rfl) ?_
  refine lv_bipush (v := (-6)) hx hb dX2_pass_29 (by decide) ?_
  refine va_put (D := g.1) (ci := 2) (v := .int (-6)) (ty := .int) (C := RX2) (T := TX2) (N := 6) hx hb hts hi2 tyX2 tyX2_ok nmX2 hown hK hP hD hS 0 rfl rfl 5 (by decide) (hts (.fieldLink RX2 27 "PanTales$Night" "otherHouse" "I") (by decide +kernel)) (fun _ h9 => h9) rfl (by decide +kernel) rfl rfl (Nat.le_of_ble_eq_true rfl) dX2_pass_31 (fun H locs hP hD hS => ?_)
  have hP : va_P g.1 vwCl [(hζ, .inr (2, [.int 0, .int 0, .int (-6), .int (-6), .int (-6), .int (-6)])), (kζ, .inr (3, [.ref aζ, .int 0])), (dζ, .inr (1, oC Aζ Iζ)), aI g (Aζ 0) 121 g0ζ, aI g (Aζ 1) 10 g1ζ, aI g (Aζ 2) 10 g2ζ, aI g (Aζ 3) 10 g3ζ, aI g (Aζ 4) 10 g4ζ, aI g (Aζ 5) 8 g5ζ, aI g (Aζ 6) 8 g6ζ, (wζ, .inr (1, oC Bζ Jζ)), aI g (Bζ 0) 121 f0ζ, aI g (Bζ 1) 10 f1ζ, aI g (Bζ 2) 10 f2ζ, aI g (Bζ 3) 10 f3ζ, aI g (Bζ 4) 10 f4ζ, aI g (Bζ 5) 8 f5ζ, aI g (Bζ 6) 8 f6ζ] H := hP
  have hD : va_D Z [(hζ, .inr (2, [.int 0, .int 0, .int (-6), .int (-6), .int (-6), .int (-6)])), (kζ, .inr (3, [.ref aζ, .int 0])), (dζ, .inr (1, oC Aζ Iζ)), aI g (Aζ 0) 121 g0ζ, aI g (Aζ 1) 10 g1ζ, aI g (Aζ 2) 10 g2ζ, aI g (Aζ 3) 10 g3ζ, aI g (Aζ 4) 10 g4ζ, aI g (Aζ 5) 8 g5ζ, aI g (Aζ 6) 8 g6ζ, (wζ, .inr (1, oC Bζ Jζ)), aI g (Bζ 0) 121 f0ζ, aI g (Bζ 1) 10 f1ζ, aI g (Bζ 2) 10 f2ζ, aI g (Bζ 3) 10 f3ζ, aI g (Bζ 4) 10 f4ζ, aI g (Bζ 5) 8 f5ζ, aI g (Bζ 6) 8 f6ζ] := hD
  refine lv_aload_n hx hb dX2_pass_34 rfl (lv_at hl 1 rfl) ?_
  refine gcV_i (As := []) (rest := []) (ci := 3) (q := (RX3, TX3, 2)) F hK hN hP hD hS hA (c_X3_faultPlace l g H.size kζ aζ) gX2_pass_X3_faultPlace kX3_faultPlace rfl rfl rfl rfl ⟨(Nat.le_of_ble_eq_true rfl), (Nat.le_of_ble_eq_true rfl)⟩ [1] [0, 2, 3, 4, 5, 6, 7, 8, 9, 10, 11, 12, 13, 14, 15, 16, 17] rfl rfl rfl (by decide) rfl rfl rfl rfl rfl hl.1 (Nat.le_of_ble_eq_true rfl) dX2_pass_35 ⟨(Nat.le_of_ble_eq_true rfl), (Nat.le_of_ble_eq_true rfl)⟩ (fun r_w u_w H locs hw hP hD hS => ?_)
  have hP : va_P g.1 vwCl [(hζ, .inr (2, [.int 0, .int 0, .int (-6), .int (-6), .int (-6), .int (-6)])), (dζ, .inr (1, oC Aζ Iζ)), aI g (Aζ 0) 121 g0ζ, aI g (Aζ 1) 10 g1ζ, aI g (Aζ 2) 10 g2ζ, aI g (Aζ 3) 10 g3ζ, aI g (Aζ 4) 10 g4ζ, aI g (Aζ 5) 8 g5ζ, aI g (Aζ 6) 8 g6ζ, (wζ, .inr (1, oC Bζ Jζ)), aI g (Bζ 0) 121 f0ζ, aI g (Bζ 1) 10 f1ζ, aI g (Bζ 2) 10 f2ζ, aI g (Bζ 3) 10 f3ζ, aI g (Bζ 4) 10 f4ζ, aI g (Bζ 5) 8 f5ζ, aI g (Bζ 6) 8 f6ζ, (kζ, .inr (3, [.ref aζ, .int 0]))] H := hP
  have hD : va_D Z [(hζ, .inr (2, [.int 0, .int 0, .int (-6), .int (-6), .int (-6), .int (-6)])), (dζ, .inr (1, oC Aζ Iζ)), aI g (Aζ 0) 121 g0ζ, aI g (Aζ 1) 10 g1ζ, aI g (Aζ 2) 10 g2ζ, aI g (Aζ 3) 10 g3ζ, aI g (Aζ 4) 10 g4ζ, aI g (Aζ 5) 8 g5ζ, aI g (Aζ 6) 8 g6ζ, (wζ, .inr (1, oC Bζ Jζ)), aI g (Bζ 0) 121 f0ζ, aI g (Bζ 1) 10 f1ζ, aI g (Bζ 2) 10 f2ζ, aI g (Bζ 3) 10 f3ζ, aI g (Bζ 4) 10 f4ζ, aI g (Bζ 5) 8 f5ζ, aI g (Bζ 6) 8 f6ζ, (kζ, .inr (3, [.ref aζ, .int 0]))] := hD
  obtain rfl := hw
  refine lv_bipush (v := (-6)) hx hb dX2_pass_38 (by decide) ?_
  refine lv_icmp_eq (tgt := 46) hx hb dX2_pass_40 (by decide) (fun c_1 => ?_) (fun c_1 => ?_)
  · refine lv_aload_n hx hb dX2_pass_46 rfl (lv_at hl 2 rfl) ?_
    refine lv_aload_n hx hb dX2_pass_47 rfl (lv_at hl 3 rfl) ?_
    refine gcV_v (As := [.ref wζ]) (rest := []) (ci := 1) (q := (RX1, TX1, 12)) F hK hN hP hD hS hA (c_X1_copyFrom l g H.size dζ Aζ Iζ wζ Bζ Jζ g0ζ g1ζ g2ζ g3ζ g4ζ g5ζ g6ζ f0ζ f1ζ f2ζ f3ζ f4ζ f5ζ f6ζ) gX2_pass_X1_copyFrom kX1_copyFrom rfl rfl rfl rfl ⟨(Nat.le_of_ble_eq_true rfl), (Nat.le_of_ble_eq_true rfl)⟩ [1, 2, 3, 4, 5, 6, 7, 8, 9, 10, 11, 12, 13, 14, 15, 16] [0, 17] rfl rfl rfl (by decide) rfl rfl rfl rfl rfl hl.1 (Nat.le_of_ble_eq_true rfl) dX2_pass_48 ⟨(Nat.le_of_ble_eq_true rfl), (Nat.le_of_ble_eq_true rfl)⟩ (fun u_w H locs hw hP hD hS => ?_)
    have hP : va_P g.1 vwCl [(hζ, .inr (2, [.int 0, .int 0, .int (-6), .int (-6), .int (-6), .int (-6)])), (kζ, .inr (3, [.ref aζ, .int 0])), (dζ, .inr (1, oC Aζ Jζ)), aI g (Aζ 0) 121 f0ζ, aI g (Aζ 1) 10 f1ζ, aI g (Aζ 2) 10 f2ζ, aI g (Aζ 3) 10 f3ζ, aI g (Aζ 4) 10 f4ζ, aI g (Aζ 5) 8 f5ζ, aI g (Aζ 6) 8 f6ζ, (wζ, .inr (1, oC Bζ Jζ)), aI g (Bζ 0) 121 f0ζ, aI g (Bζ 1) 10 f1ζ, aI g (Bζ 2) 10 f2ζ, aI g (Bζ 3) 10 f3ζ, aI g (Bζ 4) 10 f4ζ, aI g (Bζ 5) 8 f5ζ, aI g (Bζ 6) 8 f6ζ] H := hP
    have hD : va_D Z [(hζ, .inr (2, [.int 0, .int 0, .int (-6), .int (-6), .int (-6), .int (-6)])), (kζ, .inr (3, [.ref aζ, .int 0])), (dζ, .inr (1, oC Aζ Jζ)), aI g (Aζ 0) 121 f0ζ, aI g (Aζ 1) 10 f1ζ, aI g (Aζ 2) 10 f2ζ, aI g (Aζ 3) 10 f3ζ, aI g (Aζ 4) 10 f4ζ, aI g (Aζ 5) 8 f5ζ, aI g (Aζ 6) 8 f6ζ, (wζ, .inr (1, oC Bζ Jζ)), aI g (Bζ 0) 121 f0ζ, aI g (Bζ 1) 10 f1ζ, aI g (Bζ 2) 10 f2ζ, aI g (Bζ 3) 10 f3ζ, aI g (Bζ 4) 10 f4ζ, aI g (Bζ 5) 8 f5ζ, aI g (Bζ 6) 8 f6ζ] := hD
    refine lv_iconst (v := 0) hx hb dX2_pass_51 (by decide) ?_
    refine lv_istore (lv' := [(4, .int 0), (0, .ref hζ), (1, .ref kζ), (2, .ref dζ), (3, .ref wζ)]) hx hb dX2_pass_52 hl (by decide) rfl (fun ls hl => ?_)
    refine lv_iload hx hb dX2_pass_54 (lv_at hl 0 rfl) ?_
    refine lv_aload_n hx hb dX2_pass_56 rfl (lv_at hl 2 rfl) ?_
    refine gcV_i (As := []) (rest := [.int 0]) (ci := 3) (q := (RX3, TX3, 2)) F hK hN hP hD hS hA (c_X3_size l g H.size kζ aζ 0) gX2_pass_X3_size kX3_size rfl rfl rfl rfl ⟨(Nat.le_of_ble_eq_true rfl), (Nat.le_of_ble_eq_true rfl)⟩ [1] [0, 2, 3, 4, 5, 6, 7, 8, 9, 10, 11, 12, 13, 14, 15, 16, 17] rfl rfl rfl (by decide) rfl rfl rfl rfl rfl hl.1 (Nat.le_of_ble_eq_true rfl) dX2_pass_57 ⟨(Nat.le_of_ble_eq_true rfl), (Nat.le_of_ble_eq_true rfl)⟩ (fun r_w u_w H locs hw hP hD hS => ?_)
    have hP : va_P g.1 vwCl [(hζ, .inr (2, [.int 0, .int 0, .int (-6), .int (-6), .int (-6), .int (-6)])), (dζ, .inr (1, oC Aζ Jζ)), aI g (Aζ 0) 121 f0ζ, aI g (Aζ 1) 10 f1ζ, aI g (Aζ 2) 10 f2ζ, aI g (Aζ 3) 10 f3ζ, aI g (Aζ 4) 10 f4ζ, aI g (Aζ 5) 8 f5ζ, aI g (Aζ 6) 8 f6ζ, (wζ, .inr (1, oC Bζ Jζ)), aI g (Bζ 0) 121 f0ζ, aI g (Bζ 1) 10 f1ζ, aI g (Bζ 2) 10 f2ζ, aI g (Bζ 3) 10 f3ζ, aI g (Bζ 4) 10 f4ζ, aI g (Bζ 5) 8 f5ζ, aI g (Bζ 6) 8 f6ζ, (kζ, .inr (3, [.ref aζ, .int 0]))] H := hP
    have hD : va_D Z [(hζ, .inr (2, [.int 0, .int 0, .int (-6), .int (-6), .int (-6), .int (-6)])), (dζ, .inr (1, oC Aζ Jζ)), aI g (Aζ 0) 121 f0ζ, aI g (Aζ 1) 10 f1ζ, aI g (Aζ 2) 10 f2ζ, aI g (Aζ 3) 10 f3ζ, aI g (Aζ 4) 10 f4ζ, aI g (Aζ 5) 8 f5ζ, aI g (Aζ 6) 8 f6ζ, (wζ, .inr (1, oC Bζ Jζ)), aI g (Bζ 0) 121 f0ζ, aI g (Bζ 1) 10 f1ζ, aI g (Bζ 2) 10 f2ζ, aI g (Bζ 3) 10 f3ζ, aI g (Bζ 4) 10 f4ζ, aI g (Bζ 5) 8 f5ζ, aI g (Bζ 6) 8 f6ζ, (kζ, .inr (3, [.ref aζ, .int 0]))] := hD
    obtain rfl := hw
    refine lv_icmp_ge (tgt := 149) hx hb dX2_pass_60 (by decide) (fun c_2 => ?_) (fun c_2 => ?_)
    · refine lv_iconst (v := 0) hx hb dX2_pass_149 (by decide) ?_
      exact r_iret hx hb hr hlk hS () rfl (hP.sub [0, 17, 1, 2, 3, 4, 5, 6, 7, 8, 9, 10, 11, 12, 13, 14, 15, 16] rfl) (hD.sub [0, 17, 1, 2, 3, 4, 5, 6, 7, 8, 9, 10, 11, 12, 13, 14, 15, 16] (by decide) rfl) dX2_pass_150
    · exact absurd (by decide) c_2
  · exact absurd (by decide) c_1

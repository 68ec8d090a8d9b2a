theorem kX1_liveYear : YOk yX1_liveYear 2 := by decide +kernel
theorem kX1_isConvinced : YOk yX1_isConvinced 2 := by decide +kernel
theorem kX1_init : YOk yX1_init 0 := by decide +kernel
theorem kX1_copyFrom : YOk yX1_copyFrom 1 := by decide +kernel
set_option maxHeartbeats 4000000 in
set_option maxRecDepth 100000 in
theorem c_X1_liveYear (l : Launch) (g : GT) (sz : Nat) (hζ : Nat) (Aζ : Nat → Nat) (Iζ : Nat → Int32) (k0ζ nζ : Nat) (hk0ζ : k0ζ < 65537) (hnζ : nζ < 2 ^ 31) (h8ζ : Iζ 8 = 10) : Mv (S := Nat → Int32) l yX1_liveYear wsX1_liveYear { frames := 3, cells := 0, slots := 0, locals := 64 } g sz [.ref hζ, .int (nI k0ζ), .int (nI nζ)] [(hζ, .inr (1, oC Aζ Iζ)), aI g (Aζ 0) 121 (fun _ => 0), aI g (Aζ 2) 10 (fun _ => 0), aI g (Aζ 4) 10 (fun j => nI j)] 0 0 (fun Jζ => Jζ 8 = 10) (fun Jζ => [(hζ, .inr (1, oC Aζ Jζ)), aI g (Aζ 0) 121 (fun _ => 0), aI g (Aζ 2) 10 (fun _ => 0), aI g (Aζ 4) 10 (fun j => nI j)]) := by
  refine gMet_v (cc := cX1_liveYear) (maxL := 7) (ret := none) (by decide) rfl (Nat.le_of_ble_eq_true rfl) ?_
  intro p e s m args below meth c Z hx hb hr F hlk hnm hK hN hA H locs hP hD hS ls hl
  have hl : lv_has ls 7 [(0, .ref hζ), (1, .int (nI k0ζ)), (2, .int (nI nζ))] := hl
  have F : CallFix p m c cX1_liveYear 7 s args wsX1_liveYear RX1 := F
  have hts := F.2.2.2.2
  have hown : s.vm.findClass RX1 = some m.cls := F.2.2.2.1
  refine lv_iload_n hx hb dX1_liveYear_0 rfl (lv_at hl 1 rfl) ?_
  refine lv_istore_n (lv' := [(3, .int (nI k0ζ)), (0, .ref hζ), (1, .int (nI k0ζ)), (2, .int (nI nζ))]) hx hb dX1_liveYear_1 rfl hl (by decide) rfl (fun ls hl => ?_)
  refine lv_iconst (v := 0) hx hb dX1_liveYear_2 (by decide) ?_
  refine lv_istore (lv' := [(4, .int 0), (3, .int (nI k0ζ)), (0, .ref hζ), (1, .int (nI k0ζ)), (2, .int (nI nζ))]) hx hb dX1_liveYear_3 hl (by decide) rfl (fun ls hl => ?_)
  refine gloop (σ := Nat × Nat × (Nat → Int32)) (fun u0 => nζ - u0.1) (fun u0 => u0.1 ≤ nζ ∧ u0.2.1 < 65537 ∧ u0.2.2 8 = 10) (fun u0 => [(hζ, .inr (1, oC Aζ u0.2.2)), aI g (Aζ 0) 121 (fun _ => 0), aI g (Aζ 2) 10 (fun _ => 0), aI g (Aζ 4) 10 (fun j => nI j)]) (fun u0 => [(4, .int (nI u0.1)), (3, .int (nI u0.2.1)), (0, .ref hζ), (1, .int (nI k0ζ)), (2, .int (nI nζ))]) ?_ (0, k0ζ, Iζ) ⟨(by first | omega | decide | rfl), hk0ζ, h8ζ⟩ (hP.sub [0, 1, 2, 3] rfl) (hD.sub [0, 1, 2, 3] (by decide) rfl) hS (lv_sub hl [0, 1, 2, 3, 4] rfl)
  rintro ⟨iζ, kζ, Jζ⟩ ⟨hiζ, hkζ, h8ζ⟩ ih5 H locs ls hP hD hS hl
  have hiζ : iζ ≤ nζ := hiζ
  have hkζ : kζ < 65537 := hkζ
  have h8ζ : Jζ 8 = 10 := h8ζ
  have hP : va_P g.1 vwCl [(hζ, .inr (1, oC Aζ Jζ)), aI g (Aζ 0) 121 (fun _ => 0), aI g (Aζ 2) 10 (fun _ => 0), aI g (Aζ 4) 10 (fun j => nI j)] H := hP
  have hD : va_D Z [(hζ, .inr (1, oC Aζ Jζ)), aI g (Aζ 0) 121 (fun _ => 0), aI g (Aζ 2) 10 (fun _ => 0), aI g (Aζ 4) 10 (fun j => nI j)] := hD
  have hl : lv_has ls 7 [(4, .int (nI iζ)), (3, .int (nI kζ)), (0, .ref hζ), (1, .int (nI k0ζ)), (2, .int (nI nζ))] := hl
  refine lv_iload hx hb dX1_liveYear_5 (lv_at hl 0 rfl) ?_
  refine lv_iload_n hx hb dX1_liveYear_7 rfl (lv_at hl 4 rfl) ?_
  refine lv_icmp_ge (tgt := 93) hx hb dX1_liveYear_8 (by decide) (fun c_1 => ?_) (fun c_1 => ?_)
  · have c_1 : nζ ≤ iζ := (nI_leI (a := nζ) (b := iζ) (by omega) (by omega)).mp c_1
    exact r_vret hx hb hr hlk hS Jζ h8ζ (hP.sub [0, 1, 2, 3] rfl) (hD.sub [0, 1, 2, 3] (by decide) rfl) dX1_liveYear_93
  · have c_1 : ¬ nζ ≤ iζ := fun z => c_1 ((nI_leI (a := nζ) (b := iζ) (by omega) (by omega)).mpr z)
    refine lv_bipush (v := 75) hx hb dX1_liveYear_11 (by decide) ?_
    refine lv_iload_n hx hb dX1_liveYear_13 rfl (lv_at hl 1 rfl) ?_
    refine lv_imul hx hb dX1_liveYear_14 ?_
    refine gtop (y := nI (75 * kζ)) (pk_mul 75 kζ) ?_
    refine lv_bipush (v := 74) hx hb dX1_liveYear_15 (by decide) ?_
    refine lv_iadd hx hb dX1_liveYear_17 ?_
    refine gtop (y := nI ((75 * kζ) + 74)) (nI_add (75 * kζ) 74) ?_
    refine lv_ldc (v := 65537) hx hb hown (hts (.constant RX1 133 (65537)) (by decide +kernel)) dX1_liveYear_18 ?_
    refine lv_irem hx hb dX1_liveYear_20 (by decide) ?_
    refine gtop (y := nI (((75 * kζ) + 74) % 65537)) (pk_rem (a := (75 * kζ) + 74) (d := 65537) (by omega) (by omega) (by omega)) ?_
    obtain ⟨k2, hk2, ek2⟩ : ∃ z : Nat, z < 65537 ∧ z = (75 * kζ + 74) % 65537 := ⟨_, Nat.mod_lt _ (by decide), rfl⟩
    refine gtop (y := nI k2) (by rw [ek2]) ?_
    refine lv_istore_n (lv' := [(3, .int (nI k2)), (4, .int (nI iζ)), (0, .ref hζ), (1, .int (nI k0ζ)), (2, .int (nI nζ))]) hx hb dX1_liveYear_21 rfl hl (by decide) rfl (fun ls hl => ?_)
    refine lv_iload_n hx hb dX1_liveYear_22 rfl (lv_at hl 0 rfl) ?_
    refine lv_bipush (v := 8) hx hb dX1_liveYear_23 (by decide) ?_
    refine lv_irem hx hb dX1_liveYear_25 (by decide) ?_
    refine gtop (y := nI (k2 % 8)) (pk_rem (a := k2) (d := 8) (by omega) (by omega) (by omega)) ?_
    refine gcP (As := [.int (nI (k2 % 8))]) (rest := []) F (c_X1_kindDrawn l (k2 % 8) (by omega)) gX1_liveYear_X1_kindDrawn kX1_kindDrawn rfl rfl rfl ⟨(Nat.le_of_ble_eq_true rfl), (Nat.le_of_ble_eq_true rfl)⟩ rfl rfl hl.1 (Nat.le_of_ble_eq_true rfl) dX1_liveYear_26 ⟨(Nat.le_of_ble_eq_true rfl), (Nat.le_of_ble_eq_true rfl)⟩ ?_
    refine lv_istore (lv' := [(5, .int (nI (kdF (k2 % 8)))), (3, .int (nI k2)), (4, .int (nI iζ)), (0, .ref hζ), (1, .int (nI k0ζ)), (2, .int (nI nζ))]) hx hb dX1_liveYear_29 hl (by decide) rfl (fun ls hl => ?_)
    refine lv_iload hx hb dX1_liveYear_31 (lv_at hl 0 rfl) ?_
    refine lv_iconst (v := 1) hx hb dX1_liveYear_33 (by decide) ?_
    refine lv_icmp_ne (tgt := 47) hx hb dX1_liveYear_34 (by decide) (fun c_2 => ?_) (fun c_2 => ?_)
    · have c_2 : ¬ (kdF (k2 % 8)) = 1 := fun z => c_2 ((nI_eq (a := (kdF (k2 % 8))) (b := 1) (by have := kdF_lt (k2 % 8); omega) (by decide)).mpr z)
      refine lv_iload_n hx hb dX1_liveYear_47 rfl (lv_at hl 1 rfl) ?_
      refine lv_bipush (v := 8) hx hb dX1_liveYear_48 (by decide) ?_
      refine lv_idiv hx hb dX1_liveYear_50 (by decide) ?_
      refine gtop (y := nI (k2 / 8)) (pk_div (a := k2) (d := 8) (by omega) (by omega) (by omega)) ?_
      refine lv_bipush (v := 10) hx hb dX1_liveYear_51 (by decide) ?_
      refine lv_irem hx hb dX1_liveYear_53 (by decide) ?_
      refine gtop (y := nI ((k2 / 8) % 10)) (pk_rem (a := k2 / 8) (d := 10) (by omega) (by omega) (by omega)) ?_
      refine lv_istore (lv' := [(6, .int (nI ((k2 / 8) % 10))), (5, .int (nI (kdF (k2 % 8)))), (3, .int (nI k2)), (4, .int (nI iζ)), (0, .ref hζ), (1, .int (nI k0ζ)), (2, .int (nI nζ))]) hx hb dX1_liveYear_54 hl (by decide) rfl (fun ls hl => ?_)
      refine lv_aload_n hx hb dX1_liveYear_56 rfl (lv_at hl 4 rfl) ?_
      refine lv_iload hx hb dX1_liveYear_57 (lv_at hl 1 rfl) ?_
      refine lv_iload hx hb dX1_liveYear_59 (lv_at hl 0 rfl) ?_
      refine gcV_i (As := [.int (nI (kdF (k2 % 8))), .int (nI ((k2 / 8) % 10))]) (rest := []) (ci := 1) (q := (RX1, TX1, 12)) F hK hN hP hD hS hA (c_X1_reasonAgainst l g H.size hζ Aζ Jζ (kdF (k2 % 8)) ((k2 / 8) % 10) (kdF_lt _) (by omega) h8ζ) gX1_liveYear_X1_reasonAgainst kX1_reasonAgainst rfl rfl rfl rfl ⟨(Nat.le_of_ble_eq_true rfl), (Nat.le_of_ble_eq_true rfl)⟩ [0, 1] [2, 3] rfl rfl rfl (by decide) rfl rfl rfl rfl rfl hl.1 (Nat.le_of_ble_eq_true rfl) dX1_liveYear_61 ⟨(Nat.le_of_ble_eq_true rfl), (Nat.le_of_ble_eq_true rfl)⟩ (fun r_w u_w H locs hw hP hD hS => ?_)
      have hP : va_P g.1 vwCl [aI g (Aζ 2) 10 (fun _ => 0), aI g (Aζ 4) 10 (fun j => nI j), (hζ, .inr (1, oC Aζ Jζ)), aI g (Aζ 0) 121 (fun _ => 0)] H := hP
      have hD : va_D Z [aI g (Aζ 2) 10 (fun _ => 0), aI g (Aζ 4) 10 (fun j => nI j), (hζ, .inr (1, oC Aζ Jζ)), aI g (Aζ 0) 121 (fun _ => 0)] := hD
      obtain rfl := hw
      refine lv_if_ne (tgt := 87) hx hb dX1_liveYear_64 (by decide) (fun c_3 => ?_) (fun c_3 => ?_)
      · refine lv_iinc (v := nI (iζ + 1)) (lv' := [(4, .int (nI (iζ + 1))), (6, .int (nI ((k2 / 8) % 10))), (5, .int (nI (kdF (k2 % 8)))), (3, .int (nI k2)), (0, .ref hζ), (1, .int (nI k0ζ)), (2, .int (nI nζ))]) hx hb dX1_liveYear_87 hl (k := 3) rfl (nI_1 iζ) (by decide) rfl (fun ls hl => ?_)
        refine lv_goto (tgt := 5) hx hb dX1_liveYear_90 (by decide) ?_
        exact ih5 (iζ + 1, k2, Jζ) ⟨(by first | omega | (dsimp only; omega)), hk2, h8ζ⟩ (by first | omega | (dsimp only; omega)) _ _ _ (hP.sub [2, 3, 0, 1] rfl) (hD.sub [2, 3, 0, 1] (by decide) rfl) hS (lv_sub hl [0, 3, 4, 5, 6] rfl)
      · refine lv_aload_n hx hb dX1_liveYear_67 rfl (lv_at hl 4 rfl) ?_
        refine lv_iload hx hb dX1_liveYear_68 (lv_at hl 1 rfl) ?_
        refine lv_iload hx hb dX1_liveYear_70 (lv_at hl 0 rfl) ?_
        refine lv_bipush (v := 10) hx hb dX1_liveYear_72 (by decide) ?_
        refine lv_iconst (v := 1) hx hb dX1_liveYear_74 (by decide) ?_
        refine lv_iload_n hx hb dX1_liveYear_75 rfl (lv_at hl 2 rfl) ?_
        refine lv_bipush (v := 80) hx hb dX1_liveYear_76 (by decide) ?_
        refine lv_idiv hx hb dX1_liveYear_78 (by decide) ?_
        refine gtop (y := nI (k2 / 80)) (pk_div (a := k2) (d := 80) (by omega) (by omega) (by omega)) ?_
        refine lv_bipush (v := 9) hx hb dX1_liveYear_79 (by decide) ?_
        refine lv_irem hx hb dX1_liveYear_81 (by decide) ?_
        refine gtop (y := nI ((k2 / 80) % 9)) (pk_rem (a := k2 / 80) (d := 9) (by omega) (by omega) (by omega)) ?_
        refine lv_iadd hx hb dX1_liveYear_82 ?_
        refine gtop (y := nI (1 + ((k2 / 80) % 9))) (nI_add 1 ((k2 / 80) % 9)) ?_
        refine lv_imul hx hb dX1_liveYear_83 ?_
        refine gtop (y := nI (10 * (1 + ((k2 / 80) % 9)))) (pk_mul 10 (1 + ((k2 / 80) % 9))) ?_
        refine gcV_v (As := [.int (nI (kdF (k2 % 8))), .int (nI ((k2 / 8) % 10)), .int (nI (10 * (1 + ((k2 / 80) % 9))))]) (rest := []) (ci := 1) (q := (RX1, TX1, 12)) F hK hN hP hD hS hA (c_X1_act l g H.size hζ Aζ Jζ (kdF (k2 % 8)) (nI ((k2 / 8) % 10)) (nI (10 * (1 + ((k2 / 80) % 9)))) (kdF_lt _) (raF_12 c_3) h8ζ) gX1_liveYear_X1_act kX1_act rfl rfl rfl rfl ⟨(Nat.le_of_ble_eq_true rfl), (Nat.le_of_ble_eq_true rfl)⟩ [2, 0, 1] [3] rfl rfl rfl (by decide) rfl rfl rfl rfl rfl hl.1 (Nat.le_of_ble_eq_true rfl) dX1_liveYear_84 ⟨(Nat.le_of_ble_eq_true rfl), (Nat.le_of_ble_eq_true rfl)⟩ (fun u_w H locs hw hP hD hS => ?_)
        obtain ⟨J_4, rfl⟩ : ∃ z, z = u_w := ⟨_, rfl⟩
        have hw_5 := hw
        have hP : va_P g.1 vwCl [aI g (Aζ 0) 121 (fun _ => 0), (hζ, .inr (1, oC Aζ J_4)), aI g (Aζ 2) 10 (fun _ => 0), aI g (Aζ 4) 10 (fun j => nI j)] H := hP
        have hD : va_D Z [aI g (Aζ 0) 121 (fun _ => 0), (hζ, .inr (1, oC Aζ J_4)), aI g (Aζ 2) 10 (fun _ => 0), aI g (Aζ 4) 10 (fun j => nI j)] := hD
        refine lv_iinc (v := nI (iζ + 1)) (lv' := [(4, .int (nI (iζ + 1))), (6, .int (nI ((k2 / 8) % 10))), (5, .int (nI (kdF (k2 % 8)))), (3, .int (nI k2)), (0, .ref hζ), (1, .int (nI k0ζ)), (2, .int (nI nζ))]) hx hb dX1_liveYear_87 hl (k := 3) rfl (nI_1 iζ) (by decide) rfl (fun ls hl => ?_)
        refine lv_goto (tgt := 5) hx hb dX1_liveYear_90 (by decide) ?_
        exact ih5 (iζ + 1, k2, J_4) ⟨(by first | omega | (dsimp only; omega)), hk2, hw_5⟩ (by first | omega | (dsimp only; omega)) _ _ _ (hP.sub [1, 0, 2, 3] rfl) (hD.sub [1, 0, 2, 3] (by decide) rfl) hS (lv_sub hl [0, 3, 4, 5, 6] rfl)
    · have c_2 : (kdF (k2 % 8)) = 1 := (nI_eq (a := (kdF (k2 % 8))) (b := 1) (by have := kdF_lt (k2 % 8); omega) (by decide)).mp c_2
      refine lv_iload_n hx hb dX1_liveYear_37 rfl (lv_at hl 1 rfl) ?_
      refine lv_bipush (v := 8) hx hb dX1_liveYear_38 (by decide) ?_
      refine lv_idiv hx hb dX1_liveYear_40 (by decide) ?_
      refine gtop (y := nI (k2 / 8)) (pk_div (a := k2) (d := 8) (by omega) (by omega) (by omega)) ?_
      refine lv_bipush (v := 11) hx hb dX1_liveYear_41 (by decide) ?_
      refine lv_irem hx hb dX1_liveYear_43 (by decide) ?_
      refine gtop (y := nI ((k2 / 8) % 11)) (pk_rem (a := k2 / 8) (d := 11) (by omega) (by omega) (by omega)) ?_
      refine lv_goto (tgt := 54) hx hb dX1_liveYear_44 (by decide) ?_
      refine lv_istore (lv' := [(6, .int (nI ((k2 / 8) % 11))), (5, .int (nI (kdF (k2 % 8)))), (3, .int (nI k2)), (4, .int (nI iζ)), (0, .ref hζ), (1, .int (nI k0ζ)), (2, .int (nI nζ))]) hx hb dX1_liveYear_54 hl (by decide) rfl (fun ls hl => ?_)
      refine lv_aload_n hx hb dX1_liveYear_56 rfl (lv_at hl 4 rfl) ?_
      refine lv_iload hx hb dX1_liveYear_57 (lv_at hl 1 rfl) ?_
      refine lv_iload hx hb dX1_liveYear_59 (lv_at hl 0 rfl) ?_
      refine gcV_i (As := [.int (nI (kdF (k2 % 8))), .int (nI ((k2 / 8) % 11))]) (rest := []) (ci := 1) (q := (RX1, TX1, 12)) F hK hN hP hD hS hA (c_X1_reasonAgainst l g H.size hζ Aζ Jζ (kdF (k2 % 8)) ((k2 / 8) % 11) (kdF_lt _) (by omega) h8ζ) gX1_liveYear_X1_reasonAgainst kX1_reasonAgainst rfl rfl rfl rfl ⟨(Nat.le_of_ble_eq_true rfl), (Nat.le_of_ble_eq_true rfl)⟩ [0, 1] [2, 3] rfl rfl rfl (by decide) rfl rfl rfl rfl rfl hl.1 (Nat.le_of_ble_eq_true rfl) dX1_liveYear_61 ⟨(Nat.le_of_ble_eq_true rfl), (Nat.le_of_ble_eq_true rfl)⟩ (fun r_w u_w H locs hw hP hD hS => ?_)
      have hP : va_P g.1 vwCl [aI g (Aζ 2) 10 (fun _ => 0), aI g (Aζ 4) 10 (fun j => nI j), (hζ, .inr (1, oC Aζ Jζ)), aI g (Aζ 0) 121 (fun _ => 0)] H := hP
      have hD : va_D Z [aI g (Aζ 2) 10 (fun _ => 0), aI g (Aζ 4) 10 (fun j => nI j), (hζ, .inr (1, oC Aζ Jζ)), aI g (Aζ 0) 121 (fun _ => 0)] := hD
      obtain rfl := hw
      refine lv_if_ne (tgt := 87) hx hb dX1_liveYear_64 (by decide) (fun c_6 => ?_) (fun c_6 => ?_)
      · refine lv_iinc (v := nI (iζ + 1)) (lv' := [(4, .int (nI (iζ + 1))), (6, .int (nI ((k2 / 8) % 11))), (5, .int (nI (kdF (k2 % 8)))), (3, .int (nI k2)), (0, .ref hζ), (1, .int (nI k0ζ)), (2, .int (nI nζ))]) hx hb dX1_liveYear_87 hl (k := 3) rfl (nI_1 iζ) (by decide) rfl (fun ls hl => ?_)
        refine lv_goto (tgt := 5) hx hb dX1_liveYear_90 (by decide) ?_
        exact ih5 (iζ + 1, k2, Jζ) ⟨(by first | omega | (dsimp only; omega)), hk2, h8ζ⟩ (by first | omega | (dsimp only; omega)) _ _ _ (hP.sub [2, 3, 0, 1] rfl) (hD.sub [2, 3, 0, 1] (by decide) rfl) hS (lv_sub hl [0, 3, 4, 5, 6] rfl)
      · refine lv_aload_n hx hb dX1_liveYear_67 rfl (lv_at hl 4 rfl) ?_
        refine lv_iload hx hb dX1_liveYear_68 (lv_at hl 1 rfl) ?_
        refine lv_iload hx hb dX1_liveYear_70 (lv_at hl 0 rfl) ?_
        refine lv_bipush (v := 10) hx hb dX1_liveYear_72 (by decide) ?_
        refine lv_iconst (v := 1) hx hb dX1_liveYear_74 (by decide) ?_
        refine lv_iload_n hx hb dX1_liveYear_75 rfl (lv_at hl 2 rfl) ?_
        refine lv_bipush (v := 80) hx hb dX1_liveYear_76 (by decide) ?_
        refine lv_idiv hx hb dX1_liveYear_78 (by decide) ?_
        refine gtop (y := nI (k2 / 80)) (pk_div (a := k2) (d := 80) (by omega) (by omega) (by omega)) ?_
        refine lv_bipush (v := 9) hx hb dX1_liveYear_79 (by decide) ?_
        refine lv_irem hx hb dX1_liveYear_81 (by decide) ?_
        refine gtop (y := nI ((k2 / 80) % 9)) (pk_rem (a := k2 / 80) (d := 9) (by omega) (by omega) (by omega)) ?_
        refine lv_iadd hx hb dX1_liveYear_82 ?_
        refine gtop (y := nI (1 + ((k2 / 80) % 9))) (nI_add 1 ((k2 / 80) % 9)) ?_
        refine lv_imul hx hb dX1_liveYear_83 ?_
        refine gtop (y := nI (10 * (1 + ((k2 / 80) % 9)))) (pk_mul 10 (1 + ((k2 / 80) % 9))) ?_
        refine gcV_v (As := [.int (nI (kdF (k2 % 8))), .int (nI ((k2 / 8) % 11)), .int (nI (10 * (1 + ((k2 / 80) % 9))))]) (rest := []) (ci := 1) (q := (RX1, TX1, 12)) F hK hN hP hD hS hA (c_X1_act l g H.size hζ Aζ Jζ (kdF (k2 % 8)) (nI ((k2 / 8) % 11)) (nI (10 * (1 + ((k2 / 80) % 9)))) (kdF_lt _) (raF_12 c_6) h8ζ) gX1_liveYear_X1_act kX1_act rfl rfl rfl rfl ⟨(Nat.le_of_ble_eq_true rfl), (Nat.le_of_ble_eq_true rfl)⟩ [2, 0, 1] [3] rfl rfl rfl (by decide) rfl rfl rfl rfl rfl hl.1 (Nat.le_of_ble_eq_true rfl) dX1_liveYear_84 ⟨(Nat.le_of_ble_eq_true rfl), (Nat.le_of_ble_eq_true rfl)⟩ (fun u_w H locs hw hP hD hS => ?_)
        obtain ⟨J_7, rfl⟩ : ∃ z, z = u_w := ⟨_, rfl⟩
        have hw_8 := hw
        have hP : va_P g.1 vwCl [aI g (Aζ 0) 121 (fun _ => 0), (hζ, .inr (1, oC Aζ J_7)), aI g (Aζ 2) 10 (fun _ => 0), aI g (Aζ 4) 10 (fun j => nI j)] H := hP
        have hD : va_D Z [aI g (Aζ 0) 121 (fun _ => 0), (hζ, .inr (1, oC Aζ J_7)), aI g (Aζ 2) 10 (fun _ => 0), aI g (Aζ 4) 10 (fun j => nI j)] := hD
        refine lv_iinc (v := nI (iζ + 1)) (lv' := [(4, .int (nI (iζ + 1))), (6, .int (nI ((k2 / 8) % 11))), (5, .int (nI (kdF (k2 % 8)))), (3, .int (nI k2)), (0, .ref hζ), (1, .int (nI k0ζ)), (2, .int (nI nζ))]) hx hb dX1_liveYear_87 hl (k := 3) rfl (nI_1 iζ) (by decide) rfl (fun ls hl => ?_)
        refine lv_goto (tgt := 5) hx hb dX1_liveYear_90 (by decide) ?_
        exact ih5 (iζ + 1, k2, J_7) ⟨(by first | omega | (dsimp only; omega)), hk2, hw_8⟩ (by first | omega | (dsimp only; omega)) _ _ _ (hP.sub [1, 0, 2, 3] rfl) (hD.sub [1, 0, 2, 3] (by decide) rfl) hS (lv_sub hl [0, 3, 4, 5, 6] rfl)
set_option maxHeartbeats 4000000 in
set_option maxRecDepth 100000 in
theorem c_X1_isConvinced (l : Launch) (g : GT) (sz : Nat) (hζ : Nat) (Aζ : Nat → Nat) (Iζ : Nat → Int32) (jζ : Nat) (xζ : Int32) (hjζ : jζ < 10) : Ci l yX1_isConvinced wsX1_isConvinced { frames := 1, cells := 0, slots := 0, locals := 20 } g sz [.ref hζ, .int (nI jζ), .int xζ] [(hζ, .inr (1, oC Aζ Iζ)), aI g (Aζ 1) 10 (fun _ => 5)] (bI (decide (45 < xζ))) [(hζ, .inr (1, oC Aζ Iζ)), aI g (Aζ 1) 10 (fun _ => 5)] := by
  refine gMet_i (cc := cX1_isConvinced) (maxL := 3) (ret := (some .boolean)) (by decide) rfl (Nat.le_of_ble_eq_true rfl) ?_
  intro p e s m args below meth c Z hx hb hr F hlk hnm hK hN hA H locs hP hD hS ls hl
  have hl : lv_has ls 3 [(0, .ref hζ), (1, .int (nI jζ)), (2, .int xζ)] := hl
  have F : CallFix p m c cX1_isConvinced 3 s args wsX1_isConvinced RX1 := F
  have hts := F.2.2.2.2
  have hown : s.vm.findClass RX1 = some m.cls := F.2.2.2.1
  have hi1 : ∀ w ∈ u_ws RX1 TX1 12, w ∈ wsX1_isConvinced := by decide +kernel
  refine lv_iload_n hx hb dX1_isConvinced_0 rfl (lv_at hl 1 rfl) ?_
  refine gcPN (As := [.int (nI jζ)]) (rest := []) F (c_X6_isHouse l (nI jζ)) gX1_isConvinced_X6_isHouse_n65 kX6_isHouse (hts (.initialized RX6) (by decide +kernel)) (hN.get 6 rfl) (hts (.static yX6_isHouse) (by decide +kernel)) rfl rfl rfl ⟨(Nat.le_of_ble_eq_true rfl), (Nat.le_of_ble_eq_true rfl)⟩ rfl rfl hl.1 (Nat.le_of_ble_eq_true rfl) dX1_isConvinced_1 ⟨(Nat.le_of_ble_eq_true rfl), (Nat.le_of_ble_eq_true rfl)⟩ ?_
  refine lv_if_eq (tgt := 24) hx hb dX1_isConvinced_4 (by decide) (fun c_1 => ?_) (fun c_1 => ?_)
  · exact absurd (bI_0 c_1) (by rw [nI_nB hjζ]; decide)
  · have c_1 : inB (nI jζ) 0 9 = true := bI_1 c_1
    refine lv_iload_n hx hb dX1_isConvinced_7 rfl (lv_at hl 2 rfl) ?_
    refine lv_bipush (v := 9) hx hb dX1_isConvinced_8 (by decide) ?_
    refine lv_aload_n hx hb dX1_isConvinced_10 rfl (lv_at hl 0 rfl) ?_
    refine va_get (D := g.1) (ci := 1) (v := .ref (Aζ 1)) (C := RX1) (T := TX1) (N := 12) hx hb hts hi1 hown hK hP 0 rfl rfl 1 (by decide) (hts (.fieldLink RX1 15 "PanTales$Close" "doubts" "[I") (by decide +kernel)) (fun _ h9 => h9) rfl dX1_isConvinced_11 ?_
    refine lv_iload_n hx hb dX1_isConvinced_14 rfl (lv_at hl 1 rfl) ?_
    refine r_iald (v := 5) hx hb hK hP 1 rfl (vp_in_nI (n := jζ) (by omega) (by omega)) (congrArg (fun _ => 5) (nI_clamp (n := jζ) (by omega))) dX1_isConvinced_15 ?_
    refine lv_imul hx hb dX1_isConvinced_16 ?_
    refine gtop (y := 45) (by decide) ?_
    refine lv_icmp_le (tgt := 24) hx hb dX1_isConvinced_17 (by decide) (fun c_2 => ?_) (fun c_2 => ?_)
    · refine lv_iconst (v := 0) hx hb dX1_isConvinced_24 (by decide) ?_
      exact r_zret hx hb hr hlk hS () (by decide) (dI_f (Int32.not_lt.mpr c_2)) (hP.sub [0, 1] rfl) (hD.sub [0, 1] (by decide) rfl) dX1_isConvinced_25
    · refine lv_iconst (v := 1) hx hb dX1_isConvinced_20 (by decide) ?_
      refine lv_goto (tgt := 25) hx hb dX1_isConvinced_21 (by decide) ?_
      exact r_zret hx hb hr hlk hS () (by decide) (dI_t (Int32.not_le.mp c_2)) (hP.sub [0, 1] rfl) (hD.sub [0, 1] (by decide) rfl) dX1_isConvinced_25
set_option maxHeartbeats 4000000 in
set_option maxRecDepth 100000 in
theorem c_X1_init (l : Launch) (g : GT) (sz : Nat) (hζ : Nat) : Mv (S := Nat → Nat) l yX1_init wsX1_init { frames := 1, cells := 7, slots := 177, locals := 40 } g sz [.ref hζ] [(hζ, .inr (1, [.null, .null, .null, .null, .null, .null, .null, .int 0, .int 0, .int 0, .int 0, .int 0]))] 7 177 (fun _ => True) (fun Aζ => [(hζ, .inr (1, oC Aζ iC0)), aI g (Aζ 0) 121 (fun _ => 0), aI g (Aζ 1) 10 (fun _ => 5), aI g (Aζ 2) 10 (fun _ => 0), aI g (Aζ 3) 10 (fun _ => (-6)), aI g (Aζ 4) 10 (fun j => nI j), aI g (Aζ 5) 8 (fun _ => 0), aI g (Aζ 6) 8 (fun _ => 0)]) := by
  refine gMet_v (cc := cX1_init) (maxL := 2) (ret := none) (by decide) rfl (Nat.le_of_ble_eq_true rfl) ?_
  intro p e s m args below meth c Z hx hb hr F hlk hnm hK hN hA H locs hP hD hS ls hl
  have hl : lv_has ls 2 [(0, .ref hζ)] := hl
  have F : CallFix p m c cX1_init 2 s args wsX1_init RX1 := F
  have hts := F.2.2.2.2
  have hown : s.vm.findClass RX1 = some m.cls := F.2.2.2.1
  have hi1 : ∀ w ∈ u_ws RX1 TX1 12, w ∈ wsX1_init := by decide +kernel
  refine lv_aload_n hx hb dX1_init_0 rfl (lv_at hl 0 rfl) ?_
  refine W.objInit hx hb hown (hts (.methodLink RX1 3 objectInit) (by decide +kernel)) (hts (.instanceMethod objectInit) (by decide +kernel)) (hts (.code objectInit ⟨#[0xb1]⟩ 1 none) (by decide +kernel)) rfl (by rw [F.2.2.1]; exact hl.1) rfl dX1_init_1 (Nat.le_of_ble_eq_true rfl) (Nat.le_of_ble_eq_true rfl) ?_
  refine W.eq (g2 := F0 m 4 ls []) rfl ?_
  refine lv_aload_n hx hb dX1_init_4 rfl (lv_at hl 0 rfl) ?_
  refine lv_bipush (v := 121) hx hb dX1_init_5 (by decide) ?_
  refine r_newI (N' := 121) hx hb (hts (.arrayClass .int) (by decide +kernel)) hK hP hD hS hA (by decide) (nI_clamp (n := 121) (by decide)) (Nat.le_of_ble_eq_true rfl) (Nat.le_of_ble_eq_true rfl) (Nat.le_of_ble_eq_true rfl) dX1_init_7 (fun q_1 H hP hD hS => ?_)
  have hP : va_P g.1 vwCl [(hζ, .inr (1, [.null, .null, .null, .null, .null, .null, .null, .int 0, .int 0, .int 0, .int 0, .int 0])), aI g q_1 121 (fun _ => 0)] H := hP
  have hD : va_D Z [(hζ, .inr (1, [.null, .null, .null, .null, .null, .null, .null, .int 0, .int 0, .int 0, .int 0, .int 0])), aI g q_1 121 (fun _ => 0)] := hD
  refine W.widen (k := 1) (n := 121) (by decide) (by decide) ?_
  refine va_putF (D := g.1) (ci := 1) (v := .ref q_1) (ty := (.array .int)) (C := RX1) (T := TX1) (N := 12) hx hb hts hi1 tyX1 tyX1_ok nmX1 hown hK hP hD hS 0 rfl rfl 0 (by decide) (hts (.fieldLink RX1 9 "PanTales$Close" "roads" "[I") (by decide +kernel)) (fun _ h9 => h9) rfl hnm rfl (by decide +kernel) rfl rfl (Nat.le_of_ble_eq_true rfl) dX1_init_9 (fun H locs hP hD hS => ?_)
  have hP : va_P g.1 vwCl [(hζ, .inr (1, [.ref q_1, .null, .null, .null, .null, .null, .null, .int 0, .int 0, .int 0, .int 0, .int 0])), aI g q_1 121 (fun _ => 0)] H := hP
  have hD : va_D Z [(hζ, .inr (1, [.ref q_1, .null, .null, .null, .null, .null, .null, .int 0, .int 0, .int 0, .int 0, .int 0])), aI g q_1 121 (fun _ => 0)] := hD
  refine lv_aload_n hx hb dX1_init_12 rfl (lv_at hl 0 rfl) ?_
  refine lv_bipush (v := 10) hx hb dX1_init_13 (by decide) ?_
  refine r_newI (N' := 10) hx hb (hts (.arrayClass .int) (by decide +kernel)) hK hP hD hS hA (by decide) (nI_clamp (n := 10) (by decide)) (Nat.le_of_ble_eq_true rfl) (Nat.le_of_ble_eq_true rfl) (Nat.le_of_ble_eq_true rfl) dX1_init_15 (fun q_2 H hP hD hS => ?_)
  have hP : va_P g.1 vwCl [(hζ, .inr (1, [.ref q_1, .null, .null, .null, .null, .null, .null, .int 0, .int 0, .int 0, .int 0, .int 0])), aI g q_1 121 (fun _ => 0), aI g q_2 10 (fun _ => 0)] H := hP
  have hD : va_D Z [(hζ, .inr (1, [.ref q_1, .null, .null, .null, .null, .null, .null, .int 0, .int 0, .int 0, .int 0, .int 0])), aI g q_1 121 (fun _ => 0), aI g q_2 10 (fun _ => 0)] := hD
  refine W.widen (k := 2) (n := 131) (by decide) (by decide) ?_
  refine va_putF (D := g.1) (ci := 1) (v := .ref q_2) (ty := (.array .int)) (C := RX1) (T := TX1) (N := 12) hx hb hts hi1 tyX1 tyX1_ok nmX1 hown hK hP hD hS 0 rfl rfl 1 (by decide) (hts (.fieldLink RX1 15 "PanTales$Close" "doubts" "[I") (by decide +kernel)) (fun _ h9 => h9) rfl hnm rfl (by decide +kernel) rfl rfl (Nat.le_of_ble_eq_true rfl) dX1_init_17 (fun H locs hP hD hS => ?_)
  have hP : va_P g.1 vwCl [(hζ, .inr (1, [.ref q_1, .ref q_2, .null, .null, .null, .null, .null, .int 0, .int 0, .int 0, .int 0, .int 0])), aI g q_1 121 (fun _ => 0), aI g q_2 10 (fun _ => 0)] H := hP
  have hD : va_D Z [(hζ, .inr (1, [.ref q_1, .ref q_2, .null, .null, .null, .null, .null, .int 0, .int 0, .int 0, .int 0, .int 0])), aI g q_1 121 (fun _ => 0), aI g q_2 10 (fun _ => 0)] := hD
  refine lv_aload_n hx hb dX1_init_20 rfl (lv_at hl 0 rfl) ?_
  refine lv_bipush (v := 10) hx hb dX1_init_21 (by decide) ?_
  refine r_newI (N' := 10) hx hb (hts (.arrayClass .int) (by decide +kernel)) hK hP hD hS hA (by decide) (nI_clamp (n := 10) (by decide)) (Nat.le_of_ble_eq_true rfl) (Nat.le_of_ble_eq_true rfl) (Nat.le_of_ble_eq_true rfl) dX1_init_23 (fun q_3 H hP hD hS => ?_)
  have hP : va_P g.1 vwCl [(hζ, .inr (1, [.ref q_1, .ref q_2, .null, .null, .null, .null, .null, .int 0, .int 0, .int 0, .int 0, .int 0])), aI g q_1 121 (fun _ => 0), aI g q_2 10 (fun _ => 0), aI g q_3 10 (fun _ => 0)] H := hP
  have hD : va_D Z [(hζ, .inr (1, [.ref q_1, .ref q_2, .null, .null, .null, .null, .null, .int 0, .int 0, .int 0, .int 0, .int 0])), aI g q_1 121 (fun _ => 0), aI g q_2 10 (fun _ => 0), aI g q_3 10 (fun _ => 0)] := hD
  refine W.widen (k := 3) (n := 141) (by decide) (by decide) ?_
  refine va_putF (D := g.1) (ci := 1) (v := .ref q_3) (ty := (.array .int)) (C := RX1) (T := TX1) (N := 12) hx hb hts hi1 tyX1 tyX1_ok nmX1 hown hK hP hD hS 0 rfl rfl 2 (by decide) (hts (.fieldLink RX1 18 "PanTales$Close" "damps" "[I") (by decide +kernel)) (fun _ h9 => h9) rfl hnm rfl (by decide +kernel) rfl rfl (Nat.le_of_ble_eq_true rfl) dX1_init_25 (fun H locs hP hD hS => ?_)
  have hP : va_P g.1 vwCl [(hζ, .inr (1, [.ref q_1, .ref q_2, .ref q_3, .null, .null, .null, .null, .int 0, .int 0, .int 0, .int 0, .int 0])), aI g q_1 121 (fun _ => 0), aI g q_2 10 (fun _ => 0), aI g q_3 10 (fun _ => 0)] H := hP
  have hD : va_D Z [(hζ, .inr (1, [.ref q_1, .ref q_2, .ref q_3, .null, .null, .null, .null, .int 0, .int 0, .int 0, .int 0, .int 0])), aI g q_1 121 (fun _ => 0), aI g q_2 10 (fun _ => 0), aI g q_3 10 (fun _ => 0)] := hD
  refine lv_aload_n hx hb dX1_init_28 rfl (lv_at hl 0 rfl) ?_
  refine lv_bipush (v := 10) hx hb dX1_init_29 (by decide) ?_
  refine r_newI (N' := 10) hx hb (hts (.arrayClass .int) (by decide +kernel)) hK hP hD hS hA (by decide) (nI_clamp (n := 10) (by decide)) (Nat.le_of_ble_eq_true rfl) (Nat.le_of_ble_eq_true rfl) (Nat.le_of_ble_eq_true rfl) dX1_init_31 (fun q_4 H hP hD hS => ?_)
  have hP : va_P g.1 vwCl [(hζ, .inr (1, [.ref q_1, .ref q_2, .ref q_3, .null, .null, .null, .null, .int 0, .int 0, .int 0, .int 0, .int 0])), aI g q_1 121 (fun _ => 0), aI g q_2 10 (fun _ => 0), aI g q_3 10 (fun _ => 0), aI g q_4 10 (fun _ => 0)] H := hP
  have hD : va_D Z [(hζ, .inr (1, [.ref q_1, .ref q_2, .ref q_3, .null, .null, .null, .null, .int 0, .int 0, .int 0, .int 0, .int 0])), aI g q_1 121 (fun _ => 0), aI g q_2 10 (fun _ => 0), aI g q_3 10 (fun _ => 0), aI g q_4 10 (fun _ => 0)] := hD
  refine W.widen (k := 4) (n := 151) (by decide) (by decide) ?_
  refine va_putF (D := g.1) (ci := 1) (v := .ref q_4) (ty := (.array .int)) (C := RX1) (T := TX1) (N := 12) hx hb hts hi1 tyX1 tyX1_ok nmX1 hown hK hP hD hS 0 rfl rfl 3 (by decide) (hts (.fieldLink RX1 21 "PanTales$Close" "beliefs" "[I") (by decide +kernel)) (fun _ h9 => h9) rfl hnm rfl (by decide +kernel) rfl rfl (Nat.le_of_ble_eq_true rfl) dX1_init_33 (fun H locs hP hD hS => ?_)
  have hP : va_P g.1 vwCl [(hζ, .inr (1, [.ref q_1, .ref q_2, .ref q_3, .ref q_4, .null, .null, .null, .int 0, .int 0, .int 0, .int 0, .int 0])), aI g q_1 121 (fun _ => 0), aI g q_2 10 (fun _ => 0), aI g q_3 10 (fun _ => 0), aI g q_4 10 (fun _ => 0)] H := hP
  have hD : va_D Z [(hζ, .inr (1, [.ref q_1, .ref q_2, .ref q_3, .ref q_4, .null, .null, .null, .int 0, .int 0, .int 0, .int 0, .int 0])), aI g q_1 121 (fun _ => 0), aI g q_2 10 (fun _ => 0), aI g q_3 10 (fun _ => 0), aI g q_4 10 (fun _ => 0)] := hD
  refine lv_aload_n hx hb dX1_init_36 rfl (lv_at hl 0 rfl) ?_
  refine lv_bipush (v := 10) hx hb dX1_init_37 (by decide) ?_
  refine r_newI (N' := 10) hx hb (hts (.arrayClass .int) (by decide +kernel)) hK hP hD hS hA (by decide) (nI_clamp (n := 10) (by decide)) (Nat.le_of_ble_eq_true rfl) (Nat.le_of_ble_eq_true rfl) (Nat.le_of_ble_eq_true rfl) dX1_init_39 (fun q_5 H hP hD hS => ?_)
  have hP : va_P g.1 vwCl [(hζ, .inr (1, [.ref q_1, .ref q_2, .ref q_3, .ref q_4, .null, .null, .null, .int 0, .int 0, .int 0, .int 0, .int 0])), aI g q_1 121 (fun _ => 0), aI g q_2 10 (fun _ => 0), aI g q_3 10 (fun _ => 0), aI g q_4 10 (fun _ => 0), aI g q_5 10 (fun _ => 0)] H := hP
  have hD : va_D Z [(hζ, .inr (1, [.ref q_1, .ref q_2, .ref q_3, .ref q_4, .null, .null, .null, .int 0, .int 0, .int 0, .int 0, .int 0])), aI g q_1 121 (fun _ => 0), aI g q_2 10 (fun _ => 0), aI g q_3 10 (fun _ => 0), aI g q_4 10 (fun _ => 0), aI g q_5 10 (fun _ => 0)] := hD
  refine W.widen (k := 5) (n := 161) (by decide) (by decide) ?_
  refine va_putF (D := g.1) (ci := 1) (v := .ref q_5) (ty := (.array .int)) (C := RX1) (T := TX1) (N := 12) hx hb hts hi1 tyX1 tyX1_ok nmX1 hown hK hP hD hS 0 rfl rfl 4 (by decide) (hts (.fieldLink RX1 24 "PanTales$Close" "fadings" "[I") (by decide +kernel)) (fun _ h9 => h9) rfl hnm rfl (by decide +kernel) rfl rfl (Nat.le_of_ble_eq_true rfl) dX1_init_41 (fun H locs hP hD hS => ?_)
  have hP : va_P g.1 vwCl [(hζ, .inr (1, [.ref q_1, .ref q_2, .ref q_3, .ref q_4, .ref q_5, .null, .null, .int 0, .int 0, .int 0, .int 0, .int 0])), aI g q_1 121 (fun _ => 0), aI g q_2 10 (fun _ => 0), aI g q_3 10 (fun _ => 0), aI g q_4 10 (fun _ => 0), aI g q_5 10 (fun _ => 0)] H := hP
  have hD : va_D Z [(hζ, .inr (1, [.ref q_1, .ref q_2, .ref q_3, .ref q_4, .ref q_5, .null, .null, .int 0, .int 0, .int 0, .int 0, .int 0])), aI g q_1 121 (fun _ => 0), aI g q_2 10 (fun _ => 0), aI g q_3 10 (fun _ => 0), aI g q_4 10 (fun _ => 0), aI g q_5 10 (fun _ => 0)] := hD
  refine lv_aload_n hx hb dX1_init_44 rfl (lv_at hl 0 rfl) ?_
  refine lv_bipush (v := 8) hx hb dX1_init_45 (by decide) ?_
  refine r_newI (N' := 8) hx hb (hts (.arrayClass .int) (by decide +kernel)) hK hP hD hS hA (by decide) (nI_clamp (n := 8) (by decide)) (Nat.le_of_ble_eq_true rfl) (Nat.le_of_ble_eq_true rfl) (Nat.le_of_ble_eq_true rfl) dX1_init_47 (fun q_6 H hP hD hS => ?_)
  have hP : va_P g.1 vwCl [(hζ, .inr (1, [.ref q_1, .ref q_2, .ref q_3, .ref q_4, .ref q_5, .null, .null, .int 0, .int 0, .int 0, .int 0, .int 0])), aI g q_1 121 (fun _ => 0), aI g q_2 10 (fun _ => 0), aI g q_3 10 (fun _ => 0), aI g q_4 10 (fun _ => 0), aI g q_5 10 (fun _ => 0), aI g q_6 8 (fun _ => 0)] H := hP
  have hD : va_D Z [(hζ, .inr (1, [.ref q_1, .ref q_2, .ref q_3, .ref q_4, .ref q_5, .null, .null, .int 0, .int 0, .int 0, .int 0, .int 0])), aI g q_1 121 (fun _ => 0), aI g q_2 10 (fun _ => 0), aI g q_3 10 (fun _ => 0), aI g q_4 10 (fun _ => 0), aI g q_5 10 (fun _ => 0), aI g q_6 8 (fun _ => 0)] := hD
  refine W.widen (k := 6) (n := 169) (by decide) (by decide) ?_
  refine va_putF (D := g.1) (ci := 1) (v := .ref q_6) (ty := (.array .int)) (C := RX1) (T := TX1) (N := 12) hx hb hts hi1 tyX1 tyX1_ok nmX1 hown hK hP hD hS 0 rfl rfl 5 (by decide) (hts (.fieldLink RX1 27 "PanTales$Close" "sightBeds" "[I") (by decide +kernel)) (fun _ h9 => h9) rfl hnm rfl (by decide +kernel) rfl rfl (Nat.le_of_ble_eq_true rfl) dX1_init_49 (fun H locs hP hD hS => ?_)
  have hP : va_P g.1 vwCl [(hζ, .inr (1, [.ref q_1, .ref q_2, .ref q_3, .ref q_4, .ref q_5, .ref q_6, .null, .int 0, .int 0, .int 0, .int 0, .int 0])), aI g q_1 121 (fun _ => 0), aI g q_2 10 (fun _ => 0), aI g q_3 10 (fun _ => 0), aI g q_4 10 (fun _ => 0), aI g q_5 10 (fun _ => 0), aI g q_6 8 (fun _ => 0)] H := hP
  have hD : va_D Z [(hζ, .inr (1, [.ref q_1, .ref q_2, .ref q_3, .ref q_4, .ref q_5, .ref q_6, .null, .int 0, .int 0, .int 0, .int 0, .int 0])), aI g q_1 121 (fun _ => 0), aI g q_2 10 (fun _ => 0), aI g q_3 10 (fun _ => 0), aI g q_4 10 (fun _ => 0), aI g q_5 10 (fun _ => 0), aI g q_6 8 (fun _ => 0)] := hD
  refine lv_aload_n hx hb dX1_init_52 rfl (lv_at hl 0 rfl) ?_
  refine lv_bipush (v := 8) hx hb dX1_init_53 (by decide) ?_
  refine r_newI (N' := 8) hx hb (hts (.arrayClass .int) (by decide +kernel)) hK hP hD hS hA (by decide) (nI_clamp (n := 8) (by decide)) (Nat.le_of_ble_eq_true rfl) (Nat.le_of_ble_eq_true rfl) (Nat.le_of_ble_eq_true rfl) dX1_init_55 (fun q_7 H hP hD hS => ?_)
  have hP : va_P g.1 vwCl [(hζ, .inr (1, [.ref q_1, .ref q_2, .ref q_3, .ref q_4, .ref q_5, .ref q_6, .null, .int 0, .int 0, .int 0, .int 0, .int 0])), aI g q_1 121 (fun _ => 0), aI g q_2 10 (fun _ => 0), aI g q_3 10 (fun _ => 0), aI g q_4 10 (fun _ => 0), aI g q_5 10 (fun _ => 0), aI g q_6 8 (fun _ => 0), aI g q_7 8 (fun _ => 0)] H := hP
  have hD : va_D Z [(hζ, .inr (1, [.ref q_1, .ref q_2, .ref q_3, .ref q_4, .ref q_5, .ref q_6, .null, .int 0, .int 0, .int 0, .int 0, .int 0])), aI g q_1 121 (fun _ => 0), aI g q_2 10 (fun _ => 0), aI g q_3 10 (fun _ => 0), aI g q_4 10 (fun _ => 0), aI g q_5 10 (fun _ => 0), aI g q_6 8 (fun _ => 0), aI g q_7 8 (fun _ => 0)] := hD
  refine W.widen (k := 7) (n := 177) (by decide) (by decide) ?_
  refine va_putF (D := g.1) (ci := 1) (v := .ref q_7) (ty := (.array .int)) (C := RX1) (T := TX1) (N := 12) hx hb hts hi1 tyX1 tyX1_ok nmX1 hown hK hP hD hS 0 rfl rfl 6 (by decide) (hts (.fieldLink RX1 30 "PanTales$Close" "sightTales" "[I") (by decide +kernel)) (fun _ h9 => h9) rfl hnm rfl (by decide +kernel) rfl rfl (Nat.le_of_ble_eq_true rfl) dX1_init_57 (fun H locs hP hD hS => ?_)
  have hP : va_P g.1 vwCl [(hζ, .inr (1, [.ref q_1, .ref q_2, .ref q_3, .ref q_4, .ref q_5, .ref q_6, .ref q_7, .int 0, .int 0, .int 0, .int 0, .int 0])), aI g q_1 121 (fun _ => 0), aI g q_2 10 (fun _ => 0), aI g q_3 10 (fun _ => 0), aI g q_4 10 (fun _ => 0), aI g q_5 10 (fun _ => 0), aI g q_6 8 (fun _ => 0), aI g q_7 8 (fun _ => 0)] H := hP
  have hD : va_D Z [(hζ, .inr (1, [.ref q_1, .ref q_2, .ref q_3, .ref q_4, .ref q_5, .ref q_6, .ref q_7, .int 0, .int 0, .int 0, .int 0, .int 0])), aI g q_1 121 (fun _ => 0), aI g q_2 10 (fun _ => 0), aI g q_3 10 (fun _ => 0), aI g q_4 10 (fun _ => 0), aI g q_5 10 (fun _ => 0), aI g q_6 8 (fun _ => 0), aI g q_7 8 (fun _ => 0)] := hD
  refine lv_aload_n hx hb dX1_init_60 rfl (lv_at hl 0 rfl) ?_
  refine lv_bipush (v := 10) hx hb dX1_init_61 (by decide) ?_
  refine va_put (D := g.1) (ci := 1) (v := .int 10) (ty := .int) (C := RX1) (T := TX1) (N := 12) hx hb hts hi1 tyX1 tyX1_ok nmX1 hown hK hP hD hS 0 rfl rfl 8 (by decide) (hts (.fieldLink RX1 33 "PanTales$Close" "place" "I") (by decide +kernel)) (fun _ h9 => h9) rfl (by decide +kernel) rfl rfl (Nat.le_of_ble_eq_true rfl) dX1_init_63 (fun H locs hP hD hS => ?_)
  have hP : va_P g.1 vwCl [(hζ, .inr (1, [.ref q_1, .ref q_2, .ref q_3, .ref q_4, .ref q_5, .ref q_6, .ref q_7, .int 0, .int 10, .int 0, .int 0, .int 0])), aI g q_1 121 (fun _ => 0), aI g q_2 10 (fun _ => 0), aI g q_3 10 (fun _ => 0), aI g q_4 10 (fun _ => 0), aI g q_5 10 (fun _ => 0), aI g q_6 8 (fun _ => 0), aI g q_7 8 (fun _ => 0)] H := hP
  have hD : va_D Z [(hζ, .inr (1, [.ref q_1, .ref q_2, .ref q_3, .ref q_4, .ref q_5, .ref q_6, .ref q_7, .int 0, .int 10, .int 0, .int 0, .int 0])), aI g q_1 121 (fun _ => 0), aI g q_2 10 (fun _ => 0), aI g q_3 10 (fun _ => 0), aI g q_4 10 (fun _ => 0), aI g q_5 10 (fun _ => 0), aI g q_6 8 (fun _ => 0), aI g q_7 8 (fun _ => 0)] := hD
  refine lv_aload_n hx hb dX1_init_66 rfl (lv_at hl 0 rfl) ?_
  refine va_get (D := g.1) (ci := 1) (v := .ref q_2) (C := RX1) (T := TX1) (N := 12) hx hb hts hi1 hown hK hP 0 rfl rfl 1 (by decide) (hts (.fieldLink RX1 15 "PanTales$Close" "doubts" "[I") (by decide +kernel)) (fun _ h9 => h9) rfl dX1_init_67 ?_
  refine lv_iconst (v := 5) hx hb dX1_init_70 (by decide) ?_
  refine gcS_v (As := [.ref q_2, .int 5]) (rest := []) F hK hN hP hD hS hA (c_J7_fill_53178 l g H.size q_2 10 (fun _ => 0) 5 (by decide)) gX1_init_J7_fill_53178 kJ7_fill_53178 rfl rfl rfl ⟨(Nat.le_of_ble_eq_true rfl), (Nat.le_of_ble_eq_true rfl)⟩ [2] [0, 1, 3, 4, 5, 6, 7] rfl rfl rfl (by decide) rfl rfl rfl hl.1 (Nat.le_of_ble_eq_true rfl) dX1_init_71 ⟨(Nat.le_of_ble_eq_true rfl), (Nat.le_of_ble_eq_true rfl)⟩ (fun u_w H locs hw hP hD hS => ?_)
  have hP : va_P g.1 vwCl [(hζ, .inr (1, [.ref q_1, .ref q_2, .ref q_3, .ref q_4, .ref q_5, .ref q_6, .ref q_7, .int 0, .int 10, .int 0, .int 0, .int 0])), aI g q_1 121 (fun _ => 0), aI g q_3 10 (fun _ => 0), aI g q_4 10 (fun _ => 0), aI g q_5 10 (fun _ => 0), aI g q_6 8 (fun _ => 0), aI g q_7 8 (fun _ => 0), aI g q_2 10 (fun _ => 5)] H := hP
  have hD : va_D Z [(hζ, .inr (1, [.ref q_1, .ref q_2, .ref q_3, .ref q_4, .ref q_5, .ref q_6, .ref q_7, .int 0, .int 10, .int 0, .int 0, .int 0])), aI g q_1 121 (fun _ => 0), aI g q_3 10 (fun _ => 0), aI g q_4 10 (fun _ => 0), aI g q_5 10 (fun _ => 0), aI g q_6 8 (fun _ => 0), aI g q_7 8 (fun _ => 0), aI g q_2 10 (fun _ => 5)] := hD
  refine lv_aload_n hx hb dX1_init_74 rfl (lv_at hl 0 rfl) ?_
  refine va_get (D := g.1) (ci := 1) (v := .ref q_4) (C := RX1) (T := TX1) (N := 12) hx hb hts hi1 hown hK hP 0 rfl rfl 3 (by decide) (hts (.fieldLink RX1 21 "PanTales$Close" "beliefs" "[I") (by decide +kernel)) (fun _ h9 => h9) rfl dX1_init_75 ?_
  refine lv_bipush (v := (-6)) hx hb dX1_init_78 (by decide) ?_
  refine gcS_v (As := [.ref q_4, .int (-6)]) (rest := []) F hK hN hP hD hS hA (c_J7_fill_53178 l g H.size q_4 10 (fun _ => 0) (-6) (by decide)) gX1_init_J7_fill_53178 kJ7_fill_53178 rfl rfl rfl ⟨(Nat.le_of_ble_eq_true rfl), (Nat.le_of_ble_eq_true rfl)⟩ [3] [0, 1, 2, 4, 5, 6, 7] rfl rfl rfl (by decide) rfl rfl rfl hl.1 (Nat.le_of_ble_eq_true rfl) dX1_init_80 ⟨(Nat.le_of_ble_eq_true rfl), (Nat.le_of_ble_eq_true rfl)⟩ (fun u_w H locs hw hP hD hS => ?_)
  have hP : va_P g.1 vwCl [(hζ, .inr (1, [.ref q_1, .ref q_2, .ref q_3, .ref q_4, .ref q_5, .ref q_6, .ref q_7, .int 0, .int 10, .int 0, .int 0, .int 0])), aI g q_1 121 (fun _ => 0), aI g q_3 10 (fun _ => 0), aI g q_5 10 (fun _ => 0), aI g q_6 8 (fun _ => 0), aI g q_7 8 (fun _ => 0), aI g q_2 10 (fun _ => 5), aI g q_4 10 (fun _ => (-6))] H := hP
  have hD : va_D Z [(hζ, .inr (1, [.ref q_1, .ref q_2, .ref q_3, .ref q_4, .ref q_5, .ref q_6, .ref q_7, .int 0, .int 10, .int 0, .int 0, .int 0])), aI g q_1 121 (fun _ => 0), aI g q_3 10 (fun _ => 0), aI g q_5 10 (fun _ => 0), aI g q_6 8 (fun _ => 0), aI g q_7 8 (fun _ => 0), aI g q_2 10 (fun _ => 5), aI g q_4 10 (fun _ => (-6))] := hD
  refine lv_iconst (v := 0) hx hb dX1_init_83 (by decide) ?_
  refine lv_istore_n (lv' := [(1, .int 0), (0, .ref hζ)]) hx hb dX1_init_84 rfl hl (by decide) rfl (fun ls hl => ?_)
  obtain ⟨hP, hD⟩ := r_extI hP hD 3 rfl (f' := fF (fun _ => 0) (fun j => nI j) 0) fF_0
  have hP : va_P g.1 vwCl [(hζ, .inr (1, [.ref q_1, .ref q_2, .ref q_3, .ref q_4, .ref q_5, .ref q_6, .ref q_7, .int 0, .int 10, .int 0, .int 0, .int 0])), aI g q_1 121 (fun _ => 0), aI g q_3 10 (fun _ => 0), aI g q_5 10 (fF (fun _ => 0) (fun j => nI j) 0), aI g q_6 8 (fun _ => 0), aI g q_7 8 (fun _ => 0), aI g q_2 10 (fun _ => 5), aI g q_4 10 (fun _ => (-6))] H := hP
  have hD : va_D Z [(hζ, .inr (1, [.ref q_1, .ref q_2, .ref q_3, .ref q_4, .ref q_5, .ref q_6, .ref q_7, .int 0, .int 10, .int 0, .int 0, .int 0])), aI g q_1 121 (fun _ => 0), aI g q_3 10 (fun _ => 0), aI g q_5 10 (fF (fun _ => 0) (fun j => nI j) 0), aI g q_6 8 (fun _ => 0), aI g q_7 8 (fun _ => 0), aI g q_2 10 (fun _ => 5), aI g q_4 10 (fun _ => (-6))] := hD
  refine gloop (σ := Nat) (fun u0 => 10 - u0) (fun u0 => u0 ≤ 10) (fun u0 => [(hζ, .inr (1, [.ref q_1, .ref q_2, .ref q_3, .ref q_4, .ref q_5, .ref q_6, .ref q_7, .int 0, .int 10, .int 0, .int 0, .int 0])), aI g q_1 121 (fun _ => 0), aI g q_3 10 (fun _ => 0), aI g q_5 10 (fF (fun _ => 0) (fun j => nI j) u0), aI g q_6 8 (fun _ => 0), aI g q_7 8 (fun _ => 0), aI g q_2 10 (fun _ => 5), aI g q_4 10 (fun _ => (-6))]) (fun u0 => [(1, .int (nI u0)), (0, .ref hζ)]) ?_ 0 (by first | omega | decide | rfl) (hP.sub [0, 1, 2, 3, 4, 5, 6, 7] rfl) (hD.sub [0, 1, 2, 3, 4, 5, 6, 7] (by decide) rfl) hS (lv_sub hl [0, 1] rfl)
  rintro iζ hiζ ih85 H locs ls hP hD hS hl
  have hiζ : iζ ≤ 10 := hiζ
  have hP : va_P g.1 vwCl [(hζ, .inr (1, [.ref q_1, .ref q_2, .ref q_3, .ref q_4, .ref q_5, .ref q_6, .ref q_7, .int 0, .int 10, .int 0, .int 0, .int 0])), aI g q_1 121 (fun _ => 0), aI g q_3 10 (fun _ => 0), aI g q_5 10 (fF (fun _ => 0) (fun j => nI j) iζ), aI g q_6 8 (fun _ => 0), aI g q_7 8 (fun _ => 0), aI g q_2 10 (fun _ => 5), aI g q_4 10 (fun _ => (-6))] H := hP
  have hD : va_D Z [(hζ, .inr (1, [.ref q_1, .ref q_2, .ref q_3, .ref q_4, .ref q_5, .ref q_6, .ref q_7, .int 0, .int 10, .int 0, .int 0, .int 0])), aI g q_1 121 (fun _ => 0), aI g q_3 10 (fun _ => 0), aI g q_5 10 (fF (fun _ => 0) (fun j => nI j) iζ), aI g q_6 8 (fun _ => 0), aI g q_7 8 (fun _ => 0), aI g q_2 10 (fun _ => 5), aI g q_4 10 (fun _ => (-6))] := hD
  have hl : lv_has ls 2 [(1, .int (nI iζ)), (0, .ref hζ)] := hl
  refine lv_iload_n hx hb dX1_init_85 rfl (lv_at hl 0 rfl) ?_
  refine lv_bipush (v := 10) hx hb dX1_init_86 (by decide) ?_
  refine lv_icmp_ge (tgt := 104) hx hb dX1_init_88 (by decide) (fun c_8 => ?_) (fun c_8 => ?_)
  · have c_8 : 10 ≤ iζ := (nI_leI (a := 10) (b := iζ) (by omega) (by omega)).mp c_8
    obtain ⟨hP, hD⟩ := r_extI hP hD 3 rfl (f' := (fun j => nI j)) (by intro j hj; exact fF_n j (by omega))
    have hP : va_P g.1 vwCl [(hζ, .inr (1, [.ref q_1, .ref q_2, .ref q_3, .ref q_4, .ref q_5, .ref q_6, .ref q_7, .int 0, .int 10, .int 0, .int 0, .int 0])), aI g q_1 121 (fun _ => 0), aI g q_3 10 (fun _ => 0), aI g q_5 10 (fun j => nI j), aI g q_6 8 (fun _ => 0), aI g q_7 8 (fun _ => 0), aI g q_2 10 (fun _ => 5), aI g q_4 10 (fun _ => (-6))] H := hP
    have hD : va_D Z [(hζ, .inr (1, [.ref q_1, .ref q_2, .ref q_3, .ref q_4, .ref q_5, .ref q_6, .ref q_7, .int 0, .int 10, .int 0, .int 0, .int 0])), aI g q_1 121 (fun _ => 0), aI g q_3 10 (fun _ => 0), aI g q_5 10 (fun j => nI j), aI g q_6 8 (fun _ => 0), aI g q_7 8 (fun _ => 0), aI g q_2 10 (fun _ => 5), aI g q_4 10 (fun _ => (-6))] := hD
    exact r_vret hx hb hr hlk hS (mkA [q_1, q_2, q_3, q_4, q_5, q_6, q_7]) trivial (hP.sub [0, 1, 6, 2, 7, 3, 4, 5] rfl) (hD.sub [0, 1, 6, 2, 7, 3, 4, 5] (by decide) rfl) dX1_init_104
  · have c_8 : ¬ 10 ≤ iζ := fun z => c_8 ((nI_leI (a := 10) (b := iζ) (by omega) (by omega)).mpr z)
    refine lv_aload_n hx hb dX1_init_91 rfl (lv_at hl 1 rfl) ?_
    refine va_get (D := g.1) (ci := 1) (v := .ref q_5) (C := RX1) (T := TX1) (N := 12) hx hb hts hi1 hown hK hP 0 rfl rfl 4 (by decide) (hts (.fieldLink RX1 24 "PanTales$Close" "fadings" "[I") (by decide +kernel)) (fun _ h9 => h9) rfl dX1_init_92 ?_
    refine lv_iload_n hx hb dX1_init_95 rfl (lv_at hl 0 rfl) ?_
    refine lv_iload_n hx hb dX1_init_96 rfl (lv_at hl 0 rfl) ?_
    refine r_iast (f' := fF (fun _ => 0) (fun j => nI j) (iζ + 1)) hx hb hK hP hD hS 3 rfl (vp_in_nI (n := iζ) (by omega) (by omega)) (fF_s (nI_clamp (n := iζ) (by omega)) rfl) dX1_init_97 (fun H locs hP hD hS => ?_)
    have hP : va_P g.1 vwCl [(hζ, .inr (1, [.ref q_1, .ref q_2, .ref q_3, .ref q_4, .ref q_5, .ref q_6, .ref q_7, .int 0, .int 10, .int 0, .int 0, .int 0])), aI g q_1 121 (fun _ => 0), aI g q_3 10 (fun _ => 0), aI g q_5 10 (fF (fun _ => 0) (fun j => nI j) (iζ + 1)), aI g q_6 8 (fun _ => 0), aI g q_7 8 (fun _ => 0), aI g q_2 10 (fun _ => 5), aI g q_4 10 (fun _ => (-6))] H := hP
    have hD : va_D Z [(hζ, .inr (1, [.ref q_1, .ref q_2, .ref q_3, .ref q_4, .ref q_5, .ref q_6, .ref q_7, .int 0, .int 10, .int 0, .int 0, .int 0])), aI g q_1 121 (fun _ => 0), aI g q_3 10 (fun _ => 0), aI g q_5 10 (fF (fun _ => 0) (fun j => nI j) (iζ + 1)), aI g q_6 8 (fun _ => 0), aI g q_7 8 (fun _ => 0), aI g q_2 10 (fun _ => 5), aI g q_4 10 (fun _ => (-6))] := hD
    refine lv_iinc (v := nI (iζ + 1)) (lv' := [(1, .int (nI (iζ + 1))), (0, .ref hζ)]) hx hb dX1_init_98 hl (k := 0) rfl (nI_1 iζ) (by decide) rfl (fun ls hl => ?_)
    refine lv_goto (tgt := 85) hx hb dX1_init_101 (by decide) ?_
    exact ih85 (iζ + 1) (by first | omega | (dsimp only; omega)) (by first | omega | (dsimp only; omega)) _ _ _ (hP.sub [0, 1, 2, 3, 4, 5, 6, 7] rfl) (hD.sub [0, 1, 2, 3, 4, 5, 6, 7] (by decide) rfl) hS (lv_sub hl [0, 1] rfl)
set_option maxHeartbeats 4000000 in
set_option maxRecDepth 100000 in
theorem c_X1_copyFrom (l : Launch) (g : GT) (sz : Nat) (hζ : Nat) (Aζ : Nat → Nat) (Iζ : Nat → Int32) (kζ : Nat) (Bζ : Nat → Nat) (Jζ : Nat → Int32) (g0ζ g1ζ g2ζ g3ζ g4ζ g5ζ g6ζ f0ζ f1ζ f2ζ f3ζ f4ζ f5ζ f6ζ : Nat → Int32) : Cv l yX1_copyFrom wsX1_copyFrom { frames := 1, cells := 0, slots := 0, locals := 80 } g sz [.ref hζ, .ref kζ] [(hζ, .inr (1, oC Aζ Iζ)), aI g (Aζ 0) 121 g0ζ, aI g (Aζ 1) 10 g1ζ, aI g (Aζ 2) 10 g2ζ, aI g (Aζ 3) 10 g3ζ, aI g (Aζ 4) 10 g4ζ, aI g (Aζ 5) 8 g5ζ, aI g (Aζ 6) 8 g6ζ, (kζ, .inr (1, oC Bζ Jζ)), aI g (Bζ 0) 121 f0ζ, aI g (Bζ 1) 10 f1ζ, aI g (Bζ 2) 10 f2ζ, aI g (Bζ 3) 10 f3ζ, aI g (Bζ 4) 10 f4ζ, aI g (Bζ 5) 8 f5ζ, aI g (Bζ 6) 8 f6ζ] [(hζ, .inr (1, oC Aζ Jζ)), aI g (Aζ 0) 121 f0ζ, aI g (Aζ 1) 10 f1ζ, aI g (Aζ 2) 10 f2ζ, aI g (Aζ 3) 10 f3ζ, aI g (Aζ 4) 10 f4ζ, aI g (Aζ 5) 8 f5ζ, aI g (Aζ 6) 8 f6ζ, (kζ, .inr (1, oC Bζ Jζ)), aI g (Bζ 0) 121 f0ζ, aI g (Bζ 1) 10 f1ζ, aI g (Bζ 2) 10 f2ζ, aI g (Bζ 3) 10 f3ζ, aI g (Bζ 4) 10 f4ζ, aI g (Bζ 5) 8 f5ζ, aI g (Bζ 6) 8 f6ζ] := by
  refine gMet_v (cc := cX1_copyFrom) (maxL := 2) (ret := none) (by decide) rfl (Nat.le_of_ble_eq_true rfl) ?_
  intro p e s m args below meth c Z hx hb hr F hlk hnm hK hN hA H locs hP hD hS ls hl
  have hl : lv_has ls 2 [(0, .ref hζ), (1, .ref kζ)] := hl
  have F : CallFix p m c cX1_copyFrom 2 s args wsX1_copyFrom RX1 := F
  have hts := F.2.2.2.2
  have hown : s.vm.findClass RX1 = some m.cls := F.2.2.2.1
  have hi1 : ∀ w ∈ u_ws RX1 TX1 12, w ∈ wsX1_copyFrom := by decide +kernel
  refine lv_aload_n hx hb dX1_copyFrom_0 rfl (lv_at hl 1 rfl) ?_
  refine va_get (D := g.1) (ci := 1) (v := .ref (Bζ 0)) (C := RX1) (T := TX1) (N := 12) hx hb hts hi1 hown hK hP 8 rfl rfl 0 (by decide) (hts (.fieldLink RX1 9 "PanTales$Close" "roads" "[I") (by decide +kernel)) (fun _ h9 => h9) rfl dX1_copyFrom_1 ?_
  refine lv_iconst (v := 0) hx hb dX1_copyFrom_4 (by decide) ?_
  refine lv_aload_n hx hb dX1_copyFrom_5 rfl (lv_at hl 0 rfl) ?_
  refine va_get (D := g.1) (ci := 1) (v := .ref (Aζ 0)) (C := RX1) (T := TX1) (N := 12) hx hb hts hi1 hown hK hP 0 rfl rfl 0 (by decide) (hts (.fieldLink RX1 9 "PanTales$Close" "roads" "[I") (by decide +kernel)) (fun _ h9 => h9) rfl dX1_copyFrom_6 ?_
  refine lv_iconst (v := 0) hx hb dX1_copyFrom_9 (by decide) ?_
  refine lv_bipush (v := 121) hx hb dX1_copyFrom_10 (by decide) ?_
  refine r_copyi hx hb (F.2.2.1.trans hl.1.symm) hown (hts (.methodLink RX1 43 arraycopyName) (by decide +kernel)) (hts (.native arraycopyName) (by decide +kernel)) (hts (.static arraycopyName) (by decide +kernel)) (hts (.initialized "java/lang/System") (by decide +kernel)) hK hP hD hS 9 1 rfl rfl (N := 121) (by decide) (nI_clamp (n := 121) (by decide)) (Nat.le_of_ble_eq_true rfl) (Nat.le_of_ble_eq_true rfl) dX1_copyFrom_12 (fun H locs hP hD hS => ?_)
  have hP : va_P g.1 vwCl [(hζ, .inr (1, oC Aζ Iζ)), aI g (Aζ 0) 121 f0ζ, aI g (Aζ 1) 10 g1ζ, aI g (Aζ 2) 10 g2ζ, aI g (Aζ 3) 10 g3ζ, aI g (Aζ 4) 10 g4ζ, aI g (Aζ 5) 8 g5ζ, aI g (Aζ 6) 8 g6ζ, (kζ, .inr (1, oC Bζ Jζ)), aI g (Bζ 0) 121 f0ζ, aI g (Bζ 1) 10 f1ζ, aI g (Bζ 2) 10 f2ζ, aI g (Bζ 3) 10 f3ζ, aI g (Bζ 4) 10 f4ζ, aI g (Bζ 5) 8 f5ζ, aI g (Bζ 6) 8 f6ζ] H := hP
  have hD : va_D Z [(hζ, .inr (1, oC Aζ Iζ)), aI g (Aζ 0) 121 f0ζ, aI g (Aζ 1) 10 g1ζ, aI g (Aζ 2) 10 g2ζ, aI g (Aζ 3) 10 g3ζ, aI g (Aζ 4) 10 g4ζ, aI g (Aζ 5) 8 g5ζ, aI g (Aζ 6) 8 g6ζ, (kζ, .inr (1, oC Bζ Jζ)), aI g (Bζ 0) 121 f0ζ, aI g (Bζ 1) 10 f1ζ, aI g (Bζ 2) 10 f2ζ, aI g (Bζ 3) 10 f3ζ, aI g (Bζ 4) 10 f4ζ, aI g (Bζ 5) 8 f5ζ, aI g (Bζ 6) 8 f6ζ] := hD
  refine lv_aload_n hx hb dX1_copyFrom_15 rfl (lv_at hl 1 rfl) ?_
  refine va_get (D := g.1) (ci := 1) (v := .ref (Bζ 1)) (C := RX1) (T := TX1) (N := 12) hx hb hts hi1 hown hK hP 8 rfl rfl 1 (by decide) (hts (.fieldLink RX1 15 "PanTales$Close" "doubts" "[I") (by decide +kernel)) (fun _ h9 => h9) rfl dX1_copyFrom_16 ?_
  refine lv_iconst (v := 0) hx hb dX1_copyFrom_19 (by decide) ?_
  refine lv_aload_n hx hb dX1_copyFrom_20 rfl (lv_at hl 0 rfl) ?_
  refine va_get (D := g.1) (ci := 1) (v := .ref (Aζ 1)) (C := RX1) (T := TX1) (N := 12) hx hb hts hi1 hown hK hP 0 rfl rfl 1 (by decide) (hts (.fieldLink RX1 15 "PanTales$Close" "doubts" "[I") (by decide +kernel)) (fun _ h9 => h9) rfl dX1_copyFrom_21 ?_
  refine lv_iconst (v := 0) hx hb dX1_copyFrom_24 (by decide) ?_
  refine lv_bipush (v := 10) hx hb dX1_copyFrom_25 (by decide) ?_
  refine r_copyi hx hb (F.2.2.1.trans hl.1.symm) hown (hts (.methodLink RX1 43 arraycopyName) (by decide +kernel)) (hts (.native arraycopyName) (by decide +kernel)) (hts (.static arraycopyName) (by decide +kernel)) (hts (.initialized "java/lang/System") (by decide +kernel)) hK hP hD hS 10 2 rfl rfl (N := 10) (by decide) (nI_clamp (n := 10) (by decide)) (Nat.le_of_ble_eq_true rfl) (Nat.le_of_ble_eq_true rfl) dX1_copyFrom_27 (fun H locs hP hD hS => ?_)
  have hP : va_P g.1 vwCl [(hζ, .inr (1, oC Aζ Iζ)), aI g (Aζ 0) 121 f0ζ, aI g (Aζ 1) 10 f1ζ, aI g (Aζ 2) 10 g2ζ, aI g (Aζ 3) 10 g3ζ, aI g (Aζ 4) 10 g4ζ, aI g (Aζ 5) 8 g5ζ, aI g (Aζ 6) 8 g6ζ, (kζ, .inr (1, oC Bζ Jζ)), aI g (Bζ 0) 121 f0ζ, aI g (Bζ 1) 10 f1ζ, aI g (Bζ 2) 10 f2ζ, aI g (Bζ 3) 10 f3ζ, aI g (Bζ 4) 10 f4ζ, aI g (Bζ 5) 8 f5ζ, aI g (Bζ 6) 8 f6ζ] H := hP
  have hD : va_D Z [(hζ, .inr (1, oC Aζ Iζ)), aI g (Aζ 0) 121 f0ζ, aI g (Aζ 1) 10 f1ζ, aI g (Aζ 2) 10 g2ζ, aI g (Aζ 3) 10 g3ζ, aI g (Aζ 4) 10 g4ζ, aI g (Aζ 5) 8 g5ζ, aI g (Aζ 6) 8 g6ζ, (kζ, .inr (1, oC Bζ Jζ)), aI g (Bζ 0) 121 f0ζ, aI g (Bζ 1) 10 f1ζ, aI g (Bζ 2) 10 f2ζ, aI g (Bζ 3) 10 f3ζ, aI g (Bζ 4) 10 f4ζ, aI g (Bζ 5) 8 f5ζ, aI g (Bζ 6) 8 f6ζ] := hD
  refine lv_aload_n hx hb dX1_copyFrom_30 rfl (lv_at hl 1 rfl) ?_
  refine va_get (D := g.1) (ci := 1) (v := .ref (Bζ 2)) (C := RX1) (T := TX1) (N := 12) hx hb hts hi1 hown hK hP 8 rfl rfl 2 (by decide) (hts (.fieldLink RX1 18 "PanTales$Close" "damps" "[I") (by decide +kernel)) (fun _ h9 => h9) rfl dX1_copyFrom_31 ?_
  refine lv_iconst (v := 0) hx hb dX1_copyFrom_34 (by decide) ?_
  refine lv_aload_n hx hb dX1_copyFrom_35 rfl (lv_at hl 0 rfl) ?_
  refine va_get (D := g.1) (ci := 1) (v := .ref (Aζ 2)) (C := RX1) (T := TX1) (N := 12) hx hb hts hi1 hown hK hP 0 rfl rfl 2 (by decide) (hts (.fieldLink RX1 18 "PanTales$Close" "damps" "[I") (by decide +kernel)) (fun _ h9 => h9) rfl dX1_copyFrom_36 ?_
  refine lv_iconst (v := 0) hx hb dX1_copyFrom_39 (by decide) ?_
  refine lv_bipush (v := 10) hx hb dX1_copyFrom_40 (by decide) ?_
  refine r_copyi hx hb (F.2.2.1.trans hl.1.symm) hown (hts (.methodLink RX1 43 arraycopyName) (by decide +kernel)) (hts (.native arraycopyName) (by decide +kernel)) (hts (.static arraycopyName) (by decide +kernel)) (hts (.initialized "java/lang/System") (by decide +kernel)) hK hP hD hS 11 3 rfl rfl (N := 10) (by decide) (nI_clamp (n := 10) (by decide)) (Nat.le_of_ble_eq_true rfl) (Nat.le_of_ble_eq_true rfl) dX1_copyFrom_42 (fun H locs hP hD hS => ?_)
  have hP : va_P g.1 vwCl [(hζ, .inr (1, oC Aζ Iζ)), aI g (Aζ 0) 121 f0ζ, aI g (Aζ 1) 10 f1ζ, aI g (Aζ 2) 10 f2ζ, aI g (Aζ 3) 10 g3ζ, aI g (Aζ 4) 10 g4ζ, aI g (Aζ 5) 8 g5ζ, aI g (Aζ 6) 8 g6ζ, (kζ, .inr (1, oC Bζ Jζ)), aI g (Bζ 0) 121 f0ζ, aI g (Bζ 1) 10 f1ζ, aI g (Bζ 2) 10 f2ζ, aI g (Bζ 3) 10 f3ζ, aI g (Bζ 4) 10 f4ζ, aI g (Bζ 5) 8 f5ζ, aI g (Bζ 6) 8 f6ζ] H := hP
  have hD : va_D Z [(hζ, .inr (1, oC Aζ Iζ)), aI g (Aζ 0) 121 f0ζ, aI g (Aζ 1) 10 f1ζ, aI g (Aζ 2) 10 f2ζ, aI g (Aζ 3) 10 g3ζ, aI g (Aζ 4) 10 g4ζ, aI g (Aζ 5) 8 g5ζ, aI g (Aζ 6) 8 g6ζ, (kζ, .inr (1, oC Bζ Jζ)), aI g (Bζ 0) 121 f0ζ, aI g (Bζ 1) 10 f1ζ, aI g (Bζ 2) 10 f2ζ, aI g (Bζ 3) 10 f3ζ, aI g (Bζ 4) 10 f4ζ, aI g (Bζ 5) 8 f5ζ, aI g (Bζ 6) 8 f6ζ] := hD
  refine lv_aload_n hx hb dX1_copyFrom_45 rfl (lv_at hl 1 rfl) ?_
  refine va_get (D := g.1) (ci := 1) (v := .ref (Bζ 3)) (C := RX1) (T := TX1) (N := 12) hx hb hts hi1 hown hK hP 8 rfl rfl 3 (by decide) (hts (.fieldLink RX1 21 "PanTales$Close" "beliefs" "[I") (by decide +kernel)) (fun _ h9 => h9) rfl dX1_copyFrom_46 ?_
  refine lv_iconst (v := 0) hx hb dX1_copyFrom_49 (by decide) ?_
  refine lv_aload_n hx hb dX1_copyFrom_50 rfl (lv_at hl 0 rfl) ?_
  refine va_get (D := g.1) (ci := 1) (v := .ref (Aζ 3)) (C := RX1) (T := TX1) (N := 12) hx hb hts hi1 hown hK hP 0 rfl rfl 3 (by decide) (hts (.fieldLink RX1 21 "PanTales$Close" "beliefs" "[I") (by decide +kernel)) (fun _ h9 => h9) rfl dX1_copyFrom_51 ?_
  refine lv_iconst (v := 0) hx hb dX1_copyFrom_54 (by decide) ?_
  refine lv_bipush (v := 10) hx hb dX1_copyFrom_55 (by decide) ?_
  refine r_copyi hx hb (F.2.2.1.trans hl.1.symm) hown (hts (.methodLink RX1 43 arraycopyName) (by decide +kernel)) (hts (.native arraycopyName) (by decide +kernel)) (hts (.static arraycopyName) (by decide +kernel)) (hts (.initialized "java/lang/System") (by decide +kernel)) hK hP hD hS 12 4 rfl rfl (N := 10) (by decide) (nI_clamp (n := 10) (by decide)) (Nat.le_of_ble_eq_true rfl) (Nat.le_of_ble_eq_true rfl) dX1_copyFrom_57 (fun H locs hP hD hS => ?_)
  have hP : va_P g.1 vwCl [(hζ, .inr (1, oC Aζ Iζ)), aI g (Aζ 0) 121 f0ζ, aI g (Aζ 1) 10 f1ζ, aI g (Aζ 2) 10 f2ζ, aI g (Aζ 3) 10 f3ζ, aI g (Aζ 4) 10 g4ζ, aI g (Aζ 5) 8 g5ζ, aI g (Aζ 6) 8 g6ζ, (kζ, .inr (1, oC Bζ Jζ)), aI g (Bζ 0) 121 f0ζ, aI g (Bζ 1) 10 f1ζ, aI g (Bζ 2) 10 f2ζ, aI g (Bζ 3) 10 f3ζ, aI g (Bζ 4) 10 f4ζ, aI g (Bζ 5) 8 f5ζ, aI g (Bζ 6) 8 f6ζ] H := hP
  have hD : va_D Z [(hζ, .inr (1, oC Aζ Iζ)), aI g (Aζ 0) 121 f0ζ, aI g (Aζ 1) 10 f1ζ, aI g (Aζ 2) 10 f2ζ, aI g (Aζ 3) 10 f3ζ, aI g (Aζ 4) 10 g4ζ, aI g (Aζ 5) 8 g5ζ, aI g (Aζ 6) 8 g6ζ, (kζ, .inr (1, oC Bζ Jζ)), aI g (Bζ 0) 121 f0ζ, aI g (Bζ 1) 10 f1ζ, aI g (Bζ 2) 10 f2ζ, aI g (Bζ 3) 10 f3ζ, aI g (Bζ 4) 10 f4ζ, aI g (Bζ 5) 8 f5ζ, aI g (Bζ 6) 8 f6ζ] := hD
  refine lv_aload_n hx hb dX1_copyFrom_60 rfl (lv_at hl 1 rfl) ?_
  refine va_get (D := g.1) (ci := 1) (v := .ref (Bζ 4)) (C := RX1) (T := TX1) (N := 12) hx hb hts hi1 hown hK hP 8 rfl rfl 4 (by decide) (hts (.fieldLink RX1 24 "PanTales$Close" "fadings" "[I") (by decide +kernel)) (fun _ h9 => h9) rfl dX1_copyFrom_61 ?_
  refine lv_iconst (v := 0) hx hb dX1_copyFrom_64 (by decide) ?_
  refine lv_aload_n hx hb dX1_copyFrom_65 rfl (lv_at hl 0 rfl) ?_
  refine va_get (D := g.1) (ci := 1) (v := .ref (Aζ 4)) (C := RX1) (T := TX1) (N := 12) hx hb hts hi1 hown hK hP 0 rfl rfl 4 (by decide) (hts (.fieldLink RX1 24 "PanTales$Close" "fadings" "[I") (by decide +kernel)) (fun _ h9 => h9) rfl dX1_copyFrom_66 ?_
  refine lv_iconst (v := 0) hx hb dX1_copyFrom_69 (by decide) ?_
  refine lv_bipush (v := 10) hx hb dX1_copyFrom_70 (by decide) ?_
  refine r_copyi hx hb (F.2.2.1.trans hl.1.symm) hown (hts (.methodLink RX1 43 arraycopyName) (by decide +kernel)) (hts (.native arraycopyName) (by decide +kernel)) (hts (.static arraycopyName) (by decide +kernel)) (hts (.initialized "java/lang/System") (by decide +kernel)) hK hP hD hS 13 5 rfl rfl (N := 10) (by decide) (nI_clamp (n := 10) (by decide)) (Nat.le_of_ble_eq_true rfl) (Nat.le_of_ble_eq_true rfl) dX1_copyFrom_72 (fun H locs hP hD hS => ?_)
  have hP : va_P g.1 vwCl [(hζ, .inr (1, oC Aζ Iζ)), aI g (Aζ 0) 121 f0ζ, aI g (Aζ 1) 10 f1ζ, aI g (Aζ 2) 10 f2ζ, aI g (Aζ 3) 10 f3ζ, aI g (Aζ 4) 10 f4ζ, aI g (Aζ 5) 8 g5ζ, aI g (Aζ 6) 8 g6ζ, (kζ, .inr (1, oC Bζ Jζ)), aI g (Bζ 0) 121 f0ζ, aI g (Bζ 1) 10 f1ζ, aI g (Bζ 2) 10 f2ζ, aI g (Bζ 3) 10 f3ζ, aI g (Bζ 4) 10 f4ζ, aI g (Bζ 5) 8 f5ζ, aI g (Bζ 6) 8 f6ζ] H := hP
  have hD : va_D Z [(hζ, .inr (1, oC Aζ Iζ)), aI g (Aζ 0) 121 f0ζ, aI g (Aζ 1) 10 f1ζ, aI g (Aζ 2) 10 f2ζ, aI g (Aζ 3) 10 f3ζ, aI g (Aζ 4) 10 f4ζ, aI g (Aζ 5) 8 g5ζ, aI g (Aζ 6) 8 g6ζ, (kζ, .inr (1, oC Bζ Jζ)), aI g (Bζ 0) 121 f0ζ, aI g (Bζ 1) 10 f1ζ, aI g (Bζ 2) 10 f2ζ, aI g (Bζ 3) 10 f3ζ, aI g (Bζ 4) 10 f4ζ, aI g (Bζ 5) 8 f5ζ, aI g (Bζ 6) 8 f6ζ] := hD
  refine lv_aload_n hx hb dX1_copyFrom_75 rfl (lv_at hl 1 rfl) ?_
  refine va_get (D := g.1) (ci := 1) (v := .ref (Bζ 5)) (C := RX1) (T := TX1) (N := 12) hx hb hts hi1 hown hK hP 8 rfl rfl 5 (by decide) (hts (.fieldLink RX1 27 "PanTales$Close" "sightBeds" "[I") (by decide +kernel)) (fun _ h9 => h9) rfl dX1_copyFrom_76 ?_
  refine lv_iconst (v := 0) hx hb dX1_copyFrom_79 (by decide) ?_
  refine lv_aload_n hx hb dX1_copyFrom_80 rfl (lv_at hl 0 rfl) ?_
  refine va_get (D := g.1) (ci := 1) (v := .ref (Aζ 5)) (C := RX1) (T := TX1) (N := 12) hx hb hts hi1 hown hK hP 0 rfl rfl 5 (by decide) (hts (.fieldLink RX1 27 "PanTales$Close" "sightBeds" "[I") (by decide +kernel)) (fun _ h9 => h9) rfl dX1_copyFrom_81 ?_
  refine lv_iconst (v := 0) hx hb dX1_copyFrom_84 (by decide) ?_
  refine lv_bipush (v := 8) hx hb dX1_copyFrom_85 (by decide) ?_
  refine r_copyi hx hb (F.2.2.1.trans hl.1.symm) hown (hts (.methodLink RX1 43 arraycopyName) (by decide +kernel)) (hts (.native arraycopyName) (by decide +kernel)) (hts (.static arraycopyName) (by decide +kernel)) (hts (.initialized "java/lang/System") (by decide +kernel)) hK hP hD hS 14 6 rfl rfl (N := 8) (by decide) (nI_clamp (n := 8) (by decide)) (Nat.le_of_ble_eq_true rfl) (Nat.le_of_ble_eq_true rfl) dX1_copyFrom_87 (fun H locs hP hD hS => ?_)
  have hP : va_P g.1 vwCl [(hζ, .inr (1, oC Aζ Iζ)), aI g (Aζ 0) 121 f0ζ, aI g (Aζ 1) 10 f1ζ, aI g (Aζ 2) 10 f2ζ, aI g (Aζ 3) 10 f3ζ, aI g (Aζ 4) 10 f4ζ, aI g (Aζ 5) 8 f5ζ, aI g (Aζ 6) 8 g6ζ, (kζ, .inr (1, oC Bζ Jζ)), aI g (Bζ 0) 121 f0ζ, aI g (Bζ 1) 10 f1ζ, aI g (Bζ 2) 10 f2ζ, aI g (Bζ 3) 10 f3ζ, aI g (Bζ 4) 10 f4ζ, aI g (Bζ 5) 8 f5ζ, aI g (Bζ 6) 8 f6ζ] H := hP
  have hD : va_D Z [(hζ, .inr (1, oC Aζ Iζ)), aI g (Aζ 0) 121 f0ζ, aI g (Aζ 1) 10 f1ζ, aI g (Aζ 2) 10 f2ζ, aI g (Aζ 3) 10 f3ζ, aI g (Aζ 4) 10 f4ζ, aI g (Aζ 5) 8 f5ζ, aI g (Aζ 6) 8 g6ζ, (kζ, .inr (1, oC Bζ Jζ)), aI g (Bζ 0) 121 f0ζ, aI g (Bζ 1) 10 f1ζ, aI g (Bζ 2) 10 f2ζ, aI g (Bζ 3) 10 f3ζ, aI g (Bζ 4) 10 f4ζ, aI g (Bζ 5) 8 f5ζ, aI g (Bζ 6) 8 f6ζ] := hD
  refine lv_aload_n hx hb dX1_copyFrom_90 rfl (lv_at hl 1 rfl) ?_
  refine va_get (D := g.1) (ci := 1) (v := .ref (Bζ 6)) (C := RX1) (T := TX1) (N := 12) hx hb hts hi1 hown hK hP 8 rfl rfl 6 (by decide) (hts (.fieldLink RX1 30 "PanTales$Close" "sightTales" "[I") (by decide +kernel)) (fun _ h9 => h9) rfl dX1_copyFrom_91 ?_
  refine lv_iconst (v := 0) hx hb dX1_copyFrom_94 (by decide) ?_
  refine lv_aload_n hx hb dX1_copyFrom_95 rfl (lv_at hl 0 rfl) ?_
  refine va_get (D := g.1) (ci := 1) (v := .ref (Aζ 6)) (C := RX1) (T := TX1) (N := 12) hx hb hts hi1 hown hK hP 0 rfl rfl 6 (by decide) (hts (.fieldLink RX1 30 "PanTales$Close" "sightTales" "[I") (by decide +kernel)) (fun _ h9 => h9) rfl dX1_copyFrom_96 ?_
  refine lv_iconst (v := 0) hx hb dX1_copyFrom_99 (by decide) ?_
  refine lv_bipush (v := 8) hx hb dX1_copyFrom_100 (by decide) ?_
  refine r_copyi hx hb (F.2.2.1.trans hl.1.symm) hown (hts (.methodLink RX1 43 arraycopyName) (by decide +kernel)) (hts (.native arraycopyName) (by decide +kernel)) (hts (.static arraycopyName) (by decide +kernel)) (hts (.initialized "java/lang/System") (by decide +kernel)) hK hP hD hS 15 7 rfl rfl (N := 8) (by decide) (nI_clamp (n := 8) (by decide)) (Nat.le_of_ble_eq_true rfl) (Nat.le_of_ble_eq_true rfl) dX1_copyFrom_102 (fun H locs hP hD hS => ?_)
  have hP : va_P g.1 vwCl [(hζ, .inr (1, oC Aζ Iζ)), aI g (Aζ 0) 121 f0ζ, aI g (Aζ 1) 10 f1ζ, aI g (Aζ 2) 10 f2ζ, aI g (Aζ 3) 10 f3ζ, aI g (Aζ 4) 10 f4ζ, aI g (Aζ 5) 8 f5ζ, aI g (Aζ 6) 8 f6ζ, (kζ, .inr (1, oC Bζ Jζ)), aI g (Bζ 0) 121 f0ζ, aI g (Bζ 1) 10 f1ζ, aI g (Bζ 2) 10 f2ζ, aI g (Bζ 3) 10 f3ζ, aI g (Bζ 4) 10 f4ζ, aI g (Bζ 5) 8 f5ζ, aI g (Bζ 6) 8 f6ζ] H := hP
  have hD : va_D Z [(hζ, .inr (1, oC Aζ Iζ)), aI g (Aζ 0) 121 f0ζ, aI g (Aζ 1) 10 f1ζ, aI g (Aζ 2) 10 f2ζ, aI g (Aζ 3) 10 f3ζ, aI g (Aζ 4) 10 f4ζ, aI g (Aζ 5) 8 f5ζ, aI g (Aζ 6) 8 f6ζ, (kζ, .inr (1, oC Bζ Jζ)), aI g (Bζ 0) 121 f0ζ, aI g (Bζ 1) 10 f1ζ, aI g (Bζ 2) 10 f2ζ, aI g (Bζ 3) 10 f3ζ, aI g (Bζ 4) 10 f4ζ, aI g (Bζ 5) 8 f5ζ, aI g (Bζ 6) 8 f6ζ] := hD
  refine lv_aload_n hx hb dX1_copyFrom_105 rfl (lv_at hl 0 rfl) ?_
  refine lv_aload_n hx hb dX1_copyFrom_106 rfl (lv_at hl 1 rfl) ?_
  refine va_get (D := g.1) (ci := 1) (v := .int (Jζ 7)) (C := RX1) (T := TX1) (N := 12) hx hb hts hi1 hown hK hP 8 rfl rfl 7 (by decide) (hts (.fieldLink RX1 49 "PanTales$Close" "sights" "I") (by decide +kernel)) (fun _ h9 => h9) rfl dX1_copyFrom_107 ?_
  refine va_put (D := g.1) (ci := 1) (v := .int (Jζ 7)) (ty := .int) (C := RX1) (T := TX1) (N := 12) hx hb hts hi1 tyX1 tyX1_ok nmX1 hown hK hP hD hS 0 rfl rfl 7 (by decide) (hts (.fieldLink RX1 49 "PanTales$Close" "sights" "I") (by decide +kernel)) (fun _ h9 => h9) rfl (by decide +kernel) rfl rfl (Nat.le_of_ble_eq_true rfl) dX1_copyFrom_110 (fun H locs hP hD hS => ?_)
  have hP : va_P g.1 vwCl [(hζ, .inr (1, oC Aζ (upd Iζ 7 (Jζ 7)))), aI g (Aζ 0) 121 f0ζ, aI g (Aζ 1) 10 f1ζ, aI g (Aζ 2) 10 f2ζ, aI g (Aζ 3) 10 f3ζ, aI g (Aζ 4) 10 f4ζ, aI g (Aζ 5) 8 f5ζ, aI g (Aζ 6) 8 f6ζ, (kζ, .inr (1, oC Bζ Jζ)), aI g (Bζ 0) 121 f0ζ, aI g (Bζ 1) 10 f1ζ, aI g (Bζ 2) 10 f2ζ, aI g (Bζ 3) 10 f3ζ, aI g (Bζ 4) 10 f4ζ, aI g (Bζ 5) 8 f5ζ, aI g (Bζ 6) 8 f6ζ] H := hP
  have hD : va_D Z [(hζ, .inr (1, oC Aζ (upd Iζ 7 (Jζ 7)))), aI g (Aζ 0) 121 f0ζ, aI g (Aζ 1) 10 f1ζ, aI g (Aζ 2) 10 f2ζ, aI g (Aζ 3) 10 f3ζ, aI g (Aζ 4) 10 f4ζ, aI g (Aζ 5) 8 f5ζ, aI g (Aζ 6) 8 f6ζ, (kζ, .inr (1, oC Bζ Jζ)), aI g (Bζ 0) 121 f0ζ, aI g (Bζ 1) 10 f1ζ, aI g (Bζ 2) 10 f2ζ, aI g (Bζ 3) 10 f3ζ, aI g (Bζ 4) 10 f4ζ, aI g (Bζ 5) 8 f5ζ, aI g (Bζ 6) 8 f6ζ] := hD
  refine lv_aload_n hx hb dX1_copyFrom_113 rfl (lv_at hl 0 rfl) ?_
  refine lv_aload_n hx hb dX1_copyFrom_114 rfl (lv_at hl 1 rfl) ?_
  refine va_get (D := g.1) (ci := 1) (v := .int (Jζ 8)) (C := RX1) (T := TX1) (N := 12) hx hb hts hi1 hown hK hP 8 rfl rfl 8 (by decide) (hts (.fieldLink RX1 33 "PanTales$Close" "place" "I") (by decide +kernel)) (fun _ h9 => h9) rfl dX1_copyFrom_115 ?_
  refine va_put (D := g.1) (ci := 1) (v := .int (Jζ 8)) (ty := .int) (C := RX1) (T := TX1) (N := 12) hx hb hts hi1 tyX1 tyX1_ok nmX1 hown hK hP hD hS 0 rfl rfl 8 (by decide) (hts (.fieldLink RX1 33 "PanTales$Close" "place" "I") (by decide +kernel)) (fun _ h9 => h9) rfl (by decide +kernel) rfl rfl (Nat.le_of_ble_eq_true rfl) dX1_copyFrom_118 (fun H locs hP hD hS => ?_)
  have hP : va_P g.1 vwCl [(hζ, .inr (1, oC Aζ (upd (upd Iζ 7 (Jζ 7)) 8 (Jζ 8)))), aI g (Aζ 0) 121 f0ζ, aI g (Aζ 1) 10 f1ζ, aI g (Aζ 2) 10 f2ζ, aI g (Aζ 3) 10 f3ζ, aI g (Aζ 4) 10 f4ζ, aI g (Aζ 5) 8 f5ζ, aI g (Aζ 6) 8 f6ζ, (kζ, .inr (1, oC Bζ Jζ)), aI g (Bζ 0) 121 f0ζ, aI g (Bζ 1) 10 f1ζ, aI g (Bζ 2) 10 f2ζ, aI g (Bζ 3) 10 f3ζ, aI g (Bζ 4) 10 f4ζ, aI g (Bζ 5) 8 f5ζ, aI g (Bζ 6) 8 f6ζ] H := hP
  have hD : va_D Z [(hζ, .inr (1, oC Aζ (upd (upd Iζ 7 (Jζ 7)) 8 (Jζ 8)))), aI g (Aζ 0) 121 f0ζ, aI g (Aζ 1) 10 f1ζ, aI g (Aζ 2) 10 f2ζ, aI g (Aζ 3) 10 f3ζ, aI g (Aζ 4) 10 f4ζ, aI g (Aζ 5) 8 f5ζ, aI g (Aζ 6) 8 f6ζ, (kζ, .inr (1, oC Bζ Jζ)), aI g (Bζ 0) 121 f0ζ, aI g (Bζ 1) 10 f1ζ, aI g (Bζ 2) 10 f2ζ, aI g (Bζ 3) 10 f3ζ, aI g (Bζ 4) 10 f4ζ, aI g (Bζ 5) 8 f5ζ, aI g (Bζ 6) 8 f6ζ] := hD
  refine lv_aload_n hx hb dX1_copyFrom_121 rfl (lv_at hl 0 rfl) ?_
  refine lv_aload_n hx hb dX1_copyFrom_122 rfl (lv_at hl 1 rfl) ?_
  refine va_get (D := g.1) (ci := 1) (v := .int (Jζ 9)) (C := RX1) (T := TX1) (N := 12) hx hb hts hi1 hown hK hP 8 rfl rfl 9 (by decide) (hts (.fieldLink RX1 52 "PanTales$Close" "heat" "I") (by decide +kernel)) (fun _ h9 => h9) rfl dX1_copyFrom_123 ?_
  refine va_put (D := g.1) (ci := 1) (v := .int (Jζ 9)) (ty := .int) (C := RX1) (T := TX1) (N := 12) hx hb hts hi1 tyX1 tyX1_ok nmX1 hown hK hP hD hS 0 rfl rfl 9 (by decide) (hts (.fieldLink RX1 52 "PanTales$Close" "heat" "I") (by decide +kernel)) (fun _ h9 => h9) rfl (by decide +kernel) rfl rfl (Nat.le_of_ble_eq_true rfl) dX1_copyFrom_126 (fun H locs hP hD hS => ?_)
  have hP : va_P g.1 vwCl [(hζ, .inr (1, oC Aζ (upd (upd (upd Iζ 7 (Jζ 7)) 8 (Jζ 8)) 9 (Jζ 9)))), aI g (Aζ 0) 121 f0ζ, aI g (Aζ 1) 10 f1ζ, aI g (Aζ 2) 10 f2ζ, aI g (Aζ 3) 10 f3ζ, aI g (Aζ 4) 10 f4ζ, aI g (Aζ 5) 8 f5ζ, aI g (Aζ 6) 8 f6ζ, (kζ, .inr (1, oC Bζ Jζ)), aI g (Bζ 0) 121 f0ζ, aI g (Bζ 1) 10 f1ζ, aI g (Bζ 2) 10 f2ζ, aI g (Bζ 3) 10 f3ζ, aI g (Bζ 4) 10 f4ζ, aI g (Bζ 5) 8 f5ζ, aI g (Bζ 6) 8 f6ζ] H := hP
  have hD : va_D Z [(hζ, .inr (1, oC Aζ (upd (upd (upd Iζ 7 (Jζ 7)) 8 (Jζ 8)) 9 (Jζ 9)))), aI g (Aζ 0) 121 f0ζ, aI g (Aζ 1) 10 f1ζ, aI g (Aζ 2) 10 f2ζ, aI g (Aζ 3) 10 f3ζ, aI g (Aζ 4) 10 f4ζ, aI g (Aζ 5) 8 f5ζ, aI g (Aζ 6) 8 f6ζ, (kζ, .inr (1, oC Bζ Jζ)), aI g (Bζ 0) 121 f0ζ, aI g (Bζ 1) 10 f1ζ, aI g (Bζ 2) 10 f2ζ, aI g (Bζ 3) 10 f3ζ, aI g (Bζ 4) 10 f4ζ, aI g (Bζ 5) 8 f5ζ, aI g (Bζ 6) 8 f6ζ] := hD
  refine lv_aload_n hx hb dX1_copyFrom_129 rfl (lv_at hl 0 rfl) ?_
  refine lv_aload_n hx hb dX1_copyFrom_130 rfl (lv_at hl 1 rfl) ?_
  refine va_get (D := g.1) (ci := 1) (v := .int (Jζ 10)) (C := RX1) (T := TX1) (N := 12) hx hb hts hi1 hown hK hP 8 rfl rfl 10 (by decide) (hts (.fieldLink RX1 55 "PanTales$Close" "tale" "I") (by decide +kernel)) (fun _ h9 => h9) rfl dX1_copyFrom_131 ?_
  refine va_put (D := g.1) (ci := 1) (v := .int (Jζ 10)) (ty := .int) (C := RX1) (T := TX1) (N := 12) hx hb hts hi1 tyX1 tyX1_ok nmX1 hown hK hP hD hS 0 rfl rfl 10 (by decide) (hts (.fieldLink RX1 55 "PanTales$Close" "tale" "I") (by decide +kernel)) (fun _ h9 => h9) rfl (by decide +kernel) rfl rfl (Nat.le_of_ble_eq_true rfl) dX1_copyFrom_134 (fun H locs hP hD hS => ?_)
  have hP : va_P g.1 vwCl [(hζ, .inr (1, oC Aζ (upd (upd (upd (upd Iζ 7 (Jζ 7)) 8 (Jζ 8)) 9 (Jζ 9)) 10 (Jζ 10)))), aI g (Aζ 0) 121 f0ζ, aI g (Aζ 1) 10 f1ζ, aI g (Aζ 2) 10 f2ζ, aI g (Aζ 3) 10 f3ζ, aI g (Aζ 4) 10 f4ζ, aI g (Aζ 5) 8 f5ζ, aI g (Aζ 6) 8 f6ζ, (kζ, .inr (1, oC Bζ Jζ)), aI g (Bζ 0) 121 f0ζ, aI g (Bζ 1) 10 f1ζ, aI g (Bζ 2) 10 f2ζ, aI g (Bζ 3) 10 f3ζ, aI g (Bζ 4) 10 f4ζ, aI g (Bζ 5) 8 f5ζ, aI g (Bζ 6) 8 f6ζ] H := hP
  have hD : va_D Z [(hζ, .inr (1, oC Aζ (upd (upd (upd (upd Iζ 7 (Jζ 7)) 8 (Jζ 8)) 9 (Jζ 9)) 10 (Jζ 10)))), aI g (Aζ 0) 121 f0ζ, aI g (Aζ 1) 10 f1ζ, aI g (Aζ 2) 10 f2ζ, aI g (Aζ 3) 10 f3ζ, aI g (Aζ 4) 10 f4ζ, aI g (Aζ 5) 8 f5ζ, aI g (Aζ 6) 8 f6ζ, (kζ, .inr (1, oC Bζ Jζ)), aI g (Bζ 0) 121 f0ζ, aI g (Bζ 1) 10 f1ζ, aI g (Bζ 2) 10 f2ζ, aI g (Bζ 3) 10 f3ζ, aI g (Bζ 4) 10 f4ζ, aI g (Bζ 5) 8 f5ζ, aI g (Bζ 6) 8 f6ζ] := hD
  refine lv_aload_n hx hb dX1_copyFrom_137 rfl (lv_at hl 0 rfl) ?_
  refine lv_aload_n hx hb dX1_copyFrom_138 rfl (lv_at hl 1 rfl) ?_
  refine va_get (D := g.1) (ci := 1) (v := .int (Jζ 11)) (C := RX1) (T := TX1) (N := 12) hx hb hts hi1 hown hK hP 8 rfl rfl 11 (by decide) (hts (.fieldLink RX1 58 "PanTales$Close" "mornings" "I") (by decide +kernel)) (fun _ h9 => h9) rfl dX1_copyFrom_139 ?_
  refine va_put (D := g.1) (ci := 1) (v := .int (Jζ 11)) (ty := .int) (C := RX1) (T := TX1) (N := 12) hx hb hts hi1 tyX1 tyX1_ok nmX1 hown hK hP hD hS 0 rfl rfl 11 (by decide) (hts (.fieldLink RX1 58 "PanTales$Close" "mornings" "I") (by decide +kernel)) (fun _ h9 => h9) rfl (by decide +kernel) rfl rfl (Nat.le_of_ble_eq_true rfl) dX1_copyFrom_142 (fun H locs hP hD hS => ?_)
  have hP : va_P g.1 vwCl [(hζ, .inr (1, oC Aζ (upd (upd (upd (upd (upd Iζ 7 (Jζ 7)) 8 (Jζ 8)) 9 (Jζ 9)) 10 (Jζ 10)) 11 (Jζ 11)))), aI g (Aζ 0) 121 f0ζ, aI g (Aζ 1) 10 f1ζ, aI g (Aζ 2) 10 f2ζ, aI g (Aζ 3) 10 f3ζ, aI g (Aζ 4) 10 f4ζ, aI g (Aζ 5) 8 f5ζ, aI g (Aζ 6) 8 f6ζ, (kζ, .inr (1, oC Bζ Jζ)), aI g (Bζ 0) 121 f0ζ, aI g (Bζ 1) 10 f1ζ, aI g (Bζ 2) 10 f2ζ, aI g (Bζ 3) 10 f3ζ, aI g (Bζ 4) 10 f4ζ, aI g (Bζ 5) 8 f5ζ, aI g (Bζ 6) 8 f6ζ] H := hP
  have hD : va_D Z [(hζ, .inr (1, oC Aζ (upd (upd (upd (upd (upd Iζ 7 (Jζ 7)) 8 (Jζ 8)) 9 (Jζ 9)) 10 (Jζ 10)) 11 (Jζ 11)))), aI g (Aζ 0) 121 f0ζ, aI g (Aζ 1) 10 f1ζ, aI g (Aζ 2) 10 f2ζ, aI g (Aζ 3) 10 f3ζ, aI g (Aζ 4) 10 f4ζ, aI g (Aζ 5) 8 f5ζ, aI g (Aζ 6) 8 f6ζ, (kζ, .inr (1, oC Bζ Jζ)), aI g (Bζ 0) 121 f0ζ, aI g (Bζ 1) 10 f1ζ, aI g (Bζ 2) 10 f2ζ, aI g (Bζ 3) 10 f3ζ, aI g (Bζ 4) 10 f4ζ, aI g (Bζ 5) 8 f5ζ, aI g (Bζ 6) 8 f6ζ] := hD
  exact r_vret hx hb hr hlk hS () trivial (hP.sub [0, 1, 2, 3, 4, 5, 6, 7, 8, 9, 10, 11, 12, 13, 14, 15] rfl) (hD.sub [0, 1, 2, 3, 4, 5, 6, 7, 8, 9, 10, 11, 12, 13, 14, 15] (by decide) rfl) dX1_copyFrom_145

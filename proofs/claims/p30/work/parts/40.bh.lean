/-! the law's segments: one house, seventeen beds, then damp -/
section SEG7
variable {d e f n : Nat → Int → Int} {L : Nat} {xs : Nat → Int32} {σC σD σP σN σW σY σK σH σE : qS} {ℓK κ : qL} {step tens bel reached w t h house doubt : Int}
theorem p_has (s : Int32) {i : Int} (h0 : 0 ≤ i) (h1 : i < 32) : f_L_has s (zI i) = some (if bi s i = true then (1 : Int32) else 0) := by
  unfold f_L_has
  simp only [t_bit s h0 h1]
  by_cases c : bi s i = true
  · rw [if_pos c, if_pos c]
  · rw [if_neg c, if_neg c]
theorem bsR_can {h : Int} : ∀ n : Nat, bsR d h n = 0 ∨ canR d h (bsR d h n) = true := by
  intro n
  induction n with
  | zero => exact Or.inl rfl
  | succ n ih =>
    unfold bsR
    by_cases c : n = 0
    · rw [if_pos c]; exact Or.inl rfl
    · rw [if_neg c]
      by_cases c2 : canR d h n = true ∧ ¬ onz (zI n) ≤ onz (zI (bsR d h n))
      · rw [if_pos c2]; exact Or.inr c2.1
      · rw [if_neg c2]; exact ih
/-- the best set is dry -/
theorem bsR_dry {h : Int} {i : Int} (h0 : 0 ≤ i) (h1 : i ≤ 9) (hw : d 2 i = 1) : ¬ bi (zI (bsR d h 1024)) i = true := by
  have hb := (bsR_b (d := d) (h := h) 1024 (by omega)).1
  rw [bi_z (by omega) (by omega) h0, Int.toNat_natCast]
  intro hi
  rcases bsR_can (d := d) (h := h) 1024 with z | z
  · rw [z, Nat.zero_testBit] at hi; exact absurd hi (by decide)
  · obtain ⟨l, l1, l2⟩ := canR_t.mp z
    have := can_dry _ hb l l1 l2 i.toNat hi (by omega)
    rw [Int.toNat_of_nonneg h0] at this
    omega
theorem spl_house {tale tens : Int} {e : Nat → Int → Int} (hs : spl e [(0, tale, tens)] 0 (e 99 1)) (he : okp e) (hh : 0 ≤ house ∧ house ≤ 9) (h3 : e 99 1 = 3) : f_X6_say (eC e) (zI (65 + house)) = some (zI 4, eC (sy e (65 + house))) ∧ okp (sy e (65 + house)) ∧ sy e (65 + house) 99 1 = 4 ∧ spl (sy e (65 + house)) (hNight tale tens house 0) 0 (sy e (65 + house) 99 1) := by
  obtain ⟨k1, k2⟩ := kd_h hh.1 hh.2
  obtain ⟨q1, q2, q3, q4⟩ := say_one he hs (c := 65 + house) (by omega) (by omega) k1 (by omega) (by omega)
  rw [k2] at q4
  exact ⟨by rw [q1, h3]; rfl, q2, by omega, q4⟩
theorem t_1210 (hL : L ≤ 260) (hB : bsS d) (hf : okd f) (he : clr e) (hh : 0 ≤ house ∧ house ≤ 9) (hr : d 0 (10 * 11 + house) = 9) (hdb : d 1 house = doubt) (d0 : 0 ≤ doubt ∧ doubt ≤ 9) (hd3 : d 3 house = -6) (hN : nmS step tens bel reached) :
    oK Q1 (g_1210 L xs (eC d) (eC f) (eC e) (eC n) σW σY σK ℓK σH (zI step) (zI tens) (zI bel) (zI reached) (zI house) (zI doubt)) := by
  obtain ⟨hd, b7, b8, b4, b11⟩ := hB
  obtain ⟨p1, p2⟩ := p_house hd hh.1 hh.2 (v := 0) (w := 1) (by omega) (by omega) (by omega) (by omega)
  obtain ⟨q1, q2, q3, q4, q5, q6⟩ := say_fill he (w := 3) (t := 9) (by omega) (by omega) (by omega) (by omega)
  rw [show (48 + 3 : Int) = 51 from rfl, show (48 + 9 : Int) = 57 from rfl] at *
  obtain ⟨s1, s2, s3, s4⟩ := spl_house q6 q4 hh q5
  have e51 : (51 : Int32) = zI 51 := by decide
  have e57 : (57 : Int32) = zI 57 := by decide
  unfold g_1210
  rw [z_0, z_1, p1, s_cl, hdb]
  dsimp only
  rw [if_pos rfl, z_99]
  refine ok_cl (y_round p2 (by omega) (by omega) (by omega) (by omega) σW σH) (fun y hy => ?_)
  have hy' : y.1 = zI (bsR (fur d house 0 1) 99 1024) := hy
  rw [hy', p_has _ hh.1 (by omega), s_cl, if_neg (bsR_dry hh.1 hh.2 fur_2), z_0, if_pos rfl, z_61, q1, s_cl]
  dsimp only
  rw [if_pos rfl, e51, q2, s_cl, z_2]
  dsimp only
  rw [if_pos rfl, e57, q3, s_cl, z_3]
  dsimp only
  rw [if_pos rfl, z_65, z_add, s1, s_cl, z_4]
  dsimp only
  rw [if_pos rfl]
  exact t_1283 hL ⟨p2, by rw [fur_ne _ _ (by omega)]; exact b7, by rw [fur_ne _ _ (by omega)]; exact b8, fun k k0 k1 => by rw [fur_ne _ _ (by omega)]; exact b4 k k0 k1, by rw [fur_ne _ _ (by omega)]; exact b11⟩ hf s2 s3 s4 hh (by rw [fur_ne _ _ (by omega)]; exact hr) fur_2 fur_1 (by rw [fur_ne _ _ (by omega)]; exact hd3) hN
theorem t_1155 (hL : L ≤ 260) (hB : bsS d) (hf : okd f) (he : okp e) (h21 : e 99 1 = 21) (hs : spl e (hNight 3 9 house 17) 0 (e 99 1)) (hc : can (hNight 3 9 house 17) d) (g9 : goD (hNight 3 9 house 17) d 99 9 = 0) (g8 : goD (hNight 3 9 house 17) d 99 8 = house) (hh : 0 ≤ house ∧ house ≤ 9) (hr : d 0 (10 * 11 + house) = 9) (hdb : d 1 house = doubt) (d0 : 0 ≤ doubt ∧ doubt ≤ 9) (hd3 : d 3 house = -6) (hN : nmS step tens bel reached) :
    oK Q1 (g_1155 L xs (eC d) (eC f) (eC e) (eC n) σW σY σK ℓK σH (zI step) (zI tens) (zI 21) (zI 0) (zI bel) (zI reached) (zI house) (zI doubt) (zI 1)) := by
  have hB' := hB
  obtain ⟨hd, b7, b8, b4, b11⟩ := hB
  obtain ⟨q1, q2, q3, q4⟩ := say_one he hs (c := 42) (by omega) (by omega) kd_42 (by omega) (by omega)
  rw [pl_42] at q4
  have hrs : rsn (goD (hNight 3 9 house 17) d) 2 (-6) = 3 := by rw [rsn_2, g8, if_neg (by omega), g9, if_pos (by omega)]
  have ju := fun n f hf => p_judge_st (n := n) (f := f) q2 hd hf (l := hNight 3 9 house 17) (x := (2, -6, 0)) q4 hc (by dsimp only; rw [hrs]; omega)
  obtain ⟨f1, ⟨n1, j1⟩, -⟩ := ju n f hf
  obtain ⟨f2, -, ⟨n2, j2⟩⟩ := ju n1 _ f1
  dsimp only at j2
  rw [hrs] at j2
  rw [hN_len] at j1
  unfold g_1155
  rw [z_0, if_neg n10, if_pos rfl, z_42, q1, s_cl, h21, z_1, z_add, z_19, z_3]
  dsimp only
  rw [if_pos rfl, j1, s_cl]
  dsimp only
  rw [if_pos (congrArg zI (by first | omega | rfl | (simp; done))), j2, s_cl]
  dsimp only
  rw [if_pos rfl, p_wipe q2, s_cl, q3, h21]
  dsimp only
  rw [if_pos rfl]
  exact t_1210 hL hB' f2 (clr_ud q2) hh hr hdb d0 hd3 hN
/-- so many beds in one dry house -/
def dryB (d : Nat → Int → Int) (house : Int) (i x v su : Int) : Prop :=
  can (hNight 3 9 house i.toNat) d ∧ goD (hNight 3 9 house i.toNat) d 99 9 = x ∧ goD (hNight 3 9 house i.toNat) d 99 8 = house ∧ goD (hNight 3 9 house i.toNat) d 99 10 = 3 ∧ goD (hNight 3 9 house i.toNat) d 2 house = 0 ∧ goD (hNight 3 9 house i.toNat) d 1 house = v ∧ (0 ≤ v ∧ v ≤ 9) ∧ ((su = 0 ∧ goD (hNight 3 9 house i.toNat) d 3 house = -6) ∨ (su = 1 ∧ goD (hNight 3 9 house i.toNat) d 3 house = 3)) ∧ (i ≤ 16 → x = 81 - 5 * i) ∧ (i = 17 → x = 0)
theorem dry_s {i x v su : Int} (h : dryB d house i x v su) (hh : 0 ≤ house ∧ house ≤ 9) (i0 : 0 ≤ i) (i1 : i ≤ 16) : dryB d house (i + 1) (if x ≤ 5 then 0 else x - 5) (if 9 * v < x then v else if v = 9 then 9 else v + 1) (if 9 * v < x then 1 else su) := by
  obtain ⟨hc, h9, h8, h10, h2, h1, v0, h3, hx, hx2⟩ := h
  have hx' := hx i1
  obtain ⟨m1, m2⟩ := hN_more hc h8 (by omega) (by omega)
  have e : (i + 1).toNat = i.toNat + 1 := by omega
  unfold dryB
  rw [e, hNight_s, m2]
  obtain ⟨a1, a2, a3, a4, a5, a6⟩ := bed_at (goD (hNight 3 9 house i.toNat) d) (h := house) h9 h1 h2 v0.2
  refine ⟨m1, ?_, ?_, ?_, a5, ?_, ?_, ?_, ?_, ?_⟩
  · by_cases c : x ≤ 5
    · rw [if_pos c, a1 c]
    · rw [if_neg c, a2 (by omega)]
  · rw [a6 _ _ (by omega) (by omega)]; exact h8
  · rw [a6 _ _ (by omega) (by omega)]; exact h10
  · by_cases c : 9 * v < x
    · rw [if_pos c, (a3 c).1]
    · rw [if_neg c]
      by_cases c9 : v = 9
      · rw [if_pos c9, (a4 c).2.1 c9]
      · rw [if_neg c9, (a4 c).1 (by omega)]
  · split
    · omega
    · split <;> omega
  · by_cases c : 9 * v < x
    · rw [if_pos c, (a3 c).2, h10]; exact Or.inr ⟨rfl, rfl⟩
    · rw [if_neg c, (a4 c).2.2]; exact h3
  · intro z; rw [if_neg (by omega)]; omega
  · intro z; rw [if_pos (by omega)]
theorem zo : zI 0 ||| zI 0 = zI 0 ∧ zI 0 ||| zI 1 = zI 1 ∧ zI 1 ||| zI 0 = zI 1 ∧ zI 1 ||| zI 1 = zI 1 := by decide
set_option maxHeartbeats 8000000 in
theorem t_1004 (hL : L ≤ 260) (hB : bsS d) (hf : okd f) (he : okp e) (h4 : e 99 1 = 4) (hs : spl e (hNight 3 9 house 0) 0 (e 99 1)) (hh : 0 ≤ house ∧ house ≤ 9) (hr : d 0 (10 * 11 + house) = 9) (hdb : d 1 house = doubt) (d0 : 0 ≤ doubt ∧ doubt ≤ 9) (h2 : d 2 house = 0) (hd3 : d 3 house = -6) (hN : nmS step tens bel reached) :
    oK Q1 (g_1004 L xs (eC d) (eC f) (eC e) (eC n) σW σY σK ℓK σH (zI step) (zI tens) (zI 4) (zI 81) (zI bel) (zI reached) (zI house) (zI doubt) (zI doubt) (zI 1)) := by
  have hB' := hB
  obtain ⟨hd, b7, b8, b4, b11⟩ := hB
  have em6 : (-6 : Int32) = zI (-6) := by decide
  unfold g_1004
  rw [z_0]
  refine ok_forI (τ := Int32 × Int32 × Int32 × Int32 × Int32 × qS × qS × qS) 17 (fun i u => ∃ (f e n : Nat → Int → Int) (su sg x v : Int), u = (zI su, zI sg, zI x, zI v, zI 1, eC e, eC f, eC n) ∧ okd f ∧ okp e ∧ e 99 1 = 4 + i ∧ sg = 4 + i ∧ spl e (hNight 3 9 house i.toNat) 0 (e 99 1) ∧ dryB d house i x v su) (fun again i u i0 i1 hP ih => ?_) 20000 0 _ (by omega) (by omega) ⟨f, e, n, 0, 4, 81, doubt, rfl, hf, he, by omega, by omega, hs, ?_⟩ (by omega)
  · obtain ⟨f, e, n, su, sg, x, v, rfl, hf, he, h1, hsg, hs, hD⟩ := hP
    subst hsg
    unfold b_L_law_1010
    dsimp only
    rw [show (17 : Int32) = zI 17 from z_17]
    refine ok_ifE (z_le (by omega) (by omega) (by omega) (by omega)) (fun c => ?_) (fun c => ?_)
    · obtain rfl : i = 17 := by omega
      obtain ⟨hc, g9, g8, g10, g2, g1, v0, g3, gx, gx2⟩ := hD
      obtain rfl := gx2 rfl
      exact t_1155 hL hB' hf he h1 hs hc g9 g8 hh hr hdb d0 hd3 hN
    · have hS := dry_s hD hh i0 (by omega)
      obtain ⟨-, -, -, -, -, -, v0, h3, hx, -⟩ := hD
      obtain ⟨p1, p2, p3, p4⟩ := say_one he hs (c := 42) (by omega) (by omega) kd_42 (by omega) (by omega)
      rw [pl_42, ← hNight_s, show i.toNat + 1 = (i + 1).toNat by omega] at p4
      have hS' := hS
      obtain ⟨c1, g9, g8, g10, g2, g1, w0, g3, gx, gx2⟩ := hS
      have hx' := hx (by omega)
      have k1 := (go_pass (n := n) p2 hd hf p4 c1).2.1
      have w1 := fun n => p_pan (n := n) p2 hd hf p4 c1 (w := 1) (by omega) (by omega)
      have w2 := fun n => p_behind (n := n) p2 hd k1 p4 c1 hh.1 hh.2 (w := 0) (by omega) (by omega)
      have w3 := fun n => p_behind (n := n) p2 hd k1 p4 c1 hh.1 hh.2 (w := 1) (by omega) (by omega)
      rw [show pFact (goD (hNight 3 9 house (i + 1).toNat) d) 1 = goD (hNight 3 9 house (i + 1).toNat) d 99 9 from rfl, g9] at w1
      rw [show hFact (goD (hNight 3 9 house (i + 1).toNat) d) house 0 = goD (hNight 3 9 house (i + 1).toNat) d 3 house from rfl] at w2
      rw [show hFact (goD (hNight 3 9 house (i + 1).toNat) d) house 1 = goD (hNight 3 9 house (i + 1).toNat) d 1 house from rfl, g1] at w3
      rw [h1] at p1 p3
      generalize goD (hNight 3 9 house (i + 1).toNat) d = D at *
      generalize hB3 : D 3 house = B at *
      obtain ⟨z00, z01, z10, z11⟩ := zo
      have nx : ∀ (n' : Nat → Int → Int) (su' sg' x' v' : Int), x' = (if x ≤ 5 then 0 else x - 5) → v' = (if 9 * v < x then v else if v = 9 then 9 else v + 1) → su' = (if 9 * v < x then 1 else su) → sg' = 4 + i + 1 → oK Q1 (again (zI (i + 1), zI su', zI sg', zI x', zI v', zI 1, eC (sy e 42), eC D, eC n')) := fun n' su' sg' x' v' q1 q2 q3 q4 => ih (by omega) _ ⟨_, _, _, _, _, _, _, rfl, k1, p2, by omega, by omega, p4, by rw [q1, q2, q3]; exact hS'⟩
      have su01 : su = 0 ∨ su = 1 := by omega
      have x99 : x ≤ 81 ∧ 0 ≤ x := by omega
      have hA : (zI x ≤ (9 : Int32) * zI v) ↔ x ≤ 9 * v := by rw [z_9, z_mul, z_le (by omega) (by omega) (by omega) (by omega)]
      have hBt : ((9 : Int32) * zI v < zI x) ↔ 9 * v < x := by rw [z_9, z_mul, z_lt (by omega) (by omega) (by omega) (by omega)]
      have hC : (zI v = (9 : Int32)) ↔ v = 9 := by rw [z_9, z_eq (by omega) (by omega) (by omega) (by omega)]
      have hDt : (zI x ≤ (5 : Int32)) ↔ x ≤ 5 := by rw [z_5, z_le (by omega) (by omega) (by omega) (by omega)]
      by_cases k9 : 9 * v < x
      · rw [if_pos k9] at w3 g3
        obtain rfl : B = 3 := by omega
        by_cases k5 : x ≤ 5
        · rw [if_pos k5] at w1
          rcases su01 with rfl | rfl
          · skip
            rw [if_neg (fun z => absurd (hA.mp z) (by omega)), s_bd, if_pos (hBt.mpr k9), s_bd, if_pos (hDt.mpr k5)]
            simp (disch := omega) only [p1, w1, w2, w3, z01, em6, s_T, s_F, s_bd, s_cl, s_rd, s_wr, s_ite, z_ite, z_neg, z_add, z_sub, z_mul, z_le, z_lt, z_eq, eC_at, eC_7, eC_8, eC_9, eC_10, eC_11, eC_p7, eC_p8, eC_p9, eC_p10, eC_p11, eC_up, ud_same, ud_ne, if_pos, if_neg, z_0, z_1, z_2, z_3, z_4, z_5, z_6, z_7, z_8, z_9, z_10, z_11, z_12, z_13, z_14, z_15, z_16, z_17, z_18, z_19, z_20, z_21, z_22, z_23, z_24, z_25, z_26, z_27, z_28, z_29, z_30, z_31, z_32, z_33, z_34, z_35, z_36, z_37, z_38, z_39, z_40, z_41, z_42, z_43, z_44, z_45, z_46, z_47, z_48, z_49, z_50, z_51, z_52, z_53, z_54, z_55, z_56, z_57, z_58, z_59, z_60, z_61, z_62, z_63, z_64, z_65, z_66, z_67, z_68, z_69, z_70, z_71, z_72, z_73, z_74, z_75, z_76, z_77, z_78, z_79, z_80, z_81, z_82, z_83, z_84, z_85, z_86, z_87, z_88, z_89, z_90, z_91, z_92, z_93, z_94, z_95, z_96, z_97, z_98, z_99, z_100, z_101, z_102, z_103, z_104, z_105, z_106, z_107, z_108, z_109, z_110, z_111, z_112, z_113, z_114, z_115, z_116, z_117, z_118, z_119, z_120, z_121, z_122, z_123, z_124, z_125, z_126, z_127, z_199, z_200, z_360, z_410, z_1000, z_1023, z_1024, z_1219, z_9999, z_10240, z_65537]
            exact nx _ _ _ _ _ (by rw [if_pos k5]) (by rw [if_pos k9]; omega) (by rw [if_pos k9]) (by omega)
          · skip
            rw [if_neg (fun z => absurd (hA.mp z) (by omega)), s_bd, if_pos (hBt.mpr k9), s_bd, if_pos (hDt.mpr k5)]
            simp (disch := omega) only [p1, w1, w2, w3, z11, em6, s_T, s_F, s_bd, s_cl, s_rd, s_wr, s_ite, z_ite, z_neg, z_add, z_sub, z_mul, z_le, z_lt, z_eq, eC_at, eC_7, eC_8, eC_9, eC_10, eC_11, eC_p7, eC_p8, eC_p9, eC_p10, eC_p11, eC_up, ud_same, ud_ne, if_pos, if_neg, z_0, z_1, z_2, z_3, z_4, z_5, z_6, z_7, z_8, z_9, z_10, z_11, z_12, z_13, z_14, z_15, z_16, z_17, z_18, z_19, z_20, z_21, z_22, z_23, z_24, z_25, z_26, z_27, z_28, z_29, z_30, z_31, z_32, z_33, z_34, z_35, z_36, z_37, z_38, z_39, z_40, z_41, z_42, z_43, z_44, z_45, z_46, z_47, z_48, z_49, z_50, z_51, z_52, z_53, z_54, z_55, z_56, z_57, z_58, z_59, z_60, z_61, z_62, z_63, z_64, z_65, z_66, z_67, z_68, z_69, z_70, z_71, z_72, z_73, z_74, z_75, z_76, z_77, z_78, z_79, z_80, z_81, z_82, z_83, z_84, z_85, z_86, z_87, z_88, z_89, z_90, z_91, z_92, z_93, z_94, z_95, z_96, z_97, z_98, z_99, z_100, z_101, z_102, z_103, z_104, z_105, z_106, z_107, z_108, z_109, z_110, z_111, z_112, z_113, z_114, z_115, z_116, z_117, z_118, z_119, z_120, z_121, z_122, z_123, z_124, z_125, z_126, z_127, z_199, z_200, z_360, z_410, z_1000, z_1023, z_1024, z_1219, z_9999, z_10240, z_65537]
            exact nx _ _ _ _ _ (by rw [if_pos k5]) (by rw [if_pos k9]; omega) (by rw [if_pos k9]) (by omega)
        · rw [if_neg k5] at w1
          rcases su01 with rfl | rfl
          · skip
            rw [if_neg (fun z => absurd (hA.mp z) (by omega)), s_bd, if_pos (hBt.mpr k9), s_bd, if_neg (fun z => k5 (hDt.mp z))]
            simp (disch := omega) only [p1, w1, w2, w3, z01, em6, s_T, s_F, s_bd, s_cl, s_rd, s_wr, s_ite, z_ite, z_neg, z_add, z_sub, z_mul, z_le, z_lt, z_eq, eC_at, eC_7, eC_8, eC_9, eC_10, eC_11, eC_p7, eC_p8, eC_p9, eC_p10, eC_p11, eC_up, ud_same, ud_ne, if_pos, if_neg, z_0, z_1, z_2, z_3, z_4, z_5, z_6, z_7, z_8, z_9, z_10, z_11, z_12, z_13, z_14, z_15, z_16, z_17, z_18, z_19, z_20, z_21, z_22, z_23, z_24, z_25, z_26, z_27, z_28, z_29, z_30, z_31, z_32, z_33, z_34, z_35, z_36, z_37, z_38, z_39, z_40, z_41, z_42, z_43, z_44, z_45, z_46, z_47, z_48, z_49, z_50, z_51, z_52, z_53, z_54, z_55, z_56, z_57, z_58, z_59, z_60, z_61, z_62, z_63, z_64, z_65, z_66, z_67, z_68, z_69, z_70, z_71, z_72, z_73, z_74, z_75, z_76, z_77, z_78, z_79, z_80, z_81, z_82, z_83, z_84, z_85, z_86, z_87, z_88, z_89, z_90, z_91, z_92, z_93, z_94, z_95, z_96, z_97, z_98, z_99, z_100, z_101, z_102, z_103, z_104, z_105, z_106, z_107, z_108, z_109, z_110, z_111, z_112, z_113, z_114, z_115, z_116, z_117, z_118, z_119, z_120, z_121, z_122, z_123, z_124, z_125, z_126, z_127, z_199, z_200, z_360, z_410, z_1000, z_1023, z_1024, z_1219, z_9999, z_10240, z_65537]
            exact nx _ _ _ _ _ (by rw [if_neg k5]) (by rw [if_pos k9]; omega) (by rw [if_pos k9]) (by omega)
          · skip
            rw [if_neg (fun z => absurd (hA.mp z) (by omega)), s_bd, if_pos (hBt.mpr k9), s_bd, if_neg (fun z => k5 (hDt.mp z))]
            simp (disch := omega) only [p1, w1, w2, w3, z11, em6, s_T, s_F, s_bd, s_cl, s_rd, s_wr, s_ite, z_ite, z_neg, z_add, z_sub, z_mul, z_le, z_lt, z_eq, eC_at, eC_7, eC_8, eC_9, eC_10, eC_11, eC_p7, eC_p8, eC_p9, eC_p10, eC_p11, eC_up, ud_same, ud_ne, if_pos, if_neg, z_0, z_1, z_2, z_3, z_4, z_5, z_6, z_7, z_8, z_9, z_10, z_11, z_12, z_13, z_14, z_15, z_16, z_17, z_18, z_19, z_20, z_21, z_22, z_23, z_24, z_25, z_26, z_27, z_28, z_29, z_30, z_31, z_32, z_33, z_34, z_35, z_36, z_37, z_38, z_39, z_40, z_41, z_42, z_43, z_44, z_45, z_46, z_47, z_48, z_49, z_50, z_51, z_52, z_53, z_54, z_55, z_56, z_57, z_58, z_59, z_60, z_61, z_62, z_63, z_64, z_65, z_66, z_67, z_68, z_69, z_70, z_71, z_72, z_73, z_74, z_75, z_76, z_77, z_78, z_79, z_80, z_81, z_82, z_83, z_84, z_85, z_86, z_87, z_88, z_89, z_90, z_91, z_92, z_93, z_94, z_95, z_96, z_97, z_98, z_99, z_100, z_101, z_102, z_103, z_104, z_105, z_106, z_107, z_108, z_109, z_110, z_111, z_112, z_113, z_114, z_115, z_116, z_117, z_118, z_119, z_120, z_121, z_122, z_123, z_124, z_125, z_126, z_127, z_199, z_200, z_360, z_410, z_1000, z_1023, z_1024, z_1219, z_9999, z_10240, z_65537]
            exact nx _ _ _ _ _ (by rw [if_neg k5]) (by rw [if_pos k9]; omega) (by rw [if_pos k9]) (by omega)
      · rw [if_neg k9] at w3 g3
        by_cases v9 : v = 9
        · rw [if_pos v9] at w3
          by_cases k5 : x ≤ 5
          · rw [if_pos k5] at w1
            rcases g3 with ⟨rfl, rfl⟩ | ⟨rfl, rfl⟩
            · skip
              rw [if_pos (hA.mpr (by omega)), s_bd, if_neg (fun z => k9 (hBt.mp z)), if_pos (hC.mpr v9), s_bd, if_pos (hDt.mpr k5)]
              simp (disch := omega) only [p1, w1, w2, w3, z00, em6, s_T, s_F, s_bd, s_cl, s_rd, s_wr, s_ite, z_ite, z_neg, z_add, z_sub, z_mul, z_le, z_lt, z_eq, eC_at, eC_7, eC_8, eC_9, eC_10, eC_11, eC_p7, eC_p8, eC_p9, eC_p10, eC_p11, eC_up, ud_same, ud_ne, if_pos, if_neg, z_0, z_1, z_2, z_3, z_4, z_5, z_6, z_7, z_8, z_9, z_10, z_11, z_12, z_13, z_14, z_15, z_16, z_17, z_18, z_19, z_20, z_21, z_22, z_23, z_24, z_25, z_26, z_27, z_28, z_29, z_30, z_31, z_32, z_33, z_34, z_35, z_36, z_37, z_38, z_39, z_40, z_41, z_42, z_43, z_44, z_45, z_46, z_47, z_48, z_49, z_50, z_51, z_52, z_53, z_54, z_55, z_56, z_57, z_58, z_59, z_60, z_61, z_62, z_63, z_64, z_65, z_66, z_67, z_68, z_69, z_70, z_71, z_72, z_73, z_74, z_75, z_76, z_77, z_78, z_79, z_80, z_81, z_82, z_83, z_84, z_85, z_86, z_87, z_88, z_89, z_90, z_91, z_92, z_93, z_94, z_95, z_96, z_97, z_98, z_99, z_100, z_101, z_102, z_103, z_104, z_105, z_106, z_107, z_108, z_109, z_110, z_111, z_112, z_113, z_114, z_115, z_116, z_117, z_118, z_119, z_120, z_121, z_122, z_123, z_124, z_125, z_126, z_127, z_199, z_200, z_360, z_410, z_1000, z_1023, z_1024, z_1219, z_9999, z_10240, z_65537]
              exact nx _ _ _ _ _ (by rw [if_pos k5]) (by rw [if_neg k9, if_pos v9]; omega) (by rw [if_neg k9]) (by omega)
            · skip
              rw [if_pos (hA.mpr (by omega)), s_bd, if_neg (fun z => k9 (hBt.mp z)), if_pos (hC.mpr v9), s_bd, if_pos (hDt.mpr k5)]
              simp (disch := omega) only [p1, w1, w2, w3, z10, em6, s_T, s_F, s_bd, s_cl, s_rd, s_wr, s_ite, z_ite, z_neg, z_add, z_sub, z_mul, z_le, z_lt, z_eq, eC_at, eC_7, eC_8, eC_9, eC_10, eC_11, eC_p7, eC_p8, eC_p9, eC_p10, eC_p11, eC_up, ud_same, ud_ne, if_pos, if_neg, z_0, z_1, z_2, z_3, z_4, z_5, z_6, z_7, z_8, z_9, z_10, z_11, z_12, z_13, z_14, z_15, z_16, z_17, z_18, z_19, z_20, z_21, z_22, z_23, z_24, z_25, z_26, z_27, z_28, z_29, z_30, z_31, z_32, z_33, z_34, z_35, z_36, z_37, z_38, z_39, z_40, z_41, z_42, z_43, z_44, z_45, z_46, z_47, z_48, z_49, z_50, z_51, z_52, z_53, z_54, z_55, z_56, z_57, z_58, z_59, z_60, z_61, z_62, z_63, z_64, z_65, z_66, z_67, z_68, z_69, z_70, z_71, z_72, z_73, z_74, z_75, z_76, z_77, z_78, z_79, z_80, z_81, z_82, z_83, z_84, z_85, z_86, z_87, z_88, z_89, z_90, z_91, z_92, z_93, z_94, z_95, z_96, z_97, z_98, z_99, z_100, z_101, z_102, z_103, z_104, z_105, z_106, z_107, z_108, z_109, z_110, z_111, z_112, z_113, z_114, z_115, z_116, z_117, z_118, z_119, z_120, z_121, z_122, z_123, z_124, z_125, z_126, z_127, z_199, z_200, z_360, z_410, z_1000, z_1023, z_1024, z_1219, z_9999, z_10240, z_65537]
              exact nx _ _ _ _ _ (by rw [if_pos k5]) (by rw [if_neg k9, if_pos v9]; omega) (by rw [if_neg k9]) (by omega)
          · rw [if_neg k5] at w1
            rcases g3 with ⟨rfl, rfl⟩ | ⟨rfl, rfl⟩
            · skip
              rw [if_pos (hA.mpr (by omega)), s_bd, if_neg (fun z => k9 (hBt.mp z)), if_pos (hC.mpr v9), s_bd, if_neg (fun z => k5 (hDt.mp z))]
              simp (disch := omega) only [p1, w1, w2, w3, z00, em6, s_T, s_F, s_bd, s_cl, s_rd, s_wr, s_ite, z_ite, z_neg, z_add, z_sub, z_mul, z_le, z_lt, z_eq, eC_at, eC_7, eC_8, eC_9, eC_10, eC_11, eC_p7, eC_p8, eC_p9, eC_p10, eC_p11, eC_up, ud_same, ud_ne, if_pos, if_neg, z_0, z_1, z_2, z_3, z_4, z_5, z_6, z_7, z_8, z_9, z_10, z_11, z_12, z_13, z_14, z_15, z_16, z_17, z_18, z_19, z_20, z_21, z_22, z_23, z_24, z_25, z_26, z_27, z_28, z_29, z_30, z_31, z_32, z_33, z_34, z_35, z_36, z_37, z_38, z_39, z_40, z_41, z_42, z_43, z_44, z_45, z_46, z_47, z_48, z_49, z_50, z_51, z_52, z_53, z_54, z_55, z_56, z_57, z_58, z_59, z_60, z_61, z_62, z_63, z_64, z_65, z_66, z_67, z_68, z_69, z_70, z_71, z_72, z_73, z_74, z_75, z_76, z_77, z_78, z_79, z_80, z_81, z_82, z_83, z_84, z_85, z_86, z_87, z_88, z_89, z_90, z_91, z_92, z_93, z_94, z_95, z_96, z_97, z_98, z_99, z_100, z_101, z_102, z_103, z_104, z_105, z_106, z_107, z_108, z_109, z_110, z_111, z_112, z_113, z_114, z_115, z_116, z_117, z_118, z_119, z_120, z_121, z_122, z_123, z_124, z_125, z_126, z_127, z_199, z_200, z_360, z_410, z_1000, z_1023, z_1024, z_1219, z_9999, z_10240, z_65537]
              exact nx _ _ _ _ _ (by rw [if_neg k5]) (by rw [if_neg k9, if_pos v9]; omega) (by rw [if_neg k9]) (by omega)
            · skip
              rw [if_pos (hA.mpr (by omega)), s_bd, if_neg (fun z => k9 (hBt.mp z)), if_pos (hC.mpr v9), s_bd, if_neg (fun z => k5 (hDt.mp z))]
              simp (disch := omega) only [p1, w1, w2, w3, z10, em6, s_T, s_F, s_bd, s_cl, s_rd, s_wr, s_ite, z_ite, z_neg, z_add, z_sub, z_mul, z_le, z_lt, z_eq, eC_at, eC_7, eC_8, eC_9, eC_10, eC_11, eC_p7, eC_p8, eC_p9, eC_p10, eC_p11, eC_up, ud_same, ud_ne, if_pos, if_neg, z_0, z_1, z_2, z_3, z_4, z_5, z_6, z_7, z_8, z_9, z_10, z_11, z_12, z_13, z_14, z_15, z_16, z_17, z_18, z_19, z_20, z_21, z_22, z_23, z_24, z_25, z_26, z_27, z_28, z_29, z_30, z_31, z_32, z_33, z_34, z_35, z_36, z_37, z_38, z_39, z_40, z_41, z_42, z_43, z_44, z_45, z_46, z_47, z_48, z_49, z_50, z_51, z_52, z_53, z_54, z_55, z_56, z_57, z_58, z_59, z_60, z_61, z_62, z_63, z_64, z_65, z_66, z_67, z_68, z_69, z_70, z_71, z_72, z_73, z_74, z_75, z_76, z_77, z_78, z_79, z_80, z_81, z_82, z_83, z_84, z_85, z_86, z_87, z_88, z_89, z_90, z_91, z_92, z_93, z_94, z_95, z_96, z_97, z_98, z_99, z_100, z_101, z_102, z_103, z_104, z_105, z_106, z_107, z_108, z_109, z_110, z_111, z_112, z_113, z_114, z_115, z_116, z_117, z_118, z_119, z_120, z_121, z_122, z_123, z_124, z_125, z_126, z_127, z_199, z_200, z_360, z_410, z_1000, z_1023, z_1024, z_1219, z_9999, z_10240, z_65537]
              exact nx _ _ _ _ _ (by rw [if_neg k5]) (by rw [if_neg k9, if_pos v9]; omega) (by rw [if_neg k9]) (by omega)
        · rw [if_neg v9] at w3
          by_cases k5 : x ≤ 5
          · rw [if_pos k5] at w1
            rcases g3 with ⟨rfl, rfl⟩ | ⟨rfl, rfl⟩
            · skip
              rw [if_pos (hA.mpr (by omega)), s_bd, if_neg (fun z => k9 (hBt.mp z)), if_neg (fun z => v9 (hC.mp z)), s_bd, if_pos (hDt.mpr k5)]
              simp (disch := omega) only [p1, w1, w2, w3, z00, em6, s_T, s_F, s_bd, s_cl, s_rd, s_wr, s_ite, z_ite, z_neg, z_add, z_sub, z_mul, z_le, z_lt, z_eq, eC_at, eC_7, eC_8, eC_9, eC_10, eC_11, eC_p7, eC_p8, eC_p9, eC_p10, eC_p11, eC_up, ud_same, ud_ne, if_pos, if_neg, z_0, z_1, z_2, z_3, z_4, z_5, z_6, z_7, z_8, z_9, z_10, z_11, z_12, z_13, z_14, z_15, z_16, z_17, z_18, z_19, z_20, z_21, z_22, z_23, z_24, z_25, z_26, z_27, z_28, z_29, z_30, z_31, z_32, z_33, z_34, z_35, z_36, z_37, z_38, z_39, z_40, z_41, z_42, z_43, z_44, z_45, z_46, z_47, z_48, z_49, z_50, z_51, z_52, z_53, z_54, z_55, z_56, z_57, z_58, z_59, z_60, z_61, z_62, z_63, z_64, z_65, z_66, z_67, z_68, z_69, z_70, z_71, z_72, z_73, z_74, z_75, z_76, z_77, z_78, z_79, z_80, z_81, z_82, z_83, z_84, z_85, z_86, z_87, z_88, z_89, z_90, z_91, z_92, z_93, z_94, z_95, z_96, z_97, z_98, z_99, z_100, z_101, z_102, z_103, z_104, z_105, z_106, z_107, z_108, z_109, z_110, z_111, z_112, z_113, z_114, z_115, z_116, z_117, z_118, z_119, z_120, z_121, z_122, z_123, z_124, z_125, z_126, z_127, z_199, z_200, z_360, z_410, z_1000, z_1023, z_1024, z_1219, z_9999, z_10240, z_65537]
              exact nx _ _ _ _ _ (by rw [if_pos k5]) (by rw [if_neg k9, if_neg v9]) (by rw [if_neg k9]) (by omega)
            · skip
              rw [if_pos (hA.mpr (by omega)), s_bd, if_neg (fun z => k9 (hBt.mp z)), if_neg (fun z => v9 (hC.mp z)), s_bd, if_pos (hDt.mpr k5)]
              simp (disch := omega) only [p1, w1, w2, w3, z10, em6, s_T, s_F, s_bd, s_cl, s_rd, s_wr, s_ite, z_ite, z_neg, z_add, z_sub, z_mul, z_le, z_lt, z_eq, eC_at, eC_7, eC_8, eC_9, eC_10, eC_11, eC_p7, eC_p8, eC_p9, eC_p10, eC_p11, eC_up, ud_same, ud_ne, if_pos, if_neg, z_0, z_1, z_2, z_3, z_4, z_5, z_6, z_7, z_8, z_9, z_10, z_11, z_12, z_13, z_14, z_15, z_16, z_17, z_18, z_19, z_20, z_21, z_22, z_23, z_24, z_25, z_26, z_27, z_28, z_29, z_30, z_31, z_32, z_33, z_34, z_35, z_36, z_37, z_38, z_39, z_40, z_41, z_42, z_43, z_44, z_45, z_46, z_47, z_48, z_49, z_50, z_51, z_52, z_53, z_54, z_55, z_56, z_57, z_58, z_59, z_60, z_61, z_62, z_63, z_64, z_65, z_66, z_67, z_68, z_69, z_70, z_71, z_72, z_73, z_74, z_75, z_76, z_77, z_78, z_79, z_80, z_81, z_82, z_83, z_84, z_85, z_86, z_87, z_88, z_89, z_90, z_91, z_92, z_93, z_94, z_95, z_96, z_97, z_98, z_99, z_100, z_101, z_102, z_103, z_104, z_105, z_106, z_107, z_108, z_109, z_110, z_111, z_112, z_113, z_114, z_115, z_116, z_117, z_118, z_119, z_120, z_121, z_122, z_123, z_124, z_125, z_126, z_127, z_199, z_200, z_360, z_410, z_1000, z_1023, z_1024, z_1219, z_9999, z_10240, z_65537]
              exact nx _ _ _ _ _ (by rw [if_pos k5]) (by rw [if_neg k9, if_neg v9]) (by rw [if_neg k9]) (by omega)
          · rw [if_neg k5] at w1
            rcases g3 with ⟨rfl, rfl⟩ | ⟨rfl, rfl⟩
            · skip
              rw [if_pos (hA.mpr (by omega)), s_bd, if_neg (fun z => k9 (hBt.mp z)), if_neg (fun z => v9 (hC.mp z)), s_bd, if_neg (fun z => k5 (hDt.mp z))]
              simp (disch := omega) only [p1, w1, w2, w3, z00, em6, s_T, s_F, s_bd, s_cl, s_rd, s_wr, s_ite, z_ite, z_neg, z_add, z_sub, z_mul, z_le, z_lt, z_eq, eC_at, eC_7, eC_8, eC_9, eC_10, eC_11, eC_p7, eC_p8, eC_p9, eC_p10, eC_p11, eC_up, ud_same, ud_ne, if_pos, if_neg, z_0, z_1, z_2, z_3, z_4, z_5, z_6, z_7, z_8, z_9, z_10, z_11, z_12, z_13, z_14, z_15, z_16, z_17, z_18, z_19, z_20, z_21, z_22, z_23, z_24, z_25, z_26, z_27, z_28, z_29, z_30, z_31, z_32, z_33, z_34, z_35, z_36, z_37, z_38, z_39, z_40, z_41, z_42, z_43, z_44, z_45, z_46, z_47, z_48, z_49, z_50, z_51, z_52, z_53, z_54, z_55, z_56, z_57, z_58, z_59, z_60, z_61, z_62, z_63, z_64, z_65, z_66, z_67, z_68, z_69, z_70, z_71, z_72, z_73, z_74, z_75, z_76, z_77, z_78, z_79, z_80, z_81, z_82, z_83, z_84, z_85, z_86, z_87, z_88, z_89, z_90, z_91, z_92, z_93, z_94, z_95, z_96, z_97, z_98, z_99, z_100, z_101, z_102, z_103, z_104, z_105, z_106, z_107, z_108, z_109, z_110, z_111, z_112, z_113, z_114, z_115, z_116, z_117, z_118, z_119, z_120, z_121, z_122, z_123, z_124, z_125, z_126, z_127, z_199, z_200, z_360, z_410, z_1000, z_1023, z_1024, z_1219, z_9999, z_10240, z_65537]
              exact nx _ _ _ _ _ (by rw [if_neg k5]) (by rw [if_neg k9, if_neg v9]) (by rw [if_neg k9]) (by omega)
            · skip
              rw [if_pos (hA.mpr (by omega)), s_bd, if_neg (fun z => k9 (hBt.mp z)), if_neg (fun z => v9 (hC.mp z)), s_bd, if_neg (fun z => k5 (hDt.mp z))]
              simp (disch := omega) only [p1, w1, w2, w3, z10, em6, s_T, s_F, s_bd, s_cl, s_rd, s_wr, s_ite, z_ite, z_neg, z_add, z_sub, z_mul, z_le, z_lt, z_eq, eC_at, eC_7, eC_8, eC_9, eC_10, eC_11, eC_p7, eC_p8, eC_p9, eC_p10, eC_p11, eC_up, ud_same, ud_ne, if_pos, if_neg, z_0, z_1, z_2, z_3, z_4, z_5, z_6, z_7, z_8, z_9, z_10, z_11, z_12, z_13, z_14, z_15, z_16, z_17, z_18, z_19, z_20, z_21, z_22, z_23, z_24, z_25, z_26, z_27, z_28, z_29, z_30, z_31, z_32, z_33, z_34, z_35, z_36, z_37, z_38, z_39, z_40, z_41, z_42, z_43, z_44, z_45, z_46, z_47, z_48, z_49, z_50, z_51, z_52, z_53, z_54, z_55, z_56, z_57, z_58, z_59, z_60, z_61, z_62, z_63, z_64, z_65, z_66, z_67, z_68, z_69, z_70, z_71, z_72, z_73, z_74, z_75, z_76, z_77, z_78, z_79, z_80, z_81, z_82, z_83, z_84, z_85, z_86, z_87, z_88, z_89, z_90, z_91, z_92, z_93, z_94, z_95, z_96, z_97, z_98, z_99, z_100, z_101, z_102, z_103, z_104, z_105, z_106, z_107, z_108, z_109, z_110, z_111, z_112, z_113, z_114, z_115, z_116, z_117, z_118, z_119, z_120, z_121, z_122, z_123, z_124, z_125, z_126, z_127, z_199, z_200, z_360, z_410, z_1000, z_1023, z_1024, z_1219, z_9999, z_10240, z_65537]
              exact nx _ _ _ _ _ (by rw [if_neg k5]) (by rw [if_neg k9, if_neg v9]) (by rw [if_neg k9]) (by omega)
  · obtain ⟨a1, a2, a3, a4, a5⟩ := h0_go (d := d) (tale := 3) (tens := 9) b8 hr
    exact ⟨a1, a2, a4, a3, by rw [show Int.toNat 0 = 0 from rfl, a5 _ _ (by omega)]; exact h2, by rw [show Int.toNat 0 = 0 from rfl, a5 _ _ (by omega)]; exact hdb, d0, Or.inl ⟨rfl, by rw [show Int.toNat 0 = 0 from rfl, a5 _ _ (by omega)]; exact hd3⟩, by omega, by omega⟩
theorem t_943 (hL : L ≤ 260) (hB : bsS d) (hf : okd f) (he : clr e) (hh : 0 ≤ house ∧ house ≤ 9) (hr : d 0 (10 * 11 + house) = 9) (hdb : d 1 house = doubt) (d0 : 0 ≤ doubt ∧ doubt ≤ 9) (h2 : d 2 house = 0) (hd3 : d 3 house = -6) (hN : nmS step tens bel reached) :
    oK Q1 (g_943 L xs (eC d) (eC f) (eC e) (eC n) σW σY σK ℓK σH (zI step) (zI tens) (zI bel) (zI reached) (zI house) (zI doubt)) := by
  obtain ⟨q1, q2, q3, q4, q5, q6⟩ := say_fill he (w := 3) (t := 9) (by omega) (by omega) (by omega) (by omega)
  rw [show (48 + 3 : Int) = 51 from rfl, show (48 + 9 : Int) = 57 from rfl] at *
  obtain ⟨s1, s2, s3, s4⟩ := spl_house q6 q4 hh q5
  have e51 : (51 : Int32) = zI 51 := by decide
  have e57 : (57 : Int32) = zI 57 := by decide
  have e81 : (81 : Int32) = zI 81 := by decide
  unfold g_943
  rw [z_61, q1, s_cl, z_1]
  dsimp only
  rw [if_pos rfl, e51, q2, s_cl, z_2]
  dsimp only
  rw [if_pos rfl, e57, q3, s_cl, z_3]
  dsimp only
  rw [if_pos rfl, z_65, z_add, s1, s_cl, z_4, e81]
  dsimp only
  rw [if_pos rfl]
  exact t_1004 hL hB hf s2 s3 s4 hh hr hdb d0 h2 hd3 hN
end SEG7


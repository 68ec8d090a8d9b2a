/-! the law's segments: the star laid, the row kept, the first night told -/
section SEG10
variable {d e f n : Nat → Int → Int} {L : Nat} {xs : Nat → Int32} {σC σD σP σN σW σY σK σH σE : qS} {ℓK κ : qL} {step tens blv reached w t h house doubt tale : Int}
def lay (d : Nat → Int → Int) (a b v : Int) : Nat → Int → Int := ud (ud d 0 (a * 11 + b) v) 0 (b * 11 + a) v
theorem p_road (hd : okd d) {a b v : Int} (a0 : 0 ≤ a) (a1 : a ≤ 10) (b0 : 0 ≤ b) (b1 : b ≤ 10) (ab : ¬ a = b) (v0 : 0 ≤ v) (v1 : v ≤ 9) : f_X6_road (eC d) (zI a) (zI b) (zI v) = some (zI (d 0 (a * 11 + b)), eC (lay d a b v)) ∧ okd (lay d a b v) := by
  have ca : 0 ≤ a ∧ a ≤ 10 := ⟨a0, a1⟩
  have cb : 0 ≤ b ∧ b ≤ 10 := ⟨b0, b1⟩
  have cv : 0 ≤ v ∧ v ≤ 9 := ⟨v0, v1⟩
  refine ⟨?_, okd_ud (okd_ud hd (show (0 : Int) ≤ v by omega) (show v ≤ (9 : Int) by omega)) (show (0 : Int) ≤ v by omega) (show v ≤ (9 : Int) by omega)⟩
  unfold f_X6_road lay
  simp (disch := omega) only [x_isPlace, x_isHouse, x_isTale, x_within, x_longBetween, x_layRoad, x_doubtOf, x_furnish, x_beliefOf, x_convince, x_fadesInto, x_letFade, s_T, s_F, s_bd, s_cl, s_rd, s_wr, s_ite, z_ite, z_neg, z_add, z_sub, z_mul, z_le, z_lt, z_eq, eC_at, eC_7, eC_8, eC_9, eC_10, eC_11, eC_p7, eC_p8, eC_p9, eC_p10, eC_p11, eC_up, ud_same, ud_ne, if_pos, if_neg, z_0, z_1, z_2, z_3, z_4, z_5, z_6, z_7, z_8, z_9, z_10, z_11, z_12, z_13, z_14, z_15, z_16, z_17, z_18, z_19, z_20, z_21, z_22, z_23, z_24, z_25, z_26, z_27, z_28, z_29, z_30, z_31, z_32, z_33, z_34, z_35, z_36, z_37, z_38, z_39, z_40, z_41, z_42, z_43, z_44, z_45, z_46, z_47, z_48, z_49, z_50, z_51, z_52, z_53, z_54, z_55, z_56, z_57, z_58, z_59, z_60, z_61, z_62, z_63, z_64, z_65, z_66, z_67, z_68, z_69, z_70, z_71, z_72, z_73, z_74, z_75, z_76, z_77, z_78, z_79, z_80, z_81, z_82, z_83, z_84, z_85, z_86, z_87, z_88, z_89, z_90, z_91, z_92, z_93, z_94, z_95, z_96, z_97, z_98, z_99, z_100, z_101, z_102, z_103, z_104, z_105, z_106, z_107, z_108, z_109, z_110, z_111, z_112, z_113, z_114, z_115, z_116, z_117, z_118, z_119, z_120, z_121, z_122, z_123, z_124, z_125, z_126, z_127, z_199, z_200, z_360, z_410, z_1000, z_1023, z_1024, z_1219, z_9999, z_10240, z_65537]
theorem lay_0 {a b v : Int} (i : Int) : lay d a b v 0 i = if i = a * 11 + b ∨ i = b * 11 + a then v else d 0 i := by
  unfold lay ud
  by_cases c : i = b * 11 + a
  · rw [if_pos ⟨rfl, c⟩, if_pos (Or.inr c)]
  · rw [if_neg (fun z => c z.2)]
    by_cases c2 : i = a * 11 + b
    · rw [if_pos ⟨rfl, c2⟩, if_pos (Or.inl c2)]
    · rw [if_neg (fun z => c2 z.2), if_neg (by omega)]
theorem lay_ne {a b v : Int} (k : Nat) (i : Int) (hk : k ≠ 0) : lay d a b v k i = d k i := by
  unfold lay
  rw [ud_ne _ _ (Or.inl hk), ud_ne _ _ (Or.inl hk)]
theorem p_tellN (hd : okd d) {a : Int} (a0 : 0 ≤ a) (a1 : a ≤ 9) : f_X6_tell (eC d) (zI a) (zI (-1)) = some (zI (d 3 a), eC (ud d 3 a (-6))) ∧ okd (ud d 3 a (-6)) := by
  have ca : 0 ≤ a ∧ a ≤ 9 := ⟨a0, a1⟩
  refine ⟨?_, okd_ud hd (show (-6 : Int) ≤ -6 by omega) (show -6 ≤ (9 : Int) by omega)⟩
  unfold f_X6_tell
  simp (disch := omega) only [x_isPlace, x_isHouse, x_isTale, x_within, x_longBetween, x_layRoad, x_doubtOf, x_furnish, x_beliefOf, x_convince, x_fadesInto, x_letFade, s_T, s_F, s_bd, s_cl, s_rd, s_wr, s_ite, z_ite, z_neg, z_add, z_sub, z_mul, z_le, z_lt, z_eq, eC_at, eC_7, eC_8, eC_9, eC_10, eC_11, eC_p7, eC_p8, eC_p9, eC_p10, eC_p11, eC_up, ud_same, ud_ne, if_pos, if_neg, z_0, z_1, z_2, z_3, z_4, z_5, z_6, z_7, z_8, z_9, z_10, z_11, z_12, z_13, z_14, z_15, z_16, z_17, z_18, z_19, z_20, z_21, z_22, z_23, z_24, z_25, z_26, z_27, z_28, z_29, z_30, z_31, z_32, z_33, z_34, z_35, z_36, z_37, z_38, z_39, z_40, z_41, z_42, z_43, z_44, z_45, z_46, z_47, z_48, z_49, z_50, z_51, z_52, z_53, z_54, z_55, z_56, z_57, z_58, z_59, z_60, z_61, z_62, z_63, z_64, z_65, z_66, z_67, z_68, z_69, z_70, z_71, z_72, z_73, z_74, z_75, z_76, z_77, z_78, z_79, z_80, z_81, z_82, z_83, z_84, z_85, z_86, z_87, z_88, z_89, z_90, z_91, z_92, z_93, z_94, z_95, z_96, z_97, z_98, z_99, z_100, z_101, z_102, z_103, z_104, z_105, z_106, z_107, z_108, z_109, z_110, z_111, z_112, z_113, z_114, z_115, z_116, z_117, z_118, z_119, z_120, z_121, z_122, z_123, z_124, z_125, z_126, z_127, z_199, z_200, z_360, z_410, z_1000, z_1023, z_1024, z_1219, z_9999, z_10240, z_65537]
/-- one house of the star -/
def st1 (d : Nat → Int → Int) (h by' : Int) : Nat → Int → Int := ud (fur (lay d 10 h 9) h by' 0) 3 h (-6)
theorem st1_ne {h by' : Int} (k : Nat) (i : Int) (hk : k ≠ 0) (hz : ¬ ((k = 1 ∨ k = 2 ∨ k = 3) ∧ i = h)) : st1 d h by' k i = d k i := by
  unfold st1
  rw [ud_ne _ _ (by omega), fur_ne _ _ (by omega), lay_ne _ _ hk]
theorem st1_at {h by' : Int} : st1 d h by' 1 h = by' ∧ st1 d h by' 2 h = 0 ∧ st1 d h by' 3 h = -6 := by
  unfold st1
  refine ⟨?_, ?_, ud_same _ _ _ _⟩
  · rw [ud_ne _ _ (by omega), fur_1]
  · rw [ud_ne _ _ (by omega), fur_2]
theorem st1_0 {h by' : Int} (i : Int) : st1 d h by' 0 i = if i = 10 * 11 + h ∨ i = h * 11 + 10 then 9 else d 0 i := by
  unfold st1
  rw [ud_ne _ _ (by omega), fur_ne _ _ (by omega), lay_0]
theorem t_588 (hL : L ≤ 260) (hB : bsS d) (hf : okd f) (he : clr e) (tl : 0 ≤ tale ∧ tale ≤ 9) (hN : nmS step tens blv reached) :
    oK Q1 (g_588 L xs (eC d) (eC f) (eC e) (eC n) σW σY σK ℓK σH (zI step) (zI tale) (zI tens) (zI blv) (zI reached)) := by
  obtain ⟨house, e1, h0, h1⟩ := x_cell hL xs (a := 3) (n := 10) (by omega) (by omega) (by omega) (by omega)
  obtain ⟨dd, e2, d0, d1⟩ := x_cell hL xs (a := 4) (n := 9) (by omega) (by omega) (by omega) (by omega)
  unfold g_588
  rw [z_3, z_10, e1, s_cl, z_4, z_9, e2, s_cl, z_1, z_add, z_add, z_rem (by omega) (by omega) (by omega) (by omega), s_bd, s_bd, z_0]
  refine ok_forI (τ := qS) 10 (fun k u => ∃ d : Nat → Int → Int, u = eC d ∧ bsS d ∧ ∀ l, 0 ≤ l → l < k → d 0 (10 * 11 + l) = 9 ∧ d 1 l = (if l = house then 1 + dd else 9) ∧ d 2 l = 0 ∧ d 3 l = -6) (fun again k u k0 k1 hP ih => ?_) 20000 0 (eC d) (by omega) (by omega) ⟨d, rfl, hB, fun l a b => by omega⟩ (by omega)
  obtain ⟨d, rfl, hB, hr⟩ := hP
  unfold b_L_law_619
  dsimp only
  refine ok_ifE (by rw [z_10, z_le (by omega) (by omega) (by omega) (by omega)]) (fun c => ?_) (fun c => ?_)
  · exact t_687 hL hB hf he ⟨⟨by omega, by omega⟩, ⟨by omega, by omega⟩, fun l a b => hr l a (by omega)⟩ ⟨Int.emod_nonneg _ (by omega), by have := Int.emod_lt_of_pos (tale + 1) (show (0 : Int) < 10 by omega); omega⟩ hN
  · have nx : ∀ by' : Int, 0 ≤ by' → by' ≤ 9 → by' = (if k = house then 1 + dd else 9) → ∃ a b : Int, 0 ≤ a ∧ a < 100 ∧ 0 ≤ b ∧ b < 100 ∧ f_X6_road (eC d) (zI 10) (zI k) (zI 9) = some (zI a, eC (lay d 10 k 9)) ∧ f_X6_house (eC (lay d 10 k 9)) (zI k) (zI by') (zI 0) = some (zI b, eC (fur (lay d 10 k 9) k by' 0)) ∧ (∃ c : Int, -6 ≤ c ∧ c < 100 ∧ f_X6_tell (eC (fur (lay d 10 k 9) k by' 0)) (zI k) (zI (-1)) = some (zI c, eC (st1 d k by'))) ∧ oK Q1 (again (zI (k + 1), eC (st1 d k by'))) := by
      intro by' y0 y1 hy
      obtain ⟨hd, b7, b8, b4, b11⟩ := hB
      obtain ⟨p1, p2⟩ := p_road hd (a := 10) (b := k) (v := 9) (by omega) (by omega) k0 (by omega) (by omega) (by omega) (by omega)
      obtain ⟨q1, q2⟩ := p_house p2 k0 (show k ≤ 9 by omega) y0 y1 (w := 0) (by omega) (by omega)
      obtain ⟨r1, r2⟩ := p_tellN q2 k0 (show k ≤ 9 by omega)
      have o0 := okd_0 hd (10 * 11 + k)
      have o1 := okd_1 p2 k
      have o3 := okd_3 q2 k
      refine ⟨_, _, by omega, by omega, o1.1, by omega, p1, q1, ⟨_, o3.1, by omega, r1⟩, ih (by omega) _ ⟨_, rfl, ⟨r2, ?_, ?_, fun j a b => ?_, ?_⟩, fun l a b => ?_⟩⟩
      · rw [st1_ne _ _ (by omega) (by omega)]; exact b7
      · rw [st1_ne _ _ (by omega) (by omega)]; exact b8
      · rw [st1_ne _ _ (by omega) (by omega)]; exact b4 j a b
      · rw [st1_ne _ _ (by omega) (by omega)]; exact b11
      · obtain ⟨a1, a2, a3⟩ := st1_at (d := d) (h := k) (by' := by')
        by_cases z : l = k
        · subst z
          rw [st1_0, if_pos (Or.inl rfl), a1, a2, a3]
          exact ⟨rfl, hy, rfl, rfl⟩
        · obtain ⟨g1, g2, g3, g4⟩ := hr l a (by omega)
          rw [st1_0, if_neg (by omega), st1_ne _ _ (by omega) (by omega), st1_ne _ _ (by omega) (by omega), st1_ne _ _ (by omega) (by omega)]
          exact ⟨g1, g2, g3, g4⟩
    have em1 : (-1 : Int32) = zI (-1) := by decide
    have em6 : (-6 : Int32) = zI (-6) := by decide
    have nlt : ∀ a : Int, 0 ≤ a → a < 100 → ¬ zI a < zI 0 := fun a a0 a1 => by rw [z_lt (by omega) (by omega) (by omega) (by omega)]; omega
    have nle : ∀ a : Int, -6 ≤ a → a < 100 → zI (-6) ≤ zI a := fun a a0 a1 => by rw [z_le (by omega) (by omega) (by omega) (by omega)]; omega
    rw [em1, em6, z_10, z_9, z_0, z_s1]
    refine ok_ifE (z_eq (by omega) (by omega) (by omega) (by omega)) (fun ce => ?_) (fun ce => ?_)
    · obtain ⟨a, b, a0, a1, b0, b1, p1, p2, ⟨c', c0, c1, p3⟩, p4⟩ := nx (1 + dd) (by omega) (by omega) (by rw [if_pos ce])
      rw [p1, s_cl]
      dsimp only
      rw [if_neg (nlt a a0 a1), p2, s_cl]
      dsimp only
      rw [if_neg (nlt b b0 b1), p3, s_cl]
      dsimp only
      rw [if_pos (nle c' c0 c1)]
      exact p4
    · obtain ⟨a, b, a0, a1, b0, b1, p1, p2, ⟨c', c0, c1, p3⟩, p4⟩ := nx 9 (by omega) (by omega) (by rw [if_neg ce])
      rw [p1, s_cl]
      dsimp only
      rw [if_neg (nlt a a0 a1), p2, s_cl]
      dsimp only
      rw [if_neg (nlt b b0 b1), p3, s_cl]
      dsimp only
      rw [if_pos (nle c' c0 c1)]
      exact p4
theorem mrn_ne (k : Nat) (i : Int) (hk : k ≠ 99) (h2 : k ≠ 2) : mrn d k i = d k i := by
  unfold mrn acd actd md
  rw [if_neg (by dsimp only; omega), if_neg (by dsimp only; omega), if_neg (by dsimp only; omega), if_neg (by dsimp only; omega), if_neg (by omega), ud_ne _ _ (Or.inl hk), ud_ne _ _ (Or.inl hk), ud_ne _ _ (Or.inl hk)]
theorem t_501 (hL : L ≤ 260) (hd : okd d) (b7 : d 99 7 = 0) (b4 : ∀ k, 0 ≤ k → k ≤ 9 → d 4 k = k) (b11 : d 99 11 ≤ 1) (hC : chS d step) (hf : okd f) (he : clr e) (tl : 0 ≤ tale ∧ tale ≤ 9) (hN : nmS step tens blv reached) :
    oK Q1 (g_501 L xs (eC d) (eC f) (eC e) (eC n) σW σY σK ℓK σH (zI step) (zI tale) (zI tens) (zI blv) (zI reached)) := by
  obtain ⟨he, h0⟩ := he
  have hw := wipe_ok he
  have hw1 : ud e 99 1 0 99 1 = 0 := ud_same _ _ _ _
  obtain ⟨q1, q2, q3, q4⟩ := say_one hw (spl_nil hw1) (c := 46) (by omega) (by omega) kd_46 (by omega) (by omega)
  rw [pl_46] at q4
  have hc : can ([] ++ [(4, -6, 0)]) d := mrn_can (by omega)
  have g1 := (go_pass (n := n) q2 hd hf q4 hc).2.1
  have hgo : goD ([] ++ [((4, -6, 0) : Act)]) d = mrn d := rfl
  rw [hgo] at g1
  have hCm : chS (mrn d) step := ⟨hC.1, fun q p a b c' d' => by rw [mrn_ne _ _ (by omega) (by omega)]; exact hC.2 q p a b c' d'⟩
  have em6 : (-6 : Int32) = zI (-6) := by decide
  unfold g_501
  rw [p_wipe he, s_cl, h0]
  dsimp only
  rw [if_neg (show ¬ zI 0 < (0 : Int32) by decide), z_46, q1, s_cl, hw1, z_1]
  dsimp only
  rw [if_pos (congrArg zI (by first | omega | rfl | (simp; done))), p_done q2 hd hf q4 hc, s_cl, hgo]
  dsimp only
  rw [if_pos (congrArg zI (by first | omega | rfl | (simp; done))), z_0]
  refine ok_forI (τ := qS) 10 (fun _ _ => True) (fun again k u k0 k1 _ ih => ?_) 20000 0 σW (by omega) (by omega) trivial (by omega)
  unfold b_L_law_531
  dsimp only
  refine ok_ifE (by rw [z_10, z_le (by omega) (by omega) (by omega) (by omega)]) (fun c => ?_) (fun c => ?_)
  · exact t_588 hL ⟨g1, by rw [mrn_7]; exact b7, mrn_8, fun k a b => by rw [mrn_ne _ _ (by omega) (by omega)]; exact b4 k a b, by rw [mrn_11]; omega⟩ g1 (clr_ud q2) tl hN
  · obtain ⟨s1, x1⟩ := p_keep g1 hCm u k0 (show k ≤ 9 by omega) (w := 0) (by omega) (by omega)
    obtain ⟨s2, x2⟩ := p_keep g1 hCm s1 k0 (show k ≤ 9 by omega) (w := 1) (by omega) (by omega)
    have st := ih (by omega) s2 trivial
    rw [z_1, z_add, em6, z_0, x1, s_cl]
    dsimp only
    refine ok_ifE (z_eq (by omega) (by omega) (by omega) (by omega)) (fun ck => ?_) (fun ck => ?_)
    · rw [if_pos ck, if_pos rfl, x2, s_cl, if_pos ck]
      dsimp only
      rw [if_pos (congrArg zI ck), if_pos rfl]
      exact st
    · rw [if_neg ck, if_pos rfl, x2, s_cl, if_neg ck]
      dsimp only
      have q : ¬ zI k = zI 0 := by rw [z_eq (by omega) (by omega) (by omega) (by omega)]; exact ck
      rw [if_neg q, if_pos rfl]
      exact st
theorem t_375 (hL : L ≤ 260) (hd : okd d) (b7 : d 99 7 = 0) (b4 : ∀ k, 0 ≤ k → k ≤ 9 → d 4 k = k) (b11 : d 99 11 = 0) (hC : chS d step) (hf : okd f) (he : okp e) {l : List Act} {heat : Int} (hs : spl e l 0 (e 99 1)) (hc : can l d) (g8 : goD l d 99 8 = 9) (g9 : goD l d 99 9 = heat) (g11 : goD l d 99 11 = 0) (h50 : e 99 1 < 60) (tl : 0 ≤ tale ∧ tale ≤ 9) (hN : nmS step tens blv reached) :
    oK Q1 (g_375 L xs (eC d) (eC f) (eC e) (eC n) σW σY σK ℓK σH (zI step) (zI tale) (zI tens) (zI (e 99 1)) (zI heat) (zI blv) (zI l.length) (zI reached)) := by
  have hlen := spl_len _ _ _ hs
  have he1 := he.2
  obtain ⟨k0, k1, k2⟩ := go_pass (n := n) he hd hf hs hc
  have hh := okd_h k1
  rw [g9] at hh
  have e9 : (9 : Int32) = zI 9 := z_9
  unfold g_375
  rw [z_0]
  refine ok_ifE (z_eq (by omega) (by omega) (by omega) (by omega)) (fun cz => ?_) (fun cz => ?_)
  · obtain ⟨q1, q2, q3, q4⟩ := say_one he hs (c := 42) (by omega) (by omega) kd_42 (by omega) h50
    rw [pl_42] at q4
    have hrs : rsn (goD l d) 2 (-6) = 3 := by rw [rsn_2, g8, if_neg (by omega), g9, if_pos (by omega)]
    have ju := fun n f hf => p_judge_st (n := n) (f := f) q2 hd hf (l := l) (x := (2, -6, 0)) q4 hc (by dsimp only; rw [hrs]; omega)
    obtain ⟨f1, ⟨n1, j1⟩, -⟩ := ju n f hf
    obtain ⟨f2, -, ⟨n2, j2⟩⟩ := ju n1 _ f1
    dsimp only at j2
    rw [hrs] at j2
    rw [z_42, q1, s_cl, z_1, z_add]
    dsimp only
    rw [if_pos rfl, j1, s_cl]
    dsimp only
    rw [if_pos rfl, j2, s_cl, z_3]
    dsimp only
    rw [if_pos rfl, p_wipe q2, s_cl, q3]
    dsimp only
    rw [if_pos rfl]
    exact t_501 hL hd b7 b4 (by omega) hC f2 (clr_ud q2) tl hN
  · have ce := clr_ud he
    obtain ⟨q1, q2, q3, q4⟩ := say_one ce.1 (spl_nil ce.2) (c := 46) (by omega) (by omega) kd_46 (by omega) (by have := ce.2; omega)
    rw [pl_46] at q4
    rw [ce.2] at q1
    have o7 : goD l d 99 7 = d 99 7 := (k2 99 7).resolve_left (by unfold tch; omega)
    have o4 : ∀ k, goD l d 4 k = d 4 k := fun k => (k2 4 k).resolve_left (by unfold tch; omega)
    have o0 : ∀ k, goD l d 0 k = d 0 k := fun k => (k2 0 k).resolve_left (by unfold tch; omega)
    have hc' : can ([] ++ [(4, -6, 0)]) (goD l d) := mrn_can (by omega)
    obtain ⟨u0, u1, u2⟩ := go_pass (n := goN l (n0 n) d) q2 k1 k1 q4 hc'
    have hgo : goD ([] ++ [((4, -6, 0) : Act)]) (goD l d) = mrn (goD l d) := rfl
    rw [hgo] at u1
    have w1 := fun n => p_pan (n := n) q2 k1 k1 q4 hc' (w := 1) (by omega) (by omega)
    have w0 := fun n => p_pan (n := n) q2 k1 u1 q4 hc' (w := 0) (by omega) (by omega)
    rw [hgo, show pFact (mrn (goD l d)) 1 = mrn (goD l d) 99 9 from rfl, mrn_9] at w1
    rw [hgo, show pFact (mrn (goD l d)) 0 = mrn (goD l d) 99 8 from rfl, mrn_8] at w0
    have dn := fun n => p_done (n := n) q2 k1 u1 q4 hc'
    rw [hgo] at dn
    rw [p_done he hd hf hs hc, s_cl, z_1]
    dsimp only
    rw [if_pos rfl, p_told1, s_cl, g8, e9, if_pos rfl, z_2, p_told2, s_cl, g9, if_pos rfl, z_46, q1, s_cl]
    dsimp only
    rw [if_pos (congrArg zI (by first | omega | rfl | (simp; done))), w1, s_cl]
    dsimp only
    rw [if_pos rfl, w0, s_cl, z_10]
    dsimp only
    rw [if_pos rfl, dn, s_cl]
    dsimp only
    rw [if_pos (congrArg zI (by first | omega | rfl | (simp; done))), z_4, p_told4, s_cl, mrn_11, g11, if_pos (congrArg zI (by first | omega | rfl | (simp; done)))]
    exact t_501 hL u1 (by rw [mrn_7, o7]; exact b7) (fun k a b => by rw [mrn_ne _ _ (by omega) (by omega), o4]; exact b4 k a b) (by rw [mrn_11, g11]; omega) ⟨hC.1, fun q p a b c' d' => by rw [mrn_ne _ _ (by omega) (by omega), o0]; exact hC.2 q p a b c' d'⟩ u1 (clr_ud q2) tl hN
end SEG10


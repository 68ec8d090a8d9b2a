/-! the law's segments: the longest night, ninety-nine mornings -/
section SEG2
variable {d e f n : Nat → Int → Int} {L : Nat} {xs : Nat → Int32} {σC σD σP σN σW σY σK σH σE : qS} {ℓK κ : qL} {step tens bel reached w t : Int}
theorem p_told2 : f_X6_told (eC e) (eC d) (zI 2) = some (zI (d 99 9)) := by
  unfold f_X6_told
  simp (disch := omega) only [x_isPlace, x_isHouse, x_isTale, x_within, x_longBetween, x_layRoad, x_doubtOf, x_furnish, x_beliefOf, x_convince, x_fadesInto, x_letFade, x_panFact, s_T, s_F, s_bd, s_cl, s_rd, s_wr, s_ite, z_ite, z_neg, z_add, z_sub, z_mul, z_le, z_lt, z_eq, eC_at, eC_7, eC_8, eC_9, eC_10, eC_11, eC_p7, eC_p8, eC_p9, eC_p10, eC_p11, eC_up, ud_same, ud_ne, if_pos, if_neg, z_0, z_1, z_2, z_3, z_4, z_5, z_6, z_7, z_8, z_9, z_10, z_11, z_12, z_13, z_14, z_15, z_16, z_17, z_18, z_19, z_20, z_21, z_22, z_23, z_24, z_25, z_26, z_27, z_28, z_29, z_30, z_31, z_32, z_33, z_34, z_35, z_36, z_37, z_38, z_39, z_40, z_41, z_42, z_43, z_44, z_45, z_46, z_47, z_48, z_49, z_50, z_51, z_52, z_53, z_54, z_55, z_56, z_57, z_58, z_59, z_60, z_61, z_62, z_63, z_64, z_65, z_66, z_67, z_68, z_69, z_70, z_71, z_72, z_73, z_74, z_75, z_76, z_77, z_78, z_79, z_80, z_81, z_82, z_83, z_84, z_85, z_86, z_87, z_88, z_89, z_90, z_91, z_92, z_93, z_94, z_95, z_96, z_97, z_98, z_99, z_100, z_101, z_102, z_103, z_104, z_105, z_106, z_107, z_108, z_109, z_110, z_111, z_112, z_113, z_114, z_115, z_116, z_117, z_118, z_119, z_120, z_121, z_122, z_123, z_124, z_125, z_126, z_127, z_199, z_200, z_360, z_410, z_1000, z_1023, z_1024, z_1219, z_9999, z_10240, z_65537]
  rfl
theorem p_told3 : f_X6_told (eC e) (eC d) (zI 3) = some (zI (d 99 10)) := by
  unfold f_X6_told
  simp (disch := omega) only [x_isPlace, x_isHouse, x_isTale, x_within, x_longBetween, x_layRoad, x_doubtOf, x_furnish, x_beliefOf, x_convince, x_fadesInto, x_letFade, x_panFact, s_T, s_F, s_bd, s_cl, s_rd, s_wr, s_ite, z_ite, z_neg, z_add, z_sub, z_mul, z_le, z_lt, z_eq, eC_at, eC_7, eC_8, eC_9, eC_10, eC_11, eC_p7, eC_p8, eC_p9, eC_p10, eC_p11, eC_up, ud_same, ud_ne, if_pos, if_neg, z_0, z_1, z_2, z_3, z_4, z_5, z_6, z_7, z_8, z_9, z_10, z_11, z_12, z_13, z_14, z_15, z_16, z_17, z_18, z_19, z_20, z_21, z_22, z_23, z_24, z_25, z_26, z_27, z_28, z_29, z_30, z_31, z_32, z_33, z_34, z_35, z_36, z_37, z_38, z_39, z_40, z_41, z_42, z_43, z_44, z_45, z_46, z_47, z_48, z_49, z_50, z_51, z_52, z_53, z_54, z_55, z_56, z_57, z_58, z_59, z_60, z_61, z_62, z_63, z_64, z_65, z_66, z_67, z_68, z_69, z_70, z_71, z_72, z_73, z_74, z_75, z_76, z_77, z_78, z_79, z_80, z_81, z_82, z_83, z_84, z_85, z_86, z_87, z_88, z_89, z_90, z_91, z_92, z_93, z_94, z_95, z_96, z_97, z_98, z_99, z_100, z_101, z_102, z_103, z_104, z_105, z_106, z_107, z_108, z_109, z_110, z_111, z_112, z_113, z_114, z_115, z_116, z_117, z_118, z_119, z_120, z_121, z_122, z_123, z_124, z_125, z_126, z_127, z_199, z_200, z_360, z_410, z_1000, z_1023, z_1024, z_1219, z_9999, z_10240, z_65537]
  rfl
theorem p_told4 : f_X6_told (eC e) (eC d) (zI 4) = some (zI (d 99 11)) := by
  unfold f_X6_told
  simp (disch := omega) only [x_isPlace, x_isHouse, x_isTale, x_within, x_longBetween, x_layRoad, x_doubtOf, x_furnish, x_beliefOf, x_convince, x_fadesInto, x_letFade, x_panFact, s_T, s_F, s_bd, s_cl, s_rd, s_wr, s_ite, z_ite, z_neg, z_add, z_sub, z_mul, z_le, z_lt, z_eq, eC_at, eC_7, eC_8, eC_9, eC_10, eC_11, eC_p7, eC_p8, eC_p9, eC_p10, eC_p11, eC_up, ud_same, ud_ne, if_pos, if_neg, z_0, z_1, z_2, z_3, z_4, z_5, z_6, z_7, z_8, z_9, z_10, z_11, z_12, z_13, z_14, z_15, z_16, z_17, z_18, z_19, z_20, z_21, z_22, z_23, z_24, z_25, z_26, z_27, z_28, z_29, z_30, z_31, z_32, z_33, z_34, z_35, z_36, z_37, z_38, z_39, z_40, z_41, z_42, z_43, z_44, z_45, z_46, z_47, z_48, z_49, z_50, z_51, z_52, z_53, z_54, z_55, z_56, z_57, z_58, z_59, z_60, z_61, z_62, z_63, z_64, z_65, z_66, z_67, z_68, z_69, z_70, z_71, z_72, z_73, z_74, z_75, z_76, z_77, z_78, z_79, z_80, z_81, z_82, z_83, z_84, z_85, z_86, z_87, z_88, z_89, z_90, z_91, z_92, z_93, z_94, z_95, z_96, z_97, z_98, z_99, z_100, z_101, z_102, z_103, z_104, z_105, z_106, z_107, z_108, z_109, z_110, z_111, z_112, z_113, z_114, z_115, z_116, z_117, z_118, z_119, z_120, z_121, z_122, z_123, z_124, z_125, z_126, z_127, z_199, z_200, z_360, z_410, z_1000, z_1023, z_1024, z_1219, z_9999, z_10240, z_65537]
  rfl
theorem p_told1 : f_X6_told (eC e) (eC d) (zI 1) = some (zI (d 99 8)) := by
  unfold f_X6_told
  simp (disch := omega) only [x_isPlace, x_isHouse, x_isTale, x_within, x_longBetween, x_layRoad, x_doubtOf, x_furnish, x_beliefOf, x_convince, x_fadesInto, x_letFade, x_panFact, s_T, s_F, s_bd, s_cl, s_rd, s_wr, s_ite, z_ite, z_neg, z_add, z_sub, z_mul, z_le, z_lt, z_eq, eC_at, eC_7, eC_8, eC_9, eC_10, eC_11, eC_p7, eC_p8, eC_p9, eC_p10, eC_p11, eC_up, ud_same, ud_ne, if_pos, if_neg, z_0, z_1, z_2, z_3, z_4, z_5, z_6, z_7, z_8, z_9, z_10, z_11, z_12, z_13, z_14, z_15, z_16, z_17, z_18, z_19, z_20, z_21, z_22, z_23, z_24, z_25, z_26, z_27, z_28, z_29, z_30, z_31, z_32, z_33, z_34, z_35, z_36, z_37, z_38, z_39, z_40, z_41, z_42, z_43, z_44, z_45, z_46, z_47, z_48, z_49, z_50, z_51, z_52, z_53, z_54, z_55, z_56, z_57, z_58, z_59, z_60, z_61, z_62, z_63, z_64, z_65, z_66, z_67, z_68, z_69, z_70, z_71, z_72, z_73, z_74, z_75, z_76, z_77, z_78, z_79, z_80, z_81, z_82, z_83, z_84, z_85, z_86, z_87, z_88, z_89, z_90, z_91, z_92, z_93, z_94, z_95, z_96, z_97, z_98, z_99, z_100, z_101, z_102, z_103, z_104, z_105, z_106, z_107, z_108, z_109, z_110, z_111, z_112, z_113, z_114, z_115, z_116, z_117, z_118, z_119, z_120, z_121, z_122, z_123, z_124, z_125, z_126, z_127, z_199, z_200, z_360, z_410, z_1000, z_1023, z_1024, z_1219, z_9999, z_10240, z_65537]
  rfl
/-- a pad with nothing on it -/
def clr (e : Nat → Int → Int) : Prop := okp e ∧ e 99 1 = 0
theorem clr_ud (he : okp e) : clr (ud e 99 1 0) := ⟨wipe_ok he, ud_same _ _ _ _⟩
theorem spl_nil (h : e 99 1 = 0) : spl e [] 0 (e 99 1) := h.symm
/-- one sign for one act -/
theorem say_one (he : okp e) {l : List Act} (hs : spl e l 0 (e 99 1)) {c k : Int} (c0 : 33 ≤ c) (c1 : c ≤ 126) (hk : kdc c = k) (k1 : 1 ≤ k) (hn : e 99 1 < 60) :
    f_X6_say (eC e) (zI c) = some (zI (e 99 1 + 1), eC (sy e c)) ∧ okp (sy e c) ∧ sy e c 99 1 = e 99 1 + 1 ∧ spl (sy e c) (l ++ [(k, plc c, 0)]) 0 (sy e c 99 1) :=
  ⟨p_say he c0 c1 hn, sy_ok he c0 c1 hn, sy_1 c, by rw [sy_1]; exact spl_one hs hk k1⟩
/-- a morning -/
def mrn (d : Nat → Int → Int) : Nat → Int → Int := acd d (4, -6, 0)
theorem mrn_11 : mrn d 99 11 = d 99 11 + 1 := by unfold mrn acd actd md; simp; simp (disch := omega) only [ud_same, ud_ne]
theorem mrn_10 : mrn d 99 10 = d 99 10 := by unfold mrn acd actd md; simp; simp (disch := omega) only [ud_same, ud_ne]
theorem mrn_9 : mrn d 99 9 = 0 := by unfold mrn acd actd md; simp; simp (disch := omega) only [ud_same, ud_ne]
theorem mrn_8 : mrn d 99 8 = 10 := by unfold mrn acd actd md; simp; simp (disch := omega) only [ud_same, ud_ne]
theorem mrn_7 : mrn d 99 7 = d 99 7 := by unfold mrn acd actd md; simp; simp (disch := omega) only [ud_same, ud_ne]
theorem kd_46 : kdc 46 = 4 := by decide
theorem pl_46 : plc 46 = -6 := by decide
theorem rsn_4 (w : Int) : rsn d 4 w = if 99 ≤ d 99 11 then 4 else 0 := by unfold rsn; rw [if_neg (by decide), if_neg (by decide), if_neg (by decide), if_neg (by decide)]
theorem mrn_can (h : d 99 11 < 99) : can [(4, -6, 0)] d := ⟨by rw [rsn_4, if_neg (by omega)], trivial⟩
theorem t_1807 (hL : L ≤ 260) (hd : okd d) (he : clr e) (hf : okd f) (hs : d 99 7 = 0) (hm : d 99 11 = 99) {ring : Int} (r1 : 1 ≤ ring) (r2 : ring ≤ 10) (ht : d 99 10 = 57 % ring) (s0 : 0 ≤ step ∧ step ≤ 100) (nn0 : 0 ≤ tens ∧ tens ≤ 100) (r0 : 0 ≤ reached ∧ reached ≤ 10) (b0 : 0 ≤ bel ∧ bel ≤ 2000) (hg : endG step tens bel reached) :
    oK Q1 (g_1807 L xs (eC d) (eC f) (eC e) (eC n) σW σY σK ℓK σH (zI step) (zI tens) (zI bel) (zI reached) (zI ring)) := by
  obtain ⟨he, h0⟩ := he
  obtain ⟨q1, q2, q3, q4⟩ := say_one he (spl_nil h0) (c := 46) (by omega) (by omega) kd_46 (by omega) (by omega)
  have hr : ¬ rsn (goD [] d) 4 (plc 46) = 0 := by rw [rsn_4]; show ¬ (if 99 ≤ d 99 11 then (4 : Int) else 0) = 0; rw [if_pos (by omega)]; decide
  have hr4 : rsn (goD [] d) 4 (plc 46) = 4 := by rw [rsn_4]; show (if 99 ≤ d 99 11 then (4 : Int) else 0) = 4; rw [if_pos (by omega)]
  have ju := fun n f hf => p_judge_st (n := n) (f := f) q2 hd hf (l := []) (x := (4, plc 46, 0)) q4 trivial hr
  obtain ⟨f1, ⟨n1, j1⟩, -⟩ := ju n f hf
  obtain ⟨f2, -, ⟨n2, j2⟩⟩ := ju n1 _ f1
  obtain ⟨f3, n3, j3⟩ := p_done_st (n := n2) (f := goD [] d) q2 hd f2 (l := []) (x := (4, plc 46, 0)) q4 trivial hr
  dsimp only at j2
  rw [hr4] at j2
  unfold g_1807
  have e3 : (-3 : Int32) = zI (-3) := by decide
  have e57 : (57 : Int32) = zI 57 := by decide
  rw [e3, e57, z_46, q1, s_cl, h0, z_1, z_0]
  dsimp only
  rw [if_pos (congrArg zI (by first | omega | rfl | (simp; done))), j1, s_cl]
  dsimp only
  rw [if_pos (congrArg zI (by first | omega | rfl | (simp; done))), j2, s_cl, z_4]
  dsimp only
  rw [if_pos rfl, j3, s_cl]
  dsimp only
  rw [if_pos rfl, p_wipe q2, s_cl, q3, h0]
  dsimp only
  rw [if_pos (congrArg zI (by first | omega | rfl | (simp; done))), z_3, p_told3, s_cl, s_nz (by omega) (by omega) (by omega), z_rem (by omega) (by omega) (by omega) (by omega), ht, if_pos rfl]
  exact t_1866 hL hd hs s0 nn0 r0 b0 hg
theorem t_1743 (hL : L ≤ 260) (hd : okd d) (he : clr e) (hf : okd f) (hs : d 99 7 = 0) {ring : Int} (r1 : 1 ≤ ring) (r2 : ring ≤ 10) (ht : d 99 10 = 57 % ring) (s0 : 0 ≤ step ∧ step ≤ 100) (nn0 : 0 ≤ tens ∧ tens ≤ 100) (r0 : 0 ≤ reached ∧ reached ≤ 10) (b0 : 0 ≤ bel ∧ bel ≤ 2000) (hg : endG step tens bel reached) :
    oK Q1 (g_1743 L xs (eC d) (eC f) (eC e) (eC n) σW σY σK ℓK σH (zI step) (zI tens) (zI bel) (zI reached) (zI ring)) := by
  have h11 := okd_m hd
  unfold g_1743
  rw [z_4, p_told4, s_cl]
  refine ok_forI (τ := qS × qS × qS × qS) 99 (fun i u => ∃ d f e n : Nat → Int → Int, u = (eC d, eC f, eC e, eC n) ∧ okd d ∧ okd f ∧ clr e ∧ d 99 7 = 0 ∧ d 99 10 = 57 % ring ∧ d 99 11 = i) (fun again i u i0 i1 hP ih => ?_) 20000 (d 99 11) (eC d, eC f, eC e, eC n) (by omega) (by omega) ⟨d, f, e, n, rfl, hd, hf, he, hs, ht, rfl⟩ (by omega)
  obtain ⟨d, f, e, n, rfl, hd, hf, he, hs, ht, hm⟩ := hP
  unfold b_L_law_1754
  dsimp only
  rw [z_99]
  refine ok_ifE (z_le (by omega) (by omega) (by omega) (by omega)) (fun c => ?_) (fun c => ?_)
  · exact t_1807 hL hd he hf hs (by omega) r1 r2 ht s0 nn0 r0 b0 hg
  · obtain ⟨he, h0⟩ := he
    obtain ⟨q1, q2, q3, q4⟩ := say_one he (spl_nil h0) (c := 46) (by omega) (by omega) kd_46 (by omega) (by omega)
    rw [pl_46] at q4
    have hc : can ([] ++ [(4, -6, 0)]) d := mrn_can (by omega)
    have g1 := (go_pass (n := n) q2 hd hf q4 hc).2.1
    have hgo : goD ([] ++ [((4, -6, 0) : Act)]) d = mrn d := rfl
    rw [z_46, q1, s_cl, h0, z_1, z_0]
    dsimp only
    rw [if_pos (by rw [Int.zero_add]), p_done q2 hd hf q4 hc, s_cl, hgo]
    dsimp only
    rw [if_pos (congrArg zI (by first | omega | rfl | (simp; done))), z_4, p_told4, s_cl, mrn_11, hm, z_add, if_pos rfl, z_2, p_told2, s_cl, mrn_9, if_pos rfl]
    rw [hgo] at g1
    exact ih (by omega) _ ⟨_, _, _, _, rfl, g1, g1, clr_ud q2, by rw [mrn_7]; exact hs, by rw [mrn_10]; exact ht, by rw [mrn_11]; omega⟩
end SEG2


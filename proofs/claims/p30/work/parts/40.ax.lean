/-! the law, from its end: the game of embers -/
def Q1 (r : Int32) : Prop := r = zI 1
theorem q1 : oK Q1 (some (zI 1)) := ok_r rfl
theorem q1' : oK Q1 (some (1 : Int32)) := ok_r z_1
theorem and_22 (y : Int32) : ∃ v : Int, y &&& 4194303 = zI v ∧ 0 ≤ v ∧ v < 4194304 := by
  have h : (y &&& 4194303).toBitVec.toNat < 4194304 := by
    rw [Int32.toBitVec_and, BitVec.toNat_and]
    exact Nat.lt_of_le_of_lt Nat.and_le_right (by decide)
  refine ⟨((y &&& 4194303).toBitVec.toNat : Int), ?_, by omega, by omega⟩
  have e : (y &&& 4194303).toInt = ((y &&& 4194303).toBitVec.toNat : Int) := BitVec.toInt_eq_toNat_of_lt (by omega)
  rw [← e]
  exact (Int32.ofInt_toInt _).symm
theorem x_cell {L : Nat} (hL : L ≤ 260) (xs : Nat → Int32) {a n : Int} (a0 : 0 ≤ a) (a1 : a ≤ 10000) (n0 : 1 ≤ n) (n1 : n ≤ 10000) : ∃ c : Int, f_L_cell L xs (zI a) (zI n) = some (zI c) ∧ 0 ≤ c ∧ c < n := by
  unfold f_L_cell
  have eL : Int32.ofNat L = zI L := z_n L
  have e37 : (37 : Int32) = zI 37 := by decide
  rw [eL, e37, z_5, z_7, z_0]
  by_cases h : L = 0
  · subst h
    rw [if_pos (by decide), s_nz (by omega) (by omega) (by omega), z_mul, z_add, z_rem (by omega) (by omega) (by omega) (by omega)]
    exact ⟨_, rfl, Int.emod_nonneg _ (by omega), Int.emod_lt_of_pos _ (by omega)⟩
  · have nl : ¬ zI (L : Int) = zI 0 := by rw [z_eq (by omega) (by omega) (by omega) (by omega)]; omega
    rw [if_neg nl, s_nz (by omega) (by omega) (by omega), z_rem a0 (by omega) (by omega) (by omega)]
    unfold q_xs
    rw [s_chk (s_inb (Int.emod_nonneg _ (by omega)) (Int.emod_lt_of_pos _ (by omega)) (by omega))]
    dsimp only
    rw [s_nz (a := n) (by omega) (by omega) (by omega)]
    obtain ⟨v, ev, v0, v1⟩ := and_22 (xs (zI (a % L)).toNatClampNeg >>> ((zI a - zI a / zI 7 * zI 7) &&& 31))
    rw [ev, z_rem v0 (by omega) (by omega) (by omega)]
    exact ⟨_, rfl, Int.emod_nonneg _ (by omega), Int.emod_lt_of_pos _ (by omega)⟩
/-- the last test -/
def endG (step tens bel reached : Int) : Prop := ¬ bel = 0 ∧ (reached = 10 ∨ 10 * tens - reached * (step + 5) ≤ step)
section GAME
variable {L : Nat} {xs : Nat → Int32} {σC σD σP σN σW σY σK σH σE : qS} {ℓK : qL} {step tens bel reached w t : Int}
theorem z_rem' (a : Int) (h1 : 0 ≤ a) (h2 : a < 2147483648) : zI a - zI a / zI 2 * zI 2 = zI (a % 2) := z_rem h1 h2 (by omega) (by omega)
theorem t_2350 (hw : w = 0 ∨ w = 1) (t0 : 0 ≤ t) (t1 : t ≤ 200) (ht : t % 2 = 1 ↔ w = 1) (s0 : 0 ≤ step ∧ step ≤ 100) (n0 : 0 ≤ tens ∧ tens ≤ 100) (r0 : 0 ≤ reached ∧ reached ≤ 10) (b0 : 0 ≤ bel ∧ bel ≤ 2000) (he : endG step tens bel reached) :
    oK Q1 (g_2350 L xs σC σD σP σN σW σY σK ℓK σH σE (zI step) (zI tens) (zI bel) (zI reached) (zI w) (zI t)) := by
  obtain ⟨h1, h2⟩ := he
  have rp : reached * (step + 5) = 10 * (step + 5) ∨ reached ≤ 9 := by
    by_cases c : reached = 10
    · exact Or.inl (by rw [c])
    · exact Or.inr (by omega)
  have p0 : 0 ≤ reached * (step + 5) := Int.mul_nonneg r0.1 (by omega)
  have p1 : reached * (step + 5) ≤ 10 * (step + 5) := Int.mul_le_mul_of_nonneg_right r0.2 (by omega)
  unfold g_2350
  have z1 := t0
  have z2 : t < 2147483648 := by omega
  rcases hw with rfl | rfl
  · have m0 : t % 2 = 0 := by omega
    simp (disch := omega) only [z_rem' t z1 z2, m0, s_T, s_F, s_bd, s_cl, s_rd, s_wr, s_ite, z_ite, z_neg, z_add, z_sub, z_mul, z_le, z_lt, z_eq, eC_at, eC_7, eC_8, eC_9, eC_10, eC_11, eC_p7, eC_p8, eC_p9, eC_p10, eC_p11, eC_up, ud_same, ud_ne, if_pos, if_neg, z_0, z_1, z_2, z_3, z_4, z_5, z_6, z_7, z_8, z_9, z_10, z_11, z_12, z_13, z_14, z_15, z_16, z_17, z_18, z_19, z_20, z_21, z_22, z_23, z_24, z_25, z_26, z_27, z_28, z_29, z_30, z_31, z_32, z_33, z_34, z_35, z_36, z_37, z_38, z_39, z_40, z_41, z_42, z_43, z_44, z_45, z_46, z_47, z_48, z_49, z_50, z_51, z_52, z_53, z_54, z_55, z_56, z_57, z_58, z_59, z_60, z_61, z_62, z_63, z_64, z_65, z_66, z_67, z_68, z_69, z_70, z_71, z_72, z_73, z_74, z_75, z_76, z_77, z_78, z_79, z_80, z_81, z_82, z_83, z_84, z_85, z_86, z_87, z_88, z_89, z_90, z_91, z_92, z_93, z_94, z_95, z_96, z_97, z_98, z_99, z_100, z_101, z_102, z_103, z_104, z_105, z_106, z_107, z_108, z_109, z_110, z_111, z_112, z_113, z_114, z_115, z_116, z_117, z_118, z_119, z_120, z_121, z_122, z_123, z_124, z_125, z_126, z_127, z_199, z_200, z_360, z_410, z_1000, z_1023, z_1024, z_1219, z_9999, z_10240, z_65537]
    by_cases c : reached = 10
    · simp (disch := omega) only [c, s_T, s_F, s_bd, s_cl, s_rd, s_wr, s_ite, z_ite, z_neg, z_add, z_sub, z_mul, z_le, z_lt, z_eq, eC_at, eC_7, eC_8, eC_9, eC_10, eC_11, eC_p7, eC_p8, eC_p9, eC_p10, eC_p11, eC_up, ud_same, ud_ne, if_pos, if_neg, z_0, z_1, z_2, z_3, z_4, z_5, z_6, z_7, z_8, z_9, z_10, z_11, z_12, z_13, z_14, z_15, z_16, z_17, z_18, z_19, z_20, z_21, z_22, z_23, z_24, z_25, z_26, z_27, z_28, z_29, z_30, z_31, z_32, z_33, z_34, z_35, z_36, z_37, z_38, z_39, z_40, z_41, z_42, z_43, z_44, z_45, z_46, z_47, z_48, z_49, z_50, z_51, z_52, z_53, z_54, z_55, z_56, z_57, z_58, z_59, z_60, z_61, z_62, z_63, z_64, z_65, z_66, z_67, z_68, z_69, z_70, z_71, z_72, z_73, z_74, z_75, z_76, z_77, z_78, z_79, z_80, z_81, z_82, z_83, z_84, z_85, z_86, z_87, z_88, z_89, z_90, z_91, z_92, z_93, z_94, z_95, z_96, z_97, z_98, z_99, z_100, z_101, z_102, z_103, z_104, z_105, z_106, z_107, z_108, z_109, z_110, z_111, z_112, z_113, z_114, z_115, z_116, z_117, z_118, z_119, z_120, z_121, z_122, z_123, z_124, z_125, z_126, z_127, z_199, z_200, z_360, z_410, z_1000, z_1023, z_1024, z_1219, z_9999, z_10240, z_65537]
      exact q1
    · simp (disch := omega) only [s_T, s_F, s_bd, s_cl, s_rd, s_wr, s_ite, z_ite, z_neg, z_add, z_sub, z_mul, z_le, z_lt, z_eq, eC_at, eC_7, eC_8, eC_9, eC_10, eC_11, eC_p7, eC_p8, eC_p9, eC_p10, eC_p11, eC_up, ud_same, ud_ne, if_pos, if_neg, z_0, z_1, z_2, z_3, z_4, z_5, z_6, z_7, z_8, z_9, z_10, z_11, z_12, z_13, z_14, z_15, z_16, z_17, z_18, z_19, z_20, z_21, z_22, z_23, z_24, z_25, z_26, z_27, z_28, z_29, z_30, z_31, z_32, z_33, z_34, z_35, z_36, z_37, z_38, z_39, z_40, z_41, z_42, z_43, z_44, z_45, z_46, z_47, z_48, z_49, z_50, z_51, z_52, z_53, z_54, z_55, z_56, z_57, z_58, z_59, z_60, z_61, z_62, z_63, z_64, z_65, z_66, z_67, z_68, z_69, z_70, z_71, z_72, z_73, z_74, z_75, z_76, z_77, z_78, z_79, z_80, z_81, z_82, z_83, z_84, z_85, z_86, z_87, z_88, z_89, z_90, z_91, z_92, z_93, z_94, z_95, z_96, z_97, z_98, z_99, z_100, z_101, z_102, z_103, z_104, z_105, z_106, z_107, z_108, z_109, z_110, z_111, z_112, z_113, z_114, z_115, z_116, z_117, z_118, z_119, z_120, z_121, z_122, z_123, z_124, z_125, z_126, z_127, z_199, z_200, z_360, z_410, z_1000, z_1023, z_1024, z_1219, z_9999, z_10240, z_65537]
      exact q1
  · have m0 : t % 2 = 1 := by omega
    simp (disch := omega) only [z_rem' t z1 z2, m0, s_T, s_F, s_bd, s_cl, s_rd, s_wr, s_ite, z_ite, z_neg, z_add, z_sub, z_mul, z_le, z_lt, z_eq, eC_at, eC_7, eC_8, eC_9, eC_10, eC_11, eC_p7, eC_p8, eC_p9, eC_p10, eC_p11, eC_up, ud_same, ud_ne, if_pos, if_neg, z_0, z_1, z_2, z_3, z_4, z_5, z_6, z_7, z_8, z_9, z_10, z_11, z_12, z_13, z_14, z_15, z_16, z_17, z_18, z_19, z_20, z_21, z_22, z_23, z_24, z_25, z_26, z_27, z_28, z_29, z_30, z_31, z_32, z_33, z_34, z_35, z_36, z_37, z_38, z_39, z_40, z_41, z_42, z_43, z_44, z_45, z_46, z_47, z_48, z_49, z_50, z_51, z_52, z_53, z_54, z_55, z_56, z_57, z_58, z_59, z_60, z_61, z_62, z_63, z_64, z_65, z_66, z_67, z_68, z_69, z_70, z_71, z_72, z_73, z_74, z_75, z_76, z_77, z_78, z_79, z_80, z_81, z_82, z_83, z_84, z_85, z_86, z_87, z_88, z_89, z_90, z_91, z_92, z_93, z_94, z_95, z_96, z_97, z_98, z_99, z_100, z_101, z_102, z_103, z_104, z_105, z_106, z_107, z_108, z_109, z_110, z_111, z_112, z_113, z_114, z_115, z_116, z_117, z_118, z_119, z_120, z_121, z_122, z_123, z_124, z_125, z_126, z_127, z_199, z_200, z_360, z_410, z_1000, z_1023, z_1024, z_1219, z_9999, z_10240, z_65537]
    by_cases c : reached = 10
    · simp (disch := omega) only [c, s_T, s_F, s_bd, s_cl, s_rd, s_wr, s_ite, z_ite, z_neg, z_add, z_sub, z_mul, z_le, z_lt, z_eq, eC_at, eC_7, eC_8, eC_9, eC_10, eC_11, eC_p7, eC_p8, eC_p9, eC_p10, eC_p11, eC_up, ud_same, ud_ne, if_pos, if_neg, z_0, z_1, z_2, z_3, z_4, z_5, z_6, z_7, z_8, z_9, z_10, z_11, z_12, z_13, z_14, z_15, z_16, z_17, z_18, z_19, z_20, z_21, z_22, z_23, z_24, z_25, z_26, z_27, z_28, z_29, z_30, z_31, z_32, z_33, z_34, z_35, z_36, z_37, z_38, z_39, z_40, z_41, z_42, z_43, z_44, z_45, z_46, z_47, z_48, z_49, z_50, z_51, z_52, z_53, z_54, z_55, z_56, z_57, z_58, z_59, z_60, z_61, z_62, z_63, z_64, z_65, z_66, z_67, z_68, z_69, z_70, z_71, z_72, z_73, z_74, z_75, z_76, z_77, z_78, z_79, z_80, z_81, z_82, z_83, z_84, z_85, z_86, z_87, z_88, z_89, z_90, z_91, z_92, z_93, z_94, z_95, z_96, z_97, z_98, z_99, z_100, z_101, z_102, z_103, z_104, z_105, z_106, z_107, z_108, z_109, z_110, z_111, z_112, z_113, z_114, z_115, z_116, z_117, z_118, z_119, z_120, z_121, z_122, z_123, z_124, z_125, z_126, z_127, z_199, z_200, z_360, z_410, z_1000, z_1023, z_1024, z_1219, z_9999, z_10240, z_65537]
      exact q1
    · simp (disch := omega) only [s_T, s_F, s_bd, s_cl, s_rd, s_wr, s_ite, z_ite, z_neg, z_add, z_sub, z_mul, z_le, z_lt, z_eq, eC_at, eC_7, eC_8, eC_9, eC_10, eC_11, eC_p7, eC_p8, eC_p9, eC_p10, eC_p11, eC_up, ud_same, ud_ne, if_pos, if_neg, z_0, z_1, z_2, z_3, z_4, z_5, z_6, z_7, z_8, z_9, z_10, z_11, z_12, z_13, z_14, z_15, z_16, z_17, z_18, z_19, z_20, z_21, z_22, z_23, z_24, z_25, z_26, z_27, z_28, z_29, z_30, z_31, z_32, z_33, z_34, z_35, z_36, z_37, z_38, z_39, z_40, z_41, z_42, z_43, z_44, z_45, z_46, z_47, z_48, z_49, z_50, z_51, z_52, z_53, z_54, z_55, z_56, z_57, z_58, z_59, z_60, z_61, z_62, z_63, z_64, z_65, z_66, z_67, z_68, z_69, z_70, z_71, z_72, z_73, z_74, z_75, z_76, z_77, z_78, z_79, z_80, z_81, z_82, z_83, z_84, z_85, z_86, z_87, z_88, z_89, z_90, z_91, z_92, z_93, z_94, z_95, z_96, z_97, z_98, z_99, z_100, z_101, z_102, z_103, z_104, z_105, z_106, z_107, z_108, z_109, z_110, z_111, z_112, z_113, z_114, z_115, z_116, z_117, z_118, z_119, z_120, z_121, z_122, z_123, z_124, z_125, z_126, z_127, z_199, z_200, z_360, z_410, z_1000, z_1023, z_1024, z_1219, z_9999, z_10240, z_65537]
      exact q1

/-- where the game stands -/
def gmI (n0 w n free t : Int) : Prop := (0 ≤ n ∧ n ≤ 60) ∧ (0 ≤ free ∧ free ≤ 200) ∧ (0 ≤ t ∧ t + n ≤ 60) ∧
  (0 < n → ((t % 2 = 0 ↔ w = 1) → (tk n.toNat : Int) ≤ free) ∧ (¬ (t % 2 = 0 ↔ w = 1) → free < tk n.toNat)) ∧ (n = 0 → (t % 2 = 1 ↔ w = 1)) ∧ (t = 0 → n = n0 ∧ free = n0 - 1)
theorem tk_z {n : Int} (h0 : 1 ≤ n) (h1 : n ≤ 60) : 1 ≤ (tk n.toNat : Int) ∧ (tk n.toNat : Int) ≤ n ∧ (∀ t : Int, t < tk n.toNat → 1 ≤ t → (tk (n - t).toNat : Int) ≤ 2 * t) ∧ ((tk n.toNat : Int) = n ∨ 2 * (tk n.toNat : Int) < tk (n - tk n.toNat).toNat) := by
  obtain ⟨k1, k2, k3, k4⟩ := tk_all n.toNat (by omega) (by omega)
  refine ⟨by omega, by omega, fun t a b => ?_, ?_⟩
  · have := k3 t.toNat (by omega) (by omega)
    rw [show (n - t).toNat = n.toNat - t.toNat by omega]
    omega
  · rcases k4 with k4 | k4
    · exact Or.inl (by omega)
    · rw [show (n - (tk n.toNat : Int)).toNat = n.toNat - tk n.toNat by omega]
      exact Or.inr (by omega)
theorem gm_win {n0 w n free t : Int} (h : gmI n0 w n free t) (hn : 0 < n) (hw : t % 2 = 0 ↔ w = 1) : gmI n0 w (n - tk n.toNat) (2 * tk n.toNat) (t + 1) := by
  obtain ⟨a, b, c, e, f, g⟩ := h
  obtain ⟨k1, k2, k3, k4⟩ := tk_z (n := n) (by omega) (by omega)
  refine ⟨by omega, by omega, by omega, fun h => ⟨fun z => absurd z (by omega), fun z => ?_⟩, by omega, by omega⟩
  rcases k4 with k4 | k4
  · omega
  · exact k4
theorem gm_lose {n0 w n free t x : Int} (h : gmI n0 w n free t) (hn : 0 < n) (hw : ¬ (t % 2 = 0 ↔ w = 1)) (x0 : 1 ≤ x) (x1 : x ≤ free) : gmI n0 w (n - x) (2 * x) (t + 1) := by
  obtain ⟨a, b, c, e, f, g⟩ := h
  obtain ⟨k1, k2, k3, k4⟩ := tk_z (n := n) (by omega) (by omega)
  have e2 := (e hn).2 hw
  refine ⟨by omega, by omega, by omega, fun h => ⟨fun z => ?_, fun z => absurd z (by omega)⟩, by omega, by omega⟩
  exact k3 x (by omega) (by omega)
theorem t_2243 (hL : L ≤ 260) {n0 f n free t : Int} (m0 : 1 ≤ n0) (m1 : n0 ≤ 60) (hE : ∀ j : Nat, 1 ≤ j → j ≤ 60 → σE 0 j = zI (tk j)) (hw : w = 0 ∨ w = 1) (hf : w = 1 → f = tk n0.toNat) (f0 : -10 ≤ f ∧ f ≤ 100) (hg : gmI n0 w n free t) (s0 : 0 ≤ step ∧ step ≤ 100) (nn0 : 0 ≤ tens ∧ tens ≤ 100) (r0 : 0 ≤ reached ∧ reached ≤ 10) (b0 : 0 ≤ bel ∧ bel ≤ 2000) (he : endG step tens bel reached) :
    oK Q1 (g_2243 L xs σC σD σP σN σW σY σK ℓK σH σE (zI step) (zI tens) (zI bel) (zI reached) (zI n) (zI w) (zI f) (zI free) (zI t)) := by
  unfold g_2243
  refine lp_to (fun s => s.1.toInt.toNat) (fun s => ∃ n free t : Int, s = (zI n, zI free, zI t) ∧ gmI n0 w n free t) (oK Q1) (fun again s hs ih => ?_) ⟨n, free, t, rfl, hg⟩ ?_
  · obtain ⟨n, free, t, rfl, hg⟩ := hs
    have hg' := hg
    obtain ⟨⟨a1, a2⟩, ⟨b1, b2⟩, ⟨c1, c2⟩, e, g1, g2⟩ := hg'
    have ih' : ∀ n' free' t' : Int, gmI n0 w n' free' t' → n' < n → oK Q1 (again (zI n', zI free', zI t')) := fun n' free' t' h1 h2 => ih _ ⟨_, _, _, rfl, h1⟩ (by
      dsimp only
      have := h1.1
      rw [z_toInt (by omega) (by omega), z_toInt (by omega) (by omega)]; omega)
    clear ih
    unfold b_L_law_2243
    dsimp only
    rw [z_0, z_1, z_2]
    refine ok_ifE (z_le (by omega) (by omega) (by omega) (by omega)) (fun c => ?_) (fun cn => ?_)
    · exact t_2350 hw c1 (by omega) (g1 (by omega)) s0 nn0 r0 b0 he
    have hn : 0 < n := by omega
    obtain ⟨k1, k2, k3, k4⟩ := tk_z (n := n) (by omega) (by omega)
    refine ok_ifE (z_le (by omega) (by omega) (by omega) (by omega)) (fun c => ?_) (fun cf => ?_)
    · refine t_2350 hw c1 (by omega) ?_ s0 nn0 r0 b0 he
      by_cases z : t % 2 = 0 ↔ w = 1
      · have := (e hn).1 z; omega
      · omega
    have hrd : ∀ K : Int32 → Option Int32, q_rd σE 0 61 (zI n) K = K (zI (tk n.toNat)) := fun K => by
      rw [s_rd (by omega) (by omega) (by omega), hE _ (by omega) (by omega)]
    rw [z_rem' t c1 (by omega)]
    have tbw : ∀ x : Int, 1 ≤ x → x ≤ 60 → True := fun _ _ _ => trivial
    by_cases hq : t % 2 = 0 ↔ w = 1
    · have e1 := (e hn).1 hq
      have st := ih' _ _ _ (gm_win hg hn hq) (by omega)
      have leaf : oK Q1 (q_rd σE 0 61 (zI n) fun r_108 =>
  if zI free < r_108 then (some (zI 0))
  else if zI t = zI 0 then (if zI w = zI 0 then (q_bd (zI n - r_108) fun v22_118 =>
  q_bd (zI 2 * r_108) fun v25_120 =>
  again (v22_118, v25_120, zI t + zI 1))
  else if r_108 = zI f then (q_bd (zI n - r_108) fun v22_123 =>
  q_bd (zI 2 * r_108) fun v25_125 =>
  again (v22_123, v25_125, zI t + zI 1))
  else some (zI 0))
  else q_bd (zI n - r_108) fun v22_113 =>
  q_bd (zI 2 * r_108) fun v25_115 =>
  again (v22_113, v25_115, zI t + zI 1)) := by
        rw [hrd, z_sub, z_mul, z_add]
        refine ok_ifE (z_lt (by omega) (by omega) (by omega) (by omega)) (fun c => absurd c (by omega)) (fun _ => ?_)
        refine ok_ifE (z_eq (by omega) (by omega) (by omega) (by omega)) (fun ct => ?_) (fun _ => st)
        refine ok_ifE (z_eq (by omega) (by omega) (by omega) (by omega)) (fun _ => st) (fun cw => ?_)
        refine ok_ifE (z_eq (by omega) (by omega) (by omega) (by omega)) (fun _ => st) (fun c => absurd ?_ c)
        rw [hf (by omega), (g2 ct).1]
      rcases hw with rfl | rfl
      · refine ok_ifE (z_eq (by omega) (by omega) (by omega) (by omega)) (fun c => absurd c (by omega)) (fun _ => ?_)
        rw [if_pos rfl]
        exact leaf
      · refine ok_ifE (z_eq (by omega) (by omega) (by omega) (by omega)) (fun c => ?_) (fun c => absurd (hq.mpr rfl) c)
        rw [if_pos rfl]
        exact leaf
    · have e1 := (e hn).2 hq
      have e40 : (40 : Int32) = zI 40 := by decide
      obtain ⟨y, hy, y0, y1⟩ := x_cell hL xs (a := t + 40) (n := free) (by omega) (by omega) (by omega) (by omega)
      have st := ih' _ _ _ (gm_lose hg hn hq (x := 1 + y) (by omega) (by omega)) (by omega)
      have wt : t = 0 → w = 0 := by omega
      have leaf : oK Q1 (if zI n ≤ zI free then (q_cl (f_L_cell L xs (zI t + 40) (zI n)) fun r_68 =>
  q_bd (zI 1 + r_68) fun v28_70 =>
  if zI free < v28_70 then (some (zI 0))
  else if zI t = zI 0 then (if zI w = zI 0 then (q_bd (zI n - v28_70) fun v22_79 =>
  q_bd (zI 2 * v28_70) fun v25_81 =>
  again (v22_79, v25_81, zI t + zI 1))
  else if v28_70 = zI f then (q_bd (zI n - v28_70) fun v22_84 =>
  q_bd (zI 2 * v28_70) fun v25_86 =>
  again (v22_84, v25_86, zI t + zI 1))
  else some (zI 0))
  else q_bd (zI n - v28_70) fun v22_74 =>
  q_bd (zI 2 * v28_70) fun v25_76 =>
  again (v22_74, v25_76, zI t + zI 1))
  else q_cl (f_L_cell L xs (zI t + 40) (zI free)) fun r_88 =>
  q_bd (zI 1 + r_88) fun v28_90 =>
  if zI free < v28_90 then (some (zI 0))
  else if zI t = zI 0 then (if zI w = zI 0 then (q_bd (zI n - v28_90) fun v22_99 =>
  q_bd (zI 2 * v28_90) fun v25_101 =>
  again (v22_99, v25_101, zI t + zI 1))
  else if v28_90 = zI f then (q_bd (zI n - v28_90) fun v22_104 =>
  q_bd (zI 2 * v28_90) fun v25_106 =>
  again (v22_104, v25_106, zI t + zI 1))
  else some (zI 0))
  else q_bd (zI n - v28_90) fun v22_94 =>
  q_bd (zI 2 * v28_90) fun v25_96 =>
  again (v22_94, v25_96, zI t + zI 1)) := by
        refine ok_ifE (z_le (by omega) (by omega) (by omega) (by omega)) (fun c => absurd c (by omega)) (fun _ => ?_)
        rw [e40, z_add, hy, s_cl, z_add, s_bd, z_sub, z_mul, z_add]
        refine ok_ifE (z_lt (by omega) (by omega) (by omega) (by omega)) (fun c => absurd c (by omega)) (fun _ => ?_)
        refine ok_ifE (z_eq (by omega) (by omega) (by omega) (by omega)) (fun ct => ?_) (fun _ => st)
        refine ok_ifE (z_eq (by omega) (by omega) (by omega) (by omega)) (fun _ => st) (fun cw => absurd (wt ct) cw)
      rcases hw with rfl | rfl
      · refine ok_ifE (z_eq (by omega) (by omega) (by omega) (by omega)) (fun c => ?_) (fun c => absurd c (by omega))
        rw [if_neg n10]
        exact leaf
      · refine ok_ifE (z_eq (by omega) (by omega) (by omega) (by omega)) (fun c => absurd c (by omega)) (fun c => ?_)
        rw [if_neg (fun z => n10 z.symm)]
        exact leaf
  · dsimp only
    have := hg.1
    rw [z_toInt (by omega) (by omega)]; omega
end GAME


/-! fading, of the reference -/
def itr (d : Nat → Int → Int) : Nat → Int → Int
  | 0, t => t
  | n + 1, t => d 4 (itr d n t)
theorem itr_b {d} (hd : okd d) {t : Int} (t0 : 0 ≤ t) (t1 : t ≤ 9) : ∀ n, 0 ≤ itr d n t ∧ itr d n t ≤ 9 := by
  intro n
  induction n with
  | zero => exact ⟨t0, t1⟩
  | succ n ih => exact okd_4 hd ih.1 (by omega)
theorem m_fadedBy (m : Nat → Int → Int) {d} (hd : okd d) (τ : qL) {t n : Int} (t0 : 0 ≤ t) (t1 : t ≤ 9) (n0 : 0 ≤ n) (n1 : n ≤ 1000) : f_X7_fadedBy (eC (pw m d)) τ (zI t) (zI n) = some (zI (itr d n.toNat t)) := by
  unfold f_X7_fadedBy
  rw [z_0]
  refine lp_en (fun i : Int => (zI i, zI (itr d i.toNat t))) (fun _ _ => some (zI (itr d n.toNat t))) (fun N i => 0 ≤ i ∧ i ≤ n ∧ (n - i).toNat < N) (fun i => by omega) ?_ 20000 0 ⟨by omega, by omega, by omega⟩
  rintro again N i ⟨h0, h1, h2⟩ ih
  have hb := itr_b hd t0 t1 i.toNat
  unfold b_X7_fadedBy_5
  dsimp only
  by_cases c : i < n
  · simp (disch := omega) only [pw_0, up_0, pw_1, up_1, pw_2, up_2, pw_3, up_3, pw_4, up_4, pw_9, up_9, pw_10, up_10, pwi_5, upi_5, pwi_6, upi_6, pwi_7, upi_7, pwi_8, upi_8, pwi_11, upi_11, pw_12, up_12, pw_14, up_14, pw_15, up_15, pw_16, up_16, pw_18, up_18, pw_24, up_24, pw_25, up_25, pw_26, up_26, pw_29, up_29, pw_30, up_30, pw_31, up_31, pwi_13, upi_13, pwi_17, upi_17, pwi_19, upi_19, pwi_20, upi_20, pwi_21, upi_21, pwi_22, upi_22, pwi_23, upi_23, pwi_32, upi_32, pwi_33, upi_33, eC_5, eC_6, eC_13, eC_17, eC_19, eC_20, eC_21, eC_22, eC_23, eC_32, eC_33, eC_p5, eC_p6, eC_p13, eC_p17, eC_p19, eC_p20, eC_p21, eC_p22, eC_p23, eC_p32, eC_p33, s_T, s_F, s_bd, s_cl, s_rd, s_wr, s_ite, z_ite, z_neg, z_add, z_sub, z_mul, z_le, z_lt, z_eq, eC_at, eC_7, eC_8, eC_9, eC_10, eC_11, eC_p7, eC_p8, eC_p9, eC_p10, eC_p11, eC_up, ud_same, ud_ne, if_pos, if_neg, z_0, z_1, z_2, z_3, z_4, z_5, z_6, z_7, z_8, z_9, z_10, z_11, z_12, z_13, z_14, z_15, z_16, z_17, z_18, z_19, z_20, z_21, z_22, z_23, z_24, z_25, z_26, z_27, z_28, z_29, z_30, z_31, z_32, z_33, z_34, z_35, z_36, z_37, z_38, z_39, z_40, z_41, z_42, z_43, z_44, z_45, z_46, z_47, z_48, z_49, z_50, z_51, z_52, z_53, z_54, z_55, z_56, z_57, z_58, z_59, z_60, z_61, z_62, z_63, z_64, z_65, z_66, z_67, z_68, z_69, z_70, z_71, z_72, z_73, z_74, z_75, z_76, z_77, z_78, z_79, z_80, z_81, z_82, z_83, z_84, z_85, z_86, z_87, z_88, z_89, z_90, z_91, z_92, z_93, z_94, z_95, z_96, z_97, z_98, z_99, z_100, z_101, z_102, z_103, z_104, z_105, z_106, z_107, z_108, z_109, z_110, z_111, z_112, z_113, z_114, z_115, z_116, z_117, z_118, z_119, z_120, z_121, z_122, z_123, z_124, z_125, z_126, z_127, z_199, z_200, z_360, z_410, z_1000, z_1023, z_1024, z_1219, z_9999, z_10240, z_65537]
    have := ih (i + 1) ⟨by omega, by omega, by omega⟩
    rw [show (i + 1).toNat = i.toNat + 1 by omega] at this
    exact this
  · obtain rfl : i = n := by omega
    simp (disch := omega) only [pw_0, up_0, pw_1, up_1, pw_2, up_2, pw_3, up_3, pw_4, up_4, pw_9, up_9, pw_10, up_10, pwi_5, upi_5, pwi_6, upi_6, pwi_7, upi_7, pwi_8, upi_8, pwi_11, upi_11, pw_12, up_12, pw_14, up_14, pw_15, up_15, pw_16, up_16, pw_18, up_18, pw_24, up_24, pw_25, up_25, pw_26, up_26, pw_29, up_29, pw_30, up_30, pw_31, up_31, pwi_13, upi_13, pwi_17, upi_17, pwi_19, upi_19, pwi_20, upi_20, pwi_21, upi_21, pwi_22, upi_22, pwi_23, upi_23, pwi_32, upi_32, pwi_33, upi_33, eC_5, eC_6, eC_13, eC_17, eC_19, eC_20, eC_21, eC_22, eC_23, eC_32, eC_33, eC_p5, eC_p6, eC_p13, eC_p17, eC_p19, eC_p20, eC_p21, eC_p22, eC_p23, eC_p32, eC_p33, s_T, s_F, s_bd, s_cl, s_rd, s_wr, s_ite, z_ite, z_neg, z_add, z_sub, z_mul, z_le, z_lt, z_eq, eC_at, eC_7, eC_8, eC_9, eC_10, eC_11, eC_p7, eC_p8, eC_p9, eC_p10, eC_p11, eC_up, ud_same, ud_ne, if_pos, if_neg, z_0, z_1, z_2, z_3, z_4, z_5, z_6, z_7, z_8, z_9, z_10, z_11, z_12, z_13, z_14, z_15, z_16, z_17, z_18, z_19, z_20, z_21, z_22, z_23, z_24, z_25, z_26, z_27, z_28, z_29, z_30, z_31, z_32, z_33, z_34, z_35, z_36, z_37, z_38, z_39, z_40, z_41, z_42, z_43, z_44, z_45, z_46, z_47, z_48, z_49, z_50, z_51, z_52, z_53, z_54, z_55, z_56, z_57, z_58, z_59, z_60, z_61, z_62, z_63, z_64, z_65, z_66, z_67, z_68, z_69, z_70, z_71, z_72, z_73, z_74, z_75, z_76, z_77, z_78, z_79, z_80, z_81, z_82, z_83, z_84, z_85, z_86, z_87, z_88, z_89, z_90, z_91, z_92, z_93, z_94, z_95, z_96, z_97, z_98, z_99, z_100, z_101, z_102, z_103, z_104, z_105, z_106, z_107, z_108, z_109, z_110, z_111, z_112, z_113, z_114, z_115, z_116, z_117, z_118, z_119, z_120, z_121, z_122, z_123, z_124, z_125, z_126, z_127, z_199, z_200, z_360, z_410, z_1000, z_1023, z_1024, z_1219, z_9999, z_10240, z_65537]
def caF (d : Nat → Int → Int) (t n : Int) : Nat → Int → Int
  | 0, _ => -6
  | N + 1, e => if n ≤ e then -6 else if itr d e.toNat t = itr d n.toNat t then n - e else caF d t n N (e + 1)
theorem m_cameAhead (m : Nat → Int → Int) {d} (hd : okd d) (τ : qL) {t n : Int} (t0 : 0 ≤ t) (t1 : t ≤ 9) (n0 : 0 ≤ n) (n1 : n ≤ 1000) : f_X7_cameAhead (eC (pw m d)) τ (zI t) (zI n) = some (zI (caF d t n 20000 0)) := by
  unfold f_X7_cameAhead
  rw [z_0]
  refine lp_en (fun i : Int => zI i) (fun N i => some (zI (caF d t n N i))) (fun N i => 0 ≤ i ∧ i ≤ n ∧ (n - i).toNat < N) (fun i => by omega) ?_ 20000 0 ⟨by omega, by omega, by omega⟩
  rintro again N i ⟨h0, h1, h2⟩ ih
  have hb := itr_b hd t0 t1 i.toNat
  have hb2 := itr_b hd t0 t1 n.toNat
  unfold b_X7_cameAhead_2 caF
  dsimp only
  by_cases c : n ≤ i
  · simp (disch := omega) only [pw_0, up_0, pw_1, up_1, pw_2, up_2, pw_3, up_3, pw_4, up_4, pw_9, up_9, pw_10, up_10, pwi_5, upi_5, pwi_6, upi_6, pwi_7, upi_7, pwi_8, upi_8, pwi_11, upi_11, pw_12, up_12, pw_14, up_14, pw_15, up_15, pw_16, up_16, pw_18, up_18, pw_24, up_24, pw_25, up_25, pw_26, up_26, pw_29, up_29, pw_30, up_30, pw_31, up_31, pwi_13, upi_13, pwi_17, upi_17, pwi_19, upi_19, pwi_20, upi_20, pwi_21, upi_21, pwi_22, upi_22, pwi_23, upi_23, pwi_32, upi_32, pwi_33, upi_33, eC_5, eC_6, eC_13, eC_17, eC_19, eC_20, eC_21, eC_22, eC_23, eC_32, eC_33, eC_p5, eC_p6, eC_p13, eC_p17, eC_p19, eC_p20, eC_p21, eC_p22, eC_p23, eC_p32, eC_p33, s_T, s_F, s_bd, s_cl, s_rd, s_wr, s_ite, z_ite, z_neg, z_add, z_sub, z_mul, z_le, z_lt, z_eq, eC_at, eC_7, eC_8, eC_9, eC_10, eC_11, eC_p7, eC_p8, eC_p9, eC_p10, eC_p11, eC_up, ud_same, ud_ne, if_pos, if_neg, z_0, z_1, z_2, z_3, z_4, z_5, z_6, z_7, z_8, z_9, z_10, z_11, z_12, z_13, z_14, z_15, z_16, z_17, z_18, z_19, z_20, z_21, z_22, z_23, z_24, z_25, z_26, z_27, z_28, z_29, z_30, z_31, z_32, z_33, z_34, z_35, z_36, z_37, z_38, z_39, z_40, z_41, z_42, z_43, z_44, z_45, z_46, z_47, z_48, z_49, z_50, z_51, z_52, z_53, z_54, z_55, z_56, z_57, z_58, z_59, z_60, z_61, z_62, z_63, z_64, z_65, z_66, z_67, z_68, z_69, z_70, z_71, z_72, z_73, z_74, z_75, z_76, z_77, z_78, z_79, z_80, z_81, z_82, z_83, z_84, z_85, z_86, z_87, z_88, z_89, z_90, z_91, z_92, z_93, z_94, z_95, z_96, z_97, z_98, z_99, z_100, z_101, z_102, z_103, z_104, z_105, z_106, z_107, z_108, z_109, z_110, z_111, z_112, z_113, z_114, z_115, z_116, z_117, z_118, z_119, z_120, z_121, z_122, z_123, z_124, z_125, z_126, z_127, z_199, z_200, z_360, z_410, z_1000, z_1023, z_1024, z_1219, z_9999, z_10240, z_65537]
  · rw [if_neg c, m_fadedBy m hd τ t0 t1 h0 (by omega), m_fadedBy m hd τ t0 t1 n0 n1, s_cl, s_cl]
    by_cases c2 : itr d i.toNat t = itr d n.toNat t
    · simp (disch := omega) only [pw_0, up_0, pw_1, up_1, pw_2, up_2, pw_3, up_3, pw_4, up_4, pw_9, up_9, pw_10, up_10, pwi_5, upi_5, pwi_6, upi_6, pwi_7, upi_7, pwi_8, upi_8, pwi_11, upi_11, pw_12, up_12, pw_14, up_14, pw_15, up_15, pw_16, up_16, pw_18, up_18, pw_24, up_24, pw_25, up_25, pw_26, up_26, pw_29, up_29, pw_30, up_30, pw_31, up_31, pwi_13, upi_13, pwi_17, upi_17, pwi_19, upi_19, pwi_20, upi_20, pwi_21, upi_21, pwi_22, upi_22, pwi_23, upi_23, pwi_32, upi_32, pwi_33, upi_33, eC_5, eC_6, eC_13, eC_17, eC_19, eC_20, eC_21, eC_22, eC_23, eC_32, eC_33, eC_p5, eC_p6, eC_p13, eC_p17, eC_p19, eC_p20, eC_p21, eC_p22, eC_p23, eC_p32, eC_p33, s_T, s_F, s_bd, s_cl, s_rd, s_wr, s_ite, z_ite, z_neg, z_add, z_sub, z_mul, z_le, z_lt, z_eq, eC_at, eC_7, eC_8, eC_9, eC_10, eC_11, eC_p7, eC_p8, eC_p9, eC_p10, eC_p11, eC_up, ud_same, ud_ne, if_pos, if_neg, z_0, z_1, z_2, z_3, z_4, z_5, z_6, z_7, z_8, z_9, z_10, z_11, z_12, z_13, z_14, z_15, z_16, z_17, z_18, z_19, z_20, z_21, z_22, z_23, z_24, z_25, z_26, z_27, z_28, z_29, z_30, z_31, z_32, z_33, z_34, z_35, z_36, z_37, z_38, z_39, z_40, z_41, z_42, z_43, z_44, z_45, z_46, z_47, z_48, z_49, z_50, z_51, z_52, z_53, z_54, z_55, z_56, z_57, z_58, z_59, z_60, z_61, z_62, z_63, z_64, z_65, z_66, z_67, z_68, z_69, z_70, z_71, z_72, z_73, z_74, z_75, z_76, z_77, z_78, z_79, z_80, z_81, z_82, z_83, z_84, z_85, z_86, z_87, z_88, z_89, z_90, z_91, z_92, z_93, z_94, z_95, z_96, z_97, z_98, z_99, z_100, z_101, z_102, z_103, z_104, z_105, z_106, z_107, z_108, z_109, z_110, z_111, z_112, z_113, z_114, z_115, z_116, z_117, z_118, z_119, z_120, z_121, z_122, z_123, z_124, z_125, z_126, z_127, z_199, z_200, z_360, z_410, z_1000, z_1023, z_1024, z_1219, z_9999, z_10240, z_65537]
    · simp (disch := omega) only [pw_0, up_0, pw_1, up_1, pw_2, up_2, pw_3, up_3, pw_4, up_4, pw_9, up_9, pw_10, up_10, pwi_5, upi_5, pwi_6, upi_6, pwi_7, upi_7, pwi_8, upi_8, pwi_11, upi_11, pw_12, up_12, pw_14, up_14, pw_15, up_15, pw_16, up_16, pw_18, up_18, pw_24, up_24, pw_25, up_25, pw_26, up_26, pw_29, up_29, pw_30, up_30, pw_31, up_31, pwi_13, upi_13, pwi_17, upi_17, pwi_19, upi_19, pwi_20, upi_20, pwi_21, upi_21, pwi_22, upi_22, pwi_23, upi_23, pwi_32, upi_32, pwi_33, upi_33, eC_5, eC_6, eC_13, eC_17, eC_19, eC_20, eC_21, eC_22, eC_23, eC_32, eC_33, eC_p5, eC_p6, eC_p13, eC_p17, eC_p19, eC_p20, eC_p21, eC_p22, eC_p23, eC_p32, eC_p33, s_T, s_F, s_bd, s_cl, s_rd, s_wr, s_ite, z_ite, z_neg, z_add, z_sub, z_mul, z_le, z_lt, z_eq, eC_at, eC_7, eC_8, eC_9, eC_10, eC_11, eC_p7, eC_p8, eC_p9, eC_p10, eC_p11, eC_up, ud_same, ud_ne, if_pos, if_neg, z_0, z_1, z_2, z_3, z_4, z_5, z_6, z_7, z_8, z_9, z_10, z_11, z_12, z_13, z_14, z_15, z_16, z_17, z_18, z_19, z_20, z_21, z_22, z_23, z_24, z_25, z_26, z_27, z_28, z_29, z_30, z_31, z_32, z_33, z_34, z_35, z_36, z_37, z_38, z_39, z_40, z_41, z_42, z_43, z_44, z_45, z_46, z_47, z_48, z_49, z_50, z_51, z_52, z_53, z_54, z_55, z_56, z_57, z_58, z_59, z_60, z_61, z_62, z_63, z_64, z_65, z_66, z_67, z_68, z_69, z_70, z_71, z_72, z_73, z_74, z_75, z_76, z_77, z_78, z_79, z_80, z_81, z_82, z_83, z_84, z_85, z_86, z_87, z_88, z_89, z_90, z_91, z_92, z_93, z_94, z_95, z_96, z_97, z_98, z_99, z_100, z_101, z_102, z_103, z_104, z_105, z_106, z_107, z_108, z_109, z_110, z_111, z_112, z_113, z_114, z_115, z_116, z_117, z_118, z_119, z_120, z_121, z_122, z_123, z_124, z_125, z_126, z_127, z_199, z_200, z_360, z_410, z_1000, z_1023, z_1024, z_1219, z_9999, z_10240, z_65537]
      exact ih (i + 1) ⟨by omega, by omega, by omega⟩
theorem caF_hit {d : Nat → Int → Int} {t n : Int} : ∀ (N : Nat) (e i : Int), 0 ≤ e → e ≤ i → i < n → (n - e).toNat < N → itr d i.toNat t = itr d n.toNat t → 1 ≤ caF d t n N e := by
  intro N
  induction N with
  | zero => intro e i _ _ _ h; omega
  | succ N ih =>
    intro e i h0 h1 h2 hN hi
    unfold caF
    rw [if_neg (by omega)]
    by_cases c : itr d e.toNat t = itr d n.toNat t
    · rw [if_pos c]; omega
    · rw [if_neg c]
      have : e ≠ i := fun z => c (by rw [z]; exact hi)
      exact ih (e + 1) i (by omega) (by omega) h2 (by omega) hi
theorem caF_b {d : Nat → Int → Int} {t n : Int} (n1 : n ≤ 1000) : ∀ (N : Nat) (e : Int), 0 ≤ e → -6 ≤ caF d t n N e ∧ caF d t n N e ≤ 1000 := by
  intro N
  induction N with
  | zero => intro e _; exact ⟨by show (-6 : Int) ≤ -6; omega, by show (-6 : Int) ≤ 1000; omega⟩
  | succ N ih =>
    intro e h0
    unfold caF
    split
    · omega
    · split
      · omega
      · exact ih (e + 1) (by omega)
theorem pigeon : ∀ (n : Nat) (f : Nat → Nat), (∀ i, i ≤ n → f i < n) → ∃ i j, i < j ∧ j ≤ n ∧ f i = f j := by
  intro n
  induction n with
  | zero => intro f h; exact absurd (h 0 (Nat.le_refl 0)) (Nat.not_lt_zero _)
  | succ n ih =>
    intro f h
    by_cases hx : ∃ i, i ≤ n ∧ f i = f (n + 1)
    · obtain ⟨i, hi, e⟩ := hx
      exact ⟨i, n + 1, by omega, Nat.le_refl _, e⟩
    · have hne : ∀ i, i ≤ n → f i ≠ f (n + 1) := fun i hi e => hx ⟨i, hi, e⟩
      have hv := h (n + 1) (Nat.le_refl _)
      obtain ⟨i, j, h1, h2, h3⟩ := ih (fun i => if f i = n then f (n + 1) else f i) (by
        intro i hi
        try dsimp only
        have a := h i (by omega)
        have b := hne i hi
        split
        · next e => omega
        · omega)
      try dsimp only at h3
      refine ⟨i, j, h1, by omega, ?_⟩
      have b1 := hne i (by omega)
      have b2 := hne j h2
      split at h3 <;> split at h3 <;> omega
theorem itr_rep {d} (hd : okd d) {t : Int} (t0 : 0 ≤ t) (t1 : t ≤ 9) : ∃ i j : Nat, i < j ∧ j ≤ 10 ∧ itr d i t = itr d j t := by
  obtain ⟨i, j, h1, h2, h3⟩ := pigeon 10 (fun n => (itr d n t).toNat) (fun i _ => by have := itr_b hd t0 t1 i; omega)
  try dsimp only at h3
  have a := itr_b hd t0 t1 i
  have b := itr_b hd t0 t1 j
  exact ⟨i, j, h1, h2, by omega⟩
theorem v_faded (m : Nat → Int → Int) {d} (hd : okd d) (τ : qL) (a w : Int32) : oK tt (f_X7_faded (eC (pw m d)) τ a w) := by
  unfold f_X7_faded
  obtain ⟨a, a0, a1, rfl⟩ := z_of a
  have e2 : (-2 : Int64) = zL (-2) := by decide
  rw [m_isTale a0 a1, s_cl, e2, zl_99, v_in w (by omega) (by omega) (by omega) (by omega), s_cl]
  by_cases ca : 0 ≤ a ∧ a ≤ 9
  · by_cases cw : -2 ≤ w.toInt ∧ w.toInt ≤ 99
    · obtain ⟨n, n0, n1, rfl⟩ : ∃ n, -2 ≤ n ∧ n ≤ 99 ∧ w = zI n := ⟨w.toInt, cw.1, cw.2, (Int32.ofInt_toInt w).symm⟩
      refine ok_if (fun _ => ok_r trivial) (fun _ => ok_if (fun _ => ok_r trivial) (fun _ => ok_if (fun _ => ?_) (fun c => ?_)))
      · obtain ⟨i, j, h1, h2, h3⟩ := itr_rep hd ca.1 ca.2
        rw [z_1]
        have key : ∀ (N : Nat) (s : Int), 1 ≤ s → s ≤ j → ((j : Int) - s).toNat < N → oK tt (q_lp (b_X7_faded_39 (eC (pw m d)) τ (zI a)) (fun z8 => if zI n = -zI 1 then some z8 else q_cl (f_X7_cameAhead (eC (pw m d)) τ (zI a) z8) fun r_10 => some r_10) N (zI s)) := by
          intro N
          induction N with
          | zero => intro s _ _ h; omega
          | succ N ih =>
            intro s s0 s1 hN
            rw [lp_s]
            have ih' := ih (s + 1)
            generalize q_lp (b_X7_faded_39 (eC (pw m d)) τ (zI a)) (fun z8 => if zI n = -zI 1 then some z8 else q_cl (f_X7_cameAhead (eC (pw m d)) τ (zI a) z8) fun r_10 => some r_10) N = again at ih'
            unfold b_X7_faded_39
            have hb := caF_b (d := d) (t := a) (n := s) (by omega) 20000 0 (by omega)
            rw [m_cameAhead m hd τ ca.1 ca.2 (by omega) (by omega), s_cl, z_s1]
            refine ok_if (fun _ => ok_if (fun _ => ok_r trivial) (fun _ => ?_)) (fun c => ?_)
            · rw [m_cameAhead m hd τ ca.1 ca.2 (by omega) (by omega), s_cl]; exact ok_r trivial
            · have hsj : s ≠ j := by
                intro cj
                apply c
                have := caF_hit (d := d) (t := a) (n := s) 20000 0 i (by omega) (by omega) (by omega) (by omega) (by rw [cj]; exact h3)
                rw [z_0, z_le (by omega) (by omega) (by omega) (by omega)]; omega
              exact ih' (by omega) (by omega) (by omega)
        exact key 20000 1 (by omega) (by omega) (by omega)
      · rw [z_0, z_lt (by omega) (by omega) (by omega) (by omega)] at c
        rw [m_fadedBy m hd τ ca.1 ca.2 (by omega) (by omega), s_cl]
        exact ok_r trivial
    · rw [if_neg cw]
      exact ok_if (fun _ => ok_r trivial) (fun _ => ok_if (fun _ => ok_r trivial) (fun c => absurd rfl c))
  · rw [if_neg ca]
    exact ok_if (fun _ => ok_r trivial) (fun c => absurd rfl c)
/-! what was said, of the reference -/
theorem v_isFit (m : Nat → Int → Int) {d} (hd : okd d) (τ : qL) {w : Int} (w0 : 0 ≤ w) (w1 : w < 100) : oK (fun r => r = 0 ∨ (r = 1 ∧ 1 ≤ w % 10 ∧ w % 10 ≤ 5)) (f_X7_isFit (eC (pw m d)) τ (zI w)) := by
  have hs := okd_s hd
  unfold f_X7_isFit
  rw [z_10, z_rem w0 (by omega) (by omega) (by omega), zl_1, zl_5, v_in _ (by omega) (by omega) (by omega) (by omega), s_cl, z_toInt (by omega) (by omega), z_0]
  by_cases cw : 1 ≤ w % 10 ∧ w % 10 ≤ 5
  · rw [if_pos cw]
    refine ok_for (τ := Int32) (d 99 7) (fun t => t = 0 ∨ t = 1) (fun again i t h0 h1 ht ih => ?_) 20000 0 _ (by omega) (by omega) (Or.inr rfl) (by omega)
    have hend : oK (fun r => r = 0 ∨ (r = 1 ∧ 1 ≤ w % 10 ∧ w % 10 ≤ 5)) (q_chk (q_isB t) <| some t) := by
      refine ok_chk ?_ (ok_r ?_)
      · rcases ht with e | e <;> rw [e] <;> decide
      · rcases ht with e | e
        · exact Or.inl e
        · exact Or.inr ⟨e, cw⟩
    unfold b_X7_isFit_15
    dsimp only
    rw [z_s1, eC_11, pwi_11, z_10, z_rem w0 (by omega) (by omega) (by omega), z_div w0 (by omega) (by omega) (by omega)]
    refine ok_if (fun _ => hend) (fun c => ok_if (fun _ => hend) (fun _ => ?_))
    have hi := t_nle h0 (by omega) (by omega) (by omega) c
    have h5 := okd_5 hd i
    have q0 : 0 ≤ d 5 i / (w % 10) := Int.ediv_nonneg h5.1 (by omega)
    have q1 : d 5 i / (w % 10) ≤ d 5 i := Int.ediv_le_self _ h5.1
    rw [s_rd h0 (by omega) (by omega), eC_at _ _ h0, pw_9, s_nz (by omega) (by omega) (by omega), z_div h5.1 (by omega) (by omega) (by omega), m_fadedBy m hd τ (by omega) (by omega) q0 (by omega), s_cl]
    exact ok_rd h0 (by omega) (by omega) (fun _ => ok_if (fun _ => ih hi _ (Or.inr rfl)) (fun _ => ih hi _ (Or.inl rfl)))
  · rw [if_neg cw, lp_s]
    unfold b_X7_isFit_15
    dsimp only
    have hend : oK (fun r => r = 0 ∨ (r = 1 ∧ 1 ≤ w % 10 ∧ w % 10 ≤ 5)) (q_chk (q_isB (zI 0)) <| some (zI 0)) := ok_chk (by decide) (ok_r (Or.inl rfl))
    exact ok_if (fun _ => hend) (fun _ => ok_if (fun _ => hend) (fun c => absurd rfl c))
theorem v_fits (m : Nat → Int → Int) {d} (hd : okd d) (τ : qL) (a : Int32) : oK tt (f_X7_fits (eC (pw m d)) τ a) := by
  unfold f_X7_fits
  rw [z_0]
  refine ok_for (τ := Int32) 100 tt (fun again i t h0 h1 _ ih => ?_) 20000 0 _ (by omega) (by omega) trivial (by omega)
  unfold b_X7_fits_4
  dsimp only
  rw [z_s1, z_100]
  refine ok_if (fun _ => ok_if (fun _ => ok_r trivial) (fun _ => ok_r trivial)) (fun c => ?_)
  have hi := t_nle h0 (by omega) (by omega) (by omega) c
  exact ok_cl (v_isFit m hd τ h0 hi) (fun _ _ => ok_if (fun _ => ih hi _ trivial) (fun _ => ok_if (fun _ => ok_r trivial) (fun _ => ih hi _ trivial)))
theorem v_mostLeft (m : Nat → Int → Int) {d} (hd : okd d) (τ : qL) {σ : qS} (hσ : msc m d σ) {b : Int} (b0 : 0 ≤ b) (b1 : b ≤ 40) : oK (fun r => msc m d r.2) (f_X7_mostLeft σ τ (zI b)) := by
  unfold f_X7_mostLeft
  rw [z_0]
  refine ok_for (τ := qS) 10 (msc m d) (fun again i t h0 h1 ht ih => ?_) 20000 0 _ (by omega) (by omega) hσ (by omega)
  unfold b_X7_mostLeft_4
  dsimp only
  rw [z_s1, z_10, z_0]
  refine ok_if (fun _ => ?_) (fun c => ?_)
  · refine ok_for (τ := qS × Int32) 100 (fun t => msc m d t.1) (fun again i t h0 h1 ht ih => ?_) 20000 0 _ (by omega) (by omega) ht (by omega)
    unfold b_X7_mostLeft_25
    dsimp only
    rw [z_s1, z_100, z_10, z_rem h0 (by omega) (by omega) (by omega), z_div h0 (by omega) (by omega) (by omega)]
    refine ok_if (fun _ => ok_r ht) (fun c => ?_)
    have hi := t_nle h0 (by omega) (by omega) (by omega) c
    obtain ⟨m', e, hs⟩ := ht
    rw [e]
    refine ok_cl (v_isFit m' hd τ h0 hi) (fun r hr => ok_if (fun _ => ih hi (eC (pw m' d), t.2) ⟨m', rfl, hs⟩) (fun c2 => ?_))
    rcases hr with z | ⟨_, z1, z2⟩
    · exact absurd z c2
    · have q0 : 0 ≤ b / (i % 10) := Int.ediv_nonneg b0 (by omega)
      have q1 : b / (i % 10) ≤ b := Int.ediv_le_self _ b0
      have hb := itr_b hd (t := i / 10) (by omega) (by omega) (b / (i % 10)).toNat
      rw [s_nz (by omega) (by omega) (by omega), z_div b0 (by omega) (by omega) (by omega), m_fadedBy m' hd τ (by omega) (by omega) q0 (by omega), s_cl]
      refine ok_rd hb.1 (by omega) (by omega) (fun _ => ok_wrM ⟨m', rfl, hs⟩ (by decide) hb.1 (by omega) (by omega) (fun v hv => ok_rd hb.1 (by omega) (by omega) (fun _ => ok_if (fun _ => ih hi (v, t.2) hv) (fun _ => ok_rd hb.1 (by omega) (by omega) (fun x => ih hi (v, x) hv)))))
  · have hi := t_nle h0 (by omega) (by omega) (by omega) c
    exact ok_wrM ht (by decide) h0 (by omega) (by omega) (fun v hv => ih hi _ hv)
theorem v_ask (m : Nat → Int → Int) {d} (hd : okd d) (τ : qL) (w : Int32) : oK (fun r => msc m d r.2) (f_X7_ask (eC (pw m d)) τ w) := by
  unfold f_X7_ask
  rw [zl_0, zl_1, v_in w (by omega) (by omega) (by omega) (by omega), s_cl, z_0]
  refine ok_if (fun _ => ok_r (msc_rf m d)) (fun _ => ok_cl (v_mostLeft m hd τ (msc_rf m d) (by omega) (by omega)) (fun y hy => ?_))
  rw [z_1]
  refine ok_for (τ := qS × Int32 × Int32) 41 (fun t => msc m d t.1) (fun again i t h0 h1 ht ih => ?_) 20000 1 _ (by omega) (by omega) hy (by omega)
  unfold b_X7_ask_24
  dsimp only
  rw [z_s1, z_40]
  refine ok_if (fun _ => ok_if (fun _ => ok_r ht) (fun _ => ok_if (fun _ => ok_r ht) (fun _ => ok_r ht))) (fun c => ?_)
  have hi : i < 41 := by
    rw [z_lt (by omega) (by omega) (by omega) (by omega)] at c; omega
  exact ok_cl (v_mostLeft m hd τ ht h0 (by omega)) (fun y hy => ok_if (fun _ => ok_if (fun _ => ih hi _ hy) (fun _ => ih hi _ hy)) (fun _ => ok_if (fun _ => ih hi _ hy) (fun _ => ih hi _ hy)))

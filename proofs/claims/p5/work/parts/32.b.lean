/-! the reference: a morning, what happens, what is kept and put back -/
theorem md_ud (d : Nat → Int → Int) (i v : Int) : ud (md d) 99 i v = md (ud d 99 i v) := by
  funext a b
  simp only [ud, md]
  by_cases h : a = 99 ∧ b = i
  · obtain ⟨rfl, rfl⟩ := h
    rw [if_pos ⟨rfl, rfl⟩, if_neg (by omega), if_pos ⟨rfl, rfl⟩]
  · rw [if_neg h]
    by_cases h2 : a = 2 ∧ 0 ≤ b ∧ b < 10
    · rw [if_pos h2, if_pos h2]
    · rw [if_neg h2, if_neg h2, if_neg h]
theorem md_99 (d : Nat → Int → Int) (i : Int) : md d 99 i = d 99 i := by unfold md; rw [if_neg (by omega)]
def mdf (h : Int) (d : Nat → Int → Int) : Nat → Int → Int := fun k i => if k = 2 ∧ h ≤ i ∧ i < 10 then 0 else d k i
theorem mdf_s {h : Int} (h0 : h < 10) (d : Nat → Int → Int) : mdf (h + 1) (ud d 2 h 0) = mdf h d := by
  funext a b
  unfold mdf ud
  by_cases e : a = 2
  · subst e
    by_cases e2 : b = h
    · subst e2
      rw [if_neg (by omega), if_pos ⟨rfl, rfl⟩, if_pos ⟨rfl, by omega, by omega⟩]
    · by_cases e3 : h ≤ b ∧ b < 10
      · rw [if_pos ⟨rfl, by omega, by omega⟩, if_pos ⟨rfl, e3⟩]
      · rw [if_neg (by omega), if_neg (by omega), if_neg (by omega)]
  · rw [if_neg (by omega), if_neg (by omega), if_neg (by omega)]
theorem mdf_e {h : Int} (h0 : 10 ≤ h) (d : Nat → Int → Int) : mdf h d = d := by
  funext a b
  unfold mdf
  rw [if_neg (by omega)]
theorem m_morning (m d : Nat → Int → Int) (τ : qL) (hd : okd d) : f_X7_morning (eC (pw m d)) τ = some (eC (pw m (md (ud (ud (ud d 99 8 10) 99 9 0) 99 11 (d 99 11 + 1))))) := by
  have e1 : q_pt (q_pt (eC (pw m d)) 5 (10 : Int32)) 6 (0 : Int32) = eC (pw m (ud (ud d 99 8 10) 99 9 0)) := by simp (disch := omega) only [pw_0, up_0, pw_1, up_1, pw_2, up_2, pw_3, up_3, pw_4, up_4, pw_9, up_9, pw_10, up_10, pwi_5, upi_5, pwi_6, upi_6, pwi_7, upi_7, pwi_8, upi_8, pwi_11, upi_11, pw_12, up_12, pw_14, up_14, pw_15, up_15, pw_16, up_16, pw_18, up_18, pw_24, up_24, pw_25, up_25, pw_26, up_26, pw_29, up_29, pw_30, up_30, pw_31, up_31, pwi_13, upi_13, pwi_17, upi_17, pwi_19, upi_19, pwi_20, upi_20, pwi_21, upi_21, pwi_22, upi_22, pwi_23, upi_23, pwi_32, upi_32, pwi_33, upi_33, eC_5, eC_6, eC_13, eC_17, eC_19, eC_20, eC_21, eC_22, eC_23, eC_32, eC_33, eC_p5, eC_p6, eC_p13, eC_p17, eC_p19, eC_p20, eC_p21, eC_p22, eC_p23, eC_p32, eC_p33, s_T, s_F, s_bd, s_cl, s_rd, s_wr, s_ite, z_ite, z_neg, z_add, z_sub, z_mul, z_le, z_lt, z_eq, eC_at, eC_7, eC_8, eC_9, eC_10, eC_11, eC_p7, eC_p8, eC_p9, eC_p10, eC_p11, eC_up, ud_same, ud_ne, if_pos, if_neg, z_0, z_1, z_2, z_3, z_4, z_5, z_6, z_7, z_8, z_9, z_10, z_11, z_12, z_13, z_14, z_15, z_16, z_17, z_18, z_19, z_20, z_21, z_22, z_23, z_24, z_25, z_26, z_27, z_28, z_29, z_30, z_31, z_32, z_33, z_34, z_35, z_36, z_37, z_38, z_39, z_40, z_41, z_42, z_43, z_44, z_45, z_46, z_47, z_48, z_49, z_50, z_51, z_52, z_53, z_54, z_55, z_56, z_57, z_58, z_59, z_60, z_61, z_62, z_63, z_64, z_65, z_66, z_67, z_68, z_69, z_70, z_71, z_72, z_73, z_74, z_75, z_76, z_77, z_78, z_79, z_80, z_81, z_82, z_83, z_84, z_85, z_86, z_87, z_88, z_89, z_90, z_91, z_92, z_93, z_94, z_95, z_96, z_97, z_98, z_99, z_100, z_101, z_102, z_103, z_104, z_105, z_106, z_107, z_108, z_109, z_110, z_111, z_112, z_113, z_114, z_115, z_116, z_117, z_118, z_119, z_120, z_121, z_122, z_123, z_124, z_125, z_126, z_127, z_199, z_200, z_360, z_410, z_1000, z_1023, z_1024, z_1219, z_9999, z_10240, z_65537]
  have key := lp_en (body := b_X7_morning_13) (k := fun z5 => q_bd (q_pt z5.2 8 ((z5.2 99 8) + 1)) fun σM_6 => some σM_6)
    (fun a : Int × (Nat → Int → Int) => (zI a.1, eC (pw m a.2))) (fun _ a => some (eC (pw m (ud (mdf a.1 a.2) 99 11 (mdf a.1 a.2 99 11 + 1)))))
    (fun N a => 0 ≤ a.1 ∧ a.1 ≤ 10 ∧ (10 - a.1).toNat < N) (fun a => by omega) (by
      rintro again N ⟨h, d⟩ ⟨h0, h1, h2⟩ ih
      dsimp only at h0 h1 h2 ⊢
      unfold b_X7_morning_13
      by_cases c : h < 10
      · simp (disch := omega) only [pw_0, up_0, pw_1, up_1, pw_2, up_2, pw_3, up_3, pw_4, up_4, pw_9, up_9, pw_10, up_10, pwi_5, upi_5, pwi_6, upi_6, pwi_7, upi_7, pwi_8, upi_8, pwi_11, upi_11, pw_12, up_12, pw_14, up_14, pw_15, up_15, pw_16, up_16, pw_18, up_18, pw_24, up_24, pw_25, up_25, pw_26, up_26, pw_29, up_29, pw_30, up_30, pw_31, up_31, pwi_13, upi_13, pwi_17, upi_17, pwi_19, upi_19, pwi_20, upi_20, pwi_21, upi_21, pwi_22, upi_22, pwi_23, upi_23, pwi_32, upi_32, pwi_33, upi_33, eC_5, eC_6, eC_13, eC_17, eC_19, eC_20, eC_21, eC_22, eC_23, eC_32, eC_33, eC_p5, eC_p6, eC_p13, eC_p17, eC_p19, eC_p20, eC_p21, eC_p22, eC_p23, eC_p32, eC_p33, s_T, s_F, s_bd, s_cl, s_rd, s_wr, s_ite, z_ite, z_neg, z_add, z_sub, z_mul, z_le, z_lt, z_eq, eC_at, eC_7, eC_8, eC_9, eC_10, eC_11, eC_p7, eC_p8, eC_p9, eC_p10, eC_p11, eC_up, ud_same, ud_ne, if_pos, if_neg, z_0, z_1, z_2, z_3, z_4, z_5, z_6, z_7, z_8, z_9, z_10, z_11, z_12, z_13, z_14, z_15, z_16, z_17, z_18, z_19, z_20, z_21, z_22, z_23, z_24, z_25, z_26, z_27, z_28, z_29, z_30, z_31, z_32, z_33, z_34, z_35, z_36, z_37, z_38, z_39, z_40, z_41, z_42, z_43, z_44, z_45, z_46, z_47, z_48, z_49, z_50, z_51, z_52, z_53, z_54, z_55, z_56, z_57, z_58, z_59, z_60, z_61, z_62, z_63, z_64, z_65, z_66, z_67, z_68, z_69, z_70, z_71, z_72, z_73, z_74, z_75, z_76, z_77, z_78, z_79, z_80, z_81, z_82, z_83, z_84, z_85, z_86, z_87, z_88, z_89, z_90, z_91, z_92, z_93, z_94, z_95, z_96, z_97, z_98, z_99, z_100, z_101, z_102, z_103, z_104, z_105, z_106, z_107, z_108, z_109, z_110, z_111, z_112, z_113, z_114, z_115, z_116, z_117, z_118, z_119, z_120, z_121, z_122, z_123, z_124, z_125, z_126, z_127, z_199, z_200, z_360, z_410, z_1000, z_1023, z_1024, z_1219, z_9999, z_10240, z_65537]
        have := ih (h + 1, ud d 2 h 0) ⟨by dsimp only; omega, by dsimp only; omega, by dsimp only; omega⟩
        dsimp only at this
        rw [mdf_s c] at this
        exact this
      · rw [mdf_e (by omega)]
        simp (disch := omega) only [pw_0, up_0, pw_1, up_1, pw_2, up_2, pw_3, up_3, pw_4, up_4, pw_9, up_9, pw_10, up_10, pwi_5, upi_5, pwi_6, upi_6, pwi_7, upi_7, pwi_8, upi_8, pwi_11, upi_11, pw_12, up_12, pw_14, up_14, pw_15, up_15, pw_16, up_16, pw_18, up_18, pw_24, up_24, pw_25, up_25, pw_26, up_26, pw_29, up_29, pw_30, up_30, pw_31, up_31, pwi_13, upi_13, pwi_17, upi_17, pwi_19, upi_19, pwi_20, upi_20, pwi_21, upi_21, pwi_22, upi_22, pwi_23, upi_23, pwi_32, upi_32, pwi_33, upi_33, eC_5, eC_6, eC_13, eC_17, eC_19, eC_20, eC_21, eC_22, eC_23, eC_32, eC_33, eC_p5, eC_p6, eC_p13, eC_p17, eC_p19, eC_p20, eC_p21, eC_p22, eC_p23, eC_p32, eC_p33, s_T, s_F, s_bd, s_cl, s_rd, s_wr, s_ite, z_ite, z_neg, z_add, z_sub, z_mul, z_le, z_lt, z_eq, eC_at, eC_7, eC_8, eC_9, eC_10, eC_11, eC_p7, eC_p8, eC_p9, eC_p10, eC_p11, eC_up, ud_same, ud_ne, if_pos, if_neg, z_0, z_1, z_2, z_3, z_4, z_5, z_6, z_7, z_8, z_9, z_10, z_11, z_12, z_13, z_14, z_15, z_16, z_17, z_18, z_19, z_20, z_21, z_22, z_23, z_24, z_25, z_26, z_27, z_28, z_29, z_30, z_31, z_32, z_33, z_34, z_35, z_36, z_37, z_38, z_39, z_40, z_41, z_42, z_43, z_44, z_45, z_46, z_47, z_48, z_49, z_50, z_51, z_52, z_53, z_54, z_55, z_56, z_57, z_58, z_59, z_60, z_61, z_62, z_63, z_64, z_65, z_66, z_67, z_68, z_69, z_70, z_71, z_72, z_73, z_74, z_75, z_76, z_77, z_78, z_79, z_80, z_81, z_82, z_83, z_84, z_85, z_86, z_87, z_88, z_89, z_90, z_91, z_92, z_93, z_94, z_95, z_96, z_97, z_98, z_99, z_100, z_101, z_102, z_103, z_104, z_105, z_106, z_107, z_108, z_109, z_110, z_111, z_112, z_113, z_114, z_115, z_116, z_117, z_118, z_119, z_120, z_121, z_122, z_123, z_124, z_125, z_126, z_127, z_199, z_200, z_360, z_410, z_1000, z_1023, z_1024, z_1219, z_9999, z_10240, z_65537]) 20000 (0, ud (ud d 99 8 10) 99 9 0) ⟨Int.le_refl 0, by show (0 : Int) ≤ 10; decide, by show ((10 : Int) - 0).toNat < 20000; decide⟩
  have e2 : ud (mdf 0 (ud (ud d 99 8 10) 99 9 0)) 99 11 (mdf 0 (ud (ud d 99 8 10) 99 9 0) 99 11 + 1) = md (ud (ud (ud d 99 8 10) 99 9 0) 99 11 (d 99 11 + 1)) := by
    have e : mdf 0 (ud (ud d 99 8 10) 99 9 0) = md (ud (ud d 99 8 10) 99 9 0) := rfl
    rw [e, md_ud, md_99]
    simp (disch := omega) only [pw_0, up_0, pw_1, up_1, pw_2, up_2, pw_3, up_3, pw_4, up_4, pw_9, up_9, pw_10, up_10, pwi_5, upi_5, pwi_6, upi_6, pwi_7, upi_7, pwi_8, upi_8, pwi_11, upi_11, pw_12, up_12, pw_14, up_14, pw_15, up_15, pw_16, up_16, pw_18, up_18, pw_24, up_24, pw_25, up_25, pw_26, up_26, pw_29, up_29, pw_30, up_30, pw_31, up_31, pwi_13, upi_13, pwi_17, upi_17, pwi_19, upi_19, pwi_20, upi_20, pwi_21, upi_21, pwi_22, upi_22, pwi_23, upi_23, pwi_32, upi_32, pwi_33, upi_33, eC_5, eC_6, eC_13, eC_17, eC_19, eC_20, eC_21, eC_22, eC_23, eC_32, eC_33, eC_p5, eC_p6, eC_p13, eC_p17, eC_p19, eC_p20, eC_p21, eC_p22, eC_p23, eC_p32, eC_p33, s_T, s_F, s_bd, s_cl, s_rd, s_wr, s_ite, z_ite, z_neg, z_add, z_sub, z_mul, z_le, z_lt, z_eq, eC_at, eC_7, eC_8, eC_9, eC_10, eC_11, eC_p7, eC_p8, eC_p9, eC_p10, eC_p11, eC_up, ud_same, ud_ne, if_pos, if_neg, z_0, z_1, z_2, z_3, z_4, z_5, z_6, z_7, z_8, z_9, z_10, z_11, z_12, z_13, z_14, z_15, z_16, z_17, z_18, z_19, z_20, z_21, z_22, z_23, z_24, z_25, z_26, z_27, z_28, z_29, z_30, z_31, z_32, z_33, z_34, z_35, z_36, z_37, z_38, z_39, z_40, z_41, z_42, z_43, z_44, z_45, z_46, z_47, z_48, z_49, z_50, z_51, z_52, z_53, z_54, z_55, z_56, z_57, z_58, z_59, z_60, z_61, z_62, z_63, z_64, z_65, z_66, z_67, z_68, z_69, z_70, z_71, z_72, z_73, z_74, z_75, z_76, z_77, z_78, z_79, z_80, z_81, z_82, z_83, z_84, z_85, z_86, z_87, z_88, z_89, z_90, z_91, z_92, z_93, z_94, z_95, z_96, z_97, z_98, z_99, z_100, z_101, z_102, z_103, z_104, z_105, z_106, z_107, z_108, z_109, z_110, z_111, z_112, z_113, z_114, z_115, z_116, z_117, z_118, z_119, z_120, z_121, z_122, z_123, z_124, z_125, z_126, z_127, z_199, z_200, z_360, z_410, z_1000, z_1023, z_1024, z_1219, z_9999, z_10240, z_65537]
  unfold f_X7_morning
  rw [s_bd, s_bd, e1, ← e2]
  exact key
theorem m_happen (m d : Nat → Int → Int) (τ : qL) (hd : okd d) {k w v : Int} (h1 : 0 ≤ k) (h2 : k ≤ 4) (hw : k = 1 → 0 ≤ w ∧ w ≤ 10) (hb : k = 2 → d 99 8 ≤ 9) : f_X7_happen (eC (pw m d)) τ (zI k) (zI w) (zI v) = some (eC (pw m (actd d k w v))) := by
  unfold f_X7_happen actd
  rcases (show k = 0 ∨ k = 1 ∨ k = 2 ∨ k = 3 ∨ k = 4 by omega) with e | e | e | e | e <;> subst e
  · simp (disch := omega) only [m_fill, pw_0, up_0, pw_1, up_1, pw_2, up_2, pw_3, up_3, pw_4, up_4, pw_9, up_9, pw_10, up_10, pwi_5, upi_5, pwi_6, upi_6, pwi_7, upi_7, pwi_8, upi_8, pwi_11, upi_11, pw_12, up_12, pw_14, up_14, pw_15, up_15, pw_16, up_16, pw_18, up_18, pw_24, up_24, pw_25, up_25, pw_26, up_26, pw_29, up_29, pw_30, up_30, pw_31, up_31, pwi_13, upi_13, pwi_17, upi_17, pwi_19, upi_19, pwi_20, upi_20, pwi_21, upi_21, pwi_22, upi_22, pwi_23, upi_23, pwi_32, upi_32, pwi_33, upi_33, eC_5, eC_6, eC_13, eC_17, eC_19, eC_20, eC_21, eC_22, eC_23, eC_32, eC_33, eC_p5, eC_p6, eC_p13, eC_p17, eC_p19, eC_p20, eC_p21, eC_p22, eC_p23, eC_p32, eC_p33, s_T, s_F, s_bd, s_cl, s_rd, s_wr, s_ite, z_ite, z_neg, z_add, z_sub, z_mul, z_le, z_lt, z_eq, eC_at, eC_7, eC_8, eC_9, eC_10, eC_11, eC_p7, eC_p8, eC_p9, eC_p10, eC_p11, eC_up, ud_same, ud_ne, if_pos, if_neg, z_0, z_1, z_2, z_3, z_4, z_5, z_6, z_7, z_8, z_9, z_10, z_11, z_12, z_13, z_14, z_15, z_16, z_17, z_18, z_19, z_20, z_21, z_22, z_23, z_24, z_25, z_26, z_27, z_28, z_29, z_30, z_31, z_32, z_33, z_34, z_35, z_36, z_37, z_38, z_39, z_40, z_41, z_42, z_43, z_44, z_45, z_46, z_47, z_48, z_49, z_50, z_51, z_52, z_53, z_54, z_55, z_56, z_57, z_58, z_59, z_60, z_61, z_62, z_63, z_64, z_65, z_66, z_67, z_68, z_69, z_70, z_71, z_72, z_73, z_74, z_75, z_76, z_77, z_78, z_79, z_80, z_81, z_82, z_83, z_84, z_85, z_86, z_87, z_88, z_89, z_90, z_91, z_92, z_93, z_94, z_95, z_96, z_97, z_98, z_99, z_100, z_101, z_102, z_103, z_104, z_105, z_106, z_107, z_108, z_109, z_110, z_111, z_112, z_113, z_114, z_115, z_116, z_117, z_118, z_119, z_120, z_121, z_122, z_123, z_124, z_125, z_126, z_127, z_199, z_200, z_360, z_410, z_1000, z_1023, z_1024, z_1219, z_9999, z_10240, z_65537]
  · have := hw rfl
    simp (disch := omega) only [m_carry m d τ hd, pw_0, up_0, pw_1, up_1, pw_2, up_2, pw_3, up_3, pw_4, up_4, pw_9, up_9, pw_10, up_10, pwi_5, upi_5, pwi_6, upi_6, pwi_7, upi_7, pwi_8, upi_8, pwi_11, upi_11, pw_12, up_12, pw_14, up_14, pw_15, up_15, pw_16, up_16, pw_18, up_18, pw_24, up_24, pw_25, up_25, pw_26, up_26, pw_29, up_29, pw_30, up_30, pw_31, up_31, pwi_13, upi_13, pwi_17, upi_17, pwi_19, upi_19, pwi_20, upi_20, pwi_21, upi_21, pwi_22, upi_22, pwi_23, upi_23, pwi_32, upi_32, pwi_33, upi_33, eC_5, eC_6, eC_13, eC_17, eC_19, eC_20, eC_21, eC_22, eC_23, eC_32, eC_33, eC_p5, eC_p6, eC_p13, eC_p17, eC_p19, eC_p20, eC_p21, eC_p22, eC_p23, eC_p32, eC_p33, s_T, s_F, s_bd, s_cl, s_rd, s_wr, s_ite, z_ite, z_neg, z_add, z_sub, z_mul, z_le, z_lt, z_eq, eC_at, eC_7, eC_8, eC_9, eC_10, eC_11, eC_p7, eC_p8, eC_p9, eC_p10, eC_p11, eC_up, ud_same, ud_ne, if_pos, if_neg, z_0, z_1, z_2, z_3, z_4, z_5, z_6, z_7, z_8, z_9, z_10, z_11, z_12, z_13, z_14, z_15, z_16, z_17, z_18, z_19, z_20, z_21, z_22, z_23, z_24, z_25, z_26, z_27, z_28, z_29, z_30, z_31, z_32, z_33, z_34, z_35, z_36, z_37, z_38, z_39, z_40, z_41, z_42, z_43, z_44, z_45, z_46, z_47, z_48, z_49, z_50, z_51, z_52, z_53, z_54, z_55, z_56, z_57, z_58, z_59, z_60, z_61, z_62, z_63, z_64, z_65, z_66, z_67, z_68, z_69, z_70, z_71, z_72, z_73, z_74, z_75, z_76, z_77, z_78, z_79, z_80, z_81, z_82, z_83, z_84, z_85, z_86, z_87, z_88, z_89, z_90, z_91, z_92, z_93, z_94, z_95, z_96, z_97, z_98, z_99, z_100, z_101, z_102, z_103, z_104, z_105, z_106, z_107, z_108, z_109, z_110, z_111, z_112, z_113, z_114, z_115, z_116, z_117, z_118, z_119, z_120, z_121, z_122, z_123, z_124, z_125, z_126, z_127, z_199, z_200, z_360, z_410, z_1000, z_1023, z_1024, z_1219, z_9999, z_10240, z_65537]
  · have := hb rfl
    simp (disch := omega) only [m_put m d τ hd, pw_0, up_0, pw_1, up_1, pw_2, up_2, pw_3, up_3, pw_4, up_4, pw_9, up_9, pw_10, up_10, pwi_5, upi_5, pwi_6, upi_6, pwi_7, upi_7, pwi_8, upi_8, pwi_11, upi_11, pw_12, up_12, pw_14, up_14, pw_15, up_15, pw_16, up_16, pw_18, up_18, pw_24, up_24, pw_25, up_25, pw_26, up_26, pw_29, up_29, pw_30, up_30, pw_31, up_31, pwi_13, upi_13, pwi_17, upi_17, pwi_19, upi_19, pwi_20, upi_20, pwi_21, upi_21, pwi_22, upi_22, pwi_23, upi_23, pwi_32, upi_32, pwi_33, upi_33, eC_5, eC_6, eC_13, eC_17, eC_19, eC_20, eC_21, eC_22, eC_23, eC_32, eC_33, eC_p5, eC_p6, eC_p13, eC_p17, eC_p19, eC_p20, eC_p21, eC_p22, eC_p23, eC_p32, eC_p33, s_T, s_F, s_bd, s_cl, s_rd, s_wr, s_ite, z_ite, z_neg, z_add, z_sub, z_mul, z_le, z_lt, z_eq, eC_at, eC_7, eC_8, eC_9, eC_10, eC_11, eC_p7, eC_p8, eC_p9, eC_p10, eC_p11, eC_up, ud_same, ud_ne, if_pos, if_neg, z_0, z_1, z_2, z_3, z_4, z_5, z_6, z_7, z_8, z_9, z_10, z_11, z_12, z_13, z_14, z_15, z_16, z_17, z_18, z_19, z_20, z_21, z_22, z_23, z_24, z_25, z_26, z_27, z_28, z_29, z_30, z_31, z_32, z_33, z_34, z_35, z_36, z_37, z_38, z_39, z_40, z_41, z_42, z_43, z_44, z_45, z_46, z_47, z_48, z_49, z_50, z_51, z_52, z_53, z_54, z_55, z_56, z_57, z_58, z_59, z_60, z_61, z_62, z_63, z_64, z_65, z_66, z_67, z_68, z_69, z_70, z_71, z_72, z_73, z_74, z_75, z_76, z_77, z_78, z_79, z_80, z_81, z_82, z_83, z_84, z_85, z_86, z_87, z_88, z_89, z_90, z_91, z_92, z_93, z_94, z_95, z_96, z_97, z_98, z_99, z_100, z_101, z_102, z_103, z_104, z_105, z_106, z_107, z_108, z_109, z_110, z_111, z_112, z_113, z_114, z_115, z_116, z_117, z_118, z_119, z_120, z_121, z_122, z_123, z_124, z_125, z_126, z_127, z_199, z_200, z_360, z_410, z_1000, z_1023, z_1024, z_1219, z_9999, z_10240, z_65537]
  · simp (disch := omega) only [m_stir m d τ hd, pw_0, up_0, pw_1, up_1, pw_2, up_2, pw_3, up_3, pw_4, up_4, pw_9, up_9, pw_10, up_10, pwi_5, upi_5, pwi_6, upi_6, pwi_7, upi_7, pwi_8, upi_8, pwi_11, upi_11, pw_12, up_12, pw_14, up_14, pw_15, up_15, pw_16, up_16, pw_18, up_18, pw_24, up_24, pw_25, up_25, pw_26, up_26, pw_29, up_29, pw_30, up_30, pw_31, up_31, pwi_13, upi_13, pwi_17, upi_17, pwi_19, upi_19, pwi_20, upi_20, pwi_21, upi_21, pwi_22, upi_22, pwi_23, upi_23, pwi_32, upi_32, pwi_33, upi_33, eC_5, eC_6, eC_13, eC_17, eC_19, eC_20, eC_21, eC_22, eC_23, eC_32, eC_33, eC_p5, eC_p6, eC_p13, eC_p17, eC_p19, eC_p20, eC_p21, eC_p22, eC_p23, eC_p32, eC_p33, s_T, s_F, s_bd, s_cl, s_rd, s_wr, s_ite, z_ite, z_neg, z_add, z_sub, z_mul, z_le, z_lt, z_eq, eC_at, eC_7, eC_8, eC_9, eC_10, eC_11, eC_p7, eC_p8, eC_p9, eC_p10, eC_p11, eC_up, ud_same, ud_ne, if_pos, if_neg, z_0, z_1, z_2, z_3, z_4, z_5, z_6, z_7, z_8, z_9, z_10, z_11, z_12, z_13, z_14, z_15, z_16, z_17, z_18, z_19, z_20, z_21, z_22, z_23, z_24, z_25, z_26, z_27, z_28, z_29, z_30, z_31, z_32, z_33, z_34, z_35, z_36, z_37, z_38, z_39, z_40, z_41, z_42, z_43, z_44, z_45, z_46, z_47, z_48, z_49, z_50, z_51, z_52, z_53, z_54, z_55, z_56, z_57, z_58, z_59, z_60, z_61, z_62, z_63, z_64, z_65, z_66, z_67, z_68, z_69, z_70, z_71, z_72, z_73, z_74, z_75, z_76, z_77, z_78, z_79, z_80, z_81, z_82, z_83, z_84, z_85, z_86, z_87, z_88, z_89, z_90, z_91, z_92, z_93, z_94, z_95, z_96, z_97, z_98, z_99, z_100, z_101, z_102, z_103, z_104, z_105, z_106, z_107, z_108, z_109, z_110, z_111, z_112, z_113, z_114, z_115, z_116, z_117, z_118, z_119, z_120, z_121, z_122, z_123, z_124, z_125, z_126, z_127, z_199, z_200, z_360, z_410, z_1000, z_1023, z_1024, z_1219, z_9999, z_10240, z_65537]
  · simp (disch := omega) only [m_morning m d τ hd, pw_0, up_0, pw_1, up_1, pw_2, up_2, pw_3, up_3, pw_4, up_4, pw_9, up_9, pw_10, up_10, pwi_5, upi_5, pwi_6, upi_6, pwi_7, upi_7, pwi_8, upi_8, pwi_11, upi_11, pw_12, up_12, pw_14, up_14, pw_15, up_15, pw_16, up_16, pw_18, up_18, pw_24, up_24, pw_25, up_25, pw_26, up_26, pw_29, up_29, pw_30, up_30, pw_31, up_31, pwi_13, upi_13, pwi_17, upi_17, pwi_19, upi_19, pwi_20, upi_20, pwi_21, upi_21, pwi_22, upi_22, pwi_23, upi_23, pwi_32, upi_32, pwi_33, upi_33, eC_5, eC_6, eC_13, eC_17, eC_19, eC_20, eC_21, eC_22, eC_23, eC_32, eC_33, eC_p5, eC_p6, eC_p13, eC_p17, eC_p19, eC_p20, eC_p21, eC_p22, eC_p23, eC_p32, eC_p33, s_T, s_F, s_bd, s_cl, s_rd, s_wr, s_ite, z_ite, z_neg, z_add, z_sub, z_mul, z_le, z_lt, z_eq, eC_at, eC_7, eC_8, eC_9, eC_10, eC_11, eC_p7, eC_p8, eC_p9, eC_p10, eC_p11, eC_up, ud_same, ud_ne, if_pos, if_neg, z_0, z_1, z_2, z_3, z_4, z_5, z_6, z_7, z_8, z_9, z_10, z_11, z_12, z_13, z_14, z_15, z_16, z_17, z_18, z_19, z_20, z_21, z_22, z_23, z_24, z_25, z_26, z_27, z_28, z_29, z_30, z_31, z_32, z_33, z_34, z_35, z_36, z_37, z_38, z_39, z_40, z_41, z_42, z_43, z_44, z_45, z_46, z_47, z_48, z_49, z_50, z_51, z_52, z_53, z_54, z_55, z_56, z_57, z_58, z_59, z_60, z_61, z_62, z_63, z_64, z_65, z_66, z_67, z_68, z_69, z_70, z_71, z_72, z_73, z_74, z_75, z_76, z_77, z_78, z_79, z_80, z_81, z_82, z_83, z_84, z_85, z_86, z_87, z_88, z_89, z_90, z_91, z_92, z_93, z_94, z_95, z_96, z_97, z_98, z_99, z_100, z_101, z_102, z_103, z_104, z_105, z_106, z_107, z_108, z_109, z_110, z_111, z_112, z_113, z_114, z_115, z_116, z_117, z_118, z_119, z_120, z_121, z_122, z_123, z_124, z_125, z_126, z_127, z_199, z_200, z_360, z_410, z_1000, z_1023, z_1024, z_1219, z_9999, z_10240, z_65537]
def kn (h : Int) (m d : Nat → Int → Int) : Nat → Int → Int := fun a b =>
  if a = 18 ∧ h ≤ b ∧ b < 10 then d 1 b else if a = 18 ∧ 10 + h ≤ b ∧ b < 20 then d 2 (b - 10) else if a = 18 ∧ 20 + h ≤ b ∧ b < 30 then d 3 (b - 20) else m a b
theorem kn_s {h : Int} (h0 : 0 ≤ h) (h1 : h < 10) (m d : Nat → Int → Int) : kn (h + 1) (ud (ud (ud m 18 h (d 1 h)) 18 (10 + h) (d 2 h)) 18 (20 + h) (d 3 h)) d = kn h m d := by
  funext a b
  by_cases e : a = 18
  · subst e
    unfold kn ud
    by_cases e1 : b = h
    · subst e1
      rw [if_neg (by omega), if_neg (by omega), if_neg (by omega), if_neg (by omega), if_neg (by omega), if_pos ⟨rfl, rfl⟩, if_pos ⟨rfl, by omega, by omega⟩]
    · by_cases e2 : b = 10 + h
      · subst e2
        rw [if_neg (by omega), if_neg (by omega), if_neg (by omega), if_neg (by omega), if_pos ⟨rfl, rfl⟩, if_neg (by omega), if_pos ⟨rfl, by omega, by omega⟩]
        congr 1; omega
      · by_cases e3 : b = 20 + h
        · subst e3
          rw [if_neg (by omega), if_neg (by omega), if_neg (by omega), if_pos ⟨rfl, rfl⟩, if_neg (by omega), if_neg (by omega), if_pos ⟨rfl, by omega, by omega⟩]
          congr 1; omega
        · rw [if_neg (show ¬ (18 = 18 ∧ b = 20 + h) by omega), if_neg (show ¬ (18 = 18 ∧ b = 10 + h) by omega), if_neg (show ¬ (18 = 18 ∧ b = h) by omega)]
          have q1 : (h + 1 ≤ b ∧ b < 10) = (h ≤ b ∧ b < 10) := propext ⟨fun z => by omega, fun z => by omega⟩
          have q2 : (10 + (h + 1) ≤ b ∧ b < 20) = (10 + h ≤ b ∧ b < 20) := propext ⟨fun z => by omega, fun z => by omega⟩
          have q3 : (20 + (h + 1) ≤ b ∧ b < 30) = (20 + h ≤ b ∧ b < 30) := propext ⟨fun z => by omega, fun z => by omega⟩
          simp only [q1, q2, q3]
  · unfold kn ud
    rw [if_neg (by omega), if_neg (by omega), if_neg (by omega), if_neg (by omega), if_neg (by omega), if_neg (by omega), if_neg (by omega), if_neg (by omega), if_neg (by omega)]
theorem kn_e {h : Int} (h0 : 10 ≤ h) (m d : Nat → Int → Int) : kn h m d = m := by
  funext a b
  unfold kn
  rw [if_neg (by omega), if_neg (by omega), if_neg (by omega)]
def kNow (m d : Nat → Int → Int) : Nat → Int → Int := ud (ud (ud (ud (kn 0 m d) 18 30 (d 99 8)) 18 31 (d 99 9)) 18 32 (d 99 10)) 18 33 (d 99 11)
theorem m_keepNow (m d : Nat → Int → Int) (τ : qL) : f_X7_keepNow (eC (pw m d)) τ = some (eC (pw (kNow m d) d)) := by
  unfold f_X7_keepNow
  have key := lp_en (body := b_X7_keepNow_2) (k := fun z1 => q_wr z1.2 18 34 (30 : Int32) (z1.2 99 5) fun σM_2 =>
      q_wr σM_2 18 34 (31 : Int32) (σM_2 99 6) fun σM_5 =>
      q_wr σM_5 18 34 (32 : Int32) (σM_5 99 7) fun σM_8 =>
      q_wr σM_8 18 34 (33 : Int32) (σM_8 99 8) fun σM_11 =>
      some σM_11)
    (fun a : Int × (Nat → Int → Int) => (zI a.1, eC (pw a.2 d))) (fun _ a => some (eC (pw (ud (ud (ud (ud (kn a.1 a.2 d) 18 30 (d 99 8)) 18 31 (d 99 9)) 18 32 (d 99 10)) 18 33 (d 99 11)) d)))
    (fun N a => 0 ≤ a.1 ∧ a.1 ≤ 10 ∧ (10 - a.1).toNat < N) (fun a => by omega) (by
      rintro again N ⟨h, m⟩ ⟨h0, h1, h2⟩ ih
      dsimp only at h0 h1 h2 ⊢
      unfold b_X7_keepNow_2
      by_cases c : h < 10
      · simp (disch := omega) only [pw_0, up_0, pw_1, up_1, pw_2, up_2, pw_3, up_3, pw_4, up_4, pw_9, up_9, pw_10, up_10, pwi_5, upi_5, pwi_6, upi_6, pwi_7, upi_7, pwi_8, upi_8, pwi_11, upi_11, pw_12, up_12, pw_14, up_14, pw_15, up_15, pw_16, up_16, pw_18, up_18, pw_24, up_24, pw_25, up_25, pw_26, up_26, pw_29, up_29, pw_30, up_30, pw_31, up_31, pwi_13, upi_13, pwi_17, upi_17, pwi_19, upi_19, pwi_20, upi_20, pwi_21, upi_21, pwi_22, upi_22, pwi_23, upi_23, pwi_32, upi_32, pwi_33, upi_33, eC_5, eC_6, eC_13, eC_17, eC_19, eC_20, eC_21, eC_22, eC_23, eC_32, eC_33, eC_p5, eC_p6, eC_p13, eC_p17, eC_p19, eC_p20, eC_p21, eC_p22, eC_p23, eC_p32, eC_p33, s_T, s_F, s_bd, s_cl, s_rd, s_wr, s_ite, z_ite, z_neg, z_add, z_sub, z_mul, z_le, z_lt, z_eq, eC_at, eC_7, eC_8, eC_9, eC_10, eC_11, eC_p7, eC_p8, eC_p9, eC_p10, eC_p11, eC_up, ud_same, ud_ne, if_pos, if_neg, z_0, z_1, z_2, z_3, z_4, z_5, z_6, z_7, z_8, z_9, z_10, z_11, z_12, z_13, z_14, z_15, z_16, z_17, z_18, z_19, z_20, z_21, z_22, z_23, z_24, z_25, z_26, z_27, z_28, z_29, z_30, z_31, z_32, z_33, z_34, z_35, z_36, z_37, z_38, z_39, z_40, z_41, z_42, z_43, z_44, z_45, z_46, z_47, z_48, z_49, z_50, z_51, z_52, z_53, z_54, z_55, z_56, z_57, z_58, z_59, z_60, z_61, z_62, z_63, z_64, z_65, z_66, z_67, z_68, z_69, z_70, z_71, z_72, z_73, z_74, z_75, z_76, z_77, z_78, z_79, z_80, z_81, z_82, z_83, z_84, z_85, z_86, z_87, z_88, z_89, z_90, z_91, z_92, z_93, z_94, z_95, z_96, z_97, z_98, z_99, z_100, z_101, z_102, z_103, z_104, z_105, z_106, z_107, z_108, z_109, z_110, z_111, z_112, z_113, z_114, z_115, z_116, z_117, z_118, z_119, z_120, z_121, z_122, z_123, z_124, z_125, z_126, z_127, z_199, z_200, z_360, z_410, z_1000, z_1023, z_1024, z_1219, z_9999, z_10240, z_65537]
        have := ih (h + 1, ud (ud (ud m 18 h (d 1 h)) 18 (10 + h) (d 2 h)) 18 (20 + h) (d 3 h)) ⟨by dsimp only; omega, by dsimp only; omega, by dsimp only; omega⟩
        dsimp only at this
        rw [kn_s h0 c] at this
        exact this
      · rw [kn_e (by omega)]
        simp (disch := omega) only [pw_0, up_0, pw_1, up_1, pw_2, up_2, pw_3, up_3, pw_4, up_4, pw_9, up_9, pw_10, up_10, pwi_5, upi_5, pwi_6, upi_6, pwi_7, upi_7, pwi_8, upi_8, pwi_11, upi_11, pw_12, up_12, pw_14, up_14, pw_15, up_15, pw_16, up_16, pw_18, up_18, pw_24, up_24, pw_25, up_25, pw_26, up_26, pw_29, up_29, pw_30, up_30, pw_31, up_31, pwi_13, upi_13, pwi_17, upi_17, pwi_19, upi_19, pwi_20, upi_20, pwi_21, upi_21, pwi_22, upi_22, pwi_23, upi_23, pwi_32, upi_32, pwi_33, upi_33, eC_5, eC_6, eC_13, eC_17, eC_19, eC_20, eC_21, eC_22, eC_23, eC_32, eC_33, eC_p5, eC_p6, eC_p13, eC_p17, eC_p19, eC_p20, eC_p21, eC_p22, eC_p23, eC_p32, eC_p33, s_T, s_F, s_bd, s_cl, s_rd, s_wr, s_ite, z_ite, z_neg, z_add, z_sub, z_mul, z_le, z_lt, z_eq, eC_at, eC_7, eC_8, eC_9, eC_10, eC_11, eC_p7, eC_p8, eC_p9, eC_p10, eC_p11, eC_up, ud_same, ud_ne, if_pos, if_neg, z_0, z_1, z_2, z_3, z_4, z_5, z_6, z_7, z_8, z_9, z_10, z_11, z_12, z_13, z_14, z_15, z_16, z_17, z_18, z_19, z_20, z_21, z_22, z_23, z_24, z_25, z_26, z_27, z_28, z_29, z_30, z_31, z_32, z_33, z_34, z_35, z_36, z_37, z_38, z_39, z_40, z_41, z_42, z_43, z_44, z_45, z_46, z_47, z_48, z_49, z_50, z_51, z_52, z_53, z_54, z_55, z_56, z_57, z_58, z_59, z_60, z_61, z_62, z_63, z_64, z_65, z_66, z_67, z_68, z_69, z_70, z_71, z_72, z_73, z_74, z_75, z_76, z_77, z_78, z_79, z_80, z_81, z_82, z_83, z_84, z_85, z_86, z_87, z_88, z_89, z_90, z_91, z_92, z_93, z_94, z_95, z_96, z_97, z_98, z_99, z_100, z_101, z_102, z_103, z_104, z_105, z_106, z_107, z_108, z_109, z_110, z_111, z_112, z_113, z_114, z_115, z_116, z_117, z_118, z_119, z_120, z_121, z_122, z_123, z_124, z_125, z_126, z_127, z_199, z_200, z_360, z_410, z_1000, z_1023, z_1024, z_1219, z_9999, z_10240, z_65537]) 20000 (0, m) ⟨Int.le_refl 0, by show (0 : Int) ≤ 10; decide, by show ((10 : Int) - 0).toNat < 20000; decide⟩
  exact key
def bk (h : Int) (m d : Nat → Int → Int) : Nat → Int → Int := fun a b =>
  if a = 1 ∧ h ≤ b ∧ b < 10 then m 18 b else if a = 2 ∧ h ≤ b ∧ b < 10 then m 18 (10 + b) else if a = 3 ∧ h ≤ b ∧ b < 10 then m 18 (20 + b) else d a b
theorem bk_s {h : Int} (h0 : 0 ≤ h) (h1 : h < 10) (m d : Nat → Int → Int) : bk (h + 1) m (ud (ud (ud d 1 h (m 18 h)) 2 h (m 18 (10 + h))) 3 h (m 18 (20 + h))) = bk h m d := by
  funext a b
  by_cases e : b = h
  · subst e
    unfold bk ud
    by_cases e1 : a = 1
    · subst e1
      rw [if_neg (by omega), if_neg (by omega), if_neg (by omega), if_neg (by omega), if_neg (by omega), if_pos ⟨rfl, rfl⟩, if_pos ⟨rfl, by omega, by omega⟩]
    · by_cases e2 : a = 2
      · subst e2
        rw [if_neg (by omega), if_neg (by omega), if_neg (by omega), if_neg (by omega), if_pos ⟨rfl, rfl⟩, if_neg (by omega), if_pos ⟨rfl, by omega, by omega⟩]
      · by_cases e3 : a = 3
        · subst e3
          rw [if_neg (by omega), if_neg (by omega), if_neg (by omega), if_pos ⟨rfl, rfl⟩, if_neg (by omega), if_neg (by omega), if_pos ⟨rfl, by omega, by omega⟩]
        · rw [if_neg (by omega), if_neg (by omega), if_neg (by omega), if_neg (by omega), if_neg (by omega), if_neg (by omega), if_neg (by omega), if_neg (by omega), if_neg (by omega)]
  · unfold bk ud
    rw [if_neg (show ¬ (a = 3 ∧ b = h) by omega), if_neg (show ¬ (a = 2 ∧ b = h) by omega), if_neg (show ¬ (a = 1 ∧ b = h) by omega)]
    have q1 : (h + 1 ≤ b ∧ b < 10) = (h ≤ b ∧ b < 10) := propext ⟨fun z => by omega, fun z => by omega⟩
    simp only [q1]
theorem bk_e {h : Int} (h0 : 10 ≤ h) (m d : Nat → Int → Int) : bk h m d = d := by
  funext a b
  unfold bk
  rw [if_neg (by omega), if_neg (by omega), if_neg (by omega)]
def bkD (m d : Nat → Int → Int) : Nat → Int → Int := ud (ud (ud (ud (bk 0 m d) 99 8 (m 18 30)) 99 9 (m 18 31)) 99 10 (m 18 32)) 99 11 (m 18 33)
theorem m_back (m d : Nat → Int → Int) (τ : qL) (r : Int32) : f_X7_back (eC (pw m d)) τ r = some (r, eC (pw m (bkD m d))) := by
  unfold f_X7_back
  have key := lp_en (body := b_X7_back_2) (k := fun z1 => q_rd z1.2 18 34 (30 : Int32) fun r_2 =>
      q_bd (q_pt z1.2 5 r_2) fun σM_5 =>
      q_rd σM_5 18 34 (31 : Int32) fun r_7 =>
      q_bd (q_pt σM_5 6 r_7) fun σM_10 =>
      q_rd σM_10 18 34 (32 : Int32) fun r_12 =>
      q_bd (q_pt σM_10 7 r_12) fun σM_15 =>
      q_rd σM_15 18 34 (33 : Int32) fun r_17 =>
      q_bd (q_pt σM_15 8 r_17) fun σM_20 =>
      some (r, σM_20))
    (fun a : Int × (Nat → Int → Int) => (zI a.1, eC (pw m a.2))) (fun _ a => some (r, eC (pw m (ud (ud (ud (ud (bk a.1 m a.2) 99 8 (m 18 30)) 99 9 (m 18 31)) 99 10 (m 18 32)) 99 11 (m 18 33)))))
    (fun N a => 0 ≤ a.1 ∧ a.1 ≤ 10 ∧ (10 - a.1).toNat < N) (fun a => by omega) (by
      rintro again N ⟨h, d⟩ ⟨h0, h1, h2⟩ ih
      dsimp only at h0 h1 h2 ⊢
      unfold b_X7_back_2
      by_cases c : h < 10
      · simp (disch := omega) only [pw_0, up_0, pw_1, up_1, pw_2, up_2, pw_3, up_3, pw_4, up_4, pw_9, up_9, pw_10, up_10, pwi_5, upi_5, pwi_6, upi_6, pwi_7, upi_7, pwi_8, upi_8, pwi_11, upi_11, pw_12, up_12, pw_14, up_14, pw_15, up_15, pw_16, up_16, pw_18, up_18, pw_24, up_24, pw_25, up_25, pw_26, up_26, pw_29, up_29, pw_30, up_30, pw_31, up_31, pwi_13, upi_13, pwi_17, upi_17, pwi_19, upi_19, pwi_20, upi_20, pwi_21, upi_21, pwi_22, upi_22, pwi_23, upi_23, pwi_32, upi_32, pwi_33, upi_33, eC_5, eC_6, eC_13, eC_17, eC_19, eC_20, eC_21, eC_22, eC_23, eC_32, eC_33, eC_p5, eC_p6, eC_p13, eC_p17, eC_p19, eC_p20, eC_p21, eC_p22, eC_p23, eC_p32, eC_p33, s_T, s_F, s_bd, s_cl, s_rd, s_wr, s_ite, z_ite, z_neg, z_add, z_sub, z_mul, z_le, z_lt, z_eq, eC_at, eC_7, eC_8, eC_9, eC_10, eC_11, eC_p7, eC_p8, eC_p9, eC_p10, eC_p11, eC_up, ud_same, ud_ne, if_pos, if_neg, z_0, z_1, z_2, z_3, z_4, z_5, z_6, z_7, z_8, z_9, z_10, z_11, z_12, z_13, z_14, z_15, z_16, z_17, z_18, z_19, z_20, z_21, z_22, z_23, z_24, z_25, z_26, z_27, z_28, z_29, z_30, z_31, z_32, z_33, z_34, z_35, z_36, z_37, z_38, z_39, z_40, z_41, z_42, z_43, z_44, z_45, z_46, z_47, z_48, z_49, z_50, z_51, z_52, z_53, z_54, z_55, z_56, z_57, z_58, z_59, z_60, z_61, z_62, z_63, z_64, z_65, z_66, z_67, z_68, z_69, z_70, z_71, z_72, z_73, z_74, z_75, z_76, z_77, z_78, z_79, z_80, z_81, z_82, z_83, z_84, z_85, z_86, z_87, z_88, z_89, z_90, z_91, z_92, z_93, z_94, z_95, z_96, z_97, z_98, z_99, z_100, z_101, z_102, z_103, z_104, z_105, z_106, z_107, z_108, z_109, z_110, z_111, z_112, z_113, z_114, z_115, z_116, z_117, z_118, z_119, z_120, z_121, z_122, z_123, z_124, z_125, z_126, z_127, z_199, z_200, z_360, z_410, z_1000, z_1023, z_1024, z_1219, z_9999, z_10240, z_65537]
        have := ih (h + 1, ud (ud (ud d 1 h (m 18 h)) 2 h (m 18 (10 + h))) 3 h (m 18 (20 + h))) ⟨by dsimp only; omega, by dsimp only; omega, by dsimp only; omega⟩
        dsimp only at this
        rw [bk_s h0 c] at this
        exact this
      · rw [bk_e (by omega)]
        simp (disch := omega) only [pw_0, up_0, pw_1, up_1, pw_2, up_2, pw_3, up_3, pw_4, up_4, pw_9, up_9, pw_10, up_10, pwi_5, upi_5, pwi_6, upi_6, pwi_7, upi_7, pwi_8, upi_8, pwi_11, upi_11, pw_12, up_12, pw_14, up_14, pw_15, up_15, pw_16, up_16, pw_18, up_18, pw_24, up_24, pw_25, up_25, pw_26, up_26, pw_29, up_29, pw_30, up_30, pw_31, up_31, pwi_13, upi_13, pwi_17, upi_17, pwi_19, upi_19, pwi_20, upi_20, pwi_21, upi_21, pwi_22, upi_22, pwi_23, upi_23, pwi_32, upi_32, pwi_33, upi_33, eC_5, eC_6, eC_13, eC_17, eC_19, eC_20, eC_21, eC_22, eC_23, eC_32, eC_33, eC_p5, eC_p6, eC_p13, eC_p17, eC_p19, eC_p20, eC_p21, eC_p22, eC_p23, eC_p32, eC_p33, s_T, s_F, s_bd, s_cl, s_rd, s_wr, s_ite, z_ite, z_neg, z_add, z_sub, z_mul, z_le, z_lt, z_eq, eC_at, eC_7, eC_8, eC_9, eC_10, eC_11, eC_p7, eC_p8, eC_p9, eC_p10, eC_p11, eC_up, ud_same, ud_ne, if_pos, if_neg, z_0, z_1, z_2, z_3, z_4, z_5, z_6, z_7, z_8, z_9, z_10, z_11, z_12, z_13, z_14, z_15, z_16, z_17, z_18, z_19, z_20, z_21, z_22, z_23, z_24, z_25, z_26, z_27, z_28, z_29, z_30, z_31, z_32, z_33, z_34, z_35, z_36, z_37, z_38, z_39, z_40, z_41, z_42, z_43, z_44, z_45, z_46, z_47, z_48, z_49, z_50, z_51, z_52, z_53, z_54, z_55, z_56, z_57, z_58, z_59, z_60, z_61, z_62, z_63, z_64, z_65, z_66, z_67, z_68, z_69, z_70, z_71, z_72, z_73, z_74, z_75, z_76, z_77, z_78, z_79, z_80, z_81, z_82, z_83, z_84, z_85, z_86, z_87, z_88, z_89, z_90, z_91, z_92, z_93, z_94, z_95, z_96, z_97, z_98, z_99, z_100, z_101, z_102, z_103, z_104, z_105, z_106, z_107, z_108, z_109, z_110, z_111, z_112, z_113, z_114, z_115, z_116, z_117, z_118, z_119, z_120, z_121, z_122, z_123, z_124, z_125, z_126, z_127, z_199, z_200, z_360, z_410, z_1000, z_1023, z_1024, z_1219, z_9999, z_10240, z_65537]) 20000 (0, d) ⟨Int.le_refl 0, by show (0 : Int) ≤ 10; decide, by show ((10 : Int) - 0).toNat < 20000; decide⟩
  exact key

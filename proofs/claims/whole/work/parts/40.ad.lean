/-! what is told, how tales fade: exactly -/
section TOLD
variable {d e m : Nat → Int → Int} {τ : qL}
theorem c_told (hd : okd d) (hp : mpad m e) (a : Int32) : ∃ r, f_X6_told (eC e) (eC d) a = some r ∧ f_X7_told (eC (pw m d)) τ a = some r := by
  obtain ⟨a, a0, a1, rfl⟩ := z_of a
  have es : f_X3_size (eC e) = some (zI (e 99 1)) := rfl
  have ec : f_X1_sightCount (eC d) = some (zI (d 99 7)) := rfl
  unfold f_X6_told f_X7_told
  by_cases c0 : 0 ≤ a ∧ a ≤ 5
  · rcases (show a = 0 ∨ a = 1 ∨ a = 2 ∨ a = 3 ∨ a = 4 ∨ a = 5 by omega) with z | z | z | z | z | z <;> subst z
    · refine ⟨zI (e 99 1), ?_, ?_⟩
      · simp (disch := omega) only [es, s_T, s_F, s_bd, s_cl, s_rd, s_wr, s_ite, z_ite, z_neg, z_add, z_sub, z_mul, z_le, z_lt, z_eq, eC_at, eC_7, eC_8, eC_9, eC_10, eC_11, eC_p7, eC_p8, eC_p9, eC_p10, eC_p11, eC_up, ud_same, ud_ne, if_pos, if_neg, z_0, z_1, z_2, z_3, z_4, z_5, z_6, z_7, z_8, z_9, z_10, z_11, z_12, z_13, z_14, z_15, z_16, z_17, z_18, z_19, z_20, z_21, z_22, z_23, z_24, z_25, z_26, z_27, z_28, z_29, z_30, z_31, z_32, z_33, z_34, z_35, z_36, z_37, z_38, z_39, z_40, z_41, z_42, z_43, z_44, z_45, z_46, z_47, z_48, z_49, z_50, z_51, z_52, z_53, z_54, z_55, z_56, z_57, z_58, z_59, z_60, z_61, z_62, z_63, z_64, z_65, z_66, z_67, z_68, z_69, z_70, z_71, z_72, z_73, z_74, z_75, z_76, z_77, z_78, z_79, z_80, z_81, z_82, z_83, z_84, z_85, z_86, z_87, z_88, z_89, z_90, z_91, z_92, z_93, z_94, z_95, z_96, z_97, z_98, z_99, z_100, z_101, z_102, z_103, z_104, z_105, z_106, z_107, z_108, z_109, z_110, z_111, z_112, z_113, z_114, z_115, z_116, z_117, z_118, z_119, z_120, z_121, z_122, z_123, z_124, z_125, z_126, z_127, z_199, z_200, z_360, z_410, z_1000, z_1023, z_1024, z_1219, z_9999, z_10240, z_65537]
      · simp (disch := omega) only [m_isPlace, m_isHouse, m_isTale, m_in, z_l, zl_neg, zl_0, zl_1, zl_2, zl_3, zl_5, zl_8, zl_9, zl_10, zl_19, zl_33, zl_40, zl_49, zl_57, zl_60, zl_65, zl_74, zl_99, zl_100, zl_126, zl_199, zl_1000, zl_1219, zl_9999, hp.2, pw_0, up_0, pw_1, up_1, pw_2, up_2, pw_3, up_3, pw_4, up_4, pw_9, up_9, pw_10, up_10, pwi_5, upi_5, pwi_6, upi_6, pwi_7, upi_7, pwi_8, upi_8, pwi_11, upi_11, pw_12, up_12, pw_14, up_14, pw_15, up_15, pw_16, up_16, pw_18, up_18, pw_24, up_24, pw_25, up_25, pw_26, up_26, pw_29, up_29, pw_30, up_30, pw_31, up_31, pwi_13, upi_13, pwi_17, upi_17, pwi_19, upi_19, pwi_20, upi_20, pwi_21, upi_21, pwi_22, upi_22, pwi_23, upi_23, pwi_32, upi_32, pwi_33, upi_33, eC_5, eC_6, eC_13, eC_17, eC_19, eC_20, eC_21, eC_22, eC_23, eC_32, eC_33, eC_p5, eC_p6, eC_p13, eC_p17, eC_p19, eC_p20, eC_p21, eC_p22, eC_p23, eC_p32, eC_p33, s_T, s_F, s_bd, s_cl, s_rd, s_wr, s_ite, z_ite, z_neg, z_add, z_sub, z_mul, z_le, z_lt, z_eq, eC_at, eC_7, eC_8, eC_9, eC_10, eC_11, eC_p7, eC_p8, eC_p9, eC_p10, eC_p11, eC_up, ud_same, ud_ne, if_pos, if_neg, z_0, z_1, z_2, z_3, z_4, z_5, z_6, z_7, z_8, z_9, z_10, z_11, z_12, z_13, z_14, z_15, z_16, z_17, z_18, z_19, z_20, z_21, z_22, z_23, z_24, z_25, z_26, z_27, z_28, z_29, z_30, z_31, z_32, z_33, z_34, z_35, z_36, z_37, z_38, z_39, z_40, z_41, z_42, z_43, z_44, z_45, z_46, z_47, z_48, z_49, z_50, z_51, z_52, z_53, z_54, z_55, z_56, z_57, z_58, z_59, z_60, z_61, z_62, z_63, z_64, z_65, z_66, z_67, z_68, z_69, z_70, z_71, z_72, z_73, z_74, z_75, z_76, z_77, z_78, z_79, z_80, z_81, z_82, z_83, z_84, z_85, z_86, z_87, z_88, z_89, z_90, z_91, z_92, z_93, z_94, z_95, z_96, z_97, z_98, z_99, z_100, z_101, z_102, z_103, z_104, z_105, z_106, z_107, z_108, z_109, z_110, z_111, z_112, z_113, z_114, z_115, z_116, z_117, z_118, z_119, z_120, z_121, z_122, z_123, z_124, z_125, z_126, z_127, z_199, z_200, z_360, z_410, z_1000, z_1023, z_1024, z_1219, z_9999, z_10240, z_65537]
    · refine ⟨zI (pFact d (1 - 1)), ?_, ?_⟩
      · simp (disch := omega) only [x_isPlace, x_isHouse, x_isTale, x_within, x_longBetween, x_layRoad, x_doubtOf, x_furnish, x_beliefOf, x_convince, x_fadesInto, x_letFade, x_panFact, s_T, s_F, s_bd, s_cl, s_rd, s_wr, s_ite, z_ite, z_neg, z_add, z_sub, z_mul, z_le, z_lt, z_eq, eC_at, eC_7, eC_8, eC_9, eC_10, eC_11, eC_p7, eC_p8, eC_p9, eC_p10, eC_p11, eC_up, ud_same, ud_ne, if_pos, if_neg, z_0, z_1, z_2, z_3, z_4, z_5, z_6, z_7, z_8, z_9, z_10, z_11, z_12, z_13, z_14, z_15, z_16, z_17, z_18, z_19, z_20, z_21, z_22, z_23, z_24, z_25, z_26, z_27, z_28, z_29, z_30, z_31, z_32, z_33, z_34, z_35, z_36, z_37, z_38, z_39, z_40, z_41, z_42, z_43, z_44, z_45, z_46, z_47, z_48, z_49, z_50, z_51, z_52, z_53, z_54, z_55, z_56, z_57, z_58, z_59, z_60, z_61, z_62, z_63, z_64, z_65, z_66, z_67, z_68, z_69, z_70, z_71, z_72, z_73, z_74, z_75, z_76, z_77, z_78, z_79, z_80, z_81, z_82, z_83, z_84, z_85, z_86, z_87, z_88, z_89, z_90, z_91, z_92, z_93, z_94, z_95, z_96, z_97, z_98, z_99, z_100, z_101, z_102, z_103, z_104, z_105, z_106, z_107, z_108, z_109, z_110, z_111, z_112, z_113, z_114, z_115, z_116, z_117, z_118, z_119, z_120, z_121, z_122, z_123, z_124, z_125, z_126, z_127, z_199, z_200, z_360, z_410, z_1000, z_1023, z_1024, z_1219, z_9999, z_10240, z_65537]
      · simp (disch := omega) only [m_isPlace, m_isHouse, m_isTale, m_in, z_l, zl_neg, zl_0, zl_1, zl_2, zl_3, zl_5, zl_8, zl_9, zl_10, zl_19, zl_33, zl_40, zl_49, zl_57, zl_60, zl_65, zl_74, zl_99, zl_100, zl_126, zl_199, zl_1000, zl_1219, zl_9999, pw_0, up_0, pw_1, up_1, pw_2, up_2, pw_3, up_3, pw_4, up_4, pw_9, up_9, pw_10, up_10, pwi_5, upi_5, pwi_6, upi_6, pwi_7, upi_7, pwi_8, upi_8, pwi_11, upi_11, pw_12, up_12, pw_14, up_14, pw_15, up_15, pw_16, up_16, pw_18, up_18, pw_24, up_24, pw_25, up_25, pw_26, up_26, pw_29, up_29, pw_30, up_30, pw_31, up_31, pwi_13, upi_13, pwi_17, upi_17, pwi_19, upi_19, pwi_20, upi_20, pwi_21, upi_21, pwi_22, upi_22, pwi_23, upi_23, pwi_32, upi_32, pwi_33, upi_33, eC_5, eC_6, eC_13, eC_17, eC_19, eC_20, eC_21, eC_22, eC_23, eC_32, eC_33, eC_p5, eC_p6, eC_p13, eC_p17, eC_p19, eC_p20, eC_p21, eC_p22, eC_p23, eC_p32, eC_p33, s_T, s_F, s_bd, s_cl, s_rd, s_wr, s_ite, z_ite, z_neg, z_add, z_sub, z_mul, z_le, z_lt, z_eq, eC_at, eC_7, eC_8, eC_9, eC_10, eC_11, eC_p7, eC_p8, eC_p9, eC_p10, eC_p11, eC_up, ud_same, ud_ne, if_pos, if_neg, z_0, z_1, z_2, z_3, z_4, z_5, z_6, z_7, z_8, z_9, z_10, z_11, z_12, z_13, z_14, z_15, z_16, z_17, z_18, z_19, z_20, z_21, z_22, z_23, z_24, z_25, z_26, z_27, z_28, z_29, z_30, z_31, z_32, z_33, z_34, z_35, z_36, z_37, z_38, z_39, z_40, z_41, z_42, z_43, z_44, z_45, z_46, z_47, z_48, z_49, z_50, z_51, z_52, z_53, z_54, z_55, z_56, z_57, z_58, z_59, z_60, z_61, z_62, z_63, z_64, z_65, z_66, z_67, z_68, z_69, z_70, z_71, z_72, z_73, z_74, z_75, z_76, z_77, z_78, z_79, z_80, z_81, z_82, z_83, z_84, z_85, z_86, z_87, z_88, z_89, z_90, z_91, z_92, z_93, z_94, z_95, z_96, z_97, z_98, z_99, z_100, z_101, z_102, z_103, z_104, z_105, z_106, z_107, z_108, z_109, z_110, z_111, z_112, z_113, z_114, z_115, z_116, z_117, z_118, z_119, z_120, z_121, z_122, z_123, z_124, z_125, z_126, z_127, z_199, z_200, z_360, z_410, z_1000, z_1023, z_1024, z_1219, z_9999, z_10240, z_65537]
        rfl
    · refine ⟨zI (pFact d (2 - 1)), ?_, ?_⟩
      · simp (disch := omega) only [x_isPlace, x_isHouse, x_isTale, x_within, x_longBetween, x_layRoad, x_doubtOf, x_furnish, x_beliefOf, x_convince, x_fadesInto, x_letFade, x_panFact, s_T, s_F, s_bd, s_cl, s_rd, s_wr, s_ite, z_ite, z_neg, z_add, z_sub, z_mul, z_le, z_lt, z_eq, eC_at, eC_7, eC_8, eC_9, eC_10, eC_11, eC_p7, eC_p8, eC_p9, eC_p10, eC_p11, eC_up, ud_same, ud_ne, if_pos, if_neg, z_0, z_1, z_2, z_3, z_4, z_5, z_6, z_7, z_8, z_9, z_10, z_11, z_12, z_13, z_14, z_15, z_16, z_17, z_18, z_19, z_20, z_21, z_22, z_23, z_24, z_25, z_26, z_27, z_28, z_29, z_30, z_31, z_32, z_33, z_34, z_35, z_36, z_37, z_38, z_39, z_40, z_41, z_42, z_43, z_44, z_45, z_46, z_47, z_48, z_49, z_50, z_51, z_52, z_53, z_54, z_55, z_56, z_57, z_58, z_59, z_60, z_61, z_62, z_63, z_64, z_65, z_66, z_67, z_68, z_69, z_70, z_71, z_72, z_73, z_74, z_75, z_76, z_77, z_78, z_79, z_80, z_81, z_82, z_83, z_84, z_85, z_86, z_87, z_88, z_89, z_90, z_91, z_92, z_93, z_94, z_95, z_96, z_97, z_98, z_99, z_100, z_101, z_102, z_103, z_104, z_105, z_106, z_107, z_108, z_109, z_110, z_111, z_112, z_113, z_114, z_115, z_116, z_117, z_118, z_119, z_120, z_121, z_122, z_123, z_124, z_125, z_126, z_127, z_199, z_200, z_360, z_410, z_1000, z_1023, z_1024, z_1219, z_9999, z_10240, z_65537]
      · simp (disch := omega) only [m_isPlace, m_isHouse, m_isTale, m_in, z_l, zl_neg, zl_0, zl_1, zl_2, zl_3, zl_5, zl_8, zl_9, zl_10, zl_19, zl_33, zl_40, zl_49, zl_57, zl_60, zl_65, zl_74, zl_99, zl_100, zl_126, zl_199, zl_1000, zl_1219, zl_9999, pw_0, up_0, pw_1, up_1, pw_2, up_2, pw_3, up_3, pw_4, up_4, pw_9, up_9, pw_10, up_10, pwi_5, upi_5, pwi_6, upi_6, pwi_7, upi_7, pwi_8, upi_8, pwi_11, upi_11, pw_12, up_12, pw_14, up_14, pw_15, up_15, pw_16, up_16, pw_18, up_18, pw_24, up_24, pw_25, up_25, pw_26, up_26, pw_29, up_29, pw_30, up_30, pw_31, up_31, pwi_13, upi_13, pwi_17, upi_17, pwi_19, upi_19, pwi_20, upi_20, pwi_21, upi_21, pwi_22, upi_22, pwi_23, upi_23, pwi_32, upi_32, pwi_33, upi_33, eC_5, eC_6, eC_13, eC_17, eC_19, eC_20, eC_21, eC_22, eC_23, eC_32, eC_33, eC_p5, eC_p6, eC_p13, eC_p17, eC_p19, eC_p20, eC_p21, eC_p22, eC_p23, eC_p32, eC_p33, s_T, s_F, s_bd, s_cl, s_rd, s_wr, s_ite, z_ite, z_neg, z_add, z_sub, z_mul, z_le, z_lt, z_eq, eC_at, eC_7, eC_8, eC_9, eC_10, eC_11, eC_p7, eC_p8, eC_p9, eC_p10, eC_p11, eC_up, ud_same, ud_ne, if_pos, if_neg, z_0, z_1, z_2, z_3, z_4, z_5, z_6, z_7, z_8, z_9, z_10, z_11, z_12, z_13, z_14, z_15, z_16, z_17, z_18, z_19, z_20, z_21, z_22, z_23, z_24, z_25, z_26, z_27, z_28, z_29, z_30, z_31, z_32, z_33, z_34, z_35, z_36, z_37, z_38, z_39, z_40, z_41, z_42, z_43, z_44, z_45, z_46, z_47, z_48, z_49, z_50, z_51, z_52, z_53, z_54, z_55, z_56, z_57, z_58, z_59, z_60, z_61, z_62, z_63, z_64, z_65, z_66, z_67, z_68, z_69, z_70, z_71, z_72, z_73, z_74, z_75, z_76, z_77, z_78, z_79, z_80, z_81, z_82, z_83, z_84, z_85, z_86, z_87, z_88, z_89, z_90, z_91, z_92, z_93, z_94, z_95, z_96, z_97, z_98, z_99, z_100, z_101, z_102, z_103, z_104, z_105, z_106, z_107, z_108, z_109, z_110, z_111, z_112, z_113, z_114, z_115, z_116, z_117, z_118, z_119, z_120, z_121, z_122, z_123, z_124, z_125, z_126, z_127, z_199, z_200, z_360, z_410, z_1000, z_1023, z_1024, z_1219, z_9999, z_10240, z_65537]
        rfl
    · refine ⟨zI (pFact d (3 - 1)), ?_, ?_⟩
      · simp (disch := omega) only [x_isPlace, x_isHouse, x_isTale, x_within, x_longBetween, x_layRoad, x_doubtOf, x_furnish, x_beliefOf, x_convince, x_fadesInto, x_letFade, x_panFact, s_T, s_F, s_bd, s_cl, s_rd, s_wr, s_ite, z_ite, z_neg, z_add, z_sub, z_mul, z_le, z_lt, z_eq, eC_at, eC_7, eC_8, eC_9, eC_10, eC_11, eC_p7, eC_p8, eC_p9, eC_p10, eC_p11, eC_up, ud_same, ud_ne, if_pos, if_neg, z_0, z_1, z_2, z_3, z_4, z_5, z_6, z_7, z_8, z_9, z_10, z_11, z_12, z_13, z_14, z_15, z_16, z_17, z_18, z_19, z_20, z_21, z_22, z_23, z_24, z_25, z_26, z_27, z_28, z_29, z_30, z_31, z_32, z_33, z_34, z_35, z_36, z_37, z_38, z_39, z_40, z_41, z_42, z_43, z_44, z_45, z_46, z_47, z_48, z_49, z_50, z_51, z_52, z_53, z_54, z_55, z_56, z_57, z_58, z_59, z_60, z_61, z_62, z_63, z_64, z_65, z_66, z_67, z_68, z_69, z_70, z_71, z_72, z_73, z_74, z_75, z_76, z_77, z_78, z_79, z_80, z_81, z_82, z_83, z_84, z_85, z_86, z_87, z_88, z_89, z_90, z_91, z_92, z_93, z_94, z_95, z_96, z_97, z_98, z_99, z_100, z_101, z_102, z_103, z_104, z_105, z_106, z_107, z_108, z_109, z_110, z_111, z_112, z_113, z_114, z_115, z_116, z_117, z_118, z_119, z_120, z_121, z_122, z_123, z_124, z_125, z_126, z_127, z_199, z_200, z_360, z_410, z_1000, z_1023, z_1024, z_1219, z_9999, z_10240, z_65537]
      · simp (disch := omega) only [m_isPlace, m_isHouse, m_isTale, m_in, z_l, zl_neg, zl_0, zl_1, zl_2, zl_3, zl_5, zl_8, zl_9, zl_10, zl_19, zl_33, zl_40, zl_49, zl_57, zl_60, zl_65, zl_74, zl_99, zl_100, zl_126, zl_199, zl_1000, zl_1219, zl_9999, pw_0, up_0, pw_1, up_1, pw_2, up_2, pw_3, up_3, pw_4, up_4, pw_9, up_9, pw_10, up_10, pwi_5, upi_5, pwi_6, upi_6, pwi_7, upi_7, pwi_8, upi_8, pwi_11, upi_11, pw_12, up_12, pw_14, up_14, pw_15, up_15, pw_16, up_16, pw_18, up_18, pw_24, up_24, pw_25, up_25, pw_26, up_26, pw_29, up_29, pw_30, up_30, pw_31, up_31, pwi_13, upi_13, pwi_17, upi_17, pwi_19, upi_19, pwi_20, upi_20, pwi_21, upi_21, pwi_22, upi_22, pwi_23, upi_23, pwi_32, upi_32, pwi_33, upi_33, eC_5, eC_6, eC_13, eC_17, eC_19, eC_20, eC_21, eC_22, eC_23, eC_32, eC_33, eC_p5, eC_p6, eC_p13, eC_p17, eC_p19, eC_p20, eC_p21, eC_p22, eC_p23, eC_p32, eC_p33, s_T, s_F, s_bd, s_cl, s_rd, s_wr, s_ite, z_ite, z_neg, z_add, z_sub, z_mul, z_le, z_lt, z_eq, eC_at, eC_7, eC_8, eC_9, eC_10, eC_11, eC_p7, eC_p8, eC_p9, eC_p10, eC_p11, eC_up, ud_same, ud_ne, if_pos, if_neg, z_0, z_1, z_2, z_3, z_4, z_5, z_6, z_7, z_8, z_9, z_10, z_11, z_12, z_13, z_14, z_15, z_16, z_17, z_18, z_19, z_20, z_21, z_22, z_23, z_24, z_25, z_26, z_27, z_28, z_29, z_30, z_31, z_32, z_33, z_34, z_35, z_36, z_37, z_38, z_39, z_40, z_41, z_42, z_43, z_44, z_45, z_46, z_47, z_48, z_49, z_50, z_51, z_52, z_53, z_54, z_55, z_56, z_57, z_58, z_59, z_60, z_61, z_62, z_63, z_64, z_65, z_66, z_67, z_68, z_69, z_70, z_71, z_72, z_73, z_74, z_75, z_76, z_77, z_78, z_79, z_80, z_81, z_82, z_83, z_84, z_85, z_86, z_87, z_88, z_89, z_90, z_91, z_92, z_93, z_94, z_95, z_96, z_97, z_98, z_99, z_100, z_101, z_102, z_103, z_104, z_105, z_106, z_107, z_108, z_109, z_110, z_111, z_112, z_113, z_114, z_115, z_116, z_117, z_118, z_119, z_120, z_121, z_122, z_123, z_124, z_125, z_126, z_127, z_199, z_200, z_360, z_410, z_1000, z_1023, z_1024, z_1219, z_9999, z_10240, z_65537]
        rfl
    · refine ⟨zI (pFact d (4 - 1)), ?_, ?_⟩
      · simp (disch := omega) only [x_isPlace, x_isHouse, x_isTale, x_within, x_longBetween, x_layRoad, x_doubtOf, x_furnish, x_beliefOf, x_convince, x_fadesInto, x_letFade, x_panFact, s_T, s_F, s_bd, s_cl, s_rd, s_wr, s_ite, z_ite, z_neg, z_add, z_sub, z_mul, z_le, z_lt, z_eq, eC_at, eC_7, eC_8, eC_9, eC_10, eC_11, eC_p7, eC_p8, eC_p9, eC_p10, eC_p11, eC_up, ud_same, ud_ne, if_pos, if_neg, z_0, z_1, z_2, z_3, z_4, z_5, z_6, z_7, z_8, z_9, z_10, z_11, z_12, z_13, z_14, z_15, z_16, z_17, z_18, z_19, z_20, z_21, z_22, z_23, z_24, z_25, z_26, z_27, z_28, z_29, z_30, z_31, z_32, z_33, z_34, z_35, z_36, z_37, z_38, z_39, z_40, z_41, z_42, z_43, z_44, z_45, z_46, z_47, z_48, z_49, z_50, z_51, z_52, z_53, z_54, z_55, z_56, z_57, z_58, z_59, z_60, z_61, z_62, z_63, z_64, z_65, z_66, z_67, z_68, z_69, z_70, z_71, z_72, z_73, z_74, z_75, z_76, z_77, z_78, z_79, z_80, z_81, z_82, z_83, z_84, z_85, z_86, z_87, z_88, z_89, z_90, z_91, z_92, z_93, z_94, z_95, z_96, z_97, z_98, z_99, z_100, z_101, z_102, z_103, z_104, z_105, z_106, z_107, z_108, z_109, z_110, z_111, z_112, z_113, z_114, z_115, z_116, z_117, z_118, z_119, z_120, z_121, z_122, z_123, z_124, z_125, z_126, z_127, z_199, z_200, z_360, z_410, z_1000, z_1023, z_1024, z_1219, z_9999, z_10240, z_65537]
      · simp (disch := omega) only [m_isPlace, m_isHouse, m_isTale, m_in, z_l, zl_neg, zl_0, zl_1, zl_2, zl_3, zl_5, zl_8, zl_9, zl_10, zl_19, zl_33, zl_40, zl_49, zl_57, zl_60, zl_65, zl_74, zl_99, zl_100, zl_126, zl_199, zl_1000, zl_1219, zl_9999, pw_0, up_0, pw_1, up_1, pw_2, up_2, pw_3, up_3, pw_4, up_4, pw_9, up_9, pw_10, up_10, pwi_5, upi_5, pwi_6, upi_6, pwi_7, upi_7, pwi_8, upi_8, pwi_11, upi_11, pw_12, up_12, pw_14, up_14, pw_15, up_15, pw_16, up_16, pw_18, up_18, pw_24, up_24, pw_25, up_25, pw_26, up_26, pw_29, up_29, pw_30, up_30, pw_31, up_31, pwi_13, upi_13, pwi_17, upi_17, pwi_19, upi_19, pwi_20, upi_20, pwi_21, upi_21, pwi_22, upi_22, pwi_23, upi_23, pwi_32, upi_32, pwi_33, upi_33, eC_5, eC_6, eC_13, eC_17, eC_19, eC_20, eC_21, eC_22, eC_23, eC_32, eC_33, eC_p5, eC_p6, eC_p13, eC_p17, eC_p19, eC_p20, eC_p21, eC_p22, eC_p23, eC_p32, eC_p33, s_T, s_F, s_bd, s_cl, s_rd, s_wr, s_ite, z_ite, z_neg, z_add, z_sub, z_mul, z_le, z_lt, z_eq, eC_at, eC_7, eC_8, eC_9, eC_10, eC_11, eC_p7, eC_p8, eC_p9, eC_p10, eC_p11, eC_up, ud_same, ud_ne, if_pos, if_neg, z_0, z_1, z_2, z_3, z_4, z_5, z_6, z_7, z_8, z_9, z_10, z_11, z_12, z_13, z_14, z_15, z_16, z_17, z_18, z_19, z_20, z_21, z_22, z_23, z_24, z_25, z_26, z_27, z_28, z_29, z_30, z_31, z_32, z_33, z_34, z_35, z_36, z_37, z_38, z_39, z_40, z_41, z_42, z_43, z_44, z_45, z_46, z_47, z_48, z_49, z_50, z_51, z_52, z_53, z_54, z_55, z_56, z_57, z_58, z_59, z_60, z_61, z_62, z_63, z_64, z_65, z_66, z_67, z_68, z_69, z_70, z_71, z_72, z_73, z_74, z_75, z_76, z_77, z_78, z_79, z_80, z_81, z_82, z_83, z_84, z_85, z_86, z_87, z_88, z_89, z_90, z_91, z_92, z_93, z_94, z_95, z_96, z_97, z_98, z_99, z_100, z_101, z_102, z_103, z_104, z_105, z_106, z_107, z_108, z_109, z_110, z_111, z_112, z_113, z_114, z_115, z_116, z_117, z_118, z_119, z_120, z_121, z_122, z_123, z_124, z_125, z_126, z_127, z_199, z_200, z_360, z_410, z_1000, z_1023, z_1024, z_1219, z_9999, z_10240, z_65537]
        rfl
    · refine ⟨zI (d 99 7), ?_, ?_⟩
      · simp (disch := omega) only [x_isPlace, x_isHouse, x_isTale, x_within, x_longBetween, x_layRoad, x_doubtOf, x_furnish, x_beliefOf, x_convince, x_fadesInto, x_letFade, ec, s_T, s_F, s_bd, s_cl, s_rd, s_wr, s_ite, z_ite, z_neg, z_add, z_sub, z_mul, z_le, z_lt, z_eq, eC_at, eC_7, eC_8, eC_9, eC_10, eC_11, eC_p7, eC_p8, eC_p9, eC_p10, eC_p11, eC_up, ud_same, ud_ne, if_pos, if_neg, z_0, z_1, z_2, z_3, z_4, z_5, z_6, z_7, z_8, z_9, z_10, z_11, z_12, z_13, z_14, z_15, z_16, z_17, z_18, z_19, z_20, z_21, z_22, z_23, z_24, z_25, z_26, z_27, z_28, z_29, z_30, z_31, z_32, z_33, z_34, z_35, z_36, z_37, z_38, z_39, z_40, z_41, z_42, z_43, z_44, z_45, z_46, z_47, z_48, z_49, z_50, z_51, z_52, z_53, z_54, z_55, z_56, z_57, z_58, z_59, z_60, z_61, z_62, z_63, z_64, z_65, z_66, z_67, z_68, z_69, z_70, z_71, z_72, z_73, z_74, z_75, z_76, z_77, z_78, z_79, z_80, z_81, z_82, z_83, z_84, z_85, z_86, z_87, z_88, z_89, z_90, z_91, z_92, z_93, z_94, z_95, z_96, z_97, z_98, z_99, z_100, z_101, z_102, z_103, z_104, z_105, z_106, z_107, z_108, z_109, z_110, z_111, z_112, z_113, z_114, z_115, z_116, z_117, z_118, z_119, z_120, z_121, z_122, z_123, z_124, z_125, z_126, z_127, z_199, z_200, z_360, z_410, z_1000, z_1023, z_1024, z_1219, z_9999, z_10240, z_65537]
      · simp (disch := omega) only [m_isPlace, m_isHouse, m_isTale, m_in, z_l, zl_neg, zl_0, zl_1, zl_2, zl_3, zl_5, zl_8, zl_9, zl_10, zl_19, zl_33, zl_40, zl_49, zl_57, zl_60, zl_65, zl_74, zl_99, zl_100, zl_126, zl_199, zl_1000, zl_1219, zl_9999, pw_0, up_0, pw_1, up_1, pw_2, up_2, pw_3, up_3, pw_4, up_4, pw_9, up_9, pw_10, up_10, pwi_5, upi_5, pwi_6, upi_6, pwi_7, upi_7, pwi_8, upi_8, pwi_11, upi_11, pw_12, up_12, pw_14, up_14, pw_15, up_15, pw_16, up_16, pw_18, up_18, pw_24, up_24, pw_25, up_25, pw_26, up_26, pw_29, up_29, pw_30, up_30, pw_31, up_31, pwi_13, upi_13, pwi_17, upi_17, pwi_19, upi_19, pwi_20, upi_20, pwi_21, upi_21, pwi_22, upi_22, pwi_23, upi_23, pwi_32, upi_32, pwi_33, upi_33, eC_5, eC_6, eC_13, eC_17, eC_19, eC_20, eC_21, eC_22, eC_23, eC_32, eC_33, eC_p5, eC_p6, eC_p13, eC_p17, eC_p19, eC_p20, eC_p21, eC_p22, eC_p23, eC_p32, eC_p33, s_T, s_F, s_bd, s_cl, s_rd, s_wr, s_ite, z_ite, z_neg, z_add, z_sub, z_mul, z_le, z_lt, z_eq, eC_at, eC_7, eC_8, eC_9, eC_10, eC_11, eC_p7, eC_p8, eC_p9, eC_p10, eC_p11, eC_up, ud_same, ud_ne, if_pos, if_neg, z_0, z_1, z_2, z_3, z_4, z_5, z_6, z_7, z_8, z_9, z_10, z_11, z_12, z_13, z_14, z_15, z_16, z_17, z_18, z_19, z_20, z_21, z_22, z_23, z_24, z_25, z_26, z_27, z_28, z_29, z_30, z_31, z_32, z_33, z_34, z_35, z_36, z_37, z_38, z_39, z_40, z_41, z_42, z_43, z_44, z_45, z_46, z_47, z_48, z_49, z_50, z_51, z_52, z_53, z_54, z_55, z_56, z_57, z_58, z_59, z_60, z_61, z_62, z_63, z_64, z_65, z_66, z_67, z_68, z_69, z_70, z_71, z_72, z_73, z_74, z_75, z_76, z_77, z_78, z_79, z_80, z_81, z_82, z_83, z_84, z_85, z_86, z_87, z_88, z_89, z_90, z_91, z_92, z_93, z_94, z_95, z_96, z_97, z_98, z_99, z_100, z_101, z_102, z_103, z_104, z_105, z_106, z_107, z_108, z_109, z_110, z_111, z_112, z_113, z_114, z_115, z_116, z_117, z_118, z_119, z_120, z_121, z_122, z_123, z_124, z_125, z_126, z_127, z_199, z_200, z_360, z_410, z_1000, z_1023, z_1024, z_1219, z_9999, z_10240, z_65537]
  · have n0 : ¬ zI a = 0 := by rw [z_0, z_eq (by omega) (by omega) (by omega) (by omega)]; omega
    have n5 : ¬ zI a = 5 := by rw [z_5, z_eq (by omega) (by omega) (by omega) (by omega)]; omega
    have n1 : ¬ zI a = 1 := by rw [z_1, z_eq (by omega) (by omega) (by omega) (by omega)]; omega
    have n2 : ¬ zI a = 2 := by rw [z_2, z_eq (by omega) (by omega) (by omega) (by omega)]; omega
    have n3 : ¬ zI a = 3 := by rw [z_3, z_eq (by omega) (by omega) (by omega) (by omega)]; omega
    have n4 : ¬ zI a = 4 := by rw [z_4, z_eq (by omega) (by omega) (by omega) (by omega)]; omega
    rw [if_neg n0, if_neg n0, if_neg n1, if_neg n2, if_neg n3, if_neg n4, if_neg n5, if_neg n5]
    rw [z_0, z_1, z_4, z_10, z_19, z_100, z_199, z_1000, z_1219, z_l a0 a1, zl_10, zl_19, zl_100, zl_199, zl_1000, zl_1219]
    rw [x_within a0 a1 (by omega) (by omega) (by omega) (by omega), x_within a0 a1 (by omega) (by omega) (by omega) (by omega), x_within a0 a1 (by omega) (by omega) (by omega) (by omega), x_within a0 a1 (by omega) (by omega) (by omega) (by omega), m_in (by omega) (by omega) (by omega) (by omega) (by omega) (by omega), m_in (by omega) (by omega) (by omega) (by omega) (by omega) (by omega), m_in (by omega) (by omega) (by omega) (by omega) (by omega) (by omega)]
    rw [s_cl, s_cl, s_cl, s_cl, s_cl, s_cl, s_cl]
    have k14 : ¬ (1 ≤ a ∧ a ≤ 4) := by omega
    by_cases c1 : 10 ≤ a ∧ a ≤ 19
    · have k2 : ¬ (100 ≤ a ∧ a ≤ 199) := by omega
      have k3 : ¬ (1000 ≤ a ∧ a ≤ 1219) := by omega
      simp only [if_neg k14, if_pos c1, if_neg k2, if_neg k3, n10, eq_self, s_T, s_F]
      rw [z_sub, x_fadesInto d (by omega) (by omega), s_cl, s_rd (by omega) (by omega) (by omega), eC_at _ _ (by omega), pw_4]
      exact ⟨_, rfl, rfl⟩
    · by_cases c2 : 100 ≤ a ∧ a ≤ 199
      · have k3 : ¬ (1000 ≤ a ∧ a ≤ 1219) := by omega
        simp only [if_neg k14, if_neg c1, if_pos c2, if_neg k3, n10, eq_self, s_T, s_F]
        rw [z_rem (by omega) (by omega) (by omega) (by omega), z_2, z_3, z_sub]
        by_cases c3 : a % 10 ≤ 2
        · have q1 : ¬ zI 2 < zI (a % 10) := by rw [z_lt (by omega) (by omega) (by omega) (by omega)]; omega
          have q2 : ¬ zI 3 ≤ zI (a % 10) := by rw [z_le (by omega) (by omega) (by omega) (by omega)]; omega
          rw [if_neg q1, if_neg q2, z_div (by omega) (by omega) (by omega) (by omega), x_houseFact d hd (by omega) (by omega) (by omega) (by omega), m_ofHouse hd (by omega) (by omega) (by omega) (by omega), s_cl]
          exact ⟨_, rfl, rfl⟩
        · have q1 : zI 2 < zI (a % 10) := by rw [z_lt (by omega) (by omega) (by omega) (by omega)]; omega
          have q2 : zI 3 ≤ zI (a % 10) := by rw [z_le (by omega) (by omega) (by omega) (by omega)]; omega
          rw [if_pos q1, if_pos q2]
          exact ⟨_, rfl, rfl⟩
      · by_cases c4 : 1000 ≤ a ∧ a ≤ 1219
        · have e20 : (20 : Int32) = zI 20 := by decide
          simp only [if_neg k14, if_neg c1, if_neg c2, if_pos c4, n10, eq_self, s_T, s_F]
          rw [z_sub, e20, z_rem (by omega) (by omega) (by omega) (by omega), z_div (by omega) (by omega) (by omega) (by omega), s_bd, s_bd, x_isPlace (by omega) (by omega), m_isPlace (by omega) (by omega), s_cl, s_cl]
          by_cases c5 : 0 ≤ (a - 1000) % 20 ∧ (a - 1000) % 20 ≤ 10
          · simp only [if_pos c5, n10, s_F]
            rw [x_longBetween d (by omega) (by omega) (by omega) (by omega), z_11, z_mul, z_add, s_rd (by omega) (by omega) (by omega), eC_at _ _ (by omega), pw_0, s_cl, show 11 * ((a - 1000) / 20) + (a - 1000) % 20 = (a - 1000) / 20 * 11 + (a - 1000) % 20 by omega]
            exact ⟨_, rfl, rfl⟩
          · simp only [if_neg c5, eq_self, s_T]
            exact ⟨_, rfl, rfl⟩
        · simp only [if_neg k14, if_neg c1, if_neg c2, if_neg c4, n10, eq_self, s_T, s_F]
          exact ⟨_, rfl, rfl⟩
/-! fading -/
theorem x_behindStirs (hd : okd d) {t n : Int} (t0 : 0 ≤ t) (t1 : t ≤ 9) (n0 : 0 ≤ n) (n1 : n ≤ 1000) : f_X1_behindStirs (eC d) (zI t) (zI n) = some (zI (itr d n.toNat t)) := by
  unfold f_X1_behindStirs
  rw [z_0]
  refine lp_en (fun i : Int => (zI i, zI (itr d i.toNat t))) (fun _ _ => some (zI (itr d n.toNat t))) (fun N i => 0 ≤ i ∧ i ≤ n ∧ (n - i).toNat < N) (fun i => by omega) ?_ 20000 0 ⟨by omega, by omega, by omega⟩
  rintro again N i ⟨h0, h1, h2⟩ ih
  have hb := itr_b hd t0 t1 i.toNat
  unfold b_X1_behindStirs_5
  dsimp only
  by_cases c : i < n
  · rw [if_neg (by rw [z_le (by omega) (by omega) (by omega) (by omega)]; omega), x_fadesInto d hb.1 hb.2, s_cl, z_s1]
    have := ih (i + 1) ⟨by omega, by omega, by omega⟩
    rw [show (i + 1).toNat = i.toNat + 1 by omega] at this
    exact this
  · obtain rfl : i = n := by omega
    rw [if_pos (by rw [z_le (by omega) (by omega) (by omega) (by omega)]; omega)]
theorem least_of {P : Nat → Prop} : ∀ n, P n → ∃ L, L ≤ n ∧ P L ∧ ∀ k, k < L → ¬ P k := by
  intro n
  induction n using Nat.strongRecOn with
  | ind n ih =>
    intro hn
    by_cases h : ∃ k, k < n ∧ P k
    · obtain ⟨k, hk, pk⟩ := h
      obtain ⟨L, h1, h2, h3⟩ := ih k hk pk
      exact ⟨L, by omega, h2, h3⟩
    · exact ⟨n, Nat.le_refl n, hn, fun k hk pk => h ⟨k, hk, pk⟩⟩
/-- a tale that came before -/
def rep (d : Nat → Int → Int) (t : Int) (n : Nat) : Prop := ∃ e, e < n ∧ itr d e t = itr d n t
theorem rep_least (hd : okd d) {t : Int} (t0 : 0 ≤ t) (t1 : t ≤ 9) : ∃ L, 1 ≤ L ∧ L ≤ 10 ∧ rep d t L ∧ ∀ k, k < L → ¬ rep d t k := by
  obtain ⟨i, j, h1, h2, h3⟩ := itr_rep hd t0 t1
  obtain ⟨L, k1, k2, k3⟩ := least_of (P := rep d t) j ⟨i, h1, h3⟩
  obtain ⟨e, he, _⟩ := id k2
  exact ⟨L, by omega, by omega, k2, k3⟩
theorem caF_first {t n : Int} {e0 : Nat} (hn : (e0 : Int) < n) (h : itr d e0 t = itr d n.toNat t) (hf : ∀ e, e < e0 → ¬ itr d e t = itr d n.toNat t) : ∀ (N : Nat) (e : Int), 0 ≤ e → e ≤ e0 → (n - e).toNat < N → caF d t n N e = n - e0 := by
  intro N
  induction N with
  | zero => intro e _ _ h; omega
  | succ N ih =>
    intro e h0 h1 h2
    unfold caF
    rw [if_neg (by omega)]
    by_cases c : e = e0
    · subst c
      rw [if_pos (by rw [Int.toNat_natCast]; exact h)]
    · rw [if_neg (hf e.toNat (by omega))]
      exact ih (e + 1) (by omega) (by omega) (by omega)
theorem x_stirsToRing (hd : okd d) {t : Int} (t0 : 0 ≤ t) (t1 : t ≤ 9) {L : Nat} (l1 : L ≤ 10) (hr : rep d t L) (hl : ∀ k, k < L → ¬ rep d t k) : f_X1_stirsToRing (eC d) (zI t) = some (zI L) := by
  unfold f_X1_stirsToRing
  rw [z_0]
  have key : oK (fun r => r = zI L) (q_lp (b_X1_stirsToRing_7 (eC d)) (fun _ => some (10 : Int32)) 20000 (zI 0, zI t, zI 0)) := by
    refine ok_forI (τ := Int32 × Int32) L (fun s u => u.1 = zI (itr d s.toNat t) ∧ ∀ p, 0 ≤ p → p ≤ 9 → (bi u.2 p = true ↔ ∃ e, e < s.toNat ∧ itr d e t = p)) (fun again s u h0 h1 hu ih => ?_) 20000 0 _ (by omega) (by omega) ⟨rfl, fun p h4 h5 => ?_⟩ (by omega)
    · obtain ⟨u1, u2⟩ := u
      obtain ⟨hu1, hu2⟩ := hu
      dsimp only at hu1 hu2
      subst hu1
      have hb := itr_b hd t0 t1 s.toNat
      unfold b_X1_stirsToRing_7
      dsimp only
      rw [if_neg (by rw [z_10, z_lt (by omega) (by omega) (by omega) (by omega)]; omega), x_tal (by omega) (by omega), s_cl, if_neg (by decide), x_isInB u2 hb.1 (by omega), s_cl, z_s1]
      simp (disch := omega) only [one_if]
      have hq := hu2 (itr d s.toNat t) hb.1 hb.2
      refine ok_if (fun c => ?_) (fun c => ?_)
      · rw [s_bd, x_fadesInto d hb.1 hb.2, s_cl]
        have hn : ¬ rep d t s.toNat := fun z => c (hq.mpr z)
        have hs : s < L := by
          by_cases e : s < L
          · exact e
          · exact absurd (show rep d t s.toNat by rw [show s.toNat = L by omega]; exact hr) hn
        refine ih hs (zI (d 4 (itr d s.toNat t)), _) ⟨?_, fun p h4 h5 => ?_⟩
        · rw [show (s + 1).toNat = s.toNat + 1 by omega]; rfl
        · rw [bi_or, bi_one h4 (by omega) hb.1 (by omega), Bool.or_eq_true, hu2 p h4 h5, decide_eq_true_eq, show (s + 1).toNat = s.toNat + 1 by omega]
          constructor
          · rintro (⟨e, e0, e1⟩ | y)
            · exact ⟨e, by omega, e1⟩
            · exact ⟨s.toNat, by omega, y.symm⟩
          · rintro ⟨e, e0, e1⟩
            by_cases ee : e = s.toNat
            · subst ee; exact Or.inr e1.symm
            · exact Or.inl ⟨e, by omega, e1⟩
      · have hz := hq.mp (Classical.not_not.mp c)
        have hs : s = L := by
          by_cases e : s.toNat < L
          · exact absurd hz (hl _ e)
          · omega
        subst hs
        exact ok_r rfl
    · rw [← z_0, bi_z0]
      exact ⟨fun z => absurd z (by decide), fun ⟨e, h, _⟩ => absurd h (Nat.not_lt_zero e)⟩
  obtain ⟨r, h1, rfl⟩ := key
  exact h1
theorem x_stirsOfRing (hd : okd d) {t : Int} (t0 : 0 ≤ t) (t1 : t ≤ 9) {L e0 : Nat} (l1 : L ≤ 10) (hr : rep d t L) (hl : ∀ k, k < L → ¬ rep d t k) (he : e0 < L) (h : itr d e0 t = itr d L t) (hf : ∀ e, e < e0 → ¬ itr d e t = itr d L t) : f_X1_stirsOfRing (eC d) (zI t) = some (zI ((L : Int) - e0)) := by
  unfold f_X1_stirsOfRing
  rw [x_stirsToRing hd t0 t1 l1 hr hl, s_cl, x_behindStirs hd t0 t1 (by omega) (by omega), s_cl, z_0, Int.toNat_natCast]
  have hbL := itr_b hd t0 t1 L
  have key : oK (fun r => r = zI ((L : Int) - e0)) (q_lp (b_X1_stirsOfRing_16 (eC d) (zI t) (zI L) (zI (itr d L t))) (fun _ => some (zI L)) 20000 (zI 0)) := by
    refine ok_forI1 e0 (fun _ => True) (fun again s h0 h1 _ ih => ?_) 20000 0 (by omega) (by omega) trivial (by omega)
    unfold b_X1_stirsOfRing_16
    have hb := itr_b hd t0 t1 s.toNat
    rw [if_neg (by rw [z_le (by omega) (by omega) (by omega) (by omega)]; omega), x_behindStirs hd t0 t1 (by omega) (by omega), s_cl, z_s1, z_sub]
    refine ok_ifE (z_eq (by omega) (by omega) (by omega) (by omega)) (fun c => ?_) (fun c => ?_)
    · have : s = e0 := by
        by_cases z : s.toNat < e0
        · exact absurd c (hf _ z)
        · omega
      subst this
      exact ok_r rfl
    · refine ih ?_ trivial
      by_cases z : s < e0
      · exact z
      · have : s.toNat = e0 := by omega
        rw [this] at c
        exact absurd h c
  obtain ⟨r, h1, rfl⟩ := key
  exact h1
theorem c_faded (hd : okd d) (a w : Int32) : ∃ r, f_X6_faded (eC d) a w = some r ∧ f_X7_faded (eC (pw m d)) τ a w = some r := by
  unfold f_X6_faded f_X7_faded
  obtain ⟨a, a0, a1, rfl⟩ := z_of a
  obtain ⟨n, n0, n1, rfl⟩ := z_of w
  have e2 : (-2 : Int64) = zL (-2) := by decide
  have e3 : (-2 : Int32) = zI (-2) := by decide
  have em : (-1 : Int32) = zI (-1) := by decide
  rw [x_isTale a0 a1, m_isTale a0 a1, s_cl, s_cl, e2, e3, em, z_99, zl_99, z_l n0 n1, x_within n0 n1 (by omega) (by omega) (by omega) (by omega), m_in (by omega) (by omega) (by omega) (by omega) (by omega) (by omega), s_cl, s_cl, z_0]
  by_cases ca : 0 ≤ a ∧ a ≤ 9
  · rw [if_pos ca, if_neg n10, if_neg n10]
    by_cases cw : -2 ≤ n ∧ n ≤ 99
    · rw [if_pos cw, if_neg n10, if_neg n10]
      by_cases cn : n < 0
      · have q : zI n < zI 0 := by rw [z_lt (by omega) (by omega) (by omega) (by omega)]; exact cn
        rw [if_pos q, if_pos q]
        obtain ⟨L, l0, l1, l2, l3⟩ := rep_least hd ca.1 ca.2
        obtain ⟨e', he', hh'⟩ := l2
        obtain ⟨e0, k1, k2, k3⟩ := least_of (P := fun e => itr d e a = itr d L a) e' hh'
        have hcl : ∀ s : Nat, s < L → caF d a s 20000 0 < 0 := by
          intro s hs
          have hno := l3 s hs
          have : ∀ (N : Nat) (e : Int), 0 ≤ e → caF d a s N e = -6 := by
            intro N
            induction N with
            | zero => intro e _; rfl
            | succ N ih =>
              intro e h0
              unfold caF
              by_cases c : (s : Int) ≤ e
              · rw [if_pos c]
              · rw [if_neg c, if_neg (fun z => hno ⟨e.toNat, by omega, by rw [Int.toNat_natCast] at z; exact z⟩)]
                exact ih (e + 1) (by omega)
          rw [this 20000 0 (by omega)]; decide
        have hcL : caF d a L 20000 0 = (L : Int) - e0 := caF_first (n := L) (e0 := e0) (by omega) (by rw [Int.toNat_natCast]; exact k2) (fun e he => by rw [Int.toNat_natCast]; exact k3 e he) 20000 0 (by omega) (by omega) (by omega)
        have hca := fun (s : Int) (s0 : 0 ≤ s) (s1 : s ≤ 1000) => m_cameAhead m hd τ ca.1 ca.2 s0 s1
        have loop : ∀ (K : Int32 → Option Int32) (N : Nat) (s : Nat), 1 ≤ s → s ≤ L → L - s < N → q_lp (b_X7_faded_39 (eC (pw m d)) τ (zI a)) K N (zI s) = K (zI L) := by
          intro K N
          induction N with
          | zero => intro s _ _ h; omega
          | succ N ih =>
            intro s s0 s1 hN
            rw [lp_s]
            generalize q_lp (b_X7_faded_39 (eC (pw m d)) τ (zI a)) K N = again at ih
            unfold b_X7_faded_39
            rw [hca s (by omega) (by omega), s_cl, z_s1, z_0]
            by_cases c : s = L
            · subst c
              rw [hcL, if_pos (by rw [z_le (by omega) (by omega) (by omega) (by omega)]; omega)]
            · have h1 := hcl s (by omega)
              have h2 := (caF_b (d := d) (t := a) (n := s) (by omega) 20000 0 (by omega)).1
              rw [if_neg (by rw [z_le (by omega) (by omega) (by omega) (by omega)]; omega)]
              have := ih (s + 1) (by omega) (by omega) (by omega)
              rw [Int.natCast_add] at this
              exact this
        rw [z_1]
        have l := loop (fun z8 => if zI n = zI (-1) then some z8 else q_cl (f_X7_cameAhead (eC (pw m d)) τ (zI a) z8) fun r_10 => some r_10) 20000 1 (by omega) l0 (by omega)
        rw [show zI 1 = zI ((1 : Nat) : Int) from rfl, l]
        rw [x_stirsToRing hd ca.1 ca.2 l1 ⟨e', he', hh'⟩ l3, x_stirsOfRing hd ca.1 ca.2 l1 ⟨e', he', hh'⟩ l3 (by omega) k2 k3, hca L (by omega) (by omega), hcL, s_cl, s_cl]
        by_cases cm : zI n = zI (-1)
        · rw [if_pos cm]; exact ⟨_, rfl, rfl⟩
        · rw [if_neg cm]; exact ⟨_, rfl, rfl⟩
      · have q : ¬ zI n < zI 0 := by rw [z_lt (by omega) (by omega) (by omega) (by omega)]; exact cn
        rw [if_neg q, if_neg q, x_behindStirs hd ca.1 ca.2 (by omega) (by omega), m_fadedBy m hd τ ca.1 ca.2 (by omega) (by omega), s_cl]
        exact ⟨_, rfl, rfl⟩
    · rw [if_neg cw, if_pos rfl, if_pos rfl]; exact ⟨_, rfl, rfl⟩
  · rw [if_neg ca, if_pos rfl, if_pos rfl]; exact ⟨_, rfl, rfl⟩
end TOLD

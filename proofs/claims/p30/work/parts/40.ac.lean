def okp (e : Nat → Int → Int) : Prop := (∀ i, 0 ≤ e 0 i ∧ e 0 i ≤ 126) ∧ 0 ≤ e 99 1 ∧ e 99 1 ≤ 60
theorem eC_0 (d : Nat → Int → Int) : eC d 99 0 = zI (d 99 0) := rfl
theorem eC_1 (d : Nat → Int → Int) : eC d 99 1 = zI (d 99 1) := rfl
theorem eC_2 (d : Nat → Int → Int) : eC d 99 2 = zI (d 99 2) := rfl
theorem eC_3 (d : Nat → Int → Int) : eC d 99 3 = zI (d 99 3) := rfl
theorem eC_4 (d : Nat → Int → Int) : eC d 99 4 = zI (d 99 4) := rfl
theorem eC_5 (d : Nat → Int → Int) : eC d 99 5 = zI (d 99 5) := rfl
theorem eC_p0 (d : Nat → Int → Int) (v : Int) : q_up (eC d) 99 (upd (eC d 99) 0 (zI v)) = eC (ud d 99 0 v) := eC_up d 99 (i := 0) (by decide) v
theorem eC_p1 (d : Nat → Int → Int) (v : Int) : q_up (eC d) 99 (upd (eC d 99) 1 (zI v)) = eC (ud d 99 1 v) := eC_up d 99 (i := 1) (by decide) v
theorem eC_p2 (d : Nat → Int → Int) (v : Int) : q_up (eC d) 99 (upd (eC d 99) 2 (zI v)) = eC (ud d 99 2 v) := eC_up d 99 (i := 2) (by decide) v
theorem eC_p3 (d : Nat → Int → Int) (v : Int) : q_up (eC d) 99 (upd (eC d 99) 3 (zI v)) = eC (ud d 99 3 v) := eC_up d 99 (i := 3) (by decide) v
theorem eC_p4 (d : Nat → Int → Int) (v : Int) : q_up (eC d) 99 (upd (eC d 99) 4 (zI v)) = eC (ud d 99 4 v) := eC_up d 99 (i := 4) (by decide) v
theorem eC_p5 (d : Nat → Int → Int) (v : Int) : q_up (eC d) 99 (upd (eC d 99) 5 (zI v)) = eC (ud d 99 5 v) := eC_up d 99 (i := 5) (by decide) v
def sg (e : Nat → Int → Int) (i : Int) : Int := if 0 ≤ i ∧ i < e 99 1 then e 0 i else -6
def plc (c : Int) : Int := if 65 ≤ c ∧ c ≤ 74 then c - 65 else if c = 107 then 10 else -6
def kdc (c : Int) : Int := if c = 42 then 2 else if c = 46 then 4 else if c = 61 then 0 else if c = 126 then 3 else if plc c = -6 then -6 else 1
theorem sg_b {e} (h : okp e) (i : Int) : -6 ≤ sg e i ∧ sg e i ≤ 126 := by
  have := h.1 i
  unfold sg
  split <;> omega
theorem plc_b (c : Int) : -6 ≤ plc c ∧ plc c ≤ 10 := by
  unfold plc
  split
  · omega
  · split <;> omega
theorem kdc_b (c : Int) : -6 ≤ kdc c ∧ kdc c ≤ 4 := by
  unfold kdc
  repeat' split
  all_goals omega
theorem x_signAt {e} (h : okp e) {i : Int} (h0 : 0 ≤ i) (h1 : i ≤ 100) : f_X3_signAt (eC e) (zI i) = some (zI (sg e i)) := by
  have a1 := h.2
  unfold f_X3_signAt sg
  by_cases c1 : i ≤ 59
  · by_cases c2 : i < e 99 1
    · simp (disch := omega) only [x_within, eC_1, s_T, s_F, s_bd, s_cl, s_rd, s_wr, s_ite, z_ite, z_neg, z_add, z_sub, z_mul, z_le, z_lt, z_eq, eC_at, eC_7, eC_8, eC_9, eC_10, eC_11, eC_p7, eC_p8, eC_p9, eC_p10, eC_p11, eC_up, ud_same, ud_ne, if_pos, if_neg, z_0, z_1, z_2, z_3, z_4, z_5, z_6, z_7, z_8, z_9, z_10, z_11, z_12, z_13, z_14, z_15, z_16, z_17, z_18, z_19, z_20, z_21, z_22, z_23, z_24, z_25, z_26, z_27, z_28, z_29, z_30, z_31, z_32, z_33, z_34, z_35, z_36, z_37, z_38, z_39, z_40, z_41, z_42, z_43, z_44, z_45, z_46, z_47, z_48, z_49, z_50, z_51, z_52, z_53, z_54, z_55, z_56, z_57, z_58, z_59, z_60, z_61, z_62, z_63, z_64, z_65, z_66, z_67, z_68, z_69, z_70, z_71, z_72, z_73, z_74, z_75, z_76, z_77, z_78, z_79, z_80, z_81, z_82, z_83, z_84, z_85, z_86, z_87, z_88, z_89, z_90, z_91, z_92, z_93, z_94, z_95, z_96, z_97, z_98, z_99, z_100, z_101, z_102, z_103, z_104, z_105, z_106, z_107, z_108, z_109, z_110, z_111, z_112, z_113, z_114, z_115, z_116, z_117, z_118, z_119, z_120, z_121, z_122, z_123, z_124, z_125, z_126, z_127, z_199, z_200, z_360, z_410, z_1000, z_1023, z_1024, z_1219, z_9999, z_10240, z_65537]
    · simp (disch := omega) only [x_within, eC_1, s_T, s_F, s_bd, s_cl, s_rd, s_wr, s_ite, z_ite, z_neg, z_add, z_sub, z_mul, z_le, z_lt, z_eq, eC_at, eC_7, eC_8, eC_9, eC_10, eC_11, eC_p7, eC_p8, eC_p9, eC_p10, eC_p11, eC_up, ud_same, ud_ne, if_pos, if_neg, z_0, z_1, z_2, z_3, z_4, z_5, z_6, z_7, z_8, z_9, z_10, z_11, z_12, z_13, z_14, z_15, z_16, z_17, z_18, z_19, z_20, z_21, z_22, z_23, z_24, z_25, z_26, z_27, z_28, z_29, z_30, z_31, z_32, z_33, z_34, z_35, z_36, z_37, z_38, z_39, z_40, z_41, z_42, z_43, z_44, z_45, z_46, z_47, z_48, z_49, z_50, z_51, z_52, z_53, z_54, z_55, z_56, z_57, z_58, z_59, z_60, z_61, z_62, z_63, z_64, z_65, z_66, z_67, z_68, z_69, z_70, z_71, z_72, z_73, z_74, z_75, z_76, z_77, z_78, z_79, z_80, z_81, z_82, z_83, z_84, z_85, z_86, z_87, z_88, z_89, z_90, z_91, z_92, z_93, z_94, z_95, z_96, z_97, z_98, z_99, z_100, z_101, z_102, z_103, z_104, z_105, z_106, z_107, z_108, z_109, z_110, z_111, z_112, z_113, z_114, z_115, z_116, z_117, z_118, z_119, z_120, z_121, z_122, z_123, z_124, z_125, z_126, z_127, z_199, z_200, z_360, z_410, z_1000, z_1023, z_1024, z_1219, z_9999, z_10240, z_65537]
  · simp (disch := omega) only [x_within, eC_1, s_T, s_F, s_bd, s_cl, s_rd, s_wr, s_ite, z_ite, z_neg, z_add, z_sub, z_mul, z_le, z_lt, z_eq, eC_at, eC_7, eC_8, eC_9, eC_10, eC_11, eC_p7, eC_p8, eC_p9, eC_p10, eC_p11, eC_up, ud_same, ud_ne, if_pos, if_neg, z_0, z_1, z_2, z_3, z_4, z_5, z_6, z_7, z_8, z_9, z_10, z_11, z_12, z_13, z_14, z_15, z_16, z_17, z_18, z_19, z_20, z_21, z_22, z_23, z_24, z_25, z_26, z_27, z_28, z_29, z_30, z_31, z_32, z_33, z_34, z_35, z_36, z_37, z_38, z_39, z_40, z_41, z_42, z_43, z_44, z_45, z_46, z_47, z_48, z_49, z_50, z_51, z_52, z_53, z_54, z_55, z_56, z_57, z_58, z_59, z_60, z_61, z_62, z_63, z_64, z_65, z_66, z_67, z_68, z_69, z_70, z_71, z_72, z_73, z_74, z_75, z_76, z_77, z_78, z_79, z_80, z_81, z_82, z_83, z_84, z_85, z_86, z_87, z_88, z_89, z_90, z_91, z_92, z_93, z_94, z_95, z_96, z_97, z_98, z_99, z_100, z_101, z_102, z_103, z_104, z_105, z_106, z_107, z_108, z_109, z_110, z_111, z_112, z_113, z_114, z_115, z_116, z_117, z_118, z_119, z_120, z_121, z_122, z_123, z_124, z_125, z_126, z_127, z_199, z_200, z_360, z_410, z_1000, z_1023, z_1024, z_1219, z_9999, z_10240, z_65537]
theorem x_digitAt {e} (h : okp e) {i : Int} (h0 : 0 ≤ i) (h1 : i ≤ 100) : f_X3_digitAt (eC e) (zI i) = some (zI (sg e i - 48)) := by
  unfold f_X3_digitAt
  simp (disch := omega) only [x_signAt h, s_T, s_F, s_bd, s_cl, s_rd, s_wr, s_ite, z_ite, z_neg, z_add, z_sub, z_mul, z_le, z_lt, z_eq, eC_at, eC_7, eC_8, eC_9, eC_10, eC_11, eC_p7, eC_p8, eC_p9, eC_p10, eC_p11, eC_up, ud_same, ud_ne, if_pos, if_neg, z_0, z_1, z_2, z_3, z_4, z_5, z_6, z_7, z_8, z_9, z_10, z_11, z_12, z_13, z_14, z_15, z_16, z_17, z_18, z_19, z_20, z_21, z_22, z_23, z_24, z_25, z_26, z_27, z_28, z_29, z_30, z_31, z_32, z_33, z_34, z_35, z_36, z_37, z_38, z_39, z_40, z_41, z_42, z_43, z_44, z_45, z_46, z_47, z_48, z_49, z_50, z_51, z_52, z_53, z_54, z_55, z_56, z_57, z_58, z_59, z_60, z_61, z_62, z_63, z_64, z_65, z_66, z_67, z_68, z_69, z_70, z_71, z_72, z_73, z_74, z_75, z_76, z_77, z_78, z_79, z_80, z_81, z_82, z_83, z_84, z_85, z_86, z_87, z_88, z_89, z_90, z_91, z_92, z_93, z_94, z_95, z_96, z_97, z_98, z_99, z_100, z_101, z_102, z_103, z_104, z_105, z_106, z_107, z_108, z_109, z_110, z_111, z_112, z_113, z_114, z_115, z_116, z_117, z_118, z_119, z_120, z_121, z_122, z_123, z_124, z_125, z_126, z_127, z_199, z_200, z_360, z_410, z_1000, z_1023, z_1024, z_1219, z_9999, z_10240, z_65537]
theorem x_placeAt {e} (h : okp e) {i : Int} (h0 : 0 ≤ i) (h1 : i ≤ 100) : f_X3_placeAt (eC e) (zI i) = some (zI (plc (sg e i))) := by
  have := sg_b h i
  unfold f_X3_placeAt plc
  by_cases c1 : 65 ≤ sg e i ∧ sg e i ≤ 74
  · simp (disch := omega) only [x_signAt h, x_within, s_T, s_F, s_bd, s_cl, s_rd, s_wr, s_ite, z_ite, z_neg, z_add, z_sub, z_mul, z_le, z_lt, z_eq, eC_at, eC_7, eC_8, eC_9, eC_10, eC_11, eC_p7, eC_p8, eC_p9, eC_p10, eC_p11, eC_up, ud_same, ud_ne, if_pos, if_neg, z_0, z_1, z_2, z_3, z_4, z_5, z_6, z_7, z_8, z_9, z_10, z_11, z_12, z_13, z_14, z_15, z_16, z_17, z_18, z_19, z_20, z_21, z_22, z_23, z_24, z_25, z_26, z_27, z_28, z_29, z_30, z_31, z_32, z_33, z_34, z_35, z_36, z_37, z_38, z_39, z_40, z_41, z_42, z_43, z_44, z_45, z_46, z_47, z_48, z_49, z_50, z_51, z_52, z_53, z_54, z_55, z_56, z_57, z_58, z_59, z_60, z_61, z_62, z_63, z_64, z_65, z_66, z_67, z_68, z_69, z_70, z_71, z_72, z_73, z_74, z_75, z_76, z_77, z_78, z_79, z_80, z_81, z_82, z_83, z_84, z_85, z_86, z_87, z_88, z_89, z_90, z_91, z_92, z_93, z_94, z_95, z_96, z_97, z_98, z_99, z_100, z_101, z_102, z_103, z_104, z_105, z_106, z_107, z_108, z_109, z_110, z_111, z_112, z_113, z_114, z_115, z_116, z_117, z_118, z_119, z_120, z_121, z_122, z_123, z_124, z_125, z_126, z_127, z_199, z_200, z_360, z_410, z_1000, z_1023, z_1024, z_1219, z_9999, z_10240, z_65537]
  · simp (disch := omega) only [x_signAt h, x_within, s_T, s_F, s_bd, s_cl, s_rd, s_wr, s_ite, z_ite, z_neg, z_add, z_sub, z_mul, z_le, z_lt, z_eq, eC_at, eC_7, eC_8, eC_9, eC_10, eC_11, eC_p7, eC_p8, eC_p9, eC_p10, eC_p11, eC_up, ud_same, ud_ne, if_pos, if_neg, z_0, z_1, z_2, z_3, z_4, z_5, z_6, z_7, z_8, z_9, z_10, z_11, z_12, z_13, z_14, z_15, z_16, z_17, z_18, z_19, z_20, z_21, z_22, z_23, z_24, z_25, z_26, z_27, z_28, z_29, z_30, z_31, z_32, z_33, z_34, z_35, z_36, z_37, z_38, z_39, z_40, z_41, z_42, z_43, z_44, z_45, z_46, z_47, z_48, z_49, z_50, z_51, z_52, z_53, z_54, z_55, z_56, z_57, z_58, z_59, z_60, z_61, z_62, z_63, z_64, z_65, z_66, z_67, z_68, z_69, z_70, z_71, z_72, z_73, z_74, z_75, z_76, z_77, z_78, z_79, z_80, z_81, z_82, z_83, z_84, z_85, z_86, z_87, z_88, z_89, z_90, z_91, z_92, z_93, z_94, z_95, z_96, z_97, z_98, z_99, z_100, z_101, z_102, z_103, z_104, z_105, z_106, z_107, z_108, z_109, z_110, z_111, z_112, z_113, z_114, z_115, z_116, z_117, z_118, z_119, z_120, z_121, z_122, z_123, z_124, z_125, z_126, z_127, z_199, z_200, z_360, z_410, z_1000, z_1023, z_1024, z_1219, z_9999, z_10240, z_65537]
theorem x_kindAt {e} (h : okp e) {i : Int} (h0 : 0 ≤ i) (h1 : i ≤ 100) : f_X3_kindAt (eC e) (zI i) = some (zI (kdc (sg e i))) := by
  have := sg_b h i
  have := plc_b (sg e i)
  unfold f_X3_kindAt kdc
  simp (disch := omega) only [x_signAt h, x_placeAt h, s_T, s_F, s_bd, s_cl, s_rd, s_wr, s_ite, z_ite, z_neg, z_add, z_sub, z_mul, z_le, z_lt, z_eq, eC_at, eC_7, eC_8, eC_9, eC_10, eC_11, eC_p7, eC_p8, eC_p9, eC_p10, eC_p11, eC_up, ud_same, ud_ne, z_0, z_1, z_2, z_3, z_4, z_5, z_6, z_7, z_8, z_9, z_10, z_11, z_12, z_13, z_14, z_15, z_16, z_17, z_18, z_19, z_20, z_21, z_22, z_23, z_24, z_25, z_26, z_27, z_28, z_29, z_30, z_31, z_32, z_33, z_34, z_35, z_36, z_37, z_38, z_39, z_40, z_41, z_42, z_43, z_44, z_45, z_46, z_47, z_48, z_49, z_50, z_51, z_52, z_53, z_54, z_55, z_56, z_57, z_58, z_59, z_60, z_61, z_62, z_63, z_64, z_65, z_66, z_67, z_68, z_69, z_70, z_71, z_72, z_73, z_74, z_75, z_76, z_77, z_78, z_79, z_80, z_81, z_82, z_83, z_84, z_85, z_86, z_87, z_88, z_89, z_90, z_91, z_92, z_93, z_94, z_95, z_96, z_97, z_98, z_99, z_100, z_101, z_102, z_103, z_104, z_105, z_106, z_107, z_108, z_109, z_110, z_111, z_112, z_113, z_114, z_115, z_116, z_117, z_118, z_119, z_120, z_121, z_122, z_123, z_124, z_125, z_126, z_127, z_199, z_200, z_360, z_410, z_1000, z_1023, z_1024, z_1219, z_9999, z_10240, z_65537]
def wht (e : Nat → Int → Int) (i : Int) : Int := if kdc (sg e i) = 0 then sg e (i + 1) - 48 else plc (sg e i)
theorem x_whatAt {e} (h : okp e) {i : Int} (h0 : 0 ≤ i) (h1 : i ≤ 99) : f_X3_whatAt (eC e) (zI i) = some (zI (wht e i)) := by
  have := kdc_b (sg e i)
  unfold f_X3_whatAt wht
  simp (disch := omega) only [x_kindAt h, x_placeAt h, x_digitAt h, s_T, s_F, s_bd, s_cl, s_rd, s_wr, s_ite, z_ite, z_neg, z_add, z_sub, z_mul, z_le, z_lt, z_eq, eC_at, eC_7, eC_8, eC_9, eC_10, eC_11, eC_p7, eC_p8, eC_p9, eC_p10, eC_p11, eC_up, ud_same, ud_ne, z_0, z_1, z_2, z_3, z_4, z_5, z_6, z_7, z_8, z_9, z_10, z_11, z_12, z_13, z_14, z_15, z_16, z_17, z_18, z_19, z_20, z_21, z_22, z_23, z_24, z_25, z_26, z_27, z_28, z_29, z_30, z_31, z_32, z_33, z_34, z_35, z_36, z_37, z_38, z_39, z_40, z_41, z_42, z_43, z_44, z_45, z_46, z_47, z_48, z_49, z_50, z_51, z_52, z_53, z_54, z_55, z_56, z_57, z_58, z_59, z_60, z_61, z_62, z_63, z_64, z_65, z_66, z_67, z_68, z_69, z_70, z_71, z_72, z_73, z_74, z_75, z_76, z_77, z_78, z_79, z_80, z_81, z_82, z_83, z_84, z_85, z_86, z_87, z_88, z_89, z_90, z_91, z_92, z_93, z_94, z_95, z_96, z_97, z_98, z_99, z_100, z_101, z_102, z_103, z_104, z_105, z_106, z_107, z_108, z_109, z_110, z_111, z_112, z_113, z_114, z_115, z_116, z_117, z_118, z_119, z_120, z_121, z_122, z_123, z_124, z_125, z_126, z_127, z_199, z_200, z_360, z_410, z_1000, z_1023, z_1024, z_1219, z_9999, z_10240, z_65537]
/-- the fault: none -6 -/
def fl (e : Nat → Int → Int) : Nat → Int → Int
  | 0, _ => -6
  | m + 1, a => if e 99 1 ≤ a then -6
    else if kdc (sg e a) = -6 then a
    else if kdc (sg e a) = 0 then (if 0 ≤ sg e (a + 1) - 48 ∧ sg e (a + 1) - 48 ≤ 9 then (if 1 ≤ sg e (a + 2) - 48 ∧ sg e (a + 2) - 48 ≤ 9 then fl e m (a + 3) else a + 2) else a + 1)
    else fl e m (a + 1)
theorem x_fl {e} (h : okp e) : ∀ (N : Nat) (a : Int), (0 ≤ a ∧ a ≤ 90 ∧ (e 99 1 - a).toNat < N) → q_lp (b_X3_faultPlace_2 (eC e)) (fun _ => some (-6 : Int32)) N (zI a) = some (zI (fl e N a)) := by
  refine lp_en (fun a : Int => zI a) (fun N a => some (zI (fl e N a))) (fun N a => 0 ≤ a ∧ a ≤ 90 ∧ (e 99 1 - a).toNat < N) (fun a => by omega) ?_
  rintro again N a ⟨h0, h1, h2⟩ ih
  unfold b_X3_faultPlace_2 fl
  have := h.2
  by_cases c : e 99 1 ≤ a
  · simp (disch := omega) only [eC_1, s_T, s_F, s_bd, s_cl, s_rd, s_wr, s_ite, z_ite, z_neg, z_add, z_sub, z_mul, z_le, z_lt, z_eq, eC_at, eC_7, eC_8, eC_9, eC_10, eC_11, eC_p7, eC_p8, eC_p9, eC_p10, eC_p11, eC_up, ud_same, ud_ne, if_pos, if_neg, z_0, z_1, z_2, z_3, z_4, z_5, z_6, z_7, z_8, z_9, z_10, z_11, z_12, z_13, z_14, z_15, z_16, z_17, z_18, z_19, z_20, z_21, z_22, z_23, z_24, z_25, z_26, z_27, z_28, z_29, z_30, z_31, z_32, z_33, z_34, z_35, z_36, z_37, z_38, z_39, z_40, z_41, z_42, z_43, z_44, z_45, z_46, z_47, z_48, z_49, z_50, z_51, z_52, z_53, z_54, z_55, z_56, z_57, z_58, z_59, z_60, z_61, z_62, z_63, z_64, z_65, z_66, z_67, z_68, z_69, z_70, z_71, z_72, z_73, z_74, z_75, z_76, z_77, z_78, z_79, z_80, z_81, z_82, z_83, z_84, z_85, z_86, z_87, z_88, z_89, z_90, z_91, z_92, z_93, z_94, z_95, z_96, z_97, z_98, z_99, z_100, z_101, z_102, z_103, z_104, z_105, z_106, z_107, z_108, z_109, z_110, z_111, z_112, z_113, z_114, z_115, z_116, z_117, z_118, z_119, z_120, z_121, z_122, z_123, z_124, z_125, z_126, z_127, z_199, z_200, z_360, z_410, z_1000, z_1023, z_1024, z_1219, z_9999, z_10240, z_65537]
  · have := kdc_b (sg e a)
    have := sg_b h (a + 1)
    have := sg_b h (a + 2)
    by_cases c1 : kdc (sg e a) = -6
    · simp (disch := omega) only [eC_1, x_kindAt h, s_T, s_F, s_bd, s_cl, s_rd, s_wr, s_ite, z_ite, z_neg, z_add, z_sub, z_mul, z_le, z_lt, z_eq, eC_at, eC_7, eC_8, eC_9, eC_10, eC_11, eC_p7, eC_p8, eC_p9, eC_p10, eC_p11, eC_up, ud_same, ud_ne, if_pos, if_neg, z_0, z_1, z_2, z_3, z_4, z_5, z_6, z_7, z_8, z_9, z_10, z_11, z_12, z_13, z_14, z_15, z_16, z_17, z_18, z_19, z_20, z_21, z_22, z_23, z_24, z_25, z_26, z_27, z_28, z_29, z_30, z_31, z_32, z_33, z_34, z_35, z_36, z_37, z_38, z_39, z_40, z_41, z_42, z_43, z_44, z_45, z_46, z_47, z_48, z_49, z_50, z_51, z_52, z_53, z_54, z_55, z_56, z_57, z_58, z_59, z_60, z_61, z_62, z_63, z_64, z_65, z_66, z_67, z_68, z_69, z_70, z_71, z_72, z_73, z_74, z_75, z_76, z_77, z_78, z_79, z_80, z_81, z_82, z_83, z_84, z_85, z_86, z_87, z_88, z_89, z_90, z_91, z_92, z_93, z_94, z_95, z_96, z_97, z_98, z_99, z_100, z_101, z_102, z_103, z_104, z_105, z_106, z_107, z_108, z_109, z_110, z_111, z_112, z_113, z_114, z_115, z_116, z_117, z_118, z_119, z_120, z_121, z_122, z_123, z_124, z_125, z_126, z_127, z_199, z_200, z_360, z_410, z_1000, z_1023, z_1024, z_1219, z_9999, z_10240, z_65537]
    · by_cases c2 : kdc (sg e a) = 0
      · by_cases c3 : 0 ≤ sg e (a + 1) - 48 ∧ sg e (a + 1) - 48 ≤ 9
        · by_cases c4 : 1 ≤ sg e (a + 2) - 48 ∧ sg e (a + 2) - 48 ≤ 9
          · simp (disch := omega) only [eC_1, x_kindAt h, x_digitAt h, x_within, s_T, s_F, s_bd, s_cl, s_rd, s_wr, s_ite, z_ite, z_neg, z_add, z_sub, z_mul, z_le, z_lt, z_eq, eC_at, eC_7, eC_8, eC_9, eC_10, eC_11, eC_p7, eC_p8, eC_p9, eC_p10, eC_p11, eC_up, ud_same, ud_ne, if_pos, if_neg, z_0, z_1, z_2, z_3, z_4, z_5, z_6, z_7, z_8, z_9, z_10, z_11, z_12, z_13, z_14, z_15, z_16, z_17, z_18, z_19, z_20, z_21, z_22, z_23, z_24, z_25, z_26, z_27, z_28, z_29, z_30, z_31, z_32, z_33, z_34, z_35, z_36, z_37, z_38, z_39, z_40, z_41, z_42, z_43, z_44, z_45, z_46, z_47, z_48, z_49, z_50, z_51, z_52, z_53, z_54, z_55, z_56, z_57, z_58, z_59, z_60, z_61, z_62, z_63, z_64, z_65, z_66, z_67, z_68, z_69, z_70, z_71, z_72, z_73, z_74, z_75, z_76, z_77, z_78, z_79, z_80, z_81, z_82, z_83, z_84, z_85, z_86, z_87, z_88, z_89, z_90, z_91, z_92, z_93, z_94, z_95, z_96, z_97, z_98, z_99, z_100, z_101, z_102, z_103, z_104, z_105, z_106, z_107, z_108, z_109, z_110, z_111, z_112, z_113, z_114, z_115, z_116, z_117, z_118, z_119, z_120, z_121, z_122, z_123, z_124, z_125, z_126, z_127, z_199, z_200, z_360, z_410, z_1000, z_1023, z_1024, z_1219, z_9999, z_10240, z_65537]
            exact ih (a + 3) (by omega)
          · simp (disch := omega) only [eC_1, x_kindAt h, x_digitAt h, x_within, s_T, s_F, s_bd, s_cl, s_rd, s_wr, s_ite, z_ite, z_neg, z_add, z_sub, z_mul, z_le, z_lt, z_eq, eC_at, eC_7, eC_8, eC_9, eC_10, eC_11, eC_p7, eC_p8, eC_p9, eC_p10, eC_p11, eC_up, ud_same, ud_ne, if_pos, if_neg, z_0, z_1, z_2, z_3, z_4, z_5, z_6, z_7, z_8, z_9, z_10, z_11, z_12, z_13, z_14, z_15, z_16, z_17, z_18, z_19, z_20, z_21, z_22, z_23, z_24, z_25, z_26, z_27, z_28, z_29, z_30, z_31, z_32, z_33, z_34, z_35, z_36, z_37, z_38, z_39, z_40, z_41, z_42, z_43, z_44, z_45, z_46, z_47, z_48, z_49, z_50, z_51, z_52, z_53, z_54, z_55, z_56, z_57, z_58, z_59, z_60, z_61, z_62, z_63, z_64, z_65, z_66, z_67, z_68, z_69, z_70, z_71, z_72, z_73, z_74, z_75, z_76, z_77, z_78, z_79, z_80, z_81, z_82, z_83, z_84, z_85, z_86, z_87, z_88, z_89, z_90, z_91, z_92, z_93, z_94, z_95, z_96, z_97, z_98, z_99, z_100, z_101, z_102, z_103, z_104, z_105, z_106, z_107, z_108, z_109, z_110, z_111, z_112, z_113, z_114, z_115, z_116, z_117, z_118, z_119, z_120, z_121, z_122, z_123, z_124, z_125, z_126, z_127, z_199, z_200, z_360, z_410, z_1000, z_1023, z_1024, z_1219, z_9999, z_10240, z_65537]
        · simp (disch := omega) only [eC_1, x_kindAt h, x_digitAt h, x_within, s_T, s_F, s_bd, s_cl, s_rd, s_wr, s_ite, z_ite, z_neg, z_add, z_sub, z_mul, z_le, z_lt, z_eq, eC_at, eC_7, eC_8, eC_9, eC_10, eC_11, eC_p7, eC_p8, eC_p9, eC_p10, eC_p11, eC_up, ud_same, ud_ne, if_pos, if_neg, z_0, z_1, z_2, z_3, z_4, z_5, z_6, z_7, z_8, z_9, z_10, z_11, z_12, z_13, z_14, z_15, z_16, z_17, z_18, z_19, z_20, z_21, z_22, z_23, z_24, z_25, z_26, z_27, z_28, z_29, z_30, z_31, z_32, z_33, z_34, z_35, z_36, z_37, z_38, z_39, z_40, z_41, z_42, z_43, z_44, z_45, z_46, z_47, z_48, z_49, z_50, z_51, z_52, z_53, z_54, z_55, z_56, z_57, z_58, z_59, z_60, z_61, z_62, z_63, z_64, z_65, z_66, z_67, z_68, z_69, z_70, z_71, z_72, z_73, z_74, z_75, z_76, z_77, z_78, z_79, z_80, z_81, z_82, z_83, z_84, z_85, z_86, z_87, z_88, z_89, z_90, z_91, z_92, z_93, z_94, z_95, z_96, z_97, z_98, z_99, z_100, z_101, z_102, z_103, z_104, z_105, z_106, z_107, z_108, z_109, z_110, z_111, z_112, z_113, z_114, z_115, z_116, z_117, z_118, z_119, z_120, z_121, z_122, z_123, z_124, z_125, z_126, z_127, z_199, z_200, z_360, z_410, z_1000, z_1023, z_1024, z_1219, z_9999, z_10240, z_65537]
      · simp (disch := omega) only [eC_1, x_kindAt h, x_digitAt h, x_within, s_T, s_F, s_bd, s_cl, s_rd, s_wr, s_ite, z_ite, z_neg, z_add, z_sub, z_mul, z_le, z_lt, z_eq, eC_at, eC_7, eC_8, eC_9, eC_10, eC_11, eC_p7, eC_p8, eC_p9, eC_p10, eC_p11, eC_up, ud_same, ud_ne, if_pos, if_neg, z_0, z_1, z_2, z_3, z_4, z_5, z_6, z_7, z_8, z_9, z_10, z_11, z_12, z_13, z_14, z_15, z_16, z_17, z_18, z_19, z_20, z_21, z_22, z_23, z_24, z_25, z_26, z_27, z_28, z_29, z_30, z_31, z_32, z_33, z_34, z_35, z_36, z_37, z_38, z_39, z_40, z_41, z_42, z_43, z_44, z_45, z_46, z_47, z_48, z_49, z_50, z_51, z_52, z_53, z_54, z_55, z_56, z_57, z_58, z_59, z_60, z_61, z_62, z_63, z_64, z_65, z_66, z_67, z_68, z_69, z_70, z_71, z_72, z_73, z_74, z_75, z_76, z_77, z_78, z_79, z_80, z_81, z_82, z_83, z_84, z_85, z_86, z_87, z_88, z_89, z_90, z_91, z_92, z_93, z_94, z_95, z_96, z_97, z_98, z_99, z_100, z_101, z_102, z_103, z_104, z_105, z_106, z_107, z_108, z_109, z_110, z_111, z_112, z_113, z_114, z_115, z_116, z_117, z_118, z_119, z_120, z_121, z_122, z_123, z_124, z_125, z_126, z_127, z_199, z_200, z_360, z_410, z_1000, z_1023, z_1024, z_1219, z_9999, z_10240, z_65537]
        exact ih (a + 1) (by omega)
theorem x_faultPlace {e} (h : okp e) : f_X3_faultPlace (eC e) = some (zI (fl e 20000 0)) := by
  have := h.2
  exact x_fl h 20000 0 (by omega)
theorem fl_b {e} (h : okp e) : ∀ (N : Nat) (a : Int), 0 ≤ a → fl e N a = -6 ∨ (a ≤ fl e N a ∧ fl e N a ≤ 62) := by
  intro N
  induction N with
  | zero => intro a h0; exact Or.inl rfl
  | succ N ih =>
    intro a h0
    have := h.2
    unfold fl
    split
    · exact Or.inl rfl
    · split
      · omega
      · split
        · split
          · split
            · have := ih (a + 3) (by omega); omega
            · omega
          · omega
        · have := ih (a + 1) (by omega); omega
def bel (d : Nat → Int → Int) (p : Int) : Int := if p ≤ 9 then d 3 p else -6
def stN (n d d' : Nat → Int → Int) (k : Int) : Nat → Int → Int :=
  let n1 := if n 99 4 = -6 ∧ ¬ bel d' (d 99 8) = bel d (d 99 8) then ud (ud n 99 4 (n 99 0)) 99 5 (d 99 8) else n
  let n2 := if k = 2 then ud n1 99 1 (n1 99 1 + 1) else n1
  ud n2 99 0 (n2 99 0 + 1)
/-- the marks are small -/
def okn (n : Nat → Int → Int) : Prop := (0 ≤ n 99 0 ∧ n 99 0 ≤ 1000) ∧ (0 ≤ n 99 1 ∧ n 99 1 ≤ 1000) ∧ (-6 ≤ n 99 4 ∧ n 99 4 ≤ 1000)
theorem x_bel {d} (hd : okd d) {p : Int} (h0 : 0 ≤ p) (h1 : p ≤ 10) : f_X1_beliefOf (eC d) (zI p) = some (zI (bel d p)) := by
  unfold bel
  split
  · exact x_beliefOf d h0 (by omega)
  · exact x_beliefOf_n d (by omega) (by omega) (by omega)
theorem x_actOn {n d} (hn : okn n) (hd : okd d) {k w v : Int} (h1 : 0 ≤ k) (h2 : k ≤ 4) (hw : k = 1 → 0 ≤ w ∧ w ≤ 10) (hw0 : k = 0 → 0 ≤ w ∧ w ≤ 9) (hv : k = 0 → 0 ≤ v ∧ v ≤ 99) (hr : rsn d k w = 0) :
    f_X2_actOn (eC n) (eC d) (zI k) (zI w) (zI v) = some (eC (stN n d (actd d k w v) k), eC (actd d k w v)) := by
  have hd' := okd_act hd h1 h2 hw hw0 hv hr
  have a1 := okd_p hd
  have hb : k = 2 → d 99 8 ≤ 9 := by
    intro e
    subst e
    unfold rsn at hr
    rw [if_neg (by decide), if_neg (by decide), if_pos rfl] at hr
    split at hr <;> omega
  have b1 := okd_3 hd (d 99 8)
  have b2 := okd_3 hd' (d 99 8)
  obtain ⟨n0, n1, n4⟩ := hn
  have e1 : -6 ≤ bel d (d 99 8) ∧ bel d (d 99 8) ≤ 9 := by unfold bel; split <;> omega
  have e2 : -6 ≤ bel (actd d k w v) (d 99 8) ∧ bel (actd d k w v) (d 99 8) ≤ 9 := by unfold bel; split <;> omega
  unfold f_X2_actOn stN
  rw [z_0]
  rw [x_panFact d (by omega) (by omega), s_cl]
  rw [show pFact d 0 = d 99 8 from rfl, x_bel hd a1.1 a1.2, s_cl, x_act d hd h1 h2 hw hb, s_cl, x_bel hd' a1.1 a1.2]
  generalize actd d k w v = d' at *
  by_cases c1 : n 99 4 = -6
  · by_cases c2 : bel d' (d 99 8) = bel d (d 99 8)
    · by_cases c3 : k = 2
      · simp (disch := omega) only [eC_0, eC_1, eC_4, eC_p0, eC_p1, s_T, s_F, s_bd, s_cl, s_rd, s_wr, s_ite, z_ite, z_neg, z_add, z_sub, z_mul, z_le, z_lt, z_eq, eC_at, eC_7, eC_8, eC_9, eC_10, eC_11, eC_p7, eC_p8, eC_p9, eC_p10, eC_p11, eC_up, ud_same, ud_ne, if_pos, if_neg, z_0, z_1, z_2, z_3, z_4, z_5, z_6, z_7, z_8, z_9, z_10, z_11, z_12, z_13, z_14, z_15, z_16, z_17, z_18, z_19, z_20, z_21, z_22, z_23, z_24, z_25, z_26, z_27, z_28, z_29, z_30, z_31, z_32, z_33, z_34, z_35, z_36, z_37, z_38, z_39, z_40, z_41, z_42, z_43, z_44, z_45, z_46, z_47, z_48, z_49, z_50, z_51, z_52, z_53, z_54, z_55, z_56, z_57, z_58, z_59, z_60, z_61, z_62, z_63, z_64, z_65, z_66, z_67, z_68, z_69, z_70, z_71, z_72, z_73, z_74, z_75, z_76, z_77, z_78, z_79, z_80, z_81, z_82, z_83, z_84, z_85, z_86, z_87, z_88, z_89, z_90, z_91, z_92, z_93, z_94, z_95, z_96, z_97, z_98, z_99, z_100, z_101, z_102, z_103, z_104, z_105, z_106, z_107, z_108, z_109, z_110, z_111, z_112, z_113, z_114, z_115, z_116, z_117, z_118, z_119, z_120, z_121, z_122, z_123, z_124, z_125, z_126, z_127, z_199, z_200, z_360, z_410, z_1000, z_1023, z_1024, z_1219, z_9999, z_10240, z_65537]
      · simp (disch := omega) only [eC_0, eC_1, eC_4, eC_p0, eC_p1, s_T, s_F, s_bd, s_cl, s_rd, s_wr, s_ite, z_ite, z_neg, z_add, z_sub, z_mul, z_le, z_lt, z_eq, eC_at, eC_7, eC_8, eC_9, eC_10, eC_11, eC_p7, eC_p8, eC_p9, eC_p10, eC_p11, eC_up, ud_same, ud_ne, if_pos, if_neg, z_0, z_1, z_2, z_3, z_4, z_5, z_6, z_7, z_8, z_9, z_10, z_11, z_12, z_13, z_14, z_15, z_16, z_17, z_18, z_19, z_20, z_21, z_22, z_23, z_24, z_25, z_26, z_27, z_28, z_29, z_30, z_31, z_32, z_33, z_34, z_35, z_36, z_37, z_38, z_39, z_40, z_41, z_42, z_43, z_44, z_45, z_46, z_47, z_48, z_49, z_50, z_51, z_52, z_53, z_54, z_55, z_56, z_57, z_58, z_59, z_60, z_61, z_62, z_63, z_64, z_65, z_66, z_67, z_68, z_69, z_70, z_71, z_72, z_73, z_74, z_75, z_76, z_77, z_78, z_79, z_80, z_81, z_82, z_83, z_84, z_85, z_86, z_87, z_88, z_89, z_90, z_91, z_92, z_93, z_94, z_95, z_96, z_97, z_98, z_99, z_100, z_101, z_102, z_103, z_104, z_105, z_106, z_107, z_108, z_109, z_110, z_111, z_112, z_113, z_114, z_115, z_116, z_117, z_118, z_119, z_120, z_121, z_122, z_123, z_124, z_125, z_126, z_127, z_199, z_200, z_360, z_410, z_1000, z_1023, z_1024, z_1219, z_9999, z_10240, z_65537]
    · by_cases c3 : k = 2
      · simp (disch := omega) only [eC_0, eC_1, eC_4, eC_p0, eC_p1, eC_p4, eC_p5, s_T, s_F, s_bd, s_cl, s_rd, s_wr, s_ite, z_ite, z_neg, z_add, z_sub, z_mul, z_le, z_lt, z_eq, eC_at, eC_7, eC_8, eC_9, eC_10, eC_11, eC_p7, eC_p8, eC_p9, eC_p10, eC_p11, eC_up, ud_same, ud_ne, if_pos, if_neg, z_0, z_1, z_2, z_3, z_4, z_5, z_6, z_7, z_8, z_9, z_10, z_11, z_12, z_13, z_14, z_15, z_16, z_17, z_18, z_19, z_20, z_21, z_22, z_23, z_24, z_25, z_26, z_27, z_28, z_29, z_30, z_31, z_32, z_33, z_34, z_35, z_36, z_37, z_38, z_39, z_40, z_41, z_42, z_43, z_44, z_45, z_46, z_47, z_48, z_49, z_50, z_51, z_52, z_53, z_54, z_55, z_56, z_57, z_58, z_59, z_60, z_61, z_62, z_63, z_64, z_65, z_66, z_67, z_68, z_69, z_70, z_71, z_72, z_73, z_74, z_75, z_76, z_77, z_78, z_79, z_80, z_81, z_82, z_83, z_84, z_85, z_86, z_87, z_88, z_89, z_90, z_91, z_92, z_93, z_94, z_95, z_96, z_97, z_98, z_99, z_100, z_101, z_102, z_103, z_104, z_105, z_106, z_107, z_108, z_109, z_110, z_111, z_112, z_113, z_114, z_115, z_116, z_117, z_118, z_119, z_120, z_121, z_122, z_123, z_124, z_125, z_126, z_127, z_199, z_200, z_360, z_410, z_1000, z_1023, z_1024, z_1219, z_9999, z_10240, z_65537]
      · simp (disch := omega) only [eC_0, eC_1, eC_4, eC_p0, eC_p1, eC_p4, eC_p5, s_T, s_F, s_bd, s_cl, s_rd, s_wr, s_ite, z_ite, z_neg, z_add, z_sub, z_mul, z_le, z_lt, z_eq, eC_at, eC_7, eC_8, eC_9, eC_10, eC_11, eC_p7, eC_p8, eC_p9, eC_p10, eC_p11, eC_up, ud_same, ud_ne, if_pos, if_neg, z_0, z_1, z_2, z_3, z_4, z_5, z_6, z_7, z_8, z_9, z_10, z_11, z_12, z_13, z_14, z_15, z_16, z_17, z_18, z_19, z_20, z_21, z_22, z_23, z_24, z_25, z_26, z_27, z_28, z_29, z_30, z_31, z_32, z_33, z_34, z_35, z_36, z_37, z_38, z_39, z_40, z_41, z_42, z_43, z_44, z_45, z_46, z_47, z_48, z_49, z_50, z_51, z_52, z_53, z_54, z_55, z_56, z_57, z_58, z_59, z_60, z_61, z_62, z_63, z_64, z_65, z_66, z_67, z_68, z_69, z_70, z_71, z_72, z_73, z_74, z_75, z_76, z_77, z_78, z_79, z_80, z_81, z_82, z_83, z_84, z_85, z_86, z_87, z_88, z_89, z_90, z_91, z_92, z_93, z_94, z_95, z_96, z_97, z_98, z_99, z_100, z_101, z_102, z_103, z_104, z_105, z_106, z_107, z_108, z_109, z_110, z_111, z_112, z_113, z_114, z_115, z_116, z_117, z_118, z_119, z_120, z_121, z_122, z_123, z_124, z_125, z_126, z_127, z_199, z_200, z_360, z_410, z_1000, z_1023, z_1024, z_1219, z_9999, z_10240, z_65537]
  · by_cases c3 : k = 2
    · simp (disch := omega) only [eC_0, eC_1, eC_4, eC_p0, eC_p1, s_T, s_F, s_bd, s_cl, s_rd, s_wr, s_ite, z_ite, z_neg, z_add, z_sub, z_mul, z_le, z_lt, z_eq, eC_at, eC_7, eC_8, eC_9, eC_10, eC_11, eC_p7, eC_p8, eC_p9, eC_p10, eC_p11, eC_up, ud_same, ud_ne, if_pos, if_neg, z_0, z_1, z_2, z_3, z_4, z_5, z_6, z_7, z_8, z_9, z_10, z_11, z_12, z_13, z_14, z_15, z_16, z_17, z_18, z_19, z_20, z_21, z_22, z_23, z_24, z_25, z_26, z_27, z_28, z_29, z_30, z_31, z_32, z_33, z_34, z_35, z_36, z_37, z_38, z_39, z_40, z_41, z_42, z_43, z_44, z_45, z_46, z_47, z_48, z_49, z_50, z_51, z_52, z_53, z_54, z_55, z_56, z_57, z_58, z_59, z_60, z_61, z_62, z_63, z_64, z_65, z_66, z_67, z_68, z_69, z_70, z_71, z_72, z_73, z_74, z_75, z_76, z_77, z_78, z_79, z_80, z_81, z_82, z_83, z_84, z_85, z_86, z_87, z_88, z_89, z_90, z_91, z_92, z_93, z_94, z_95, z_96, z_97, z_98, z_99, z_100, z_101, z_102, z_103, z_104, z_105, z_106, z_107, z_108, z_109, z_110, z_111, z_112, z_113, z_114, z_115, z_116, z_117, z_118, z_119, z_120, z_121, z_122, z_123, z_124, z_125, z_126, z_127, z_199, z_200, z_360, z_410, z_1000, z_1023, z_1024, z_1219, z_9999, z_10240, z_65537]
    · simp (disch := omega) only [eC_0, eC_1, eC_4, eC_p0, eC_p1, s_T, s_F, s_bd, s_cl, s_rd, s_wr, s_ite, z_ite, z_neg, z_add, z_sub, z_mul, z_le, z_lt, z_eq, eC_at, eC_7, eC_8, eC_9, eC_10, eC_11, eC_p7, eC_p8, eC_p9, eC_p10, eC_p11, eC_up, ud_same, ud_ne, if_pos, if_neg, z_0, z_1, z_2, z_3, z_4, z_5, z_6, z_7, z_8, z_9, z_10, z_11, z_12, z_13, z_14, z_15, z_16, z_17, z_18, z_19, z_20, z_21, z_22, z_23, z_24, z_25, z_26, z_27, z_28, z_29, z_30, z_31, z_32, z_33, z_34, z_35, z_36, z_37, z_38, z_39, z_40, z_41, z_42, z_43, z_44, z_45, z_46, z_47, z_48, z_49, z_50, z_51, z_52, z_53, z_54, z_55, z_56, z_57, z_58, z_59, z_60, z_61, z_62, z_63, z_64, z_65, z_66, z_67, z_68, z_69, z_70, z_71, z_72, z_73, z_74, z_75, z_76, z_77, z_78, z_79, z_80, z_81, z_82, z_83, z_84, z_85, z_86, z_87, z_88, z_89, z_90, z_91, z_92, z_93, z_94, z_95, z_96, z_97, z_98, z_99, z_100, z_101, z_102, z_103, z_104, z_105, z_106, z_107, z_108, z_109, z_110, z_111, z_112, z_113, z_114, z_115, z_116, z_117, z_118, z_119, z_120, z_121, z_122, z_123, z_124, z_125, z_126, z_127, z_199, z_200, z_360, z_410, z_1000, z_1023, z_1024, z_1219, z_9999, z_10240, z_65537]
/-- from an act on: the answer, the marks, the draft -/
def run (e : Nat → Int → Int) : Nat → Int → (Nat → Int → Int) → (Nat → Int → Int) → Int × (Nat → Int → Int) × (Nat → Int → Int)
  | 0, _, n, d => (0, n, d)
  | m + 1, a, n, d => if e 99 1 ≤ a then (0, n, d)
    else if rsn d (kdc (sg e a)) (wht e a) = 0 then
      run e m (if kdc (sg e a) = 0 then a + 3 else a + 1) (stN n d (actd d (kdc (sg e a)) (wht e a) (10 * (sg e (a + 2) - 48))) (kdc (sg e a))) (actd d (kdc (sg e a)) (wht e a) (10 * (sg e (a + 2) - 48)))
    else (-3, ud (ud n 99 2 (n 99 0)) 99 3 (rsn d (kdc (sg e a)) (wht e a)), d)

theorem plc_p {c : Int} (h : ¬ plc c = -6) : 0 ≤ plc c ∧ plc c ≤ 10 := by
  unfold plc at h ⊢
  split
  · omega
  · next z =>
    rw [if_neg z] at h
    split
    · omega
    · next z2 => rw [if_neg z2] at h; omega
theorem kdc_1 {c : Int} (h : kdc c = 1) : 0 ≤ plc c ∧ plc c ≤ 10 := by
  apply plc_p
  intro z
  unfold kdc at h
  rw [if_pos z] at h
  split at h
  · omega
  · split at h
    · omega
    · split at h
      · omega
      · split at h <;> omega
theorem kdc_n {c : Int} (h : ¬ kdc c = -6) : 0 ≤ kdc c ∧ kdc c ≤ 4 := by
  unfold kdc at h ⊢
  split
  · omega
  · next z1 =>
    rw [if_neg z1] at h
    split
    · omega
    · next z2 =>
      rw [if_neg z2] at h
      split
      · omega
      · next z3 =>
        rw [if_neg z3] at h
        split
        · omega
        · next z4 =>
          rw [if_neg z4] at h
          split
          · next z5 => rw [if_pos z5] at h; omega
          · omega
/-- what no fault from a on says of the act at a -/
theorem fl_act {e} {M : Nat} {a : Int} (h : fl e (M + 1) a = -6) (ha : a < e 99 1) (h0 : 0 ≤ a) : (0 ≤ kdc (sg e a) ∧ kdc (sg e a) ≤ 4) ∧ (kdc (sg e a) = 1 → 0 ≤ wht e a ∧ wht e a ≤ 10) ∧ (kdc (sg e a) = 0 → (0 ≤ wht e a ∧ wht e a ≤ 9) ∧ 1 ≤ sg e (a + 2) - 48 ∧ sg e (a + 2) - 48 ≤ 9) ∧ fl e M (if kdc (sg e a) = 0 then a + 3 else a + 1) = -6 := by
  unfold fl at h
  rw [if_neg (by omega)] at h
  by_cases c1 : kdc (sg e a) = -6
  · rw [if_pos c1] at h; omega
  · rw [if_neg c1] at h
    refine ⟨kdc_n c1, fun z => ?_, fun z => ?_, ?_⟩
    · unfold wht
      rw [if_neg (by omega)]
      exact kdc_1 z
    · rw [if_pos z] at h
      unfold wht
      rw [if_pos z]
      split at h
      · next z2 =>
        split at h
        · next z3 => exact ⟨z2, z3⟩
        · omega
      · omega
    · split at h
      · next z =>
        rw [if_pos z]
        split at h
        · split at h
          · exact h
          · omega
        · omega
      · next z => rw [if_neg z]; exact h
theorem wht_b {e} (h : okp e) (a : Int) : -100 ≤ wht e a ∧ wht e a ≤ 100 := by
  have := sg_b h (a + 1)
  have := plc_b (sg e a)
  unfold wht
  split <;> omega
def mrk (n : Nat → Int → Int) (b : Int) : Prop := (0 ≤ n 99 0 ∧ n 99 0 ≤ b) ∧ (0 ≤ n 99 1 ∧ n 99 1 ≤ b) ∧ (-6 ≤ n 99 4 ∧ n 99 4 ≤ b)
theorem mrk_st {n d d' : Nat → Int → Int} {k b : Int} (h : mrk n b) : mrk (stN n d d' k) (b + 1) := by
  obtain ⟨h0, h1, h4⟩ := h
  unfold stN mrk
  dsimp only
  split <;> split <;> simp (disch := omega) only [ud_same, ud_ne] <;> omega
theorem mrk_mono {n : Nat → Int → Int} {b c : Int} (h : mrk n b) (hb : b ≤ c) : mrk n c := by
  obtain ⟨h0, h1, h4⟩ := h
  exact ⟨by omega, by omega, by omega⟩
theorem x_run {e} (h : okp e) : ∀ (N : Nat) (a : Int × (Nat → Int → Int) × (Nat → Int → Int)), ((0 ≤ a.1 ∧ a.1 ≤ 90 ∧ (e 99 1 - a.1).toNat < N) ∧ mrk a.2.1 a.1 ∧ okd a.2.2 ∧ fl e N a.1 = -6) →
    q_lp (b_X2_pass_54 (eC e)) (fun z18 => some ((0 : Int32), z18.2.1, z18.2.2)) N (zI a.1, eC a.2.1, eC a.2.2) = some (zI (run e N a.1 a.2.1 a.2.2).1, eC (run e N a.1 a.2.1 a.2.2).2.1, eC (run e N a.1 a.2.1 a.2.2).2.2) := by
  refine lp_en (fun a : Int × (Nat → Int → Int) × (Nat → Int → Int) => (zI a.1, eC a.2.1, eC a.2.2)) (fun N a => some (zI (run e N a.1 a.2.1 a.2.2).1, eC (run e N a.1 a.2.1 a.2.2).2.1, eC (run e N a.1 a.2.1 a.2.2).2.2)) (fun N a => (0 ≤ a.1 ∧ a.1 ≤ 90 ∧ (e 99 1 - a.1).toNat < N) ∧ mrk a.2.1 a.1 ∧ okd a.2.2 ∧ fl e N a.1 = -6) (fun a => by omega) ?_
  rintro again N ⟨a, n, d⟩ ⟨⟨h0, h1, h2⟩, hm, hd, hf⟩ ih
  dsimp only at h0 h1 h2 hm hd hf ih ⊢
  unfold b_X2_pass_54 run f_X3_size
  dsimp only
  have hc := h.2
  by_cases c : e 99 1 ≤ a
  · simp (disch := omega) only [eC_1, s_T, s_F, s_bd, s_cl, s_rd, s_wr, s_ite, z_ite, z_neg, z_add, z_sub, z_mul, z_le, z_lt, z_eq, eC_at, eC_7, eC_8, eC_9, eC_10, eC_11, eC_p7, eC_p8, eC_p9, eC_p10, eC_p11, eC_up, ud_same, ud_ne, if_pos, if_neg, z_0, z_1, z_2, z_3, z_4, z_5, z_6, z_7, z_8, z_9, z_10, z_11, z_12, z_13, z_14, z_15, z_16, z_17, z_18, z_19, z_20, z_21, z_22, z_23, z_24, z_25, z_26, z_27, z_28, z_29, z_30, z_31, z_32, z_33, z_34, z_35, z_36, z_37, z_38, z_39, z_40, z_41, z_42, z_43, z_44, z_45, z_46, z_47, z_48, z_49, z_50, z_51, z_52, z_53, z_54, z_55, z_56, z_57, z_58, z_59, z_60, z_61, z_62, z_63, z_64, z_65, z_66, z_67, z_68, z_69, z_70, z_71, z_72, z_73, z_74, z_75, z_76, z_77, z_78, z_79, z_80, z_81, z_82, z_83, z_84, z_85, z_86, z_87, z_88, z_89, z_90, z_91, z_92, z_93, z_94, z_95, z_96, z_97, z_98, z_99, z_100, z_101, z_102, z_103, z_104, z_105, z_106, z_107, z_108, z_109, z_110, z_111, z_112, z_113, z_114, z_115, z_116, z_117, z_118, z_119, z_120, z_121, z_122, z_123, z_124, z_125, z_126, z_127, z_199, z_200, z_360, z_410, z_1000, z_1023, z_1024, z_1219, z_9999, z_10240, z_65537]
  · obtain ⟨hk, hw1, hw0, hn⟩ := fl_act hf (by omega) h0
    have hwb := wht_b h a
    have hr := x_reasonAgainst d hd (k := kdc (sg e a)) (w := wht e a) hk.1 hk.2 hw1
    have hs := sg_b h (a + 2)
    have hrb : 0 ≤ rsn d (kdc (sg e a)) (wht e a) ∧ rsn d (kdc (sg e a)) (wht e a) ≤ 4 := by
      unfold rsn
      repeat' split
      all_goals omega
    have hok : okn n := ⟨by have := hm.1; omega, by have := hm.2.1; omega, by have := hm.2.2; omega⟩
    by_cases cr : rsn d (kdc (sg e a)) (wht e a) = 0
    · have hact := x_actOn (v := 10 * (sg e (a + 2) - 48)) hok hd hk.1 hk.2 hw1 (fun z => (hw0 z).1) (fun z => by have := (hw0 z).2; omega) cr
      have hd' := okd_act hd hk.1 hk.2 hw1 (fun z => (hw0 z).1) (v := 10 * (sg e (a + 2) - 48)) (fun z => by have := (hw0 z).2; omega) cr
      have hm' := mrk_st (d := d) (d' := actd d (kdc (sg e a)) (wht e a) (10 * (sg e (a + 2) - 48))) (k := kdc (sg e a)) hm
      have ih' := ih (if kdc (sg e a) = 0 then a + 3 else a + 1, stN n d (actd d (kdc (sg e a)) (wht e a) (10 * (sg e (a + 2) - 48))) (kdc (sg e a)), actd d (kdc (sg e a)) (wht e a) (10 * (sg e (a + 2) - 48))) ⟨by dsimp only; split <;> omega, mrk_mono hm' (by dsimp only; split <;> omega), hd', hn⟩
      dsimp only at ih'
      rw [if_neg c, if_pos cr]
      by_cases ck : kdc (sg e a) = 0
      · simp (disch := omega) only [eC_1, x_kindAt h, x_whatAt h, x_digitAt h, hr, hact, cr, s_T, s_F, s_bd, s_cl, s_rd, s_wr, s_ite, z_ite, z_neg, z_add, z_sub, z_mul, z_le, z_lt, z_eq, eC_at, eC_7, eC_8, eC_9, eC_10, eC_11, eC_p7, eC_p8, eC_p9, eC_p10, eC_p11, eC_up, ud_same, ud_ne, if_pos, if_neg, z_0, z_1, z_2, z_3, z_4, z_5, z_6, z_7, z_8, z_9, z_10, z_11, z_12, z_13, z_14, z_15, z_16, z_17, z_18, z_19, z_20, z_21, z_22, z_23, z_24, z_25, z_26, z_27, z_28, z_29, z_30, z_31, z_32, z_33, z_34, z_35, z_36, z_37, z_38, z_39, z_40, z_41, z_42, z_43, z_44, z_45, z_46, z_47, z_48, z_49, z_50, z_51, z_52, z_53, z_54, z_55, z_56, z_57, z_58, z_59, z_60, z_61, z_62, z_63, z_64, z_65, z_66, z_67, z_68, z_69, z_70, z_71, z_72, z_73, z_74, z_75, z_76, z_77, z_78, z_79, z_80, z_81, z_82, z_83, z_84, z_85, z_86, z_87, z_88, z_89, z_90, z_91, z_92, z_93, z_94, z_95, z_96, z_97, z_98, z_99, z_100, z_101, z_102, z_103, z_104, z_105, z_106, z_107, z_108, z_109, z_110, z_111, z_112, z_113, z_114, z_115, z_116, z_117, z_118, z_119, z_120, z_121, z_122, z_123, z_124, z_125, z_126, z_127, z_199, z_200, z_360, z_410, z_1000, z_1023, z_1024, z_1219, z_9999, z_10240, z_65537]
        rw [if_pos ck] at ih'
        exact ih'
      · simp (disch := omega) only [eC_1, x_kindAt h, x_whatAt h, x_digitAt h, hr, hact, cr, s_T, s_F, s_bd, s_cl, s_rd, s_wr, s_ite, z_ite, z_neg, z_add, z_sub, z_mul, z_le, z_lt, z_eq, eC_at, eC_7, eC_8, eC_9, eC_10, eC_11, eC_p7, eC_p8, eC_p9, eC_p10, eC_p11, eC_up, ud_same, ud_ne, if_pos, if_neg, z_0, z_1, z_2, z_3, z_4, z_5, z_6, z_7, z_8, z_9, z_10, z_11, z_12, z_13, z_14, z_15, z_16, z_17, z_18, z_19, z_20, z_21, z_22, z_23, z_24, z_25, z_26, z_27, z_28, z_29, z_30, z_31, z_32, z_33, z_34, z_35, z_36, z_37, z_38, z_39, z_40, z_41, z_42, z_43, z_44, z_45, z_46, z_47, z_48, z_49, z_50, z_51, z_52, z_53, z_54, z_55, z_56, z_57, z_58, z_59, z_60, z_61, z_62, z_63, z_64, z_65, z_66, z_67, z_68, z_69, z_70, z_71, z_72, z_73, z_74, z_75, z_76, z_77, z_78, z_79, z_80, z_81, z_82, z_83, z_84, z_85, z_86, z_87, z_88, z_89, z_90, z_91, z_92, z_93, z_94, z_95, z_96, z_97, z_98, z_99, z_100, z_101, z_102, z_103, z_104, z_105, z_106, z_107, z_108, z_109, z_110, z_111, z_112, z_113, z_114, z_115, z_116, z_117, z_118, z_119, z_120, z_121, z_122, z_123, z_124, z_125, z_126, z_127, z_199, z_200, z_360, z_410, z_1000, z_1023, z_1024, z_1219, z_9999, z_10240, z_65537]
        rw [if_neg ck] at ih'
        exact ih'
    · simp (disch := omega) only [eC_1, x_kindAt h, x_whatAt h, hr, eC_0, eC_p2, eC_p3, s_T, s_F, s_bd, s_cl, s_rd, s_wr, s_ite, z_ite, z_neg, z_add, z_sub, z_mul, z_le, z_lt, z_eq, eC_at, eC_7, eC_8, eC_9, eC_10, eC_11, eC_p7, eC_p8, eC_p9, eC_p10, eC_p11, eC_up, ud_same, ud_ne, if_pos, if_neg, z_0, z_1, z_2, z_3, z_4, z_5, z_6, z_7, z_8, z_9, z_10, z_11, z_12, z_13, z_14, z_15, z_16, z_17, z_18, z_19, z_20, z_21, z_22, z_23, z_24, z_25, z_26, z_27, z_28, z_29, z_30, z_31, z_32, z_33, z_34, z_35, z_36, z_37, z_38, z_39, z_40, z_41, z_42, z_43, z_44, z_45, z_46, z_47, z_48, z_49, z_50, z_51, z_52, z_53, z_54, z_55, z_56, z_57, z_58, z_59, z_60, z_61, z_62, z_63, z_64, z_65, z_66, z_67, z_68, z_69, z_70, z_71, z_72, z_73, z_74, z_75, z_76, z_77, z_78, z_79, z_80, z_81, z_82, z_83, z_84, z_85, z_86, z_87, z_88, z_89, z_90, z_91, z_92, z_93, z_94, z_95, z_96, z_97, z_98, z_99, z_100, z_101, z_102, z_103, z_104, z_105, z_106, z_107, z_108, z_109, z_110, z_111, z_112, z_113, z_114, z_115, z_116, z_117, z_118, z_119, z_120, z_121, z_122, z_123, z_124, z_125, z_126, z_127, z_199, z_200, z_360, z_410, z_1000, z_1023, z_1024, z_1219, z_9999, z_10240, z_65537]


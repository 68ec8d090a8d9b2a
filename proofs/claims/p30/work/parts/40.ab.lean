theorem s_T {α : Type} (a b : α) : (if True then a else b) = a := if_pos trivial
theorem s_F {α : Type} (a b : α) : (if False then a else b) = b := if_neg id
theorem s_ite {c : Prop} [Decidable c] {α : Type} (a b : α) : (if c then some a else some b) = some (if c then a else b) := by split <;> rfl
theorem z_ite {c : Prop} [Decidable c] (a b : Int) : (if c then zI a else zI b) = zI (if c then a else b) := by split <;> rfl
theorem eC_7 (d : Nat → Int → Int) : eC d 99 7 = zI (d 99 7) := rfl
theorem eC_8 (d : Nat → Int → Int) : eC d 99 8 = zI (d 99 8) := rfl
theorem eC_9 (d : Nat → Int → Int) : eC d 99 9 = zI (d 99 9) := rfl
theorem eC_10 (d : Nat → Int → Int) : eC d 99 10 = zI (d 99 10) := rfl
theorem eC_11 (d : Nat → Int → Int) : eC d 99 11 = zI (d 99 11) := rfl
theorem eC_p7 (d : Nat → Int → Int) (v : Int) : q_up (eC d) 99 (upd (eC d 99) 7 (zI v)) = eC (ud d 99 7 v) := eC_up d 99 (i := 7) (by decide) v
theorem eC_p8 (d : Nat → Int → Int) (v : Int) : q_up (eC d) 99 (upd (eC d 99) 8 (zI v)) = eC (ud d 99 8 v) := eC_up d 99 (i := 8) (by decide) v
theorem eC_p9 (d : Nat → Int → Int) (v : Int) : q_up (eC d) 99 (upd (eC d 99) 9 (zI v)) = eC (ud d 99 9 v) := eC_up d 99 (i := 9) (by decide) v
theorem eC_p10 (d : Nat → Int → Int) (v : Int) : q_up (eC d) 99 (upd (eC d 99) 10 (zI v)) = eC (ud d 99 10 v) := eC_up d 99 (i := 10) (by decide) v
theorem eC_p11 (d : Nat → Int → Int) (v : Int) : q_up (eC d) 99 (upd (eC d 99) 11 (zI v)) = eC (ud d 99 11 v) := eC_up d 99 (i := 11) (by decide) v
def lod (k : Nat) (i : Int) : Int := if k = 3 then -6 else if k = 4 then (if i < 0 then i else 0) else 0
def hid (k : Nat) (i : Int) : Int := if k = 0 then 9 else if k = 1 then 9 else if k = 2 then 1 else if k = 3 then 9 else if k = 4 then (if i < 10 then 9 else i) else if k = 5 then 40 else if k = 6 then 9 else if k = 99 then (if i = 7 then 8 else if i = 8 then 10 else if i = 9 then 99 else if i = 10 then 9 else if i = 11 then 99 else 0) else 0
def okd (d : Nat → Int → Int) : Prop := ∀ k i, lod k i ≤ d k i ∧ d k i ≤ hid k i
theorem okd_0 {d} (h : okd d) (i : Int) : 0 ≤ d 0 i ∧ d 0 i ≤ 9 := h 0 i
theorem okd_1 {d} (h : okd d) (i : Int) : 0 ≤ d 1 i ∧ d 1 i ≤ 9 := h 1 i
theorem okd_2 {d} (h : okd d) (i : Int) : 0 ≤ d 2 i ∧ d 2 i ≤ 1 := h 2 i
theorem okd_3 {d} (h : okd d) (i : Int) : -6 ≤ d 3 i ∧ d 3 i ≤ 9 := h 3 i
theorem okd_4 {d} (h : okd d) {i : Int} (h0 : 0 ≤ i) (h1 : i < 10) : 0 ≤ d 4 i ∧ d 4 i ≤ 9 := by
  have := h 4 i
  unfold lod hid at this
  rw [if_neg (by decide), if_pos rfl, if_neg (by omega), if_neg (by decide), if_neg (by decide), if_neg (by decide), if_neg (by decide), if_pos rfl, if_pos h1] at this
  exact this
theorem okd_5 {d} (h : okd d) (i : Int) : 0 ≤ d 5 i ∧ d 5 i ≤ 40 := h 5 i
theorem okd_6 {d} (h : okd d) (i : Int) : 0 ≤ d 6 i ∧ d 6 i ≤ 9 := h 6 i
theorem okd_s {d} (h : okd d) : 0 ≤ d 99 7 ∧ d 99 7 ≤ 8 := h 99 7
theorem okd_p {d} (h : okd d) : 0 ≤ d 99 8 ∧ d 99 8 ≤ 10 := h 99 8
theorem okd_h {d} (h : okd d) : 0 ≤ d 99 9 ∧ d 99 9 ≤ 99 := h 99 9
theorem okd_t {d} (h : okd d) : 0 ≤ d 99 10 ∧ d 99 10 ≤ 9 := h 99 10
theorem okd_m {d} (h : okd d) : 0 ≤ d 99 11 ∧ d 99 11 ≤ 99 := h 99 11
theorem okd_ud {d : Nat → Int → Int} (h : okd d) {k : Nat} {i v : Int} (h1 : lod k i ≤ v) (h2 : v ≤ hid k i) : okd (ud d k i v) := by
  intro a b
  unfold ud
  split
  · next z => obtain ⟨rfl, rfl⟩ := z; exact ⟨h1, h2⟩
  · exact h a b
theorem x_within {x a b : Int} (h1 : -2147483648 ≤ x) (h2 : x < 2147483648) (h3 : -2147483648 ≤ a) (h4 : a < 2147483648) (h5 : -2147483648 ≤ b) (h6 : b < 2147483648) : f_X6_within (zI x) (zI a) (zI b) = some (zI (if a ≤ x ∧ x ≤ b then 1 else 0)) := by
  unfold f_X6_within
  simp (disch := omega) only [s_T, s_F, s_bd, s_cl, s_rd, s_wr, s_ite, z_ite, z_neg, z_add, z_sub, z_mul, z_le, z_lt, z_eq, eC_at, eC_7, eC_8, eC_9, eC_10, eC_11, eC_p7, eC_p8, eC_p9, eC_p10, eC_p11, eC_up, ud_same, ud_ne, z_0, z_1, z_2, z_3, z_4, z_5, z_6, z_7, z_8, z_9, z_10, z_11, z_12, z_13, z_14, z_15, z_16, z_17, z_18, z_19, z_20, z_21, z_22, z_23, z_24, z_25, z_26, z_27, z_28, z_29, z_30, z_31, z_32, z_33, z_34, z_35, z_36, z_37, z_38, z_39, z_40, z_41, z_42, z_43, z_44, z_45, z_46, z_47, z_48, z_49, z_50, z_51, z_52, z_53, z_54, z_55, z_56, z_57, z_58, z_59, z_60, z_61, z_62, z_63, z_64, z_65, z_66, z_67, z_68, z_69, z_70, z_71, z_72, z_73, z_74, z_75, z_76, z_77, z_78, z_79, z_80, z_81, z_82, z_83, z_84, z_85, z_86, z_87, z_88, z_89, z_90, z_91, z_92, z_93, z_94, z_95, z_96, z_97, z_98, z_99, z_100, z_101, z_102, z_103, z_104, z_105, z_106, z_107, z_108, z_109, z_110, z_111, z_112, z_113, z_114, z_115, z_116, z_117, z_118, z_119, z_120, z_121, z_122, z_123, z_124, z_125, z_126, z_127, z_199, z_200, z_360, z_410, z_1000, z_1023, z_1024, z_1219, z_9999, z_10240, z_65537]
  split
  · rw [if_neg (by omega)]
  · split
    · rw [if_neg (by omega)]
    · rw [if_pos (by omega)]
theorem x_isPlace {x : Int} (h1 : -2147483648 ≤ x) (h2 : x < 2147483648) : f_X6_isPlace (zI x) = some (zI (if 0 ≤ x ∧ x ≤ 10 then 1 else 0)) := by
  unfold f_X6_isPlace
  simp (disch := omega) only [s_T, s_F, s_bd, s_cl, s_rd, s_wr, s_ite, z_ite, z_neg, z_add, z_sub, z_mul, z_le, z_lt, z_eq, eC_at, eC_7, eC_8, eC_9, eC_10, eC_11, eC_p7, eC_p8, eC_p9, eC_p10, eC_p11, eC_up, ud_same, ud_ne, z_0, z_1, z_2, z_3, z_4, z_5, z_6, z_7, z_8, z_9, z_10, z_11, z_12, z_13, z_14, z_15, z_16, z_17, z_18, z_19, z_20, z_21, z_22, z_23, z_24, z_25, z_26, z_27, z_28, z_29, z_30, z_31, z_32, z_33, z_34, z_35, z_36, z_37, z_38, z_39, z_40, z_41, z_42, z_43, z_44, z_45, z_46, z_47, z_48, z_49, z_50, z_51, z_52, z_53, z_54, z_55, z_56, z_57, z_58, z_59, z_60, z_61, z_62, z_63, z_64, z_65, z_66, z_67, z_68, z_69, z_70, z_71, z_72, z_73, z_74, z_75, z_76, z_77, z_78, z_79, z_80, z_81, z_82, z_83, z_84, z_85, z_86, z_87, z_88, z_89, z_90, z_91, z_92, z_93, z_94, z_95, z_96, z_97, z_98, z_99, z_100, z_101, z_102, z_103, z_104, z_105, z_106, z_107, z_108, z_109, z_110, z_111, z_112, z_113, z_114, z_115, z_116, z_117, z_118, z_119, z_120, z_121, z_122, z_123, z_124, z_125, z_126, z_127, z_199, z_200, z_360, z_410, z_1000, z_1023, z_1024, z_1219, z_9999, z_10240, z_65537]
  split
  · rw [if_neg (by omega)]
  · split
    · rw [if_neg (by omega)]
    · rw [if_pos (by omega)]
theorem x_isHouse {x : Int} (h1 : -2147483648 ≤ x) (h2 : x < 2147483648) : f_X6_isHouse (zI x) = some (zI (if 0 ≤ x ∧ x ≤ 9 then 1 else 0)) := by
  unfold f_X6_isHouse
  simp (disch := omega) only [s_T, s_F, s_bd, s_cl, s_rd, s_wr, s_ite, z_ite, z_neg, z_add, z_sub, z_mul, z_le, z_lt, z_eq, eC_at, eC_7, eC_8, eC_9, eC_10, eC_11, eC_p7, eC_p8, eC_p9, eC_p10, eC_p11, eC_up, ud_same, ud_ne, z_0, z_1, z_2, z_3, z_4, z_5, z_6, z_7, z_8, z_9, z_10, z_11, z_12, z_13, z_14, z_15, z_16, z_17, z_18, z_19, z_20, z_21, z_22, z_23, z_24, z_25, z_26, z_27, z_28, z_29, z_30, z_31, z_32, z_33, z_34, z_35, z_36, z_37, z_38, z_39, z_40, z_41, z_42, z_43, z_44, z_45, z_46, z_47, z_48, z_49, z_50, z_51, z_52, z_53, z_54, z_55, z_56, z_57, z_58, z_59, z_60, z_61, z_62, z_63, z_64, z_65, z_66, z_67, z_68, z_69, z_70, z_71, z_72, z_73, z_74, z_75, z_76, z_77, z_78, z_79, z_80, z_81, z_82, z_83, z_84, z_85, z_86, z_87, z_88, z_89, z_90, z_91, z_92, z_93, z_94, z_95, z_96, z_97, z_98, z_99, z_100, z_101, z_102, z_103, z_104, z_105, z_106, z_107, z_108, z_109, z_110, z_111, z_112, z_113, z_114, z_115, z_116, z_117, z_118, z_119, z_120, z_121, z_122, z_123, z_124, z_125, z_126, z_127, z_199, z_200, z_360, z_410, z_1000, z_1023, z_1024, z_1219, z_9999, z_10240, z_65537]
  split
  · rw [if_neg (by omega)]
  · split
    · rw [if_neg (by omega)]
    · rw [if_pos (by omega)]
theorem x_isTale {x : Int} (h1 : -2147483648 ≤ x) (h2 : x < 2147483648) : f_X6_isTale (zI x) = some (zI (if 0 ≤ x ∧ x ≤ 9 then 1 else 0)) := by
  unfold f_X6_isTale
  simp (disch := omega) only [s_T, s_F, s_bd, s_cl, s_rd, s_wr, s_ite, z_ite, z_neg, z_add, z_sub, z_mul, z_le, z_lt, z_eq, eC_at, eC_7, eC_8, eC_9, eC_10, eC_11, eC_p7, eC_p8, eC_p9, eC_p10, eC_p11, eC_up, ud_same, ud_ne, z_0, z_1, z_2, z_3, z_4, z_5, z_6, z_7, z_8, z_9, z_10, z_11, z_12, z_13, z_14, z_15, z_16, z_17, z_18, z_19, z_20, z_21, z_22, z_23, z_24, z_25, z_26, z_27, z_28, z_29, z_30, z_31, z_32, z_33, z_34, z_35, z_36, z_37, z_38, z_39, z_40, z_41, z_42, z_43, z_44, z_45, z_46, z_47, z_48, z_49, z_50, z_51, z_52, z_53, z_54, z_55, z_56, z_57, z_58, z_59, z_60, z_61, z_62, z_63, z_64, z_65, z_66, z_67, z_68, z_69, z_70, z_71, z_72, z_73, z_74, z_75, z_76, z_77, z_78, z_79, z_80, z_81, z_82, z_83, z_84, z_85, z_86, z_87, z_88, z_89, z_90, z_91, z_92, z_93, z_94, z_95, z_96, z_97, z_98, z_99, z_100, z_101, z_102, z_103, z_104, z_105, z_106, z_107, z_108, z_109, z_110, z_111, z_112, z_113, z_114, z_115, z_116, z_117, z_118, z_119, z_120, z_121, z_122, z_123, z_124, z_125, z_126, z_127, z_199, z_200, z_360, z_410, z_1000, z_1023, z_1024, z_1219, z_9999, z_10240, z_65537]
  split
  · rw [if_neg (by omega)]
  · split
    · rw [if_neg (by omega)]
    · rw [if_pos (by omega)]
theorem x_longBetween (d : Nat → Int → Int) {a b : Int} (ha : 0 ≤ a) (ha' : a ≤ 10) (hb : 0 ≤ b) (hb' : b ≤ 10) : f_X1_longBetween (eC d) (zI a) (zI b) = some (zI (d 0 (a * 11 + b))) := by
  unfold f_X1_longBetween
  simp (disch := omega) only [x_isPlace, s_T, s_F, s_bd, s_cl, s_rd, s_wr, s_ite, z_ite, z_neg, z_add, z_sub, z_mul, z_le, z_lt, z_eq, eC_at, eC_7, eC_8, eC_9, eC_10, eC_11, eC_p7, eC_p8, eC_p9, eC_p10, eC_p11, eC_up, ud_same, ud_ne, if_pos, if_neg, z_0, z_1, z_2, z_3, z_4, z_5, z_6, z_7, z_8, z_9, z_10, z_11, z_12, z_13, z_14, z_15, z_16, z_17, z_18, z_19, z_20, z_21, z_22, z_23, z_24, z_25, z_26, z_27, z_28, z_29, z_30, z_31, z_32, z_33, z_34, z_35, z_36, z_37, z_38, z_39, z_40, z_41, z_42, z_43, z_44, z_45, z_46, z_47, z_48, z_49, z_50, z_51, z_52, z_53, z_54, z_55, z_56, z_57, z_58, z_59, z_60, z_61, z_62, z_63, z_64, z_65, z_66, z_67, z_68, z_69, z_70, z_71, z_72, z_73, z_74, z_75, z_76, z_77, z_78, z_79, z_80, z_81, z_82, z_83, z_84, z_85, z_86, z_87, z_88, z_89, z_90, z_91, z_92, z_93, z_94, z_95, z_96, z_97, z_98, z_99, z_100, z_101, z_102, z_103, z_104, z_105, z_106, z_107, z_108, z_109, z_110, z_111, z_112, z_113, z_114, z_115, z_116, z_117, z_118, z_119, z_120, z_121, z_122, z_123, z_124, z_125, z_126, z_127, z_199, z_200, z_360, z_410, z_1000, z_1023, z_1024, z_1219, z_9999, z_10240, z_65537]
theorem x_layRoad (d : Nat → Int → Int) {a b v : Int} (ha : 0 ≤ a) (ha' : a ≤ 10) (hb : 0 ≤ b) (hb' : b ≤ 10) : f_X1_layRoad (eC d) (zI a) (zI b) (zI v) = some (eC (ud (ud d 0 (a * 11 + b) v) 0 (b * 11 + a) v)) := by
  unfold f_X1_layRoad
  simp (disch := omega) only [x_isPlace, s_T, s_F, s_bd, s_cl, s_rd, s_wr, s_ite, z_ite, z_neg, z_add, z_sub, z_mul, z_le, z_lt, z_eq, eC_at, eC_7, eC_8, eC_9, eC_10, eC_11, eC_p7, eC_p8, eC_p9, eC_p10, eC_p11, eC_up, ud_same, ud_ne, if_pos, if_neg, z_0, z_1, z_2, z_3, z_4, z_5, z_6, z_7, z_8, z_9, z_10, z_11, z_12, z_13, z_14, z_15, z_16, z_17, z_18, z_19, z_20, z_21, z_22, z_23, z_24, z_25, z_26, z_27, z_28, z_29, z_30, z_31, z_32, z_33, z_34, z_35, z_36, z_37, z_38, z_39, z_40, z_41, z_42, z_43, z_44, z_45, z_46, z_47, z_48, z_49, z_50, z_51, z_52, z_53, z_54, z_55, z_56, z_57, z_58, z_59, z_60, z_61, z_62, z_63, z_64, z_65, z_66, z_67, z_68, z_69, z_70, z_71, z_72, z_73, z_74, z_75, z_76, z_77, z_78, z_79, z_80, z_81, z_82, z_83, z_84, z_85, z_86, z_87, z_88, z_89, z_90, z_91, z_92, z_93, z_94, z_95, z_96, z_97, z_98, z_99, z_100, z_101, z_102, z_103, z_104, z_105, z_106, z_107, z_108, z_109, z_110, z_111, z_112, z_113, z_114, z_115, z_116, z_117, z_118, z_119, z_120, z_121, z_122, z_123, z_124, z_125, z_126, z_127, z_199, z_200, z_360, z_410, z_1000, z_1023, z_1024, z_1219, z_9999, z_10240, z_65537]
theorem x_doubtOf (d : Nat → Int → Int) {a : Int} (ha : 0 ≤ a) (ha' : a ≤ 9) : f_X1_doubtOf (eC d) (zI a) = some (zI (d 1 a)) := by
  unfold f_X1_doubtOf
  simp (disch := omega) only [x_isHouse, s_T, s_F, s_bd, s_cl, s_rd, s_wr, s_ite, z_ite, z_neg, z_add, z_sub, z_mul, z_le, z_lt, z_eq, eC_at, eC_7, eC_8, eC_9, eC_10, eC_11, eC_p7, eC_p8, eC_p9, eC_p10, eC_p11, eC_up, ud_same, ud_ne, if_pos, if_neg, z_0, z_1, z_2, z_3, z_4, z_5, z_6, z_7, z_8, z_9, z_10, z_11, z_12, z_13, z_14, z_15, z_16, z_17, z_18, z_19, z_20, z_21, z_22, z_23, z_24, z_25, z_26, z_27, z_28, z_29, z_30, z_31, z_32, z_33, z_34, z_35, z_36, z_37, z_38, z_39, z_40, z_41, z_42, z_43, z_44, z_45, z_46, z_47, z_48, z_49, z_50, z_51, z_52, z_53, z_54, z_55, z_56, z_57, z_58, z_59, z_60, z_61, z_62, z_63, z_64, z_65, z_66, z_67, z_68, z_69, z_70, z_71, z_72, z_73, z_74, z_75, z_76, z_77, z_78, z_79, z_80, z_81, z_82, z_83, z_84, z_85, z_86, z_87, z_88, z_89, z_90, z_91, z_92, z_93, z_94, z_95, z_96, z_97, z_98, z_99, z_100, z_101, z_102, z_103, z_104, z_105, z_106, z_107, z_108, z_109, z_110, z_111, z_112, z_113, z_114, z_115, z_116, z_117, z_118, z_119, z_120, z_121, z_122, z_123, z_124, z_125, z_126, z_127, z_199, z_200, z_360, z_410, z_1000, z_1023, z_1024, z_1219, z_9999, z_10240, z_65537]
theorem x_isDamp (d : Nat → Int → Int) (hd : okd d) {a : Int} (ha : 0 ≤ a) (ha' : a ≤ 9) : f_X1_isDamp (eC d) (zI a) = some (zI (d 2 a)) := by
  unfold f_X1_isDamp
  have := okd_2 hd a
  simp (disch := omega) only [x_isHouse, s_T, s_F, s_bd, s_cl, s_rd, s_wr, s_ite, z_ite, z_neg, z_add, z_sub, z_mul, z_le, z_lt, z_eq, eC_at, eC_7, eC_8, eC_9, eC_10, eC_11, eC_p7, eC_p8, eC_p9, eC_p10, eC_p11, eC_up, ud_same, ud_ne, if_pos, if_neg, z_0, z_1, z_2, z_3, z_4, z_5, z_6, z_7, z_8, z_9, z_10, z_11, z_12, z_13, z_14, z_15, z_16, z_17, z_18, z_19, z_20, z_21, z_22, z_23, z_24, z_25, z_26, z_27, z_28, z_29, z_30, z_31, z_32, z_33, z_34, z_35, z_36, z_37, z_38, z_39, z_40, z_41, z_42, z_43, z_44, z_45, z_46, z_47, z_48, z_49, z_50, z_51, z_52, z_53, z_54, z_55, z_56, z_57, z_58, z_59, z_60, z_61, z_62, z_63, z_64, z_65, z_66, z_67, z_68, z_69, z_70, z_71, z_72, z_73, z_74, z_75, z_76, z_77, z_78, z_79, z_80, z_81, z_82, z_83, z_84, z_85, z_86, z_87, z_88, z_89, z_90, z_91, z_92, z_93, z_94, z_95, z_96, z_97, z_98, z_99, z_100, z_101, z_102, z_103, z_104, z_105, z_106, z_107, z_108, z_109, z_110, z_111, z_112, z_113, z_114, z_115, z_116, z_117, z_118, z_119, z_120, z_121, z_122, z_123, z_124, z_125, z_126, z_127, z_199, z_200, z_360, z_410, z_1000, z_1023, z_1024, z_1219, z_9999, z_10240, z_65537]
  split
  · congr 2; omega
  · congr 2; omega
theorem x_beliefOf (d : Nat → Int → Int) {a : Int} (ha : 0 ≤ a) (ha' : a ≤ 9) : f_X1_beliefOf (eC d) (zI a) = some (zI (d 3 a)) := by
  unfold f_X1_beliefOf
  simp (disch := omega) only [x_isHouse, s_T, s_F, s_bd, s_cl, s_rd, s_wr, s_ite, z_ite, z_neg, z_add, z_sub, z_mul, z_le, z_lt, z_eq, eC_at, eC_7, eC_8, eC_9, eC_10, eC_11, eC_p7, eC_p8, eC_p9, eC_p10, eC_p11, eC_up, ud_same, ud_ne, if_pos, if_neg, z_0, z_1, z_2, z_3, z_4, z_5, z_6, z_7, z_8, z_9, z_10, z_11, z_12, z_13, z_14, z_15, z_16, z_17, z_18, z_19, z_20, z_21, z_22, z_23, z_24, z_25, z_26, z_27, z_28, z_29, z_30, z_31, z_32, z_33, z_34, z_35, z_36, z_37, z_38, z_39, z_40, z_41, z_42, z_43, z_44, z_45, z_46, z_47, z_48, z_49, z_50, z_51, z_52, z_53, z_54, z_55, z_56, z_57, z_58, z_59, z_60, z_61, z_62, z_63, z_64, z_65, z_66, z_67, z_68, z_69, z_70, z_71, z_72, z_73, z_74, z_75, z_76, z_77, z_78, z_79, z_80, z_81, z_82, z_83, z_84, z_85, z_86, z_87, z_88, z_89, z_90, z_91, z_92, z_93, z_94, z_95, z_96, z_97, z_98, z_99, z_100, z_101, z_102, z_103, z_104, z_105, z_106, z_107, z_108, z_109, z_110, z_111, z_112, z_113, z_114, z_115, z_116, z_117, z_118, z_119, z_120, z_121, z_122, z_123, z_124, z_125, z_126, z_127, z_199, z_200, z_360, z_410, z_1000, z_1023, z_1024, z_1219, z_9999, z_10240, z_65537]
theorem x_beliefOf_n (d : Nat → Int → Int) {a : Int} (h1 : -2147483648 ≤ a) (h2 : a < 2147483648) (h : a < 0 ∨ 9 < a) : f_X1_beliefOf (eC d) (zI a) = some (zI (-6)) := by
  unfold f_X1_beliefOf
  simp (disch := omega) only [x_isHouse, s_T, s_F, s_bd, s_cl, s_rd, s_wr, s_ite, z_ite, z_neg, z_add, z_sub, z_mul, z_le, z_lt, z_eq, eC_at, eC_7, eC_8, eC_9, eC_10, eC_11, eC_p7, eC_p8, eC_p9, eC_p10, eC_p11, eC_up, ud_same, ud_ne, if_pos, if_neg, z_0, z_1, z_2, z_3, z_4, z_5, z_6, z_7, z_8, z_9, z_10, z_11, z_12, z_13, z_14, z_15, z_16, z_17, z_18, z_19, z_20, z_21, z_22, z_23, z_24, z_25, z_26, z_27, z_28, z_29, z_30, z_31, z_32, z_33, z_34, z_35, z_36, z_37, z_38, z_39, z_40, z_41, z_42, z_43, z_44, z_45, z_46, z_47, z_48, z_49, z_50, z_51, z_52, z_53, z_54, z_55, z_56, z_57, z_58, z_59, z_60, z_61, z_62, z_63, z_64, z_65, z_66, z_67, z_68, z_69, z_70, z_71, z_72, z_73, z_74, z_75, z_76, z_77, z_78, z_79, z_80, z_81, z_82, z_83, z_84, z_85, z_86, z_87, z_88, z_89, z_90, z_91, z_92, z_93, z_94, z_95, z_96, z_97, z_98, z_99, z_100, z_101, z_102, z_103, z_104, z_105, z_106, z_107, z_108, z_109, z_110, z_111, z_112, z_113, z_114, z_115, z_116, z_117, z_118, z_119, z_120, z_121, z_122, z_123, z_124, z_125, z_126, z_127, z_199, z_200, z_360, z_410, z_1000, z_1023, z_1024, z_1219, z_9999, z_10240, z_65537]
theorem x_furnish (d : Nat → Int → Int) {a v w : Int} (ha : 0 ≤ a) (ha' : a ≤ 9) : f_X1_furnish (eC d) (zI a) (zI v) (zI w) = some (eC (ud (ud d 1 a v) 2 a w)) := by
  unfold f_X1_furnish
  simp (disch := omega) only [x_isHouse, s_T, s_F, s_bd, s_cl, s_rd, s_wr, s_ite, z_ite, z_neg, z_add, z_sub, z_mul, z_le, z_lt, z_eq, eC_at, eC_7, eC_8, eC_9, eC_10, eC_11, eC_p7, eC_p8, eC_p9, eC_p10, eC_p11, eC_up, ud_same, ud_ne, if_pos, if_neg, z_0, z_1, z_2, z_3, z_4, z_5, z_6, z_7, z_8, z_9, z_10, z_11, z_12, z_13, z_14, z_15, z_16, z_17, z_18, z_19, z_20, z_21, z_22, z_23, z_24, z_25, z_26, z_27, z_28, z_29, z_30, z_31, z_32, z_33, z_34, z_35, z_36, z_37, z_38, z_39, z_40, z_41, z_42, z_43, z_44, z_45, z_46, z_47, z_48, z_49, z_50, z_51, z_52, z_53, z_54, z_55, z_56, z_57, z_58, z_59, z_60, z_61, z_62, z_63, z_64, z_65, z_66, z_67, z_68, z_69, z_70, z_71, z_72, z_73, z_74, z_75, z_76, z_77, z_78, z_79, z_80, z_81, z_82, z_83, z_84, z_85, z_86, z_87, z_88, z_89, z_90, z_91, z_92, z_93, z_94, z_95, z_96, z_97, z_98, z_99, z_100, z_101, z_102, z_103, z_104, z_105, z_106, z_107, z_108, z_109, z_110, z_111, z_112, z_113, z_114, z_115, z_116, z_117, z_118, z_119, z_120, z_121, z_122, z_123, z_124, z_125, z_126, z_127, z_199, z_200, z_360, z_410, z_1000, z_1023, z_1024, z_1219, z_9999, z_10240, z_65537]
theorem x_convince (d : Nat → Int → Int) {a v : Int} (ha : 0 ≤ a) (ha' : a ≤ 9) : f_X1_convince (eC d) (zI a) (zI v) = some (eC (ud d 3 a v)) := by
  unfold f_X1_convince
  simp (disch := omega) only [x_isHouse, s_T, s_F, s_bd, s_cl, s_rd, s_wr, s_ite, z_ite, z_neg, z_add, z_sub, z_mul, z_le, z_lt, z_eq, eC_at, eC_7, eC_8, eC_9, eC_10, eC_11, eC_p7, eC_p8, eC_p9, eC_p10, eC_p11, eC_up, ud_same, ud_ne, if_pos, if_neg, z_0, z_1, z_2, z_3, z_4, z_5, z_6, z_7, z_8, z_9, z_10, z_11, z_12, z_13, z_14, z_15, z_16, z_17, z_18, z_19, z_20, z_21, z_22, z_23, z_24, z_25, z_26, z_27, z_28, z_29, z_30, z_31, z_32, z_33, z_34, z_35, z_36, z_37, z_38, z_39, z_40, z_41, z_42, z_43, z_44, z_45, z_46, z_47, z_48, z_49, z_50, z_51, z_52, z_53, z_54, z_55, z_56, z_57, z_58, z_59, z_60, z_61, z_62, z_63, z_64, z_65, z_66, z_67, z_68, z_69, z_70, z_71, z_72, z_73, z_74, z_75, z_76, z_77, z_78, z_79, z_80, z_81, z_82, z_83, z_84, z_85, z_86, z_87, z_88, z_89, z_90, z_91, z_92, z_93, z_94, z_95, z_96, z_97, z_98, z_99, z_100, z_101, z_102, z_103, z_104, z_105, z_106, z_107, z_108, z_109, z_110, z_111, z_112, z_113, z_114, z_115, z_116, z_117, z_118, z_119, z_120, z_121, z_122, z_123, z_124, z_125, z_126, z_127, z_199, z_200, z_360, z_410, z_1000, z_1023, z_1024, z_1219, z_9999, z_10240, z_65537]
theorem x_fadesInto (d : Nat → Int → Int) {a : Int} (ha : 0 ≤ a) (ha' : a ≤ 9) : f_X1_fadesInto (eC d) (zI a) = some (zI (d 4 a)) := by
  unfold f_X1_fadesInto
  simp (disch := omega) only [x_isTale, s_T, s_F, s_bd, s_cl, s_rd, s_wr, s_ite, z_ite, z_neg, z_add, z_sub, z_mul, z_le, z_lt, z_eq, eC_at, eC_7, eC_8, eC_9, eC_10, eC_11, eC_p7, eC_p8, eC_p9, eC_p10, eC_p11, eC_up, ud_same, ud_ne, if_pos, if_neg, z_0, z_1, z_2, z_3, z_4, z_5, z_6, z_7, z_8, z_9, z_10, z_11, z_12, z_13, z_14, z_15, z_16, z_17, z_18, z_19, z_20, z_21, z_22, z_23, z_24, z_25, z_26, z_27, z_28, z_29, z_30, z_31, z_32, z_33, z_34, z_35, z_36, z_37, z_38, z_39, z_40, z_41, z_42, z_43, z_44, z_45, z_46, z_47, z_48, z_49, z_50, z_51, z_52, z_53, z_54, z_55, z_56, z_57, z_58, z_59, z_60, z_61, z_62, z_63, z_64, z_65, z_66, z_67, z_68, z_69, z_70, z_71, z_72, z_73, z_74, z_75, z_76, z_77, z_78, z_79, z_80, z_81, z_82, z_83, z_84, z_85, z_86, z_87, z_88, z_89, z_90, z_91, z_92, z_93, z_94, z_95, z_96, z_97, z_98, z_99, z_100, z_101, z_102, z_103, z_104, z_105, z_106, z_107, z_108, z_109, z_110, z_111, z_112, z_113, z_114, z_115, z_116, z_117, z_118, z_119, z_120, z_121, z_122, z_123, z_124, z_125, z_126, z_127, z_199, z_200, z_360, z_410, z_1000, z_1023, z_1024, z_1219, z_9999, z_10240, z_65537]
theorem x_letFade (d : Nat → Int → Int) {a v : Int} (ha : 0 ≤ a) (ha' : a ≤ 9) : f_X1_letFade (eC d) (zI a) (zI v) = some (eC (ud d 4 a v)) := by
  unfold f_X1_letFade
  simp (disch := omega) only [x_isTale, s_T, s_F, s_bd, s_cl, s_rd, s_wr, s_ite, z_ite, z_neg, z_add, z_sub, z_mul, z_le, z_lt, z_eq, eC_at, eC_7, eC_8, eC_9, eC_10, eC_11, eC_p7, eC_p8, eC_p9, eC_p10, eC_p11, eC_up, ud_same, ud_ne, if_pos, if_neg, z_0, z_1, z_2, z_3, z_4, z_5, z_6, z_7, z_8, z_9, z_10, z_11, z_12, z_13, z_14, z_15, z_16, z_17, z_18, z_19, z_20, z_21, z_22, z_23, z_24, z_25, z_26, z_27, z_28, z_29, z_30, z_31, z_32, z_33, z_34, z_35, z_36, z_37, z_38, z_39, z_40, z_41, z_42, z_43, z_44, z_45, z_46, z_47, z_48, z_49, z_50, z_51, z_52, z_53, z_54, z_55, z_56, z_57, z_58, z_59, z_60, z_61, z_62, z_63, z_64, z_65, z_66, z_67, z_68, z_69, z_70, z_71, z_72, z_73, z_74, z_75, z_76, z_77, z_78, z_79, z_80, z_81, z_82, z_83, z_84, z_85, z_86, z_87, z_88, z_89, z_90, z_91, z_92, z_93, z_94, z_95, z_96, z_97, z_98, z_99, z_100, z_101, z_102, z_103, z_104, z_105, z_106, z_107, z_108, z_109, z_110, z_111, z_112, z_113, z_114, z_115, z_116, z_117, z_118, z_119, z_120, z_121, z_122, z_123, z_124, z_125, z_126, z_127, z_199, z_200, z_360, z_410, z_1000, z_1023, z_1024, z_1219, z_9999, z_10240, z_65537]
def hFact (d : Nat → Int → Int) (a w : Int) : Int := if w = 0 then d 3 a else if w = 1 then d 1 a else d 2 a
theorem x_houseFact (d : Nat → Int → Int) (hd : okd d) {a w : Int} (ha : 0 ≤ a) (ha' : a ≤ 9) (h1 : -2147483648 ≤ w) (h2 : w < 2147483648) : f_X1_houseFact (eC d) (zI a) (zI w) = some (zI (hFact d a w)) := by
  unfold f_X1_houseFact hFact
  have := okd_2 hd a
  simp (disch := omega) only [x_beliefOf, x_doubtOf, x_isDamp, s_T, s_F, s_bd, s_cl, s_rd, s_wr, s_ite, z_ite, z_neg, z_add, z_sub, z_mul, z_le, z_lt, z_eq, eC_at, eC_7, eC_8, eC_9, eC_10, eC_11, eC_p7, eC_p8, eC_p9, eC_p10, eC_p11, eC_up, ud_same, ud_ne, z_0, z_1, z_2, z_3, z_4, z_5, z_6, z_7, z_8, z_9, z_10, z_11, z_12, z_13, z_14, z_15, z_16, z_17, z_18, z_19, z_20, z_21, z_22, z_23, z_24, z_25, z_26, z_27, z_28, z_29, z_30, z_31, z_32, z_33, z_34, z_35, z_36, z_37, z_38, z_39, z_40, z_41, z_42, z_43, z_44, z_45, z_46, z_47, z_48, z_49, z_50, z_51, z_52, z_53, z_54, z_55, z_56, z_57, z_58, z_59, z_60, z_61, z_62, z_63, z_64, z_65, z_66, z_67, z_68, z_69, z_70, z_71, z_72, z_73, z_74, z_75, z_76, z_77, z_78, z_79, z_80, z_81, z_82, z_83, z_84, z_85, z_86, z_87, z_88, z_89, z_90, z_91, z_92, z_93, z_94, z_95, z_96, z_97, z_98, z_99, z_100, z_101, z_102, z_103, z_104, z_105, z_106, z_107, z_108, z_109, z_110, z_111, z_112, z_113, z_114, z_115, z_116, z_117, z_118, z_119, z_120, z_121, z_122, z_123, z_124, z_125, z_126, z_127, z_199, z_200, z_360, z_410, z_1000, z_1023, z_1024, z_1219, z_9999, z_10240, z_65537]
  split
  · rfl
  · split
    · rfl
    · split
      · congr 2; omega
      · congr 2; omega
def pFact (d : Nat → Int → Int) (w : Int) : Int := if w = 0 then d 99 8 else if w = 1 then d 99 9 else if w = 2 then d 99 10 else d 99 11
theorem x_panFact (d : Nat → Int → Int) {w : Int} (h1 : -2147483648 ≤ w) (h2 : w < 2147483648) : f_X1_panFact (eC d) (zI w) = some (zI (pFact d w)) := by
  unfold f_X1_panFact pFact
  simp (disch := omega) only [s_T, s_F, s_bd, s_cl, s_rd, s_wr, s_ite, z_ite, z_neg, z_add, z_sub, z_mul, z_le, z_lt, z_eq, eC_at, eC_7, eC_8, eC_9, eC_10, eC_11, eC_p7, eC_p8, eC_p9, eC_p10, eC_p11, eC_up, ud_same, ud_ne, z_0, z_1, z_2, z_3, z_4, z_5, z_6, z_7, z_8, z_9, z_10, z_11, z_12, z_13, z_14, z_15, z_16, z_17, z_18, z_19, z_20, z_21, z_22, z_23, z_24, z_25, z_26, z_27, z_28, z_29, z_30, z_31, z_32, z_33, z_34, z_35, z_36, z_37, z_38, z_39, z_40, z_41, z_42, z_43, z_44, z_45, z_46, z_47, z_48, z_49, z_50, z_51, z_52, z_53, z_54, z_55, z_56, z_57, z_58, z_59, z_60, z_61, z_62, z_63, z_64, z_65, z_66, z_67, z_68, z_69, z_70, z_71, z_72, z_73, z_74, z_75, z_76, z_77, z_78, z_79, z_80, z_81, z_82, z_83, z_84, z_85, z_86, z_87, z_88, z_89, z_90, z_91, z_92, z_93, z_94, z_95, z_96, z_97, z_98, z_99, z_100, z_101, z_102, z_103, z_104, z_105, z_106, z_107, z_108, z_109, z_110, z_111, z_112, z_113, z_114, z_115, z_116, z_117, z_118, z_119, z_120, z_121, z_122, z_123, z_124, z_125, z_126, z_127, z_199, z_200, z_360, z_410, z_1000, z_1023, z_1024, z_1219, z_9999, z_10240, z_65537]
theorem x_isConvinced (d : Nat → Int → Int) (hd : okd d) {a w : Int} (ha : 0 ≤ a) (ha' : a ≤ 9) (h1 : -2147483648 ≤ w) (h2 : w < 2147483648) : f_X1_isConvinced (eC d) (zI a) (zI w) = some (zI (if 9 * d 1 a < w then 1 else 0)) := by
  unfold f_X1_isConvinced
  have := okd_1 hd a
  simp (disch := omega) only [x_isHouse, s_T, s_F, s_bd, s_cl, s_rd, s_wr, s_ite, z_ite, z_neg, z_add, z_sub, z_mul, z_le, z_lt, z_eq, eC_at, eC_7, eC_8, eC_9, eC_10, eC_11, eC_p7, eC_p8, eC_p9, eC_p10, eC_p11, eC_up, ud_same, ud_ne, if_pos, if_neg, z_0, z_1, z_2, z_3, z_4, z_5, z_6, z_7, z_8, z_9, z_10, z_11, z_12, z_13, z_14, z_15, z_16, z_17, z_18, z_19, z_20, z_21, z_22, z_23, z_24, z_25, z_26, z_27, z_28, z_29, z_30, z_31, z_32, z_33, z_34, z_35, z_36, z_37, z_38, z_39, z_40, z_41, z_42, z_43, z_44, z_45, z_46, z_47, z_48, z_49, z_50, z_51, z_52, z_53, z_54, z_55, z_56, z_57, z_58, z_59, z_60, z_61, z_62, z_63, z_64, z_65, z_66, z_67, z_68, z_69, z_70, z_71, z_72, z_73, z_74, z_75, z_76, z_77, z_78, z_79, z_80, z_81, z_82, z_83, z_84, z_85, z_86, z_87, z_88, z_89, z_90, z_91, z_92, z_93, z_94, z_95, z_96, z_97, z_98, z_99, z_100, z_101, z_102, z_103, z_104, z_105, z_106, z_107, z_108, z_109, z_110, z_111, z_112, z_113, z_114, z_115, z_116, z_117, z_118, z_119, z_120, z_121, z_122, z_123, z_124, z_125, z_126, z_127, z_199, z_200, z_360, z_410, z_1000, z_1023, z_1024, z_1219, z_9999, z_10240, z_65537]
  congr 2
  split
  · rw [if_neg (by omega)]
  · rw [if_pos (by omega)]
def rsn (d : Nat → Int → Int) (k w : Int) : Int :=
  if k = 0 then (if d 99 8 = 10 then 0 else 1)
  else if k = 1 then (if d 0 (d 99 8 * 11 + w) ≤ 0 then 2 else 0)
  else if k = 2 then (if d 99 8 = 10 then 1 else if d 99 9 ≤ 0 then 3 else 0)
  else if k = 3 then (if d 99 9 ≤ 0 then 3 else 0)
  else if 99 ≤ d 99 11 then 4 else 0
theorem x_reasonAgainst (d : Nat → Int → Int) (hd : okd d) {k w : Int} (h1 : 0 ≤ k) (h2 : k ≤ 4) (hw : k = 1 → 0 ≤ w ∧ w ≤ 10) : f_X1_reasonAgainst (eC d) (zI k) (zI w) = some (zI (rsn d k w)) := by
  unfold f_X1_reasonAgainst rsn
  have a1 := okd_p hd
  have a2 := okd_h hd
  have a3 := okd_m hd
  have a4 := okd_0 hd (d 99 8 * 11 + w)
  by_cases e : k = 1
  · subst e
    have := hw rfl
    simp (disch := omega) only [x_longBetween, s_T, s_F, s_bd, s_cl, s_rd, s_wr, s_ite, z_ite, z_neg, z_add, z_sub, z_mul, z_le, z_lt, z_eq, eC_at, eC_7, eC_8, eC_9, eC_10, eC_11, eC_p7, eC_p8, eC_p9, eC_p10, eC_p11, eC_up, ud_same, ud_ne, if_pos, if_neg, z_0, z_1, z_2, z_3, z_4, z_5, z_6, z_7, z_8, z_9, z_10, z_11, z_12, z_13, z_14, z_15, z_16, z_17, z_18, z_19, z_20, z_21, z_22, z_23, z_24, z_25, z_26, z_27, z_28, z_29, z_30, z_31, z_32, z_33, z_34, z_35, z_36, z_37, z_38, z_39, z_40, z_41, z_42, z_43, z_44, z_45, z_46, z_47, z_48, z_49, z_50, z_51, z_52, z_53, z_54, z_55, z_56, z_57, z_58, z_59, z_60, z_61, z_62, z_63, z_64, z_65, z_66, z_67, z_68, z_69, z_70, z_71, z_72, z_73, z_74, z_75, z_76, z_77, z_78, z_79, z_80, z_81, z_82, z_83, z_84, z_85, z_86, z_87, z_88, z_89, z_90, z_91, z_92, z_93, z_94, z_95, z_96, z_97, z_98, z_99, z_100, z_101, z_102, z_103, z_104, z_105, z_106, z_107, z_108, z_109, z_110, z_111, z_112, z_113, z_114, z_115, z_116, z_117, z_118, z_119, z_120, z_121, z_122, z_123, z_124, z_125, z_126, z_127, z_199, z_200, z_360, z_410, z_1000, z_1023, z_1024, z_1219, z_9999, z_10240, z_65537]
  · simp (disch := omega) only [if_neg e, s_T, s_F, s_bd, s_cl, s_rd, s_wr, s_ite, z_ite, z_neg, z_add, z_sub, z_mul, z_le, z_lt, z_eq, eC_at, eC_7, eC_8, eC_9, eC_10, eC_11, eC_p7, eC_p8, eC_p9, eC_p10, eC_p11, eC_up, ud_same, ud_ne, z_0, z_1, z_2, z_3, z_4, z_5, z_6, z_7, z_8, z_9, z_10, z_11, z_12, z_13, z_14, z_15, z_16, z_17, z_18, z_19, z_20, z_21, z_22, z_23, z_24, z_25, z_26, z_27, z_28, z_29, z_30, z_31, z_32, z_33, z_34, z_35, z_36, z_37, z_38, z_39, z_40, z_41, z_42, z_43, z_44, z_45, z_46, z_47, z_48, z_49, z_50, z_51, z_52, z_53, z_54, z_55, z_56, z_57, z_58, z_59, z_60, z_61, z_62, z_63, z_64, z_65, z_66, z_67, z_68, z_69, z_70, z_71, z_72, z_73, z_74, z_75, z_76, z_77, z_78, z_79, z_80, z_81, z_82, z_83, z_84, z_85, z_86, z_87, z_88, z_89, z_90, z_91, z_92, z_93, z_94, z_95, z_96, z_97, z_98, z_99, z_100, z_101, z_102, z_103, z_104, z_105, z_106, z_107, z_108, z_109, z_110, z_111, z_112, z_113, z_114, z_115, z_116, z_117, z_118, z_119, z_120, z_121, z_122, z_123, z_124, z_125, z_126, z_127, z_199, z_200, z_360, z_410, z_1000, z_1023, z_1024, z_1219, z_9999, z_10240, z_65537]
def bed (d : Nat → Int → Int) (a : Int) : Nat → Int → Int :=
  if d 2 a = 0 then (if 9 * d 1 a < d 99 9 then ud (ud d 3 a (d 99 10)) 99 9 (if 0 < d 99 9 - 5 then d 99 9 - 5 else 0)
    else ud (ud (ud d 1 a (if d 1 a + 1 < 9 then d 1 a + 1 else 9)) 2 a 0) 99 9 (if 0 < d 99 9 - 5 then d 99 9 - 5 else 0))
  else ud d 99 9 (if 0 < d 99 9 - 10 then d 99 9 - 10 else 0)
theorem x_warmBed (d : Nat → Int → Int) (hd : okd d) {a : Int} (ha : 0 ≤ a) (ha' : a ≤ 9) : f_X1_warmBed (eC d) (zI a) = some (eC (bed d a)) := by
  unfold f_X1_warmBed bed
  have a1 := okd_h hd
  have a2 := okd_1 hd a
  have a3 := okd_2 hd a
  by_cases e : d 2 a = 0
  · by_cases e2 : 9 * d 1 a < d 99 9
    · simp (disch := omega) only [x_isDamp, x_isConvinced, x_doubtOf, x_furnish, x_convince, s_T, s_F, s_bd, s_cl, s_rd, s_wr, s_ite, z_ite, z_neg, z_add, z_sub, z_mul, z_le, z_lt, z_eq, eC_at, eC_7, eC_8, eC_9, eC_10, eC_11, eC_p7, eC_p8, eC_p9, eC_p10, eC_p11, eC_up, ud_same, ud_ne, if_pos, if_neg, z_0, z_1, z_2, z_3, z_4, z_5, z_6, z_7, z_8, z_9, z_10, z_11, z_12, z_13, z_14, z_15, z_16, z_17, z_18, z_19, z_20, z_21, z_22, z_23, z_24, z_25, z_26, z_27, z_28, z_29, z_30, z_31, z_32, z_33, z_34, z_35, z_36, z_37, z_38, z_39, z_40, z_41, z_42, z_43, z_44, z_45, z_46, z_47, z_48, z_49, z_50, z_51, z_52, z_53, z_54, z_55, z_56, z_57, z_58, z_59, z_60, z_61, z_62, z_63, z_64, z_65, z_66, z_67, z_68, z_69, z_70, z_71, z_72, z_73, z_74, z_75, z_76, z_77, z_78, z_79, z_80, z_81, z_82, z_83, z_84, z_85, z_86, z_87, z_88, z_89, z_90, z_91, z_92, z_93, z_94, z_95, z_96, z_97, z_98, z_99, z_100, z_101, z_102, z_103, z_104, z_105, z_106, z_107, z_108, z_109, z_110, z_111, z_112, z_113, z_114, z_115, z_116, z_117, z_118, z_119, z_120, z_121, z_122, z_123, z_124, z_125, z_126, z_127, z_199, z_200, z_360, z_410, z_1000, z_1023, z_1024, z_1219, z_9999, z_10240, z_65537]
    · simp (disch := omega) only [x_isDamp, x_isConvinced, x_doubtOf, x_furnish, x_convince, s_T, s_F, s_bd, s_cl, s_rd, s_wr, s_ite, z_ite, z_neg, z_add, z_sub, z_mul, z_le, z_lt, z_eq, eC_at, eC_7, eC_8, eC_9, eC_10, eC_11, eC_p7, eC_p8, eC_p9, eC_p10, eC_p11, eC_up, ud_same, ud_ne, if_pos, if_neg, z_0, z_1, z_2, z_3, z_4, z_5, z_6, z_7, z_8, z_9, z_10, z_11, z_12, z_13, z_14, z_15, z_16, z_17, z_18, z_19, z_20, z_21, z_22, z_23, z_24, z_25, z_26, z_27, z_28, z_29, z_30, z_31, z_32, z_33, z_34, z_35, z_36, z_37, z_38, z_39, z_40, z_41, z_42, z_43, z_44, z_45, z_46, z_47, z_48, z_49, z_50, z_51, z_52, z_53, z_54, z_55, z_56, z_57, z_58, z_59, z_60, z_61, z_62, z_63, z_64, z_65, z_66, z_67, z_68, z_69, z_70, z_71, z_72, z_73, z_74, z_75, z_76, z_77, z_78, z_79, z_80, z_81, z_82, z_83, z_84, z_85, z_86, z_87, z_88, z_89, z_90, z_91, z_92, z_93, z_94, z_95, z_96, z_97, z_98, z_99, z_100, z_101, z_102, z_103, z_104, z_105, z_106, z_107, z_108, z_109, z_110, z_111, z_112, z_113, z_114, z_115, z_116, z_117, z_118, z_119, z_120, z_121, z_122, z_123, z_124, z_125, z_126, z_127, z_199, z_200, z_360, z_410, z_1000, z_1023, z_1024, z_1219, z_9999, z_10240, z_65537]
  · simp (disch := omega) only [x_isDamp, x_isConvinced, x_doubtOf, x_furnish, x_convince, s_T, s_F, s_bd, s_cl, s_rd, s_wr, s_ite, z_ite, z_neg, z_add, z_sub, z_mul, z_le, z_lt, z_eq, eC_at, eC_7, eC_8, eC_9, eC_10, eC_11, eC_p7, eC_p8, eC_p9, eC_p10, eC_p11, eC_up, ud_same, ud_ne, if_pos, if_neg, z_0, z_1, z_2, z_3, z_4, z_5, z_6, z_7, z_8, z_9, z_10, z_11, z_12, z_13, z_14, z_15, z_16, z_17, z_18, z_19, z_20, z_21, z_22, z_23, z_24, z_25, z_26, z_27, z_28, z_29, z_30, z_31, z_32, z_33, z_34, z_35, z_36, z_37, z_38, z_39, z_40, z_41, z_42, z_43, z_44, z_45, z_46, z_47, z_48, z_49, z_50, z_51, z_52, z_53, z_54, z_55, z_56, z_57, z_58, z_59, z_60, z_61, z_62, z_63, z_64, z_65, z_66, z_67, z_68, z_69, z_70, z_71, z_72, z_73, z_74, z_75, z_76, z_77, z_78, z_79, z_80, z_81, z_82, z_83, z_84, z_85, z_86, z_87, z_88, z_89, z_90, z_91, z_92, z_93, z_94, z_95, z_96, z_97, z_98, z_99, z_100, z_101, z_102, z_103, z_104, z_105, z_106, z_107, z_108, z_109, z_110, z_111, z_112, z_113, z_114, z_115, z_116, z_117, z_118, z_119, z_120, z_121, z_122, z_123, z_124, z_125, z_126, z_127, z_199, z_200, z_360, z_410, z_1000, z_1023, z_1024, z_1219, z_9999, z_10240, z_65537]

def md (d : Nat → Int → Int) : Nat → Int → Int := fun k i => if k = 2 ∧ 0 ≤ i ∧ i < 10 then 0 else d k i
theorem up_up (σ : qS) (k : Nat) (f g : Nat → Int32) : q_up (q_up σ k f) k g = q_up σ k g := by
  funext a
  unfold q_up
  cases Nat.beq a k <;> rfl
theorem up_at (σ : qS) (k : Nat) (f : Nat → Int32) : q_up σ k f k = f := by
  unfold q_up
  rw [Nat.beq_refl]; rfl
theorem up_id (σ : qS) (k : Nat) : q_up σ k (σ k) = σ := by
  funext a
  unfold q_up
  cases h : Nat.beq a k with
  | false => rfl
  | true => rw [Nat.eq_of_beq_eq_true h]; rfl
theorem x_fill {n : Nat} (hn : n < 16384) (σ : qS) (v : Int32) : f_J7_fill_53178 n σ v = some (q_up σ 0 (fun j => if j < n then v else σ 0 j)) := by
  unfold f_J7_fill_53178
  rw [s_bd]
  refine lp_eq (fun s => n - s.1.toNatClampNeg) (fun s => ∃ i : Nat, i ≤ n ∧ s.1 = zI i ∧ s.2 = q_up σ 0 (fun j => if j < i then v else σ 0 j)) (fun _ => some (q_up σ 0 (fun j => if j < n then v else σ 0 j))) ?_ ⟨0, Nat.zero_le _, rfl, ?_⟩ ?_
  · rintro again ⟨s1, s2⟩ ⟨i, hi, rfl, rfl⟩ ih
    unfold b_J7_fill_53178_5
    dsimp only at ih ⊢
    rw [z_n]
    by_cases h : i < n
    · simp (disch := omega) only [s_T, s_F, s_bd, s_cl, s_rd, s_wr, s_ite, z_ite, z_neg, z_add, z_sub, z_mul, z_le, z_lt, z_eq, eC_at, eC_7, eC_8, eC_9, eC_10, eC_11, eC_p7, eC_p8, eC_p9, eC_p10, eC_p11, eC_up, ud_same, ud_ne, if_pos, if_neg, z_0, z_1, z_2, z_3, z_4, z_5, z_6, z_7, z_8, z_9, z_10, z_11, z_12, z_13, z_14, z_15, z_16, z_17, z_18, z_19, z_20, z_21, z_22, z_23, z_24, z_25, z_26, z_27, z_28, z_29, z_30, z_31, z_32, z_33, z_34, z_35, z_36, z_37, z_38, z_39, z_40, z_41, z_42, z_43, z_44, z_45, z_46, z_47, z_48, z_49, z_50, z_51, z_52, z_53, z_54, z_55, z_56, z_57, z_58, z_59, z_60, z_61, z_62, z_63, z_64, z_65, z_66, z_67, z_68, z_69, z_70, z_71, z_72, z_73, z_74, z_75, z_76, z_77, z_78, z_79, z_80, z_81, z_82, z_83, z_84, z_85, z_86, z_87, z_88, z_89, z_90, z_91, z_92, z_93, z_94, z_95, z_96, z_97, z_98, z_99, z_100, z_101, z_102, z_103, z_104, z_105, z_106, z_107, z_108, z_109, z_110, z_111, z_112, z_113, z_114, z_115, z_116, z_117, z_118, z_119, z_120, z_121, z_122, z_123, z_124, z_125, z_126, z_127, z_199, z_200, z_360, z_410, z_1000, z_1023, z_1024, z_1219, z_9999, z_10240, z_65537]
      refine ih _ ⟨i + 1, h, rfl, ?_⟩ ?_
      · dsimp only
        rw [up_up, up_at]
        refine congrArg (q_up σ 0) (funext fun j => ?_)
        unfold upd
        by_cases e : j = i
        · rw [if_pos (by omega), if_pos (by omega)]
        · rw [if_neg (by omega)]
          dsimp only
          by_cases e2 : j < i
          · rw [if_pos e2, if_pos (by omega)]
          · rw [if_neg e2, if_neg (by omega)]
      · dsimp only
        rw [z_nat (by omega) (by omega), z_nat (by omega) (by omega)]
        omega
    · obtain rfl : i = n := by omega
      simp (disch := omega) only [s_T, s_F, s_bd, s_cl, s_rd, s_wr, s_ite, z_ite, z_neg, z_add, z_sub, z_mul, z_le, z_lt, z_eq, eC_at, eC_7, eC_8, eC_9, eC_10, eC_11, eC_p7, eC_p8, eC_p9, eC_p10, eC_p11, eC_up, ud_same, ud_ne, if_pos, if_neg, z_0, z_1, z_2, z_3, z_4, z_5, z_6, z_7, z_8, z_9, z_10, z_11, z_12, z_13, z_14, z_15, z_16, z_17, z_18, z_19, z_20, z_21, z_22, z_23, z_24, z_25, z_26, z_27, z_28, z_29, z_30, z_31, z_32, z_33, z_34, z_35, z_36, z_37, z_38, z_39, z_40, z_41, z_42, z_43, z_44, z_45, z_46, z_47, z_48, z_49, z_50, z_51, z_52, z_53, z_54, z_55, z_56, z_57, z_58, z_59, z_60, z_61, z_62, z_63, z_64, z_65, z_66, z_67, z_68, z_69, z_70, z_71, z_72, z_73, z_74, z_75, z_76, z_77, z_78, z_79, z_80, z_81, z_82, z_83, z_84, z_85, z_86, z_87, z_88, z_89, z_90, z_91, z_92, z_93, z_94, z_95, z_96, z_97, z_98, z_99, z_100, z_101, z_102, z_103, z_104, z_105, z_106, z_107, z_108, z_109, z_110, z_111, z_112, z_113, z_114, z_115, z_116, z_117, z_118, z_119, z_120, z_121, z_122, z_123, z_124, z_125, z_126, z_127, z_199, z_200, z_360, z_410, z_1000, z_1023, z_1024, z_1219, z_9999, z_10240, z_65537]
  · simp only [Nat.not_lt_zero, if_false]
    exact (up_id σ 0).symm
  · dsimp only
    omega
theorem md_eq (d : Nat → Int → Int) : q_up (eC d) 2 (fun j => if j < 10 then zI 0 else eC d 2 j) = eC (md d) := by
  funext a b
  unfold q_up md
  cases h : Nat.beq a 2 with
  | false =>
    have e : ¬ a = 2 := fun z => by subst z; cases h
    show zI (d a b) = zI (if a = 2 ∧ 0 ≤ (b : Int) ∧ (b : Int) < 10 then 0 else d a b)
    rw [if_neg (fun z => e z.1)]
  | true =>
    obtain rfl := Nat.eq_of_beq_eq_true h
    show (if b < 10 then zI 0 else zI (d 2 b)) = zI (if 2 = 2 ∧ 0 ≤ (b : Int) ∧ (b : Int) < 10 then 0 else d 2 b)
    by_cases e : b < 10
    · rw [if_pos e, if_pos ⟨rfl, by omega, by omega⟩]
    · rw [if_neg e, if_neg (fun z => e (by omega))]
def actd (d : Nat → Int → Int) (k w v : Int) : Nat → Int → Int :=
  if k = 0 then ud (ud d 99 10 w) 99 9 v
  else if k = 1 then ud (ud d 99 9 (if 0 < d 99 9 - d 0 (d 99 8 * 11 + w) then d 99 9 - d 0 (d 99 8 * 11 + w) else 0)) 99 8 w
  else if k = 2 then bed d (d 99 8)
  else if k = 3 then ud (ud d 99 9 (if d 99 9 + 10 < 99 then d 99 9 + 10 else 99)) 99 10 (d 4 (d 99 10))
  else md (ud (ud (ud d 99 8 10) 99 9 0) 99 11 (d 99 11 + 1))
/-- acts that can be are done -/
theorem x_act (d : Nat → Int → Int) (hd : okd d) {k w v : Int} (h1 : 0 ≤ k) (h2 : k ≤ 4) (hw : k = 1 → 0 ≤ w ∧ w ≤ 10) (hb : k = 2 → d 99 8 ≤ 9) : f_X1_act (eC d) (zI k) (zI w) (zI v) = some (eC (actd d k w v)) := by
  have a1 := okd_p hd
  have a2 := okd_h hd
  have a3 := okd_m hd
  have a4 := okd_0 hd (d 99 8 * 11 + w)
  have a5 := okd_t hd
  unfold f_X1_act actd
  rcases (show k = 0 ∨ k = 1 ∨ k = 2 ∨ k = 3 ∨ k = 4 by omega) with e | e | e | e | e <;> subst e
  · simp (disch := omega) only [s_T, s_F, s_bd, s_cl, s_rd, s_wr, s_ite, z_ite, z_neg, z_add, z_sub, z_mul, z_le, z_lt, z_eq, eC_at, eC_7, eC_8, eC_9, eC_10, eC_11, eC_p7, eC_p8, eC_p9, eC_p10, eC_p11, eC_up, ud_same, ud_ne, if_pos, if_neg, z_0, z_1, z_2, z_3, z_4, z_5, z_6, z_7, z_8, z_9, z_10, z_11, z_12, z_13, z_14, z_15, z_16, z_17, z_18, z_19, z_20, z_21, z_22, z_23, z_24, z_25, z_26, z_27, z_28, z_29, z_30, z_31, z_32, z_33, z_34, z_35, z_36, z_37, z_38, z_39, z_40, z_41, z_42, z_43, z_44, z_45, z_46, z_47, z_48, z_49, z_50, z_51, z_52, z_53, z_54, z_55, z_56, z_57, z_58, z_59, z_60, z_61, z_62, z_63, z_64, z_65, z_66, z_67, z_68, z_69, z_70, z_71, z_72, z_73, z_74, z_75, z_76, z_77, z_78, z_79, z_80, z_81, z_82, z_83, z_84, z_85, z_86, z_87, z_88, z_89, z_90, z_91, z_92, z_93, z_94, z_95, z_96, z_97, z_98, z_99, z_100, z_101, z_102, z_103, z_104, z_105, z_106, z_107, z_108, z_109, z_110, z_111, z_112, z_113, z_114, z_115, z_116, z_117, z_118, z_119, z_120, z_121, z_122, z_123, z_124, z_125, z_126, z_127, z_199, z_200, z_360, z_410, z_1000, z_1023, z_1024, z_1219, z_9999, z_10240, z_65537]
  · have := hw rfl
    simp (disch := omega) only [x_longBetween, s_T, s_F, s_bd, s_cl, s_rd, s_wr, s_ite, z_ite, z_neg, z_add, z_sub, z_mul, z_le, z_lt, z_eq, eC_at, eC_7, eC_8, eC_9, eC_10, eC_11, eC_p7, eC_p8, eC_p9, eC_p10, eC_p11, eC_up, ud_same, ud_ne, if_pos, if_neg, z_0, z_1, z_2, z_3, z_4, z_5, z_6, z_7, z_8, z_9, z_10, z_11, z_12, z_13, z_14, z_15, z_16, z_17, z_18, z_19, z_20, z_21, z_22, z_23, z_24, z_25, z_26, z_27, z_28, z_29, z_30, z_31, z_32, z_33, z_34, z_35, z_36, z_37, z_38, z_39, z_40, z_41, z_42, z_43, z_44, z_45, z_46, z_47, z_48, z_49, z_50, z_51, z_52, z_53, z_54, z_55, z_56, z_57, z_58, z_59, z_60, z_61, z_62, z_63, z_64, z_65, z_66, z_67, z_68, z_69, z_70, z_71, z_72, z_73, z_74, z_75, z_76, z_77, z_78, z_79, z_80, z_81, z_82, z_83, z_84, z_85, z_86, z_87, z_88, z_89, z_90, z_91, z_92, z_93, z_94, z_95, z_96, z_97, z_98, z_99, z_100, z_101, z_102, z_103, z_104, z_105, z_106, z_107, z_108, z_109, z_110, z_111, z_112, z_113, z_114, z_115, z_116, z_117, z_118, z_119, z_120, z_121, z_122, z_123, z_124, z_125, z_126, z_127, z_199, z_200, z_360, z_410, z_1000, z_1023, z_1024, z_1219, z_9999, z_10240, z_65537]
  · have := hb rfl
    simp (disch := omega) only [x_warmBed, s_T, s_F, s_bd, s_cl, s_rd, s_wr, s_ite, z_ite, z_neg, z_add, z_sub, z_mul, z_le, z_lt, z_eq, eC_at, eC_7, eC_8, eC_9, eC_10, eC_11, eC_p7, eC_p8, eC_p9, eC_p10, eC_p11, eC_up, ud_same, ud_ne, if_pos, if_neg, z_0, z_1, z_2, z_3, z_4, z_5, z_6, z_7, z_8, z_9, z_10, z_11, z_12, z_13, z_14, z_15, z_16, z_17, z_18, z_19, z_20, z_21, z_22, z_23, z_24, z_25, z_26, z_27, z_28, z_29, z_30, z_31, z_32, z_33, z_34, z_35, z_36, z_37, z_38, z_39, z_40, z_41, z_42, z_43, z_44, z_45, z_46, z_47, z_48, z_49, z_50, z_51, z_52, z_53, z_54, z_55, z_56, z_57, z_58, z_59, z_60, z_61, z_62, z_63, z_64, z_65, z_66, z_67, z_68, z_69, z_70, z_71, z_72, z_73, z_74, z_75, z_76, z_77, z_78, z_79, z_80, z_81, z_82, z_83, z_84, z_85, z_86, z_87, z_88, z_89, z_90, z_91, z_92, z_93, z_94, z_95, z_96, z_97, z_98, z_99, z_100, z_101, z_102, z_103, z_104, z_105, z_106, z_107, z_108, z_109, z_110, z_111, z_112, z_113, z_114, z_115, z_116, z_117, z_118, z_119, z_120, z_121, z_122, z_123, z_124, z_125, z_126, z_127, z_199, z_200, z_360, z_410, z_1000, z_1023, z_1024, z_1219, z_9999, z_10240, z_65537]
  · simp (disch := omega) only [x_fadesInto, s_T, s_F, s_bd, s_cl, s_rd, s_wr, s_ite, z_ite, z_neg, z_add, z_sub, z_mul, z_le, z_lt, z_eq, eC_at, eC_7, eC_8, eC_9, eC_10, eC_11, eC_p7, eC_p8, eC_p9, eC_p10, eC_p11, eC_up, ud_same, ud_ne, if_pos, if_neg, z_0, z_1, z_2, z_3, z_4, z_5, z_6, z_7, z_8, z_9, z_10, z_11, z_12, z_13, z_14, z_15, z_16, z_17, z_18, z_19, z_20, z_21, z_22, z_23, z_24, z_25, z_26, z_27, z_28, z_29, z_30, z_31, z_32, z_33, z_34, z_35, z_36, z_37, z_38, z_39, z_40, z_41, z_42, z_43, z_44, z_45, z_46, z_47, z_48, z_49, z_50, z_51, z_52, z_53, z_54, z_55, z_56, z_57, z_58, z_59, z_60, z_61, z_62, z_63, z_64, z_65, z_66, z_67, z_68, z_69, z_70, z_71, z_72, z_73, z_74, z_75, z_76, z_77, z_78, z_79, z_80, z_81, z_82, z_83, z_84, z_85, z_86, z_87, z_88, z_89, z_90, z_91, z_92, z_93, z_94, z_95, z_96, z_97, z_98, z_99, z_100, z_101, z_102, z_103, z_104, z_105, z_106, z_107, z_108, z_109, z_110, z_111, z_112, z_113, z_114, z_115, z_116, z_117, z_118, z_119, z_120, z_121, z_122, z_123, z_124, z_125, z_126, z_127, z_199, z_200, z_360, z_410, z_1000, z_1023, z_1024, z_1219, z_9999, z_10240, z_65537]
  · simp (disch := omega) only [x_fill, s_T, s_F, s_bd, s_cl, s_rd, s_wr, s_ite, z_ite, z_neg, z_add, z_sub, z_mul, z_le, z_lt, z_eq, eC_at, eC_7, eC_8, eC_9, eC_10, eC_11, eC_p7, eC_p8, eC_p9, eC_p10, eC_p11, eC_up, ud_same, ud_ne, if_pos, if_neg, z_0, z_1, z_2, z_3, z_4, z_5, z_6, z_7, z_8, z_9, z_10, z_11, z_12, z_13, z_14, z_15, z_16, z_17, z_18, z_19, z_20, z_21, z_22, z_23, z_24, z_25, z_26, z_27, z_28, z_29, z_30, z_31, z_32, z_33, z_34, z_35, z_36, z_37, z_38, z_39, z_40, z_41, z_42, z_43, z_44, z_45, z_46, z_47, z_48, z_49, z_50, z_51, z_52, z_53, z_54, z_55, z_56, z_57, z_58, z_59, z_60, z_61, z_62, z_63, z_64, z_65, z_66, z_67, z_68, z_69, z_70, z_71, z_72, z_73, z_74, z_75, z_76, z_77, z_78, z_79, z_80, z_81, z_82, z_83, z_84, z_85, z_86, z_87, z_88, z_89, z_90, z_91, z_92, z_93, z_94, z_95, z_96, z_97, z_98, z_99, z_100, z_101, z_102, z_103, z_104, z_105, z_106, z_107, z_108, z_109, z_110, z_111, z_112, z_113, z_114, z_115, z_116, z_117, z_118, z_119, z_120, z_121, z_122, z_123, z_124, z_125, z_126, z_127, z_199, z_200, z_360, z_410, z_1000, z_1023, z_1024, z_1219, z_9999, z_10240, z_65537]
    rw [up_at, md_eq]
theorem okd_bed {d : Nat → Int → Int} (hd : okd d) {a : Int} (h1 : 0 ≤ a) (h2 : a ≤ 9) : okd (bed d a) := by
  have a1 := okd_h hd
  have a2 := okd_1 hd a
  have a3 := okd_t hd
  unfold bed
  split
  · split
    · exact okd_ud (okd_ud hd (show (-6 : Int) ≤ _ by omega) (show _ ≤ (9 : Int) by omega)) (show (0 : Int) ≤ _ by split <;> omega) (show _ ≤ (99 : Int) by split <;> omega)
    · exact okd_ud (okd_ud (okd_ud hd (show (0 : Int) ≤ _ by split <;> omega) (show _ ≤ (9 : Int) by split <;> omega)) (show (0 : Int) ≤ _ by omega) (show _ ≤ (1 : Int) by omega)) (show (0 : Int) ≤ _ by split <;> omega) (show _ ≤ (99 : Int) by split <;> omega)
  · exact okd_ud hd (show (0 : Int) ≤ _ by split <;> omega) (show _ ≤ (99 : Int) by split <;> omega)
theorem okd_md {d : Nat → Int → Int} (hd : okd d) : okd (md d) := by
  intro k i
  unfold md
  split
  · next z => obtain ⟨rfl, _⟩ := z; exact ⟨by show (0 : Int) ≤ 0; omega, by show (0 : Int) ≤ 1; omega⟩
  · exact hd k i
theorem okd_act {d : Nat → Int → Int} (hd : okd d) {k w v : Int} (h1 : 0 ≤ k) (h2 : k ≤ 4) (hw : k = 1 → 0 ≤ w ∧ w ≤ 10) (hw0 : k = 0 → 0 ≤ w ∧ w ≤ 9) (hv : k = 0 → 0 ≤ v ∧ v ≤ 99) (hr : rsn d k w = 0) : okd (actd d k w v) := by
  have a1 := okd_p hd
  have a2 := okd_h hd
  have a3 := okd_m hd
  have a4 := okd_0 hd (d 99 8 * 11 + w)
  have a5 := okd_t hd
  have a6 := okd_4 hd (i := d 99 10) (by omega) (by omega)
  unfold actd
  unfold rsn at hr
  split at hr
  · next e =>
    rw [if_pos e]
    have := hw0 e; have := hv e
    exact okd_ud (okd_ud hd (show (0 : Int) ≤ _ by omega) (show _ ≤ (9 : Int) by omega)) (show (0 : Int) ≤ _ by omega) (show _ ≤ (99 : Int) by omega)
  · next e =>
    rw [if_neg e]
    split at hr
    · next e1 =>
      rw [if_pos e1]
      have := hw e1
      exact okd_ud (okd_ud hd (show (0 : Int) ≤ _ by split <;> omega) (show _ ≤ (99 : Int) by split <;> omega)) (show (0 : Int) ≤ _ by omega) (show _ ≤ (10 : Int) by omega)
    · next e1 =>
      rw [if_neg e1]
      split at hr
      · next e2 =>
        rw [if_pos e2]
        split at hr
        · omega
        · exact okd_bed hd (by omega) (by omega)
      · next e2 =>
        rw [if_neg e2]
        split at hr
        · next e3 =>
          rw [if_pos e3]
          exact okd_ud (okd_ud hd (show (0 : Int) ≤ _ by split <;> omega) (show _ ≤ (99 : Int) by split <;> omega)) (show (0 : Int) ≤ _ by omega) (show _ ≤ (9 : Int) by omega)
        · next e3 =>
          rw [if_neg e3]
          split at hr
          · omega
          · exact okd_md (okd_ud (okd_ud (okd_ud hd (show (0 : Int) ≤ _ by omega) (show _ ≤ (10 : Int) by omega)) (show (0 : Int) ≤ _ by omega) (show _ ≤ (99 : Int) by omega)) (show (0 : Int) ≤ _ by omega) (show _ ≤ (99 : Int) by omega))
theorem x_copyFrom (d f : Nat → Int → Int) (hd : okd d) (hf : okd f) : f_X1_copyFrom (eC d) (eC f) = some (eC f) := by
  unfold f_X1_copyFrom
  simp only [s_bd]
  congr 1
  funext a b
  have z : ∀ {g : Nat → Int → Int}, okd g → 7 ≤ a → a ≠ 99 → g a b = 0 := by
    intro g hg h7 h9
    have := hg a b
    unfold lod hid at this
    rw [if_neg (by omega), if_neg (by omega), if_neg (by omega), if_neg (by omega), if_neg (by omega), if_neg (by omega), if_neg (by omega), if_neg (by omega), if_neg (by omega), if_neg (by omega)] at this
    omega
  have z9 : ∀ {g : Nat → Int → Int}, okd g → (b < 7 ∨ 11 < b) → g 99 b = 0 := by
    intro g hg h
    have := hg 99 b
    unfold lod hid at this
    rw [if_neg (by decide), if_neg (by decide), if_neg (by decide), if_neg (by decide), if_neg (by decide), if_neg (by decide), if_neg (by decide), if_neg (by decide), if_neg (by decide), if_pos rfl, if_neg (by omega), if_neg (by omega), if_neg (by omega), if_neg (by omega), if_neg (by omega)] at this
    omega
  by_cases h99 : a = 99
  · subst h99
    show upd (upd (upd (upd (upd (eC d 99) 7 (eC f 99 7)) 8 (eC f 99 8)) 9 (eC f 99 9)) 10 (eC f 99 10)) 11 (eC f 99 11) b = eC f 99 b
    unfold upd
    split
    · next e => rw [e]
    · split
      · next e => rw [e]
      · split
        · next e => rw [e]
        · split
          · next e => rw [e]
          · split
            · next e => rw [e]
            · show zI (d 99 b) = zI (f 99 b)
              rw [z9 hd (by omega), z9 hf (by omega)]
  · by_cases h7 : 7 ≤ a
    · have e : ∀ k, (k = 99 ∨ k ≤ 6) → Nat.beq a k = false := fun k hk => by
        cases h : Nat.beq a k with
        | false => rfl
        | true => have := Nat.eq_of_beq_eq_true h; omega
      unfold q_pt
      simp only [q_up, e 99 (Or.inl rfl), e 0 (Or.inr (by decide)), e 1 (Or.inr (by decide)), e 2 (Or.inr (by decide)), e 3 (Or.inr (by decide)), e 4 (Or.inr (by decide)), e 5 (Or.inr (by decide)), e 6 (Or.inr (by decide)), cond_false]
      show zI (d a b) = zI (f a b)
      rw [z hd h7 h99, z hf h7 h99]
    · rcases (show a = 0 ∨ a = 1 ∨ a = 2 ∨ a = 3 ∨ a = 4 ∨ a = 5 ∨ a = 6 by omega) with e | e | e | e | e | e | e <;> subst e <;> rfl


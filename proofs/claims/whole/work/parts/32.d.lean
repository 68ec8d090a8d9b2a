/-! the reference's nights -/
theorem bed_bel {d : Nat → Int → Int} {k w v : Int} (hk : ¬ k = 2) (p : Int) : bel (actd d k w v) p = bel d p := by
  unfold bel
  split
  · unfold actd
    split
    · rw [ud_ne _ _ (by omega), ud_ne _ _ (by omega)]
    · split
      · rw [ud_ne _ _ (by omega), ud_ne _ _ (by omega)]
      · try rw [if_neg hk]
        split
        · rw [ud_ne _ _ (by omega), ud_ne _ _ (by omega)]
        · unfold md
          rw [if_neg (by omega), ud_ne _ _ (by omega), ud_ne _ _ (by omega), ud_ne _ _ (by omega)]
  · rfl
theorem actd_c {d : Nat → Int → Int} {k w v w' v' : Int} (h0 : k = 0 → w = w' ∧ v = v') (h1 : k = 1 → w = w') : actd d k w v = actd d k w' v' := by
  unfold actd
  split
  · next e => obtain ⟨rfl, rfl⟩ := h0 e; rfl
  · split
    · next e => obtain rfl := h1 e; rfl
    · rfl
theorem rsn_c {d : Nat → Int → Int} {k w w' : Int} (h1 : k = 1 → w = w') : rsn d k w = rsn d k w' := by
  unfold rsn
  split
  · rfl
  · split
    · next e => obtain rfl := h1 e; rfl
    · rfl
def goM (m d d' : Nat → Int → Int) (t k : Int) : Nat → Int → Int :=
  let m1 := ud m 99 21 (m 99 21 + (if k = 2 then 1 else 0))
  if k = 2 ∧ ¬ bel d' (d 99 8) = bel d (d 99 8) ∧ m 99 22 < 0 then ud (ud m1 99 22 t) 99 23 (d 99 8) else m1
theorem m_goOne (m d : Nat → Int → Int) (τ : qL) (hd : okd d) {t k w v : Int} (t0 : 0 ≤ t) (t1 : t < 60) (ek : m 14 t = k) (ew : m 15 t = w) (ev : m 16 t = v)
    (h1 : 0 ≤ k) (h2 : k ≤ 4) (hw : k = 1 → 0 ≤ w ∧ w ≤ 10) (hw0 : k = 0 → 0 ≤ w ∧ w ≤ 9) (hv : k = 0 → 0 ≤ v ∧ v ≤ 99) (hr : rsn d k w = 0) (hm : -6 ≤ m 99 22 ∧ m 99 22 ≤ 1000) :
    f_X7_goOne (eC (pw m d)) τ (zI t) = some (eC (pw (goM m d (actd d k w v) t k) (actd d k w v))) := by
  have hd' := okd_act hd h1 h2 hw hw0 hv hr
  have a1 := okd_p hd
  have hb : k = 2 → d 99 8 ≤ 9 := by
    intro e
    subst e
    unfold rsn at hr
    rw [if_neg (by decide), if_neg (by decide), if_pos rfl] at hr
    split at hr <;> omega
  have b1 := okd_3 hd (d 99 8)
  have b2 := okd_3 hd' (d 99 8)
  have hh := m_happen m d τ hd (v := v) h1 h2 hw hb
  have hbl : ¬ k = 2 → bel (actd d k w v) (d 99 8) = bel d (d 99 8) := fun z => bed_bel z _
  unfold f_X7_goOne goM
  generalize actd d k w v = d' at *
  by_cases c1 : d 99 8 = 10
  · have c2 : ¬ k = 2 := fun z => by have := hb z; omega
    simp (disch := omega) only [ek, ew, ev, hh, pw_0, up_0, pw_1, up_1, pw_2, up_2, pw_3, up_3, pw_4, up_4, pw_9, up_9, pw_10, up_10, pwi_5, upi_5, pwi_6, upi_6, pwi_7, upi_7, pwi_8, upi_8, pwi_11, upi_11, pw_12, up_12, pw_14, up_14, pw_15, up_15, pw_16, up_16, pw_18, up_18, pw_24, up_24, pw_25, up_25, pw_26, up_26, pw_29, up_29, pw_30, up_30, pw_31, up_31, pwi_13, upi_13, pwi_17, upi_17, pwi_19, upi_19, pwi_20, upi_20, pwi_21, upi_21, pwi_22, upi_22, pwi_23, upi_23, pwi_32, upi_32, pwi_33, upi_33, eC_5, eC_6, eC_13, eC_17, eC_19, eC_20, eC_21, eC_22, eC_23, eC_32, eC_33, eC_p5, eC_p6, eC_p13, eC_p17, eC_p19, eC_p20, eC_p21, eC_p22, eC_p23, eC_p32, eC_p33, s_T, s_F, s_bd, s_cl, s_rd, s_wr, s_ite, z_ite, z_neg, z_add, z_sub, z_mul, z_le, z_lt, z_eq, eC_at, eC_7, eC_8, eC_9, eC_10, eC_11, eC_p7, eC_p8, eC_p9, eC_p10, eC_p11, eC_up, ud_same, ud_ne, if_pos, if_neg, z_0, z_1, z_2, z_3, z_4, z_5, z_6, z_7, z_8, z_9, z_10, z_11, z_12, z_13, z_14, z_15, z_16, z_17, z_18, z_19, z_20, z_21, z_22, z_23, z_24, z_25, z_26, z_27, z_28, z_29, z_30, z_31, z_32, z_33, z_34, z_35, z_36, z_37, z_38, z_39, z_40, z_41, z_42, z_43, z_44, z_45, z_46, z_47, z_48, z_49, z_50, z_51, z_52, z_53, z_54, z_55, z_56, z_57, z_58, z_59, z_60, z_61, z_62, z_63, z_64, z_65, z_66, z_67, z_68, z_69, z_70, z_71, z_72, z_73, z_74, z_75, z_76, z_77, z_78, z_79, z_80, z_81, z_82, z_83, z_84, z_85, z_86, z_87, z_88, z_89, z_90, z_91, z_92, z_93, z_94, z_95, z_96, z_97, z_98, z_99, z_100, z_101, z_102, z_103, z_104, z_105, z_106, z_107, z_108, z_109, z_110, z_111, z_112, z_113, z_114, z_115, z_116, z_117, z_118, z_119, z_120, z_121, z_122, z_123, z_124, z_125, z_126, z_127, z_199, z_200, z_360, z_410, z_1000, z_1023, z_1024, z_1219, z_9999, z_10240, z_65537]
  · by_cases c2 : k = 2
    · have e1 : bel d (d 99 8) = d 3 (d 99 8) := by unfold bel; rw [if_pos (by omega)]
      have e2 : bel d' (d 99 8) = d' 3 (d 99 8) := by unfold bel; rw [if_pos (by omega)]
      rw [e1, e2]
      by_cases c3 : d' 3 (d 99 8) = d 3 (d 99 8)
      · simp (disch := omega) only [ek, ew, ev, hh, pw_0, up_0, pw_1, up_1, pw_2, up_2, pw_3, up_3, pw_4, up_4, pw_9, up_9, pw_10, up_10, pwi_5, upi_5, pwi_6, upi_6, pwi_7, upi_7, pwi_8, upi_8, pwi_11, upi_11, pw_12, up_12, pw_14, up_14, pw_15, up_15, pw_16, up_16, pw_18, up_18, pw_24, up_24, pw_25, up_25, pw_26, up_26, pw_29, up_29, pw_30, up_30, pw_31, up_31, pwi_13, upi_13, pwi_17, upi_17, pwi_19, upi_19, pwi_20, upi_20, pwi_21, upi_21, pwi_22, upi_22, pwi_23, upi_23, pwi_32, upi_32, pwi_33, upi_33, eC_5, eC_6, eC_13, eC_17, eC_19, eC_20, eC_21, eC_22, eC_23, eC_32, eC_33, eC_p5, eC_p6, eC_p13, eC_p17, eC_p19, eC_p20, eC_p21, eC_p22, eC_p23, eC_p32, eC_p33, s_T, s_F, s_bd, s_cl, s_rd, s_wr, s_ite, z_ite, z_neg, z_add, z_sub, z_mul, z_le, z_lt, z_eq, eC_at, eC_7, eC_8, eC_9, eC_10, eC_11, eC_p7, eC_p8, eC_p9, eC_p10, eC_p11, eC_up, ud_same, ud_ne, if_pos, if_neg, z_0, z_1, z_2, z_3, z_4, z_5, z_6, z_7, z_8, z_9, z_10, z_11, z_12, z_13, z_14, z_15, z_16, z_17, z_18, z_19, z_20, z_21, z_22, z_23, z_24, z_25, z_26, z_27, z_28, z_29, z_30, z_31, z_32, z_33, z_34, z_35, z_36, z_37, z_38, z_39, z_40, z_41, z_42, z_43, z_44, z_45, z_46, z_47, z_48, z_49, z_50, z_51, z_52, z_53, z_54, z_55, z_56, z_57, z_58, z_59, z_60, z_61, z_62, z_63, z_64, z_65, z_66, z_67, z_68, z_69, z_70, z_71, z_72, z_73, z_74, z_75, z_76, z_77, z_78, z_79, z_80, z_81, z_82, z_83, z_84, z_85, z_86, z_87, z_88, z_89, z_90, z_91, z_92, z_93, z_94, z_95, z_96, z_97, z_98, z_99, z_100, z_101, z_102, z_103, z_104, z_105, z_106, z_107, z_108, z_109, z_110, z_111, z_112, z_113, z_114, z_115, z_116, z_117, z_118, z_119, z_120, z_121, z_122, z_123, z_124, z_125, z_126, z_127, z_199, z_200, z_360, z_410, z_1000, z_1023, z_1024, z_1219, z_9999, z_10240, z_65537]
      · by_cases c4 : m 99 22 < 0
        · simp (disch := omega) only [ek, ew, ev, hh, pw_0, up_0, pw_1, up_1, pw_2, up_2, pw_3, up_3, pw_4, up_4, pw_9, up_9, pw_10, up_10, pwi_5, upi_5, pwi_6, upi_6, pwi_7, upi_7, pwi_8, upi_8, pwi_11, upi_11, pw_12, up_12, pw_14, up_14, pw_15, up_15, pw_16, up_16, pw_18, up_18, pw_24, up_24, pw_25, up_25, pw_26, up_26, pw_29, up_29, pw_30, up_30, pw_31, up_31, pwi_13, upi_13, pwi_17, upi_17, pwi_19, upi_19, pwi_20, upi_20, pwi_21, upi_21, pwi_22, upi_22, pwi_23, upi_23, pwi_32, upi_32, pwi_33, upi_33, eC_5, eC_6, eC_13, eC_17, eC_19, eC_20, eC_21, eC_22, eC_23, eC_32, eC_33, eC_p5, eC_p6, eC_p13, eC_p17, eC_p19, eC_p20, eC_p21, eC_p22, eC_p23, eC_p32, eC_p33, s_T, s_F, s_bd, s_cl, s_rd, s_wr, s_ite, z_ite, z_neg, z_add, z_sub, z_mul, z_le, z_lt, z_eq, eC_at, eC_7, eC_8, eC_9, eC_10, eC_11, eC_p7, eC_p8, eC_p9, eC_p10, eC_p11, eC_up, ud_same, ud_ne, if_pos, if_neg, z_0, z_1, z_2, z_3, z_4, z_5, z_6, z_7, z_8, z_9, z_10, z_11, z_12, z_13, z_14, z_15, z_16, z_17, z_18, z_19, z_20, z_21, z_22, z_23, z_24, z_25, z_26, z_27, z_28, z_29, z_30, z_31, z_32, z_33, z_34, z_35, z_36, z_37, z_38, z_39, z_40, z_41, z_42, z_43, z_44, z_45, z_46, z_47, z_48, z_49, z_50, z_51, z_52, z_53, z_54, z_55, z_56, z_57, z_58, z_59, z_60, z_61, z_62, z_63, z_64, z_65, z_66, z_67, z_68, z_69, z_70, z_71, z_72, z_73, z_74, z_75, z_76, z_77, z_78, z_79, z_80, z_81, z_82, z_83, z_84, z_85, z_86, z_87, z_88, z_89, z_90, z_91, z_92, z_93, z_94, z_95, z_96, z_97, z_98, z_99, z_100, z_101, z_102, z_103, z_104, z_105, z_106, z_107, z_108, z_109, z_110, z_111, z_112, z_113, z_114, z_115, z_116, z_117, z_118, z_119, z_120, z_121, z_122, z_123, z_124, z_125, z_126, z_127, z_199, z_200, z_360, z_410, z_1000, z_1023, z_1024, z_1219, z_9999, z_10240, z_65537]
        · simp (disch := omega) only [ek, ew, ev, hh, pw_0, up_0, pw_1, up_1, pw_2, up_2, pw_3, up_3, pw_4, up_4, pw_9, up_9, pw_10, up_10, pwi_5, upi_5, pwi_6, upi_6, pwi_7, upi_7, pwi_8, upi_8, pwi_11, upi_11, pw_12, up_12, pw_14, up_14, pw_15, up_15, pw_16, up_16, pw_18, up_18, pw_24, up_24, pw_25, up_25, pw_26, up_26, pw_29, up_29, pw_30, up_30, pw_31, up_31, pwi_13, upi_13, pwi_17, upi_17, pwi_19, upi_19, pwi_20, upi_20, pwi_21, upi_21, pwi_22, upi_22, pwi_23, upi_23, pwi_32, upi_32, pwi_33, upi_33, eC_5, eC_6, eC_13, eC_17, eC_19, eC_20, eC_21, eC_22, eC_23, eC_32, eC_33, eC_p5, eC_p6, eC_p13, eC_p17, eC_p19, eC_p20, eC_p21, eC_p22, eC_p23, eC_p32, eC_p33, s_T, s_F, s_bd, s_cl, s_rd, s_wr, s_ite, z_ite, z_neg, z_add, z_sub, z_mul, z_le, z_lt, z_eq, eC_at, eC_7, eC_8, eC_9, eC_10, eC_11, eC_p7, eC_p8, eC_p9, eC_p10, eC_p11, eC_up, ud_same, ud_ne, if_pos, if_neg, z_0, z_1, z_2, z_3, z_4, z_5, z_6, z_7, z_8, z_9, z_10, z_11, z_12, z_13, z_14, z_15, z_16, z_17, z_18, z_19, z_20, z_21, z_22, z_23, z_24, z_25, z_26, z_27, z_28, z_29, z_30, z_31, z_32, z_33, z_34, z_35, z_36, z_37, z_38, z_39, z_40, z_41, z_42, z_43, z_44, z_45, z_46, z_47, z_48, z_49, z_50, z_51, z_52, z_53, z_54, z_55, z_56, z_57, z_58, z_59, z_60, z_61, z_62, z_63, z_64, z_65, z_66, z_67, z_68, z_69, z_70, z_71, z_72, z_73, z_74, z_75, z_76, z_77, z_78, z_79, z_80, z_81, z_82, z_83, z_84, z_85, z_86, z_87, z_88, z_89, z_90, z_91, z_92, z_93, z_94, z_95, z_96, z_97, z_98, z_99, z_100, z_101, z_102, z_103, z_104, z_105, z_106, z_107, z_108, z_109, z_110, z_111, z_112, z_113, z_114, z_115, z_116, z_117, z_118, z_119, z_120, z_121, z_122, z_123, z_124, z_125, z_126, z_127, z_199, z_200, z_360, z_410, z_1000, z_1023, z_1024, z_1219, z_9999, z_10240, z_65537]
    · simp (disch := omega) only [ek, ew, ev, hh, pw_0, up_0, pw_1, up_1, pw_2, up_2, pw_3, up_3, pw_4, up_4, pw_9, up_9, pw_10, up_10, pwi_5, upi_5, pwi_6, upi_6, pwi_7, upi_7, pwi_8, upi_8, pwi_11, upi_11, pw_12, up_12, pw_14, up_14, pw_15, up_15, pw_16, up_16, pw_18, up_18, pw_24, up_24, pw_25, up_25, pw_26, up_26, pw_29, up_29, pw_30, up_30, pw_31, up_31, pwi_13, upi_13, pwi_17, upi_17, pwi_19, upi_19, pwi_20, upi_20, pwi_21, upi_21, pwi_22, upi_22, pwi_23, upi_23, pwi_32, upi_32, pwi_33, upi_33, eC_5, eC_6, eC_13, eC_17, eC_19, eC_20, eC_21, eC_22, eC_23, eC_32, eC_33, eC_p5, eC_p6, eC_p13, eC_p17, eC_p19, eC_p20, eC_p21, eC_p22, eC_p23, eC_p32, eC_p33, s_T, s_F, s_bd, s_cl, s_rd, s_wr, s_ite, z_ite, z_neg, z_add, z_sub, z_mul, z_le, z_lt, z_eq, eC_at, eC_7, eC_8, eC_9, eC_10, eC_11, eC_p7, eC_p8, eC_p9, eC_p10, eC_p11, eC_up, ud_same, ud_ne, if_pos, if_neg, z_0, z_1, z_2, z_3, z_4, z_5, z_6, z_7, z_8, z_9, z_10, z_11, z_12, z_13, z_14, z_15, z_16, z_17, z_18, z_19, z_20, z_21, z_22, z_23, z_24, z_25, z_26, z_27, z_28, z_29, z_30, z_31, z_32, z_33, z_34, z_35, z_36, z_37, z_38, z_39, z_40, z_41, z_42, z_43, z_44, z_45, z_46, z_47, z_48, z_49, z_50, z_51, z_52, z_53, z_54, z_55, z_56, z_57, z_58, z_59, z_60, z_61, z_62, z_63, z_64, z_65, z_66, z_67, z_68, z_69, z_70, z_71, z_72, z_73, z_74, z_75, z_76, z_77, z_78, z_79, z_80, z_81, z_82, z_83, z_84, z_85, z_86, z_87, z_88, z_89, z_90, z_91, z_92, z_93, z_94, z_95, z_96, z_97, z_98, z_99, z_100, z_101, z_102, z_103, z_104, z_105, z_106, z_107, z_108, z_109, z_110, z_111, z_112, z_113, z_114, z_115, z_116, z_117, z_118, z_119, z_120, z_121, z_122, z_123, z_124, z_125, z_126, z_127, z_199, z_200, z_360, z_410, z_1000, z_1023, z_1024, z_1219, z_9999, z_10240, z_65537]
theorem rcd_le {e : Nat → Int → Int} : ∀ (N : Nat) (a t : Int) (m : Nat → Int → Int), rcd e N a t m → t ≤ m 99 17 := by
  intro N
  induction N with
  | zero => intro a t m h; unfold rcd at h; omega
  | succ N ih =>
    intro a t m h
    unfold rcd at h
    split at h
    · omega
    · have := ih _ _ _ h.2.2.2; omega
theorem rcd_frm {e : Nat → Int → Int} : ∀ (N : Nat) (a t : Int) (m m' : Nat → Int → Int), (∀ i, m' 14 i = m 14 i) → (∀ i, m' 15 i = m 15 i) → (∀ i, m' 16 i = m 16 i) → m' 99 17 = m 99 17 → rcd e N a t m → rcd e N a t m' := by
  intro N
  induction N with
  | zero => intro a t m m' _ _ _ h4 h; unfold rcd at h ⊢; rw [h4]; exact h
  | succ N ih =>
    intro a t m m' h1 h2 h3 h4 h
    unfold rcd at h ⊢
    split
    · next z => rw [if_pos z] at h; rw [h4]; exact h
    · next z =>
      rw [if_neg z] at h
      obtain ⟨q1, q2, q3, q4⟩ := h
      exact ⟨by rw [h1]; exact q1, fun k => by rw [h2]; exact q2 k, fun k => by rw [h2, h3]; exact q3 k, ih _ _ m m' h1 h2 h3 h4 q4⟩
/-- the marks agree: the reference's in m, the class's in n -/
def mrks (m n : Nat → Int → Int) : Prop := m 99 19 = n 99 2 ∧ m 99 20 = n 99 3 ∧ m 99 21 = n 99 1 ∧ m 99 22 = n 99 4 ∧ m 99 23 = n 99 5
/-- only marks differ -/
def mko (m m' : Nat → Int → Int) : Prop := ∀ k i, (k = 99 ∧ 19 ≤ i ∧ i ≤ 23) ∨ m' k i = m k i
theorem mko_at {m m' : Nat → Int → Int} (h : mko m m') (k : Nat) (i : Int) (hk : ¬ (k = 99 ∧ 19 ≤ i ∧ i ≤ 23)) : m' k i = m k i := (h k i).resolve_left hk
theorem mko_tr {m m' m'' : Nat → Int → Int} (h : mko m m') (h' : mko m' m'') : mko m m'' := fun k i => by
  rcases h' k i with z | z
  · exact Or.inl z
  · rcases h k i with y | y
    · exact Or.inl y
    · exact Or.inr (z.trans y)
theorem mko_ud {m : Nat → Int → Int} {j v : Int} (h : 19 ≤ j ∧ j ≤ 23) : mko m (ud m 99 j v) := fun k i => by
  by_cases e : k = 99 ∧ i = j
  · exact Or.inl ⟨e.1, by omega, by omega⟩
  · exact Or.inr (ud_ne _ _ (by omega))
theorem mko_rf (m : Nat → Int → Int) : mko m m := fun _ _ => Or.inr rfl
theorem mko_go {m d d' : Nat → Int → Int} {t k : Int} : mko m (goM m d d' t k) := by
  unfold goM
  dsimp only
  split
  · exact mko_tr (mko_tr (mko_ud (by decide)) (mko_ud (by decide))) (mko_ud (by decide))
  · exact mko_ud (by decide)
theorem m_goNights {e : Nat → Int → Int} (he : okp e) (τ : qL) : ∀ (N : Nat) (a t : Int) (n d m : Nat → Int → Int), (0 ≤ a ∧ a ≤ 90 ∧ (e 99 1 - a).toNat + 2 ≤ N) → okd d → fl e N a = -6 → rcd e N a t m → (n 99 0 = t ∧ 0 ≤ t ∧ t ≤ a) → mrk n a → (n 99 4 = -6 ∨ 0 ≤ n 99 4) → (n 99 2 = -6 ∧ n 99 3 = -6) → mrks m n → m 99 17 ≤ 60 →
    ∃ m', q_lp (b_X7_goNights_31 τ) (fun z11 => some z11.2) N (zI t, eC (pw m d)) = some (eC (pw m' (run e N a n d).2.2)) ∧ mrks m' (run e N a n d).2.1 ∧ mko m m' := by
  intro N
  induction N with
  | zero => intro a t n d m h; omega
  | succ N ih =>
    intro a t n d m ⟨h0, h1, h2⟩ hd hf hrc ⟨hn0, ht0, ht1⟩ hm h4 h23 hmk h17
    have hn := he.2
    have hle := rcd_le _ _ _ _ hrc
    rw [lp_s]
    obtain ⟨k19, k20, k21, k22, k23⟩ := id hmk
    generalize hag : q_lp (b_X7_goNights_31 τ) (fun z11 => some z11.2) N = again at ih ⊢
    unfold b_X7_goNights_31 run
    by_cases c : e 99 1 ≤ a
    · unfold rcd at hrc
      rw [if_pos c] at hrc
      refine ⟨m, ?_, by rw [if_pos c]; exact hmk, mko_rf m⟩
      rw [if_pos c]
      simp (disch := omega) only [pw_0, up_0, pw_1, up_1, pw_2, up_2, pw_3, up_3, pw_4, up_4, pw_9, up_9, pw_10, up_10, pwi_5, upi_5, pwi_6, upi_6, pwi_7, upi_7, pwi_8, upi_8, pwi_11, upi_11, pw_12, up_12, pw_14, up_14, pw_15, up_15, pw_16, up_16, pw_18, up_18, pw_24, up_24, pw_25, up_25, pw_26, up_26, pw_29, up_29, pw_30, up_30, pw_31, up_31, pwi_13, upi_13, pwi_17, upi_17, pwi_19, upi_19, pwi_20, upi_20, pwi_21, upi_21, pwi_22, upi_22, pwi_23, upi_23, pwi_32, upi_32, pwi_33, upi_33, eC_5, eC_6, eC_13, eC_17, eC_19, eC_20, eC_21, eC_22, eC_23, eC_32, eC_33, eC_p5, eC_p6, eC_p13, eC_p17, eC_p19, eC_p20, eC_p21, eC_p22, eC_p23, eC_p32, eC_p33, s_T, s_F, s_bd, s_cl, s_rd, s_wr, s_ite, z_ite, z_neg, z_add, z_sub, z_mul, z_le, z_lt, z_eq, eC_at, eC_7, eC_8, eC_9, eC_10, eC_11, eC_p7, eC_p8, eC_p9, eC_p10, eC_p11, eC_up, ud_same, ud_ne, if_pos, if_neg, z_0, z_1, z_2, z_3, z_4, z_5, z_6, z_7, z_8, z_9, z_10, z_11, z_12, z_13, z_14, z_15, z_16, z_17, z_18, z_19, z_20, z_21, z_22, z_23, z_24, z_25, z_26, z_27, z_28, z_29, z_30, z_31, z_32, z_33, z_34, z_35, z_36, z_37, z_38, z_39, z_40, z_41, z_42, z_43, z_44, z_45, z_46, z_47, z_48, z_49, z_50, z_51, z_52, z_53, z_54, z_55, z_56, z_57, z_58, z_59, z_60, z_61, z_62, z_63, z_64, z_65, z_66, z_67, z_68, z_69, z_70, z_71, z_72, z_73, z_74, z_75, z_76, z_77, z_78, z_79, z_80, z_81, z_82, z_83, z_84, z_85, z_86, z_87, z_88, z_89, z_90, z_91, z_92, z_93, z_94, z_95, z_96, z_97, z_98, z_99, z_100, z_101, z_102, z_103, z_104, z_105, z_106, z_107, z_108, z_109, z_110, z_111, z_112, z_113, z_114, z_115, z_116, z_117, z_118, z_119, z_120, z_121, z_122, z_123, z_124, z_125, z_126, z_127, z_199, z_200, z_360, z_410, z_1000, z_1023, z_1024, z_1219, z_9999, z_10240, z_65537]
    · obtain ⟨hk, hw1, hw0, hn2⟩ := fl_act hf (by omega) h0
      unfold rcd at hrc
      rw [if_neg c] at hrc
      obtain ⟨q1, q2, q3, q4⟩ := hrc
      have hle2 := rcd_le _ _ _ _ q4
      have hrb : 0 ≤ rsn d (kdc (sg e a)) (wht e a) ∧ rsn d (kdc (sg e a)) (wht e a) ≤ 4 := by
        unfold rsn
        repeat' split
        all_goals omega
      have hre : rsn d (kdc (sg e a)) (m 15 t) = rsn d (kdc (sg e a)) (wht e a) := rsn_c q2
      have hact : actd d (kdc (sg e a)) (m 15 t) (m 16 t) = actd d (kdc (sg e a)) (wht e a) (10 * (sg e (a + 2) - 48)) := actd_c q3 q2
      have hwy := m_whyNot m d τ hd (w := m 15 t) hk.1 hk.2 (fun z => by rw [q2 z]; exact hw1 z)
      rw [hre] at hwy
      rw [if_neg c]
      have hm1 := hm.1
      have hm4 := hm.2.2
      by_cases cr : rsn d (kdc (sg e a)) (wht e a) = 0
      · rw [if_pos cr]
        have hg := m_goOne (ud (ud m 99 19 (-6)) 99 20 (-6)) d τ hd ht0 (by omega) (k := kdc (sg e a)) (w := m 15 t) (v := m 16 t)
          (by rw [ud_ne _ _ (by omega), ud_ne _ _ (by omega)]; exact q1) (by rw [ud_ne _ _ (by omega), ud_ne _ _ (by omega)]) (by rw [ud_ne _ _ (by omega), ud_ne _ _ (by omega)]) hk.1 hk.2
          (fun z => by rw [q2 z]; exact hw1 z) (fun z => by rw [(q3 z).1]; exact (hw0 z).1) (fun z => by rw [(q3 z).2]; have := (hw0 z).2; omega) (by rw [hre]; exact cr) (by rw [ud_ne _ _ (by omega), ud_ne _ _ (by omega)]; omega)
        rw [hact] at hg
        have hd' := okd_act hd hk.1 hk.2 hw1 (fun z => (hw0 z).1) (v := 10 * (sg e (a + 2) - 48)) (fun z => by have := (hw0 z).2; omega) cr
        have hm' := mrk_st (d := d) (d' := actd d (kdc (sg e a)) (wht e a) (10 * (sg e (a + 2) - 48))) (k := kdc (sg e a)) hm
        have hbl : ¬ kdc (sg e a) = 2 → bel (actd d (kdc (sg e a)) (wht e a) (10 * (sg e (a + 2) - 48))) (d 99 8) = bel d (d 99 8) := fun z => bed_bel z _
        generalize hD : actd d (kdc (sg e a)) (wht e a) (10 * (sg e (a + 2) - 48)) = d' at *
        generalize hM : goM (ud (ud m 99 19 (-6)) 99 20 (-6)) d d' t (kdc (sg e a)) = m2 at *
        have hko : mko m m2 := by
          rw [← hM]
          exact mko_tr (mko_tr (mko_ud (by decide)) (mko_ud (by decide))) mko_go
        have hn' : stN n d d' (kdc (sg e a)) 99 0 = t + 1 ∧ (stN n d d' (kdc (sg e a)) 99 4 = -6 ∨ 0 ≤ stN n d d' (kdc (sg e a)) 99 4) ∧ stN n d d' (kdc (sg e a)) 99 2 = -6 ∧ stN n d d' (kdc (sg e a)) 99 3 = -6 := by
          unfold stN
          try dsimp only
          split <;> split <;> simp (disch := omega) only [ud_same, ud_ne] <;> omega
        have hmk' : mrks m2 (stN n d d' (kdc (sg e a))) := by
          rw [← hM]
          unfold stN goM mrks
          try dsimp only
          by_cases c2 : kdc (sg e a) = 2
          · by_cases c3 : bel d' (d 99 8) = bel d (d 99 8)
            · rw [if_pos c2, if_pos c2, if_neg (by intro z; exact z.2.1 c3), if_neg (by intro z; exact z.2 c3)]
              simp (disch := omega) only [ud_same, ud_ne]
              refine ⟨?_, ?_, ?_, ?_, ?_⟩ <;> (first | omega | trivial | rfl)
            · by_cases c4 : n 99 4 = -6
              · rw [if_pos c2, if_pos c2, if_pos ⟨c2, c3, by simp (disch := omega) only [ud_same, ud_ne]; omega⟩, if_pos ⟨c4, c3⟩]
                simp (disch := omega) only [ud_same, ud_ne]
                refine ⟨?_, ?_, ?_, ?_, ?_⟩ <;> (first | omega | trivial | rfl)
              · rw [if_pos c2, if_pos c2, if_neg (by intro z; have := z.2.2; simp (disch := omega) only [ud_same, ud_ne] at this; omega), if_neg (by intro z; exact c4 z.1)]
                simp (disch := omega) only [ud_same, ud_ne]
                omega
          · rw [if_neg c2, if_neg c2, if_neg (by intro z; exact c2 z.1), if_neg (by intro z; exact z.2 (hbl c2))]
            simp (disch := omega) only [ud_same, ud_ne]
            omega
        obtain ⟨m', g1, g2, g3⟩ := ih (if kdc (sg e a) = 0 then a + 3 else a + 1) (t + 1) (stN n d d' (kdc (sg e a))) d' m2 ⟨by split <;> omega, by split <;> omega, by split <;> omega⟩ hd' hn2
          (rcd_frm _ _ _ m m2 (fun i => mko_at hko _ _ (by omega)) (fun i => mko_at hko _ _ (by omega)) (fun i => mko_at hko _ _ (by omega)) (mko_at hko _ _ (by omega)) q4)
          ⟨hn'.1, by omega, by split <;> omega⟩ (mrk_mono hm' (by split <;> omega)) hn'.2.1 ⟨hn'.2.2.1, hn'.2.2.2⟩ hmk' (by rw [mko_at hko _ _ (by omega)]; exact h17)
        refine ⟨m', ?_, g2, mko_tr hko g3⟩
        rw [← g1]
        simp (disch := omega) only [q1, hwy, cr, hg, pw_0, up_0, pw_1, up_1, pw_2, up_2, pw_3, up_3, pw_4, up_4, pw_9, up_9, pw_10, up_10, pwi_5, upi_5, pwi_6, upi_6, pwi_7, upi_7, pwi_8, upi_8, pwi_11, upi_11, pw_12, up_12, pw_14, up_14, pw_15, up_15, pw_16, up_16, pw_18, up_18, pw_24, up_24, pw_25, up_25, pw_26, up_26, pw_29, up_29, pw_30, up_30, pw_31, up_31, pwi_13, upi_13, pwi_17, upi_17, pwi_19, upi_19, pwi_20, upi_20, pwi_21, upi_21, pwi_22, upi_22, pwi_23, upi_23, pwi_32, upi_32, pwi_33, upi_33, eC_5, eC_6, eC_13, eC_17, eC_19, eC_20, eC_21, eC_22, eC_23, eC_32, eC_33, eC_p5, eC_p6, eC_p13, eC_p17, eC_p19, eC_p20, eC_p21, eC_p22, eC_p23, eC_p32, eC_p33, s_T, s_F, s_bd, s_cl, s_rd, s_wr, s_ite, z_ite, z_neg, z_add, z_sub, z_mul, z_le, z_lt, z_eq, eC_at, eC_7, eC_8, eC_9, eC_10, eC_11, eC_p7, eC_p8, eC_p9, eC_p10, eC_p11, eC_up, ud_same, ud_ne, if_pos, if_neg, z_0, z_1, z_2, z_3, z_4, z_5, z_6, z_7, z_8, z_9, z_10, z_11, z_12, z_13, z_14, z_15, z_16, z_17, z_18, z_19, z_20, z_21, z_22, z_23, z_24, z_25, z_26, z_27, z_28, z_29, z_30, z_31, z_32, z_33, z_34, z_35, z_36, z_37, z_38, z_39, z_40, z_41, z_42, z_43, z_44, z_45, z_46, z_47, z_48, z_49, z_50, z_51, z_52, z_53, z_54, z_55, z_56, z_57, z_58, z_59, z_60, z_61, z_62, z_63, z_64, z_65, z_66, z_67, z_68, z_69, z_70, z_71, z_72, z_73, z_74, z_75, z_76, z_77, z_78, z_79, z_80, z_81, z_82, z_83, z_84, z_85, z_86, z_87, z_88, z_89, z_90, z_91, z_92, z_93, z_94, z_95, z_96, z_97, z_98, z_99, z_100, z_101, z_102, z_103, z_104, z_105, z_106, z_107, z_108, z_109, z_110, z_111, z_112, z_113, z_114, z_115, z_116, z_117, z_118, z_119, z_120, z_121, z_122, z_123, z_124, z_125, z_126, z_127, z_199, z_200, z_360, z_410, z_1000, z_1023, z_1024, z_1219, z_9999, z_10240, z_65537]
      · rw [if_neg cr]
        have hN : 0 < N := by omega
        obtain ⟨N', rfl⟩ : ∃ q, N = q + 1 := ⟨N - 1, by omega⟩
        refine ⟨ud (ud m 99 19 t) 99 20 (rsn d (kdc (sg e a)) (wht e a)), ?_, ?_, mko_tr (mko_ud (by decide)) (mko_ud (by decide))⟩
        · have hend : again (zI (t + 1), eC (pw (ud (ud m 99 19 t) 99 20 (rsn d (kdc (sg e a)) (wht e a))) d)) = some (eC (pw (ud (ud m 99 19 t) 99 20 (rsn d (kdc (sg e a)) (wht e a))) d)) := by
            rw [← hag, lp_s]
            unfold b_X7_goNights_31
            by_cases c5 : m 99 17 ≤ t + 1
            · simp (disch := omega) only [pw_0, up_0, pw_1, up_1, pw_2, up_2, pw_3, up_3, pw_4, up_4, pw_9, up_9, pw_10, up_10, pwi_5, upi_5, pwi_6, upi_6, pwi_7, upi_7, pwi_8, upi_8, pwi_11, upi_11, pw_12, up_12, pw_14, up_14, pw_15, up_15, pw_16, up_16, pw_18, up_18, pw_24, up_24, pw_25, up_25, pw_26, up_26, pw_29, up_29, pw_30, up_30, pw_31, up_31, pwi_13, upi_13, pwi_17, upi_17, pwi_19, upi_19, pwi_20, upi_20, pwi_21, upi_21, pwi_22, upi_22, pwi_23, upi_23, pwi_32, upi_32, pwi_33, upi_33, eC_5, eC_6, eC_13, eC_17, eC_19, eC_20, eC_21, eC_22, eC_23, eC_32, eC_33, eC_p5, eC_p6, eC_p13, eC_p17, eC_p19, eC_p20, eC_p21, eC_p22, eC_p23, eC_p32, eC_p33, s_T, s_F, s_bd, s_cl, s_rd, s_wr, s_ite, z_ite, z_neg, z_add, z_sub, z_mul, z_le, z_lt, z_eq, eC_at, eC_7, eC_8, eC_9, eC_10, eC_11, eC_p7, eC_p8, eC_p9, eC_p10, eC_p11, eC_up, ud_same, ud_ne, if_pos, if_neg, z_0, z_1, z_2, z_3, z_4, z_5, z_6, z_7, z_8, z_9, z_10, z_11, z_12, z_13, z_14, z_15, z_16, z_17, z_18, z_19, z_20, z_21, z_22, z_23, z_24, z_25, z_26, z_27, z_28, z_29, z_30, z_31, z_32, z_33, z_34, z_35, z_36, z_37, z_38, z_39, z_40, z_41, z_42, z_43, z_44, z_45, z_46, z_47, z_48, z_49, z_50, z_51, z_52, z_53, z_54, z_55, z_56, z_57, z_58, z_59, z_60, z_61, z_62, z_63, z_64, z_65, z_66, z_67, z_68, z_69, z_70, z_71, z_72, z_73, z_74, z_75, z_76, z_77, z_78, z_79, z_80, z_81, z_82, z_83, z_84, z_85, z_86, z_87, z_88, z_89, z_90, z_91, z_92, z_93, z_94, z_95, z_96, z_97, z_98, z_99, z_100, z_101, z_102, z_103, z_104, z_105, z_106, z_107, z_108, z_109, z_110, z_111, z_112, z_113, z_114, z_115, z_116, z_117, z_118, z_119, z_120, z_121, z_122, z_123, z_124, z_125, z_126, z_127, z_199, z_200, z_360, z_410, z_1000, z_1023, z_1024, z_1219, z_9999, z_10240, z_65537]
            · simp (disch := omega) only [pw_0, up_0, pw_1, up_1, pw_2, up_2, pw_3, up_3, pw_4, up_4, pw_9, up_9, pw_10, up_10, pwi_5, upi_5, pwi_6, upi_6, pwi_7, upi_7, pwi_8, upi_8, pwi_11, upi_11, pw_12, up_12, pw_14, up_14, pw_15, up_15, pw_16, up_16, pw_18, up_18, pw_24, up_24, pw_25, up_25, pw_26, up_26, pw_29, up_29, pw_30, up_30, pw_31, up_31, pwi_13, upi_13, pwi_17, upi_17, pwi_19, upi_19, pwi_20, upi_20, pwi_21, upi_21, pwi_22, upi_22, pwi_23, upi_23, pwi_32, upi_32, pwi_33, upi_33, eC_5, eC_6, eC_13, eC_17, eC_19, eC_20, eC_21, eC_22, eC_23, eC_32, eC_33, eC_p5, eC_p6, eC_p13, eC_p17, eC_p19, eC_p20, eC_p21, eC_p22, eC_p23, eC_p32, eC_p33, s_T, s_F, s_bd, s_cl, s_rd, s_wr, s_ite, z_ite, z_neg, z_add, z_sub, z_mul, z_le, z_lt, z_eq, eC_at, eC_7, eC_8, eC_9, eC_10, eC_11, eC_p7, eC_p8, eC_p9, eC_p10, eC_p11, eC_up, ud_same, ud_ne, if_pos, if_neg, z_0, z_1, z_2, z_3, z_4, z_5, z_6, z_7, z_8, z_9, z_10, z_11, z_12, z_13, z_14, z_15, z_16, z_17, z_18, z_19, z_20, z_21, z_22, z_23, z_24, z_25, z_26, z_27, z_28, z_29, z_30, z_31, z_32, z_33, z_34, z_35, z_36, z_37, z_38, z_39, z_40, z_41, z_42, z_43, z_44, z_45, z_46, z_47, z_48, z_49, z_50, z_51, z_52, z_53, z_54, z_55, z_56, z_57, z_58, z_59, z_60, z_61, z_62, z_63, z_64, z_65, z_66, z_67, z_68, z_69, z_70, z_71, z_72, z_73, z_74, z_75, z_76, z_77, z_78, z_79, z_80, z_81, z_82, z_83, z_84, z_85, z_86, z_87, z_88, z_89, z_90, z_91, z_92, z_93, z_94, z_95, z_96, z_97, z_98, z_99, z_100, z_101, z_102, z_103, z_104, z_105, z_106, z_107, z_108, z_109, z_110, z_111, z_112, z_113, z_114, z_115, z_116, z_117, z_118, z_119, z_120, z_121, z_122, z_123, z_124, z_125, z_126, z_127, z_199, z_200, z_360, z_410, z_1000, z_1023, z_1024, z_1219, z_9999, z_10240, z_65537]
          try dsimp only
          rw [← hend]
          simp (disch := omega) only [q1, hwy, pw_0, up_0, pw_1, up_1, pw_2, up_2, pw_3, up_3, pw_4, up_4, pw_9, up_9, pw_10, up_10, pwi_5, upi_5, pwi_6, upi_6, pwi_7, upi_7, pwi_8, upi_8, pwi_11, upi_11, pw_12, up_12, pw_14, up_14, pw_15, up_15, pw_16, up_16, pw_18, up_18, pw_24, up_24, pw_25, up_25, pw_26, up_26, pw_29, up_29, pw_30, up_30, pw_31, up_31, pwi_13, upi_13, pwi_17, upi_17, pwi_19, upi_19, pwi_20, upi_20, pwi_21, upi_21, pwi_22, upi_22, pwi_23, upi_23, pwi_32, upi_32, pwi_33, upi_33, eC_5, eC_6, eC_13, eC_17, eC_19, eC_20, eC_21, eC_22, eC_23, eC_32, eC_33, eC_p5, eC_p6, eC_p13, eC_p17, eC_p19, eC_p20, eC_p21, eC_p22, eC_p23, eC_p32, eC_p33, s_T, s_F, s_bd, s_cl, s_rd, s_wr, s_ite, z_ite, z_neg, z_add, z_sub, z_mul, z_le, z_lt, z_eq, eC_at, eC_7, eC_8, eC_9, eC_10, eC_11, eC_p7, eC_p8, eC_p9, eC_p10, eC_p11, eC_up, ud_same, ud_ne, if_pos, if_neg, z_0, z_1, z_2, z_3, z_4, z_5, z_6, z_7, z_8, z_9, z_10, z_11, z_12, z_13, z_14, z_15, z_16, z_17, z_18, z_19, z_20, z_21, z_22, z_23, z_24, z_25, z_26, z_27, z_28, z_29, z_30, z_31, z_32, z_33, z_34, z_35, z_36, z_37, z_38, z_39, z_40, z_41, z_42, z_43, z_44, z_45, z_46, z_47, z_48, z_49, z_50, z_51, z_52, z_53, z_54, z_55, z_56, z_57, z_58, z_59, z_60, z_61, z_62, z_63, z_64, z_65, z_66, z_67, z_68, z_69, z_70, z_71, z_72, z_73, z_74, z_75, z_76, z_77, z_78, z_79, z_80, z_81, z_82, z_83, z_84, z_85, z_86, z_87, z_88, z_89, z_90, z_91, z_92, z_93, z_94, z_95, z_96, z_97, z_98, z_99, z_100, z_101, z_102, z_103, z_104, z_105, z_106, z_107, z_108, z_109, z_110, z_111, z_112, z_113, z_114, z_115, z_116, z_117, z_118, z_119, z_120, z_121, z_122, z_123, z_124, z_125, z_126, z_127, z_199, z_200, z_360, z_410, z_1000, z_1023, z_1024, z_1219, z_9999, z_10240, z_65537]
        · unfold mrks
          dsimp only
          simp (disch := omega) only [ud_same, ud_ne]
          refine ⟨?_, ?_, ?_, ?_, ?_⟩ <;> (first | omega | trivial | rfl)

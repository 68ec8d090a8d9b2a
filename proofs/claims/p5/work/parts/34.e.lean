/-! images -/
theorem ud_self (d : Nat → Int → Int) (k : Nat) (i : Int) : ud d k i (d k i) = d := by
  funext a b
  unfold ud
  split
  · next z => obtain ⟨rfl, rfl⟩ := z; rfl
  · rfl
theorem ud_ud (d : Nat → Int → Int) (k : Nat) (i u v : Int) : ud (ud d k i u) k i v = ud d k i v := by
  funext a b
  unfold ud
  split <;> rfl
/-- a new Close -/
def dz : Nat → Int → Int := fun k i => if k = 99 then (if i = 8 then 10 else 0) else if k = 1 then 5 else if k = 3 then -6 else if k = 4 then i else 0
theorem dz_ok : okd dz := by
  intro k i
  unfold dz lod hid
  by_cases h99 : k = 99
  · subst h99
    simp only [if_pos, if_neg, show ¬ (99 = 0) by decide, show ¬ (99 = 1) by decide, show ¬ (99 = 2) by decide, show ¬ (99 = 3) by decide, show ¬ (99 = 4) by decide, show ¬ (99 = 5) by decide, show ¬ (99 = 6) by decide, if_false, if_true]
    split
    · next e => subst e; simp only [show ¬ ((8 : Int) = 7) by decide, if_false, if_true]; omega
    · split
      · omega
      · split
        · omega
        · split <;> omega
  · by_cases h1 : k = 1
    · subst h1; simp only [if_true, show ¬ (1 = 99) by decide, show ¬ (1 = 0) by decide, show ¬ (1 = 3) by decide, show ¬ (1 = 4) by decide, if_false]; omega
    · by_cases h3 : k = 3
      · subst h3; simp only [if_true, show ¬ (3 = 99) by decide, show ¬ (3 = 0) by decide, show ¬ (3 = 1) by decide, show ¬ (3 = 2) by decide, show ¬ (3 = 4) by decide, if_false]; omega
      · by_cases h4 : k = 4
        · subst h4; simp only [if_true, show ¬ (4 = 99) by decide, show ¬ (4 = 0) by decide, show ¬ (4 = 1) by decide, show ¬ (4 = 2) by decide, show ¬ (4 = 3) by decide, if_false]
          split <;> split <;> omega
        · simp only [h99, h1, h3, h4, if_false]
          by_cases h0 : k = 0
          · simp only [h0, if_true]; omega
          · by_cases h2 : k = 2
            · subst h2; simp only [if_true, h0, if_false]; omega
            · by_cases h5 : k = 5
              · subst h5; simp only [if_true, h0, h2, if_false]; omega
              · by_cases h6 : k = 6
                · subst h6; simp only [if_true, h0, h2, h5, if_false]; omega
                · simp only [h0, h2, h5, h6, if_false]; omega
theorem qC0_dz : qC0 = eC dz := by
  funext k j
  unfold qC0 eC dz
  by_cases h99 : k = 99
  · subst h99
    show (if j = 8 then (10 : Int32) else 0) = zI (if 99 = 99 then (if (j : Int) = 8 then 10 else 0) else _)
    rw [if_pos rfl]
    by_cases h : j = 8
    · rw [if_pos h, if_pos (by omega)]; decide
    · rw [if_neg h, if_neg (by omega)]; decide
  · have e : ∀ n, k ≠ n → Nat.beq k n = false := fun n h => by
      cases z : Nat.beq k n with
      | false => rfl
      | true => exact absurd (Nat.eq_of_beq_eq_true z) h
    rw [e 99 h99, cond_false, if_neg h99]
    by_cases h1 : k = 1
    · subst h1; rw [if_pos rfl]; exact z_5
    · rw [e 1 h1, cond_false, if_neg h1]
      by_cases h3 : k = 3
      · subst h3; rw [if_pos rfl]; show (-6 : Int32) = zI (-6); decide
      · rw [e 3 h3, cond_false, if_neg h3]
        by_cases h4 : k = 4
        · subst h4; rw [if_pos rfl]; exact z_n j
        · rw [e 4 h4, cond_false, if_neg h4]; exact z_0
/-- where an image lies -/
def imgR (m : Nat → Int → Int) (c : Int) (d : Nat → Int → Int) : Prop := m 30 (c + 0) = d 99 8 ∧ m 30 (c + 1) = d 99 9 ∧ m 30 (c + 2) = d 99 10 ∧ m 30 (c + 3) = d 99 11 ∧ m 30 (c + 4) = d 99 7 ∧ (∀ j, 0 ≤ j → j < 121 → m 30 (c + 5 + j) = d 0 j) ∧ (∀ j, 0 ≤ j → j < 10 → m 30 (c + 126 + j) = d 1 j) ∧ (∀ j, 0 ≤ j → j < 10 → m 30 (c + 136 + j) = d 2 j) ∧ (∀ j, 0 ≤ j → j < 10 → m 30 (c + 146 + j) = d 3 j) ∧ (∀ j, 0 ≤ j → j < 10 → m 30 (c + 156 + j) = d 4 j) ∧ (∀ j, 0 ≤ j → j < 8 → m 30 (c + 166 + j) = d 5 j) ∧ (∀ j, 0 ≤ j → j < 8 → m 30 (c + 174 + j) = d 6 j)
def fW (m m' : Nat → Int → Int) (c e : Int) : Prop := m' 99 32 = e ∧ ∀ a b, (a = 30 ∧ c ≤ b ∧ b < e) ∨ (a = 99 ∧ b = 32) ∨ m' a b = m a b
theorem fW_tr {m m' m'' : Nat → Int → Int} {c e f : Int} (h : fW m m' c e) (h' : fW m' m'' e f) (h1 : c ≤ e) (h2 : e ≤ f) : fW m m'' c f := by
  refine ⟨h'.1, fun a b => ?_⟩
  rcases h'.2 a b with z | z | z
  · exact Or.inl (by omega)
  · exact Or.inr (Or.inl z)
  · rcases h.2 a b with y | y | y
    · exact Or.inl (by omega)
    · exact Or.inr (Or.inl y)
    · exact Or.inr (Or.inr (z.trans y))
theorem fW_at {m m' : Nat → Int → Int} {c e b : Int} (h : fW m m' c e) (hb : b < c) : m' 30 b = m 30 b := by
  rcases h.2 30 b with z | z | z
  · omega
  · omega
  · exact z
theorem fW_33 {m m' : Nat → Int → Int} {c e : Int} (h : fW m m' c e) : m' 99 33 = m 99 33 := by
  rcases h.2 99 33 with z | z | z
  · omega
  · omega
  · exact z
theorem m_passW (m d : Nat → Int → Int) (τ : qL) {v : Int} (h : m 99 33 = 1) (h0 : 0 ≤ m 99 32) (h1 : m 99 32 < 400) : f_X7_pass (eC (pw m d)) τ (zI v) = some (zI v, eC (pw (ud (ud m 30 (m 99 32) v) 99 32 (m 99 32 + 1)) d)) := by
  unfold f_X7_pass
  simp (disch := omega) only [h, pw_0, up_0, pw_1, up_1, pw_2, up_2, pw_3, up_3, pw_4, up_4, pw_9, up_9, pw_10, up_10, pwi_5, upi_5, pwi_6, upi_6, pwi_7, upi_7, pwi_8, upi_8, pwi_11, upi_11, pw_12, up_12, pw_14, up_14, pw_15, up_15, pw_16, up_16, pw_18, up_18, pw_24, up_24, pw_25, up_25, pw_26, up_26, pw_29, up_29, pw_30, up_30, pw_31, up_31, pwi_13, upi_13, pwi_17, upi_17, pwi_19, upi_19, pwi_20, upi_20, pwi_21, upi_21, pwi_22, upi_22, pwi_23, upi_23, pwi_32, upi_32, pwi_33, upi_33, eC_5, eC_6, eC_13, eC_17, eC_19, eC_20, eC_21, eC_22, eC_23, eC_32, eC_33, eC_p5, eC_p6, eC_p13, eC_p17, eC_p19, eC_p20, eC_p21, eC_p22, eC_p23, eC_p32, eC_p33, s_T, s_F, s_bd, s_cl, s_rd, s_wr, s_ite, z_ite, z_neg, z_add, z_sub, z_mul, z_le, z_lt, z_eq, eC_at, eC_7, eC_8, eC_9, eC_10, eC_11, eC_p7, eC_p8, eC_p9, eC_p10, eC_p11, eC_up, ud_same, ud_ne, if_pos, if_neg, z_0, z_1, z_2, z_3, z_4, z_5, z_6, z_7, z_8, z_9, z_10, z_11, z_12, z_13, z_14, z_15, z_16, z_17, z_18, z_19, z_20, z_21, z_22, z_23, z_24, z_25, z_26, z_27, z_28, z_29, z_30, z_31, z_32, z_33, z_34, z_35, z_36, z_37, z_38, z_39, z_40, z_41, z_42, z_43, z_44, z_45, z_46, z_47, z_48, z_49, z_50, z_51, z_52, z_53, z_54, z_55, z_56, z_57, z_58, z_59, z_60, z_61, z_62, z_63, z_64, z_65, z_66, z_67, z_68, z_69, z_70, z_71, z_72, z_73, z_74, z_75, z_76, z_77, z_78, z_79, z_80, z_81, z_82, z_83, z_84, z_85, z_86, z_87, z_88, z_89, z_90, z_91, z_92, z_93, z_94, z_95, z_96, z_97, z_98, z_99, z_100, z_101, z_102, z_103, z_104, z_105, z_106, z_107, z_108, z_109, z_110, z_111, z_112, z_113, z_114, z_115, z_116, z_117, z_118, z_119, z_120, z_121, z_122, z_123, z_124, z_125, z_126, z_127, z_199, z_200, z_360, z_410, z_1000, z_1023, z_1024, z_1219, z_9999, z_10240, z_65537]
theorem m_passR (m d : Nat → Int → Int) (τ : qL) (v : Int32) (h : m 99 33 = 0) (h0 : 0 ≤ m 99 32) (h1 : m 99 32 < 400) : f_X7_pass (eC (pw m d)) τ v = some (zI (m 30 (m 99 32)), eC (pw (ud m 99 32 (m 99 32 + 1)) d)) := by
  unfold f_X7_pass
  simp (disch := omega) only [h, ud_self, pw_0, up_0, pw_1, up_1, pw_2, up_2, pw_3, up_3, pw_4, up_4, pw_9, up_9, pw_10, up_10, pwi_5, upi_5, pwi_6, upi_6, pwi_7, upi_7, pwi_8, upi_8, pwi_11, upi_11, pw_12, up_12, pw_14, up_14, pw_15, up_15, pw_16, up_16, pw_18, up_18, pw_24, up_24, pw_25, up_25, pw_26, up_26, pw_29, up_29, pw_30, up_30, pw_31, up_31, pwi_13, upi_13, pwi_17, upi_17, pwi_19, upi_19, pwi_20, upi_20, pwi_21, upi_21, pwi_22, upi_22, pwi_23, upi_23, pwi_32, upi_32, pwi_33, upi_33, eC_5, eC_6, eC_13, eC_17, eC_19, eC_20, eC_21, eC_22, eC_23, eC_32, eC_33, eC_p5, eC_p6, eC_p13, eC_p17, eC_p19, eC_p20, eC_p21, eC_p22, eC_p23, eC_p32, eC_p33, s_T, s_F, s_bd, s_cl, s_rd, s_wr, s_ite, z_ite, z_neg, z_add, z_sub, z_mul, z_le, z_lt, z_eq, eC_at, eC_7, eC_8, eC_9, eC_10, eC_11, eC_p7, eC_p8, eC_p9, eC_p10, eC_p11, eC_up, ud_same, ud_ne, if_pos, if_neg, z_0, z_1, z_2, z_3, z_4, z_5, z_6, z_7, z_8, z_9, z_10, z_11, z_12, z_13, z_14, z_15, z_16, z_17, z_18, z_19, z_20, z_21, z_22, z_23, z_24, z_25, z_26, z_27, z_28, z_29, z_30, z_31, z_32, z_33, z_34, z_35, z_36, z_37, z_38, z_39, z_40, z_41, z_42, z_43, z_44, z_45, z_46, z_47, z_48, z_49, z_50, z_51, z_52, z_53, z_54, z_55, z_56, z_57, z_58, z_59, z_60, z_61, z_62, z_63, z_64, z_65, z_66, z_67, z_68, z_69, z_70, z_71, z_72, z_73, z_74, z_75, z_76, z_77, z_78, z_79, z_80, z_81, z_82, z_83, z_84, z_85, z_86, z_87, z_88, z_89, z_90, z_91, z_92, z_93, z_94, z_95, z_96, z_97, z_98, z_99, z_100, z_101, z_102, z_103, z_104, z_105, z_106, z_107, z_108, z_109, z_110, z_111, z_112, z_113, z_114, z_115, z_116, z_117, z_118, z_119, z_120, z_121, z_122, z_123, z_124, z_125, z_126, z_127, z_199, z_200, z_360, z_410, z_1000, z_1023, z_1024, z_1219, z_9999, z_10240, z_65537]
theorem fW_1 (m : Nat → Int → Int) {c : Int} (v : Int) (hc : m 99 32 = c) : fW m (ud (ud m 30 c v) 99 32 (c + 1)) c (c + 1) := by
  refine ⟨ud_same _ _ _ _, fun a b => ?_⟩
  by_cases e : a = 99 ∧ b = 32
  · exact Or.inr (Or.inl e)
  · by_cases e2 : a = 30 ∧ b = c
    · exact Or.inl (by omega)
    · exact Or.inr (Or.inr (by rw [ud_ne _ _ (by omega), ud_ne _ _ (by omega)]))

theorem mw_0 (d : Nat → Int → Int) (τ : qL) : ∀ (N : Nat) (i : Int) (m : Nat → Int → Int), 0 ≤ i → i ≤ 121 → (121 - i).toNat < N → m 99 33 = 1 → 0 ≤ m 99 32 → m 99 32 + (121 - i) ≤ 400 →
    ∃ m', q_lp (b_X7_passRow_0_2 τ (121 : Int32)) (fun z1 => some z1.2) N (zI i, eC (pw m d)) = some (eC (pw m' d)) ∧ fW m m' (m 99 32) (m 99 32 + (121 - i)) ∧ (∀ j, i ≤ j → j < 121 → m' 30 (m 99 32 + (j - i)) = d 0 j) := by
  intro N
  induction N with
  | zero => intro i m _ _ h; omega
  | succ N ih =>
    intro i m h0 h1 hN h33 c0 c1
    rw [lp_s]
    unfold b_X7_passRow_0_2
    by_cases c : i < 121
    · have hp := m_passW m d τ (v := d 0 i) h33 c0 (by omega)
      obtain ⟨m', e1, e2, e3⟩ := ih (i + 1) (ud (ud m 30 (m 99 32) (d 0 i)) 99 32 (m 99 32 + 1)) (by omega) (by omega) (by omega) (by rw [ud_ne _ _ (by omega), ud_ne _ _ (by omega)]; exact h33) (by rw [ud_same]; omega) (by rw [ud_same]; omega)
      rw [ud_same] at e2 e3
      have h1' := fW_1 m (d 0 i) rfl
      refine ⟨m', ?_, ?_, fun j j0 j1 => ?_⟩
      · simp (disch := omega) only [hp, ud_self, pw_0, up_0, pw_1, up_1, pw_2, up_2, pw_3, up_3, pw_4, up_4, pw_9, up_9, pw_10, up_10, pwi_5, upi_5, pwi_6, upi_6, pwi_7, upi_7, pwi_8, upi_8, pwi_11, upi_11, pw_12, up_12, pw_14, up_14, pw_15, up_15, pw_16, up_16, pw_18, up_18, pw_24, up_24, pw_25, up_25, pw_26, up_26, pw_29, up_29, pw_30, up_30, pw_31, up_31, pwi_13, upi_13, pwi_17, upi_17, pwi_19, upi_19, pwi_20, upi_20, pwi_21, upi_21, pwi_22, upi_22, pwi_23, upi_23, pwi_32, upi_32, pwi_33, upi_33, eC_5, eC_6, eC_13, eC_17, eC_19, eC_20, eC_21, eC_22, eC_23, eC_32, eC_33, eC_p5, eC_p6, eC_p13, eC_p17, eC_p19, eC_p20, eC_p21, eC_p22, eC_p23, eC_p32, eC_p33, s_T, s_F, s_bd, s_cl, s_rd, s_wr, s_ite, z_ite, z_neg, z_add, z_sub, z_mul, z_le, z_lt, z_eq, eC_at, eC_7, eC_8, eC_9, eC_10, eC_11, eC_p7, eC_p8, eC_p9, eC_p10, eC_p11, eC_up, ud_same, ud_ne, if_pos, if_neg, z_0, z_1, z_2, z_3, z_4, z_5, z_6, z_7, z_8, z_9, z_10, z_11, z_12, z_13, z_14, z_15, z_16, z_17, z_18, z_19, z_20, z_21, z_22, z_23, z_24, z_25, z_26, z_27, z_28, z_29, z_30, z_31, z_32, z_33, z_34, z_35, z_36, z_37, z_38, z_39, z_40, z_41, z_42, z_43, z_44, z_45, z_46, z_47, z_48, z_49, z_50, z_51, z_52, z_53, z_54, z_55, z_56, z_57, z_58, z_59, z_60, z_61, z_62, z_63, z_64, z_65, z_66, z_67, z_68, z_69, z_70, z_71, z_72, z_73, z_74, z_75, z_76, z_77, z_78, z_79, z_80, z_81, z_82, z_83, z_84, z_85, z_86, z_87, z_88, z_89, z_90, z_91, z_92, z_93, z_94, z_95, z_96, z_97, z_98, z_99, z_100, z_101, z_102, z_103, z_104, z_105, z_106, z_107, z_108, z_109, z_110, z_111, z_112, z_113, z_114, z_115, z_116, z_117, z_118, z_119, z_120, z_121, z_122, z_123, z_124, z_125, z_126, z_127, z_199, z_200, z_360, z_410, z_1000, z_1023, z_1024, z_1219, z_9999, z_10240, z_65537]
        exact e1
      · have := fW_tr h1' e2 (by omega) (by omega)
        rw [show m 99 32 + 1 + (121 - (i + 1)) = m 99 32 + (121 - i) by omega] at this
        exact this
      · by_cases e : j = i
        · subst e
          rw [show m 99 32 + (j - j) = m 99 32 by omega, fW_at e2 (by omega), ud_ne _ _ (by omega), ud_same]
        · have := e3 j (by omega) j1
          rw [show m 99 32 + 1 + (j - (i + 1)) = m 99 32 + (j - i) by omega] at this
          exact this
    · refine ⟨m, ?_, ⟨by omega, fun a b => Or.inr (Or.inr rfl)⟩, fun j j0 j1 => by omega⟩
      simp (disch := omega) only [pw_0, up_0, pw_1, up_1, pw_2, up_2, pw_3, up_3, pw_4, up_4, pw_9, up_9, pw_10, up_10, pwi_5, upi_5, pwi_6, upi_6, pwi_7, upi_7, pwi_8, upi_8, pwi_11, upi_11, pw_12, up_12, pw_14, up_14, pw_15, up_15, pw_16, up_16, pw_18, up_18, pw_24, up_24, pw_25, up_25, pw_26, up_26, pw_29, up_29, pw_30, up_30, pw_31, up_31, pwi_13, upi_13, pwi_17, upi_17, pwi_19, upi_19, pwi_20, upi_20, pwi_21, upi_21, pwi_22, upi_22, pwi_23, upi_23, pwi_32, upi_32, pwi_33, upi_33, eC_5, eC_6, eC_13, eC_17, eC_19, eC_20, eC_21, eC_22, eC_23, eC_32, eC_33, eC_p5, eC_p6, eC_p13, eC_p17, eC_p19, eC_p20, eC_p21, eC_p22, eC_p23, eC_p32, eC_p33, s_T, s_F, s_bd, s_cl, s_rd, s_wr, s_ite, z_ite, z_neg, z_add, z_sub, z_mul, z_le, z_lt, z_eq, eC_at, eC_7, eC_8, eC_9, eC_10, eC_11, eC_p7, eC_p8, eC_p9, eC_p10, eC_p11, eC_up, ud_same, ud_ne, if_pos, if_neg, z_0, z_1, z_2, z_3, z_4, z_5, z_6, z_7, z_8, z_9, z_10, z_11, z_12, z_13, z_14, z_15, z_16, z_17, z_18, z_19, z_20, z_21, z_22, z_23, z_24, z_25, z_26, z_27, z_28, z_29, z_30, z_31, z_32, z_33, z_34, z_35, z_36, z_37, z_38, z_39, z_40, z_41, z_42, z_43, z_44, z_45, z_46, z_47, z_48, z_49, z_50, z_51, z_52, z_53, z_54, z_55, z_56, z_57, z_58, z_59, z_60, z_61, z_62, z_63, z_64, z_65, z_66, z_67, z_68, z_69, z_70, z_71, z_72, z_73, z_74, z_75, z_76, z_77, z_78, z_79, z_80, z_81, z_82, z_83, z_84, z_85, z_86, z_87, z_88, z_89, z_90, z_91, z_92, z_93, z_94, z_95, z_96, z_97, z_98, z_99, z_100, z_101, z_102, z_103, z_104, z_105, z_106, z_107, z_108, z_109, z_110, z_111, z_112, z_113, z_114, z_115, z_116, z_117, z_118, z_119, z_120, z_121, z_122, z_123, z_124, z_125, z_126, z_127, z_199, z_200, z_360, z_410, z_1000, z_1023, z_1024, z_1219, z_9999, z_10240, z_65537]
theorem mr_0 (τ : qL) : ∀ (N : Nat) (i : Int) (m d : Nat → Int → Int), 0 ≤ i → i ≤ 121 → (121 - i).toNat < N → m 99 33 = 0 → 0 ≤ m 99 32 → m 99 32 + (121 - i) ≤ 400 →
    ∃ d', q_lp (b_X7_passRow_0_2 τ (121 : Int32)) (fun z1 => some z1.2) N (zI i, eC (pw m d)) = some (eC (pw (ud m 99 32 (m 99 32 + (121 - i))) d')) ∧ (∀ a b, (a = 0 ∧ i ≤ b ∧ b < 121) ∨ d' a b = d a b) ∧ (∀ j, i ≤ j → j < 121 → d' 0 j = m 30 (m 99 32 + (j - i))) := by
  intro N
  induction N with
  | zero => intro i m d _ _ h; omega
  | succ N ih =>
    intro i m d h0 h1 hN h33 c0 c1
    rw [lp_s]
    unfold b_X7_passRow_0_2
    by_cases c : i < 121
    · have hp := m_passR m d τ (zI (d 0 i)) h33 c0 (by omega)
      obtain ⟨d', e1, e2, e3⟩ := ih (i + 1) (ud m 99 32 (m 99 32 + 1)) (ud d 0 i (m 30 (m 99 32))) (by omega) (by omega) (by omega) (by rw [ud_ne _ _ (by omega)]; exact h33) (by rw [ud_same]; omega) (by rw [ud_same]; omega)
      rw [ud_same, ud_ud, show m 99 32 + 1 + (121 - (i + 1)) = m 99 32 + (121 - i) by omega] at e1
      refine ⟨d', ?_, fun a b => ?_, fun j j0 j1 => ?_⟩
      · simp (disch := omega) only [hp, pw_0, up_0, pw_1, up_1, pw_2, up_2, pw_3, up_3, pw_4, up_4, pw_9, up_9, pw_10, up_10, pwi_5, upi_5, pwi_6, upi_6, pwi_7, upi_7, pwi_8, upi_8, pwi_11, upi_11, pw_12, up_12, pw_14, up_14, pw_15, up_15, pw_16, up_16, pw_18, up_18, pw_24, up_24, pw_25, up_25, pw_26, up_26, pw_29, up_29, pw_30, up_30, pw_31, up_31, pwi_13, upi_13, pwi_17, upi_17, pwi_19, upi_19, pwi_20, upi_20, pwi_21, upi_21, pwi_22, upi_22, pwi_23, upi_23, pwi_32, upi_32, pwi_33, upi_33, eC_5, eC_6, eC_13, eC_17, eC_19, eC_20, eC_21, eC_22, eC_23, eC_32, eC_33, eC_p5, eC_p6, eC_p13, eC_p17, eC_p19, eC_p20, eC_p21, eC_p22, eC_p23, eC_p32, eC_p33, s_T, s_F, s_bd, s_cl, s_rd, s_wr, s_ite, z_ite, z_neg, z_add, z_sub, z_mul, z_le, z_lt, z_eq, eC_at, eC_7, eC_8, eC_9, eC_10, eC_11, eC_p7, eC_p8, eC_p9, eC_p10, eC_p11, eC_up, ud_same, ud_ne, if_pos, if_neg, z_0, z_1, z_2, z_3, z_4, z_5, z_6, z_7, z_8, z_9, z_10, z_11, z_12, z_13, z_14, z_15, z_16, z_17, z_18, z_19, z_20, z_21, z_22, z_23, z_24, z_25, z_26, z_27, z_28, z_29, z_30, z_31, z_32, z_33, z_34, z_35, z_36, z_37, z_38, z_39, z_40, z_41, z_42, z_43, z_44, z_45, z_46, z_47, z_48, z_49, z_50, z_51, z_52, z_53, z_54, z_55, z_56, z_57, z_58, z_59, z_60, z_61, z_62, z_63, z_64, z_65, z_66, z_67, z_68, z_69, z_70, z_71, z_72, z_73, z_74, z_75, z_76, z_77, z_78, z_79, z_80, z_81, z_82, z_83, z_84, z_85, z_86, z_87, z_88, z_89, z_90, z_91, z_92, z_93, z_94, z_95, z_96, z_97, z_98, z_99, z_100, z_101, z_102, z_103, z_104, z_105, z_106, z_107, z_108, z_109, z_110, z_111, z_112, z_113, z_114, z_115, z_116, z_117, z_118, z_119, z_120, z_121, z_122, z_123, z_124, z_125, z_126, z_127, z_199, z_200, z_360, z_410, z_1000, z_1023, z_1024, z_1219, z_9999, z_10240, z_65537]
        exact e1
      · rcases e2 a b with z | z
        · exact Or.inl (by omega)
        · by_cases e : a = 0 ∧ b = i
          · exact Or.inl (by omega)
          · exact Or.inr (by rw [z, ud_ne _ _ (by omega)])
      · by_cases e : j = i
        · subst e
          rcases e2 0 j with z | z
          · omega
          · rw [z, ud_same, show m 99 32 + (j - j) = m 99 32 by omega]
        · have := e3 j (by omega) j1
          rw [ud_same, ud_ne _ _ (by omega), show m 99 32 + 1 + (j - (i + 1)) = m 99 32 + (j - i) by omega] at this
          exact this
    · refine ⟨d, ?_, fun a b => Or.inr rfl, fun j j0 j1 => by omega⟩
      rw [show m 99 32 + (121 - i) = m 99 32 by omega, ud_self]
      simp (disch := omega) only [pw_0, up_0, pw_1, up_1, pw_2, up_2, pw_3, up_3, pw_4, up_4, pw_9, up_9, pw_10, up_10, pwi_5, upi_5, pwi_6, upi_6, pwi_7, upi_7, pwi_8, upi_8, pwi_11, upi_11, pw_12, up_12, pw_14, up_14, pw_15, up_15, pw_16, up_16, pw_18, up_18, pw_24, up_24, pw_25, up_25, pw_26, up_26, pw_29, up_29, pw_30, up_30, pw_31, up_31, pwi_13, upi_13, pwi_17, upi_17, pwi_19, upi_19, pwi_20, upi_20, pwi_21, upi_21, pwi_22, upi_22, pwi_23, upi_23, pwi_32, upi_32, pwi_33, upi_33, eC_5, eC_6, eC_13, eC_17, eC_19, eC_20, eC_21, eC_22, eC_23, eC_32, eC_33, eC_p5, eC_p6, eC_p13, eC_p17, eC_p19, eC_p20, eC_p21, eC_p22, eC_p23, eC_p32, eC_p33, s_T, s_F, s_bd, s_cl, s_rd, s_wr, s_ite, z_ite, z_neg, z_add, z_sub, z_mul, z_le, z_lt, z_eq, eC_at, eC_7, eC_8, eC_9, eC_10, eC_11, eC_p7, eC_p8, eC_p9, eC_p10, eC_p11, eC_up, ud_same, ud_ne, if_pos, if_neg, z_0, z_1, z_2, z_3, z_4, z_5, z_6, z_7, z_8, z_9, z_10, z_11, z_12, z_13, z_14, z_15, z_16, z_17, z_18, z_19, z_20, z_21, z_22, z_23, z_24, z_25, z_26, z_27, z_28, z_29, z_30, z_31, z_32, z_33, z_34, z_35, z_36, z_37, z_38, z_39, z_40, z_41, z_42, z_43, z_44, z_45, z_46, z_47, z_48, z_49, z_50, z_51, z_52, z_53, z_54, z_55, z_56, z_57, z_58, z_59, z_60, z_61, z_62, z_63, z_64, z_65, z_66, z_67, z_68, z_69, z_70, z_71, z_72, z_73, z_74, z_75, z_76, z_77, z_78, z_79, z_80, z_81, z_82, z_83, z_84, z_85, z_86, z_87, z_88, z_89, z_90, z_91, z_92, z_93, z_94, z_95, z_96, z_97, z_98, z_99, z_100, z_101, z_102, z_103, z_104, z_105, z_106, z_107, z_108, z_109, z_110, z_111, z_112, z_113, z_114, z_115, z_116, z_117, z_118, z_119, z_120, z_121, z_122, z_123, z_124, z_125, z_126, z_127, z_199, z_200, z_360, z_410, z_1000, z_1023, z_1024, z_1219, z_9999, z_10240, z_65537]
theorem mwr_0 (d m : Nat → Int → Int) (τ : qL) {c : Int} (hc : m 99 32 = c) (c0 : 0 ≤ c) (c1 : c + 121 ≤ 400) (h33 : m 99 33 = 1) : ∃ m', f_X7_passRow_0 (eC (pw m d)) τ (121 : Int32) = some (eC (pw m' d)) ∧ fW m m' c (c + 121) ∧ (∀ j, 0 ≤ j → j < 121 → m' 30 (c + j) = d 0 j) := by
  subst hc
  obtain ⟨m', e1, e2, e3⟩ := mw_0 d τ 20000 0 m (by omega) (by omega) (by omega) h33 c0 (by omega)
  refine ⟨m', e1, by rw [show m 99 32 + ((121 : Int) - 0) = m 99 32 + 121 by omega] at e2; exact e2, fun j j0 j1 => ?_⟩
  have := e3 j j0 j1
  rwa [show m 99 32 + (j - 0) = m 99 32 + j by omega] at this
theorem mrr_0 (m d : Nat → Int → Int) (τ : qL) {c : Int} (hc : m 99 32 = c) (c0 : 0 ≤ c) (c1 : c + 121 ≤ 400) (h33 : m 99 33 = 0) : ∃ d', f_X7_passRow_0 (eC (pw m d)) τ (121 : Int32) = some (eC (pw (ud m 99 32 (c + 121)) d')) ∧ (∀ a b, (a = 0 ∧ 0 ≤ b ∧ b < 121) ∨ d' a b = d a b) ∧ (∀ j, 0 ≤ j → j < 121 → d' 0 j = m 30 (c + j)) := by
  subst hc
  obtain ⟨d', e1, e2, e3⟩ := mr_0 τ 20000 0 m d (by omega) (by omega) (by omega) h33 c0 (by omega)
  refine ⟨d', by rw [show m 99 32 + ((121 : Int) - 0) = m 99 32 + 121 by omega] at e1; exact e1, e2, fun j j0 j1 => ?_⟩
  have := e3 j j0 j1
  rwa [show m 99 32 + (j - 0) = m 99 32 + j by omega] at this
theorem mw_1 (d : Nat → Int → Int) (τ : qL) : ∀ (N : Nat) (i : Int) (m : Nat → Int → Int), 0 ≤ i → i ≤ 10 → (10 - i).toNat < N → m 99 33 = 1 → 0 ≤ m 99 32 → m 99 32 + (10 - i) ≤ 400 →
    ∃ m', q_lp (b_X7_passRow_1_2 τ (10 : Int32)) (fun z1 => some z1.2) N (zI i, eC (pw m d)) = some (eC (pw m' d)) ∧ fW m m' (m 99 32) (m 99 32 + (10 - i)) ∧ (∀ j, i ≤ j → j < 10 → m' 30 (m 99 32 + (j - i)) = d 1 j) := by
  intro N
  induction N with
  | zero => intro i m _ _ h; omega
  | succ N ih =>
    intro i m h0 h1 hN h33 c0 c1
    rw [lp_s]
    unfold b_X7_passRow_1_2
    by_cases c : i < 10
    · have hp := m_passW m d τ (v := d 1 i) h33 c0 (by omega)
      obtain ⟨m', e1, e2, e3⟩ := ih (i + 1) (ud (ud m 30 (m 99 32) (d 1 i)) 99 32 (m 99 32 + 1)) (by omega) (by omega) (by omega) (by rw [ud_ne _ _ (by omega), ud_ne _ _ (by omega)]; exact h33) (by rw [ud_same]; omega) (by rw [ud_same]; omega)
      rw [ud_same] at e2 e3
      have h1' := fW_1 m (d 1 i) rfl
      refine ⟨m', ?_, ?_, fun j j0 j1 => ?_⟩
      · simp (disch := omega) only [hp, ud_self, pw_0, up_0, pw_1, up_1, pw_2, up_2, pw_3, up_3, pw_4, up_4, pw_9, up_9, pw_10, up_10, pwi_5, upi_5, pwi_6, upi_6, pwi_7, upi_7, pwi_8, upi_8, pwi_11, upi_11, pw_12, up_12, pw_14, up_14, pw_15, up_15, pw_16, up_16, pw_18, up_18, pw_24, up_24, pw_25, up_25, pw_26, up_26, pw_29, up_29, pw_30, up_30, pw_31, up_31, pwi_13, upi_13, pwi_17, upi_17, pwi_19, upi_19, pwi_20, upi_20, pwi_21, upi_21, pwi_22, upi_22, pwi_23, upi_23, pwi_32, upi_32, pwi_33, upi_33, eC_5, eC_6, eC_13, eC_17, eC_19, eC_20, eC_21, eC_22, eC_23, eC_32, eC_33, eC_p5, eC_p6, eC_p13, eC_p17, eC_p19, eC_p20, eC_p21, eC_p22, eC_p23, eC_p32, eC_p33, s_T, s_F, s_bd, s_cl, s_rd, s_wr, s_ite, z_ite, z_neg, z_add, z_sub, z_mul, z_le, z_lt, z_eq, eC_at, eC_7, eC_8, eC_9, eC_10, eC_11, eC_p7, eC_p8, eC_p9, eC_p10, eC_p11, eC_up, ud_same, ud_ne, if_pos, if_neg, z_0, z_1, z_2, z_3, z_4, z_5, z_6, z_7, z_8, z_9, z_10, z_11, z_12, z_13, z_14, z_15, z_16, z_17, z_18, z_19, z_20, z_21, z_22, z_23, z_24, z_25, z_26, z_27, z_28, z_29, z_30, z_31, z_32, z_33, z_34, z_35, z_36, z_37, z_38, z_39, z_40, z_41, z_42, z_43, z_44, z_45, z_46, z_47, z_48, z_49, z_50, z_51, z_52, z_53, z_54, z_55, z_56, z_57, z_58, z_59, z_60, z_61, z_62, z_63, z_64, z_65, z_66, z_67, z_68, z_69, z_70, z_71, z_72, z_73, z_74, z_75, z_76, z_77, z_78, z_79, z_80, z_81, z_82, z_83, z_84, z_85, z_86, z_87, z_88, z_89, z_90, z_91, z_92, z_93, z_94, z_95, z_96, z_97, z_98, z_99, z_100, z_101, z_102, z_103, z_104, z_105, z_106, z_107, z_108, z_109, z_110, z_111, z_112, z_113, z_114, z_115, z_116, z_117, z_118, z_119, z_120, z_121, z_122, z_123, z_124, z_125, z_126, z_127, z_199, z_200, z_360, z_410, z_1000, z_1023, z_1024, z_1219, z_9999, z_10240, z_65537]
        exact e1
      · have := fW_tr h1' e2 (by omega) (by omega)
        rw [show m 99 32 + 1 + (10 - (i + 1)) = m 99 32 + (10 - i) by omega] at this
        exact this
      · by_cases e : j = i
        · subst e
          rw [show m 99 32 + (j - j) = m 99 32 by omega, fW_at e2 (by omega), ud_ne _ _ (by omega), ud_same]
        · have := e3 j (by omega) j1
          rw [show m 99 32 + 1 + (j - (i + 1)) = m 99 32 + (j - i) by omega] at this
          exact this
    · refine ⟨m, ?_, ⟨by omega, fun a b => Or.inr (Or.inr rfl)⟩, fun j j0 j1 => by omega⟩
      simp (disch := omega) only [pw_0, up_0, pw_1, up_1, pw_2, up_2, pw_3, up_3, pw_4, up_4, pw_9, up_9, pw_10, up_10, pwi_5, upi_5, pwi_6, upi_6, pwi_7, upi_7, pwi_8, upi_8, pwi_11, upi_11, pw_12, up_12, pw_14, up_14, pw_15, up_15, pw_16, up_16, pw_18, up_18, pw_24, up_24, pw_25, up_25, pw_26, up_26, pw_29, up_29, pw_30, up_30, pw_31, up_31, pwi_13, upi_13, pwi_17, upi_17, pwi_19, upi_19, pwi_20, upi_20, pwi_21, upi_21, pwi_22, upi_22, pwi_23, upi_23, pwi_32, upi_32, pwi_33, upi_33, eC_5, eC_6, eC_13, eC_17, eC_19, eC_20, eC_21, eC_22, eC_23, eC_32, eC_33, eC_p5, eC_p6, eC_p13, eC_p17, eC_p19, eC_p20, eC_p21, eC_p22, eC_p23, eC_p32, eC_p33, s_T, s_F, s_bd, s_cl, s_rd, s_wr, s_ite, z_ite, z_neg, z_add, z_sub, z_mul, z_le, z_lt, z_eq, eC_at, eC_7, eC_8, eC_9, eC_10, eC_11, eC_p7, eC_p8, eC_p9, eC_p10, eC_p11, eC_up, ud_same, ud_ne, if_pos, if_neg, z_0, z_1, z_2, z_3, z_4, z_5, z_6, z_7, z_8, z_9, z_10, z_11, z_12, z_13, z_14, z_15, z_16, z_17, z_18, z_19, z_20, z_21, z_22, z_23, z_24, z_25, z_26, z_27, z_28, z_29, z_30, z_31, z_32, z_33, z_34, z_35, z_36, z_37, z_38, z_39, z_40, z_41, z_42, z_43, z_44, z_45, z_46, z_47, z_48, z_49, z_50, z_51, z_52, z_53, z_54, z_55, z_56, z_57, z_58, z_59, z_60, z_61, z_62, z_63, z_64, z_65, z_66, z_67, z_68, z_69, z_70, z_71, z_72, z_73, z_74, z_75, z_76, z_77, z_78, z_79, z_80, z_81, z_82, z_83, z_84, z_85, z_86, z_87, z_88, z_89, z_90, z_91, z_92, z_93, z_94, z_95, z_96, z_97, z_98, z_99, z_100, z_101, z_102, z_103, z_104, z_105, z_106, z_107, z_108, z_109, z_110, z_111, z_112, z_113, z_114, z_115, z_116, z_117, z_118, z_119, z_120, z_121, z_122, z_123, z_124, z_125, z_126, z_127, z_199, z_200, z_360, z_410, z_1000, z_1023, z_1024, z_1219, z_9999, z_10240, z_65537]
theorem mr_1 (τ : qL) : ∀ (N : Nat) (i : Int) (m d : Nat → Int → Int), 0 ≤ i → i ≤ 10 → (10 - i).toNat < N → m 99 33 = 0 → 0 ≤ m 99 32 → m 99 32 + (10 - i) ≤ 400 →
    ∃ d', q_lp (b_X7_passRow_1_2 τ (10 : Int32)) (fun z1 => some z1.2) N (zI i, eC (pw m d)) = some (eC (pw (ud m 99 32 (m 99 32 + (10 - i))) d')) ∧ (∀ a b, (a = 1 ∧ i ≤ b ∧ b < 10) ∨ d' a b = d a b) ∧ (∀ j, i ≤ j → j < 10 → d' 1 j = m 30 (m 99 32 + (j - i))) := by
  intro N
  induction N with
  | zero => intro i m d _ _ h; omega
  | succ N ih =>
    intro i m d h0 h1 hN h33 c0 c1
    rw [lp_s]
    unfold b_X7_passRow_1_2
    by_cases c : i < 10
    · have hp := m_passR m d τ (zI (d 1 i)) h33 c0 (by omega)
      obtain ⟨d', e1, e2, e3⟩ := ih (i + 1) (ud m 99 32 (m 99 32 + 1)) (ud d 1 i (m 30 (m 99 32))) (by omega) (by omega) (by omega) (by rw [ud_ne _ _ (by omega)]; exact h33) (by rw [ud_same]; omega) (by rw [ud_same]; omega)
      rw [ud_same, ud_ud, show m 99 32 + 1 + (10 - (i + 1)) = m 99 32 + (10 - i) by omega] at e1
      refine ⟨d', ?_, fun a b => ?_, fun j j0 j1 => ?_⟩
      · simp (disch := omega) only [hp, pw_0, up_0, pw_1, up_1, pw_2, up_2, pw_3, up_3, pw_4, up_4, pw_9, up_9, pw_10, up_10, pwi_5, upi_5, pwi_6, upi_6, pwi_7, upi_7, pwi_8, upi_8, pwi_11, upi_11, pw_12, up_12, pw_14, up_14, pw_15, up_15, pw_16, up_16, pw_18, up_18, pw_24, up_24, pw_25, up_25, pw_26, up_26, pw_29, up_29, pw_30, up_30, pw_31, up_31, pwi_13, upi_13, pwi_17, upi_17, pwi_19, upi_19, pwi_20, upi_20, pwi_21, upi_21, pwi_22, upi_22, pwi_23, upi_23, pwi_32, upi_32, pwi_33, upi_33, eC_5, eC_6, eC_13, eC_17, eC_19, eC_20, eC_21, eC_22, eC_23, eC_32, eC_33, eC_p5, eC_p6, eC_p13, eC_p17, eC_p19, eC_p20, eC_p21, eC_p22, eC_p23, eC_p32, eC_p33, s_T, s_F, s_bd, s_cl, s_rd, s_wr, s_ite, z_ite, z_neg, z_add, z_sub, z_mul, z_le, z_lt, z_eq, eC_at, eC_7, eC_8, eC_9, eC_10, eC_11, eC_p7, eC_p8, eC_p9, eC_p10, eC_p11, eC_up, ud_same, ud_ne, if_pos, if_neg, z_0, z_1, z_2, z_3, z_4, z_5, z_6, z_7, z_8, z_9, z_10, z_11, z_12, z_13, z_14, z_15, z_16, z_17, z_18, z_19, z_20, z_21, z_22, z_23, z_24, z_25, z_26, z_27, z_28, z_29, z_30, z_31, z_32, z_33, z_34, z_35, z_36, z_37, z_38, z_39, z_40, z_41, z_42, z_43, z_44, z_45, z_46, z_47, z_48, z_49, z_50, z_51, z_52, z_53, z_54, z_55, z_56, z_57, z_58, z_59, z_60, z_61, z_62, z_63, z_64, z_65, z_66, z_67, z_68, z_69, z_70, z_71, z_72, z_73, z_74, z_75, z_76, z_77, z_78, z_79, z_80, z_81, z_82, z_83, z_84, z_85, z_86, z_87, z_88, z_89, z_90, z_91, z_92, z_93, z_94, z_95, z_96, z_97, z_98, z_99, z_100, z_101, z_102, z_103, z_104, z_105, z_106, z_107, z_108, z_109, z_110, z_111, z_112, z_113, z_114, z_115, z_116, z_117, z_118, z_119, z_120, z_121, z_122, z_123, z_124, z_125, z_126, z_127, z_199, z_200, z_360, z_410, z_1000, z_1023, z_1024, z_1219, z_9999, z_10240, z_65537]
        exact e1
      · rcases e2 a b with z | z
        · exact Or.inl (by omega)
        · by_cases e : a = 1 ∧ b = i
          · exact Or.inl (by omega)
          · exact Or.inr (by rw [z, ud_ne _ _ (by omega)])
      · by_cases e : j = i
        · subst e
          rcases e2 1 j with z | z
          · omega
          · rw [z, ud_same, show m 99 32 + (j - j) = m 99 32 by omega]
        · have := e3 j (by omega) j1
          rw [ud_same, ud_ne _ _ (by omega), show m 99 32 + 1 + (j - (i + 1)) = m 99 32 + (j - i) by omega] at this
          exact this
    · refine ⟨d, ?_, fun a b => Or.inr rfl, fun j j0 j1 => by omega⟩
      rw [show m 99 32 + (10 - i) = m 99 32 by omega, ud_self]
      simp (disch := omega) only [pw_0, up_0, pw_1, up_1, pw_2, up_2, pw_3, up_3, pw_4, up_4, pw_9, up_9, pw_10, up_10, pwi_5, upi_5, pwi_6, upi_6, pwi_7, upi_7, pwi_8, upi_8, pwi_11, upi_11, pw_12, up_12, pw_14, up_14, pw_15, up_15, pw_16, up_16, pw_18, up_18, pw_24, up_24, pw_25, up_25, pw_26, up_26, pw_29, up_29, pw_30, up_30, pw_31, up_31, pwi_13, upi_13, pwi_17, upi_17, pwi_19, upi_19, pwi_20, upi_20, pwi_21, upi_21, pwi_22, upi_22, pwi_23, upi_23, pwi_32, upi_32, pwi_33, upi_33, eC_5, eC_6, eC_13, eC_17, eC_19, eC_20, eC_21, eC_22, eC_23, eC_32, eC_33, eC_p5, eC_p6, eC_p13, eC_p17, eC_p19, eC_p20, eC_p21, eC_p22, eC_p23, eC_p32, eC_p33, s_T, s_F, s_bd, s_cl, s_rd, s_wr, s_ite, z_ite, z_neg, z_add, z_sub, z_mul, z_le, z_lt, z_eq, eC_at, eC_7, eC_8, eC_9, eC_10, eC_11, eC_p7, eC_p8, eC_p9, eC_p10, eC_p11, eC_up, ud_same, ud_ne, if_pos, if_neg, z_0, z_1, z_2, z_3, z_4, z_5, z_6, z_7, z_8, z_9, z_10, z_11, z_12, z_13, z_14, z_15, z_16, z_17, z_18, z_19, z_20, z_21, z_22, z_23, z_24, z_25, z_26, z_27, z_28, z_29, z_30, z_31, z_32, z_33, z_34, z_35, z_36, z_37, z_38, z_39, z_40, z_41, z_42, z_43, z_44, z_45, z_46, z_47, z_48, z_49, z_50, z_51, z_52, z_53, z_54, z_55, z_56, z_57, z_58, z_59, z_60, z_61, z_62, z_63, z_64, z_65, z_66, z_67, z_68, z_69, z_70, z_71, z_72, z_73, z_74, z_75, z_76, z_77, z_78, z_79, z_80, z_81, z_82, z_83, z_84, z_85, z_86, z_87, z_88, z_89, z_90, z_91, z_92, z_93, z_94, z_95, z_96, z_97, z_98, z_99, z_100, z_101, z_102, z_103, z_104, z_105, z_106, z_107, z_108, z_109, z_110, z_111, z_112, z_113, z_114, z_115, z_116, z_117, z_118, z_119, z_120, z_121, z_122, z_123, z_124, z_125, z_126, z_127, z_199, z_200, z_360, z_410, z_1000, z_1023, z_1024, z_1219, z_9999, z_10240, z_65537]
theorem mwr_1 (d m : Nat → Int → Int) (τ : qL) {c : Int} (hc : m 99 32 = c) (c0 : 0 ≤ c) (c1 : c + 10 ≤ 400) (h33 : m 99 33 = 1) : ∃ m', f_X7_passRow_1 (eC (pw m d)) τ (10 : Int32) = some (eC (pw m' d)) ∧ fW m m' c (c + 10) ∧ (∀ j, 0 ≤ j → j < 10 → m' 30 (c + j) = d 1 j) := by
  subst hc
  obtain ⟨m', e1, e2, e3⟩ := mw_1 d τ 20000 0 m (by omega) (by omega) (by omega) h33 c0 (by omega)
  refine ⟨m', e1, by rw [show m 99 32 + ((10 : Int) - 0) = m 99 32 + 10 by omega] at e2; exact e2, fun j j0 j1 => ?_⟩
  have := e3 j j0 j1
  rwa [show m 99 32 + (j - 0) = m 99 32 + j by omega] at this
theorem mrr_1 (m d : Nat → Int → Int) (τ : qL) {c : Int} (hc : m 99 32 = c) (c0 : 0 ≤ c) (c1 : c + 10 ≤ 400) (h33 : m 99 33 = 0) : ∃ d', f_X7_passRow_1 (eC (pw m d)) τ (10 : Int32) = some (eC (pw (ud m 99 32 (c + 10)) d')) ∧ (∀ a b, (a = 1 ∧ 0 ≤ b ∧ b < 10) ∨ d' a b = d a b) ∧ (∀ j, 0 ≤ j → j < 10 → d' 1 j = m 30 (c + j)) := by
  subst hc
  obtain ⟨d', e1, e2, e3⟩ := mr_1 τ 20000 0 m d (by omega) (by omega) (by omega) h33 c0 (by omega)
  refine ⟨d', by rw [show m 99 32 + ((10 : Int) - 0) = m 99 32 + 10 by omega] at e1; exact e1, e2, fun j j0 j1 => ?_⟩
  have := e3 j j0 j1
  rwa [show m 99 32 + (j - 0) = m 99 32 + j by omega] at this
theorem mw_2 (d : Nat → Int → Int) (τ : qL) : ∀ (N : Nat) (i : Int) (m : Nat → Int → Int), 0 ≤ i → i ≤ 10 → (10 - i).toNat < N → m 99 33 = 1 → 0 ≤ m 99 32 → m 99 32 + (10 - i) ≤ 400 →
    ∃ m', q_lp (b_X7_passRow_2_2 τ (10 : Int32)) (fun z1 => some z1.2) N (zI i, eC (pw m d)) = some (eC (pw m' d)) ∧ fW m m' (m 99 32) (m 99 32 + (10 - i)) ∧ (∀ j, i ≤ j → j < 10 → m' 30 (m 99 32 + (j - i)) = d 2 j) := by
  intro N
  induction N with
  | zero => intro i m _ _ h; omega
  | succ N ih =>
    intro i m h0 h1 hN h33 c0 c1
    rw [lp_s]
    unfold b_X7_passRow_2_2
    by_cases c : i < 10
    · have hp := m_passW m d τ (v := d 2 i) h33 c0 (by omega)
      obtain ⟨m', e1, e2, e3⟩ := ih (i + 1) (ud (ud m 30 (m 99 32) (d 2 i)) 99 32 (m 99 32 + 1)) (by omega) (by omega) (by omega) (by rw [ud_ne _ _ (by omega), ud_ne _ _ (by omega)]; exact h33) (by rw [ud_same]; omega) (by rw [ud_same]; omega)
      rw [ud_same] at e2 e3
      have h1' := fW_1 m (d 2 i) rfl
      refine ⟨m', ?_, ?_, fun j j0 j1 => ?_⟩
      · simp (disch := omega) only [hp, ud_self, pw_0, up_0, pw_1, up_1, pw_2, up_2, pw_3, up_3, pw_4, up_4, pw_9, up_9, pw_10, up_10, pwi_5, upi_5, pwi_6, upi_6, pwi_7, upi_7, pwi_8, upi_8, pwi_11, upi_11, pw_12, up_12, pw_14, up_14, pw_15, up_15, pw_16, up_16, pw_18, up_18, pw_24, up_24, pw_25, up_25, pw_26, up_26, pw_29, up_29, pw_30, up_30, pw_31, up_31, pwi_13, upi_13, pwi_17, upi_17, pwi_19, upi_19, pwi_20, upi_20, pwi_21, upi_21, pwi_22, upi_22, pwi_23, upi_23, pwi_32, upi_32, pwi_33, upi_33, eC_5, eC_6, eC_13, eC_17, eC_19, eC_20, eC_21, eC_22, eC_23, eC_32, eC_33, eC_p5, eC_p6, eC_p13, eC_p17, eC_p19, eC_p20, eC_p21, eC_p22, eC_p23, eC_p32, eC_p33, s_T, s_F, s_bd, s_cl, s_rd, s_wr, s_ite, z_ite, z_neg, z_add, z_sub, z_mul, z_le, z_lt, z_eq, eC_at, eC_7, eC_8, eC_9, eC_10, eC_11, eC_p7, eC_p8, eC_p9, eC_p10, eC_p11, eC_up, ud_same, ud_ne, if_pos, if_neg, z_0, z_1, z_2, z_3, z_4, z_5, z_6, z_7, z_8, z_9, z_10, z_11, z_12, z_13, z_14, z_15, z_16, z_17, z_18, z_19, z_20, z_21, z_22, z_23, z_24, z_25, z_26, z_27, z_28, z_29, z_30, z_31, z_32, z_33, z_34, z_35, z_36, z_37, z_38, z_39, z_40, z_41, z_42, z_43, z_44, z_45, z_46, z_47, z_48, z_49, z_50, z_51, z_52, z_53, z_54, z_55, z_56, z_57, z_58, z_59, z_60, z_61, z_62, z_63, z_64, z_65, z_66, z_67, z_68, z_69, z_70, z_71, z_72, z_73, z_74, z_75, z_76, z_77, z_78, z_79, z_80, z_81, z_82, z_83, z_84, z_85, z_86, z_87, z_88, z_89, z_90, z_91, z_92, z_93, z_94, z_95, z_96, z_97, z_98, z_99, z_100, z_101, z_102, z_103, z_104, z_105, z_106, z_107, z_108, z_109, z_110, z_111, z_112, z_113, z_114, z_115, z_116, z_117, z_118, z_119, z_120, z_121, z_122, z_123, z_124, z_125, z_126, z_127, z_199, z_200, z_360, z_410, z_1000, z_1023, z_1024, z_1219, z_9999, z_10240, z_65537]
        exact e1
      · have := fW_tr h1' e2 (by omega) (by omega)
        rw [show m 99 32 + 1 + (10 - (i + 1)) = m 99 32 + (10 - i) by omega] at this
        exact this
      · by_cases e : j = i
        · subst e
          rw [show m 99 32 + (j - j) = m 99 32 by omega, fW_at e2 (by omega), ud_ne _ _ (by omega), ud_same]
        · have := e3 j (by omega) j1
          rw [show m 99 32 + 1 + (j - (i + 1)) = m 99 32 + (j - i) by omega] at this
          exact this
    · refine ⟨m, ?_, ⟨by omega, fun a b => Or.inr (Or.inr rfl)⟩, fun j j0 j1 => by omega⟩
      simp (disch := omega) only [pw_0, up_0, pw_1, up_1, pw_2, up_2, pw_3, up_3, pw_4, up_4, pw_9, up_9, pw_10, up_10, pwi_5, upi_5, pwi_6, upi_6, pwi_7, upi_7, pwi_8, upi_8, pwi_11, upi_11, pw_12, up_12, pw_14, up_14, pw_15, up_15, pw_16, up_16, pw_18, up_18, pw_24, up_24, pw_25, up_25, pw_26, up_26, pw_29, up_29, pw_30, up_30, pw_31, up_31, pwi_13, upi_13, pwi_17, upi_17, pwi_19, upi_19, pwi_20, upi_20, pwi_21, upi_21, pwi_22, upi_22, pwi_23, upi_23, pwi_32, upi_32, pwi_33, upi_33, eC_5, eC_6, eC_13, eC_17, eC_19, eC_20, eC_21, eC_22, eC_23, eC_32, eC_33, eC_p5, eC_p6, eC_p13, eC_p17, eC_p19, eC_p20, eC_p21, eC_p22, eC_p23, eC_p32, eC_p33, s_T, s_F, s_bd, s_cl, s_rd, s_wr, s_ite, z_ite, z_neg, z_add, z_sub, z_mul, z_le, z_lt, z_eq, eC_at, eC_7, eC_8, eC_9, eC_10, eC_11, eC_p7, eC_p8, eC_p9, eC_p10, eC_p11, eC_up, ud_same, ud_ne, if_pos, if_neg, z_0, z_1, z_2, z_3, z_4, z_5, z_6, z_7, z_8, z_9, z_10, z_11, z_12, z_13, z_14, z_15, z_16, z_17, z_18, z_19, z_20, z_21, z_22, z_23, z_24, z_25, z_26, z_27, z_28, z_29, z_30, z_31, z_32, z_33, z_34, z_35, z_36, z_37, z_38, z_39, z_40, z_41, z_42, z_43, z_44, z_45, z_46, z_47, z_48, z_49, z_50, z_51, z_52, z_53, z_54, z_55, z_56, z_57, z_58, z_59, z_60, z_61, z_62, z_63, z_64, z_65, z_66, z_67, z_68, z_69, z_70, z_71, z_72, z_73, z_74, z_75, z_76, z_77, z_78, z_79, z_80, z_81, z_82, z_83, z_84, z_85, z_86, z_87, z_88, z_89, z_90, z_91, z_92, z_93, z_94, z_95, z_96, z_97, z_98, z_99, z_100, z_101, z_102, z_103, z_104, z_105, z_106, z_107, z_108, z_109, z_110, z_111, z_112, z_113, z_114, z_115, z_116, z_117, z_118, z_119, z_120, z_121, z_122, z_123, z_124, z_125, z_126, z_127, z_199, z_200, z_360, z_410, z_1000, z_1023, z_1024, z_1219, z_9999, z_10240, z_65537]
theorem mr_2 (τ : qL) : ∀ (N : Nat) (i : Int) (m d : Nat → Int → Int), 0 ≤ i → i ≤ 10 → (10 - i).toNat < N → m 99 33 = 0 → 0 ≤ m 99 32 → m 99 32 + (10 - i) ≤ 400 →
    ∃ d', q_lp (b_X7_passRow_2_2 τ (10 : Int32)) (fun z1 => some z1.2) N (zI i, eC (pw m d)) = some (eC (pw (ud m 99 32 (m 99 32 + (10 - i))) d')) ∧ (∀ a b, (a = 2 ∧ i ≤ b ∧ b < 10) ∨ d' a b = d a b) ∧ (∀ j, i ≤ j → j < 10 → d' 2 j = m 30 (m 99 32 + (j - i))) := by
  intro N
  induction N with
  | zero => intro i m d _ _ h; omega
  | succ N ih =>
    intro i m d h0 h1 hN h33 c0 c1
    rw [lp_s]
    unfold b_X7_passRow_2_2
    by_cases c : i < 10
    · have hp := m_passR m d τ (zI (d 2 i)) h33 c0 (by omega)
      obtain ⟨d', e1, e2, e3⟩ := ih (i + 1) (ud m 99 32 (m 99 32 + 1)) (ud d 2 i (m 30 (m 99 32))) (by omega) (by omega) (by omega) (by rw [ud_ne _ _ (by omega)]; exact h33) (by rw [ud_same]; omega) (by rw [ud_same]; omega)
      rw [ud_same, ud_ud, show m 99 32 + 1 + (10 - (i + 1)) = m 99 32 + (10 - i) by omega] at e1
      refine ⟨d', ?_, fun a b => ?_, fun j j0 j1 => ?_⟩
      · simp (disch := omega) only [hp, pw_0, up_0, pw_1, up_1, pw_2, up_2, pw_3, up_3, pw_4, up_4, pw_9, up_9, pw_10, up_10, pwi_5, upi_5, pwi_6, upi_6, pwi_7, upi_7, pwi_8, upi_8, pwi_11, upi_11, pw_12, up_12, pw_14, up_14, pw_15, up_15, pw_16, up_16, pw_18, up_18, pw_24, up_24, pw_25, up_25, pw_26, up_26, pw_29, up_29, pw_30, up_30, pw_31, up_31, pwi_13, upi_13, pwi_17, upi_17, pwi_19, upi_19, pwi_20, upi_20, pwi_21, upi_21, pwi_22, upi_22, pwi_23, upi_23, pwi_32, upi_32, pwi_33, upi_33, eC_5, eC_6, eC_13, eC_17, eC_19, eC_20, eC_21, eC_22, eC_23, eC_32, eC_33, eC_p5, eC_p6, eC_p13, eC_p17, eC_p19, eC_p20, eC_p21, eC_p22, eC_p23, eC_p32, eC_p33, s_T, s_F, s_bd, s_cl, s_rd, s_wr, s_ite, z_ite, z_neg, z_add, z_sub, z_mul, z_le, z_lt, z_eq, eC_at, eC_7, eC_8, eC_9, eC_10, eC_11, eC_p7, eC_p8, eC_p9, eC_p10, eC_p11, eC_up, ud_same, ud_ne, if_pos, if_neg, z_0, z_1, z_2, z_3, z_4, z_5, z_6, z_7, z_8, z_9, z_10, z_11, z_12, z_13, z_14, z_15, z_16, z_17, z_18, z_19, z_20, z_21, z_22, z_23, z_24, z_25, z_26, z_27, z_28, z_29, z_30, z_31, z_32, z_33, z_34, z_35, z_36, z_37, z_38, z_39, z_40, z_41, z_42, z_43, z_44, z_45, z_46, z_47, z_48, z_49, z_50, z_51, z_52, z_53, z_54, z_55, z_56, z_57, z_58, z_59, z_60, z_61, z_62, z_63, z_64, z_65, z_66, z_67, z_68, z_69, z_70, z_71, z_72, z_73, z_74, z_75, z_76, z_77, z_78, z_79, z_80, z_81, z_82, z_83, z_84, z_85, z_86, z_87, z_88, z_89, z_90, z_91, z_92, z_93, z_94, z_95, z_96, z_97, z_98, z_99, z_100, z_101, z_102, z_103, z_104, z_105, z_106, z_107, z_108, z_109, z_110, z_111, z_112, z_113, z_114, z_115, z_116, z_117, z_118, z_119, z_120, z_121, z_122, z_123, z_124, z_125, z_126, z_127, z_199, z_200, z_360, z_410, z_1000, z_1023, z_1024, z_1219, z_9999, z_10240, z_65537]
        exact e1
      · rcases e2 a b with z | z
        · exact Or.inl (by omega)
        · by_cases e : a = 2 ∧ b = i
          · exact Or.inl (by omega)
          · exact Or.inr (by rw [z, ud_ne _ _ (by omega)])
      · by_cases e : j = i
        · subst e
          rcases e2 2 j with z | z
          · omega
          · rw [z, ud_same, show m 99 32 + (j - j) = m 99 32 by omega]
        · have := e3 j (by omega) j1
          rw [ud_same, ud_ne _ _ (by omega), show m 99 32 + 1 + (j - (i + 1)) = m 99 32 + (j - i) by omega] at this
          exact this
    · refine ⟨d, ?_, fun a b => Or.inr rfl, fun j j0 j1 => by omega⟩
      rw [show m 99 32 + (10 - i) = m 99 32 by omega, ud_self]
      simp (disch := omega) only [pw_0, up_0, pw_1, up_1, pw_2, up_2, pw_3, up_3, pw_4, up_4, pw_9, up_9, pw_10, up_10, pwi_5, upi_5, pwi_6, upi_6, pwi_7, upi_7, pwi_8, upi_8, pwi_11, upi_11, pw_12, up_12, pw_14, up_14, pw_15, up_15, pw_16, up_16, pw_18, up_18, pw_24, up_24, pw_25, up_25, pw_26, up_26, pw_29, up_29, pw_30, up_30, pw_31, up_31, pwi_13, upi_13, pwi_17, upi_17, pwi_19, upi_19, pwi_20, upi_20, pwi_21, upi_21, pwi_22, upi_22, pwi_23, upi_23, pwi_32, upi_32, pwi_33, upi_33, eC_5, eC_6, eC_13, eC_17, eC_19, eC_20, eC_21, eC_22, eC_23, eC_32, eC_33, eC_p5, eC_p6, eC_p13, eC_p17, eC_p19, eC_p20, eC_p21, eC_p22, eC_p23, eC_p32, eC_p33, s_T, s_F, s_bd, s_cl, s_rd, s_wr, s_ite, z_ite, z_neg, z_add, z_sub, z_mul, z_le, z_lt, z_eq, eC_at, eC_7, eC_8, eC_9, eC_10, eC_11, eC_p7, eC_p8, eC_p9, eC_p10, eC_p11, eC_up, ud_same, ud_ne, if_pos, if_neg, z_0, z_1, z_2, z_3, z_4, z_5, z_6, z_7, z_8, z_9, z_10, z_11, z_12, z_13, z_14, z_15, z_16, z_17, z_18, z_19, z_20, z_21, z_22, z_23, z_24, z_25, z_26, z_27, z_28, z_29, z_30, z_31, z_32, z_33, z_34, z_35, z_36, z_37, z_38, z_39, z_40, z_41, z_42, z_43, z_44, z_45, z_46, z_47, z_48, z_49, z_50, z_51, z_52, z_53, z_54, z_55, z_56, z_57, z_58, z_59, z_60, z_61, z_62, z_63, z_64, z_65, z_66, z_67, z_68, z_69, z_70, z_71, z_72, z_73, z_74, z_75, z_76, z_77, z_78, z_79, z_80, z_81, z_82, z_83, z_84, z_85, z_86, z_87, z_88, z_89, z_90, z_91, z_92, z_93, z_94, z_95, z_96, z_97, z_98, z_99, z_100, z_101, z_102, z_103, z_104, z_105, z_106, z_107, z_108, z_109, z_110, z_111, z_112, z_113, z_114, z_115, z_116, z_117, z_118, z_119, z_120, z_121, z_122, z_123, z_124, z_125, z_126, z_127, z_199, z_200, z_360, z_410, z_1000, z_1023, z_1024, z_1219, z_9999, z_10240, z_65537]
theorem mwr_2 (d m : Nat → Int → Int) (τ : qL) {c : Int} (hc : m 99 32 = c) (c0 : 0 ≤ c) (c1 : c + 10 ≤ 400) (h33 : m 99 33 = 1) : ∃ m', f_X7_passRow_2 (eC (pw m d)) τ (10 : Int32) = some (eC (pw m' d)) ∧ fW m m' c (c + 10) ∧ (∀ j, 0 ≤ j → j < 10 → m' 30 (c + j) = d 2 j) := by
  subst hc
  obtain ⟨m', e1, e2, e3⟩ := mw_2 d τ 20000 0 m (by omega) (by omega) (by omega) h33 c0 (by omega)
  refine ⟨m', e1, by rw [show m 99 32 + ((10 : Int) - 0) = m 99 32 + 10 by omega] at e2; exact e2, fun j j0 j1 => ?_⟩
  have := e3 j j0 j1
  rwa [show m 99 32 + (j - 0) = m 99 32 + j by omega] at this
theorem mrr_2 (m d : Nat → Int → Int) (τ : qL) {c : Int} (hc : m 99 32 = c) (c0 : 0 ≤ c) (c1 : c + 10 ≤ 400) (h33 : m 99 33 = 0) : ∃ d', f_X7_passRow_2 (eC (pw m d)) τ (10 : Int32) = some (eC (pw (ud m 99 32 (c + 10)) d')) ∧ (∀ a b, (a = 2 ∧ 0 ≤ b ∧ b < 10) ∨ d' a b = d a b) ∧ (∀ j, 0 ≤ j → j < 10 → d' 2 j = m 30 (c + j)) := by
  subst hc
  obtain ⟨d', e1, e2, e3⟩ := mr_2 τ 20000 0 m d (by omega) (by omega) (by omega) h33 c0 (by omega)
  refine ⟨d', by rw [show m 99 32 + ((10 : Int) - 0) = m 99 32 + 10 by omega] at e1; exact e1, e2, fun j j0 j1 => ?_⟩
  have := e3 j j0 j1
  rwa [show m 99 32 + (j - 0) = m 99 32 + j by omega] at this
theorem mw_3 (d : Nat → Int → Int) (τ : qL) : ∀ (N : Nat) (i : Int) (m : Nat → Int → Int), 0 ≤ i → i ≤ 10 → (10 - i).toNat < N → m 99 33 = 1 → 0 ≤ m 99 32 → m 99 32 + (10 - i) ≤ 400 →
    ∃ m', q_lp (b_X7_passRow_3_2 τ (10 : Int32)) (fun z1 => some z1.2) N (zI i, eC (pw m d)) = some (eC (pw m' d)) ∧ fW m m' (m 99 32) (m 99 32 + (10 - i)) ∧ (∀ j, i ≤ j → j < 10 → m' 30 (m 99 32 + (j - i)) = d 3 j) := by
  intro N
  induction N with
  | zero => intro i m _ _ h; omega
  | succ N ih =>
    intro i m h0 h1 hN h33 c0 c1
    rw [lp_s]
    unfold b_X7_passRow_3_2
    by_cases c : i < 10
    · have hp := m_passW m d τ (v := d 3 i) h33 c0 (by omega)
      obtain ⟨m', e1, e2, e3⟩ := ih (i + 1) (ud (ud m 30 (m 99 32) (d 3 i)) 99 32 (m 99 32 + 1)) (by omega) (by omega) (by omega) (by rw [ud_ne _ _ (by omega), ud_ne _ _ (by omega)]; exact h33) (by rw [ud_same]; omega) (by rw [ud_same]; omega)
      rw [ud_same] at e2 e3
      have h1' := fW_1 m (d 3 i) rfl
      refine ⟨m', ?_, ?_, fun j j0 j1 => ?_⟩
      · simp (disch := omega) only [hp, ud_self, pw_0, up_0, pw_1, up_1, pw_2, up_2, pw_3, up_3, pw_4, up_4, pw_9, up_9, pw_10, up_10, pwi_5, upi_5, pwi_6, upi_6, pwi_7, upi_7, pwi_8, upi_8, pwi_11, upi_11, pw_12, up_12, pw_14, up_14, pw_15, up_15, pw_16, up_16, pw_18, up_18, pw_24, up_24, pw_25, up_25, pw_26, up_26, pw_29, up_29, pw_30, up_30, pw_31, up_31, pwi_13, upi_13, pwi_17, upi_17, pwi_19, upi_19, pwi_20, upi_20, pwi_21, upi_21, pwi_22, upi_22, pwi_23, upi_23, pwi_32, upi_32, pwi_33, upi_33, eC_5, eC_6, eC_13, eC_17, eC_19, eC_20, eC_21, eC_22, eC_23, eC_32, eC_33, eC_p5, eC_p6, eC_p13, eC_p17, eC_p19, eC_p20, eC_p21, eC_p22, eC_p23, eC_p32, eC_p33, s_T, s_F, s_bd, s_cl, s_rd, s_wr, s_ite, z_ite, z_neg, z_add, z_sub, z_mul, z_le, z_lt, z_eq, eC_at, eC_7, eC_8, eC_9, eC_10, eC_11, eC_p7, eC_p8, eC_p9, eC_p10, eC_p11, eC_up, ud_same, ud_ne, if_pos, if_neg, z_0, z_1, z_2, z_3, z_4, z_5, z_6, z_7, z_8, z_9, z_10, z_11, z_12, z_13, z_14, z_15, z_16, z_17, z_18, z_19, z_20, z_21, z_22, z_23, z_24, z_25, z_26, z_27, z_28, z_29, z_30, z_31, z_32, z_33, z_34, z_35, z_36, z_37, z_38, z_39, z_40, z_41, z_42, z_43, z_44, z_45, z_46, z_47, z_48, z_49, z_50, z_51, z_52, z_53, z_54, z_55, z_56, z_57, z_58, z_59, z_60, z_61, z_62, z_63, z_64, z_65, z_66, z_67, z_68, z_69, z_70, z_71, z_72, z_73, z_74, z_75, z_76, z_77, z_78, z_79, z_80, z_81, z_82, z_83, z_84, z_85, z_86, z_87, z_88, z_89, z_90, z_91, z_92, z_93, z_94, z_95, z_96, z_97, z_98, z_99, z_100, z_101, z_102, z_103, z_104, z_105, z_106, z_107, z_108, z_109, z_110, z_111, z_112, z_113, z_114, z_115, z_116, z_117, z_118, z_119, z_120, z_121, z_122, z_123, z_124, z_125, z_126, z_127, z_199, z_200, z_360, z_410, z_1000, z_1023, z_1024, z_1219, z_9999, z_10240, z_65537]
        exact e1
      · have := fW_tr h1' e2 (by omega) (by omega)
        rw [show m 99 32 + 1 + (10 - (i + 1)) = m 99 32 + (10 - i) by omega] at this
        exact this
      · by_cases e : j = i
        · subst e
          rw [show m 99 32 + (j - j) = m 99 32 by omega, fW_at e2 (by omega), ud_ne _ _ (by omega), ud_same]
        · have := e3 j (by omega) j1
          rw [show m 99 32 + 1 + (j - (i + 1)) = m 99 32 + (j - i) by omega] at this
          exact this
    · refine ⟨m, ?_, ⟨by omega, fun a b => Or.inr (Or.inr rfl)⟩, fun j j0 j1 => by omega⟩
      simp (disch := omega) only [pw_0, up_0, pw_1, up_1, pw_2, up_2, pw_3, up_3, pw_4, up_4, pw_9, up_9, pw_10, up_10, pwi_5, upi_5, pwi_6, upi_6, pwi_7, upi_7, pwi_8, upi_8, pwi_11, upi_11, pw_12, up_12, pw_14, up_14, pw_15, up_15, pw_16, up_16, pw_18, up_18, pw_24, up_24, pw_25, up_25, pw_26, up_26, pw_29, up_29, pw_30, up_30, pw_31, up_31, pwi_13, upi_13, pwi_17, upi_17, pwi_19, upi_19, pwi_20, upi_20, pwi_21, upi_21, pwi_22, upi_22, pwi_23, upi_23, pwi_32, upi_32, pwi_33, upi_33, eC_5, eC_6, eC_13, eC_17, eC_19, eC_20, eC_21, eC_22, eC_23, eC_32, eC_33, eC_p5, eC_p6, eC_p13, eC_p17, eC_p19, eC_p20, eC_p21, eC_p22, eC_p23, eC_p32, eC_p33, s_T, s_F, s_bd, s_cl, s_rd, s_wr, s_ite, z_ite, z_neg, z_add, z_sub, z_mul, z_le, z_lt, z_eq, eC_at, eC_7, eC_8, eC_9, eC_10, eC_11, eC_p7, eC_p8, eC_p9, eC_p10, eC_p11, eC_up, ud_same, ud_ne, if_pos, if_neg, z_0, z_1, z_2, z_3, z_4, z_5, z_6, z_7, z_8, z_9, z_10, z_11, z_12, z_13, z_14, z_15, z_16, z_17, z_18, z_19, z_20, z_21, z_22, z_23, z_24, z_25, z_26, z_27, z_28, z_29, z_30, z_31, z_32, z_33, z_34, z_35, z_36, z_37, z_38, z_39, z_40, z_41, z_42, z_43, z_44, z_45, z_46, z_47, z_48, z_49, z_50, z_51, z_52, z_53, z_54, z_55, z_56, z_57, z_58, z_59, z_60, z_61, z_62, z_63, z_64, z_65, z_66, z_67, z_68, z_69, z_70, z_71, z_72, z_73, z_74, z_75, z_76, z_77, z_78, z_79, z_80, z_81, z_82, z_83, z_84, z_85, z_86, z_87, z_88, z_89, z_90, z_91, z_92, z_93, z_94, z_95, z_96, z_97, z_98, z_99, z_100, z_101, z_102, z_103, z_104, z_105, z_106, z_107, z_108, z_109, z_110, z_111, z_112, z_113, z_114, z_115, z_116, z_117, z_118, z_119, z_120, z_121, z_122, z_123, z_124, z_125, z_126, z_127, z_199, z_200, z_360, z_410, z_1000, z_1023, z_1024, z_1219, z_9999, z_10240, z_65537]
theorem mr_3 (τ : qL) : ∀ (N : Nat) (i : Int) (m d : Nat → Int → Int), 0 ≤ i → i ≤ 10 → (10 - i).toNat < N → m 99 33 = 0 → 0 ≤ m 99 32 → m 99 32 + (10 - i) ≤ 400 →
    ∃ d', q_lp (b_X7_passRow_3_2 τ (10 : Int32)) (fun z1 => some z1.2) N (zI i, eC (pw m d)) = some (eC (pw (ud m 99 32 (m 99 32 + (10 - i))) d')) ∧ (∀ a b, (a = 3 ∧ i ≤ b ∧ b < 10) ∨ d' a b = d a b) ∧ (∀ j, i ≤ j → j < 10 → d' 3 j = m 30 (m 99 32 + (j - i))) := by
  intro N
  induction N with
  | zero => intro i m d _ _ h; omega
  | succ N ih =>
    intro i m d h0 h1 hN h33 c0 c1
    rw [lp_s]
    unfold b_X7_passRow_3_2
    by_cases c : i < 10
    · have hp := m_passR m d τ (zI (d 3 i)) h33 c0 (by omega)
      obtain ⟨d', e1, e2, e3⟩ := ih (i + 1) (ud m 99 32 (m 99 32 + 1)) (ud d 3 i (m 30 (m 99 32))) (by omega) (by omega) (by omega) (by rw [ud_ne _ _ (by omega)]; exact h33) (by rw [ud_same]; omega) (by rw [ud_same]; omega)
      rw [ud_same, ud_ud, show m 99 32 + 1 + (10 - (i + 1)) = m 99 32 + (10 - i) by omega] at e1
      refine ⟨d', ?_, fun a b => ?_, fun j j0 j1 => ?_⟩
      · simp (disch := omega) only [hp, pw_0, up_0, pw_1, up_1, pw_2, up_2, pw_3, up_3, pw_4, up_4, pw_9, up_9, pw_10, up_10, pwi_5, upi_5, pwi_6, upi_6, pwi_7, upi_7, pwi_8, upi_8, pwi_11, upi_11, pw_12, up_12, pw_14, up_14, pw_15, up_15, pw_16, up_16, pw_18, up_18, pw_24, up_24, pw_25, up_25, pw_26, up_26, pw_29, up_29, pw_30, up_30, pw_31, up_31, pwi_13, upi_13, pwi_17, upi_17, pwi_19, upi_19, pwi_20, upi_20, pwi_21, upi_21, pwi_22, upi_22, pwi_23, upi_23, pwi_32, upi_32, pwi_33, upi_33, eC_5, eC_6, eC_13, eC_17, eC_19, eC_20, eC_21, eC_22, eC_23, eC_32, eC_33, eC_p5, eC_p6, eC_p13, eC_p17, eC_p19, eC_p20, eC_p21, eC_p22, eC_p23, eC_p32, eC_p33, s_T, s_F, s_bd, s_cl, s_rd, s_wr, s_ite, z_ite, z_neg, z_add, z_sub, z_mul, z_le, z_lt, z_eq, eC_at, eC_7, eC_8, eC_9, eC_10, eC_11, eC_p7, eC_p8, eC_p9, eC_p10, eC_p11, eC_up, ud_same, ud_ne, if_pos, if_neg, z_0, z_1, z_2, z_3, z_4, z_5, z_6, z_7, z_8, z_9, z_10, z_11, z_12, z_13, z_14, z_15, z_16, z_17, z_18, z_19, z_20, z_21, z_22, z_23, z_24, z_25, z_26, z_27, z_28, z_29, z_30, z_31, z_32, z_33, z_34, z_35, z_36, z_37, z_38, z_39, z_40, z_41, z_42, z_43, z_44, z_45, z_46, z_47, z_48, z_49, z_50, z_51, z_52, z_53, z_54, z_55, z_56, z_57, z_58, z_59, z_60, z_61, z_62, z_63, z_64, z_65, z_66, z_67, z_68, z_69, z_70, z_71, z_72, z_73, z_74, z_75, z_76, z_77, z_78, z_79, z_80, z_81, z_82, z_83, z_84, z_85, z_86, z_87, z_88, z_89, z_90, z_91, z_92, z_93, z_94, z_95, z_96, z_97, z_98, z_99, z_100, z_101, z_102, z_103, z_104, z_105, z_106, z_107, z_108, z_109, z_110, z_111, z_112, z_113, z_114, z_115, z_116, z_117, z_118, z_119, z_120, z_121, z_122, z_123, z_124, z_125, z_126, z_127, z_199, z_200, z_360, z_410, z_1000, z_1023, z_1024, z_1219, z_9999, z_10240, z_65537]
        exact e1
      · rcases e2 a b with z | z
        · exact Or.inl (by omega)
        · by_cases e : a = 3 ∧ b = i
          · exact Or.inl (by omega)
          · exact Or.inr (by rw [z, ud_ne _ _ (by omega)])
      · by_cases e : j = i
        · subst e
          rcases e2 3 j with z | z
          · omega
          · rw [z, ud_same, show m 99 32 + (j - j) = m 99 32 by omega]
        · have := e3 j (by omega) j1
          rw [ud_same, ud_ne _ _ (by omega), show m 99 32 + 1 + (j - (i + 1)) = m 99 32 + (j - i) by omega] at this
          exact this
    · refine ⟨d, ?_, fun a b => Or.inr rfl, fun j j0 j1 => by omega⟩
      rw [show m 99 32 + (10 - i) = m 99 32 by omega, ud_self]
      simp (disch := omega) only [pw_0, up_0, pw_1, up_1, pw_2, up_2, pw_3, up_3, pw_4, up_4, pw_9, up_9, pw_10, up_10, pwi_5, upi_5, pwi_6, upi_6, pwi_7, upi_7, pwi_8, upi_8, pwi_11, upi_11, pw_12, up_12, pw_14, up_14, pw_15, up_15, pw_16, up_16, pw_18, up_18, pw_24, up_24, pw_25, up_25, pw_26, up_26, pw_29, up_29, pw_30, up_30, pw_31, up_31, pwi_13, upi_13, pwi_17, upi_17, pwi_19, upi_19, pwi_20, upi_20, pwi_21, upi_21, pwi_22, upi_22, pwi_23, upi_23, pwi_32, upi_32, pwi_33, upi_33, eC_5, eC_6, eC_13, eC_17, eC_19, eC_20, eC_21, eC_22, eC_23, eC_32, eC_33, eC_p5, eC_p6, eC_p13, eC_p17, eC_p19, eC_p20, eC_p21, eC_p22, eC_p23, eC_p32, eC_p33, s_T, s_F, s_bd, s_cl, s_rd, s_wr, s_ite, z_ite, z_neg, z_add, z_sub, z_mul, z_le, z_lt, z_eq, eC_at, eC_7, eC_8, eC_9, eC_10, eC_11, eC_p7, eC_p8, eC_p9, eC_p10, eC_p11, eC_up, ud_same, ud_ne, if_pos, if_neg, z_0, z_1, z_2, z_3, z_4, z_5, z_6, z_7, z_8, z_9, z_10, z_11, z_12, z_13, z_14, z_15, z_16, z_17, z_18, z_19, z_20, z_21, z_22, z_23, z_24, z_25, z_26, z_27, z_28, z_29, z_30, z_31, z_32, z_33, z_34, z_35, z_36, z_37, z_38, z_39, z_40, z_41, z_42, z_43, z_44, z_45, z_46, z_47, z_48, z_49, z_50, z_51, z_52, z_53, z_54, z_55, z_56, z_57, z_58, z_59, z_60, z_61, z_62, z_63, z_64, z_65, z_66, z_67, z_68, z_69, z_70, z_71, z_72, z_73, z_74, z_75, z_76, z_77, z_78, z_79, z_80, z_81, z_82, z_83, z_84, z_85, z_86, z_87, z_88, z_89, z_90, z_91, z_92, z_93, z_94, z_95, z_96, z_97, z_98, z_99, z_100, z_101, z_102, z_103, z_104, z_105, z_106, z_107, z_108, z_109, z_110, z_111, z_112, z_113, z_114, z_115, z_116, z_117, z_118, z_119, z_120, z_121, z_122, z_123, z_124, z_125, z_126, z_127, z_199, z_200, z_360, z_410, z_1000, z_1023, z_1024, z_1219, z_9999, z_10240, z_65537]
theorem mwr_3 (d m : Nat → Int → Int) (τ : qL) {c : Int} (hc : m 99 32 = c) (c0 : 0 ≤ c) (c1 : c + 10 ≤ 400) (h33 : m 99 33 = 1) : ∃ m', f_X7_passRow_3 (eC (pw m d)) τ (10 : Int32) = some (eC (pw m' d)) ∧ fW m m' c (c + 10) ∧ (∀ j, 0 ≤ j → j < 10 → m' 30 (c + j) = d 3 j) := by
  subst hc
  obtain ⟨m', e1, e2, e3⟩ := mw_3 d τ 20000 0 m (by omega) (by omega) (by omega) h33 c0 (by omega)
  refine ⟨m', e1, by rw [show m 99 32 + ((10 : Int) - 0) = m 99 32 + 10 by omega] at e2; exact e2, fun j j0 j1 => ?_⟩
  have := e3 j j0 j1
  rwa [show m 99 32 + (j - 0) = m 99 32 + j by omega] at this
theorem mrr_3 (m d : Nat → Int → Int) (τ : qL) {c : Int} (hc : m 99 32 = c) (c0 : 0 ≤ c) (c1 : c + 10 ≤ 400) (h33 : m 99 33 = 0) : ∃ d', f_X7_passRow_3 (eC (pw m d)) τ (10 : Int32) = some (eC (pw (ud m 99 32 (c + 10)) d')) ∧ (∀ a b, (a = 3 ∧ 0 ≤ b ∧ b < 10) ∨ d' a b = d a b) ∧ (∀ j, 0 ≤ j → j < 10 → d' 3 j = m 30 (c + j)) := by
  subst hc
  obtain ⟨d', e1, e2, e3⟩ := mr_3 τ 20000 0 m d (by omega) (by omega) (by omega) h33 c0 (by omega)
  refine ⟨d', by rw [show m 99 32 + ((10 : Int) - 0) = m 99 32 + 10 by omega] at e1; exact e1, e2, fun j j0 j1 => ?_⟩
  have := e3 j j0 j1
  rwa [show m 99 32 + (j - 0) = m 99 32 + j by omega] at this
theorem mw_4 (d : Nat → Int → Int) (τ : qL) : ∀ (N : Nat) (i : Int) (m : Nat → Int → Int), 0 ≤ i → i ≤ 10 → (10 - i).toNat < N → m 99 33 = 1 → 0 ≤ m 99 32 → m 99 32 + (10 - i) ≤ 400 →
    ∃ m', q_lp (b_X7_passRow_4_2 τ (10 : Int32)) (fun z1 => some z1.2) N (zI i, eC (pw m d)) = some (eC (pw m' d)) ∧ fW m m' (m 99 32) (m 99 32 + (10 - i)) ∧ (∀ j, i ≤ j → j < 10 → m' 30 (m 99 32 + (j - i)) = d 4 j) := by
  intro N
  induction N with
  | zero => intro i m _ _ h; omega
  | succ N ih =>
    intro i m h0 h1 hN h33 c0 c1
    rw [lp_s]
    unfold b_X7_passRow_4_2
    by_cases c : i < 10
    · have hp := m_passW m d τ (v := d 4 i) h33 c0 (by omega)
      obtain ⟨m', e1, e2, e3⟩ := ih (i + 1) (ud (ud m 30 (m 99 32) (d 4 i)) 99 32 (m 99 32 + 1)) (by omega) (by omega) (by omega) (by rw [ud_ne _ _ (by omega), ud_ne _ _ (by omega)]; exact h33) (by rw [ud_same]; omega) (by rw [ud_same]; omega)
      rw [ud_same] at e2 e3
      have h1' := fW_1 m (d 4 i) rfl
      refine ⟨m', ?_, ?_, fun j j0 j1 => ?_⟩
      · simp (disch := omega) only [hp, ud_self, pw_0, up_0, pw_1, up_1, pw_2, up_2, pw_3, up_3, pw_4, up_4, pw_9, up_9, pw_10, up_10, pwi_5, upi_5, pwi_6, upi_6, pwi_7, upi_7, pwi_8, upi_8, pwi_11, upi_11, pw_12, up_12, pw_14, up_14, pw_15, up_15, pw_16, up_16, pw_18, up_18, pw_24, up_24, pw_25, up_25, pw_26, up_26, pw_29, up_29, pw_30, up_30, pw_31, up_31, pwi_13, upi_13, pwi_17, upi_17, pwi_19, upi_19, pwi_20, upi_20, pwi_21, upi_21, pwi_22, upi_22, pwi_23, upi_23, pwi_32, upi_32, pwi_33, upi_33, eC_5, eC_6, eC_13, eC_17, eC_19, eC_20, eC_21, eC_22, eC_23, eC_32, eC_33, eC_p5, eC_p6, eC_p13, eC_p17, eC_p19, eC_p20, eC_p21, eC_p22, eC_p23, eC_p32, eC_p33, s_T, s_F, s_bd, s_cl, s_rd, s_wr, s_ite, z_ite, z_neg, z_add, z_sub, z_mul, z_le, z_lt, z_eq, eC_at, eC_7, eC_8, eC_9, eC_10, eC_11, eC_p7, eC_p8, eC_p9, eC_p10, eC_p11, eC_up, ud_same, ud_ne, if_pos, if_neg, z_0, z_1, z_2, z_3, z_4, z_5, z_6, z_7, z_8, z_9, z_10, z_11, z_12, z_13, z_14, z_15, z_16, z_17, z_18, z_19, z_20, z_21, z_22, z_23, z_24, z_25, z_26, z_27, z_28, z_29, z_30, z_31, z_32, z_33, z_34, z_35, z_36, z_37, z_38, z_39, z_40, z_41, z_42, z_43, z_44, z_45, z_46, z_47, z_48, z_49, z_50, z_51, z_52, z_53, z_54, z_55, z_56, z_57, z_58, z_59, z_60, z_61, z_62, z_63, z_64, z_65, z_66, z_67, z_68, z_69, z_70, z_71, z_72, z_73, z_74, z_75, z_76, z_77, z_78, z_79, z_80, z_81, z_82, z_83, z_84, z_85, z_86, z_87, z_88, z_89, z_90, z_91, z_92, z_93, z_94, z_95, z_96, z_97, z_98, z_99, z_100, z_101, z_102, z_103, z_104, z_105, z_106, z_107, z_108, z_109, z_110, z_111, z_112, z_113, z_114, z_115, z_116, z_117, z_118, z_119, z_120, z_121, z_122, z_123, z_124, z_125, z_126, z_127, z_199, z_200, z_360, z_410, z_1000, z_1023, z_1024, z_1219, z_9999, z_10240, z_65537]
        exact e1
      · have := fW_tr h1' e2 (by omega) (by omega)
        rw [show m 99 32 + 1 + (10 - (i + 1)) = m 99 32 + (10 - i) by omega] at this
        exact this
      · by_cases e : j = i
        · subst e
          rw [show m 99 32 + (j - j) = m 99 32 by omega, fW_at e2 (by omega), ud_ne _ _ (by omega), ud_same]
        · have := e3 j (by omega) j1
          rw [show m 99 32 + 1 + (j - (i + 1)) = m 99 32 + (j - i) by omega] at this
          exact this
    · refine ⟨m, ?_, ⟨by omega, fun a b => Or.inr (Or.inr rfl)⟩, fun j j0 j1 => by omega⟩
      simp (disch := omega) only [pw_0, up_0, pw_1, up_1, pw_2, up_2, pw_3, up_3, pw_4, up_4, pw_9, up_9, pw_10, up_10, pwi_5, upi_5, pwi_6, upi_6, pwi_7, upi_7, pwi_8, upi_8, pwi_11, upi_11, pw_12, up_12, pw_14, up_14, pw_15, up_15, pw_16, up_16, pw_18, up_18, pw_24, up_24, pw_25, up_25, pw_26, up_26, pw_29, up_29, pw_30, up_30, pw_31, up_31, pwi_13, upi_13, pwi_17, upi_17, pwi_19, upi_19, pwi_20, upi_20, pwi_21, upi_21, pwi_22, upi_22, pwi_23, upi_23, pwi_32, upi_32, pwi_33, upi_33, eC_5, eC_6, eC_13, eC_17, eC_19, eC_20, eC_21, eC_22, eC_23, eC_32, eC_33, eC_p5, eC_p6, eC_p13, eC_p17, eC_p19, eC_p20, eC_p21, eC_p22, eC_p23, eC_p32, eC_p33, s_T, s_F, s_bd, s_cl, s_rd, s_wr, s_ite, z_ite, z_neg, z_add, z_sub, z_mul, z_le, z_lt, z_eq, eC_at, eC_7, eC_8, eC_9, eC_10, eC_11, eC_p7, eC_p8, eC_p9, eC_p10, eC_p11, eC_up, ud_same, ud_ne, if_pos, if_neg, z_0, z_1, z_2, z_3, z_4, z_5, z_6, z_7, z_8, z_9, z_10, z_11, z_12, z_13, z_14, z_15, z_16, z_17, z_18, z_19, z_20, z_21, z_22, z_23, z_24, z_25, z_26, z_27, z_28, z_29, z_30, z_31, z_32, z_33, z_34, z_35, z_36, z_37, z_38, z_39, z_40, z_41, z_42, z_43, z_44, z_45, z_46, z_47, z_48, z_49, z_50, z_51, z_52, z_53, z_54, z_55, z_56, z_57, z_58, z_59, z_60, z_61, z_62, z_63, z_64, z_65, z_66, z_67, z_68, z_69, z_70, z_71, z_72, z_73, z_74, z_75, z_76, z_77, z_78, z_79, z_80, z_81, z_82, z_83, z_84, z_85, z_86, z_87, z_88, z_89, z_90, z_91, z_92, z_93, z_94, z_95, z_96, z_97, z_98, z_99, z_100, z_101, z_102, z_103, z_104, z_105, z_106, z_107, z_108, z_109, z_110, z_111, z_112, z_113, z_114, z_115, z_116, z_117, z_118, z_119, z_120, z_121, z_122, z_123, z_124, z_125, z_126, z_127, z_199, z_200, z_360, z_410, z_1000, z_1023, z_1024, z_1219, z_9999, z_10240, z_65537]
theorem mr_4 (τ : qL) : ∀ (N : Nat) (i : Int) (m d : Nat → Int → Int), 0 ≤ i → i ≤ 10 → (10 - i).toNat < N → m 99 33 = 0 → 0 ≤ m 99 32 → m 99 32 + (10 - i) ≤ 400 →
    ∃ d', q_lp (b_X7_passRow_4_2 τ (10 : Int32)) (fun z1 => some z1.2) N (zI i, eC (pw m d)) = some (eC (pw (ud m 99 32 (m 99 32 + (10 - i))) d')) ∧ (∀ a b, (a = 4 ∧ i ≤ b ∧ b < 10) ∨ d' a b = d a b) ∧ (∀ j, i ≤ j → j < 10 → d' 4 j = m 30 (m 99 32 + (j - i))) := by
  intro N
  induction N with
  | zero => intro i m d _ _ h; omega
  | succ N ih =>
    intro i m d h0 h1 hN h33 c0 c1
    rw [lp_s]
    unfold b_X7_passRow_4_2
    by_cases c : i < 10
    · have hp := m_passR m d τ (zI (d 4 i)) h33 c0 (by omega)
      obtain ⟨d', e1, e2, e3⟩ := ih (i + 1) (ud m 99 32 (m 99 32 + 1)) (ud d 4 i (m 30 (m 99 32))) (by omega) (by omega) (by omega) (by rw [ud_ne _ _ (by omega)]; exact h33) (by rw [ud_same]; omega) (by rw [ud_same]; omega)
      rw [ud_same, ud_ud, show m 99 32 + 1 + (10 - (i + 1)) = m 99 32 + (10 - i) by omega] at e1
      refine ⟨d', ?_, fun a b => ?_, fun j j0 j1 => ?_⟩
      · simp (disch := omega) only [hp, pw_0, up_0, pw_1, up_1, pw_2, up_2, pw_3, up_3, pw_4, up_4, pw_9, up_9, pw_10, up_10, pwi_5, upi_5, pwi_6, upi_6, pwi_7, upi_7, pwi_8, upi_8, pwi_11, upi_11, pw_12, up_12, pw_14, up_14, pw_15, up_15, pw_16, up_16, pw_18, up_18, pw_24, up_24, pw_25, up_25, pw_26, up_26, pw_29, up_29, pw_30, up_30, pw_31, up_31, pwi_13, upi_13, pwi_17, upi_17, pwi_19, upi_19, pwi_20, upi_20, pwi_21, upi_21, pwi_22, upi_22, pwi_23, upi_23, pwi_32, upi_32, pwi_33, upi_33, eC_5, eC_6, eC_13, eC_17, eC_19, eC_20, eC_21, eC_22, eC_23, eC_32, eC_33, eC_p5, eC_p6, eC_p13, eC_p17, eC_p19, eC_p20, eC_p21, eC_p22, eC_p23, eC_p32, eC_p33, s_T, s_F, s_bd, s_cl, s_rd, s_wr, s_ite, z_ite, z_neg, z_add, z_sub, z_mul, z_le, z_lt, z_eq, eC_at, eC_7, eC_8, eC_9, eC_10, eC_11, eC_p7, eC_p8, eC_p9, eC_p10, eC_p11, eC_up, ud_same, ud_ne, if_pos, if_neg, z_0, z_1, z_2, z_3, z_4, z_5, z_6, z_7, z_8, z_9, z_10, z_11, z_12, z_13, z_14, z_15, z_16, z_17, z_18, z_19, z_20, z_21, z_22, z_23, z_24, z_25, z_26, z_27, z_28, z_29, z_30, z_31, z_32, z_33, z_34, z_35, z_36, z_37, z_38, z_39, z_40, z_41, z_42, z_43, z_44, z_45, z_46, z_47, z_48, z_49, z_50, z_51, z_52, z_53, z_54, z_55, z_56, z_57, z_58, z_59, z_60, z_61, z_62, z_63, z_64, z_65, z_66, z_67, z_68, z_69, z_70, z_71, z_72, z_73, z_74, z_75, z_76, z_77, z_78, z_79, z_80, z_81, z_82, z_83, z_84, z_85, z_86, z_87, z_88, z_89, z_90, z_91, z_92, z_93, z_94, z_95, z_96, z_97, z_98, z_99, z_100, z_101, z_102, z_103, z_104, z_105, z_106, z_107, z_108, z_109, z_110, z_111, z_112, z_113, z_114, z_115, z_116, z_117, z_118, z_119, z_120, z_121, z_122, z_123, z_124, z_125, z_126, z_127, z_199, z_200, z_360, z_410, z_1000, z_1023, z_1024, z_1219, z_9999, z_10240, z_65537]
        exact e1
      · rcases e2 a b with z | z
        · exact Or.inl (by omega)
        · by_cases e : a = 4 ∧ b = i
          · exact Or.inl (by omega)
          · exact Or.inr (by rw [z, ud_ne _ _ (by omega)])
      · by_cases e : j = i
        · subst e
          rcases e2 4 j with z | z
          · omega
          · rw [z, ud_same, show m 99 32 + (j - j) = m 99 32 by omega]
        · have := e3 j (by omega) j1
          rw [ud_same, ud_ne _ _ (by omega), show m 99 32 + 1 + (j - (i + 1)) = m 99 32 + (j - i) by omega] at this
          exact this
    · refine ⟨d, ?_, fun a b => Or.inr rfl, fun j j0 j1 => by omega⟩
      rw [show m 99 32 + (10 - i) = m 99 32 by omega, ud_self]
      simp (disch := omega) only [pw_0, up_0, pw_1, up_1, pw_2, up_2, pw_3, up_3, pw_4, up_4, pw_9, up_9, pw_10, up_10, pwi_5, upi_5, pwi_6, upi_6, pwi_7, upi_7, pwi_8, upi_8, pwi_11, upi_11, pw_12, up_12, pw_14, up_14, pw_15, up_15, pw_16, up_16, pw_18, up_18, pw_24, up_24, pw_25, up_25, pw_26, up_26, pw_29, up_29, pw_30, up_30, pw_31, up_31, pwi_13, upi_13, pwi_17, upi_17, pwi_19, upi_19, pwi_20, upi_20, pwi_21, upi_21, pwi_22, upi_22, pwi_23, upi_23, pwi_32, upi_32, pwi_33, upi_33, eC_5, eC_6, eC_13, eC_17, eC_19, eC_20, eC_21, eC_22, eC_23, eC_32, eC_33, eC_p5, eC_p6, eC_p13, eC_p17, eC_p19, eC_p20, eC_p21, eC_p22, eC_p23, eC_p32, eC_p33, s_T, s_F, s_bd, s_cl, s_rd, s_wr, s_ite, z_ite, z_neg, z_add, z_sub, z_mul, z_le, z_lt, z_eq, eC_at, eC_7, eC_8, eC_9, eC_10, eC_11, eC_p7, eC_p8, eC_p9, eC_p10, eC_p11, eC_up, ud_same, ud_ne, if_pos, if_neg, z_0, z_1, z_2, z_3, z_4, z_5, z_6, z_7, z_8, z_9, z_10, z_11, z_12, z_13, z_14, z_15, z_16, z_17, z_18, z_19, z_20, z_21, z_22, z_23, z_24, z_25, z_26, z_27, z_28, z_29, z_30, z_31, z_32, z_33, z_34, z_35, z_36, z_37, z_38, z_39, z_40, z_41, z_42, z_43, z_44, z_45, z_46, z_47, z_48, z_49, z_50, z_51, z_52, z_53, z_54, z_55, z_56, z_57, z_58, z_59, z_60, z_61, z_62, z_63, z_64, z_65, z_66, z_67, z_68, z_69, z_70, z_71, z_72, z_73, z_74, z_75, z_76, z_77, z_78, z_79, z_80, z_81, z_82, z_83, z_84, z_85, z_86, z_87, z_88, z_89, z_90, z_91, z_92, z_93, z_94, z_95, z_96, z_97, z_98, z_99, z_100, z_101, z_102, z_103, z_104, z_105, z_106, z_107, z_108, z_109, z_110, z_111, z_112, z_113, z_114, z_115, z_116, z_117, z_118, z_119, z_120, z_121, z_122, z_123, z_124, z_125, z_126, z_127, z_199, z_200, z_360, z_410, z_1000, z_1023, z_1024, z_1219, z_9999, z_10240, z_65537]
theorem mwr_4 (d m : Nat → Int → Int) (τ : qL) {c : Int} (hc : m 99 32 = c) (c0 : 0 ≤ c) (c1 : c + 10 ≤ 400) (h33 : m 99 33 = 1) : ∃ m', f_X7_passRow_4 (eC (pw m d)) τ (10 : Int32) = some (eC (pw m' d)) ∧ fW m m' c (c + 10) ∧ (∀ j, 0 ≤ j → j < 10 → m' 30 (c + j) = d 4 j) := by
  subst hc
  obtain ⟨m', e1, e2, e3⟩ := mw_4 d τ 20000 0 m (by omega) (by omega) (by omega) h33 c0 (by omega)
  refine ⟨m', e1, by rw [show m 99 32 + ((10 : Int) - 0) = m 99 32 + 10 by omega] at e2; exact e2, fun j j0 j1 => ?_⟩
  have := e3 j j0 j1
  rwa [show m 99 32 + (j - 0) = m 99 32 + j by omega] at this
theorem mrr_4 (m d : Nat → Int → Int) (τ : qL) {c : Int} (hc : m 99 32 = c) (c0 : 0 ≤ c) (c1 : c + 10 ≤ 400) (h33 : m 99 33 = 0) : ∃ d', f_X7_passRow_4 (eC (pw m d)) τ (10 : Int32) = some (eC (pw (ud m 99 32 (c + 10)) d')) ∧ (∀ a b, (a = 4 ∧ 0 ≤ b ∧ b < 10) ∨ d' a b = d a b) ∧ (∀ j, 0 ≤ j → j < 10 → d' 4 j = m 30 (c + j)) := by
  subst hc
  obtain ⟨d', e1, e2, e3⟩ := mr_4 τ 20000 0 m d (by omega) (by omega) (by omega) h33 c0 (by omega)
  refine ⟨d', by rw [show m 99 32 + ((10 : Int) - 0) = m 99 32 + 10 by omega] at e1; exact e1, e2, fun j j0 j1 => ?_⟩
  have := e3 j j0 j1
  rwa [show m 99 32 + (j - 0) = m 99 32 + j by omega] at this
theorem mw_9 (d : Nat → Int → Int) (τ : qL) : ∀ (N : Nat) (i : Int) (m : Nat → Int → Int), 0 ≤ i → i ≤ 8 → (8 - i).toNat < N → m 99 33 = 1 → 0 ≤ m 99 32 → m 99 32 + (8 - i) ≤ 400 →
    ∃ m', q_lp (b_X7_passRow_9_2 τ (8 : Int32)) (fun z1 => some z1.2) N (zI i, eC (pw m d)) = some (eC (pw m' d)) ∧ fW m m' (m 99 32) (m 99 32 + (8 - i)) ∧ (∀ j, i ≤ j → j < 8 → m' 30 (m 99 32 + (j - i)) = d 5 j) := by
  intro N
  induction N with
  | zero => intro i m _ _ h; omega
  | succ N ih =>
    intro i m h0 h1 hN h33 c0 c1
    rw [lp_s]
    unfold b_X7_passRow_9_2
    by_cases c : i < 8
    · have hp := m_passW m d τ (v := d 5 i) h33 c0 (by omega)
      obtain ⟨m', e1, e2, e3⟩ := ih (i + 1) (ud (ud m 30 (m 99 32) (d 5 i)) 99 32 (m 99 32 + 1)) (by omega) (by omega) (by omega) (by rw [ud_ne _ _ (by omega), ud_ne _ _ (by omega)]; exact h33) (by rw [ud_same]; omega) (by rw [ud_same]; omega)
      rw [ud_same] at e2 e3
      have h1' := fW_1 m (d 5 i) rfl
      refine ⟨m', ?_, ?_, fun j j0 j1 => ?_⟩
      · simp (disch := omega) only [hp, ud_self, pw_0, up_0, pw_1, up_1, pw_2, up_2, pw_3, up_3, pw_4, up_4, pw_9, up_9, pw_10, up_10, pwi_5, upi_5, pwi_6, upi_6, pwi_7, upi_7, pwi_8, upi_8, pwi_11, upi_11, pw_12, up_12, pw_14, up_14, pw_15, up_15, pw_16, up_16, pw_18, up_18, pw_24, up_24, pw_25, up_25, pw_26, up_26, pw_29, up_29, pw_30, up_30, pw_31, up_31, pwi_13, upi_13, pwi_17, upi_17, pwi_19, upi_19, pwi_20, upi_20, pwi_21, upi_21, pwi_22, upi_22, pwi_23, upi_23, pwi_32, upi_32, pwi_33, upi_33, eC_5, eC_6, eC_13, eC_17, eC_19, eC_20, eC_21, eC_22, eC_23, eC_32, eC_33, eC_p5, eC_p6, eC_p13, eC_p17, eC_p19, eC_p20, eC_p21, eC_p22, eC_p23, eC_p32, eC_p33, s_T, s_F, s_bd, s_cl, s_rd, s_wr, s_ite, z_ite, z_neg, z_add, z_sub, z_mul, z_le, z_lt, z_eq, eC_at, eC_7, eC_8, eC_9, eC_10, eC_11, eC_p7, eC_p8, eC_p9, eC_p10, eC_p11, eC_up, ud_same, ud_ne, if_pos, if_neg, z_0, z_1, z_2, z_3, z_4, z_5, z_6, z_7, z_8, z_9, z_10, z_11, z_12, z_13, z_14, z_15, z_16, z_17, z_18, z_19, z_20, z_21, z_22, z_23, z_24, z_25, z_26, z_27, z_28, z_29, z_30, z_31, z_32, z_33, z_34, z_35, z_36, z_37, z_38, z_39, z_40, z_41, z_42, z_43, z_44, z_45, z_46, z_47, z_48, z_49, z_50, z_51, z_52, z_53, z_54, z_55, z_56, z_57, z_58, z_59, z_60, z_61, z_62, z_63, z_64, z_65, z_66, z_67, z_68, z_69, z_70, z_71, z_72, z_73, z_74, z_75, z_76, z_77, z_78, z_79, z_80, z_81, z_82, z_83, z_84, z_85, z_86, z_87, z_88, z_89, z_90, z_91, z_92, z_93, z_94, z_95, z_96, z_97, z_98, z_99, z_100, z_101, z_102, z_103, z_104, z_105, z_106, z_107, z_108, z_109, z_110, z_111, z_112, z_113, z_114, z_115, z_116, z_117, z_118, z_119, z_120, z_121, z_122, z_123, z_124, z_125, z_126, z_127, z_199, z_200, z_360, z_410, z_1000, z_1023, z_1024, z_1219, z_9999, z_10240, z_65537]
        exact e1
      · have := fW_tr h1' e2 (by omega) (by omega)
        rw [show m 99 32 + 1 + (8 - (i + 1)) = m 99 32 + (8 - i) by omega] at this
        exact this
      · by_cases e : j = i
        · subst e
          rw [show m 99 32 + (j - j) = m 99 32 by omega, fW_at e2 (by omega), ud_ne _ _ (by omega), ud_same]
        · have := e3 j (by omega) j1
          rw [show m 99 32 + 1 + (j - (i + 1)) = m 99 32 + (j - i) by omega] at this
          exact this
    · refine ⟨m, ?_, ⟨by omega, fun a b => Or.inr (Or.inr rfl)⟩, fun j j0 j1 => by omega⟩
      simp (disch := omega) only [pw_0, up_0, pw_1, up_1, pw_2, up_2, pw_3, up_3, pw_4, up_4, pw_9, up_9, pw_10, up_10, pwi_5, upi_5, pwi_6, upi_6, pwi_7, upi_7, pwi_8, upi_8, pwi_11, upi_11, pw_12, up_12, pw_14, up_14, pw_15, up_15, pw_16, up_16, pw_18, up_18, pw_24, up_24, pw_25, up_25, pw_26, up_26, pw_29, up_29, pw_30, up_30, pw_31, up_31, pwi_13, upi_13, pwi_17, upi_17, pwi_19, upi_19, pwi_20, upi_20, pwi_21, upi_21, pwi_22, upi_22, pwi_23, upi_23, pwi_32, upi_32, pwi_33, upi_33, eC_5, eC_6, eC_13, eC_17, eC_19, eC_20, eC_21, eC_22, eC_23, eC_32, eC_33, eC_p5, eC_p6, eC_p13, eC_p17, eC_p19, eC_p20, eC_p21, eC_p22, eC_p23, eC_p32, eC_p33, s_T, s_F, s_bd, s_cl, s_rd, s_wr, s_ite, z_ite, z_neg, z_add, z_sub, z_mul, z_le, z_lt, z_eq, eC_at, eC_7, eC_8, eC_9, eC_10, eC_11, eC_p7, eC_p8, eC_p9, eC_p10, eC_p11, eC_up, ud_same, ud_ne, if_pos, if_neg, z_0, z_1, z_2, z_3, z_4, z_5, z_6, z_7, z_8, z_9, z_10, z_11, z_12, z_13, z_14, z_15, z_16, z_17, z_18, z_19, z_20, z_21, z_22, z_23, z_24, z_25, z_26, z_27, z_28, z_29, z_30, z_31, z_32, z_33, z_34, z_35, z_36, z_37, z_38, z_39, z_40, z_41, z_42, z_43, z_44, z_45, z_46, z_47, z_48, z_49, z_50, z_51, z_52, z_53, z_54, z_55, z_56, z_57, z_58, z_59, z_60, z_61, z_62, z_63, z_64, z_65, z_66, z_67, z_68, z_69, z_70, z_71, z_72, z_73, z_74, z_75, z_76, z_77, z_78, z_79, z_80, z_81, z_82, z_83, z_84, z_85, z_86, z_87, z_88, z_89, z_90, z_91, z_92, z_93, z_94, z_95, z_96, z_97, z_98, z_99, z_100, z_101, z_102, z_103, z_104, z_105, z_106, z_107, z_108, z_109, z_110, z_111, z_112, z_113, z_114, z_115, z_116, z_117, z_118, z_119, z_120, z_121, z_122, z_123, z_124, z_125, z_126, z_127, z_199, z_200, z_360, z_410, z_1000, z_1023, z_1024, z_1219, z_9999, z_10240, z_65537]
theorem mr_9 (τ : qL) : ∀ (N : Nat) (i : Int) (m d : Nat → Int → Int), 0 ≤ i → i ≤ 8 → (8 - i).toNat < N → m 99 33 = 0 → 0 ≤ m 99 32 → m 99 32 + (8 - i) ≤ 400 →
    ∃ d', q_lp (b_X7_passRow_9_2 τ (8 : Int32)) (fun z1 => some z1.2) N (zI i, eC (pw m d)) = some (eC (pw (ud m 99 32 (m 99 32 + (8 - i))) d')) ∧ (∀ a b, (a = 5 ∧ i ≤ b ∧ b < 8) ∨ d' a b = d a b) ∧ (∀ j, i ≤ j → j < 8 → d' 5 j = m 30 (m 99 32 + (j - i))) := by
  intro N
  induction N with
  | zero => intro i m d _ _ h; omega
  | succ N ih =>
    intro i m d h0 h1 hN h33 c0 c1
    rw [lp_s]
    unfold b_X7_passRow_9_2
    by_cases c : i < 8
    · have hp := m_passR m d τ (zI (d 5 i)) h33 c0 (by omega)
      obtain ⟨d', e1, e2, e3⟩ := ih (i + 1) (ud m 99 32 (m 99 32 + 1)) (ud d 5 i (m 30 (m 99 32))) (by omega) (by omega) (by omega) (by rw [ud_ne _ _ (by omega)]; exact h33) (by rw [ud_same]; omega) (by rw [ud_same]; omega)
      rw [ud_same, ud_ud, show m 99 32 + 1 + (8 - (i + 1)) = m 99 32 + (8 - i) by omega] at e1
      refine ⟨d', ?_, fun a b => ?_, fun j j0 j1 => ?_⟩
      · simp (disch := omega) only [hp, pw_0, up_0, pw_1, up_1, pw_2, up_2, pw_3, up_3, pw_4, up_4, pw_9, up_9, pw_10, up_10, pwi_5, upi_5, pwi_6, upi_6, pwi_7, upi_7, pwi_8, upi_8, pwi_11, upi_11, pw_12, up_12, pw_14, up_14, pw_15, up_15, pw_16, up_16, pw_18, up_18, pw_24, up_24, pw_25, up_25, pw_26, up_26, pw_29, up_29, pw_30, up_30, pw_31, up_31, pwi_13, upi_13, pwi_17, upi_17, pwi_19, upi_19, pwi_20, upi_20, pwi_21, upi_21, pwi_22, upi_22, pwi_23, upi_23, pwi_32, upi_32, pwi_33, upi_33, eC_5, eC_6, eC_13, eC_17, eC_19, eC_20, eC_21, eC_22, eC_23, eC_32, eC_33, eC_p5, eC_p6, eC_p13, eC_p17, eC_p19, eC_p20, eC_p21, eC_p22, eC_p23, eC_p32, eC_p33, s_T, s_F, s_bd, s_cl, s_rd, s_wr, s_ite, z_ite, z_neg, z_add, z_sub, z_mul, z_le, z_lt, z_eq, eC_at, eC_7, eC_8, eC_9, eC_10, eC_11, eC_p7, eC_p8, eC_p9, eC_p10, eC_p11, eC_up, ud_same, ud_ne, if_pos, if_neg, z_0, z_1, z_2, z_3, z_4, z_5, z_6, z_7, z_8, z_9, z_10, z_11, z_12, z_13, z_14, z_15, z_16, z_17, z_18, z_19, z_20, z_21, z_22, z_23, z_24, z_25, z_26, z_27, z_28, z_29, z_30, z_31, z_32, z_33, z_34, z_35, z_36, z_37, z_38, z_39, z_40, z_41, z_42, z_43, z_44, z_45, z_46, z_47, z_48, z_49, z_50, z_51, z_52, z_53, z_54, z_55, z_56, z_57, z_58, z_59, z_60, z_61, z_62, z_63, z_64, z_65, z_66, z_67, z_68, z_69, z_70, z_71, z_72, z_73, z_74, z_75, z_76, z_77, z_78, z_79, z_80, z_81, z_82, z_83, z_84, z_85, z_86, z_87, z_88, z_89, z_90, z_91, z_92, z_93, z_94, z_95, z_96, z_97, z_98, z_99, z_100, z_101, z_102, z_103, z_104, z_105, z_106, z_107, z_108, z_109, z_110, z_111, z_112, z_113, z_114, z_115, z_116, z_117, z_118, z_119, z_120, z_121, z_122, z_123, z_124, z_125, z_126, z_127, z_199, z_200, z_360, z_410, z_1000, z_1023, z_1024, z_1219, z_9999, z_10240, z_65537]
        exact e1
      · rcases e2 a b with z | z
        · exact Or.inl (by omega)
        · by_cases e : a = 5 ∧ b = i
          · exact Or.inl (by omega)
          · exact Or.inr (by rw [z, ud_ne _ _ (by omega)])
      · by_cases e : j = i
        · subst e
          rcases e2 5 j with z | z
          · omega
          · rw [z, ud_same, show m 99 32 + (j - j) = m 99 32 by omega]
        · have := e3 j (by omega) j1
          rw [ud_same, ud_ne _ _ (by omega), show m 99 32 + 1 + (j - (i + 1)) = m 99 32 + (j - i) by omega] at this
          exact this
    · refine ⟨d, ?_, fun a b => Or.inr rfl, fun j j0 j1 => by omega⟩
      rw [show m 99 32 + (8 - i) = m 99 32 by omega, ud_self]
      simp (disch := omega) only [pw_0, up_0, pw_1, up_1, pw_2, up_2, pw_3, up_3, pw_4, up_4, pw_9, up_9, pw_10, up_10, pwi_5, upi_5, pwi_6, upi_6, pwi_7, upi_7, pwi_8, upi_8, pwi_11, upi_11, pw_12, up_12, pw_14, up_14, pw_15, up_15, pw_16, up_16, pw_18, up_18, pw_24, up_24, pw_25, up_25, pw_26, up_26, pw_29, up_29, pw_30, up_30, pw_31, up_31, pwi_13, upi_13, pwi_17, upi_17, pwi_19, upi_19, pwi_20, upi_20, pwi_21, upi_21, pwi_22, upi_22, pwi_23, upi_23, pwi_32, upi_32, pwi_33, upi_33, eC_5, eC_6, eC_13, eC_17, eC_19, eC_20, eC_21, eC_22, eC_23, eC_32, eC_33, eC_p5, eC_p6, eC_p13, eC_p17, eC_p19, eC_p20, eC_p21, eC_p22, eC_p23, eC_p32, eC_p33, s_T, s_F, s_bd, s_cl, s_rd, s_wr, s_ite, z_ite, z_neg, z_add, z_sub, z_mul, z_le, z_lt, z_eq, eC_at, eC_7, eC_8, eC_9, eC_10, eC_11, eC_p7, eC_p8, eC_p9, eC_p10, eC_p11, eC_up, ud_same, ud_ne, if_pos, if_neg, z_0, z_1, z_2, z_3, z_4, z_5, z_6, z_7, z_8, z_9, z_10, z_11, z_12, z_13, z_14, z_15, z_16, z_17, z_18, z_19, z_20, z_21, z_22, z_23, z_24, z_25, z_26, z_27, z_28, z_29, z_30, z_31, z_32, z_33, z_34, z_35, z_36, z_37, z_38, z_39, z_40, z_41, z_42, z_43, z_44, z_45, z_46, z_47, z_48, z_49, z_50, z_51, z_52, z_53, z_54, z_55, z_56, z_57, z_58, z_59, z_60, z_61, z_62, z_63, z_64, z_65, z_66, z_67, z_68, z_69, z_70, z_71, z_72, z_73, z_74, z_75, z_76, z_77, z_78, z_79, z_80, z_81, z_82, z_83, z_84, z_85, z_86, z_87, z_88, z_89, z_90, z_91, z_92, z_93, z_94, z_95, z_96, z_97, z_98, z_99, z_100, z_101, z_102, z_103, z_104, z_105, z_106, z_107, z_108, z_109, z_110, z_111, z_112, z_113, z_114, z_115, z_116, z_117, z_118, z_119, z_120, z_121, z_122, z_123, z_124, z_125, z_126, z_127, z_199, z_200, z_360, z_410, z_1000, z_1023, z_1024, z_1219, z_9999, z_10240, z_65537]
theorem mwr_9 (d m : Nat → Int → Int) (τ : qL) {c : Int} (hc : m 99 32 = c) (c0 : 0 ≤ c) (c1 : c + 8 ≤ 400) (h33 : m 99 33 = 1) : ∃ m', f_X7_passRow_9 (eC (pw m d)) τ (8 : Int32) = some (eC (pw m' d)) ∧ fW m m' c (c + 8) ∧ (∀ j, 0 ≤ j → j < 8 → m' 30 (c + j) = d 5 j) := by
  subst hc
  obtain ⟨m', e1, e2, e3⟩ := mw_9 d τ 20000 0 m (by omega) (by omega) (by omega) h33 c0 (by omega)
  refine ⟨m', e1, by rw [show m 99 32 + ((8 : Int) - 0) = m 99 32 + 8 by omega] at e2; exact e2, fun j j0 j1 => ?_⟩
  have := e3 j j0 j1
  rwa [show m 99 32 + (j - 0) = m 99 32 + j by omega] at this
theorem mrr_9 (m d : Nat → Int → Int) (τ : qL) {c : Int} (hc : m 99 32 = c) (c0 : 0 ≤ c) (c1 : c + 8 ≤ 400) (h33 : m 99 33 = 0) : ∃ d', f_X7_passRow_9 (eC (pw m d)) τ (8 : Int32) = some (eC (pw (ud m 99 32 (c + 8)) d')) ∧ (∀ a b, (a = 5 ∧ 0 ≤ b ∧ b < 8) ∨ d' a b = d a b) ∧ (∀ j, 0 ≤ j → j < 8 → d' 5 j = m 30 (c + j)) := by
  subst hc
  obtain ⟨d', e1, e2, e3⟩ := mr_9 τ 20000 0 m d (by omega) (by omega) (by omega) h33 c0 (by omega)
  refine ⟨d', by rw [show m 99 32 + ((8 : Int) - 0) = m 99 32 + 8 by omega] at e1; exact e1, e2, fun j j0 j1 => ?_⟩
  have := e3 j j0 j1
  rwa [show m 99 32 + (j - 0) = m 99 32 + j by omega] at this
theorem mw_10 (d : Nat → Int → Int) (τ : qL) : ∀ (N : Nat) (i : Int) (m : Nat → Int → Int), 0 ≤ i → i ≤ 8 → (8 - i).toNat < N → m 99 33 = 1 → 0 ≤ m 99 32 → m 99 32 + (8 - i) ≤ 400 →
    ∃ m', q_lp (b_X7_passRow_10_2 τ (8 : Int32)) (fun z1 => some z1.2) N (zI i, eC (pw m d)) = some (eC (pw m' d)) ∧ fW m m' (m 99 32) (m 99 32 + (8 - i)) ∧ (∀ j, i ≤ j → j < 8 → m' 30 (m 99 32 + (j - i)) = d 6 j) := by
  intro N
  induction N with
  | zero => intro i m _ _ h; omega
  | succ N ih =>
    intro i m h0 h1 hN h33 c0 c1
    rw [lp_s]
    unfold b_X7_passRow_10_2
    by_cases c : i < 8
    · have hp := m_passW m d τ (v := d 6 i) h33 c0 (by omega)
      obtain ⟨m', e1, e2, e3⟩ := ih (i + 1) (ud (ud m 30 (m 99 32) (d 6 i)) 99 32 (m 99 32 + 1)) (by omega) (by omega) (by omega) (by rw [ud_ne _ _ (by omega), ud_ne _ _ (by omega)]; exact h33) (by rw [ud_same]; omega) (by rw [ud_same]; omega)
      rw [ud_same] at e2 e3
      have h1' := fW_1 m (d 6 i) rfl
      refine ⟨m', ?_, ?_, fun j j0 j1 => ?_⟩
      · simp (disch := omega) only [hp, ud_self, pw_0, up_0, pw_1, up_1, pw_2, up_2, pw_3, up_3, pw_4, up_4, pw_9, up_9, pw_10, up_10, pwi_5, upi_5, pwi_6, upi_6, pwi_7, upi_7, pwi_8, upi_8, pwi_11, upi_11, pw_12, up_12, pw_14, up_14, pw_15, up_15, pw_16, up_16, pw_18, up_18, pw_24, up_24, pw_25, up_25, pw_26, up_26, pw_29, up_29, pw_30, up_30, pw_31, up_31, pwi_13, upi_13, pwi_17, upi_17, pwi_19, upi_19, pwi_20, upi_20, pwi_21, upi_21, pwi_22, upi_22, pwi_23, upi_23, pwi_32, upi_32, pwi_33, upi_33, eC_5, eC_6, eC_13, eC_17, eC_19, eC_20, eC_21, eC_22, eC_23, eC_32, eC_33, eC_p5, eC_p6, eC_p13, eC_p17, eC_p19, eC_p20, eC_p21, eC_p22, eC_p23, eC_p32, eC_p33, s_T, s_F, s_bd, s_cl, s_rd, s_wr, s_ite, z_ite, z_neg, z_add, z_sub, z_mul, z_le, z_lt, z_eq, eC_at, eC_7, eC_8, eC_9, eC_10, eC_11, eC_p7, eC_p8, eC_p9, eC_p10, eC_p11, eC_up, ud_same, ud_ne, if_pos, if_neg, z_0, z_1, z_2, z_3, z_4, z_5, z_6, z_7, z_8, z_9, z_10, z_11, z_12, z_13, z_14, z_15, z_16, z_17, z_18, z_19, z_20, z_21, z_22, z_23, z_24, z_25, z_26, z_27, z_28, z_29, z_30, z_31, z_32, z_33, z_34, z_35, z_36, z_37, z_38, z_39, z_40, z_41, z_42, z_43, z_44, z_45, z_46, z_47, z_48, z_49, z_50, z_51, z_52, z_53, z_54, z_55, z_56, z_57, z_58, z_59, z_60, z_61, z_62, z_63, z_64, z_65, z_66, z_67, z_68, z_69, z_70, z_71, z_72, z_73, z_74, z_75, z_76, z_77, z_78, z_79, z_80, z_81, z_82, z_83, z_84, z_85, z_86, z_87, z_88, z_89, z_90, z_91, z_92, z_93, z_94, z_95, z_96, z_97, z_98, z_99, z_100, z_101, z_102, z_103, z_104, z_105, z_106, z_107, z_108, z_109, z_110, z_111, z_112, z_113, z_114, z_115, z_116, z_117, z_118, z_119, z_120, z_121, z_122, z_123, z_124, z_125, z_126, z_127, z_199, z_200, z_360, z_410, z_1000, z_1023, z_1024, z_1219, z_9999, z_10240, z_65537]
        exact e1
      · have := fW_tr h1' e2 (by omega) (by omega)
        rw [show m 99 32 + 1 + (8 - (i + 1)) = m 99 32 + (8 - i) by omega] at this
        exact this
      · by_cases e : j = i
        · subst e
          rw [show m 99 32 + (j - j) = m 99 32 by omega, fW_at e2 (by omega), ud_ne _ _ (by omega), ud_same]
        · have := e3 j (by omega) j1
          rw [show m 99 32 + 1 + (j - (i + 1)) = m 99 32 + (j - i) by omega] at this
          exact this
    · refine ⟨m, ?_, ⟨by omega, fun a b => Or.inr (Or.inr rfl)⟩, fun j j0 j1 => by omega⟩
      simp (disch := omega) only [pw_0, up_0, pw_1, up_1, pw_2, up_2, pw_3, up_3, pw_4, up_4, pw_9, up_9, pw_10, up_10, pwi_5, upi_5, pwi_6, upi_6, pwi_7, upi_7, pwi_8, upi_8, pwi_11, upi_11, pw_12, up_12, pw_14, up_14, pw_15, up_15, pw_16, up_16, pw_18, up_18, pw_24, up_24, pw_25, up_25, pw_26, up_26, pw_29, up_29, pw_30, up_30, pw_31, up_31, pwi_13, upi_13, pwi_17, upi_17, pwi_19, upi_19, pwi_20, upi_20, pwi_21, upi_21, pwi_22, upi_22, pwi_23, upi_23, pwi_32, upi_32, pwi_33, upi_33, eC_5, eC_6, eC_13, eC_17, eC_19, eC_20, eC_21, eC_22, eC_23, eC_32, eC_33, eC_p5, eC_p6, eC_p13, eC_p17, eC_p19, eC_p20, eC_p21, eC_p22, eC_p23, eC_p32, eC_p33, s_T, s_F, s_bd, s_cl, s_rd, s_wr, s_ite, z_ite, z_neg, z_add, z_sub, z_mul, z_le, z_lt, z_eq, eC_at, eC_7, eC_8, eC_9, eC_10, eC_11, eC_p7, eC_p8, eC_p9, eC_p10, eC_p11, eC_up, ud_same, ud_ne, if_pos, if_neg, z_0, z_1, z_2, z_3, z_4, z_5, z_6, z_7, z_8, z_9, z_10, z_11, z_12, z_13, z_14, z_15, z_16, z_17, z_18, z_19, z_20, z_21, z_22, z_23, z_24, z_25, z_26, z_27, z_28, z_29, z_30, z_31, z_32, z_33, z_34, z_35, z_36, z_37, z_38, z_39, z_40, z_41, z_42, z_43, z_44, z_45, z_46, z_47, z_48, z_49, z_50, z_51, z_52, z_53, z_54, z_55, z_56, z_57, z_58, z_59, z_60, z_61, z_62, z_63, z_64, z_65, z_66, z_67, z_68, z_69, z_70, z_71, z_72, z_73, z_74, z_75, z_76, z_77, z_78, z_79, z_80, z_81, z_82, z_83, z_84, z_85, z_86, z_87, z_88, z_89, z_90, z_91, z_92, z_93, z_94, z_95, z_96, z_97, z_98, z_99, z_100, z_101, z_102, z_103, z_104, z_105, z_106, z_107, z_108, z_109, z_110, z_111, z_112, z_113, z_114, z_115, z_116, z_117, z_118, z_119, z_120, z_121, z_122, z_123, z_124, z_125, z_126, z_127, z_199, z_200, z_360, z_410, z_1000, z_1023, z_1024, z_1219, z_9999, z_10240, z_65537]
theorem mr_10 (τ : qL) : ∀ (N : Nat) (i : Int) (m d : Nat → Int → Int), 0 ≤ i → i ≤ 8 → (8 - i).toNat < N → m 99 33 = 0 → 0 ≤ m 99 32 → m 99 32 + (8 - i) ≤ 400 →
    ∃ d', q_lp (b_X7_passRow_10_2 τ (8 : Int32)) (fun z1 => some z1.2) N (zI i, eC (pw m d)) = some (eC (pw (ud m 99 32 (m 99 32 + (8 - i))) d')) ∧ (∀ a b, (a = 6 ∧ i ≤ b ∧ b < 8) ∨ d' a b = d a b) ∧ (∀ j, i ≤ j → j < 8 → d' 6 j = m 30 (m 99 32 + (j - i))) := by
  intro N
  induction N with
  | zero => intro i m d _ _ h; omega
  | succ N ih =>
    intro i m d h0 h1 hN h33 c0 c1
    rw [lp_s]
    unfold b_X7_passRow_10_2
    by_cases c : i < 8
    · have hp := m_passR m d τ (zI (d 6 i)) h33 c0 (by omega)
      obtain ⟨d', e1, e2, e3⟩ := ih (i + 1) (ud m 99 32 (m 99 32 + 1)) (ud d 6 i (m 30 (m 99 32))) (by omega) (by omega) (by omega) (by rw [ud_ne _ _ (by omega)]; exact h33) (by rw [ud_same]; omega) (by rw [ud_same]; omega)
      rw [ud_same, ud_ud, show m 99 32 + 1 + (8 - (i + 1)) = m 99 32 + (8 - i) by omega] at e1
      refine ⟨d', ?_, fun a b => ?_, fun j j0 j1 => ?_⟩
      · simp (disch := omega) only [hp, pw_0, up_0, pw_1, up_1, pw_2, up_2, pw_3, up_3, pw_4, up_4, pw_9, up_9, pw_10, up_10, pwi_5, upi_5, pwi_6, upi_6, pwi_7, upi_7, pwi_8, upi_8, pwi_11, upi_11, pw_12, up_12, pw_14, up_14, pw_15, up_15, pw_16, up_16, pw_18, up_18, pw_24, up_24, pw_25, up_25, pw_26, up_26, pw_29, up_29, pw_30, up_30, pw_31, up_31, pwi_13, upi_13, pwi_17, upi_17, pwi_19, upi_19, pwi_20, upi_20, pwi_21, upi_21, pwi_22, upi_22, pwi_23, upi_23, pwi_32, upi_32, pwi_33, upi_33, eC_5, eC_6, eC_13, eC_17, eC_19, eC_20, eC_21, eC_22, eC_23, eC_32, eC_33, eC_p5, eC_p6, eC_p13, eC_p17, eC_p19, eC_p20, eC_p21, eC_p22, eC_p23, eC_p32, eC_p33, s_T, s_F, s_bd, s_cl, s_rd, s_wr, s_ite, z_ite, z_neg, z_add, z_sub, z_mul, z_le, z_lt, z_eq, eC_at, eC_7, eC_8, eC_9, eC_10, eC_11, eC_p7, eC_p8, eC_p9, eC_p10, eC_p11, eC_up, ud_same, ud_ne, if_pos, if_neg, z_0, z_1, z_2, z_3, z_4, z_5, z_6, z_7, z_8, z_9, z_10, z_11, z_12, z_13, z_14, z_15, z_16, z_17, z_18, z_19, z_20, z_21, z_22, z_23, z_24, z_25, z_26, z_27, z_28, z_29, z_30, z_31, z_32, z_33, z_34, z_35, z_36, z_37, z_38, z_39, z_40, z_41, z_42, z_43, z_44, z_45, z_46, z_47, z_48, z_49, z_50, z_51, z_52, z_53, z_54, z_55, z_56, z_57, z_58, z_59, z_60, z_61, z_62, z_63, z_64, z_65, z_66, z_67, z_68, z_69, z_70, z_71, z_72, z_73, z_74, z_75, z_76, z_77, z_78, z_79, z_80, z_81, z_82, z_83, z_84, z_85, z_86, z_87, z_88, z_89, z_90, z_91, z_92, z_93, z_94, z_95, z_96, z_97, z_98, z_99, z_100, z_101, z_102, z_103, z_104, z_105, z_106, z_107, z_108, z_109, z_110, z_111, z_112, z_113, z_114, z_115, z_116, z_117, z_118, z_119, z_120, z_121, z_122, z_123, z_124, z_125, z_126, z_127, z_199, z_200, z_360, z_410, z_1000, z_1023, z_1024, z_1219, z_9999, z_10240, z_65537]
        exact e1
      · rcases e2 a b with z | z
        · exact Or.inl (by omega)
        · by_cases e : a = 6 ∧ b = i
          · exact Or.inl (by omega)
          · exact Or.inr (by rw [z, ud_ne _ _ (by omega)])
      · by_cases e : j = i
        · subst e
          rcases e2 6 j with z | z
          · omega
          · rw [z, ud_same, show m 99 32 + (j - j) = m 99 32 by omega]
        · have := e3 j (by omega) j1
          rw [ud_same, ud_ne _ _ (by omega), show m 99 32 + 1 + (j - (i + 1)) = m 99 32 + (j - i) by omega] at this
          exact this
    · refine ⟨d, ?_, fun a b => Or.inr rfl, fun j j0 j1 => by omega⟩
      rw [show m 99 32 + (8 - i) = m 99 32 by omega, ud_self]
      simp (disch := omega) only [pw_0, up_0, pw_1, up_1, pw_2, up_2, pw_3, up_3, pw_4, up_4, pw_9, up_9, pw_10, up_10, pwi_5, upi_5, pwi_6, upi_6, pwi_7, upi_7, pwi_8, upi_8, pwi_11, upi_11, pw_12, up_12, pw_14, up_14, pw_15, up_15, pw_16, up_16, pw_18, up_18, pw_24, up_24, pw_25, up_25, pw_26, up_26, pw_29, up_29, pw_30, up_30, pw_31, up_31, pwi_13, upi_13, pwi_17, upi_17, pwi_19, upi_19, pwi_20, upi_20, pwi_21, upi_21, pwi_22, upi_22, pwi_23, upi_23, pwi_32, upi_32, pwi_33, upi_33, eC_5, eC_6, eC_13, eC_17, eC_19, eC_20, eC_21, eC_22, eC_23, eC_32, eC_33, eC_p5, eC_p6, eC_p13, eC_p17, eC_p19, eC_p20, eC_p21, eC_p22, eC_p23, eC_p32, eC_p33, s_T, s_F, s_bd, s_cl, s_rd, s_wr, s_ite, z_ite, z_neg, z_add, z_sub, z_mul, z_le, z_lt, z_eq, eC_at, eC_7, eC_8, eC_9, eC_10, eC_11, eC_p7, eC_p8, eC_p9, eC_p10, eC_p11, eC_up, ud_same, ud_ne, if_pos, if_neg, z_0, z_1, z_2, z_3, z_4, z_5, z_6, z_7, z_8, z_9, z_10, z_11, z_12, z_13, z_14, z_15, z_16, z_17, z_18, z_19, z_20, z_21, z_22, z_23, z_24, z_25, z_26, z_27, z_28, z_29, z_30, z_31, z_32, z_33, z_34, z_35, z_36, z_37, z_38, z_39, z_40, z_41, z_42, z_43, z_44, z_45, z_46, z_47, z_48, z_49, z_50, z_51, z_52, z_53, z_54, z_55, z_56, z_57, z_58, z_59, z_60, z_61, z_62, z_63, z_64, z_65, z_66, z_67, z_68, z_69, z_70, z_71, z_72, z_73, z_74, z_75, z_76, z_77, z_78, z_79, z_80, z_81, z_82, z_83, z_84, z_85, z_86, z_87, z_88, z_89, z_90, z_91, z_92, z_93, z_94, z_95, z_96, z_97, z_98, z_99, z_100, z_101, z_102, z_103, z_104, z_105, z_106, z_107, z_108, z_109, z_110, z_111, z_112, z_113, z_114, z_115, z_116, z_117, z_118, z_119, z_120, z_121, z_122, z_123, z_124, z_125, z_126, z_127, z_199, z_200, z_360, z_410, z_1000, z_1023, z_1024, z_1219, z_9999, z_10240, z_65537]
theorem mwr_10 (d m : Nat → Int → Int) (τ : qL) {c : Int} (hc : m 99 32 = c) (c0 : 0 ≤ c) (c1 : c + 8 ≤ 400) (h33 : m 99 33 = 1) : ∃ m', f_X7_passRow_10 (eC (pw m d)) τ (8 : Int32) = some (eC (pw m' d)) ∧ fW m m' c (c + 8) ∧ (∀ j, 0 ≤ j → j < 8 → m' 30 (c + j) = d 6 j) := by
  subst hc
  obtain ⟨m', e1, e2, e3⟩ := mw_10 d τ 20000 0 m (by omega) (by omega) (by omega) h33 c0 (by omega)
  refine ⟨m', e1, by rw [show m 99 32 + ((8 : Int) - 0) = m 99 32 + 8 by omega] at e2; exact e2, fun j j0 j1 => ?_⟩
  have := e3 j j0 j1
  rwa [show m 99 32 + (j - 0) = m 99 32 + j by omega] at this
theorem mrr_10 (m d : Nat → Int → Int) (τ : qL) {c : Int} (hc : m 99 32 = c) (c0 : 0 ≤ c) (c1 : c + 8 ≤ 400) (h33 : m 99 33 = 0) : ∃ d', f_X7_passRow_10 (eC (pw m d)) τ (8 : Int32) = some (eC (pw (ud m 99 32 (c + 8)) d')) ∧ (∀ a b, (a = 6 ∧ 0 ≤ b ∧ b < 8) ∨ d' a b = d a b) ∧ (∀ j, 0 ≤ j → j < 8 → d' 6 j = m 30 (c + j)) := by
  subst hc
  obtain ⟨d', e1, e2, e3⟩ := mr_10 τ 20000 0 m d (by omega) (by omega) (by omega) h33 c0 (by omega)
  refine ⟨d', by rw [show m 99 32 + ((8 : Int) - 0) = m 99 32 + 8 by omega] at e1; exact e1, e2, fun j j0 j1 => ?_⟩
  have := e3 j j0 j1
  rwa [show m 99 32 + (j - 0) = m 99 32 + j by omega] at this
theorem m_allW (m d : Nat → Int → Int) (τ : qL) {c : Int} (hc : m 99 32 = c) (c0 : 0 ≤ c) (c1 : c ≤ 200) (h33 : m 99 33 = 1) : ∃ m', f_X7_passAll (eC (pw m d)) τ = some (eC (pw m' d)) ∧ imgR m' c d ∧ fW m m' c (c + 182) := by
  have w0 := hc
  have v0 := h33
  have p0 := m_passW m d τ (v := d 99 8) v0 (by omega) (by omega)
  rw [w0] at p0
  have f0 := fW_1 m (d 99 8) w0
  have g0 : (ud (ud m 30 c (d 99 8)) 99 32 (c + 1)) 30 c = d 99 8 := by rw [ud_ne _ _ (by omega), ud_same]
  generalize (ud (ud m 30 c (d 99 8)) 99 32 (c + 1)) = m1 at p0 f0 g0
  have w1 := f0.1
  have v1 := (fW_33 f0).trans v0
  have p1 := m_passW m1 d τ (v := d 99 9) v1 (by omega) (by omega)
  rw [w1] at p1
  have f1 := fW_1 m1 (d 99 9) w1
  have g1 : (ud (ud m1 30 (c + 1) (d 99 9)) 99 32 ((c + 1) + 1)) 30 (c + 1) = d 99 9 := by rw [ud_ne _ _ (by omega), ud_same]
  generalize (ud (ud m1 30 (c + 1) (d 99 9)) 99 32 ((c + 1) + 1)) = m2 at p1 f1 g1
  rw [show c + 1 + 1 = c + 2 by omega] at f1
  have w2 := f1.1
  have v2 := (fW_33 f1).trans v1
  have p2 := m_passW m2 d τ (v := d 99 10) v2 (by omega) (by omega)
  rw [w2] at p2
  have f2 := fW_1 m2 (d 99 10) w2
  have g2 : (ud (ud m2 30 (c + 2) (d 99 10)) 99 32 ((c + 2) + 1)) 30 (c + 2) = d 99 10 := by rw [ud_ne _ _ (by omega), ud_same]
  generalize (ud (ud m2 30 (c + 2) (d 99 10)) 99 32 ((c + 2) + 1)) = m3 at p2 f2 g2
  rw [show c + 2 + 1 = c + 3 by omega] at f2
  have w3 := f2.1
  have v3 := (fW_33 f2).trans v2
  have p3 := m_passW m3 d τ (v := d 99 11) v3 (by omega) (by omega)
  rw [w3] at p3
  have f3 := fW_1 m3 (d 99 11) w3
  have g3 : (ud (ud m3 30 (c + 3) (d 99 11)) 99 32 ((c + 3) + 1)) 30 (c + 3) = d 99 11 := by rw [ud_ne _ _ (by omega), ud_same]
  generalize (ud (ud m3 30 (c + 3) (d 99 11)) 99 32 ((c + 3) + 1)) = m4 at p3 f3 g3
  rw [show c + 3 + 1 = c + 4 by omega] at f3
  have w4 := f3.1
  have v4 := (fW_33 f3).trans v3
  have p4 := m_passW m4 d τ (v := d 99 7) v4 (by omega) (by omega)
  rw [w4] at p4
  have f4 := fW_1 m4 (d 99 7) w4
  have g4 : (ud (ud m4 30 (c + 4) (d 99 7)) 99 32 ((c + 4) + 1)) 30 (c + 4) = d 99 7 := by rw [ud_ne _ _ (by omega), ud_same]
  generalize (ud (ud m4 30 (c + 4) (d 99 7)) 99 32 ((c + 4) + 1)) = m5 at p4 f4 g4
  rw [show c + 4 + 1 = c + 5 by omega] at f4
  have w5 := f4.1
  have v5 := (fW_33 f4).trans v4
  obtain ⟨m6, p5, f5, g5⟩ := mwr_0 d m5 τ w5 (by omega) (by omega) v5
  rw [show c + 5 + 121 = c + 126 by omega] at f5
  have w6 := f5.1
  have v6 := (fW_33 f5).trans v5
  obtain ⟨m7, p6, f6, g6⟩ := mwr_1 d m6 τ w6 (by omega) (by omega) v6
  rw [show c + 126 + 10 = c + 136 by omega] at f6
  have w7 := f6.1
  have v7 := (fW_33 f6).trans v6
  obtain ⟨m8, p7, f7, g7⟩ := mwr_2 d m7 τ w7 (by omega) (by omega) v7
  rw [show c + 136 + 10 = c + 146 by omega] at f7
  have w8 := f7.1
  have v8 := (fW_33 f7).trans v7
  obtain ⟨m9, p8, f8, g8⟩ := mwr_3 d m8 τ w8 (by omega) (by omega) v8
  rw [show c + 146 + 10 = c + 156 by omega] at f8
  have w9 := f8.1
  have v9 := (fW_33 f8).trans v8
  obtain ⟨m10, p9, f9, g9⟩ := mwr_4 d m9 τ w9 (by omega) (by omega) v9
  rw [show c + 156 + 10 = c + 166 by omega] at f9
  have w10 := f9.1
  have v10 := (fW_33 f9).trans v9
  obtain ⟨m11, p10, f10, g10⟩ := mwr_9 d m10 τ w10 (by omega) (by omega) v10
  rw [show c + 166 + 8 = c + 174 by omega] at f10
  have w11 := f10.1
  have v11 := (fW_33 f10).trans v10
  obtain ⟨m12, p11, f11, g11⟩ := mwr_10 d m11 τ w11 (by omega) (by omega) v11
  rw [show c + 174 + 8 = c + 182 by omega] at f11
  have w12 := f11.1
  have v12 := (fW_33 f11).trans v11
  have t11 := f11
  have t10 := fW_tr f10 t11 (by omega) (by omega)
  have t9 := fW_tr f9 t10 (by omega) (by omega)
  have t8 := fW_tr f8 t9 (by omega) (by omega)
  have t7 := fW_tr f7 t8 (by omega) (by omega)
  have t6 := fW_tr f6 t7 (by omega) (by omega)
  have t5 := fW_tr f5 t6 (by omega) (by omega)
  have t4 := fW_tr f4 t5 (by omega) (by omega)
  have t3 := fW_tr f3 t4 (by omega) (by omega)
  have t2 := fW_tr f2 t3 (by omega) (by omega)
  have t1 := fW_tr f1 t2 (by omega) (by omega)
  have t0 := fW_tr f0 t1 (by omega) (by omega)
  refine ⟨m12, ?_, ⟨?_, ?_, ?_, ?_, ?_, ?_, ?_, ?_, ?_, ?_, ?_, ?_⟩, t0⟩
  · rw [z_121] at p5; rw [z_10] at p6 p7 p8 p9; rw [z_8] at p10 p11
    unfold f_X7_passAll
    simp (disch := omega) only [p0, p1, p2, p3, p4, p5, p6, p7, p8, p9, p10, p11, ud_self, pw_0, up_0, pw_1, up_1, pw_2, up_2, pw_3, up_3, pw_4, up_4, pw_9, up_9, pw_10, up_10, pwi_5, upi_5, pwi_6, upi_6, pwi_7, upi_7, pwi_8, upi_8, pwi_11, upi_11, pw_12, up_12, pw_14, up_14, pw_15, up_15, pw_16, up_16, pw_18, up_18, pw_24, up_24, pw_25, up_25, pw_26, up_26, pw_29, up_29, pw_30, up_30, pw_31, up_31, pwi_13, upi_13, pwi_17, upi_17, pwi_19, upi_19, pwi_20, upi_20, pwi_21, upi_21, pwi_22, upi_22, pwi_23, upi_23, pwi_32, upi_32, pwi_33, upi_33, eC_5, eC_6, eC_13, eC_17, eC_19, eC_20, eC_21, eC_22, eC_23, eC_32, eC_33, eC_p5, eC_p6, eC_p13, eC_p17, eC_p19, eC_p20, eC_p21, eC_p22, eC_p23, eC_p32, eC_p33, s_T, s_F, s_bd, s_cl, s_rd, s_wr, s_ite, z_ite, z_neg, z_add, z_sub, z_mul, z_le, z_lt, z_eq, eC_at, eC_7, eC_8, eC_9, eC_10, eC_11, eC_p7, eC_p8, eC_p9, eC_p10, eC_p11, eC_up, ud_same, ud_ne, if_pos, if_neg, z_0, z_1, z_2, z_3, z_4, z_5, z_6, z_7, z_8, z_9, z_10, z_11, z_12, z_13, z_14, z_15, z_16, z_17, z_18, z_19, z_20, z_21, z_22, z_23, z_24, z_25, z_26, z_27, z_28, z_29, z_30, z_31, z_32, z_33, z_34, z_35, z_36, z_37, z_38, z_39, z_40, z_41, z_42, z_43, z_44, z_45, z_46, z_47, z_48, z_49, z_50, z_51, z_52, z_53, z_54, z_55, z_56, z_57, z_58, z_59, z_60, z_61, z_62, z_63, z_64, z_65, z_66, z_67, z_68, z_69, z_70, z_71, z_72, z_73, z_74, z_75, z_76, z_77, z_78, z_79, z_80, z_81, z_82, z_83, z_84, z_85, z_86, z_87, z_88, z_89, z_90, z_91, z_92, z_93, z_94, z_95, z_96, z_97, z_98, z_99, z_100, z_101, z_102, z_103, z_104, z_105, z_106, z_107, z_108, z_109, z_110, z_111, z_112, z_113, z_114, z_115, z_116, z_117, z_118, z_119, z_120, z_121, z_122, z_123, z_124, z_125, z_126, z_127, z_199, z_200, z_360, z_410, z_1000, z_1023, z_1024, z_1219, z_9999, z_10240, z_65537]
  · rw [fW_at t1 (by omega)]; rw [show c + 0 = c by omega]; exact g0
  · rw [fW_at t2 (by omega)]; exact g1
  · rw [fW_at t3 (by omega)]; exact g2
  · rw [fW_at t4 (by omega)]; exact g3
  · rw [fW_at t5 (by omega)]; exact g4
  · intro j j0 j1; rw [fW_at t6 (by omega)]; exact g5 j j0 j1
  · intro j j0 j1; rw [fW_at t7 (by omega)]; exact g6 j j0 j1
  · intro j j0 j1; rw [fW_at t8 (by omega)]; exact g7 j j0 j1
  · intro j j0 j1; rw [fW_at t9 (by omega)]; exact g8 j j0 j1
  · intro j j0 j1; rw [fW_at t10 (by omega)]; exact g9 j j0 j1
  · intro j j0 j1; rw [fW_at t11 (by omega)]; exact g10 j j0 j1
  · exact g11
theorem m_allR (m d : Nat → Int → Int) (τ : qL) {c : Int} (hc : m 99 32 = c) (c0 : 0 ≤ c) (c1 : c ≤ 200) (h33 : m 99 33 = 0) {g : Nat → Int → Int} (hg : imgR m c g) (hd : rng dz d) (hgz : rng dz g) : f_X7_passAll (eC (pw m d)) τ = some (eC (pw (ud m 99 32 (c + 182)) g)) := by
  obtain ⟨g0, g1, g2, g3, g4, g5, g6, g7, g8, g9, g10, g11⟩ := hg
  have p0 := fun v => m_passR m d τ v h33 (by omega) (by omega)
  rw [hc, show m 30 c = g 99 8 by rw [← g0, show c + 0 = c by omega]] at p0
  have p1 := fun v => m_passR (ud m 99 32 (c + 1)) (ud d 99 8 (g 99 8)) τ v (by rw [ud_ne _ _ (by omega)]; exact h33) (by rw [ud_same]; omega) (by rw [ud_same]; omega)
  rw [ud_same, ud_ne _ _ (by omega), g1, ud_ud, show c + 1 + 1 = c + 2 by omega] at p1
  have p2 := fun v => m_passR (ud m 99 32 (c + 2)) (ud (ud d 99 8 (g 99 8)) 99 9 (g 99 9)) τ v (by rw [ud_ne _ _ (by omega)]; exact h33) (by rw [ud_same]; omega) (by rw [ud_same]; omega)
  rw [ud_same, ud_ne _ _ (by omega), g2, ud_ud, show c + 2 + 1 = c + 3 by omega] at p2
  have p3 := fun v => m_passR (ud m 99 32 (c + 3)) (ud (ud (ud d 99 8 (g 99 8)) 99 9 (g 99 9)) 99 10 (g 99 10)) τ v (by rw [ud_ne _ _ (by omega)]; exact h33) (by rw [ud_same]; omega) (by rw [ud_same]; omega)
  rw [ud_same, ud_ne _ _ (by omega), g3, ud_ud, show c + 3 + 1 = c + 4 by omega] at p3
  have p4 := fun v => m_passR (ud m 99 32 (c + 4)) (ud (ud (ud (ud d 99 8 (g 99 8)) 99 9 (g 99 9)) 99 10 (g 99 10)) 99 11 (g 99 11)) τ v (by rw [ud_ne _ _ (by omega)]; exact h33) (by rw [ud_same]; omega) (by rw [ud_same]; omega)
  rw [ud_same, ud_ne _ _ (by omega), g4, ud_ud, show c + 4 + 1 = c + 5 by omega] at p4
  have q5 : ∀ a b, (a = 99 ∧ 7 ≤ b ∧ b ≤ 11) ∨ (ud (ud (ud (ud (ud d 99 8 (g 99 8)) 99 9 (g 99 9)) 99 10 (g 99 10)) 99 11 (g 99 11)) 99 7 (g 99 7)) a b = d a b := fun a b => by
    by_cases e : a = 99 ∧ 7 ≤ b ∧ b ≤ 11
    · exact Or.inl e
    · exact Or.inr (by rw [ud_ne _ _ (by omega), ud_ne _ _ (by omega), ud_ne _ _ (by omega), ud_ne _ _ (by omega), ud_ne _ _ (by omega)])
  have q5i : ∀ b, 7 ≤ b → b ≤ 11 → (ud (ud (ud (ud (ud d 99 8 (g 99 8)) 99 9 (g 99 9)) 99 10 (g 99 10)) 99 11 (g 99 11)) 99 7 (g 99 7)) 99 b = g 99 b := fun b b0 b1 => by
    rcases (show b = 7 ∨ b = 8 ∨ b = 9 ∨ b = 10 ∨ b = 11 by omega) with z | z | z | z | z <;> subst z <;> simp (disch := omega) only [ud_same, ud_ne]
  skip
  obtain ⟨d6, p5, q6, r6⟩ := mrr_0 (ud m 99 32 (c + 5)) (ud (ud (ud (ud (ud d 99 8 (g 99 8)) 99 9 (g 99 9)) 99 10 (g 99 10)) 99 11 (g 99 11)) 99 7 (g 99 7)) τ (ud_same _ _ _ _) (by omega) (by omega) (by rw [ud_ne _ _ (by omega)]; exact h33)
  rw [ud_ud, show c + 5 + 121 = c + 126 by omega] at p5
  obtain ⟨d7, p6, q7, r7⟩ := mrr_1 (ud m 99 32 (c + 126)) d6 τ (ud_same _ _ _ _) (by omega) (by omega) (by rw [ud_ne _ _ (by omega)]; exact h33)
  rw [ud_ud, show c + 126 + 10 = c + 136 by omega] at p6
  obtain ⟨d8, p7, q8, r8⟩ := mrr_2 (ud m 99 32 (c + 136)) d7 τ (ud_same _ _ _ _) (by omega) (by omega) (by rw [ud_ne _ _ (by omega)]; exact h33)
  rw [ud_ud, show c + 136 + 10 = c + 146 by omega] at p7
  obtain ⟨d9, p8, q9, r9⟩ := mrr_3 (ud m 99 32 (c + 146)) d8 τ (ud_same _ _ _ _) (by omega) (by omega) (by rw [ud_ne _ _ (by omega)]; exact h33)
  rw [ud_ud, show c + 146 + 10 = c + 156 by omega] at p8
  obtain ⟨d10, p9, q10, r10⟩ := mrr_4 (ud m 99 32 (c + 156)) d9 τ (ud_same _ _ _ _) (by omega) (by omega) (by rw [ud_ne _ _ (by omega)]; exact h33)
  rw [ud_ud, show c + 156 + 10 = c + 166 by omega] at p9
  obtain ⟨d11, p10, q11, r11⟩ := mrr_9 (ud m 99 32 (c + 166)) d10 τ (ud_same _ _ _ _) (by omega) (by omega) (by rw [ud_ne _ _ (by omega)]; exact h33)
  rw [ud_ud, show c + 166 + 8 = c + 174 by omega] at p10
  obtain ⟨d12, p11, q12, r12⟩ := mrr_10 (ud m 99 32 (c + 174)) d11 τ (ud_same _ _ _ _) (by omega) (by omega) (by rw [ud_ne _ _ (by omega)]; exact h33)
  rw [ud_ud, show c + 174 + 8 = c + 182 by omega] at p11
  have e : d12 = g := by
    funext a b
    by_cases hr : inR a b
    · rcases hr with ⟨rfl, b0, b1⟩ | ⟨z, b0, b1⟩ | ⟨z, b0, b1⟩ | ⟨rfl, b0, b1⟩
      · rw [(q12 0 b).resolve_left (by omega), (q11 0 b).resolve_left (by omega), (q10 0 b).resolve_left (by omega), (q9 0 b).resolve_left (by omega), (q8 0 b).resolve_left (by omega), (q7 0 b).resolve_left (by omega), r6 b b0 b1]; have := g5 b b0 b1; rw [← this, ud_ne _ _ (by omega)]
      · rcases z with rfl | rfl | rfl | rfl
        · rw [(q12 1 b).resolve_left (by omega), (q11 1 b).resolve_left (by omega), (q10 1 b).resolve_left (by omega), (q9 1 b).resolve_left (by omega), (q8 1 b).resolve_left (by omega), r7 b b0 b1]; have := g6 b b0 b1; rw [← this, ud_ne _ _ (by omega)]
        · rw [(q12 2 b).resolve_left (by omega), (q11 2 b).resolve_left (by omega), (q10 2 b).resolve_left (by omega), (q9 2 b).resolve_left (by omega), r8 b b0 b1]; have := g7 b b0 b1; rw [← this, ud_ne _ _ (by omega)]
        · rw [(q12 3 b).resolve_left (by omega), (q11 3 b).resolve_left (by omega), (q10 3 b).resolve_left (by omega), r9 b b0 b1]; have := g8 b b0 b1; rw [← this, ud_ne _ _ (by omega)]
        · rw [(q12 4 b).resolve_left (by omega), (q11 4 b).resolve_left (by omega), r10 b b0 b1]; have := g9 b b0 b1; rw [← this, ud_ne _ _ (by omega)]
      · rcases z with rfl | rfl
        · rw [(q12 5 b).resolve_left (by omega), r11 b b0 b1]; have := g10 b b0 b1; rw [← this, ud_ne _ _ (by omega)]
        · rw [r12 b b0 b1]; have := g11 b b0 b1; rw [← this, ud_ne _ _ (by omega)]
      · rw [(q12 99 b).resolve_left (by omega), (q11 99 b).resolve_left (by omega), (q10 99 b).resolve_left (by omega), (q9 99 b).resolve_left (by omega), (q8 99 b).resolve_left (by omega), (q7 99 b).resolve_left (by omega), (q6 99 b).resolve_left (by omega), q5i b b0 b1]
    · have h1 : d12 a b = d a b := by
        unfold inR at hr
        rw [(q12 a b).resolve_left (by omega), (q11 a b).resolve_left (by omega), (q10 a b).resolve_left (by omega), (q9 a b).resolve_left (by omega), (q8 a b).resolve_left (by omega), (q7 a b).resolve_left (by omega), (q6 a b).resolve_left (by omega), (q5 a b).resolve_left (by omega)]
      rw [h1, (hd a b).resolve_left hr, (hgz a b).resolve_left hr]
  subst e
  rw [z_121] at p5; rw [z_10] at p6 p7 p8 p9; rw [z_8] at p10 p11
  unfold f_X7_passAll
  simp (disch := omega) only [p0, p1, p2, p3, p4, p5, p6, p7, p8, p9, p10, p11, pw_0, up_0, pw_1, up_1, pw_2, up_2, pw_3, up_3, pw_4, up_4, pw_9, up_9, pw_10, up_10, pwi_5, upi_5, pwi_6, upi_6, pwi_7, upi_7, pwi_8, upi_8, pwi_11, upi_11, pw_12, up_12, pw_14, up_14, pw_15, up_15, pw_16, up_16, pw_18, up_18, pw_24, up_24, pw_25, up_25, pw_26, up_26, pw_29, up_29, pw_30, up_30, pw_31, up_31, pwi_13, upi_13, pwi_17, upi_17, pwi_19, upi_19, pwi_20, upi_20, pwi_21, upi_21, pwi_22, upi_22, pwi_23, upi_23, pwi_32, upi_32, pwi_33, upi_33, eC_5, eC_6, eC_13, eC_17, eC_19, eC_20, eC_21, eC_22, eC_23, eC_32, eC_33, eC_p5, eC_p6, eC_p13, eC_p17, eC_p19, eC_p20, eC_p21, eC_p22, eC_p23, eC_p32, eC_p33, s_T, s_F, s_bd, s_cl, s_rd, s_wr, s_ite, z_ite, z_neg, z_add, z_sub, z_mul, z_le, z_lt, z_eq, eC_at, eC_7, eC_8, eC_9, eC_10, eC_11, eC_p7, eC_p8, eC_p9, eC_p10, eC_p11, eC_up, ud_same, ud_ne, if_pos, if_neg, z_0, z_1, z_2, z_3, z_4, z_5, z_6, z_7, z_8, z_9, z_10, z_11, z_12, z_13, z_14, z_15, z_16, z_17, z_18, z_19, z_20, z_21, z_22, z_23, z_24, z_25, z_26, z_27, z_28, z_29, z_30, z_31, z_32, z_33, z_34, z_35, z_36, z_37, z_38, z_39, z_40, z_41, z_42, z_43, z_44, z_45, z_46, z_47, z_48, z_49, z_50, z_51, z_52, z_53, z_54, z_55, z_56, z_57, z_58, z_59, z_60, z_61, z_62, z_63, z_64, z_65, z_66, z_67, z_68, z_69, z_70, z_71, z_72, z_73, z_74, z_75, z_76, z_77, z_78, z_79, z_80, z_81, z_82, z_83, z_84, z_85, z_86, z_87, z_88, z_89, z_90, z_91, z_92, z_93, z_94, z_95, z_96, z_97, z_98, z_99, z_100, z_101, z_102, z_103, z_104, z_105, z_106, z_107, z_108, z_109, z_110, z_111, z_112, z_113, z_114, z_115, z_116, z_117, z_118, z_119, z_120, z_121, z_122, z_123, z_124, z_125, z_126, z_127, z_199, z_200, z_360, z_410, z_1000, z_1023, z_1024, z_1219, z_9999, z_10240, z_65537]
theorem imgR_fr {m m' : Nat → Int → Int} {c : Int} {d : Nat → Int → Int} (h : imgR m c d) (hf : ∀ b, c ≤ b → b < c + 182 → m' 30 b = m 30 b) : imgR m' c d := by
  obtain ⟨g0, g1, g2, g3, g4, g5, g6, g7, g8, g9, g10, g11⟩ := h
  refine ⟨?_, ?_, ?_, ?_, ?_, fun j j0 j1 => ?_, fun j j0 j1 => ?_, fun j j0 j1 => ?_, fun j j0 j1 => ?_, fun j j0 j1 => ?_, fun j j0 j1 => ?_, fun j j0 j1 => ?_⟩ <;> rw [hf _ (by omega) (by omega)]
  · exact g0
  · exact g1
  · exact g2
  · exact g3
  · exact g4
  · exact g5 j j0 j1
  · exact g6 j j0 j1
  · exact g7 j j0 j1
  · exact g8 j j0 j1
  · exact g9 j j0 j1
  · exact g10 j j0 j1
  · exact g11 j j0 j1
theorem nar1 : vp_nar .boolean (zI 1) = zI 1 := by decide
/-- what image leaves alone in the rest -/
def frI (a : Int) (m m' : Nat → Int → Int) : Prop := ∀ x b, (x = 30 ∧ 200 * a ≤ b ∧ b < 200 * a + 182) ∨ (x = 31 ∧ b = a) ∨ (x = 99 ∧ (b = 32 ∨ b = 33)) ∨ m' x b = m x b
theorem m_image (m d : Nat → Int → Int) (τ : qL) {a : Int} (a0 : 0 ≤ a) (a1 : a ≤ 1) : ∃ m', f_X7_image (eC (pw m d)) τ (zI a) = some (zI 1, eC (pw m' d)) ∧ imgR m' (200 * a) d ∧ m' 31 a = 1 ∧ frI a m m' := by
  obtain ⟨m', e1, e2, e3⟩ := m_allW (ud (ud m 99 32 (200 * a)) 99 33 1) d τ (c := 200 * a) (by rw [ud_ne _ _ (by omega), ud_same]) (by omega) (by omega) (ud_same _ _ _ _)
  refine ⟨ud m' 31 a 1, ?_, imgR_fr e2 (fun b _ _ => ud_ne _ _ (by omega)), ud_same _ _ _ _, fun x b => ?_⟩
  · unfold f_X7_image
    simp (disch := omega) only [m_isPlace, m_isHouse, m_isTale, m_in, z_l, zl_neg, zl_0, zl_1, zl_2, zl_3, zl_5, zl_8, zl_9, zl_10, zl_19, zl_33, zl_40, zl_49, zl_57, zl_60, zl_65, zl_74, zl_99, zl_100, zl_126, zl_199, zl_1000, zl_1219, zl_9999, z_200, e1, s_wrZ, nar1, pw_0, up_0, pw_1, up_1, pw_2, up_2, pw_3, up_3, pw_4, up_4, pw_9, up_9, pw_10, up_10, pwi_5, upi_5, pwi_6, upi_6, pwi_7, upi_7, pwi_8, upi_8, pwi_11, upi_11, pw_12, up_12, pw_14, up_14, pw_15, up_15, pw_16, up_16, pw_18, up_18, pw_24, up_24, pw_25, up_25, pw_26, up_26, pw_29, up_29, pw_30, up_30, pw_31, up_31, pwi_13, upi_13, pwi_17, upi_17, pwi_19, upi_19, pwi_20, upi_20, pwi_21, upi_21, pwi_22, upi_22, pwi_23, upi_23, pwi_32, upi_32, pwi_33, upi_33, eC_5, eC_6, eC_13, eC_17, eC_19, eC_20, eC_21, eC_22, eC_23, eC_32, eC_33, eC_p5, eC_p6, eC_p13, eC_p17, eC_p19, eC_p20, eC_p21, eC_p22, eC_p23, eC_p32, eC_p33, s_T, s_F, s_bd, s_cl, s_rd, s_wr, s_ite, z_ite, z_neg, z_add, z_sub, z_mul, z_le, z_lt, z_eq, eC_at, eC_7, eC_8, eC_9, eC_10, eC_11, eC_p7, eC_p8, eC_p9, eC_p10, eC_p11, eC_up, ud_same, ud_ne, if_pos, if_neg, z_0, z_1, z_2, z_3, z_4, z_5, z_6, z_7, z_8, z_9, z_10, z_11, z_12, z_13, z_14, z_15, z_16, z_17, z_18, z_19, z_20, z_21, z_22, z_23, z_24, z_25, z_26, z_27, z_28, z_29, z_30, z_31, z_32, z_33, z_34, z_35, z_36, z_37, z_38, z_39, z_40, z_41, z_42, z_43, z_44, z_45, z_46, z_47, z_48, z_49, z_50, z_51, z_52, z_53, z_54, z_55, z_56, z_57, z_58, z_59, z_60, z_61, z_62, z_63, z_64, z_65, z_66, z_67, z_68, z_69, z_70, z_71, z_72, z_73, z_74, z_75, z_76, z_77, z_78, z_79, z_80, z_81, z_82, z_83, z_84, z_85, z_86, z_87, z_88, z_89, z_90, z_91, z_92, z_93, z_94, z_95, z_96, z_97, z_98, z_99, z_100, z_101, z_102, z_103, z_104, z_105, z_106, z_107, z_108, z_109, z_110, z_111, z_112, z_113, z_114, z_115, z_116, z_117, z_118, z_119, z_120, z_121, z_122, z_123, z_124, z_125, z_126, z_127, z_199, z_200, z_360, z_410, z_1000, z_1023, z_1024, z_1219, z_9999, z_10240, z_65537]
  · by_cases z : x = 31 ∧ b = a
    · exact Or.inr (Or.inl z)
    · rw [ud_ne _ _ (by omega)]
      rcases e3.2 x b with y | y | y
      · exact Or.inl y
      · exact Or.inr (Or.inr (Or.inl ⟨y.1, Or.inl y.2⟩))
      · by_cases w : x = 99 ∧ (b = 32 ∨ b = 33)
        · exact Or.inr (Or.inr (Or.inl w))
        · exact Or.inr (Or.inr (Or.inr (by rw [y, ud_ne _ _ (by omega), ud_ne _ _ (by omega)])))
theorem m_image_x (m d : Nat → Int → Int) (τ : qL) {a : Int} (h1 : -2147483648 ≤ a) (h2 : a < 2147483648) (h : ¬ (0 ≤ a ∧ a ≤ 1)) : f_X7_image (eC (pw m d)) τ (zI a) = some (zI (-2), eC (pw m d)) := by
  unfold f_X7_image
  simp (disch := omega) only [m_isPlace, m_isHouse, m_isTale, m_in, z_l, zl_neg, zl_0, zl_1, zl_2, zl_3, zl_5, zl_8, zl_9, zl_10, zl_19, zl_33, zl_40, zl_49, zl_57, zl_60, zl_65, zl_74, zl_99, zl_100, zl_126, zl_199, zl_1000, zl_1219, zl_9999, pw_0, up_0, pw_1, up_1, pw_2, up_2, pw_3, up_3, pw_4, up_4, pw_9, up_9, pw_10, up_10, pwi_5, upi_5, pwi_6, upi_6, pwi_7, upi_7, pwi_8, upi_8, pwi_11, upi_11, pw_12, up_12, pw_14, up_14, pw_15, up_15, pw_16, up_16, pw_18, up_18, pw_24, up_24, pw_25, up_25, pw_26, up_26, pw_29, up_29, pw_30, up_30, pw_31, up_31, pwi_13, upi_13, pwi_17, upi_17, pwi_19, upi_19, pwi_20, upi_20, pwi_21, upi_21, pwi_22, upi_22, pwi_23, upi_23, pwi_32, upi_32, pwi_33, upi_33, eC_5, eC_6, eC_13, eC_17, eC_19, eC_20, eC_21, eC_22, eC_23, eC_32, eC_33, eC_p5, eC_p6, eC_p13, eC_p17, eC_p19, eC_p20, eC_p21, eC_p22, eC_p23, eC_p32, eC_p33, s_T, s_F, s_bd, s_cl, s_rd, s_wr, s_ite, z_ite, z_neg, z_add, z_sub, z_mul, z_le, z_lt, z_eq, eC_at, eC_7, eC_8, eC_9, eC_10, eC_11, eC_p7, eC_p8, eC_p9, eC_p10, eC_p11, eC_up, ud_same, ud_ne, if_pos, if_neg, z_0, z_1, z_2, z_3, z_4, z_5, z_6, z_7, z_8, z_9, z_10, z_11, z_12, z_13, z_14, z_15, z_16, z_17, z_18, z_19, z_20, z_21, z_22, z_23, z_24, z_25, z_26, z_27, z_28, z_29, z_30, z_31, z_32, z_33, z_34, z_35, z_36, z_37, z_38, z_39, z_40, z_41, z_42, z_43, z_44, z_45, z_46, z_47, z_48, z_49, z_50, z_51, z_52, z_53, z_54, z_55, z_56, z_57, z_58, z_59, z_60, z_61, z_62, z_63, z_64, z_65, z_66, z_67, z_68, z_69, z_70, z_71, z_72, z_73, z_74, z_75, z_76, z_77, z_78, z_79, z_80, z_81, z_82, z_83, z_84, z_85, z_86, z_87, z_88, z_89, z_90, z_91, z_92, z_93, z_94, z_95, z_96, z_97, z_98, z_99, z_100, z_101, z_102, z_103, z_104, z_105, z_106, z_107, z_108, z_109, z_110, z_111, z_112, z_113, z_114, z_115, z_116, z_117, z_118, z_119, z_120, z_121, z_122, z_123, z_124, z_125, z_126, z_127, z_199, z_200, z_360, z_410, z_1000, z_1023, z_1024, z_1219, z_9999, z_10240, z_65537]
theorem m_restore (m d : Nat → Int → Int) (τ : qL) {a : Int} (a0 : 0 ≤ a) (a1 : a ≤ 1) (h31 : m 31 a = 1) {g : Nat → Int → Int} (hg : imgR m (200 * a) g) (hd : rng dz d) (hgz : rng dz g) : ∃ m', f_X7_restore (eC (pw m d)) τ (zI a) = some (zI 1, eC (pw m' g)) ∧ (∀ x b, (x = 99 ∧ (b = 32 ∨ b = 33)) ∨ m' x b = m x b) := by
  have e1 := m_allR (ud (ud m 99 32 (200 * a)) 99 33 0) d τ (c := 200 * a) (by rw [ud_ne _ _ (by omega), ud_same]) (by omega) (by omega) (ud_same _ _ _ _) (g := g) (imgR_fr hg (fun b _ _ => by rw [ud_ne _ _ (by omega), ud_ne _ _ (by omega)])) hd hgz
  refine ⟨ud (ud (ud m 99 32 (200 * a)) 99 33 0) 99 32 (200 * a + 182), ?_, fun x b => ?_⟩
  · unfold f_X7_restore
    simp (disch := omega) only [m_isPlace, m_isHouse, m_isTale, m_in, z_l, zl_neg, zl_0, zl_1, zl_2, zl_3, zl_5, zl_8, zl_9, zl_10, zl_19, zl_33, zl_40, zl_49, zl_57, zl_60, zl_65, zl_74, zl_99, zl_100, zl_126, zl_199, zl_1000, zl_1219, zl_9999, z_200, e1, h31, pw_0, up_0, pw_1, up_1, pw_2, up_2, pw_3, up_3, pw_4, up_4, pw_9, up_9, pw_10, up_10, pwi_5, upi_5, pwi_6, upi_6, pwi_7, upi_7, pwi_8, upi_8, pwi_11, upi_11, pw_12, up_12, pw_14, up_14, pw_15, up_15, pw_16, up_16, pw_18, up_18, pw_24, up_24, pw_25, up_25, pw_26, up_26, pw_29, up_29, pw_30, up_30, pw_31, up_31, pwi_13, upi_13, pwi_17, upi_17, pwi_19, upi_19, pwi_20, upi_20, pwi_21, upi_21, pwi_22, upi_22, pwi_23, upi_23, pwi_32, upi_32, pwi_33, upi_33, eC_5, eC_6, eC_13, eC_17, eC_19, eC_20, eC_21, eC_22, eC_23, eC_32, eC_33, eC_p5, eC_p6, eC_p13, eC_p17, eC_p19, eC_p20, eC_p21, eC_p22, eC_p23, eC_p32, eC_p33, s_T, s_F, s_bd, s_cl, s_rd, s_wr, s_ite, z_ite, z_neg, z_add, z_sub, z_mul, z_le, z_lt, z_eq, eC_at, eC_7, eC_8, eC_9, eC_10, eC_11, eC_p7, eC_p8, eC_p9, eC_p10, eC_p11, eC_up, ud_same, ud_ne, if_pos, if_neg, z_0, z_1, z_2, z_3, z_4, z_5, z_6, z_7, z_8, z_9, z_10, z_11, z_12, z_13, z_14, z_15, z_16, z_17, z_18, z_19, z_20, z_21, z_22, z_23, z_24, z_25, z_26, z_27, z_28, z_29, z_30, z_31, z_32, z_33, z_34, z_35, z_36, z_37, z_38, z_39, z_40, z_41, z_42, z_43, z_44, z_45, z_46, z_47, z_48, z_49, z_50, z_51, z_52, z_53, z_54, z_55, z_56, z_57, z_58, z_59, z_60, z_61, z_62, z_63, z_64, z_65, z_66, z_67, z_68, z_69, z_70, z_71, z_72, z_73, z_74, z_75, z_76, z_77, z_78, z_79, z_80, z_81, z_82, z_83, z_84, z_85, z_86, z_87, z_88, z_89, z_90, z_91, z_92, z_93, z_94, z_95, z_96, z_97, z_98, z_99, z_100, z_101, z_102, z_103, z_104, z_105, z_106, z_107, z_108, z_109, z_110, z_111, z_112, z_113, z_114, z_115, z_116, z_117, z_118, z_119, z_120, z_121, z_122, z_123, z_124, z_125, z_126, z_127, z_199, z_200, z_360, z_410, z_1000, z_1023, z_1024, z_1219, z_9999, z_10240, z_65537]
  · by_cases w : x = 99 ∧ (b = 32 ∨ b = 33)
    · exact Or.inl w
    · exact Or.inr (by rw [ud_ne _ _ (by omega), ud_ne _ _ (by omega), ud_ne _ _ (by omega)])
theorem m_restore_n (m d : Nat → Int → Int) (τ : qL) {a : Int} (a0 : 0 ≤ a) (a1 : a ≤ 1) (h31 : m 31 a = 0) : f_X7_restore (eC (pw m d)) τ (zI a) = some (zI (-3), eC (pw m d)) := by
  unfold f_X7_restore
  simp (disch := omega) only [m_isPlace, m_isHouse, m_isTale, m_in, z_l, zl_neg, zl_0, zl_1, zl_2, zl_3, zl_5, zl_8, zl_9, zl_10, zl_19, zl_33, zl_40, zl_49, zl_57, zl_60, zl_65, zl_74, zl_99, zl_100, zl_126, zl_199, zl_1000, zl_1219, zl_9999, h31, pw_0, up_0, pw_1, up_1, pw_2, up_2, pw_3, up_3, pw_4, up_4, pw_9, up_9, pw_10, up_10, pwi_5, upi_5, pwi_6, upi_6, pwi_7, upi_7, pwi_8, upi_8, pwi_11, upi_11, pw_12, up_12, pw_14, up_14, pw_15, up_15, pw_16, up_16, pw_18, up_18, pw_24, up_24, pw_25, up_25, pw_26, up_26, pw_29, up_29, pw_30, up_30, pw_31, up_31, pwi_13, upi_13, pwi_17, upi_17, pwi_19, upi_19, pwi_20, upi_20, pwi_21, upi_21, pwi_22, upi_22, pwi_23, upi_23, pwi_32, upi_32, pwi_33, upi_33, eC_5, eC_6, eC_13, eC_17, eC_19, eC_20, eC_21, eC_22, eC_23, eC_32, eC_33, eC_p5, eC_p6, eC_p13, eC_p17, eC_p19, eC_p20, eC_p21, eC_p22, eC_p23, eC_p32, eC_p33, s_T, s_F, s_bd, s_cl, s_rd, s_wr, s_ite, z_ite, z_neg, z_add, z_sub, z_mul, z_le, z_lt, z_eq, eC_at, eC_7, eC_8, eC_9, eC_10, eC_11, eC_p7, eC_p8, eC_p9, eC_p10, eC_p11, eC_up, ud_same, ud_ne, if_pos, if_neg, z_0, z_1, z_2, z_3, z_4, z_5, z_6, z_7, z_8, z_9, z_10, z_11, z_12, z_13, z_14, z_15, z_16, z_17, z_18, z_19, z_20, z_21, z_22, z_23, z_24, z_25, z_26, z_27, z_28, z_29, z_30, z_31, z_32, z_33, z_34, z_35, z_36, z_37, z_38, z_39, z_40, z_41, z_42, z_43, z_44, z_45, z_46, z_47, z_48, z_49, z_50, z_51, z_52, z_53, z_54, z_55, z_56, z_57, z_58, z_59, z_60, z_61, z_62, z_63, z_64, z_65, z_66, z_67, z_68, z_69, z_70, z_71, z_72, z_73, z_74, z_75, z_76, z_77, z_78, z_79, z_80, z_81, z_82, z_83, z_84, z_85, z_86, z_87, z_88, z_89, z_90, z_91, z_92, z_93, z_94, z_95, z_96, z_97, z_98, z_99, z_100, z_101, z_102, z_103, z_104, z_105, z_106, z_107, z_108, z_109, z_110, z_111, z_112, z_113, z_114, z_115, z_116, z_117, z_118, z_119, z_120, z_121, z_122, z_123, z_124, z_125, z_126, z_127, z_199, z_200, z_360, z_410, z_1000, z_1023, z_1024, z_1219, z_9999, z_10240, z_65537]
theorem m_restore_x (m d : Nat → Int → Int) (τ : qL) {a : Int} (h1 : -2147483648 ≤ a) (h2 : a < 2147483648) (h : ¬ (0 ≤ a ∧ a ≤ 1)) : f_X7_restore (eC (pw m d)) τ (zI a) = some (zI (-2), eC (pw m d)) := by
  unfold f_X7_restore
  simp (disch := omega) only [m_isPlace, m_isHouse, m_isTale, m_in, z_l, zl_neg, zl_0, zl_1, zl_2, zl_3, zl_5, zl_8, zl_9, zl_10, zl_19, zl_33, zl_40, zl_49, zl_57, zl_60, zl_65, zl_74, zl_99, zl_100, zl_126, zl_199, zl_1000, zl_1219, zl_9999, pw_0, up_0, pw_1, up_1, pw_2, up_2, pw_3, up_3, pw_4, up_4, pw_9, up_9, pw_10, up_10, pwi_5, upi_5, pwi_6, upi_6, pwi_7, upi_7, pwi_8, upi_8, pwi_11, upi_11, pw_12, up_12, pw_14, up_14, pw_15, up_15, pw_16, up_16, pw_18, up_18, pw_24, up_24, pw_25, up_25, pw_26, up_26, pw_29, up_29, pw_30, up_30, pw_31, up_31, pwi_13, upi_13, pwi_17, upi_17, pwi_19, upi_19, pwi_20, upi_20, pwi_21, upi_21, pwi_22, upi_22, pwi_23, upi_23, pwi_32, upi_32, pwi_33, upi_33, eC_5, eC_6, eC_13, eC_17, eC_19, eC_20, eC_21, eC_22, eC_23, eC_32, eC_33, eC_p5, eC_p6, eC_p13, eC_p17, eC_p19, eC_p20, eC_p21, eC_p22, eC_p23, eC_p32, eC_p33, s_T, s_F, s_bd, s_cl, s_rd, s_wr, s_ite, z_ite, z_neg, z_add, z_sub, z_mul, z_le, z_lt, z_eq, eC_at, eC_7, eC_8, eC_9, eC_10, eC_11, eC_p7, eC_p8, eC_p9, eC_p10, eC_p11, eC_up, ud_same, ud_ne, if_pos, if_neg, z_0, z_1, z_2, z_3, z_4, z_5, z_6, z_7, z_8, z_9, z_10, z_11, z_12, z_13, z_14, z_15, z_16, z_17, z_18, z_19, z_20, z_21, z_22, z_23, z_24, z_25, z_26, z_27, z_28, z_29, z_30, z_31, z_32, z_33, z_34, z_35, z_36, z_37, z_38, z_39, z_40, z_41, z_42, z_43, z_44, z_45, z_46, z_47, z_48, z_49, z_50, z_51, z_52, z_53, z_54, z_55, z_56, z_57, z_58, z_59, z_60, z_61, z_62, z_63, z_64, z_65, z_66, z_67, z_68, z_69, z_70, z_71, z_72, z_73, z_74, z_75, z_76, z_77, z_78, z_79, z_80, z_81, z_82, z_83, z_84, z_85, z_86, z_87, z_88, z_89, z_90, z_91, z_92, z_93, z_94, z_95, z_96, z_97, z_98, z_99, z_100, z_101, z_102, z_103, z_104, z_105, z_106, z_107, z_108, z_109, z_110, z_111, z_112, z_113, z_114, z_115, z_116, z_117, z_118, z_119, z_120, z_121, z_122, z_123, z_124, z_125, z_126, z_127, z_199, z_200, z_360, z_410, z_1000, z_1023, z_1024, z_1219, z_9999, z_10240, z_65537]
section XIM
variable {d : Nat → Int → Int}
theorem x_image_0n (hd : okd d) : f_X6_image_0n (eC d) = some (zI 1, eC d) := by
  unfold f_X6_image_0n
  rw [qC0_dz]
  simp (disch := omega) only [x_isPlace, x_isHouse, x_isTale, x_within, x_longBetween, x_layRoad, x_doubtOf, x_furnish, x_beliefOf, x_convince, x_fadesInto, x_letFade, x_copyFrom dz d dz_ok hd, s_T, s_F, s_bd, s_cl, s_rd, s_wr, s_ite, z_ite, z_neg, z_add, z_sub, z_mul, z_le, z_lt, z_eq, eC_at, eC_7, eC_8, eC_9, eC_10, eC_11, eC_p7, eC_p8, eC_p9, eC_p10, eC_p11, eC_up, ud_same, ud_ne, if_pos, if_neg, z_0, z_1, z_2, z_3, z_4, z_5, z_6, z_7, z_8, z_9, z_10, z_11, z_12, z_13, z_14, z_15, z_16, z_17, z_18, z_19, z_20, z_21, z_22, z_23, z_24, z_25, z_26, z_27, z_28, z_29, z_30, z_31, z_32, z_33, z_34, z_35, z_36, z_37, z_38, z_39, z_40, z_41, z_42, z_43, z_44, z_45, z_46, z_47, z_48, z_49, z_50, z_51, z_52, z_53, z_54, z_55, z_56, z_57, z_58, z_59, z_60, z_61, z_62, z_63, z_64, z_65, z_66, z_67, z_68, z_69, z_70, z_71, z_72, z_73, z_74, z_75, z_76, z_77, z_78, z_79, z_80, z_81, z_82, z_83, z_84, z_85, z_86, z_87, z_88, z_89, z_90, z_91, z_92, z_93, z_94, z_95, z_96, z_97, z_98, z_99, z_100, z_101, z_102, z_103, z_104, z_105, z_106, z_107, z_108, z_109, z_110, z_111, z_112, z_113, z_114, z_115, z_116, z_117, z_118, z_119, z_120, z_121, z_122, z_123, z_124, z_125, z_126, z_127, z_199, z_200, z_360, z_410, z_1000, z_1023, z_1024, z_1219, z_9999, z_10240, z_65537]
theorem x_image_1n (hd : okd d) : f_X6_image_1n (eC d) = some (zI 1, eC d) := by
  unfold f_X6_image_1n
  rw [qC0_dz]
  simp (disch := omega) only [x_isPlace, x_isHouse, x_isTale, x_within, x_longBetween, x_layRoad, x_doubtOf, x_furnish, x_beliefOf, x_convince, x_fadesInto, x_letFade, x_copyFrom dz d dz_ok hd, s_T, s_F, s_bd, s_cl, s_rd, s_wr, s_ite, z_ite, z_neg, z_add, z_sub, z_mul, z_le, z_lt, z_eq, eC_at, eC_7, eC_8, eC_9, eC_10, eC_11, eC_p7, eC_p8, eC_p9, eC_p10, eC_p11, eC_up, ud_same, ud_ne, if_pos, if_neg, z_0, z_1, z_2, z_3, z_4, z_5, z_6, z_7, z_8, z_9, z_10, z_11, z_12, z_13, z_14, z_15, z_16, z_17, z_18, z_19, z_20, z_21, z_22, z_23, z_24, z_25, z_26, z_27, z_28, z_29, z_30, z_31, z_32, z_33, z_34, z_35, z_36, z_37, z_38, z_39, z_40, z_41, z_42, z_43, z_44, z_45, z_46, z_47, z_48, z_49, z_50, z_51, z_52, z_53, z_54, z_55, z_56, z_57, z_58, z_59, z_60, z_61, z_62, z_63, z_64, z_65, z_66, z_67, z_68, z_69, z_70, z_71, z_72, z_73, z_74, z_75, z_76, z_77, z_78, z_79, z_80, z_81, z_82, z_83, z_84, z_85, z_86, z_87, z_88, z_89, z_90, z_91, z_92, z_93, z_94, z_95, z_96, z_97, z_98, z_99, z_100, z_101, z_102, z_103, z_104, z_105, z_106, z_107, z_108, z_109, z_110, z_111, z_112, z_113, z_114, z_115, z_116, z_117, z_118, z_119, z_120, z_121, z_122, z_123, z_124, z_125, z_126, z_127, z_199, z_200, z_360, z_410, z_1000, z_1023, z_1024, z_1219, z_9999, z_10240, z_65537]
theorem x_image_0s {g : Nat → Int → Int} (hd : okd d) (hg : okd g) : f_X6_image_0s (eC d) (eC g) = some (zI 1, eC d) := by
  unfold f_X6_image_0s
  simp (disch := omega) only [x_isPlace, x_isHouse, x_isTale, x_within, x_longBetween, x_layRoad, x_doubtOf, x_furnish, x_beliefOf, x_convince, x_fadesInto, x_letFade, x_copyFrom g d hg hd, s_T, s_F, s_bd, s_cl, s_rd, s_wr, s_ite, z_ite, z_neg, z_add, z_sub, z_mul, z_le, z_lt, z_eq, eC_at, eC_7, eC_8, eC_9, eC_10, eC_11, eC_p7, eC_p8, eC_p9, eC_p10, eC_p11, eC_up, ud_same, ud_ne, if_pos, if_neg, z_0, z_1, z_2, z_3, z_4, z_5, z_6, z_7, z_8, z_9, z_10, z_11, z_12, z_13, z_14, z_15, z_16, z_17, z_18, z_19, z_20, z_21, z_22, z_23, z_24, z_25, z_26, z_27, z_28, z_29, z_30, z_31, z_32, z_33, z_34, z_35, z_36, z_37, z_38, z_39, z_40, z_41, z_42, z_43, z_44, z_45, z_46, z_47, z_48, z_49, z_50, z_51, z_52, z_53, z_54, z_55, z_56, z_57, z_58, z_59, z_60, z_61, z_62, z_63, z_64, z_65, z_66, z_67, z_68, z_69, z_70, z_71, z_72, z_73, z_74, z_75, z_76, z_77, z_78, z_79, z_80, z_81, z_82, z_83, z_84, z_85, z_86, z_87, z_88, z_89, z_90, z_91, z_92, z_93, z_94, z_95, z_96, z_97, z_98, z_99, z_100, z_101, z_102, z_103, z_104, z_105, z_106, z_107, z_108, z_109, z_110, z_111, z_112, z_113, z_114, z_115, z_116, z_117, z_118, z_119, z_120, z_121, z_122, z_123, z_124, z_125, z_126, z_127, z_199, z_200, z_360, z_410, z_1000, z_1023, z_1024, z_1219, z_9999, z_10240, z_65537]
theorem x_image_1s {g : Nat → Int → Int} (hd : okd d) (hg : okd g) : f_X6_image_1s (eC d) (eC g) = some (zI 1, eC d) := by
  unfold f_X6_image_1s
  simp (disch := omega) only [x_isPlace, x_isHouse, x_isTale, x_within, x_longBetween, x_layRoad, x_doubtOf, x_furnish, x_beliefOf, x_convince, x_fadesInto, x_letFade, x_copyFrom g d hg hd, s_T, s_F, s_bd, s_cl, s_rd, s_wr, s_ite, z_ite, z_neg, z_add, z_sub, z_mul, z_le, z_lt, z_eq, eC_at, eC_7, eC_8, eC_9, eC_10, eC_11, eC_p7, eC_p8, eC_p9, eC_p10, eC_p11, eC_up, ud_same, ud_ne, if_pos, if_neg, z_0, z_1, z_2, z_3, z_4, z_5, z_6, z_7, z_8, z_9, z_10, z_11, z_12, z_13, z_14, z_15, z_16, z_17, z_18, z_19, z_20, z_21, z_22, z_23, z_24, z_25, z_26, z_27, z_28, z_29, z_30, z_31, z_32, z_33, z_34, z_35, z_36, z_37, z_38, z_39, z_40, z_41, z_42, z_43, z_44, z_45, z_46, z_47, z_48, z_49, z_50, z_51, z_52, z_53, z_54, z_55, z_56, z_57, z_58, z_59, z_60, z_61, z_62, z_63, z_64, z_65, z_66, z_67, z_68, z_69, z_70, z_71, z_72, z_73, z_74, z_75, z_76, z_77, z_78, z_79, z_80, z_81, z_82, z_83, z_84, z_85, z_86, z_87, z_88, z_89, z_90, z_91, z_92, z_93, z_94, z_95, z_96, z_97, z_98, z_99, z_100, z_101, z_102, z_103, z_104, z_105, z_106, z_107, z_108, z_109, z_110, z_111, z_112, z_113, z_114, z_115, z_116, z_117, z_118, z_119, z_120, z_121, z_122, z_123, z_124, z_125, z_126, z_127, z_199, z_200, z_360, z_410, z_1000, z_1023, z_1024, z_1219, z_9999, z_10240, z_65537]
theorem x_restore_0s {g : Nat → Int → Int} (hd : okd d) (hg : okd g) : f_X6_restore_0s (eC d) (eC g) = some (zI 1, eC g) := by
  unfold f_X6_restore_0s
  simp (disch := omega) only [x_isPlace, x_isHouse, x_isTale, x_within, x_longBetween, x_layRoad, x_doubtOf, x_furnish, x_beliefOf, x_convince, x_fadesInto, x_letFade, x_copyFrom d g hd hg, s_T, s_F, s_bd, s_cl, s_rd, s_wr, s_ite, z_ite, z_neg, z_add, z_sub, z_mul, z_le, z_lt, z_eq, eC_at, eC_7, eC_8, eC_9, eC_10, eC_11, eC_p7, eC_p8, eC_p9, eC_p10, eC_p11, eC_up, ud_same, ud_ne, if_pos, if_neg, z_0, z_1, z_2, z_3, z_4, z_5, z_6, z_7, z_8, z_9, z_10, z_11, z_12, z_13, z_14, z_15, z_16, z_17, z_18, z_19, z_20, z_21, z_22, z_23, z_24, z_25, z_26, z_27, z_28, z_29, z_30, z_31, z_32, z_33, z_34, z_35, z_36, z_37, z_38, z_39, z_40, z_41, z_42, z_43, z_44, z_45, z_46, z_47, z_48, z_49, z_50, z_51, z_52, z_53, z_54, z_55, z_56, z_57, z_58, z_59, z_60, z_61, z_62, z_63, z_64, z_65, z_66, z_67, z_68, z_69, z_70, z_71, z_72, z_73, z_74, z_75, z_76, z_77, z_78, z_79, z_80, z_81, z_82, z_83, z_84, z_85, z_86, z_87, z_88, z_89, z_90, z_91, z_92, z_93, z_94, z_95, z_96, z_97, z_98, z_99, z_100, z_101, z_102, z_103, z_104, z_105, z_106, z_107, z_108, z_109, z_110, z_111, z_112, z_113, z_114, z_115, z_116, z_117, z_118, z_119, z_120, z_121, z_122, z_123, z_124, z_125, z_126, z_127, z_199, z_200, z_360, z_410, z_1000, z_1023, z_1024, z_1219, z_9999, z_10240, z_65537]
theorem x_restore_1s {g : Nat → Int → Int} (hd : okd d) (hg : okd g) : f_X6_restore_1s (eC d) (eC g) = some (zI 1, eC g) := by
  unfold f_X6_restore_1s
  simp (disch := omega) only [x_isPlace, x_isHouse, x_isTale, x_within, x_longBetween, x_layRoad, x_doubtOf, x_furnish, x_beliefOf, x_convince, x_fadesInto, x_letFade, x_copyFrom d g hd hg, s_T, s_F, s_bd, s_cl, s_rd, s_wr, s_ite, z_ite, z_neg, z_add, z_sub, z_mul, z_le, z_lt, z_eq, eC_at, eC_7, eC_8, eC_9, eC_10, eC_11, eC_p7, eC_p8, eC_p9, eC_p10, eC_p11, eC_up, ud_same, ud_ne, if_pos, if_neg, z_0, z_1, z_2, z_3, z_4, z_5, z_6, z_7, z_8, z_9, z_10, z_11, z_12, z_13, z_14, z_15, z_16, z_17, z_18, z_19, z_20, z_21, z_22, z_23, z_24, z_25, z_26, z_27, z_28, z_29, z_30, z_31, z_32, z_33, z_34, z_35, z_36, z_37, z_38, z_39, z_40, z_41, z_42, z_43, z_44, z_45, z_46, z_47, z_48, z_49, z_50, z_51, z_52, z_53, z_54, z_55, z_56, z_57, z_58, z_59, z_60, z_61, z_62, z_63, z_64, z_65, z_66, z_67, z_68, z_69, z_70, z_71, z_72, z_73, z_74, z_75, z_76, z_77, z_78, z_79, z_80, z_81, z_82, z_83, z_84, z_85, z_86, z_87, z_88, z_89, z_90, z_91, z_92, z_93, z_94, z_95, z_96, z_97, z_98, z_99, z_100, z_101, z_102, z_103, z_104, z_105, z_106, z_107, z_108, z_109, z_110, z_111, z_112, z_113, z_114, z_115, z_116, z_117, z_118, z_119, z_120, z_121, z_122, z_123, z_124, z_125, z_126, z_127, z_199, z_200, z_360, z_410, z_1000, z_1023, z_1024, z_1219, z_9999, z_10240, z_65537]
theorem x_restore_0n : f_X6_restore_0n = some (zI (-3)) := by
  unfold f_X6_restore_0n
  simp (disch := omega) only [x_isPlace, x_isHouse, x_isTale, x_within, x_longBetween, x_layRoad, x_doubtOf, x_furnish, x_beliefOf, x_convince, x_fadesInto, x_letFade, s_T, s_F, s_bd, s_cl, s_rd, s_wr, s_ite, z_ite, z_neg, z_add, z_sub, z_mul, z_le, z_lt, z_eq, eC_at, eC_7, eC_8, eC_9, eC_10, eC_11, eC_p7, eC_p8, eC_p9, eC_p10, eC_p11, eC_up, ud_same, ud_ne, if_pos, if_neg, z_0, z_1, z_2, z_3, z_4, z_5, z_6, z_7, z_8, z_9, z_10, z_11, z_12, z_13, z_14, z_15, z_16, z_17, z_18, z_19, z_20, z_21, z_22, z_23, z_24, z_25, z_26, z_27, z_28, z_29, z_30, z_31, z_32, z_33, z_34, z_35, z_36, z_37, z_38, z_39, z_40, z_41, z_42, z_43, z_44, z_45, z_46, z_47, z_48, z_49, z_50, z_51, z_52, z_53, z_54, z_55, z_56, z_57, z_58, z_59, z_60, z_61, z_62, z_63, z_64, z_65, z_66, z_67, z_68, z_69, z_70, z_71, z_72, z_73, z_74, z_75, z_76, z_77, z_78, z_79, z_80, z_81, z_82, z_83, z_84, z_85, z_86, z_87, z_88, z_89, z_90, z_91, z_92, z_93, z_94, z_95, z_96, z_97, z_98, z_99, z_100, z_101, z_102, z_103, z_104, z_105, z_106, z_107, z_108, z_109, z_110, z_111, z_112, z_113, z_114, z_115, z_116, z_117, z_118, z_119, z_120, z_121, z_122, z_123, z_124, z_125, z_126, z_127, z_199, z_200, z_360, z_410, z_1000, z_1023, z_1024, z_1219, z_9999, z_10240, z_65537]
theorem x_restore_1n : f_X6_restore_1n = some (zI (-3)) := by
  unfold f_X6_restore_1n
  simp (disch := omega) only [x_isPlace, x_isHouse, x_isTale, x_within, x_longBetween, x_layRoad, x_doubtOf, x_furnish, x_beliefOf, x_convince, x_fadesInto, x_letFade, s_T, s_F, s_bd, s_cl, s_rd, s_wr, s_ite, z_ite, z_neg, z_add, z_sub, z_mul, z_le, z_lt, z_eq, eC_at, eC_7, eC_8, eC_9, eC_10, eC_11, eC_p7, eC_p8, eC_p9, eC_p10, eC_p11, eC_up, ud_same, ud_ne, if_pos, if_neg, z_0, z_1, z_2, z_3, z_4, z_5, z_6, z_7, z_8, z_9, z_10, z_11, z_12, z_13, z_14, z_15, z_16, z_17, z_18, z_19, z_20, z_21, z_22, z_23, z_24, z_25, z_26, z_27, z_28, z_29, z_30, z_31, z_32, z_33, z_34, z_35, z_36, z_37, z_38, z_39, z_40, z_41, z_42, z_43, z_44, z_45, z_46, z_47, z_48, z_49, z_50, z_51, z_52, z_53, z_54, z_55, z_56, z_57, z_58, z_59, z_60, z_61, z_62, z_63, z_64, z_65, z_66, z_67, z_68, z_69, z_70, z_71, z_72, z_73, z_74, z_75, z_76, z_77, z_78, z_79, z_80, z_81, z_82, z_83, z_84, z_85, z_86, z_87, z_88, z_89, z_90, z_91, z_92, z_93, z_94, z_95, z_96, z_97, z_98, z_99, z_100, z_101, z_102, z_103, z_104, z_105, z_106, z_107, z_108, z_109, z_110, z_111, z_112, z_113, z_114, z_115, z_116, z_117, z_118, z_119, z_120, z_121, z_122, z_123, z_124, z_125, z_126, z_127, z_199, z_200, z_360, z_410, z_1000, z_1023, z_1024, z_1219, z_9999, z_10240, z_65537]
theorem x_image_x {a : Int} (h1 : -2147483648 ≤ a) (h2 : a < 2147483648) (h : ¬ (0 ≤ a ∧ a ≤ 1)) : f_X6_image_x (zI a) = some (zI (-2)) := by
  unfold f_X6_image_x
  simp (disch := omega) only [x_isPlace, x_isHouse, x_isTale, x_within, x_longBetween, x_layRoad, x_doubtOf, x_furnish, x_beliefOf, x_convince, x_fadesInto, x_letFade, s_T, s_F, s_bd, s_cl, s_rd, s_wr, s_ite, z_ite, z_neg, z_add, z_sub, z_mul, z_le, z_lt, z_eq, eC_at, eC_7, eC_8, eC_9, eC_10, eC_11, eC_p7, eC_p8, eC_p9, eC_p10, eC_p11, eC_up, ud_same, ud_ne, if_pos, if_neg, z_0, z_1, z_2, z_3, z_4, z_5, z_6, z_7, z_8, z_9, z_10, z_11, z_12, z_13, z_14, z_15, z_16, z_17, z_18, z_19, z_20, z_21, z_22, z_23, z_24, z_25, z_26, z_27, z_28, z_29, z_30, z_31, z_32, z_33, z_34, z_35, z_36, z_37, z_38, z_39, z_40, z_41, z_42, z_43, z_44, z_45, z_46, z_47, z_48, z_49, z_50, z_51, z_52, z_53, z_54, z_55, z_56, z_57, z_58, z_59, z_60, z_61, z_62, z_63, z_64, z_65, z_66, z_67, z_68, z_69, z_70, z_71, z_72, z_73, z_74, z_75, z_76, z_77, z_78, z_79, z_80, z_81, z_82, z_83, z_84, z_85, z_86, z_87, z_88, z_89, z_90, z_91, z_92, z_93, z_94, z_95, z_96, z_97, z_98, z_99, z_100, z_101, z_102, z_103, z_104, z_105, z_106, z_107, z_108, z_109, z_110, z_111, z_112, z_113, z_114, z_115, z_116, z_117, z_118, z_119, z_120, z_121, z_122, z_123, z_124, z_125, z_126, z_127, z_199, z_200, z_360, z_410, z_1000, z_1023, z_1024, z_1219, z_9999, z_10240, z_65537]
theorem x_restore_x {a : Int} (h1 : -2147483648 ≤ a) (h2 : a < 2147483648) (h : ¬ (0 ≤ a ∧ a ≤ 1)) : f_X6_restore_x (zI a) = some (zI (-2)) := by
  unfold f_X6_restore_x
  simp (disch := omega) only [x_isPlace, x_isHouse, x_isTale, x_within, x_longBetween, x_layRoad, x_doubtOf, x_furnish, x_beliefOf, x_convince, x_fadesInto, x_letFade, s_T, s_F, s_bd, s_cl, s_rd, s_wr, s_ite, z_ite, z_neg, z_add, z_sub, z_mul, z_le, z_lt, z_eq, eC_at, eC_7, eC_8, eC_9, eC_10, eC_11, eC_p7, eC_p8, eC_p9, eC_p10, eC_p11, eC_up, ud_same, ud_ne, if_pos, if_neg, z_0, z_1, z_2, z_3, z_4, z_5, z_6, z_7, z_8, z_9, z_10, z_11, z_12, z_13, z_14, z_15, z_16, z_17, z_18, z_19, z_20, z_21, z_22, z_23, z_24, z_25, z_26, z_27, z_28, z_29, z_30, z_31, z_32, z_33, z_34, z_35, z_36, z_37, z_38, z_39, z_40, z_41, z_42, z_43, z_44, z_45, z_46, z_47, z_48, z_49, z_50, z_51, z_52, z_53, z_54, z_55, z_56, z_57, z_58, z_59, z_60, z_61, z_62, z_63, z_64, z_65, z_66, z_67, z_68, z_69, z_70, z_71, z_72, z_73, z_74, z_75, z_76, z_77, z_78, z_79, z_80, z_81, z_82, z_83, z_84, z_85, z_86, z_87, z_88, z_89, z_90, z_91, z_92, z_93, z_94, z_95, z_96, z_97, z_98, z_99, z_100, z_101, z_102, z_103, z_104, z_105, z_106, z_107, z_108, z_109, z_110, z_111, z_112, z_113, z_114, z_115, z_116, z_117, z_118, z_119, z_120, z_121, z_122, z_123, z_124, z_125, z_126, z_127, z_199, z_200, z_360, z_410, z_1000, z_1023, z_1024, z_1219, z_9999, z_10240, z_65537]
end XIM

/-! years; what is put back -/
def tch (a : Nat) (b : Int) : Prop := ((a = 1 ∨ a = 2 ∨ a = 3) ∧ 0 ≤ b ∧ b < 10) ∨ (a = 99 ∧ 8 ≤ b ∧ b ≤ 11)
/-- only what acts touch differs -/
def oth (d d' : Nat → Int → Int) : Prop := ∀ a b, tch a b ∨ d' a b = d a b
theorem oth_rf (d : Nat → Int → Int) : oth d d := fun _ _ => Or.inr rfl
theorem oth_tr {d d' d'' : Nat → Int → Int} (h : oth d d') (h' : oth d' d'') : oth d d'' := fun k i => by
  rcases h' k i with z | z
  · exact Or.inl z
  · rcases h k i with y | y
    · exact Or.inl y
    · exact Or.inr (z.trans y)
theorem oth_ud {d : Nat → Int → Int} {k : Nat} {i v : Int} (h : tch k i) : oth d (ud d k i v) := fun a b => by
  by_cases e : a = k ∧ b = i
  · exact Or.inl (by rw [e.1, e.2]; exact h)
  · exact Or.inr (ud_ne _ _ (by omega))
theorem oth_md (d : Nat → Int → Int) : oth d (md d) := fun a b => by
  unfold md
  by_cases e : a = 2 ∧ 0 ≤ b ∧ b < 10
  · exact Or.inl (Or.inl ⟨by omega, by omega, by omega⟩)
  · exact Or.inr (by rw [if_neg e])
theorem oth_bed {d : Nat → Int → Int} {a : Int} (h0 : 0 ≤ a) (h1 : a ≤ 9) : oth d (bed d a) := by
  have t1 : tch 1 a := Or.inl ⟨by omega, by omega, by omega⟩
  have t2 : tch 2 a := Or.inl ⟨by omega, by omega, by omega⟩
  have t3 : tch 3 a := Or.inl ⟨by omega, by omega, by omega⟩
  have t9 : tch 99 9 := Or.inr ⟨rfl, by omega, by omega⟩
  unfold bed
  split
  · split
    · exact oth_tr (oth_ud t3) (oth_ud t9)
    · exact oth_tr (oth_tr (oth_ud t1) (oth_ud t2)) (oth_ud t9)
  · exact oth_ud t9
theorem oth_act {d : Nat → Int → Int} (hd : okd d) {k w v : Int} (hr : rsn d k w = 0) : oth d (actd d k w v) := by
  have a1 := okd_p hd
  have t8 : tch 99 8 := Or.inr ⟨rfl, by omega, by omega⟩
  have t9 : tch 99 9 := Or.inr ⟨rfl, by omega, by omega⟩
  have t10 : tch 99 10 := Or.inr ⟨rfl, by omega, by omega⟩
  have t11 : tch 99 11 := Or.inr ⟨rfl, by omega, by omega⟩
  unfold actd
  split
  · exact oth_tr (oth_ud t10) (oth_ud t9)
  · split
    · exact oth_tr (oth_ud t9) (oth_ud t8)
    · split
      · next e0 e1 e2 =>
        refine oth_bed a1.1 ?_
        unfold rsn at hr
        rw [if_neg e0, if_neg e1, if_pos e2] at hr
        split at hr <;> omega
      · split
        · exact oth_tr (oth_ud t9) (oth_ud t10)
        · exact oth_tr (oth_tr (oth_tr (oth_ud t8) (oth_ud t9)) (oth_ud t11)) (oth_md _)
theorem bk_kNow {m m' d d' : Nat → Int → Int} (ho : oth d d') (hm : ∀ i, m' 18 i = kNow m d 18 i) : bkD m' d' = d := by
  have e30 : kNow m d 18 30 = d 99 8 := by unfold kNow; simp (disch := omega) only [ud_same, ud_ne]
  have e31 : kNow m d 18 31 = d 99 9 := by unfold kNow; simp (disch := omega) only [ud_same, ud_ne]
  have e32 : kNow m d 18 32 = d 99 10 := by unfold kNow; simp (disch := omega) only [ud_same, ud_ne]
  have e33 : kNow m d 18 33 = d 99 11 := by unfold kNow; simp (disch := omega) only [ud_same, ud_ne]
  have el : ∀ i, i < 30 → kNow m d 18 i = kn 0 m d 18 i := fun i hi => by unfold kNow; simp (disch := omega) only [ud_ne]
  funext a b
  unfold bkD
  by_cases h99 : a = 99 ∧ 8 ≤ b ∧ b ≤ 11
  · obtain ⟨rfl, hb⟩ := h99
    rcases (show b = 8 ∨ b = 9 ∨ b = 10 ∨ b = 11 by omega) with e | e | e | e <;> subst e <;> simp (disch := omega) only [ud_same, ud_ne]
    · rw [hm, e30]
    · rw [hm, e31]
    · rw [hm, e32]
    · rw [hm, e33]
  · rw [ud_ne _ _ (by omega), ud_ne _ _ (by omega), ud_ne _ _ (by omega), ud_ne _ _ (by omega)]
    unfold bk
    by_cases e1 : a = 1 ∧ 0 ≤ b ∧ b < 10
    · rw [if_pos e1, hm, el _ (by omega)]
      unfold kn
      rw [if_pos ⟨rfl, e1.2⟩, e1.1]
    · rw [if_neg e1]
      by_cases e2 : a = 2 ∧ 0 ≤ b ∧ b < 10
      · rw [if_pos e2, hm, el _ (by omega)]
        unfold kn
        rw [if_neg (by omega), if_pos ⟨rfl, by omega, by omega⟩, e2.1, show 10 + b - 10 = b by omega]
      · rw [if_neg e2]
        by_cases e3 : a = 3 ∧ 0 ≤ b ∧ b < 10
        · rw [if_pos e3, hm, el _ (by omega)]
          unfold kn
          rw [if_neg (by omega), if_neg (by omega), if_pos ⟨rfl, by omega, by omega⟩, e3.1, show 20 + b - 20 = b by omega]
        · rw [if_neg e3]
          refine (ho a b).resolve_left ?_
          intro t
          unfold tch at t
          omega
/-- a year -/
def kdr (x : Int) : Int := if x < 3 then 1 else if x < 5 then 2 else if x = 5 then 3 else if x = 6 then 0 else 4
def yr (m : Int) : Nat → Int → Int → (Nat → Int → Int) → (Nat → Int → Int)
  | 0, _, _, d => d
  | N + 1, i, x, d => if m ≤ i then d
    else yr m N (i + 1) ((75 * x + 74) % 65537) (if rsn d (kdr ((75 * x + 74) % 65537 % 8)) (if kdr ((75 * x + 74) % 65537 % 8) = 1 then (75 * x + 74) % 65537 / 8 % 11 else (75 * x + 74) % 65537 / 8 % 10) = 0
      then actd d (kdr ((75 * x + 74) % 65537 % 8)) (if kdr ((75 * x + 74) % 65537 % 8) = 1 then (75 * x + 74) % 65537 / 8 % 11 else (75 * x + 74) % 65537 / 8 % 10) (10 * (1 + (75 * x + 74) % 65537 / 80 % 9)) else d)
theorem kdr_b (x : Int) : 0 ≤ kdr x ∧ kdr x ≤ 4 := by
  unfold kdr
  repeat' split
  all_goals omega
theorem x_kindDrawn {x : Int} (h0 : 0 ≤ x) (h1 : x < 8) : f_X1_kindDrawn (zI x) = some (zI (kdr x)) := by
  rcases (show x = 0 ∨ x = 1 ∨ x = 2 ∨ x = 3 ∨ x = 4 ∨ x = 5 ∨ x = 6 ∨ x = 7 by omega) with e | e | e | e | e | e | e | e <;> subst e <;> decide
theorem m_actBy {x : Int} (h0 : 0 ≤ x) (h1 : x < 8) : f_X7_actBy (zI x) = some (zI (kdr x)) := by
  rcases (show x = 0 ∨ x = 1 ∨ x = 2 ∨ x = 3 ∨ x = 4 ∨ x = 5 ∨ x = 6 ∨ x = 7 by omega) with e | e | e | e | e | e | e | e <;> subst e <;> decide
theorem rsn_b {d : Nat → Int → Int} (k w : Int) : 0 ≤ rsn d k w ∧ rsn d k w ≤ 4 := by
  unfold rsn
  repeat' split
  all_goals omega
/-- an act that a year draws -/
theorem yr_act {d} (hd : okd d) {y : Int} (y0 : 0 ≤ y) (y1 : y < 65537) (hr : rsn d (kdr (y % 8)) (if kdr (y % 8) = 1 then y / 8 % 11 else y / 8 % 10) = 0) :
    okd (actd d (kdr (y % 8)) (if kdr (y % 8) = 1 then y / 8 % 11 else y / 8 % 10) (10 * (1 + y / 80 % 9))) ∧ oth d (actd d (kdr (y % 8)) (if kdr (y % 8) = 1 then y / 8 % 11 else y / 8 % 10) (10 * (1 + y / 80 % 9))) := by
  have hk := kdr_b (y % 8)
  exact ⟨okd_act hd hk.1 hk.2 (fun z => by rw [if_pos z]; omega) (fun z => by rw [if_neg (by omega)]; omega) (fun z => by omega) hr, oth_act hd hr⟩
theorem yr_ok (m : Int) : ∀ (N : Nat) (i x : Int) (d : Nat → Int → Int), okd d → okd (yr m N i x d) ∧ oth d (yr m N i x d) := by
  intro N
  induction N with
  | zero => intro i x d hd; exact ⟨hd, oth_rf d⟩
  | succ N ih =>
    intro i x d hd
    unfold yr
    by_cases c : m ≤ i
    · rw [if_pos c]
      exact ⟨hd, oth_rf d⟩
    · rw [if_neg c]
      by_cases hr : rsn d (kdr ((75 * x + 74) % 65537 % 8)) (if kdr ((75 * x + 74) % 65537 % 8) = 1 then (75 * x + 74) % 65537 / 8 % 11 else (75 * x + 74) % 65537 / 8 % 10) = 0
      · rw [if_pos hr]
        obtain ⟨h1, h2⟩ := yr_act hd (y := (75 * x + 74) % 65537) (by omega) (by omega) hr
        obtain ⟨h3, h4⟩ := ih (i + 1) ((75 * x + 74) % 65537) _ h1
        exact ⟨h3, oth_tr h2 h4⟩
      · rw [if_neg hr]
        exact ih (i + 1) ((75 * x + 74) % 65537) d hd
theorem x_liveYear {d} (hd : okd d) {x m : Int} (x0 : 0 ≤ x) (x1 : x < 65537) (m0 : 1 ≤ m) (m1 : m ≤ 99) : f_X1_liveYear (eC d) (zI x) (zI m) = some (eC (yr m 20000 0 x d)) := by
  unfold f_X1_liveYear
  rw [z_0]
  refine lp_en (fun a : Int × Int × (Nat → Int → Int) => (zI a.1, zI a.2.1, eC a.2.2)) (fun N a => some (eC (yr m N a.1 a.2.1 a.2.2))) (fun N a => (0 ≤ a.1 ∧ a.1 ≤ m ∧ (m - a.1).toNat < N) ∧ (0 ≤ a.2.1 ∧ a.2.1 < 65537) ∧ okd a.2.2) (fun a => by omega) ?_ 20000 (0, x, d) ⟨by dsimp only; omega, ⟨x0, x1⟩, hd⟩
  rintro again N ⟨i, x, d⟩ ⟨⟨h0, h1, h2⟩, ⟨hx0, hx1⟩, hd⟩ ih
  dsimp only at h0 h1 h2 hx0 hx1 hd ih ⊢
  unfold b_X1_liveYear_5 yr
  dsimp only
  by_cases c : m ≤ i
  · simp (disch := omega) only [s_T, s_F, s_bd, s_cl, s_rd, s_wr, s_ite, z_ite, z_neg, z_add, z_sub, z_mul, z_le, z_lt, z_eq, eC_at, eC_7, eC_8, eC_9, eC_10, eC_11, eC_p7, eC_p8, eC_p9, eC_p10, eC_p11, eC_up, ud_same, ud_ne, if_pos, if_neg, z_0, z_1, z_2, z_3, z_4, z_5, z_6, z_7, z_8, z_9, z_10, z_11, z_12, z_13, z_14, z_15, z_16, z_17, z_18, z_19, z_20, z_21, z_22, z_23, z_24, z_25, z_26, z_27, z_28, z_29, z_30, z_31, z_32, z_33, z_34, z_35, z_36, z_37, z_38, z_39, z_40, z_41, z_42, z_43, z_44, z_45, z_46, z_47, z_48, z_49, z_50, z_51, z_52, z_53, z_54, z_55, z_56, z_57, z_58, z_59, z_60, z_61, z_62, z_63, z_64, z_65, z_66, z_67, z_68, z_69, z_70, z_71, z_72, z_73, z_74, z_75, z_76, z_77, z_78, z_79, z_80, z_81, z_82, z_83, z_84, z_85, z_86, z_87, z_88, z_89, z_90, z_91, z_92, z_93, z_94, z_95, z_96, z_97, z_98, z_99, z_100, z_101, z_102, z_103, z_104, z_105, z_106, z_107, z_108, z_109, z_110, z_111, z_112, z_113, z_114, z_115, z_116, z_117, z_118, z_119, z_120, z_121, z_122, z_123, z_124, z_125, z_126, z_127, z_199, z_200, z_360, z_410, z_1000, z_1023, z_1024, z_1219, z_9999, z_10240, z_65537]
  · rw [if_neg c]
    generalize hy : (75 * x + 74) % 65537 = y
    have y0 : 0 ≤ y := by omega
    have y1 : y < 65537 := by omega
    have hk := kdr_b (y % 8)
    have ey : (((75 : Int32) * zI x) + 74) - (((75 : Int32) * zI x) + 74) / 65537 * 65537 = zI y := by
      rw [z_75, z_74, z_mul, z_add, z_65537, z_rem (by omega) (by omega) (by omega) (by omega), hy]
    rw [ey, s_bd, z_8, z_rem y0 (by omega) (by omega) (by omega), x_kindDrawn (by omega) (by omega), s_cl, z_div y0 (by omega) (by omega) (by omega), z_11, z_10, z_rem (by omega) (by omega) (by omega) (by omega), z_rem (by omega) (by omega) (by omega) (by omega), s_bd, s_bd]
    have ew : (80 : Int32) = zI 80 := by decide
    have ev : zI 10 * ((1 : Int32) + (zI y / 80 - zI y / 80 / 9 * 9)) = zI (10 * (1 + y / 80 % 9)) := by
      rw [ew, z_9, z_1, z_div y0 (by omega) (by omega) (by omega), z_rem (by omega) (by omega) (by omega) (by omega), z_add, z_mul]
    rw [ev]
    have hrb := rsn_b (d := d) (kdr (y % 8)) (if kdr (y % 8) = 1 then y / 8 % 11 else y / 8 % 10)
    have ih' := ih (i + 1, y, if rsn d (kdr (y % 8)) (if kdr (y % 8) = 1 then y / 8 % 11 else y / 8 % 10) = 0 then actd d (kdr (y % 8)) (if kdr (y % 8) = 1 then y / 8 % 11 else y / 8 % 10) (10 * (1 + y / 80 % 9)) else d)
    dsimp only at ih'
    by_cases ck : kdr (y % 8) = 1
    · rw [ck] at hrb ih' ⊢
      simp only [if_true] at hrb ih' ⊢
      have hra := x_reasonAgainst d hd (k := 1) (w := y / 8 % 11) (by omega) (by omega) (fun _ => by omega)
      by_cases cr : rsn d 1 (y / 8 % 11) = 0
      · have hact := x_act d hd (k := 1) (w := y / 8 % 11) (v := 10 * (1 + y / 80 % 9)) (by omega) (by omega) (fun _ => by omega) (fun z => by omega)
        have hya := yr_act hd y0 y1 (by rw [ck]; exact cr)
        rw [ck] at hya
        simp only [if_true] at hya
        rw [if_pos cr] at ih' ⊢
        simp (disch := omega) only [hra, hact, cr, s_T, s_F, s_bd, s_cl, s_rd, s_wr, s_ite, z_ite, z_neg, z_add, z_sub, z_mul, z_le, z_lt, z_eq, eC_at, eC_7, eC_8, eC_9, eC_10, eC_11, eC_p7, eC_p8, eC_p9, eC_p10, eC_p11, eC_up, ud_same, ud_ne, if_pos, if_neg, z_0, z_1, z_2, z_3, z_4, z_5, z_6, z_7, z_8, z_9, z_10, z_11, z_12, z_13, z_14, z_15, z_16, z_17, z_18, z_19, z_20, z_21, z_22, z_23, z_24, z_25, z_26, z_27, z_28, z_29, z_30, z_31, z_32, z_33, z_34, z_35, z_36, z_37, z_38, z_39, z_40, z_41, z_42, z_43, z_44, z_45, z_46, z_47, z_48, z_49, z_50, z_51, z_52, z_53, z_54, z_55, z_56, z_57, z_58, z_59, z_60, z_61, z_62, z_63, z_64, z_65, z_66, z_67, z_68, z_69, z_70, z_71, z_72, z_73, z_74, z_75, z_76, z_77, z_78, z_79, z_80, z_81, z_82, z_83, z_84, z_85, z_86, z_87, z_88, z_89, z_90, z_91, z_92, z_93, z_94, z_95, z_96, z_97, z_98, z_99, z_100, z_101, z_102, z_103, z_104, z_105, z_106, z_107, z_108, z_109, z_110, z_111, z_112, z_113, z_114, z_115, z_116, z_117, z_118, z_119, z_120, z_121, z_122, z_123, z_124, z_125, z_126, z_127, z_199, z_200, z_360, z_410, z_1000, z_1023, z_1024, z_1219, z_9999, z_10240, z_65537]
        exact ih' ⟨by omega, by omega, hya.1⟩
      · rw [if_neg cr] at ih' ⊢
        simp (disch := omega) only [hra, s_T, s_F, s_bd, s_cl, s_rd, s_wr, s_ite, z_ite, z_neg, z_add, z_sub, z_mul, z_le, z_lt, z_eq, eC_at, eC_7, eC_8, eC_9, eC_10, eC_11, eC_p7, eC_p8, eC_p9, eC_p10, eC_p11, eC_up, ud_same, ud_ne, if_pos, if_neg, z_0, z_1, z_2, z_3, z_4, z_5, z_6, z_7, z_8, z_9, z_10, z_11, z_12, z_13, z_14, z_15, z_16, z_17, z_18, z_19, z_20, z_21, z_22, z_23, z_24, z_25, z_26, z_27, z_28, z_29, z_30, z_31, z_32, z_33, z_34, z_35, z_36, z_37, z_38, z_39, z_40, z_41, z_42, z_43, z_44, z_45, z_46, z_47, z_48, z_49, z_50, z_51, z_52, z_53, z_54, z_55, z_56, z_57, z_58, z_59, z_60, z_61, z_62, z_63, z_64, z_65, z_66, z_67, z_68, z_69, z_70, z_71, z_72, z_73, z_74, z_75, z_76, z_77, z_78, z_79, z_80, z_81, z_82, z_83, z_84, z_85, z_86, z_87, z_88, z_89, z_90, z_91, z_92, z_93, z_94, z_95, z_96, z_97, z_98, z_99, z_100, z_101, z_102, z_103, z_104, z_105, z_106, z_107, z_108, z_109, z_110, z_111, z_112, z_113, z_114, z_115, z_116, z_117, z_118, z_119, z_120, z_121, z_122, z_123, z_124, z_125, z_126, z_127, z_199, z_200, z_360, z_410, z_1000, z_1023, z_1024, z_1219, z_9999, z_10240, z_65537]
        exact ih' ⟨by omega, by omega, hd⟩
    · rw [if_neg ck] at hrb ih' ⊢
      have hra := x_reasonAgainst d hd (k := kdr (y % 8)) (w := y / 8 % 10) (by omega) (by omega) (fun z => absurd z ck)
      by_cases cr : rsn d (kdr (y % 8)) (y / 8 % 10) = 0
      · have hb : kdr (y % 8) = 2 → d 99 8 ≤ 9 := by
          intro e
          have a1 := okd_p hd
          rw [e] at cr
          unfold rsn at cr
          rw [if_neg (by decide), if_neg (by decide), if_pos rfl] at cr
          split at cr <;> omega
        have hact := x_act d hd (k := kdr (y % 8)) (w := y / 8 % 10) (v := 10 * (1 + y / 80 % 9)) (by omega) (by omega) (fun z => absurd z ck) hb
        have hya := yr_act hd y0 y1 (by rw [if_neg ck]; exact cr)
        rw [if_neg ck] at hya
        rw [if_pos cr] at ih' ⊢
        simp (disch := omega) only [hra, hact, cr, s_T, s_F, s_bd, s_cl, s_rd, s_wr, s_ite, z_ite, z_neg, z_add, z_sub, z_mul, z_le, z_lt, z_eq, eC_at, eC_7, eC_8, eC_9, eC_10, eC_11, eC_p7, eC_p8, eC_p9, eC_p10, eC_p11, eC_up, ud_same, ud_ne, if_pos, if_neg, z_0, z_1, z_2, z_3, z_4, z_5, z_6, z_7, z_8, z_9, z_10, z_11, z_12, z_13, z_14, z_15, z_16, z_17, z_18, z_19, z_20, z_21, z_22, z_23, z_24, z_25, z_26, z_27, z_28, z_29, z_30, z_31, z_32, z_33, z_34, z_35, z_36, z_37, z_38, z_39, z_40, z_41, z_42, z_43, z_44, z_45, z_46, z_47, z_48, z_49, z_50, z_51, z_52, z_53, z_54, z_55, z_56, z_57, z_58, z_59, z_60, z_61, z_62, z_63, z_64, z_65, z_66, z_67, z_68, z_69, z_70, z_71, z_72, z_73, z_74, z_75, z_76, z_77, z_78, z_79, z_80, z_81, z_82, z_83, z_84, z_85, z_86, z_87, z_88, z_89, z_90, z_91, z_92, z_93, z_94, z_95, z_96, z_97, z_98, z_99, z_100, z_101, z_102, z_103, z_104, z_105, z_106, z_107, z_108, z_109, z_110, z_111, z_112, z_113, z_114, z_115, z_116, z_117, z_118, z_119, z_120, z_121, z_122, z_123, z_124, z_125, z_126, z_127, z_199, z_200, z_360, z_410, z_1000, z_1023, z_1024, z_1219, z_9999, z_10240, z_65537]
        exact ih' ⟨by omega, by omega, hya.1⟩
      · rw [if_neg cr] at ih' ⊢
        simp (disch := omega) only [hra, s_T, s_F, s_bd, s_cl, s_rd, s_wr, s_ite, z_ite, z_neg, z_add, z_sub, z_mul, z_le, z_lt, z_eq, eC_at, eC_7, eC_8, eC_9, eC_10, eC_11, eC_p7, eC_p8, eC_p9, eC_p10, eC_p11, eC_up, ud_same, ud_ne, if_pos, if_neg, z_0, z_1, z_2, z_3, z_4, z_5, z_6, z_7, z_8, z_9, z_10, z_11, z_12, z_13, z_14, z_15, z_16, z_17, z_18, z_19, z_20, z_21, z_22, z_23, z_24, z_25, z_26, z_27, z_28, z_29, z_30, z_31, z_32, z_33, z_34, z_35, z_36, z_37, z_38, z_39, z_40, z_41, z_42, z_43, z_44, z_45, z_46, z_47, z_48, z_49, z_50, z_51, z_52, z_53, z_54, z_55, z_56, z_57, z_58, z_59, z_60, z_61, z_62, z_63, z_64, z_65, z_66, z_67, z_68, z_69, z_70, z_71, z_72, z_73, z_74, z_75, z_76, z_77, z_78, z_79, z_80, z_81, z_82, z_83, z_84, z_85, z_86, z_87, z_88, z_89, z_90, z_91, z_92, z_93, z_94, z_95, z_96, z_97, z_98, z_99, z_100, z_101, z_102, z_103, z_104, z_105, z_106, z_107, z_108, z_109, z_110, z_111, z_112, z_113, z_114, z_115, z_116, z_117, z_118, z_119, z_120, z_121, z_122, z_123, z_124, z_125, z_126, z_127, z_199, z_200, z_360, z_410, z_1000, z_1023, z_1024, z_1219, z_9999, z_10240, z_65537]
        exact ih' ⟨by omega, by omega, hd⟩

theorem m_lseed {x : Int} (x0 : 0 ≤ x) (x1 : x < 65537) : ((((75 : Int64) * (zI x).toInt64) + 74) - (((75 : Int64) * (zI x).toInt64) + 74) / 65537 * 65537).toInt32 = zI ((75 * x + 74) % 65537) := by
  rw [z_l (by omega) (by omega), zl_75, zl_74, zl_mul, zl_add, zl_65537, zl_rem (by omega) (by omega) (by omega) (by omega), zl_i (by omega) (by omega)]
theorem v_believing (σ : qS) (τ : qL) (x : Int32) : oK set10 (f_X7_believing σ τ x) := by
  unfold f_X7_believing
  rw [z_0]
  refine ok_for (τ := Int32) 10 set10 (fun again i t h0 h1 ht ih => ?_) 20000 0 _ (by omega) (by omega) set_0 (by omega)
  unfold b_X7_believing_4
  dsimp only
  rw [z_s1, z_10]
  refine ok_if (fun _ => ok_r ht) (fun c => ?_)
  have hi := t_nle h0 (by omega) (by omega) (by omega) c
  exact ok_rd h0 (by omega) (by omega) (fun _ => ok_if (fun _ => ok_bd (ih hi _ (set_or ht (set_1 h0 (by omega))))) (fun _ => ok_bd (ih hi _ (set_or ht set_0))))
theorem v_talesBelieved (σ : qS) (τ : qL) : oK tt (f_X7_talesBelieved σ τ) := by
  unfold f_X7_talesBelieved
  rw [z_0]
  refine ok_for (τ := Int32) 10 tt (fun again i t h0 h1 ht ih => ?_) 20000 0 _ (by omega) (by omega) trivial (by omega)
  unfold b_X7_talesBelieved_4
  dsimp only
  rw [z_s1, z_10]
  refine ok_if (fun _ => ok_r trivial) (fun c => ?_)
  have hi := t_nle h0 (by omega) (by omega) (by omega) c
  exact ok_cl (v_believing σ τ _) (fun _ _ => ok_if (fun _ => ok_bd (ih hi _ trivial)) (fun _ => ok_bd (ih hi _ trivial)))
theorem v_doubts (σ : qS) (τ : qL) : oK tt (f_X7_doubts σ τ) := by
  unfold f_X7_doubts
  rw [z_0]
  refine ok_for (τ := Int32) 10 tt (fun again i t h0 h1 ht ih => ?_) 20000 0 _ (by omega) (by omega) trivial (by omega)
  unfold b_X7_doubts_4
  dsimp only
  rw [z_s1, z_10]
  refine ok_if (fun _ => ok_r trivial) (fun c => ?_)
  have hi := t_nle h0 (by omega) (by omega) (by omega) c
  exact ok_rd h0 (by omega) (by omega) (fun _ => ok_bd (ih hi _ trivial))
/-- a year of the reference: all is put back -/
theorem v_year (m : Nat → Int → Int) {d} (hd : okd d) (τ : qL) (a b w : Int32) : oK (fun r => r.2 = eC (pw m d) ∨ r.2 = eC (pw (kNow m d) d)) (f_X7_year (eC (pw m d)) τ a b w) := by
  unfold f_X7_year
  have e9999 : (9999 : Int64) = zL 9999 := by decide
  rw [zl_0, zl_1, zl_2, zl_99, e9999, v_in a (by omega) (by omega) (by omega) (by omega), v_in b (by omega) (by omega) (by omega) (by omega), v_in w (by omega) (by omega) (by omega) (by omega), s_cl, s_cl, s_cl]
  by_cases ca : 0 ≤ a.toInt ∧ a.toInt ≤ 9999
  · obtain ⟨x, x0, x1, rfl⟩ : ∃ x, 0 ≤ x ∧ x ≤ 9999 ∧ a = zI x := ⟨a.toInt, ca.1, ca.2, (Int32.ofInt_toInt a).symm⟩
    refine ok_if (fun _ => ok_r (Or.inl rfl)) (fun _ => ?_)
    by_cases cb : 1 ≤ b.toInt ∧ b.toInt ≤ 99
    · obtain ⟨n, n0, n1, rfl⟩ : ∃ n, 1 ≤ n ∧ n ≤ 99 ∧ b = zI n := ⟨b.toInt, cb.1, cb.2, (Int32.ofInt_toInt b).symm⟩
      refine ok_if (fun _ => ok_r (Or.inl rfl)) (fun _ => ok_if (fun _ => ok_r (Or.inl rfl)) (fun _ => ?_))
      rw [m_keepNow, s_cl, z_0]
      have hbk : ∀ d' r, oth d d' → oK (fun r : Int32 × qS => r.2 = eC (pw m d) ∨ r.2 = eC (pw (kNow m d) d)) (q_cl (f_X7_back (eC (pw (kNow m d) d')) τ r) fun y => some (y.1, y.2)) := by
        intro d' r ho
        rw [m_back, s_cl, bk_kNow ho (fun _ => rfl)]
        exact ok_r (Or.inr rfl)
      have key : ∀ (N : Nat) (i x : Int) (d' : Nat → Int → Int), 0 ≤ i → i ≤ n → (n - i).toNat < N → 0 ≤ x → x < 65537 → okd d' → oth d d' →
          oK (fun r : Int32 × qS => r.2 = eC (pw m d) ∨ r.2 = eC (pw (kNow m d) d)) (q_lp (b_X7_year_49 τ (zI n)) (fun z12 => if w = zI 0 then (q_cl (f_X7_believing z12.2.2 τ (-6 : Int32)) fun r_27 =>
            q_cl (f_X7_ones r_27) fun r_29 => q_bd ((10 : Int32) - r_29) fun v5_31 => q_cl (f_X7_back z12.2.2 τ v5_31) fun y_36 => some (y_36.1, y_36.2))
            else if w = 1 then (q_cl (f_X7_talesBelieved z12.2.2 τ) fun r_21 => q_cl (f_X7_back z12.2.2 τ r_21) fun y_26 => some (y_26.1, y_26.2))
            else q_cl (f_X7_doubts z12.2.2 τ) fun r_15 => q_cl (f_X7_back z12.2.2 τ r_15) fun y_20 => some (y_20.1, y_20.2)) N (zI i, zI x, eC (pw (kNow m d) d'))) := by
        intro N
        induction N with
        | zero => intro i x d' _ _ h; omega
        | succ N ih =>
          intro i x d' h0 h1 hN hx0 hx1 hd' ho
          rw [lp_s]
          generalize q_lp (b_X7_year_49 τ (zI n)) (fun z12 => if w = zI 0 then (q_cl (f_X7_believing z12.2.2 τ (-6 : Int32)) fun r_27 =>
            q_cl (f_X7_ones r_27) fun r_29 => q_bd ((10 : Int32) - r_29) fun v5_31 => q_cl (f_X7_back z12.2.2 τ v5_31) fun y_36 => some (y_36.1, y_36.2))
            else if w = 1 then (q_cl (f_X7_talesBelieved z12.2.2 τ) fun r_21 => q_cl (f_X7_back z12.2.2 τ r_21) fun y_26 => some (y_26.1, y_26.2))
            else q_cl (f_X7_doubts z12.2.2 τ) fun r_15 => q_cl (f_X7_back z12.2.2 τ r_15) fun y_20 => some (y_20.1, y_20.2)) N = again at ih
          unfold b_X7_year_49
          dsimp only
          rw [z_s1]
          refine ok_if (fun _ => ok_if (fun _ => ok_cl (v_believing _ τ _) (fun _ hb => ok_cl (v_ones hb) (fun _ _ => ok_bd (hbk d' _ ho)))) (fun _ => ok_if (fun _ => ok_cl (v_talesBelieved _ τ) (fun _ _ => hbk d' _ ho)) (fun _ => ok_cl (v_doubts _ τ) (fun _ _ => hbk d' _ ho)))) (fun c => ?_)
          have hi := t_nle h0 (by omega) (by omega) (by omega) c
          rw [m_lseed hx0 hx1, s_bd]
          generalize hy : (75 * x + 74) % 65537 = y
          have y0 : 0 ≤ y := by omega
          have y1 : y < 65537 := by omega
          have hk := kdr_b (y % 8)
          have ew : (80 : Int32) = zI 80 := by decide
          rw [z_8, z_rem y0 (by omega) (by omega) (by omega), m_actBy (by omega) (by omega), s_cl, z_div y0 (by omega) (by omega) (by omega), z_11, z_10, z_rem (by omega) (by omega) (by omega) (by omega), z_rem (by omega) (by omega) (by omega) (by omega), ew, z_9, z_1, z_div y0 (by omega) (by omega) (by omega), z_rem (by omega) (by omega) (by omega) (by omega), z_add, z_mul]
          simp only [s_bd]
          refine ok_if (fun c1 => ?_) (fun c1 => ?_)
          · have ck : kdr (y % 8) = 1 := by rwa [z_eq (by omega) (by omega) (by omega) (by omega)] at c1
            rw [m_whyNot _ _ τ hd' hk.1 hk.2 (fun _ => by omega), s_cl]
            refine ok_if (fun c2 => ?_) (fun _ => ih (i + 1) y d' (by omega) (by omega) (by omega) y0 y1 hd' ho)
            have hrb := rsn_b (d := d') (kdr (y % 8)) (y / 8 % 11)
            have cr : rsn d' (kdr (y % 8)) (y / 8 % 11) = 0 := by rwa [z_0, z_eq (by omega) (by omega) (by omega) (by omega)] at c2
            have hya := yr_act hd' y0 y1 (by rw [if_pos ck]; exact cr)
            rw [if_pos ck] at hya
            rw [m_happen _ _ τ hd' hk.1 hk.2 (fun _ => by omega) (fun z => by omega), s_cl]
            exact ih (i + 1) y _ (by omega) (by omega) (by omega) y0 y1 hya.1 (oth_tr ho hya.2)
          · have ck : ¬ kdr (y % 8) = 1 := by rwa [z_eq (by omega) (by omega) (by omega) (by omega)] at c1
            rw [m_whyNot _ _ τ hd' hk.1 hk.2 (fun z => absurd z ck), s_cl]
            refine ok_if (fun c2 => ?_) (fun _ => ih (i + 1) y d' (by omega) (by omega) (by omega) y0 y1 hd' ho)
            have hrb := rsn_b (d := d') (kdr (y % 8)) (y / 8 % 10)
            have cr : rsn d' (kdr (y % 8)) (y / 8 % 10) = 0 := by rwa [z_0, z_eq (by omega) (by omega) (by omega) (by omega)] at c2
            have hya := yr_act hd' y0 y1 (by rw [if_neg ck]; exact cr)
            rw [if_neg ck] at hya
            have hb : kdr (y % 8) = 2 → d' 99 8 ≤ 9 := by
              intro e
              have a1 := okd_p hd'
              rw [e] at cr
              unfold rsn at cr
              rw [if_neg (by decide), if_neg (by decide), if_pos rfl] at cr
              split at cr <;> omega
            rw [m_happen _ _ τ hd' hk.1 hk.2 (fun z => absurd z ck) hb, s_cl]
            exact ih (i + 1) y _ (by omega) (by omega) (by omega) y0 y1 hya.1 (oth_tr ho hya.2)
      exact key 20000 0 x d (by omega) (by omega) (by omega) x0 (by omega) hd (oth_rf d)
    · rw [if_neg cb]
      exact ok_if (fun _ => ok_r (Or.inl rfl)) (fun c => absurd rfl c)
  · rw [if_neg ca]
    exact ok_if (fun _ => ok_r (Or.inl rfl)) (fun c => absurd rfl c)

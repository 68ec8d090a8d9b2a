/-! the state of the reference: a Close d within the rest m -/
theorem eC_6 (d : Nat → Int → Int) : eC d 99 6 = zI (d 99 6) := rfl
theorem eC_13 (d : Nat → Int → Int) : eC d 99 13 = zI (d 99 13) := rfl
theorem eC_17 (d : Nat → Int → Int) : eC d 99 17 = zI (d 99 17) := rfl
theorem eC_19 (d : Nat → Int → Int) : eC d 99 19 = zI (d 99 19) := rfl
theorem eC_20 (d : Nat → Int → Int) : eC d 99 20 = zI (d 99 20) := rfl
theorem eC_21 (d : Nat → Int → Int) : eC d 99 21 = zI (d 99 21) := rfl
theorem eC_22 (d : Nat → Int → Int) : eC d 99 22 = zI (d 99 22) := rfl
theorem eC_23 (d : Nat → Int → Int) : eC d 99 23 = zI (d 99 23) := rfl
theorem eC_32 (d : Nat → Int → Int) : eC d 99 32 = zI (d 99 32) := rfl
theorem eC_33 (d : Nat → Int → Int) : eC d 99 33 = zI (d 99 33) := rfl
theorem eC_p6 (d : Nat → Int → Int) (v : Int) : q_up (eC d) 99 (upd (eC d 99) 6 (zI v)) = eC (ud d 99 6 v) := eC_up d 99 (i := 6) (by decide) v
theorem eC_p13 (d : Nat → Int → Int) (v : Int) : q_up (eC d) 99 (upd (eC d 99) 13 (zI v)) = eC (ud d 99 13 v) := eC_up d 99 (i := 13) (by decide) v
theorem eC_p17 (d : Nat → Int → Int) (v : Int) : q_up (eC d) 99 (upd (eC d 99) 17 (zI v)) = eC (ud d 99 17 v) := eC_up d 99 (i := 17) (by decide) v
theorem eC_p19 (d : Nat → Int → Int) (v : Int) : q_up (eC d) 99 (upd (eC d 99) 19 (zI v)) = eC (ud d 99 19 v) := eC_up d 99 (i := 19) (by decide) v
theorem eC_p20 (d : Nat → Int → Int) (v : Int) : q_up (eC d) 99 (upd (eC d 99) 20 (zI v)) = eC (ud d 99 20 v) := eC_up d 99 (i := 20) (by decide) v
theorem eC_p21 (d : Nat → Int → Int) (v : Int) : q_up (eC d) 99 (upd (eC d 99) 21 (zI v)) = eC (ud d 99 21 v) := eC_up d 99 (i := 21) (by decide) v
theorem eC_p22 (d : Nat → Int → Int) (v : Int) : q_up (eC d) 99 (upd (eC d 99) 22 (zI v)) = eC (ud d 99 22 v) := eC_up d 99 (i := 22) (by decide) v
theorem eC_p23 (d : Nat → Int → Int) (v : Int) : q_up (eC d) 99 (upd (eC d 99) 23 (zI v)) = eC (ud d 99 23 v) := eC_up d 99 (i := 23) (by decide) v
theorem eC_p32 (d : Nat → Int → Int) (v : Int) : q_up (eC d) 99 (upd (eC d 99) 32 (zI v)) = eC (ud d 99 32 v) := eC_up d 99 (i := 32) (by decide) v
theorem eC_p33 (d : Nat → Int → Int) (v : Int) : q_up (eC d) 99 (upd (eC d 99) 33 (zI v)) = eC (ud d 99 33 v) := eC_up d 99 (i := 33) (by decide) v
def cs (k : Nat) (i : Int) : Option (Nat × Int) :=
  if k ≤ 4 then some (k, i) else if k = 9 then some (5, i) else if k = 10 then some (6, i)
  else if k = 99 then (if i = 5 then some (99, 8) else if i = 6 then some (99, 9) else if i = 7 then some (99, 10) else if i = 8 then some (99, 11) else if i = 11 then some (99, 7) else none) else none
def pw (m d : Nat → Int → Int) : Nat → Int → Int := fun k i => match cs k i with
  | some x => d x.1 x.2
  | none => m k i
theorem cs_inj {a k : Nat} {b i : Int} {x : Nat × Int} (h1 : cs a b = some x) (h2 : cs k i = some x) : a = k ∧ b = i := by
  unfold cs at h1 h2
  obtain ⟨x1, x2⟩ := x
  repeat' split at h1
  all_goals repeat' split at h2
  all_goals (simp only [Option.some.injEq, Prod.mk.injEq, reduceCtorEq] at h1 h2)
  all_goals omega
theorem pw_some {m d : Nat → Int → Int} {k : Nat} {i : Int} {x : Nat × Int} (h : cs k i = some x) : pw m d k i = d x.1 x.2 := by unfold pw; rw [h]
theorem pw_none {m d : Nat → Int → Int} {k : Nat} {i : Int} (h : cs k i = none) : pw m d k i = m k i := by unfold pw; rw [h]
theorem ud_pw {m d : Nat → Int → Int} {k : Nat} {i : Int} {x : Nat × Int} (h : cs k i = some x) (v : Int) : ud (pw m d) k i v = pw m (ud d x.1 x.2 v) := by
  funext a b
  by_cases e : a = k ∧ b = i
  · obtain ⟨rfl, rfl⟩ := e
    rw [ud_same, pw_some h, ud_same]
  · have e1 : ud (pw m d) k i v a b = pw m d a b := by unfold ud; rw [if_neg e]
    rw [e1]
    cases z : cs a b with
    | none => rw [pw_none z, pw_none z]
    | some y =>
      rw [pw_some z, pw_some z]
      unfold ud
      rw [if_neg]
      rintro ⟨z1, z2⟩
      obtain rfl : y = x := Prod.ext z1 z2
      exact e (cs_inj z h)
theorem ud_pwn {m d : Nat → Int → Int} {k : Nat} {i : Int} (h : cs k i = none) (v : Int) : ud (pw m d) k i v = pw (ud m k i v) d := by
  funext a b
  by_cases e : a = k ∧ b = i
  · obtain ⟨rfl, rfl⟩ := e
    rw [ud_same, pw_none h, ud_same]
  · have e1 : ud (pw m d) k i v a b = pw m d a b := by unfold ud; rw [if_neg e]
    rw [e1]
    cases z : cs a b with
    | none =>
      rw [pw_none z, pw_none z]
      unfold ud
      rw [if_neg e]
    | some y => rw [pw_some z, pw_some z]
theorem pw_0 (m d : Nat → Int → Int) (i : Int) : pw m d 0 i = d 0 i := pw_some (x := (0, i)) rfl
theorem up_0 (m d : Nat → Int → Int) (i v : Int) : ud (pw m d) 0 i v = pw m (ud d 0 i v) := ud_pw (x := (0, i)) rfl v
theorem pw_1 (m d : Nat → Int → Int) (i : Int) : pw m d 1 i = d 1 i := pw_some (x := (1, i)) rfl
theorem up_1 (m d : Nat → Int → Int) (i v : Int) : ud (pw m d) 1 i v = pw m (ud d 1 i v) := ud_pw (x := (1, i)) rfl v
theorem pw_2 (m d : Nat → Int → Int) (i : Int) : pw m d 2 i = d 2 i := pw_some (x := (2, i)) rfl
theorem up_2 (m d : Nat → Int → Int) (i v : Int) : ud (pw m d) 2 i v = pw m (ud d 2 i v) := ud_pw (x := (2, i)) rfl v
theorem pw_3 (m d : Nat → Int → Int) (i : Int) : pw m d 3 i = d 3 i := pw_some (x := (3, i)) rfl
theorem up_3 (m d : Nat → Int → Int) (i v : Int) : ud (pw m d) 3 i v = pw m (ud d 3 i v) := ud_pw (x := (3, i)) rfl v
theorem pw_4 (m d : Nat → Int → Int) (i : Int) : pw m d 4 i = d 4 i := pw_some (x := (4, i)) rfl
theorem up_4 (m d : Nat → Int → Int) (i v : Int) : ud (pw m d) 4 i v = pw m (ud d 4 i v) := ud_pw (x := (4, i)) rfl v
theorem pw_9 (m d : Nat → Int → Int) (i : Int) : pw m d 9 i = d 5 i := pw_some (x := (5, i)) rfl
theorem up_9 (m d : Nat → Int → Int) (i v : Int) : ud (pw m d) 9 i v = pw m (ud d 5 i v) := ud_pw (x := (5, i)) rfl v
theorem pw_10 (m d : Nat → Int → Int) (i : Int) : pw m d 10 i = d 6 i := pw_some (x := (6, i)) rfl
theorem up_10 (m d : Nat → Int → Int) (i v : Int) : ud (pw m d) 10 i v = pw m (ud d 6 i v) := ud_pw (x := (6, i)) rfl v
theorem pwi_5 (m d : Nat → Int → Int) : pw m d 99 5 = d 99 8 := pw_some (x := (99, 8)) rfl
theorem upi_5 (m d : Nat → Int → Int) (v : Int) : ud (pw m d) 99 5 v = pw m (ud d 99 8 v) := ud_pw (x := (99, 8)) rfl v
theorem pwi_6 (m d : Nat → Int → Int) : pw m d 99 6 = d 99 9 := pw_some (x := (99, 9)) rfl
theorem upi_6 (m d : Nat → Int → Int) (v : Int) : ud (pw m d) 99 6 v = pw m (ud d 99 9 v) := ud_pw (x := (99, 9)) rfl v
theorem pwi_7 (m d : Nat → Int → Int) : pw m d 99 7 = d 99 10 := pw_some (x := (99, 10)) rfl
theorem upi_7 (m d : Nat → Int → Int) (v : Int) : ud (pw m d) 99 7 v = pw m (ud d 99 10 v) := ud_pw (x := (99, 10)) rfl v
theorem pwi_8 (m d : Nat → Int → Int) : pw m d 99 8 = d 99 11 := pw_some (x := (99, 11)) rfl
theorem upi_8 (m d : Nat → Int → Int) (v : Int) : ud (pw m d) 99 8 v = pw m (ud d 99 11 v) := ud_pw (x := (99, 11)) rfl v
theorem pwi_11 (m d : Nat → Int → Int) : pw m d 99 11 = d 99 7 := pw_some (x := (99, 7)) rfl
theorem upi_11 (m d : Nat → Int → Int) (v : Int) : ud (pw m d) 99 11 v = pw m (ud d 99 7 v) := ud_pw (x := (99, 7)) rfl v
theorem pw_12 (m d : Nat → Int → Int) (i : Int) : pw m d 12 i = m 12 i := pw_none rfl
theorem up_12 (m d : Nat → Int → Int) (i v : Int) : ud (pw m d) 12 i v = pw (ud m 12 i v) d := ud_pwn rfl v
theorem pw_14 (m d : Nat → Int → Int) (i : Int) : pw m d 14 i = m 14 i := pw_none rfl
theorem up_14 (m d : Nat → Int → Int) (i v : Int) : ud (pw m d) 14 i v = pw (ud m 14 i v) d := ud_pwn rfl v
theorem pw_15 (m d : Nat → Int → Int) (i : Int) : pw m d 15 i = m 15 i := pw_none rfl
theorem up_15 (m d : Nat → Int → Int) (i v : Int) : ud (pw m d) 15 i v = pw (ud m 15 i v) d := ud_pwn rfl v
theorem pw_16 (m d : Nat → Int → Int) (i : Int) : pw m d 16 i = m 16 i := pw_none rfl
theorem up_16 (m d : Nat → Int → Int) (i v : Int) : ud (pw m d) 16 i v = pw (ud m 16 i v) d := ud_pwn rfl v
theorem pw_18 (m d : Nat → Int → Int) (i : Int) : pw m d 18 i = m 18 i := pw_none rfl
theorem up_18 (m d : Nat → Int → Int) (i v : Int) : ud (pw m d) 18 i v = pw (ud m 18 i v) d := ud_pwn rfl v
theorem pw_24 (m d : Nat → Int → Int) (i : Int) : pw m d 24 i = m 24 i := pw_none rfl
theorem up_24 (m d : Nat → Int → Int) (i v : Int) : ud (pw m d) 24 i v = pw (ud m 24 i v) d := ud_pwn rfl v
theorem pw_25 (m d : Nat → Int → Int) (i : Int) : pw m d 25 i = m 25 i := pw_none rfl
theorem up_25 (m d : Nat → Int → Int) (i v : Int) : ud (pw m d) 25 i v = pw (ud m 25 i v) d := ud_pwn rfl v
theorem pw_26 (m d : Nat → Int → Int) (i : Int) : pw m d 26 i = m 26 i := pw_none rfl
theorem up_26 (m d : Nat → Int → Int) (i v : Int) : ud (pw m d) 26 i v = pw (ud m 26 i v) d := ud_pwn rfl v
theorem pw_29 (m d : Nat → Int → Int) (i : Int) : pw m d 29 i = m 29 i := pw_none rfl
theorem up_29 (m d : Nat → Int → Int) (i v : Int) : ud (pw m d) 29 i v = pw (ud m 29 i v) d := ud_pwn rfl v
theorem pw_30 (m d : Nat → Int → Int) (i : Int) : pw m d 30 i = m 30 i := pw_none rfl
theorem up_30 (m d : Nat → Int → Int) (i v : Int) : ud (pw m d) 30 i v = pw (ud m 30 i v) d := ud_pwn rfl v
theorem pw_31 (m d : Nat → Int → Int) (i : Int) : pw m d 31 i = m 31 i := pw_none rfl
theorem up_31 (m d : Nat → Int → Int) (i v : Int) : ud (pw m d) 31 i v = pw (ud m 31 i v) d := ud_pwn rfl v
theorem pwi_13 (m d : Nat → Int → Int) : pw m d 99 13 = m 99 13 := pw_none rfl
theorem upi_13 (m d : Nat → Int → Int) (v : Int) : ud (pw m d) 99 13 v = pw (ud m 99 13 v) d := ud_pwn rfl v
theorem pwi_17 (m d : Nat → Int → Int) : pw m d 99 17 = m 99 17 := pw_none rfl
theorem upi_17 (m d : Nat → Int → Int) (v : Int) : ud (pw m d) 99 17 v = pw (ud m 99 17 v) d := ud_pwn rfl v
theorem pwi_19 (m d : Nat → Int → Int) : pw m d 99 19 = m 99 19 := pw_none rfl
theorem upi_19 (m d : Nat → Int → Int) (v : Int) : ud (pw m d) 99 19 v = pw (ud m 99 19 v) d := ud_pwn rfl v
theorem pwi_20 (m d : Nat → Int → Int) : pw m d 99 20 = m 99 20 := pw_none rfl
theorem upi_20 (m d : Nat → Int → Int) (v : Int) : ud (pw m d) 99 20 v = pw (ud m 99 20 v) d := ud_pwn rfl v
theorem pwi_21 (m d : Nat → Int → Int) : pw m d 99 21 = m 99 21 := pw_none rfl
theorem upi_21 (m d : Nat → Int → Int) (v : Int) : ud (pw m d) 99 21 v = pw (ud m 99 21 v) d := ud_pwn rfl v
theorem pwi_22 (m d : Nat → Int → Int) : pw m d 99 22 = m 99 22 := pw_none rfl
theorem upi_22 (m d : Nat → Int → Int) (v : Int) : ud (pw m d) 99 22 v = pw (ud m 99 22 v) d := ud_pwn rfl v
theorem pwi_23 (m d : Nat → Int → Int) : pw m d 99 23 = m 99 23 := pw_none rfl
theorem upi_23 (m d : Nat → Int → Int) (v : Int) : ud (pw m d) 99 23 v = pw (ud m 99 23 v) d := ud_pwn rfl v
theorem pwi_32 (m d : Nat → Int → Int) : pw m d 99 32 = m 99 32 := pw_none rfl
theorem upi_32 (m d : Nat → Int → Int) (v : Int) : ud (pw m d) 99 32 v = pw (ud m 99 32 v) d := ud_pwn rfl v
theorem pwi_33 (m d : Nat → Int → Int) : pw m d 99 33 = m 99 33 := pw_none rfl
theorem upi_33 (m d : Nat → Int → Int) (v : Int) : ud (pw m d) 99 33 v = pw (ud m 99 33 v) d := ud_pwn rfl v
theorem pw_pr {d : Nat → Int → Int} (m : Nat → Int → Int) : pw (pw m d) d = pw m d := by
  funext k i
  cases z : cs k i with
  | none => rw [pw_none z]
  | some y => rw [pw_some z, pw_some z]
/-! tests of the reference -/
theorem s_isB {c : Prop} [Decidable c] : q_isB (zI (if c then 1 else 0)) = true := by split <;> decide
theorem m_in {x a b : Int} (h1 : -9223372036854775808 ≤ x) (h2 : x < 9223372036854775808) (h3 : -9223372036854775808 ≤ a) (h4 : a < 9223372036854775808) (h5 : -9223372036854775808 ≤ b) (h6 : b < 9223372036854775808) : f_X7_in (zL x) (zL a) (zL b) = some (zI (if a ≤ x ∧ x ≤ b then 1 else 0)) := by
  unfold f_X7_in
  rw [z_cmp h1 h2 h3 h4, z_cmp h1 h2 h5 h6]
  rcases Int.lt_trichotomy x a with h | h | h
  · rw [if_neg (show ¬ a < x by omega), if_neg (show ¬ x = a by omega), if_pos (by decide), if_neg (by omega)]
    decide
  · rw [if_neg (show ¬ a < x by omega), if_pos h, if_neg (by decide)]
    by_cases c : b < x
    · rw [if_pos c, if_pos (by decide), if_neg (by omega)]; decide
    · rw [if_neg c]
      by_cases c2 : x = b
      · rw [if_pos c2, if_neg (by decide), if_pos (by omega)]; decide
      · rw [if_neg c2, if_neg (by decide), if_pos (by omega)]; decide
  · rw [if_pos h, if_neg (by decide)]
    by_cases c : b < x
    · rw [if_pos c, if_pos (by decide), if_neg (by omega)]; decide
    · rw [if_neg c]
      by_cases c2 : x = b
      · rw [if_pos c2, if_neg (by decide), if_pos (by omega)]; decide
      · rw [if_neg c2, if_neg (by decide), if_pos (by omega)]; decide
theorem m_isHouse {x : Int} (h1 : -2147483648 ≤ x) (h2 : x < 2147483648) : f_X7_isHouse (zI x) = some (zI (if 0 ≤ x ∧ x ≤ 9 then 1 else 0)) := by
  unfold f_X7_isHouse
  rw [z_l h1 h2, zl_0, zl_9, m_in (by omega) (by omega) (by omega) (by omega) (by omega) (by omega), s_cl, s_chk s_isB]
theorem m_isPlace {x : Int} (h1 : -2147483648 ≤ x) (h2 : x < 2147483648) : f_X7_isPlace (zI x) = some (zI (if 0 ≤ x ∧ x ≤ 10 then 1 else 0)) := by
  unfold f_X7_isPlace
  rw [z_l h1 h2, zl_0, zl_10, m_in (by omega) (by omega) (by omega) (by omega) (by omega) (by omega), s_cl, s_chk s_isB]
theorem m_isTale {x : Int} (h1 : -2147483648 ≤ x) (h2 : x < 2147483648) : f_X7_isTale (zI x) = some (zI (if 0 ≤ x ∧ x ≤ 9 then 1 else 0)) := by
  unfold f_X7_isTale
  rw [z_l h1 h2, zl_0, zl_9, m_in (by omega) (by omega) (by omega) (by omega) (by omega) (by omega), s_cl, s_chk s_isB]
theorem m_cooled {a b : Int} (h1 : 0 ≤ a) (h2 : a < 1000000000) (h3 : 0 ≤ b) (h4 : b < 1000000000) : f_X7_cooled (zI a) (zI b) = some (zI (if 0 < a - b then a - b else 0)) := by
  unfold f_X7_cooled
  simp (disch := omega) only [s_T, s_F, s_bd, s_cl, s_rd, s_wr, s_ite, z_ite, z_neg, z_add, z_sub, z_mul, z_le, z_lt, z_eq, eC_at, eC_7, eC_8, eC_9, eC_10, eC_11, eC_p7, eC_p8, eC_p9, eC_p10, eC_p11, eC_up, ud_same, ud_ne, z_0, z_1, z_2, z_3, z_4, z_5, z_6, z_7, z_8, z_9, z_10, z_11, z_12, z_13, z_14, z_15, z_16, z_17, z_18, z_19, z_20, z_21, z_22, z_23, z_24, z_25, z_26, z_27, z_28, z_29, z_30, z_31, z_32, z_33, z_34, z_35, z_36, z_37, z_38, z_39, z_40, z_41, z_42, z_43, z_44, z_45, z_46, z_47, z_48, z_49, z_50, z_51, z_52, z_53, z_54, z_55, z_56, z_57, z_58, z_59, z_60, z_61, z_62, z_63, z_64, z_65, z_66, z_67, z_68, z_69, z_70, z_71, z_72, z_73, z_74, z_75, z_76, z_77, z_78, z_79, z_80, z_81, z_82, z_83, z_84, z_85, z_86, z_87, z_88, z_89, z_90, z_91, z_92, z_93, z_94, z_95, z_96, z_97, z_98, z_99, z_100, z_101, z_102, z_103, z_104, z_105, z_106, z_107, z_108, z_109, z_110, z_111, z_112, z_113, z_114, z_115, z_116, z_117, z_118, z_119, z_120, z_121, z_122, z_123, z_124, z_125, z_126, z_127, z_199, z_200, z_360, z_410, z_1000, z_1023, z_1024, z_1219, z_9999, z_10240, z_65537]
  congr 2
  split
  · rw [if_neg (by omega)]
  · rw [if_pos (by omega)]
theorem m_whyNot (m d : Nat → Int → Int) (τ : qL) (hd : okd d) {k w : Int} (h1 : 0 ≤ k) (h2 : k ≤ 4) (hw : k = 1 → 0 ≤ w ∧ w ≤ 10) : f_X7_whyNot (eC (pw m d)) τ (zI k) (zI w) = some (zI (rsn d k w)) := by
  unfold f_X7_whyNot rsn
  have a1 := okd_p hd
  have a2 := okd_h hd
  have a3 := okd_m hd
  have a4 := okd_0 hd (d 99 8 * 11 + w)
  have a5 := okd_0 hd (11 * d 99 8 + w)
  rcases (show k = 0 ∨ k = 1 ∨ k = 2 ∨ k = 3 ∨ k = 4 by omega) with e | e | e | e | e <;> subst e
  · simp (disch := omega) only [pw_0, up_0, pw_1, up_1, pw_2, up_2, pw_3, up_3, pw_4, up_4, pw_9, up_9, pw_10, up_10, pwi_5, upi_5, pwi_6, upi_6, pwi_7, upi_7, pwi_8, upi_8, pwi_11, upi_11, pw_12, up_12, pw_14, up_14, pw_15, up_15, pw_16, up_16, pw_18, up_18, pw_24, up_24, pw_25, up_25, pw_26, up_26, pw_29, up_29, pw_30, up_30, pw_31, up_31, pwi_13, upi_13, pwi_17, upi_17, pwi_19, upi_19, pwi_20, upi_20, pwi_21, upi_21, pwi_22, upi_22, pwi_23, upi_23, pwi_32, upi_32, pwi_33, upi_33, eC_5, eC_6, eC_13, eC_17, eC_19, eC_20, eC_21, eC_22, eC_23, eC_32, eC_33, eC_p5, eC_p6, eC_p13, eC_p17, eC_p19, eC_p20, eC_p21, eC_p22, eC_p23, eC_p32, eC_p33, s_T, s_F, s_bd, s_cl, s_rd, s_wr, s_ite, z_ite, z_neg, z_add, z_sub, z_mul, z_le, z_lt, z_eq, eC_at, eC_7, eC_8, eC_9, eC_10, eC_11, eC_p7, eC_p8, eC_p9, eC_p10, eC_p11, eC_up, ud_same, ud_ne, if_pos, if_neg, z_0, z_1, z_2, z_3, z_4, z_5, z_6, z_7, z_8, z_9, z_10, z_11, z_12, z_13, z_14, z_15, z_16, z_17, z_18, z_19, z_20, z_21, z_22, z_23, z_24, z_25, z_26, z_27, z_28, z_29, z_30, z_31, z_32, z_33, z_34, z_35, z_36, z_37, z_38, z_39, z_40, z_41, z_42, z_43, z_44, z_45, z_46, z_47, z_48, z_49, z_50, z_51, z_52, z_53, z_54, z_55, z_56, z_57, z_58, z_59, z_60, z_61, z_62, z_63, z_64, z_65, z_66, z_67, z_68, z_69, z_70, z_71, z_72, z_73, z_74, z_75, z_76, z_77, z_78, z_79, z_80, z_81, z_82, z_83, z_84, z_85, z_86, z_87, z_88, z_89, z_90, z_91, z_92, z_93, z_94, z_95, z_96, z_97, z_98, z_99, z_100, z_101, z_102, z_103, z_104, z_105, z_106, z_107, z_108, z_109, z_110, z_111, z_112, z_113, z_114, z_115, z_116, z_117, z_118, z_119, z_120, z_121, z_122, z_123, z_124, z_125, z_126, z_127, z_199, z_200, z_360, z_410, z_1000, z_1023, z_1024, z_1219, z_9999, z_10240, z_65537]
  · have := hw rfl
    simp (disch := omega) only [pw_0, up_0, pw_1, up_1, pw_2, up_2, pw_3, up_3, pw_4, up_4, pw_9, up_9, pw_10, up_10, pwi_5, upi_5, pwi_6, upi_6, pwi_7, upi_7, pwi_8, upi_8, pwi_11, upi_11, pw_12, up_12, pw_14, up_14, pw_15, up_15, pw_16, up_16, pw_18, up_18, pw_24, up_24, pw_25, up_25, pw_26, up_26, pw_29, up_29, pw_30, up_30, pw_31, up_31, pwi_13, upi_13, pwi_17, upi_17, pwi_19, upi_19, pwi_20, upi_20, pwi_21, upi_21, pwi_22, upi_22, pwi_23, upi_23, pwi_32, upi_32, pwi_33, upi_33, eC_5, eC_6, eC_13, eC_17, eC_19, eC_20, eC_21, eC_22, eC_23, eC_32, eC_33, eC_p5, eC_p6, eC_p13, eC_p17, eC_p19, eC_p20, eC_p21, eC_p22, eC_p23, eC_p32, eC_p33, s_T, s_F, s_bd, s_cl, s_rd, s_wr, s_ite, z_ite, z_neg, z_add, z_sub, z_mul, z_le, z_lt, z_eq, eC_at, eC_7, eC_8, eC_9, eC_10, eC_11, eC_p7, eC_p8, eC_p9, eC_p10, eC_p11, eC_up, ud_same, ud_ne, if_pos, if_neg, z_0, z_1, z_2, z_3, z_4, z_5, z_6, z_7, z_8, z_9, z_10, z_11, z_12, z_13, z_14, z_15, z_16, z_17, z_18, z_19, z_20, z_21, z_22, z_23, z_24, z_25, z_26, z_27, z_28, z_29, z_30, z_31, z_32, z_33, z_34, z_35, z_36, z_37, z_38, z_39, z_40, z_41, z_42, z_43, z_44, z_45, z_46, z_47, z_48, z_49, z_50, z_51, z_52, z_53, z_54, z_55, z_56, z_57, z_58, z_59, z_60, z_61, z_62, z_63, z_64, z_65, z_66, z_67, z_68, z_69, z_70, z_71, z_72, z_73, z_74, z_75, z_76, z_77, z_78, z_79, z_80, z_81, z_82, z_83, z_84, z_85, z_86, z_87, z_88, z_89, z_90, z_91, z_92, z_93, z_94, z_95, z_96, z_97, z_98, z_99, z_100, z_101, z_102, z_103, z_104, z_105, z_106, z_107, z_108, z_109, z_110, z_111, z_112, z_113, z_114, z_115, z_116, z_117, z_118, z_119, z_120, z_121, z_122, z_123, z_124, z_125, z_126, z_127, z_199, z_200, z_360, z_410, z_1000, z_1023, z_1024, z_1219, z_9999, z_10240, z_65537]
    rw [show 11 * d 99 8 + w = d 99 8 * 11 + w by omega]
    congr 2
    split
    · rw [if_pos (by omega)]
    · rw [if_neg (by omega)]
  · simp (disch := omega) only [pw_0, up_0, pw_1, up_1, pw_2, up_2, pw_3, up_3, pw_4, up_4, pw_9, up_9, pw_10, up_10, pwi_5, upi_5, pwi_6, upi_6, pwi_7, upi_7, pwi_8, upi_8, pwi_11, upi_11, pw_12, up_12, pw_14, up_14, pw_15, up_15, pw_16, up_16, pw_18, up_18, pw_24, up_24, pw_25, up_25, pw_26, up_26, pw_29, up_29, pw_30, up_30, pw_31, up_31, pwi_13, upi_13, pwi_17, upi_17, pwi_19, upi_19, pwi_20, upi_20, pwi_21, upi_21, pwi_22, upi_22, pwi_23, upi_23, pwi_32, upi_32, pwi_33, upi_33, eC_5, eC_6, eC_13, eC_17, eC_19, eC_20, eC_21, eC_22, eC_23, eC_32, eC_33, eC_p5, eC_p6, eC_p13, eC_p17, eC_p19, eC_p20, eC_p21, eC_p22, eC_p23, eC_p32, eC_p33, s_T, s_F, s_bd, s_cl, s_rd, s_wr, s_ite, z_ite, z_neg, z_add, z_sub, z_mul, z_le, z_lt, z_eq, eC_at, eC_7, eC_8, eC_9, eC_10, eC_11, eC_p7, eC_p8, eC_p9, eC_p10, eC_p11, eC_up, ud_same, ud_ne, if_pos, if_neg, z_0, z_1, z_2, z_3, z_4, z_5, z_6, z_7, z_8, z_9, z_10, z_11, z_12, z_13, z_14, z_15, z_16, z_17, z_18, z_19, z_20, z_21, z_22, z_23, z_24, z_25, z_26, z_27, z_28, z_29, z_30, z_31, z_32, z_33, z_34, z_35, z_36, z_37, z_38, z_39, z_40, z_41, z_42, z_43, z_44, z_45, z_46, z_47, z_48, z_49, z_50, z_51, z_52, z_53, z_54, z_55, z_56, z_57, z_58, z_59, z_60, z_61, z_62, z_63, z_64, z_65, z_66, z_67, z_68, z_69, z_70, z_71, z_72, z_73, z_74, z_75, z_76, z_77, z_78, z_79, z_80, z_81, z_82, z_83, z_84, z_85, z_86, z_87, z_88, z_89, z_90, z_91, z_92, z_93, z_94, z_95, z_96, z_97, z_98, z_99, z_100, z_101, z_102, z_103, z_104, z_105, z_106, z_107, z_108, z_109, z_110, z_111, z_112, z_113, z_114, z_115, z_116, z_117, z_118, z_119, z_120, z_121, z_122, z_123, z_124, z_125, z_126, z_127, z_199, z_200, z_360, z_410, z_1000, z_1023, z_1024, z_1219, z_9999, z_10240, z_65537]
    congr 2
    split
    · rfl
    · split
      · rw [if_pos (by omega)]
      · rw [if_neg (by omega)]
  · simp (disch := omega) only [pw_0, up_0, pw_1, up_1, pw_2, up_2, pw_3, up_3, pw_4, up_4, pw_9, up_9, pw_10, up_10, pwi_5, upi_5, pwi_6, upi_6, pwi_7, upi_7, pwi_8, upi_8, pwi_11, upi_11, pw_12, up_12, pw_14, up_14, pw_15, up_15, pw_16, up_16, pw_18, up_18, pw_24, up_24, pw_25, up_25, pw_26, up_26, pw_29, up_29, pw_30, up_30, pw_31, up_31, pwi_13, upi_13, pwi_17, upi_17, pwi_19, upi_19, pwi_20, upi_20, pwi_21, upi_21, pwi_22, upi_22, pwi_23, upi_23, pwi_32, upi_32, pwi_33, upi_33, eC_5, eC_6, eC_13, eC_17, eC_19, eC_20, eC_21, eC_22, eC_23, eC_32, eC_33, eC_p5, eC_p6, eC_p13, eC_p17, eC_p19, eC_p20, eC_p21, eC_p22, eC_p23, eC_p32, eC_p33, s_T, s_F, s_bd, s_cl, s_rd, s_wr, s_ite, z_ite, z_neg, z_add, z_sub, z_mul, z_le, z_lt, z_eq, eC_at, eC_7, eC_8, eC_9, eC_10, eC_11, eC_p7, eC_p8, eC_p9, eC_p10, eC_p11, eC_up, ud_same, ud_ne, if_pos, if_neg, z_0, z_1, z_2, z_3, z_4, z_5, z_6, z_7, z_8, z_9, z_10, z_11, z_12, z_13, z_14, z_15, z_16, z_17, z_18, z_19, z_20, z_21, z_22, z_23, z_24, z_25, z_26, z_27, z_28, z_29, z_30, z_31, z_32, z_33, z_34, z_35, z_36, z_37, z_38, z_39, z_40, z_41, z_42, z_43, z_44, z_45, z_46, z_47, z_48, z_49, z_50, z_51, z_52, z_53, z_54, z_55, z_56, z_57, z_58, z_59, z_60, z_61, z_62, z_63, z_64, z_65, z_66, z_67, z_68, z_69, z_70, z_71, z_72, z_73, z_74, z_75, z_76, z_77, z_78, z_79, z_80, z_81, z_82, z_83, z_84, z_85, z_86, z_87, z_88, z_89, z_90, z_91, z_92, z_93, z_94, z_95, z_96, z_97, z_98, z_99, z_100, z_101, z_102, z_103, z_104, z_105, z_106, z_107, z_108, z_109, z_110, z_111, z_112, z_113, z_114, z_115, z_116, z_117, z_118, z_119, z_120, z_121, z_122, z_123, z_124, z_125, z_126, z_127, z_199, z_200, z_360, z_410, z_1000, z_1023, z_1024, z_1219, z_9999, z_10240, z_65537]
    congr 2
    split
    · rw [if_pos (by omega)]
    · rw [if_neg (by omega)]
  · simp (disch := omega) only [pw_0, up_0, pw_1, up_1, pw_2, up_2, pw_3, up_3, pw_4, up_4, pw_9, up_9, pw_10, up_10, pwi_5, upi_5, pwi_6, upi_6, pwi_7, upi_7, pwi_8, upi_8, pwi_11, upi_11, pw_12, up_12, pw_14, up_14, pw_15, up_15, pw_16, up_16, pw_18, up_18, pw_24, up_24, pw_25, up_25, pw_26, up_26, pw_29, up_29, pw_30, up_30, pw_31, up_31, pwi_13, upi_13, pwi_17, upi_17, pwi_19, upi_19, pwi_20, upi_20, pwi_21, upi_21, pwi_22, upi_22, pwi_23, upi_23, pwi_32, upi_32, pwi_33, upi_33, eC_5, eC_6, eC_13, eC_17, eC_19, eC_20, eC_21, eC_22, eC_23, eC_32, eC_33, eC_p5, eC_p6, eC_p13, eC_p17, eC_p19, eC_p20, eC_p21, eC_p22, eC_p23, eC_p32, eC_p33, s_T, s_F, s_bd, s_cl, s_rd, s_wr, s_ite, z_ite, z_neg, z_add, z_sub, z_mul, z_le, z_lt, z_eq, eC_at, eC_7, eC_8, eC_9, eC_10, eC_11, eC_p7, eC_p8, eC_p9, eC_p10, eC_p11, eC_up, ud_same, ud_ne, if_pos, if_neg, z_0, z_1, z_2, z_3, z_4, z_5, z_6, z_7, z_8, z_9, z_10, z_11, z_12, z_13, z_14, z_15, z_16, z_17, z_18, z_19, z_20, z_21, z_22, z_23, z_24, z_25, z_26, z_27, z_28, z_29, z_30, z_31, z_32, z_33, z_34, z_35, z_36, z_37, z_38, z_39, z_40, z_41, z_42, z_43, z_44, z_45, z_46, z_47, z_48, z_49, z_50, z_51, z_52, z_53, z_54, z_55, z_56, z_57, z_58, z_59, z_60, z_61, z_62, z_63, z_64, z_65, z_66, z_67, z_68, z_69, z_70, z_71, z_72, z_73, z_74, z_75, z_76, z_77, z_78, z_79, z_80, z_81, z_82, z_83, z_84, z_85, z_86, z_87, z_88, z_89, z_90, z_91, z_92, z_93, z_94, z_95, z_96, z_97, z_98, z_99, z_100, z_101, z_102, z_103, z_104, z_105, z_106, z_107, z_108, z_109, z_110, z_111, z_112, z_113, z_114, z_115, z_116, z_117, z_118, z_119, z_120, z_121, z_122, z_123, z_124, z_125, z_126, z_127, z_199, z_200, z_360, z_410, z_1000, z_1023, z_1024, z_1219, z_9999, z_10240, z_65537]
    congr 2
    split
    · rw [if_pos (by omega)]
    · rw [if_neg (by omega)]
theorem m_fill (m d : Nat → Int → Int) (τ : qL) (w v : Int) : f_X7_fill (eC (pw m d)) τ (zI w) (zI v) = some (eC (pw m (ud (ud d 99 10 w) 99 9 v))) := by
  unfold f_X7_fill
  simp (disch := omega) only [pw_0, up_0, pw_1, up_1, pw_2, up_2, pw_3, up_3, pw_4, up_4, pw_9, up_9, pw_10, up_10, pwi_5, upi_5, pwi_6, upi_6, pwi_7, upi_7, pwi_8, upi_8, pwi_11, upi_11, pw_12, up_12, pw_14, up_14, pw_15, up_15, pw_16, up_16, pw_18, up_18, pw_24, up_24, pw_25, up_25, pw_26, up_26, pw_29, up_29, pw_30, up_30, pw_31, up_31, pwi_13, upi_13, pwi_17, upi_17, pwi_19, upi_19, pwi_20, upi_20, pwi_21, upi_21, pwi_22, upi_22, pwi_23, upi_23, pwi_32, upi_32, pwi_33, upi_33, eC_5, eC_6, eC_13, eC_17, eC_19, eC_20, eC_21, eC_22, eC_23, eC_32, eC_33, eC_p5, eC_p6, eC_p13, eC_p17, eC_p19, eC_p20, eC_p21, eC_p22, eC_p23, eC_p32, eC_p33, s_T, s_F, s_bd, s_cl, s_rd, s_wr, s_ite, z_ite, z_neg, z_add, z_sub, z_mul, z_le, z_lt, z_eq, eC_at, eC_7, eC_8, eC_9, eC_10, eC_11, eC_p7, eC_p8, eC_p9, eC_p10, eC_p11, eC_up, ud_same, ud_ne, if_pos, if_neg, z_0, z_1, z_2, z_3, z_4, z_5, z_6, z_7, z_8, z_9, z_10, z_11, z_12, z_13, z_14, z_15, z_16, z_17, z_18, z_19, z_20, z_21, z_22, z_23, z_24, z_25, z_26, z_27, z_28, z_29, z_30, z_31, z_32, z_33, z_34, z_35, z_36, z_37, z_38, z_39, z_40, z_41, z_42, z_43, z_44, z_45, z_46, z_47, z_48, z_49, z_50, z_51, z_52, z_53, z_54, z_55, z_56, z_57, z_58, z_59, z_60, z_61, z_62, z_63, z_64, z_65, z_66, z_67, z_68, z_69, z_70, z_71, z_72, z_73, z_74, z_75, z_76, z_77, z_78, z_79, z_80, z_81, z_82, z_83, z_84, z_85, z_86, z_87, z_88, z_89, z_90, z_91, z_92, z_93, z_94, z_95, z_96, z_97, z_98, z_99, z_100, z_101, z_102, z_103, z_104, z_105, z_106, z_107, z_108, z_109, z_110, z_111, z_112, z_113, z_114, z_115, z_116, z_117, z_118, z_119, z_120, z_121, z_122, z_123, z_124, z_125, z_126, z_127, z_199, z_200, z_360, z_410, z_1000, z_1023, z_1024, z_1219, z_9999, z_10240, z_65537]
theorem m_carry (m d : Nat → Int → Int) (τ : qL) (hd : okd d) {w : Int} (h0 : 0 ≤ w) (h1 : w ≤ 10) : f_X7_carry (eC (pw m d)) τ (zI w) = some (eC (pw m (ud (ud d 99 9 (if 0 < d 99 9 - d 0 (d 99 8 * 11 + w) then d 99 9 - d 0 (d 99 8 * 11 + w) else 0)) 99 8 w))) := by
  unfold f_X7_carry
  have a1 := okd_p hd
  have a2 := okd_h hd
  have a4 := okd_0 hd (d 99 8 * 11 + w)
  have a5 := okd_0 hd (11 * d 99 8 + w)
  simp (disch := omega) only [m_cooled, pw_0, up_0, pw_1, up_1, pw_2, up_2, pw_3, up_3, pw_4, up_4, pw_9, up_9, pw_10, up_10, pwi_5, upi_5, pwi_6, upi_6, pwi_7, upi_7, pwi_8, upi_8, pwi_11, upi_11, pw_12, up_12, pw_14, up_14, pw_15, up_15, pw_16, up_16, pw_18, up_18, pw_24, up_24, pw_25, up_25, pw_26, up_26, pw_29, up_29, pw_30, up_30, pw_31, up_31, pwi_13, upi_13, pwi_17, upi_17, pwi_19, upi_19, pwi_20, upi_20, pwi_21, upi_21, pwi_22, upi_22, pwi_23, upi_23, pwi_32, upi_32, pwi_33, upi_33, eC_5, eC_6, eC_13, eC_17, eC_19, eC_20, eC_21, eC_22, eC_23, eC_32, eC_33, eC_p5, eC_p6, eC_p13, eC_p17, eC_p19, eC_p20, eC_p21, eC_p22, eC_p23, eC_p32, eC_p33, s_T, s_F, s_bd, s_cl, s_rd, s_wr, s_ite, z_ite, z_neg, z_add, z_sub, z_mul, z_le, z_lt, z_eq, eC_at, eC_7, eC_8, eC_9, eC_10, eC_11, eC_p7, eC_p8, eC_p9, eC_p10, eC_p11, eC_up, ud_same, ud_ne, if_pos, if_neg, z_0, z_1, z_2, z_3, z_4, z_5, z_6, z_7, z_8, z_9, z_10, z_11, z_12, z_13, z_14, z_15, z_16, z_17, z_18, z_19, z_20, z_21, z_22, z_23, z_24, z_25, z_26, z_27, z_28, z_29, z_30, z_31, z_32, z_33, z_34, z_35, z_36, z_37, z_38, z_39, z_40, z_41, z_42, z_43, z_44, z_45, z_46, z_47, z_48, z_49, z_50, z_51, z_52, z_53, z_54, z_55, z_56, z_57, z_58, z_59, z_60, z_61, z_62, z_63, z_64, z_65, z_66, z_67, z_68, z_69, z_70, z_71, z_72, z_73, z_74, z_75, z_76, z_77, z_78, z_79, z_80, z_81, z_82, z_83, z_84, z_85, z_86, z_87, z_88, z_89, z_90, z_91, z_92, z_93, z_94, z_95, z_96, z_97, z_98, z_99, z_100, z_101, z_102, z_103, z_104, z_105, z_106, z_107, z_108, z_109, z_110, z_111, z_112, z_113, z_114, z_115, z_116, z_117, z_118, z_119, z_120, z_121, z_122, z_123, z_124, z_125, z_126, z_127, z_199, z_200, z_360, z_410, z_1000, z_1023, z_1024, z_1219, z_9999, z_10240, z_65537]
  rw [show 11 * d 99 8 + w = d 99 8 * 11 + w by omega]
theorem m_put (m d : Nat → Int → Int) (τ : qL) (hd : okd d) (h1 : d 99 8 ≤ 9) : f_X7_put (eC (pw m d)) τ = some (eC (pw m (bed d (d 99 8)))) := by
  unfold f_X7_put bed
  have a0 := okd_p hd
  have a1 := okd_h hd
  have a2 := okd_1 hd (d 99 8)
  have a3 := okd_2 hd (d 99 8)
  by_cases e : d 2 (d 99 8) = 0
  · by_cases e2 : 9 * d 1 (d 99 8) < d 99 9
    · simp (disch := omega) only [m_cooled, pw_0, up_0, pw_1, up_1, pw_2, up_2, pw_3, up_3, pw_4, up_4, pw_9, up_9, pw_10, up_10, pwi_5, upi_5, pwi_6, upi_6, pwi_7, upi_7, pwi_8, upi_8, pwi_11, upi_11, pw_12, up_12, pw_14, up_14, pw_15, up_15, pw_16, up_16, pw_18, up_18, pw_24, up_24, pw_25, up_25, pw_26, up_26, pw_29, up_29, pw_30, up_30, pw_31, up_31, pwi_13, upi_13, pwi_17, upi_17, pwi_19, upi_19, pwi_20, upi_20, pwi_21, upi_21, pwi_22, upi_22, pwi_23, upi_23, pwi_32, upi_32, pwi_33, upi_33, eC_5, eC_6, eC_13, eC_17, eC_19, eC_20, eC_21, eC_22, eC_23, eC_32, eC_33, eC_p5, eC_p6, eC_p13, eC_p17, eC_p19, eC_p20, eC_p21, eC_p22, eC_p23, eC_p32, eC_p33, s_T, s_F, s_bd, s_cl, s_rd, s_wr, s_ite, z_ite, z_neg, z_add, z_sub, z_mul, z_le, z_lt, z_eq, eC_at, eC_7, eC_8, eC_9, eC_10, eC_11, eC_p7, eC_p8, eC_p9, eC_p10, eC_p11, eC_up, ud_same, ud_ne, if_pos, if_neg, z_0, z_1, z_2, z_3, z_4, z_5, z_6, z_7, z_8, z_9, z_10, z_11, z_12, z_13, z_14, z_15, z_16, z_17, z_18, z_19, z_20, z_21, z_22, z_23, z_24, z_25, z_26, z_27, z_28, z_29, z_30, z_31, z_32, z_33, z_34, z_35, z_36, z_37, z_38, z_39, z_40, z_41, z_42, z_43, z_44, z_45, z_46, z_47, z_48, z_49, z_50, z_51, z_52, z_53, z_54, z_55, z_56, z_57, z_58, z_59, z_60, z_61, z_62, z_63, z_64, z_65, z_66, z_67, z_68, z_69, z_70, z_71, z_72, z_73, z_74, z_75, z_76, z_77, z_78, z_79, z_80, z_81, z_82, z_83, z_84, z_85, z_86, z_87, z_88, z_89, z_90, z_91, z_92, z_93, z_94, z_95, z_96, z_97, z_98, z_99, z_100, z_101, z_102, z_103, z_104, z_105, z_106, z_107, z_108, z_109, z_110, z_111, z_112, z_113, z_114, z_115, z_116, z_117, z_118, z_119, z_120, z_121, z_122, z_123, z_124, z_125, z_126, z_127, z_199, z_200, z_360, z_410, z_1000, z_1023, z_1024, z_1219, z_9999, z_10240, z_65537]
    · have e5 : ∀ v, ud (ud d 1 (d 99 8) v) 2 (d 99 8) 0 = ud d 1 (d 99 8) v := by
        intro v
        funext a b
        unfold ud
        split
        · next z => obtain ⟨rfl, rfl⟩ := z; rw [if_neg (by omega), e]
        · rfl
      rw [if_pos e, if_neg e2, e5]
      by_cases e3 : d 1 (d 99 8) + 1 < 9
      · simp (disch := omega) only [m_cooled, pw_0, up_0, pw_1, up_1, pw_2, up_2, pw_3, up_3, pw_4, up_4, pw_9, up_9, pw_10, up_10, pwi_5, upi_5, pwi_6, upi_6, pwi_7, upi_7, pwi_8, upi_8, pwi_11, upi_11, pw_12, up_12, pw_14, up_14, pw_15, up_15, pw_16, up_16, pw_18, up_18, pw_24, up_24, pw_25, up_25, pw_26, up_26, pw_29, up_29, pw_30, up_30, pw_31, up_31, pwi_13, upi_13, pwi_17, upi_17, pwi_19, upi_19, pwi_20, upi_20, pwi_21, upi_21, pwi_22, upi_22, pwi_23, upi_23, pwi_32, upi_32, pwi_33, upi_33, eC_5, eC_6, eC_13, eC_17, eC_19, eC_20, eC_21, eC_22, eC_23, eC_32, eC_33, eC_p5, eC_p6, eC_p13, eC_p17, eC_p19, eC_p20, eC_p21, eC_p22, eC_p23, eC_p32, eC_p33, s_T, s_F, s_bd, s_cl, s_rd, s_wr, s_ite, z_ite, z_neg, z_add, z_sub, z_mul, z_le, z_lt, z_eq, eC_at, eC_7, eC_8, eC_9, eC_10, eC_11, eC_p7, eC_p8, eC_p9, eC_p10, eC_p11, eC_up, ud_same, ud_ne, if_pos, if_neg, z_0, z_1, z_2, z_3, z_4, z_5, z_6, z_7, z_8, z_9, z_10, z_11, z_12, z_13, z_14, z_15, z_16, z_17, z_18, z_19, z_20, z_21, z_22, z_23, z_24, z_25, z_26, z_27, z_28, z_29, z_30, z_31, z_32, z_33, z_34, z_35, z_36, z_37, z_38, z_39, z_40, z_41, z_42, z_43, z_44, z_45, z_46, z_47, z_48, z_49, z_50, z_51, z_52, z_53, z_54, z_55, z_56, z_57, z_58, z_59, z_60, z_61, z_62, z_63, z_64, z_65, z_66, z_67, z_68, z_69, z_70, z_71, z_72, z_73, z_74, z_75, z_76, z_77, z_78, z_79, z_80, z_81, z_82, z_83, z_84, z_85, z_86, z_87, z_88, z_89, z_90, z_91, z_92, z_93, z_94, z_95, z_96, z_97, z_98, z_99, z_100, z_101, z_102, z_103, z_104, z_105, z_106, z_107, z_108, z_109, z_110, z_111, z_112, z_113, z_114, z_115, z_116, z_117, z_118, z_119, z_120, z_121, z_122, z_123, z_124, z_125, z_126, z_127, z_199, z_200, z_360, z_410, z_1000, z_1023, z_1024, z_1219, z_9999, z_10240, z_65537]
      · by_cases e4 : 9 ≤ d 1 (d 99 8)
        · simp (disch := omega) only [m_cooled, pw_0, up_0, pw_1, up_1, pw_2, up_2, pw_3, up_3, pw_4, up_4, pw_9, up_9, pw_10, up_10, pwi_5, upi_5, pwi_6, upi_6, pwi_7, upi_7, pwi_8, upi_8, pwi_11, upi_11, pw_12, up_12, pw_14, up_14, pw_15, up_15, pw_16, up_16, pw_18, up_18, pw_24, up_24, pw_25, up_25, pw_26, up_26, pw_29, up_29, pw_30, up_30, pw_31, up_31, pwi_13, upi_13, pwi_17, upi_17, pwi_19, upi_19, pwi_20, upi_20, pwi_21, upi_21, pwi_22, upi_22, pwi_23, upi_23, pwi_32, upi_32, pwi_33, upi_33, eC_5, eC_6, eC_13, eC_17, eC_19, eC_20, eC_21, eC_22, eC_23, eC_32, eC_33, eC_p5, eC_p6, eC_p13, eC_p17, eC_p19, eC_p20, eC_p21, eC_p22, eC_p23, eC_p32, eC_p33, s_T, s_F, s_bd, s_cl, s_rd, s_wr, s_ite, z_ite, z_neg, z_add, z_sub, z_mul, z_le, z_lt, z_eq, eC_at, eC_7, eC_8, eC_9, eC_10, eC_11, eC_p7, eC_p8, eC_p9, eC_p10, eC_p11, eC_up, ud_same, ud_ne, if_pos, if_neg, z_0, z_1, z_2, z_3, z_4, z_5, z_6, z_7, z_8, z_9, z_10, z_11, z_12, z_13, z_14, z_15, z_16, z_17, z_18, z_19, z_20, z_21, z_22, z_23, z_24, z_25, z_26, z_27, z_28, z_29, z_30, z_31, z_32, z_33, z_34, z_35, z_36, z_37, z_38, z_39, z_40, z_41, z_42, z_43, z_44, z_45, z_46, z_47, z_48, z_49, z_50, z_51, z_52, z_53, z_54, z_55, z_56, z_57, z_58, z_59, z_60, z_61, z_62, z_63, z_64, z_65, z_66, z_67, z_68, z_69, z_70, z_71, z_72, z_73, z_74, z_75, z_76, z_77, z_78, z_79, z_80, z_81, z_82, z_83, z_84, z_85, z_86, z_87, z_88, z_89, z_90, z_91, z_92, z_93, z_94, z_95, z_96, z_97, z_98, z_99, z_100, z_101, z_102, z_103, z_104, z_105, z_106, z_107, z_108, z_109, z_110, z_111, z_112, z_113, z_114, z_115, z_116, z_117, z_118, z_119, z_120, z_121, z_122, z_123, z_124, z_125, z_126, z_127, z_199, z_200, z_360, z_410, z_1000, z_1023, z_1024, z_1219, z_9999, z_10240, z_65537]
        · simp (disch := omega) only [m_cooled, pw_0, up_0, pw_1, up_1, pw_2, up_2, pw_3, up_3, pw_4, up_4, pw_9, up_9, pw_10, up_10, pwi_5, upi_5, pwi_6, upi_6, pwi_7, upi_7, pwi_8, upi_8, pwi_11, upi_11, pw_12, up_12, pw_14, up_14, pw_15, up_15, pw_16, up_16, pw_18, up_18, pw_24, up_24, pw_25, up_25, pw_26, up_26, pw_29, up_29, pw_30, up_30, pw_31, up_31, pwi_13, upi_13, pwi_17, upi_17, pwi_19, upi_19, pwi_20, upi_20, pwi_21, upi_21, pwi_22, upi_22, pwi_23, upi_23, pwi_32, upi_32, pwi_33, upi_33, eC_5, eC_6, eC_13, eC_17, eC_19, eC_20, eC_21, eC_22, eC_23, eC_32, eC_33, eC_p5, eC_p6, eC_p13, eC_p17, eC_p19, eC_p20, eC_p21, eC_p22, eC_p23, eC_p32, eC_p33, s_T, s_F, s_bd, s_cl, s_rd, s_wr, s_ite, z_ite, z_neg, z_add, z_sub, z_mul, z_le, z_lt, z_eq, eC_at, eC_7, eC_8, eC_9, eC_10, eC_11, eC_p7, eC_p8, eC_p9, eC_p10, eC_p11, eC_up, ud_same, ud_ne, if_pos, if_neg, z_0, z_1, z_2, z_3, z_4, z_5, z_6, z_7, z_8, z_9, z_10, z_11, z_12, z_13, z_14, z_15, z_16, z_17, z_18, z_19, z_20, z_21, z_22, z_23, z_24, z_25, z_26, z_27, z_28, z_29, z_30, z_31, z_32, z_33, z_34, z_35, z_36, z_37, z_38, z_39, z_40, z_41, z_42, z_43, z_44, z_45, z_46, z_47, z_48, z_49, z_50, z_51, z_52, z_53, z_54, z_55, z_56, z_57, z_58, z_59, z_60, z_61, z_62, z_63, z_64, z_65, z_66, z_67, z_68, z_69, z_70, z_71, z_72, z_73, z_74, z_75, z_76, z_77, z_78, z_79, z_80, z_81, z_82, z_83, z_84, z_85, z_86, z_87, z_88, z_89, z_90, z_91, z_92, z_93, z_94, z_95, z_96, z_97, z_98, z_99, z_100, z_101, z_102, z_103, z_104, z_105, z_106, z_107, z_108, z_109, z_110, z_111, z_112, z_113, z_114, z_115, z_116, z_117, z_118, z_119, z_120, z_121, z_122, z_123, z_124, z_125, z_126, z_127, z_199, z_200, z_360, z_410, z_1000, z_1023, z_1024, z_1219, z_9999, z_10240, z_65537]
          rw [show d 1 (d 99 8) + 1 = 9 by omega]
  · simp (disch := omega) only [m_cooled, pw_0, up_0, pw_1, up_1, pw_2, up_2, pw_3, up_3, pw_4, up_4, pw_9, up_9, pw_10, up_10, pwi_5, upi_5, pwi_6, upi_6, pwi_7, upi_7, pwi_8, upi_8, pwi_11, upi_11, pw_12, up_12, pw_14, up_14, pw_15, up_15, pw_16, up_16, pw_18, up_18, pw_24, up_24, pw_25, up_25, pw_26, up_26, pw_29, up_29, pw_30, up_30, pw_31, up_31, pwi_13, upi_13, pwi_17, upi_17, pwi_19, upi_19, pwi_20, upi_20, pwi_21, upi_21, pwi_22, upi_22, pwi_23, upi_23, pwi_32, upi_32, pwi_33, upi_33, eC_5, eC_6, eC_13, eC_17, eC_19, eC_20, eC_21, eC_22, eC_23, eC_32, eC_33, eC_p5, eC_p6, eC_p13, eC_p17, eC_p19, eC_p20, eC_p21, eC_p22, eC_p23, eC_p32, eC_p33, s_T, s_F, s_bd, s_cl, s_rd, s_wr, s_ite, z_ite, z_neg, z_add, z_sub, z_mul, z_le, z_lt, z_eq, eC_at, eC_7, eC_8, eC_9, eC_10, eC_11, eC_p7, eC_p8, eC_p9, eC_p10, eC_p11, eC_up, ud_same, ud_ne, if_pos, if_neg, z_0, z_1, z_2, z_3, z_4, z_5, z_6, z_7, z_8, z_9, z_10, z_11, z_12, z_13, z_14, z_15, z_16, z_17, z_18, z_19, z_20, z_21, z_22, z_23, z_24, z_25, z_26, z_27, z_28, z_29, z_30, z_31, z_32, z_33, z_34, z_35, z_36, z_37, z_38, z_39, z_40, z_41, z_42, z_43, z_44, z_45, z_46, z_47, z_48, z_49, z_50, z_51, z_52, z_53, z_54, z_55, z_56, z_57, z_58, z_59, z_60, z_61, z_62, z_63, z_64, z_65, z_66, z_67, z_68, z_69, z_70, z_71, z_72, z_73, z_74, z_75, z_76, z_77, z_78, z_79, z_80, z_81, z_82, z_83, z_84, z_85, z_86, z_87, z_88, z_89, z_90, z_91, z_92, z_93, z_94, z_95, z_96, z_97, z_98, z_99, z_100, z_101, z_102, z_103, z_104, z_105, z_106, z_107, z_108, z_109, z_110, z_111, z_112, z_113, z_114, z_115, z_116, z_117, z_118, z_119, z_120, z_121, z_122, z_123, z_124, z_125, z_126, z_127, z_199, z_200, z_360, z_410, z_1000, z_1023, z_1024, z_1219, z_9999, z_10240, z_65537]
theorem m_stir (m d : Nat → Int → Int) (τ : qL) (hd : okd d) : f_X7_stir (eC (pw m d)) τ = some (eC (pw m (ud (ud d 99 9 (if d 99 9 + 10 < 99 then d 99 9 + 10 else 99)) 99 10 (d 4 (d 99 10))))) := by
  unfold f_X7_stir
  have a1 := okd_h hd
  have a2 := okd_t hd
  by_cases e : d 99 9 + 10 < 99
  · simp (disch := omega) only [pw_0, up_0, pw_1, up_1, pw_2, up_2, pw_3, up_3, pw_4, up_4, pw_9, up_9, pw_10, up_10, pwi_5, upi_5, pwi_6, upi_6, pwi_7, upi_7, pwi_8, upi_8, pwi_11, upi_11, pw_12, up_12, pw_14, up_14, pw_15, up_15, pw_16, up_16, pw_18, up_18, pw_24, up_24, pw_25, up_25, pw_26, up_26, pw_29, up_29, pw_30, up_30, pw_31, up_31, pwi_13, upi_13, pwi_17, upi_17, pwi_19, upi_19, pwi_20, upi_20, pwi_21, upi_21, pwi_22, upi_22, pwi_23, upi_23, pwi_32, upi_32, pwi_33, upi_33, eC_5, eC_6, eC_13, eC_17, eC_19, eC_20, eC_21, eC_22, eC_23, eC_32, eC_33, eC_p5, eC_p6, eC_p13, eC_p17, eC_p19, eC_p20, eC_p21, eC_p22, eC_p23, eC_p32, eC_p33, s_T, s_F, s_bd, s_cl, s_rd, s_wr, s_ite, z_ite, z_neg, z_add, z_sub, z_mul, z_le, z_lt, z_eq, eC_at, eC_7, eC_8, eC_9, eC_10, eC_11, eC_p7, eC_p8, eC_p9, eC_p10, eC_p11, eC_up, ud_same, ud_ne, if_pos, if_neg, z_0, z_1, z_2, z_3, z_4, z_5, z_6, z_7, z_8, z_9, z_10, z_11, z_12, z_13, z_14, z_15, z_16, z_17, z_18, z_19, z_20, z_21, z_22, z_23, z_24, z_25, z_26, z_27, z_28, z_29, z_30, z_31, z_32, z_33, z_34, z_35, z_36, z_37, z_38, z_39, z_40, z_41, z_42, z_43, z_44, z_45, z_46, z_47, z_48, z_49, z_50, z_51, z_52, z_53, z_54, z_55, z_56, z_57, z_58, z_59, z_60, z_61, z_62, z_63, z_64, z_65, z_66, z_67, z_68, z_69, z_70, z_71, z_72, z_73, z_74, z_75, z_76, z_77, z_78, z_79, z_80, z_81, z_82, z_83, z_84, z_85, z_86, z_87, z_88, z_89, z_90, z_91, z_92, z_93, z_94, z_95, z_96, z_97, z_98, z_99, z_100, z_101, z_102, z_103, z_104, z_105, z_106, z_107, z_108, z_109, z_110, z_111, z_112, z_113, z_114, z_115, z_116, z_117, z_118, z_119, z_120, z_121, z_122, z_123, z_124, z_125, z_126, z_127, z_199, z_200, z_360, z_410, z_1000, z_1023, z_1024, z_1219, z_9999, z_10240, z_65537]
  · by_cases e2 : d 99 9 + 10 ≤ 99
    · simp (disch := omega) only [pw_0, up_0, pw_1, up_1, pw_2, up_2, pw_3, up_3, pw_4, up_4, pw_9, up_9, pw_10, up_10, pwi_5, upi_5, pwi_6, upi_6, pwi_7, upi_7, pwi_8, upi_8, pwi_11, upi_11, pw_12, up_12, pw_14, up_14, pw_15, up_15, pw_16, up_16, pw_18, up_18, pw_24, up_24, pw_25, up_25, pw_26, up_26, pw_29, up_29, pw_30, up_30, pw_31, up_31, pwi_13, upi_13, pwi_17, upi_17, pwi_19, upi_19, pwi_20, upi_20, pwi_21, upi_21, pwi_22, upi_22, pwi_23, upi_23, pwi_32, upi_32, pwi_33, upi_33, eC_5, eC_6, eC_13, eC_17, eC_19, eC_20, eC_21, eC_22, eC_23, eC_32, eC_33, eC_p5, eC_p6, eC_p13, eC_p17, eC_p19, eC_p20, eC_p21, eC_p22, eC_p23, eC_p32, eC_p33, s_T, s_F, s_bd, s_cl, s_rd, s_wr, s_ite, z_ite, z_neg, z_add, z_sub, z_mul, z_le, z_lt, z_eq, eC_at, eC_7, eC_8, eC_9, eC_10, eC_11, eC_p7, eC_p8, eC_p9, eC_p10, eC_p11, eC_up, ud_same, ud_ne, if_pos, if_neg, z_0, z_1, z_2, z_3, z_4, z_5, z_6, z_7, z_8, z_9, z_10, z_11, z_12, z_13, z_14, z_15, z_16, z_17, z_18, z_19, z_20, z_21, z_22, z_23, z_24, z_25, z_26, z_27, z_28, z_29, z_30, z_31, z_32, z_33, z_34, z_35, z_36, z_37, z_38, z_39, z_40, z_41, z_42, z_43, z_44, z_45, z_46, z_47, z_48, z_49, z_50, z_51, z_52, z_53, z_54, z_55, z_56, z_57, z_58, z_59, z_60, z_61, z_62, z_63, z_64, z_65, z_66, z_67, z_68, z_69, z_70, z_71, z_72, z_73, z_74, z_75, z_76, z_77, z_78, z_79, z_80, z_81, z_82, z_83, z_84, z_85, z_86, z_87, z_88, z_89, z_90, z_91, z_92, z_93, z_94, z_95, z_96, z_97, z_98, z_99, z_100, z_101, z_102, z_103, z_104, z_105, z_106, z_107, z_108, z_109, z_110, z_111, z_112, z_113, z_114, z_115, z_116, z_117, z_118, z_119, z_120, z_121, z_122, z_123, z_124, z_125, z_126, z_127, z_199, z_200, z_360, z_410, z_1000, z_1023, z_1024, z_1219, z_9999, z_10240, z_65537]
      rw [show d 99 9 + 10 = 99 by omega]
    · simp (disch := omega) only [pw_0, up_0, pw_1, up_1, pw_2, up_2, pw_3, up_3, pw_4, up_4, pw_9, up_9, pw_10, up_10, pwi_5, upi_5, pwi_6, upi_6, pwi_7, upi_7, pwi_8, upi_8, pwi_11, upi_11, pw_12, up_12, pw_14, up_14, pw_15, up_15, pw_16, up_16, pw_18, up_18, pw_24, up_24, pw_25, up_25, pw_26, up_26, pw_29, up_29, pw_30, up_30, pw_31, up_31, pwi_13, upi_13, pwi_17, upi_17, pwi_19, upi_19, pwi_20, upi_20, pwi_21, upi_21, pwi_22, upi_22, pwi_23, upi_23, pwi_32, upi_32, pwi_33, upi_33, eC_5, eC_6, eC_13, eC_17, eC_19, eC_20, eC_21, eC_22, eC_23, eC_32, eC_33, eC_p5, eC_p6, eC_p13, eC_p17, eC_p19, eC_p20, eC_p21, eC_p22, eC_p23, eC_p32, eC_p33, s_T, s_F, s_bd, s_cl, s_rd, s_wr, s_ite, z_ite, z_neg, z_add, z_sub, z_mul, z_le, z_lt, z_eq, eC_at, eC_7, eC_8, eC_9, eC_10, eC_11, eC_p7, eC_p8, eC_p9, eC_p10, eC_p11, eC_up, ud_same, ud_ne, if_pos, if_neg, z_0, z_1, z_2, z_3, z_4, z_5, z_6, z_7, z_8, z_9, z_10, z_11, z_12, z_13, z_14, z_15, z_16, z_17, z_18, z_19, z_20, z_21, z_22, z_23, z_24, z_25, z_26, z_27, z_28, z_29, z_30, z_31, z_32, z_33, z_34, z_35, z_36, z_37, z_38, z_39, z_40, z_41, z_42, z_43, z_44, z_45, z_46, z_47, z_48, z_49, z_50, z_51, z_52, z_53, z_54, z_55, z_56, z_57, z_58, z_59, z_60, z_61, z_62, z_63, z_64, z_65, z_66, z_67, z_68, z_69, z_70, z_71, z_72, z_73, z_74, z_75, z_76, z_77, z_78, z_79, z_80, z_81, z_82, z_83, z_84, z_85, z_86, z_87, z_88, z_89, z_90, z_91, z_92, z_93, z_94, z_95, z_96, z_97, z_98, z_99, z_100, z_101, z_102, z_103, z_104, z_105, z_106, z_107, z_108, z_109, z_110, z_111, z_112, z_113, z_114, z_115, z_116, z_117, z_118, z_119, z_120, z_121, z_122, z_123, z_124, z_125, z_126, z_127, z_199, z_200, z_360, z_410, z_1000, z_1023, z_1024, z_1219, z_9999, z_10240, z_65537]

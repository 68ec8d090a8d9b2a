/-! the reference: what its questions leave alone; its refusal -/
def frN (m m' : Nat → Int → Int) : Prop := ∀ k i, (k = 14 ∨ k = 15 ∨ k = 16 ∨ k = 18 ∨ k = 24 ∨ k = 25 ∨ k = 26 ∨ k = 29 ∨ (k = 99 ∧ (i = 17 ∨ (19 ≤ i ∧ i ≤ 23)))) ∨ m' k i = m k i
theorem frN_rf (m : Nat → Int → Int) : frN m m := fun _ _ => Or.inr rfl
theorem frN_tr {m m' m'' : Nat → Int → Int} (h : frN m m') (h' : frN m' m'') : frN m m'' := fun k i => by
  rcases h' k i with z | z
  · exact Or.inl z
  · rcases h k i with y | y
    · exact Or.inl y
    · exact Or.inr (z.trans y)
theorem frN_scr {m m' : Nat → Int → Int} (h : scr m m') : frN m m' := fun k i => by
  rcases h k i with z | z
  · exact Or.inl (by omega)
  · exact Or.inr z
theorem frN_mko {m m' : Nat → Int → Int} (h : mko m m') : frN m m' := fun k i => by
  rcases h k i with z | z
  · exact Or.inl (by omega)
  · exact Or.inr z
theorem frN_frm {t : Int} {m m' : Nat → Int → Int} (h : frm t m m') : frN m m' := fun k i => by
  by_cases c : k = 14 ∨ k = 15 ∨ k = 16 ∨ (k = 99 ∧ i = 17)
  · exact Or.inl (by omega)
  · exact Or.inr (h k i (by omega) (by omega))
theorem frN_ud {m : Nat → Int → Int} {k : Nat} {i v : Int} (h : k = 18 ∨ (k = 99 ∧ (i = 17 ∨ (19 ≤ i ∧ i ≤ 23)))) : frN m (ud m k i v) := fun a b => by
  by_cases e : a = k ∧ b = i
  · exact Or.inl (by omega)
  · exact Or.inr (ud_ne _ _ (by omega))
theorem frN_kNow (m d : Nat → Int → Int) : frN m (kNow m d) := by
  have h : frN m (kn 0 m d) := fun a b => by
    by_cases e : a = 18
    · exact Or.inl (by omega)
    · refine Or.inr ?_
      unfold kn
      rw [if_neg (by omega), if_neg (by omega), if_neg (by omega)]
  unfold kNow
  exact frN_tr (frN_tr (frN_tr (frN_tr h (frN_ud (Or.inl rfl))) (frN_ud (Or.inl rfl))) (frN_ud (Or.inl rfl))) (frN_ud (Or.inl rfl))
theorem frN_at {m m' : Nat → Int → Int} (h : frN m m') (k : Nat) (i : Int) (hk : ¬ (k = 14 ∨ k = 15 ∨ k = 16 ∨ k = 18 ∨ k = 24 ∨ k = 25 ∨ k = 26 ∨ k = 29 ∨ (k = 99 ∧ (i = 17 ∨ (19 ≤ i ∧ i ≤ 23))))) : m' k i = m k i := (h k i).resolve_left hk
theorem mpad_N {m m' e : Nat → Int → Int} (h : mpad m e) (hf : frN m m') : mpad m' e :=
  ⟨fun i => by rw [frN_at hf 12 i (by omega)]; exact h.1 i, by rw [frN_at hf 99 13 (by omega)]; exact h.2⟩
/-- marks at the start of nights -/
def mst (n : Nat → Int → Int) : Prop := n 99 0 = 0 ∧ n 99 1 = 0 ∧ n 99 2 = -6 ∧ n 99 3 = -6 ∧ n 99 4 = -6 ∧ n 99 5 = -6
/-- what a run is -/
theorem run_ok {e : Nat → Int → Int} (he : okp e) : ∀ (N : Nat) (a : Int) (n d : Nat → Int → Int), 0 ≤ a → okd d → fl e N a = -6 → n 99 2 = -6 → 0 ≤ n 99 0 ∧ n 99 0 ≤ a →
    okd (run e N a n d).2.2 ∧ oth d (run e N a n d).2.2 ∧ (((run e N a n d).1 = 0 ∧ (run e N a n d).2.1 99 2 = -6) ∨ ((run e N a n d).1 = -3 ∧ 0 ≤ (run e N a n d).2.1 99 2 ∧ (run e N a n d).2.1 99 2 ≤ 60)) := by
  intro N
  induction N with
  | zero => intro a n d _ hd _ h2 _; exact ⟨hd, oth_rf d, Or.inl ⟨rfl, h2⟩⟩
  | succ N ih =>
    intro a n d h0 hd hf h2 hn0
    unfold run
    by_cases c : e 99 1 ≤ a
    · rw [if_pos c]
      exact ⟨hd, oth_rf d, Or.inl ⟨rfl, h2⟩⟩
    · rw [if_neg c]
      obtain ⟨hk, hw1, hw0, hn⟩ := fl_act hf (by omega) h0
      by_cases cr : rsn d (kdc (sg e a)) (wht e a) = 0
      · rw [if_pos cr]
        have hd' := okd_act hd hk.1 hk.2 hw1 (fun z => (hw0 z).1) (v := 10 * (sg e (a + 2) - 48)) (fun z => by have := (hw0 z).2; omega) cr
        have ho := oth_act hd (v := 10 * (sg e (a + 2) - 48)) cr
        generalize actd d (kdc (sg e a)) (wht e a) (10 * (sg e (a + 2) - 48)) = d' at *
        have hn' : stN n d d' (kdc (sg e a)) 99 2 = -6 ∧ 0 ≤ stN n d d' (kdc (sg e a)) 99 0 ∧ stN n d d' (kdc (sg e a)) 99 0 ≤ a + 1 := by
          unfold stN
          try dsimp only
          split <;> split <;> simp (disch := omega) only [ud_same, ud_ne] <;> omega
        obtain ⟨q1, q2, q3⟩ := ih (if kdc (sg e a) = 0 then a + 3 else a + 1) (stN n d d' (kdc (sg e a))) d' (by split <;> omega) hd' hn hn'.1 ⟨hn'.2.1, by split <;> omega⟩
        exact ⟨q1, oth_tr ho q2, q3⟩
      · rw [if_neg cr]
        refine ⟨hd, oth_rf d, Or.inr ⟨rfl, ?_⟩⟩
        have := he.2
        try dsimp only
        simp (disch := omega) only [ud_same, ud_ne]
        omega
theorem run_acts {e : Nat → Int → Int} : ∀ (N : Nat) (a t : Int) (n d m : Nat → Int → Int), rcd e N a t m → n 99 0 = t → (run e N a n d).1 = 0 → (run e N a n d).2.1 99 0 = m 99 17 := by
  intro N
  induction N with
  | zero => intro a t n d m h hn _; unfold rcd at h; show n 99 0 = _; omega
  | succ N ih =>
    intro a t n d m h hn hr
    unfold run at hr ⊢
    unfold rcd at h
    by_cases c : e 99 1 ≤ a
    · rw [if_pos c] at hr h ⊢
      show n 99 0 = _
      omega
    · rw [if_neg c] at hr h ⊢
      by_cases cr : rsn d (kdc (sg e a)) (wht e a) = 0
      · rw [if_pos cr] at hr ⊢
        generalize actd d (kdc (sg e a)) (wht e a) (10 * (sg e (a + 2) - 48)) = d' at *
        refine ih _ (t + 1) _ d' m h.2.2.2 ?_ hr
        unfold stN
        try dsimp only
        split <;> split <;> simp (disch := omega) only [ud_same, ud_ne] <;> omega
      · rw [if_neg cr] at hr
        dsimp only at hr
        omega
theorem rcd_ge {e : Nat → Int → Int} : ∀ (N : Nat) (a t : Int) (m : Nat → Int → Int), rcd e N a t m → t ≤ a → t ≤ e 99 1 → m 99 17 ≤ e 99 1 := by
  intro N
  induction N with
  | zero => intro a t m h _ h2; unfold rcd at h; omega
  | succ N ih =>
    intro a t m h h1 h2
    unfold rcd at h
    by_cases c : e 99 1 ≤ a
    · rw [if_pos c] at h; omega
    · rw [if_neg c] at h
      exact ih _ _ _ h.2.2.2 (by split <;> omega) (by omega)
/-- nights: the class's answer, marks, draft -/
def pss (e n d : Nat → Int → Int) : Int × (Nat → Int → Int) × (Nat → Int → Int) := if fl e 20000 0 = -6 then run e 20000 0 n d else (-5, n, d)
theorem m_refusal {e : Nat → Int → Int} (he : okp e) {m d n : Nat → Int → Int} (τ : qL) (hd : okd d) (hp : mpad m e) (hn : mst n) :
    ∃ m', f_X7_refusal (eC (pw m d)) τ = some (zI (if (pss e n d).1 = 0 then -6 else (pss e n d).1), eC (pw m' (pss e n d).2.2)) ∧ frN m m' ∧ (∀ i, m' 18 i = kNow m d 18 i) ∧ (¬ (pss e n d).1 = -5 → mrks m' (pss e n d).2.1) ∧ ((pss e n d).1 = 0 → m' 99 17 = (pss e n d).2.1 99 0) := by
  have hlen := he.2
  have hp1 := mpad_N hp (frN_kNow m d)
  have hfa := m_fault he (kNow m d) d τ hp1
  obtain ⟨p1, p2⟩ := prM_fl he 20000 0 (ud (kNow m d) 99 17 0) 20000 (by omega) (by omega) (by omega)
  have p3 := prM_frm e 20000 0 0 (ud (kNow m d) 99 17 0) (by omega) (by omega)
  have hb := fl_b he 20000 0 (by omega)
  rw [ud_same] at p2 p3
  unfold f_X7_refusal pss
  rw [m_keepNow, s_cl, hfa, s_cl, p1]
  generalize hM : (prM e 20000 0 0 (ud (kNow m d) 99 17 0)).2 = m1 at *
  have f1 : frN m m1 := frN_tr (frN_kNow m d) (frN_tr (frN_ud (Or.inr ⟨rfl, Or.inl rfl⟩)) (frN_frm p3.1))
  have e18 : ∀ i, m1 18 i = kNow m d 18 i := fun i => by rw [p3.1 18 i (by omega) (by omega), ud_ne _ _ (by omega)]
  by_cases c : fl e 20000 0 = -6
  · rw [if_pos c, c]
    have hrc := p2 c
    dsimp only
    rw [if_pos (by decide)]
    -- the marks are laid
    have e1 : q_pt (q_pt (q_pt (q_pt (q_pt (eC (pw m1 d)) 19 (-6 : Int32)) 20 (-6 : Int32)) 21 (0 : Int32)) 22 (-6 : Int32)) 23 (-6 : Int32) = eC (pw (ud (ud (ud (ud (ud m1 99 19 (-6)) 99 20 (-6)) 99 21 0) 99 22 (-6)) 99 23 (-6)) d) := by simp (disch := omega) only [pw_0, up_0, pw_1, up_1, pw_2, up_2, pw_3, up_3, pw_4, up_4, pw_9, up_9, pw_10, up_10, pwi_5, upi_5, pwi_6, upi_6, pwi_7, upi_7, pwi_8, upi_8, pwi_11, upi_11, pw_12, up_12, pw_14, up_14, pw_15, up_15, pw_16, up_16, pw_18, up_18, pw_24, up_24, pw_25, up_25, pw_26, up_26, pw_29, up_29, pw_30, up_30, pw_31, up_31, pwi_13, upi_13, pwi_17, upi_17, pwi_19, upi_19, pwi_20, upi_20, pwi_21, upi_21, pwi_22, upi_22, pwi_23, upi_23, pwi_32, upi_32, pwi_33, upi_33, eC_5, eC_6, eC_13, eC_17, eC_19, eC_20, eC_21, eC_22, eC_23, eC_32, eC_33, eC_p5, eC_p6, eC_p13, eC_p17, eC_p19, eC_p20, eC_p21, eC_p22, eC_p23, eC_p32, eC_p33, s_T, s_F, s_bd, s_cl, s_rd, s_wr, s_ite, z_ite, z_neg, z_add, z_sub, z_mul, z_le, z_lt, z_eq, eC_at, eC_7, eC_8, eC_9, eC_10, eC_11, eC_p7, eC_p8, eC_p9, eC_p10, eC_p11, eC_up, ud_same, ud_ne, if_pos, if_neg, z_0, z_1, z_2, z_3, z_4, z_5, z_6, z_7, z_8, z_9, z_10, z_11, z_12, z_13, z_14, z_15, z_16, z_17, z_18, z_19, z_20, z_21, z_22, z_23, z_24, z_25, z_26, z_27, z_28, z_29, z_30, z_31, z_32, z_33, z_34, z_35, z_36, z_37, z_38, z_39, z_40, z_41, z_42, z_43, z_44, z_45, z_46, z_47, z_48, z_49, z_50, z_51, z_52, z_53, z_54, z_55, z_56, z_57, z_58, z_59, z_60, z_61, z_62, z_63, z_64, z_65, z_66, z_67, z_68, z_69, z_70, z_71, z_72, z_73, z_74, z_75, z_76, z_77, z_78, z_79, z_80, z_81, z_82, z_83, z_84, z_85, z_86, z_87, z_88, z_89, z_90, z_91, z_92, z_93, z_94, z_95, z_96, z_97, z_98, z_99, z_100, z_101, z_102, z_103, z_104, z_105, z_106, z_107, z_108, z_109, z_110, z_111, z_112, z_113, z_114, z_115, z_116, z_117, z_118, z_119, z_120, z_121, z_122, z_123, z_124, z_125, z_126, z_127, z_199, z_200, z_360, z_410, z_1000, z_1023, z_1024, z_1219, z_9999, z_10240, z_65537]
    have k2 : mko m1 (ud (ud (ud (ud (ud m1 99 19 (-6)) 99 20 (-6)) 99 21 0) 99 22 (-6)) 99 23 (-6)) := mko_tr (mko_tr (mko_tr (mko_tr (mko_ud (by decide)) (mko_ud (by decide))) (mko_ud (by decide))) (mko_ud (by decide))) (mko_ud (by decide))
    have k3 : mrks (ud (ud (ud (ud (ud m1 99 19 (-6)) 99 20 (-6)) 99 21 0) 99 22 (-6)) 99 23 (-6)) n := by
      obtain ⟨n0, n1, n2, n3, n4, n5⟩ := hn
      unfold mrks
      simp (disch := omega) only [ud_same, ud_ne]
      omega
    generalize ud (ud (ud (ud (ud m1 99 19 (-6)) 99 20 (-6)) 99 21 0) 99 22 (-6)) 99 23 (-6) = m2 at *
    have hrc2 := rcd_frm (e := e) 20000 0 0 m1 m2 (fun i => mko_at k2 _ _ (by omega)) (fun i => mko_at k2 _ _ (by omega)) (fun i => mko_at k2 _ _ (by omega)) (mko_at k2 _ _ (by omega)) hrc
    have h17 : m2 99 17 ≤ 60 := by
      have := rcd_ge 20000 0 0 m2 hrc2 (by omega) (by omega)
      omega
    obtain ⟨n0, n1, n2, n3, n4, n5⟩ := id hn
    obtain ⟨m', g1, g2, g3⟩ := m_goNights he τ 20000 0 0 n d m2 ⟨by omega, by omega, by omega⟩ hd c hrc2 ⟨n0, by omega, by omega⟩ ⟨by omega, by omega, by omega⟩ (Or.inl n4) ⟨n2, n3⟩ k3 h17
    have hgo : f_X7_goNights (eC (pw m1 d)) τ = some (eC (pw m' (run e 20000 0 n d).2.2)) := by
      unfold f_X7_goNights
      simp only [s_bd]
      rw [e1, z_0]
      exact g1
    have hru := run_ok he 20000 0 n d (by omega) hd c n2 ⟨by omega, by omega⟩
    rw [hgo, s_cl]
    have e19 : m' 99 19 = (run e 20000 0 n d).2.1 99 2 := g2.1
    refine ⟨m', ?_, frN_tr f1 (frN_tr (frN_mko k2) (frN_mko g3)), fun i => ?_, fun _ => g2, fun hr => ?_⟩
    · rw [eC_19, pwi_19, e19]
      rcases hru.2.2 with ⟨r1, r2⟩ | ⟨r1, r2⟩
      · rw [r2, if_pos (by decide), if_pos r1]; rfl
      · have hh : ¬ zI ((run e 20000 0 n d).2.1 99 2) < 0 := by
          rw [z_0, z_lt (by omega) (by omega) (by omega) (by omega)]; omega
        rw [if_neg hh, r1]; rfl
    · rw [mko_at g3 _ _ (by omega), mko_at k2 _ _ (by omega)]; exact e18 i
    · rw [mko_at g3 _ _ (by omega)]
      exact (run_acts 20000 0 0 n d m2 hrc2 n0 hr).symm
  · rw [if_neg c]
    refine ⟨m1, ?_, f1, e18, fun h => absurd rfl h, fun h => by dsimp only at h; omega⟩
    dsimp only
    rw [if_neg (by rw [z_0, z_lt (by omega) (by omega) (by omega) (by omega)]; omega), if_neg (by decide)]
    rfl

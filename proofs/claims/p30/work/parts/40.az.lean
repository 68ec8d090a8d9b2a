/-! what was said, asked, seen: the class alone -/
section SIGHTS
variable {d : Nat → Int → Int} {L : Nat} {xs : Nat → Int32} {σC σD σP σN σW σY σK σH σE : qS} {ℓK κ : qL} {step tens bel reached w t : Int}
theorem p_faded (hd : okd d) {t n : Int} (t0 : 0 ≤ t) (t1 : t ≤ 9) (n0 : 0 ≤ n) (n1 : n ≤ 99) : f_X6_faded (eC d) (zI t) (zI n) = some (zI (itr d n.toNat t)) := by
  have e3 : (-2 : Int32) = zI (-2) := by decide
  unfold f_X6_faded
  rw [x_tal t0 t1, s_cl, e3, z_99, x_win (by omega) (by omega) (by omega) (by omega), s_cl, z_0, if_neg n10, if_neg n10]
  have q : ¬ zI n < zI 0 := by rw [z_lt (by omega) (by omega) (by omega) (by omega)]; omega
  rw [if_neg q, x_behindStirs hd t0 t1 n0 (by omega), s_cl]
theorem p_fitsN (hd : okd d) (σ : qS) : ∃ s, f_X6_fits σ (eC d) (-1) = some (zI (cn d 100), s) := by
  obtain ⟨s, e1, hG⟩ := ok_get (y_gather hd σ)
  have es : f_X4_size s = some (s 99 3) := rfl
  unfold f_X6_fits
  rw [e1, s_cl, if_pos rfl, es, s_cl, hG.2.1]
  exact ⟨s, rfl⟩
theorem p_fits (hd : okd d) (σ : qS) {w : Nat} (hw : w < 100) (hf : fitB d w = true) : ∃ s, f_X6_fits σ (eC d) (zI (cn d w)) = some (zI w, s) := by
  obtain ⟨s, e1, hG⟩ := ok_get (y_gather hd σ)
  have h1 := cn_le (d := d) w
  have em : (-1 : Int32) = zI (-1) := by decide
  have q : ¬ zI (cn d w) = zI (-1) := by rw [z_eq (by omega) (by omega) (by omega) (by omega)]; omega
  unfold f_X6_fits
  rw [e1, s_cl, em, if_neg q, y_pick hG hw hf, s_cl]
  exact ⟨s, rfl⟩
theorem p_ask0 (hd : okd d) (σ : qS) (hc : ¬ cn d 100 = 0) : ∃ s, f_X6_ask σ (eC d) (zI 0) = some (zI (ak d 40).1, s) := by
  have key : oK (fun r => r.1 = zI (ak d 40).1) (f_X6_ask σ (eC d) (zI 0)) := by
    unfold f_X6_ask
    rw [z_0, z_1, x_win (by omega) (by omega) (by omega) (by omega), s_cl, if_neg n10]
    refine ok_cl (y_gather hd σ) (fun s hG => ok_cl (y_bedToAsk hd hG) (fun y hy => ?_))
    rw [if_pos rfl, hy.1, if_neg hc]
    exact ok_r rfl
  obtain ⟨⟨r, s⟩, e1, h1⟩ := key
  exact ⟨s, by rw [e1]; exact congrArg some (Prod.ext h1 rfl)⟩
theorem p_ask1 (hd : okd d) (σ : qS) (hc : ¬ cn d 100 = 0) : ∃ s, f_X6_ask σ (eC d) (zI 1) = some (zI (ak d 40).2, s) := by
  have hk := ak_b (d := d) 40 (by omega)
  have m2 := mlm_b (d := d) (ak d 40).1 100
  have key : oK (fun r => r.1 = zI (ak d 40).2) (f_X6_ask σ (eC d) (zI 1)) := by
    have e6 : (-6 : Int32) = zI (-6) := by decide
    unfold f_X6_ask
    rw [z_0, z_1, x_win (by omega) (by omega) (by omega) (by omega), s_cl, if_neg n10]
    refine ok_cl (y_gather hd σ) (fun s hG => ok_cl (y_bedToAsk hd hG) (fun y hy => ?_))
    rw [if_neg n10, hy.1, if_neg hc, e6]
    have q : ¬ zI (ak d 40).1 = zI (-6) := by rw [z_eq (by omega) (by omega) (by omega) (by omega)]; omega
    rw [if_neg q]
    exact ok_cl (y_mostLeft hd hy.2 hk.1 (by omega)) (fun z hz => ok_r (by dsimp only; rw [hz.1, hk.2.2]))
  obtain ⟨⟨r, s⟩, e1, h1⟩ := key
  exact ⟨s, by rw [e1]; exact congrArg some (Prod.ext h1 rfl)⟩
theorem ak_least : ∀ b : Nat, ∀ c : Nat, c ≤ b → (ak d b).2 ≤ mlm d c 100 := by
  intro b
  induction b with
  | zero => intro c hc; obtain rfl : c = 0 := by omega
            exact Int.le_refl _
  | succ b ih =>
    intro c hc
    unfold ak
    by_cases z : mlm d (b + 1 : Nat) 100 < (ak d b).2
    · rw [if_pos z]
      by_cases e : c = b + 1
      · subst e; exact Int.le_refl _
      · have := ih c (by omega)
        show mlm d (b + 1 : Nat) 100 ≤ _
        omega
    · rw [if_neg z]
      by_cases e : c = b + 1
      · subst e; omega
      · exact ih c (by omega)
/-- one more sight -/
def see (d : Nat → Int → Int) (a b : Int) : Nat → Int → Int := ud (ud (ud d 5 (d 99 7) a) 6 (d 99 7) b) 99 7 (d 99 7 + 1)
theorem p_seen (hd : okd d) {a b : Int} (a0 : 0 ≤ a) (a1 : a ≤ 40) (b0 : 0 ≤ b) (b1 : b ≤ 9) (hs : d 99 7 < 8) : f_X6_seen (eC d) (zI a) (zI b) = some (zI (d 99 7 + 1), eC (see d a b)) ∧ okd (see d a b) := by
  have h7 := okd_s hd
  refine ⟨?_, okd_ud (okd_ud (okd_ud hd (show (0 : Int) ≤ a by omega) (show a ≤ (40 : Int) by omega)) (show (0 : Int) ≤ b by omega) (show b ≤ (9 : Int) by omega)) (show (0 : Int) ≤ d 99 7 + 1 by omega) (show d 99 7 + 1 ≤ (8 : Int) by omega)⟩
  have c1 : 0 ≤ b ∧ b ≤ 9 := ⟨b0, b1⟩
  have c2 : 0 ≤ a ∧ a ≤ 40 := ⟨a0, a1⟩
  unfold f_X6_seen f_X1_addSight f_X1_sightCount see
  simp (disch := omega) only [x_isPlace, x_isHouse, x_isTale, x_within, x_longBetween, x_layRoad, x_doubtOf, x_furnish, x_beliefOf, x_convince, x_fadesInto, x_letFade, s_T, s_F, s_bd, s_cl, s_rd, s_wr, s_ite, z_ite, z_neg, z_add, z_sub, z_mul, z_le, z_lt, z_eq, eC_at, eC_7, eC_8, eC_9, eC_10, eC_11, eC_p7, eC_p8, eC_p9, eC_p10, eC_p11, eC_up, ud_same, ud_ne, if_pos, if_neg, z_0, z_1, z_2, z_3, z_4, z_5, z_6, z_7, z_8, z_9, z_10, z_11, z_12, z_13, z_14, z_15, z_16, z_17, z_18, z_19, z_20, z_21, z_22, z_23, z_24, z_25, z_26, z_27, z_28, z_29, z_30, z_31, z_32, z_33, z_34, z_35, z_36, z_37, z_38, z_39, z_40, z_41, z_42, z_43, z_44, z_45, z_46, z_47, z_48, z_49, z_50, z_51, z_52, z_53, z_54, z_55, z_56, z_57, z_58, z_59, z_60, z_61, z_62, z_63, z_64, z_65, z_66, z_67, z_68, z_69, z_70, z_71, z_72, z_73, z_74, z_75, z_76, z_77, z_78, z_79, z_80, z_81, z_82, z_83, z_84, z_85, z_86, z_87, z_88, z_89, z_90, z_91, z_92, z_93, z_94, z_95, z_96, z_97, z_98, z_99, z_100, z_101, z_102, z_103, z_104, z_105, z_106, z_107, z_108, z_109, z_110, z_111, z_112, z_113, z_114, z_115, z_116, z_117, z_118, z_119, z_120, z_121, z_122, z_123, z_124, z_125, z_126, z_127, z_199, z_200, z_360, z_410, z_1000, z_1023, z_1024, z_1219, z_9999, z_10240, z_65537]
theorem see_itr (a b : Int) : ∀ (n : Nat) (t : Int), itr (see d a b) n t = itr d n t := by
  intro n
  induction n with
  | zero => intro t; rfl
  | succ n ih =>
    intro t
    show see d a b 4 _ = d 4 _
    rw [ih]
    unfold see
    rw [ud_ne _ _ (Or.inl (by decide)), ud_ne _ _ (Or.inl (by decide)), ud_ne _ _ (Or.inl (by decide))]
theorem see_7 (a b : Int) : see d a b 99 7 = d 99 7 + 1 := ud_same _ _ _ _
theorem see_5 (a b i : Int) : see d a b 5 i = if i = d 99 7 then a else d 5 i := by
  unfold see
  rw [ud_ne _ _ (Or.inl (by decide)), ud_ne _ _ (Or.inl (by decide))]
  unfold ud
  by_cases c : i = d 99 7
  · rw [if_pos ⟨rfl, c⟩, if_pos c]
  · rw [if_neg (fun z => c z.2), if_neg c]
theorem see_6 (a b i : Int) : see d a b 6 i = if i = d 99 7 then b else d 6 i := by
  unfold see
  rw [ud_ne _ _ (Or.inl (by decide))]
  unfold ud
  by_cases c : i = d 99 7
  · rw [if_pos ⟨rfl, c⟩, if_pos c]
  · rw [if_neg (fun z => c z.2), if_neg c, if_neg (fun z => absurd z.1 (by decide))]
theorem see_fit (hd : okd d) (a b : Int) (w : Nat) : fitB (see d a b) w = true ↔ fitB d w = true ∧ bdT d a w = b := by
  have h7 := okd_s hd
  rw [fitB_t, fitB_t]
  unfold fitP bdT
  constructor
  · rintro ⟨h1, h2, h3⟩
    refine ⟨⟨h1, h2, fun i i0 i1 => ?_⟩, ?_⟩
    · have := h3 i i0 (by rw [see_7]; omega)
      rw [see_itr, see_5, see_6, if_neg (by omega), if_neg (by omega)] at this
      exact this
    · have := h3 (d 99 7) h7.1 (by rw [see_7]; omega)
      rw [see_itr, see_5, see_6, if_pos rfl, if_pos rfl] at this
      exact this
  · rintro ⟨⟨h1, h2, h3⟩, h4⟩
    refine ⟨h1, h2, fun i i0 i1 => ?_⟩
    rw [see_7] at i1
    rw [see_itr, see_5, see_6]
    by_cases c : i = d 99 7
    · rw [if_pos c, if_pos c]; exact h4
    · rw [if_neg c, if_neg c]; exact h3 i i0 (by omega)
theorem see_cn (hd : okd d) (a b : Int) : ∀ n : Nat, (cn (see d a b) n : Int) = mlc d a n b := by
  intro n
  induction n with
  | zero => rfl
  | succ n ih =>
    by_cases c : fitB d n = true ∧ b = bdT d a n
    · rw [cn_fit ((see_fit hd a b n).mpr ⟨c.1, c.2.symm⟩)]
      unfold mlc
      rw [if_pos c, ← ih]; omega
    · rw [cn_not (fun z => c ⟨((see_fit hd a b n).mp z).1, ((see_fit hd a b n).mp z).2.symm⟩)]
      unfold mlc
      rw [if_neg c, ← ih]
theorem mlc_le (a : Int) : ∀ (n : Nat) (x : Int), mlc d a n x ≤ mlm d a n := by
  intro n
  induction n with
  | zero => intro x; exact Int.le_refl _
  | succ n ih =>
    intro x
    have h1 := ih x
    unfold mlc mlm
    by_cases c : fitB d n = true
    · rw [if_pos c]
      by_cases c2 : x = bdT d a n
      · rw [if_pos ⟨c, c2⟩, ← c2]; split <;> omega
      · rw [if_neg (fun z => c2 z.2)]; split <;> omega
    · rw [if_neg c, if_neg (fun z => c z.1)]; exact h1
theorem mlm_some (a : Int) : ∀ n : Nat, ∃ x, mlm d a n ≤ mlc d a n x := by
  intro n
  induction n with
  | zero => exact ⟨0, Int.le_refl _⟩
  | succ n ih =>
    obtain ⟨x, hx⟩ := ih
    by_cases c : fitB d n = true
    · by_cases c3 : mlm d a n < mlc d a n (bdT d a n) + 1
      · refine ⟨bdT d a n, ?_⟩
        rw [mlm_fit a c, mlc_fit a c, if_pos c3, if_pos rfl]; omega
      · refine ⟨x, ?_⟩
        rw [mlm_fit a c, mlc_fit a c, if_neg c3]; split <;> omega
    · refine ⟨x, ?_⟩
      unfold mlc mlm
      rw [if_neg c, if_neg (fun z => c z.1)]; exact hx
theorem mlc_all (a x : Int) : ∀ n : Nat, mlc d a n x ≤ cn d n ∧ (mlc d a n x = cn d n → ∀ w : Nat, w < n → fitB d w = true → bdT d a w = x) := by
  intro n
  induction n with
  | zero => exact ⟨Int.le_refl _, fun _ w h => absurd h (Nat.not_lt_zero w)⟩
  | succ n ih =>
    obtain ⟨h1, h2⟩ := ih
    by_cases c : fitB d n = true
    · rw [mlc_fit a c, cn_fit c]
      by_cases c2 : x = bdT d a n
      · rw [if_pos c2]
        refine ⟨by omega, fun z w hw hf => ?_⟩
        by_cases e : w = n
        · rw [e]; exact c2.symm
        · exact h2 (by omega) w (by omega) hf
      · rw [if_neg c2]
        exact ⟨by omega, fun z => by omega⟩
    · have e1 : mlc d a (n + 1) x = mlc d a n x := by unfold mlc; rw [if_neg (fun z => c z.1)]; cases n <;> rfl
      rw [e1, cn_not c]
      refine ⟨h1, fun z w hw hf => ?_⟩
      by_cases e : w = n
      · rw [e] at hf; exact absurd hf c
      · exact h2 z w (by omega) hf
theorem all_alike {a : Int} (h : (cn d 100 : Int) ≤ mlm d a 100) {v w : Nat} (hv : v < 100) (hw : w < 100) (fv : fitB d v = true) (fw : fitB d w = true) : bdT d a v = bdT d a w := by
  obtain ⟨x, hx⟩ := mlm_some (d := d) a 100
  obtain ⟨h1, h2⟩ := mlc_all (d := d) a x 100
  rw [h2 (by omega) v hv fv, h2 (by omega) w hw fw]
end SIGHTS


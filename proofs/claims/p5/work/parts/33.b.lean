/-! fading, of the class -/
theorem w_isTale (x : Int32) : oK (fun r => r = 0 ∨ (r = 1 ∧ ∃ a, 0 ≤ a ∧ a ≤ 9 ∧ x = zI a)) (f_X6_isTale x) := by
  obtain ⟨a, a0, a1, rfl⟩ := z_of x
  rw [x_isTale a0 a1]
  refine ok_r ?_
  by_cases c : 0 ≤ a ∧ a ≤ 9
  · rw [if_pos c]; exact Or.inr ⟨rfl, a, c.1, c.2, rfl⟩
  · rw [if_neg c]; exact Or.inl rfl
theorem w_fadesInto (d : Nat → Int → Int) (x : Int32) : oK tt (f_X1_fadesInto (eC d) x) := by
  unfold f_X1_fadesInto
  refine ok_cl (w_isTale x) (fun r hr => ok_if (fun _ => ok_r trivial) (fun c => ?_))
  rcases hr with e | ⟨_, a, h0, h1, rfl⟩
  · exact absurd e c
  · exact ok_rd h0 (by omega) (by omega) (fun _ => ok_r trivial)
theorem w_behindStirs (d : Nat → Int → Int) (x : Int32) {n : Int} (n0 : 0 ≤ n) (n1 : n ≤ 1000) : oK tt (f_X1_behindStirs (eC d) x (zI n)) := by
  unfold f_X1_behindStirs
  rw [z_0]
  refine ok_for (τ := Int32) n tt (fun again i t h0 h1 _ ih => ?_) 20000 0 _ (by omega) (by omega) trivial (by omega)
  unfold b_X1_behindStirs_5
  dsimp only
  rw [z_s1]
  refine ok_if (fun _ => ok_r trivial) (fun c => ?_)
  have hi := t_nle h0 (by omega) (by omega) (by omega) c
  exact ok_cl (w_fadesInto d _) (fun _ _ => ih hi _ trivial)
theorem w_stirsToRing (d : Nat → Int → Int) (x : Int32) : oK (fun r => ∃ n, 0 ≤ n ∧ n ≤ 11 ∧ r = zI n) (f_X1_stirsToRing (eC d) x) := by
  unfold f_X1_stirsToRing
  rw [z_0]
  refine ok_for (τ := Int32 × Int32) 11 tt (fun again i t h0 h1 _ ih => ?_) 20000 0 _ (by omega) (by omega) trivial (by omega)
  unfold b_X1_stirsToRing_7
  dsimp only
  rw [z_s1, z_10]
  refine ok_if (fun _ => ok_r ⟨10, by omega, by omega, z_10⟩) (fun c => ?_)
  have hi : i < 11 := by
    rw [z_lt (by omega) (by omega) (by omega) (by omega)] at c; omega
  refine ok_cl (w_isTale _) (fun r _ => ok_if (fun _ => ok_r ⟨i, h0, h1, rfl⟩) (fun _ => ok_cl (w_isInk _ _) (fun _ _ => ok_if (fun _ => ok_bd (ok_cl (w_fadesInto d _) (fun _ _ => ih hi _ trivial))) (fun _ => ok_r ⟨i, h0, h1, rfl⟩))))
theorem w_stirsOfRing (d : Nat → Int → Int) (x : Int32) : oK tt (f_X1_stirsOfRing (eC d) x) := by
  unfold f_X1_stirsOfRing
  refine ok_cl (w_stirsToRing d x) (fun r hr => ?_)
  obtain ⟨n, n0, n1, rfl⟩ := hr
  refine ok_cl (w_behindStirs d x n0 (by omega)) (fun r3 _ => ?_)
  rw [z_0]
  refine ok_for1 n (fun again i h0 h1 ih => ?_) 20000 0 (by omega) (by omega) (by omega)
  unfold b_X1_stirsOfRing_16
  rw [z_s1]
  refine ok_if (fun _ => ok_r trivial) (fun c => ?_)
  have hi := t_nle h0 (by omega) (by omega) (by omega) c
  exact ok_cl (w_behindStirs d x h0 (by omega)) (fun _ _ => ok_if (fun _ => ok_r trivial) (fun _ => ih hi))
/-! what was said, of the class -/
theorem w_within (x a b : Int32) : oK (fun r => r = 0 ∨ (r = 1 ∧ a.toInt ≤ x.toInt ∧ x.toInt ≤ b.toInt)) (f_X6_within x a b) := by
  unfold f_X6_within
  refine ok_if (fun _ => ok_r (Or.inl rfl)) (fun c1 => ok_if (fun _ => ok_r (Or.inl rfl)) (fun c2 => ok_r (Or.inr ⟨rfl, ?_, ?_⟩)))
  · rw [Int32.lt_iff_toInt_lt] at c1; omega
  · rw [Int32.lt_iff_toInt_lt] at c2; omega
theorem w_withinz (x : Int32) {a b : Int} (h1 : 0 ≤ a) (h2 : b < 2147483648) (h3 : a ≤ b) : oK (fun r => r = 0 ∨ (r = 1 ∧ ∃ i, a ≤ i ∧ i ≤ b ∧ x = zI i)) (f_X6_within x (zI a) (zI b)) := by
  obtain ⟨y, y0, y1, rfl⟩ := z_of x
  by_cases hb : -2147483648 ≤ b
  · by_cases ha : a < 2147483648
    · rw [x_within y0 y1 (by omega) ha hb h2]
      refine ok_r ?_
      by_cases c : a ≤ y ∧ y ≤ b
      · rw [if_pos c]; exact Or.inr ⟨rfl, y, c.1, c.2, rfl⟩
      · rw [if_neg c]; exact Or.inl rfl
    · omega
  · omega
theorem w_taleInBed (σ : qS) (a b c : Int32) : oK tt (f_X4_taleInBed σ a b c) := by
  unfold f_X4_taleInBed
  refine ok_cl (w_isTale a) (fun r hr => ok_if (fun _ => ok_r trivial) (fun c1 => ok_if (fun _ => ok_r trivial) (fun c2 => ?_)))
  rcases hr with e | ⟨_, a, a0, a1, rfl⟩
  · exact absurd e c1
  · rw [z_0, z_40]
    refine ok_cl (w_withinz c (by omega) (by omega) (by omega)) (fun r hr => ok_if (fun _ => ok_r trivial) (fun c3 => ?_))
    rcases hr with e | ⟨_, c, c0, c1, rfl⟩
    · exact absurd e c3
    · obtain ⟨b, b0, b1, rfl⟩ := z_of b
      have hb : 0 < b := by
        rw [z_0, z_le (by omega) (by omega) (by omega) (by omega)] at c2; omega
      have q0 : 0 ≤ c / b := Int.ediv_nonneg c0 (by omega)
      have q1 : c / b ≤ c := Int.ediv_le_self _ c0
      rw [s_nz (by omega) (by omega) (by omega), z_41, z_mul, z_div c0 (by omega) hb b1, z_add]
      exact ok_rd (by omega) (by omega) (by omega) (fun _ => ok_r trivial)
theorem w_isSo (σ : qS) {d} (hd : okd d) (a b : Int32) : oK tt (f_X4_isSo σ (eC d) a b) := by
  have hs := okd_s hd
  unfold f_X4_isSo
  rw [z_0]
  refine ok_for1 (d 99 7) (fun again i h0 h1 ih => ?_) 20000 0 (by omega) (by omega) (by omega)
  unfold b_X4_isSo_3 f_X1_sightCount
  rw [s_cl, eC_7, z_s1]
  refine ok_if (fun _ => ok_r trivial) (fun c => ?_)
  have hi := t_nle h0 (by omega) (by omega) (by omega) c
  have e5 : f_X1_sightBed (eC d) (zI i) = some (zI (d 5 i)) := by
    unfold f_X1_sightBed
    simp (disch := omega) only [x_within, s_T, s_F, s_bd, s_cl, s_rd, s_wr, s_ite, z_ite, z_neg, z_add, z_sub, z_mul, z_le, z_lt, z_eq, eC_at, eC_7, eC_8, eC_9, eC_10, eC_11, eC_p7, eC_p8, eC_p9, eC_p10, eC_p11, eC_up, ud_same, ud_ne, if_pos, if_neg, z_0, z_1, z_2, z_3, z_4, z_5, z_6, z_7, z_8, z_9, z_10, z_11, z_12, z_13, z_14, z_15, z_16, z_17, z_18, z_19, z_20, z_21, z_22, z_23, z_24, z_25, z_26, z_27, z_28, z_29, z_30, z_31, z_32, z_33, z_34, z_35, z_36, z_37, z_38, z_39, z_40, z_41, z_42, z_43, z_44, z_45, z_46, z_47, z_48, z_49, z_50, z_51, z_52, z_53, z_54, z_55, z_56, z_57, z_58, z_59, z_60, z_61, z_62, z_63, z_64, z_65, z_66, z_67, z_68, z_69, z_70, z_71, z_72, z_73, z_74, z_75, z_76, z_77, z_78, z_79, z_80, z_81, z_82, z_83, z_84, z_85, z_86, z_87, z_88, z_89, z_90, z_91, z_92, z_93, z_94, z_95, z_96, z_97, z_98, z_99, z_100, z_101, z_102, z_103, z_104, z_105, z_106, z_107, z_108, z_109, z_110, z_111, z_112, z_113, z_114, z_115, z_116, z_117, z_118, z_119, z_120, z_121, z_122, z_123, z_124, z_125, z_126, z_127, z_199, z_200, z_360, z_410, z_1000, z_1023, z_1024, z_1219, z_9999, z_10240, z_65537]
  have e6 : f_X1_sightTale (eC d) (zI i) = some (zI (d 6 i)) := by
    unfold f_X1_sightTale
    simp (disch := omega) only [x_within, s_T, s_F, s_bd, s_cl, s_rd, s_wr, s_ite, z_ite, z_neg, z_add, z_sub, z_mul, z_le, z_lt, z_eq, eC_at, eC_7, eC_8, eC_9, eC_10, eC_11, eC_p7, eC_p8, eC_p9, eC_p10, eC_p11, eC_up, ud_same, ud_ne, if_pos, if_neg, z_0, z_1, z_2, z_3, z_4, z_5, z_6, z_7, z_8, z_9, z_10, z_11, z_12, z_13, z_14, z_15, z_16, z_17, z_18, z_19, z_20, z_21, z_22, z_23, z_24, z_25, z_26, z_27, z_28, z_29, z_30, z_31, z_32, z_33, z_34, z_35, z_36, z_37, z_38, z_39, z_40, z_41, z_42, z_43, z_44, z_45, z_46, z_47, z_48, z_49, z_50, z_51, z_52, z_53, z_54, z_55, z_56, z_57, z_58, z_59, z_60, z_61, z_62, z_63, z_64, z_65, z_66, z_67, z_68, z_69, z_70, z_71, z_72, z_73, z_74, z_75, z_76, z_77, z_78, z_79, z_80, z_81, z_82, z_83, z_84, z_85, z_86, z_87, z_88, z_89, z_90, z_91, z_92, z_93, z_94, z_95, z_96, z_97, z_98, z_99, z_100, z_101, z_102, z_103, z_104, z_105, z_106, z_107, z_108, z_109, z_110, z_111, z_112, z_113, z_114, z_115, z_116, z_117, z_118, z_119, z_120, z_121, z_122, z_123, z_124, z_125, z_126, z_127, z_199, z_200, z_360, z_410, z_1000, z_1023, z_1024, z_1219, z_9999, z_10240, z_65537]
  rw [e5, e6, s_cl]
  exact ok_cl (w_taleInBed σ _ _ _) (fun _ _ => ok_if (fun _ => ih hi) (fun _ => ok_r trivial))
theorem w_fadeAll (σ : qS) (d : Nat → Int → Int) : oK tt (f_X4_fadeAll σ (eC d)) := by
  unfold f_X4_fadeAll
  rw [z_0]
  refine ok_for (τ := qS) 10 tt (fun again i t h0 h1 _ ih => ?_) 20000 0 _ (by omega) (by omega) trivial (by omega)
  unfold b_X4_fadeAll_2
  dsimp only
  rw [z_10, z_s1, z_0]
  refine ok_if (fun _ => ok_r trivial) (fun c => ?_)
  have hi := t_nle h0 (by omega) (by omega) (by omega) c
  refine ok_for (τ := Int32 × qS) 41 tt (fun again2 j t2 h2 h3 _ ih2 => ?_) 20000 0 _ (by omega) (by omega) trivial (by omega)
  unfold b_X4_fadeAll_13
  dsimp only
  rw [z_41, z_s1, z_mul, z_add]
  refine ok_if (fun _ => ih hi _ trivial) (fun c => ?_)
  have hj := t_nle h2 (by omega) (by omega) (by omega) c
  exact ok_wr (by omega) (by omega) (by omega) (fun _ => ok_cl (w_fadesInto d _) (fun _ _ => ih2 hj _ trivial))
/-- how many twos fit -/
def cnt50 (σ : qS) : Prop := ∃ c : Int, 0 ≤ c ∧ c ≤ 50 ∧ σ 99 3 = zI c
theorem w_gather (σ : qS) {d} (hd : okd d) : oK cnt50 (f_X4_gather σ (eC d)) := by
  unfold f_X4_gather
  refine ok_cl (w_fadeAll σ d) (fun σ1 _ => ok_bd ?_)
  rw [z_0]
  refine ok_for (τ := qS) 10 cnt50 (fun again i t h0 h1 ht ih => ?_) 20000 0 _ (by omega) (by omega) ⟨0, by omega, by omega, rfl⟩ (by omega)
  unfold b_X4_gather_12
  dsimp only
  rw [z_10, z_s1, z_1]
  refine ok_if (fun _ => ok_r ht) (fun c => ?_)
  have hi := t_nle h0 (by omega) (by omega) (by omega) c
  refine ok_for (τ := qS) 6 cnt50 (fun again2 j t2 h2 h3 ht2 ih2 => ?_) 20000 1 _ (by omega) (by omega) ht (by omega)
  unfold b_X4_gather_20
  dsimp only
  rw [z_s1, z_5]
  refine ok_if (fun _ => ih hi _ ht2) (fun c => ?_)
  have hj : j < 6 := by
    rw [z_lt (by omega) (by omega) (by omega) (by omega)] at c; omega
  refine ok_cl (w_isSo _ hd _ _) (fun r _ => ok_if (fun _ => ih2 hj _ ht2) (fun _ => ?_))
  obtain ⟨c, c0, c1, hc⟩ := ht2
  rw [hc, z_0, z_49]
  refine ok_cl (w_withinz _ (by omega) (by omega) (by omega)) (fun r hr => ok_if (fun _ => ih2 hj _ ⟨c, c0, c1, hc⟩) (fun c3 => ?_))
  rcases hr with e | ⟨_, y, y0, y1, e⟩
  · exact absurd e c3
  · rw [z_eq (by omega) (by omega) (by omega) (by omega)] at e
    subst e
    rw [s_wr (by omega) (by omega) (by omega)]
    refine ok_bd (ih2 hj _ ⟨c + 1, by omega, by omega, ?_⟩)
    show t2 99 3 + 1 = _
    rw [hc, z_s1]
theorem w_pick (σ : qS) (x : Int32) : oK tt (f_X4_pick σ x) := by
  unfold f_X4_pick
  rw [z_0, z_49]
  refine ok_cl (w_withinz _ (by omega) (by omega) (by omega)) (fun r hr => ok_if (fun _ => ok_r trivial) (fun c3 => ok_if (fun _ => ok_r trivial) (fun _ => ?_)))
  rcases hr with e | ⟨_, y, y0, y1, rfl⟩
  · exact absurd e c3
  · exact ok_rd y0 (by omega) (by omega) (fun _ => ok_r trivial)
theorem w_mostLeft (σ : qS) (hσ : cnt50 σ) (x : Int32) : oK (fun r => cnt50 r.2) (f_X4_mostLeft σ x) := by
  obtain ⟨c, c0, c1, hc⟩ := hσ
  unfold f_X4_mostLeft
  rw [x_fill (by decide), s_cl]
  refine ok_bd ?_
  rw [z_0]
  refine ok_for (τ := Int32 × qS) c (fun t => t.2 99 3 = zI c) (fun again i t h0 h1 ht ih => ?_) 20000 0 _ (by omega) (by omega) hc (by omega)
  unfold b_X4_mostLeft_12
  dsimp only
  rw [z_s1, ht]
  refine ok_if (fun _ => ok_r ⟨c, c0, c1, ht⟩) (fun cc => ?_)
  have hi := t_nle h0 (by omega) (by omega) (by omega) cc
  refine ok_cl (w_pick _ _) (fun r7 _ => ok_cl (w_taleInBed _ _ _ _) (fun r9 _ => ok_cl (w_isTale r9) (fun r11 hr => ok_if (fun _ => ih hi (t.1, t.2) ht) (fun c3 => ?_))))
  rcases hr with e | ⟨_, a, a0, a1, rfl⟩
  · exact absurd e c3
  · rw [s_rd a0 (by omega) (by omega), s_wr a0 (by omega) (by omega), s_rd a0 (by omega) (by omega)]
    exact ok_bd (ih hi _ ht)
theorem w_bedToAsk (σ : qS) (hσ : cnt50 σ) : oK (fun r => cnt50 r.2) (f_X4_bedToAsk σ) := by
  unfold f_X4_bedToAsk
  refine ok_if (fun _ => ok_r hσ) (fun _ => ok_cl (w_mostLeft σ hσ _) (fun y hy => ?_))
  rw [z_1]
  refine ok_for (τ := qS × Int32 × Int32) 41 (fun t => cnt50 t.1) (fun again i t h0 h1 ht ih => ?_) 20000 1 _ (by omega) (by omega) hy (by omega)
  unfold b_X4_bedToAsk_20
  dsimp only
  rw [z_41, z_s1]
  refine ok_if (fun _ => ok_r ht) (fun c => ?_)
  have hi := t_nle h0 (by omega) (by omega) (by omega) c
  exact ok_cl (w_mostLeft _ ht _) (fun y hy => ok_if (fun _ => ih hi _ hy) (fun _ => ih hi _ hy))
/-! chances of the class -/
theorem ok_rdL {β : Type} {Q : β → Prop} {σ : qL} {k n : Nat} {i : Int} {K : Int64 → Option β} (h0 : 0 ≤ i) (h : i < n) (hn : n < 2147483648) (hk : ∀ v, oK Q (K v)) : oK Q (q_rdL σ k n (zI i) K) := by
  rw [s_rdL h0 h hn]; exact hk _
theorem ok_wrL {β : Type} {Q : β → Prop} {σ : qL} {k n : Nat} {i : Int} {x : Int64} {K : qL → Option β} (h0 : 0 ≤ i) (h : i < n) (hn : n < 2147483648) (hk : ∀ v, oK Q (K v)) : oK Q (q_wrL σ k n (zI i) x K) := by
  rw [s_wrL h0 h hn]; exact hk _
/-- a loop that counts down -/
theorem ok_down {β τ : Type} {Q : β → Prop} {body : (Int32 × τ → Option β) → (Int32 × τ → Option β) → Int32 × τ → Option β} {k : Int32 × τ → Option β} (lo hi : Int) (P : τ → Prop)
    (h : ∀ (again : Int32 × τ → Option β) (i : Int) (t : τ), lo ≤ i → i ≤ hi → P t → (lo < i → ∀ t', P t' → oK Q (again (zI (i + (-1)), t'))) → oK Q (body k again (zI i, t))) :
    ∀ (N : Nat) (i : Int) (t : τ), lo ≤ i → i ≤ hi → P t → (i - lo).toNat < N → oK Q (q_lp body k N (zI i, t)) := by
  intro N
  induction N with
  | zero => intro i t _ _ _ hN; omega
  | succ N ih =>
    intro i t h0 h1 hp hN
    rw [lp_s]
    exact h _ i t h0 h1 hp (fun hl t' ht' => ih (i + (-1)) t' (by omega) (by omega) ht' (by omega))
theorem z_m1 (i : Int) : zI i + (-1) = zI (i + (-1)) := by rw [z_1, z_neg, z_add]
theorem w_fillL {n : Nat} (hn : n < 16384) (σ : qL) (v : Int64) : oK tt (f_J7_fill_d0a16 n σ v) := by
  unfold f_J7_fill_d0a16
  refine ok_bd ?_
  rw [z_n, z_0]
  refine ok_for (τ := qL) n tt (fun again i t h0 h1 _ ih => ?_) 20000 0 _ (by omega) (by omega) trivial (by omega)
  unfold b_J7_fill_d0a16_6
  dsimp only
  rw [z_s1]
  refine ok_if (fun _ => ok_r trivial) (fun c => ?_)
  have hi := t_nle h0 (by omega) (by omega) (by omega) c
  exact ok_wrL h0 hi (by omega) (fun _ => ih hi _ trivial)
theorem w_weigh (σ : qS) (τ : qL) {n : Int} (n0 : 0 ≤ n) (n1 : n ≤ 10) (a b : Int32) : oK tt (f_X0_weigh σ τ (zI n) a b) := by
  unfold f_X0_weigh
  refine ok_cl (w_fillL (by decide) _ _) (fun _ _ => ok_bd (ok_cl (w_fillL (by decide) _ _) (fun _ _ => ok_bd ?_)))
  rw [z_0]
  refine ok_wrL (by omega) (by omega) (by omega) (fun _ => ?_)
  refine ok_for (τ := qL) n tt (fun again i t h0 h1 _ ih => ?_) 20000 0 _ (by omega) (by omega) trivial (by omega)
  unfold b_X0_weigh_26
  dsimp only
  rw [z_s1, z_10]
  refine ok_if (fun _ => ok_r trivial) (fun c => ?_)
  have hi := t_nle h0 (by omega) (by omega) (by omega) c
  refine ok_down (τ := qL) (-1) 10 tt (fun again2 j t2 h2 h3 _ ih2 => ?_) 20000 10 _ (by omega) (by omega) trivial (by omega)
  unfold b_X0_weigh_36
  dsimp only
  rw [z_m1]
  refine ok_if (fun _ => ih hi _ trivial) (fun c => ?_)
  have hj : 0 ≤ j := by
    rw [z_0, z_lt (by omega) (by omega) (by omega) (by omega)] at c; omega
  refine ok_rdL hj (by omega) (by omega) (fun _ => ok_rdL hj (by omega) (by omega) (fun _ => ok_wrL hj (by omega) (by omega) (fun _ => ok_if (fun _ => ok_wrL hj (by omega) (by omega) (fun _ => ih2 (by omega) _ trivial)) (fun c2 => ?_))))
  have hj1 : 0 < j := by
    rw [z_0, z_le (by omega) (by omega) (by omega) (by omega)] at c2; omega
  rw [z_1, z_sub]
  exact ok_rdL (by omega) (by omega) (by omega) (fun _ => ok_rdL (by omega) (by omega) (by omega) (fun _ => ok_wrL hj (by omega) (by omega) (fun _ => ih2 (by omega) _ trivial)))
theorem w_rowLower (σ : qS) (τ : qL) {n : Int} (n0 : 0 ≤ n) (n1 : n ≤ 10) : oK tt (f_X0_rowLower σ τ (zI n)) := by
  unfold f_X0_rowLower
  rw [z_0]
  refine ok_for (τ := Int64) n tt (fun again i t h0 h1 _ ih => ?_) 20000 0 _ (by omega) (by omega) trivial (by omega)
  unfold b_X0_rowLower_5
  dsimp only
  rw [z_s1]
  refine ok_if (fun _ => ok_r trivial) (fun c => ?_)
  have hi := t_nle h0 (by omega) (by omega) (by omega) c
  exact ok_bd (ih hi _ trivial)
theorem w_rowUpper (σ : qS) (τ : qL) {n : Int} (n0 : 0 ≤ n) (n1 : n ≤ 10) (a b c e : Int32) : oK tt (f_X0_rowUpper σ τ (zI n) a b c e) := by
  unfold f_X0_rowUpper
  refine ok_cl (w_weigh σ τ n0 n1 a b) (fun τ1 _ => ?_)
  rw [z_0]
  refine ok_for (τ := Int64) 11 tt (fun again i t h0 h1 _ ih => ?_) 20000 0 _ (by omega) (by omega) trivial (by omega)
  unfold b_X0_rowUpper_13
  dsimp only
  rw [z_s1, z_10]
  refine ok_if (fun _ => ok_r trivial) (fun c => ?_)
  have hi : i < 11 := by
    rw [z_lt (by omega) (by omega) (by omega) (by omega)] at c; omega
  refine ok_rdL h0 (by omega) (by omega) (fun _ => ok_rdL h0 (by omega) (by omega) (fun _ => ok_bd ?_))
  exact ok_if (fun _ => ok_bd (ih hi _ trivial)) (fun _ => ok_if (fun _ => ok_bd (ih hi _ trivial)) (fun _ => ok_if (fun _ => ok_if (fun _ => ih hi _ trivial) (fun _ => ok_bd (ih hi _ trivial))) (fun _ => ih hi _ trivial)))
theorem w_leastTake (σ : qS) (τ : qL) {n : Int} (n0 : 1 ≤ n) (n1 : n ≤ 60) : oK tt (f_X0_leastTake σ τ (zI n)) := by
  unfold f_X0_leastTake
  rw [z_1]
  refine ok_for1 n (fun again i h0 h1 ih => ?_) 20000 1 (by omega) (by omega) (by omega)
  unfold b_X0_leastTake_2
  rw [z_s1, z_sub, z_1, z_60]
  refine ok_if (fun _ => ok_r trivial) (fun c => ok_bd ?_)
  have hi := t_nle h0 (by omega) (by omega) (by omega) c
  refine ok_cl (w_withinz _ (by omega) (by omega) (by omega)) (fun r hr => ok_if (fun _ => ih hi) (fun c3 => ?_))
  rcases hr with e | ⟨_, y, y0, y1, e⟩
  · exact absurd e c3
  · rw [e]
    exact ok_rd (by omega) (by omega) (by omega) (fun _ => ok_if (fun _ => ih hi) (fun _ => ok_r trivial))
/-- a loop that counts up from lo on -/
theorem ok_forl {β τ : Type} {Q : β → Prop} {body : (Int32 × τ → Option β) → (Int32 × τ → Option β) → Int32 × τ → Option β} {k : Int32 × τ → Option β} (lo hi : Int) (P : τ → Prop)
    (h : ∀ (again : Int32 × τ → Option β) (i : Int) (t : τ), lo ≤ i → i ≤ hi → P t → (i < hi → ∀ t', P t' → oK Q (again (zI (i + 1), t'))) → oK Q (body k again (zI i, t))) :
    ∀ (N : Nat) (i : Int) (t : τ), lo ≤ i → i ≤ hi → P t → (hi - i).toNat < N → oK Q (q_lp body k N (zI i, t)) := by
  intro N
  induction N with
  | zero => intro i t _ _ _ hN; omega
  | succ N ih =>
    intro i t h0 h1 hp hN
    rw [lp_s]
    exact h _ i t h0 h1 hp (fun hl t' ht' => ih (i + 1) t' (by omega) (by omega) ht' (by omega))
theorem w_firstTake (σ : qS) (τ : qL) (x : Int32) : oK tt (f_X0_firstTake σ τ x) := by
  unfold f_X0_firstTake
  rw [z_1, z_60]
  refine ok_cl (w_withinz _ (by omega) (by omega) (by omega)) (fun r hr => ok_if (fun _ => ok_r trivial) (fun c3 => ?_))
  rcases hr with e | ⟨_, n, n0, n1, rfl⟩
  · exact absurd e c3
  · refine ok_forl (τ := qS) 1 (n + 1) tt (fun again i t h0 h1 _ ih => ?_) 20000 1 _ (by omega) (by omega) trivial (by omega)
    unfold b_X0_firstTake_15
    dsimp only
    rw [z_s1]
    refine ok_if (fun _ => ok_rd (by omega) (by omega) (by omega) (fun _ => ok_if (fun _ => ok_r trivial) (fun _ => ok_rd (by omega) (by omega) (by omega) (fun _ => ok_r trivial)))) (fun c => ?_)
    have hi : i < n + 1 := by
      rw [z_lt (by omega) (by omega) (by omega) (by omega)] at c; omega
    exact ok_cl (w_leastTake _ _ h0 (by omega)) (fun _ _ => ok_wr (by omega) (by omega) (by omega) (fun _ => ih hi _ trivial))
theorem w_commonPart (a b : Int64) : oK tt (f_X6_commonPart a b) := by
  unfold f_X6_commonPart
  rw [z_0]
  refine ok_for (τ := Int64 × Int64) 1000 tt (fun again i t h0 h1 _ ih => ?_) 20000 0 _ (by omega) (by omega) trivial (by omega)
  unfold b_X6_commonPart_9
  dsimp only
  rw [z_s1, z_1000]
  refine ok_if (fun _ => ok_r trivial) (fun c => ok_if (fun _ => ok_r trivial) (fun c2 => ?_))
  have hi := t_nle h0 (by omega) (by omega) (by omega) c
  have hz : ¬ t.1 = 0 := fun z => c2 (by rw [z]; decide)
  unfold q_nzL
  rw [if_neg hz]
  exact ok_bd (ih hi _ trivial)

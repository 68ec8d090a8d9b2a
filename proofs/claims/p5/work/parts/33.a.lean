/-! calls that end: oK Q x says that x answers, with Q -/
def oK {β : Type} (Q : β → Prop) (x : Option β) : Prop := ∃ r, x = some r ∧ Q r
section OKS
variable {α β : Type} {Q : β → Prop}
theorem ok_r {r : β} (h : Q r) : oK Q (some r) := ⟨r, rfl, h⟩
theorem ok_bd {x : α} {k : α → Option β} (h : oK Q (k x)) : oK Q (q_bd x k) := h
theorem ok_cl {P : α → Prop} {x : Option α} {k : α → Option β} (h : oK P x) (hk : ∀ a, P a → oK Q (k a)) : oK Q (q_cl x k) := by
  obtain ⟨a, rfl, ha⟩ := h
  exact hk a ha
theorem ok_if {c : Prop} [Decidable c] {a b : Option β} (h1 : c → oK Q a) (h2 : ¬ c → oK Q b) : oK Q (if c then a else b) := by
  by_cases h : c
  · rw [if_pos h]; exact h1 h
  · rw [if_neg h]; exact h2 h
theorem ok_rd {σ : qS} {k n : Nat} {i : Int} {K : Int32 → Option β} (h0 : 0 ≤ i) (h : i < n) (hn : n < 2147483648) (hk : ∀ v, oK Q (K v)) : oK Q (q_rd σ k n (zI i) K) := by
  rw [s_rd h0 h hn]; exact hk _
theorem ok_wr {σ : qS} {k n : Nat} {i : Int} {x : Int32} {K : qS → Option β} (h0 : 0 ≤ i) (h : i < n) (hn : n < 2147483648) (hk : ∀ v, oK Q (K v)) : oK Q (q_wr σ k n (zI i) x K) := by
  rw [s_wr h0 h hn]; exact hk _
theorem ok_mono {P : β → Prop} {x : Option β} (h : oK P x) (hq : ∀ r, P r → Q r) : oK Q x := by
  obtain ⟨r, e, hr⟩ := h
  exact ⟨r, e, hq r hr⟩
theorem ok_chk {b : Bool} {x : Option β} (hb : b = true) (h : oK Q x) : oK Q (q_chk b x) := by rw [s_chk hb]; exact h
/-- a loop that counts up -/
theorem ok_for {τ : Type} {body : (Int32 × τ → Option β) → (Int32 × τ → Option β) → Int32 × τ → Option β} {k : Int32 × τ → Option β} (hi : Int) (P : τ → Prop)
    (h : ∀ (again : Int32 × τ → Option β) (i : Int) (t : τ), 0 ≤ i → i ≤ hi → P t → (i < hi → ∀ t', P t' → oK Q (again (zI (i + 1), t'))) → oK Q (body k again (zI i, t))) :
    ∀ (N : Nat) (i : Int) (t : τ), 0 ≤ i → i ≤ hi → P t → (hi - i).toNat < N → oK Q (q_lp body k N (zI i, t)) := by
  intro N
  induction N with
  | zero => intro i t _ _ _ hN; omega
  | succ N ih =>
    intro i t h0 h1 hp hN
    rw [lp_s]
    exact h _ i t h0 h1 hp (fun hl t' ht' => ih (i + 1) t' (by omega) (by omega) ht' (by omega))
theorem ok_for1 {body : (Int32 → Option β) → (Int32 → Option β) → Int32 → Option β} {k : Int32 → Option β} (hi : Int)
    (h : ∀ (again : Int32 → Option β) (i : Int), 0 ≤ i → i ≤ hi → (i < hi → oK Q (again (zI (i + 1)))) → oK Q (body k again (zI i))) :
    ∀ (N : Nat) (i : Int), 0 ≤ i → i ≤ hi → (hi - i).toNat < N → oK Q (q_lp body k N (zI i)) := by
  intro N
  induction N with
  | zero => intro i _ _ hN; omega
  | succ N ih =>
    intro i h0 h1 hN
    rw [lp_s]
    exact h _ i h0 h1 (fun hl => ih (i + 1) (by omega) (by omega) (by omega))
end OKS
theorem z_s1 (i : Int) : zI i + 1 = zI (i + 1) := by rw [z_1, z_add]
theorem t_le {i n : Int} (h : 0 ≤ i) (h1 : i < 100000) (h2 : 0 ≤ n) (h3 : n < 100000) (hc : zI n ≤ zI i) : n ≤ i := (z_le (by omega) (by omega) (by omega) (by omega)).mp hc
theorem t_nle {i n : Int} (h : 0 ≤ i) (h1 : i < 100000) (h2 : 0 ≤ n) (h3 : n < 100000) (hc : ¬ zI n ≤ zI i) : i < n := by
  rw [z_le (by omega) (by omega) (by omega) (by omega)] at hc; omega
abbrev tt {β : Type} : β → Prop := fun _ => True
/-! ways of the class, whatever lies in its rows -/
theorem w_leastWay (σ : qS) {a b : Int} (a0 : 0 ≤ a) (a1 : a ≤ 10) (b0 : 0 ≤ b) (b1 : b ≤ 10) : oK tt (f_X5_leastWay σ (zI a) (zI b)) := by
  unfold f_X5_leastWay
  simp (disch := omega) only [x_isPlace, s_T, s_F, s_bd, s_cl, s_rd, s_wr, s_ite, z_ite, z_neg, z_add, z_sub, z_mul, z_le, z_lt, z_eq, eC_at, eC_7, eC_8, eC_9, eC_10, eC_11, eC_p7, eC_p8, eC_p9, eC_p10, eC_p11, eC_up, ud_same, ud_ne, if_pos, if_neg, z_0, z_1, z_2, z_3, z_4, z_5, z_6, z_7, z_8, z_9, z_10, z_11, z_12, z_13, z_14, z_15, z_16, z_17, z_18, z_19, z_20, z_21, z_22, z_23, z_24, z_25, z_26, z_27, z_28, z_29, z_30, z_31, z_32, z_33, z_34, z_35, z_36, z_37, z_38, z_39, z_40, z_41, z_42, z_43, z_44, z_45, z_46, z_47, z_48, z_49, z_50, z_51, z_52, z_53, z_54, z_55, z_56, z_57, z_58, z_59, z_60, z_61, z_62, z_63, z_64, z_65, z_66, z_67, z_68, z_69, z_70, z_71, z_72, z_73, z_74, z_75, z_76, z_77, z_78, z_79, z_80, z_81, z_82, z_83, z_84, z_85, z_86, z_87, z_88, z_89, z_90, z_91, z_92, z_93, z_94, z_95, z_96, z_97, z_98, z_99, z_100, z_101, z_102, z_103, z_104, z_105, z_106, z_107, z_108, z_109, z_110, z_111, z_112, z_113, z_114, z_115, z_116, z_117, z_118, z_119, z_120, z_121, z_122, z_123, z_124, z_125, z_126, z_127, z_199, z_200, z_360, z_410, z_1000, z_1023, z_1024, z_1219, z_9999, z_10240, z_65537]
  exact ⟨_, rfl, trivial⟩
theorem w_shortenPast (σ : qS) {a b : Int} (a0 : 0 ≤ a) (a1 : a ≤ 10) (b0 : 0 ≤ b) (b1 : b ≤ 10) : oK tt (f_X5_shortenPast σ (zI a) (zI b)) := by
  unfold f_X5_shortenPast
  rw [z_0]
  refine ok_for (τ := qS) 11 tt (fun again i t h0 h1 _ ih => ?_) 20000 0 σ (by omega) (by omega) trivial (by omega)
  unfold b_X5_shortenPast_2
  dsimp only
  rw [z_11, z_s1]
  refine ok_if (fun _ => ok_r trivial) (fun c => ?_)
  have hi := t_nle h0 (by omega) (by omega) (by omega) c
  refine ok_cl (w_leastWay _ b0 b1 a0 a1) (fun r3 _ => ok_cl (w_leastWay _ a0 a1 h0 (by omega)) (fun r5 _ => ok_bd (ok_cl (w_leastWay _ b0 b1 h0 (by omega)) (fun r9 _ => ok_if (fun _ => ih hi _ trivial) (fun _ => ?_)))))
  simp (disch := omega) only [x_isPlace, s_T, s_F, s_bd, s_cl, s_rd, s_wr, s_ite, z_ite, z_neg, z_add, z_sub, z_mul, z_le, z_lt, z_eq, eC_at, eC_7, eC_8, eC_9, eC_10, eC_11, eC_p7, eC_p8, eC_p9, eC_p10, eC_p11, eC_up, ud_same, ud_ne, if_pos, if_neg, z_0, z_1, z_2, z_3, z_4, z_5, z_6, z_7, z_8, z_9, z_10, z_11, z_12, z_13, z_14, z_15, z_16, z_17, z_18, z_19, z_20, z_21, z_22, z_23, z_24, z_25, z_26, z_27, z_28, z_29, z_30, z_31, z_32, z_33, z_34, z_35, z_36, z_37, z_38, z_39, z_40, z_41, z_42, z_43, z_44, z_45, z_46, z_47, z_48, z_49, z_50, z_51, z_52, z_53, z_54, z_55, z_56, z_57, z_58, z_59, z_60, z_61, z_62, z_63, z_64, z_65, z_66, z_67, z_68, z_69, z_70, z_71, z_72, z_73, z_74, z_75, z_76, z_77, z_78, z_79, z_80, z_81, z_82, z_83, z_84, z_85, z_86, z_87, z_88, z_89, z_90, z_91, z_92, z_93, z_94, z_95, z_96, z_97, z_98, z_99, z_100, z_101, z_102, z_103, z_104, z_105, z_106, z_107, z_108, z_109, z_110, z_111, z_112, z_113, z_114, z_115, z_116, z_117, z_118, z_119, z_120, z_121, z_122, z_123, z_124, z_125, z_126, z_127, z_199, z_200, z_360, z_410, z_1000, z_1023, z_1024, z_1219, z_9999, z_10240, z_65537]
  exact ih hi _ trivial
theorem w_measure (σ : qS) (d : Nat → Int → Int) : oK tt (f_X5_measure σ (eC d)) := by
  unfold f_X5_measure
  rw [z_0]
  refine ok_for (τ := qS) 11 tt (fun again i t h0 h1 _ ih => ?_) 20000 0 σ (by omega) (by omega) trivial (by omega)
  unfold b_X5_measure_2
  dsimp only
  rw [z_11, z_s1, z_0]
  refine ok_if (fun _ => ?_) (fun c => ?_)
  · refine ok_for (τ := qS) 11 tt (fun again i t h0 h1 _ ih => ?_) 20000 0 t (by omega) (by omega) trivial (by omega)
    unfold b_X5_measure_74
    dsimp only
    rw [z_11, z_s1, z_0]
    refine ok_if (fun _ => ok_r trivial) (fun c => ?_)
    have hi := t_nle h0 (by omega) (by omega) (by omega) c
    refine ok_for (τ := qS) 11 tt (fun again2 j t h2 h3 _ ih2 => ?_) 20000 0 t (by omega) (by omega) trivial (by omega)
    unfold b_X5_measure_82
    dsimp only
    rw [z_11, z_s1]
    refine ok_if (fun _ => ih hi _ trivial) (fun c => ?_)
    have hj := t_nle h2 (by omega) (by omega) (by omega) c
    exact ok_cl (w_shortenPast _ h0 (by omega) h2 (by omega)) (fun _ _ => ih2 hj _ trivial)
  · have hi := t_nle h0 (by omega) (by omega) (by omega) c
    refine ok_for (τ := qS) 11 tt (fun again2 j t h2 h3 _ ih2 => ?_) 20000 0 t (by omega) (by omega) trivial (by omega)
    unfold b_X5_measure_10
    dsimp only
    rw [z_11, z_s1, z_mul, z_add]
    refine ok_if (fun _ => ?_) (fun c => ?_)
    · exact ok_wr (by omega) (by omega) (by omega) (fun _ => ih hi _ trivial)
    · have hj := t_nle h2 (by omega) (by omega) (by omega) c
      rw [x_longBetween d h0 (by omega) h2 (by omega), s_cl, z_add]
      exact ok_if (fun _ => ok_wr (by omega) (by omega) (by omega) (fun _ => ih2 hj _ trivial)) (fun _ => ok_wr (by omega) (by omega) (by omega) (fun _ => ih2 hj _ trivial))
theorem w_howFar (σ : qS) {a b : Int} (a0 : 0 ≤ a) (a1 : a ≤ 10) (b0 : 0 ≤ b) (b1 : b ≤ 10) : oK tt (f_X5_howFar σ (zI a) (zI b)) := by
  unfold f_X5_howFar
  exact ok_cl (w_leastWay σ a0 a1 b0 b1) (fun r _ => ok_if (fun _ => ok_r trivial) (fun _ => ok_r trivial))
theorem w_nextPlace (σ : qS) (d : Nat → Int → Int) {a b : Int} (a0 : 0 ≤ a) (a1 : a ≤ 10) (b0 : 0 ≤ b) (b1 : b ≤ 10) : oK tt (f_X5_nextPlace σ (eC d) (zI a) (zI b)) := by
  unfold f_X5_nextPlace
  refine ok_cl (w_howFar σ a0 a1 b0 b1) (fun r1 _ => ok_if (fun _ => ok_r trivial) (fun _ => ok_if (fun _ => ok_r trivial) (fun _ => ?_)))
  rw [z_0]
  refine ok_for1 11 (fun again i h0 h1 ih => ?_) 20000 0 (by omega) (by omega) (by omega)
  unfold b_X5_nextPlace_26
  rw [z_11, z_s1]
  refine ok_if (fun _ => ok_r trivial) (fun c => ?_)
  have hi := t_nle h0 (by omega) (by omega) (by omega) c
  rw [x_longBetween d a0 a1 h0 (by omega), s_cl]
  refine ok_if (fun _ => ih hi) (fun _ => ok_cl (w_leastWay σ h0 (by omega) b0 b1) (fun _ _ => ok_if (fun _ => ok_r trivial) (fun _ => ih hi)))
/-! rounds of the class -/
theorem w_heatLeft (σ η : qS) (s : Int32) {b : Int} (b0 : 0 ≤ b) (b1 : b ≤ 9) : oK tt (f_X5_heatLeft σ η s (zI b)) := by
  obtain ⟨s, s0, s1, rfl⟩ := z_of s
  unfold f_X5_heatLeft
  by_cases c : 0 ≤ s ∧ s ≤ 1023
  · simp (disch := omega) only [x_within, x_isHouse, s_T, s_F, s_bd, s_cl, s_rd, s_wr, s_ite, z_ite, z_neg, z_add, z_sub, z_mul, z_le, z_lt, z_eq, eC_at, eC_7, eC_8, eC_9, eC_10, eC_11, eC_p7, eC_p8, eC_p9, eC_p10, eC_p11, eC_up, ud_same, ud_ne, if_pos, if_neg, z_0, z_1, z_2, z_3, z_4, z_5, z_6, z_7, z_8, z_9, z_10, z_11, z_12, z_13, z_14, z_15, z_16, z_17, z_18, z_19, z_20, z_21, z_22, z_23, z_24, z_25, z_26, z_27, z_28, z_29, z_30, z_31, z_32, z_33, z_34, z_35, z_36, z_37, z_38, z_39, z_40, z_41, z_42, z_43, z_44, z_45, z_46, z_47, z_48, z_49, z_50, z_51, z_52, z_53, z_54, z_55, z_56, z_57, z_58, z_59, z_60, z_61, z_62, z_63, z_64, z_65, z_66, z_67, z_68, z_69, z_70, z_71, z_72, z_73, z_74, z_75, z_76, z_77, z_78, z_79, z_80, z_81, z_82, z_83, z_84, z_85, z_86, z_87, z_88, z_89, z_90, z_91, z_92, z_93, z_94, z_95, z_96, z_97, z_98, z_99, z_100, z_101, z_102, z_103, z_104, z_105, z_106, z_107, z_108, z_109, z_110, z_111, z_112, z_113, z_114, z_115, z_116, z_117, z_118, z_119, z_120, z_121, z_122, z_123, z_124, z_125, z_126, z_127, z_199, z_200, z_360, z_410, z_1000, z_1023, z_1024, z_1219, z_9999, z_10240, z_65537]
    exact ⟨_, rfl, trivial⟩
  · simp (disch := omega) only [x_within, x_isHouse, s_T, s_F, s_bd, s_cl, s_rd, s_wr, s_ite, z_ite, z_neg, z_add, z_sub, z_mul, z_le, z_lt, z_eq, eC_at, eC_7, eC_8, eC_9, eC_10, eC_11, eC_p7, eC_p8, eC_p9, eC_p10, eC_p11, eC_up, ud_same, ud_ne, if_pos, if_neg, z_0, z_1, z_2, z_3, z_4, z_5, z_6, z_7, z_8, z_9, z_10, z_11, z_12, z_13, z_14, z_15, z_16, z_17, z_18, z_19, z_20, z_21, z_22, z_23, z_24, z_25, z_26, z_27, z_28, z_29, z_30, z_31, z_32, z_33, z_34, z_35, z_36, z_37, z_38, z_39, z_40, z_41, z_42, z_43, z_44, z_45, z_46, z_47, z_48, z_49, z_50, z_51, z_52, z_53, z_54, z_55, z_56, z_57, z_58, z_59, z_60, z_61, z_62, z_63, z_64, z_65, z_66, z_67, z_68, z_69, z_70, z_71, z_72, z_73, z_74, z_75, z_76, z_77, z_78, z_79, z_80, z_81, z_82, z_83, z_84, z_85, z_86, z_87, z_88, z_89, z_90, z_91, z_92, z_93, z_94, z_95, z_96, z_97, z_98, z_99, z_100, z_101, z_102, z_103, z_104, z_105, z_106, z_107, z_108, z_109, z_110, z_111, z_112, z_113, z_114, z_115, z_116, z_117, z_118, z_119, z_120, z_121, z_122, z_123, z_124, z_125, z_126, z_127, z_199, z_200, z_360, z_410, z_1000, z_1023, z_1024, z_1219, z_9999, z_10240, z_65537]
    exact ⟨_, rfl, trivial⟩
theorem w_warm (σ η : qS) {d} (hd : okd d) (s v : Int32) {b : Int} (b0 : 0 ≤ b) (b1 : b ≤ 9) : oK tt (f_X5_warm σ η (eC d) s (zI b) v) := by
  have hh := w_heatLeft σ η s b0 b1
  obtain ⟨s, s0, s1, rfl⟩ := z_of s
  obtain ⟨v, v0, v1, rfl⟩ := z_of v
  unfold f_X5_warm
  rw [x_isDamp d hd b0 b1, s_cl, x_isConvinced d hd b0 b1 v0 v1, s_cl]
  refine ok_if (fun _ => ok_if (fun _ => ok_r trivial) (fun _ => ok_bd (ok_cl hh (fun _ _ => ok_if (fun _ => ok_r trivial) (fun _ => ?_))))) (fun _ => ok_r trivial)
  by_cases c : 0 ≤ s ∧ s ≤ 1023
  · simp (disch := omega) only [x_within, x_isHouse, s_T, s_F, s_bd, s_cl, s_rd, s_wr, s_ite, z_ite, z_neg, z_add, z_sub, z_mul, z_le, z_lt, z_eq, eC_at, eC_7, eC_8, eC_9, eC_10, eC_11, eC_p7, eC_p8, eC_p9, eC_p10, eC_p11, eC_up, ud_same, ud_ne, if_pos, if_neg, z_0, z_1, z_2, z_3, z_4, z_5, z_6, z_7, z_8, z_9, z_10, z_11, z_12, z_13, z_14, z_15, z_16, z_17, z_18, z_19, z_20, z_21, z_22, z_23, z_24, z_25, z_26, z_27, z_28, z_29, z_30, z_31, z_32, z_33, z_34, z_35, z_36, z_37, z_38, z_39, z_40, z_41, z_42, z_43, z_44, z_45, z_46, z_47, z_48, z_49, z_50, z_51, z_52, z_53, z_54, z_55, z_56, z_57, z_58, z_59, z_60, z_61, z_62, z_63, z_64, z_65, z_66, z_67, z_68, z_69, z_70, z_71, z_72, z_73, z_74, z_75, z_76, z_77, z_78, z_79, z_80, z_81, z_82, z_83, z_84, z_85, z_86, z_87, z_88, z_89, z_90, z_91, z_92, z_93, z_94, z_95, z_96, z_97, z_98, z_99, z_100, z_101, z_102, z_103, z_104, z_105, z_106, z_107, z_108, z_109, z_110, z_111, z_112, z_113, z_114, z_115, z_116, z_117, z_118, z_119, z_120, z_121, z_122, z_123, z_124, z_125, z_126, z_127, z_199, z_200, z_360, z_410, z_1000, z_1023, z_1024, z_1219, z_9999, z_10240, z_65537]
    exact ⟨_, rfl, trivial⟩
  · simp (disch := omega) only [x_within, x_isHouse, s_T, s_F, s_bd, s_cl, s_rd, s_wr, s_ite, z_ite, z_neg, z_add, z_sub, z_mul, z_le, z_lt, z_eq, eC_at, eC_7, eC_8, eC_9, eC_10, eC_11, eC_p7, eC_p8, eC_p9, eC_p10, eC_p11, eC_up, ud_same, ud_ne, if_pos, if_neg, z_0, z_1, z_2, z_3, z_4, z_5, z_6, z_7, z_8, z_9, z_10, z_11, z_12, z_13, z_14, z_15, z_16, z_17, z_18, z_19, z_20, z_21, z_22, z_23, z_24, z_25, z_26, z_27, z_28, z_29, z_30, z_31, z_32, z_33, z_34, z_35, z_36, z_37, z_38, z_39, z_40, z_41, z_42, z_43, z_44, z_45, z_46, z_47, z_48, z_49, z_50, z_51, z_52, z_53, z_54, z_55, z_56, z_57, z_58, z_59, z_60, z_61, z_62, z_63, z_64, z_65, z_66, z_67, z_68, z_69, z_70, z_71, z_72, z_73, z_74, z_75, z_76, z_77, z_78, z_79, z_80, z_81, z_82, z_83, z_84, z_85, z_86, z_87, z_88, z_89, z_90, z_91, z_92, z_93, z_94, z_95, z_96, z_97, z_98, z_99, z_100, z_101, z_102, z_103, z_104, z_105, z_106, z_107, z_108, z_109, z_110, z_111, z_112, z_113, z_114, z_115, z_116, z_117, z_118, z_119, z_120, z_121, z_122, z_123, z_124, z_125, z_126, z_127, z_199, z_200, z_360, z_410, z_1000, z_1023, z_1024, z_1219, z_9999, z_10240, z_65537]
    exact ⟨_, rfl, trivial⟩
theorem w_isIn (a b : Int32) : f_X6_isIn a b = some 0 ∨ f_X6_isIn a b = some 1 := by
  unfold f_X6_isIn
  split
  · exact Or.inr rfl
  · exact Or.inl rfl
theorem w_isInk (a b : Int32) : oK (fun r => r = 0 ∨ r = 1) (f_X6_isIn a b) := by
  rcases w_isIn a b with e | e
  · exact ⟨_, e, Or.inl rfl⟩
  · exact ⟨_, e, Or.inr rfl⟩
theorem w_goOn (σ η : qS) {d} (hd : okd d) (s : Int32) : oK tt (f_X5_goOn σ η (eC d) s) := by
  unfold f_X5_goOn
  rw [z_0]
  refine ok_for (τ := Int32 × qS) 10 (fun t => t.1 = 0 ∨ t.1 = 1) (fun again i t h0 h1 ht ih => ?_) 20000 0 (zI 0, η) (by omega) (by omega) (Or.inl rfl) (by omega)
  unfold b_X5_goOn_5
  dsimp only
  rw [z_10, z_s1, z_0]
  refine ok_if (fun _ => ?_) (fun c => ?_)
  · refine ok_chk ?_ (ok_r trivial)
    rcases ht with e | e <;> rw [e] <;> decide
  · have hi := t_nle h0 (by omega) (by omega) (by omega) c
    refine ok_cl (w_heatLeft σ _ s h0 (by omega)) (fun r4 _ => ok_if (fun _ => ih hi (t.1, t.2) ht) (fun _ => ?_))
    refine ok_for (τ := qS) 10 tt (fun again2 j t2 h2 h3 _ ih2 => ?_) 20000 0 t.2 (by omega) (by omega) trivial (by omega)
    unfold b_X5_goOn_35
    dsimp only
    rw [z_10, z_s1]
    refine ok_if (fun _ => ih hi ((1 : Int32), t2) (Or.inr rfl)) (fun c => ?_)
    have hj := t_nle h2 (by omega) (by omega) (by omega) c
    refine ok_cl (w_isInk _ _) (fun r9 _ => ok_if (fun _ => ok_cl (w_leastWay σ h0 (by omega) h2 (by omega)) (fun r12 _ => ok_cl (w_warm σ _ hd _ _ h2 (by omega)) (fun _ _ => ih2 hj _ trivial))) (fun _ => ih2 hj _ trivial))
theorem w_bits (x : Int32) : oK tt (f_J6_bitCount_0f7a4 x) := by
  unfold f_J6_bitCount_0f7a4
  simp only [s_bd]
  exact ⟨_, rfl, trivial⟩
theorem w_bestRound (σ η : qS) {d} (hd : okd d) (h : Int32) : oK tt (f_X5_bestRound σ η (eC d) h) := by
  unfold f_X5_bestRound
  refine ok_cl (w_measure σ d) (fun σ1 _ => ?_)
  rw [x_fill (by decide), s_cl]
  refine ok_bd ?_
  rw [z_0, z_1]
  refine ok_for (τ := qS) 10 tt (fun again i t h0 h1 _ ih => ?_) 20000 0 _ (by omega) (by omega) trivial (by omega)
  unfold b_X5_bestRound_31
  dsimp only
  rw [z_10, z_s1]
  refine ok_if (fun _ => ?_) (fun c => ?_)
  · refine ok_for (τ := qS × Int32) 1024 tt (fun again i t h0 h1 _ ih => ?_) 20000 1 _ (by omega) (by omega) trivial (by omega)
    unfold b_X5_bestRound_66
    dsimp only
    rw [z_s1]
    rw [z_1024]
    refine ok_if (fun _ => ok_r trivial) (fun c => ?_)
    have hi := t_nle h0 (by omega) (by omega) (by omega) c
    refine ok_cl (w_goOn σ1 _ hd _) (fun y _ => ok_if (fun _ => ih hi _ trivial) (fun _ => ok_cl (w_bits _) (fun _ _ => ok_cl (w_bits _) (fun _ _ => ok_if (fun _ => ih hi _ trivial) (fun _ => ih hi _ trivial)))))
  · have hi := t_nle h0 (by omega) (by omega) (by omega) c
    exact ok_cl (w_leastWay σ1 (by omega) (by omega) h0 (by omega)) (fun _ _ => ok_cl (w_warm σ1 _ hd _ _ h0 (by omega)) (fun _ _ => ih hi _ trivial))
theorem w_bestRound_n (σ : qS) {d} (hd : okd d) (h : Int32) : oK tt (f_X5_bestRound_n σ (eC d) h) := by
  unfold f_X5_bestRound_n
  refine ok_cl (w_measure σ d) (fun σ1 _ => ?_)
  rw [x_fill (by decide), s_cl]
  refine ok_bd ?_
  rw [z_0, z_1]
  refine ok_for (τ := qS) 10 tt (fun again i t h0 h1 _ ih => ?_) 20000 0 _ (by omega) (by omega) trivial (by omega)
  unfold b_X5_bestRound_n_31
  dsimp only
  rw [z_10, z_s1]
  refine ok_if (fun _ => ?_) (fun c => ?_)
  · refine ok_for (τ := qS × Int32) 1024 tt (fun again i t h0 h1 _ ih => ?_) 20000 1 _ (by omega) (by omega) trivial (by omega)
    unfold b_X5_bestRound_n_66
    dsimp only
    rw [z_s1]
    rw [z_1024]
    refine ok_if (fun _ => ok_r trivial) (fun c => ?_)
    have hi := t_nle h0 (by omega) (by omega) (by omega) c
    refine ok_cl (w_goOn σ1 _ hd _) (fun y _ => ok_if (fun _ => ih hi _ trivial) (fun _ => ok_cl (w_bits _) (fun _ _ => ok_cl (w_bits _) (fun _ _ => ok_if (fun _ => ih hi _ trivial) (fun _ => ih hi _ trivial)))))
  · have hi := t_nle h0 (by omega) (by omega) (by omega) c
    exact ok_cl (w_leastWay σ1 (by omega) (by omega) h0 (by omega)) (fun _ _ => ok_cl (w_warm σ1 _ hd _ _ h0 (by omega)) (fun _ _ => ih hi _ trivial))
/-! keeping, of the class -/
theorem w_findNeighbours (σ : qS) (d : Nat → Int → Int) : oK tt (f_X5_findNeighbours σ (eC d)) := by
  unfold f_X5_findNeighbours
  rw [z_0]
  refine ok_for (τ := qS) 11 tt (fun again i t h0 h1 _ ih => ?_) 20000 0 σ (by omega) (by omega) trivial (by omega)
  unfold b_X5_findNeighbours_2
  dsimp only
  rw [z_11, z_s1, z_0]
  refine ok_if (fun _ => ok_r trivial) (fun c => ?_)
  have hi := t_nle h0 (by omega) (by omega) (by omega) c
  refine ok_for (τ := Int32) 11 tt (fun again2 j t2 h2 h3 _ ih2 => ?_) 20000 0 _ (by omega) (by omega) trivial (by omega)
  unfold b_X5_findNeighbours_13
  dsimp only
  rw [z_11, z_s1]
  refine ok_if (fun _ => ok_wr h0 (by omega) (by omega) (fun _ => ih hi _ trivial)) (fun c => ?_)
  have hj := t_nle h2 (by omega) (by omega) (by omega) c
  rw [x_longBetween d h0 (by omega) h2 (by omega), s_cl]
  exact ok_if (fun _ => ih2 hj _ trivial) (fun _ => ok_bd (ih2 hj _ trivial))
theorem w_leadsTo (σ : qS) (a s : Int32) : oK tt (f_X5_leadsTo σ a s) := by
  unfold f_X5_leadsTo
  rw [z_0]
  refine ok_for (τ := Int32) 11 tt (fun again i t h0 h1 _ ih => ?_) 20000 0 _ (by omega) (by omega) trivial (by omega)
  have hend : ∀ t : Int32, oK tt (q_cl (f_X6_isIn a t) fun r_2 => q_chk (q_isB r_2) <| some r_2) := fun t => by
    refine ok_cl (w_isInk a t) (fun r hr => ok_chk ?_ (ok_r trivial))
    rcases hr with e | e <;> rw [e] <;> decide
  unfold b_X5_leadsTo_7
  dsimp only
  rw [z_11, z_s1, z_0]
  refine ok_if (fun _ => hend _) (fun c => ?_)
  have hi := t_nle h0 (by omega) (by omega) (by omega) c
  refine ok_cl (w_isInk _ _) (fun r _ => ok_if (fun _ => ?_) (fun _ => hend _))
  refine ok_for (τ := Int32) 11 tt (fun again2 j t2 h2 h3 _ ih2 => ?_) 20000 0 _ (by omega) (by omega) trivial (by omega)
  unfold b_X5_leadsTo_28
  dsimp only
  rw [z_11, z_s1]
  refine ok_if (fun _ => ih hi _ trivial) (fun c => ?_)
  have hj := t_nle h2 (by omega) (by omega) (by omega) c
  exact ok_cl (w_isInk _ _) (fun r _ => ok_if (fun _ => ih2 hj _ trivial) (fun _ => ok_rd h2 (by omega) (by omega) (fun _ => ok_bd (ih2 hj _ trivial))))
theorem w_fewestDamp (σ : qS) (d : Nat → Int → Int) {b : Int} (b0 : 0 ≤ b) (b1 : b ≤ 9) : oK tt (f_X5_fewestDamp σ (eC d) (zI b)) := by
  unfold f_X5_fewestDamp
  rw [z_10, x_longBetween d (by omega) (by omega) b0 (by omega), s_cl]
  refine ok_if (fun _ => ok_cl (w_findNeighbours σ d) (fun σ1 _ => ?_)) (fun _ => ok_r trivial)
  rw [z_0]
  refine ok_for (τ := Int32) 1024 tt (fun again i t h0 h1 _ ih => ?_) 20000 0 _ (by omega) (by omega) trivial (by omega)
  unfold b_X5_fewestDamp_24
  dsimp only
  rw [z_1024, z_s1]
  refine ok_if (fun _ => ok_r trivial) (fun c => ?_)
  have hi := t_nle h0 (by omega) (by omega) (by omega) c
  have hin : oK tt (q_cl (f_X6_isIn (zI b) (zI i)) fun r_10 => if r_10 = 0 then (q_cl (f_X5_leadsTo σ1 (zI b) (zI i)) fun r_13 => if r_13 = 0 then (again (zI (i + 1), zI i)) else again (zI (i + 1), t)) else again (zI (i + 1), t)) :=
    ok_cl (w_isInk _ _) (fun r _ => ok_if (fun _ => ok_cl (w_leadsTo σ1 _ _) (fun _ _ => ok_if (fun _ => ih hi _ trivial) (fun _ => ih hi _ trivial))) (fun _ => ih hi _ trivial))
  exact ok_if (fun _ => hin) (fun _ => ok_cl (w_bits _) (fun _ _ => ok_cl (w_bits _) (fun _ _ => ok_if (fun _ => ih hi _ trivial) (fun _ => hin))))

/-! the law's segments: tales that come round -/
section SEG4
variable {d e f n : Nat → Int → Int} {L : Nat} {xs : Nat → Int32} {σC σD σP σN σW σY σK σH σE : qS} {ℓK κ : qL} {step tens bel reached w t : Int}
theorem itr_in {ring : Int} (r1 : 1 ≤ ring) (r2 : ring ≤ 10) (hr : ringF d ring) {k : Int} (k0 : 0 ≤ k) (k1 : k < ring) : ∀ n : Nat, itr d n k = (k + n) % ring := by
  intro n
  induction n with
  | zero => show k = (k + ((0 : Nat) : Int)) % ring; rw [show k + ((0 : Nat) : Int) = k by omega, Int.emod_eq_of_lt k0 k1]
  | succ n ih =>
    have m0 : 0 ≤ (k + n) % ring := Int.emod_nonneg _ (by omega)
    have m1 : (k + n) % ring < ring := Int.emod_lt_of_pos _ (by omega)
    show d 4 (itr d n k) = _
    rw [ih, hr _ m0 (by omega), show k + ((n + 1 : Nat) : Int) = k + n + 1 by omega, emod_suc r1]
theorem itr_out {ring : Int} (r1 : 1 ≤ ring) (r2 : ring ≤ 10) (hr : ringF d ring) {k : Int} (k0 : ring ≤ k) (k1 : k ≤ 9) : ∀ n : Nat, itr d (n + 1) k = (n : Int) % ring := by
  intro n
  induction n with
  | zero => show d 4 k = ((0 : Nat) : Int) % ring; rw [hr _ (by omega) k1, if_neg (by omega)]; simp
  | succ n ih =>
    have m0 : 0 ≤ (n : Int) % ring := Int.emod_nonneg _ (by omega)
    have m1 : (n : Int) % ring < ring := Int.emod_lt_of_pos _ (by omega)
    show d 4 (itr d (n + 1) k) = _
    rw [ih, hr _ m0 (by omega), show ((n + 1 : Nat) : Int) = (n : Int) + 1 by omega, emod_suc r1]
theorem emod_ne {r a b : Int} (r1 : 1 ≤ r) (h1 : a < b) (h2 : b < a + r) : ¬ a % r = b % r := by
  intro h
  have e1 := Int.emod_add_mul_ediv a r
  have e2 := Int.emod_add_mul_ediv b r
  have e3 : b - a = r * (b / r - a / r) := by rw [Int.mul_sub]; omega
  have p1 : 0 < b / r - a / r := by
    apply Int.lt_of_not_ge
    intro h3
    have := Int.mul_le_mul_of_nonneg_left (c := r) h3 (by omega)
    omega
  have := Int.mul_le_mul_of_nonneg_left (c := r) (show 1 ≤ b / r - a / r by omega) (by omega)
  omega
theorem p_round {L e0 : Nat} (hd : okd d) {t : Int} (t0 : 0 ≤ t) (t1 : t ≤ 9) (l1 : L ≤ 10) (he : e0 < L) (h : itr d e0 t = itr d L t) (hl : ∀ k, k < L → ¬ rep d t k) (hf : ∀ e, e < e0 → ¬ itr d e t = itr d L t) :
    f_X6_faded (eC d) (zI t) (zI (-1)) = some (zI L) ∧ f_X6_faded (eC d) (zI t) (zI (-2)) = some (zI ((L : Int) - e0)) := by
  have hr : rep d t L := ⟨e0, he, h⟩
  have e2 : (-2 : Int32) = zI (-2) := by decide
  have em : (-1 : Int32) = zI (-1) := by decide
  have q : ∀ x : Int, x = -1 ∨ x = -2 → zI x < zI 0 := fun x hx => by rw [z_lt (by omega) (by omega) (by omega) (by omega)]; omega
  constructor
  · unfold f_X6_faded
    rw [x_tal t0 t1, s_cl, e2, em, z_99, x_win (by omega) (by omega) (by omega) (by omega), s_cl, z_0, if_neg n10, if_neg n10, if_pos (q _ (Or.inl rfl)), if_pos rfl, x_stirsToRing hd t0 t1 l1 hr hl, s_cl]
  · unfold f_X6_faded
    rw [x_tal t0 t1, s_cl, e2, em, z_99, x_win (by omega) (by omega) (by omega) (by omega), s_cl, z_0, if_neg n10, if_neg n10, if_pos (q _ (Or.inr rfl)), if_neg (by decide), x_stirsOfRing hd t0 t1 l1 hr hl he h hf, s_cl]
theorem t_1462 (hL : L ≤ 260) (hd : okd d) (hf : okd f) (he : clr e) (h7 : d 99 7 = 0) {ring : Int} (r1 : 1 ≤ ring) (r2 : ring ≤ 10) (hr : ringF d ring) (hp : d 99 8 = 10) (s0 : 0 ≤ step ∧ step ≤ 100) (nn0 : 0 ≤ tens ∧ tens ≤ 100) (r0 : 0 ≤ reached ∧ reached ≤ 10) (b0 : 0 ≤ bel ∧ bel ≤ 2000) (hg : endG step tens bel reached) :
    oK Q1 (g_1462 L xs (eC d) (eC f) (eC e) (eC n) σW σY σK ℓK σH (zI step) (zI tens) (zI bel) (zI reached) (zI ring)) := by
  unfold g_1462
  rw [z_0]
  refine ok_forI1 10 (fun _ => True) (fun again k k0 k1 _ ih => ?_) 20000 0 (by omega) (by omega) trivial (by omega)
  unfold b_L_law_1465
  dsimp only
  have e100 : (100 : Int32) = zI 100 := by decide
  have em : (-1 : Int32) = zI (-1) := by decide
  have e2 : (-2 : Int32) = zI (-2) := by decide
  rw [z_10, z_20, e100, em, e2, z_0, z_1]
  refine ok_ifE (z_le (by omega) (by omega) (by omega) (by omega)) (fun c => t_1582 hL hd hf he h7 r1 r2 hr hp s0 nn0 r0 b0 hg) (fun c => ?_)
  have st := ih (by omega) trivial
  obtain ⟨x, ex, x0, x1⟩ := x_cell hL xs (a := k + 20) (n := 100) (by omega) (by omega) (by omega) (by omega)
  rw [z_add, ex, s_cl, z_add, z_add, z_add]
  have fx := p_faded hd k0 (show k ≤ 9 by omega) x0 (by omega)
  by_cases cr : ring ≤ k
  · have io := itr_out r1 r2 hr cr (show k ≤ 9 by omega)
    have hl : ∀ j, j < ring.toNat + 1 → ¬ rep d k j := by
      rintro j hj ⟨i, hi, h⟩
      obtain ⟨j', rfl⟩ : ∃ j', j = j' + 1 := ⟨j - 1, by omega⟩
      rw [io] at h
      have b1 : ((j' : Int)) % ring < ring := Int.emod_lt_of_pos _ (by omega)
      cases i with
      | zero => have h : k = (j' : Int) % ring := h; omega
      | succ i =>
        rw [io] at h
        exact emod_ne r1 (by omega) (by omega) h
    obtain ⟨f1, f2⟩ := p_round (L := ring.toNat + 1) (e0 := 1) hd k0 (show k ≤ 9 by omega) (by omega) (by omega) (by
      rw [show (1 : Nat) = 0 + 1 from rfl, io, io, Int.toNat_of_nonneg (by omega), Int.emod_self]; simp) hl (fun i hi => by
      obtain rfl : i = 0 := by omega
      rw [io, Int.toNat_of_nonneg (by omega), Int.emod_self]
      show ¬ k = 0
      omega)
    rw [show (((ring.toNat + 1 : Nat) : Int)) = ring + 1 by omega] at f1 f2
    rw [show ring + 1 - ((1 : Nat) : Int) = ring by omega] at f2
    refine ok_ifE (z_le (by omega) (by omega) (by omega) (by omega)) (fun _ => ?_) (fun z => absurd cr z)
    have q : zI ring ≤ zI k := by rw [z_le (by omega) (by omega) (by omega) (by omega)]; exact cr
    refine ok_ifE (z_eq (by omega) (by omega) (by omega) (by omega)) (fun cz => ?_) (fun cz => ?_)
    · subst cz
      rw [fx, s_cl, show itr d (Int.toNat 0) k = k from rfl, if_pos rfl, f2, s_cl, if_pos rfl, f1, s_cl, if_pos q, if_pos rfl]
      exact st
    · have hx : itr d x.toNat k = (x - 1) % ring := by
        rw [show x.toNat = (x - 1).toNat + 1 by omega, io, Int.toNat_of_nonneg (by omega)]
      rw [s_nz (by omega) (by omega) (by omega), z_sub, z_rem (by omega) (by omega) (by omega) (by omega), s_bd, fx, s_cl, hx, if_pos rfl, f2, s_cl, if_pos rfl, f1, s_cl, if_pos q, if_pos rfl]
      exact st
  · have io := itr_in r1 r2 hr k0 (show k < ring by omega)
    have hl : ∀ j, j < ring.toNat → ¬ rep d k j := by
      rintro j hj ⟨i, hi, h⟩
      rw [io, io] at h
      exact emod_ne r1 (by omega) (by omega) h
    obtain ⟨f1, f2⟩ := p_round (L := ring.toNat) (e0 := 0) hd k0 (show k ≤ 9 by omega) (by omega) (by omega) (by
      rw [io, io, Int.toNat_of_nonneg (by omega), Int.add_emod_right]; simp) hl (fun i hi => by omega)
    rw [show (((ring.toNat : Nat) : Int)) = ring by omega] at f1 f2
    rw [show ring - ((0 : Nat) : Int) = ring by omega] at f2
    refine ok_ifE (z_le (by omega) (by omega) (by omega) (by omega)) (fun z => absurd z cr) (fun _ => ?_)
    have q : ¬ zI ring ≤ zI k := by rw [z_le (by omega) (by omega) (by omega) (by omega)]; exact cr
    have hx : itr d x.toNat k = (k + x) % ring := by rw [io, Int.toNat_of_nonneg x0]
    rw [s_nz (by omega) (by omega) (by omega), z_rem (by omega) (by omega) (by omega) (by omega), s_bd, fx, s_cl, hx, if_pos rfl, f2, s_cl, if_pos rfl, f1, s_cl, if_neg q, if_pos rfl]
    exact st
theorem p_fade (hd : okd d) {a v : Int} (a0 : 0 ≤ a) (a1 : a ≤ 9) (v0 : 0 ≤ v) (v1 : v ≤ 9) : f_X6_fade (eC d) (zI a) (zI v) = some (zI (d 4 a), eC (ud d 4 a v)) ∧ okd (ud d 4 a v) := by
  have ca : 0 ≤ a ∧ a ≤ 9 := ⟨a0, a1⟩
  have cb : 0 ≤ v ∧ v ≤ 9 := ⟨v0, v1⟩
  refine ⟨?_, okd_ud hd ?_ ?_⟩
  · unfold f_X6_fade
    simp (disch := omega) only [x_isPlace, x_isHouse, x_isTale, x_within, x_longBetween, x_layRoad, x_doubtOf, x_furnish, x_beliefOf, x_convince, x_fadesInto, x_letFade, s_T, s_F, s_bd, s_cl, s_rd, s_wr, s_ite, z_ite, z_neg, z_add, z_sub, z_mul, z_le, z_lt, z_eq, eC_at, eC_7, eC_8, eC_9, eC_10, eC_11, eC_p7, eC_p8, eC_p9, eC_p10, eC_p11, eC_up, ud_same, ud_ne, if_pos, if_neg, z_0, z_1, z_2, z_3, z_4, z_5, z_6, z_7, z_8, z_9, z_10, z_11, z_12, z_13, z_14, z_15, z_16, z_17, z_18, z_19, z_20, z_21, z_22, z_23, z_24, z_25, z_26, z_27, z_28, z_29, z_30, z_31, z_32, z_33, z_34, z_35, z_36, z_37, z_38, z_39, z_40, z_41, z_42, z_43, z_44, z_45, z_46, z_47, z_48, z_49, z_50, z_51, z_52, z_53, z_54, z_55, z_56, z_57, z_58, z_59, z_60, z_61, z_62, z_63, z_64, z_65, z_66, z_67, z_68, z_69, z_70, z_71, z_72, z_73, z_74, z_75, z_76, z_77, z_78, z_79, z_80, z_81, z_82, z_83, z_84, z_85, z_86, z_87, z_88, z_89, z_90, z_91, z_92, z_93, z_94, z_95, z_96, z_97, z_98, z_99, z_100, z_101, z_102, z_103, z_104, z_105, z_106, z_107, z_108, z_109, z_110, z_111, z_112, z_113, z_114, z_115, z_116, z_117, z_118, z_119, z_120, z_121, z_122, z_123, z_124, z_125, z_126, z_127, z_199, z_200, z_360, z_410, z_1000, z_1023, z_1024, z_1219, z_9999, z_10240, z_65537]
  · show (if a < 0 then a else 0) ≤ v
    rw [if_neg (by omega)]; exact v0
  · show v ≤ (if a < 10 then (9 : Int) else a)
    rw [if_pos (by omega)]; exact v1
theorem t_1405 (hL : L ≤ 260) (hd : okd d) (hf : okd f) (he : clr e) (h7 : d 99 7 = 0) (h4 : ∀ k, 0 ≤ k → k ≤ 9 → d 4 k = k) (hp : d 99 8 = 10) (s0 : 0 ≤ step ∧ step ≤ 100) (nn0 : 0 ≤ tens ∧ tens ≤ 100) (r0 : 0 ≤ reached ∧ reached ≤ 10) (b0 : 0 ≤ bel ∧ bel ≤ 2000) (hg : endG step tens bel reached) :
    oK Q1 (g_1405 L xs (eC d) (eC f) (eC e) (eC n) σW σY σK ℓK σH (zI step) (zI tens) (zI bel) (zI reached)) := by
  obtain ⟨x, ex, x0, x1⟩ := x_cell hL xs (a := 5) (n := 10) (by omega) (by omega) (by omega) (by omega)
  unfold g_1405
  rw [z_5, z_10, ex, s_cl, z_1, z_add, s_bd, z_0]
  refine ok_forI (τ := qS) 10 (fun k u => ∃ d : Nat → Int → Int, u = eC d ∧ okd d ∧ d 99 7 = 0 ∧ d 99 8 = 10 ∧ (∀ j, 0 ≤ j → j < k → d 4 j = if j < 1 + x - 1 then j + 1 else 0) ∧ (∀ j, k ≤ j → j ≤ 9 → d 4 j = j)) (fun again k u k0 k1 hP ih => ?_) 20000 0 (eC d) (by omega) (by omega) ⟨d, rfl, hd, h7, hp, fun j a b => by omega, fun j a b => h4 j a b⟩ (by omega)
  obtain ⟨d, rfl, hd, h7, hp, hr, hi⟩ := hP
  unfold b_L_law_1419
  dsimp only
  rw [z_10, z_1, z_sub, z_0, z_add]
  refine ok_ifE (z_le (by omega) (by omega) (by omega) (by omega)) (fun c => ?_) (fun c => ?_)
  · exact t_1462 hL hd hf he h7 (by omega) (by omega) (fun j a b => hr j a (by omega)) hp s0 nn0 r0 b0 hg
  · have nx : ∀ v : Int, 0 ≤ v → v ≤ 9 → (v = if k < 1 + x - 1 then k + 1 else 0) → oK Q1 (again (zI (k + 1), eC (ud d 4 k v))) := fun v v0 v1 hv => by
      refine ih (by omega) _ ⟨_, rfl, (p_fade hd k0 (by omega) v0 v1).2, by rw [ud_ne _ _ (by omega)]; exact h7, by rw [ud_ne _ _ (by omega)]; exact hp, fun j a b => ?_, fun j a b => ?_⟩
      · by_cases z : j = k
        · rw [z, ud_same, hv]
        · rw [ud_ne _ _ (by omega)]; exact hr j a (by omega)
      · rw [ud_ne _ _ (by omega)]; exact hi j (by omega) b
    have hk := hi k (by omega) (by omega)
    refine ok_ifE (z_le (by omega) (by omega) (by omega) (by omega)) (fun c2 => ?_) (fun c2 => ?_)
    · rw [(p_fade hd k0 (by omega) (v := 0) (by omega) (by omega)).1, s_cl, hk]
      dsimp only
      rw [if_pos rfl]
      exact nx 0 (by omega) (by omega) (by rw [if_neg (by omega)])
    · rw [(p_fade hd k0 (by omega) (v := k + 1) (by omega) (by omega)).1, s_cl, hk]
      dsimp only
      rw [if_pos rfl]
      exact nx (k + 1) (by omega) (by omega) (by rw [if_pos (by omega)])
end SEG4


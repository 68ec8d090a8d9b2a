/-! the law's segments: beds by beds in one house -/
section SEG6
variable {d e f n : Nat → Int → Int} {L : Nat} {xs : Nat → Int32} {σC σD σP σN σW σY σK σH σE : qS} {ℓK κ : qL} {step tens bel reached w t h house doubt : Int}
theorem bed_at (D : Nat → Int → Int) {h x v : Int} (hx : D 99 9 = x) (hv : D 1 h = v) (h2 : D 2 h = 0) (v1 : v ≤ 9) : (x ≤ 5 → bed D h 99 9 = 0) ∧ (5 < x → bed D h 99 9 = x - 5) ∧ (9 * v < x → bed D h 1 h = v ∧ bed D h 3 h = D 99 10) ∧ (¬ 9 * v < x → (v < 9 → bed D h 1 h = v + 1) ∧ (v = 9 → bed D h 1 h = 9) ∧ bed D h 3 h = D 3 h) ∧ bed D h 2 h = 0 ∧ ∀ (k : Nat) (j : Int), ¬ ((k = 1 ∨ k = 2 ∨ k = 3) ∧ j = h) → ¬ (k = 99 ∧ j = 9) → bed D h k j = D k j := by
  unfold bed
  rw [if_pos h2, hx, hv]
  by_cases c : 9 * v < x
  · rw [if_pos c]
    refine ⟨fun z => ?_, fun z => ?_, fun _ => ⟨?_, ?_⟩, fun z => absurd c z, ?_, fun k j z1 z2 => ?_⟩
    · rw [ud_same, if_neg (by omega)]
    · rw [ud_same, if_pos (by omega)]
    · rw [ud_ne _ _ (by omega), ud_ne _ _ (by omega)]; exact hv
    · rw [ud_ne _ _ (by omega), ud_same]
    · rw [ud_ne _ _ (by omega), ud_ne _ _ (by omega)]; exact h2
    · rw [ud_ne _ _ (by omega), ud_ne _ _ (by omega)]
  · rw [if_neg c]
    refine ⟨fun z => ?_, fun z => ?_, fun z => absurd z c, fun _ => ⟨fun z => ?_, fun z => ?_, ?_⟩, ?_, fun k j z1 z2 => ?_⟩
    · rw [ud_same, if_neg (by omega)]
    · rw [ud_same, if_pos (by omega)]
    · rw [ud_ne _ _ (by omega), ud_ne _ _ (by omega), ud_same]; split <;> omega
    · rw [ud_ne _ _ (by omega), ud_ne _ _ (by omega), ud_same, if_neg (by omega)]
    · rw [ud_ne _ _ (by omega), ud_ne _ _ (by omega), ud_ne _ _ (by omega)]
    · rw [ud_ne _ _ (by omega), ud_same]
    · rw [ud_ne _ _ (by omega), ud_ne _ _ (by omega), ud_ne _ _ (by omega)]
/-- a house furnished -/
def fur (d : Nat → Int → Int) (a v w : Int) : Nat → Int → Int := ud (ud d 1 a v) 2 a w
theorem p_house (hd : okd d) {a v w : Int} (a0 : 0 ≤ a) (a1 : a ≤ 9) (v0 : 0 ≤ v) (v1 : v ≤ 9) (w0 : 0 ≤ w) (w1 : w ≤ 1) : f_X6_house (eC d) (zI a) (zI v) (zI w) = some (zI (d 1 a), eC (fur d a v w)) ∧ okd (fur d a v w) := by
  have ca : 0 ≤ a ∧ a ≤ 9 := ⟨a0, a1⟩
  have cb : 0 ≤ v ∧ v ≤ 9 := ⟨v0, v1⟩
  have cv : 0 ≤ w ∧ w ≤ 1 := ⟨w0, w1⟩
  refine ⟨?_, okd_ud (okd_ud hd (show (0 : Int) ≤ v by omega) (show v ≤ (9 : Int) by omega)) (show (0 : Int) ≤ w by omega) (show w ≤ (1 : Int) by omega)⟩
  unfold f_X6_house fur
  simp (disch := omega) only [x_isPlace, x_isHouse, x_isTale, x_within, x_longBetween, x_layRoad, x_doubtOf, x_furnish, x_beliefOf, x_convince, x_fadesInto, x_letFade, s_T, s_F, s_bd, s_cl, s_rd, s_wr, s_ite, z_ite, z_neg, z_add, z_sub, z_mul, z_le, z_lt, z_eq, eC_at, eC_7, eC_8, eC_9, eC_10, eC_11, eC_p7, eC_p8, eC_p9, eC_p10, eC_p11, eC_up, ud_same, ud_ne, if_pos, if_neg, z_0, z_1, z_2, z_3, z_4, z_5, z_6, z_7, z_8, z_9, z_10, z_11, z_12, z_13, z_14, z_15, z_16, z_17, z_18, z_19, z_20, z_21, z_22, z_23, z_24, z_25, z_26, z_27, z_28, z_29, z_30, z_31, z_32, z_33, z_34, z_35, z_36, z_37, z_38, z_39, z_40, z_41, z_42, z_43, z_44, z_45, z_46, z_47, z_48, z_49, z_50, z_51, z_52, z_53, z_54, z_55, z_56, z_57, z_58, z_59, z_60, z_61, z_62, z_63, z_64, z_65, z_66, z_67, z_68, z_69, z_70, z_71, z_72, z_73, z_74, z_75, z_76, z_77, z_78, z_79, z_80, z_81, z_82, z_83, z_84, z_85, z_86, z_87, z_88, z_89, z_90, z_91, z_92, z_93, z_94, z_95, z_96, z_97, z_98, z_99, z_100, z_101, z_102, z_103, z_104, z_105, z_106, z_107, z_108, z_109, z_110, z_111, z_112, z_113, z_114, z_115, z_116, z_117, z_118, z_119, z_120, z_121, z_122, z_123, z_124, z_125, z_126, z_127, z_199, z_200, z_360, z_410, z_1000, z_1023, z_1024, z_1219, z_9999, z_10240, z_65537]
theorem fur_ne {a v w : Int} (k : Nat) (i : Int) (z : ¬ ((k = 1 ∨ k = 2) ∧ i = a)) : fur d a v w k i = d k i := by
  unfold fur
  rw [ud_ne _ _ (by omega), ud_ne _ _ (by omega)]
theorem fur_1 {a v w : Int} : fur d a v w 1 a = v := by
  unfold fur
  rw [ud_ne _ _ (by omega), ud_same]
theorem fur_2 {a v w : Int} : fur d a v w 2 a = w := ud_same _ _ _ _
def btL (s l i : Nat) : Bool := !(s.testBit l && s.testBit i && !(i == l)) || (s - 2 ^ l).testBit i
theorem btL_32 : ∀ a : Nat, a < 32 → ∀ b : Nat, b < 32 → ∀ l : Nat, l < 10 → ∀ i : Nat, i < 10 → btL (32 * a + b) l i = true := by decide +kernel
theorem bt_less {s l i : Nat} (hs : s < 1024) (hl : l < 10) (hi : i < 10) (h1 : s.testBit l = true) (h2 : s.testBit i = true) (h3 : ¬ i = l) : (s - 2 ^ l).testBit i = true := by
  have h := btL_32 (s / 32) (by omega) (s % 32) (by omega) l hl i hi
  rw [show 32 * (s / 32) + s % 32 = s by omega] at h
  unfold btL at h
  rw [h1, h2] at h
  simpa [h3] using h
/-- none of a set that can be is damp -/
theorem can_dry {h : Int} : ∀ s : Nat, s < 1024 → ∀ l : Nat, l < 10 → 0 ≤ VR d h s l → ∀ i : Nat, s.testBit i = true → i < 10 → d 2 i = 0 := by
  intro s
  induction s using Nat.strongRecOn with
  | ind s ih =>
    intro hs l hl hv i hi hi10
    have gd : ∀ x, 0 ≤ gHt d x l → d 2 l = 0 := fun x hx => by
      unfold gHt at hx
      by_cases c : d 2 l = 0
      · exact c
      · rw [if_neg (fun z => c z.1)] at hx; omega
    rw [VR_eq hs hl] at hv
    unfold pull at hv
    by_cases c : s.testBit l = true
    · rw [if_pos c] at hv
      by_cases c2 : s = 2 ^ l
      · rw [if_pos c2] at hv
        have : i = l := by
          rw [c2, Nat.testBit_two_pow] at hi
          exact (of_decide_eq_true hi).symm
        rw [this]; exact gd _ hv
      · rw [if_neg c2] at hv
        obtain ⟨b1, b2, b3⟩ := bt_in hs hl c
        obtain ⟨o1, o2, o3, o4⟩ := bt_one l hl
        have mx : ∀ p, 0 ≤ mxB d (VR d h) (s - 2 ^ l) l p → ∃ q, q < p ∧ (s - 2 ^ l).testBit q = true ∧ 0 ≤ VR d h (s - 2 ^ l) q ∧ 0 ≤ gHt d (VR d h (s - 2 ^ l) q - Wy d ((q : Int) * 11 + l)) l := by
          intro p
          induction p with
          | zero => intro hz; exact absurd hz (show ¬ (0 : Int) ≤ -1 by decide)
          | succ p ihp =>
            intro hz
            unfold mxB at hz
            by_cases c3 : (s - 2 ^ l).testBit p = true ∧ 0 ≤ VR d h (s - 2 ^ l) p ∧ mxB d (VR d h) (s - 2 ^ l) l p < gHt d (VR d h (s - 2 ^ l) p - Wy d ((p : Int) * 11 + l)) l
            · rw [if_pos c3] at hz
              exact ⟨p, by omega, c3.1, c3.2.1, hz⟩
            · rw [if_neg c3] at hz
              obtain ⟨q, q1, q2⟩ := ihp hz
              exact ⟨q, by omega, q2⟩
        obtain ⟨q, q1, q2, q3, q4⟩ := mx 10 hv
        by_cases e : i = l
        · rw [e]; exact gd _ q4
        · refine ih (s - 2 ^ l) (by omega) (by omega) q q1 q3 i ?_ hi10
          exact bt_less hs hl hi10 c hi e
    · rw [if_neg c] at hv; omega
end SEG6


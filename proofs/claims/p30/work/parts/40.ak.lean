def n0 (n : Nat → Int → Int) : Nat → Int → Int := ud (ud (ud (ud (ud (ud n 99 0 0) 99 1 0) 99 2 (-6)) 99 3 (-6)) 99 4 (-6)) 99 5 (-6)
theorem mst_n0 (n : Nat → Int → Int) : mst (n0 n) := by
  unfold mst n0
  refine ⟨?_, ?_, ?_, ?_, ?_, ?_⟩ <;> simp (disch := omega) only [ud_same, ud_ne]
theorem pss_ok {e : Nat → Int → Int} (he : okp e) {n d : Nat → Int → Int} (hd : okd d) (hn : mst n) : okd (pss e n d).2.2 ∧ oth d (pss e n d).2.2 ∧ ((pss e n d).1 = -5 ∨ (pss e n d).1 = 0 ∨ (pss e n d).1 = -3) := by
  unfold pss
  by_cases c : fl e 20000 0 = -6
  · rw [if_pos c]
    have h := run_ok he 20000 0 n d (by omega) hd c hn.2.2.1 ⟨by have := hn.1; omega, by have := hn.1; omega⟩
    exact ⟨h.1, h.2.1, by rcases h.2.2 with z | z <;> omega⟩
  · rw [if_neg c]
    exact ⟨hd, oth_rf d, Or.inl rfl⟩
theorem x_pass {e n d f : Nat → Int → Int} (he : okp e) (hd : okd d) (hf : okd f) : ∃ f', f_X2_pass (eC n) (eC e) (eC f) (eC d) = some (zI (pss e (n0 n) d).1, eC (pss e (n0 n) d).2.1, eC f') ∧ okd f' ∧ (¬ (pss e (n0 n) d).1 = -5 → f' = (pss e (n0 n) d).2.2) := by
  have hl := he.2
  have hm := mst_n0 n
  have hb := fl_b he 20000 0 (by omega)
  have e1 : q_pt (q_pt (q_pt (q_pt (q_pt (q_pt (eC n) 0 (0 : Int32)) 1 (0 : Int32)) 2 (-6 : Int32)) 3 (-6 : Int32)) 4 (-6 : Int32)) 5 (-6 : Int32) = eC (n0 n) := by
    unfold n0
    simp (disch := omega) only [eC_p0, eC_p1, eC_p2, eC_p3, eC_p4, eC_p5, s_T, s_F, s_bd, s_cl, s_rd, s_wr, s_ite, z_ite, z_neg, z_add, z_sub, z_mul, z_le, z_lt, z_eq, eC_at, eC_7, eC_8, eC_9, eC_10, eC_11, eC_p7, eC_p8, eC_p9, eC_p10, eC_p11, eC_up, ud_same, ud_ne, if_pos, if_neg, z_0, z_1, z_2, z_3, z_4, z_5, z_6, z_7, z_8, z_9, z_10, z_11, z_12, z_13, z_14, z_15, z_16, z_17, z_18, z_19, z_20, z_21, z_22, z_23, z_24, z_25, z_26, z_27, z_28, z_29, z_30, z_31, z_32, z_33, z_34, z_35, z_36, z_37, z_38, z_39, z_40, z_41, z_42, z_43, z_44, z_45, z_46, z_47, z_48, z_49, z_50, z_51, z_52, z_53, z_54, z_55, z_56, z_57, z_58, z_59, z_60, z_61, z_62, z_63, z_64, z_65, z_66, z_67, z_68, z_69, z_70, z_71, z_72, z_73, z_74, z_75, z_76, z_77, z_78, z_79, z_80, z_81, z_82, z_83, z_84, z_85, z_86, z_87, z_88, z_89, z_90, z_91, z_92, z_93, z_94, z_95, z_96, z_97, z_98, z_99, z_100, z_101, z_102, z_103, z_104, z_105, z_106, z_107, z_108, z_109, z_110, z_111, z_112, z_113, z_114, z_115, z_116, z_117, z_118, z_119, z_120, z_121, z_122, z_123, z_124, z_125, z_126, z_127, z_199, z_200, z_360, z_410, z_1000, z_1023, z_1024, z_1219, z_9999, z_10240, z_65537]
  unfold f_X2_pass
  simp only [s_bd]
  rw [e1, x_faultPlace he, s_cl]
  unfold pss
  by_cases c : fl e 20000 0 = -6
  · rw [if_pos c, c, if_pos (by decide), x_copyFrom f d hf hd, s_cl, z_0]
    have h := run_ok he 20000 0 (n0 n) d (by omega) hd c hm.2.2.1 ⟨by have := hm.1; omega, by have := hm.1; omega⟩
    refine ⟨_, ?_, h.1, fun _ => rfl⟩
    exact x_run he 20000 (0, n0 n, d) ⟨⟨by dsimp only; omega, by dsimp only; omega, by dsimp only; omega⟩, ⟨by have := hm.1; dsimp only; omega, by have := hm.2.1; dsimp only; omega, by have := hm.2.2.2.2.1; dsimp only; omega⟩, hd, c⟩
  · rw [if_neg c, if_neg (by rw [z_6, z_neg, z_eq (by omega) (by omega) (by omega) (by omega)]; exact c)]
    exact ⟨f, rfl, hf, fun z => absurd rfl z⟩
section NIGHTS
variable {m d e n f : Nat → Int → Int} {τ : qL}
/-- who believes a tale, as bits -/
def bts (d : Nat → Int → Int) (a : Int32) : Nat → Int → Int32 → Int32
  | 0, _, s => s
  | N + 1, i, s => if 10 ≤ i then s else bts d a N (i + 1) (if zI (d 3 i) = a then s ||| ((1 : Int32) <<< (zI i &&& 31)) else s)
theorem x_believersOf (a : Int32) : f_X1_believersOf (eC d) a = some (bts d a 20000 0 0) := by
  unfold f_X1_believersOf
  have key := lp_en (body := b_X1_believersOf_4 (eC d) a) (k := fun z1 => some z1.2) (fun s : Int × Int32 => (zI s.1, s.2)) (fun N s => some (bts d a N s.1 s.2)) (fun N s => 0 ≤ s.1 ∧ s.1 ≤ 10 ∧ (10 - s.1).toNat < N) (fun s => by omega) (by
    rintro again N ⟨i, s⟩ ⟨h0, h1, h2⟩ ih
    dsimp only at h0 h1 h2 ⊢
    unfold b_X1_believersOf_4 bts
    dsimp only
    rw [z_s1, z_10]
    by_cases c : i < 10
    · have ih' := ih (i + 1, if zI (d 3 i) = a then s ||| ((1 : Int32) <<< (zI i &&& 31)) else s) ⟨by dsimp only; omega, by dsimp only; omega, by dsimp only; omega⟩
      dsimp only at ih'
      rw [if_neg (c_nle c h0 (by omega)), if_neg (by omega), s_rd (n := 10) h0 (by omega) (by omega), eC_at _ _ h0, ← ih']
      by_cases c2 : zI (d 3 i) = a
      · rw [if_pos c2, if_pos c2]; rfl
      · rw [if_neg c2, if_neg c2]
    · rw [if_pos (c_le (a := 10) (b := i) (by omega) (by omega) (by omega)), if_pos (by omega)]) 20000 (0, 0) ⟨Int.le_refl 0, by show (0 : Int) ≤ 10; decide, by show ((10 : Int) - 0).toNat < 20000; decide⟩
  exact key
end NIGHTS


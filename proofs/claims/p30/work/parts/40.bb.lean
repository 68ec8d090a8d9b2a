/-! nights as lists of acts: the kind, what of, the tens -/
abbrev Act : Type := Int × Int × Int
def ln (x : Act) : Int := if x.1 = 0 then 3 else 1
def sgn (e : Nat → Int → Int) (a : Int) (x : Act) : Prop := 0 ≤ x.1 ∧ kdc (e 0 a) = x.1 ∧ (x.1 = 0 → (0 ≤ x.2.1 ∧ x.2.1 ≤ 9) ∧ (1 ≤ x.2.2 ∧ x.2.2 ≤ 9) ∧ e 0 (a + 1) = 48 + x.2.1 ∧ e 0 (a + 2) = 48 + x.2.2) ∧ (x.1 ≠ 0 → plc (e 0 a) = x.2.1)
def spl (e : Nat → Int → Int) : List Act → Int → Int → Prop
  | [], a, b => a = b
  | x :: l, a, b => sgn e a x ∧ spl e l (a + ln x) b
def acd (d : Nat → Int → Int) (x : Act) : Nat → Int → Int := actd d x.1 x.2.1 (10 * x.2.2)
def goD : List Act → (Nat → Int → Int) → Nat → Int → Int
  | [], d => d
  | x :: l, d => goD l (acd d x)
def goN : List Act → (Nat → Int → Int) → (Nat → Int → Int) → Nat → Int → Int
  | [], n, _ => n
  | x :: l, n, d => goN l (stN n d (acd d x) x.1) (acd d x)
def can : List Act → (Nat → Int → Int) → Prop
  | [], _ => True
  | x :: l, d => rsn d x.1 x.2.1 = 0 ∧ can l (acd d x)
theorem ln_p (x : Act) : 1 ≤ ln x ∧ ln x ≤ 3 := by unfold ln; split <;> omega
section NIGHT
variable {d e n f : Nat → Int → Int}
theorem goD_app : ∀ (l k : List Act) (d : Nat → Int → Int), goD (l ++ k) d = goD k (goD l d) := by
  intro l
  induction l with
  | nil => intro k d; rfl
  | cons x l ih => intro k d; exact ih k (acd d x)
theorem goN_app : ∀ (l k : List Act) (n d : Nat → Int → Int), goN (l ++ k) n d = goN k (goN l n d) (goD l d) := by
  intro l
  induction l with
  | nil => intro k n d; rfl
  | cons x l ih => intro k n d; exact ih k _ (acd d x)
theorem can_app : ∀ (l k : List Act) (d : Nat → Int → Int), can (l ++ k) d ↔ can l d ∧ can k (goD l d) := by
  intro l
  induction l with
  | nil => intro k d; exact ⟨fun h => ⟨trivial, h⟩, fun h => h.2⟩
  | cons x l ih =>
    intro k d
    show (rsn d x.1 x.2.1 = 0 ∧ can (l ++ k) (acd d x)) ↔ ((rsn d x.1 x.2.1 = 0 ∧ can l (acd d x)) ∧ can k (goD l (acd d x)))
    rw [ih k (acd d x), and_assoc]
theorem spl_app : ∀ (l k : List Act) (a c : Int), spl e (l ++ k) a c ↔ ∃ b, spl e l a b ∧ spl e k b c := by
  intro l
  induction l with
  | nil => intro k a c; exact ⟨fun h => ⟨a, rfl, h⟩, fun ⟨b, h1, h2⟩ => by have h1 : a = b := h1; subst h1; exact h2⟩
  | cons x l ih =>
    intro k a c
    show (sgn e a x ∧ spl e (l ++ k) (a + ln x) c) ↔ ∃ b, (sgn e a x ∧ spl e l (a + ln x) b) ∧ spl e k b c
    rw [ih k (a + ln x) c]
    exact ⟨fun ⟨h1, b, h2, h3⟩ => ⟨b, ⟨h1, h2⟩, h3⟩, fun ⟨b, ⟨h1, h2⟩, h3⟩ => ⟨h1, b, h2, h3⟩⟩
theorem spl_len : ∀ (l : List Act) (a b : Int), spl e l a b → a + l.length ≤ b := by
  intro l
  induction l with
  | nil => intro a b h; have h : a = b := h; subst h; simp
  | cons x l ih =>
    intro a b h
    have := ih _ _ h.2
    have := ln_p x
    rw [List.length_cons]; omega
theorem sgn_act {a : Int} {x : Act} (h : sgn e a x) (a0 : 0 ≤ a) (ha : a + ln x ≤ e 99 1) : kdc (sg e a) = x.1 ∧ wht e a = x.2.1 ∧ ∀ d, actd d x.1 x.2.1 (10 * (sg e (a + 2) - 48)) = acd d x := by
  obtain ⟨h0, h1, h2, h3⟩ := h
  have hl := ln_p x
  have e1 : sg e a = e 0 a := sg_in a0 (by omega)
  unfold wht
  rw [e1, h1]
  by_cases c : x.1 = 0
  · obtain ⟨k1, k2, k3, k4⟩ := h2 c
    have l3 : ln x = 3 := if_pos c
    rw [if_pos c, sg_in (by omega) (by omega), sg_in (by omega) (by omega), k3, k4]
    exact ⟨rfl, by omega, fun d => by unfold acd; rw [show 10 * (48 + x.2.2 - 48) = 10 * x.2.2 by omega]⟩
  · rw [if_neg c]
    exact ⟨rfl, h3 c, fun d => actd_c (fun z => absurd z c) (fun _ => rfl)⟩
theorem spl_fl : ∀ (l : List Act) (a b : Int) (M : Nat), spl e l a b → 0 ≤ a → b ≤ e 99 1 → fl e (M + l.length) a = fl e M b := by
  intro l
  induction l with
  | nil => intro a b M h _ _; have h : a = b := h; rw [h]; rfl
  | cons x l ih =>
    intro a b M h a0 hb
    have hl := ln_p x
    have hlen := spl_len _ _ _ h.2
    obtain ⟨k1, k2, k3⟩ := sgn_act h.1 a0 (by omega)
    rw [← ih (a + ln x) b M h.2 (by omega) hb]
    show fl e ((M + l.length) + 1) a = _
    obtain ⟨h0, h1, h2, h3⟩ := h.1
    have e1 : sg e a = e 0 a := sg_in a0 (by omega)
    unfold fl
    rw [if_neg (by omega), k1, if_neg (by omega)]
    by_cases c : x.1 = 0
    · obtain ⟨j1, j2, j3, j4⟩ := h2 c
      have l3 : ln x = 3 := if_pos c
      have q1 : sg e (a + 1) = 48 + x.2.1 := by rw [sg_in (by omega) (by omega), j3]
      have q2 : sg e (a + 2) = 48 + x.2.2 := by rw [sg_in (by omega) (by omega), j4]
      rw [if_pos c, q1, q2, if_pos (by omega), if_pos (by omega), l3]
      cases (M + l.length) <;> rfl
    · have l1 : ln x = 1 := if_neg c
      rw [if_neg c, l1]
      cases (M + l.length) <;> rfl
theorem spl_run : ∀ (l : List Act) (a b : Int) (M : Nat) (n d : Nat → Int → Int), spl e l a b → 0 ≤ a → b ≤ e 99 1 → can l d → run e (M + l.length) a n d = run e M b (goN l n d) (goD l d) := by
  intro l
  induction l with
  | nil => intro a b M n d h _ _ _; have h : a = b := h; rw [h]; rfl
  | cons x l ih =>
    intro a b M n d h a0 hb hc
    have hl := ln_p x
    have hlen := spl_len _ _ _ h.2
    obtain ⟨k1, k2, k3⟩ := sgn_act h.1 a0 (by omega)
    have := ih (a + ln x) b M (stN n d (acd d x) x.1) (acd d x) h.2 (by omega) hb hc.2
    show run e ((M + l.length) + 1) a n d = run e M b (goN l (stN n d (acd d x) x.1) (acd d x)) (goD l (acd d x))
    rw [← this]
    show (if e 99 1 ≤ a then _ else _) = _
    rw [if_neg (by omega), k1, k2, k3 d, if_pos hc.1]
    by_cases c : x.1 = 0
    · rw [if_pos c, show ln x = 3 from if_pos c]
    · rw [if_neg c, show ln x = 1 from if_neg c]
theorem run_end {M : Nat} {a : Int} (h : e 99 1 ≤ a) : run e M a n d = (0, n, d) := by
  cases M with
  | zero => rfl
  | succ M => exact if_pos h
theorem fl_end {M : Nat} {a : Int} (h : e 99 1 ≤ a) : fl e M a = -6 := by
  cases M with
  | zero => rfl
  | succ M => exact if_pos h
theorem pss_go (he : okp e) {l : List Act} (hs : spl e l 0 (e 99 1)) (hc : can l d) : pss e n d = (0, goN l n d, goD l d) := by
  have hl := spl_len _ _ _ hs
  have h60 := he.2
  have e1 : 20000 = (20000 - l.length) + l.length := by omega
  unfold pss
  rw [e1, spl_fl l 0 _ _ hs (by omega) (by omega), fl_end (by omega), if_pos rfl, spl_run l 0 _ _ n d hs (by omega) (by omega) hc, run_end (by omega)]
theorem pss_stop (he : okp e) {l : List Act} {x : Act} (hs : spl e (l ++ [x]) 0 (e 99 1)) (hc : can l d) (hr : ¬ rsn (goD l d) x.1 x.2.1 = 0) : pss e n d = (-3, ud (ud (goN l n d) 99 2 (goN l n d 99 0)) 99 3 (rsn (goD l d) x.1 x.2.1), goD l d) := by
  have hl := spl_len _ _ _ hs
  have h60 := he.2
  obtain ⟨b, h1, h2⟩ := (spl_app l [x] 0 (e 99 1)).mp hs
  have h3 : b + ln x = e 99 1 := h2.2
  have hp := ln_p x
  have hl2 := spl_len _ _ _ h1
  rw [List.length_append, List.length_singleton] at hl
  obtain ⟨k1, k2, k3⟩ := sgn_act h2.1 (by omega) (by omega)
  have e1 : 20000 = (19999 - l.length + 1) + l.length := by omega
  have e2 : 20000 = (20000 - (l ++ [x]).length) + (l ++ [x]).length := by rw [List.length_append, List.length_singleton]; omega
  unfold pss
  have f1 : fl e 20000 0 = -6 := by
    rw [e2, spl_fl _ 0 _ _ hs (by omega) (by omega), fl_end (by omega)]
  rw [f1, if_pos rfl, e1, spl_run l 0 _ _ n d h1 (by omega) (by omega) hc]
  show (if e 99 1 ≤ b then _ else _) = _
  rw [if_neg (by omega), k1, k2, if_neg hr]
/-- one more sign -/
def sy (e : Nat → Int → Int) (c : Int) : Nat → Int → Int := ud (ud e 0 (e 99 1) c) 99 1 (e 99 1 + 1)
theorem sy_1 (c : Int) : sy e c 99 1 = e 99 1 + 1 := ud_same _ _ _ _
theorem sy_0 (c i : Int) : sy e c 0 i = if i = e 99 1 then c else e 0 i := by
  unfold sy
  rw [ud_ne _ _ (Or.inl (by decide))]
  unfold ud
  by_cases z : i = e 99 1
  · rw [if_pos ⟨rfl, z⟩, if_pos z]
  · rw [if_neg (fun y => z y.2), if_neg z]
theorem sy_ok (he : okp e) {c : Int} (c0 : 33 ≤ c) (c1 : c ≤ 126) (hn : e 99 1 < 60) : okp (sy e c) := by
  refine ⟨fun i => ?_, ?_⟩
  · rw [sy_0]; split
    · omega
    · exact he.1 i
  · have := he.2
    rw [sy_1]; omega
theorem p_say (he : okp e) {c : Int} (c0 : 33 ≤ c) (c1 : c ≤ 126) (hn : e 99 1 < 60) : f_X6_say (eC e) (zI c) = some (zI (e 99 1 + 1), eC (sy e c)) := by
  have h := he.2
  have ca : 33 ≤ c ∧ c ≤ 126 := ⟨c0, c1⟩
  have cf : ¬ e 99 1 = 60 := by omega
  unfold f_X6_say f_X3_add f_X3_size sy
  simp (disch := omega) only [x_isPlace, x_isHouse, x_isTale, x_within, x_longBetween, x_layRoad, x_doubtOf, x_furnish, x_beliefOf, x_convince, x_fadesInto, x_letFade, eC_1, eC_p1, s_T, s_F, s_bd, s_cl, s_rd, s_wr, s_ite, z_ite, z_neg, z_add, z_sub, z_mul, z_le, z_lt, z_eq, eC_at, eC_7, eC_8, eC_9, eC_10, eC_11, eC_p7, eC_p8, eC_p9, eC_p10, eC_p11, eC_up, ud_same, ud_ne, if_pos, if_neg, z_0, z_1, z_2, z_3, z_4, z_5, z_6, z_7, z_8, z_9, z_10, z_11, z_12, z_13, z_14, z_15, z_16, z_17, z_18, z_19, z_20, z_21, z_22, z_23, z_24, z_25, z_26, z_27, z_28, z_29, z_30, z_31, z_32, z_33, z_34, z_35, z_36, z_37, z_38, z_39, z_40, z_41, z_42, z_43, z_44, z_45, z_46, z_47, z_48, z_49, z_50, z_51, z_52, z_53, z_54, z_55, z_56, z_57, z_58, z_59, z_60, z_61, z_62, z_63, z_64, z_65, z_66, z_67, z_68, z_69, z_70, z_71, z_72, z_73, z_74, z_75, z_76, z_77, z_78, z_79, z_80, z_81, z_82, z_83, z_84, z_85, z_86, z_87, z_88, z_89, z_90, z_91, z_92, z_93, z_94, z_95, z_96, z_97, z_98, z_99, z_100, z_101, z_102, z_103, z_104, z_105, z_106, z_107, z_108, z_109, z_110, z_111, z_112, z_113, z_114, z_115, z_116, z_117, z_118, z_119, z_120, z_121, z_122, z_123, z_124, z_125, z_126, z_127, z_199, z_200, z_360, z_410, z_1000, z_1023, z_1024, z_1219, z_9999, z_10240, z_65537]
theorem p_sayF (he : okp e) {c : Int} (c0 : 33 ≤ c) (c1 : c ≤ 126) (hn : e 99 1 = 60) : f_X6_say (eC e) (zI c) = some (zI (-4), eC e) := by
  have ca : 33 ≤ c ∧ c ≤ 126 := ⟨c0, c1⟩
  unfold f_X6_say f_X3_add
  simp (disch := omega) only [x_isPlace, x_isHouse, x_isTale, x_within, x_longBetween, x_layRoad, x_doubtOf, x_furnish, x_beliefOf, x_convince, x_fadesInto, x_letFade, eC_1, s_T, s_F, s_bd, s_cl, s_rd, s_wr, s_ite, z_ite, z_neg, z_add, z_sub, z_mul, z_le, z_lt, z_eq, eC_at, eC_7, eC_8, eC_9, eC_10, eC_11, eC_p7, eC_p8, eC_p9, eC_p10, eC_p11, eC_up, ud_same, ud_ne, if_pos, if_neg, z_0, z_1, z_2, z_3, z_4, z_5, z_6, z_7, z_8, z_9, z_10, z_11, z_12, z_13, z_14, z_15, z_16, z_17, z_18, z_19, z_20, z_21, z_22, z_23, z_24, z_25, z_26, z_27, z_28, z_29, z_30, z_31, z_32, z_33, z_34, z_35, z_36, z_37, z_38, z_39, z_40, z_41, z_42, z_43, z_44, z_45, z_46, z_47, z_48, z_49, z_50, z_51, z_52, z_53, z_54, z_55, z_56, z_57, z_58, z_59, z_60, z_61, z_62, z_63, z_64, z_65, z_66, z_67, z_68, z_69, z_70, z_71, z_72, z_73, z_74, z_75, z_76, z_77, z_78, z_79, z_80, z_81, z_82, z_83, z_84, z_85, z_86, z_87, z_88, z_89, z_90, z_91, z_92, z_93, z_94, z_95, z_96, z_97, z_98, z_99, z_100, z_101, z_102, z_103, z_104, z_105, z_106, z_107, z_108, z_109, z_110, z_111, z_112, z_113, z_114, z_115, z_116, z_117, z_118, z_119, z_120, z_121, z_122, z_123, z_124, z_125, z_126, z_127, z_199, z_200, z_360, z_410, z_1000, z_1023, z_1024, z_1219, z_9999, z_10240, z_65537]
theorem p_wipe (he : okp e) : f_X6_wipe (eC e) = some (zI (e 99 1), eC (ud e 99 1 0)) := by
  unfold f_X6_wipe f_X3_size f_X3_clear
  simp (disch := omega) only [eC_1, eC_p1, s_T, s_F, s_bd, s_cl, s_rd, s_wr, s_ite, z_ite, z_neg, z_add, z_sub, z_mul, z_le, z_lt, z_eq, eC_at, eC_7, eC_8, eC_9, eC_10, eC_11, eC_p7, eC_p8, eC_p9, eC_p10, eC_p11, eC_up, ud_same, ud_ne, if_pos, if_neg, z_0, z_1, z_2, z_3, z_4, z_5, z_6, z_7, z_8, z_9, z_10, z_11, z_12, z_13, z_14, z_15, z_16, z_17, z_18, z_19, z_20, z_21, z_22, z_23, z_24, z_25, z_26, z_27, z_28, z_29, z_30, z_31, z_32, z_33, z_34, z_35, z_36, z_37, z_38, z_39, z_40, z_41, z_42, z_43, z_44, z_45, z_46, z_47, z_48, z_49, z_50, z_51, z_52, z_53, z_54, z_55, z_56, z_57, z_58, z_59, z_60, z_61, z_62, z_63, z_64, z_65, z_66, z_67, z_68, z_69, z_70, z_71, z_72, z_73, z_74, z_75, z_76, z_77, z_78, z_79, z_80, z_81, z_82, z_83, z_84, z_85, z_86, z_87, z_88, z_89, z_90, z_91, z_92, z_93, z_94, z_95, z_96, z_97, z_98, z_99, z_100, z_101, z_102, z_103, z_104, z_105, z_106, z_107, z_108, z_109, z_110, z_111, z_112, z_113, z_114, z_115, z_116, z_117, z_118, z_119, z_120, z_121, z_122, z_123, z_124, z_125, z_126, z_127, z_199, z_200, z_360, z_410, z_1000, z_1023, z_1024, z_1219, z_9999, z_10240, z_65537]
theorem wipe_ok (he : okp e) : okp (ud e 99 1 0) := ⟨fun i => by rw [ud_ne _ _ (Or.inl (by decide))]; exact he.1 i, by rw [ud_same]; omega⟩
theorem spl_c {e e' : Nat → Int → Int} : ∀ (l : List Act) (a b : Int), (∀ i, a ≤ i → i < b → e' 0 i = e 0 i) → spl e l a b → spl e' l a b := by
  intro l
  induction l with
  | nil => intro a b _ h; exact h
  | cons x l ih =>
    intro a b he h
    have hl := ln_p x
    have hlen := spl_len _ _ _ h.2
    refine ⟨?_, ih _ _ (fun i i0 i1 => he i (by omega) i1) h.2⟩
    obtain ⟨h0, h1, h2, h3⟩ := h.1
    unfold sgn
    rw [he a (by omega) (by omega)]
    refine ⟨h0, h1, fun z => ?_, h3⟩
    have l3 : ln x = 3 := if_pos z
    rw [he (a + 1) (by omega) (by omega), he (a + 2) (by omega) (by omega)]
    exact h2 z
theorem spl_one {l : List Act} (hs : spl e l 0 (e 99 1)) {c k : Int} (hk : kdc c = k) (k1 : 1 ≤ k) : spl (sy e c) (l ++ [(k, plc c, 0)]) 0 (e 99 1 + 1) := by
  refine (spl_app l _ 0 _).mpr ⟨e 99 1, spl_c l 0 _ (fun i i0 i1 => by rw [sy_0, if_neg (by omega)]) hs, ?_, ?_⟩
  · unfold sgn
    rw [sy_0, if_pos rfl]
    exact ⟨by omega, hk, fun z => by have z : k = 0 := z; omega, fun _ => rfl⟩
  · show e 99 1 + ln _ = _
    unfold ln
    rw [if_neg (by dsimp only; omega)]
theorem spl_fill {l : List Act} (hs : spl e l 0 (e 99 1)) {w t : Int} (w0 : 0 ≤ w) (w1 : w ≤ 9) (t0 : 1 ≤ t) (t1 : t ≤ 9) : spl (sy (sy (sy e 61) (48 + w)) (48 + t)) (l ++ [(0, w, t)]) 0 (e 99 1 + 3) := by
  refine (spl_app l _ 0 _).mpr ⟨e 99 1, spl_c l 0 _ (fun i i0 i1 => by rw [sy_0, sy_1, sy_1, if_neg (by omega), sy_0, sy_1, if_neg (by omega), sy_0, if_neg (by omega)]) hs, ?_, ?_⟩
  · unfold sgn
    rw [sy_0, sy_1, sy_1, if_neg (by omega), sy_0, sy_1, if_neg (by omega), sy_0, if_pos rfl]
    refine ⟨by show (0 : Int) ≤ 0; decide, by show kdc 61 = 0; decide, fun _ => ⟨⟨w0, w1⟩, ⟨t0, t1⟩, ?_, ?_⟩, fun z => absurd rfl z⟩
    · rw [sy_0, sy_1, sy_1, if_neg (by omega), sy_0, sy_1, if_pos rfl]
    · rw [sy_0, sy_1, sy_1, if_pos (by omega)]
  · rfl
theorem goN_0 : ∀ (l : List Act) (n d : Nat → Int → Int), goN l n d 99 0 = n 99 0 + l.length := by
  intro l
  induction l with
  | nil => intro n d; show n 99 0 = n 99 0 + (0 : Nat); omega
  | cons x l ih =>
    intro n d
    show goN l _ _ 99 0 = _
    rw [ih, List.length_cons]
    have : stN n d (acd d x) x.1 99 0 = n 99 0 + 1 := by
      unfold stN
      split <;> split <;> simp (disch := omega) only [ud_same, ud_ne]
    rw [this]; omega
/-- how many beds -/
def bds : List Act → Int
  | [] => 0
  | x :: l => (if x.1 = 2 then 1 else 0) + bds l
theorem bds_app : ∀ (l k : List Act), bds (l ++ k) = bds l + bds k := by
  intro l
  induction l with
  | nil => intro k; show bds k = 0 + bds k; omega
  | cons x l ih => intro k; show (if x.1 = 2 then 1 else 0) + bds (l ++ k) = (if x.1 = 2 then 1 else 0) + bds l + bds k; rw [ih]; omega
theorem goN_1 : ∀ (l : List Act) (n d : Nat → Int → Int), goN l n d 99 1 = n 99 1 + bds l := by
  intro l
  induction l with
  | nil => intro n d; show n 99 1 = n 99 1 + 0; omega
  | cons x l ih =>
    intro n d
    show goN l _ _ 99 1 = n 99 1 + ((if x.1 = 2 then 1 else 0) + bds l)
    rw [ih]
    have : stN n d (acd d x) x.1 99 1 = n 99 1 + (if x.1 = 2 then 1 else 0) := by
      unfold stN
      split <;> split <;> simp (disch := omega) only [ud_same, ud_ne] <;> omega
    rw [this]; omega
theorem n0_0 : n0 n 99 0 = 0 := (mst_n0 n).1
theorem n0_1 : n0 n 99 1 = 0 := (mst_n0 n).2.1
theorem n0_4 : n0 n 99 4 = -6 := (mst_n0 n).2.2.2.2.1
theorem n0_5 : n0 n 99 5 = -6 := (mst_n0 n).2.2.2.2.2
/-! the calls over a night that can be -/
theorem go_pass (he : okp e) (hd : okd d) (hf : okd f) {l : List Act} (hs : spl e l 0 (e 99 1)) (hc : can l d) : f_X2_pass (eC n) (eC e) (eC f) (eC d) = some (zI 0, eC (goN l (n0 n) d), eC (goD l d)) ∧ okd (goD l d) ∧ oth d (goD l d) := by
  obtain ⟨f', x1, x2, x3⟩ := x_pass (n := n) he hd hf
  obtain ⟨k1, k2, k3⟩ := pss_ok he hd (mst_n0 n)
  rw [pss_go he hs hc] at x1 x3 k1 k2
  dsimp only at x1 x3 k1 k2
  rw [x3 (by omega)] at x1
  exact ⟨x1, k1, k2⟩
theorem p_pan (he : okp e) (hd : okd d) (hf : okd f) {l : List Act} (hs : spl e l 0 (e 99 1)) (hc : can l d) {w : Int} (w0 : 0 ≤ w) (w1 : w ≤ 3) : f_X6_pan (eC n) (eC e) (eC f) (eC d) (zI w) = some (zI (pFact (goD l d) w), eC (goN l (n0 n) d), eC (goD l d)) := by
  obtain ⟨h1, h2, h3⟩ := go_pass (n := n) he hd hf hs hc
  have cb : 0 ≤ w ∧ w ≤ 3 := ⟨w0, w1⟩
  unfold f_X6_pan
  simp (disch := omega) only [x_isPlace, x_isHouse, x_isTale, x_within, x_longBetween, x_layRoad, x_doubtOf, x_furnish, x_beliefOf, x_convince, x_fadesInto, x_letFade, h1, x_panFact, s_T, s_F, s_bd, s_cl, s_rd, s_wr, s_ite, z_ite, z_neg, z_add, z_sub, z_mul, z_le, z_lt, z_eq, eC_at, eC_7, eC_8, eC_9, eC_10, eC_11, eC_p7, eC_p8, eC_p9, eC_p10, eC_p11, eC_up, ud_same, ud_ne, if_pos, if_neg, z_0, z_1, z_2, z_3, z_4, z_5, z_6, z_7, z_8, z_9, z_10, z_11, z_12, z_13, z_14, z_15, z_16, z_17, z_18, z_19, z_20, z_21, z_22, z_23, z_24, z_25, z_26, z_27, z_28, z_29, z_30, z_31, z_32, z_33, z_34, z_35, z_36, z_37, z_38, z_39, z_40, z_41, z_42, z_43, z_44, z_45, z_46, z_47, z_48, z_49, z_50, z_51, z_52, z_53, z_54, z_55, z_56, z_57, z_58, z_59, z_60, z_61, z_62, z_63, z_64, z_65, z_66, z_67, z_68, z_69, z_70, z_71, z_72, z_73, z_74, z_75, z_76, z_77, z_78, z_79, z_80, z_81, z_82, z_83, z_84, z_85, z_86, z_87, z_88, z_89, z_90, z_91, z_92, z_93, z_94, z_95, z_96, z_97, z_98, z_99, z_100, z_101, z_102, z_103, z_104, z_105, z_106, z_107, z_108, z_109, z_110, z_111, z_112, z_113, z_114, z_115, z_116, z_117, z_118, z_119, z_120, z_121, z_122, z_123, z_124, z_125, z_126, z_127, z_199, z_200, z_360, z_410, z_1000, z_1023, z_1024, z_1219, z_9999, z_10240, z_65537]
theorem p_behind (he : okp e) (hd : okd d) (hf : okd f) {l : List Act} (hs : spl e l 0 (e 99 1)) (hc : can l d) {h w : Int} (h0 : 0 ≤ h) (h1 : h ≤ 9) (w0 : 0 ≤ w) (w1 : w ≤ 2) : f_X6_behind (eC n) (eC e) (eC f) (eC d) (zI h) (zI w) = some (zI (hFact (goD l d) h w), eC (goN l (n0 n) d), eC (goD l d)) := by
  obtain ⟨k1, k2, k3⟩ := go_pass (n := n) he hd hf hs hc
  have ca : 0 ≤ h ∧ h ≤ 9 := ⟨h0, h1⟩
  have cb : 0 ≤ w ∧ w ≤ 2 := ⟨w0, w1⟩
  unfold f_X6_behind
  simp (disch := omega) only [x_isPlace, x_isHouse, x_isTale, x_within, x_longBetween, x_layRoad, x_doubtOf, x_furnish, x_beliefOf, x_convince, x_fadesInto, x_letFade, k1, x_houseFact _ k2, s_T, s_F, s_bd, s_cl, s_rd, s_wr, s_ite, z_ite, z_neg, z_add, z_sub, z_mul, z_le, z_lt, z_eq, eC_at, eC_7, eC_8, eC_9, eC_10, eC_11, eC_p7, eC_p8, eC_p9, eC_p10, eC_p11, eC_up, ud_same, ud_ne, if_pos, if_neg, z_0, z_1, z_2, z_3, z_4, z_5, z_6, z_7, z_8, z_9, z_10, z_11, z_12, z_13, z_14, z_15, z_16, z_17, z_18, z_19, z_20, z_21, z_22, z_23, z_24, z_25, z_26, z_27, z_28, z_29, z_30, z_31, z_32, z_33, z_34, z_35, z_36, z_37, z_38, z_39, z_40, z_41, z_42, z_43, z_44, z_45, z_46, z_47, z_48, z_49, z_50, z_51, z_52, z_53, z_54, z_55, z_56, z_57, z_58, z_59, z_60, z_61, z_62, z_63, z_64, z_65, z_66, z_67, z_68, z_69, z_70, z_71, z_72, z_73, z_74, z_75, z_76, z_77, z_78, z_79, z_80, z_81, z_82, z_83, z_84, z_85, z_86, z_87, z_88, z_89, z_90, z_91, z_92, z_93, z_94, z_95, z_96, z_97, z_98, z_99, z_100, z_101, z_102, z_103, z_104, z_105, z_106, z_107, z_108, z_109, z_110, z_111, z_112, z_113, z_114, z_115, z_116, z_117, z_118, z_119, z_120, z_121, z_122, z_123, z_124, z_125, z_126, z_127, z_199, z_200, z_360, z_410, z_1000, z_1023, z_1024, z_1219, z_9999, z_10240, z_65537]
theorem p_holds (he : okp e) (hd : okd d) (hf : okd f) {l : List Act} (hs : spl e l 0 (e 99 1)) (hc : can l d) {t : Int} (t0 : 0 ≤ t) (t1 : t ≤ 9) : f_X6_holds (eC n) (eC e) (eC f) (eC d) (zI t) = some (bts (goD l d) (zI t) 20000 0 0, eC (goN l (n0 n) d), eC (goD l d)) := by
  obtain ⟨k1, k2, k3⟩ := go_pass (n := n) he hd hf hs hc
  have ca : 0 ≤ t ∧ t ≤ 9 := ⟨t0, t1⟩
  unfold f_X6_holds
  simp (disch := omega) only [x_isPlace, x_isHouse, x_isTale, x_within, x_longBetween, x_layRoad, x_doubtOf, x_furnish, x_beliefOf, x_convince, x_fadesInto, x_letFade, k1, x_believersOf, s_T, s_F, s_bd, s_cl, s_rd, s_wr, s_ite, z_ite, z_neg, z_add, z_sub, z_mul, z_le, z_lt, z_eq, eC_at, eC_7, eC_8, eC_9, eC_10, eC_11, eC_p7, eC_p8, eC_p9, eC_p10, eC_p11, eC_up, ud_same, ud_ne, if_pos, if_neg, z_0, z_1, z_2, z_3, z_4, z_5, z_6, z_7, z_8, z_9, z_10, z_11, z_12, z_13, z_14, z_15, z_16, z_17, z_18, z_19, z_20, z_21, z_22, z_23, z_24, z_25, z_26, z_27, z_28, z_29, z_30, z_31, z_32, z_33, z_34, z_35, z_36, z_37, z_38, z_39, z_40, z_41, z_42, z_43, z_44, z_45, z_46, z_47, z_48, z_49, z_50, z_51, z_52, z_53, z_54, z_55, z_56, z_57, z_58, z_59, z_60, z_61, z_62, z_63, z_64, z_65, z_66, z_67, z_68, z_69, z_70, z_71, z_72, z_73, z_74, z_75, z_76, z_77, z_78, z_79, z_80, z_81, z_82, z_83, z_84, z_85, z_86, z_87, z_88, z_89, z_90, z_91, z_92, z_93, z_94, z_95, z_96, z_97, z_98, z_99, z_100, z_101, z_102, z_103, z_104, z_105, z_106, z_107, z_108, z_109, z_110, z_111, z_112, z_113, z_114, z_115, z_116, z_117, z_118, z_119, z_120, z_121, z_122, z_123, z_124, z_125, z_126, z_127, z_199, z_200, z_360, z_410, z_1000, z_1023, z_1024, z_1219, z_9999, z_10240, z_65537]
theorem p_other0 (he : okp e) (hd : okd d) (hf : okd f) {l : List Act} (hs : spl e l 0 (e 99 1)) (hc : can l d) : f_X6_other (eC n) (eC e) (eC f) (eC d) (zI 0) = some (zI (goN l (n0 n) d 99 4), eC (goN l (n0 n) d), eC (goD l d)) := by
  obtain ⟨k1, k2, k3⟩ := go_pass (n := n) he hd hf hs hc
  unfold f_X6_other
  simp (disch := omega) only [x_isPlace, x_isHouse, x_isTale, x_within, x_longBetween, x_layRoad, x_doubtOf, x_furnish, x_beliefOf, x_convince, x_fadesInto, x_letFade, k1, eC_4, s_T, s_F, s_bd, s_cl, s_rd, s_wr, s_ite, z_ite, z_neg, z_add, z_sub, z_mul, z_le, z_lt, z_eq, eC_at, eC_7, eC_8, eC_9, eC_10, eC_11, eC_p7, eC_p8, eC_p9, eC_p10, eC_p11, eC_up, ud_same, ud_ne, if_pos, if_neg, z_0, z_1, z_2, z_3, z_4, z_5, z_6, z_7, z_8, z_9, z_10, z_11, z_12, z_13, z_14, z_15, z_16, z_17, z_18, z_19, z_20, z_21, z_22, z_23, z_24, z_25, z_26, z_27, z_28, z_29, z_30, z_31, z_32, z_33, z_34, z_35, z_36, z_37, z_38, z_39, z_40, z_41, z_42, z_43, z_44, z_45, z_46, z_47, z_48, z_49, z_50, z_51, z_52, z_53, z_54, z_55, z_56, z_57, z_58, z_59, z_60, z_61, z_62, z_63, z_64, z_65, z_66, z_67, z_68, z_69, z_70, z_71, z_72, z_73, z_74, z_75, z_76, z_77, z_78, z_79, z_80, z_81, z_82, z_83, z_84, z_85, z_86, z_87, z_88, z_89, z_90, z_91, z_92, z_93, z_94, z_95, z_96, z_97, z_98, z_99, z_100, z_101, z_102, z_103, z_104, z_105, z_106, z_107, z_108, z_109, z_110, z_111, z_112, z_113, z_114, z_115, z_116, z_117, z_118, z_119, z_120, z_121, z_122, z_123, z_124, z_125, z_126, z_127, z_199, z_200, z_360, z_410, z_1000, z_1023, z_1024, z_1219, z_9999, z_10240, z_65537]
theorem p_other1 (he : okp e) (hd : okd d) (hf : okd f) {l : List Act} (hs : spl e l 0 (e 99 1)) (hc : can l d) : f_X6_other (eC n) (eC e) (eC f) (eC d) (zI 1) = some (zI (goN l (n0 n) d 99 5), eC (goN l (n0 n) d), eC (goD l d)) := by
  obtain ⟨k1, k2, k3⟩ := go_pass (n := n) he hd hf hs hc
  unfold f_X6_other
  simp (disch := omega) only [x_isPlace, x_isHouse, x_isTale, x_within, x_longBetween, x_layRoad, x_doubtOf, x_furnish, x_beliefOf, x_convince, x_fadesInto, x_letFade, k1, eC_5, s_T, s_F, s_bd, s_cl, s_rd, s_wr, s_ite, z_ite, z_neg, z_add, z_sub, z_mul, z_le, z_lt, z_eq, eC_at, eC_7, eC_8, eC_9, eC_10, eC_11, eC_p7, eC_p8, eC_p9, eC_p10, eC_p11, eC_up, ud_same, ud_ne, if_pos, if_neg, z_0, z_1, z_2, z_3, z_4, z_5, z_6, z_7, z_8, z_9, z_10, z_11, z_12, z_13, z_14, z_15, z_16, z_17, z_18, z_19, z_20, z_21, z_22, z_23, z_24, z_25, z_26, z_27, z_28, z_29, z_30, z_31, z_32, z_33, z_34, z_35, z_36, z_37, z_38, z_39, z_40, z_41, z_42, z_43, z_44, z_45, z_46, z_47, z_48, z_49, z_50, z_51, z_52, z_53, z_54, z_55, z_56, z_57, z_58, z_59, z_60, z_61, z_62, z_63, z_64, z_65, z_66, z_67, z_68, z_69, z_70, z_71, z_72, z_73, z_74, z_75, z_76, z_77, z_78, z_79, z_80, z_81, z_82, z_83, z_84, z_85, z_86, z_87, z_88, z_89, z_90, z_91, z_92, z_93, z_94, z_95, z_96, z_97, z_98, z_99, z_100, z_101, z_102, z_103, z_104, z_105, z_106, z_107, z_108, z_109, z_110, z_111, z_112, z_113, z_114, z_115, z_116, z_117, z_118, z_119, z_120, z_121, z_122, z_123, z_124, z_125, z_126, z_127, z_199, z_200, z_360, z_410, z_1000, z_1023, z_1024, z_1219, z_9999, z_10240, z_65537]
theorem p_judge2 (he : okp e) (hd : okd d) (hf : okd f) {l : List Act} (hs : spl e l 0 (e 99 1)) (hc : can l d) : f_X6_judge (eC n) (eC e) (eC f) (eC d) (zI 2) = some (zI (bds l), eC (goN l (n0 n) d), eC (goD l d)) := by
  obtain ⟨k1, k2, k3⟩ := go_pass (n := n) he hd hf hs hc
  have hb : goN l (n0 n) d 99 1 = bds l := by rw [goN_1, n0_1]; omega
  unfold f_X6_judge
  simp (disch := omega) only [x_isPlace, x_isHouse, x_isTale, x_within, x_longBetween, x_layRoad, x_doubtOf, x_furnish, x_beliefOf, x_convince, x_fadesInto, x_letFade, k1, eC_1, hb, s_T, s_F, s_bd, s_cl, s_rd, s_wr, s_ite, z_ite, z_neg, z_add, z_sub, z_mul, z_le, z_lt, z_eq, eC_at, eC_7, eC_8, eC_9, eC_10, eC_11, eC_p7, eC_p8, eC_p9, eC_p10, eC_p11, eC_up, ud_same, ud_ne, if_pos, if_neg, z_0, z_1, z_2, z_3, z_4, z_5, z_6, z_7, z_8, z_9, z_10, z_11, z_12, z_13, z_14, z_15, z_16, z_17, z_18, z_19, z_20, z_21, z_22, z_23, z_24, z_25, z_26, z_27, z_28, z_29, z_30, z_31, z_32, z_33, z_34, z_35, z_36, z_37, z_38, z_39, z_40, z_41, z_42, z_43, z_44, z_45, z_46, z_47, z_48, z_49, z_50, z_51, z_52, z_53, z_54, z_55, z_56, z_57, z_58, z_59, z_60, z_61, z_62, z_63, z_64, z_65, z_66, z_67, z_68, z_69, z_70, z_71, z_72, z_73, z_74, z_75, z_76, z_77, z_78, z_79, z_80, z_81, z_82, z_83, z_84, z_85, z_86, z_87, z_88, z_89, z_90, z_91, z_92, z_93, z_94, z_95, z_96, z_97, z_98, z_99, z_100, z_101, z_102, z_103, z_104, z_105, z_106, z_107, z_108, z_109, z_110, z_111, z_112, z_113, z_114, z_115, z_116, z_117, z_118, z_119, z_120, z_121, z_122, z_123, z_124, z_125, z_126, z_127, z_199, z_200, z_360, z_410, z_1000, z_1023, z_1024, z_1219, z_9999, z_10240, z_65537]
theorem p_done (he : okp e) (hd : okd d) (hf : okd f) {l : List Act} (hs : spl e l 0 (e 99 1)) (hc : can l d) : f_X6_done (eC n) (eC e) (eC f) (eC d) = some (zI l.length, eC (goN l (n0 n) d), eC (ud e 99 1 0), eC (goD l d), eC (goD l d)) := by
  obtain ⟨k1, k2, k3⟩ := go_pass (n := n) he hd hf hs hc
  have hb : goN l (n0 n) d 99 0 = l.length := by rw [goN_0, n0_0]; omega
  unfold f_X6_done f_X3_clear
  simp (disch := omega) only [k1, x_copyFrom d _ hd k2, eC_p1, eC_0, hb, s_T, s_F, s_bd, s_cl, s_rd, s_wr, s_ite, z_ite, z_neg, z_add, z_sub, z_mul, z_le, z_lt, z_eq, eC_at, eC_7, eC_8, eC_9, eC_10, eC_11, eC_p7, eC_p8, eC_p9, eC_p10, eC_p11, eC_up, ud_same, ud_ne, if_pos, if_neg, z_0, z_1, z_2, z_3, z_4, z_5, z_6, z_7, z_8, z_9, z_10, z_11, z_12, z_13, z_14, z_15, z_16, z_17, z_18, z_19, z_20, z_21, z_22, z_23, z_24, z_25, z_26, z_27, z_28, z_29, z_30, z_31, z_32, z_33, z_34, z_35, z_36, z_37, z_38, z_39, z_40, z_41, z_42, z_43, z_44, z_45, z_46, z_47, z_48, z_49, z_50, z_51, z_52, z_53, z_54, z_55, z_56, z_57, z_58, z_59, z_60, z_61, z_62, z_63, z_64, z_65, z_66, z_67, z_68, z_69, z_70, z_71, z_72, z_73, z_74, z_75, z_76, z_77, z_78, z_79, z_80, z_81, z_82, z_83, z_84, z_85, z_86, z_87, z_88, z_89, z_90, z_91, z_92, z_93, z_94, z_95, z_96, z_97, z_98, z_99, z_100, z_101, z_102, z_103, z_104, z_105, z_106, z_107, z_108, z_109, z_110, z_111, z_112, z_113, z_114, z_115, z_116, z_117, z_118, z_119, z_120, z_121, z_122, z_123, z_124, z_125, z_126, z_127, z_199, z_200, z_360, z_410, z_1000, z_1023, z_1024, z_1219, z_9999, z_10240, z_65537]
/-! and over one that stops at its last act -/
theorem st_pass (he : okp e) (hd : okd d) (hf : okd f) {l : List Act} {x : Act} (hs : spl e (l ++ [x]) 0 (e 99 1)) (hc : can l d) (hr : ¬ rsn (goD l d) x.1 x.2.1 = 0) : ∃ n', f_X2_pass (eC n) (eC e) (eC f) (eC d) = some (zI (-3), eC n', eC (goD l d)) ∧ n' 99 2 = l.length ∧ n' 99 3 = rsn (goD l d) x.1 x.2.1 ∧ okd (goD l d) := by
  obtain ⟨f', x1, x2, x3⟩ := x_pass (n := n) he hd hf
  obtain ⟨k1, k2, k3⟩ := pss_ok he hd (mst_n0 n)
  have hb : goN l (n0 n) d 99 0 = l.length := by rw [goN_0, n0_0]; omega
  rw [pss_stop he hs hc hr] at x1 x3 k1 k2
  dsimp only at x1 x3 k1 k2
  rw [x3 (by omega)] at x1
  exact ⟨_, x1, by rw [ud_ne _ _ (by omega), ud_same, hb], by rw [ud_same], k1⟩
theorem p_judge_st (he : okp e) (hd : okd d) (hf : okd f) {l : List Act} {x : Act} (hs : spl e (l ++ [x]) 0 (e 99 1)) (hc : can l d) (hr : ¬ rsn (goD l d) x.1 x.2.1 = 0) : okd (goD l d) ∧ (∃ n', f_X6_judge (eC n) (eC e) (eC f) (eC d) (zI 0) = some (zI l.length, eC n', eC (goD l d))) ∧ (∃ n', f_X6_judge (eC n) (eC e) (eC f) (eC d) (zI 1) = some (zI (rsn (goD l d) x.1 x.2.1), eC n', eC (goD l d))) := by
  obtain ⟨n', k1, k2, k3, k4⟩ := st_pass (n := n) he hd hf hs hc hr
  refine ⟨k4, ⟨n', ?_⟩, ⟨n', ?_⟩⟩
  · unfold f_X6_judge
    simp (disch := omega) only [x_isPlace, x_isHouse, x_isTale, x_within, x_longBetween, x_layRoad, x_doubtOf, x_furnish, x_beliefOf, x_convince, x_fadesInto, x_letFade, k1, eC_2, k2, s_T, s_F, s_bd, s_cl, s_rd, s_wr, s_ite, z_ite, z_neg, z_add, z_sub, z_mul, z_le, z_lt, z_eq, eC_at, eC_7, eC_8, eC_9, eC_10, eC_11, eC_p7, eC_p8, eC_p9, eC_p10, eC_p11, eC_up, ud_same, ud_ne, if_pos, if_neg, z_0, z_1, z_2, z_3, z_4, z_5, z_6, z_7, z_8, z_9, z_10, z_11, z_12, z_13, z_14, z_15, z_16, z_17, z_18, z_19, z_20, z_21, z_22, z_23, z_24, z_25, z_26, z_27, z_28, z_29, z_30, z_31, z_32, z_33, z_34, z_35, z_36, z_37, z_38, z_39, z_40, z_41, z_42, z_43, z_44, z_45, z_46, z_47, z_48, z_49, z_50, z_51, z_52, z_53, z_54, z_55, z_56, z_57, z_58, z_59, z_60, z_61, z_62, z_63, z_64, z_65, z_66, z_67, z_68, z_69, z_70, z_71, z_72, z_73, z_74, z_75, z_76, z_77, z_78, z_79, z_80, z_81, z_82, z_83, z_84, z_85, z_86, z_87, z_88, z_89, z_90, z_91, z_92, z_93, z_94, z_95, z_96, z_97, z_98, z_99, z_100, z_101, z_102, z_103, z_104, z_105, z_106, z_107, z_108, z_109, z_110, z_111, z_112, z_113, z_114, z_115, z_116, z_117, z_118, z_119, z_120, z_121, z_122, z_123, z_124, z_125, z_126, z_127, z_199, z_200, z_360, z_410, z_1000, z_1023, z_1024, z_1219, z_9999, z_10240, z_65537]
  · unfold f_X6_judge
    simp (disch := omega) only [x_isPlace, x_isHouse, x_isTale, x_within, x_longBetween, x_layRoad, x_doubtOf, x_furnish, x_beliefOf, x_convince, x_fadesInto, x_letFade, k1, eC_3, k3, s_T, s_F, s_bd, s_cl, s_rd, s_wr, s_ite, z_ite, z_neg, z_add, z_sub, z_mul, z_le, z_lt, z_eq, eC_at, eC_7, eC_8, eC_9, eC_10, eC_11, eC_p7, eC_p8, eC_p9, eC_p10, eC_p11, eC_up, ud_same, ud_ne, if_pos, if_neg, z_0, z_1, z_2, z_3, z_4, z_5, z_6, z_7, z_8, z_9, z_10, z_11, z_12, z_13, z_14, z_15, z_16, z_17, z_18, z_19, z_20, z_21, z_22, z_23, z_24, z_25, z_26, z_27, z_28, z_29, z_30, z_31, z_32, z_33, z_34, z_35, z_36, z_37, z_38, z_39, z_40, z_41, z_42, z_43, z_44, z_45, z_46, z_47, z_48, z_49, z_50, z_51, z_52, z_53, z_54, z_55, z_56, z_57, z_58, z_59, z_60, z_61, z_62, z_63, z_64, z_65, z_66, z_67, z_68, z_69, z_70, z_71, z_72, z_73, z_74, z_75, z_76, z_77, z_78, z_79, z_80, z_81, z_82, z_83, z_84, z_85, z_86, z_87, z_88, z_89, z_90, z_91, z_92, z_93, z_94, z_95, z_96, z_97, z_98, z_99, z_100, z_101, z_102, z_103, z_104, z_105, z_106, z_107, z_108, z_109, z_110, z_111, z_112, z_113, z_114, z_115, z_116, z_117, z_118, z_119, z_120, z_121, z_122, z_123, z_124, z_125, z_126, z_127, z_199, z_200, z_360, z_410, z_1000, z_1023, z_1024, z_1219, z_9999, z_10240, z_65537]
theorem p_done_st (he : okp e) (hd : okd d) (hf : okd f) {l : List Act} {x : Act} (hs : spl e (l ++ [x]) 0 (e 99 1)) (hc : can l d) (hr : ¬ rsn (goD l d) x.1 x.2.1 = 0) : okd (goD l d) ∧ ∃ n', f_X6_done (eC n) (eC e) (eC f) (eC d) = some (zI (-3), eC n', eC e, eC (goD l d), eC d) := by
  obtain ⟨n', k1, k2, k3, k4⟩ := st_pass (n := n) he hd hf hs hc hr
  refine ⟨k4, n', ?_⟩
  unfold f_X6_done
  simp (disch := omega) only [k1, s_T, s_F, s_bd, s_cl, s_rd, s_wr, s_ite, z_ite, z_neg, z_add, z_sub, z_mul, z_le, z_lt, z_eq, eC_at, eC_7, eC_8, eC_9, eC_10, eC_11, eC_p7, eC_p8, eC_p9, eC_p10, eC_p11, eC_up, ud_same, ud_ne, if_pos, if_neg, z_0, z_1, z_2, z_3, z_4, z_5, z_6, z_7, z_8, z_9, z_10, z_11, z_12, z_13, z_14, z_15, z_16, z_17, z_18, z_19, z_20, z_21, z_22, z_23, z_24, z_25, z_26, z_27, z_28, z_29, z_30, z_31, z_32, z_33, z_34, z_35, z_36, z_37, z_38, z_39, z_40, z_41, z_42, z_43, z_44, z_45, z_46, z_47, z_48, z_49, z_50, z_51, z_52, z_53, z_54, z_55, z_56, z_57, z_58, z_59, z_60, z_61, z_62, z_63, z_64, z_65, z_66, z_67, z_68, z_69, z_70, z_71, z_72, z_73, z_74, z_75, z_76, z_77, z_78, z_79, z_80, z_81, z_82, z_83, z_84, z_85, z_86, z_87, z_88, z_89, z_90, z_91, z_92, z_93, z_94, z_95, z_96, z_97, z_98, z_99, z_100, z_101, z_102, z_103, z_104, z_105, z_106, z_107, z_108, z_109, z_110, z_111, z_112, z_113, z_114, z_115, z_116, z_117, z_118, z_119, z_120, z_121, z_122, z_123, z_124, z_125, z_126, z_127, z_199, z_200, z_360, z_410, z_1000, z_1023, z_1024, z_1219, z_9999, z_10240, z_65537]
end NIGHT


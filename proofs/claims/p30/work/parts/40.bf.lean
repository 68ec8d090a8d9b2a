/-! the law's segments: damp linen -/
section SEG5
variable {d e f n : Nat → Int → Int} {L : Nat} {xs : Nat → Int32} {σC σD σP σN σW σY σK σH σE : qS} {ℓK κ : qL} {step tens bel reached w t h house doubt : Int}
/-- what the law leaves as it was to its end -/
def bsS (d : Nat → Int → Int) : Prop := okd d ∧ d 99 7 = 0 ∧ d 99 8 = 10 ∧ (∀ k, 0 ≤ k → k ≤ 9 → d 4 k = k) ∧ d 99 11 < 99
/-- what the four numbers are, and the last test -/
def nmS (step tens bel reached : Int) : Prop := (0 ≤ step ∧ step ≤ 100) ∧ (0 ≤ tens ∧ tens ≤ 100) ∧ (0 ≤ reached ∧ reached ≤ 10) ∧ (0 ≤ bel ∧ bel ≤ 2000) ∧ endG step tens bel reached
theorem kd_42 : kdc 42 = 2 := by decide
theorem pl_42 : plc 42 = -6 := by decide
theorem kd_h {h : Int} (h0 : 0 ≤ h) (h1 : h ≤ 9) : kdc (65 + h) = 1 ∧ plc (65 + h) = h := by
  have p : plc (65 + h) = h := by unfold plc; rw [if_pos (by omega)]; omega
  refine ⟨?_, p⟩
  unfold kdc
  rw [if_neg (by omega), if_neg (by omega), if_neg (by omega), if_neg (by omega), p, if_neg (by omega)]
/-- the pan carried -/
theorem car_at (d : Nat → Int → Int) (h : Int) : (acd d (1, h, 0)) 99 9 = (if 0 < d 99 9 - d 0 (d 99 8 * 11 + h) then d 99 9 - d 0 (d 99 8 * 11 + h) else 0) ∧ (acd d (1, h, 0)) 99 8 = h ∧ (∀ k i, ¬ (k = 99 ∧ (i = 8 ∨ i = 9)) → (acd d (1, h, 0)) k i = d k i) := by
  have e : acd d (1, h, 0) = ud (ud d 99 9 (if 0 < d 99 9 - d 0 (d 99 8 * 11 + h) then d 99 9 - d 0 (d 99 8 * 11 + h) else 0)) 99 8 h := by unfold acd actd; rw [if_neg (show ¬ ((1 : Int), h, (0 : Int)).1 = 0 by dsimp only; omega), if_pos rfl]
  rw [e]
  refine ⟨?_, ?_, fun k i z => ?_⟩
  · rw [ud_ne _ _ (by omega), ud_same]
  · rw [ud_same]
  · rw [ud_ne _ _ (by omega), ud_ne _ _ (by omega)]
theorem fill_ne (d : Nat → Int → Int) (w t : Int) (k : Nat) (i : Int) (z : ¬ (k = 99 ∧ (i = 9 ∨ i = 10))) : (acd d (0, w, t)) k i = d k i := by
  have e : acd d (0, w, t) = ud (ud d 99 10 w) 99 9 (10 * t) := by unfold acd actd; rw [if_pos rfl]
  rw [e, ud_ne _ _ (by omega), ud_ne _ _ (by omega)]
theorem rsn_0 (d : Nat → Int → Int) (w : Int) : rsn d 0 w = if d 99 8 = 10 then 0 else 1 := by unfold rsn; rw [if_pos rfl]
theorem rsn_1 (d : Nat → Int → Int) (w : Int) : rsn d 1 w = if d 0 (d 99 8 * 11 + w) ≤ 0 then 2 else 0 := by unfold rsn; rw [if_neg (by decide), if_pos rfl]
theorem rsn_2 (d : Nat → Int → Int) (w : Int) : rsn d 2 w = if d 99 8 = 10 then 1 else if d 99 9 ≤ 0 then 3 else 0 := by unfold rsn; rw [if_neg (by decide), if_neg (by decide), if_pos rfl]
theorem bed_e (d : Nat → Int → Int) : acd d (2, -6, 0) = bed d (d 99 8) := by unfold acd actd; rw [if_neg (show ¬ ((2 : Int), (-6 : Int), (0 : Int)).1 = 0 by dsimp only; omega), if_neg (show ¬ ((2 : Int), (-6 : Int), (0 : Int)).1 = 1 by dsimp only; omega), if_pos rfl]
/-- a handful carried to a house, then beds -/
def hNight (tale tens house : Int) (i : Nat) : List Act := (0, tale, tens) :: (1, house, 0) :: List.replicate i (2, -6, 0)
theorem hNight_s (tale tens house : Int) (i : Nat) : hNight tale tens house (i + 1) = hNight tale tens house i ++ [(2, -6, 0)] := by
  unfold hNight
  rw [List.replicate_succ']
  rfl
theorem hN_len (tale tens house : Int) (i : Nat) : (hNight tale tens house i).length = i + 2 := by unfold hNight; simp
theorem hN_bds (tale tens house : Int) : ∀ i : Nat, bds (hNight tale tens house i) = i := by
  intro i
  induction i with
  | zero => rfl
  | succ i ih => rw [hNight_s, bds_app, ih]; rfl
/-- up to the house -/
theorem h0_go {tale tens : Int} (hp : d 99 8 = 10) (hr : d 0 (10 * 11 + house) = 9) : can (hNight tale tens house 0) d ∧ goD (hNight tale tens house 0) d 99 9 = (if 0 < 10 * tens - 9 then 10 * tens - 9 else 0) ∧ goD (hNight tale tens house 0) d 99 10 = tale ∧ goD (hNight tale tens house 0) d 99 8 = house ∧ (∀ k i, ¬ (k = 99 ∧ (i = 8 ∨ i = 9 ∨ i = 10)) → goD (hNight tale tens house 0) d k i = d k i) := by
  obtain ⟨f1, f2, f3, f4, f5⟩ := fill_at d tale tens
  have fne := fill_ne d tale tens
  obtain ⟨c1, c2, c3⟩ := car_at (acd d (0, tale, tens)) house
  have e : goD (hNight tale tens house 0) d = acd (acd d (0, tale, tens)) (1, house, 0) := rfl
  rw [e]
  have hr' : acd d (0, tale, tens) 0 (10 * 11 + house) = 9 := by rw [fne _ _ (by omega)]; exact hr
  refine ⟨⟨?_, ?_, trivial⟩, ?_, ?_, c2, fun k i z => ?_⟩
  · show rsn d 0 tale = 0
    rw [rsn_0, if_pos hp]
  · show rsn (acd d (0, tale, tens)) 1 house = 0
    rw [rsn_1, f3, hp, hr', if_neg (by omega)]
  · rw [c1, f1, f3, hp, hr']
  · rw [c3 _ _ (by omega), f2]
  · rw [c3 _ _ (by omega), fne _ _ (by omega)]
/-- one bed more -/
theorem hN_more {l : List Act} (hc : can l d) (h8 : goD l d 99 8 = house) (hh : ¬ house = 10) (h9 : 0 < goD l d 99 9) : can (l ++ [(2, -6, 0)]) d ∧ goD (l ++ [(2, -6, 0)]) d = bed (goD l d) house := by
  refine ⟨(can_app l _ d).mpr ⟨hc, ?_, trivial⟩, ?_⟩
  · show rsn _ 2 (-6) = 0
    rw [rsn_2, h8, if_neg hh, if_neg (by omega)]
  · rw [goD_app]
    show acd (goD l d) (2, -6, 0) = _
    rw [bed_e, h8]
/-- beds in damp linen -/
theorem dmp_go {tale : Int} (hh : 0 ≤ house ∧ house ≤ 9) (hp : d 99 8 = 10) (hr : d 0 (10 * 11 + house) = 9) (hw : d 2 house = 1) : ∀ i : Nat, i ≤ 9 → can (hNight tale 9 house i) d ∧ goD (hNight tale 9 house i) d 99 9 = (if (i : Int) ≤ 8 then 81 - 10 * (i : Int) else 0) ∧ goD (hNight tale 9 house i) d 99 8 = house ∧ (∀ k j, ¬ (k = 99 ∧ (j = 8 ∨ j = 9 ∨ j = 10)) → goD (hNight tale 9 house i) d k j = d k j) := by
  intro i
  induction i with
  | zero =>
    intro _
    obtain ⟨a1, a2, a3, a4, a5⟩ := h0_go (d := d) (tale := tale) (tens := 9) hp hr
    exact ⟨a1, a2, a4, a5⟩
  | succ i ih =>
    intro hi
    obtain ⟨c, g9, g8, g⟩ := ih (by omega)
    have i8 : (i : Int) ≤ 8 := by omega
    rw [if_pos i8] at g9
    have hdm : goD (hNight tale 9 house i) d 2 house = 1 := by rw [g _ _ (by omega)]; exact hw
    obtain ⟨m1, m2⟩ := hN_more c g8 (by omega) (by omega)
    have e2 : bed (goD (hNight tale 9 house i) d) house = ud (goD (hNight tale 9 house i) d) 99 9 (if 0 < goD (hNight tale 9 house i) d 99 9 - 10 then goD (hNight tale 9 house i) d 99 9 - 10 else 0) := by unfold bed; rw [if_neg (by rw [hdm]; decide)]
    rw [hNight_s, m2, e2]
    refine ⟨m1, ?_, ?_, fun k j z => ?_⟩
    · rw [ud_same, g9]
      push_cast
      by_cases z : (i : Int) + 1 ≤ 8
      · rw [if_pos z, if_pos (by omega)]; omega
      · rw [if_neg z, if_neg (by omega)]
    · rw [ud_ne _ _ (by omega)]; exact g8
    · rw [ud_ne _ _ (by omega)]; exact g k j z
theorem t_1283 (hL : L ≤ 260) (hB : bsS d) (hf : okd f) (he : okp e) (h4 : e 99 1 = 4) (hs : spl e (hNight 3 9 house 0) 0 (e 99 1)) (hh : 0 ≤ house ∧ house ≤ 9) (hr : d 0 (10 * 11 + house) = 9) (hw : d 2 house = 1) (hd1 : d 1 house = 0) (hd3 : d 3 house = -6) (hN : nmS step tens bel reached) :
    oK Q1 (g_1283 L xs (eC d) (eC f) (eC e) (eC n) σW σY σK ℓK σH (zI step) (zI tens) (zI bel) (zI reached) (zI house)) := by
  obtain ⟨hd, b7, b8, b4, b11⟩ := hB
  have em6 : (-6 : Int32) = zI (-6) := by decide
  unfold g_1283
  rw [z_0]
  refine ok_forI (τ := qS × qS × qS) 9 (fun i u => ∃ f e n : Nat → Int → Int, u = (eC f, eC e, eC n) ∧ okd f ∧ okp e ∧ e 99 1 = 4 + i ∧ spl e (hNight 3 9 house i.toNat) 0 (e 99 1)) (fun again i u i0 i1 hP ih => ?_) 20000 0 _ (by omega) (by omega) ⟨f, e, n, rfl, hf, he, by omega, hs⟩ (by omega)
  obtain ⟨f, e, n, rfl, hf, he, h1, hs⟩ := hP
  unfold b_L_law_1286
  dsimp only
  rw [z_9, z_42, z_5, z_add, z_1, z_8, em6, z_71, z_10, z_mul, z_sub, z_add, z_0]
  refine ok_ifE (z_le (by omega) (by omega) (by omega) (by omega)) (fun c => ?_) (fun c => ?_)
  · obtain rfl : i = 9 := by omega
    obtain ⟨c1, g9, g8, gg⟩ := dmp_go (tale := 3) hh b8 hr hw 9 (by omega)
    have k1 := (go_pass (n := n) he hd hf hs c1).2.1
    obtain ⟨q1, q2, q3, q4⟩ := say_one he hs (c := 46) (by omega) (by omega) kd_46 (by omega) (by omega)
    rw [pl_46] at q4
    have c2 : can (hNight 3 9 house (Int.toNat 9) ++ [(4, -6, 0)]) d := (can_app _ _ _).mpr ⟨c1, mrn_can (by
      have : goD (hNight 3 9 house (Int.toNat 9)) d 99 11 = d 99 11 := gg 99 11 (by omega)
      omega)⟩
    have k2 := (go_pass (n := n) q2 hd hf q4 c2).2.1
    have w0 : hFact (goD (hNight 3 9 house (Int.toNat 9) ++ [(4, -6, 0)]) d) house 2 = 0 := by
      rw [goD_app]
      show (acd (goD (hNight 3 9 house (Int.toNat 9)) d) (4, -6, 0)) 2 house = 0
      unfold acd actd md
      rw [if_neg (by dsimp only; omega), if_neg (by dsimp only; omega), if_neg (by dsimp only; omega), if_neg (by dsimp only; omega), if_pos (by omega)]
    rw [z_2, p_judge2 he hd hf hs c1, s_cl, hN_bds]
    dsimp only
    have e14 : (14 : Int32) = zI 14 := by decide
    rw [if_pos (congrArg zI (by first | omega | rfl | (simp; done))), z_46, q1, s_cl, e14]
    dsimp only
    rw [if_pos (congrArg zI (by first | omega | rfl | (simp; done))), p_behind q2 hd k1 q4 c2 hh.1 hh.2 (by omega) (by omega), s_cl, w0]
    dsimp only
    rw [if_pos rfl, p_wipe q2, s_cl, q3]
    dsimp only
    rw [if_pos (congrArg zI (by first | omega | rfl | (simp; done)))]
    obtain ⟨n1, n2, n3, n4, n5⟩ := hN
    exact t_1405 hL hd k2 (clr_ud q2) b7 b4 b8 n1 n2 n3 n4 n5
  · obtain ⟨p1, p2, p3, p4⟩ := say_one he hs (c := 42) (by omega) (by omega) kd_42 (by omega) (by omega)
    rw [pl_42, ← hNight_s] at p4
    obtain ⟨c1, g9, g8, gg⟩ := dmp_go (tale := 3) hh b8 hr hw (i.toNat + 1) (by omega)
    have k1 := (go_pass (n := n) p2 hd hf p4 c1).2.1
    have w1 := fun n => p_pan (n := n) p2 hd hf p4 c1 (w := 1) (by omega) (by omega)
    have w2 := fun n => p_behind (n := n) p2 hd k1 p4 c1 hh.1 hh.2 (w := 0) (by omega) (by omega)
    have w3 := fun n => p_behind (n := n) p2 hd k1 p4 c1 hh.1 hh.2 (w := 1) (by omega) (by omega)
    rw [show pFact (goD (hNight 3 9 house (i.toNat + 1)) d) 1 = goD (hNight 3 9 house (i.toNat + 1)) d 99 9 from rfl, g9] at w1
    rw [show hFact (goD (hNight 3 9 house (i.toNat + 1)) d) house 0 = goD (hNight 3 9 house (i.toNat + 1)) d 3 house from rfl, gg 3 house (by omega), hd3] at w2
    rw [show hFact (goD (hNight 3 9 house (i.toNat + 1)) d) house 1 = goD (hNight 3 9 house (i.toNat + 1)) d 1 house from rfl, gg 1 house (by omega), hd1] at w3
    have nx : ∃ f' e' n' : Nat → Int → Int, ((eC (goD (hNight 3 9 house (i.toNat + 1)) d), eC (sy e 42), eC (goN (hNight 3 9 house (i.toNat + 1)) (n0 (goN (hNight 3 9 house (i.toNat + 1)) (n0 (goN (hNight 3 9 house (i.toNat + 1)) (n0 n) d)) d)) d)) : qS × qS × qS) = (eC f', eC e', eC n') ∧ okd f' ∧ okp e' ∧ e' 99 1 = 4 + (i + 1) ∧ spl e' (hNight 3 9 house (i + 1).toNat) 0 (e' 99 1) := ⟨_, _, _, rfl, k1, p2, by omega, by rw [show (i + 1).toNat = i.toNat + 1 by omega]; exact p4⟩
    have st := ih (by omega) _ nx
    have ei : ((i.toNat + 1 : Nat) : Int) = i + 1 := by omega
    rw [ei] at w1
    rw [p1, s_cl]
    dsimp only
    rw [if_pos (congrArg zI (by first | omega | rfl | (simp; done))), w1, s_cl]
    dsimp only
    refine ok_ifE (z_le (by omega) (by omega) (by omega) (by omega)) (fun c2 => ?_) (fun c2 => ?_)
    · rw [if_neg (show ¬ i + 1 ≤ 8 by omega), if_pos rfl, w2, s_cl]
      dsimp only
      rw [if_pos rfl, w3, s_cl]
      dsimp only
      rw [if_pos rfl]
      exact st
    · rw [if_pos (show i + 1 ≤ 8 by omega), if_pos (congrArg zI (by first | omega | rfl | (simp; done))), w2, s_cl]
      dsimp only
      rw [if_pos rfl, w3, s_cl]
      dsimp only
      rw [if_pos rfl]
      exact st
end SEG5


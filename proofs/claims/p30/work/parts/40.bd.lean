/-! the longest night: a handful stirred to ninety-nine -/
section SEG3
variable {d e f n : Nat → Int → Int} {L : Nat} {xs : Nat → Int32} {σC σD σP σN σW σY σK σH σE : qS} {ℓK κ : qL} {step tens bel reached w t : Int}
/-- so many stirs behind the handful -/
def sNight (i : Nat) : List Act := (0, 0, 1) :: List.replicate i (3, -6, 0)
theorem sNight_s (i : Nat) : sNight (i + 1) = sNight i ++ [(3, -6, 0)] := by
  unfold sNight
  rw [List.replicate_succ']
  rfl
theorem kd_126 : kdc 126 = 3 := by decide
theorem pl_126 : plc 126 = -6 := by decide
/-- what tales fade into, once round -/
def ringF (d : Nat → Int → Int) (ring : Int) : Prop := ∀ k, 0 ≤ k → k ≤ 9 → d 4 k = if k < ring - 1 then k + 1 else 0
theorem stir_at (d : Nat → Int → Int) : (acd d (3, -6, 0)) 99 9 = (if d 99 9 + 10 < 99 then d 99 9 + 10 else 99) ∧ (acd d (3, -6, 0)) 99 10 = d 4 (d 99 10) ∧ (acd d (3, -6, 0)) 99 8 = d 99 8 ∧ (acd d (3, -6, 0)) 99 7 = d 99 7 ∧ (∀ k, (acd d (3, -6, 0)) 4 k = d 4 k) := by
  unfold acd actd
  simp (disch := omega) only [ud_same, ud_ne]
  refine ⟨?_, ?_, ?_, ?_, fun k => ?_⟩ <;> simp <;> simp (disch := omega) only [ud_same, ud_ne]
theorem fill_at (d : Nat → Int → Int) (w t : Int) : (acd d (0, w, t)) 99 9 = 10 * t ∧ (acd d (0, w, t)) 99 10 = w ∧ (acd d (0, w, t)) 99 8 = d 99 8 ∧ (acd d (0, w, t)) 99 7 = d 99 7 ∧ (∀ k, (acd d (0, w, t)) 4 k = d 4 k) := by
  unfold acd actd
  refine ⟨?_, ?_, ?_, ?_, fun k => ?_⟩ <;> simp <;> simp (disch := omega) only [ud_same, ud_ne]
theorem emod_suc {r : Int} (r1 : 1 ≤ r) (i : Int) : (i + 1) % r = if i % r < r - 1 then i % r + 1 else 0 := by
  have m0 : 0 ≤ i % r := Int.emod_nonneg _ (by omega)
  have m1 : i % r < r := Int.emod_lt_of_pos _ (by omega)
  rw [← Int.emod_add_emod]
  generalize i % r = m at m0 m1
  by_cases z : m < r - 1
  · rw [if_pos z, Int.emod_eq_of_lt (by omega) (by omega)]
  · rw [if_neg z, show m + 1 = r by omega, Int.emod_self]
/-- the state behind so many stirs -/
theorem sN_go {ring : Int} (r1 : 1 ≤ ring) (r2 : ring ≤ 10) (hd : ringF d ring) (hp : d 99 8 = 10) : ∀ i : Nat, can (sNight i) d ∧ goD (sNight i) d 99 9 = (if 10 + 10 * (i : Int) < 99 then 10 + 10 * (i : Int) else 99) ∧ goD (sNight i) d 99 10 = (i : Int) % ring ∧ goD (sNight i) d 99 8 = 10 ∧ goD (sNight i) d 99 7 = d 99 7 ∧ ∀ k, goD (sNight i) d 4 k = d 4 k := by
  intro i
  induction i with
  | zero =>
    obtain ⟨h1, h2, h3, h4, h5⟩ := fill_at d 0 1
    refine ⟨⟨?_, trivial⟩, h1, ?_, by rw [← hp]; exact h3, h4, h5⟩
    · show rsn d 0 0 = 0
      unfold rsn; rw [if_pos rfl, if_pos hp]
    · exact h2.trans (by simp)
  | succ i ih =>
    obtain ⟨c, h9, h10, h8, h7, h4⟩ := ih
    obtain ⟨k1, k2, k3, k4, k5⟩ := stir_at (goD (sNight i) d)
    have eg : goD (sNight (i + 1)) d = acd (goD (sNight i) d) (3, -6, 0) := by rw [sNight_s, goD_app]; rfl
    have m0 : 0 ≤ (i : Int) % ring := Int.emod_nonneg _ (by omega)
    have m1 : (i : Int) % ring < ring := Int.emod_lt_of_pos _ (by omega)
    rw [eg]
    refine ⟨?_, ?_, ?_, k3.trans h8, k4.trans h7, fun k => (k5 k).trans (h4 k)⟩
    · rw [sNight_s, can_app]
      refine ⟨c, ?_, trivial⟩
      show rsn _ 3 (-6) = 0
      unfold rsn
      rw [if_neg (by decide), if_neg (by decide), if_neg (by decide), if_pos rfl, if_neg (by rw [h9]; split <;> omega)]
    · rw [k1, h9]
      push_cast
      split <;> split <;> split <;> omega
    · rw [k2, h4, h10, hd _ m0 (by omega)]
      push_cast
      exact (emod_suc r1 _).symm
theorem sN_len (i : Nat) : (sNight i).length = i + 1 := by unfold sNight; simp
theorem t_1698 (hL : L ≤ 260) (hd : okd d) (hf : okd f) (he : okp e) (h60 : e 99 1 = 60) (hs : spl e (sNight 57) 0 (e 99 1)) (h7 : d 99 7 = 0) {ring : Int} (r1 : 1 ≤ ring) (r2 : ring ≤ 10) (hr : ringF d ring) (hp : d 99 8 = 10) (s0 : 0 ≤ step ∧ step ≤ 100) (nn0 : 0 ≤ tens ∧ tens ≤ 100) (r0 : 0 ≤ reached ∧ reached ≤ 10) (b0 : 0 ≤ bel ∧ bel ≤ 2000) (hg : endG step tens bel reached) :
    oK Q1 (g_1698 L xs (eC d) (eC f) (eC e) (eC n) σW σY σK ℓK σH (zI step) (zI tens) (zI bel) (zI reached) (zI ring)) := by
  obtain ⟨c, h9, h10, h8, h7', h4⟩ := sN_go r1 r2 hr hp 57
  have k1 := (go_pass (n := n) he hd hf hs c).2.1
  have e4 : (-4 : Int32) = zI (-4) := by decide
  have e57 : (57 : Int32) = zI 57 := by decide
  have e58 : (58 : Int32) = zI 58 := by decide
  unfold g_1698
  rw [e4, e57, e58, z_126, p_sayF he (by omega) (by omega) h60, s_cl]
  dsimp only
  rw [if_pos rfl, p_done he hd hf hs c, s_cl, sN_len]
  dsimp only
  rw [if_pos (congrArg zI (by first | omega | rfl | (simp; done))), z_3, p_told3, s_cl, s_nz (by omega) (by omega) (by omega), z_rem (by omega) (by omega) (by omega) (by omega), h10, if_pos (congrArg zI (by first | omega | rfl | (simp; done))), z_2, p_told2, s_cl, h9, z_99, if_pos (congrArg zI (by first | omega | rfl | (simp; done)))]
  exact t_1743 hL k1 (clr_ud he) k1 (h7'.trans h7) r1 r2 h10 s0 nn0 r0 b0 hg
theorem say_fill (he : clr e) {w t : Int} (w0 : 0 ≤ w) (w1 : w ≤ 9) (t0 : 1 ≤ t) (t1 : t ≤ 9) :
    f_X6_say (eC e) (zI 61) = some (zI 1, eC (sy e 61)) ∧ f_X6_say (eC (sy e 61)) (zI (48 + w)) = some (zI 2, eC (sy (sy e 61) (48 + w))) ∧ f_X6_say (eC (sy (sy e 61) (48 + w))) (zI (48 + t)) = some (zI 3, eC (sy (sy (sy e 61) (48 + w)) (48 + t))) ∧
    okp (sy (sy (sy e 61) (48 + w)) (48 + t)) ∧ sy (sy (sy e 61) (48 + w)) (48 + t) 99 1 = 3 ∧ spl (sy (sy (sy e 61) (48 + w)) (48 + t)) [(0, w, t)] 0 (sy (sy (sy e 61) (48 + w)) (48 + t) 99 1) := by
  obtain ⟨he, h0⟩ := he
  have o1 := sy_ok he (c := 61) (by omega) (by omega) (by omega)
  have z1 := sy_1 (e := e) 61
  have o2 := sy_ok o1 (c := 48 + w) (by omega) (by omega) (by omega)
  have z2 := sy_1 (e := sy e 61) (48 + w)
  have o3 := sy_ok o2 (c := 48 + t) (by omega) (by omega) (by omega)
  have z3 := sy_1 (e := sy (sy e 61) (48 + w)) (48 + t)
  have f1 := spl_fill (spl_nil h0) w0 w1 t0 t1
  refine ⟨?_, ?_, ?_, o3, by omega, ?_⟩
  · rw [p_say he (by omega) (by omega) (by omega), h0]; rfl
  · rw [p_say o1 (by omega) (by omega) (by omega), show sy e 61 99 1 + 1 = 2 by omega]
  · rw [p_say o2 (by omega) (by omega) (by omega), show sy (sy e 61) (48 + w) 99 1 + 1 = 3 by omega]
  · rw [show sy (sy (sy e 61) (48 + w)) (48 + t) 99 1 = e 99 1 + 3 by omega]; exact f1
theorem t_1582 (hL : L ≤ 260) (hd : okd d) (hf : okd f) (he : clr e) (h7 : d 99 7 = 0) {ring : Int} (r1 : 1 ≤ ring) (r2 : ring ≤ 10) (hr : ringF d ring) (hp : d 99 8 = 10) (s0 : 0 ≤ step ∧ step ≤ 100) (nn0 : 0 ≤ tens ∧ tens ≤ 100) (r0 : 0 ≤ reached ∧ reached ≤ 10) (b0 : 0 ≤ bel ∧ bel ≤ 2000) (hg : endG step tens bel reached) :
    oK Q1 (g_1582 L xs (eC d) (eC f) (eC e) (eC n) σW σY σK ℓK σH (zI step) (zI tens) (zI bel) (zI reached) (zI ring)) := by
  obtain ⟨q1, q2, q3, q4, q5, q6⟩ := say_fill he (w := 0) (t := 1) (by omega) (by omega) (by omega) (by omega)
  rw [show (48 + 0 : Int) = 48 from rfl, show (48 + 1 : Int) = 49 from rfl] at *
  have e48 : (48 : Int32) = zI 48 := by decide
  have e49 : (49 : Int32) = zI 49 := by decide
  unfold g_1582
  rw [z_61, q1, s_cl, z_1]
  dsimp only
  rw [if_pos rfl, e48, q2, s_cl, z_2]
  dsimp only
  rw [if_pos rfl, e49, q3, s_cl, z_3]
  dsimp only
  rw [if_pos rfl, z_0]
  refine ok_forI (τ := qS × qS × qS) 57 (fun i u => ∃ f e n : Nat → Int → Int, u = (eC f, eC e, eC n) ∧ okd f ∧ okp e ∧ e 99 1 = 3 + i ∧ spl e (sNight i.toNat) 0 (e 99 1)) (fun again i u i0 i1 hP ih => ?_) 20000 0 _ (by omega) (by omega) ⟨f, _, n, rfl, hf, q4, by omega, q6⟩ (by omega)
  obtain ⟨f, e, n, rfl, hf, he, h1, hs⟩ := hP
  unfold b_L_law_1617
  have e57 : (57 : Int32) = zI 57 := by decide
  dsimp only
  rw [e57, z_20, z_10, z_mul, z_add, z_99, z_126, z_4, z_add, z_1, z_add, z_2]
  refine ok_ifE (z_le (by omega) (by omega) (by omega) (by omega)) (fun c => ?_) (fun c => ?_)
  · obtain rfl : i = 57 := by omega
    exact t_1698 hL hd hf he (by omega) hs h7 r1 r2 hr hp s0 nn0 r0 b0 hg
  · obtain ⟨p1, p2, p3, p4⟩ := say_one he hs (c := 126) (by omega) (by omega) kd_126 (by omega) (by omega)
    rw [pl_126, ← sNight_s] at p4
    obtain ⟨c1, g9, g10, g8, g7, g4⟩ := sN_go r1 r2 hr hp (i.toNat + 1)
    have k1 := (go_pass (n := n) p2 hd hf p4 c1).2.1
    have w1 := fun n => p_pan (n := n) p2 hd hf p4 c1 (w := 1) (by omega) (by omega)
    have w2 := fun n => p_pan (n := n) p2 hd k1 p4 c1 (w := 2) (by omega) (by omega)
    rw [show pFact (goD (sNight (i.toNat + 1)) d) 1 = goD (sNight (i.toNat + 1)) d 99 9 from rfl, g9] at w1
    rw [show pFact (goD (sNight (i.toNat + 1)) d) 2 = goD (sNight (i.toNat + 1)) d 99 10 from rfl, g10] at w2
    have nx : (∃ f' e' n' : Nat → Int → Int, ((eC (goD (sNight (i.toNat + 1)) d), eC (sy e 126), eC (goN (sNight (i.toNat + 1)) (n0 (goN (sNight (i.toNat + 1)) (n0 n) d)) d)) : qS × qS × qS) = (eC f', eC e', eC n') ∧ okd f' ∧ okp e' ∧ e' 99 1 = 3 + (i + 1) ∧ spl e' (sNight (i + 1).toNat) 0 (e' 99 1)) := ⟨_, _, _, rfl, k1, p2, by omega, by rw [show (i + 1).toNat = i.toNat + 1 by omega]; exact p4⟩
    have st := ih (by omega) _ nx
    have ei : ((i.toNat + 1 : Nat) : Int) = i + 1 := by omega
    rw [ei] at w1 w2
    refine ok_ifE (z_le (by omega) (by omega) (by omega) (by omega)) (fun c2 => ?_) (fun c2 => ?_)
    · rw [s_bd, p1, s_cl]
      dsimp only
      rw [if_pos (congrArg zI (by first | omega | rfl | (simp; done))), w1, s_cl]
      dsimp only
      have hh : (if 10 + 10 * (i + 1) < 99 then 10 + 10 * (i + 1) else 99) = 20 + 10 * i := by split <;> omega
      rw [hh, if_pos rfl, w2, s_cl, s_nz (by omega) (by omega) (by omega), z_rem (by omega) (by omega) (by omega) (by omega)]
      dsimp only
      rw [if_pos rfl]
      exact st
    · rw [p1, s_cl]
      dsimp only
      rw [if_pos (congrArg zI (by first | omega | rfl | (simp; done))), w1, s_cl]
      dsimp only
      have hh : (if 10 + 10 * (i + 1) < 99 then 10 + 10 * (i + 1) else 99) = 99 := by split <;> omega
      rw [hh, if_pos rfl, w2, s_cl, s_nz (by omega) (by omega) (by omega), z_rem (by omega) (by omega) (by omega) (by omega)]
      dsimp only
      rw [if_pos rfl]
      exact st
end SEG3


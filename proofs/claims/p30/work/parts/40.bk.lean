/-! the law's segments: the row, kept by one; the star laid -/
section SEG9
variable {d e f n : Nat → Int → Int} {L : Nat} {xs : Nat → Int32} {σC σD σP σN σW σY σK σH σE : qS} {ℓK κ : qL} {step tens blv reached w t h house doubt tale : Int}
def adj (q p : Int) : Prop := (q ≤ 9 ∧ p ≤ 9 ∧ (p = q + 1 ∨ q = p + 1)) ∨ (q = 10 ∧ p = 0) ∨ (q = 0 ∧ p = 10)
/-- the row: roads of one length from house to house -/
def chS (d : Nat → Int → Int) (step : Int) : Prop := (1 ≤ step ∧ step ≤ 4) ∧ ∀ q p, 0 ≤ q → q ≤ 10 → 0 ≤ p → p ≤ 10 → (adj q p → d 0 (q * 11 + p) = step) ∧ (¬ adj q p → d 0 (q * 11 + p) = 0)
theorem ch_reach (hC : chS d step) : ∀ k : Nat, k ≤ 9 → rchd d 0 (k + 1) k := by
  intro k
  have nb : ∀ p : Int, ¬ bi 0 p = true := fun p => by rw [bi_z0]; decide
  induction k with
  | zero =>
    intro _
    refine Or.inr ⟨⟨10, by omega, by omega, rfl, ?_⟩, nb _⟩
    rw [(hC.2 10 ((0 : Nat) : Int) (by omega) (by omega) (by omega) (by omega)).1 (Or.inr (Or.inl ⟨rfl, rfl⟩))]
    have := hC.1; omega
  | succ k ih =>
    intro hk
    refine Or.inr ⟨⟨(k : Int), by omega, by omega, ih (by omega), ?_⟩, nb _⟩
    rw [(hC.2 (k : Int) ((k + 1 : Nat) : Int) (by omega) (by omega) (by omega) (by omega)).1 (Or.inl ⟨by omega, by omega, Or.inl (by omega)⟩)]
    have := hC.1; omega
theorem ch_stop (hC : chS d step) : ∀ (m : Nat) (p : Int), 0 ≤ p → p ≤ 10 → rchd d (zI 1) m p → p = 10 := by
  intro m
  induction m with
  | zero => intro p _ _ h; exact h
  | succ m ih =>
    intro p p0 p1 h
    rcases h with h | ⟨⟨q, q0, q1, q2, q3⟩, q4⟩
    · exact ih p p0 p1 h
    · have e := ih q q0 q1 q2
      subst e
      by_cases c : adj 10 p
      · have : p = 0 := by unfold adj at c; omega
        subst this
        exact absurd (show bi (zI 1) 0 = true by decide) q4
      · rw [(hC.2 10 p (by omega) (by omega) p0 p1).2 c] at q3; omega
theorem onz_le : ∀ a : Nat, a < 32 → ∀ b : Nat, b < 32 → 0 < 32 * a + b → onz (zI 1) ≤ onz (nI (32 * a + b)) := by decide +kernel
theorem onz_ge {i : Int} (i0 : 1 ≤ i) (i1 : i < 1024) : onz (zI 1) ≤ onz (zI i) := by
  have := onz_le (i.toNat / 32) (by omega) (i.toNat % 32) (by omega) (by omega)
  rw [show 32 * (i.toNat / 32) + i.toNat % 32 = i.toNat by omega, z_n, Int.toNat_of_nonneg (by omega)] at this
  exact this
theorem ks_1 (hd : okd d) (σ : qS) (hn : nbs d σ 11) {h : Int} (hh0 : 1 ≤ h) (hh1 : h ≤ 9) (K : Int32 × Int32 → Option (Int32 × qS)) :
    ∀ (N : Nat) (i : Int), 1 ≤ i → i ≤ 1024 → (1024 - i).toNat < N → q_lp (b_X5_fewestDamp_24 (zI h) σ) K N (zI i, zI 1) = K (zI 1024, zI 1) := by
  intro N
  induction N with
  | zero => intro i _ _ h; omega
  | succ N ih =>
    intro i h0 h1 hN
    rw [lp_s]
    generalize q_lp (b_X5_fewestDamp_24 (zI h) σ) K N = again at ih
    unfold b_X5_fewestDamp_24
    dsimp only
    rw [z_1024, z_s1]
    by_cases c : i < 1024
    · rw [if_neg (c_nle c (by omega) (by omega)), if_neg (show ¬ zI 1 = (-6 : Int32) by decide), (onz_of (s := i) (by omega) c).1, s_cl, (onz_of (s := 1) (by omega) (by omega)).1, s_cl, if_pos (onz_ge h0 c)]
      exact ih (i + 1) (by omega) (by omega) (by omega)
    · obtain rfl : i = 1024 := by omega
      rw [if_pos (c_le (by omega) (by omega) (by omega))]
theorem ks_0 (hd : okd d) (hC : chS d step) (σ : qS) (hn : nbs d σ 11) {h : Int} (hh0 : 1 ≤ h) (hh1 : h ≤ 9) (K : Int32 × Int32 → Option (Int32 × qS)) : q_lp (b_X5_fewestDamp_24 (zI h) σ) K 20000 (zI 0, zI (-6)) = K (zI 1024, zI 1) := by
  obtain ⟨r1, e1, q1⟩ := ok_get (y_leadsTo (S := zI 0) σ hn (h := h) (by omega) hh1)
  obtain ⟨r2, e2, q2⟩ := ok_get (y_leadsTo (S := zI 1) σ hn (h := h) (by omega) hh1)
  have re : rchd d (zI 0) 11 h := by
    have := rchd_mono (m := 11) (by omega) (ch_reach hC h.toNat (by omega))
    rw [Int.toNat_of_nonneg (by omega)] at this
    exact this
  have ns : ¬ rchd d (zI 1) 11 h := fun z => by have := ch_stop hC 11 h (by omega) (by omega) z; omega
  have r1' : r1 = 1 := by rcases q1 with ⟨_, z⟩ | ⟨z, _⟩
                          · exact absurd re z
                          · exact z
  have r2' : r2 = 0 := by rcases q2 with ⟨z, _⟩ | ⟨_, z⟩
                          · exact z
                          · exact absurd z ns
  subst r1' r2'
  have b0 : ¬ bi (zI 0) h = true := by rw [← z_0, bi_z0]; decide
  have b1 : ¬ bi (zI 1) h = true := by
    rw [bi_z (by omega) (by omega) (by omega), show Int.toNat 1 = 2 ^ 0 from rfl, Nat.testBit_two_pow]
    intro z
    have := of_decide_eq_true z
    omega
  rw [show (20000 : Nat) = 19998 + 1 + 1 from rfl, lp_s]
  generalize hA : q_lp (b_X5_fewestDamp_24 (zI h) σ) K (19998 + 1) = again
  unfold b_X5_fewestDamp_24
  dsimp only
  rw [if_neg (show ¬ (1024 : Int32) ≤ zI 0 by decide), if_pos (show zI (-6) = (-6 : Int32) by decide), x_isInB (zI 0) (by omega) (by omega), s_cl, if_neg b0, if_pos rfl, e1, s_cl, if_neg (by decide), ← hA, lp_s]
  have tail := ks_1 hd σ hn hh0 hh1 K 19998 2 (by omega) (by omega) (by omega)
  generalize q_lp (b_X5_fewestDamp_24 (zI h) σ) K 19998 = again2 at tail ⊢
  clear hA
  unfold b_X5_fewestDamp_24
  dsimp only
  rw [show zI 0 + 1 = zI 1 by decide, if_neg (show ¬ (1024 : Int32) ≤ zI 1 by decide), if_pos (show zI (-6) = (-6 : Int32) by decide), x_isInB (zI 1) (by omega) (by omega), s_cl, if_neg b1, if_pos rfl, e2, s_cl, if_pos rfl, show zI 1 + 1 = zI 2 by decide]
  exact tail
theorem p_keep (hd : okd d) (hC : chS d step) (σ : qS) {h w : Int} (h0 : 0 ≤ h) (h1 : h ≤ 9) (w0 : 0 ≤ w) (w1 : w ≤ 1) : ∃ s, f_X6_keep σ (eC d) (zI h) (zI w) = some (zI (if h = 0 then -6 else 1), s) := by
  unfold f_X6_keep f_X5_fewestDamp
  have hrl : (zI (d 0 (110 + h)) ≤ zI 0) = (¬ 0 < d 0 (110 + h)) := by rw [← z_0]; exact road_le hd
  have hcs := hC.2 10 h (by omega) (by omega) h0 (by omega)
  rw [x_hou h0 h1, s_cl, z_0, z_1, if_neg n10, x_win w0 w1 (by omega) (by omega), s_cl, if_neg n10, z_10, x_longBetween d (by omega) (by omega) h0 (by omega), s_cl, show (10 : Int) * 11 + h = 110 + h by omega, show (-6 : Int32) = zI (-6) by decide]
  rw [show (10 : Int) * 11 + h = 110 + h by omega] at hcs
  simp only [hrl]
  by_cases c : h = 0
  · subst c
    have hr := hcs.1 (Or.inr (Or.inl ⟨rfl, rfl⟩))
    have s1 := hC.1
    rw [if_neg (fun z => z (by omega)), if_pos rfl, s_cl]
    dsimp only
    by_cases cw : zI w = zI 1
    · rw [if_pos cw]; exact ⟨σ, rfl⟩
    · rw [if_neg cw, if_pos rfl]; exact ⟨σ, rfl⟩
  · have hr := hcs.2 (by unfold adj; omega)
    obtain ⟨s, e1, hn⟩ := ok_get (y_findNeighbours hd σ)
    rw [if_pos (by omega), if_neg c, e1, s_cl, ks_0 hd hC s hn (by omega) h1, s_cl]
    dsimp only
    by_cases cw : zI w = zI 1
    · rw [if_pos cw]; exact ⟨s, rfl⟩
    · rw [if_neg cw, if_neg (by decide), (onz_of (s := 1) (by omega) (by omega)).1, s_cl, show onz (zI 1) = zI 1 from (onz_one.2 0 (by omega)).trans z_1]
      exact ⟨s, rfl⟩
end SEG9


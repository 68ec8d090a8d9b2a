section TOLD
variable {d e m : Nat → Int → Int} {τ : qL}
theorem x_behindStirs (hd : okd d) {t n : Int} (t0 : 0 ≤ t) (t1 : t ≤ 9) (n0 : 0 ≤ n) (n1 : n ≤ 1000) : f_X1_behindStirs (eC d) (zI t) (zI n) = some (zI (itr d n.toNat t)) := by
  unfold f_X1_behindStirs
  rw [z_0]
  refine lp_en (fun i : Int => (zI i, zI (itr d i.toNat t))) (fun _ _ => some (zI (itr d n.toNat t))) (fun N i => 0 ≤ i ∧ i ≤ n ∧ (n - i).toNat < N) (fun i => by omega) ?_ 20000 0 ⟨by omega, by omega, by omega⟩
  rintro again N i ⟨h0, h1, h2⟩ ih
  have hb := itr_b hd t0 t1 i.toNat
  unfold b_X1_behindStirs_5
  dsimp only
  by_cases c : i < n
  · rw [if_neg (by rw [z_le (by omega) (by omega) (by omega) (by omega)]; omega), x_fadesInto d hb.1 hb.2, s_cl, z_s1]
    have := ih (i + 1) ⟨by omega, by omega, by omega⟩
    rw [show (i + 1).toNat = i.toNat + 1 by omega] at this
    exact this
  · obtain rfl : i = n := by omega
    rw [if_pos (by rw [z_le (by omega) (by omega) (by omega) (by omega)]; omega)]
/-- a tale that came before -/
def rep (d : Nat → Int → Int) (t : Int) (n : Nat) : Prop := ∃ e, e < n ∧ itr d e t = itr d n t
theorem x_stirsToRing (hd : okd d) {t : Int} (t0 : 0 ≤ t) (t1 : t ≤ 9) {L : Nat} (l1 : L ≤ 10) (hr : rep d t L) (hl : ∀ k, k < L → ¬ rep d t k) : f_X1_stirsToRing (eC d) (zI t) = some (zI L) := by
  unfold f_X1_stirsToRing
  rw [z_0]
  have key : oK (fun r => r = zI L) (q_lp (b_X1_stirsToRing_7 (eC d)) (fun _ => some (10 : Int32)) 20000 (zI 0, zI t, zI 0)) := by
    refine ok_forI (τ := Int32 × Int32) L (fun s u => u.1 = zI (itr d s.toNat t) ∧ ∀ p, 0 ≤ p → p ≤ 9 → (bi u.2 p = true ↔ ∃ e, e < s.toNat ∧ itr d e t = p)) (fun again s u h0 h1 hu ih => ?_) 20000 0 _ (by omega) (by omega) ⟨rfl, fun p h4 h5 => ?_⟩ (by omega)
    · obtain ⟨u1, u2⟩ := u
      obtain ⟨hu1, hu2⟩ := hu
      dsimp only at hu1 hu2
      subst hu1
      have hb := itr_b hd t0 t1 s.toNat
      unfold b_X1_stirsToRing_7
      dsimp only
      rw [if_neg (by rw [z_10, z_lt (by omega) (by omega) (by omega) (by omega)]; omega), x_tal (by omega) (by omega), s_cl, if_neg (by decide), x_isInB u2 hb.1 (by omega), s_cl, z_s1]
      simp (disch := omega) only [one_if]
      have hq := hu2 (itr d s.toNat t) hb.1 hb.2
      refine ok_if (fun c => ?_) (fun c => ?_)
      · rw [s_bd, x_fadesInto d hb.1 hb.2, s_cl]
        have hn : ¬ rep d t s.toNat := fun z => c (hq.mpr z)
        have hs : s < L := by
          by_cases e : s < L
          · exact e
          · exact absurd (show rep d t s.toNat by rw [show s.toNat = L by omega]; exact hr) hn
        refine ih hs (zI (d 4 (itr d s.toNat t)), _) ⟨?_, fun p h4 h5 => ?_⟩
        · rw [show (s + 1).toNat = s.toNat + 1 by omega]; rfl
        · rw [bi_or, bi_one h4 (by omega) hb.1 (by omega), Bool.or_eq_true, hu2 p h4 h5, decide_eq_true_eq, show (s + 1).toNat = s.toNat + 1 by omega]
          constructor
          · rintro (⟨e, e0, e1⟩ | y)
            · exact ⟨e, by omega, e1⟩
            · exact ⟨s.toNat, by omega, y.symm⟩
          · rintro ⟨e, e0, e1⟩
            by_cases ee : e = s.toNat
            · subst ee; exact Or.inr e1.symm
            · exact Or.inl ⟨e, by omega, e1⟩
      · have hz := hq.mp (Classical.not_not.mp c)
        have hs : s = L := by
          by_cases e : s.toNat < L
          · exact absurd hz (hl _ e)
          · omega
        subst hs
        exact ok_r rfl
    · rw [← z_0, bi_z0]
      exact ⟨fun z => absurd z (by decide), fun ⟨e, h, _⟩ => absurd h (Nat.not_lt_zero e)⟩
  obtain ⟨r, h1, rfl⟩ := key
  exact h1
theorem x_stirsOfRing (hd : okd d) {t : Int} (t0 : 0 ≤ t) (t1 : t ≤ 9) {L e0 : Nat} (l1 : L ≤ 10) (hr : rep d t L) (hl : ∀ k, k < L → ¬ rep d t k) (he : e0 < L) (h : itr d e0 t = itr d L t) (hf : ∀ e, e < e0 → ¬ itr d e t = itr d L t) : f_X1_stirsOfRing (eC d) (zI t) = some (zI ((L : Int) - e0)) := by
  unfold f_X1_stirsOfRing
  rw [x_stirsToRing hd t0 t1 l1 hr hl, s_cl, x_behindStirs hd t0 t1 (by omega) (by omega), s_cl, z_0, Int.toNat_natCast]
  have hbL := itr_b hd t0 t1 L
  have key : oK (fun r => r = zI ((L : Int) - e0)) (q_lp (b_X1_stirsOfRing_16 (eC d) (zI t) (zI L) (zI (itr d L t))) (fun _ => some (zI L)) 20000 (zI 0)) := by
    refine ok_forI1 e0 (fun _ => True) (fun again s h0 h1 _ ih => ?_) 20000 0 (by omega) (by omega) trivial (by omega)
    unfold b_X1_stirsOfRing_16
    have hb := itr_b hd t0 t1 s.toNat
    rw [if_neg (by rw [z_le (by omega) (by omega) (by omega) (by omega)]; omega), x_behindStirs hd t0 t1 (by omega) (by omega), s_cl, z_s1, z_sub]
    refine ok_ifE (z_eq (by omega) (by omega) (by omega) (by omega)) (fun c => ?_) (fun c => ?_)
    · have : s = e0 := by
        by_cases z : s.toNat < e0
        · exact absurd c (hf _ z)
        · omega
      subst this
      exact ok_r rfl
    · refine ih ?_ trivial
      by_cases z : s < e0
      · exact z
      · have : s.toNat = e0 := by omega
        rw [this] at c
        exact absurd h c
  obtain ⟨r, h1, rfl⟩ := key
  exact h1
end TOLD


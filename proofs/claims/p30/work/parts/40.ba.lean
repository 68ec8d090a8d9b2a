/-! the law's segments of the sights -/
section SEG1
variable {d : Nat → Int → Int} {L : Nat} {xs : Nat → Int32} {σC σD σP σN σW σY σK σH σE : qS} {ℓK κ : qL} {step tens bel reached w t : Int}
theorem t_2028 (hL : L ≤ 260) (hd : okd d) {said ev : Int} (d0 : 0 ≤ said) (d1 : said ≤ 9) (v0 : 1 ≤ ev) (v1 : ev ≤ 5) (hf : fitB d (10 * said + ev) = true) (hx : d 99 7 < 8 → ∀ b : Int, 0 ≤ b → b ≤ 40 → (cn d 100 : Int) ≤ mlm d b 100) (s0 : 0 ≤ step ∧ step ≤ 100) (nn0 : 0 ≤ tens ∧ tens ≤ 100) (r0 : 0 ≤ reached ∧ reached ≤ 10) (b0 : 0 ≤ bel ∧ bel ≤ 2000) (he : endG step tens bel reached) :
    oK Q1 (g_2028 L xs (eC d) σD σP σN σW σY σK ℓK σH (zI step) (zI tens) (zI bel) (zI reached) (zI said) (zI ev) (zI (d 99 7)) (zI (cn d 100))) := by
  have h5 := cn_50 (d := d)
  have h7 := okd_s hd
  unfold g_2028
  rw [z_0]
  refine ok_forI (τ := qS) (cn d 100 : Int) (fun _ _ => True) (fun again i σ h0 h1 _ ih => ?_) 20000 0 σY (by omega) (by omega) trivial (by omega)
  unfold b_L_law_2031
  dsimp only
  rw [z_8]
  refine ok_ifE (z_le (by omega) (by omega) (by omega) (by omega)) (fun _ => t_2108 hL rfl s0 nn0 r0 b0 he) (fun c => ?_)
  refine ok_ifE (z_le (by omega) (by omega) (by omega) (by omega)) (fun _ => t_2108 hL rfl s0 nn0 r0 b0 he) (fun c8 => ?_)
  obtain ⟨u, u1, u2, u3⟩ := cn_at (d := d) 100 i.toNat (by omega)
  obtain ⟨s, es⟩ := p_fits hd σ u1 u2
  rw [u3, Int.toNat_of_nonneg h0] at es
  obtain ⟨m1, m2⟩ := fit_mod u2
  rw [es, s_cl, z_0]
  refine ok_forI1 41 (fun _ => True) (fun again2 b h2 h3 _ ih2 => ?_) 20000 0 (by omega) (by omega) trivial (by omega)
  unfold b_L_law_2056
  dsimp only
  rw [z_41, z_10]
  refine ok_ifE (z_le (by omega) (by omega) (by omega) (by omega)) (fun _ => ?_) (fun cb => ?_)
  · rw [z_s1]; exact ih (by omega) _ trivial
  have dv : ∀ k : Int, 1 ≤ k → 0 ≤ b / k ∧ b / k ≤ b := fun k hk => ⟨Int.ediv_nonneg h2 (by omega), Int.ediv_le_self _ h2⟩
  have d1' := dv _ m1
  have d2' := dv _ v0
  have hu9 : (u : Int) / 10 ≤ 9 := by omega
  rw [z_rem (by omega) (by omega) (by omega) (by omega), s_nz (by omega) (by omega) (by omega), z_div (a := (u : Int)) (by omega) (by omega) (by omega) (by omega), z_div h2 (by omega) (by omega) (by omega), p_faded hd (by omega) hu9 d1'.1 (by omega), s_cl, s_nz (by omega) (by omega) (by omega), z_div h2 (by omega) (by omega) (by omega), p_faded hd d0 d1 d2'.1 (by omega), s_cl]
  have key : bdT d b u = bdT d b (10 * said + ev).toNat := all_alike (hx (by omega) b h2 (by omega)) u1 (by omega) u2 (by rw [Int.toNat_of_nonneg (by omega)]; exact hf)
  unfold bdT at key
  rw [Int.toNat_of_nonneg (by omega), show (10 * said + ev) % 10 = ev by omega, show (10 * said + ev) / 10 = said by omega] at key
  rw [key, if_pos rfl, z_s1]
  exact ih2 (by omega) trivial
/-- the sights so far: what was said fits -/
def sgI (d0 d : Nat → Int → Int) (said ev asked : Int) : Prop := okd d ∧ d 99 7 = asked ∧ fitB d (10 * said + ev) = true
theorem t_1866 (hL : L ≤ 260) (hd : okd d) (hs : d 99 7 = 0) (s0 : 0 ≤ step ∧ step ≤ 100) (nn0 : 0 ≤ tens ∧ tens ≤ 100) (r0 : 0 ≤ reached ∧ reached ≤ 10) (b0 : 0 ≤ bel ∧ bel ≤ 2000) (he : endG step tens bel reached) :
    oK Q1 (g_1866 L xs (eC d) σD σP σN σW σY σK ℓK σH (zI step) (zI tens) (zI bel) (zI reached)) := by
  obtain ⟨said, e1, d0, d1⟩ := x_cell hL xs (a := 6) (n := 10) (by omega) (by omega) (by omega) (by omega)
  obtain ⟨ev', e2, d2, d3⟩ := x_cell hL xs (a := 7) (n := 5) (by omega) (by omega) (by omega) (by omega)
  unfold g_1866
  rw [z_6, z_10, e1, s_cl, z_7, z_5, e2, s_cl, z_1, z_add, s_bd]
  obtain ⟨ev, rfl⟩ : ∃ ev, ev = 1 + ev' := ⟨_, rfl⟩
  have em1 : (-1 : Int32) = -zI 1 := by decide
  obtain ⟨s, es⟩ := p_fitsN hd σY
  rw [em1] at es
  rw [es, s_cl]
  have hf0 : fitB d (10 * said + (1 + ev')) = true := fitB_t.mpr ⟨by omega, by omega, fun i i0 i1 => by omega⟩
  generalize hev : 1 + ev' = ev at hf0 ⊢
  have v0 : 1 ≤ ev := by omega
  have v1 : ev ≤ 5 := by omega
  clear hev
  refine lp_to (fun s => (8 - s.2.2.1.toInt).toNat) (fun s => ∃ (σ : qS) (d : Nat → Int → Int) (a : Int), s = (σ, zI (cn d 100), zI a, eC d) ∧ sgI d d said ev a) (oK Q1) (fun again s hs ih => ?_) ⟨s, d, 0, by rw [z_0], hd, hs, hf0⟩ ?_
  · obtain ⟨σ, d, a, rfl, hd, ha, hf⟩ := hs
    have h7 := okd_s hd
    have h5 := cn_50 (d := d)
    have ih' : ∀ (σ' : qS) (d' : Nat → Int → Int) (a' : Int), sgI d' d' said ev a' → a < a' → oK Q1 (again (σ', zI (cn d' 100), zI a', eC d')) := fun σ' d' a' h1 h2 => ih _ ⟨_, _, _, rfl, h1⟩ (by
      have := okd_s h1.1
      have := h1.2.1
      dsimp only
      rw [z_toInt (by omega) (by omega), z_toInt (by omega) (by omega)]; omega)
    clear ih
    have hw : fitB d (10 * said + ev).toNat = true := by rw [Int.toNat_of_nonneg (by omega)]; exact hf
    have hcn : ¬ cn d 100 = 0 := by
      have h1 := cn_mono (d := d) (show (10 * said + ev).toNat + 1 ≤ 100 by omega)
      rw [cn_fit hw] at h1; omega
    have hk := ak_b (d := d) 40 (by omega)
    have hm := mlm_b (d := d) (ak d 40).1 100
    have hdiv : 0 ≤ (ak d 40).1 / ev ∧ (ak d 40).1 / ev ≤ (ak d 40).1 := ⟨Int.ediv_nonneg hk.1 (by omega), Int.ediv_le_self _ hk.1⟩
    have ht := itr_b hd d0 (show said ≤ 9 by omega) ((ak d 40).1 / ev).toNat
    subst ha
    unfold b_L_law_1897
    dsimp only
    rw [z_0, z_1, z_8]
    refine ok_ifE (z_le (by omega) (by omega) (by omega) (by omega)) (fun c => ?_) (fun c => ?_)
    · exact t_2028 hL hd d0 (by omega) v0 v1 hf (fun z => by omega) s0 nn0 r0 b0 he
    obtain ⟨s1, q1⟩ := p_ask1 hd σ hcn
    rw [q1, s_cl]
    dsimp only
    refine ok_ifE (z_le (by omega) (by omega) (by omega) (by omega)) (fun c2 => ?_) (fun c2 => ?_)
    · refine t_2028 hL hd d0 (by omega) v0 v1 hf (fun _ b hb0 hb1 => ?_) s0 nn0 r0 b0 he
      have := ak_least (d := d) 40 b.toNat (by omega)
      rw [Int.toNat_of_nonneg hb0] at this
      omega
    obtain ⟨s2, q2⟩ := p_ask0 hd s1 hcn
    obtain ⟨s3, q3⟩ := p_ask1 hd s2 hcn
    rw [q2, s_cl]
    dsimp only
    rw [q3, s_cl, s_nz (by omega) (by omega) (by omega), z_div hk.1 (by omega) (by omega) (by omega), p_faded hd d0 (by omega) hdiv.1 (by omega), s_cl]
    obtain ⟨q4, hd'⟩ := p_seen hd hk.1 (show (ak d 40).1 ≤ 40 by omega) ht.1 ht.2 (by omega)
    rw [q4, s_cl]
    dsimp only
    rw [z_add, if_pos rfl]
    obtain ⟨s4, q5⟩ := p_fitsN hd' s3
    rw [em1] at q5
    rw [q5, s_cl]
    dsimp only
    have hcn' := see_cn hd (ak d 40).1 (itr d ((ak d 40).1 / ev).toNat said) 100
    have hml := mlc_le (d := d) (ak d 40).1 100 (itr d ((ak d 40).1 / ev).toNat said)
    have h5' := cn_50 (d := see d (ak d 40).1 (itr d ((ak d 40).1 / ev).toNat said))
    have h7' := see_7 (d := d) (ak d 40).1 (itr d ((ak d 40).1 / ev).toNat said)
    have hf' : fitB (see d (ak d 40).1 (itr d ((ak d 40).1 / ev).toNat said)) (10 * said + ev).toNat = true := (see_fit hd _ _ _).mpr ⟨hw, by
      unfold bdT
      rw [Int.toNat_of_nonneg (by omega), show (10 * said + ev) % 10 = ev by omega, show (10 * said + ev) / 10 = said by omega]⟩
    generalize see d (ak d 40).1 (itr d ((ak d 40).1 / ev).toNat said) = D at hd' hcn' h5' h7' hf' q5 ⊢
    refine ok_ifE (z_le (by omega) (by omega) (by omega) (by omega)) (fun _ => ?_) (fun c3 => absurd (by rw [hk.2.2]; omega) c3)
    obtain ⟨s5, q6⟩ := p_fitsN hd' s4
    rw [em1] at q6
    rw [q6, s_cl]
    dsimp only
    have hlt : cn D (10 * said + ev).toNat < cn D 100 := by
      have h1 := cn_mono (d := D) (show (10 * said + ev).toNat + 1 ≤ 100 by omega)
      rw [cn_fit hf'] at h1; omega
    refine ok_forI (τ := Int32 × qS) (cn D 100 : Int) (fun i u => (u.1 = zI 0 ∨ u.1 = zI 1) ∧ ((cn D (10 * said + ev).toNat : Int) < i → u.1 = zI 1)) (fun again2 i u h0 h1 hP ih2 => ?_) 20000 0 (zI 0, s5) (by omega) (by omega) ⟨Or.inl rfl, fun z => by omega⟩ (by omega)
    obtain ⟨um, us⟩ := u
    dsimp only at hP
    obtain ⟨hP1, hP2⟩ := hP
    unfold b_L_law_1978
    dsimp only
    refine ok_ifE (z_le (by omega) (by omega) (by omega) (by omega)) (fun c4 => ?_) (fun c4 => ?_)
    · rw [hP2 (by omega), if_neg n10]
      have := ih' us D (d 99 7 + 1) ⟨hd', h7', by rw [Int.toNat_of_nonneg (by omega)] at hf'; exact hf'⟩ (by omega)
      exact this
    · obtain ⟨u, u1, u2, u3⟩ := cn_at (d := D) 100 i.toNat (by omega)
      obtain ⟨s6, es⟩ := p_fits hd' us u1 u2
      rw [u3, Int.toNat_of_nonneg h0] at es
      rw [es, s_cl, z_10, z_mul, z_add, z_s1]
      dsimp only
      have o1 : ∀ x : Int32, (x = zI 0 ∨ x = zI 1) → x ||| 1 = zI 1 := fun x hx => by rcases hx with rfl | rfl <;> decide
      have o0 : ∀ x : Int32, x ||| 0 = x := fun x => Int32.or_zero
      refine ok_ifE (z_eq (by omega) (by omega) (by omega) (by omega)) (fun c5 => ?_) (fun c5 => ?_)
      · rw [o1 _ hP1, s_bd]
        exact ih2 (by omega) _ ⟨Or.inr rfl, fun _ => rfl⟩
      · rw [o0, s_bd]
        refine ih2 (by omega) _ ⟨hP1, fun z => hP2 ?_⟩
        by_cases e : (cn D (10 * said + ev).toNat : Int) = i
        · have : u = (10 * said + ev).toNat := cn_inj u2 hf' (by omega)
          omega
        · omega
  · show (8 - Int32.toInt 0).toNat < 20000
    decide
end SEG1


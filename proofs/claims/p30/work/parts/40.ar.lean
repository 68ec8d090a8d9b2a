noncomputable def bdT (d : Nat → Int → Int) (b : Int) (w : Nat) : Int := itr d (b / ((w : Int) % 10)).toNat ((w : Int) / 10)
/-- how often a tale would be believed in a bed, the most of these -/
noncomputable def mlc (d : Nat → Int → Int) (b : Int) : Nat → Int → Int
  | 0, _ => 0
  | n + 1, x => if fitB d n = true ∧ x = bdT d b n then mlc d b n x + 1 else mlc d b n x
noncomputable def mlm (d : Nat → Int → Int) (b : Int) : Nat → Int
  | 0 => 0
  | n + 1 => if fitB d n = true then (if mlm d b n < mlc d b n (bdT d b n) + 1 then mlc d b n (bdT d b n) + 1 else mlm d b n) else mlm d b n
/-- the best bed of those below, and its most -/
noncomputable def ak (d : Nat → Int → Int) : Nat → Int × Int
  | 0 => (0, mlm d 0 100)
  | b + 1 => if mlm d (b + 1 : Nat) 100 < (ak d b).2 then ((b + 1 : Nat), mlm d (b + 1 : Nat) 100) else ak d b
section ASK
variable {d m : Nat → Int → Int} {τ : qL}
theorem mlc_b (b : Int) : ∀ (n : Nat) (x : Int), 0 ≤ mlc d b n x ∧ mlc d b n x ≤ n := by
  intro n
  induction n with
  | zero => intro x; exact ⟨Int.le_refl 0, Int.le_refl 0⟩
  | succ n ih =>
    intro x
    have := ih x
    unfold mlc
    split <;> omega
theorem mlm_b (b : Int) : ∀ n : Nat, 0 ≤ mlm d b n ∧ mlm d b n ≤ n := by
  intro n
  induction n with
  | zero => exact ⟨Int.le_refl 0, Int.le_refl 0⟩
  | succ n ih =>
    have := mlc_b (d := d) b n (bdT d b n)
    unfold mlm
    split
    · split <;> omega
    · omega
theorem ml_cn (b : Int) {a c : Nat} (h : a ≤ c) : cn d a = cn d c → (∀ x, mlc d b a x = mlc d b c x) ∧ mlm d b a = mlm d b c := by
  induction h with
  | refl => exact fun _ => ⟨fun _ => rfl, rfl⟩
  | @step c h ih =>
    intro e
    have hm := cn_mono (d := d) h
    have hf : ¬ fitB d c = true := fun z => by rw [cn_fit z] at e; omega
    rw [cn_not hf] at e
    obtain ⟨i1, i2⟩ := ih e
    refine ⟨fun x => ?_, ?_⟩
    · rw [i1 x]
      exact (if_neg (fun z => hf z.1)).symm
    · rw [i2]
      exact (if_neg hf).symm
theorem ml_cn' (b : Int) {a c : Nat} (h : cn d a = cn d c) : (∀ x, mlc d b a x = mlc d b c x) ∧ mlm d b a = mlm d b c := by
  rcases Nat.le_total a c with z | z
  · exact ml_cn b z h
  · obtain ⟨i1, i2⟩ := ml_cn b z h.symm
    exact ⟨fun x => (i1 x).symm, i2.symm⟩
theorem bdT_b (hd : okd d) (b : Int) {w : Nat} (hw : w < 100) : 0 ≤ bdT d b w ∧ bdT d b w ≤ 9 := itr_b hd (by omega) (by omega) _
theorem mlc_fit (b : Int) {w : Nat} (hf : fitB d w = true) (x : Int) : mlc d b (w + 1) x = if x = bdT d b w then mlc d b w x + 1 else mlc d b w x := by
  show (if _ then _ else _) = _
  by_cases c : x = bdT d b w
  · rw [if_pos ⟨hf, c⟩, if_pos c]
  · rw [if_neg (fun z => c z.2), if_neg c]
theorem mlm_fit (b : Int) {w : Nat} (hf : fitB d w = true) : mlm d b (w + 1) = if mlm d b w < mlc d b w (bdT d b w) + 1 then mlc d b w (bdT d b w) + 1 else mlm d b w := if_pos hf
/-- the class -/
theorem y_mostLeft (hd : okd d) {σ : qS} (hG : GA d σ 100) {b : Int} (b0 : 0 ≤ b) (b1 : b ≤ 40) : oK (fun r => r.1 = zI (mlm d b 100) ∧ GA d r.2 100) (f_X4_mostLeft σ (zI b)) := by
  have h5 := cn_50 (d := d)
  unfold f_X4_mostLeft
  rw [x_fill (by decide), s_cl]
  refine ok_bd ?_
  rw [z_0]
  refine ok_forI (τ := Int32 × qS) (cn d 100) (fun i u => GA d u.2 100 ∧ ∃ N : Nat, N ≤ 100 ∧ cn d N = i.toNat ∧ u.1 = zI (mlm d b N) ∧ ∀ x, 0 ≤ x → x ≤ 9 → u.2 2 x.toNat = zI (mlc d b N x)) (fun again i u h0 h1 hu ih => ?_) 20000 0 _ (by omega) (by omega) ⟨⟨hG.1, hG.2.1, hG.2.2⟩, 0, by omega, rfl, rfl, fun x x0 x1 => ?_⟩ (by omega)
  · obtain ⟨u1, u2⟩ := u
    obtain ⟨hg, N, n0, n1, n2, n3⟩ := hu
    dsimp only at hg n2 n3
    subst n2
    unfold b_X4_mostLeft_12
    dsimp only
    simp only [hg.2.1]
    rw [z_s1]
    refine ok_if (fun c => ok_r ?_) (fun c => ?_)
    · have hh := t_le h0 (by omega) (by omega) (by omega) c
      have e : cn d N = cn d 100 := by omega
      rw [(ml_cn' (d := d) b e).2]
      exact ⟨rfl, hg⟩
    · have hi := t_nle h0 (by omega) (by omega) (by omega) c
      obtain ⟨w, w0, w1, w2⟩ := cn_at (d := d) 100 i.toNat (by omega)
      have ew : cn d N = cn d w := by omega
      obtain ⟨l1, l2⟩ := ml_cn' (d := d) b ew
      have hm := fit_mod w1
      have hb := bdT_b hd b w0
      have hc := mlc_b (d := d) b w (bdT d b w)
      have hq := mlm_b (d := d) b w
      have ei : zI i = zI (cn d w) := by rw [w2, Int.toNat_of_nonneg h0]
      have hbed := y_taleInBed hg.1 (t := (w : Int) / 10) (s := (w : Int) % 10) (b := b) (by omega) (by omega) (by omega) (by omega) b0 b1
      rw [ei, y_pick hg w0 w1, s_cl, ← ei, z_10, z_rem (by omega) (by omega) (by omega) (by omega), z_div (by omega) (by omega) (by omega) (by omega), hbed, s_cl]
      rw [show itr d (b / ((w : Int) % 10)).toNat ((w : Int) / 10) = bdT d b w from rfl, x_tal (by omega) (by omega), s_cl, if_neg (by decide), s_rd hb.1 (by omega) (by omega), n3 _ hb.1 hb.2, l1, l2, z_s1, s_wr hb.1 (by omega) (by omega), s_rd hb.1 (by omega) (by omega)]
      have er : (q_up u2 2 (upd (u2 2) (bdT d b w).toNat (zI (mlc d b w (bdT d b w) + 1)))) 2 (bdT d b w).toNat = zI (mlc d b w (bdT d b w) + 1) := by
        show upd (u2 2) (bdT d b w).toNat (zI (mlc d b w (bdT d b w) + 1)) (bdT d b w).toNat = _
        unfold upd
        rw [if_pos rfl]
      rw [er, s_bd]
      refine ih hi _ ⟨⟨hg.1, hg.2.1, hg.2.2⟩, w + 1, by omega, ?_, ?_, fun x x0 x1 => ?_⟩
      · rw [cn_fit w1]; omega
      · rw [mlm_fit b w1]
        dsimp only
        have e : (zI (mlm d b w) < zI (mlc d b w (bdT d b w) + 1)) ↔ (mlm d b w < mlc d b w (bdT d b w) + 1) := z_lt (by omega) (by omega) (by omega) (by omega)
        rw [← z_ite]
        by_cases q : mlm d b w < mlc d b w (bdT d b w) + 1
        · rw [if_pos q, if_pos (e.mpr q)]
        · rw [if_neg q, if_neg (fun y => q (e.mp y))]
      · rw [mlc_fit b w1]
        show upd (u2 2) (bdT d b w).toNat (zI (mlc d b w (bdT d b w) + 1)) x.toNat = _
        unfold upd
        by_cases e : x = bdT d b w
        · rw [if_pos (by rw [e]), if_pos e, e]
        · rw [if_neg (by omega), if_neg e, n3 x x0 x1, l1]
  · show (if x.toNat < 10 then zI 0 else σ 2 x.toNat) = zI 0
    rw [if_pos (by omega)]
theorem ak_b : ∀ b : Nat, b ≤ 40 → 0 ≤ (ak d b).1 ∧ (ak d b).1 ≤ b ∧ (ak d b).2 = mlm d (ak d b).1 100 := by
  intro b
  induction b with
  | zero => intro _; exact ⟨Int.le_refl 0, Int.le_refl 0, rfl⟩
  | succ b ih =>
    intro h
    have := ih (by omega)
    by_cases c : mlm d (b + 1 : Nat) 100 < (ak d b).2
    · have e : ak d (b + 1) = (((b + 1 : Nat) : Int), mlm d (b + 1 : Nat) 100) := if_pos c
      rw [e]
      exact ⟨by dsimp only; omega, by dsimp only; omega, rfl⟩
    · have e : ak d (b + 1) = ak d b := if_neg c
      rw [e]
      exact ⟨this.1, by omega, this.2.2⟩
theorem y_bedToAsk (hd : okd d) {σ : qS} (hG : GA d σ 100) : oK (fun r => r.1 = (if cn d 100 = 0 then zI (-6) else zI (ak d 40).1) ∧ GA d r.2 100) (f_X4_bedToAsk σ) := by
  have h5 := cn_50 (d := d)
  unfold f_X4_bedToAsk
  rw [hG.2.1, z_0]
  simp (disch := omega) only [z_eq]
  by_cases c0 : cn d 100 = 0
  · rw [if_pos (show ((cn d 100 : Nat) : Int) = 0 by omega)]
    exact ok_r ⟨by rw [if_pos c0]; exact (show (-6 : Int32) = zI (-6) by decide), hG⟩
  · rw [if_neg (show ¬ ((cn d 100 : Nat) : Int) = 0 by omega)]
    refine ok_cl (y_mostLeft hd hG (by omega) (by omega)) (fun y hy => ?_)
    rw [z_1]
    refine ok_forI (τ := qS × Int32 × Int32) 41 (fun i u => 1 ≤ i ∧ GA d u.1 100 ∧ u.2.1 = zI (ak d (i - 1).toNat).2 ∧ u.2.2 = zI (ak d (i - 1).toNat).1) (fun again i u h0 h1 hu ih => ?_) 20000 1 _ (by omega) (by omega) ⟨by omega, hy.2, hy.1, rfl⟩ (by omega)
    obtain ⟨u1, u2, u3⟩ := u
    obtain ⟨i1, hg, e2, e3⟩ := hu
    dsimp only at hg e2 e3
    subst e2 e3
    have e41 : (41 : Int32) = zI 41 := by decide
    unfold b_X4_bedToAsk_20
    dsimp only
    rw [e41, z_s1]
    refine ok_if (fun c => ok_r ?_) (fun c => ?_)
    · have hh := t_le h0 (by omega) (by omega) (by omega) c
      obtain rfl : i = 41 := by omega
      exact ⟨by rw [if_neg c0]; rfl, hg⟩
    · have hi := t_nle h0 (by omega) (by omega) (by omega) c
      refine ok_cl (y_mostLeft hd hg h0 (by omega)) (fun y hy => ?_)
      have hk := ak_b (d := d) (i - 1).toNat (by omega)
      have m1 := mlm_b (d := d) i 100
      have m2 := mlm_b (d := d) (ak d (i - 1).toNat).1 100
      have ei : (((i - 1).toNat + 1 : Nat) : Int) = i := by omega
      have en : (i + 1 - 1).toNat = (i - 1).toNat + 1 := by omega
      rw [hy.1]
      refine ok_ifE (z_le (by omega) (by omega) (by omega) (by omega)) (fun c2 => ?_) (fun c2 => ?_)
      · have e : ak d ((i - 1).toNat + 1) = ak d (i - 1).toNat := if_neg (by rw [ei]; omega)
        exact ih hi _ ⟨by omega, hy.2, by rw [en, e], by rw [en, e]⟩
      · have e : ak d ((i - 1).toNat + 1) = ((((i - 1).toNat + 1 : Nat) : Int), mlm d (((i - 1).toNat + 1 : Nat)) 100) := if_pos (by rw [ei]; omega)
        exact ih hi _ ⟨by omega, hy.2, by rw [en, e, ei], by rw [en, e, ei]⟩
end ASK


/-! the bed to ask next: exactly -/
noncomputable def bdT (d : Nat → Int → Int) (b : Int) (w : Nat) : Int := itr d (b / ((w : Int) % 10)).toNat ((w : Int) / 10)
/-- how often a tale would be believed in a bed, the most of these -/
noncomputable def mlc (d : Nat → Int → Int) (b : Int) : Nat → Int → Int
  | 0, _ => 0
  | n + 1, x => if fitB d n = true ∧ x = bdT d b n then mlc d b n x + 1 else mlc d b n x
noncomputable def mlm (d : Nat → Int → Int) (b : Int) : Nat → Int
  | 0 => 0
  | n + 1 => if fitB d n = true then (if mlm d b n < mlc d b n (bdT d b n) + 1 then mlc d b n (bdT d b n) + 1 else mlm d b n) else mlm d b n
/-- the best bed of those below, and its most -/
noncomputable def ak (d : Nat → Int → Int) : Nat → Int × Int
  | 0 => (0, mlm d 0 100)
  | b + 1 => if mlm d (b + 1 : Nat) 100 < (ak d b).2 then ((b + 1 : Nat), mlm d (b + 1 : Nat) 100) else ak d b
section ASK
variable {d m : Nat → Int → Int} {τ : qL}
theorem mlc_b (b : Int) : ∀ (n : Nat) (x : Int), 0 ≤ mlc d b n x ∧ mlc d b n x ≤ n := by
  intro n
  induction n with
  | zero => intro x; exact ⟨Int.le_refl 0, Int.le_refl 0⟩
  | succ n ih =>
    intro x
    have := ih x
    unfold mlc
    split <;> omega
theorem mlm_b (b : Int) : ∀ n : Nat, 0 ≤ mlm d b n ∧ mlm d b n ≤ n := by
  intro n
  induction n with
  | zero => exact ⟨Int.le_refl 0, Int.le_refl 0⟩
  | succ n ih =>
    have := mlc_b (d := d) b n (bdT d b n)
    unfold mlm
    split
    · split <;> omega
    · omega
theorem ml_cn (b : Int) {a c : Nat} (h : a ≤ c) : cn d a = cn d c → (∀ x, mlc d b a x = mlc d b c x) ∧ mlm d b a = mlm d b c := by
  induction h with
  | refl => exact fun _ => ⟨fun _ => rfl, rfl⟩
  | @step c h ih =>
    intro e
    have hm := cn_mono (d := d) h
    have hf : ¬ fitB d c = true := fun z => by rw [cn_fit z] at e; omega
    rw [cn_not hf] at e
    obtain ⟨i1, i2⟩ := ih e
    refine ⟨fun x => ?_, ?_⟩
    · rw [i1 x]
      exact (if_neg (fun z => hf z.1)).symm
    · rw [i2]
      exact (if_neg hf).symm
theorem ml_cn' (b : Int) {a c : Nat} (h : cn d a = cn d c) : (∀ x, mlc d b a x = mlc d b c x) ∧ mlm d b a = mlm d b c := by
  rcases Nat.le_total a c with z | z
  · exact ml_cn b z h
  · obtain ⟨i1, i2⟩ := ml_cn b z h.symm
    exact ⟨fun x => (i1 x).symm, i2.symm⟩
theorem mlm_pos (b : Int) {n : Nat} (h : 0 < cn d n) : 1 ≤ mlm d b n := by
  induction n with
  | zero => exact absurd h (Nat.not_lt_zero _)
  | succ n ih =>
    have hb := mlc_b (d := d) b n (bdT d b n)
    unfold mlm
    by_cases c : fitB d n = true
    · rw [if_pos c]
      split <;> omega
    · rw [cn_not c] at h
      rw [if_neg c]
      exact ih h
theorem mlm_zero (b : Int) {n : Nat} (h : cn d n = 0) : mlm d b n = 0 := by
  have := (ml_cn' (d := d) b (a := n) (c := 0) h).2
  rw [this]; rfl
theorem bdT_b (hd : okd d) (b : Int) {w : Nat} (hw : w < 100) : 0 ≤ bdT d b w ∧ bdT d b w ≤ 9 := itr_b hd (by omega) (by omega) _
theorem mlc_fit (b : Int) {w : Nat} (hf : fitB d w = true) (x : Int) : mlc d b (w + 1) x = if x = bdT d b w then mlc d b w x + 1 else mlc d b w x := by
  show (if _ then _ else _) = _
  by_cases c : x = bdT d b w
  · rw [if_pos ⟨hf, c⟩, if_pos c]
  · rw [if_neg (fun z => c z.2), if_neg c]
theorem mlm_fit (b : Int) {w : Nat} (hf : fitB d w = true) : mlm d b (w + 1) = if mlm d b w < mlc d b w (bdT d b w) + 1 then mlc d b w (bdT d b w) + 1 else mlm d b w := if_pos hf
/-- the class -/
theorem y_mostLeft (hd : okd d) {σ : qS} (hG : GA d σ 100) {b : Int} (b0 : 0 ≤ b) (b1 : b ≤ 40) : oK (fun r => r.1 = zI (mlm d b 100) ∧ GA d r.2 100) (f_X4_mostLeft σ (zI b)) := by
  have h5 := cn_50 (d := d)
  unfold f_X4_mostLeft
  rw [x_fill (by decide), s_cl]
  refine ok_bd ?_
  rw [z_0]
  refine ok_forI (τ := Int32 × qS) (cn d 100) (fun i u => GA d u.2 100 ∧ ∃ N : Nat, N ≤ 100 ∧ cn d N = i.toNat ∧ u.1 = zI (mlm d b N) ∧ ∀ x, 0 ≤ x → x ≤ 9 → u.2 2 x.toNat = zI (mlc d b N x)) (fun again i u h0 h1 hu ih => ?_) 20000 0 _ (by omega) (by omega) ⟨⟨hG.1, hG.2.1, hG.2.2⟩, 0, by omega, rfl, rfl, fun x x0 x1 => ?_⟩ (by omega)
  · obtain ⟨u1, u2⟩ := u
    obtain ⟨hg, N, n0, n1, n2, n3⟩ := hu
    dsimp only at hg n2 n3
    subst n2
    unfold b_X4_mostLeft_12
    dsimp only
    simp only [hg.2.1]
    rw [z_s1]
    refine ok_if (fun c => ok_r ?_) (fun c => ?_)
    · have hh := t_le h0 (by omega) (by omega) (by omega) c
      have e : cn d N = cn d 100 := by omega
      rw [(ml_cn' (d := d) b e).2]
      exact ⟨rfl, hg⟩
    · have hi := t_nle h0 (by omega) (by omega) (by omega) c
      obtain ⟨w, w0, w1, w2⟩ := cn_at (d := d) 100 i.toNat (by omega)
      have ew : cn d N = cn d w := by omega
      obtain ⟨l1, l2⟩ := ml_cn' (d := d) b ew
      have hm := fit_mod w1
      have hb := bdT_b hd b w0
      have hc := mlc_b (d := d) b w (bdT d b w)
      have hq := mlm_b (d := d) b w
      have ei : zI i = zI (cn d w) := by rw [w2, Int.toNat_of_nonneg h0]
      have hbed := y_taleInBed hg.1 (t := (w : Int) / 10) (s := (w : Int) % 10) (b := b) (by omega) (by omega) (by omega) (by omega) b0 b1
      rw [ei, y_pick hg w0 w1, s_cl, ← ei, z_10, z_rem (by omega) (by omega) (by omega) (by omega), z_div (by omega) (by omega) (by omega) (by omega), hbed, s_cl]
      rw [show itr d (b / ((w : Int) % 10)).toNat ((w : Int) / 10) = bdT d b w from rfl, x_tal (by omega) (by omega), s_cl, if_neg (by decide), s_rd hb.1 (by omega) (by omega), n3 _ hb.1 hb.2, l1, l2, z_s1, s_wr hb.1 (by omega) (by omega), s_rd hb.1 (by omega) (by omega)]
      have er : (q_up u2 2 (upd (u2 2) (bdT d b w).toNat (zI (mlc d b w (bdT d b w) + 1)))) 2 (bdT d b w).toNat = zI (mlc d b w (bdT d b w) + 1) := by
        show upd (u2 2) (bdT d b w).toNat (zI (mlc d b w (bdT d b w) + 1)) (bdT d b w).toNat = _
        unfold upd
        rw [if_pos rfl]
      rw [er, s_bd]
      refine ih hi _ ⟨⟨hg.1, hg.2.1, hg.2.2⟩, w + 1, by omega, ?_, ?_, fun x x0 x1 => ?_⟩
      · rw [cn_fit w1]; omega
      · rw [mlm_fit b w1]
        dsimp only
        have e : (zI (mlm d b w) < zI (mlc d b w (bdT d b w) + 1)) ↔ (mlm d b w < mlc d b w (bdT d b w) + 1) := z_lt (by omega) (by omega) (by omega) (by omega)
        rw [← z_ite]
        by_cases q : mlm d b w < mlc d b w (bdT d b w) + 1
        · rw [if_pos q, if_pos (e.mpr q)]
        · rw [if_neg q, if_neg (fun y => q (e.mp y))]
      · rw [mlc_fit b w1]
        show upd (u2 2) (bdT d b w).toNat (zI (mlc d b w (bdT d b w) + 1)) x.toNat = _
        unfold upd
        by_cases e : x = bdT d b w
        · rw [if_pos (by rw [e]), if_pos e, e]
        · rw [if_neg (by omega), if_neg e, n3 x x0 x1, l1]
  · show (if x.toNat < 10 then zI 0 else σ 2 x.toNat) = zI 0
    rw [if_pos (by omega)]
theorem ak_b : ∀ b : Nat, b ≤ 40 → 0 ≤ (ak d b).1 ∧ (ak d b).1 ≤ b ∧ (ak d b).2 = mlm d (ak d b).1 100 := by
  intro b
  induction b with
  | zero => intro _; exact ⟨Int.le_refl 0, Int.le_refl 0, rfl⟩
  | succ b ih =>
    intro h
    have := ih (by omega)
    by_cases c : mlm d (b + 1 : Nat) 100 < (ak d b).2
    · have e : ak d (b + 1) = (((b + 1 : Nat) : Int), mlm d (b + 1 : Nat) 100) := if_pos c
      rw [e]
      exact ⟨by dsimp only; omega, by dsimp only; omega, rfl⟩
    · have e : ak d (b + 1) = ak d b := if_neg c
      rw [e]
      exact ⟨this.1, by omega, this.2.2⟩
theorem y_bedToAsk (hd : okd d) {σ : qS} (hG : GA d σ 100) : oK (fun r => r.1 = (if cn d 100 = 0 then zI (-6) else zI (ak d 40).1) ∧ GA d r.2 100) (f_X4_bedToAsk σ) := by
  have h5 := cn_50 (d := d)
  unfold f_X4_bedToAsk
  rw [hG.2.1, z_0]
  simp (disch := omega) only [z_eq]
  by_cases c0 : cn d 100 = 0
  · rw [if_pos (show ((cn d 100 : Nat) : Int) = 0 by omega)]
    exact ok_r ⟨by rw [if_pos c0]; exact (show (-6 : Int32) = zI (-6) by decide), hG⟩
  · rw [if_neg (show ¬ ((cn d 100 : Nat) : Int) = 0 by omega)]
    refine ok_cl (y_mostLeft hd hG (by omega) (by omega)) (fun y hy => ?_)
    rw [z_1]
    refine ok_forI (τ := qS × Int32 × Int32) 41 (fun i u => 1 ≤ i ∧ GA d u.1 100 ∧ u.2.1 = zI (ak d (i - 1).toNat).2 ∧ u.2.2 = zI (ak d (i - 1).toNat).1) (fun again i u h0 h1 hu ih => ?_) 20000 1 _ (by omega) (by omega) ⟨by omega, hy.2, hy.1, rfl⟩ (by omega)
    obtain ⟨u1, u2, u3⟩ := u
    obtain ⟨i1, hg, e2, e3⟩ := hu
    dsimp only at hg e2 e3
    subst e2 e3
    have e41 : (41 : Int32) = zI 41 := by decide
    unfold b_X4_bedToAsk_20
    dsimp only
    rw [e41, z_s1]
    refine ok_if (fun c => ok_r ?_) (fun c => ?_)
    · have hh := t_le h0 (by omega) (by omega) (by omega) c
      obtain rfl : i = 41 := by omega
      exact ⟨by rw [if_neg c0]; rfl, hg⟩
    · have hi := t_nle h0 (by omega) (by omega) (by omega) c
      refine ok_cl (y_mostLeft hd hg h0 (by omega)) (fun y hy => ?_)
      have hk := ak_b (d := d) (i - 1).toNat (by omega)
      have m1 := mlm_b (d := d) i 100
      have m2 := mlm_b (d := d) (ak d (i - 1).toNat).1 100
      have ei : (((i - 1).toNat + 1 : Nat) : Int) = i := by omega
      have en : (i + 1 - 1).toNat = (i - 1).toNat + 1 := by omega
      rw [hy.1]
      refine ok_ifE (z_le (by omega) (by omega) (by omega) (by omega)) (fun c2 => ?_) (fun c2 => ?_)
      · have e : ak d ((i - 1).toNat + 1) = ak d (i - 1).toNat := if_neg (by rw [ei]; omega)
        exact ih hi _ ⟨by omega, hy.2, by rw [en, e], by rw [en, e]⟩
      · have e : ak d ((i - 1).toNat + 1) = ((((i - 1).toNat + 1 : Nat) : Int), mlm d (((i - 1).toNat + 1 : Nat)) 100) := if_pos (by rw [ei]; omega)
        exact ih hi _ ⟨by omega, hy.2, by rw [en, e, ei], by rw [en, e, ei]⟩
/-- the reference -/
theorem s_wrM {β : Type} (m d : Nat → Int → Int) {b : Int} (b0 : 0 ≤ b) (b1 : b < 10) (v : Int) (K : qS → Option β) : q_wr (eC (pw m d)) 26 10 (zI b) (zI v) K = K (eC (pw (ud m 26 b v) d)) := by
  rw [s_wr b0 (by omega) (by omega), eC_up _ _ b0, up_26]
theorem y_mostLeftM (hd : okd d) {m' : Nat → Int → Int} (hs : scr m m') {b : Int} (b0 : 0 ≤ b) (b1 : b ≤ 40) : oK (fun r => r.1 = zI (mlm d b 100) ∧ msc m d r.2) (f_X7_mostLeft (eC (pw m' d)) τ (zI b)) := by
  unfold f_X7_mostLeft
  rw [z_0]
  refine ok_forI (τ := qS) 10 (fun i t => ∃ m', t = eC (pw m' d) ∧ scr m m' ∧ ∀ x, 0 ≤ x → x < i → m' 26 x = 0) (fun again i t h0 h1 ht ih => ?_) 20000 0 _ (by omega) (by omega) ⟨m', rfl, hs, fun x _ _ => by omega⟩ (by omega)
  obtain ⟨m1, rfl, hs1, hz⟩ := ht
  unfold b_X7_mostLeft_4
  dsimp only
  rw [z_s1, z_10, z_0]
  by_cases ci : i < 10
  · rw [if_neg (c_nle ci h0 (by omega)), s_wrM _ _ h0 ci]
    refine ih ci _ ⟨_, rfl, scr_tr hs1 (scr_ud (by decide)), fun x x0 x1 => ?_⟩
    by_cases e : x = i
    · rw [e, ud_same]
    · rw [ud_ne _ _ (Or.inr e)]; exact hz x x0 (by omega)
  · obtain rfl : i = 10 := by omega
    rw [if_pos (c_le (by omega) (by omega) (by omega))]
    refine ok_forI (τ := qS × Int32) 100 (fun i t => ∃ m', t.1 = eC (pw m' d) ∧ scr m m' ∧ (∀ x, 0 ≤ x → x ≤ 9 → m' 26 x = mlc d b i.toNat x) ∧ t.2 = zI (mlm d b i.toNat)) (fun again i t h0 h1 ht ih => ?_) 20000 0 _ (by omega) (by omega) ⟨m1, rfl, hs1, fun x x0 x1 => hz x x0 (by omega), rfl⟩ (by omega)
    obtain ⟨t1, t2⟩ := t
    obtain ⟨m2, e1, hs2, hx, e2⟩ := ht
    dsimp only at e1 e2
    subst e1 e2
    unfold b_X7_mostLeft_25
    dsimp only
    rw [z_s1, z_100, z_10, z_rem h0 (by omega) (by omega) (by omega), z_div h0 (by omega) (by omega) (by omega)]
    by_cases c : i < 100
    · rw [if_neg (c_nle c h0 (by omega)), y_isFit hd h0 c, s_cl]
      simp only [fI_if]
      have ei : ((i.toNat : Nat) : Int) = i := Int.toNat_of_nonneg h0
      have en : (i + 1).toNat = i.toNat + 1 := by omega
      by_cases cf : fitB d i = true
      · have cf' : fitB d (i.toNat : Nat) = true := by rw [ei]; exact cf
        have hm := fit_mod cf
        have q0 : 0 ≤ b / (i % 10) := Int.ediv_nonneg b0 (by omega)
        have q1 : b / (i % 10) ≤ b := Int.ediv_le_self _ b0
        have eb : itr d (b / (i % 10)).toNat (i / 10) = bdT d b i.toNat := by unfold bdT; rw [ei]
        have hb := bdT_b hd b (w := i.toNat) (by omega)
        have hc := mlc_b (d := d) b i.toNat (bdT d b i.toNat)
        have hq := mlm_b (d := d) b i.toNat
        rw [if_neg (fun z => z cf), s_nz (by omega) (by omega) (by omega), z_div b0 (by omega) (by omega) (by omega), m_fadedBy m2 hd τ (by omega) (by omega) q0 (by omega), s_cl, eb, s_rd hb.1 (by omega) (by omega), eC_at _ _ hb.1, pw_26, hx _ hb.1 hb.2, z_s1, s_wrM _ _ hb.1 (by omega), s_rd hb.1 (by omega) (by omega), eC_at _ _ hb.1, pw_26, ud_same, s_rd hb.1 (by omega) (by omega), eC_at _ _ hb.1, pw_26, ud_same]
        simp (disch := omega) only [z_le]
        have hrow : ∀ x, 0 ≤ x → x ≤ 9 → ud m2 26 (bdT d b i.toNat) (mlc d b i.toNat (bdT d b i.toNat) + 1) 26 x = mlc d b (i + 1).toNat x := fun x x0 x1 => by
          rw [en, mlc_fit b cf']
          by_cases e : x = bdT d b i.toNat
          · rw [e, ud_same, if_pos rfl]
          · rw [ud_ne _ _ (Or.inr e), if_neg e]; exact hx x x0 x1
        refine ok_if (fun c2 => ih c _ ⟨_, rfl, scr_tr hs2 (scr_ud (by decide)), hrow, ?_⟩) (fun c2 => ih c _ ⟨_, rfl, scr_tr hs2 (scr_ud (by decide)), hrow, ?_⟩)
        · rw [en, mlm_fit b cf', if_neg (by omega)]
        · rw [en, mlm_fit b cf', if_pos (by omega)]
      · have cf' : ¬ fitB d (i.toNat : Nat) = true := by rw [ei]; exact cf
        rw [if_pos cf]
        have hl := ml_cn (d := d) b (a := i.toNat) (c := (i + 1).toNat) (by omega) (by rw [en, cn_not cf'])
        exact ih c _ ⟨m2, rfl, hs2, fun x x0 x1 => by rw [← hl.1 x]; exact hx x x0 x1, by rw [← hl.2]⟩
    · obtain rfl : i = 100 := by omega
      rw [if_pos (c_le (by omega) (by omega) (by omega))]
      exact ok_r ⟨rfl, m2, rfl, hs2⟩
/-- what ask answers -/
noncomputable def akV (d : Nat → Int → Int) (w : Int32) : Int32 := if cn d 100 = 0 then zI (-6) else if w = zI 0 then zI (ak d 40).1 else zI (ak d 40).2
theorem y_askM (hd : okd d) {w : Int} (w0 : 0 ≤ w) (w1 : w ≤ 1) : oK (fun r => r.1 = akV d (zI w) ∧ msc m d r.2) (f_X7_ask (eC (pw m d)) τ (zI w)) := by
  unfold f_X7_ask
  rw [zl_0, zl_1, z_l (by omega) (by omega), m_inT (by omega) (by omega) (by omega) (by omega), s_cl, if_neg (by decide), z_0]
  refine ok_cl (y_mostLeftM (m := m) (τ := τ) hd (scr_rf m) (by omega) (by omega)) (fun y hy => ?_)
  rw [z_1]
  refine ok_forI (τ := qS × Int32 × Int32) 41 (fun i u => 1 ≤ i ∧ msc m d u.1 ∧ u.2.1 = zI (ak d (i - 1).toNat).2 ∧ u.2.2 = zI (ak d (i - 1).toNat).1) (fun again i u h0 h1 hu ih => ?_) 20000 1 _ (by omega) (by omega) ⟨by omega, hy.2, hy.1, rfl⟩ (by omega)
  obtain ⟨u1, u2, u3⟩ := u
  obtain ⟨i1, hg, e2, e3⟩ := hu
  dsimp only at hg e2 e3
  subst e2 e3
  unfold b_X7_ask_24
  dsimp only
  have hk := ak_b (d := d) (i - 1).toNat (by omega)
  have m1 := mlm_b (d := d) i 100
  have m2 := mlm_b (d := d) (ak d (i - 1).toNat).1 100
  rw [z_40, z_s1]
  refine ok_ifE (z_lt (by omega) (by omega) (by omega) (by omega)) (fun c => ?_) (fun c => ?_)
  · obtain rfl : i = 41 := by omega
    have e40 : ((41 : Int) - 1).toNat = 40 := rfl
    rw [e40] at hk m2 ⊢
    simp (disch := omega) only [z_eq]
    unfold akV
    by_cases c0 : cn d 100 = 0
    · have := mlm_zero (d := d) (ak d 40).1 c0
      rw [if_pos (show (ak d 40).2 = 0 by omega), if_pos c0]
      exact ok_r ⟨(show (-6 : Int32) = zI (-6) by decide), hg⟩
    · have := mlm_pos (d := d) (ak d 40).1 (n := 100) (by omega)
      rw [if_neg (show ¬ (ak d 40).2 = 0 by omega), if_neg c0]
      exact ok_if (fun c3 => ok_r ⟨by rw [if_pos (by rw [c3])], hg⟩) (fun c3 => ok_r ⟨by rw [if_neg (by rw [z_eq (by omega) (by omega) (by omega) (by omega)]; exact c3)], hg⟩)
  · obtain ⟨m', rfl, hs⟩ := hg
    refine ok_cl (y_mostLeftM (m := m) (τ := τ) hd hs h0 (by omega)) (fun y hy => ?_)
    have ei : (((i - 1).toNat + 1 : Nat) : Int) = i := by omega
    have en : (i + 1 - 1).toNat = (i - 1).toNat + 1 := by omega
    have hi : i < 41 := by omega
    rw [hy.1]
    simp (disch := omega) only [z_le]
    by_cases c2 : (ak d (i - 1).toNat).2 ≤ mlm d i 100
    · rw [if_pos c2, if_pos c2]
      have e : ak d ((i - 1).toNat + 1) = ak d (i - 1).toNat := if_neg (by rw [ei]; omega)
      exact ih hi _ ⟨by omega, hy.2, by rw [en, e], by rw [en, e]⟩
    · rw [if_neg c2, if_neg c2]
      have e : ak d ((i - 1).toNat + 1) = ((((i - 1).toNat + 1 : Nat) : Int), mlm d (((i - 1).toNat + 1 : Nat)) 100) := if_pos (by rw [ei]; omega)
      exact ih hi _ ⟨by omega, hy.2, by rw [en, e, ei], by rw [en, e, ei]⟩
theorem c_ask (hd : okd d) (σ : qS) (w : Int32) : ∃ r s m', f_X6_ask σ (eC d) w = some (r, s) ∧ f_X7_ask (eC (pw m d)) τ w = some (r, eC (pw m' d)) ∧ frN m m' := by
  obtain ⟨w, w0, w1, rfl⟩ := z_of w
  by_cases cw : 0 ≤ w ∧ w ≤ 1
  · obtain ⟨⟨r2, σ2⟩, e2, h2, m', e3, hs⟩ := ok_get (y_askM (m := m) (τ := τ) hd cw.1 cw.2)
    dsimp only at h2 e3
    subst h2 e3
    have hk := ak_b (d := d) 40 (by omega)
    have m2 := mlm_b (d := d) (ak d 40).1 100
    have key : oK (fun r => r.1 = akV d (zI w)) (f_X6_ask σ (eC d) (zI w)) := by
      unfold f_X6_ask
      rw [z_0, z_1, x_win (by omega) (by omega) (by omega) (by omega), s_cl, if_neg (by decide)]
      refine ok_cl (y_gather hd σ) (fun s hG => ok_cl (y_bedToAsk hd hG) (fun y hy => ?_))
      unfold akV
      have e6 : (-6 : Int32) = zI (-6) := by decide
      refine ok_if (fun c => ok_r ?_) (fun c => ?_)
      · rw [hy.1]
        by_cases c0 : cn d 100 = 0
        · rw [if_pos c0, if_pos c0]
        · rw [if_neg c0, if_neg c0, if_pos c]
      · rw [hy.1, e6]
        by_cases c0 : cn d 100 = 0
        · simp only [if_pos c0, eq_self, s_T]
          exact ok_r rfl
        · simp only [if_neg c0]
          rw [if_neg c, if_neg (by rw [z_eq (by omega) (by omega) (by omega) (by omega)]; omega)]
          exact ok_cl (y_mostLeft hd hy.2 hk.1 (by omega)) (fun z hz => ok_r (by dsimp only; rw [hz.1, hk.2.2]))
    obtain ⟨⟨r1, s1⟩, e1, h1⟩ := key
    dsimp only at h1
    subst h1
    exact ⟨_, s1, m', e1, e2, frN_scr hs⟩
  · unfold f_X6_ask f_X7_ask
    rw [z_0, z_1, x_within w0 w1 (by omega) (by omega) (by omega) (by omega), s_cl, zl_0, zl_1, z_l w0 w1, m_in (by omega) (by omega) (by omega) (by omega) (by omega) (by omega), s_cl, if_neg cw, if_pos rfl, if_pos rfl]
    exact ⟨_, σ, m, rfl, rfl, frN_rf m⟩
end ASK

/-- twos of tale and s, coded, by which all sights are so -/
def fitP (d : Nat → Int → Int) (w : Int) : Prop := 1 ≤ w % 10 ∧ w % 10 ≤ 5 ∧ ∀ i, 0 ≤ i → i < d 99 7 → itr d (d 5 i / (w % 10)).toNat (w / 10) = d 6 i
noncomputable def fitB (d : Nat → Int → Int) (w : Int) : Bool := @decide (fitP d w) (Classical.propDecidable _)
theorem fitB_t {d : Nat → Int → Int} {w : Int} : fitB d w = true ↔ fitP d w := @decide_eq_true_iff (fitP d w) (Classical.propDecidable _)
/-- how many fit below -/
noncomputable def cn (d : Nat → Int → Int) : Nat → Nat
  | 0 => 0
  | n + 1 => if fitB d n = true then cn d n + 1 else cn d n
section FITS
variable {d m : Nat → Int → Int} {τ : qL}
theorem cn_fit {n : Nat} (h : fitB d n = true) : cn d (n + 1) = cn d n + 1 := if_pos h
theorem cn_not {n : Nat} (h : ¬ fitB d n = true) : cn d (n + 1) = cn d n := if_neg h
theorem cn_le : ∀ n, cn d n ≤ n := by
  intro n
  induction n with
  | zero => exact Nat.le_refl 0
  | succ n ih =>
    unfold cn
    split <;> omega
theorem cn_mono {a b : Nat} (h : a ≤ b) : cn d a ≤ cn d b := by
  induction h with
  | refl => exact Nat.le_refl _
  | @step c _ ih =>
    refine Nat.le_trans ih ?_
    by_cases z : fitB d c = true
    · rw [cn_fit z]; omega
    · rw [cn_not z]; exact Nat.le_refl _
theorem cn_at : ∀ (N j : Nat), j < cn d N → ∃ w, w < N ∧ fitB d w = true ∧ cn d w = j := by
  intro N
  induction N with
  | zero => intro j h; exact absurd h (Nat.not_lt_zero j)
  | succ N ih =>
    intro j h
    by_cases c : fitB d N = true
    · rw [cn_fit c] at h
      by_cases e : j = cn d N
      · exact ⟨N, by omega, c, e.symm⟩
      · obtain ⟨w, h1, h2, h3⟩ := ih j (by omega)
        exact ⟨w, by omega, h2, h3⟩
    · rw [cn_not c] at h
      obtain ⟨w, h1, h2, h3⟩ := ih j h
      exact ⟨w, by omega, h2, h3⟩
theorem cn_inj {v w : Nat} (hv : fitB d v = true) (hw : fitB d w = true) (h : cn d v = cn d w) : v = w := by
  rcases (show v < w ∨ v = w ∨ w < v by omega) with c | c | c
  · have := cn_mono (d := d) (show v + 1 ≤ w by omega)
    rw [cn_fit hv] at this; omega
  · exact c
  · have := cn_mono (d := d) (show w + 1 ≤ v by omega)
    rw [cn_fit hw] at this; omega
theorem fit_mod {w : Int} (h : fitB d w = true) : 1 ≤ w % 10 ∧ w % 10 ≤ 5 := ⟨(fitB_t.mp h).1, (fitB_t.mp h).2.1⟩
/-- at most five for each tale -/
theorem cn_ten : ∀ t : Nat, cn d (10 * t + 1) ≤ 5 * t ∧ ∀ s, 1 ≤ s → s ≤ 6 → cn d (10 * t + s) + 1 ≤ 5 * t + s := by
  have step : ∀ t : Nat, cn d (10 * t + 1) ≤ 5 * t → ∀ s, 1 ≤ s → s ≤ 6 → cn d (10 * t + s) + 1 ≤ 5 * t + s := by
    intro t h s
    induction s with
    | zero => intro h; omega
    | succ s ih =>
      intro h0 h1
      by_cases c : s = 0
      · subst c; show cn d (10 * t + 1) + 1 ≤ _; omega
      · have := ih (by omega) (by omega)
        rw [← Nat.add_assoc]
        by_cases z : fitB d (10 * t + s : Nat) = true
        · rw [cn_fit z]; omega
        · rw [cn_not z]; omega
  intro t
  induction t with
  | zero =>
    have h : cn d (10 * 0 + 1) ≤ 5 * 0 := by
      show (if fitB d ((0 : Nat) : Int) = true then _ else _) ≤ 0
      rw [if_neg (fun z => by have := (fit_mod z).1; omega)]
      exact Nat.le_refl 0
    exact ⟨h, step 0 h⟩
  | succ t ih =>
    have h6 := ih.2 6 (by omega) (by omega)
    have n6 : cn d (10 * t + 7) = cn d (10 * t + 6) := cn_not (fun z => by have := fit_mod z; omega)
    have n7 : cn d (10 * t + 8) = cn d (10 * t + 7) := cn_not (fun z => by have := fit_mod z; omega)
    have n8 : cn d (10 * t + 9) = cn d (10 * t + 8) := cn_not (fun z => by have := fit_mod z; omega)
    have n9 : cn d (10 * t + 10) = cn d (10 * t + 9) := cn_not (fun z => by have := fit_mod z; omega)
    have n10 : cn d (10 * t + 11) = cn d (10 * t + 10) := cn_not (fun z => by have := fit_mod z; omega)
    have h : cn d (10 * (t + 1) + 1) ≤ 5 * (t + 1) := by
      rw [show 10 * (t + 1) + 1 = 10 * t + 11 by omega]; omega
    exact ⟨h, step (t + 1) h⟩
theorem cn_skip (t : Nat) : cn d (10 * (t + 1) + 1) = cn d (10 * t + 6) := by
  have n6 : cn d (10 * t + 7) = cn d (10 * t + 6) := cn_not (fun z => by have := fit_mod z; omega)
  have n7 : cn d (10 * t + 8) = cn d (10 * t + 7) := cn_not (fun z => by have := fit_mod z; omega)
  have n8 : cn d (10 * t + 9) = cn d (10 * t + 8) := cn_not (fun z => by have := fit_mod z; omega)
  have n9 : cn d (10 * t + 10) = cn d (10 * t + 9) := cn_not (fun z => by have := fit_mod z; omega)
  have n10 : cn d (10 * t + 11) = cn d (10 * t + 10) := cn_not (fun z => by have := fit_mod z; omega)
  rw [show 10 * (t + 1) + 1 = 10 * t + 11 by omega]; omega
theorem cn_1 : cn d 1 = 0 := by
  show (if fitB d ((0 : Nat) : Int) = true then _ else _) = 0
  rw [if_neg (fun z => by have := (fit_mod z).1; omega)]; rfl
theorem cn_101 : cn d 101 = cn d 100 := cn_not (fun z => by have := (fit_mod z).1; omega)
theorem cn_50 : cn d 100 ≤ 50 := by have := (cn_ten (d := d) 10).1; rw [show 10 * 10 + 1 = 101 from rfl, cn_101] at this; omega
def FA (d : Nat → Int → Int) (σ : qS) (T S : Int) : Prop := ∀ t s, 0 ≤ t → t ≤ 9 → 0 ≤ s → s ≤ 40 → (t < T ∨ (t = T ∧ s < S)) → σ 0 (t * 41 + s).toNat = zI (itr d s.toNat t)
theorem y_fadeAll (hd : okd d) (σ : qS) : oK (fun s => FA d s 10 0) (f_X4_fadeAll σ (eC d)) := by
  unfold f_X4_fadeAll
  rw [z_0]
  refine ok_forI (τ := qS) 10 (fun i t => FA d t i 0) (fun again i t h0 h1 ht ih => ?_) 20000 0 σ (by omega) (by omega) (fun t s _ _ _ _ z => by omega) (by omega)
  unfold b_X4_fadeAll_2
  dsimp only
  rw [z_10, z_s1, z_0]
  refine ok_if (fun c => ok_r ?_) (fun c => ?_)
  · have := t_le h0 (by omega) (by omega) (by omega) c
    obtain rfl : i = 10 := by omega
    exact ht
  have hi := t_nle h0 (by omega) (by omega) (by omega) c
  refine ok_forI (τ := Int32 × qS) 41 (fun j u => u.1 = zI (itr d j.toNat i) ∧ FA d u.2 i j) (fun again2 j u h2 h3 hu ih2 => ?_) 20000 0 _ (by omega) (by omega) ⟨rfl, ht⟩ (by omega)
  obtain ⟨u1, u2⟩ := u
  obtain ⟨hu1, hu2⟩ := hu
  dsimp only at hu1 hu2
  subst hu1
  unfold b_X4_fadeAll_13
  dsimp only
  have e41 : (41 : Int32) = zI 41 := by decide
  rw [e41, z_s1, z_mul, z_add]
  refine ok_if (fun c => ?_) (fun c => ?_)
  · have := t_le h2 (by omega) (by omega) (by omega) c
    obtain rfl : j = 41 := by omega
    exact ih hi _ (fun t s a b p q z => hu2 t s a b p q (by omega))
  have hj := t_nle h2 (by omega) (by omega) (by omega) c
  have hb := itr_b hd (t := i) h0 (by omega) j.toNat
  rw [s_wr (by omega) (by omega) (by omega), x_fadesInto d hb.1 hb.2, s_cl]
  refine ih2 hj (zI (d 4 (itr d j.toNat i)), _) ⟨?_, fun t s a b p q z => ?_⟩
  · rw [show (j + 1).toNat = j.toNat + 1 by omega]; rfl
  · show upd (u2 0) (i * 41 + j).toNat (zI (itr d j.toNat i)) (t * 41 + s).toNat = _
    unfold upd
    by_cases e : t = i ∧ s = j
    · obtain ⟨rfl, rfl⟩ := e
      rw [if_pos rfl]
    · rw [if_neg (by omega)]
      exact hu2 t s a b p q (by omega)
theorem y_taleInBed {σ : qS} (hF : FA d σ 10 0) {t s b : Int} (t0 : 0 ≤ t) (t1 : t ≤ 9) (s0 : 1 ≤ s) (s1 : s ≤ 5) (b0 : 0 ≤ b) (b1 : b ≤ 40) : f_X4_taleInBed σ (zI t) (zI s) (zI b) = some (zI (itr d (b / s).toNat t)) := by
  have q0 : 0 ≤ b / s := Int.ediv_nonneg b0 (by omega)
  have q1 : b / s ≤ b := Int.ediv_le_self _ b0
  have e41 : (41 : Int32) = zI 41 := by decide
  unfold f_X4_taleInBed
  rw [x_tal (by omega) (by omega), s_cl, if_neg (by decide), if_neg (by rw [z_0, z_le (by omega) (by omega) (by omega) (by omega)]; omega), z_0, z_40, x_win (by omega) (by omega) (by omega) (by omega), s_cl, if_neg (by decide), s_nz (by omega) (by omega) (by omega), e41, z_mul, z_div b0 (by omega) (by omega) (by omega), z_add, s_rd (by omega) (by omega) (by omega), hF t (b / s) t0 t1 q0 (by omega) (by omega)]
theorem x_sightBed {i : Int} (h0 : 0 ≤ i) (h1 : i ≤ 7) : f_X1_sightBed (eC d) (zI i) = some (zI (d 5 i)) := by
  unfold f_X1_sightBed
  rw [z_0, z_7, x_win (by omega) (by omega) (by omega) (by omega), s_cl, if_neg (by decide), s_rd h0 (by omega) (by omega), eC_at _ _ h0]
theorem x_sightTale {i : Int} (h0 : 0 ≤ i) (h1 : i ≤ 7) : f_X1_sightTale (eC d) (zI i) = some (zI (d 6 i)) := by
  unfold f_X1_sightTale
  rw [z_0, z_7, x_win (by omega) (by omega) (by omega) (by omega), s_cl, if_neg (by decide), s_rd h0 (by omega) (by omega), eC_at _ _ h0]
theorem y_isSo (hd : okd d) {σ : qS} (hF : FA d σ 10 0) {t s : Int} (t0 : 0 ≤ t) (t1 : t ≤ 9) (s0 : 1 ≤ s) (s1 : s ≤ 5) : f_X4_isSo σ (eC d) (zI t) (zI s) = some (fI (fitB d (10 * t + s))) := by
  have hs := okd_s hd
  have em : (10 * t + s) % 10 = s := by omega
  have ed : (10 * t + s) / 10 = t := by omega
  have goal : oK (fun r => r = fI (fitB d (10 * t + s))) (f_X4_isSo σ (eC d) (zI t) (zI s)) := by
    unfold f_X4_isSo
    rw [z_0]
    refine ok_forI1 (d 99 7) (fun i => ∀ j, 0 ≤ j → j < i → itr d (d 5 j / s).toNat t = d 6 j) (fun again i h0 h1 ht ih => ?_) 20000 0 (by omega) (by omega) (fun j a b => by omega) (by omega)
    unfold b_X4_isSo_3
    have ec : f_X1_sightCount (eC d) = some (zI (d 99 7)) := rfl
    rw [ec, s_cl, z_s1]
    refine ok_if (fun c => ok_r ?_) (fun c => ?_)
    · have hh := t_le h0 (by omega) (by omega) (by omega) c
      rw [fitB_t.mpr ⟨by omega, by omega, fun j a b => by rw [em, ed]; exact ht j a (by omega)⟩]; rfl
    · have hi := t_nle h0 (by omega) (by omega) (by omega) c
      have h5 := okd_5 hd i
      have h6 := okd_6 hd i
      have hb := itr_b hd (t := t) t0 t1 (d 5 i / s).toNat
      rw [x_sightBed h0 (by omega), s_cl, y_taleInBed hF t0 t1 s0 s1 h5.1 h5.2, s_cl, x_sightTale h0 (by omega), s_cl]
      refine ok_ifE (z_eq (by omega) (by omega) (by omega) (by omega)) (fun c2 => ih hi (fun j a b => ?_)) (fun c2 => ok_r ?_)
      · by_cases e : j = i
        · subst e; exact c2
        · exact ht j a (by omega)
      · rw [show fitB d (10 * t + s) = false from Bool.eq_false_iff.mpr (fun z => c2 (by have := (fitB_t.mp z).2.2 i h0 hi; rwa [em, ed] at this))]; rfl
  obtain ⟨r, h1, rfl⟩ := goal
  exact h1
/-- the twos so far -/
def GA (d : Nat → Int → Int) (σ : qS) (N : Nat) : Prop := FA d σ 10 0 ∧ σ 99 3 = zI (cn d N) ∧ ∀ w : Nat, w < N → fitB d w = true → σ 1 (cn d w) = zI w
theorem y_gather (hd : okd d) (σ : qS) : oK (fun s => GA d s 100) (f_X4_gather σ (eC d)) := by
  unfold f_X4_gather
  refine ok_cl (y_fadeAll hd σ) (fun σ1 hF => ok_bd ?_)
  rw [z_0]
  refine ok_forI (τ := qS) 10 (fun i t => GA d t (10 * i.toNat + 1)) (fun again i t h0 h1 ht ih => ?_) 20000 0 _ (by omega) (by omega) ⟨hF, ?_, fun w hw hf => ?_⟩ (by omega)
  · unfold b_X4_gather_12
    dsimp only
    rw [z_10, z_s1, z_1]
    refine ok_if (fun c => ok_r ?_) (fun c => ?_)
    · have := t_le h0 (by omega) (by omega) (by omega) c
      obtain rfl : i = 10 := by omega
      refine ⟨ht.1, ?_, fun w hw hf => ht.2.2 w (by show w < 10 * (10 : Int).toNat + 1; have : (10 : Int).toNat = 10 := rfl; omega) hf⟩
      have := ht.2.1
      rw [show 10 * (10 : Int).toNat + 1 = 101 from rfl, cn_101] at this
      exact this
    have hi := t_nle h0 (by omega) (by omega) (by omega) c
    refine ok_forI (τ := qS) 6 (fun j u => 1 ≤ j ∧ GA d u (10 * i.toNat + j.toNat)) (fun again2 j u h2 h3 hu ih2 => ?_) 20000 1 t (by omega) (by omega) ⟨by omega, ht⟩ (by omega)
    obtain ⟨j1, hu⟩ := hu
    have ct := (cn_ten (d := d) i.toNat).2 j.toNat (by omega) (by omega)
    unfold b_X4_gather_20
    dsimp only
    rw [z_5, z_s1, z_10, z_mul, z_add]
    by_cases cj : j < 6
    · rw [if_neg (by rw [z_lt (by omega) (by omega) (by omega) (by omega)]; omega), y_isSo hd hu.1 h0 (by omega) j1 (by omega), s_cl]
      simp only [fI_if]
      have ej : (j + 1).toNat = j.toNat + 1 := by omega
      have ew : ((10 * i.toNat + j.toNat : Nat) : Int) = 10 * i + j := by omega
      have e49 : (49 : Int32) = zI 49 := by decide
      by_cases cf : fitB d (10 * i + j) = true
      · have cf' : fitB d ((10 * i.toNat + j.toNat : Nat) : Int) = true := by rw [ew]; exact cf
        rw [if_neg (fun z => z cf), hu.2.1, z_0, e49, x_win (by omega) (by omega) (by omega) (by omega), s_cl, if_neg (by decide), s_wr (by omega) (by omega) (by omega), Int.toNat_natCast]
        refine ok_bd (ih2 cj _ ⟨by omega, fun t' s' a b p q z => hu.1 t' s' a b p q z, ?_, fun w hw hf => ?_⟩)
        · rw [ej, ← Nat.add_assoc, cn_fit cf', Int.natCast_add]
          show upd (u 99) 3 (u 99 3 + 1) 3 = _
          unfold upd
          rw [if_pos rfl, hu.2.1, z_s1]; rfl
        · show upd (u 1) (cn d (10 * i.toNat + j.toNat)) (zI (10 * i + j)) (cn d w) = zI w
          unfold upd
          by_cases e : w = 10 * i.toNat + j.toNat
          · subst e
            rw [if_pos rfl, ew]
          · rw [if_neg (fun z => e (cn_inj hf cf' z))]
            exact hu.2.2 w (by omega) hf
      · have cf' : ¬ fitB d ((10 * i.toNat + j.toNat : Nat) : Int) = true := by rw [ew]; exact cf
        rw [if_pos cf]
        refine ih2 cj _ ⟨by omega, hu.1, ?_, fun w hw hf => ?_⟩
        · rw [ej, ← Nat.add_assoc, cn_not cf']; exact hu.2.1
        · by_cases e : w = 10 * i.toNat + j.toNat
          · subst e; exact absurd hf cf'
          · exact hu.2.2 w (by omega) hf
    · obtain rfl : j = 6 := by omega
      rw [if_pos (by rw [z_lt (by omega) (by omega) (by omega) (by omega)]; omega)]
      refine ih hi _ ⟨hu.1, ?_, fun w hw hf => ?_⟩
      · rw [show (i + 1).toNat = i.toNat + 1 by omega, cn_skip]
        exact hu.2.1
      · by_cases e : w < 10 * i.toNat + 6
        · exact hu.2.2 w e hf
        · have hm := fit_mod hf
          have : (i + 1).toNat = i.toNat + 1 := by omega
          omega
  · show (upd (σ1 99) 3 0) 3 = zI (cn d 1)
    rw [cn_1]
    rfl
  · have hm := fit_mod hf
    have : (0 : Int).toNat = 0 := rfl
    omega
theorem y_pick {σ : qS} (hG : GA d σ 100) {w : Nat} (hw : w < 100) (hf : fitB d w = true) : f_X4_pick σ (zI (cn d w)) = some (zI w) := by
  have h5 := cn_50 (d := d)
  have h1 := cn_mono (d := d) (show w + 1 ≤ 100 by omega)
  rw [cn_fit hf] at h1
  have e49 : (49 : Int32) = zI 49 := by decide
  unfold f_X4_pick
  rw [z_0, e49, x_win (by omega) (by omega) (by omega) (by omega), s_cl, if_neg (by decide), hG.2.1, if_neg (by rw [z_le (by omega) (by omega) (by omega) (by omega)]; omega), s_rd (by omega) (by omega) (by omega), Int.toNat_natCast, hG.2.2 w hw hf]
end FITS


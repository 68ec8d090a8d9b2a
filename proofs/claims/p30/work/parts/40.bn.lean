/-! ways along the row, its best round -/
set_option linter.constructorNameAsVariable false
section ROWW
variable {d e f n : Nat → Int → Int} {L : Nat} {xs : Nat → Int32} {σC σD σP σN σW σY σK σH σE : qS} {ℓK κ : qL} {step tens blv reached tale h : Int}
def pos (a : Int) : Int := if a = 10 then 0 else a + 1
theorem mul_abs {step x : Int} (s0 : 0 ≤ step) (h : x ≤ 1 ∧ -1 ≤ x) : step * x ≤ step ∧ -step ≤ step * x := by
  rcases (show x = -1 ∨ x = 0 ∨ x = 1 by omega) with z | z | z <;> subst z <;> omega
theorem fw_low (hd : okd d) (hC : chS d step) : ∀ s : Nat, s ≤ 1331 → ∀ a b : Int, 0 ≤ a → a ≤ 10 → 0 ≤ b → b ≤ 10 → step * (pos b - pos a) ≤ fw d s (11 * a + b) ∧ step * (pos a - pos b) ≤ fw d s (11 * a + b) := by
  obtain ⟨s01, hr⟩ := hC
  intro s
  induction s with
  | zero =>
    intro _ a b a0 a1 b0 b1
    obtain ⟨h1, h2⟩ := hr a b a0 a1 b0 b1
    show step * (pos b - pos a) ≤ fw0 d (11 * a + b) ∧ step * (pos a - pos b) ≤ fw0 d (11 * a + b)
    unfold fw0
    rw [show (11 * a + b) / 11 = a by omega, show (11 * a + b) % 11 = b by omega]
    by_cases c : a = b
    · subst c
      rw [if_pos rfl, Int.sub_self, Int.mul_zero]; omega
    · rw [if_neg c, show 11 * a + b = a * 11 + b by omega]
      by_cases c2 : adj a b
      · rw [h1 c2, if_pos (by omega)]
        have p : pos b - pos a ≤ 1 ∧ -1 ≤ pos b - pos a := by unfold pos; unfold adj at c2; split <;> split <;> omega
        have q : pos a - pos b ≤ 1 ∧ -1 ≤ pos a - pos b := by omega
        exact ⟨(mul_abs (by omega) p).1, (mul_abs (by omega) q).1⟩
      · rw [h2 c2, if_neg (by omega)]
        have p : pos b - pos a ≤ 10 ∧ pos a - pos b ≤ 10 := by unfold pos; split <;> split <;> omega
        have m1 := Int.mul_le_mul_of_nonneg_left (c := step) p.1 (by omega)
        have m2 := Int.mul_le_mul_of_nonneg_left (c := step) p.2 (by omega)
        omega
  | succ s ih =>
    intro hs a b a0 a1 b0 b1
    have i1 := ih (by omega) a b a0 a1 b0 b1
    unfold fw fwS
    by_cases c : 11 * a + b = ((s % 121 : Nat) : Int)
    · have e1 : ((s % 121 : Nat) : Int) / 11 = a := by omega
      have e2 : ((s % 121 : Nat) : Int) % 11 = b := by omega
      have hp : ((s / 121 : Nat) : Int) ≤ 10 := by omega
      have j1 := ih (by omega) a ((s / 121 : Nat) : Int) a0 a1 (by omega) hp
      have j2 := ih (by omega) ((s / 121 : Nat) : Int) b (by omega) hp b0 b1
      rw [if_pos c, e1, e2, ← c]
      generalize ((s / 121 : Nat) : Int) = p at *
      have x1 : step * (pos b - pos a) = step * (pos p - pos a) + step * (pos b - pos p) := by rw [← Int.mul_add]; congr 1; omega
      have x2 : step * (pos a - pos b) = step * (pos a - pos p) + step * (pos p - pos b) := by rw [← Int.mul_add]; congr 1; omega
      split <;> omega
    · rw [if_neg c]; exact i1
theorem fw_dn : ∀ (k s : Nat) (e : Int), fw d (s + k) e ≤ fw d s e := by
  intro k
  induction k with
  | zero => intro s e; exact Int.le_refl _
  | succ k ih =>
    intro s e
    have := ih s e
    show fwS _ _ (fw d (s + k)) e ≤ _
    unfold fwS
    split
    · rename_i c
      rw [← c]; split <;> omega
    · exact this
theorem fw_dn' {s t : Nat} (h : s ≤ t) (e : Int) : fw d t e ≤ fw d s e := by
  have := fw_dn (d := d) (t - s) s e
  rw [show s + (t - s) = t by omega] at this
  exact this
/-- one way more past p -/
theorem fw_via {p a b x y : Int} (p0 : 0 ≤ p) (a0 : 0 ≤ a) (a1 : a ≤ 10) (b0 : 0 ≤ b) (b1 : b ≤ 10) (h1 : fw d (p * 121).toNat (11 * a + p) ≤ x) (h2 : fw d (p * 121).toNat (11 * p + b) ≤ y) : fw d ((p + 1) * 121).toNat (11 * a + b) ≤ x + y := by
  have h3 := fw_dn' (d := d) (s := (p * 121 + (11 * a + b)).toNat + 1) (t := ((p + 1) * 121).toNat) (by omega) (11 * a + b)
  refine Int.le_trans h3 ?_
  rw [fw_at p0 (by omega) (by omega)]
  unfold fwS
  rw [if_pos rfl, show (11 * a + b) / 11 = a by omega, show (11 * a + b) % 11 = b by omega]
  have g1 := fw_dn' (d := d) (s := (p * 121).toNat) (t := (p * 121 + (11 * a + b)).toNat) (by omega) (11 * a + p)
  have g2 := fw_dn' (d := d) (s := (p * 121).toNat) (t := (p * 121 + (11 * a + b)).toNat) (by omega) (11 * p + b)
  split <;> omega
theorem fw_adj (hC : chS d step) {a b : Int} (a0 : 0 ≤ a) (a1 : a ≤ 10) (b0 : 0 ≤ b) (b1 : b ≤ 10) (h : adj a b) (s : Nat) : fw d s (11 * a + b) ≤ step := by
  refine Int.le_trans (fw_le s _) ?_
  unfold fw0
  rw [show (11 * a + b) / 11 = a by omega, show (11 * a + b) % 11 = b by omega, if_neg (by unfold adj at h; omega), show 11 * a + b = a * 11 + b by omega, (hC.2 a b a0 a1 b0 b1).1 h, if_pos (by have := hC.1; omega)]
  exact Int.le_refl _
theorem fw_up (hC : chS d step) : ∀ k : Nat, k ≤ 9 → fw d ((k : Int) * 121).toNat (11 * 10 + (k : Int)) ≤ step * (k + 1) ∧ fw d ((k : Int) * 121).toNat (11 * (k : Int) + 10) ≤ step * (k + 1) := by
  intro k
  induction k with
  | zero =>
    intro _
    have h1 := fw_adj hC (a := 10) (b := ((0 : Nat) : Int)) (by omega) (by omega) (by omega) (by omega) (Or.inr (Or.inl ⟨rfl, rfl⟩)) (((0 : Nat) : Int) * 121).toNat
    have h2 := fw_adj hC (a := ((0 : Nat) : Int)) (b := 10) (by omega) (by omega) (by omega) (by omega) (Or.inr (Or.inr ⟨rfl, rfl⟩)) (((0 : Nat) : Int) * 121).toNat
    exact ⟨by omega, by omega⟩
  | succ k ih =>
    intro hk
    obtain ⟨i1, i2⟩ := ih (by omega)
    have ek : ((k + 1 : Nat) : Int) = (k : Int) + 1 := by omega
    rw [ek]
    have a1 := fw_adj hC (a := (k : Int)) (b := (k : Int) + 1) (by omega) (by omega) (by omega) (by omega) (Or.inl ⟨by omega, by omega, by omega⟩) ((k : Int) * 121).toNat
    have a2 := fw_adj hC (a := (k : Int) + 1) (b := (k : Int)) (by omega) (by omega) (by omega) (by omega) (Or.inl ⟨by omega, by omega, by omega⟩) ((k : Int) * 121).toNat
    have v1 := fw_via (d := d) (p := (k : Int)) (a := 10) (b := (k : Int) + 1) (by omega) (by omega) (by omega) (by omega) (by omega) i1 a1
    have v2 := fw_via (d := d) (p := (k : Int)) (a := (k : Int) + 1) (b := 10) (by omega) (by omega) (by omega) (by omega) (by omega) a2 i2
    have e3 : step * ((k : Int) + 1 + 1) = step * ((k : Int) + 1) + step := by rw [Int.mul_add step ((k : Int) + 1) 1, Int.mul_one]
    rw [e3]
    exact ⟨v1, by omega⟩
/-- how far along the row -/
theorem Wy_row (hd : okd d) (hC : chS d step) {k : Nat} (hk : k ≤ 9) : Wy d (10 * 11 + (k : Int)) = step * (k + 1) ∧ Wy d ((k : Int) * 11 + 10) = step * (k + 1) := by
  obtain ⟨u1, u2⟩ := fw_up hC k hk
  have l1 := (fw_low hd hC 1331 (by omega) 10 (k : Int) (by omega) (by omega) (by omega) (by omega)).1
  have l2 := (fw_low hd hC 1331 (by omega) (k : Int) 10 (by omega) (by omega) (by omega) (by omega)).2
  have d1 := fw_dn' (d := d) (s := ((k : Int) * 121).toNat) (t := 1331) (by omega) (11 * 10 + (k : Int))
  have d2 := fw_dn' (d := d) (s := ((k : Int) * 121).toNat) (t := 1331) (by omega) (11 * (k : Int) + 10)
  have e1 : pos (k : Int) - pos 10 = (k : Int) + 1 := by unfold pos; rw [if_neg (by omega), if_pos rfl]; omega
  rw [e1] at l1 l2
  unfold Wy
  rw [show 10 * 11 + (k : Int) = 11 * 10 + (k : Int) by omega, show (k : Int) * 11 + 10 = 11 * (k : Int) + 10 by omega]
  omega
theorem Wy_adj (hC : chS d step) {a b : Int} (a0 : 0 ≤ a) (a1 : a ≤ 10) (b0 : 0 ≤ b) (b1 : b ≤ 10) (h : adj a b) : Wy d (a * 11 + b) ≤ step := by
  unfold Wy
  rw [show a * 11 + b = 11 * a + b by omega]
  exact fw_adj hC a0 a1 b0 b1 h 1331
theorem p_near0 (hd : okd d) (hC : chS d step) (σ : qS) : ∃ s, f_X6_near σ (eC d) (zI 10) (zI 9) (zI 0) = some (zI (10 * step), s) := by
  obtain ⟨⟨r, s⟩, e1, h1⟩ := ok_get (y_near hd σ (a := 10) (b := 9) (w := 0) (by omega) (by omega) (by omega) (by omega) (by omega) (by omega))
  have hw := (Wy_row hd hC (k := 9) (by omega)).1
  have hs := hC.1
  rw [show (10 * 11 + ((9 : Nat) : Int)) = 10 * 11 + 9 from rfl] at hw
  have e2 : step * (((9 : Nat) : Int) + 1) = 10 * step := by rw [show (((9 : Nat) : Int) + 1) = 10 from rfl]; omega
  rw [e2] at hw
  dsimp only at h1
  unfold isA at h1
  rw [hw, if_neg (by omega), if_pos rfl] at h1
  exact ⟨s, by rw [e1, h1]⟩
theorem p_near1 (hd : okd d) (hC : chS d step) (σ : qS) : ∃ s, f_X6_near σ (eC d) (zI 9) (zI 10) (zI 1) = some (zI 8, s) := by
  obtain ⟨⟨r, s⟩, e1, h1⟩ := ok_get (y_near hd σ (a := 9) (b := 10) (w := 1) (by omega) (by omega) (by omega) (by omega) (by omega) (by omega))
  have w9 := (Wy_row hd hC (k := 9) (by omega)).2
  have w8 := (Wy_row hd hC (k := 8) (by omega)).2
  have hs := hC.1
  have e2 : step * (((9 : Nat) : Int) + 1) = 10 * step := by rw [show (((9 : Nat) : Int) + 1) = 10 from rfl]; omega
  have e3 : step * (((8 : Nat) : Int) + 1) = 9 * step := by rw [show (((8 : Nat) : Int) + 1) = 9 from rfl]; omega
  rw [e2, show (((9 : Nat) : Int) * 11 + 10) = 9 * 11 + 10 from rfl] at w9
  rw [e3, show (((8 : Nat) : Int) * 11 + 10) = 8 * 11 + 10 from rfl] at w8
  have r8 := (hC.2 9 8 (by omega) (by omega) (by omega) (by omega)).1 (Or.inl ⟨by omega, by omega, by omega⟩)
  have n8 : nxtP d 9 10 8 := ⟨by omega, by rw [r8, w8, w9]; omega⟩
  have only : ∀ p, 0 ≤ p → p ≤ 10 → nxtP d 9 10 p → p = 8 := fun p p0 p1 hp => by
    by_cases c : adj 9 p
    · unfold adj at c; omega
    · have := (hC.2 9 p (by omega) (by omega) p0 p1).2 c
      have := hp.1
      omega
  have h2 : isN d 9 10 (zI 8) := Or.inl ⟨8, by omega, by omega, n8, fun q q0 q1 z => by have := only q q0 (by omega) z; omega, rfl⟩
  dsimp only at h1
  unfold isA at h1
  rw [w9, if_neg (by omega), if_neg (by omega), if_neg (by omega)] at h1
  have := isN_un h1 h2
  exact ⟨s, by rw [e1, this]⟩
/-- behind the first houses so much is left -/
theorem mxB_ge {T : Nat → Nat → Int} {r l q : Nat} (h1 : r.testBit q = true) (h2 : 0 ≤ T r q) : ∀ p, q < p → gHt d (T r q - Wy d ((q : Int) * 11 + l)) l ≤ mxB d T r l p ∨ gHt d (T r q - Wy d ((q : Int) * 11 + l)) l = -1 := by
  intro p
  induction p with
  | zero => intro h; omega
  | succ p ih =>
    intro hq
    have gb := (gHt_b (d := d) (T r q - Wy d ((q : Int) * 11 + l)) l).1
    unfold mxB
    by_cases e : q = p
    · subst e
      by_cases c : mxB d T r l q < gHt d (T r q - Wy d ((q : Int) * 11 + l)) l
      · rw [if_pos ⟨h1, h2, c⟩]; exact Or.inl (Int.le_refl _)
      · rw [if_neg (fun z => c z.2.2)]; exact Or.inl (by omega)
    · rcases ih (by omega) with z | z
      · refine Or.inl ?_
        by_cases c : r.testBit p = true ∧ 0 ≤ T r p ∧ mxB d T r l p < gHt d (T r p - Wy d ((p : Int) * 11 + l)) l
        · rw [if_pos c]; omega
        · rw [if_neg c]; exact z
      · exact Or.inr z
theorem pre_t : ∀ k : Nat, k < 10 → ((2 ^ (k + 1) - 1 : Nat).testBit k = true ∧ (2 ^ (k + 1) - 1 : Nat) < 1024 ∧ (2 ^ (k + 1) - 1 - 2 ^ k : Nat) = 2 ^ k - 1 ∧ (0 < k → ¬ (2 ^ (k + 1) - 1 : Nat) = 2 ^ k)) := by decide +kernel
theorem VR_pre (hd : okd d) (hC : chS d step) (hz : ∀ i, 0 ≤ i → i ≤ 9 → d 1 i = 0 ∧ d 2 i = 0) {H : Int} : ∀ k : Nat, k < 10 → step < H - (k : Int) * (step + 5) → 0 ≤ VR d H (2 ^ (k + 1) - 1) k ∧ H - ((k : Int) + 1) * (step + 5) ≤ VR d H (2 ^ (k + 1) - 1) k := by
  have hs := hC.1
  intro k
  induction k with
  | zero =>
    intro _ hH
    rw [show ((0 : Nat) : Int) * (step + 5) = 0 by simp] at hH
    rw [show (((0 : Nat) : Int) + 1) * (step + 5) = step + 5 by simp, VR_eq (by decide) (by decide)]
    have hw := Wy_adj hC (a := 10) (b := 0) (by omega) (by omega) (by omega) (by omega) (Or.inr (Or.inl ⟨rfl, rfl⟩))
    rw [show (10 : Int) * 11 + 0 = 110 + ((0 : Nat) : Int) by omega] at hw
    obtain ⟨z1, z2⟩ := hz 0 (by omega) (by omega)
    unfold pull
    rw [if_pos (by decide), if_pos (by decide)]
    unfold gHt
    rw [show ((0 : Nat) : Int) = 0 from rfl] at *
    rw [z1, z2, if_pos ⟨rfl, by omega⟩]
    split <;> omega
  | succ k ih =>
    intro hk hH
    have e1 : ((k + 1 : Nat) : Int) * (step + 5) = (k : Int) * (step + 5) + (step + 5) := by rw [show ((k + 1 : Nat) : Int) = (k : Int) + 1 by omega, Int.add_mul, Int.one_mul]
    have e2 : ((k : Int) + 1) * (step + 5) = (k : Int) * (step + 5) + (step + 5) := by rw [Int.add_mul, Int.one_mul]
    have e3 : (((k + 1 : Nat) : Int) + 1) * (step + 5) = (k : Int) * (step + 5) + (step + 5) + (step + 5) := by rw [Int.add_mul, Int.one_mul, e1]
    obtain ⟨i1, i2⟩ := ih (by omega) (by omega)
    rw [e2] at i2
    rw [e3]
    rw [e1] at hH
    obtain ⟨t1, t2, t3, t4⟩ := pre_t (k + 1) hk
    obtain ⟨u1, u2, -, -⟩ := pre_t k (by omega)
    have hw := Wy_adj hC (a := (k : Int)) (b := ((k + 1 : Nat) : Int)) (by omega) (by omega) (by omega) (by omega) (Or.inl ⟨by omega, by omega, by omega⟩)
    obtain ⟨z1, z2⟩ := hz ((k + 1 : Nat) : Int) (by omega) (by omega)
    have hg := mxB_ge (d := d) (T := VR d H) (r := 2 ^ (k + 1) - 1) (l := k + 1) (q := k) u1 i1 10 (by omega)
    rw [VR_eq t2 hk]
    unfold pull
    rw [if_pos t1, if_neg (t4 (by omega)), t3]
    generalize hv : VR d H (2 ^ (k + 1) - 1) k = v at *
    have hgv : gHt d (v - Wy d ((k : Int) * 11 + ((k + 1 : Nat) : Int))) (k + 1) = (if 0 < v - Wy d ((k : Int) * 11 + ((k + 1 : Nat) : Int)) - 5 then v - Wy d ((k : Int) * 11 + ((k + 1 : Nat) : Int)) - 5 else 0) := by
      unfold gHt
      rw [z1, z2, if_pos ⟨rfl, by omega⟩]
    rw [hgv] at hg
    generalize mxB d (VR d H) (2 ^ (k + 1) - 1) (k + 1) 10 = M at *
    by_cases c : 0 < v - Wy d ((k : Int) * 11 + ((k + 1 : Nat) : Int)) - 5
    · rw [if_pos c] at hg; omega
    · rw [if_neg c] at hg; omega
end ROWW


/-! rows of houses, of the reference: longs by row and place -/
def eL (d : Nat → Int → Int) : qL := fun k j => zL (d k j)
theorem eL_at (d : Nat → Int → Int) (k : Nat) {i : Int} (h : 0 ≤ i) : eL d k i.toNat = zL (d k i) := by
  show zL (d k (i.toNat : Int)) = _
  rw [Int.toNat_of_nonneg h]
theorem eL_up (d : Nat → Int → Int) (k : Nat) {i : Int} (h : 0 ≤ i) (v : Int) : q_upL (eL d) k (vp_updL (eL d k) i.toNat (zL v)) = eL (ud d k i v) := by
  funext a b
  unfold q_upL eL ud vp_updL
  by_cases ha : a = k
  · subst ha
    rw [Nat.beq_refl, cond_true]
    by_cases hb : b = i.toNat
    · rw [if_pos hb, if_pos ⟨rfl, by omega⟩]
    · rw [if_neg hb, if_neg (fun z => hb (by omega))]
  · have e : Nat.beq a k = false := by
      cases z : Nat.beq a k with
      | false => rfl
      | true => exact absurd (Nat.eq_of_beq_eq_true z) ha
    rw [e, cond_false, if_neg (fun z => ha z.1)]
theorem eL_of (τ : qL) : ∃ d, τ = eL d := ⟨fun k i => (τ k i.toNat).toInt, by funext k j; show τ k j = zL ((τ k (j : Int).toNat).toInt); rw [Int.toNat_natCast]; exact (Int64.ofInt_toInt _).symm⟩
/-- the parts behind one house more -/
def nxt (t u : Int) (p : Int → Int) (j : Int) : Int :=
  if j % 2 = 0 ∧ 0 ≤ j ∧ j ≤ 18 then (10 - t) * p (j + 1) + (10 - u) * p j
  else if j % 2 = 1 ∧ 3 ≤ j ∧ j ≤ 21 then t * p (j - 2) + u * p (j - 3) else 0
def zr (k : Nat) (i : Int) (d : Nat → Int → Int) : Nat → Int → Int := fun a b => if a = k ∧ i ≤ b ∧ b < 22 then 0 else d a b
theorem zr_s {k : Nat} {i : Int} (h : i < 22) (d : Nat → Int → Int) : zr k (i + 1) (ud d k i 0) = zr k i d := by
  funext a b
  unfold zr ud
  by_cases e : a = k ∧ b = i
  · obtain ⟨rfl, rfl⟩ := e
    rw [if_neg (by omega), if_pos ⟨rfl, rfl⟩, if_pos ⟨rfl, by omega, h⟩]
  · rw [if_neg e]
    by_cases e2 : a = k ∧ i ≤ b ∧ b < 22
    · rw [if_pos e2, if_pos ⟨e2.1, by omega, e2.2.2⟩]
    · rw [if_neg e2, if_neg (by omega)]
theorem zr_e {k : Nat} {i : Int} (h : 22 ≤ i) (d : Nat → Int → Int) : zr k i d = d := by
  funext a b
  unfold zr
  rw [if_neg (by omega)]
def acc (t u m : Int) (d : Nat → Int → Int) : Nat → Int → Int := fun a b =>
  if a = 28 ∧ b % 2 = 0 ∧ 2 * m ≤ b ∧ b ≤ 18 then d 28 b + ((10 - t) * d 27 (b + 1) + (10 - u) * d 27 b)
  else if a = 28 ∧ b % 2 = 1 ∧ 2 * m + 3 ≤ b ∧ b ≤ 21 then d 28 b + (t * d 27 (b - 2) + u * d 27 (b - 3)) else d a b
theorem acc_s {t u m : Int} (h0 : 0 ≤ m) (h : m < 10) (d : Nat → Int → Int) :
    acc t u (m + 1) (ud (ud d 28 (2 * m + 3) (d 28 (2 * m + 3) + (t * d 27 (2 * m + 1) + u * d 27 (2 * m)))) 28 (2 * m) (d 28 (2 * m) + ((10 - t) * d 27 (2 * m + 1) + (10 - u) * d 27 (2 * m)))) = acc t u m d := by
  funext a b
  unfold acc
  have e27 : ∀ v w i, ud (ud d 28 (2 * m + 3) v) 28 (2 * m) w 27 i = d 27 i := fun v w i => by rw [ud_ne _ _ (by omega), ud_ne _ _ (by omega)]
  simp only [e27]
  by_cases e1 : a = 28 ∧ b = 2 * m
  · obtain ⟨rfl, rfl⟩ := e1
    rw [if_neg (by omega), if_neg (by omega), ud_same, if_pos ⟨rfl, by omega, by omega, by omega⟩]
  · by_cases e2 : a = 28 ∧ b = 2 * m + 3
    · obtain ⟨rfl, rfl⟩ := e2
      rw [if_neg (by omega), if_neg (by omega), ud_ne _ _ (by omega), ud_same, if_neg (by omega), if_pos ⟨rfl, by omega, by omega, by omega⟩, show 2 * m + 3 - 2 = 2 * m + 1 by omega, show 2 * m + 3 - 3 = 2 * m by omega]
    · have e3 : ∀ v w, ud (ud d 28 (2 * m + 3) v) 28 (2 * m) w a b = d a b := fun v w => by rw [ud_ne _ _ (by omega), ud_ne _ _ (by omega)]
      rw [e3]
      by_cases e4 : a = 28 ∧ b % 2 = 0 ∧ 2 * m ≤ b ∧ b ≤ 18
      · rw [if_pos ⟨e4.1, e4.2.1, by omega, e4.2.2.2⟩, if_pos e4, ← e4.1, e3]
      · rw [if_neg (by omega), if_neg e4]
        by_cases e5 : a = 28 ∧ b % 2 = 1 ∧ 2 * m + 3 ≤ b ∧ b ≤ 21
        · rw [if_pos ⟨e5.1, e5.2.1, by omega, e5.2.2.2⟩, if_pos e5, ← e5.1, e3]
        · rw [if_neg (by omega), if_neg e5]
theorem acc_e {t u m : Int} (h : 10 ≤ m) (d : Nat → Int → Int) : acc t u m d = d := by
  funext a b
  unfold acc
  rw [if_neg (by omega), if_neg (by omega)]
def cpy (i : Int) (d : Nat → Int → Int) : Nat → Int → Int := fun a b => if a = 27 ∧ i ≤ b ∧ b < 22 then d 28 b else d a b
theorem cpy_s {i : Int} (h : i < 22) (d : Nat → Int → Int) : cpy (i + 1) (ud d 27 i (d 28 i)) = cpy i d := by
  funext a b
  unfold cpy
  by_cases e : a = 27 ∧ b = i
  · obtain ⟨rfl, rfl⟩ := e
    rw [if_neg (by omega), ud_same, if_pos ⟨rfl, by omega, h⟩]
  · by_cases e2 : a = 27 ∧ i ≤ b ∧ b < 22
    · rw [if_pos e2, if_pos ⟨e2.1, by omega, e2.2.2⟩, ud_ne _ _ (by omega)]
    · rw [if_neg e2, if_neg (by omega), ud_ne _ _ (by omega)]
theorem cpy_e {i : Int} (h : 22 ≤ i) (d : Nat → Int → Int) : cpy i d = d := by
  funext a b
  unfold cpy
  rw [if_neg (by omega)]
theorem m_oneHouse (σ : qS) (d : Nat → Int → Int) {t u : Int} (t0 : 0 ≤ t) (t1 : t ≤ 10) (u0 : 0 ≤ u) (u1 : u ≤ 10) : f_X7_oneHouse σ (eL d) (zI t) (zI u) = some (eL (cpy 0 (acc t u 0 (zr 28 0 d)))) := by
  unfold f_X7_oneHouse
  rw [z_0]
  refine lp_en (fun a : Int × (Nat → Int → Int) => (zI a.1, eL a.2)) (fun _ a => some (eL (cpy 0 (acc t u 0 (zr 28 a.1 a.2))))) (fun N a => 0 ≤ a.1 ∧ a.1 ≤ 22 ∧ (22 - a.1).toNat < N) (fun a => by omega) ?_ 20000 (0, d) ⟨Int.le_refl 0, by show (0 : Int) ≤ 22; decide, by show ((22 : Int) - 0).toNat < 20000; decide⟩
  rintro again N ⟨i, d⟩ ⟨h0, h1, h2⟩ ih
  dsimp only at h0 h1 h2 ⊢
  unfold b_X7_oneHouse_2
  dsimp only
  rw [z_s1, z_22, zl_0]
  by_cases c : i < 22
  · rw [if_neg (by rw [z_le (by omega) (by omega) (by omega) (by omega)]; omega), s_wrL h0 c (by omega), eL_up _ _ h0]
    have := ih (i + 1, ud d 28 i 0) ⟨by dsimp only; omega, by dsimp only; omega, by dsimp only; omega⟩
    dsimp only at this
    rw [zr_s c] at this
    exact this
  · rw [if_pos (by rw [z_le (by omega) (by omega) (by omega) (by omega)]; omega), zr_e (by omega)]
    refine lp_en (fun a : Int × (Nat → Int → Int) => (zI a.1, eL a.2)) (fun _ a => some (eL (cpy 0 (acc t u a.1 a.2)))) (fun N a => 0 ≤ a.1 ∧ a.1 ≤ 10 ∧ (10 - a.1).toNat < N) (fun a => by omega) ?_ 20000 (0, d) ⟨Int.le_refl 0, by show (0 : Int) ≤ 10; decide, by show ((10 : Int) - 0).toNat < 20000; decide⟩
    rintro again N ⟨m, d⟩ ⟨h0, h1, h2⟩ ih
    dsimp only at h0 h1 h2 ⊢
    unfold b_X7_oneHouse_23
    dsimp only
    rw [z_s1, z_10]
    by_cases c : m < 10
    · have e10 : (10 : Int64) = zL 10 := by decide
      have hr1 : ∀ {β : Type} (D : Nat → Int → Int) (k : Nat) {i : Int} (K : Int64 → Option β), 0 ≤ i → i < 22 → q_rdL (eL D) k 22 (zI i) K = K (zL (D k i)) := fun D k i K a b => by rw [s_rdL a (by omega) (by omega), eL_at _ _ a]
      have hw1 : ∀ {β : Type} (D : Nat → Int → Int) (k : Nat) {i v : Int} (K : qL → Option β), 0 ≤ i → i < 22 → q_wrL (eL D) k 22 (zI i) (zL v) K = K (eL (ud D k i v)) := fun D k i v K a b => by rw [s_wrL a (by omega) (by omega), eL_up _ _ a]
      rw [if_neg (by rw [z_le (by omega) (by omega) (by omega) (by omega)]; omega), z_2, z_mul, z_1, z_3, z_add, z_add, z_l (by omega) (by omega), z_l (by omega) (by omega), e10, zl_sub, zl_sub]
      rw [hr1 _ _ _ (by omega) (by omega), hr1 _ _ _ (by omega) (by omega), zl_mul, zl_mul, zl_add, s_bd, hr1 _ _ _ (by omega) (by omega), hr1 _ _ _ (by omega) (by omega), zl_mul, zl_mul, zl_add, s_bd, hr1 _ _ _ (by omega) (by omega), zl_add, hw1 _ _ _ (by omega) (by omega), hr1 _ _ _ (by omega) (by omega), zl_add, hw1 _ _ _ (by omega) (by omega)]
      have := ih (m + 1, ud (ud d 28 (2 * m + 3) (d 28 (2 * m + 3) + (t * d 27 (2 * m + 1) + u * d 27 (2 * m)))) 28 (2 * m) (d 28 (2 * m) + ((10 - t) * d 27 (2 * m + 1) + (10 - u) * d 27 (2 * m)))) ⟨by dsimp only; omega, by dsimp only; omega, by dsimp only; omega⟩
      dsimp only at this
      rw [acc_s h0 c] at this
      rw [ud_ne _ _ (show 28 ≠ 28 ∨ 2 * m ≠ 2 * m + 3 by omega)]
      exact this
    · rw [if_pos (by rw [z_le (by omega) (by omega) (by omega) (by omega)]; omega), acc_e (by omega)]
      refine lp_en (fun a : Int × (Nat → Int → Int) => (zI a.1, eL a.2)) (fun _ a => some (eL (cpy a.1 a.2))) (fun N a => 0 ≤ a.1 ∧ a.1 ≤ 22 ∧ (22 - a.1).toNat < N) (fun a => by omega) ?_ 20000 (0, d) ⟨Int.le_refl 0, by show (0 : Int) ≤ 22; decide, by show ((22 : Int) - 0).toNat < 20000; decide⟩
      rintro again N ⟨i, d⟩ ⟨h0, h1, h2⟩ ih
      dsimp only at h0 h1 h2 ⊢
      unfold b_X7_oneHouse_127
      dsimp only
      rw [z_s1, z_22]
      by_cases c : i < 22
      · rw [if_neg (by rw [z_le (by omega) (by omega) (by omega) (by omega)]; omega), s_rdL h0 c (by omega), eL_at _ _ h0, s_wrL h0 c (by omega), eL_up _ _ h0]
        have := ih (i + 1, ud d 27 i (d 28 i)) ⟨by dsimp only; omega, by dsimp only; omega, by dsimp only; omega⟩
        dsimp only at this
        rw [cpy_s c] at this
        exact this
      · rw [if_pos (by rw [z_le (by omega) (by omega) (by omega) (by omega)]; omega), cpy_e (by omega)]
/-- the parts' row is the next one -/
theorem one_27 (d : Nat → Int → Int) (t u : Int) {j : Int} (h0 : 0 ≤ j) (h1 : j < 22) : cpy 0 (acc t u 0 (zr 28 0 d)) 27 j = nxt t u (d 27) j := by
  unfold cpy
  rw [if_pos ⟨rfl, h0, h1⟩]
  unfold acc nxt
  have e27 : ∀ i, zr 28 0 d 27 i = d 27 i := fun i => by unfold zr; rw [if_neg (by omega)]
  have e28 : ∀ i, 0 ≤ i → i < 22 → zr 28 0 d 28 i = 0 := fun i a b => by unfold zr; rw [if_pos ⟨rfl, a, b⟩]
  simp only [e27]
  by_cases c1 : j % 2 = 0 ∧ 0 ≤ j ∧ j ≤ 18
  · rw [if_pos ⟨rfl, c1.1, by omega, c1.2.2⟩, if_pos c1, e28 _ h0 h1, Int.zero_add]
  · rw [if_neg (by omega), if_neg c1]
    by_cases c2 : j % 2 = 1 ∧ 3 ≤ j ∧ j ≤ 21
    · rw [if_pos ⟨rfl, c2.1, by omega, c2.2.2⟩, if_pos c2, e28 _ h0 h1, Int.zero_add]
    · rw [if_neg (by omega), if_neg c2, e28 _ h0 h1]

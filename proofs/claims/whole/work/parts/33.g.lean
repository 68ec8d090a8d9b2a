/-! rows of houses, of the reference: longs by row and place -/
def eL (d : Nat → Int → Int) : qL := fun k j => zL (d k j)
theorem eL_at (d : Nat → Int → Int) (k : Nat) {i : Int} (h : 0 ≤ i) : eL d k i.toNat = zL (d k i) := by
  show zL (d k (i.toNat : Int)) = _
  rw [Int.toNat_of_nonneg h]
theorem eL_up (d : Nat → Int → Int) (k : Nat) {i : Int} (h : 0 ≤ i) (v : Int) : q_upL (eL d) k (vp_updL (eL d k) i.toNat (zL v)) = eL (ud d k i v) := by
  funext a b
  unfold q_upL eL ud vp_updL
  by_cases ha : a = k
  · subst ha
    rw [Nat.beq_refl, cond_true]
    by_cases hb : b = i.toNat
    · rw [if_pos hb, if_pos ⟨rfl, by omega⟩]
    · rw [if_neg hb, if_neg (fun z => hb (by omega))]
  · have e : Nat.beq a k = false := by
      cases z : Nat.beq a k with
      | false => rfl
      | true => exact absurd (Nat.eq_of_beq_eq_true z) ha
    rw [e, cond_false, if_neg (fun z => ha z.1)]
theorem eL_of (τ : qL) : ∃ d, τ = eL d := ⟨fun k i => (τ k i.toNat).toInt, by funext k j; show τ k j = zL ((τ k (j : Int).toNat).toInt); rw [Int.toNat_natCast]; exact (Int64.ofInt_toInt _).symm⟩
theorem c_nle {a b : Int} (h : b < a) (hb : 0 ≤ b) (ha : a < 100000) : ¬ zI a ≤ zI b := by rw [z_le (by omega) (by omega) (by omega) (by omega)]; omega
theorem c_le {a b : Int} (h : a ≤ b) (hb : 0 ≤ a) (ha : b < 100000) : zI a ≤ zI b := by rw [z_le (by omega) (by omega) (by omega) (by omega)]; omega
/-- the parts behind one house more -/
def nxt (t u : Int) (p : Int → Int) (j : Int) : Int :=
  if j % 2 = 0 ∧ 0 ≤ j ∧ j ≤ 18 then (10 - t) * p (j + 1) + (10 - u) * p j
  else if j % 2 = 1 ∧ 3 ≤ j ∧ j ≤ 21 then t * p (j - 2) + u * p (j - 3) else 0
def zr (k : Nat) (i : Int) (d : Nat → Int → Int) : Nat → Int → Int := fun a b => if a = k ∧ i ≤ b ∧ b < 22 then 0 else d a b
theorem zr_s {k : Nat} {i : Int} (h : i < 22) (d : Nat → Int → Int) : zr k (i + 1) (ud d k i 0) = zr k i d := by
  funext a b
  unfold zr ud
  by_cases e : a = k ∧ b = i
  · obtain ⟨rfl, rfl⟩ := e
    rw [if_neg (by omega), if_pos ⟨rfl, rfl⟩, if_pos ⟨rfl, by omega, h⟩]
  · rw [if_neg e]
    by_cases e2 : a = k ∧ i ≤ b ∧ b < 22
    · rw [if_pos e2, if_pos ⟨e2.1, by omega, e2.2.2⟩]
    · rw [if_neg e2, if_neg (by omega)]
theorem zr_e {k : Nat} {i : Int} (h : 22 ≤ i) (d : Nat → Int → Int) : zr k i d = d := by
  funext a b
  unfold zr
  rw [if_neg (by omega)]
def acc (t u m : Int) (d : Nat → Int → Int) : Nat → Int → Int := fun a b =>
  if a = 28 ∧ b % 2 = 0 ∧ 2 * m ≤ b ∧ b ≤ 18 then d 28 b + ((10 - t) * d 27 (b + 1) + (10 - u) * d 27 b)
  else if a = 28 ∧ b % 2 = 1 ∧ 2 * m + 3 ≤ b ∧ b ≤ 21 then d 28 b + (t * d 27 (b - 2) + u * d 27 (b - 3)) else d a b
theorem acc_s {t u m : Int} (h0 : 0 ≤ m) (h : m < 10) (d : Nat → Int → Int) :
    acc t u (m + 1) (ud (ud d 28 (2 * m + 3) (d 28 (2 * m + 3) + (t * d 27 (2 * m + 1) + u * d 27 (2 * m)))) 28 (2 * m) (d 28 (2 * m) + ((10 - t) * d 27 (2 * m + 1) + (10 - u) * d 27 (2 * m)))) = acc t u m d := by
  funext a b
  unfold acc
  have e27 : ∀ v w i, ud (ud d 28 (2 * m + 3) v) 28 (2 * m) w 27 i = d 27 i := fun v w i => by rw [ud_ne _ _ (by omega), ud_ne _ _ (by omega)]
  simp only [e27]
  by_cases e1 : a = 28 ∧ b = 2 * m
  · obtain ⟨rfl, rfl⟩ := e1
    rw [if_neg (by omega), if_neg (by omega), ud_same, if_pos ⟨rfl, by omega, by omega, by omega⟩]
  · by_cases e2 : a = 28 ∧ b = 2 * m + 3
    · obtain ⟨rfl, rfl⟩ := e2
      rw [if_neg (by omega), if_neg (by omega), ud_ne _ _ (by omega), ud_same, if_neg (by omega), if_pos ⟨rfl, by omega, by omega, by omega⟩, show 2 * m + 3 - 2 = 2 * m + 1 by omega, show 2 * m + 3 - 3 = 2 * m by omega]
    · have e3 : ∀ v w, ud (ud d 28 (2 * m + 3) v) 28 (2 * m) w a b = d a b := fun v w => by rw [ud_ne _ _ (by omega), ud_ne _ _ (by omega)]
      rw [e3]
      by_cases e4 : a = 28 ∧ b % 2 = 0 ∧ 2 * m ≤ b ∧ b ≤ 18
      · obtain rfl : a = 28 := e4.1
        rw [if_pos ⟨rfl, e4.2.1, by omega, e4.2.2.2⟩, if_pos e4, e3]
      · rw [if_neg (by omega), if_neg e4]
        by_cases e5 : a = 28 ∧ b % 2 = 1 ∧ 2 * m + 3 ≤ b ∧ b ≤ 21
        · obtain rfl : a = 28 := e5.1
          rw [if_pos ⟨rfl, e5.2.1, by omega, e5.2.2.2⟩, if_pos e5, e3]
        · rw [if_neg (by omega), if_neg e5]
theorem acc_e {t u m : Int} (h : 10 ≤ m) (d : Nat → Int → Int) : acc t u m d = d := by
  funext a b
  unfold acc
  rw [if_neg (by omega), if_neg (by omega)]
def cpy (i : Int) (d : Nat → Int → Int) : Nat → Int → Int := fun a b => if a = 27 ∧ i ≤ b ∧ b < 22 then d 28 b else d a b
theorem cpy_s {i : Int} (h : i < 22) (d : Nat → Int → Int) : cpy (i + 1) (ud d 27 i (d 28 i)) = cpy i d := by
  funext a b
  unfold cpy
  by_cases e : a = 27 ∧ b = i
  · obtain ⟨rfl, rfl⟩ := e
    rw [if_neg (by omega), ud_same, if_pos ⟨rfl, by omega, h⟩]
  · by_cases e2 : a = 27 ∧ i ≤ b ∧ b < 22
    · rw [if_pos e2, if_pos ⟨e2.1, by omega, e2.2.2⟩, ud_ne _ _ (by omega)]
    · rw [if_neg e2, if_neg (by omega), ud_ne _ _ (by omega)]
theorem cpy_e {i : Int} (h : 22 ≤ i) (d : Nat → Int → Int) : cpy i d = d := by
  funext a b
  unfold cpy
  rw [if_neg (by omega)]
theorem m_oneHouse (σ : qS) (d : Nat → Int → Int) {t u : Int} (t0 : 0 ≤ t) (t1 : t ≤ 10) (u0 : 0 ≤ u) (u1 : u ≤ 10) : f_X7_oneHouse σ (eL d) (zI t) (zI u) = some (eL (cpy 0 (acc t u 0 (zr 28 0 d)))) := by
  unfold f_X7_oneHouse
  rw [z_0]
  refine lp_en (fun a : Int × (Nat → Int → Int) => (zI a.1, eL a.2)) (fun _ a => some (eL (cpy 0 (acc t u 0 (zr 28 a.1 a.2))))) (fun N a => 0 ≤ a.1 ∧ a.1 ≤ 22 ∧ (22 - a.1).toNat < N) (fun a => by omega) ?_ 20000 (0, d) ⟨Int.le_refl 0, by show (0 : Int) ≤ 22; decide, by show ((22 : Int) - 0).toNat < 20000; decide⟩
  rintro again N ⟨i, d⟩ ⟨h0, h1, h2⟩ ih
  dsimp only at h0 h1 h2 ⊢
  unfold b_X7_oneHouse_2
  dsimp only
  rw [z_s1, z_22, zl_0]
  by_cases c : i < 22
  · rw [if_neg (c_nle (a := 22) (b := i) (by omega) (by omega) (by omega)), s_wrL (n := 22) h0 (by omega) (by omega), eL_up _ _ h0]
    have := ih (i + 1, ud d 28 i 0) ⟨by dsimp only; omega, by dsimp only; omega, by dsimp only; omega⟩
    dsimp only at this
    rw [zr_s c] at this
    exact this
  · rw [if_pos (c_le (a := 22) (b := i) (by omega) (by omega) (by omega)), zr_e (by omega)]
    refine lp_en (fun a : Int × (Nat → Int → Int) => (zI a.1, eL a.2)) (fun _ a => some (eL (cpy 0 (acc t u a.1 a.2)))) (fun N a => 0 ≤ a.1 ∧ a.1 ≤ 10 ∧ (10 - a.1).toNat < N) (fun a => by omega) ?_ 20000 (0, d) ⟨Int.le_refl 0, by show (0 : Int) ≤ 10; decide, by show ((10 : Int) - 0).toNat < 20000; decide⟩
    rintro again N ⟨m, d⟩ ⟨h0, h1, h2⟩ ih
    dsimp only at h0 h1 h2 ⊢
    unfold b_X7_oneHouse_23
    dsimp only
    rw [z_s1, z_10]
    by_cases c : m < 10
    · have e10 : (10 : Int64) = zL 10 := by decide
      have hr1 : ∀ {β : Type} (D : Nat → Int → Int) (k : Nat) {i : Int} (K : Int64 → Option β), 0 ≤ i → i < 22 → q_rdL (eL D) k 22 (zI i) K = K (zL (D k i)) := fun D k i K a b => by rw [s_rdL a (by omega) (by omega), eL_at _ _ a]
      have hw1 : ∀ {β : Type} (D : Nat → Int → Int) (k : Nat) {i v : Int} (K : qL → Option β), 0 ≤ i → i < 22 → q_wrL (eL D) k 22 (zI i) (zL v) K = K (eL (ud D k i v)) := fun D k i v K a b => by rw [s_wrL a (by omega) (by omega), eL_up _ _ a]
      rw [if_neg (c_nle (a := 10) (b := m) (by omega) (by omega) (by omega)), z_2, z_mul, z_1, z_3, z_add, z_add, z_l (by omega) (by omega), z_l (by omega) (by omega), e10, zl_sub, zl_sub]
      rw [hr1 _ _ _ (by omega) (by omega), hr1 _ _ _ (by omega) (by omega), zl_mul, zl_mul, zl_add, s_bd, hr1 _ _ _ (by omega) (by omega), hr1 _ _ _ (by omega) (by omega), zl_mul, zl_mul, zl_add, s_bd, hr1 _ _ _ (by omega) (by omega), zl_add, hw1 _ _ _ (by omega) (by omega), hr1 _ _ _ (by omega) (by omega), zl_add, hw1 _ _ _ (by omega) (by omega)]
      have := ih (m + 1, ud (ud d 28 (2 * m + 3) (d 28 (2 * m + 3) + (t * d 27 (2 * m + 1) + u * d 27 (2 * m)))) 28 (2 * m) (d 28 (2 * m) + ((10 - t) * d 27 (2 * m + 1) + (10 - u) * d 27 (2 * m)))) ⟨by dsimp only; omega, by dsimp only; omega, by dsimp only; omega⟩
      dsimp only at this
      rw [acc_s h0 c] at this
      rw [ud_ne _ _ (show 28 ≠ 28 ∨ 2 * m ≠ 2 * m + 3 by omega)]
      exact this
    · rw [if_pos (c_le (a := 10) (b := m) (by omega) (by omega) (by omega)), acc_e (by omega)]
      refine lp_en (fun a : Int × (Nat → Int → Int) => (zI a.1, eL a.2)) (fun _ a => some (eL (cpy a.1 a.2))) (fun N a => 0 ≤ a.1 ∧ a.1 ≤ 22 ∧ (22 - a.1).toNat < N) (fun a => by omega) ?_ 20000 (0, d) ⟨Int.le_refl 0, by show (0 : Int) ≤ 22; decide, by show ((22 : Int) - 0).toNat < 20000; decide⟩
      rintro again N ⟨i, d⟩ ⟨h0, h1, h2⟩ ih
      dsimp only at h0 h1 h2 ⊢
      unfold b_X7_oneHouse_127
      dsimp only
      rw [z_s1, z_22]
      by_cases c : i < 22
      · rw [if_neg (c_nle (a := 22) (b := i) (by omega) (by omega) (by omega)), s_rdL (n := 22) h0 (by omega) (by omega), eL_at _ _ h0, s_wrL (n := 22) h0 (by omega) (by omega), eL_up _ _ h0]
        have := ih (i + 1, ud d 27 i (d 28 i)) ⟨by dsimp only; omega, by dsimp only; omega, by dsimp only; omega⟩
        dsimp only at this
        rw [cpy_s c] at this
        exact this
      · rw [if_pos (c_le (a := 22) (b := i) (by omega) (by omega) (by omega)), cpy_e (by omega)]
/-- the parts' row is the next one -/
theorem one_27 (d : Nat → Int → Int) (t u : Int) {j : Int} (h0 : 0 ≤ j) (h1 : j < 22) : cpy 0 (acc t u 0 (zr 28 0 d)) 27 j = nxt t u (d 27) j := by
  unfold cpy
  rw [if_pos ⟨rfl, h0, h1⟩]
  unfold acc nxt
  have e27 : ∀ i, zr 28 0 d 27 i = d 27 i := fun i => by unfold zr; rw [if_neg (by omega)]
  have e28 : ∀ i, 0 ≤ i → i < 22 → zr 28 0 d 28 i = 0 := fun i a b => by unfold zr; rw [if_pos ⟨rfl, a, b⟩]
  simp only [e27]
  by_cases c1 : j % 2 = 0 ∧ 0 ≤ j ∧ j ≤ 18
  · rw [if_pos ⟨trivial, c1.1, by omega, c1.2.2⟩, if_pos c1, e28 _ h0 h1, Int.zero_add]
  · rw [if_neg (by omega), if_neg c1]
    by_cases c2 : j % 2 = 1 ∧ 3 ≤ j ∧ j ≤ 21
    · rw [if_pos ⟨trivial, c2.1, by omega, c2.2.2⟩, if_pos c2, e28 _ h0 h1, Int.zero_add]
    · rw [if_neg (by omega), if_neg c2, e28 _ h0 h1]

/-- the parts behind n houses -/
def prt (t u : Int) : Nat → Int → Int
  | 0, j => if j = 1 then 1 else 0
  | n + 1, j => nxt t u (prt t u n) j
theorem nxt_c {t u : Int} {p q : Int → Int} (h : ∀ j, 0 ≤ j → j < 22 → p j = q j) {j : Int} (h0 : 0 ≤ j) (h1 : j < 22) : nxt t u p j = nxt t u q j := by
  unfold nxt
  by_cases c1 : j % 2 = 0 ∧ 0 ≤ j ∧ j ≤ 18
  · rw [if_pos c1, if_pos c1, h _ (by omega) (by omega), h _ h0 h1]
  · rw [if_neg c1, if_neg c1]
    by_cases c2 : j % 2 = 1 ∧ 3 ≤ j ∧ j ≤ 21
    · rw [if_pos c2, if_pos c2, h _ (by omega) (by omega), h _ (by omega) (by omega)]
    · rw [if_neg c2, if_neg c2]
theorem mul_b {t p B : Int} (t0 : 0 ≤ t) (t1 : t ≤ 10) (p0 : 0 ≤ p) (p1 : p ≤ B) : 0 ≤ t * p ∧ t * p ≤ 10 * B :=
  ⟨Int.mul_nonneg t0 p0, Int.le_trans (Int.mul_le_mul_of_nonneg_right t1 p0) (Int.mul_le_mul_of_nonneg_left p1 (by omega))⟩
theorem prt_b {t u : Int} (t0 : 0 ≤ t) (t1 : t ≤ 10) (u0 : 0 ≤ u) (u1 : u ≤ 10) : ∀ (n : Nat) (j : Int), 0 ≤ prt t u n j ∧ prt t u n j ≤ 20 ^ n := by
  intro n
  induction n with
  | zero =>
    intro j
    unfold prt
    split <;> decide
  | succ n ih =>
    intro j
    have e : (20 : Int) ^ (n + 1) = 20 * 20 ^ n := by rw [Int.pow_succ, Int.mul_comm]
    have hp : (0 : Int) ≤ 20 ^ n := Int.le_of_lt (Int.pow_pos (by decide))
    rw [e]
    unfold prt nxt
    generalize (20 : Int) ^ n = B at ih hp
    split
    · have a := mul_b (t := 10 - t) (by omega) (by omega) (ih (j + 1)).1 (ih (j + 1)).2
      have b := mul_b (t := 10 - u) (by omega) (by omega) (ih j).1 (ih j).2
      omega
    · split
      · have a := mul_b t0 t1 (ih (j - 2)).1 (ih (j - 2)).2
        have b := mul_b u0 u1 (ih (j - 3)).1 (ih (j - 3)).2
        omega
      · omega
theorem m_lowest {p : Int} (p0 : 0 ≤ p) (p1 : p ≤ 1) (a b : Nat) (ha : a < 2 ^ 60) (hb0 : 0 < b) (hb : b < 2 ^ 60) : f_X7_lowest (zL a) (zL b) (zI p) = some (zL (if p = 0 then ((a / Nat.gcd a b : Nat) : Int) else ((b / Nat.gcd a b : Nat) : Int))) := by
  unfold f_X7_lowest
  refine lp_en (fun s : Nat × Nat => (zL s.1, zL s.2)) (fun _ _ => some (zL (if p = 0 then ((a / Nat.gcd a b : Nat) : Int) else ((b / Nat.gcd a b : Nat) : Int)))) (fun N s => s.1 < N ∧ s.1 < 2 ^ 60 ∧ s.2 < 2 ^ 60 ∧ Nat.gcd s.1 s.2 = Nat.gcd a b) (fun s => by omega) ?_ 1152921504606846976 (a, b) ⟨by dsimp only; omega, ha, hb, rfl⟩
  rintro again N ⟨x, y⟩ ⟨h0, h1, h2, h3⟩ ih
  dsimp only at h0 h1 h2 h3 ⊢
  have hg : 0 < Nat.gcd a b := Nat.gcd_pos_of_pos_right _ hb0
  unfold b_X7_lowest_6
  dsimp only
  rw [zl_0]
  by_cases c : x = 0
  · subst c
    rw [Nat.gcd_zero_left] at h3
    subst h3
    rw [if_pos (show lg_cmp (zL ((0 : Nat) : Int)) (zL 0) = 0 from (lg_cmp_eq _ _).mpr rfl)]
    by_cases cp : p = 0
    · rw [if_pos cp, if_pos (by rw [cp]; decide), s_nzL (by omega) (by omega) (by omega), zl_div (by omega) (by omega) (by omega) (by omega)]
      rfl
    · rw [if_neg cp, if_neg (by rw [z_0, z_eq (by omega) (by omega) (by omega) (by omega)]; exact cp), s_nzL (by omega) (by omega) (by omega), zl_div (by omega) (by omega) (by omega) (by omega)]
      rfl
  · rw [if_neg (fun z => c (by have := (zl_eq (by omega) (by omega) (by omega) (by omega)).mp ((lg_cmp_eq _ _).mp z); omega)), s_nzL (by omega) (by omega) (by omega), zl_rem (by omega) (by omega) (by omega) (by omega), s_bd]
    have e : ((y : Int) % (x : Int)) = ((y % x : Nat) : Int) := rfl
    rw [e]
    have hlt := Nat.mod_lt y (Nat.pos_of_ne_zero c)
    refine ih (y % x, x) ⟨by dsimp only; omega, by dsimp only; omega, by dsimp only; omega, ?_⟩
    dsimp only
    rw [← h3, ← Nat.gcd_rec]

def one (P : Int → Int) (k w i : Int) : Int := if w = 2 then i * (P (2 * i) + P (2 * i + 1)) else if w = 0 then (if i = k then P (2 * i) + P (2 * i + 1) else 0) else (if i < k then 0 else P (2 * i) + P (2 * i + 1))
def sumM (P : Int → Int) (n k w : Int) : Nat → Int → Int → Int
  | 0, _, s => s
  | N + 1, i, s => if n < i then s else sumM P n k w N (i + 1) (s + one P k w i)
theorem one_b {P : Int → Int} {B : Int} (hP : ∀ j, 0 ≤ P j ∧ P j ≤ B) {k w i : Int} (i0 : 0 ≤ i) (i1 : i ≤ 10) : 0 ≤ one P k w i ∧ one P k w i ≤ 20 * B := by
  have a := hP (2 * i)
  have b := hP (2 * i + 1)
  have h := mul_b i0 i1 (p := P (2 * i) + P (2 * i + 1)) (B := 2 * B) (by omega) (by omega)
  unfold one
  split
  · omega
  · split <;> split <;> omega
theorem sumM_b {P : Int → Int} {B : Int} (hP : ∀ j, 0 ≤ P j ∧ P j ≤ B) {n k w : Int} (n1 : n ≤ 10) : ∀ (N : Nat) (i s : Int), 0 ≤ i → 0 ≤ s → 0 ≤ sumM P n k w N i s ∧ sumM P n k w N i s ≤ s + 20 * B * N := by
  have hB : 0 ≤ B := by have := hP 0; omega
  intro N
  induction N with
  | zero => intro i s _ hs; exact ⟨hs, by show s ≤ _; simp⟩
  | succ N ih =>
    intro i s h0 hs
    unfold sumM
    have e : 20 * B * ((N + 1 : Nat) : Int) = 20 * B * (N : Int) + 20 * B := by
      rw [Int.natCast_add, Int.mul_add]; simp
    have hm : 0 ≤ 20 * B * (N : Int) := Int.mul_nonneg (by omega) (by omega)
    rw [e]
    by_cases c : n < i
    · rw [if_pos c]; omega
    · rw [if_neg c]
      have h1 := one_b hP (k := k) (w := w) (i := i) h0 (by omega)
      have := ih (i + 1) (s + one P k w i) (by omega) (by omega)
      omega
/-- the sum needs no more fuel than it has turns -/
theorem sumM_f {P : Int → Int} {n k w : Int} : ∀ (N M : Nat) (i s : Int), (n + 1 - i).toNat ≤ N → (n + 1 - i).toNat ≤ M → sumM P n k w N i s = sumM P n k w M i s := by
  intro N
  induction N with
  | zero =>
    intro M i s h1 h2
    cases M with
    | zero => rfl
    | succ M =>
      show s = sumM P n k w (M + 1) i s
      unfold sumM
      rw [if_pos (by omega)]
  | succ N ih =>
    intro M i s h1 h2
    cases M with
    | zero =>
      show sumM P n k w (N + 1) i s = s
      unfold sumM
      rw [if_pos (by omega)]
    | succ M =>
      unfold sumM
      by_cases c : n < i
      · rw [if_pos c, if_pos c]
      · rw [if_neg c, if_neg c]
        exact ih M (i + 1) _ (by omega) (by omega)
def rowS (n t u k w : Int) : Int := sumM (prt t u n.toNat) n k w 20 0 0
theorem rowS_b {n t u k w : Int} (n0 : 0 ≤ n) (n1 : n ≤ 10) (t0 : 0 ≤ t) (t1 : t ≤ 10) (u0 : 0 ≤ u) (u1 : u ≤ 10) : 0 ≤ rowS n t u k w ∧ rowS n t u k w < 2 ^ 60 := by
  have h := prt_b t0 t1 u0 u1 n.toNat
  have hp : (20 : Int) ^ n.toNat ≤ 20 ^ 10 := by
    have := Nat.pow_le_pow_right (n := 20) (by decide) (show n.toNat ≤ 10 by omega)
    exact_mod_cast this
  have hb := sumM_b (P := prt t u n.toNat) (B := 20 ^ 10) (fun j => ⟨(h j).1, Int.le_trans (h j).2 hp⟩) (n := n) (k := k) (w := w) n1 20 0 0 (by omega) (by omega)
  unfold rowS
  refine ⟨hb.1, ?_⟩
  have e : (0 : Int) + 20 * 20 ^ 10 * ((20 : Nat) : Int) < 2 ^ 60 := by decide
  omega
def rowA (n t u k w q : Int) : Int := if q = 0 then (((rowS n t u k w).toNat / Nat.gcd (rowS n t u k w).toNat (10 ^ n.toNat) : Nat) : Int) else (((10 ^ n.toNat : Nat) / Nat.gcd (rowS n t u k w).toNat (10 ^ n.toNat) : Nat) : Int)
theorem v_isRow (n t u k : Int32) : f_X7_isRow n t u k = some (zI (if 0 ≤ n.toInt ∧ n.toInt ≤ 10 ∧ 0 ≤ t.toInt ∧ t.toInt ≤ 10 ∧ 0 ≤ u.toInt ∧ u.toInt ≤ 10 ∧ 0 ≤ k.toInt ∧ k.toInt ≤ n.toInt then 1 else 0)) := by
  unfold f_X7_isRow
  rw [zl_0, zl_10, v_in n (by omega) (by omega) (by omega) (by omega), v_in t (by omega) (by omega) (by omega) (by omega), v_in u (by omega) (by omega) (by omega) (by omega), s_cl]
  by_cases c1 : 0 ≤ n.toInt ∧ n.toInt ≤ 10
  · rw [if_pos c1, if_neg (by decide), s_cl]
    by_cases c2 : 0 ≤ t.toInt ∧ t.toInt ≤ 10
    · rw [if_pos c2, if_neg (by decide), s_cl]
      by_cases c3 : 0 ≤ u.toInt ∧ u.toInt ≤ 10
      · obtain ⟨m, m0, m1, rfl⟩ : ∃ m, 0 ≤ m ∧ m ≤ 10 ∧ n = zI m := ⟨n.toInt, c1.1, c1.2, (Int32.ofInt_toInt n).symm⟩
        rw [z_toInt (by omega) (by omega)] at c1 ⊢
        rw [if_pos c3, if_neg (by decide), z_l (by omega) (by omega), v_in k (by omega) (by omega) (by omega) (by omega), s_cl]
        by_cases c4 : 0 ≤ k.toInt ∧ k.toInt ≤ m
        · rw [if_pos c4, if_neg (by decide), if_pos (by omega)]; rfl
        · rw [if_neg c4, if_pos (by decide), if_neg (by omega)]; rfl
      · rw [if_neg c3, if_pos (by decide), if_neg (by omega)]; rfl
    · rw [if_neg c2, if_pos (by decide), if_neg (by omega)]; rfl
  · rw [if_neg c1, if_pos (by decide), if_neg (by omega)]; rfl

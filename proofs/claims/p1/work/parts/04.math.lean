/-! plain facts on numbers: houses in a row, lowest terms, embers -/
/-- who believes, by how many do: the last one does, the last one does not -/
def wDN (t u : Nat) : Nat → (Nat → Nat) × (Nat → Nat)
  | 0 => (fun m => if m = 0 then 1 else 0, fun _ => 0)
  | h + 1 => (fun m => if m = 0 then 0 else (wDN t u h).1 (m - 1) * t + (wDN t u h).2 (m - 1) * u, fun m => (wDN t u h).1 m * (10 - t) + (wDN t u h).2 m * (10 - u))
def cD (t u h : Nat) : Nat → Int64 := fun j => lN ((wDN t u h).1 j)
def cN (t u h : Nat) : Nat → Int64 := fun j => lN ((wDN t u h).2 j)
theorem cD_0 {t u : Nat} : ∀ j, j < 11 → vp_updL (fun _ => 0) (0 : Int32).toNatClampNeg 1 j = cD t u 0 j := by
  intro j _
  show (if j = (0 : Int32).toNatClampNeg then (1 : Int64) else 0) = lN (if j = 0 then 1 else 0)
  by_cases h : j = 0
  · rw [if_pos (by rw [h]; rfl), if_pos h]; rfl
  · rw [if_neg (by exact h), if_neg h]; rfl
theorem cN_0 {t u : Nat} : ∀ j, j < 11 → (0 : Int64) = cN t u 0 j := fun _ _ => rfl
/-- from b on the new row, ahead of it the old one -/
def mxG {α : Type} (f f0 : Nat → α) (b : Nat) : Nat → α := fun j => if b ≤ j then f j else f0 j
theorem mx_11 {α : Type} {f f0 : Nat → α} : ∀ j, j < 11 → f0 j = mxG f f0 11 j := fun j h => by unfold mxG; rw [if_neg (by omega)]
theorem mx_0 {α : Type} {f f0 : Nat → α} : ∀ j, j < 11 → mxG f f0 0 j = f j := fun j _ => by unfold mxG; rw [if_pos (Nat.zero_le _)]
theorem mx_old {f f0 : Nat → Int64} {b j : Nat} {k : Int32} {v : Int64} (hk : k.toNatClampNeg = j) (h : j < b) (hv : f0 j = v) : mxG f f0 b k.toNatClampNeg = v := by
  rw [hk]; unfold mxG; rw [if_neg (by omega), hv]
theorem mx_s {f f0 : Nat → Int64} {b n : Nat} {k : Int32} {x : Int64} (hk : k.toNatClampNeg = b) (hx : x = f b) : ∀ j, j < n → vp_updL (mxG f f0 (b + 1)) k.toNatClampNeg x j = mxG f f0 b j := by
  intro j _
  rw [hk]
  unfold vp_updL mxG
  by_cases e : j = b
  · rw [if_pos e, if_pos (by omega), hx, e]
  · rw [if_neg e]
    by_cases h : b + 1 ≤ j
    · rw [if_pos h, if_pos (by omega)]
    · rw [if_neg h, if_neg (by omega)]
def wtF (t u n m : Nat) : Nat := (wDN t u n).1 m + (wDN t u n).2 m
def ruS (t u n k w : Nat) : Nat → Nat
  | 0 => 0
  | m + 1 => ruS t u n k w m + (if w = 2 then m * wtF t u n m else if m = k ∨ (w = 1 ∧ k < m) then wtF t u n m else 0)
theorem ru_2 {t u n k w m : Nat} (h : w = 2) : ruS t u n k w m + m * wtF t u n m = ruS t u n k w (m + 1) := by
  show _ = ruS t u n k w m + _
  rw [if_pos h]
theorem ru_a {t u n k w m : Nat} (h : ¬ w = 2) (h1 : m = k ∨ (w = 1 ∧ k < m)) : ruS t u n k w m + wtF t u n m = ruS t u n k w (m + 1) := by
  show _ = ruS t u n k w m + _
  rw [if_neg h, if_pos h1]
theorem ru_n {t u n k w m : Nat} (h : ¬ w = 2) (h1 : ¬ (m = k ∨ (w = 1 ∧ k < m))) : ruS t u n k w m = ruS t u n k w (m + 1) := by
  show _ = ruS t u n k w m + _
  rw [if_neg h, if_neg h1]; rfl
theorem wDN_le {t u : Nat} (ht : t ≤ 10) (hu : u ≤ 10) : ∀ h m, (wDN t u h).1 m ≤ 20 ^ h ∧ (wDN t u h).2 m ≤ 20 ^ h := by
  intro h
  induction h with
  | zero =>
    intro m
    refine ⟨?_, Nat.zero_le _⟩
    show (if m = 0 then 1 else 0) ≤ 1
    by_cases e : m = 0
    · rw [if_pos e]; exact Nat.le_refl 1
    · rw [if_neg e]; exact Nat.zero_le 1
  | succ h ih =>
    intro m
    have z : 20 ^ (h + 1) = 20 ^ h * 20 := Nat.pow_succ ..
    refine ⟨?_, ?_⟩
    · show (if m = 0 then 0 else (wDN t u h).1 (m - 1) * t + (wDN t u h).2 (m - 1) * u) ≤ _
      by_cases e : m = 0
      · rw [if_pos e]; exact Nat.zero_le _
      · rw [if_neg e]
        have a := Nat.mul_le_mul (ih (m - 1)).1 ht
        have b := Nat.mul_le_mul (ih (m - 1)).2 hu
        omega
    · show (wDN t u h).1 m * (10 - t) + (wDN t u h).2 m * (10 - u) ≤ _
      have a := Nat.mul_le_mul (ih m).1 (show 10 - t ≤ 10 by omega)
      have b := Nat.mul_le_mul (ih m).2 (show 10 - u ≤ 10 by omega)
      omega
theorem wt_le {t u n m : Nat} (ht : t ≤ 10) (hu : u ≤ 10) (hn : n ≤ 10) : wtF t u n m ≤ 2 * 20 ^ 10 := by
  have a := wDN_le ht hu n m
  have b : 20 ^ n ≤ 20 ^ 10 := Nat.pow_le_pow_right (by decide) hn
  unfold wtF
  omega
theorem ru_le {t u n k w : Nat} (ht : t ≤ 10) (hu : u ≤ 10) (hn : n ≤ 10) : ∀ m, m ≤ 11 → ruS t u n k w m ≤ m * (11 * (2 * 20 ^ 10)) := by
  intro m
  induction m with
  | zero => intro _; exact Nat.zero_le _
  | succ m ih =>
    intro hm
    have a := ih (by omega)
    have b := wt_le (t := t) (u := u) (n := n) (m := m) ht hu hn
    have d : m * wtF t u n m ≤ 11 * (2 * 20 ^ 10) := Nat.mul_le_mul (by omega) b
    show ruS t u n k w m + _ ≤ _
    have e : (if w = 2 then m * wtF t u n m else if m = k ∨ (w = 1 ∧ k < m) then wtF t u n m else 0) ≤ 11 * (2 * 20 ^ 10) := by
      (repeat' split) <;> omega
    rw [Nat.succ_mul]
    omega
theorem ru_lt {t u n k w : Nat} (ht : t ≤ 10) (hu : u ≤ 10) (hn : n ≤ 10) : ruS t u n k w 11 < 2 ^ 60 := by
  have := ru_le (k := k) (w := w) ht hu hn 11 (Nat.le_refl _)
  have z : 11 * (11 * (2 * 20 ^ 10)) < 2 ^ 60 := by decide
  omega
theorem p10_lt {n : Nat} (hn : n ≤ 10) : 10 ^ n < 2 ^ 60 := Nat.lt_of_le_of_lt (Nat.pow_le_pow_right (by decide) hn) (by decide)
/-- what holds on the way to lowest terms -/
def cpI (i x y : Nat) : Prop := y = 0 ∨ i = 0 ∨ (y < x ∧ x * y * 2 ^ i ≤ 2 ^ 121)
theorem cpI_s {i x y : Nat} (hx : x < 2 ^ 60) (hy : y < 2 ^ 60) (h0 : y ≠ 0) (h : cpI i x y) : cpI (i + 1) y (x % y) := by
  have h1 : x % y < y := Nat.mod_lt _ (by omega)
  refine Or.inr (Or.inr ⟨h1, ?_⟩)
  rcases h with h | h | ⟨h2, h3⟩
  · exact absurd h h0
  · subst h
    have a : y * (x % y) ≤ 2 ^ 60 * 2 ^ 60 := Nat.mul_le_mul (by omega) (by omega)
    have b : (2 : Nat) ^ (0 + 1) = 2 := rfl
    have c : (2 : Nat) ^ 60 * 2 ^ 60 = 2 ^ 120 := by decide
    have d : (2 : Nat) ^ 121 = 2 ^ 120 * 2 := by decide
    rw [b, d]
    exact Nat.mul_le_mul (by rw [← c]; exact a) (Nat.le_refl 2)
  · have a : 2 * (x % y) ≤ x := by
      have q1 : 1 ≤ x / y := (Nat.le_div_iff_mul_le (by omega)).mpr (by omega)
      have q2 := Nat.div_add_mod x y
      have q3 : y * 1 ≤ y * (x / y) := Nat.mul_le_mul (Nat.le_refl y) q1
      omega
    have b : y * (2 * (x % y)) ≤ y * x := Nat.mul_le_mul (Nat.le_refl y) a
    have c : y * (x % y) * 2 ^ (i + 1) = y * (2 * (x % y)) * 2 ^ i := by
      rw [Nat.pow_succ, Nat.mul_comm 2 (x % y), ← Nat.mul_assoc, Nat.mul_assoc (y * (x % y)) (2 ^ i) 2, Nat.mul_comm (2 ^ i) 2, ← Nat.mul_assoc, Nat.mul_assoc y (x % y) 2]
    rw [c]
    exact Nat.le_trans (Nat.mul_le_mul b (Nat.le_refl _)) (by rw [Nat.mul_comm y x]; exact h3)
theorem cpI_e {i x y : Nat} (hi : 1000 ≤ i) (h : cpI i x y) : y = 0 := by
  rcases h with h | h | ⟨h2, h3⟩
  · exact h
  · omega
  · by_cases h0 : y = 0
    · exact h0
    · exfalso
      have a : 1 ≤ x * y := Nat.mul_pos (by omega) (by omega)
      have b : 1 * 2 ^ i ≤ x * y * 2 ^ i := Nat.mul_le_mul a (Nat.le_refl _)
      have c : (2 : Nat) ^ 122 ≤ 2 ^ i := Nat.pow_le_pow_right (by decide) (by omega)
      have d : (2 : Nat) ^ 121 < 2 ^ 122 := by decide
      omega
theorem gcd_s {x y a b : Nat} (h : Nat.gcd x y = Nat.gcd a b) : Nat.gcd y (x % y) = Nat.gcd a b := by
  rw [← h, Nat.gcd_comm x y, Nat.gcd_rec y x, Nat.gcd_comm]
theorem lg_0 {y : Nat} (hy : y < 2 ^ 60) (h : lg_cmp (lN y) 0 = 0) : y = 0 := by
  have e : lN y = lN 0 := by
    unfold lg_cmp at h
    by_cases h1 : (0 : Int64) < lN y
    · rw [if_pos h1] at h; exact absurd h (by decide)
    · rw [if_neg h1] at h
      by_cases h2 : lN y = 0
      · exact h2
      · rw [if_neg h2] at h; exact absurd h (by decide)
  exact (pk_lEQ (by omega) (by decide)).mp e
theorem lg_n {y : Nat} (h : ¬ lg_cmp (lN y) 0 = 0) : y ≠ 0 := by
  rintro rfl
  exact h (by decide)
theorem lg_p {y : Nat} (hy : y < 2 ^ 60) (h : 0 < y) : lg_cmp (lN y) 0 = 1 := by
  have e : (0 : Int64) < lN y := (pk_lLT (a := 0) (b := y) (by decide) (by omega)).mpr h
  unfold lg_cmp
  rw [if_pos e]
theorem lN_ne0 {y : Nat} (hy : y < 2 ^ 60) (h : y ≠ 0) : ¬ lN y = 0 := fun z => h ((pk_lEQ (a := y) (b := 0) (by omega) (by decide)).mp z)
def rowF (n t u k w q : Nat) : Nat := (if q = 0 then ruS t u n k w 11 else 10 ^ n) / Nat.gcd (ruS t u n k w 11) (10 ^ n)
/-- the least that wins of so many embers, or all of them -/
def tkL : List Nat := [0, 1, 2, 3, 1, 5, 1, 2, 8, 1, 2, 3, 1, 13, 1, 2, 3, 1, 5, 1, 2, 21, 1, 2, 3, 1, 5, 1, 2, 8, 1, 2, 3, 1, 34, 1, 2, 3, 1, 5, 1, 2, 8, 1, 2, 3, 1, 13, 1, 2, 3, 1, 5, 1, 2, 55, 1, 2, 3, 1, 5]
def tkN (j : Nat) : Nat := tkL.getD j 0
def tkV : Nat → Int32 := fun j => nI (tkN j)
theorem tk_k {e k : Nat} (he : e ≤ 60) (hk : 1 ≤ k) (hke : k < e) (h : k ≤ tkN e) : 2 * k < tkN (e - k) ↔ k = tkN e := by
  have z : ∀ e, e < 61 → ∀ k, k < e → 1 ≤ k → k ≤ tkN e → (2 * k < tkN (e - k) ↔ k = tkN e) := by decide +kernel
  exact z e (by omega) k hke hk h
theorem tk_le {e : Nat} (he : e ≤ 60) : tkN e ≤ e := by
  have z : ∀ e, e < 61 → tkN e ≤ e := by decide +kernel
  exact z e (by omega)
theorem tk_1 {e : Nat} (he : e ≤ 60) (h1 : 1 ≤ e) : 1 ≤ tkN e := by
  have z : ∀ e, e < 61 → 1 ≤ e → 1 ≤ tkN e := by decide +kernel
  exact z e (by omega) h1
theorem tk_0 : ∀ j, j < 61 → (0 : Int32) = fF (fun _ => 0) tkV 1 j := by decide +kernel
def emF (n : Nat) (w : Nat) : Int32 := if w = 1 then (if tkN n < n then nI (tkN n) else -6) else if tkN n < n then 1 else 0
theorem bF {b : Bool} (h : b = false) : ¬ b = true := by rw [h]; decide
def mkE (l : List (List Nat)) : Nat → Nat → Nat := fun i j => (l.getD i []).getD j 0
theorem fdF_in {x : Int32} (h : inB x 0 9 = true) : fdF (fun j => nI j) x = x := by
  obtain ⟨j, hj, rfl⟩ := inB_nat (N := 10) (by decide) h
  exact fdF_nI hj
def roadF (x y z : Int32) : Int32 := if inB x 0 10 = true then (if inB y 0 10 = true then (if x = y then -1 else if inB z 0 9 = true then 0 else -2) else -1) else -1
def houseF (x y z : Int32) : Int32 := if inB x 0 9 = true then (if inB y 0 9 = true then (if inB z 0 1 = true then 5 else -2) else -2) else -1
def tellF (x y : Int32) : Int32 := if inB x 0 9 = true then (if inB y 0 9 = true then -6 else if y = -1 then -6 else -1) else -1
def fadeF (x y : Int32) : Int32 := if inB x 0 9 = true then (if inB y 0 9 = true then x else -1) else -1
def sayF (x : Int32) : Int32 := if inB x 33 126 = true then 1 else -2
def judgeF (x : Int32) : Int32 := if inB x 0 2 = true then (if x = 0 then -6 else if x = 1 then -6 else 0) else -2
def behindF (x y : Int32) : Int32 := if inB x 0 9 = true then (if inB y 0 2 = true then (if y = 0 then -6 else if y = 1 then 5 else 0) else -2) else -1
def panF (x : Int32) : Int32 := if inB x 0 3 = true then (if x = 0 then 10 else 0) else -2
def holdsF (x : Int32) : Int32 := if inB x 0 9 = true then 0 else -1
def otherF (x : Int32) : Int32 := if inB x 0 1 = true then -6 else -2
def nearF (x y z : Int32) : Int32 := if inB x 0 10 = true then (if inB y 0 10 = true then (if inB z 0 1 = true then (if z = 0 then (if x = y then 0 else -6) else -6) else -2) else -1) else -1
def roundF (x y : Int32) : Int32 := if inB x 0 99 = true then (if inB y 0 1 = true then 0 else -2) else -2
def keepF (x y : Int32) : Int32 := if inB x 0 9 = true then (if inB y 0 1 = true then 0 else -2) else -1
def fadedF (x y : Int32) : Int32 := if inB x 0 9 = true then (if inB y (-2) 99 = true then (if y < 0 then 1 else x) else -2) else -1
def seenF (x y : Int32) : Int32 := if inB y 0 9 = true then (if inB x 0 40 = true then 1 else -2) else -1
def fitsF (x : Int32) : Int32 := if x = -1 then 50 else pkF x
def askF (x : Int32) : Int32 := if inB x 0 1 = true then (if x = 0 then 0 else 5) else -2
def rowG (n t u k w q : Int32) : Int64 := if inB n 0 10 = true then (if inB t 0 10 = true then (if inB u 0 10 = true then (if inB k 0 n = true then (if inB w 0 2 = true then (if inB q 0 1 = true then lN (rowF n.toNatClampNeg t.toNatClampNeg u.toNatClampNeg k.toNatClampNeg w.toNatClampNeg q.toNatClampNeg) else -1000000000000000002) else -1000000000000000002) else -1000000000000000002) else -1000000000000000002) else -1000000000000000002) else -1000000000000000002
def embersF (x y : Int32) : Int32 := if inB x 1 60 = true then (if inB y 0 1 = true then emF x.toNatClampNeg y.toNatClampNeg else -2) else -2
def yearF (x y z : Int32) : Int32 := if inB x 0 9999 = true then (if inB y 1 99 = true then (if inB z 0 2 = true then (if z = 0 then 0 else if z = 1 then 0 else 50) else -2) else -2) else -2
def imageF (x : Int32) : Int32 := if inB x 0 1 = true then 1 else -2
def restoreF (x : Int32) : Int32 := if inB x 0 1 = true then -3 else -2
theorem inB1_nat {v hi : Int32} {N : Nat} (hN : hi.toInt + 1 = N) (h : inB v 1 hi = true) : ∃ j : Nat, 1 ≤ j ∧ j < N ∧ v = nI j := by
  obtain ⟨h1, h2⟩ := inB_iff.mp h
  have e1 : (1 : Int32).toInt = 1 := rfl
  have h3 : ¬ v < 0 := by
    rw [Int32.lt_iff_toInt_lt]
    have e0 : (0 : Int32).toInt = 0 := rfl
    omega
  obtain ⟨j, hj, rfl⟩ := nI_of h3
  rw [nI_toInt hj] at h1 h2
  exact ⟨j, by omega, by omega, rfl⟩
theorem inB_in1 {j N : Nat} {hi : Int32} (hN : hi.toInt + 1 = N) (h1 : 1 ≤ j) (hj : j < N) : inB (nI j) 1 hi = true := by
  have hb : j < 2 ^ 31 := by
    have := Int32.toInt_lt hi
    omega
  rw [inB_iff, nI_toInt hb]
  have e1 : (1 : Int32).toInt = 1 := rfl
  omega
theorem pf_fresh (x : Int32) : pfF iC0 x = if x = 0 then 10 else 0 := by
  unfold pfF
  by_cases h : x = 0
  · rw [if_pos h, if_pos h]; rfl
  · rw [if_neg h, if_neg h]
    by_cases h1 : x = 1
    · rw [if_pos h1]; rfl
    · rw [if_neg h1]
      by_cases h2 : x = 2
      · rw [if_pos h2]; rfl
      · rw [if_neg h2]; rfl
theorem nr_eq {i j : Nat} (hi : i < 11) (hj : j < 11) : nrF i j = if nI i = nI j then 0 else -6 := by
  unfold nrF
  by_cases h : i = j
  · rw [if_pos h, if_pos (by rw [h])]
  · rw [if_neg h, if_neg (fun z => h ((nI_eq (by omega) (by omega)).mp z))]
theorem inBn_nat {v w : Int32} {n : Nat} (hn : n < 2 ^ 31) (hw : w = nI n) (h : inB v 0 w = true) : ∃ j : Nat, j < n + 1 ∧ v = nI j := by
  subst hw
  exact inB_nat (N := n + 1) (by rw [nI_toInt hn]; rfl) h
theorem inBk_nat {v lo hi : Int32} {a N : Nat} (ha : lo.toInt = a) (hN : hi.toInt + 1 = N) (h : inB v lo hi = true) : ∃ j : Nat, a ≤ j ∧ j < N ∧ v = nI j := by
  obtain ⟨h1, h2⟩ := inB_iff.mp h
  have h3 : ¬ v < 0 := by
    rw [Int32.lt_iff_toInt_lt]
    have e0 : (0 : Int32).toInt = 0 := rfl
    omega
  obtain ⟨j, hj, rfl⟩ := nI_of h3
  rw [nI_toInt hj] at h1 h2
  exact ⟨j, by omega, by omega, rfl⟩
theorem inB_nIk {j a N : Nat} {lo hi : Int32} (ha : lo.toInt = a) (hN : hi.toInt + 1 = N) (hj : j < 2 ^ 31) : inB (nI j) lo hi = decide (a ≤ j ∧ j < N) := by
  have e := nI_toInt hj
  by_cases h : a ≤ j ∧ j < N
  · rw [decide_eq_true h, inB_iff, e]
    omega
  · rw [decide_eq_false h]
    cases z : inB (nI j) lo hi with
    | false => rfl
    | true =>
      have := inB_iff.mp z
      rw [e] at this
      omega
theorem gcd_lt {a b : Nat} (hb : b < 2 ^ 60) (h0 : 0 < b) : Nat.gcd a b < 2 ^ 60 := Nat.lt_of_le_of_lt (Nat.gcd_le_right a h0) hb
theorem gcd_p {a n : Nat} : 0 < Nat.gcd a (10 ^ n) := Nat.gcd_pos_of_pos_right _ (Nat.pow_pos (by decide))
theorem y01 {y : Int32} (h : inB y 0 1 = true) (h1 : ¬ y = 1) : y = 0 := by
  obtain ⟨j, hj, rfl⟩ := inB_nat (N := 2) (by decide) h
  have a : j ≠ 1 := fun z => h1 (by rw [z]; rfl)
  obtain rfl : j = 0 := by omega
  rfl
theorem em_0 {n : Nat} (hn : n ≤ 60) (h1 : 1 ≤ n) (h : emF n 1 = -6) : (0 : Int32) = emF n 0 := by
  have k : ∀ n, n < 61 → 1 ≤ n → emF n 1 = -6 → (0 : Int32) = emF n 0 := by decide +kernel
  exact k n (by omega) h1 h
theorem em_1 {n : Nat} (hn : n ≤ 60) (h1 : 1 ≤ n) (h : ¬ emF n 1 = -6) : (1 : Int32) = emF n 0 := by
  have k : ∀ n, n < 61 → 1 ≤ n → ¬ emF n 1 = -6 → (1 : Int32) = emF n 0 := by decide +kernel
  exact k n (by omega) h1 h
def tdH (v : Nat) : Int32 := if v % 10 ≤ 2 then (if v % 10 = 0 then -6 else if v % 10 = 1 then 5 else 0) else -2
def tdR (v : Nat) : Int32 := if (v - 1000) % 20 ≤ 10 then 0 else -2
def toldF (x : Int32) : Int32 := if x = 0 then 0 else if inB x 1 4 = true then pfF iC0 (x - 1) else if x = 5 then 0 else if inB x 10 19 = true then fdF (fun j => nI j) (x - 10) else if inB x 100 199 = true then tdH x.toNatClampNeg else if inB x 1000 1219 = true then tdR x.toNatClampNeg else -2
theorem td_h {v i : Nat} (hv : v < 200) (h : ¬ 2 < v % 10) : hfF (fun _ => 5) (fun _ => 0) (fun _ => -6) i (nI (v % 10)) = tdH v := by
  unfold hfF tdH
  have e2 : v % 10 ≤ 2 := by omega
  by_cases h0 : v % 10 = 0
  · rw [if_pos (show nI (v % 10) = 0 by rw [h0]; rfl), if_pos e2, if_pos h0]
  · have k0 : ¬ nI (v % 10) = 0 := fun z => h0 ((nI_eq (b := 0) (by omega) (by decide)).mp z)
    rw [if_neg k0, if_pos e2, if_neg h0]
    by_cases h1 : v % 10 = 1
    · rw [if_pos (show nI (v % 10) = 1 by rw [h1]; rfl), if_pos h1]
    · have k1 : ¬ nI (v % 10) = 1 := fun z => h1 ((nI_eq (b := 1) (by omega) (by decide)).mp z)
      rw [if_neg k1, if_neg h1]
      rfl

/-! plain facts for the reference, on: rounds, keeping, fading, said, rows, embers, years -/
def htG (b : Nat) : Nat → Int32 := fun e => if 10 ≤ e ∧ e < b then -6 else 0
theorem ht_0 {n : Nat} : ∀ e, e < n → (0 : Int32) = htG (10 * 1) e := by
  intro e _
  unfold htG
  rw [if_neg (by omega)]
theorem ht_v {b e : Nat} {k : Int32} (hk : k.toNatClampNeg = e) (h1 : 10 ≤ e) (h2 : e < b) : htG b k.toNatClampNeg = -6 := by
  rw [hk]; unfold htG; rw [if_pos ⟨h1, h2⟩]
theorem ht_s {s l n : Nat} {k : Int32} (hs : 1 ≤ s) (hk : k.toNatClampNeg = 10 * s + l) : ∀ e, e < n → upd (htG (10 * s + l)) k.toNatClampNeg (-6) e = htG (10 * s + (l + 1)) e := by
  intro e _
  rw [hk]
  unfold upd htG
  by_cases h : e = 10 * s + l
  · rw [if_pos h, if_pos (by omega)]
  · rw [if_neg h]
    by_cases h2 : 10 ≤ e ∧ e < 10 * s + l
    · rw [if_pos h2, if_pos (by omega)]
    · rw [if_neg h2, if_neg (by omega)]
theorem hr_set {s l : Nat} (hs : s < 1024) (hl : l < 10) (h : ((nI s >>> (nI l &&& 31)) &&& 1) = 1) : nI s &&& (((1 : Int32) <<< (nI l &&& 31)) ^^^ (-1)) = nI (s - 2 ^ l) := by
  have k : ∀ l, l < 10 → ∀ s, s < 1024 → ((nI s >>> (nI l &&& 31)) &&& 1) = 1 → nI s &&& (((1 : Int32) <<< (nI l &&& 31)) ^^^ (-1)) = nI (s - 2 ^ l) := by decide +kernel
  exact k l hl s hs h
theorem ls_110 {i : Nat} (hi : i < 10) : lsF (110 + i) = 1000 := ls_10 hi
theorem cool_h {t : Nat} (h : t < 100) : (if (1000 : Int32) < nI t then nI t - 1000 else 0) = 0 := by
  have k : ∀ t, t < 100 → (if (1000 : Int32) < nI t then nI t - 1000 else 0) = 0 := by decide +kernel
  exact k t h
theorem sh_K {j : Nat} (h : j < 10) : ((1024 : Int32) >>> (nI j &&& 31)) &&& 1 = 0 := by
  have k : ∀ j, j < 10 → ((1024 : Int32) >>> (nI j &&& 31)) &&& 1 = 0 := by decide +kernel
  exact k j h
/-- how many twos below i can have been said -/
def fcN (i : Nat) : Nat := 5 * (i / 10) + (if i % 10 ≤ 1 then 0 else if i % 10 ≤ 6 then i % 10 - 1 else 5)
theorem fit_iff {i : Nat} (hi : i < 100) : inB (nI (i % 10)) 1 5 = true ↔ 1 ≤ i % 10 ∧ i % 10 ≤ 5 := by
  rw [inB_nIk (a := 1) (N := 6) (by decide) (by decide) (by omega), decide_eq_true_iff]
  omega
theorem fc_t {i : Nat} (h : 1 ≤ i % 10 ∧ i % 10 ≤ 5) : fcN (i + 1) = fcN i + 1 := by
  unfold fcN
  have a : (i + 1) / 10 = i / 10 := by omega
  have b : (i + 1) % 10 = i % 10 + 1 := by omega
  rw [a, b, if_neg (by omega), if_pos (by omega)]
  by_cases c : i % 10 ≤ 1
  · rw [if_pos c]; omega
  · rw [if_neg c, if_pos (by omega)]; omega
theorem fc_n {i : Nat} (h : ¬ (1 ≤ i % 10 ∧ i % 10 ≤ 5)) : fcN i = fcN (i + 1) := by
  unfold fcN
  by_cases z : i % 10 = 0
  · have a : (i + 1) / 10 = i / 10 := by omega
    have b : (i + 1) % 10 = 1 := by omega
    rw [a, b, if_pos (by omega), if_pos (by omega)]
  · by_cases z9 : i % 10 = 9
    · have a : (i + 1) / 10 = i / 10 + 1 := by omega
      have b : (i + 1) % 10 = 0 := by omega
      rw [a, b, if_neg (by omega), if_neg (by omega), if_pos (by omega)]
      omega
    · have a : (i + 1) / 10 = i / 10 := by omega
      have b : (i + 1) % 10 = i % 10 + 1 := by omega
      rw [a, b, if_neg (by omega), if_neg (show ¬ i % 10 + 1 ≤ 1 by omega), if_neg (show ¬ i % 10 + 1 ≤ 6 by omega)]
      by_cases c : i % 10 ≤ 6
      · rw [if_pos c]; omega
      · rw [if_neg c]
theorem fc_d {i : Nat} (h : 1 ≤ i % 10 ∧ i % 10 ≤ 5) : fcN i / 5 = i / 10 := by
  unfold fcN
  by_cases c : i % 10 ≤ 1
  · rw [if_pos c]; omega
  · rw [if_neg c, if_pos (by omega)]; omega
theorem fc_m {i : Nat} (h : 1 ≤ i % 10 ∧ i % 10 ≤ 5) : fcN i % 5 = i % 10 - 1 := by
  unfold fcN
  by_cases c : i % 10 ≤ 1
  · rw [if_pos c]; omega
  · rw [if_neg c, if_pos (by omega)]; omega
theorem fc_lt {i : Nat} (hi : i < 100) (h : 1 ≤ i % 10 ∧ i % 10 ≤ 5) : fcN i < 50 := by
  have a := fc_d h
  omega
theorem ft_r {i : Nat} {x : Int32} (hi : i < 100) (h : 1 ≤ i % 10 ∧ i % 10 ≤ 5) (e : nI (fcN i) = x) : nI i = fitsF x := by
  subst e
  have a := fc_lt hi h
  unfold fitsF
  rw [if_neg (fun z => absurd (congrArg Int32.toInt z) (by rw [nI_toInt (by omega)]; have : (-1 : Int32).toInt = -1 := rfl; omega)), pkF_nI a]
  congr 1
  have b := fc_d h
  have c := fc_m h
  omega
theorem ft_50 {x : Int32} (e : x = -1) : nI (fcN 100) = fitsF x := by
  unfold fitsF
  rw [if_pos e]; rfl
theorem ft_no {x : Int32} (hq : ∀ q, q < fcN 100 → ¬ nI q = x) (e : ¬ x = -1) : (-6 : Int32) = fitsF x := by
  unfold fitsF
  rw [if_neg e]
  unfold pkF
  rw [if_neg]
  intro z
  obtain ⟨j, hj, rfl⟩ := inB_nat (N := 50) (by decide) z
  exact hq j (by have : fcN 100 = 50 := rfl; omega) rfl
theorem fc_inc {i : Nat} (h : 1 ≤ i % 10 ∧ i % 10 ≤ 5) : nI (fcN i) + Int32.ofInt 1 = nI (fcN (i + 1)) := by
  rw [fc_t h]; exact nI_1 _
theorem ms_a {k : Nat} (h : k % 5 + 1 ≤ msF k) : msF k = msF (k + 1) := by
  unfold msF at *
  by_cases c : k < 5
  · rw [if_pos c] at h; omega
  · rw [if_neg c, if_neg (by omega)]
theorem ms_b {k : Nat} (h : ¬ k % 5 + 1 ≤ msF k) : k % 5 + 1 = msF (k + 1) := by
  unfold msF at *
  by_cases c : k < 5
  · rw [if_pos c] at h
    by_cases d : k + 1 < 5
    · rw [if_pos d]; omega
    · rw [if_neg d]; omega
  · rw [if_neg c] at h; omega
theorem ms_le (k : Nat) : msF k ≤ 5 := by unfold msF; split <;> omega
/-- the row of the reference: not, does, by how many -/
def prF (t u h : Nat) : Nat → Int64 := fun e => if e % 2 = 1 then lN ((wDN t u h).1 (e / 2)) else lN ((wDN t u h).2 (e / 2))
def ptF (t u h a b : Nat) : Nat → Int64 := fun e => if e % 2 = 1 then (if e < 2 * a + 3 then lN ((wDN t u (h + 1)).1 (e / 2)) else 0) else (if e < 2 * b then lN ((wDN t u (h + 1)).2 (e / 2)) else 0)
theorem pr_o {t u h m : Nat} {k : Int32} (hk : k.toNatClampNeg = 2 * m + 1) : prF t u h k.toNatClampNeg = lN ((wDN t u h).1 m) := by
  rw [hk]; unfold prF; rw [if_pos (by omega), show (2 * m + 1) / 2 = m by omega]
theorem pr_e {t u h m : Nat} {k : Int32} (hk : k.toNatClampNeg = 2 * m) : prF t u h k.toNatClampNeg = lN ((wDN t u h).2 m) := by
  rw [hk]; unfold prF; rw [if_neg (by omega), show (2 * m) / 2 = m by omega]
theorem pt_0 {t u h n : Nat} : ∀ e, e < n → (0 : Int64) = ptF t u h 0 0 e := by
  intro e _
  unfold ptF
  by_cases a : e % 2 = 1
  · rw [if_pos a]
    by_cases b : e < 2 * 0 + 3
    · rw [if_pos b, show e / 2 = 0 by omega]; rfl
    · rw [if_neg b]
  · rw [if_neg a, if_neg (by omega)]
theorem pt_o0 {t u h m b : Nat} {k : Int32} (hk : k.toNatClampNeg = 2 * m + 3) : ptF t u h m b k.toNatClampNeg = 0 := by
  rw [hk]; unfold ptF; rw [if_pos (by omega), if_neg (by omega)]
theorem pt_e0 {t u h m a : Nat} {k : Int32} (hk : k.toNatClampNeg = 2 * m) : ptF t u h a m k.toNatClampNeg = 0 := by
  rw [hk]; unfold ptF; rw [if_neg (by omega), if_neg (by omega)]
theorem pt_so {t u h m b n : Nat} {k : Int32} (hk : k.toNatClampNeg = 2 * m + 3) : ∀ e, e < n → vp_updL (ptF t u h m b) k.toNatClampNeg (lN ((wDN t u (h + 1)).1 (m + 1))) e = ptF t u h (m + 1) b e := by
  intro e _
  rw [hk]
  unfold vp_updL ptF
  by_cases z : e = 2 * m + 3
  · rw [if_pos z, if_pos (by omega), if_pos (by omega), show e / 2 = m + 1 by omega]
  · rw [if_neg z]
    by_cases a : e % 2 = 1
    · rw [if_pos a, if_pos a]
      by_cases b : e < 2 * m + 3
      · rw [if_pos b, if_pos (by omega)]
      · rw [if_neg b, if_neg (by omega)]
    · rw [if_neg a, if_neg a]
theorem pt_se {t u h m a n : Nat} {k : Int32} (hk : k.toNatClampNeg = 2 * m) : ∀ e, e < n → vp_updL (ptF t u h a m) k.toNatClampNeg (lN ((wDN t u (h + 1)).2 m)) e = ptF t u h a (m + 1) e := by
  intro e _
  rw [hk]
  unfold vp_updL ptF
  by_cases z : e = 2 * m
  · rw [if_pos z, if_neg (by omega), if_pos (by omega), show e / 2 = m by omega]
  · rw [if_neg z]
    by_cases c : e % 2 = 1
    · rw [if_pos c, if_pos c]
    · rw [if_neg c, if_neg c]
      by_cases b : e < 2 * m
      · rw [if_pos b, if_pos (by omega)]
      · rw [if_neg b, if_neg (by omega)]
theorem wDN_0 {t u : Nat} : ∀ h m, (h < m → (wDN t u h).1 m = 0) ∧ (h ≤ m → (wDN t u h).2 m = 0) := by
  intro h
  induction h with
  | zero =>
    intro m
    refine ⟨fun q => ?_, fun _ => rfl⟩
    show (if m = 0 then 1 else 0) = 0
    rw [if_neg (by omega)]
  | succ h ih =>
    intro m
    refine ⟨fun q => ?_, fun q => ?_⟩
    · show (if m = 0 then 0 else (wDN t u h).1 (m - 1) * t + (wDN t u h).2 (m - 1) * u) = 0
      rw [if_neg (by omega), (ih (m - 1)).1 (by omega), (ih (m - 1)).2 (by omega)]
      omega
    · show (wDN t u h).1 m * (10 - t) + (wDN t u h).2 m * (10 - u) = 0
      rw [(ih m).1 (by omega), (ih m).2 (by omega)]
      omega
theorem pt_10 {t u h m : Nat} (hm : 10 ≤ m) (hh : h < 10) : ∀ e, e < 22 → ptF t u h m m e = prF t u (h + 1) e := by
  intro e he
  unfold ptF prF
  by_cases a : e % 2 = 1
  · rw [if_pos a, if_pos a, if_pos (by omega)]
  · rw [if_neg a, if_neg a]
    by_cases b : e < 2 * m
    · rw [if_pos b]
    · rw [if_neg b, (wDN_0 (h + 1) (e / 2)).2 (by omega)]; rfl
theorem pr_0 {t u : Nat} : ∀ e, e < 22 → vp_updL (fun _ => 0) (1 : Int32).toNatClampNeg 1 e = prF t u 0 e := by
  intro e _
  have k : (1 : Int32).toNatClampNeg = 1 := rfl
  rw [k]
  unfold vp_updL prF
  by_cases z : e = 1
  · subst z; rfl
  · rw [if_neg z]
    by_cases a : e % 2 = 1
    · rw [if_pos a, (wDN_0 0 (e / 2)).1 (by omega)]; rfl
    · rw [if_neg a]; rfl
theorem z_updL {n : Nat} {k : Int32} : ∀ e, e < n → vp_updL (fun _ => 0) k.toNatClampNeg 0 e = (fun _ => (0 : Int64)) e := by
  intro e _
  unfold vp_updL
  by_cases h : e = k.toNatClampNeg
  · rw [if_pos h]
  · rw [if_neg h]
theorem z_upd {n : Nat} {k : Int32} : ∀ e, e < n → upd (fun _ => 0) k.toNatClampNeg 0 e = (fun _ => (0 : Int32)) e := by
  intro e _
  unfold upd
  by_cases h : e = k.toNatClampNeg
  · rw [if_pos h]
  · rw [if_neg h]
theorem wd_1 {t u h m : Nat} : t * (wDN t u h).1 m + u * (wDN t u h).2 m = (wDN t u (h + 1)).1 (m + 1) := by
  show _ = (if m + 1 = 0 then 0 else (wDN t u h).1 (m + 1 - 1) * t + (wDN t u h).2 (m + 1 - 1) * u)
  rw [if_neg (by omega), Nat.add_sub_cancel, Nat.mul_comm t, Nat.mul_comm u]
theorem wd_2 {t u h m : Nat} : (10 - t) * (wDN t u h).1 m + (10 - u) * (wDN t u h).2 m = (wDN t u (h + 1)).2 m := by
  show _ = (wDN t u h).1 m * (10 - t) + (wDN t u h).2 m * (10 - u)
  rw [Nat.mul_comm (10 - t), Nat.mul_comm (10 - u)]
theorem ru_top {t u n k w : Nat} (hk : k ≤ n) : ∀ m, n + 1 ≤ m → ruS t u n k w m = ruS t u n k w (n + 1) := by
  intro m
  induction m with
  | zero => intro h; omega
  | succ m ih =>
    intro h
    by_cases e : m = n
    · rw [e]
    · have a := ih (by omega)
      have z : wtF t u n m = 0 := by
        unfold wtF
        rw [(wDN_0 n m).1 (by omega), (wDN_0 n m).2 (by omega)]
      show ruS t u n k w m + _ = _
      rw [a, z]
      (repeat' split) <;> omega
def isRowB (n t u k : Int32) : Bool := inB n 0 10 && inB t 0 10 && inB u 0 10 && inB k 0 n
theorem isRow_t {n t u k : Int32} (h : isRowB n t u k = true) : inB n 0 10 = true ∧ inB t 0 10 = true ∧ inB u 0 10 = true ∧ inB k 0 n = true := by
  unfold isRowB at h
  rw [Bool.and_eq_true, Bool.and_eq_true, Bool.and_eq_true] at h
  exact ⟨h.1.1.1, h.1.1.2, h.1.2, h.2⟩
theorem isRow_f {n t u k w q : Int32} (h : isRowB n t u k = false) : (-1000000000000000002 : Int64) = rowG n t u k w q := by
  unfold rowG
  by_cases a : inB n 0 10 = true
  · rw [if_pos a]
    by_cases b : inB t 0 10 = true
    · rw [if_pos b]
      by_cases c : inB u 0 10 = true
      · rw [if_pos c]
        by_cases d : inB k 0 n = true
        · exfalso
          unfold isRowB at h
          rw [a, b, c, d] at h
          exact absurd h (by decide)
        · rw [if_neg d]
      · rw [if_neg c]
    · rw [if_neg b]
  · rw [if_neg a]
/-- which handfuls win, by embers and the most that may be taken -/
def wnF : Nat → Int32 := fun e => bI (decide (1 ≤ e % 61 ∧ e % 61 ≤ e / 61 ∧ tkN (e / 61) ≤ e % 61))
def wpF (l k : Nat) : Nat → Int32 := fun e => if e / 61 < l ∨ (e / 61 = l ∧ e % 61 < k) then wnF e else 0
def moF (l k : Nat) : Nat := if 2 * k < l - k then 2 * k else l - k
def wbB (l k : Nat) : Bool := decide (k = l) || !decide (1 ≤ moF l k ∧ tkN (l - k) ≤ moF l k)
theorem wp_0 {n : Nat} : ∀ e, e < n → (0 : Int32) = wpF 0 0 e := by
  intro e _
  unfold wpF
  rw [if_neg (by omega)]
theorem wp_1 {l n : Nat} {k : Int32} (hk : k.toNatClampNeg = 61 * l) : ∀ e, e < n → upd (wpF l 0) k.toNatClampNeg (vp_nar .boolean 0) e = wpF l 1 e := by
  intro e _
  have z : vp_nar .boolean 0 = 0 := rfl
  rw [hk, z]
  unfold upd wpF
  by_cases a : e = 61 * l
  · rw [if_pos a, if_pos (by omega)]
    unfold wnF
    rw [decide_eq_false (by omega)]; rfl
  · rw [if_neg a]
    by_cases b : e / 61 < l ∨ (e / 61 = l ∧ e % 61 < 0)
    · rw [if_pos b, if_pos (by omega)]
    · rw [if_neg b, if_neg (by omega)]
theorem nar_bI (b : Bool) : vp_nar .boolean (bI b) = bI b := by cases b <;> rfl
theorem wp_s {l k n : Nat} {i x : Int32} (hi : i.toNatClampNeg = 61 * l + k) (hk : k < 61) (hx : x = wnF (61 * l + k)) : ∀ e, e < n → upd (wpF l k) i.toNatClampNeg (vp_nar .boolean x) e = wpF l (k + 1) e := by
  intro e _
  have z : vp_nar .boolean x = wnF (61 * l + k) := by rw [hx]; exact nar_bI _
  rw [hi, z]
  unfold upd wpF
  by_cases a : e = 61 * l + k
  · rw [if_pos a, if_pos (by omega), a]
  · rw [if_neg a]
    by_cases b : e / 61 < l ∨ (e / 61 = l ∧ e % 61 < k)
    · rw [if_pos b, if_pos (by omega)]
    · rw [if_neg b, if_neg (by omega)]
theorem wp_n {l n : Nat} (hl : l < 61) : ∀ e, e < n → wpF l (l + 1) e = wpF (l + 1) 0 e := by
  intro e _
  unfold wpF
  by_cases b : e / 61 < l ∨ (e / 61 = l ∧ e % 61 < l + 1)
  · rw [if_pos b, if_pos (by omega)]
  · rw [if_neg b]
    by_cases c : e / 61 < l + 1 ∨ (e / 61 = l + 1 ∧ e % 61 < 0)
    · rw [if_pos c]
      unfold wnF
      rw [decide_eq_false (by omega)]; rfl
    · rw [if_neg c]
theorem wp_v {l k e : Nat} {i : Int32} (hi : i.toNatClampNeg = e) (h : e / 61 < l ∨ (e / 61 = l ∧ e % 61 < k)) : wpF l k i.toNatClampNeg = wnF e := by
  rw [hi]; unfold wpF; rw [if_pos h]
theorem wn_v {l k : Nat} (hk : 1 ≤ k) (h : k ≤ l) (hl : l ≤ 60) : wnF (61 * l + k) = bI (decide (tkN l ≤ k)) := by
  unfold wnF
  rw [show (61 * l + k) / 61 = l by omega, show (61 * l + k) % 61 = k by omega]
  congr 1
  rw [decide_eq_decide]
  omega
theorem wn_s {l k : Nat} (hk : 1 ≤ k) (h : k ≤ l) (hl : l ≤ 60) : decide (tkN l ≤ k) = (decide (1 ≤ k - 1 ∧ tkN l ≤ k - 1) || wbB l k) := by
  have z : ∀ l, l < 61 → ∀ k, k < 61 → 1 ≤ k → k ≤ l → decide (tkN l ≤ k) = (decide (1 ≤ k - 1 ∧ tkN l ≤ k - 1) || wbB l k) := by decide +kernel
  exact z l (by omega) k (by omega) hk h
theorem wn_p {l k : Nat} (hk : 1 ≤ k) (h : k ≤ l) (hl : l ≤ 60) : wnF (61 * l + k - 1) = bI (decide (1 ≤ k - 1 ∧ tkN l ≤ k - 1)) := by
  unfold wnF
  rw [show (61 * l + k - 1) / 61 = l by omega, show (61 * l + k - 1) % 61 = k - 1 by omega]
  congr 1
  rw [decide_eq_decide]
  omega
theorem wn_1 {l k : Nat} (hk : 1 ≤ k) (h : k ≤ l) (hl : l ≤ 60) (c : decide (1 ≤ k - 1 ∧ tkN l ≤ k - 1) = true) : (1 : Int32) = wnF (61 * l + k) := by
  rw [wn_v hk h hl, wn_s hk h hl, c]; rfl
theorem wn_2 {l k : Nat} (hk : 1 ≤ k) (h : k ≤ l) (hl : l ≤ 60) (c : decide (1 ≤ k - 1 ∧ tkN l ≤ k - 1) = false) {b : Bool} (d : wbB l k = b) : bI b = wnF (61 * l + k) := by
  rw [wn_v hk h hl, wn_s hk h hl, c, d]; rfl
theorem wb_eq {l : Nat} : (1 : Int32) = bI (wbB l l) := by unfold wbB; rw [decide_eq_true rfl]; rfl
theorem wb_n {l k : Nat} (h : ¬ k = l) {b : Bool} (c : decide (1 ≤ moF l k ∧ tkN (l - k) ≤ moF l k) = b) : wbB l k = !b := by unfold wbB; rw [decide_eq_false h, c]; rfl
theorem mo_v {l k : Nat} (h1 : 1 ≤ k) (hk : k < l) (hl : l ≤ 60) : wnF (61 * (l - k) + moF l k) = bI (decide (1 ≤ moF l k ∧ tkN (l - k) ≤ moF l k)) := by
  have a : moF l k ≤ l - k := by unfold moF; split <;> omega
  unfold wnF
  rw [show (61 * (l - k) + moF l k) / 61 = l - k by omega, show (61 * (l - k) + moF l k) % 61 = moF l k by omega]
  congr 1
  rw [decide_eq_decide]
  omega
theorem mo_le {l k : Nat} : moF l k ≤ l - k := by unfold moF; split <;> omega
def fsR (n : Nat) : Nat → Int32
  | 0 => -6
  | j + 1 => if wbB n (n - 1 - j) = true then nI (n - 1 - j) else fsR n j
theorem fs_t {n d : Nat} (h1 : 1 ≤ d) (hd : d < n) (h : wbB n d = true) : nI d = fsR n (n - 1 - (d - 1)) := by
  rw [show n - 1 - (d - 1) = (n - 1 - d) + 1 by omega]
  show _ = if wbB n (n - 1 - (n - 1 - d)) = true then nI (n - 1 - (n - 1 - d)) else _
  rw [show n - 1 - (n - 1 - d) = d by omega, if_pos h]
theorem fs_f {n d : Nat} (h1 : 1 ≤ d) (hd : d < n) (h : wbB n d = false) : fsR n (n - 1 - d) = fsR n (n - 1 - (d - 1)) := by
  rw [show n - 1 - (d - 1) = (n - 1 - d) + 1 by omega]
  show _ = if wbB n (n - 1 - (n - 1 - d)) = true then nI (n - 1 - (n - 1 - d)) else _
  rw [show n - 1 - (n - 1 - d) = d by omega, if_neg (by rw [h]; decide)]
theorem fs_e {n : Nat} (h1 : 1 ≤ n) (hn : n ≤ 60) : fsR n (n - 1 - 0) = emF n 1 := by
  have k : ∀ n, n < 61 → 1 ≤ n → fsR n (n - 1 - 0) = emF n 1 := by decide +kernel
  exact k n (by omega) h1
theorem em_0n {n : Nat} (hn : n ≤ 60) (h1 : 1 ≤ n) (h : emF n 1 < 0) : (0 : Int32) = emF n 0 := by
  have k : ∀ n, n < 61 → 1 ≤ n → emF n 1 < 0 → (0 : Int32) = emF n 0 := by decide +kernel
  exact k n (by omega) h1 h
theorem em_1n {n : Nat} (hn : n ≤ 60) (h1 : 1 ≤ n) (h : ¬ emF n 1 < 0) : (1 : Int32) = emF n 0 := by
  have k : ∀ n, n < 61 → 1 ≤ n → ¬ emF n 1 < 0 → (1 : Int32) = emF n 0 := by decide +kernel
  exact k n (by omega) h1 h
def rmF (k : Nat) (ht mo : Int32) : Int32 := if k = 0 then 0 else if k = 1 then 2 else if k = 2 then 1 else if k = 3 then (if ht = 0 then 3 else 0) else (if mo = 99 then 4 else 0)
theorem rm_12 {k : Nat} {ht mo : Int32} (h : rmF k ht mo = 0) : k ≠ 1 ∧ k ≠ 2 := by
  constructor
  · rintro rfl
    exact absurd h (by show ¬ (2 : Int32) = 0; decide)
  · rintro rfl
    exact absurd h (by show ¬ (1 : Int32) = 0; decide)
theorem rm_c {k c : Nat} {v ht mo : Int32} (hk : k < 5) (h : nI k = nI c) (hc : c < 5) (hr : v = rmF c ht mo) : v = rmF k ht mo := by
  have e : k = c := (nI_eq (by omega) (by omega)).mp h
  rw [e]; exact hr
theorem rm_d {k : Nat} {v ht mo : Int32} (hk : k < 5) (k0 : ¬ nI k = 0) (k1 : ¬ nI k = 1) (k2 : ¬ nI k = 2) (k3 : ¬ nI k = 3) (hr : v = rmF 4 ht mo) : v = rmF k ht mo := by
  have a0 : k ≠ 0 := fun z => k0 (by rw [z]; rfl)
  have a1 : k ≠ 1 := fun z => k1 (by rw [z]; rfl)
  have a2 : k ≠ 2 := fun z => k2 (by rw [z]; rfl)
  have a3 : k ≠ 3 := fun z => k3 (by rw [z]; rfl)
  obtain rfl : k = 4 := by omega
  exact hr
theorem rm_3z {ht mo : Int32} (h : ht = 0) : (3 : Int32) = rmF 3 ht mo := by show (3 : Int32) = if ht = 0 then 3 else 0; rw [if_pos h]
theorem rm_3n {ht mo : Int32} (h : ¬ ht = 0) : (0 : Int32) = rmF 3 ht mo := by show (0 : Int32) = if ht = 0 then 3 else 0; rw [if_neg h]
theorem rm_4z {ht mo : Int32} (h : mo = 99) : (4 : Int32) = rmF 4 ht mo := by show (4 : Int32) = if mo = 99 then 4 else 0; rw [if_pos h]
theorem rm_4n {ht mo : Int32} (h : ¬ mo = 99) : (0 : Int32) = rmF 4 ht mo := by show (0 : Int32) = if mo = 99 then 4 else 0; rw [if_neg h]
/-- what stays of the reference's numbers in a year -/
def yrI (J : Nat → Int32) : Prop := J 5 = 10 ∧ ∃ t, t < 10 ∧ J 7 = nI t

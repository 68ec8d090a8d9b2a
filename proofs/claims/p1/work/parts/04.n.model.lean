/-! plain facts for the reference -/
def inL (v lo hi : Int64) : Bool := decide (lo ≤ v) && decide (v ≤ hi)
theorem inL_i {v lo hi : Int32} {a b : Int64} (ha : lo.toInt64 = a) (hb : hi.toInt64 = b) : inL v.toInt64 a b = inB v lo hi := by
  subst ha; subst hb
  have e : ∀ x y : Int32, (x.toInt64 ≤ y.toInt64) ↔ (x ≤ y) := fun x y => by
    rw [Int64.le_iff_toInt_le, Int32.le_iff_toInt_le, Int32.toInt_toInt64, Int32.toInt_toInt64]
  unfold inL inB
  rw [decide_eq_decide.mpr (e lo v), decide_eq_decide.mpr (e v hi)]
theorem il_l {v lo hi : Int64} (h : lg_cmp v lo < 0) : (0 : Int32) = bI (inL v lo hi) := by
  have k : ¬ lo ≤ v := by
    intro z
    unfold lg_cmp at h
    by_cases h1 : v > lo
    · rw [if_pos h1] at h; exact absurd h (by decide)
    · rw [if_neg h1] at h
      by_cases h2 : v = lo
      · rw [if_pos h2] at h; exact absurd h (by decide)
      · exact h2 (Int64.le_antisymm (Int64.not_lt.mp h1) z)
  unfold inL
  rw [decide_eq_false k]
  rfl
theorem il_h {v lo hi : Int64} (h : 0 < lg_cmp v hi) : (0 : Int32) = bI (inL v lo hi) := by
  have k : ¬ v ≤ hi := by
    intro z
    unfold lg_cmp at h
    by_cases h1 : v > hi
    · exact Int64.not_le.mpr h1 z
    · rw [if_neg h1] at h
      by_cases h2 : v = hi
      · rw [if_pos h2] at h; exact absurd h (by decide)
      · rw [if_neg h2] at h; exact absurd h (by decide)
  unfold inL
  rw [decide_eq_false k, Bool.and_false]
  rfl
theorem il_t {v lo hi : Int64} (h1 : ¬ lg_cmp v lo < 0) (h2 : ¬ 0 < lg_cmp v hi) : (1 : Int32) = bI (inL v lo hi) := by
  have k1 : lo ≤ v := by
    apply Int64.not_lt.mp
    intro z
    apply h1
    unfold lg_cmp
    rw [if_neg (Int64.lt_asymm z), if_neg (Int64.ne_of_lt z)]
    decide
  have k2 : v ≤ hi := by
    apply Int64.not_lt.mp
    intro z
    apply h2
    unfold lg_cmp
    rw [if_pos z]
    decide
  unfold inL
  rw [decide_eq_true k1, decide_eq_true k2]
  rfl
/-- the numbers of a new reference -/
def iM0 : Nat → Int32 := fun k => if k = 5 then 10 else 0
theorem nx_and (a b : Nat) : nI a &&& nI b = nI (a &&& b) := by
  apply Int32.toBitVec_inj.1
  show BitVec.ofNat 32 a &&& BitVec.ofNat 32 b = BitVec.ofNat 32 (a &&& b)
  exact (BitVec.ofNat_and ..).symm
theorem tl_t {x y : Int32} (h1 : inB x 0 9 = true) (h2 : inB y (-1) 9 = true) : (-6 : Int32) = tellF x y := by
  unfold tellF
  rw [if_pos h1]
  by_cases h : inB y 0 9 = true
  · rw [if_pos h]
  · rw [if_neg h]
    by_cases h3 : y = -1
    · rw [if_pos h3]
    · exfalso
      apply h
      rw [inB_iff] at h2 ⊢
      have e1 : (-1 : Int32).toInt = -1 := rfl
      have e0 : (0 : Int32).toInt = 0 := rfl
      have k : y.toInt ≠ -1 := fun z => h3 (Int32.toInt_inj.mp z)
      omega
theorem tl_f {x y : Int32} (h1 : inB x 0 9 = true) (h2 : inB y (-1) 9 = false) : (-1 : Int32) = tellF x y := by
  have k : ¬ (inB y (-1) 9 = true) := by rw [h2]; decide
  rw [inB_iff] at k
  have e1 : (-1 : Int32).toInt = -1 := rfl
  have e0 : (0 : Int32).toInt = 0 := rfl
  unfold tellF
  rw [if_pos h1, if_neg (by rw [inB_iff]; omega), if_neg (by rintro rfl; apply k; decide)]
def hkF (f : Nat → Int32) (i : Nat) : Nat → Int32 := fun e => if e < i then 5 else if 10 ≤ e ∧ e < 10 + i then 0 else if 20 ≤ e ∧ e < 20 + i then -6 else f e
theorem hk_0 {f : Nat → Int32} {n : Nat} : ∀ e, e < n → f e = hkF f 0 e := by
  intro e _
  unfold hkF
  rw [if_neg (by omega), if_neg (by omega), if_neg (by omega)]
theorem hk_s {f : Nat → Int32} {i n : Nat} {k : Int32} (hk : k.toNatClampNeg = 20 + i) (hi : i < 10) : ∀ e, e < n → upd (upd (upd (hkF f i) i 5) (10 + i) 0) k.toNatClampNeg (-6) e = hkF f (i + 1) e := by
  intro e _
  rw [hk]
  unfold upd hkF
  by_cases h1 : e = 20 + i
  · rw [if_pos h1, if_neg (by omega), if_neg (by omega), if_pos (by omega)]
  · rw [if_neg h1]
    by_cases h2 : e = 10 + i
    · rw [if_pos h2, if_neg (by omega), if_pos (by omega)]
    · rw [if_neg h2]
      by_cases h3 : e = i
      · rw [if_pos h3, if_pos (by omega)]
      · rw [if_neg h3]
        by_cases h4 : e < i
        · rw [if_pos h4, if_pos (by omega)]
        · rw [if_neg h4, if_neg (show ¬ e < i + 1 by omega)]
          by_cases h5 : 10 ≤ e ∧ e < 10 + i
          · rw [if_pos h5, if_pos (by omega)]
          · rw [if_neg h5, if_neg (show ¬ (10 ≤ e ∧ e < 10 + (i + 1)) by omega)]
            by_cases h6 : 20 ≤ e ∧ e < 20 + i
            · rw [if_pos h6, if_pos (by omega)]
            · rw [if_neg h6, if_neg (show ¬ (20 ≤ e ∧ e < 20 + (i + 1)) by omega)]
def hdF : Nat → Int32 := upd (upd (upd (upd (hkF (fun _ => 0) 10) 30 10) 31 0) 32 0) 33 0
def ohF (x : Int32) : Int32 := if x = 0 then -6 else if x = 1 then 5 else 0
def panG (x : Int32) : Int32 := if x = 0 then 10 else 0
theorem ls_d {e : Nat} (h : e / 11 = e % 11) : (0 : Int32) = lsF e := by unfold lsF; rw [if_pos h]
theorem ls_o {e : Nat} (h : ¬ e / 11 = e % 11) : (1000 : Int32) = lsF e := by unfold lsF; rw [if_neg h]
theorem ls_tr2 {o e : Nat} (ho : o < 11) (he : e < 121) : lsF e ≤ lsF (11 * (e / 11) + o) + lsF (11 * o + e % 11) := by
  have k : ∀ o, o < 11 → ∀ e, e < 121 → lsF e ≤ lsF (11 * (e / 11) + o) + lsF (11 * o + e % 11) := by decide +kernel
  exact k o ho e he
theorem upd_same {f : Nat → Int32} {e n : Nat} {k : Int32} (hk : k.toNatClampNeg = e) : ∀ j, j < n → upd f k.toNatClampNeg (f e) j = f j := by
  intro j _
  rw [hk]
  unfold upd
  by_cases h : j = e
  · rw [if_pos h, h]
  · rw [if_neg h]
theorem ls_w {i j : Nat} (hi : i < 11) (hj : j < 11) : lsF (11 * i + j) = if i = j then 0 else 1000 := by
  rw [Nat.mul_comm]; exact ls_v hi hj
theorem ls_lt {i j : Nat} (h : (if i = j then (0 : Int32) else 1000) < 1000) : i = j := by
  by_cases e : i = j
  · exact e
  · rw [if_neg e] at h; exact absurd h (by decide)
theorem ls_ge {i j : Nat} (h : ¬ (if i = j then (0 : Int32) else 1000) < 1000) : ¬ i = j := by
  intro e
  rw [if_pos e] at h; exact absurd (by decide) h
/-- near, by what is known where it comes back -/
theorem nr_n {x y z : Int32} {i j : Nat} (hi : i < 11) (hj : j < 11) (ei : x = nI i) (ej : y = nI j) (hij : ¬ i = j) (c1 : inB x 0 10 = true) (c2 : inB y 0 10 = true) (c3 : inB z 0 1 = true) : (-6 : Int32) = nearF x y z := by
  have k : ¬ x = y := by
    rw [ei, ej]
    exact fun w => hij ((nI_eq (by omega) (by omega)).mp w)
  unfold nearF
  rw [if_pos c1, if_pos c2, if_pos c3]
  by_cases h : z = 0
  · rw [if_pos h, if_neg k]
  · rw [if_neg h]
theorem nr_z {x y z : Int32} {i j : Nat} (hi : i < 11) (hj : j < 11) (ei : x = nI i) (ej : y = nI j) (hij : i = j) (c1 : inB x 0 10 = true) (c2 : inB y 0 10 = true) (c3 : inB z 0 1 = true) (h : z = 0) : (if i = j then (0 : Int32) else 1000) = nearF x y z := by
  unfold nearF
  rw [if_pos c1, if_pos c2, if_pos c3, if_pos h, if_pos hij, if_pos (by rw [ei, ej, hij])]
theorem nr_y {x y z : Int32} {i j : Nat} (hi : i < 11) (hj : j < 11) (ei : x = nI i) (ej : y = nI j) (hij : i = j) (c1 : inB x 0 10 = true) (c2 : inB y 0 10 = true) (c3 : inB z 0 1 = true) (h : ¬ z = 0) : (-6 : Int32) = nearF x y z := by
  unfold nearF
  rw [if_pos c1, if_pos c2, if_pos c3, if_neg h]

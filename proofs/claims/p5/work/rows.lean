section
/-! pure functions that bytecode is lifted to: none where an index, a divisor, a boolean is out of its range, or the fuel is out -/
abbrev qS : Type := Nat → Nat → Int32
abbrev qL : Type := Nat → Nat → Int64
def q_up (σ : qS) (k : Nat) (f : Nat → Int32) : qS := fun j => bif Nat.beq j k then f else σ j
def q_upL (σ : qL) (k : Nat) (f : Nat → Int64) : qL := fun j => bif Nat.beq j k then f else σ j
abbrev q_pt (σ : qS) (k : Nat) (x : Int32) : qS := q_up σ 99 (upd (σ 99) k x)
def q_bd {α β : Type} (x : α) (k : α → Option β) : Option β := k x
def q_cl {α β : Type} (x : Option α) (k : α → Option β) : Option β := match x with
  | some a => k a
  | none => none
def q_chk {β : Type} (b : Bool) (x : Option β) : Option β := bif b then x else none
def q_inb (i : Int32) (n : Nat) : Bool := decide (¬ (i < 0 ∨ n ≤ i.toNatClampNeg))
def q_rd {β : Type} (σ : qS) (k n : Nat) (i : Int32) (K : Int32 → Option β) : Option β := q_chk (q_inb i n) (K (σ k i.toNatClampNeg))
def q_rdL {β : Type} (σ : qL) (k n : Nat) (i : Int32) (K : Int64 → Option β) : Option β := q_chk (q_inb i n) (K (σ k i.toNatClampNeg))
def q_wr {β : Type} (σ : qS) (k n : Nat) (i x : Int32) (K : qS → Option β) : Option β := q_chk (q_inb i n) (K (q_up σ k (upd (σ k) i.toNatClampNeg x)))
def q_wrZ {β : Type} (σ : qS) (k n : Nat) (i x : Int32) (K : qS → Option β) : Option β := q_chk (q_inb i n) (K (q_up σ k (upd (σ k) i.toNatClampNeg (vp_nar .boolean x))))
def q_wrL {β : Type} (σ : qL) (k n : Nat) (i : Int32) (x : Int64) (K : qL → Option β) : Option β := q_chk (q_inb i n) (K (q_upL σ k (vp_updL (σ k) i.toNatClampNeg x)))
def q_nz {β : Type} (y : Int32) (x : Option β) : Option β := if y = 0 then none else x
def q_nzL {β : Type} (y : Int64) (x : Option β) : Option β := if y = 0 then none else x
def q_isB (v : Int32) : Bool := v == 0 || v == 1
def q_lp {σ R : Type} (body : (σ → Option R) → (σ → Option R) → σ → Option R) (k : σ → Option R) : Nat → σ → Option R
  | 0, _ => none
  | n + 1, s => body k (q_lp body k n) s
section QB
variable {α β : Type} {r : β}
theorem q_bd_s {x : α} {k : α → Option β} (h : q_bd x k = some r) : ∃ v, x = v ∧ k v = some r := ⟨x, rfl, h⟩
theorem q_cl_s {x : Option α} {k : α → Option β} (h : q_cl x k = some r) : ∃ a, x = some a ∧ k a = some r := by
  cases x with
  | none => cases h
  | some a => exact ⟨a, rfl, h⟩
theorem q_chk_s {b : Bool} {x : Option β} (h : q_chk b x = some r) : b = true ∧ x = some r := by
  cases b with
  | false => cases h
  | true => exact ⟨rfl, h⟩
theorem q_inb_in {i : Int32} {n : Nat} (h : q_inb i n = true) : vp_in i n := of_decide_eq_true (p := ¬ (i < 0 ∨ n ≤ i.toNatClampNeg)) h
theorem q_rd_s {σ : qS} {k n : Nat} {i : Int32} {K : Int32 → Option β} (h : q_rd σ k n i K = some r) : ∃ v, vp_in i n ∧ σ k i.toNatClampNeg = v ∧ K v = some r := by
  obtain ⟨h1, h2⟩ := q_chk_s h
  exact ⟨_, q_inb_in h1, rfl, h2⟩
theorem q_rdL_s {σ : qL} {k n : Nat} {i : Int32} {K : Int64 → Option β} (h : q_rdL σ k n i K = some r) : ∃ v, vp_in i n ∧ σ k i.toNatClampNeg = v ∧ K v = some r := by
  obtain ⟨h1, h2⟩ := q_chk_s h
  exact ⟨_, q_inb_in h1, rfl, h2⟩
theorem q_wr_s {σ : qS} {k n : Nat} {i x : Int32} {K : qS → Option β} (h : q_wr σ k n i x K = some r) : ∃ v, vp_in i n ∧ q_up σ k (upd (σ k) i.toNatClampNeg x) = v ∧ K v = some r := by
  obtain ⟨h1, h2⟩ := q_chk_s h
  exact ⟨_, q_inb_in h1, rfl, h2⟩
theorem q_wrZ_s {σ : qS} {k n : Nat} {i x : Int32} {K : qS → Option β} (h : q_wrZ σ k n i x K = some r) : ∃ v, vp_in i n ∧ q_up σ k (upd (σ k) i.toNatClampNeg (vp_nar .boolean x)) = v ∧ K v = some r := by
  obtain ⟨h1, h2⟩ := q_chk_s h
  exact ⟨_, q_inb_in h1, rfl, h2⟩
theorem q_wrL_s {σ : qL} {k n : Nat} {i : Int32} {x : Int64} {K : qL → Option β} (h : q_wrL σ k n i x K = some r) : ∃ v, vp_in i n ∧ q_upL σ k (vp_updL (σ k) i.toNatClampNeg x) = v ∧ K v = some r := by
  obtain ⟨h1, h2⟩ := q_chk_s h
  exact ⟨_, q_inb_in h1, rfl, h2⟩
theorem q_nz_s {y : Int32} {x : Option β} (h : q_nz y x = some r) : ¬ y = 0 ∧ x = some r := by
  unfold q_nz at h
  by_cases z : y = 0
  · rw [if_pos z] at h; cases h
  · rw [if_neg z] at h; exact ⟨z, h⟩
theorem q_nzL_s {y : Int64} {x : Option β} (h : q_nzL y x = some r) : ¬ y = 0 ∧ x = some r := by
  unfold q_nzL at h
  by_cases z : y = 0
  · rw [if_pos z] at h; cases h
  · rw [if_neg z] at h; exact ⟨z, h⟩
theorem q_if_t {c : Prop} [Decidable c] {a b : Option β} (hc : c) (h : (if c then a else b) = some r) : a = some r := by rwa [if_pos hc] at h
theorem q_if_f {c : Prop} [Decidable c] {a b : Option β} (hc : ¬ c) (h : (if c then a else b) = some r) : b = some r := by rwa [if_neg hc] at h
theorem q_isB_nar {v : Int32} (h : q_isB v = true) : narrow .boolean (.int v) = .int v := by
  unfold q_isB at h
  rw [Bool.or_eq_true, beq_iff_eq, beq_iff_eq] at h
  rcases h with rfl | rfl <;> decide
end QB
/-- a new Close -/
def qC0 : qS := fun k => bif Nat.beq k 99 then (fun k => if k = 8 then 10 else 0) else bif Nat.beq k 1 then (fun _ => 5) else bif Nat.beq k 3 then (fun _ => (-6)) else bif Nat.beq k 4 then (fun j => nI j) else (fun _ => 0)
end
section
def f_X6_within (a1 : Int32) (a2 : Int32) (a3 : Int32) : Option (Int32) :=
    if a1 < a2 then (some (0 : Int32))
  else if a3 < a1 then (some (0 : Int32))
  else some (1 : Int32)
def f_X6_isPlace (a1 : Int32) : Option (Int32) :=
    if a1 < 0 then (some (0 : Int32))
  else if (11 : Int32) ≤ a1 then (some (0 : Int32))
  else some (1 : Int32)
def f_X6_isHouse (a1 : Int32) : Option (Int32) :=
    if a1 < 0 then (some (0 : Int32))
  else if (10 : Int32) ≤ a1 then (some (0 : Int32))
  else some (1 : Int32)
def f_X6_isTale (a1 : Int32) : Option (Int32) :=
    if a1 < 0 then (some (0 : Int32))
  else if (10 : Int32) ≤ a1 then (some (0 : Int32))
  else some (1 : Int32)
def f_X6_isIn (a1 : Int32) (a2 : Int32) : Option (Int32) :=
    if ((a2 >>> (a1 &&& 31)) &&& 1) = 1 then (some (1 : Int32))
  else some (0 : Int32)
def f_J6_bitCount_0f7a4 (a1 : Int32) : Option (Int32) :=
    q_bd (a1 - (((a1.toUInt32 >>> ((1 : Int32).toUInt32 &&& Int32.toUInt32 31)).toInt32) &&& 1431655765)) fun v0_1 =>
  q_bd ((v0_1 &&& 858993459) + (((v0_1.toUInt32 >>> ((2 : Int32).toUInt32 &&& Int32.toUInt32 31)).toInt32) &&& 858993459)) fun v0_3 =>
  q_bd ((v0_3 + ((v0_3.toUInt32 >>> ((4 : Int32).toUInt32 &&& Int32.toUInt32 31)).toInt32)) &&& 252645135) fun v0_5 =>
  q_bd (v0_5 + ((v0_5.toUInt32 >>> ((8 : Int32).toUInt32 &&& Int32.toUInt32 31)).toInt32)) fun v0_7 =>
  q_bd (v0_7 + ((v0_7.toUInt32 >>> ((16 : Int32).toUInt32 &&& Int32.toUInt32 31)).toInt32)) fun v0_9 =>
  some (v0_9 &&& 63)
def b_X6_commonPart_9 (k again : (Int32 × Int64 × Int64) → Option (Int64)) (s : Int32 × Int64 × Int64) : Option (Int64) :=
    if (1000 : Int32) ≤ s.1 then (k (s.1, s.2.1, s.2.2))
  else if (lg_cmp s.2.1 (0 : Int64)) = 0 then (k (s.1, s.2.1, s.2.2))
  else q_nzL s.2.1 <|
  q_bd (s.2.2 - s.2.2 / s.2.1 * s.2.1) fun v9_5 =>
  again (s.1 + 1, v9_5, s.2.1)
def f_X6_commonPart (a1 : Int64) (a2 : Int64) : Option (Int64) :=
    q_lp (b_X6_commonPart_9) (fun z1 => some z1.2.2) 20000 ((0 : Int32), a2, a1)
def b_J7_fill_53178_5 (nR : Nat) (a2 : Int32) (v3_1 : Int32) (k again : (Int32 × qS) → Option (qS)) (s : Int32 × qS) : Option (qS) :=
    if v3_1 ≤ s.1 then (k (s.1, s.2))
  else q_wr s.2 0 nR s.1 a2 fun σR_5 =>
  again (s.1 + 1, σR_5)
def f_J7_fill_53178 (nR : Nat) (σR : qS) (a2 : Int32) : Option (qS) :=
    q_bd (nI nR) fun v3_1 =>
  q_lp (b_J7_fill_53178_5 nR a2 v3_1) (fun z3 => some z3.2) 20000 ((0 : Int32), σR)
def b_J7_fill_d0a16_6 (nR : Nat) (a2 : Int64) (v4_1 : Int32) (k again : (Int32 × qL) → Option (qL)) (s : Int32 × qL) : Option (qL) :=
    if v4_1 ≤ s.1 then (k (s.1, s.2))
  else q_wrL s.2 0 nR s.1 a2 fun ℓR_5 =>
  again (s.1 + 1, ℓR_5)
def f_J7_fill_d0a16 (nR : Nat) (ℓR : qL) (a2 : Int64) : Option (qL) :=
    q_bd (nI nR) fun v4_1 =>
  q_lp (b_J7_fill_d0a16_6 nR a2 v4_1) (fun z3 => some z3.2) 20000 ((0 : Int32), ℓR)
end
section
def f_X1_longBetween (σC : qS) (a1 : Int32) (a2 : Int32) : Option (Int32) :=
    q_cl (f_X6_isPlace a1) fun r_1 =>
  if r_1 = 0 then (some (0 : Int32))
  else q_cl (f_X6_isPlace a2) fun r_4 =>
  if r_4 = 0 then (some (0 : Int32))
  else q_rd σC 0 121 ((a1 * 11) + a2) fun r_7 =>
  some r_7
def f_X1_layRoad (σC : qS) (a1 : Int32) (a2 : Int32) (a3 : Int32) : Option (qS) :=
    q_cl (f_X6_isPlace a1) fun r_1 =>
  if r_1 = 0 then (some σC)
  else q_cl (f_X6_isPlace a2) fun r_4 =>
  if r_4 = 0 then (some σC)
  else q_wr σC 0 121 ((a1 * 11) + a2) a3 fun σC_7 =>
  q_wr σC_7 0 121 ((a2 * 11) + a1) a3 fun σC_10 =>
  some σC_10
def f_X1_doubtOf (σC : qS) (a1 : Int32) : Option (Int32) :=
    q_cl (f_X6_isHouse a1) fun r_1 =>
  if r_1 = 0 then (some (9 : Int32))
  else q_rd σC 1 10 a1 fun r_4 =>
  some r_4
def f_X1_isDamp (σC : qS) (a1 : Int32) : Option (Int32) :=
    q_cl (f_X6_isHouse a1) fun r_1 =>
  if r_1 = 0 then (some (0 : Int32))
  else q_rd σC 2 10 a1 fun r_4 =>
  if r_4 = 1 then (some (1 : Int32))
  else some (0 : Int32)
def f_X1_beliefOf (σC : qS) (a1 : Int32) : Option (Int32) :=
    q_cl (f_X6_isHouse a1) fun r_1 =>
  if r_1 = 0 then (some (-6 : Int32))
  else q_rd σC 3 10 a1 fun r_4 =>
  some r_4
def f_X1_furnish (σC : qS) (a1 : Int32) (a2 : Int32) (a3 : Int32) : Option (qS) :=
    q_cl (f_X6_isHouse a1) fun r_1 =>
  if r_1 = 0 then (some σC)
  else q_wr σC 1 10 a1 a2 fun σC_4 =>
  q_wr σC_4 2 10 a1 a3 fun σC_7 =>
  some σC_7
def f_X1_convince (σC : qS) (a1 : Int32) (a2 : Int32) : Option (qS) :=
    q_cl (f_X6_isHouse a1) fun r_1 =>
  if r_1 = 0 then (some σC)
  else q_wr σC 3 10 a1 a2 fun σC_4 =>
  some σC_4
def f_X1_houseFact (σC : qS) (a1 : Int32) (a2 : Int32) : Option (Int32) :=
    if a2 = 0 then (q_cl (f_X1_beliefOf σC a1) fun r_2 =>
  some r_2)
  else if a2 = 1 then (q_cl (f_X1_doubtOf σC a1) fun r_5 =>
  some r_5)
  else q_cl (f_X1_isDamp σC a1) fun r_7 =>
  if r_7 = 0 then (some (0 : Int32))
  else some (1 : Int32)
def f_X1_panFact (σC : qS) (a1 : Int32) : Option (Int32) :=
    if a1 = 0 then (some (σC 99 8))
  else if a1 = 1 then (some (σC 99 9))
  else if a1 = 2 then (some (σC 99 10))
  else some (σC 99 11)
def b_X1_believersOf_4 (σC : qS) (a1 : Int32) (k again : (Int32 × Int32) → Option (Int32)) (s : Int32 × Int32) : Option (Int32) :=
    if (10 : Int32) ≤ s.1 then (k (s.1, s.2))
  else q_rd σC 3 10 s.1 fun r_3 =>
  if r_3 = a1 then (q_bd (s.2 ||| ((1 : Int32) <<< (s.1 &&& 31))) fun v2_7 =>
  again (s.1 + 1, v2_7))
  else again (s.1 + 1, s.2)
def f_X1_believersOf (σC : qS) (a1 : Int32) : Option (Int32) :=
    q_lp (b_X1_believersOf_4 σC a1) (fun z1 => some z1.2) 20000 ((0 : Int32), (0 : Int32))
def f_X1_believers (σC : qS) : Option (Int32) :=
    q_cl (f_X1_believersOf σC (-6 : Int32)) fun r_1 =>
  q_cl (f_J6_bitCount_0f7a4 r_1) fun r_3 =>
  some ((10 : Int32) - r_3)
def b_X1_talesBelieved_4 (σC : qS) (k again : (Int32 × Int32) → Option (Int32)) (s : Int32 × Int32) : Option (Int32) :=
    if (10 : Int32) ≤ s.1 then (k (s.1, s.2))
  else q_cl (f_X1_believersOf σC s.1) fun r_3 =>
  if r_3 = 0 then (again (s.1 + 1, s.2))
  else again (s.1 + 1, s.2 + 1)
def f_X1_talesBelieved (σC : qS) : Option (Int32) :=
    q_lp (b_X1_talesBelieved_4 σC) (fun z1 => some z1.2) 20000 ((0 : Int32), (0 : Int32))
def b_X1_allDoubt_4 (σC : qS) (k again : (Int32 × Int32) → Option (Int32)) (s : Int32 × Int32) : Option (Int32) :=
    if (10 : Int32) ≤ s.1 then (k (s.1, s.2))
  else q_rd σC 1 10 s.1 fun r_3 =>
  q_bd (s.2 + r_3) fun v1_6 =>
  again (s.1 + 1, v1_6)
def f_X1_allDoubt (σC : qS) : Option (Int32) :=
    q_lp (b_X1_allDoubt_4 σC) (fun z1 => some z1.2) 20000 ((0 : Int32), (0 : Int32))
def f_X1_fadesInto (σC : qS) (a1 : Int32) : Option (Int32) :=
    q_cl (f_X6_isTale a1) fun r_1 =>
  if r_1 = 0 then (some (-6 : Int32))
  else q_rd σC 4 10 a1 fun r_4 =>
  some r_4
def f_X1_letFade (σC : qS) (a1 : Int32) (a2 : Int32) : Option (qS) :=
    q_cl (f_X6_isTale a1) fun r_1 =>
  if r_1 = 0 then (some σC)
  else q_wr σC 4 10 a1 a2 fun σC_4 =>
  some σC_4
end
section
def b_X1_behindStirs_5 (σC : qS) (a2 : Int32) (k again : (Int32 × Int32) → Option (Int32)) (s : Int32 × Int32) : Option (Int32) :=
    if a2 ≤ s.1 then (k (s.1, s.2))
  else q_cl (f_X1_fadesInto σC s.2) fun r_3 =>
  again (s.1 + 1, r_3)
def f_X1_behindStirs (σC : qS) (a1 : Int32) (a2 : Int32) : Option (Int32) :=
    q_lp (b_X1_behindStirs_5 σC a2) (fun z1 => some z1.2) 20000 ((0 : Int32), a1)
def b_X1_stirsToRing_7 (σC : qS) (k again : (Int32 × Int32 × Int32) → Option (Int32)) (s : Int32 × Int32 × Int32) : Option (Int32) :=
    if (10 : Int32) < s.1 then (k (s.1, s.2.1, s.2.2))
  else q_cl (f_X6_isTale s.2.1) fun r_3 =>
  if r_3 = 0 then (some s.1)
  else q_cl (f_X6_isIn s.2.1 s.2.2) fun r_6 =>
  if r_6 = 0 then (q_bd (s.2.2 ||| ((1 : Int32) <<< (s.2.1 &&& 31))) fun v2_9 =>
  q_cl (f_X1_fadesInto σC s.2.1) fun r_11 =>
  again (s.1 + 1, r_11, v2_9))
  else some s.1
def f_X1_stirsToRing (σC : qS) (a1 : Int32) : Option (Int32) :=
    q_lp (b_X1_stirsToRing_7 σC) (fun _ => some (10 : Int32)) 20000 ((0 : Int32), a1, (0 : Int32))
def b_X1_stirsOfRing_16 (σC : qS) (a1 : Int32) (r_1 : Int32) (r_3 : Int32) (k again : Int32 → Option (Int32)) (s : Int32) : Option (Int32) :=
    if r_1 ≤ s then (k s)
  else q_cl (f_X1_behindStirs σC a1 s) fun r_7 =>
  if r_7 = r_3 then (some (r_1 - s))
  else again (s + 1)
def f_X1_stirsOfRing (σC : qS) (a1 : Int32) : Option (Int32) :=
    q_cl (f_X1_stirsToRing σC a1) fun r_1 =>
  q_cl (f_X1_behindStirs σC a1 r_1) fun r_3 =>
  q_lp (b_X1_stirsOfRing_16 σC a1 r_1 r_3) (fun _ => some r_1) 20000 (0 : Int32)
def f_X1_sightCount (σC : qS) : Option (Int32) :=
    some (σC 99 7)
def f_X1_addSight (σC : qS) (a1 : Int32) (a2 : Int32) : Option (Int32 × qS) :=
    q_cl (f_X6_within (σC 99 7) (0 : Int32) (7 : Int32)) fun r_1 =>
  if r_1 = 0 then (some ((0 : Int32), σC))
  else q_wr σC 5 8 (σC 99 7) a1 fun σC_4 =>
  q_wr σC_4 6 8 (σC_4 99 7) a2 fun σC_7 =>
  q_bd (q_pt σC_7 7 ((σC_7 99 7) + 1)) fun σC_10 =>
  some ((1 : Int32), σC_10)
def f_X1_dropSights (σC : qS) : Option (qS) :=
    q_bd (q_pt σC 7 (0 : Int32)) fun σC_1 =>
  some σC_1
def f_X1_sightBed (σC : qS) (a1 : Int32) : Option (Int32) :=
    q_cl (f_X6_within a1 (0 : Int32) (7 : Int32)) fun r_1 =>
  if r_1 = 0 then (some (-6 : Int32))
  else q_rd σC 5 8 a1 fun r_4 =>
  some r_4
def f_X1_sightTale (σC : qS) (a1 : Int32) : Option (Int32) :=
    q_cl (f_X6_within a1 (0 : Int32) (7 : Int32)) fun r_1 =>
  if r_1 = 0 then (some (-6 : Int32))
  else q_rd σC 6 8 a1 fun r_4 =>
  some r_4
def f_X1_isConvinced (σC : qS) (a1 : Int32) (a2 : Int32) : Option (Int32) :=
    q_cl (f_X6_isHouse a1) fun r_1 =>
  if r_1 = 0 then (some (0 : Int32))
  else q_rd σC 1 10 a1 fun r_4 =>
  if a2 ≤ ((9 : Int32) * r_4) then (some (0 : Int32))
  else some (1 : Int32)
def f_X1_reasonAgainst (σC : qS) (a1 : Int32) (a2 : Int32) : Option (Int32) :=
    if a1 = 0 then (if (σC 99 8) = 10 then (some (0 : Int32))
  else some (1 : Int32))
  else if a1 = 1 then (q_cl (f_X1_longBetween σC (σC 99 8) a2) fun r_4 =>
  if r_4 ≤ 0 then (some (2 : Int32))
  else some (0 : Int32))
  else if a1 = 2 then (if (σC 99 8) = 10 then (some (1 : Int32))
  else if (σC 99 9) ≤ 0 then (some (3 : Int32))
  else some (0 : Int32))
  else if a1 = 3 then (if (σC 99 9) ≤ 0 then (some (3 : Int32))
  else some (0 : Int32))
  else if (99 : Int32) ≤ (σC 99 11) then (some (4 : Int32))
  else some (0 : Int32)
def f_X1_warmBed (σC : qS) (a1 : Int32) : Option (qS) :=
    q_cl (f_X1_isDamp σC a1) fun r_1 =>
  if r_1 = 0 then (q_cl (f_X1_isConvinced σC a1 (σC 99 9)) fun r_4 =>
  if r_4 = 0 then (q_cl (f_X1_doubtOf σC a1) fun r_7 =>
  q_cl (f_X1_furnish σC a1 (if (r_7 + 1) < 9 then (r_7 + 1) else 9) (0 : Int32)) fun σC_9 =>
  q_bd (q_pt σC_9 9 (if (0 : Int32) < ((σC_9 99 9) - 5) then ((σC_9 99 9) - 5) else 0)) fun σC_11 =>
  some σC_11)
  else q_cl (f_X1_convince σC a1 (σC 99 10)) fun σC_13 =>
  q_bd (q_pt σC_13 9 (if (0 : Int32) < ((σC_13 99 9) - 5) then ((σC_13 99 9) - 5) else 0)) fun σC_15 =>
  some σC_15)
  else q_bd (q_pt σC 9 (if (0 : Int32) < ((σC 99 9) - 10) then ((σC 99 9) - 10) else 0)) fun σC_17 =>
  some σC_17
def f_X1_act (σC : qS) (a1 : Int32) (a2 : Int32) (a3 : Int32) : Option (qS) :=
    if a1 = 0 then (q_bd (q_pt σC 10 a2) fun σC_2 =>
  q_bd (q_pt σC_2 9 a3) fun σC_4 =>
  some σC_4)
  else if a1 = 1 then (q_cl (f_X1_longBetween σC (σC 99 8) a2) fun r_7 =>
  q_bd (q_pt σC 9 (if (0 : Int32) < ((σC 99 9) - r_7) then ((σC 99 9) - r_7) else 0)) fun σC_9 =>
  q_bd (q_pt σC_9 8 a2) fun σC_11 =>
  some σC_11)
  else if a1 = 2 then (q_cl (f_X1_warmBed σC (σC 99 8)) fun σC_14 =>
  some σC_14)
  else if a1 = 3 then (q_bd (q_pt σC 9 (if ((σC 99 9) + 10) < 99 then ((σC 99 9) + 10) else 99)) fun σC_17 =>
  q_cl (f_X1_fadesInto σC_17 (σC_17 99 10)) fun r_19 =>
  q_bd (q_pt σC_17 10 r_19) fun σC_21 =>
  some σC_21)
  else q_bd (q_pt σC 8 (10 : Int32)) fun σC_23 =>
  q_bd (q_pt σC_23 9 (0 : Int32)) fun σC_25 =>
  q_bd (q_pt σC_25 11 ((σC_25 99 11) + 1)) fun σC_27 =>
  q_cl (f_J7_fill_53178 10 (fun _ => σC_27 2) (0 : Int32)) fun σt_29 =>
  q_bd (q_up σC_27 2 (σt_29 0)) fun σC_31 =>
  some σC_31
def f_X1_kindDrawn (a1 : Int32) : Option (Int32) :=
    if a1 = 0 then (some (1 : Int32))
  else if a1 = 1 then (some (1 : Int32))
  else if a1 = 2 then (some (1 : Int32))
  else if a1 = 3 then (some (2 : Int32))
  else if a1 = 4 then (some (2 : Int32))
  else if a1 = 5 then (some (3 : Int32))
  else if a1 = 6 then (some (0 : Int32))
  else some (4 : Int32)
def b_X1_liveYear_5 (a2 : Int32) (k again : (Int32 × Int32 × qS) → Option (qS)) (s : Int32 × Int32 × qS) : Option (qS) :=
    if a2 ≤ s.1 then (k (s.1, s.2.1, s.2.2))
  else q_bd ((((75 : Int32) * s.2.1) + 74) - (((75 : Int32) * s.2.1) + 74) / 65537 * 65537) fun v3_3 =>
  q_cl (f_X1_kindDrawn (v3_3 - v3_3 / 8 * 8)) fun r_5 =>
  if r_5 = 1 then (q_bd ((v3_3 / 8) - (v3_3 / 8) / 11 * 11) fun v6_15 =>
  q_cl (f_X1_reasonAgainst s.2.2 r_5 v6_15) fun r_17 =>
  if r_17 = 0 then (q_cl (f_X1_act s.2.2 r_5 v6_15 ((10 : Int32) * ((1 : Int32) + ((v3_3 / 80) - (v3_3 / 80) / 9 * 9)))) fun σC_20 =>
  again (s.1 + 1, v3_3, σC_20))
  else again (s.1 + 1, v3_3, s.2.2))
  else q_bd ((v3_3 / 8) - (v3_3 / 8) / 10 * 10) fun v6_8 =>
  q_cl (f_X1_reasonAgainst s.2.2 r_5 v6_8) fun r_10 =>
  if r_10 = 0 then (q_cl (f_X1_act s.2.2 r_5 v6_8 ((10 : Int32) * ((1 : Int32) + ((v3_3 / 80) - (v3_3 / 80) / 9 * 9)))) fun σC_13 =>
  again (s.1 + 1, v3_3, σC_13))
  else again (s.1 + 1, v3_3, s.2.2)
def f_X1_liveYear (σC : qS) (a1 : Int32) (a2 : Int32) : Option (qS) :=
    q_lp (b_X1_liveYear_5 a2) (fun z1 => some z1.2.2) 20000 ((0 : Int32), a1, σC)
def f_X1_copyFrom (σC : qS) (σD : qS) : Option (qS) :=
    q_bd (q_up σC 0 (σD 0)) fun σC_1 =>
  q_bd (q_up σC_1 1 (σD 1)) fun σC_3 =>
  q_bd (q_up σC_3 2 (σD 2)) fun σC_5 =>
  q_bd (q_up σC_5 3 (σD 3)) fun σC_7 =>
  q_bd (q_up σC_7 4 (σD 4)) fun σC_9 =>
  q_bd (q_up σC_9 5 (σD 5)) fun σC_11 =>
  q_bd (q_up σC_11 6 (σD 6)) fun σC_13 =>
  q_bd (q_pt σC_13 7 (σD 99 7)) fun σC_15 =>
  q_bd (q_pt σC_15 8 (σD 99 8)) fun σC_17 =>
  q_bd (q_pt σC_17 9 (σD 99 9)) fun σC_19 =>
  q_bd (q_pt σC_19 10 (σD 99 10)) fun σC_21 =>
  q_bd (q_pt σC_21 11 (σD 99 11)) fun σC_23 =>
  some σC_23
end
section
def f_X3_size (σP : qS) : Option (Int32) :=
    some (σP 99 1)
def f_X3_add (σP : qS) (a1 : Int32) : Option (Int32 × qS) :=
    q_cl (f_X6_within (σP 99 1) (0 : Int32) (59 : Int32)) fun r_1 =>
  if r_1 = 0 then (some ((0 : Int32), σP))
  else q_wr σP 0 60 (σP 99 1) a1 fun σP_4 =>
  q_bd (q_pt σP_4 1 ((σP_4 99 1) + 1)) fun σP_7 =>
  some ((1 : Int32), σP_7)
def f_X3_clear (σP : qS) : Option (qS) :=
    q_bd (q_pt σP 1 (0 : Int32)) fun σP_1 =>
  some σP_1
def f_X3_signAt (σP : qS) (a1 : Int32) : Option (Int32) :=
    q_cl (f_X6_within a1 (0 : Int32) (59 : Int32)) fun r_1 =>
  if r_1 = 0 then (some (-6 : Int32))
  else if (σP 99 1) ≤ a1 then (some (-6 : Int32))
  else q_rd σP 0 60 a1 fun r_5 =>
  some r_5
def f_X3_digitAt (σP : qS) (a1 : Int32) : Option (Int32) :=
    q_cl (f_X3_signAt σP a1) fun r_1 =>
  some (r_1 - 48)
def f_X3_placeAt (σP : qS) (a1 : Int32) : Option (Int32) :=
    q_cl (f_X3_signAt σP a1) fun r_1 =>
  q_cl (f_X6_within r_1 (65 : Int32) (74 : Int32)) fun r_3 =>
  if r_3 = 0 then (if r_1 = 107 then (some (10 : Int32))
  else some (-6 : Int32))
  else some (r_1 - 65)
def f_X3_kindAt (σP : qS) (a1 : Int32) : Option (Int32) :=
    q_cl (f_X3_signAt σP a1) fun r_1 =>
  if r_1 = 42 then (some (2 : Int32))
  else if r_1 = 46 then (some (4 : Int32))
  else if r_1 = 61 then (some (0 : Int32))
  else if r_1 = 126 then (some (3 : Int32))
  else q_cl (f_X3_placeAt σP a1) fun r_7 =>
  if r_7 = (-6) then (some (-6 : Int32))
  else some (1 : Int32)
def f_X3_whatAt (σP : qS) (a1 : Int32) : Option (Int32) :=
    q_cl (f_X3_kindAt σP a1) fun r_1 =>
  if r_1 = 0 then (q_cl (f_X3_digitAt σP (a1 + 1)) fun r_6 =>
  some r_6)
  else q_cl (f_X3_placeAt σP a1) fun r_4 =>
  some r_4
def b_X3_faultPlace_2 (σP : qS) (k again : Int32 → Option (Int32)) (s : Int32) : Option (Int32) :=
    if (σP 99 1) ≤ s then (k s)
  else q_cl (f_X3_kindAt σP s) fun r_3 =>
  if r_3 = (-6) then (some s)
  else if r_3 = 0 then (q_cl (f_X3_digitAt σP (s + 1)) fun r_23 =>
  q_cl (f_X6_within r_23 (0 : Int32) (9 : Int32)) fun r_25 =>
  if r_25 = 0 then (some (s + 1))
  else if r_3 = 0 then (q_cl (f_X3_digitAt σP (s + 2)) fun r_34 =>
  q_cl (f_X6_within r_34 (1 : Int32) (9 : Int32)) fun r_36 =>
  if r_36 = 0 then (some (s + 2))
  else if r_3 = 0 then (q_bd (s + 3) fun v1_42 =>
  again v1_42)
  else q_bd (s + 1) fun v1_40 =>
  again v1_40)
  else if r_3 = 0 then (q_bd (s + 3) fun v1_32 =>
  again v1_32)
  else q_bd (s + 1) fun v1_30 =>
  again v1_30)
  else if r_3 = 0 then (q_cl (f_X3_digitAt σP (s + 2)) fun r_13 =>
  q_cl (f_X6_within r_13 (1 : Int32) (9 : Int32)) fun r_15 =>
  if r_15 = 0 then (some (s + 2))
  else if r_3 = 0 then (q_bd (s + 3) fun v1_21 =>
  again v1_21)
  else q_bd (s + 1) fun v1_19 =>
  again v1_19)
  else if r_3 = 0 then (q_bd (s + 3) fun v1_11 =>
  again v1_11)
  else q_bd (s + 1) fun v1_9 =>
  again v1_9
def f_X3_faultPlace (σP : qS) : Option (Int32) :=
    q_lp (b_X3_faultPlace_2 σP) (fun _ => some (-6 : Int32)) 20000 (0 : Int32)
def f_X2_actOn (σN : qS) (σD : qS) (a2 : Int32) (a3 : Int32) (a4 : Int32) : Option (qS × qS) :=
    q_cl (f_X1_panFact σD (0 : Int32)) fun r_1 =>
  q_cl (f_X1_beliefOf σD r_1) fun r_3 =>
  q_cl (f_X1_act σD a2 a3 a4) fun σD_5 =>
  if (σN 99 4) = (-6) then (q_cl (f_X1_beliefOf σD_5 r_1) fun r_15 =>
  if r_15 = r_3 then (if a2 = 2 then (q_bd (q_pt σN 1 ((σN 99 1) + 1)) fun σN_21 =>
  q_bd (q_pt σN_21 0 ((σN_21 99 0) + 1)) fun σN_23 =>
  some (σN_23, σD_5))
  else q_bd (q_pt σN 0 ((σN 99 0) + 1)) fun σN_19 =>
  some (σN_19, σD_5))
  else q_bd (q_pt σN 4 (σN 99 0)) fun σN_25 =>
  q_bd (q_pt σN_25 5 r_1) fun σN_27 =>
  if a2 = 2 then (q_bd (q_pt σN_27 1 ((σN_27 99 1) + 1)) fun σN_32 =>
  q_bd (q_pt σN_32 0 ((σN_32 99 0) + 1)) fun σN_34 =>
  some (σN_34, σD_5))
  else q_bd (q_pt σN_27 0 ((σN_27 99 0) + 1)) fun σN_30 =>
  some (σN_30, σD_5))
  else if a2 = 2 then (q_bd (q_pt σN 1 ((σN 99 1) + 1)) fun σN_11 =>
  q_bd (q_pt σN_11 0 ((σN_11 99 0) + 1)) fun σN_13 =>
  some (σN_13, σD_5))
  else q_bd (q_pt σN 0 ((σN 99 0) + 1)) fun σN_9 =>
  some (σN_9, σD_5)
def b_X2_pass_54 (σP : qS) (k again : (Int32 × qS × qS) → Option (Int32 × qS × qS)) (s : Int32 × qS × qS) : Option (Int32 × qS × qS) :=
    q_cl (f_X3_size σP) fun r_19 =>
  if r_19 ≤ s.1 then (k (s.1, s.2.1, s.2.2))
  else q_cl (f_X3_kindAt σP s.1) fun r_22 =>
  q_cl (f_X3_whatAt σP s.1) fun r_24 =>
  q_cl (f_X1_reasonAgainst s.2.2 r_22 r_24) fun r_26 =>
  if r_26 = 0 then (q_cl (f_X3_whatAt σP s.1) fun r_29 =>
  q_cl (f_X3_digitAt σP (s.1 + 2)) fun r_31 =>
  q_cl (f_X2_actOn s.2.1 s.2.2 r_22 r_29 ((10 : Int32) * r_31)) fun y_36 =>
  if r_22 = 0 then (q_bd (s.1 + 3) fun v4_40 =>
  again (v4_40, y_36.1, y_36.2))
  else q_bd (s.1 + 1) fun v4_38 =>
  again (v4_38, y_36.1, y_36.2))
  else q_bd (q_pt s.2.1 2 (s.2.1 99 0)) fun σN_42 =>
  q_bd (q_pt σN_42 3 r_26) fun σN_44 =>
  some ((-3 : Int32), σN_44, s.2.2)
def f_X2_pass (σN : qS) (σP : qS) (σD : qS) (σC : qS) : Option (Int32 × qS × qS) :=
    q_bd (q_pt σN 0 (0 : Int32)) fun σN_1 =>
  q_bd (q_pt σN_1 1 (0 : Int32)) fun σN_3 =>
  q_bd (q_pt σN_3 2 (-6 : Int32)) fun σN_5 =>
  q_bd (q_pt σN_5 3 (-6 : Int32)) fun σN_7 =>
  q_bd (q_pt σN_7 4 (-6 : Int32)) fun σN_9 =>
  q_bd (q_pt σN_9 5 (-6 : Int32)) fun σN_11 =>
  q_cl (f_X3_faultPlace σP) fun r_13 =>
  if r_13 = (-6) then (q_cl (f_X1_copyFrom σD σC) fun σD_16 =>
  q_lp (b_X2_pass_54 σP) (fun z18 => some ((0 : Int32), z18.2.1, z18.2.2)) 20000 ((0 : Int32), σN_11, σD_16))
  else some ((-5 : Int32), σN_11, σD)
end
section
def f_X5_leastWay (σW : qS) (a1 : Int32) (a2 : Int32) : Option (Int32) :=
    q_cl (f_X6_isPlace a1) fun r_1 =>
  if r_1 = 0 then (some (1000 : Int32))
  else q_cl (f_X6_isPlace a2) fun r_4 =>
  if r_4 = 0 then (some (1000 : Int32))
  else q_rd σW 0 121 ((a1 * 11) + a2) fun r_7 =>
  some r_7
def b_X5_shortenPast_2 (a1 : Int32) (a2 : Int32) (k again : (Int32 × qS) → Option (qS)) (s : Int32 × qS) : Option (qS) :=
    if (11 : Int32) ≤ s.1 then (k (s.1, s.2))
  else q_cl (f_X5_leastWay s.2 a2 a1) fun r_3 =>
  q_cl (f_X5_leastWay s.2 a1 s.1) fun r_5 =>
  q_bd (r_3 + r_5) fun v4_7 =>
  q_cl (f_X5_leastWay s.2 a2 s.1) fun r_9 =>
  if r_9 ≤ v4_7 then (again (s.1 + 1, s.2))
  else q_cl (f_X6_isPlace a2) fun r_12 =>
  if r_12 = 0 then (again (s.1 + 1, s.2))
  else q_wr s.2 0 121 ((a2 * 11) + s.1) v4_7 fun σW_15 =>
  again (s.1 + 1, σW_15)
def f_X5_shortenPast (σW : qS) (a1 : Int32) (a2 : Int32) : Option (qS) :=
    q_lp (b_X5_shortenPast_2 a1 a2) (fun z1 => some z1.2) 20000 ((0 : Int32), σW)
def b_X5_measure_82 (v2_2 : Int32) (k again : (Int32 × qS) → Option (qS)) (s : Int32 × qS) : Option (qS) :=
    if (11 : Int32) ≤ s.1 then (k (s.1, s.2))
  else q_cl (f_X5_shortenPast s.2 v2_2 s.1) fun σW_6 =>
  again (s.1 + 1, σW_6)
def b_X5_measure_74 (k again : (Int32 × qS) → Option (qS)) (s : Int32 × qS) : Option (qS) :=
    if (11 : Int32) ≤ s.1 then (k (s.1, s.2))
  else q_lp (b_X5_measure_82 s.1) (fun z4 => again (s.1 + 1, z4.2)) 20000 ((0 : Int32), s.2)
def b_X5_measure_10 (σC : qS) (v2_1 : Int32) (k again : (Int32 × qS) → Option (qS)) (s : Int32 × qS) : Option (qS) :=
    if (11 : Int32) ≤ s.1 then (k (s.1, s.2))
  else q_cl (f_X1_longBetween σC v2_1 s.1) fun r_14 =>
  if r_14 ≤ 0 then (q_wr s.2 0 121 ((v2_1 * 11) + s.1) (1000 : Int32) fun σW_17 =>
  again (s.1 + 1, σW_17))
  else q_wr s.2 0 121 ((v2_1 * 11) + s.1) r_14 fun σW_20 =>
  again (s.1 + 1, σW_20)
def b_X5_measure_2 (σC : qS) (k again : (Int32 × qS) → Option (qS)) (s : Int32 × qS) : Option (qS) :=
    if (11 : Int32) ≤ s.1 then (k (s.1, s.2))
  else q_lp (b_X5_measure_10 σC s.1) (fun z9 => q_wr z9.2 0 121 ((s.1 * 11) + s.1) (0 : Int32) fun σW_10 =>
  again (s.1 + 1, σW_10)) 20000 ((0 : Int32), s.2)
def f_X5_measure (σW : qS) (σC : qS) : Option (qS) :=
    q_lp (b_X5_measure_2 σC) (fun z1 => q_lp (b_X5_measure_74) (fun z2 => some z2.2) 20000 ((0 : Int32), z1.2)) 20000 ((0 : Int32), σW)
def f_X5_howFar (σW : qS) (a1 : Int32) (a2 : Int32) : Option (Int32) :=
    q_cl (f_X5_leastWay σW a1 a2) fun r_1 =>
  if (1000 : Int32) ≤ r_1 then (some (-6 : Int32))
  else some r_1
def b_X5_nextPlace_26 (σW : qS) (σC : qS) (a2 : Int32) (a3 : Int32) (r_1 : Int32) (k again : Int32 → Option (Int32)) (s : Int32) : Option (Int32) :=
    if (11 : Int32) ≤ s then (k s)
  else q_cl (f_X1_longBetween σC a2 s) fun r_7 =>
  if r_7 ≤ 0 then (again (s + 1))
  else q_cl (f_X5_leastWay σW s a3) fun r_10 =>
  if (r_7 + r_10) = r_1 then (some s)
  else again (s + 1)
def f_X5_nextPlace (σW : qS) (σC : qS) (a2 : Int32) (a3 : Int32) : Option (Int32) :=
    q_cl (f_X5_howFar σW a2 a3) fun r_1 =>
  if r_1 = (-6) then (some (-6 : Int32))
  else if a2 = a3 then (some (-6 : Int32))
  else q_lp (b_X5_nextPlace_26 σW σC a2 a3 r_1) (fun _ => some (-6 : Int32)) 20000 (0 : Int32)
def b_X5_findNeighbours_13 (σC : qS) (v2_1 : Int32) (k again : (Int32 × Int32) → Option (qS)) (s : Int32 × Int32) : Option (qS) :=
    if (11 : Int32) ≤ s.1 then (k (s.1, s.2))
  else q_cl (f_X1_longBetween σC v2_1 s.1) fun r_8 =>
  if r_8 ≤ 0 then (again (s.1 + 1, s.2))
  else q_bd (s.2 ||| ((1 : Int32) <<< (s.1 &&& 31))) fun v3_11 =>
  again (s.1 + 1, v3_11)
def b_X5_findNeighbours_2 (σC : qS) (k again : (Int32 × qS) → Option (qS)) (s : Int32 × qS) : Option (qS) :=
    if (11 : Int32) ≤ s.1 then (k (s.1, s.2))
  else q_lp (b_X5_findNeighbours_13 σC s.1) (fun z3 => q_wr s.2 1 11 s.1 z3.2 fun σW_4 =>
  again (s.1 + 1, σW_4)) 20000 ((0 : Int32), (0 : Int32))
def f_X5_findNeighbours (σW : qS) (σC : qS) : Option (qS) :=
    q_lp (b_X5_findNeighbours_2 σC) (fun z1 => some z1.2) 20000 ((0 : Int32), σW)
def b_X5_leadsTo_28 (σW : qS) (a2 : Int32) (v3_1 : Int32) (k again : (Int32 × Int32) → Option (Int32)) (s : Int32 × Int32) : Option (Int32) :=
    if (11 : Int32) ≤ s.1 then (k (s.1, s.2))
  else q_cl (f_X6_isIn s.1 v3_1) fun r_11 =>
  if r_11 = 0 then (again (s.1 + 1, s.2))
  else q_rd σW 1 11 s.1 fun r_14 =>
  q_bd (s.2 ||| (r_14 &&& (a2 ^^^ (-1)))) fun v5_17 =>
  again (s.1 + 1, v5_17)
def b_X5_leadsTo_7 (σW : qS) (a1 : Int32) (a2 : Int32) (k again : (Int32 × Int32) → Option (Int32)) (s : Int32 × Int32) : Option (Int32) :=
    if (11 : Int32) ≤ s.1 then (k (s.1, s.2))
  else q_cl (f_X6_isIn a1 s.2) fun r_6 =>
  if r_6 = 0 then (q_lp (b_X5_leadsTo_28 σW a2 s.2) (fun z9 => again (s.1 + 1, z9.2)) 20000 ((0 : Int32), s.2))
  else k (s.1, s.2)
def f_X5_leadsTo (σW : qS) (a1 : Int32) (a2 : Int32) : Option (Int32) :=
    q_lp (b_X5_leadsTo_7 σW a1 a2) (fun z1 => q_cl (f_X6_isIn a1 z1.2) fun r_2 =>
  q_chk (q_isB r_2) <| some r_2) 20000 ((0 : Int32), (1024 : Int32))
def b_X5_fewestDamp_24 (a2 : Int32) (σW_4 : qS) (k again : (Int32 × Int32) → Option (Int32 × qS)) (s : Int32 × Int32) : Option (Int32 × qS) :=
    if (1024 : Int32) ≤ s.1 then (k (s.1, s.2))
  else if s.2 = (-6) then (q_cl (f_X6_isIn a2 s.1) fun r_10 =>
  if r_10 = 0 then (q_cl (f_X5_leadsTo σW_4 a2 s.1) fun r_13 =>
  if r_13 = 0 then (again (s.1 + 1, s.1))
  else again (s.1 + 1, s.2))
  else again (s.1 + 1, s.2))
  else q_cl (f_J6_bitCount_0f7a4 s.1) fun r_16 =>
  q_cl (f_J6_bitCount_0f7a4 s.2) fun r_18 =>
  if r_18 ≤ r_16 then (again (s.1 + 1, s.2))
  else q_cl (f_X6_isIn a2 s.1) fun r_23 =>
  if r_23 = 0 then (q_cl (f_X5_leadsTo σW_4 a2 s.1) fun r_26 =>
  if r_26 = 0 then (again (s.1 + 1, s.1))
  else again (s.1 + 1, s.2))
  else again (s.1 + 1, s.2)
def f_X5_fewestDamp (σW : qS) (σC : qS) (a2 : Int32) : Option (Int32 × qS) :=
    q_cl (f_X1_longBetween σC (10 : Int32) a2) fun r_1 =>
  if r_1 ≤ 0 then (q_cl (f_X5_findNeighbours σW σC) fun σW_4 =>
  q_lp (b_X5_fewestDamp_24 a2 σW_4) (fun z6 => some (z6.2, σW_4)) 20000 ((0 : Int32), (-6 : Int32)))
  else some ((-6 : Int32), σW)
end
section
def f_X5_heatLeft (σW : qS) (σH : qS) (a1 : Int32) (a2 : Int32) : Option (Int32) :=
    q_cl (f_X6_within a1 (0 : Int32) (1023 : Int32)) fun r_1 =>
  if r_1 = 0 then (some (-1 : Int32))
  else q_cl (f_X6_isHouse a2) fun r_5 =>
  if r_5 = 0 then (some (-1 : Int32))
  else q_rd σH 0 10240 ((a1 * 10) + a2) fun r_10 =>
  some r_10
def f_X5_warm (σW : qS) (σH : qS) (σC : qS) (a2 : Int32) (a3 : Int32) (a4 : Int32) : Option (qS) :=
    q_cl (f_X1_isDamp σC a3) fun r_1 =>
  if r_1 = 0 then (q_cl (f_X1_isConvinced σC a3 a4) fun r_4 =>
  if r_4 = 0 then (some σH)
  else q_bd (if (0 : Int32) < (a4 - 5) then (a4 - 5) else 0) fun v5_7 =>
  q_cl (f_X5_heatLeft σW σH a2 a3) fun r_9 =>
  if v5_7 ≤ r_9 then (some σH)
  else q_cl (f_X6_within a2 (0 : Int32) (1023 : Int32)) fun r_12 =>
  if r_12 = 0 then (some σH)
  else q_cl (f_X6_isHouse a3) fun r_15 =>
  if r_15 = 0 then (some σH)
  else q_wr σH 0 10240 ((a2 * 10) + a3) v5_7 fun σH_18 =>
  some σH_18)
  else some σH
def b_X5_goOn_35 (σW : qS) (σC : qS) (a2 : Int32) (v4_1 : Int32) (r_4 : Int32) (k again : (Int32 × qS) → Option (Int32 × qS)) (s : Int32 × qS) : Option (Int32 × qS) :=
    if (10 : Int32) ≤ s.1 then (k (s.1, s.2))
  else q_cl (f_X6_isIn s.1 a2) fun r_9 =>
  if r_9 = 0 then (q_cl (f_X5_leastWay σW v4_1 s.1) fun r_12 =>
  q_cl (f_X5_warm σW s.2 σC (a2 ||| ((1 : Int32) <<< (s.1 &&& 31))) s.1 (r_4 - r_12)) fun σH_14 =>
  again (s.1 + 1, σH_14))
  else again (s.1 + 1, s.2)
def b_X5_goOn_5 (σW : qS) (σC : qS) (a2 : Int32) (k again : (Int32 × Int32 × qS) → Option (Int32 × qS)) (s : Int32 × Int32 × qS) : Option (Int32 × qS) :=
    if (10 : Int32) ≤ s.1 then (k (s.1, s.2.1, s.2.2))
  else q_cl (f_X5_heatLeft σW s.2.2 a2 s.1) fun r_4 =>
  if r_4 = (-1) then (again (s.1 + 1, s.2.1, s.2.2))
  else q_lp (b_X5_goOn_35 σW σC a2 s.1 r_4) (fun z7 => again (s.1 + 1, (1 : Int32), z7.2)) 20000 ((0 : Int32), s.2.2)
def f_X5_goOn (σW : qS) (σH : qS) (σC : qS) (a2 : Int32) : Option (Int32 × qS) :=
    q_lp (b_X5_goOn_5 σW σC a2) (fun z1 => q_chk (q_isB z1.2.1) <| some (z1.2.1, z1.2.2)) 20000 ((0 : Int32), (0 : Int32), σH)
def b_X5_bestRound_66 (σC : qS) (σW_1 : qS) (k again : (Int32 × qS × Int32) → Option (Int32 × qS × qS)) (s : Int32 × qS × Int32) : Option (Int32 × qS × qS) :=
    if (1024 : Int32) ≤ s.1 then (k (s.1, s.2.1, s.2.2))
  else q_cl (f_X5_goOn σW_1 s.2.1 σC s.1) fun y_13 =>
  if y_13.1 = 0 then (again (s.1 + 1, y_13.2, s.2.2))
  else q_cl (f_J6_bitCount_0f7a4 s.1) fun r_15 =>
  q_cl (f_J6_bitCount_0f7a4 s.2.2) fun r_17 =>
  if r_15 ≤ r_17 then (again (s.1 + 1, y_13.2, s.2.2))
  else again (s.1 + 1, y_13.2, s.1)
def b_X5_bestRound_31 (σC : qS) (a2 : Int32) (σW_1 : qS) (k again : (Int32 × qS) → Option (Int32 × qS × qS)) (s : Int32 × qS) : Option (Int32 × qS × qS) :=
    if (10 : Int32) ≤ s.1 then (k (s.1, s.2))
  else q_cl (f_X5_leastWay σW_1 (10 : Int32) s.1) fun r_21 =>
  q_cl (f_X5_warm σW_1 s.2 σC ((1 : Int32) <<< (s.1 &&& 31)) s.1 (a2 - r_21)) fun σH_23 =>
  again (s.1 + 1, σH_23)
def f_X5_bestRound (σW : qS) (σH : qS) (σC : qS) (a2 : Int32) : Option (Int32 × qS × qS) :=
    q_cl (f_X5_measure σW σC) fun σW_1 =>
  q_cl (f_J7_fill_53178 10240 (fun _ => σH 0) (-1 : Int32)) fun σt_3 =>
  q_bd (q_up σH 0 (σt_3 0)) fun σH_5 =>
  q_lp (b_X5_bestRound_31 σC a2 σW_1) (fun z7 => q_lp (b_X5_bestRound_66 σC σW_1) (fun z8 => some (z8.2.2, σW_1, z8.2.1)) 20000 ((1 : Int32), z7.2, (0 : Int32))) 20000 ((0 : Int32), σH_5)
def b_X5_bestRound_n_66 (σC : qS) (σW_1 : qS) (k again : (Int32 × qS × Int32) → Option (Int32 × qS × qS)) (s : Int32 × qS × Int32) : Option (Int32 × qS × qS) :=
    if (1024 : Int32) ≤ s.1 then (k (s.1, s.2.1, s.2.2))
  else q_cl (f_X5_goOn σW_1 s.2.1 σC s.1) fun y_14 =>
  if y_14.1 = 0 then (again (s.1 + 1, y_14.2, s.2.2))
  else q_cl (f_J6_bitCount_0f7a4 s.1) fun r_16 =>
  q_cl (f_J6_bitCount_0f7a4 s.2.2) fun r_18 =>
  if r_16 ≤ r_18 then (again (s.1 + 1, y_14.2, s.2.2))
  else again (s.1 + 1, y_14.2, s.1)
def b_X5_bestRound_n_31 (σC : qS) (a2 : Int32) (σW_1 : qS) (k again : (Int32 × qS) → Option (Int32 × qS × qS)) (s : Int32 × qS) : Option (Int32 × qS × qS) :=
    if (10 : Int32) ≤ s.1 then (k (s.1, s.2))
  else q_cl (f_X5_leastWay σW_1 (10 : Int32) s.1) fun r_22 =>
  q_cl (f_X5_warm σW_1 s.2 σC ((1 : Int32) <<< (s.1 &&& 31)) s.1 (a2 - r_22)) fun σH_24 =>
  again (s.1 + 1, σH_24)
def f_X5_bestRound_n (σW : qS) (σC : qS) (a2 : Int32) : Option (Int32 × qS × qS) :=
    q_cl (f_X5_measure σW σC) fun σW_1 =>
  q_cl (f_J7_fill_53178 10240 (fun _ => (fun _ _ => 0) 0) (-1 : Int32)) fun σt_4 =>
  q_bd (q_up (fun _ _ => 0) 0 (σt_4 0)) fun σH_6 =>
  q_lp (b_X5_bestRound_n_31 σC a2 σW_1) (fun z8 => q_lp (b_X5_bestRound_n_66 σC σW_1) (fun z9 => some (z9.2.2, σW_1, z9.2.1)) 20000 ((1 : Int32), z8.2, (0 : Int32))) 20000 ((0 : Int32), σH_6)
end
section
def b_X4_fadeAll_13 (σC : qS) (v2_1 : Int32) (k again : (Int32 × Int32 × qS) → Option (qS)) (s : Int32 × Int32 × qS) : Option (qS) :=
    if (41 : Int32) ≤ s.1 then (k (s.1, s.2.1, s.2.2))
  else q_wr s.2.2 0 410 ((v2_1 * 41) + s.1) s.2.1 fun σY_5 =>
  q_cl (f_X1_fadesInto σC s.2.1) fun r_8 =>
  again (s.1 + 1, r_8, σY_5)
def b_X4_fadeAll_2 (σC : qS) (k again : (Int32 × qS) → Option (qS)) (s : Int32 × qS) : Option (qS) :=
    if (10 : Int32) ≤ s.1 then (k (s.1, s.2))
  else q_lp (b_X4_fadeAll_13 σC s.1) (fun z3 => again (s.1 + 1, z3.2.2)) 20000 ((0 : Int32), s.1, s.2)
def f_X4_fadeAll (σY : qS) (σC : qS) : Option (qS) :=
    q_lp (b_X4_fadeAll_2 σC) (fun z1 => some z1.2) 20000 ((0 : Int32), σY)
def f_X4_taleInBed (σY : qS) (a1 : Int32) (a2 : Int32) (a3 : Int32) : Option (Int32) :=
    q_cl (f_X6_isTale a1) fun r_1 =>
  if r_1 = 0 then (some (-6 : Int32))
  else if a2 ≤ 0 then (some (-6 : Int32))
  else q_cl (f_X6_within a3 (0 : Int32) (40 : Int32)) fun r_7 =>
  if r_7 = 0 then (some (-6 : Int32))
  else q_nz a2 <|
  q_rd σY 0 410 ((a1 * 41) + (a3 / a2)) fun r_13 =>
  some r_13
def b_X4_isSo_3 (σY : qS) (σC : qS) (a2 : Int32) (a3 : Int32) (k again : Int32 → Option (Int32)) (s : Int32) : Option (Int32) :=
    q_cl (f_X1_sightCount σC) fun r_2 =>
  if r_2 ≤ s then (k s)
  else q_cl (f_X1_sightBed σC s) fun r_5 =>
  q_cl (f_X4_taleInBed σY a2 a3 r_5) fun r_7 =>
  q_cl (f_X1_sightTale σC s) fun r_9 =>
  if r_7 = r_9 then (again (s + 1))
  else some (0 : Int32)
def f_X4_isSo (σY : qS) (σC : qS) (a2 : Int32) (a3 : Int32) : Option (Int32) :=
    q_lp (b_X4_isSo_3 σY σC a2 a3) (fun _ => some (1 : Int32)) 20000 (0 : Int32)
def b_X4_gather_20 (σC : qS) (v2_5 : Int32) (k again : (Int32 × qS) → Option (qS)) (s : Int32 × qS) : Option (qS) :=
    if (5 : Int32) < s.1 then (k (s.1, s.2))
  else q_cl (f_X4_isSo s.2 σC v2_5 s.1) fun r_9 =>
  if r_9 = 0 then (again (s.1 + 1, s.2))
  else q_cl (f_X6_within (s.2 99 3) (0 : Int32) (49 : Int32)) fun r_12 =>
  if r_12 = 0 then (again (s.1 + 1, s.2))
  else q_wr s.2 1 50 (s.2 99 3) (((10 : Int32) * v2_5) + s.1) fun σY_15 =>
  q_bd (q_pt σY_15 3 ((σY_15 99 3) + 1)) fun σY_18 =>
  again (s.1 + 1, σY_18)
def b_X4_gather_12 (σC : qS) (k again : (Int32 × qS) → Option (qS)) (s : Int32 × qS) : Option (qS) :=
    if (10 : Int32) ≤ s.1 then (k (s.1, s.2))
  else q_lp (b_X4_gather_20 σC s.1) (fun z7 => again (s.1 + 1, z7.2)) 20000 ((1 : Int32), s.2)
def f_X4_gather (σY : qS) (σC : qS) : Option (qS) :=
    q_cl (f_X4_fadeAll σY σC) fun σY_1 =>
  q_bd (q_pt σY_1 3 (0 : Int32)) fun σY_3 =>
  q_lp (b_X4_gather_12 σC) (fun z5 => some z5.2) 20000 ((0 : Int32), σY_3)
def f_X4_size (σY : qS) : Option (Int32) :=
    some (σY 99 3)
def f_X4_pick (σY : qS) (a1 : Int32) : Option (Int32) :=
    q_cl (f_X6_within a1 (0 : Int32) (49 : Int32)) fun r_1 =>
  if r_1 = 0 then (some (-6 : Int32))
  else if (σY 99 3) ≤ a1 then (some (-6 : Int32))
  else q_rd σY 1 50 a1 fun r_5 =>
  some r_5
def b_X4_mostLeft_12 (a1 : Int32) (k again : (Int32 × Int32 × qS) → Option (Int32 × qS)) (s : Int32 × Int32 × qS) : Option (Int32 × qS) :=
    if (s.2.2 99 3) ≤ s.1 then (k (s.1, s.2.1, s.2.2))
  else q_cl (f_X4_pick s.2.2 s.1) fun r_7 =>
  q_cl (f_X4_taleInBed s.2.2 (r_7 / 10) (r_7 - r_7 / 10 * 10) a1) fun r_9 =>
  q_cl (f_X6_isTale r_9) fun r_11 =>
  if r_11 = 0 then (again (s.1 + 1, s.2.1, s.2.2))
  else q_rd s.2.2 2 10 r_9 fun r_14 =>
  q_wr s.2.2 2 10 r_9 (r_14 + 1) fun σY_17 =>
  q_rd σY_17 2 10 r_9 fun r_20 =>
  q_bd (if s.2.1 < r_20 then r_20 else s.2.1) fun v2_23 =>
  again (s.1 + 1, v2_23, σY_17)
def f_X4_mostLeft (σY : qS) (a1 : Int32) : Option (Int32 × qS) :=
    q_cl (f_J7_fill_53178 10 (fun _ => σY 2) (0 : Int32)) fun σt_1 =>
  q_bd (q_up σY 2 (σt_1 0)) fun σY_3 =>
  q_lp (b_X4_mostLeft_12 a1) (fun z5 => some (z5.2.1, z5.2.2)) 20000 ((0 : Int32), (0 : Int32), σY_3)
def b_X4_bedToAsk_20 (k again : (Int32 × qS × Int32 × Int32) → Option (Int32 × qS)) (s : Int32 × qS × Int32 × Int32) : Option (Int32 × qS) :=
    if (41 : Int32) ≤ s.1 then (k (s.1, s.2.1, s.2.2.1, s.2.2.2))
  else q_cl (f_X4_mostLeft s.2.1 s.1) fun y_11 =>
  if s.2.2.1 ≤ y_11.1 then (again (s.1 + 1, y_11.2, s.2.2.1, s.2.2.2))
  else again (s.1 + 1, y_11.2, y_11.1, s.1)
def f_X4_bedToAsk (σY : qS) : Option (Int32 × qS) :=
    if (σY 99 3) = 0 then (some ((-6 : Int32), σY))
  else q_cl (f_X4_mostLeft σY (0 : Int32)) fun y_5 =>
  q_lp (b_X4_bedToAsk_20) (fun z6 => some (z6.2.2.2, z6.2.1)) 20000 ((1 : Int32), y_5.2, y_5.1, (0 : Int32))
def b_X0_weigh_36 (a2 : Int32) (a3 : Int32) (k again : (Int32 × qL) → Option (qL)) (s : Int32 × qL) : Option (qL) :=
    if s.1 < 0 then (k (s.1, s.2))
  else q_rdL s.2 0 11 s.1 fun r_16 =>
  q_rdL s.2 1 11 s.1 fun r_19 =>
  q_wrL s.2 1 11 s.1 ((r_16 * (((10 : Int32) - a2).toInt64)) + (r_19 * (((10 : Int32) - a3).toInt64))) fun ℓK_22 =>
  if s.1 ≤ 0 then (q_wrL ℓK_22 0 11 s.1 (0 : Int64) fun ℓK_26 =>
  again (s.1 + (-1), ℓK_26))
  else q_rdL ℓK_22 0 11 (s.1 - 1) fun r_29 =>
  q_rdL ℓK_22 1 11 (s.1 - 1) fun r_32 =>
  q_wrL ℓK_22 0 11 s.1 ((r_29 * a2.toInt64) + (r_32 * a3.toInt64)) fun ℓK_35 =>
  again (s.1 + (-1), ℓK_35)
def b_X0_weigh_26 (a1 : Int32) (a2 : Int32) (a3 : Int32) (k again : (Int32 × qL) → Option (qL)) (s : Int32 × qL) : Option (qL) :=
    if a1 ≤ s.1 then (k (s.1, s.2))
  else q_lp (b_X0_weigh_36 a2 a3) (fun z14 => again (s.1 + 1, z14.2)) 20000 ((10 : Int32), s.2)
def f_X0_weigh (σK : qS) (ℓK : qL) (a1 : Int32) (a2 : Int32) (a3 : Int32) : Option (qL) :=
    q_cl (f_J7_fill_d0a16 11 (fun _ => ℓK 0) (0 : Int64)) fun ℓt_1 =>
  q_bd (q_upL ℓK 0 (ℓt_1 0)) fun ℓK_3 =>
  q_cl (f_J7_fill_d0a16 11 (fun _ => ℓK_3 1) (0 : Int64)) fun ℓt_5 =>
  q_bd (q_upL ℓK_3 1 (ℓt_5 0)) fun ℓK_7 =>
  q_wrL ℓK_7 0 11 (0 : Int32) (1 : Int64) fun ℓK_9 =>
  q_lp (b_X0_weigh_26 a1 a2 a3) (fun z12 => some z12.2) 20000 ((0 : Int32), ℓK_9)
def b_X0_rowLower_5 (a1 : Int32) (k again : (Int32 × Int64) → Option (Int64)) (s : Int32 × Int64) : Option (Int64) :=
    if a1 ≤ s.1 then (k (s.1, s.2))
  else q_bd (s.2 * 10) fun v2_3 =>
  again (s.1 + 1, v2_3)
def f_X0_rowLower (σK : qS) (ℓK : qL) (a1 : Int32) : Option (Int64) :=
    q_lp (b_X0_rowLower_5 a1) (fun z1 => some z1.2) 20000 ((0 : Int32), (1 : Int64))
def b_X0_rowUpper_13 (a4 : Int32) (a5 : Int32) (ℓK_1 : qL) (k again : (Int32 × Int64) → Option (Int64 × qL)) (s : Int32 × Int64) : Option (Int64 × qL) :=
    if (10 : Int32) < s.1 then (k (s.1, s.2))
  else q_rdL ℓK_1 0 11 s.1 fun r_5 =>
  q_rdL ℓK_1 1 11 s.1 fun r_8 =>
  q_bd (r_5 + r_8) fun v9_11 =>
  if a5 = 2 then (q_bd (s.2 + (s.1.toInt64 * v9_11)) fun v6_21 =>
  again (s.1 + 1, v6_21))
  else if s.1 = a4 then (q_bd (s.2 + v9_11) fun v6_15 =>
  again (s.1 + 1, v6_15))
  else if a5 = 1 then (if s.1 ≤ a4 then (again (s.1 + 1, s.2))
  else q_bd (s.2 + v9_11) fun v6_19 =>
  again (s.1 + 1, v6_19))
  else again (s.1 + 1, s.2)
def f_X0_rowUpper (σK : qS) (ℓK : qL) (a1 : Int32) (a2 : Int32) (a3 : Int32) (a4 : Int32) (a5 : Int32) : Option (Int64 × qL) :=
    q_cl (f_X0_weigh σK ℓK a1 a2 a3) fun ℓK_1 =>
  q_lp (b_X0_rowUpper_13 a4 a5 ℓK_1) (fun z3 => some (z3.2, ℓK_1)) 20000 ((0 : Int32), (0 : Int64))
def b_X0_leastTake_2 (σK : qS) (a1 : Int32) (k again : Int32 → Option (Int32)) (s : Int32) : Option (Int32) :=
    if a1 ≤ s then (k s)
  else q_bd (a1 - s) fun v3_3 =>
  q_cl (f_X6_within v3_3 (1 : Int32) (60 : Int32)) fun r_5 =>
  if r_5 = 0 then (again (s + 1))
  else q_rd σK 2 61 v3_3 fun r_8 =>
  if r_8 ≤ ((2 : Int32) * s) then (again (s + 1))
  else some s
def f_X0_leastTake (σK : qS) (ℓK : qL) (a1 : Int32) : Option (Int32) :=
    q_lp (b_X0_leastTake_2 σK a1) (fun _ => some a1) 20000 (1 : Int32)
def b_X0_firstTake_15 (ℓK : qL) (a1 : Int32) (k again : (Int32 × qS) → Option (Int32 × qS)) (s : Int32 × qS) : Option (Int32 × qS) :=
    if a1 < s.1 then (k (s.1, s.2))
  else q_cl (f_X0_leastTake s.2 ℓK s.1) fun r_13 =>
  q_wr s.2 2 61 s.1 r_13 fun σK_15 =>
  again (s.1 + 1, σK_15)
def f_X0_firstTake (σK : qS) (ℓK : qL) (a1 : Int32) : Option (Int32 × qS) :=
    q_cl (f_X6_within a1 (1 : Int32) (60 : Int32)) fun r_1 =>
  if r_1 = 0 then (some ((-6 : Int32), σK))
  else q_lp (b_X0_firstTake_15 ℓK a1) (fun z4 => q_rd z4.2 2 61 a1 fun r_5 =>
  if a1 ≤ r_5 then (some ((-6 : Int32), z4.2))
  else q_rd z4.2 2 61 a1 fun r_9 =>
  some (r_9, z4.2)) 20000 ((1 : Int32), σK)
end
section
def f_X6_road (σC : qS) (a1 : Int32) (a2 : Int32) (a3 : Int32) : Option (Int32 × qS) :=
    q_cl (f_X6_isPlace a1) fun r_1 =>
  if r_1 = 0 then (some ((-1 : Int32), σC))
  else q_cl (f_X6_isPlace a2) fun r_4 =>
  if r_4 = 0 then (some ((-1 : Int32), σC))
  else if a1 = a2 then (some ((-1 : Int32), σC))
  else q_cl (f_X6_within a3 (0 : Int32) (9 : Int32)) fun r_8 =>
  if r_8 = 0 then (some ((-2 : Int32), σC))
  else q_cl (f_X1_longBetween σC a1 a2) fun r_11 =>
  q_cl (f_X1_layRoad σC a1 a2 a3) fun σC_13 =>
  some (r_11, σC_13)
def f_X6_house (σC : qS) (a1 : Int32) (a2 : Int32) (a3 : Int32) : Option (Int32 × qS) :=
    q_cl (f_X6_isHouse a1) fun r_1 =>
  if r_1 = 0 then (some ((-1 : Int32), σC))
  else q_cl (f_X6_within a2 (0 : Int32) (9 : Int32)) fun r_4 =>
  if r_4 = 0 then (some ((-2 : Int32), σC))
  else q_cl (f_X6_within a3 (0 : Int32) (1 : Int32)) fun r_7 =>
  if r_7 = 0 then (some ((-2 : Int32), σC))
  else q_cl (f_X1_doubtOf σC a1) fun r_10 =>
  q_cl (f_X1_furnish σC a1 a2 a3) fun σC_12 =>
  some (r_10, σC_12)
def f_X6_tell (σC : qS) (a1 : Int32) (a2 : Int32) : Option (Int32 × qS) :=
    q_cl (f_X6_isHouse a1) fun r_1 =>
  if r_1 = 0 then (some ((-1 : Int32), σC))
  else q_cl (f_X6_isTale a2) fun r_4 =>
  if r_4 = 0 then (if a2 = (-1) then (q_cl (f_X1_beliefOf σC a1) fun r_15 =>
  if a2 = (-1) then (q_cl (f_X1_convince σC a1 (-6 : Int32)) fun σC_20 =>
  some (r_15, σC_20))
  else q_cl (f_X1_convince σC a1 a2) fun σC_18 =>
  some (r_15, σC_18))
  else some ((-1 : Int32), σC))
  else q_cl (f_X1_beliefOf σC a1) fun r_7 =>
  if a2 = (-1) then (q_cl (f_X1_convince σC a1 (-6 : Int32)) fun σC_12 =>
  some (r_7, σC_12))
  else q_cl (f_X1_convince σC a1 a2) fun σC_10 =>
  some (r_7, σC_10)
def f_X6_fade (σC : qS) (a1 : Int32) (a2 : Int32) : Option (Int32 × qS) :=
    q_cl (f_X6_isTale a1) fun r_1 =>
  if r_1 = 0 then (some ((-1 : Int32), σC))
  else q_cl (f_X6_isTale a2) fun r_4 =>
  if r_4 = 0 then (some ((-1 : Int32), σC))
  else q_cl (f_X1_fadesInto σC a1) fun r_7 =>
  q_cl (f_X1_letFade σC a1 a2) fun σC_9 =>
  some (r_7, σC_9)
def f_X6_say (σP : qS) (a1 : Int32) : Option (Int32 × qS) :=
    q_cl (f_X6_within a1 (33 : Int32) (126 : Int32)) fun r_1 =>
  if r_1 = 0 then (some ((-2 : Int32), σP))
  else q_cl (f_X3_add σP a1) fun y_7 =>
  if y_7.1 = 0 then (some ((-4 : Int32), y_7.2))
  else q_cl (f_X3_size y_7.2) fun r_9 =>
  some (r_9, y_7.2)
def f_X6_wipe (σP : qS) : Option (Int32 × qS) :=
    q_cl (f_X3_size σP) fun r_1 =>
  q_cl (f_X3_clear σP) fun σP_3 =>
  some (r_1, σP_3)
def f_X6_fault (σP : qS) : Option (Int32) :=
    q_cl (f_X3_faultPlace σP) fun r_1 =>
  some r_1
def f_X6_judge (σN : qS) (σP : qS) (σD : qS) (σC : qS) (a1 : Int32) : Option (Int32 × qS × qS) :=
    q_cl (f_X6_within a1 (0 : Int32) (2 : Int32)) fun r_1 =>
  if r_1 = 0 then (some ((-2 : Int32), σN, σD))
  else q_cl (f_X2_pass σN σP σD σC) fun y_8 =>
  if y_8.1 = (-5) then (some (y_8.1, y_8.2.1, y_8.2.2))
  else if y_8.1 = (-3) then (if a1 = 2 then (some (y_8.1, y_8.2.1, y_8.2.2))
  else if a1 = 0 then (some (y_8.2.1 99 2, y_8.2.1, y_8.2.2))
  else if a1 = 1 then (some (y_8.2.1 99 3, y_8.2.1, y_8.2.2))
  else some (y_8.2.1 99 1, y_8.2.1, y_8.2.2))
  else if a1 = 0 then (some (y_8.2.1 99 2, y_8.2.1, y_8.2.2))
  else if a1 = 1 then (some (y_8.2.1 99 3, y_8.2.1, y_8.2.2))
  else some (y_8.2.1 99 1, y_8.2.1, y_8.2.2)
def f_X6_behind (σN : qS) (σP : qS) (σD : qS) (σC : qS) (a1 : Int32) (a2 : Int32) : Option (Int32 × qS × qS) :=
    q_cl (f_X6_isHouse a1) fun r_1 =>
  if r_1 = 0 then (some ((-1 : Int32), σN, σD))
  else q_cl (f_X6_within a2 (0 : Int32) (2 : Int32)) fun r_4 =>
  if r_4 = 0 then (some ((-2 : Int32), σN, σD))
  else q_cl (f_X2_pass σN σP σD σC) fun y_11 =>
  if y_11.1 = 0 then (q_cl (f_X1_houseFact y_11.2.2 a1 a2) fun r_13 =>
  some (r_13, y_11.2.1, y_11.2.2))
  else some (y_11.1, y_11.2.1, y_11.2.2)
def f_X6_pan (σN : qS) (σP : qS) (σD : qS) (σC : qS) (a1 : Int32) : Option (Int32 × qS × qS) :=
    q_cl (f_X6_within a1 (0 : Int32) (3 : Int32)) fun r_1 =>
  if r_1 = 0 then (some ((-2 : Int32), σN, σD))
  else q_cl (f_X2_pass σN σP σD σC) fun y_8 =>
  if y_8.1 = 0 then (q_cl (f_X1_panFact y_8.2.2 a1) fun r_10 =>
  some (r_10, y_8.2.1, y_8.2.2))
  else some (y_8.1, y_8.2.1, y_8.2.2)
def f_X6_holds (σN : qS) (σP : qS) (σD : qS) (σC : qS) (a1 : Int32) : Option (Int32 × qS × qS) :=
    q_cl (f_X6_isTale a1) fun r_1 =>
  if r_1 = 0 then (some ((-1 : Int32), σN, σD))
  else q_cl (f_X2_pass σN σP σD σC) fun y_8 =>
  if y_8.1 = 0 then (q_cl (f_X1_believersOf y_8.2.2 a1) fun r_10 =>
  some (r_10, y_8.2.1, y_8.2.2))
  else some (y_8.1, y_8.2.1, y_8.2.2)
def f_X6_other (σN : qS) (σP : qS) (σD : qS) (σC : qS) (a1 : Int32) : Option (Int32 × qS × qS) :=
    q_cl (f_X6_within a1 (0 : Int32) (1 : Int32)) fun r_1 =>
  if r_1 = 0 then (some ((-2 : Int32), σN, σD))
  else q_cl (f_X2_pass σN σP σD σC) fun y_8 =>
  if y_8.1 = 0 then (if a1 = 0 then (some (y_8.2.1 99 4, y_8.2.1, y_8.2.2))
  else some (y_8.2.1 99 5, y_8.2.1, y_8.2.2))
  else some (y_8.1, y_8.2.1, y_8.2.2)
def f_X6_done (σN : qS) (σP : qS) (σD : qS) (σC : qS) : Option (Int32 × qS × qS × qS × qS) :=
    q_cl (f_X2_pass σN σP σD σC) fun y_5 =>
  if y_5.1 = 0 then (q_cl (f_X1_copyFrom σC y_5.2.2) fun σC_7 =>
  q_cl (f_X3_clear σP) fun σP_9 =>
  some (y_5.2.1 99 0, y_5.2.1, σP_9, y_5.2.2, σC_7))
  else some (y_5.1, y_5.2.1, σP, y_5.2.2, σC)
def f_X6_near (σW : qS) (σC : qS) (a1 : Int32) (a2 : Int32) (a3 : Int32) : Option (Int32 × qS) :=
    q_cl (f_X6_isPlace a1) fun r_1 =>
  if r_1 = 0 then (some ((-1 : Int32), σW))
  else q_cl (f_X6_isPlace a2) fun r_4 =>
  if r_4 = 0 then (some ((-1 : Int32), σW))
  else q_cl (f_X6_within a3 (0 : Int32) (1 : Int32)) fun r_7 =>
  if r_7 = 0 then (some ((-2 : Int32), σW))
  else q_cl (f_X5_measure σW σC) fun σW_10 =>
  if a3 = 0 then (q_cl (f_X5_howFar σW_10 a1 a2) fun r_15 =>
  some (r_15, σW_10))
  else q_cl (f_X5_nextPlace σW_10 σC a1 a2) fun r_13 =>
  some (r_13, σW_10)
def f_X6_keep (σW : qS) (σC : qS) (a1 : Int32) (a2 : Int32) : Option (Int32 × qS) :=
    q_cl (f_X6_isHouse a1) fun r_1 =>
  if r_1 = 0 then (some ((-1 : Int32), σW))
  else q_cl (f_X6_within a2 (0 : Int32) (1 : Int32)) fun r_4 =>
  if r_4 = 0 then (some ((-2 : Int32), σW))
  else q_cl (f_X5_fewestDamp σW σC a1) fun y_10 =>
  if a2 = 1 then (some (y_10.1, y_10.2))
  else if y_10.1 = (-6) then (some (y_10.1, y_10.2))
  else q_cl (f_J6_bitCount_0f7a4 y_10.1) fun r_13 =>
  some (r_13, y_10.2)
def f_X6_faded (σC : qS) (a1 : Int32) (a2 : Int32) : Option (Int32) :=
    q_cl (f_X6_isTale a1) fun r_1 =>
  if r_1 = 0 then (some (-1 : Int32))
  else q_cl (f_X6_within a2 (-2 : Int32) (99 : Int32)) fun r_4 =>
  if r_4 = 0 then (some (-2 : Int32))
  else if a2 < 0 then (if a2 = (-1) then (q_cl (f_X1_stirsToRing σC a1) fun r_11 =>
  some r_11)
  else q_cl (f_X1_stirsOfRing σC a1) fun r_9 =>
  some r_9)
  else q_cl (f_X1_behindStirs σC a1 a2) fun r_13 =>
  some r_13
def f_X6_seen (σC : qS) (a1 : Int32) (a2 : Int32) : Option (Int32 × qS) :=
    q_cl (f_X6_isTale a2) fun r_1 =>
  if r_1 = 0 then (some ((-1 : Int32), σC))
  else q_cl (f_X6_within a1 (0 : Int32) (40 : Int32)) fun r_4 =>
  if r_4 = 0 then (some ((-2 : Int32), σC))
  else q_cl (f_X1_addSight σC a1 a2) fun y_10 =>
  if y_10.1 = 0 then (some ((-4 : Int32), y_10.2))
  else q_cl (f_X1_sightCount y_10.2) fun r_12 =>
  some (r_12, y_10.2)
def f_X6_forget (σC : qS) : Option (Int32 × qS) :=
    q_cl (f_X1_sightCount σC) fun r_1 =>
  q_cl (f_X1_dropSights σC) fun σC_3 =>
  some (r_1, σC_3)
def f_X6_fits (σY : qS) (σC : qS) (a1 : Int32) : Option (Int32 × qS) :=
    q_cl (f_X4_gather σY σC) fun σY_1 =>
  if a1 = (-1) then (q_cl (f_X4_size σY_1) fun r_6 =>
  some (r_6, σY_1))
  else q_cl (f_X4_pick σY_1 a1) fun r_4 =>
  some (r_4, σY_1)
def f_X6_ask (σY : qS) (σC : qS) (a1 : Int32) : Option (Int32 × qS) :=
    q_cl (f_X6_within a1 (0 : Int32) (1 : Int32)) fun r_1 =>
  if r_1 = 0 then (some ((-2 : Int32), σY))
  else q_cl (f_X4_gather σY σC) fun σY_4 =>
  q_cl (f_X4_bedToAsk σY_4) fun y_9 =>
  if a1 = 0 then (some (y_9.1, y_9.2))
  else if y_9.1 = (-6) then (some (y_9.1, y_9.2))
  else q_cl (f_X4_mostLeft y_9.2 y_9.1) fun y_15 =>
  some (y_15.1, y_15.2)
def f_X6_row (σK : qS) (ℓK : qL) (a1 : Int32) (a2 : Int32) (a3 : Int32) (a4 : Int32) (a5 : Int32) (a6 : Int32) : Option (Int64 × qL) :=
    q_cl (f_X6_within a1 (0 : Int32) (10 : Int32)) fun r_1 =>
  if r_1 = 0 then (some ((-1000000000000000002 : Int64), ℓK))
  else q_cl (f_X6_within a2 (0 : Int32) (10 : Int32)) fun r_5 =>
  if r_5 = 0 then (some ((-1000000000000000002 : Int64), ℓK))
  else q_cl (f_X6_within a3 (0 : Int32) (10 : Int32)) fun r_9 =>
  if r_9 = 0 then (some ((-1000000000000000002 : Int64), ℓK))
  else q_cl (f_X6_within a4 (0 : Int32) a1) fun r_13 =>
  if r_13 = 0 then (some ((-1000000000000000002 : Int64), ℓK))
  else q_cl (f_X6_within a5 (0 : Int32) (2 : Int32)) fun r_17 =>
  if r_17 = 0 then (some ((-1000000000000000002 : Int64), ℓK))
  else q_cl (f_X6_within a6 (0 : Int32) (1 : Int32)) fun r_21 =>
  if r_21 = 0 then (some ((-1000000000000000002 : Int64), ℓK))
  else q_cl (f_X0_rowUpper σK ℓK a1 a2 a3 a4 a5) fun y_29 =>
  q_cl (f_X0_rowLower σK y_29.2 a1) fun r_30 =>
  q_cl (f_X6_commonPart y_29.1 r_30) fun r_32 =>
  if a6 = 0 then (if (lg_cmp r_32 (0 : Int64)) ≤ 0 then (some (y_29.1, y_29.2))
  else q_nzL r_32 <|
  some (y_29.1 / r_32, y_29.2))
  else if (lg_cmp r_32 (0 : Int64)) ≤ 0 then (some (r_30, y_29.2))
  else q_nzL r_32 <|
  some (r_30 / r_32, y_29.2)
def f_X6_embers (σK : qS) (ℓK : qL) (a1 : Int32) (a2 : Int32) : Option (Int32 × qS) :=
    q_cl (f_X6_within a1 (1 : Int32) (60 : Int32)) fun r_1 =>
  if r_1 = 0 then (some ((-2 : Int32), σK))
  else q_cl (f_X6_within a2 (0 : Int32) (1 : Int32)) fun r_4 =>
  if r_4 = 0 then (some ((-2 : Int32), σK))
  else q_cl (f_X0_firstTake σK ℓK a1) fun y_10 =>
  if a2 = 1 then (some (y_10.1, y_10.2))
  else if y_10.1 = (-6) then (some ((0 : Int32), y_10.2))
  else some ((1 : Int32), y_10.2)
def f_X6_year (σD : qS) (σC : qS) (a1 : Int32) (a2 : Int32) (a3 : Int32) : Option (Int32 × qS) :=
    q_cl (f_X6_within a1 (0 : Int32) (9999 : Int32)) fun r_1 =>
  if r_1 = 0 then (some ((-2 : Int32), σD))
  else q_cl (f_X6_within a2 (1 : Int32) (99 : Int32)) fun r_4 =>
  if r_4 = 0 then (some ((-2 : Int32), σD))
  else q_cl (f_X6_within a3 (0 : Int32) (2 : Int32)) fun r_7 =>
  if r_7 = 0 then (some ((-2 : Int32), σD))
  else q_cl (f_X1_copyFrom σD σC) fun σD_10 =>
  q_cl (f_X1_liveYear σD_10 a1 a2) fun σD_12 =>
  if a3 = 0 then (q_cl (f_X1_believers σD_12) fun r_15 =>
  some (r_15, σD_12))
  else if a3 = 1 then (q_cl (f_X1_talesBelieved σD_12) fun r_18 =>
  some (r_18, σD_12))
  else q_cl (f_X1_allDoubt σD_12) fun r_20 =>
  some (r_20, σD_12)
def f_X6_told (σP : qS) (σC : qS) (a1 : Int32) : Option (Int32) :=
    if a1 = 0 then (q_cl (f_X3_size σP) fun r_43 =>
  some r_43)
  else q_cl (f_X6_within a1 (1 : Int32) (4 : Int32)) fun r_2 =>
  if r_2 = 0 then (if a1 = 5 then (q_cl (f_X1_sightCount σC) fun r_39 =>
  some r_39)
  else q_cl (f_X6_within a1 (10 : Int32) (19 : Int32)) fun r_6 =>
  if r_6 = 0 then (q_cl (f_X6_within a1 (100 : Int32) (199 : Int32)) fun r_9 =>
  if r_9 = 0 then (q_cl (f_X6_within a1 (1000 : Int32) (1219 : Int32)) fun r_12 =>
  if r_12 = 0 then (some (-2 : Int32))
  else q_cl (f_X6_isPlace ((a1 - 1000) - (a1 - 1000) / 20 * 20)) fun r_16 =>
  if r_16 = 0 then (some (-2 : Int32))
  else q_cl (f_X1_longBetween σC ((a1 - 1000) / 20) ((a1 - 1000) - (a1 - 1000) / 20 * 20)) fun r_21 =>
  some r_21)
  else if (2 : Int32) < (a1 - a1 / 10 * 10) then (q_cl (f_X6_within a1 (1000 : Int32) (1219 : Int32)) fun r_24 =>
  if r_24 = 0 then (some (-2 : Int32))
  else q_cl (f_X6_isPlace ((a1 - 1000) - (a1 - 1000) / 20 * 20)) fun r_28 =>
  if r_28 = 0 then (some (-2 : Int32))
  else q_cl (f_X1_longBetween σC ((a1 - 1000) / 20) ((a1 - 1000) - (a1 - 1000) / 20 * 20)) fun r_33 =>
  some r_33)
  else q_cl (f_X1_houseFact σC ((a1 - 100) / 10) (a1 - a1 / 10 * 10)) fun r_35 =>
  some r_35)
  else q_cl (f_X1_fadesInto σC (a1 - 10)) fun r_37 =>
  some r_37)
  else q_cl (f_X1_panFact σC (a1 - 1)) fun r_41 =>
  some r_41
end
section
def f_X6_round (σW : qS) (σH : qS) (σC : qS) (a1 : Int32) (a2 : Int32) : Option (Int32 × qS × qS) :=
    q_cl (f_X6_within a1 (0 : Int32) (99 : Int32)) fun r_1 =>
  if r_1 = 0 then (some ((-2 : Int32), σW, σH))
  else q_cl (f_X6_within a2 (0 : Int32) (1 : Int32)) fun r_4 =>
  if r_4 = 0 then (some ((-2 : Int32), σW, σH))
  else q_cl (f_X5_bestRound σW σH σC a1) fun y_11 =>
  if a2 = 0 then (q_cl (f_J6_bitCount_0f7a4 y_11.1) fun r_13 =>
  some (r_13, y_11.2.1, y_11.2.2))
  else some (y_11.1, y_11.2.1, y_11.2.2)
def f_X6_round_n (σW : qS) (σC : qS) (a1 : Int32) (a2 : Int32) : Option (Int32 × qS × qS) :=
    q_cl (f_X6_within a1 (0 : Int32) (99 : Int32)) fun r_1 =>
  if r_1 = 0 then (none)
  else q_cl (f_X6_within a2 (0 : Int32) (1 : Int32)) fun r_4 =>
  if r_4 = 0 then (none)
  else q_cl (f_X5_bestRound_n σW σC a1) fun y_11 =>
  if a2 = 0 then (q_cl (f_J6_bitCount_0f7a4 y_11.1) fun r_14 =>
  some (r_14, y_11.2.1, y_11.2.2))
  else some (y_11.1, y_11.2.1, y_11.2.2)
def f_X6_round_x (σW : qS) (σC : qS) (a1 : Int32) (a2 : Int32) : Option (Int32) :=
    q_cl (f_X6_within a1 (0 : Int32) (99 : Int32)) fun r_1 =>
  if r_1 = 0 then (some (-2 : Int32))
  else q_cl (f_X6_within a2 (0 : Int32) (1 : Int32)) fun r_4 =>
  if r_4 = 0 then (some (-2 : Int32))
  else none
def f_X6_image_0n (σC : qS) : Option (Int32 × qS) :=
    q_cl (f_X6_within (0 : Int32) (0 : Int32) (1 : Int32)) fun r_1 =>
  if r_1 = 0 then (none)
  else q_cl (f_X1_copyFrom qC0 σC) fun σI_6 =>
  some ((1 : Int32), σI_6)
def f_X6_image_0s (σC : qS) (σI : qS) : Option (Int32 × qS) :=
    q_cl (f_X6_within (0 : Int32) (0 : Int32) (1 : Int32)) fun r_1 =>
  if r_1 = 0 then (some ((-2 : Int32), σI))
  else q_cl (f_X1_copyFrom σI σC) fun σI_4 =>
  some ((1 : Int32), σI_4)
def f_X6_restore_0n : Option (Int32) :=
    q_cl (f_X6_within (0 : Int32) (0 : Int32) (1 : Int32)) fun r_1 =>
  if r_1 = 0 then (some (-2 : Int32))
  else some (-3 : Int32)
def f_X6_restore_0s (σC : qS) (σI : qS) : Option (Int32 × qS) :=
    q_cl (f_X6_within (0 : Int32) (0 : Int32) (1 : Int32)) fun r_1 =>
  if r_1 = 0 then (some ((-2 : Int32), σC))
  else q_cl (f_X1_copyFrom σC σI) fun σC_4 =>
  some ((1 : Int32), σC_4)
def f_X6_image_1n (σC : qS) : Option (Int32 × qS) :=
    q_cl (f_X6_within (1 : Int32) (0 : Int32) (1 : Int32)) fun r_1 =>
  if r_1 = 0 then (none)
  else q_cl (f_X1_copyFrom qC0 σC) fun σI_6 =>
  some ((1 : Int32), σI_6)
def f_X6_image_1s (σC : qS) (σI : qS) : Option (Int32 × qS) :=
    q_cl (f_X6_within (1 : Int32) (0 : Int32) (1 : Int32)) fun r_1 =>
  if r_1 = 0 then (some ((-2 : Int32), σI))
  else q_cl (f_X1_copyFrom σI σC) fun σI_4 =>
  some ((1 : Int32), σI_4)
def f_X6_restore_1n : Option (Int32) :=
    q_cl (f_X6_within (1 : Int32) (0 : Int32) (1 : Int32)) fun r_1 =>
  if r_1 = 0 then (some (-2 : Int32))
  else some (-3 : Int32)
def f_X6_restore_1s (σC : qS) (σI : qS) : Option (Int32 × qS) :=
    q_cl (f_X6_within (1 : Int32) (0 : Int32) (1 : Int32)) fun r_1 =>
  if r_1 = 0 then (some ((-2 : Int32), σC))
  else q_cl (f_X1_copyFrom σC σI) fun σC_4 =>
  some ((1 : Int32), σC_4)
def f_X6_image_x (a1 : Int32) : Option (Int32) :=
    q_cl (f_X6_within a1 (0 : Int32) (1 : Int32)) fun r_1 =>
  if r_1 = 0 then (some (-2 : Int32))
  else none
def f_X6_restore_x (a1 : Int32) : Option (Int32) :=
    q_cl (f_X6_within a1 (0 : Int32) (1 : Int32)) fun r_1 =>
  if r_1 = 0 then (some (-2 : Int32))
  else none
end
section
def f_X7_in (a1 : Int64) (a2 : Int64) (a3 : Int64) : Option (Int32) :=
    if (lg_cmp a1 a2) < 0 then (some (0 : Int32))
  else if (0 : Int32) < (lg_cmp a1 a3) then (some (0 : Int32))
  else some (1 : Int32)
def b_X7_ones_4 (k again : (Int32 × Int32) → Option (Int32)) (s : Int32 × Int32) : Option (Int32) :=
    if s.1 = 0 then (k (s.1, s.2))
  else q_bd (s.1 &&& (s.1 - 1)) fun v2_3 =>
  again (v2_3, s.2 + 1)
def f_X7_ones (a1 : Int32) : Option (Int32) :=
    q_lp (b_X7_ones_4) (fun z1 => some z1.2) 20000 (a1, (0 : Int32))
def f_X7_isHouse (a1 : Int32) : Option (Int32) :=
    q_cl (f_X7_in a1.toInt64 (0 : Int64) (9 : Int64)) fun r_1 =>
  q_chk (q_isB r_1) <| some r_1
def f_X7_isPlace (a1 : Int32) : Option (Int32) :=
    q_cl (f_X7_in a1.toInt64 (0 : Int64) (10 : Int64)) fun r_1 =>
  q_chk (q_isB r_1) <| some r_1
def f_X7_isTale (a1 : Int32) : Option (Int32) :=
    q_cl (f_X7_in a1.toInt64 (0 : Int64) (9 : Int64)) fun r_1 =>
  q_chk (q_isB r_1) <| some r_1
def f_X7_cooled (a1 : Int32) (a2 : Int32) : Option (Int32) :=
    if a1 ≤ a2 then (some (0 : Int32))
  else some (a1 - a2)
def b_X7_lowest_6 (k again : (Int64 × Int64) → Option (Int64)) (s : Int64 × Int64) : Option (Int64) :=
    if (lg_cmp s.1 (0 : Int64)) = 0 then (k (s.1, s.2))
  else q_nzL s.1 <|
  q_bd (s.2 - s.2 / s.1 * s.1) fun v9_7 =>
  again (v9_7, s.1)
def f_X7_lowest (a1 : Int64) (a2 : Int64) (a3 : Int32) : Option (Int64) :=
    q_lp (b_X7_lowest_6) (fun z1 => if a3 = 0 then (q_nzL z1.2 <|
  some (a1 / z1.2))
  else q_nzL z1.2 <|
  some (a2 / z1.2)) 1152921504606846976 (a1, a2)
def f_X7_isRow (a1 : Int32) (a2 : Int32) (a3 : Int32) (a4 : Int32) : Option (Int32) :=
    q_cl (f_X7_in a1.toInt64 (0 : Int64) (10 : Int64)) fun r_1 =>
  if r_1 = 0 then (some (0 : Int32))
  else q_cl (f_X7_in a2.toInt64 (0 : Int64) (10 : Int64)) fun r_4 =>
  if r_4 = 0 then (some (0 : Int32))
  else q_cl (f_X7_in a3.toInt64 (0 : Int64) (10 : Int64)) fun r_7 =>
  if r_7 = 0 then (some (0 : Int32))
  else q_cl (f_X7_in a4.toInt64 (0 : Int64) a1.toInt64) fun r_10 =>
  if r_10 = 0 then (some (0 : Int32))
  else some (1 : Int32)
def f_X7_actBy (a1 : Int32) : Option (Int32) :=
    if (3 : Int32) ≤ a1 then (if (5 : Int32) ≤ a1 then (if a1 = 5 then (some (3 : Int32))
  else if a1 = 6 then (some (0 : Int32))
  else some (4 : Int32))
  else some (2 : Int32))
  else some (1 : Int32)
end
section
def f_X7_road (σM : qS) (ℓM : qL) (a1 : Int32) (a2 : Int32) (a3 : Int32) : Option (Int32 × qS) :=
    q_cl (f_X7_isPlace a1) fun r_1 =>
  if r_1 = 0 then (some ((-1 : Int32), σM))
  else q_cl (f_X7_isPlace a2) fun r_4 =>
  if r_4 = 0 then (some ((-1 : Int32), σM))
  else if a1 = a2 then (some ((-1 : Int32), σM))
  else q_cl (f_X7_in a3.toInt64 (0 : Int64) (9 : Int64)) fun r_8 =>
  if r_8 = 0 then (some ((-2 : Int32), σM))
  else q_rd σM 0 121 (((11 : Int32) * a1) + a2) fun r_11 =>
  q_wr σM 0 121 (((11 : Int32) * a1) + a2) a3 fun σM_14 =>
  q_wr σM_14 0 121 (((11 : Int32) * a2) + a1) a3 fun σM_17 =>
  some (r_11, σM_17)
def f_X7_house (σM : qS) (ℓM : qL) (a1 : Int32) (a2 : Int32) (a3 : Int32) : Option (Int32 × qS) :=
    q_cl (f_X7_isHouse a1) fun r_1 =>
  if r_1 = 0 then (some ((-1 : Int32), σM))
  else q_cl (f_X7_in a2.toInt64 (0 : Int64) (9 : Int64)) fun r_4 =>
  if r_4 = 0 then (some ((-2 : Int32), σM))
  else q_cl (f_X7_in a3.toInt64 (0 : Int64) (1 : Int64)) fun r_7 =>
  if r_7 = 0 then (some ((-2 : Int32), σM))
  else q_rd σM 1 10 a1 fun r_10 =>
  q_wr σM 1 10 a1 a2 fun σM_13 =>
  q_wr σM_13 2 10 a1 a3 fun σM_16 =>
  some (r_10, σM_16)
def f_X7_tell (σM : qS) (ℓM : qL) (a1 : Int32) (a2 : Int32) : Option (Int32 × qS) :=
    q_cl (f_X7_isHouse a1) fun r_1 =>
  if r_1 = 0 then (some ((-1 : Int32), σM))
  else q_cl (f_X7_in a2.toInt64 (-1 : Int64) (9 : Int64)) fun r_4 =>
  if r_4 = 0 then (some ((-1 : Int32), σM))
  else q_rd σM 3 10 a1 fun r_7 =>
  if (0 : Int32) ≤ a2 then (q_wr σM 3 10 a1 a2 fun σM_11 =>
  some (r_7, σM_11))
  else q_wr σM 3 10 a1 (-6 : Int32) fun σM_14 =>
  some (r_7, σM_14)
def f_X7_fade (σM : qS) (ℓM : qL) (a1 : Int32) (a2 : Int32) : Option (Int32 × qS) :=
    q_cl (f_X7_isTale a1) fun r_1 =>
  if r_1 = 0 then (some ((-1 : Int32), σM))
  else q_cl (f_X7_isTale a2) fun r_4 =>
  if r_4 = 0 then (some ((-1 : Int32), σM))
  else q_rd σM 4 10 a1 fun r_7 =>
  q_wr σM 4 10 a1 a2 fun σM_10 =>
  some (r_7, σM_10)
def f_X7_say (σM : qS) (ℓM : qL) (a1 : Int32) : Option (Int32 × qS) :=
    q_cl (f_X7_in a1.toInt64 (33 : Int64) (126 : Int64)) fun r_1 =>
  if r_1 = 0 then (some ((-2 : Int32), σM))
  else if (σM 99 13) = 60 then (some ((-4 : Int32), σM))
  else q_wr σM 12 60 (σM 99 13) a1 fun σM_5 =>
  q_bd (q_pt σM_5 13 ((σM_5 99 13) + 1)) fun σM_8 =>
  some (σM_8 99 13, σM_8)
def f_X7_wipe (σM : qS) (ℓM : qL) : Option (Int32 × qS) :=
    q_bd (σM 99 13) fun v1_1 =>
  q_bd (q_pt σM 13 (0 : Int32)) fun σM_3 =>
  some (v1_1, σM_3)
def f_X7_close (σM : qS) (ℓM : qL) (a1 : Int32) (a2 : Int32) : Option (Int32 × qS) :=
    q_wr σM 14 60 (σM 99 17) a1 fun σM_1 =>
  q_wr σM_1 16 60 (σM_1 99 17) a2 fun σM_4 =>
  q_bd (q_pt σM_4 17 ((σM_4 99 17) + 1)) fun σM_7 =>
  some ((0 : Int32), σM_7)
def f_X7_begin (σM : qS) (ℓM : qL) (a1 : Int32) : Option (Int32 × qS) :=
    q_cl (f_X7_in a1.toInt64 (65 : Int64) (74 : Int64)) fun r_1 =>
  if r_1 = 0 then (q_wr σM 15 60 (σM 99 17) (10 : Int32) fun σM_4 =>
  if a1 = 42 then (q_cl (f_X7_close σM_4 ℓM (2 : Int32) (0 : Int32)) fun y_11 =>
  some (y_11.1, y_11.2))
  else if a1 = 46 then (q_cl (f_X7_close σM_4 ℓM (4 : Int32) (0 : Int32)) fun y_16 =>
  some (y_16.1, y_16.2))
  else if a1 = 61 then (some ((1 : Int32), σM_4))
  else if a1 = 126 then (q_cl (f_X7_close σM_4 ℓM (3 : Int32) (0 : Int32)) fun y_22 =>
  some (y_22.1, y_22.2))
  else if r_1 = 0 then (if a1 = 107 then (q_cl (f_X7_close σM_4 ℓM (1 : Int32) (0 : Int32)) fun y_32 =>
  some (y_32.1, y_32.2))
  else some ((-6 : Int32), σM_4))
  else q_cl (f_X7_close σM_4 ℓM (1 : Int32) (0 : Int32)) fun y_27 =>
  some (y_27.1, y_27.2))
  else q_wr σM 15 60 (σM 99 17) (a1 - 65) fun σM_33 =>
  if a1 = 42 then (q_cl (f_X7_close σM_33 ℓM (2 : Int32) (0 : Int32)) fun y_40 =>
  some (y_40.1, y_40.2))
  else if a1 = 46 then (q_cl (f_X7_close σM_33 ℓM (4 : Int32) (0 : Int32)) fun y_45 =>
  some (y_45.1, y_45.2))
  else if a1 = 61 then (some ((1 : Int32), σM_33))
  else if a1 = 126 then (q_cl (f_X7_close σM_33 ℓM (3 : Int32) (0 : Int32)) fun y_51 =>
  some (y_51.1, y_51.2))
  else if r_1 = 0 then (if a1 = 107 then (q_cl (f_X7_close σM_33 ℓM (1 : Int32) (0 : Int32)) fun y_61 =>
  some (y_61.1, y_61.2))
  else some ((-6 : Int32), σM_33))
  else q_cl (f_X7_close σM_33 ℓM (1 : Int32) (0 : Int32)) fun y_56 =>
  some (y_56.1, y_56.2)
def f_X7_readOn (σM : qS) (ℓM : qL) (a1 : Int32) (a2 : Int32) : Option (Int32 × qS) :=
    if a1 = 0 then (q_cl (f_X7_begin σM ℓM a2) fun y_19 =>
  some (y_19.1, y_19.2))
  else if a1 = 1 then (q_wr σM 15 60 (σM 99 17) (a2 - 48) fun σM_10 =>
  q_cl (f_X7_in a2.toInt64 (48 : Int64) (57 : Int64)) fun r_13 =>
  if r_13 = 0 then (some ((-6 : Int32), σM_10))
  else some ((2 : Int32), σM_10))
  else q_cl (f_X7_in a2.toInt64 (49 : Int64) (57 : Int64)) fun r_3 =>
  if r_3 = 0 then (some ((-6 : Int32), σM))
  else q_cl (f_X7_close σM ℓM (0 : Int32) ((10 : Int32) * (a2 - 48))) fun y_9 =>
  some (y_9.1, y_9.2)
def b_X7_fault_9 (ℓM : qL) (k again : (Int32 × Int32 × qS) → Option (Int32 × qS)) (s : Int32 × Int32 × qS) : Option (Int32 × qS) :=
    if (s.2.2 99 13) ≤ s.1 then (k (s.1, s.2.1, s.2.2))
  else q_rd s.2.2 12 60 s.1 fun r_6 =>
  q_cl (f_X7_readOn s.2.2 ℓM s.2.1 r_6) fun y_12 =>
  if (0 : Int32) ≤ y_12.1 then (again (s.1 + 1, y_12.1, y_12.2))
  else some (s.1, y_12.2)
def f_X7_fault (σM : qS) (ℓM : qL) : Option (Int32 × qS) :=
    q_bd (q_pt σM 17 (0 : Int32)) fun σM_1 =>
  q_lp (b_X7_fault_9 ℓM) (fun z3 => if z3.2.1 = 0 then (some ((-6 : Int32), z3.2.2))
  else some (z3.2.2 99 13, z3.2.2)) 20000 ((0 : Int32), (0 : Int32), σM_1)
def f_X7_whyNot (σM : qS) (ℓM : qL) (a1 : Int32) (a2 : Int32) : Option (Int32) :=
    if a1 = 0 then (if (σM 99 5) = 10 then (some (0 : Int32))
  else some (1 : Int32))
  else if a1 = 1 then (q_rd σM 0 121 (((11 : Int32) * (σM 99 5)) + a2) fun r_4 =>
  if r_4 = 0 then (some (2 : Int32))
  else some (0 : Int32))
  else if a1 = 2 then (if (σM 99 5) = 10 then (some (1 : Int32))
  else if (σM 99 6) = 0 then (some (3 : Int32))
  else some (0 : Int32))
  else if a1 = 3 then (if (σM 99 6) = 0 then (some (3 : Int32))
  else some (0 : Int32))
  else if (σM 99 8) = 99 then (some (4 : Int32))
  else some (0 : Int32)
def f_X7_fill (σM : qS) (ℓM : qL) (a1 : Int32) (a2 : Int32) : Option (qS) :=
    q_bd (q_pt σM 7 a1) fun σM_1 =>
  q_bd (q_pt σM_1 6 a2) fun σM_3 =>
  some σM_3
def f_X7_carry (σM : qS) (ℓM : qL) (a1 : Int32) : Option (qS) :=
    q_rd σM 0 121 (((11 : Int32) * (σM 99 5)) + a1) fun r_1 =>
  q_cl (f_X7_cooled (σM 99 6) r_1) fun r_4 =>
  q_bd (q_pt σM 6 r_4) fun σM_6 =>
  q_bd (q_pt σM_6 5 a1) fun σM_8 =>
  some σM_8
def f_X7_put (σM : qS) (ℓM : qL) : Option (qS) :=
    q_bd (σM 99 5) fun v1_1 =>
  q_rd σM 2 10 v1_1 fun r_3 =>
  if r_3 = 1 then (q_cl (f_X7_cooled (σM 99 6) (10 : Int32)) fun r_39 =>
  q_bd (q_pt σM 6 r_39) fun σM_41 =>
  some σM_41)
  else q_rd σM 1 10 v1_1 fun r_7 =>
  if (σM 99 6) ≤ ((9 : Int32) * r_7) then (q_rd σM 1 10 v1_1 fun r_11 =>
  if (9 : Int32) ≤ r_11 then (q_wr σM 1 10 v1_1 (9 : Int32) fun σM_15 =>
  q_cl (f_X7_cooled (σM_15 99 6) (5 : Int32)) fun r_18 =>
  q_bd (q_pt σM_15 6 r_18) fun σM_20 =>
  some σM_20)
  else q_rd σM 1 10 v1_1 fun r_22 =>
  q_wr σM 1 10 v1_1 (r_22 + 1) fun σM_25 =>
  q_cl (f_X7_cooled (σM_25 99 6) (5 : Int32)) fun r_28 =>
  q_bd (q_pt σM_25 6 r_28) fun σM_30 =>
  some σM_30)
  else q_wr σM 3 10 v1_1 (σM 99 7) fun σM_32 =>
  q_cl (f_X7_cooled (σM_32 99 6) (5 : Int32)) fun r_35 =>
  q_bd (q_pt σM_32 6 r_35) fun σM_37 =>
  some σM_37
def f_X7_stir (σM : qS) (ℓM : qL) : Option (qS) :=
    if ((σM 99 6) + 10) ≤ 99 then (q_bd (q_pt σM 6 ((σM 99 6) + 10)) fun σM_2 =>
  q_rd σM_2 4 10 (σM_2 99 7) fun r_4 =>
  q_bd (q_pt σM_2 7 r_4) fun σM_7 =>
  some σM_7)
  else q_bd (q_pt σM 6 (99 : Int32)) fun σM_9 =>
  q_rd σM_9 4 10 (σM_9 99 7) fun r_11 =>
  q_bd (q_pt σM_9 7 r_11) fun σM_14 =>
  some σM_14
def b_X7_morning_13 (k again : (Int32 × qS) → Option (qS)) (s : Int32 × qS) : Option (qS) :=
    if (10 : Int32) ≤ s.1 then (k (s.1, s.2))
  else q_wr s.2 2 10 s.1 (0 : Int32) fun σM_9 =>
  again (s.1 + 1, σM_9)
def f_X7_morning (σM : qS) (ℓM : qL) : Option (qS) :=
    q_bd (q_pt σM 5 (10 : Int32)) fun σM_1 =>
  q_bd (q_pt σM_1 6 (0 : Int32)) fun σM_3 =>
  q_lp (b_X7_morning_13) (fun z5 => q_bd (q_pt z5.2 8 ((z5.2 99 8) + 1)) fun σM_6 =>
  some σM_6) 20000 ((0 : Int32), σM_3)
def f_X7_happen (σM : qS) (ℓM : qL) (a1 : Int32) (a2 : Int32) (a3 : Int32) : Option (qS) :=
    if a1 = 0 then (q_cl (f_X7_fill σM ℓM a2 a3) fun σM_2 =>
  some σM_2)
  else if a1 = 1 then (q_cl (f_X7_carry σM ℓM a2) fun σM_5 =>
  some σM_5)
  else if a1 = 2 then (q_cl (f_X7_put σM ℓM) fun σM_8 =>
  some σM_8)
  else if a1 = 3 then (q_cl (f_X7_stir σM ℓM) fun σM_11 =>
  some σM_11)
  else q_cl (f_X7_morning σM ℓM) fun σM_13 =>
  some σM_13
def b_X7_keepNow_2 (k again : (Int32 × qS) → Option (qS)) (s : Int32 × qS) : Option (qS) :=
    if (10 : Int32) ≤ s.1 then (k (s.1, s.2))
  else q_rd s.2 1 10 s.1 fun r_15 =>
  q_wr s.2 18 34 s.1 r_15 fun σM_18 =>
  q_rd σM_18 2 10 s.1 fun r_21 =>
  q_wr σM_18 18 34 ((10 : Int32) + s.1) r_21 fun σM_24 =>
  q_rd σM_24 3 10 s.1 fun r_27 =>
  q_wr σM_24 18 34 ((20 : Int32) + s.1) r_27 fun σM_30 =>
  again (s.1 + 1, σM_30)
def f_X7_keepNow (σM : qS) (ℓM : qL) : Option (qS) :=
    q_lp (b_X7_keepNow_2) (fun z1 => q_wr z1.2 18 34 (30 : Int32) (z1.2 99 5) fun σM_2 =>
  q_wr σM_2 18 34 (31 : Int32) (σM_2 99 6) fun σM_5 =>
  q_wr σM_5 18 34 (32 : Int32) (σM_5 99 7) fun σM_8 =>
  q_wr σM_8 18 34 (33 : Int32) (σM_8 99 8) fun σM_11 =>
  some σM_11) 20000 ((0 : Int32), σM)
def b_X7_back_2 (k again : (Int32 × qS) → Option (Int32 × qS)) (s : Int32 × qS) : Option (Int32 × qS) :=
    if (10 : Int32) ≤ s.1 then (k (s.1, s.2))
  else q_rd s.2 18 34 s.1 fun r_23 =>
  q_wr s.2 1 10 s.1 r_23 fun σM_26 =>
  q_rd σM_26 18 34 ((10 : Int32) + s.1) fun r_29 =>
  q_wr σM_26 2 10 s.1 r_29 fun σM_32 =>
  q_rd σM_32 18 34 ((20 : Int32) + s.1) fun r_35 =>
  q_wr σM_32 3 10 s.1 r_35 fun σM_38 =>
  again (s.1 + 1, σM_38)
def f_X7_back (σM : qS) (ℓM : qL) (a1 : Int32) : Option (Int32 × qS) :=
    q_lp (b_X7_back_2) (fun z1 => q_rd z1.2 18 34 (30 : Int32) fun r_2 =>
  q_bd (q_pt z1.2 5 r_2) fun σM_5 =>
  q_rd σM_5 18 34 (31 : Int32) fun r_7 =>
  q_bd (q_pt σM_5 6 r_7) fun σM_10 =>
  q_rd σM_10 18 34 (32 : Int32) fun r_12 =>
  q_bd (q_pt σM_10 7 r_12) fun σM_15 =>
  q_rd σM_15 18 34 (33 : Int32) fun r_17 =>
  q_bd (q_pt σM_15 8 r_17) fun σM_20 =>
  some (a1, σM_20)) 20000 ((0 : Int32), σM)
def f_X7_goOne (σM : qS) (ℓM : qL) (a1 : Int32) : Option (qS) :=
    q_bd (σM 99 5) fun v2_1 =>
  if v2_1 = 10 then (q_rd σM 14 60 a1 fun r_52 =>
  q_rd σM 15 60 a1 fun r_55 =>
  q_rd σM 16 60 a1 fun r_58 =>
  q_cl (f_X7_happen σM ℓM r_52 r_55 r_58) fun σM_61 =>
  q_rd σM_61 14 60 a1 fun r_63 =>
  if r_63 = 2 then (q_bd (q_pt σM_61 21 ((σM_61 99 21) + 1)) fun σM_82 =>
  q_rd σM_82 14 60 a1 fun r_84 =>
  if r_84 = 2 then (q_rd σM_82 3 10 v2_1 fun r_88 =>
  if r_88 = (-6) then (some σM_82)
  else if (0 : Int32) ≤ (σM_82 99 22) then (some σM_82)
  else q_bd (q_pt σM_82 22 a1) fun σM_93 =>
  q_bd (q_pt σM_93 23 v2_1) fun σM_95 =>
  some σM_95)
  else some σM_82)
  else q_bd (q_pt σM_61 21 ((σM_61 99 21) + 0)) fun σM_67 =>
  q_rd σM_67 14 60 a1 fun r_69 =>
  if r_69 = 2 then (q_rd σM_67 3 10 v2_1 fun r_73 =>
  if r_73 = (-6) then (some σM_67)
  else if (0 : Int32) ≤ (σM_67 99 22) then (some σM_67)
  else q_bd (q_pt σM_67 22 a1) fun σM_78 =>
  q_bd (q_pt σM_78 23 v2_1) fun σM_80 =>
  some σM_80)
  else some σM_67)
  else q_rd σM 3 10 v2_1 fun r_4 =>
  q_rd σM 14 60 a1 fun r_7 =>
  q_rd σM 15 60 a1 fun r_10 =>
  q_rd σM 16 60 a1 fun r_13 =>
  q_cl (f_X7_happen σM ℓM r_7 r_10 r_13) fun σM_16 =>
  q_rd σM_16 14 60 a1 fun r_18 =>
  if r_18 = 2 then (q_bd (q_pt σM_16 21 ((σM_16 99 21) + 1)) fun σM_37 =>
  q_rd σM_37 14 60 a1 fun r_39 =>
  if r_39 = 2 then (q_rd σM_37 3 10 v2_1 fun r_43 =>
  if r_43 = r_4 then (some σM_37)
  else if (0 : Int32) ≤ (σM_37 99 22) then (some σM_37)
  else q_bd (q_pt σM_37 22 a1) fun σM_48 =>
  q_bd (q_pt σM_48 23 v2_1) fun σM_50 =>
  some σM_50)
  else some σM_37)
  else q_bd (q_pt σM_16 21 ((σM_16 99 21) + 0)) fun σM_22 =>
  q_rd σM_22 14 60 a1 fun r_24 =>
  if r_24 = 2 then (q_rd σM_22 3 10 v2_1 fun r_28 =>
  if r_28 = r_4 then (some σM_22)
  else if (0 : Int32) ≤ (σM_22 99 22) then (some σM_22)
  else q_bd (q_pt σM_22 22 a1) fun σM_33 =>
  q_bd (q_pt σM_33 23 v2_1) fun σM_35 =>
  some σM_35)
  else some σM_22
def b_X7_goNights_31 (ℓM : qL) (k again : (Int32 × qS) → Option (qS)) (s : Int32 × qS) : Option (qS) :=
    if (s.2 99 17) ≤ s.1 then (k (s.1, s.2))
  else if (0 : Int32) ≤ (s.2 99 19) then (k (s.1, s.2))
  else q_rd s.2 14 60 s.1 fun r_14 =>
  q_rd s.2 15 60 s.1 fun r_17 =>
  q_cl (f_X7_whyNot s.2 ℓM r_14 r_17) fun r_20 =>
  if r_20 ≤ 0 then (q_bd (q_pt s.2 19 (-6 : Int32)) fun σM_23 =>
  if r_20 ≤ 0 then (q_bd (q_pt σM_23 20 (-6 : Int32)) fun σM_26 =>
  if r_20 = 0 then (q_cl (f_X7_goOne σM_26 ℓM s.1) fun σM_29 =>
  again (s.1 + 1, σM_29))
  else again (s.1 + 1, σM_26))
  else q_bd (q_pt σM_23 20 r_20) fun σM_31 =>
  if r_20 = 0 then (q_cl (f_X7_goOne σM_31 ℓM s.1) fun σM_34 =>
  again (s.1 + 1, σM_34))
  else again (s.1 + 1, σM_31))
  else q_bd (q_pt s.2 19 s.1) fun σM_36 =>
  if r_20 ≤ 0 then (q_bd (q_pt σM_36 20 (-6 : Int32)) fun σM_39 =>
  if r_20 = 0 then (q_cl (f_X7_goOne σM_39 ℓM s.1) fun σM_42 =>
  again (s.1 + 1, σM_42))
  else again (s.1 + 1, σM_39))
  else q_bd (q_pt σM_36 20 r_20) fun σM_44 =>
  if r_20 = 0 then (q_cl (f_X7_goOne σM_44 ℓM s.1) fun σM_47 =>
  again (s.1 + 1, σM_47))
  else again (s.1 + 1, σM_44)
def f_X7_goNights (σM : qS) (ℓM : qL) : Option (qS) :=
    q_bd (q_pt σM 19 (-6 : Int32)) fun σM_1 =>
  q_bd (q_pt σM_1 20 (-6 : Int32)) fun σM_3 =>
  q_bd (q_pt σM_3 21 (0 : Int32)) fun σM_5 =>
  q_bd (q_pt σM_5 22 (-6 : Int32)) fun σM_7 =>
  q_bd (q_pt σM_7 23 (-6 : Int32)) fun σM_9 =>
  q_lp (b_X7_goNights_31 ℓM) (fun z11 => some z11.2) 20000 ((0 : Int32), σM_9)
def f_X7_refusal (σM : qS) (ℓM : qL) : Option (Int32 × qS) :=
    q_cl (f_X7_keepNow σM ℓM) fun σM_1 =>
  q_cl (f_X7_fault σM_1 ℓM) fun y_6 =>
  if y_6.1 < 0 then (q_cl (f_X7_goNights y_6.2 ℓM) fun σM_8 =>
  if (σM_8 99 19) < 0 then (some ((-6 : Int32), σM_8))
  else some ((-3 : Int32), σM_8))
  else some ((-5 : Int32), y_6.2)
def f_X7_judge (σM : qS) (ℓM : qL) (a1 : Int32) : Option (Int32 × qS) :=
    q_cl (f_X7_in a1.toInt64 (0 : Int64) (2 : Int64)) fun r_1 =>
  if r_1 = 0 then (some ((-2 : Int32), σM))
  else q_cl (f_X7_refusal σM ℓM) fun y_7 =>
  q_cl (f_X7_back y_7.2 ℓM y_7.1) fun y_11 =>
  if y_11.1 = (-5) then (some (y_11.1, y_11.2))
  else if a1 ≤ 1 then (if a1 = 0 then (some (y_11.2 99 19, y_11.2))
  else if a1 = 1 then (some (y_11.2 99 20, y_11.2))
  else some (y_11.2 99 21, y_11.2))
  else if y_11.1 = (-3) then (some (y_11.1, y_11.2))
  else if a1 = 0 then (some (y_11.2 99 19, y_11.2))
  else if a1 = 1 then (some (y_11.2 99 20, y_11.2))
  else some (y_11.2 99 21, y_11.2)
def f_X7_ofHouse (σM : qS) (ℓM : qL) (a1 : Int32) (a2 : Int32) : Option (Int32) :=
    if a2 = 0 then (q_rd σM 3 10 a1 fun r_9 =>
  some r_9)
  else if a2 = 1 then (q_rd σM 1 10 a1 fun r_6 =>
  some r_6)
  else q_rd σM 2 10 a1 fun r_3 =>
  some r_3
def f_X7_behind (σM : qS) (ℓM : qL) (a1 : Int32) (a2 : Int32) : Option (Int32 × qS) :=
    q_cl (f_X7_isHouse a1) fun r_1 =>
  if r_1 = 0 then (some ((-1 : Int32), σM))
  else q_cl (f_X7_in a2.toInt64 (0 : Int64) (2 : Int64)) fun r_4 =>
  if r_4 = 0 then (some ((-2 : Int32), σM))
  else q_cl (f_X7_refusal σM ℓM) fun y_10 =>
  if y_10.1 = (-6) then (q_cl (f_X7_ofHouse y_10.2 ℓM a1 a2) fun r_12 =>
  q_cl (f_X7_back y_10.2 ℓM r_12) fun y_17 =>
  some (y_17.1, y_17.2))
  else q_cl (f_X7_back y_10.2 ℓM y_10.1) fun y_21 =>
  some (y_21.1, y_21.2)
def f_X7_ofPan (σM : qS) (ℓM : qL) (a1 : Int32) : Option (Int32) :=
    if a1 = 0 then (some (σM 99 5))
  else if a1 = 1 then (some (σM 99 6))
  else if a1 = 2 then (some (σM 99 7))
  else some (σM 99 8)
def f_X7_pan (σM : qS) (ℓM : qL) (a1 : Int32) : Option (Int32 × qS) :=
    q_cl (f_X7_in a1.toInt64 (0 : Int64) (3 : Int64)) fun r_1 =>
  if r_1 = 0 then (some ((-2 : Int32), σM))
  else q_cl (f_X7_refusal σM ℓM) fun y_7 =>
  if y_7.1 = (-6) then (q_cl (f_X7_ofPan y_7.2 ℓM a1) fun r_9 =>
  q_cl (f_X7_back y_7.2 ℓM r_9) fun y_14 =>
  some (y_14.1, y_14.2))
  else q_cl (f_X7_back y_7.2 ℓM y_7.1) fun y_18 =>
  some (y_18.1, y_18.2)
def b_X7_believing_4 (σM : qS) (a1 : Int32) (k again : (Int32 × Int32) → Option (Int32)) (s : Int32 × Int32) : Option (Int32) :=
    if (10 : Int32) ≤ s.1 then (k (s.1, s.2))
  else q_rd σM 3 10 s.1 fun r_3 =>
  if r_3 = a1 then (q_bd (s.2 ||| ((1 : Int32) <<< (s.1 &&& 31))) fun v2_9 =>
  again (s.1 + 1, v2_9))
  else q_bd (s.2 ||| 0) fun v2_7 =>
  again (s.1 + 1, v2_7)
def f_X7_believing (σM : qS) (ℓM : qL) (a1 : Int32) : Option (Int32) :=
    q_lp (b_X7_believing_4 σM a1) (fun z1 => some z1.2) 20000 ((0 : Int32), (0 : Int32))
def f_X7_holds (σM : qS) (ℓM : qL) (a1 : Int32) : Option (Int32 × qS) :=
    q_cl (f_X7_isTale a1) fun r_1 =>
  if r_1 = 0 then (some ((-1 : Int32), σM))
  else q_cl (f_X7_refusal σM ℓM) fun y_7 =>
  if y_7.1 = (-6) then (q_cl (f_X7_believing y_7.2 ℓM a1) fun r_9 =>
  q_cl (f_X7_back y_7.2 ℓM r_9) fun y_14 =>
  some (y_14.1, y_14.2))
  else q_cl (f_X7_back y_7.2 ℓM y_7.1) fun y_18 =>
  some (y_18.1, y_18.2)
def f_X7_other (σM : qS) (ℓM : qL) (a1 : Int32) : Option (Int32 × qS) :=
    q_cl (f_X7_in a1.toInt64 (0 : Int64) (1 : Int64)) fun r_1 =>
  if r_1 = 0 then (some ((-2 : Int32), σM))
  else q_cl (f_X7_refusal σM ℓM) fun y_7 =>
  q_cl (f_X7_back y_7.2 ℓM y_7.1) fun y_11 =>
  if y_11.1 = (-6) then (if a1 = 0 then (some (y_11.2 99 22, y_11.2))
  else some (y_11.2 99 23, y_11.2))
  else some (y_11.1, y_11.2)
def f_X7_done (σM : qS) (ℓM : qL) : Option (Int32 × qS) :=
    q_cl (f_X7_refusal σM ℓM) fun y_4 =>
  if y_4.1 = (-6) then (q_bd (q_pt y_4.2 13 (0 : Int32)) fun σM_6 =>
  some (σM_6 99 17, σM_6))
  else q_cl (f_X7_back y_4.2 ℓM y_4.1) fun y_11 =>
  some (y_11.1, y_11.2)
end
section
def b_X7_findOff_66 (v1_2 : Int32) (k again : (Int32 × qS) → Option (qS)) (s : Int32 × qS) : Option (qS) :=
    if (121 : Int32) ≤ s.1 then (k (s.1, s.2))
  else q_rd s.2 24 121 (((11 : Int32) * (s.1 / 11)) + v1_2) fun r_6 =>
  q_rd s.2 24 121 (((11 : Int32) * v1_2) + (s.1 - s.1 / 11 * 11)) fun r_9 =>
  q_bd (r_6 + r_9) fun v3_12 =>
  q_rd s.2 24 121 s.1 fun r_14 =>
  if r_14 ≤ v3_12 then (q_rd s.2 24 121 s.1 fun r_18 =>
  q_wr s.2 24 121 s.1 r_18 fun σM_21 =>
  again (s.1 + 1, σM_21))
  else q_wr s.2 24 121 s.1 v3_12 fun σM_24 =>
  again (s.1 + 1, σM_24)
def b_X7_findOff_58 (k again : (Int32 × qS) → Option (qS)) (s : Int32 × qS) : Option (qS) :=
    if (11 : Int32) ≤ s.1 then (k (s.1, s.2))
  else q_lp (b_X7_findOff_66 s.1) (fun z4 => again (s.1 + 1, z4.2)) 20000 ((0 : Int32), s.2)
def b_X7_findOff_2 (k again : (Int32 × qS) → Option (qS)) (s : Int32 × qS) : Option (qS) :=
    if (121 : Int32) ≤ s.1 then (k (s.1, s.2))
  else if (s.1 / 11) = (s.1 - s.1 / 11 * 11) then (q_wr s.2 24 121 s.1 (0 : Int32) fun σM_42 =>
  again (s.1 + 1, σM_42))
  else q_rd s.2 0 121 s.1 fun r_29 =>
  if r_29 ≤ 0 then (q_wr s.2 24 121 s.1 (1000 : Int32) fun σM_33 =>
  again (s.1 + 1, σM_33))
  else q_rd s.2 0 121 s.1 fun r_36 =>
  q_wr s.2 24 121 s.1 r_36 fun σM_39 =>
  again (s.1 + 1, σM_39)
def f_X7_findOff (σM : qS) (ℓM : qL) : Option (qS) :=
    q_lp (b_X7_findOff_2) (fun z1 => q_lp (b_X7_findOff_58) (fun z2 => some z2.2) 20000 ((0 : Int32), z1.2)) 20000 ((0 : Int32), σM)
def b_X7_near_72 (a1 : Int32) (a2 : Int32) (σM_10 : qS) (r_12 : Int32) (k again : (Int32 × Int32) → Option (Int32 × qS)) (s : Int32 × Int32) : Option (Int32 × qS) :=
    if s.1 < 0 then (k (s.1, s.2))
  else if a1 = a2 then (k (s.1, s.2))
  else q_rd σM_10 0 121 (((11 : Int32) * a1) + s.1) fun r_20 =>
  if r_20 ≤ 0 then (again (s.1 + (-1), s.2))
  else q_rd σM_10 24 121 (((11 : Int32) * s.1) + a2) fun r_24 =>
  if (r_20 + r_24) = r_12 then (again (s.1 + (-1), s.1))
  else again (s.1 + (-1), s.2)
def f_X7_near (σM : qS) (ℓM : qL) (a1 : Int32) (a2 : Int32) (a3 : Int32) : Option (Int32 × qS) :=
    q_cl (f_X7_isPlace a1) fun r_1 =>
  if r_1 = 0 then (some ((-1 : Int32), σM))
  else q_cl (f_X7_isPlace a2) fun r_4 =>
  if r_4 = 0 then (some ((-1 : Int32), σM))
  else q_cl (f_X7_in a3.toInt64 (0 : Int64) (1 : Int64)) fun r_7 =>
  if r_7 = 0 then (some ((-2 : Int32), σM))
  else q_cl (f_X7_findOff σM ℓM) fun σM_10 =>
  q_rd σM_10 24 121 (((11 : Int32) * a1) + a2) fun r_12 =>
  if r_12 < 1000 then (if a3 = 0 then (some (r_12, σM_10))
  else q_lp (b_X7_near_72 a1 a2 σM_10 r_12) (fun z17 => some (z17.2, σM_10)) 20000 ((10 : Int32), (-6 : Int32)))
  else some ((-6 : Int32), σM_10)
def f_X7_behindBed (σM : qS) (ℓM : qL) (a1 : Int32) (a2 : Int32) : Option (Int32) :=
    q_rd σM 2 10 a2 fun r_1 =>
  if r_1 = 0 then (q_rd σM 1 10 a2 fun r_5 =>
  if a1 ≤ ((9 : Int32) * r_5) then (some (-6 : Int32))
  else q_cl (f_X7_cooled a1 (5 : Int32)) fun r_9 =>
  some r_9)
  else some (-6 : Int32)
def b_X7_hottest_22 (σM : qS) (ℓM : qL) (a2 : Int32) (v3_1 : Int32) (k again : (Int32 × Int32) → Option (Int32)) (s : Int32 × Int32) : Option (Int32) :=
    if (10 : Int32) ≤ s.1 then (k (s.1, s.2))
  else if ((v3_1 >>> (s.1 &&& 31)) &&& 1) = 1 then (q_rd σM 25 10240 (((10 : Int32) * v3_1) + s.1) fun r_9 =>
  if (0 : Int32) ≤ r_9 then (q_rd σM 24 121 (((11 : Int32) * s.1) + a2) fun r_13 =>
  q_cl (f_X7_cooled r_9 r_13) fun r_16 =>
  q_cl (f_X7_behindBed σM ℓM r_16 a2) fun r_18 =>
  if r_18 ≤ s.2 then (again (s.1 + 1, s.2))
  else again (s.1 + 1, r_18))
  else if (-6 : Int32) ≤ s.2 then (again (s.1 + 1, s.2))
  else again (s.1 + 1, (-6 : Int32)))
  else if (-6 : Int32) ≤ s.2 then (again (s.1 + 1, s.2))
  else again (s.1 + 1, (-6 : Int32))
def f_X7_hottest (σM : qS) (ℓM : qL) (a1 : Int32) (a2 : Int32) : Option (Int32) :=
    q_bd (a1 &&& (((1 : Int32) <<< (a2 &&& 31)) ^^^ (-1))) fun v3_1 =>
  if v3_1 = 0 then (some (-6 : Int32))
  else q_lp (b_X7_hottest_22 σM ℓM a2 v3_1) (fun z4 => some z4.2) 20000 ((0 : Int32), (-6 : Int32))
def b_X7_findHot_5 (ℓM : qL) (a1 : Int32) (a2 : Int32) (k again : (Int32 × qS × Int32) → Option (Int32 × qS)) (s : Int32 × qS × Int32) : Option (Int32 × qS) :=
    if (10 : Int32) ≤ s.1 then (k (s.1, s.2.1, s.2.2))
  else if ((a1 >>> (s.1 &&& 31)) &&& 1) = 1 then (if a1 = ((1 : Int32) <<< (s.1 &&& 31)) then (q_rd s.2.1 24 121 ((110 : Int32) + s.1) fun r_37 =>
  q_cl (f_X7_cooled a2 r_37) fun r_40 =>
  q_cl (f_X7_behindBed s.2.1 ℓM r_40 s.1) fun r_42 =>
  q_wr s.2.1 25 10240 (((10 : Int32) * a1) + s.1) r_42 fun σM_44 =>
  if s.2.2 = 0 then (if r_42 < 0 then (again (s.1 + 1, σM_44, (0 : Int32)))
  else again (s.1 + 1, σM_44, (1 : Int32)))
  else again (s.1 + 1, σM_44, (1 : Int32)))
  else q_cl (f_X7_hottest s.2.1 ℓM a1 s.1) fun r_29 =>
  q_wr s.2.1 25 10240 (((10 : Int32) * a1) + s.1) r_29 fun σM_31 =>
  if s.2.2 = 0 then (if r_29 < 0 then (again (s.1 + 1, σM_31, (0 : Int32)))
  else again (s.1 + 1, σM_31, (1 : Int32)))
  else again (s.1 + 1, σM_31, (1 : Int32)))
  else if a1 = ((1 : Int32) <<< (s.1 &&& 31)) then (q_rd s.2.1 24 121 ((110 : Int32) + s.1) fun r_14 =>
  q_cl (f_X7_cooled a2 r_14) fun r_17 =>
  q_cl (f_X7_behindBed s.2.1 ℓM r_17 s.1) fun r_19 =>
  q_wr s.2.1 25 10240 (((10 : Int32) * a1) + s.1) r_19 fun σM_21 =>
  if s.2.2 = 0 then (if r_19 < 0 then (again (s.1 + 1, σM_21, (0 : Int32)))
  else again (s.1 + 1, σM_21, (1 : Int32)))
  else again (s.1 + 1, σM_21, (1 : Int32)))
  else q_wr s.2.1 25 10240 (((10 : Int32) * a1) + s.1) (-6 : Int32) fun σM_8 =>
  if s.2.2 = 0 then (again (s.1 + 1, σM_8, (0 : Int32)))
  else again (s.1 + 1, σM_8, (1 : Int32))
def f_X7_findHot (σM : qS) (ℓM : qL) (a1 : Int32) (a2 : Int32) : Option (Int32 × qS) :=
    q_lp (b_X7_findHot_5 ℓM a1 a2) (fun z1 => q_chk (q_isB z1.2.2) <| some (z1.2.2, z1.2.1)) 20000 ((0 : Int32), σM, (0 : Int32))
def b_X7_round_34 (ℓM : qL) (a1 : Int32) (k again : (Int32 × qS × Int32) → Option (Int32 × qS)) (s : Int32 × qS × Int32) : Option (Int32 × qS) :=
    if (1024 : Int32) ≤ s.1 then (k (s.1, s.2.1, s.2.2))
  else q_cl (f_X7_findHot s.2.1 ℓM s.1 a1) fun y_17 =>
  if y_17.1 = 0 then (again (s.1 + 1, y_17.2, s.2.2))
  else q_cl (f_X7_ones s.1) fun r_19 =>
  q_cl (f_X7_ones s.2.2) fun r_21 =>
  if r_19 ≤ r_21 then (again (s.1 + 1, y_17.2, s.2.2))
  else again (s.1 + 1, y_17.2, s.1)
def f_X7_round (σM : qS) (ℓM : qL) (a1 : Int32) (a2 : Int32) : Option (Int32 × qS) :=
    q_cl (f_X7_in a1.toInt64 (0 : Int64) (99 : Int64)) fun r_1 =>
  if r_1 = 0 then (some ((-2 : Int32), σM))
  else q_cl (f_X7_in a2.toInt64 (0 : Int64) (1 : Int64)) fun r_4 =>
  if r_4 = 0 then (some ((-2 : Int32), σM))
  else q_cl (f_X7_findOff σM ℓM) fun σM_7 =>
  q_lp (b_X7_round_34 ℓM a1) (fun z9 => if a2 = 0 then (q_cl (f_X7_ones z9.2.2) fun r_11 =>
  some (r_11, z9.2.1))
  else some (z9.2.2, z9.2.1)) 20000 ((1 : Int32), σM_7, (0 : Int32))
def b_X7_around_4 (σM : qS) (a1 : Int32) (k again : (Int32 × Int32) → Option (Int32)) (s : Int32 × Int32) : Option (Int32) :=
    if (121 : Int32) ≤ s.1 then (k (s.1, s.2))
  else if ((a1 >>> ((s.1 / 11) &&& 31)) &&& 1) = 1 then (q_rd σM 0 121 s.1 fun r_6 =>
  if r_6 ≤ 0 then (q_bd (s.2 ||| 0) fun v2_10 =>
  again (s.1 + 1, v2_10))
  else q_bd (s.2 ||| ((1 : Int32) <<< ((s.1 - s.1 / 11 * 11) &&& 31))) fun v2_12 =>
  again (s.1 + 1, v2_12))
  else q_bd (s.2 ||| 0) fun v2_4 =>
  again (s.1 + 1, v2_4)
def f_X7_around (σM : qS) (ℓM : qL) (a1 : Int32) : Option (Int32) :=
    q_lp (b_X7_around_4 σM a1) (fun z1 => some z1.2) 20000 ((0 : Int32), a1)
def b_X7_isKept_7 (σM : qS) (ℓM : qL) (a2 : Int32) (k again : (Int32 × Int32) → Option (Int32)) (s : Int32 × Int32) : Option (Int32) :=
    if (11 : Int32) ≤ s.1 then (k (s.1, s.2))
  else q_cl (f_X7_around σM ℓM s.2) fun r_4 =>
  q_bd (r_4 &&& (a2 ^^^ (-1))) fun v3_6 =>
  again (s.1 + 1, v3_6)
def f_X7_isKept (σM : qS) (ℓM : qL) (a1 : Int32) (a2 : Int32) : Option (Int32) :=
    q_lp (b_X7_isKept_7 σM ℓM a2) (fun z1 => if ((z1.2 >>> (a1 &&& 31)) &&& 1) = 0 then (some (1 : Int32))
  else some (0 : Int32)) 20000 ((0 : Int32), (1024 : Int32))
def b_X7_keep_28 (σM : qS) (ℓM : qL) (a1 : Int32) (k again : (Int32 × Int32) → Option (Int32)) (s : Int32 × Int32) : Option (Int32) :=
    if (1024 : Int32) ≤ s.1 then (k (s.1, s.2))
  else if ((s.1 >>> (a1 &&& 31)) &&& 1) = 0 then (if s.2 < 0 then (q_cl (f_X7_isKept σM ℓM a1 s.1) fun r_17 =>
  if r_17 = 0 then (again (s.1 + 1, s.2))
  else again (s.1 + 1, s.1))
  else q_cl (f_X7_ones s.1) fun r_20 =>
  q_cl (f_X7_ones s.2) fun r_22 =>
  if r_22 ≤ r_20 then (again (s.1 + 1, s.2))
  else q_cl (f_X7_isKept σM ℓM a1 s.1) fun r_27 =>
  if r_27 = 0 then (again (s.1 + 1, s.2))
  else again (s.1 + 1, s.1))
  else again (s.1 + 1, s.2)
def f_X7_keep (σM : qS) (ℓM : qL) (a1 : Int32) (a2 : Int32) : Option (Int32) :=
    q_cl (f_X7_isHouse a1) fun r_1 =>
  if r_1 = 0 then (some (-1 : Int32))
  else q_cl (f_X7_in a2.toInt64 (0 : Int64) (1 : Int64)) fun r_4 =>
  if r_4 = 0 then (some (-2 : Int32))
  else q_lp (b_X7_keep_28 σM ℓM a1) (fun z7 => if z7.2 < 0 then (some z7.2)
  else if a2 = 1 then (some z7.2)
  else q_cl (f_X7_ones z7.2) fun r_10 =>
  some r_10) 20000 ((0 : Int32), (-6 : Int32))
def b_X7_fadedBy_5 (σM : qS) (a2 : Int32) (k again : (Int32 × Int32) → Option (Int32)) (s : Int32 × Int32) : Option (Int32) :=
    if a2 ≤ s.1 then (k (s.1, s.2))
  else q_rd σM 4 10 s.2 fun r_3 =>
  again (s.1 + 1, r_3)
def f_X7_fadedBy (σM : qS) (ℓM : qL) (a1 : Int32) (a2 : Int32) : Option (Int32) :=
    q_lp (b_X7_fadedBy_5 σM a2) (fun z1 => some z1.2) 20000 ((0 : Int32), a1)
def b_X7_cameAhead_2 (σM : qS) (ℓM : qL) (a1 : Int32) (a2 : Int32) (k again : Int32 → Option (Int32)) (s : Int32) : Option (Int32) :=
    if a2 ≤ s then (k s)
  else q_cl (f_X7_fadedBy σM ℓM a1 s) fun r_3 =>
  q_cl (f_X7_fadedBy σM ℓM a1 a2) fun r_5 =>
  if r_3 = r_5 then (some (a2 - s))
  else again (s + 1)
def f_X7_cameAhead (σM : qS) (ℓM : qL) (a1 : Int32) (a2 : Int32) : Option (Int32) :=
    q_lp (b_X7_cameAhead_2 σM ℓM a1 a2) (fun _ => some (-6 : Int32)) 20000 (0 : Int32)
def b_X7_faded_39 (σM : qS) (ℓM : qL) (a1 : Int32) (k again : Int32 → Option (Int32)) (s : Int32) : Option (Int32) :=
    q_cl (f_X7_cameAhead σM ℓM a1 s) fun r_12 =>
  if (0 : Int32) ≤ r_12 then (k s)
  else again (s + 1)
def f_X7_faded (σM : qS) (ℓM : qL) (a1 : Int32) (a2 : Int32) : Option (Int32) :=
    q_cl (f_X7_isTale a1) fun r_1 =>
  if r_1 = 0 then (some (-1 : Int32))
  else q_cl (f_X7_in a2.toInt64 (-2 : Int64) (99 : Int64)) fun r_4 =>
  if r_4 = 0 then (some (-2 : Int32))
  else if a2 < 0 then (q_lp (b_X7_faded_39 σM ℓM a1) (fun z8 => if a2 = (-1) then (some z8)
  else q_cl (f_X7_cameAhead σM ℓM a1 z8) fun r_10 =>
  some r_10) 20000 (1 : Int32))
  else q_cl (f_X7_fadedBy σM ℓM a1 a2) fun r_15 =>
  some r_15
def f_X7_seen (σM : qS) (ℓM : qL) (a1 : Int32) (a2 : Int32) : Option (Int32 × qS) :=
    q_cl (f_X7_isTale a2) fun r_1 =>
  if r_1 = 0 then (some ((-1 : Int32), σM))
  else q_cl (f_X7_in a1.toInt64 (0 : Int64) (40 : Int64)) fun r_4 =>
  if r_4 = 0 then (some ((-2 : Int32), σM))
  else if (σM 99 11) = 8 then (some ((-4 : Int32), σM))
  else q_wr σM 9 8 (σM 99 11) a1 fun σM_8 =>
  q_wr σM_8 10 8 (σM_8 99 11) a2 fun σM_11 =>
  q_bd (q_pt σM_11 11 ((σM_11 99 11) + 1)) fun σM_14 =>
  some (σM_14 99 11, σM_14)
def f_X7_forget (σM : qS) (ℓM : qL) : Option (Int32 × qS) :=
    q_bd (σM 99 11) fun v1_1 =>
  q_bd (q_pt σM 11 (0 : Int32)) fun σM_3 =>
  some (v1_1, σM_3)
def b_X7_isFit_15 (σM : qS) (ℓM : qL) (a1 : Int32) (k again : (Int32 × Int32) → Option (Int32)) (s : Int32 × Int32) : Option (Int32) :=
    if (σM 99 11) ≤ s.1 then (k (s.1, s.2))
  else if s.2 = 0 then (k (s.1, s.2))
  else q_rd σM 9 8 s.1 fun r_7 =>
  q_nz (a1 - a1 / 10 * 10) <|
  q_cl (f_X7_fadedBy σM ℓM (a1 / 10) (r_7 / (a1 - a1 / 10 * 10))) fun r_11 =>
  q_rd σM 10 8 s.1 fun r_13 =>
  if r_11 = r_13 then (again (s.1 + 1, (1 : Int32)))
  else again (s.1 + 1, (0 : Int32))
def f_X7_isFit (σM : qS) (ℓM : qL) (a1 : Int32) : Option (Int32) :=
    q_cl (f_X7_in ((a1 - a1 / 10 * 10).toInt64) (1 : Int64) (5 : Int64)) fun r_1 =>
  q_lp (b_X7_isFit_15 σM ℓM a1) (fun z3 => q_chk (q_isB z3.2) <| some z3.2) 20000 ((0 : Int32), r_1)
def b_X7_fits_4 (σM : qS) (ℓM : qL) (a1 : Int32) (k again : (Int32 × Int32) → Option (Int32)) (s : Int32 × Int32) : Option (Int32) :=
    if (100 : Int32) ≤ s.1 then (k (s.1, s.2))
  else q_cl (f_X7_isFit σM ℓM s.1) fun r_4 =>
  if r_4 = 0 then (again (s.1 + 1, s.2))
  else if s.2 = a1 then (some s.1)
  else again (s.1 + 1, s.2 + 1)
def f_X7_fits (σM : qS) (ℓM : qL) (a1 : Int32) : Option (Int32) :=
    q_lp (b_X7_fits_4 σM ℓM a1) (fun z1 => if a1 = (-1) then (some z1.2)
  else some (-6 : Int32)) 20000 ((0 : Int32), (0 : Int32))
def b_X7_mostLeft_25 (ℓM : qL) (a1 : Int32) (k again : (Int32 × qS × Int32) → Option (Int32 × qS)) (s : Int32 × qS × Int32) : Option (Int32 × qS) :=
    if (100 : Int32) ≤ s.1 then (k (s.1, s.2.1, s.2.2))
  else q_cl (f_X7_isFit s.2.1 ℓM s.1) fun r_4 =>
  if r_4 = 0 then (again (s.1 + 1, s.2.1, s.2.2))
  else q_nz (s.1 - s.1 / 10 * 10) <|
  q_cl (f_X7_fadedBy s.2.1 ℓM (s.1 / 10) (a1 / (s.1 - s.1 / 10 * 10))) fun r_8 =>
  q_rd s.2.1 26 10 r_8 fun r_10 =>
  q_wr s.2.1 26 10 r_8 (r_10 + 1) fun σM_13 =>
  q_rd σM_13 26 10 r_8 fun r_16 =>
  if r_16 ≤ s.2.2 then (again (s.1 + 1, σM_13, s.2.2))
  else q_rd σM_13 26 10 r_8 fun r_20 =>
  again (s.1 + 1, σM_13, r_20)
def b_X7_mostLeft_4 (k again : (Int32 × qS) → Option (Int32 × qS)) (s : Int32 × qS) : Option (Int32 × qS) :=
    if (10 : Int32) ≤ s.1 then (k (s.1, s.2))
  else q_wr s.2 26 10 s.1 (0 : Int32) fun σM_24 =>
  again (s.1 + 1, σM_24)
def f_X7_mostLeft (σM : qS) (ℓM : qL) (a1 : Int32) : Option (Int32 × qS) :=
    q_lp (b_X7_mostLeft_4) (fun z1 => q_lp (b_X7_mostLeft_25 ℓM a1) (fun z2 => some (z2.2.2, z2.2.1)) 20000 ((0 : Int32), z1.2, (0 : Int32))) 20000 ((0 : Int32), σM)
def b_X7_ask_24 (ℓM : qL) (k again : (Int32 × qS × Int32 × Int32) → Option (Int32 × qS)) (s : Int32 × qS × Int32 × Int32) : Option (Int32 × qS) :=
    if (40 : Int32) < s.1 then (k (s.1, s.2.1, s.2.2.1, s.2.2.2))
  else q_cl (f_X7_mostLeft s.2.1 ℓM s.1) fun y_15 =>
  if s.2.2.1 ≤ y_15.1 then (if s.2.2.1 ≤ y_15.1 then (again (s.1 + 1, y_15.2, s.2.2.1, s.2.2.2))
  else again (s.1 + 1, y_15.2, y_15.1, s.2.2.2))
  else if s.2.2.1 ≤ y_15.1 then (again (s.1 + 1, y_15.2, s.2.2.1, s.1))
  else again (s.1 + 1, y_15.2, y_15.1, s.1)
def f_X7_ask (σM : qS) (ℓM : qL) (a1 : Int32) : Option (Int32 × qS) :=
    q_cl (f_X7_in a1.toInt64 (0 : Int64) (1 : Int64)) fun r_1 =>
  if r_1 = 0 then (some ((-2 : Int32), σM))
  else q_cl (f_X7_mostLeft σM ℓM (0 : Int32)) fun y_7 =>
  q_lp (b_X7_ask_24 ℓM) (fun z8 => if z8.2.2.1 = 0 then (some ((-6 : Int32), z8.2.1))
  else if a1 = 0 then (some (z8.2.2.2, z8.2.1))
  else some (z8.2.2.1, z8.2.1)) 20000 ((1 : Int32), y_7.2, y_7.1, (0 : Int32))
end
section
def b_X7_oneHouse_127 (k again : (Int32 × qL) → Option (qL)) (s : Int32 × qL) : Option (qL) :=
    if (22 : Int32) ≤ s.1 then (k (s.1, s.2))
  else q_rdL s.2 28 22 s.1 fun r_5 =>
  q_wrL s.2 27 22 s.1 r_5 fun ℓM_8 =>
  again (s.1 + 1, ℓM_8)
def b_X7_oneHouse_23 (a1 : Int32) (a2 : Int32) (k again : (Int32 × qL) → Option (qL)) (s : Int32 × qL) : Option (qL) :=
    if (10 : Int32) ≤ s.1 then (k (s.1, s.2))
  else q_rdL s.2 27 22 (((2 : Int32) * s.1) + 1) fun r_12 =>
  q_rdL s.2 27 22 ((2 : Int32) * s.1) fun r_15 =>
  q_bd ((a1.toInt64 * r_12) + (a2.toInt64 * r_15)) fun v4_18 =>
  q_rdL s.2 27 22 (((2 : Int32) * s.1) + 1) fun r_20 =>
  q_rdL s.2 27 22 ((2 : Int32) * s.1) fun r_23 =>
  q_bd ((((10 : Int64) - a1.toInt64) * r_20) + (((10 : Int64) - a2.toInt64) * r_23)) fun v6_26 =>
  q_rdL s.2 28 22 (((2 : Int32) * s.1) + 3) fun r_28 =>
  q_wrL s.2 28 22 (((2 : Int32) * s.1) + 3) (r_28 + v4_18) fun ℓM_31 =>
  q_rdL ℓM_31 28 22 ((2 : Int32) * s.1) fun r_34 =>
  q_wrL ℓM_31 28 22 ((2 : Int32) * s.1) (r_34 + v6_26) fun ℓM_37 =>
  again (s.1 + 1, ℓM_37)
def b_X7_oneHouse_2 (k again : (Int32 × qL) → Option (qL)) (s : Int32 × qL) : Option (qL) :=
    if (22 : Int32) ≤ s.1 then (k (s.1, s.2))
  else q_wrL s.2 28 22 s.1 (0 : Int64) fun ℓM_41 =>
  again (s.1 + 1, ℓM_41)
def f_X7_oneHouse (σM : qS) (ℓM : qL) (a1 : Int32) (a2 : Int32) : Option (qL) :=
    q_lp (b_X7_oneHouse_2) (fun z1 => q_lp (b_X7_oneHouse_23 a1 a2) (fun z2 => q_lp (b_X7_oneHouse_127) (fun z3 => some z3.2) 20000 ((0 : Int32), z2.2)) 20000 ((0 : Int32), z1.2)) 20000 ((0 : Int32), ℓM)
def b_X7_row_108 (a1 : Int32) (a4 : Int32) (a5 : Int32) (ℓM_14 : qL) (k again : (Int32 × Int64) → Option (Int64 × qL)) (s : Int32 × Int64) : Option (Int64 × qL) :=
    if a1 < s.1 then (k (s.1, s.2))
  else q_rdL ℓM_14 27 22 ((2 : Int32) * s.1) fun r_19 =>
  q_rdL ℓM_14 27 22 (((2 : Int32) * s.1) + 1) fun r_22 =>
  q_bd (r_19 + r_22) fun v12_25 =>
  if a5 = 0 then (if s.1 = a4 then (if a5 = 2 then (q_bd (s.2 + (s.1.toInt64 * v12_25)) fun v9_52 =>
  again (s.1 + 1, v9_52))
  else q_bd (s.2 + v12_25) fun v9_50 =>
  again (s.1 + 1, v9_50))
  else if a5 = 2 then (q_bd (s.2 + (s.1.toInt64 * v12_25)) fun v9_46 =>
  again (s.1 + 1, v9_46))
  else q_bd (s.2 + 0) fun v9_44 =>
  again (s.1 + 1, v9_44))
  else if s.1 < a4 then (if a5 = 2 then (q_bd (s.2 + (s.1.toInt64 * v12_25)) fun v9_33 =>
  again (s.1 + 1, v9_33))
  else q_bd (s.2 + 0) fun v9_31 =>
  again (s.1 + 1, v9_31))
  else if a5 = 2 then (q_bd (s.2 + (s.1.toInt64 * v12_25)) fun v9_39 =>
  again (s.1 + 1, v9_39))
  else q_bd (s.2 + v12_25) fun v9_37 =>
  again (s.1 + 1, v9_37)
def b_X7_row_76 (σM : qS) (a1 : Int32) (a2 : Int32) (a3 : Int32) (k again : (Int32 × Int64 × qL) → Option (Int64 × qL)) (s : Int32 × Int64 × qL) : Option (Int64 × qL) :=
    if a1 ≤ s.1 then (k (s.1, s.2.1, s.2.2))
  else q_cl (f_X7_oneHouse σM s.2.2 a2 a3) fun ℓM_55 =>
  q_bd (s.2.1 * 10) fun v7_57 =>
  again (s.1 + 1, v7_57, ℓM_55)
def b_X7_row_42 (k again : (Int32 × qL) → Option (Int64 × qL)) (s : Int32 × qL) : Option (Int64 × qL) :=
    if (22 : Int32) ≤ s.1 then (k (s.1, s.2))
  else q_wrL s.2 27 22 s.1 (0 : Int64) fun ℓM_60 =>
  again (s.1 + 1, ℓM_60)
def f_X7_row (σM : qS) (ℓM : qL) (a1 : Int32) (a2 : Int32) (a3 : Int32) (a4 : Int32) (a5 : Int32) (a6 : Int32) : Option (Int64 × qL) :=
    q_cl (f_X7_isRow a1 a2 a3 a4) fun r_1 =>
  if r_1 = 0 then (some ((-1000000000000000002 : Int64), ℓM))
  else q_cl (f_X7_in a5.toInt64 (0 : Int64) (2 : Int64)) fun r_4 =>
  if r_4 = 0 then (some ((-1000000000000000002 : Int64), ℓM))
  else q_cl (f_X7_in a6.toInt64 (0 : Int64) (1 : Int64)) fun r_7 =>
  if r_7 = 0 then (some ((-1000000000000000002 : Int64), ℓM))
  else q_lp (b_X7_row_42) (fun z10 => q_wrL z10.2 27 22 (1 : Int32) (1 : Int64) fun ℓM_11 =>
  q_lp (b_X7_row_76 σM a1 a2 a3) (fun z14 => q_lp (b_X7_row_108 a1 a4 a5 z14.2.2) (fun z15 => q_cl (f_X7_lowest z15.2 z14.2.1 a6) fun r_16 =>
  some (r_16, z14.2.2)) 20000 ((0 : Int32), (0 : Int64))) 20000 ((0 : Int32), (1 : Int64), ℓM_11)) 20000 ((0 : Int32), ℓM)
def f_X7_winsBy (σM : qS) (ℓM : qL) (a1 : Int32) (a2 : Int32) : Option (Int32) :=
    if (a1 - a2) ≤ ((2 : Int32) * a2) then (q_bd (a1 - a2) fun v3_2 =>
  if a2 = a1 then (some (1 : Int32))
  else q_rd σM 29 3721 (((61 : Int32) * (a1 - a2)) + v3_2) fun r_5 =>
  if r_5 = 0 then (some (1 : Int32))
  else some (0 : Int32))
  else q_bd ((2 : Int32) * a2) fun v3_9 =>
  if a2 = a1 then (some (1 : Int32))
  else q_rd σM 29 3721 (((61 : Int32) * (a1 - a2)) + v3_9) fun r_12 =>
  if r_12 = 0 then (some (1 : Int32))
  else some (0 : Int32)
def b_X7_findWins_19 (ℓM : qL) (v2_1 : Int32) (k again : (Int32 × qS) → Option (qS)) (s : Int32 × qS) : Option (qS) :=
    if v2_1 < s.1 then (k (s.1, s.2))
  else q_rd s.2 29 3721 ((((61 : Int32) * v2_1) + s.1) - 1) fun r_8 =>
  if r_8 = 0 then (q_cl (f_X7_winsBy s.2 ℓM v2_1 s.1) fun r_15 =>
  if r_15 = 0 then (q_wrZ s.2 29 3721 (((61 : Int32) * v2_1) + s.1) (0 : Int32) fun σM_18 =>
  again (s.1 + 1, σM_18))
  else q_wrZ s.2 29 3721 (((61 : Int32) * v2_1) + s.1) (1 : Int32) fun σM_21 =>
  again (s.1 + 1, σM_21))
  else q_wrZ s.2 29 3721 (((61 : Int32) * v2_1) + s.1) (1 : Int32) fun σM_12 =>
  again (s.1 + 1, σM_12)
def b_X7_findWins_2 (ℓM : qL) (a1 : Int32) (k again : (Int32 × qS) → Option (qS)) (s : Int32 × qS) : Option (qS) :=
    if a1 < s.1 then (k (s.1, s.2))
  else q_wrZ s.2 29 3721 ((61 : Int32) * s.1) (0 : Int32) fun σM_3 =>
  q_lp (b_X7_findWins_19 ℓM s.1) (fun z6 => again (s.1 + 1, z6.2)) 20000 ((1 : Int32), σM_3)
def f_X7_findWins (σM : qS) (ℓM : qL) (a1 : Int32) : Option (qS) :=
    q_lp (b_X7_findWins_2 ℓM a1) (fun z1 => some z1.2) 20000 ((0 : Int32), σM)
def b_X7_embers_38 (ℓM : qL) (a1 : Int32) (σM_7 : qS) (k again : (Int32 × Int32) → Option (Int32 × qS)) (s : Int32 × Int32) : Option (Int32 × qS) :=
    if s.1 ≤ 0 then (k (s.1, s.2))
  else q_cl (f_X7_winsBy σM_7 ℓM a1 s.1) fun r_15 =>
  if r_15 = 0 then (again (s.1 + (-1), s.2))
  else again (s.1 + (-1), s.1)
def f_X7_embers (σM : qS) (ℓM : qL) (a1 : Int32) (a2 : Int32) : Option (Int32 × qS) :=
    q_cl (f_X7_in a1.toInt64 (1 : Int64) (60 : Int64)) fun r_1 =>
  if r_1 = 0 then (some ((-2 : Int32), σM))
  else q_cl (f_X7_in a2.toInt64 (0 : Int64) (1 : Int64)) fun r_4 =>
  if r_4 = 0 then (some ((-2 : Int32), σM))
  else q_cl (f_X7_findWins σM ℓM a1) fun σM_7 =>
  q_bd (a1 - 1) fun v4_9 =>
  q_lp (b_X7_embers_38 ℓM a1 σM_7) (fun z11 => if a2 = 1 then (some (z11.2, σM_7))
  else if (0 : Int32) ≤ z11.2 then (some ((1 : Int32), σM_7))
  else some ((0 : Int32), σM_7)) 20000 (v4_9, (-6 : Int32))
def b_X7_talesBelieved_4 (σM : qS) (ℓM : qL) (k again : (Int32 × Int32) → Option (Int32)) (s : Int32 × Int32) : Option (Int32) :=
    if (10 : Int32) ≤ s.1 then (k (s.1, s.2))
  else q_cl (f_X7_believing σM ℓM s.1) fun r_3 =>
  if r_3 = 0 then (q_bd (s.2 + 0) fun v1_6 =>
  again (s.1 + 1, v1_6))
  else q_bd (s.2 + 1) fun v1_8 =>
  again (s.1 + 1, v1_8)
def f_X7_talesBelieved (σM : qS) (ℓM : qL) : Option (Int32) :=
    q_lp (b_X7_talesBelieved_4 σM ℓM) (fun z1 => some z1.2) 20000 ((0 : Int32), (0 : Int32))
def b_X7_doubts_4 (σM : qS) (k again : (Int32 × Int32) → Option (Int32)) (s : Int32 × Int32) : Option (Int32) :=
    if (10 : Int32) ≤ s.1 then (k (s.1, s.2))
  else q_rd σM 1 10 s.1 fun r_3 =>
  q_bd (s.2 + r_3) fun v1_6 =>
  again (s.1 + 1, v1_6)
def f_X7_doubts (σM : qS) (ℓM : qL) : Option (Int32) :=
    q_lp (b_X7_doubts_4 σM) (fun z1 => some z1.2) 20000 ((0 : Int32), (0 : Int32))
def b_X7_year_49 (ℓM : qL) (a2 : Int32) (k again : (Int32 × Int32 × qS) → Option (Int32 × qS)) (s : Int32 × Int32 × qS) : Option (Int32 × qS) :=
    if a2 ≤ s.1 then (k (s.1, s.2.1, s.2.2))
  else q_bd (((((75 : Int64) * s.2.1.toInt64) + 74) - (((75 : Int64) * s.2.1.toInt64) + 74) / 65537 * 65537).toInt32) fun v4_38 =>
  q_cl (f_X7_actBy (v4_38 - v4_38 / 8 * 8)) fun r_40 =>
  if r_40 = 1 then (q_bd ((v4_38 / 8) - (v4_38 / 8) / 11 * 11) fun v7_52 =>
  q_bd ((10 : Int32) * ((1 : Int32) + ((v4_38 / 80) - (v4_38 / 80) / 9 * 9))) fun v8_54 =>
  q_cl (f_X7_whyNot s.2.2 ℓM r_40 v7_52) fun r_56 =>
  if r_56 = 0 then (q_cl (f_X7_happen s.2.2 ℓM r_40 v7_52 v8_54) fun σM_59 =>
  again (s.1 + 1, v4_38, σM_59))
  else again (s.1 + 1, v4_38, s.2.2))
  else q_bd ((v4_38 / 8) - (v4_38 / 8) / 10 * 10) fun v7_43 =>
  q_bd ((10 : Int32) * ((1 : Int32) + ((v4_38 / 80) - (v4_38 / 80) / 9 * 9))) fun v8_45 =>
  q_cl (f_X7_whyNot s.2.2 ℓM r_40 v7_43) fun r_47 =>
  if r_47 = 0 then (q_cl (f_X7_happen s.2.2 ℓM r_40 v7_43 v8_45) fun σM_50 =>
  again (s.1 + 1, v4_38, σM_50))
  else again (s.1 + 1, v4_38, s.2.2)
def f_X7_year (σM : qS) (ℓM : qL) (a1 : Int32) (a2 : Int32) (a3 : Int32) : Option (Int32 × qS) :=
    q_cl (f_X7_in a1.toInt64 (0 : Int64) (9999 : Int64)) fun r_1 =>
  if r_1 = 0 then (some ((-2 : Int32), σM))
  else q_cl (f_X7_in a2.toInt64 (1 : Int64) (99 : Int64)) fun r_4 =>
  if r_4 = 0 then (some ((-2 : Int32), σM))
  else q_cl (f_X7_in a3.toInt64 (0 : Int64) (2 : Int64)) fun r_7 =>
  if r_7 = 0 then (some ((-2 : Int32), σM))
  else q_cl (f_X7_keepNow σM ℓM) fun σM_10 =>
  q_lp (b_X7_year_49 ℓM a2) (fun z12 => if a3 = 0 then (q_cl (f_X7_believing z12.2.2 ℓM (-6 : Int32)) fun r_27 =>
  q_cl (f_X7_ones r_27) fun r_29 =>
  q_bd ((10 : Int32) - r_29) fun v5_31 =>
  q_cl (f_X7_back z12.2.2 ℓM v5_31) fun y_36 =>
  some (y_36.1, y_36.2))
  else if a3 = 1 then (q_cl (f_X7_talesBelieved z12.2.2 ℓM) fun r_21 =>
  q_cl (f_X7_back z12.2.2 ℓM r_21) fun y_26 =>
  some (y_26.1, y_26.2))
  else q_cl (f_X7_doubts z12.2.2 ℓM) fun r_15 =>
  q_cl (f_X7_back z12.2.2 ℓM r_15) fun y_20 =>
  some (y_20.1, y_20.2)) 20000 ((0 : Int32), a1, σM_10)
def f_X7_pass (σM : qS) (ℓM : qL) (a1 : Int32) : Option (Int32 × qS) :=
    if (σM 99 33) = 0 then (q_rd σM 30 400 (σM 99 32) fun r_2 =>
  q_wr σM 30 400 (σM 99 32) r_2 fun σM_5 =>
  q_bd (q_pt σM_5 32 ((σM_5 99 32) + 1)) fun σM_8 =>
  some (r_2, σM_8))
  else q_wr σM 30 400 (σM 99 32) a1 fun σM_10 =>
  q_bd (q_pt σM_10 32 ((σM_10 99 32) + 1)) fun σM_13 =>
  some (a1, σM_13)
end
section
def b_X7_passRow_0_2 (ℓM : qL) (a2 : Int32) (k again : (Int32 × qS) → Option (qS)) (s : Int32 × qS) : Option (qS) :=
    if a2 ≤ s.1 then (k (s.1, s.2))
  else q_rd s.2 0 121 s.1 fun r_3 =>
  q_cl (f_X7_pass s.2 ℓM r_3) fun y_9 =>
  q_wr y_9.2 0 121 s.1 y_9.1 fun σM_10 =>
  again (s.1 + 1, σM_10)
def f_X7_passRow_0 (σM : qS) (ℓM : qL) (a2 : Int32) : Option (qS) :=
    q_lp (b_X7_passRow_0_2 ℓM a2) (fun z1 => some z1.2) 20000 ((0 : Int32), σM)
def b_X7_passRow_1_2 (ℓM : qL) (a2 : Int32) (k again : (Int32 × qS) → Option (qS)) (s : Int32 × qS) : Option (qS) :=
    if a2 ≤ s.1 then (k (s.1, s.2))
  else q_rd s.2 1 10 s.1 fun r_3 =>
  q_cl (f_X7_pass s.2 ℓM r_3) fun y_9 =>
  q_wr y_9.2 1 10 s.1 y_9.1 fun σM_10 =>
  again (s.1 + 1, σM_10)
def f_X7_passRow_1 (σM : qS) (ℓM : qL) (a2 : Int32) : Option (qS) :=
    q_lp (b_X7_passRow_1_2 ℓM a2) (fun z1 => some z1.2) 20000 ((0 : Int32), σM)
def b_X7_passRow_2_2 (ℓM : qL) (a2 : Int32) (k again : (Int32 × qS) → Option (qS)) (s : Int32 × qS) : Option (qS) :=
    if a2 ≤ s.1 then (k (s.1, s.2))
  else q_rd s.2 2 10 s.1 fun r_3 =>
  q_cl (f_X7_pass s.2 ℓM r_3) fun y_9 =>
  q_wr y_9.2 2 10 s.1 y_9.1 fun σM_10 =>
  again (s.1 + 1, σM_10)
def f_X7_passRow_2 (σM : qS) (ℓM : qL) (a2 : Int32) : Option (qS) :=
    q_lp (b_X7_passRow_2_2 ℓM a2) (fun z1 => some z1.2) 20000 ((0 : Int32), σM)
def b_X7_passRow_3_2 (ℓM : qL) (a2 : Int32) (k again : (Int32 × qS) → Option (qS)) (s : Int32 × qS) : Option (qS) :=
    if a2 ≤ s.1 then (k (s.1, s.2))
  else q_rd s.2 3 10 s.1 fun r_3 =>
  q_cl (f_X7_pass s.2 ℓM r_3) fun y_9 =>
  q_wr y_9.2 3 10 s.1 y_9.1 fun σM_10 =>
  again (s.1 + 1, σM_10)
def f_X7_passRow_3 (σM : qS) (ℓM : qL) (a2 : Int32) : Option (qS) :=
    q_lp (b_X7_passRow_3_2 ℓM a2) (fun z1 => some z1.2) 20000 ((0 : Int32), σM)
def b_X7_passRow_4_2 (ℓM : qL) (a2 : Int32) (k again : (Int32 × qS) → Option (qS)) (s : Int32 × qS) : Option (qS) :=
    if a2 ≤ s.1 then (k (s.1, s.2))
  else q_rd s.2 4 10 s.1 fun r_3 =>
  q_cl (f_X7_pass s.2 ℓM r_3) fun y_9 =>
  q_wr y_9.2 4 10 s.1 y_9.1 fun σM_10 =>
  again (s.1 + 1, σM_10)
def f_X7_passRow_4 (σM : qS) (ℓM : qL) (a2 : Int32) : Option (qS) :=
    q_lp (b_X7_passRow_4_2 ℓM a2) (fun z1 => some z1.2) 20000 ((0 : Int32), σM)
def b_X7_passRow_9_2 (ℓM : qL) (a2 : Int32) (k again : (Int32 × qS) → Option (qS)) (s : Int32 × qS) : Option (qS) :=
    if a2 ≤ s.1 then (k (s.1, s.2))
  else q_rd s.2 9 8 s.1 fun r_3 =>
  q_cl (f_X7_pass s.2 ℓM r_3) fun y_9 =>
  q_wr y_9.2 9 8 s.1 y_9.1 fun σM_10 =>
  again (s.1 + 1, σM_10)
def f_X7_passRow_9 (σM : qS) (ℓM : qL) (a2 : Int32) : Option (qS) :=
    q_lp (b_X7_passRow_9_2 ℓM a2) (fun z1 => some z1.2) 20000 ((0 : Int32), σM)
def b_X7_passRow_10_2 (ℓM : qL) (a2 : Int32) (k again : (Int32 × qS) → Option (qS)) (s : Int32 × qS) : Option (qS) :=
    if a2 ≤ s.1 then (k (s.1, s.2))
  else q_rd s.2 10 8 s.1 fun r_3 =>
  q_cl (f_X7_pass s.2 ℓM r_3) fun y_9 =>
  q_wr y_9.2 10 8 s.1 y_9.1 fun σM_10 =>
  again (s.1 + 1, σM_10)
def f_X7_passRow_10 (σM : qS) (ℓM : qL) (a2 : Int32) : Option (qS) :=
    q_lp (b_X7_passRow_10_2 ℓM a2) (fun z1 => some z1.2) 20000 ((0 : Int32), σM)
def f_X7_passAll (σM : qS) (ℓM : qL) : Option (qS) :=
    q_cl (f_X7_pass σM ℓM (σM 99 5)) fun y_4 =>
  q_bd (q_pt y_4.2 5 y_4.1) fun σM_5 =>
  q_cl (f_X7_pass σM_5 ℓM (σM_5 99 6)) fun y_10 =>
  q_bd (q_pt y_10.2 6 y_10.1) fun σM_11 =>
  q_cl (f_X7_pass σM_11 ℓM (σM_11 99 7)) fun y_16 =>
  q_bd (q_pt y_16.2 7 y_16.1) fun σM_17 =>
  q_cl (f_X7_pass σM_17 ℓM (σM_17 99 8)) fun y_22 =>
  q_bd (q_pt y_22.2 8 y_22.1) fun σM_23 =>
  q_cl (f_X7_pass σM_23 ℓM (σM_23 99 11)) fun y_28 =>
  q_bd (q_pt y_28.2 11 y_28.1) fun σM_29 =>
  q_cl (f_X7_passRow_0 σM_29 ℓM (121 : Int32)) fun σM_31 =>
  q_cl (f_X7_passRow_1 σM_31 ℓM (10 : Int32)) fun σM_33 =>
  q_cl (f_X7_passRow_2 σM_33 ℓM (10 : Int32)) fun σM_35 =>
  q_cl (f_X7_passRow_3 σM_35 ℓM (10 : Int32)) fun σM_37 =>
  q_cl (f_X7_passRow_4 σM_37 ℓM (10 : Int32)) fun σM_39 =>
  q_cl (f_X7_passRow_9 σM_39 ℓM (8 : Int32)) fun σM_41 =>
  q_cl (f_X7_passRow_10 σM_41 ℓM (8 : Int32)) fun σM_43 =>
  some σM_43
def f_X7_image (σM : qS) (ℓM : qL) (a1 : Int32) : Option (Int32 × qS) :=
    q_cl (f_X7_in a1.toInt64 (0 : Int64) (1 : Int64)) fun r_1 =>
  if r_1 = 0 then (some ((-2 : Int32), σM))
  else q_bd (q_pt σM 32 ((200 : Int32) * a1)) fun σM_4 =>
  q_bd (q_pt σM_4 33 (1 : Int32)) fun σM_6 =>
  q_cl (f_X7_passAll σM_6 ℓM) fun σM_8 =>
  q_wrZ σM_8 31 2 a1 (1 : Int32) fun σM_10 =>
  some ((1 : Int32), σM_10)
def f_X7_restore (σM : qS) (ℓM : qL) (a1 : Int32) : Option (Int32 × qS) :=
    q_cl (f_X7_in a1.toInt64 (0 : Int64) (1 : Int64)) fun r_1 =>
  if r_1 = 0 then (some ((-2 : Int32), σM))
  else q_rd σM 31 2 a1 fun r_4 =>
  if r_4 = 0 then (some ((-3 : Int32), σM))
  else q_bd (q_pt σM 32 ((200 : Int32) * a1)) fun σM_8 =>
  q_bd (q_pt σM_8 33 (0 : Int32)) fun σM_10 =>
  q_cl (f_X7_passAll σM_10 ℓM) fun σM_12 =>
  some ((1 : Int32), σM_12)
def f_X7_told (σM : qS) (ℓM : qL) (a1 : Int32) : Option (Int32) :=
    q_cl (f_X7_in a1.toInt64 (1000 : Int64) (1219 : Int64)) fun r_1 =>
  if r_1 = 0 then (q_cl (f_X7_in a1.toInt64 (100 : Int64) (199 : Int64)) fun r_4 =>
  if r_4 = 0 then (q_cl (f_X7_in a1.toInt64 (10 : Int64) (19 : Int64)) fun r_7 =>
  if r_7 = 0 then (if a1 = 0 then (some (σM 99 13))
  else if a1 = 1 then (some (σM 99 5))
  else if a1 = 2 then (some (σM 99 6))
  else if a1 = 3 then (some (σM 99 7))
  else if a1 = 4 then (some (σM 99 8))
  else if a1 = 5 then (some (σM 99 11))
  else some (-2 : Int32))
  else q_rd σM 4 10 (a1 - 10) fun r_16 =>
  some r_16)
  else if (3 : Int32) ≤ (a1 - a1 / 10 * 10) then (some (-2 : Int32))
  else q_cl (f_X7_ofHouse σM ℓM ((a1 - 100) / 10) (a1 - a1 / 10 * 10)) fun r_20 =>
  some r_20)
  else q_bd ((a1 - 1000) / 20) fun v2_22 =>
  q_bd ((a1 - 1000) - (a1 - 1000) / 20 * 20) fun v3_24 =>
  q_cl (f_X7_isPlace v3_24) fun r_26 =>
  if r_26 = 0 then (some (-2 : Int32))
  else q_rd σM 0 121 (((11 : Int32) * v2_22) + v3_24) fun r_29 =>
  some r_29
end
section
/-! lifted functions where the numbers are integers: zI, zL -/
def zI (z : Int) : Int32 := Int32.ofInt z
def zL (z : Int) : Int64 := Int64.ofInt z
theorem z_n (n : Nat) : nI n = zI n := Int32.ofInt_eq_ofNat.symm
theorem z_0 : (0 : Int32) = zI 0 := by decide
theorem z_1 : (1 : Int32) = zI 1 := by decide
theorem z_2 : (2 : Int32) = zI 2 := by decide
theorem z_3 : (3 : Int32) = zI 3 := by decide
theorem z_4 : (4 : Int32) = zI 4 := by decide
theorem z_5 : (5 : Int32) = zI 5 := by decide
theorem z_6 : (6 : Int32) = zI 6 := by decide
theorem z_7 : (7 : Int32) = zI 7 := by decide
theorem z_8 : (8 : Int32) = zI 8 := by decide
theorem z_9 : (9 : Int32) = zI 9 := by decide
theorem z_10 : (10 : Int32) = zI 10 := by decide
theorem z_11 : (11 : Int32) = zI 11 := by decide
theorem z_12 : (12 : Int32) = zI 12 := by decide
theorem z_13 : (13 : Int32) = zI 13 := by decide
theorem z_14 : (14 : Int32) = zI 14 := by decide
theorem z_15 : (15 : Int32) = zI 15 := by decide
theorem z_16 : (16 : Int32) = zI 16 := by decide
theorem z_17 : (17 : Int32) = zI 17 := by decide
theorem z_18 : (18 : Int32) = zI 18 := by decide
theorem z_19 : (19 : Int32) = zI 19 := by decide
theorem z_20 : (20 : Int32) = zI 20 := by decide
theorem z_21 : (21 : Int32) = zI 21 := by decide
theorem z_22 : (22 : Int32) = zI 22 := by decide
theorem z_23 : (23 : Int32) = zI 23 := by decide
theorem z_24 : (24 : Int32) = zI 24 := by decide
theorem z_25 : (25 : Int32) = zI 25 := by decide
theorem z_26 : (26 : Int32) = zI 26 := by decide
theorem z_27 : (27 : Int32) = zI 27 := by decide
theorem z_28 : (28 : Int32) = zI 28 := by decide
theorem z_29 : (29 : Int32) = zI 29 := by decide
theorem z_30 : (30 : Int32) = zI 30 := by decide
theorem z_31 : (31 : Int32) = zI 31 := by decide
theorem z_32 : (32 : Int32) = zI 32 := by decide
theorem z_33 : (33 : Int32) = zI 33 := by decide
theorem z_34 : (34 : Int32) = zI 34 := by decide
theorem z_35 : (35 : Int32) = zI 35 := by decide
theorem z_36 : (36 : Int32) = zI 36 := by decide
theorem z_37 : (37 : Int32) = zI 37 := by decide
theorem z_38 : (38 : Int32) = zI 38 := by decide
theorem z_39 : (39 : Int32) = zI 39 := by decide
theorem z_40 : (40 : Int32) = zI 40 := by decide
theorem z_41 : (41 : Int32) = zI 41 := by decide
theorem z_42 : (42 : Int32) = zI 42 := by decide
theorem z_43 : (43 : Int32) = zI 43 := by decide
theorem z_44 : (44 : Int32) = zI 44 := by decide
theorem z_45 : (45 : Int32) = zI 45 := by decide
theorem z_46 : (46 : Int32) = zI 46 := by decide
theorem z_47 : (47 : Int32) = zI 47 := by decide
theorem z_48 : (48 : Int32) = zI 48 := by decide
theorem z_49 : (49 : Int32) = zI 49 := by decide
theorem z_50 : (50 : Int32) = zI 50 := by decide
theorem z_51 : (51 : Int32) = zI 51 := by decide
theorem z_52 : (52 : Int32) = zI 52 := by decide
theorem z_53 : (53 : Int32) = zI 53 := by decide
theorem z_54 : (54 : Int32) = zI 54 := by decide
theorem z_55 : (55 : Int32) = zI 55 := by decide
theorem z_56 : (56 : Int32) = zI 56 := by decide
theorem z_57 : (57 : Int32) = zI 57 := by decide
theorem z_58 : (58 : Int32) = zI 58 := by decide
theorem z_59 : (59 : Int32) = zI 59 := by decide
theorem z_60 : (60 : Int32) = zI 60 := by decide
theorem z_61 : (61 : Int32) = zI 61 := by decide
theorem z_62 : (62 : Int32) = zI 62 := by decide
theorem z_63 : (63 : Int32) = zI 63 := by decide
theorem z_64 : (64 : Int32) = zI 64 := by decide
theorem z_65 : (65 : Int32) = zI 65 := by decide
theorem z_66 : (66 : Int32) = zI 66 := by decide
theorem z_67 : (67 : Int32) = zI 67 := by decide
theorem z_68 : (68 : Int32) = zI 68 := by decide
theorem z_69 : (69 : Int32) = zI 69 := by decide
theorem z_70 : (70 : Int32) = zI 70 := by decide
theorem z_71 : (71 : Int32) = zI 71 := by decide
theorem z_72 : (72 : Int32) = zI 72 := by decide
theorem z_73 : (73 : Int32) = zI 73 := by decide
theorem z_74 : (74 : Int32) = zI 74 := by decide
theorem z_75 : (75 : Int32) = zI 75 := by decide
theorem z_76 : (76 : Int32) = zI 76 := by decide
theorem z_77 : (77 : Int32) = zI 77 := by decide
theorem z_78 : (78 : Int32) = zI 78 := by decide
theorem z_79 : (79 : Int32) = zI 79 := by decide
theorem z_80 : (80 : Int32) = zI 80 := by decide
theorem z_81 : (81 : Int32) = zI 81 := by decide
theorem z_82 : (82 : Int32) = zI 82 := by decide
theorem z_83 : (83 : Int32) = zI 83 := by decide
theorem z_84 : (84 : Int32) = zI 84 := by decide
theorem z_85 : (85 : Int32) = zI 85 := by decide
theorem z_86 : (86 : Int32) = zI 86 := by decide
theorem z_87 : (87 : Int32) = zI 87 := by decide
theorem z_88 : (88 : Int32) = zI 88 := by decide
theorem z_89 : (89 : Int32) = zI 89 := by decide
theorem z_90 : (90 : Int32) = zI 90 := by decide
theorem z_91 : (91 : Int32) = zI 91 := by decide
theorem z_92 : (92 : Int32) = zI 92 := by decide
theorem z_93 : (93 : Int32) = zI 93 := by decide
theorem z_94 : (94 : Int32) = zI 94 := by decide
theorem z_95 : (95 : Int32) = zI 95 := by decide
theorem z_96 : (96 : Int32) = zI 96 := by decide
theorem z_97 : (97 : Int32) = zI 97 := by decide
theorem z_98 : (98 : Int32) = zI 98 := by decide
theorem z_99 : (99 : Int32) = zI 99 := by decide
theorem z_100 : (100 : Int32) = zI 100 := by decide
theorem z_101 : (101 : Int32) = zI 101 := by decide
theorem z_102 : (102 : Int32) = zI 102 := by decide
theorem z_103 : (103 : Int32) = zI 103 := by decide
theorem z_104 : (104 : Int32) = zI 104 := by decide
theorem z_105 : (105 : Int32) = zI 105 := by decide
theorem z_106 : (106 : Int32) = zI 106 := by decide
theorem z_107 : (107 : Int32) = zI 107 := by decide
theorem z_108 : (108 : Int32) = zI 108 := by decide
theorem z_109 : (109 : Int32) = zI 109 := by decide
theorem z_110 : (110 : Int32) = zI 110 := by decide
theorem z_111 : (111 : Int32) = zI 111 := by decide
theorem z_112 : (112 : Int32) = zI 112 := by decide
theorem z_113 : (113 : Int32) = zI 113 := by decide
theorem z_114 : (114 : Int32) = zI 114 := by decide
theorem z_115 : (115 : Int32) = zI 115 := by decide
theorem z_116 : (116 : Int32) = zI 116 := by decide
theorem z_117 : (117 : Int32) = zI 117 := by decide
theorem z_118 : (118 : Int32) = zI 118 := by decide
theorem z_119 : (119 : Int32) = zI 119 := by decide
theorem z_120 : (120 : Int32) = zI 120 := by decide
theorem z_121 : (121 : Int32) = zI 121 := by decide
theorem z_122 : (122 : Int32) = zI 122 := by decide
theorem z_123 : (123 : Int32) = zI 123 := by decide
theorem z_124 : (124 : Int32) = zI 124 := by decide
theorem z_125 : (125 : Int32) = zI 125 := by decide
theorem z_126 : (126 : Int32) = zI 126 := by decide
theorem z_127 : (127 : Int32) = zI 127 := by decide
theorem z_199 : (199 : Int32) = zI 199 := by decide
theorem z_200 : (200 : Int32) = zI 200 := by decide
theorem z_360 : (360 : Int32) = zI 360 := by decide
theorem z_410 : (410 : Int32) = zI 410 := by decide
theorem z_1000 : (1000 : Int32) = zI 1000 := by decide
theorem z_1023 : (1023 : Int32) = zI 1023 := by decide
theorem z_1024 : (1024 : Int32) = zI 1024 := by decide
theorem z_1219 : (1219 : Int32) = zI 1219 := by decide
theorem z_9999 : (9999 : Int32) = zI 9999 := by decide
theorem z_10240 : (10240 : Int32) = zI 10240 := by decide
theorem z_65537 : (65537 : Int32) = zI 65537 := by decide
theorem zl_0 : (0 : Int64) = zL 0 := by decide
theorem zl_1 : (1 : Int64) = zL 1 := by decide
theorem zl_5 : (5 : Int64) = zL 5 := by decide
theorem zl_9 : (9 : Int64) = zL 9 := by decide
theorem zl_10 : (10 : Int64) = zL 10 := by decide
theorem zl_40 : (40 : Int64) = zL 40 := by decide
theorem zl_49 : (49 : Int64) = zL 49 := by decide
theorem zl_57 : (57 : Int64) = zL 57 := by decide
theorem zl_65 : (65 : Int64) = zL 65 := by decide
theorem zl_74 : (74 : Int64) = zL 74 := by decide
theorem zl_33 : (33 : Int64) = zL 33 := by decide
theorem zl_99 : (99 : Int64) = zL 99 := by decide
theorem zl_100 : (100 : Int64) = zL 100 := by decide
theorem zl_126 : (126 : Int64) = zL 126 := by decide
theorem zl_199 : (199 : Int64) = zL 199 := by decide
theorem zl_19 : (19 : Int64) = zL 19 := by decide
theorem zl_60 : (60 : Int64) = zL 60 := by decide
theorem zl_1000 : (1000 : Int64) = zL 1000 := by decide
theorem zl_1219 : (1219 : Int64) = zL 1219 := by decide
theorem zl_9999 : (9999 : Int64) = zL 9999 := by decide
theorem zl_75 : (75 : Int64) = zL 75 := by decide
theorem zl_2 : (2 : Int64) = zL 2 := by decide
theorem zl_3 : (3 : Int64) = zL 3 := by decide
theorem zl_8 : (8 : Int64) = zL 8 := by decide
theorem zl_65537 : (65537 : Int64) = zL 65537 := by decide
theorem zl_48 : (48 : Int64) = zL 48 := by decide
theorem z_neg (a : Int) : -(zI a) = zI (-a) := Int32.neg_ofInt
theorem zl_neg (a : Int) : -(zL a) = zL (-a) := Int64.neg_ofInt
theorem z_add (a b : Int) : zI a + zI b = zI (a + b) := (Int32.ofInt_add a b).symm
theorem z_sub (a b : Int) : zI a - zI b = zI (a - b) := (Int32.ofInt_sub a b).symm
theorem z_mul (a b : Int) : zI a * zI b = zI (a * b) := (Int32.ofInt_mul a b).symm
theorem zl_add (a b : Int) : zL a + zL b = zL (a + b) := (Int64.ofInt_add a b).symm
theorem zl_sub (a b : Int) : zL a - zL b = zL (a - b) := (Int64.ofInt_sub a b).symm
theorem zl_mul (a b : Int) : zL a * zL b = zL (a * b) := (Int64.ofInt_mul a b).symm
theorem z_toInt {a : Int} (h : -2147483648 ≤ a) (h' : a < 2147483648) : (zI a).toInt = a := Int32.toInt_ofInt_of_le h h'
theorem zl_toInt {a : Int} (h : -9223372036854775808 ≤ a) (h' : a < 9223372036854775808) : (zL a).toInt = a := Int64.toInt_ofInt_of_le h h'
theorem z_le {a b : Int} (h1 : -2147483648 ≤ a) (h2 : a < 2147483648) (h3 : -2147483648 ≤ b) (h4 : b < 2147483648) : zI a ≤ zI b ↔ a ≤ b := by
  rw [Int32.le_iff_toInt_le, z_toInt h1 h2, z_toInt h3 h4]
theorem z_lt {a b : Int} (h1 : -2147483648 ≤ a) (h2 : a < 2147483648) (h3 : -2147483648 ≤ b) (h4 : b < 2147483648) : zI a < zI b ↔ a < b := by
  rw [Int32.lt_iff_toInt_lt, z_toInt h1 h2, z_toInt h3 h4]
theorem z_eq {a b : Int} (h1 : -2147483648 ≤ a) (h2 : a < 2147483648) (h3 : -2147483648 ≤ b) (h4 : b < 2147483648) : zI a = zI b ↔ a = b := by
  rw [← Int32.toInt_inj, z_toInt h1 h2, z_toInt h3 h4]
theorem zl_le {a b : Int} (h1 : -9223372036854775808 ≤ a) (h2 : a < 9223372036854775808) (h3 : -9223372036854775808 ≤ b) (h4 : b < 9223372036854775808) : zL a ≤ zL b ↔ a ≤ b := by
  rw [Int64.le_iff_toInt_le, zl_toInt h1 h2, zl_toInt h3 h4]
theorem zl_lt {a b : Int} (h1 : -9223372036854775808 ≤ a) (h2 : a < 9223372036854775808) (h3 : -9223372036854775808 ≤ b) (h4 : b < 9223372036854775808) : zL a < zL b ↔ a < b := by
  rw [Int64.lt_iff_toInt_lt, zl_toInt h1 h2, zl_toInt h3 h4]
theorem zl_eq {a b : Int} (h1 : -9223372036854775808 ≤ a) (h2 : a < 9223372036854775808) (h3 : -9223372036854775808 ≤ b) (h4 : b < 9223372036854775808) : zL a = zL b ↔ a = b := by
  rw [← Int64.toInt_inj, zl_toInt h1 h2, zl_toInt h3 h4]
theorem z_nat {a : Int} (h1 : -2147483648 ≤ a) (h2 : a < 2147483648) : (zI a).toNatClampNeg = a.toNat := Int32.toNatClampNeg_ofInt_of_le h1 h2
theorem z_of (x : Int32) : ∃ a : Int, -2147483648 ≤ a ∧ a < 2147483648 ∧ x = zI a := ⟨x.toInt, x.le_toInt, x.toInt_lt, (Int32.ofInt_toInt x).symm⟩
theorem z_l {a : Int} (h1 : -2147483648 ≤ a) (h2 : a < 2147483648) : (zI a).toInt64 = zL a := Int64.toInt_inj.mp (by rw [Int32.toInt_toInt64, z_toInt h1 h2, zl_toInt (by omega) (by omega)])
theorem zl_i {a : Int} (h1 : -2147483648 ≤ a) (h2 : a < 2147483648) : (zL a).toInt32 = zI a := by
  rw [← z_l h1 h2]
  exact Int32.toInt32_toInt64 _
theorem z_div {a b : Int} (h1 : 0 ≤ a) (h2 : a < 2147483648) (h3 : 0 < b) (h4 : b < 2147483648) : zI a / zI b = zI (a / b) := by
  have e : a.tdiv b = a / b := Int.tdiv_eq_ediv_of_nonneg h1
  rw [← e]
  exact (Int32.ofInt_tdiv (by show (-2147483648 : Int) ≤ a; omega) (by show a ≤ (2147483647 : Int); omega) (by show (-2147483648 : Int) ≤ b; omega) (by show b ≤ (2147483647 : Int); omega)).symm
theorem zl_div {a b : Int} (h1 : 0 ≤ a) (h2 : a < 9223372036854775808) (h3 : 0 < b) (h4 : b < 9223372036854775808) : zL a / zL b = zL (a / b) := by
  have e : a.tdiv b = a / b := Int.tdiv_eq_ediv_of_nonneg h1
  rw [← e]
  exact (Int64.ofInt_tdiv (by show (-9223372036854775808 : Int) ≤ a; omega) (by show a ≤ (9223372036854775807 : Int); omega) (by show (-9223372036854775808 : Int) ≤ b; omega) (by show b ≤ (9223372036854775807 : Int); omega)).symm
theorem z_rem {a b : Int} (h1 : 0 ≤ a) (h2 : a < 2147483648) (h3 : 0 < b) (h4 : b < 2147483648) : zI a - zI a / zI b * zI b = zI (a % b) := by
  rw [z_div h1 h2 h3 h4, z_mul, z_sub]
  congr 1
  have := Int.emod_add_mul_ediv a b
  rw [Int.mul_comm (a / b) b]
  omega
theorem zl_rem {a b : Int} (h1 : 0 ≤ a) (h2 : a < 9223372036854775808) (h3 : 0 < b) (h4 : b < 9223372036854775808) : zL a - zL a / zL b * zL b = zL (a % b) := by
  rw [zl_div h1 h2 h3 h4, zl_mul, zl_sub]
  congr 1
  have := Int.emod_add_mul_ediv a b
  rw [Int.mul_comm (a / b) b]
  omega
theorem s_bd {α β : Type} (x : α) (k : α → Option β) : q_bd x k = k x := rfl
theorem s_cl {α β : Type} (a : α) (k : α → Option β) : q_cl (some a) k = k a := rfl
theorem s_chk {β : Type} {b : Bool} (h : b = true) (x : Option β) : q_chk b x = x := by rw [h]; rfl
theorem s_inb {i : Int} {n : Nat} (h0 : 0 ≤ i) (h : i < n) (hn : n < 2147483648) : q_inb (zI i) n = true := by
  unfold q_inb
  apply decide_eq_true
  rw [z_nat (by omega) (by omega)]
  intro z
  rcases z with z | z
  · rw [z_0, z_lt (by omega) (by omega) (by omega) (by omega)] at z; omega
  · omega
theorem s_rd {β : Type} {σ : qS} {k n : Nat} {i : Int} (h0 : 0 ≤ i) (h : i < n) (hn : n < 2147483648) (K : Int32 → Option β) : q_rd σ k n (zI i) K = K (σ k i.toNat) := by
  unfold q_rd
  rw [s_inb h0 h hn, z_nat (by omega) (by omega)]; rfl
theorem s_rdL {β : Type} {σ : qL} {k n : Nat} {i : Int} (h0 : 0 ≤ i) (h : i < n) (hn : n < 2147483648) (K : Int64 → Option β) : q_rdL σ k n (zI i) K = K (σ k i.toNat) := by
  unfold q_rdL
  rw [s_inb h0 h hn, z_nat (by omega) (by omega)]; rfl
theorem s_wr {β : Type} {σ : qS} {k n : Nat} {i : Int} (h0 : 0 ≤ i) (h : i < n) (hn : n < 2147483648) (x : Int32) (K : qS → Option β) : q_wr σ k n (zI i) x K = K (q_up σ k (upd (σ k) i.toNat x)) := by
  unfold q_wr
  rw [s_inb h0 h hn, z_nat (by omega) (by omega)]; rfl
theorem s_wrZ {β : Type} {σ : qS} {k n : Nat} {i : Int} (h0 : 0 ≤ i) (h : i < n) (hn : n < 2147483648) (x : Int32) (K : qS → Option β) : q_wrZ σ k n (zI i) x K = K (q_up σ k (upd (σ k) i.toNat (vp_nar .boolean x))) := by
  unfold q_wrZ
  rw [s_inb h0 h hn, z_nat (by omega) (by omega)]; rfl
theorem s_wrL {β : Type} {σ : qL} {k n : Nat} {i : Int} (h0 : 0 ≤ i) (h : i < n) (hn : n < 2147483648) (x : Int64) (K : qL → Option β) : q_wrL σ k n (zI i) x K = K (q_upL σ k (vp_updL (σ k) i.toNat x)) := by
  unfold q_wrL
  rw [s_inb h0 h hn, z_nat (by omega) (by omega)]; rfl
theorem s_nz {β : Type} {a : Int} (h1 : -2147483648 ≤ a) (h2 : a < 2147483648) (h : a ≠ 0) (x : Option β) : q_nz (zI a) x = x := by
  unfold q_nz
  rw [if_neg]
  rw [z_0, z_eq h1 h2 (by omega) (by omega)]; exact h
theorem s_nzL {β : Type} {a : Int} (h1 : -9223372036854775808 ≤ a) (h2 : a < 9223372036854775808) (h : a ≠ 0) (x : Option β) : q_nzL (zL a) x = x := by
  unfold q_nzL
  rw [if_neg]
  rw [zl_0, zl_eq h1 h2 (by omega) (by omega)]; exact h
theorem z_cmp {a b : Int} (h1 : -9223372036854775808 ≤ a) (h2 : a < 9223372036854775808) (h3 : -9223372036854775808 ≤ b) (h4 : b < 9223372036854775808) : lg_cmp (zL a) (zL b) = zI (if b < a then 1 else if a = b then 0 else -1) := by
  unfold lg_cmp
  have e1 : (zL a > zL b) = (b < a) := propext (zl_lt h3 h4 h1 h2)
  have e2 : (zL a = zL b) = (a = b) := propext (zl_eq h1 h2 h3 h4)
  simp only [e1, e2]
  split
  · rfl
  · split <;> rfl
theorem lp_s {σ R : Type} {body : (σ → Option R) → (σ → Option R) → σ → Option R} {k : σ → Option R} {n : Nat} {s : σ} : q_lp body k (n + 1) s = body k (q_lp body k n) s := rfl
/-- a loop comes to what one turn of it says: a measure that falls below the fuel, an invariant -/
theorem lp_to {σ R : Type} {body : (σ → Option R) → (σ → Option R) → σ → Option R} {k : σ → Option R} (μ : σ → Nat) (P : σ → Prop) (Q : Option R → Prop)
    (h : ∀ (again : σ → Option R) (s : σ), P s → (∀ s', P s' → μ s' < μ s → Q (again s')) → Q (body k again s)) {N : Nat} {s0 : σ} (h0 : P s0) (hN : μ s0 < N) : Q (q_lp body k N s0) := by
  have all : ∀ n s, P s → μ s < n → Q (q_lp body k n s) := by
    intro n
    induction n with
    | zero => intro s _ hm; exact absurd hm (Nat.not_lt_zero _)
    | succ n ih =>
      intro s hs hm
      rw [lp_s]
      exact h _ s hs (fun s' h' hl => ih s' h' (by omega))
  exact all N s0 h0 hN
/-- a loop is a function of its state -/
theorem lp_eq {σ R : Type} {body : (σ → Option R) → (σ → Option R) → σ → Option R} {k : σ → Option R} (μ : σ → Nat) (P : σ → Prop) (f : σ → Option R)
    (h : ∀ (again : σ → Option R) (s : σ), P s → (∀ s', P s' → μ s' < μ s → again s' = f s') → body k again s = f s) {N : Nat} {s0 : σ} (h0 : P s0) (hN : μ s0 < N) : q_lp body k N s0 = f s0 := by
  have all : ∀ n s, P s → μ s < n → q_lp body k n s = f s := by
    intro n
    induction n with
    | zero => intro s _ hm; exact absurd hm (Nat.not_lt_zero _)
    | succ n ih =>
      intro s hs hm
      rw [lp_s]
      exact h _ s hs (fun s' h' hl => ih s' h' (by omega))
  exact all N s0 h0 hN
/-- a loop over coded states, with the fuel told -/
theorem lp_en {α σ R : Type} {body : (σ → Option R) → (σ → Option R) → σ → Option R} {k : σ → Option R} (c : α → σ) (f : Nat → α → Option R) (P : Nat → α → Prop) (h0 : ∀ a, ¬ P 0 a)
    (h : ∀ (again : σ → Option R) (N : Nat) (a : α), P (N + 1) a → (∀ a', P N a' → again (c a') = f N a') → body k again (c a) = f (N + 1) a) : ∀ (N : Nat) (a : α), P N a → q_lp body k N (c a) = f N a := by
  intro N
  induction N with
  | zero => intro a hp; exact absurd hp (h0 a)
  | succ N ih =>
    intro a hp
    rw [lp_s]
    exact h _ N a hp ih
/-! the state of a Close: integers by row and place -/
def eC (d : Nat → Int → Int) : qS := fun k j => zI (d k j)
def ud (d : Nat → Int → Int) (k : Nat) (i v : Int) : Nat → Int → Int := fun a b => if a = k ∧ b = i then v else d a b
theorem eC_at (d : Nat → Int → Int) (k : Nat) {i : Int} (h : 0 ≤ i) : eC d k i.toNat = zI (d k i) := by
  show zI (d k (i.toNat : Int)) = _
  rw [Int.toNat_of_nonneg h]
theorem eC_up (d : Nat → Int → Int) (k : Nat) {i : Int} (h : 0 ≤ i) (v : Int) : q_up (eC d) k (upd (eC d k) i.toNat (zI v)) = eC (ud d k i v) := by
  funext a b
  unfold q_up eC ud upd
  by_cases ha : a = k
  · subst ha
    rw [Nat.beq_refl, cond_true]
    by_cases hb : b = i.toNat
    · rw [if_pos hb, if_pos ⟨rfl, by omega⟩]
    · rw [if_neg hb, if_neg (fun z => hb (by omega))]
  · have e : Nat.beq a k = false := by
      cases z : Nat.beq a k with
      | false => rfl
      | true => exact absurd (Nat.eq_of_beq_eq_true z) ha
    rw [e, cond_false, if_neg (fun z => ha z.1)]
theorem ud_same (d : Nat → Int → Int) (k : Nat) (i v : Int) : ud d k i v k i = v := by unfold ud; rw [if_pos ⟨rfl, rfl⟩]
theorem ud_ne (d : Nat → Int → Int) {k a : Nat} {i b : Int} (v : Int) (h : a ≠ k ∨ b ≠ i) : ud d k i v a b = d a b := by
  unfold ud
  rw [if_neg]
  omega
end
section
/-! the state of a Close, further -/
theorem s_T {α : Type} (a b : α) : (if True then a else b) = a := if_pos trivial
theorem s_F {α : Type} (a b : α) : (if False then a else b) = b := if_neg id
theorem s_ite {c : Prop} [Decidable c] {α : Type} (a b : α) : (if c then some a else some b) = some (if c then a else b) := by split <;> rfl
theorem z_ite {c : Prop} [Decidable c] (a b : Int) : (if c then zI a else zI b) = zI (if c then a else b) := by split <;> rfl
theorem eC_7 (d : Nat → Int → Int) : eC d 99 7 = zI (d 99 7) := rfl
theorem eC_8 (d : Nat → Int → Int) : eC d 99 8 = zI (d 99 8) := rfl
theorem eC_9 (d : Nat → Int → Int) : eC d 99 9 = zI (d 99 9) := rfl
theorem eC_10 (d : Nat → Int → Int) : eC d 99 10 = zI (d 99 10) := rfl
theorem eC_11 (d : Nat → Int → Int) : eC d 99 11 = zI (d 99 11) := rfl
theorem eC_p7 (d : Nat → Int → Int) (v : Int) : q_up (eC d) 99 (upd (eC d 99) 7 (zI v)) = eC (ud d 99 7 v) := eC_up d 99 (i := 7) (by decide) v
theorem eC_p8 (d : Nat → Int → Int) (v : Int) : q_up (eC d) 99 (upd (eC d 99) 8 (zI v)) = eC (ud d 99 8 v) := eC_up d 99 (i := 8) (by decide) v
theorem eC_p9 (d : Nat → Int → Int) (v : Int) : q_up (eC d) 99 (upd (eC d 99) 9 (zI v)) = eC (ud d 99 9 v) := eC_up d 99 (i := 9) (by decide) v
theorem eC_p10 (d : Nat → Int → Int) (v : Int) : q_up (eC d) 99 (upd (eC d 99) 10 (zI v)) = eC (ud d 99 10 v) := eC_up d 99 (i := 10) (by decide) v
theorem eC_p11 (d : Nat → Int → Int) (v : Int) : q_up (eC d) 99 (upd (eC d 99) 11 (zI v)) = eC (ud d 99 11 v) := eC_up d 99 (i := 11) (by decide) v
def lod (k : Nat) (i : Int) : Int := if k = 3 then -6 else if k = 4 then (if i < 0 then i else 0) else 0
def hid (k : Nat) (i : Int) : Int := if k = 0 then 9 else if k = 1 then 9 else if k = 2 then 1 else if k = 3 then 9 else if k = 4 then (if i < 10 then 9 else i) else if k = 5 then 40 else if k = 6 then 9 else if k = 99 then (if i = 7 then 8 else if i = 8 then 10 else if i = 9 then 99 else if i = 10 then 9 else if i = 11 then 99 else 0) else 0
def okd (d : Nat → Int → Int) : Prop := ∀ k i, lod k i ≤ d k i ∧ d k i ≤ hid k i
theorem okd_0 {d} (h : okd d) (i : Int) : 0 ≤ d 0 i ∧ d 0 i ≤ 9 := h 0 i
theorem okd_1 {d} (h : okd d) (i : Int) : 0 ≤ d 1 i ∧ d 1 i ≤ 9 := h 1 i
theorem okd_2 {d} (h : okd d) (i : Int) : 0 ≤ d 2 i ∧ d 2 i ≤ 1 := h 2 i
theorem okd_3 {d} (h : okd d) (i : Int) : -6 ≤ d 3 i ∧ d 3 i ≤ 9 := h 3 i
theorem okd_4 {d} (h : okd d) {i : Int} (h0 : 0 ≤ i) (h1 : i < 10) : 0 ≤ d 4 i ∧ d 4 i ≤ 9 := by
  have := h 4 i
  unfold lod hid at this
  rw [if_neg (by decide), if_pos rfl, if_neg (by omega), if_neg (by decide), if_neg (by decide), if_neg (by decide), if_neg (by decide), if_pos rfl, if_pos h1] at this
  exact this
theorem okd_5 {d} (h : okd d) (i : Int) : 0 ≤ d 5 i ∧ d 5 i ≤ 40 := h 5 i
theorem okd_6 {d} (h : okd d) (i : Int) : 0 ≤ d 6 i ∧ d 6 i ≤ 9 := h 6 i
theorem okd_s {d} (h : okd d) : 0 ≤ d 99 7 ∧ d 99 7 ≤ 8 := h 99 7
theorem okd_p {d} (h : okd d) : 0 ≤ d 99 8 ∧ d 99 8 ≤ 10 := h 99 8
theorem okd_h {d} (h : okd d) : 0 ≤ d 99 9 ∧ d 99 9 ≤ 99 := h 99 9
theorem okd_t {d} (h : okd d) : 0 ≤ d 99 10 ∧ d 99 10 ≤ 9 := h 99 10
theorem okd_m {d} (h : okd d) : 0 ≤ d 99 11 ∧ d 99 11 ≤ 99 := h 99 11
theorem okd_ud {d : Nat → Int → Int} (h : okd d) {k : Nat} {i v : Int} (h1 : lod k i ≤ v) (h2 : v ≤ hid k i) : okd (ud d k i v) := by
  intro a b
  unfold ud
  split
  · next z => obtain ⟨rfl, rfl⟩ := z; exact ⟨h1, h2⟩
  · exact h a b
/-! tests -/
theorem x_within {x a b : Int} (h1 : -2147483648 ≤ x) (h2 : x < 2147483648) (h3 : -2147483648 ≤ a) (h4 : a < 2147483648) (h5 : -2147483648 ≤ b) (h6 : b < 2147483648) : f_X6_within (zI x) (zI a) (zI b) = some (zI (if a ≤ x ∧ x ≤ b then 1 else 0)) := by
  unfold f_X6_within
  simp (disch := omega) only [s_T, s_F, s_bd, s_cl, s_rd, s_wr, s_ite, z_ite, z_neg, z_add, z_sub, z_mul, z_le, z_lt, z_eq, eC_at, eC_7, eC_8, eC_9, eC_10, eC_11, eC_p7, eC_p8, eC_p9, eC_p10, eC_p11, eC_up, ud_same, ud_ne, z_0, z_1, z_2, z_3, z_4, z_5, z_6, z_7, z_8, z_9, z_10, z_11, z_12, z_13, z_14, z_15, z_16, z_17, z_18, z_19, z_20, z_21, z_22, z_23, z_24, z_25, z_26, z_27, z_28, z_29, z_30, z_31, z_32, z_33, z_34, z_35, z_36, z_37, z_38, z_39, z_40, z_41, z_42, z_43, z_44, z_45, z_46, z_47, z_48, z_49, z_50, z_51, z_52, z_53, z_54, z_55, z_56, z_57, z_58, z_59, z_60, z_61, z_62, z_63, z_64, z_65, z_66, z_67, z_68, z_69, z_70, z_71, z_72, z_73, z_74, z_75, z_76, z_77, z_78, z_79, z_80, z_81, z_82, z_83, z_84, z_85, z_86, z_87, z_88, z_89, z_90, z_91, z_92, z_93, z_94, z_95, z_96, z_97, z_98, z_99, z_100, z_101, z_102, z_103, z_104, z_105, z_106, z_107, z_108, z_109, z_110, z_111, z_112, z_113, z_114, z_115, z_116, z_117, z_118, z_119, z_120, z_121, z_122, z_123, z_124, z_125, z_126, z_127, z_199, z_200, z_360, z_410, z_1000, z_1023, z_1024, z_1219, z_9999, z_10240, z_65537]
  split
  · rw [if_neg (by omega)]
  · split
    · rw [if_neg (by omega)]
    · rw [if_pos (by omega)]
theorem x_isPlace {x : Int} (h1 : -2147483648 ≤ x) (h2 : x < 2147483648) : f_X6_isPlace (zI x) = some (zI (if 0 ≤ x ∧ x ≤ 10 then 1 else 0)) := by
  unfold f_X6_isPlace
  simp (disch := omega) only [s_T, s_F, s_bd, s_cl, s_rd, s_wr, s_ite, z_ite, z_neg, z_add, z_sub, z_mul, z_le, z_lt, z_eq, eC_at, eC_7, eC_8, eC_9, eC_10, eC_11, eC_p7, eC_p8, eC_p9, eC_p10, eC_p11, eC_up, ud_same, ud_ne, z_0, z_1, z_2, z_3, z_4, z_5, z_6, z_7, z_8, z_9, z_10, z_11, z_12, z_13, z_14, z_15, z_16, z_17, z_18, z_19, z_20, z_21, z_22, z_23, z_24, z_25, z_26, z_27, z_28, z_29, z_30, z_31, z_32, z_33, z_34, z_35, z_36, z_37, z_38, z_39, z_40, z_41, z_42, z_43, z_44, z_45, z_46, z_47, z_48, z_49, z_50, z_51, z_52, z_53, z_54, z_55, z_56, z_57, z_58, z_59, z_60, z_61, z_62, z_63, z_64, z_65, z_66, z_67, z_68, z_69, z_70, z_71, z_72, z_73, z_74, z_75, z_76, z_77, z_78, z_79, z_80, z_81, z_82, z_83, z_84, z_85, z_86, z_87, z_88, z_89, z_90, z_91, z_92, z_93, z_94, z_95, z_96, z_97, z_98, z_99, z_100, z_101, z_102, z_103, z_104, z_105, z_106, z_107, z_108, z_109, z_110, z_111, z_112, z_113, z_114, z_115, z_116, z_117, z_118, z_119, z_120, z_121, z_122, z_123, z_124, z_125, z_126, z_127, z_199, z_200, z_360, z_410, z_1000, z_1023, z_1024, z_1219, z_9999, z_10240, z_65537]
  split
  · rw [if_neg (by omega)]
  · split
    · rw [if_neg (by omega)]
    · rw [if_pos (by omega)]
theorem x_isHouse {x : Int} (h1 : -2147483648 ≤ x) (h2 : x < 2147483648) : f_X6_isHouse (zI x) = some (zI (if 0 ≤ x ∧ x ≤ 9 then 1 else 0)) := by
  unfold f_X6_isHouse
  simp (disch := omega) only [s_T, s_F, s_bd, s_cl, s_rd, s_wr, s_ite, z_ite, z_neg, z_add, z_sub, z_mul, z_le, z_lt, z_eq, eC_at, eC_7, eC_8, eC_9, eC_10, eC_11, eC_p7, eC_p8, eC_p9, eC_p10, eC_p11, eC_up, ud_same, ud_ne, z_0, z_1, z_2, z_3, z_4, z_5, z_6, z_7, z_8, z_9, z_10, z_11, z_12, z_13, z_14, z_15, z_16, z_17, z_18, z_19, z_20, z_21, z_22, z_23, z_24, z_25, z_26, z_27, z_28, z_29, z_30, z_31, z_32, z_33, z_34, z_35, z_36, z_37, z_38, z_39, z_40, z_41, z_42, z_43, z_44, z_45, z_46, z_47, z_48, z_49, z_50, z_51, z_52, z_53, z_54, z_55, z_56, z_57, z_58, z_59, z_60, z_61, z_62, z_63, z_64, z_65, z_66, z_67, z_68, z_69, z_70, z_71, z_72, z_73, z_74, z_75, z_76, z_77, z_78, z_79, z_80, z_81, z_82, z_83, z_84, z_85, z_86, z_87, z_88, z_89, z_90, z_91, z_92, z_93, z_94, z_95, z_96, z_97, z_98, z_99, z_100, z_101, z_102, z_103, z_104, z_105, z_106, z_107, z_108, z_109, z_110, z_111, z_112, z_113, z_114, z_115, z_116, z_117, z_118, z_119, z_120, z_121, z_122, z_123, z_124, z_125, z_126, z_127, z_199, z_200, z_360, z_410, z_1000, z_1023, z_1024, z_1219, z_9999, z_10240, z_65537]
  split
  · rw [if_neg (by omega)]
  · split
    · rw [if_neg (by omega)]
    · rw [if_pos (by omega)]
theorem x_isTale {x : Int} (h1 : -2147483648 ≤ x) (h2 : x < 2147483648) : f_X6_isTale (zI x) = some (zI (if 0 ≤ x ∧ x ≤ 9 then 1 else 0)) := by
  unfold f_X6_isTale
  simp (disch := omega) only [s_T, s_F, s_bd, s_cl, s_rd, s_wr, s_ite, z_ite, z_neg, z_add, z_sub, z_mul, z_le, z_lt, z_eq, eC_at, eC_7, eC_8, eC_9, eC_10, eC_11, eC_p7, eC_p8, eC_p9, eC_p10, eC_p11, eC_up, ud_same, ud_ne, z_0, z_1, z_2, z_3, z_4, z_5, z_6, z_7, z_8, z_9, z_10, z_11, z_12, z_13, z_14, z_15, z_16, z_17, z_18, z_19, z_20, z_21, z_22, z_23, z_24, z_25, z_26, z_27, z_28, z_29, z_30, z_31, z_32, z_33, z_34, z_35, z_36, z_37, z_38, z_39, z_40, z_41, z_42, z_43, z_44, z_45, z_46, z_47, z_48, z_49, z_50, z_51, z_52, z_53, z_54, z_55, z_56, z_57, z_58, z_59, z_60, z_61, z_62, z_63, z_64, z_65, z_66, z_67, z_68, z_69, z_70, z_71, z_72, z_73, z_74, z_75, z_76, z_77, z_78, z_79, z_80, z_81, z_82, z_83, z_84, z_85, z_86, z_87, z_88, z_89, z_90, z_91, z_92, z_93, z_94, z_95, z_96, z_97, z_98, z_99, z_100, z_101, z_102, z_103, z_104, z_105, z_106, z_107, z_108, z_109, z_110, z_111, z_112, z_113, z_114, z_115, z_116, z_117, z_118, z_119, z_120, z_121, z_122, z_123, z_124, z_125, z_126, z_127, z_199, z_200, z_360, z_410, z_1000, z_1023, z_1024, z_1219, z_9999, z_10240, z_65537]
  split
  · rw [if_neg (by omega)]
  · split
    · rw [if_neg (by omega)]
    · rw [if_pos (by omega)]
/-! the small methods of a Close -/
theorem x_longBetween (d : Nat → Int → Int) {a b : Int} (ha : 0 ≤ a) (ha' : a ≤ 10) (hb : 0 ≤ b) (hb' : b ≤ 10) : f_X1_longBetween (eC d) (zI a) (zI b) = some (zI (d 0 (a * 11 + b))) := by
  unfold f_X1_longBetween
  simp (disch := omega) only [x_isPlace, s_T, s_F, s_bd, s_cl, s_rd, s_wr, s_ite, z_ite, z_neg, z_add, z_sub, z_mul, z_le, z_lt, z_eq, eC_at, eC_7, eC_8, eC_9, eC_10, eC_11, eC_p7, eC_p8, eC_p9, eC_p10, eC_p11, eC_up, ud_same, ud_ne, if_pos, if_neg, z_0, z_1, z_2, z_3, z_4, z_5, z_6, z_7, z_8, z_9, z_10, z_11, z_12, z_13, z_14, z_15, z_16, z_17, z_18, z_19, z_20, z_21, z_22, z_23, z_24, z_25, z_26, z_27, z_28, z_29, z_30, z_31, z_32, z_33, z_34, z_35, z_36, z_37, z_38, z_39, z_40, z_41, z_42, z_43, z_44, z_45, z_46, z_47, z_48, z_49, z_50, z_51, z_52, z_53, z_54, z_55, z_56, z_57, z_58, z_59, z_60, z_61, z_62, z_63, z_64, z_65, z_66, z_67, z_68, z_69, z_70, z_71, z_72, z_73, z_74, z_75, z_76, z_77, z_78, z_79, z_80, z_81, z_82, z_83, z_84, z_85, z_86, z_87, z_88, z_89, z_90, z_91, z_92, z_93, z_94, z_95, z_96, z_97, z_98, z_99, z_100, z_101, z_102, z_103, z_104, z_105, z_106, z_107, z_108, z_109, z_110, z_111, z_112, z_113, z_114, z_115, z_116, z_117, z_118, z_119, z_120, z_121, z_122, z_123, z_124, z_125, z_126, z_127, z_199, z_200, z_360, z_410, z_1000, z_1023, z_1024, z_1219, z_9999, z_10240, z_65537]
theorem x_layRoad (d : Nat → Int → Int) {a b v : Int} (ha : 0 ≤ a) (ha' : a ≤ 10) (hb : 0 ≤ b) (hb' : b ≤ 10) : f_X1_layRoad (eC d) (zI a) (zI b) (zI v) = some (eC (ud (ud d 0 (a * 11 + b) v) 0 (b * 11 + a) v)) := by
  unfold f_X1_layRoad
  simp (disch := omega) only [x_isPlace, s_T, s_F, s_bd, s_cl, s_rd, s_wr, s_ite, z_ite, z_neg, z_add, z_sub, z_mul, z_le, z_lt, z_eq, eC_at, eC_7, eC_8, eC_9, eC_10, eC_11, eC_p7, eC_p8, eC_p9, eC_p10, eC_p11, eC_up, ud_same, ud_ne, if_pos, if_neg, z_0, z_1, z_2, z_3, z_4, z_5, z_6, z_7, z_8, z_9, z_10, z_11, z_12, z_13, z_14, z_15, z_16, z_17, z_18, z_19, z_20, z_21, z_22, z_23, z_24, z_25, z_26, z_27, z_28, z_29, z_30, z_31, z_32, z_33, z_34, z_35, z_36, z_37, z_38, z_39, z_40, z_41, z_42, z_43, z_44, z_45, z_46, z_47, z_48, z_49, z_50, z_51, z_52, z_53, z_54, z_55, z_56, z_57, z_58, z_59, z_60, z_61, z_62, z_63, z_64, z_65, z_66, z_67, z_68, z_69, z_70, z_71, z_72, z_73, z_74, z_75, z_76, z_77, z_78, z_79, z_80, z_81, z_82, z_83, z_84, z_85, z_86, z_87, z_88, z_89, z_90, z_91, z_92, z_93, z_94, z_95, z_96, z_97, z_98, z_99, z_100, z_101, z_102, z_103, z_104, z_105, z_106, z_107, z_108, z_109, z_110, z_111, z_112, z_113, z_114, z_115, z_116, z_117, z_118, z_119, z_120, z_121, z_122, z_123, z_124, z_125, z_126, z_127, z_199, z_200, z_360, z_410, z_1000, z_1023, z_1024, z_1219, z_9999, z_10240, z_65537]
theorem x_doubtOf (d : Nat → Int → Int) {a : Int} (ha : 0 ≤ a) (ha' : a ≤ 9) : f_X1_doubtOf (eC d) (zI a) = some (zI (d 1 a)) := by
  unfold f_X1_doubtOf
  simp (disch := omega) only [x_isHouse, s_T, s_F, s_bd, s_cl, s_rd, s_wr, s_ite, z_ite, z_neg, z_add, z_sub, z_mul, z_le, z_lt, z_eq, eC_at, eC_7, eC_8, eC_9, eC_10, eC_11, eC_p7, eC_p8, eC_p9, eC_p10, eC_p11, eC_up, ud_same, ud_ne, if_pos, if_neg, z_0, z_1, z_2, z_3, z_4, z_5, z_6, z_7, z_8, z_9, z_10, z_11, z_12, z_13, z_14, z_15, z_16, z_17, z_18, z_19, z_20, z_21, z_22, z_23, z_24, z_25, z_26, z_27, z_28, z_29, z_30, z_31, z_32, z_33, z_34, z_35, z_36, z_37, z_38, z_39, z_40, z_41, z_42, z_43, z_44, z_45, z_46, z_47, z_48, z_49, z_50, z_51, z_52, z_53, z_54, z_55, z_56, z_57, z_58, z_59, z_60, z_61, z_62, z_63, z_64, z_65, z_66, z_67, z_68, z_69, z_70, z_71, z_72, z_73, z_74, z_75, z_76, z_77, z_78, z_79, z_80, z_81, z_82, z_83, z_84, z_85, z_86, z_87, z_88, z_89, z_90, z_91, z_92, z_93, z_94, z_95, z_96, z_97, z_98, z_99, z_100, z_101, z_102, z_103, z_104, z_105, z_106, z_107, z_108, z_109, z_110, z_111, z_112, z_113, z_114, z_115, z_116, z_117, z_118, z_119, z_120, z_121, z_122, z_123, z_124, z_125, z_126, z_127, z_199, z_200, z_360, z_410, z_1000, z_1023, z_1024, z_1219, z_9999, z_10240, z_65537]
theorem x_isDamp (d : Nat → Int → Int) (hd : okd d) {a : Int} (ha : 0 ≤ a) (ha' : a ≤ 9) : f_X1_isDamp (eC d) (zI a) = some (zI (d 2 a)) := by
  unfold f_X1_isDamp
  have := okd_2 hd a
  simp (disch := omega) only [x_isHouse, s_T, s_F, s_bd, s_cl, s_rd, s_wr, s_ite, z_ite, z_neg, z_add, z_sub, z_mul, z_le, z_lt, z_eq, eC_at, eC_7, eC_8, eC_9, eC_10, eC_11, eC_p7, eC_p8, eC_p9, eC_p10, eC_p11, eC_up, ud_same, ud_ne, if_pos, if_neg, z_0, z_1, z_2, z_3, z_4, z_5, z_6, z_7, z_8, z_9, z_10, z_11, z_12, z_13, z_14, z_15, z_16, z_17, z_18, z_19, z_20, z_21, z_22, z_23, z_24, z_25, z_26, z_27, z_28, z_29, z_30, z_31, z_32, z_33, z_34, z_35, z_36, z_37, z_38, z_39, z_40, z_41, z_42, z_43, z_44, z_45, z_46, z_47, z_48, z_49, z_50, z_51, z_52, z_53, z_54, z_55, z_56, z_57, z_58, z_59, z_60, z_61, z_62, z_63, z_64, z_65, z_66, z_67, z_68, z_69, z_70, z_71, z_72, z_73, z_74, z_75, z_76, z_77, z_78, z_79, z_80, z_81, z_82, z_83, z_84, z_85, z_86, z_87, z_88, z_89, z_90, z_91, z_92, z_93, z_94, z_95, z_96, z_97, z_98, z_99, z_100, z_101, z_102, z_103, z_104, z_105, z_106, z_107, z_108, z_109, z_110, z_111, z_112, z_113, z_114, z_115, z_116, z_117, z_118, z_119, z_120, z_121, z_122, z_123, z_124, z_125, z_126, z_127, z_199, z_200, z_360, z_410, z_1000, z_1023, z_1024, z_1219, z_9999, z_10240, z_65537]
  split
  · congr 2; omega
  · congr 2; omega
theorem x_beliefOf (d : Nat → Int → Int) {a : Int} (ha : 0 ≤ a) (ha' : a ≤ 9) : f_X1_beliefOf (eC d) (zI a) = some (zI (d 3 a)) := by
  unfold f_X1_beliefOf
  simp (disch := omega) only [x_isHouse, s_T, s_F, s_bd, s_cl, s_rd, s_wr, s_ite, z_ite, z_neg, z_add, z_sub, z_mul, z_le, z_lt, z_eq, eC_at, eC_7, eC_8, eC_9, eC_10, eC_11, eC_p7, eC_p8, eC_p9, eC_p10, eC_p11, eC_up, ud_same, ud_ne, if_pos, if_neg, z_0, z_1, z_2, z_3, z_4, z_5, z_6, z_7, z_8, z_9, z_10, z_11, z_12, z_13, z_14, z_15, z_16, z_17, z_18, z_19, z_20, z_21, z_22, z_23, z_24, z_25, z_26, z_27, z_28, z_29, z_30, z_31, z_32, z_33, z_34, z_35, z_36, z_37, z_38, z_39, z_40, z_41, z_42, z_43, z_44, z_45, z_46, z_47, z_48, z_49, z_50, z_51, z_52, z_53, z_54, z_55, z_56, z_57, z_58, z_59, z_60, z_61, z_62, z_63, z_64, z_65, z_66, z_67, z_68, z_69, z_70, z_71, z_72, z_73, z_74, z_75, z_76, z_77, z_78, z_79, z_80, z_81, z_82, z_83, z_84, z_85, z_86, z_87, z_88, z_89, z_90, z_91, z_92, z_93, z_94, z_95, z_96, z_97, z_98, z_99, z_100, z_101, z_102, z_103, z_104, z_105, z_106, z_107, z_108, z_109, z_110, z_111, z_112, z_113, z_114, z_115, z_116, z_117, z_118, z_119, z_120, z_121, z_122, z_123, z_124, z_125, z_126, z_127, z_199, z_200, z_360, z_410, z_1000, z_1023, z_1024, z_1219, z_9999, z_10240, z_65537]
theorem x_beliefOf_n (d : Nat → Int → Int) {a : Int} (h1 : -2147483648 ≤ a) (h2 : a < 2147483648) (h : a < 0 ∨ 9 < a) : f_X1_beliefOf (eC d) (zI a) = some (zI (-6)) := by
  unfold f_X1_beliefOf
  simp (disch := omega) only [x_isHouse, s_T, s_F, s_bd, s_cl, s_rd, s_wr, s_ite, z_ite, z_neg, z_add, z_sub, z_mul, z_le, z_lt, z_eq, eC_at, eC_7, eC_8, eC_9, eC_10, eC_11, eC_p7, eC_p8, eC_p9, eC_p10, eC_p11, eC_up, ud_same, ud_ne, if_pos, if_neg, z_0, z_1, z_2, z_3, z_4, z_5, z_6, z_7, z_8, z_9, z_10, z_11, z_12, z_13, z_14, z_15, z_16, z_17, z_18, z_19, z_20, z_21, z_22, z_23, z_24, z_25, z_26, z_27, z_28, z_29, z_30, z_31, z_32, z_33, z_34, z_35, z_36, z_37, z_38, z_39, z_40, z_41, z_42, z_43, z_44, z_45, z_46, z_47, z_48, z_49, z_50, z_51, z_52, z_53, z_54, z_55, z_56, z_57, z_58, z_59, z_60, z_61, z_62, z_63, z_64, z_65, z_66, z_67, z_68, z_69, z_70, z_71, z_72, z_73, z_74, z_75, z_76, z_77, z_78, z_79, z_80, z_81, z_82, z_83, z_84, z_85, z_86, z_87, z_88, z_89, z_90, z_91, z_92, z_93, z_94, z_95, z_96, z_97, z_98, z_99, z_100, z_101, z_102, z_103, z_104, z_105, z_106, z_107, z_108, z_109, z_110, z_111, z_112, z_113, z_114, z_115, z_116, z_117, z_118, z_119, z_120, z_121, z_122, z_123, z_124, z_125, z_126, z_127, z_199, z_200, z_360, z_410, z_1000, z_1023, z_1024, z_1219, z_9999, z_10240, z_65537]
theorem x_furnish (d : Nat → Int → Int) {a v w : Int} (ha : 0 ≤ a) (ha' : a ≤ 9) : f_X1_furnish (eC d) (zI a) (zI v) (zI w) = some (eC (ud (ud d 1 a v) 2 a w)) := by
  unfold f_X1_furnish
  simp (disch := omega) only [x_isHouse, s_T, s_F, s_bd, s_cl, s_rd, s_wr, s_ite, z_ite, z_neg, z_add, z_sub, z_mul, z_le, z_lt, z_eq, eC_at, eC_7, eC_8, eC_9, eC_10, eC_11, eC_p7, eC_p8, eC_p9, eC_p10, eC_p11, eC_up, ud_same, ud_ne, if_pos, if_neg, z_0, z_1, z_2, z_3, z_4, z_5, z_6, z_7, z_8, z_9, z_10, z_11, z_12, z_13, z_14, z_15, z_16, z_17, z_18, z_19, z_20, z_21, z_22, z_23, z_24, z_25, z_26, z_27, z_28, z_29, z_30, z_31, z_32, z_33, z_34, z_35, z_36, z_37, z_38, z_39, z_40, z_41, z_42, z_43, z_44, z_45, z_46, z_47, z_48, z_49, z_50, z_51, z_52, z_53, z_54, z_55, z_56, z_57, z_58, z_59, z_60, z_61, z_62, z_63, z_64, z_65, z_66, z_67, z_68, z_69, z_70, z_71, z_72, z_73, z_74, z_75, z_76, z_77, z_78, z_79, z_80, z_81, z_82, z_83, z_84, z_85, z_86, z_87, z_88, z_89, z_90, z_91, z_92, z_93, z_94, z_95, z_96, z_97, z_98, z_99, z_100, z_101, z_102, z_103, z_104, z_105, z_106, z_107, z_108, z_109, z_110, z_111, z_112, z_113, z_114, z_115, z_116, z_117, z_118, z_119, z_120, z_121, z_122, z_123, z_124, z_125, z_126, z_127, z_199, z_200, z_360, z_410, z_1000, z_1023, z_1024, z_1219, z_9999, z_10240, z_65537]
theorem x_convince (d : Nat → Int → Int) {a v : Int} (ha : 0 ≤ a) (ha' : a ≤ 9) : f_X1_convince (eC d) (zI a) (zI v) = some (eC (ud d 3 a v)) := by
  unfold f_X1_convince
  simp (disch := omega) only [x_isHouse, s_T, s_F, s_bd, s_cl, s_rd, s_wr, s_ite, z_ite, z_neg, z_add, z_sub, z_mul, z_le, z_lt, z_eq, eC_at, eC_7, eC_8, eC_9, eC_10, eC_11, eC_p7, eC_p8, eC_p9, eC_p10, eC_p11, eC_up, ud_same, ud_ne, if_pos, if_neg, z_0, z_1, z_2, z_3, z_4, z_5, z_6, z_7, z_8, z_9, z_10, z_11, z_12, z_13, z_14, z_15, z_16, z_17, z_18, z_19, z_20, z_21, z_22, z_23, z_24, z_25, z_26, z_27, z_28, z_29, z_30, z_31, z_32, z_33, z_34, z_35, z_36, z_37, z_38, z_39, z_40, z_41, z_42, z_43, z_44, z_45, z_46, z_47, z_48, z_49, z_50, z_51, z_52, z_53, z_54, z_55, z_56, z_57, z_58, z_59, z_60, z_61, z_62, z_63, z_64, z_65, z_66, z_67, z_68, z_69, z_70, z_71, z_72, z_73, z_74, z_75, z_76, z_77, z_78, z_79, z_80, z_81, z_82, z_83, z_84, z_85, z_86, z_87, z_88, z_89, z_90, z_91, z_92, z_93, z_94, z_95, z_96, z_97, z_98, z_99, z_100, z_101, z_102, z_103, z_104, z_105, z_106, z_107, z_108, z_109, z_110, z_111, z_112, z_113, z_114, z_115, z_116, z_117, z_118, z_119, z_120, z_121, z_122, z_123, z_124, z_125, z_126, z_127, z_199, z_200, z_360, z_410, z_1000, z_1023, z_1024, z_1219, z_9999, z_10240, z_65537]
theorem x_fadesInto (d : Nat → Int → Int) {a : Int} (ha : 0 ≤ a) (ha' : a ≤ 9) : f_X1_fadesInto (eC d) (zI a) = some (zI (d 4 a)) := by
  unfold f_X1_fadesInto
  simp (disch := omega) only [x_isTale, s_T, s_F, s_bd, s_cl, s_rd, s_wr, s_ite, z_ite, z_neg, z_add, z_sub, z_mul, z_le, z_lt, z_eq, eC_at, eC_7, eC_8, eC_9, eC_10, eC_11, eC_p7, eC_p8, eC_p9, eC_p10, eC_p11, eC_up, ud_same, ud_ne, if_pos, if_neg, z_0, z_1, z_2, z_3, z_4, z_5, z_6, z_7, z_8, z_9, z_10, z_11, z_12, z_13, z_14, z_15, z_16, z_17, z_18, z_19, z_20, z_21, z_22, z_23, z_24, z_25, z_26, z_27, z_28, z_29, z_30, z_31, z_32, z_33, z_34, z_35, z_36, z_37, z_38, z_39, z_40, z_41, z_42, z_43, z_44, z_45, z_46, z_47, z_48, z_49, z_50, z_51, z_52, z_53, z_54, z_55, z_56, z_57, z_58, z_59, z_60, z_61, z_62, z_63, z_64, z_65, z_66, z_67, z_68, z_69, z_70, z_71, z_72, z_73, z_74, z_75, z_76, z_77, z_78, z_79, z_80, z_81, z_82, z_83, z_84, z_85, z_86, z_87, z_88, z_89, z_90, z_91, z_92, z_93, z_94, z_95, z_96, z_97, z_98, z_99, z_100, z_101, z_102, z_103, z_104, z_105, z_106, z_107, z_108, z_109, z_110, z_111, z_112, z_113, z_114, z_115, z_116, z_117, z_118, z_119, z_120, z_121, z_122, z_123, z_124, z_125, z_126, z_127, z_199, z_200, z_360, z_410, z_1000, z_1023, z_1024, z_1219, z_9999, z_10240, z_65537]
theorem x_letFade (d : Nat → Int → Int) {a v : Int} (ha : 0 ≤ a) (ha' : a ≤ 9) : f_X1_letFade (eC d) (zI a) (zI v) = some (eC (ud d 4 a v)) := by
  unfold f_X1_letFade
  simp (disch := omega) only [x_isTale, s_T, s_F, s_bd, s_cl, s_rd, s_wr, s_ite, z_ite, z_neg, z_add, z_sub, z_mul, z_le, z_lt, z_eq, eC_at, eC_7, eC_8, eC_9, eC_10, eC_11, eC_p7, eC_p8, eC_p9, eC_p10, eC_p11, eC_up, ud_same, ud_ne, if_pos, if_neg, z_0, z_1, z_2, z_3, z_4, z_5, z_6, z_7, z_8, z_9, z_10, z_11, z_12, z_13, z_14, z_15, z_16, z_17, z_18, z_19, z_20, z_21, z_22, z_23, z_24, z_25, z_26, z_27, z_28, z_29, z_30, z_31, z_32, z_33, z_34, z_35, z_36, z_37, z_38, z_39, z_40, z_41, z_42, z_43, z_44, z_45, z_46, z_47, z_48, z_49, z_50, z_51, z_52, z_53, z_54, z_55, z_56, z_57, z_58, z_59, z_60, z_61, z_62, z_63, z_64, z_65, z_66, z_67, z_68, z_69, z_70, z_71, z_72, z_73, z_74, z_75, z_76, z_77, z_78, z_79, z_80, z_81, z_82, z_83, z_84, z_85, z_86, z_87, z_88, z_89, z_90, z_91, z_92, z_93, z_94, z_95, z_96, z_97, z_98, z_99, z_100, z_101, z_102, z_103, z_104, z_105, z_106, z_107, z_108, z_109, z_110, z_111, z_112, z_113, z_114, z_115, z_116, z_117, z_118, z_119, z_120, z_121, z_122, z_123, z_124, z_125, z_126, z_127, z_199, z_200, z_360, z_410, z_1000, z_1023, z_1024, z_1219, z_9999, z_10240, z_65537]
def hFact (d : Nat → Int → Int) (a w : Int) : Int := if w = 0 then d 3 a else if w = 1 then d 1 a else d 2 a
theorem x_houseFact (d : Nat → Int → Int) (hd : okd d) {a w : Int} (ha : 0 ≤ a) (ha' : a ≤ 9) (h1 : -2147483648 ≤ w) (h2 : w < 2147483648) : f_X1_houseFact (eC d) (zI a) (zI w) = some (zI (hFact d a w)) := by
  unfold f_X1_houseFact hFact
  have := okd_2 hd a
  simp (disch := omega) only [x_beliefOf, x_doubtOf, x_isDamp, s_T, s_F, s_bd, s_cl, s_rd, s_wr, s_ite, z_ite, z_neg, z_add, z_sub, z_mul, z_le, z_lt, z_eq, eC_at, eC_7, eC_8, eC_9, eC_10, eC_11, eC_p7, eC_p8, eC_p9, eC_p10, eC_p11, eC_up, ud_same, ud_ne, z_0, z_1, z_2, z_3, z_4, z_5, z_6, z_7, z_8, z_9, z_10, z_11, z_12, z_13, z_14, z_15, z_16, z_17, z_18, z_19, z_20, z_21, z_22, z_23, z_24, z_25, z_26, z_27, z_28, z_29, z_30, z_31, z_32, z_33, z_34, z_35, z_36, z_37, z_38, z_39, z_40, z_41, z_42, z_43, z_44, z_45, z_46, z_47, z_48, z_49, z_50, z_51, z_52, z_53, z_54, z_55, z_56, z_57, z_58, z_59, z_60, z_61, z_62, z_63, z_64, z_65, z_66, z_67, z_68, z_69, z_70, z_71, z_72, z_73, z_74, z_75, z_76, z_77, z_78, z_79, z_80, z_81, z_82, z_83, z_84, z_85, z_86, z_87, z_88, z_89, z_90, z_91, z_92, z_93, z_94, z_95, z_96, z_97, z_98, z_99, z_100, z_101, z_102, z_103, z_104, z_105, z_106, z_107, z_108, z_109, z_110, z_111, z_112, z_113, z_114, z_115, z_116, z_117, z_118, z_119, z_120, z_121, z_122, z_123, z_124, z_125, z_126, z_127, z_199, z_200, z_360, z_410, z_1000, z_1023, z_1024, z_1219, z_9999, z_10240, z_65537]
  split
  · rfl
  · split
    · rfl
    · split
      · congr 2; omega
      · congr 2; omega
def pFact (d : Nat → Int → Int) (w : Int) : Int := if w = 0 then d 99 8 else if w = 1 then d 99 9 else if w = 2 then d 99 10 else d 99 11
theorem x_panFact (d : Nat → Int → Int) {w : Int} (h1 : -2147483648 ≤ w) (h2 : w < 2147483648) : f_X1_panFact (eC d) (zI w) = some (zI (pFact d w)) := by
  unfold f_X1_panFact pFact
  simp (disch := omega) only [s_T, s_F, s_bd, s_cl, s_rd, s_wr, s_ite, z_ite, z_neg, z_add, z_sub, z_mul, z_le, z_lt, z_eq, eC_at, eC_7, eC_8, eC_9, eC_10, eC_11, eC_p7, eC_p8, eC_p9, eC_p10, eC_p11, eC_up, ud_same, ud_ne, z_0, z_1, z_2, z_3, z_4, z_5, z_6, z_7, z_8, z_9, z_10, z_11, z_12, z_13, z_14, z_15, z_16, z_17, z_18, z_19, z_20, z_21, z_22, z_23, z_24, z_25, z_26, z_27, z_28, z_29, z_30, z_31, z_32, z_33, z_34, z_35, z_36, z_37, z_38, z_39, z_40, z_41, z_42, z_43, z_44, z_45, z_46, z_47, z_48, z_49, z_50, z_51, z_52, z_53, z_54, z_55, z_56, z_57, z_58, z_59, z_60, z_61, z_62, z_63, z_64, z_65, z_66, z_67, z_68, z_69, z_70, z_71, z_72, z_73, z_74, z_75, z_76, z_77, z_78, z_79, z_80, z_81, z_82, z_83, z_84, z_85, z_86, z_87, z_88, z_89, z_90, z_91, z_92, z_93, z_94, z_95, z_96, z_97, z_98, z_99, z_100, z_101, z_102, z_103, z_104, z_105, z_106, z_107, z_108, z_109, z_110, z_111, z_112, z_113, z_114, z_115, z_116, z_117, z_118, z_119, z_120, z_121, z_122, z_123, z_124, z_125, z_126, z_127, z_199, z_200, z_360, z_410, z_1000, z_1023, z_1024, z_1219, z_9999, z_10240, z_65537]
theorem x_isConvinced (d : Nat → Int → Int) (hd : okd d) {a w : Int} (ha : 0 ≤ a) (ha' : a ≤ 9) (h1 : -2147483648 ≤ w) (h2 : w < 2147483648) : f_X1_isConvinced (eC d) (zI a) (zI w) = some (zI (if 9 * d 1 a < w then 1 else 0)) := by
  unfold f_X1_isConvinced
  have := okd_1 hd a
  simp (disch := omega) only [x_isHouse, s_T, s_F, s_bd, s_cl, s_rd, s_wr, s_ite, z_ite, z_neg, z_add, z_sub, z_mul, z_le, z_lt, z_eq, eC_at, eC_7, eC_8, eC_9, eC_10, eC_11, eC_p7, eC_p8, eC_p9, eC_p10, eC_p11, eC_up, ud_same, ud_ne, if_pos, if_neg, z_0, z_1, z_2, z_3, z_4, z_5, z_6, z_7, z_8, z_9, z_10, z_11, z_12, z_13, z_14, z_15, z_16, z_17, z_18, z_19, z_20, z_21, z_22, z_23, z_24, z_25, z_26, z_27, z_28, z_29, z_30, z_31, z_32, z_33, z_34, z_35, z_36, z_37, z_38, z_39, z_40, z_41, z_42, z_43, z_44, z_45, z_46, z_47, z_48, z_49, z_50, z_51, z_52, z_53, z_54, z_55, z_56, z_57, z_58, z_59, z_60, z_61, z_62, z_63, z_64, z_65, z_66, z_67, z_68, z_69, z_70, z_71, z_72, z_73, z_74, z_75, z_76, z_77, z_78, z_79, z_80, z_81, z_82, z_83, z_84, z_85, z_86, z_87, z_88, z_89, z_90, z_91, z_92, z_93, z_94, z_95, z_96, z_97, z_98, z_99, z_100, z_101, z_102, z_103, z_104, z_105, z_106, z_107, z_108, z_109, z_110, z_111, z_112, z_113, z_114, z_115, z_116, z_117, z_118, z_119, z_120, z_121, z_122, z_123, z_124, z_125, z_126, z_127, z_199, z_200, z_360, z_410, z_1000, z_1023, z_1024, z_1219, z_9999, z_10240, z_65537]
  congr 2
  split
  · rw [if_neg (by omega)]
  · rw [if_pos (by omega)]
def rsn (d : Nat → Int → Int) (k w : Int) : Int :=
  if k = 0 then (if d 99 8 = 10 then 0 else 1)
  else if k = 1 then (if d 0 (d 99 8 * 11 + w) ≤ 0 then 2 else 0)
  else if k = 2 then (if d 99 8 = 10 then 1 else if d 99 9 ≤ 0 then 3 else 0)
  else if k = 3 then (if d 99 9 ≤ 0 then 3 else 0)
  else if 99 ≤ d 99 11 then 4 else 0
theorem x_reasonAgainst (d : Nat → Int → Int) (hd : okd d) {k w : Int} (h1 : 0 ≤ k) (h2 : k ≤ 4) (hw : k = 1 → 0 ≤ w ∧ w ≤ 10) : f_X1_reasonAgainst (eC d) (zI k) (zI w) = some (zI (rsn d k w)) := by
  unfold f_X1_reasonAgainst rsn
  have a1 := okd_p hd
  have a2 := okd_h hd
  have a3 := okd_m hd
  have a4 := okd_0 hd (d 99 8 * 11 + w)
  by_cases e : k = 1
  · subst e
    have := hw rfl
    simp (disch := omega) only [x_longBetween, s_T, s_F, s_bd, s_cl, s_rd, s_wr, s_ite, z_ite, z_neg, z_add, z_sub, z_mul, z_le, z_lt, z_eq, eC_at, eC_7, eC_8, eC_9, eC_10, eC_11, eC_p7, eC_p8, eC_p9, eC_p10, eC_p11, eC_up, ud_same, ud_ne, if_pos, if_neg, z_0, z_1, z_2, z_3, z_4, z_5, z_6, z_7, z_8, z_9, z_10, z_11, z_12, z_13, z_14, z_15, z_16, z_17, z_18, z_19, z_20, z_21, z_22, z_23, z_24, z_25, z_26, z_27, z_28, z_29, z_30, z_31, z_32, z_33, z_34, z_35, z_36, z_37, z_38, z_39, z_40, z_41, z_42, z_43, z_44, z_45, z_46, z_47, z_48, z_49, z_50, z_51, z_52, z_53, z_54, z_55, z_56, z_57, z_58, z_59, z_60, z_61, z_62, z_63, z_64, z_65, z_66, z_67, z_68, z_69, z_70, z_71, z_72, z_73, z_74, z_75, z_76, z_77, z_78, z_79, z_80, z_81, z_82, z_83, z_84, z_85, z_86, z_87, z_88, z_89, z_90, z_91, z_92, z_93, z_94, z_95, z_96, z_97, z_98, z_99, z_100, z_101, z_102, z_103, z_104, z_105, z_106, z_107, z_108, z_109, z_110, z_111, z_112, z_113, z_114, z_115, z_116, z_117, z_118, z_119, z_120, z_121, z_122, z_123, z_124, z_125, z_126, z_127, z_199, z_200, z_360, z_410, z_1000, z_1023, z_1024, z_1219, z_9999, z_10240, z_65537]
  · simp (disch := omega) only [if_neg e, s_T, s_F, s_bd, s_cl, s_rd, s_wr, s_ite, z_ite, z_neg, z_add, z_sub, z_mul, z_le, z_lt, z_eq, eC_at, eC_7, eC_8, eC_9, eC_10, eC_11, eC_p7, eC_p8, eC_p9, eC_p10, eC_p11, eC_up, ud_same, ud_ne, z_0, z_1, z_2, z_3, z_4, z_5, z_6, z_7, z_8, z_9, z_10, z_11, z_12, z_13, z_14, z_15, z_16, z_17, z_18, z_19, z_20, z_21, z_22, z_23, z_24, z_25, z_26, z_27, z_28, z_29, z_30, z_31, z_32, z_33, z_34, z_35, z_36, z_37, z_38, z_39, z_40, z_41, z_42, z_43, z_44, z_45, z_46, z_47, z_48, z_49, z_50, z_51, z_52, z_53, z_54, z_55, z_56, z_57, z_58, z_59, z_60, z_61, z_62, z_63, z_64, z_65, z_66, z_67, z_68, z_69, z_70, z_71, z_72, z_73, z_74, z_75, z_76, z_77, z_78, z_79, z_80, z_81, z_82, z_83, z_84, z_85, z_86, z_87, z_88, z_89, z_90, z_91, z_92, z_93, z_94, z_95, z_96, z_97, z_98, z_99, z_100, z_101, z_102, z_103, z_104, z_105, z_106, z_107, z_108, z_109, z_110, z_111, z_112, z_113, z_114, z_115, z_116, z_117, z_118, z_119, z_120, z_121, z_122, z_123, z_124, z_125, z_126, z_127, z_199, z_200, z_360, z_410, z_1000, z_1023, z_1024, z_1219, z_9999, z_10240, z_65537]
def bed (d : Nat → Int → Int) (a : Int) : Nat → Int → Int :=
  if d 2 a = 0 then (if 9 * d 1 a < d 99 9 then ud (ud d 3 a (d 99 10)) 99 9 (if 0 < d 99 9 - 5 then d 99 9 - 5 else 0)
    else ud (ud (ud d 1 a (if d 1 a + 1 < 9 then d 1 a + 1 else 9)) 2 a 0) 99 9 (if 0 < d 99 9 - 5 then d 99 9 - 5 else 0))
  else ud d 99 9 (if 0 < d 99 9 - 10 then d 99 9 - 10 else 0)
theorem eC_ite {c : Prop} [Decidable c] (a b : Nat → Int → Int) : (if c then eC a else eC b) = eC (if c then a else b) := by split <;> rfl
theorem x_warmBed (d : Nat → Int → Int) (hd : okd d) {a : Int} (ha : 0 ≤ a) (ha' : a ≤ 9) : f_X1_warmBed (eC d) (zI a) = some (eC (bed d a)) := by
  unfold f_X1_warmBed bed
  have a1 := okd_h hd
  have a2 := okd_1 hd a
  have a3 := okd_2 hd a
  by_cases e : d 2 a = 0
  · by_cases e2 : 9 * d 1 a < d 99 9
    · simp (disch := omega) only [x_isDamp, x_isConvinced, x_doubtOf, x_furnish, x_convince, s_T, s_F, s_bd, s_cl, s_rd, s_wr, s_ite, z_ite, z_neg, z_add, z_sub, z_mul, z_le, z_lt, z_eq, eC_at, eC_7, eC_8, eC_9, eC_10, eC_11, eC_p7, eC_p8, eC_p9, eC_p10, eC_p11, eC_up, ud_same, ud_ne, if_pos, if_neg, z_0, z_1, z_2, z_3, z_4, z_5, z_6, z_7, z_8, z_9, z_10, z_11, z_12, z_13, z_14, z_15, z_16, z_17, z_18, z_19, z_20, z_21, z_22, z_23, z_24, z_25, z_26, z_27, z_28, z_29, z_30, z_31, z_32, z_33, z_34, z_35, z_36, z_37, z_38, z_39, z_40, z_41, z_42, z_43, z_44, z_45, z_46, z_47, z_48, z_49, z_50, z_51, z_52, z_53, z_54, z_55, z_56, z_57, z_58, z_59, z_60, z_61, z_62, z_63, z_64, z_65, z_66, z_67, z_68, z_69, z_70, z_71, z_72, z_73, z_74, z_75, z_76, z_77, z_78, z_79, z_80, z_81, z_82, z_83, z_84, z_85, z_86, z_87, z_88, z_89, z_90, z_91, z_92, z_93, z_94, z_95, z_96, z_97, z_98, z_99, z_100, z_101, z_102, z_103, z_104, z_105, z_106, z_107, z_108, z_109, z_110, z_111, z_112, z_113, z_114, z_115, z_116, z_117, z_118, z_119, z_120, z_121, z_122, z_123, z_124, z_125, z_126, z_127, z_199, z_200, z_360, z_410, z_1000, z_1023, z_1024, z_1219, z_9999, z_10240, z_65537]
    · simp (disch := omega) only [x_isDamp, x_isConvinced, x_doubtOf, x_furnish, x_convince, s_T, s_F, s_bd, s_cl, s_rd, s_wr, s_ite, z_ite, z_neg, z_add, z_sub, z_mul, z_le, z_lt, z_eq, eC_at, eC_7, eC_8, eC_9, eC_10, eC_11, eC_p7, eC_p8, eC_p9, eC_p10, eC_p11, eC_up, ud_same, ud_ne, if_pos, if_neg, z_0, z_1, z_2, z_3, z_4, z_5, z_6, z_7, z_8, z_9, z_10, z_11, z_12, z_13, z_14, z_15, z_16, z_17, z_18, z_19, z_20, z_21, z_22, z_23, z_24, z_25, z_26, z_27, z_28, z_29, z_30, z_31, z_32, z_33, z_34, z_35, z_36, z_37, z_38, z_39, z_40, z_41, z_42, z_43, z_44, z_45, z_46, z_47, z_48, z_49, z_50, z_51, z_52, z_53, z_54, z_55, z_56, z_57, z_58, z_59, z_60, z_61, z_62, z_63, z_64, z_65, z_66, z_67, z_68, z_69, z_70, z_71, z_72, z_73, z_74, z_75, z_76, z_77, z_78, z_79, z_80, z_81, z_82, z_83, z_84, z_85, z_86, z_87, z_88, z_89, z_90, z_91, z_92, z_93, z_94, z_95, z_96, z_97, z_98, z_99, z_100, z_101, z_102, z_103, z_104, z_105, z_106, z_107, z_108, z_109, z_110, z_111, z_112, z_113, z_114, z_115, z_116, z_117, z_118, z_119, z_120, z_121, z_122, z_123, z_124, z_125, z_126, z_127, z_199, z_200, z_360, z_410, z_1000, z_1023, z_1024, z_1219, z_9999, z_10240, z_65537]
  · simp (disch := omega) only [x_isDamp, x_isConvinced, x_doubtOf, x_furnish, x_convince, s_T, s_F, s_bd, s_cl, s_rd, s_wr, s_ite, z_ite, z_neg, z_add, z_sub, z_mul, z_le, z_lt, z_eq, eC_at, eC_7, eC_8, eC_9, eC_10, eC_11, eC_p7, eC_p8, eC_p9, eC_p10, eC_p11, eC_up, ud_same, ud_ne, if_pos, if_neg, z_0, z_1, z_2, z_3, z_4, z_5, z_6, z_7, z_8, z_9, z_10, z_11, z_12, z_13, z_14, z_15, z_16, z_17, z_18, z_19, z_20, z_21, z_22, z_23, z_24, z_25, z_26, z_27, z_28, z_29, z_30, z_31, z_32, z_33, z_34, z_35, z_36, z_37, z_38, z_39, z_40, z_41, z_42, z_43, z_44, z_45, z_46, z_47, z_48, z_49, z_50, z_51, z_52, z_53, z_54, z_55, z_56, z_57, z_58, z_59, z_60, z_61, z_62, z_63, z_64, z_65, z_66, z_67, z_68, z_69, z_70, z_71, z_72, z_73, z_74, z_75, z_76, z_77, z_78, z_79, z_80, z_81, z_82, z_83, z_84, z_85, z_86, z_87, z_88, z_89, z_90, z_91, z_92, z_93, z_94, z_95, z_96, z_97, z_98, z_99, z_100, z_101, z_102, z_103, z_104, z_105, z_106, z_107, z_108, z_109, z_110, z_111, z_112, z_113, z_114, z_115, z_116, z_117, z_118, z_119, z_120, z_121, z_122, z_123, z_124, z_125, z_126, z_127, z_199, z_200, z_360, z_410, z_1000, z_1023, z_1024, z_1219, z_9999, z_10240, z_65537]

def md (d : Nat → Int → Int) : Nat → Int → Int := fun k i => if k = 2 ∧ 0 ≤ i ∧ i < 10 then 0 else d k i
/-! rows filled -/
theorem up_up (σ : qS) (k : Nat) (f g : Nat → Int32) : q_up (q_up σ k f) k g = q_up σ k g := by
  funext a
  unfold q_up
  cases Nat.beq a k <;> rfl
theorem up_at (σ : qS) (k : Nat) (f : Nat → Int32) : q_up σ k f k = f := by
  unfold q_up
  rw [Nat.beq_refl]; rfl
theorem up_id (σ : qS) (k : Nat) : q_up σ k (σ k) = σ := by
  funext a
  unfold q_up
  cases h : Nat.beq a k with
  | false => rfl
  | true => rw [Nat.eq_of_beq_eq_true h]; rfl
theorem x_fill {n : Nat} (hn : n < 16384) (σ : qS) (v : Int32) : f_J7_fill_53178 n σ v = some (q_up σ 0 (fun j => if j < n then v else σ 0 j)) := by
  unfold f_J7_fill_53178
  rw [s_bd]
  refine lp_eq (fun s => n - s.1.toNatClampNeg) (fun s => ∃ i : Nat, i ≤ n ∧ s.1 = zI i ∧ s.2 = q_up σ 0 (fun j => if j < i then v else σ 0 j)) (fun _ => some (q_up σ 0 (fun j => if j < n then v else σ 0 j))) ?_ ⟨0, Nat.zero_le _, rfl, ?_⟩ ?_
  · rintro again ⟨s1, s2⟩ ⟨i, hi, rfl, rfl⟩ ih
    unfold b_J7_fill_53178_5
    dsimp only at ih ⊢
    rw [z_n]
    by_cases h : i < n
    · simp (disch := omega) only [s_T, s_F, s_bd, s_cl, s_rd, s_wr, s_ite, z_ite, z_neg, z_add, z_sub, z_mul, z_le, z_lt, z_eq, eC_at, eC_7, eC_8, eC_9, eC_10, eC_11, eC_p7, eC_p8, eC_p9, eC_p10, eC_p11, eC_up, ud_same, ud_ne, if_pos, if_neg, z_0, z_1, z_2, z_3, z_4, z_5, z_6, z_7, z_8, z_9, z_10, z_11, z_12, z_13, z_14, z_15, z_16, z_17, z_18, z_19, z_20, z_21, z_22, z_23, z_24, z_25, z_26, z_27, z_28, z_29, z_30, z_31, z_32, z_33, z_34, z_35, z_36, z_37, z_38, z_39, z_40, z_41, z_42, z_43, z_44, z_45, z_46, z_47, z_48, z_49, z_50, z_51, z_52, z_53, z_54, z_55, z_56, z_57, z_58, z_59, z_60, z_61, z_62, z_63, z_64, z_65, z_66, z_67, z_68, z_69, z_70, z_71, z_72, z_73, z_74, z_75, z_76, z_77, z_78, z_79, z_80, z_81, z_82, z_83, z_84, z_85, z_86, z_87, z_88, z_89, z_90, z_91, z_92, z_93, z_94, z_95, z_96, z_97, z_98, z_99, z_100, z_101, z_102, z_103, z_104, z_105, z_106, z_107, z_108, z_109, z_110, z_111, z_112, z_113, z_114, z_115, z_116, z_117, z_118, z_119, z_120, z_121, z_122, z_123, z_124, z_125, z_126, z_127, z_199, z_200, z_360, z_410, z_1000, z_1023, z_1024, z_1219, z_9999, z_10240, z_65537]
      refine ih _ ⟨i + 1, h, rfl, ?_⟩ ?_
      · dsimp only
        rw [up_up, up_at]
        refine congrArg (q_up σ 0) (funext fun j => ?_)
        unfold upd
        by_cases e : j = i
        · rw [if_pos (by omega), if_pos (by omega)]
        · rw [if_neg (by omega)]
          dsimp only
          by_cases e2 : j < i
          · rw [if_pos e2, if_pos (by omega)]
          · rw [if_neg e2, if_neg (by omega)]
      · dsimp only
        rw [z_nat (by omega) (by omega), z_nat (by omega) (by omega)]
        omega
    · obtain rfl : i = n := by omega
      simp (disch := omega) only [s_T, s_F, s_bd, s_cl, s_rd, s_wr, s_ite, z_ite, z_neg, z_add, z_sub, z_mul, z_le, z_lt, z_eq, eC_at, eC_7, eC_8, eC_9, eC_10, eC_11, eC_p7, eC_p8, eC_p9, eC_p10, eC_p11, eC_up, ud_same, ud_ne, if_pos, if_neg, z_0, z_1, z_2, z_3, z_4, z_5, z_6, z_7, z_8, z_9, z_10, z_11, z_12, z_13, z_14, z_15, z_16, z_17, z_18, z_19, z_20, z_21, z_22, z_23, z_24, z_25, z_26, z_27, z_28, z_29, z_30, z_31, z_32, z_33, z_34, z_35, z_36, z_37, z_38, z_39, z_40, z_41, z_42, z_43, z_44, z_45, z_46, z_47, z_48, z_49, z_50, z_51, z_52, z_53, z_54, z_55, z_56, z_57, z_58, z_59, z_60, z_61, z_62, z_63, z_64, z_65, z_66, z_67, z_68, z_69, z_70, z_71, z_72, z_73, z_74, z_75, z_76, z_77, z_78, z_79, z_80, z_81, z_82, z_83, z_84, z_85, z_86, z_87, z_88, z_89, z_90, z_91, z_92, z_93, z_94, z_95, z_96, z_97, z_98, z_99, z_100, z_101, z_102, z_103, z_104, z_105, z_106, z_107, z_108, z_109, z_110, z_111, z_112, z_113, z_114, z_115, z_116, z_117, z_118, z_119, z_120, z_121, z_122, z_123, z_124, z_125, z_126, z_127, z_199, z_200, z_360, z_410, z_1000, z_1023, z_1024, z_1219, z_9999, z_10240, z_65537]
  · simp only [Nat.not_lt_zero, if_false]
    exact (up_id σ 0).symm
  · dsimp only
    omega
theorem md_eq (d : Nat → Int → Int) : q_up (eC d) 2 (fun j => if j < 10 then zI 0 else eC d 2 j) = eC (md d) := by
  funext a b
  unfold q_up md
  cases h : Nat.beq a 2 with
  | false =>
    have e : ¬ a = 2 := fun z => by subst z; cases h
    show zI (d a b) = zI (if a = 2 ∧ 0 ≤ (b : Int) ∧ (b : Int) < 10 then 0 else d a b)
    rw [if_neg (fun z => e z.1)]
  | true =>
    obtain rfl := Nat.eq_of_beq_eq_true h
    show (if b < 10 then zI 0 else zI (d 2 b)) = zI (if 2 = 2 ∧ 0 ≤ (b : Int) ∧ (b : Int) < 10 then 0 else d 2 b)
    by_cases e : b < 10
    · rw [if_pos e, if_pos ⟨rfl, by omega, by omega⟩]
    · rw [if_neg e, if_neg (fun z => e (by omega))]
def actd (d : Nat → Int → Int) (k w v : Int) : Nat → Int → Int :=
  if k = 0 then ud (ud d 99 10 w) 99 9 v
  else if k = 1 then ud (ud d 99 9 (if 0 < d 99 9 - d 0 (d 99 8 * 11 + w) then d 99 9 - d 0 (d 99 8 * 11 + w) else 0)) 99 8 w
  else if k = 2 then bed d (d 99 8)
  else if k = 3 then ud (ud d 99 9 (if d 99 9 + 10 < 99 then d 99 9 + 10 else 99)) 99 10 (d 4 (d 99 10))
  else md (ud (ud (ud d 99 8 10) 99 9 0) 99 11 (d 99 11 + 1))
/-- acts that can be are done -/
theorem x_act (d : Nat → Int → Int) (hd : okd d) {k w v : Int} (h1 : 0 ≤ k) (h2 : k ≤ 4) (hw : k = 1 → 0 ≤ w ∧ w ≤ 10) (hb : k = 2 → d 99 8 ≤ 9) : f_X1_act (eC d) (zI k) (zI w) (zI v) = some (eC (actd d k w v)) := by
  have a1 := okd_p hd
  have a2 := okd_h hd
  have a3 := okd_m hd
  have a4 := okd_0 hd (d 99 8 * 11 + w)
  have a5 := okd_t hd
  unfold f_X1_act actd
  rcases (show k = 0 ∨ k = 1 ∨ k = 2 ∨ k = 3 ∨ k = 4 by omega) with e | e | e | e | e <;> subst e
  · simp (disch := omega) only [s_T, s_F, s_bd, s_cl, s_rd, s_wr, s_ite, z_ite, z_neg, z_add, z_sub, z_mul, z_le, z_lt, z_eq, eC_at, eC_7, eC_8, eC_9, eC_10, eC_11, eC_p7, eC_p8, eC_p9, eC_p10, eC_p11, eC_up, ud_same, ud_ne, if_pos, if_neg, z_0, z_1, z_2, z_3, z_4, z_5, z_6, z_7, z_8, z_9, z_10, z_11, z_12, z_13, z_14, z_15, z_16, z_17, z_18, z_19, z_20, z_21, z_22, z_23, z_24, z_25, z_26, z_27, z_28, z_29, z_30, z_31, z_32, z_33, z_34, z_35, z_36, z_37, z_38, z_39, z_40, z_41, z_42, z_43, z_44, z_45, z_46, z_47, z_48, z_49, z_50, z_51, z_52, z_53, z_54, z_55, z_56, z_57, z_58, z_59, z_60, z_61, z_62, z_63, z_64, z_65, z_66, z_67, z_68, z_69, z_70, z_71, z_72, z_73, z_74, z_75, z_76, z_77, z_78, z_79, z_80, z_81, z_82, z_83, z_84, z_85, z_86, z_87, z_88, z_89, z_90, z_91, z_92, z_93, z_94, z_95, z_96, z_97, z_98, z_99, z_100, z_101, z_102, z_103, z_104, z_105, z_106, z_107, z_108, z_109, z_110, z_111, z_112, z_113, z_114, z_115, z_116, z_117, z_118, z_119, z_120, z_121, z_122, z_123, z_124, z_125, z_126, z_127, z_199, z_200, z_360, z_410, z_1000, z_1023, z_1024, z_1219, z_9999, z_10240, z_65537]
  · have := hw rfl
    simp (disch := omega) only [x_longBetween, s_T, s_F, s_bd, s_cl, s_rd, s_wr, s_ite, z_ite, z_neg, z_add, z_sub, z_mul, z_le, z_lt, z_eq, eC_at, eC_7, eC_8, eC_9, eC_10, eC_11, eC_p7, eC_p8, eC_p9, eC_p10, eC_p11, eC_up, ud_same, ud_ne, if_pos, if_neg, z_0, z_1, z_2, z_3, z_4, z_5, z_6, z_7, z_8, z_9, z_10, z_11, z_12, z_13, z_14, z_15, z_16, z_17, z_18, z_19, z_20, z_21, z_22, z_23, z_24, z_25, z_26, z_27, z_28, z_29, z_30, z_31, z_32, z_33, z_34, z_35, z_36, z_37, z_38, z_39, z_40, z_41, z_42, z_43, z_44, z_45, z_46, z_47, z_48, z_49, z_50, z_51, z_52, z_53, z_54, z_55, z_56, z_57, z_58, z_59, z_60, z_61, z_62, z_63, z_64, z_65, z_66, z_67, z_68, z_69, z_70, z_71, z_72, z_73, z_74, z_75, z_76, z_77, z_78, z_79, z_80, z_81, z_82, z_83, z_84, z_85, z_86, z_87, z_88, z_89, z_90, z_91, z_92, z_93, z_94, z_95, z_96, z_97, z_98, z_99, z_100, z_101, z_102, z_103, z_104, z_105, z_106, z_107, z_108, z_109, z_110, z_111, z_112, z_113, z_114, z_115, z_116, z_117, z_118, z_119, z_120, z_121, z_122, z_123, z_124, z_125, z_126, z_127, z_199, z_200, z_360, z_410, z_1000, z_1023, z_1024, z_1219, z_9999, z_10240, z_65537]
  · have := hb rfl
    simp (disch := omega) only [x_warmBed, s_T, s_F, s_bd, s_cl, s_rd, s_wr, s_ite, z_ite, z_neg, z_add, z_sub, z_mul, z_le, z_lt, z_eq, eC_at, eC_7, eC_8, eC_9, eC_10, eC_11, eC_p7, eC_p8, eC_p9, eC_p10, eC_p11, eC_up, ud_same, ud_ne, if_pos, if_neg, z_0, z_1, z_2, z_3, z_4, z_5, z_6, z_7, z_8, z_9, z_10, z_11, z_12, z_13, z_14, z_15, z_16, z_17, z_18, z_19, z_20, z_21, z_22, z_23, z_24, z_25, z_26, z_27, z_28, z_29, z_30, z_31, z_32, z_33, z_34, z_35, z_36, z_37, z_38, z_39, z_40, z_41, z_42, z_43, z_44, z_45, z_46, z_47, z_48, z_49, z_50, z_51, z_52, z_53, z_54, z_55, z_56, z_57, z_58, z_59, z_60, z_61, z_62, z_63, z_64, z_65, z_66, z_67, z_68, z_69, z_70, z_71, z_72, z_73, z_74, z_75, z_76, z_77, z_78, z_79, z_80, z_81, z_82, z_83, z_84, z_85, z_86, z_87, z_88, z_89, z_90, z_91, z_92, z_93, z_94, z_95, z_96, z_97, z_98, z_99, z_100, z_101, z_102, z_103, z_104, z_105, z_106, z_107, z_108, z_109, z_110, z_111, z_112, z_113, z_114, z_115, z_116, z_117, z_118, z_119, z_120, z_121, z_122, z_123, z_124, z_125, z_126, z_127, z_199, z_200, z_360, z_410, z_1000, z_1023, z_1024, z_1219, z_9999, z_10240, z_65537]
  · simp (disch := omega) only [x_fadesInto, s_T, s_F, s_bd, s_cl, s_rd, s_wr, s_ite, z_ite, z_neg, z_add, z_sub, z_mul, z_le, z_lt, z_eq, eC_at, eC_7, eC_8, eC_9, eC_10, eC_11, eC_p7, eC_p8, eC_p9, eC_p10, eC_p11, eC_up, ud_same, ud_ne, if_pos, if_neg, z_0, z_1, z_2, z_3, z_4, z_5, z_6, z_7, z_8, z_9, z_10, z_11, z_12, z_13, z_14, z_15, z_16, z_17, z_18, z_19, z_20, z_21, z_22, z_23, z_24, z_25, z_26, z_27, z_28, z_29, z_30, z_31, z_32, z_33, z_34, z_35, z_36, z_37, z_38, z_39, z_40, z_41, z_42, z_43, z_44, z_45, z_46, z_47, z_48, z_49, z_50, z_51, z_52, z_53, z_54, z_55, z_56, z_57, z_58, z_59, z_60, z_61, z_62, z_63, z_64, z_65, z_66, z_67, z_68, z_69, z_70, z_71, z_72, z_73, z_74, z_75, z_76, z_77, z_78, z_79, z_80, z_81, z_82, z_83, z_84, z_85, z_86, z_87, z_88, z_89, z_90, z_91, z_92, z_93, z_94, z_95, z_96, z_97, z_98, z_99, z_100, z_101, z_102, z_103, z_104, z_105, z_106, z_107, z_108, z_109, z_110, z_111, z_112, z_113, z_114, z_115, z_116, z_117, z_118, z_119, z_120, z_121, z_122, z_123, z_124, z_125, z_126, z_127, z_199, z_200, z_360, z_410, z_1000, z_1023, z_1024, z_1219, z_9999, z_10240, z_65537]
  · simp (disch := omega) only [x_fill, s_T, s_F, s_bd, s_cl, s_rd, s_wr, s_ite, z_ite, z_neg, z_add, z_sub, z_mul, z_le, z_lt, z_eq, eC_at, eC_7, eC_8, eC_9, eC_10, eC_11, eC_p7, eC_p8, eC_p9, eC_p10, eC_p11, eC_up, ud_same, ud_ne, if_pos, if_neg, z_0, z_1, z_2, z_3, z_4, z_5, z_6, z_7, z_8, z_9, z_10, z_11, z_12, z_13, z_14, z_15, z_16, z_17, z_18, z_19, z_20, z_21, z_22, z_23, z_24, z_25, z_26, z_27, z_28, z_29, z_30, z_31, z_32, z_33, z_34, z_35, z_36, z_37, z_38, z_39, z_40, z_41, z_42, z_43, z_44, z_45, z_46, z_47, z_48, z_49, z_50, z_51, z_52, z_53, z_54, z_55, z_56, z_57, z_58, z_59, z_60, z_61, z_62, z_63, z_64, z_65, z_66, z_67, z_68, z_69, z_70, z_71, z_72, z_73, z_74, z_75, z_76, z_77, z_78, z_79, z_80, z_81, z_82, z_83, z_84, z_85, z_86, z_87, z_88, z_89, z_90, z_91, z_92, z_93, z_94, z_95, z_96, z_97, z_98, z_99, z_100, z_101, z_102, z_103, z_104, z_105, z_106, z_107, z_108, z_109, z_110, z_111, z_112, z_113, z_114, z_115, z_116, z_117, z_118, z_119, z_120, z_121, z_122, z_123, z_124, z_125, z_126, z_127, z_199, z_200, z_360, z_410, z_1000, z_1023, z_1024, z_1219, z_9999, z_10240, z_65537]
    rw [up_at, md_eq]
theorem okd_bed {d : Nat → Int → Int} (hd : okd d) {a : Int} (h1 : 0 ≤ a) (h2 : a ≤ 9) : okd (bed d a) := by
  have a1 := okd_h hd
  have a2 := okd_1 hd a
  have a3 := okd_t hd
  unfold bed
  split
  · split
    · exact okd_ud (okd_ud hd (show (-6 : Int) ≤ _ by omega) (show _ ≤ (9 : Int) by omega)) (show (0 : Int) ≤ _ by split <;> omega) (show _ ≤ (99 : Int) by split <;> omega)
    · exact okd_ud (okd_ud (okd_ud hd (show (0 : Int) ≤ _ by split <;> omega) (show _ ≤ (9 : Int) by split <;> omega)) (show (0 : Int) ≤ _ by omega) (show _ ≤ (1 : Int) by omega)) (show (0 : Int) ≤ _ by split <;> omega) (show _ ≤ (99 : Int) by split <;> omega)
  · exact okd_ud hd (show (0 : Int) ≤ _ by split <;> omega) (show _ ≤ (99 : Int) by split <;> omega)
theorem okd_md {d : Nat → Int → Int} (hd : okd d) : okd (md d) := by
  intro k i
  unfold md
  split
  · next z => obtain ⟨rfl, _⟩ := z; exact ⟨by show (0 : Int) ≤ 0; omega, by show (0 : Int) ≤ 1; omega⟩
  · exact hd k i
theorem okd_act {d : Nat → Int → Int} (hd : okd d) {k w v : Int} (h1 : 0 ≤ k) (h2 : k ≤ 4) (hw : k = 1 → 0 ≤ w ∧ w ≤ 10) (hw0 : k = 0 → 0 ≤ w ∧ w ≤ 9) (hv : k = 0 → 0 ≤ v ∧ v ≤ 99) (hr : rsn d k w = 0) : okd (actd d k w v) := by
  have a1 := okd_p hd
  have a2 := okd_h hd
  have a3 := okd_m hd
  have a4 := okd_0 hd (d 99 8 * 11 + w)
  have a5 := okd_t hd
  have a6 := okd_4 hd (i := d 99 10) (by omega) (by omega)
  unfold actd
  unfold rsn at hr
  split at hr
  · next e =>
    rw [if_pos e]
    have := hw0 e; have := hv e
    exact okd_ud (okd_ud hd (show (0 : Int) ≤ _ by omega) (show _ ≤ (9 : Int) by omega)) (show (0 : Int) ≤ _ by omega) (show _ ≤ (99 : Int) by omega)
  · next e =>
    rw [if_neg e]
    split at hr
    · next e1 =>
      rw [if_pos e1]
      have := hw e1
      exact okd_ud (okd_ud hd (show (0 : Int) ≤ _ by split <;> omega) (show _ ≤ (99 : Int) by split <;> omega)) (show (0 : Int) ≤ _ by omega) (show _ ≤ (10 : Int) by omega)
    · next e1 =>
      rw [if_neg e1]
      split at hr
      · next e2 =>
        rw [if_pos e2]
        split at hr
        · omega
        · exact okd_bed hd (by omega) (by omega)
      · next e2 =>
        rw [if_neg e2]
        split at hr
        · next e3 =>
          rw [if_pos e3]
          exact okd_ud (okd_ud hd (show (0 : Int) ≤ _ by split <;> omega) (show _ ≤ (99 : Int) by split <;> omega)) (show (0 : Int) ≤ _ by omega) (show _ ≤ (9 : Int) by omega)
        · next e3 =>
          rw [if_neg e3]
          split at hr
          · omega
          · exact okd_md (okd_ud (okd_ud (okd_ud hd (show (0 : Int) ≤ _ by omega) (show _ ≤ (10 : Int) by omega)) (show (0 : Int) ≤ _ by omega) (show _ ≤ (99 : Int) by omega)) (show (0 : Int) ≤ _ by omega) (show _ ≤ (99 : Int) by omega))
theorem x_copyFrom (d f : Nat → Int → Int) (hd : okd d) (hf : okd f) : f_X1_copyFrom (eC d) (eC f) = some (eC f) := by
  unfold f_X1_copyFrom
  simp only [s_bd]
  congr 1
  funext a b
  have z : ∀ {g : Nat → Int → Int}, okd g → 7 ≤ a → a ≠ 99 → g a b = 0 := by
    intro g hg h7 h9
    have := hg a b
    unfold lod hid at this
    rw [if_neg (by omega), if_neg (by omega), if_neg (by omega), if_neg (by omega), if_neg (by omega), if_neg (by omega), if_neg (by omega), if_neg (by omega), if_neg (by omega), if_neg (by omega)] at this
    omega
  have z9 : ∀ {g : Nat → Int → Int}, okd g → (b < 7 ∨ 11 < b) → g 99 b = 0 := by
    intro g hg h
    have := hg 99 b
    unfold lod hid at this
    rw [if_neg (by decide), if_neg (by decide), if_neg (by decide), if_neg (by decide), if_neg (by decide), if_neg (by decide), if_neg (by decide), if_neg (by decide), if_neg (by decide), if_pos rfl, if_neg (by omega), if_neg (by omega), if_neg (by omega), if_neg (by omega), if_neg (by omega)] at this
    omega
  by_cases h99 : a = 99
  · subst h99
    show upd (upd (upd (upd (upd (eC d 99) 7 (eC f 99 7)) 8 (eC f 99 8)) 9 (eC f 99 9)) 10 (eC f 99 10)) 11 (eC f 99 11) b = eC f 99 b
    unfold upd
    split
    · next e => rw [e]
    · split
      · next e => rw [e]
      · split
        · next e => rw [e]
        · split
          · next e => rw [e]
          · split
            · next e => rw [e]
            · show zI (d 99 b) = zI (f 99 b)
              rw [z9 hd (by omega), z9 hf (by omega)]
  · by_cases h7 : 7 ≤ a
    · have e : ∀ k, (k = 99 ∨ k ≤ 6) → Nat.beq a k = false := fun k hk => by
        cases h : Nat.beq a k with
        | false => rfl
        | true => have := Nat.eq_of_beq_eq_true h; omega
      unfold q_pt
      simp only [q_up, e 99 (Or.inl rfl), e 0 (Or.inr (by decide)), e 1 (Or.inr (by decide)), e 2 (Or.inr (by decide)), e 3 (Or.inr (by decide)), e 4 (Or.inr (by decide)), e 5 (Or.inr (by decide)), e 6 (Or.inr (by decide)), cond_false]
      show zI (d a b) = zI (f a b)
      rw [z hd h7 h99, z hf h7 h99]
    · rcases (show a = 0 ∨ a = 1 ∨ a = 2 ∨ a = 3 ∨ a = 4 ∨ a = 5 ∨ a = 6 by omega) with e | e | e | e | e | e | e <;> subst e <;> rfl
end
section
/-! the pad -/
def okp (e : Nat → Int → Int) : Prop := (∀ i, 0 ≤ e 0 i ∧ e 0 i ≤ 126) ∧ 0 ≤ e 99 1 ∧ e 99 1 ≤ 60
theorem eC_0 (d : Nat → Int → Int) : eC d 99 0 = zI (d 99 0) := rfl
theorem eC_1 (d : Nat → Int → Int) : eC d 99 1 = zI (d 99 1) := rfl
theorem eC_2 (d : Nat → Int → Int) : eC d 99 2 = zI (d 99 2) := rfl
theorem eC_3 (d : Nat → Int → Int) : eC d 99 3 = zI (d 99 3) := rfl
theorem eC_4 (d : Nat → Int → Int) : eC d 99 4 = zI (d 99 4) := rfl
theorem eC_5 (d : Nat → Int → Int) : eC d 99 5 = zI (d 99 5) := rfl
theorem eC_p0 (d : Nat → Int → Int) (v : Int) : q_up (eC d) 99 (upd (eC d 99) 0 (zI v)) = eC (ud d 99 0 v) := eC_up d 99 (i := 0) (by decide) v
theorem eC_p1 (d : Nat → Int → Int) (v : Int) : q_up (eC d) 99 (upd (eC d 99) 1 (zI v)) = eC (ud d 99 1 v) := eC_up d 99 (i := 1) (by decide) v
theorem eC_p2 (d : Nat → Int → Int) (v : Int) : q_up (eC d) 99 (upd (eC d 99) 2 (zI v)) = eC (ud d 99 2 v) := eC_up d 99 (i := 2) (by decide) v
theorem eC_p3 (d : Nat → Int → Int) (v : Int) : q_up (eC d) 99 (upd (eC d 99) 3 (zI v)) = eC (ud d 99 3 v) := eC_up d 99 (i := 3) (by decide) v
theorem eC_p4 (d : Nat → Int → Int) (v : Int) : q_up (eC d) 99 (upd (eC d 99) 4 (zI v)) = eC (ud d 99 4 v) := eC_up d 99 (i := 4) (by decide) v
theorem eC_p5 (d : Nat → Int → Int) (v : Int) : q_up (eC d) 99 (upd (eC d 99) 5 (zI v)) = eC (ud d 99 5 v) := eC_up d 99 (i := 5) (by decide) v
def sg (e : Nat → Int → Int) (i : Int) : Int := if 0 ≤ i ∧ i < e 99 1 then e 0 i else -6
def plc (c : Int) : Int := if 65 ≤ c ∧ c ≤ 74 then c - 65 else if c = 107 then 10 else -6
def kdc (c : Int) : Int := if c = 42 then 2 else if c = 46 then 4 else if c = 61 then 0 else if c = 126 then 3 else if plc c = -6 then -6 else 1
theorem sg_b {e} (h : okp e) (i : Int) : -6 ≤ sg e i ∧ sg e i ≤ 126 := by
  have := h.1 i
  unfold sg
  split <;> omega
theorem plc_b (c : Int) : -6 ≤ plc c ∧ plc c ≤ 10 := by
  unfold plc
  split
  · omega
  · split <;> omega
theorem kdc_b (c : Int) : -6 ≤ kdc c ∧ kdc c ≤ 4 := by
  unfold kdc
  repeat' split
  all_goals omega
theorem x_signAt {e} (h : okp e) {i : Int} (h0 : 0 ≤ i) (h1 : i ≤ 100) : f_X3_signAt (eC e) (zI i) = some (zI (sg e i)) := by
  have a1 := h.2
  unfold f_X3_signAt sg
  by_cases c1 : i ≤ 59
  · by_cases c2 : i < e 99 1
    · simp (disch := omega) only [x_within, eC_1, s_T, s_F, s_bd, s_cl, s_rd, s_wr, s_ite, z_ite, z_neg, z_add, z_sub, z_mul, z_le, z_lt, z_eq, eC_at, eC_7, eC_8, eC_9, eC_10, eC_11, eC_p7, eC_p8, eC_p9, eC_p10, eC_p11, eC_up, ud_same, ud_ne, if_pos, if_neg, z_0, z_1, z_2, z_3, z_4, z_5, z_6, z_7, z_8, z_9, z_10, z_11, z_12, z_13, z_14, z_15, z_16, z_17, z_18, z_19, z_20, z_21, z_22, z_23, z_24, z_25, z_26, z_27, z_28, z_29, z_30, z_31, z_32, z_33, z_34, z_35, z_36, z_37, z_38, z_39, z_40, z_41, z_42, z_43, z_44, z_45, z_46, z_47, z_48, z_49, z_50, z_51, z_52, z_53, z_54, z_55, z_56, z_57, z_58, z_59, z_60, z_61, z_62, z_63, z_64, z_65, z_66, z_67, z_68, z_69, z_70, z_71, z_72, z_73, z_74, z_75, z_76, z_77, z_78, z_79, z_80, z_81, z_82, z_83, z_84, z_85, z_86, z_87, z_88, z_89, z_90, z_91, z_92, z_93, z_94, z_95, z_96, z_97, z_98, z_99, z_100, z_101, z_102, z_103, z_104, z_105, z_106, z_107, z_108, z_109, z_110, z_111, z_112, z_113, z_114, z_115, z_116, z_117, z_118, z_119, z_120, z_121, z_122, z_123, z_124, z_125, z_126, z_127, z_199, z_200, z_360, z_410, z_1000, z_1023, z_1024, z_1219, z_9999, z_10240, z_65537]
    · simp (disch := omega) only [x_within, eC_1, s_T, s_F, s_bd, s_cl, s_rd, s_wr, s_ite, z_ite, z_neg, z_add, z_sub, z_mul, z_le, z_lt, z_eq, eC_at, eC_7, eC_8, eC_9, eC_10, eC_11, eC_p7, eC_p8, eC_p9, eC_p10, eC_p11, eC_up, ud_same, ud_ne, if_pos, if_neg, z_0, z_1, z_2, z_3, z_4, z_5, z_6, z_7, z_8, z_9, z_10, z_11, z_12, z_13, z_14, z_15, z_16, z_17, z_18, z_19, z_20, z_21, z_22, z_23, z_24, z_25, z_26, z_27, z_28, z_29, z_30, z_31, z_32, z_33, z_34, z_35, z_36, z_37, z_38, z_39, z_40, z_41, z_42, z_43, z_44, z_45, z_46, z_47, z_48, z_49, z_50, z_51, z_52, z_53, z_54, z_55, z_56, z_57, z_58, z_59, z_60, z_61, z_62, z_63, z_64, z_65, z_66, z_67, z_68, z_69, z_70, z_71, z_72, z_73, z_74, z_75, z_76, z_77, z_78, z_79, z_80, z_81, z_82, z_83, z_84, z_85, z_86, z_87, z_88, z_89, z_90, z_91, z_92, z_93, z_94, z_95, z_96, z_97, z_98, z_99, z_100, z_101, z_102, z_103, z_104, z_105, z_106, z_107, z_108, z_109, z_110, z_111, z_112, z_113, z_114, z_115, z_116, z_117, z_118, z_119, z_120, z_121, z_122, z_123, z_124, z_125, z_126, z_127, z_199, z_200, z_360, z_410, z_1000, z_1023, z_1024, z_1219, z_9999, z_10240, z_65537]
  · simp (disch := omega) only [x_within, eC_1, s_T, s_F, s_bd, s_cl, s_rd, s_wr, s_ite, z_ite, z_neg, z_add, z_sub, z_mul, z_le, z_lt, z_eq, eC_at, eC_7, eC_8, eC_9, eC_10, eC_11, eC_p7, eC_p8, eC_p9, eC_p10, eC_p11, eC_up, ud_same, ud_ne, if_pos, if_neg, z_0, z_1, z_2, z_3, z_4, z_5, z_6, z_7, z_8, z_9, z_10, z_11, z_12, z_13, z_14, z_15, z_16, z_17, z_18, z_19, z_20, z_21, z_22, z_23, z_24, z_25, z_26, z_27, z_28, z_29, z_30, z_31, z_32, z_33, z_34, z_35, z_36, z_37, z_38, z_39, z_40, z_41, z_42, z_43, z_44, z_45, z_46, z_47, z_48, z_49, z_50, z_51, z_52, z_53, z_54, z_55, z_56, z_57, z_58, z_59, z_60, z_61, z_62, z_63, z_64, z_65, z_66, z_67, z_68, z_69, z_70, z_71, z_72, z_73, z_74, z_75, z_76, z_77, z_78, z_79, z_80, z_81, z_82, z_83, z_84, z_85, z_86, z_87, z_88, z_89, z_90, z_91, z_92, z_93, z_94, z_95, z_96, z_97, z_98, z_99, z_100, z_101, z_102, z_103, z_104, z_105, z_106, z_107, z_108, z_109, z_110, z_111, z_112, z_113, z_114, z_115, z_116, z_117, z_118, z_119, z_120, z_121, z_122, z_123, z_124, z_125, z_126, z_127, z_199, z_200, z_360, z_410, z_1000, z_1023, z_1024, z_1219, z_9999, z_10240, z_65537]
theorem x_digitAt {e} (h : okp e) {i : Int} (h0 : 0 ≤ i) (h1 : i ≤ 100) : f_X3_digitAt (eC e) (zI i) = some (zI (sg e i - 48)) := by
  unfold f_X3_digitAt
  simp (disch := omega) only [x_signAt h, s_T, s_F, s_bd, s_cl, s_rd, s_wr, s_ite, z_ite, z_neg, z_add, z_sub, z_mul, z_le, z_lt, z_eq, eC_at, eC_7, eC_8, eC_9, eC_10, eC_11, eC_p7, eC_p8, eC_p9, eC_p10, eC_p11, eC_up, ud_same, ud_ne, if_pos, if_neg, z_0, z_1, z_2, z_3, z_4, z_5, z_6, z_7, z_8, z_9, z_10, z_11, z_12, z_13, z_14, z_15, z_16, z_17, z_18, z_19, z_20, z_21, z_22, z_23, z_24, z_25, z_26, z_27, z_28, z_29, z_30, z_31, z_32, z_33, z_34, z_35, z_36, z_37, z_38, z_39, z_40, z_41, z_42, z_43, z_44, z_45, z_46, z_47, z_48, z_49, z_50, z_51, z_52, z_53, z_54, z_55, z_56, z_57, z_58, z_59, z_60, z_61, z_62, z_63, z_64, z_65, z_66, z_67, z_68, z_69, z_70, z_71, z_72, z_73, z_74, z_75, z_76, z_77, z_78, z_79, z_80, z_81, z_82, z_83, z_84, z_85, z_86, z_87, z_88, z_89, z_90, z_91, z_92, z_93, z_94, z_95, z_96, z_97, z_98, z_99, z_100, z_101, z_102, z_103, z_104, z_105, z_106, z_107, z_108, z_109, z_110, z_111, z_112, z_113, z_114, z_115, z_116, z_117, z_118, z_119, z_120, z_121, z_122, z_123, z_124, z_125, z_126, z_127, z_199, z_200, z_360, z_410, z_1000, z_1023, z_1024, z_1219, z_9999, z_10240, z_65537]
theorem x_placeAt {e} (h : okp e) {i : Int} (h0 : 0 ≤ i) (h1 : i ≤ 100) : f_X3_placeAt (eC e) (zI i) = some (zI (plc (sg e i))) := by
  have := sg_b h i
  unfold f_X3_placeAt plc
  by_cases c1 : 65 ≤ sg e i ∧ sg e i ≤ 74
  · simp (disch := omega) only [x_signAt h, x_within, s_T, s_F, s_bd, s_cl, s_rd, s_wr, s_ite, z_ite, z_neg, z_add, z_sub, z_mul, z_le, z_lt, z_eq, eC_at, eC_7, eC_8, eC_9, eC_10, eC_11, eC_p7, eC_p8, eC_p9, eC_p10, eC_p11, eC_up, ud_same, ud_ne, if_pos, if_neg, z_0, z_1, z_2, z_3, z_4, z_5, z_6, z_7, z_8, z_9, z_10, z_11, z_12, z_13, z_14, z_15, z_16, z_17, z_18, z_19, z_20, z_21, z_22, z_23, z_24, z_25, z_26, z_27, z_28, z_29, z_30, z_31, z_32, z_33, z_34, z_35, z_36, z_37, z_38, z_39, z_40, z_41, z_42, z_43, z_44, z_45, z_46, z_47, z_48, z_49, z_50, z_51, z_52, z_53, z_54, z_55, z_56, z_57, z_58, z_59, z_60, z_61, z_62, z_63, z_64, z_65, z_66, z_67, z_68, z_69, z_70, z_71, z_72, z_73, z_74, z_75, z_76, z_77, z_78, z_79, z_80, z_81, z_82, z_83, z_84, z_85, z_86, z_87, z_88, z_89, z_90, z_91, z_92, z_93, z_94, z_95, z_96, z_97, z_98, z_99, z_100, z_101, z_102, z_103, z_104, z_105, z_106, z_107, z_108, z_109, z_110, z_111, z_112, z_113, z_114, z_115, z_116, z_117, z_118, z_119, z_120, z_121, z_122, z_123, z_124, z_125, z_126, z_127, z_199, z_200, z_360, z_410, z_1000, z_1023, z_1024, z_1219, z_9999, z_10240, z_65537]
  · simp (disch := omega) only [x_signAt h, x_within, s_T, s_F, s_bd, s_cl, s_rd, s_wr, s_ite, z_ite, z_neg, z_add, z_sub, z_mul, z_le, z_lt, z_eq, eC_at, eC_7, eC_8, eC_9, eC_10, eC_11, eC_p7, eC_p8, eC_p9, eC_p10, eC_p11, eC_up, ud_same, ud_ne, if_pos, if_neg, z_0, z_1, z_2, z_3, z_4, z_5, z_6, z_7, z_8, z_9, z_10, z_11, z_12, z_13, z_14, z_15, z_16, z_17, z_18, z_19, z_20, z_21, z_22, z_23, z_24, z_25, z_26, z_27, z_28, z_29, z_30, z_31, z_32, z_33, z_34, z_35, z_36, z_37, z_38, z_39, z_40, z_41, z_42, z_43, z_44, z_45, z_46, z_47, z_48, z_49, z_50, z_51, z_52, z_53, z_54, z_55, z_56, z_57, z_58, z_59, z_60, z_61, z_62, z_63, z_64, z_65, z_66, z_67, z_68, z_69, z_70, z_71, z_72, z_73, z_74, z_75, z_76, z_77, z_78, z_79, z_80, z_81, z_82, z_83, z_84, z_85, z_86, z_87, z_88, z_89, z_90, z_91, z_92, z_93, z_94, z_95, z_96, z_97, z_98, z_99, z_100, z_101, z_102, z_103, z_104, z_105, z_106, z_107, z_108, z_109, z_110, z_111, z_112, z_113, z_114, z_115, z_116, z_117, z_118, z_119, z_120, z_121, z_122, z_123, z_124, z_125, z_126, z_127, z_199, z_200, z_360, z_410, z_1000, z_1023, z_1024, z_1219, z_9999, z_10240, z_65537]
theorem x_kindAt {e} (h : okp e) {i : Int} (h0 : 0 ≤ i) (h1 : i ≤ 100) : f_X3_kindAt (eC e) (zI i) = some (zI (kdc (sg e i))) := by
  have := sg_b h i
  have := plc_b (sg e i)
  unfold f_X3_kindAt kdc
  simp (disch := omega) only [x_signAt h, x_placeAt h, s_T, s_F, s_bd, s_cl, s_rd, s_wr, s_ite, z_ite, z_neg, z_add, z_sub, z_mul, z_le, z_lt, z_eq, eC_at, eC_7, eC_8, eC_9, eC_10, eC_11, eC_p7, eC_p8, eC_p9, eC_p10, eC_p11, eC_up, ud_same, ud_ne, z_0, z_1, z_2, z_3, z_4, z_5, z_6, z_7, z_8, z_9, z_10, z_11, z_12, z_13, z_14, z_15, z_16, z_17, z_18, z_19, z_20, z_21, z_22, z_23, z_24, z_25, z_26, z_27, z_28, z_29, z_30, z_31, z_32, z_33, z_34, z_35, z_36, z_37, z_38, z_39, z_40, z_41, z_42, z_43, z_44, z_45, z_46, z_47, z_48, z_49, z_50, z_51, z_52, z_53, z_54, z_55, z_56, z_57, z_58, z_59, z_60, z_61, z_62, z_63, z_64, z_65, z_66, z_67, z_68, z_69, z_70, z_71, z_72, z_73, z_74, z_75, z_76, z_77, z_78, z_79, z_80, z_81, z_82, z_83, z_84, z_85, z_86, z_87, z_88, z_89, z_90, z_91, z_92, z_93, z_94, z_95, z_96, z_97, z_98, z_99, z_100, z_101, z_102, z_103, z_104, z_105, z_106, z_107, z_108, z_109, z_110, z_111, z_112, z_113, z_114, z_115, z_116, z_117, z_118, z_119, z_120, z_121, z_122, z_123, z_124, z_125, z_126, z_127, z_199, z_200, z_360, z_410, z_1000, z_1023, z_1024, z_1219, z_9999, z_10240, z_65537]
def wht (e : Nat → Int → Int) (i : Int) : Int := if kdc (sg e i) = 0 then sg e (i + 1) - 48 else plc (sg e i)
theorem x_whatAt {e} (h : okp e) {i : Int} (h0 : 0 ≤ i) (h1 : i ≤ 99) : f_X3_whatAt (eC e) (zI i) = some (zI (wht e i)) := by
  have := kdc_b (sg e i)
  unfold f_X3_whatAt wht
  simp (disch := omega) only [x_kindAt h, x_placeAt h, x_digitAt h, s_T, s_F, s_bd, s_cl, s_rd, s_wr, s_ite, z_ite, z_neg, z_add, z_sub, z_mul, z_le, z_lt, z_eq, eC_at, eC_7, eC_8, eC_9, eC_10, eC_11, eC_p7, eC_p8, eC_p9, eC_p10, eC_p11, eC_up, ud_same, ud_ne, z_0, z_1, z_2, z_3, z_4, z_5, z_6, z_7, z_8, z_9, z_10, z_11, z_12, z_13, z_14, z_15, z_16, z_17, z_18, z_19, z_20, z_21, z_22, z_23, z_24, z_25, z_26, z_27, z_28, z_29, z_30, z_31, z_32, z_33, z_34, z_35, z_36, z_37, z_38, z_39, z_40, z_41, z_42, z_43, z_44, z_45, z_46, z_47, z_48, z_49, z_50, z_51, z_52, z_53, z_54, z_55, z_56, z_57, z_58, z_59, z_60, z_61, z_62, z_63, z_64, z_65, z_66, z_67, z_68, z_69, z_70, z_71, z_72, z_73, z_74, z_75, z_76, z_77, z_78, z_79, z_80, z_81, z_82, z_83, z_84, z_85, z_86, z_87, z_88, z_89, z_90, z_91, z_92, z_93, z_94, z_95, z_96, z_97, z_98, z_99, z_100, z_101, z_102, z_103, z_104, z_105, z_106, z_107, z_108, z_109, z_110, z_111, z_112, z_113, z_114, z_115, z_116, z_117, z_118, z_119, z_120, z_121, z_122, z_123, z_124, z_125, z_126, z_127, z_199, z_200, z_360, z_410, z_1000, z_1023, z_1024, z_1219, z_9999, z_10240, z_65537]
/-- the fault: none -6 -/
def fl (e : Nat → Int → Int) : Nat → Int → Int
  | 0, _ => -6
  | m + 1, a => if e 99 1 ≤ a then -6
    else if kdc (sg e a) = -6 then a
    else if kdc (sg e a) = 0 then (if 0 ≤ sg e (a + 1) - 48 ∧ sg e (a + 1) - 48 ≤ 9 then (if 1 ≤ sg e (a + 2) - 48 ∧ sg e (a + 2) - 48 ≤ 9 then fl e m (a + 3) else a + 2) else a + 1)
    else fl e m (a + 1)
theorem x_fl {e} (h : okp e) : ∀ (N : Nat) (a : Int), (0 ≤ a ∧ a ≤ 90 ∧ (e 99 1 - a).toNat < N) → q_lp (b_X3_faultPlace_2 (eC e)) (fun _ => some (-6 : Int32)) N (zI a) = some (zI (fl e N a)) := by
  refine lp_en (fun a : Int => zI a) (fun N a => some (zI (fl e N a))) (fun N a => 0 ≤ a ∧ a ≤ 90 ∧ (e 99 1 - a).toNat < N) (fun a => by omega) ?_
  rintro again N a ⟨h0, h1, h2⟩ ih
  unfold b_X3_faultPlace_2 fl
  have := h.2
  by_cases c : e 99 1 ≤ a
  · simp (disch := omega) only [eC_1, s_T, s_F, s_bd, s_cl, s_rd, s_wr, s_ite, z_ite, z_neg, z_add, z_sub, z_mul, z_le, z_lt, z_eq, eC_at, eC_7, eC_8, eC_9, eC_10, eC_11, eC_p7, eC_p8, eC_p9, eC_p10, eC_p11, eC_up, ud_same, ud_ne, if_pos, if_neg, z_0, z_1, z_2, z_3, z_4, z_5, z_6, z_7, z_8, z_9, z_10, z_11, z_12, z_13, z_14, z_15, z_16, z_17, z_18, z_19, z_20, z_21, z_22, z_23, z_24, z_25, z_26, z_27, z_28, z_29, z_30, z_31, z_32, z_33, z_34, z_35, z_36, z_37, z_38, z_39, z_40, z_41, z_42, z_43, z_44, z_45, z_46, z_47, z_48, z_49, z_50, z_51, z_52, z_53, z_54, z_55, z_56, z_57, z_58, z_59, z_60, z_61, z_62, z_63, z_64, z_65, z_66, z_67, z_68, z_69, z_70, z_71, z_72, z_73, z_74, z_75, z_76, z_77, z_78, z_79, z_80, z_81, z_82, z_83, z_84, z_85, z_86, z_87, z_88, z_89, z_90, z_91, z_92, z_93, z_94, z_95, z_96, z_97, z_98, z_99, z_100, z_101, z_102, z_103, z_104, z_105, z_106, z_107, z_108, z_109, z_110, z_111, z_112, z_113, z_114, z_115, z_116, z_117, z_118, z_119, z_120, z_121, z_122, z_123, z_124, z_125, z_126, z_127, z_199, z_200, z_360, z_410, z_1000, z_1023, z_1024, z_1219, z_9999, z_10240, z_65537]
  · have := kdc_b (sg e a)
    have := sg_b h (a + 1)
    have := sg_b h (a + 2)
    by_cases c1 : kdc (sg e a) = -6
    · simp (disch := omega) only [eC_1, x_kindAt h, s_T, s_F, s_bd, s_cl, s_rd, s_wr, s_ite, z_ite, z_neg, z_add, z_sub, z_mul, z_le, z_lt, z_eq, eC_at, eC_7, eC_8, eC_9, eC_10, eC_11, eC_p7, eC_p8, eC_p9, eC_p10, eC_p11, eC_up, ud_same, ud_ne, if_pos, if_neg, z_0, z_1, z_2, z_3, z_4, z_5, z_6, z_7, z_8, z_9, z_10, z_11, z_12, z_13, z_14, z_15, z_16, z_17, z_18, z_19, z_20, z_21, z_22, z_23, z_24, z_25, z_26, z_27, z_28, z_29, z_30, z_31, z_32, z_33, z_34, z_35, z_36, z_37, z_38, z_39, z_40, z_41, z_42, z_43, z_44, z_45, z_46, z_47, z_48, z_49, z_50, z_51, z_52, z_53, z_54, z_55, z_56, z_57, z_58, z_59, z_60, z_61, z_62, z_63, z_64, z_65, z_66, z_67, z_68, z_69, z_70, z_71, z_72, z_73, z_74, z_75, z_76, z_77, z_78, z_79, z_80, z_81, z_82, z_83, z_84, z_85, z_86, z_87, z_88, z_89, z_90, z_91, z_92, z_93, z_94, z_95, z_96, z_97, z_98, z_99, z_100, z_101, z_102, z_103, z_104, z_105, z_106, z_107, z_108, z_109, z_110, z_111, z_112, z_113, z_114, z_115, z_116, z_117, z_118, z_119, z_120, z_121, z_122, z_123, z_124, z_125, z_126, z_127, z_199, z_200, z_360, z_410, z_1000, z_1023, z_1024, z_1219, z_9999, z_10240, z_65537]
    · by_cases c2 : kdc (sg e a) = 0
      · by_cases c3 : 0 ≤ sg e (a + 1) - 48 ∧ sg e (a + 1) - 48 ≤ 9
        · by_cases c4 : 1 ≤ sg e (a + 2) - 48 ∧ sg e (a + 2) - 48 ≤ 9
          · simp (disch := omega) only [eC_1, x_kindAt h, x_digitAt h, x_within, s_T, s_F, s_bd, s_cl, s_rd, s_wr, s_ite, z_ite, z_neg, z_add, z_sub, z_mul, z_le, z_lt, z_eq, eC_at, eC_7, eC_8, eC_9, eC_10, eC_11, eC_p7, eC_p8, eC_p9, eC_p10, eC_p11, eC_up, ud_same, ud_ne, if_pos, if_neg, z_0, z_1, z_2, z_3, z_4, z_5, z_6, z_7, z_8, z_9, z_10, z_11, z_12, z_13, z_14, z_15, z_16, z_17, z_18, z_19, z_20, z_21, z_22, z_23, z_24, z_25, z_26, z_27, z_28, z_29, z_30, z_31, z_32, z_33, z_34, z_35, z_36, z_37, z_38, z_39, z_40, z_41, z_42, z_43, z_44, z_45, z_46, z_47, z_48, z_49, z_50, z_51, z_52, z_53, z_54, z_55, z_56, z_57, z_58, z_59, z_60, z_61, z_62, z_63, z_64, z_65, z_66, z_67, z_68, z_69, z_70, z_71, z_72, z_73, z_74, z_75, z_76, z_77, z_78, z_79, z_80, z_81, z_82, z_83, z_84, z_85, z_86, z_87, z_88, z_89, z_90, z_91, z_92, z_93, z_94, z_95, z_96, z_97, z_98, z_99, z_100, z_101, z_102, z_103, z_104, z_105, z_106, z_107, z_108, z_109, z_110, z_111, z_112, z_113, z_114, z_115, z_116, z_117, z_118, z_119, z_120, z_121, z_122, z_123, z_124, z_125, z_126, z_127, z_199, z_200, z_360, z_410, z_1000, z_1023, z_1024, z_1219, z_9999, z_10240, z_65537]
            exact ih (a + 3) (by omega)
          · simp (disch := omega) only [eC_1, x_kindAt h, x_digitAt h, x_within, s_T, s_F, s_bd, s_cl, s_rd, s_wr, s_ite, z_ite, z_neg, z_add, z_sub, z_mul, z_le, z_lt, z_eq, eC_at, eC_7, eC_8, eC_9, eC_10, eC_11, eC_p7, eC_p8, eC_p9, eC_p10, eC_p11, eC_up, ud_same, ud_ne, if_pos, if_neg, z_0, z_1, z_2, z_3, z_4, z_5, z_6, z_7, z_8, z_9, z_10, z_11, z_12, z_13, z_14, z_15, z_16, z_17, z_18, z_19, z_20, z_21, z_22, z_23, z_24, z_25, z_26, z_27, z_28, z_29, z_30, z_31, z_32, z_33, z_34, z_35, z_36, z_37, z_38, z_39, z_40, z_41, z_42, z_43, z_44, z_45, z_46, z_47, z_48, z_49, z_50, z_51, z_52, z_53, z_54, z_55, z_56, z_57, z_58, z_59, z_60, z_61, z_62, z_63, z_64, z_65, z_66, z_67, z_68, z_69, z_70, z_71, z_72, z_73, z_74, z_75, z_76, z_77, z_78, z_79, z_80, z_81, z_82, z_83, z_84, z_85, z_86, z_87, z_88, z_89, z_90, z_91, z_92, z_93, z_94, z_95, z_96, z_97, z_98, z_99, z_100, z_101, z_102, z_103, z_104, z_105, z_106, z_107, z_108, z_109, z_110, z_111, z_112, z_113, z_114, z_115, z_116, z_117, z_118, z_119, z_120, z_121, z_122, z_123, z_124, z_125, z_126, z_127, z_199, z_200, z_360, z_410, z_1000, z_1023, z_1024, z_1219, z_9999, z_10240, z_65537]
        · simp (disch := omega) only [eC_1, x_kindAt h, x_digitAt h, x_within, s_T, s_F, s_bd, s_cl, s_rd, s_wr, s_ite, z_ite, z_neg, z_add, z_sub, z_mul, z_le, z_lt, z_eq, eC_at, eC_7, eC_8, eC_9, eC_10, eC_11, eC_p7, eC_p8, eC_p9, eC_p10, eC_p11, eC_up, ud_same, ud_ne, if_pos, if_neg, z_0, z_1, z_2, z_3, z_4, z_5, z_6, z_7, z_8, z_9, z_10, z_11, z_12, z_13, z_14, z_15, z_16, z_17, z_18, z_19, z_20, z_21, z_22, z_23, z_24, z_25, z_26, z_27, z_28, z_29, z_30, z_31, z_32, z_33, z_34, z_35, z_36, z_37, z_38, z_39, z_40, z_41, z_42, z_43, z_44, z_45, z_46, z_47, z_48, z_49, z_50, z_51, z_52, z_53, z_54, z_55, z_56, z_57, z_58, z_59, z_60, z_61, z_62, z_63, z_64, z_65, z_66, z_67, z_68, z_69, z_70, z_71, z_72, z_73, z_74, z_75, z_76, z_77, z_78, z_79, z_80, z_81, z_82, z_83, z_84, z_85, z_86, z_87, z_88, z_89, z_90, z_91, z_92, z_93, z_94, z_95, z_96, z_97, z_98, z_99, z_100, z_101, z_102, z_103, z_104, z_105, z_106, z_107, z_108, z_109, z_110, z_111, z_112, z_113, z_114, z_115, z_116, z_117, z_118, z_119, z_120, z_121, z_122, z_123, z_124, z_125, z_126, z_127, z_199, z_200, z_360, z_410, z_1000, z_1023, z_1024, z_1219, z_9999, z_10240, z_65537]
      · simp (disch := omega) only [eC_1, x_kindAt h, x_digitAt h, x_within, s_T, s_F, s_bd, s_cl, s_rd, s_wr, s_ite, z_ite, z_neg, z_add, z_sub, z_mul, z_le, z_lt, z_eq, eC_at, eC_7, eC_8, eC_9, eC_10, eC_11, eC_p7, eC_p8, eC_p9, eC_p10, eC_p11, eC_up, ud_same, ud_ne, if_pos, if_neg, z_0, z_1, z_2, z_3, z_4, z_5, z_6, z_7, z_8, z_9, z_10, z_11, z_12, z_13, z_14, z_15, z_16, z_17, z_18, z_19, z_20, z_21, z_22, z_23, z_24, z_25, z_26, z_27, z_28, z_29, z_30, z_31, z_32, z_33, z_34, z_35, z_36, z_37, z_38, z_39, z_40, z_41, z_42, z_43, z_44, z_45, z_46, z_47, z_48, z_49, z_50, z_51, z_52, z_53, z_54, z_55, z_56, z_57, z_58, z_59, z_60, z_61, z_62, z_63, z_64, z_65, z_66, z_67, z_68, z_69, z_70, z_71, z_72, z_73, z_74, z_75, z_76, z_77, z_78, z_79, z_80, z_81, z_82, z_83, z_84, z_85, z_86, z_87, z_88, z_89, z_90, z_91, z_92, z_93, z_94, z_95, z_96, z_97, z_98, z_99, z_100, z_101, z_102, z_103, z_104, z_105, z_106, z_107, z_108, z_109, z_110, z_111, z_112, z_113, z_114, z_115, z_116, z_117, z_118, z_119, z_120, z_121, z_122, z_123, z_124, z_125, z_126, z_127, z_199, z_200, z_360, z_410, z_1000, z_1023, z_1024, z_1219, z_9999, z_10240, z_65537]
        exact ih (a + 1) (by omega)
theorem x_faultPlace {e} (h : okp e) : f_X3_faultPlace (eC e) = some (zI (fl e 20000 0)) := by
  have := h.2
  exact x_fl h 20000 0 (by omega)
theorem fl_b {e} (h : okp e) : ∀ (N : Nat) (a : Int), 0 ≤ a → fl e N a = -6 ∨ (a ≤ fl e N a ∧ fl e N a ≤ 62) := by
  intro N
  induction N with
  | zero => intro a h0; exact Or.inl rfl
  | succ N ih =>
    intro a h0
    have := h.2
    unfold fl
    split
    · exact Or.inl rfl
    · split
      · omega
      · split
        · split
          · split
            · have := ih (a + 3) (by omega); omega
            · omega
          · omega
        · have := ih (a + 1) (by omega); omega
/-! the nights of the class: marks n, the draft d -/
def bel (d : Nat → Int → Int) (p : Int) : Int := if p ≤ 9 then d 3 p else -6
def stN (n d d' : Nat → Int → Int) (k : Int) : Nat → Int → Int :=
  let n1 := if n 99 4 = -6 ∧ ¬ bel d' (d 99 8) = bel d (d 99 8) then ud (ud n 99 4 (n 99 0)) 99 5 (d 99 8) else n
  let n2 := if k = 2 then ud n1 99 1 (n1 99 1 + 1) else n1
  ud n2 99 0 (n2 99 0 + 1)
/-- the marks are small -/
def okn (n : Nat → Int → Int) : Prop := (0 ≤ n 99 0 ∧ n 99 0 ≤ 1000) ∧ (0 ≤ n 99 1 ∧ n 99 1 ≤ 1000) ∧ (-6 ≤ n 99 4 ∧ n 99 4 ≤ 1000)
theorem x_bel {d} (hd : okd d) {p : Int} (h0 : 0 ≤ p) (h1 : p ≤ 10) : f_X1_beliefOf (eC d) (zI p) = some (zI (bel d p)) := by
  unfold bel
  split
  · exact x_beliefOf d h0 (by omega)
  · exact x_beliefOf_n d (by omega) (by omega) (by omega)
theorem x_actOn {n d} (hn : okn n) (hd : okd d) {k w v : Int} (h1 : 0 ≤ k) (h2 : k ≤ 4) (hw : k = 1 → 0 ≤ w ∧ w ≤ 10) (hw0 : k = 0 → 0 ≤ w ∧ w ≤ 9) (hv : k = 0 → 0 ≤ v ∧ v ≤ 99) (hr : rsn d k w = 0) :
    f_X2_actOn (eC n) (eC d) (zI k) (zI w) (zI v) = some (eC (stN n d (actd d k w v) k), eC (actd d k w v)) := by
  have hd' := okd_act hd h1 h2 hw hw0 hv hr
  have a1 := okd_p hd
  have hb : k = 2 → d 99 8 ≤ 9 := by
    intro e
    subst e
    unfold rsn at hr
    rw [if_neg (by decide), if_neg (by decide), if_pos rfl] at hr
    split at hr <;> omega
  have b1 := okd_3 hd (d 99 8)
  have b2 := okd_3 hd' (d 99 8)
  obtain ⟨n0, n1, n4⟩ := hn
  have e1 : -6 ≤ bel d (d 99 8) ∧ bel d (d 99 8) ≤ 9 := by unfold bel; split <;> omega
  have e2 : -6 ≤ bel (actd d k w v) (d 99 8) ∧ bel (actd d k w v) (d 99 8) ≤ 9 := by unfold bel; split <;> omega
  unfold f_X2_actOn stN
  rw [z_0]
  rw [x_panFact d (by omega) (by omega), s_cl]
  rw [show pFact d 0 = d 99 8 from rfl, x_bel hd a1.1 a1.2, s_cl, x_act d hd h1 h2 hw hb, s_cl, x_bel hd' a1.1 a1.2]
  generalize actd d k w v = d' at *
  by_cases c1 : n 99 4 = -6
  · by_cases c2 : bel d' (d 99 8) = bel d (d 99 8)
    · by_cases c3 : k = 2
      · simp (disch := omega) only [eC_0, eC_1, eC_4, eC_p0, eC_p1, s_T, s_F, s_bd, s_cl, s_rd, s_wr, s_ite, z_ite, z_neg, z_add, z_sub, z_mul, z_le, z_lt, z_eq, eC_at, eC_7, eC_8, eC_9, eC_10, eC_11, eC_p7, eC_p8, eC_p9, eC_p10, eC_p11, eC_up, ud_same, ud_ne, if_pos, if_neg, z_0, z_1, z_2, z_3, z_4, z_5, z_6, z_7, z_8, z_9, z_10, z_11, z_12, z_13, z_14, z_15, z_16, z_17, z_18, z_19, z_20, z_21, z_22, z_23, z_24, z_25, z_26, z_27, z_28, z_29, z_30, z_31, z_32, z_33, z_34, z_35, z_36, z_37, z_38, z_39, z_40, z_41, z_42, z_43, z_44, z_45, z_46, z_47, z_48, z_49, z_50, z_51, z_52, z_53, z_54, z_55, z_56, z_57, z_58, z_59, z_60, z_61, z_62, z_63, z_64, z_65, z_66, z_67, z_68, z_69, z_70, z_71, z_72, z_73, z_74, z_75, z_76, z_77, z_78, z_79, z_80, z_81, z_82, z_83, z_84, z_85, z_86, z_87, z_88, z_89, z_90, z_91, z_92, z_93, z_94, z_95, z_96, z_97, z_98, z_99, z_100, z_101, z_102, z_103, z_104, z_105, z_106, z_107, z_108, z_109, z_110, z_111, z_112, z_113, z_114, z_115, z_116, z_117, z_118, z_119, z_120, z_121, z_122, z_123, z_124, z_125, z_126, z_127, z_199, z_200, z_360, z_410, z_1000, z_1023, z_1024, z_1219, z_9999, z_10240, z_65537]
      · simp (disch := omega) only [eC_0, eC_1, eC_4, eC_p0, eC_p1, s_T, s_F, s_bd, s_cl, s_rd, s_wr, s_ite, z_ite, z_neg, z_add, z_sub, z_mul, z_le, z_lt, z_eq, eC_at, eC_7, eC_8, eC_9, eC_10, eC_11, eC_p7, eC_p8, eC_p9, eC_p10, eC_p11, eC_up, ud_same, ud_ne, if_pos, if_neg, z_0, z_1, z_2, z_3, z_4, z_5, z_6, z_7, z_8, z_9, z_10, z_11, z_12, z_13, z_14, z_15, z_16, z_17, z_18, z_19, z_20, z_21, z_22, z_23, z_24, z_25, z_26, z_27, z_28, z_29, z_30, z_31, z_32, z_33, z_34, z_35, z_36, z_37, z_38, z_39, z_40, z_41, z_42, z_43, z_44, z_45, z_46, z_47, z_48, z_49, z_50, z_51, z_52, z_53, z_54, z_55, z_56, z_57, z_58, z_59, z_60, z_61, z_62, z_63, z_64, z_65, z_66, z_67, z_68, z_69, z_70, z_71, z_72, z_73, z_74, z_75, z_76, z_77, z_78, z_79, z_80, z_81, z_82, z_83, z_84, z_85, z_86, z_87, z_88, z_89, z_90, z_91, z_92, z_93, z_94, z_95, z_96, z_97, z_98, z_99, z_100, z_101, z_102, z_103, z_104, z_105, z_106, z_107, z_108, z_109, z_110, z_111, z_112, z_113, z_114, z_115, z_116, z_117, z_118, z_119, z_120, z_121, z_122, z_123, z_124, z_125, z_126, z_127, z_199, z_200, z_360, z_410, z_1000, z_1023, z_1024, z_1219, z_9999, z_10240, z_65537]
    · by_cases c3 : k = 2
      · simp (disch := omega) only [eC_0, eC_1, eC_4, eC_p0, eC_p1, eC_p4, eC_p5, s_T, s_F, s_bd, s_cl, s_rd, s_wr, s_ite, z_ite, z_neg, z_add, z_sub, z_mul, z_le, z_lt, z_eq, eC_at, eC_7, eC_8, eC_9, eC_10, eC_11, eC_p7, eC_p8, eC_p9, eC_p10, eC_p11, eC_up, ud_same, ud_ne, if_pos, if_neg, z_0, z_1, z_2, z_3, z_4, z_5, z_6, z_7, z_8, z_9, z_10, z_11, z_12, z_13, z_14, z_15, z_16, z_17, z_18, z_19, z_20, z_21, z_22, z_23, z_24, z_25, z_26, z_27, z_28, z_29, z_30, z_31, z_32, z_33, z_34, z_35, z_36, z_37, z_38, z_39, z_40, z_41, z_42, z_43, z_44, z_45, z_46, z_47, z_48, z_49, z_50, z_51, z_52, z_53, z_54, z_55, z_56, z_57, z_58, z_59, z_60, z_61, z_62, z_63, z_64, z_65, z_66, z_67, z_68, z_69, z_70, z_71, z_72, z_73, z_74, z_75, z_76, z_77, z_78, z_79, z_80, z_81, z_82, z_83, z_84, z_85, z_86, z_87, z_88, z_89, z_90, z_91, z_92, z_93, z_94, z_95, z_96, z_97, z_98, z_99, z_100, z_101, z_102, z_103, z_104, z_105, z_106, z_107, z_108, z_109, z_110, z_111, z_112, z_113, z_114, z_115, z_116, z_117, z_118, z_119, z_120, z_121, z_122, z_123, z_124, z_125, z_126, z_127, z_199, z_200, z_360, z_410, z_1000, z_1023, z_1024, z_1219, z_9999, z_10240, z_65537]
      · simp (disch := omega) only [eC_0, eC_1, eC_4, eC_p0, eC_p1, eC_p4, eC_p5, s_T, s_F, s_bd, s_cl, s_rd, s_wr, s_ite, z_ite, z_neg, z_add, z_sub, z_mul, z_le, z_lt, z_eq, eC_at, eC_7, eC_8, eC_9, eC_10, eC_11, eC_p7, eC_p8, eC_p9, eC_p10, eC_p11, eC_up, ud_same, ud_ne, if_pos, if_neg, z_0, z_1, z_2, z_3, z_4, z_5, z_6, z_7, z_8, z_9, z_10, z_11, z_12, z_13, z_14, z_15, z_16, z_17, z_18, z_19, z_20, z_21, z_22, z_23, z_24, z_25, z_26, z_27, z_28, z_29, z_30, z_31, z_32, z_33, z_34, z_35, z_36, z_37, z_38, z_39, z_40, z_41, z_42, z_43, z_44, z_45, z_46, z_47, z_48, z_49, z_50, z_51, z_52, z_53, z_54, z_55, z_56, z_57, z_58, z_59, z_60, z_61, z_62, z_63, z_64, z_65, z_66, z_67, z_68, z_69, z_70, z_71, z_72, z_73, z_74, z_75, z_76, z_77, z_78, z_79, z_80, z_81, z_82, z_83, z_84, z_85, z_86, z_87, z_88, z_89, z_90, z_91, z_92, z_93, z_94, z_95, z_96, z_97, z_98, z_99, z_100, z_101, z_102, z_103, z_104, z_105, z_106, z_107, z_108, z_109, z_110, z_111, z_112, z_113, z_114, z_115, z_116, z_117, z_118, z_119, z_120, z_121, z_122, z_123, z_124, z_125, z_126, z_127, z_199, z_200, z_360, z_410, z_1000, z_1023, z_1024, z_1219, z_9999, z_10240, z_65537]
  · by_cases c3 : k = 2
    · simp (disch := omega) only [eC_0, eC_1, eC_4, eC_p0, eC_p1, s_T, s_F, s_bd, s_cl, s_rd, s_wr, s_ite, z_ite, z_neg, z_add, z_sub, z_mul, z_le, z_lt, z_eq, eC_at, eC_7, eC_8, eC_9, eC_10, eC_11, eC_p7, eC_p8, eC_p9, eC_p10, eC_p11, eC_up, ud_same, ud_ne, if_pos, if_neg, z_0, z_1, z_2, z_3, z_4, z_5, z_6, z_7, z_8, z_9, z_10, z_11, z_12, z_13, z_14, z_15, z_16, z_17, z_18, z_19, z_20, z_21, z_22, z_23, z_24, z_25, z_26, z_27, z_28, z_29, z_30, z_31, z_32, z_33, z_34, z_35, z_36, z_37, z_38, z_39, z_40, z_41, z_42, z_43, z_44, z_45, z_46, z_47, z_48, z_49, z_50, z_51, z_52, z_53, z_54, z_55, z_56, z_57, z_58, z_59, z_60, z_61, z_62, z_63, z_64, z_65, z_66, z_67, z_68, z_69, z_70, z_71, z_72, z_73, z_74, z_75, z_76, z_77, z_78, z_79, z_80, z_81, z_82, z_83, z_84, z_85, z_86, z_87, z_88, z_89, z_90, z_91, z_92, z_93, z_94, z_95, z_96, z_97, z_98, z_99, z_100, z_101, z_102, z_103, z_104, z_105, z_106, z_107, z_108, z_109, z_110, z_111, z_112, z_113, z_114, z_115, z_116, z_117, z_118, z_119, z_120, z_121, z_122, z_123, z_124, z_125, z_126, z_127, z_199, z_200, z_360, z_410, z_1000, z_1023, z_1024, z_1219, z_9999, z_10240, z_65537]
    · simp (disch := omega) only [eC_0, eC_1, eC_4, eC_p0, eC_p1, s_T, s_F, s_bd, s_cl, s_rd, s_wr, s_ite, z_ite, z_neg, z_add, z_sub, z_mul, z_le, z_lt, z_eq, eC_at, eC_7, eC_8, eC_9, eC_10, eC_11, eC_p7, eC_p8, eC_p9, eC_p10, eC_p11, eC_up, ud_same, ud_ne, if_pos, if_neg, z_0, z_1, z_2, z_3, z_4, z_5, z_6, z_7, z_8, z_9, z_10, z_11, z_12, z_13, z_14, z_15, z_16, z_17, z_18, z_19, z_20, z_21, z_22, z_23, z_24, z_25, z_26, z_27, z_28, z_29, z_30, z_31, z_32, z_33, z_34, z_35, z_36, z_37, z_38, z_39, z_40, z_41, z_42, z_43, z_44, z_45, z_46, z_47, z_48, z_49, z_50, z_51, z_52, z_53, z_54, z_55, z_56, z_57, z_58, z_59, z_60, z_61, z_62, z_63, z_64, z_65, z_66, z_67, z_68, z_69, z_70, z_71, z_72, z_73, z_74, z_75, z_76, z_77, z_78, z_79, z_80, z_81, z_82, z_83, z_84, z_85, z_86, z_87, z_88, z_89, z_90, z_91, z_92, z_93, z_94, z_95, z_96, z_97, z_98, z_99, z_100, z_101, z_102, z_103, z_104, z_105, z_106, z_107, z_108, z_109, z_110, z_111, z_112, z_113, z_114, z_115, z_116, z_117, z_118, z_119, z_120, z_121, z_122, z_123, z_124, z_125, z_126, z_127, z_199, z_200, z_360, z_410, z_1000, z_1023, z_1024, z_1219, z_9999, z_10240, z_65537]
/-- from an act on: the answer, the marks, the draft -/
def run (e : Nat → Int → Int) : Nat → Int → (Nat → Int → Int) → (Nat → Int → Int) → Int × (Nat → Int → Int) × (Nat → Int → Int)
  | 0, _, n, d => (0, n, d)
  | m + 1, a, n, d => if e 99 1 ≤ a then (0, n, d)
    else if rsn d (kdc (sg e a)) (wht e a) = 0 then
      run e m (if kdc (sg e a) = 0 then a + 3 else a + 1) (stN n d (actd d (kdc (sg e a)) (wht e a) (10 * (sg e (a + 2) - 48))) (kdc (sg e a))) (actd d (kdc (sg e a)) (wht e a) (10 * (sg e (a + 2) - 48)))
    else (-3, ud (ud n 99 2 (n 99 0)) 99 3 (rsn d (kdc (sg e a)) (wht e a)), d)

theorem plc_p {c : Int} (h : ¬ plc c = -6) : 0 ≤ plc c ∧ plc c ≤ 10 := by
  unfold plc at h ⊢
  split
  · omega
  · next z =>
    rw [if_neg z] at h
    split
    · omega
    · next z2 => rw [if_neg z2] at h; omega
theorem kdc_1 {c : Int} (h : kdc c = 1) : 0 ≤ plc c ∧ plc c ≤ 10 := by
  apply plc_p
  intro z
  unfold kdc at h
  rw [if_pos z] at h
  split at h
  · omega
  · split at h
    · omega
    · split at h
      · omega
      · split at h <;> omega
theorem kdc_n {c : Int} (h : ¬ kdc c = -6) : 0 ≤ kdc c ∧ kdc c ≤ 4 := by
  unfold kdc at h ⊢
  split
  · omega
  · next z1 =>
    rw [if_neg z1] at h
    split
    · omega
    · next z2 =>
      rw [if_neg z2] at h
      split
      · omega
      · next z3 =>
        rw [if_neg z3] at h
        split
        · omega
        · next z4 =>
          rw [if_neg z4] at h
          split
          · next z5 => rw [if_pos z5] at h; omega
          · omega
/-- what no fault from a on says of the act at a -/
theorem fl_act {e} {M : Nat} {a : Int} (h : fl e (M + 1) a = -6) (ha : a < e 99 1) (h0 : 0 ≤ a) : (0 ≤ kdc (sg e a) ∧ kdc (sg e a) ≤ 4) ∧ (kdc (sg e a) = 1 → 0 ≤ wht e a ∧ wht e a ≤ 10) ∧ (kdc (sg e a) = 0 → (0 ≤ wht e a ∧ wht e a ≤ 9) ∧ 1 ≤ sg e (a + 2) - 48 ∧ sg e (a + 2) - 48 ≤ 9) ∧ fl e M (if kdc (sg e a) = 0 then a + 3 else a + 1) = -6 := by
  unfold fl at h
  rw [if_neg (by omega)] at h
  by_cases c1 : kdc (sg e a) = -6
  · rw [if_pos c1] at h; omega
  · rw [if_neg c1] at h
    refine ⟨kdc_n c1, fun z => ?_, fun z => ?_, ?_⟩
    · unfold wht
      rw [if_neg (by omega)]
      exact kdc_1 z
    · rw [if_pos z] at h
      unfold wht
      rw [if_pos z]
      split at h
      · next z2 =>
        split at h
        · next z3 => exact ⟨z2, z3⟩
        · omega
      · omega
    · split at h
      · next z =>
        rw [if_pos z]
        split at h
        · split at h
          · exact h
          · omega
        · omega
      · next z => rw [if_neg z]; exact h
theorem wht_b {e} (h : okp e) (a : Int) : -100 ≤ wht e a ∧ wht e a ≤ 100 := by
  have := sg_b h (a + 1)
  have := plc_b (sg e a)
  unfold wht
  split <;> omega
def mrk (n : Nat → Int → Int) (b : Int) : Prop := (0 ≤ n 99 0 ∧ n 99 0 ≤ b) ∧ (0 ≤ n 99 1 ∧ n 99 1 ≤ b) ∧ (-6 ≤ n 99 4 ∧ n 99 4 ≤ b)
theorem mrk_st {n d d' : Nat → Int → Int} {k b : Int} (h : mrk n b) : mrk (stN n d d' k) (b + 1) := by
  obtain ⟨h0, h1, h4⟩ := h
  unfold stN mrk
  dsimp only
  split <;> split <;> simp (disch := omega) only [ud_same, ud_ne] <;> omega
theorem mrk_mono {n : Nat → Int → Int} {b c : Int} (h : mrk n b) (hb : b ≤ c) : mrk n c := by
  obtain ⟨h0, h1, h4⟩ := h
  exact ⟨by omega, by omega, by omega⟩
theorem x_run {e} (h : okp e) : ∀ (N : Nat) (a : Int × (Nat → Int → Int) × (Nat → Int → Int)), ((0 ≤ a.1 ∧ a.1 ≤ 90 ∧ (e 99 1 - a.1).toNat < N) ∧ mrk a.2.1 a.1 ∧ okd a.2.2 ∧ fl e N a.1 = -6) →
    q_lp (b_X2_pass_54 (eC e)) (fun z18 => some ((0 : Int32), z18.2.1, z18.2.2)) N (zI a.1, eC a.2.1, eC a.2.2) = some (zI (run e N a.1 a.2.1 a.2.2).1, eC (run e N a.1 a.2.1 a.2.2).2.1, eC (run e N a.1 a.2.1 a.2.2).2.2) := by
  refine lp_en (fun a : Int × (Nat → Int → Int) × (Nat → Int → Int) => (zI a.1, eC a.2.1, eC a.2.2)) (fun N a => some (zI (run e N a.1 a.2.1 a.2.2).1, eC (run e N a.1 a.2.1 a.2.2).2.1, eC (run e N a.1 a.2.1 a.2.2).2.2)) (fun N a => (0 ≤ a.1 ∧ a.1 ≤ 90 ∧ (e 99 1 - a.1).toNat < N) ∧ mrk a.2.1 a.1 ∧ okd a.2.2 ∧ fl e N a.1 = -6) (fun a => by omega) ?_
  rintro again N ⟨a, n, d⟩ ⟨⟨h0, h1, h2⟩, hm, hd, hf⟩ ih
  dsimp only at h0 h1 h2 hm hd hf ih ⊢
  unfold b_X2_pass_54 run f_X3_size
  dsimp only
  have hc := h.2
  by_cases c : e 99 1 ≤ a
  · simp (disch := omega) only [eC_1, s_T, s_F, s_bd, s_cl, s_rd, s_wr, s_ite, z_ite, z_neg, z_add, z_sub, z_mul, z_le, z_lt, z_eq, eC_at, eC_7, eC_8, eC_9, eC_10, eC_11, eC_p7, eC_p8, eC_p9, eC_p10, eC_p11, eC_up, ud_same, ud_ne, if_pos, if_neg, z_0, z_1, z_2, z_3, z_4, z_5, z_6, z_7, z_8, z_9, z_10, z_11, z_12, z_13, z_14, z_15, z_16, z_17, z_18, z_19, z_20, z_21, z_22, z_23, z_24, z_25, z_26, z_27, z_28, z_29, z_30, z_31, z_32, z_33, z_34, z_35, z_36, z_37, z_38, z_39, z_40, z_41, z_42, z_43, z_44, z_45, z_46, z_47, z_48, z_49, z_50, z_51, z_52, z_53, z_54, z_55, z_56, z_57, z_58, z_59, z_60, z_61, z_62, z_63, z_64, z_65, z_66, z_67, z_68, z_69, z_70, z_71, z_72, z_73, z_74, z_75, z_76, z_77, z_78, z_79, z_80, z_81, z_82, z_83, z_84, z_85, z_86, z_87, z_88, z_89, z_90, z_91, z_92, z_93, z_94, z_95, z_96, z_97, z_98, z_99, z_100, z_101, z_102, z_103, z_104, z_105, z_106, z_107, z_108, z_109, z_110, z_111, z_112, z_113, z_114, z_115, z_116, z_117, z_118, z_119, z_120, z_121, z_122, z_123, z_124, z_125, z_126, z_127, z_199, z_200, z_360, z_410, z_1000, z_1023, z_1024, z_1219, z_9999, z_10240, z_65537]
  · obtain ⟨hk, hw1, hw0, hn⟩ := fl_act hf (by omega) h0
    have hwb := wht_b h a
    have hr := x_reasonAgainst d hd (k := kdc (sg e a)) (w := wht e a) hk.1 hk.2 hw1
    have hs := sg_b h (a + 2)
    have hrb : 0 ≤ rsn d (kdc (sg e a)) (wht e a) ∧ rsn d (kdc (sg e a)) (wht e a) ≤ 4 := by
      unfold rsn
      repeat' split
      all_goals omega
    have hok : okn n := ⟨by have := hm.1; omega, by have := hm.2.1; omega, by have := hm.2.2; omega⟩
    by_cases cr : rsn d (kdc (sg e a)) (wht e a) = 0
    · have hact := x_actOn (v := 10 * (sg e (a + 2) - 48)) hok hd hk.1 hk.2 hw1 (fun z => (hw0 z).1) (fun z => by have := (hw0 z).2; omega) cr
      have hd' := okd_act hd hk.1 hk.2 hw1 (fun z => (hw0 z).1) (v := 10 * (sg e (a + 2) - 48)) (fun z => by have := (hw0 z).2; omega) cr
      have hm' := mrk_st (d := d) (d' := actd d (kdc (sg e a)) (wht e a) (10 * (sg e (a + 2) - 48))) (k := kdc (sg e a)) hm
      have ih' := ih (if kdc (sg e a) = 0 then a + 3 else a + 1, stN n d (actd d (kdc (sg e a)) (wht e a) (10 * (sg e (a + 2) - 48))) (kdc (sg e a)), actd d (kdc (sg e a)) (wht e a) (10 * (sg e (a + 2) - 48))) ⟨by dsimp only; split <;> omega, mrk_mono hm' (by dsimp only; split <;> omega), hd', hn⟩
      dsimp only at ih'
      rw [if_neg c, if_pos cr]
      by_cases ck : kdc (sg e a) = 0
      · simp (disch := omega) only [eC_1, x_kindAt h, x_whatAt h, x_digitAt h, hr, hact, cr, s_T, s_F, s_bd, s_cl, s_rd, s_wr, s_ite, z_ite, z_neg, z_add, z_sub, z_mul, z_le, z_lt, z_eq, eC_at, eC_7, eC_8, eC_9, eC_10, eC_11, eC_p7, eC_p8, eC_p9, eC_p10, eC_p11, eC_up, ud_same, ud_ne, if_pos, if_neg, z_0, z_1, z_2, z_3, z_4, z_5, z_6, z_7, z_8, z_9, z_10, z_11, z_12, z_13, z_14, z_15, z_16, z_17, z_18, z_19, z_20, z_21, z_22, z_23, z_24, z_25, z_26, z_27, z_28, z_29, z_30, z_31, z_32, z_33, z_34, z_35, z_36, z_37, z_38, z_39, z_40, z_41, z_42, z_43, z_44, z_45, z_46, z_47, z_48, z_49, z_50, z_51, z_52, z_53, z_54, z_55, z_56, z_57, z_58, z_59, z_60, z_61, z_62, z_63, z_64, z_65, z_66, z_67, z_68, z_69, z_70, z_71, z_72, z_73, z_74, z_75, z_76, z_77, z_78, z_79, z_80, z_81, z_82, z_83, z_84, z_85, z_86, z_87, z_88, z_89, z_90, z_91, z_92, z_93, z_94, z_95, z_96, z_97, z_98, z_99, z_100, z_101, z_102, z_103, z_104, z_105, z_106, z_107, z_108, z_109, z_110, z_111, z_112, z_113, z_114, z_115, z_116, z_117, z_118, z_119, z_120, z_121, z_122, z_123, z_124, z_125, z_126, z_127, z_199, z_200, z_360, z_410, z_1000, z_1023, z_1024, z_1219, z_9999, z_10240, z_65537]
        rw [if_pos ck] at ih'
        exact ih'
      · simp (disch := omega) only [eC_1, x_kindAt h, x_whatAt h, x_digitAt h, hr, hact, cr, s_T, s_F, s_bd, s_cl, s_rd, s_wr, s_ite, z_ite, z_neg, z_add, z_sub, z_mul, z_le, z_lt, z_eq, eC_at, eC_7, eC_8, eC_9, eC_10, eC_11, eC_p7, eC_p8, eC_p9, eC_p10, eC_p11, eC_up, ud_same, ud_ne, if_pos, if_neg, z_0, z_1, z_2, z_3, z_4, z_5, z_6, z_7, z_8, z_9, z_10, z_11, z_12, z_13, z_14, z_15, z_16, z_17, z_18, z_19, z_20, z_21, z_22, z_23, z_24, z_25, z_26, z_27, z_28, z_29, z_30, z_31, z_32, z_33, z_34, z_35, z_36, z_37, z_38, z_39, z_40, z_41, z_42, z_43, z_44, z_45, z_46, z_47, z_48, z_49, z_50, z_51, z_52, z_53, z_54, z_55, z_56, z_57, z_58, z_59, z_60, z_61, z_62, z_63, z_64, z_65, z_66, z_67, z_68, z_69, z_70, z_71, z_72, z_73, z_74, z_75, z_76, z_77, z_78, z_79, z_80, z_81, z_82, z_83, z_84, z_85, z_86, z_87, z_88, z_89, z_90, z_91, z_92, z_93, z_94, z_95, z_96, z_97, z_98, z_99, z_100, z_101, z_102, z_103, z_104, z_105, z_106, z_107, z_108, z_109, z_110, z_111, z_112, z_113, z_114, z_115, z_116, z_117, z_118, z_119, z_120, z_121, z_122, z_123, z_124, z_125, z_126, z_127, z_199, z_200, z_360, z_410, z_1000, z_1023, z_1024, z_1219, z_9999, z_10240, z_65537]
        rw [if_neg ck] at ih'
        exact ih'
    · simp (disch := omega) only [eC_1, x_kindAt h, x_whatAt h, hr, eC_0, eC_p2, eC_p3, s_T, s_F, s_bd, s_cl, s_rd, s_wr, s_ite, z_ite, z_neg, z_add, z_sub, z_mul, z_le, z_lt, z_eq, eC_at, eC_7, eC_8, eC_9, eC_10, eC_11, eC_p7, eC_p8, eC_p9, eC_p10, eC_p11, eC_up, ud_same, ud_ne, if_pos, if_neg, z_0, z_1, z_2, z_3, z_4, z_5, z_6, z_7, z_8, z_9, z_10, z_11, z_12, z_13, z_14, z_15, z_16, z_17, z_18, z_19, z_20, z_21, z_22, z_23, z_24, z_25, z_26, z_27, z_28, z_29, z_30, z_31, z_32, z_33, z_34, z_35, z_36, z_37, z_38, z_39, z_40, z_41, z_42, z_43, z_44, z_45, z_46, z_47, z_48, z_49, z_50, z_51, z_52, z_53, z_54, z_55, z_56, z_57, z_58, z_59, z_60, z_61, z_62, z_63, z_64, z_65, z_66, z_67, z_68, z_69, z_70, z_71, z_72, z_73, z_74, z_75, z_76, z_77, z_78, z_79, z_80, z_81, z_82, z_83, z_84, z_85, z_86, z_87, z_88, z_89, z_90, z_91, z_92, z_93, z_94, z_95, z_96, z_97, z_98, z_99, z_100, z_101, z_102, z_103, z_104, z_105, z_106, z_107, z_108, z_109, z_110, z_111, z_112, z_113, z_114, z_115, z_116, z_117, z_118, z_119, z_120, z_121, z_122, z_123, z_124, z_125, z_126, z_127, z_199, z_200, z_360, z_410, z_1000, z_1023, z_1024, z_1219, z_9999, z_10240, z_65537]
end
section
/-! the state of the reference: a Close d within the rest m -/
theorem eC_6 (d : Nat → Int → Int) : eC d 99 6 = zI (d 99 6) := rfl
theorem eC_13 (d : Nat → Int → Int) : eC d 99 13 = zI (d 99 13) := rfl
theorem eC_17 (d : Nat → Int → Int) : eC d 99 17 = zI (d 99 17) := rfl
theorem eC_19 (d : Nat → Int → Int) : eC d 99 19 = zI (d 99 19) := rfl
theorem eC_20 (d : Nat → Int → Int) : eC d 99 20 = zI (d 99 20) := rfl
theorem eC_21 (d : Nat → Int → Int) : eC d 99 21 = zI (d 99 21) := rfl
theorem eC_22 (d : Nat → Int → Int) : eC d 99 22 = zI (d 99 22) := rfl
theorem eC_23 (d : Nat → Int → Int) : eC d 99 23 = zI (d 99 23) := rfl
theorem eC_32 (d : Nat → Int → Int) : eC d 99 32 = zI (d 99 32) := rfl
theorem eC_33 (d : Nat → Int → Int) : eC d 99 33 = zI (d 99 33) := rfl
theorem eC_p6 (d : Nat → Int → Int) (v : Int) : q_up (eC d) 99 (upd (eC d 99) 6 (zI v)) = eC (ud d 99 6 v) := eC_up d 99 (i := 6) (by decide) v
theorem eC_p13 (d : Nat → Int → Int) (v : Int) : q_up (eC d) 99 (upd (eC d 99) 13 (zI v)) = eC (ud d 99 13 v) := eC_up d 99 (i := 13) (by decide) v
theorem eC_p17 (d : Nat → Int → Int) (v : Int) : q_up (eC d) 99 (upd (eC d 99) 17 (zI v)) = eC (ud d 99 17 v) := eC_up d 99 (i := 17) (by decide) v
theorem eC_p19 (d : Nat → Int → Int) (v : Int) : q_up (eC d) 99 (upd (eC d 99) 19 (zI v)) = eC (ud d 99 19 v) := eC_up d 99 (i := 19) (by decide) v
theorem eC_p20 (d : Nat → Int → Int) (v : Int) : q_up (eC d) 99 (upd (eC d 99) 20 (zI v)) = eC (ud d 99 20 v) := eC_up d 99 (i := 20) (by decide) v
theorem eC_p21 (d : Nat → Int → Int) (v : Int) : q_up (eC d) 99 (upd (eC d 99) 21 (zI v)) = eC (ud d 99 21 v) := eC_up d 99 (i := 21) (by decide) v
theorem eC_p22 (d : Nat → Int → Int) (v : Int) : q_up (eC d) 99 (upd (eC d 99) 22 (zI v)) = eC (ud d 99 22 v) := eC_up d 99 (i := 22) (by decide) v
theorem eC_p23 (d : Nat → Int → Int) (v : Int) : q_up (eC d) 99 (upd (eC d 99) 23 (zI v)) = eC (ud d 99 23 v) := eC_up d 99 (i := 23) (by decide) v
theorem eC_p32 (d : Nat → Int → Int) (v : Int) : q_up (eC d) 99 (upd (eC d 99) 32 (zI v)) = eC (ud d 99 32 v) := eC_up d 99 (i := 32) (by decide) v
theorem eC_p33 (d : Nat → Int → Int) (v : Int) : q_up (eC d) 99 (upd (eC d 99) 33 (zI v)) = eC (ud d 99 33 v) := eC_up d 99 (i := 33) (by decide) v
def cs (k : Nat) (i : Int) : Option (Nat × Int) :=
  if k ≤ 4 then some (k, i) else if k = 9 then some (5, i) else if k = 10 then some (6, i)
  else if k = 99 then (if i = 5 then some (99, 8) else if i = 6 then some (99, 9) else if i = 7 then some (99, 10) else if i = 8 then some (99, 11) else if i = 11 then some (99, 7) else none) else none
def pw (m d : Nat → Int → Int) : Nat → Int → Int := fun k i => match cs k i with
  | some x => d x.1 x.2
  | none => m k i
theorem cs_inj {a k : Nat} {b i : Int} {x : Nat × Int} (h1 : cs a b = some x) (h2 : cs k i = some x) : a = k ∧ b = i := by
  unfold cs at h1 h2
  obtain ⟨x1, x2⟩ := x
  repeat' split at h1
  all_goals repeat' split at h2
  all_goals (simp only [Option.some.injEq, Prod.mk.injEq, reduceCtorEq] at h1 h2)
  all_goals omega
theorem pw_some {m d : Nat → Int → Int} {k : Nat} {i : Int} {x : Nat × Int} (h : cs k i = some x) : pw m d k i = d x.1 x.2 := by unfold pw; rw [h]
theorem pw_none {m d : Nat → Int → Int} {k : Nat} {i : Int} (h : cs k i = none) : pw m d k i = m k i := by unfold pw; rw [h]
theorem ud_pw {m d : Nat → Int → Int} {k : Nat} {i : Int} {x : Nat × Int} (h : cs k i = some x) (v : Int) : ud (pw m d) k i v = pw m (ud d x.1 x.2 v) := by
  funext a b
  by_cases e : a = k ∧ b = i
  · obtain ⟨rfl, rfl⟩ := e
    rw [ud_same, pw_some h, ud_same]
  · have e1 : ud (pw m d) k i v a b = pw m d a b := by unfold ud; rw [if_neg e]
    rw [e1]
    cases z : cs a b with
    | none => rw [pw_none z, pw_none z]
    | some y =>
      rw [pw_some z, pw_some z]
      unfold ud
      rw [if_neg]
      rintro ⟨z1, z2⟩
      obtain rfl : y = x := Prod.ext z1 z2
      exact e (cs_inj z h)
theorem ud_pwn {m d : Nat → Int → Int} {k : Nat} {i : Int} (h : cs k i = none) (v : Int) : ud (pw m d) k i v = pw (ud m k i v) d := by
  funext a b
  by_cases e : a = k ∧ b = i
  · obtain ⟨rfl, rfl⟩ := e
    rw [ud_same, pw_none h, ud_same]
  · have e1 : ud (pw m d) k i v a b = pw m d a b := by unfold ud; rw [if_neg e]
    rw [e1]
    cases z : cs a b with
    | none =>
      rw [pw_none z, pw_none z]
      unfold ud
      rw [if_neg e]
    | some y => rw [pw_some z, pw_some z]
theorem pw_0 (m d : Nat → Int → Int) (i : Int) : pw m d 0 i = d 0 i := pw_some (x := (0, i)) rfl
theorem up_0 (m d : Nat → Int → Int) (i v : Int) : ud (pw m d) 0 i v = pw m (ud d 0 i v) := ud_pw (x := (0, i)) rfl v
theorem pw_1 (m d : Nat → Int → Int) (i : Int) : pw m d 1 i = d 1 i := pw_some (x := (1, i)) rfl
theorem up_1 (m d : Nat → Int → Int) (i v : Int) : ud (pw m d) 1 i v = pw m (ud d 1 i v) := ud_pw (x := (1, i)) rfl v
theorem pw_2 (m d : Nat → Int → Int) (i : Int) : pw m d 2 i = d 2 i := pw_some (x := (2, i)) rfl
theorem up_2 (m d : Nat → Int → Int) (i v : Int) : ud (pw m d) 2 i v = pw m (ud d 2 i v) := ud_pw (x := (2, i)) rfl v
theorem pw_3 (m d : Nat → Int → Int) (i : Int) : pw m d 3 i = d 3 i := pw_some (x := (3, i)) rfl
theorem up_3 (m d : Nat → Int → Int) (i v : Int) : ud (pw m d) 3 i v = pw m (ud d 3 i v) := ud_pw (x := (3, i)) rfl v
theorem pw_4 (m d : Nat → Int → Int) (i : Int) : pw m d 4 i = d 4 i := pw_some (x := (4, i)) rfl
theorem up_4 (m d : Nat → Int → Int) (i v : Int) : ud (pw m d) 4 i v = pw m (ud d 4 i v) := ud_pw (x := (4, i)) rfl v
theorem pw_9 (m d : Nat → Int → Int) (i : Int) : pw m d 9 i = d 5 i := pw_some (x := (5, i)) rfl
theorem up_9 (m d : Nat → Int → Int) (i v : Int) : ud (pw m d) 9 i v = pw m (ud d 5 i v) := ud_pw (x := (5, i)) rfl v
theorem pw_10 (m d : Nat → Int → Int) (i : Int) : pw m d 10 i = d 6 i := pw_some (x := (6, i)) rfl
theorem up_10 (m d : Nat → Int → Int) (i v : Int) : ud (pw m d) 10 i v = pw m (ud d 6 i v) := ud_pw (x := (6, i)) rfl v
theorem pwi_5 (m d : Nat → Int → Int) : pw m d 99 5 = d 99 8 := pw_some (x := (99, 8)) rfl
theorem upi_5 (m d : Nat → Int → Int) (v : Int) : ud (pw m d) 99 5 v = pw m (ud d 99 8 v) := ud_pw (x := (99, 8)) rfl v
theorem pwi_6 (m d : Nat → Int → Int) : pw m d 99 6 = d 99 9 := pw_some (x := (99, 9)) rfl
theorem upi_6 (m d : Nat → Int → Int) (v : Int) : ud (pw m d) 99 6 v = pw m (ud d 99 9 v) := ud_pw (x := (99, 9)) rfl v
theorem pwi_7 (m d : Nat → Int → Int) : pw m d 99 7 = d 99 10 := pw_some (x := (99, 10)) rfl
theorem upi_7 (m d : Nat → Int → Int) (v : Int) : ud (pw m d) 99 7 v = pw m (ud d 99 10 v) := ud_pw (x := (99, 10)) rfl v
theorem pwi_8 (m d : Nat → Int → Int) : pw m d 99 8 = d 99 11 := pw_some (x := (99, 11)) rfl
theorem upi_8 (m d : Nat → Int → Int) (v : Int) : ud (pw m d) 99 8 v = pw m (ud d 99 11 v) := ud_pw (x := (99, 11)) rfl v
theorem pwi_11 (m d : Nat → Int → Int) : pw m d 99 11 = d 99 7 := pw_some (x := (99, 7)) rfl
theorem upi_11 (m d : Nat → Int → Int) (v : Int) : ud (pw m d) 99 11 v = pw m (ud d 99 7 v) := ud_pw (x := (99, 7)) rfl v
theorem pw_12 (m d : Nat → Int → Int) (i : Int) : pw m d 12 i = m 12 i := pw_none rfl
theorem up_12 (m d : Nat → Int → Int) (i v : Int) : ud (pw m d) 12 i v = pw (ud m 12 i v) d := ud_pwn rfl v
theorem pw_14 (m d : Nat → Int → Int) (i : Int) : pw m d 14 i = m 14 i := pw_none rfl
theorem up_14 (m d : Nat → Int → Int) (i v : Int) : ud (pw m d) 14 i v = pw (ud m 14 i v) d := ud_pwn rfl v
theorem pw_15 (m d : Nat → Int → Int) (i : Int) : pw m d 15 i = m 15 i := pw_none rfl
theorem up_15 (m d : Nat → Int → Int) (i v : Int) : ud (pw m d) 15 i v = pw (ud m 15 i v) d := ud_pwn rfl v
theorem pw_16 (m d : Nat → Int → Int) (i : Int) : pw m d 16 i = m 16 i := pw_none rfl
theorem up_16 (m d : Nat → Int → Int) (i v : Int) : ud (pw m d) 16 i v = pw (ud m 16 i v) d := ud_pwn rfl v
theorem pw_18 (m d : Nat → Int → Int) (i : Int) : pw m d 18 i = m 18 i := pw_none rfl
theorem up_18 (m d : Nat → Int → Int) (i v : Int) : ud (pw m d) 18 i v = pw (ud m 18 i v) d := ud_pwn rfl v
theorem pw_24 (m d : Nat → Int → Int) (i : Int) : pw m d 24 i = m 24 i := pw_none rfl
theorem up_24 (m d : Nat → Int → Int) (i v : Int) : ud (pw m d) 24 i v = pw (ud m 24 i v) d := ud_pwn rfl v
theorem pw_25 (m d : Nat → Int → Int) (i : Int) : pw m d 25 i = m 25 i := pw_none rfl
theorem up_25 (m d : Nat → Int → Int) (i v : Int) : ud (pw m d) 25 i v = pw (ud m 25 i v) d := ud_pwn rfl v
theorem pw_26 (m d : Nat → Int → Int) (i : Int) : pw m d 26 i = m 26 i := pw_none rfl
theorem up_26 (m d : Nat → Int → Int) (i v : Int) : ud (pw m d) 26 i v = pw (ud m 26 i v) d := ud_pwn rfl v
theorem pw_29 (m d : Nat → Int → Int) (i : Int) : pw m d 29 i = m 29 i := pw_none rfl
theorem up_29 (m d : Nat → Int → Int) (i v : Int) : ud (pw m d) 29 i v = pw (ud m 29 i v) d := ud_pwn rfl v
theorem pw_30 (m d : Nat → Int → Int) (i : Int) : pw m d 30 i = m 30 i := pw_none rfl
theorem up_30 (m d : Nat → Int → Int) (i v : Int) : ud (pw m d) 30 i v = pw (ud m 30 i v) d := ud_pwn rfl v
theorem pw_31 (m d : Nat → Int → Int) (i : Int) : pw m d 31 i = m 31 i := pw_none rfl
theorem up_31 (m d : Nat → Int → Int) (i v : Int) : ud (pw m d) 31 i v = pw (ud m 31 i v) d := ud_pwn rfl v
theorem pwi_13 (m d : Nat → Int → Int) : pw m d 99 13 = m 99 13 := pw_none rfl
theorem upi_13 (m d : Nat → Int → Int) (v : Int) : ud (pw m d) 99 13 v = pw (ud m 99 13 v) d := ud_pwn rfl v
theorem pwi_17 (m d : Nat → Int → Int) : pw m d 99 17 = m 99 17 := pw_none rfl
theorem upi_17 (m d : Nat → Int → Int) (v : Int) : ud (pw m d) 99 17 v = pw (ud m 99 17 v) d := ud_pwn rfl v
theorem pwi_19 (m d : Nat → Int → Int) : pw m d 99 19 = m 99 19 := pw_none rfl
theorem upi_19 (m d : Nat → Int → Int) (v : Int) : ud (pw m d) 99 19 v = pw (ud m 99 19 v) d := ud_pwn rfl v
theorem pwi_20 (m d : Nat → Int → Int) : pw m d 99 20 = m 99 20 := pw_none rfl
theorem upi_20 (m d : Nat → Int → Int) (v : Int) : ud (pw m d) 99 20 v = pw (ud m 99 20 v) d := ud_pwn rfl v
theorem pwi_21 (m d : Nat → Int → Int) : pw m d 99 21 = m 99 21 := pw_none rfl
theorem upi_21 (m d : Nat → Int → Int) (v : Int) : ud (pw m d) 99 21 v = pw (ud m 99 21 v) d := ud_pwn rfl v
theorem pwi_22 (m d : Nat → Int → Int) : pw m d 99 22 = m 99 22 := pw_none rfl
theorem upi_22 (m d : Nat → Int → Int) (v : Int) : ud (pw m d) 99 22 v = pw (ud m 99 22 v) d := ud_pwn rfl v
theorem pwi_23 (m d : Nat → Int → Int) : pw m d 99 23 = m 99 23 := pw_none rfl
theorem upi_23 (m d : Nat → Int → Int) (v : Int) : ud (pw m d) 99 23 v = pw (ud m 99 23 v) d := ud_pwn rfl v
theorem pwi_32 (m d : Nat → Int → Int) : pw m d 99 32 = m 99 32 := pw_none rfl
theorem upi_32 (m d : Nat → Int → Int) (v : Int) : ud (pw m d) 99 32 v = pw (ud m 99 32 v) d := ud_pwn rfl v
theorem pwi_33 (m d : Nat → Int → Int) : pw m d 99 33 = m 99 33 := pw_none rfl
theorem upi_33 (m d : Nat → Int → Int) (v : Int) : ud (pw m d) 99 33 v = pw (ud m 99 33 v) d := ud_pwn rfl v
theorem pw_pr {d : Nat → Int → Int} (m : Nat → Int → Int) : pw (pw m d) d = pw m d := by
  funext k i
  cases z : cs k i with
  | none => rw [pw_none z]
  | some y => rw [pw_some z, pw_some z]
/-! tests of the reference -/
theorem s_isB {c : Prop} [Decidable c] : q_isB (zI (if c then 1 else 0)) = true := by split <;> decide
theorem m_in {x a b : Int} (h1 : -9223372036854775808 ≤ x) (h2 : x < 9223372036854775808) (h3 : -9223372036854775808 ≤ a) (h4 : a < 9223372036854775808) (h5 : -9223372036854775808 ≤ b) (h6 : b < 9223372036854775808) : f_X7_in (zL x) (zL a) (zL b) = some (zI (if a ≤ x ∧ x ≤ b then 1 else 0)) := by
  unfold f_X7_in
  rw [z_cmp h1 h2 h3 h4, z_cmp h1 h2 h5 h6]
  rcases Int.lt_trichotomy x a with h | h | h
  · rw [if_neg (show ¬ a < x by omega), if_neg (show ¬ x = a by omega), if_pos (by decide), if_neg (by omega)]
    decide
  · rw [if_neg (show ¬ a < x by omega), if_pos h, if_neg (by decide)]
    by_cases c : b < x
    · rw [if_pos c, if_pos (by decide), if_neg (by omega)]; decide
    · rw [if_neg c]
      by_cases c2 : x = b
      · rw [if_pos c2, if_neg (by decide), if_pos (by omega)]; decide
      · rw [if_neg c2, if_neg (by decide), if_pos (by omega)]; decide
  · rw [if_pos h, if_neg (by decide)]
    by_cases c : b < x
    · rw [if_pos c, if_pos (by decide), if_neg (by omega)]; decide
    · rw [if_neg c]
      by_cases c2 : x = b
      · rw [if_pos c2, if_neg (by decide), if_pos (by omega)]; decide
      · rw [if_neg c2, if_neg (by decide), if_pos (by omega)]; decide
theorem m_isHouse {x : Int} (h1 : -2147483648 ≤ x) (h2 : x < 2147483648) : f_X7_isHouse (zI x) = some (zI (if 0 ≤ x ∧ x ≤ 9 then 1 else 0)) := by
  unfold f_X7_isHouse
  rw [z_l h1 h2, zl_0, zl_9, m_in (by omega) (by omega) (by omega) (by omega) (by omega) (by omega), s_cl, s_chk s_isB]
theorem m_isPlace {x : Int} (h1 : -2147483648 ≤ x) (h2 : x < 2147483648) : f_X7_isPlace (zI x) = some (zI (if 0 ≤ x ∧ x ≤ 10 then 1 else 0)) := by
  unfold f_X7_isPlace
  rw [z_l h1 h2, zl_0, zl_10, m_in (by omega) (by omega) (by omega) (by omega) (by omega) (by omega), s_cl, s_chk s_isB]
theorem m_isTale {x : Int} (h1 : -2147483648 ≤ x) (h2 : x < 2147483648) : f_X7_isTale (zI x) = some (zI (if 0 ≤ x ∧ x ≤ 9 then 1 else 0)) := by
  unfold f_X7_isTale
  rw [z_l h1 h2, zl_0, zl_9, m_in (by omega) (by omega) (by omega) (by omega) (by omega) (by omega), s_cl, s_chk s_isB]
theorem m_cooled {a b : Int} (h1 : 0 ≤ a) (h2 : a < 1000000000) (h3 : 0 ≤ b) (h4 : b < 1000000000) : f_X7_cooled (zI a) (zI b) = some (zI (if 0 < a - b then a - b else 0)) := by
  unfold f_X7_cooled
  simp (disch := omega) only [s_T, s_F, s_bd, s_cl, s_rd, s_wr, s_ite, z_ite, z_neg, z_add, z_sub, z_mul, z_le, z_lt, z_eq, eC_at, eC_7, eC_8, eC_9, eC_10, eC_11, eC_p7, eC_p8, eC_p9, eC_p10, eC_p11, eC_up, ud_same, ud_ne, z_0, z_1, z_2, z_3, z_4, z_5, z_6, z_7, z_8, z_9, z_10, z_11, z_12, z_13, z_14, z_15, z_16, z_17, z_18, z_19, z_20, z_21, z_22, z_23, z_24, z_25, z_26, z_27, z_28, z_29, z_30, z_31, z_32, z_33, z_34, z_35, z_36, z_37, z_38, z_39, z_40, z_41, z_42, z_43, z_44, z_45, z_46, z_47, z_48, z_49, z_50, z_51, z_52, z_53, z_54, z_55, z_56, z_57, z_58, z_59, z_60, z_61, z_62, z_63, z_64, z_65, z_66, z_67, z_68, z_69, z_70, z_71, z_72, z_73, z_74, z_75, z_76, z_77, z_78, z_79, z_80, z_81, z_82, z_83, z_84, z_85, z_86, z_87, z_88, z_89, z_90, z_91, z_92, z_93, z_94, z_95, z_96, z_97, z_98, z_99, z_100, z_101, z_102, z_103, z_104, z_105, z_106, z_107, z_108, z_109, z_110, z_111, z_112, z_113, z_114, z_115, z_116, z_117, z_118, z_119, z_120, z_121, z_122, z_123, z_124, z_125, z_126, z_127, z_199, z_200, z_360, z_410, z_1000, z_1023, z_1024, z_1219, z_9999, z_10240, z_65537]
  congr 2
  split
  · rw [if_neg (by omega)]
  · rw [if_pos (by omega)]
theorem m_whyNot (m d : Nat → Int → Int) (τ : qL) (hd : okd d) {k w : Int} (h1 : 0 ≤ k) (h2 : k ≤ 4) (hw : k = 1 → 0 ≤ w ∧ w ≤ 10) : f_X7_whyNot (eC (pw m d)) τ (zI k) (zI w) = some (zI (rsn d k w)) := by
  unfold f_X7_whyNot rsn
  have a1 := okd_p hd
  have a2 := okd_h hd
  have a3 := okd_m hd
  have a4 := okd_0 hd (d 99 8 * 11 + w)
  have a5 := okd_0 hd (11 * d 99 8 + w)
  rcases (show k = 0 ∨ k = 1 ∨ k = 2 ∨ k = 3 ∨ k = 4 by omega) with e | e | e | e | e <;> subst e
  · simp (disch := omega) only [pw_0, up_0, pw_1, up_1, pw_2, up_2, pw_3, up_3, pw_4, up_4, pw_9, up_9, pw_10, up_10, pwi_5, upi_5, pwi_6, upi_6, pwi_7, upi_7, pwi_8, upi_8, pwi_11, upi_11, pw_12, up_12, pw_14, up_14, pw_15, up_15, pw_16, up_16, pw_18, up_18, pw_24, up_24, pw_25, up_25, pw_26, up_26, pw_29, up_29, pw_30, up_30, pw_31, up_31, pwi_13, upi_13, pwi_17, upi_17, pwi_19, upi_19, pwi_20, upi_20, pwi_21, upi_21, pwi_22, upi_22, pwi_23, upi_23, pwi_32, upi_32, pwi_33, upi_33, eC_5, eC_6, eC_13, eC_17, eC_19, eC_20, eC_21, eC_22, eC_23, eC_32, eC_33, eC_p5, eC_p6, eC_p13, eC_p17, eC_p19, eC_p20, eC_p21, eC_p22, eC_p23, eC_p32, eC_p33, s_T, s_F, s_bd, s_cl, s_rd, s_wr, s_ite, z_ite, z_neg, z_add, z_sub, z_mul, z_le, z_lt, z_eq, eC_at, eC_7, eC_8, eC_9, eC_10, eC_11, eC_p7, eC_p8, eC_p9, eC_p10, eC_p11, eC_up, ud_same, ud_ne, if_pos, if_neg, z_0, z_1, z_2, z_3, z_4, z_5, z_6, z_7, z_8, z_9, z_10, z_11, z_12, z_13, z_14, z_15, z_16, z_17, z_18, z_19, z_20, z_21, z_22, z_23, z_24, z_25, z_26, z_27, z_28, z_29, z_30, z_31, z_32, z_33, z_34, z_35, z_36, z_37, z_38, z_39, z_40, z_41, z_42, z_43, z_44, z_45, z_46, z_47, z_48, z_49, z_50, z_51, z_52, z_53, z_54, z_55, z_56, z_57, z_58, z_59, z_60, z_61, z_62, z_63, z_64, z_65, z_66, z_67, z_68, z_69, z_70, z_71, z_72, z_73, z_74, z_75, z_76, z_77, z_78, z_79, z_80, z_81, z_82, z_83, z_84, z_85, z_86, z_87, z_88, z_89, z_90, z_91, z_92, z_93, z_94, z_95, z_96, z_97, z_98, z_99, z_100, z_101, z_102, z_103, z_104, z_105, z_106, z_107, z_108, z_109, z_110, z_111, z_112, z_113, z_114, z_115, z_116, z_117, z_118, z_119, z_120, z_121, z_122, z_123, z_124, z_125, z_126, z_127, z_199, z_200, z_360, z_410, z_1000, z_1023, z_1024, z_1219, z_9999, z_10240, z_65537]
  · have := hw rfl
    simp (disch := omega) only [pw_0, up_0, pw_1, up_1, pw_2, up_2, pw_3, up_3, pw_4, up_4, pw_9, up_9, pw_10, up_10, pwi_5, upi_5, pwi_6, upi_6, pwi_7, upi_7, pwi_8, upi_8, pwi_11, upi_11, pw_12, up_12, pw_14, up_14, pw_15, up_15, pw_16, up_16, pw_18, up_18, pw_24, up_24, pw_25, up_25, pw_26, up_26, pw_29, up_29, pw_30, up_30, pw_31, up_31, pwi_13, upi_13, pwi_17, upi_17, pwi_19, upi_19, pwi_20, upi_20, pwi_21, upi_21, pwi_22, upi_22, pwi_23, upi_23, pwi_32, upi_32, pwi_33, upi_33, eC_5, eC_6, eC_13, eC_17, eC_19, eC_20, eC_21, eC_22, eC_23, eC_32, eC_33, eC_p5, eC_p6, eC_p13, eC_p17, eC_p19, eC_p20, eC_p21, eC_p22, eC_p23, eC_p32, eC_p33, s_T, s_F, s_bd, s_cl, s_rd, s_wr, s_ite, z_ite, z_neg, z_add, z_sub, z_mul, z_le, z_lt, z_eq, eC_at, eC_7, eC_8, eC_9, eC_10, eC_11, eC_p7, eC_p8, eC_p9, eC_p10, eC_p11, eC_up, ud_same, ud_ne, if_pos, if_neg, z_0, z_1, z_2, z_3, z_4, z_5, z_6, z_7, z_8, z_9, z_10, z_11, z_12, z_13, z_14, z_15, z_16, z_17, z_18, z_19, z_20, z_21, z_22, z_23, z_24, z_25, z_26, z_27, z_28, z_29, z_30, z_31, z_32, z_33, z_34, z_35, z_36, z_37, z_38, z_39, z_40, z_41, z_42, z_43, z_44, z_45, z_46, z_47, z_48, z_49, z_50, z_51, z_52, z_53, z_54, z_55, z_56, z_57, z_58, z_59, z_60, z_61, z_62, z_63, z_64, z_65, z_66, z_67, z_68, z_69, z_70, z_71, z_72, z_73, z_74, z_75, z_76, z_77, z_78, z_79, z_80, z_81, z_82, z_83, z_84, z_85, z_86, z_87, z_88, z_89, z_90, z_91, z_92, z_93, z_94, z_95, z_96, z_97, z_98, z_99, z_100, z_101, z_102, z_103, z_104, z_105, z_106, z_107, z_108, z_109, z_110, z_111, z_112, z_113, z_114, z_115, z_116, z_117, z_118, z_119, z_120, z_121, z_122, z_123, z_124, z_125, z_126, z_127, z_199, z_200, z_360, z_410, z_1000, z_1023, z_1024, z_1219, z_9999, z_10240, z_65537]
    rw [show 11 * d 99 8 + w = d 99 8 * 11 + w by omega]
    congr 2
    split
    · rw [if_pos (by omega)]
    · rw [if_neg (by omega)]
  · simp (disch := omega) only [pw_0, up_0, pw_1, up_1, pw_2, up_2, pw_3, up_3, pw_4, up_4, pw_9, up_9, pw_10, up_10, pwi_5, upi_5, pwi_6, upi_6, pwi_7, upi_7, pwi_8, upi_8, pwi_11, upi_11, pw_12, up_12, pw_14, up_14, pw_15, up_15, pw_16, up_16, pw_18, up_18, pw_24, up_24, pw_25, up_25, pw_26, up_26, pw_29, up_29, pw_30, up_30, pw_31, up_31, pwi_13, upi_13, pwi_17, upi_17, pwi_19, upi_19, pwi_20, upi_20, pwi_21, upi_21, pwi_22, upi_22, pwi_23, upi_23, pwi_32, upi_32, pwi_33, upi_33, eC_5, eC_6, eC_13, eC_17, eC_19, eC_20, eC_21, eC_22, eC_23, eC_32, eC_33, eC_p5, eC_p6, eC_p13, eC_p17, eC_p19, eC_p20, eC_p21, eC_p22, eC_p23, eC_p32, eC_p33, s_T, s_F, s_bd, s_cl, s_rd, s_wr, s_ite, z_ite, z_neg, z_add, z_sub, z_mul, z_le, z_lt, z_eq, eC_at, eC_7, eC_8, eC_9, eC_10, eC_11, eC_p7, eC_p8, eC_p9, eC_p10, eC_p11, eC_up, ud_same, ud_ne, if_pos, if_neg, z_0, z_1, z_2, z_3, z_4, z_5, z_6, z_7, z_8, z_9, z_10, z_11, z_12, z_13, z_14, z_15, z_16, z_17, z_18, z_19, z_20, z_21, z_22, z_23, z_24, z_25, z_26, z_27, z_28, z_29, z_30, z_31, z_32, z_33, z_34, z_35, z_36, z_37, z_38, z_39, z_40, z_41, z_42, z_43, z_44, z_45, z_46, z_47, z_48, z_49, z_50, z_51, z_52, z_53, z_54, z_55, z_56, z_57, z_58, z_59, z_60, z_61, z_62, z_63, z_64, z_65, z_66, z_67, z_68, z_69, z_70, z_71, z_72, z_73, z_74, z_75, z_76, z_77, z_78, z_79, z_80, z_81, z_82, z_83, z_84, z_85, z_86, z_87, z_88, z_89, z_90, z_91, z_92, z_93, z_94, z_95, z_96, z_97, z_98, z_99, z_100, z_101, z_102, z_103, z_104, z_105, z_106, z_107, z_108, z_109, z_110, z_111, z_112, z_113, z_114, z_115, z_116, z_117, z_118, z_119, z_120, z_121, z_122, z_123, z_124, z_125, z_126, z_127, z_199, z_200, z_360, z_410, z_1000, z_1023, z_1024, z_1219, z_9999, z_10240, z_65537]
    congr 2
    split
    · rfl
    · split
      · rw [if_pos (by omega)]
      · rw [if_neg (by omega)]
  · simp (disch := omega) only [pw_0, up_0, pw_1, up_1, pw_2, up_2, pw_3, up_3, pw_4, up_4, pw_9, up_9, pw_10, up_10, pwi_5, upi_5, pwi_6, upi_6, pwi_7, upi_7, pwi_8, upi_8, pwi_11, upi_11, pw_12, up_12, pw_14, up_14, pw_15, up_15, pw_16, up_16, pw_18, up_18, pw_24, up_24, pw_25, up_25, pw_26, up_26, pw_29, up_29, pw_30, up_30, pw_31, up_31, pwi_13, upi_13, pwi_17, upi_17, pwi_19, upi_19, pwi_20, upi_20, pwi_21, upi_21, pwi_22, upi_22, pwi_23, upi_23, pwi_32, upi_32, pwi_33, upi_33, eC_5, eC_6, eC_13, eC_17, eC_19, eC_20, eC_21, eC_22, eC_23, eC_32, eC_33, eC_p5, eC_p6, eC_p13, eC_p17, eC_p19, eC_p20, eC_p21, eC_p22, eC_p23, eC_p32, eC_p33, s_T, s_F, s_bd, s_cl, s_rd, s_wr, s_ite, z_ite, z_neg, z_add, z_sub, z_mul, z_le, z_lt, z_eq, eC_at, eC_7, eC_8, eC_9, eC_10, eC_11, eC_p7, eC_p8, eC_p9, eC_p10, eC_p11, eC_up, ud_same, ud_ne, if_pos, if_neg, z_0, z_1, z_2, z_3, z_4, z_5, z_6, z_7, z_8, z_9, z_10, z_11, z_12, z_13, z_14, z_15, z_16, z_17, z_18, z_19, z_20, z_21, z_22, z_23, z_24, z_25, z_26, z_27, z_28, z_29, z_30, z_31, z_32, z_33, z_34, z_35, z_36, z_37, z_38, z_39, z_40, z_41, z_42, z_43, z_44, z_45, z_46, z_47, z_48, z_49, z_50, z_51, z_52, z_53, z_54, z_55, z_56, z_57, z_58, z_59, z_60, z_61, z_62, z_63, z_64, z_65, z_66, z_67, z_68, z_69, z_70, z_71, z_72, z_73, z_74, z_75, z_76, z_77, z_78, z_79, z_80, z_81, z_82, z_83, z_84, z_85, z_86, z_87, z_88, z_89, z_90, z_91, z_92, z_93, z_94, z_95, z_96, z_97, z_98, z_99, z_100, z_101, z_102, z_103, z_104, z_105, z_106, z_107, z_108, z_109, z_110, z_111, z_112, z_113, z_114, z_115, z_116, z_117, z_118, z_119, z_120, z_121, z_122, z_123, z_124, z_125, z_126, z_127, z_199, z_200, z_360, z_410, z_1000, z_1023, z_1024, z_1219, z_9999, z_10240, z_65537]
    congr 2
    split
    · rw [if_pos (by omega)]
    · rw [if_neg (by omega)]
  · simp (disch := omega) only [pw_0, up_0, pw_1, up_1, pw_2, up_2, pw_3, up_3, pw_4, up_4, pw_9, up_9, pw_10, up_10, pwi_5, upi_5, pwi_6, upi_6, pwi_7, upi_7, pwi_8, upi_8, pwi_11, upi_11, pw_12, up_12, pw_14, up_14, pw_15, up_15, pw_16, up_16, pw_18, up_18, pw_24, up_24, pw_25, up_25, pw_26, up_26, pw_29, up_29, pw_30, up_30, pw_31, up_31, pwi_13, upi_13, pwi_17, upi_17, pwi_19, upi_19, pwi_20, upi_20, pwi_21, upi_21, pwi_22, upi_22, pwi_23, upi_23, pwi_32, upi_32, pwi_33, upi_33, eC_5, eC_6, eC_13, eC_17, eC_19, eC_20, eC_21, eC_22, eC_23, eC_32, eC_33, eC_p5, eC_p6, eC_p13, eC_p17, eC_p19, eC_p20, eC_p21, eC_p22, eC_p23, eC_p32, eC_p33, s_T, s_F, s_bd, s_cl, s_rd, s_wr, s_ite, z_ite, z_neg, z_add, z_sub, z_mul, z_le, z_lt, z_eq, eC_at, eC_7, eC_8, eC_9, eC_10, eC_11, eC_p7, eC_p8, eC_p9, eC_p10, eC_p11, eC_up, ud_same, ud_ne, if_pos, if_neg, z_0, z_1, z_2, z_3, z_4, z_5, z_6, z_7, z_8, z_9, z_10, z_11, z_12, z_13, z_14, z_15, z_16, z_17, z_18, z_19, z_20, z_21, z_22, z_23, z_24, z_25, z_26, z_27, z_28, z_29, z_30, z_31, z_32, z_33, z_34, z_35, z_36, z_37, z_38, z_39, z_40, z_41, z_42, z_43, z_44, z_45, z_46, z_47, z_48, z_49, z_50, z_51, z_52, z_53, z_54, z_55, z_56, z_57, z_58, z_59, z_60, z_61, z_62, z_63, z_64, z_65, z_66, z_67, z_68, z_69, z_70, z_71, z_72, z_73, z_74, z_75, z_76, z_77, z_78, z_79, z_80, z_81, z_82, z_83, z_84, z_85, z_86, z_87, z_88, z_89, z_90, z_91, z_92, z_93, z_94, z_95, z_96, z_97, z_98, z_99, z_100, z_101, z_102, z_103, z_104, z_105, z_106, z_107, z_108, z_109, z_110, z_111, z_112, z_113, z_114, z_115, z_116, z_117, z_118, z_119, z_120, z_121, z_122, z_123, z_124, z_125, z_126, z_127, z_199, z_200, z_360, z_410, z_1000, z_1023, z_1024, z_1219, z_9999, z_10240, z_65537]
    congr 2
    split
    · rw [if_pos (by omega)]
    · rw [if_neg (by omega)]
theorem m_fill (m d : Nat → Int → Int) (τ : qL) (w v : Int) : f_X7_fill (eC (pw m d)) τ (zI w) (zI v) = some (eC (pw m (ud (ud d 99 10 w) 99 9 v))) := by
  unfold f_X7_fill
  simp (disch := omega) only [pw_0, up_0, pw_1, up_1, pw_2, up_2, pw_3, up_3, pw_4, up_4, pw_9, up_9, pw_10, up_10, pwi_5, upi_5, pwi_6, upi_6, pwi_7, upi_7, pwi_8, upi_8, pwi_11, upi_11, pw_12, up_12, pw_14, up_14, pw_15, up_15, pw_16, up_16, pw_18, up_18, pw_24, up_24, pw_25, up_25, pw_26, up_26, pw_29, up_29, pw_30, up_30, pw_31, up_31, pwi_13, upi_13, pwi_17, upi_17, pwi_19, upi_19, pwi_20, upi_20, pwi_21, upi_21, pwi_22, upi_22, pwi_23, upi_23, pwi_32, upi_32, pwi_33, upi_33, eC_5, eC_6, eC_13, eC_17, eC_19, eC_20, eC_21, eC_22, eC_23, eC_32, eC_33, eC_p5, eC_p6, eC_p13, eC_p17, eC_p19, eC_p20, eC_p21, eC_p22, eC_p23, eC_p32, eC_p33, s_T, s_F, s_bd, s_cl, s_rd, s_wr, s_ite, z_ite, z_neg, z_add, z_sub, z_mul, z_le, z_lt, z_eq, eC_at, eC_7, eC_8, eC_9, eC_10, eC_11, eC_p7, eC_p8, eC_p9, eC_p10, eC_p11, eC_up, ud_same, ud_ne, if_pos, if_neg, z_0, z_1, z_2, z_3, z_4, z_5, z_6, z_7, z_8, z_9, z_10, z_11, z_12, z_13, z_14, z_15, z_16, z_17, z_18, z_19, z_20, z_21, z_22, z_23, z_24, z_25, z_26, z_27, z_28, z_29, z_30, z_31, z_32, z_33, z_34, z_35, z_36, z_37, z_38, z_39, z_40, z_41, z_42, z_43, z_44, z_45, z_46, z_47, z_48, z_49, z_50, z_51, z_52, z_53, z_54, z_55, z_56, z_57, z_58, z_59, z_60, z_61, z_62, z_63, z_64, z_65, z_66, z_67, z_68, z_69, z_70, z_71, z_72, z_73, z_74, z_75, z_76, z_77, z_78, z_79, z_80, z_81, z_82, z_83, z_84, z_85, z_86, z_87, z_88, z_89, z_90, z_91, z_92, z_93, z_94, z_95, z_96, z_97, z_98, z_99, z_100, z_101, z_102, z_103, z_104, z_105, z_106, z_107, z_108, z_109, z_110, z_111, z_112, z_113, z_114, z_115, z_116, z_117, z_118, z_119, z_120, z_121, z_122, z_123, z_124, z_125, z_126, z_127, z_199, z_200, z_360, z_410, z_1000, z_1023, z_1024, z_1219, z_9999, z_10240, z_65537]
theorem m_carry (m d : Nat → Int → Int) (τ : qL) (hd : okd d) {w : Int} (h0 : 0 ≤ w) (h1 : w ≤ 10) : f_X7_carry (eC (pw m d)) τ (zI w) = some (eC (pw m (ud (ud d 99 9 (if 0 < d 99 9 - d 0 (d 99 8 * 11 + w) then d 99 9 - d 0 (d 99 8 * 11 + w) else 0)) 99 8 w))) := by
  unfold f_X7_carry
  have a1 := okd_p hd
  have a2 := okd_h hd
  have a4 := okd_0 hd (d 99 8 * 11 + w)
  have a5 := okd_0 hd (11 * d 99 8 + w)
  simp (disch := omega) only [m_cooled, pw_0, up_0, pw_1, up_1, pw_2, up_2, pw_3, up_3, pw_4, up_4, pw_9, up_9, pw_10, up_10, pwi_5, upi_5, pwi_6, upi_6, pwi_7, upi_7, pwi_8, upi_8, pwi_11, upi_11, pw_12, up_12, pw_14, up_14, pw_15, up_15, pw_16, up_16, pw_18, up_18, pw_24, up_24, pw_25, up_25, pw_26, up_26, pw_29, up_29, pw_30, up_30, pw_31, up_31, pwi_13, upi_13, pwi_17, upi_17, pwi_19, upi_19, pwi_20, upi_20, pwi_21, upi_21, pwi_22, upi_22, pwi_23, upi_23, pwi_32, upi_32, pwi_33, upi_33, eC_5, eC_6, eC_13, eC_17, eC_19, eC_20, eC_21, eC_22, eC_23, eC_32, eC_33, eC_p5, eC_p6, eC_p13, eC_p17, eC_p19, eC_p20, eC_p21, eC_p22, eC_p23, eC_p32, eC_p33, s_T, s_F, s_bd, s_cl, s_rd, s_wr, s_ite, z_ite, z_neg, z_add, z_sub, z_mul, z_le, z_lt, z_eq, eC_at, eC_7, eC_8, eC_9, eC_10, eC_11, eC_p7, eC_p8, eC_p9, eC_p10, eC_p11, eC_up, ud_same, ud_ne, if_pos, if_neg, z_0, z_1, z_2, z_3, z_4, z_5, z_6, z_7, z_8, z_9, z_10, z_11, z_12, z_13, z_14, z_15, z_16, z_17, z_18, z_19, z_20, z_21, z_22, z_23, z_24, z_25, z_26, z_27, z_28, z_29, z_30, z_31, z_32, z_33, z_34, z_35, z_36, z_37, z_38, z_39, z_40, z_41, z_42, z_43, z_44, z_45, z_46, z_47, z_48, z_49, z_50, z_51, z_52, z_53, z_54, z_55, z_56, z_57, z_58, z_59, z_60, z_61, z_62, z_63, z_64, z_65, z_66, z_67, z_68, z_69, z_70, z_71, z_72, z_73, z_74, z_75, z_76, z_77, z_78, z_79, z_80, z_81, z_82, z_83, z_84, z_85, z_86, z_87, z_88, z_89, z_90, z_91, z_92, z_93, z_94, z_95, z_96, z_97, z_98, z_99, z_100, z_101, z_102, z_103, z_104, z_105, z_106, z_107, z_108, z_109, z_110, z_111, z_112, z_113, z_114, z_115, z_116, z_117, z_118, z_119, z_120, z_121, z_122, z_123, z_124, z_125, z_126, z_127, z_199, z_200, z_360, z_410, z_1000, z_1023, z_1024, z_1219, z_9999, z_10240, z_65537]
  rw [show 11 * d 99 8 + w = d 99 8 * 11 + w by omega]
theorem m_put (m d : Nat → Int → Int) (τ : qL) (hd : okd d) (h1 : d 99 8 ≤ 9) : f_X7_put (eC (pw m d)) τ = some (eC (pw m (bed d (d 99 8)))) := by
  unfold f_X7_put bed
  have a0 := okd_p hd
  have a1 := okd_h hd
  have a2 := okd_1 hd (d 99 8)
  have a3 := okd_2 hd (d 99 8)
  by_cases e : d 2 (d 99 8) = 0
  · by_cases e2 : 9 * d 1 (d 99 8) < d 99 9
    · simp (disch := omega) only [m_cooled, pw_0, up_0, pw_1, up_1, pw_2, up_2, pw_3, up_3, pw_4, up_4, pw_9, up_9, pw_10, up_10, pwi_5, upi_5, pwi_6, upi_6, pwi_7, upi_7, pwi_8, upi_8, pwi_11, upi_11, pw_12, up_12, pw_14, up_14, pw_15, up_15, pw_16, up_16, pw_18, up_18, pw_24, up_24, pw_25, up_25, pw_26, up_26, pw_29, up_29, pw_30, up_30, pw_31, up_31, pwi_13, upi_13, pwi_17, upi_17, pwi_19, upi_19, pwi_20, upi_20, pwi_21, upi_21, pwi_22, upi_22, pwi_23, upi_23, pwi_32, upi_32, pwi_33, upi_33, eC_5, eC_6, eC_13, eC_17, eC_19, eC_20, eC_21, eC_22, eC_23, eC_32, eC_33, eC_p5, eC_p6, eC_p13, eC_p17, eC_p19, eC_p20, eC_p21, eC_p22, eC_p23, eC_p32, eC_p33, s_T, s_F, s_bd, s_cl, s_rd, s_wr, s_ite, z_ite, z_neg, z_add, z_sub, z_mul, z_le, z_lt, z_eq, eC_at, eC_7, eC_8, eC_9, eC_10, eC_11, eC_p7, eC_p8, eC_p9, eC_p10, eC_p11, eC_up, ud_same, ud_ne, if_pos, if_neg, z_0, z_1, z_2, z_3, z_4, z_5, z_6, z_7, z_8, z_9, z_10, z_11, z_12, z_13, z_14, z_15, z_16, z_17, z_18, z_19, z_20, z_21, z_22, z_23, z_24, z_25, z_26, z_27, z_28, z_29, z_30, z_31, z_32, z_33, z_34, z_35, z_36, z_37, z_38, z_39, z_40, z_41, z_42, z_43, z_44, z_45, z_46, z_47, z_48, z_49, z_50, z_51, z_52, z_53, z_54, z_55, z_56, z_57, z_58, z_59, z_60, z_61, z_62, z_63, z_64, z_65, z_66, z_67, z_68, z_69, z_70, z_71, z_72, z_73, z_74, z_75, z_76, z_77, z_78, z_79, z_80, z_81, z_82, z_83, z_84, z_85, z_86, z_87, z_88, z_89, z_90, z_91, z_92, z_93, z_94, z_95, z_96, z_97, z_98, z_99, z_100, z_101, z_102, z_103, z_104, z_105, z_106, z_107, z_108, z_109, z_110, z_111, z_112, z_113, z_114, z_115, z_116, z_117, z_118, z_119, z_120, z_121, z_122, z_123, z_124, z_125, z_126, z_127, z_199, z_200, z_360, z_410, z_1000, z_1023, z_1024, z_1219, z_9999, z_10240, z_65537]
    · have e5 : ∀ v, ud (ud d 1 (d 99 8) v) 2 (d 99 8) 0 = ud d 1 (d 99 8) v := by
        intro v
        funext a b
        unfold ud
        split
        · next z => obtain ⟨rfl, rfl⟩ := z; rw [if_neg (by omega), e]
        · rfl
      rw [if_pos e, if_neg e2, e5]
      by_cases e3 : d 1 (d 99 8) + 1 < 9
      · simp (disch := omega) only [m_cooled, pw_0, up_0, pw_1, up_1, pw_2, up_2, pw_3, up_3, pw_4, up_4, pw_9, up_9, pw_10, up_10, pwi_5, upi_5, pwi_6, upi_6, pwi_7, upi_7, pwi_8, upi_8, pwi_11, upi_11, pw_12, up_12, pw_14, up_14, pw_15, up_15, pw_16, up_16, pw_18, up_18, pw_24, up_24, pw_25, up_25, pw_26, up_26, pw_29, up_29, pw_30, up_30, pw_31, up_31, pwi_13, upi_13, pwi_17, upi_17, pwi_19, upi_19, pwi_20, upi_20, pwi_21, upi_21, pwi_22, upi_22, pwi_23, upi_23, pwi_32, upi_32, pwi_33, upi_33, eC_5, eC_6, eC_13, eC_17, eC_19, eC_20, eC_21, eC_22, eC_23, eC_32, eC_33, eC_p5, eC_p6, eC_p13, eC_p17, eC_p19, eC_p20, eC_p21, eC_p22, eC_p23, eC_p32, eC_p33, s_T, s_F, s_bd, s_cl, s_rd, s_wr, s_ite, z_ite, z_neg, z_add, z_sub, z_mul, z_le, z_lt, z_eq, eC_at, eC_7, eC_8, eC_9, eC_10, eC_11, eC_p7, eC_p8, eC_p9, eC_p10, eC_p11, eC_up, ud_same, ud_ne, if_pos, if_neg, z_0, z_1, z_2, z_3, z_4, z_5, z_6, z_7, z_8, z_9, z_10, z_11, z_12, z_13, z_14, z_15, z_16, z_17, z_18, z_19, z_20, z_21, z_22, z_23, z_24, z_25, z_26, z_27, z_28, z_29, z_30, z_31, z_32, z_33, z_34, z_35, z_36, z_37, z_38, z_39, z_40, z_41, z_42, z_43, z_44, z_45, z_46, z_47, z_48, z_49, z_50, z_51, z_52, z_53, z_54, z_55, z_56, z_57, z_58, z_59, z_60, z_61, z_62, z_63, z_64, z_65, z_66, z_67, z_68, z_69, z_70, z_71, z_72, z_73, z_74, z_75, z_76, z_77, z_78, z_79, z_80, z_81, z_82, z_83, z_84, z_85, z_86, z_87, z_88, z_89, z_90, z_91, z_92, z_93, z_94, z_95, z_96, z_97, z_98, z_99, z_100, z_101, z_102, z_103, z_104, z_105, z_106, z_107, z_108, z_109, z_110, z_111, z_112, z_113, z_114, z_115, z_116, z_117, z_118, z_119, z_120, z_121, z_122, z_123, z_124, z_125, z_126, z_127, z_199, z_200, z_360, z_410, z_1000, z_1023, z_1024, z_1219, z_9999, z_10240, z_65537]
      · by_cases e4 : 9 ≤ d 1 (d 99 8)
        · simp (disch := omega) only [m_cooled, pw_0, up_0, pw_1, up_1, pw_2, up_2, pw_3, up_3, pw_4, up_4, pw_9, up_9, pw_10, up_10, pwi_5, upi_5, pwi_6, upi_6, pwi_7, upi_7, pwi_8, upi_8, pwi_11, upi_11, pw_12, up_12, pw_14, up_14, pw_15, up_15, pw_16, up_16, pw_18, up_18, pw_24, up_24, pw_25, up_25, pw_26, up_26, pw_29, up_29, pw_30, up_30, pw_31, up_31, pwi_13, upi_13, pwi_17, upi_17, pwi_19, upi_19, pwi_20, upi_20, pwi_21, upi_21, pwi_22, upi_22, pwi_23, upi_23, pwi_32, upi_32, pwi_33, upi_33, eC_5, eC_6, eC_13, eC_17, eC_19, eC_20, eC_21, eC_22, eC_23, eC_32, eC_33, eC_p5, eC_p6, eC_p13, eC_p17, eC_p19, eC_p20, eC_p21, eC_p22, eC_p23, eC_p32, eC_p33, s_T, s_F, s_bd, s_cl, s_rd, s_wr, s_ite, z_ite, z_neg, z_add, z_sub, z_mul, z_le, z_lt, z_eq, eC_at, eC_7, eC_8, eC_9, eC_10, eC_11, eC_p7, eC_p8, eC_p9, eC_p10, eC_p11, eC_up, ud_same, ud_ne, if_pos, if_neg, z_0, z_1, z_2, z_3, z_4, z_5, z_6, z_7, z_8, z_9, z_10, z_11, z_12, z_13, z_14, z_15, z_16, z_17, z_18, z_19, z_20, z_21, z_22, z_23, z_24, z_25, z_26, z_27, z_28, z_29, z_30, z_31, z_32, z_33, z_34, z_35, z_36, z_37, z_38, z_39, z_40, z_41, z_42, z_43, z_44, z_45, z_46, z_47, z_48, z_49, z_50, z_51, z_52, z_53, z_54, z_55, z_56, z_57, z_58, z_59, z_60, z_61, z_62, z_63, z_64, z_65, z_66, z_67, z_68, z_69, z_70, z_71, z_72, z_73, z_74, z_75, z_76, z_77, z_78, z_79, z_80, z_81, z_82, z_83, z_84, z_85, z_86, z_87, z_88, z_89, z_90, z_91, z_92, z_93, z_94, z_95, z_96, z_97, z_98, z_99, z_100, z_101, z_102, z_103, z_104, z_105, z_106, z_107, z_108, z_109, z_110, z_111, z_112, z_113, z_114, z_115, z_116, z_117, z_118, z_119, z_120, z_121, z_122, z_123, z_124, z_125, z_126, z_127, z_199, z_200, z_360, z_410, z_1000, z_1023, z_1024, z_1219, z_9999, z_10240, z_65537]
        · simp (disch := omega) only [m_cooled, pw_0, up_0, pw_1, up_1, pw_2, up_2, pw_3, up_3, pw_4, up_4, pw_9, up_9, pw_10, up_10, pwi_5, upi_5, pwi_6, upi_6, pwi_7, upi_7, pwi_8, upi_8, pwi_11, upi_11, pw_12, up_12, pw_14, up_14, pw_15, up_15, pw_16, up_16, pw_18, up_18, pw_24, up_24, pw_25, up_25, pw_26, up_26, pw_29, up_29, pw_30, up_30, pw_31, up_31, pwi_13, upi_13, pwi_17, upi_17, pwi_19, upi_19, pwi_20, upi_20, pwi_21, upi_21, pwi_22, upi_22, pwi_23, upi_23, pwi_32, upi_32, pwi_33, upi_33, eC_5, eC_6, eC_13, eC_17, eC_19, eC_20, eC_21, eC_22, eC_23, eC_32, eC_33, eC_p5, eC_p6, eC_p13, eC_p17, eC_p19, eC_p20, eC_p21, eC_p22, eC_p23, eC_p32, eC_p33, s_T, s_F, s_bd, s_cl, s_rd, s_wr, s_ite, z_ite, z_neg, z_add, z_sub, z_mul, z_le, z_lt, z_eq, eC_at, eC_7, eC_8, eC_9, eC_10, eC_11, eC_p7, eC_p8, eC_p9, eC_p10, eC_p11, eC_up, ud_same, ud_ne, if_pos, if_neg, z_0, z_1, z_2, z_3, z_4, z_5, z_6, z_7, z_8, z_9, z_10, z_11, z_12, z_13, z_14, z_15, z_16, z_17, z_18, z_19, z_20, z_21, z_22, z_23, z_24, z_25, z_26, z_27, z_28, z_29, z_30, z_31, z_32, z_33, z_34, z_35, z_36, z_37, z_38, z_39, z_40, z_41, z_42, z_43, z_44, z_45, z_46, z_47, z_48, z_49, z_50, z_51, z_52, z_53, z_54, z_55, z_56, z_57, z_58, z_59, z_60, z_61, z_62, z_63, z_64, z_65, z_66, z_67, z_68, z_69, z_70, z_71, z_72, z_73, z_74, z_75, z_76, z_77, z_78, z_79, z_80, z_81, z_82, z_83, z_84, z_85, z_86, z_87, z_88, z_89, z_90, z_91, z_92, z_93, z_94, z_95, z_96, z_97, z_98, z_99, z_100, z_101, z_102, z_103, z_104, z_105, z_106, z_107, z_108, z_109, z_110, z_111, z_112, z_113, z_114, z_115, z_116, z_117, z_118, z_119, z_120, z_121, z_122, z_123, z_124, z_125, z_126, z_127, z_199, z_200, z_360, z_410, z_1000, z_1023, z_1024, z_1219, z_9999, z_10240, z_65537]
          rw [show d 1 (d 99 8) + 1 = 9 by omega]
  · simp (disch := omega) only [m_cooled, pw_0, up_0, pw_1, up_1, pw_2, up_2, pw_3, up_3, pw_4, up_4, pw_9, up_9, pw_10, up_10, pwi_5, upi_5, pwi_6, upi_6, pwi_7, upi_7, pwi_8, upi_8, pwi_11, upi_11, pw_12, up_12, pw_14, up_14, pw_15, up_15, pw_16, up_16, pw_18, up_18, pw_24, up_24, pw_25, up_25, pw_26, up_26, pw_29, up_29, pw_30, up_30, pw_31, up_31, pwi_13, upi_13, pwi_17, upi_17, pwi_19, upi_19, pwi_20, upi_20, pwi_21, upi_21, pwi_22, upi_22, pwi_23, upi_23, pwi_32, upi_32, pwi_33, upi_33, eC_5, eC_6, eC_13, eC_17, eC_19, eC_20, eC_21, eC_22, eC_23, eC_32, eC_33, eC_p5, eC_p6, eC_p13, eC_p17, eC_p19, eC_p20, eC_p21, eC_p22, eC_p23, eC_p32, eC_p33, s_T, s_F, s_bd, s_cl, s_rd, s_wr, s_ite, z_ite, z_neg, z_add, z_sub, z_mul, z_le, z_lt, z_eq, eC_at, eC_7, eC_8, eC_9, eC_10, eC_11, eC_p7, eC_p8, eC_p9, eC_p10, eC_p11, eC_up, ud_same, ud_ne, if_pos, if_neg, z_0, z_1, z_2, z_3, z_4, z_5, z_6, z_7, z_8, z_9, z_10, z_11, z_12, z_13, z_14, z_15, z_16, z_17, z_18, z_19, z_20, z_21, z_22, z_23, z_24, z_25, z_26, z_27, z_28, z_29, z_30, z_31, z_32, z_33, z_34, z_35, z_36, z_37, z_38, z_39, z_40, z_41, z_42, z_43, z_44, z_45, z_46, z_47, z_48, z_49, z_50, z_51, z_52, z_53, z_54, z_55, z_56, z_57, z_58, z_59, z_60, z_61, z_62, z_63, z_64, z_65, z_66, z_67, z_68, z_69, z_70, z_71, z_72, z_73, z_74, z_75, z_76, z_77, z_78, z_79, z_80, z_81, z_82, z_83, z_84, z_85, z_86, z_87, z_88, z_89, z_90, z_91, z_92, z_93, z_94, z_95, z_96, z_97, z_98, z_99, z_100, z_101, z_102, z_103, z_104, z_105, z_106, z_107, z_108, z_109, z_110, z_111, z_112, z_113, z_114, z_115, z_116, z_117, z_118, z_119, z_120, z_121, z_122, z_123, z_124, z_125, z_126, z_127, z_199, z_200, z_360, z_410, z_1000, z_1023, z_1024, z_1219, z_9999, z_10240, z_65537]
theorem m_stir (m d : Nat → Int → Int) (τ : qL) (hd : okd d) : f_X7_stir (eC (pw m d)) τ = some (eC (pw m (ud (ud d 99 9 (if d 99 9 + 10 < 99 then d 99 9 + 10 else 99)) 99 10 (d 4 (d 99 10))))) := by
  unfold f_X7_stir
  have a1 := okd_h hd
  have a2 := okd_t hd
  by_cases e : d 99 9 + 10 < 99
  · simp (disch := omega) only [pw_0, up_0, pw_1, up_1, pw_2, up_2, pw_3, up_3, pw_4, up_4, pw_9, up_9, pw_10, up_10, pwi_5, upi_5, pwi_6, upi_6, pwi_7, upi_7, pwi_8, upi_8, pwi_11, upi_11, pw_12, up_12, pw_14, up_14, pw_15, up_15, pw_16, up_16, pw_18, up_18, pw_24, up_24, pw_25, up_25, pw_26, up_26, pw_29, up_29, pw_30, up_30, pw_31, up_31, pwi_13, upi_13, pwi_17, upi_17, pwi_19, upi_19, pwi_20, upi_20, pwi_21, upi_21, pwi_22, upi_22, pwi_23, upi_23, pwi_32, upi_32, pwi_33, upi_33, eC_5, eC_6, eC_13, eC_17, eC_19, eC_20, eC_21, eC_22, eC_23, eC_32, eC_33, eC_p5, eC_p6, eC_p13, eC_p17, eC_p19, eC_p20, eC_p21, eC_p22, eC_p23, eC_p32, eC_p33, s_T, s_F, s_bd, s_cl, s_rd, s_wr, s_ite, z_ite, z_neg, z_add, z_sub, z_mul, z_le, z_lt, z_eq, eC_at, eC_7, eC_8, eC_9, eC_10, eC_11, eC_p7, eC_p8, eC_p9, eC_p10, eC_p11, eC_up, ud_same, ud_ne, if_pos, if_neg, z_0, z_1, z_2, z_3, z_4, z_5, z_6, z_7, z_8, z_9, z_10, z_11, z_12, z_13, z_14, z_15, z_16, z_17, z_18, z_19, z_20, z_21, z_22, z_23, z_24, z_25, z_26, z_27, z_28, z_29, z_30, z_31, z_32, z_33, z_34, z_35, z_36, z_37, z_38, z_39, z_40, z_41, z_42, z_43, z_44, z_45, z_46, z_47, z_48, z_49, z_50, z_51, z_52, z_53, z_54, z_55, z_56, z_57, z_58, z_59, z_60, z_61, z_62, z_63, z_64, z_65, z_66, z_67, z_68, z_69, z_70, z_71, z_72, z_73, z_74, z_75, z_76, z_77, z_78, z_79, z_80, z_81, z_82, z_83, z_84, z_85, z_86, z_87, z_88, z_89, z_90, z_91, z_92, z_93, z_94, z_95, z_96, z_97, z_98, z_99, z_100, z_101, z_102, z_103, z_104, z_105, z_106, z_107, z_108, z_109, z_110, z_111, z_112, z_113, z_114, z_115, z_116, z_117, z_118, z_119, z_120, z_121, z_122, z_123, z_124, z_125, z_126, z_127, z_199, z_200, z_360, z_410, z_1000, z_1023, z_1024, z_1219, z_9999, z_10240, z_65537]
  · by_cases e2 : d 99 9 + 10 ≤ 99
    · simp (disch := omega) only [pw_0, up_0, pw_1, up_1, pw_2, up_2, pw_3, up_3, pw_4, up_4, pw_9, up_9, pw_10, up_10, pwi_5, upi_5, pwi_6, upi_6, pwi_7, upi_7, pwi_8, upi_8, pwi_11, upi_11, pw_12, up_12, pw_14, up_14, pw_15, up_15, pw_16, up_16, pw_18, up_18, pw_24, up_24, pw_25, up_25, pw_26, up_26, pw_29, up_29, pw_30, up_30, pw_31, up_31, pwi_13, upi_13, pwi_17, upi_17, pwi_19, upi_19, pwi_20, upi_20, pwi_21, upi_21, pwi_22, upi_22, pwi_23, upi_23, pwi_32, upi_32, pwi_33, upi_33, eC_5, eC_6, eC_13, eC_17, eC_19, eC_20, eC_21, eC_22, eC_23, eC_32, eC_33, eC_p5, eC_p6, eC_p13, eC_p17, eC_p19, eC_p20, eC_p21, eC_p22, eC_p23, eC_p32, eC_p33, s_T, s_F, s_bd, s_cl, s_rd, s_wr, s_ite, z_ite, z_neg, z_add, z_sub, z_mul, z_le, z_lt, z_eq, eC_at, eC_7, eC_8, eC_9, eC_10, eC_11, eC_p7, eC_p8, eC_p9, eC_p10, eC_p11, eC_up, ud_same, ud_ne, if_pos, if_neg, z_0, z_1, z_2, z_3, z_4, z_5, z_6, z_7, z_8, z_9, z_10, z_11, z_12, z_13, z_14, z_15, z_16, z_17, z_18, z_19, z_20, z_21, z_22, z_23, z_24, z_25, z_26, z_27, z_28, z_29, z_30, z_31, z_32, z_33, z_34, z_35, z_36, z_37, z_38, z_39, z_40, z_41, z_42, z_43, z_44, z_45, z_46, z_47, z_48, z_49, z_50, z_51, z_52, z_53, z_54, z_55, z_56, z_57, z_58, z_59, z_60, z_61, z_62, z_63, z_64, z_65, z_66, z_67, z_68, z_69, z_70, z_71, z_72, z_73, z_74, z_75, z_76, z_77, z_78, z_79, z_80, z_81, z_82, z_83, z_84, z_85, z_86, z_87, z_88, z_89, z_90, z_91, z_92, z_93, z_94, z_95, z_96, z_97, z_98, z_99, z_100, z_101, z_102, z_103, z_104, z_105, z_106, z_107, z_108, z_109, z_110, z_111, z_112, z_113, z_114, z_115, z_116, z_117, z_118, z_119, z_120, z_121, z_122, z_123, z_124, z_125, z_126, z_127, z_199, z_200, z_360, z_410, z_1000, z_1023, z_1024, z_1219, z_9999, z_10240, z_65537]
      rw [show d 99 9 + 10 = 99 by omega]
    · simp (disch := omega) only [pw_0, up_0, pw_1, up_1, pw_2, up_2, pw_3, up_3, pw_4, up_4, pw_9, up_9, pw_10, up_10, pwi_5, upi_5, pwi_6, upi_6, pwi_7, upi_7, pwi_8, upi_8, pwi_11, upi_11, pw_12, up_12, pw_14, up_14, pw_15, up_15, pw_16, up_16, pw_18, up_18, pw_24, up_24, pw_25, up_25, pw_26, up_26, pw_29, up_29, pw_30, up_30, pw_31, up_31, pwi_13, upi_13, pwi_17, upi_17, pwi_19, upi_19, pwi_20, upi_20, pwi_21, upi_21, pwi_22, upi_22, pwi_23, upi_23, pwi_32, upi_32, pwi_33, upi_33, eC_5, eC_6, eC_13, eC_17, eC_19, eC_20, eC_21, eC_22, eC_23, eC_32, eC_33, eC_p5, eC_p6, eC_p13, eC_p17, eC_p19, eC_p20, eC_p21, eC_p22, eC_p23, eC_p32, eC_p33, s_T, s_F, s_bd, s_cl, s_rd, s_wr, s_ite, z_ite, z_neg, z_add, z_sub, z_mul, z_le, z_lt, z_eq, eC_at, eC_7, eC_8, eC_9, eC_10, eC_11, eC_p7, eC_p8, eC_p9, eC_p10, eC_p11, eC_up, ud_same, ud_ne, if_pos, if_neg, z_0, z_1, z_2, z_3, z_4, z_5, z_6, z_7, z_8, z_9, z_10, z_11, z_12, z_13, z_14, z_15, z_16, z_17, z_18, z_19, z_20, z_21, z_22, z_23, z_24, z_25, z_26, z_27, z_28, z_29, z_30, z_31, z_32, z_33, z_34, z_35, z_36, z_37, z_38, z_39, z_40, z_41, z_42, z_43, z_44, z_45, z_46, z_47, z_48, z_49, z_50, z_51, z_52, z_53, z_54, z_55, z_56, z_57, z_58, z_59, z_60, z_61, z_62, z_63, z_64, z_65, z_66, z_67, z_68, z_69, z_70, z_71, z_72, z_73, z_74, z_75, z_76, z_77, z_78, z_79, z_80, z_81, z_82, z_83, z_84, z_85, z_86, z_87, z_88, z_89, z_90, z_91, z_92, z_93, z_94, z_95, z_96, z_97, z_98, z_99, z_100, z_101, z_102, z_103, z_104, z_105, z_106, z_107, z_108, z_109, z_110, z_111, z_112, z_113, z_114, z_115, z_116, z_117, z_118, z_119, z_120, z_121, z_122, z_123, z_124, z_125, z_126, z_127, z_199, z_200, z_360, z_410, z_1000, z_1023, z_1024, z_1219, z_9999, z_10240, z_65537]
end
section
/-! the reference: a morning, what happens, what is kept and put back -/
theorem md_ud (d : Nat → Int → Int) (i v : Int) : ud (md d) 99 i v = md (ud d 99 i v) := by
  funext a b
  simp only [ud, md]
  by_cases h : a = 99 ∧ b = i
  · obtain ⟨rfl, rfl⟩ := h
    rw [if_pos ⟨rfl, rfl⟩, if_neg (by omega), if_pos ⟨rfl, rfl⟩]
  · rw [if_neg h]
    by_cases h2 : a = 2 ∧ 0 ≤ b ∧ b < 10
    · rw [if_pos h2, if_pos h2]
    · rw [if_neg h2, if_neg h2, if_neg h]
theorem md_99 (d : Nat → Int → Int) (i : Int) : md d 99 i = d 99 i := by unfold md; rw [if_neg (by omega)]
def mdf (h : Int) (d : Nat → Int → Int) : Nat → Int → Int := fun k i => if k = 2 ∧ h ≤ i ∧ i < 10 then 0 else d k i
theorem mdf_s {h : Int} (h0 : h < 10) (d : Nat → Int → Int) : mdf (h + 1) (ud d 2 h 0) = mdf h d := by
  funext a b
  unfold mdf ud
  by_cases e : a = 2
  · subst e
    by_cases e2 : b = h
    · subst e2
      rw [if_neg (by omega), if_pos ⟨rfl, rfl⟩, if_pos ⟨rfl, by omega, by omega⟩]
    · by_cases e3 : h ≤ b ∧ b < 10
      · rw [if_pos ⟨rfl, by omega, by omega⟩, if_pos ⟨rfl, e3⟩]
      · rw [if_neg (by omega), if_neg (by omega), if_neg (by omega)]
  · rw [if_neg (by omega), if_neg (by omega), if_neg (by omega)]
theorem mdf_e {h : Int} (h0 : 10 ≤ h) (d : Nat → Int → Int) : mdf h d = d := by
  funext a b
  unfold mdf
  rw [if_neg (by omega)]
theorem m_morning (m d : Nat → Int → Int) (τ : qL) (hd : okd d) : f_X7_morning (eC (pw m d)) τ = some (eC (pw m (md (ud (ud (ud d 99 8 10) 99 9 0) 99 11 (d 99 11 + 1))))) := by
  have e1 : q_pt (q_pt (eC (pw m d)) 5 (10 : Int32)) 6 (0 : Int32) = eC (pw m (ud (ud d 99 8 10) 99 9 0)) := by simp (disch := omega) only [pw_0, up_0, pw_1, up_1, pw_2, up_2, pw_3, up_3, pw_4, up_4, pw_9, up_9, pw_10, up_10, pwi_5, upi_5, pwi_6, upi_6, pwi_7, upi_7, pwi_8, upi_8, pwi_11, upi_11, pw_12, up_12, pw_14, up_14, pw_15, up_15, pw_16, up_16, pw_18, up_18, pw_24, up_24, pw_25, up_25, pw_26, up_26, pw_29, up_29, pw_30, up_30, pw_31, up_31, pwi_13, upi_13, pwi_17, upi_17, pwi_19, upi_19, pwi_20, upi_20, pwi_21, upi_21, pwi_22, upi_22, pwi_23, upi_23, pwi_32, upi_32, pwi_33, upi_33, eC_5, eC_6, eC_13, eC_17, eC_19, eC_20, eC_21, eC_22, eC_23, eC_32, eC_33, eC_p5, eC_p6, eC_p13, eC_p17, eC_p19, eC_p20, eC_p21, eC_p22, eC_p23, eC_p32, eC_p33, s_T, s_F, s_bd, s_cl, s_rd, s_wr, s_ite, z_ite, z_neg, z_add, z_sub, z_mul, z_le, z_lt, z_eq, eC_at, eC_7, eC_8, eC_9, eC_10, eC_11, eC_p7, eC_p8, eC_p9, eC_p10, eC_p11, eC_up, ud_same, ud_ne, if_pos, if_neg, z_0, z_1, z_2, z_3, z_4, z_5, z_6, z_7, z_8, z_9, z_10, z_11, z_12, z_13, z_14, z_15, z_16, z_17, z_18, z_19, z_20, z_21, z_22, z_23, z_24, z_25, z_26, z_27, z_28, z_29, z_30, z_31, z_32, z_33, z_34, z_35, z_36, z_37, z_38, z_39, z_40, z_41, z_42, z_43, z_44, z_45, z_46, z_47, z_48, z_49, z_50, z_51, z_52, z_53, z_54, z_55, z_56, z_57, z_58, z_59, z_60, z_61, z_62, z_63, z_64, z_65, z_66, z_67, z_68, z_69, z_70, z_71, z_72, z_73, z_74, z_75, z_76, z_77, z_78, z_79, z_80, z_81, z_82, z_83, z_84, z_85, z_86, z_87, z_88, z_89, z_90, z_91, z_92, z_93, z_94, z_95, z_96, z_97, z_98, z_99, z_100, z_101, z_102, z_103, z_104, z_105, z_106, z_107, z_108, z_109, z_110, z_111, z_112, z_113, z_114, z_115, z_116, z_117, z_118, z_119, z_120, z_121, z_122, z_123, z_124, z_125, z_126, z_127, z_199, z_200, z_360, z_410, z_1000, z_1023, z_1024, z_1219, z_9999, z_10240, z_65537]
  have key := lp_en (body := b_X7_morning_13) (k := fun z5 => q_bd (q_pt z5.2 8 ((z5.2 99 8) + 1)) fun σM_6 => some σM_6)
    (fun a : Int × (Nat → Int → Int) => (zI a.1, eC (pw m a.2))) (fun _ a => some (eC (pw m (ud (mdf a.1 a.2) 99 11 (mdf a.1 a.2 99 11 + 1)))))
    (fun N a => 0 ≤ a.1 ∧ a.1 ≤ 10 ∧ (10 - a.1).toNat < N) (fun a => by omega) (by
      rintro again N ⟨h, d⟩ ⟨h0, h1, h2⟩ ih
      dsimp only at h0 h1 h2 ⊢
      unfold b_X7_morning_13
      by_cases c : h < 10
      · simp (disch := omega) only [pw_0, up_0, pw_1, up_1, pw_2, up_2, pw_3, up_3, pw_4, up_4, pw_9, up_9, pw_10, up_10, pwi_5, upi_5, pwi_6, upi_6, pwi_7, upi_7, pwi_8, upi_8, pwi_11, upi_11, pw_12, up_12, pw_14, up_14, pw_15, up_15, pw_16, up_16, pw_18, up_18, pw_24, up_24, pw_25, up_25, pw_26, up_26, pw_29, up_29, pw_30, up_30, pw_31, up_31, pwi_13, upi_13, pwi_17, upi_17, pwi_19, upi_19, pwi_20, upi_20, pwi_21, upi_21, pwi_22, upi_22, pwi_23, upi_23, pwi_32, upi_32, pwi_33, upi_33, eC_5, eC_6, eC_13, eC_17, eC_19, eC_20, eC_21, eC_22, eC_23, eC_32, eC_33, eC_p5, eC_p6, eC_p13, eC_p17, eC_p19, eC_p20, eC_p21, eC_p22, eC_p23, eC_p32, eC_p33, s_T, s_F, s_bd, s_cl, s_rd, s_wr, s_ite, z_ite, z_neg, z_add, z_sub, z_mul, z_le, z_lt, z_eq, eC_at, eC_7, eC_8, eC_9, eC_10, eC_11, eC_p7, eC_p8, eC_p9, eC_p10, eC_p11, eC_up, ud_same, ud_ne, if_pos, if_neg, z_0, z_1, z_2, z_3, z_4, z_5, z_6, z_7, z_8, z_9, z_10, z_11, z_12, z_13, z_14, z_15, z_16, z_17, z_18, z_19, z_20, z_21, z_22, z_23, z_24, z_25, z_26, z_27, z_28, z_29, z_30, z_31, z_32, z_33, z_34, z_35, z_36, z_37, z_38, z_39, z_40, z_41, z_42, z_43, z_44, z_45, z_46, z_47, z_48, z_49, z_50, z_51, z_52, z_53, z_54, z_55, z_56, z_57, z_58, z_59, z_60, z_61, z_62, z_63, z_64, z_65, z_66, z_67, z_68, z_69, z_70, z_71, z_72, z_73, z_74, z_75, z_76, z_77, z_78, z_79, z_80, z_81, z_82, z_83, z_84, z_85, z_86, z_87, z_88, z_89, z_90, z_91, z_92, z_93, z_94, z_95, z_96, z_97, z_98, z_99, z_100, z_101, z_102, z_103, z_104, z_105, z_106, z_107, z_108, z_109, z_110, z_111, z_112, z_113, z_114, z_115, z_116, z_117, z_118, z_119, z_120, z_121, z_122, z_123, z_124, z_125, z_126, z_127, z_199, z_200, z_360, z_410, z_1000, z_1023, z_1024, z_1219, z_9999, z_10240, z_65537]
        have := ih (h + 1, ud d 2 h 0) ⟨by dsimp only; omega, by dsimp only; omega, by dsimp only; omega⟩
        dsimp only at this
        rw [mdf_s c] at this
        exact this
      · rw [mdf_e (by omega)]
        simp (disch := omega) only [pw_0, up_0, pw_1, up_1, pw_2, up_2, pw_3, up_3, pw_4, up_4, pw_9, up_9, pw_10, up_10, pwi_5, upi_5, pwi_6, upi_6, pwi_7, upi_7, pwi_8, upi_8, pwi_11, upi_11, pw_12, up_12, pw_14, up_14, pw_15, up_15, pw_16, up_16, pw_18, up_18, pw_24, up_24, pw_25, up_25, pw_26, up_26, pw_29, up_29, pw_30, up_30, pw_31, up_31, pwi_13, upi_13, pwi_17, upi_17, pwi_19, upi_19, pwi_20, upi_20, pwi_21, upi_21, pwi_22, upi_22, pwi_23, upi_23, pwi_32, upi_32, pwi_33, upi_33, eC_5, eC_6, eC_13, eC_17, eC_19, eC_20, eC_21, eC_22, eC_23, eC_32, eC_33, eC_p5, eC_p6, eC_p13, eC_p17, eC_p19, eC_p20, eC_p21, eC_p22, eC_p23, eC_p32, eC_p33, s_T, s_F, s_bd, s_cl, s_rd, s_wr, s_ite, z_ite, z_neg, z_add, z_sub, z_mul, z_le, z_lt, z_eq, eC_at, eC_7, eC_8, eC_9, eC_10, eC_11, eC_p7, eC_p8, eC_p9, eC_p10, eC_p11, eC_up, ud_same, ud_ne, if_pos, if_neg, z_0, z_1, z_2, z_3, z_4, z_5, z_6, z_7, z_8, z_9, z_10, z_11, z_12, z_13, z_14, z_15, z_16, z_17, z_18, z_19, z_20, z_21, z_22, z_23, z_24, z_25, z_26, z_27, z_28, z_29, z_30, z_31, z_32, z_33, z_34, z_35, z_36, z_37, z_38, z_39, z_40, z_41, z_42, z_43, z_44, z_45, z_46, z_47, z_48, z_49, z_50, z_51, z_52, z_53, z_54, z_55, z_56, z_57, z_58, z_59, z_60, z_61, z_62, z_63, z_64, z_65, z_66, z_67, z_68, z_69, z_70, z_71, z_72, z_73, z_74, z_75, z_76, z_77, z_78, z_79, z_80, z_81, z_82, z_83, z_84, z_85, z_86, z_87, z_88, z_89, z_90, z_91, z_92, z_93, z_94, z_95, z_96, z_97, z_98, z_99, z_100, z_101, z_102, z_103, z_104, z_105, z_106, z_107, z_108, z_109, z_110, z_111, z_112, z_113, z_114, z_115, z_116, z_117, z_118, z_119, z_120, z_121, z_122, z_123, z_124, z_125, z_126, z_127, z_199, z_200, z_360, z_410, z_1000, z_1023, z_1024, z_1219, z_9999, z_10240, z_65537]) 20000 (0, ud (ud d 99 8 10) 99 9 0) ⟨Int.le_refl 0, by show (0 : Int) ≤ 10; decide, by show ((10 : Int) - 0).toNat < 20000; decide⟩
  have e2 : ud (mdf 0 (ud (ud d 99 8 10) 99 9 0)) 99 11 (mdf 0 (ud (ud d 99 8 10) 99 9 0) 99 11 + 1) = md (ud (ud (ud d 99 8 10) 99 9 0) 99 11 (d 99 11 + 1)) := by
    have e : mdf 0 (ud (ud d 99 8 10) 99 9 0) = md (ud (ud d 99 8 10) 99 9 0) := rfl
    rw [e, md_ud, md_99]
    simp (disch := omega) only [pw_0, up_0, pw_1, up_1, pw_2, up_2, pw_3, up_3, pw_4, up_4, pw_9, up_9, pw_10, up_10, pwi_5, upi_5, pwi_6, upi_6, pwi_7, upi_7, pwi_8, upi_8, pwi_11, upi_11, pw_12, up_12, pw_14, up_14, pw_15, up_15, pw_16, up_16, pw_18, up_18, pw_24, up_24, pw_25, up_25, pw_26, up_26, pw_29, up_29, pw_30, up_30, pw_31, up_31, pwi_13, upi_13, pwi_17, upi_17, pwi_19, upi_19, pwi_20, upi_20, pwi_21, upi_21, pwi_22, upi_22, pwi_23, upi_23, pwi_32, upi_32, pwi_33, upi_33, eC_5, eC_6, eC_13, eC_17, eC_19, eC_20, eC_21, eC_22, eC_23, eC_32, eC_33, eC_p5, eC_p6, eC_p13, eC_p17, eC_p19, eC_p20, eC_p21, eC_p22, eC_p23, eC_p32, eC_p33, s_T, s_F, s_bd, s_cl, s_rd, s_wr, s_ite, z_ite, z_neg, z_add, z_sub, z_mul, z_le, z_lt, z_eq, eC_at, eC_7, eC_8, eC_9, eC_10, eC_11, eC_p7, eC_p8, eC_p9, eC_p10, eC_p11, eC_up, ud_same, ud_ne, if_pos, if_neg, z_0, z_1, z_2, z_3, z_4, z_5, z_6, z_7, z_8, z_9, z_10, z_11, z_12, z_13, z_14, z_15, z_16, z_17, z_18, z_19, z_20, z_21, z_22, z_23, z_24, z_25, z_26, z_27, z_28, z_29, z_30, z_31, z_32, z_33, z_34, z_35, z_36, z_37, z_38, z_39, z_40, z_41, z_42, z_43, z_44, z_45, z_46, z_47, z_48, z_49, z_50, z_51, z_52, z_53, z_54, z_55, z_56, z_57, z_58, z_59, z_60, z_61, z_62, z_63, z_64, z_65, z_66, z_67, z_68, z_69, z_70, z_71, z_72, z_73, z_74, z_75, z_76, z_77, z_78, z_79, z_80, z_81, z_82, z_83, z_84, z_85, z_86, z_87, z_88, z_89, z_90, z_91, z_92, z_93, z_94, z_95, z_96, z_97, z_98, z_99, z_100, z_101, z_102, z_103, z_104, z_105, z_106, z_107, z_108, z_109, z_110, z_111, z_112, z_113, z_114, z_115, z_116, z_117, z_118, z_119, z_120, z_121, z_122, z_123, z_124, z_125, z_126, z_127, z_199, z_200, z_360, z_410, z_1000, z_1023, z_1024, z_1219, z_9999, z_10240, z_65537]
  unfold f_X7_morning
  rw [s_bd, s_bd, e1, ← e2]
  exact key
theorem m_happen (m d : Nat → Int → Int) (τ : qL) (hd : okd d) {k w v : Int} (h1 : 0 ≤ k) (h2 : k ≤ 4) (hw : k = 1 → 0 ≤ w ∧ w ≤ 10) (hb : k = 2 → d 99 8 ≤ 9) : f_X7_happen (eC (pw m d)) τ (zI k) (zI w) (zI v) = some (eC (pw m (actd d k w v))) := by
  unfold f_X7_happen actd
  rcases (show k = 0 ∨ k = 1 ∨ k = 2 ∨ k = 3 ∨ k = 4 by omega) with e | e | e | e | e <;> subst e
  · simp (disch := omega) only [m_fill, pw_0, up_0, pw_1, up_1, pw_2, up_2, pw_3, up_3, pw_4, up_4, pw_9, up_9, pw_10, up_10, pwi_5, upi_5, pwi_6, upi_6, pwi_7, upi_7, pwi_8, upi_8, pwi_11, upi_11, pw_12, up_12, pw_14, up_14, pw_15, up_15, pw_16, up_16, pw_18, up_18, pw_24, up_24, pw_25, up_25, pw_26, up_26, pw_29, up_29, pw_30, up_30, pw_31, up_31, pwi_13, upi_13, pwi_17, upi_17, pwi_19, upi_19, pwi_20, upi_20, pwi_21, upi_21, pwi_22, upi_22, pwi_23, upi_23, pwi_32, upi_32, pwi_33, upi_33, eC_5, eC_6, eC_13, eC_17, eC_19, eC_20, eC_21, eC_22, eC_23, eC_32, eC_33, eC_p5, eC_p6, eC_p13, eC_p17, eC_p19, eC_p20, eC_p21, eC_p22, eC_p23, eC_p32, eC_p33, s_T, s_F, s_bd, s_cl, s_rd, s_wr, s_ite, z_ite, z_neg, z_add, z_sub, z_mul, z_le, z_lt, z_eq, eC_at, eC_7, eC_8, eC_9, eC_10, eC_11, eC_p7, eC_p8, eC_p9, eC_p10, eC_p11, eC_up, ud_same, ud_ne, if_pos, if_neg, z_0, z_1, z_2, z_3, z_4, z_5, z_6, z_7, z_8, z_9, z_10, z_11, z_12, z_13, z_14, z_15, z_16, z_17, z_18, z_19, z_20, z_21, z_22, z_23, z_24, z_25, z_26, z_27, z_28, z_29, z_30, z_31, z_32, z_33, z_34, z_35, z_36, z_37, z_38, z_39, z_40, z_41, z_42, z_43, z_44, z_45, z_46, z_47, z_48, z_49, z_50, z_51, z_52, z_53, z_54, z_55, z_56, z_57, z_58, z_59, z_60, z_61, z_62, z_63, z_64, z_65, z_66, z_67, z_68, z_69, z_70, z_71, z_72, z_73, z_74, z_75, z_76, z_77, z_78, z_79, z_80, z_81, z_82, z_83, z_84, z_85, z_86, z_87, z_88, z_89, z_90, z_91, z_92, z_93, z_94, z_95, z_96, z_97, z_98, z_99, z_100, z_101, z_102, z_103, z_104, z_105, z_106, z_107, z_108, z_109, z_110, z_111, z_112, z_113, z_114, z_115, z_116, z_117, z_118, z_119, z_120, z_121, z_122, z_123, z_124, z_125, z_126, z_127, z_199, z_200, z_360, z_410, z_1000, z_1023, z_1024, z_1219, z_9999, z_10240, z_65537]
  · have := hw rfl
    simp (disch := omega) only [m_carry m d τ hd, pw_0, up_0, pw_1, up_1, pw_2, up_2, pw_3, up_3, pw_4, up_4, pw_9, up_9, pw_10, up_10, pwi_5, upi_5, pwi_6, upi_6, pwi_7, upi_7, pwi_8, upi_8, pwi_11, upi_11, pw_12, up_12, pw_14, up_14, pw_15, up_15, pw_16, up_16, pw_18, up_18, pw_24, up_24, pw_25, up_25, pw_26, up_26, pw_29, up_29, pw_30, up_30, pw_31, up_31, pwi_13, upi_13, pwi_17, upi_17, pwi_19, upi_19, pwi_20, upi_20, pwi_21, upi_21, pwi_22, upi_22, pwi_23, upi_23, pwi_32, upi_32, pwi_33, upi_33, eC_5, eC_6, eC_13, eC_17, eC_19, eC_20, eC_21, eC_22, eC_23, eC_32, eC_33, eC_p5, eC_p6, eC_p13, eC_p17, eC_p19, eC_p20, eC_p21, eC_p22, eC_p23, eC_p32, eC_p33, s_T, s_F, s_bd, s_cl, s_rd, s_wr, s_ite, z_ite, z_neg, z_add, z_sub, z_mul, z_le, z_lt, z_eq, eC_at, eC_7, eC_8, eC_9, eC_10, eC_11, eC_p7, eC_p8, eC_p9, eC_p10, eC_p11, eC_up, ud_same, ud_ne, if_pos, if_neg, z_0, z_1, z_2, z_3, z_4, z_5, z_6, z_7, z_8, z_9, z_10, z_11, z_12, z_13, z_14, z_15, z_16, z_17, z_18, z_19, z_20, z_21, z_22, z_23, z_24, z_25, z_26, z_27, z_28, z_29, z_30, z_31, z_32, z_33, z_34, z_35, z_36, z_37, z_38, z_39, z_40, z_41, z_42, z_43, z_44, z_45, z_46, z_47, z_48, z_49, z_50, z_51, z_52, z_53, z_54, z_55, z_56, z_57, z_58, z_59, z_60, z_61, z_62, z_63, z_64, z_65, z_66, z_67, z_68, z_69, z_70, z_71, z_72, z_73, z_74, z_75, z_76, z_77, z_78, z_79, z_80, z_81, z_82, z_83, z_84, z_85, z_86, z_87, z_88, z_89, z_90, z_91, z_92, z_93, z_94, z_95, z_96, z_97, z_98, z_99, z_100, z_101, z_102, z_103, z_104, z_105, z_106, z_107, z_108, z_109, z_110, z_111, z_112, z_113, z_114, z_115, z_116, z_117, z_118, z_119, z_120, z_121, z_122, z_123, z_124, z_125, z_126, z_127, z_199, z_200, z_360, z_410, z_1000, z_1023, z_1024, z_1219, z_9999, z_10240, z_65537]
  · have := hb rfl
    simp (disch := omega) only [m_put m d τ hd, pw_0, up_0, pw_1, up_1, pw_2, up_2, pw_3, up_3, pw_4, up_4, pw_9, up_9, pw_10, up_10, pwi_5, upi_5, pwi_6, upi_6, pwi_7, upi_7, pwi_8, upi_8, pwi_11, upi_11, pw_12, up_12, pw_14, up_14, pw_15, up_15, pw_16, up_16, pw_18, up_18, pw_24, up_24, pw_25, up_25, pw_26, up_26, pw_29, up_29, pw_30, up_30, pw_31, up_31, pwi_13, upi_13, pwi_17, upi_17, pwi_19, upi_19, pwi_20, upi_20, pwi_21, upi_21, pwi_22, upi_22, pwi_23, upi_23, pwi_32, upi_32, pwi_33, upi_33, eC_5, eC_6, eC_13, eC_17, eC_19, eC_20, eC_21, eC_22, eC_23, eC_32, eC_33, eC_p5, eC_p6, eC_p13, eC_p17, eC_p19, eC_p20, eC_p21, eC_p22, eC_p23, eC_p32, eC_p33, s_T, s_F, s_bd, s_cl, s_rd, s_wr, s_ite, z_ite, z_neg, z_add, z_sub, z_mul, z_le, z_lt, z_eq, eC_at, eC_7, eC_8, eC_9, eC_10, eC_11, eC_p7, eC_p8, eC_p9, eC_p10, eC_p11, eC_up, ud_same, ud_ne, if_pos, if_neg, z_0, z_1, z_2, z_3, z_4, z_5, z_6, z_7, z_8, z_9, z_10, z_11, z_12, z_13, z_14, z_15, z_16, z_17, z_18, z_19, z_20, z_21, z_22, z_23, z_24, z_25, z_26, z_27, z_28, z_29, z_30, z_31, z_32, z_33, z_34, z_35, z_36, z_37, z_38, z_39, z_40, z_41, z_42, z_43, z_44, z_45, z_46, z_47, z_48, z_49, z_50, z_51, z_52, z_53, z_54, z_55, z_56, z_57, z_58, z_59, z_60, z_61, z_62, z_63, z_64, z_65, z_66, z_67, z_68, z_69, z_70, z_71, z_72, z_73, z_74, z_75, z_76, z_77, z_78, z_79, z_80, z_81, z_82, z_83, z_84, z_85, z_86, z_87, z_88, z_89, z_90, z_91, z_92, z_93, z_94, z_95, z_96, z_97, z_98, z_99, z_100, z_101, z_102, z_103, z_104, z_105, z_106, z_107, z_108, z_109, z_110, z_111, z_112, z_113, z_114, z_115, z_116, z_117, z_118, z_119, z_120, z_121, z_122, z_123, z_124, z_125, z_126, z_127, z_199, z_200, z_360, z_410, z_1000, z_1023, z_1024, z_1219, z_9999, z_10240, z_65537]
  · simp (disch := omega) only [m_stir m d τ hd, pw_0, up_0, pw_1, up_1, pw_2, up_2, pw_3, up_3, pw_4, up_4, pw_9, up_9, pw_10, up_10, pwi_5, upi_5, pwi_6, upi_6, pwi_7, upi_7, pwi_8, upi_8, pwi_11, upi_11, pw_12, up_12, pw_14, up_14, pw_15, up_15, pw_16, up_16, pw_18, up_18, pw_24, up_24, pw_25, up_25, pw_26, up_26, pw_29, up_29, pw_30, up_30, pw_31, up_31, pwi_13, upi_13, pwi_17, upi_17, pwi_19, upi_19, pwi_20, upi_20, pwi_21, upi_21, pwi_22, upi_22, pwi_23, upi_23, pwi_32, upi_32, pwi_33, upi_33, eC_5, eC_6, eC_13, eC_17, eC_19, eC_20, eC_21, eC_22, eC_23, eC_32, eC_33, eC_p5, eC_p6, eC_p13, eC_p17, eC_p19, eC_p20, eC_p21, eC_p22, eC_p23, eC_p32, eC_p33, s_T, s_F, s_bd, s_cl, s_rd, s_wr, s_ite, z_ite, z_neg, z_add, z_sub, z_mul, z_le, z_lt, z_eq, eC_at, eC_7, eC_8, eC_9, eC_10, eC_11, eC_p7, eC_p8, eC_p9, eC_p10, eC_p11, eC_up, ud_same, ud_ne, if_pos, if_neg, z_0, z_1, z_2, z_3, z_4, z_5, z_6, z_7, z_8, z_9, z_10, z_11, z_12, z_13, z_14, z_15, z_16, z_17, z_18, z_19, z_20, z_21, z_22, z_23, z_24, z_25, z_26, z_27, z_28, z_29, z_30, z_31, z_32, z_33, z_34, z_35, z_36, z_37, z_38, z_39, z_40, z_41, z_42, z_43, z_44, z_45, z_46, z_47, z_48, z_49, z_50, z_51, z_52, z_53, z_54, z_55, z_56, z_57, z_58, z_59, z_60, z_61, z_62, z_63, z_64, z_65, z_66, z_67, z_68, z_69, z_70, z_71, z_72, z_73, z_74, z_75, z_76, z_77, z_78, z_79, z_80, z_81, z_82, z_83, z_84, z_85, z_86, z_87, z_88, z_89, z_90, z_91, z_92, z_93, z_94, z_95, z_96, z_97, z_98, z_99, z_100, z_101, z_102, z_103, z_104, z_105, z_106, z_107, z_108, z_109, z_110, z_111, z_112, z_113, z_114, z_115, z_116, z_117, z_118, z_119, z_120, z_121, z_122, z_123, z_124, z_125, z_126, z_127, z_199, z_200, z_360, z_410, z_1000, z_1023, z_1024, z_1219, z_9999, z_10240, z_65537]
  · simp (disch := omega) only [m_morning m d τ hd, pw_0, up_0, pw_1, up_1, pw_2, up_2, pw_3, up_3, pw_4, up_4, pw_9, up_9, pw_10, up_10, pwi_5, upi_5, pwi_6, upi_6, pwi_7, upi_7, pwi_8, upi_8, pwi_11, upi_11, pw_12, up_12, pw_14, up_14, pw_15, up_15, pw_16, up_16, pw_18, up_18, pw_24, up_24, pw_25, up_25, pw_26, up_26, pw_29, up_29, pw_30, up_30, pw_31, up_31, pwi_13, upi_13, pwi_17, upi_17, pwi_19, upi_19, pwi_20, upi_20, pwi_21, upi_21, pwi_22, upi_22, pwi_23, upi_23, pwi_32, upi_32, pwi_33, upi_33, eC_5, eC_6, eC_13, eC_17, eC_19, eC_20, eC_21, eC_22, eC_23, eC_32, eC_33, eC_p5, eC_p6, eC_p13, eC_p17, eC_p19, eC_p20, eC_p21, eC_p22, eC_p23, eC_p32, eC_p33, s_T, s_F, s_bd, s_cl, s_rd, s_wr, s_ite, z_ite, z_neg, z_add, z_sub, z_mul, z_le, z_lt, z_eq, eC_at, eC_7, eC_8, eC_9, eC_10, eC_11, eC_p7, eC_p8, eC_p9, eC_p10, eC_p11, eC_up, ud_same, ud_ne, if_pos, if_neg, z_0, z_1, z_2, z_3, z_4, z_5, z_6, z_7, z_8, z_9, z_10, z_11, z_12, z_13, z_14, z_15, z_16, z_17, z_18, z_19, z_20, z_21, z_22, z_23, z_24, z_25, z_26, z_27, z_28, z_29, z_30, z_31, z_32, z_33, z_34, z_35, z_36, z_37, z_38, z_39, z_40, z_41, z_42, z_43, z_44, z_45, z_46, z_47, z_48, z_49, z_50, z_51, z_52, z_53, z_54, z_55, z_56, z_57, z_58, z_59, z_60, z_61, z_62, z_63, z_64, z_65, z_66, z_67, z_68, z_69, z_70, z_71, z_72, z_73, z_74, z_75, z_76, z_77, z_78, z_79, z_80, z_81, z_82, z_83, z_84, z_85, z_86, z_87, z_88, z_89, z_90, z_91, z_92, z_93, z_94, z_95, z_96, z_97, z_98, z_99, z_100, z_101, z_102, z_103, z_104, z_105, z_106, z_107, z_108, z_109, z_110, z_111, z_112, z_113, z_114, z_115, z_116, z_117, z_118, z_119, z_120, z_121, z_122, z_123, z_124, z_125, z_126, z_127, z_199, z_200, z_360, z_410, z_1000, z_1023, z_1024, z_1219, z_9999, z_10240, z_65537]
def kn (h : Int) (m d : Nat → Int → Int) : Nat → Int → Int := fun a b =>
  if a = 18 ∧ h ≤ b ∧ b < 10 then d 1 b else if a = 18 ∧ 10 + h ≤ b ∧ b < 20 then d 2 (b - 10) else if a = 18 ∧ 20 + h ≤ b ∧ b < 30 then d 3 (b - 20) else m a b
theorem kn_s {h : Int} (h0 : 0 ≤ h) (h1 : h < 10) (m d : Nat → Int → Int) : kn (h + 1) (ud (ud (ud m 18 h (d 1 h)) 18 (10 + h) (d 2 h)) 18 (20 + h) (d 3 h)) d = kn h m d := by
  funext a b
  by_cases e : a = 18
  · subst e
    unfold kn ud
    by_cases e1 : b = h
    · subst e1
      rw [if_neg (by omega), if_neg (by omega), if_neg (by omega), if_neg (by omega), if_neg (by omega), if_pos ⟨rfl, rfl⟩, if_pos ⟨rfl, by omega, by omega⟩]
    · by_cases e2 : b = 10 + h
      · subst e2
        rw [if_neg (by omega), if_neg (by omega), if_neg (by omega), if_neg (by omega), if_pos ⟨rfl, rfl⟩, if_neg (by omega), if_pos ⟨rfl, by omega, by omega⟩]
        congr 1; omega
      · by_cases e3 : b = 20 + h
        · subst e3
          rw [if_neg (by omega), if_neg (by omega), if_neg (by omega), if_pos ⟨rfl, rfl⟩, if_neg (by omega), if_neg (by omega), if_pos ⟨rfl, by omega, by omega⟩]
          congr 1; omega
        · rw [if_neg (show ¬ (18 = 18 ∧ b = 20 + h) by omega), if_neg (show ¬ (18 = 18 ∧ b = 10 + h) by omega), if_neg (show ¬ (18 = 18 ∧ b = h) by omega)]
          have q1 : (h + 1 ≤ b ∧ b < 10) = (h ≤ b ∧ b < 10) := propext ⟨fun z => by omega, fun z => by omega⟩
          have q2 : (10 + (h + 1) ≤ b ∧ b < 20) = (10 + h ≤ b ∧ b < 20) := propext ⟨fun z => by omega, fun z => by omega⟩
          have q3 : (20 + (h + 1) ≤ b ∧ b < 30) = (20 + h ≤ b ∧ b < 30) := propext ⟨fun z => by omega, fun z => by omega⟩
          simp only [q1, q2, q3]
  · unfold kn ud
    rw [if_neg (by omega), if_neg (by omega), if_neg (by omega), if_neg (by omega), if_neg (by omega), if_neg (by omega), if_neg (by omega), if_neg (by omega), if_neg (by omega)]
theorem kn_e {h : Int} (h0 : 10 ≤ h) (m d : Nat → Int → Int) : kn h m d = m := by
  funext a b
  unfold kn
  rw [if_neg (by omega), if_neg (by omega), if_neg (by omega)]
def kNow (m d : Nat → Int → Int) : Nat → Int → Int := ud (ud (ud (ud (kn 0 m d) 18 30 (d 99 8)) 18 31 (d 99 9)) 18 32 (d 99 10)) 18 33 (d 99 11)
theorem m_keepNow (m d : Nat → Int → Int) (τ : qL) : f_X7_keepNow (eC (pw m d)) τ = some (eC (pw (kNow m d) d)) := by
  unfold f_X7_keepNow
  have key := lp_en (body := b_X7_keepNow_2) (k := fun z1 => q_wr z1.2 18 34 (30 : Int32) (z1.2 99 5) fun σM_2 =>
      q_wr σM_2 18 34 (31 : Int32) (σM_2 99 6) fun σM_5 =>
      q_wr σM_5 18 34 (32 : Int32) (σM_5 99 7) fun σM_8 =>
      q_wr σM_8 18 34 (33 : Int32) (σM_8 99 8) fun σM_11 =>
      some σM_11)
    (fun a : Int × (Nat → Int → Int) => (zI a.1, eC (pw a.2 d))) (fun _ a => some (eC (pw (ud (ud (ud (ud (kn a.1 a.2 d) 18 30 (d 99 8)) 18 31 (d 99 9)) 18 32 (d 99 10)) 18 33 (d 99 11)) d)))
    (fun N a => 0 ≤ a.1 ∧ a.1 ≤ 10 ∧ (10 - a.1).toNat < N) (fun a => by omega) (by
      rintro again N ⟨h, m⟩ ⟨h0, h1, h2⟩ ih
      dsimp only at h0 h1 h2 ⊢
      unfold b_X7_keepNow_2
      by_cases c : h < 10
      · simp (disch := omega) only [pw_0, up_0, pw_1, up_1, pw_2, up_2, pw_3, up_3, pw_4, up_4, pw_9, up_9, pw_10, up_10, pwi_5, upi_5, pwi_6, upi_6, pwi_7, upi_7, pwi_8, upi_8, pwi_11, upi_11, pw_12, up_12, pw_14, up_14, pw_15, up_15, pw_16, up_16, pw_18, up_18, pw_24, up_24, pw_25, up_25, pw_26, up_26, pw_29, up_29, pw_30, up_30, pw_31, up_31, pwi_13, upi_13, pwi_17, upi_17, pwi_19, upi_19, pwi_20, upi_20, pwi_21, upi_21, pwi_22, upi_22, pwi_23, upi_23, pwi_32, upi_32, pwi_33, upi_33, eC_5, eC_6, eC_13, eC_17, eC_19, eC_20, eC_21, eC_22, eC_23, eC_32, eC_33, eC_p5, eC_p6, eC_p13, eC_p17, eC_p19, eC_p20, eC_p21, eC_p22, eC_p23, eC_p32, eC_p33, s_T, s_F, s_bd, s_cl, s_rd, s_wr, s_ite, z_ite, z_neg, z_add, z_sub, z_mul, z_le, z_lt, z_eq, eC_at, eC_7, eC_8, eC_9, eC_10, eC_11, eC_p7, eC_p8, eC_p9, eC_p10, eC_p11, eC_up, ud_same, ud_ne, if_pos, if_neg, z_0, z_1, z_2, z_3, z_4, z_5, z_6, z_7, z_8, z_9, z_10, z_11, z_12, z_13, z_14, z_15, z_16, z_17, z_18, z_19, z_20, z_21, z_22, z_23, z_24, z_25, z_26, z_27, z_28, z_29, z_30, z_31, z_32, z_33, z_34, z_35, z_36, z_37, z_38, z_39, z_40, z_41, z_42, z_43, z_44, z_45, z_46, z_47, z_48, z_49, z_50, z_51, z_52, z_53, z_54, z_55, z_56, z_57, z_58, z_59, z_60, z_61, z_62, z_63, z_64, z_65, z_66, z_67, z_68, z_69, z_70, z_71, z_72, z_73, z_74, z_75, z_76, z_77, z_78, z_79, z_80, z_81, z_82, z_83, z_84, z_85, z_86, z_87, z_88, z_89, z_90, z_91, z_92, z_93, z_94, z_95, z_96, z_97, z_98, z_99, z_100, z_101, z_102, z_103, z_104, z_105, z_106, z_107, z_108, z_109, z_110, z_111, z_112, z_113, z_114, z_115, z_116, z_117, z_118, z_119, z_120, z_121, z_122, z_123, z_124, z_125, z_126, z_127, z_199, z_200, z_360, z_410, z_1000, z_1023, z_1024, z_1219, z_9999, z_10240, z_65537]
        have := ih (h + 1, ud (ud (ud m 18 h (d 1 h)) 18 (10 + h) (d 2 h)) 18 (20 + h) (d 3 h)) ⟨by dsimp only; omega, by dsimp only; omega, by dsimp only; omega⟩
        dsimp only at this
        rw [kn_s h0 c] at this
        exact this
      · rw [kn_e (by omega)]
        simp (disch := omega) only [pw_0, up_0, pw_1, up_1, pw_2, up_2, pw_3, up_3, pw_4, up_4, pw_9, up_9, pw_10, up_10, pwi_5, upi_5, pwi_6, upi_6, pwi_7, upi_7, pwi_8, upi_8, pwi_11, upi_11, pw_12, up_12, pw_14, up_14, pw_15, up_15, pw_16, up_16, pw_18, up_18, pw_24, up_24, pw_25, up_25, pw_26, up_26, pw_29, up_29, pw_30, up_30, pw_31, up_31, pwi_13, upi_13, pwi_17, upi_17, pwi_19, upi_19, pwi_20, upi_20, pwi_21, upi_21, pwi_22, upi_22, pwi_23, upi_23, pwi_32, upi_32, pwi_33, upi_33, eC_5, eC_6, eC_13, eC_17, eC_19, eC_20, eC_21, eC_22, eC_23, eC_32, eC_33, eC_p5, eC_p6, eC_p13, eC_p17, eC_p19, eC_p20, eC_p21, eC_p22, eC_p23, eC_p32, eC_p33, s_T, s_F, s_bd, s_cl, s_rd, s_wr, s_ite, z_ite, z_neg, z_add, z_sub, z_mul, z_le, z_lt, z_eq, eC_at, eC_7, eC_8, eC_9, eC_10, eC_11, eC_p7, eC_p8, eC_p9, eC_p10, eC_p11, eC_up, ud_same, ud_ne, if_pos, if_neg, z_0, z_1, z_2, z_3, z_4, z_5, z_6, z_7, z_8, z_9, z_10, z_11, z_12, z_13, z_14, z_15, z_16, z_17, z_18, z_19, z_20, z_21, z_22, z_23, z_24, z_25, z_26, z_27, z_28, z_29, z_30, z_31, z_32, z_33, z_34, z_35, z_36, z_37, z_38, z_39, z_40, z_41, z_42, z_43, z_44, z_45, z_46, z_47, z_48, z_49, z_50, z_51, z_52, z_53, z_54, z_55, z_56, z_57, z_58, z_59, z_60, z_61, z_62, z_63, z_64, z_65, z_66, z_67, z_68, z_69, z_70, z_71, z_72, z_73, z_74, z_75, z_76, z_77, z_78, z_79, z_80, z_81, z_82, z_83, z_84, z_85, z_86, z_87, z_88, z_89, z_90, z_91, z_92, z_93, z_94, z_95, z_96, z_97, z_98, z_99, z_100, z_101, z_102, z_103, z_104, z_105, z_106, z_107, z_108, z_109, z_110, z_111, z_112, z_113, z_114, z_115, z_116, z_117, z_118, z_119, z_120, z_121, z_122, z_123, z_124, z_125, z_126, z_127, z_199, z_200, z_360, z_410, z_1000, z_1023, z_1024, z_1219, z_9999, z_10240, z_65537]) 20000 (0, m) ⟨Int.le_refl 0, by show (0 : Int) ≤ 10; decide, by show ((10 : Int) - 0).toNat < 20000; decide⟩
  exact key
def bk (h : Int) (m d : Nat → Int → Int) : Nat → Int → Int := fun a b =>
  if a = 1 ∧ h ≤ b ∧ b < 10 then m 18 b else if a = 2 ∧ h ≤ b ∧ b < 10 then m 18 (10 + b) else if a = 3 ∧ h ≤ b ∧ b < 10 then m 18 (20 + b) else d a b
theorem bk_s {h : Int} (h0 : 0 ≤ h) (h1 : h < 10) (m d : Nat → Int → Int) : bk (h + 1) m (ud (ud (ud d 1 h (m 18 h)) 2 h (m 18 (10 + h))) 3 h (m 18 (20 + h))) = bk h m d := by
  funext a b
  by_cases e : b = h
  · subst e
    unfold bk ud
    by_cases e1 : a = 1
    · subst e1
      rw [if_neg (by omega), if_neg (by omega), if_neg (by omega), if_neg (by omega), if_neg (by omega), if_pos ⟨rfl, rfl⟩, if_pos ⟨rfl, by omega, by omega⟩]
    · by_cases e2 : a = 2
      · subst e2
        rw [if_neg (by omega), if_neg (by omega), if_neg (by omega), if_neg (by omega), if_pos ⟨rfl, rfl⟩, if_neg (by omega), if_pos ⟨rfl, by omega, by omega⟩]
      · by_cases e3 : a = 3
        · subst e3
          rw [if_neg (by omega), if_neg (by omega), if_neg (by omega), if_pos ⟨rfl, rfl⟩, if_neg (by omega), if_neg (by omega), if_pos ⟨rfl, by omega, by omega⟩]
        · rw [if_neg (by omega), if_neg (by omega), if_neg (by omega), if_neg (by omega), if_neg (by omega), if_neg (by omega), if_neg (by omega), if_neg (by omega), if_neg (by omega)]
  · unfold bk ud
    rw [if_neg (show ¬ (a = 3 ∧ b = h) by omega), if_neg (show ¬ (a = 2 ∧ b = h) by omega), if_neg (show ¬ (a = 1 ∧ b = h) by omega)]
    have q1 : (h + 1 ≤ b ∧ b < 10) = (h ≤ b ∧ b < 10) := propext ⟨fun z => by omega, fun z => by omega⟩
    simp only [q1]
theorem bk_e {h : Int} (h0 : 10 ≤ h) (m d : Nat → Int → Int) : bk h m d = d := by
  funext a b
  unfold bk
  rw [if_neg (by omega), if_neg (by omega), if_neg (by omega)]
def bkD (m d : Nat → Int → Int) : Nat → Int → Int := ud (ud (ud (ud (bk 0 m d) 99 8 (m 18 30)) 99 9 (m 18 31)) 99 10 (m 18 32)) 99 11 (m 18 33)
theorem m_back (m d : Nat → Int → Int) (τ : qL) (r : Int32) : f_X7_back (eC (pw m d)) τ r = some (r, eC (pw m (bkD m d))) := by
  unfold f_X7_back
  have key := lp_en (body := b_X7_back_2) (k := fun z1 => q_rd z1.2 18 34 (30 : Int32) fun r_2 =>
      q_bd (q_pt z1.2 5 r_2) fun σM_5 =>
      q_rd σM_5 18 34 (31 : Int32) fun r_7 =>
      q_bd (q_pt σM_5 6 r_7) fun σM_10 =>
      q_rd σM_10 18 34 (32 : Int32) fun r_12 =>
      q_bd (q_pt σM_10 7 r_12) fun σM_15 =>
      q_rd σM_15 18 34 (33 : Int32) fun r_17 =>
      q_bd (q_pt σM_15 8 r_17) fun σM_20 =>
      some (r, σM_20))
    (fun a : Int × (Nat → Int → Int) => (zI a.1, eC (pw m a.2))) (fun _ a => some (r, eC (pw m (ud (ud (ud (ud (bk a.1 m a.2) 99 8 (m 18 30)) 99 9 (m 18 31)) 99 10 (m 18 32)) 99 11 (m 18 33)))))
    (fun N a => 0 ≤ a.1 ∧ a.1 ≤ 10 ∧ (10 - a.1).toNat < N) (fun a => by omega) (by
      rintro again N ⟨h, d⟩ ⟨h0, h1, h2⟩ ih
      dsimp only at h0 h1 h2 ⊢
      unfold b_X7_back_2
      by_cases c : h < 10
      · simp (disch := omega) only [pw_0, up_0, pw_1, up_1, pw_2, up_2, pw_3, up_3, pw_4, up_4, pw_9, up_9, pw_10, up_10, pwi_5, upi_5, pwi_6, upi_6, pwi_7, upi_7, pwi_8, upi_8, pwi_11, upi_11, pw_12, up_12, pw_14, up_14, pw_15, up_15, pw_16, up_16, pw_18, up_18, pw_24, up_24, pw_25, up_25, pw_26, up_26, pw_29, up_29, pw_30, up_30, pw_31, up_31, pwi_13, upi_13, pwi_17, upi_17, pwi_19, upi_19, pwi_20, upi_20, pwi_21, upi_21, pwi_22, upi_22, pwi_23, upi_23, pwi_32, upi_32, pwi_33, upi_33, eC_5, eC_6, eC_13, eC_17, eC_19, eC_20, eC_21, eC_22, eC_23, eC_32, eC_33, eC_p5, eC_p6, eC_p13, eC_p17, eC_p19, eC_p20, eC_p21, eC_p22, eC_p23, eC_p32, eC_p33, s_T, s_F, s_bd, s_cl, s_rd, s_wr, s_ite, z_ite, z_neg, z_add, z_sub, z_mul, z_le, z_lt, z_eq, eC_at, eC_7, eC_8, eC_9, eC_10, eC_11, eC_p7, eC_p8, eC_p9, eC_p10, eC_p11, eC_up, ud_same, ud_ne, if_pos, if_neg, z_0, z_1, z_2, z_3, z_4, z_5, z_6, z_7, z_8, z_9, z_10, z_11, z_12, z_13, z_14, z_15, z_16, z_17, z_18, z_19, z_20, z_21, z_22, z_23, z_24, z_25, z_26, z_27, z_28, z_29, z_30, z_31, z_32, z_33, z_34, z_35, z_36, z_37, z_38, z_39, z_40, z_41, z_42, z_43, z_44, z_45, z_46, z_47, z_48, z_49, z_50, z_51, z_52, z_53, z_54, z_55, z_56, z_57, z_58, z_59, z_60, z_61, z_62, z_63, z_64, z_65, z_66, z_67, z_68, z_69, z_70, z_71, z_72, z_73, z_74, z_75, z_76, z_77, z_78, z_79, z_80, z_81, z_82, z_83, z_84, z_85, z_86, z_87, z_88, z_89, z_90, z_91, z_92, z_93, z_94, z_95, z_96, z_97, z_98, z_99, z_100, z_101, z_102, z_103, z_104, z_105, z_106, z_107, z_108, z_109, z_110, z_111, z_112, z_113, z_114, z_115, z_116, z_117, z_118, z_119, z_120, z_121, z_122, z_123, z_124, z_125, z_126, z_127, z_199, z_200, z_360, z_410, z_1000, z_1023, z_1024, z_1219, z_9999, z_10240, z_65537]
        have := ih (h + 1, ud (ud (ud d 1 h (m 18 h)) 2 h (m 18 (10 + h))) 3 h (m 18 (20 + h))) ⟨by dsimp only; omega, by dsimp only; omega, by dsimp only; omega⟩
        dsimp only at this
        rw [bk_s h0 c] at this
        exact this
      · rw [bk_e (by omega)]
        simp (disch := omega) only [pw_0, up_0, pw_1, up_1, pw_2, up_2, pw_3, up_3, pw_4, up_4, pw_9, up_9, pw_10, up_10, pwi_5, upi_5, pwi_6, upi_6, pwi_7, upi_7, pwi_8, upi_8, pwi_11, upi_11, pw_12, up_12, pw_14, up_14, pw_15, up_15, pw_16, up_16, pw_18, up_18, pw_24, up_24, pw_25, up_25, pw_26, up_26, pw_29, up_29, pw_30, up_30, pw_31, up_31, pwi_13, upi_13, pwi_17, upi_17, pwi_19, upi_19, pwi_20, upi_20, pwi_21, upi_21, pwi_22, upi_22, pwi_23, upi_23, pwi_32, upi_32, pwi_33, upi_33, eC_5, eC_6, eC_13, eC_17, eC_19, eC_20, eC_21, eC_22, eC_23, eC_32, eC_33, eC_p5, eC_p6, eC_p13, eC_p17, eC_p19, eC_p20, eC_p21, eC_p22, eC_p23, eC_p32, eC_p33, s_T, s_F, s_bd, s_cl, s_rd, s_wr, s_ite, z_ite, z_neg, z_add, z_sub, z_mul, z_le, z_lt, z_eq, eC_at, eC_7, eC_8, eC_9, eC_10, eC_11, eC_p7, eC_p8, eC_p9, eC_p10, eC_p11, eC_up, ud_same, ud_ne, if_pos, if_neg, z_0, z_1, z_2, z_3, z_4, z_5, z_6, z_7, z_8, z_9, z_10, z_11, z_12, z_13, z_14, z_15, z_16, z_17, z_18, z_19, z_20, z_21, z_22, z_23, z_24, z_25, z_26, z_27, z_28, z_29, z_30, z_31, z_32, z_33, z_34, z_35, z_36, z_37, z_38, z_39, z_40, z_41, z_42, z_43, z_44, z_45, z_46, z_47, z_48, z_49, z_50, z_51, z_52, z_53, z_54, z_55, z_56, z_57, z_58, z_59, z_60, z_61, z_62, z_63, z_64, z_65, z_66, z_67, z_68, z_69, z_70, z_71, z_72, z_73, z_74, z_75, z_76, z_77, z_78, z_79, z_80, z_81, z_82, z_83, z_84, z_85, z_86, z_87, z_88, z_89, z_90, z_91, z_92, z_93, z_94, z_95, z_96, z_97, z_98, z_99, z_100, z_101, z_102, z_103, z_104, z_105, z_106, z_107, z_108, z_109, z_110, z_111, z_112, z_113, z_114, z_115, z_116, z_117, z_118, z_119, z_120, z_121, z_122, z_123, z_124, z_125, z_126, z_127, z_199, z_200, z_360, z_410, z_1000, z_1023, z_1024, z_1219, z_9999, z_10240, z_65537]) 20000 (0, d) ⟨Int.le_refl 0, by show (0 : Int) ≤ 10; decide, by show ((10 : Int) - 0).toNat < 20000; decide⟩
  exact key
end
section
/-! the reference: acts are read -/
def closeM (m : Nat → Int → Int) (k v : Int) : Nat → Int → Int := ud (ud (ud m 14 (m 99 17) k) 16 (m 99 17) v) 99 17 (m 99 17 + 1)
theorem m_close (m d : Nat → Int → Int) (τ : qL) (h0 : 0 ≤ m 99 17) (h1 : m 99 17 < 60) (k v : Int) : f_X7_close (eC (pw m d)) τ (zI k) (zI v) = some (zI 0, eC (pw (closeM m k v) d)) := by
  unfold f_X7_close closeM
  simp (disch := omega) only [pw_0, up_0, pw_1, up_1, pw_2, up_2, pw_3, up_3, pw_4, up_4, pw_9, up_9, pw_10, up_10, pwi_5, upi_5, pwi_6, upi_6, pwi_7, upi_7, pwi_8, upi_8, pwi_11, upi_11, pw_12, up_12, pw_14, up_14, pw_15, up_15, pw_16, up_16, pw_18, up_18, pw_24, up_24, pw_25, up_25, pw_26, up_26, pw_29, up_29, pw_30, up_30, pw_31, up_31, pwi_13, upi_13, pwi_17, upi_17, pwi_19, upi_19, pwi_20, upi_20, pwi_21, upi_21, pwi_22, upi_22, pwi_23, upi_23, pwi_32, upi_32, pwi_33, upi_33, eC_5, eC_6, eC_13, eC_17, eC_19, eC_20, eC_21, eC_22, eC_23, eC_32, eC_33, eC_p5, eC_p6, eC_p13, eC_p17, eC_p19, eC_p20, eC_p21, eC_p22, eC_p23, eC_p32, eC_p33, s_T, s_F, s_bd, s_cl, s_rd, s_wr, s_ite, z_ite, z_neg, z_add, z_sub, z_mul, z_le, z_lt, z_eq, eC_at, eC_7, eC_8, eC_9, eC_10, eC_11, eC_p7, eC_p8, eC_p9, eC_p10, eC_p11, eC_up, ud_same, ud_ne, if_pos, if_neg, z_0, z_1, z_2, z_3, z_4, z_5, z_6, z_7, z_8, z_9, z_10, z_11, z_12, z_13, z_14, z_15, z_16, z_17, z_18, z_19, z_20, z_21, z_22, z_23, z_24, z_25, z_26, z_27, z_28, z_29, z_30, z_31, z_32, z_33, z_34, z_35, z_36, z_37, z_38, z_39, z_40, z_41, z_42, z_43, z_44, z_45, z_46, z_47, z_48, z_49, z_50, z_51, z_52, z_53, z_54, z_55, z_56, z_57, z_58, z_59, z_60, z_61, z_62, z_63, z_64, z_65, z_66, z_67, z_68, z_69, z_70, z_71, z_72, z_73, z_74, z_75, z_76, z_77, z_78, z_79, z_80, z_81, z_82, z_83, z_84, z_85, z_86, z_87, z_88, z_89, z_90, z_91, z_92, z_93, z_94, z_95, z_96, z_97, z_98, z_99, z_100, z_101, z_102, z_103, z_104, z_105, z_106, z_107, z_108, z_109, z_110, z_111, z_112, z_113, z_114, z_115, z_116, z_117, z_118, z_119, z_120, z_121, z_122, z_123, z_124, z_125, z_126, z_127, z_199, z_200, z_360, z_410, z_1000, z_1023, z_1024, z_1219, z_9999, z_10240, z_65537]
def begM (m : Nat → Int → Int) (c : Int) : Int × (Nat → Int → Int) :=
  let m1 := ud m 15 (m 99 17) (if 65 ≤ c ∧ c ≤ 74 then c - 65 else 10)
  if c = 42 then (0, closeM m1 2 0) else if c = 46 then (0, closeM m1 4 0) else if c = 61 then (1, m1) else if c = 126 then (0, closeM m1 3 0)
  else if (65 ≤ c ∧ c ≤ 74) ∨ c = 107 then (0, closeM m1 1 0) else (-6, m1)
theorem ud_17 (m : Nat → Int → Int) (i v : Int) : ud m 15 i v 99 17 = m 99 17 := ud_ne m v (Or.inl (by decide))
theorem m_begin (m d : Nat → Int → Int) (τ : qL) (h0 : 0 ≤ m 99 17) (h1 : m 99 17 < 60) {c : Int} (c0 : 0 ≤ c) (c1 : c ≤ 126) : f_X7_begin (eC (pw m d)) τ (zI c) = some (zI (begM m c).1, eC (pw (begM m c).2 d)) := by
  unfold f_X7_begin begM
  by_cases hc : 65 ≤ c ∧ c ≤ 74
  · simp (disch := omega) only [z_l, zl_65, zl_74, m_in, pw_0, up_0, pw_1, up_1, pw_2, up_2, pw_3, up_3, pw_4, up_4, pw_9, up_9, pw_10, up_10, pwi_5, upi_5, pwi_6, upi_6, pwi_7, upi_7, pwi_8, upi_8, pwi_11, upi_11, pw_12, up_12, pw_14, up_14, pw_15, up_15, pw_16, up_16, pw_18, up_18, pw_24, up_24, pw_25, up_25, pw_26, up_26, pw_29, up_29, pw_30, up_30, pw_31, up_31, pwi_13, upi_13, pwi_17, upi_17, pwi_19, upi_19, pwi_20, upi_20, pwi_21, upi_21, pwi_22, upi_22, pwi_23, upi_23, pwi_32, upi_32, pwi_33, upi_33, eC_5, eC_6, eC_13, eC_17, eC_19, eC_20, eC_21, eC_22, eC_23, eC_32, eC_33, eC_p5, eC_p6, eC_p13, eC_p17, eC_p19, eC_p20, eC_p21, eC_p22, eC_p23, eC_p32, eC_p33, s_T, s_F, s_bd, s_cl, s_rd, s_wr, s_ite, z_ite, z_neg, z_add, z_sub, z_mul, z_le, z_lt, z_eq, eC_at, eC_7, eC_8, eC_9, eC_10, eC_11, eC_p7, eC_p8, eC_p9, eC_p10, eC_p11, eC_up, ud_same, ud_ne, if_pos, if_neg, z_0, z_1, z_2, z_3, z_4, z_5, z_6, z_7, z_8, z_9, z_10, z_11, z_12, z_13, z_14, z_15, z_16, z_17, z_18, z_19, z_20, z_21, z_22, z_23, z_24, z_25, z_26, z_27, z_28, z_29, z_30, z_31, z_32, z_33, z_34, z_35, z_36, z_37, z_38, z_39, z_40, z_41, z_42, z_43, z_44, z_45, z_46, z_47, z_48, z_49, z_50, z_51, z_52, z_53, z_54, z_55, z_56, z_57, z_58, z_59, z_60, z_61, z_62, z_63, z_64, z_65, z_66, z_67, z_68, z_69, z_70, z_71, z_72, z_73, z_74, z_75, z_76, z_77, z_78, z_79, z_80, z_81, z_82, z_83, z_84, z_85, z_86, z_87, z_88, z_89, z_90, z_91, z_92, z_93, z_94, z_95, z_96, z_97, z_98, z_99, z_100, z_101, z_102, z_103, z_104, z_105, z_106, z_107, z_108, z_109, z_110, z_111, z_112, z_113, z_114, z_115, z_116, z_117, z_118, z_119, z_120, z_121, z_122, z_123, z_124, z_125, z_126, z_127, z_199, z_200, z_360, z_410, z_1000, z_1023, z_1024, z_1219, z_9999, z_10240, z_65537]
    rw [m_close _ _ _ (by rw [ud_17]; exact h0) (by rw [ud_17]; exact h1)]
    simp (disch := omega) only [pw_0, up_0, pw_1, up_1, pw_2, up_2, pw_3, up_3, pw_4, up_4, pw_9, up_9, pw_10, up_10, pwi_5, upi_5, pwi_6, upi_6, pwi_7, upi_7, pwi_8, upi_8, pwi_11, upi_11, pw_12, up_12, pw_14, up_14, pw_15, up_15, pw_16, up_16, pw_18, up_18, pw_24, up_24, pw_25, up_25, pw_26, up_26, pw_29, up_29, pw_30, up_30, pw_31, up_31, pwi_13, upi_13, pwi_17, upi_17, pwi_19, upi_19, pwi_20, upi_20, pwi_21, upi_21, pwi_22, upi_22, pwi_23, upi_23, pwi_32, upi_32, pwi_33, upi_33, eC_5, eC_6, eC_13, eC_17, eC_19, eC_20, eC_21, eC_22, eC_23, eC_32, eC_33, eC_p5, eC_p6, eC_p13, eC_p17, eC_p19, eC_p20, eC_p21, eC_p22, eC_p23, eC_p32, eC_p33, s_T, s_F, s_bd, s_cl, s_rd, s_wr, s_ite, z_ite, z_neg, z_add, z_sub, z_mul, z_le, z_lt, z_eq, eC_at, eC_7, eC_8, eC_9, eC_10, eC_11, eC_p7, eC_p8, eC_p9, eC_p10, eC_p11, eC_up, ud_same, ud_ne, if_pos, if_neg, z_0, z_1, z_2, z_3, z_4, z_5, z_6, z_7, z_8, z_9, z_10, z_11, z_12, z_13, z_14, z_15, z_16, z_17, z_18, z_19, z_20, z_21, z_22, z_23, z_24, z_25, z_26, z_27, z_28, z_29, z_30, z_31, z_32, z_33, z_34, z_35, z_36, z_37, z_38, z_39, z_40, z_41, z_42, z_43, z_44, z_45, z_46, z_47, z_48, z_49, z_50, z_51, z_52, z_53, z_54, z_55, z_56, z_57, z_58, z_59, z_60, z_61, z_62, z_63, z_64, z_65, z_66, z_67, z_68, z_69, z_70, z_71, z_72, z_73, z_74, z_75, z_76, z_77, z_78, z_79, z_80, z_81, z_82, z_83, z_84, z_85, z_86, z_87, z_88, z_89, z_90, z_91, z_92, z_93, z_94, z_95, z_96, z_97, z_98, z_99, z_100, z_101, z_102, z_103, z_104, z_105, z_106, z_107, z_108, z_109, z_110, z_111, z_112, z_113, z_114, z_115, z_116, z_117, z_118, z_119, z_120, z_121, z_122, z_123, z_124, z_125, z_126, z_127, z_199, z_200, z_360, z_410, z_1000, z_1023, z_1024, z_1219, z_9999, z_10240, z_65537]
  · by_cases e1 : c = 42
    · subst e1
      simp (disch := omega) only [z_l, zl_65, zl_74, m_in, pw_0, up_0, pw_1, up_1, pw_2, up_2, pw_3, up_3, pw_4, up_4, pw_9, up_9, pw_10, up_10, pwi_5, upi_5, pwi_6, upi_6, pwi_7, upi_7, pwi_8, upi_8, pwi_11, upi_11, pw_12, up_12, pw_14, up_14, pw_15, up_15, pw_16, up_16, pw_18, up_18, pw_24, up_24, pw_25, up_25, pw_26, up_26, pw_29, up_29, pw_30, up_30, pw_31, up_31, pwi_13, upi_13, pwi_17, upi_17, pwi_19, upi_19, pwi_20, upi_20, pwi_21, upi_21, pwi_22, upi_22, pwi_23, upi_23, pwi_32, upi_32, pwi_33, upi_33, eC_5, eC_6, eC_13, eC_17, eC_19, eC_20, eC_21, eC_22, eC_23, eC_32, eC_33, eC_p5, eC_p6, eC_p13, eC_p17, eC_p19, eC_p20, eC_p21, eC_p22, eC_p23, eC_p32, eC_p33, s_T, s_F, s_bd, s_cl, s_rd, s_wr, s_ite, z_ite, z_neg, z_add, z_sub, z_mul, z_le, z_lt, z_eq, eC_at, eC_7, eC_8, eC_9, eC_10, eC_11, eC_p7, eC_p8, eC_p9, eC_p10, eC_p11, eC_up, ud_same, ud_ne, if_pos, if_neg, z_0, z_1, z_2, z_3, z_4, z_5, z_6, z_7, z_8, z_9, z_10, z_11, z_12, z_13, z_14, z_15, z_16, z_17, z_18, z_19, z_20, z_21, z_22, z_23, z_24, z_25, z_26, z_27, z_28, z_29, z_30, z_31, z_32, z_33, z_34, z_35, z_36, z_37, z_38, z_39, z_40, z_41, z_42, z_43, z_44, z_45, z_46, z_47, z_48, z_49, z_50, z_51, z_52, z_53, z_54, z_55, z_56, z_57, z_58, z_59, z_60, z_61, z_62, z_63, z_64, z_65, z_66, z_67, z_68, z_69, z_70, z_71, z_72, z_73, z_74, z_75, z_76, z_77, z_78, z_79, z_80, z_81, z_82, z_83, z_84, z_85, z_86, z_87, z_88, z_89, z_90, z_91, z_92, z_93, z_94, z_95, z_96, z_97, z_98, z_99, z_100, z_101, z_102, z_103, z_104, z_105, z_106, z_107, z_108, z_109, z_110, z_111, z_112, z_113, z_114, z_115, z_116, z_117, z_118, z_119, z_120, z_121, z_122, z_123, z_124, z_125, z_126, z_127, z_199, z_200, z_360, z_410, z_1000, z_1023, z_1024, z_1219, z_9999, z_10240, z_65537]
      rw [m_close _ _ _ (by rw [ud_17]; exact h0) (by rw [ud_17]; exact h1)]
      simp (disch := omega) only [pw_0, up_0, pw_1, up_1, pw_2, up_2, pw_3, up_3, pw_4, up_4, pw_9, up_9, pw_10, up_10, pwi_5, upi_5, pwi_6, upi_6, pwi_7, upi_7, pwi_8, upi_8, pwi_11, upi_11, pw_12, up_12, pw_14, up_14, pw_15, up_15, pw_16, up_16, pw_18, up_18, pw_24, up_24, pw_25, up_25, pw_26, up_26, pw_29, up_29, pw_30, up_30, pw_31, up_31, pwi_13, upi_13, pwi_17, upi_17, pwi_19, upi_19, pwi_20, upi_20, pwi_21, upi_21, pwi_22, upi_22, pwi_23, upi_23, pwi_32, upi_32, pwi_33, upi_33, eC_5, eC_6, eC_13, eC_17, eC_19, eC_20, eC_21, eC_22, eC_23, eC_32, eC_33, eC_p5, eC_p6, eC_p13, eC_p17, eC_p19, eC_p20, eC_p21, eC_p22, eC_p23, eC_p32, eC_p33, s_T, s_F, s_bd, s_cl, s_rd, s_wr, s_ite, z_ite, z_neg, z_add, z_sub, z_mul, z_le, z_lt, z_eq, eC_at, eC_7, eC_8, eC_9, eC_10, eC_11, eC_p7, eC_p8, eC_p9, eC_p10, eC_p11, eC_up, ud_same, ud_ne, if_pos, if_neg, z_0, z_1, z_2, z_3, z_4, z_5, z_6, z_7, z_8, z_9, z_10, z_11, z_12, z_13, z_14, z_15, z_16, z_17, z_18, z_19, z_20, z_21, z_22, z_23, z_24, z_25, z_26, z_27, z_28, z_29, z_30, z_31, z_32, z_33, z_34, z_35, z_36, z_37, z_38, z_39, z_40, z_41, z_42, z_43, z_44, z_45, z_46, z_47, z_48, z_49, z_50, z_51, z_52, z_53, z_54, z_55, z_56, z_57, z_58, z_59, z_60, z_61, z_62, z_63, z_64, z_65, z_66, z_67, z_68, z_69, z_70, z_71, z_72, z_73, z_74, z_75, z_76, z_77, z_78, z_79, z_80, z_81, z_82, z_83, z_84, z_85, z_86, z_87, z_88, z_89, z_90, z_91, z_92, z_93, z_94, z_95, z_96, z_97, z_98, z_99, z_100, z_101, z_102, z_103, z_104, z_105, z_106, z_107, z_108, z_109, z_110, z_111, z_112, z_113, z_114, z_115, z_116, z_117, z_118, z_119, z_120, z_121, z_122, z_123, z_124, z_125, z_126, z_127, z_199, z_200, z_360, z_410, z_1000, z_1023, z_1024, z_1219, z_9999, z_10240, z_65537]
    · by_cases e2 : c = 46
      · subst e2
        simp (disch := omega) only [z_l, zl_65, zl_74, m_in, pw_0, up_0, pw_1, up_1, pw_2, up_2, pw_3, up_3, pw_4, up_4, pw_9, up_9, pw_10, up_10, pwi_5, upi_5, pwi_6, upi_6, pwi_7, upi_7, pwi_8, upi_8, pwi_11, upi_11, pw_12, up_12, pw_14, up_14, pw_15, up_15, pw_16, up_16, pw_18, up_18, pw_24, up_24, pw_25, up_25, pw_26, up_26, pw_29, up_29, pw_30, up_30, pw_31, up_31, pwi_13, upi_13, pwi_17, upi_17, pwi_19, upi_19, pwi_20, upi_20, pwi_21, upi_21, pwi_22, upi_22, pwi_23, upi_23, pwi_32, upi_32, pwi_33, upi_33, eC_5, eC_6, eC_13, eC_17, eC_19, eC_20, eC_21, eC_22, eC_23, eC_32, eC_33, eC_p5, eC_p6, eC_p13, eC_p17, eC_p19, eC_p20, eC_p21, eC_p22, eC_p23, eC_p32, eC_p33, s_T, s_F, s_bd, s_cl, s_rd, s_wr, s_ite, z_ite, z_neg, z_add, z_sub, z_mul, z_le, z_lt, z_eq, eC_at, eC_7, eC_8, eC_9, eC_10, eC_11, eC_p7, eC_p8, eC_p9, eC_p10, eC_p11, eC_up, ud_same, ud_ne, if_pos, if_neg, z_0, z_1, z_2, z_3, z_4, z_5, z_6, z_7, z_8, z_9, z_10, z_11, z_12, z_13, z_14, z_15, z_16, z_17, z_18, z_19, z_20, z_21, z_22, z_23, z_24, z_25, z_26, z_27, z_28, z_29, z_30, z_31, z_32, z_33, z_34, z_35, z_36, z_37, z_38, z_39, z_40, z_41, z_42, z_43, z_44, z_45, z_46, z_47, z_48, z_49, z_50, z_51, z_52, z_53, z_54, z_55, z_56, z_57, z_58, z_59, z_60, z_61, z_62, z_63, z_64, z_65, z_66, z_67, z_68, z_69, z_70, z_71, z_72, z_73, z_74, z_75, z_76, z_77, z_78, z_79, z_80, z_81, z_82, z_83, z_84, z_85, z_86, z_87, z_88, z_89, z_90, z_91, z_92, z_93, z_94, z_95, z_96, z_97, z_98, z_99, z_100, z_101, z_102, z_103, z_104, z_105, z_106, z_107, z_108, z_109, z_110, z_111, z_112, z_113, z_114, z_115, z_116, z_117, z_118, z_119, z_120, z_121, z_122, z_123, z_124, z_125, z_126, z_127, z_199, z_200, z_360, z_410, z_1000, z_1023, z_1024, z_1219, z_9999, z_10240, z_65537]
        rw [m_close _ _ _ (by rw [ud_17]; exact h0) (by rw [ud_17]; exact h1)]
        simp (disch := omega) only [pw_0, up_0, pw_1, up_1, pw_2, up_2, pw_3, up_3, pw_4, up_4, pw_9, up_9, pw_10, up_10, pwi_5, upi_5, pwi_6, upi_6, pwi_7, upi_7, pwi_8, upi_8, pwi_11, upi_11, pw_12, up_12, pw_14, up_14, pw_15, up_15, pw_16, up_16, pw_18, up_18, pw_24, up_24, pw_25, up_25, pw_26, up_26, pw_29, up_29, pw_30, up_30, pw_31, up_31, pwi_13, upi_13, pwi_17, upi_17, pwi_19, upi_19, pwi_20, upi_20, pwi_21, upi_21, pwi_22, upi_22, pwi_23, upi_23, pwi_32, upi_32, pwi_33, upi_33, eC_5, eC_6, eC_13, eC_17, eC_19, eC_20, eC_21, eC_22, eC_23, eC_32, eC_33, eC_p5, eC_p6, eC_p13, eC_p17, eC_p19, eC_p20, eC_p21, eC_p22, eC_p23, eC_p32, eC_p33, s_T, s_F, s_bd, s_cl, s_rd, s_wr, s_ite, z_ite, z_neg, z_add, z_sub, z_mul, z_le, z_lt, z_eq, eC_at, eC_7, eC_8, eC_9, eC_10, eC_11, eC_p7, eC_p8, eC_p9, eC_p10, eC_p11, eC_up, ud_same, ud_ne, if_pos, if_neg, z_0, z_1, z_2, z_3, z_4, z_5, z_6, z_7, z_8, z_9, z_10, z_11, z_12, z_13, z_14, z_15, z_16, z_17, z_18, z_19, z_20, z_21, z_22, z_23, z_24, z_25, z_26, z_27, z_28, z_29, z_30, z_31, z_32, z_33, z_34, z_35, z_36, z_37, z_38, z_39, z_40, z_41, z_42, z_43, z_44, z_45, z_46, z_47, z_48, z_49, z_50, z_51, z_52, z_53, z_54, z_55, z_56, z_57, z_58, z_59, z_60, z_61, z_62, z_63, z_64, z_65, z_66, z_67, z_68, z_69, z_70, z_71, z_72, z_73, z_74, z_75, z_76, z_77, z_78, z_79, z_80, z_81, z_82, z_83, z_84, z_85, z_86, z_87, z_88, z_89, z_90, z_91, z_92, z_93, z_94, z_95, z_96, z_97, z_98, z_99, z_100, z_101, z_102, z_103, z_104, z_105, z_106, z_107, z_108, z_109, z_110, z_111, z_112, z_113, z_114, z_115, z_116, z_117, z_118, z_119, z_120, z_121, z_122, z_123, z_124, z_125, z_126, z_127, z_199, z_200, z_360, z_410, z_1000, z_1023, z_1024, z_1219, z_9999, z_10240, z_65537]
      · by_cases e3 : c = 61
        · subst e3
          simp (disch := omega) only [z_l, zl_65, zl_74, m_in, pw_0, up_0, pw_1, up_1, pw_2, up_2, pw_3, up_3, pw_4, up_4, pw_9, up_9, pw_10, up_10, pwi_5, upi_5, pwi_6, upi_6, pwi_7, upi_7, pwi_8, upi_8, pwi_11, upi_11, pw_12, up_12, pw_14, up_14, pw_15, up_15, pw_16, up_16, pw_18, up_18, pw_24, up_24, pw_25, up_25, pw_26, up_26, pw_29, up_29, pw_30, up_30, pw_31, up_31, pwi_13, upi_13, pwi_17, upi_17, pwi_19, upi_19, pwi_20, upi_20, pwi_21, upi_21, pwi_22, upi_22, pwi_23, upi_23, pwi_32, upi_32, pwi_33, upi_33, eC_5, eC_6, eC_13, eC_17, eC_19, eC_20, eC_21, eC_22, eC_23, eC_32, eC_33, eC_p5, eC_p6, eC_p13, eC_p17, eC_p19, eC_p20, eC_p21, eC_p22, eC_p23, eC_p32, eC_p33, s_T, s_F, s_bd, s_cl, s_rd, s_wr, s_ite, z_ite, z_neg, z_add, z_sub, z_mul, z_le, z_lt, z_eq, eC_at, eC_7, eC_8, eC_9, eC_10, eC_11, eC_p7, eC_p8, eC_p9, eC_p10, eC_p11, eC_up, ud_same, ud_ne, if_pos, if_neg, z_0, z_1, z_2, z_3, z_4, z_5, z_6, z_7, z_8, z_9, z_10, z_11, z_12, z_13, z_14, z_15, z_16, z_17, z_18, z_19, z_20, z_21, z_22, z_23, z_24, z_25, z_26, z_27, z_28, z_29, z_30, z_31, z_32, z_33, z_34, z_35, z_36, z_37, z_38, z_39, z_40, z_41, z_42, z_43, z_44, z_45, z_46, z_47, z_48, z_49, z_50, z_51, z_52, z_53, z_54, z_55, z_56, z_57, z_58, z_59, z_60, z_61, z_62, z_63, z_64, z_65, z_66, z_67, z_68, z_69, z_70, z_71, z_72, z_73, z_74, z_75, z_76, z_77, z_78, z_79, z_80, z_81, z_82, z_83, z_84, z_85, z_86, z_87, z_88, z_89, z_90, z_91, z_92, z_93, z_94, z_95, z_96, z_97, z_98, z_99, z_100, z_101, z_102, z_103, z_104, z_105, z_106, z_107, z_108, z_109, z_110, z_111, z_112, z_113, z_114, z_115, z_116, z_117, z_118, z_119, z_120, z_121, z_122, z_123, z_124, z_125, z_126, z_127, z_199, z_200, z_360, z_410, z_1000, z_1023, z_1024, z_1219, z_9999, z_10240, z_65537]
        · by_cases e4 : c = 126
          · subst e4
            simp (disch := omega) only [z_l, zl_65, zl_74, m_in, pw_0, up_0, pw_1, up_1, pw_2, up_2, pw_3, up_3, pw_4, up_4, pw_9, up_9, pw_10, up_10, pwi_5, upi_5, pwi_6, upi_6, pwi_7, upi_7, pwi_8, upi_8, pwi_11, upi_11, pw_12, up_12, pw_14, up_14, pw_15, up_15, pw_16, up_16, pw_18, up_18, pw_24, up_24, pw_25, up_25, pw_26, up_26, pw_29, up_29, pw_30, up_30, pw_31, up_31, pwi_13, upi_13, pwi_17, upi_17, pwi_19, upi_19, pwi_20, upi_20, pwi_21, upi_21, pwi_22, upi_22, pwi_23, upi_23, pwi_32, upi_32, pwi_33, upi_33, eC_5, eC_6, eC_13, eC_17, eC_19, eC_20, eC_21, eC_22, eC_23, eC_32, eC_33, eC_p5, eC_p6, eC_p13, eC_p17, eC_p19, eC_p20, eC_p21, eC_p22, eC_p23, eC_p32, eC_p33, s_T, s_F, s_bd, s_cl, s_rd, s_wr, s_ite, z_ite, z_neg, z_add, z_sub, z_mul, z_le, z_lt, z_eq, eC_at, eC_7, eC_8, eC_9, eC_10, eC_11, eC_p7, eC_p8, eC_p9, eC_p10, eC_p11, eC_up, ud_same, ud_ne, if_pos, if_neg, z_0, z_1, z_2, z_3, z_4, z_5, z_6, z_7, z_8, z_9, z_10, z_11, z_12, z_13, z_14, z_15, z_16, z_17, z_18, z_19, z_20, z_21, z_22, z_23, z_24, z_25, z_26, z_27, z_28, z_29, z_30, z_31, z_32, z_33, z_34, z_35, z_36, z_37, z_38, z_39, z_40, z_41, z_42, z_43, z_44, z_45, z_46, z_47, z_48, z_49, z_50, z_51, z_52, z_53, z_54, z_55, z_56, z_57, z_58, z_59, z_60, z_61, z_62, z_63, z_64, z_65, z_66, z_67, z_68, z_69, z_70, z_71, z_72, z_73, z_74, z_75, z_76, z_77, z_78, z_79, z_80, z_81, z_82, z_83, z_84, z_85, z_86, z_87, z_88, z_89, z_90, z_91, z_92, z_93, z_94, z_95, z_96, z_97, z_98, z_99, z_100, z_101, z_102, z_103, z_104, z_105, z_106, z_107, z_108, z_109, z_110, z_111, z_112, z_113, z_114, z_115, z_116, z_117, z_118, z_119, z_120, z_121, z_122, z_123, z_124, z_125, z_126, z_127, z_199, z_200, z_360, z_410, z_1000, z_1023, z_1024, z_1219, z_9999, z_10240, z_65537]
            rw [m_close _ _ _ (by rw [ud_17]; exact h0) (by rw [ud_17]; exact h1)]
            simp (disch := omega) only [pw_0, up_0, pw_1, up_1, pw_2, up_2, pw_3, up_3, pw_4, up_4, pw_9, up_9, pw_10, up_10, pwi_5, upi_5, pwi_6, upi_6, pwi_7, upi_7, pwi_8, upi_8, pwi_11, upi_11, pw_12, up_12, pw_14, up_14, pw_15, up_15, pw_16, up_16, pw_18, up_18, pw_24, up_24, pw_25, up_25, pw_26, up_26, pw_29, up_29, pw_30, up_30, pw_31, up_31, pwi_13, upi_13, pwi_17, upi_17, pwi_19, upi_19, pwi_20, upi_20, pwi_21, upi_21, pwi_22, upi_22, pwi_23, upi_23, pwi_32, upi_32, pwi_33, upi_33, eC_5, eC_6, eC_13, eC_17, eC_19, eC_20, eC_21, eC_22, eC_23, eC_32, eC_33, eC_p5, eC_p6, eC_p13, eC_p17, eC_p19, eC_p20, eC_p21, eC_p22, eC_p23, eC_p32, eC_p33, s_T, s_F, s_bd, s_cl, s_rd, s_wr, s_ite, z_ite, z_neg, z_add, z_sub, z_mul, z_le, z_lt, z_eq, eC_at, eC_7, eC_8, eC_9, eC_10, eC_11, eC_p7, eC_p8, eC_p9, eC_p10, eC_p11, eC_up, ud_same, ud_ne, if_pos, if_neg, z_0, z_1, z_2, z_3, z_4, z_5, z_6, z_7, z_8, z_9, z_10, z_11, z_12, z_13, z_14, z_15, z_16, z_17, z_18, z_19, z_20, z_21, z_22, z_23, z_24, z_25, z_26, z_27, z_28, z_29, z_30, z_31, z_32, z_33, z_34, z_35, z_36, z_37, z_38, z_39, z_40, z_41, z_42, z_43, z_44, z_45, z_46, z_47, z_48, z_49, z_50, z_51, z_52, z_53, z_54, z_55, z_56, z_57, z_58, z_59, z_60, z_61, z_62, z_63, z_64, z_65, z_66, z_67, z_68, z_69, z_70, z_71, z_72, z_73, z_74, z_75, z_76, z_77, z_78, z_79, z_80, z_81, z_82, z_83, z_84, z_85, z_86, z_87, z_88, z_89, z_90, z_91, z_92, z_93, z_94, z_95, z_96, z_97, z_98, z_99, z_100, z_101, z_102, z_103, z_104, z_105, z_106, z_107, z_108, z_109, z_110, z_111, z_112, z_113, z_114, z_115, z_116, z_117, z_118, z_119, z_120, z_121, z_122, z_123, z_124, z_125, z_126, z_127, z_199, z_200, z_360, z_410, z_1000, z_1023, z_1024, z_1219, z_9999, z_10240, z_65537]
          · by_cases e5 : c = 107
            · subst e5
              simp (disch := omega) only [z_l, zl_65, zl_74, m_in, or_true, pw_0, up_0, pw_1, up_1, pw_2, up_2, pw_3, up_3, pw_4, up_4, pw_9, up_9, pw_10, up_10, pwi_5, upi_5, pwi_6, upi_6, pwi_7, upi_7, pwi_8, upi_8, pwi_11, upi_11, pw_12, up_12, pw_14, up_14, pw_15, up_15, pw_16, up_16, pw_18, up_18, pw_24, up_24, pw_25, up_25, pw_26, up_26, pw_29, up_29, pw_30, up_30, pw_31, up_31, pwi_13, upi_13, pwi_17, upi_17, pwi_19, upi_19, pwi_20, upi_20, pwi_21, upi_21, pwi_22, upi_22, pwi_23, upi_23, pwi_32, upi_32, pwi_33, upi_33, eC_5, eC_6, eC_13, eC_17, eC_19, eC_20, eC_21, eC_22, eC_23, eC_32, eC_33, eC_p5, eC_p6, eC_p13, eC_p17, eC_p19, eC_p20, eC_p21, eC_p22, eC_p23, eC_p32, eC_p33, s_T, s_F, s_bd, s_cl, s_rd, s_wr, s_ite, z_ite, z_neg, z_add, z_sub, z_mul, z_le, z_lt, z_eq, eC_at, eC_7, eC_8, eC_9, eC_10, eC_11, eC_p7, eC_p8, eC_p9, eC_p10, eC_p11, eC_up, ud_same, ud_ne, if_pos, if_neg, z_0, z_1, z_2, z_3, z_4, z_5, z_6, z_7, z_8, z_9, z_10, z_11, z_12, z_13, z_14, z_15, z_16, z_17, z_18, z_19, z_20, z_21, z_22, z_23, z_24, z_25, z_26, z_27, z_28, z_29, z_30, z_31, z_32, z_33, z_34, z_35, z_36, z_37, z_38, z_39, z_40, z_41, z_42, z_43, z_44, z_45, z_46, z_47, z_48, z_49, z_50, z_51, z_52, z_53, z_54, z_55, z_56, z_57, z_58, z_59, z_60, z_61, z_62, z_63, z_64, z_65, z_66, z_67, z_68, z_69, z_70, z_71, z_72, z_73, z_74, z_75, z_76, z_77, z_78, z_79, z_80, z_81, z_82, z_83, z_84, z_85, z_86, z_87, z_88, z_89, z_90, z_91, z_92, z_93, z_94, z_95, z_96, z_97, z_98, z_99, z_100, z_101, z_102, z_103, z_104, z_105, z_106, z_107, z_108, z_109, z_110, z_111, z_112, z_113, z_114, z_115, z_116, z_117, z_118, z_119, z_120, z_121, z_122, z_123, z_124, z_125, z_126, z_127, z_199, z_200, z_360, z_410, z_1000, z_1023, z_1024, z_1219, z_9999, z_10240, z_65537]
              rw [m_close _ _ _ (by rw [ud_17]; exact h0) (by rw [ud_17]; exact h1)]
              simp (disch := omega) only [pw_0, up_0, pw_1, up_1, pw_2, up_2, pw_3, up_3, pw_4, up_4, pw_9, up_9, pw_10, up_10, pwi_5, upi_5, pwi_6, upi_6, pwi_7, upi_7, pwi_8, upi_8, pwi_11, upi_11, pw_12, up_12, pw_14, up_14, pw_15, up_15, pw_16, up_16, pw_18, up_18, pw_24, up_24, pw_25, up_25, pw_26, up_26, pw_29, up_29, pw_30, up_30, pw_31, up_31, pwi_13, upi_13, pwi_17, upi_17, pwi_19, upi_19, pwi_20, upi_20, pwi_21, upi_21, pwi_22, upi_22, pwi_23, upi_23, pwi_32, upi_32, pwi_33, upi_33, eC_5, eC_6, eC_13, eC_17, eC_19, eC_20, eC_21, eC_22, eC_23, eC_32, eC_33, eC_p5, eC_p6, eC_p13, eC_p17, eC_p19, eC_p20, eC_p21, eC_p22, eC_p23, eC_p32, eC_p33, s_T, s_F, s_bd, s_cl, s_rd, s_wr, s_ite, z_ite, z_neg, z_add, z_sub, z_mul, z_le, z_lt, z_eq, eC_at, eC_7, eC_8, eC_9, eC_10, eC_11, eC_p7, eC_p8, eC_p9, eC_p10, eC_p11, eC_up, ud_same, ud_ne, if_pos, if_neg, z_0, z_1, z_2, z_3, z_4, z_5, z_6, z_7, z_8, z_9, z_10, z_11, z_12, z_13, z_14, z_15, z_16, z_17, z_18, z_19, z_20, z_21, z_22, z_23, z_24, z_25, z_26, z_27, z_28, z_29, z_30, z_31, z_32, z_33, z_34, z_35, z_36, z_37, z_38, z_39, z_40, z_41, z_42, z_43, z_44, z_45, z_46, z_47, z_48, z_49, z_50, z_51, z_52, z_53, z_54, z_55, z_56, z_57, z_58, z_59, z_60, z_61, z_62, z_63, z_64, z_65, z_66, z_67, z_68, z_69, z_70, z_71, z_72, z_73, z_74, z_75, z_76, z_77, z_78, z_79, z_80, z_81, z_82, z_83, z_84, z_85, z_86, z_87, z_88, z_89, z_90, z_91, z_92, z_93, z_94, z_95, z_96, z_97, z_98, z_99, z_100, z_101, z_102, z_103, z_104, z_105, z_106, z_107, z_108, z_109, z_110, z_111, z_112, z_113, z_114, z_115, z_116, z_117, z_118, z_119, z_120, z_121, z_122, z_123, z_124, z_125, z_126, z_127, z_199, z_200, z_360, z_410, z_1000, z_1023, z_1024, z_1219, z_9999, z_10240, z_65537]
            · simp (disch := omega) only [z_l, zl_65, zl_74, m_in, pw_0, up_0, pw_1, up_1, pw_2, up_2, pw_3, up_3, pw_4, up_4, pw_9, up_9, pw_10, up_10, pwi_5, upi_5, pwi_6, upi_6, pwi_7, upi_7, pwi_8, upi_8, pwi_11, upi_11, pw_12, up_12, pw_14, up_14, pw_15, up_15, pw_16, up_16, pw_18, up_18, pw_24, up_24, pw_25, up_25, pw_26, up_26, pw_29, up_29, pw_30, up_30, pw_31, up_31, pwi_13, upi_13, pwi_17, upi_17, pwi_19, upi_19, pwi_20, upi_20, pwi_21, upi_21, pwi_22, upi_22, pwi_23, upi_23, pwi_32, upi_32, pwi_33, upi_33, eC_5, eC_6, eC_13, eC_17, eC_19, eC_20, eC_21, eC_22, eC_23, eC_32, eC_33, eC_p5, eC_p6, eC_p13, eC_p17, eC_p19, eC_p20, eC_p21, eC_p22, eC_p23, eC_p32, eC_p33, s_T, s_F, s_bd, s_cl, s_rd, s_wr, s_ite, z_ite, z_neg, z_add, z_sub, z_mul, z_le, z_lt, z_eq, eC_at, eC_7, eC_8, eC_9, eC_10, eC_11, eC_p7, eC_p8, eC_p9, eC_p10, eC_p11, eC_up, ud_same, ud_ne, if_pos, if_neg, z_0, z_1, z_2, z_3, z_4, z_5, z_6, z_7, z_8, z_9, z_10, z_11, z_12, z_13, z_14, z_15, z_16, z_17, z_18, z_19, z_20, z_21, z_22, z_23, z_24, z_25, z_26, z_27, z_28, z_29, z_30, z_31, z_32, z_33, z_34, z_35, z_36, z_37, z_38, z_39, z_40, z_41, z_42, z_43, z_44, z_45, z_46, z_47, z_48, z_49, z_50, z_51, z_52, z_53, z_54, z_55, z_56, z_57, z_58, z_59, z_60, z_61, z_62, z_63, z_64, z_65, z_66, z_67, z_68, z_69, z_70, z_71, z_72, z_73, z_74, z_75, z_76, z_77, z_78, z_79, z_80, z_81, z_82, z_83, z_84, z_85, z_86, z_87, z_88, z_89, z_90, z_91, z_92, z_93, z_94, z_95, z_96, z_97, z_98, z_99, z_100, z_101, z_102, z_103, z_104, z_105, z_106, z_107, z_108, z_109, z_110, z_111, z_112, z_113, z_114, z_115, z_116, z_117, z_118, z_119, z_120, z_121, z_122, z_123, z_124, z_125, z_126, z_127, z_199, z_200, z_360, z_410, z_1000, z_1023, z_1024, z_1219, z_9999, z_10240, z_65537]
def rdM (m : Nat → Int → Int) (due c : Int) : Int × (Nat → Int → Int) :=
  if due = 0 then begM m c
  else if due = 1 then (if 48 ≤ c ∧ c ≤ 57 then 2 else -6, ud m 15 (m 99 17) (c - 48))
  else if 49 ≤ c ∧ c ≤ 57 then (0, closeM m 0 (10 * (c - 48))) else (-6, m)
theorem m_readOn (m d : Nat → Int → Int) (τ : qL) (h0 : 0 ≤ m 99 17) (h1 : m 99 17 < 60) {due c : Int} (d0 : 0 ≤ due) (d1 : due ≤ 2) (c0 : 0 ≤ c) (c1 : c ≤ 126) : f_X7_readOn (eC (pw m d)) τ (zI due) (zI c) = some (zI (rdM m due c).1, eC (pw (rdM m due c).2 d)) := by
  unfold f_X7_readOn rdM
  rcases (show due = 0 ∨ due = 1 ∨ due = 2 by omega) with e | e | e <;> subst e
  · simp (disch := omega) only [m_begin m d τ h0 h1 c0 c1, pw_0, up_0, pw_1, up_1, pw_2, up_2, pw_3, up_3, pw_4, up_4, pw_9, up_9, pw_10, up_10, pwi_5, upi_5, pwi_6, upi_6, pwi_7, upi_7, pwi_8, upi_8, pwi_11, upi_11, pw_12, up_12, pw_14, up_14, pw_15, up_15, pw_16, up_16, pw_18, up_18, pw_24, up_24, pw_25, up_25, pw_26, up_26, pw_29, up_29, pw_30, up_30, pw_31, up_31, pwi_13, upi_13, pwi_17, upi_17, pwi_19, upi_19, pwi_20, upi_20, pwi_21, upi_21, pwi_22, upi_22, pwi_23, upi_23, pwi_32, upi_32, pwi_33, upi_33, eC_5, eC_6, eC_13, eC_17, eC_19, eC_20, eC_21, eC_22, eC_23, eC_32, eC_33, eC_p5, eC_p6, eC_p13, eC_p17, eC_p19, eC_p20, eC_p21, eC_p22, eC_p23, eC_p32, eC_p33, s_T, s_F, s_bd, s_cl, s_rd, s_wr, s_ite, z_ite, z_neg, z_add, z_sub, z_mul, z_le, z_lt, z_eq, eC_at, eC_7, eC_8, eC_9, eC_10, eC_11, eC_p7, eC_p8, eC_p9, eC_p10, eC_p11, eC_up, ud_same, ud_ne, if_pos, if_neg, z_0, z_1, z_2, z_3, z_4, z_5, z_6, z_7, z_8, z_9, z_10, z_11, z_12, z_13, z_14, z_15, z_16, z_17, z_18, z_19, z_20, z_21, z_22, z_23, z_24, z_25, z_26, z_27, z_28, z_29, z_30, z_31, z_32, z_33, z_34, z_35, z_36, z_37, z_38, z_39, z_40, z_41, z_42, z_43, z_44, z_45, z_46, z_47, z_48, z_49, z_50, z_51, z_52, z_53, z_54, z_55, z_56, z_57, z_58, z_59, z_60, z_61, z_62, z_63, z_64, z_65, z_66, z_67, z_68, z_69, z_70, z_71, z_72, z_73, z_74, z_75, z_76, z_77, z_78, z_79, z_80, z_81, z_82, z_83, z_84, z_85, z_86, z_87, z_88, z_89, z_90, z_91, z_92, z_93, z_94, z_95, z_96, z_97, z_98, z_99, z_100, z_101, z_102, z_103, z_104, z_105, z_106, z_107, z_108, z_109, z_110, z_111, z_112, z_113, z_114, z_115, z_116, z_117, z_118, z_119, z_120, z_121, z_122, z_123, z_124, z_125, z_126, z_127, z_199, z_200, z_360, z_410, z_1000, z_1023, z_1024, z_1219, z_9999, z_10240, z_65537]
  · by_cases hc : 48 ≤ c ∧ c ≤ 57
    · simp (disch := omega) only [z_l, zl_48, zl_57, m_in, pw_0, up_0, pw_1, up_1, pw_2, up_2, pw_3, up_3, pw_4, up_4, pw_9, up_9, pw_10, up_10, pwi_5, upi_5, pwi_6, upi_6, pwi_7, upi_7, pwi_8, upi_8, pwi_11, upi_11, pw_12, up_12, pw_14, up_14, pw_15, up_15, pw_16, up_16, pw_18, up_18, pw_24, up_24, pw_25, up_25, pw_26, up_26, pw_29, up_29, pw_30, up_30, pw_31, up_31, pwi_13, upi_13, pwi_17, upi_17, pwi_19, upi_19, pwi_20, upi_20, pwi_21, upi_21, pwi_22, upi_22, pwi_23, upi_23, pwi_32, upi_32, pwi_33, upi_33, eC_5, eC_6, eC_13, eC_17, eC_19, eC_20, eC_21, eC_22, eC_23, eC_32, eC_33, eC_p5, eC_p6, eC_p13, eC_p17, eC_p19, eC_p20, eC_p21, eC_p22, eC_p23, eC_p32, eC_p33, s_T, s_F, s_bd, s_cl, s_rd, s_wr, s_ite, z_ite, z_neg, z_add, z_sub, z_mul, z_le, z_lt, z_eq, eC_at, eC_7, eC_8, eC_9, eC_10, eC_11, eC_p7, eC_p8, eC_p9, eC_p10, eC_p11, eC_up, ud_same, ud_ne, if_pos, if_neg, z_0, z_1, z_2, z_3, z_4, z_5, z_6, z_7, z_8, z_9, z_10, z_11, z_12, z_13, z_14, z_15, z_16, z_17, z_18, z_19, z_20, z_21, z_22, z_23, z_24, z_25, z_26, z_27, z_28, z_29, z_30, z_31, z_32, z_33, z_34, z_35, z_36, z_37, z_38, z_39, z_40, z_41, z_42, z_43, z_44, z_45, z_46, z_47, z_48, z_49, z_50, z_51, z_52, z_53, z_54, z_55, z_56, z_57, z_58, z_59, z_60, z_61, z_62, z_63, z_64, z_65, z_66, z_67, z_68, z_69, z_70, z_71, z_72, z_73, z_74, z_75, z_76, z_77, z_78, z_79, z_80, z_81, z_82, z_83, z_84, z_85, z_86, z_87, z_88, z_89, z_90, z_91, z_92, z_93, z_94, z_95, z_96, z_97, z_98, z_99, z_100, z_101, z_102, z_103, z_104, z_105, z_106, z_107, z_108, z_109, z_110, z_111, z_112, z_113, z_114, z_115, z_116, z_117, z_118, z_119, z_120, z_121, z_122, z_123, z_124, z_125, z_126, z_127, z_199, z_200, z_360, z_410, z_1000, z_1023, z_1024, z_1219, z_9999, z_10240, z_65537]
    · simp (disch := omega) only [z_l, zl_48, zl_57, m_in, pw_0, up_0, pw_1, up_1, pw_2, up_2, pw_3, up_3, pw_4, up_4, pw_9, up_9, pw_10, up_10, pwi_5, upi_5, pwi_6, upi_6, pwi_7, upi_7, pwi_8, upi_8, pwi_11, upi_11, pw_12, up_12, pw_14, up_14, pw_15, up_15, pw_16, up_16, pw_18, up_18, pw_24, up_24, pw_25, up_25, pw_26, up_26, pw_29, up_29, pw_30, up_30, pw_31, up_31, pwi_13, upi_13, pwi_17, upi_17, pwi_19, upi_19, pwi_20, upi_20, pwi_21, upi_21, pwi_22, upi_22, pwi_23, upi_23, pwi_32, upi_32, pwi_33, upi_33, eC_5, eC_6, eC_13, eC_17, eC_19, eC_20, eC_21, eC_22, eC_23, eC_32, eC_33, eC_p5, eC_p6, eC_p13, eC_p17, eC_p19, eC_p20, eC_p21, eC_p22, eC_p23, eC_p32, eC_p33, s_T, s_F, s_bd, s_cl, s_rd, s_wr, s_ite, z_ite, z_neg, z_add, z_sub, z_mul, z_le, z_lt, z_eq, eC_at, eC_7, eC_8, eC_9, eC_10, eC_11, eC_p7, eC_p8, eC_p9, eC_p10, eC_p11, eC_up, ud_same, ud_ne, if_pos, if_neg, z_0, z_1, z_2, z_3, z_4, z_5, z_6, z_7, z_8, z_9, z_10, z_11, z_12, z_13, z_14, z_15, z_16, z_17, z_18, z_19, z_20, z_21, z_22, z_23, z_24, z_25, z_26, z_27, z_28, z_29, z_30, z_31, z_32, z_33, z_34, z_35, z_36, z_37, z_38, z_39, z_40, z_41, z_42, z_43, z_44, z_45, z_46, z_47, z_48, z_49, z_50, z_51, z_52, z_53, z_54, z_55, z_56, z_57, z_58, z_59, z_60, z_61, z_62, z_63, z_64, z_65, z_66, z_67, z_68, z_69, z_70, z_71, z_72, z_73, z_74, z_75, z_76, z_77, z_78, z_79, z_80, z_81, z_82, z_83, z_84, z_85, z_86, z_87, z_88, z_89, z_90, z_91, z_92, z_93, z_94, z_95, z_96, z_97, z_98, z_99, z_100, z_101, z_102, z_103, z_104, z_105, z_106, z_107, z_108, z_109, z_110, z_111, z_112, z_113, z_114, z_115, z_116, z_117, z_118, z_119, z_120, z_121, z_122, z_123, z_124, z_125, z_126, z_127, z_199, z_200, z_360, z_410, z_1000, z_1023, z_1024, z_1219, z_9999, z_10240, z_65537]
  · by_cases hc : 49 ≤ c ∧ c ≤ 57
    · simp (disch := omega) only [z_l, zl_49, zl_57, m_in, m_close m d τ h0 h1, pw_0, up_0, pw_1, up_1, pw_2, up_2, pw_3, up_3, pw_4, up_4, pw_9, up_9, pw_10, up_10, pwi_5, upi_5, pwi_6, upi_6, pwi_7, upi_7, pwi_8, upi_8, pwi_11, upi_11, pw_12, up_12, pw_14, up_14, pw_15, up_15, pw_16, up_16, pw_18, up_18, pw_24, up_24, pw_25, up_25, pw_26, up_26, pw_29, up_29, pw_30, up_30, pw_31, up_31, pwi_13, upi_13, pwi_17, upi_17, pwi_19, upi_19, pwi_20, upi_20, pwi_21, upi_21, pwi_22, upi_22, pwi_23, upi_23, pwi_32, upi_32, pwi_33, upi_33, eC_5, eC_6, eC_13, eC_17, eC_19, eC_20, eC_21, eC_22, eC_23, eC_32, eC_33, eC_p5, eC_p6, eC_p13, eC_p17, eC_p19, eC_p20, eC_p21, eC_p22, eC_p23, eC_p32, eC_p33, s_T, s_F, s_bd, s_cl, s_rd, s_wr, s_ite, z_ite, z_neg, z_add, z_sub, z_mul, z_le, z_lt, z_eq, eC_at, eC_7, eC_8, eC_9, eC_10, eC_11, eC_p7, eC_p8, eC_p9, eC_p10, eC_p11, eC_up, ud_same, ud_ne, if_pos, if_neg, z_0, z_1, z_2, z_3, z_4, z_5, z_6, z_7, z_8, z_9, z_10, z_11, z_12, z_13, z_14, z_15, z_16, z_17, z_18, z_19, z_20, z_21, z_22, z_23, z_24, z_25, z_26, z_27, z_28, z_29, z_30, z_31, z_32, z_33, z_34, z_35, z_36, z_37, z_38, z_39, z_40, z_41, z_42, z_43, z_44, z_45, z_46, z_47, z_48, z_49, z_50, z_51, z_52, z_53, z_54, z_55, z_56, z_57, z_58, z_59, z_60, z_61, z_62, z_63, z_64, z_65, z_66, z_67, z_68, z_69, z_70, z_71, z_72, z_73, z_74, z_75, z_76, z_77, z_78, z_79, z_80, z_81, z_82, z_83, z_84, z_85, z_86, z_87, z_88, z_89, z_90, z_91, z_92, z_93, z_94, z_95, z_96, z_97, z_98, z_99, z_100, z_101, z_102, z_103, z_104, z_105, z_106, z_107, z_108, z_109, z_110, z_111, z_112, z_113, z_114, z_115, z_116, z_117, z_118, z_119, z_120, z_121, z_122, z_123, z_124, z_125, z_126, z_127, z_199, z_200, z_360, z_410, z_1000, z_1023, z_1024, z_1219, z_9999, z_10240, z_65537]
    · simp (disch := omega) only [z_l, zl_49, zl_57, m_in, pw_0, up_0, pw_1, up_1, pw_2, up_2, pw_3, up_3, pw_4, up_4, pw_9, up_9, pw_10, up_10, pwi_5, upi_5, pwi_6, upi_6, pwi_7, upi_7, pwi_8, upi_8, pwi_11, upi_11, pw_12, up_12, pw_14, up_14, pw_15, up_15, pw_16, up_16, pw_18, up_18, pw_24, up_24, pw_25, up_25, pw_26, up_26, pw_29, up_29, pw_30, up_30, pw_31, up_31, pwi_13, upi_13, pwi_17, upi_17, pwi_19, upi_19, pwi_20, upi_20, pwi_21, upi_21, pwi_22, upi_22, pwi_23, upi_23, pwi_32, upi_32, pwi_33, upi_33, eC_5, eC_6, eC_13, eC_17, eC_19, eC_20, eC_21, eC_22, eC_23, eC_32, eC_33, eC_p5, eC_p6, eC_p13, eC_p17, eC_p19, eC_p20, eC_p21, eC_p22, eC_p23, eC_p32, eC_p33, s_T, s_F, s_bd, s_cl, s_rd, s_wr, s_ite, z_ite, z_neg, z_add, z_sub, z_mul, z_le, z_lt, z_eq, eC_at, eC_7, eC_8, eC_9, eC_10, eC_11, eC_p7, eC_p8, eC_p9, eC_p10, eC_p11, eC_up, ud_same, ud_ne, if_pos, if_neg, z_0, z_1, z_2, z_3, z_4, z_5, z_6, z_7, z_8, z_9, z_10, z_11, z_12, z_13, z_14, z_15, z_16, z_17, z_18, z_19, z_20, z_21, z_22, z_23, z_24, z_25, z_26, z_27, z_28, z_29, z_30, z_31, z_32, z_33, z_34, z_35, z_36, z_37, z_38, z_39, z_40, z_41, z_42, z_43, z_44, z_45, z_46, z_47, z_48, z_49, z_50, z_51, z_52, z_53, z_54, z_55, z_56, z_57, z_58, z_59, z_60, z_61, z_62, z_63, z_64, z_65, z_66, z_67, z_68, z_69, z_70, z_71, z_72, z_73, z_74, z_75, z_76, z_77, z_78, z_79, z_80, z_81, z_82, z_83, z_84, z_85, z_86, z_87, z_88, z_89, z_90, z_91, z_92, z_93, z_94, z_95, z_96, z_97, z_98, z_99, z_100, z_101, z_102, z_103, z_104, z_105, z_106, z_107, z_108, z_109, z_110, z_111, z_112, z_113, z_114, z_115, z_116, z_117, z_118, z_119, z_120, z_121, z_122, z_123, z_124, z_125, z_126, z_127, z_199, z_200, z_360, z_410, z_1000, z_1023, z_1024, z_1219, z_9999, z_10240, z_65537]
def prM (e : Nat → Int → Int) : Nat → Int → Int → (Nat → Int → Int) → Int × (Nat → Int → Int)
  | 0, _, _, m => (0, m)
  | N + 1, i, due, m => if e 99 1 ≤ i then (if due = 0 then -6 else e 99 1, m)
    else if 0 ≤ (rdM m due (e 0 i)).1 then prM e N (i + 1) (rdM m due (e 0 i)).1 (rdM m due (e 0 i)).2 else (i, (rdM m due (e 0 i)).2)
/-- what reading leaves alone -/
def frm (t : Int) (m m' : Nat → Int → Int) : Prop := ∀ k i, ¬ ((k = 14 ∨ k = 15 ∨ k = 16) ∧ t ≤ i) → ¬ (k = 99 ∧ i = 17) → m' k i = m k i
theorem frm_rf (t : Int) (m : Nat → Int → Int) : frm t m m := fun _ _ _ _ => rfl
theorem frm_tr {t u : Int} {m m' m'' : Nat → Int → Int} (h : frm t m m') (h' : frm u m' m'') (hu : t ≤ u) : frm t m m'' := fun k i a b => by
  rw [h' k i (fun z => a ⟨z.1, by omega⟩) b, h k i a b]
theorem frm_close {m : Nat → Int → Int} {k v : Int} : frm (m 99 17) m (closeM m k v) := fun a b h1 h2 => by
  unfold closeM
  rw [ud_ne _ _ (by omega), ud_ne _ _ (by omega), ud_ne _ _ (by omega)]
theorem frm_15 {m : Nat → Int → Int} {v : Int} : frm (m 99 17) m (ud m 15 (m 99 17) v) := fun a b h1 h2 => by
  rw [ud_ne _ _ (by omega)]
theorem close_17 (m : Nat → Int → Int) (k v : Int) : closeM m k v 99 17 = m 99 17 + 1 := ud_same _ _ _ _
/-- a step of reading: what it leaves alone, how many acts -/
theorem rdM_frm (m : Nat → Int → Int) {due c : Int} (d0 : 0 ≤ due) (d1 : due ≤ 2) : frm (m 99 17) m (rdM m due c).2 ∧ (((rdM m due c).1 = 0 ∧ (rdM m due c).2 99 17 = m 99 17 + 1) ∨ ((rdM m due c).1 = due + 1 ∧ due ≤ 1 ∧ (rdM m due c).2 99 17 = m 99 17) ∨ ((rdM m due c).1 = -6 ∧ (rdM m due c).2 99 17 = m 99 17)) := by
  have key : ∀ k v w, frm (m 99 17) m (closeM (ud m 15 (m 99 17) w) k v) ∧ closeM (ud m 15 (m 99 17) w) k v 99 17 = m 99 17 + 1 := by
    intro k v w
    refine ⟨?_, ?_⟩
    · have h := frm_close (m := ud m 15 (m 99 17) w) (k := k) (v := v)
      rw [ud_17] at h
      exact frm_tr frm_15 h (Int.le_refl _)
    · rw [close_17, ud_17]
  have k15 : ∀ w, frm (m 99 17) m (ud m 15 (m 99 17) w) ∧ ud m 15 (m 99 17) w 99 17 = m 99 17 := fun w => ⟨frm_15, ud_17 _ _ _⟩
  unfold rdM
  split
  · next e =>
    subst e
    unfold begM
    dsimp only
    repeat' split
    all_goals try dsimp only
    all_goals first
      | exact ⟨(key _ _ _).1, Or.inl ⟨rfl, (key _ _ _).2⟩⟩
      | exact ⟨(k15 _).1, Or.inr (Or.inl ⟨rfl, by decide, (k15 _).2⟩)⟩
      | exact ⟨(k15 _).1, Or.inr (Or.inr ⟨rfl, (k15 _).2⟩)⟩
  · split
    · next e =>
      subst e
      dsimp only
      split
      · exact ⟨(k15 _).1, Or.inr (Or.inl ⟨rfl, by decide, (k15 _).2⟩)⟩
      · exact ⟨(k15 _).1, Or.inr (Or.inr ⟨rfl, (k15 _).2⟩)⟩
    · split
      · exact ⟨frm_close (k := 0) (v := 10 * (c - 48)), Or.inl ⟨rfl, close_17 m 0 (10 * (c - 48))⟩⟩
      · exact ⟨frm_rf _ _, Or.inr (Or.inr ⟨rfl, rfl⟩)⟩
theorem prM_frm (e : Nat → Int → Int) : ∀ (N : Nat) (i due : Int) (m : Nat → Int → Int), 0 ≤ due → due ≤ 2 → frm (m 99 17) m (prM e N i due m).2 ∧ m 99 17 ≤ (prM e N i due m).2 99 17 := by
  intro N
  induction N with
  | zero => intro i due m _ _; exact ⟨frm_rf _ _, Int.le_refl _⟩
  | succ N ih =>
    intro i due m d0 d1
    unfold prM
    split
    · exact ⟨frm_rf _ _, Int.le_refl _⟩
    · obtain ⟨h1, h2⟩ := rdM_frm m (c := e 0 i) d0 d1
      split
      · next z =>
        have := ih (i + 1) (rdM m due (e 0 i)).1 (rdM m due (e 0 i)).2 z (by omega)
        exact ⟨frm_tr h1 this.1 (by omega), by omega⟩
      · exact ⟨h1, by dsimp only; omega⟩
/-- what the reference says of the pad -/
def mpad (m e : Nat → Int → Int) : Prop := (∀ i, m 12 i = e 0 i) ∧ m 99 13 = e 99 1
theorem mpad_frm {t : Int} {m m' e : Nat → Int → Int} (h : mpad m e) (hf : frm t m m') : mpad m' e :=
  ⟨fun i => by rw [hf 12 i (by omega) (by omega)]; exact h.1 i, by rw [hf 99 13 (by omega) (by omega)]; exact h.2⟩
theorem m_parse {e : Nat → Int → Int} (he : okp e) (d : Nat → Int → Int) (τ : qL) : ∀ (N : Nat) (a : Int × Int × (Nat → Int → Int)), ((0 ≤ a.1 ∧ a.1 ≤ 100 ∧ (e 99 1 - a.1).toNat < N) ∧ (0 ≤ a.2.1 ∧ a.2.1 ≤ 2) ∧ mpad a.2.2 e ∧ 0 ≤ a.2.2 99 17 ∧ a.2.2 99 17 + a.2.1 ≤ a.1) →
    q_lp (b_X7_fault_9 τ) (fun z3 => if z3.2.1 = 0 then (some ((-6 : Int32), z3.2.2)) else some (z3.2.2 99 13, z3.2.2)) N (zI a.1, zI a.2.1, eC (pw a.2.2 d)) = some (zI (prM e N a.1 a.2.1 a.2.2).1, eC (pw (prM e N a.1 a.2.1 a.2.2).2 d)) := by
  refine lp_en (fun a : Int × Int × (Nat → Int → Int) => (zI a.1, zI a.2.1, eC (pw a.2.2 d))) (fun N a => some (zI (prM e N a.1 a.2.1 a.2.2).1, eC (pw (prM e N a.1 a.2.1 a.2.2).2 d))) (fun N a => (0 ≤ a.1 ∧ a.1 ≤ 100 ∧ (e 99 1 - a.1).toNat < N) ∧ (0 ≤ a.2.1 ∧ a.2.1 ≤ 2) ∧ mpad a.2.2 e ∧ 0 ≤ a.2.2 99 17 ∧ a.2.2 99 17 + a.2.1 ≤ a.1) (fun a => by omega) ?_
  rintro again N ⟨i, due, m⟩ ⟨⟨h0, h1, h2⟩, ⟨hd0, hd1⟩, hp, ha0, ha1⟩ ih
  dsimp only at h0 h1 h2 hd0 hd1 hp ha0 ha1 ih ⊢
  have hn := he.2
  have h13 := hp.2
  have hc := he.1 i
  have h12 := hp.1 i
  unfold b_X7_fault_9 prM
  by_cases c : e 99 1 ≤ i
  · by_cases c2 : due = 0
    · simp (disch := omega) only [h13, pw_0, up_0, pw_1, up_1, pw_2, up_2, pw_3, up_3, pw_4, up_4, pw_9, up_9, pw_10, up_10, pwi_5, upi_5, pwi_6, upi_6, pwi_7, upi_7, pwi_8, upi_8, pwi_11, upi_11, pw_12, up_12, pw_14, up_14, pw_15, up_15, pw_16, up_16, pw_18, up_18, pw_24, up_24, pw_25, up_25, pw_26, up_26, pw_29, up_29, pw_30, up_30, pw_31, up_31, pwi_13, upi_13, pwi_17, upi_17, pwi_19, upi_19, pwi_20, upi_20, pwi_21, upi_21, pwi_22, upi_22, pwi_23, upi_23, pwi_32, upi_32, pwi_33, upi_33, eC_5, eC_6, eC_13, eC_17, eC_19, eC_20, eC_21, eC_22, eC_23, eC_32, eC_33, eC_p5, eC_p6, eC_p13, eC_p17, eC_p19, eC_p20, eC_p21, eC_p22, eC_p23, eC_p32, eC_p33, s_T, s_F, s_bd, s_cl, s_rd, s_wr, s_ite, z_ite, z_neg, z_add, z_sub, z_mul, z_le, z_lt, z_eq, eC_at, eC_7, eC_8, eC_9, eC_10, eC_11, eC_p7, eC_p8, eC_p9, eC_p10, eC_p11, eC_up, ud_same, ud_ne, if_pos, if_neg, z_0, z_1, z_2, z_3, z_4, z_5, z_6, z_7, z_8, z_9, z_10, z_11, z_12, z_13, z_14, z_15, z_16, z_17, z_18, z_19, z_20, z_21, z_22, z_23, z_24, z_25, z_26, z_27, z_28, z_29, z_30, z_31, z_32, z_33, z_34, z_35, z_36, z_37, z_38, z_39, z_40, z_41, z_42, z_43, z_44, z_45, z_46, z_47, z_48, z_49, z_50, z_51, z_52, z_53, z_54, z_55, z_56, z_57, z_58, z_59, z_60, z_61, z_62, z_63, z_64, z_65, z_66, z_67, z_68, z_69, z_70, z_71, z_72, z_73, z_74, z_75, z_76, z_77, z_78, z_79, z_80, z_81, z_82, z_83, z_84, z_85, z_86, z_87, z_88, z_89, z_90, z_91, z_92, z_93, z_94, z_95, z_96, z_97, z_98, z_99, z_100, z_101, z_102, z_103, z_104, z_105, z_106, z_107, z_108, z_109, z_110, z_111, z_112, z_113, z_114, z_115, z_116, z_117, z_118, z_119, z_120, z_121, z_122, z_123, z_124, z_125, z_126, z_127, z_199, z_200, z_360, z_410, z_1000, z_1023, z_1024, z_1219, z_9999, z_10240, z_65537]
    · simp (disch := omega) only [h13, pw_0, up_0, pw_1, up_1, pw_2, up_2, pw_3, up_3, pw_4, up_4, pw_9, up_9, pw_10, up_10, pwi_5, upi_5, pwi_6, upi_6, pwi_7, upi_7, pwi_8, upi_8, pwi_11, upi_11, pw_12, up_12, pw_14, up_14, pw_15, up_15, pw_16, up_16, pw_18, up_18, pw_24, up_24, pw_25, up_25, pw_26, up_26, pw_29, up_29, pw_30, up_30, pw_31, up_31, pwi_13, upi_13, pwi_17, upi_17, pwi_19, upi_19, pwi_20, upi_20, pwi_21, upi_21, pwi_22, upi_22, pwi_23, upi_23, pwi_32, upi_32, pwi_33, upi_33, eC_5, eC_6, eC_13, eC_17, eC_19, eC_20, eC_21, eC_22, eC_23, eC_32, eC_33, eC_p5, eC_p6, eC_p13, eC_p17, eC_p19, eC_p20, eC_p21, eC_p22, eC_p23, eC_p32, eC_p33, s_T, s_F, s_bd, s_cl, s_rd, s_wr, s_ite, z_ite, z_neg, z_add, z_sub, z_mul, z_le, z_lt, z_eq, eC_at, eC_7, eC_8, eC_9, eC_10, eC_11, eC_p7, eC_p8, eC_p9, eC_p10, eC_p11, eC_up, ud_same, ud_ne, if_pos, if_neg, z_0, z_1, z_2, z_3, z_4, z_5, z_6, z_7, z_8, z_9, z_10, z_11, z_12, z_13, z_14, z_15, z_16, z_17, z_18, z_19, z_20, z_21, z_22, z_23, z_24, z_25, z_26, z_27, z_28, z_29, z_30, z_31, z_32, z_33, z_34, z_35, z_36, z_37, z_38, z_39, z_40, z_41, z_42, z_43, z_44, z_45, z_46, z_47, z_48, z_49, z_50, z_51, z_52, z_53, z_54, z_55, z_56, z_57, z_58, z_59, z_60, z_61, z_62, z_63, z_64, z_65, z_66, z_67, z_68, z_69, z_70, z_71, z_72, z_73, z_74, z_75, z_76, z_77, z_78, z_79, z_80, z_81, z_82, z_83, z_84, z_85, z_86, z_87, z_88, z_89, z_90, z_91, z_92, z_93, z_94, z_95, z_96, z_97, z_98, z_99, z_100, z_101, z_102, z_103, z_104, z_105, z_106, z_107, z_108, z_109, z_110, z_111, z_112, z_113, z_114, z_115, z_116, z_117, z_118, z_119, z_120, z_121, z_122, z_123, z_124, z_125, z_126, z_127, z_199, z_200, z_360, z_410, z_1000, z_1023, z_1024, z_1219, z_9999, z_10240, z_65537]
  · obtain ⟨q1, q2⟩ := rdM_frm m (c := e 0 i) hd0 hd1
    have hr := m_readOn m d τ ha0 (by omega) hd0 hd1 hc.1 hc.2
    have ih' := ih (i + 1, (rdM m due (e 0 i)).1, (rdM m due (e 0 i)).2)
    dsimp only at ih'
    by_cases c2 : 0 ≤ (rdM m due (e 0 i)).1
    · have ih2 := ih' ⟨by omega, by omega, mpad_frm hp q1, by omega, by omega⟩
      simp (disch := omega) only [h13, h12, hr, pw_0, up_0, pw_1, up_1, pw_2, up_2, pw_3, up_3, pw_4, up_4, pw_9, up_9, pw_10, up_10, pwi_5, upi_5, pwi_6, upi_6, pwi_7, upi_7, pwi_8, upi_8, pwi_11, upi_11, pw_12, up_12, pw_14, up_14, pw_15, up_15, pw_16, up_16, pw_18, up_18, pw_24, up_24, pw_25, up_25, pw_26, up_26, pw_29, up_29, pw_30, up_30, pw_31, up_31, pwi_13, upi_13, pwi_17, upi_17, pwi_19, upi_19, pwi_20, upi_20, pwi_21, upi_21, pwi_22, upi_22, pwi_23, upi_23, pwi_32, upi_32, pwi_33, upi_33, eC_5, eC_6, eC_13, eC_17, eC_19, eC_20, eC_21, eC_22, eC_23, eC_32, eC_33, eC_p5, eC_p6, eC_p13, eC_p17, eC_p19, eC_p20, eC_p21, eC_p22, eC_p23, eC_p32, eC_p33, s_T, s_F, s_bd, s_cl, s_rd, s_wr, s_ite, z_ite, z_neg, z_add, z_sub, z_mul, z_le, z_lt, z_eq, eC_at, eC_7, eC_8, eC_9, eC_10, eC_11, eC_p7, eC_p8, eC_p9, eC_p10, eC_p11, eC_up, ud_same, ud_ne, if_pos, if_neg, z_0, z_1, z_2, z_3, z_4, z_5, z_6, z_7, z_8, z_9, z_10, z_11, z_12, z_13, z_14, z_15, z_16, z_17, z_18, z_19, z_20, z_21, z_22, z_23, z_24, z_25, z_26, z_27, z_28, z_29, z_30, z_31, z_32, z_33, z_34, z_35, z_36, z_37, z_38, z_39, z_40, z_41, z_42, z_43, z_44, z_45, z_46, z_47, z_48, z_49, z_50, z_51, z_52, z_53, z_54, z_55, z_56, z_57, z_58, z_59, z_60, z_61, z_62, z_63, z_64, z_65, z_66, z_67, z_68, z_69, z_70, z_71, z_72, z_73, z_74, z_75, z_76, z_77, z_78, z_79, z_80, z_81, z_82, z_83, z_84, z_85, z_86, z_87, z_88, z_89, z_90, z_91, z_92, z_93, z_94, z_95, z_96, z_97, z_98, z_99, z_100, z_101, z_102, z_103, z_104, z_105, z_106, z_107, z_108, z_109, z_110, z_111, z_112, z_113, z_114, z_115, z_116, z_117, z_118, z_119, z_120, z_121, z_122, z_123, z_124, z_125, z_126, z_127, z_199, z_200, z_360, z_410, z_1000, z_1023, z_1024, z_1219, z_9999, z_10240, z_65537]
      exact ih2
    · simp (disch := omega) only [h13, h12, hr, pw_0, up_0, pw_1, up_1, pw_2, up_2, pw_3, up_3, pw_4, up_4, pw_9, up_9, pw_10, up_10, pwi_5, upi_5, pwi_6, upi_6, pwi_7, upi_7, pwi_8, upi_8, pwi_11, upi_11, pw_12, up_12, pw_14, up_14, pw_15, up_15, pw_16, up_16, pw_18, up_18, pw_24, up_24, pw_25, up_25, pw_26, up_26, pw_29, up_29, pw_30, up_30, pw_31, up_31, pwi_13, upi_13, pwi_17, upi_17, pwi_19, upi_19, pwi_20, upi_20, pwi_21, upi_21, pwi_22, upi_22, pwi_23, upi_23, pwi_32, upi_32, pwi_33, upi_33, eC_5, eC_6, eC_13, eC_17, eC_19, eC_20, eC_21, eC_22, eC_23, eC_32, eC_33, eC_p5, eC_p6, eC_p13, eC_p17, eC_p19, eC_p20, eC_p21, eC_p22, eC_p23, eC_p32, eC_p33, s_T, s_F, s_bd, s_cl, s_rd, s_wr, s_ite, z_ite, z_neg, z_add, z_sub, z_mul, z_le, z_lt, z_eq, eC_at, eC_7, eC_8, eC_9, eC_10, eC_11, eC_p7, eC_p8, eC_p9, eC_p10, eC_p11, eC_up, ud_same, ud_ne, if_pos, if_neg, z_0, z_1, z_2, z_3, z_4, z_5, z_6, z_7, z_8, z_9, z_10, z_11, z_12, z_13, z_14, z_15, z_16, z_17, z_18, z_19, z_20, z_21, z_22, z_23, z_24, z_25, z_26, z_27, z_28, z_29, z_30, z_31, z_32, z_33, z_34, z_35, z_36, z_37, z_38, z_39, z_40, z_41, z_42, z_43, z_44, z_45, z_46, z_47, z_48, z_49, z_50, z_51, z_52, z_53, z_54, z_55, z_56, z_57, z_58, z_59, z_60, z_61, z_62, z_63, z_64, z_65, z_66, z_67, z_68, z_69, z_70, z_71, z_72, z_73, z_74, z_75, z_76, z_77, z_78, z_79, z_80, z_81, z_82, z_83, z_84, z_85, z_86, z_87, z_88, z_89, z_90, z_91, z_92, z_93, z_94, z_95, z_96, z_97, z_98, z_99, z_100, z_101, z_102, z_103, z_104, z_105, z_106, z_107, z_108, z_109, z_110, z_111, z_112, z_113, z_114, z_115, z_116, z_117, z_118, z_119, z_120, z_121, z_122, z_123, z_124, z_125, z_126, z_127, z_199, z_200, z_360, z_410, z_1000, z_1023, z_1024, z_1219, z_9999, z_10240, z_65537]
theorem m_fault {e : Nat → Int → Int} (he : okp e) (m d : Nat → Int → Int) (τ : qL) (hp : mpad m e) : f_X7_fault (eC (pw m d)) τ = some (zI (prM e 20000 0 0 (ud m 99 17 0)).1, eC (pw (prM e 20000 0 0 (ud m 99 17 0)).2 d)) := by
  have hn := he.2
  have e1 : q_pt (eC (pw m d)) 17 (0 : Int32) = eC (pw (ud m 99 17 0) d) := by simp (disch := omega) only [pw_0, up_0, pw_1, up_1, pw_2, up_2, pw_3, up_3, pw_4, up_4, pw_9, up_9, pw_10, up_10, pwi_5, upi_5, pwi_6, upi_6, pwi_7, upi_7, pwi_8, upi_8, pwi_11, upi_11, pw_12, up_12, pw_14, up_14, pw_15, up_15, pw_16, up_16, pw_18, up_18, pw_24, up_24, pw_25, up_25, pw_26, up_26, pw_29, up_29, pw_30, up_30, pw_31, up_31, pwi_13, upi_13, pwi_17, upi_17, pwi_19, upi_19, pwi_20, upi_20, pwi_21, upi_21, pwi_22, upi_22, pwi_23, upi_23, pwi_32, upi_32, pwi_33, upi_33, eC_5, eC_6, eC_13, eC_17, eC_19, eC_20, eC_21, eC_22, eC_23, eC_32, eC_33, eC_p5, eC_p6, eC_p13, eC_p17, eC_p19, eC_p20, eC_p21, eC_p22, eC_p23, eC_p32, eC_p33, s_T, s_F, s_bd, s_cl, s_rd, s_wr, s_ite, z_ite, z_neg, z_add, z_sub, z_mul, z_le, z_lt, z_eq, eC_at, eC_7, eC_8, eC_9, eC_10, eC_11, eC_p7, eC_p8, eC_p9, eC_p10, eC_p11, eC_up, ud_same, ud_ne, if_pos, if_neg, z_0, z_1, z_2, z_3, z_4, z_5, z_6, z_7, z_8, z_9, z_10, z_11, z_12, z_13, z_14, z_15, z_16, z_17, z_18, z_19, z_20, z_21, z_22, z_23, z_24, z_25, z_26, z_27, z_28, z_29, z_30, z_31, z_32, z_33, z_34, z_35, z_36, z_37, z_38, z_39, z_40, z_41, z_42, z_43, z_44, z_45, z_46, z_47, z_48, z_49, z_50, z_51, z_52, z_53, z_54, z_55, z_56, z_57, z_58, z_59, z_60, z_61, z_62, z_63, z_64, z_65, z_66, z_67, z_68, z_69, z_70, z_71, z_72, z_73, z_74, z_75, z_76, z_77, z_78, z_79, z_80, z_81, z_82, z_83, z_84, z_85, z_86, z_87, z_88, z_89, z_90, z_91, z_92, z_93, z_94, z_95, z_96, z_97, z_98, z_99, z_100, z_101, z_102, z_103, z_104, z_105, z_106, z_107, z_108, z_109, z_110, z_111, z_112, z_113, z_114, z_115, z_116, z_117, z_118, z_119, z_120, z_121, z_122, z_123, z_124, z_125, z_126, z_127, z_199, z_200, z_360, z_410, z_1000, z_1023, z_1024, z_1219, z_9999, z_10240, z_65537]
  have := m_parse he d τ 20000 (0, 0, ud m 99 17 0) ⟨⟨Int.le_refl 0, by show (0 : Int) ≤ 100; decide, by show (e 99 1 - 0).toNat < 20000; omega⟩, ⟨Int.le_refl 0, by show (0 : Int) ≤ 2; decide⟩, ⟨fun i => by show ud m 99 17 0 12 i = e 0 i; rw [ud_ne _ _ (by omega)]; exact hp.1 i, by show ud m 99 17 0 99 13 = e 99 1; rw [ud_ne _ _ (by omega)]; exact hp.2⟩, by show 0 ≤ ud m 99 17 0 99 17; rw [ud_same]; omega, by show ud m 99 17 0 99 17 + 0 ≤ 0; rw [ud_same]; omega⟩
  unfold f_X7_fault
  rw [s_bd, e1]
  exact this

/-- the acts that lie in the reference's rows from place t on are those of the pad from sign a on -/
def rcd (e : Nat → Int → Int) : Nat → Int → Int → (Nat → Int → Int) → Prop
  | 0, _, t, m => m 99 17 = t
  | N + 1, a, t, m => if e 99 1 ≤ a then m 99 17 = t else
    m 14 t = kdc (sg e a) ∧ (kdc (sg e a) = 1 → m 15 t = wht e a) ∧ (kdc (sg e a) = 0 → m 15 t = wht e a ∧ m 16 t = 10 * (sg e (a + 2) - 48)) ∧ rcd e N (if kdc (sg e a) = 0 then a + 3 else a + 1) (t + 1) m
theorem sg_in {e : Nat → Int → Int} {a : Int} (h0 : 0 ≤ a) (h1 : a < e 99 1) : sg e a = e 0 a := by unfold sg; rw [if_pos ⟨h0, h1⟩]
theorem sg_out {e : Nat → Int → Int} {a : Int} (h1 : e 99 1 ≤ a) : sg e a = -6 := by unfold sg; rw [if_neg (by omega)]
/-- the sign of an act of one sign -/
theorem begM_one {m : Nat → Int → Int} {c : Int} (h : ¬ kdc c = -6) (h0 : ¬ kdc c = 0) : (begM m c).1 = 0 ∧ (begM m c).2 14 (m 99 17) = kdc c ∧ (kdc c = 1 → (begM m c).2 15 (m 99 17) = plc c) ∧ (begM m c).2 99 17 = m 99 17 + 1 := by
  have key : ∀ k w, closeM (ud m 15 (m 99 17) w) k 0 14 (m 99 17) = k ∧ closeM (ud m 15 (m 99 17) w) k 0 15 (m 99 17) = w ∧ closeM (ud m 15 (m 99 17) w) k 0 99 17 = m 99 17 + 1 := by
    intro k w
    refine ⟨?_, ?_, ?_⟩
    · unfold closeM
      rw [ud_ne _ _ (by omega), ud_ne _ _ (by omega), ud_17, ud_same]
    · unfold closeM
      rw [ud_ne _ _ (by omega), ud_ne _ _ (by omega), ud_ne _ _ (by omega), ud_same]
    · rw [close_17, ud_17]
  unfold begM
  unfold kdc at h h0 ⊢
  dsimp only
  by_cases e1 : c = 42
  · rw [if_pos e1, if_pos e1]
    exact ⟨rfl, (key 2 _).1, fun z => by omega, (key 2 _).2.2⟩
  · rw [if_neg e1] at h h0 ⊢
    rw [if_neg e1]
    by_cases e2 : c = 46
    · rw [if_pos e2, if_pos e2]
      exact ⟨rfl, (key 4 _).1, fun z => by omega, (key 4 _).2.2⟩
    · rw [if_neg e2] at h h0 ⊢
      rw [if_neg e2]
      by_cases e3 : c = 61
      · rw [if_pos e3] at h0; omega
      · rw [if_neg e3] at h h0 ⊢
        rw [if_neg e3]
        by_cases e4 : c = 126
        · rw [if_pos e4, if_pos e4]
          exact ⟨rfl, (key 3 _).1, fun z => by omega, (key 3 _).2.2⟩
        · rw [if_neg e4] at h h0 ⊢
          rw [if_neg e4]
          by_cases e5 : plc c = -6
          · rw [if_pos e5] at h; omega
          · rw [if_neg e5] at h h0 ⊢
            have hp : (65 ≤ c ∧ c ≤ 74) ∨ c = 107 := by
              unfold plc at e5
              by_cases z : 65 ≤ c ∧ c ≤ 74
              · exact Or.inl z
              · rw [if_neg z] at e5
                by_cases z2 : c = 107
                · exact Or.inr z2
                · rw [if_neg z2] at e5; omega
            rw [if_pos hp]
            refine ⟨rfl, (key 1 _).1, fun _ => ?_, (key 1 _).2.2⟩
            dsimp only
            rw [(key 1 _).2.1]
            unfold plc
            by_cases z : 65 ≤ c ∧ c ≤ 74
            · rw [if_pos z, if_pos z]
            · rw [if_neg z, if_neg z, if_pos (by omega)]
theorem begM_fill {m : Nat → Int → Int} {c : Int} (h0 : kdc c = 0) : begM m c = (1, ud m 15 (m 99 17) 10) := by
  have hc : c = 61 := by
    unfold kdc at h0
    by_cases e1 : c = 42
    · rw [if_pos e1] at h0; omega
    · rw [if_neg e1] at h0
      by_cases e2 : c = 46
      · rw [if_pos e2] at h0; omega
      · rw [if_neg e2] at h0
        by_cases e3 : c = 61
        · exact e3
        · rw [if_neg e3] at h0
          split at h0
          · omega
          · split at h0 <;> omega
  subst hc
  rfl
theorem begM_bad {m : Nat → Int → Int} {c : Int} (h : kdc c = -6) : (begM m c).1 = -6 := by
  unfold kdc at h
  unfold begM
  dsimp only
  split at h
  · omega
  · next e1 =>
    rw [if_neg e1]
    split at h
    · omega
    · next e2 =>
      rw [if_neg e2]
      split at h
      · omega
      · next e3 =>
        rw [if_neg e3]
        split at h
        · omega
        · next e4 =>
          rw [if_neg e4]
          split at h
          · next e5 =>
            rw [if_neg]
            intro z
            unfold plc at e5
            split at e5
            · omega
            · split at e5 <;> omega
          · omega
/-- reading: the fault is the class's, and the acts are its -/
theorem prM_fl {e : Nat → Int → Int} (he : okp e) : ∀ (M : Nat) (a : Int) (m : Nat → Int → Int) (N : Nat), 0 ≤ a → (e 99 1 - a).toNat < M → (e 99 1 - a).toNat < N →
    (prM e N a 0 m).1 = fl e M a ∧ (fl e M a = -6 → rcd e M a (m 99 17) (prM e N a 0 m).2) := by
  intro M
  induction M with
  | zero => intro a m N _ h; omega
  | succ M ih =>
    intro a m N h0 hM hN
    obtain ⟨N, rfl⟩ : ∃ q, N = q + 1 := ⟨N - 1, by omega⟩
    unfold prM fl rcd
    by_cases c : e 99 1 ≤ a
    · rw [if_pos c, if_pos c, if_pos c]
      exact ⟨rfl, fun _ => rfl⟩
    · rw [if_neg c, if_neg c, if_neg c]
      have hs : sg e a = e 0 a := sg_in h0 (by omega)
      have hr : rdM m 0 (e 0 a) = begM m (e 0 a) := rfl
      rw [hs, hr]
      by_cases k6 : kdc (e 0 a) = -6
      · rw [if_pos k6, if_neg (by rw [begM_bad k6]; decide)]
        exact ⟨rfl, fun z => by omega⟩
      · rw [if_neg k6]
        by_cases k0 : kdc (e 0 a) = 0
        · rw [if_pos k0, begM_fill k0]
          dsimp only
          rw [if_pos (show (0 : Int) ≤ 1 by decide)]
          by_cases z1 : e 99 1 ≤ a + 1
          · obtain ⟨N, rfl⟩ : ∃ q, N = q + 1 := ⟨N - 1, by omega⟩
            rw [sg_out z1, if_neg (by omega)]
            unfold prM
            rw [if_pos z1, if_neg (by decide)]
            exact ⟨by dsimp only; omega, fun z => by omega⟩
          · obtain ⟨N, rfl⟩ : ∃ q, N = q + 1 := ⟨N - 1, by omega⟩
            have hs1 : sg e (a + 1) = e 0 (a + 1) := sg_in (by omega) (by omega)
            have hr1 : rdM (ud m 15 (m 99 17) 10) 1 (e 0 (a + 1)) = (if 48 ≤ e 0 (a + 1) ∧ e 0 (a + 1) ≤ 57 then 2 else -6, ud (ud m 15 (m 99 17) 10) 15 (m 99 17) (e 0 (a + 1) - 48)) := by
              show (_, ud (ud m 15 (m 99 17) 10) 15 (ud m 15 (m 99 17) 10 99 17) (e 0 (a + 1) - 48)) = _
              rw [ud_17]
            unfold prM
            rw [if_neg z1, hr1, hs1]
            dsimp only
            by_cases z2 : 48 ≤ e 0 (a + 1) ∧ e 0 (a + 1) ≤ 57
            · rw [if_pos z2, if_pos (show (0 : Int) ≤ 2 by decide), if_pos (show 0 ≤ e 0 (a + 1) - 48 ∧ e 0 (a + 1) - 48 ≤ 9 by omega)]
              by_cases z3 : e 99 1 ≤ a + 1 + 1
              · obtain ⟨N, rfl⟩ : ∃ q, N = q + 1 := ⟨N - 1, by omega⟩
                rw [sg_out (show e 99 1 ≤ a + 2 by omega), if_neg (by omega)]
                unfold prM
                rw [if_pos z3, if_neg (by decide)]
                exact ⟨by dsimp only; omega, fun z => by omega⟩
              · obtain ⟨N, rfl⟩ : ∃ q, N = q + 1 := ⟨N - 1, by omega⟩
                have hs2 : sg e (a + 2) = e 0 (a + 1 + 1) := by rw [show a + 1 + 1 = a + 2 by omega]; exact sg_in (by omega) (by omega)
                have t2 : ud (ud m 15 (m 99 17) 10) 15 (m 99 17) (e 0 (a + 1) - 48) 99 17 = m 99 17 := by rw [ud_17, ud_17]
                have hr2 : ∀ q, rdM q 2 (e 0 (a + 1 + 1)) = if 49 ≤ e 0 (a + 1 + 1) ∧ e 0 (a + 1 + 1) ≤ 57 then (0, closeM q 0 (10 * (e 0 (a + 1 + 1) - 48))) else (-6, q) := fun q => rfl
                unfold prM
                rw [if_neg z3, hr2, hs2]
                by_cases z4 : 49 ≤ e 0 (a + 1 + 1) ∧ e 0 (a + 1 + 1) ≤ 57
                · rw [if_pos z4, if_pos (show 1 ≤ e 0 (a + 1 + 1) - 48 ∧ e 0 (a + 1 + 1) - 48 ≤ 9 by omega)]
                  dsimp only
                  rw [if_pos (Int.le_refl 0), show a + 1 + 1 + 1 = a + 3 by omega]
                  generalize hm2 : ud (ud m 15 (m 99 17) 10) 15 (m 99 17) (e 0 (a + 1) - 48) = m2 at t2
                  obtain ⟨i1, i2⟩ := ih (a + 3) (closeM m2 0 (10 * (e 0 (a + 1 + 1) - 48))) N (by omega) (by omega) (by omega)
                  refine ⟨i1, fun z => ?_⟩
                  have hf := (prM_frm e N (a + 3) 0 (closeM m2 0 (10 * (e 0 (a + 1 + 1) - 48))) (Int.le_refl 0) (by decide)).1
                  have i3 := i2 z
                  rw [close_17, t2] at i3 hf
                  refine ⟨?_, fun k1 => absurd k1 (by omega), fun k2 => ⟨?_, ?_⟩, ?_⟩
                  · rw [hf 14 _ (by omega) (by omega), k0]
                    unfold closeM
                    rw [ud_ne _ _ (by omega), ud_ne _ _ (by omega), t2, ud_same]
                  · rw [hf 15 _ (by omega) (by omega)]
                    unfold closeM wht
                    rw [ud_ne _ _ (by omega), ud_ne _ _ (by omega), ud_ne _ _ (by omega), ← hm2, ud_same, hs, if_pos k0, hs1]
                  · rw [hf 16 _ (by omega) (by omega)]
                    unfold closeM
                    rw [ud_ne _ _ (by omega), t2, ud_same]
                  · rw [if_pos k0]; exact i3
                · rw [if_neg z4, if_neg (show ¬ (1 ≤ e 0 (a + 1 + 1) - 48 ∧ e 0 (a + 1 + 1) - 48 ≤ 9) by omega)]
                  dsimp only
                  rw [if_neg (by decide)]
                  exact ⟨by dsimp only; omega, fun z => by omega⟩
            · rw [if_neg z2, if_neg (by decide), if_neg (show ¬ (0 ≤ e 0 (a + 1) - 48 ∧ e 0 (a + 1) - 48 ≤ 9) by omega)]
              exact ⟨rfl, fun z => by omega⟩
        · rw [if_neg k0]
          obtain ⟨b1, b2, b3, b4⟩ := begM_one (m := m) k6 k0
          rw [b1, if_pos (Int.le_refl 0)]
          obtain ⟨i1, i2⟩ := ih (a + 1) (begM m (e 0 a)).2 N (by omega) (by omega) (by omega)
          refine ⟨i1, fun z => ?_⟩
          have hf := (prM_frm e N (a + 1) 0 (begM m (e 0 a)).2 (Int.le_refl 0) (by decide)).1
          have i3 := i2 z
          rw [b4] at i3 hf
          refine ⟨?_, fun k1 => ?_, fun k2 => absurd k2 k0, ?_⟩
          · rw [hf 14 _ (by omega) (by omega)]; exact b2
          · rw [hf 15 _ (by omega) (by omega), b3 k1]
            unfold wht
            rw [hs, if_neg k0]
          · rw [if_neg k0]; exact i3
end
section
/-! the reference's nights -/
theorem bed_bel {d : Nat → Int → Int} {k w v : Int} (hk : ¬ k = 2) (p : Int) : bel (actd d k w v) p = bel d p := by
  unfold bel
  split
  · unfold actd
    split
    · rw [ud_ne _ _ (by omega), ud_ne _ _ (by omega)]
    · split
      · rw [ud_ne _ _ (by omega), ud_ne _ _ (by omega)]
      · try rw [if_neg hk]
        split
        · rw [ud_ne _ _ (by omega), ud_ne _ _ (by omega)]
        · unfold md
          rw [if_neg (by omega), ud_ne _ _ (by omega), ud_ne _ _ (by omega), ud_ne _ _ (by omega)]
  · rfl
theorem actd_c {d : Nat → Int → Int} {k w v w' v' : Int} (h0 : k = 0 → w = w' ∧ v = v') (h1 : k = 1 → w = w') : actd d k w v = actd d k w' v' := by
  unfold actd
  split
  · next e => obtain ⟨rfl, rfl⟩ := h0 e; rfl
  · split
    · next e => obtain rfl := h1 e; rfl
    · rfl
theorem rsn_c {d : Nat → Int → Int} {k w w' : Int} (h1 : k = 1 → w = w') : rsn d k w = rsn d k w' := by
  unfold rsn
  split
  · rfl
  · split
    · next e => obtain rfl := h1 e; rfl
    · rfl
def goM (m d d' : Nat → Int → Int) (t k : Int) : Nat → Int → Int :=
  let m1 := ud m 99 21 (m 99 21 + (if k = 2 then 1 else 0))
  if k = 2 ∧ ¬ bel d' (d 99 8) = bel d (d 99 8) ∧ m 99 22 < 0 then ud (ud m1 99 22 t) 99 23 (d 99 8) else m1
theorem m_goOne (m d : Nat → Int → Int) (τ : qL) (hd : okd d) {t k w v : Int} (t0 : 0 ≤ t) (t1 : t < 60) (ek : m 14 t = k) (ew : m 15 t = w) (ev : m 16 t = v)
    (h1 : 0 ≤ k) (h2 : k ≤ 4) (hw : k = 1 → 0 ≤ w ∧ w ≤ 10) (hw0 : k = 0 → 0 ≤ w ∧ w ≤ 9) (hv : k = 0 → 0 ≤ v ∧ v ≤ 99) (hr : rsn d k w = 0) (hm : -6 ≤ m 99 22 ∧ m 99 22 ≤ 1000) :
    f_X7_goOne (eC (pw m d)) τ (zI t) = some (eC (pw (goM m d (actd d k w v) t k) (actd d k w v))) := by
  have hd' := okd_act hd h1 h2 hw hw0 hv hr
  have a1 := okd_p hd
  have hb : k = 2 → d 99 8 ≤ 9 := by
    intro e
    subst e
    unfold rsn at hr
    rw [if_neg (by decide), if_neg (by decide), if_pos rfl] at hr
    split at hr <;> omega
  have b1 := okd_3 hd (d 99 8)
  have b2 := okd_3 hd' (d 99 8)
  have hh := m_happen m d τ hd (v := v) h1 h2 hw hb
  have hbl : ¬ k = 2 → bel (actd d k w v) (d 99 8) = bel d (d 99 8) := fun z => bed_bel z _
  unfold f_X7_goOne goM
  generalize actd d k w v = d' at *
  by_cases c1 : d 99 8 = 10
  · have c2 : ¬ k = 2 := fun z => by have := hb z; omega
    simp (disch := omega) only [ek, ew, ev, hh, pw_0, up_0, pw_1, up_1, pw_2, up_2, pw_3, up_3, pw_4, up_4, pw_9, up_9, pw_10, up_10, pwi_5, upi_5, pwi_6, upi_6, pwi_7, upi_7, pwi_8, upi_8, pwi_11, upi_11, pw_12, up_12, pw_14, up_14, pw_15, up_15, pw_16, up_16, pw_18, up_18, pw_24, up_24, pw_25, up_25, pw_26, up_26, pw_29, up_29, pw_30, up_30, pw_31, up_31, pwi_13, upi_13, pwi_17, upi_17, pwi_19, upi_19, pwi_20, upi_20, pwi_21, upi_21, pwi_22, upi_22, pwi_23, upi_23, pwi_32, upi_32, pwi_33, upi_33, eC_5, eC_6, eC_13, eC_17, eC_19, eC_20, eC_21, eC_22, eC_23, eC_32, eC_33, eC_p5, eC_p6, eC_p13, eC_p17, eC_p19, eC_p20, eC_p21, eC_p22, eC_p23, eC_p32, eC_p33, s_T, s_F, s_bd, s_cl, s_rd, s_wr, s_ite, z_ite, z_neg, z_add, z_sub, z_mul, z_le, z_lt, z_eq, eC_at, eC_7, eC_8, eC_9, eC_10, eC_11, eC_p7, eC_p8, eC_p9, eC_p10, eC_p11, eC_up, ud_same, ud_ne, if_pos, if_neg, z_0, z_1, z_2, z_3, z_4, z_5, z_6, z_7, z_8, z_9, z_10, z_11, z_12, z_13, z_14, z_15, z_16, z_17, z_18, z_19, z_20, z_21, z_22, z_23, z_24, z_25, z_26, z_27, z_28, z_29, z_30, z_31, z_32, z_33, z_34, z_35, z_36, z_37, z_38, z_39, z_40, z_41, z_42, z_43, z_44, z_45, z_46, z_47, z_48, z_49, z_50, z_51, z_52, z_53, z_54, z_55, z_56, z_57, z_58, z_59, z_60, z_61, z_62, z_63, z_64, z_65, z_66, z_67, z_68, z_69, z_70, z_71, z_72, z_73, z_74, z_75, z_76, z_77, z_78, z_79, z_80, z_81, z_82, z_83, z_84, z_85, z_86, z_87, z_88, z_89, z_90, z_91, z_92, z_93, z_94, z_95, z_96, z_97, z_98, z_99, z_100, z_101, z_102, z_103, z_104, z_105, z_106, z_107, z_108, z_109, z_110, z_111, z_112, z_113, z_114, z_115, z_116, z_117, z_118, z_119, z_120, z_121, z_122, z_123, z_124, z_125, z_126, z_127, z_199, z_200, z_360, z_410, z_1000, z_1023, z_1024, z_1219, z_9999, z_10240, z_65537]
  · by_cases c2 : k = 2
    · have e1 : bel d (d 99 8) = d 3 (d 99 8) := by unfold bel; rw [if_pos (by omega)]
      have e2 : bel d' (d 99 8) = d' 3 (d 99 8) := by unfold bel; rw [if_pos (by omega)]
      rw [e1, e2]
      by_cases c3 : d' 3 (d 99 8) = d 3 (d 99 8)
      · simp (disch := omega) only [ek, ew, ev, hh, pw_0, up_0, pw_1, up_1, pw_2, up_2, pw_3, up_3, pw_4, up_4, pw_9, up_9, pw_10, up_10, pwi_5, upi_5, pwi_6, upi_6, pwi_7, upi_7, pwi_8, upi_8, pwi_11, upi_11, pw_12, up_12, pw_14, up_14, pw_15, up_15, pw_16, up_16, pw_18, up_18, pw_24, up_24, pw_25, up_25, pw_26, up_26, pw_29, up_29, pw_30, up_30, pw_31, up_31, pwi_13, upi_13, pwi_17, upi_17, pwi_19, upi_19, pwi_20, upi_20, pwi_21, upi_21, pwi_22, upi_22, pwi_23, upi_23, pwi_32, upi_32, pwi_33, upi_33, eC_5, eC_6, eC_13, eC_17, eC_19, eC_20, eC_21, eC_22, eC_23, eC_32, eC_33, eC_p5, eC_p6, eC_p13, eC_p17, eC_p19, eC_p20, eC_p21, eC_p22, eC_p23, eC_p32, eC_p33, s_T, s_F, s_bd, s_cl, s_rd, s_wr, s_ite, z_ite, z_neg, z_add, z_sub, z_mul, z_le, z_lt, z_eq, eC_at, eC_7, eC_8, eC_9, eC_10, eC_11, eC_p7, eC_p8, eC_p9, eC_p10, eC_p11, eC_up, ud_same, ud_ne, if_pos, if_neg, z_0, z_1, z_2, z_3, z_4, z_5, z_6, z_7, z_8, z_9, z_10, z_11, z_12, z_13, z_14, z_15, z_16, z_17, z_18, z_19, z_20, z_21, z_22, z_23, z_24, z_25, z_26, z_27, z_28, z_29, z_30, z_31, z_32, z_33, z_34, z_35, z_36, z_37, z_38, z_39, z_40, z_41, z_42, z_43, z_44, z_45, z_46, z_47, z_48, z_49, z_50, z_51, z_52, z_53, z_54, z_55, z_56, z_57, z_58, z_59, z_60, z_61, z_62, z_63, z_64, z_65, z_66, z_67, z_68, z_69, z_70, z_71, z_72, z_73, z_74, z_75, z_76, z_77, z_78, z_79, z_80, z_81, z_82, z_83, z_84, z_85, z_86, z_87, z_88, z_89, z_90, z_91, z_92, z_93, z_94, z_95, z_96, z_97, z_98, z_99, z_100, z_101, z_102, z_103, z_104, z_105, z_106, z_107, z_108, z_109, z_110, z_111, z_112, z_113, z_114, z_115, z_116, z_117, z_118, z_119, z_120, z_121, z_122, z_123, z_124, z_125, z_126, z_127, z_199, z_200, z_360, z_410, z_1000, z_1023, z_1024, z_1219, z_9999, z_10240, z_65537]
      · by_cases c4 : m 99 22 < 0
        · simp (disch := omega) only [ek, ew, ev, hh, pw_0, up_0, pw_1, up_1, pw_2, up_2, pw_3, up_3, pw_4, up_4, pw_9, up_9, pw_10, up_10, pwi_5, upi_5, pwi_6, upi_6, pwi_7, upi_7, pwi_8, upi_8, pwi_11, upi_11, pw_12, up_12, pw_14, up_14, pw_15, up_15, pw_16, up_16, pw_18, up_18, pw_24, up_24, pw_25, up_25, pw_26, up_26, pw_29, up_29, pw_30, up_30, pw_31, up_31, pwi_13, upi_13, pwi_17, upi_17, pwi_19, upi_19, pwi_20, upi_20, pwi_21, upi_21, pwi_22, upi_22, pwi_23, upi_23, pwi_32, upi_32, pwi_33, upi_33, eC_5, eC_6, eC_13, eC_17, eC_19, eC_20, eC_21, eC_22, eC_23, eC_32, eC_33, eC_p5, eC_p6, eC_p13, eC_p17, eC_p19, eC_p20, eC_p21, eC_p22, eC_p23, eC_p32, eC_p33, s_T, s_F, s_bd, s_cl, s_rd, s_wr, s_ite, z_ite, z_neg, z_add, z_sub, z_mul, z_le, z_lt, z_eq, eC_at, eC_7, eC_8, eC_9, eC_10, eC_11, eC_p7, eC_p8, eC_p9, eC_p10, eC_p11, eC_up, ud_same, ud_ne, if_pos, if_neg, z_0, z_1, z_2, z_3, z_4, z_5, z_6, z_7, z_8, z_9, z_10, z_11, z_12, z_13, z_14, z_15, z_16, z_17, z_18, z_19, z_20, z_21, z_22, z_23, z_24, z_25, z_26, z_27, z_28, z_29, z_30, z_31, z_32, z_33, z_34, z_35, z_36, z_37, z_38, z_39, z_40, z_41, z_42, z_43, z_44, z_45, z_46, z_47, z_48, z_49, z_50, z_51, z_52, z_53, z_54, z_55, z_56, z_57, z_58, z_59, z_60, z_61, z_62, z_63, z_64, z_65, z_66, z_67, z_68, z_69, z_70, z_71, z_72, z_73, z_74, z_75, z_76, z_77, z_78, z_79, z_80, z_81, z_82, z_83, z_84, z_85, z_86, z_87, z_88, z_89, z_90, z_91, z_92, z_93, z_94, z_95, z_96, z_97, z_98, z_99, z_100, z_101, z_102, z_103, z_104, z_105, z_106, z_107, z_108, z_109, z_110, z_111, z_112, z_113, z_114, z_115, z_116, z_117, z_118, z_119, z_120, z_121, z_122, z_123, z_124, z_125, z_126, z_127, z_199, z_200, z_360, z_410, z_1000, z_1023, z_1024, z_1219, z_9999, z_10240, z_65537]
        · simp (disch := omega) only [ek, ew, ev, hh, pw_0, up_0, pw_1, up_1, pw_2, up_2, pw_3, up_3, pw_4, up_4, pw_9, up_9, pw_10, up_10, pwi_5, upi_5, pwi_6, upi_6, pwi_7, upi_7, pwi_8, upi_8, pwi_11, upi_11, pw_12, up_12, pw_14, up_14, pw_15, up_15, pw_16, up_16, pw_18, up_18, pw_24, up_24, pw_25, up_25, pw_26, up_26, pw_29, up_29, pw_30, up_30, pw_31, up_31, pwi_13, upi_13, pwi_17, upi_17, pwi_19, upi_19, pwi_20, upi_20, pwi_21, upi_21, pwi_22, upi_22, pwi_23, upi_23, pwi_32, upi_32, pwi_33, upi_33, eC_5, eC_6, eC_13, eC_17, eC_19, eC_20, eC_21, eC_22, eC_23, eC_32, eC_33, eC_p5, eC_p6, eC_p13, eC_p17, eC_p19, eC_p20, eC_p21, eC_p22, eC_p23, eC_p32, eC_p33, s_T, s_F, s_bd, s_cl, s_rd, s_wr, s_ite, z_ite, z_neg, z_add, z_sub, z_mul, z_le, z_lt, z_eq, eC_at, eC_7, eC_8, eC_9, eC_10, eC_11, eC_p7, eC_p8, eC_p9, eC_p10, eC_p11, eC_up, ud_same, ud_ne, if_pos, if_neg, z_0, z_1, z_2, z_3, z_4, z_5, z_6, z_7, z_8, z_9, z_10, z_11, z_12, z_13, z_14, z_15, z_16, z_17, z_18, z_19, z_20, z_21, z_22, z_23, z_24, z_25, z_26, z_27, z_28, z_29, z_30, z_31, z_32, z_33, z_34, z_35, z_36, z_37, z_38, z_39, z_40, z_41, z_42, z_43, z_44, z_45, z_46, z_47, z_48, z_49, z_50, z_51, z_52, z_53, z_54, z_55, z_56, z_57, z_58, z_59, z_60, z_61, z_62, z_63, z_64, z_65, z_66, z_67, z_68, z_69, z_70, z_71, z_72, z_73, z_74, z_75, z_76, z_77, z_78, z_79, z_80, z_81, z_82, z_83, z_84, z_85, z_86, z_87, z_88, z_89, z_90, z_91, z_92, z_93, z_94, z_95, z_96, z_97, z_98, z_99, z_100, z_101, z_102, z_103, z_104, z_105, z_106, z_107, z_108, z_109, z_110, z_111, z_112, z_113, z_114, z_115, z_116, z_117, z_118, z_119, z_120, z_121, z_122, z_123, z_124, z_125, z_126, z_127, z_199, z_200, z_360, z_410, z_1000, z_1023, z_1024, z_1219, z_9999, z_10240, z_65537]
    · simp (disch := omega) only [ek, ew, ev, hh, pw_0, up_0, pw_1, up_1, pw_2, up_2, pw_3, up_3, pw_4, up_4, pw_9, up_9, pw_10, up_10, pwi_5, upi_5, pwi_6, upi_6, pwi_7, upi_7, pwi_8, upi_8, pwi_11, upi_11, pw_12, up_12, pw_14, up_14, pw_15, up_15, pw_16, up_16, pw_18, up_18, pw_24, up_24, pw_25, up_25, pw_26, up_26, pw_29, up_29, pw_30, up_30, pw_31, up_31, pwi_13, upi_13, pwi_17, upi_17, pwi_19, upi_19, pwi_20, upi_20, pwi_21, upi_21, pwi_22, upi_22, pwi_23, upi_23, pwi_32, upi_32, pwi_33, upi_33, eC_5, eC_6, eC_13, eC_17, eC_19, eC_20, eC_21, eC_22, eC_23, eC_32, eC_33, eC_p5, eC_p6, eC_p13, eC_p17, eC_p19, eC_p20, eC_p21, eC_p22, eC_p23, eC_p32, eC_p33, s_T, s_F, s_bd, s_cl, s_rd, s_wr, s_ite, z_ite, z_neg, z_add, z_sub, z_mul, z_le, z_lt, z_eq, eC_at, eC_7, eC_8, eC_9, eC_10, eC_11, eC_p7, eC_p8, eC_p9, eC_p10, eC_p11, eC_up, ud_same, ud_ne, if_pos, if_neg, z_0, z_1, z_2, z_3, z_4, z_5, z_6, z_7, z_8, z_9, z_10, z_11, z_12, z_13, z_14, z_15, z_16, z_17, z_18, z_19, z_20, z_21, z_22, z_23, z_24, z_25, z_26, z_27, z_28, z_29, z_30, z_31, z_32, z_33, z_34, z_35, z_36, z_37, z_38, z_39, z_40, z_41, z_42, z_43, z_44, z_45, z_46, z_47, z_48, z_49, z_50, z_51, z_52, z_53, z_54, z_55, z_56, z_57, z_58, z_59, z_60, z_61, z_62, z_63, z_64, z_65, z_66, z_67, z_68, z_69, z_70, z_71, z_72, z_73, z_74, z_75, z_76, z_77, z_78, z_79, z_80, z_81, z_82, z_83, z_84, z_85, z_86, z_87, z_88, z_89, z_90, z_91, z_92, z_93, z_94, z_95, z_96, z_97, z_98, z_99, z_100, z_101, z_102, z_103, z_104, z_105, z_106, z_107, z_108, z_109, z_110, z_111, z_112, z_113, z_114, z_115, z_116, z_117, z_118, z_119, z_120, z_121, z_122, z_123, z_124, z_125, z_126, z_127, z_199, z_200, z_360, z_410, z_1000, z_1023, z_1024, z_1219, z_9999, z_10240, z_65537]
theorem rcd_le {e : Nat → Int → Int} : ∀ (N : Nat) (a t : Int) (m : Nat → Int → Int), rcd e N a t m → t ≤ m 99 17 := by
  intro N
  induction N with
  | zero => intro a t m h; unfold rcd at h; omega
  | succ N ih =>
    intro a t m h
    unfold rcd at h
    split at h
    · omega
    · have := ih _ _ _ h.2.2.2; omega
theorem rcd_frm {e : Nat → Int → Int} : ∀ (N : Nat) (a t : Int) (m m' : Nat → Int → Int), (∀ i, m' 14 i = m 14 i) → (∀ i, m' 15 i = m 15 i) → (∀ i, m' 16 i = m 16 i) → m' 99 17 = m 99 17 → rcd e N a t m → rcd e N a t m' := by
  intro N
  induction N with
  | zero => intro a t m m' _ _ _ h4 h; unfold rcd at h ⊢; rw [h4]; exact h
  | succ N ih =>
    intro a t m m' h1 h2 h3 h4 h
    unfold rcd at h ⊢
    split
    · next z => rw [if_pos z] at h; rw [h4]; exact h
    · next z =>
      rw [if_neg z] at h
      obtain ⟨q1, q2, q3, q4⟩ := h
      exact ⟨by rw [h1]; exact q1, fun k => by rw [h2]; exact q2 k, fun k => by rw [h2, h3]; exact q3 k, ih _ _ m m' h1 h2 h3 h4 q4⟩
/-- the marks agree: the reference's in m, the class's in n -/
def mrks (m n : Nat → Int → Int) : Prop := m 99 19 = n 99 2 ∧ m 99 20 = n 99 3 ∧ m 99 21 = n 99 1 ∧ m 99 22 = n 99 4 ∧ m 99 23 = n 99 5
/-- only marks differ -/
def mko (m m' : Nat → Int → Int) : Prop := ∀ k i, (k = 99 ∧ 19 ≤ i ∧ i ≤ 23) ∨ m' k i = m k i
theorem mko_at {m m' : Nat → Int → Int} (h : mko m m') (k : Nat) (i : Int) (hk : ¬ (k = 99 ∧ 19 ≤ i ∧ i ≤ 23)) : m' k i = m k i := (h k i).resolve_left hk
theorem mko_tr {m m' m'' : Nat → Int → Int} (h : mko m m') (h' : mko m' m'') : mko m m'' := fun k i => by
  rcases h' k i with z | z
  · exact Or.inl z
  · rcases h k i with y | y
    · exact Or.inl y
    · exact Or.inr (z.trans y)
theorem mko_ud {m : Nat → Int → Int} {j v : Int} (h : 19 ≤ j ∧ j ≤ 23) : mko m (ud m 99 j v) := fun k i => by
  by_cases e : k = 99 ∧ i = j
  · exact Or.inl ⟨e.1, by omega, by omega⟩
  · exact Or.inr (ud_ne _ _ (by omega))
theorem mko_rf (m : Nat → Int → Int) : mko m m := fun _ _ => Or.inr rfl
theorem mko_go {m d d' : Nat → Int → Int} {t k : Int} : mko m (goM m d d' t k) := by
  unfold goM
  dsimp only
  split
  · exact mko_tr (mko_tr (mko_ud (by decide)) (mko_ud (by decide))) (mko_ud (by decide))
  · exact mko_ud (by decide)
theorem m_goNights {e : Nat → Int → Int} (he : okp e) (τ : qL) : ∀ (N : Nat) (a t : Int) (n d m : Nat → Int → Int), (0 ≤ a ∧ a ≤ 90 ∧ (e 99 1 - a).toNat + 2 ≤ N) → okd d → fl e N a = -6 → rcd e N a t m → (n 99 0 = t ∧ 0 ≤ t ∧ t ≤ a) → mrk n a → (n 99 4 = -6 ∨ 0 ≤ n 99 4) → (n 99 2 = -6 ∧ n 99 3 = -6) → mrks m n → m 99 17 ≤ 60 →
    ∃ m', q_lp (b_X7_goNights_31 τ) (fun z11 => some z11.2) N (zI t, eC (pw m d)) = some (eC (pw m' (run e N a n d).2.2)) ∧ mrks m' (run e N a n d).2.1 ∧ mko m m' := by
  intro N
  induction N with
  | zero => intro a t n d m h; omega
  | succ N ih =>
    intro a t n d m ⟨h0, h1, h2⟩ hd hf hrc ⟨hn0, ht0, ht1⟩ hm h4 h23 hmk h17
    have hn := he.2
    have hle := rcd_le _ _ _ _ hrc
    rw [lp_s]
    obtain ⟨k19, k20, k21, k22, k23⟩ := id hmk
    generalize hag : q_lp (b_X7_goNights_31 τ) (fun z11 => some z11.2) N = again at ih ⊢
    unfold b_X7_goNights_31 run
    by_cases c : e 99 1 ≤ a
    · unfold rcd at hrc
      rw [if_pos c] at hrc
      refine ⟨m, ?_, by rw [if_pos c]; exact hmk, mko_rf m⟩
      rw [if_pos c]
      simp (disch := omega) only [pw_0, up_0, pw_1, up_1, pw_2, up_2, pw_3, up_3, pw_4, up_4, pw_9, up_9, pw_10, up_10, pwi_5, upi_5, pwi_6, upi_6, pwi_7, upi_7, pwi_8, upi_8, pwi_11, upi_11, pw_12, up_12, pw_14, up_14, pw_15, up_15, pw_16, up_16, pw_18, up_18, pw_24, up_24, pw_25, up_25, pw_26, up_26, pw_29, up_29, pw_30, up_30, pw_31, up_31, pwi_13, upi_13, pwi_17, upi_17, pwi_19, upi_19, pwi_20, upi_20, pwi_21, upi_21, pwi_22, upi_22, pwi_23, upi_23, pwi_32, upi_32, pwi_33, upi_33, eC_5, eC_6, eC_13, eC_17, eC_19, eC_20, eC_21, eC_22, eC_23, eC_32, eC_33, eC_p5, eC_p6, eC_p13, eC_p17, eC_p19, eC_p20, eC_p21, eC_p22, eC_p23, eC_p32, eC_p33, s_T, s_F, s_bd, s_cl, s_rd, s_wr, s_ite, z_ite, z_neg, z_add, z_sub, z_mul, z_le, z_lt, z_eq, eC_at, eC_7, eC_8, eC_9, eC_10, eC_11, eC_p7, eC_p8, eC_p9, eC_p10, eC_p11, eC_up, ud_same, ud_ne, if_pos, if_neg, z_0, z_1, z_2, z_3, z_4, z_5, z_6, z_7, z_8, z_9, z_10, z_11, z_12, z_13, z_14, z_15, z_16, z_17, z_18, z_19, z_20, z_21, z_22, z_23, z_24, z_25, z_26, z_27, z_28, z_29, z_30, z_31, z_32, z_33, z_34, z_35, z_36, z_37, z_38, z_39, z_40, z_41, z_42, z_43, z_44, z_45, z_46, z_47, z_48, z_49, z_50, z_51, z_52, z_53, z_54, z_55, z_56, z_57, z_58, z_59, z_60, z_61, z_62, z_63, z_64, z_65, z_66, z_67, z_68, z_69, z_70, z_71, z_72, z_73, z_74, z_75, z_76, z_77, z_78, z_79, z_80, z_81, z_82, z_83, z_84, z_85, z_86, z_87, z_88, z_89, z_90, z_91, z_92, z_93, z_94, z_95, z_96, z_97, z_98, z_99, z_100, z_101, z_102, z_103, z_104, z_105, z_106, z_107, z_108, z_109, z_110, z_111, z_112, z_113, z_114, z_115, z_116, z_117, z_118, z_119, z_120, z_121, z_122, z_123, z_124, z_125, z_126, z_127, z_199, z_200, z_360, z_410, z_1000, z_1023, z_1024, z_1219, z_9999, z_10240, z_65537]
    · obtain ⟨hk, hw1, hw0, hn2⟩ := fl_act hf (by omega) h0
      unfold rcd at hrc
      rw [if_neg c] at hrc
      obtain ⟨q1, q2, q3, q4⟩ := hrc
      have hle2 := rcd_le _ _ _ _ q4
      have hrb : 0 ≤ rsn d (kdc (sg e a)) (wht e a) ∧ rsn d (kdc (sg e a)) (wht e a) ≤ 4 := by
        unfold rsn
        repeat' split
        all_goals omega
      have hre : rsn d (kdc (sg e a)) (m 15 t) = rsn d (kdc (sg e a)) (wht e a) := rsn_c q2
      have hact : actd d (kdc (sg e a)) (m 15 t) (m 16 t) = actd d (kdc (sg e a)) (wht e a) (10 * (sg e (a + 2) - 48)) := actd_c q3 q2
      have hwy := m_whyNot m d τ hd (w := m 15 t) hk.1 hk.2 (fun z => by rw [q2 z]; exact hw1 z)
      rw [hre] at hwy
      rw [if_neg c]
      have hm1 := hm.1
      have hm4 := hm.2.2
      by_cases cr : rsn d (kdc (sg e a)) (wht e a) = 0
      · rw [if_pos cr]
        have hg := m_goOne (ud (ud m 99 19 (-6)) 99 20 (-6)) d τ hd ht0 (by omega) (k := kdc (sg e a)) (w := m 15 t) (v := m 16 t)
          (by rw [ud_ne _ _ (by omega), ud_ne _ _ (by omega)]; exact q1) (by rw [ud_ne _ _ (by omega), ud_ne _ _ (by omega)]) (by rw [ud_ne _ _ (by omega), ud_ne _ _ (by omega)]) hk.1 hk.2
          (fun z => by rw [q2 z]; exact hw1 z) (fun z => by rw [(q3 z).1]; exact (hw0 z).1) (fun z => by rw [(q3 z).2]; have := (hw0 z).2; omega) (by rw [hre]; exact cr) (by rw [ud_ne _ _ (by omega), ud_ne _ _ (by omega)]; omega)
        rw [hact] at hg
        have hd' := okd_act hd hk.1 hk.2 hw1 (fun z => (hw0 z).1) (v := 10 * (sg e (a + 2) - 48)) (fun z => by have := (hw0 z).2; omega) cr
        have hm' := mrk_st (d := d) (d' := actd d (kdc (sg e a)) (wht e a) (10 * (sg e (a + 2) - 48))) (k := kdc (sg e a)) hm
        have hbl : ¬ kdc (sg e a) = 2 → bel (actd d (kdc (sg e a)) (wht e a) (10 * (sg e (a + 2) - 48))) (d 99 8) = bel d (d 99 8) := fun z => bed_bel z _
        generalize hD : actd d (kdc (sg e a)) (wht e a) (10 * (sg e (a + 2) - 48)) = d' at *
        generalize hM : goM (ud (ud m 99 19 (-6)) 99 20 (-6)) d d' t (kdc (sg e a)) = m2 at *
        have hko : mko m m2 := by
          rw [← hM]
          exact mko_tr (mko_tr (mko_ud (by decide)) (mko_ud (by decide))) mko_go
        have hn' : stN n d d' (kdc (sg e a)) 99 0 = t + 1 ∧ (stN n d d' (kdc (sg e a)) 99 4 = -6 ∨ 0 ≤ stN n d d' (kdc (sg e a)) 99 4) ∧ stN n d d' (kdc (sg e a)) 99 2 = -6 ∧ stN n d d' (kdc (sg e a)) 99 3 = -6 := by
          unfold stN
          try dsimp only
          split <;> split <;> simp (disch := omega) only [ud_same, ud_ne] <;> omega
        have hmk' : mrks m2 (stN n d d' (kdc (sg e a))) := by
          rw [← hM]
          unfold stN goM mrks
          try dsimp only
          by_cases c2 : kdc (sg e a) = 2
          · by_cases c3 : bel d' (d 99 8) = bel d (d 99 8)
            · rw [if_pos c2, if_pos c2, if_neg (by intro z; exact z.2.1 c3), if_neg (by intro z; exact z.2 c3)]
              simp (disch := omega) only [ud_same, ud_ne]
              refine ⟨?_, ?_, ?_, ?_, ?_⟩ <;> (first | omega | trivial | rfl)
            · by_cases c4 : n 99 4 = -6
              · rw [if_pos c2, if_pos c2, if_pos ⟨c2, c3, by simp (disch := omega) only [ud_same, ud_ne]; omega⟩, if_pos ⟨c4, c3⟩]
                simp (disch := omega) only [ud_same, ud_ne]
                refine ⟨?_, ?_, ?_, ?_, ?_⟩ <;> (first | omega | trivial | rfl)
              · rw [if_pos c2, if_pos c2, if_neg (by intro z; have := z.2.2; simp (disch := omega) only [ud_same, ud_ne] at this; omega), if_neg (by intro z; exact c4 z.1)]
                simp (disch := omega) only [ud_same, ud_ne]
                omega
          · rw [if_neg c2, if_neg c2, if_neg (by intro z; exact c2 z.1), if_neg (by intro z; exact z.2 (hbl c2))]
            simp (disch := omega) only [ud_same, ud_ne]
            omega
        obtain ⟨m', g1, g2, g3⟩ := ih (if kdc (sg e a) = 0 then a + 3 else a + 1) (t + 1) (stN n d d' (kdc (sg e a))) d' m2 ⟨by split <;> omega, by split <;> omega, by split <;> omega⟩ hd' hn2
          (rcd_frm _ _ _ m m2 (fun i => mko_at hko _ _ (by omega)) (fun i => mko_at hko _ _ (by omega)) (fun i => mko_at hko _ _ (by omega)) (mko_at hko _ _ (by omega)) q4)
          ⟨hn'.1, by omega, by split <;> omega⟩ (mrk_mono hm' (by split <;> omega)) hn'.2.1 ⟨hn'.2.2.1, hn'.2.2.2⟩ hmk' (by rw [mko_at hko _ _ (by omega)]; exact h17)
        refine ⟨m', ?_, g2, mko_tr hko g3⟩
        rw [← g1]
        simp (disch := omega) only [q1, hwy, cr, hg, pw_0, up_0, pw_1, up_1, pw_2, up_2, pw_3, up_3, pw_4, up_4, pw_9, up_9, pw_10, up_10, pwi_5, upi_5, pwi_6, upi_6, pwi_7, upi_7, pwi_8, upi_8, pwi_11, upi_11, pw_12, up_12, pw_14, up_14, pw_15, up_15, pw_16, up_16, pw_18, up_18, pw_24, up_24, pw_25, up_25, pw_26, up_26, pw_29, up_29, pw_30, up_30, pw_31, up_31, pwi_13, upi_13, pwi_17, upi_17, pwi_19, upi_19, pwi_20, upi_20, pwi_21, upi_21, pwi_22, upi_22, pwi_23, upi_23, pwi_32, upi_32, pwi_33, upi_33, eC_5, eC_6, eC_13, eC_17, eC_19, eC_20, eC_21, eC_22, eC_23, eC_32, eC_33, eC_p5, eC_p6, eC_p13, eC_p17, eC_p19, eC_p20, eC_p21, eC_p22, eC_p23, eC_p32, eC_p33, s_T, s_F, s_bd, s_cl, s_rd, s_wr, s_ite, z_ite, z_neg, z_add, z_sub, z_mul, z_le, z_lt, z_eq, eC_at, eC_7, eC_8, eC_9, eC_10, eC_11, eC_p7, eC_p8, eC_p9, eC_p10, eC_p11, eC_up, ud_same, ud_ne, if_pos, if_neg, z_0, z_1, z_2, z_3, z_4, z_5, z_6, z_7, z_8, z_9, z_10, z_11, z_12, z_13, z_14, z_15, z_16, z_17, z_18, z_19, z_20, z_21, z_22, z_23, z_24, z_25, z_26, z_27, z_28, z_29, z_30, z_31, z_32, z_33, z_34, z_35, z_36, z_37, z_38, z_39, z_40, z_41, z_42, z_43, z_44, z_45, z_46, z_47, z_48, z_49, z_50, z_51, z_52, z_53, z_54, z_55, z_56, z_57, z_58, z_59, z_60, z_61, z_62, z_63, z_64, z_65, z_66, z_67, z_68, z_69, z_70, z_71, z_72, z_73, z_74, z_75, z_76, z_77, z_78, z_79, z_80, z_81, z_82, z_83, z_84, z_85, z_86, z_87, z_88, z_89, z_90, z_91, z_92, z_93, z_94, z_95, z_96, z_97, z_98, z_99, z_100, z_101, z_102, z_103, z_104, z_105, z_106, z_107, z_108, z_109, z_110, z_111, z_112, z_113, z_114, z_115, z_116, z_117, z_118, z_119, z_120, z_121, z_122, z_123, z_124, z_125, z_126, z_127, z_199, z_200, z_360, z_410, z_1000, z_1023, z_1024, z_1219, z_9999, z_10240, z_65537]
      · rw [if_neg cr]
        have hN : 0 < N := by omega
        obtain ⟨N', rfl⟩ : ∃ q, N = q + 1 := ⟨N - 1, by omega⟩
        refine ⟨ud (ud m 99 19 t) 99 20 (rsn d (kdc (sg e a)) (wht e a)), ?_, ?_, mko_tr (mko_ud (by decide)) (mko_ud (by decide))⟩
        · have hend : again (zI (t + 1), eC (pw (ud (ud m 99 19 t) 99 20 (rsn d (kdc (sg e a)) (wht e a))) d)) = some (eC (pw (ud (ud m 99 19 t) 99 20 (rsn d (kdc (sg e a)) (wht e a))) d)) := by
            rw [← hag, lp_s]
            unfold b_X7_goNights_31
            by_cases c5 : m 99 17 ≤ t + 1
            · simp (disch := omega) only [pw_0, up_0, pw_1, up_1, pw_2, up_2, pw_3, up_3, pw_4, up_4, pw_9, up_9, pw_10, up_10, pwi_5, upi_5, pwi_6, upi_6, pwi_7, upi_7, pwi_8, upi_8, pwi_11, upi_11, pw_12, up_12, pw_14, up_14, pw_15, up_15, pw_16, up_16, pw_18, up_18, pw_24, up_24, pw_25, up_25, pw_26, up_26, pw_29, up_29, pw_30, up_30, pw_31, up_31, pwi_13, upi_13, pwi_17, upi_17, pwi_19, upi_19, pwi_20, upi_20, pwi_21, upi_21, pwi_22, upi_22, pwi_23, upi_23, pwi_32, upi_32, pwi_33, upi_33, eC_5, eC_6, eC_13, eC_17, eC_19, eC_20, eC_21, eC_22, eC_23, eC_32, eC_33, eC_p5, eC_p6, eC_p13, eC_p17, eC_p19, eC_p20, eC_p21, eC_p22, eC_p23, eC_p32, eC_p33, s_T, s_F, s_bd, s_cl, s_rd, s_wr, s_ite, z_ite, z_neg, z_add, z_sub, z_mul, z_le, z_lt, z_eq, eC_at, eC_7, eC_8, eC_9, eC_10, eC_11, eC_p7, eC_p8, eC_p9, eC_p10, eC_p11, eC_up, ud_same, ud_ne, if_pos, if_neg, z_0, z_1, z_2, z_3, z_4, z_5, z_6, z_7, z_8, z_9, z_10, z_11, z_12, z_13, z_14, z_15, z_16, z_17, z_18, z_19, z_20, z_21, z_22, z_23, z_24, z_25, z_26, z_27, z_28, z_29, z_30, z_31, z_32, z_33, z_34, z_35, z_36, z_37, z_38, z_39, z_40, z_41, z_42, z_43, z_44, z_45, z_46, z_47, z_48, z_49, z_50, z_51, z_52, z_53, z_54, z_55, z_56, z_57, z_58, z_59, z_60, z_61, z_62, z_63, z_64, z_65, z_66, z_67, z_68, z_69, z_70, z_71, z_72, z_73, z_74, z_75, z_76, z_77, z_78, z_79, z_80, z_81, z_82, z_83, z_84, z_85, z_86, z_87, z_88, z_89, z_90, z_91, z_92, z_93, z_94, z_95, z_96, z_97, z_98, z_99, z_100, z_101, z_102, z_103, z_104, z_105, z_106, z_107, z_108, z_109, z_110, z_111, z_112, z_113, z_114, z_115, z_116, z_117, z_118, z_119, z_120, z_121, z_122, z_123, z_124, z_125, z_126, z_127, z_199, z_200, z_360, z_410, z_1000, z_1023, z_1024, z_1219, z_9999, z_10240, z_65537]
            · simp (disch := omega) only [pw_0, up_0, pw_1, up_1, pw_2, up_2, pw_3, up_3, pw_4, up_4, pw_9, up_9, pw_10, up_10, pwi_5, upi_5, pwi_6, upi_6, pwi_7, upi_7, pwi_8, upi_8, pwi_11, upi_11, pw_12, up_12, pw_14, up_14, pw_15, up_15, pw_16, up_16, pw_18, up_18, pw_24, up_24, pw_25, up_25, pw_26, up_26, pw_29, up_29, pw_30, up_30, pw_31, up_31, pwi_13, upi_13, pwi_17, upi_17, pwi_19, upi_19, pwi_20, upi_20, pwi_21, upi_21, pwi_22, upi_22, pwi_23, upi_23, pwi_32, upi_32, pwi_33, upi_33, eC_5, eC_6, eC_13, eC_17, eC_19, eC_20, eC_21, eC_22, eC_23, eC_32, eC_33, eC_p5, eC_p6, eC_p13, eC_p17, eC_p19, eC_p20, eC_p21, eC_p22, eC_p23, eC_p32, eC_p33, s_T, s_F, s_bd, s_cl, s_rd, s_wr, s_ite, z_ite, z_neg, z_add, z_sub, z_mul, z_le, z_lt, z_eq, eC_at, eC_7, eC_8, eC_9, eC_10, eC_11, eC_p7, eC_p8, eC_p9, eC_p10, eC_p11, eC_up, ud_same, ud_ne, if_pos, if_neg, z_0, z_1, z_2, z_3, z_4, z_5, z_6, z_7, z_8, z_9, z_10, z_11, z_12, z_13, z_14, z_15, z_16, z_17, z_18, z_19, z_20, z_21, z_22, z_23, z_24, z_25, z_26, z_27, z_28, z_29, z_30, z_31, z_32, z_33, z_34, z_35, z_36, z_37, z_38, z_39, z_40, z_41, z_42, z_43, z_44, z_45, z_46, z_47, z_48, z_49, z_50, z_51, z_52, z_53, z_54, z_55, z_56, z_57, z_58, z_59, z_60, z_61, z_62, z_63, z_64, z_65, z_66, z_67, z_68, z_69, z_70, z_71, z_72, z_73, z_74, z_75, z_76, z_77, z_78, z_79, z_80, z_81, z_82, z_83, z_84, z_85, z_86, z_87, z_88, z_89, z_90, z_91, z_92, z_93, z_94, z_95, z_96, z_97, z_98, z_99, z_100, z_101, z_102, z_103, z_104, z_105, z_106, z_107, z_108, z_109, z_110, z_111, z_112, z_113, z_114, z_115, z_116, z_117, z_118, z_119, z_120, z_121, z_122, z_123, z_124, z_125, z_126, z_127, z_199, z_200, z_360, z_410, z_1000, z_1023, z_1024, z_1219, z_9999, z_10240, z_65537]
          try dsimp only
          rw [← hend]
          simp (disch := omega) only [q1, hwy, pw_0, up_0, pw_1, up_1, pw_2, up_2, pw_3, up_3, pw_4, up_4, pw_9, up_9, pw_10, up_10, pwi_5, upi_5, pwi_6, upi_6, pwi_7, upi_7, pwi_8, upi_8, pwi_11, upi_11, pw_12, up_12, pw_14, up_14, pw_15, up_15, pw_16, up_16, pw_18, up_18, pw_24, up_24, pw_25, up_25, pw_26, up_26, pw_29, up_29, pw_30, up_30, pw_31, up_31, pwi_13, upi_13, pwi_17, upi_17, pwi_19, upi_19, pwi_20, upi_20, pwi_21, upi_21, pwi_22, upi_22, pwi_23, upi_23, pwi_32, upi_32, pwi_33, upi_33, eC_5, eC_6, eC_13, eC_17, eC_19, eC_20, eC_21, eC_22, eC_23, eC_32, eC_33, eC_p5, eC_p6, eC_p13, eC_p17, eC_p19, eC_p20, eC_p21, eC_p22, eC_p23, eC_p32, eC_p33, s_T, s_F, s_bd, s_cl, s_rd, s_wr, s_ite, z_ite, z_neg, z_add, z_sub, z_mul, z_le, z_lt, z_eq, eC_at, eC_7, eC_8, eC_9, eC_10, eC_11, eC_p7, eC_p8, eC_p9, eC_p10, eC_p11, eC_up, ud_same, ud_ne, if_pos, if_neg, z_0, z_1, z_2, z_3, z_4, z_5, z_6, z_7, z_8, z_9, z_10, z_11, z_12, z_13, z_14, z_15, z_16, z_17, z_18, z_19, z_20, z_21, z_22, z_23, z_24, z_25, z_26, z_27, z_28, z_29, z_30, z_31, z_32, z_33, z_34, z_35, z_36, z_37, z_38, z_39, z_40, z_41, z_42, z_43, z_44, z_45, z_46, z_47, z_48, z_49, z_50, z_51, z_52, z_53, z_54, z_55, z_56, z_57, z_58, z_59, z_60, z_61, z_62, z_63, z_64, z_65, z_66, z_67, z_68, z_69, z_70, z_71, z_72, z_73, z_74, z_75, z_76, z_77, z_78, z_79, z_80, z_81, z_82, z_83, z_84, z_85, z_86, z_87, z_88, z_89, z_90, z_91, z_92, z_93, z_94, z_95, z_96, z_97, z_98, z_99, z_100, z_101, z_102, z_103, z_104, z_105, z_106, z_107, z_108, z_109, z_110, z_111, z_112, z_113, z_114, z_115, z_116, z_117, z_118, z_119, z_120, z_121, z_122, z_123, z_124, z_125, z_126, z_127, z_199, z_200, z_360, z_410, z_1000, z_1023, z_1024, z_1219, z_9999, z_10240, z_65537]
        · unfold mrks
          dsimp only
          simp (disch := omega) only [ud_same, ud_ne]
          refine ⟨?_, ?_, ?_, ?_, ?_⟩ <;> (first | omega | trivial | rfl)
end
section
/-! calls that end: oK Q x says that x answers, with Q -/
def oK {β : Type} (Q : β → Prop) (x : Option β) : Prop := ∃ r, x = some r ∧ Q r
section OKS
variable {α β : Type} {Q : β → Prop}
theorem ok_r {r : β} (h : Q r) : oK Q (some r) := ⟨r, rfl, h⟩
theorem ok_bd {x : α} {k : α → Option β} (h : oK Q (k x)) : oK Q (q_bd x k) := h
theorem ok_cl {P : α → Prop} {x : Option α} {k : α → Option β} (h : oK P x) (hk : ∀ a, P a → oK Q (k a)) : oK Q (q_cl x k) := by
  obtain ⟨a, rfl, ha⟩ := h
  exact hk a ha
theorem ok_if {c : Prop} [Decidable c] {a b : Option β} (h1 : c → oK Q a) (h2 : ¬ c → oK Q b) : oK Q (if c then a else b) := by
  by_cases h : c
  · rw [if_pos h]; exact h1 h
  · rw [if_neg h]; exact h2 h
theorem ok_rd {σ : qS} {k n : Nat} {i : Int} {K : Int32 → Option β} (h0 : 0 ≤ i) (h : i < n) (hn : n < 2147483648) (hk : ∀ v, oK Q (K v)) : oK Q (q_rd σ k n (zI i) K) := by
  rw [s_rd h0 h hn]; exact hk _
theorem ok_wr {σ : qS} {k n : Nat} {i : Int} {x : Int32} {K : qS → Option β} (h0 : 0 ≤ i) (h : i < n) (hn : n < 2147483648) (hk : ∀ v, oK Q (K v)) : oK Q (q_wr σ k n (zI i) x K) := by
  rw [s_wr h0 h hn]; exact hk _
theorem ok_mono {P : β → Prop} {x : Option β} (h : oK P x) (hq : ∀ r, P r → Q r) : oK Q x := by
  obtain ⟨r, e, hr⟩ := h
  exact ⟨r, e, hq r hr⟩
theorem ok_chk {b : Bool} {x : Option β} (hb : b = true) (h : oK Q x) : oK Q (q_chk b x) := by rw [s_chk hb]; exact h
/-- a loop that counts up -/
theorem ok_for {τ : Type} {body : (Int32 × τ → Option β) → (Int32 × τ → Option β) → Int32 × τ → Option β} {k : Int32 × τ → Option β} (hi : Int) (P : τ → Prop)
    (h : ∀ (again : Int32 × τ → Option β) (i : Int) (t : τ), 0 ≤ i → i ≤ hi → P t → (i < hi → ∀ t', P t' → oK Q (again (zI (i + 1), t'))) → oK Q (body k again (zI i, t))) :
    ∀ (N : Nat) (i : Int) (t : τ), 0 ≤ i → i ≤ hi → P t → (hi - i).toNat < N → oK Q (q_lp body k N (zI i, t)) := by
  intro N
  induction N with
  | zero => intro i t _ _ _ hN; omega
  | succ N ih =>
    intro i t h0 h1 hp hN
    rw [lp_s]
    exact h _ i t h0 h1 hp (fun hl t' ht' => ih (i + 1) t' (by omega) (by omega) ht' (by omega))
theorem ok_for1 {body : (Int32 → Option β) → (Int32 → Option β) → Int32 → Option β} {k : Int32 → Option β} (hi : Int)
    (h : ∀ (again : Int32 → Option β) (i : Int), 0 ≤ i → i ≤ hi → (i < hi → oK Q (again (zI (i + 1)))) → oK Q (body k again (zI i))) :
    ∀ (N : Nat) (i : Int), 0 ≤ i → i ≤ hi → (hi - i).toNat < N → oK Q (q_lp body k N (zI i)) := by
  intro N
  induction N with
  | zero => intro i _ _ hN; omega
  | succ N ih =>
    intro i h0 h1 hN
    rw [lp_s]
    exact h _ i h0 h1 (fun hl => ih (i + 1) (by omega) (by omega) (by omega))
end OKS
theorem z_s1 (i : Int) : zI i + 1 = zI (i + 1) := by rw [z_1, z_add]
theorem t_le {i n : Int} (h : 0 ≤ i) (h1 : i < 100000) (h2 : 0 ≤ n) (h3 : n < 100000) (hc : zI n ≤ zI i) : n ≤ i := (z_le (by omega) (by omega) (by omega) (by omega)).mp hc
theorem t_nle {i n : Int} (h : 0 ≤ i) (h1 : i < 100000) (h2 : 0 ≤ n) (h3 : n < 100000) (hc : ¬ zI n ≤ zI i) : i < n := by
  rw [z_le (by omega) (by omega) (by omega) (by omega)] at hc; omega
abbrev tt {β : Type} : β → Prop := fun _ => True
/-! ways of the class, whatever lies in its rows -/
theorem w_leastWay (σ : qS) {a b : Int} (a0 : 0 ≤ a) (a1 : a ≤ 10) (b0 : 0 ≤ b) (b1 : b ≤ 10) : oK tt (f_X5_leastWay σ (zI a) (zI b)) := by
  unfold f_X5_leastWay
  simp (disch := omega) only [x_isPlace, s_T, s_F, s_bd, s_cl, s_rd, s_wr, s_ite, z_ite, z_neg, z_add, z_sub, z_mul, z_le, z_lt, z_eq, eC_at, eC_7, eC_8, eC_9, eC_10, eC_11, eC_p7, eC_p8, eC_p9, eC_p10, eC_p11, eC_up, ud_same, ud_ne, if_pos, if_neg, z_0, z_1, z_2, z_3, z_4, z_5, z_6, z_7, z_8, z_9, z_10, z_11, z_12, z_13, z_14, z_15, z_16, z_17, z_18, z_19, z_20, z_21, z_22, z_23, z_24, z_25, z_26, z_27, z_28, z_29, z_30, z_31, z_32, z_33, z_34, z_35, z_36, z_37, z_38, z_39, z_40, z_41, z_42, z_43, z_44, z_45, z_46, z_47, z_48, z_49, z_50, z_51, z_52, z_53, z_54, z_55, z_56, z_57, z_58, z_59, z_60, z_61, z_62, z_63, z_64, z_65, z_66, z_67, z_68, z_69, z_70, z_71, z_72, z_73, z_74, z_75, z_76, z_77, z_78, z_79, z_80, z_81, z_82, z_83, z_84, z_85, z_86, z_87, z_88, z_89, z_90, z_91, z_92, z_93, z_94, z_95, z_96, z_97, z_98, z_99, z_100, z_101, z_102, z_103, z_104, z_105, z_106, z_107, z_108, z_109, z_110, z_111, z_112, z_113, z_114, z_115, z_116, z_117, z_118, z_119, z_120, z_121, z_122, z_123, z_124, z_125, z_126, z_127, z_199, z_200, z_360, z_410, z_1000, z_1023, z_1024, z_1219, z_9999, z_10240, z_65537]
  exact ⟨_, rfl, trivial⟩
theorem w_shortenPast (σ : qS) {a b : Int} (a0 : 0 ≤ a) (a1 : a ≤ 10) (b0 : 0 ≤ b) (b1 : b ≤ 10) : oK tt (f_X5_shortenPast σ (zI a) (zI b)) := by
  unfold f_X5_shortenPast
  rw [z_0]
  refine ok_for (τ := qS) 11 tt (fun again i t h0 h1 _ ih => ?_) 20000 0 σ (by omega) (by omega) trivial (by omega)
  unfold b_X5_shortenPast_2
  dsimp only
  rw [z_11, z_s1]
  refine ok_if (fun _ => ok_r trivial) (fun c => ?_)
  have hi := t_nle h0 (by omega) (by omega) (by omega) c
  refine ok_cl (w_leastWay _ b0 b1 a0 a1) (fun r3 _ => ok_cl (w_leastWay _ a0 a1 h0 (by omega)) (fun r5 _ => ok_bd (ok_cl (w_leastWay _ b0 b1 h0 (by omega)) (fun r9 _ => ok_if (fun _ => ih hi _ trivial) (fun _ => ?_)))))
  simp (disch := omega) only [x_isPlace, s_T, s_F, s_bd, s_cl, s_rd, s_wr, s_ite, z_ite, z_neg, z_add, z_sub, z_mul, z_le, z_lt, z_eq, eC_at, eC_7, eC_8, eC_9, eC_10, eC_11, eC_p7, eC_p8, eC_p9, eC_p10, eC_p11, eC_up, ud_same, ud_ne, if_pos, if_neg, z_0, z_1, z_2, z_3, z_4, z_5, z_6, z_7, z_8, z_9, z_10, z_11, z_12, z_13, z_14, z_15, z_16, z_17, z_18, z_19, z_20, z_21, z_22, z_23, z_24, z_25, z_26, z_27, z_28, z_29, z_30, z_31, z_32, z_33, z_34, z_35, z_36, z_37, z_38, z_39, z_40, z_41, z_42, z_43, z_44, z_45, z_46, z_47, z_48, z_49, z_50, z_51, z_52, z_53, z_54, z_55, z_56, z_57, z_58, z_59, z_60, z_61, z_62, z_63, z_64, z_65, z_66, z_67, z_68, z_69, z_70, z_71, z_72, z_73, z_74, z_75, z_76, z_77, z_78, z_79, z_80, z_81, z_82, z_83, z_84, z_85, z_86, z_87, z_88, z_89, z_90, z_91, z_92, z_93, z_94, z_95, z_96, z_97, z_98, z_99, z_100, z_101, z_102, z_103, z_104, z_105, z_106, z_107, z_108, z_109, z_110, z_111, z_112, z_113, z_114, z_115, z_116, z_117, z_118, z_119, z_120, z_121, z_122, z_123, z_124, z_125, z_126, z_127, z_199, z_200, z_360, z_410, z_1000, z_1023, z_1024, z_1219, z_9999, z_10240, z_65537]
  exact ih hi _ trivial
theorem w_measure (σ : qS) (d : Nat → Int → Int) : oK tt (f_X5_measure σ (eC d)) := by
  unfold f_X5_measure
  rw [z_0]
  refine ok_for (τ := qS) 11 tt (fun again i t h0 h1 _ ih => ?_) 20000 0 σ (by omega) (by omega) trivial (by omega)
  unfold b_X5_measure_2
  dsimp only
  rw [z_11, z_s1, z_0]
  refine ok_if (fun _ => ?_) (fun c => ?_)
  · refine ok_for (τ := qS) 11 tt (fun again i t h0 h1 _ ih => ?_) 20000 0 t (by omega) (by omega) trivial (by omega)
    unfold b_X5_measure_74
    dsimp only
    rw [z_11, z_s1, z_0]
    refine ok_if (fun _ => ok_r trivial) (fun c => ?_)
    have hi := t_nle h0 (by omega) (by omega) (by omega) c
    refine ok_for (τ := qS) 11 tt (fun again2 j t h2 h3 _ ih2 => ?_) 20000 0 t (by omega) (by omega) trivial (by omega)
    unfold b_X5_measure_82
    dsimp only
    rw [z_11, z_s1]
    refine ok_if (fun _ => ih hi _ trivial) (fun c => ?_)
    have hj := t_nle h2 (by omega) (by omega) (by omega) c
    exact ok_cl (w_shortenPast _ h0 (by omega) h2 (by omega)) (fun _ _ => ih2 hj _ trivial)
  · have hi := t_nle h0 (by omega) (by omega) (by omega) c
    refine ok_for (τ := qS) 11 tt (fun again2 j t h2 h3 _ ih2 => ?_) 20000 0 t (by omega) (by omega) trivial (by omega)
    unfold b_X5_measure_10
    dsimp only
    rw [z_11, z_s1, z_mul, z_add]
    refine ok_if (fun _ => ?_) (fun c => ?_)
    · exact ok_wr (by omega) (by omega) (by omega) (fun _ => ih hi _ trivial)
    · have hj := t_nle h2 (by omega) (by omega) (by omega) c
      rw [x_longBetween d h0 (by omega) h2 (by omega), s_cl, z_add]
      exact ok_if (fun _ => ok_wr (by omega) (by omega) (by omega) (fun _ => ih2 hj _ trivial)) (fun _ => ok_wr (by omega) (by omega) (by omega) (fun _ => ih2 hj _ trivial))
theorem w_howFar (σ : qS) {a b : Int} (a0 : 0 ≤ a) (a1 : a ≤ 10) (b0 : 0 ≤ b) (b1 : b ≤ 10) : oK tt (f_X5_howFar σ (zI a) (zI b)) := by
  unfold f_X5_howFar
  exact ok_cl (w_leastWay σ a0 a1 b0 b1) (fun r _ => ok_if (fun _ => ok_r trivial) (fun _ => ok_r trivial))
theorem w_nextPlace (σ : qS) (d : Nat → Int → Int) {a b : Int} (a0 : 0 ≤ a) (a1 : a ≤ 10) (b0 : 0 ≤ b) (b1 : b ≤ 10) : oK tt (f_X5_nextPlace σ (eC d) (zI a) (zI b)) := by
  unfold f_X5_nextPlace
  refine ok_cl (w_howFar σ a0 a1 b0 b1) (fun r1 _ => ok_if (fun _ => ok_r trivial) (fun _ => ok_if (fun _ => ok_r trivial) (fun _ => ?_)))
  rw [z_0]
  refine ok_for1 11 (fun again i h0 h1 ih => ?_) 20000 0 (by omega) (by omega) (by omega)
  unfold b_X5_nextPlace_26
  rw [z_11, z_s1]
  refine ok_if (fun _ => ok_r trivial) (fun c => ?_)
  have hi := t_nle h0 (by omega) (by omega) (by omega) c
  rw [x_longBetween d a0 a1 h0 (by omega), s_cl]
  refine ok_if (fun _ => ih hi) (fun _ => ok_cl (w_leastWay σ h0 (by omega) b0 b1) (fun _ _ => ok_if (fun _ => ok_r trivial) (fun _ => ih hi)))
/-! rounds of the class -/
theorem w_heatLeft (σ η : qS) (s : Int32) {b : Int} (b0 : 0 ≤ b) (b1 : b ≤ 9) : oK tt (f_X5_heatLeft σ η s (zI b)) := by
  obtain ⟨s, s0, s1, rfl⟩ := z_of s
  unfold f_X5_heatLeft
  by_cases c : 0 ≤ s ∧ s ≤ 1023
  · simp (disch := omega) only [x_within, x_isHouse, s_T, s_F, s_bd, s_cl, s_rd, s_wr, s_ite, z_ite, z_neg, z_add, z_sub, z_mul, z_le, z_lt, z_eq, eC_at, eC_7, eC_8, eC_9, eC_10, eC_11, eC_p7, eC_p8, eC_p9, eC_p10, eC_p11, eC_up, ud_same, ud_ne, if_pos, if_neg, z_0, z_1, z_2, z_3, z_4, z_5, z_6, z_7, z_8, z_9, z_10, z_11, z_12, z_13, z_14, z_15, z_16, z_17, z_18, z_19, z_20, z_21, z_22, z_23, z_24, z_25, z_26, z_27, z_28, z_29, z_30, z_31, z_32, z_33, z_34, z_35, z_36, z_37, z_38, z_39, z_40, z_41, z_42, z_43, z_44, z_45, z_46, z_47, z_48, z_49, z_50, z_51, z_52, z_53, z_54, z_55, z_56, z_57, z_58, z_59, z_60, z_61, z_62, z_63, z_64, z_65, z_66, z_67, z_68, z_69, z_70, z_71, z_72, z_73, z_74, z_75, z_76, z_77, z_78, z_79, z_80, z_81, z_82, z_83, z_84, z_85, z_86, z_87, z_88, z_89, z_90, z_91, z_92, z_93, z_94, z_95, z_96, z_97, z_98, z_99, z_100, z_101, z_102, z_103, z_104, z_105, z_106, z_107, z_108, z_109, z_110, z_111, z_112, z_113, z_114, z_115, z_116, z_117, z_118, z_119, z_120, z_121, z_122, z_123, z_124, z_125, z_126, z_127, z_199, z_200, z_360, z_410, z_1000, z_1023, z_1024, z_1219, z_9999, z_10240, z_65537]
    exact ⟨_, rfl, trivial⟩
  · simp (disch := omega) only [x_within, x_isHouse, s_T, s_F, s_bd, s_cl, s_rd, s_wr, s_ite, z_ite, z_neg, z_add, z_sub, z_mul, z_le, z_lt, z_eq, eC_at, eC_7, eC_8, eC_9, eC_10, eC_11, eC_p7, eC_p8, eC_p9, eC_p10, eC_p11, eC_up, ud_same, ud_ne, if_pos, if_neg, z_0, z_1, z_2, z_3, z_4, z_5, z_6, z_7, z_8, z_9, z_10, z_11, z_12, z_13, z_14, z_15, z_16, z_17, z_18, z_19, z_20, z_21, z_22, z_23, z_24, z_25, z_26, z_27, z_28, z_29, z_30, z_31, z_32, z_33, z_34, z_35, z_36, z_37, z_38, z_39, z_40, z_41, z_42, z_43, z_44, z_45, z_46, z_47, z_48, z_49, z_50, z_51, z_52, z_53, z_54, z_55, z_56, z_57, z_58, z_59, z_60, z_61, z_62, z_63, z_64, z_65, z_66, z_67, z_68, z_69, z_70, z_71, z_72, z_73, z_74, z_75, z_76, z_77, z_78, z_79, z_80, z_81, z_82, z_83, z_84, z_85, z_86, z_87, z_88, z_89, z_90, z_91, z_92, z_93, z_94, z_95, z_96, z_97, z_98, z_99, z_100, z_101, z_102, z_103, z_104, z_105, z_106, z_107, z_108, z_109, z_110, z_111, z_112, z_113, z_114, z_115, z_116, z_117, z_118, z_119, z_120, z_121, z_122, z_123, z_124, z_125, z_126, z_127, z_199, z_200, z_360, z_410, z_1000, z_1023, z_1024, z_1219, z_9999, z_10240, z_65537]
    exact ⟨_, rfl, trivial⟩
theorem w_warm (σ η : qS) {d} (hd : okd d) (s v : Int32) {b : Int} (b0 : 0 ≤ b) (b1 : b ≤ 9) : oK tt (f_X5_warm σ η (eC d) s (zI b) v) := by
  have hh := w_heatLeft σ η s b0 b1
  obtain ⟨s, s0, s1, rfl⟩ := z_of s
  obtain ⟨v, v0, v1, rfl⟩ := z_of v
  unfold f_X5_warm
  rw [x_isDamp d hd b0 b1, s_cl, x_isConvinced d hd b0 b1 v0 v1, s_cl]
  refine ok_if (fun _ => ok_if (fun _ => ok_r trivial) (fun _ => ok_bd (ok_cl hh (fun _ _ => ok_if (fun _ => ok_r trivial) (fun _ => ?_))))) (fun _ => ok_r trivial)
  by_cases c : 0 ≤ s ∧ s ≤ 1023
  · simp (disch := omega) only [x_within, x_isHouse, s_T, s_F, s_bd, s_cl, s_rd, s_wr, s_ite, z_ite, z_neg, z_add, z_sub, z_mul, z_le, z_lt, z_eq, eC_at, eC_7, eC_8, eC_9, eC_10, eC_11, eC_p7, eC_p8, eC_p9, eC_p10, eC_p11, eC_up, ud_same, ud_ne, if_pos, if_neg, z_0, z_1, z_2, z_3, z_4, z_5, z_6, z_7, z_8, z_9, z_10, z_11, z_12, z_13, z_14, z_15, z_16, z_17, z_18, z_19, z_20, z_21, z_22, z_23, z_24, z_25, z_26, z_27, z_28, z_29, z_30, z_31, z_32, z_33, z_34, z_35, z_36, z_37, z_38, z_39, z_40, z_41, z_42, z_43, z_44, z_45, z_46, z_47, z_48, z_49, z_50, z_51, z_52, z_53, z_54, z_55, z_56, z_57, z_58, z_59, z_60, z_61, z_62, z_63, z_64, z_65, z_66, z_67, z_68, z_69, z_70, z_71, z_72, z_73, z_74, z_75, z_76, z_77, z_78, z_79, z_80, z_81, z_82, z_83, z_84, z_85, z_86, z_87, z_88, z_89, z_90, z_91, z_92, z_93, z_94, z_95, z_96, z_97, z_98, z_99, z_100, z_101, z_102, z_103, z_104, z_105, z_106, z_107, z_108, z_109, z_110, z_111, z_112, z_113, z_114, z_115, z_116, z_117, z_118, z_119, z_120, z_121, z_122, z_123, z_124, z_125, z_126, z_127, z_199, z_200, z_360, z_410, z_1000, z_1023, z_1024, z_1219, z_9999, z_10240, z_65537]
    exact ⟨_, rfl, trivial⟩
  · simp (disch := omega) only [x_within, x_isHouse, s_T, s_F, s_bd, s_cl, s_rd, s_wr, s_ite, z_ite, z_neg, z_add, z_sub, z_mul, z_le, z_lt, z_eq, eC_at, eC_7, eC_8, eC_9, eC_10, eC_11, eC_p7, eC_p8, eC_p9, eC_p10, eC_p11, eC_up, ud_same, ud_ne, if_pos, if_neg, z_0, z_1, z_2, z_3, z_4, z_5, z_6, z_7, z_8, z_9, z_10, z_11, z_12, z_13, z_14, z_15, z_16, z_17, z_18, z_19, z_20, z_21, z_22, z_23, z_24, z_25, z_26, z_27, z_28, z_29, z_30, z_31, z_32, z_33, z_34, z_35, z_36, z_37, z_38, z_39, z_40, z_41, z_42, z_43, z_44, z_45, z_46, z_47, z_48, z_49, z_50, z_51, z_52, z_53, z_54, z_55, z_56, z_57, z_58, z_59, z_60, z_61, z_62, z_63, z_64, z_65, z_66, z_67, z_68, z_69, z_70, z_71, z_72, z_73, z_74, z_75, z_76, z_77, z_78, z_79, z_80, z_81, z_82, z_83, z_84, z_85, z_86, z_87, z_88, z_89, z_90, z_91, z_92, z_93, z_94, z_95, z_96, z_97, z_98, z_99, z_100, z_101, z_102, z_103, z_104, z_105, z_106, z_107, z_108, z_109, z_110, z_111, z_112, z_113, z_114, z_115, z_116, z_117, z_118, z_119, z_120, z_121, z_122, z_123, z_124, z_125, z_126, z_127, z_199, z_200, z_360, z_410, z_1000, z_1023, z_1024, z_1219, z_9999, z_10240, z_65537]
    exact ⟨_, rfl, trivial⟩
theorem w_isIn (a b : Int32) : f_X6_isIn a b = some 0 ∨ f_X6_isIn a b = some 1 := by
  unfold f_X6_isIn
  split
  · exact Or.inr rfl
  · exact Or.inl rfl
theorem w_isInk (a b : Int32) : oK (fun r => r = 0 ∨ r = 1) (f_X6_isIn a b) := by
  rcases w_isIn a b with e | e
  · exact ⟨_, e, Or.inl rfl⟩
  · exact ⟨_, e, Or.inr rfl⟩
theorem w_goOn (σ η : qS) {d} (hd : okd d) (s : Int32) : oK tt (f_X5_goOn σ η (eC d) s) := by
  unfold f_X5_goOn
  rw [z_0]
  refine ok_for (τ := Int32 × qS) 10 (fun t => t.1 = 0 ∨ t.1 = 1) (fun again i t h0 h1 ht ih => ?_) 20000 0 (zI 0, η) (by omega) (by omega) (Or.inl rfl) (by omega)
  unfold b_X5_goOn_5
  dsimp only
  rw [z_10, z_s1, z_0]
  refine ok_if (fun _ => ?_) (fun c => ?_)
  · refine ok_chk ?_ (ok_r trivial)
    rcases ht with e | e <;> rw [e] <;> decide
  · have hi := t_nle h0 (by omega) (by omega) (by omega) c
    refine ok_cl (w_heatLeft σ _ s h0 (by omega)) (fun r4 _ => ok_if (fun _ => ih hi (t.1, t.2) ht) (fun _ => ?_))
    refine ok_for (τ := qS) 10 tt (fun again2 j t2 h2 h3 _ ih2 => ?_) 20000 0 t.2 (by omega) (by omega) trivial (by omega)
    unfold b_X5_goOn_35
    dsimp only
    rw [z_10, z_s1]
    refine ok_if (fun _ => ih hi ((1 : Int32), t2) (Or.inr rfl)) (fun c => ?_)
    have hj := t_nle h2 (by omega) (by omega) (by omega) c
    refine ok_cl (w_isInk _ _) (fun r9 _ => ok_if (fun _ => ok_cl (w_leastWay σ h0 (by omega) h2 (by omega)) (fun r12 _ => ok_cl (w_warm σ _ hd _ _ h2 (by omega)) (fun _ _ => ih2 hj _ trivial))) (fun _ => ih2 hj _ trivial))
theorem w_bits (x : Int32) : oK tt (f_J6_bitCount_0f7a4 x) := by
  unfold f_J6_bitCount_0f7a4
  simp only [s_bd]
  exact ⟨_, rfl, trivial⟩
theorem w_bestRound (σ η : qS) {d} (hd : okd d) (h : Int32) : oK tt (f_X5_bestRound σ η (eC d) h) := by
  unfold f_X5_bestRound
  refine ok_cl (w_measure σ d) (fun σ1 _ => ?_)
  rw [x_fill (by decide), s_cl]
  refine ok_bd ?_
  rw [z_0, z_1]
  refine ok_for (τ := qS) 10 tt (fun again i t h0 h1 _ ih => ?_) 20000 0 _ (by omega) (by omega) trivial (by omega)
  unfold b_X5_bestRound_31
  dsimp only
  rw [z_10, z_s1]
  refine ok_if (fun _ => ?_) (fun c => ?_)
  · refine ok_for (τ := qS × Int32) 1024 tt (fun again i t h0 h1 _ ih => ?_) 20000 1 _ (by omega) (by omega) trivial (by omega)
    unfold b_X5_bestRound_66
    dsimp only
    rw [z_s1]
    rw [z_1024]
    refine ok_if (fun _ => ok_r trivial) (fun c => ?_)
    have hi := t_nle h0 (by omega) (by omega) (by omega) c
    refine ok_cl (w_goOn σ1 _ hd _) (fun y _ => ok_if (fun _ => ih hi _ trivial) (fun _ => ok_cl (w_bits _) (fun _ _ => ok_cl (w_bits _) (fun _ _ => ok_if (fun _ => ih hi _ trivial) (fun _ => ih hi _ trivial)))))
  · have hi := t_nle h0 (by omega) (by omega) (by omega) c
    exact ok_cl (w_leastWay σ1 (by omega) (by omega) h0 (by omega)) (fun _ _ => ok_cl (w_warm σ1 _ hd _ _ h0 (by omega)) (fun _ _ => ih hi _ trivial))
theorem w_bestRound_n (σ : qS) {d} (hd : okd d) (h : Int32) : oK tt (f_X5_bestRound_n σ (eC d) h) := by
  unfold f_X5_bestRound_n
  refine ok_cl (w_measure σ d) (fun σ1 _ => ?_)
  rw [x_fill (by decide), s_cl]
  refine ok_bd ?_
  rw [z_0, z_1]
  refine ok_for (τ := qS) 10 tt (fun again i t h0 h1 _ ih => ?_) 20000 0 _ (by omega) (by omega) trivial (by omega)
  unfold b_X5_bestRound_n_31
  dsimp only
  rw [z_10, z_s1]
  refine ok_if (fun _ => ?_) (fun c => ?_)
  · refine ok_for (τ := qS × Int32) 1024 tt (fun again i t h0 h1 _ ih => ?_) 20000 1 _ (by omega) (by omega) trivial (by omega)
    unfold b_X5_bestRound_n_66
    dsimp only
    rw [z_s1]
    rw [z_1024]
    refine ok_if (fun _ => ok_r trivial) (fun c => ?_)
    have hi := t_nle h0 (by omega) (by omega) (by omega) c
    refine ok_cl (w_goOn σ1 _ hd _) (fun y _ => ok_if (fun _ => ih hi _ trivial) (fun _ => ok_cl (w_bits _) (fun _ _ => ok_cl (w_bits _) (fun _ _ => ok_if (fun _ => ih hi _ trivial) (fun _ => ih hi _ trivial)))))
  · have hi := t_nle h0 (by omega) (by omega) (by omega) c
    exact ok_cl (w_leastWay σ1 (by omega) (by omega) h0 (by omega)) (fun _ _ => ok_cl (w_warm σ1 _ hd _ _ h0 (by omega)) (fun _ _ => ih hi _ trivial))
/-! keeping, of the class -/
theorem w_findNeighbours (σ : qS) (d : Nat → Int → Int) : oK tt (f_X5_findNeighbours σ (eC d)) := by
  unfold f_X5_findNeighbours
  rw [z_0]
  refine ok_for (τ := qS) 11 tt (fun again i t h0 h1 _ ih => ?_) 20000 0 σ (by omega) (by omega) trivial (by omega)
  unfold b_X5_findNeighbours_2
  dsimp only
  rw [z_11, z_s1, z_0]
  refine ok_if (fun _ => ok_r trivial) (fun c => ?_)
  have hi := t_nle h0 (by omega) (by omega) (by omega) c
  refine ok_for (τ := Int32) 11 tt (fun again2 j t2 h2 h3 _ ih2 => ?_) 20000 0 _ (by omega) (by omega) trivial (by omega)
  unfold b_X5_findNeighbours_13
  dsimp only
  rw [z_11, z_s1]
  refine ok_if (fun _ => ok_wr h0 (by omega) (by omega) (fun _ => ih hi _ trivial)) (fun c => ?_)
  have hj := t_nle h2 (by omega) (by omega) (by omega) c
  rw [x_longBetween d h0 (by omega) h2 (by omega), s_cl]
  exact ok_if (fun _ => ih2 hj _ trivial) (fun _ => ok_bd (ih2 hj _ trivial))
theorem w_leadsTo (σ : qS) (a s : Int32) : oK tt (f_X5_leadsTo σ a s) := by
  unfold f_X5_leadsTo
  rw [z_0]
  refine ok_for (τ := Int32) 11 tt (fun again i t h0 h1 _ ih => ?_) 20000 0 _ (by omega) (by omega) trivial (by omega)
  have hend : ∀ t : Int32, oK tt (q_cl (f_X6_isIn a t) fun r_2 => q_chk (q_isB r_2) <| some r_2) := fun t => by
    refine ok_cl (w_isInk a t) (fun r hr => ok_chk ?_ (ok_r trivial))
    rcases hr with e | e <;> rw [e] <;> decide
  unfold b_X5_leadsTo_7
  dsimp only
  rw [z_11, z_s1, z_0]
  refine ok_if (fun _ => hend _) (fun c => ?_)
  have hi := t_nle h0 (by omega) (by omega) (by omega) c
  refine ok_cl (w_isInk _ _) (fun r _ => ok_if (fun _ => ?_) (fun _ => hend _))
  refine ok_for (τ := Int32) 11 tt (fun again2 j t2 h2 h3 _ ih2 => ?_) 20000 0 _ (by omega) (by omega) trivial (by omega)
  unfold b_X5_leadsTo_28
  dsimp only
  rw [z_11, z_s1]
  refine ok_if (fun _ => ih hi _ trivial) (fun c => ?_)
  have hj := t_nle h2 (by omega) (by omega) (by omega) c
  exact ok_cl (w_isInk _ _) (fun r _ => ok_if (fun _ => ih2 hj _ trivial) (fun _ => ok_rd h2 (by omega) (by omega) (fun _ => ok_bd (ih2 hj _ trivial))))
theorem w_fewestDamp (σ : qS) (d : Nat → Int → Int) {b : Int} (b0 : 0 ≤ b) (b1 : b ≤ 9) : oK tt (f_X5_fewestDamp σ (eC d) (zI b)) := by
  unfold f_X5_fewestDamp
  rw [z_10, x_longBetween d (by omega) (by omega) b0 (by omega), s_cl]
  refine ok_if (fun _ => ok_cl (w_findNeighbours σ d) (fun σ1 _ => ?_)) (fun _ => ok_r trivial)
  rw [z_0]
  refine ok_for (τ := Int32) 1024 tt (fun again i t h0 h1 _ ih => ?_) 20000 0 _ (by omega) (by omega) trivial (by omega)
  unfold b_X5_fewestDamp_24
  dsimp only
  rw [z_1024, z_s1]
  refine ok_if (fun _ => ok_r trivial) (fun c => ?_)
  have hi := t_nle h0 (by omega) (by omega) (by omega) c
  have hin : oK tt (q_cl (f_X6_isIn (zI b) (zI i)) fun r_10 => if r_10 = 0 then (q_cl (f_X5_leadsTo σ1 (zI b) (zI i)) fun r_13 => if r_13 = 0 then (again (zI (i + 1), zI i)) else again (zI (i + 1), t)) else again (zI (i + 1), t)) :=
    ok_cl (w_isInk _ _) (fun r _ => ok_if (fun _ => ok_cl (w_leadsTo σ1 _ _) (fun _ _ => ok_if (fun _ => ih hi _ trivial) (fun _ => ih hi _ trivial))) (fun _ => ih hi _ trivial))
  exact ok_if (fun _ => hin) (fun _ => ok_cl (w_bits _) (fun _ _ => ok_cl (w_bits _) (fun _ _ => ok_if (fun _ => ih hi _ trivial) (fun _ => hin))))
end
section
/-! fading, of the class -/
theorem w_isTale (x : Int32) : oK (fun r => r = 0 ∨ (r = 1 ∧ ∃ a, 0 ≤ a ∧ a ≤ 9 ∧ x = zI a)) (f_X6_isTale x) := by
  obtain ⟨a, a0, a1, rfl⟩ := z_of x
  rw [x_isTale a0 a1]
  refine ok_r ?_
  by_cases c : 0 ≤ a ∧ a ≤ 9
  · rw [if_pos c]; exact Or.inr ⟨rfl, a, c.1, c.2, rfl⟩
  · rw [if_neg c]; exact Or.inl rfl
theorem w_fadesInto (d : Nat → Int → Int) (x : Int32) : oK tt (f_X1_fadesInto (eC d) x) := by
  unfold f_X1_fadesInto
  refine ok_cl (w_isTale x) (fun r hr => ok_if (fun _ => ok_r trivial) (fun c => ?_))
  rcases hr with e | ⟨_, a, h0, h1, rfl⟩
  · exact absurd e c
  · exact ok_rd h0 (by omega) (by omega) (fun _ => ok_r trivial)
theorem w_behindStirs (d : Nat → Int → Int) (x : Int32) {n : Int} (n0 : 0 ≤ n) (n1 : n ≤ 1000) : oK tt (f_X1_behindStirs (eC d) x (zI n)) := by
  unfold f_X1_behindStirs
  rw [z_0]
  refine ok_for (τ := Int32) n tt (fun again i t h0 h1 _ ih => ?_) 20000 0 _ (by omega) (by omega) trivial (by omega)
  unfold b_X1_behindStirs_5
  dsimp only
  rw [z_s1]
  refine ok_if (fun _ => ok_r trivial) (fun c => ?_)
  have hi := t_nle h0 (by omega) (by omega) (by omega) c
  exact ok_cl (w_fadesInto d _) (fun _ _ => ih hi _ trivial)
theorem w_stirsToRing (d : Nat → Int → Int) (x : Int32) : oK (fun r => ∃ n, 0 ≤ n ∧ n ≤ 11 ∧ r = zI n) (f_X1_stirsToRing (eC d) x) := by
  unfold f_X1_stirsToRing
  rw [z_0]
  refine ok_for (τ := Int32 × Int32) 11 tt (fun again i t h0 h1 _ ih => ?_) 20000 0 _ (by omega) (by omega) trivial (by omega)
  unfold b_X1_stirsToRing_7
  dsimp only
  rw [z_s1, z_10]
  refine ok_if (fun _ => ok_r ⟨10, by omega, by omega, z_10⟩) (fun c => ?_)
  have hi : i < 11 := by
    rw [z_lt (by omega) (by omega) (by omega) (by omega)] at c; omega
  refine ok_cl (w_isTale _) (fun r _ => ok_if (fun _ => ok_r ⟨i, h0, h1, rfl⟩) (fun _ => ok_cl (w_isInk _ _) (fun _ _ => ok_if (fun _ => ok_bd (ok_cl (w_fadesInto d _) (fun _ _ => ih hi _ trivial))) (fun _ => ok_r ⟨i, h0, h1, rfl⟩))))
theorem w_stirsOfRing (d : Nat → Int → Int) (x : Int32) : oK tt (f_X1_stirsOfRing (eC d) x) := by
  unfold f_X1_stirsOfRing
  refine ok_cl (w_stirsToRing d x) (fun r hr => ?_)
  obtain ⟨n, n0, n1, rfl⟩ := hr
  refine ok_cl (w_behindStirs d x n0 (by omega)) (fun r3 _ => ?_)
  rw [z_0]
  refine ok_for1 n (fun again i h0 h1 ih => ?_) 20000 0 (by omega) (by omega) (by omega)
  unfold b_X1_stirsOfRing_16
  rw [z_s1]
  refine ok_if (fun _ => ok_r trivial) (fun c => ?_)
  have hi := t_nle h0 (by omega) (by omega) (by omega) c
  exact ok_cl (w_behindStirs d x h0 (by omega)) (fun _ _ => ok_if (fun _ => ok_r trivial) (fun _ => ih hi))
/-! what was said, of the class -/
theorem w_within (x a b : Int32) : oK (fun r => r = 0 ∨ (r = 1 ∧ a.toInt ≤ x.toInt ∧ x.toInt ≤ b.toInt)) (f_X6_within x a b) := by
  unfold f_X6_within
  refine ok_if (fun _ => ok_r (Or.inl rfl)) (fun c1 => ok_if (fun _ => ok_r (Or.inl rfl)) (fun c2 => ok_r (Or.inr ⟨rfl, ?_, ?_⟩)))
  · rw [Int32.lt_iff_toInt_lt] at c1; omega
  · rw [Int32.lt_iff_toInt_lt] at c2; omega
theorem w_withinz (x : Int32) {a b : Int} (h1 : 0 ≤ a) (h2 : b < 2147483648) (h3 : a ≤ b) : oK (fun r => r = 0 ∨ (r = 1 ∧ ∃ i, a ≤ i ∧ i ≤ b ∧ x = zI i)) (f_X6_within x (zI a) (zI b)) := by
  obtain ⟨y, y0, y1, rfl⟩ := z_of x
  by_cases hb : -2147483648 ≤ b
  · by_cases ha : a < 2147483648
    · rw [x_within y0 y1 (by omega) ha hb h2]
      refine ok_r ?_
      by_cases c : a ≤ y ∧ y ≤ b
      · rw [if_pos c]; exact Or.inr ⟨rfl, y, c.1, c.2, rfl⟩
      · rw [if_neg c]; exact Or.inl rfl
    · omega
  · omega
theorem w_taleInBed (σ : qS) (a b c : Int32) : oK tt (f_X4_taleInBed σ a b c) := by
  unfold f_X4_taleInBed
  refine ok_cl (w_isTale a) (fun r hr => ok_if (fun _ => ok_r trivial) (fun c1 => ok_if (fun _ => ok_r trivial) (fun c2 => ?_)))
  rcases hr with e | ⟨_, a, a0, a1, rfl⟩
  · exact absurd e c1
  · rw [z_0, z_40]
    refine ok_cl (w_withinz c (by omega) (by omega) (by omega)) (fun r hr => ok_if (fun _ => ok_r trivial) (fun c3 => ?_))
    rcases hr with e | ⟨_, c, c0, c1, rfl⟩
    · exact absurd e c3
    · obtain ⟨b, b0, b1, rfl⟩ := z_of b
      have hb : 0 < b := by
        rw [z_0, z_le (by omega) (by omega) (by omega) (by omega)] at c2; omega
      have q0 : 0 ≤ c / b := Int.ediv_nonneg c0 (by omega)
      have q1 : c / b ≤ c := Int.ediv_le_self _ c0
      rw [s_nz (by omega) (by omega) (by omega), z_41, z_mul, z_div c0 (by omega) hb b1, z_add]
      exact ok_rd (by omega) (by omega) (by omega) (fun _ => ok_r trivial)
theorem w_isSo (σ : qS) {d} (hd : okd d) (a b : Int32) : oK tt (f_X4_isSo σ (eC d) a b) := by
  have hs := okd_s hd
  unfold f_X4_isSo
  rw [z_0]
  refine ok_for1 (d 99 7) (fun again i h0 h1 ih => ?_) 20000 0 (by omega) (by omega) (by omega)
  unfold b_X4_isSo_3 f_X1_sightCount
  rw [s_cl, eC_7, z_s1]
  refine ok_if (fun _ => ok_r trivial) (fun c => ?_)
  have hi := t_nle h0 (by omega) (by omega) (by omega) c
  have e5 : f_X1_sightBed (eC d) (zI i) = some (zI (d 5 i)) := by
    unfold f_X1_sightBed
    simp (disch := omega) only [x_within, s_T, s_F, s_bd, s_cl, s_rd, s_wr, s_ite, z_ite, z_neg, z_add, z_sub, z_mul, z_le, z_lt, z_eq, eC_at, eC_7, eC_8, eC_9, eC_10, eC_11, eC_p7, eC_p8, eC_p9, eC_p10, eC_p11, eC_up, ud_same, ud_ne, if_pos, if_neg, z_0, z_1, z_2, z_3, z_4, z_5, z_6, z_7, z_8, z_9, z_10, z_11, z_12, z_13, z_14, z_15, z_16, z_17, z_18, z_19, z_20, z_21, z_22, z_23, z_24, z_25, z_26, z_27, z_28, z_29, z_30, z_31, z_32, z_33, z_34, z_35, z_36, z_37, z_38, z_39, z_40, z_41, z_42, z_43, z_44, z_45, z_46, z_47, z_48, z_49, z_50, z_51, z_52, z_53, z_54, z_55, z_56, z_57, z_58, z_59, z_60, z_61, z_62, z_63, z_64, z_65, z_66, z_67, z_68, z_69, z_70, z_71, z_72, z_73, z_74, z_75, z_76, z_77, z_78, z_79, z_80, z_81, z_82, z_83, z_84, z_85, z_86, z_87, z_88, z_89, z_90, z_91, z_92, z_93, z_94, z_95, z_96, z_97, z_98, z_99, z_100, z_101, z_102, z_103, z_104, z_105, z_106, z_107, z_108, z_109, z_110, z_111, z_112, z_113, z_114, z_115, z_116, z_117, z_118, z_119, z_120, z_121, z_122, z_123, z_124, z_125, z_126, z_127, z_199, z_200, z_360, z_410, z_1000, z_1023, z_1024, z_1219, z_9999, z_10240, z_65537]
  have e6 : f_X1_sightTale (eC d) (zI i) = some (zI (d 6 i)) := by
    unfold f_X1_sightTale
    simp (disch := omega) only [x_within, s_T, s_F, s_bd, s_cl, s_rd, s_wr, s_ite, z_ite, z_neg, z_add, z_sub, z_mul, z_le, z_lt, z_eq, eC_at, eC_7, eC_8, eC_9, eC_10, eC_11, eC_p7, eC_p8, eC_p9, eC_p10, eC_p11, eC_up, ud_same, ud_ne, if_pos, if_neg, z_0, z_1, z_2, z_3, z_4, z_5, z_6, z_7, z_8, z_9, z_10, z_11, z_12, z_13, z_14, z_15, z_16, z_17, z_18, z_19, z_20, z_21, z_22, z_23, z_24, z_25, z_26, z_27, z_28, z_29, z_30, z_31, z_32, z_33, z_34, z_35, z_36, z_37, z_38, z_39, z_40, z_41, z_42, z_43, z_44, z_45, z_46, z_47, z_48, z_49, z_50, z_51, z_52, z_53, z_54, z_55, z_56, z_57, z_58, z_59, z_60, z_61, z_62, z_63, z_64, z_65, z_66, z_67, z_68, z_69, z_70, z_71, z_72, z_73, z_74, z_75, z_76, z_77, z_78, z_79, z_80, z_81, z_82, z_83, z_84, z_85, z_86, z_87, z_88, z_89, z_90, z_91, z_92, z_93, z_94, z_95, z_96, z_97, z_98, z_99, z_100, z_101, z_102, z_103, z_104, z_105, z_106, z_107, z_108, z_109, z_110, z_111, z_112, z_113, z_114, z_115, z_116, z_117, z_118, z_119, z_120, z_121, z_122, z_123, z_124, z_125, z_126, z_127, z_199, z_200, z_360, z_410, z_1000, z_1023, z_1024, z_1219, z_9999, z_10240, z_65537]
  rw [e5, e6, s_cl]
  exact ok_cl (w_taleInBed σ _ _ _) (fun _ _ => ok_if (fun _ => ih hi) (fun _ => ok_r trivial))
theorem w_fadeAll (σ : qS) (d : Nat → Int → Int) : oK tt (f_X4_fadeAll σ (eC d)) := by
  unfold f_X4_fadeAll
  rw [z_0]
  refine ok_for (τ := qS) 10 tt (fun again i t h0 h1 _ ih => ?_) 20000 0 _ (by omega) (by omega) trivial (by omega)
  unfold b_X4_fadeAll_2
  dsimp only
  rw [z_10, z_s1, z_0]
  refine ok_if (fun _ => ok_r trivial) (fun c => ?_)
  have hi := t_nle h0 (by omega) (by omega) (by omega) c
  refine ok_for (τ := Int32 × qS) 41 tt (fun again2 j t2 h2 h3 _ ih2 => ?_) 20000 0 _ (by omega) (by omega) trivial (by omega)
  unfold b_X4_fadeAll_13
  dsimp only
  rw [z_41, z_s1, z_mul, z_add]
  refine ok_if (fun _ => ih hi _ trivial) (fun c => ?_)
  have hj := t_nle h2 (by omega) (by omega) (by omega) c
  exact ok_wr (by omega) (by omega) (by omega) (fun _ => ok_cl (w_fadesInto d _) (fun _ _ => ih2 hj _ trivial))
/-- how many twos fit -/
def cnt50 (σ : qS) : Prop := ∃ c : Int, 0 ≤ c ∧ c ≤ 50 ∧ σ 99 3 = zI c
theorem w_gather (σ : qS) {d} (hd : okd d) : oK cnt50 (f_X4_gather σ (eC d)) := by
  unfold f_X4_gather
  refine ok_cl (w_fadeAll σ d) (fun σ1 _ => ok_bd ?_)
  rw [z_0]
  refine ok_for (τ := qS) 10 cnt50 (fun again i t h0 h1 ht ih => ?_) 20000 0 _ (by omega) (by omega) ⟨0, by omega, by omega, rfl⟩ (by omega)
  unfold b_X4_gather_12
  dsimp only
  rw [z_10, z_s1, z_1]
  refine ok_if (fun _ => ok_r ht) (fun c => ?_)
  have hi := t_nle h0 (by omega) (by omega) (by omega) c
  refine ok_for (τ := qS) 6 cnt50 (fun again2 j t2 h2 h3 ht2 ih2 => ?_) 20000 1 _ (by omega) (by omega) ht (by omega)
  unfold b_X4_gather_20
  dsimp only
  rw [z_s1, z_5]
  refine ok_if (fun _ => ih hi _ ht2) (fun c => ?_)
  have hj : j < 6 := by
    rw [z_lt (by omega) (by omega) (by omega) (by omega)] at c; omega
  refine ok_cl (w_isSo _ hd _ _) (fun r _ => ok_if (fun _ => ih2 hj _ ht2) (fun _ => ?_))
  obtain ⟨c, c0, c1, hc⟩ := ht2
  rw [hc, z_0, z_49]
  refine ok_cl (w_withinz _ (by omega) (by omega) (by omega)) (fun r hr => ok_if (fun _ => ih2 hj _ ⟨c, c0, c1, hc⟩) (fun c3 => ?_))
  rcases hr with e | ⟨_, y, y0, y1, e⟩
  · exact absurd e c3
  · rw [z_eq (by omega) (by omega) (by omega) (by omega)] at e
    subst e
    rw [s_wr (by omega) (by omega) (by omega)]
    refine ok_bd (ih2 hj _ ⟨c + 1, by omega, by omega, ?_⟩)
    show t2 99 3 + 1 = _
    rw [hc, z_s1]
theorem w_pick (σ : qS) (x : Int32) : oK tt (f_X4_pick σ x) := by
  unfold f_X4_pick
  rw [z_0, z_49]
  refine ok_cl (w_withinz _ (by omega) (by omega) (by omega)) (fun r hr => ok_if (fun _ => ok_r trivial) (fun c3 => ok_if (fun _ => ok_r trivial) (fun _ => ?_)))
  rcases hr with e | ⟨_, y, y0, y1, rfl⟩
  · exact absurd e c3
  · exact ok_rd y0 (by omega) (by omega) (fun _ => ok_r trivial)
theorem w_mostLeft (σ : qS) (hσ : cnt50 σ) (x : Int32) : oK (fun r => cnt50 r.2) (f_X4_mostLeft σ x) := by
  obtain ⟨c, c0, c1, hc⟩ := hσ
  unfold f_X4_mostLeft
  rw [x_fill (by decide), s_cl]
  refine ok_bd ?_
  rw [z_0]
  refine ok_for (τ := Int32 × qS) c (fun t => t.2 99 3 = zI c) (fun again i t h0 h1 ht ih => ?_) 20000 0 _ (by omega) (by omega) hc (by omega)
  unfold b_X4_mostLeft_12
  dsimp only
  rw [z_s1, ht]
  refine ok_if (fun _ => ok_r ⟨c, c0, c1, ht⟩) (fun cc => ?_)
  have hi := t_nle h0 (by omega) (by omega) (by omega) cc
  refine ok_cl (w_pick _ _) (fun r7 _ => ok_cl (w_taleInBed _ _ _ _) (fun r9 _ => ok_cl (w_isTale r9) (fun r11 hr => ok_if (fun _ => ih hi (t.1, t.2) ht) (fun c3 => ?_))))
  rcases hr with e | ⟨_, a, a0, a1, rfl⟩
  · exact absurd e c3
  · rw [s_rd a0 (by omega) (by omega), s_wr a0 (by omega) (by omega), s_rd a0 (by omega) (by omega)]
    exact ok_bd (ih hi _ ht)
theorem w_bedToAsk (σ : qS) (hσ : cnt50 σ) : oK (fun r => cnt50 r.2) (f_X4_bedToAsk σ) := by
  unfold f_X4_bedToAsk
  refine ok_if (fun _ => ok_r hσ) (fun _ => ok_cl (w_mostLeft σ hσ _) (fun y hy => ?_))
  rw [z_1]
  refine ok_for (τ := qS × Int32 × Int32) 41 (fun t => cnt50 t.1) (fun again i t h0 h1 ht ih => ?_) 20000 1 _ (by omega) (by omega) hy (by omega)
  unfold b_X4_bedToAsk_20
  dsimp only
  rw [z_41, z_s1]
  refine ok_if (fun _ => ok_r ht) (fun c => ?_)
  have hi := t_nle h0 (by omega) (by omega) (by omega) c
  exact ok_cl (w_mostLeft _ ht _) (fun y hy => ok_if (fun _ => ih hi _ hy) (fun _ => ih hi _ hy))
/-! chances of the class -/
theorem ok_rdL {β : Type} {Q : β → Prop} {σ : qL} {k n : Nat} {i : Int} {K : Int64 → Option β} (h0 : 0 ≤ i) (h : i < n) (hn : n < 2147483648) (hk : ∀ v, oK Q (K v)) : oK Q (q_rdL σ k n (zI i) K) := by
  rw [s_rdL h0 h hn]; exact hk _
theorem ok_wrL {β : Type} {Q : β → Prop} {σ : qL} {k n : Nat} {i : Int} {x : Int64} {K : qL → Option β} (h0 : 0 ≤ i) (h : i < n) (hn : n < 2147483648) (hk : ∀ v, oK Q (K v)) : oK Q (q_wrL σ k n (zI i) x K) := by
  rw [s_wrL h0 h hn]; exact hk _
/-- a loop that counts down -/
theorem ok_down {β τ : Type} {Q : β → Prop} {body : (Int32 × τ → Option β) → (Int32 × τ → Option β) → Int32 × τ → Option β} {k : Int32 × τ → Option β} (lo hi : Int) (P : τ → Prop)
    (h : ∀ (again : Int32 × τ → Option β) (i : Int) (t : τ), lo ≤ i → i ≤ hi → P t → (lo < i → ∀ t', P t' → oK Q (again (zI (i + (-1)), t'))) → oK Q (body k again (zI i, t))) :
    ∀ (N : Nat) (i : Int) (t : τ), lo ≤ i → i ≤ hi → P t → (i - lo).toNat < N → oK Q (q_lp body k N (zI i, t)) := by
  intro N
  induction N with
  | zero => intro i t _ _ _ hN; omega
  | succ N ih =>
    intro i t h0 h1 hp hN
    rw [lp_s]
    exact h _ i t h0 h1 hp (fun hl t' ht' => ih (i + (-1)) t' (by omega) (by omega) ht' (by omega))
theorem z_m1 (i : Int) : zI i + (-1) = zI (i + (-1)) := by rw [z_1, z_neg, z_add]
theorem w_fillL {n : Nat} (hn : n < 16384) (σ : qL) (v : Int64) : oK tt (f_J7_fill_d0a16 n σ v) := by
  unfold f_J7_fill_d0a16
  refine ok_bd ?_
  rw [z_n, z_0]
  refine ok_for (τ := qL) n tt (fun again i t h0 h1 _ ih => ?_) 20000 0 _ (by omega) (by omega) trivial (by omega)
  unfold b_J7_fill_d0a16_6
  dsimp only
  rw [z_s1]
  refine ok_if (fun _ => ok_r trivial) (fun c => ?_)
  have hi := t_nle h0 (by omega) (by omega) (by omega) c
  exact ok_wrL h0 hi (by omega) (fun _ => ih hi _ trivial)
theorem w_weigh (σ : qS) (τ : qL) {n : Int} (n0 : 0 ≤ n) (n1 : n ≤ 10) (a b : Int32) : oK tt (f_X0_weigh σ τ (zI n) a b) := by
  unfold f_X0_weigh
  refine ok_cl (w_fillL (by decide) _ _) (fun _ _ => ok_bd (ok_cl (w_fillL (by decide) _ _) (fun _ _ => ok_bd ?_)))
  rw [z_0]
  refine ok_wrL (by omega) (by omega) (by omega) (fun _ => ?_)
  refine ok_for (τ := qL) n tt (fun again i t h0 h1 _ ih => ?_) 20000 0 _ (by omega) (by omega) trivial (by omega)
  unfold b_X0_weigh_26
  dsimp only
  rw [z_s1, z_10]
  refine ok_if (fun _ => ok_r trivial) (fun c => ?_)
  have hi := t_nle h0 (by omega) (by omega) (by omega) c
  refine ok_down (τ := qL) (-1) 10 tt (fun again2 j t2 h2 h3 _ ih2 => ?_) 20000 10 _ (by omega) (by omega) trivial (by omega)
  unfold b_X0_weigh_36
  dsimp only
  rw [z_m1]
  refine ok_if (fun _ => ih hi _ trivial) (fun c => ?_)
  have hj : 0 ≤ j := by
    rw [z_0, z_lt (by omega) (by omega) (by omega) (by omega)] at c; omega
  refine ok_rdL hj (by omega) (by omega) (fun _ => ok_rdL hj (by omega) (by omega) (fun _ => ok_wrL hj (by omega) (by omega) (fun _ => ok_if (fun _ => ok_wrL hj (by omega) (by omega) (fun _ => ih2 (by omega) _ trivial)) (fun c2 => ?_))))
  have hj1 : 0 < j := by
    rw [z_0, z_le (by omega) (by omega) (by omega) (by omega)] at c2; omega
  rw [z_1, z_sub]
  exact ok_rdL (by omega) (by omega) (by omega) (fun _ => ok_rdL (by omega) (by omega) (by omega) (fun _ => ok_wrL hj (by omega) (by omega) (fun _ => ih2 (by omega) _ trivial)))
theorem w_rowLower (σ : qS) (τ : qL) {n : Int} (n0 : 0 ≤ n) (n1 : n ≤ 10) : oK tt (f_X0_rowLower σ τ (zI n)) := by
  unfold f_X0_rowLower
  rw [z_0]
  refine ok_for (τ := Int64) n tt (fun again i t h0 h1 _ ih => ?_) 20000 0 _ (by omega) (by omega) trivial (by omega)
  unfold b_X0_rowLower_5
  dsimp only
  rw [z_s1]
  refine ok_if (fun _ => ok_r trivial) (fun c => ?_)
  have hi := t_nle h0 (by omega) (by omega) (by omega) c
  exact ok_bd (ih hi _ trivial)
theorem w_rowUpper (σ : qS) (τ : qL) {n : Int} (n0 : 0 ≤ n) (n1 : n ≤ 10) (a b c e : Int32) : oK tt (f_X0_rowUpper σ τ (zI n) a b c e) := by
  unfold f_X0_rowUpper
  refine ok_cl (w_weigh σ τ n0 n1 a b) (fun τ1 _ => ?_)
  rw [z_0]
  refine ok_for (τ := Int64) 11 tt (fun again i t h0 h1 _ ih => ?_) 20000 0 _ (by omega) (by omega) trivial (by omega)
  unfold b_X0_rowUpper_13
  dsimp only
  rw [z_s1, z_10]
  refine ok_if (fun _ => ok_r trivial) (fun c => ?_)
  have hi : i < 11 := by
    rw [z_lt (by omega) (by omega) (by omega) (by omega)] at c; omega
  refine ok_rdL h0 (by omega) (by omega) (fun _ => ok_rdL h0 (by omega) (by omega) (fun _ => ok_bd ?_))
  exact ok_if (fun _ => ok_bd (ih hi _ trivial)) (fun _ => ok_if (fun _ => ok_bd (ih hi _ trivial)) (fun _ => ok_if (fun _ => ok_if (fun _ => ih hi _ trivial) (fun _ => ok_bd (ih hi _ trivial))) (fun _ => ih hi _ trivial)))
theorem w_leastTake (σ : qS) (τ : qL) {n : Int} (n0 : 1 ≤ n) (n1 : n ≤ 60) : oK tt (f_X0_leastTake σ τ (zI n)) := by
  unfold f_X0_leastTake
  rw [z_1]
  refine ok_for1 n (fun again i h0 h1 ih => ?_) 20000 1 (by omega) (by omega) (by omega)
  unfold b_X0_leastTake_2
  rw [z_s1, z_sub, z_1, z_60]
  refine ok_if (fun _ => ok_r trivial) (fun c => ok_bd ?_)
  have hi := t_nle h0 (by omega) (by omega) (by omega) c
  refine ok_cl (w_withinz _ (by omega) (by omega) (by omega)) (fun r hr => ok_if (fun _ => ih hi) (fun c3 => ?_))
  rcases hr with e | ⟨_, y, y0, y1, e⟩
  · exact absurd e c3
  · rw [e]
    exact ok_rd (by omega) (by omega) (by omega) (fun _ => ok_if (fun _ => ih hi) (fun _ => ok_r trivial))
/-- a loop that counts up from lo on -/
theorem ok_forl {β τ : Type} {Q : β → Prop} {body : (Int32 × τ → Option β) → (Int32 × τ → Option β) → Int32 × τ → Option β} {k : Int32 × τ → Option β} (lo hi : Int) (P : τ → Prop)
    (h : ∀ (again : Int32 × τ → Option β) (i : Int) (t : τ), lo ≤ i → i ≤ hi → P t → (i < hi → ∀ t', P t' → oK Q (again (zI (i + 1), t'))) → oK Q (body k again (zI i, t))) :
    ∀ (N : Nat) (i : Int) (t : τ), lo ≤ i → i ≤ hi → P t → (hi - i).toNat < N → oK Q (q_lp body k N (zI i, t)) := by
  intro N
  induction N with
  | zero => intro i t _ _ _ hN; omega
  | succ N ih =>
    intro i t h0 h1 hp hN
    rw [lp_s]
    exact h _ i t h0 h1 hp (fun hl t' ht' => ih (i + 1) t' (by omega) (by omega) ht' (by omega))
theorem w_firstTake (σ : qS) (τ : qL) (x : Int32) : oK tt (f_X0_firstTake σ τ x) := by
  unfold f_X0_firstTake
  rw [z_1, z_60]
  refine ok_cl (w_withinz _ (by omega) (by omega) (by omega)) (fun r hr => ok_if (fun _ => ok_r trivial) (fun c3 => ?_))
  rcases hr with e | ⟨_, n, n0, n1, rfl⟩
  · exact absurd e c3
  · refine ok_forl (τ := qS) 1 (n + 1) tt (fun again i t h0 h1 _ ih => ?_) 20000 1 _ (by omega) (by omega) trivial (by omega)
    unfold b_X0_firstTake_15
    dsimp only
    rw [z_s1]
    refine ok_if (fun _ => ok_rd (by omega) (by omega) (by omega) (fun _ => ok_if (fun _ => ok_r trivial) (fun _ => ok_rd (by omega) (by omega) (by omega) (fun _ => ok_r trivial)))) (fun c => ?_)
    have hi : i < n + 1 := by
      rw [z_lt (by omega) (by omega) (by omega) (by omega)] at c; omega
    exact ok_cl (w_leastTake _ _ h0 (by omega)) (fun _ _ => ok_wr (by omega) (by omega) (by omega) (fun _ => ih hi _ trivial))
theorem w_commonPart (a b : Int64) : oK tt (f_X6_commonPart a b) := by
  unfold f_X6_commonPart
  rw [z_0]
  refine ok_for (τ := Int64 × Int64) 1000 tt (fun again i t h0 h1 _ ih => ?_) 20000 0 _ (by omega) (by omega) trivial (by omega)
  unfold b_X6_commonPart_9
  dsimp only
  rw [z_s1, z_1000]
  refine ok_if (fun _ => ok_r trivial) (fun c => ok_if (fun _ => ok_r trivial) (fun c2 => ?_))
  have hi := t_nle h0 (by omega) (by omega) (by omega) c
  have hz : ¬ t.1 = 0 := fun z => c2 (by rw [z]; decide)
  unfold q_nzL
  rw [if_neg hz]
  exact ok_bd (ih hi _ trivial)
end
section
/-! the reference's ways, rounds, keeping: they end, and change scratch rows alone -/
/-- scratch rows -/
def scr (m m' : Nat → Int → Int) : Prop := ∀ k i, (k = 24 ∨ k = 25 ∨ k = 26 ∨ k = 29) ∨ m' k i = m k i
theorem scr_rf (m : Nat → Int → Int) : scr m m := fun _ _ => Or.inr rfl
theorem scr_tr {m m' m'' : Nat → Int → Int} (h : scr m m') (h' : scr m' m'') : scr m m'' := fun k i => by
  rcases h' k i with z | z
  · exact Or.inl z
  · rcases h k i with y | y
    · exact Or.inl y
    · exact Or.inr (z.trans y)
theorem scr_ud {m : Nat → Int → Int} {k : Nat} {i v : Int} (h : k = 24 ∨ k = 25 ∨ k = 26 ∨ k = 29) : scr m (ud m k i v) := fun a b => by
  by_cases e : a = k
  · exact Or.inl (e ▸ h)
  · exact Or.inr (ud_ne _ _ (Or.inl e))
/-- the reference's state, but for scratch -/
def msc (m d : Nat → Int → Int) (σ : qS) : Prop := ∃ m', σ = eC (pw m' d) ∧ scr m m'
theorem msc_rf (m d : Nat → Int → Int) : msc m d (eC (pw m d)) := ⟨m, rfl, scr_rf m⟩
theorem cs_scr {k : Nat} {i : Int} (h : k = 24 ∨ k = 25 ∨ k = 26 ∨ k = 29) : cs k i = none := by
  unfold cs
  rw [if_neg (by omega), if_neg (by omega), if_neg (by omega), if_neg (by omega)]
section MSC
variable {β : Type} {Q : β → Prop} {m d : Nat → Int → Int} {σ : qS}
theorem ok_wrM {k n : Nat} {i : Int} {x : Int32} {K : qS → Option β} (hσ : msc m d σ) (hk : k = 24 ∨ k = 25 ∨ k = 26 ∨ k = 29) (h0 : 0 ≤ i) (h : i < n) (hn : n < 2147483648) (hK : ∀ v, msc m d v → oK Q (K v)) : oK Q (q_wr σ k n (zI i) x K) := by
  obtain ⟨m', rfl, hs⟩ := hσ
  obtain ⟨x, -, -, rfl⟩ := z_of x
  rw [s_wr h0 h hn, eC_up _ _ h0, ud_pwn (cs_scr hk)]
  exact hK _ ⟨_, rfl, scr_tr hs (scr_ud hk)⟩
theorem ok_wrMZ {k n : Nat} {i : Int} {x : Int32} {K : qS → Option β} (hσ : msc m d σ) (hk : k = 24 ∨ k = 25 ∨ k = 26 ∨ k = 29) (h0 : 0 ≤ i) (h : i < n) (hn : n < 2147483648) (hK : ∀ v, msc m d v → oK Q (K v)) : oK Q (q_wrZ σ k n (zI i) x K) := by
  obtain ⟨m', rfl, hs⟩ := hσ
  rw [s_wrZ h0 h hn]
  obtain ⟨x, -, -, e⟩ := z_of (vp_nar .boolean x)
  rw [e, eC_up _ _ h0, ud_pwn (cs_scr hk)]
  exact hK _ ⟨_, rfl, scr_tr hs (scr_ud hk)⟩
end MSC
theorem v_findOff (m d : Nat → Int → Int) (τ : qL) {σ : qS} (hσ : msc m d σ) : oK (msc m d) (f_X7_findOff σ τ) := by
  unfold f_X7_findOff
  rw [z_0]
  refine ok_for (τ := qS) 121 (msc m d) (fun again i t h0 h1 ht ih => ?_) 20000 0 σ (by omega) (by omega) hσ (by omega)
  unfold b_X7_findOff_2
  dsimp only
  rw [z_121, z_s1, z_0]
  refine ok_if (fun _ => ?_) (fun c => ?_)
  · refine ok_for (τ := qS) 11 (msc m d) (fun again i t h0 h1 ht ih => ?_) 20000 0 t (by omega) (by omega) ht (by omega)
    unfold b_X7_findOff_58
    dsimp only
    rw [z_11, z_s1, z_0]
    refine ok_if (fun _ => ok_r ht) (fun c => ?_)
    have hi := t_nle h0 (by omega) (by omega) (by omega) c
    refine ok_for (τ := qS) 121 (msc m d) (fun again2 j t2 h2 h3 ht2 ih2 => ?_) 20000 0 t (by omega) (by omega) ht (by omega)
    unfold b_X7_findOff_66
    dsimp only
    rw [z_121, z_s1, z_11]
    refine ok_if (fun _ => ih hi _ ht2) (fun c => ?_)
    have hj := t_nle h2 (by omega) (by omega) (by omega) c
    rw [z_rem h2 (by omega) (by omega) (by omega), z_div h2 (by omega) (by omega) (by omega), z_mul, z_mul, z_add, z_add]
    refine ok_rd (by omega) (by omega) (by omega) (fun _ => ok_rd (by omega) (by omega) (by omega) (fun _ => ok_bd (ok_rd h2 hj (by omega) (fun _ => ok_if (fun _ => ok_rd h2 hj (by omega) (fun _ => ok_wrM ht2 (by decide) h2 hj (by omega) (fun _ hv => ih2 hj _ hv))) (fun _ => ok_wrM ht2 (by decide) h2 hj (by omega) (fun _ hv => ih2 hj _ hv))))))
  · have hi := t_nle h0 (by omega) (by omega) (by omega) c
    refine ok_if (fun _ => ok_wrM ht (by decide) h0 hi (by omega) (fun _ hv => ih hi _ hv)) (fun _ => ok_rd h0 hi (by omega) (fun _ => ok_if (fun _ => ok_wrM ht (by decide) h0 hi (by omega) (fun _ hv => ih hi _ hv)) (fun _ => ok_rd h0 hi (by omega) (fun _ => ok_wrM ht (by decide) h0 hi (by omega) (fun _ hv => ih hi _ hv)))))
theorem v_cooled (a b : Int32) : oK tt (f_X7_cooled a b) := by
  unfold f_X7_cooled
  exact ok_if (fun _ => ok_r trivial) (fun _ => ok_r trivial)
theorem v_behindBed (σ : qS) (τ : qL) (a : Int32) {b : Int} (b0 : 0 ≤ b) (b1 : b ≤ 9) : oK tt (f_X7_behindBed σ τ a (zI b)) := by
  unfold f_X7_behindBed
  exact ok_rd b0 (by omega) (by omega) (fun _ => ok_if (fun _ => ok_rd b0 (by omega) (by omega) (fun _ => ok_if (fun _ => ok_r trivial) (fun _ => ok_cl (v_cooled _ _) (fun _ _ => ok_r trivial)))) (fun _ => ok_r trivial))
/-! sets of houses -/
theorem and_le (x y : Int32) (h : 0 ≤ x.toInt) : 0 ≤ (x &&& y).toInt ∧ (x &&& y).toInt ≤ x.toInt := by
  have e : (x &&& y).toBitVec = x.toBitVec &&& y.toBitVec := rfl
  have hx : x.toBitVec.toNat < 2 ^ 31 := by
    have h1 : x.toInt = x.toBitVec.toInt := rfl
    rw [h1, BitVec.toInt_eq_toNat_cond] at h
    split at h
    · omega
    · have := x.toBitVec.isLt; omega
  have hn : (x &&& y).toBitVec.toNat ≤ x.toBitVec.toNat := by
    rw [e, BitVec.toNat_and]
    exact Nat.and_le_left
  have i1 : x.toInt = x.toBitVec.toNat := by
    show x.toBitVec.toInt = _
    rw [BitVec.toInt_eq_toNat_cond, if_pos (by omega)]
  have i2 : (x &&& y).toInt = (x &&& y).toBitVec.toNat := by
    show (x &&& y).toBitVec.toInt = _
    rw [BitVec.toInt_eq_toNat_cond, if_pos (by omega)]
  rw [i1, i2]
  omega
theorem z_and {s : Int} (h0 : 0 ≤ s) (h1 : s < 2147483648) (y : Int32) : ∃ r, 0 ≤ r ∧ r ≤ s ∧ zI s &&& y = zI r := by
  have h := and_le (zI s) y (by rw [z_toInt (by omega) h1]; exact h0)
  rw [z_toInt (by omega) h1] at h
  exact ⟨_, h.1, h.2, (Int32.ofInt_toInt _).symm⟩
theorem or_lt (x y : Int32) (hx : 0 ≤ x.toInt ∧ x.toInt < 1024) (hy : 0 ≤ y.toInt ∧ y.toInt < 1024) : 0 ≤ (x ||| y).toInt ∧ (x ||| y).toInt < 1024 := by
  have key : ∀ z : Int32, 0 ≤ z.toInt ∧ z.toInt < 1024 → z.toBitVec.toNat < 1024 := by
    intro z h
    have h1 : z.toInt = z.toBitVec.toInt := rfl
    rw [h1, BitVec.toInt_eq_toNat_cond] at h
    split at h
    · omega
    · have := z.toBitVec.isLt; omega
  have e : (x ||| y).toBitVec = x.toBitVec ||| y.toBitVec := rfl
  have hn : (x ||| y).toBitVec.toNat < 1024 := by
    rw [e, BitVec.toNat_or]
    exact Nat.or_lt_two_pow (n := 10) (key x hx) (key y hy)
  have i2 : (x ||| y).toInt = (x ||| y).toBitVec.toNat := by
    show (x ||| y).toBitVec.toInt = _
    rw [BitVec.toInt_eq_toNat_cond, if_pos (by omega)]
  rw [i2]
  omega
def set10 (x : Int32) : Prop := 0 ≤ x.toInt ∧ x.toInt < 1024
theorem set_or {x y : Int32} (hx : set10 x) (hy : set10 y) : set10 (x ||| y) := or_lt x y hx hy
theorem set_0 : set10 0 := by unfold set10; decide
theorem set_z {s : Int} (h0 : 0 ≤ s) (h1 : s < 1024) : set10 (zI s) := by
  unfold set10
  rw [z_toInt (by omega) (by omega)]
  exact ⟨h0, h1⟩
theorem set_1 {h : Int} (h0 : 0 ≤ h) (h1 : h ≤ 9) : set10 ((1 : Int32) <<< (zI h &&& 31)) := by
  rcases (show h = 0 ∨ h = 1 ∨ h = 2 ∨ h = 3 ∨ h = 4 ∨ h = 5 ∨ h = 6 ∨ h = 7 ∨ h = 8 ∨ h = 9 by omega) with e | e | e | e | e | e | e | e | e | e <;> subst e <;> (unfold set10; decide)
theorem set_of {x : Int32} (h : set10 x) : ∃ s, 0 ≤ s ∧ s < 1024 ∧ x = zI s := ⟨x.toInt, h.1, h.2, (Int32.ofInt_toInt x).symm⟩
/-- ones ends for a set -/
theorem v_ones {x : Int32} (hx : set10 x) : oK tt (f_X7_ones x) := by
  unfold f_X7_ones
  obtain ⟨s, s0, s1, rfl⟩ := set_of hx
  have key : ∀ (N : Nat) (s : Int) (c : Int32), 0 ≤ s → s < 1024 → s.toNat < N → oK tt (q_lp (b_X7_ones_4) (fun z1 => some z1.2) N (zI s, c)) := by
    intro N
    induction N with
    | zero => intro s c h0 h1 h; omega
    | succ N ih =>
      intro s c h0 h1 h
      rw [lp_s]
      generalize q_lp (b_X7_ones_4) (fun z1 => some z1.2) N = again at ih
      unfold b_X7_ones_4
      dsimp only
      refine ok_if (fun _ => ok_r trivial) (fun c1 => ok_bd ?_)
      have hs : 0 < s := by
        rw [z_0, z_eq (by omega) (by omega) (by omega) (by omega)] at c1; omega
      rw [z_1, z_sub]
      obtain ⟨r, r0, r1, e⟩ := z_and (s := s - 1) (by omega) (by omega) (zI s)
      have e2 : zI s &&& zI (s - 1) = zI r := by rw [← e]; exact Int32.and_comm _ _
      rw [e2]
      exact ih r _ r0 (by omega) (by omega)
  exact key 20000 s 0 s0 s1 (by omega)
end
section
theorem msc_at {m d : Nat → Int → Int} {σ : qS} (h : msc m d σ) : ∃ m', σ = eC (pw m' d) ∧ scr m m' := h
theorem v_hottest (σ : qS) (τ : qL) {s b : Int} (s0 : 0 ≤ s) (s1 : s < 1024) (b0 : 0 ≤ b) (b1 : b ≤ 9) : oK tt (f_X7_hottest σ τ (zI s) (zI b)) := by
  unfold f_X7_hottest
  obtain ⟨r, r0, r1, e⟩ := z_and s0 (by omega) (((1 : Int32) <<< (zI b &&& 31)) ^^^ (-1))
  rw [e]
  refine ok_bd (ok_if (fun _ => ok_r trivial) (fun _ => ?_))
  rw [z_0]
  refine ok_for (τ := Int32) 10 tt (fun again i t h0 h1 _ ih => ?_) 20000 0 _ (by omega) (by omega) trivial (by omega)
  unfold b_X7_hottest_22
  dsimp only
  rw [z_s1, z_10, z_11, z_mul, z_add, z_mul, z_add]
  refine ok_if (fun _ => ok_r trivial) (fun c => ?_)
  have hi := t_nle h0 (by omega) (by omega) (by omega) c
  have hk : ∀ x, oK tt (if x ≤ t then again (zI (i + 1), t) else again (zI (i + 1), x)) := fun x => ok_if (fun _ => ih hi _ trivial) (fun _ => ih hi _ trivial)
  refine ok_if (fun _ => ok_rd (by omega) (by omega) (by omega) (fun _ => ok_if (fun _ => ok_rd (by omega) (by omega) (by omega) (fun _ => ok_cl (v_cooled _ _) (fun _ _ => ok_cl (v_behindBed σ τ _ b0 b1) (fun _ _ => hk _)))) (fun _ => hk _))) (fun _ => hk _)
theorem v_findHot (m d : Nat → Int → Int) (τ : qL) {σ : qS} (hσ : msc m d σ) {s : Int} (s0 : 0 ≤ s) (s1 : s < 1024) (h : Int32) : oK (fun r => msc m d r.2) (f_X7_findHot σ τ (zI s) h) := by
  unfold f_X7_findHot
  rw [z_0]
  refine ok_for (τ := qS × Int32) 10 (fun t => msc m d t.1 ∧ (t.2 = 0 ∨ t.2 = 1)) (fun again i t h0 h1 ht ih => ?_) 20000 0 _ (by omega) (by omega) ⟨hσ, Or.inl rfl⟩ (by omega)
  unfold b_X7_findHot_5
  dsimp only
  rw [z_s1]
  have e110 : (110 : Int32) = zI 110 := by decide
  rw [e110, z_10, z_mul, z_add, z_add]
  refine ok_if (fun _ => ?_) (fun c => ?_)
  · refine ok_chk ?_ (ok_r ht.1)
    rcases ht.2 with e | e <;> rw [e] <;> decide
  · have hi := t_nle h0 (by omega) (by omega) (by omega) c
    have hk : ∀ v, msc m d v → ∀ x : Int32, oK (fun r => msc m d r.2) (if t.2 = 0 then (if x < 0 then again (zI (i + 1), v, (0 : Int32)) else again (zI (i + 1), v, (1 : Int32))) else again (zI (i + 1), v, (1 : Int32))) :=
      fun v hv x => ok_if (fun _ => ok_if (fun _ => ih hi _ ⟨hv, Or.inl rfl⟩) (fun _ => ih hi _ ⟨hv, Or.inr rfl⟩)) (fun _ => ih hi _ ⟨hv, Or.inr rfl⟩)
    have ha : oK (fun r => msc m d r.2) (q_rd t.1 24 121 (zI (110 + i)) fun r_37 => q_cl (f_X7_cooled h r_37) fun r_40 => q_cl (f_X7_behindBed t.1 τ r_40 (zI i)) fun r_42 => q_wr t.1 25 10240 (zI (10 * s + i)) r_42 fun σM_44 => if t.2 = 0 then (if r_42 < 0 then again (zI (i + 1), σM_44, (0 : Int32)) else again (zI (i + 1), σM_44, (1 : Int32))) else again (zI (i + 1), σM_44, (1 : Int32))) :=
      ok_rd (by omega) (by omega) (by omega) (fun _ => ok_cl (v_cooled _ _) (fun _ _ => ok_cl (v_behindBed _ τ _ h0 (by omega)) (fun x _ => ok_wrM ht.1 (by decide) (by omega) (by omega) (by omega) (fun v hv => hk v hv x))))
    refine ok_if (fun _ => ok_if (fun _ => ha) (fun _ => ok_cl (v_hottest t.1 τ s0 s1 h0 (by omega)) (fun x _ => ok_wrM ht.1 (by decide) (by omega) (by omega) (by omega) (fun v hv => hk v hv x)))) (fun _ => ok_if (fun _ => ha) (fun _ => ok_wrM ht.1 (by decide) (by omega) (by omega) (by omega) (fun v hv => ok_if (fun _ => ih hi _ ⟨hv, Or.inl rfl⟩) (fun _ => ih hi _ ⟨hv, Or.inr rfl⟩))))
theorem v_in (x : Int32) {a b : Int} (h1 : -1000000 ≤ a) (h2 : a ≤ 1000000) (h3 : -1000000 ≤ b) (h4 : b ≤ 1000000) : f_X7_in x.toInt64 (zL a) (zL b) = some (zI (if a ≤ x.toInt ∧ x.toInt ≤ b then 1 else 0)) := by
  obtain ⟨y, y0, y1, rfl⟩ := z_of x
  rw [z_l y0 y1, m_in (by omega) (by omega) (by omega) (by omega) (by omega) (by omega), z_toInt y0 y1]
theorem v_round (m d : Nat → Int → Int) (τ : qL) (h w : Int32) : oK (fun r => msc m d r.2) (f_X7_round (eC (pw m d)) τ h w) := by
  unfold f_X7_round
  rw [zl_0, zl_99, zl_1, v_in h (by omega) (by omega) (by omega) (by omega), v_in w (by omega) (by omega) (by omega) (by omega), s_cl, s_cl]
  refine ok_if (fun _ => ok_r (msc_rf m d)) (fun _ => ok_if (fun _ => ok_r (msc_rf m d)) (fun _ => ok_cl (v_findOff m d τ (msc_rf m d)) (fun σ1 h1 => ?_)))
  rw [z_1]
  refine ok_for (τ := qS × Int32) 1024 (fun t => msc m d t.1 ∧ set10 t.2) (fun again i t h0 h1 ht ih => ?_) 20000 1 _ (by omega) (by omega) ⟨h1, set_0⟩ (by omega)
  unfold b_X7_round_34
  dsimp only
  rw [z_s1, z_1024]
  refine ok_if (fun _ => ok_if (fun _ => ok_cl (v_ones ht.2) (fun _ _ => ok_r ht.1)) (fun _ => ok_r ht.1)) (fun c => ?_)
  have hi := t_nle h0 (by omega) (by omega) (by omega) c
  refine ok_cl (v_findHot m d τ ht.1 h0 hi h) (fun y hy => ok_if (fun _ => ih hi (y.2, t.2) ⟨hy, ht.2⟩) (fun _ => ok_cl (v_ones (set_z h0 hi)) (fun _ _ => ok_cl (v_ones ht.2) (fun _ _ => ok_if (fun _ => ih hi (y.2, t.2) ⟨hy, ht.2⟩) (fun _ => ih hi (y.2, zI i) ⟨hy, set_z h0 hi⟩)))))
theorem v_near (m d : Nat → Int → Int) (τ : qL) (a b w : Int32) : oK (fun r => msc m d r.2) (f_X7_near (eC (pw m d)) τ a b w) := by
  unfold f_X7_near
  obtain ⟨a, a0, a1, rfl⟩ := z_of a
  obtain ⟨b, b0, b1, rfl⟩ := z_of b
  rw [m_isPlace a0 a1, m_isPlace b0 b1, s_cl, s_cl, zl_0, zl_1, v_in w (by omega) (by omega) (by omega) (by omega), s_cl]
  by_cases ca : 0 ≤ a ∧ a ≤ 10
  · by_cases cb : 0 ≤ b ∧ b ≤ 10
    · refine ok_if (fun _ => ok_r (msc_rf m d)) (fun _ => ok_if (fun _ => ok_r (msc_rf m d)) (fun _ => ok_if (fun _ => ok_r (msc_rf m d)) (fun _ => ok_cl (v_findOff m d τ (msc_rf m d)) (fun σ1 h1 => ?_))))
      rw [z_11, z_mul, z_add]
      refine ok_rd (by omega) (by omega) (by omega) (fun r12 => ok_if (fun _ => ok_if (fun _ => ok_r h1) (fun _ => ?_)) (fun _ => ok_r h1))
      rw [z_10]
      refine ok_down (τ := Int32) (-1) 10 tt (fun again i t h2 h3 _ ih => ?_) 20000 10 _ (by omega) (by omega) trivial (by omega)
      unfold b_X7_near_72
      dsimp only
      rw [z_m1, z_11, z_mul, z_add, z_mul, z_add]
      refine ok_if (fun _ => ok_r h1) (fun c => ok_if (fun _ => ok_r h1) (fun _ => ?_))
      have hj : 0 ≤ i := by
        rw [z_0, z_lt (by omega) (by omega) (by omega) (by omega)] at c; omega
      exact ok_rd (by omega) (by omega) (by omega) (fun _ => ok_if (fun _ => ih (by omega) _ trivial) (fun _ => ok_rd (by omega) (by omega) (by omega) (fun _ => ok_if (fun _ => ih (by omega) _ trivial) (fun _ => ih (by omega) _ trivial))))
    · rw [if_neg cb]
      exact ok_if (fun _ => ok_r (msc_rf m d)) (fun _ => ok_if (fun _ => ok_r (msc_rf m d)) (fun c => absurd rfl c))
  · rw [if_neg ca]
    exact ok_if (fun _ => ok_r (msc_rf m d)) (fun c => absurd rfl c)
/-! keeping -/
theorem v_around (σ : qS) (τ : qL) (s : Int32) : oK tt (f_X7_around σ τ s) := by
  unfold f_X7_around
  rw [z_0]
  refine ok_for (τ := Int32) 121 tt (fun again i t h0 h1 _ ih => ?_) 20000 0 _ (by omega) (by omega) trivial (by omega)
  unfold b_X7_around_4
  dsimp only
  rw [z_s1, z_121]
  refine ok_if (fun _ => ok_r trivial) (fun c => ?_)
  have hi := t_nle h0 (by omega) (by omega) (by omega) c
  exact ok_if (fun _ => ok_rd h0 hi (by omega) (fun _ => ok_if (fun _ => ok_bd (ih hi _ trivial)) (fun _ => ok_bd (ih hi _ trivial)))) (fun _ => ok_bd (ih hi _ trivial))
theorem v_isKept (σ : qS) (τ : qL) (a s : Int32) : oK tt (f_X7_isKept σ τ a s) := by
  unfold f_X7_isKept
  rw [z_0]
  refine ok_for (τ := Int32) 11 tt (fun again i t h0 h1 _ ih => ?_) 20000 0 _ (by omega) (by omega) trivial (by omega)
  unfold b_X7_isKept_7
  dsimp only
  rw [z_s1, z_11]
  refine ok_if (fun _ => ok_if (fun _ => ok_r trivial) (fun _ => ok_r trivial)) (fun c => ?_)
  have hi := t_nle h0 (by omega) (by omega) (by omega) c
  exact ok_cl (v_around σ τ _) (fun _ _ => ok_bd (ih hi _ trivial))
theorem v_keep (σ : qS) (τ : qL) (a w : Int32) : oK tt (f_X7_keep σ τ a w) := by
  unfold f_X7_keep
  obtain ⟨a, a0, a1, rfl⟩ := z_of a
  rw [m_isHouse a0 a1, s_cl, zl_0, zl_1, v_in w (by omega) (by omega) (by omega) (by omega), s_cl]
  refine ok_if (fun _ => ok_r trivial) (fun _ => ok_if (fun _ => ok_r trivial) (fun _ => ?_))
  rw [z_0]
  refine ok_for (τ := Int32) 1024 (fun t => t < 0 ∨ set10 t) (fun again i t h0 h1 ht ih => ?_) 20000 0 _ (by omega) (by omega) (Or.inl (by decide)) (by omega)
  unfold b_X7_keep_28
  dsimp only
  rw [z_s1, z_1024]
  refine ok_if (fun _ => ok_if (fun _ => ok_r trivial) (fun cn => ok_if (fun _ => ok_r trivial) (fun _ => ok_cl (v_ones (ht.resolve_left cn)) (fun _ _ => ok_r trivial)))) (fun c => ?_)
  have hi := t_nle h0 (by omega) (by omega) (by omega) c
  have hs : zI i < 0 ∨ set10 (zI i) := Or.inr (set_z h0 hi)
  have hkp : oK tt (q_cl (f_X7_isKept σ τ (zI a) (zI i)) fun r_17 => if r_17 = 0 then again (zI (i + 1), t) else again (zI (i + 1), zI i)) := ok_cl (v_isKept σ τ _ _) (fun _ _ => ok_if (fun _ => ih hi _ ht) (fun _ => ih hi _ hs))
  refine ok_if (fun _ => ok_if (fun _ => hkp) (fun cn => ok_cl (v_ones (set_z h0 hi)) (fun _ _ => ok_cl (v_ones (ht.resolve_left cn)) (fun _ _ => ok_if (fun _ => ih hi _ ht) (fun _ => hkp))))) (fun _ => ih hi _ ht)
/-! embers -/
theorem v_winsBy (σ : qS) (τ : qL) {n k : Int} (n0 : 0 ≤ n) (n1 : n ≤ 60) (k0 : 1 ≤ k) (k1 : k ≤ n) : oK (fun r => r = 0 ∨ r = 1) (f_X7_winsBy σ τ (zI n) (zI k)) := by
  unfold f_X7_winsBy
  have e61 : (61 : Int32) = zI 61 := by decide
  rw [e61, z_2, z_sub, z_mul, z_mul]
  simp only [s_bd, z_add]
  refine ok_if (fun c => ok_if (fun _ => ok_r (Or.inr rfl)) (fun c2 => ?_)) (fun c => ok_if (fun _ => ok_r (Or.inr rfl)) (fun c2 => ?_))
  · exact ok_rd (by omega) (by omega) (by omega) (fun _ => ok_if (fun _ => ok_r (Or.inr rfl)) (fun _ => ok_r (Or.inl rfl)))
  · rw [z_le (by omega) (by omega) (by omega) (by omega)] at c
    exact ok_rd (by omega) (by omega) (by omega) (fun _ => ok_if (fun _ => ok_r (Or.inr rfl)) (fun _ => ok_r (Or.inl rfl)))
theorem v_findWins (m d : Nat → Int → Int) (τ : qL) {σ : qS} (hσ : msc m d σ) {n : Int} (n0 : 1 ≤ n) (n1 : n ≤ 60) : oK (msc m d) (f_X7_findWins σ τ (zI n)) := by
  unfold f_X7_findWins
  rw [z_0]
  refine ok_for (τ := qS) (n + 1) (msc m d) (fun again i t h0 h1 ht ih => ?_) 20000 0 σ (by omega) (by omega) hσ (by omega)
  unfold b_X7_findWins_2
  dsimp only
  have e61 : (61 : Int32) = zI 61 := by decide
  rw [z_s1, e61, z_mul, z_1]
  refine ok_if (fun _ => ok_r ht) (fun c => ?_)
  have hi : i < n + 1 := by
    rw [z_lt (by omega) (by omega) (by omega) (by omega)] at c; omega
  refine ok_wrMZ ht (by decide) (by omega) (by omega) (by omega) (fun v hv => ?_)
  refine ok_forl (τ := qS) 1 (i + 1) (msc m d) (fun again2 j t2 h2 h3 ht2 ih2 => ?_) 20000 1 v (by omega) (by omega) hv (by omega)
  unfold b_X7_findWins_19
  dsimp only
  rw [z_s1, e61, z_mul, z_add, z_1, z_sub]
  refine ok_if (fun _ => ih hi _ ht2) (fun c => ?_)
  have hj : j < i + 1 := by
    rw [z_lt (by omega) (by omega) (by omega) (by omega)] at c; omega
  have hw : ∀ x : Int32, oK (msc m d) (q_wrZ t2 29 3721 (zI (61 * i + j)) x fun σM_12 => again2 (zI (j + 1), σM_12)) := fun x => ok_wrMZ ht2 (by decide) (by omega) (by omega) (by omega) (fun v hv => ih2 hj _ hv)
  exact ok_rd (by omega) (by omega) (by omega) (fun _ => ok_if (fun _ => ok_cl (v_winsBy _ τ (by omega) (by omega) h2 (by omega)) (fun _ _ => ok_if (fun _ => hw _) (fun _ => hw _))) (fun _ => hw _))
theorem v_embers (m d : Nat → Int → Int) (τ : qL) (a w : Int32) : oK (fun r => msc m d r.2) (f_X7_embers (eC (pw m d)) τ a w) := by
  unfold f_X7_embers
  rw [zl_0, zl_1]
  have e60 : (60 : Int64) = zL 60 := by decide
  rw [e60, v_in a (by omega) (by omega) (by omega) (by omega), v_in w (by omega) (by omega) (by omega) (by omega), s_cl, s_cl]
  by_cases ca : 1 ≤ a.toInt ∧ a.toInt ≤ 60
  · obtain ⟨n, n0, n1, rfl⟩ : ∃ n, 1 ≤ n ∧ n ≤ 60 ∧ a = zI n := ⟨a.toInt, ca.1, ca.2, (Int32.ofInt_toInt a).symm⟩
    refine ok_if (fun _ => ok_r (msc_rf m d)) (fun _ => ok_if (fun _ => ok_r (msc_rf m d)) (fun _ => ok_cl (v_findWins m d τ (msc_rf m d) n0 n1) (fun σ1 h1 => ok_bd ?_)))
    rw [z_1, z_sub]
    refine ok_down (τ := Int32) 0 (n - 1) tt (fun again i t h2 h3 _ ih => ?_) 20000 (n - 1) _ (by omega) (by omega) trivial (by omega)
    unfold b_X7_embers_38
    dsimp only
    rw [z_m1]
    refine ok_if (fun _ => ok_if (fun _ => ok_r h1) (fun _ => ok_if (fun _ => ok_r h1) (fun _ => ok_r h1))) (fun c => ?_)
    have hj : 0 < i := by
      rw [z_0, z_le (by omega) (by omega) (by omega) (by omega)] at c; omega
    exact ok_cl (v_winsBy σ1 τ (by omega) n1 (by omega) (by omega)) (fun _ _ => ok_if (fun _ => ih hj _ trivial) (fun _ => ih hj _ trivial))
  · rw [if_neg ca]
    exact ok_if (fun _ => ok_r (msc_rf m d)) (fun c => absurd rfl c)
end
section
/-! fading, of the reference -/
def itr (d : Nat → Int → Int) : Nat → Int → Int
  | 0, t => t
  | n + 1, t => d 4 (itr d n t)
theorem itr_b {d} (hd : okd d) {t : Int} (t0 : 0 ≤ t) (t1 : t ≤ 9) : ∀ n, 0 ≤ itr d n t ∧ itr d n t ≤ 9 := by
  intro n
  induction n with
  | zero => exact ⟨t0, t1⟩
  | succ n ih => exact okd_4 hd ih.1 (by omega)
theorem m_fadedBy (m : Nat → Int → Int) {d} (hd : okd d) (τ : qL) {t n : Int} (t0 : 0 ≤ t) (t1 : t ≤ 9) (n0 : 0 ≤ n) (n1 : n ≤ 1000) : f_X7_fadedBy (eC (pw m d)) τ (zI t) (zI n) = some (zI (itr d n.toNat t)) := by
  unfold f_X7_fadedBy
  rw [z_0]
  refine lp_en (fun i : Int => (zI i, zI (itr d i.toNat t))) (fun _ _ => some (zI (itr d n.toNat t))) (fun N i => 0 ≤ i ∧ i ≤ n ∧ (n - i).toNat < N) (fun i => by omega) ?_ 20000 0 ⟨by omega, by omega, by omega⟩
  rintro again N i ⟨h0, h1, h2⟩ ih
  have hb := itr_b hd t0 t1 i.toNat
  unfold b_X7_fadedBy_5
  dsimp only
  by_cases c : i < n
  · simp (disch := omega) only [pw_0, up_0, pw_1, up_1, pw_2, up_2, pw_3, up_3, pw_4, up_4, pw_9, up_9, pw_10, up_10, pwi_5, upi_5, pwi_6, upi_6, pwi_7, upi_7, pwi_8, upi_8, pwi_11, upi_11, pw_12, up_12, pw_14, up_14, pw_15, up_15, pw_16, up_16, pw_18, up_18, pw_24, up_24, pw_25, up_25, pw_26, up_26, pw_29, up_29, pw_30, up_30, pw_31, up_31, pwi_13, upi_13, pwi_17, upi_17, pwi_19, upi_19, pwi_20, upi_20, pwi_21, upi_21, pwi_22, upi_22, pwi_23, upi_23, pwi_32, upi_32, pwi_33, upi_33, eC_5, eC_6, eC_13, eC_17, eC_19, eC_20, eC_21, eC_22, eC_23, eC_32, eC_33, eC_p5, eC_p6, eC_p13, eC_p17, eC_p19, eC_p20, eC_p21, eC_p22, eC_p23, eC_p32, eC_p33, s_T, s_F, s_bd, s_cl, s_rd, s_wr, s_ite, z_ite, z_neg, z_add, z_sub, z_mul, z_le, z_lt, z_eq, eC_at, eC_7, eC_8, eC_9, eC_10, eC_11, eC_p7, eC_p8, eC_p9, eC_p10, eC_p11, eC_up, ud_same, ud_ne, if_pos, if_neg, z_0, z_1, z_2, z_3, z_4, z_5, z_6, z_7, z_8, z_9, z_10, z_11, z_12, z_13, z_14, z_15, z_16, z_17, z_18, z_19, z_20, z_21, z_22, z_23, z_24, z_25, z_26, z_27, z_28, z_29, z_30, z_31, z_32, z_33, z_34, z_35, z_36, z_37, z_38, z_39, z_40, z_41, z_42, z_43, z_44, z_45, z_46, z_47, z_48, z_49, z_50, z_51, z_52, z_53, z_54, z_55, z_56, z_57, z_58, z_59, z_60, z_61, z_62, z_63, z_64, z_65, z_66, z_67, z_68, z_69, z_70, z_71, z_72, z_73, z_74, z_75, z_76, z_77, z_78, z_79, z_80, z_81, z_82, z_83, z_84, z_85, z_86, z_87, z_88, z_89, z_90, z_91, z_92, z_93, z_94, z_95, z_96, z_97, z_98, z_99, z_100, z_101, z_102, z_103, z_104, z_105, z_106, z_107, z_108, z_109, z_110, z_111, z_112, z_113, z_114, z_115, z_116, z_117, z_118, z_119, z_120, z_121, z_122, z_123, z_124, z_125, z_126, z_127, z_199, z_200, z_360, z_410, z_1000, z_1023, z_1024, z_1219, z_9999, z_10240, z_65537]
    have := ih (i + 1) ⟨by omega, by omega, by omega⟩
    rw [show (i + 1).toNat = i.toNat + 1 by omega] at this
    exact this
  · obtain rfl : i = n := by omega
    simp (disch := omega) only [pw_0, up_0, pw_1, up_1, pw_2, up_2, pw_3, up_3, pw_4, up_4, pw_9, up_9, pw_10, up_10, pwi_5, upi_5, pwi_6, upi_6, pwi_7, upi_7, pwi_8, upi_8, pwi_11, upi_11, pw_12, up_12, pw_14, up_14, pw_15, up_15, pw_16, up_16, pw_18, up_18, pw_24, up_24, pw_25, up_25, pw_26, up_26, pw_29, up_29, pw_30, up_30, pw_31, up_31, pwi_13, upi_13, pwi_17, upi_17, pwi_19, upi_19, pwi_20, upi_20, pwi_21, upi_21, pwi_22, upi_22, pwi_23, upi_23, pwi_32, upi_32, pwi_33, upi_33, eC_5, eC_6, eC_13, eC_17, eC_19, eC_20, eC_21, eC_22, eC_23, eC_32, eC_33, eC_p5, eC_p6, eC_p13, eC_p17, eC_p19, eC_p20, eC_p21, eC_p22, eC_p23, eC_p32, eC_p33, s_T, s_F, s_bd, s_cl, s_rd, s_wr, s_ite, z_ite, z_neg, z_add, z_sub, z_mul, z_le, z_lt, z_eq, eC_at, eC_7, eC_8, eC_9, eC_10, eC_11, eC_p7, eC_p8, eC_p9, eC_p10, eC_p11, eC_up, ud_same, ud_ne, if_pos, if_neg, z_0, z_1, z_2, z_3, z_4, z_5, z_6, z_7, z_8, z_9, z_10, z_11, z_12, z_13, z_14, z_15, z_16, z_17, z_18, z_19, z_20, z_21, z_22, z_23, z_24, z_25, z_26, z_27, z_28, z_29, z_30, z_31, z_32, z_33, z_34, z_35, z_36, z_37, z_38, z_39, z_40, z_41, z_42, z_43, z_44, z_45, z_46, z_47, z_48, z_49, z_50, z_51, z_52, z_53, z_54, z_55, z_56, z_57, z_58, z_59, z_60, z_61, z_62, z_63, z_64, z_65, z_66, z_67, z_68, z_69, z_70, z_71, z_72, z_73, z_74, z_75, z_76, z_77, z_78, z_79, z_80, z_81, z_82, z_83, z_84, z_85, z_86, z_87, z_88, z_89, z_90, z_91, z_92, z_93, z_94, z_95, z_96, z_97, z_98, z_99, z_100, z_101, z_102, z_103, z_104, z_105, z_106, z_107, z_108, z_109, z_110, z_111, z_112, z_113, z_114, z_115, z_116, z_117, z_118, z_119, z_120, z_121, z_122, z_123, z_124, z_125, z_126, z_127, z_199, z_200, z_360, z_410, z_1000, z_1023, z_1024, z_1219, z_9999, z_10240, z_65537]
def caF (d : Nat → Int → Int) (t n : Int) : Nat → Int → Int
  | 0, _ => -6
  | N + 1, e => if n ≤ e then -6 else if itr d e.toNat t = itr d n.toNat t then n - e else caF d t n N (e + 1)
theorem m_cameAhead (m : Nat → Int → Int) {d} (hd : okd d) (τ : qL) {t n : Int} (t0 : 0 ≤ t) (t1 : t ≤ 9) (n0 : 0 ≤ n) (n1 : n ≤ 1000) : f_X7_cameAhead (eC (pw m d)) τ (zI t) (zI n) = some (zI (caF d t n 20000 0)) := by
  unfold f_X7_cameAhead
  rw [z_0]
  refine lp_en (fun i : Int => zI i) (fun N i => some (zI (caF d t n N i))) (fun N i => 0 ≤ i ∧ i ≤ n ∧ (n - i).toNat < N) (fun i => by omega) ?_ 20000 0 ⟨by omega, by omega, by omega⟩
  rintro again N i ⟨h0, h1, h2⟩ ih
  have hb := itr_b hd t0 t1 i.toNat
  have hb2 := itr_b hd t0 t1 n.toNat
  unfold b_X7_cameAhead_2 caF
  dsimp only
  by_cases c : n ≤ i
  · simp (disch := omega) only [pw_0, up_0, pw_1, up_1, pw_2, up_2, pw_3, up_3, pw_4, up_4, pw_9, up_9, pw_10, up_10, pwi_5, upi_5, pwi_6, upi_6, pwi_7, upi_7, pwi_8, upi_8, pwi_11, upi_11, pw_12, up_12, pw_14, up_14, pw_15, up_15, pw_16, up_16, pw_18, up_18, pw_24, up_24, pw_25, up_25, pw_26, up_26, pw_29, up_29, pw_30, up_30, pw_31, up_31, pwi_13, upi_13, pwi_17, upi_17, pwi_19, upi_19, pwi_20, upi_20, pwi_21, upi_21, pwi_22, upi_22, pwi_23, upi_23, pwi_32, upi_32, pwi_33, upi_33, eC_5, eC_6, eC_13, eC_17, eC_19, eC_20, eC_21, eC_22, eC_23, eC_32, eC_33, eC_p5, eC_p6, eC_p13, eC_p17, eC_p19, eC_p20, eC_p21, eC_p22, eC_p23, eC_p32, eC_p33, s_T, s_F, s_bd, s_cl, s_rd, s_wr, s_ite, z_ite, z_neg, z_add, z_sub, z_mul, z_le, z_lt, z_eq, eC_at, eC_7, eC_8, eC_9, eC_10, eC_11, eC_p7, eC_p8, eC_p9, eC_p10, eC_p11, eC_up, ud_same, ud_ne, if_pos, if_neg, z_0, z_1, z_2, z_3, z_4, z_5, z_6, z_7, z_8, z_9, z_10, z_11, z_12, z_13, z_14, z_15, z_16, z_17, z_18, z_19, z_20, z_21, z_22, z_23, z_24, z_25, z_26, z_27, z_28, z_29, z_30, z_31, z_32, z_33, z_34, z_35, z_36, z_37, z_38, z_39, z_40, z_41, z_42, z_43, z_44, z_45, z_46, z_47, z_48, z_49, z_50, z_51, z_52, z_53, z_54, z_55, z_56, z_57, z_58, z_59, z_60, z_61, z_62, z_63, z_64, z_65, z_66, z_67, z_68, z_69, z_70, z_71, z_72, z_73, z_74, z_75, z_76, z_77, z_78, z_79, z_80, z_81, z_82, z_83, z_84, z_85, z_86, z_87, z_88, z_89, z_90, z_91, z_92, z_93, z_94, z_95, z_96, z_97, z_98, z_99, z_100, z_101, z_102, z_103, z_104, z_105, z_106, z_107, z_108, z_109, z_110, z_111, z_112, z_113, z_114, z_115, z_116, z_117, z_118, z_119, z_120, z_121, z_122, z_123, z_124, z_125, z_126, z_127, z_199, z_200, z_360, z_410, z_1000, z_1023, z_1024, z_1219, z_9999, z_10240, z_65537]
  · rw [if_neg c, m_fadedBy m hd τ t0 t1 h0 (by omega), m_fadedBy m hd τ t0 t1 n0 n1, s_cl, s_cl]
    by_cases c2 : itr d i.toNat t = itr d n.toNat t
    · simp (disch := omega) only [pw_0, up_0, pw_1, up_1, pw_2, up_2, pw_3, up_3, pw_4, up_4, pw_9, up_9, pw_10, up_10, pwi_5, upi_5, pwi_6, upi_6, pwi_7, upi_7, pwi_8, upi_8, pwi_11, upi_11, pw_12, up_12, pw_14, up_14, pw_15, up_15, pw_16, up_16, pw_18, up_18, pw_24, up_24, pw_25, up_25, pw_26, up_26, pw_29, up_29, pw_30, up_30, pw_31, up_31, pwi_13, upi_13, pwi_17, upi_17, pwi_19, upi_19, pwi_20, upi_20, pwi_21, upi_21, pwi_22, upi_22, pwi_23, upi_23, pwi_32, upi_32, pwi_33, upi_33, eC_5, eC_6, eC_13, eC_17, eC_19, eC_20, eC_21, eC_22, eC_23, eC_32, eC_33, eC_p5, eC_p6, eC_p13, eC_p17, eC_p19, eC_p20, eC_p21, eC_p22, eC_p23, eC_p32, eC_p33, s_T, s_F, s_bd, s_cl, s_rd, s_wr, s_ite, z_ite, z_neg, z_add, z_sub, z_mul, z_le, z_lt, z_eq, eC_at, eC_7, eC_8, eC_9, eC_10, eC_11, eC_p7, eC_p8, eC_p9, eC_p10, eC_p11, eC_up, ud_same, ud_ne, if_pos, if_neg, z_0, z_1, z_2, z_3, z_4, z_5, z_6, z_7, z_8, z_9, z_10, z_11, z_12, z_13, z_14, z_15, z_16, z_17, z_18, z_19, z_20, z_21, z_22, z_23, z_24, z_25, z_26, z_27, z_28, z_29, z_30, z_31, z_32, z_33, z_34, z_35, z_36, z_37, z_38, z_39, z_40, z_41, z_42, z_43, z_44, z_45, z_46, z_47, z_48, z_49, z_50, z_51, z_52, z_53, z_54, z_55, z_56, z_57, z_58, z_59, z_60, z_61, z_62, z_63, z_64, z_65, z_66, z_67, z_68, z_69, z_70, z_71, z_72, z_73, z_74, z_75, z_76, z_77, z_78, z_79, z_80, z_81, z_82, z_83, z_84, z_85, z_86, z_87, z_88, z_89, z_90, z_91, z_92, z_93, z_94, z_95, z_96, z_97, z_98, z_99, z_100, z_101, z_102, z_103, z_104, z_105, z_106, z_107, z_108, z_109, z_110, z_111, z_112, z_113, z_114, z_115, z_116, z_117, z_118, z_119, z_120, z_121, z_122, z_123, z_124, z_125, z_126, z_127, z_199, z_200, z_360, z_410, z_1000, z_1023, z_1024, z_1219, z_9999, z_10240, z_65537]
    · simp (disch := omega) only [pw_0, up_0, pw_1, up_1, pw_2, up_2, pw_3, up_3, pw_4, up_4, pw_9, up_9, pw_10, up_10, pwi_5, upi_5, pwi_6, upi_6, pwi_7, upi_7, pwi_8, upi_8, pwi_11, upi_11, pw_12, up_12, pw_14, up_14, pw_15, up_15, pw_16, up_16, pw_18, up_18, pw_24, up_24, pw_25, up_25, pw_26, up_26, pw_29, up_29, pw_30, up_30, pw_31, up_31, pwi_13, upi_13, pwi_17, upi_17, pwi_19, upi_19, pwi_20, upi_20, pwi_21, upi_21, pwi_22, upi_22, pwi_23, upi_23, pwi_32, upi_32, pwi_33, upi_33, eC_5, eC_6, eC_13, eC_17, eC_19, eC_20, eC_21, eC_22, eC_23, eC_32, eC_33, eC_p5, eC_p6, eC_p13, eC_p17, eC_p19, eC_p20, eC_p21, eC_p22, eC_p23, eC_p32, eC_p33, s_T, s_F, s_bd, s_cl, s_rd, s_wr, s_ite, z_ite, z_neg, z_add, z_sub, z_mul, z_le, z_lt, z_eq, eC_at, eC_7, eC_8, eC_9, eC_10, eC_11, eC_p7, eC_p8, eC_p9, eC_p10, eC_p11, eC_up, ud_same, ud_ne, if_pos, if_neg, z_0, z_1, z_2, z_3, z_4, z_5, z_6, z_7, z_8, z_9, z_10, z_11, z_12, z_13, z_14, z_15, z_16, z_17, z_18, z_19, z_20, z_21, z_22, z_23, z_24, z_25, z_26, z_27, z_28, z_29, z_30, z_31, z_32, z_33, z_34, z_35, z_36, z_37, z_38, z_39, z_40, z_41, z_42, z_43, z_44, z_45, z_46, z_47, z_48, z_49, z_50, z_51, z_52, z_53, z_54, z_55, z_56, z_57, z_58, z_59, z_60, z_61, z_62, z_63, z_64, z_65, z_66, z_67, z_68, z_69, z_70, z_71, z_72, z_73, z_74, z_75, z_76, z_77, z_78, z_79, z_80, z_81, z_82, z_83, z_84, z_85, z_86, z_87, z_88, z_89, z_90, z_91, z_92, z_93, z_94, z_95, z_96, z_97, z_98, z_99, z_100, z_101, z_102, z_103, z_104, z_105, z_106, z_107, z_108, z_109, z_110, z_111, z_112, z_113, z_114, z_115, z_116, z_117, z_118, z_119, z_120, z_121, z_122, z_123, z_124, z_125, z_126, z_127, z_199, z_200, z_360, z_410, z_1000, z_1023, z_1024, z_1219, z_9999, z_10240, z_65537]
      exact ih (i + 1) ⟨by omega, by omega, by omega⟩
theorem caF_hit {d : Nat → Int → Int} {t n : Int} : ∀ (N : Nat) (e i : Int), 0 ≤ e → e ≤ i → i < n → (n - e).toNat < N → itr d i.toNat t = itr d n.toNat t → 1 ≤ caF d t n N e := by
  intro N
  induction N with
  | zero => intro e i _ _ _ h; omega
  | succ N ih =>
    intro e i h0 h1 h2 hN hi
    unfold caF
    rw [if_neg (by omega)]
    by_cases c : itr d e.toNat t = itr d n.toNat t
    · rw [if_pos c]; omega
    · rw [if_neg c]
      have : e ≠ i := fun z => c (by rw [z]; exact hi)
      exact ih (e + 1) i (by omega) (by omega) h2 (by omega) hi
theorem caF_b {d : Nat → Int → Int} {t n : Int} (n1 : n ≤ 1000) : ∀ (N : Nat) (e : Int), 0 ≤ e → -6 ≤ caF d t n N e ∧ caF d t n N e ≤ 1000 := by
  intro N
  induction N with
  | zero => intro e _; exact ⟨by show (-6 : Int) ≤ -6; omega, by show (-6 : Int) ≤ 1000; omega⟩
  | succ N ih =>
    intro e h0
    unfold caF
    split
    · omega
    · split
      · omega
      · exact ih (e + 1) (by omega)
theorem pigeon : ∀ (n : Nat) (f : Nat → Nat), (∀ i, i ≤ n → f i < n) → ∃ i j, i < j ∧ j ≤ n ∧ f i = f j := by
  intro n
  induction n with
  | zero => intro f h; exact absurd (h 0 (Nat.le_refl 0)) (Nat.not_lt_zero _)
  | succ n ih =>
    intro f h
    by_cases hx : ∃ i, i ≤ n ∧ f i = f (n + 1)
    · obtain ⟨i, hi, e⟩ := hx
      exact ⟨i, n + 1, by omega, Nat.le_refl _, e⟩
    · have hne : ∀ i, i ≤ n → f i ≠ f (n + 1) := fun i hi e => hx ⟨i, hi, e⟩
      have hv := h (n + 1) (Nat.le_refl _)
      obtain ⟨i, j, h1, h2, h3⟩ := ih (fun i => if f i = n then f (n + 1) else f i) (by
        intro i hi
        try dsimp only
        have a := h i (by omega)
        have b := hne i hi
        split
        · next e => omega
        · omega)
      try dsimp only at h3
      refine ⟨i, j, h1, by omega, ?_⟩
      have b1 := hne i (by omega)
      have b2 := hne j h2
      split at h3 <;> split at h3 <;> omega
theorem itr_rep {d} (hd : okd d) {t : Int} (t0 : 0 ≤ t) (t1 : t ≤ 9) : ∃ i j : Nat, i < j ∧ j ≤ 10 ∧ itr d i t = itr d j t := by
  obtain ⟨i, j, h1, h2, h3⟩ := pigeon 10 (fun n => (itr d n t).toNat) (fun i _ => by have := itr_b hd t0 t1 i; omega)
  try dsimp only at h3
  have a := itr_b hd t0 t1 i
  have b := itr_b hd t0 t1 j
  exact ⟨i, j, h1, h2, by omega⟩
theorem v_faded (m : Nat → Int → Int) {d} (hd : okd d) (τ : qL) (a w : Int32) : oK tt (f_X7_faded (eC (pw m d)) τ a w) := by
  unfold f_X7_faded
  obtain ⟨a, a0, a1, rfl⟩ := z_of a
  have e2 : (-2 : Int64) = zL (-2) := by decide
  rw [m_isTale a0 a1, s_cl, e2, zl_99, v_in w (by omega) (by omega) (by omega) (by omega), s_cl]
  by_cases ca : 0 ≤ a ∧ a ≤ 9
  · by_cases cw : -2 ≤ w.toInt ∧ w.toInt ≤ 99
    · obtain ⟨n, n0, n1, rfl⟩ : ∃ n, -2 ≤ n ∧ n ≤ 99 ∧ w = zI n := ⟨w.toInt, cw.1, cw.2, (Int32.ofInt_toInt w).symm⟩
      refine ok_if (fun _ => ok_r trivial) (fun _ => ok_if (fun _ => ok_r trivial) (fun _ => ok_if (fun _ => ?_) (fun c => ?_)))
      · obtain ⟨i, j, h1, h2, h3⟩ := itr_rep hd ca.1 ca.2
        rw [z_1]
        have key : ∀ (N : Nat) (s : Int), 1 ≤ s → s ≤ j → ((j : Int) - s).toNat < N → oK tt (q_lp (b_X7_faded_39 (eC (pw m d)) τ (zI a)) (fun z8 => if zI n = -zI 1 then some z8 else q_cl (f_X7_cameAhead (eC (pw m d)) τ (zI a) z8) fun r_10 => some r_10) N (zI s)) := by
          intro N
          induction N with
          | zero => intro s _ _ h; omega
          | succ N ih =>
            intro s s0 s1 hN
            rw [lp_s]
            have ih' := ih (s + 1)
            generalize q_lp (b_X7_faded_39 (eC (pw m d)) τ (zI a)) (fun z8 => if zI n = -zI 1 then some z8 else q_cl (f_X7_cameAhead (eC (pw m d)) τ (zI a) z8) fun r_10 => some r_10) N = again at ih'
            unfold b_X7_faded_39
            have hb := caF_b (d := d) (t := a) (n := s) (by omega) 20000 0 (by omega)
            rw [m_cameAhead m hd τ ca.1 ca.2 (by omega) (by omega), s_cl, z_s1]
            refine ok_if (fun _ => ok_if (fun _ => ok_r trivial) (fun _ => ?_)) (fun c => ?_)
            · rw [m_cameAhead m hd τ ca.1 ca.2 (by omega) (by omega), s_cl]; exact ok_r trivial
            · have hsj : s ≠ j := by
                intro cj
                apply c
                have := caF_hit (d := d) (t := a) (n := s) 20000 0 i (by omega) (by omega) (by omega) (by omega) (by rw [cj]; exact h3)
                rw [z_0, z_le (by omega) (by omega) (by omega) (by omega)]; omega
              exact ih' (by omega) (by omega) (by omega)
        exact key 20000 1 (by omega) (by omega) (by omega)
      · rw [z_0, z_lt (by omega) (by omega) (by omega) (by omega)] at c
        rw [m_fadedBy m hd τ ca.1 ca.2 (by omega) (by omega), s_cl]
        exact ok_r trivial
    · rw [if_neg cw]
      exact ok_if (fun _ => ok_r trivial) (fun _ => ok_if (fun _ => ok_r trivial) (fun c => absurd rfl c))
  · rw [if_neg ca]
    exact ok_if (fun _ => ok_r trivial) (fun c => absurd rfl c)
/-! what was said, of the reference -/
theorem v_isFit (m : Nat → Int → Int) {d} (hd : okd d) (τ : qL) {w : Int} (w0 : 0 ≤ w) (w1 : w < 100) : oK (fun r => r = 0 ∨ (r = 1 ∧ 1 ≤ w % 10 ∧ w % 10 ≤ 5)) (f_X7_isFit (eC (pw m d)) τ (zI w)) := by
  have hs := okd_s hd
  unfold f_X7_isFit
  rw [z_10, z_rem w0 (by omega) (by omega) (by omega), zl_1, zl_5, v_in _ (by omega) (by omega) (by omega) (by omega), s_cl, z_toInt (by omega) (by omega), z_0]
  by_cases cw : 1 ≤ w % 10 ∧ w % 10 ≤ 5
  · rw [if_pos cw]
    refine ok_for (τ := Int32) (d 99 7) (fun t => t = 0 ∨ t = 1) (fun again i t h0 h1 ht ih => ?_) 20000 0 _ (by omega) (by omega) (Or.inr rfl) (by omega)
    have hend : oK (fun r => r = 0 ∨ (r = 1 ∧ 1 ≤ w % 10 ∧ w % 10 ≤ 5)) (q_chk (q_isB t) <| some t) := by
      refine ok_chk ?_ (ok_r ?_)
      · rcases ht with e | e <;> rw [e] <;> decide
      · rcases ht with e | e
        · exact Or.inl e
        · exact Or.inr ⟨e, cw⟩
    unfold b_X7_isFit_15
    dsimp only
    rw [z_s1, eC_11, pwi_11, z_10, z_rem w0 (by omega) (by omega) (by omega), z_div w0 (by omega) (by omega) (by omega)]
    refine ok_if (fun _ => hend) (fun c => ok_if (fun _ => hend) (fun _ => ?_))
    have hi := t_nle h0 (by omega) (by omega) (by omega) c
    have h5 := okd_5 hd i
    have q0 : 0 ≤ d 5 i / (w % 10) := Int.ediv_nonneg h5.1 (by omega)
    have q1 : d 5 i / (w % 10) ≤ d 5 i := Int.ediv_le_self _ h5.1
    rw [s_rd h0 (by omega) (by omega), eC_at _ _ h0, pw_9, s_nz (by omega) (by omega) (by omega), z_div h5.1 (by omega) (by omega) (by omega), m_fadedBy m hd τ (by omega) (by omega) q0 (by omega), s_cl]
    exact ok_rd h0 (by omega) (by omega) (fun _ => ok_if (fun _ => ih hi _ (Or.inr rfl)) (fun _ => ih hi _ (Or.inl rfl)))
  · rw [if_neg cw, lp_s]
    unfold b_X7_isFit_15
    dsimp only
    have hend : oK (fun r => r = 0 ∨ (r = 1 ∧ 1 ≤ w % 10 ∧ w % 10 ≤ 5)) (q_chk (q_isB (zI 0)) <| some (zI 0)) := ok_chk (by decide) (ok_r (Or.inl rfl))
    exact ok_if (fun _ => hend) (fun _ => ok_if (fun _ => hend) (fun c => absurd rfl c))
theorem v_fits (m : Nat → Int → Int) {d} (hd : okd d) (τ : qL) (a : Int32) : oK tt (f_X7_fits (eC (pw m d)) τ a) := by
  unfold f_X7_fits
  rw [z_0]
  refine ok_for (τ := Int32) 100 tt (fun again i t h0 h1 _ ih => ?_) 20000 0 _ (by omega) (by omega) trivial (by omega)
  unfold b_X7_fits_4
  dsimp only
  rw [z_s1, z_100]
  refine ok_if (fun _ => ok_if (fun _ => ok_r trivial) (fun _ => ok_r trivial)) (fun c => ?_)
  have hi := t_nle h0 (by omega) (by omega) (by omega) c
  exact ok_cl (v_isFit m hd τ h0 hi) (fun _ _ => ok_if (fun _ => ih hi _ trivial) (fun _ => ok_if (fun _ => ok_r trivial) (fun _ => ih hi _ trivial)))
theorem v_mostLeft (m : Nat → Int → Int) {d} (hd : okd d) (τ : qL) {σ : qS} (hσ : msc m d σ) {b : Int} (b0 : 0 ≤ b) (b1 : b ≤ 40) : oK (fun r => msc m d r.2) (f_X7_mostLeft σ τ (zI b)) := by
  unfold f_X7_mostLeft
  rw [z_0]
  refine ok_for (τ := qS) 10 (msc m d) (fun again i t h0 h1 ht ih => ?_) 20000 0 _ (by omega) (by omega) hσ (by omega)
  unfold b_X7_mostLeft_4
  dsimp only
  rw [z_s1, z_10, z_0]
  refine ok_if (fun _ => ?_) (fun c => ?_)
  · refine ok_for (τ := qS × Int32) 100 (fun t => msc m d t.1) (fun again i t h0 h1 ht ih => ?_) 20000 0 _ (by omega) (by omega) ht (by omega)
    unfold b_X7_mostLeft_25
    dsimp only
    rw [z_s1, z_100, z_10, z_rem h0 (by omega) (by omega) (by omega), z_div h0 (by omega) (by omega) (by omega)]
    refine ok_if (fun _ => ok_r ht) (fun c => ?_)
    have hi := t_nle h0 (by omega) (by omega) (by omega) c
    obtain ⟨m', e, hs⟩ := ht
    rw [e]
    refine ok_cl (v_isFit m' hd τ h0 hi) (fun r hr => ok_if (fun _ => ih hi (eC (pw m' d), t.2) ⟨m', rfl, hs⟩) (fun c2 => ?_))
    rcases hr with z | ⟨_, z1, z2⟩
    · exact absurd z c2
    · have q0 : 0 ≤ b / (i % 10) := Int.ediv_nonneg b0 (by omega)
      have q1 : b / (i % 10) ≤ b := Int.ediv_le_self _ b0
      have hb := itr_b hd (t := i / 10) (by omega) (by omega) (b / (i % 10)).toNat
      rw [s_nz (by omega) (by omega) (by omega), z_div b0 (by omega) (by omega) (by omega), m_fadedBy m' hd τ (by omega) (by omega) q0 (by omega), s_cl]
      refine ok_rd hb.1 (by omega) (by omega) (fun _ => ok_wrM ⟨m', rfl, hs⟩ (by decide) hb.1 (by omega) (by omega) (fun v hv => ok_rd hb.1 (by omega) (by omega) (fun _ => ok_if (fun _ => ih hi (v, t.2) hv) (fun _ => ok_rd hb.1 (by omega) (by omega) (fun x => ih hi (v, x) hv)))))
  · have hi := t_nle h0 (by omega) (by omega) (by omega) c
    exact ok_wrM ht (by decide) h0 (by omega) (by omega) (fun v hv => ih hi _ hv)
theorem v_ask (m : Nat → Int → Int) {d} (hd : okd d) (τ : qL) (w : Int32) : oK (fun r => msc m d r.2) (f_X7_ask (eC (pw m d)) τ w) := by
  unfold f_X7_ask
  rw [zl_0, zl_1, v_in w (by omega) (by omega) (by omega) (by omega), s_cl, z_0]
  refine ok_if (fun _ => ok_r (msc_rf m d)) (fun _ => ok_cl (v_mostLeft m hd τ (msc_rf m d) (by omega) (by omega)) (fun y hy => ?_))
  rw [z_1]
  refine ok_for (τ := qS × Int32 × Int32) 41 (fun t => msc m d t.1) (fun again i t h0 h1 ht ih => ?_) 20000 1 _ (by omega) (by omega) hy (by omega)
  unfold b_X7_ask_24
  dsimp only
  rw [z_s1, z_40]
  refine ok_if (fun _ => ok_if (fun _ => ok_r ht) (fun _ => ok_if (fun _ => ok_r ht) (fun _ => ok_r ht))) (fun c => ?_)
  have hi : i < 41 := by
    rw [z_lt (by omega) (by omega) (by omega) (by omega)] at c; omega
  exact ok_cl (v_mostLeft m hd τ ht h0 (by omega)) (fun y hy => ok_if (fun _ => ok_if (fun _ => ih hi _ hy) (fun _ => ih hi _ hy)) (fun _ => ok_if (fun _ => ih hi _ hy) (fun _ => ih hi _ hy)))
end
section
/-! years; what is put back -/
def tch (a : Nat) (b : Int) : Prop := ((a = 1 ∨ a = 2 ∨ a = 3) ∧ 0 ≤ b ∧ b < 10) ∨ (a = 99 ∧ 8 ≤ b ∧ b ≤ 11)
/-- only what acts touch differs -/
def oth (d d' : Nat → Int → Int) : Prop := ∀ a b, tch a b ∨ d' a b = d a b
theorem oth_rf (d : Nat → Int → Int) : oth d d := fun _ _ => Or.inr rfl
theorem oth_tr {d d' d'' : Nat → Int → Int} (h : oth d d') (h' : oth d' d'') : oth d d'' := fun k i => by
  rcases h' k i with z | z
  · exact Or.inl z
  · rcases h k i with y | y
    · exact Or.inl y
    · exact Or.inr (z.trans y)
theorem oth_ud {d : Nat → Int → Int} {k : Nat} {i v : Int} (h : tch k i) : oth d (ud d k i v) := fun a b => by
  by_cases e : a = k ∧ b = i
  · exact Or.inl (by rw [e.1, e.2]; exact h)
  · exact Or.inr (ud_ne _ _ (by omega))
theorem oth_md (d : Nat → Int → Int) : oth d (md d) := fun a b => by
  unfold md
  by_cases e : a = 2 ∧ 0 ≤ b ∧ b < 10
  · exact Or.inl (Or.inl ⟨by omega, by omega, by omega⟩)
  · exact Or.inr (by rw [if_neg e])
theorem oth_bed {d : Nat → Int → Int} {a : Int} (h0 : 0 ≤ a) (h1 : a ≤ 9) : oth d (bed d a) := by
  have t1 : tch 1 a := Or.inl ⟨by omega, by omega, by omega⟩
  have t2 : tch 2 a := Or.inl ⟨by omega, by omega, by omega⟩
  have t3 : tch 3 a := Or.inl ⟨by omega, by omega, by omega⟩
  have t9 : tch 99 9 := Or.inr ⟨rfl, by omega, by omega⟩
  unfold bed
  split
  · split
    · exact oth_tr (oth_ud t3) (oth_ud t9)
    · exact oth_tr (oth_tr (oth_ud t1) (oth_ud t2)) (oth_ud t9)
  · exact oth_ud t9
theorem oth_act {d : Nat → Int → Int} (hd : okd d) {k w v : Int} (hr : rsn d k w = 0) : oth d (actd d k w v) := by
  have a1 := okd_p hd
  have t8 : tch 99 8 := Or.inr ⟨rfl, by omega, by omega⟩
  have t9 : tch 99 9 := Or.inr ⟨rfl, by omega, by omega⟩
  have t10 : tch 99 10 := Or.inr ⟨rfl, by omega, by omega⟩
  have t11 : tch 99 11 := Or.inr ⟨rfl, by omega, by omega⟩
  unfold actd
  split
  · exact oth_tr (oth_ud t10) (oth_ud t9)
  · split
    · exact oth_tr (oth_ud t9) (oth_ud t8)
    · split
      · next e0 e1 e2 =>
        refine oth_bed a1.1 ?_
        unfold rsn at hr
        rw [if_neg e0, if_neg e1, if_pos e2] at hr
        split at hr <;> omega
      · split
        · exact oth_tr (oth_ud t9) (oth_ud t10)
        · exact oth_tr (oth_tr (oth_tr (oth_ud t8) (oth_ud t9)) (oth_ud t11)) (oth_md _)
theorem bk_kNow {m m' d d' : Nat → Int → Int} (ho : oth d d') (hm : ∀ i, m' 18 i = kNow m d 18 i) : bkD m' d' = d := by
  have e30 : kNow m d 18 30 = d 99 8 := by unfold kNow; simp (disch := omega) only [ud_same, ud_ne]
  have e31 : kNow m d 18 31 = d 99 9 := by unfold kNow; simp (disch := omega) only [ud_same, ud_ne]
  have e32 : kNow m d 18 32 = d 99 10 := by unfold kNow; simp (disch := omega) only [ud_same, ud_ne]
  have e33 : kNow m d 18 33 = d 99 11 := by unfold kNow; simp (disch := omega) only [ud_same, ud_ne]
  have el : ∀ i, i < 30 → kNow m d 18 i = kn 0 m d 18 i := fun i hi => by unfold kNow; simp (disch := omega) only [ud_ne]
  funext a b
  unfold bkD
  by_cases h99 : a = 99 ∧ 8 ≤ b ∧ b ≤ 11
  · obtain ⟨rfl, hb⟩ := h99
    rcases (show b = 8 ∨ b = 9 ∨ b = 10 ∨ b = 11 by omega) with e | e | e | e <;> subst e <;> simp (disch := omega) only [ud_same, ud_ne]
    · rw [hm, e30]
    · rw [hm, e31]
    · rw [hm, e32]
    · rw [hm, e33]
  · rw [ud_ne _ _ (by omega), ud_ne _ _ (by omega), ud_ne _ _ (by omega), ud_ne _ _ (by omega)]
    unfold bk
    by_cases e1 : a = 1 ∧ 0 ≤ b ∧ b < 10
    · rw [if_pos e1, hm, el _ (by omega)]
      unfold kn
      rw [if_pos ⟨rfl, e1.2⟩, e1.1]
    · rw [if_neg e1]
      by_cases e2 : a = 2 ∧ 0 ≤ b ∧ b < 10
      · rw [if_pos e2, hm, el _ (by omega)]
        unfold kn
        rw [if_neg (by omega), if_pos ⟨rfl, by omega, by omega⟩, e2.1, show 10 + b - 10 = b by omega]
      · rw [if_neg e2]
        by_cases e3 : a = 3 ∧ 0 ≤ b ∧ b < 10
        · rw [if_pos e3, hm, el _ (by omega)]
          unfold kn
          rw [if_neg (by omega), if_neg (by omega), if_pos ⟨rfl, by omega, by omega⟩, e3.1, show 20 + b - 20 = b by omega]
        · rw [if_neg e3]
          refine (ho a b).resolve_left ?_
          intro t
          unfold tch at t
          omega
/-- a year -/
def kdr (x : Int) : Int := if x < 3 then 1 else if x < 5 then 2 else if x = 5 then 3 else if x = 6 then 0 else 4
def yr (m : Int) : Nat → Int → Int → (Nat → Int → Int) → (Nat → Int → Int)
  | 0, _, _, d => d
  | N + 1, i, x, d => if m ≤ i then d
    else yr m N (i + 1) ((75 * x + 74) % 65537) (if rsn d (kdr ((75 * x + 74) % 65537 % 8)) (if kdr ((75 * x + 74) % 65537 % 8) = 1 then (75 * x + 74) % 65537 / 8 % 11 else (75 * x + 74) % 65537 / 8 % 10) = 0
      then actd d (kdr ((75 * x + 74) % 65537 % 8)) (if kdr ((75 * x + 74) % 65537 % 8) = 1 then (75 * x + 74) % 65537 / 8 % 11 else (75 * x + 74) % 65537 / 8 % 10) (10 * (1 + (75 * x + 74) % 65537 / 80 % 9)) else d)
theorem kdr_b (x : Int) : 0 ≤ kdr x ∧ kdr x ≤ 4 := by
  unfold kdr
  repeat' split
  all_goals omega
theorem x_kindDrawn {x : Int} (h0 : 0 ≤ x) (h1 : x < 8) : f_X1_kindDrawn (zI x) = some (zI (kdr x)) := by
  rcases (show x = 0 ∨ x = 1 ∨ x = 2 ∨ x = 3 ∨ x = 4 ∨ x = 5 ∨ x = 6 ∨ x = 7 by omega) with e | e | e | e | e | e | e | e <;> subst e <;> decide
theorem m_actBy {x : Int} (h0 : 0 ≤ x) (h1 : x < 8) : f_X7_actBy (zI x) = some (zI (kdr x)) := by
  rcases (show x = 0 ∨ x = 1 ∨ x = 2 ∨ x = 3 ∨ x = 4 ∨ x = 5 ∨ x = 6 ∨ x = 7 by omega) with e | e | e | e | e | e | e | e <;> subst e <;> decide
theorem rsn_b {d : Nat → Int → Int} (k w : Int) : 0 ≤ rsn d k w ∧ rsn d k w ≤ 4 := by
  unfold rsn
  repeat' split
  all_goals omega
/-- an act that a year draws -/
theorem yr_act {d} (hd : okd d) {y : Int} (y0 : 0 ≤ y) (y1 : y < 65537) (hr : rsn d (kdr (y % 8)) (if kdr (y % 8) = 1 then y / 8 % 11 else y / 8 % 10) = 0) :
    okd (actd d (kdr (y % 8)) (if kdr (y % 8) = 1 then y / 8 % 11 else y / 8 % 10) (10 * (1 + y / 80 % 9))) ∧ oth d (actd d (kdr (y % 8)) (if kdr (y % 8) = 1 then y / 8 % 11 else y / 8 % 10) (10 * (1 + y / 80 % 9))) := by
  have hk := kdr_b (y % 8)
  exact ⟨okd_act hd hk.1 hk.2 (fun z => by rw [if_pos z]; omega) (fun z => by rw [if_neg (by omega)]; omega) (fun z => by omega) hr, oth_act hd hr⟩
theorem yr_ok (m : Int) : ∀ (N : Nat) (i x : Int) (d : Nat → Int → Int), okd d → okd (yr m N i x d) ∧ oth d (yr m N i x d) := by
  intro N
  induction N with
  | zero => intro i x d hd; exact ⟨hd, oth_rf d⟩
  | succ N ih =>
    intro i x d hd
    unfold yr
    by_cases c : m ≤ i
    · rw [if_pos c]
      exact ⟨hd, oth_rf d⟩
    · rw [if_neg c]
      by_cases hr : rsn d (kdr ((75 * x + 74) % 65537 % 8)) (if kdr ((75 * x + 74) % 65537 % 8) = 1 then (75 * x + 74) % 65537 / 8 % 11 else (75 * x + 74) % 65537 / 8 % 10) = 0
      · rw [if_pos hr]
        obtain ⟨h1, h2⟩ := yr_act hd (y := (75 * x + 74) % 65537) (by omega) (by omega) hr
        obtain ⟨h3, h4⟩ := ih (i + 1) ((75 * x + 74) % 65537) _ h1
        exact ⟨h3, oth_tr h2 h4⟩
      · rw [if_neg hr]
        exact ih (i + 1) ((75 * x + 74) % 65537) d hd
theorem x_liveYear {d} (hd : okd d) {x m : Int} (x0 : 0 ≤ x) (x1 : x < 65537) (m0 : 1 ≤ m) (m1 : m ≤ 99) : f_X1_liveYear (eC d) (zI x) (zI m) = some (eC (yr m 20000 0 x d)) := by
  unfold f_X1_liveYear
  rw [z_0]
  refine lp_en (fun a : Int × Int × (Nat → Int → Int) => (zI a.1, zI a.2.1, eC a.2.2)) (fun N a => some (eC (yr m N a.1 a.2.1 a.2.2))) (fun N a => (0 ≤ a.1 ∧ a.1 ≤ m ∧ (m - a.1).toNat < N) ∧ (0 ≤ a.2.1 ∧ a.2.1 < 65537) ∧ okd a.2.2) (fun a => by omega) ?_ 20000 (0, x, d) ⟨by dsimp only; omega, ⟨x0, x1⟩, hd⟩
  rintro again N ⟨i, x, d⟩ ⟨⟨h0, h1, h2⟩, ⟨hx0, hx1⟩, hd⟩ ih
  dsimp only at h0 h1 h2 hx0 hx1 hd ih ⊢
  unfold b_X1_liveYear_5 yr
  dsimp only
  by_cases c : m ≤ i
  · simp (disch := omega) only [s_T, s_F, s_bd, s_cl, s_rd, s_wr, s_ite, z_ite, z_neg, z_add, z_sub, z_mul, z_le, z_lt, z_eq, eC_at, eC_7, eC_8, eC_9, eC_10, eC_11, eC_p7, eC_p8, eC_p9, eC_p10, eC_p11, eC_up, ud_same, ud_ne, if_pos, if_neg, z_0, z_1, z_2, z_3, z_4, z_5, z_6, z_7, z_8, z_9, z_10, z_11, z_12, z_13, z_14, z_15, z_16, z_17, z_18, z_19, z_20, z_21, z_22, z_23, z_24, z_25, z_26, z_27, z_28, z_29, z_30, z_31, z_32, z_33, z_34, z_35, z_36, z_37, z_38, z_39, z_40, z_41, z_42, z_43, z_44, z_45, z_46, z_47, z_48, z_49, z_50, z_51, z_52, z_53, z_54, z_55, z_56, z_57, z_58, z_59, z_60, z_61, z_62, z_63, z_64, z_65, z_66, z_67, z_68, z_69, z_70, z_71, z_72, z_73, z_74, z_75, z_76, z_77, z_78, z_79, z_80, z_81, z_82, z_83, z_84, z_85, z_86, z_87, z_88, z_89, z_90, z_91, z_92, z_93, z_94, z_95, z_96, z_97, z_98, z_99, z_100, z_101, z_102, z_103, z_104, z_105, z_106, z_107, z_108, z_109, z_110, z_111, z_112, z_113, z_114, z_115, z_116, z_117, z_118, z_119, z_120, z_121, z_122, z_123, z_124, z_125, z_126, z_127, z_199, z_200, z_360, z_410, z_1000, z_1023, z_1024, z_1219, z_9999, z_10240, z_65537]
  · rw [if_neg c]
    generalize hy : (75 * x + 74) % 65537 = y
    have y0 : 0 ≤ y := by omega
    have y1 : y < 65537 := by omega
    have hk := kdr_b (y % 8)
    have ey : (((75 : Int32) * zI x) + 74) - (((75 : Int32) * zI x) + 74) / 65537 * 65537 = zI y := by
      rw [z_75, z_74, z_mul, z_add, z_65537, z_rem (by omega) (by omega) (by omega) (by omega), hy]
    rw [ey, s_bd, z_8, z_rem y0 (by omega) (by omega) (by omega), x_kindDrawn (by omega) (by omega), s_cl, z_div y0 (by omega) (by omega) (by omega), z_11, z_10, z_rem (by omega) (by omega) (by omega) (by omega), z_rem (by omega) (by omega) (by omega) (by omega), s_bd, s_bd]
    have ew : (80 : Int32) = zI 80 := by decide
    have ev : zI 10 * ((1 : Int32) + (zI y / 80 - zI y / 80 / 9 * 9)) = zI (10 * (1 + y / 80 % 9)) := by
      rw [ew, z_9, z_1, z_div y0 (by omega) (by omega) (by omega), z_rem (by omega) (by omega) (by omega) (by omega), z_add, z_mul]
    rw [ev]
    have hrb := rsn_b (d := d) (kdr (y % 8)) (if kdr (y % 8) = 1 then y / 8 % 11 else y / 8 % 10)
    have ih' := ih (i + 1, y, if rsn d (kdr (y % 8)) (if kdr (y % 8) = 1 then y / 8 % 11 else y / 8 % 10) = 0 then actd d (kdr (y % 8)) (if kdr (y % 8) = 1 then y / 8 % 11 else y / 8 % 10) (10 * (1 + y / 80 % 9)) else d)
    dsimp only at ih'
    by_cases ck : kdr (y % 8) = 1
    · rw [ck] at hrb ih' ⊢
      simp only [if_true] at hrb ih' ⊢
      have hra := x_reasonAgainst d hd (k := 1) (w := y / 8 % 11) (by omega) (by omega) (fun _ => by omega)
      by_cases cr : rsn d 1 (y / 8 % 11) = 0
      · have hact := x_act d hd (k := 1) (w := y / 8 % 11) (v := 10 * (1 + y / 80 % 9)) (by omega) (by omega) (fun _ => by omega) (fun z => by omega)
        have hya := yr_act hd y0 y1 (by rw [ck]; exact cr)
        rw [ck] at hya
        simp only [if_true] at hya
        rw [if_pos cr] at ih' ⊢
        simp (disch := omega) only [hra, hact, cr, s_T, s_F, s_bd, s_cl, s_rd, s_wr, s_ite, z_ite, z_neg, z_add, z_sub, z_mul, z_le, z_lt, z_eq, eC_at, eC_7, eC_8, eC_9, eC_10, eC_11, eC_p7, eC_p8, eC_p9, eC_p10, eC_p11, eC_up, ud_same, ud_ne, if_pos, if_neg, z_0, z_1, z_2, z_3, z_4, z_5, z_6, z_7, z_8, z_9, z_10, z_11, z_12, z_13, z_14, z_15, z_16, z_17, z_18, z_19, z_20, z_21, z_22, z_23, z_24, z_25, z_26, z_27, z_28, z_29, z_30, z_31, z_32, z_33, z_34, z_35, z_36, z_37, z_38, z_39, z_40, z_41, z_42, z_43, z_44, z_45, z_46, z_47, z_48, z_49, z_50, z_51, z_52, z_53, z_54, z_55, z_56, z_57, z_58, z_59, z_60, z_61, z_62, z_63, z_64, z_65, z_66, z_67, z_68, z_69, z_70, z_71, z_72, z_73, z_74, z_75, z_76, z_77, z_78, z_79, z_80, z_81, z_82, z_83, z_84, z_85, z_86, z_87, z_88, z_89, z_90, z_91, z_92, z_93, z_94, z_95, z_96, z_97, z_98, z_99, z_100, z_101, z_102, z_103, z_104, z_105, z_106, z_107, z_108, z_109, z_110, z_111, z_112, z_113, z_114, z_115, z_116, z_117, z_118, z_119, z_120, z_121, z_122, z_123, z_124, z_125, z_126, z_127, z_199, z_200, z_360, z_410, z_1000, z_1023, z_1024, z_1219, z_9999, z_10240, z_65537]
        exact ih' ⟨by omega, by omega, hya.1⟩
      · rw [if_neg cr] at ih' ⊢
        simp (disch := omega) only [hra, s_T, s_F, s_bd, s_cl, s_rd, s_wr, s_ite, z_ite, z_neg, z_add, z_sub, z_mul, z_le, z_lt, z_eq, eC_at, eC_7, eC_8, eC_9, eC_10, eC_11, eC_p7, eC_p8, eC_p9, eC_p10, eC_p11, eC_up, ud_same, ud_ne, if_pos, if_neg, z_0, z_1, z_2, z_3, z_4, z_5, z_6, z_7, z_8, z_9, z_10, z_11, z_12, z_13, z_14, z_15, z_16, z_17, z_18, z_19, z_20, z_21, z_22, z_23, z_24, z_25, z_26, z_27, z_28, z_29, z_30, z_31, z_32, z_33, z_34, z_35, z_36, z_37, z_38, z_39, z_40, z_41, z_42, z_43, z_44, z_45, z_46, z_47, z_48, z_49, z_50, z_51, z_52, z_53, z_54, z_55, z_56, z_57, z_58, z_59, z_60, z_61, z_62, z_63, z_64, z_65, z_66, z_67, z_68, z_69, z_70, z_71, z_72, z_73, z_74, z_75, z_76, z_77, z_78, z_79, z_80, z_81, z_82, z_83, z_84, z_85, z_86, z_87, z_88, z_89, z_90, z_91, z_92, z_93, z_94, z_95, z_96, z_97, z_98, z_99, z_100, z_101, z_102, z_103, z_104, z_105, z_106, z_107, z_108, z_109, z_110, z_111, z_112, z_113, z_114, z_115, z_116, z_117, z_118, z_119, z_120, z_121, z_122, z_123, z_124, z_125, z_126, z_127, z_199, z_200, z_360, z_410, z_1000, z_1023, z_1024, z_1219, z_9999, z_10240, z_65537]
        exact ih' ⟨by omega, by omega, hd⟩
    · rw [if_neg ck] at hrb ih' ⊢
      have hra := x_reasonAgainst d hd (k := kdr (y % 8)) (w := y / 8 % 10) (by omega) (by omega) (fun z => absurd z ck)
      by_cases cr : rsn d (kdr (y % 8)) (y / 8 % 10) = 0
      · have hb : kdr (y % 8) = 2 → d 99 8 ≤ 9 := by
          intro e
          have a1 := okd_p hd
          rw [e] at cr
          unfold rsn at cr
          rw [if_neg (by decide), if_neg (by decide), if_pos rfl] at cr
          split at cr <;> omega
        have hact := x_act d hd (k := kdr (y % 8)) (w := y / 8 % 10) (v := 10 * (1 + y / 80 % 9)) (by omega) (by omega) (fun z => absurd z ck) hb
        have hya := yr_act hd y0 y1 (by rw [if_neg ck]; exact cr)
        rw [if_neg ck] at hya
        rw [if_pos cr] at ih' ⊢
        simp (disch := omega) only [hra, hact, cr, s_T, s_F, s_bd, s_cl, s_rd, s_wr, s_ite, z_ite, z_neg, z_add, z_sub, z_mul, z_le, z_lt, z_eq, eC_at, eC_7, eC_8, eC_9, eC_10, eC_11, eC_p7, eC_p8, eC_p9, eC_p10, eC_p11, eC_up, ud_same, ud_ne, if_pos, if_neg, z_0, z_1, z_2, z_3, z_4, z_5, z_6, z_7, z_8, z_9, z_10, z_11, z_12, z_13, z_14, z_15, z_16, z_17, z_18, z_19, z_20, z_21, z_22, z_23, z_24, z_25, z_26, z_27, z_28, z_29, z_30, z_31, z_32, z_33, z_34, z_35, z_36, z_37, z_38, z_39, z_40, z_41, z_42, z_43, z_44, z_45, z_46, z_47, z_48, z_49, z_50, z_51, z_52, z_53, z_54, z_55, z_56, z_57, z_58, z_59, z_60, z_61, z_62, z_63, z_64, z_65, z_66, z_67, z_68, z_69, z_70, z_71, z_72, z_73, z_74, z_75, z_76, z_77, z_78, z_79, z_80, z_81, z_82, z_83, z_84, z_85, z_86, z_87, z_88, z_89, z_90, z_91, z_92, z_93, z_94, z_95, z_96, z_97, z_98, z_99, z_100, z_101, z_102, z_103, z_104, z_105, z_106, z_107, z_108, z_109, z_110, z_111, z_112, z_113, z_114, z_115, z_116, z_117, z_118, z_119, z_120, z_121, z_122, z_123, z_124, z_125, z_126, z_127, z_199, z_200, z_360, z_410, z_1000, z_1023, z_1024, z_1219, z_9999, z_10240, z_65537]
        exact ih' ⟨by omega, by omega, hya.1⟩
      · rw [if_neg cr] at ih' ⊢
        simp (disch := omega) only [hra, s_T, s_F, s_bd, s_cl, s_rd, s_wr, s_ite, z_ite, z_neg, z_add, z_sub, z_mul, z_le, z_lt, z_eq, eC_at, eC_7, eC_8, eC_9, eC_10, eC_11, eC_p7, eC_p8, eC_p9, eC_p10, eC_p11, eC_up, ud_same, ud_ne, if_pos, if_neg, z_0, z_1, z_2, z_3, z_4, z_5, z_6, z_7, z_8, z_9, z_10, z_11, z_12, z_13, z_14, z_15, z_16, z_17, z_18, z_19, z_20, z_21, z_22, z_23, z_24, z_25, z_26, z_27, z_28, z_29, z_30, z_31, z_32, z_33, z_34, z_35, z_36, z_37, z_38, z_39, z_40, z_41, z_42, z_43, z_44, z_45, z_46, z_47, z_48, z_49, z_50, z_51, z_52, z_53, z_54, z_55, z_56, z_57, z_58, z_59, z_60, z_61, z_62, z_63, z_64, z_65, z_66, z_67, z_68, z_69, z_70, z_71, z_72, z_73, z_74, z_75, z_76, z_77, z_78, z_79, z_80, z_81, z_82, z_83, z_84, z_85, z_86, z_87, z_88, z_89, z_90, z_91, z_92, z_93, z_94, z_95, z_96, z_97, z_98, z_99, z_100, z_101, z_102, z_103, z_104, z_105, z_106, z_107, z_108, z_109, z_110, z_111, z_112, z_113, z_114, z_115, z_116, z_117, z_118, z_119, z_120, z_121, z_122, z_123, z_124, z_125, z_126, z_127, z_199, z_200, z_360, z_410, z_1000, z_1023, z_1024, z_1219, z_9999, z_10240, z_65537]
        exact ih' ⟨by omega, by omega, hd⟩

theorem m_lseed {x : Int} (x0 : 0 ≤ x) (x1 : x < 65537) : ((((75 : Int64) * (zI x).toInt64) + 74) - (((75 : Int64) * (zI x).toInt64) + 74) / 65537 * 65537).toInt32 = zI ((75 * x + 74) % 65537) := by
  rw [z_l (by omega) (by omega), zl_75, zl_74, zl_mul, zl_add, zl_65537, zl_rem (by omega) (by omega) (by omega) (by omega), zl_i (by omega) (by omega)]
theorem v_believing (σ : qS) (τ : qL) (x : Int32) : oK set10 (f_X7_believing σ τ x) := by
  unfold f_X7_believing
  rw [z_0]
  refine ok_for (τ := Int32) 10 set10 (fun again i t h0 h1 ht ih => ?_) 20000 0 _ (by omega) (by omega) set_0 (by omega)
  unfold b_X7_believing_4
  dsimp only
  rw [z_s1, z_10]
  refine ok_if (fun _ => ok_r ht) (fun c => ?_)
  have hi := t_nle h0 (by omega) (by omega) (by omega) c
  exact ok_rd h0 (by omega) (by omega) (fun _ => ok_if (fun _ => ok_bd (ih hi _ (set_or ht (set_1 h0 (by omega))))) (fun _ => ok_bd (ih hi _ (set_or ht set_0))))
theorem v_talesBelieved (σ : qS) (τ : qL) : oK tt (f_X7_talesBelieved σ τ) := by
  unfold f_X7_talesBelieved
  rw [z_0]
  refine ok_for (τ := Int32) 10 tt (fun again i t h0 h1 ht ih => ?_) 20000 0 _ (by omega) (by omega) trivial (by omega)
  unfold b_X7_talesBelieved_4
  dsimp only
  rw [z_s1, z_10]
  refine ok_if (fun _ => ok_r trivial) (fun c => ?_)
  have hi := t_nle h0 (by omega) (by omega) (by omega) c
  exact ok_cl (v_believing σ τ _) (fun _ _ => ok_if (fun _ => ok_bd (ih hi _ trivial)) (fun _ => ok_bd (ih hi _ trivial)))
theorem v_doubts (σ : qS) (τ : qL) : oK tt (f_X7_doubts σ τ) := by
  unfold f_X7_doubts
  rw [z_0]
  refine ok_for (τ := Int32) 10 tt (fun again i t h0 h1 ht ih => ?_) 20000 0 _ (by omega) (by omega) trivial (by omega)
  unfold b_X7_doubts_4
  dsimp only
  rw [z_s1, z_10]
  refine ok_if (fun _ => ok_r trivial) (fun c => ?_)
  have hi := t_nle h0 (by omega) (by omega) (by omega) c
  exact ok_rd h0 (by omega) (by omega) (fun _ => ok_bd (ih hi _ trivial))
/-- a year of the reference: all is put back -/
theorem v_year (m : Nat → Int → Int) {d} (hd : okd d) (τ : qL) (a b w : Int32) : oK (fun r => r.2 = eC (pw m d) ∨ r.2 = eC (pw (kNow m d) d)) (f_X7_year (eC (pw m d)) τ a b w) := by
  unfold f_X7_year
  have e9999 : (9999 : Int64) = zL 9999 := by decide
  rw [zl_0, zl_1, zl_2, zl_99, e9999, v_in a (by omega) (by omega) (by omega) (by omega), v_in b (by omega) (by omega) (by omega) (by omega), v_in w (by omega) (by omega) (by omega) (by omega), s_cl, s_cl, s_cl]
  by_cases ca : 0 ≤ a.toInt ∧ a.toInt ≤ 9999
  · obtain ⟨x, x0, x1, rfl⟩ : ∃ x, 0 ≤ x ∧ x ≤ 9999 ∧ a = zI x := ⟨a.toInt, ca.1, ca.2, (Int32.ofInt_toInt a).symm⟩
    refine ok_if (fun _ => ok_r (Or.inl rfl)) (fun _ => ?_)
    by_cases cb : 1 ≤ b.toInt ∧ b.toInt ≤ 99
    · obtain ⟨n, n0, n1, rfl⟩ : ∃ n, 1 ≤ n ∧ n ≤ 99 ∧ b = zI n := ⟨b.toInt, cb.1, cb.2, (Int32.ofInt_toInt b).symm⟩
      refine ok_if (fun _ => ok_r (Or.inl rfl)) (fun _ => ok_if (fun _ => ok_r (Or.inl rfl)) (fun _ => ?_))
      rw [m_keepNow, s_cl, z_0]
      have hbk : ∀ d' r, oth d d' → oK (fun r : Int32 × qS => r.2 = eC (pw m d) ∨ r.2 = eC (pw (kNow m d) d)) (q_cl (f_X7_back (eC (pw (kNow m d) d')) τ r) fun y => some (y.1, y.2)) := by
        intro d' r ho
        rw [m_back, s_cl, bk_kNow ho (fun _ => rfl)]
        exact ok_r (Or.inr rfl)
      have key : ∀ (N : Nat) (i x : Int) (d' : Nat → Int → Int), 0 ≤ i → i ≤ n → (n - i).toNat < N → 0 ≤ x → x < 65537 → okd d' → oth d d' →
          oK (fun r : Int32 × qS => r.2 = eC (pw m d) ∨ r.2 = eC (pw (kNow m d) d)) (q_lp (b_X7_year_49 τ (zI n)) (fun z12 => if w = zI 0 then (q_cl (f_X7_believing z12.2.2 τ (-6 : Int32)) fun r_27 =>
            q_cl (f_X7_ones r_27) fun r_29 => q_bd ((10 : Int32) - r_29) fun v5_31 => q_cl (f_X7_back z12.2.2 τ v5_31) fun y_36 => some (y_36.1, y_36.2))
            else if w = 1 then (q_cl (f_X7_talesBelieved z12.2.2 τ) fun r_21 => q_cl (f_X7_back z12.2.2 τ r_21) fun y_26 => some (y_26.1, y_26.2))
            else q_cl (f_X7_doubts z12.2.2 τ) fun r_15 => q_cl (f_X7_back z12.2.2 τ r_15) fun y_20 => some (y_20.1, y_20.2)) N (zI i, zI x, eC (pw (kNow m d) d'))) := by
        intro N
        induction N with
        | zero => intro i x d' _ _ h; omega
        | succ N ih =>
          intro i x d' h0 h1 hN hx0 hx1 hd' ho
          rw [lp_s]
          generalize q_lp (b_X7_year_49 τ (zI n)) (fun z12 => if w = zI 0 then (q_cl (f_X7_believing z12.2.2 τ (-6 : Int32)) fun r_27 =>
            q_cl (f_X7_ones r_27) fun r_29 => q_bd ((10 : Int32) - r_29) fun v5_31 => q_cl (f_X7_back z12.2.2 τ v5_31) fun y_36 => some (y_36.1, y_36.2))
            else if w = 1 then (q_cl (f_X7_talesBelieved z12.2.2 τ) fun r_21 => q_cl (f_X7_back z12.2.2 τ r_21) fun y_26 => some (y_26.1, y_26.2))
            else q_cl (f_X7_doubts z12.2.2 τ) fun r_15 => q_cl (f_X7_back z12.2.2 τ r_15) fun y_20 => some (y_20.1, y_20.2)) N = again at ih
          unfold b_X7_year_49
          dsimp only
          rw [z_s1]
          refine ok_if (fun _ => ok_if (fun _ => ok_cl (v_believing _ τ _) (fun _ hb => ok_cl (v_ones hb) (fun _ _ => ok_bd (hbk d' _ ho)))) (fun _ => ok_if (fun _ => ok_cl (v_talesBelieved _ τ) (fun _ _ => hbk d' _ ho)) (fun _ => ok_cl (v_doubts _ τ) (fun _ _ => hbk d' _ ho)))) (fun c => ?_)
          have hi := t_nle h0 (by omega) (by omega) (by omega) c
          rw [m_lseed hx0 hx1, s_bd]
          generalize hy : (75 * x + 74) % 65537 = y
          have y0 : 0 ≤ y := by omega
          have y1 : y < 65537 := by omega
          have hk := kdr_b (y % 8)
          have ew : (80 : Int32) = zI 80 := by decide
          rw [z_8, z_rem y0 (by omega) (by omega) (by omega), m_actBy (by omega) (by omega), s_cl, z_div y0 (by omega) (by omega) (by omega), z_11, z_10, z_rem (by omega) (by omega) (by omega) (by omega), z_rem (by omega) (by omega) (by omega) (by omega), ew, z_9, z_1, z_div y0 (by omega) (by omega) (by omega), z_rem (by omega) (by omega) (by omega) (by omega), z_add, z_mul]
          simp only [s_bd]
          refine ok_if (fun c1 => ?_) (fun c1 => ?_)
          · have ck : kdr (y % 8) = 1 := by rwa [z_eq (by omega) (by omega) (by omega) (by omega)] at c1
            rw [m_whyNot _ _ τ hd' hk.1 hk.2 (fun _ => by omega), s_cl]
            refine ok_if (fun c2 => ?_) (fun _ => ih (i + 1) y d' (by omega) (by omega) (by omega) y0 y1 hd' ho)
            have hrb := rsn_b (d := d') (kdr (y % 8)) (y / 8 % 11)
            have cr : rsn d' (kdr (y % 8)) (y / 8 % 11) = 0 := by rwa [z_0, z_eq (by omega) (by omega) (by omega) (by omega)] at c2
            have hya := yr_act hd' y0 y1 (by rw [if_pos ck]; exact cr)
            rw [if_pos ck] at hya
            rw [m_happen _ _ τ hd' hk.1 hk.2 (fun _ => by omega) (fun z => by omega), s_cl]
            exact ih (i + 1) y _ (by omega) (by omega) (by omega) y0 y1 hya.1 (oth_tr ho hya.2)
          · have ck : ¬ kdr (y % 8) = 1 := by rwa [z_eq (by omega) (by omega) (by omega) (by omega)] at c1
            rw [m_whyNot _ _ τ hd' hk.1 hk.2 (fun z => absurd z ck), s_cl]
            refine ok_if (fun c2 => ?_) (fun _ => ih (i + 1) y d' (by omega) (by omega) (by omega) y0 y1 hd' ho)
            have hrb := rsn_b (d := d') (kdr (y % 8)) (y / 8 % 10)
            have cr : rsn d' (kdr (y % 8)) (y / 8 % 10) = 0 := by rwa [z_0, z_eq (by omega) (by omega) (by omega) (by omega)] at c2
            have hya := yr_act hd' y0 y1 (by rw [if_neg ck]; exact cr)
            rw [if_neg ck] at hya
            have hb : kdr (y % 8) = 2 → d' 99 8 ≤ 9 := by
              intro e
              have a1 := okd_p hd'
              rw [e] at cr
              unfold rsn at cr
              rw [if_neg (by decide), if_neg (by decide), if_pos rfl] at cr
              split at cr <;> omega
            rw [m_happen _ _ τ hd' hk.1 hk.2 (fun z => absurd z ck) hb, s_cl]
            exact ih (i + 1) y _ (by omega) (by omega) (by omega) y0 y1 hya.1 (oth_tr ho hya.2)
      exact key 20000 0 x d (by omega) (by omega) (by omega) x0 (by omega) hd (oth_rf d)
    · rw [if_neg cb]
      exact ok_if (fun _ => ok_r (Or.inl rfl)) (fun c => absurd rfl c)
  · rw [if_neg ca]
    exact ok_if (fun _ => ok_r (Or.inl rfl)) (fun c => absurd rfl c)
end
section
/-! rows of houses, of the reference: longs by row and place -/
def eL (d : Nat → Int → Int) : qL := fun k j => zL (d k j)
theorem eL_at (d : Nat → Int → Int) (k : Nat) {i : Int} (h : 0 ≤ i) : eL d k i.toNat = zL (d k i) := by
  show zL (d k (i.toNat : Int)) = _
  rw [Int.toNat_of_nonneg h]
theorem eL_up (d : Nat → Int → Int) (k : Nat) {i : Int} (h : 0 ≤ i) (v : Int) : q_upL (eL d) k (vp_updL (eL d k) i.toNat (zL v)) = eL (ud d k i v) := by
  funext a b
  unfold q_upL eL ud vp_updL
  by_cases ha : a = k
  · subst ha
    rw [Nat.beq_refl, cond_true]
    by_cases hb : b = i.toNat
    · rw [if_pos hb, if_pos ⟨rfl, by omega⟩]
    · rw [if_neg hb, if_neg (fun z => hb (by omega))]
  · have e : Nat.beq a k = false := by
      cases z : Nat.beq a k with
      | false => rfl
      | true => exact absurd (Nat.eq_of_beq_eq_true z) ha
    rw [e, cond_false, if_neg (fun z => ha z.1)]
theorem eL_of (τ : qL) : ∃ d, τ = eL d := ⟨fun k i => (τ k i.toNat).toInt, by funext k j; show τ k j = zL ((τ k (j : Int).toNat).toInt); rw [Int.toNat_natCast]; exact (Int64.ofInt_toInt _).symm⟩
theorem c_nle {a b : Int} (h : b < a) (hb : 0 ≤ b) (ha : a < 100000) : ¬ zI a ≤ zI b := by rw [z_le (by omega) (by omega) (by omega) (by omega)]; omega
theorem c_le {a b : Int} (h : a ≤ b) (hb : 0 ≤ a) (ha : b < 100000) : zI a ≤ zI b := by rw [z_le (by omega) (by omega) (by omega) (by omega)]; omega
/-- the parts behind one house more -/
def nxt (t u : Int) (p : Int → Int) (j : Int) : Int :=
  if j % 2 = 0 ∧ 0 ≤ j ∧ j ≤ 18 then (10 - t) * p (j + 1) + (10 - u) * p j
  else if j % 2 = 1 ∧ 3 ≤ j ∧ j ≤ 21 then t * p (j - 2) + u * p (j - 3) else 0
def zr (k : Nat) (i : Int) (d : Nat → Int → Int) : Nat → Int → Int := fun a b => if a = k ∧ i ≤ b ∧ b < 22 then 0 else d a b
theorem zr_s {k : Nat} {i : Int} (h : i < 22) (d : Nat → Int → Int) : zr k (i + 1) (ud d k i 0) = zr k i d := by
  funext a b
  unfold zr ud
  by_cases e : a = k ∧ b = i
  · obtain ⟨rfl, rfl⟩ := e
    rw [if_neg (by omega), if_pos ⟨rfl, rfl⟩, if_pos ⟨rfl, by omega, h⟩]
  · rw [if_neg e]
    by_cases e2 : a = k ∧ i ≤ b ∧ b < 22
    · rw [if_pos e2, if_pos ⟨e2.1, by omega, e2.2.2⟩]
    · rw [if_neg e2, if_neg (by omega)]
theorem zr_e {k : Nat} {i : Int} (h : 22 ≤ i) (d : Nat → Int → Int) : zr k i d = d := by
  funext a b
  unfold zr
  rw [if_neg (by omega)]
def acc (t u m : Int) (d : Nat → Int → Int) : Nat → Int → Int := fun a b =>
  if a = 28 ∧ b % 2 = 0 ∧ 2 * m ≤ b ∧ b ≤ 18 then d 28 b + ((10 - t) * d 27 (b + 1) + (10 - u) * d 27 b)
  else if a = 28 ∧ b % 2 = 1 ∧ 2 * m + 3 ≤ b ∧ b ≤ 21 then d 28 b + (t * d 27 (b - 2) + u * d 27 (b - 3)) else d a b
theorem acc_s {t u m : Int} (h0 : 0 ≤ m) (h : m < 10) (d : Nat → Int → Int) :
    acc t u (m + 1) (ud (ud d 28 (2 * m + 3) (d 28 (2 * m + 3) + (t * d 27 (2 * m + 1) + u * d 27 (2 * m)))) 28 (2 * m) (d 28 (2 * m) + ((10 - t) * d 27 (2 * m + 1) + (10 - u) * d 27 (2 * m)))) = acc t u m d := by
  funext a b
  unfold acc
  have e27 : ∀ v w i, ud (ud d 28 (2 * m + 3) v) 28 (2 * m) w 27 i = d 27 i := fun v w i => by rw [ud_ne _ _ (by omega), ud_ne _ _ (by omega)]
  simp only [e27]
  by_cases e1 : a = 28 ∧ b = 2 * m
  · obtain ⟨rfl, rfl⟩ := e1
    rw [if_neg (by omega), if_neg (by omega), ud_same, if_pos ⟨rfl, by omega, by omega, by omega⟩]
  · by_cases e2 : a = 28 ∧ b = 2 * m + 3
    · obtain ⟨rfl, rfl⟩ := e2
      rw [if_neg (by omega), if_neg (by omega), ud_ne _ _ (by omega), ud_same, if_neg (by omega), if_pos ⟨rfl, by omega, by omega, by omega⟩, show 2 * m + 3 - 2 = 2 * m + 1 by omega, show 2 * m + 3 - 3 = 2 * m by omega]
    · have e3 : ∀ v w, ud (ud d 28 (2 * m + 3) v) 28 (2 * m) w a b = d a b := fun v w => by rw [ud_ne _ _ (by omega), ud_ne _ _ (by omega)]
      rw [e3]
      by_cases e4 : a = 28 ∧ b % 2 = 0 ∧ 2 * m ≤ b ∧ b ≤ 18
      · obtain rfl : a = 28 := e4.1
        rw [if_pos ⟨rfl, e4.2.1, by omega, e4.2.2.2⟩, if_pos e4, e3]
      · rw [if_neg (by omega), if_neg e4]
        by_cases e5 : a = 28 ∧ b % 2 = 1 ∧ 2 * m + 3 ≤ b ∧ b ≤ 21
        · obtain rfl : a = 28 := e5.1
          rw [if_pos ⟨rfl, e5.2.1, by omega, e5.2.2.2⟩, if_pos e5, e3]
        · rw [if_neg (by omega), if_neg e5]
theorem acc_e {t u m : Int} (h : 10 ≤ m) (d : Nat → Int → Int) : acc t u m d = d := by
  funext a b
  unfold acc
  rw [if_neg (by omega), if_neg (by omega)]
def cpy (i : Int) (d : Nat → Int → Int) : Nat → Int → Int := fun a b => if a = 27 ∧ i ≤ b ∧ b < 22 then d 28 b else d a b
theorem cpy_s {i : Int} (h : i < 22) (d : Nat → Int → Int) : cpy (i + 1) (ud d 27 i (d 28 i)) = cpy i d := by
  funext a b
  unfold cpy
  by_cases e : a = 27 ∧ b = i
  · obtain ⟨rfl, rfl⟩ := e
    rw [if_neg (by omega), ud_same, if_pos ⟨rfl, by omega, h⟩]
  · by_cases e2 : a = 27 ∧ i ≤ b ∧ b < 22
    · rw [if_pos e2, if_pos ⟨e2.1, by omega, e2.2.2⟩, ud_ne _ _ (by omega)]
    · rw [if_neg e2, if_neg (by omega), ud_ne _ _ (by omega)]
theorem cpy_e {i : Int} (h : 22 ≤ i) (d : Nat → Int → Int) : cpy i d = d := by
  funext a b
  unfold cpy
  rw [if_neg (by omega)]
theorem m_oneHouse (σ : qS) (d : Nat → Int → Int) {t u : Int} (t0 : 0 ≤ t) (t1 : t ≤ 10) (u0 : 0 ≤ u) (u1 : u ≤ 10) : f_X7_oneHouse σ (eL d) (zI t) (zI u) = some (eL (cpy 0 (acc t u 0 (zr 28 0 d)))) := by
  unfold f_X7_oneHouse
  rw [z_0]
  refine lp_en (fun a : Int × (Nat → Int → Int) => (zI a.1, eL a.2)) (fun _ a => some (eL (cpy 0 (acc t u 0 (zr 28 a.1 a.2))))) (fun N a => 0 ≤ a.1 ∧ a.1 ≤ 22 ∧ (22 - a.1).toNat < N) (fun a => by omega) ?_ 20000 (0, d) ⟨Int.le_refl 0, by show (0 : Int) ≤ 22; decide, by show ((22 : Int) - 0).toNat < 20000; decide⟩
  rintro again N ⟨i, d⟩ ⟨h0, h1, h2⟩ ih
  dsimp only at h0 h1 h2 ⊢
  unfold b_X7_oneHouse_2
  dsimp only
  rw [z_s1, z_22, zl_0]
  by_cases c : i < 22
  · rw [if_neg (c_nle (a := 22) (b := i) (by omega) (by omega) (by omega)), s_wrL (n := 22) h0 (by omega) (by omega), eL_up _ _ h0]
    have := ih (i + 1, ud d 28 i 0) ⟨by dsimp only; omega, by dsimp only; omega, by dsimp only; omega⟩
    dsimp only at this
    rw [zr_s c] at this
    exact this
  · rw [if_pos (c_le (a := 22) (b := i) (by omega) (by omega) (by omega)), zr_e (by omega)]
    refine lp_en (fun a : Int × (Nat → Int → Int) => (zI a.1, eL a.2)) (fun _ a => some (eL (cpy 0 (acc t u a.1 a.2)))) (fun N a => 0 ≤ a.1 ∧ a.1 ≤ 10 ∧ (10 - a.1).toNat < N) (fun a => by omega) ?_ 20000 (0, d) ⟨Int.le_refl 0, by show (0 : Int) ≤ 10; decide, by show ((10 : Int) - 0).toNat < 20000; decide⟩
    rintro again N ⟨m, d⟩ ⟨h0, h1, h2⟩ ih
    dsimp only at h0 h1 h2 ⊢
    unfold b_X7_oneHouse_23
    dsimp only
    rw [z_s1, z_10]
    by_cases c : m < 10
    · have e10 : (10 : Int64) = zL 10 := by decide
      have hr1 : ∀ {β : Type} (D : Nat → Int → Int) (k : Nat) {i : Int} (K : Int64 → Option β), 0 ≤ i → i < 22 → q_rdL (eL D) k 22 (zI i) K = K (zL (D k i)) := fun D k i K a b => by rw [s_rdL a (by omega) (by omega), eL_at _ _ a]
      have hw1 : ∀ {β : Type} (D : Nat → Int → Int) (k : Nat) {i v : Int} (K : qL → Option β), 0 ≤ i → i < 22 → q_wrL (eL D) k 22 (zI i) (zL v) K = K (eL (ud D k i v)) := fun D k i v K a b => by rw [s_wrL a (by omega) (by omega), eL_up _ _ a]
      rw [if_neg (c_nle (a := 10) (b := m) (by omega) (by omega) (by omega)), z_2, z_mul, z_1, z_3, z_add, z_add, z_l (by omega) (by omega), z_l (by omega) (by omega), e10, zl_sub, zl_sub]
      rw [hr1 _ _ _ (by omega) (by omega), hr1 _ _ _ (by omega) (by omega), zl_mul, zl_mul, zl_add, s_bd, hr1 _ _ _ (by omega) (by omega), hr1 _ _ _ (by omega) (by omega), zl_mul, zl_mul, zl_add, s_bd, hr1 _ _ _ (by omega) (by omega), zl_add, hw1 _ _ _ (by omega) (by omega), hr1 _ _ _ (by omega) (by omega), zl_add, hw1 _ _ _ (by omega) (by omega)]
      have := ih (m + 1, ud (ud d 28 (2 * m + 3) (d 28 (2 * m + 3) + (t * d 27 (2 * m + 1) + u * d 27 (2 * m)))) 28 (2 * m) (d 28 (2 * m) + ((10 - t) * d 27 (2 * m + 1) + (10 - u) * d 27 (2 * m)))) ⟨by dsimp only; omega, by dsimp only; omega, by dsimp only; omega⟩
      dsimp only at this
      rw [acc_s h0 c] at this
      rw [ud_ne _ _ (show 28 ≠ 28 ∨ 2 * m ≠ 2 * m + 3 by omega)]
      exact this
    · rw [if_pos (c_le (a := 10) (b := m) (by omega) (by omega) (by omega)), acc_e (by omega)]
      refine lp_en (fun a : Int × (Nat → Int → Int) => (zI a.1, eL a.2)) (fun _ a => some (eL (cpy a.1 a.2))) (fun N a => 0 ≤ a.1 ∧ a.1 ≤ 22 ∧ (22 - a.1).toNat < N) (fun a => by omega) ?_ 20000 (0, d) ⟨Int.le_refl 0, by show (0 : Int) ≤ 22; decide, by show ((22 : Int) - 0).toNat < 20000; decide⟩
      rintro again N ⟨i, d⟩ ⟨h0, h1, h2⟩ ih
      dsimp only at h0 h1 h2 ⊢
      unfold b_X7_oneHouse_127
      dsimp only
      rw [z_s1, z_22]
      by_cases c : i < 22
      · rw [if_neg (c_nle (a := 22) (b := i) (by omega) (by omega) (by omega)), s_rdL (n := 22) h0 (by omega) (by omega), eL_at _ _ h0, s_wrL (n := 22) h0 (by omega) (by omega), eL_up _ _ h0]
        have := ih (i + 1, ud d 27 i (d 28 i)) ⟨by dsimp only; omega, by dsimp only; omega, by dsimp only; omega⟩
        dsimp only at this
        rw [cpy_s c] at this
        exact this
      · rw [if_pos (c_le (a := 22) (b := i) (by omega) (by omega) (by omega)), cpy_e (by omega)]
/-- the parts' row is the next one -/
theorem one_27 (d : Nat → Int → Int) (t u : Int) {j : Int} (h0 : 0 ≤ j) (h1 : j < 22) : cpy 0 (acc t u 0 (zr 28 0 d)) 27 j = nxt t u (d 27) j := by
  unfold cpy
  rw [if_pos ⟨rfl, h0, h1⟩]
  unfold acc nxt
  have e27 : ∀ i, zr 28 0 d 27 i = d 27 i := fun i => by unfold zr; rw [if_neg (by omega)]
  have e28 : ∀ i, 0 ≤ i → i < 22 → zr 28 0 d 28 i = 0 := fun i a b => by unfold zr; rw [if_pos ⟨rfl, a, b⟩]
  simp only [e27]
  by_cases c1 : j % 2 = 0 ∧ 0 ≤ j ∧ j ≤ 18
  · rw [if_pos ⟨trivial, c1.1, by omega, c1.2.2⟩, if_pos c1, e28 _ h0 h1, Int.zero_add]
  · rw [if_neg (by omega), if_neg c1]
    by_cases c2 : j % 2 = 1 ∧ 3 ≤ j ∧ j ≤ 21
    · rw [if_pos ⟨trivial, c2.1, by omega, c2.2.2⟩, if_pos c2, e28 _ h0 h1, Int.zero_add]
    · rw [if_neg (by omega), if_neg c2, e28 _ h0 h1]

/-- the parts behind n houses -/
def prt (t u : Int) : Nat → Int → Int
  | 0, j => if j = 1 then 1 else 0
  | n + 1, j => nxt t u (prt t u n) j
theorem nxt_c {t u : Int} {p q : Int → Int} (h : ∀ j, 0 ≤ j → j < 22 → p j = q j) {j : Int} (h0 : 0 ≤ j) (h1 : j < 22) : nxt t u p j = nxt t u q j := by
  unfold nxt
  by_cases c1 : j % 2 = 0 ∧ 0 ≤ j ∧ j ≤ 18
  · rw [if_pos c1, if_pos c1, h _ (by omega) (by omega), h _ h0 h1]
  · rw [if_neg c1, if_neg c1]
    by_cases c2 : j % 2 = 1 ∧ 3 ≤ j ∧ j ≤ 21
    · rw [if_pos c2, if_pos c2, h _ (by omega) (by omega), h _ (by omega) (by omega)]
    · rw [if_neg c2, if_neg c2]
theorem mul_b {t p B : Int} (t0 : 0 ≤ t) (t1 : t ≤ 10) (p0 : 0 ≤ p) (p1 : p ≤ B) : 0 ≤ t * p ∧ t * p ≤ 10 * B :=
  ⟨Int.mul_nonneg t0 p0, Int.le_trans (Int.mul_le_mul_of_nonneg_right t1 p0) (Int.mul_le_mul_of_nonneg_left p1 (by omega))⟩
theorem prt_b {t u : Int} (t0 : 0 ≤ t) (t1 : t ≤ 10) (u0 : 0 ≤ u) (u1 : u ≤ 10) : ∀ (n : Nat) (j : Int), 0 ≤ prt t u n j ∧ prt t u n j ≤ 20 ^ n := by
  intro n
  induction n with
  | zero =>
    intro j
    unfold prt
    split <;> decide
  | succ n ih =>
    intro j
    have e : (20 : Int) ^ (n + 1) = 20 * 20 ^ n := by rw [Int.pow_succ, Int.mul_comm]
    have hp : (0 : Int) ≤ 20 ^ n := Int.le_of_lt (Int.pow_pos (by decide))
    rw [e]
    unfold prt nxt
    generalize (20 : Int) ^ n = B at ih hp
    split
    · have a := mul_b (t := 10 - t) (by omega) (by omega) (ih (j + 1)).1 (ih (j + 1)).2
      have b := mul_b (t := 10 - u) (by omega) (by omega) (ih j).1 (ih j).2
      omega
    · split
      · have a := mul_b t0 t1 (ih (j - 2)).1 (ih (j - 2)).2
        have b := mul_b u0 u1 (ih (j - 3)).1 (ih (j - 3)).2
        omega
      · omega
theorem m_lowest {p : Int} (p0 : 0 ≤ p) (p1 : p ≤ 1) (a b : Nat) (ha : a < 2 ^ 60) (hb0 : 0 < b) (hb : b < 2 ^ 60) : f_X7_lowest (zL a) (zL b) (zI p) = some (zL (if p = 0 then ((a / Nat.gcd a b : Nat) : Int) else ((b / Nat.gcd a b : Nat) : Int))) := by
  unfold f_X7_lowest
  refine lp_en (fun s : Nat × Nat => (zL s.1, zL s.2)) (fun _ _ => some (zL (if p = 0 then ((a / Nat.gcd a b : Nat) : Int) else ((b / Nat.gcd a b : Nat) : Int)))) (fun N s => s.1 < N ∧ s.1 < 2 ^ 60 ∧ s.2 < 2 ^ 60 ∧ Nat.gcd s.1 s.2 = Nat.gcd a b) (fun s => by omega) ?_ 1152921504606846976 (a, b) ⟨by dsimp only; omega, ha, hb, rfl⟩
  rintro again N ⟨x, y⟩ ⟨h0, h1, h2, h3⟩ ih
  dsimp only at h0 h1 h2 h3 ⊢
  have hg : 0 < Nat.gcd a b := Nat.gcd_pos_of_pos_right _ hb0
  unfold b_X7_lowest_6
  dsimp only
  rw [zl_0]
  by_cases c : x = 0
  · subst c
    rw [Nat.gcd_zero_left] at h3
    subst h3
    rw [if_pos (show lg_cmp (zL ((0 : Nat) : Int)) (zL 0) = 0 from (lg_cmp_eq _ _).mpr rfl)]
    by_cases cp : p = 0
    · rw [if_pos cp, if_pos (by rw [cp]; decide), s_nzL (by omega) (by omega) (by omega), zl_div (by omega) (by omega) (by omega) (by omega)]
      rfl
    · rw [if_neg cp, if_neg (by rw [z_0, z_eq (by omega) (by omega) (by omega) (by omega)]; exact cp), s_nzL (by omega) (by omega) (by omega), zl_div (by omega) (by omega) (by omega) (by omega)]
      rfl
  · rw [if_neg (fun z => c (by have := (zl_eq (by omega) (by omega) (by omega) (by omega)).mp ((lg_cmp_eq _ _).mp z); omega)), s_nzL (by omega) (by omega) (by omega), zl_rem (by omega) (by omega) (by omega) (by omega), s_bd]
    have e : ((y : Int) % (x : Int)) = ((y % x : Nat) : Int) := rfl
    rw [e]
    have hlt := Nat.mod_lt y (Nat.pos_of_ne_zero c)
    refine ih (y % x, x) ⟨by dsimp only; omega, by dsimp only; omega, by dsimp only; omega, ?_⟩
    dsimp only
    rw [← h3, ← Nat.gcd_rec]

def one (P : Int → Int) (k w i : Int) : Int := if w = 2 then i * (P (2 * i) + P (2 * i + 1)) else if w = 0 then (if i = k then P (2 * i) + P (2 * i + 1) else 0) else (if i < k then 0 else P (2 * i) + P (2 * i + 1))
def sumM (P : Int → Int) (n k w : Int) : Nat → Int → Int → Int
  | 0, _, s => s
  | N + 1, i, s => if n < i then s else sumM P n k w N (i + 1) (s + one P k w i)
theorem one_b {P : Int → Int} {B : Int} (hP : ∀ j, 0 ≤ P j ∧ P j ≤ B) {k w i : Int} (i0 : 0 ≤ i) (i1 : i ≤ 10) : 0 ≤ one P k w i ∧ one P k w i ≤ 20 * B := by
  have a := hP (2 * i)
  have b := hP (2 * i + 1)
  have h := mul_b i0 i1 (p := P (2 * i) + P (2 * i + 1)) (B := 2 * B) (by omega) (by omega)
  unfold one
  split
  · omega
  · split <;> split <;> omega
theorem sumM_b {P : Int → Int} {B : Int} (hP : ∀ j, 0 ≤ P j ∧ P j ≤ B) {n k w : Int} (n1 : n ≤ 10) : ∀ (N : Nat) (i s : Int), 0 ≤ i → 0 ≤ s → 0 ≤ sumM P n k w N i s ∧ sumM P n k w N i s ≤ s + 20 * B * N := by
  have hB : 0 ≤ B := by have := hP 0; omega
  intro N
  induction N with
  | zero => intro i s _ hs; exact ⟨hs, by show s ≤ _; simp⟩
  | succ N ih =>
    intro i s h0 hs
    unfold sumM
    have e : 20 * B * ((N + 1 : Nat) : Int) = 20 * B * (N : Int) + 20 * B := by
      rw [Int.natCast_add, Int.mul_add]; simp
    have hm : 0 ≤ 20 * B * (N : Int) := Int.mul_nonneg (by omega) (by omega)
    rw [e]
    by_cases c : n < i
    · rw [if_pos c]; omega
    · rw [if_neg c]
      have h1 := one_b hP (k := k) (w := w) (i := i) h0 (by omega)
      have := ih (i + 1) (s + one P k w i) (by omega) (by omega)
      omega
/-- the sum needs no more fuel than it has turns -/
theorem sumM_f {P : Int → Int} {n k w : Int} : ∀ (N M : Nat) (i s : Int), (n + 1 - i).toNat ≤ N → (n + 1 - i).toNat ≤ M → sumM P n k w N i s = sumM P n k w M i s := by
  intro N
  induction N with
  | zero =>
    intro M i s h1 h2
    cases M with
    | zero => rfl
    | succ M =>
      show s = sumM P n k w (M + 1) i s
      unfold sumM
      rw [if_pos (by omega)]
  | succ N ih =>
    intro M i s h1 h2
    cases M with
    | zero =>
      show sumM P n k w (N + 1) i s = s
      unfold sumM
      rw [if_pos (by omega)]
    | succ M =>
      unfold sumM
      by_cases c : n < i
      · rw [if_pos c, if_pos c]
      · rw [if_neg c, if_neg c]
        exact ih M (i + 1) _ (by omega) (by omega)
def rowS (n t u k w : Int) : Int := sumM (prt t u n.toNat) n k w 20 0 0
theorem rowS_b {n t u k w : Int} (n0 : 0 ≤ n) (n1 : n ≤ 10) (t0 : 0 ≤ t) (t1 : t ≤ 10) (u0 : 0 ≤ u) (u1 : u ≤ 10) : 0 ≤ rowS n t u k w ∧ rowS n t u k w < 2 ^ 60 := by
  have h := prt_b t0 t1 u0 u1 n.toNat
  have hp : (20 : Int) ^ n.toNat ≤ 20 ^ 10 := by
    have := Nat.pow_le_pow_right (n := 20) (by decide) (show n.toNat ≤ 10 by omega)
    exact_mod_cast this
  have hb := sumM_b (P := prt t u n.toNat) (B := 20 ^ 10) (fun j => ⟨(h j).1, Int.le_trans (h j).2 hp⟩) (n := n) (k := k) (w := w) n1 20 0 0 (by omega) (by omega)
  unfold rowS
  refine ⟨hb.1, ?_⟩
  have e : (0 : Int) + 20 * 20 ^ 10 * ((20 : Nat) : Int) < 2 ^ 60 := by decide
  omega
def rowA (n t u k w q : Int) : Int := if q = 0 then (((rowS n t u k w).toNat / Nat.gcd (rowS n t u k w).toNat (10 ^ n.toNat) : Nat) : Int) else (((10 ^ n.toNat : Nat) / Nat.gcd (rowS n t u k w).toNat (10 ^ n.toNat) : Nat) : Int)
theorem v_isRow (n t u k : Int32) : f_X7_isRow n t u k = some (zI (if 0 ≤ n.toInt ∧ n.toInt ≤ 10 ∧ 0 ≤ t.toInt ∧ t.toInt ≤ 10 ∧ 0 ≤ u.toInt ∧ u.toInt ≤ 10 ∧ 0 ≤ k.toInt ∧ k.toInt ≤ n.toInt then 1 else 0)) := by
  unfold f_X7_isRow
  rw [zl_0, zl_10, v_in n (by omega) (by omega) (by omega) (by omega), v_in t (by omega) (by omega) (by omega) (by omega), v_in u (by omega) (by omega) (by omega) (by omega), s_cl]
  by_cases c1 : 0 ≤ n.toInt ∧ n.toInt ≤ 10
  · rw [if_pos c1, if_neg (by decide), s_cl]
    by_cases c2 : 0 ≤ t.toInt ∧ t.toInt ≤ 10
    · rw [if_pos c2, if_neg (by decide), s_cl]
      by_cases c3 : 0 ≤ u.toInt ∧ u.toInt ≤ 10
      · obtain ⟨m, m0, m1, rfl⟩ : ∃ m, 0 ≤ m ∧ m ≤ 10 ∧ n = zI m := ⟨n.toInt, c1.1, c1.2, (Int32.ofInt_toInt n).symm⟩
        rw [z_toInt (by omega) (by omega)] at c1 ⊢
        rw [if_pos c3, if_neg (by decide), z_l (by omega) (by omega), v_in k (by omega) (by omega) (by omega) (by omega), s_cl]
        by_cases c4 : 0 ≤ k.toInt ∧ k.toInt ≤ m
        · rw [if_pos c4, if_neg (by decide), if_pos (by omega)]; rfl
        · rw [if_neg c4, if_pos (by decide), if_neg (by omega)]; rfl
      · rw [if_neg c3, if_pos (by decide), if_neg (by omega)]; rfl
    · rw [if_neg c2, if_pos (by decide), if_neg (by omega)]; rfl
  · rw [if_neg c1, if_pos (by decide), if_neg (by omega)]; rfl
end
section
/-- the reference's row of houses -/
theorem m_row_in (σ : qS) (τ : qL) {n t u k w q : Int} (n0 : 0 ≤ n) (n1 : n ≤ 10) (t0 : 0 ≤ t) (t1 : t ≤ 10) (u0 : 0 ≤ u) (u1 : u ≤ 10) (k0 : 0 ≤ k) (k1 : k ≤ n) (w0 : 0 ≤ w) (w1 : w ≤ 2) (q0 : 0 ≤ q) (q1 : q ≤ 1) :
    ∃ τ', f_X7_row σ τ (zI n) (zI t) (zI u) (zI k) (zI w) (zI q) = some (zL (rowA n t u k w q), τ') := by
  unfold f_X7_row
  rw [v_isRow, s_cl, zl_0, zl_1, zl_2, v_in (zI w) (by omega) (by omega) (by omega) (by omega), v_in (zI q) (by omega) (by omega) (by omega) (by omega), s_cl, s_cl]
  rw [z_toInt (a := n) (by omega) (by omega), z_toInt (a := t) (by omega) (by omega), z_toInt (a := u) (by omega) (by omega), z_toInt (a := k) (by omega) (by omega), z_toInt (a := w) (by omega) (by omega), z_toInt (a := q) (by omega) (by omega)]
  rw [if_pos (show 0 ≤ n ∧ n ≤ 10 ∧ 0 ≤ t ∧ t ≤ 10 ∧ 0 ≤ u ∧ u ≤ 10 ∧ 0 ≤ k ∧ k ≤ n by omega), if_pos (show 0 ≤ w ∧ w ≤ 2 by omega), if_pos (show 0 ≤ q ∧ q ≤ 1 by omega), if_neg (by decide), if_neg (by decide), if_neg (by decide)]
  obtain ⟨D, rfl⟩ := eL_of τ
  have hr1 : ∀ {β : Type} (D : Nat → Int → Int) (k : Nat) {i : Int} (K : Int64 → Option β), 0 ≤ i → i < 22 → q_rdL (eL D) k 22 (zI i) K = K (zL (D k i)) := fun D k i K a b => by rw [s_rdL (n := 22) a (by omega) (by omega), eL_at _ _ a]
  have hw1 : ∀ {β : Type} (D : Nat → Int → Int) (k : Nat) {i v : Int} (K : qL → Option β), 0 ≤ i → i < 22 → q_wrL (eL D) k 22 (zI i) (zL v) K = K (eL (ud D k i v)) := fun D k i v K a b => by rw [s_wrL (n := 22) a (by omega) (by omega), eL_up _ _ a]
  have hS := rowS_b (k := k) (w := w) n0 n1 t0 t1 u0 u1
  -- the sum
  have sum : ∀ (D : Nat → Int → Int), (∀ j, 0 ≤ j → j < 22 → D 27 j = prt t u n.toNat j) → ∀ (N : Nat) (i s : Int), 0 ≤ i → i ≤ n + 1 → (n + 1 - i).toNat < N → sumM (prt t u n.toNat) n k w N i s = rowS n t u k w →
      q_lp (b_X7_row_108 (zI n) (zI k) (zI w) (eL D)) (fun z15 => q_cl (f_X7_lowest z15.2 (zL (10 ^ n.toNat)) (zI q)) fun r_16 => some (r_16, eL D)) N (zI i, zL s) = some (zL (rowA n t u k w q), eL D) := by
    intro D hD N
    induction N with
    | zero => intro i s _ _ h; omega
    | succ N ih =>
      intro i s h0 h1 hN hs
      rw [lp_s]
      generalize q_lp (b_X7_row_108 (zI n) (zI k) (zI w) (eL D)) (fun z15 => q_cl (f_X7_lowest z15.2 (zL (10 ^ n.toNat)) (zI q)) fun r_16 => some (r_16, eL D)) N = again at ih
      unfold b_X7_row_108
      dsimp only
      rw [z_s1]
      unfold sumM at hs
      by_cases c : n < i
      · rw [if_pos c] at hs
        subst hs
        rw [if_pos (by rw [z_lt (by omega) (by omega) (by omega) (by omega)]; exact c)]
        have e1 : rowS n t u k w = ((rowS n t u k w).toNat : Int) := (Int.toNat_of_nonneg hS.1).symm
        have e2 : (10 : Int) ^ n.toNat = ((10 ^ n.toNat : Nat) : Int) := by simp
        have h10 : 10 ^ n.toNat < 2 ^ 60 := Nat.lt_of_le_of_lt (Nat.pow_le_pow_right (by decide) (show n.toNat ≤ 10 by omega)) (by decide)
        have hl := m_lowest q0 q1 (rowS n t u k w).toNat (10 ^ n.toNat) (by omega) (Nat.pow_pos (by decide)) h10
        rw [← e1, ← e2] at hl
        rw [hl, s_cl]
        rfl
      · rw [if_neg c] at hs
        rw [if_neg (by rw [z_lt (by omega) (by omega) (by omega) (by omega)]; exact c), z_2, z_mul, z_1, z_add, hr1 _ _ _ (by omega) (by omega), hr1 _ _ _ (by omega) (by omega), hD _ (by omega) (by omega), hD _ (by omega) (by omega), zl_add, s_bd, z_l (by omega) (by omega), zl_mul]
        have ih' := ih (i + 1) (s + one (prt t u n.toNat) k w i) (by omega) (by omega) (by omega) hs
        unfold one at ih'
        have z00 : s + 0 = s := by omega
        rcases (show w = 0 ∨ w = 1 ∨ w = 2 by omega) with e | e | e
        · subst e
          rw [if_neg (by decide), if_pos rfl] at ih'
          rw [if_pos (by decide)]
          by_cases c2 : i = k
          · rw [if_pos c2] at ih'
            rw [if_pos (by rw [c2]), if_neg (by decide), zl_add, s_bd]
            exact ih'
          · rw [if_neg c2, z00] at ih'
            rw [if_neg (by rw [z_eq (by omega) (by omega) (by omega) (by omega)]; exact c2), if_neg (by decide), s_bd, zl_0, zl_add, z00]
            exact ih'
        · subst e
          rw [if_neg (by decide), if_neg (by decide)] at ih'
          rw [if_neg (by decide)]
          by_cases c2 : i < k
          · rw [if_pos c2, z00] at ih'
            rw [if_pos (by rw [z_lt (by omega) (by omega) (by omega) (by omega)]; exact c2), if_neg (by decide), s_bd, zl_0, zl_add, z00]
            exact ih'
          · rw [if_neg c2] at ih'
            rw [if_neg (by rw [z_lt (by omega) (by omega) (by omega) (by omega)]; exact c2), if_neg (by decide), zl_add, s_bd]
            exact ih'
        · subst e
          rw [if_pos rfl] at ih'
          rw [if_neg (by decide)]
          by_cases c2 : i < k
          · rw [if_pos (by rw [z_lt (by omega) (by omega) (by omega) (by omega)]; exact c2), if_pos (by decide), zl_add, s_bd]
            exact ih'
          · rw [if_neg (by rw [z_lt (by omega) (by omega) (by omega) (by omega)]; exact c2), if_pos (by decide), zl_add, s_bd]
            exact ih'
  have fin : ∀ (D : Nat → Int → Int), (∀ j, 0 ≤ j → j < 22 → D 27 j = prt t u n.toNat j) →
      q_lp (b_X7_row_108 (zI n) (zI k) (zI w) (eL D)) (fun z15 => q_cl (f_X7_lowest z15.2 (zL (10 ^ n.toNat)) (zI q)) fun r_16 => some (r_16, eL D)) 20000 (zI 0, zL 0) = some (zL (rowA n t u k w q), eL D) :=
    fun D hD => sum D hD 20000 0 0 (by omega) (by omega) (by omega) (sumM_f _ _ _ _ (by omega) (by omega))
  -- the houses
  have hous : ∀ (N : Nat) (i : Int) (D : Nat → Int → Int), 0 ≤ i → i ≤ n → (n - i).toNat < N → (∀ j, 0 ≤ j → j < 22 → D 27 j = prt t u i.toNat j) →
      ∃ τ', q_lp (b_X7_row_76 σ (zI n) (zI t) (zI u)) (fun z14 => q_lp (b_X7_row_108 (zI n) (zI k) (zI w) z14.2.2) (fun z15 => q_cl (f_X7_lowest z15.2 z14.2.1 (zI q)) fun r_16 => some (r_16, z14.2.2)) 20000 ((0 : Int32), zL 0)) N (zI i, zL (10 ^ i.toNat), eL D) = some (zL (rowA n t u k w q), τ') := by
    intro N
    induction N with
    | zero => intro i D _ _ h; omega
    | succ N ih =>
      intro i D h0 h1 hN hD
      rw [lp_s]
      generalize hag : q_lp (b_X7_row_76 σ (zI n) (zI t) (zI u)) (fun z14 => q_lp (b_X7_row_108 (zI n) (zI k) (zI w) z14.2.2) (fun z15 => q_cl (f_X7_lowest z15.2 z14.2.1 (zI q)) fun r_16 => some (r_16, z14.2.2)) 20000 ((0 : Int32), zL 0)) N = again at ih
      unfold b_X7_row_76
      dsimp only
      rw [z_s1]
      by_cases c : i < n
      · rw [if_neg (c_nle c h0 (by omega)), m_oneHouse σ D t0 t1 u0 u1, s_cl]
        have e10 : (10 : Int64) = zL 10 := by decide
        have e : (10 : Int) ^ i.toNat * 10 = 10 ^ (i + 1).toNat := by rw [show (i + 1).toNat = i.toNat + 1 by omega, Int.pow_succ]
        rw [e10, zl_mul, s_bd, e]
        refine ih (i + 1) _ (by omega) (by omega) (by omega) (fun j j0 j1 => ?_)
        rw [one_27 D t u j0 j1, show (i + 1).toNat = i.toNat + 1 by omega]
        exact nxt_c hD j0 j1
      · obtain rfl : i = n := by omega
        rw [if_pos (c_le (Int.le_refl _) h0 (by omega)), z_0]
        exact ⟨_, fin D hD⟩
  -- from the start
  rw [z_0]
  have start : ∀ (N : Nat) (i : Int) (D : Nat → Int → Int), 0 ≤ i → i ≤ 22 → (22 - i).toNat < N → (∀ j, 0 ≤ j → j < i → D 27 j = 0) →
      ∃ τ', q_lp (b_X7_row_42) (fun z10 => q_wrL z10.2 27 22 (1 : Int32) (zL 1) fun ℓM_11 => q_lp (b_X7_row_76 σ (zI n) (zI t) (zI u)) (fun z14 => q_lp (b_X7_row_108 (zI n) (zI k) (zI w) z14.2.2) (fun z15 => q_cl (f_X7_lowest z15.2 z14.2.1 (zI q)) fun r_16 => some (r_16, z14.2.2)) 20000 (zI 0, zL 0)) 20000 (zI 0, zL 1, ℓM_11)) N (zI i, eL D) = some (zL (rowA n t u k w q), τ') := by
    intro N
    induction N with
    | zero => intro i D _ _ h; omega
    | succ N ih =>
      intro i D h0 h1 hN hD
      rw [lp_s]
      generalize hag : q_lp (b_X7_row_42) (fun z10 => q_wrL z10.2 27 22 (1 : Int32) (zL 1) fun ℓM_11 => q_lp (b_X7_row_76 σ (zI n) (zI t) (zI u)) (fun z14 => q_lp (b_X7_row_108 (zI n) (zI k) (zI w) z14.2.2) (fun z15 => q_cl (f_X7_lowest z15.2 z14.2.1 (zI q)) fun r_16 => some (r_16, z14.2.2)) 20000 (zI 0, zL 0)) 20000 (zI 0, zL 1, ℓM_11)) N = again at ih
      unfold b_X7_row_42
      dsimp only
      rw [z_s1, z_22, zl_0]
      by_cases c : i < 22
      · rw [if_neg (c_nle c h0 (by omega)), hw1 _ _ _ h0 c]
        refine ih (i + 1) _ (by omega) (by omega) (by omega) (fun j j0 j1 => ?_)
        by_cases e : j = i
        · rw [e, ud_same]
        · rw [ud_ne _ _ (by omega)]; exact hD j j0 (by omega)
      · rw [if_pos (c_le (a := 22) (b := i) (by omega) (by omega) (by omega)), z_1, hw1 _ _ _ (by omega) (by omega)]
        have := hous 20000 0 (ud D 27 1 1) (by omega) (by omega) (by omega) (fun j j0 j1 => by
          show _ = if j = 1 then 1 else 0
          by_cases e : j = 1
          · rw [e, ud_same, if_pos rfl]
          · rw [ud_ne _ _ (by omega), if_neg e]; exact hD j j0 (by omega))
        exact this
  exact start 20000 0 D (by omega) (by omega) (by omega) (fun j _ _ => by omega)
end
section
/-! the reference: what its questions leave alone; its refusal -/
def frN (m m' : Nat → Int → Int) : Prop := ∀ k i, (k = 14 ∨ k = 15 ∨ k = 16 ∨ k = 18 ∨ k = 24 ∨ k = 25 ∨ k = 26 ∨ k = 29 ∨ (k = 99 ∧ (i = 17 ∨ (19 ≤ i ∧ i ≤ 23)))) ∨ m' k i = m k i
theorem frN_rf (m : Nat → Int → Int) : frN m m := fun _ _ => Or.inr rfl
theorem frN_tr {m m' m'' : Nat → Int → Int} (h : frN m m') (h' : frN m' m'') : frN m m'' := fun k i => by
  rcases h' k i with z | z
  · exact Or.inl z
  · rcases h k i with y | y
    · exact Or.inl y
    · exact Or.inr (z.trans y)
theorem frN_scr {m m' : Nat → Int → Int} (h : scr m m') : frN m m' := fun k i => by
  rcases h k i with z | z
  · exact Or.inl (by omega)
  · exact Or.inr z
theorem frN_mko {m m' : Nat → Int → Int} (h : mko m m') : frN m m' := fun k i => by
  rcases h k i with z | z
  · exact Or.inl (by omega)
  · exact Or.inr z
theorem frN_frm {t : Int} {m m' : Nat → Int → Int} (h : frm t m m') : frN m m' := fun k i => by
  by_cases c : k = 14 ∨ k = 15 ∨ k = 16 ∨ (k = 99 ∧ i = 17)
  · exact Or.inl (by omega)
  · exact Or.inr (h k i (by omega) (by omega))
theorem frN_ud {m : Nat → Int → Int} {k : Nat} {i v : Int} (h : k = 18 ∨ (k = 99 ∧ (i = 17 ∨ (19 ≤ i ∧ i ≤ 23)))) : frN m (ud m k i v) := fun a b => by
  by_cases e : a = k ∧ b = i
  · exact Or.inl (by omega)
  · exact Or.inr (ud_ne _ _ (by omega))
theorem frN_kNow (m d : Nat → Int → Int) : frN m (kNow m d) := by
  have h : frN m (kn 0 m d) := fun a b => by
    by_cases e : a = 18
    · exact Or.inl (by omega)
    · refine Or.inr ?_
      unfold kn
      rw [if_neg (by omega), if_neg (by omega), if_neg (by omega)]
  unfold kNow
  exact frN_tr (frN_tr (frN_tr (frN_tr h (frN_ud (Or.inl rfl))) (frN_ud (Or.inl rfl))) (frN_ud (Or.inl rfl))) (frN_ud (Or.inl rfl))
theorem frN_at {m m' : Nat → Int → Int} (h : frN m m') (k : Nat) (i : Int) (hk : ¬ (k = 14 ∨ k = 15 ∨ k = 16 ∨ k = 18 ∨ k = 24 ∨ k = 25 ∨ k = 26 ∨ k = 29 ∨ (k = 99 ∧ (i = 17 ∨ (19 ≤ i ∧ i ≤ 23))))) : m' k i = m k i := (h k i).resolve_left hk
theorem mpad_N {m m' e : Nat → Int → Int} (h : mpad m e) (hf : frN m m') : mpad m' e :=
  ⟨fun i => by rw [frN_at hf 12 i (by omega)]; exact h.1 i, by rw [frN_at hf 99 13 (by omega)]; exact h.2⟩
/-- marks at the start of nights -/
def mst (n : Nat → Int → Int) : Prop := n 99 0 = 0 ∧ n 99 1 = 0 ∧ n 99 2 = -6 ∧ n 99 3 = -6 ∧ n 99 4 = -6 ∧ n 99 5 = -6
/-- what a run is -/
theorem run_ok {e : Nat → Int → Int} (he : okp e) : ∀ (N : Nat) (a : Int) (n d : Nat → Int → Int), 0 ≤ a → okd d → fl e N a = -6 → n 99 2 = -6 → 0 ≤ n 99 0 ∧ n 99 0 ≤ a →
    okd (run e N a n d).2.2 ∧ oth d (run e N a n d).2.2 ∧ (((run e N a n d).1 = 0 ∧ (run e N a n d).2.1 99 2 = -6) ∨ ((run e N a n d).1 = -3 ∧ 0 ≤ (run e N a n d).2.1 99 2 ∧ (run e N a n d).2.1 99 2 ≤ 60)) := by
  intro N
  induction N with
  | zero => intro a n d _ hd _ h2 _; exact ⟨hd, oth_rf d, Or.inl ⟨rfl, h2⟩⟩
  | succ N ih =>
    intro a n d h0 hd hf h2 hn0
    unfold run
    by_cases c : e 99 1 ≤ a
    · rw [if_pos c]
      exact ⟨hd, oth_rf d, Or.inl ⟨rfl, h2⟩⟩
    · rw [if_neg c]
      obtain ⟨hk, hw1, hw0, hn⟩ := fl_act hf (by omega) h0
      by_cases cr : rsn d (kdc (sg e a)) (wht e a) = 0
      · rw [if_pos cr]
        have hd' := okd_act hd hk.1 hk.2 hw1 (fun z => (hw0 z).1) (v := 10 * (sg e (a + 2) - 48)) (fun z => by have := (hw0 z).2; omega) cr
        have ho := oth_act hd (v := 10 * (sg e (a + 2) - 48)) cr
        generalize actd d (kdc (sg e a)) (wht e a) (10 * (sg e (a + 2) - 48)) = d' at *
        have hn' : stN n d d' (kdc (sg e a)) 99 2 = -6 ∧ 0 ≤ stN n d d' (kdc (sg e a)) 99 0 ∧ stN n d d' (kdc (sg e a)) 99 0 ≤ a + 1 := by
          unfold stN
          try dsimp only
          split <;> split <;> simp (disch := omega) only [ud_same, ud_ne] <;> omega
        obtain ⟨q1, q2, q3⟩ := ih (if kdc (sg e a) = 0 then a + 3 else a + 1) (stN n d d' (kdc (sg e a))) d' (by split <;> omega) hd' hn hn'.1 ⟨hn'.2.1, by split <;> omega⟩
        exact ⟨q1, oth_tr ho q2, q3⟩
      · rw [if_neg cr]
        refine ⟨hd, oth_rf d, Or.inr ⟨rfl, ?_⟩⟩
        have := he.2
        try dsimp only
        simp (disch := omega) only [ud_same, ud_ne]
        omega
theorem run_acts {e : Nat → Int → Int} : ∀ (N : Nat) (a t : Int) (n d m : Nat → Int → Int), rcd e N a t m → n 99 0 = t → (run e N a n d).1 = 0 → (run e N a n d).2.1 99 0 = m 99 17 := by
  intro N
  induction N with
  | zero => intro a t n d m h hn _; unfold rcd at h; show n 99 0 = _; omega
  | succ N ih =>
    intro a t n d m h hn hr
    unfold run at hr ⊢
    unfold rcd at h
    by_cases c : e 99 1 ≤ a
    · rw [if_pos c] at hr h ⊢
      show n 99 0 = _
      omega
    · rw [if_neg c] at hr h ⊢
      by_cases cr : rsn d (kdc (sg e a)) (wht e a) = 0
      · rw [if_pos cr] at hr ⊢
        generalize actd d (kdc (sg e a)) (wht e a) (10 * (sg e (a + 2) - 48)) = d' at *
        refine ih _ (t + 1) _ d' m h.2.2.2 ?_ hr
        unfold stN
        try dsimp only
        split <;> split <;> simp (disch := omega) only [ud_same, ud_ne] <;> omega
      · rw [if_neg cr] at hr
        dsimp only at hr
        omega
theorem rcd_ge {e : Nat → Int → Int} : ∀ (N : Nat) (a t : Int) (m : Nat → Int → Int), rcd e N a t m → t ≤ a → t ≤ e 99 1 → m 99 17 ≤ e 99 1 := by
  intro N
  induction N with
  | zero => intro a t m h _ h2; unfold rcd at h; omega
  | succ N ih =>
    intro a t m h h1 h2
    unfold rcd at h
    by_cases c : e 99 1 ≤ a
    · rw [if_pos c] at h; omega
    · rw [if_neg c] at h
      exact ih _ _ _ h.2.2.2 (by split <;> omega) (by omega)
/-- nights: the class's answer, marks, draft -/
def pss (e n d : Nat → Int → Int) : Int × (Nat → Int → Int) × (Nat → Int → Int) := if fl e 20000 0 = -6 then run e 20000 0 n d else (-5, n, d)
theorem m_refusal {e : Nat → Int → Int} (he : okp e) {m d n : Nat → Int → Int} (τ : qL) (hd : okd d) (hp : mpad m e) (hn : mst n) :
    ∃ m', f_X7_refusal (eC (pw m d)) τ = some (zI (if (pss e n d).1 = 0 then -6 else (pss e n d).1), eC (pw m' (pss e n d).2.2)) ∧ frN m m' ∧ (∀ i, m' 18 i = kNow m d 18 i) ∧ (¬ (pss e n d).1 = -5 → mrks m' (pss e n d).2.1) ∧ ((pss e n d).1 = 0 → m' 99 17 = (pss e n d).2.1 99 0) := by
  have hlen := he.2
  have hp1 := mpad_N hp (frN_kNow m d)
  have hfa := m_fault he (kNow m d) d τ hp1
  obtain ⟨p1, p2⟩ := prM_fl he 20000 0 (ud (kNow m d) 99 17 0) 20000 (by omega) (by omega) (by omega)
  have p3 := prM_frm e 20000 0 0 (ud (kNow m d) 99 17 0) (by omega) (by omega)
  have hb := fl_b he 20000 0 (by omega)
  rw [ud_same] at p2 p3
  unfold f_X7_refusal pss
  rw [m_keepNow, s_cl, hfa, s_cl, p1]
  generalize hM : (prM e 20000 0 0 (ud (kNow m d) 99 17 0)).2 = m1 at *
  have f1 : frN m m1 := frN_tr (frN_kNow m d) (frN_tr (frN_ud (Or.inr ⟨rfl, Or.inl rfl⟩)) (frN_frm p3.1))
  have e18 : ∀ i, m1 18 i = kNow m d 18 i := fun i => by rw [p3.1 18 i (by omega) (by omega), ud_ne _ _ (by omega)]
  by_cases c : fl e 20000 0 = -6
  · rw [if_pos c, c]
    have hrc := p2 c
    dsimp only
    rw [if_pos (by decide)]
    -- the marks are laid
    have e1 : q_pt (q_pt (q_pt (q_pt (q_pt (eC (pw m1 d)) 19 (-6 : Int32)) 20 (-6 : Int32)) 21 (0 : Int32)) 22 (-6 : Int32)) 23 (-6 : Int32) = eC (pw (ud (ud (ud (ud (ud m1 99 19 (-6)) 99 20 (-6)) 99 21 0) 99 22 (-6)) 99 23 (-6)) d) := by simp (disch := omega) only [pw_0, up_0, pw_1, up_1, pw_2, up_2, pw_3, up_3, pw_4, up_4, pw_9, up_9, pw_10, up_10, pwi_5, upi_5, pwi_6, upi_6, pwi_7, upi_7, pwi_8, upi_8, pwi_11, upi_11, pw_12, up_12, pw_14, up_14, pw_15, up_15, pw_16, up_16, pw_18, up_18, pw_24, up_24, pw_25, up_25, pw_26, up_26, pw_29, up_29, pw_30, up_30, pw_31, up_31, pwi_13, upi_13, pwi_17, upi_17, pwi_19, upi_19, pwi_20, upi_20, pwi_21, upi_21, pwi_22, upi_22, pwi_23, upi_23, pwi_32, upi_32, pwi_33, upi_33, eC_5, eC_6, eC_13, eC_17, eC_19, eC_20, eC_21, eC_22, eC_23, eC_32, eC_33, eC_p5, eC_p6, eC_p13, eC_p17, eC_p19, eC_p20, eC_p21, eC_p22, eC_p23, eC_p32, eC_p33, s_T, s_F, s_bd, s_cl, s_rd, s_wr, s_ite, z_ite, z_neg, z_add, z_sub, z_mul, z_le, z_lt, z_eq, eC_at, eC_7, eC_8, eC_9, eC_10, eC_11, eC_p7, eC_p8, eC_p9, eC_p10, eC_p11, eC_up, ud_same, ud_ne, if_pos, if_neg, z_0, z_1, z_2, z_3, z_4, z_5, z_6, z_7, z_8, z_9, z_10, z_11, z_12, z_13, z_14, z_15, z_16, z_17, z_18, z_19, z_20, z_21, z_22, z_23, z_24, z_25, z_26, z_27, z_28, z_29, z_30, z_31, z_32, z_33, z_34, z_35, z_36, z_37, z_38, z_39, z_40, z_41, z_42, z_43, z_44, z_45, z_46, z_47, z_48, z_49, z_50, z_51, z_52, z_53, z_54, z_55, z_56, z_57, z_58, z_59, z_60, z_61, z_62, z_63, z_64, z_65, z_66, z_67, z_68, z_69, z_70, z_71, z_72, z_73, z_74, z_75, z_76, z_77, z_78, z_79, z_80, z_81, z_82, z_83, z_84, z_85, z_86, z_87, z_88, z_89, z_90, z_91, z_92, z_93, z_94, z_95, z_96, z_97, z_98, z_99, z_100, z_101, z_102, z_103, z_104, z_105, z_106, z_107, z_108, z_109, z_110, z_111, z_112, z_113, z_114, z_115, z_116, z_117, z_118, z_119, z_120, z_121, z_122, z_123, z_124, z_125, z_126, z_127, z_199, z_200, z_360, z_410, z_1000, z_1023, z_1024, z_1219, z_9999, z_10240, z_65537]
    have k2 : mko m1 (ud (ud (ud (ud (ud m1 99 19 (-6)) 99 20 (-6)) 99 21 0) 99 22 (-6)) 99 23 (-6)) := mko_tr (mko_tr (mko_tr (mko_tr (mko_ud (by decide)) (mko_ud (by decide))) (mko_ud (by decide))) (mko_ud (by decide))) (mko_ud (by decide))
    have k3 : mrks (ud (ud (ud (ud (ud m1 99 19 (-6)) 99 20 (-6)) 99 21 0) 99 22 (-6)) 99 23 (-6)) n := by
      obtain ⟨n0, n1, n2, n3, n4, n5⟩ := hn
      unfold mrks
      simp (disch := omega) only [ud_same, ud_ne]
      omega
    generalize ud (ud (ud (ud (ud m1 99 19 (-6)) 99 20 (-6)) 99 21 0) 99 22 (-6)) 99 23 (-6) = m2 at *
    have hrc2 := rcd_frm (e := e) 20000 0 0 m1 m2 (fun i => mko_at k2 _ _ (by omega)) (fun i => mko_at k2 _ _ (by omega)) (fun i => mko_at k2 _ _ (by omega)) (mko_at k2 _ _ (by omega)) hrc
    have h17 : m2 99 17 ≤ 60 := by
      have := rcd_ge 20000 0 0 m2 hrc2 (by omega) (by omega)
      omega
    obtain ⟨n0, n1, n2, n3, n4, n5⟩ := id hn
    obtain ⟨m', g1, g2, g3⟩ := m_goNights he τ 20000 0 0 n d m2 ⟨by omega, by omega, by omega⟩ hd c hrc2 ⟨n0, by omega, by omega⟩ ⟨by omega, by omega, by omega⟩ (Or.inl n4) ⟨n2, n3⟩ k3 h17
    have hgo : f_X7_goNights (eC (pw m1 d)) τ = some (eC (pw m' (run e 20000 0 n d).2.2)) := by
      unfold f_X7_goNights
      simp only [s_bd]
      rw [e1, z_0]
      exact g1
    have hru := run_ok he 20000 0 n d (by omega) hd c n2 ⟨by omega, by omega⟩
    rw [hgo, s_cl]
    have e19 : m' 99 19 = (run e 20000 0 n d).2.1 99 2 := g2.1
    refine ⟨m', ?_, frN_tr f1 (frN_tr (frN_mko k2) (frN_mko g3)), fun i => ?_, fun _ => g2, fun hr => ?_⟩
    · rw [eC_19, pwi_19, e19]
      rcases hru.2.2 with ⟨r1, r2⟩ | ⟨r1, r2⟩
      · rw [r2, if_pos (by decide), if_pos r1]; rfl
      · have hh : ¬ zI ((run e 20000 0 n d).2.1 99 2) < 0 := by
          rw [z_0, z_lt (by omega) (by omega) (by omega) (by omega)]; omega
        rw [if_neg hh, r1]; rfl
    · rw [mko_at g3 _ _ (by omega), mko_at k2 _ _ (by omega)]; exact e18 i
    · rw [mko_at g3 _ _ (by omega)]
      exact (run_acts 20000 0 0 n d m2 hrc2 n0 hr).symm
  · rw [if_neg c]
    refine ⟨m1, ?_, f1, e18, fun h => absurd rfl h, fun h => by dsimp only at h; omega⟩
    dsimp only
    rw [if_neg (by rw [z_0, z_lt (by omega) (by omega) (by omega) (by omega)]; omega), if_neg (by decide)]
    rfl
end
section
/-! the calls, both sides at once: 1 the close -/
/-- the places that are in use -/
def inR (k : Nat) (i : Int) : Prop := (k = 0 ∧ 0 ≤ i ∧ i < 121) ∨ ((k = 1 ∨ k = 2 ∨ k = 3 ∨ k = 4) ∧ 0 ≤ i ∧ i < 10) ∨ ((k = 5 ∨ k = 6) ∧ 0 ≤ i ∧ i < 8) ∨ (k = 99 ∧ 7 ≤ i ∧ i ≤ 11)
def rng (d d' : Nat → Int → Int) : Prop := ∀ k i, inR k i ∨ d' k i = d k i
theorem rng_rf (d : Nat → Int → Int) : rng d d := fun _ _ => Or.inr rfl
theorem rng_tr {d d' d'' : Nat → Int → Int} (h : rng d d') (h' : rng d' d'') : rng d d'' := fun k i => by
  rcases h' k i with z | z
  · exact Or.inl z
  · rcases h k i with y | y
    · exact Or.inl y
    · exact Or.inr (z.trans y)
theorem rng_ud {d : Nat → Int → Int} {k : Nat} {i v : Int} (h : inR k i) : rng d (ud d k i v) := fun a b => by
  by_cases e : a = k ∧ b = i
  · exact Or.inl (by rw [e.1, e.2]; exact h)
  · exact Or.inr (ud_ne _ _ (by omega))
theorem rng_oth {d d' : Nat → Int → Int} (h : oth d d') : rng d d' := fun a b => by
  rcases h a b with z | z
  · refine Or.inl ?_
    unfold tch at z
    unfold inR
    omega
  · exact Or.inr z
theorem c_road (m d : Nat → Int → Int) (τ : qL) (hd : okd d) (a b v : Int32) : ∃ r d', f_X6_road (eC d) a b v = some (r, eC d') ∧ f_X7_road (eC (pw m d)) τ a b v = some (r, eC (pw m d')) ∧ okd d' ∧ rng d d' := by
  obtain ⟨a, a0, a1, rfl⟩ := z_of a
  obtain ⟨b, b0, b1, rfl⟩ := z_of b
  obtain ⟨v, v0, v1, rfl⟩ := z_of v
  by_cases ca : 0 ≤ a ∧ a ≤ 10
  · by_cases cb : 0 ≤ b ∧ b ≤ 10
    · by_cases ab : a = b
      · exact ⟨zI (-1), d, by unfold f_X6_road; simp (disch := omega) only [x_isPlace, x_isHouse, x_isTale, x_within, x_longBetween, x_layRoad, x_doubtOf, x_furnish, x_beliefOf, x_convince, x_fadesInto, x_letFade, s_T, s_F, s_bd, s_cl, s_rd, s_wr, s_ite, z_ite, z_neg, z_add, z_sub, z_mul, z_le, z_lt, z_eq, eC_at, eC_7, eC_8, eC_9, eC_10, eC_11, eC_p7, eC_p8, eC_p9, eC_p10, eC_p11, eC_up, ud_same, ud_ne, if_pos, if_neg, z_0, z_1, z_2, z_3, z_4, z_5, z_6, z_7, z_8, z_9, z_10, z_11, z_12, z_13, z_14, z_15, z_16, z_17, z_18, z_19, z_20, z_21, z_22, z_23, z_24, z_25, z_26, z_27, z_28, z_29, z_30, z_31, z_32, z_33, z_34, z_35, z_36, z_37, z_38, z_39, z_40, z_41, z_42, z_43, z_44, z_45, z_46, z_47, z_48, z_49, z_50, z_51, z_52, z_53, z_54, z_55, z_56, z_57, z_58, z_59, z_60, z_61, z_62, z_63, z_64, z_65, z_66, z_67, z_68, z_69, z_70, z_71, z_72, z_73, z_74, z_75, z_76, z_77, z_78, z_79, z_80, z_81, z_82, z_83, z_84, z_85, z_86, z_87, z_88, z_89, z_90, z_91, z_92, z_93, z_94, z_95, z_96, z_97, z_98, z_99, z_100, z_101, z_102, z_103, z_104, z_105, z_106, z_107, z_108, z_109, z_110, z_111, z_112, z_113, z_114, z_115, z_116, z_117, z_118, z_119, z_120, z_121, z_122, z_123, z_124, z_125, z_126, z_127, z_199, z_200, z_360, z_410, z_1000, z_1023, z_1024, z_1219, z_9999, z_10240, z_65537], by unfold f_X7_road; simp (disch := omega) only [m_isPlace, m_isHouse, m_isTale, m_in, z_l, zl_neg, zl_0, zl_1, zl_2, zl_3, zl_5, zl_8, zl_9, zl_10, zl_19, zl_33, zl_40, zl_49, zl_57, zl_60, zl_65, zl_74, zl_99, zl_100, zl_126, zl_199, zl_1000, zl_1219, zl_9999, pw_0, up_0, pw_1, up_1, pw_2, up_2, pw_3, up_3, pw_4, up_4, pw_9, up_9, pw_10, up_10, pwi_5, upi_5, pwi_6, upi_6, pwi_7, upi_7, pwi_8, upi_8, pwi_11, upi_11, pw_12, up_12, pw_14, up_14, pw_15, up_15, pw_16, up_16, pw_18, up_18, pw_24, up_24, pw_25, up_25, pw_26, up_26, pw_29, up_29, pw_30, up_30, pw_31, up_31, pwi_13, upi_13, pwi_17, upi_17, pwi_19, upi_19, pwi_20, upi_20, pwi_21, upi_21, pwi_22, upi_22, pwi_23, upi_23, pwi_32, upi_32, pwi_33, upi_33, eC_5, eC_6, eC_13, eC_17, eC_19, eC_20, eC_21, eC_22, eC_23, eC_32, eC_33, eC_p5, eC_p6, eC_p13, eC_p17, eC_p19, eC_p20, eC_p21, eC_p22, eC_p23, eC_p32, eC_p33, s_T, s_F, s_bd, s_cl, s_rd, s_wr, s_ite, z_ite, z_neg, z_add, z_sub, z_mul, z_le, z_lt, z_eq, eC_at, eC_7, eC_8, eC_9, eC_10, eC_11, eC_p7, eC_p8, eC_p9, eC_p10, eC_p11, eC_up, ud_same, ud_ne, if_pos, if_neg, z_0, z_1, z_2, z_3, z_4, z_5, z_6, z_7, z_8, z_9, z_10, z_11, z_12, z_13, z_14, z_15, z_16, z_17, z_18, z_19, z_20, z_21, z_22, z_23, z_24, z_25, z_26, z_27, z_28, z_29, z_30, z_31, z_32, z_33, z_34, z_35, z_36, z_37, z_38, z_39, z_40, z_41, z_42, z_43, z_44, z_45, z_46, z_47, z_48, z_49, z_50, z_51, z_52, z_53, z_54, z_55, z_56, z_57, z_58, z_59, z_60, z_61, z_62, z_63, z_64, z_65, z_66, z_67, z_68, z_69, z_70, z_71, z_72, z_73, z_74, z_75, z_76, z_77, z_78, z_79, z_80, z_81, z_82, z_83, z_84, z_85, z_86, z_87, z_88, z_89, z_90, z_91, z_92, z_93, z_94, z_95, z_96, z_97, z_98, z_99, z_100, z_101, z_102, z_103, z_104, z_105, z_106, z_107, z_108, z_109, z_110, z_111, z_112, z_113, z_114, z_115, z_116, z_117, z_118, z_119, z_120, z_121, z_122, z_123, z_124, z_125, z_126, z_127, z_199, z_200, z_360, z_410, z_1000, z_1023, z_1024, z_1219, z_9999, z_10240, z_65537], hd, rng_rf d⟩
      · by_cases cv : 0 ≤ v ∧ v ≤ 9
        · refine ⟨zI (d 0 (a * 11 + b)), ud (ud d 0 (a * 11 + b) v) 0 (b * 11 + a) v, by unfold f_X6_road; simp (disch := omega) only [x_isPlace, x_isHouse, x_isTale, x_within, x_longBetween, x_layRoad, x_doubtOf, x_furnish, x_beliefOf, x_convince, x_fadesInto, x_letFade, s_T, s_F, s_bd, s_cl, s_rd, s_wr, s_ite, z_ite, z_neg, z_add, z_sub, z_mul, z_le, z_lt, z_eq, eC_at, eC_7, eC_8, eC_9, eC_10, eC_11, eC_p7, eC_p8, eC_p9, eC_p10, eC_p11, eC_up, ud_same, ud_ne, if_pos, if_neg, z_0, z_1, z_2, z_3, z_4, z_5, z_6, z_7, z_8, z_9, z_10, z_11, z_12, z_13, z_14, z_15, z_16, z_17, z_18, z_19, z_20, z_21, z_22, z_23, z_24, z_25, z_26, z_27, z_28, z_29, z_30, z_31, z_32, z_33, z_34, z_35, z_36, z_37, z_38, z_39, z_40, z_41, z_42, z_43, z_44, z_45, z_46, z_47, z_48, z_49, z_50, z_51, z_52, z_53, z_54, z_55, z_56, z_57, z_58, z_59, z_60, z_61, z_62, z_63, z_64, z_65, z_66, z_67, z_68, z_69, z_70, z_71, z_72, z_73, z_74, z_75, z_76, z_77, z_78, z_79, z_80, z_81, z_82, z_83, z_84, z_85, z_86, z_87, z_88, z_89, z_90, z_91, z_92, z_93, z_94, z_95, z_96, z_97, z_98, z_99, z_100, z_101, z_102, z_103, z_104, z_105, z_106, z_107, z_108, z_109, z_110, z_111, z_112, z_113, z_114, z_115, z_116, z_117, z_118, z_119, z_120, z_121, z_122, z_123, z_124, z_125, z_126, z_127, z_199, z_200, z_360, z_410, z_1000, z_1023, z_1024, z_1219, z_9999, z_10240, z_65537], ?_, okd_ud (okd_ud hd (show (0 : Int) ≤ v by omega) (show v ≤ (9 : Int) by omega)) (show (0 : Int) ≤ v by omega) (show v ≤ (9 : Int) by omega), rng_tr (rng_ud (Or.inl ⟨rfl, by omega, by omega⟩)) (rng_ud (Or.inl ⟨rfl, by omega, by omega⟩))⟩
          unfold f_X7_road
          simp (disch := omega) only [m_isPlace, m_isHouse, m_isTale, m_in, z_l, zl_neg, zl_0, zl_1, zl_2, zl_3, zl_5, zl_8, zl_9, zl_10, zl_19, zl_33, zl_40, zl_49, zl_57, zl_60, zl_65, zl_74, zl_99, zl_100, zl_126, zl_199, zl_1000, zl_1219, zl_9999, pw_0, up_0, pw_1, up_1, pw_2, up_2, pw_3, up_3, pw_4, up_4, pw_9, up_9, pw_10, up_10, pwi_5, upi_5, pwi_6, upi_6, pwi_7, upi_7, pwi_8, upi_8, pwi_11, upi_11, pw_12, up_12, pw_14, up_14, pw_15, up_15, pw_16, up_16, pw_18, up_18, pw_24, up_24, pw_25, up_25, pw_26, up_26, pw_29, up_29, pw_30, up_30, pw_31, up_31, pwi_13, upi_13, pwi_17, upi_17, pwi_19, upi_19, pwi_20, upi_20, pwi_21, upi_21, pwi_22, upi_22, pwi_23, upi_23, pwi_32, upi_32, pwi_33, upi_33, eC_5, eC_6, eC_13, eC_17, eC_19, eC_20, eC_21, eC_22, eC_23, eC_32, eC_33, eC_p5, eC_p6, eC_p13, eC_p17, eC_p19, eC_p20, eC_p21, eC_p22, eC_p23, eC_p32, eC_p33, s_T, s_F, s_bd, s_cl, s_rd, s_wr, s_ite, z_ite, z_neg, z_add, z_sub, z_mul, z_le, z_lt, z_eq, eC_at, eC_7, eC_8, eC_9, eC_10, eC_11, eC_p7, eC_p8, eC_p9, eC_p10, eC_p11, eC_up, ud_same, ud_ne, if_pos, if_neg, z_0, z_1, z_2, z_3, z_4, z_5, z_6, z_7, z_8, z_9, z_10, z_11, z_12, z_13, z_14, z_15, z_16, z_17, z_18, z_19, z_20, z_21, z_22, z_23, z_24, z_25, z_26, z_27, z_28, z_29, z_30, z_31, z_32, z_33, z_34, z_35, z_36, z_37, z_38, z_39, z_40, z_41, z_42, z_43, z_44, z_45, z_46, z_47, z_48, z_49, z_50, z_51, z_52, z_53, z_54, z_55, z_56, z_57, z_58, z_59, z_60, z_61, z_62, z_63, z_64, z_65, z_66, z_67, z_68, z_69, z_70, z_71, z_72, z_73, z_74, z_75, z_76, z_77, z_78, z_79, z_80, z_81, z_82, z_83, z_84, z_85, z_86, z_87, z_88, z_89, z_90, z_91, z_92, z_93, z_94, z_95, z_96, z_97, z_98, z_99, z_100, z_101, z_102, z_103, z_104, z_105, z_106, z_107, z_108, z_109, z_110, z_111, z_112, z_113, z_114, z_115, z_116, z_117, z_118, z_119, z_120, z_121, z_122, z_123, z_124, z_125, z_126, z_127, z_199, z_200, z_360, z_410, z_1000, z_1023, z_1024, z_1219, z_9999, z_10240, z_65537]
          rw [show 11 * a + b = a * 11 + b by omega, show 11 * b + a = b * 11 + a by omega]
        · exact ⟨zI (-2), d, by unfold f_X6_road; simp (disch := omega) only [x_isPlace, x_isHouse, x_isTale, x_within, x_longBetween, x_layRoad, x_doubtOf, x_furnish, x_beliefOf, x_convince, x_fadesInto, x_letFade, s_T, s_F, s_bd, s_cl, s_rd, s_wr, s_ite, z_ite, z_neg, z_add, z_sub, z_mul, z_le, z_lt, z_eq, eC_at, eC_7, eC_8, eC_9, eC_10, eC_11, eC_p7, eC_p8, eC_p9, eC_p10, eC_p11, eC_up, ud_same, ud_ne, if_pos, if_neg, z_0, z_1, z_2, z_3, z_4, z_5, z_6, z_7, z_8, z_9, z_10, z_11, z_12, z_13, z_14, z_15, z_16, z_17, z_18, z_19, z_20, z_21, z_22, z_23, z_24, z_25, z_26, z_27, z_28, z_29, z_30, z_31, z_32, z_33, z_34, z_35, z_36, z_37, z_38, z_39, z_40, z_41, z_42, z_43, z_44, z_45, z_46, z_47, z_48, z_49, z_50, z_51, z_52, z_53, z_54, z_55, z_56, z_57, z_58, z_59, z_60, z_61, z_62, z_63, z_64, z_65, z_66, z_67, z_68, z_69, z_70, z_71, z_72, z_73, z_74, z_75, z_76, z_77, z_78, z_79, z_80, z_81, z_82, z_83, z_84, z_85, z_86, z_87, z_88, z_89, z_90, z_91, z_92, z_93, z_94, z_95, z_96, z_97, z_98, z_99, z_100, z_101, z_102, z_103, z_104, z_105, z_106, z_107, z_108, z_109, z_110, z_111, z_112, z_113, z_114, z_115, z_116, z_117, z_118, z_119, z_120, z_121, z_122, z_123, z_124, z_125, z_126, z_127, z_199, z_200, z_360, z_410, z_1000, z_1023, z_1024, z_1219, z_9999, z_10240, z_65537], by unfold f_X7_road; simp (disch := omega) only [m_isPlace, m_isHouse, m_isTale, m_in, z_l, zl_neg, zl_0, zl_1, zl_2, zl_3, zl_5, zl_8, zl_9, zl_10, zl_19, zl_33, zl_40, zl_49, zl_57, zl_60, zl_65, zl_74, zl_99, zl_100, zl_126, zl_199, zl_1000, zl_1219, zl_9999, pw_0, up_0, pw_1, up_1, pw_2, up_2, pw_3, up_3, pw_4, up_4, pw_9, up_9, pw_10, up_10, pwi_5, upi_5, pwi_6, upi_6, pwi_7, upi_7, pwi_8, upi_8, pwi_11, upi_11, pw_12, up_12, pw_14, up_14, pw_15, up_15, pw_16, up_16, pw_18, up_18, pw_24, up_24, pw_25, up_25, pw_26, up_26, pw_29, up_29, pw_30, up_30, pw_31, up_31, pwi_13, upi_13, pwi_17, upi_17, pwi_19, upi_19, pwi_20, upi_20, pwi_21, upi_21, pwi_22, upi_22, pwi_23, upi_23, pwi_32, upi_32, pwi_33, upi_33, eC_5, eC_6, eC_13, eC_17, eC_19, eC_20, eC_21, eC_22, eC_23, eC_32, eC_33, eC_p5, eC_p6, eC_p13, eC_p17, eC_p19, eC_p20, eC_p21, eC_p22, eC_p23, eC_p32, eC_p33, s_T, s_F, s_bd, s_cl, s_rd, s_wr, s_ite, z_ite, z_neg, z_add, z_sub, z_mul, z_le, z_lt, z_eq, eC_at, eC_7, eC_8, eC_9, eC_10, eC_11, eC_p7, eC_p8, eC_p9, eC_p10, eC_p11, eC_up, ud_same, ud_ne, if_pos, if_neg, z_0, z_1, z_2, z_3, z_4, z_5, z_6, z_7, z_8, z_9, z_10, z_11, z_12, z_13, z_14, z_15, z_16, z_17, z_18, z_19, z_20, z_21, z_22, z_23, z_24, z_25, z_26, z_27, z_28, z_29, z_30, z_31, z_32, z_33, z_34, z_35, z_36, z_37, z_38, z_39, z_40, z_41, z_42, z_43, z_44, z_45, z_46, z_47, z_48, z_49, z_50, z_51, z_52, z_53, z_54, z_55, z_56, z_57, z_58, z_59, z_60, z_61, z_62, z_63, z_64, z_65, z_66, z_67, z_68, z_69, z_70, z_71, z_72, z_73, z_74, z_75, z_76, z_77, z_78, z_79, z_80, z_81, z_82, z_83, z_84, z_85, z_86, z_87, z_88, z_89, z_90, z_91, z_92, z_93, z_94, z_95, z_96, z_97, z_98, z_99, z_100, z_101, z_102, z_103, z_104, z_105, z_106, z_107, z_108, z_109, z_110, z_111, z_112, z_113, z_114, z_115, z_116, z_117, z_118, z_119, z_120, z_121, z_122, z_123, z_124, z_125, z_126, z_127, z_199, z_200, z_360, z_410, z_1000, z_1023, z_1024, z_1219, z_9999, z_10240, z_65537], hd, rng_rf d⟩
    · exact ⟨zI (-1), d, by unfold f_X6_road; simp (disch := omega) only [x_isPlace, x_isHouse, x_isTale, x_within, x_longBetween, x_layRoad, x_doubtOf, x_furnish, x_beliefOf, x_convince, x_fadesInto, x_letFade, s_T, s_F, s_bd, s_cl, s_rd, s_wr, s_ite, z_ite, z_neg, z_add, z_sub, z_mul, z_le, z_lt, z_eq, eC_at, eC_7, eC_8, eC_9, eC_10, eC_11, eC_p7, eC_p8, eC_p9, eC_p10, eC_p11, eC_up, ud_same, ud_ne, if_pos, if_neg, z_0, z_1, z_2, z_3, z_4, z_5, z_6, z_7, z_8, z_9, z_10, z_11, z_12, z_13, z_14, z_15, z_16, z_17, z_18, z_19, z_20, z_21, z_22, z_23, z_24, z_25, z_26, z_27, z_28, z_29, z_30, z_31, z_32, z_33, z_34, z_35, z_36, z_37, z_38, z_39, z_40, z_41, z_42, z_43, z_44, z_45, z_46, z_47, z_48, z_49, z_50, z_51, z_52, z_53, z_54, z_55, z_56, z_57, z_58, z_59, z_60, z_61, z_62, z_63, z_64, z_65, z_66, z_67, z_68, z_69, z_70, z_71, z_72, z_73, z_74, z_75, z_76, z_77, z_78, z_79, z_80, z_81, z_82, z_83, z_84, z_85, z_86, z_87, z_88, z_89, z_90, z_91, z_92, z_93, z_94, z_95, z_96, z_97, z_98, z_99, z_100, z_101, z_102, z_103, z_104, z_105, z_106, z_107, z_108, z_109, z_110, z_111, z_112, z_113, z_114, z_115, z_116, z_117, z_118, z_119, z_120, z_121, z_122, z_123, z_124, z_125, z_126, z_127, z_199, z_200, z_360, z_410, z_1000, z_1023, z_1024, z_1219, z_9999, z_10240, z_65537], by unfold f_X7_road; simp (disch := omega) only [m_isPlace, m_isHouse, m_isTale, m_in, z_l, zl_neg, zl_0, zl_1, zl_2, zl_3, zl_5, zl_8, zl_9, zl_10, zl_19, zl_33, zl_40, zl_49, zl_57, zl_60, zl_65, zl_74, zl_99, zl_100, zl_126, zl_199, zl_1000, zl_1219, zl_9999, pw_0, up_0, pw_1, up_1, pw_2, up_2, pw_3, up_3, pw_4, up_4, pw_9, up_9, pw_10, up_10, pwi_5, upi_5, pwi_6, upi_6, pwi_7, upi_7, pwi_8, upi_8, pwi_11, upi_11, pw_12, up_12, pw_14, up_14, pw_15, up_15, pw_16, up_16, pw_18, up_18, pw_24, up_24, pw_25, up_25, pw_26, up_26, pw_29, up_29, pw_30, up_30, pw_31, up_31, pwi_13, upi_13, pwi_17, upi_17, pwi_19, upi_19, pwi_20, upi_20, pwi_21, upi_21, pwi_22, upi_22, pwi_23, upi_23, pwi_32, upi_32, pwi_33, upi_33, eC_5, eC_6, eC_13, eC_17, eC_19, eC_20, eC_21, eC_22, eC_23, eC_32, eC_33, eC_p5, eC_p6, eC_p13, eC_p17, eC_p19, eC_p20, eC_p21, eC_p22, eC_p23, eC_p32, eC_p33, s_T, s_F, s_bd, s_cl, s_rd, s_wr, s_ite, z_ite, z_neg, z_add, z_sub, z_mul, z_le, z_lt, z_eq, eC_at, eC_7, eC_8, eC_9, eC_10, eC_11, eC_p7, eC_p8, eC_p9, eC_p10, eC_p11, eC_up, ud_same, ud_ne, if_pos, if_neg, z_0, z_1, z_2, z_3, z_4, z_5, z_6, z_7, z_8, z_9, z_10, z_11, z_12, z_13, z_14, z_15, z_16, z_17, z_18, z_19, z_20, z_21, z_22, z_23, z_24, z_25, z_26, z_27, z_28, z_29, z_30, z_31, z_32, z_33, z_34, z_35, z_36, z_37, z_38, z_39, z_40, z_41, z_42, z_43, z_44, z_45, z_46, z_47, z_48, z_49, z_50, z_51, z_52, z_53, z_54, z_55, z_56, z_57, z_58, z_59, z_60, z_61, z_62, z_63, z_64, z_65, z_66, z_67, z_68, z_69, z_70, z_71, z_72, z_73, z_74, z_75, z_76, z_77, z_78, z_79, z_80, z_81, z_82, z_83, z_84, z_85, z_86, z_87, z_88, z_89, z_90, z_91, z_92, z_93, z_94, z_95, z_96, z_97, z_98, z_99, z_100, z_101, z_102, z_103, z_104, z_105, z_106, z_107, z_108, z_109, z_110, z_111, z_112, z_113, z_114, z_115, z_116, z_117, z_118, z_119, z_120, z_121, z_122, z_123, z_124, z_125, z_126, z_127, z_199, z_200, z_360, z_410, z_1000, z_1023, z_1024, z_1219, z_9999, z_10240, z_65537], hd, rng_rf d⟩
  · exact ⟨zI (-1), d, by unfold f_X6_road; simp (disch := omega) only [x_isPlace, x_isHouse, x_isTale, x_within, x_longBetween, x_layRoad, x_doubtOf, x_furnish, x_beliefOf, x_convince, x_fadesInto, x_letFade, s_T, s_F, s_bd, s_cl, s_rd, s_wr, s_ite, z_ite, z_neg, z_add, z_sub, z_mul, z_le, z_lt, z_eq, eC_at, eC_7, eC_8, eC_9, eC_10, eC_11, eC_p7, eC_p8, eC_p9, eC_p10, eC_p11, eC_up, ud_same, ud_ne, if_pos, if_neg, z_0, z_1, z_2, z_3, z_4, z_5, z_6, z_7, z_8, z_9, z_10, z_11, z_12, z_13, z_14, z_15, z_16, z_17, z_18, z_19, z_20, z_21, z_22, z_23, z_24, z_25, z_26, z_27, z_28, z_29, z_30, z_31, z_32, z_33, z_34, z_35, z_36, z_37, z_38, z_39, z_40, z_41, z_42, z_43, z_44, z_45, z_46, z_47, z_48, z_49, z_50, z_51, z_52, z_53, z_54, z_55, z_56, z_57, z_58, z_59, z_60, z_61, z_62, z_63, z_64, z_65, z_66, z_67, z_68, z_69, z_70, z_71, z_72, z_73, z_74, z_75, z_76, z_77, z_78, z_79, z_80, z_81, z_82, z_83, z_84, z_85, z_86, z_87, z_88, z_89, z_90, z_91, z_92, z_93, z_94, z_95, z_96, z_97, z_98, z_99, z_100, z_101, z_102, z_103, z_104, z_105, z_106, z_107, z_108, z_109, z_110, z_111, z_112, z_113, z_114, z_115, z_116, z_117, z_118, z_119, z_120, z_121, z_122, z_123, z_124, z_125, z_126, z_127, z_199, z_200, z_360, z_410, z_1000, z_1023, z_1024, z_1219, z_9999, z_10240, z_65537], by unfold f_X7_road; simp (disch := omega) only [m_isPlace, m_isHouse, m_isTale, m_in, z_l, zl_neg, zl_0, zl_1, zl_2, zl_3, zl_5, zl_8, zl_9, zl_10, zl_19, zl_33, zl_40, zl_49, zl_57, zl_60, zl_65, zl_74, zl_99, zl_100, zl_126, zl_199, zl_1000, zl_1219, zl_9999, pw_0, up_0, pw_1, up_1, pw_2, up_2, pw_3, up_3, pw_4, up_4, pw_9, up_9, pw_10, up_10, pwi_5, upi_5, pwi_6, upi_6, pwi_7, upi_7, pwi_8, upi_8, pwi_11, upi_11, pw_12, up_12, pw_14, up_14, pw_15, up_15, pw_16, up_16, pw_18, up_18, pw_24, up_24, pw_25, up_25, pw_26, up_26, pw_29, up_29, pw_30, up_30, pw_31, up_31, pwi_13, upi_13, pwi_17, upi_17, pwi_19, upi_19, pwi_20, upi_20, pwi_21, upi_21, pwi_22, upi_22, pwi_23, upi_23, pwi_32, upi_32, pwi_33, upi_33, eC_5, eC_6, eC_13, eC_17, eC_19, eC_20, eC_21, eC_22, eC_23, eC_32, eC_33, eC_p5, eC_p6, eC_p13, eC_p17, eC_p19, eC_p20, eC_p21, eC_p22, eC_p23, eC_p32, eC_p33, s_T, s_F, s_bd, s_cl, s_rd, s_wr, s_ite, z_ite, z_neg, z_add, z_sub, z_mul, z_le, z_lt, z_eq, eC_at, eC_7, eC_8, eC_9, eC_10, eC_11, eC_p7, eC_p8, eC_p9, eC_p10, eC_p11, eC_up, ud_same, ud_ne, if_pos, if_neg, z_0, z_1, z_2, z_3, z_4, z_5, z_6, z_7, z_8, z_9, z_10, z_11, z_12, z_13, z_14, z_15, z_16, z_17, z_18, z_19, z_20, z_21, z_22, z_23, z_24, z_25, z_26, z_27, z_28, z_29, z_30, z_31, z_32, z_33, z_34, z_35, z_36, z_37, z_38, z_39, z_40, z_41, z_42, z_43, z_44, z_45, z_46, z_47, z_48, z_49, z_50, z_51, z_52, z_53, z_54, z_55, z_56, z_57, z_58, z_59, z_60, z_61, z_62, z_63, z_64, z_65, z_66, z_67, z_68, z_69, z_70, z_71, z_72, z_73, z_74, z_75, z_76, z_77, z_78, z_79, z_80, z_81, z_82, z_83, z_84, z_85, z_86, z_87, z_88, z_89, z_90, z_91, z_92, z_93, z_94, z_95, z_96, z_97, z_98, z_99, z_100, z_101, z_102, z_103, z_104, z_105, z_106, z_107, z_108, z_109, z_110, z_111, z_112, z_113, z_114, z_115, z_116, z_117, z_118, z_119, z_120, z_121, z_122, z_123, z_124, z_125, z_126, z_127, z_199, z_200, z_360, z_410, z_1000, z_1023, z_1024, z_1219, z_9999, z_10240, z_65537], hd, rng_rf d⟩
theorem c_house (m d : Nat → Int → Int) (τ : qL) (hd : okd d) (a b v : Int32) : ∃ r d', f_X6_house (eC d) a b v = some (r, eC d') ∧ f_X7_house (eC (pw m d)) τ a b v = some (r, eC (pw m d')) ∧ okd d' ∧ rng d d' := by
  obtain ⟨a, a0, a1, rfl⟩ := z_of a
  obtain ⟨b, b0, b1, rfl⟩ := z_of b
  obtain ⟨v, v0, v1, rfl⟩ := z_of v
  by_cases ca : 0 ≤ a ∧ a ≤ 9
  · by_cases cb : 0 ≤ b ∧ b ≤ 9
    · by_cases cv : 0 ≤ v ∧ v ≤ 1
      · exact ⟨zI (d 1 a), ud (ud d 1 a b) 2 a v, by unfold f_X6_house; simp (disch := omega) only [x_isPlace, x_isHouse, x_isTale, x_within, x_longBetween, x_layRoad, x_doubtOf, x_furnish, x_beliefOf, x_convince, x_fadesInto, x_letFade, s_T, s_F, s_bd, s_cl, s_rd, s_wr, s_ite, z_ite, z_neg, z_add, z_sub, z_mul, z_le, z_lt, z_eq, eC_at, eC_7, eC_8, eC_9, eC_10, eC_11, eC_p7, eC_p8, eC_p9, eC_p10, eC_p11, eC_up, ud_same, ud_ne, if_pos, if_neg, z_0, z_1, z_2, z_3, z_4, z_5, z_6, z_7, z_8, z_9, z_10, z_11, z_12, z_13, z_14, z_15, z_16, z_17, z_18, z_19, z_20, z_21, z_22, z_23, z_24, z_25, z_26, z_27, z_28, z_29, z_30, z_31, z_32, z_33, z_34, z_35, z_36, z_37, z_38, z_39, z_40, z_41, z_42, z_43, z_44, z_45, z_46, z_47, z_48, z_49, z_50, z_51, z_52, z_53, z_54, z_55, z_56, z_57, z_58, z_59, z_60, z_61, z_62, z_63, z_64, z_65, z_66, z_67, z_68, z_69, z_70, z_71, z_72, z_73, z_74, z_75, z_76, z_77, z_78, z_79, z_80, z_81, z_82, z_83, z_84, z_85, z_86, z_87, z_88, z_89, z_90, z_91, z_92, z_93, z_94, z_95, z_96, z_97, z_98, z_99, z_100, z_101, z_102, z_103, z_104, z_105, z_106, z_107, z_108, z_109, z_110, z_111, z_112, z_113, z_114, z_115, z_116, z_117, z_118, z_119, z_120, z_121, z_122, z_123, z_124, z_125, z_126, z_127, z_199, z_200, z_360, z_410, z_1000, z_1023, z_1024, z_1219, z_9999, z_10240, z_65537], by unfold f_X7_house; simp (disch := omega) only [m_isPlace, m_isHouse, m_isTale, m_in, z_l, zl_neg, zl_0, zl_1, zl_2, zl_3, zl_5, zl_8, zl_9, zl_10, zl_19, zl_33, zl_40, zl_49, zl_57, zl_60, zl_65, zl_74, zl_99, zl_100, zl_126, zl_199, zl_1000, zl_1219, zl_9999, pw_0, up_0, pw_1, up_1, pw_2, up_2, pw_3, up_3, pw_4, up_4, pw_9, up_9, pw_10, up_10, pwi_5, upi_5, pwi_6, upi_6, pwi_7, upi_7, pwi_8, upi_8, pwi_11, upi_11, pw_12, up_12, pw_14, up_14, pw_15, up_15, pw_16, up_16, pw_18, up_18, pw_24, up_24, pw_25, up_25, pw_26, up_26, pw_29, up_29, pw_30, up_30, pw_31, up_31, pwi_13, upi_13, pwi_17, upi_17, pwi_19, upi_19, pwi_20, upi_20, pwi_21, upi_21, pwi_22, upi_22, pwi_23, upi_23, pwi_32, upi_32, pwi_33, upi_33, eC_5, eC_6, eC_13, eC_17, eC_19, eC_20, eC_21, eC_22, eC_23, eC_32, eC_33, eC_p5, eC_p6, eC_p13, eC_p17, eC_p19, eC_p20, eC_p21, eC_p22, eC_p23, eC_p32, eC_p33, s_T, s_F, s_bd, s_cl, s_rd, s_wr, s_ite, z_ite, z_neg, z_add, z_sub, z_mul, z_le, z_lt, z_eq, eC_at, eC_7, eC_8, eC_9, eC_10, eC_11, eC_p7, eC_p8, eC_p9, eC_p10, eC_p11, eC_up, ud_same, ud_ne, if_pos, if_neg, z_0, z_1, z_2, z_3, z_4, z_5, z_6, z_7, z_8, z_9, z_10, z_11, z_12, z_13, z_14, z_15, z_16, z_17, z_18, z_19, z_20, z_21, z_22, z_23, z_24, z_25, z_26, z_27, z_28, z_29, z_30, z_31, z_32, z_33, z_34, z_35, z_36, z_37, z_38, z_39, z_40, z_41, z_42, z_43, z_44, z_45, z_46, z_47, z_48, z_49, z_50, z_51, z_52, z_53, z_54, z_55, z_56, z_57, z_58, z_59, z_60, z_61, z_62, z_63, z_64, z_65, z_66, z_67, z_68, z_69, z_70, z_71, z_72, z_73, z_74, z_75, z_76, z_77, z_78, z_79, z_80, z_81, z_82, z_83, z_84, z_85, z_86, z_87, z_88, z_89, z_90, z_91, z_92, z_93, z_94, z_95, z_96, z_97, z_98, z_99, z_100, z_101, z_102, z_103, z_104, z_105, z_106, z_107, z_108, z_109, z_110, z_111, z_112, z_113, z_114, z_115, z_116, z_117, z_118, z_119, z_120, z_121, z_122, z_123, z_124, z_125, z_126, z_127, z_199, z_200, z_360, z_410, z_1000, z_1023, z_1024, z_1219, z_9999, z_10240, z_65537], okd_ud (okd_ud hd (show (0 : Int) ≤ b by omega) (show b ≤ (9 : Int) by omega)) (show (0 : Int) ≤ v by omega) (show v ≤ (1 : Int) by omega), rng_tr (rng_ud (Or.inr (Or.inl ⟨by omega, by omega, by omega⟩))) (rng_ud (Or.inr (Or.inl ⟨by omega, by omega, by omega⟩)))⟩
      · exact ⟨zI (-2), d, by unfold f_X6_house; simp (disch := omega) only [x_isPlace, x_isHouse, x_isTale, x_within, x_longBetween, x_layRoad, x_doubtOf, x_furnish, x_beliefOf, x_convince, x_fadesInto, x_letFade, s_T, s_F, s_bd, s_cl, s_rd, s_wr, s_ite, z_ite, z_neg, z_add, z_sub, z_mul, z_le, z_lt, z_eq, eC_at, eC_7, eC_8, eC_9, eC_10, eC_11, eC_p7, eC_p8, eC_p9, eC_p10, eC_p11, eC_up, ud_same, ud_ne, if_pos, if_neg, z_0, z_1, z_2, z_3, z_4, z_5, z_6, z_7, z_8, z_9, z_10, z_11, z_12, z_13, z_14, z_15, z_16, z_17, z_18, z_19, z_20, z_21, z_22, z_23, z_24, z_25, z_26, z_27, z_28, z_29, z_30, z_31, z_32, z_33, z_34, z_35, z_36, z_37, z_38, z_39, z_40, z_41, z_42, z_43, z_44, z_45, z_46, z_47, z_48, z_49, z_50, z_51, z_52, z_53, z_54, z_55, z_56, z_57, z_58, z_59, z_60, z_61, z_62, z_63, z_64, z_65, z_66, z_67, z_68, z_69, z_70, z_71, z_72, z_73, z_74, z_75, z_76, z_77, z_78, z_79, z_80, z_81, z_82, z_83, z_84, z_85, z_86, z_87, z_88, z_89, z_90, z_91, z_92, z_93, z_94, z_95, z_96, z_97, z_98, z_99, z_100, z_101, z_102, z_103, z_104, z_105, z_106, z_107, z_108, z_109, z_110, z_111, z_112, z_113, z_114, z_115, z_116, z_117, z_118, z_119, z_120, z_121, z_122, z_123, z_124, z_125, z_126, z_127, z_199, z_200, z_360, z_410, z_1000, z_1023, z_1024, z_1219, z_9999, z_10240, z_65537], by unfold f_X7_house; simp (disch := omega) only [m_isPlace, m_isHouse, m_isTale, m_in, z_l, zl_neg, zl_0, zl_1, zl_2, zl_3, zl_5, zl_8, zl_9, zl_10, zl_19, zl_33, zl_40, zl_49, zl_57, zl_60, zl_65, zl_74, zl_99, zl_100, zl_126, zl_199, zl_1000, zl_1219, zl_9999, pw_0, up_0, pw_1, up_1, pw_2, up_2, pw_3, up_3, pw_4, up_4, pw_9, up_9, pw_10, up_10, pwi_5, upi_5, pwi_6, upi_6, pwi_7, upi_7, pwi_8, upi_8, pwi_11, upi_11, pw_12, up_12, pw_14, up_14, pw_15, up_15, pw_16, up_16, pw_18, up_18, pw_24, up_24, pw_25, up_25, pw_26, up_26, pw_29, up_29, pw_30, up_30, pw_31, up_31, pwi_13, upi_13, pwi_17, upi_17, pwi_19, upi_19, pwi_20, upi_20, pwi_21, upi_21, pwi_22, upi_22, pwi_23, upi_23, pwi_32, upi_32, pwi_33, upi_33, eC_5, eC_6, eC_13, eC_17, eC_19, eC_20, eC_21, eC_22, eC_23, eC_32, eC_33, eC_p5, eC_p6, eC_p13, eC_p17, eC_p19, eC_p20, eC_p21, eC_p22, eC_p23, eC_p32, eC_p33, s_T, s_F, s_bd, s_cl, s_rd, s_wr, s_ite, z_ite, z_neg, z_add, z_sub, z_mul, z_le, z_lt, z_eq, eC_at, eC_7, eC_8, eC_9, eC_10, eC_11, eC_p7, eC_p8, eC_p9, eC_p10, eC_p11, eC_up, ud_same, ud_ne, if_pos, if_neg, z_0, z_1, z_2, z_3, z_4, z_5, z_6, z_7, z_8, z_9, z_10, z_11, z_12, z_13, z_14, z_15, z_16, z_17, z_18, z_19, z_20, z_21, z_22, z_23, z_24, z_25, z_26, z_27, z_28, z_29, z_30, z_31, z_32, z_33, z_34, z_35, z_36, z_37, z_38, z_39, z_40, z_41, z_42, z_43, z_44, z_45, z_46, z_47, z_48, z_49, z_50, z_51, z_52, z_53, z_54, z_55, z_56, z_57, z_58, z_59, z_60, z_61, z_62, z_63, z_64, z_65, z_66, z_67, z_68, z_69, z_70, z_71, z_72, z_73, z_74, z_75, z_76, z_77, z_78, z_79, z_80, z_81, z_82, z_83, z_84, z_85, z_86, z_87, z_88, z_89, z_90, z_91, z_92, z_93, z_94, z_95, z_96, z_97, z_98, z_99, z_100, z_101, z_102, z_103, z_104, z_105, z_106, z_107, z_108, z_109, z_110, z_111, z_112, z_113, z_114, z_115, z_116, z_117, z_118, z_119, z_120, z_121, z_122, z_123, z_124, z_125, z_126, z_127, z_199, z_200, z_360, z_410, z_1000, z_1023, z_1024, z_1219, z_9999, z_10240, z_65537], hd, rng_rf d⟩
    · exact ⟨zI (-2), d, by unfold f_X6_house; simp (disch := omega) only [x_isPlace, x_isHouse, x_isTale, x_within, x_longBetween, x_layRoad, x_doubtOf, x_furnish, x_beliefOf, x_convince, x_fadesInto, x_letFade, s_T, s_F, s_bd, s_cl, s_rd, s_wr, s_ite, z_ite, z_neg, z_add, z_sub, z_mul, z_le, z_lt, z_eq, eC_at, eC_7, eC_8, eC_9, eC_10, eC_11, eC_p7, eC_p8, eC_p9, eC_p10, eC_p11, eC_up, ud_same, ud_ne, if_pos, if_neg, z_0, z_1, z_2, z_3, z_4, z_5, z_6, z_7, z_8, z_9, z_10, z_11, z_12, z_13, z_14, z_15, z_16, z_17, z_18, z_19, z_20, z_21, z_22, z_23, z_24, z_25, z_26, z_27, z_28, z_29, z_30, z_31, z_32, z_33, z_34, z_35, z_36, z_37, z_38, z_39, z_40, z_41, z_42, z_43, z_44, z_45, z_46, z_47, z_48, z_49, z_50, z_51, z_52, z_53, z_54, z_55, z_56, z_57, z_58, z_59, z_60, z_61, z_62, z_63, z_64, z_65, z_66, z_67, z_68, z_69, z_70, z_71, z_72, z_73, z_74, z_75, z_76, z_77, z_78, z_79, z_80, z_81, z_82, z_83, z_84, z_85, z_86, z_87, z_88, z_89, z_90, z_91, z_92, z_93, z_94, z_95, z_96, z_97, z_98, z_99, z_100, z_101, z_102, z_103, z_104, z_105, z_106, z_107, z_108, z_109, z_110, z_111, z_112, z_113, z_114, z_115, z_116, z_117, z_118, z_119, z_120, z_121, z_122, z_123, z_124, z_125, z_126, z_127, z_199, z_200, z_360, z_410, z_1000, z_1023, z_1024, z_1219, z_9999, z_10240, z_65537], by unfold f_X7_house; simp (disch := omega) only [m_isPlace, m_isHouse, m_isTale, m_in, z_l, zl_neg, zl_0, zl_1, zl_2, zl_3, zl_5, zl_8, zl_9, zl_10, zl_19, zl_33, zl_40, zl_49, zl_57, zl_60, zl_65, zl_74, zl_99, zl_100, zl_126, zl_199, zl_1000, zl_1219, zl_9999, pw_0, up_0, pw_1, up_1, pw_2, up_2, pw_3, up_3, pw_4, up_4, pw_9, up_9, pw_10, up_10, pwi_5, upi_5, pwi_6, upi_6, pwi_7, upi_7, pwi_8, upi_8, pwi_11, upi_11, pw_12, up_12, pw_14, up_14, pw_15, up_15, pw_16, up_16, pw_18, up_18, pw_24, up_24, pw_25, up_25, pw_26, up_26, pw_29, up_29, pw_30, up_30, pw_31, up_31, pwi_13, upi_13, pwi_17, upi_17, pwi_19, upi_19, pwi_20, upi_20, pwi_21, upi_21, pwi_22, upi_22, pwi_23, upi_23, pwi_32, upi_32, pwi_33, upi_33, eC_5, eC_6, eC_13, eC_17, eC_19, eC_20, eC_21, eC_22, eC_23, eC_32, eC_33, eC_p5, eC_p6, eC_p13, eC_p17, eC_p19, eC_p20, eC_p21, eC_p22, eC_p23, eC_p32, eC_p33, s_T, s_F, s_bd, s_cl, s_rd, s_wr, s_ite, z_ite, z_neg, z_add, z_sub, z_mul, z_le, z_lt, z_eq, eC_at, eC_7, eC_8, eC_9, eC_10, eC_11, eC_p7, eC_p8, eC_p9, eC_p10, eC_p11, eC_up, ud_same, ud_ne, if_pos, if_neg, z_0, z_1, z_2, z_3, z_4, z_5, z_6, z_7, z_8, z_9, z_10, z_11, z_12, z_13, z_14, z_15, z_16, z_17, z_18, z_19, z_20, z_21, z_22, z_23, z_24, z_25, z_26, z_27, z_28, z_29, z_30, z_31, z_32, z_33, z_34, z_35, z_36, z_37, z_38, z_39, z_40, z_41, z_42, z_43, z_44, z_45, z_46, z_47, z_48, z_49, z_50, z_51, z_52, z_53, z_54, z_55, z_56, z_57, z_58, z_59, z_60, z_61, z_62, z_63, z_64, z_65, z_66, z_67, z_68, z_69, z_70, z_71, z_72, z_73, z_74, z_75, z_76, z_77, z_78, z_79, z_80, z_81, z_82, z_83, z_84, z_85, z_86, z_87, z_88, z_89, z_90, z_91, z_92, z_93, z_94, z_95, z_96, z_97, z_98, z_99, z_100, z_101, z_102, z_103, z_104, z_105, z_106, z_107, z_108, z_109, z_110, z_111, z_112, z_113, z_114, z_115, z_116, z_117, z_118, z_119, z_120, z_121, z_122, z_123, z_124, z_125, z_126, z_127, z_199, z_200, z_360, z_410, z_1000, z_1023, z_1024, z_1219, z_9999, z_10240, z_65537], hd, rng_rf d⟩
  · exact ⟨zI (-1), d, by unfold f_X6_house; simp (disch := omega) only [x_isPlace, x_isHouse, x_isTale, x_within, x_longBetween, x_layRoad, x_doubtOf, x_furnish, x_beliefOf, x_convince, x_fadesInto, x_letFade, s_T, s_F, s_bd, s_cl, s_rd, s_wr, s_ite, z_ite, z_neg, z_add, z_sub, z_mul, z_le, z_lt, z_eq, eC_at, eC_7, eC_8, eC_9, eC_10, eC_11, eC_p7, eC_p8, eC_p9, eC_p10, eC_p11, eC_up, ud_same, ud_ne, if_pos, if_neg, z_0, z_1, z_2, z_3, z_4, z_5, z_6, z_7, z_8, z_9, z_10, z_11, z_12, z_13, z_14, z_15, z_16, z_17, z_18, z_19, z_20, z_21, z_22, z_23, z_24, z_25, z_26, z_27, z_28, z_29, z_30, z_31, z_32, z_33, z_34, z_35, z_36, z_37, z_38, z_39, z_40, z_41, z_42, z_43, z_44, z_45, z_46, z_47, z_48, z_49, z_50, z_51, z_52, z_53, z_54, z_55, z_56, z_57, z_58, z_59, z_60, z_61, z_62, z_63, z_64, z_65, z_66, z_67, z_68, z_69, z_70, z_71, z_72, z_73, z_74, z_75, z_76, z_77, z_78, z_79, z_80, z_81, z_82, z_83, z_84, z_85, z_86, z_87, z_88, z_89, z_90, z_91, z_92, z_93, z_94, z_95, z_96, z_97, z_98, z_99, z_100, z_101, z_102, z_103, z_104, z_105, z_106, z_107, z_108, z_109, z_110, z_111, z_112, z_113, z_114, z_115, z_116, z_117, z_118, z_119, z_120, z_121, z_122, z_123, z_124, z_125, z_126, z_127, z_199, z_200, z_360, z_410, z_1000, z_1023, z_1024, z_1219, z_9999, z_10240, z_65537], by unfold f_X7_house; simp (disch := omega) only [m_isPlace, m_isHouse, m_isTale, m_in, z_l, zl_neg, zl_0, zl_1, zl_2, zl_3, zl_5, zl_8, zl_9, zl_10, zl_19, zl_33, zl_40, zl_49, zl_57, zl_60, zl_65, zl_74, zl_99, zl_100, zl_126, zl_199, zl_1000, zl_1219, zl_9999, pw_0, up_0, pw_1, up_1, pw_2, up_2, pw_3, up_3, pw_4, up_4, pw_9, up_9, pw_10, up_10, pwi_5, upi_5, pwi_6, upi_6, pwi_7, upi_7, pwi_8, upi_8, pwi_11, upi_11, pw_12, up_12, pw_14, up_14, pw_15, up_15, pw_16, up_16, pw_18, up_18, pw_24, up_24, pw_25, up_25, pw_26, up_26, pw_29, up_29, pw_30, up_30, pw_31, up_31, pwi_13, upi_13, pwi_17, upi_17, pwi_19, upi_19, pwi_20, upi_20, pwi_21, upi_21, pwi_22, upi_22, pwi_23, upi_23, pwi_32, upi_32, pwi_33, upi_33, eC_5, eC_6, eC_13, eC_17, eC_19, eC_20, eC_21, eC_22, eC_23, eC_32, eC_33, eC_p5, eC_p6, eC_p13, eC_p17, eC_p19, eC_p20, eC_p21, eC_p22, eC_p23, eC_p32, eC_p33, s_T, s_F, s_bd, s_cl, s_rd, s_wr, s_ite, z_ite, z_neg, z_add, z_sub, z_mul, z_le, z_lt, z_eq, eC_at, eC_7, eC_8, eC_9, eC_10, eC_11, eC_p7, eC_p8, eC_p9, eC_p10, eC_p11, eC_up, ud_same, ud_ne, if_pos, if_neg, z_0, z_1, z_2, z_3, z_4, z_5, z_6, z_7, z_8, z_9, z_10, z_11, z_12, z_13, z_14, z_15, z_16, z_17, z_18, z_19, z_20, z_21, z_22, z_23, z_24, z_25, z_26, z_27, z_28, z_29, z_30, z_31, z_32, z_33, z_34, z_35, z_36, z_37, z_38, z_39, z_40, z_41, z_42, z_43, z_44, z_45, z_46, z_47, z_48, z_49, z_50, z_51, z_52, z_53, z_54, z_55, z_56, z_57, z_58, z_59, z_60, z_61, z_62, z_63, z_64, z_65, z_66, z_67, z_68, z_69, z_70, z_71, z_72, z_73, z_74, z_75, z_76, z_77, z_78, z_79, z_80, z_81, z_82, z_83, z_84, z_85, z_86, z_87, z_88, z_89, z_90, z_91, z_92, z_93, z_94, z_95, z_96, z_97, z_98, z_99, z_100, z_101, z_102, z_103, z_104, z_105, z_106, z_107, z_108, z_109, z_110, z_111, z_112, z_113, z_114, z_115, z_116, z_117, z_118, z_119, z_120, z_121, z_122, z_123, z_124, z_125, z_126, z_127, z_199, z_200, z_360, z_410, z_1000, z_1023, z_1024, z_1219, z_9999, z_10240, z_65537], hd, rng_rf d⟩
theorem c_tell (m d : Nat → Int → Int) (τ : qL) (hd : okd d) (a b : Int32) : ∃ r d', f_X6_tell (eC d) a b = some (r, eC d') ∧ f_X7_tell (eC (pw m d)) τ a b = some (r, eC (pw m d')) ∧ okd d' ∧ rng d d' := by
  obtain ⟨a, a0, a1, rfl⟩ := z_of a
  obtain ⟨b, b0, b1, rfl⟩ := z_of b
  by_cases ca : 0 ≤ a ∧ a ≤ 9
  · by_cases cb : 0 ≤ b ∧ b ≤ 9
    · exact ⟨zI (d 3 a), ud d 3 a b, by unfold f_X6_tell; simp (disch := omega) only [x_isPlace, x_isHouse, x_isTale, x_within, x_longBetween, x_layRoad, x_doubtOf, x_furnish, x_beliefOf, x_convince, x_fadesInto, x_letFade, s_T, s_F, s_bd, s_cl, s_rd, s_wr, s_ite, z_ite, z_neg, z_add, z_sub, z_mul, z_le, z_lt, z_eq, eC_at, eC_7, eC_8, eC_9, eC_10, eC_11, eC_p7, eC_p8, eC_p9, eC_p10, eC_p11, eC_up, ud_same, ud_ne, if_pos, if_neg, z_0, z_1, z_2, z_3, z_4, z_5, z_6, z_7, z_8, z_9, z_10, z_11, z_12, z_13, z_14, z_15, z_16, z_17, z_18, z_19, z_20, z_21, z_22, z_23, z_24, z_25, z_26, z_27, z_28, z_29, z_30, z_31, z_32, z_33, z_34, z_35, z_36, z_37, z_38, z_39, z_40, z_41, z_42, z_43, z_44, z_45, z_46, z_47, z_48, z_49, z_50, z_51, z_52, z_53, z_54, z_55, z_56, z_57, z_58, z_59, z_60, z_61, z_62, z_63, z_64, z_65, z_66, z_67, z_68, z_69, z_70, z_71, z_72, z_73, z_74, z_75, z_76, z_77, z_78, z_79, z_80, z_81, z_82, z_83, z_84, z_85, z_86, z_87, z_88, z_89, z_90, z_91, z_92, z_93, z_94, z_95, z_96, z_97, z_98, z_99, z_100, z_101, z_102, z_103, z_104, z_105, z_106, z_107, z_108, z_109, z_110, z_111, z_112, z_113, z_114, z_115, z_116, z_117, z_118, z_119, z_120, z_121, z_122, z_123, z_124, z_125, z_126, z_127, z_199, z_200, z_360, z_410, z_1000, z_1023, z_1024, z_1219, z_9999, z_10240, z_65537], by unfold f_X7_tell; simp (disch := omega) only [m_isPlace, m_isHouse, m_isTale, m_in, z_l, zl_neg, zl_0, zl_1, zl_2, zl_3, zl_5, zl_8, zl_9, zl_10, zl_19, zl_33, zl_40, zl_49, zl_57, zl_60, zl_65, zl_74, zl_99, zl_100, zl_126, zl_199, zl_1000, zl_1219, zl_9999, pw_0, up_0, pw_1, up_1, pw_2, up_2, pw_3, up_3, pw_4, up_4, pw_9, up_9, pw_10, up_10, pwi_5, upi_5, pwi_6, upi_6, pwi_7, upi_7, pwi_8, upi_8, pwi_11, upi_11, pw_12, up_12, pw_14, up_14, pw_15, up_15, pw_16, up_16, pw_18, up_18, pw_24, up_24, pw_25, up_25, pw_26, up_26, pw_29, up_29, pw_30, up_30, pw_31, up_31, pwi_13, upi_13, pwi_17, upi_17, pwi_19, upi_19, pwi_20, upi_20, pwi_21, upi_21, pwi_22, upi_22, pwi_23, upi_23, pwi_32, upi_32, pwi_33, upi_33, eC_5, eC_6, eC_13, eC_17, eC_19, eC_20, eC_21, eC_22, eC_23, eC_32, eC_33, eC_p5, eC_p6, eC_p13, eC_p17, eC_p19, eC_p20, eC_p21, eC_p22, eC_p23, eC_p32, eC_p33, s_T, s_F, s_bd, s_cl, s_rd, s_wr, s_ite, z_ite, z_neg, z_add, z_sub, z_mul, z_le, z_lt, z_eq, eC_at, eC_7, eC_8, eC_9, eC_10, eC_11, eC_p7, eC_p8, eC_p9, eC_p10, eC_p11, eC_up, ud_same, ud_ne, if_pos, if_neg, z_0, z_1, z_2, z_3, z_4, z_5, z_6, z_7, z_8, z_9, z_10, z_11, z_12, z_13, z_14, z_15, z_16, z_17, z_18, z_19, z_20, z_21, z_22, z_23, z_24, z_25, z_26, z_27, z_28, z_29, z_30, z_31, z_32, z_33, z_34, z_35, z_36, z_37, z_38, z_39, z_40, z_41, z_42, z_43, z_44, z_45, z_46, z_47, z_48, z_49, z_50, z_51, z_52, z_53, z_54, z_55, z_56, z_57, z_58, z_59, z_60, z_61, z_62, z_63, z_64, z_65, z_66, z_67, z_68, z_69, z_70, z_71, z_72, z_73, z_74, z_75, z_76, z_77, z_78, z_79, z_80, z_81, z_82, z_83, z_84, z_85, z_86, z_87, z_88, z_89, z_90, z_91, z_92, z_93, z_94, z_95, z_96, z_97, z_98, z_99, z_100, z_101, z_102, z_103, z_104, z_105, z_106, z_107, z_108, z_109, z_110, z_111, z_112, z_113, z_114, z_115, z_116, z_117, z_118, z_119, z_120, z_121, z_122, z_123, z_124, z_125, z_126, z_127, z_199, z_200, z_360, z_410, z_1000, z_1023, z_1024, z_1219, z_9999, z_10240, z_65537], okd_ud hd (show (-6 : Int) ≤ b by omega) (show b ≤ (9 : Int) by omega), rng_ud (Or.inr (Or.inl ⟨by omega, by omega, by omega⟩))⟩
    · by_cases cn : b = -1
      · exact ⟨zI (d 3 a), ud d 3 a (-6), by unfold f_X6_tell; simp (disch := omega) only [x_isPlace, x_isHouse, x_isTale, x_within, x_longBetween, x_layRoad, x_doubtOf, x_furnish, x_beliefOf, x_convince, x_fadesInto, x_letFade, s_T, s_F, s_bd, s_cl, s_rd, s_wr, s_ite, z_ite, z_neg, z_add, z_sub, z_mul, z_le, z_lt, z_eq, eC_at, eC_7, eC_8, eC_9, eC_10, eC_11, eC_p7, eC_p8, eC_p9, eC_p10, eC_p11, eC_up, ud_same, ud_ne, if_pos, if_neg, z_0, z_1, z_2, z_3, z_4, z_5, z_6, z_7, z_8, z_9, z_10, z_11, z_12, z_13, z_14, z_15, z_16, z_17, z_18, z_19, z_20, z_21, z_22, z_23, z_24, z_25, z_26, z_27, z_28, z_29, z_30, z_31, z_32, z_33, z_34, z_35, z_36, z_37, z_38, z_39, z_40, z_41, z_42, z_43, z_44, z_45, z_46, z_47, z_48, z_49, z_50, z_51, z_52, z_53, z_54, z_55, z_56, z_57, z_58, z_59, z_60, z_61, z_62, z_63, z_64, z_65, z_66, z_67, z_68, z_69, z_70, z_71, z_72, z_73, z_74, z_75, z_76, z_77, z_78, z_79, z_80, z_81, z_82, z_83, z_84, z_85, z_86, z_87, z_88, z_89, z_90, z_91, z_92, z_93, z_94, z_95, z_96, z_97, z_98, z_99, z_100, z_101, z_102, z_103, z_104, z_105, z_106, z_107, z_108, z_109, z_110, z_111, z_112, z_113, z_114, z_115, z_116, z_117, z_118, z_119, z_120, z_121, z_122, z_123, z_124, z_125, z_126, z_127, z_199, z_200, z_360, z_410, z_1000, z_1023, z_1024, z_1219, z_9999, z_10240, z_65537], by unfold f_X7_tell; simp (disch := omega) only [m_isPlace, m_isHouse, m_isTale, m_in, z_l, zl_neg, zl_0, zl_1, zl_2, zl_3, zl_5, zl_8, zl_9, zl_10, zl_19, zl_33, zl_40, zl_49, zl_57, zl_60, zl_65, zl_74, zl_99, zl_100, zl_126, zl_199, zl_1000, zl_1219, zl_9999, pw_0, up_0, pw_1, up_1, pw_2, up_2, pw_3, up_3, pw_4, up_4, pw_9, up_9, pw_10, up_10, pwi_5, upi_5, pwi_6, upi_6, pwi_7, upi_7, pwi_8, upi_8, pwi_11, upi_11, pw_12, up_12, pw_14, up_14, pw_15, up_15, pw_16, up_16, pw_18, up_18, pw_24, up_24, pw_25, up_25, pw_26, up_26, pw_29, up_29, pw_30, up_30, pw_31, up_31, pwi_13, upi_13, pwi_17, upi_17, pwi_19, upi_19, pwi_20, upi_20, pwi_21, upi_21, pwi_22, upi_22, pwi_23, upi_23, pwi_32, upi_32, pwi_33, upi_33, eC_5, eC_6, eC_13, eC_17, eC_19, eC_20, eC_21, eC_22, eC_23, eC_32, eC_33, eC_p5, eC_p6, eC_p13, eC_p17, eC_p19, eC_p20, eC_p21, eC_p22, eC_p23, eC_p32, eC_p33, s_T, s_F, s_bd, s_cl, s_rd, s_wr, s_ite, z_ite, z_neg, z_add, z_sub, z_mul, z_le, z_lt, z_eq, eC_at, eC_7, eC_8, eC_9, eC_10, eC_11, eC_p7, eC_p8, eC_p9, eC_p10, eC_p11, eC_up, ud_same, ud_ne, if_pos, if_neg, z_0, z_1, z_2, z_3, z_4, z_5, z_6, z_7, z_8, z_9, z_10, z_11, z_12, z_13, z_14, z_15, z_16, z_17, z_18, z_19, z_20, z_21, z_22, z_23, z_24, z_25, z_26, z_27, z_28, z_29, z_30, z_31, z_32, z_33, z_34, z_35, z_36, z_37, z_38, z_39, z_40, z_41, z_42, z_43, z_44, z_45, z_46, z_47, z_48, z_49, z_50, z_51, z_52, z_53, z_54, z_55, z_56, z_57, z_58, z_59, z_60, z_61, z_62, z_63, z_64, z_65, z_66, z_67, z_68, z_69, z_70, z_71, z_72, z_73, z_74, z_75, z_76, z_77, z_78, z_79, z_80, z_81, z_82, z_83, z_84, z_85, z_86, z_87, z_88, z_89, z_90, z_91, z_92, z_93, z_94, z_95, z_96, z_97, z_98, z_99, z_100, z_101, z_102, z_103, z_104, z_105, z_106, z_107, z_108, z_109, z_110, z_111, z_112, z_113, z_114, z_115, z_116, z_117, z_118, z_119, z_120, z_121, z_122, z_123, z_124, z_125, z_126, z_127, z_199, z_200, z_360, z_410, z_1000, z_1023, z_1024, z_1219, z_9999, z_10240, z_65537], okd_ud hd (show (-6 : Int) ≤ -6 by omega) (show -6 ≤ (9 : Int) by omega), rng_ud (Or.inr (Or.inl ⟨by omega, by omega, by omega⟩))⟩
      · exact ⟨zI (-1), d, by unfold f_X6_tell; simp (disch := omega) only [x_isPlace, x_isHouse, x_isTale, x_within, x_longBetween, x_layRoad, x_doubtOf, x_furnish, x_beliefOf, x_convince, x_fadesInto, x_letFade, s_T, s_F, s_bd, s_cl, s_rd, s_wr, s_ite, z_ite, z_neg, z_add, z_sub, z_mul, z_le, z_lt, z_eq, eC_at, eC_7, eC_8, eC_9, eC_10, eC_11, eC_p7, eC_p8, eC_p9, eC_p10, eC_p11, eC_up, ud_same, ud_ne, if_pos, if_neg, z_0, z_1, z_2, z_3, z_4, z_5, z_6, z_7, z_8, z_9, z_10, z_11, z_12, z_13, z_14, z_15, z_16, z_17, z_18, z_19, z_20, z_21, z_22, z_23, z_24, z_25, z_26, z_27, z_28, z_29, z_30, z_31, z_32, z_33, z_34, z_35, z_36, z_37, z_38, z_39, z_40, z_41, z_42, z_43, z_44, z_45, z_46, z_47, z_48, z_49, z_50, z_51, z_52, z_53, z_54, z_55, z_56, z_57, z_58, z_59, z_60, z_61, z_62, z_63, z_64, z_65, z_66, z_67, z_68, z_69, z_70, z_71, z_72, z_73, z_74, z_75, z_76, z_77, z_78, z_79, z_80, z_81, z_82, z_83, z_84, z_85, z_86, z_87, z_88, z_89, z_90, z_91, z_92, z_93, z_94, z_95, z_96, z_97, z_98, z_99, z_100, z_101, z_102, z_103, z_104, z_105, z_106, z_107, z_108, z_109, z_110, z_111, z_112, z_113, z_114, z_115, z_116, z_117, z_118, z_119, z_120, z_121, z_122, z_123, z_124, z_125, z_126, z_127, z_199, z_200, z_360, z_410, z_1000, z_1023, z_1024, z_1219, z_9999, z_10240, z_65537], by unfold f_X7_tell; simp (disch := omega) only [m_isPlace, m_isHouse, m_isTale, m_in, z_l, zl_neg, zl_0, zl_1, zl_2, zl_3, zl_5, zl_8, zl_9, zl_10, zl_19, zl_33, zl_40, zl_49, zl_57, zl_60, zl_65, zl_74, zl_99, zl_100, zl_126, zl_199, zl_1000, zl_1219, zl_9999, pw_0, up_0, pw_1, up_1, pw_2, up_2, pw_3, up_3, pw_4, up_4, pw_9, up_9, pw_10, up_10, pwi_5, upi_5, pwi_6, upi_6, pwi_7, upi_7, pwi_8, upi_8, pwi_11, upi_11, pw_12, up_12, pw_14, up_14, pw_15, up_15, pw_16, up_16, pw_18, up_18, pw_24, up_24, pw_25, up_25, pw_26, up_26, pw_29, up_29, pw_30, up_30, pw_31, up_31, pwi_13, upi_13, pwi_17, upi_17, pwi_19, upi_19, pwi_20, upi_20, pwi_21, upi_21, pwi_22, upi_22, pwi_23, upi_23, pwi_32, upi_32, pwi_33, upi_33, eC_5, eC_6, eC_13, eC_17, eC_19, eC_20, eC_21, eC_22, eC_23, eC_32, eC_33, eC_p5, eC_p6, eC_p13, eC_p17, eC_p19, eC_p20, eC_p21, eC_p22, eC_p23, eC_p32, eC_p33, s_T, s_F, s_bd, s_cl, s_rd, s_wr, s_ite, z_ite, z_neg, z_add, z_sub, z_mul, z_le, z_lt, z_eq, eC_at, eC_7, eC_8, eC_9, eC_10, eC_11, eC_p7, eC_p8, eC_p9, eC_p10, eC_p11, eC_up, ud_same, ud_ne, if_pos, if_neg, z_0, z_1, z_2, z_3, z_4, z_5, z_6, z_7, z_8, z_9, z_10, z_11, z_12, z_13, z_14, z_15, z_16, z_17, z_18, z_19, z_20, z_21, z_22, z_23, z_24, z_25, z_26, z_27, z_28, z_29, z_30, z_31, z_32, z_33, z_34, z_35, z_36, z_37, z_38, z_39, z_40, z_41, z_42, z_43, z_44, z_45, z_46, z_47, z_48, z_49, z_50, z_51, z_52, z_53, z_54, z_55, z_56, z_57, z_58, z_59, z_60, z_61, z_62, z_63, z_64, z_65, z_66, z_67, z_68, z_69, z_70, z_71, z_72, z_73, z_74, z_75, z_76, z_77, z_78, z_79, z_80, z_81, z_82, z_83, z_84, z_85, z_86, z_87, z_88, z_89, z_90, z_91, z_92, z_93, z_94, z_95, z_96, z_97, z_98, z_99, z_100, z_101, z_102, z_103, z_104, z_105, z_106, z_107, z_108, z_109, z_110, z_111, z_112, z_113, z_114, z_115, z_116, z_117, z_118, z_119, z_120, z_121, z_122, z_123, z_124, z_125, z_126, z_127, z_199, z_200, z_360, z_410, z_1000, z_1023, z_1024, z_1219, z_9999, z_10240, z_65537], hd, rng_rf d⟩
  · exact ⟨zI (-1), d, by unfold f_X6_tell; simp (disch := omega) only [x_isPlace, x_isHouse, x_isTale, x_within, x_longBetween, x_layRoad, x_doubtOf, x_furnish, x_beliefOf, x_convince, x_fadesInto, x_letFade, s_T, s_F, s_bd, s_cl, s_rd, s_wr, s_ite, z_ite, z_neg, z_add, z_sub, z_mul, z_le, z_lt, z_eq, eC_at, eC_7, eC_8, eC_9, eC_10, eC_11, eC_p7, eC_p8, eC_p9, eC_p10, eC_p11, eC_up, ud_same, ud_ne, if_pos, if_neg, z_0, z_1, z_2, z_3, z_4, z_5, z_6, z_7, z_8, z_9, z_10, z_11, z_12, z_13, z_14, z_15, z_16, z_17, z_18, z_19, z_20, z_21, z_22, z_23, z_24, z_25, z_26, z_27, z_28, z_29, z_30, z_31, z_32, z_33, z_34, z_35, z_36, z_37, z_38, z_39, z_40, z_41, z_42, z_43, z_44, z_45, z_46, z_47, z_48, z_49, z_50, z_51, z_52, z_53, z_54, z_55, z_56, z_57, z_58, z_59, z_60, z_61, z_62, z_63, z_64, z_65, z_66, z_67, z_68, z_69, z_70, z_71, z_72, z_73, z_74, z_75, z_76, z_77, z_78, z_79, z_80, z_81, z_82, z_83, z_84, z_85, z_86, z_87, z_88, z_89, z_90, z_91, z_92, z_93, z_94, z_95, z_96, z_97, z_98, z_99, z_100, z_101, z_102, z_103, z_104, z_105, z_106, z_107, z_108, z_109, z_110, z_111, z_112, z_113, z_114, z_115, z_116, z_117, z_118, z_119, z_120, z_121, z_122, z_123, z_124, z_125, z_126, z_127, z_199, z_200, z_360, z_410, z_1000, z_1023, z_1024, z_1219, z_9999, z_10240, z_65537], by unfold f_X7_tell; simp (disch := omega) only [m_isPlace, m_isHouse, m_isTale, m_in, z_l, zl_neg, zl_0, zl_1, zl_2, zl_3, zl_5, zl_8, zl_9, zl_10, zl_19, zl_33, zl_40, zl_49, zl_57, zl_60, zl_65, zl_74, zl_99, zl_100, zl_126, zl_199, zl_1000, zl_1219, zl_9999, pw_0, up_0, pw_1, up_1, pw_2, up_2, pw_3, up_3, pw_4, up_4, pw_9, up_9, pw_10, up_10, pwi_5, upi_5, pwi_6, upi_6, pwi_7, upi_7, pwi_8, upi_8, pwi_11, upi_11, pw_12, up_12, pw_14, up_14, pw_15, up_15, pw_16, up_16, pw_18, up_18, pw_24, up_24, pw_25, up_25, pw_26, up_26, pw_29, up_29, pw_30, up_30, pw_31, up_31, pwi_13, upi_13, pwi_17, upi_17, pwi_19, upi_19, pwi_20, upi_20, pwi_21, upi_21, pwi_22, upi_22, pwi_23, upi_23, pwi_32, upi_32, pwi_33, upi_33, eC_5, eC_6, eC_13, eC_17, eC_19, eC_20, eC_21, eC_22, eC_23, eC_32, eC_33, eC_p5, eC_p6, eC_p13, eC_p17, eC_p19, eC_p20, eC_p21, eC_p22, eC_p23, eC_p32, eC_p33, s_T, s_F, s_bd, s_cl, s_rd, s_wr, s_ite, z_ite, z_neg, z_add, z_sub, z_mul, z_le, z_lt, z_eq, eC_at, eC_7, eC_8, eC_9, eC_10, eC_11, eC_p7, eC_p8, eC_p9, eC_p10, eC_p11, eC_up, ud_same, ud_ne, if_pos, if_neg, z_0, z_1, z_2, z_3, z_4, z_5, z_6, z_7, z_8, z_9, z_10, z_11, z_12, z_13, z_14, z_15, z_16, z_17, z_18, z_19, z_20, z_21, z_22, z_23, z_24, z_25, z_26, z_27, z_28, z_29, z_30, z_31, z_32, z_33, z_34, z_35, z_36, z_37, z_38, z_39, z_40, z_41, z_42, z_43, z_44, z_45, z_46, z_47, z_48, z_49, z_50, z_51, z_52, z_53, z_54, z_55, z_56, z_57, z_58, z_59, z_60, z_61, z_62, z_63, z_64, z_65, z_66, z_67, z_68, z_69, z_70, z_71, z_72, z_73, z_74, z_75, z_76, z_77, z_78, z_79, z_80, z_81, z_82, z_83, z_84, z_85, z_86, z_87, z_88, z_89, z_90, z_91, z_92, z_93, z_94, z_95, z_96, z_97, z_98, z_99, z_100, z_101, z_102, z_103, z_104, z_105, z_106, z_107, z_108, z_109, z_110, z_111, z_112, z_113, z_114, z_115, z_116, z_117, z_118, z_119, z_120, z_121, z_122, z_123, z_124, z_125, z_126, z_127, z_199, z_200, z_360, z_410, z_1000, z_1023, z_1024, z_1219, z_9999, z_10240, z_65537], hd, rng_rf d⟩
theorem c_fade (m d : Nat → Int → Int) (τ : qL) (hd : okd d) (a b : Int32) : ∃ r d', f_X6_fade (eC d) a b = some (r, eC d') ∧ f_X7_fade (eC (pw m d)) τ a b = some (r, eC (pw m d')) ∧ okd d' ∧ rng d d' := by
  obtain ⟨a, a0, a1, rfl⟩ := z_of a
  obtain ⟨b, b0, b1, rfl⟩ := z_of b
  by_cases ca : 0 ≤ a ∧ a ≤ 9
  · by_cases cb : 0 ≤ b ∧ b ≤ 9
    · refine ⟨zI (d 4 a), ud d 4 a b, by unfold f_X6_fade; simp (disch := omega) only [x_isPlace, x_isHouse, x_isTale, x_within, x_longBetween, x_layRoad, x_doubtOf, x_furnish, x_beliefOf, x_convince, x_fadesInto, x_letFade, s_T, s_F, s_bd, s_cl, s_rd, s_wr, s_ite, z_ite, z_neg, z_add, z_sub, z_mul, z_le, z_lt, z_eq, eC_at, eC_7, eC_8, eC_9, eC_10, eC_11, eC_p7, eC_p8, eC_p9, eC_p10, eC_p11, eC_up, ud_same, ud_ne, if_pos, if_neg, z_0, z_1, z_2, z_3, z_4, z_5, z_6, z_7, z_8, z_9, z_10, z_11, z_12, z_13, z_14, z_15, z_16, z_17, z_18, z_19, z_20, z_21, z_22, z_23, z_24, z_25, z_26, z_27, z_28, z_29, z_30, z_31, z_32, z_33, z_34, z_35, z_36, z_37, z_38, z_39, z_40, z_41, z_42, z_43, z_44, z_45, z_46, z_47, z_48, z_49, z_50, z_51, z_52, z_53, z_54, z_55, z_56, z_57, z_58, z_59, z_60, z_61, z_62, z_63, z_64, z_65, z_66, z_67, z_68, z_69, z_70, z_71, z_72, z_73, z_74, z_75, z_76, z_77, z_78, z_79, z_80, z_81, z_82, z_83, z_84, z_85, z_86, z_87, z_88, z_89, z_90, z_91, z_92, z_93, z_94, z_95, z_96, z_97, z_98, z_99, z_100, z_101, z_102, z_103, z_104, z_105, z_106, z_107, z_108, z_109, z_110, z_111, z_112, z_113, z_114, z_115, z_116, z_117, z_118, z_119, z_120, z_121, z_122, z_123, z_124, z_125, z_126, z_127, z_199, z_200, z_360, z_410, z_1000, z_1023, z_1024, z_1219, z_9999, z_10240, z_65537], by unfold f_X7_fade; simp (disch := omega) only [m_isPlace, m_isHouse, m_isTale, m_in, z_l, zl_neg, zl_0, zl_1, zl_2, zl_3, zl_5, zl_8, zl_9, zl_10, zl_19, zl_33, zl_40, zl_49, zl_57, zl_60, zl_65, zl_74, zl_99, zl_100, zl_126, zl_199, zl_1000, zl_1219, zl_9999, pw_0, up_0, pw_1, up_1, pw_2, up_2, pw_3, up_3, pw_4, up_4, pw_9, up_9, pw_10, up_10, pwi_5, upi_5, pwi_6, upi_6, pwi_7, upi_7, pwi_8, upi_8, pwi_11, upi_11, pw_12, up_12, pw_14, up_14, pw_15, up_15, pw_16, up_16, pw_18, up_18, pw_24, up_24, pw_25, up_25, pw_26, up_26, pw_29, up_29, pw_30, up_30, pw_31, up_31, pwi_13, upi_13, pwi_17, upi_17, pwi_19, upi_19, pwi_20, upi_20, pwi_21, upi_21, pwi_22, upi_22, pwi_23, upi_23, pwi_32, upi_32, pwi_33, upi_33, eC_5, eC_6, eC_13, eC_17, eC_19, eC_20, eC_21, eC_22, eC_23, eC_32, eC_33, eC_p5, eC_p6, eC_p13, eC_p17, eC_p19, eC_p20, eC_p21, eC_p22, eC_p23, eC_p32, eC_p33, s_T, s_F, s_bd, s_cl, s_rd, s_wr, s_ite, z_ite, z_neg, z_add, z_sub, z_mul, z_le, z_lt, z_eq, eC_at, eC_7, eC_8, eC_9, eC_10, eC_11, eC_p7, eC_p8, eC_p9, eC_p10, eC_p11, eC_up, ud_same, ud_ne, if_pos, if_neg, z_0, z_1, z_2, z_3, z_4, z_5, z_6, z_7, z_8, z_9, z_10, z_11, z_12, z_13, z_14, z_15, z_16, z_17, z_18, z_19, z_20, z_21, z_22, z_23, z_24, z_25, z_26, z_27, z_28, z_29, z_30, z_31, z_32, z_33, z_34, z_35, z_36, z_37, z_38, z_39, z_40, z_41, z_42, z_43, z_44, z_45, z_46, z_47, z_48, z_49, z_50, z_51, z_52, z_53, z_54, z_55, z_56, z_57, z_58, z_59, z_60, z_61, z_62, z_63, z_64, z_65, z_66, z_67, z_68, z_69, z_70, z_71, z_72, z_73, z_74, z_75, z_76, z_77, z_78, z_79, z_80, z_81, z_82, z_83, z_84, z_85, z_86, z_87, z_88, z_89, z_90, z_91, z_92, z_93, z_94, z_95, z_96, z_97, z_98, z_99, z_100, z_101, z_102, z_103, z_104, z_105, z_106, z_107, z_108, z_109, z_110, z_111, z_112, z_113, z_114, z_115, z_116, z_117, z_118, z_119, z_120, z_121, z_122, z_123, z_124, z_125, z_126, z_127, z_199, z_200, z_360, z_410, z_1000, z_1023, z_1024, z_1219, z_9999, z_10240, z_65537], okd_ud hd ?_ ?_, rng_ud (Or.inr (Or.inl ⟨by omega, by omega, by omega⟩))⟩
      · unfold lod; rw [if_neg (by decide), if_pos rfl, if_neg (by omega)]; omega
      · unfold hid; rw [if_neg (by decide), if_neg (by decide), if_neg (by decide), if_neg (by decide), if_pos rfl, if_pos (by omega)]; omega
    · exact ⟨zI (-1), d, by unfold f_X6_fade; simp (disch := omega) only [x_isPlace, x_isHouse, x_isTale, x_within, x_longBetween, x_layRoad, x_doubtOf, x_furnish, x_beliefOf, x_convince, x_fadesInto, x_letFade, s_T, s_F, s_bd, s_cl, s_rd, s_wr, s_ite, z_ite, z_neg, z_add, z_sub, z_mul, z_le, z_lt, z_eq, eC_at, eC_7, eC_8, eC_9, eC_10, eC_11, eC_p7, eC_p8, eC_p9, eC_p10, eC_p11, eC_up, ud_same, ud_ne, if_pos, if_neg, z_0, z_1, z_2, z_3, z_4, z_5, z_6, z_7, z_8, z_9, z_10, z_11, z_12, z_13, z_14, z_15, z_16, z_17, z_18, z_19, z_20, z_21, z_22, z_23, z_24, z_25, z_26, z_27, z_28, z_29, z_30, z_31, z_32, z_33, z_34, z_35, z_36, z_37, z_38, z_39, z_40, z_41, z_42, z_43, z_44, z_45, z_46, z_47, z_48, z_49, z_50, z_51, z_52, z_53, z_54, z_55, z_56, z_57, z_58, z_59, z_60, z_61, z_62, z_63, z_64, z_65, z_66, z_67, z_68, z_69, z_70, z_71, z_72, z_73, z_74, z_75, z_76, z_77, z_78, z_79, z_80, z_81, z_82, z_83, z_84, z_85, z_86, z_87, z_88, z_89, z_90, z_91, z_92, z_93, z_94, z_95, z_96, z_97, z_98, z_99, z_100, z_101, z_102, z_103, z_104, z_105, z_106, z_107, z_108, z_109, z_110, z_111, z_112, z_113, z_114, z_115, z_116, z_117, z_118, z_119, z_120, z_121, z_122, z_123, z_124, z_125, z_126, z_127, z_199, z_200, z_360, z_410, z_1000, z_1023, z_1024, z_1219, z_9999, z_10240, z_65537], by unfold f_X7_fade; simp (disch := omega) only [m_isPlace, m_isHouse, m_isTale, m_in, z_l, zl_neg, zl_0, zl_1, zl_2, zl_3, zl_5, zl_8, zl_9, zl_10, zl_19, zl_33, zl_40, zl_49, zl_57, zl_60, zl_65, zl_74, zl_99, zl_100, zl_126, zl_199, zl_1000, zl_1219, zl_9999, pw_0, up_0, pw_1, up_1, pw_2, up_2, pw_3, up_3, pw_4, up_4, pw_9, up_9, pw_10, up_10, pwi_5, upi_5, pwi_6, upi_6, pwi_7, upi_7, pwi_8, upi_8, pwi_11, upi_11, pw_12, up_12, pw_14, up_14, pw_15, up_15, pw_16, up_16, pw_18, up_18, pw_24, up_24, pw_25, up_25, pw_26, up_26, pw_29, up_29, pw_30, up_30, pw_31, up_31, pwi_13, upi_13, pwi_17, upi_17, pwi_19, upi_19, pwi_20, upi_20, pwi_21, upi_21, pwi_22, upi_22, pwi_23, upi_23, pwi_32, upi_32, pwi_33, upi_33, eC_5, eC_6, eC_13, eC_17, eC_19, eC_20, eC_21, eC_22, eC_23, eC_32, eC_33, eC_p5, eC_p6, eC_p13, eC_p17, eC_p19, eC_p20, eC_p21, eC_p22, eC_p23, eC_p32, eC_p33, s_T, s_F, s_bd, s_cl, s_rd, s_wr, s_ite, z_ite, z_neg, z_add, z_sub, z_mul, z_le, z_lt, z_eq, eC_at, eC_7, eC_8, eC_9, eC_10, eC_11, eC_p7, eC_p8, eC_p9, eC_p10, eC_p11, eC_up, ud_same, ud_ne, if_pos, if_neg, z_0, z_1, z_2, z_3, z_4, z_5, z_6, z_7, z_8, z_9, z_10, z_11, z_12, z_13, z_14, z_15, z_16, z_17, z_18, z_19, z_20, z_21, z_22, z_23, z_24, z_25, z_26, z_27, z_28, z_29, z_30, z_31, z_32, z_33, z_34, z_35, z_36, z_37, z_38, z_39, z_40, z_41, z_42, z_43, z_44, z_45, z_46, z_47, z_48, z_49, z_50, z_51, z_52, z_53, z_54, z_55, z_56, z_57, z_58, z_59, z_60, z_61, z_62, z_63, z_64, z_65, z_66, z_67, z_68, z_69, z_70, z_71, z_72, z_73, z_74, z_75, z_76, z_77, z_78, z_79, z_80, z_81, z_82, z_83, z_84, z_85, z_86, z_87, z_88, z_89, z_90, z_91, z_92, z_93, z_94, z_95, z_96, z_97, z_98, z_99, z_100, z_101, z_102, z_103, z_104, z_105, z_106, z_107, z_108, z_109, z_110, z_111, z_112, z_113, z_114, z_115, z_116, z_117, z_118, z_119, z_120, z_121, z_122, z_123, z_124, z_125, z_126, z_127, z_199, z_200, z_360, z_410, z_1000, z_1023, z_1024, z_1219, z_9999, z_10240, z_65537], hd, rng_rf d⟩
  · exact ⟨zI (-1), d, by unfold f_X6_fade; simp (disch := omega) only [x_isPlace, x_isHouse, x_isTale, x_within, x_longBetween, x_layRoad, x_doubtOf, x_furnish, x_beliefOf, x_convince, x_fadesInto, x_letFade, s_T, s_F, s_bd, s_cl, s_rd, s_wr, s_ite, z_ite, z_neg, z_add, z_sub, z_mul, z_le, z_lt, z_eq, eC_at, eC_7, eC_8, eC_9, eC_10, eC_11, eC_p7, eC_p8, eC_p9, eC_p10, eC_p11, eC_up, ud_same, ud_ne, if_pos, if_neg, z_0, z_1, z_2, z_3, z_4, z_5, z_6, z_7, z_8, z_9, z_10, z_11, z_12, z_13, z_14, z_15, z_16, z_17, z_18, z_19, z_20, z_21, z_22, z_23, z_24, z_25, z_26, z_27, z_28, z_29, z_30, z_31, z_32, z_33, z_34, z_35, z_36, z_37, z_38, z_39, z_40, z_41, z_42, z_43, z_44, z_45, z_46, z_47, z_48, z_49, z_50, z_51, z_52, z_53, z_54, z_55, z_56, z_57, z_58, z_59, z_60, z_61, z_62, z_63, z_64, z_65, z_66, z_67, z_68, z_69, z_70, z_71, z_72, z_73, z_74, z_75, z_76, z_77, z_78, z_79, z_80, z_81, z_82, z_83, z_84, z_85, z_86, z_87, z_88, z_89, z_90, z_91, z_92, z_93, z_94, z_95, z_96, z_97, z_98, z_99, z_100, z_101, z_102, z_103, z_104, z_105, z_106, z_107, z_108, z_109, z_110, z_111, z_112, z_113, z_114, z_115, z_116, z_117, z_118, z_119, z_120, z_121, z_122, z_123, z_124, z_125, z_126, z_127, z_199, z_200, z_360, z_410, z_1000, z_1023, z_1024, z_1219, z_9999, z_10240, z_65537], by unfold f_X7_fade; simp (disch := omega) only [m_isPlace, m_isHouse, m_isTale, m_in, z_l, zl_neg, zl_0, zl_1, zl_2, zl_3, zl_5, zl_8, zl_9, zl_10, zl_19, zl_33, zl_40, zl_49, zl_57, zl_60, zl_65, zl_74, zl_99, zl_100, zl_126, zl_199, zl_1000, zl_1219, zl_9999, pw_0, up_0, pw_1, up_1, pw_2, up_2, pw_3, up_3, pw_4, up_4, pw_9, up_9, pw_10, up_10, pwi_5, upi_5, pwi_6, upi_6, pwi_7, upi_7, pwi_8, upi_8, pwi_11, upi_11, pw_12, up_12, pw_14, up_14, pw_15, up_15, pw_16, up_16, pw_18, up_18, pw_24, up_24, pw_25, up_25, pw_26, up_26, pw_29, up_29, pw_30, up_30, pw_31, up_31, pwi_13, upi_13, pwi_17, upi_17, pwi_19, upi_19, pwi_20, upi_20, pwi_21, upi_21, pwi_22, upi_22, pwi_23, upi_23, pwi_32, upi_32, pwi_33, upi_33, eC_5, eC_6, eC_13, eC_17, eC_19, eC_20, eC_21, eC_22, eC_23, eC_32, eC_33, eC_p5, eC_p6, eC_p13, eC_p17, eC_p19, eC_p20, eC_p21, eC_p22, eC_p23, eC_p32, eC_p33, s_T, s_F, s_bd, s_cl, s_rd, s_wr, s_ite, z_ite, z_neg, z_add, z_sub, z_mul, z_le, z_lt, z_eq, eC_at, eC_7, eC_8, eC_9, eC_10, eC_11, eC_p7, eC_p8, eC_p9, eC_p10, eC_p11, eC_up, ud_same, ud_ne, if_pos, if_neg, z_0, z_1, z_2, z_3, z_4, z_5, z_6, z_7, z_8, z_9, z_10, z_11, z_12, z_13, z_14, z_15, z_16, z_17, z_18, z_19, z_20, z_21, z_22, z_23, z_24, z_25, z_26, z_27, z_28, z_29, z_30, z_31, z_32, z_33, z_34, z_35, z_36, z_37, z_38, z_39, z_40, z_41, z_42, z_43, z_44, z_45, z_46, z_47, z_48, z_49, z_50, z_51, z_52, z_53, z_54, z_55, z_56, z_57, z_58, z_59, z_60, z_61, z_62, z_63, z_64, z_65, z_66, z_67, z_68, z_69, z_70, z_71, z_72, z_73, z_74, z_75, z_76, z_77, z_78, z_79, z_80, z_81, z_82, z_83, z_84, z_85, z_86, z_87, z_88, z_89, z_90, z_91, z_92, z_93, z_94, z_95, z_96, z_97, z_98, z_99, z_100, z_101, z_102, z_103, z_104, z_105, z_106, z_107, z_108, z_109, z_110, z_111, z_112, z_113, z_114, z_115, z_116, z_117, z_118, z_119, z_120, z_121, z_122, z_123, z_124, z_125, z_126, z_127, z_199, z_200, z_360, z_410, z_1000, z_1023, z_1024, z_1219, z_9999, z_10240, z_65537], hd, rng_rf d⟩
/-- the pad of both -/
theorem mpad_ud {m e : Nat → Int → Int} (h : mpad m e) (k : Nat) (i v : Int) (hk : ¬ k = 12 ∧ ¬ (k = 99 ∧ i = 13)) : mpad (ud m k i v) e :=
  ⟨fun j => by rw [ud_ne _ _ (by omega)]; exact h.1 j, by rw [ud_ne _ _ (by omega)]; exact h.2⟩
theorem c_say (m d e : Nat → Int → Int) (τ : qL) (he : okp e) (hp : mpad m e) (a : Int32) : ∃ r e' m', f_X6_say (eC e) a = some (r, eC e') ∧ f_X7_say (eC (pw m d)) τ a = some (r, eC (pw m' d)) ∧ okp e' ∧ mpad m' e' ∧ (∀ k i, k ≠ 12 → ¬ (k = 99 ∧ i = 13) → m' k i = m k i) := by
  obtain ⟨a, a0, a1, rfl⟩ := z_of a
  have h13 := hp.2
  have hn := he.2
  by_cases ca : 33 ≤ a ∧ a ≤ 126
  · by_cases cf : e 99 1 = 60
    · exact ⟨zI (-4), e, m, by unfold f_X6_say f_X3_add; simp (disch := omega) only [x_isPlace, x_isHouse, x_isTale, x_within, x_longBetween, x_layRoad, x_doubtOf, x_furnish, x_beliefOf, x_convince, x_fadesInto, x_letFade, eC_1, s_T, s_F, s_bd, s_cl, s_rd, s_wr, s_ite, z_ite, z_neg, z_add, z_sub, z_mul, z_le, z_lt, z_eq, eC_at, eC_7, eC_8, eC_9, eC_10, eC_11, eC_p7, eC_p8, eC_p9, eC_p10, eC_p11, eC_up, ud_same, ud_ne, if_pos, if_neg, z_0, z_1, z_2, z_3, z_4, z_5, z_6, z_7, z_8, z_9, z_10, z_11, z_12, z_13, z_14, z_15, z_16, z_17, z_18, z_19, z_20, z_21, z_22, z_23, z_24, z_25, z_26, z_27, z_28, z_29, z_30, z_31, z_32, z_33, z_34, z_35, z_36, z_37, z_38, z_39, z_40, z_41, z_42, z_43, z_44, z_45, z_46, z_47, z_48, z_49, z_50, z_51, z_52, z_53, z_54, z_55, z_56, z_57, z_58, z_59, z_60, z_61, z_62, z_63, z_64, z_65, z_66, z_67, z_68, z_69, z_70, z_71, z_72, z_73, z_74, z_75, z_76, z_77, z_78, z_79, z_80, z_81, z_82, z_83, z_84, z_85, z_86, z_87, z_88, z_89, z_90, z_91, z_92, z_93, z_94, z_95, z_96, z_97, z_98, z_99, z_100, z_101, z_102, z_103, z_104, z_105, z_106, z_107, z_108, z_109, z_110, z_111, z_112, z_113, z_114, z_115, z_116, z_117, z_118, z_119, z_120, z_121, z_122, z_123, z_124, z_125, z_126, z_127, z_199, z_200, z_360, z_410, z_1000, z_1023, z_1024, z_1219, z_9999, z_10240, z_65537], by unfold f_X7_say; simp (disch := omega) only [m_isPlace, m_isHouse, m_isTale, m_in, z_l, zl_neg, zl_0, zl_1, zl_2, zl_3, zl_5, zl_8, zl_9, zl_10, zl_19, zl_33, zl_40, zl_49, zl_57, zl_60, zl_65, zl_74, zl_99, zl_100, zl_126, zl_199, zl_1000, zl_1219, zl_9999, h13, pw_0, up_0, pw_1, up_1, pw_2, up_2, pw_3, up_3, pw_4, up_4, pw_9, up_9, pw_10, up_10, pwi_5, upi_5, pwi_6, upi_6, pwi_7, upi_7, pwi_8, upi_8, pwi_11, upi_11, pw_12, up_12, pw_14, up_14, pw_15, up_15, pw_16, up_16, pw_18, up_18, pw_24, up_24, pw_25, up_25, pw_26, up_26, pw_29, up_29, pw_30, up_30, pw_31, up_31, pwi_13, upi_13, pwi_17, upi_17, pwi_19, upi_19, pwi_20, upi_20, pwi_21, upi_21, pwi_22, upi_22, pwi_23, upi_23, pwi_32, upi_32, pwi_33, upi_33, eC_5, eC_6, eC_13, eC_17, eC_19, eC_20, eC_21, eC_22, eC_23, eC_32, eC_33, eC_p5, eC_p6, eC_p13, eC_p17, eC_p19, eC_p20, eC_p21, eC_p22, eC_p23, eC_p32, eC_p33, s_T, s_F, s_bd, s_cl, s_rd, s_wr, s_ite, z_ite, z_neg, z_add, z_sub, z_mul, z_le, z_lt, z_eq, eC_at, eC_7, eC_8, eC_9, eC_10, eC_11, eC_p7, eC_p8, eC_p9, eC_p10, eC_p11, eC_up, ud_same, ud_ne, if_pos, if_neg, z_0, z_1, z_2, z_3, z_4, z_5, z_6, z_7, z_8, z_9, z_10, z_11, z_12, z_13, z_14, z_15, z_16, z_17, z_18, z_19, z_20, z_21, z_22, z_23, z_24, z_25, z_26, z_27, z_28, z_29, z_30, z_31, z_32, z_33, z_34, z_35, z_36, z_37, z_38, z_39, z_40, z_41, z_42, z_43, z_44, z_45, z_46, z_47, z_48, z_49, z_50, z_51, z_52, z_53, z_54, z_55, z_56, z_57, z_58, z_59, z_60, z_61, z_62, z_63, z_64, z_65, z_66, z_67, z_68, z_69, z_70, z_71, z_72, z_73, z_74, z_75, z_76, z_77, z_78, z_79, z_80, z_81, z_82, z_83, z_84, z_85, z_86, z_87, z_88, z_89, z_90, z_91, z_92, z_93, z_94, z_95, z_96, z_97, z_98, z_99, z_100, z_101, z_102, z_103, z_104, z_105, z_106, z_107, z_108, z_109, z_110, z_111, z_112, z_113, z_114, z_115, z_116, z_117, z_118, z_119, z_120, z_121, z_122, z_123, z_124, z_125, z_126, z_127, z_199, z_200, z_360, z_410, z_1000, z_1023, z_1024, z_1219, z_9999, z_10240, z_65537], he, hp, fun _ _ _ _ => rfl⟩
    · refine ⟨zI (e 99 1 + 1), ud (ud e 0 (e 99 1) a) 99 1 (e 99 1 + 1), ud (ud m 12 (e 99 1) a) 99 13 (e 99 1 + 1), by unfold f_X6_say f_X3_add f_X3_size; simp (disch := omega) only [x_isPlace, x_isHouse, x_isTale, x_within, x_longBetween, x_layRoad, x_doubtOf, x_furnish, x_beliefOf, x_convince, x_fadesInto, x_letFade, eC_1, eC_p1, s_T, s_F, s_bd, s_cl, s_rd, s_wr, s_ite, z_ite, z_neg, z_add, z_sub, z_mul, z_le, z_lt, z_eq, eC_at, eC_7, eC_8, eC_9, eC_10, eC_11, eC_p7, eC_p8, eC_p9, eC_p10, eC_p11, eC_up, ud_same, ud_ne, if_pos, if_neg, z_0, z_1, z_2, z_3, z_4, z_5, z_6, z_7, z_8, z_9, z_10, z_11, z_12, z_13, z_14, z_15, z_16, z_17, z_18, z_19, z_20, z_21, z_22, z_23, z_24, z_25, z_26, z_27, z_28, z_29, z_30, z_31, z_32, z_33, z_34, z_35, z_36, z_37, z_38, z_39, z_40, z_41, z_42, z_43, z_44, z_45, z_46, z_47, z_48, z_49, z_50, z_51, z_52, z_53, z_54, z_55, z_56, z_57, z_58, z_59, z_60, z_61, z_62, z_63, z_64, z_65, z_66, z_67, z_68, z_69, z_70, z_71, z_72, z_73, z_74, z_75, z_76, z_77, z_78, z_79, z_80, z_81, z_82, z_83, z_84, z_85, z_86, z_87, z_88, z_89, z_90, z_91, z_92, z_93, z_94, z_95, z_96, z_97, z_98, z_99, z_100, z_101, z_102, z_103, z_104, z_105, z_106, z_107, z_108, z_109, z_110, z_111, z_112, z_113, z_114, z_115, z_116, z_117, z_118, z_119, z_120, z_121, z_122, z_123, z_124, z_125, z_126, z_127, z_199, z_200, z_360, z_410, z_1000, z_1023, z_1024, z_1219, z_9999, z_10240, z_65537], by unfold f_X7_say; simp (disch := omega) only [m_isPlace, m_isHouse, m_isTale, m_in, z_l, zl_neg, zl_0, zl_1, zl_2, zl_3, zl_5, zl_8, zl_9, zl_10, zl_19, zl_33, zl_40, zl_49, zl_57, zl_60, zl_65, zl_74, zl_99, zl_100, zl_126, zl_199, zl_1000, zl_1219, zl_9999, h13, pw_0, up_0, pw_1, up_1, pw_2, up_2, pw_3, up_3, pw_4, up_4, pw_9, up_9, pw_10, up_10, pwi_5, upi_5, pwi_6, upi_6, pwi_7, upi_7, pwi_8, upi_8, pwi_11, upi_11, pw_12, up_12, pw_14, up_14, pw_15, up_15, pw_16, up_16, pw_18, up_18, pw_24, up_24, pw_25, up_25, pw_26, up_26, pw_29, up_29, pw_30, up_30, pw_31, up_31, pwi_13, upi_13, pwi_17, upi_17, pwi_19, upi_19, pwi_20, upi_20, pwi_21, upi_21, pwi_22, upi_22, pwi_23, upi_23, pwi_32, upi_32, pwi_33, upi_33, eC_5, eC_6, eC_13, eC_17, eC_19, eC_20, eC_21, eC_22, eC_23, eC_32, eC_33, eC_p5, eC_p6, eC_p13, eC_p17, eC_p19, eC_p20, eC_p21, eC_p22, eC_p23, eC_p32, eC_p33, s_T, s_F, s_bd, s_cl, s_rd, s_wr, s_ite, z_ite, z_neg, z_add, z_sub, z_mul, z_le, z_lt, z_eq, eC_at, eC_7, eC_8, eC_9, eC_10, eC_11, eC_p7, eC_p8, eC_p9, eC_p10, eC_p11, eC_up, ud_same, ud_ne, if_pos, if_neg, z_0, z_1, z_2, z_3, z_4, z_5, z_6, z_7, z_8, z_9, z_10, z_11, z_12, z_13, z_14, z_15, z_16, z_17, z_18, z_19, z_20, z_21, z_22, z_23, z_24, z_25, z_26, z_27, z_28, z_29, z_30, z_31, z_32, z_33, z_34, z_35, z_36, z_37, z_38, z_39, z_40, z_41, z_42, z_43, z_44, z_45, z_46, z_47, z_48, z_49, z_50, z_51, z_52, z_53, z_54, z_55, z_56, z_57, z_58, z_59, z_60, z_61, z_62, z_63, z_64, z_65, z_66, z_67, z_68, z_69, z_70, z_71, z_72, z_73, z_74, z_75, z_76, z_77, z_78, z_79, z_80, z_81, z_82, z_83, z_84, z_85, z_86, z_87, z_88, z_89, z_90, z_91, z_92, z_93, z_94, z_95, z_96, z_97, z_98, z_99, z_100, z_101, z_102, z_103, z_104, z_105, z_106, z_107, z_108, z_109, z_110, z_111, z_112, z_113, z_114, z_115, z_116, z_117, z_118, z_119, z_120, z_121, z_122, z_123, z_124, z_125, z_126, z_127, z_199, z_200, z_360, z_410, z_1000, z_1023, z_1024, z_1219, z_9999, z_10240, z_65537], ⟨fun i => ?_, ?_⟩, ⟨fun i => ?_, ?_⟩, fun k i h1 h2 => by rw [ud_ne _ _ (by omega), ud_ne _ _ (by omega)]⟩
      · rw [ud_ne _ _ (by omega)]
        by_cases c : i = e 99 1
        · rw [c, ud_same]; omega
        · rw [ud_ne _ _ (by omega)]; exact he.1 i
      · rw [ud_same]; omega
      · rw [ud_ne _ _ (by omega)]
        show ud m 12 (e 99 1) a 12 i = ud (ud e 0 (e 99 1) a) 99 1 (e 99 1 + 1) 0 i
        rw [ud_ne (ud e 0 (e 99 1) a) _ (Or.inl (by decide))]
        by_cases c : i = e 99 1
        · rw [c, ud_same, ud_same]
        · rw [ud_ne _ _ (by omega), ud_ne _ _ (by omega)]; exact hp.1 i
      · rw [ud_same, ud_same]
  · exact ⟨zI (-2), e, m, by unfold f_X6_say; simp (disch := omega) only [x_isPlace, x_isHouse, x_isTale, x_within, x_longBetween, x_layRoad, x_doubtOf, x_furnish, x_beliefOf, x_convince, x_fadesInto, x_letFade, s_T, s_F, s_bd, s_cl, s_rd, s_wr, s_ite, z_ite, z_neg, z_add, z_sub, z_mul, z_le, z_lt, z_eq, eC_at, eC_7, eC_8, eC_9, eC_10, eC_11, eC_p7, eC_p8, eC_p9, eC_p10, eC_p11, eC_up, ud_same, ud_ne, if_pos, if_neg, z_0, z_1, z_2, z_3, z_4, z_5, z_6, z_7, z_8, z_9, z_10, z_11, z_12, z_13, z_14, z_15, z_16, z_17, z_18, z_19, z_20, z_21, z_22, z_23, z_24, z_25, z_26, z_27, z_28, z_29, z_30, z_31, z_32, z_33, z_34, z_35, z_36, z_37, z_38, z_39, z_40, z_41, z_42, z_43, z_44, z_45, z_46, z_47, z_48, z_49, z_50, z_51, z_52, z_53, z_54, z_55, z_56, z_57, z_58, z_59, z_60, z_61, z_62, z_63, z_64, z_65, z_66, z_67, z_68, z_69, z_70, z_71, z_72, z_73, z_74, z_75, z_76, z_77, z_78, z_79, z_80, z_81, z_82, z_83, z_84, z_85, z_86, z_87, z_88, z_89, z_90, z_91, z_92, z_93, z_94, z_95, z_96, z_97, z_98, z_99, z_100, z_101, z_102, z_103, z_104, z_105, z_106, z_107, z_108, z_109, z_110, z_111, z_112, z_113, z_114, z_115, z_116, z_117, z_118, z_119, z_120, z_121, z_122, z_123, z_124, z_125, z_126, z_127, z_199, z_200, z_360, z_410, z_1000, z_1023, z_1024, z_1219, z_9999, z_10240, z_65537], by unfold f_X7_say; simp (disch := omega) only [m_isPlace, m_isHouse, m_isTale, m_in, z_l, zl_neg, zl_0, zl_1, zl_2, zl_3, zl_5, zl_8, zl_9, zl_10, zl_19, zl_33, zl_40, zl_49, zl_57, zl_60, zl_65, zl_74, zl_99, zl_100, zl_126, zl_199, zl_1000, zl_1219, zl_9999, pw_0, up_0, pw_1, up_1, pw_2, up_2, pw_3, up_3, pw_4, up_4, pw_9, up_9, pw_10, up_10, pwi_5, upi_5, pwi_6, upi_6, pwi_7, upi_7, pwi_8, upi_8, pwi_11, upi_11, pw_12, up_12, pw_14, up_14, pw_15, up_15, pw_16, up_16, pw_18, up_18, pw_24, up_24, pw_25, up_25, pw_26, up_26, pw_29, up_29, pw_30, up_30, pw_31, up_31, pwi_13, upi_13, pwi_17, upi_17, pwi_19, upi_19, pwi_20, upi_20, pwi_21, upi_21, pwi_22, upi_22, pwi_23, upi_23, pwi_32, upi_32, pwi_33, upi_33, eC_5, eC_6, eC_13, eC_17, eC_19, eC_20, eC_21, eC_22, eC_23, eC_32, eC_33, eC_p5, eC_p6, eC_p13, eC_p17, eC_p19, eC_p20, eC_p21, eC_p22, eC_p23, eC_p32, eC_p33, s_T, s_F, s_bd, s_cl, s_rd, s_wr, s_ite, z_ite, z_neg, z_add, z_sub, z_mul, z_le, z_lt, z_eq, eC_at, eC_7, eC_8, eC_9, eC_10, eC_11, eC_p7, eC_p8, eC_p9, eC_p10, eC_p11, eC_up, ud_same, ud_ne, if_pos, if_neg, z_0, z_1, z_2, z_3, z_4, z_5, z_6, z_7, z_8, z_9, z_10, z_11, z_12, z_13, z_14, z_15, z_16, z_17, z_18, z_19, z_20, z_21, z_22, z_23, z_24, z_25, z_26, z_27, z_28, z_29, z_30, z_31, z_32, z_33, z_34, z_35, z_36, z_37, z_38, z_39, z_40, z_41, z_42, z_43, z_44, z_45, z_46, z_47, z_48, z_49, z_50, z_51, z_52, z_53, z_54, z_55, z_56, z_57, z_58, z_59, z_60, z_61, z_62, z_63, z_64, z_65, z_66, z_67, z_68, z_69, z_70, z_71, z_72, z_73, z_74, z_75, z_76, z_77, z_78, z_79, z_80, z_81, z_82, z_83, z_84, z_85, z_86, z_87, z_88, z_89, z_90, z_91, z_92, z_93, z_94, z_95, z_96, z_97, z_98, z_99, z_100, z_101, z_102, z_103, z_104, z_105, z_106, z_107, z_108, z_109, z_110, z_111, z_112, z_113, z_114, z_115, z_116, z_117, z_118, z_119, z_120, z_121, z_122, z_123, z_124, z_125, z_126, z_127, z_199, z_200, z_360, z_410, z_1000, z_1023, z_1024, z_1219, z_9999, z_10240, z_65537], he, hp, fun _ _ _ _ => rfl⟩
theorem c_wipe (m d e : Nat → Int → Int) (τ : qL) (he : okp e) (hp : mpad m e) : ∃ r e' m', f_X6_wipe (eC e) = some (r, eC e') ∧ f_X7_wipe (eC (pw m d)) τ = some (r, eC (pw m' d)) ∧ okp e' ∧ mpad m' e' ∧ (∀ k i, k ≠ 12 → ¬ (k = 99 ∧ i = 13) → m' k i = m k i) := by
  have h13 := hp.2
  refine ⟨zI (e 99 1), ud e 99 1 0, ud m 99 13 0, by unfold f_X6_wipe f_X3_size f_X3_clear; simp (disch := omega) only [eC_1, eC_p1, s_T, s_F, s_bd, s_cl, s_rd, s_wr, s_ite, z_ite, z_neg, z_add, z_sub, z_mul, z_le, z_lt, z_eq, eC_at, eC_7, eC_8, eC_9, eC_10, eC_11, eC_p7, eC_p8, eC_p9, eC_p10, eC_p11, eC_up, ud_same, ud_ne, if_pos, if_neg, z_0, z_1, z_2, z_3, z_4, z_5, z_6, z_7, z_8, z_9, z_10, z_11, z_12, z_13, z_14, z_15, z_16, z_17, z_18, z_19, z_20, z_21, z_22, z_23, z_24, z_25, z_26, z_27, z_28, z_29, z_30, z_31, z_32, z_33, z_34, z_35, z_36, z_37, z_38, z_39, z_40, z_41, z_42, z_43, z_44, z_45, z_46, z_47, z_48, z_49, z_50, z_51, z_52, z_53, z_54, z_55, z_56, z_57, z_58, z_59, z_60, z_61, z_62, z_63, z_64, z_65, z_66, z_67, z_68, z_69, z_70, z_71, z_72, z_73, z_74, z_75, z_76, z_77, z_78, z_79, z_80, z_81, z_82, z_83, z_84, z_85, z_86, z_87, z_88, z_89, z_90, z_91, z_92, z_93, z_94, z_95, z_96, z_97, z_98, z_99, z_100, z_101, z_102, z_103, z_104, z_105, z_106, z_107, z_108, z_109, z_110, z_111, z_112, z_113, z_114, z_115, z_116, z_117, z_118, z_119, z_120, z_121, z_122, z_123, z_124, z_125, z_126, z_127, z_199, z_200, z_360, z_410, z_1000, z_1023, z_1024, z_1219, z_9999, z_10240, z_65537], by unfold f_X7_wipe; simp (disch := omega) only [h13, pw_0, up_0, pw_1, up_1, pw_2, up_2, pw_3, up_3, pw_4, up_4, pw_9, up_9, pw_10, up_10, pwi_5, upi_5, pwi_6, upi_6, pwi_7, upi_7, pwi_8, upi_8, pwi_11, upi_11, pw_12, up_12, pw_14, up_14, pw_15, up_15, pw_16, up_16, pw_18, up_18, pw_24, up_24, pw_25, up_25, pw_26, up_26, pw_29, up_29, pw_30, up_30, pw_31, up_31, pwi_13, upi_13, pwi_17, upi_17, pwi_19, upi_19, pwi_20, upi_20, pwi_21, upi_21, pwi_22, upi_22, pwi_23, upi_23, pwi_32, upi_32, pwi_33, upi_33, eC_5, eC_6, eC_13, eC_17, eC_19, eC_20, eC_21, eC_22, eC_23, eC_32, eC_33, eC_p5, eC_p6, eC_p13, eC_p17, eC_p19, eC_p20, eC_p21, eC_p22, eC_p23, eC_p32, eC_p33, s_T, s_F, s_bd, s_cl, s_rd, s_wr, s_ite, z_ite, z_neg, z_add, z_sub, z_mul, z_le, z_lt, z_eq, eC_at, eC_7, eC_8, eC_9, eC_10, eC_11, eC_p7, eC_p8, eC_p9, eC_p10, eC_p11, eC_up, ud_same, ud_ne, if_pos, if_neg, z_0, z_1, z_2, z_3, z_4, z_5, z_6, z_7, z_8, z_9, z_10, z_11, z_12, z_13, z_14, z_15, z_16, z_17, z_18, z_19, z_20, z_21, z_22, z_23, z_24, z_25, z_26, z_27, z_28, z_29, z_30, z_31, z_32, z_33, z_34, z_35, z_36, z_37, z_38, z_39, z_40, z_41, z_42, z_43, z_44, z_45, z_46, z_47, z_48, z_49, z_50, z_51, z_52, z_53, z_54, z_55, z_56, z_57, z_58, z_59, z_60, z_61, z_62, z_63, z_64, z_65, z_66, z_67, z_68, z_69, z_70, z_71, z_72, z_73, z_74, z_75, z_76, z_77, z_78, z_79, z_80, z_81, z_82, z_83, z_84, z_85, z_86, z_87, z_88, z_89, z_90, z_91, z_92, z_93, z_94, z_95, z_96, z_97, z_98, z_99, z_100, z_101, z_102, z_103, z_104, z_105, z_106, z_107, z_108, z_109, z_110, z_111, z_112, z_113, z_114, z_115, z_116, z_117, z_118, z_119, z_120, z_121, z_122, z_123, z_124, z_125, z_126, z_127, z_199, z_200, z_360, z_410, z_1000, z_1023, z_1024, z_1219, z_9999, z_10240, z_65537], ⟨fun i => ?_, ?_⟩, ⟨fun i => ?_, ?_⟩, fun k i h1 h2 => by rw [ud_ne _ _ (by omega)]⟩
  · rw [ud_ne _ _ (by omega)]; exact he.1 i
  · rw [ud_same]; omega
  · rw [ud_ne _ _ (by omega), ud_ne _ _ (by omega)]; exact hp.1 i
  · rw [ud_same, ud_same]
theorem c_fault (m d e : Nat → Int → Int) (τ : qL) (he : okp e) (hp : mpad m e) : ∃ r m', f_X6_fault (eC e) = some r ∧ f_X7_fault (eC (pw m d)) τ = some (r, eC (pw m' d)) ∧ frN m m' := by
  have hn := he.2
  obtain ⟨p1, -⟩ := prM_fl he 20000 0 (ud m 99 17 0) 20000 (by omega) (by omega) (by omega)
  have p3 := prM_frm e 20000 0 0 (ud m 99 17 0) (by omega) (by omega)
  refine ⟨zI (fl e 20000 0), (prM e 20000 0 0 (ud m 99 17 0)).2, ?_, ?_, frN_tr (frN_ud (Or.inr ⟨rfl, Or.inl rfl⟩)) (frN_frm p3.1)⟩
  · unfold f_X6_fault
    rw [x_faultPlace he, s_cl]
  · rw [m_fault he m d τ hp, p1]
/-! sights -/
theorem c_seen (m d : Nat → Int → Int) (τ : qL) (hd : okd d) (a b : Int32) : ∃ r d', f_X6_seen (eC d) a b = some (r, eC d') ∧ f_X7_seen (eC (pw m d)) τ a b = some (r, eC (pw m d')) ∧ okd d' ∧ rng d d' := by
  obtain ⟨a, a0, a1, rfl⟩ := z_of a
  obtain ⟨b, b0, b1, rfl⟩ := z_of b
  have hs := okd_s hd
  by_cases cb : 0 ≤ b ∧ b ≤ 9
  · by_cases ca : 0 ≤ a ∧ a ≤ 40
    · by_cases cf : d 99 7 = 8
      · exact ⟨zI (-4), d, by unfold f_X6_seen f_X1_addSight; simp (disch := omega) only [x_isPlace, x_isHouse, x_isTale, x_within, x_longBetween, x_layRoad, x_doubtOf, x_furnish, x_beliefOf, x_convince, x_fadesInto, x_letFade, s_T, s_F, s_bd, s_cl, s_rd, s_wr, s_ite, z_ite, z_neg, z_add, z_sub, z_mul, z_le, z_lt, z_eq, eC_at, eC_7, eC_8, eC_9, eC_10, eC_11, eC_p7, eC_p8, eC_p9, eC_p10, eC_p11, eC_up, ud_same, ud_ne, if_pos, if_neg, z_0, z_1, z_2, z_3, z_4, z_5, z_6, z_7, z_8, z_9, z_10, z_11, z_12, z_13, z_14, z_15, z_16, z_17, z_18, z_19, z_20, z_21, z_22, z_23, z_24, z_25, z_26, z_27, z_28, z_29, z_30, z_31, z_32, z_33, z_34, z_35, z_36, z_37, z_38, z_39, z_40, z_41, z_42, z_43, z_44, z_45, z_46, z_47, z_48, z_49, z_50, z_51, z_52, z_53, z_54, z_55, z_56, z_57, z_58, z_59, z_60, z_61, z_62, z_63, z_64, z_65, z_66, z_67, z_68, z_69, z_70, z_71, z_72, z_73, z_74, z_75, z_76, z_77, z_78, z_79, z_80, z_81, z_82, z_83, z_84, z_85, z_86, z_87, z_88, z_89, z_90, z_91, z_92, z_93, z_94, z_95, z_96, z_97, z_98, z_99, z_100, z_101, z_102, z_103, z_104, z_105, z_106, z_107, z_108, z_109, z_110, z_111, z_112, z_113, z_114, z_115, z_116, z_117, z_118, z_119, z_120, z_121, z_122, z_123, z_124, z_125, z_126, z_127, z_199, z_200, z_360, z_410, z_1000, z_1023, z_1024, z_1219, z_9999, z_10240, z_65537], by unfold f_X7_seen; simp (disch := omega) only [m_isPlace, m_isHouse, m_isTale, m_in, z_l, zl_neg, zl_0, zl_1, zl_2, zl_3, zl_5, zl_8, zl_9, zl_10, zl_19, zl_33, zl_40, zl_49, zl_57, zl_60, zl_65, zl_74, zl_99, zl_100, zl_126, zl_199, zl_1000, zl_1219, zl_9999, pw_0, up_0, pw_1, up_1, pw_2, up_2, pw_3, up_3, pw_4, up_4, pw_9, up_9, pw_10, up_10, pwi_5, upi_5, pwi_6, upi_6, pwi_7, upi_7, pwi_8, upi_8, pwi_11, upi_11, pw_12, up_12, pw_14, up_14, pw_15, up_15, pw_16, up_16, pw_18, up_18, pw_24, up_24, pw_25, up_25, pw_26, up_26, pw_29, up_29, pw_30, up_30, pw_31, up_31, pwi_13, upi_13, pwi_17, upi_17, pwi_19, upi_19, pwi_20, upi_20, pwi_21, upi_21, pwi_22, upi_22, pwi_23, upi_23, pwi_32, upi_32, pwi_33, upi_33, eC_5, eC_6, eC_13, eC_17, eC_19, eC_20, eC_21, eC_22, eC_23, eC_32, eC_33, eC_p5, eC_p6, eC_p13, eC_p17, eC_p19, eC_p20, eC_p21, eC_p22, eC_p23, eC_p32, eC_p33, s_T, s_F, s_bd, s_cl, s_rd, s_wr, s_ite, z_ite, z_neg, z_add, z_sub, z_mul, z_le, z_lt, z_eq, eC_at, eC_7, eC_8, eC_9, eC_10, eC_11, eC_p7, eC_p8, eC_p9, eC_p10, eC_p11, eC_up, ud_same, ud_ne, if_pos, if_neg, z_0, z_1, z_2, z_3, z_4, z_5, z_6, z_7, z_8, z_9, z_10, z_11, z_12, z_13, z_14, z_15, z_16, z_17, z_18, z_19, z_20, z_21, z_22, z_23, z_24, z_25, z_26, z_27, z_28, z_29, z_30, z_31, z_32, z_33, z_34, z_35, z_36, z_37, z_38, z_39, z_40, z_41, z_42, z_43, z_44, z_45, z_46, z_47, z_48, z_49, z_50, z_51, z_52, z_53, z_54, z_55, z_56, z_57, z_58, z_59, z_60, z_61, z_62, z_63, z_64, z_65, z_66, z_67, z_68, z_69, z_70, z_71, z_72, z_73, z_74, z_75, z_76, z_77, z_78, z_79, z_80, z_81, z_82, z_83, z_84, z_85, z_86, z_87, z_88, z_89, z_90, z_91, z_92, z_93, z_94, z_95, z_96, z_97, z_98, z_99, z_100, z_101, z_102, z_103, z_104, z_105, z_106, z_107, z_108, z_109, z_110, z_111, z_112, z_113, z_114, z_115, z_116, z_117, z_118, z_119, z_120, z_121, z_122, z_123, z_124, z_125, z_126, z_127, z_199, z_200, z_360, z_410, z_1000, z_1023, z_1024, z_1219, z_9999, z_10240, z_65537], hd, rng_rf d⟩
      · refine ⟨zI (d 99 7 + 1), ud (ud (ud d 5 (d 99 7) a) 6 (d 99 7) b) 99 7 (d 99 7 + 1), by unfold f_X6_seen f_X1_addSight f_X1_sightCount; simp (disch := omega) only [x_isPlace, x_isHouse, x_isTale, x_within, x_longBetween, x_layRoad, x_doubtOf, x_furnish, x_beliefOf, x_convince, x_fadesInto, x_letFade, s_T, s_F, s_bd, s_cl, s_rd, s_wr, s_ite, z_ite, z_neg, z_add, z_sub, z_mul, z_le, z_lt, z_eq, eC_at, eC_7, eC_8, eC_9, eC_10, eC_11, eC_p7, eC_p8, eC_p9, eC_p10, eC_p11, eC_up, ud_same, ud_ne, if_pos, if_neg, z_0, z_1, z_2, z_3, z_4, z_5, z_6, z_7, z_8, z_9, z_10, z_11, z_12, z_13, z_14, z_15, z_16, z_17, z_18, z_19, z_20, z_21, z_22, z_23, z_24, z_25, z_26, z_27, z_28, z_29, z_30, z_31, z_32, z_33, z_34, z_35, z_36, z_37, z_38, z_39, z_40, z_41, z_42, z_43, z_44, z_45, z_46, z_47, z_48, z_49, z_50, z_51, z_52, z_53, z_54, z_55, z_56, z_57, z_58, z_59, z_60, z_61, z_62, z_63, z_64, z_65, z_66, z_67, z_68, z_69, z_70, z_71, z_72, z_73, z_74, z_75, z_76, z_77, z_78, z_79, z_80, z_81, z_82, z_83, z_84, z_85, z_86, z_87, z_88, z_89, z_90, z_91, z_92, z_93, z_94, z_95, z_96, z_97, z_98, z_99, z_100, z_101, z_102, z_103, z_104, z_105, z_106, z_107, z_108, z_109, z_110, z_111, z_112, z_113, z_114, z_115, z_116, z_117, z_118, z_119, z_120, z_121, z_122, z_123, z_124, z_125, z_126, z_127, z_199, z_200, z_360, z_410, z_1000, z_1023, z_1024, z_1219, z_9999, z_10240, z_65537], by unfold f_X7_seen; simp (disch := omega) only [m_isPlace, m_isHouse, m_isTale, m_in, z_l, zl_neg, zl_0, zl_1, zl_2, zl_3, zl_5, zl_8, zl_9, zl_10, zl_19, zl_33, zl_40, zl_49, zl_57, zl_60, zl_65, zl_74, zl_99, zl_100, zl_126, zl_199, zl_1000, zl_1219, zl_9999, pw_0, up_0, pw_1, up_1, pw_2, up_2, pw_3, up_3, pw_4, up_4, pw_9, up_9, pw_10, up_10, pwi_5, upi_5, pwi_6, upi_6, pwi_7, upi_7, pwi_8, upi_8, pwi_11, upi_11, pw_12, up_12, pw_14, up_14, pw_15, up_15, pw_16, up_16, pw_18, up_18, pw_24, up_24, pw_25, up_25, pw_26, up_26, pw_29, up_29, pw_30, up_30, pw_31, up_31, pwi_13, upi_13, pwi_17, upi_17, pwi_19, upi_19, pwi_20, upi_20, pwi_21, upi_21, pwi_22, upi_22, pwi_23, upi_23, pwi_32, upi_32, pwi_33, upi_33, eC_5, eC_6, eC_13, eC_17, eC_19, eC_20, eC_21, eC_22, eC_23, eC_32, eC_33, eC_p5, eC_p6, eC_p13, eC_p17, eC_p19, eC_p20, eC_p21, eC_p22, eC_p23, eC_p32, eC_p33, s_T, s_F, s_bd, s_cl, s_rd, s_wr, s_ite, z_ite, z_neg, z_add, z_sub, z_mul, z_le, z_lt, z_eq, eC_at, eC_7, eC_8, eC_9, eC_10, eC_11, eC_p7, eC_p8, eC_p9, eC_p10, eC_p11, eC_up, ud_same, ud_ne, if_pos, if_neg, z_0, z_1, z_2, z_3, z_4, z_5, z_6, z_7, z_8, z_9, z_10, z_11, z_12, z_13, z_14, z_15, z_16, z_17, z_18, z_19, z_20, z_21, z_22, z_23, z_24, z_25, z_26, z_27, z_28, z_29, z_30, z_31, z_32, z_33, z_34, z_35, z_36, z_37, z_38, z_39, z_40, z_41, z_42, z_43, z_44, z_45, z_46, z_47, z_48, z_49, z_50, z_51, z_52, z_53, z_54, z_55, z_56, z_57, z_58, z_59, z_60, z_61, z_62, z_63, z_64, z_65, z_66, z_67, z_68, z_69, z_70, z_71, z_72, z_73, z_74, z_75, z_76, z_77, z_78, z_79, z_80, z_81, z_82, z_83, z_84, z_85, z_86, z_87, z_88, z_89, z_90, z_91, z_92, z_93, z_94, z_95, z_96, z_97, z_98, z_99, z_100, z_101, z_102, z_103, z_104, z_105, z_106, z_107, z_108, z_109, z_110, z_111, z_112, z_113, z_114, z_115, z_116, z_117, z_118, z_119, z_120, z_121, z_122, z_123, z_124, z_125, z_126, z_127, z_199, z_200, z_360, z_410, z_1000, z_1023, z_1024, z_1219, z_9999, z_10240, z_65537], okd_ud (okd_ud (okd_ud hd (show (0 : Int) ≤ a by omega) (show a ≤ (40 : Int) by omega)) (show (0 : Int) ≤ b by omega) (show b ≤ (9 : Int) by omega)) (show (0 : Int) ≤ _ by omega) (show _ ≤ (8 : Int) by omega), rng_tr (rng_tr (rng_ud (Or.inr (Or.inr (Or.inl ⟨by omega, by omega, by omega⟩)))) (rng_ud (Or.inr (Or.inr (Or.inl ⟨by omega, by omega, by omega⟩))))) (rng_ud (Or.inr (Or.inr (Or.inr ⟨rfl, by omega, by omega⟩))))⟩
    · exact ⟨zI (-2), d, by unfold f_X6_seen; simp (disch := omega) only [x_isPlace, x_isHouse, x_isTale, x_within, x_longBetween, x_layRoad, x_doubtOf, x_furnish, x_beliefOf, x_convince, x_fadesInto, x_letFade, s_T, s_F, s_bd, s_cl, s_rd, s_wr, s_ite, z_ite, z_neg, z_add, z_sub, z_mul, z_le, z_lt, z_eq, eC_at, eC_7, eC_8, eC_9, eC_10, eC_11, eC_p7, eC_p8, eC_p9, eC_p10, eC_p11, eC_up, ud_same, ud_ne, if_pos, if_neg, z_0, z_1, z_2, z_3, z_4, z_5, z_6, z_7, z_8, z_9, z_10, z_11, z_12, z_13, z_14, z_15, z_16, z_17, z_18, z_19, z_20, z_21, z_22, z_23, z_24, z_25, z_26, z_27, z_28, z_29, z_30, z_31, z_32, z_33, z_34, z_35, z_36, z_37, z_38, z_39, z_40, z_41, z_42, z_43, z_44, z_45, z_46, z_47, z_48, z_49, z_50, z_51, z_52, z_53, z_54, z_55, z_56, z_57, z_58, z_59, z_60, z_61, z_62, z_63, z_64, z_65, z_66, z_67, z_68, z_69, z_70, z_71, z_72, z_73, z_74, z_75, z_76, z_77, z_78, z_79, z_80, z_81, z_82, z_83, z_84, z_85, z_86, z_87, z_88, z_89, z_90, z_91, z_92, z_93, z_94, z_95, z_96, z_97, z_98, z_99, z_100, z_101, z_102, z_103, z_104, z_105, z_106, z_107, z_108, z_109, z_110, z_111, z_112, z_113, z_114, z_115, z_116, z_117, z_118, z_119, z_120, z_121, z_122, z_123, z_124, z_125, z_126, z_127, z_199, z_200, z_360, z_410, z_1000, z_1023, z_1024, z_1219, z_9999, z_10240, z_65537], by unfold f_X7_seen; simp (disch := omega) only [m_isPlace, m_isHouse, m_isTale, m_in, z_l, zl_neg, zl_0, zl_1, zl_2, zl_3, zl_5, zl_8, zl_9, zl_10, zl_19, zl_33, zl_40, zl_49, zl_57, zl_60, zl_65, zl_74, zl_99, zl_100, zl_126, zl_199, zl_1000, zl_1219, zl_9999, pw_0, up_0, pw_1, up_1, pw_2, up_2, pw_3, up_3, pw_4, up_4, pw_9, up_9, pw_10, up_10, pwi_5, upi_5, pwi_6, upi_6, pwi_7, upi_7, pwi_8, upi_8, pwi_11, upi_11, pw_12, up_12, pw_14, up_14, pw_15, up_15, pw_16, up_16, pw_18, up_18, pw_24, up_24, pw_25, up_25, pw_26, up_26, pw_29, up_29, pw_30, up_30, pw_31, up_31, pwi_13, upi_13, pwi_17, upi_17, pwi_19, upi_19, pwi_20, upi_20, pwi_21, upi_21, pwi_22, upi_22, pwi_23, upi_23, pwi_32, upi_32, pwi_33, upi_33, eC_5, eC_6, eC_13, eC_17, eC_19, eC_20, eC_21, eC_22, eC_23, eC_32, eC_33, eC_p5, eC_p6, eC_p13, eC_p17, eC_p19, eC_p20, eC_p21, eC_p22, eC_p23, eC_p32, eC_p33, s_T, s_F, s_bd, s_cl, s_rd, s_wr, s_ite, z_ite, z_neg, z_add, z_sub, z_mul, z_le, z_lt, z_eq, eC_at, eC_7, eC_8, eC_9, eC_10, eC_11, eC_p7, eC_p8, eC_p9, eC_p10, eC_p11, eC_up, ud_same, ud_ne, if_pos, if_neg, z_0, z_1, z_2, z_3, z_4, z_5, z_6, z_7, z_8, z_9, z_10, z_11, z_12, z_13, z_14, z_15, z_16, z_17, z_18, z_19, z_20, z_21, z_22, z_23, z_24, z_25, z_26, z_27, z_28, z_29, z_30, z_31, z_32, z_33, z_34, z_35, z_36, z_37, z_38, z_39, z_40, z_41, z_42, z_43, z_44, z_45, z_46, z_47, z_48, z_49, z_50, z_51, z_52, z_53, z_54, z_55, z_56, z_57, z_58, z_59, z_60, z_61, z_62, z_63, z_64, z_65, z_66, z_67, z_68, z_69, z_70, z_71, z_72, z_73, z_74, z_75, z_76, z_77, z_78, z_79, z_80, z_81, z_82, z_83, z_84, z_85, z_86, z_87, z_88, z_89, z_90, z_91, z_92, z_93, z_94, z_95, z_96, z_97, z_98, z_99, z_100, z_101, z_102, z_103, z_104, z_105, z_106, z_107, z_108, z_109, z_110, z_111, z_112, z_113, z_114, z_115, z_116, z_117, z_118, z_119, z_120, z_121, z_122, z_123, z_124, z_125, z_126, z_127, z_199, z_200, z_360, z_410, z_1000, z_1023, z_1024, z_1219, z_9999, z_10240, z_65537], hd, rng_rf d⟩
  · exact ⟨zI (-1), d, by unfold f_X6_seen; simp (disch := omega) only [x_isPlace, x_isHouse, x_isTale, x_within, x_longBetween, x_layRoad, x_doubtOf, x_furnish, x_beliefOf, x_convince, x_fadesInto, x_letFade, s_T, s_F, s_bd, s_cl, s_rd, s_wr, s_ite, z_ite, z_neg, z_add, z_sub, z_mul, z_le, z_lt, z_eq, eC_at, eC_7, eC_8, eC_9, eC_10, eC_11, eC_p7, eC_p8, eC_p9, eC_p10, eC_p11, eC_up, ud_same, ud_ne, if_pos, if_neg, z_0, z_1, z_2, z_3, z_4, z_5, z_6, z_7, z_8, z_9, z_10, z_11, z_12, z_13, z_14, z_15, z_16, z_17, z_18, z_19, z_20, z_21, z_22, z_23, z_24, z_25, z_26, z_27, z_28, z_29, z_30, z_31, z_32, z_33, z_34, z_35, z_36, z_37, z_38, z_39, z_40, z_41, z_42, z_43, z_44, z_45, z_46, z_47, z_48, z_49, z_50, z_51, z_52, z_53, z_54, z_55, z_56, z_57, z_58, z_59, z_60, z_61, z_62, z_63, z_64, z_65, z_66, z_67, z_68, z_69, z_70, z_71, z_72, z_73, z_74, z_75, z_76, z_77, z_78, z_79, z_80, z_81, z_82, z_83, z_84, z_85, z_86, z_87, z_88, z_89, z_90, z_91, z_92, z_93, z_94, z_95, z_96, z_97, z_98, z_99, z_100, z_101, z_102, z_103, z_104, z_105, z_106, z_107, z_108, z_109, z_110, z_111, z_112, z_113, z_114, z_115, z_116, z_117, z_118, z_119, z_120, z_121, z_122, z_123, z_124, z_125, z_126, z_127, z_199, z_200, z_360, z_410, z_1000, z_1023, z_1024, z_1219, z_9999, z_10240, z_65537], by unfold f_X7_seen; simp (disch := omega) only [m_isPlace, m_isHouse, m_isTale, m_in, z_l, zl_neg, zl_0, zl_1, zl_2, zl_3, zl_5, zl_8, zl_9, zl_10, zl_19, zl_33, zl_40, zl_49, zl_57, zl_60, zl_65, zl_74, zl_99, zl_100, zl_126, zl_199, zl_1000, zl_1219, zl_9999, pw_0, up_0, pw_1, up_1, pw_2, up_2, pw_3, up_3, pw_4, up_4, pw_9, up_9, pw_10, up_10, pwi_5, upi_5, pwi_6, upi_6, pwi_7, upi_7, pwi_8, upi_8, pwi_11, upi_11, pw_12, up_12, pw_14, up_14, pw_15, up_15, pw_16, up_16, pw_18, up_18, pw_24, up_24, pw_25, up_25, pw_26, up_26, pw_29, up_29, pw_30, up_30, pw_31, up_31, pwi_13, upi_13, pwi_17, upi_17, pwi_19, upi_19, pwi_20, upi_20, pwi_21, upi_21, pwi_22, upi_22, pwi_23, upi_23, pwi_32, upi_32, pwi_33, upi_33, eC_5, eC_6, eC_13, eC_17, eC_19, eC_20, eC_21, eC_22, eC_23, eC_32, eC_33, eC_p5, eC_p6, eC_p13, eC_p17, eC_p19, eC_p20, eC_p21, eC_p22, eC_p23, eC_p32, eC_p33, s_T, s_F, s_bd, s_cl, s_rd, s_wr, s_ite, z_ite, z_neg, z_add, z_sub, z_mul, z_le, z_lt, z_eq, eC_at, eC_7, eC_8, eC_9, eC_10, eC_11, eC_p7, eC_p8, eC_p9, eC_p10, eC_p11, eC_up, ud_same, ud_ne, if_pos, if_neg, z_0, z_1, z_2, z_3, z_4, z_5, z_6, z_7, z_8, z_9, z_10, z_11, z_12, z_13, z_14, z_15, z_16, z_17, z_18, z_19, z_20, z_21, z_22, z_23, z_24, z_25, z_26, z_27, z_28, z_29, z_30, z_31, z_32, z_33, z_34, z_35, z_36, z_37, z_38, z_39, z_40, z_41, z_42, z_43, z_44, z_45, z_46, z_47, z_48, z_49, z_50, z_51, z_52, z_53, z_54, z_55, z_56, z_57, z_58, z_59, z_60, z_61, z_62, z_63, z_64, z_65, z_66, z_67, z_68, z_69, z_70, z_71, z_72, z_73, z_74, z_75, z_76, z_77, z_78, z_79, z_80, z_81, z_82, z_83, z_84, z_85, z_86, z_87, z_88, z_89, z_90, z_91, z_92, z_93, z_94, z_95, z_96, z_97, z_98, z_99, z_100, z_101, z_102, z_103, z_104, z_105, z_106, z_107, z_108, z_109, z_110, z_111, z_112, z_113, z_114, z_115, z_116, z_117, z_118, z_119, z_120, z_121, z_122, z_123, z_124, z_125, z_126, z_127, z_199, z_200, z_360, z_410, z_1000, z_1023, z_1024, z_1219, z_9999, z_10240, z_65537], hd, rng_rf d⟩
theorem c_forget (m d : Nat → Int → Int) (τ : qL) (hd : okd d) : ∃ r d', f_X6_forget (eC d) = some (r, eC d') ∧ f_X7_forget (eC (pw m d)) τ = some (r, eC (pw m d')) ∧ okd d' ∧ rng d d' :=
  ⟨zI (d 99 7), ud d 99 7 0, by unfold f_X6_forget f_X1_sightCount f_X1_dropSights; simp (disch := omega) only [s_T, s_F, s_bd, s_cl, s_rd, s_wr, s_ite, z_ite, z_neg, z_add, z_sub, z_mul, z_le, z_lt, z_eq, eC_at, eC_7, eC_8, eC_9, eC_10, eC_11, eC_p7, eC_p8, eC_p9, eC_p10, eC_p11, eC_up, ud_same, ud_ne, if_pos, if_neg, z_0, z_1, z_2, z_3, z_4, z_5, z_6, z_7, z_8, z_9, z_10, z_11, z_12, z_13, z_14, z_15, z_16, z_17, z_18, z_19, z_20, z_21, z_22, z_23, z_24, z_25, z_26, z_27, z_28, z_29, z_30, z_31, z_32, z_33, z_34, z_35, z_36, z_37, z_38, z_39, z_40, z_41, z_42, z_43, z_44, z_45, z_46, z_47, z_48, z_49, z_50, z_51, z_52, z_53, z_54, z_55, z_56, z_57, z_58, z_59, z_60, z_61, z_62, z_63, z_64, z_65, z_66, z_67, z_68, z_69, z_70, z_71, z_72, z_73, z_74, z_75, z_76, z_77, z_78, z_79, z_80, z_81, z_82, z_83, z_84, z_85, z_86, z_87, z_88, z_89, z_90, z_91, z_92, z_93, z_94, z_95, z_96, z_97, z_98, z_99, z_100, z_101, z_102, z_103, z_104, z_105, z_106, z_107, z_108, z_109, z_110, z_111, z_112, z_113, z_114, z_115, z_116, z_117, z_118, z_119, z_120, z_121, z_122, z_123, z_124, z_125, z_126, z_127, z_199, z_200, z_360, z_410, z_1000, z_1023, z_1024, z_1219, z_9999, z_10240, z_65537], by unfold f_X7_forget; simp (disch := omega) only [pw_0, up_0, pw_1, up_1, pw_2, up_2, pw_3, up_3, pw_4, up_4, pw_9, up_9, pw_10, up_10, pwi_5, upi_5, pwi_6, upi_6, pwi_7, upi_7, pwi_8, upi_8, pwi_11, upi_11, pw_12, up_12, pw_14, up_14, pw_15, up_15, pw_16, up_16, pw_18, up_18, pw_24, up_24, pw_25, up_25, pw_26, up_26, pw_29, up_29, pw_30, up_30, pw_31, up_31, pwi_13, upi_13, pwi_17, upi_17, pwi_19, upi_19, pwi_20, upi_20, pwi_21, upi_21, pwi_22, upi_22, pwi_23, upi_23, pwi_32, upi_32, pwi_33, upi_33, eC_5, eC_6, eC_13, eC_17, eC_19, eC_20, eC_21, eC_22, eC_23, eC_32, eC_33, eC_p5, eC_p6, eC_p13, eC_p17, eC_p19, eC_p20, eC_p21, eC_p22, eC_p23, eC_p32, eC_p33, s_T, s_F, s_bd, s_cl, s_rd, s_wr, s_ite, z_ite, z_neg, z_add, z_sub, z_mul, z_le, z_lt, z_eq, eC_at, eC_7, eC_8, eC_9, eC_10, eC_11, eC_p7, eC_p8, eC_p9, eC_p10, eC_p11, eC_up, ud_same, ud_ne, if_pos, if_neg, z_0, z_1, z_2, z_3, z_4, z_5, z_6, z_7, z_8, z_9, z_10, z_11, z_12, z_13, z_14, z_15, z_16, z_17, z_18, z_19, z_20, z_21, z_22, z_23, z_24, z_25, z_26, z_27, z_28, z_29, z_30, z_31, z_32, z_33, z_34, z_35, z_36, z_37, z_38, z_39, z_40, z_41, z_42, z_43, z_44, z_45, z_46, z_47, z_48, z_49, z_50, z_51, z_52, z_53, z_54, z_55, z_56, z_57, z_58, z_59, z_60, z_61, z_62, z_63, z_64, z_65, z_66, z_67, z_68, z_69, z_70, z_71, z_72, z_73, z_74, z_75, z_76, z_77, z_78, z_79, z_80, z_81, z_82, z_83, z_84, z_85, z_86, z_87, z_88, z_89, z_90, z_91, z_92, z_93, z_94, z_95, z_96, z_97, z_98, z_99, z_100, z_101, z_102, z_103, z_104, z_105, z_106, z_107, z_108, z_109, z_110, z_111, z_112, z_113, z_114, z_115, z_116, z_117, z_118, z_119, z_120, z_121, z_122, z_123, z_124, z_125, z_126, z_127, z_199, z_200, z_360, z_410, z_1000, z_1023, z_1024, z_1219, z_9999, z_10240, z_65537], okd_ud hd (show (0 : Int) ≤ 0 by omega) (show 0 ≤ (8 : Int) by omega), rng_ud (Or.inr (Or.inr (Or.inr ⟨rfl, by omega, by omega⟩)))⟩
end
section
/-! the calls: 2 nights -/
def n0 (n : Nat → Int → Int) : Nat → Int → Int := ud (ud (ud (ud (ud (ud n 99 0 0) 99 1 0) 99 2 (-6)) 99 3 (-6)) 99 4 (-6)) 99 5 (-6)
theorem mst_n0 (n : Nat → Int → Int) : mst (n0 n) := by
  unfold mst n0
  refine ⟨?_, ?_, ?_, ?_, ?_, ?_⟩ <;> simp (disch := omega) only [ud_same, ud_ne]
theorem pss_ok {e : Nat → Int → Int} (he : okp e) {n d : Nat → Int → Int} (hd : okd d) (hn : mst n) : okd (pss e n d).2.2 ∧ oth d (pss e n d).2.2 ∧ ((pss e n d).1 = -5 ∨ (pss e n d).1 = 0 ∨ (pss e n d).1 = -3) := by
  unfold pss
  by_cases c : fl e 20000 0 = -6
  · rw [if_pos c]
    have h := run_ok he 20000 0 n d (by omega) hd c hn.2.2.1 ⟨by have := hn.1; omega, by have := hn.1; omega⟩
    exact ⟨h.1, h.2.1, by rcases h.2.2 with z | z <;> omega⟩
  · rw [if_neg c]
    exact ⟨hd, oth_rf d, Or.inl rfl⟩
theorem x_pass {e n d f : Nat → Int → Int} (he : okp e) (hd : okd d) (hf : okd f) : ∃ f', f_X2_pass (eC n) (eC e) (eC f) (eC d) = some (zI (pss e (n0 n) d).1, eC (pss e (n0 n) d).2.1, eC f') ∧ okd f' ∧ (¬ (pss e (n0 n) d).1 = -5 → f' = (pss e (n0 n) d).2.2) := by
  have hl := he.2
  have hm := mst_n0 n
  have hb := fl_b he 20000 0 (by omega)
  have e1 : q_pt (q_pt (q_pt (q_pt (q_pt (q_pt (eC n) 0 (0 : Int32)) 1 (0 : Int32)) 2 (-6 : Int32)) 3 (-6 : Int32)) 4 (-6 : Int32)) 5 (-6 : Int32) = eC (n0 n) := by
    unfold n0
    simp (disch := omega) only [eC_p0, eC_p1, eC_p2, eC_p3, eC_p4, eC_p5, s_T, s_F, s_bd, s_cl, s_rd, s_wr, s_ite, z_ite, z_neg, z_add, z_sub, z_mul, z_le, z_lt, z_eq, eC_at, eC_7, eC_8, eC_9, eC_10, eC_11, eC_p7, eC_p8, eC_p9, eC_p10, eC_p11, eC_up, ud_same, ud_ne, if_pos, if_neg, z_0, z_1, z_2, z_3, z_4, z_5, z_6, z_7, z_8, z_9, z_10, z_11, z_12, z_13, z_14, z_15, z_16, z_17, z_18, z_19, z_20, z_21, z_22, z_23, z_24, z_25, z_26, z_27, z_28, z_29, z_30, z_31, z_32, z_33, z_34, z_35, z_36, z_37, z_38, z_39, z_40, z_41, z_42, z_43, z_44, z_45, z_46, z_47, z_48, z_49, z_50, z_51, z_52, z_53, z_54, z_55, z_56, z_57, z_58, z_59, z_60, z_61, z_62, z_63, z_64, z_65, z_66, z_67, z_68, z_69, z_70, z_71, z_72, z_73, z_74, z_75, z_76, z_77, z_78, z_79, z_80, z_81, z_82, z_83, z_84, z_85, z_86, z_87, z_88, z_89, z_90, z_91, z_92, z_93, z_94, z_95, z_96, z_97, z_98, z_99, z_100, z_101, z_102, z_103, z_104, z_105, z_106, z_107, z_108, z_109, z_110, z_111, z_112, z_113, z_114, z_115, z_116, z_117, z_118, z_119, z_120, z_121, z_122, z_123, z_124, z_125, z_126, z_127, z_199, z_200, z_360, z_410, z_1000, z_1023, z_1024, z_1219, z_9999, z_10240, z_65537]
  unfold f_X2_pass
  simp only [s_bd]
  rw [e1, x_faultPlace he, s_cl]
  unfold pss
  by_cases c : fl e 20000 0 = -6
  · rw [if_pos c, c, if_pos (by decide), x_copyFrom f d hf hd, s_cl, z_0]
    have h := run_ok he 20000 0 (n0 n) d (by omega) hd c hm.2.2.1 ⟨by have := hm.1; omega, by have := hm.1; omega⟩
    refine ⟨_, ?_, h.1, fun _ => rfl⟩
    exact x_run he 20000 (0, n0 n, d) ⟨⟨by dsimp only; omega, by dsimp only; omega, by dsimp only; omega⟩, ⟨by have := hm.1; dsimp only; omega, by have := hm.2.1; dsimp only; omega, by have := hm.2.2.2.2.1; dsimp only; omega⟩, hd, c⟩
  · rw [if_neg c, if_neg (by rw [z_6, z_neg, z_eq (by omega) (by omega) (by omega) (by omega)]; exact c)]
    exact ⟨f, rfl, hf, fun z => absurd rfl z⟩
section NIGHTS
variable {m d e n f : Nat → Int → Int} {τ : qL}
/-- the reference asked and put back -/
theorem m_asked (he : okp e) (hd : okd d) (hp : mpad m e) : ∃ m', f_X7_refusal (eC (pw m d)) τ = some (zI (if (pss e (n0 n) d).1 = 0 then -6 else (pss e (n0 n) d).1), eC (pw m' (pss e (n0 n) d).2.2)) ∧ frN m m' ∧ (∀ r, f_X7_back (eC (pw m' (pss e (n0 n) d).2.2)) τ r = some (r, eC (pw m' d))) ∧ (¬ (pss e (n0 n) d).1 = -5 → mrks m' (pss e (n0 n) d).2.1) ∧ ((pss e (n0 n) d).1 = 0 → m' 99 17 = (pss e (n0 n) d).2.1 99 0) := by
  obtain ⟨m', h1, h2, h3, h4, h5⟩ := m_refusal he τ hd hp (mst_n0 n)
  refine ⟨m', h1, h2, fun r => ?_, h4, h5⟩
  rw [m_back, bk_kNow (pss_ok he hd (mst_n0 n)).2.1 h3]
theorem c_judge (he : okp e) (hd : okd d) (hf : okd f) (hp : mpad m e) (a : Int32) : ∃ r n' f' m', f_X6_judge (eC n) (eC e) (eC f) (eC d) a = some (r, eC n', eC f') ∧ f_X7_judge (eC (pw m d)) τ a = some (r, eC (pw m' d)) ∧ okd f' ∧ frN m m' := by
  obtain ⟨a, a0, a1, rfl⟩ := z_of a
  by_cases ca : 0 ≤ a ∧ a ≤ 2
  · obtain ⟨f', x1, x2, x3⟩ := x_pass (n := n) he hd hf
    obtain ⟨m', h1, h2, h3, h4, h5⟩ := m_asked (n := n) (τ := τ) he hd hp
    obtain ⟨k1, k2, k3⟩ := pss_ok he hd (mst_n0 n)
    generalize pss e (n0 n) d = R at *
    rcases k3 with c | c | c
    · refine ⟨zI (-5), R.2.1, f', m', ?_, ?_, x2, h2⟩
      · unfold f_X6_judge
        simp (disch := omega) only [x_isPlace, x_isHouse, x_isTale, x_within, x_longBetween, x_layRoad, x_doubtOf, x_furnish, x_beliefOf, x_convince, x_fadesInto, x_letFade, x1, c, s_T, s_F, s_bd, s_cl, s_rd, s_wr, s_ite, z_ite, z_neg, z_add, z_sub, z_mul, z_le, z_lt, z_eq, eC_at, eC_7, eC_8, eC_9, eC_10, eC_11, eC_p7, eC_p8, eC_p9, eC_p10, eC_p11, eC_up, ud_same, ud_ne, if_pos, if_neg, z_0, z_1, z_2, z_3, z_4, z_5, z_6, z_7, z_8, z_9, z_10, z_11, z_12, z_13, z_14, z_15, z_16, z_17, z_18, z_19, z_20, z_21, z_22, z_23, z_24, z_25, z_26, z_27, z_28, z_29, z_30, z_31, z_32, z_33, z_34, z_35, z_36, z_37, z_38, z_39, z_40, z_41, z_42, z_43, z_44, z_45, z_46, z_47, z_48, z_49, z_50, z_51, z_52, z_53, z_54, z_55, z_56, z_57, z_58, z_59, z_60, z_61, z_62, z_63, z_64, z_65, z_66, z_67, z_68, z_69, z_70, z_71, z_72, z_73, z_74, z_75, z_76, z_77, z_78, z_79, z_80, z_81, z_82, z_83, z_84, z_85, z_86, z_87, z_88, z_89, z_90, z_91, z_92, z_93, z_94, z_95, z_96, z_97, z_98, z_99, z_100, z_101, z_102, z_103, z_104, z_105, z_106, z_107, z_108, z_109, z_110, z_111, z_112, z_113, z_114, z_115, z_116, z_117, z_118, z_119, z_120, z_121, z_122, z_123, z_124, z_125, z_126, z_127, z_199, z_200, z_360, z_410, z_1000, z_1023, z_1024, z_1219, z_9999, z_10240, z_65537]
      · unfold f_X7_judge
        simp (disch := omega) only [m_isPlace, m_isHouse, m_isTale, m_in, z_l, zl_neg, zl_0, zl_1, zl_2, zl_3, zl_5, zl_8, zl_9, zl_10, zl_19, zl_33, zl_40, zl_49, zl_57, zl_60, zl_65, zl_74, zl_99, zl_100, zl_126, zl_199, zl_1000, zl_1219, zl_9999, h1, h3, c, pw_0, up_0, pw_1, up_1, pw_2, up_2, pw_3, up_3, pw_4, up_4, pw_9, up_9, pw_10, up_10, pwi_5, upi_5, pwi_6, upi_6, pwi_7, upi_7, pwi_8, upi_8, pwi_11, upi_11, pw_12, up_12, pw_14, up_14, pw_15, up_15, pw_16, up_16, pw_18, up_18, pw_24, up_24, pw_25, up_25, pw_26, up_26, pw_29, up_29, pw_30, up_30, pw_31, up_31, pwi_13, upi_13, pwi_17, upi_17, pwi_19, upi_19, pwi_20, upi_20, pwi_21, upi_21, pwi_22, upi_22, pwi_23, upi_23, pwi_32, upi_32, pwi_33, upi_33, eC_5, eC_6, eC_13, eC_17, eC_19, eC_20, eC_21, eC_22, eC_23, eC_32, eC_33, eC_p5, eC_p6, eC_p13, eC_p17, eC_p19, eC_p20, eC_p21, eC_p22, eC_p23, eC_p32, eC_p33, s_T, s_F, s_bd, s_cl, s_rd, s_wr, s_ite, z_ite, z_neg, z_add, z_sub, z_mul, z_le, z_lt, z_eq, eC_at, eC_7, eC_8, eC_9, eC_10, eC_11, eC_p7, eC_p8, eC_p9, eC_p10, eC_p11, eC_up, ud_same, ud_ne, if_pos, if_neg, z_0, z_1, z_2, z_3, z_4, z_5, z_6, z_7, z_8, z_9, z_10, z_11, z_12, z_13, z_14, z_15, z_16, z_17, z_18, z_19, z_20, z_21, z_22, z_23, z_24, z_25, z_26, z_27, z_28, z_29, z_30, z_31, z_32, z_33, z_34, z_35, z_36, z_37, z_38, z_39, z_40, z_41, z_42, z_43, z_44, z_45, z_46, z_47, z_48, z_49, z_50, z_51, z_52, z_53, z_54, z_55, z_56, z_57, z_58, z_59, z_60, z_61, z_62, z_63, z_64, z_65, z_66, z_67, z_68, z_69, z_70, z_71, z_72, z_73, z_74, z_75, z_76, z_77, z_78, z_79, z_80, z_81, z_82, z_83, z_84, z_85, z_86, z_87, z_88, z_89, z_90, z_91, z_92, z_93, z_94, z_95, z_96, z_97, z_98, z_99, z_100, z_101, z_102, z_103, z_104, z_105, z_106, z_107, z_108, z_109, z_110, z_111, z_112, z_113, z_114, z_115, z_116, z_117, z_118, z_119, z_120, z_121, z_122, z_123, z_124, z_125, z_126, z_127, z_199, z_200, z_360, z_410, z_1000, z_1023, z_1024, z_1219, z_9999, z_10240, z_65537]
    · obtain ⟨k19, k20, k21, k22, k23⟩ := h4 (by omega)
      refine ⟨zI (if a = 0 then R.2.1 99 2 else if a = 1 then R.2.1 99 3 else R.2.1 99 1), R.2.1, f', m', ?_, ?_, x2, h2⟩
      · unfold f_X6_judge
        rcases (show a = 0 ∨ a = 1 ∨ a = 2 by omega) with z | z | z <;> subst z <;> simp (disch := omega) only [x_isPlace, x_isHouse, x_isTale, x_within, x_longBetween, x_layRoad, x_doubtOf, x_furnish, x_beliefOf, x_convince, x_fadesInto, x_letFade, x1, c, eC_1, eC_2, eC_3, s_T, s_F, s_bd, s_cl, s_rd, s_wr, s_ite, z_ite, z_neg, z_add, z_sub, z_mul, z_le, z_lt, z_eq, eC_at, eC_7, eC_8, eC_9, eC_10, eC_11, eC_p7, eC_p8, eC_p9, eC_p10, eC_p11, eC_up, ud_same, ud_ne, if_pos, if_neg, z_0, z_1, z_2, z_3, z_4, z_5, z_6, z_7, z_8, z_9, z_10, z_11, z_12, z_13, z_14, z_15, z_16, z_17, z_18, z_19, z_20, z_21, z_22, z_23, z_24, z_25, z_26, z_27, z_28, z_29, z_30, z_31, z_32, z_33, z_34, z_35, z_36, z_37, z_38, z_39, z_40, z_41, z_42, z_43, z_44, z_45, z_46, z_47, z_48, z_49, z_50, z_51, z_52, z_53, z_54, z_55, z_56, z_57, z_58, z_59, z_60, z_61, z_62, z_63, z_64, z_65, z_66, z_67, z_68, z_69, z_70, z_71, z_72, z_73, z_74, z_75, z_76, z_77, z_78, z_79, z_80, z_81, z_82, z_83, z_84, z_85, z_86, z_87, z_88, z_89, z_90, z_91, z_92, z_93, z_94, z_95, z_96, z_97, z_98, z_99, z_100, z_101, z_102, z_103, z_104, z_105, z_106, z_107, z_108, z_109, z_110, z_111, z_112, z_113, z_114, z_115, z_116, z_117, z_118, z_119, z_120, z_121, z_122, z_123, z_124, z_125, z_126, z_127, z_199, z_200, z_360, z_410, z_1000, z_1023, z_1024, z_1219, z_9999, z_10240, z_65537]
      · unfold f_X7_judge
        rcases (show a = 0 ∨ a = 1 ∨ a = 2 by omega) with z | z | z <;> subst z
        · simp (disch := omega) only [m_isPlace, m_isHouse, m_isTale, m_in, z_l, zl_neg, zl_0, zl_1, zl_2, zl_3, zl_5, zl_8, zl_9, zl_10, zl_19, zl_33, zl_40, zl_49, zl_57, zl_60, zl_65, zl_74, zl_99, zl_100, zl_126, zl_199, zl_1000, zl_1219, zl_9999, h1, h3, c, k19, pw_0, up_0, pw_1, up_1, pw_2, up_2, pw_3, up_3, pw_4, up_4, pw_9, up_9, pw_10, up_10, pwi_5, upi_5, pwi_6, upi_6, pwi_7, upi_7, pwi_8, upi_8, pwi_11, upi_11, pw_12, up_12, pw_14, up_14, pw_15, up_15, pw_16, up_16, pw_18, up_18, pw_24, up_24, pw_25, up_25, pw_26, up_26, pw_29, up_29, pw_30, up_30, pw_31, up_31, pwi_13, upi_13, pwi_17, upi_17, pwi_19, upi_19, pwi_20, upi_20, pwi_21, upi_21, pwi_22, upi_22, pwi_23, upi_23, pwi_32, upi_32, pwi_33, upi_33, eC_5, eC_6, eC_13, eC_17, eC_19, eC_20, eC_21, eC_22, eC_23, eC_32, eC_33, eC_p5, eC_p6, eC_p13, eC_p17, eC_p19, eC_p20, eC_p21, eC_p22, eC_p23, eC_p32, eC_p33, s_T, s_F, s_bd, s_cl, s_rd, s_wr, s_ite, z_ite, z_neg, z_add, z_sub, z_mul, z_le, z_lt, z_eq, eC_at, eC_7, eC_8, eC_9, eC_10, eC_11, eC_p7, eC_p8, eC_p9, eC_p10, eC_p11, eC_up, ud_same, ud_ne, if_pos, if_neg, z_0, z_1, z_2, z_3, z_4, z_5, z_6, z_7, z_8, z_9, z_10, z_11, z_12, z_13, z_14, z_15, z_16, z_17, z_18, z_19, z_20, z_21, z_22, z_23, z_24, z_25, z_26, z_27, z_28, z_29, z_30, z_31, z_32, z_33, z_34, z_35, z_36, z_37, z_38, z_39, z_40, z_41, z_42, z_43, z_44, z_45, z_46, z_47, z_48, z_49, z_50, z_51, z_52, z_53, z_54, z_55, z_56, z_57, z_58, z_59, z_60, z_61, z_62, z_63, z_64, z_65, z_66, z_67, z_68, z_69, z_70, z_71, z_72, z_73, z_74, z_75, z_76, z_77, z_78, z_79, z_80, z_81, z_82, z_83, z_84, z_85, z_86, z_87, z_88, z_89, z_90, z_91, z_92, z_93, z_94, z_95, z_96, z_97, z_98, z_99, z_100, z_101, z_102, z_103, z_104, z_105, z_106, z_107, z_108, z_109, z_110, z_111, z_112, z_113, z_114, z_115, z_116, z_117, z_118, z_119, z_120, z_121, z_122, z_123, z_124, z_125, z_126, z_127, z_199, z_200, z_360, z_410, z_1000, z_1023, z_1024, z_1219, z_9999, z_10240, z_65537]
        · simp (disch := omega) only [m_isPlace, m_isHouse, m_isTale, m_in, z_l, zl_neg, zl_0, zl_1, zl_2, zl_3, zl_5, zl_8, zl_9, zl_10, zl_19, zl_33, zl_40, zl_49, zl_57, zl_60, zl_65, zl_74, zl_99, zl_100, zl_126, zl_199, zl_1000, zl_1219, zl_9999, h1, h3, c, k20, pw_0, up_0, pw_1, up_1, pw_2, up_2, pw_3, up_3, pw_4, up_4, pw_9, up_9, pw_10, up_10, pwi_5, upi_5, pwi_6, upi_6, pwi_7, upi_7, pwi_8, upi_8, pwi_11, upi_11, pw_12, up_12, pw_14, up_14, pw_15, up_15, pw_16, up_16, pw_18, up_18, pw_24, up_24, pw_25, up_25, pw_26, up_26, pw_29, up_29, pw_30, up_30, pw_31, up_31, pwi_13, upi_13, pwi_17, upi_17, pwi_19, upi_19, pwi_20, upi_20, pwi_21, upi_21, pwi_22, upi_22, pwi_23, upi_23, pwi_32, upi_32, pwi_33, upi_33, eC_5, eC_6, eC_13, eC_17, eC_19, eC_20, eC_21, eC_22, eC_23, eC_32, eC_33, eC_p5, eC_p6, eC_p13, eC_p17, eC_p19, eC_p20, eC_p21, eC_p22, eC_p23, eC_p32, eC_p33, s_T, s_F, s_bd, s_cl, s_rd, s_wr, s_ite, z_ite, z_neg, z_add, z_sub, z_mul, z_le, z_lt, z_eq, eC_at, eC_7, eC_8, eC_9, eC_10, eC_11, eC_p7, eC_p8, eC_p9, eC_p10, eC_p11, eC_up, ud_same, ud_ne, if_pos, if_neg, z_0, z_1, z_2, z_3, z_4, z_5, z_6, z_7, z_8, z_9, z_10, z_11, z_12, z_13, z_14, z_15, z_16, z_17, z_18, z_19, z_20, z_21, z_22, z_23, z_24, z_25, z_26, z_27, z_28, z_29, z_30, z_31, z_32, z_33, z_34, z_35, z_36, z_37, z_38, z_39, z_40, z_41, z_42, z_43, z_44, z_45, z_46, z_47, z_48, z_49, z_50, z_51, z_52, z_53, z_54, z_55, z_56, z_57, z_58, z_59, z_60, z_61, z_62, z_63, z_64, z_65, z_66, z_67, z_68, z_69, z_70, z_71, z_72, z_73, z_74, z_75, z_76, z_77, z_78, z_79, z_80, z_81, z_82, z_83, z_84, z_85, z_86, z_87, z_88, z_89, z_90, z_91, z_92, z_93, z_94, z_95, z_96, z_97, z_98, z_99, z_100, z_101, z_102, z_103, z_104, z_105, z_106, z_107, z_108, z_109, z_110, z_111, z_112, z_113, z_114, z_115, z_116, z_117, z_118, z_119, z_120, z_121, z_122, z_123, z_124, z_125, z_126, z_127, z_199, z_200, z_360, z_410, z_1000, z_1023, z_1024, z_1219, z_9999, z_10240, z_65537]
        · simp (disch := omega) only [m_isPlace, m_isHouse, m_isTale, m_in, z_l, zl_neg, zl_0, zl_1, zl_2, zl_3, zl_5, zl_8, zl_9, zl_10, zl_19, zl_33, zl_40, zl_49, zl_57, zl_60, zl_65, zl_74, zl_99, zl_100, zl_126, zl_199, zl_1000, zl_1219, zl_9999, h1, h3, c, k21, pw_0, up_0, pw_1, up_1, pw_2, up_2, pw_3, up_3, pw_4, up_4, pw_9, up_9, pw_10, up_10, pwi_5, upi_5, pwi_6, upi_6, pwi_7, upi_7, pwi_8, upi_8, pwi_11, upi_11, pw_12, up_12, pw_14, up_14, pw_15, up_15, pw_16, up_16, pw_18, up_18, pw_24, up_24, pw_25, up_25, pw_26, up_26, pw_29, up_29, pw_30, up_30, pw_31, up_31, pwi_13, upi_13, pwi_17, upi_17, pwi_19, upi_19, pwi_20, upi_20, pwi_21, upi_21, pwi_22, upi_22, pwi_23, upi_23, pwi_32, upi_32, pwi_33, upi_33, eC_5, eC_6, eC_13, eC_17, eC_19, eC_20, eC_21, eC_22, eC_23, eC_32, eC_33, eC_p5, eC_p6, eC_p13, eC_p17, eC_p19, eC_p20, eC_p21, eC_p22, eC_p23, eC_p32, eC_p33, s_T, s_F, s_bd, s_cl, s_rd, s_wr, s_ite, z_ite, z_neg, z_add, z_sub, z_mul, z_le, z_lt, z_eq, eC_at, eC_7, eC_8, eC_9, eC_10, eC_11, eC_p7, eC_p8, eC_p9, eC_p10, eC_p11, eC_up, ud_same, ud_ne, if_pos, if_neg, z_0, z_1, z_2, z_3, z_4, z_5, z_6, z_7, z_8, z_9, z_10, z_11, z_12, z_13, z_14, z_15, z_16, z_17, z_18, z_19, z_20, z_21, z_22, z_23, z_24, z_25, z_26, z_27, z_28, z_29, z_30, z_31, z_32, z_33, z_34, z_35, z_36, z_37, z_38, z_39, z_40, z_41, z_42, z_43, z_44, z_45, z_46, z_47, z_48, z_49, z_50, z_51, z_52, z_53, z_54, z_55, z_56, z_57, z_58, z_59, z_60, z_61, z_62, z_63, z_64, z_65, z_66, z_67, z_68, z_69, z_70, z_71, z_72, z_73, z_74, z_75, z_76, z_77, z_78, z_79, z_80, z_81, z_82, z_83, z_84, z_85, z_86, z_87, z_88, z_89, z_90, z_91, z_92, z_93, z_94, z_95, z_96, z_97, z_98, z_99, z_100, z_101, z_102, z_103, z_104, z_105, z_106, z_107, z_108, z_109, z_110, z_111, z_112, z_113, z_114, z_115, z_116, z_117, z_118, z_119, z_120, z_121, z_122, z_123, z_124, z_125, z_126, z_127, z_199, z_200, z_360, z_410, z_1000, z_1023, z_1024, z_1219, z_9999, z_10240, z_65537]
    · obtain ⟨k19, k20, k21, k22, k23⟩ := h4 (by omega)
      refine ⟨zI (if a = 0 then R.2.1 99 2 else if a = 1 then R.2.1 99 3 else -3), R.2.1, f', m', ?_, ?_, x2, h2⟩
      · unfold f_X6_judge
        rcases (show a = 0 ∨ a = 1 ∨ a = 2 by omega) with z | z | z <;> subst z
        · simp (disch := omega) only [x_isPlace, x_isHouse, x_isTale, x_within, x_longBetween, x_layRoad, x_doubtOf, x_furnish, x_beliefOf, x_convince, x_fadesInto, x_letFade, x1, c, eC_2, s_T, s_F, s_bd, s_cl, s_rd, s_wr, s_ite, z_ite, z_neg, z_add, z_sub, z_mul, z_le, z_lt, z_eq, eC_at, eC_7, eC_8, eC_9, eC_10, eC_11, eC_p7, eC_p8, eC_p9, eC_p10, eC_p11, eC_up, ud_same, ud_ne, if_pos, if_neg, z_0, z_1, z_2, z_3, z_4, z_5, z_6, z_7, z_8, z_9, z_10, z_11, z_12, z_13, z_14, z_15, z_16, z_17, z_18, z_19, z_20, z_21, z_22, z_23, z_24, z_25, z_26, z_27, z_28, z_29, z_30, z_31, z_32, z_33, z_34, z_35, z_36, z_37, z_38, z_39, z_40, z_41, z_42, z_43, z_44, z_45, z_46, z_47, z_48, z_49, z_50, z_51, z_52, z_53, z_54, z_55, z_56, z_57, z_58, z_59, z_60, z_61, z_62, z_63, z_64, z_65, z_66, z_67, z_68, z_69, z_70, z_71, z_72, z_73, z_74, z_75, z_76, z_77, z_78, z_79, z_80, z_81, z_82, z_83, z_84, z_85, z_86, z_87, z_88, z_89, z_90, z_91, z_92, z_93, z_94, z_95, z_96, z_97, z_98, z_99, z_100, z_101, z_102, z_103, z_104, z_105, z_106, z_107, z_108, z_109, z_110, z_111, z_112, z_113, z_114, z_115, z_116, z_117, z_118, z_119, z_120, z_121, z_122, z_123, z_124, z_125, z_126, z_127, z_199, z_200, z_360, z_410, z_1000, z_1023, z_1024, z_1219, z_9999, z_10240, z_65537]
        · simp (disch := omega) only [x_isPlace, x_isHouse, x_isTale, x_within, x_longBetween, x_layRoad, x_doubtOf, x_furnish, x_beliefOf, x_convince, x_fadesInto, x_letFade, x1, c, eC_3, s_T, s_F, s_bd, s_cl, s_rd, s_wr, s_ite, z_ite, z_neg, z_add, z_sub, z_mul, z_le, z_lt, z_eq, eC_at, eC_7, eC_8, eC_9, eC_10, eC_11, eC_p7, eC_p8, eC_p9, eC_p10, eC_p11, eC_up, ud_same, ud_ne, if_pos, if_neg, z_0, z_1, z_2, z_3, z_4, z_5, z_6, z_7, z_8, z_9, z_10, z_11, z_12, z_13, z_14, z_15, z_16, z_17, z_18, z_19, z_20, z_21, z_22, z_23, z_24, z_25, z_26, z_27, z_28, z_29, z_30, z_31, z_32, z_33, z_34, z_35, z_36, z_37, z_38, z_39, z_40, z_41, z_42, z_43, z_44, z_45, z_46, z_47, z_48, z_49, z_50, z_51, z_52, z_53, z_54, z_55, z_56, z_57, z_58, z_59, z_60, z_61, z_62, z_63, z_64, z_65, z_66, z_67, z_68, z_69, z_70, z_71, z_72, z_73, z_74, z_75, z_76, z_77, z_78, z_79, z_80, z_81, z_82, z_83, z_84, z_85, z_86, z_87, z_88, z_89, z_90, z_91, z_92, z_93, z_94, z_95, z_96, z_97, z_98, z_99, z_100, z_101, z_102, z_103, z_104, z_105, z_106, z_107, z_108, z_109, z_110, z_111, z_112, z_113, z_114, z_115, z_116, z_117, z_118, z_119, z_120, z_121, z_122, z_123, z_124, z_125, z_126, z_127, z_199, z_200, z_360, z_410, z_1000, z_1023, z_1024, z_1219, z_9999, z_10240, z_65537]
        · simp (disch := omega) only [x_isPlace, x_isHouse, x_isTale, x_within, x_longBetween, x_layRoad, x_doubtOf, x_furnish, x_beliefOf, x_convince, x_fadesInto, x_letFade, x1, c, s_T, s_F, s_bd, s_cl, s_rd, s_wr, s_ite, z_ite, z_neg, z_add, z_sub, z_mul, z_le, z_lt, z_eq, eC_at, eC_7, eC_8, eC_9, eC_10, eC_11, eC_p7, eC_p8, eC_p9, eC_p10, eC_p11, eC_up, ud_same, ud_ne, if_pos, if_neg, z_0, z_1, z_2, z_3, z_4, z_5, z_6, z_7, z_8, z_9, z_10, z_11, z_12, z_13, z_14, z_15, z_16, z_17, z_18, z_19, z_20, z_21, z_22, z_23, z_24, z_25, z_26, z_27, z_28, z_29, z_30, z_31, z_32, z_33, z_34, z_35, z_36, z_37, z_38, z_39, z_40, z_41, z_42, z_43, z_44, z_45, z_46, z_47, z_48, z_49, z_50, z_51, z_52, z_53, z_54, z_55, z_56, z_57, z_58, z_59, z_60, z_61, z_62, z_63, z_64, z_65, z_66, z_67, z_68, z_69, z_70, z_71, z_72, z_73, z_74, z_75, z_76, z_77, z_78, z_79, z_80, z_81, z_82, z_83, z_84, z_85, z_86, z_87, z_88, z_89, z_90, z_91, z_92, z_93, z_94, z_95, z_96, z_97, z_98, z_99, z_100, z_101, z_102, z_103, z_104, z_105, z_106, z_107, z_108, z_109, z_110, z_111, z_112, z_113, z_114, z_115, z_116, z_117, z_118, z_119, z_120, z_121, z_122, z_123, z_124, z_125, z_126, z_127, z_199, z_200, z_360, z_410, z_1000, z_1023, z_1024, z_1219, z_9999, z_10240, z_65537]
      · unfold f_X7_judge
        rcases (show a = 0 ∨ a = 1 ∨ a = 2 by omega) with z | z | z <;> subst z
        · simp (disch := omega) only [m_isPlace, m_isHouse, m_isTale, m_in, z_l, zl_neg, zl_0, zl_1, zl_2, zl_3, zl_5, zl_8, zl_9, zl_10, zl_19, zl_33, zl_40, zl_49, zl_57, zl_60, zl_65, zl_74, zl_99, zl_100, zl_126, zl_199, zl_1000, zl_1219, zl_9999, h1, h3, c, k19, pw_0, up_0, pw_1, up_1, pw_2, up_2, pw_3, up_3, pw_4, up_4, pw_9, up_9, pw_10, up_10, pwi_5, upi_5, pwi_6, upi_6, pwi_7, upi_7, pwi_8, upi_8, pwi_11, upi_11, pw_12, up_12, pw_14, up_14, pw_15, up_15, pw_16, up_16, pw_18, up_18, pw_24, up_24, pw_25, up_25, pw_26, up_26, pw_29, up_29, pw_30, up_30, pw_31, up_31, pwi_13, upi_13, pwi_17, upi_17, pwi_19, upi_19, pwi_20, upi_20, pwi_21, upi_21, pwi_22, upi_22, pwi_23, upi_23, pwi_32, upi_32, pwi_33, upi_33, eC_5, eC_6, eC_13, eC_17, eC_19, eC_20, eC_21, eC_22, eC_23, eC_32, eC_33, eC_p5, eC_p6, eC_p13, eC_p17, eC_p19, eC_p20, eC_p21, eC_p22, eC_p23, eC_p32, eC_p33, s_T, s_F, s_bd, s_cl, s_rd, s_wr, s_ite, z_ite, z_neg, z_add, z_sub, z_mul, z_le, z_lt, z_eq, eC_at, eC_7, eC_8, eC_9, eC_10, eC_11, eC_p7, eC_p8, eC_p9, eC_p10, eC_p11, eC_up, ud_same, ud_ne, if_pos, if_neg, z_0, z_1, z_2, z_3, z_4, z_5, z_6, z_7, z_8, z_9, z_10, z_11, z_12, z_13, z_14, z_15, z_16, z_17, z_18, z_19, z_20, z_21, z_22, z_23, z_24, z_25, z_26, z_27, z_28, z_29, z_30, z_31, z_32, z_33, z_34, z_35, z_36, z_37, z_38, z_39, z_40, z_41, z_42, z_43, z_44, z_45, z_46, z_47, z_48, z_49, z_50, z_51, z_52, z_53, z_54, z_55, z_56, z_57, z_58, z_59, z_60, z_61, z_62, z_63, z_64, z_65, z_66, z_67, z_68, z_69, z_70, z_71, z_72, z_73, z_74, z_75, z_76, z_77, z_78, z_79, z_80, z_81, z_82, z_83, z_84, z_85, z_86, z_87, z_88, z_89, z_90, z_91, z_92, z_93, z_94, z_95, z_96, z_97, z_98, z_99, z_100, z_101, z_102, z_103, z_104, z_105, z_106, z_107, z_108, z_109, z_110, z_111, z_112, z_113, z_114, z_115, z_116, z_117, z_118, z_119, z_120, z_121, z_122, z_123, z_124, z_125, z_126, z_127, z_199, z_200, z_360, z_410, z_1000, z_1023, z_1024, z_1219, z_9999, z_10240, z_65537]
        · simp (disch := omega) only [m_isPlace, m_isHouse, m_isTale, m_in, z_l, zl_neg, zl_0, zl_1, zl_2, zl_3, zl_5, zl_8, zl_9, zl_10, zl_19, zl_33, zl_40, zl_49, zl_57, zl_60, zl_65, zl_74, zl_99, zl_100, zl_126, zl_199, zl_1000, zl_1219, zl_9999, h1, h3, c, k20, pw_0, up_0, pw_1, up_1, pw_2, up_2, pw_3, up_3, pw_4, up_4, pw_9, up_9, pw_10, up_10, pwi_5, upi_5, pwi_6, upi_6, pwi_7, upi_7, pwi_8, upi_8, pwi_11, upi_11, pw_12, up_12, pw_14, up_14, pw_15, up_15, pw_16, up_16, pw_18, up_18, pw_24, up_24, pw_25, up_25, pw_26, up_26, pw_29, up_29, pw_30, up_30, pw_31, up_31, pwi_13, upi_13, pwi_17, upi_17, pwi_19, upi_19, pwi_20, upi_20, pwi_21, upi_21, pwi_22, upi_22, pwi_23, upi_23, pwi_32, upi_32, pwi_33, upi_33, eC_5, eC_6, eC_13, eC_17, eC_19, eC_20, eC_21, eC_22, eC_23, eC_32, eC_33, eC_p5, eC_p6, eC_p13, eC_p17, eC_p19, eC_p20, eC_p21, eC_p22, eC_p23, eC_p32, eC_p33, s_T, s_F, s_bd, s_cl, s_rd, s_wr, s_ite, z_ite, z_neg, z_add, z_sub, z_mul, z_le, z_lt, z_eq, eC_at, eC_7, eC_8, eC_9, eC_10, eC_11, eC_p7, eC_p8, eC_p9, eC_p10, eC_p11, eC_up, ud_same, ud_ne, if_pos, if_neg, z_0, z_1, z_2, z_3, z_4, z_5, z_6, z_7, z_8, z_9, z_10, z_11, z_12, z_13, z_14, z_15, z_16, z_17, z_18, z_19, z_20, z_21, z_22, z_23, z_24, z_25, z_26, z_27, z_28, z_29, z_30, z_31, z_32, z_33, z_34, z_35, z_36, z_37, z_38, z_39, z_40, z_41, z_42, z_43, z_44, z_45, z_46, z_47, z_48, z_49, z_50, z_51, z_52, z_53, z_54, z_55, z_56, z_57, z_58, z_59, z_60, z_61, z_62, z_63, z_64, z_65, z_66, z_67, z_68, z_69, z_70, z_71, z_72, z_73, z_74, z_75, z_76, z_77, z_78, z_79, z_80, z_81, z_82, z_83, z_84, z_85, z_86, z_87, z_88, z_89, z_90, z_91, z_92, z_93, z_94, z_95, z_96, z_97, z_98, z_99, z_100, z_101, z_102, z_103, z_104, z_105, z_106, z_107, z_108, z_109, z_110, z_111, z_112, z_113, z_114, z_115, z_116, z_117, z_118, z_119, z_120, z_121, z_122, z_123, z_124, z_125, z_126, z_127, z_199, z_200, z_360, z_410, z_1000, z_1023, z_1024, z_1219, z_9999, z_10240, z_65537]
        · simp (disch := omega) only [m_isPlace, m_isHouse, m_isTale, m_in, z_l, zl_neg, zl_0, zl_1, zl_2, zl_3, zl_5, zl_8, zl_9, zl_10, zl_19, zl_33, zl_40, zl_49, zl_57, zl_60, zl_65, zl_74, zl_99, zl_100, zl_126, zl_199, zl_1000, zl_1219, zl_9999, h1, h3, c, pw_0, up_0, pw_1, up_1, pw_2, up_2, pw_3, up_3, pw_4, up_4, pw_9, up_9, pw_10, up_10, pwi_5, upi_5, pwi_6, upi_6, pwi_7, upi_7, pwi_8, upi_8, pwi_11, upi_11, pw_12, up_12, pw_14, up_14, pw_15, up_15, pw_16, up_16, pw_18, up_18, pw_24, up_24, pw_25, up_25, pw_26, up_26, pw_29, up_29, pw_30, up_30, pw_31, up_31, pwi_13, upi_13, pwi_17, upi_17, pwi_19, upi_19, pwi_20, upi_20, pwi_21, upi_21, pwi_22, upi_22, pwi_23, upi_23, pwi_32, upi_32, pwi_33, upi_33, eC_5, eC_6, eC_13, eC_17, eC_19, eC_20, eC_21, eC_22, eC_23, eC_32, eC_33, eC_p5, eC_p6, eC_p13, eC_p17, eC_p19, eC_p20, eC_p21, eC_p22, eC_p23, eC_p32, eC_p33, s_T, s_F, s_bd, s_cl, s_rd, s_wr, s_ite, z_ite, z_neg, z_add, z_sub, z_mul, z_le, z_lt, z_eq, eC_at, eC_7, eC_8, eC_9, eC_10, eC_11, eC_p7, eC_p8, eC_p9, eC_p10, eC_p11, eC_up, ud_same, ud_ne, if_pos, if_neg, z_0, z_1, z_2, z_3, z_4, z_5, z_6, z_7, z_8, z_9, z_10, z_11, z_12, z_13, z_14, z_15, z_16, z_17, z_18, z_19, z_20, z_21, z_22, z_23, z_24, z_25, z_26, z_27, z_28, z_29, z_30, z_31, z_32, z_33, z_34, z_35, z_36, z_37, z_38, z_39, z_40, z_41, z_42, z_43, z_44, z_45, z_46, z_47, z_48, z_49, z_50, z_51, z_52, z_53, z_54, z_55, z_56, z_57, z_58, z_59, z_60, z_61, z_62, z_63, z_64, z_65, z_66, z_67, z_68, z_69, z_70, z_71, z_72, z_73, z_74, z_75, z_76, z_77, z_78, z_79, z_80, z_81, z_82, z_83, z_84, z_85, z_86, z_87, z_88, z_89, z_90, z_91, z_92, z_93, z_94, z_95, z_96, z_97, z_98, z_99, z_100, z_101, z_102, z_103, z_104, z_105, z_106, z_107, z_108, z_109, z_110, z_111, z_112, z_113, z_114, z_115, z_116, z_117, z_118, z_119, z_120, z_121, z_122, z_123, z_124, z_125, z_126, z_127, z_199, z_200, z_360, z_410, z_1000, z_1023, z_1024, z_1219, z_9999, z_10240, z_65537]
  · exact ⟨zI (-2), n, f, m, by unfold f_X6_judge; simp (disch := omega) only [x_isPlace, x_isHouse, x_isTale, x_within, x_longBetween, x_layRoad, x_doubtOf, x_furnish, x_beliefOf, x_convince, x_fadesInto, x_letFade, s_T, s_F, s_bd, s_cl, s_rd, s_wr, s_ite, z_ite, z_neg, z_add, z_sub, z_mul, z_le, z_lt, z_eq, eC_at, eC_7, eC_8, eC_9, eC_10, eC_11, eC_p7, eC_p8, eC_p9, eC_p10, eC_p11, eC_up, ud_same, ud_ne, if_pos, if_neg, z_0, z_1, z_2, z_3, z_4, z_5, z_6, z_7, z_8, z_9, z_10, z_11, z_12, z_13, z_14, z_15, z_16, z_17, z_18, z_19, z_20, z_21, z_22, z_23, z_24, z_25, z_26, z_27, z_28, z_29, z_30, z_31, z_32, z_33, z_34, z_35, z_36, z_37, z_38, z_39, z_40, z_41, z_42, z_43, z_44, z_45, z_46, z_47, z_48, z_49, z_50, z_51, z_52, z_53, z_54, z_55, z_56, z_57, z_58, z_59, z_60, z_61, z_62, z_63, z_64, z_65, z_66, z_67, z_68, z_69, z_70, z_71, z_72, z_73, z_74, z_75, z_76, z_77, z_78, z_79, z_80, z_81, z_82, z_83, z_84, z_85, z_86, z_87, z_88, z_89, z_90, z_91, z_92, z_93, z_94, z_95, z_96, z_97, z_98, z_99, z_100, z_101, z_102, z_103, z_104, z_105, z_106, z_107, z_108, z_109, z_110, z_111, z_112, z_113, z_114, z_115, z_116, z_117, z_118, z_119, z_120, z_121, z_122, z_123, z_124, z_125, z_126, z_127, z_199, z_200, z_360, z_410, z_1000, z_1023, z_1024, z_1219, z_9999, z_10240, z_65537], by unfold f_X7_judge; simp (disch := omega) only [m_isPlace, m_isHouse, m_isTale, m_in, z_l, zl_neg, zl_0, zl_1, zl_2, zl_3, zl_5, zl_8, zl_9, zl_10, zl_19, zl_33, zl_40, zl_49, zl_57, zl_60, zl_65, zl_74, zl_99, zl_100, zl_126, zl_199, zl_1000, zl_1219, zl_9999, pw_0, up_0, pw_1, up_1, pw_2, up_2, pw_3, up_3, pw_4, up_4, pw_9, up_9, pw_10, up_10, pwi_5, upi_5, pwi_6, upi_6, pwi_7, upi_7, pwi_8, upi_8, pwi_11, upi_11, pw_12, up_12, pw_14, up_14, pw_15, up_15, pw_16, up_16, pw_18, up_18, pw_24, up_24, pw_25, up_25, pw_26, up_26, pw_29, up_29, pw_30, up_30, pw_31, up_31, pwi_13, upi_13, pwi_17, upi_17, pwi_19, upi_19, pwi_20, upi_20, pwi_21, upi_21, pwi_22, upi_22, pwi_23, upi_23, pwi_32, upi_32, pwi_33, upi_33, eC_5, eC_6, eC_13, eC_17, eC_19, eC_20, eC_21, eC_22, eC_23, eC_32, eC_33, eC_p5, eC_p6, eC_p13, eC_p17, eC_p19, eC_p20, eC_p21, eC_p22, eC_p23, eC_p32, eC_p33, s_T, s_F, s_bd, s_cl, s_rd, s_wr, s_ite, z_ite, z_neg, z_add, z_sub, z_mul, z_le, z_lt, z_eq, eC_at, eC_7, eC_8, eC_9, eC_10, eC_11, eC_p7, eC_p8, eC_p9, eC_p10, eC_p11, eC_up, ud_same, ud_ne, if_pos, if_neg, z_0, z_1, z_2, z_3, z_4, z_5, z_6, z_7, z_8, z_9, z_10, z_11, z_12, z_13, z_14, z_15, z_16, z_17, z_18, z_19, z_20, z_21, z_22, z_23, z_24, z_25, z_26, z_27, z_28, z_29, z_30, z_31, z_32, z_33, z_34, z_35, z_36, z_37, z_38, z_39, z_40, z_41, z_42, z_43, z_44, z_45, z_46, z_47, z_48, z_49, z_50, z_51, z_52, z_53, z_54, z_55, z_56, z_57, z_58, z_59, z_60, z_61, z_62, z_63, z_64, z_65, z_66, z_67, z_68, z_69, z_70, z_71, z_72, z_73, z_74, z_75, z_76, z_77, z_78, z_79, z_80, z_81, z_82, z_83, z_84, z_85, z_86, z_87, z_88, z_89, z_90, z_91, z_92, z_93, z_94, z_95, z_96, z_97, z_98, z_99, z_100, z_101, z_102, z_103, z_104, z_105, z_106, z_107, z_108, z_109, z_110, z_111, z_112, z_113, z_114, z_115, z_116, z_117, z_118, z_119, z_120, z_121, z_122, z_123, z_124, z_125, z_126, z_127, z_199, z_200, z_360, z_410, z_1000, z_1023, z_1024, z_1219, z_9999, z_10240, z_65537], hf, frN_rf m⟩
theorem m_ofHouse (hd : okd d) {a w : Int} (ha : 0 ≤ a) (ha' : a ≤ 9) (h1 : -2147483648 ≤ w) (h2 : w < 2147483648) : f_X7_ofHouse (eC (pw m d)) τ (zI a) (zI w) = some (zI (hFact d a w)) := by
  unfold f_X7_ofHouse hFact
  simp (disch := omega) only [pw_0, up_0, pw_1, up_1, pw_2, up_2, pw_3, up_3, pw_4, up_4, pw_9, up_9, pw_10, up_10, pwi_5, upi_5, pwi_6, upi_6, pwi_7, upi_7, pwi_8, upi_8, pwi_11, upi_11, pw_12, up_12, pw_14, up_14, pw_15, up_15, pw_16, up_16, pw_18, up_18, pw_24, up_24, pw_25, up_25, pw_26, up_26, pw_29, up_29, pw_30, up_30, pw_31, up_31, pwi_13, upi_13, pwi_17, upi_17, pwi_19, upi_19, pwi_20, upi_20, pwi_21, upi_21, pwi_22, upi_22, pwi_23, upi_23, pwi_32, upi_32, pwi_33, upi_33, eC_5, eC_6, eC_13, eC_17, eC_19, eC_20, eC_21, eC_22, eC_23, eC_32, eC_33, eC_p5, eC_p6, eC_p13, eC_p17, eC_p19, eC_p20, eC_p21, eC_p22, eC_p23, eC_p32, eC_p33, s_T, s_F, s_bd, s_cl, s_rd, s_wr, s_ite, z_ite, z_neg, z_add, z_sub, z_mul, z_le, z_lt, z_eq, eC_at, eC_7, eC_8, eC_9, eC_10, eC_11, eC_p7, eC_p8, eC_p9, eC_p10, eC_p11, eC_up, ud_same, ud_ne, z_0, z_1, z_2, z_3, z_4, z_5, z_6, z_7, z_8, z_9, z_10, z_11, z_12, z_13, z_14, z_15, z_16, z_17, z_18, z_19, z_20, z_21, z_22, z_23, z_24, z_25, z_26, z_27, z_28, z_29, z_30, z_31, z_32, z_33, z_34, z_35, z_36, z_37, z_38, z_39, z_40, z_41, z_42, z_43, z_44, z_45, z_46, z_47, z_48, z_49, z_50, z_51, z_52, z_53, z_54, z_55, z_56, z_57, z_58, z_59, z_60, z_61, z_62, z_63, z_64, z_65, z_66, z_67, z_68, z_69, z_70, z_71, z_72, z_73, z_74, z_75, z_76, z_77, z_78, z_79, z_80, z_81, z_82, z_83, z_84, z_85, z_86, z_87, z_88, z_89, z_90, z_91, z_92, z_93, z_94, z_95, z_96, z_97, z_98, z_99, z_100, z_101, z_102, z_103, z_104, z_105, z_106, z_107, z_108, z_109, z_110, z_111, z_112, z_113, z_114, z_115, z_116, z_117, z_118, z_119, z_120, z_121, z_122, z_123, z_124, z_125, z_126, z_127, z_199, z_200, z_360, z_410, z_1000, z_1023, z_1024, z_1219, z_9999, z_10240, z_65537]
theorem m_ofPan {w : Int} (h1 : -2147483648 ≤ w) (h2 : w < 2147483648) : f_X7_ofPan (eC (pw m d)) τ (zI w) = some (zI (pFact d w)) := by
  unfold f_X7_ofPan pFact
  simp (disch := omega) only [pw_0, up_0, pw_1, up_1, pw_2, up_2, pw_3, up_3, pw_4, up_4, pw_9, up_9, pw_10, up_10, pwi_5, upi_5, pwi_6, upi_6, pwi_7, upi_7, pwi_8, upi_8, pwi_11, upi_11, pw_12, up_12, pw_14, up_14, pw_15, up_15, pw_16, up_16, pw_18, up_18, pw_24, up_24, pw_25, up_25, pw_26, up_26, pw_29, up_29, pw_30, up_30, pw_31, up_31, pwi_13, upi_13, pwi_17, upi_17, pwi_19, upi_19, pwi_20, upi_20, pwi_21, upi_21, pwi_22, upi_22, pwi_23, upi_23, pwi_32, upi_32, pwi_33, upi_33, eC_5, eC_6, eC_13, eC_17, eC_19, eC_20, eC_21, eC_22, eC_23, eC_32, eC_33, eC_p5, eC_p6, eC_p13, eC_p17, eC_p19, eC_p20, eC_p21, eC_p22, eC_p23, eC_p32, eC_p33, s_T, s_F, s_bd, s_cl, s_rd, s_wr, s_ite, z_ite, z_neg, z_add, z_sub, z_mul, z_le, z_lt, z_eq, eC_at, eC_7, eC_8, eC_9, eC_10, eC_11, eC_p7, eC_p8, eC_p9, eC_p10, eC_p11, eC_up, ud_same, ud_ne, z_0, z_1, z_2, z_3, z_4, z_5, z_6, z_7, z_8, z_9, z_10, z_11, z_12, z_13, z_14, z_15, z_16, z_17, z_18, z_19, z_20, z_21, z_22, z_23, z_24, z_25, z_26, z_27, z_28, z_29, z_30, z_31, z_32, z_33, z_34, z_35, z_36, z_37, z_38, z_39, z_40, z_41, z_42, z_43, z_44, z_45, z_46, z_47, z_48, z_49, z_50, z_51, z_52, z_53, z_54, z_55, z_56, z_57, z_58, z_59, z_60, z_61, z_62, z_63, z_64, z_65, z_66, z_67, z_68, z_69, z_70, z_71, z_72, z_73, z_74, z_75, z_76, z_77, z_78, z_79, z_80, z_81, z_82, z_83, z_84, z_85, z_86, z_87, z_88, z_89, z_90, z_91, z_92, z_93, z_94, z_95, z_96, z_97, z_98, z_99, z_100, z_101, z_102, z_103, z_104, z_105, z_106, z_107, z_108, z_109, z_110, z_111, z_112, z_113, z_114, z_115, z_116, z_117, z_118, z_119, z_120, z_121, z_122, z_123, z_124, z_125, z_126, z_127, z_199, z_200, z_360, z_410, z_1000, z_1023, z_1024, z_1219, z_9999, z_10240, z_65537]
theorem c_behind (he : okp e) (hd : okd d) (hf : okd f) (hp : mpad m e) (a b : Int32) : ∃ r n' f' m', f_X6_behind (eC n) (eC e) (eC f) (eC d) a b = some (r, eC n', eC f') ∧ f_X7_behind (eC (pw m d)) τ a b = some (r, eC (pw m' d)) ∧ okd f' ∧ frN m m' := by
  obtain ⟨a, a0, a1, rfl⟩ := z_of a
  obtain ⟨b, b0, b1, rfl⟩ := z_of b
  by_cases ca : 0 ≤ a ∧ a ≤ 9
  · by_cases cb : 0 ≤ b ∧ b ≤ 2
    · obtain ⟨f', x1, x2, x3⟩ := x_pass (n := n) he hd hf
      obtain ⟨m', h1, h2, h3, h4, h5⟩ := m_asked (n := n) (τ := τ) he hd hp
      obtain ⟨k1, k2, k3⟩ := pss_ok he hd (mst_n0 n)
      generalize pss e (n0 n) d = R at *
      by_cases c : R.1 = 0
      · obtain rfl := x3 (by omega)
        refine ⟨zI (hFact R.2.2 a b), R.2.1, R.2.2, m', ?_, ?_, x2, h2⟩
        · unfold f_X6_behind
          simp (disch := omega) only [x_isPlace, x_isHouse, x_isTale, x_within, x_longBetween, x_layRoad, x_doubtOf, x_furnish, x_beliefOf, x_convince, x_fadesInto, x_letFade, x1, c, x_houseFact _ k1, s_T, s_F, s_bd, s_cl, s_rd, s_wr, s_ite, z_ite, z_neg, z_add, z_sub, z_mul, z_le, z_lt, z_eq, eC_at, eC_7, eC_8, eC_9, eC_10, eC_11, eC_p7, eC_p8, eC_p9, eC_p10, eC_p11, eC_up, ud_same, ud_ne, if_pos, if_neg, z_0, z_1, z_2, z_3, z_4, z_5, z_6, z_7, z_8, z_9, z_10, z_11, z_12, z_13, z_14, z_15, z_16, z_17, z_18, z_19, z_20, z_21, z_22, z_23, z_24, z_25, z_26, z_27, z_28, z_29, z_30, z_31, z_32, z_33, z_34, z_35, z_36, z_37, z_38, z_39, z_40, z_41, z_42, z_43, z_44, z_45, z_46, z_47, z_48, z_49, z_50, z_51, z_52, z_53, z_54, z_55, z_56, z_57, z_58, z_59, z_60, z_61, z_62, z_63, z_64, z_65, z_66, z_67, z_68, z_69, z_70, z_71, z_72, z_73, z_74, z_75, z_76, z_77, z_78, z_79, z_80, z_81, z_82, z_83, z_84, z_85, z_86, z_87, z_88, z_89, z_90, z_91, z_92, z_93, z_94, z_95, z_96, z_97, z_98, z_99, z_100, z_101, z_102, z_103, z_104, z_105, z_106, z_107, z_108, z_109, z_110, z_111, z_112, z_113, z_114, z_115, z_116, z_117, z_118, z_119, z_120, z_121, z_122, z_123, z_124, z_125, z_126, z_127, z_199, z_200, z_360, z_410, z_1000, z_1023, z_1024, z_1219, z_9999, z_10240, z_65537]
        · unfold f_X7_behind
          simp (disch := omega) only [m_isPlace, m_isHouse, m_isTale, m_in, z_l, zl_neg, zl_0, zl_1, zl_2, zl_3, zl_5, zl_8, zl_9, zl_10, zl_19, zl_33, zl_40, zl_49, zl_57, zl_60, zl_65, zl_74, zl_99, zl_100, zl_126, zl_199, zl_1000, zl_1219, zl_9999, h1, h3, c, m_ofHouse k1, pw_0, up_0, pw_1, up_1, pw_2, up_2, pw_3, up_3, pw_4, up_4, pw_9, up_9, pw_10, up_10, pwi_5, upi_5, pwi_6, upi_6, pwi_7, upi_7, pwi_8, upi_8, pwi_11, upi_11, pw_12, up_12, pw_14, up_14, pw_15, up_15, pw_16, up_16, pw_18, up_18, pw_24, up_24, pw_25, up_25, pw_26, up_26, pw_29, up_29, pw_30, up_30, pw_31, up_31, pwi_13, upi_13, pwi_17, upi_17, pwi_19, upi_19, pwi_20, upi_20, pwi_21, upi_21, pwi_22, upi_22, pwi_23, upi_23, pwi_32, upi_32, pwi_33, upi_33, eC_5, eC_6, eC_13, eC_17, eC_19, eC_20, eC_21, eC_22, eC_23, eC_32, eC_33, eC_p5, eC_p6, eC_p13, eC_p17, eC_p19, eC_p20, eC_p21, eC_p22, eC_p23, eC_p32, eC_p33, s_T, s_F, s_bd, s_cl, s_rd, s_wr, s_ite, z_ite, z_neg, z_add, z_sub, z_mul, z_le, z_lt, z_eq, eC_at, eC_7, eC_8, eC_9, eC_10, eC_11, eC_p7, eC_p8, eC_p9, eC_p10, eC_p11, eC_up, ud_same, ud_ne, if_pos, if_neg, z_0, z_1, z_2, z_3, z_4, z_5, z_6, z_7, z_8, z_9, z_10, z_11, z_12, z_13, z_14, z_15, z_16, z_17, z_18, z_19, z_20, z_21, z_22, z_23, z_24, z_25, z_26, z_27, z_28, z_29, z_30, z_31, z_32, z_33, z_34, z_35, z_36, z_37, z_38, z_39, z_40, z_41, z_42, z_43, z_44, z_45, z_46, z_47, z_48, z_49, z_50, z_51, z_52, z_53, z_54, z_55, z_56, z_57, z_58, z_59, z_60, z_61, z_62, z_63, z_64, z_65, z_66, z_67, z_68, z_69, z_70, z_71, z_72, z_73, z_74, z_75, z_76, z_77, z_78, z_79, z_80, z_81, z_82, z_83, z_84, z_85, z_86, z_87, z_88, z_89, z_90, z_91, z_92, z_93, z_94, z_95, z_96, z_97, z_98, z_99, z_100, z_101, z_102, z_103, z_104, z_105, z_106, z_107, z_108, z_109, z_110, z_111, z_112, z_113, z_114, z_115, z_116, z_117, z_118, z_119, z_120, z_121, z_122, z_123, z_124, z_125, z_126, z_127, z_199, z_200, z_360, z_410, z_1000, z_1023, z_1024, z_1219, z_9999, z_10240, z_65537]
      · refine ⟨zI R.1, R.2.1, f', m', ?_, ?_, x2, h2⟩
        · unfold f_X6_behind
          simp (disch := omega) only [x_isPlace, x_isHouse, x_isTale, x_within, x_longBetween, x_layRoad, x_doubtOf, x_furnish, x_beliefOf, x_convince, x_fadesInto, x_letFade, x1, c, s_T, s_F, s_bd, s_cl, s_rd, s_wr, s_ite, z_ite, z_neg, z_add, z_sub, z_mul, z_le, z_lt, z_eq, eC_at, eC_7, eC_8, eC_9, eC_10, eC_11, eC_p7, eC_p8, eC_p9, eC_p10, eC_p11, eC_up, ud_same, ud_ne, if_pos, if_neg, z_0, z_1, z_2, z_3, z_4, z_5, z_6, z_7, z_8, z_9, z_10, z_11, z_12, z_13, z_14, z_15, z_16, z_17, z_18, z_19, z_20, z_21, z_22, z_23, z_24, z_25, z_26, z_27, z_28, z_29, z_30, z_31, z_32, z_33, z_34, z_35, z_36, z_37, z_38, z_39, z_40, z_41, z_42, z_43, z_44, z_45, z_46, z_47, z_48, z_49, z_50, z_51, z_52, z_53, z_54, z_55, z_56, z_57, z_58, z_59, z_60, z_61, z_62, z_63, z_64, z_65, z_66, z_67, z_68, z_69, z_70, z_71, z_72, z_73, z_74, z_75, z_76, z_77, z_78, z_79, z_80, z_81, z_82, z_83, z_84, z_85, z_86, z_87, z_88, z_89, z_90, z_91, z_92, z_93, z_94, z_95, z_96, z_97, z_98, z_99, z_100, z_101, z_102, z_103, z_104, z_105, z_106, z_107, z_108, z_109, z_110, z_111, z_112, z_113, z_114, z_115, z_116, z_117, z_118, z_119, z_120, z_121, z_122, z_123, z_124, z_125, z_126, z_127, z_199, z_200, z_360, z_410, z_1000, z_1023, z_1024, z_1219, z_9999, z_10240, z_65537]
        · unfold f_X7_behind
          simp (disch := omega) only [m_isPlace, m_isHouse, m_isTale, m_in, z_l, zl_neg, zl_0, zl_1, zl_2, zl_3, zl_5, zl_8, zl_9, zl_10, zl_19, zl_33, zl_40, zl_49, zl_57, zl_60, zl_65, zl_74, zl_99, zl_100, zl_126, zl_199, zl_1000, zl_1219, zl_9999, h1, h3, c, pw_0, up_0, pw_1, up_1, pw_2, up_2, pw_3, up_3, pw_4, up_4, pw_9, up_9, pw_10, up_10, pwi_5, upi_5, pwi_6, upi_6, pwi_7, upi_7, pwi_8, upi_8, pwi_11, upi_11, pw_12, up_12, pw_14, up_14, pw_15, up_15, pw_16, up_16, pw_18, up_18, pw_24, up_24, pw_25, up_25, pw_26, up_26, pw_29, up_29, pw_30, up_30, pw_31, up_31, pwi_13, upi_13, pwi_17, upi_17, pwi_19, upi_19, pwi_20, upi_20, pwi_21, upi_21, pwi_22, upi_22, pwi_23, upi_23, pwi_32, upi_32, pwi_33, upi_33, eC_5, eC_6, eC_13, eC_17, eC_19, eC_20, eC_21, eC_22, eC_23, eC_32, eC_33, eC_p5, eC_p6, eC_p13, eC_p17, eC_p19, eC_p20, eC_p21, eC_p22, eC_p23, eC_p32, eC_p33, s_T, s_F, s_bd, s_cl, s_rd, s_wr, s_ite, z_ite, z_neg, z_add, z_sub, z_mul, z_le, z_lt, z_eq, eC_at, eC_7, eC_8, eC_9, eC_10, eC_11, eC_p7, eC_p8, eC_p9, eC_p10, eC_p11, eC_up, ud_same, ud_ne, if_pos, if_neg, z_0, z_1, z_2, z_3, z_4, z_5, z_6, z_7, z_8, z_9, z_10, z_11, z_12, z_13, z_14, z_15, z_16, z_17, z_18, z_19, z_20, z_21, z_22, z_23, z_24, z_25, z_26, z_27, z_28, z_29, z_30, z_31, z_32, z_33, z_34, z_35, z_36, z_37, z_38, z_39, z_40, z_41, z_42, z_43, z_44, z_45, z_46, z_47, z_48, z_49, z_50, z_51, z_52, z_53, z_54, z_55, z_56, z_57, z_58, z_59, z_60, z_61, z_62, z_63, z_64, z_65, z_66, z_67, z_68, z_69, z_70, z_71, z_72, z_73, z_74, z_75, z_76, z_77, z_78, z_79, z_80, z_81, z_82, z_83, z_84, z_85, z_86, z_87, z_88, z_89, z_90, z_91, z_92, z_93, z_94, z_95, z_96, z_97, z_98, z_99, z_100, z_101, z_102, z_103, z_104, z_105, z_106, z_107, z_108, z_109, z_110, z_111, z_112, z_113, z_114, z_115, z_116, z_117, z_118, z_119, z_120, z_121, z_122, z_123, z_124, z_125, z_126, z_127, z_199, z_200, z_360, z_410, z_1000, z_1023, z_1024, z_1219, z_9999, z_10240, z_65537]
    · exact ⟨zI (-2), n, f, m, by unfold f_X6_behind; simp (disch := omega) only [x_isPlace, x_isHouse, x_isTale, x_within, x_longBetween, x_layRoad, x_doubtOf, x_furnish, x_beliefOf, x_convince, x_fadesInto, x_letFade, s_T, s_F, s_bd, s_cl, s_rd, s_wr, s_ite, z_ite, z_neg, z_add, z_sub, z_mul, z_le, z_lt, z_eq, eC_at, eC_7, eC_8, eC_9, eC_10, eC_11, eC_p7, eC_p8, eC_p9, eC_p10, eC_p11, eC_up, ud_same, ud_ne, if_pos, if_neg, z_0, z_1, z_2, z_3, z_4, z_5, z_6, z_7, z_8, z_9, z_10, z_11, z_12, z_13, z_14, z_15, z_16, z_17, z_18, z_19, z_20, z_21, z_22, z_23, z_24, z_25, z_26, z_27, z_28, z_29, z_30, z_31, z_32, z_33, z_34, z_35, z_36, z_37, z_38, z_39, z_40, z_41, z_42, z_43, z_44, z_45, z_46, z_47, z_48, z_49, z_50, z_51, z_52, z_53, z_54, z_55, z_56, z_57, z_58, z_59, z_60, z_61, z_62, z_63, z_64, z_65, z_66, z_67, z_68, z_69, z_70, z_71, z_72, z_73, z_74, z_75, z_76, z_77, z_78, z_79, z_80, z_81, z_82, z_83, z_84, z_85, z_86, z_87, z_88, z_89, z_90, z_91, z_92, z_93, z_94, z_95, z_96, z_97, z_98, z_99, z_100, z_101, z_102, z_103, z_104, z_105, z_106, z_107, z_108, z_109, z_110, z_111, z_112, z_113, z_114, z_115, z_116, z_117, z_118, z_119, z_120, z_121, z_122, z_123, z_124, z_125, z_126, z_127, z_199, z_200, z_360, z_410, z_1000, z_1023, z_1024, z_1219, z_9999, z_10240, z_65537], by unfold f_X7_behind; simp (disch := omega) only [m_isPlace, m_isHouse, m_isTale, m_in, z_l, zl_neg, zl_0, zl_1, zl_2, zl_3, zl_5, zl_8, zl_9, zl_10, zl_19, zl_33, zl_40, zl_49, zl_57, zl_60, zl_65, zl_74, zl_99, zl_100, zl_126, zl_199, zl_1000, zl_1219, zl_9999, pw_0, up_0, pw_1, up_1, pw_2, up_2, pw_3, up_3, pw_4, up_4, pw_9, up_9, pw_10, up_10, pwi_5, upi_5, pwi_6, upi_6, pwi_7, upi_7, pwi_8, upi_8, pwi_11, upi_11, pw_12, up_12, pw_14, up_14, pw_15, up_15, pw_16, up_16, pw_18, up_18, pw_24, up_24, pw_25, up_25, pw_26, up_26, pw_29, up_29, pw_30, up_30, pw_31, up_31, pwi_13, upi_13, pwi_17, upi_17, pwi_19, upi_19, pwi_20, upi_20, pwi_21, upi_21, pwi_22, upi_22, pwi_23, upi_23, pwi_32, upi_32, pwi_33, upi_33, eC_5, eC_6, eC_13, eC_17, eC_19, eC_20, eC_21, eC_22, eC_23, eC_32, eC_33, eC_p5, eC_p6, eC_p13, eC_p17, eC_p19, eC_p20, eC_p21, eC_p22, eC_p23, eC_p32, eC_p33, s_T, s_F, s_bd, s_cl, s_rd, s_wr, s_ite, z_ite, z_neg, z_add, z_sub, z_mul, z_le, z_lt, z_eq, eC_at, eC_7, eC_8, eC_9, eC_10, eC_11, eC_p7, eC_p8, eC_p9, eC_p10, eC_p11, eC_up, ud_same, ud_ne, if_pos, if_neg, z_0, z_1, z_2, z_3, z_4, z_5, z_6, z_7, z_8, z_9, z_10, z_11, z_12, z_13, z_14, z_15, z_16, z_17, z_18, z_19, z_20, z_21, z_22, z_23, z_24, z_25, z_26, z_27, z_28, z_29, z_30, z_31, z_32, z_33, z_34, z_35, z_36, z_37, z_38, z_39, z_40, z_41, z_42, z_43, z_44, z_45, z_46, z_47, z_48, z_49, z_50, z_51, z_52, z_53, z_54, z_55, z_56, z_57, z_58, z_59, z_60, z_61, z_62, z_63, z_64, z_65, z_66, z_67, z_68, z_69, z_70, z_71, z_72, z_73, z_74, z_75, z_76, z_77, z_78, z_79, z_80, z_81, z_82, z_83, z_84, z_85, z_86, z_87, z_88, z_89, z_90, z_91, z_92, z_93, z_94, z_95, z_96, z_97, z_98, z_99, z_100, z_101, z_102, z_103, z_104, z_105, z_106, z_107, z_108, z_109, z_110, z_111, z_112, z_113, z_114, z_115, z_116, z_117, z_118, z_119, z_120, z_121, z_122, z_123, z_124, z_125, z_126, z_127, z_199, z_200, z_360, z_410, z_1000, z_1023, z_1024, z_1219, z_9999, z_10240, z_65537], hf, frN_rf m⟩
  · exact ⟨zI (-1), n, f, m, by unfold f_X6_behind; simp (disch := omega) only [x_isPlace, x_isHouse, x_isTale, x_within, x_longBetween, x_layRoad, x_doubtOf, x_furnish, x_beliefOf, x_convince, x_fadesInto, x_letFade, s_T, s_F, s_bd, s_cl, s_rd, s_wr, s_ite, z_ite, z_neg, z_add, z_sub, z_mul, z_le, z_lt, z_eq, eC_at, eC_7, eC_8, eC_9, eC_10, eC_11, eC_p7, eC_p8, eC_p9, eC_p10, eC_p11, eC_up, ud_same, ud_ne, if_pos, if_neg, z_0, z_1, z_2, z_3, z_4, z_5, z_6, z_7, z_8, z_9, z_10, z_11, z_12, z_13, z_14, z_15, z_16, z_17, z_18, z_19, z_20, z_21, z_22, z_23, z_24, z_25, z_26, z_27, z_28, z_29, z_30, z_31, z_32, z_33, z_34, z_35, z_36, z_37, z_38, z_39, z_40, z_41, z_42, z_43, z_44, z_45, z_46, z_47, z_48, z_49, z_50, z_51, z_52, z_53, z_54, z_55, z_56, z_57, z_58, z_59, z_60, z_61, z_62, z_63, z_64, z_65, z_66, z_67, z_68, z_69, z_70, z_71, z_72, z_73, z_74, z_75, z_76, z_77, z_78, z_79, z_80, z_81, z_82, z_83, z_84, z_85, z_86, z_87, z_88, z_89, z_90, z_91, z_92, z_93, z_94, z_95, z_96, z_97, z_98, z_99, z_100, z_101, z_102, z_103, z_104, z_105, z_106, z_107, z_108, z_109, z_110, z_111, z_112, z_113, z_114, z_115, z_116, z_117, z_118, z_119, z_120, z_121, z_122, z_123, z_124, z_125, z_126, z_127, z_199, z_200, z_360, z_410, z_1000, z_1023, z_1024, z_1219, z_9999, z_10240, z_65537], by unfold f_X7_behind; simp (disch := omega) only [m_isPlace, m_isHouse, m_isTale, m_in, z_l, zl_neg, zl_0, zl_1, zl_2, zl_3, zl_5, zl_8, zl_9, zl_10, zl_19, zl_33, zl_40, zl_49, zl_57, zl_60, zl_65, zl_74, zl_99, zl_100, zl_126, zl_199, zl_1000, zl_1219, zl_9999, pw_0, up_0, pw_1, up_1, pw_2, up_2, pw_3, up_3, pw_4, up_4, pw_9, up_9, pw_10, up_10, pwi_5, upi_5, pwi_6, upi_6, pwi_7, upi_7, pwi_8, upi_8, pwi_11, upi_11, pw_12, up_12, pw_14, up_14, pw_15, up_15, pw_16, up_16, pw_18, up_18, pw_24, up_24, pw_25, up_25, pw_26, up_26, pw_29, up_29, pw_30, up_30, pw_31, up_31, pwi_13, upi_13, pwi_17, upi_17, pwi_19, upi_19, pwi_20, upi_20, pwi_21, upi_21, pwi_22, upi_22, pwi_23, upi_23, pwi_32, upi_32, pwi_33, upi_33, eC_5, eC_6, eC_13, eC_17, eC_19, eC_20, eC_21, eC_22, eC_23, eC_32, eC_33, eC_p5, eC_p6, eC_p13, eC_p17, eC_p19, eC_p20, eC_p21, eC_p22, eC_p23, eC_p32, eC_p33, s_T, s_F, s_bd, s_cl, s_rd, s_wr, s_ite, z_ite, z_neg, z_add, z_sub, z_mul, z_le, z_lt, z_eq, eC_at, eC_7, eC_8, eC_9, eC_10, eC_11, eC_p7, eC_p8, eC_p9, eC_p10, eC_p11, eC_up, ud_same, ud_ne, if_pos, if_neg, z_0, z_1, z_2, z_3, z_4, z_5, z_6, z_7, z_8, z_9, z_10, z_11, z_12, z_13, z_14, z_15, z_16, z_17, z_18, z_19, z_20, z_21, z_22, z_23, z_24, z_25, z_26, z_27, z_28, z_29, z_30, z_31, z_32, z_33, z_34, z_35, z_36, z_37, z_38, z_39, z_40, z_41, z_42, z_43, z_44, z_45, z_46, z_47, z_48, z_49, z_50, z_51, z_52, z_53, z_54, z_55, z_56, z_57, z_58, z_59, z_60, z_61, z_62, z_63, z_64, z_65, z_66, z_67, z_68, z_69, z_70, z_71, z_72, z_73, z_74, z_75, z_76, z_77, z_78, z_79, z_80, z_81, z_82, z_83, z_84, z_85, z_86, z_87, z_88, z_89, z_90, z_91, z_92, z_93, z_94, z_95, z_96, z_97, z_98, z_99, z_100, z_101, z_102, z_103, z_104, z_105, z_106, z_107, z_108, z_109, z_110, z_111, z_112, z_113, z_114, z_115, z_116, z_117, z_118, z_119, z_120, z_121, z_122, z_123, z_124, z_125, z_126, z_127, z_199, z_200, z_360, z_410, z_1000, z_1023, z_1024, z_1219, z_9999, z_10240, z_65537], hf, frN_rf m⟩
theorem c_pan (he : okp e) (hd : okd d) (hf : okd f) (hp : mpad m e) (b : Int32) : ∃ r n' f' m', f_X6_pan (eC n) (eC e) (eC f) (eC d) b = some (r, eC n', eC f') ∧ f_X7_pan (eC (pw m d)) τ b = some (r, eC (pw m' d)) ∧ okd f' ∧ frN m m' := by
  obtain ⟨b, b0, b1, rfl⟩ := z_of b
  by_cases cb : 0 ≤ b ∧ b ≤ 3
  · obtain ⟨f', x1, x2, x3⟩ := x_pass (n := n) he hd hf
    obtain ⟨m', h1, h2, h3, h4, h5⟩ := m_asked (n := n) (τ := τ) he hd hp
    obtain ⟨k1, k2, k3⟩ := pss_ok he hd (mst_n0 n)
    generalize pss e (n0 n) d = R at *
    by_cases c : R.1 = 0
    · obtain rfl := x3 (by omega)
      refine ⟨zI (pFact R.2.2 b), R.2.1, R.2.2, m', ?_, ?_, x2, h2⟩
      · unfold f_X6_pan
        simp (disch := omega) only [x_isPlace, x_isHouse, x_isTale, x_within, x_longBetween, x_layRoad, x_doubtOf, x_furnish, x_beliefOf, x_convince, x_fadesInto, x_letFade, x1, c, x_panFact, s_T, s_F, s_bd, s_cl, s_rd, s_wr, s_ite, z_ite, z_neg, z_add, z_sub, z_mul, z_le, z_lt, z_eq, eC_at, eC_7, eC_8, eC_9, eC_10, eC_11, eC_p7, eC_p8, eC_p9, eC_p10, eC_p11, eC_up, ud_same, ud_ne, if_pos, if_neg, z_0, z_1, z_2, z_3, z_4, z_5, z_6, z_7, z_8, z_9, z_10, z_11, z_12, z_13, z_14, z_15, z_16, z_17, z_18, z_19, z_20, z_21, z_22, z_23, z_24, z_25, z_26, z_27, z_28, z_29, z_30, z_31, z_32, z_33, z_34, z_35, z_36, z_37, z_38, z_39, z_40, z_41, z_42, z_43, z_44, z_45, z_46, z_47, z_48, z_49, z_50, z_51, z_52, z_53, z_54, z_55, z_56, z_57, z_58, z_59, z_60, z_61, z_62, z_63, z_64, z_65, z_66, z_67, z_68, z_69, z_70, z_71, z_72, z_73, z_74, z_75, z_76, z_77, z_78, z_79, z_80, z_81, z_82, z_83, z_84, z_85, z_86, z_87, z_88, z_89, z_90, z_91, z_92, z_93, z_94, z_95, z_96, z_97, z_98, z_99, z_100, z_101, z_102, z_103, z_104, z_105, z_106, z_107, z_108, z_109, z_110, z_111, z_112, z_113, z_114, z_115, z_116, z_117, z_118, z_119, z_120, z_121, z_122, z_123, z_124, z_125, z_126, z_127, z_199, z_200, z_360, z_410, z_1000, z_1023, z_1024, z_1219, z_9999, z_10240, z_65537]
      · unfold f_X7_pan
        simp (disch := omega) only [m_isPlace, m_isHouse, m_isTale, m_in, z_l, zl_neg, zl_0, zl_1, zl_2, zl_3, zl_5, zl_8, zl_9, zl_10, zl_19, zl_33, zl_40, zl_49, zl_57, zl_60, zl_65, zl_74, zl_99, zl_100, zl_126, zl_199, zl_1000, zl_1219, zl_9999, h1, h3, c, m_ofPan, pw_0, up_0, pw_1, up_1, pw_2, up_2, pw_3, up_3, pw_4, up_4, pw_9, up_9, pw_10, up_10, pwi_5, upi_5, pwi_6, upi_6, pwi_7, upi_7, pwi_8, upi_8, pwi_11, upi_11, pw_12, up_12, pw_14, up_14, pw_15, up_15, pw_16, up_16, pw_18, up_18, pw_24, up_24, pw_25, up_25, pw_26, up_26, pw_29, up_29, pw_30, up_30, pw_31, up_31, pwi_13, upi_13, pwi_17, upi_17, pwi_19, upi_19, pwi_20, upi_20, pwi_21, upi_21, pwi_22, upi_22, pwi_23, upi_23, pwi_32, upi_32, pwi_33, upi_33, eC_5, eC_6, eC_13, eC_17, eC_19, eC_20, eC_21, eC_22, eC_23, eC_32, eC_33, eC_p5, eC_p6, eC_p13, eC_p17, eC_p19, eC_p20, eC_p21, eC_p22, eC_p23, eC_p32, eC_p33, s_T, s_F, s_bd, s_cl, s_rd, s_wr, s_ite, z_ite, z_neg, z_add, z_sub, z_mul, z_le, z_lt, z_eq, eC_at, eC_7, eC_8, eC_9, eC_10, eC_11, eC_p7, eC_p8, eC_p9, eC_p10, eC_p11, eC_up, ud_same, ud_ne, if_pos, if_neg, z_0, z_1, z_2, z_3, z_4, z_5, z_6, z_7, z_8, z_9, z_10, z_11, z_12, z_13, z_14, z_15, z_16, z_17, z_18, z_19, z_20, z_21, z_22, z_23, z_24, z_25, z_26, z_27, z_28, z_29, z_30, z_31, z_32, z_33, z_34, z_35, z_36, z_37, z_38, z_39, z_40, z_41, z_42, z_43, z_44, z_45, z_46, z_47, z_48, z_49, z_50, z_51, z_52, z_53, z_54, z_55, z_56, z_57, z_58, z_59, z_60, z_61, z_62, z_63, z_64, z_65, z_66, z_67, z_68, z_69, z_70, z_71, z_72, z_73, z_74, z_75, z_76, z_77, z_78, z_79, z_80, z_81, z_82, z_83, z_84, z_85, z_86, z_87, z_88, z_89, z_90, z_91, z_92, z_93, z_94, z_95, z_96, z_97, z_98, z_99, z_100, z_101, z_102, z_103, z_104, z_105, z_106, z_107, z_108, z_109, z_110, z_111, z_112, z_113, z_114, z_115, z_116, z_117, z_118, z_119, z_120, z_121, z_122, z_123, z_124, z_125, z_126, z_127, z_199, z_200, z_360, z_410, z_1000, z_1023, z_1024, z_1219, z_9999, z_10240, z_65537]
    · refine ⟨zI R.1, R.2.1, f', m', ?_, ?_, x2, h2⟩
      · unfold f_X6_pan
        simp (disch := omega) only [x_isPlace, x_isHouse, x_isTale, x_within, x_longBetween, x_layRoad, x_doubtOf, x_furnish, x_beliefOf, x_convince, x_fadesInto, x_letFade, x1, c, s_T, s_F, s_bd, s_cl, s_rd, s_wr, s_ite, z_ite, z_neg, z_add, z_sub, z_mul, z_le, z_lt, z_eq, eC_at, eC_7, eC_8, eC_9, eC_10, eC_11, eC_p7, eC_p8, eC_p9, eC_p10, eC_p11, eC_up, ud_same, ud_ne, if_pos, if_neg, z_0, z_1, z_2, z_3, z_4, z_5, z_6, z_7, z_8, z_9, z_10, z_11, z_12, z_13, z_14, z_15, z_16, z_17, z_18, z_19, z_20, z_21, z_22, z_23, z_24, z_25, z_26, z_27, z_28, z_29, z_30, z_31, z_32, z_33, z_34, z_35, z_36, z_37, z_38, z_39, z_40, z_41, z_42, z_43, z_44, z_45, z_46, z_47, z_48, z_49, z_50, z_51, z_52, z_53, z_54, z_55, z_56, z_57, z_58, z_59, z_60, z_61, z_62, z_63, z_64, z_65, z_66, z_67, z_68, z_69, z_70, z_71, z_72, z_73, z_74, z_75, z_76, z_77, z_78, z_79, z_80, z_81, z_82, z_83, z_84, z_85, z_86, z_87, z_88, z_89, z_90, z_91, z_92, z_93, z_94, z_95, z_96, z_97, z_98, z_99, z_100, z_101, z_102, z_103, z_104, z_105, z_106, z_107, z_108, z_109, z_110, z_111, z_112, z_113, z_114, z_115, z_116, z_117, z_118, z_119, z_120, z_121, z_122, z_123, z_124, z_125, z_126, z_127, z_199, z_200, z_360, z_410, z_1000, z_1023, z_1024, z_1219, z_9999, z_10240, z_65537]
      · unfold f_X7_pan
        simp (disch := omega) only [m_isPlace, m_isHouse, m_isTale, m_in, z_l, zl_neg, zl_0, zl_1, zl_2, zl_3, zl_5, zl_8, zl_9, zl_10, zl_19, zl_33, zl_40, zl_49, zl_57, zl_60, zl_65, zl_74, zl_99, zl_100, zl_126, zl_199, zl_1000, zl_1219, zl_9999, h1, h3, c, pw_0, up_0, pw_1, up_1, pw_2, up_2, pw_3, up_3, pw_4, up_4, pw_9, up_9, pw_10, up_10, pwi_5, upi_5, pwi_6, upi_6, pwi_7, upi_7, pwi_8, upi_8, pwi_11, upi_11, pw_12, up_12, pw_14, up_14, pw_15, up_15, pw_16, up_16, pw_18, up_18, pw_24, up_24, pw_25, up_25, pw_26, up_26, pw_29, up_29, pw_30, up_30, pw_31, up_31, pwi_13, upi_13, pwi_17, upi_17, pwi_19, upi_19, pwi_20, upi_20, pwi_21, upi_21, pwi_22, upi_22, pwi_23, upi_23, pwi_32, upi_32, pwi_33, upi_33, eC_5, eC_6, eC_13, eC_17, eC_19, eC_20, eC_21, eC_22, eC_23, eC_32, eC_33, eC_p5, eC_p6, eC_p13, eC_p17, eC_p19, eC_p20, eC_p21, eC_p22, eC_p23, eC_p32, eC_p33, s_T, s_F, s_bd, s_cl, s_rd, s_wr, s_ite, z_ite, z_neg, z_add, z_sub, z_mul, z_le, z_lt, z_eq, eC_at, eC_7, eC_8, eC_9, eC_10, eC_11, eC_p7, eC_p8, eC_p9, eC_p10, eC_p11, eC_up, ud_same, ud_ne, if_pos, if_neg, z_0, z_1, z_2, z_3, z_4, z_5, z_6, z_7, z_8, z_9, z_10, z_11, z_12, z_13, z_14, z_15, z_16, z_17, z_18, z_19, z_20, z_21, z_22, z_23, z_24, z_25, z_26, z_27, z_28, z_29, z_30, z_31, z_32, z_33, z_34, z_35, z_36, z_37, z_38, z_39, z_40, z_41, z_42, z_43, z_44, z_45, z_46, z_47, z_48, z_49, z_50, z_51, z_52, z_53, z_54, z_55, z_56, z_57, z_58, z_59, z_60, z_61, z_62, z_63, z_64, z_65, z_66, z_67, z_68, z_69, z_70, z_71, z_72, z_73, z_74, z_75, z_76, z_77, z_78, z_79, z_80, z_81, z_82, z_83, z_84, z_85, z_86, z_87, z_88, z_89, z_90, z_91, z_92, z_93, z_94, z_95, z_96, z_97, z_98, z_99, z_100, z_101, z_102, z_103, z_104, z_105, z_106, z_107, z_108, z_109, z_110, z_111, z_112, z_113, z_114, z_115, z_116, z_117, z_118, z_119, z_120, z_121, z_122, z_123, z_124, z_125, z_126, z_127, z_199, z_200, z_360, z_410, z_1000, z_1023, z_1024, z_1219, z_9999, z_10240, z_65537]
  · exact ⟨zI (-2), n, f, m, by unfold f_X6_pan; simp (disch := omega) only [x_isPlace, x_isHouse, x_isTale, x_within, x_longBetween, x_layRoad, x_doubtOf, x_furnish, x_beliefOf, x_convince, x_fadesInto, x_letFade, s_T, s_F, s_bd, s_cl, s_rd, s_wr, s_ite, z_ite, z_neg, z_add, z_sub, z_mul, z_le, z_lt, z_eq, eC_at, eC_7, eC_8, eC_9, eC_10, eC_11, eC_p7, eC_p8, eC_p9, eC_p10, eC_p11, eC_up, ud_same, ud_ne, if_pos, if_neg, z_0, z_1, z_2, z_3, z_4, z_5, z_6, z_7, z_8, z_9, z_10, z_11, z_12, z_13, z_14, z_15, z_16, z_17, z_18, z_19, z_20, z_21, z_22, z_23, z_24, z_25, z_26, z_27, z_28, z_29, z_30, z_31, z_32, z_33, z_34, z_35, z_36, z_37, z_38, z_39, z_40, z_41, z_42, z_43, z_44, z_45, z_46, z_47, z_48, z_49, z_50, z_51, z_52, z_53, z_54, z_55, z_56, z_57, z_58, z_59, z_60, z_61, z_62, z_63, z_64, z_65, z_66, z_67, z_68, z_69, z_70, z_71, z_72, z_73, z_74, z_75, z_76, z_77, z_78, z_79, z_80, z_81, z_82, z_83, z_84, z_85, z_86, z_87, z_88, z_89, z_90, z_91, z_92, z_93, z_94, z_95, z_96, z_97, z_98, z_99, z_100, z_101, z_102, z_103, z_104, z_105, z_106, z_107, z_108, z_109, z_110, z_111, z_112, z_113, z_114, z_115, z_116, z_117, z_118, z_119, z_120, z_121, z_122, z_123, z_124, z_125, z_126, z_127, z_199, z_200, z_360, z_410, z_1000, z_1023, z_1024, z_1219, z_9999, z_10240, z_65537], by unfold f_X7_pan; simp (disch := omega) only [m_isPlace, m_isHouse, m_isTale, m_in, z_l, zl_neg, zl_0, zl_1, zl_2, zl_3, zl_5, zl_8, zl_9, zl_10, zl_19, zl_33, zl_40, zl_49, zl_57, zl_60, zl_65, zl_74, zl_99, zl_100, zl_126, zl_199, zl_1000, zl_1219, zl_9999, pw_0, up_0, pw_1, up_1, pw_2, up_2, pw_3, up_3, pw_4, up_4, pw_9, up_9, pw_10, up_10, pwi_5, upi_5, pwi_6, upi_6, pwi_7, upi_7, pwi_8, upi_8, pwi_11, upi_11, pw_12, up_12, pw_14, up_14, pw_15, up_15, pw_16, up_16, pw_18, up_18, pw_24, up_24, pw_25, up_25, pw_26, up_26, pw_29, up_29, pw_30, up_30, pw_31, up_31, pwi_13, upi_13, pwi_17, upi_17, pwi_19, upi_19, pwi_20, upi_20, pwi_21, upi_21, pwi_22, upi_22, pwi_23, upi_23, pwi_32, upi_32, pwi_33, upi_33, eC_5, eC_6, eC_13, eC_17, eC_19, eC_20, eC_21, eC_22, eC_23, eC_32, eC_33, eC_p5, eC_p6, eC_p13, eC_p17, eC_p19, eC_p20, eC_p21, eC_p22, eC_p23, eC_p32, eC_p33, s_T, s_F, s_bd, s_cl, s_rd, s_wr, s_ite, z_ite, z_neg, z_add, z_sub, z_mul, z_le, z_lt, z_eq, eC_at, eC_7, eC_8, eC_9, eC_10, eC_11, eC_p7, eC_p8, eC_p9, eC_p10, eC_p11, eC_up, ud_same, ud_ne, if_pos, if_neg, z_0, z_1, z_2, z_3, z_4, z_5, z_6, z_7, z_8, z_9, z_10, z_11, z_12, z_13, z_14, z_15, z_16, z_17, z_18, z_19, z_20, z_21, z_22, z_23, z_24, z_25, z_26, z_27, z_28, z_29, z_30, z_31, z_32, z_33, z_34, z_35, z_36, z_37, z_38, z_39, z_40, z_41, z_42, z_43, z_44, z_45, z_46, z_47, z_48, z_49, z_50, z_51, z_52, z_53, z_54, z_55, z_56, z_57, z_58, z_59, z_60, z_61, z_62, z_63, z_64, z_65, z_66, z_67, z_68, z_69, z_70, z_71, z_72, z_73, z_74, z_75, z_76, z_77, z_78, z_79, z_80, z_81, z_82, z_83, z_84, z_85, z_86, z_87, z_88, z_89, z_90, z_91, z_92, z_93, z_94, z_95, z_96, z_97, z_98, z_99, z_100, z_101, z_102, z_103, z_104, z_105, z_106, z_107, z_108, z_109, z_110, z_111, z_112, z_113, z_114, z_115, z_116, z_117, z_118, z_119, z_120, z_121, z_122, z_123, z_124, z_125, z_126, z_127, z_199, z_200, z_360, z_410, z_1000, z_1023, z_1024, z_1219, z_9999, z_10240, z_65537], hf, frN_rf m⟩
theorem c_other (he : okp e) (hd : okd d) (hf : okd f) (hp : mpad m e) (b : Int32) : ∃ r n' f' m', f_X6_other (eC n) (eC e) (eC f) (eC d) b = some (r, eC n', eC f') ∧ f_X7_other (eC (pw m d)) τ b = some (r, eC (pw m' d)) ∧ okd f' ∧ frN m m' := by
  obtain ⟨b, b0, b1, rfl⟩ := z_of b
  by_cases cb : 0 ≤ b ∧ b ≤ 1
  · obtain ⟨f', x1, x2, x3⟩ := x_pass (n := n) he hd hf
    obtain ⟨m', h1, h2, h3, h4, h5⟩ := m_asked (n := n) (τ := τ) he hd hp
    obtain ⟨k1, k2, k3⟩ := pss_ok he hd (mst_n0 n)
    generalize pss e (n0 n) d = R at *
    by_cases c : R.1 = 0
    · obtain ⟨k19, k20, k21, k22, k23⟩ := h4 (by omega)
      refine ⟨zI (if b = 0 then R.2.1 99 4 else R.2.1 99 5), R.2.1, f', m', ?_, ?_, x2, h2⟩
      · unfold f_X6_other
        rcases (show b = 0 ∨ b = 1 by omega) with z | z <;> subst z <;> simp (disch := omega) only [x_isPlace, x_isHouse, x_isTale, x_within, x_longBetween, x_layRoad, x_doubtOf, x_furnish, x_beliefOf, x_convince, x_fadesInto, x_letFade, x1, c, eC_4, eC_5, s_T, s_F, s_bd, s_cl, s_rd, s_wr, s_ite, z_ite, z_neg, z_add, z_sub, z_mul, z_le, z_lt, z_eq, eC_at, eC_7, eC_8, eC_9, eC_10, eC_11, eC_p7, eC_p8, eC_p9, eC_p10, eC_p11, eC_up, ud_same, ud_ne, if_pos, if_neg, z_0, z_1, z_2, z_3, z_4, z_5, z_6, z_7, z_8, z_9, z_10, z_11, z_12, z_13, z_14, z_15, z_16, z_17, z_18, z_19, z_20, z_21, z_22, z_23, z_24, z_25, z_26, z_27, z_28, z_29, z_30, z_31, z_32, z_33, z_34, z_35, z_36, z_37, z_38, z_39, z_40, z_41, z_42, z_43, z_44, z_45, z_46, z_47, z_48, z_49, z_50, z_51, z_52, z_53, z_54, z_55, z_56, z_57, z_58, z_59, z_60, z_61, z_62, z_63, z_64, z_65, z_66, z_67, z_68, z_69, z_70, z_71, z_72, z_73, z_74, z_75, z_76, z_77, z_78, z_79, z_80, z_81, z_82, z_83, z_84, z_85, z_86, z_87, z_88, z_89, z_90, z_91, z_92, z_93, z_94, z_95, z_96, z_97, z_98, z_99, z_100, z_101, z_102, z_103, z_104, z_105, z_106, z_107, z_108, z_109, z_110, z_111, z_112, z_113, z_114, z_115, z_116, z_117, z_118, z_119, z_120, z_121, z_122, z_123, z_124, z_125, z_126, z_127, z_199, z_200, z_360, z_410, z_1000, z_1023, z_1024, z_1219, z_9999, z_10240, z_65537]
      · unfold f_X7_other
        rcases (show b = 0 ∨ b = 1 by omega) with z | z <;> subst z <;> simp (disch := omega) only [m_isPlace, m_isHouse, m_isTale, m_in, z_l, zl_neg, zl_0, zl_1, zl_2, zl_3, zl_5, zl_8, zl_9, zl_10, zl_19, zl_33, zl_40, zl_49, zl_57, zl_60, zl_65, zl_74, zl_99, zl_100, zl_126, zl_199, zl_1000, zl_1219, zl_9999, h1, h3, c, k22, k23, pw_0, up_0, pw_1, up_1, pw_2, up_2, pw_3, up_3, pw_4, up_4, pw_9, up_9, pw_10, up_10, pwi_5, upi_5, pwi_6, upi_6, pwi_7, upi_7, pwi_8, upi_8, pwi_11, upi_11, pw_12, up_12, pw_14, up_14, pw_15, up_15, pw_16, up_16, pw_18, up_18, pw_24, up_24, pw_25, up_25, pw_26, up_26, pw_29, up_29, pw_30, up_30, pw_31, up_31, pwi_13, upi_13, pwi_17, upi_17, pwi_19, upi_19, pwi_20, upi_20, pwi_21, upi_21, pwi_22, upi_22, pwi_23, upi_23, pwi_32, upi_32, pwi_33, upi_33, eC_5, eC_6, eC_13, eC_17, eC_19, eC_20, eC_21, eC_22, eC_23, eC_32, eC_33, eC_p5, eC_p6, eC_p13, eC_p17, eC_p19, eC_p20, eC_p21, eC_p22, eC_p23, eC_p32, eC_p33, s_T, s_F, s_bd, s_cl, s_rd, s_wr, s_ite, z_ite, z_neg, z_add, z_sub, z_mul, z_le, z_lt, z_eq, eC_at, eC_7, eC_8, eC_9, eC_10, eC_11, eC_p7, eC_p8, eC_p9, eC_p10, eC_p11, eC_up, ud_same, ud_ne, if_pos, if_neg, z_0, z_1, z_2, z_3, z_4, z_5, z_6, z_7, z_8, z_9, z_10, z_11, z_12, z_13, z_14, z_15, z_16, z_17, z_18, z_19, z_20, z_21, z_22, z_23, z_24, z_25, z_26, z_27, z_28, z_29, z_30, z_31, z_32, z_33, z_34, z_35, z_36, z_37, z_38, z_39, z_40, z_41, z_42, z_43, z_44, z_45, z_46, z_47, z_48, z_49, z_50, z_51, z_52, z_53, z_54, z_55, z_56, z_57, z_58, z_59, z_60, z_61, z_62, z_63, z_64, z_65, z_66, z_67, z_68, z_69, z_70, z_71, z_72, z_73, z_74, z_75, z_76, z_77, z_78, z_79, z_80, z_81, z_82, z_83, z_84, z_85, z_86, z_87, z_88, z_89, z_90, z_91, z_92, z_93, z_94, z_95, z_96, z_97, z_98, z_99, z_100, z_101, z_102, z_103, z_104, z_105, z_106, z_107, z_108, z_109, z_110, z_111, z_112, z_113, z_114, z_115, z_116, z_117, z_118, z_119, z_120, z_121, z_122, z_123, z_124, z_125, z_126, z_127, z_199, z_200, z_360, z_410, z_1000, z_1023, z_1024, z_1219, z_9999, z_10240, z_65537]
    · refine ⟨zI R.1, R.2.1, f', m', ?_, ?_, x2, h2⟩
      · unfold f_X6_other
        simp (disch := omega) only [x_isPlace, x_isHouse, x_isTale, x_within, x_longBetween, x_layRoad, x_doubtOf, x_furnish, x_beliefOf, x_convince, x_fadesInto, x_letFade, x1, c, s_T, s_F, s_bd, s_cl, s_rd, s_wr, s_ite, z_ite, z_neg, z_add, z_sub, z_mul, z_le, z_lt, z_eq, eC_at, eC_7, eC_8, eC_9, eC_10, eC_11, eC_p7, eC_p8, eC_p9, eC_p10, eC_p11, eC_up, ud_same, ud_ne, if_pos, if_neg, z_0, z_1, z_2, z_3, z_4, z_5, z_6, z_7, z_8, z_9, z_10, z_11, z_12, z_13, z_14, z_15, z_16, z_17, z_18, z_19, z_20, z_21, z_22, z_23, z_24, z_25, z_26, z_27, z_28, z_29, z_30, z_31, z_32, z_33, z_34, z_35, z_36, z_37, z_38, z_39, z_40, z_41, z_42, z_43, z_44, z_45, z_46, z_47, z_48, z_49, z_50, z_51, z_52, z_53, z_54, z_55, z_56, z_57, z_58, z_59, z_60, z_61, z_62, z_63, z_64, z_65, z_66, z_67, z_68, z_69, z_70, z_71, z_72, z_73, z_74, z_75, z_76, z_77, z_78, z_79, z_80, z_81, z_82, z_83, z_84, z_85, z_86, z_87, z_88, z_89, z_90, z_91, z_92, z_93, z_94, z_95, z_96, z_97, z_98, z_99, z_100, z_101, z_102, z_103, z_104, z_105, z_106, z_107, z_108, z_109, z_110, z_111, z_112, z_113, z_114, z_115, z_116, z_117, z_118, z_119, z_120, z_121, z_122, z_123, z_124, z_125, z_126, z_127, z_199, z_200, z_360, z_410, z_1000, z_1023, z_1024, z_1219, z_9999, z_10240, z_65537]
      · unfold f_X7_other
        simp (disch := omega) only [m_isPlace, m_isHouse, m_isTale, m_in, z_l, zl_neg, zl_0, zl_1, zl_2, zl_3, zl_5, zl_8, zl_9, zl_10, zl_19, zl_33, zl_40, zl_49, zl_57, zl_60, zl_65, zl_74, zl_99, zl_100, zl_126, zl_199, zl_1000, zl_1219, zl_9999, h1, h3, c, pw_0, up_0, pw_1, up_1, pw_2, up_2, pw_3, up_3, pw_4, up_4, pw_9, up_9, pw_10, up_10, pwi_5, upi_5, pwi_6, upi_6, pwi_7, upi_7, pwi_8, upi_8, pwi_11, upi_11, pw_12, up_12, pw_14, up_14, pw_15, up_15, pw_16, up_16, pw_18, up_18, pw_24, up_24, pw_25, up_25, pw_26, up_26, pw_29, up_29, pw_30, up_30, pw_31, up_31, pwi_13, upi_13, pwi_17, upi_17, pwi_19, upi_19, pwi_20, upi_20, pwi_21, upi_21, pwi_22, upi_22, pwi_23, upi_23, pwi_32, upi_32, pwi_33, upi_33, eC_5, eC_6, eC_13, eC_17, eC_19, eC_20, eC_21, eC_22, eC_23, eC_32, eC_33, eC_p5, eC_p6, eC_p13, eC_p17, eC_p19, eC_p20, eC_p21, eC_p22, eC_p23, eC_p32, eC_p33, s_T, s_F, s_bd, s_cl, s_rd, s_wr, s_ite, z_ite, z_neg, z_add, z_sub, z_mul, z_le, z_lt, z_eq, eC_at, eC_7, eC_8, eC_9, eC_10, eC_11, eC_p7, eC_p8, eC_p9, eC_p10, eC_p11, eC_up, ud_same, ud_ne, if_pos, if_neg, z_0, z_1, z_2, z_3, z_4, z_5, z_6, z_7, z_8, z_9, z_10, z_11, z_12, z_13, z_14, z_15, z_16, z_17, z_18, z_19, z_20, z_21, z_22, z_23, z_24, z_25, z_26, z_27, z_28, z_29, z_30, z_31, z_32, z_33, z_34, z_35, z_36, z_37, z_38, z_39, z_40, z_41, z_42, z_43, z_44, z_45, z_46, z_47, z_48, z_49, z_50, z_51, z_52, z_53, z_54, z_55, z_56, z_57, z_58, z_59, z_60, z_61, z_62, z_63, z_64, z_65, z_66, z_67, z_68, z_69, z_70, z_71, z_72, z_73, z_74, z_75, z_76, z_77, z_78, z_79, z_80, z_81, z_82, z_83, z_84, z_85, z_86, z_87, z_88, z_89, z_90, z_91, z_92, z_93, z_94, z_95, z_96, z_97, z_98, z_99, z_100, z_101, z_102, z_103, z_104, z_105, z_106, z_107, z_108, z_109, z_110, z_111, z_112, z_113, z_114, z_115, z_116, z_117, z_118, z_119, z_120, z_121, z_122, z_123, z_124, z_125, z_126, z_127, z_199, z_200, z_360, z_410, z_1000, z_1023, z_1024, z_1219, z_9999, z_10240, z_65537]
  · exact ⟨zI (-2), n, f, m, by unfold f_X6_other; simp (disch := omega) only [x_isPlace, x_isHouse, x_isTale, x_within, x_longBetween, x_layRoad, x_doubtOf, x_furnish, x_beliefOf, x_convince, x_fadesInto, x_letFade, s_T, s_F, s_bd, s_cl, s_rd, s_wr, s_ite, z_ite, z_neg, z_add, z_sub, z_mul, z_le, z_lt, z_eq, eC_at, eC_7, eC_8, eC_9, eC_10, eC_11, eC_p7, eC_p8, eC_p9, eC_p10, eC_p11, eC_up, ud_same, ud_ne, if_pos, if_neg, z_0, z_1, z_2, z_3, z_4, z_5, z_6, z_7, z_8, z_9, z_10, z_11, z_12, z_13, z_14, z_15, z_16, z_17, z_18, z_19, z_20, z_21, z_22, z_23, z_24, z_25, z_26, z_27, z_28, z_29, z_30, z_31, z_32, z_33, z_34, z_35, z_36, z_37, z_38, z_39, z_40, z_41, z_42, z_43, z_44, z_45, z_46, z_47, z_48, z_49, z_50, z_51, z_52, z_53, z_54, z_55, z_56, z_57, z_58, z_59, z_60, z_61, z_62, z_63, z_64, z_65, z_66, z_67, z_68, z_69, z_70, z_71, z_72, z_73, z_74, z_75, z_76, z_77, z_78, z_79, z_80, z_81, z_82, z_83, z_84, z_85, z_86, z_87, z_88, z_89, z_90, z_91, z_92, z_93, z_94, z_95, z_96, z_97, z_98, z_99, z_100, z_101, z_102, z_103, z_104, z_105, z_106, z_107, z_108, z_109, z_110, z_111, z_112, z_113, z_114, z_115, z_116, z_117, z_118, z_119, z_120, z_121, z_122, z_123, z_124, z_125, z_126, z_127, z_199, z_200, z_360, z_410, z_1000, z_1023, z_1024, z_1219, z_9999, z_10240, z_65537], by unfold f_X7_other; simp (disch := omega) only [m_isPlace, m_isHouse, m_isTale, m_in, z_l, zl_neg, zl_0, zl_1, zl_2, zl_3, zl_5, zl_8, zl_9, zl_10, zl_19, zl_33, zl_40, zl_49, zl_57, zl_60, zl_65, zl_74, zl_99, zl_100, zl_126, zl_199, zl_1000, zl_1219, zl_9999, pw_0, up_0, pw_1, up_1, pw_2, up_2, pw_3, up_3, pw_4, up_4, pw_9, up_9, pw_10, up_10, pwi_5, upi_5, pwi_6, upi_6, pwi_7, upi_7, pwi_8, upi_8, pwi_11, upi_11, pw_12, up_12, pw_14, up_14, pw_15, up_15, pw_16, up_16, pw_18, up_18, pw_24, up_24, pw_25, up_25, pw_26, up_26, pw_29, up_29, pw_30, up_30, pw_31, up_31, pwi_13, upi_13, pwi_17, upi_17, pwi_19, upi_19, pwi_20, upi_20, pwi_21, upi_21, pwi_22, upi_22, pwi_23, upi_23, pwi_32, upi_32, pwi_33, upi_33, eC_5, eC_6, eC_13, eC_17, eC_19, eC_20, eC_21, eC_22, eC_23, eC_32, eC_33, eC_p5, eC_p6, eC_p13, eC_p17, eC_p19, eC_p20, eC_p21, eC_p22, eC_p23, eC_p32, eC_p33, s_T, s_F, s_bd, s_cl, s_rd, s_wr, s_ite, z_ite, z_neg, z_add, z_sub, z_mul, z_le, z_lt, z_eq, eC_at, eC_7, eC_8, eC_9, eC_10, eC_11, eC_p7, eC_p8, eC_p9, eC_p10, eC_p11, eC_up, ud_same, ud_ne, if_pos, if_neg, z_0, z_1, z_2, z_3, z_4, z_5, z_6, z_7, z_8, z_9, z_10, z_11, z_12, z_13, z_14, z_15, z_16, z_17, z_18, z_19, z_20, z_21, z_22, z_23, z_24, z_25, z_26, z_27, z_28, z_29, z_30, z_31, z_32, z_33, z_34, z_35, z_36, z_37, z_38, z_39, z_40, z_41, z_42, z_43, z_44, z_45, z_46, z_47, z_48, z_49, z_50, z_51, z_52, z_53, z_54, z_55, z_56, z_57, z_58, z_59, z_60, z_61, z_62, z_63, z_64, z_65, z_66, z_67, z_68, z_69, z_70, z_71, z_72, z_73, z_74, z_75, z_76, z_77, z_78, z_79, z_80, z_81, z_82, z_83, z_84, z_85, z_86, z_87, z_88, z_89, z_90, z_91, z_92, z_93, z_94, z_95, z_96, z_97, z_98, z_99, z_100, z_101, z_102, z_103, z_104, z_105, z_106, z_107, z_108, z_109, z_110, z_111, z_112, z_113, z_114, z_115, z_116, z_117, z_118, z_119, z_120, z_121, z_122, z_123, z_124, z_125, z_126, z_127, z_199, z_200, z_360, z_410, z_1000, z_1023, z_1024, z_1219, z_9999, z_10240, z_65537], hf, frN_rf m⟩
/-- who believes a tale, as bits -/
def bts (d : Nat → Int → Int) (a : Int32) : Nat → Int → Int32 → Int32
  | 0, _, s => s
  | N + 1, i, s => if 10 ≤ i then s else bts d a N (i + 1) (if zI (d 3 i) = a then s ||| ((1 : Int32) <<< (zI i &&& 31)) else s)
theorem x_believersOf (a : Int32) : f_X1_believersOf (eC d) a = some (bts d a 20000 0 0) := by
  unfold f_X1_believersOf
  have key := lp_en (body := b_X1_believersOf_4 (eC d) a) (k := fun z1 => some z1.2) (fun s : Int × Int32 => (zI s.1, s.2)) (fun N s => some (bts d a N s.1 s.2)) (fun N s => 0 ≤ s.1 ∧ s.1 ≤ 10 ∧ (10 - s.1).toNat < N) (fun s => by omega) (by
    rintro again N ⟨i, s⟩ ⟨h0, h1, h2⟩ ih
    dsimp only at h0 h1 h2 ⊢
    unfold b_X1_believersOf_4 bts
    dsimp only
    rw [z_s1, z_10]
    by_cases c : i < 10
    · have ih' := ih (i + 1, if zI (d 3 i) = a then s ||| ((1 : Int32) <<< (zI i &&& 31)) else s) ⟨by dsimp only; omega, by dsimp only; omega, by dsimp only; omega⟩
      dsimp only at ih'
      rw [if_neg (c_nle c h0 (by omega)), if_neg (by omega), s_rd (n := 10) h0 (by omega) (by omega), eC_at _ _ h0, ← ih']
      by_cases c2 : zI (d 3 i) = a
      · rw [if_pos c2, if_pos c2]; rfl
      · rw [if_neg c2, if_neg c2]
    · rw [if_pos (c_le (a := 10) (b := i) (by omega) (by omega) (by omega)), if_pos (by omega)]) 20000 (0, 0) ⟨Int.le_refl 0, by show (0 : Int) ≤ 10; decide, by show ((10 : Int) - 0).toNat < 20000; decide⟩
  exact key
theorem m_believing (a : Int32) : f_X7_believing (eC (pw m d)) τ a = some (bts d a 20000 0 0) := by
  unfold f_X7_believing
  have key := lp_en (body := b_X7_believing_4 (eC (pw m d)) a) (k := fun z1 => some z1.2) (fun s : Int × Int32 => (zI s.1, s.2)) (fun N s => some (bts d a N s.1 s.2)) (fun N s => 0 ≤ s.1 ∧ s.1 ≤ 10 ∧ (10 - s.1).toNat < N) (fun s => by omega) (by
    rintro again N ⟨i, s⟩ ⟨h0, h1, h2⟩ ih
    dsimp only at h0 h1 h2 ⊢
    unfold b_X7_believing_4 bts
    dsimp only
    rw [z_s1, z_10]
    have e0 : s ||| 0 = s := Int32.or_zero
    by_cases c : i < 10
    · have ih' := ih (i + 1, if zI (d 3 i) = a then s ||| ((1 : Int32) <<< (zI i &&& 31)) else s) ⟨by dsimp only; omega, by dsimp only; omega, by dsimp only; omega⟩
      dsimp only at ih'
      rw [if_neg (c_nle c h0 (by omega)), if_neg (by omega), s_rd (n := 10) h0 (by omega) (by omega), eC_at _ _ h0, pw_3, ← ih']
      by_cases c2 : zI (d 3 i) = a
      · rw [if_pos c2, if_pos c2]; rfl
      · rw [if_neg c2, if_neg c2, s_bd, e0]
    · rw [if_pos (c_le (a := 10) (b := i) (by omega) (by omega) (by omega)), if_pos (by omega)]) 20000 (0, 0) ⟨Int.le_refl 0, by show (0 : Int) ≤ 10; decide, by show ((10 : Int) - 0).toNat < 20000; decide⟩
  exact key
theorem c_holds (he : okp e) (hd : okd d) (hf : okd f) (hp : mpad m e) (b : Int32) : ∃ r n' f' m', f_X6_holds (eC n) (eC e) (eC f) (eC d) b = some (r, eC n', eC f') ∧ f_X7_holds (eC (pw m d)) τ b = some (r, eC (pw m' d)) ∧ okd f' ∧ frN m m' := by
  obtain ⟨b, b0, b1, rfl⟩ := z_of b
  by_cases cb : 0 ≤ b ∧ b ≤ 9
  · obtain ⟨f', x1, x2, x3⟩ := x_pass (n := n) he hd hf
    obtain ⟨m', h1, h2, h3, h4, h5⟩ := m_asked (n := n) (τ := τ) he hd hp
    obtain ⟨k1, k2, k3⟩ := pss_ok he hd (mst_n0 n)
    generalize pss e (n0 n) d = R at *
    by_cases c : R.1 = 0
    · obtain rfl := x3 (by omega)
      refine ⟨bts R.2.2 (zI b) 20000 0 0, R.2.1, R.2.2, m', ?_, ?_, x2, h2⟩
      · unfold f_X6_holds
        rw [x_isTale b0 b1, s_cl, x1, s_cl, if_pos (show 0 ≤ b ∧ b ≤ 9 from cb), if_neg (by decide)]
        dsimp only
        rw [c, if_pos (by decide), x_believersOf, s_cl]
      · unfold f_X7_holds
        rw [m_isTale b0 b1, s_cl, h1, s_cl, if_pos (show 0 ≤ b ∧ b ≤ 9 from cb), if_neg (by decide), if_pos c]
        dsimp only
        rw [if_pos (by decide), m_believing, s_cl, h3, s_cl]
    · refine ⟨zI R.1, R.2.1, f', m', ?_, ?_, x2, h2⟩
      · unfold f_X6_holds
        simp (disch := omega) only [x_isPlace, x_isHouse, x_isTale, x_within, x_longBetween, x_layRoad, x_doubtOf, x_furnish, x_beliefOf, x_convince, x_fadesInto, x_letFade, x1, c, s_T, s_F, s_bd, s_cl, s_rd, s_wr, s_ite, z_ite, z_neg, z_add, z_sub, z_mul, z_le, z_lt, z_eq, eC_at, eC_7, eC_8, eC_9, eC_10, eC_11, eC_p7, eC_p8, eC_p9, eC_p10, eC_p11, eC_up, ud_same, ud_ne, if_pos, if_neg, z_0, z_1, z_2, z_3, z_4, z_5, z_6, z_7, z_8, z_9, z_10, z_11, z_12, z_13, z_14, z_15, z_16, z_17, z_18, z_19, z_20, z_21, z_22, z_23, z_24, z_25, z_26, z_27, z_28, z_29, z_30, z_31, z_32, z_33, z_34, z_35, z_36, z_37, z_38, z_39, z_40, z_41, z_42, z_43, z_44, z_45, z_46, z_47, z_48, z_49, z_50, z_51, z_52, z_53, z_54, z_55, z_56, z_57, z_58, z_59, z_60, z_61, z_62, z_63, z_64, z_65, z_66, z_67, z_68, z_69, z_70, z_71, z_72, z_73, z_74, z_75, z_76, z_77, z_78, z_79, z_80, z_81, z_82, z_83, z_84, z_85, z_86, z_87, z_88, z_89, z_90, z_91, z_92, z_93, z_94, z_95, z_96, z_97, z_98, z_99, z_100, z_101, z_102, z_103, z_104, z_105, z_106, z_107, z_108, z_109, z_110, z_111, z_112, z_113, z_114, z_115, z_116, z_117, z_118, z_119, z_120, z_121, z_122, z_123, z_124, z_125, z_126, z_127, z_199, z_200, z_360, z_410, z_1000, z_1023, z_1024, z_1219, z_9999, z_10240, z_65537]
      · unfold f_X7_holds
        simp (disch := omega) only [m_isPlace, m_isHouse, m_isTale, m_in, z_l, zl_neg, zl_0, zl_1, zl_2, zl_3, zl_5, zl_8, zl_9, zl_10, zl_19, zl_33, zl_40, zl_49, zl_57, zl_60, zl_65, zl_74, zl_99, zl_100, zl_126, zl_199, zl_1000, zl_1219, zl_9999, h1, h3, c, pw_0, up_0, pw_1, up_1, pw_2, up_2, pw_3, up_3, pw_4, up_4, pw_9, up_9, pw_10, up_10, pwi_5, upi_5, pwi_6, upi_6, pwi_7, upi_7, pwi_8, upi_8, pwi_11, upi_11, pw_12, up_12, pw_14, up_14, pw_15, up_15, pw_16, up_16, pw_18, up_18, pw_24, up_24, pw_25, up_25, pw_26, up_26, pw_29, up_29, pw_30, up_30, pw_31, up_31, pwi_13, upi_13, pwi_17, upi_17, pwi_19, upi_19, pwi_20, upi_20, pwi_21, upi_21, pwi_22, upi_22, pwi_23, upi_23, pwi_32, upi_32, pwi_33, upi_33, eC_5, eC_6, eC_13, eC_17, eC_19, eC_20, eC_21, eC_22, eC_23, eC_32, eC_33, eC_p5, eC_p6, eC_p13, eC_p17, eC_p19, eC_p20, eC_p21, eC_p22, eC_p23, eC_p32, eC_p33, s_T, s_F, s_bd, s_cl, s_rd, s_wr, s_ite, z_ite, z_neg, z_add, z_sub, z_mul, z_le, z_lt, z_eq, eC_at, eC_7, eC_8, eC_9, eC_10, eC_11, eC_p7, eC_p8, eC_p9, eC_p10, eC_p11, eC_up, ud_same, ud_ne, if_pos, if_neg, z_0, z_1, z_2, z_3, z_4, z_5, z_6, z_7, z_8, z_9, z_10, z_11, z_12, z_13, z_14, z_15, z_16, z_17, z_18, z_19, z_20, z_21, z_22, z_23, z_24, z_25, z_26, z_27, z_28, z_29, z_30, z_31, z_32, z_33, z_34, z_35, z_36, z_37, z_38, z_39, z_40, z_41, z_42, z_43, z_44, z_45, z_46, z_47, z_48, z_49, z_50, z_51, z_52, z_53, z_54, z_55, z_56, z_57, z_58, z_59, z_60, z_61, z_62, z_63, z_64, z_65, z_66, z_67, z_68, z_69, z_70, z_71, z_72, z_73, z_74, z_75, z_76, z_77, z_78, z_79, z_80, z_81, z_82, z_83, z_84, z_85, z_86, z_87, z_88, z_89, z_90, z_91, z_92, z_93, z_94, z_95, z_96, z_97, z_98, z_99, z_100, z_101, z_102, z_103, z_104, z_105, z_106, z_107, z_108, z_109, z_110, z_111, z_112, z_113, z_114, z_115, z_116, z_117, z_118, z_119, z_120, z_121, z_122, z_123, z_124, z_125, z_126, z_127, z_199, z_200, z_360, z_410, z_1000, z_1023, z_1024, z_1219, z_9999, z_10240, z_65537]
  · exact ⟨zI (-1), n, f, m, by unfold f_X6_holds; simp (disch := omega) only [x_isPlace, x_isHouse, x_isTale, x_within, x_longBetween, x_layRoad, x_doubtOf, x_furnish, x_beliefOf, x_convince, x_fadesInto, x_letFade, s_T, s_F, s_bd, s_cl, s_rd, s_wr, s_ite, z_ite, z_neg, z_add, z_sub, z_mul, z_le, z_lt, z_eq, eC_at, eC_7, eC_8, eC_9, eC_10, eC_11, eC_p7, eC_p8, eC_p9, eC_p10, eC_p11, eC_up, ud_same, ud_ne, if_pos, if_neg, z_0, z_1, z_2, z_3, z_4, z_5, z_6, z_7, z_8, z_9, z_10, z_11, z_12, z_13, z_14, z_15, z_16, z_17, z_18, z_19, z_20, z_21, z_22, z_23, z_24, z_25, z_26, z_27, z_28, z_29, z_30, z_31, z_32, z_33, z_34, z_35, z_36, z_37, z_38, z_39, z_40, z_41, z_42, z_43, z_44, z_45, z_46, z_47, z_48, z_49, z_50, z_51, z_52, z_53, z_54, z_55, z_56, z_57, z_58, z_59, z_60, z_61, z_62, z_63, z_64, z_65, z_66, z_67, z_68, z_69, z_70, z_71, z_72, z_73, z_74, z_75, z_76, z_77, z_78, z_79, z_80, z_81, z_82, z_83, z_84, z_85, z_86, z_87, z_88, z_89, z_90, z_91, z_92, z_93, z_94, z_95, z_96, z_97, z_98, z_99, z_100, z_101, z_102, z_103, z_104, z_105, z_106, z_107, z_108, z_109, z_110, z_111, z_112, z_113, z_114, z_115, z_116, z_117, z_118, z_119, z_120, z_121, z_122, z_123, z_124, z_125, z_126, z_127, z_199, z_200, z_360, z_410, z_1000, z_1023, z_1024, z_1219, z_9999, z_10240, z_65537], by unfold f_X7_holds; simp (disch := omega) only [m_isPlace, m_isHouse, m_isTale, m_in, z_l, zl_neg, zl_0, zl_1, zl_2, zl_3, zl_5, zl_8, zl_9, zl_10, zl_19, zl_33, zl_40, zl_49, zl_57, zl_60, zl_65, zl_74, zl_99, zl_100, zl_126, zl_199, zl_1000, zl_1219, zl_9999, pw_0, up_0, pw_1, up_1, pw_2, up_2, pw_3, up_3, pw_4, up_4, pw_9, up_9, pw_10, up_10, pwi_5, upi_5, pwi_6, upi_6, pwi_7, upi_7, pwi_8, upi_8, pwi_11, upi_11, pw_12, up_12, pw_14, up_14, pw_15, up_15, pw_16, up_16, pw_18, up_18, pw_24, up_24, pw_25, up_25, pw_26, up_26, pw_29, up_29, pw_30, up_30, pw_31, up_31, pwi_13, upi_13, pwi_17, upi_17, pwi_19, upi_19, pwi_20, upi_20, pwi_21, upi_21, pwi_22, upi_22, pwi_23, upi_23, pwi_32, upi_32, pwi_33, upi_33, eC_5, eC_6, eC_13, eC_17, eC_19, eC_20, eC_21, eC_22, eC_23, eC_32, eC_33, eC_p5, eC_p6, eC_p13, eC_p17, eC_p19, eC_p20, eC_p21, eC_p22, eC_p23, eC_p32, eC_p33, s_T, s_F, s_bd, s_cl, s_rd, s_wr, s_ite, z_ite, z_neg, z_add, z_sub, z_mul, z_le, z_lt, z_eq, eC_at, eC_7, eC_8, eC_9, eC_10, eC_11, eC_p7, eC_p8, eC_p9, eC_p10, eC_p11, eC_up, ud_same, ud_ne, if_pos, if_neg, z_0, z_1, z_2, z_3, z_4, z_5, z_6, z_7, z_8, z_9, z_10, z_11, z_12, z_13, z_14, z_15, z_16, z_17, z_18, z_19, z_20, z_21, z_22, z_23, z_24, z_25, z_26, z_27, z_28, z_29, z_30, z_31, z_32, z_33, z_34, z_35, z_36, z_37, z_38, z_39, z_40, z_41, z_42, z_43, z_44, z_45, z_46, z_47, z_48, z_49, z_50, z_51, z_52, z_53, z_54, z_55, z_56, z_57, z_58, z_59, z_60, z_61, z_62, z_63, z_64, z_65, z_66, z_67, z_68, z_69, z_70, z_71, z_72, z_73, z_74, z_75, z_76, z_77, z_78, z_79, z_80, z_81, z_82, z_83, z_84, z_85, z_86, z_87, z_88, z_89, z_90, z_91, z_92, z_93, z_94, z_95, z_96, z_97, z_98, z_99, z_100, z_101, z_102, z_103, z_104, z_105, z_106, z_107, z_108, z_109, z_110, z_111, z_112, z_113, z_114, z_115, z_116, z_117, z_118, z_119, z_120, z_121, z_122, z_123, z_124, z_125, z_126, z_127, z_199, z_200, z_360, z_410, z_1000, z_1023, z_1024, z_1219, z_9999, z_10240, z_65537], hf, frN_rf m⟩
theorem c_done (he : okp e) (hd : okd d) (hf : okd f) (hp : mpad m e) : ∃ r n' e' f' d' m', f_X6_done (eC n) (eC e) (eC f) (eC d) = some (r, eC n', eC e', eC f', eC d') ∧ f_X7_done (eC (pw m d)) τ = some (r, eC (pw m' d')) ∧ okp e' ∧ okd f' ∧ okd d' ∧ mpad m' e' ∧ (∀ k i, k ≠ 12 → ¬ (k = 99 ∧ i = 13) → (k = 14 ∨ k = 15 ∨ k = 16 ∨ k = 18 ∨ k = 24 ∨ k = 25 ∨ k = 26 ∨ k = 29 ∨ (k = 99 ∧ (i = 17 ∨ (19 ≤ i ∧ i ≤ 23)))) ∨ m' k i = m k i) ∧ oth d d' := by
  obtain ⟨f', x1, x2, x3⟩ := x_pass (n := n) he hd hf
  obtain ⟨m', h1, h2, h3, h4, h5⟩ := m_asked (n := n) (τ := τ) he hd hp
  obtain ⟨k1, k2, k3⟩ := pss_ok he hd (mst_n0 n)
  have hp' := mpad_N hp h2
  generalize pss e (n0 n) d = R at *
  by_cases c : R.1 = 0
  · obtain rfl := x3 (by omega)
    have h17 := h5 c
    refine ⟨zI (R.2.1 99 0), R.2.1, ud e 99 1 0, R.2.2, R.2.2, ud m' 99 13 0, ?_, ?_, ⟨fun i => ?_, ?_⟩, x2, x2, ⟨fun i => ?_, ?_⟩, fun k i z1 z2 => ?_, k2⟩
    · unfold f_X6_done f_X3_clear
      simp (disch := omega) only [x1, c, x_copyFrom d R.2.2 hd k1, eC_p1, eC_0, s_T, s_F, s_bd, s_cl, s_rd, s_wr, s_ite, z_ite, z_neg, z_add, z_sub, z_mul, z_le, z_lt, z_eq, eC_at, eC_7, eC_8, eC_9, eC_10, eC_11, eC_p7, eC_p8, eC_p9, eC_p10, eC_p11, eC_up, ud_same, ud_ne, if_pos, if_neg, z_0, z_1, z_2, z_3, z_4, z_5, z_6, z_7, z_8, z_9, z_10, z_11, z_12, z_13, z_14, z_15, z_16, z_17, z_18, z_19, z_20, z_21, z_22, z_23, z_24, z_25, z_26, z_27, z_28, z_29, z_30, z_31, z_32, z_33, z_34, z_35, z_36, z_37, z_38, z_39, z_40, z_41, z_42, z_43, z_44, z_45, z_46, z_47, z_48, z_49, z_50, z_51, z_52, z_53, z_54, z_55, z_56, z_57, z_58, z_59, z_60, z_61, z_62, z_63, z_64, z_65, z_66, z_67, z_68, z_69, z_70, z_71, z_72, z_73, z_74, z_75, z_76, z_77, z_78, z_79, z_80, z_81, z_82, z_83, z_84, z_85, z_86, z_87, z_88, z_89, z_90, z_91, z_92, z_93, z_94, z_95, z_96, z_97, z_98, z_99, z_100, z_101, z_102, z_103, z_104, z_105, z_106, z_107, z_108, z_109, z_110, z_111, z_112, z_113, z_114, z_115, z_116, z_117, z_118, z_119, z_120, z_121, z_122, z_123, z_124, z_125, z_126, z_127, z_199, z_200, z_360, z_410, z_1000, z_1023, z_1024, z_1219, z_9999, z_10240, z_65537]
    · unfold f_X7_done
      simp (disch := omega) only [h1, c, h17, pw_0, up_0, pw_1, up_1, pw_2, up_2, pw_3, up_3, pw_4, up_4, pw_9, up_9, pw_10, up_10, pwi_5, upi_5, pwi_6, upi_6, pwi_7, upi_7, pwi_8, upi_8, pwi_11, upi_11, pw_12, up_12, pw_14, up_14, pw_15, up_15, pw_16, up_16, pw_18, up_18, pw_24, up_24, pw_25, up_25, pw_26, up_26, pw_29, up_29, pw_30, up_30, pw_31, up_31, pwi_13, upi_13, pwi_17, upi_17, pwi_19, upi_19, pwi_20, upi_20, pwi_21, upi_21, pwi_22, upi_22, pwi_23, upi_23, pwi_32, upi_32, pwi_33, upi_33, eC_5, eC_6, eC_13, eC_17, eC_19, eC_20, eC_21, eC_22, eC_23, eC_32, eC_33, eC_p5, eC_p6, eC_p13, eC_p17, eC_p19, eC_p20, eC_p21, eC_p22, eC_p23, eC_p32, eC_p33, s_T, s_F, s_bd, s_cl, s_rd, s_wr, s_ite, z_ite, z_neg, z_add, z_sub, z_mul, z_le, z_lt, z_eq, eC_at, eC_7, eC_8, eC_9, eC_10, eC_11, eC_p7, eC_p8, eC_p9, eC_p10, eC_p11, eC_up, ud_same, ud_ne, if_pos, if_neg, z_0, z_1, z_2, z_3, z_4, z_5, z_6, z_7, z_8, z_9, z_10, z_11, z_12, z_13, z_14, z_15, z_16, z_17, z_18, z_19, z_20, z_21, z_22, z_23, z_24, z_25, z_26, z_27, z_28, z_29, z_30, z_31, z_32, z_33, z_34, z_35, z_36, z_37, z_38, z_39, z_40, z_41, z_42, z_43, z_44, z_45, z_46, z_47, z_48, z_49, z_50, z_51, z_52, z_53, z_54, z_55, z_56, z_57, z_58, z_59, z_60, z_61, z_62, z_63, z_64, z_65, z_66, z_67, z_68, z_69, z_70, z_71, z_72, z_73, z_74, z_75, z_76, z_77, z_78, z_79, z_80, z_81, z_82, z_83, z_84, z_85, z_86, z_87, z_88, z_89, z_90, z_91, z_92, z_93, z_94, z_95, z_96, z_97, z_98, z_99, z_100, z_101, z_102, z_103, z_104, z_105, z_106, z_107, z_108, z_109, z_110, z_111, z_112, z_113, z_114, z_115, z_116, z_117, z_118, z_119, z_120, z_121, z_122, z_123, z_124, z_125, z_126, z_127, z_199, z_200, z_360, z_410, z_1000, z_1023, z_1024, z_1219, z_9999, z_10240, z_65537]
    · rw [ud_ne _ _ (by omega)]; exact he.1 i
    · rw [ud_same]; omega
    · rw [ud_ne _ _ (by omega), ud_ne _ _ (by omega)]; exact hp'.1 i
    · rw [ud_same, ud_same]
    · rw [ud_ne _ _ (by omega)]; exact h2 k i
  · refine ⟨zI R.1, R.2.1, e, f', d, m', ?_, ?_, he, x2, hd, hp', fun k i _ _ => h2 k i, oth_rf d⟩
    · unfold f_X6_done
      simp (disch := omega) only [x1, c, s_T, s_F, s_bd, s_cl, s_rd, s_wr, s_ite, z_ite, z_neg, z_add, z_sub, z_mul, z_le, z_lt, z_eq, eC_at, eC_7, eC_8, eC_9, eC_10, eC_11, eC_p7, eC_p8, eC_p9, eC_p10, eC_p11, eC_up, ud_same, ud_ne, if_pos, if_neg, z_0, z_1, z_2, z_3, z_4, z_5, z_6, z_7, z_8, z_9, z_10, z_11, z_12, z_13, z_14, z_15, z_16, z_17, z_18, z_19, z_20, z_21, z_22, z_23, z_24, z_25, z_26, z_27, z_28, z_29, z_30, z_31, z_32, z_33, z_34, z_35, z_36, z_37, z_38, z_39, z_40, z_41, z_42, z_43, z_44, z_45, z_46, z_47, z_48, z_49, z_50, z_51, z_52, z_53, z_54, z_55, z_56, z_57, z_58, z_59, z_60, z_61, z_62, z_63, z_64, z_65, z_66, z_67, z_68, z_69, z_70, z_71, z_72, z_73, z_74, z_75, z_76, z_77, z_78, z_79, z_80, z_81, z_82, z_83, z_84, z_85, z_86, z_87, z_88, z_89, z_90, z_91, z_92, z_93, z_94, z_95, z_96, z_97, z_98, z_99, z_100, z_101, z_102, z_103, z_104, z_105, z_106, z_107, z_108, z_109, z_110, z_111, z_112, z_113, z_114, z_115, z_116, z_117, z_118, z_119, z_120, z_121, z_122, z_123, z_124, z_125, z_126, z_127, z_199, z_200, z_360, z_410, z_1000, z_1023, z_1024, z_1219, z_9999, z_10240, z_65537]
    · unfold f_X7_done
      simp (disch := omega) only [h1, h3, c, pw_0, up_0, pw_1, up_1, pw_2, up_2, pw_3, up_3, pw_4, up_4, pw_9, up_9, pw_10, up_10, pwi_5, upi_5, pwi_6, upi_6, pwi_7, upi_7, pwi_8, upi_8, pwi_11, upi_11, pw_12, up_12, pw_14, up_14, pw_15, up_15, pw_16, up_16, pw_18, up_18, pw_24, up_24, pw_25, up_25, pw_26, up_26, pw_29, up_29, pw_30, up_30, pw_31, up_31, pwi_13, upi_13, pwi_17, upi_17, pwi_19, upi_19, pwi_20, upi_20, pwi_21, upi_21, pwi_22, upi_22, pwi_23, upi_23, pwi_32, upi_32, pwi_33, upi_33, eC_5, eC_6, eC_13, eC_17, eC_19, eC_20, eC_21, eC_22, eC_23, eC_32, eC_33, eC_p5, eC_p6, eC_p13, eC_p17, eC_p19, eC_p20, eC_p21, eC_p22, eC_p23, eC_p32, eC_p33, s_T, s_F, s_bd, s_cl, s_rd, s_wr, s_ite, z_ite, z_neg, z_add, z_sub, z_mul, z_le, z_lt, z_eq, eC_at, eC_7, eC_8, eC_9, eC_10, eC_11, eC_p7, eC_p8, eC_p9, eC_p10, eC_p11, eC_up, ud_same, ud_ne, if_pos, if_neg, z_0, z_1, z_2, z_3, z_4, z_5, z_6, z_7, z_8, z_9, z_10, z_11, z_12, z_13, z_14, z_15, z_16, z_17, z_18, z_19, z_20, z_21, z_22, z_23, z_24, z_25, z_26, z_27, z_28, z_29, z_30, z_31, z_32, z_33, z_34, z_35, z_36, z_37, z_38, z_39, z_40, z_41, z_42, z_43, z_44, z_45, z_46, z_47, z_48, z_49, z_50, z_51, z_52, z_53, z_54, z_55, z_56, z_57, z_58, z_59, z_60, z_61, z_62, z_63, z_64, z_65, z_66, z_67, z_68, z_69, z_70, z_71, z_72, z_73, z_74, z_75, z_76, z_77, z_78, z_79, z_80, z_81, z_82, z_83, z_84, z_85, z_86, z_87, z_88, z_89, z_90, z_91, z_92, z_93, z_94, z_95, z_96, z_97, z_98, z_99, z_100, z_101, z_102, z_103, z_104, z_105, z_106, z_107, z_108, z_109, z_110, z_111, z_112, z_113, z_114, z_115, z_116, z_117, z_118, z_119, z_120, z_121, z_122, z_123, z_124, z_125, z_126, z_127, z_199, z_200, z_360, z_410, z_1000, z_1023, z_1024, z_1219, z_9999, z_10240, z_65537]
end NIGHTS
end
section
/-! the calls: 3 ways, 4 what was said: they end -/
theorem msc_fr {m d : Nat → Int → Int} {β : Type} {x : Option (β × qS)} (h : oK (fun r => msc m d r.2) x) : ∃ r m', x = some (r, eC (pw m' d)) ∧ frN m m' := by
  obtain ⟨⟨r, σ⟩, e, m', e2, h2⟩ := h
  dsimp only at e2
  exact ⟨r, m', by rw [e, e2], frN_scr h2⟩
section ENDS
variable {m d f : Nat → Int → Int} {τ : qL}
theorem e_near (σ : qS) (a b w : Int32) : oK tt (f_X6_near σ (eC d) a b w) := by
  obtain ⟨a, a0, a1, rfl⟩ := z_of a
  obtain ⟨b, b0, b1, rfl⟩ := z_of b
  obtain ⟨w, w0, w1, rfl⟩ := z_of w
  unfold f_X6_near
  rw [x_isPlace a0 a1, x_isPlace b0 b1, z_0, z_1, x_within w0 w1 (by omega) (by omega) (by omega) (by omega), s_cl, s_cl, s_cl]
  by_cases ca : 0 ≤ a ∧ a ≤ 10
  · by_cases cb : 0 ≤ b ∧ b ≤ 10
    · exact ok_if (fun _ => ok_r trivial) (fun _ => ok_if (fun _ => ok_r trivial) (fun _ => ok_if (fun _ => ok_r trivial) (fun _ => ok_cl (w_measure σ d) (fun _ _ => ok_if (fun _ => ok_cl (w_howFar _ ca.1 ca.2 cb.1 cb.2) (fun _ _ => ok_r trivial)) (fun _ => ok_cl (w_nextPlace _ d ca.1 ca.2 cb.1 cb.2) (fun _ _ => ok_r trivial))))))
    · rw [if_neg cb]
      exact ok_if (fun _ => ok_r trivial) (fun _ => ok_if (fun _ => ok_r trivial) (fun c => absurd rfl c))
  · rw [if_neg ca]
    exact ok_if (fun _ => ok_r trivial) (fun c => absurd rfl c)
theorem e_keep (σ : qS) (a w : Int32) : oK tt (f_X6_keep σ (eC d) a w) := by
  obtain ⟨a, a0, a1, rfl⟩ := z_of a
  obtain ⟨w, w0, w1, rfl⟩ := z_of w
  unfold f_X6_keep
  rw [x_isHouse a0 a1, z_0, z_1, x_within w0 w1 (by omega) (by omega) (by omega) (by omega), s_cl, s_cl]
  by_cases ca : 0 ≤ a ∧ a ≤ 9
  · exact ok_if (fun _ => ok_r trivial) (fun _ => ok_if (fun _ => ok_r trivial) (fun _ => ok_cl (w_fewestDamp σ d ca.1 ca.2) (fun _ _ => ok_if (fun _ => ok_r trivial) (fun _ => ok_if (fun _ => ok_r trivial) (fun _ => ok_cl (w_bits _) (fun _ _ => ok_r trivial))))))
  · rw [if_neg ca]
    exact ok_if (fun _ => ok_r trivial) (fun c => absurd rfl c)
/-- in range of round -/
def rin (h w : Int32) : Prop := (0 ≤ h.toInt ∧ h.toInt ≤ 99) ∧ 0 ≤ w.toInt ∧ w.toInt ≤ 1
theorem e_round (σ η : qS) (hd : okd d) (h w : Int32) : oK tt (f_X6_round σ η (eC d) h w) := by
  unfold f_X6_round
  obtain ⟨h, h0, h1, rfl⟩ := z_of h
  obtain ⟨w, w0, w1, rfl⟩ := z_of w
  rw [z_0, z_1, z_99, x_within h0 h1 (by omega) (by omega) (by omega) (by omega), x_within w0 w1 (by omega) (by omega) (by omega) (by omega), s_cl, s_cl]
  exact ok_if (fun _ => ok_r trivial) (fun _ => ok_if (fun _ => ok_r trivial) (fun _ => ok_cl (w_bestRound σ η hd _) (fun _ _ => ok_if (fun _ => ok_cl (w_bits _) (fun _ _ => ok_r trivial)) (fun _ => ok_r trivial))))
theorem e_round_n (σ : qS) (hd : okd d) {h w : Int32} (hr : rin h w) : oK tt (f_X6_round_n σ (eC d) h w) := by
  unfold f_X6_round_n
  obtain ⟨h, h0, h1, rfl⟩ := z_of h
  obtain ⟨w, w0, w1, rfl⟩ := z_of w
  unfold rin at hr
  rw [z_toInt h0 h1, z_toInt w0 w1] at hr
  rw [z_0, z_1, z_99, x_within h0 h1 (by omega) (by omega) (by omega) (by omega), x_within w0 w1 (by omega) (by omega) (by omega) (by omega), s_cl, s_cl, if_pos hr.1, if_pos hr.2, if_neg (by decide), if_neg (by decide)]
  exact ok_cl (w_bestRound_n σ hd _) (fun _ _ => ok_if (fun _ => ok_cl (w_bits _) (fun _ _ => ok_r trivial)) (fun _ => ok_r trivial))
theorem e_round_x (σ γ : qS) {h w : Int32} (hr : ¬ rin h w) : oK tt (f_X6_round_x σ γ h w) := by
  unfold f_X6_round_x
  obtain ⟨h, h0, h1, rfl⟩ := z_of h
  obtain ⟨w, w0, w1, rfl⟩ := z_of w
  unfold rin at hr
  rw [z_toInt h0 h1, z_toInt w0 w1] at hr
  rw [z_0, z_1, z_99, x_within h0 h1 (by omega) (by omega) (by omega) (by omega), x_within w0 w1 (by omega) (by omega) (by omega) (by omega), s_cl, s_cl]
  refine ok_if (fun _ => ok_r trivial) (fun c1 => ok_if (fun _ => ok_r trivial) (fun c2 => ?_))
  exfalso
  apply hr
  constructor
  · by_cases c : 0 ≤ h ∧ h ≤ 99
    · exact c
    · rw [if_neg c] at c1; exact absurd rfl c1
  · by_cases c : 0 ≤ w ∧ w ≤ 1
    · exact c
    · rw [if_neg c] at c2; exact absurd rfl c2
theorem e_faded (a w : Int32) : oK tt (f_X6_faded (eC d) a w) := by
  obtain ⟨w, w0, w1, rfl⟩ := z_of w
  unfold f_X6_faded
  have e2 : (-2 : Int32) = zI (-2) := by decide
  rw [e2, z_99, x_within w0 w1 (by omega) (by omega) (by omega) (by omega), s_cl]
  refine ok_cl (w_isTale a) (fun _ _ => ok_if (fun _ => ok_r trivial) (fun _ => ?_))
  by_cases cw : -2 ≤ w ∧ w ≤ 99
  · refine ok_if (fun _ => ok_r trivial) (fun _ => ok_if (fun _ => ok_if (fun _ => ok_cl (w_stirsToRing d a) (fun _ _ => ok_r trivial)) (fun _ => ok_cl (w_stirsOfRing d a) (fun _ _ => ok_r trivial))) (fun c => ?_))
    have hw : 0 ≤ w := by
      rw [z_0, z_lt (by omega) (by omega) (by omega) (by omega)] at c; omega
    exact ok_cl (w_behindStirs d a hw (by omega)) (fun _ _ => ok_r trivial)
  · rw [if_neg cw]
    exact ok_if (fun _ => ok_r trivial) (fun c => absurd rfl c)
theorem e_fits (σ : qS) (hd : okd d) (a : Int32) : oK tt (f_X6_fits σ (eC d) a) := by
  unfold f_X6_fits f_X4_size
  exact ok_cl (w_gather σ hd) (fun _ _ => ok_if (fun _ => ok_r trivial) (fun _ => ok_cl (w_pick _ a) (fun _ _ => ok_r trivial)))
theorem e_ask (σ : qS) (hd : okd d) (w : Int32) : oK tt (f_X6_ask σ (eC d) w) := by
  unfold f_X6_ask
  refine ok_cl (w_within w 0 1) (fun _ _ => ok_if (fun _ => ok_r trivial) (fun _ => ok_cl (w_gather σ hd) (fun _ hg => ok_cl (w_bedToAsk _ hg) (fun _ hy => ok_if (fun _ => ok_r trivial) (fun _ => ok_if (fun _ => ok_r trivial) (fun _ => ok_cl (w_mostLeft _ hy _) (fun _ _ => ok_r trivial)))))))
theorem e_row (σ : qS) (κ : qL) (n t u k w q : Int32) : oK tt (f_X6_row σ κ n t u k w q) := by
  unfold f_X6_row
  obtain ⟨n, n0, n1, rfl⟩ := z_of n
  rw [z_0, z_10, x_within n0 n1 (by omega) (by omega) (by omega) (by omega), s_cl]
  by_cases cn : 0 ≤ n ∧ n ≤ 10
  · refine ok_if (fun _ => ok_r trivial) (fun _ => ok_cl (w_within _ _ _) (fun _ _ => ok_if (fun _ => ok_r trivial) (fun _ => ok_cl (w_within _ _ _) (fun _ _ => ok_if (fun _ => ok_r trivial) (fun _ => ok_cl (w_within _ _ _) (fun _ _ => ok_if (fun _ => ok_r trivial) (fun _ => ok_cl (w_within _ _ _) (fun _ _ => ok_if (fun _ => ok_r trivial) (fun _ => ok_cl (w_within _ _ _) (fun _ _ => ok_if (fun _ => ok_r trivial) (fun _ => ?_)))))))))))
    refine ok_cl (w_rowUpper σ κ cn.1 cn.2 _ _ _ _) (fun _ _ => ok_cl (w_rowLower σ _ cn.1 cn.2) (fun _ _ => ok_cl (w_commonPart _ _) (fun r _ => ?_)))
    have hz : ∀ {β : Type} {Q : β → Prop} {x : Option β}, ¬ lg_cmp r 0 ≤ 0 → oK Q x → oK Q (q_nzL r x) := fun {β Q x} h hx => by
      unfold q_nzL
      rw [if_neg]
      · exact hx
      · intro z
        rw [z] at h
        exact h (by decide)
    exact ok_if (fun _ => ok_if (fun _ => ok_r trivial) (fun c => hz c (ok_r trivial))) (fun _ => ok_if (fun _ => ok_r trivial) (fun c => hz c (ok_r trivial)))
  · rw [if_neg cn]
    exact ok_if (fun _ => ok_r trivial) (fun c => absurd rfl c)
theorem e_embers (σ : qS) (κ : qL) (n w : Int32) : oK tt (f_X6_embers σ κ n w) := by
  unfold f_X6_embers
  exact ok_cl (w_within _ _ _) (fun _ _ => ok_if (fun _ => ok_r trivial) (fun _ => ok_cl (w_within _ _ _) (fun _ _ => ok_if (fun _ => ok_r trivial) (fun _ => ok_cl (w_firstTake σ κ n) (fun _ _ => ok_if (fun _ => ok_r trivial) (fun _ => ok_if (fun _ => ok_r trivial) (fun _ => ok_r trivial)))))))
theorem w_believers (d : Nat → Int → Int) : oK tt (f_X1_believers (eC d)) := by
  unfold f_X1_believers
  rw [x_believersOf, s_cl]
  exact ok_cl (w_bits _) (fun _ _ => ok_r trivial)
theorem w_talesBelieved (d : Nat → Int → Int) : oK tt (f_X1_talesBelieved (eC d)) := by
  unfold f_X1_talesBelieved
  rw [z_0]
  refine ok_for (τ := Int32) 10 tt (fun again i t h0 h1 ht ih => ?_) 20000 0 _ (by omega) (by omega) trivial (by omega)
  unfold b_X1_talesBelieved_4
  dsimp only
  rw [z_s1, z_10]
  refine ok_if (fun _ => ok_r trivial) (fun c => ?_)
  have hi := t_nle h0 (by omega) (by omega) (by omega) c
  rw [x_believersOf, s_cl]
  exact ok_if (fun _ => ih hi _ trivial) (fun _ => ih hi _ trivial)
theorem w_allDoubt (d : Nat → Int → Int) : oK tt (f_X1_allDoubt (eC d)) := by
  unfold f_X1_allDoubt
  rw [z_0]
  refine ok_for (τ := Int32) 10 tt (fun again i t h0 h1 ht ih => ?_) 20000 0 _ (by omega) (by omega) trivial (by omega)
  unfold b_X1_allDoubt_4
  dsimp only
  rw [z_s1, z_10]
  refine ok_if (fun _ => ok_r trivial) (fun c => ?_)
  have hi := t_nle h0 (by omega) (by omega) (by omega) c
  exact ok_rd h0 (by omega) (by omega) (fun _ => ok_bd (ih hi _ trivial))
theorem e_year (hd : okd d) (hf : okd f) (a b w : Int32) : oK (fun r => ∃ f', r.2 = eC f' ∧ okd f') (f_X6_year (eC f) (eC d) a b w) := by
  unfold f_X6_year
  obtain ⟨a, a0, a1, rfl⟩ := z_of a
  obtain ⟨b, b0, b1, rfl⟩ := z_of b
  rw [z_0, z_9999, z_1, z_99, x_within a0 a1 (by omega) (by omega) (by omega) (by omega), x_within b0 b1 (by omega) (by omega) (by omega) (by omega), s_cl, s_cl]
  have hff : ∃ f', eC f = eC f' ∧ okd f' := ⟨f, rfl, hf⟩
  by_cases ca : 0 ≤ a ∧ a ≤ 9999
  · by_cases cb : 1 ≤ b ∧ b ≤ 99
    · refine ok_if (fun _ => ok_r hff) (fun _ => ok_if (fun _ => ok_r hff) (fun _ => ok_cl (w_within _ _ _) (fun _ _ => ok_if (fun _ => ok_r hff) (fun _ => ?_))))
      rw [x_copyFrom f d hf hd, s_cl, x_liveYear hd ca.1 (by omega) cb.1 cb.2, s_cl]
      have hy : ∃ f', eC (yr b 20000 0 a d) = eC f' ∧ okd f' := ⟨_, rfl, (yr_ok b 20000 0 a d hd).1⟩
      exact ok_if (fun _ => ok_cl (w_believers _) (fun _ _ => ok_r hy)) (fun _ => ok_if (fun _ => ok_cl (w_talesBelieved _) (fun _ _ => ok_r hy)) (fun _ => ok_cl (w_allDoubt _) (fun _ _ => ok_r hy)))
    · rw [if_neg cb]
      exact ok_if (fun _ => ok_r hff) (fun _ => ok_if (fun _ => ok_r hff) (fun c => absurd rfl c))
  · rw [if_neg ca]
    exact ok_if (fun _ => ok_r hff) (fun c => absurd rfl c)
theorem e_told {e : Nat → Int → Int} (hd : okd d) (a : Int32) : oK tt (f_X6_told (eC e) (eC d) a) := by
  obtain ⟨a, a0, a1, rfl⟩ := z_of a
  have hlong : ∀ x y : Int32, oK tt (f_X1_longBetween (eC d) x y) := fun x y => by
    obtain ⟨x, x0, x1, rfl⟩ := z_of x
    obtain ⟨y, y0, y1, rfl⟩ := z_of y
    unfold f_X1_longBetween
    rw [x_isPlace x0 x1, x_isPlace y0 y1, s_cl, s_cl]
    by_cases cx : 0 ≤ x ∧ x ≤ 10
    · by_cases cy : 0 ≤ y ∧ y ≤ 10
      · rw [z_11, z_mul, z_add]
        exact ok_if (fun _ => ok_r trivial) (fun _ => ok_if (fun _ => ok_r trivial) (fun _ => ok_rd (by omega) (by omega) (by omega) (fun _ => ok_r trivial)))
      · rw [if_neg cy]
        exact ok_if (fun _ => ok_r trivial) (fun _ => ok_if (fun _ => ok_r trivial) (fun c => absurd rfl c))
    · rw [if_neg cx]
      exact ok_if (fun _ => ok_r trivial) (fun c => absurd rfl c)
  have hpl : ∀ x : Int32, oK tt (f_X6_isPlace x) := fun x => by
    unfold f_X6_isPlace
    exact ok_if (fun _ => ok_r trivial) (fun _ => ok_if (fun _ => ok_r trivial) (fun _ => ok_r trivial))
  have hho : ∀ x : Int32, oK (fun r => r = 0 ∨ (∃ a, 0 ≤ a ∧ a ≤ 9 ∧ x = zI a)) (f_X6_isHouse x) := fun x => by
    obtain ⟨a, a0, a1, rfl⟩ := z_of x
    rw [x_isHouse a0 a1]
    refine ok_r ?_
    by_cases c : 0 ≤ a ∧ a ≤ 9
    · exact Or.inr ⟨a, c.1, c.2, rfl⟩
    · rw [if_neg c]; exact Or.inl rfl
  have hhf : ∀ x y : Int32, oK tt (f_X1_houseFact (eC d) x y) := fun x y => by
    unfold f_X1_houseFact f_X1_beliefOf f_X1_doubtOf f_X1_isDamp
    have hr : ∀ (k : Nat) (K : Int32 → Option Int32), (∀ v, oK tt (K v)) → ∀ z : Option Int32, oK tt z → oK tt (q_cl (f_X6_isHouse x) fun r_1 => if r_1 = 0 then z else q_rd (eC d) k 10 x K) := fun k K hK z hz => by
      refine ok_cl (hho x) (fun r hr => ok_if (fun _ => hz) (fun c => ?_))
      rcases hr with e | ⟨a, h0, h1, rfl⟩
      · exact absurd e c
      · exact ok_rd h0 (by omega) (by omega) hK
    refine ok_if (fun _ => ok_cl (hr 3 _ (fun _ => ok_r trivial) _ (ok_r trivial)) (fun _ _ => ok_r trivial)) (fun _ => ok_if (fun _ => ok_cl (hr 1 _ (fun _ => ok_r trivial) _ (ok_r trivial)) (fun _ _ => ok_r trivial)) (fun _ => ok_cl (hr 2 _ (fun _ => ok_if (fun _ => ok_r trivial) (fun _ => ok_r trivial)) _ (ok_r trivial)) (fun _ _ => ok_if (fun _ => ok_r trivial) (fun _ => ok_r trivial))))
  have hpf : ∀ x : Int32, oK tt (f_X1_panFact (eC d) x) := fun x => by
    unfold f_X1_panFact
    exact ok_if (fun _ => ok_r trivial) (fun _ => ok_if (fun _ => ok_r trivial) (fun _ => ok_if (fun _ => ok_r trivial) (fun _ => ok_r trivial)))
  unfold f_X6_told f_X3_size f_X1_sightCount
  exact ok_if (fun _ => ok_r trivial) (fun _ => ok_cl (w_within _ _ _) (fun _ _ => ok_if (fun _ => ok_if (fun _ => ok_r trivial) (fun _ => ok_cl (w_within _ _ _) (fun _ _ => ok_if (fun _ => ok_cl (w_within _ _ _) (fun _ _ => ok_if (fun _ => ok_cl (w_within _ _ _) (fun _ _ => ok_if (fun _ => ok_r trivial) (fun _ => ok_cl (hpl _) (fun _ _ => ok_if (fun _ => ok_r trivial) (fun _ => ok_cl (hlong _ _) (fun _ _ => ok_r trivial)))))) (fun _ => ok_if (fun _ => ok_cl (w_within _ _ _) (fun _ _ => ok_if (fun _ => ok_r trivial) (fun _ => ok_cl (hpl _) (fun _ _ => ok_if (fun _ => ok_r trivial) (fun _ => ok_cl (hlong _ _) (fun _ _ => ok_r trivial)))))) (fun _ => ok_cl (hhf _ _) (fun _ _ => ok_r trivial))))) (fun _ => ok_cl (w_fadesInto d _) (fun _ _ => ok_r trivial))))) (fun _ => ok_cl (hpf _) (fun _ _ => ok_r trivial))))
theorem v_told (a : Int32) : oK tt (f_X7_told (eC (pw m d)) τ a) := by
  obtain ⟨a, a0, a1, rfl⟩ := z_of a
  unfold f_X7_told
  have e1219 : (1219 : Int64) = zL 1219 := by decide
  have e1000 : (1000 : Int64) = zL 1000 := by decide
  rw [e1000, e1219, zl_100, zl_199, zl_10, zl_19, v_in _ (by omega) (by omega) (by omega) (by omega), v_in _ (by omega) (by omega) (by omega) (by omega), v_in _ (by omega) (by omega) (by omega) (by omega), z_toInt a0 a1, s_cl, s_cl, s_cl]
  by_cases c1 : 1000 ≤ a ∧ a ≤ 1219
  · rw [if_pos c1, if_neg (by decide), z_1000, z_20, z_sub, z_rem (by omega) (by omega) (by omega) (by omega), z_div (by omega) (by omega) (by omega) (by omega), s_bd, s_bd, m_isPlace (by omega) (by omega), s_cl]
    by_cases c2 : 0 ≤ (a - 1000) % 20 ∧ (a - 1000) % 20 ≤ 10
    · rw [z_11, z_mul, z_add]
      exact ok_if (fun _ => ok_r trivial) (fun _ => ok_rd (by omega) (by omega) (by omega) (fun _ => ok_r trivial))
    · rw [if_neg c2]
      exact ok_if (fun _ => ok_r trivial) (fun c => absurd rfl c)
  · rw [if_neg c1, if_pos (by decide)]
    by_cases c2 : 100 ≤ a ∧ a ≤ 199
    · rw [if_pos c2, if_neg (by decide), z_10, z_rem (by omega) (by omega) (by omega) (by omega), z_100, z_sub, z_div (by omega) (by omega) (by omega) (by omega)]
      refine ok_if (fun _ => ok_r trivial) (fun _ => ?_)
      unfold f_X7_ofHouse
      exact ok_cl (P := tt) (ok_if (fun _ => ok_rd (by omega) (by omega) (by omega) (fun _ => ok_r trivial)) (fun _ => ok_if (fun _ => ok_rd (by omega) (by omega) (by omega) (fun _ => ok_r trivial)) (fun _ => ok_rd (by omega) (by omega) (by omega) (fun _ => ok_r trivial)))) (fun _ _ => ok_r trivial)
    · rw [if_neg c2, if_pos (by decide)]
      by_cases c3 : 10 ≤ a ∧ a ≤ 19
      · rw [if_pos c3, if_neg (by decide), z_10, z_sub]
        exact ok_rd (by omega) (by omega) (by omega) (fun _ => ok_r trivial)
      · rw [if_neg c3, if_pos (by decide)]
        exact ok_if (fun _ => ok_r trivial) (fun _ => ok_if (fun _ => ok_r trivial) (fun _ => ok_if (fun _ => ok_r trivial) (fun _ => ok_if (fun _ => ok_r trivial) (fun _ => ok_if (fun _ => ok_r trivial) (fun _ => ok_if (fun _ => ok_r trivial) (fun _ => ok_r trivial))))))
theorem v_row (σ : qS) (κ : qL) (n t u k w q : Int32) : oK tt (f_X7_row σ κ n t u k w q) := by
  by_cases c : 0 ≤ n.toInt ∧ n.toInt ≤ 10 ∧ 0 ≤ t.toInt ∧ t.toInt ≤ 10 ∧ 0 ≤ u.toInt ∧ u.toInt ≤ 10 ∧ 0 ≤ k.toInt ∧ k.toInt ≤ n.toInt
  · by_cases cw : 0 ≤ w.toInt ∧ w.toInt ≤ 2
    · by_cases cq : 0 ≤ q.toInt ∧ q.toInt ≤ 1
      · have hz : ∀ x : Int32, x = zI x.toInt := fun x => (Int32.ofInt_toInt x).symm
        rw [hz n, hz t, hz u, hz k, hz w, hz q]
        obtain ⟨τ', e⟩ := m_row_in σ κ c.1 c.2.1 c.2.2.1 c.2.2.2.1 c.2.2.2.2.1 c.2.2.2.2.2.1 c.2.2.2.2.2.2.1 c.2.2.2.2.2.2.2 cw.1 cw.2 cq.1 cq.2
        exact ⟨_, e, trivial⟩
      · unfold f_X7_row
        rw [v_isRow, s_cl, zl_0, zl_1, zl_2, v_in w (by omega) (by omega) (by omega) (by omega), v_in q (by omega) (by omega) (by omega) (by omega), s_cl, s_cl, if_neg cq]
        exact ok_if (fun _ => ok_r trivial) (fun _ => ok_if (fun _ => ok_r trivial) (fun _ => ok_if (fun _ => ok_r trivial) (fun c => absurd rfl c)))
    · unfold f_X7_row
      rw [v_isRow, s_cl, zl_0, zl_2, v_in w (by omega) (by omega) (by omega) (by omega), s_cl, if_neg cw]
      exact ok_if (fun _ => ok_r trivial) (fun _ => ok_if (fun _ => ok_r trivial) (fun c => absurd rfl c))
  · unfold f_X7_row
    rw [v_isRow, s_cl, if_neg c]
    exact ok_if (fun _ => ok_r trivial) (fun c => absurd rfl c)
end ENDS
end
section
/-! images -/
theorem ud_self (d : Nat → Int → Int) (k : Nat) (i : Int) : ud d k i (d k i) = d := by
  funext a b
  unfold ud
  split
  · next z => obtain ⟨rfl, rfl⟩ := z; rfl
  · rfl
theorem ud_ud (d : Nat → Int → Int) (k : Nat) (i u v : Int) : ud (ud d k i u) k i v = ud d k i v := by
  funext a b
  unfold ud
  split <;> rfl
/-- a new Close -/
def dz : Nat → Int → Int := fun k i => if k = 99 then (if i = 8 then 10 else 0) else if k = 1 then 5 else if k = 3 then -6 else if k = 4 then i else 0
theorem dz_ok : okd dz := by
  intro k i
  unfold dz lod hid
  by_cases h99 : k = 99
  · subst h99
    simp only [if_pos, if_neg, show ¬ (99 = 0) by decide, show ¬ (99 = 1) by decide, show ¬ (99 = 2) by decide, show ¬ (99 = 3) by decide, show ¬ (99 = 4) by decide, show ¬ (99 = 5) by decide, show ¬ (99 = 6) by decide, if_false, if_true]
    split
    · next e => subst e; simp only [show ¬ ((8 : Int) = 7) by decide, if_false, if_true]; omega
    · split
      · omega
      · split
        · omega
        · split <;> omega
  · by_cases h1 : k = 1
    · subst h1; simp only [if_true, show ¬ (1 = 99) by decide, show ¬ (1 = 0) by decide, show ¬ (1 = 3) by decide, show ¬ (1 = 4) by decide, if_false]; omega
    · by_cases h3 : k = 3
      · subst h3; simp only [if_true, show ¬ (3 = 99) by decide, show ¬ (3 = 0) by decide, show ¬ (3 = 1) by decide, show ¬ (3 = 2) by decide, show ¬ (3 = 4) by decide, if_false]; omega
      · by_cases h4 : k = 4
        · subst h4; simp only [if_true, show ¬ (4 = 99) by decide, show ¬ (4 = 0) by decide, show ¬ (4 = 1) by decide, show ¬ (4 = 2) by decide, show ¬ (4 = 3) by decide, if_false]
          split <;> split <;> omega
        · simp only [h99, h1, h3, h4, if_false]
          by_cases h0 : k = 0
          · simp only [h0, if_true]; omega
          · by_cases h2 : k = 2
            · subst h2; simp only [if_true, h0, if_false]; omega
            · by_cases h5 : k = 5
              · subst h5; simp only [if_true, h0, h2, if_false]; omega
              · by_cases h6 : k = 6
                · subst h6; simp only [if_true, h0, h2, h5, if_false]; omega
                · simp only [h0, h2, h5, h6, if_false]; omega
theorem qC0_dz : qC0 = eC dz := by
  funext k j
  unfold qC0 eC dz
  by_cases h99 : k = 99
  · subst h99
    show (if j = 8 then (10 : Int32) else 0) = zI (if 99 = 99 then (if (j : Int) = 8 then 10 else 0) else _)
    rw [if_pos rfl]
    by_cases h : j = 8
    · rw [if_pos h, if_pos (by omega)]; decide
    · rw [if_neg h, if_neg (by omega)]; decide
  · have e : ∀ n, k ≠ n → Nat.beq k n = false := fun n h => by
      cases z : Nat.beq k n with
      | false => rfl
      | true => exact absurd (Nat.eq_of_beq_eq_true z) h
    rw [e 99 h99, cond_false, if_neg h99]
    by_cases h1 : k = 1
    · subst h1; rw [if_pos rfl]; exact z_5
    · rw [e 1 h1, cond_false, if_neg h1]
      by_cases h3 : k = 3
      · subst h3; rw [if_pos rfl]; show (-6 : Int32) = zI (-6); decide
      · rw [e 3 h3, cond_false, if_neg h3]
        by_cases h4 : k = 4
        · subst h4; rw [if_pos rfl]; exact z_n j
        · rw [e 4 h4, cond_false, if_neg h4]; exact z_0
/-- where an image lies -/
def imgR (m : Nat → Int → Int) (c : Int) (d : Nat → Int → Int) : Prop := m 30 (c + 0) = d 99 8 ∧ m 30 (c + 1) = d 99 9 ∧ m 30 (c + 2) = d 99 10 ∧ m 30 (c + 3) = d 99 11 ∧ m 30 (c + 4) = d 99 7 ∧ (∀ j, 0 ≤ j → j < 121 → m 30 (c + 5 + j) = d 0 j) ∧ (∀ j, 0 ≤ j → j < 10 → m 30 (c + 126 + j) = d 1 j) ∧ (∀ j, 0 ≤ j → j < 10 → m 30 (c + 136 + j) = d 2 j) ∧ (∀ j, 0 ≤ j → j < 10 → m 30 (c + 146 + j) = d 3 j) ∧ (∀ j, 0 ≤ j → j < 10 → m 30 (c + 156 + j) = d 4 j) ∧ (∀ j, 0 ≤ j → j < 8 → m 30 (c + 166 + j) = d 5 j) ∧ (∀ j, 0 ≤ j → j < 8 → m 30 (c + 174 + j) = d 6 j)
def fW (m m' : Nat → Int → Int) (c e : Int) : Prop := m' 99 32 = e ∧ ∀ a b, (a = 30 ∧ c ≤ b ∧ b < e) ∨ (a = 99 ∧ b = 32) ∨ m' a b = m a b
theorem fW_tr {m m' m'' : Nat → Int → Int} {c e f : Int} (h : fW m m' c e) (h' : fW m' m'' e f) (h1 : c ≤ e) (h2 : e ≤ f) : fW m m'' c f := by
  refine ⟨h'.1, fun a b => ?_⟩
  rcases h'.2 a b with z | z | z
  · exact Or.inl (by omega)
  · exact Or.inr (Or.inl z)
  · rcases h.2 a b with y | y | y
    · exact Or.inl (by omega)
    · exact Or.inr (Or.inl y)
    · exact Or.inr (Or.inr (z.trans y))
theorem fW_at {m m' : Nat → Int → Int} {c e b : Int} (h : fW m m' c e) (hb : b < c) : m' 30 b = m 30 b := by
  rcases h.2 30 b with z | z | z
  · omega
  · omega
  · exact z
theorem fW_33 {m m' : Nat → Int → Int} {c e : Int} (h : fW m m' c e) : m' 99 33 = m 99 33 := by
  rcases h.2 99 33 with z | z | z
  · omega
  · omega
  · exact z
theorem m_passW (m d : Nat → Int → Int) (τ : qL) {v : Int} (h : m 99 33 = 1) (h0 : 0 ≤ m 99 32) (h1 : m 99 32 < 400) : f_X7_pass (eC (pw m d)) τ (zI v) = some (zI v, eC (pw (ud (ud m 30 (m 99 32) v) 99 32 (m 99 32 + 1)) d)) := by
  unfold f_X7_pass
  simp (disch := omega) only [h, pw_0, up_0, pw_1, up_1, pw_2, up_2, pw_3, up_3, pw_4, up_4, pw_9, up_9, pw_10, up_10, pwi_5, upi_5, pwi_6, upi_6, pwi_7, upi_7, pwi_8, upi_8, pwi_11, upi_11, pw_12, up_12, pw_14, up_14, pw_15, up_15, pw_16, up_16, pw_18, up_18, pw_24, up_24, pw_25, up_25, pw_26, up_26, pw_29, up_29, pw_30, up_30, pw_31, up_31, pwi_13, upi_13, pwi_17, upi_17, pwi_19, upi_19, pwi_20, upi_20, pwi_21, upi_21, pwi_22, upi_22, pwi_23, upi_23, pwi_32, upi_32, pwi_33, upi_33, eC_5, eC_6, eC_13, eC_17, eC_19, eC_20, eC_21, eC_22, eC_23, eC_32, eC_33, eC_p5, eC_p6, eC_p13, eC_p17, eC_p19, eC_p20, eC_p21, eC_p22, eC_p23, eC_p32, eC_p33, s_T, s_F, s_bd, s_cl, s_rd, s_wr, s_ite, z_ite, z_neg, z_add, z_sub, z_mul, z_le, z_lt, z_eq, eC_at, eC_7, eC_8, eC_9, eC_10, eC_11, eC_p7, eC_p8, eC_p9, eC_p10, eC_p11, eC_up, ud_same, ud_ne, if_pos, if_neg, z_0, z_1, z_2, z_3, z_4, z_5, z_6, z_7, z_8, z_9, z_10, z_11, z_12, z_13, z_14, z_15, z_16, z_17, z_18, z_19, z_20, z_21, z_22, z_23, z_24, z_25, z_26, z_27, z_28, z_29, z_30, z_31, z_32, z_33, z_34, z_35, z_36, z_37, z_38, z_39, z_40, z_41, z_42, z_43, z_44, z_45, z_46, z_47, z_48, z_49, z_50, z_51, z_52, z_53, z_54, z_55, z_56, z_57, z_58, z_59, z_60, z_61, z_62, z_63, z_64, z_65, z_66, z_67, z_68, z_69, z_70, z_71, z_72, z_73, z_74, z_75, z_76, z_77, z_78, z_79, z_80, z_81, z_82, z_83, z_84, z_85, z_86, z_87, z_88, z_89, z_90, z_91, z_92, z_93, z_94, z_95, z_96, z_97, z_98, z_99, z_100, z_101, z_102, z_103, z_104, z_105, z_106, z_107, z_108, z_109, z_110, z_111, z_112, z_113, z_114, z_115, z_116, z_117, z_118, z_119, z_120, z_121, z_122, z_123, z_124, z_125, z_126, z_127, z_199, z_200, z_360, z_410, z_1000, z_1023, z_1024, z_1219, z_9999, z_10240, z_65537]
theorem m_passR (m d : Nat → Int → Int) (τ : qL) (v : Int32) (h : m 99 33 = 0) (h0 : 0 ≤ m 99 32) (h1 : m 99 32 < 400) : f_X7_pass (eC (pw m d)) τ v = some (zI (m 30 (m 99 32)), eC (pw (ud m 99 32 (m 99 32 + 1)) d)) := by
  unfold f_X7_pass
  simp (disch := omega) only [h, ud_self, pw_0, up_0, pw_1, up_1, pw_2, up_2, pw_3, up_3, pw_4, up_4, pw_9, up_9, pw_10, up_10, pwi_5, upi_5, pwi_6, upi_6, pwi_7, upi_7, pwi_8, upi_8, pwi_11, upi_11, pw_12, up_12, pw_14, up_14, pw_15, up_15, pw_16, up_16, pw_18, up_18, pw_24, up_24, pw_25, up_25, pw_26, up_26, pw_29, up_29, pw_30, up_30, pw_31, up_31, pwi_13, upi_13, pwi_17, upi_17, pwi_19, upi_19, pwi_20, upi_20, pwi_21, upi_21, pwi_22, upi_22, pwi_23, upi_23, pwi_32, upi_32, pwi_33, upi_33, eC_5, eC_6, eC_13, eC_17, eC_19, eC_20, eC_21, eC_22, eC_23, eC_32, eC_33, eC_p5, eC_p6, eC_p13, eC_p17, eC_p19, eC_p20, eC_p21, eC_p22, eC_p23, eC_p32, eC_p33, s_T, s_F, s_bd, s_cl, s_rd, s_wr, s_ite, z_ite, z_neg, z_add, z_sub, z_mul, z_le, z_lt, z_eq, eC_at, eC_7, eC_8, eC_9, eC_10, eC_11, eC_p7, eC_p8, eC_p9, eC_p10, eC_p11, eC_up, ud_same, ud_ne, if_pos, if_neg, z_0, z_1, z_2, z_3, z_4, z_5, z_6, z_7, z_8, z_9, z_10, z_11, z_12, z_13, z_14, z_15, z_16, z_17, z_18, z_19, z_20, z_21, z_22, z_23, z_24, z_25, z_26, z_27, z_28, z_29, z_30, z_31, z_32, z_33, z_34, z_35, z_36, z_37, z_38, z_39, z_40, z_41, z_42, z_43, z_44, z_45, z_46, z_47, z_48, z_49, z_50, z_51, z_52, z_53, z_54, z_55, z_56, z_57, z_58, z_59, z_60, z_61, z_62, z_63, z_64, z_65, z_66, z_67, z_68, z_69, z_70, z_71, z_72, z_73, z_74, z_75, z_76, z_77, z_78, z_79, z_80, z_81, z_82, z_83, z_84, z_85, z_86, z_87, z_88, z_89, z_90, z_91, z_92, z_93, z_94, z_95, z_96, z_97, z_98, z_99, z_100, z_101, z_102, z_103, z_104, z_105, z_106, z_107, z_108, z_109, z_110, z_111, z_112, z_113, z_114, z_115, z_116, z_117, z_118, z_119, z_120, z_121, z_122, z_123, z_124, z_125, z_126, z_127, z_199, z_200, z_360, z_410, z_1000, z_1023, z_1024, z_1219, z_9999, z_10240, z_65537]
theorem fW_1 (m : Nat → Int → Int) {c : Int} (v : Int) (hc : m 99 32 = c) : fW m (ud (ud m 30 c v) 99 32 (c + 1)) c (c + 1) := by
  refine ⟨ud_same _ _ _ _, fun a b => ?_⟩
  by_cases e : a = 99 ∧ b = 32
  · exact Or.inr (Or.inl e)
  · by_cases e2 : a = 30 ∧ b = c
    · exact Or.inl (by omega)
    · exact Or.inr (Or.inr (by rw [ud_ne _ _ (by omega), ud_ne _ _ (by omega)]))

theorem mw_0 (d : Nat → Int → Int) (τ : qL) : ∀ (N : Nat) (i : Int) (m : Nat → Int → Int), 0 ≤ i → i ≤ 121 → (121 - i).toNat < N → m 99 33 = 1 → 0 ≤ m 99 32 → m 99 32 + (121 - i) ≤ 400 →
    ∃ m', q_lp (b_X7_passRow_0_2 τ (121 : Int32)) (fun z1 => some z1.2) N (zI i, eC (pw m d)) = some (eC (pw m' d)) ∧ fW m m' (m 99 32) (m 99 32 + (121 - i)) ∧ (∀ j, i ≤ j → j < 121 → m' 30 (m 99 32 + (j - i)) = d 0 j) := by
  intro N
  induction N with
  | zero => intro i m _ _ h; omega
  | succ N ih =>
    intro i m h0 h1 hN h33 c0 c1
    rw [lp_s]
    unfold b_X7_passRow_0_2
    by_cases c : i < 121
    · have hp := m_passW m d τ (v := d 0 i) h33 c0 (by omega)
      obtain ⟨m', e1, e2, e3⟩ := ih (i + 1) (ud (ud m 30 (m 99 32) (d 0 i)) 99 32 (m 99 32 + 1)) (by omega) (by omega) (by omega) (by rw [ud_ne _ _ (by omega), ud_ne _ _ (by omega)]; exact h33) (by rw [ud_same]; omega) (by rw [ud_same]; omega)
      rw [ud_same] at e2 e3
      have h1' := fW_1 m (d 0 i) rfl
      refine ⟨m', ?_, ?_, fun j j0 j1 => ?_⟩
      · simp (disch := omega) only [hp, ud_self, pw_0, up_0, pw_1, up_1, pw_2, up_2, pw_3, up_3, pw_4, up_4, pw_9, up_9, pw_10, up_10, pwi_5, upi_5, pwi_6, upi_6, pwi_7, upi_7, pwi_8, upi_8, pwi_11, upi_11, pw_12, up_12, pw_14, up_14, pw_15, up_15, pw_16, up_16, pw_18, up_18, pw_24, up_24, pw_25, up_25, pw_26, up_26, pw_29, up_29, pw_30, up_30, pw_31, up_31, pwi_13, upi_13, pwi_17, upi_17, pwi_19, upi_19, pwi_20, upi_20, pwi_21, upi_21, pwi_22, upi_22, pwi_23, upi_23, pwi_32, upi_32, pwi_33, upi_33, eC_5, eC_6, eC_13, eC_17, eC_19, eC_20, eC_21, eC_22, eC_23, eC_32, eC_33, eC_p5, eC_p6, eC_p13, eC_p17, eC_p19, eC_p20, eC_p21, eC_p22, eC_p23, eC_p32, eC_p33, s_T, s_F, s_bd, s_cl, s_rd, s_wr, s_ite, z_ite, z_neg, z_add, z_sub, z_mul, z_le, z_lt, z_eq, eC_at, eC_7, eC_8, eC_9, eC_10, eC_11, eC_p7, eC_p8, eC_p9, eC_p10, eC_p11, eC_up, ud_same, ud_ne, if_pos, if_neg, z_0, z_1, z_2, z_3, z_4, z_5, z_6, z_7, z_8, z_9, z_10, z_11, z_12, z_13, z_14, z_15, z_16, z_17, z_18, z_19, z_20, z_21, z_22, z_23, z_24, z_25, z_26, z_27, z_28, z_29, z_30, z_31, z_32, z_33, z_34, z_35, z_36, z_37, z_38, z_39, z_40, z_41, z_42, z_43, z_44, z_45, z_46, z_47, z_48, z_49, z_50, z_51, z_52, z_53, z_54, z_55, z_56, z_57, z_58, z_59, z_60, z_61, z_62, z_63, z_64, z_65, z_66, z_67, z_68, z_69, z_70, z_71, z_72, z_73, z_74, z_75, z_76, z_77, z_78, z_79, z_80, z_81, z_82, z_83, z_84, z_85, z_86, z_87, z_88, z_89, z_90, z_91, z_92, z_93, z_94, z_95, z_96, z_97, z_98, z_99, z_100, z_101, z_102, z_103, z_104, z_105, z_106, z_107, z_108, z_109, z_110, z_111, z_112, z_113, z_114, z_115, z_116, z_117, z_118, z_119, z_120, z_121, z_122, z_123, z_124, z_125, z_126, z_127, z_199, z_200, z_360, z_410, z_1000, z_1023, z_1024, z_1219, z_9999, z_10240, z_65537]
        exact e1
      · have := fW_tr h1' e2 (by omega) (by omega)
        rw [show m 99 32 + 1 + (121 - (i + 1)) = m 99 32 + (121 - i) by omega] at this
        exact this
      · by_cases e : j = i
        · subst e
          rw [show m 99 32 + (j - j) = m 99 32 by omega, fW_at e2 (by omega), ud_ne _ _ (by omega), ud_same]
        · have := e3 j (by omega) j1
          rw [show m 99 32 + 1 + (j - (i + 1)) = m 99 32 + (j - i) by omega] at this
          exact this
    · refine ⟨m, ?_, ⟨by omega, fun a b => Or.inr (Or.inr rfl)⟩, fun j j0 j1 => by omega⟩
      simp (disch := omega) only [pw_0, up_0, pw_1, up_1, pw_2, up_2, pw_3, up_3, pw_4, up_4, pw_9, up_9, pw_10, up_10, pwi_5, upi_5, pwi_6, upi_6, pwi_7, upi_7, pwi_8, upi_8, pwi_11, upi_11, pw_12, up_12, pw_14, up_14, pw_15, up_15, pw_16, up_16, pw_18, up_18, pw_24, up_24, pw_25, up_25, pw_26, up_26, pw_29, up_29, pw_30, up_30, pw_31, up_31, pwi_13, upi_13, pwi_17, upi_17, pwi_19, upi_19, pwi_20, upi_20, pwi_21, upi_21, pwi_22, upi_22, pwi_23, upi_23, pwi_32, upi_32, pwi_33, upi_33, eC_5, eC_6, eC_13, eC_17, eC_19, eC_20, eC_21, eC_22, eC_23, eC_32, eC_33, eC_p5, eC_p6, eC_p13, eC_p17, eC_p19, eC_p20, eC_p21, eC_p22, eC_p23, eC_p32, eC_p33, s_T, s_F, s_bd, s_cl, s_rd, s_wr, s_ite, z_ite, z_neg, z_add, z_sub, z_mul, z_le, z_lt, z_eq, eC_at, eC_7, eC_8, eC_9, eC_10, eC_11, eC_p7, eC_p8, eC_p9, eC_p10, eC_p11, eC_up, ud_same, ud_ne, if_pos, if_neg, z_0, z_1, z_2, z_3, z_4, z_5, z_6, z_7, z_8, z_9, z_10, z_11, z_12, z_13, z_14, z_15, z_16, z_17, z_18, z_19, z_20, z_21, z_22, z_23, z_24, z_25, z_26, z_27, z_28, z_29, z_30, z_31, z_32, z_33, z_34, z_35, z_36, z_37, z_38, z_39, z_40, z_41, z_42, z_43, z_44, z_45, z_46, z_47, z_48, z_49, z_50, z_51, z_52, z_53, z_54, z_55, z_56, z_57, z_58, z_59, z_60, z_61, z_62, z_63, z_64, z_65, z_66, z_67, z_68, z_69, z_70, z_71, z_72, z_73, z_74, z_75, z_76, z_77, z_78, z_79, z_80, z_81, z_82, z_83, z_84, z_85, z_86, z_87, z_88, z_89, z_90, z_91, z_92, z_93, z_94, z_95, z_96, z_97, z_98, z_99, z_100, z_101, z_102, z_103, z_104, z_105, z_106, z_107, z_108, z_109, z_110, z_111, z_112, z_113, z_114, z_115, z_116, z_117, z_118, z_119, z_120, z_121, z_122, z_123, z_124, z_125, z_126, z_127, z_199, z_200, z_360, z_410, z_1000, z_1023, z_1024, z_1219, z_9999, z_10240, z_65537]
theorem mr_0 (τ : qL) : ∀ (N : Nat) (i : Int) (m d : Nat → Int → Int), 0 ≤ i → i ≤ 121 → (121 - i).toNat < N → m 99 33 = 0 → 0 ≤ m 99 32 → m 99 32 + (121 - i) ≤ 400 →
    ∃ d', q_lp (b_X7_passRow_0_2 τ (121 : Int32)) (fun z1 => some z1.2) N (zI i, eC (pw m d)) = some (eC (pw (ud m 99 32 (m 99 32 + (121 - i))) d')) ∧ (∀ a b, (a = 0 ∧ i ≤ b ∧ b < 121) ∨ d' a b = d a b) ∧ (∀ j, i ≤ j → j < 121 → d' 0 j = m 30 (m 99 32 + (j - i))) := by
  intro N
  induction N with
  | zero => intro i m d _ _ h; omega
  | succ N ih =>
    intro i m d h0 h1 hN h33 c0 c1
    rw [lp_s]
    unfold b_X7_passRow_0_2
    by_cases c : i < 121
    · have hp := m_passR m d τ (zI (d 0 i)) h33 c0 (by omega)
      obtain ⟨d', e1, e2, e3⟩ := ih (i + 1) (ud m 99 32 (m 99 32 + 1)) (ud d 0 i (m 30 (m 99 32))) (by omega) (by omega) (by omega) (by rw [ud_ne _ _ (by omega)]; exact h33) (by rw [ud_same]; omega) (by rw [ud_same]; omega)
      rw [ud_same, ud_ud, show m 99 32 + 1 + (121 - (i + 1)) = m 99 32 + (121 - i) by omega] at e1
      refine ⟨d', ?_, fun a b => ?_, fun j j0 j1 => ?_⟩
      · simp (disch := omega) only [hp, pw_0, up_0, pw_1, up_1, pw_2, up_2, pw_3, up_3, pw_4, up_4, pw_9, up_9, pw_10, up_10, pwi_5, upi_5, pwi_6, upi_6, pwi_7, upi_7, pwi_8, upi_8, pwi_11, upi_11, pw_12, up_12, pw_14, up_14, pw_15, up_15, pw_16, up_16, pw_18, up_18, pw_24, up_24, pw_25, up_25, pw_26, up_26, pw_29, up_29, pw_30, up_30, pw_31, up_31, pwi_13, upi_13, pwi_17, upi_17, pwi_19, upi_19, pwi_20, upi_20, pwi_21, upi_21, pwi_22, upi_22, pwi_23, upi_23, pwi_32, upi_32, pwi_33, upi_33, eC_5, eC_6, eC_13, eC_17, eC_19, eC_20, eC_21, eC_22, eC_23, eC_32, eC_33, eC_p5, eC_p6, eC_p13, eC_p17, eC_p19, eC_p20, eC_p21, eC_p22, eC_p23, eC_p32, eC_p33, s_T, s_F, s_bd, s_cl, s_rd, s_wr, s_ite, z_ite, z_neg, z_add, z_sub, z_mul, z_le, z_lt, z_eq, eC_at, eC_7, eC_8, eC_9, eC_10, eC_11, eC_p7, eC_p8, eC_p9, eC_p10, eC_p11, eC_up, ud_same, ud_ne, if_pos, if_neg, z_0, z_1, z_2, z_3, z_4, z_5, z_6, z_7, z_8, z_9, z_10, z_11, z_12, z_13, z_14, z_15, z_16, z_17, z_18, z_19, z_20, z_21, z_22, z_23, z_24, z_25, z_26, z_27, z_28, z_29, z_30, z_31, z_32, z_33, z_34, z_35, z_36, z_37, z_38, z_39, z_40, z_41, z_42, z_43, z_44, z_45, z_46, z_47, z_48, z_49, z_50, z_51, z_52, z_53, z_54, z_55, z_56, z_57, z_58, z_59, z_60, z_61, z_62, z_63, z_64, z_65, z_66, z_67, z_68, z_69, z_70, z_71, z_72, z_73, z_74, z_75, z_76, z_77, z_78, z_79, z_80, z_81, z_82, z_83, z_84, z_85, z_86, z_87, z_88, z_89, z_90, z_91, z_92, z_93, z_94, z_95, z_96, z_97, z_98, z_99, z_100, z_101, z_102, z_103, z_104, z_105, z_106, z_107, z_108, z_109, z_110, z_111, z_112, z_113, z_114, z_115, z_116, z_117, z_118, z_119, z_120, z_121, z_122, z_123, z_124, z_125, z_126, z_127, z_199, z_200, z_360, z_410, z_1000, z_1023, z_1024, z_1219, z_9999, z_10240, z_65537]
        exact e1
      · rcases e2 a b with z | z
        · exact Or.inl (by omega)
        · by_cases e : a = 0 ∧ b = i
          · exact Or.inl (by omega)
          · exact Or.inr (by rw [z, ud_ne _ _ (by omega)])
      · by_cases e : j = i
        · subst e
          rcases e2 0 j with z | z
          · omega
          · rw [z, ud_same, show m 99 32 + (j - j) = m 99 32 by omega]
        · have := e3 j (by omega) j1
          rw [ud_same, ud_ne _ _ (by omega), show m 99 32 + 1 + (j - (i + 1)) = m 99 32 + (j - i) by omega] at this
          exact this
    · refine ⟨d, ?_, fun a b => Or.inr rfl, fun j j0 j1 => by omega⟩
      rw [show m 99 32 + (121 - i) = m 99 32 by omega, ud_self]
      simp (disch := omega) only [pw_0, up_0, pw_1, up_1, pw_2, up_2, pw_3, up_3, pw_4, up_4, pw_9, up_9, pw_10, up_10, pwi_5, upi_5, pwi_6, upi_6, pwi_7, upi_7, pwi_8, upi_8, pwi_11, upi_11, pw_12, up_12, pw_14, up_14, pw_15, up_15, pw_16, up_16, pw_18, up_18, pw_24, up_24, pw_25, up_25, pw_26, up_26, pw_29, up_29, pw_30, up_30, pw_31, up_31, pwi_13, upi_13, pwi_17, upi_17, pwi_19, upi_19, pwi_20, upi_20, pwi_21, upi_21, pwi_22, upi_22, pwi_23, upi_23, pwi_32, upi_32, pwi_33, upi_33, eC_5, eC_6, eC_13, eC_17, eC_19, eC_20, eC_21, eC_22, eC_23, eC_32, eC_33, eC_p5, eC_p6, eC_p13, eC_p17, eC_p19, eC_p20, eC_p21, eC_p22, eC_p23, eC_p32, eC_p33, s_T, s_F, s_bd, s_cl, s_rd, s_wr, s_ite, z_ite, z_neg, z_add, z_sub, z_mul, z_le, z_lt, z_eq, eC_at, eC_7, eC_8, eC_9, eC_10, eC_11, eC_p7, eC_p8, eC_p9, eC_p10, eC_p11, eC_up, ud_same, ud_ne, if_pos, if_neg, z_0, z_1, z_2, z_3, z_4, z_5, z_6, z_7, z_8, z_9, z_10, z_11, z_12, z_13, z_14, z_15, z_16, z_17, z_18, z_19, z_20, z_21, z_22, z_23, z_24, z_25, z_26, z_27, z_28, z_29, z_30, z_31, z_32, z_33, z_34, z_35, z_36, z_37, z_38, z_39, z_40, z_41, z_42, z_43, z_44, z_45, z_46, z_47, z_48, z_49, z_50, z_51, z_52, z_53, z_54, z_55, z_56, z_57, z_58, z_59, z_60, z_61, z_62, z_63, z_64, z_65, z_66, z_67, z_68, z_69, z_70, z_71, z_72, z_73, z_74, z_75, z_76, z_77, z_78, z_79, z_80, z_81, z_82, z_83, z_84, z_85, z_86, z_87, z_88, z_89, z_90, z_91, z_92, z_93, z_94, z_95, z_96, z_97, z_98, z_99, z_100, z_101, z_102, z_103, z_104, z_105, z_106, z_107, z_108, z_109, z_110, z_111, z_112, z_113, z_114, z_115, z_116, z_117, z_118, z_119, z_120, z_121, z_122, z_123, z_124, z_125, z_126, z_127, z_199, z_200, z_360, z_410, z_1000, z_1023, z_1024, z_1219, z_9999, z_10240, z_65537]
theorem mwr_0 (d m : Nat → Int → Int) (τ : qL) {c : Int} (hc : m 99 32 = c) (c0 : 0 ≤ c) (c1 : c + 121 ≤ 400) (h33 : m 99 33 = 1) : ∃ m', f_X7_passRow_0 (eC (pw m d)) τ (121 : Int32) = some (eC (pw m' d)) ∧ fW m m' c (c + 121) ∧ (∀ j, 0 ≤ j → j < 121 → m' 30 (c + j) = d 0 j) := by
  subst hc
  obtain ⟨m', e1, e2, e3⟩ := mw_0 d τ 20000 0 m (by omega) (by omega) (by omega) h33 c0 (by omega)
  refine ⟨m', e1, by rw [show m 99 32 + ((121 : Int) - 0) = m 99 32 + 121 by omega] at e2; exact e2, fun j j0 j1 => ?_⟩
  have := e3 j j0 j1
  rwa [show m 99 32 + (j - 0) = m 99 32 + j by omega] at this
theorem mrr_0 (m d : Nat → Int → Int) (τ : qL) {c : Int} (hc : m 99 32 = c) (c0 : 0 ≤ c) (c1 : c + 121 ≤ 400) (h33 : m 99 33 = 0) : ∃ d', f_X7_passRow_0 (eC (pw m d)) τ (121 : Int32) = some (eC (pw (ud m 99 32 (c + 121)) d')) ∧ (∀ a b, (a = 0 ∧ 0 ≤ b ∧ b < 121) ∨ d' a b = d a b) ∧ (∀ j, 0 ≤ j → j < 121 → d' 0 j = m 30 (c + j)) := by
  subst hc
  obtain ⟨d', e1, e2, e3⟩ := mr_0 τ 20000 0 m d (by omega) (by omega) (by omega) h33 c0 (by omega)
  refine ⟨d', by rw [show m 99 32 + ((121 : Int) - 0) = m 99 32 + 121 by omega] at e1; exact e1, e2, fun j j0 j1 => ?_⟩
  have := e3 j j0 j1
  rwa [show m 99 32 + (j - 0) = m 99 32 + j by omega] at this
theorem mw_1 (d : Nat → Int → Int) (τ : qL) : ∀ (N : Nat) (i : Int) (m : Nat → Int → Int), 0 ≤ i → i ≤ 10 → (10 - i).toNat < N → m 99 33 = 1 → 0 ≤ m 99 32 → m 99 32 + (10 - i) ≤ 400 →
    ∃ m', q_lp (b_X7_passRow_1_2 τ (10 : Int32)) (fun z1 => some z1.2) N (zI i, eC (pw m d)) = some (eC (pw m' d)) ∧ fW m m' (m 99 32) (m 99 32 + (10 - i)) ∧ (∀ j, i ≤ j → j < 10 → m' 30 (m 99 32 + (j - i)) = d 1 j) := by
  intro N
  induction N with
  | zero => intro i m _ _ h; omega
  | succ N ih =>
    intro i m h0 h1 hN h33 c0 c1
    rw [lp_s]
    unfold b_X7_passRow_1_2
    by_cases c : i < 10
    · have hp := m_passW m d τ (v := d 1 i) h33 c0 (by omega)
      obtain ⟨m', e1, e2, e3⟩ := ih (i + 1) (ud (ud m 30 (m 99 32) (d 1 i)) 99 32 (m 99 32 + 1)) (by omega) (by omega) (by omega) (by rw [ud_ne _ _ (by omega), ud_ne _ _ (by omega)]; exact h33) (by rw [ud_same]; omega) (by rw [ud_same]; omega)
      rw [ud_same] at e2 e3
      have h1' := fW_1 m (d 1 i) rfl
      refine ⟨m', ?_, ?_, fun j j0 j1 => ?_⟩
      · simp (disch := omega) only [hp, ud_self, pw_0, up_0, pw_1, up_1, pw_2, up_2, pw_3, up_3, pw_4, up_4, pw_9, up_9, pw_10, up_10, pwi_5, upi_5, pwi_6, upi_6, pwi_7, upi_7, pwi_8, upi_8, pwi_11, upi_11, pw_12, up_12, pw_14, up_14, pw_15, up_15, pw_16, up_16, pw_18, up_18, pw_24, up_24, pw_25, up_25, pw_26, up_26, pw_29, up_29, pw_30, up_30, pw_31, up_31, pwi_13, upi_13, pwi_17, upi_17, pwi_19, upi_19, pwi_20, upi_20, pwi_21, upi_21, pwi_22, upi_22, pwi_23, upi_23, pwi_32, upi_32, pwi_33, upi_33, eC_5, eC_6, eC_13, eC_17, eC_19, eC_20, eC_21, eC_22, eC_23, eC_32, eC_33, eC_p5, eC_p6, eC_p13, eC_p17, eC_p19, eC_p20, eC_p21, eC_p22, eC_p23, eC_p32, eC_p33, s_T, s_F, s_bd, s_cl, s_rd, s_wr, s_ite, z_ite, z_neg, z_add, z_sub, z_mul, z_le, z_lt, z_eq, eC_at, eC_7, eC_8, eC_9, eC_10, eC_11, eC_p7, eC_p8, eC_p9, eC_p10, eC_p11, eC_up, ud_same, ud_ne, if_pos, if_neg, z_0, z_1, z_2, z_3, z_4, z_5, z_6, z_7, z_8, z_9, z_10, z_11, z_12, z_13, z_14, z_15, z_16, z_17, z_18, z_19, z_20, z_21, z_22, z_23, z_24, z_25, z_26, z_27, z_28, z_29, z_30, z_31, z_32, z_33, z_34, z_35, z_36, z_37, z_38, z_39, z_40, z_41, z_42, z_43, z_44, z_45, z_46, z_47, z_48, z_49, z_50, z_51, z_52, z_53, z_54, z_55, z_56, z_57, z_58, z_59, z_60, z_61, z_62, z_63, z_64, z_65, z_66, z_67, z_68, z_69, z_70, z_71, z_72, z_73, z_74, z_75, z_76, z_77, z_78, z_79, z_80, z_81, z_82, z_83, z_84, z_85, z_86, z_87, z_88, z_89, z_90, z_91, z_92, z_93, z_94, z_95, z_96, z_97, z_98, z_99, z_100, z_101, z_102, z_103, z_104, z_105, z_106, z_107, z_108, z_109, z_110, z_111, z_112, z_113, z_114, z_115, z_116, z_117, z_118, z_119, z_120, z_121, z_122, z_123, z_124, z_125, z_126, z_127, z_199, z_200, z_360, z_410, z_1000, z_1023, z_1024, z_1219, z_9999, z_10240, z_65537]
        exact e1
      · have := fW_tr h1' e2 (by omega) (by omega)
        rw [show m 99 32 + 1 + (10 - (i + 1)) = m 99 32 + (10 - i) by omega] at this
        exact this
      · by_cases e : j = i
        · subst e
          rw [show m 99 32 + (j - j) = m 99 32 by omega, fW_at e2 (by omega), ud_ne _ _ (by omega), ud_same]
        · have := e3 j (by omega) j1
          rw [show m 99 32 + 1 + (j - (i + 1)) = m 99 32 + (j - i) by omega] at this
          exact this
    · refine ⟨m, ?_, ⟨by omega, fun a b => Or.inr (Or.inr rfl)⟩, fun j j0 j1 => by omega⟩
      simp (disch := omega) only [pw_0, up_0, pw_1, up_1, pw_2, up_2, pw_3, up_3, pw_4, up_4, pw_9, up_9, pw_10, up_10, pwi_5, upi_5, pwi_6, upi_6, pwi_7, upi_7, pwi_8, upi_8, pwi_11, upi_11, pw_12, up_12, pw_14, up_14, pw_15, up_15, pw_16, up_16, pw_18, up_18, pw_24, up_24, pw_25, up_25, pw_26, up_26, pw_29, up_29, pw_30, up_30, pw_31, up_31, pwi_13, upi_13, pwi_17, upi_17, pwi_19, upi_19, pwi_20, upi_20, pwi_21, upi_21, pwi_22, upi_22, pwi_23, upi_23, pwi_32, upi_32, pwi_33, upi_33, eC_5, eC_6, eC_13, eC_17, eC_19, eC_20, eC_21, eC_22, eC_23, eC_32, eC_33, eC_p5, eC_p6, eC_p13, eC_p17, eC_p19, eC_p20, eC_p21, eC_p22, eC_p23, eC_p32, eC_p33, s_T, s_F, s_bd, s_cl, s_rd, s_wr, s_ite, z_ite, z_neg, z_add, z_sub, z_mul, z_le, z_lt, z_eq, eC_at, eC_7, eC_8, eC_9, eC_10, eC_11, eC_p7, eC_p8, eC_p9, eC_p10, eC_p11, eC_up, ud_same, ud_ne, if_pos, if_neg, z_0, z_1, z_2, z_3, z_4, z_5, z_6, z_7, z_8, z_9, z_10, z_11, z_12, z_13, z_14, z_15, z_16, z_17, z_18, z_19, z_20, z_21, z_22, z_23, z_24, z_25, z_26, z_27, z_28, z_29, z_30, z_31, z_32, z_33, z_34, z_35, z_36, z_37, z_38, z_39, z_40, z_41, z_42, z_43, z_44, z_45, z_46, z_47, z_48, z_49, z_50, z_51, z_52, z_53, z_54, z_55, z_56, z_57, z_58, z_59, z_60, z_61, z_62, z_63, z_64, z_65, z_66, z_67, z_68, z_69, z_70, z_71, z_72, z_73, z_74, z_75, z_76, z_77, z_78, z_79, z_80, z_81, z_82, z_83, z_84, z_85, z_86, z_87, z_88, z_89, z_90, z_91, z_92, z_93, z_94, z_95, z_96, z_97, z_98, z_99, z_100, z_101, z_102, z_103, z_104, z_105, z_106, z_107, z_108, z_109, z_110, z_111, z_112, z_113, z_114, z_115, z_116, z_117, z_118, z_119, z_120, z_121, z_122, z_123, z_124, z_125, z_126, z_127, z_199, z_200, z_360, z_410, z_1000, z_1023, z_1024, z_1219, z_9999, z_10240, z_65537]
theorem mr_1 (τ : qL) : ∀ (N : Nat) (i : Int) (m d : Nat → Int → Int), 0 ≤ i → i ≤ 10 → (10 - i).toNat < N → m 99 33 = 0 → 0 ≤ m 99 32 → m 99 32 + (10 - i) ≤ 400 →
    ∃ d', q_lp (b_X7_passRow_1_2 τ (10 : Int32)) (fun z1 => some z1.2) N (zI i, eC (pw m d)) = some (eC (pw (ud m 99 32 (m 99 32 + (10 - i))) d')) ∧ (∀ a b, (a = 1 ∧ i ≤ b ∧ b < 10) ∨ d' a b = d a b) ∧ (∀ j, i ≤ j → j < 10 → d' 1 j = m 30 (m 99 32 + (j - i))) := by
  intro N
  induction N with
  | zero => intro i m d _ _ h; omega
  | succ N ih =>
    intro i m d h0 h1 hN h33 c0 c1
    rw [lp_s]
    unfold b_X7_passRow_1_2
    by_cases c : i < 10
    · have hp := m_passR m d τ (zI (d 1 i)) h33 c0 (by omega)
      obtain ⟨d', e1, e2, e3⟩ := ih (i + 1) (ud m 99 32 (m 99 32 + 1)) (ud d 1 i (m 30 (m 99 32))) (by omega) (by omega) (by omega) (by rw [ud_ne _ _ (by omega)]; exact h33) (by rw [ud_same]; omega) (by rw [ud_same]; omega)
      rw [ud_same, ud_ud, show m 99 32 + 1 + (10 - (i + 1)) = m 99 32 + (10 - i) by omega] at e1
      refine ⟨d', ?_, fun a b => ?_, fun j j0 j1 => ?_⟩
      · simp (disch := omega) only [hp, pw_0, up_0, pw_1, up_1, pw_2, up_2, pw_3, up_3, pw_4, up_4, pw_9, up_9, pw_10, up_10, pwi_5, upi_5, pwi_6, upi_6, pwi_7, upi_7, pwi_8, upi_8, pwi_11, upi_11, pw_12, up_12, pw_14, up_14, pw_15, up_15, pw_16, up_16, pw_18, up_18, pw_24, up_24, pw_25, up_25, pw_26, up_26, pw_29, up_29, pw_30, up_30, pw_31, up_31, pwi_13, upi_13, pwi_17, upi_17, pwi_19, upi_19, pwi_20, upi_20, pwi_21, upi_21, pwi_22, upi_22, pwi_23, upi_23, pwi_32, upi_32, pwi_33, upi_33, eC_5, eC_6, eC_13, eC_17, eC_19, eC_20, eC_21, eC_22, eC_23, eC_32, eC_33, eC_p5, eC_p6, eC_p13, eC_p17, eC_p19, eC_p20, eC_p21, eC_p22, eC_p23, eC_p32, eC_p33, s_T, s_F, s_bd, s_cl, s_rd, s_wr, s_ite, z_ite, z_neg, z_add, z_sub, z_mul, z_le, z_lt, z_eq, eC_at, eC_7, eC_8, eC_9, eC_10, eC_11, eC_p7, eC_p8, eC_p9, eC_p10, eC_p11, eC_up, ud_same, ud_ne, if_pos, if_neg, z_0, z_1, z_2, z_3, z_4, z_5, z_6, z_7, z_8, z_9, z_10, z_11, z_12, z_13, z_14, z_15, z_16, z_17, z_18, z_19, z_20, z_21, z_22, z_23, z_24, z_25, z_26, z_27, z_28, z_29, z_30, z_31, z_32, z_33, z_34, z_35, z_36, z_37, z_38, z_39, z_40, z_41, z_42, z_43, z_44, z_45, z_46, z_47, z_48, z_49, z_50, z_51, z_52, z_53, z_54, z_55, z_56, z_57, z_58, z_59, z_60, z_61, z_62, z_63, z_64, z_65, z_66, z_67, z_68, z_69, z_70, z_71, z_72, z_73, z_74, z_75, z_76, z_77, z_78, z_79, z_80, z_81, z_82, z_83, z_84, z_85, z_86, z_87, z_88, z_89, z_90, z_91, z_92, z_93, z_94, z_95, z_96, z_97, z_98, z_99, z_100, z_101, z_102, z_103, z_104, z_105, z_106, z_107, z_108, z_109, z_110, z_111, z_112, z_113, z_114, z_115, z_116, z_117, z_118, z_119, z_120, z_121, z_122, z_123, z_124, z_125, z_126, z_127, z_199, z_200, z_360, z_410, z_1000, z_1023, z_1024, z_1219, z_9999, z_10240, z_65537]
        exact e1
      · rcases e2 a b with z | z
        · exact Or.inl (by omega)
        · by_cases e : a = 1 ∧ b = i
          · exact Or.inl (by omega)
          · exact Or.inr (by rw [z, ud_ne _ _ (by omega)])
      · by_cases e : j = i
        · subst e
          rcases e2 1 j with z | z
          · omega
          · rw [z, ud_same, show m 99 32 + (j - j) = m 99 32 by omega]
        · have := e3 j (by omega) j1
          rw [ud_same, ud_ne _ _ (by omega), show m 99 32 + 1 + (j - (i + 1)) = m 99 32 + (j - i) by omega] at this
          exact this
    · refine ⟨d, ?_, fun a b => Or.inr rfl, fun j j0 j1 => by omega⟩
      rw [show m 99 32 + (10 - i) = m 99 32 by omega, ud_self]
      simp (disch := omega) only [pw_0, up_0, pw_1, up_1, pw_2, up_2, pw_3, up_3, pw_4, up_4, pw_9, up_9, pw_10, up_10, pwi_5, upi_5, pwi_6, upi_6, pwi_7, upi_7, pwi_8, upi_8, pwi_11, upi_11, pw_12, up_12, pw_14, up_14, pw_15, up_15, pw_16, up_16, pw_18, up_18, pw_24, up_24, pw_25, up_25, pw_26, up_26, pw_29, up_29, pw_30, up_30, pw_31, up_31, pwi_13, upi_13, pwi_17, upi_17, pwi_19, upi_19, pwi_20, upi_20, pwi_21, upi_21, pwi_22, upi_22, pwi_23, upi_23, pwi_32, upi_32, pwi_33, upi_33, eC_5, eC_6, eC_13, eC_17, eC_19, eC_20, eC_21, eC_22, eC_23, eC_32, eC_33, eC_p5, eC_p6, eC_p13, eC_p17, eC_p19, eC_p20, eC_p21, eC_p22, eC_p23, eC_p32, eC_p33, s_T, s_F, s_bd, s_cl, s_rd, s_wr, s_ite, z_ite, z_neg, z_add, z_sub, z_mul, z_le, z_lt, z_eq, eC_at, eC_7, eC_8, eC_9, eC_10, eC_11, eC_p7, eC_p8, eC_p9, eC_p10, eC_p11, eC_up, ud_same, ud_ne, if_pos, if_neg, z_0, z_1, z_2, z_3, z_4, z_5, z_6, z_7, z_8, z_9, z_10, z_11, z_12, z_13, z_14, z_15, z_16, z_17, z_18, z_19, z_20, z_21, z_22, z_23, z_24, z_25, z_26, z_27, z_28, z_29, z_30, z_31, z_32, z_33, z_34, z_35, z_36, z_37, z_38, z_39, z_40, z_41, z_42, z_43, z_44, z_45, z_46, z_47, z_48, z_49, z_50, z_51, z_52, z_53, z_54, z_55, z_56, z_57, z_58, z_59, z_60, z_61, z_62, z_63, z_64, z_65, z_66, z_67, z_68, z_69, z_70, z_71, z_72, z_73, z_74, z_75, z_76, z_77, z_78, z_79, z_80, z_81, z_82, z_83, z_84, z_85, z_86, z_87, z_88, z_89, z_90, z_91, z_92, z_93, z_94, z_95, z_96, z_97, z_98, z_99, z_100, z_101, z_102, z_103, z_104, z_105, z_106, z_107, z_108, z_109, z_110, z_111, z_112, z_113, z_114, z_115, z_116, z_117, z_118, z_119, z_120, z_121, z_122, z_123, z_124, z_125, z_126, z_127, z_199, z_200, z_360, z_410, z_1000, z_1023, z_1024, z_1219, z_9999, z_10240, z_65537]
theorem mwr_1 (d m : Nat → Int → Int) (τ : qL) {c : Int} (hc : m 99 32 = c) (c0 : 0 ≤ c) (c1 : c + 10 ≤ 400) (h33 : m 99 33 = 1) : ∃ m', f_X7_passRow_1 (eC (pw m d)) τ (10 : Int32) = some (eC (pw m' d)) ∧ fW m m' c (c + 10) ∧ (∀ j, 0 ≤ j → j < 10 → m' 30 (c + j) = d 1 j) := by
  subst hc
  obtain ⟨m', e1, e2, e3⟩ := mw_1 d τ 20000 0 m (by omega) (by omega) (by omega) h33 c0 (by omega)
  refine ⟨m', e1, by rw [show m 99 32 + ((10 : Int) - 0) = m 99 32 + 10 by omega] at e2; exact e2, fun j j0 j1 => ?_⟩
  have := e3 j j0 j1
  rwa [show m 99 32 + (j - 0) = m 99 32 + j by omega] at this
theorem mrr_1 (m d : Nat → Int → Int) (τ : qL) {c : Int} (hc : m 99 32 = c) (c0 : 0 ≤ c) (c1 : c + 10 ≤ 400) (h33 : m 99 33 = 0) : ∃ d', f_X7_passRow_1 (eC (pw m d)) τ (10 : Int32) = some (eC (pw (ud m 99 32 (c + 10)) d')) ∧ (∀ a b, (a = 1 ∧ 0 ≤ b ∧ b < 10) ∨ d' a b = d a b) ∧ (∀ j, 0 ≤ j → j < 10 → d' 1 j = m 30 (c + j)) := by
  subst hc
  obtain ⟨d', e1, e2, e3⟩ := mr_1 τ 20000 0 m d (by omega) (by omega) (by omega) h33 c0 (by omega)
  refine ⟨d', by rw [show m 99 32 + ((10 : Int) - 0) = m 99 32 + 10 by omega] at e1; exact e1, e2, fun j j0 j1 => ?_⟩
  have := e3 j j0 j1
  rwa [show m 99 32 + (j - 0) = m 99 32 + j by omega] at this
theorem mw_2 (d : Nat → Int → Int) (τ : qL) : ∀ (N : Nat) (i : Int) (m : Nat → Int → Int), 0 ≤ i → i ≤ 10 → (10 - i).toNat < N → m 99 33 = 1 → 0 ≤ m 99 32 → m 99 32 + (10 - i) ≤ 400 →
    ∃ m', q_lp (b_X7_passRow_2_2 τ (10 : Int32)) (fun z1 => some z1.2) N (zI i, eC (pw m d)) = some (eC (pw m' d)) ∧ fW m m' (m 99 32) (m 99 32 + (10 - i)) ∧ (∀ j, i ≤ j → j < 10 → m' 30 (m 99 32 + (j - i)) = d 2 j) := by
  intro N
  induction N with
  | zero => intro i m _ _ h; omega
  | succ N ih =>
    intro i m h0 h1 hN h33 c0 c1
    rw [lp_s]
    unfold b_X7_passRow_2_2
    by_cases c : i < 10
    · have hp := m_passW m d τ (v := d 2 i) h33 c0 (by omega)
      obtain ⟨m', e1, e2, e3⟩ := ih (i + 1) (ud (ud m 30 (m 99 32) (d 2 i)) 99 32 (m 99 32 + 1)) (by omega) (by omega) (by omega) (by rw [ud_ne _ _ (by omega), ud_ne _ _ (by omega)]; exact h33) (by rw [ud_same]; omega) (by rw [ud_same]; omega)
      rw [ud_same] at e2 e3
      have h1' := fW_1 m (d 2 i) rfl
      refine ⟨m', ?_, ?_, fun j j0 j1 => ?_⟩
      · simp (disch := omega) only [hp, ud_self, pw_0, up_0, pw_1, up_1, pw_2, up_2, pw_3, up_3, pw_4, up_4, pw_9, up_9, pw_10, up_10, pwi_5, upi_5, pwi_6, upi_6, pwi_7, upi_7, pwi_8, upi_8, pwi_11, upi_11, pw_12, up_12, pw_14, up_14, pw_15, up_15, pw_16, up_16, pw_18, up_18, pw_24, up_24, pw_25, up_25, pw_26, up_26, pw_29, up_29, pw_30, up_30, pw_31, up_31, pwi_13, upi_13, pwi_17, upi_17, pwi_19, upi_19, pwi_20, upi_20, pwi_21, upi_21, pwi_22, upi_22, pwi_23, upi_23, pwi_32, upi_32, pwi_33, upi_33, eC_5, eC_6, eC_13, eC_17, eC_19, eC_20, eC_21, eC_22, eC_23, eC_32, eC_33, eC_p5, eC_p6, eC_p13, eC_p17, eC_p19, eC_p20, eC_p21, eC_p22, eC_p23, eC_p32, eC_p33, s_T, s_F, s_bd, s_cl, s_rd, s_wr, s_ite, z_ite, z_neg, z_add, z_sub, z_mul, z_le, z_lt, z_eq, eC_at, eC_7, eC_8, eC_9, eC_10, eC_11, eC_p7, eC_p8, eC_p9, eC_p10, eC_p11, eC_up, ud_same, ud_ne, if_pos, if_neg, z_0, z_1, z_2, z_3, z_4, z_5, z_6, z_7, z_8, z_9, z_10, z_11, z_12, z_13, z_14, z_15, z_16, z_17, z_18, z_19, z_20, z_21, z_22, z_23, z_24, z_25, z_26, z_27, z_28, z_29, z_30, z_31, z_32, z_33, z_34, z_35, z_36, z_37, z_38, z_39, z_40, z_41, z_42, z_43, z_44, z_45, z_46, z_47, z_48, z_49, z_50, z_51, z_52, z_53, z_54, z_55, z_56, z_57, z_58, z_59, z_60, z_61, z_62, z_63, z_64, z_65, z_66, z_67, z_68, z_69, z_70, z_71, z_72, z_73, z_74, z_75, z_76, z_77, z_78, z_79, z_80, z_81, z_82, z_83, z_84, z_85, z_86, z_87, z_88, z_89, z_90, z_91, z_92, z_93, z_94, z_95, z_96, z_97, z_98, z_99, z_100, z_101, z_102, z_103, z_104, z_105, z_106, z_107, z_108, z_109, z_110, z_111, z_112, z_113, z_114, z_115, z_116, z_117, z_118, z_119, z_120, z_121, z_122, z_123, z_124, z_125, z_126, z_127, z_199, z_200, z_360, z_410, z_1000, z_1023, z_1024, z_1219, z_9999, z_10240, z_65537]
        exact e1
      · have := fW_tr h1' e2 (by omega) (by omega)
        rw [show m 99 32 + 1 + (10 - (i + 1)) = m 99 32 + (10 - i) by omega] at this
        exact this
      · by_cases e : j = i
        · subst e
          rw [show m 99 32 + (j - j) = m 99 32 by omega, fW_at e2 (by omega), ud_ne _ _ (by omega), ud_same]
        · have := e3 j (by omega) j1
          rw [show m 99 32 + 1 + (j - (i + 1)) = m 99 32 + (j - i) by omega] at this
          exact this
    · refine ⟨m, ?_, ⟨by omega, fun a b => Or.inr (Or.inr rfl)⟩, fun j j0 j1 => by omega⟩
      simp (disch := omega) only [pw_0, up_0, pw_1, up_1, pw_2, up_2, pw_3, up_3, pw_4, up_4, pw_9, up_9, pw_10, up_10, pwi_5, upi_5, pwi_6, upi_6, pwi_7, upi_7, pwi_8, upi_8, pwi_11, upi_11, pw_12, up_12, pw_14, up_14, pw_15, up_15, pw_16, up_16, pw_18, up_18, pw_24, up_24, pw_25, up_25, pw_26, up_26, pw_29, up_29, pw_30, up_30, pw_31, up_31, pwi_13, upi_13, pwi_17, upi_17, pwi_19, upi_19, pwi_20, upi_20, pwi_21, upi_21, pwi_22, upi_22, pwi_23, upi_23, pwi_32, upi_32, pwi_33, upi_33, eC_5, eC_6, eC_13, eC_17, eC_19, eC_20, eC_21, eC_22, eC_23, eC_32, eC_33, eC_p5, eC_p6, eC_p13, eC_p17, eC_p19, eC_p20, eC_p21, eC_p22, eC_p23, eC_p32, eC_p33, s_T, s_F, s_bd, s_cl, s_rd, s_wr, s_ite, z_ite, z_neg, z_add, z_sub, z_mul, z_le, z_lt, z_eq, eC_at, eC_7, eC_8, eC_9, eC_10, eC_11, eC_p7, eC_p8, eC_p9, eC_p10, eC_p11, eC_up, ud_same, ud_ne, if_pos, if_neg, z_0, z_1, z_2, z_3, z_4, z_5, z_6, z_7, z_8, z_9, z_10, z_11, z_12, z_13, z_14, z_15, z_16, z_17, z_18, z_19, z_20, z_21, z_22, z_23, z_24, z_25, z_26, z_27, z_28, z_29, z_30, z_31, z_32, z_33, z_34, z_35, z_36, z_37, z_38, z_39, z_40, z_41, z_42, z_43, z_44, z_45, z_46, z_47, z_48, z_49, z_50, z_51, z_52, z_53, z_54, z_55, z_56, z_57, z_58, z_59, z_60, z_61, z_62, z_63, z_64, z_65, z_66, z_67, z_68, z_69, z_70, z_71, z_72, z_73, z_74, z_75, z_76, z_77, z_78, z_79, z_80, z_81, z_82, z_83, z_84, z_85, z_86, z_87, z_88, z_89, z_90, z_91, z_92, z_93, z_94, z_95, z_96, z_97, z_98, z_99, z_100, z_101, z_102, z_103, z_104, z_105, z_106, z_107, z_108, z_109, z_110, z_111, z_112, z_113, z_114, z_115, z_116, z_117, z_118, z_119, z_120, z_121, z_122, z_123, z_124, z_125, z_126, z_127, z_199, z_200, z_360, z_410, z_1000, z_1023, z_1024, z_1219, z_9999, z_10240, z_65537]
theorem mr_2 (τ : qL) : ∀ (N : Nat) (i : Int) (m d : Nat → Int → Int), 0 ≤ i → i ≤ 10 → (10 - i).toNat < N → m 99 33 = 0 → 0 ≤ m 99 32 → m 99 32 + (10 - i) ≤ 400 →
    ∃ d', q_lp (b_X7_passRow_2_2 τ (10 : Int32)) (fun z1 => some z1.2) N (zI i, eC (pw m d)) = some (eC (pw (ud m 99 32 (m 99 32 + (10 - i))) d')) ∧ (∀ a b, (a = 2 ∧ i ≤ b ∧ b < 10) ∨ d' a b = d a b) ∧ (∀ j, i ≤ j → j < 10 → d' 2 j = m 30 (m 99 32 + (j - i))) := by
  intro N
  induction N with
  | zero => intro i m d _ _ h; omega
  | succ N ih =>
    intro i m d h0 h1 hN h33 c0 c1
    rw [lp_s]
    unfold b_X7_passRow_2_2
    by_cases c : i < 10
    · have hp := m_passR m d τ (zI (d 2 i)) h33 c0 (by omega)
      obtain ⟨d', e1, e2, e3⟩ := ih (i + 1) (ud m 99 32 (m 99 32 + 1)) (ud d 2 i (m 30 (m 99 32))) (by omega) (by omega) (by omega) (by rw [ud_ne _ _ (by omega)]; exact h33) (by rw [ud_same]; omega) (by rw [ud_same]; omega)
      rw [ud_same, ud_ud, show m 99 32 + 1 + (10 - (i + 1)) = m 99 32 + (10 - i) by omega] at e1
      refine ⟨d', ?_, fun a b => ?_, fun j j0 j1 => ?_⟩
      · simp (disch := omega) only [hp, pw_0, up_0, pw_1, up_1, pw_2, up_2, pw_3, up_3, pw_4, up_4, pw_9, up_9, pw_10, up_10, pwi_5, upi_5, pwi_6, upi_6, pwi_7, upi_7, pwi_8, upi_8, pwi_11, upi_11, pw_12, up_12, pw_14, up_14, pw_15, up_15, pw_16, up_16, pw_18, up_18, pw_24, up_24, pw_25, up_25, pw_26, up_26, pw_29, up_29, pw_30, up_30, pw_31, up_31, pwi_13, upi_13, pwi_17, upi_17, pwi_19, upi_19, pwi_20, upi_20, pwi_21, upi_21, pwi_22, upi_22, pwi_23, upi_23, pwi_32, upi_32, pwi_33, upi_33, eC_5, eC_6, eC_13, eC_17, eC_19, eC_20, eC_21, eC_22, eC_23, eC_32, eC_33, eC_p5, eC_p6, eC_p13, eC_p17, eC_p19, eC_p20, eC_p21, eC_p22, eC_p23, eC_p32, eC_p33, s_T, s_F, s_bd, s_cl, s_rd, s_wr, s_ite, z_ite, z_neg, z_add, z_sub, z_mul, z_le, z_lt, z_eq, eC_at, eC_7, eC_8, eC_9, eC_10, eC_11, eC_p7, eC_p8, eC_p9, eC_p10, eC_p11, eC_up, ud_same, ud_ne, if_pos, if_neg, z_0, z_1, z_2, z_3, z_4, z_5, z_6, z_7, z_8, z_9, z_10, z_11, z_12, z_13, z_14, z_15, z_16, z_17, z_18, z_19, z_20, z_21, z_22, z_23, z_24, z_25, z_26, z_27, z_28, z_29, z_30, z_31, z_32, z_33, z_34, z_35, z_36, z_37, z_38, z_39, z_40, z_41, z_42, z_43, z_44, z_45, z_46, z_47, z_48, z_49, z_50, z_51, z_52, z_53, z_54, z_55, z_56, z_57, z_58, z_59, z_60, z_61, z_62, z_63, z_64, z_65, z_66, z_67, z_68, z_69, z_70, z_71, z_72, z_73, z_74, z_75, z_76, z_77, z_78, z_79, z_80, z_81, z_82, z_83, z_84, z_85, z_86, z_87, z_88, z_89, z_90, z_91, z_92, z_93, z_94, z_95, z_96, z_97, z_98, z_99, z_100, z_101, z_102, z_103, z_104, z_105, z_106, z_107, z_108, z_109, z_110, z_111, z_112, z_113, z_114, z_115, z_116, z_117, z_118, z_119, z_120, z_121, z_122, z_123, z_124, z_125, z_126, z_127, z_199, z_200, z_360, z_410, z_1000, z_1023, z_1024, z_1219, z_9999, z_10240, z_65537]
        exact e1
      · rcases e2 a b with z | z
        · exact Or.inl (by omega)
        · by_cases e : a = 2 ∧ b = i
          · exact Or.inl (by omega)
          · exact Or.inr (by rw [z, ud_ne _ _ (by omega)])
      · by_cases e : j = i
        · subst e
          rcases e2 2 j with z | z
          · omega
          · rw [z, ud_same, show m 99 32 + (j - j) = m 99 32 by omega]
        · have := e3 j (by omega) j1
          rw [ud_same, ud_ne _ _ (by omega), show m 99 32 + 1 + (j - (i + 1)) = m 99 32 + (j - i) by omega] at this
          exact this
    · refine ⟨d, ?_, fun a b => Or.inr rfl, fun j j0 j1 => by omega⟩
      rw [show m 99 32 + (10 - i) = m 99 32 by omega, ud_self]
      simp (disch := omega) only [pw_0, up_0, pw_1, up_1, pw_2, up_2, pw_3, up_3, pw_4, up_4, pw_9, up_9, pw_10, up_10, pwi_5, upi_5, pwi_6, upi_6, pwi_7, upi_7, pwi_8, upi_8, pwi_11, upi_11, pw_12, up_12, pw_14, up_14, pw_15, up_15, pw_16, up_16, pw_18, up_18, pw_24, up_24, pw_25, up_25, pw_26, up_26, pw_29, up_29, pw_30, up_30, pw_31, up_31, pwi_13, upi_13, pwi_17, upi_17, pwi_19, upi_19, pwi_20, upi_20, pwi_21, upi_21, pwi_22, upi_22, pwi_23, upi_23, pwi_32, upi_32, pwi_33, upi_33, eC_5, eC_6, eC_13, eC_17, eC_19, eC_20, eC_21, eC_22, eC_23, eC_32, eC_33, eC_p5, eC_p6, eC_p13, eC_p17, eC_p19, eC_p20, eC_p21, eC_p22, eC_p23, eC_p32, eC_p33, s_T, s_F, s_bd, s_cl, s_rd, s_wr, s_ite, z_ite, z_neg, z_add, z_sub, z_mul, z_le, z_lt, z_eq, eC_at, eC_7, eC_8, eC_9, eC_10, eC_11, eC_p7, eC_p8, eC_p9, eC_p10, eC_p11, eC_up, ud_same, ud_ne, if_pos, if_neg, z_0, z_1, z_2, z_3, z_4, z_5, z_6, z_7, z_8, z_9, z_10, z_11, z_12, z_13, z_14, z_15, z_16, z_17, z_18, z_19, z_20, z_21, z_22, z_23, z_24, z_25, z_26, z_27, z_28, z_29, z_30, z_31, z_32, z_33, z_34, z_35, z_36, z_37, z_38, z_39, z_40, z_41, z_42, z_43, z_44, z_45, z_46, z_47, z_48, z_49, z_50, z_51, z_52, z_53, z_54, z_55, z_56, z_57, z_58, z_59, z_60, z_61, z_62, z_63, z_64, z_65, z_66, z_67, z_68, z_69, z_70, z_71, z_72, z_73, z_74, z_75, z_76, z_77, z_78, z_79, z_80, z_81, z_82, z_83, z_84, z_85, z_86, z_87, z_88, z_89, z_90, z_91, z_92, z_93, z_94, z_95, z_96, z_97, z_98, z_99, z_100, z_101, z_102, z_103, z_104, z_105, z_106, z_107, z_108, z_109, z_110, z_111, z_112, z_113, z_114, z_115, z_116, z_117, z_118, z_119, z_120, z_121, z_122, z_123, z_124, z_125, z_126, z_127, z_199, z_200, z_360, z_410, z_1000, z_1023, z_1024, z_1219, z_9999, z_10240, z_65537]
theorem mwr_2 (d m : Nat → Int → Int) (τ : qL) {c : Int} (hc : m 99 32 = c) (c0 : 0 ≤ c) (c1 : c + 10 ≤ 400) (h33 : m 99 33 = 1) : ∃ m', f_X7_passRow_2 (eC (pw m d)) τ (10 : Int32) = some (eC (pw m' d)) ∧ fW m m' c (c + 10) ∧ (∀ j, 0 ≤ j → j < 10 → m' 30 (c + j) = d 2 j) := by
  subst hc
  obtain ⟨m', e1, e2, e3⟩ := mw_2 d τ 20000 0 m (by omega) (by omega) (by omega) h33 c0 (by omega)
  refine ⟨m', e1, by rw [show m 99 32 + ((10 : Int) - 0) = m 99 32 + 10 by omega] at e2; exact e2, fun j j0 j1 => ?_⟩
  have := e3 j j0 j1
  rwa [show m 99 32 + (j - 0) = m 99 32 + j by omega] at this
theorem mrr_2 (m d : Nat → Int → Int) (τ : qL) {c : Int} (hc : m 99 32 = c) (c0 : 0 ≤ c) (c1 : c + 10 ≤ 400) (h33 : m 99 33 = 0) : ∃ d', f_X7_passRow_2 (eC (pw m d)) τ (10 : Int32) = some (eC (pw (ud m 99 32 (c + 10)) d')) ∧ (∀ a b, (a = 2 ∧ 0 ≤ b ∧ b < 10) ∨ d' a b = d a b) ∧ (∀ j, 0 ≤ j → j < 10 → d' 2 j = m 30 (c + j)) := by
  subst hc
  obtain ⟨d', e1, e2, e3⟩ := mr_2 τ 20000 0 m d (by omega) (by omega) (by omega) h33 c0 (by omega)
  refine ⟨d', by rw [show m 99 32 + ((10 : Int) - 0) = m 99 32 + 10 by omega] at e1; exact e1, e2, fun j j0 j1 => ?_⟩
  have := e3 j j0 j1
  rwa [show m 99 32 + (j - 0) = m 99 32 + j by omega] at this
theorem mw_3 (d : Nat → Int → Int) (τ : qL) : ∀ (N : Nat) (i : Int) (m : Nat → Int → Int), 0 ≤ i → i ≤ 10 → (10 - i).toNat < N → m 99 33 = 1 → 0 ≤ m 99 32 → m 99 32 + (10 - i) ≤ 400 →
    ∃ m', q_lp (b_X7_passRow_3_2 τ (10 : Int32)) (fun z1 => some z1.2) N (zI i, eC (pw m d)) = some (eC (pw m' d)) ∧ fW m m' (m 99 32) (m 99 32 + (10 - i)) ∧ (∀ j, i ≤ j → j < 10 → m' 30 (m 99 32 + (j - i)) = d 3 j) := by
  intro N
  induction N with
  | zero => intro i m _ _ h; omega
  | succ N ih =>
    intro i m h0 h1 hN h33 c0 c1
    rw [lp_s]
    unfold b_X7_passRow_3_2
    by_cases c : i < 10
    · have hp := m_passW m d τ (v := d 3 i) h33 c0 (by omega)
      obtain ⟨m', e1, e2, e3⟩ := ih (i + 1) (ud (ud m 30 (m 99 32) (d 3 i)) 99 32 (m 99 32 + 1)) (by omega) (by omega) (by omega) (by rw [ud_ne _ _ (by omega), ud_ne _ _ (by omega)]; exact h33) (by rw [ud_same]; omega) (by rw [ud_same]; omega)
      rw [ud_same] at e2 e3
      have h1' := fW_1 m (d 3 i) rfl
      refine ⟨m', ?_, ?_, fun j j0 j1 => ?_⟩
      · simp (disch := omega) only [hp, ud_self, pw_0, up_0, pw_1, up_1, pw_2, up_2, pw_3, up_3, pw_4, up_4, pw_9, up_9, pw_10, up_10, pwi_5, upi_5, pwi_6, upi_6, pwi_7, upi_7, pwi_8, upi_8, pwi_11, upi_11, pw_12, up_12, pw_14, up_14, pw_15, up_15, pw_16, up_16, pw_18, up_18, pw_24, up_24, pw_25, up_25, pw_26, up_26, pw_29, up_29, pw_30, up_30, pw_31, up_31, pwi_13, upi_13, pwi_17, upi_17, pwi_19, upi_19, pwi_20, upi_20, pwi_21, upi_21, pwi_22, upi_22, pwi_23, upi_23, pwi_32, upi_32, pwi_33, upi_33, eC_5, eC_6, eC_13, eC_17, eC_19, eC_20, eC_21, eC_22, eC_23, eC_32, eC_33, eC_p5, eC_p6, eC_p13, eC_p17, eC_p19, eC_p20, eC_p21, eC_p22, eC_p23, eC_p32, eC_p33, s_T, s_F, s_bd, s_cl, s_rd, s_wr, s_ite, z_ite, z_neg, z_add, z_sub, z_mul, z_le, z_lt, z_eq, eC_at, eC_7, eC_8, eC_9, eC_10, eC_11, eC_p7, eC_p8, eC_p9, eC_p10, eC_p11, eC_up, ud_same, ud_ne, if_pos, if_neg, z_0, z_1, z_2, z_3, z_4, z_5, z_6, z_7, z_8, z_9, z_10, z_11, z_12, z_13, z_14, z_15, z_16, z_17, z_18, z_19, z_20, z_21, z_22, z_23, z_24, z_25, z_26, z_27, z_28, z_29, z_30, z_31, z_32, z_33, z_34, z_35, z_36, z_37, z_38, z_39, z_40, z_41, z_42, z_43, z_44, z_45, z_46, z_47, z_48, z_49, z_50, z_51, z_52, z_53, z_54, z_55, z_56, z_57, z_58, z_59, z_60, z_61, z_62, z_63, z_64, z_65, z_66, z_67, z_68, z_69, z_70, z_71, z_72, z_73, z_74, z_75, z_76, z_77, z_78, z_79, z_80, z_81, z_82, z_83, z_84, z_85, z_86, z_87, z_88, z_89, z_90, z_91, z_92, z_93, z_94, z_95, z_96, z_97, z_98, z_99, z_100, z_101, z_102, z_103, z_104, z_105, z_106, z_107, z_108, z_109, z_110, z_111, z_112, z_113, z_114, z_115, z_116, z_117, z_118, z_119, z_120, z_121, z_122, z_123, z_124, z_125, z_126, z_127, z_199, z_200, z_360, z_410, z_1000, z_1023, z_1024, z_1219, z_9999, z_10240, z_65537]
        exact e1
      · have := fW_tr h1' e2 (by omega) (by omega)
        rw [show m 99 32 + 1 + (10 - (i + 1)) = m 99 32 + (10 - i) by omega] at this
        exact this
      · by_cases e : j = i
        · subst e
          rw [show m 99 32 + (j - j) = m 99 32 by omega, fW_at e2 (by omega), ud_ne _ _ (by omega), ud_same]
        · have := e3 j (by omega) j1
          rw [show m 99 32 + 1 + (j - (i + 1)) = m 99 32 + (j - i) by omega] at this
          exact this
    · refine ⟨m, ?_, ⟨by omega, fun a b => Or.inr (Or.inr rfl)⟩, fun j j0 j1 => by omega⟩
      simp (disch := omega) only [pw_0, up_0, pw_1, up_1, pw_2, up_2, pw_3, up_3, pw_4, up_4, pw_9, up_9, pw_10, up_10, pwi_5, upi_5, pwi_6, upi_6, pwi_7, upi_7, pwi_8, upi_8, pwi_11, upi_11, pw_12, up_12, pw_14, up_14, pw_15, up_15, pw_16, up_16, pw_18, up_18, pw_24, up_24, pw_25, up_25, pw_26, up_26, pw_29, up_29, pw_30, up_30, pw_31, up_31, pwi_13, upi_13, pwi_17, upi_17, pwi_19, upi_19, pwi_20, upi_20, pwi_21, upi_21, pwi_22, upi_22, pwi_23, upi_23, pwi_32, upi_32, pwi_33, upi_33, eC_5, eC_6, eC_13, eC_17, eC_19, eC_20, eC_21, eC_22, eC_23, eC_32, eC_33, eC_p5, eC_p6, eC_p13, eC_p17, eC_p19, eC_p20, eC_p21, eC_p22, eC_p23, eC_p32, eC_p33, s_T, s_F, s_bd, s_cl, s_rd, s_wr, s_ite, z_ite, z_neg, z_add, z_sub, z_mul, z_le, z_lt, z_eq, eC_at, eC_7, eC_8, eC_9, eC_10, eC_11, eC_p7, eC_p8, eC_p9, eC_p10, eC_p11, eC_up, ud_same, ud_ne, if_pos, if_neg, z_0, z_1, z_2, z_3, z_4, z_5, z_6, z_7, z_8, z_9, z_10, z_11, z_12, z_13, z_14, z_15, z_16, z_17, z_18, z_19, z_20, z_21, z_22, z_23, z_24, z_25, z_26, z_27, z_28, z_29, z_30, z_31, z_32, z_33, z_34, z_35, z_36, z_37, z_38, z_39, z_40, z_41, z_42, z_43, z_44, z_45, z_46, z_47, z_48, z_49, z_50, z_51, z_52, z_53, z_54, z_55, z_56, z_57, z_58, z_59, z_60, z_61, z_62, z_63, z_64, z_65, z_66, z_67, z_68, z_69, z_70, z_71, z_72, z_73, z_74, z_75, z_76, z_77, z_78, z_79, z_80, z_81, z_82, z_83, z_84, z_85, z_86, z_87, z_88, z_89, z_90, z_91, z_92, z_93, z_94, z_95, z_96, z_97, z_98, z_99, z_100, z_101, z_102, z_103, z_104, z_105, z_106, z_107, z_108, z_109, z_110, z_111, z_112, z_113, z_114, z_115, z_116, z_117, z_118, z_119, z_120, z_121, z_122, z_123, z_124, z_125, z_126, z_127, z_199, z_200, z_360, z_410, z_1000, z_1023, z_1024, z_1219, z_9999, z_10240, z_65537]
theorem mr_3 (τ : qL) : ∀ (N : Nat) (i : Int) (m d : Nat → Int → Int), 0 ≤ i → i ≤ 10 → (10 - i).toNat < N → m 99 33 = 0 → 0 ≤ m 99 32 → m 99 32 + (10 - i) ≤ 400 →
    ∃ d', q_lp (b_X7_passRow_3_2 τ (10 : Int32)) (fun z1 => some z1.2) N (zI i, eC (pw m d)) = some (eC (pw (ud m 99 32 (m 99 32 + (10 - i))) d')) ∧ (∀ a b, (a = 3 ∧ i ≤ b ∧ b < 10) ∨ d' a b = d a b) ∧ (∀ j, i ≤ j → j < 10 → d' 3 j = m 30 (m 99 32 + (j - i))) := by
  intro N
  induction N with
  | zero => intro i m d _ _ h; omega
  | succ N ih =>
    intro i m d h0 h1 hN h33 c0 c1
    rw [lp_s]
    unfold b_X7_passRow_3_2
    by_cases c : i < 10
    · have hp := m_passR m d τ (zI (d 3 i)) h33 c0 (by omega)
      obtain ⟨d', e1, e2, e3⟩ := ih (i + 1) (ud m 99 32 (m 99 32 + 1)) (ud d 3 i (m 30 (m 99 32))) (by omega) (by omega) (by omega) (by rw [ud_ne _ _ (by omega)]; exact h33) (by rw [ud_same]; omega) (by rw [ud_same]; omega)
      rw [ud_same, ud_ud, show m 99 32 + 1 + (10 - (i + 1)) = m 99 32 + (10 - i) by omega] at e1
      refine ⟨d', ?_, fun a b => ?_, fun j j0 j1 => ?_⟩
      · simp (disch := omega) only [hp, pw_0, up_0, pw_1, up_1, pw_2, up_2, pw_3, up_3, pw_4, up_4, pw_9, up_9, pw_10, up_10, pwi_5, upi_5, pwi_6, upi_6, pwi_7, upi_7, pwi_8, upi_8, pwi_11, upi_11, pw_12, up_12, pw_14, up_14, pw_15, up_15, pw_16, up_16, pw_18, up_18, pw_24, up_24, pw_25, up_25, pw_26, up_26, pw_29, up_29, pw_30, up_30, pw_31, up_31, pwi_13, upi_13, pwi_17, upi_17, pwi_19, upi_19, pwi_20, upi_20, pwi_21, upi_21, pwi_22, upi_22, pwi_23, upi_23, pwi_32, upi_32, pwi_33, upi_33, eC_5, eC_6, eC_13, eC_17, eC_19, eC_20, eC_21, eC_22, eC_23, eC_32, eC_33, eC_p5, eC_p6, eC_p13, eC_p17, eC_p19, eC_p20, eC_p21, eC_p22, eC_p23, eC_p32, eC_p33, s_T, s_F, s_bd, s_cl, s_rd, s_wr, s_ite, z_ite, z_neg, z_add, z_sub, z_mul, z_le, z_lt, z_eq, eC_at, eC_7, eC_8, eC_9, eC_10, eC_11, eC_p7, eC_p8, eC_p9, eC_p10, eC_p11, eC_up, ud_same, ud_ne, if_pos, if_neg, z_0, z_1, z_2, z_3, z_4, z_5, z_6, z_7, z_8, z_9, z_10, z_11, z_12, z_13, z_14, z_15, z_16, z_17, z_18, z_19, z_20, z_21, z_22, z_23, z_24, z_25, z_26, z_27, z_28, z_29, z_30, z_31, z_32, z_33, z_34, z_35, z_36, z_37, z_38, z_39, z_40, z_41, z_42, z_43, z_44, z_45, z_46, z_47, z_48, z_49, z_50, z_51, z_52, z_53, z_54, z_55, z_56, z_57, z_58, z_59, z_60, z_61, z_62, z_63, z_64, z_65, z_66, z_67, z_68, z_69, z_70, z_71, z_72, z_73, z_74, z_75, z_76, z_77, z_78, z_79, z_80, z_81, z_82, z_83, z_84, z_85, z_86, z_87, z_88, z_89, z_90, z_91, z_92, z_93, z_94, z_95, z_96, z_97, z_98, z_99, z_100, z_101, z_102, z_103, z_104, z_105, z_106, z_107, z_108, z_109, z_110, z_111, z_112, z_113, z_114, z_115, z_116, z_117, z_118, z_119, z_120, z_121, z_122, z_123, z_124, z_125, z_126, z_127, z_199, z_200, z_360, z_410, z_1000, z_1023, z_1024, z_1219, z_9999, z_10240, z_65537]
        exact e1
      · rcases e2 a b with z | z
        · exact Or.inl (by omega)
        · by_cases e : a = 3 ∧ b = i
          · exact Or.inl (by omega)
          · exact Or.inr (by rw [z, ud_ne _ _ (by omega)])
      · by_cases e : j = i
        · subst e
          rcases e2 3 j with z | z
          · omega
          · rw [z, ud_same, show m 99 32 + (j - j) = m 99 32 by omega]
        · have := e3 j (by omega) j1
          rw [ud_same, ud_ne _ _ (by omega), show m 99 32 + 1 + (j - (i + 1)) = m 99 32 + (j - i) by omega] at this
          exact this
    · refine ⟨d, ?_, fun a b => Or.inr rfl, fun j j0 j1 => by omega⟩
      rw [show m 99 32 + (10 - i) = m 99 32 by omega, ud_self]
      simp (disch := omega) only [pw_0, up_0, pw_1, up_1, pw_2, up_2, pw_3, up_3, pw_4, up_4, pw_9, up_9, pw_10, up_10, pwi_5, upi_5, pwi_6, upi_6, pwi_7, upi_7, pwi_8, upi_8, pwi_11, upi_11, pw_12, up_12, pw_14, up_14, pw_15, up_15, pw_16, up_16, pw_18, up_18, pw_24, up_24, pw_25, up_25, pw_26, up_26, pw_29, up_29, pw_30, up_30, pw_31, up_31, pwi_13, upi_13, pwi_17, upi_17, pwi_19, upi_19, pwi_20, upi_20, pwi_21, upi_21, pwi_22, upi_22, pwi_23, upi_23, pwi_32, upi_32, pwi_33, upi_33, eC_5, eC_6, eC_13, eC_17, eC_19, eC_20, eC_21, eC_22, eC_23, eC_32, eC_33, eC_p5, eC_p6, eC_p13, eC_p17, eC_p19, eC_p20, eC_p21, eC_p22, eC_p23, eC_p32, eC_p33, s_T, s_F, s_bd, s_cl, s_rd, s_wr, s_ite, z_ite, z_neg, z_add, z_sub, z_mul, z_le, z_lt, z_eq, eC_at, eC_7, eC_8, eC_9, eC_10, eC_11, eC_p7, eC_p8, eC_p9, eC_p10, eC_p11, eC_up, ud_same, ud_ne, if_pos, if_neg, z_0, z_1, z_2, z_3, z_4, z_5, z_6, z_7, z_8, z_9, z_10, z_11, z_12, z_13, z_14, z_15, z_16, z_17, z_18, z_19, z_20, z_21, z_22, z_23, z_24, z_25, z_26, z_27, z_28, z_29, z_30, z_31, z_32, z_33, z_34, z_35, z_36, z_37, z_38, z_39, z_40, z_41, z_42, z_43, z_44, z_45, z_46, z_47, z_48, z_49, z_50, z_51, z_52, z_53, z_54, z_55, z_56, z_57, z_58, z_59, z_60, z_61, z_62, z_63, z_64, z_65, z_66, z_67, z_68, z_69, z_70, z_71, z_72, z_73, z_74, z_75, z_76, z_77, z_78, z_79, z_80, z_81, z_82, z_83, z_84, z_85, z_86, z_87, z_88, z_89, z_90, z_91, z_92, z_93, z_94, z_95, z_96, z_97, z_98, z_99, z_100, z_101, z_102, z_103, z_104, z_105, z_106, z_107, z_108, z_109, z_110, z_111, z_112, z_113, z_114, z_115, z_116, z_117, z_118, z_119, z_120, z_121, z_122, z_123, z_124, z_125, z_126, z_127, z_199, z_200, z_360, z_410, z_1000, z_1023, z_1024, z_1219, z_9999, z_10240, z_65537]
theorem mwr_3 (d m : Nat → Int → Int) (τ : qL) {c : Int} (hc : m 99 32 = c) (c0 : 0 ≤ c) (c1 : c + 10 ≤ 400) (h33 : m 99 33 = 1) : ∃ m', f_X7_passRow_3 (eC (pw m d)) τ (10 : Int32) = some (eC (pw m' d)) ∧ fW m m' c (c + 10) ∧ (∀ j, 0 ≤ j → j < 10 → m' 30 (c + j) = d 3 j) := by
  subst hc
  obtain ⟨m', e1, e2, e3⟩ := mw_3 d τ 20000 0 m (by omega) (by omega) (by omega) h33 c0 (by omega)
  refine ⟨m', e1, by rw [show m 99 32 + ((10 : Int) - 0) = m 99 32 + 10 by omega] at e2; exact e2, fun j j0 j1 => ?_⟩
  have := e3 j j0 j1
  rwa [show m 99 32 + (j - 0) = m 99 32 + j by omega] at this
theorem mrr_3 (m d : Nat → Int → Int) (τ : qL) {c : Int} (hc : m 99 32 = c) (c0 : 0 ≤ c) (c1 : c + 10 ≤ 400) (h33 : m 99 33 = 0) : ∃ d', f_X7_passRow_3 (eC (pw m d)) τ (10 : Int32) = some (eC (pw (ud m 99 32 (c + 10)) d')) ∧ (∀ a b, (a = 3 ∧ 0 ≤ b ∧ b < 10) ∨ d' a b = d a b) ∧ (∀ j, 0 ≤ j → j < 10 → d' 3 j = m 30 (c + j)) := by
  subst hc
  obtain ⟨d', e1, e2, e3⟩ := mr_3 τ 20000 0 m d (by omega) (by omega) (by omega) h33 c0 (by omega)
  refine ⟨d', by rw [show m 99 32 + ((10 : Int) - 0) = m 99 32 + 10 by omega] at e1; exact e1, e2, fun j j0 j1 => ?_⟩
  have := e3 j j0 j1
  rwa [show m 99 32 + (j - 0) = m 99 32 + j by omega] at this
theorem mw_4 (d : Nat → Int → Int) (τ : qL) : ∀ (N : Nat) (i : Int) (m : Nat → Int → Int), 0 ≤ i → i ≤ 10 → (10 - i).toNat < N → m 99 33 = 1 → 0 ≤ m 99 32 → m 99 32 + (10 - i) ≤ 400 →
    ∃ m', q_lp (b_X7_passRow_4_2 τ (10 : Int32)) (fun z1 => some z1.2) N (zI i, eC (pw m d)) = some (eC (pw m' d)) ∧ fW m m' (m 99 32) (m 99 32 + (10 - i)) ∧ (∀ j, i ≤ j → j < 10 → m' 30 (m 99 32 + (j - i)) = d 4 j) := by
  intro N
  induction N with
  | zero => intro i m _ _ h; omega
  | succ N ih =>
    intro i m h0 h1 hN h33 c0 c1
    rw [lp_s]
    unfold b_X7_passRow_4_2
    by_cases c : i < 10
    · have hp := m_passW m d τ (v := d 4 i) h33 c0 (by omega)
      obtain ⟨m', e1, e2, e3⟩ := ih (i + 1) (ud (ud m 30 (m 99 32) (d 4 i)) 99 32 (m 99 32 + 1)) (by omega) (by omega) (by omega) (by rw [ud_ne _ _ (by omega), ud_ne _ _ (by omega)]; exact h33) (by rw [ud_same]; omega) (by rw [ud_same]; omega)
      rw [ud_same] at e2 e3
      have h1' := fW_1 m (d 4 i) rfl
      refine ⟨m', ?_, ?_, fun j j0 j1 => ?_⟩
      · simp (disch := omega) only [hp, ud_self, pw_0, up_0, pw_1, up_1, pw_2, up_2, pw_3, up_3, pw_4, up_4, pw_9, up_9, pw_10, up_10, pwi_5, upi_5, pwi_6, upi_6, pwi_7, upi_7, pwi_8, upi_8, pwi_11, upi_11, pw_12, up_12, pw_14, up_14, pw_15, up_15, pw_16, up_16, pw_18, up_18, pw_24, up_24, pw_25, up_25, pw_26, up_26, pw_29, up_29, pw_30, up_30, pw_31, up_31, pwi_13, upi_13, pwi_17, upi_17, pwi_19, upi_19, pwi_20, upi_20, pwi_21, upi_21, pwi_22, upi_22, pwi_23, upi_23, pwi_32, upi_32, pwi_33, upi_33, eC_5, eC_6, eC_13, eC_17, eC_19, eC_20, eC_21, eC_22, eC_23, eC_32, eC_33, eC_p5, eC_p6, eC_p13, eC_p17, eC_p19, eC_p20, eC_p21, eC_p22, eC_p23, eC_p32, eC_p33, s_T, s_F, s_bd, s_cl, s_rd, s_wr, s_ite, z_ite, z_neg, z_add, z_sub, z_mul, z_le, z_lt, z_eq, eC_at, eC_7, eC_8, eC_9, eC_10, eC_11, eC_p7, eC_p8, eC_p9, eC_p10, eC_p11, eC_up, ud_same, ud_ne, if_pos, if_neg, z_0, z_1, z_2, z_3, z_4, z_5, z_6, z_7, z_8, z_9, z_10, z_11, z_12, z_13, z_14, z_15, z_16, z_17, z_18, z_19, z_20, z_21, z_22, z_23, z_24, z_25, z_26, z_27, z_28, z_29, z_30, z_31, z_32, z_33, z_34, z_35, z_36, z_37, z_38, z_39, z_40, z_41, z_42, z_43, z_44, z_45, z_46, z_47, z_48, z_49, z_50, z_51, z_52, z_53, z_54, z_55, z_56, z_57, z_58, z_59, z_60, z_61, z_62, z_63, z_64, z_65, z_66, z_67, z_68, z_69, z_70, z_71, z_72, z_73, z_74, z_75, z_76, z_77, z_78, z_79, z_80, z_81, z_82, z_83, z_84, z_85, z_86, z_87, z_88, z_89, z_90, z_91, z_92, z_93, z_94, z_95, z_96, z_97, z_98, z_99, z_100, z_101, z_102, z_103, z_104, z_105, z_106, z_107, z_108, z_109, z_110, z_111, z_112, z_113, z_114, z_115, z_116, z_117, z_118, z_119, z_120, z_121, z_122, z_123, z_124, z_125, z_126, z_127, z_199, z_200, z_360, z_410, z_1000, z_1023, z_1024, z_1219, z_9999, z_10240, z_65537]
        exact e1
      · have := fW_tr h1' e2 (by omega) (by omega)
        rw [show m 99 32 + 1 + (10 - (i + 1)) = m 99 32 + (10 - i) by omega] at this
        exact this
      · by_cases e : j = i
        · subst e
          rw [show m 99 32 + (j - j) = m 99 32 by omega, fW_at e2 (by omega), ud_ne _ _ (by omega), ud_same]
        · have := e3 j (by omega) j1
          rw [show m 99 32 + 1 + (j - (i + 1)) = m 99 32 + (j - i) by omega] at this
          exact this
    · refine ⟨m, ?_, ⟨by omega, fun a b => Or.inr (Or.inr rfl)⟩, fun j j0 j1 => by omega⟩
      simp (disch := omega) only [pw_0, up_0, pw_1, up_1, pw_2, up_2, pw_3, up_3, pw_4, up_4, pw_9, up_9, pw_10, up_10, pwi_5, upi_5, pwi_6, upi_6, pwi_7, upi_7, pwi_8, upi_8, pwi_11, upi_11, pw_12, up_12, pw_14, up_14, pw_15, up_15, pw_16, up_16, pw_18, up_18, pw_24, up_24, pw_25, up_25, pw_26, up_26, pw_29, up_29, pw_30, up_30, pw_31, up_31, pwi_13, upi_13, pwi_17, upi_17, pwi_19, upi_19, pwi_20, upi_20, pwi_21, upi_21, pwi_22, upi_22, pwi_23, upi_23, pwi_32, upi_32, pwi_33, upi_33, eC_5, eC_6, eC_13, eC_17, eC_19, eC_20, eC_21, eC_22, eC_23, eC_32, eC_33, eC_p5, eC_p6, eC_p13, eC_p17, eC_p19, eC_p20, eC_p21, eC_p22, eC_p23, eC_p32, eC_p33, s_T, s_F, s_bd, s_cl, s_rd, s_wr, s_ite, z_ite, z_neg, z_add, z_sub, z_mul, z_le, z_lt, z_eq, eC_at, eC_7, eC_8, eC_9, eC_10, eC_11, eC_p7, eC_p8, eC_p9, eC_p10, eC_p11, eC_up, ud_same, ud_ne, if_pos, if_neg, z_0, z_1, z_2, z_3, z_4, z_5, z_6, z_7, z_8, z_9, z_10, z_11, z_12, z_13, z_14, z_15, z_16, z_17, z_18, z_19, z_20, z_21, z_22, z_23, z_24, z_25, z_26, z_27, z_28, z_29, z_30, z_31, z_32, z_33, z_34, z_35, z_36, z_37, z_38, z_39, z_40, z_41, z_42, z_43, z_44, z_45, z_46, z_47, z_48, z_49, z_50, z_51, z_52, z_53, z_54, z_55, z_56, z_57, z_58, z_59, z_60, z_61, z_62, z_63, z_64, z_65, z_66, z_67, z_68, z_69, z_70, z_71, z_72, z_73, z_74, z_75, z_76, z_77, z_78, z_79, z_80, z_81, z_82, z_83, z_84, z_85, z_86, z_87, z_88, z_89, z_90, z_91, z_92, z_93, z_94, z_95, z_96, z_97, z_98, z_99, z_100, z_101, z_102, z_103, z_104, z_105, z_106, z_107, z_108, z_109, z_110, z_111, z_112, z_113, z_114, z_115, z_116, z_117, z_118, z_119, z_120, z_121, z_122, z_123, z_124, z_125, z_126, z_127, z_199, z_200, z_360, z_410, z_1000, z_1023, z_1024, z_1219, z_9999, z_10240, z_65537]
theorem mr_4 (τ : qL) : ∀ (N : Nat) (i : Int) (m d : Nat → Int → Int), 0 ≤ i → i ≤ 10 → (10 - i).toNat < N → m 99 33 = 0 → 0 ≤ m 99 32 → m 99 32 + (10 - i) ≤ 400 →
    ∃ d', q_lp (b_X7_passRow_4_2 τ (10 : Int32)) (fun z1 => some z1.2) N (zI i, eC (pw m d)) = some (eC (pw (ud m 99 32 (m 99 32 + (10 - i))) d')) ∧ (∀ a b, (a = 4 ∧ i ≤ b ∧ b < 10) ∨ d' a b = d a b) ∧ (∀ j, i ≤ j → j < 10 → d' 4 j = m 30 (m 99 32 + (j - i))) := by
  intro N
  induction N with
  | zero => intro i m d _ _ h; omega
  | succ N ih =>
    intro i m d h0 h1 hN h33 c0 c1
    rw [lp_s]
    unfold b_X7_passRow_4_2
    by_cases c : i < 10
    · have hp := m_passR m d τ (zI (d 4 i)) h33 c0 (by omega)
      obtain ⟨d', e1, e2, e3⟩ := ih (i + 1) (ud m 99 32 (m 99 32 + 1)) (ud d 4 i (m 30 (m 99 32))) (by omega) (by omega) (by omega) (by rw [ud_ne _ _ (by omega)]; exact h33) (by rw [ud_same]; omega) (by rw [ud_same]; omega)
      rw [ud_same, ud_ud, show m 99 32 + 1 + (10 - (i + 1)) = m 99 32 + (10 - i) by omega] at e1
      refine ⟨d', ?_, fun a b => ?_, fun j j0 j1 => ?_⟩
      · simp (disch := omega) only [hp, pw_0, up_0, pw_1, up_1, pw_2, up_2, pw_3, up_3, pw_4, up_4, pw_9, up_9, pw_10, up_10, pwi_5, upi_5, pwi_6, upi_6, pwi_7, upi_7, pwi_8, upi_8, pwi_11, upi_11, pw_12, up_12, pw_14, up_14, pw_15, up_15, pw_16, up_16, pw_18, up_18, pw_24, up_24, pw_25, up_25, pw_26, up_26, pw_29, up_29, pw_30, up_30, pw_31, up_31, pwi_13, upi_13, pwi_17, upi_17, pwi_19, upi_19, pwi_20, upi_20, pwi_21, upi_21, pwi_22, upi_22, pwi_23, upi_23, pwi_32, upi_32, pwi_33, upi_33, eC_5, eC_6, eC_13, eC_17, eC_19, eC_20, eC_21, eC_22, eC_23, eC_32, eC_33, eC_p5, eC_p6, eC_p13, eC_p17, eC_p19, eC_p20, eC_p21, eC_p22, eC_p23, eC_p32, eC_p33, s_T, s_F, s_bd, s_cl, s_rd, s_wr, s_ite, z_ite, z_neg, z_add, z_sub, z_mul, z_le, z_lt, z_eq, eC_at, eC_7, eC_8, eC_9, eC_10, eC_11, eC_p7, eC_p8, eC_p9, eC_p10, eC_p11, eC_up, ud_same, ud_ne, if_pos, if_neg, z_0, z_1, z_2, z_3, z_4, z_5, z_6, z_7, z_8, z_9, z_10, z_11, z_12, z_13, z_14, z_15, z_16, z_17, z_18, z_19, z_20, z_21, z_22, z_23, z_24, z_25, z_26, z_27, z_28, z_29, z_30, z_31, z_32, z_33, z_34, z_35, z_36, z_37, z_38, z_39, z_40, z_41, z_42, z_43, z_44, z_45, z_46, z_47, z_48, z_49, z_50, z_51, z_52, z_53, z_54, z_55, z_56, z_57, z_58, z_59, z_60, z_61, z_62, z_63, z_64, z_65, z_66, z_67, z_68, z_69, z_70, z_71, z_72, z_73, z_74, z_75, z_76, z_77, z_78, z_79, z_80, z_81, z_82, z_83, z_84, z_85, z_86, z_87, z_88, z_89, z_90, z_91, z_92, z_93, z_94, z_95, z_96, z_97, z_98, z_99, z_100, z_101, z_102, z_103, z_104, z_105, z_106, z_107, z_108, z_109, z_110, z_111, z_112, z_113, z_114, z_115, z_116, z_117, z_118, z_119, z_120, z_121, z_122, z_123, z_124, z_125, z_126, z_127, z_199, z_200, z_360, z_410, z_1000, z_1023, z_1024, z_1219, z_9999, z_10240, z_65537]
        exact e1
      · rcases e2 a b with z | z
        · exact Or.inl (by omega)
        · by_cases e : a = 4 ∧ b = i
          · exact Or.inl (by omega)
          · exact Or.inr (by rw [z, ud_ne _ _ (by omega)])
      · by_cases e : j = i
        · subst e
          rcases e2 4 j with z | z
          · omega
          · rw [z, ud_same, show m 99 32 + (j - j) = m 99 32 by omega]
        · have := e3 j (by omega) j1
          rw [ud_same, ud_ne _ _ (by omega), show m 99 32 + 1 + (j - (i + 1)) = m 99 32 + (j - i) by omega] at this
          exact this
    · refine ⟨d, ?_, fun a b => Or.inr rfl, fun j j0 j1 => by omega⟩
      rw [show m 99 32 + (10 - i) = m 99 32 by omega, ud_self]
      simp (disch := omega) only [pw_0, up_0, pw_1, up_1, pw_2, up_2, pw_3, up_3, pw_4, up_4, pw_9, up_9, pw_10, up_10, pwi_5, upi_5, pwi_6, upi_6, pwi_7, upi_7, pwi_8, upi_8, pwi_11, upi_11, pw_12, up_12, pw_14, up_14, pw_15, up_15, pw_16, up_16, pw_18, up_18, pw_24, up_24, pw_25, up_25, pw_26, up_26, pw_29, up_29, pw_30, up_30, pw_31, up_31, pwi_13, upi_13, pwi_17, upi_17, pwi_19, upi_19, pwi_20, upi_20, pwi_21, upi_21, pwi_22, upi_22, pwi_23, upi_23, pwi_32, upi_32, pwi_33, upi_33, eC_5, eC_6, eC_13, eC_17, eC_19, eC_20, eC_21, eC_22, eC_23, eC_32, eC_33, eC_p5, eC_p6, eC_p13, eC_p17, eC_p19, eC_p20, eC_p21, eC_p22, eC_p23, eC_p32, eC_p33, s_T, s_F, s_bd, s_cl, s_rd, s_wr, s_ite, z_ite, z_neg, z_add, z_sub, z_mul, z_le, z_lt, z_eq, eC_at, eC_7, eC_8, eC_9, eC_10, eC_11, eC_p7, eC_p8, eC_p9, eC_p10, eC_p11, eC_up, ud_same, ud_ne, if_pos, if_neg, z_0, z_1, z_2, z_3, z_4, z_5, z_6, z_7, z_8, z_9, z_10, z_11, z_12, z_13, z_14, z_15, z_16, z_17, z_18, z_19, z_20, z_21, z_22, z_23, z_24, z_25, z_26, z_27, z_28, z_29, z_30, z_31, z_32, z_33, z_34, z_35, z_36, z_37, z_38, z_39, z_40, z_41, z_42, z_43, z_44, z_45, z_46, z_47, z_48, z_49, z_50, z_51, z_52, z_53, z_54, z_55, z_56, z_57, z_58, z_59, z_60, z_61, z_62, z_63, z_64, z_65, z_66, z_67, z_68, z_69, z_70, z_71, z_72, z_73, z_74, z_75, z_76, z_77, z_78, z_79, z_80, z_81, z_82, z_83, z_84, z_85, z_86, z_87, z_88, z_89, z_90, z_91, z_92, z_93, z_94, z_95, z_96, z_97, z_98, z_99, z_100, z_101, z_102, z_103, z_104, z_105, z_106, z_107, z_108, z_109, z_110, z_111, z_112, z_113, z_114, z_115, z_116, z_117, z_118, z_119, z_120, z_121, z_122, z_123, z_124, z_125, z_126, z_127, z_199, z_200, z_360, z_410, z_1000, z_1023, z_1024, z_1219, z_9999, z_10240, z_65537]
theorem mwr_4 (d m : Nat → Int → Int) (τ : qL) {c : Int} (hc : m 99 32 = c) (c0 : 0 ≤ c) (c1 : c + 10 ≤ 400) (h33 : m 99 33 = 1) : ∃ m', f_X7_passRow_4 (eC (pw m d)) τ (10 : Int32) = some (eC (pw m' d)) ∧ fW m m' c (c + 10) ∧ (∀ j, 0 ≤ j → j < 10 → m' 30 (c + j) = d 4 j) := by
  subst hc
  obtain ⟨m', e1, e2, e3⟩ := mw_4 d τ 20000 0 m (by omega) (by omega) (by omega) h33 c0 (by omega)
  refine ⟨m', e1, by rw [show m 99 32 + ((10 : Int) - 0) = m 99 32 + 10 by omega] at e2; exact e2, fun j j0 j1 => ?_⟩
  have := e3 j j0 j1
  rwa [show m 99 32 + (j - 0) = m 99 32 + j by omega] at this
theorem mrr_4 (m d : Nat → Int → Int) (τ : qL) {c : Int} (hc : m 99 32 = c) (c0 : 0 ≤ c) (c1 : c + 10 ≤ 400) (h33 : m 99 33 = 0) : ∃ d', f_X7_passRow_4 (eC (pw m d)) τ (10 : Int32) = some (eC (pw (ud m 99 32 (c + 10)) d')) ∧ (∀ a b, (a = 4 ∧ 0 ≤ b ∧ b < 10) ∨ d' a b = d a b) ∧ (∀ j, 0 ≤ j → j < 10 → d' 4 j = m 30 (c + j)) := by
  subst hc
  obtain ⟨d', e1, e2, e3⟩ := mr_4 τ 20000 0 m d (by omega) (by omega) (by omega) h33 c0 (by omega)
  refine ⟨d', by rw [show m 99 32 + ((10 : Int) - 0) = m 99 32 + 10 by omega] at e1; exact e1, e2, fun j j0 j1 => ?_⟩
  have := e3 j j0 j1
  rwa [show m 99 32 + (j - 0) = m 99 32 + j by omega] at this
theorem mw_9 (d : Nat → Int → Int) (τ : qL) : ∀ (N : Nat) (i : Int) (m : Nat → Int → Int), 0 ≤ i → i ≤ 8 → (8 - i).toNat < N → m 99 33 = 1 → 0 ≤ m 99 32 → m 99 32 + (8 - i) ≤ 400 →
    ∃ m', q_lp (b_X7_passRow_9_2 τ (8 : Int32)) (fun z1 => some z1.2) N (zI i, eC (pw m d)) = some (eC (pw m' d)) ∧ fW m m' (m 99 32) (m 99 32 + (8 - i)) ∧ (∀ j, i ≤ j → j < 8 → m' 30 (m 99 32 + (j - i)) = d 5 j) := by
  intro N
  induction N with
  | zero => intro i m _ _ h; omega
  | succ N ih =>
    intro i m h0 h1 hN h33 c0 c1
    rw [lp_s]
    unfold b_X7_passRow_9_2
    by_cases c : i < 8
    · have hp := m_passW m d τ (v := d 5 i) h33 c0 (by omega)
      obtain ⟨m', e1, e2, e3⟩ := ih (i + 1) (ud (ud m 30 (m 99 32) (d 5 i)) 99 32 (m 99 32 + 1)) (by omega) (by omega) (by omega) (by rw [ud_ne _ _ (by omega), ud_ne _ _ (by omega)]; exact h33) (by rw [ud_same]; omega) (by rw [ud_same]; omega)
      rw [ud_same] at e2 e3
      have h1' := fW_1 m (d 5 i) rfl
      refine ⟨m', ?_, ?_, fun j j0 j1 => ?_⟩
      · simp (disch := omega) only [hp, ud_self, pw_0, up_0, pw_1, up_1, pw_2, up_2, pw_3, up_3, pw_4, up_4, pw_9, up_9, pw_10, up_10, pwi_5, upi_5, pwi_6, upi_6, pwi_7, upi_7, pwi_8, upi_8, pwi_11, upi_11, pw_12, up_12, pw_14, up_14, pw_15, up_15, pw_16, up_16, pw_18, up_18, pw_24, up_24, pw_25, up_25, pw_26, up_26, pw_29, up_29, pw_30, up_30, pw_31, up_31, pwi_13, upi_13, pwi_17, upi_17, pwi_19, upi_19, pwi_20, upi_20, pwi_21, upi_21, pwi_22, upi_22, pwi_23, upi_23, pwi_32, upi_32, pwi_33, upi_33, eC_5, eC_6, eC_13, eC_17, eC_19, eC_20, eC_21, eC_22, eC_23, eC_32, eC_33, eC_p5, eC_p6, eC_p13, eC_p17, eC_p19, eC_p20, eC_p21, eC_p22, eC_p23, eC_p32, eC_p33, s_T, s_F, s_bd, s_cl, s_rd, s_wr, s_ite, z_ite, z_neg, z_add, z_sub, z_mul, z_le, z_lt, z_eq, eC_at, eC_7, eC_8, eC_9, eC_10, eC_11, eC_p7, eC_p8, eC_p9, eC_p10, eC_p11, eC_up, ud_same, ud_ne, if_pos, if_neg, z_0, z_1, z_2, z_3, z_4, z_5, z_6, z_7, z_8, z_9, z_10, z_11, z_12, z_13, z_14, z_15, z_16, z_17, z_18, z_19, z_20, z_21, z_22, z_23, z_24, z_25, z_26, z_27, z_28, z_29, z_30, z_31, z_32, z_33, z_34, z_35, z_36, z_37, z_38, z_39, z_40, z_41, z_42, z_43, z_44, z_45, z_46, z_47, z_48, z_49, z_50, z_51, z_52, z_53, z_54, z_55, z_56, z_57, z_58, z_59, z_60, z_61, z_62, z_63, z_64, z_65, z_66, z_67, z_68, z_69, z_70, z_71, z_72, z_73, z_74, z_75, z_76, z_77, z_78, z_79, z_80, z_81, z_82, z_83, z_84, z_85, z_86, z_87, z_88, z_89, z_90, z_91, z_92, z_93, z_94, z_95, z_96, z_97, z_98, z_99, z_100, z_101, z_102, z_103, z_104, z_105, z_106, z_107, z_108, z_109, z_110, z_111, z_112, z_113, z_114, z_115, z_116, z_117, z_118, z_119, z_120, z_121, z_122, z_123, z_124, z_125, z_126, z_127, z_199, z_200, z_360, z_410, z_1000, z_1023, z_1024, z_1219, z_9999, z_10240, z_65537]
        exact e1
      · have := fW_tr h1' e2 (by omega) (by omega)
        rw [show m 99 32 + 1 + (8 - (i + 1)) = m 99 32 + (8 - i) by omega] at this
        exact this
      · by_cases e : j = i
        · subst e
          rw [show m 99 32 + (j - j) = m 99 32 by omega, fW_at e2 (by omega), ud_ne _ _ (by omega), ud_same]
        · have := e3 j (by omega) j1
          rw [show m 99 32 + 1 + (j - (i + 1)) = m 99 32 + (j - i) by omega] at this
          exact this
    · refine ⟨m, ?_, ⟨by omega, fun a b => Or.inr (Or.inr rfl)⟩, fun j j0 j1 => by omega⟩
      simp (disch := omega) only [pw_0, up_0, pw_1, up_1, pw_2, up_2, pw_3, up_3, pw_4, up_4, pw_9, up_9, pw_10, up_10, pwi_5, upi_5, pwi_6, upi_6, pwi_7, upi_7, pwi_8, upi_8, pwi_11, upi_11, pw_12, up_12, pw_14, up_14, pw_15, up_15, pw_16, up_16, pw_18, up_18, pw_24, up_24, pw_25, up_25, pw_26, up_26, pw_29, up_29, pw_30, up_30, pw_31, up_31, pwi_13, upi_13, pwi_17, upi_17, pwi_19, upi_19, pwi_20, upi_20, pwi_21, upi_21, pwi_22, upi_22, pwi_23, upi_23, pwi_32, upi_32, pwi_33, upi_33, eC_5, eC_6, eC_13, eC_17, eC_19, eC_20, eC_21, eC_22, eC_23, eC_32, eC_33, eC_p5, eC_p6, eC_p13, eC_p17, eC_p19, eC_p20, eC_p21, eC_p22, eC_p23, eC_p32, eC_p33, s_T, s_F, s_bd, s_cl, s_rd, s_wr, s_ite, z_ite, z_neg, z_add, z_sub, z_mul, z_le, z_lt, z_eq, eC_at, eC_7, eC_8, eC_9, eC_10, eC_11, eC_p7, eC_p8, eC_p9, eC_p10, eC_p11, eC_up, ud_same, ud_ne, if_pos, if_neg, z_0, z_1, z_2, z_3, z_4, z_5, z_6, z_7, z_8, z_9, z_10, z_11, z_12, z_13, z_14, z_15, z_16, z_17, z_18, z_19, z_20, z_21, z_22, z_23, z_24, z_25, z_26, z_27, z_28, z_29, z_30, z_31, z_32, z_33, z_34, z_35, z_36, z_37, z_38, z_39, z_40, z_41, z_42, z_43, z_44, z_45, z_46, z_47, z_48, z_49, z_50, z_51, z_52, z_53, z_54, z_55, z_56, z_57, z_58, z_59, z_60, z_61, z_62, z_63, z_64, z_65, z_66, z_67, z_68, z_69, z_70, z_71, z_72, z_73, z_74, z_75, z_76, z_77, z_78, z_79, z_80, z_81, z_82, z_83, z_84, z_85, z_86, z_87, z_88, z_89, z_90, z_91, z_92, z_93, z_94, z_95, z_96, z_97, z_98, z_99, z_100, z_101, z_102, z_103, z_104, z_105, z_106, z_107, z_108, z_109, z_110, z_111, z_112, z_113, z_114, z_115, z_116, z_117, z_118, z_119, z_120, z_121, z_122, z_123, z_124, z_125, z_126, z_127, z_199, z_200, z_360, z_410, z_1000, z_1023, z_1024, z_1219, z_9999, z_10240, z_65537]
theorem mr_9 (τ : qL) : ∀ (N : Nat) (i : Int) (m d : Nat → Int → Int), 0 ≤ i → i ≤ 8 → (8 - i).toNat < N → m 99 33 = 0 → 0 ≤ m 99 32 → m 99 32 + (8 - i) ≤ 400 →
    ∃ d', q_lp (b_X7_passRow_9_2 τ (8 : Int32)) (fun z1 => some z1.2) N (zI i, eC (pw m d)) = some (eC (pw (ud m 99 32 (m 99 32 + (8 - i))) d')) ∧ (∀ a b, (a = 5 ∧ i ≤ b ∧ b < 8) ∨ d' a b = d a b) ∧ (∀ j, i ≤ j → j < 8 → d' 5 j = m 30 (m 99 32 + (j - i))) := by
  intro N
  induction N with
  | zero => intro i m d _ _ h; omega
  | succ N ih =>
    intro i m d h0 h1 hN h33 c0 c1
    rw [lp_s]
    unfold b_X7_passRow_9_2
    by_cases c : i < 8
    · have hp := m_passR m d τ (zI (d 5 i)) h33 c0 (by omega)
      obtain ⟨d', e1, e2, e3⟩ := ih (i + 1) (ud m 99 32 (m 99 32 + 1)) (ud d 5 i (m 30 (m 99 32))) (by omega) (by omega) (by omega) (by rw [ud_ne _ _ (by omega)]; exact h33) (by rw [ud_same]; omega) (by rw [ud_same]; omega)
      rw [ud_same, ud_ud, show m 99 32 + 1 + (8 - (i + 1)) = m 99 32 + (8 - i) by omega] at e1
      refine ⟨d', ?_, fun a b => ?_, fun j j0 j1 => ?_⟩
      · simp (disch := omega) only [hp, pw_0, up_0, pw_1, up_1, pw_2, up_2, pw_3, up_3, pw_4, up_4, pw_9, up_9, pw_10, up_10, pwi_5, upi_5, pwi_6, upi_6, pwi_7, upi_7, pwi_8, upi_8, pwi_11, upi_11, pw_12, up_12, pw_14, up_14, pw_15, up_15, pw_16, up_16, pw_18, up_18, pw_24, up_24, pw_25, up_25, pw_26, up_26, pw_29, up_29, pw_30, up_30, pw_31, up_31, pwi_13, upi_13, pwi_17, upi_17, pwi_19, upi_19, pwi_20, upi_20, pwi_21, upi_21, pwi_22, upi_22, pwi_23, upi_23, pwi_32, upi_32, pwi_33, upi_33, eC_5, eC_6, eC_13, eC_17, eC_19, eC_20, eC_21, eC_22, eC_23, eC_32, eC_33, eC_p5, eC_p6, eC_p13, eC_p17, eC_p19, eC_p20, eC_p21, eC_p22, eC_p23, eC_p32, eC_p33, s_T, s_F, s_bd, s_cl, s_rd, s_wr, s_ite, z_ite, z_neg, z_add, z_sub, z_mul, z_le, z_lt, z_eq, eC_at, eC_7, eC_8, eC_9, eC_10, eC_11, eC_p7, eC_p8, eC_p9, eC_p10, eC_p11, eC_up, ud_same, ud_ne, if_pos, if_neg, z_0, z_1, z_2, z_3, z_4, z_5, z_6, z_7, z_8, z_9, z_10, z_11, z_12, z_13, z_14, z_15, z_16, z_17, z_18, z_19, z_20, z_21, z_22, z_23, z_24, z_25, z_26, z_27, z_28, z_29, z_30, z_31, z_32, z_33, z_34, z_35, z_36, z_37, z_38, z_39, z_40, z_41, z_42, z_43, z_44, z_45, z_46, z_47, z_48, z_49, z_50, z_51, z_52, z_53, z_54, z_55, z_56, z_57, z_58, z_59, z_60, z_61, z_62, z_63, z_64, z_65, z_66, z_67, z_68, z_69, z_70, z_71, z_72, z_73, z_74, z_75, z_76, z_77, z_78, z_79, z_80, z_81, z_82, z_83, z_84, z_85, z_86, z_87, z_88, z_89, z_90, z_91, z_92, z_93, z_94, z_95, z_96, z_97, z_98, z_99, z_100, z_101, z_102, z_103, z_104, z_105, z_106, z_107, z_108, z_109, z_110, z_111, z_112, z_113, z_114, z_115, z_116, z_117, z_118, z_119, z_120, z_121, z_122, z_123, z_124, z_125, z_126, z_127, z_199, z_200, z_360, z_410, z_1000, z_1023, z_1024, z_1219, z_9999, z_10240, z_65537]
        exact e1
      · rcases e2 a b with z | z
        · exact Or.inl (by omega)
        · by_cases e : a = 5 ∧ b = i
          · exact Or.inl (by omega)
          · exact Or.inr (by rw [z, ud_ne _ _ (by omega)])
      · by_cases e : j = i
        · subst e
          rcases e2 5 j with z | z
          · omega
          · rw [z, ud_same, show m 99 32 + (j - j) = m 99 32 by omega]
        · have := e3 j (by omega) j1
          rw [ud_same, ud_ne _ _ (by omega), show m 99 32 + 1 + (j - (i + 1)) = m 99 32 + (j - i) by omega] at this
          exact this
    · refine ⟨d, ?_, fun a b => Or.inr rfl, fun j j0 j1 => by omega⟩
      rw [show m 99 32 + (8 - i) = m 99 32 by omega, ud_self]
      simp (disch := omega) only [pw_0, up_0, pw_1, up_1, pw_2, up_2, pw_3, up_3, pw_4, up_4, pw_9, up_9, pw_10, up_10, pwi_5, upi_5, pwi_6, upi_6, pwi_7, upi_7, pwi_8, upi_8, pwi_11, upi_11, pw_12, up_12, pw_14, up_14, pw_15, up_15, pw_16, up_16, pw_18, up_18, pw_24, up_24, pw_25, up_25, pw_26, up_26, pw_29, up_29, pw_30, up_30, pw_31, up_31, pwi_13, upi_13, pwi_17, upi_17, pwi_19, upi_19, pwi_20, upi_20, pwi_21, upi_21, pwi_22, upi_22, pwi_23, upi_23, pwi_32, upi_32, pwi_33, upi_33, eC_5, eC_6, eC_13, eC_17, eC_19, eC_20, eC_21, eC_22, eC_23, eC_32, eC_33, eC_p5, eC_p6, eC_p13, eC_p17, eC_p19, eC_p20, eC_p21, eC_p22, eC_p23, eC_p32, eC_p33, s_T, s_F, s_bd, s_cl, s_rd, s_wr, s_ite, z_ite, z_neg, z_add, z_sub, z_mul, z_le, z_lt, z_eq, eC_at, eC_7, eC_8, eC_9, eC_10, eC_11, eC_p7, eC_p8, eC_p9, eC_p10, eC_p11, eC_up, ud_same, ud_ne, if_pos, if_neg, z_0, z_1, z_2, z_3, z_4, z_5, z_6, z_7, z_8, z_9, z_10, z_11, z_12, z_13, z_14, z_15, z_16, z_17, z_18, z_19, z_20, z_21, z_22, z_23, z_24, z_25, z_26, z_27, z_28, z_29, z_30, z_31, z_32, z_33, z_34, z_35, z_36, z_37, z_38, z_39, z_40, z_41, z_42, z_43, z_44, z_45, z_46, z_47, z_48, z_49, z_50, z_51, z_52, z_53, z_54, z_55, z_56, z_57, z_58, z_59, z_60, z_61, z_62, z_63, z_64, z_65, z_66, z_67, z_68, z_69, z_70, z_71, z_72, z_73, z_74, z_75, z_76, z_77, z_78, z_79, z_80, z_81, z_82, z_83, z_84, z_85, z_86, z_87, z_88, z_89, z_90, z_91, z_92, z_93, z_94, z_95, z_96, z_97, z_98, z_99, z_100, z_101, z_102, z_103, z_104, z_105, z_106, z_107, z_108, z_109, z_110, z_111, z_112, z_113, z_114, z_115, z_116, z_117, z_118, z_119, z_120, z_121, z_122, z_123, z_124, z_125, z_126, z_127, z_199, z_200, z_360, z_410, z_1000, z_1023, z_1024, z_1219, z_9999, z_10240, z_65537]
theorem mwr_9 (d m : Nat → Int → Int) (τ : qL) {c : Int} (hc : m 99 32 = c) (c0 : 0 ≤ c) (c1 : c + 8 ≤ 400) (h33 : m 99 33 = 1) : ∃ m', f_X7_passRow_9 (eC (pw m d)) τ (8 : Int32) = some (eC (pw m' d)) ∧ fW m m' c (c + 8) ∧ (∀ j, 0 ≤ j → j < 8 → m' 30 (c + j) = d 5 j) := by
  subst hc
  obtain ⟨m', e1, e2, e3⟩ := mw_9 d τ 20000 0 m (by omega) (by omega) (by omega) h33 c0 (by omega)
  refine ⟨m', e1, by rw [show m 99 32 + ((8 : Int) - 0) = m 99 32 + 8 by omega] at e2; exact e2, fun j j0 j1 => ?_⟩
  have := e3 j j0 j1
  rwa [show m 99 32 + (j - 0) = m 99 32 + j by omega] at this
theorem mrr_9 (m d : Nat → Int → Int) (τ : qL) {c : Int} (hc : m 99 32 = c) (c0 : 0 ≤ c) (c1 : c + 8 ≤ 400) (h33 : m 99 33 = 0) : ∃ d', f_X7_passRow_9 (eC (pw m d)) τ (8 : Int32) = some (eC (pw (ud m 99 32 (c + 8)) d')) ∧ (∀ a b, (a = 5 ∧ 0 ≤ b ∧ b < 8) ∨ d' a b = d a b) ∧ (∀ j, 0 ≤ j → j < 8 → d' 5 j = m 30 (c + j)) := by
  subst hc
  obtain ⟨d', e1, e2, e3⟩ := mr_9 τ 20000 0 m d (by omega) (by omega) (by omega) h33 c0 (by omega)
  refine ⟨d', by rw [show m 99 32 + ((8 : Int) - 0) = m 99 32 + 8 by omega] at e1; exact e1, e2, fun j j0 j1 => ?_⟩
  have := e3 j j0 j1
  rwa [show m 99 32 + (j - 0) = m 99 32 + j by omega] at this
theorem mw_10 (d : Nat → Int → Int) (τ : qL) : ∀ (N : Nat) (i : Int) (m : Nat → Int → Int), 0 ≤ i → i ≤ 8 → (8 - i).toNat < N → m 99 33 = 1 → 0 ≤ m 99 32 → m 99 32 + (8 - i) ≤ 400 →
    ∃ m', q_lp (b_X7_passRow_10_2 τ (8 : Int32)) (fun z1 => some z1.2) N (zI i, eC (pw m d)) = some (eC (pw m' d)) ∧ fW m m' (m 99 32) (m 99 32 + (8 - i)) ∧ (∀ j, i ≤ j → j < 8 → m' 30 (m 99 32 + (j - i)) = d 6 j) := by
  intro N
  induction N with
  | zero => intro i m _ _ h; omega
  | succ N ih =>
    intro i m h0 h1 hN h33 c0 c1
    rw [lp_s]
    unfold b_X7_passRow_10_2
    by_cases c : i < 8
    · have hp := m_passW m d τ (v := d 6 i) h33 c0 (by omega)
      obtain ⟨m', e1, e2, e3⟩ := ih (i + 1) (ud (ud m 30 (m 99 32) (d 6 i)) 99 32 (m 99 32 + 1)) (by omega) (by omega) (by omega) (by rw [ud_ne _ _ (by omega), ud_ne _ _ (by omega)]; exact h33) (by rw [ud_same]; omega) (by rw [ud_same]; omega)
      rw [ud_same] at e2 e3
      have h1' := fW_1 m (d 6 i) rfl
      refine ⟨m', ?_, ?_, fun j j0 j1 => ?_⟩
      · simp (disch := omega) only [hp, ud_self, pw_0, up_0, pw_1, up_1, pw_2, up_2, pw_3, up_3, pw_4, up_4, pw_9, up_9, pw_10, up_10, pwi_5, upi_5, pwi_6, upi_6, pwi_7, upi_7, pwi_8, upi_8, pwi_11, upi_11, pw_12, up_12, pw_14, up_14, pw_15, up_15, pw_16, up_16, pw_18, up_18, pw_24, up_24, pw_25, up_25, pw_26, up_26, pw_29, up_29, pw_30, up_30, pw_31, up_31, pwi_13, upi_13, pwi_17, upi_17, pwi_19, upi_19, pwi_20, upi_20, pwi_21, upi_21, pwi_22, upi_22, pwi_23, upi_23, pwi_32, upi_32, pwi_33, upi_33, eC_5, eC_6, eC_13, eC_17, eC_19, eC_20, eC_21, eC_22, eC_23, eC_32, eC_33, eC_p5, eC_p6, eC_p13, eC_p17, eC_p19, eC_p20, eC_p21, eC_p22, eC_p23, eC_p32, eC_p33, s_T, s_F, s_bd, s_cl, s_rd, s_wr, s_ite, z_ite, z_neg, z_add, z_sub, z_mul, z_le, z_lt, z_eq, eC_at, eC_7, eC_8, eC_9, eC_10, eC_11, eC_p7, eC_p8, eC_p9, eC_p10, eC_p11, eC_up, ud_same, ud_ne, if_pos, if_neg, z_0, z_1, z_2, z_3, z_4, z_5, z_6, z_7, z_8, z_9, z_10, z_11, z_12, z_13, z_14, z_15, z_16, z_17, z_18, z_19, z_20, z_21, z_22, z_23, z_24, z_25, z_26, z_27, z_28, z_29, z_30, z_31, z_32, z_33, z_34, z_35, z_36, z_37, z_38, z_39, z_40, z_41, z_42, z_43, z_44, z_45, z_46, z_47, z_48, z_49, z_50, z_51, z_52, z_53, z_54, z_55, z_56, z_57, z_58, z_59, z_60, z_61, z_62, z_63, z_64, z_65, z_66, z_67, z_68, z_69, z_70, z_71, z_72, z_73, z_74, z_75, z_76, z_77, z_78, z_79, z_80, z_81, z_82, z_83, z_84, z_85, z_86, z_87, z_88, z_89, z_90, z_91, z_92, z_93, z_94, z_95, z_96, z_97, z_98, z_99, z_100, z_101, z_102, z_103, z_104, z_105, z_106, z_107, z_108, z_109, z_110, z_111, z_112, z_113, z_114, z_115, z_116, z_117, z_118, z_119, z_120, z_121, z_122, z_123, z_124, z_125, z_126, z_127, z_199, z_200, z_360, z_410, z_1000, z_1023, z_1024, z_1219, z_9999, z_10240, z_65537]
        exact e1
      · have := fW_tr h1' e2 (by omega) (by omega)
        rw [show m 99 32 + 1 + (8 - (i + 1)) = m 99 32 + (8 - i) by omega] at this
        exact this
      · by_cases e : j = i
        · subst e
          rw [show m 99 32 + (j - j) = m 99 32 by omega, fW_at e2 (by omega), ud_ne _ _ (by omega), ud_same]
        · have := e3 j (by omega) j1
          rw [show m 99 32 + 1 + (j - (i + 1)) = m 99 32 + (j - i) by omega] at this
          exact this
    · refine ⟨m, ?_, ⟨by omega, fun a b => Or.inr (Or.inr rfl)⟩, fun j j0 j1 => by omega⟩
      simp (disch := omega) only [pw_0, up_0, pw_1, up_1, pw_2, up_2, pw_3, up_3, pw_4, up_4, pw_9, up_9, pw_10, up_10, pwi_5, upi_5, pwi_6, upi_6, pwi_7, upi_7, pwi_8, upi_8, pwi_11, upi_11, pw_12, up_12, pw_14, up_14, pw_15, up_15, pw_16, up_16, pw_18, up_18, pw_24, up_24, pw_25, up_25, pw_26, up_26, pw_29, up_29, pw_30, up_30, pw_31, up_31, pwi_13, upi_13, pwi_17, upi_17, pwi_19, upi_19, pwi_20, upi_20, pwi_21, upi_21, pwi_22, upi_22, pwi_23, upi_23, pwi_32, upi_32, pwi_33, upi_33, eC_5, eC_6, eC_13, eC_17, eC_19, eC_20, eC_21, eC_22, eC_23, eC_32, eC_33, eC_p5, eC_p6, eC_p13, eC_p17, eC_p19, eC_p20, eC_p21, eC_p22, eC_p23, eC_p32, eC_p33, s_T, s_F, s_bd, s_cl, s_rd, s_wr, s_ite, z_ite, z_neg, z_add, z_sub, z_mul, z_le, z_lt, z_eq, eC_at, eC_7, eC_8, eC_9, eC_10, eC_11, eC_p7, eC_p8, eC_p9, eC_p10, eC_p11, eC_up, ud_same, ud_ne, if_pos, if_neg, z_0, z_1, z_2, z_3, z_4, z_5, z_6, z_7, z_8, z_9, z_10, z_11, z_12, z_13, z_14, z_15, z_16, z_17, z_18, z_19, z_20, z_21, z_22, z_23, z_24, z_25, z_26, z_27, z_28, z_29, z_30, z_31, z_32, z_33, z_34, z_35, z_36, z_37, z_38, z_39, z_40, z_41, z_42, z_43, z_44, z_45, z_46, z_47, z_48, z_49, z_50, z_51, z_52, z_53, z_54, z_55, z_56, z_57, z_58, z_59, z_60, z_61, z_62, z_63, z_64, z_65, z_66, z_67, z_68, z_69, z_70, z_71, z_72, z_73, z_74, z_75, z_76, z_77, z_78, z_79, z_80, z_81, z_82, z_83, z_84, z_85, z_86, z_87, z_88, z_89, z_90, z_91, z_92, z_93, z_94, z_95, z_96, z_97, z_98, z_99, z_100, z_101, z_102, z_103, z_104, z_105, z_106, z_107, z_108, z_109, z_110, z_111, z_112, z_113, z_114, z_115, z_116, z_117, z_118, z_119, z_120, z_121, z_122, z_123, z_124, z_125, z_126, z_127, z_199, z_200, z_360, z_410, z_1000, z_1023, z_1024, z_1219, z_9999, z_10240, z_65537]
theorem mr_10 (τ : qL) : ∀ (N : Nat) (i : Int) (m d : Nat → Int → Int), 0 ≤ i → i ≤ 8 → (8 - i).toNat < N → m 99 33 = 0 → 0 ≤ m 99 32 → m 99 32 + (8 - i) ≤ 400 →
    ∃ d', q_lp (b_X7_passRow_10_2 τ (8 : Int32)) (fun z1 => some z1.2) N (zI i, eC (pw m d)) = some (eC (pw (ud m 99 32 (m 99 32 + (8 - i))) d')) ∧ (∀ a b, (a = 6 ∧ i ≤ b ∧ b < 8) ∨ d' a b = d a b) ∧ (∀ j, i ≤ j → j < 8 → d' 6 j = m 30 (m 99 32 + (j - i))) := by
  intro N
  induction N with
  | zero => intro i m d _ _ h; omega
  | succ N ih =>
    intro i m d h0 h1 hN h33 c0 c1
    rw [lp_s]
    unfold b_X7_passRow_10_2
    by_cases c : i < 8
    · have hp := m_passR m d τ (zI (d 6 i)) h33 c0 (by omega)
      obtain ⟨d', e1, e2, e3⟩ := ih (i + 1) (ud m 99 32 (m 99 32 + 1)) (ud d 6 i (m 30 (m 99 32))) (by omega) (by omega) (by omega) (by rw [ud_ne _ _ (by omega)]; exact h33) (by rw [ud_same]; omega) (by rw [ud_same]; omega)
      rw [ud_same, ud_ud, show m 99 32 + 1 + (8 - (i + 1)) = m 99 32 + (8 - i) by omega] at e1
      refine ⟨d', ?_, fun a b => ?_, fun j j0 j1 => ?_⟩
      · simp (disch := omega) only [hp, pw_0, up_0, pw_1, up_1, pw_2, up_2, pw_3, up_3, pw_4, up_4, pw_9, up_9, pw_10, up_10, pwi_5, upi_5, pwi_6, upi_6, pwi_7, upi_7, pwi_8, upi_8, pwi_11, upi_11, pw_12, up_12, pw_14, up_14, pw_15, up_15, pw_16, up_16, pw_18, up_18, pw_24, up_24, pw_25, up_25, pw_26, up_26, pw_29, up_29, pw_30, up_30, pw_31, up_31, pwi_13, upi_13, pwi_17, upi_17, pwi_19, upi_19, pwi_20, upi_20, pwi_21, upi_21, pwi_22, upi_22, pwi_23, upi_23, pwi_32, upi_32, pwi_33, upi_33, eC_5, eC_6, eC_13, eC_17, eC_19, eC_20, eC_21, eC_22, eC_23, eC_32, eC_33, eC_p5, eC_p6, eC_p13, eC_p17, eC_p19, eC_p20, eC_p21, eC_p22, eC_p23, eC_p32, eC_p33, s_T, s_F, s_bd, s_cl, s_rd, s_wr, s_ite, z_ite, z_neg, z_add, z_sub, z_mul, z_le, z_lt, z_eq, eC_at, eC_7, eC_8, eC_9, eC_10, eC_11, eC_p7, eC_p8, eC_p9, eC_p10, eC_p11, eC_up, ud_same, ud_ne, if_pos, if_neg, z_0, z_1, z_2, z_3, z_4, z_5, z_6, z_7, z_8, z_9, z_10, z_11, z_12, z_13, z_14, z_15, z_16, z_17, z_18, z_19, z_20, z_21, z_22, z_23, z_24, z_25, z_26, z_27, z_28, z_29, z_30, z_31, z_32, z_33, z_34, z_35, z_36, z_37, z_38, z_39, z_40, z_41, z_42, z_43, z_44, z_45, z_46, z_47, z_48, z_49, z_50, z_51, z_52, z_53, z_54, z_55, z_56, z_57, z_58, z_59, z_60, z_61, z_62, z_63, z_64, z_65, z_66, z_67, z_68, z_69, z_70, z_71, z_72, z_73, z_74, z_75, z_76, z_77, z_78, z_79, z_80, z_81, z_82, z_83, z_84, z_85, z_86, z_87, z_88, z_89, z_90, z_91, z_92, z_93, z_94, z_95, z_96, z_97, z_98, z_99, z_100, z_101, z_102, z_103, z_104, z_105, z_106, z_107, z_108, z_109, z_110, z_111, z_112, z_113, z_114, z_115, z_116, z_117, z_118, z_119, z_120, z_121, z_122, z_123, z_124, z_125, z_126, z_127, z_199, z_200, z_360, z_410, z_1000, z_1023, z_1024, z_1219, z_9999, z_10240, z_65537]
        exact e1
      · rcases e2 a b with z | z
        · exact Or.inl (by omega)
        · by_cases e : a = 6 ∧ b = i
          · exact Or.inl (by omega)
          · exact Or.inr (by rw [z, ud_ne _ _ (by omega)])
      · by_cases e : j = i
        · subst e
          rcases e2 6 j with z | z
          · omega
          · rw [z, ud_same, show m 99 32 + (j - j) = m 99 32 by omega]
        · have := e3 j (by omega) j1
          rw [ud_same, ud_ne _ _ (by omega), show m 99 32 + 1 + (j - (i + 1)) = m 99 32 + (j - i) by omega] at this
          exact this
    · refine ⟨d, ?_, fun a b => Or.inr rfl, fun j j0 j1 => by omega⟩
      rw [show m 99 32 + (8 - i) = m 99 32 by omega, ud_self]
      simp (disch := omega) only [pw_0, up_0, pw_1, up_1, pw_2, up_2, pw_3, up_3, pw_4, up_4, pw_9, up_9, pw_10, up_10, pwi_5, upi_5, pwi_6, upi_6, pwi_7, upi_7, pwi_8, upi_8, pwi_11, upi_11, pw_12, up_12, pw_14, up_14, pw_15, up_15, pw_16, up_16, pw_18, up_18, pw_24, up_24, pw_25, up_25, pw_26, up_26, pw_29, up_29, pw_30, up_30, pw_31, up_31, pwi_13, upi_13, pwi_17, upi_17, pwi_19, upi_19, pwi_20, upi_20, pwi_21, upi_21, pwi_22, upi_22, pwi_23, upi_23, pwi_32, upi_32, pwi_33, upi_33, eC_5, eC_6, eC_13, eC_17, eC_19, eC_20, eC_21, eC_22, eC_23, eC_32, eC_33, eC_p5, eC_p6, eC_p13, eC_p17, eC_p19, eC_p20, eC_p21, eC_p22, eC_p23, eC_p32, eC_p33, s_T, s_F, s_bd, s_cl, s_rd, s_wr, s_ite, z_ite, z_neg, z_add, z_sub, z_mul, z_le, z_lt, z_eq, eC_at, eC_7, eC_8, eC_9, eC_10, eC_11, eC_p7, eC_p8, eC_p9, eC_p10, eC_p11, eC_up, ud_same, ud_ne, if_pos, if_neg, z_0, z_1, z_2, z_3, z_4, z_5, z_6, z_7, z_8, z_9, z_10, z_11, z_12, z_13, z_14, z_15, z_16, z_17, z_18, z_19, z_20, z_21, z_22, z_23, z_24, z_25, z_26, z_27, z_28, z_29, z_30, z_31, z_32, z_33, z_34, z_35, z_36, z_37, z_38, z_39, z_40, z_41, z_42, z_43, z_44, z_45, z_46, z_47, z_48, z_49, z_50, z_51, z_52, z_53, z_54, z_55, z_56, z_57, z_58, z_59, z_60, z_61, z_62, z_63, z_64, z_65, z_66, z_67, z_68, z_69, z_70, z_71, z_72, z_73, z_74, z_75, z_76, z_77, z_78, z_79, z_80, z_81, z_82, z_83, z_84, z_85, z_86, z_87, z_88, z_89, z_90, z_91, z_92, z_93, z_94, z_95, z_96, z_97, z_98, z_99, z_100, z_101, z_102, z_103, z_104, z_105, z_106, z_107, z_108, z_109, z_110, z_111, z_112, z_113, z_114, z_115, z_116, z_117, z_118, z_119, z_120, z_121, z_122, z_123, z_124, z_125, z_126, z_127, z_199, z_200, z_360, z_410, z_1000, z_1023, z_1024, z_1219, z_9999, z_10240, z_65537]
theorem mwr_10 (d m : Nat → Int → Int) (τ : qL) {c : Int} (hc : m 99 32 = c) (c0 : 0 ≤ c) (c1 : c + 8 ≤ 400) (h33 : m 99 33 = 1) : ∃ m', f_X7_passRow_10 (eC (pw m d)) τ (8 : Int32) = some (eC (pw m' d)) ∧ fW m m' c (c + 8) ∧ (∀ j, 0 ≤ j → j < 8 → m' 30 (c + j) = d 6 j) := by
  subst hc
  obtain ⟨m', e1, e2, e3⟩ := mw_10 d τ 20000 0 m (by omega) (by omega) (by omega) h33 c0 (by omega)
  refine ⟨m', e1, by rw [show m 99 32 + ((8 : Int) - 0) = m 99 32 + 8 by omega] at e2; exact e2, fun j j0 j1 => ?_⟩
  have := e3 j j0 j1
  rwa [show m 99 32 + (j - 0) = m 99 32 + j by omega] at this
theorem mrr_10 (m d : Nat → Int → Int) (τ : qL) {c : Int} (hc : m 99 32 = c) (c0 : 0 ≤ c) (c1 : c + 8 ≤ 400) (h33 : m 99 33 = 0) : ∃ d', f_X7_passRow_10 (eC (pw m d)) τ (8 : Int32) = some (eC (pw (ud m 99 32 (c + 8)) d')) ∧ (∀ a b, (a = 6 ∧ 0 ≤ b ∧ b < 8) ∨ d' a b = d a b) ∧ (∀ j, 0 ≤ j → j < 8 → d' 6 j = m 30 (c + j)) := by
  subst hc
  obtain ⟨d', e1, e2, e3⟩ := mr_10 τ 20000 0 m d (by omega) (by omega) (by omega) h33 c0 (by omega)
  refine ⟨d', by rw [show m 99 32 + ((8 : Int) - 0) = m 99 32 + 8 by omega] at e1; exact e1, e2, fun j j0 j1 => ?_⟩
  have := e3 j j0 j1
  rwa [show m 99 32 + (j - 0) = m 99 32 + j by omega] at this
theorem m_allW (m d : Nat → Int → Int) (τ : qL) {c : Int} (hc : m 99 32 = c) (c0 : 0 ≤ c) (c1 : c ≤ 200) (h33 : m 99 33 = 1) : ∃ m', f_X7_passAll (eC (pw m d)) τ = some (eC (pw m' d)) ∧ imgR m' c d ∧ fW m m' c (c + 182) := by
  have w0 := hc
  have v0 := h33
  have p0 := m_passW m d τ (v := d 99 8) v0 (by omega) (by omega)
  rw [w0] at p0
  have f0 := fW_1 m (d 99 8) w0
  have g0 : (ud (ud m 30 c (d 99 8)) 99 32 (c + 1)) 30 c = d 99 8 := by rw [ud_ne _ _ (by omega), ud_same]
  generalize (ud (ud m 30 c (d 99 8)) 99 32 (c + 1)) = m1 at p0 f0 g0
  have w1 := f0.1
  have v1 := (fW_33 f0).trans v0
  have p1 := m_passW m1 d τ (v := d 99 9) v1 (by omega) (by omega)
  rw [w1] at p1
  have f1 := fW_1 m1 (d 99 9) w1
  have g1 : (ud (ud m1 30 (c + 1) (d 99 9)) 99 32 ((c + 1) + 1)) 30 (c + 1) = d 99 9 := by rw [ud_ne _ _ (by omega), ud_same]
  generalize (ud (ud m1 30 (c + 1) (d 99 9)) 99 32 ((c + 1) + 1)) = m2 at p1 f1 g1
  rw [show c + 1 + 1 = c + 2 by omega] at f1
  have w2 := f1.1
  have v2 := (fW_33 f1).trans v1
  have p2 := m_passW m2 d τ (v := d 99 10) v2 (by omega) (by omega)
  rw [w2] at p2
  have f2 := fW_1 m2 (d 99 10) w2
  have g2 : (ud (ud m2 30 (c + 2) (d 99 10)) 99 32 ((c + 2) + 1)) 30 (c + 2) = d 99 10 := by rw [ud_ne _ _ (by omega), ud_same]
  generalize (ud (ud m2 30 (c + 2) (d 99 10)) 99 32 ((c + 2) + 1)) = m3 at p2 f2 g2
  rw [show c + 2 + 1 = c + 3 by omega] at f2
  have w3 := f2.1
  have v3 := (fW_33 f2).trans v2
  have p3 := m_passW m3 d τ (v := d 99 11) v3 (by omega) (by omega)
  rw [w3] at p3
  have f3 := fW_1 m3 (d 99 11) w3
  have g3 : (ud (ud m3 30 (c + 3) (d 99 11)) 99 32 ((c + 3) + 1)) 30 (c + 3) = d 99 11 := by rw [ud_ne _ _ (by omega), ud_same]
  generalize (ud (ud m3 30 (c + 3) (d 99 11)) 99 32 ((c + 3) + 1)) = m4 at p3 f3 g3
  rw [show c + 3 + 1 = c + 4 by omega] at f3
  have w4 := f3.1
  have v4 := (fW_33 f3).trans v3
  have p4 := m_passW m4 d τ (v := d 99 7) v4 (by omega) (by omega)
  rw [w4] at p4
  have f4 := fW_1 m4 (d 99 7) w4
  have g4 : (ud (ud m4 30 (c + 4) (d 99 7)) 99 32 ((c + 4) + 1)) 30 (c + 4) = d 99 7 := by rw [ud_ne _ _ (by omega), ud_same]
  generalize (ud (ud m4 30 (c + 4) (d 99 7)) 99 32 ((c + 4) + 1)) = m5 at p4 f4 g4
  rw [show c + 4 + 1 = c + 5 by omega] at f4
  have w5 := f4.1
  have v5 := (fW_33 f4).trans v4
  obtain ⟨m6, p5, f5, g5⟩ := mwr_0 d m5 τ w5 (by omega) (by omega) v5
  rw [show c + 5 + 121 = c + 126 by omega] at f5
  have w6 := f5.1
  have v6 := (fW_33 f5).trans v5
  obtain ⟨m7, p6, f6, g6⟩ := mwr_1 d m6 τ w6 (by omega) (by omega) v6
  rw [show c + 126 + 10 = c + 136 by omega] at f6
  have w7 := f6.1
  have v7 := (fW_33 f6).trans v6
  obtain ⟨m8, p7, f7, g7⟩ := mwr_2 d m7 τ w7 (by omega) (by omega) v7
  rw [show c + 136 + 10 = c + 146 by omega] at f7
  have w8 := f7.1
  have v8 := (fW_33 f7).trans v7
  obtain ⟨m9, p8, f8, g8⟩ := mwr_3 d m8 τ w8 (by omega) (by omega) v8
  rw [show c + 146 + 10 = c + 156 by omega] at f8
  have w9 := f8.1
  have v9 := (fW_33 f8).trans v8
  obtain ⟨m10, p9, f9, g9⟩ := mwr_4 d m9 τ w9 (by omega) (by omega) v9
  rw [show c + 156 + 10 = c + 166 by omega] at f9
  have w10 := f9.1
  have v10 := (fW_33 f9).trans v9
  obtain ⟨m11, p10, f10, g10⟩ := mwr_9 d m10 τ w10 (by omega) (by omega) v10
  rw [show c + 166 + 8 = c + 174 by omega] at f10
  have w11 := f10.1
  have v11 := (fW_33 f10).trans v10
  obtain ⟨m12, p11, f11, g11⟩ := mwr_10 d m11 τ w11 (by omega) (by omega) v11
  rw [show c + 174 + 8 = c + 182 by omega] at f11
  have w12 := f11.1
  have v12 := (fW_33 f11).trans v11
  have t11 := f11
  have t10 := fW_tr f10 t11 (by omega) (by omega)
  have t9 := fW_tr f9 t10 (by omega) (by omega)
  have t8 := fW_tr f8 t9 (by omega) (by omega)
  have t7 := fW_tr f7 t8 (by omega) (by omega)
  have t6 := fW_tr f6 t7 (by omega) (by omega)
  have t5 := fW_tr f5 t6 (by omega) (by omega)
  have t4 := fW_tr f4 t5 (by omega) (by omega)
  have t3 := fW_tr f3 t4 (by omega) (by omega)
  have t2 := fW_tr f2 t3 (by omega) (by omega)
  have t1 := fW_tr f1 t2 (by omega) (by omega)
  have t0 := fW_tr f0 t1 (by omega) (by omega)
  refine ⟨m12, ?_, ⟨?_, ?_, ?_, ?_, ?_, ?_, ?_, ?_, ?_, ?_, ?_, ?_⟩, t0⟩
  · rw [z_121] at p5; rw [z_10] at p6 p7 p8 p9; rw [z_8] at p10 p11
    unfold f_X7_passAll
    simp (disch := omega) only [p0, p1, p2, p3, p4, p5, p6, p7, p8, p9, p10, p11, ud_self, pw_0, up_0, pw_1, up_1, pw_2, up_2, pw_3, up_3, pw_4, up_4, pw_9, up_9, pw_10, up_10, pwi_5, upi_5, pwi_6, upi_6, pwi_7, upi_7, pwi_8, upi_8, pwi_11, upi_11, pw_12, up_12, pw_14, up_14, pw_15, up_15, pw_16, up_16, pw_18, up_18, pw_24, up_24, pw_25, up_25, pw_26, up_26, pw_29, up_29, pw_30, up_30, pw_31, up_31, pwi_13, upi_13, pwi_17, upi_17, pwi_19, upi_19, pwi_20, upi_20, pwi_21, upi_21, pwi_22, upi_22, pwi_23, upi_23, pwi_32, upi_32, pwi_33, upi_33, eC_5, eC_6, eC_13, eC_17, eC_19, eC_20, eC_21, eC_22, eC_23, eC_32, eC_33, eC_p5, eC_p6, eC_p13, eC_p17, eC_p19, eC_p20, eC_p21, eC_p22, eC_p23, eC_p32, eC_p33, s_T, s_F, s_bd, s_cl, s_rd, s_wr, s_ite, z_ite, z_neg, z_add, z_sub, z_mul, z_le, z_lt, z_eq, eC_at, eC_7, eC_8, eC_9, eC_10, eC_11, eC_p7, eC_p8, eC_p9, eC_p10, eC_p11, eC_up, ud_same, ud_ne, if_pos, if_neg, z_0, z_1, z_2, z_3, z_4, z_5, z_6, z_7, z_8, z_9, z_10, z_11, z_12, z_13, z_14, z_15, z_16, z_17, z_18, z_19, z_20, z_21, z_22, z_23, z_24, z_25, z_26, z_27, z_28, z_29, z_30, z_31, z_32, z_33, z_34, z_35, z_36, z_37, z_38, z_39, z_40, z_41, z_42, z_43, z_44, z_45, z_46, z_47, z_48, z_49, z_50, z_51, z_52, z_53, z_54, z_55, z_56, z_57, z_58, z_59, z_60, z_61, z_62, z_63, z_64, z_65, z_66, z_67, z_68, z_69, z_70, z_71, z_72, z_73, z_74, z_75, z_76, z_77, z_78, z_79, z_80, z_81, z_82, z_83, z_84, z_85, z_86, z_87, z_88, z_89, z_90, z_91, z_92, z_93, z_94, z_95, z_96, z_97, z_98, z_99, z_100, z_101, z_102, z_103, z_104, z_105, z_106, z_107, z_108, z_109, z_110, z_111, z_112, z_113, z_114, z_115, z_116, z_117, z_118, z_119, z_120, z_121, z_122, z_123, z_124, z_125, z_126, z_127, z_199, z_200, z_360, z_410, z_1000, z_1023, z_1024, z_1219, z_9999, z_10240, z_65537]
  · rw [fW_at t1 (by omega)]; rw [show c + 0 = c by omega]; exact g0
  · rw [fW_at t2 (by omega)]; exact g1
  · rw [fW_at t3 (by omega)]; exact g2
  · rw [fW_at t4 (by omega)]; exact g3
  · rw [fW_at t5 (by omega)]; exact g4
  · intro j j0 j1; rw [fW_at t6 (by omega)]; exact g5 j j0 j1
  · intro j j0 j1; rw [fW_at t7 (by omega)]; exact g6 j j0 j1
  · intro j j0 j1; rw [fW_at t8 (by omega)]; exact g7 j j0 j1
  · intro j j0 j1; rw [fW_at t9 (by omega)]; exact g8 j j0 j1
  · intro j j0 j1; rw [fW_at t10 (by omega)]; exact g9 j j0 j1
  · intro j j0 j1; rw [fW_at t11 (by omega)]; exact g10 j j0 j1
  · exact g11
theorem m_allR (m d : Nat → Int → Int) (τ : qL) {c : Int} (hc : m 99 32 = c) (c0 : 0 ≤ c) (c1 : c ≤ 200) (h33 : m 99 33 = 0) {g : Nat → Int → Int} (hg : imgR m c g) (hd : rng dz d) (hgz : rng dz g) : f_X7_passAll (eC (pw m d)) τ = some (eC (pw (ud m 99 32 (c + 182)) g)) := by
  obtain ⟨g0, g1, g2, g3, g4, g5, g6, g7, g8, g9, g10, g11⟩ := hg
  have p0 := fun v => m_passR m d τ v h33 (by omega) (by omega)
  rw [hc, show m 30 c = g 99 8 by rw [← g0, show c + 0 = c by omega]] at p0
  have p1 := fun v => m_passR (ud m 99 32 (c + 1)) (ud d 99 8 (g 99 8)) τ v (by rw [ud_ne _ _ (by omega)]; exact h33) (by rw [ud_same]; omega) (by rw [ud_same]; omega)
  rw [ud_same, ud_ne _ _ (by omega), g1, ud_ud, show c + 1 + 1 = c + 2 by omega] at p1
  have p2 := fun v => m_passR (ud m 99 32 (c + 2)) (ud (ud d 99 8 (g 99 8)) 99 9 (g 99 9)) τ v (by rw [ud_ne _ _ (by omega)]; exact h33) (by rw [ud_same]; omega) (by rw [ud_same]; omega)
  rw [ud_same, ud_ne _ _ (by omega), g2, ud_ud, show c + 2 + 1 = c + 3 by omega] at p2
  have p3 := fun v => m_passR (ud m 99 32 (c + 3)) (ud (ud (ud d 99 8 (g 99 8)) 99 9 (g 99 9)) 99 10 (g 99 10)) τ v (by rw [ud_ne _ _ (by omega)]; exact h33) (by rw [ud_same]; omega) (by rw [ud_same]; omega)
  rw [ud_same, ud_ne _ _ (by omega), g3, ud_ud, show c + 3 + 1 = c + 4 by omega] at p3
  have p4 := fun v => m_passR (ud m 99 32 (c + 4)) (ud (ud (ud (ud d 99 8 (g 99 8)) 99 9 (g 99 9)) 99 10 (g 99 10)) 99 11 (g 99 11)) τ v (by rw [ud_ne _ _ (by omega)]; exact h33) (by rw [ud_same]; omega) (by rw [ud_same]; omega)
  rw [ud_same, ud_ne _ _ (by omega), g4, ud_ud, show c + 4 + 1 = c + 5 by omega] at p4
  have q5 : ∀ a b, (a = 99 ∧ 7 ≤ b ∧ b ≤ 11) ∨ (ud (ud (ud (ud (ud d 99 8 (g 99 8)) 99 9 (g 99 9)) 99 10 (g 99 10)) 99 11 (g 99 11)) 99 7 (g 99 7)) a b = d a b := fun a b => by
    by_cases e : a = 99 ∧ 7 ≤ b ∧ b ≤ 11
    · exact Or.inl e
    · exact Or.inr (by rw [ud_ne _ _ (by omega), ud_ne _ _ (by omega), ud_ne _ _ (by omega), ud_ne _ _ (by omega), ud_ne _ _ (by omega)])
  have q5i : ∀ b, 7 ≤ b → b ≤ 11 → (ud (ud (ud (ud (ud d 99 8 (g 99 8)) 99 9 (g 99 9)) 99 10 (g 99 10)) 99 11 (g 99 11)) 99 7 (g 99 7)) 99 b = g 99 b := fun b b0 b1 => by
    rcases (show b = 7 ∨ b = 8 ∨ b = 9 ∨ b = 10 ∨ b = 11 by omega) with z | z | z | z | z <;> subst z <;> simp (disch := omega) only [ud_same, ud_ne]
  skip
  obtain ⟨d6, p5, q6, r6⟩ := mrr_0 (ud m 99 32 (c + 5)) (ud (ud (ud (ud (ud d 99 8 (g 99 8)) 99 9 (g 99 9)) 99 10 (g 99 10)) 99 11 (g 99 11)) 99 7 (g 99 7)) τ (ud_same _ _ _ _) (by omega) (by omega) (by rw [ud_ne _ _ (by omega)]; exact h33)
  rw [ud_ud, show c + 5 + 121 = c + 126 by omega] at p5
  obtain ⟨d7, p6, q7, r7⟩ := mrr_1 (ud m 99 32 (c + 126)) d6 τ (ud_same _ _ _ _) (by omega) (by omega) (by rw [ud_ne _ _ (by omega)]; exact h33)
  rw [ud_ud, show c + 126 + 10 = c + 136 by omega] at p6
  obtain ⟨d8, p7, q8, r8⟩ := mrr_2 (ud m 99 32 (c + 136)) d7 τ (ud_same _ _ _ _) (by omega) (by omega) (by rw [ud_ne _ _ (by omega)]; exact h33)
  rw [ud_ud, show c + 136 + 10 = c + 146 by omega] at p7
  obtain ⟨d9, p8, q9, r9⟩ := mrr_3 (ud m 99 32 (c + 146)) d8 τ (ud_same _ _ _ _) (by omega) (by omega) (by rw [ud_ne _ _ (by omega)]; exact h33)
  rw [ud_ud, show c + 146 + 10 = c + 156 by omega] at p8
  obtain ⟨d10, p9, q10, r10⟩ := mrr_4 (ud m 99 32 (c + 156)) d9 τ (ud_same _ _ _ _) (by omega) (by omega) (by rw [ud_ne _ _ (by omega)]; exact h33)
  rw [ud_ud, show c + 156 + 10 = c + 166 by omega] at p9
  obtain ⟨d11, p10, q11, r11⟩ := mrr_9 (ud m 99 32 (c + 166)) d10 τ (ud_same _ _ _ _) (by omega) (by omega) (by rw [ud_ne _ _ (by omega)]; exact h33)
  rw [ud_ud, show c + 166 + 8 = c + 174 by omega] at p10
  obtain ⟨d12, p11, q12, r12⟩ := mrr_10 (ud m 99 32 (c + 174)) d11 τ (ud_same _ _ _ _) (by omega) (by omega) (by rw [ud_ne _ _ (by omega)]; exact h33)
  rw [ud_ud, show c + 174 + 8 = c + 182 by omega] at p11
  have e : d12 = g := by
    funext a b
    by_cases hr : inR a b
    · rcases hr with ⟨rfl, b0, b1⟩ | ⟨z, b0, b1⟩ | ⟨z, b0, b1⟩ | ⟨rfl, b0, b1⟩
      · rw [(q12 0 b).resolve_left (by omega), (q11 0 b).resolve_left (by omega), (q10 0 b).resolve_left (by omega), (q9 0 b).resolve_left (by omega), (q8 0 b).resolve_left (by omega), (q7 0 b).resolve_left (by omega), r6 b b0 b1]; have := g5 b b0 b1; rw [← this, ud_ne _ _ (by omega)]
      · rcases z with rfl | rfl | rfl | rfl
        · rw [(q12 1 b).resolve_left (by omega), (q11 1 b).resolve_left (by omega), (q10 1 b).resolve_left (by omega), (q9 1 b).resolve_left (by omega), (q8 1 b).resolve_left (by omega), r7 b b0 b1]; have := g6 b b0 b1; rw [← this, ud_ne _ _ (by omega)]
        · rw [(q12 2 b).resolve_left (by omega), (q11 2 b).resolve_left (by omega), (q10 2 b).resolve_left (by omega), (q9 2 b).resolve_left (by omega), r8 b b0 b1]; have := g7 b b0 b1; rw [← this, ud_ne _ _ (by omega)]
        · rw [(q12 3 b).resolve_left (by omega), (q11 3 b).resolve_left (by omega), (q10 3 b).resolve_left (by omega), r9 b b0 b1]; have := g8 b b0 b1; rw [← this, ud_ne _ _ (by omega)]
        · rw [(q12 4 b).resolve_left (by omega), (q11 4 b).resolve_left (by omega), r10 b b0 b1]; have := g9 b b0 b1; rw [← this, ud_ne _ _ (by omega)]
      · rcases z with rfl | rfl
        · rw [(q12 5 b).resolve_left (by omega), r11 b b0 b1]; have := g10 b b0 b1; rw [← this, ud_ne _ _ (by omega)]
        · rw [r12 b b0 b1]; have := g11 b b0 b1; rw [← this, ud_ne _ _ (by omega)]
      · rw [(q12 99 b).resolve_left (by omega), (q11 99 b).resolve_left (by omega), (q10 99 b).resolve_left (by omega), (q9 99 b).resolve_left (by omega), (q8 99 b).resolve_left (by omega), (q7 99 b).resolve_left (by omega), (q6 99 b).resolve_left (by omega), q5i b b0 b1]
    · have h1 : d12 a b = d a b := by
        unfold inR at hr
        rw [(q12 a b).resolve_left (by omega), (q11 a b).resolve_left (by omega), (q10 a b).resolve_left (by omega), (q9 a b).resolve_left (by omega), (q8 a b).resolve_left (by omega), (q7 a b).resolve_left (by omega), (q6 a b).resolve_left (by omega), (q5 a b).resolve_left (by omega)]
      rw [h1, (hd a b).resolve_left hr, (hgz a b).resolve_left hr]
  subst e
  rw [z_121] at p5; rw [z_10] at p6 p7 p8 p9; rw [z_8] at p10 p11
  unfold f_X7_passAll
  simp (disch := omega) only [p0, p1, p2, p3, p4, p5, p6, p7, p8, p9, p10, p11, pw_0, up_0, pw_1, up_1, pw_2, up_2, pw_3, up_3, pw_4, up_4, pw_9, up_9, pw_10, up_10, pwi_5, upi_5, pwi_6, upi_6, pwi_7, upi_7, pwi_8, upi_8, pwi_11, upi_11, pw_12, up_12, pw_14, up_14, pw_15, up_15, pw_16, up_16, pw_18, up_18, pw_24, up_24, pw_25, up_25, pw_26, up_26, pw_29, up_29, pw_30, up_30, pw_31, up_31, pwi_13, upi_13, pwi_17, upi_17, pwi_19, upi_19, pwi_20, upi_20, pwi_21, upi_21, pwi_22, upi_22, pwi_23, upi_23, pwi_32, upi_32, pwi_33, upi_33, eC_5, eC_6, eC_13, eC_17, eC_19, eC_20, eC_21, eC_22, eC_23, eC_32, eC_33, eC_p5, eC_p6, eC_p13, eC_p17, eC_p19, eC_p20, eC_p21, eC_p22, eC_p23, eC_p32, eC_p33, s_T, s_F, s_bd, s_cl, s_rd, s_wr, s_ite, z_ite, z_neg, z_add, z_sub, z_mul, z_le, z_lt, z_eq, eC_at, eC_7, eC_8, eC_9, eC_10, eC_11, eC_p7, eC_p8, eC_p9, eC_p10, eC_p11, eC_up, ud_same, ud_ne, if_pos, if_neg, z_0, z_1, z_2, z_3, z_4, z_5, z_6, z_7, z_8, z_9, z_10, z_11, z_12, z_13, z_14, z_15, z_16, z_17, z_18, z_19, z_20, z_21, z_22, z_23, z_24, z_25, z_26, z_27, z_28, z_29, z_30, z_31, z_32, z_33, z_34, z_35, z_36, z_37, z_38, z_39, z_40, z_41, z_42, z_43, z_44, z_45, z_46, z_47, z_48, z_49, z_50, z_51, z_52, z_53, z_54, z_55, z_56, z_57, z_58, z_59, z_60, z_61, z_62, z_63, z_64, z_65, z_66, z_67, z_68, z_69, z_70, z_71, z_72, z_73, z_74, z_75, z_76, z_77, z_78, z_79, z_80, z_81, z_82, z_83, z_84, z_85, z_86, z_87, z_88, z_89, z_90, z_91, z_92, z_93, z_94, z_95, z_96, z_97, z_98, z_99, z_100, z_101, z_102, z_103, z_104, z_105, z_106, z_107, z_108, z_109, z_110, z_111, z_112, z_113, z_114, z_115, z_116, z_117, z_118, z_119, z_120, z_121, z_122, z_123, z_124, z_125, z_126, z_127, z_199, z_200, z_360, z_410, z_1000, z_1023, z_1024, z_1219, z_9999, z_10240, z_65537]
theorem imgR_fr {m m' : Nat → Int → Int} {c : Int} {d : Nat → Int → Int} (h : imgR m c d) (hf : ∀ b, c ≤ b → b < c + 182 → m' 30 b = m 30 b) : imgR m' c d := by
  obtain ⟨g0, g1, g2, g3, g4, g5, g6, g7, g8, g9, g10, g11⟩ := h
  refine ⟨?_, ?_, ?_, ?_, ?_, fun j j0 j1 => ?_, fun j j0 j1 => ?_, fun j j0 j1 => ?_, fun j j0 j1 => ?_, fun j j0 j1 => ?_, fun j j0 j1 => ?_, fun j j0 j1 => ?_⟩ <;> rw [hf _ (by omega) (by omega)]
  · exact g0
  · exact g1
  · exact g2
  · exact g3
  · exact g4
  · exact g5 j j0 j1
  · exact g6 j j0 j1
  · exact g7 j j0 j1
  · exact g8 j j0 j1
  · exact g9 j j0 j1
  · exact g10 j j0 j1
  · exact g11 j j0 j1
theorem nar1 : vp_nar .boolean (zI 1) = zI 1 := by decide
/-- what image leaves alone in the rest -/
def frI (a : Int) (m m' : Nat → Int → Int) : Prop := ∀ x b, (x = 30 ∧ 200 * a ≤ b ∧ b < 200 * a + 182) ∨ (x = 31 ∧ b = a) ∨ (x = 99 ∧ (b = 32 ∨ b = 33)) ∨ m' x b = m x b
theorem m_image (m d : Nat → Int → Int) (τ : qL) {a : Int} (a0 : 0 ≤ a) (a1 : a ≤ 1) : ∃ m', f_X7_image (eC (pw m d)) τ (zI a) = some (zI 1, eC (pw m' d)) ∧ imgR m' (200 * a) d ∧ m' 31 a = 1 ∧ frI a m m' := by
  obtain ⟨m', e1, e2, e3⟩ := m_allW (ud (ud m 99 32 (200 * a)) 99 33 1) d τ (c := 200 * a) (by rw [ud_ne _ _ (by omega), ud_same]) (by omega) (by omega) (ud_same _ _ _ _)
  refine ⟨ud m' 31 a 1, ?_, imgR_fr e2 (fun b _ _ => ud_ne _ _ (by omega)), ud_same _ _ _ _, fun x b => ?_⟩
  · unfold f_X7_image
    simp (disch := omega) only [m_isPlace, m_isHouse, m_isTale, m_in, z_l, zl_neg, zl_0, zl_1, zl_2, zl_3, zl_5, zl_8, zl_9, zl_10, zl_19, zl_33, zl_40, zl_49, zl_57, zl_60, zl_65, zl_74, zl_99, zl_100, zl_126, zl_199, zl_1000, zl_1219, zl_9999, z_200, e1, s_wrZ, nar1, pw_0, up_0, pw_1, up_1, pw_2, up_2, pw_3, up_3, pw_4, up_4, pw_9, up_9, pw_10, up_10, pwi_5, upi_5, pwi_6, upi_6, pwi_7, upi_7, pwi_8, upi_8, pwi_11, upi_11, pw_12, up_12, pw_14, up_14, pw_15, up_15, pw_16, up_16, pw_18, up_18, pw_24, up_24, pw_25, up_25, pw_26, up_26, pw_29, up_29, pw_30, up_30, pw_31, up_31, pwi_13, upi_13, pwi_17, upi_17, pwi_19, upi_19, pwi_20, upi_20, pwi_21, upi_21, pwi_22, upi_22, pwi_23, upi_23, pwi_32, upi_32, pwi_33, upi_33, eC_5, eC_6, eC_13, eC_17, eC_19, eC_20, eC_21, eC_22, eC_23, eC_32, eC_33, eC_p5, eC_p6, eC_p13, eC_p17, eC_p19, eC_p20, eC_p21, eC_p22, eC_p23, eC_p32, eC_p33, s_T, s_F, s_bd, s_cl, s_rd, s_wr, s_ite, z_ite, z_neg, z_add, z_sub, z_mul, z_le, z_lt, z_eq, eC_at, eC_7, eC_8, eC_9, eC_10, eC_11, eC_p7, eC_p8, eC_p9, eC_p10, eC_p11, eC_up, ud_same, ud_ne, if_pos, if_neg, z_0, z_1, z_2, z_3, z_4, z_5, z_6, z_7, z_8, z_9, z_10, z_11, z_12, z_13, z_14, z_15, z_16, z_17, z_18, z_19, z_20, z_21, z_22, z_23, z_24, z_25, z_26, z_27, z_28, z_29, z_30, z_31, z_32, z_33, z_34, z_35, z_36, z_37, z_38, z_39, z_40, z_41, z_42, z_43, z_44, z_45, z_46, z_47, z_48, z_49, z_50, z_51, z_52, z_53, z_54, z_55, z_56, z_57, z_58, z_59, z_60, z_61, z_62, z_63, z_64, z_65, z_66, z_67, z_68, z_69, z_70, z_71, z_72, z_73, z_74, z_75, z_76, z_77, z_78, z_79, z_80, z_81, z_82, z_83, z_84, z_85, z_86, z_87, z_88, z_89, z_90, z_91, z_92, z_93, z_94, z_95, z_96, z_97, z_98, z_99, z_100, z_101, z_102, z_103, z_104, z_105, z_106, z_107, z_108, z_109, z_110, z_111, z_112, z_113, z_114, z_115, z_116, z_117, z_118, z_119, z_120, z_121, z_122, z_123, z_124, z_125, z_126, z_127, z_199, z_200, z_360, z_410, z_1000, z_1023, z_1024, z_1219, z_9999, z_10240, z_65537]
  · by_cases z : x = 31 ∧ b = a
    · exact Or.inr (Or.inl z)
    · rw [ud_ne _ _ (by omega)]
      rcases e3.2 x b with y | y | y
      · exact Or.inl y
      · exact Or.inr (Or.inr (Or.inl ⟨y.1, Or.inl y.2⟩))
      · by_cases w : x = 99 ∧ (b = 32 ∨ b = 33)
        · exact Or.inr (Or.inr (Or.inl w))
        · exact Or.inr (Or.inr (Or.inr (by rw [y, ud_ne _ _ (by omega), ud_ne _ _ (by omega)])))
theorem m_image_x (m d : Nat → Int → Int) (τ : qL) {a : Int} (h1 : -2147483648 ≤ a) (h2 : a < 2147483648) (h : ¬ (0 ≤ a ∧ a ≤ 1)) : f_X7_image (eC (pw m d)) τ (zI a) = some (zI (-2), eC (pw m d)) := by
  unfold f_X7_image
  simp (disch := omega) only [m_isPlace, m_isHouse, m_isTale, m_in, z_l, zl_neg, zl_0, zl_1, zl_2, zl_3, zl_5, zl_8, zl_9, zl_10, zl_19, zl_33, zl_40, zl_49, zl_57, zl_60, zl_65, zl_74, zl_99, zl_100, zl_126, zl_199, zl_1000, zl_1219, zl_9999, pw_0, up_0, pw_1, up_1, pw_2, up_2, pw_3, up_3, pw_4, up_4, pw_9, up_9, pw_10, up_10, pwi_5, upi_5, pwi_6, upi_6, pwi_7, upi_7, pwi_8, upi_8, pwi_11, upi_11, pw_12, up_12, pw_14, up_14, pw_15, up_15, pw_16, up_16, pw_18, up_18, pw_24, up_24, pw_25, up_25, pw_26, up_26, pw_29, up_29, pw_30, up_30, pw_31, up_31, pwi_13, upi_13, pwi_17, upi_17, pwi_19, upi_19, pwi_20, upi_20, pwi_21, upi_21, pwi_22, upi_22, pwi_23, upi_23, pwi_32, upi_32, pwi_33, upi_33, eC_5, eC_6, eC_13, eC_17, eC_19, eC_20, eC_21, eC_22, eC_23, eC_32, eC_33, eC_p5, eC_p6, eC_p13, eC_p17, eC_p19, eC_p20, eC_p21, eC_p22, eC_p23, eC_p32, eC_p33, s_T, s_F, s_bd, s_cl, s_rd, s_wr, s_ite, z_ite, z_neg, z_add, z_sub, z_mul, z_le, z_lt, z_eq, eC_at, eC_7, eC_8, eC_9, eC_10, eC_11, eC_p7, eC_p8, eC_p9, eC_p10, eC_p11, eC_up, ud_same, ud_ne, if_pos, if_neg, z_0, z_1, z_2, z_3, z_4, z_5, z_6, z_7, z_8, z_9, z_10, z_11, z_12, z_13, z_14, z_15, z_16, z_17, z_18, z_19, z_20, z_21, z_22, z_23, z_24, z_25, z_26, z_27, z_28, z_29, z_30, z_31, z_32, z_33, z_34, z_35, z_36, z_37, z_38, z_39, z_40, z_41, z_42, z_43, z_44, z_45, z_46, z_47, z_48, z_49, z_50, z_51, z_52, z_53, z_54, z_55, z_56, z_57, z_58, z_59, z_60, z_61, z_62, z_63, z_64, z_65, z_66, z_67, z_68, z_69, z_70, z_71, z_72, z_73, z_74, z_75, z_76, z_77, z_78, z_79, z_80, z_81, z_82, z_83, z_84, z_85, z_86, z_87, z_88, z_89, z_90, z_91, z_92, z_93, z_94, z_95, z_96, z_97, z_98, z_99, z_100, z_101, z_102, z_103, z_104, z_105, z_106, z_107, z_108, z_109, z_110, z_111, z_112, z_113, z_114, z_115, z_116, z_117, z_118, z_119, z_120, z_121, z_122, z_123, z_124, z_125, z_126, z_127, z_199, z_200, z_360, z_410, z_1000, z_1023, z_1024, z_1219, z_9999, z_10240, z_65537]
theorem m_restore (m d : Nat → Int → Int) (τ : qL) {a : Int} (a0 : 0 ≤ a) (a1 : a ≤ 1) (h31 : m 31 a = 1) {g : Nat → Int → Int} (hg : imgR m (200 * a) g) (hd : rng dz d) (hgz : rng dz g) : ∃ m', f_X7_restore (eC (pw m d)) τ (zI a) = some (zI 1, eC (pw m' g)) ∧ (∀ x b, (x = 99 ∧ (b = 32 ∨ b = 33)) ∨ m' x b = m x b) := by
  have e1 := m_allR (ud (ud m 99 32 (200 * a)) 99 33 0) d τ (c := 200 * a) (by rw [ud_ne _ _ (by omega), ud_same]) (by omega) (by omega) (ud_same _ _ _ _) (g := g) (imgR_fr hg (fun b _ _ => by rw [ud_ne _ _ (by omega), ud_ne _ _ (by omega)])) hd hgz
  refine ⟨ud (ud (ud m 99 32 (200 * a)) 99 33 0) 99 32 (200 * a + 182), ?_, fun x b => ?_⟩
  · unfold f_X7_restore
    simp (disch := omega) only [m_isPlace, m_isHouse, m_isTale, m_in, z_l, zl_neg, zl_0, zl_1, zl_2, zl_3, zl_5, zl_8, zl_9, zl_10, zl_19, zl_33, zl_40, zl_49, zl_57, zl_60, zl_65, zl_74, zl_99, zl_100, zl_126, zl_199, zl_1000, zl_1219, zl_9999, z_200, e1, h31, pw_0, up_0, pw_1, up_1, pw_2, up_2, pw_3, up_3, pw_4, up_4, pw_9, up_9, pw_10, up_10, pwi_5, upi_5, pwi_6, upi_6, pwi_7, upi_7, pwi_8, upi_8, pwi_11, upi_11, pw_12, up_12, pw_14, up_14, pw_15, up_15, pw_16, up_16, pw_18, up_18, pw_24, up_24, pw_25, up_25, pw_26, up_26, pw_29, up_29, pw_30, up_30, pw_31, up_31, pwi_13, upi_13, pwi_17, upi_17, pwi_19, upi_19, pwi_20, upi_20, pwi_21, upi_21, pwi_22, upi_22, pwi_23, upi_23, pwi_32, upi_32, pwi_33, upi_33, eC_5, eC_6, eC_13, eC_17, eC_19, eC_20, eC_21, eC_22, eC_23, eC_32, eC_33, eC_p5, eC_p6, eC_p13, eC_p17, eC_p19, eC_p20, eC_p21, eC_p22, eC_p23, eC_p32, eC_p33, s_T, s_F, s_bd, s_cl, s_rd, s_wr, s_ite, z_ite, z_neg, z_add, z_sub, z_mul, z_le, z_lt, z_eq, eC_at, eC_7, eC_8, eC_9, eC_10, eC_11, eC_p7, eC_p8, eC_p9, eC_p10, eC_p11, eC_up, ud_same, ud_ne, if_pos, if_neg, z_0, z_1, z_2, z_3, z_4, z_5, z_6, z_7, z_8, z_9, z_10, z_11, z_12, z_13, z_14, z_15, z_16, z_17, z_18, z_19, z_20, z_21, z_22, z_23, z_24, z_25, z_26, z_27, z_28, z_29, z_30, z_31, z_32, z_33, z_34, z_35, z_36, z_37, z_38, z_39, z_40, z_41, z_42, z_43, z_44, z_45, z_46, z_47, z_48, z_49, z_50, z_51, z_52, z_53, z_54, z_55, z_56, z_57, z_58, z_59, z_60, z_61, z_62, z_63, z_64, z_65, z_66, z_67, z_68, z_69, z_70, z_71, z_72, z_73, z_74, z_75, z_76, z_77, z_78, z_79, z_80, z_81, z_82, z_83, z_84, z_85, z_86, z_87, z_88, z_89, z_90, z_91, z_92, z_93, z_94, z_95, z_96, z_97, z_98, z_99, z_100, z_101, z_102, z_103, z_104, z_105, z_106, z_107, z_108, z_109, z_110, z_111, z_112, z_113, z_114, z_115, z_116, z_117, z_118, z_119, z_120, z_121, z_122, z_123, z_124, z_125, z_126, z_127, z_199, z_200, z_360, z_410, z_1000, z_1023, z_1024, z_1219, z_9999, z_10240, z_65537]
  · by_cases w : x = 99 ∧ (b = 32 ∨ b = 33)
    · exact Or.inl w
    · exact Or.inr (by rw [ud_ne _ _ (by omega), ud_ne _ _ (by omega), ud_ne _ _ (by omega)])
theorem m_restore_n (m d : Nat → Int → Int) (τ : qL) {a : Int} (a0 : 0 ≤ a) (a1 : a ≤ 1) (h31 : m 31 a = 0) : f_X7_restore (eC (pw m d)) τ (zI a) = some (zI (-3), eC (pw m d)) := by
  unfold f_X7_restore
  simp (disch := omega) only [m_isPlace, m_isHouse, m_isTale, m_in, z_l, zl_neg, zl_0, zl_1, zl_2, zl_3, zl_5, zl_8, zl_9, zl_10, zl_19, zl_33, zl_40, zl_49, zl_57, zl_60, zl_65, zl_74, zl_99, zl_100, zl_126, zl_199, zl_1000, zl_1219, zl_9999, h31, pw_0, up_0, pw_1, up_1, pw_2, up_2, pw_3, up_3, pw_4, up_4, pw_9, up_9, pw_10, up_10, pwi_5, upi_5, pwi_6, upi_6, pwi_7, upi_7, pwi_8, upi_8, pwi_11, upi_11, pw_12, up_12, pw_14, up_14, pw_15, up_15, pw_16, up_16, pw_18, up_18, pw_24, up_24, pw_25, up_25, pw_26, up_26, pw_29, up_29, pw_30, up_30, pw_31, up_31, pwi_13, upi_13, pwi_17, upi_17, pwi_19, upi_19, pwi_20, upi_20, pwi_21, upi_21, pwi_22, upi_22, pwi_23, upi_23, pwi_32, upi_32, pwi_33, upi_33, eC_5, eC_6, eC_13, eC_17, eC_19, eC_20, eC_21, eC_22, eC_23, eC_32, eC_33, eC_p5, eC_p6, eC_p13, eC_p17, eC_p19, eC_p20, eC_p21, eC_p22, eC_p23, eC_p32, eC_p33, s_T, s_F, s_bd, s_cl, s_rd, s_wr, s_ite, z_ite, z_neg, z_add, z_sub, z_mul, z_le, z_lt, z_eq, eC_at, eC_7, eC_8, eC_9, eC_10, eC_11, eC_p7, eC_p8, eC_p9, eC_p10, eC_p11, eC_up, ud_same, ud_ne, if_pos, if_neg, z_0, z_1, z_2, z_3, z_4, z_5, z_6, z_7, z_8, z_9, z_10, z_11, z_12, z_13, z_14, z_15, z_16, z_17, z_18, z_19, z_20, z_21, z_22, z_23, z_24, z_25, z_26, z_27, z_28, z_29, z_30, z_31, z_32, z_33, z_34, z_35, z_36, z_37, z_38, z_39, z_40, z_41, z_42, z_43, z_44, z_45, z_46, z_47, z_48, z_49, z_50, z_51, z_52, z_53, z_54, z_55, z_56, z_57, z_58, z_59, z_60, z_61, z_62, z_63, z_64, z_65, z_66, z_67, z_68, z_69, z_70, z_71, z_72, z_73, z_74, z_75, z_76, z_77, z_78, z_79, z_80, z_81, z_82, z_83, z_84, z_85, z_86, z_87, z_88, z_89, z_90, z_91, z_92, z_93, z_94, z_95, z_96, z_97, z_98, z_99, z_100, z_101, z_102, z_103, z_104, z_105, z_106, z_107, z_108, z_109, z_110, z_111, z_112, z_113, z_114, z_115, z_116, z_117, z_118, z_119, z_120, z_121, z_122, z_123, z_124, z_125, z_126, z_127, z_199, z_200, z_360, z_410, z_1000, z_1023, z_1024, z_1219, z_9999, z_10240, z_65537]
theorem m_restore_x (m d : Nat → Int → Int) (τ : qL) {a : Int} (h1 : -2147483648 ≤ a) (h2 : a < 2147483648) (h : ¬ (0 ≤ a ∧ a ≤ 1)) : f_X7_restore (eC (pw m d)) τ (zI a) = some (zI (-2), eC (pw m d)) := by
  unfold f_X7_restore
  simp (disch := omega) only [m_isPlace, m_isHouse, m_isTale, m_in, z_l, zl_neg, zl_0, zl_1, zl_2, zl_3, zl_5, zl_8, zl_9, zl_10, zl_19, zl_33, zl_40, zl_49, zl_57, zl_60, zl_65, zl_74, zl_99, zl_100, zl_126, zl_199, zl_1000, zl_1219, zl_9999, pw_0, up_0, pw_1, up_1, pw_2, up_2, pw_3, up_3, pw_4, up_4, pw_9, up_9, pw_10, up_10, pwi_5, upi_5, pwi_6, upi_6, pwi_7, upi_7, pwi_8, upi_8, pwi_11, upi_11, pw_12, up_12, pw_14, up_14, pw_15, up_15, pw_16, up_16, pw_18, up_18, pw_24, up_24, pw_25, up_25, pw_26, up_26, pw_29, up_29, pw_30, up_30, pw_31, up_31, pwi_13, upi_13, pwi_17, upi_17, pwi_19, upi_19, pwi_20, upi_20, pwi_21, upi_21, pwi_22, upi_22, pwi_23, upi_23, pwi_32, upi_32, pwi_33, upi_33, eC_5, eC_6, eC_13, eC_17, eC_19, eC_20, eC_21, eC_22, eC_23, eC_32, eC_33, eC_p5, eC_p6, eC_p13, eC_p17, eC_p19, eC_p20, eC_p21, eC_p22, eC_p23, eC_p32, eC_p33, s_T, s_F, s_bd, s_cl, s_rd, s_wr, s_ite, z_ite, z_neg, z_add, z_sub, z_mul, z_le, z_lt, z_eq, eC_at, eC_7, eC_8, eC_9, eC_10, eC_11, eC_p7, eC_p8, eC_p9, eC_p10, eC_p11, eC_up, ud_same, ud_ne, if_pos, if_neg, z_0, z_1, z_2, z_3, z_4, z_5, z_6, z_7, z_8, z_9, z_10, z_11, z_12, z_13, z_14, z_15, z_16, z_17, z_18, z_19, z_20, z_21, z_22, z_23, z_24, z_25, z_26, z_27, z_28, z_29, z_30, z_31, z_32, z_33, z_34, z_35, z_36, z_37, z_38, z_39, z_40, z_41, z_42, z_43, z_44, z_45, z_46, z_47, z_48, z_49, z_50, z_51, z_52, z_53, z_54, z_55, z_56, z_57, z_58, z_59, z_60, z_61, z_62, z_63, z_64, z_65, z_66, z_67, z_68, z_69, z_70, z_71, z_72, z_73, z_74, z_75, z_76, z_77, z_78, z_79, z_80, z_81, z_82, z_83, z_84, z_85, z_86, z_87, z_88, z_89, z_90, z_91, z_92, z_93, z_94, z_95, z_96, z_97, z_98, z_99, z_100, z_101, z_102, z_103, z_104, z_105, z_106, z_107, z_108, z_109, z_110, z_111, z_112, z_113, z_114, z_115, z_116, z_117, z_118, z_119, z_120, z_121, z_122, z_123, z_124, z_125, z_126, z_127, z_199, z_200, z_360, z_410, z_1000, z_1023, z_1024, z_1219, z_9999, z_10240, z_65537]
section XIM
variable {d : Nat → Int → Int}
theorem x_image_0n (hd : okd d) : f_X6_image_0n (eC d) = some (zI 1, eC d) := by
  unfold f_X6_image_0n
  rw [qC0_dz]
  simp (disch := omega) only [x_isPlace, x_isHouse, x_isTale, x_within, x_longBetween, x_layRoad, x_doubtOf, x_furnish, x_beliefOf, x_convince, x_fadesInto, x_letFade, x_copyFrom dz d dz_ok hd, s_T, s_F, s_bd, s_cl, s_rd, s_wr, s_ite, z_ite, z_neg, z_add, z_sub, z_mul, z_le, z_lt, z_eq, eC_at, eC_7, eC_8, eC_9, eC_10, eC_11, eC_p7, eC_p8, eC_p9, eC_p10, eC_p11, eC_up, ud_same, ud_ne, if_pos, if_neg, z_0, z_1, z_2, z_3, z_4, z_5, z_6, z_7, z_8, z_9, z_10, z_11, z_12, z_13, z_14, z_15, z_16, z_17, z_18, z_19, z_20, z_21, z_22, z_23, z_24, z_25, z_26, z_27, z_28, z_29, z_30, z_31, z_32, z_33, z_34, z_35, z_36, z_37, z_38, z_39, z_40, z_41, z_42, z_43, z_44, z_45, z_46, z_47, z_48, z_49, z_50, z_51, z_52, z_53, z_54, z_55, z_56, z_57, z_58, z_59, z_60, z_61, z_62, z_63, z_64, z_65, z_66, z_67, z_68, z_69, z_70, z_71, z_72, z_73, z_74, z_75, z_76, z_77, z_78, z_79, z_80, z_81, z_82, z_83, z_84, z_85, z_86, z_87, z_88, z_89, z_90, z_91, z_92, z_93, z_94, z_95, z_96, z_97, z_98, z_99, z_100, z_101, z_102, z_103, z_104, z_105, z_106, z_107, z_108, z_109, z_110, z_111, z_112, z_113, z_114, z_115, z_116, z_117, z_118, z_119, z_120, z_121, z_122, z_123, z_124, z_125, z_126, z_127, z_199, z_200, z_360, z_410, z_1000, z_1023, z_1024, z_1219, z_9999, z_10240, z_65537]
theorem x_image_1n (hd : okd d) : f_X6_image_1n (eC d) = some (zI 1, eC d) := by
  unfold f_X6_image_1n
  rw [qC0_dz]
  simp (disch := omega) only [x_isPlace, x_isHouse, x_isTale, x_within, x_longBetween, x_layRoad, x_doubtOf, x_furnish, x_beliefOf, x_convince, x_fadesInto, x_letFade, x_copyFrom dz d dz_ok hd, s_T, s_F, s_bd, s_cl, s_rd, s_wr, s_ite, z_ite, z_neg, z_add, z_sub, z_mul, z_le, z_lt, z_eq, eC_at, eC_7, eC_8, eC_9, eC_10, eC_11, eC_p7, eC_p8, eC_p9, eC_p10, eC_p11, eC_up, ud_same, ud_ne, if_pos, if_neg, z_0, z_1, z_2, z_3, z_4, z_5, z_6, z_7, z_8, z_9, z_10, z_11, z_12, z_13, z_14, z_15, z_16, z_17, z_18, z_19, z_20, z_21, z_22, z_23, z_24, z_25, z_26, z_27, z_28, z_29, z_30, z_31, z_32, z_33, z_34, z_35, z_36, z_37, z_38, z_39, z_40, z_41, z_42, z_43, z_44, z_45, z_46, z_47, z_48, z_49, z_50, z_51, z_52, z_53, z_54, z_55, z_56, z_57, z_58, z_59, z_60, z_61, z_62, z_63, z_64, z_65, z_66, z_67, z_68, z_69, z_70, z_71, z_72, z_73, z_74, z_75, z_76, z_77, z_78, z_79, z_80, z_81, z_82, z_83, z_84, z_85, z_86, z_87, z_88, z_89, z_90, z_91, z_92, z_93, z_94, z_95, z_96, z_97, z_98, z_99, z_100, z_101, z_102, z_103, z_104, z_105, z_106, z_107, z_108, z_109, z_110, z_111, z_112, z_113, z_114, z_115, z_116, z_117, z_118, z_119, z_120, z_121, z_122, z_123, z_124, z_125, z_126, z_127, z_199, z_200, z_360, z_410, z_1000, z_1023, z_1024, z_1219, z_9999, z_10240, z_65537]
theorem x_image_0s {g : Nat → Int → Int} (hd : okd d) (hg : okd g) : f_X6_image_0s (eC d) (eC g) = some (zI 1, eC d) := by
  unfold f_X6_image_0s
  simp (disch := omega) only [x_isPlace, x_isHouse, x_isTale, x_within, x_longBetween, x_layRoad, x_doubtOf, x_furnish, x_beliefOf, x_convince, x_fadesInto, x_letFade, x_copyFrom g d hg hd, s_T, s_F, s_bd, s_cl, s_rd, s_wr, s_ite, z_ite, z_neg, z_add, z_sub, z_mul, z_le, z_lt, z_eq, eC_at, eC_7, eC_8, eC_9, eC_10, eC_11, eC_p7, eC_p8, eC_p9, eC_p10, eC_p11, eC_up, ud_same, ud_ne, if_pos, if_neg, z_0, z_1, z_2, z_3, z_4, z_5, z_6, z_7, z_8, z_9, z_10, z_11, z_12, z_13, z_14, z_15, z_16, z_17, z_18, z_19, z_20, z_21, z_22, z_23, z_24, z_25, z_26, z_27, z_28, z_29, z_30, z_31, z_32, z_33, z_34, z_35, z_36, z_37, z_38, z_39, z_40, z_41, z_42, z_43, z_44, z_45, z_46, z_47, z_48, z_49, z_50, z_51, z_52, z_53, z_54, z_55, z_56, z_57, z_58, z_59, z_60, z_61, z_62, z_63, z_64, z_65, z_66, z_67, z_68, z_69, z_70, z_71, z_72, z_73, z_74, z_75, z_76, z_77, z_78, z_79, z_80, z_81, z_82, z_83, z_84, z_85, z_86, z_87, z_88, z_89, z_90, z_91, z_92, z_93, z_94, z_95, z_96, z_97, z_98, z_99, z_100, z_101, z_102, z_103, z_104, z_105, z_106, z_107, z_108, z_109, z_110, z_111, z_112, z_113, z_114, z_115, z_116, z_117, z_118, z_119, z_120, z_121, z_122, z_123, z_124, z_125, z_126, z_127, z_199, z_200, z_360, z_410, z_1000, z_1023, z_1024, z_1219, z_9999, z_10240, z_65537]
theorem x_image_1s {g : Nat → Int → Int} (hd : okd d) (hg : okd g) : f_X6_image_1s (eC d) (eC g) = some (zI 1, eC d) := by
  unfold f_X6_image_1s
  simp (disch := omega) only [x_isPlace, x_isHouse, x_isTale, x_within, x_longBetween, x_layRoad, x_doubtOf, x_furnish, x_beliefOf, x_convince, x_fadesInto, x_letFade, x_copyFrom g d hg hd, s_T, s_F, s_bd, s_cl, s_rd, s_wr, s_ite, z_ite, z_neg, z_add, z_sub, z_mul, z_le, z_lt, z_eq, eC_at, eC_7, eC_8, eC_9, eC_10, eC_11, eC_p7, eC_p8, eC_p9, eC_p10, eC_p11, eC_up, ud_same, ud_ne, if_pos, if_neg, z_0, z_1, z_2, z_3, z_4, z_5, z_6, z_7, z_8, z_9, z_10, z_11, z_12, z_13, z_14, z_15, z_16, z_17, z_18, z_19, z_20, z_21, z_22, z_23, z_24, z_25, z_26, z_27, z_28, z_29, z_30, z_31, z_32, z_33, z_34, z_35, z_36, z_37, z_38, z_39, z_40, z_41, z_42, z_43, z_44, z_45, z_46, z_47, z_48, z_49, z_50, z_51, z_52, z_53, z_54, z_55, z_56, z_57, z_58, z_59, z_60, z_61, z_62, z_63, z_64, z_65, z_66, z_67, z_68, z_69, z_70, z_71, z_72, z_73, z_74, z_75, z_76, z_77, z_78, z_79, z_80, z_81, z_82, z_83, z_84, z_85, z_86, z_87, z_88, z_89, z_90, z_91, z_92, z_93, z_94, z_95, z_96, z_97, z_98, z_99, z_100, z_101, z_102, z_103, z_104, z_105, z_106, z_107, z_108, z_109, z_110, z_111, z_112, z_113, z_114, z_115, z_116, z_117, z_118, z_119, z_120, z_121, z_122, z_123, z_124, z_125, z_126, z_127, z_199, z_200, z_360, z_410, z_1000, z_1023, z_1024, z_1219, z_9999, z_10240, z_65537]
theorem x_restore_0s {g : Nat → Int → Int} (hd : okd d) (hg : okd g) : f_X6_restore_0s (eC d) (eC g) = some (zI 1, eC g) := by
  unfold f_X6_restore_0s
  simp (disch := omega) only [x_isPlace, x_isHouse, x_isTale, x_within, x_longBetween, x_layRoad, x_doubtOf, x_furnish, x_beliefOf, x_convince, x_fadesInto, x_letFade, x_copyFrom d g hd hg, s_T, s_F, s_bd, s_cl, s_rd, s_wr, s_ite, z_ite, z_neg, z_add, z_sub, z_mul, z_le, z_lt, z_eq, eC_at, eC_7, eC_8, eC_9, eC_10, eC_11, eC_p7, eC_p8, eC_p9, eC_p10, eC_p11, eC_up, ud_same, ud_ne, if_pos, if_neg, z_0, z_1, z_2, z_3, z_4, z_5, z_6, z_7, z_8, z_9, z_10, z_11, z_12, z_13, z_14, z_15, z_16, z_17, z_18, z_19, z_20, z_21, z_22, z_23, z_24, z_25, z_26, z_27, z_28, z_29, z_30, z_31, z_32, z_33, z_34, z_35, z_36, z_37, z_38, z_39, z_40, z_41, z_42, z_43, z_44, z_45, z_46, z_47, z_48, z_49, z_50, z_51, z_52, z_53, z_54, z_55, z_56, z_57, z_58, z_59, z_60, z_61, z_62, z_63, z_64, z_65, z_66, z_67, z_68, z_69, z_70, z_71, z_72, z_73, z_74, z_75, z_76, z_77, z_78, z_79, z_80, z_81, z_82, z_83, z_84, z_85, z_86, z_87, z_88, z_89, z_90, z_91, z_92, z_93, z_94, z_95, z_96, z_97, z_98, z_99, z_100, z_101, z_102, z_103, z_104, z_105, z_106, z_107, z_108, z_109, z_110, z_111, z_112, z_113, z_114, z_115, z_116, z_117, z_118, z_119, z_120, z_121, z_122, z_123, z_124, z_125, z_126, z_127, z_199, z_200, z_360, z_410, z_1000, z_1023, z_1024, z_1219, z_9999, z_10240, z_65537]
theorem x_restore_1s {g : Nat → Int → Int} (hd : okd d) (hg : okd g) : f_X6_restore_1s (eC d) (eC g) = some (zI 1, eC g) := by
  unfold f_X6_restore_1s
  simp (disch := omega) only [x_isPlace, x_isHouse, x_isTale, x_within, x_longBetween, x_layRoad, x_doubtOf, x_furnish, x_beliefOf, x_convince, x_fadesInto, x_letFade, x_copyFrom d g hd hg, s_T, s_F, s_bd, s_cl, s_rd, s_wr, s_ite, z_ite, z_neg, z_add, z_sub, z_mul, z_le, z_lt, z_eq, eC_at, eC_7, eC_8, eC_9, eC_10, eC_11, eC_p7, eC_p8, eC_p9, eC_p10, eC_p11, eC_up, ud_same, ud_ne, if_pos, if_neg, z_0, z_1, z_2, z_3, z_4, z_5, z_6, z_7, z_8, z_9, z_10, z_11, z_12, z_13, z_14, z_15, z_16, z_17, z_18, z_19, z_20, z_21, z_22, z_23, z_24, z_25, z_26, z_27, z_28, z_29, z_30, z_31, z_32, z_33, z_34, z_35, z_36, z_37, z_38, z_39, z_40, z_41, z_42, z_43, z_44, z_45, z_46, z_47, z_48, z_49, z_50, z_51, z_52, z_53, z_54, z_55, z_56, z_57, z_58, z_59, z_60, z_61, z_62, z_63, z_64, z_65, z_66, z_67, z_68, z_69, z_70, z_71, z_72, z_73, z_74, z_75, z_76, z_77, z_78, z_79, z_80, z_81, z_82, z_83, z_84, z_85, z_86, z_87, z_88, z_89, z_90, z_91, z_92, z_93, z_94, z_95, z_96, z_97, z_98, z_99, z_100, z_101, z_102, z_103, z_104, z_105, z_106, z_107, z_108, z_109, z_110, z_111, z_112, z_113, z_114, z_115, z_116, z_117, z_118, z_119, z_120, z_121, z_122, z_123, z_124, z_125, z_126, z_127, z_199, z_200, z_360, z_410, z_1000, z_1023, z_1024, z_1219, z_9999, z_10240, z_65537]
theorem x_restore_0n : f_X6_restore_0n = some (zI (-3)) := by
  unfold f_X6_restore_0n
  simp (disch := omega) only [x_isPlace, x_isHouse, x_isTale, x_within, x_longBetween, x_layRoad, x_doubtOf, x_furnish, x_beliefOf, x_convince, x_fadesInto, x_letFade, s_T, s_F, s_bd, s_cl, s_rd, s_wr, s_ite, z_ite, z_neg, z_add, z_sub, z_mul, z_le, z_lt, z_eq, eC_at, eC_7, eC_8, eC_9, eC_10, eC_11, eC_p7, eC_p8, eC_p9, eC_p10, eC_p11, eC_up, ud_same, ud_ne, if_pos, if_neg, z_0, z_1, z_2, z_3, z_4, z_5, z_6, z_7, z_8, z_9, z_10, z_11, z_12, z_13, z_14, z_15, z_16, z_17, z_18, z_19, z_20, z_21, z_22, z_23, z_24, z_25, z_26, z_27, z_28, z_29, z_30, z_31, z_32, z_33, z_34, z_35, z_36, z_37, z_38, z_39, z_40, z_41, z_42, z_43, z_44, z_45, z_46, z_47, z_48, z_49, z_50, z_51, z_52, z_53, z_54, z_55, z_56, z_57, z_58, z_59, z_60, z_61, z_62, z_63, z_64, z_65, z_66, z_67, z_68, z_69, z_70, z_71, z_72, z_73, z_74, z_75, z_76, z_77, z_78, z_79, z_80, z_81, z_82, z_83, z_84, z_85, z_86, z_87, z_88, z_89, z_90, z_91, z_92, z_93, z_94, z_95, z_96, z_97, z_98, z_99, z_100, z_101, z_102, z_103, z_104, z_105, z_106, z_107, z_108, z_109, z_110, z_111, z_112, z_113, z_114, z_115, z_116, z_117, z_118, z_119, z_120, z_121, z_122, z_123, z_124, z_125, z_126, z_127, z_199, z_200, z_360, z_410, z_1000, z_1023, z_1024, z_1219, z_9999, z_10240, z_65537]
theorem x_restore_1n : f_X6_restore_1n = some (zI (-3)) := by
  unfold f_X6_restore_1n
  simp (disch := omega) only [x_isPlace, x_isHouse, x_isTale, x_within, x_longBetween, x_layRoad, x_doubtOf, x_furnish, x_beliefOf, x_convince, x_fadesInto, x_letFade, s_T, s_F, s_bd, s_cl, s_rd, s_wr, s_ite, z_ite, z_neg, z_add, z_sub, z_mul, z_le, z_lt, z_eq, eC_at, eC_7, eC_8, eC_9, eC_10, eC_11, eC_p7, eC_p8, eC_p9, eC_p10, eC_p11, eC_up, ud_same, ud_ne, if_pos, if_neg, z_0, z_1, z_2, z_3, z_4, z_5, z_6, z_7, z_8, z_9, z_10, z_11, z_12, z_13, z_14, z_15, z_16, z_17, z_18, z_19, z_20, z_21, z_22, z_23, z_24, z_25, z_26, z_27, z_28, z_29, z_30, z_31, z_32, z_33, z_34, z_35, z_36, z_37, z_38, z_39, z_40, z_41, z_42, z_43, z_44, z_45, z_46, z_47, z_48, z_49, z_50, z_51, z_52, z_53, z_54, z_55, z_56, z_57, z_58, z_59, z_60, z_61, z_62, z_63, z_64, z_65, z_66, z_67, z_68, z_69, z_70, z_71, z_72, z_73, z_74, z_75, z_76, z_77, z_78, z_79, z_80, z_81, z_82, z_83, z_84, z_85, z_86, z_87, z_88, z_89, z_90, z_91, z_92, z_93, z_94, z_95, z_96, z_97, z_98, z_99, z_100, z_101, z_102, z_103, z_104, z_105, z_106, z_107, z_108, z_109, z_110, z_111, z_112, z_113, z_114, z_115, z_116, z_117, z_118, z_119, z_120, z_121, z_122, z_123, z_124, z_125, z_126, z_127, z_199, z_200, z_360, z_410, z_1000, z_1023, z_1024, z_1219, z_9999, z_10240, z_65537]
theorem x_image_x {a : Int} (h1 : -2147483648 ≤ a) (h2 : a < 2147483648) (h : ¬ (0 ≤ a ∧ a ≤ 1)) : f_X6_image_x (zI a) = some (zI (-2)) := by
  unfold f_X6_image_x
  simp (disch := omega) only [x_isPlace, x_isHouse, x_isTale, x_within, x_longBetween, x_layRoad, x_doubtOf, x_furnish, x_beliefOf, x_convince, x_fadesInto, x_letFade, s_T, s_F, s_bd, s_cl, s_rd, s_wr, s_ite, z_ite, z_neg, z_add, z_sub, z_mul, z_le, z_lt, z_eq, eC_at, eC_7, eC_8, eC_9, eC_10, eC_11, eC_p7, eC_p8, eC_p9, eC_p10, eC_p11, eC_up, ud_same, ud_ne, if_pos, if_neg, z_0, z_1, z_2, z_3, z_4, z_5, z_6, z_7, z_8, z_9, z_10, z_11, z_12, z_13, z_14, z_15, z_16, z_17, z_18, z_19, z_20, z_21, z_22, z_23, z_24, z_25, z_26, z_27, z_28, z_29, z_30, z_31, z_32, z_33, z_34, z_35, z_36, z_37, z_38, z_39, z_40, z_41, z_42, z_43, z_44, z_45, z_46, z_47, z_48, z_49, z_50, z_51, z_52, z_53, z_54, z_55, z_56, z_57, z_58, z_59, z_60, z_61, z_62, z_63, z_64, z_65, z_66, z_67, z_68, z_69, z_70, z_71, z_72, z_73, z_74, z_75, z_76, z_77, z_78, z_79, z_80, z_81, z_82, z_83, z_84, z_85, z_86, z_87, z_88, z_89, z_90, z_91, z_92, z_93, z_94, z_95, z_96, z_97, z_98, z_99, z_100, z_101, z_102, z_103, z_104, z_105, z_106, z_107, z_108, z_109, z_110, z_111, z_112, z_113, z_114, z_115, z_116, z_117, z_118, z_119, z_120, z_121, z_122, z_123, z_124, z_125, z_126, z_127, z_199, z_200, z_360, z_410, z_1000, z_1023, z_1024, z_1219, z_9999, z_10240, z_65537]
theorem x_restore_x {a : Int} (h1 : -2147483648 ≤ a) (h2 : a < 2147483648) (h : ¬ (0 ≤ a ∧ a ≤ 1)) : f_X6_restore_x (zI a) = some (zI (-2)) := by
  unfold f_X6_restore_x
  simp (disch := omega) only [x_isPlace, x_isHouse, x_isTale, x_within, x_longBetween, x_layRoad, x_doubtOf, x_furnish, x_beliefOf, x_convince, x_fadesInto, x_letFade, s_T, s_F, s_bd, s_cl, s_rd, s_wr, s_ite, z_ite, z_neg, z_add, z_sub, z_mul, z_le, z_lt, z_eq, eC_at, eC_7, eC_8, eC_9, eC_10, eC_11, eC_p7, eC_p8, eC_p9, eC_p10, eC_p11, eC_up, ud_same, ud_ne, if_pos, if_neg, z_0, z_1, z_2, z_3, z_4, z_5, z_6, z_7, z_8, z_9, z_10, z_11, z_12, z_13, z_14, z_15, z_16, z_17, z_18, z_19, z_20, z_21, z_22, z_23, z_24, z_25, z_26, z_27, z_28, z_29, z_30, z_31, z_32, z_33, z_34, z_35, z_36, z_37, z_38, z_39, z_40, z_41, z_42, z_43, z_44, z_45, z_46, z_47, z_48, z_49, z_50, z_51, z_52, z_53, z_54, z_55, z_56, z_57, z_58, z_59, z_60, z_61, z_62, z_63, z_64, z_65, z_66, z_67, z_68, z_69, z_70, z_71, z_72, z_73, z_74, z_75, z_76, z_77, z_78, z_79, z_80, z_81, z_82, z_83, z_84, z_85, z_86, z_87, z_88, z_89, z_90, z_91, z_92, z_93, z_94, z_95, z_96, z_97, z_98, z_99, z_100, z_101, z_102, z_103, z_104, z_105, z_106, z_107, z_108, z_109, z_110, z_111, z_112, z_113, z_114, z_115, z_116, z_117, z_118, z_119, z_120, z_121, z_122, z_123, z_124, z_125, z_126, z_127, z_199, z_200, z_360, z_410, z_1000, z_1023, z_1024, z_1219, z_9999, z_10240, z_65537]
end XIM
end
section
/-! years, exactly -/
theorem n10 : ¬ zI 1 = zI 0 := by decide
section YREX
variable {d f m : Nat → Int → Int} {τ : qL}
/-- tales believed, doubts together -/
def tbl (d : Nat → Int → Int) : Nat → Int → Int32 → Int32
  | 0, _, s => s
  | N + 1, i, s => if 10 ≤ i then s else tbl d N (i + 1) (if bts d (zI i) 20000 0 0 = 0 then s else s + 1)
def dbs (d : Nat → Int → Int) : Nat → Int → Int32 → Int32
  | 0, _, s => s
  | N + 1, i, s => if 10 ≤ i then s else dbs d N (i + 1) (s + zI (d 1 i))
theorem x_talesB : f_X1_talesBelieved (eC d) = some (tbl d 20000 0 0) := by
  unfold f_X1_talesBelieved
  have key := lp_en (body := b_X1_talesBelieved_4 (eC d)) (k := fun z1 => some z1.2) (fun s : Int × Int32 => (zI s.1, s.2)) (fun N s => some (tbl d N s.1 s.2)) (fun N s => 0 ≤ s.1 ∧ s.1 ≤ 10 ∧ (10 - s.1).toNat < N) (fun s => by omega) (by
    rintro again N ⟨i, s⟩ ⟨h0, h1, h2⟩ ih
    dsimp only at h0 h1 h2 ⊢
    unfold b_X1_talesBelieved_4 tbl
    dsimp only
    rw [z_s1, z_10]
    by_cases c : i < 10
    · have ih' := ih (i + 1, if bts d (zI i) 20000 0 0 = 0 then s else s + 1) ⟨by dsimp only; omega, by dsimp only; omega, by dsimp only; omega⟩
      dsimp only at ih'
      rw [if_neg (c_nle c h0 (by omega)), if_neg (by omega), x_believersOf, s_cl, ← ih']
      by_cases c2 : bts d (zI i) 20000 0 0 = 0
      · rw [if_pos c2, if_pos c2]
      · rw [if_neg c2, if_neg c2]
    · rw [if_pos (c_le (a := 10) (b := i) (by omega) (by omega) (by omega)), if_pos (by omega)]) 20000 (0, 0) ⟨Int.le_refl 0, by show (0 : Int) ≤ 10; decide, by show ((10 : Int) - 0).toNat < 20000; decide⟩
  exact key
theorem m_talesB : f_X7_talesBelieved (eC (pw m d)) τ = some (tbl d 20000 0 0) := by
  unfold f_X7_talesBelieved
  have key := lp_en (body := b_X7_talesBelieved_4 (eC (pw m d)) τ) (k := fun z1 => some z1.2) (fun s : Int × Int32 => (zI s.1, s.2)) (fun N s => some (tbl d N s.1 s.2)) (fun N s => 0 ≤ s.1 ∧ s.1 ≤ 10 ∧ (10 - s.1).toNat < N) (fun s => by omega) (by
    rintro again N ⟨i, s⟩ ⟨h0, h1, h2⟩ ih
    dsimp only at h0 h1 h2 ⊢
    unfold b_X7_talesBelieved_4 tbl
    dsimp only
    rw [z_s1, z_10]
    have e0 : s + 0 = s := Int32.add_zero s
    by_cases c : i < 10
    · have ih' := ih (i + 1, if bts d (zI i) 20000 0 0 = 0 then s else s + 1) ⟨by dsimp only; omega, by dsimp only; omega, by dsimp only; omega⟩
      dsimp only at ih'
      rw [if_neg (c_nle c h0 (by omega)), if_neg (by omega), m_believing, s_cl, ← ih']
      by_cases c2 : bts d (zI i) 20000 0 0 = 0
      · rw [if_pos c2, if_pos c2, s_bd, e0]
      · rw [if_neg c2, if_neg c2, s_bd]
    · rw [if_pos (c_le (a := 10) (b := i) (by omega) (by omega) (by omega)), if_pos (by omega)]) 20000 (0, 0) ⟨Int.le_refl 0, by show (0 : Int) ≤ 10; decide, by show ((10 : Int) - 0).toNat < 20000; decide⟩
  exact key
theorem x_allDb : f_X1_allDoubt (eC d) = some (dbs d 20000 0 0) := by
  unfold f_X1_allDoubt
  have key := lp_en (body := b_X1_allDoubt_4 (eC d)) (k := fun z1 => some z1.2) (fun s : Int × Int32 => (zI s.1, s.2)) (fun N s => some (dbs d N s.1 s.2)) (fun N s => 0 ≤ s.1 ∧ s.1 ≤ 10 ∧ (10 - s.1).toNat < N) (fun s => by omega) (by
    rintro again N ⟨i, s⟩ ⟨h0, h1, h2⟩ ih
    dsimp only at h0 h1 h2 ⊢
    unfold b_X1_allDoubt_4 dbs
    dsimp only
    rw [z_s1, z_10]
    by_cases c : i < 10
    · have ih' := ih (i + 1, s + zI (d 1 i)) ⟨by dsimp only; omega, by dsimp only; omega, by dsimp only; omega⟩
      dsimp only at ih'
      rw [if_neg (c_nle c h0 (by omega)), if_neg (by omega), s_rd (n := 10) h0 (by omega) (by omega), eC_at _ _ h0, ← ih', s_bd]
    · rw [if_pos (c_le (a := 10) (b := i) (by omega) (by omega) (by omega)), if_pos (by omega)]) 20000 (0, 0) ⟨Int.le_refl 0, by show (0 : Int) ≤ 10; decide, by show ((10 : Int) - 0).toNat < 20000; decide⟩
  exact key
theorem m_allDb : f_X7_doubts (eC (pw m d)) τ = some (dbs d 20000 0 0) := by
  unfold f_X7_doubts
  have key := lp_en (body := b_X7_doubts_4 (eC (pw m d))) (k := fun z1 => some z1.2) (fun s : Int × Int32 => (zI s.1, s.2)) (fun N s => some (dbs d N s.1 s.2)) (fun N s => 0 ≤ s.1 ∧ s.1 ≤ 10 ∧ (10 - s.1).toNat < N) (fun s => by omega) (by
    rintro again N ⟨i, s⟩ ⟨h0, h1, h2⟩ ih
    dsimp only at h0 h1 h2 ⊢
    unfold b_X7_doubts_4 dbs
    dsimp only
    rw [z_s1, z_10]
    by_cases c : i < 10
    · have ih' := ih (i + 1, s + zI (d 1 i)) ⟨by dsimp only; omega, by dsimp only; omega, by dsimp only; omega⟩
      dsimp only at ih'
      rw [if_neg (c_nle c h0 (by omega)), if_neg (by omega), s_rd (n := 10) h0 (by omega) (by omega), eC_at _ _ h0, pw_1, ← ih', s_bd]
    · rw [if_pos (c_le (a := 10) (b := i) (by omega) (by omega) (by omega)), if_pos (by omega)]) 20000 (0, 0) ⟨Int.le_refl 0, by show (0 : Int) ≤ 10; decide, by show ((10 : Int) - 0).toNat < 20000; decide⟩
  exact key
/-- how many bits: both sides -/
def onz (x : Int32) : Int32 := match f_X7_ones x with
  | some r => r
  | none => 0
theorem onz_32 : ∀ a : Nat, a < 32 → ∀ b : Nat, b < 32 → (f_J6_bitCount_0f7a4 (nI (32 * a + b)) = some (onz (nI (32 * a + b))) ∧ f_X7_ones (nI (32 * a + b)) = some (onz (nI (32 * a + b))) ∧ 0 ≤ (onz (nI (32 * a + b))).toInt ∧ (onz (nI (32 * a + b))).toInt ≤ 10) := by decide +kernel
theorem onz_of {s : Int} (h0 : 0 ≤ s) (h1 : s < 1024) : f_J6_bitCount_0f7a4 (zI s) = some (onz (zI s)) ∧ f_X7_ones (zI s) = some (onz (zI s)) ∧ 0 ≤ (onz (zI s)).toInt ∧ (onz (zI s)).toInt ≤ 10 := by
  have k := onz_32 (s.toNat / 32) (by omega) (s.toNat % 32) (by omega)
  have e : nI (32 * (s.toNat / 32) + s.toNat % 32) = zI s := by
    rw [z_n]
    congr 1
    omega
  rwa [e] at k
theorem bts_set (a : Int32) : ∀ (N : Nat) (i : Int) (s : Int32), 0 ≤ i → set10 s → set10 (bts d a N i s) := by
  intro N
  induction N with
  | zero => intro i s _ hs; exact hs
  | succ N ih =>
    intro i s h0 hs
    unfold bts
    by_cases c : 10 ≤ i
    · rw [if_pos c]; exact hs
    · rw [if_neg c]
      refine ih (i + 1) _ (by omega) ?_
      split
      · exact set_or hs (set_1 h0 (by omega))
      · exact hs
theorem x_blvs : f_X1_believers (eC d) = some (10 - onz (bts d (-6) 20000 0 0)) := by
  unfold f_X1_believers
  obtain ⟨s, s0, s1, e⟩ := set_of (bts_set (d := d) (-6) 20000 0 0 (by omega) set_0)
  rw [x_believersOf, s_cl, e, (onz_of s0 s1).1, s_cl]
theorem m_blvs : f_X7_ones (bts d (-6) 20000 0 0) = some (onz (bts d (-6) 20000 0 0)) := by
  obtain ⟨s, s0, s1, e⟩ := set_of (bts_set (d := d) (-6) 20000 0 0 (by omega) set_0)
  rw [e]
  exact (onz_of s0 s1).2.1
theorem m_yr (m : Nat → Int → Int) (τ : qL) {n : Int} (n1 : n ≤ 99) (K : Int32 × Int32 × qS → Option (Int32 × qS)) (G : qS → Option (Int32 × qS)) (hK : ∀ u, K u = G u.2.2) : ∀ (N : Nat) (i x : Int) (d' : Nat → Int → Int), 0 ≤ i → i ≤ n → (n - i).toNat < N → 0 ≤ x → x < 65537 → okd d' →
    q_lp (b_X7_year_49 τ (zI n)) K N (zI i, zI x, eC (pw m d')) = G (eC (pw m (yr n N i x d'))) := by
  intro N
  induction N with
  | zero => intro i x d' _ _ h; omega
  | succ N ih =>
    intro i x d' h0 h1 hN hx0 hx1 hd'
    rw [lp_s]
    generalize q_lp (b_X7_year_49 τ (zI n)) K N = again at ih
    unfold b_X7_year_49 yr
    dsimp only
    rw [z_s1]
    by_cases c : n ≤ i
    · rw [if_pos (c_le c (by omega) (by omega)), if_pos c, hK]
    · rw [if_neg (c_nle (by omega) h0 (by omega)), if_neg c, m_lseed hx0 hx1, s_bd]
      generalize hy : (75 * x + 74) % 65537 = y
      have y0 : 0 ≤ y := by omega
      have y1 : y < 65537 := by omega
      have hk := kdr_b (y % 8)
      have ew : (80 : Int32) = zI 80 := by decide
      rw [z_8, z_rem y0 (by omega) (by omega) (by omega), m_actBy (by omega) (by omega), s_cl, z_div y0 (by omega) (by omega) (by omega), z_11, z_10, z_rem (by omega) (by omega) (by omega) (by omega), z_rem (by omega) (by omega) (by omega) (by omega), ew, z_9, z_1, z_div y0 (by omega) (by omega) (by omega), z_rem (by omega) (by omega) (by omega) (by omega), z_add, z_mul]
      simp only [s_bd]
      by_cases ck : kdr (y % 8) = 1
      · rw [if_pos (show zI (kdr (y % 8)) = zI 1 by rw [ck])]
        have hrb := rsn_b (d := d') (kdr (y % 8)) (y / 8 % 11)
        rw [m_whyNot _ _ τ hd' hk.1 hk.2 (fun _ => by omega), s_cl]
        rw [if_pos ck]
        by_cases cr : rsn d' (kdr (y % 8)) (y / 8 % 11) = 0
        · have hya := yr_act hd' y0 y1 (by rw [if_pos ck]; exact cr)
          rw [if_pos ck] at hya
          rw [if_pos cr, cr, z_0, if_pos rfl, m_happen _ _ τ hd' hk.1 hk.2 (fun _ => by omega) (fun z => by omega), s_cl]
          exact ih (i + 1) y _ (by omega) (by omega) (by omega) y0 y1 hya.1
        · rw [if_neg cr, if_neg (fun z => cr (by rwa [z_0, z_eq (by omega) (by omega) (by omega) (by omega)] at z))]
          exact ih (i + 1) y d' (by omega) (by omega) (by omega) y0 y1 hd'
      · rw [if_neg (show ¬ zI (kdr (y % 8)) = zI 1 by rw [z_eq (by omega) (by omega) (by omega) (by omega)]; exact ck)]
        have hrb := rsn_b (d := d') (kdr (y % 8)) (y / 8 % 10)
        rw [m_whyNot _ _ τ hd' hk.1 hk.2 (fun z => absurd z ck), s_cl]
        rw [if_neg ck]
        by_cases cr : rsn d' (kdr (y % 8)) (y / 8 % 10) = 0
        · have hya := yr_act hd' y0 y1 (by rw [if_neg ck]; exact cr)
          rw [if_neg ck] at hya
          have hb : kdr (y % 8) = 2 → d' 99 8 ≤ 9 := by
            intro e
            have a1 := okd_p hd'
            rw [e] at cr
            unfold rsn at cr
            rw [if_neg (by decide), if_neg (by decide), if_pos rfl] at cr
            split at cr <;> omega
          rw [if_pos cr, cr, z_0, if_pos rfl, m_happen _ _ τ hd' hk.1 hk.2 (fun z => absurd z ck) hb, s_cl]
          exact ih (i + 1) y _ (by omega) (by omega) (by omega) y0 y1 hya.1
        · rw [if_neg cr, if_neg (fun z => cr (by rwa [z_0, z_eq (by omega) (by omega) (by omega) (by omega)] at z))]
          exact ih (i + 1) y d' (by omega) (by omega) (by omega) y0 y1 hd'
/-- a year's answer -/
def yrV (d : Nat → Int → Int) (w : Int32) : Int32 := if w = zI 0 then 10 - onz (bts d (-6) 20000 0 0) else if w = zI 1 then tbl d 20000 0 0 else dbs d 20000 0 0
theorem c_year (hd : okd d) (hf : okd f) (a b w : Int32) : ∃ r f' m', f_X6_year (eC f) (eC d) a b w = some (r, eC f') ∧ f_X7_year (eC (pw m d)) τ a b w = some (r, eC (pw m' d)) ∧ okd f' ∧ frN m m' := by
  unfold f_X6_year f_X7_year
  obtain ⟨a, a0, a1, rfl⟩ := z_of a
  obtain ⟨b, b0, b1, rfl⟩ := z_of b
  obtain ⟨w, w0, w1, rfl⟩ := z_of w
  have e9999 : (9999 : Int64) = zL 9999 := by decide
  rw [z_0, z_9999, z_1, z_99, z_2, x_within a0 a1 (by omega) (by omega) (by omega) (by omega), x_within b0 b1 (by omega) (by omega) (by omega) (by omega), x_within w0 w1 (by omega) (by omega) (by omega) (by omega), s_cl, s_cl, s_cl]
  rw [z_l a0 a1, z_l b0 b1, z_l w0 w1, zl_0, zl_1, zl_2, zl_99, e9999, m_in (by omega) (by omega) (by omega) (by omega) (by omega) (by omega), m_in (by omega) (by omega) (by omega) (by omega) (by omega) (by omega), m_in (by omega) (by omega) (by omega) (by omega) (by omega) (by omega), s_cl, s_cl, s_cl]
  by_cases ca : 0 ≤ a ∧ a ≤ 9999
  · rw [if_pos ca, if_neg n10, if_neg n10]
    by_cases cb : 1 ≤ b ∧ b ≤ 99
    · rw [if_pos cb, if_neg n10, if_neg n10]
      by_cases cw : 0 ≤ w ∧ w ≤ 2
      · rw [if_pos cw, if_neg n10, if_neg n10]
        rw [x_copyFrom f d hf hd, s_cl, x_liveYear hd ca.1 (by omega) cb.1 cb.2, s_cl, m_keepNow, s_cl]
        obtain ⟨hy, hh⟩ := yr_ok b 20000 0 a d hd
        have hbk : ∀ r, f_X7_back (eC (pw (kNow m d) (yr b 20000 0 a d))) τ r = some (r, eC (pw (kNow m d) d)) := fun r => by
          rw [m_back, bk_kNow hh (fun _ => rfl)]
        refine ⟨yrV (yr b 20000 0 a d) (zI w), yr b 20000 0 a d, kNow m d, ?_, ?_, hy, frN_kNow m d⟩
        · unfold yrV
          split
          · rw [x_blvs, s_cl]
          · split
            · rw [x_talesB, s_cl]
            · rw [x_allDb, s_cl]
        · rw [m_yr (kNow m d) τ cb.2 _ (fun σ => if zI w = zI 0 then (q_cl (f_X7_believing σ τ (-6 : Int32)) fun r_27 => q_cl (f_X7_ones r_27) fun r_29 => q_bd ((10 : Int32) - r_29) fun v5_31 => q_cl (f_X7_back σ τ v5_31) fun y_36 => some (y_36.1, y_36.2))
            else if zI w = zI 1 then (q_cl (f_X7_talesBelieved σ τ) fun r_21 => q_cl (f_X7_back σ τ r_21) fun y_26 => some (y_26.1, y_26.2))
            else q_cl (f_X7_doubts σ τ) fun r_15 => q_cl (f_X7_back σ τ r_15) fun y_20 => some (y_20.1, y_20.2)) (fun u => rfl) 20000 0 a d (by omega) (by omega) (by omega) ca.1 (by omega) hd]
          unfold yrV
          split
          · rw [m_believing, s_cl, m_blvs, s_cl, s_bd, hbk, s_cl]
          · split
            · rw [m_talesB, s_cl, hbk, s_cl]
            · rw [m_allDb, s_cl, hbk, s_cl]
      · rw [if_neg cw, if_pos rfl, if_pos rfl]
        exact ⟨_, f, m, rfl, rfl, hf, frN_rf m⟩
    · rw [if_neg cb, if_pos rfl, if_pos rfl]
      exact ⟨_, f, m, rfl, rfl, hf, frN_rf m⟩
  · rw [if_neg ca, if_pos rfl, if_pos rfl]
    exact ⟨_, f, m, rfl, rfl, hf, frN_rf m⟩
end YREX
end
section
/-! bits -/
def bi (s : Int32) (i : Int) : Bool := s.toBitVec.getLsbD i.toNat
theorem sm32 : ∀ k : Nat, k < 32 → ((nI k).toBitVec.smod (32 : BitVec 32)).toNat = k := by decide
theorem nI31 : ∀ k : Nat, k < 32 → nI k &&& 31 = nI k := by decide
theorem sr_bit (s : Int32) {k : Nat} (hk : k < 32) : (((s >>> (nI k)) &&& 1) = 1) ↔ s.toBitVec.getLsbD k = true := by
  rw [← Int32.toBitVec_inj, Int32.toBitVec_and, Int32.toBitVec_shiftRight]
  show (s.toBitVec.sshiftRight ((nI k).toBitVec.smod (32 : BitVec 32)).toNat &&& 1#32 = 1#32) ↔ _
  rw [sm32 k hk, BitVec.and_one_eq_setWidth_ofBool_getLsbD, BitVec.getLsbD_sshiftRight, if_pos (show k + 0 < 32 by omega), Nat.add_zero]
  cases s.toBitVec.getLsbD k <;> decide
theorem sr_bit0 (s : Int32) {k : Nat} (hk : k < 32) : (((s >>> (nI k)) &&& 1) = 0) ↔ ¬ s.toBitVec.getLsbD k = true := by
  rw [← Int32.toBitVec_inj, Int32.toBitVec_and, Int32.toBitVec_shiftRight]
  show (s.toBitVec.sshiftRight ((nI k).toBitVec.smod (32 : BitVec 32)).toNat &&& 1#32 = 0#32) ↔ _
  rw [sm32 k hk, BitVec.and_one_eq_setWidth_ofBool_getLsbD, BitVec.getLsbD_sshiftRight, if_pos (show k + 0 < 32 by omega), Nat.add_zero]
  cases s.toBitVec.getLsbD k <;> decide
theorem zI_toNat {i : Int} (h0 : 0 ≤ i) : zI i = nI i.toNat := by rw [z_n, Int.toNat_of_nonneg h0]
theorem t_bit (s : Int32) {i : Int} (h0 : 0 ≤ i) (h1 : i < 32) : ((((s >>> (zI i &&& 31)) &&& 1) = 1) = (bi s i = true)) := by
  rw [zI_toNat h0, nI31 _ (by omega)]
  exact propext (sr_bit s (by omega))
theorem t_bit0 (s : Int32) {i : Int} (h0 : 0 ≤ i) (h1 : i < 32) : ((((s >>> (zI i &&& 31)) &&& 1) = 0) = (¬ bi s i = true)) := by
  rw [zI_toNat h0, nI31 _ (by omega)]
  exact propext (sr_bit0 s (by omega))
theorem x_isInB (s : Int32) {i : Int} (h0 : 0 ≤ i) (h1 : i < 32) : f_X6_isIn (zI i) s = some (if bi s i = true then 1 else 0) := by
  unfold f_X6_isIn
  simp only [t_bit s h0 h1, s_ite]
theorem bi_or (a b : Int32) (i : Int) : bi (a ||| b) i = (bi a i || bi b i) := by
  unfold bi
  rw [Int32.toBitVec_or, BitVec.getLsbD_or]
theorem bi_and (a b : Int32) (i : Int) : bi (a &&& b) i = (bi a i && bi b i) := by
  unfold bi
  rw [Int32.toBitVec_and, BitVec.getLsbD_and]
theorem bi_not (a : Int32) {i : Int} (h1 : i < 32) : bi (a ^^^ (-1)) i = !bi a i := by
  unfold bi
  rw [Int32.toBitVec_xor, BitVec.getLsbD_xor]
  have e : (-1 : Int32).toBitVec = BitVec.allOnes 32 := by decide
  rw [e, BitVec.getLsbD_allOnes, decide_eq_true (show i.toNat < 32 by omega)]
  cases a.toBitVec.getLsbD i.toNat <;> rfl
theorem one_32 : ∀ j : Nat, j < 32 → ∀ i : Nat, i < 32 → ((1 : Int32) <<< (nI j &&& 31)).toBitVec.getLsbD i = decide (i = j) := by decide +kernel
theorem bi_one {i j : Int} (h0 : 0 ≤ i) (h1 : i < 32) (h2 : 0 ≤ j) (h3 : j < 32) : bi ((1 : Int32) <<< (zI j &&& 31)) i = decide (i = j) := by
  unfold bi
  rw [zI_toNat h2, one_32 _ (by omega) _ (by omega)]
  by_cases c : i = j
  · rw [decide_eq_true c, decide_eq_true (by omega)]
  · rw [decide_eq_false c, decide_eq_false (by omega)]
theorem bi_z0 (i : Int) : bi 0 i = false := by
  unfold bi
  show (0#32).getLsbD i.toNat = false
  exact BitVec.getLsbD_zero
theorem bi_z {s : Int} (h0 : 0 ≤ s) (h1 : s < 4294967296) {i : Int} (h2 : 0 ≤ i) : bi (zI s) i = s.toNat.testBit i.toNat := by
  unfold bi
  have e : (zI s).toBitVec = BitVec.ofNat 32 s.toNat := by
    rw [zI_toNat h0]; rfl
  rw [e, BitVec.getLsbD_ofNat]
  by_cases c : i.toNat < 32
  · rw [decide_eq_true c]; rfl
  · rw [decide_eq_false c, Nat.testBit_lt_two_pow (Nat.lt_of_lt_of_le (show s.toNat < 2 ^ 32 by omega) (Nat.pow_le_pow_right (by decide) (by omega)))]; rfl
theorem bi_hi {s : Int} (h0 : 0 ≤ s) (h1 : s < 1024) {i : Int} (h2 : 10 ≤ i) : bi (zI s) i = false := by
  rw [bi_z h0 (by omega) (by omega)]
  exact Nat.testBit_lt_two_pow (Nat.lt_of_lt_of_le (show s.toNat < 2 ^ 10 by omega) (Nat.pow_le_pow_right (by decide) (by omega)))
/-- a loop that counts up, with an invariant of the count -/
theorem ok_forI {β τ : Type} {Q : β → Prop} {body : (Int32 × τ → Option β) → (Int32 × τ → Option β) → Int32 × τ → Option β} {k : Int32 × τ → Option β} (hi : Int) (P : Int → τ → Prop)
    (h : ∀ (again : Int32 × τ → Option β) (i : Int) (t : τ), 0 ≤ i → i ≤ hi → P i t → (i < hi → ∀ t', P (i + 1) t' → oK Q (again (zI (i + 1), t'))) → oK Q (body k again (zI i, t))) :
    ∀ (N : Nat) (i : Int) (t : τ), 0 ≤ i → i ≤ hi → P i t → (hi - i).toNat < N → oK Q (q_lp body k N (zI i, t)) := by
  intro N
  induction N with
  | zero => intro i t _ _ _ hN; omega
  | succ N ih =>
    intro i t h0 h1 hp hN
    rw [lp_s]
    exact h _ i t h0 h1 hp (fun hl t' ht' => ih (i + 1) t' (by omega) (by omega) ht' (by omega))
theorem ok_forI1 {β : Type} {Q : β → Prop} {body : (Int32 → Option β) → (Int32 → Option β) → Int32 → Option β} {k : Int32 → Option β} (hi : Int) (P : Int → Prop)
    (h : ∀ (again : Int32 → Option β) (i : Int), 0 ≤ i → i ≤ hi → P i → (i < hi → P (i + 1) → oK Q (again (zI (i + 1)))) → oK Q (body k again (zI i))) :
    ∀ (N : Nat) (i : Int), 0 ≤ i → i ≤ hi → P i → (hi - i).toNat < N → oK Q (q_lp body k N (zI i)) := by
  intro N
  induction N with
  | zero => intro i _ _ _ hN; omega
  | succ N ih =>
    intro i h0 h1 hp hN
    rw [lp_s]
    exact h _ i h0 h1 hp (fun hl hp' => ih (i + 1) (by omega) (by omega) hp' (by omega))
theorem ok_bdq {α β : Type} {Q : β → Prop} {x : α} {k : α → Option β} (h : ∀ v, v = x → oK Q (k v)) : oK Q (q_bd x k) := h x rfl
theorem ok_ifE {β : Type} {Q : β → Prop} {c c' : Prop} [Decidable c] {a b : Option β} (h : c ↔ c') (h1 : c' → oK Q a) (h2 : ¬ c' → oK Q b) : oK Q (if c then a else b) := ok_if (fun z => h1 (h.mp z)) (fun z => h2 (fun y => z (h.mpr y)))
theorem ok_get {β : Type} {Q : β → Prop} {x : Option β} (h : oK Q x) : ∃ r, x = some r ∧ Q r := h
/-! tests that hold -/
theorem x_win {x a b : Int} (h1 : a ≤ x) (h2 : x ≤ b) (h3 : -2147483648 ≤ a) (h4 : b < 2147483648) : f_X6_within (zI x) (zI a) (zI b) = some (zI 1) := by
  rw [x_within (by omega) (by omega) (by omega) (by omega) (by omega) (by omega), if_pos ⟨h1, h2⟩]
theorem x_tal {x : Int} (h1 : 0 ≤ x) (h2 : x ≤ 9) : f_X6_isTale (zI x) = some (zI 1) := by
  rw [x_isTale (by omega) (by omega), if_pos ⟨h1, h2⟩]
theorem x_hou {x : Int} (h1 : 0 ≤ x) (h2 : x ≤ 9) : f_X6_isHouse (zI x) = some (zI 1) := by
  rw [x_isHouse (by omega) (by omega), if_pos ⟨h1, h2⟩]
theorem x_pla {x : Int} (h1 : 0 ≤ x) (h2 : x ≤ 10) : f_X6_isPlace (zI x) = some (zI 1) := by
  rw [x_isPlace (by omega) (by omega), if_pos ⟨h1, h2⟩]
theorem m_inT {x a b : Int} (h1 : a ≤ x) (h2 : x ≤ b) (h3 : -9223372036854775808 ≤ a) (h4 : b < 9223372036854775808) : f_X7_in (zL x) (zL a) (zL b) = some (zI 1) := by
  rw [m_in (by omega) (by omega) (by omega) (by omega) (by omega) (by omega), if_pos ⟨h1, h2⟩]
theorem m_tal {x : Int} (h1 : 0 ≤ x) (h2 : x ≤ 9) : f_X7_isTale (zI x) = some (zI 1) := by
  rw [m_isTale (by omega) (by omega), if_pos ⟨h1, h2⟩]
theorem m_hou {x : Int} (h1 : 0 ≤ x) (h2 : x ≤ 9) : f_X7_isHouse (zI x) = some (zI 1) := by
  rw [m_isHouse (by omega) (by omega), if_pos ⟨h1, h2⟩]
theorem m_pla {x : Int} (h1 : 0 ≤ x) (h2 : x ≤ 10) : f_X7_isPlace (zI x) = some (zI 1) := by
  rw [m_isPlace (by omega) (by omega), if_pos ⟨h1, h2⟩]
/-- a boolean's number -/
def fI (b : Bool) : Int32 := bif b then 1 else 0
theorem fI_if {b : Bool} : fI b = 0 ↔ ¬ b = true := by cases b <;> decide
theorem d_cases {P : Prop} : P ∨ ¬ P := Classical.em P
end
section
/-! keeping a house, exactly -/
/-- reached from the kitchen in so many steps, past no house of a set -/
def rchd (d : Nat → Int → Int) (S : Int32) : Nat → Int → Prop
  | 0, p => p = 10
  | n + 1, p => rchd d S n p ∨ ((∃ q, 0 ≤ q ∧ q ≤ 10 ∧ rchd d S n q ∧ 0 < d 0 (q * 11 + p)) ∧ ¬ bi S p = true)
theorem rchd_mono {d : Nat → Int → Int} {S : Int32} {p : Int} {n m : Nat} (h : n ≤ m) (hr : rchd d S n p) : rchd d S m p := by
  induction h with
  | refl => exact hr
  | step _ ih => exact Or.inl ih
theorem rchd_not {d : Nat → Int → Int} {S : Int32} (hS : ¬ bi S 10 = true) : ∀ (n : Nat) (p : Int), rchd d S n p → ¬ bi S p = true := by
  intro n
  induction n with
  | zero => intro p hp; rw [show p = 10 from hp]; exact hS
  | succ n ih =>
    intro p hp
    rcases hp with h | h
    · exact ih p h
    · exact h.2
section KEEP
variable {d m : Nat → Int → Int} {τ : qL}
theorem road_le (hd : okd d) {i : Int} : (zI (d 0 i) ≤ 0) = (¬ 0 < d 0 i) := by
  have := okd_0 hd i
  rw [z_0, z_le (by omega) (by omega) (by omega) (by omega)]
  exact propext ⟨fun z => by omega, fun z => by omega⟩
/-- neighbours, as bits -/
def nbs (d : Nat → Int → Int) (σ : qS) (n : Int) : Prop := ∀ q, 0 ≤ q → q < n → ∀ p, 0 ≤ p → p ≤ 10 → (bi (σ 1 q.toNat) p = true ↔ 0 < d 0 (q * 11 + p))
theorem y_findNeighbours (hd : okd d) (σ : qS) : oK (fun s => nbs d s 11) (f_X5_findNeighbours σ (eC d)) := by
  unfold f_X5_findNeighbours
  rw [z_0]
  refine ok_forI (τ := qS) 11 (fun i t => nbs d t i) (fun again i t h0 h1 ht ih => ?_) 20000 0 σ (by omega) (by omega) (fun q h0 h1 => by omega) (by omega)
  unfold b_X5_findNeighbours_2
  dsimp only
  rw [z_11, z_s1, z_0]
  refine ok_if (fun c => ok_r ?_) (fun c => ?_)
  · have := t_le h0 (by omega) (by omega) (by omega) c
    obtain rfl : i = 11 := by omega
    exact ht
  have hi := t_nle h0 (by omega) (by omega) (by omega) c
  refine ok_forI (τ := Int32) 11 (fun j b => ∀ p, 0 ≤ p → p ≤ 10 → (bi b p = true ↔ p < j ∧ 0 < d 0 (i * 11 + p))) (fun again2 j b h2 h3 hb ih2 => ?_) 20000 0 _ (by omega) (by omega) (fun p _ _ => ?_) (by omega)
  · unfold b_X5_findNeighbours_13
    dsimp only
    rw [z_11, z_s1]
    refine ok_if (fun c => ?_) (fun c => ?_)
    · have := t_le h2 (by omega) (by omega) (by omega) c
      rw [s_wr h0 (by omega) (by omega)]
      refine ih hi _ (fun q h4 h5 p h6 h7 => ?_)
      show bi ((upd (t 1) i.toNat b) q.toNat) p = true ↔ _
      unfold upd
      by_cases e : q = i
      · subst e
        rw [if_pos rfl, hb p h6 h7]
        exact ⟨fun z => z.2, fun z => ⟨by omega, z⟩⟩
      · rw [if_neg (by omega)]
        exact ht q h4 (by omega) p h6 h7
    · have hj := t_nle h2 (by omega) (by omega) (by omega) c
      rw [x_longBetween d h0 (by omega) h2 (by omega), s_cl]
      refine ok_ifE (iff_of_eq (road_le hd)) (fun z => ?_) (fun z => ok_bd (ih2 hj _ (fun p h6 h7 => ?_)))
      · refine ih2 hj _ (fun p h6 h7 => ?_)
        rw [hb p h6 h7]
        constructor
        · exact fun y => ⟨by omega, y.2⟩
        · intro y
          by_cases e : p = j
          · subst e; exact absurd y.2 z
          · exact ⟨by omega, y.2⟩
      · rw [bi_or, bi_one h6 (by omega) h2 (by omega), Bool.or_eq_true, hb p h6 h7, decide_eq_true_eq]
        have cr : 0 < d 0 (i * 11 + j) := by omega
        constructor
        · rintro (y | y)
          · exact ⟨by omega, y.2⟩
          · subst y; exact ⟨by omega, cr⟩
        · intro y
          by_cases e : p = j
          · exact Or.inr e
          · exact Or.inl ⟨by omega, y.2⟩
  · rw [← z_0, bi_z0]
    exact ⟨fun z => absurd z (by decide), fun z => by omega⟩
/-- a set of places, as bits -/
def hasb (b : Int32) (R : Int → Prop) : Prop := ∀ p, 0 ≤ p → p ≤ 10 → (bi b p = true ↔ R p)
theorem bi_1024 {p : Int} (h0 : 0 ≤ p) (h1 : p ≤ 10) : bi 1024 p = true ↔ p = 10 := by
  have e : (1024 : Int32) = (1 : Int32) <<< (zI 10 &&& 31) := by decide
  rw [e, bi_one h0 (by omega) (by omega) (by omega), decide_eq_true_eq]
theorem isB_if {c : Prop} [Decidable c] : q_isB (if c then (1 : Int32) else 0) = true := by split <;> decide
theorem one_if {c : Prop} [Decidable c] : ((if c then (1 : Int32) else 0) = 0) = (¬ c) := by
  by_cases h : c
  · rw [if_pos h]; exact propext ⟨fun z => absurd z (by decide), fun z => absurd h z⟩
  · rw [if_neg h]; exact propext ⟨fun _ => h, fun _ => rfl⟩
/-- whether a way leads there -/
theorem y_leadsTo (σ : qS) (hn : nbs d σ 11) {S : Int32} {h : Int} (hh0 : 0 ≤ h) (hh1 : h ≤ 9) : oK (fun r => (r = 0 ∧ ¬ rchd d S 11 h) ∨ (r = 1 ∧ rchd d S 11 h)) (f_X5_leadsTo σ (zI h) S) := by
  unfold f_X5_leadsTo
  rw [z_0]
  refine ok_forI (τ := Int32) 11 (fun i t => hasb t (rchd d S i.toNat)) (fun again i t h0 h1 ht ih => ?_) 20000 0 _ (by omega) (by omega) (fun p h4 h5 => bi_1024 h4 h5) (by omega)
  have hend : (rchd d S 11 h ↔ bi t h = true) → oK (fun r => (r = 0 ∧ ¬ rchd d S 11 h) ∨ (r = 1 ∧ rchd d S 11 h)) (q_cl (f_X6_isIn (zI h) t) fun r_2 => q_chk (q_isB r_2) <| some r_2) := fun hq => by
    rw [x_isInB t hh0 (by omega), s_cl, s_chk isB_if]
    refine ok_r ?_
    by_cases c : bi t h = true
    · exact Or.inr ⟨if_pos c, hq.mpr c⟩
    · exact Or.inl ⟨if_neg c, fun z => c (hq.mp z)⟩
  unfold b_X5_leadsTo_7
  dsimp only
  rw [z_11, z_s1, z_0]
  refine ok_if (fun c => ?_) (fun c => ?_)
  · have := t_le h0 (by omega) (by omega) (by omega) c
    obtain rfl : i = 11 := by omega
    exact hend (ht h hh0 (by omega)).symm
  have hi := t_nle h0 (by omega) (by omega) (by omega) c
  rw [x_isInB t hh0 (by omega), s_cl, ← z_0]
  refine ok_ifE (iff_of_eq one_if) (fun c2 => ?_) (fun c2 => ?_)
  · rw [z_0]
    refine ok_forI (τ := Int32) 11 (fun j b => hasb b (fun p => rchd d S i.toNat p ∨ ((∃ q, 0 ≤ q ∧ q < j ∧ rchd d S i.toNat q ∧ 0 < d 0 (q * 11 + p)) ∧ ¬ bi S p = true))) (fun again2 j b h2 h3 hb ih2 => ?_) 20000 0 _ (by omega) (by omega) (fun p h4 h5 => ?_) (by omega)
    · unfold b_X5_leadsTo_28
      dsimp only
      rw [z_11, z_s1]
      refine ok_if (fun c => ih hi _ (fun p h4 h5 => ?_)) (fun c => ?_)
      · have := t_le h2 (by omega) (by omega) (by omega) c
        obtain rfl : j = 11 := by omega
        rw [hb p h4 h5, show (i + 1).toNat = i.toNat + 1 by omega]
        show _ ↔ rchd d S i.toNat p ∨ ((∃ q, 0 ≤ q ∧ q ≤ 10 ∧ rchd d S i.toNat q ∧ 0 < d 0 (q * 11 + p)) ∧ ¬ bi S p = true)
        constructor
        · rintro (y | ⟨⟨q, q0, q1, q2, q3⟩, y⟩)
          · exact Or.inl y
          · exact Or.inr ⟨⟨q, q0, by omega, q2, q3⟩, y⟩
        · rintro (y | ⟨⟨q, q0, q1, q2, q3⟩, y⟩)
          · exact Or.inl y
          · exact Or.inr ⟨⟨q, q0, by omega, q2, q3⟩, y⟩
      · have hj := t_nle h2 (by omega) (by omega) (by omega) c
        rw [x_isInB t h2 (by omega), s_cl]
        refine ok_ifE (iff_of_eq one_if) (fun c3 => ih2 hj _ (fun p h4 h5 => ?_)) (fun c3 => ?_)
        · rw [hb p h4 h5]
          have c4 : ¬ rchd d S i.toNat j := fun z => c3 ((ht j h2 (by omega)).mpr z)
          constructor
          · rintro (y | ⟨⟨q, q0, q1, q2, q3⟩, y⟩)
            · exact Or.inl y
            · exact Or.inr ⟨⟨q, q0, by omega, q2, q3⟩, y⟩
          · rintro (y | ⟨⟨q, q0, q1, q2, q3⟩, y⟩)
            · exact Or.inl y
            · by_cases e : q = j
              · subst e; exact absurd q2 c4
              · exact Or.inr ⟨⟨q, q0, by omega, q2, q3⟩, y⟩
        · rw [s_rd h2 (by omega) (by omega), s_bd]
          have c4 : rchd d S i.toNat j := (ht j h2 (by omega)).mp (Classical.not_not.mp c3)
          refine ih2 hj _ (fun p h4 h5 => ?_)
          rw [bi_or, bi_and, bi_not S (show p < 32 by omega), Bool.or_eq_true, Bool.and_eq_true, hb p h4 h5, hn j h2 (by omega) p h4 h5]
          have en : ((!bi S p) = true) = (¬ bi S p = true) := by cases bi S p <;> decide
          rw [en]
          constructor
          · rintro ((y | ⟨⟨q, q0, q1, q2, q3⟩, y⟩) | y)
            · exact Or.inl y
            · exact Or.inr ⟨⟨q, q0, by omega, q2, q3⟩, y⟩
            · exact Or.inr ⟨⟨j, h2, by omega, c4, y.1⟩, y.2⟩
          · rintro (y | ⟨⟨q, q0, q1, q2, q3⟩, y⟩)
            · exact Or.inl (Or.inl y)
            · by_cases e : q = j
              · subst e; exact Or.inr ⟨q3, y⟩
              · exact Or.inl (Or.inr ⟨⟨q, q0, by omega, q2, q3⟩, y⟩)
    · rw [ht p h4 h5]
      constructor
      · exact fun y => Or.inl y
      · rintro (y | ⟨⟨q, q0, q1, _, _⟩, _⟩)
        · exact y
        · omega
  · have c3 : bi t h = true := Classical.not_not.mp c2
    have hz := hend ⟨fun _ => c3, fun _ => rchd_mono (by omega) ((ht h hh0 (by omega)).mp c3)⟩
    rw [x_isInB t hh0 (by omega)] at hz
    exact hz
/-- around, of the reference -/
theorem y_around (hd : okd d) (s : Int32) : oK (fun b => hasb b (fun p => bi s p = true ∨ ∃ q, 0 ≤ q ∧ q ≤ 10 ∧ bi s q = true ∧ 0 < d 0 (q * 11 + p))) (f_X7_around (eC (pw m d)) τ s) := by
  unfold f_X7_around
  rw [z_0]
  refine ok_forI (τ := Int32) 121 (fun i b => hasb b (fun p => bi s p = true ∨ ∃ e, 0 ≤ e ∧ e < i ∧ bi s (e / 11) = true ∧ 0 < d 0 e ∧ e % 11 = p)) (fun again i b h0 h1 hb ih => ?_) 20000 0 _ (by omega) (by omega) (fun p h4 h5 => ?_) (by omega)
  · unfold b_X7_around_4
    dsimp only
    rw [z_121, z_s1, z_11, z_div h0 (by omega) (by omega) (by omega), z_mul, z_sub, show i - i / 11 * 11 = i % 11 by omega, Int32.or_zero]
    have e0 : oK (fun b => hasb b (fun p => bi s p = true ∨ ∃ q, 0 ≤ q ∧ q ≤ 10 ∧ bi s q = true ∧ 0 < d 0 (q * 11 + p))) (some b) ∨ i < 121 := by
      by_cases c : i < 121
      · exact Or.inr c
      · refine Or.inl (ok_r (fun p h4 h5 => ?_))
        rw [hb p h4 h5]
        constructor
        · rintro (y | ⟨e, e0, e1, e2, e3, e4⟩)
          · exact Or.inl y
          · refine Or.inr ⟨e / 11, by omega, by omega, e2, ?_⟩
            rwa [show e / 11 * 11 + p = e by omega]
        · rintro (y | ⟨q, q0, q1, q2, q3⟩)
          · exact Or.inl y
          · exact Or.inr ⟨q * 11 + p, by omega, by omega, by rwa [show (q * 11 + p) / 11 = q by omega], q3, by omega⟩
    refine ok_if (fun c => e0.resolve_right (fun z => absurd c (c_nle z h0 (by omega)))) (fun c => ?_)
    have hi := t_nle h0 (by omega) (by omega) (by omega) c
    have same : (¬ (bi s (i / 11) = true ∧ 0 < d 0 i)) → hasb b (fun p => bi s p = true ∨ ∃ e, 0 ≤ e ∧ e < i + 1 ∧ bi s (e / 11) = true ∧ 0 < d 0 e ∧ e % 11 = p) := fun hno p h4 h5 => by
      rw [hb p h4 h5]
      constructor
      · rintro (y | ⟨e, e0, e1, e2, e3, e4⟩)
        · exact Or.inl y
        · exact Or.inr ⟨e, e0, by omega, e2, e3, e4⟩
      · rintro (y | ⟨e, e0, e1, e2, e3, e4⟩)
        · exact Or.inl y
        · by_cases ee : e = i
          · subst ee; exact absurd ⟨e2, e3⟩ hno
          · exact Or.inr ⟨e, e0, by omega, e2, e3, e4⟩
    refine ok_ifE (iff_of_eq (t_bit s (show 0 ≤ i / 11 by omega) (by omega))) (fun c1 => ?_) (fun c1 => ok_bd (ih hi _ (same (fun z => c1 z.1))))
    rw [s_rd h0 (by omega) (by omega), eC_at _ _ h0, pw_0]
    refine ok_ifE (iff_of_eq (road_le hd)) (fun c2 => ok_bd (ih hi _ (same (fun z => c2 z.2)))) (fun c2 => ok_bd (ih hi _ (fun p h4 h5 => ?_)))
    rw [bi_or, bi_one h4 (by omega) (show 0 ≤ i % 11 by omega) (by omega), Bool.or_eq_true, hb p h4 h5, decide_eq_true_eq]
    constructor
    · rintro ((y | ⟨e, e0, e1, e2, e3, e4⟩) | y)
      · exact Or.inl y
      · exact Or.inr ⟨e, e0, by omega, e2, e3, e4⟩
      · exact Or.inr ⟨i, h0, by omega, c1, by omega, y.symm⟩
    · rintro (y | ⟨e, e0, e1, e2, e3, e4⟩)
      · exact Or.inl (Or.inl y)
      · by_cases ee : e = i
        · subst ee; exact Or.inr e4.symm
        · exact Or.inl (Or.inr ⟨e, e0, by omega, e2, e3, e4⟩)
  · constructor
    · exact fun y => Or.inl y
    · rintro (y | ⟨e, e0, e1, _⟩)
      · exact y
      · omega
theorem y_isKept (hd : okd d) {S : Int32} (hS : ¬ bi S 10 = true) {h : Int} (hh0 : 0 ≤ h) (hh1 : h ≤ 9) : oK (fun r => (r = 1 ∧ ¬ rchd d S 11 h) ∨ (r = 0 ∧ rchd d S 11 h)) (f_X7_isKept (eC (pw m d)) τ (zI h) S) := by
  unfold f_X7_isKept
  rw [z_0]
  refine ok_forI (τ := Int32) 11 (fun i t => hasb t (rchd d S i.toNat)) (fun again i t h0 h1 ht ih => ?_) 20000 0 _ (by omega) (by omega) (fun p h4 h5 => bi_1024 h4 h5) (by omega)
  unfold b_X7_isKept_7
  dsimp only
  rw [z_11, z_s1]
  refine ok_if (fun c => ?_) (fun c => ?_)
  · have := t_le h0 (by omega) (by omega) (by omega) c
    obtain rfl : i = 11 := by omega
    rw [← z_0]
    simp (disch := omega) only [t_bit0]
    have hq := ht h hh0 (by omega)
    refine ok_if (fun c2 => ok_r (Or.inl ⟨rfl, fun z => c2 (hq.mpr z)⟩)) (fun c2 => ok_r (Or.inr ⟨rfl, hq.mp (Classical.not_not.mp c2)⟩))
  have hi := t_nle h0 (by omega) (by omega) (by omega) c
  refine ok_cl (y_around hd t) (fun b hb => ok_bd (ih hi _ (fun p h4 h5 => ?_)))
  have en : ((!bi S p) = true) = (¬ bi S p = true) := by cases bi S p <;> decide
  rw [bi_and, bi_not S (show p < 32 by omega), Bool.and_eq_true, en, hb p h4 h5, show (i + 1).toNat = i.toNat + 1 by omega]
  dsimp only
  rw [ht p h4 h5]
  show _ ↔ rchd d S i.toNat p ∨ ((∃ q, 0 ≤ q ∧ q ≤ 10 ∧ rchd d S i.toNat q ∧ 0 < d 0 (q * 11 + p)) ∧ ¬ bi S p = true)
  constructor
  · rintro ⟨y | ⟨q, q0, q1, q2, q3⟩, z⟩
    · exact Or.inl y
    · exact Or.inr ⟨⟨q, q0, q1, (ht q q0 q1).mp q2, q3⟩, z⟩
  · rintro (y | ⟨⟨q, q0, q1, q2, q3⟩, z⟩)
    · exact ⟨Or.inl y, rchd_not hS _ p y⟩
    · exact ⟨Or.inr ⟨q, q0, q1, (ht q q0 q1).mpr q2, q3⟩, z⟩
/-- both search the same -/
theorem k_search (hd : okd d) (σ : qS) (hn : nbs d σ 11) {h : Int} (hh0 : 0 ≤ h) (hh1 : h ≤ 9) (K : Int32 × Int32 → Option Int32) :
    ∀ (N : Nat) (i b : Int), 0 ≤ i → i ≤ 1024 → (1024 - i).toNat < N → (b = -6 ∨ (0 ≤ b ∧ b < 1024)) →
      ∃ b', (b' = -6 ∨ (0 ≤ b' ∧ b' < 1024)) ∧ q_lp (b_X5_fewestDamp_24 (zI h) σ) (fun z6 => some (z6.2, σ)) N (zI i, zI b) = some (zI b', σ) ∧ q_lp (b_X7_keep_28 (eC (pw m d)) τ (zI h)) K N (zI i, zI b) = K (zI 1024, zI b') := by
  intro N
  induction N with
  | zero => intro i b _ _ h; omega
  | succ N ih =>
    intro i b h0 h1 hN hb
    rw [lp_s, lp_s]
    generalize q_lp (b_X5_fewestDamp_24 (zI h) σ) (fun z6 => some (z6.2, σ)) N = again1 at ih
    generalize q_lp (b_X7_keep_28 (eC (pw m d)) τ (zI h)) K N = again2 at ih
    unfold b_X5_fewestDamp_24 b_X7_keep_28
    dsimp only
    rw [z_1024, z_s1]
    by_cases c : i < 1024
    · rw [if_neg (c_nle c h0 (by omega)), if_neg (c_nle c h0 (by omega))]
      have hS : ¬ bi (zI i) 10 = true := by rw [bi_hi h0 c (by omega)]; decide
      obtain ⟨r1, e1, q1⟩ := ok_get (y_leadsTo (S := zI i) σ hn hh0 hh1)
      obtain ⟨r2, e2, q2⟩ := ok_get (y_isKept (m := m) (τ := τ) (S := zI i) hd hS hh0 hh1)
      obtain ⟨o1, o2, o3, o4⟩ := onz_of h0 c
      rw [x_isInB (zI i) hh0 (by omega), s_cl, e1, s_cl, e2, s_cl, o1, s_cl, o2, s_cl]
      simp (disch := omega) only [one_if, t_bit0]
      have hsame := ih (i + 1) b (by omega) (by omega) (by omega) hb
      have hnew := ih (i + 1) i (by omega) (by omega) (by omega) (Or.inr ⟨h0, c⟩)
      have hchk : ∃ b', (b' = -6 ∨ (0 ≤ b' ∧ b' < 1024)) ∧ (if ¬ bi (zI i) h = true then (if r1 = 0 then again1 (zI (i + 1), zI i) else again1 (zI (i + 1), zI b)) else again1 (zI (i + 1), zI b)) = some (zI b', σ) ∧
          (if ¬ bi (zI i) h = true then (if r2 = 0 then again2 (zI (i + 1), zI b) else again2 (zI (i + 1), zI i)) else again2 (zI (i + 1), zI b)) = K (zI 1024, zI b') := by
        by_cases cb : ¬ bi (zI i) h = true
        · rw [if_pos cb, if_pos cb]
          rcases q1 with ⟨rfl, p1⟩ | ⟨rfl, p1⟩
          · rcases q2 with ⟨rfl, p2⟩ | ⟨rfl, p2⟩
            · rw [if_pos rfl, if_neg (by decide)]; exact hnew
            · exact absurd p2 p1
          · rcases q2 with ⟨rfl, p2⟩ | ⟨rfl, p2⟩
            · exact absurd p1 p2
            · rw [if_neg (by decide), if_pos rfl]; exact hsame
        · rw [if_neg cb, if_neg cb]; exact hsame
      rcases hb with rfl | ⟨b0, b1⟩
      · rw [if_pos (show zI (-6) = (-6 : Int32) by decide), if_pos (show zI (-6) < (0 : Int32) by decide)]
        exact hchk
      · rw [if_neg (show ¬ zI b = (-6 : Int32) by rw [show (-6 : Int32) = zI (-6) by decide, z_eq (by omega) (by omega) (by omega) (by omega)]; omega), if_neg (show ¬ zI b < (0 : Int32) by rw [z_0, z_lt (by omega) (by omega) (by omega) (by omega)]; omega)]
        obtain ⟨u1, u2, u3, u4⟩ := onz_of b0 b1
        rw [u1, s_cl, u2, s_cl]
        by_cases cf : onz (zI b) ≤ onz (zI i)
        · rw [if_pos cf]
          by_cases cb : ¬ bi (zI i) h = true
          · rw [if_pos cb]; rw [if_pos cf]; exact hsame
          · rw [if_neg cb]; exact hsame
        · rw [if_neg cf]
          rw [if_neg cf]
          exact hchk
    · obtain rfl : i = 1024 := by omega
      rw [if_pos (c_le (by omega) (by omega) (by omega)), if_pos (c_le (by omega) (by omega) (by omega))]
      exact ⟨b, hb, rfl, rfl⟩
/-- where a road leads there nothing keeps it -/
theorem k_none (hd : okd d) {h : Int} (hh0 : 0 ≤ h) (hh1 : h ≤ 9) (hr : 0 < d 0 (110 + h)) (K : Int32 × Int32 → Option Int32) :
    ∀ (N : Nat) (i : Int), 0 ≤ i → i ≤ 1024 → (1024 - i).toNat < N → q_lp (b_X7_keep_28 (eC (pw m d)) τ (zI h)) K N (zI i, zI (-6)) = K (zI 1024, zI (-6)) := by
  intro N
  induction N with
  | zero => intro i _ _ h; omega
  | succ N ih =>
    intro i h0 h1 hN
    rw [lp_s]
    generalize q_lp (b_X7_keep_28 (eC (pw m d)) τ (zI h)) K N = again at ih
    unfold b_X7_keep_28
    dsimp only
    rw [z_1024, z_s1]
    by_cases c : i < 1024
    · rw [if_neg (c_nle c h0 (by omega))]
      have hS : ¬ bi (zI i) 10 = true := by rw [bi_hi h0 c (by omega)]; decide
      obtain ⟨r2, e2, q2⟩ := ok_get (y_isKept (m := m) (τ := τ) (S := zI i) hd hS hh0 hh1)
      rw [e2, s_cl, if_pos (show zI (-6) < (0 : Int32) by decide)]
      simp (disch := omega) only [t_bit0]
      have hsame := ih (i + 1) (by omega) (by omega) (by omega)
      by_cases cb : ¬ bi (zI i) h = true
      · rw [if_pos cb]
        have hre : rchd d (zI i) 11 h := rchd_mono (n := 1) (by decide) (Or.inr ⟨⟨10, by omega, by omega, rfl, by rw [show (10 : Int) * 11 + h = 110 + h by omega]; exact hr⟩, cb⟩)
        rcases q2 with ⟨rfl, p2⟩ | ⟨rfl, p2⟩
        · exact absurd hre p2
        · rw [if_pos rfl]; exact hsame
      · rw [if_neg cb]; exact hsame
    · obtain rfl : i = 1024 := by omega
      rw [if_pos (c_le (by omega) (by omega) (by omega))]
theorem c_keep (hd : okd d) (σ : qS) (a w : Int32) : ∃ r s, f_X6_keep σ (eC d) a w = some (r, s) ∧ f_X7_keep (eC (pw m d)) τ a w = some r := by
  obtain ⟨a, a0, a1, rfl⟩ := z_of a
  obtain ⟨w, w0, w1, rfl⟩ := z_of w
  unfold f_X6_keep f_X7_keep
  rw [x_isHouse a0 a1, m_isHouse a0 a1, z_0, z_1, x_within w0 w1 (by omega) (by omega) (by omega) (by omega), z_l w0 w1, zl_0, zl_1, m_in (by omega) (by omega) (by omega) (by omega) (by omega) (by omega), s_cl, s_cl, s_cl, s_cl]
  by_cases ca : 0 ≤ a ∧ a ≤ 9
  · rw [if_pos ca, if_neg n10, if_neg n10]
    by_cases cw : 0 ≤ w ∧ w ≤ 1
    · rw [if_pos cw, if_neg n10, if_neg n10]
      unfold f_X5_fewestDamp
      rw [z_10, x_longBetween d (by omega) (by omega) ca.1 (by omega), s_cl, show (10 : Int) * 11 + a = 110 + a by omega, show (-6 : Int32) = zI (-6) by decide, show (0 : Int32) = zI 0 from z_0]
      have hrl : (zI (d 0 (110 + a)) ≤ zI 0) = (¬ 0 < d 0 (110 + a)) := by rw [← z_0]; exact road_le hd
      simp only [hrl]
      have hfin : ∀ (b : Int) (s : qS), (b = -6 ∨ (0 ≤ b ∧ b < 1024)) → ∃ r, (if zI w = zI 1 then some (zI b, s) else if zI b = zI (-6) then some (zI b, s) else q_cl (f_J6_bitCount_0f7a4 (zI b)) fun r_13 => some (r_13, s)) = some (r, s) ∧ (if zI b < zI 0 then some (zI b) else if zI w = zI 1 then some (zI b) else q_cl (f_X7_ones (zI b)) fun r_10 => some r_10) = some r := by
        intro b s hb
        rcases hb with rfl | ⟨b0, b1⟩
        · rw [if_pos (show zI (-6) < zI 0 by decide)]
          by_cases c1 : zI w = zI 1
          · rw [if_pos c1]; exact ⟨_, rfl, rfl⟩
          · rw [if_neg c1, if_pos rfl]; exact ⟨_, rfl, rfl⟩
        · rw [if_neg (show ¬ zI b < zI 0 by rw [z_lt (by omega) (by omega) (by omega) (by omega)]; omega)]
          by_cases c1 : zI w = zI 1
          · rw [if_pos c1, if_pos c1]; exact ⟨_, rfl, rfl⟩
          · rw [if_neg c1, if_neg c1, if_neg (show ¬ zI b = zI (-6) by rw [z_eq (by omega) (by omega) (by omega) (by omega)]; omega), (onz_of b0 b1).1, (onz_of b0 b1).2.1, s_cl, s_cl]
            exact ⟨_, rfl, rfl⟩
      by_cases cr : 0 < d 0 (110 + a)
      · rw [if_neg (fun z => z cr), s_cl, k_none hd ca.1 ca.2 cr _ 20000 0 (by omega) (by omega) (by omega)]
        obtain ⟨r, f1, f2⟩ := hfin (-6) σ (Or.inl rfl)
        exact ⟨r, σ, f1, f2⟩
      · rw [if_pos cr]
        obtain ⟨s, e1, hn⟩ := ok_get (y_findNeighbours hd σ)
        rw [e1, s_cl]
        obtain ⟨b', hb', l1, l2⟩ := k_search (m := m) (τ := τ) hd s hn ca.1 ca.2 (fun z7 => if z7.2 < zI 0 then some z7.2 else if zI w = zI 1 then some z7.2 else q_cl (f_X7_ones z7.2) fun r_10 => some r_10) 20000 0 (-6) (by omega) (by omega) (by omega) (Or.inl rfl)
        rw [l1, s_cl, l2]
        obtain ⟨r, f1, f2⟩ := hfin b' s hb'
        exact ⟨r, s, f1, f2⟩
    · rw [if_neg cw, if_pos rfl, if_pos rfl]
      exact ⟨_, σ, rfl, rfl⟩
  · rw [if_neg ca, if_pos rfl, if_pos rfl]
    exact ⟨_, σ, rfl, rfl⟩
end KEEP
end
section
/-! what is told, how tales fade: exactly -/
section TOLD
variable {d e m : Nat → Int → Int} {τ : qL}
theorem c_told (hd : okd d) (hp : mpad m e) (a : Int32) : ∃ r, f_X6_told (eC e) (eC d) a = some r ∧ f_X7_told (eC (pw m d)) τ a = some r := by
  obtain ⟨a, a0, a1, rfl⟩ := z_of a
  have es : f_X3_size (eC e) = some (zI (e 99 1)) := rfl
  have ec : f_X1_sightCount (eC d) = some (zI (d 99 7)) := rfl
  unfold f_X6_told f_X7_told
  by_cases c0 : 0 ≤ a ∧ a ≤ 5
  · rcases (show a = 0 ∨ a = 1 ∨ a = 2 ∨ a = 3 ∨ a = 4 ∨ a = 5 by omega) with z | z | z | z | z | z <;> subst z
    · refine ⟨zI (e 99 1), ?_, ?_⟩
      · simp (disch := omega) only [es, s_T, s_F, s_bd, s_cl, s_rd, s_wr, s_ite, z_ite, z_neg, z_add, z_sub, z_mul, z_le, z_lt, z_eq, eC_at, eC_7, eC_8, eC_9, eC_10, eC_11, eC_p7, eC_p8, eC_p9, eC_p10, eC_p11, eC_up, ud_same, ud_ne, if_pos, if_neg, z_0, z_1, z_2, z_3, z_4, z_5, z_6, z_7, z_8, z_9, z_10, z_11, z_12, z_13, z_14, z_15, z_16, z_17, z_18, z_19, z_20, z_21, z_22, z_23, z_24, z_25, z_26, z_27, z_28, z_29, z_30, z_31, z_32, z_33, z_34, z_35, z_36, z_37, z_38, z_39, z_40, z_41, z_42, z_43, z_44, z_45, z_46, z_47, z_48, z_49, z_50, z_51, z_52, z_53, z_54, z_55, z_56, z_57, z_58, z_59, z_60, z_61, z_62, z_63, z_64, z_65, z_66, z_67, z_68, z_69, z_70, z_71, z_72, z_73, z_74, z_75, z_76, z_77, z_78, z_79, z_80, z_81, z_82, z_83, z_84, z_85, z_86, z_87, z_88, z_89, z_90, z_91, z_92, z_93, z_94, z_95, z_96, z_97, z_98, z_99, z_100, z_101, z_102, z_103, z_104, z_105, z_106, z_107, z_108, z_109, z_110, z_111, z_112, z_113, z_114, z_115, z_116, z_117, z_118, z_119, z_120, z_121, z_122, z_123, z_124, z_125, z_126, z_127, z_199, z_200, z_360, z_410, z_1000, z_1023, z_1024, z_1219, z_9999, z_10240, z_65537]
      · simp (disch := omega) only [m_isPlace, m_isHouse, m_isTale, m_in, z_l, zl_neg, zl_0, zl_1, zl_2, zl_3, zl_5, zl_8, zl_9, zl_10, zl_19, zl_33, zl_40, zl_49, zl_57, zl_60, zl_65, zl_74, zl_99, zl_100, zl_126, zl_199, zl_1000, zl_1219, zl_9999, hp.2, pw_0, up_0, pw_1, up_1, pw_2, up_2, pw_3, up_3, pw_4, up_4, pw_9, up_9, pw_10, up_10, pwi_5, upi_5, pwi_6, upi_6, pwi_7, upi_7, pwi_8, upi_8, pwi_11, upi_11, pw_12, up_12, pw_14, up_14, pw_15, up_15, pw_16, up_16, pw_18, up_18, pw_24, up_24, pw_25, up_25, pw_26, up_26, pw_29, up_29, pw_30, up_30, pw_31, up_31, pwi_13, upi_13, pwi_17, upi_17, pwi_19, upi_19, pwi_20, upi_20, pwi_21, upi_21, pwi_22, upi_22, pwi_23, upi_23, pwi_32, upi_32, pwi_33, upi_33, eC_5, eC_6, eC_13, eC_17, eC_19, eC_20, eC_21, eC_22, eC_23, eC_32, eC_33, eC_p5, eC_p6, eC_p13, eC_p17, eC_p19, eC_p20, eC_p21, eC_p22, eC_p23, eC_p32, eC_p33, s_T, s_F, s_bd, s_cl, s_rd, s_wr, s_ite, z_ite, z_neg, z_add, z_sub, z_mul, z_le, z_lt, z_eq, eC_at, eC_7, eC_8, eC_9, eC_10, eC_11, eC_p7, eC_p8, eC_p9, eC_p10, eC_p11, eC_up, ud_same, ud_ne, if_pos, if_neg, z_0, z_1, z_2, z_3, z_4, z_5, z_6, z_7, z_8, z_9, z_10, z_11, z_12, z_13, z_14, z_15, z_16, z_17, z_18, z_19, z_20, z_21, z_22, z_23, z_24, z_25, z_26, z_27, z_28, z_29, z_30, z_31, z_32, z_33, z_34, z_35, z_36, z_37, z_38, z_39, z_40, z_41, z_42, z_43, z_44, z_45, z_46, z_47, z_48, z_49, z_50, z_51, z_52, z_53, z_54, z_55, z_56, z_57, z_58, z_59, z_60, z_61, z_62, z_63, z_64, z_65, z_66, z_67, z_68, z_69, z_70, z_71, z_72, z_73, z_74, z_75, z_76, z_77, z_78, z_79, z_80, z_81, z_82, z_83, z_84, z_85, z_86, z_87, z_88, z_89, z_90, z_91, z_92, z_93, z_94, z_95, z_96, z_97, z_98, z_99, z_100, z_101, z_102, z_103, z_104, z_105, z_106, z_107, z_108, z_109, z_110, z_111, z_112, z_113, z_114, z_115, z_116, z_117, z_118, z_119, z_120, z_121, z_122, z_123, z_124, z_125, z_126, z_127, z_199, z_200, z_360, z_410, z_1000, z_1023, z_1024, z_1219, z_9999, z_10240, z_65537]
    · refine ⟨zI (pFact d (1 - 1)), ?_, ?_⟩
      · simp (disch := omega) only [x_isPlace, x_isHouse, x_isTale, x_within, x_longBetween, x_layRoad, x_doubtOf, x_furnish, x_beliefOf, x_convince, x_fadesInto, x_letFade, x_panFact, s_T, s_F, s_bd, s_cl, s_rd, s_wr, s_ite, z_ite, z_neg, z_add, z_sub, z_mul, z_le, z_lt, z_eq, eC_at, eC_7, eC_8, eC_9, eC_10, eC_11, eC_p7, eC_p8, eC_p9, eC_p10, eC_p11, eC_up, ud_same, ud_ne, if_pos, if_neg, z_0, z_1, z_2, z_3, z_4, z_5, z_6, z_7, z_8, z_9, z_10, z_11, z_12, z_13, z_14, z_15, z_16, z_17, z_18, z_19, z_20, z_21, z_22, z_23, z_24, z_25, z_26, z_27, z_28, z_29, z_30, z_31, z_32, z_33, z_34, z_35, z_36, z_37, z_38, z_39, z_40, z_41, z_42, z_43, z_44, z_45, z_46, z_47, z_48, z_49, z_50, z_51, z_52, z_53, z_54, z_55, z_56, z_57, z_58, z_59, z_60, z_61, z_62, z_63, z_64, z_65, z_66, z_67, z_68, z_69, z_70, z_71, z_72, z_73, z_74, z_75, z_76, z_77, z_78, z_79, z_80, z_81, z_82, z_83, z_84, z_85, z_86, z_87, z_88, z_89, z_90, z_91, z_92, z_93, z_94, z_95, z_96, z_97, z_98, z_99, z_100, z_101, z_102, z_103, z_104, z_105, z_106, z_107, z_108, z_109, z_110, z_111, z_112, z_113, z_114, z_115, z_116, z_117, z_118, z_119, z_120, z_121, z_122, z_123, z_124, z_125, z_126, z_127, z_199, z_200, z_360, z_410, z_1000, z_1023, z_1024, z_1219, z_9999, z_10240, z_65537]
      · simp (disch := omega) only [m_isPlace, m_isHouse, m_isTale, m_in, z_l, zl_neg, zl_0, zl_1, zl_2, zl_3, zl_5, zl_8, zl_9, zl_10, zl_19, zl_33, zl_40, zl_49, zl_57, zl_60, zl_65, zl_74, zl_99, zl_100, zl_126, zl_199, zl_1000, zl_1219, zl_9999, pw_0, up_0, pw_1, up_1, pw_2, up_2, pw_3, up_3, pw_4, up_4, pw_9, up_9, pw_10, up_10, pwi_5, upi_5, pwi_6, upi_6, pwi_7, upi_7, pwi_8, upi_8, pwi_11, upi_11, pw_12, up_12, pw_14, up_14, pw_15, up_15, pw_16, up_16, pw_18, up_18, pw_24, up_24, pw_25, up_25, pw_26, up_26, pw_29, up_29, pw_30, up_30, pw_31, up_31, pwi_13, upi_13, pwi_17, upi_17, pwi_19, upi_19, pwi_20, upi_20, pwi_21, upi_21, pwi_22, upi_22, pwi_23, upi_23, pwi_32, upi_32, pwi_33, upi_33, eC_5, eC_6, eC_13, eC_17, eC_19, eC_20, eC_21, eC_22, eC_23, eC_32, eC_33, eC_p5, eC_p6, eC_p13, eC_p17, eC_p19, eC_p20, eC_p21, eC_p22, eC_p23, eC_p32, eC_p33, s_T, s_F, s_bd, s_cl, s_rd, s_wr, s_ite, z_ite, z_neg, z_add, z_sub, z_mul, z_le, z_lt, z_eq, eC_at, eC_7, eC_8, eC_9, eC_10, eC_11, eC_p7, eC_p8, eC_p9, eC_p10, eC_p11, eC_up, ud_same, ud_ne, if_pos, if_neg, z_0, z_1, z_2, z_3, z_4, z_5, z_6, z_7, z_8, z_9, z_10, z_11, z_12, z_13, z_14, z_15, z_16, z_17, z_18, z_19, z_20, z_21, z_22, z_23, z_24, z_25, z_26, z_27, z_28, z_29, z_30, z_31, z_32, z_33, z_34, z_35, z_36, z_37, z_38, z_39, z_40, z_41, z_42, z_43, z_44, z_45, z_46, z_47, z_48, z_49, z_50, z_51, z_52, z_53, z_54, z_55, z_56, z_57, z_58, z_59, z_60, z_61, z_62, z_63, z_64, z_65, z_66, z_67, z_68, z_69, z_70, z_71, z_72, z_73, z_74, z_75, z_76, z_77, z_78, z_79, z_80, z_81, z_82, z_83, z_84, z_85, z_86, z_87, z_88, z_89, z_90, z_91, z_92, z_93, z_94, z_95, z_96, z_97, z_98, z_99, z_100, z_101, z_102, z_103, z_104, z_105, z_106, z_107, z_108, z_109, z_110, z_111, z_112, z_113, z_114, z_115, z_116, z_117, z_118, z_119, z_120, z_121, z_122, z_123, z_124, z_125, z_126, z_127, z_199, z_200, z_360, z_410, z_1000, z_1023, z_1024, z_1219, z_9999, z_10240, z_65537]
        rfl
    · refine ⟨zI (pFact d (2 - 1)), ?_, ?_⟩
      · simp (disch := omega) only [x_isPlace, x_isHouse, x_isTale, x_within, x_longBetween, x_layRoad, x_doubtOf, x_furnish, x_beliefOf, x_convince, x_fadesInto, x_letFade, x_panFact, s_T, s_F, s_bd, s_cl, s_rd, s_wr, s_ite, z_ite, z_neg, z_add, z_sub, z_mul, z_le, z_lt, z_eq, eC_at, eC_7, eC_8, eC_9, eC_10, eC_11, eC_p7, eC_p8, eC_p9, eC_p10, eC_p11, eC_up, ud_same, ud_ne, if_pos, if_neg, z_0, z_1, z_2, z_3, z_4, z_5, z_6, z_7, z_8, z_9, z_10, z_11, z_12, z_13, z_14, z_15, z_16, z_17, z_18, z_19, z_20, z_21, z_22, z_23, z_24, z_25, z_26, z_27, z_28, z_29, z_30, z_31, z_32, z_33, z_34, z_35, z_36, z_37, z_38, z_39, z_40, z_41, z_42, z_43, z_44, z_45, z_46, z_47, z_48, z_49, z_50, z_51, z_52, z_53, z_54, z_55, z_56, z_57, z_58, z_59, z_60, z_61, z_62, z_63, z_64, z_65, z_66, z_67, z_68, z_69, z_70, z_71, z_72, z_73, z_74, z_75, z_76, z_77, z_78, z_79, z_80, z_81, z_82, z_83, z_84, z_85, z_86, z_87, z_88, z_89, z_90, z_91, z_92, z_93, z_94, z_95, z_96, z_97, z_98, z_99, z_100, z_101, z_102, z_103, z_104, z_105, z_106, z_107, z_108, z_109, z_110, z_111, z_112, z_113, z_114, z_115, z_116, z_117, z_118, z_119, z_120, z_121, z_122, z_123, z_124, z_125, z_126, z_127, z_199, z_200, z_360, z_410, z_1000, z_1023, z_1024, z_1219, z_9999, z_10240, z_65537]
      · simp (disch := omega) only [m_isPlace, m_isHouse, m_isTale, m_in, z_l, zl_neg, zl_0, zl_1, zl_2, zl_3, zl_5, zl_8, zl_9, zl_10, zl_19, zl_33, zl_40, zl_49, zl_57, zl_60, zl_65, zl_74, zl_99, zl_100, zl_126, zl_199, zl_1000, zl_1219, zl_9999, pw_0, up_0, pw_1, up_1, pw_2, up_2, pw_3, up_3, pw_4, up_4, pw_9, up_9, pw_10, up_10, pwi_5, upi_5, pwi_6, upi_6, pwi_7, upi_7, pwi_8, upi_8, pwi_11, upi_11, pw_12, up_12, pw_14, up_14, pw_15, up_15, pw_16, up_16, pw_18, up_18, pw_24, up_24, pw_25, up_25, pw_26, up_26, pw_29, up_29, pw_30, up_30, pw_31, up_31, pwi_13, upi_13, pwi_17, upi_17, pwi_19, upi_19, pwi_20, upi_20, pwi_21, upi_21, pwi_22, upi_22, pwi_23, upi_23, pwi_32, upi_32, pwi_33, upi_33, eC_5, eC_6, eC_13, eC_17, eC_19, eC_20, eC_21, eC_22, eC_23, eC_32, eC_33, eC_p5, eC_p6, eC_p13, eC_p17, eC_p19, eC_p20, eC_p21, eC_p22, eC_p23, eC_p32, eC_p33, s_T, s_F, s_bd, s_cl, s_rd, s_wr, s_ite, z_ite, z_neg, z_add, z_sub, z_mul, z_le, z_lt, z_eq, eC_at, eC_7, eC_8, eC_9, eC_10, eC_11, eC_p7, eC_p8, eC_p9, eC_p10, eC_p11, eC_up, ud_same, ud_ne, if_pos, if_neg, z_0, z_1, z_2, z_3, z_4, z_5, z_6, z_7, z_8, z_9, z_10, z_11, z_12, z_13, z_14, z_15, z_16, z_17, z_18, z_19, z_20, z_21, z_22, z_23, z_24, z_25, z_26, z_27, z_28, z_29, z_30, z_31, z_32, z_33, z_34, z_35, z_36, z_37, z_38, z_39, z_40, z_41, z_42, z_43, z_44, z_45, z_46, z_47, z_48, z_49, z_50, z_51, z_52, z_53, z_54, z_55, z_56, z_57, z_58, z_59, z_60, z_61, z_62, z_63, z_64, z_65, z_66, z_67, z_68, z_69, z_70, z_71, z_72, z_73, z_74, z_75, z_76, z_77, z_78, z_79, z_80, z_81, z_82, z_83, z_84, z_85, z_86, z_87, z_88, z_89, z_90, z_91, z_92, z_93, z_94, z_95, z_96, z_97, z_98, z_99, z_100, z_101, z_102, z_103, z_104, z_105, z_106, z_107, z_108, z_109, z_110, z_111, z_112, z_113, z_114, z_115, z_116, z_117, z_118, z_119, z_120, z_121, z_122, z_123, z_124, z_125, z_126, z_127, z_199, z_200, z_360, z_410, z_1000, z_1023, z_1024, z_1219, z_9999, z_10240, z_65537]
        rfl
    · refine ⟨zI (pFact d (3 - 1)), ?_, ?_⟩
      · simp (disch := omega) only [x_isPlace, x_isHouse, x_isTale, x_within, x_longBetween, x_layRoad, x_doubtOf, x_furnish, x_beliefOf, x_convince, x_fadesInto, x_letFade, x_panFact, s_T, s_F, s_bd, s_cl, s_rd, s_wr, s_ite, z_ite, z_neg, z_add, z_sub, z_mul, z_le, z_lt, z_eq, eC_at, eC_7, eC_8, eC_9, eC_10, eC_11, eC_p7, eC_p8, eC_p9, eC_p10, eC_p11, eC_up, ud_same, ud_ne, if_pos, if_neg, z_0, z_1, z_2, z_3, z_4, z_5, z_6, z_7, z_8, z_9, z_10, z_11, z_12, z_13, z_14, z_15, z_16, z_17, z_18, z_19, z_20, z_21, z_22, z_23, z_24, z_25, z_26, z_27, z_28, z_29, z_30, z_31, z_32, z_33, z_34, z_35, z_36, z_37, z_38, z_39, z_40, z_41, z_42, z_43, z_44, z_45, z_46, z_47, z_48, z_49, z_50, z_51, z_52, z_53, z_54, z_55, z_56, z_57, z_58, z_59, z_60, z_61, z_62, z_63, z_64, z_65, z_66, z_67, z_68, z_69, z_70, z_71, z_72, z_73, z_74, z_75, z_76, z_77, z_78, z_79, z_80, z_81, z_82, z_83, z_84, z_85, z_86, z_87, z_88, z_89, z_90, z_91, z_92, z_93, z_94, z_95, z_96, z_97, z_98, z_99, z_100, z_101, z_102, z_103, z_104, z_105, z_106, z_107, z_108, z_109, z_110, z_111, z_112, z_113, z_114, z_115, z_116, z_117, z_118, z_119, z_120, z_121, z_122, z_123, z_124, z_125, z_126, z_127, z_199, z_200, z_360, z_410, z_1000, z_1023, z_1024, z_1219, z_9999, z_10240, z_65537]
      · simp (disch := omega) only [m_isPlace, m_isHouse, m_isTale, m_in, z_l, zl_neg, zl_0, zl_1, zl_2, zl_3, zl_5, zl_8, zl_9, zl_10, zl_19, zl_33, zl_40, zl_49, zl_57, zl_60, zl_65, zl_74, zl_99, zl_100, zl_126, zl_199, zl_1000, zl_1219, zl_9999, pw_0, up_0, pw_1, up_1, pw_2, up_2, pw_3, up_3, pw_4, up_4, pw_9, up_9, pw_10, up_10, pwi_5, upi_5, pwi_6, upi_6, pwi_7, upi_7, pwi_8, upi_8, pwi_11, upi_11, pw_12, up_12, pw_14, up_14, pw_15, up_15, pw_16, up_16, pw_18, up_18, pw_24, up_24, pw_25, up_25, pw_26, up_26, pw_29, up_29, pw_30, up_30, pw_31, up_31, pwi_13, upi_13, pwi_17, upi_17, pwi_19, upi_19, pwi_20, upi_20, pwi_21, upi_21, pwi_22, upi_22, pwi_23, upi_23, pwi_32, upi_32, pwi_33, upi_33, eC_5, eC_6, eC_13, eC_17, eC_19, eC_20, eC_21, eC_22, eC_23, eC_32, eC_33, eC_p5, eC_p6, eC_p13, eC_p17, eC_p19, eC_p20, eC_p21, eC_p22, eC_p23, eC_p32, eC_p33, s_T, s_F, s_bd, s_cl, s_rd, s_wr, s_ite, z_ite, z_neg, z_add, z_sub, z_mul, z_le, z_lt, z_eq, eC_at, eC_7, eC_8, eC_9, eC_10, eC_11, eC_p7, eC_p8, eC_p9, eC_p10, eC_p11, eC_up, ud_same, ud_ne, if_pos, if_neg, z_0, z_1, z_2, z_3, z_4, z_5, z_6, z_7, z_8, z_9, z_10, z_11, z_12, z_13, z_14, z_15, z_16, z_17, z_18, z_19, z_20, z_21, z_22, z_23, z_24, z_25, z_26, z_27, z_28, z_29, z_30, z_31, z_32, z_33, z_34, z_35, z_36, z_37, z_38, z_39, z_40, z_41, z_42, z_43, z_44, z_45, z_46, z_47, z_48, z_49, z_50, z_51, z_52, z_53, z_54, z_55, z_56, z_57, z_58, z_59, z_60, z_61, z_62, z_63, z_64, z_65, z_66, z_67, z_68, z_69, z_70, z_71, z_72, z_73, z_74, z_75, z_76, z_77, z_78, z_79, z_80, z_81, z_82, z_83, z_84, z_85, z_86, z_87, z_88, z_89, z_90, z_91, z_92, z_93, z_94, z_95, z_96, z_97, z_98, z_99, z_100, z_101, z_102, z_103, z_104, z_105, z_106, z_107, z_108, z_109, z_110, z_111, z_112, z_113, z_114, z_115, z_116, z_117, z_118, z_119, z_120, z_121, z_122, z_123, z_124, z_125, z_126, z_127, z_199, z_200, z_360, z_410, z_1000, z_1023, z_1024, z_1219, z_9999, z_10240, z_65537]
        rfl
    · refine ⟨zI (pFact d (4 - 1)), ?_, ?_⟩
      · simp (disch := omega) only [x_isPlace, x_isHouse, x_isTale, x_within, x_longBetween, x_layRoad, x_doubtOf, x_furnish, x_beliefOf, x_convince, x_fadesInto, x_letFade, x_panFact, s_T, s_F, s_bd, s_cl, s_rd, s_wr, s_ite, z_ite, z_neg, z_add, z_sub, z_mul, z_le, z_lt, z_eq, eC_at, eC_7, eC_8, eC_9, eC_10, eC_11, eC_p7, eC_p8, eC_p9, eC_p10, eC_p11, eC_up, ud_same, ud_ne, if_pos, if_neg, z_0, z_1, z_2, z_3, z_4, z_5, z_6, z_7, z_8, z_9, z_10, z_11, z_12, z_13, z_14, z_15, z_16, z_17, z_18, z_19, z_20, z_21, z_22, z_23, z_24, z_25, z_26, z_27, z_28, z_29, z_30, z_31, z_32, z_33, z_34, z_35, z_36, z_37, z_38, z_39, z_40, z_41, z_42, z_43, z_44, z_45, z_46, z_47, z_48, z_49, z_50, z_51, z_52, z_53, z_54, z_55, z_56, z_57, z_58, z_59, z_60, z_61, z_62, z_63, z_64, z_65, z_66, z_67, z_68, z_69, z_70, z_71, z_72, z_73, z_74, z_75, z_76, z_77, z_78, z_79, z_80, z_81, z_82, z_83, z_84, z_85, z_86, z_87, z_88, z_89, z_90, z_91, z_92, z_93, z_94, z_95, z_96, z_97, z_98, z_99, z_100, z_101, z_102, z_103, z_104, z_105, z_106, z_107, z_108, z_109, z_110, z_111, z_112, z_113, z_114, z_115, z_116, z_117, z_118, z_119, z_120, z_121, z_122, z_123, z_124, z_125, z_126, z_127, z_199, z_200, z_360, z_410, z_1000, z_1023, z_1024, z_1219, z_9999, z_10240, z_65537]
      · simp (disch := omega) only [m_isPlace, m_isHouse, m_isTale, m_in, z_l, zl_neg, zl_0, zl_1, zl_2, zl_3, zl_5, zl_8, zl_9, zl_10, zl_19, zl_33, zl_40, zl_49, zl_57, zl_60, zl_65, zl_74, zl_99, zl_100, zl_126, zl_199, zl_1000, zl_1219, zl_9999, pw_0, up_0, pw_1, up_1, pw_2, up_2, pw_3, up_3, pw_4, up_4, pw_9, up_9, pw_10, up_10, pwi_5, upi_5, pwi_6, upi_6, pwi_7, upi_7, pwi_8, upi_8, pwi_11, upi_11, pw_12, up_12, pw_14, up_14, pw_15, up_15, pw_16, up_16, pw_18, up_18, pw_24, up_24, pw_25, up_25, pw_26, up_26, pw_29, up_29, pw_30, up_30, pw_31, up_31, pwi_13, upi_13, pwi_17, upi_17, pwi_19, upi_19, pwi_20, upi_20, pwi_21, upi_21, pwi_22, upi_22, pwi_23, upi_23, pwi_32, upi_32, pwi_33, upi_33, eC_5, eC_6, eC_13, eC_17, eC_19, eC_20, eC_21, eC_22, eC_23, eC_32, eC_33, eC_p5, eC_p6, eC_p13, eC_p17, eC_p19, eC_p20, eC_p21, eC_p22, eC_p23, eC_p32, eC_p33, s_T, s_F, s_bd, s_cl, s_rd, s_wr, s_ite, z_ite, z_neg, z_add, z_sub, z_mul, z_le, z_lt, z_eq, eC_at, eC_7, eC_8, eC_9, eC_10, eC_11, eC_p7, eC_p8, eC_p9, eC_p10, eC_p11, eC_up, ud_same, ud_ne, if_pos, if_neg, z_0, z_1, z_2, z_3, z_4, z_5, z_6, z_7, z_8, z_9, z_10, z_11, z_12, z_13, z_14, z_15, z_16, z_17, z_18, z_19, z_20, z_21, z_22, z_23, z_24, z_25, z_26, z_27, z_28, z_29, z_30, z_31, z_32, z_33, z_34, z_35, z_36, z_37, z_38, z_39, z_40, z_41, z_42, z_43, z_44, z_45, z_46, z_47, z_48, z_49, z_50, z_51, z_52, z_53, z_54, z_55, z_56, z_57, z_58, z_59, z_60, z_61, z_62, z_63, z_64, z_65, z_66, z_67, z_68, z_69, z_70, z_71, z_72, z_73, z_74, z_75, z_76, z_77, z_78, z_79, z_80, z_81, z_82, z_83, z_84, z_85, z_86, z_87, z_88, z_89, z_90, z_91, z_92, z_93, z_94, z_95, z_96, z_97, z_98, z_99, z_100, z_101, z_102, z_103, z_104, z_105, z_106, z_107, z_108, z_109, z_110, z_111, z_112, z_113, z_114, z_115, z_116, z_117, z_118, z_119, z_120, z_121, z_122, z_123, z_124, z_125, z_126, z_127, z_199, z_200, z_360, z_410, z_1000, z_1023, z_1024, z_1219, z_9999, z_10240, z_65537]
        rfl
    · refine ⟨zI (d 99 7), ?_, ?_⟩
      · simp (disch := omega) only [x_isPlace, x_isHouse, x_isTale, x_within, x_longBetween, x_layRoad, x_doubtOf, x_furnish, x_beliefOf, x_convince, x_fadesInto, x_letFade, ec, s_T, s_F, s_bd, s_cl, s_rd, s_wr, s_ite, z_ite, z_neg, z_add, z_sub, z_mul, z_le, z_lt, z_eq, eC_at, eC_7, eC_8, eC_9, eC_10, eC_11, eC_p7, eC_p8, eC_p9, eC_p10, eC_p11, eC_up, ud_same, ud_ne, if_pos, if_neg, z_0, z_1, z_2, z_3, z_4, z_5, z_6, z_7, z_8, z_9, z_10, z_11, z_12, z_13, z_14, z_15, z_16, z_17, z_18, z_19, z_20, z_21, z_22, z_23, z_24, z_25, z_26, z_27, z_28, z_29, z_30, z_31, z_32, z_33, z_34, z_35, z_36, z_37, z_38, z_39, z_40, z_41, z_42, z_43, z_44, z_45, z_46, z_47, z_48, z_49, z_50, z_51, z_52, z_53, z_54, z_55, z_56, z_57, z_58, z_59, z_60, z_61, z_62, z_63, z_64, z_65, z_66, z_67, z_68, z_69, z_70, z_71, z_72, z_73, z_74, z_75, z_76, z_77, z_78, z_79, z_80, z_81, z_82, z_83, z_84, z_85, z_86, z_87, z_88, z_89, z_90, z_91, z_92, z_93, z_94, z_95, z_96, z_97, z_98, z_99, z_100, z_101, z_102, z_103, z_104, z_105, z_106, z_107, z_108, z_109, z_110, z_111, z_112, z_113, z_114, z_115, z_116, z_117, z_118, z_119, z_120, z_121, z_122, z_123, z_124, z_125, z_126, z_127, z_199, z_200, z_360, z_410, z_1000, z_1023, z_1024, z_1219, z_9999, z_10240, z_65537]
      · simp (disch := omega) only [m_isPlace, m_isHouse, m_isTale, m_in, z_l, zl_neg, zl_0, zl_1, zl_2, zl_3, zl_5, zl_8, zl_9, zl_10, zl_19, zl_33, zl_40, zl_49, zl_57, zl_60, zl_65, zl_74, zl_99, zl_100, zl_126, zl_199, zl_1000, zl_1219, zl_9999, pw_0, up_0, pw_1, up_1, pw_2, up_2, pw_3, up_3, pw_4, up_4, pw_9, up_9, pw_10, up_10, pwi_5, upi_5, pwi_6, upi_6, pwi_7, upi_7, pwi_8, upi_8, pwi_11, upi_11, pw_12, up_12, pw_14, up_14, pw_15, up_15, pw_16, up_16, pw_18, up_18, pw_24, up_24, pw_25, up_25, pw_26, up_26, pw_29, up_29, pw_30, up_30, pw_31, up_31, pwi_13, upi_13, pwi_17, upi_17, pwi_19, upi_19, pwi_20, upi_20, pwi_21, upi_21, pwi_22, upi_22, pwi_23, upi_23, pwi_32, upi_32, pwi_33, upi_33, eC_5, eC_6, eC_13, eC_17, eC_19, eC_20, eC_21, eC_22, eC_23, eC_32, eC_33, eC_p5, eC_p6, eC_p13, eC_p17, eC_p19, eC_p20, eC_p21, eC_p22, eC_p23, eC_p32, eC_p33, s_T, s_F, s_bd, s_cl, s_rd, s_wr, s_ite, z_ite, z_neg, z_add, z_sub, z_mul, z_le, z_lt, z_eq, eC_at, eC_7, eC_8, eC_9, eC_10, eC_11, eC_p7, eC_p8, eC_p9, eC_p10, eC_p11, eC_up, ud_same, ud_ne, if_pos, if_neg, z_0, z_1, z_2, z_3, z_4, z_5, z_6, z_7, z_8, z_9, z_10, z_11, z_12, z_13, z_14, z_15, z_16, z_17, z_18, z_19, z_20, z_21, z_22, z_23, z_24, z_25, z_26, z_27, z_28, z_29, z_30, z_31, z_32, z_33, z_34, z_35, z_36, z_37, z_38, z_39, z_40, z_41, z_42, z_43, z_44, z_45, z_46, z_47, z_48, z_49, z_50, z_51, z_52, z_53, z_54, z_55, z_56, z_57, z_58, z_59, z_60, z_61, z_62, z_63, z_64, z_65, z_66, z_67, z_68, z_69, z_70, z_71, z_72, z_73, z_74, z_75, z_76, z_77, z_78, z_79, z_80, z_81, z_82, z_83, z_84, z_85, z_86, z_87, z_88, z_89, z_90, z_91, z_92, z_93, z_94, z_95, z_96, z_97, z_98, z_99, z_100, z_101, z_102, z_103, z_104, z_105, z_106, z_107, z_108, z_109, z_110, z_111, z_112, z_113, z_114, z_115, z_116, z_117, z_118, z_119, z_120, z_121, z_122, z_123, z_124, z_125, z_126, z_127, z_199, z_200, z_360, z_410, z_1000, z_1023, z_1024, z_1219, z_9999, z_10240, z_65537]
  · have n0 : ¬ zI a = 0 := by rw [z_0, z_eq (by omega) (by omega) (by omega) (by omega)]; omega
    have n5 : ¬ zI a = 5 := by rw [z_5, z_eq (by omega) (by omega) (by omega) (by omega)]; omega
    have n1 : ¬ zI a = 1 := by rw [z_1, z_eq (by omega) (by omega) (by omega) (by omega)]; omega
    have n2 : ¬ zI a = 2 := by rw [z_2, z_eq (by omega) (by omega) (by omega) (by omega)]; omega
    have n3 : ¬ zI a = 3 := by rw [z_3, z_eq (by omega) (by omega) (by omega) (by omega)]; omega
    have n4 : ¬ zI a = 4 := by rw [z_4, z_eq (by omega) (by omega) (by omega) (by omega)]; omega
    rw [if_neg n0, if_neg n0, if_neg n1, if_neg n2, if_neg n3, if_neg n4, if_neg n5, if_neg n5]
    rw [z_0, z_1, z_4, z_10, z_19, z_100, z_199, z_1000, z_1219, z_l a0 a1, zl_10, zl_19, zl_100, zl_199, zl_1000, zl_1219]
    rw [x_within a0 a1 (by omega) (by omega) (by omega) (by omega), x_within a0 a1 (by omega) (by omega) (by omega) (by omega), x_within a0 a1 (by omega) (by omega) (by omega) (by omega), x_within a0 a1 (by omega) (by omega) (by omega) (by omega), m_in (by omega) (by omega) (by omega) (by omega) (by omega) (by omega), m_in (by omega) (by omega) (by omega) (by omega) (by omega) (by omega), m_in (by omega) (by omega) (by omega) (by omega) (by omega) (by omega)]
    rw [s_cl, s_cl, s_cl, s_cl, s_cl, s_cl, s_cl]
    have k14 : ¬ (1 ≤ a ∧ a ≤ 4) := by omega
    by_cases c1 : 10 ≤ a ∧ a ≤ 19
    · have k2 : ¬ (100 ≤ a ∧ a ≤ 199) := by omega
      have k3 : ¬ (1000 ≤ a ∧ a ≤ 1219) := by omega
      simp only [if_neg k14, if_pos c1, if_neg k2, if_neg k3, n10, eq_self, s_T, s_F]
      rw [z_sub, x_fadesInto d (by omega) (by omega), s_cl, s_rd (by omega) (by omega) (by omega), eC_at _ _ (by omega), pw_4]
      exact ⟨_, rfl, rfl⟩
    · by_cases c2 : 100 ≤ a ∧ a ≤ 199
      · have k3 : ¬ (1000 ≤ a ∧ a ≤ 1219) := by omega
        simp only [if_neg k14, if_neg c1, if_pos c2, if_neg k3, n10, eq_self, s_T, s_F]
        rw [z_rem (by omega) (by omega) (by omega) (by omega), z_2, z_3, z_sub]
        by_cases c3 : a % 10 ≤ 2
        · have q1 : ¬ zI 2 < zI (a % 10) := by rw [z_lt (by omega) (by omega) (by omega) (by omega)]; omega
          have q2 : ¬ zI 3 ≤ zI (a % 10) := by rw [z_le (by omega) (by omega) (by omega) (by omega)]; omega
          rw [if_neg q1, if_neg q2, z_div (by omega) (by omega) (by omega) (by omega), x_houseFact d hd (by omega) (by omega) (by omega) (by omega), m_ofHouse hd (by omega) (by omega) (by omega) (by omega), s_cl]
          exact ⟨_, rfl, rfl⟩
        · have q1 : zI 2 < zI (a % 10) := by rw [z_lt (by omega) (by omega) (by omega) (by omega)]; omega
          have q2 : zI 3 ≤ zI (a % 10) := by rw [z_le (by omega) (by omega) (by omega) (by omega)]; omega
          rw [if_pos q1, if_pos q2]
          exact ⟨_, rfl, rfl⟩
      · by_cases c4 : 1000 ≤ a ∧ a ≤ 1219
        · have e20 : (20 : Int32) = zI 20 := by decide
          simp only [if_neg k14, if_neg c1, if_neg c2, if_pos c4, n10, eq_self, s_T, s_F]
          rw [z_sub, e20, z_rem (by omega) (by omega) (by omega) (by omega), z_div (by omega) (by omega) (by omega) (by omega), s_bd, s_bd, x_isPlace (by omega) (by omega), m_isPlace (by omega) (by omega), s_cl, s_cl]
          by_cases c5 : 0 ≤ (a - 1000) % 20 ∧ (a - 1000) % 20 ≤ 10
          · simp only [if_pos c5, n10, s_F]
            rw [x_longBetween d (by omega) (by omega) (by omega) (by omega), z_11, z_mul, z_add, s_rd (by omega) (by omega) (by omega), eC_at _ _ (by omega), pw_0, s_cl, show 11 * ((a - 1000) / 20) + (a - 1000) % 20 = (a - 1000) / 20 * 11 + (a - 1000) % 20 by omega]
            exact ⟨_, rfl, rfl⟩
          · simp only [if_neg c5, eq_self, s_T]
            exact ⟨_, rfl, rfl⟩
        · simp only [if_neg k14, if_neg c1, if_neg c2, if_neg c4, n10, eq_self, s_T, s_F]
          exact ⟨_, rfl, rfl⟩
/-! fading -/
theorem x_behindStirs (hd : okd d) {t n : Int} (t0 : 0 ≤ t) (t1 : t ≤ 9) (n0 : 0 ≤ n) (n1 : n ≤ 1000) : f_X1_behindStirs (eC d) (zI t) (zI n) = some (zI (itr d n.toNat t)) := by
  unfold f_X1_behindStirs
  rw [z_0]
  refine lp_en (fun i : Int => (zI i, zI (itr d i.toNat t))) (fun _ _ => some (zI (itr d n.toNat t))) (fun N i => 0 ≤ i ∧ i ≤ n ∧ (n - i).toNat < N) (fun i => by omega) ?_ 20000 0 ⟨by omega, by omega, by omega⟩
  rintro again N i ⟨h0, h1, h2⟩ ih
  have hb := itr_b hd t0 t1 i.toNat
  unfold b_X1_behindStirs_5
  dsimp only
  by_cases c : i < n
  · rw [if_neg (by rw [z_le (by omega) (by omega) (by omega) (by omega)]; omega), x_fadesInto d hb.1 hb.2, s_cl, z_s1]
    have := ih (i + 1) ⟨by omega, by omega, by omega⟩
    rw [show (i + 1).toNat = i.toNat + 1 by omega] at this
    exact this
  · obtain rfl : i = n := by omega
    rw [if_pos (by rw [z_le (by omega) (by omega) (by omega) (by omega)]; omega)]
theorem least_of {P : Nat → Prop} : ∀ n, P n → ∃ L, L ≤ n ∧ P L ∧ ∀ k, k < L → ¬ P k := by
  intro n
  induction n using Nat.strongRecOn with
  | ind n ih =>
    intro hn
    by_cases h : ∃ k, k < n ∧ P k
    · obtain ⟨k, hk, pk⟩ := h
      obtain ⟨L, h1, h2, h3⟩ := ih k hk pk
      exact ⟨L, by omega, h2, h3⟩
    · exact ⟨n, Nat.le_refl n, hn, fun k hk pk => h ⟨k, hk, pk⟩⟩
/-- a tale that came before -/
def rep (d : Nat → Int → Int) (t : Int) (n : Nat) : Prop := ∃ e, e < n ∧ itr d e t = itr d n t
theorem rep_least (hd : okd d) {t : Int} (t0 : 0 ≤ t) (t1 : t ≤ 9) : ∃ L, 1 ≤ L ∧ L ≤ 10 ∧ rep d t L ∧ ∀ k, k < L → ¬ rep d t k := by
  obtain ⟨i, j, h1, h2, h3⟩ := itr_rep hd t0 t1
  obtain ⟨L, k1, k2, k3⟩ := least_of (P := rep d t) j ⟨i, h1, h3⟩
  obtain ⟨e, he, _⟩ := id k2
  exact ⟨L, by omega, by omega, k2, k3⟩
theorem caF_first {t n : Int} {e0 : Nat} (hn : (e0 : Int) < n) (h : itr d e0 t = itr d n.toNat t) (hf : ∀ e, e < e0 → ¬ itr d e t = itr d n.toNat t) : ∀ (N : Nat) (e : Int), 0 ≤ e → e ≤ e0 → (n - e).toNat < N → caF d t n N e = n - e0 := by
  intro N
  induction N with
  | zero => intro e _ _ h; omega
  | succ N ih =>
    intro e h0 h1 h2
    unfold caF
    rw [if_neg (by omega)]
    by_cases c : e = e0
    · subst c
      rw [if_pos (by rw [Int.toNat_natCast]; exact h)]
    · rw [if_neg (hf e.toNat (by omega))]
      exact ih (e + 1) (by omega) (by omega) (by omega)
theorem x_stirsToRing (hd : okd d) {t : Int} (t0 : 0 ≤ t) (t1 : t ≤ 9) {L : Nat} (l1 : L ≤ 10) (hr : rep d t L) (hl : ∀ k, k < L → ¬ rep d t k) : f_X1_stirsToRing (eC d) (zI t) = some (zI L) := by
  unfold f_X1_stirsToRing
  rw [z_0]
  have key : oK (fun r => r = zI L) (q_lp (b_X1_stirsToRing_7 (eC d)) (fun _ => some (10 : Int32)) 20000 (zI 0, zI t, zI 0)) := by
    refine ok_forI (τ := Int32 × Int32) L (fun s u => u.1 = zI (itr d s.toNat t) ∧ ∀ p, 0 ≤ p → p ≤ 9 → (bi u.2 p = true ↔ ∃ e, e < s.toNat ∧ itr d e t = p)) (fun again s u h0 h1 hu ih => ?_) 20000 0 _ (by omega) (by omega) ⟨rfl, fun p h4 h5 => ?_⟩ (by omega)
    · obtain ⟨u1, u2⟩ := u
      obtain ⟨hu1, hu2⟩ := hu
      dsimp only at hu1 hu2
      subst hu1
      have hb := itr_b hd t0 t1 s.toNat
      unfold b_X1_stirsToRing_7
      dsimp only
      rw [if_neg (by rw [z_10, z_lt (by omega) (by omega) (by omega) (by omega)]; omega), x_tal (by omega) (by omega), s_cl, if_neg (by decide), x_isInB u2 hb.1 (by omega), s_cl, z_s1]
      simp (disch := omega) only [one_if]
      have hq := hu2 (itr d s.toNat t) hb.1 hb.2
      refine ok_if (fun c => ?_) (fun c => ?_)
      · rw [s_bd, x_fadesInto d hb.1 hb.2, s_cl]
        have hn : ¬ rep d t s.toNat := fun z => c (hq.mpr z)
        have hs : s < L := by
          by_cases e : s < L
          · exact e
          · exact absurd (show rep d t s.toNat by rw [show s.toNat = L by omega]; exact hr) hn
        refine ih hs (zI (d 4 (itr d s.toNat t)), _) ⟨?_, fun p h4 h5 => ?_⟩
        · rw [show (s + 1).toNat = s.toNat + 1 by omega]; rfl
        · rw [bi_or, bi_one h4 (by omega) hb.1 (by omega), Bool.or_eq_true, hu2 p h4 h5, decide_eq_true_eq, show (s + 1).toNat = s.toNat + 1 by omega]
          constructor
          · rintro (⟨e, e0, e1⟩ | y)
            · exact ⟨e, by omega, e1⟩
            · exact ⟨s.toNat, by omega, y.symm⟩
          · rintro ⟨e, e0, e1⟩
            by_cases ee : e = s.toNat
            · subst ee; exact Or.inr e1.symm
            · exact Or.inl ⟨e, by omega, e1⟩
      · have hz := hq.mp (Classical.not_not.mp c)
        have hs : s = L := by
          by_cases e : s.toNat < L
          · exact absurd hz (hl _ e)
          · omega
        subst hs
        exact ok_r rfl
    · rw [← z_0, bi_z0]
      exact ⟨fun z => absurd z (by decide), fun ⟨e, h, _⟩ => absurd h (Nat.not_lt_zero e)⟩
  obtain ⟨r, h1, rfl⟩ := key
  exact h1
theorem x_stirsOfRing (hd : okd d) {t : Int} (t0 : 0 ≤ t) (t1 : t ≤ 9) {L e0 : Nat} (l1 : L ≤ 10) (hr : rep d t L) (hl : ∀ k, k < L → ¬ rep d t k) (he : e0 < L) (h : itr d e0 t = itr d L t) (hf : ∀ e, e < e0 → ¬ itr d e t = itr d L t) : f_X1_stirsOfRing (eC d) (zI t) = some (zI ((L : Int) - e0)) := by
  unfold f_X1_stirsOfRing
  rw [x_stirsToRing hd t0 t1 l1 hr hl, s_cl, x_behindStirs hd t0 t1 (by omega) (by omega), s_cl, z_0, Int.toNat_natCast]
  have hbL := itr_b hd t0 t1 L
  have key : oK (fun r => r = zI ((L : Int) - e0)) (q_lp (b_X1_stirsOfRing_16 (eC d) (zI t) (zI L) (zI (itr d L t))) (fun _ => some (zI L)) 20000 (zI 0)) := by
    refine ok_forI1 e0 (fun _ => True) (fun again s h0 h1 _ ih => ?_) 20000 0 (by omega) (by omega) trivial (by omega)
    unfold b_X1_stirsOfRing_16
    have hb := itr_b hd t0 t1 s.toNat
    rw [if_neg (by rw [z_le (by omega) (by omega) (by omega) (by omega)]; omega), x_behindStirs hd t0 t1 (by omega) (by omega), s_cl, z_s1, z_sub]
    refine ok_ifE (z_eq (by omega) (by omega) (by omega) (by omega)) (fun c => ?_) (fun c => ?_)
    · have : s = e0 := by
        by_cases z : s.toNat < e0
        · exact absurd c (hf _ z)
        · omega
      subst this
      exact ok_r rfl
    · refine ih ?_ trivial
      by_cases z : s < e0
      · exact z
      · have : s.toNat = e0 := by omega
        rw [this] at c
        exact absurd h c
  obtain ⟨r, h1, rfl⟩ := key
  exact h1
theorem c_faded (hd : okd d) (a w : Int32) : ∃ r, f_X6_faded (eC d) a w = some r ∧ f_X7_faded (eC (pw m d)) τ a w = some r := by
  unfold f_X6_faded f_X7_faded
  obtain ⟨a, a0, a1, rfl⟩ := z_of a
  obtain ⟨n, n0, n1, rfl⟩ := z_of w
  have e2 : (-2 : Int64) = zL (-2) := by decide
  have e3 : (-2 : Int32) = zI (-2) := by decide
  have em : (-1 : Int32) = zI (-1) := by decide
  rw [x_isTale a0 a1, m_isTale a0 a1, s_cl, s_cl, e2, e3, em, z_99, zl_99, z_l n0 n1, x_within n0 n1 (by omega) (by omega) (by omega) (by omega), m_in (by omega) (by omega) (by omega) (by omega) (by omega) (by omega), s_cl, s_cl, z_0]
  by_cases ca : 0 ≤ a ∧ a ≤ 9
  · rw [if_pos ca, if_neg n10, if_neg n10]
    by_cases cw : -2 ≤ n ∧ n ≤ 99
    · rw [if_pos cw, if_neg n10, if_neg n10]
      by_cases cn : n < 0
      · have q : zI n < zI 0 := by rw [z_lt (by omega) (by omega) (by omega) (by omega)]; exact cn
        rw [if_pos q, if_pos q]
        obtain ⟨L, l0, l1, l2, l3⟩ := rep_least hd ca.1 ca.2
        obtain ⟨e', he', hh'⟩ := l2
        obtain ⟨e0, k1, k2, k3⟩ := least_of (P := fun e => itr d e a = itr d L a) e' hh'
        have hcl : ∀ s : Nat, s < L → caF d a s 20000 0 < 0 := by
          intro s hs
          have hno := l3 s hs
          have : ∀ (N : Nat) (e : Int), 0 ≤ e → caF d a s N e = -6 := by
            intro N
            induction N with
            | zero => intro e _; rfl
            | succ N ih =>
              intro e h0
              unfold caF
              by_cases c : (s : Int) ≤ e
              · rw [if_pos c]
              · rw [if_neg c, if_neg (fun z => hno ⟨e.toNat, by omega, by rw [Int.toNat_natCast] at z; exact z⟩)]
                exact ih (e + 1) (by omega)
          rw [this 20000 0 (by omega)]; decide
        have hcL : caF d a L 20000 0 = (L : Int) - e0 := caF_first (n := L) (e0 := e0) (by omega) (by rw [Int.toNat_natCast]; exact k2) (fun e he => by rw [Int.toNat_natCast]; exact k3 e he) 20000 0 (by omega) (by omega) (by omega)
        have hca := fun (s : Int) (s0 : 0 ≤ s) (s1 : s ≤ 1000) => m_cameAhead m hd τ ca.1 ca.2 s0 s1
        have loop : ∀ (K : Int32 → Option Int32) (N : Nat) (s : Nat), 1 ≤ s → s ≤ L → L - s < N → q_lp (b_X7_faded_39 (eC (pw m d)) τ (zI a)) K N (zI s) = K (zI L) := by
          intro K N
          induction N with
          | zero => intro s _ _ h; omega
          | succ N ih =>
            intro s s0 s1 hN
            rw [lp_s]
            generalize q_lp (b_X7_faded_39 (eC (pw m d)) τ (zI a)) K N = again at ih
            unfold b_X7_faded_39
            rw [hca s (by omega) (by omega), s_cl, z_s1, z_0]
            by_cases c : s = L
            · subst c
              rw [hcL, if_pos (by rw [z_le (by omega) (by omega) (by omega) (by omega)]; omega)]
            · have h1 := hcl s (by omega)
              have h2 := (caF_b (d := d) (t := a) (n := s) (by omega) 20000 0 (by omega)).1
              rw [if_neg (by rw [z_le (by omega) (by omega) (by omega) (by omega)]; omega)]
              have := ih (s + 1) (by omega) (by omega) (by omega)
              rw [Int.natCast_add] at this
              exact this
        rw [z_1]
        have l := loop (fun z8 => if zI n = zI (-1) then some z8 else q_cl (f_X7_cameAhead (eC (pw m d)) τ (zI a) z8) fun r_10 => some r_10) 20000 1 (by omega) l0 (by omega)
        rw [show zI 1 = zI ((1 : Nat) : Int) from rfl, l]
        rw [x_stirsToRing hd ca.1 ca.2 l1 ⟨e', he', hh'⟩ l3, x_stirsOfRing hd ca.1 ca.2 l1 ⟨e', he', hh'⟩ l3 (by omega) k2 k3, hca L (by omega) (by omega), hcL, s_cl, s_cl]
        by_cases cm : zI n = zI (-1)
        · rw [if_pos cm]; exact ⟨_, rfl, rfl⟩
        · rw [if_neg cm]; exact ⟨_, rfl, rfl⟩
      · have q : ¬ zI n < zI 0 := by rw [z_lt (by omega) (by omega) (by omega) (by omega)]; exact cn
        rw [if_neg q, if_neg q, x_behindStirs hd ca.1 ca.2 (by omega) (by omega), m_fadedBy m hd τ ca.1 ca.2 (by omega) (by omega), s_cl]
        exact ⟨_, rfl, rfl⟩
    · rw [if_neg cw, if_pos rfl, if_pos rfl]; exact ⟨_, rfl, rfl⟩
  · rw [if_neg ca, if_pos rfl, if_pos rfl]; exact ⟨_, rfl, rfl⟩
end TOLD
end
section
/-! what was said: exactly -/
/-- twos of tale and s, coded, by which all sights are so -/
def fitP (d : Nat → Int → Int) (w : Int) : Prop := 1 ≤ w % 10 ∧ w % 10 ≤ 5 ∧ ∀ i, 0 ≤ i → i < d 99 7 → itr d (d 5 i / (w % 10)).toNat (w / 10) = d 6 i
noncomputable def fitB (d : Nat → Int → Int) (w : Int) : Bool := @decide (fitP d w) (Classical.propDecidable _)
theorem fitB_t {d : Nat → Int → Int} {w : Int} : fitB d w = true ↔ fitP d w := @decide_eq_true_iff (fitP d w) (Classical.propDecidable _)
/-- how many fit below -/
noncomputable def cn (d : Nat → Int → Int) : Nat → Nat
  | 0 => 0
  | n + 1 => if fitB d n = true then cn d n + 1 else cn d n
section FITS
variable {d m : Nat → Int → Int} {τ : qL}
theorem cn_fit {n : Nat} (h : fitB d n = true) : cn d (n + 1) = cn d n + 1 := if_pos h
theorem cn_not {n : Nat} (h : ¬ fitB d n = true) : cn d (n + 1) = cn d n := if_neg h
theorem cn_le : ∀ n, cn d n ≤ n := by
  intro n
  induction n with
  | zero => exact Nat.le_refl 0
  | succ n ih =>
    unfold cn
    split <;> omega
theorem cn_mono {a b : Nat} (h : a ≤ b) : cn d a ≤ cn d b := by
  induction h with
  | refl => exact Nat.le_refl _
  | @step c _ ih =>
    refine Nat.le_trans ih ?_
    by_cases z : fitB d c = true
    · rw [cn_fit z]; omega
    · rw [cn_not z]; exact Nat.le_refl _
theorem cn_at : ∀ (N j : Nat), j < cn d N → ∃ w, w < N ∧ fitB d w = true ∧ cn d w = j := by
  intro N
  induction N with
  | zero => intro j h; exact absurd h (Nat.not_lt_zero j)
  | succ N ih =>
    intro j h
    by_cases c : fitB d N = true
    · rw [cn_fit c] at h
      by_cases e : j = cn d N
      · exact ⟨N, by omega, c, e.symm⟩
      · obtain ⟨w, h1, h2, h3⟩ := ih j (by omega)
        exact ⟨w, by omega, h2, h3⟩
    · rw [cn_not c] at h
      obtain ⟨w, h1, h2, h3⟩ := ih j h
      exact ⟨w, by omega, h2, h3⟩
theorem cn_inj {v w : Nat} (hv : fitB d v = true) (hw : fitB d w = true) (h : cn d v = cn d w) : v = w := by
  rcases (show v < w ∨ v = w ∨ w < v by omega) with c | c | c
  · have := cn_mono (d := d) (show v + 1 ≤ w by omega)
    rw [cn_fit hv] at this; omega
  · exact c
  · have := cn_mono (d := d) (show w + 1 ≤ v by omega)
    rw [cn_fit hw] at this; omega
theorem fit_mod {w : Int} (h : fitB d w = true) : 1 ≤ w % 10 ∧ w % 10 ≤ 5 := ⟨(fitB_t.mp h).1, (fitB_t.mp h).2.1⟩
/-- at most five for each tale -/
theorem cn_ten : ∀ t : Nat, cn d (10 * t + 1) ≤ 5 * t ∧ ∀ s, 1 ≤ s → s ≤ 6 → cn d (10 * t + s) + 1 ≤ 5 * t + s := by
  have step : ∀ t : Nat, cn d (10 * t + 1) ≤ 5 * t → ∀ s, 1 ≤ s → s ≤ 6 → cn d (10 * t + s) + 1 ≤ 5 * t + s := by
    intro t h s
    induction s with
    | zero => intro h; omega
    | succ s ih =>
      intro h0 h1
      by_cases c : s = 0
      · subst c; show cn d (10 * t + 1) + 1 ≤ _; omega
      · have := ih (by omega) (by omega)
        rw [← Nat.add_assoc]
        by_cases z : fitB d (10 * t + s : Nat) = true
        · rw [cn_fit z]; omega
        · rw [cn_not z]; omega
  intro t
  induction t with
  | zero =>
    have h : cn d (10 * 0 + 1) ≤ 5 * 0 := by
      show (if fitB d ((0 : Nat) : Int) = true then _ else _) ≤ 0
      rw [if_neg (fun z => by have := (fit_mod z).1; omega)]
      exact Nat.le_refl 0
    exact ⟨h, step 0 h⟩
  | succ t ih =>
    have h6 := ih.2 6 (by omega) (by omega)
    have n6 : cn d (10 * t + 7) = cn d (10 * t + 6) := cn_not (fun z => by have := fit_mod z; omega)
    have n7 : cn d (10 * t + 8) = cn d (10 * t + 7) := cn_not (fun z => by have := fit_mod z; omega)
    have n8 : cn d (10 * t + 9) = cn d (10 * t + 8) := cn_not (fun z => by have := fit_mod z; omega)
    have n9 : cn d (10 * t + 10) = cn d (10 * t + 9) := cn_not (fun z => by have := fit_mod z; omega)
    have n10 : cn d (10 * t + 11) = cn d (10 * t + 10) := cn_not (fun z => by have := fit_mod z; omega)
    have h : cn d (10 * (t + 1) + 1) ≤ 5 * (t + 1) := by
      rw [show 10 * (t + 1) + 1 = 10 * t + 11 by omega]; omega
    exact ⟨h, step (t + 1) h⟩
theorem cn_skip (t : Nat) : cn d (10 * (t + 1) + 1) = cn d (10 * t + 6) := by
  have n6 : cn d (10 * t + 7) = cn d (10 * t + 6) := cn_not (fun z => by have := fit_mod z; omega)
  have n7 : cn d (10 * t + 8) = cn d (10 * t + 7) := cn_not (fun z => by have := fit_mod z; omega)
  have n8 : cn d (10 * t + 9) = cn d (10 * t + 8) := cn_not (fun z => by have := fit_mod z; omega)
  have n9 : cn d (10 * t + 10) = cn d (10 * t + 9) := cn_not (fun z => by have := fit_mod z; omega)
  have n10 : cn d (10 * t + 11) = cn d (10 * t + 10) := cn_not (fun z => by have := fit_mod z; omega)
  rw [show 10 * (t + 1) + 1 = 10 * t + 11 by omega]; omega
theorem cn_1 : cn d 1 = 0 := by
  show (if fitB d ((0 : Nat) : Int) = true then _ else _) = 0
  rw [if_neg (fun z => by have := (fit_mod z).1; omega)]; rfl
theorem cn_101 : cn d 101 = cn d 100 := cn_not (fun z => by have := (fit_mod z).1; omega)
theorem cn_50 : cn d 100 ≤ 50 := by have := (cn_ten (d := d) 10).1; rw [show 10 * 10 + 1 = 101 from rfl, cn_101] at this; omega
theorem nI_1_0 : ((1 : Int32) = 0) = False := propext ⟨fun z => absurd z (by decide), fun z => z.elim⟩
/-! the reference -/
theorem y_isFit (hd : okd d) {w : Int} (w0 : 0 ≤ w) (w1 : w < 100) : f_X7_isFit (eC (pw m d)) τ (zI w) = some (fI (fitB d w)) := by
  have hs := okd_s hd
  have goal : oK (fun r => r = fI (fitB d w)) (f_X7_isFit (eC (pw m d)) τ (zI w)) := by
    unfold f_X7_isFit
    rw [z_10, z_rem w0 (by omega) (by omega) (by omega), zl_1, zl_5, v_in _ (by omega) (by omega) (by omega) (by omega), s_cl, z_toInt (by omega) (by omega), z_0]
    by_cases cw : 1 ≤ w % 10 ∧ w % 10 ≤ 5
    · rw [if_pos cw]
      refine ok_forI (τ := Int32) (d 99 7) (fun i t => (t = 1 ∧ ∀ j, 0 ≤ j → j < i → itr d (d 5 j / (w % 10)).toNat (w / 10) = d 6 j) ∨ (t = 0 ∧ ¬ fitP d w)) (fun again i t h0 h1 ht ih => ?_) 20000 0 _ (by omega) (by omega) (Or.inl ⟨rfl, fun j a b => by omega⟩) (by omega)
      unfold b_X7_isFit_15
      dsimp only
      rw [z_s1, eC_11, pwi_11, z_10, z_rem w0 (by omega) (by omega) (by omega), z_div w0 (by omega) (by omega) (by omega)]
      rcases ht with ⟨rfl, ht⟩ | ⟨rfl, ht⟩
      · refine ok_if (fun c => ?_) (fun c => ?_)
        · have hh := t_le h0 (by omega) (by omega) (by omega) c
          rw [s_chk (by decide)]
          refine ok_r ?_
          rw [fitB_t.mpr ⟨cw.1, cw.2, fun j a b => ht j a (by omega)⟩]; rfl
        · have hi := t_nle h0 (by omega) (by omega) (by omega) c
          rw [if_neg (show ¬ (1 : Int32) = 0 by decide)]
          have h5 := okd_5 hd i
          have q0 : 0 ≤ d 5 i / (w % 10) := Int.ediv_nonneg h5.1 (by omega)
          have q1 : d 5 i / (w % 10) ≤ d 5 i := Int.ediv_le_self _ h5.1
          have hb := itr_b hd (t := w / 10) (by omega) (by omega) (d 5 i / (w % 10)).toNat
          have h6 := okd_6 hd i
          rw [s_rd h0 (by omega) (by omega), eC_at _ _ h0, pw_9, s_nz (by omega) (by omega) (by omega), z_div h5.1 (by omega) (by omega) (by omega), m_fadedBy m hd τ (by omega) (by omega) q0 (by omega), s_cl, s_rd h0 (by omega) (by omega), eC_at _ _ h0, pw_10]
          refine ok_ifE (z_eq (by omega) (by omega) (by omega) (by omega)) (fun c2 => ih hi _ (Or.inl ⟨rfl, fun j a b => ?_⟩)) (fun c2 => ih hi _ (Or.inr ⟨rfl, fun z => c2 (z.2.2 i h0 hi)⟩))
          by_cases e : j = i
          · subst e; exact c2
          · exact ht j a (by omega)
      · have hend : oK (fun r => r = fI (fitB d w)) (q_chk (q_isB (0 : Int32)) <| some 0) := by
          rw [s_chk (by decide)]
          refine ok_r ?_
          rw [Bool.eq_false_iff.mpr (fun z => ht (fitB_t.mp z))]; rfl
        refine ok_if (fun _ => hend) (fun _ => ?_)
        rw [if_pos rfl]
        exact hend
    · rw [if_neg cw, lp_s]
      unfold b_X7_isFit_15
      dsimp only
      have hend : oK (fun r => r = fI (fitB d w)) (q_chk (q_isB (zI 0)) <| some (zI 0)) := by
        rw [s_chk (by decide)]
        refine ok_r ?_
        rw [show fitB d w = false from Bool.eq_false_iff.mpr (fun z => cw (fit_mod z))]; decide
      refine ok_if (fun _ => hend) (fun _ => ?_)
      rw [if_pos z_0.symm]
      exact hend
  obtain ⟨r, h1, rfl⟩ := goal
  exact h1
/-- the two at a place -/
def atF (d : Nat → Int → Int) (a r : Int32) : Prop := (∃ w : Nat, w < 100 ∧ fitB d w = true ∧ a = zI (cn d w) ∧ r = zI w) ∨ ((∀ w : Nat, w < 100 → fitB d w = true → a ≠ zI (cn d w)) ∧ r = (if a = (-1) then zI (cn d 100) else (-6)))
theorem y_fits (hd : okd d) (a : Int32) : oK (atF d a) (f_X7_fits (eC (pw m d)) τ a) := by
  unfold f_X7_fits
  rw [z_0]
  refine ok_forI (τ := Int32) 100 (fun i t => t = zI (cn d i.toNat) ∧ ∀ w : Nat, w < i.toNat → fitB d w = true → a ≠ zI (cn d w)) (fun again i t h0 h1 ht ih => ?_) 20000 0 _ (by omega) (by omega) ⟨rfl, fun w hw => absurd hw (Nat.not_lt_zero w)⟩ (by omega)
  obtain ⟨rfl, ht⟩ := ht
  unfold b_X7_fits_4
  dsimp only
  rw [z_s1, z_100]
  by_cases c : i < 100
  · rw [if_neg (c_nle c h0 (by omega)), y_isFit hd h0 c, s_cl]
    simp only [fI_if]
    have e1 : (i + 1).toNat = i.toNat + 1 := by omega
    have ei : ((i.toNat : Nat) : Int) = i := Int.toNat_of_nonneg h0
    by_cases cf : fitB d i = true
    · have cf' : fitB d (i.toNat : Nat) = true := by rw [ei]; exact cf
      rw [if_neg (fun z => z cf)]
      refine ok_if (fun ca => ok_r (Or.inl ⟨i.toNat, by omega, cf', ca.symm, by rw [ei]⟩)) (fun ca => ?_)
      rw [z_s1]
      refine ih c _ ⟨?_, fun w hw hf => ?_⟩
      · rw [e1, cn_fit cf', Int.natCast_add]; rfl
      · by_cases e : w = i.toNat
        · subst e; exact fun z => ca z.symm
        · exact ht w (by omega) hf
    · have cf' : ¬ fitB d (i.toNat : Nat) = true := by rw [ei]; exact cf
      rw [if_pos cf]
      refine ih c _ ⟨?_, fun w hw hf => ?_⟩
      · rw [e1, cn_not cf']
      · by_cases e : w = i.toNat
        · subst e; exact absurd hf cf'
        · exact ht w (by omega) hf
  · obtain rfl : i = 100 := by omega
    rw [if_pos (c_le (by omega) (by omega) (by omega))]
    exact ok_if (fun ca => ok_r (Or.inr ⟨ht, by rw [if_pos ca]; rfl⟩)) (fun ca => ok_r (Or.inr ⟨ht, by rw [if_neg ca]⟩))
theorem atF_un {a r r' : Int32} (h : atF d a r) (h' : atF d a r') : r = r' := by
  have hc := fun w : Nat => cn_le (d := d) w
  rcases h with ⟨w, h1, h2, h3, h4⟩ | ⟨h1, h2⟩
  · rcases h' with ⟨v, k1, k2, k3, k4⟩ | ⟨k1, k2⟩
    · have e : zI (cn d w) = zI (cn d v) := h3.symm.trans k3
      have a1 := hc w; have a2 := hc v
      rw [z_eq (by omega) (by omega) (by omega) (by omega)] at e
      have := cn_inj h2 k2 (by omega)
      rw [h4, k4, this]
    · exact absurd h3 (k1 w h1 h2)
  · rcases h' with ⟨v, k1, k2, k3, k4⟩ | ⟨k1, k2⟩
    · exact absurd k3 (h1 v k1 k2)
    · rw [h2, k2]
/-! the class -/
def FA (d : Nat → Int → Int) (σ : qS) (T S : Int) : Prop := ∀ t s, 0 ≤ t → t ≤ 9 → 0 ≤ s → s ≤ 40 → (t < T ∨ (t = T ∧ s < S)) → σ 0 (t * 41 + s).toNat = zI (itr d s.toNat t)
theorem y_fadeAll (hd : okd d) (σ : qS) : oK (fun s => FA d s 10 0) (f_X4_fadeAll σ (eC d)) := by
  unfold f_X4_fadeAll
  rw [z_0]
  refine ok_forI (τ := qS) 10 (fun i t => FA d t i 0) (fun again i t h0 h1 ht ih => ?_) 20000 0 σ (by omega) (by omega) (fun t s _ _ _ _ z => by omega) (by omega)
  unfold b_X4_fadeAll_2
  dsimp only
  rw [z_10, z_s1, z_0]
  refine ok_if (fun c => ok_r ?_) (fun c => ?_)
  · have := t_le h0 (by omega) (by omega) (by omega) c
    obtain rfl : i = 10 := by omega
    exact ht
  have hi := t_nle h0 (by omega) (by omega) (by omega) c
  refine ok_forI (τ := Int32 × qS) 41 (fun j u => u.1 = zI (itr d j.toNat i) ∧ FA d u.2 i j) (fun again2 j u h2 h3 hu ih2 => ?_) 20000 0 _ (by omega) (by omega) ⟨rfl, ht⟩ (by omega)
  obtain ⟨u1, u2⟩ := u
  obtain ⟨hu1, hu2⟩ := hu
  dsimp only at hu1 hu2
  subst hu1
  unfold b_X4_fadeAll_13
  dsimp only
  have e41 : (41 : Int32) = zI 41 := by decide
  rw [e41, z_s1, z_mul, z_add]
  refine ok_if (fun c => ?_) (fun c => ?_)
  · have := t_le h2 (by omega) (by omega) (by omega) c
    obtain rfl : j = 41 := by omega
    exact ih hi _ (fun t s a b p q z => hu2 t s a b p q (by omega))
  have hj := t_nle h2 (by omega) (by omega) (by omega) c
  have hb := itr_b hd (t := i) h0 (by omega) j.toNat
  rw [s_wr (by omega) (by omega) (by omega), x_fadesInto d hb.1 hb.2, s_cl]
  refine ih2 hj (zI (d 4 (itr d j.toNat i)), _) ⟨?_, fun t s a b p q z => ?_⟩
  · rw [show (j + 1).toNat = j.toNat + 1 by omega]; rfl
  · show upd (u2 0) (i * 41 + j).toNat (zI (itr d j.toNat i)) (t * 41 + s).toNat = _
    unfold upd
    by_cases e : t = i ∧ s = j
    · obtain ⟨rfl, rfl⟩ := e
      rw [if_pos rfl]
    · rw [if_neg (by omega)]
      exact hu2 t s a b p q (by omega)
theorem y_taleInBed {σ : qS} (hF : FA d σ 10 0) {t s b : Int} (t0 : 0 ≤ t) (t1 : t ≤ 9) (s0 : 1 ≤ s) (s1 : s ≤ 5) (b0 : 0 ≤ b) (b1 : b ≤ 40) : f_X4_taleInBed σ (zI t) (zI s) (zI b) = some (zI (itr d (b / s).toNat t)) := by
  have q0 : 0 ≤ b / s := Int.ediv_nonneg b0 (by omega)
  have q1 : b / s ≤ b := Int.ediv_le_self _ b0
  have e41 : (41 : Int32) = zI 41 := by decide
  unfold f_X4_taleInBed
  rw [x_tal (by omega) (by omega), s_cl, if_neg (by decide), if_neg (by rw [z_0, z_le (by omega) (by omega) (by omega) (by omega)]; omega), z_0, z_40, x_win (by omega) (by omega) (by omega) (by omega), s_cl, if_neg (by decide), s_nz (by omega) (by omega) (by omega), e41, z_mul, z_div b0 (by omega) (by omega) (by omega), z_add, s_rd (by omega) (by omega) (by omega), hF t (b / s) t0 t1 q0 (by omega) (by omega)]
theorem x_sightBed {i : Int} (h0 : 0 ≤ i) (h1 : i ≤ 7) : f_X1_sightBed (eC d) (zI i) = some (zI (d 5 i)) := by
  unfold f_X1_sightBed
  rw [z_0, z_7, x_win (by omega) (by omega) (by omega) (by omega), s_cl, if_neg (by decide), s_rd h0 (by omega) (by omega), eC_at _ _ h0]
theorem x_sightTale {i : Int} (h0 : 0 ≤ i) (h1 : i ≤ 7) : f_X1_sightTale (eC d) (zI i) = some (zI (d 6 i)) := by
  unfold f_X1_sightTale
  rw [z_0, z_7, x_win (by omega) (by omega) (by omega) (by omega), s_cl, if_neg (by decide), s_rd h0 (by omega) (by omega), eC_at _ _ h0]
theorem y_isSo (hd : okd d) {σ : qS} (hF : FA d σ 10 0) {t s : Int} (t0 : 0 ≤ t) (t1 : t ≤ 9) (s0 : 1 ≤ s) (s1 : s ≤ 5) : f_X4_isSo σ (eC d) (zI t) (zI s) = some (fI (fitB d (10 * t + s))) := by
  have hs := okd_s hd
  have em : (10 * t + s) % 10 = s := by omega
  have ed : (10 * t + s) / 10 = t := by omega
  have goal : oK (fun r => r = fI (fitB d (10 * t + s))) (f_X4_isSo σ (eC d) (zI t) (zI s)) := by
    unfold f_X4_isSo
    rw [z_0]
    refine ok_forI1 (d 99 7) (fun i => ∀ j, 0 ≤ j → j < i → itr d (d 5 j / s).toNat t = d 6 j) (fun again i h0 h1 ht ih => ?_) 20000 0 (by omega) (by omega) (fun j a b => by omega) (by omega)
    unfold b_X4_isSo_3
    have ec : f_X1_sightCount (eC d) = some (zI (d 99 7)) := rfl
    rw [ec, s_cl, z_s1]
    refine ok_if (fun c => ok_r ?_) (fun c => ?_)
    · have hh := t_le h0 (by omega) (by omega) (by omega) c
      rw [fitB_t.mpr ⟨by omega, by omega, fun j a b => by rw [em, ed]; exact ht j a (by omega)⟩]; rfl
    · have hi := t_nle h0 (by omega) (by omega) (by omega) c
      have h5 := okd_5 hd i
      have h6 := okd_6 hd i
      have hb := itr_b hd (t := t) t0 t1 (d 5 i / s).toNat
      rw [x_sightBed h0 (by omega), s_cl, y_taleInBed hF t0 t1 s0 s1 h5.1 h5.2, s_cl, x_sightTale h0 (by omega), s_cl]
      refine ok_ifE (z_eq (by omega) (by omega) (by omega) (by omega)) (fun c2 => ih hi (fun j a b => ?_)) (fun c2 => ok_r ?_)
      · by_cases e : j = i
        · subst e; exact c2
        · exact ht j a (by omega)
      · rw [show fitB d (10 * t + s) = false from Bool.eq_false_iff.mpr (fun z => c2 (by have := (fitB_t.mp z).2.2 i h0 hi; rwa [em, ed] at this))]; rfl
  obtain ⟨r, h1, rfl⟩ := goal
  exact h1
/-- the twos so far -/
def GA (d : Nat → Int → Int) (σ : qS) (N : Nat) : Prop := FA d σ 10 0 ∧ σ 99 3 = zI (cn d N) ∧ ∀ w : Nat, w < N → fitB d w = true → σ 1 (cn d w) = zI w
theorem y_gather (hd : okd d) (σ : qS) : oK (fun s => GA d s 100) (f_X4_gather σ (eC d)) := by
  unfold f_X4_gather
  refine ok_cl (y_fadeAll hd σ) (fun σ1 hF => ok_bd ?_)
  rw [z_0]
  refine ok_forI (τ := qS) 10 (fun i t => GA d t (10 * i.toNat + 1)) (fun again i t h0 h1 ht ih => ?_) 20000 0 _ (by omega) (by omega) ⟨hF, ?_, fun w hw hf => ?_⟩ (by omega)
  · unfold b_X4_gather_12
    dsimp only
    rw [z_10, z_s1, z_1]
    refine ok_if (fun c => ok_r ?_) (fun c => ?_)
    · have := t_le h0 (by omega) (by omega) (by omega) c
      obtain rfl : i = 10 := by omega
      refine ⟨ht.1, ?_, fun w hw hf => ht.2.2 w (by show w < 10 * (10 : Int).toNat + 1; have : (10 : Int).toNat = 10 := rfl; omega) hf⟩
      have := ht.2.1
      rw [show 10 * (10 : Int).toNat + 1 = 101 from rfl, cn_101] at this
      exact this
    have hi := t_nle h0 (by omega) (by omega) (by omega) c
    refine ok_forI (τ := qS) 6 (fun j u => 1 ≤ j ∧ GA d u (10 * i.toNat + j.toNat)) (fun again2 j u h2 h3 hu ih2 => ?_) 20000 1 t (by omega) (by omega) ⟨by omega, ht⟩ (by omega)
    obtain ⟨j1, hu⟩ := hu
    have ct := (cn_ten (d := d) i.toNat).2 j.toNat (by omega) (by omega)
    unfold b_X4_gather_20
    dsimp only
    rw [z_5, z_s1, z_10, z_mul, z_add]
    by_cases cj : j < 6
    · rw [if_neg (by rw [z_lt (by omega) (by omega) (by omega) (by omega)]; omega), y_isSo hd hu.1 h0 (by omega) j1 (by omega), s_cl]
      simp only [fI_if]
      have ej : (j + 1).toNat = j.toNat + 1 := by omega
      have ew : ((10 * i.toNat + j.toNat : Nat) : Int) = 10 * i + j := by omega
      have e49 : (49 : Int32) = zI 49 := by decide
      by_cases cf : fitB d (10 * i + j) = true
      · have cf' : fitB d ((10 * i.toNat + j.toNat : Nat) : Int) = true := by rw [ew]; exact cf
        rw [if_neg (fun z => z cf), hu.2.1, z_0, e49, x_win (by omega) (by omega) (by omega) (by omega), s_cl, if_neg (by decide), s_wr (by omega) (by omega) (by omega), Int.toNat_natCast]
        refine ok_bd (ih2 cj _ ⟨by omega, fun t' s' a b p q z => hu.1 t' s' a b p q z, ?_, fun w hw hf => ?_⟩)
        · rw [ej, ← Nat.add_assoc, cn_fit cf', Int.natCast_add]
          show upd (u 99) 3 (u 99 3 + 1) 3 = _
          unfold upd
          rw [if_pos rfl, hu.2.1, z_s1]; rfl
        · show upd (u 1) (cn d (10 * i.toNat + j.toNat)) (zI (10 * i + j)) (cn d w) = zI w
          unfold upd
          by_cases e : w = 10 * i.toNat + j.toNat
          · subst e
            rw [if_pos rfl, ew]
          · rw [if_neg (fun z => e (cn_inj hf cf' z))]
            exact hu.2.2 w (by omega) hf
      · have cf' : ¬ fitB d ((10 * i.toNat + j.toNat : Nat) : Int) = true := by rw [ew]; exact cf
        rw [if_pos cf]
        refine ih2 cj _ ⟨by omega, hu.1, ?_, fun w hw hf => ?_⟩
        · rw [ej, ← Nat.add_assoc, cn_not cf']; exact hu.2.1
        · by_cases e : w = 10 * i.toNat + j.toNat
          · subst e; exact absurd hf cf'
          · exact hu.2.2 w (by omega) hf
    · obtain rfl : j = 6 := by omega
      rw [if_pos (by rw [z_lt (by omega) (by omega) (by omega) (by omega)]; omega)]
      refine ih hi _ ⟨hu.1, ?_, fun w hw hf => ?_⟩
      · rw [show (i + 1).toNat = i.toNat + 1 by omega, cn_skip]
        exact hu.2.1
      · by_cases e : w < 10 * i.toNat + 6
        · exact hu.2.2 w e hf
        · have hm := fit_mod hf
          have : (i + 1).toNat = i.toNat + 1 := by omega
          omega
  · show (upd (σ1 99) 3 0) 3 = zI (cn d 1)
    rw [cn_1]
    rfl
  · have hm := fit_mod hf
    have : (0 : Int).toNat = 0 := rfl
    omega
theorem y_pick {σ : qS} (hG : GA d σ 100) {w : Nat} (hw : w < 100) (hf : fitB d w = true) : f_X4_pick σ (zI (cn d w)) = some (zI w) := by
  have h5 := cn_50 (d := d)
  have h1 := cn_mono (d := d) (show w + 1 ≤ 100 by omega)
  rw [cn_fit hf] at h1
  have e49 : (49 : Int32) = zI 49 := by decide
  unfold f_X4_pick
  rw [z_0, e49, x_win (by omega) (by omega) (by omega) (by omega), s_cl, if_neg (by decide), hG.2.1, if_neg (by rw [z_le (by omega) (by omega) (by omega) (by omega)]; omega), s_rd (by omega) (by omega) (by omega), Int.toNat_natCast, hG.2.2 w hw hf]
theorem c_fits (hd : okd d) (σ : qS) (a : Int32) : ∃ r s, f_X6_fits σ (eC d) a = some (r, s) ∧ f_X7_fits (eC (pw m d)) τ a = some r := by
  obtain ⟨r2, e2, h2⟩ := ok_get (y_fits (m := m) (τ := τ) hd a)
  obtain ⟨s, e1, hG⟩ := ok_get (y_gather hd σ)
  have h5 := cn_50 (d := d)
  unfold f_X6_fits
  rw [e1, s_cl, e2]
  have es : f_X4_size s = some (s 99 3) := rfl
  have key : ∃ r1, (if a = (-1) then (q_cl (f_X4_size s) fun r_6 => some (r_6, s)) else q_cl (f_X4_pick s a) fun r_4 => some (r_4, s)) = some (r1, s) ∧ atF d a r1 := by
    by_cases ca : a = (-1)
    · rw [if_pos ca, es, s_cl, hG.2.1]
      refine ⟨_, rfl, Or.inr ⟨fun w hw hf z => ?_, by rw [if_pos ca]⟩⟩
      have h1 := cn_le (d := d) w
      rw [ca, show (-1 : Int32) = zI (-1) by decide, z_eq (by omega) (by omega) (by omega) (by omega)] at z
      omega
    · rw [if_neg ca]
      by_cases cw : ∃ w : Nat, w < 100 ∧ fitB d w = true ∧ a = zI (cn d w)
      · obtain ⟨w, k1, k2, k3⟩ := cw
        rw [k3, y_pick hG k1 k2, s_cl]
        exact ⟨_, rfl, Or.inl ⟨w, k1, k2, rfl, rfl⟩⟩
      · have hno : ∀ w : Nat, w < 100 → fitB d w = true → a ≠ zI (cn d w) := fun w k1 k2 k3 => cw ⟨w, k1, k2, k3⟩
        have hp : f_X4_pick s a = some (-6) := by
          obtain ⟨b, b0, b1, rfl⟩ := z_of a
          have e49 : (49 : Int32) = zI 49 := by decide
          unfold f_X4_pick
          rw [z_0, e49, x_within b0 b1 (by omega) (by omega) (by omega) (by omega), s_cl]
          by_cases c1 : 0 ≤ b ∧ b ≤ 49
          · rw [if_pos c1, if_neg (by decide), hG.2.1]
            by_cases c2 : b < cn d 100
            · obtain ⟨w, k1, k2, k3⟩ := cn_at (d := d) 100 b.toNat (by omega)
              exact absurd (show zI b = zI (cn d w) by rw [k3, Int.toNat_of_nonneg c1.1]) (hno w k1 k2)
            · rw [if_pos (by rw [z_le (by omega) (by omega) (by omega) (by omega)]; omega)]
          · rw [if_neg c1, if_pos rfl]
        rw [hp, s_cl]
        exact ⟨_, rfl, Or.inr ⟨hno, by rw [if_neg ca]⟩⟩
  obtain ⟨r1, k1, k2⟩ := key
  exact ⟨r1, s, k1, by rw [atF_un h2 k2]⟩
end FITS
end
section
/-! the bed to ask next: exactly -/
noncomputable def bdT (d : Nat → Int → Int) (b : Int) (w : Nat) : Int := itr d (b / ((w : Int) % 10)).toNat ((w : Int) / 10)
/-- how often a tale would be believed in a bed, the most of these -/
noncomputable def mlc (d : Nat → Int → Int) (b : Int) : Nat → Int → Int
  | 0, _ => 0
  | n + 1, x => if fitB d n = true ∧ x = bdT d b n then mlc d b n x + 1 else mlc d b n x
noncomputable def mlm (d : Nat → Int → Int) (b : Int) : Nat → Int
  | 0 => 0
  | n + 1 => if fitB d n = true then (if mlm d b n < mlc d b n (bdT d b n) + 1 then mlc d b n (bdT d b n) + 1 else mlm d b n) else mlm d b n
/-- the best bed of those below, and its most -/
noncomputable def ak (d : Nat → Int → Int) : Nat → Int × Int
  | 0 => (0, mlm d 0 100)
  | b + 1 => if mlm d (b + 1 : Nat) 100 < (ak d b).2 then ((b + 1 : Nat), mlm d (b + 1 : Nat) 100) else ak d b
section ASK
variable {d m : Nat → Int → Int} {τ : qL}
theorem mlc_b (b : Int) : ∀ (n : Nat) (x : Int), 0 ≤ mlc d b n x ∧ mlc d b n x ≤ n := by
  intro n
  induction n with
  | zero => intro x; exact ⟨Int.le_refl 0, Int.le_refl 0⟩
  | succ n ih =>
    intro x
    have := ih x
    unfold mlc
    split <;> omega
theorem mlm_b (b : Int) : ∀ n : Nat, 0 ≤ mlm d b n ∧ mlm d b n ≤ n := by
  intro n
  induction n with
  | zero => exact ⟨Int.le_refl 0, Int.le_refl 0⟩
  | succ n ih =>
    have := mlc_b (d := d) b n (bdT d b n)
    unfold mlm
    split
    · split <;> omega
    · omega
theorem ml_cn (b : Int) {a c : Nat} (h : a ≤ c) : cn d a = cn d c → (∀ x, mlc d b a x = mlc d b c x) ∧ mlm d b a = mlm d b c := by
  induction h with
  | refl => exact fun _ => ⟨fun _ => rfl, rfl⟩
  | @step c h ih =>
    intro e
    have hm := cn_mono (d := d) h
    have hf : ¬ fitB d c = true := fun z => by rw [cn_fit z] at e; omega
    rw [cn_not hf] at e
    obtain ⟨i1, i2⟩ := ih e
    refine ⟨fun x => ?_, ?_⟩
    · rw [i1 x]
      exact (if_neg (fun z => hf z.1)).symm
    · rw [i2]
      exact (if_neg hf).symm
theorem ml_cn' (b : Int) {a c : Nat} (h : cn d a = cn d c) : (∀ x, mlc d b a x = mlc d b c x) ∧ mlm d b a = mlm d b c := by
  rcases Nat.le_total a c with z | z
  · exact ml_cn b z h
  · obtain ⟨i1, i2⟩ := ml_cn b z h.symm
    exact ⟨fun x => (i1 x).symm, i2.symm⟩
theorem mlm_pos (b : Int) {n : Nat} (h : 0 < cn d n) : 1 ≤ mlm d b n := by
  induction n with
  | zero => exact absurd h (Nat.not_lt_zero _)
  | succ n ih =>
    have hb := mlc_b (d := d) b n (bdT d b n)
    unfold mlm
    by_cases c : fitB d n = true
    · rw [if_pos c]
      split <;> omega
    · rw [cn_not c] at h
      rw [if_neg c]
      exact ih h
theorem mlm_zero (b : Int) {n : Nat} (h : cn d n = 0) : mlm d b n = 0 := by
  have := (ml_cn' (d := d) b (a := n) (c := 0) h).2
  rw [this]; rfl
theorem bdT_b (hd : okd d) (b : Int) {w : Nat} (hw : w < 100) : 0 ≤ bdT d b w ∧ bdT d b w ≤ 9 := itr_b hd (by omega) (by omega) _
theorem mlc_fit (b : Int) {w : Nat} (hf : fitB d w = true) (x : Int) : mlc d b (w + 1) x = if x = bdT d b w then mlc d b w x + 1 else mlc d b w x := by
  show (if _ then _ else _) = _
  by_cases c : x = bdT d b w
  · rw [if_pos ⟨hf, c⟩, if_pos c]
  · rw [if_neg (fun z => c z.2), if_neg c]
theorem mlm_fit (b : Int) {w : Nat} (hf : fitB d w = true) : mlm d b (w + 1) = if mlm d b w < mlc d b w (bdT d b w) + 1 then mlc d b w (bdT d b w) + 1 else mlm d b w := if_pos hf
/-- the class -/
theorem y_mostLeft (hd : okd d) {σ : qS} (hG : GA d σ 100) {b : Int} (b0 : 0 ≤ b) (b1 : b ≤ 40) : oK (fun r => r.1 = zI (mlm d b 100) ∧ GA d r.2 100) (f_X4_mostLeft σ (zI b)) := by
  have h5 := cn_50 (d := d)
  unfold f_X4_mostLeft
  rw [x_fill (by decide), s_cl]
  refine ok_bd ?_
  rw [z_0]
  refine ok_forI (τ := Int32 × qS) (cn d 100) (fun i u => GA d u.2 100 ∧ ∃ N : Nat, N ≤ 100 ∧ cn d N = i.toNat ∧ u.1 = zI (mlm d b N) ∧ ∀ x, 0 ≤ x → x ≤ 9 → u.2 2 x.toNat = zI (mlc d b N x)) (fun again i u h0 h1 hu ih => ?_) 20000 0 _ (by omega) (by omega) ⟨⟨hG.1, hG.2.1, hG.2.2⟩, 0, by omega, rfl, rfl, fun x x0 x1 => ?_⟩ (by omega)
  · obtain ⟨u1, u2⟩ := u
    obtain ⟨hg, N, n0, n1, n2, n3⟩ := hu
    dsimp only at hg n2 n3
    subst n2
    unfold b_X4_mostLeft_12
    dsimp only
    simp only [hg.2.1]
    rw [z_s1]
    refine ok_if (fun c => ok_r ?_) (fun c => ?_)
    · have hh := t_le h0 (by omega) (by omega) (by omega) c
      have e : cn d N = cn d 100 := by omega
      rw [(ml_cn' (d := d) b e).2]
      exact ⟨rfl, hg⟩
    · have hi := t_nle h0 (by omega) (by omega) (by omega) c
      obtain ⟨w, w0, w1, w2⟩ := cn_at (d := d) 100 i.toNat (by omega)
      have ew : cn d N = cn d w := by omega
      obtain ⟨l1, l2⟩ := ml_cn' (d := d) b ew
      have hm := fit_mod w1
      have hb := bdT_b hd b w0
      have hc := mlc_b (d := d) b w (bdT d b w)
      have hq := mlm_b (d := d) b w
      have ei : zI i = zI (cn d w) := by rw [w2, Int.toNat_of_nonneg h0]
      have hbed := y_taleInBed hg.1 (t := (w : Int) / 10) (s := (w : Int) % 10) (b := b) (by omega) (by omega) (by omega) (by omega) b0 b1
      rw [ei, y_pick hg w0 w1, s_cl, ← ei, z_10, z_rem (by omega) (by omega) (by omega) (by omega), z_div (by omega) (by omega) (by omega) (by omega), hbed, s_cl]
      rw [show itr d (b / ((w : Int) % 10)).toNat ((w : Int) / 10) = bdT d b w from rfl, x_tal (by omega) (by omega), s_cl, if_neg (by decide), s_rd hb.1 (by omega) (by omega), n3 _ hb.1 hb.2, l1, l2, z_s1, s_wr hb.1 (by omega) (by omega), s_rd hb.1 (by omega) (by omega)]
      have er : (q_up u2 2 (upd (u2 2) (bdT d b w).toNat (zI (mlc d b w (bdT d b w) + 1)))) 2 (bdT d b w).toNat = zI (mlc d b w (bdT d b w) + 1) := by
        show upd (u2 2) (bdT d b w).toNat (zI (mlc d b w (bdT d b w) + 1)) (bdT d b w).toNat = _
        unfold upd
        rw [if_pos rfl]
      rw [er, s_bd]
      refine ih hi _ ⟨⟨hg.1, hg.2.1, hg.2.2⟩, w + 1, by omega, ?_, ?_, fun x x0 x1 => ?_⟩
      · rw [cn_fit w1]; omega
      · rw [mlm_fit b w1]
        dsimp only
        have e : (zI (mlm d b w) < zI (mlc d b w (bdT d b w) + 1)) ↔ (mlm d b w < mlc d b w (bdT d b w) + 1) := z_lt (by omega) (by omega) (by omega) (by omega)
        rw [← z_ite]
        by_cases q : mlm d b w < mlc d b w (bdT d b w) + 1
        · rw [if_pos q, if_pos (e.mpr q)]
        · rw [if_neg q, if_neg (fun y => q (e.mp y))]
      · rw [mlc_fit b w1]
        show upd (u2 2) (bdT d b w).toNat (zI (mlc d b w (bdT d b w) + 1)) x.toNat = _
        unfold upd
        by_cases e : x = bdT d b w
        · rw [if_pos (by rw [e]), if_pos e, e]
        · rw [if_neg (by omega), if_neg e, n3 x x0 x1, l1]
  · show (if x.toNat < 10 then zI 0 else σ 2 x.toNat) = zI 0
    rw [if_pos (by omega)]
theorem ak_b : ∀ b : Nat, b ≤ 40 → 0 ≤ (ak d b).1 ∧ (ak d b).1 ≤ b ∧ (ak d b).2 = mlm d (ak d b).1 100 := by
  intro b
  induction b with
  | zero => intro _; exact ⟨Int.le_refl 0, Int.le_refl 0, rfl⟩
  | succ b ih =>
    intro h
    have := ih (by omega)
    by_cases c : mlm d (b + 1 : Nat) 100 < (ak d b).2
    · have e : ak d (b + 1) = (((b + 1 : Nat) : Int), mlm d (b + 1 : Nat) 100) := if_pos c
      rw [e]
      exact ⟨by dsimp only; omega, by dsimp only; omega, rfl⟩
    · have e : ak d (b + 1) = ak d b := if_neg c
      rw [e]
      exact ⟨this.1, by omega, this.2.2⟩
theorem y_bedToAsk (hd : okd d) {σ : qS} (hG : GA d σ 100) : oK (fun r => r.1 = (if cn d 100 = 0 then zI (-6) else zI (ak d 40).1) ∧ GA d r.2 100) (f_X4_bedToAsk σ) := by
  have h5 := cn_50 (d := d)
  unfold f_X4_bedToAsk
  rw [hG.2.1, z_0]
  simp (disch := omega) only [z_eq]
  by_cases c0 : cn d 100 = 0
  · rw [if_pos (show ((cn d 100 : Nat) : Int) = 0 by omega)]
    exact ok_r ⟨by rw [if_pos c0]; exact (show (-6 : Int32) = zI (-6) by decide), hG⟩
  · rw [if_neg (show ¬ ((cn d 100 : Nat) : Int) = 0 by omega)]
    refine ok_cl (y_mostLeft hd hG (by omega) (by omega)) (fun y hy => ?_)
    rw [z_1]
    refine ok_forI (τ := qS × Int32 × Int32) 41 (fun i u => 1 ≤ i ∧ GA d u.1 100 ∧ u.2.1 = zI (ak d (i - 1).toNat).2 ∧ u.2.2 = zI (ak d (i - 1).toNat).1) (fun again i u h0 h1 hu ih => ?_) 20000 1 _ (by omega) (by omega) ⟨by omega, hy.2, hy.1, rfl⟩ (by omega)
    obtain ⟨u1, u2, u3⟩ := u
    obtain ⟨i1, hg, e2, e3⟩ := hu
    dsimp only at hg e2 e3
    subst e2 e3
    have e41 : (41 : Int32) = zI 41 := by decide
    unfold b_X4_bedToAsk_20
    dsimp only
    rw [e41, z_s1]
    refine ok_if (fun c => ok_r ?_) (fun c => ?_)
    · have hh := t_le h0 (by omega) (by omega) (by omega) c
      obtain rfl : i = 41 := by omega
      exact ⟨by rw [if_neg c0]; rfl, hg⟩
    · have hi := t_nle h0 (by omega) (by omega) (by omega) c
      refine ok_cl (y_mostLeft hd hg h0 (by omega)) (fun y hy => ?_)
      have hk := ak_b (d := d) (i - 1).toNat (by omega)
      have m1 := mlm_b (d := d) i 100
      have m2 := mlm_b (d := d) (ak d (i - 1).toNat).1 100
      have ei : (((i - 1).toNat + 1 : Nat) : Int) = i := by omega
      have en : (i + 1 - 1).toNat = (i - 1).toNat + 1 := by omega
      rw [hy.1]
      refine ok_ifE (z_le (by omega) (by omega) (by omega) (by omega)) (fun c2 => ?_) (fun c2 => ?_)
      · have e : ak d ((i - 1).toNat + 1) = ak d (i - 1).toNat := if_neg (by rw [ei]; omega)
        exact ih hi _ ⟨by omega, hy.2, by rw [en, e], by rw [en, e]⟩
      · have e : ak d ((i - 1).toNat + 1) = ((((i - 1).toNat + 1 : Nat) : Int), mlm d (((i - 1).toNat + 1 : Nat)) 100) := if_pos (by rw [ei]; omega)
        exact ih hi _ ⟨by omega, hy.2, by rw [en, e, ei], by rw [en, e, ei]⟩
/-- the reference -/
theorem s_wrM {β : Type} (m d : Nat → Int → Int) {b : Int} (b0 : 0 ≤ b) (b1 : b < 10) (v : Int) (K : qS → Option β) : q_wr (eC (pw m d)) 26 10 (zI b) (zI v) K = K (eC (pw (ud m 26 b v) d)) := by
  rw [s_wr b0 (by omega) (by omega), eC_up _ _ b0, up_26]
theorem y_mostLeftM (hd : okd d) {m' : Nat → Int → Int} (hs : scr m m') {b : Int} (b0 : 0 ≤ b) (b1 : b ≤ 40) : oK (fun r => r.1 = zI (mlm d b 100) ∧ msc m d r.2) (f_X7_mostLeft (eC (pw m' d)) τ (zI b)) := by
  unfold f_X7_mostLeft
  rw [z_0]
  refine ok_forI (τ := qS) 10 (fun i t => ∃ m', t = eC (pw m' d) ∧ scr m m' ∧ ∀ x, 0 ≤ x → x < i → m' 26 x = 0) (fun again i t h0 h1 ht ih => ?_) 20000 0 _ (by omega) (by omega) ⟨m', rfl, hs, fun x _ _ => by omega⟩ (by omega)
  obtain ⟨m1, rfl, hs1, hz⟩ := ht
  unfold b_X7_mostLeft_4
  dsimp only
  rw [z_s1, z_10, z_0]
  by_cases ci : i < 10
  · rw [if_neg (c_nle ci h0 (by omega)), s_wrM _ _ h0 ci]
    refine ih ci _ ⟨_, rfl, scr_tr hs1 (scr_ud (by decide)), fun x x0 x1 => ?_⟩
    by_cases e : x = i
    · rw [e, ud_same]
    · rw [ud_ne _ _ (Or.inr e)]; exact hz x x0 (by omega)
  · obtain rfl : i = 10 := by omega
    rw [if_pos (c_le (by omega) (by omega) (by omega))]
    refine ok_forI (τ := qS × Int32) 100 (fun i t => ∃ m', t.1 = eC (pw m' d) ∧ scr m m' ∧ (∀ x, 0 ≤ x → x ≤ 9 → m' 26 x = mlc d b i.toNat x) ∧ t.2 = zI (mlm d b i.toNat)) (fun again i t h0 h1 ht ih => ?_) 20000 0 _ (by omega) (by omega) ⟨m1, rfl, hs1, fun x x0 x1 => hz x x0 (by omega), rfl⟩ (by omega)
    obtain ⟨t1, t2⟩ := t
    obtain ⟨m2, e1, hs2, hx, e2⟩ := ht
    dsimp only at e1 e2
    subst e1 e2
    unfold b_X7_mostLeft_25
    dsimp only
    rw [z_s1, z_100, z_10, z_rem h0 (by omega) (by omega) (by omega), z_div h0 (by omega) (by omega) (by omega)]
    by_cases c : i < 100
    · rw [if_neg (c_nle c h0 (by omega)), y_isFit hd h0 c, s_cl]
      simp only [fI_if]
      have ei : ((i.toNat : Nat) : Int) = i := Int.toNat_of_nonneg h0
      have en : (i + 1).toNat = i.toNat + 1 := by omega
      by_cases cf : fitB d i = true
      · have cf' : fitB d (i.toNat : Nat) = true := by rw [ei]; exact cf
        have hm := fit_mod cf
        have q0 : 0 ≤ b / (i % 10) := Int.ediv_nonneg b0 (by omega)
        have q1 : b / (i % 10) ≤ b := Int.ediv_le_self _ b0
        have eb : itr d (b / (i % 10)).toNat (i / 10) = bdT d b i.toNat := by unfold bdT; rw [ei]
        have hb := bdT_b hd b (w := i.toNat) (by omega)
        have hc := mlc_b (d := d) b i.toNat (bdT d b i.toNat)
        have hq := mlm_b (d := d) b i.toNat
        rw [if_neg (fun z => z cf), s_nz (by omega) (by omega) (by omega), z_div b0 (by omega) (by omega) (by omega), m_fadedBy m2 hd τ (by omega) (by omega) q0 (by omega), s_cl, eb, s_rd hb.1 (by omega) (by omega), eC_at _ _ hb.1, pw_26, hx _ hb.1 hb.2, z_s1, s_wrM _ _ hb.1 (by omega), s_rd hb.1 (by omega) (by omega), eC_at _ _ hb.1, pw_26, ud_same, s_rd hb.1 (by omega) (by omega), eC_at _ _ hb.1, pw_26, ud_same]
        simp (disch := omega) only [z_le]
        have hrow : ∀ x, 0 ≤ x → x ≤ 9 → ud m2 26 (bdT d b i.toNat) (mlc d b i.toNat (bdT d b i.toNat) + 1) 26 x = mlc d b (i + 1).toNat x := fun x x0 x1 => by
          rw [en, mlc_fit b cf']
          by_cases e : x = bdT d b i.toNat
          · rw [e, ud_same, if_pos rfl]
          · rw [ud_ne _ _ (Or.inr e), if_neg e]; exact hx x x0 x1
        refine ok_if (fun c2 => ih c _ ⟨_, rfl, scr_tr hs2 (scr_ud (by decide)), hrow, ?_⟩) (fun c2 => ih c _ ⟨_, rfl, scr_tr hs2 (scr_ud (by decide)), hrow, ?_⟩)
        · rw [en, mlm_fit b cf', if_neg (by omega)]
        · rw [en, mlm_fit b cf', if_pos (by omega)]
      · have cf' : ¬ fitB d (i.toNat : Nat) = true := by rw [ei]; exact cf
        rw [if_pos cf]
        have hl := ml_cn (d := d) b (a := i.toNat) (c := (i + 1).toNat) (by omega) (by rw [en, cn_not cf'])
        exact ih c _ ⟨m2, rfl, hs2, fun x x0 x1 => by rw [← hl.1 x]; exact hx x x0 x1, by rw [← hl.2]⟩
    · obtain rfl : i = 100 := by omega
      rw [if_pos (c_le (by omega) (by omega) (by omega))]
      exact ok_r ⟨rfl, m2, rfl, hs2⟩
/-- what ask answers -/
noncomputable def akV (d : Nat → Int → Int) (w : Int32) : Int32 := if cn d 100 = 0 then zI (-6) else if w = zI 0 then zI (ak d 40).1 else zI (ak d 40).2
theorem y_askM (hd : okd d) {w : Int} (w0 : 0 ≤ w) (w1 : w ≤ 1) : oK (fun r => r.1 = akV d (zI w) ∧ msc m d r.2) (f_X7_ask (eC (pw m d)) τ (zI w)) := by
  unfold f_X7_ask
  rw [zl_0, zl_1, z_l (by omega) (by omega), m_inT (by omega) (by omega) (by omega) (by omega), s_cl, if_neg (by decide), z_0]
  refine ok_cl (y_mostLeftM (m := m) (τ := τ) hd (scr_rf m) (by omega) (by omega)) (fun y hy => ?_)
  rw [z_1]
  refine ok_forI (τ := qS × Int32 × Int32) 41 (fun i u => 1 ≤ i ∧ msc m d u.1 ∧ u.2.1 = zI (ak d (i - 1).toNat).2 ∧ u.2.2 = zI (ak d (i - 1).toNat).1) (fun again i u h0 h1 hu ih => ?_) 20000 1 _ (by omega) (by omega) ⟨by omega, hy.2, hy.1, rfl⟩ (by omega)
  obtain ⟨u1, u2, u3⟩ := u
  obtain ⟨i1, hg, e2, e3⟩ := hu
  dsimp only at hg e2 e3
  subst e2 e3
  unfold b_X7_ask_24
  dsimp only
  have hk := ak_b (d := d) (i - 1).toNat (by omega)
  have m1 := mlm_b (d := d) i 100
  have m2 := mlm_b (d := d) (ak d (i - 1).toNat).1 100
  rw [z_40, z_s1]
  refine ok_ifE (z_lt (by omega) (by omega) (by omega) (by omega)) (fun c => ?_) (fun c => ?_)
  · obtain rfl : i = 41 := by omega
    have e40 : ((41 : Int) - 1).toNat = 40 := rfl
    rw [e40] at hk m2 ⊢
    simp (disch := omega) only [z_eq]
    unfold akV
    by_cases c0 : cn d 100 = 0
    · have := mlm_zero (d := d) (ak d 40).1 c0
      rw [if_pos (show (ak d 40).2 = 0 by omega), if_pos c0]
      exact ok_r ⟨(show (-6 : Int32) = zI (-6) by decide), hg⟩
    · have := mlm_pos (d := d) (ak d 40).1 (n := 100) (by omega)
      rw [if_neg (show ¬ (ak d 40).2 = 0 by omega), if_neg c0]
      exact ok_if (fun c3 => ok_r ⟨by rw [if_pos (by rw [c3])], hg⟩) (fun c3 => ok_r ⟨by rw [if_neg (by rw [z_eq (by omega) (by omega) (by omega) (by omega)]; exact c3)], hg⟩)
  · obtain ⟨m', rfl, hs⟩ := hg
    refine ok_cl (y_mostLeftM (m := m) (τ := τ) hd hs h0 (by omega)) (fun y hy => ?_)
    have ei : (((i - 1).toNat + 1 : Nat) : Int) = i := by omega
    have en : (i + 1 - 1).toNat = (i - 1).toNat + 1 := by omega
    have hi : i < 41 := by omega
    rw [hy.1]
    simp (disch := omega) only [z_le]
    by_cases c2 : (ak d (i - 1).toNat).2 ≤ mlm d i 100
    · rw [if_pos c2, if_pos c2]
      have e : ak d ((i - 1).toNat + 1) = ak d (i - 1).toNat := if_neg (by rw [ei]; omega)
      exact ih hi _ ⟨by omega, hy.2, by rw [en, e], by rw [en, e]⟩
    · rw [if_neg c2, if_neg c2]
      have e : ak d ((i - 1).toNat + 1) = ((((i - 1).toNat + 1 : Nat) : Int), mlm d (((i - 1).toNat + 1 : Nat)) 100) := if_pos (by rw [ei]; omega)
      exact ih hi _ ⟨by omega, hy.2, by rw [en, e, ei], by rw [en, e, ei]⟩
theorem c_ask (hd : okd d) (σ : qS) (w : Int32) : ∃ r s m', f_X6_ask σ (eC d) w = some (r, s) ∧ f_X7_ask (eC (pw m d)) τ w = some (r, eC (pw m' d)) ∧ frN m m' := by
  obtain ⟨w, w0, w1, rfl⟩ := z_of w
  by_cases cw : 0 ≤ w ∧ w ≤ 1
  · obtain ⟨⟨r2, σ2⟩, e2, h2, m', e3, hs⟩ := ok_get (y_askM (m := m) (τ := τ) hd cw.1 cw.2)
    dsimp only at h2 e3
    subst h2 e3
    have hk := ak_b (d := d) 40 (by omega)
    have m2 := mlm_b (d := d) (ak d 40).1 100
    have key : oK (fun r => r.1 = akV d (zI w)) (f_X6_ask σ (eC d) (zI w)) := by
      unfold f_X6_ask
      rw [z_0, z_1, x_win (by omega) (by omega) (by omega) (by omega), s_cl, if_neg (by decide)]
      refine ok_cl (y_gather hd σ) (fun s hG => ok_cl (y_bedToAsk hd hG) (fun y hy => ?_))
      unfold akV
      have e6 : (-6 : Int32) = zI (-6) := by decide
      refine ok_if (fun c => ok_r ?_) (fun c => ?_)
      · rw [hy.1]
        by_cases c0 : cn d 100 = 0
        · rw [if_pos c0, if_pos c0]
        · rw [if_neg c0, if_neg c0, if_pos c]
      · rw [hy.1, e6]
        by_cases c0 : cn d 100 = 0
        · simp only [if_pos c0, eq_self, s_T]
          exact ok_r rfl
        · simp only [if_neg c0]
          rw [if_neg c, if_neg (by rw [z_eq (by omega) (by omega) (by omega) (by omega)]; omega)]
          exact ok_cl (y_mostLeft hd hy.2 hk.1 (by omega)) (fun z hz => ok_r (by dsimp only; rw [hz.1, hk.2.2]))
    obtain ⟨⟨r1, s1⟩, e1, h1⟩ := key
    dsimp only at h1
    subst h1
    exact ⟨_, s1, m', e1, e2, frN_scr hs⟩
  · unfold f_X6_ask f_X7_ask
    rw [z_0, z_1, x_within w0 w1 (by omega) (by omega) (by omega) (by omega), s_cl, zl_0, zl_1, z_l w0 w1, m_in (by omega) (by omega) (by omega) (by omega) (by omega) (by omega), s_cl, if_neg cw, if_pos rfl, if_pos rfl]
    exact ⟨_, σ, m, rfl, rfl, frN_rf m⟩
end ASK
end
section
/-! embers: exactly -/
def tkL : List Nat := [0, 1, 2, 3, 1, 5, 1, 2, 8, 1, 2, 3, 1, 13, 1, 2, 3, 1, 5, 1, 2, 21, 1, 2, 3, 1, 5, 1, 2, 8, 1, 2, 3, 1, 34, 1, 2, 3, 1, 5, 1, 2, 8, 1, 2, 3, 1, 13, 1, 2, 3, 1, 5, 1, 2, 55, 1, 2, 3, 1, 5]
/-- what is to be taken of so many, were any number free -/
def tk (e : Nat) : Nat := tkL.getD e 0
theorem tk_all : ∀ e, e < 61 → 1 ≤ e → (1 ≤ tk e ∧ tk e ≤ e ∧ (∀ t, t < tk e → 1 ≤ t → tk (e - t) ≤ 2 * t) ∧ (tk e = e ∨ 2 * tk e < tk (e - tk e))) := by decide +kernel
theorem ok_dn {β τ : Type} {Q : β → Prop} {body : (Int32 × τ → Option β) → (Int32 × τ → Option β) → Int32 × τ → Option β} {k : Int32 × τ → Option β} (lo : Int) (P : Int → τ → Prop)
    (h : ∀ (again : Int32 × τ → Option β) (i : Int) (t : τ), lo ≤ i → P i t → (lo < i → ∀ t', P (i - 1) t' → oK Q (again (zI (i - 1), t'))) → oK Q (body k again (zI i, t))) :
    ∀ (N : Nat) (i : Int) (t : τ), lo ≤ i → P i t → (i - lo).toNat < N → oK Q (q_lp body k N (zI i, t)) := by
  intro N
  induction N with
  | zero => intro i t _ _ hN; omega
  | succ N ih =>
    intro i t h0 hp hN
    rw [lp_s]
    exact h _ i t h0 hp (fun hl t' ht' => ih (i - 1) t' (by omega) ht' (by omega))
/-- how many he takes first -/
def emV (n : Nat) : Int := if tk n < n then tk n else -6
section EMB
variable {d m : Nat → Int → Int} {τ κ : qL}
theorem y_leastTake {σ : qS} {e : Nat} (e0 : 1 ≤ e) (e1 : e ≤ 60) (hσ : ∀ j : Nat, 1 ≤ j → j < e → σ 2 j = zI (tk j)) : f_X0_leastTake σ κ (zI e) = some (zI (tk e)) := by
  obtain ⟨k1, k2, k3, k4⟩ := tk_all e (by omega) e0
  have key : oK (fun r => r = zI (tk e)) (f_X0_leastTake σ κ (zI e)) := by
    unfold f_X0_leastTake
    rw [z_1]
    refine ok_forI1 (tk e) (fun s => 1 ≤ s) (fun again s h0 h1 hs ih => ?_) 20000 1 (by omega) (by omega) (by omega) (by omega)
    unfold b_X0_leastTake_2
    rw [z_s1, z_sub, s_bd]
    refine ok_ifE (z_le (by omega) (by omega) (by omega) (by omega)) (fun c => ok_r ?_) (fun c => ?_)
    · exact congrArg zI (show (e : Int) = ((tk e : Nat) : Int) by omega)
    · have er : ((e - s.toNat : Nat) : Int) = (e : Int) - s := by omega
      rw [z_1, z_60, x_win (by omega) (by omega) (by omega) (by omega), s_cl, if_neg (by decide), s_rd (by omega) (by omega) (by omega), ← er, Int.toNat_natCast, hσ _ (by omega) (by omega), z_2, z_mul]
      have kr := (tk_all (e - s.toNat) (by omega) (by omega)).2.1
      refine ok_ifE (z_le (by omega) (by omega) (by omega) (by omega)) (fun c2 => ih ?_ (by omega)) (fun c2 => ok_r ?_)
      · by_cases z : s < tk e
        · exact z
        · have es : s.toNat = tk e := by omega
          rw [es] at c2
          rcases k4 with k4 | k4 <;> omega
      · by_cases z : s < tk e
        · have := k3 s.toNat (by omega) (by omega)
          omega
        · rw [show s = tk e by omega]
  obtain ⟨r, h1, rfl⟩ := key
  exact h1
theorem y_firstTake (σ : qS) {n : Nat} (n0 : 1 ≤ n) (n1 : n ≤ 60) : oK (fun r => r.1 = zI (emV n)) (f_X0_firstTake σ κ (zI n)) := by
  obtain ⟨k1, k2, k3, k4⟩ := tk_all n (by omega) n0
  unfold f_X0_firstTake
  rw [z_1, z_60, x_win (by omega) (by omega) (by omega) (by omega), s_cl, if_neg (by decide)]
  refine ok_forI (τ := qS) (n + 1) (fun s u => 1 ≤ s ∧ ∀ j : Nat, 1 ≤ j → (j : Int) < s → u 2 j = zI (tk j)) (fun again s u h0 h1 hu ih => ?_) 20000 1 σ (by omega) (by omega) ⟨by omega, fun j a b => by omega⟩ (by omega)
  obtain ⟨s1, hu⟩ := hu
  unfold b_X0_firstTake_15
  dsimp only
  rw [z_s1]
  refine ok_ifE (z_lt (by omega) (by omega) (by omega) (by omega)) (fun c => ?_) (fun c => ?_)
  · rw [s_rd (by omega) (by omega) (by omega), Int.toNat_natCast, hu n n0 (by omega), s_rd (by omega) (by omega) (by omega), Int.toNat_natCast, hu n n0 (by omega)]
    simp (disch := omega) only [z_le]
    unfold emV
    refine ok_if (fun c2 => ok_r ?_) (fun c2 => ok_r ?_)
    · rw [if_neg (by omega)]; exact (show (-6 : Int32) = zI (-6) by decide)
    · rw [if_pos (by omega)]
  · have es : ((s.toNat : Nat) : Int) = s := Int.toNat_of_nonneg h0
    have hl := y_leastTake (κ := κ) (σ := u) (e := s.toNat) (by omega) (by omega) (fun j a b => hu j a (by omega))
    rw [es] at hl
    rw [hl, s_cl, s_wr h0 (by omega) (by omega)]
    refine ih (by omega) _ ⟨by omega, fun j a b => ?_⟩
    show upd (u 2) s.toNat (zI (tk s.toNat)) j = zI (tk j)
    unfold upd
    by_cases e : j = s.toNat
    · rw [if_pos e, e]
    · rw [if_neg e]; exact hu j a (by omega)
/-- the reference's table -/
def wn (l o : Nat) : Int := if 1 ≤ l ∧ tk l ≤ o then 1 else 0
def wnr (m : Nat → Int → Int) (l : Int) : Prop := ∀ a o : Nat, (a : Int) < l → o ≤ a → m 29 (61 * (a : Int) + o) = wn a o
theorem y_winsBy {m' : Nat → Int → Int} {l t : Nat} (t0 : 1 ≤ t) (t1 : t ≤ l) (l1 : l ≤ 60) (hw : wnr m' l) : f_X7_winsBy (eC (pw m' d)) τ (zI l) (zI t) = some (if t = l ∨ 2 * t < tk (l - t) then 1 else 0) := by
  have e61 : (61 : Int32) = zI 61 := by decide
  have er : (l : Int) - t = ((l - t : Nat) : Int) := by omega
  unfold f_X7_winsBy
  simp only [s_bd]
  rw [z_sub, z_2, z_mul, e61, z_mul, z_add, z_add, er]
  simp (disch := omega) only [z_le, z_eq]
  by_cases c0 : t = l
  · have hq : (t : Int) = l := by omega
    simp only [if_pos hq]
    rw [if_pos (Or.inl c0)]
    split <;> rfl
  · have hq : ¬ (t : Int) = l := by omega
    simp only [if_neg hq]
    have z10 : ¬ zI 1 = (0 : Int32) := by decide
    obtain ⟨k1, k2, -, -⟩ := tk_all (l - t) (by omega) (by omega)
    by_cases c : ((l - t : Nat) : Int) ≤ 2 * t
    · have ew : wn (l - t) (l - t) = 1 := if_pos ⟨by omega, k2⟩
      have hW : ¬ (t = l ∨ 2 * t < tk (l - t)) := by omega
      rw [if_pos c, s_rd (by omega) (by omega) (by omega), eC_at _ _ (by omega), pw_29, hw (l - t) (l - t) (by omega) (Nat.le_refl _), ew, if_neg z10, if_neg hW]
    · have hh := hw (l - t) (2 * t) (by omega) (by omega)
      rw [Int.natCast_mul] at hh
      rw [if_neg c, s_rd (by omega) (by omega) (by omega), eC_at _ _ (by omega), pw_29, show (61 * ((l - t : Nat) : Int) + 2 * (t : Int)) = 61 * ((l - t : Nat) : Int) + ((2 : Nat) : Int) * (t : Int) from rfl, hh]
      by_cases c2 : tk (l - t) ≤ 2 * t
      · have ew : wn (l - t) (2 * t) = 1 := if_pos ⟨by omega, c2⟩
        have hW : ¬ (t = l ∨ 2 * t < tk (l - t)) := by omega
        rw [ew, if_neg z10, if_neg hW]
      · have ew : wn (l - t) (2 * t) = 0 := if_neg (by omega)
        have hW : (t = l ∨ 2 * t < tk (l - t)) := by omega
        rw [ew, if_pos (show zI 0 = (0 : Int32) by decide), if_pos hW]
theorem s_wrB {β : Type} (m d : Nat → Int → Int) {b : Int} (b0 : 0 ≤ b) (b1 : b < 3721) {v : Int} (hv : v = 0 ∨ v = 1) (K : qS → Option β) : q_wrZ (eC (pw m d)) 29 3721 (zI b) (zI v) K = K (eC (pw (ud m 29 b v) d)) := by
  have e : vp_nar .boolean (zI v) = zI v := by rcases hv with rfl | rfl <;> rfl
  rw [s_wrZ b0 (by omega) (by omega), e, eC_up _ _ b0, up_29]
theorem y_findWins {n : Nat} (n0 : 1 ≤ n) (n1 : n ≤ 60) : oK (fun σ => ∃ m', σ = eC (pw m' d) ∧ scr m m' ∧ wnr m' (n + 1)) (f_X7_findWins (eC (pw m d)) τ (zI n)) := by
  have e61 : (61 : Int32) = zI 61 := by decide
  unfold f_X7_findWins
  rw [z_0]
  refine ok_forI (τ := qS) (n + 1) (fun l u => ∃ m', u = eC (pw m' d) ∧ scr m m' ∧ wnr m' l) (fun again l u h0 h1 hu ih => ?_) 20000 0 _ (by omega) (by omega) ⟨m, rfl, scr_rf m, fun a o h _ => by omega⟩ (by omega)
  obtain ⟨m1, rfl, hs1, hw1⟩ := hu
  unfold b_X7_findWins_2
  dsimp only
  rw [z_s1, e61, z_mul, z_0, z_1]
  refine ok_ifE (z_lt (by omega) (by omega) (by omega) (by omega)) (fun c => ok_r ?_) (fun c => ?_)
  · obtain rfl : l = n + 1 := by omega
    exact ⟨m1, rfl, hs1, hw1⟩
  · have el : ((l.toNat : Nat) : Int) = l := Int.toNat_of_nonneg h0
    rw [s_wrB _ _ (by omega) (by omega) (Or.inl rfl)]
    refine ok_forI (τ := qS) (l + 1) (fun o u => 1 ≤ o ∧ ∃ m', u = eC (pw m' d) ∧ scr m m' ∧ wnr m' l ∧ ∀ q : Nat, (q : Int) < o → m' 29 (61 * l + q) = wn l.toNat q) (fun again2 o u h2 h3 hu ih2 => ?_) 20000 1 _ (by omega) (by omega) ⟨by omega, _, rfl, scr_tr hs1 (scr_ud (by decide)), fun a o h z => ?_, fun q hq => ?_⟩ (by omega)
    · obtain ⟨o1, m2, rfl, hs2, hw2, hq2⟩ := hu
      unfold b_X7_findWins_19
      dsimp only
      rw [z_s1, e61, z_mul, z_add, z_1, z_sub]
      refine ok_ifE (z_lt (by omega) (by omega) (by omega) (by omega)) (fun c3 => ih (by omega) _ ⟨m2, rfl, hs2, fun a q h z => ?_⟩) (fun c3 => ?_)
      · by_cases e : (a : Int) < l
        · exact hw2 a q e z
        · have ea : a = l.toNat := by omega
          subst ea
          rw [el]
          exact hq2 q (by omega)
      · obtain ⟨k1, k2, k3, k4⟩ := tk_all l.toNat (by omega) (by omega)
        have eo : ((o.toNat : Nat) : Int) = o := Int.toNat_of_nonneg h2
        have hprev := hq2 (o.toNat - 1) (by omega)
        have hwb := y_winsBy (d := d) (τ := τ) (m' := m2) (l := l.toNat) (t := o.toNat) (by omega) (by omega) (by omega) (by rw [el]; exact hw2)
        rw [el, eo] at hwb
        rw [s_rd (by omega) (by omega) (by omega), eC_at _ _ (by omega), pw_29, show 61 * l + o - 1 = 61 * l + ((o.toNat - 1 : Nat) : Int) by omega, hprev, hwb, s_cl]
        -- the new row
        have new : ∀ v : Int, (v = 0 ∨ v = 1) → v = wn l.toNat o.toNat → oK (fun σ => ∃ m', σ = eC (pw m' d) ∧ scr m m' ∧ wnr m' (n + 1)) (q_wrZ (eC (pw m2 d)) 29 3721 (zI (61 * l + o)) (zI v) fun σM_18 => again2 (zI (o + 1), σM_18)) := fun v hv ev => by
          rw [s_wrB _ _ (by omega) (by omega) hv]
          refine ih2 (by omega) _ ⟨by omega, _, rfl, scr_tr hs2 (scr_ud (by decide)), fun a q h z => ?_, fun q hq => ?_⟩
          · rw [ud_ne _ _ (by omega)]; exact hw2 a q h z
          · by_cases e : q = o.toNat
            · subst e
              rw [eo, ud_same, ev]
            · rw [ud_ne _ _ (by omega)]; exact hq2 q (by omega)
        have e1 : (1 : Int32) = zI 1 := z_1
        have e0 : (0 : Int32) = zI 0 := z_0
        by_cases cp : tk l.toNat ≤ o.toNat - 1
        · have ew : wn l.toNat (o.toNat - 1) = 1 := if_pos ⟨by omega, cp⟩
          rw [ew, if_neg (by decide)]
          exact new 1 (Or.inr rfl) (by unfold wn; rw [if_pos ⟨by omega, by omega⟩])
        · have ew : wn l.toNat (o.toNat - 1) = 0 := if_neg (by omega)
          rw [ew, if_pos (by decide)]
          by_cases cq : tk l.toNat = o.toNat
          · have hW : o.toNat = l.toNat ∨ 2 * o.toNat < tk (l.toNat - o.toNat) := by rw [← cq]; rcases k4 with z | z <;> omega
            rw [if_pos hW, if_neg (by decide)]
            exact new 1 (Or.inr rfl) (by unfold wn; rw [if_pos ⟨by omega, by omega⟩])
          · have := k3 o.toNat (by omega) (by omega)
            have hW : ¬ (o.toNat = l.toNat ∨ 2 * o.toNat < tk (l.toNat - o.toNat)) := by omega
            rw [if_neg hW, if_pos rfl, e0]
            exact new 0 (Or.inl rfl) (by unfold wn; rw [if_neg (by omega)])
    · rw [ud_ne _ _ (by omega)]; exact hw1 a o h z
    · have : q = 0 := by omega
      subst this
      show ud m1 29 (61 * l) 0 29 (61 * l + 0) = _
      rw [Int.add_zero, ud_same]
      unfold wn
      by_cases c4 : 1 ≤ l.toNat
      · have := (tk_all l.toNat (by omega) c4).1
        rw [if_neg (by omega)]
      · rw [if_neg (by omega)]
/-- the answer -/
def emA (n : Nat) (w : Int32) : Int32 := if w = zI 1 then zI (emV n) else if emV n = -6 then zI 0 else zI 1
theorem emV_b (n : Nat) (n1 : n ≤ 60) : -6 ≤ emV n ∧ emV n < 100 := by unfold emV; split <;> omega
theorem emV_6 {n : Nat} : emV n = -6 ∨ 0 ≤ emV n := by unfold emV; split <;> omega
theorem y_embers (σ : qS) {n : Nat} (n0 : 1 ≤ n) (n1 : n ≤ 60) {w : Int} (w0 : 0 ≤ w) (w1 : w ≤ 1) : oK (fun r => r.1 = emA n (zI w)) (f_X6_embers σ κ (zI n) (zI w)) := by
  have hb := emV_b n n1
  have e6 : (-6 : Int32) = zI (-6) := by decide
  unfold f_X6_embers emA
  rw [z_0, z_1, z_60, x_win (by omega) (by omega) (by omega) (by omega), x_win (by omega) (by omega) (by omega) (by omega), s_cl, s_cl, if_neg n10, if_neg n10]
  refine ok_cl (y_firstTake σ n0 n1) (fun y hy => ?_)
  rw [hy, e6]
  refine ok_if (fun c => ok_r ?_) (fun c => ok_ifE (z_eq (a := emV n) (by omega) (by omega) (by omega) (by omega)) (fun c2 => ok_r ?_) (fun c2 => ok_r ?_))
  · rw [if_pos c]
  · rw [if_neg c, if_pos c2]
  · rw [if_neg c, if_neg c2]
theorem y_embersM {n : Nat} (n0 : 1 ≤ n) (n1 : n ≤ 60) {w : Int} (w0 : 0 ≤ w) (w1 : w ≤ 1) : oK (fun r => r.1 = emA n (zI w) ∧ msc m d r.2) (f_X7_embers (eC (pw m d)) τ (zI n) (zI w)) := by
  obtain ⟨k1, k2, k3, k4⟩ := tk_all n (by omega) n0
  have hb := emV_b n n1
  have h6 := emV_6 (n := n)
  unfold f_X7_embers
  have e60 : (60 : Int64) = zL 60 := zl_60
  rw [zl_0, zl_1, e60, z_l (by omega) (by omega), z_l (by omega) (by omega), m_inT (by omega) (by omega) (by omega) (by omega), m_inT (by omega) (by omega) (by omega) (by omega), s_cl, s_cl, if_neg (by decide), if_neg (by decide)]
  refine ok_cl (y_findWins (m := m) (τ := τ) n0 n1) (fun u hu => ?_)
  obtain ⟨m1, rfl, hs1, hw1⟩ := hu
  rw [z_1, z_sub, s_bd]
  refine ok_dn (τ := Int32) 0 (fun s f => s < n ∧ (tk n = n → f = zI (-6)) ∧ (tk n < n → s < tk n → f = zI (tk n))) (fun again s f h0 hp ih => ?_) 20000 _ _ (by omega) ⟨by omega, fun _ => by decide, fun a b => by omega⟩ (by omega)
  obtain ⟨p1, p2, p3⟩ := hp
  unfold b_X7_embers_38
  dsimp only
  have em : (-1 : Int32) = zI (-1) := by decide
  rw [em, z_add, z_0]
  refine ok_ifE (z_le (by omega) (by omega) (by omega) (by omega)) (fun c => ?_) (fun c => ?_)
  · have ef : f = zI (emV n) := by
      unfold emV
      by_cases e : tk n < n
      · rw [if_pos e]; exact p3 e (by omega)
      · rw [if_neg e]; exact p2 (by omega)
    subst ef
    unfold emA
    refine ok_if (fun c => ok_r ⟨by rw [if_pos c], m1, rfl, hs1⟩) (fun c => ok_ifE (z_le (by omega) (by omega) (by omega) (by omega)) (fun c2 => ok_r ⟨?_, m1, rfl, hs1⟩) (fun c2 => ok_r ⟨?_, m1, rfl, hs1⟩))
    · rw [if_neg c, if_neg (by omega)]
    · rw [if_neg c, if_pos (by omega)]
  · have es : ((s.toNat : Nat) : Int) = s := Int.toNat_of_nonneg h0
    have hwb := y_winsBy (d := d) (τ := τ) (m' := m1) (l := n) (t := s.toNat) (by omega) (by omega) n1 (fun a o h z => hw1 a o (by omega) z)
    rw [es] at hwb
    rw [hwb, s_cl, show s + -1 = s - 1 by omega]
    by_cases cW : s.toNat = n ∨ 2 * s.toNat < tk (n - s.toNat)
    · rw [if_pos cW, if_neg (by decide)]
      refine ih (by omega) _ ⟨by omega, fun z => ?_, fun a b => ?_⟩
      · have := k3 s.toNat (by omega) (by omega)
        omega
      · by_cases e : s = tk n
        · rw [e]
        · have := k3 s.toNat (by omega) (by omega)
          omega
    · rw [if_neg cW, ← z_0, if_pos rfl]
      refine ih (by omega) _ ⟨by omega, p2, fun a b => ?_⟩
      by_cases e : s = tk n
      · have e2 : s.toNat = tk n := by omega
        rw [e2] at cW
        rcases k4 with z | z <;> omega
      · exact p3 a (by omega)
theorem c_embers (σ : qS) (a w : Int32) : ∃ r s m', f_X6_embers σ κ a w = some (r, s) ∧ f_X7_embers (eC (pw m d)) τ a w = some (r, eC (pw m' d)) ∧ frN m m' := by
  obtain ⟨a, a0, a1, rfl⟩ := z_of a
  obtain ⟨w, w0, w1, rfl⟩ := z_of w
  by_cases ca : 1 ≤ a ∧ a ≤ 60
  · by_cases cw : 0 ≤ w ∧ w ≤ 1
    · have ea : a = ((a.toNat : Nat) : Int) := by omega
      rw [ea]
      obtain ⟨⟨r1, s1⟩, e1, h1⟩ := y_embers (κ := κ) σ (n := a.toNat) (by omega) (by omega) cw.1 cw.2
      obtain ⟨⟨r2, s2⟩, e2, h2, m', e3, hs⟩ := y_embersM (m := m) (d := d) (τ := τ) (n := a.toNat) (by omega) (by omega) cw.1 cw.2
      dsimp only at h1 h2 e3
      subst h1 h2 e3
      exact ⟨_, s1, m', e1, e2, frN_scr hs⟩
    · unfold f_X6_embers f_X7_embers
      rw [z_0, z_1, z_60, zl_0, zl_1, zl_60, z_l a0 a1, z_l w0 w1, x_within a0 a1 (by omega) (by omega) (by omega) (by omega), x_within w0 w1 (by omega) (by omega) (by omega) (by omega), m_in (by omega) (by omega) (by omega) (by omega) (by omega) (by omega), m_in (by omega) (by omega) (by omega) (by omega) (by omega) (by omega), s_cl, s_cl, s_cl, s_cl, if_pos ca, if_neg n10, if_neg n10, if_neg cw, if_pos rfl, if_pos rfl]
      exact ⟨_, σ, m, rfl, rfl, frN_rf m⟩
  · unfold f_X6_embers f_X7_embers
    rw [z_0, z_1, z_60, zl_0, zl_1, zl_60, z_l a0 a1, z_l w0 w1, x_within a0 a1 (by omega) (by omega) (by omega) (by omega), m_in (by omega) (by omega) (by omega) (by omega) (by omega) (by omega), s_cl, s_cl, if_neg ca, if_pos rfl, if_pos rfl]
    exact ⟨_, σ, m, rfl, rfl, frN_rf m⟩
end EMB
end

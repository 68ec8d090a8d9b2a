/-! pure functions that bytecode is lifted to: none where an index, a divisor, a boolean is out of its range, or the fuel is out -/
abbrev qS : Type := Nat → Nat → Int32
abbrev qL : Type := Nat → Nat → Int64
def q_up (σ : qS) (k : Nat) (f : Nat → Int32) : qS := fun j => bif Nat.beq j k then f else σ j
def q_upL (σ : qL) (k : Nat) (f : Nat → Int64) : qL := fun j => bif Nat.beq j k then f else σ j
abbrev q_pt (σ : qS) (k : Nat) (x : Int32) : qS := q_up σ 99 (upd (σ 99) k x)
def q_bd {α β : Type} (x : α) (k : α → Option β) : Option β := k x
def q_cl {α β : Type} (x : Option α) (k : α → Option β) : Option β := match x with
  | some a => k a
  | none => none
def q_chk {β : Type} (b : Bool) (x : Option β) : Option β := bif b then x else none
def q_inb (i : Int32) (n : Nat) : Bool := decide (¬ (i < 0 ∨ n ≤ i.toNatClampNeg))
def q_rd {β : Type} (σ : qS) (k n : Nat) (i : Int32) (K : Int32 → Option β) : Option β := q_chk (q_inb i n) (K (σ k i.toNatClampNeg))
def q_rdL {β : Type} (σ : qL) (k n : Nat) (i : Int32) (K : Int64 → Option β) : Option β := q_chk (q_inb i n) (K (σ k i.toNatClampNeg))
def q_wr {β : Type} (σ : qS) (k n : Nat) (i x : Int32) (K : qS → Option β) : Option β := q_chk (q_inb i n) (K (q_up σ k (upd (σ k) i.toNatClampNeg x)))
def q_wrZ {β : Type} (σ : qS) (k n : Nat) (i x : Int32) (K : qS → Option β) : Option β := q_chk (q_inb i n) (K (q_up σ k (upd (σ k) i.toNatClampNeg (vp_nar .boolean x))))
def q_wrL {β : Type} (σ : qL) (k n : Nat) (i : Int32) (x : Int64) (K : qL → Option β) : Option β := q_chk (q_inb i n) (K (q_upL σ k (vp_updL (σ k) i.toNatClampNeg x)))
def q_nz {β : Type} (y : Int32) (x : Option β) : Option β := if y = 0 then none else x
def q_nzL {β : Type} (y : Int64) (x : Option β) : Option β := if y = 0 then none else x
def q_isB (v : Int32) : Bool := v == 0 || v == 1
def q_lp {σ R : Type} (body : (σ → Option R) → (σ → Option R) → σ → Option R) (k : σ → Option R) : Nat → σ → Option R
  | 0, _ => none
  | n + 1, s => body k (q_lp body k n) s
section QB
variable {α β : Type} {r : β}
theorem q_bd_s {x : α} {k : α → Option β} (h : q_bd x k = some r) : ∃ v, x = v ∧ k v = some r := ⟨x, rfl, h⟩
theorem q_cl_s {x : Option α} {k : α → Option β} (h : q_cl x k = some r) : ∃ a, x = some a ∧ k a = some r := by
  cases x with
  | none => cases h
  | some a => exact ⟨a, rfl, h⟩
theorem q_chk_s {b : Bool} {x : Option β} (h : q_chk b x = some r) : b = true ∧ x = some r := by
  cases b with
  | false => cases h
  | true => exact ⟨rfl, h⟩
theorem q_inb_in {i : Int32} {n : Nat} (h : q_inb i n = true) : vp_in i n := of_decide_eq_true (p := ¬ (i < 0 ∨ n ≤ i.toNatClampNeg)) h
theorem q_rd_s {σ : qS} {k n : Nat} {i : Int32} {K : Int32 → Option β} (h : q_rd σ k n i K = some r) : ∃ v, vp_in i n ∧ σ k i.toNatClampNeg = v ∧ K v = some r := by
  obtain ⟨h1, h2⟩ := q_chk_s h
  exact ⟨_, q_inb_in h1, rfl, h2⟩
theorem q_rdL_s {σ : qL} {k n : Nat} {i : Int32} {K : Int64 → Option β} (h : q_rdL σ k n i K = some r) : ∃ v, vp_in i n ∧ σ k i.toNatClampNeg = v ∧ K v = some r := by
  obtain ⟨h1, h2⟩ := q_chk_s h
  exact ⟨_, q_inb_in h1, rfl, h2⟩
theorem q_wr_s {σ : qS} {k n : Nat} {i x : Int32} {K : qS → Option β} (h : q_wr σ k n i x K = some r) : ∃ v, vp_in i n ∧ q_up σ k (upd (σ k) i.toNatClampNeg x) = v ∧ K v = some r := by
  obtain ⟨h1, h2⟩ := q_chk_s h
  exact ⟨_, q_inb_in h1, rfl, h2⟩
theorem q_wrZ_s {σ : qS} {k n : Nat} {i x : Int32} {K : qS → Option β} (h : q_wrZ σ k n i x K = some r) : ∃ v, vp_in i n ∧ q_up σ k (upd (σ k) i.toNatClampNeg (vp_nar .boolean x)) = v ∧ K v = some r := by
  obtain ⟨h1, h2⟩ := q_chk_s h
  exact ⟨_, q_inb_in h1, rfl, h2⟩
theorem q_wrL_s {σ : qL} {k n : Nat} {i : Int32} {x : Int64} {K : qL → Option β} (h : q_wrL σ k n i x K = some r) : ∃ v, vp_in i n ∧ q_upL σ k (vp_updL (σ k) i.toNatClampNeg x) = v ∧ K v = some r := by
  obtain ⟨h1, h2⟩ := q_chk_s h
  exact ⟨_, q_inb_in h1, rfl, h2⟩
theorem q_nz_s {y : Int32} {x : Option β} (h : q_nz y x = some r) : ¬ y = 0 ∧ x = some r := by
  unfold q_nz at h
  by_cases z : y = 0
  · rw [if_pos z] at h; cases h
  · rw [if_neg z] at h; exact ⟨z, h⟩
theorem q_nzL_s {y : Int64} {x : Option β} (h : q_nzL y x = some r) : ¬ y = 0 ∧ x = some r := by
  unfold q_nzL at h
  by_cases z : y = 0
  · rw [if_pos z] at h; cases h
  · rw [if_neg z] at h; exact ⟨z, h⟩
theorem q_if_t {c : Prop} [Decidable c] {a b : Option β} (hc : c) (h : (if c then a else b) = some r) : a = some r := by rwa [if_pos hc] at h
theorem q_if_f {c : Prop} [Decidable c] {a b : Option β} (hc : ¬ c) (h : (if c then a else b) = some r) : b = some r := by rwa [if_neg hc] at h
theorem q_isB_nar {v : Int32} (h : q_isB v = true) : narrow .boolean (.int v) = .int v := by
  unfold q_isB at h
  rw [Bool.or_eq_true, beq_iff_eq, beq_iff_eq] at h
  rcases h with rfl | rfl <;> decide
end QB
/-- a new Close -/
def qC0 : qS := fun k => bif Nat.beq k 99 then (fun k => if k = 8 then 10 else 0) else bif Nat.beq k 1 then (fun _ => 5) else bif Nat.beq k 3 then (fun _ => (-6)) else bif Nat.beq k 4 then (fun j => nI j) else (fun _ => 0)

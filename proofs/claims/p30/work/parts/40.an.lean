def bi (s : Int32) (i : Int) : Bool := s.toBitVec.getLsbD i.toNat
theorem sm32 : ∀ k : Nat, k < 32 → ((nI k).toBitVec.smod (32 : BitVec 32)).toNat = k := by decide
theorem nI31 : ∀ k : Nat, k < 32 → nI k &&& 31 = nI k := by decide
theorem sr_bit (s : Int32) {k : Nat} (hk : k < 32) : (((s >>> (nI k)) &&& 1) = 1) ↔ s.toBitVec.getLsbD k = true := by
  rw [← Int32.toBitVec_inj, Int32.toBitVec_and, Int32.toBitVec_shiftRight]
  show (s.toBitVec.sshiftRight ((nI k).toBitVec.smod (32 : BitVec 32)).toNat &&& 1#32 = 1#32) ↔ _
  rw [sm32 k hk, BitVec.and_one_eq_setWidth_ofBool_getLsbD, BitVec.getLsbD_sshiftRight, if_pos (show k + 0 < 32 by omega), Nat.add_zero]
  cases s.toBitVec.getLsbD k <;> decide
theorem zI_toNat {i : Int} (h0 : 0 ≤ i) : zI i = nI i.toNat := by rw [z_n, Int.toNat_of_nonneg h0]
theorem t_bit (s : Int32) {i : Int} (h0 : 0 ≤ i) (h1 : i < 32) : ((((s >>> (zI i &&& 31)) &&& 1) = 1) = (bi s i = true)) := by
  rw [zI_toNat h0, nI31 _ (by omega)]
  exact propext (sr_bit s (by omega))
theorem x_isInB (s : Int32) {i : Int} (h0 : 0 ≤ i) (h1 : i < 32) : f_X6_isIn (zI i) s = some (if bi s i = true then 1 else 0) := by
  unfold f_X6_isIn
  simp only [t_bit s h0 h1, s_ite]
theorem bi_or (a b : Int32) (i : Int) : bi (a ||| b) i = (bi a i || bi b i) := by
  unfold bi
  rw [Int32.toBitVec_or, BitVec.getLsbD_or]
theorem bi_and (a b : Int32) (i : Int) : bi (a &&& b) i = (bi a i && bi b i) := by
  unfold bi
  rw [Int32.toBitVec_and, BitVec.getLsbD_and]
theorem bi_not (a : Int32) {i : Int} (h1 : i < 32) : bi (a ^^^ (-1)) i = !bi a i := by
  unfold bi
  rw [Int32.toBitVec_xor, BitVec.getLsbD_xor]
  have e : (-1 : Int32).toBitVec = BitVec.allOnes 32 := by decide
  rw [e, BitVec.getLsbD_allOnes, decide_eq_true (show i.toNat < 32 by omega)]
  cases a.toBitVec.getLsbD i.toNat <;> rfl
theorem one_32 : ∀ j : Nat, j < 32 → ∀ i : Nat, i < 32 → ((1 : Int32) <<< (nI j &&& 31)).toBitVec.getLsbD i = decide (i = j) := by decide +kernel
theorem bi_one {i j : Int} (h0 : 0 ≤ i) (h1 : i < 32) (h2 : 0 ≤ j) (h3 : j < 32) : bi ((1 : Int32) <<< (zI j &&& 31)) i = decide (i = j) := by
  unfold bi
  rw [zI_toNat h2, one_32 _ (by omega) _ (by omega)]
  by_cases c : i = j
  · rw [decide_eq_true c, decide_eq_true (by omega)]
  · rw [decide_eq_false c, decide_eq_false (by omega)]
theorem bi_z0 (i : Int) : bi 0 i = false := by
  unfold bi
  show (0#32).getLsbD i.toNat = false
  exact BitVec.getLsbD_zero
theorem bi_z {s : Int} (h0 : 0 ≤ s) (h1 : s < 4294967296) {i : Int} (h2 : 0 ≤ i) : bi (zI s) i = s.toNat.testBit i.toNat := by
  unfold bi
  have e : (zI s).toBitVec = BitVec.ofNat 32 s.toNat := by
    rw [zI_toNat h0]; rfl
  rw [e, BitVec.getLsbD_ofNat]
  by_cases c : i.toNat < 32
  · rw [decide_eq_true c]; rfl
  · rw [decide_eq_false c, Nat.testBit_lt_two_pow (Nat.lt_of_lt_of_le (show s.toNat < 2 ^ 32 by omega) (Nat.pow_le_pow_right (by decide) (by omega)))]; rfl
/-- a loop that counts up, with an invariant of the count -/
theorem ok_forI {β τ : Type} {Q : β → Prop} {body : (Int32 × τ → Option β) → (Int32 × τ → Option β) → Int32 × τ → Option β} {k : Int32 × τ → Option β} (hi : Int) (P : Int → τ → Prop)
    (h : ∀ (again : Int32 × τ → Option β) (i : Int) (t : τ), 0 ≤ i → i ≤ hi → P i t → (i < hi → ∀ t', P (i + 1) t' → oK Q (again (zI (i + 1), t'))) → oK Q (body k again (zI i, t))) :
    ∀ (N : Nat) (i : Int) (t : τ), 0 ≤ i → i ≤ hi → P i t → (hi - i).toNat < N → oK Q (q_lp body k N (zI i, t)) := by
  intro N
  induction N with
  | zero => intro i t _ _ _ hN; omega
  | succ N ih =>
    intro i t h0 h1 hp hN
    rw [lp_s]
    exact h _ i t h0 h1 hp (fun hl t' ht' => ih (i + 1) t' (by omega) (by omega) ht' (by omega))
theorem ok_forI1 {β : Type} {Q : β → Prop} {body : (Int32 → Option β) → (Int32 → Option β) → Int32 → Option β} {k : Int32 → Option β} (hi : Int) (P : Int → Prop)
    (h : ∀ (again : Int32 → Option β) (i : Int), 0 ≤ i → i ≤ hi → P i → (i < hi → P (i + 1) → oK Q (again (zI (i + 1)))) → oK Q (body k again (zI i))) :
    ∀ (N : Nat) (i : Int), 0 ≤ i → i ≤ hi → P i → (hi - i).toNat < N → oK Q (q_lp body k N (zI i)) := by
  intro N
  induction N with
  | zero => intro i _ _ _ hN; omega
  | succ N ih =>
    intro i h0 h1 hp hN
    rw [lp_s]
    exact h _ i h0 h1 hp (fun hl hp' => ih (i + 1) (by omega) (by omega) hp' (by omega))
theorem ok_ifE {β : Type} {Q : β → Prop} {c c' : Prop} [Decidable c] {a b : Option β} (h : c ↔ c') (h1 : c' → oK Q a) (h2 : ¬ c' → oK Q b) : oK Q (if c then a else b) := ok_if (fun z => h1 (h.mp z)) (fun z => h2 (fun y => z (h.mpr y)))
theorem ok_get {β : Type} {Q : β → Prop} {x : Option β} (h : oK Q x) : ∃ r, x = some r ∧ Q r := h
theorem x_win {x a b : Int} (h1 : a ≤ x) (h2 : x ≤ b) (h3 : -2147483648 ≤ a) (h4 : b < 2147483648) : f_X6_within (zI x) (zI a) (zI b) = some (zI 1) := by
  rw [x_within (by omega) (by omega) (by omega) (by omega) (by omega) (by omega), if_pos ⟨h1, h2⟩]
theorem x_tal {x : Int} (h1 : 0 ≤ x) (h2 : x ≤ 9) : f_X6_isTale (zI x) = some (zI 1) := by
  rw [x_isTale (by omega) (by omega), if_pos ⟨h1, h2⟩]
theorem x_hou {x : Int} (h1 : 0 ≤ x) (h2 : x ≤ 9) : f_X6_isHouse (zI x) = some (zI 1) := by
  rw [x_isHouse (by omega) (by omega), if_pos ⟨h1, h2⟩]
theorem x_pla {x : Int} (h1 : 0 ≤ x) (h2 : x ≤ 10) : f_X6_isPlace (zI x) = some (zI 1) := by
  rw [x_isPlace (by omega) (by omega), if_pos ⟨h1, h2⟩]
/-- a boolean's number -/
def fI (b : Bool) : Int32 := bif b then 1 else 0
theorem fI_if {b : Bool} : fI b = 0 ↔ ¬ b = true := by cases b <;> decide

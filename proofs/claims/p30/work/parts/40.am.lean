theorem n10 : ¬ zI 1 = zI 0 := by decide
section YREX
variable {d f m : Nat → Int → Int} {τ : qL}
def onz (x : Int32) : Int32 := match f_J6_bitCount_0f7a4 x with
  | some r => r
  | none => 0
theorem onz_32 : ∀ a : Nat, a < 32 → ∀ b : Nat, b < 32 → (f_J6_bitCount_0f7a4 (nI (32 * a + b)) = some (onz (nI (32 * a + b))) ∧ True ∧ 0 ≤ (onz (nI (32 * a + b))).toInt ∧ (onz (nI (32 * a + b))).toInt ≤ 10) := by decide +kernel
theorem onz_of {s : Int} (h0 : 0 ≤ s) (h1 : s < 1024) : f_J6_bitCount_0f7a4 (zI s) = some (onz (zI s)) ∧ True ∧ 0 ≤ (onz (zI s)).toInt ∧ (onz (zI s)).toInt ≤ 10 := by
  have k := onz_32 (s.toNat / 32) (by omega) (s.toNat % 32) (by omega)
  have e : nI (32 * (s.toNat / 32) + s.toNat % 32) = zI s := by
    rw [z_n]
    congr 1
    omega
  rwa [e] at k
end YREX


section ENDS
variable {m d f : Nat → Int → Int} {τ : qL}
/-- in range of round -/
def rin (h w : Int32) : Prop := (0 ≤ h.toInt ∧ h.toInt ≤ 99) ∧ 0 ≤ w.toInt ∧ w.toInt ≤ 1
end ENDS


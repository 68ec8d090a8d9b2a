theorem sg_in {e : Nat → Int → Int} {a : Int} (h0 : 0 ≤ a) (h1 : a < e 99 1) : sg e a = e 0 a := by unfold sg; rw [if_pos ⟨h0, h1⟩]

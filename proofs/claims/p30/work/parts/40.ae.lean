theorem actd_c {d : Nat → Int → Int} {k w v w' v' : Int} (h0 : k = 0 → w = w' ∧ v = v') (h1 : k = 1 → w = w') : actd d k w v = actd d k w' v' := by
  unfold actd
  split
  · next e => obtain ⟨rfl, rfl⟩ := h0 e; rfl
  · split
    · next e => obtain rfl := h1 e; rfl
    · rfl

def itr (d : Nat → Int → Int) : Nat → Int → Int
  | 0, t => t
  | n + 1, t => d 4 (itr d n t)
theorem itr_b {d} (hd : okd d) {t : Int} (t0 : 0 ≤ t) (t1 : t ≤ 9) : ∀ n, 0 ≤ itr d n t ∧ itr d n t ≤ 9 := by
  intro n
  induction n with
  | zero => exact ⟨t0, t1⟩
  | succ n ih => exact okd_4 hd ih.1 (by omega)

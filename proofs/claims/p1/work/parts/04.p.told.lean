/-! plain facts on what is told -/
theorem tdA {x : Int32} {v : Nat} (e : x = nI v) (h1 : 1000 ≤ v) (h2 : v < 1220) : toldF x = tdR v := by
  subst e
  unfold toldF
  rw [if_neg (show ¬ nI v = 0 from fun z => absurd ((nI_eq (a := v) (b := 0) (by omega) (by decide)).mp z) (by omega)), if_neg (bF (by rw [inB_nIk (a := 1) (N := 5) (by decide) (by decide) (by omega)]; exact decide_eq_false (by omega))),
    if_neg (show ¬ nI v = 5 from fun z => absurd ((nI_eq (a := v) (b := 5) (by omega) (by decide)).mp z) (by omega)), if_neg (bF (by rw [inB_nIk (a := 10) (N := 20) (by decide) (by decide) (by omega)]; exact decide_eq_false (by omega))),
    if_neg (bF (by rw [inB_nIk (a := 100) (N := 200) (by decide) (by decide) (by omega)]; exact decide_eq_false (by omega))), if_pos (by rw [inB_nIk (a := 1000) (N := 1220) (by decide) (by decide) (by omega)]; exact decide_eq_true (by omega)), nI_clamp (by omega)]
theorem tdB {x : Int32} {v : Nat} (e : x = nI v) (h1 : 100 ≤ v) (h2 : v < 200) : toldF x = tdH v := by
  subst e
  unfold toldF
  rw [if_neg (show ¬ nI v = 0 from fun z => absurd ((nI_eq (a := v) (b := 0) (by omega) (by decide)).mp z) (by omega)), if_neg (bF (by rw [inB_nIk (a := 1) (N := 5) (by decide) (by decide) (by omega)]; exact decide_eq_false (by omega))),
    if_neg (show ¬ nI v = 5 from fun z => absurd ((nI_eq (a := v) (b := 5) (by omega) (by decide)).mp z) (by omega)), if_neg (bF (by rw [inB_nIk (a := 10) (N := 20) (by decide) (by decide) (by omega)]; exact decide_eq_false (by omega))),
    if_pos (by rw [inB_nIk (a := 100) (N := 200) (by decide) (by decide) (by omega)]; exact decide_eq_true (by omega)), nI_clamp (by omega)]
theorem td_o {v : Nat} (h : v % 10 ≤ 2) : ohF (nI (v % 10)) = tdH v := by
  unfold ohF tdH
  by_cases h0 : v % 10 = 0
  · rw [if_pos (show nI (v % 10) = 0 by rw [h0]; rfl), if_pos h, if_pos h0]
  · have k0 : ¬ nI (v % 10) = 0 := fun z => h0 ((nI_eq (b := 0) (by omega) (by decide)).mp z)
    rw [if_neg k0, if_pos h, if_neg h0]
    by_cases h1 : v % 10 = 1
    · rw [if_pos (show nI (v % 10) = 1 by rw [h1]; rfl), if_pos h1]
    · have k1 : ¬ nI (v % 10) = 1 := fun z => h1 ((nI_eq (b := 1) (by omega) (by decide)).mp z)
      rw [if_neg k1, if_neg h1]
theorem tdC {x : Int32} {v : Nat} (e : x = nI v) (h1 : 10 ≤ v) (h2 : v < 20) : nI (v - 10) = toldF x := by
  subst e
  have k : ∀ v, v < 20 → 10 ≤ v → nI (v - 10) = toldF (nI v) := by decide +kernel
  exact k v h2 h1
theorem tdD {x : Int32} (a : inB x 1000 1219 = false) (b : inB x 100 199 = false) (c : inB x 10 19 = false) (k0 : ¬ x = 0) (k1 : ¬ x = 1) (k2 : ¬ x = 2) (k3 : ¬ x = 3) (k4 : ¬ x = 4) (k5 : ¬ x = 5) : (-2 : Int32) = toldF x := by
  have n : ¬ inB x 1 4 = true := by
    intro z
    obtain ⟨j, h1, h2, rfl⟩ := inB1_nat (N := 5) (by decide) z
    have a1 : j ≠ 1 := fun z => k1 (by rw [z]; rfl)
    have a2 : j ≠ 2 := fun z => k2 (by rw [z]; rfl)
    have a3 : j ≠ 3 := fun z => k3 (by rw [z]; rfl)
    have a4 : j ≠ 4 := fun z => k4 (by rw [z]; rfl)
    omega
  unfold toldF
  rw [if_neg k0, if_neg n, if_neg k5, if_neg (bF c), if_neg (bF b), if_neg (bF a)]
theorem lg_self (x : Int64) : lg_cmp x x = 0 := by
  unfold lg_cmp
  rw [if_neg (Int64.lt_irrefl (a := x)), if_pos rfl]
theorem sc_len {L : Nat} (h : L < 7) : (Int32.ofNat L) - 7 < 0 := by
  have k : ∀ L, L < 7 → (Int32.ofNat L) - 7 < 0 := by decide
  exact k L h

def dz : Nat → Int → Int := fun k i => if k = 99 then (if i = 8 then 10 else 0) else if k = 1 then 5 else if k = 3 then -6 else if k = 4 then i else 0
theorem dz_ok : okd dz := by
  intro k i
  unfold dz lod hid
  by_cases h99 : k = 99
  · subst h99
    simp only [if_pos, if_neg, show ¬ (99 = 0) by decide, show ¬ (99 = 1) by decide, show ¬ (99 = 2) by decide, show ¬ (99 = 3) by decide, show ¬ (99 = 4) by decide, show ¬ (99 = 5) by decide, show ¬ (99 = 6) by decide, if_false, if_true]
    split
    · next e => subst e; simp only [show ¬ ((8 : Int) = 7) by decide, if_false, if_true]; omega
    · split
      · omega
      · split
        · omega
        · split <;> omega
  · by_cases h1 : k = 1
    · subst h1; simp only [if_true, show ¬ (1 = 99) by decide, show ¬ (1 = 0) by decide, show ¬ (1 = 3) by decide, show ¬ (1 = 4) by decide, if_false]; omega
    · by_cases h3 : k = 3
      · subst h3; simp only [if_true, show ¬ (3 = 99) by decide, show ¬ (3 = 0) by decide, show ¬ (3 = 1) by decide, show ¬ (3 = 2) by decide, show ¬ (3 = 4) by decide, if_false]; omega
      · by_cases h4 : k = 4
        · subst h4; simp only [if_true, show ¬ (4 = 99) by decide, show ¬ (4 = 0) by decide, show ¬ (4 = 1) by decide, show ¬ (4 = 2) by decide, show ¬ (4 = 3) by decide, if_false]
          split <;> split <;> omega
        · simp only [h99, h1, h3, h4, if_false]
          by_cases h0 : k = 0
          · simp only [h0, if_true]; omega
          · by_cases h2 : k = 2
            · subst h2; simp only [if_true, h0, if_false]; omega
            · by_cases h5 : k = 5
              · subst h5; simp only [if_true, h0, h2, if_false]; omega
              · by_cases h6 : k = 6
                · subst h6; simp only [if_true, h0, h2, h5, if_false]; omega
                · simp only [h0, h2, h5, h6, if_false]; omega
theorem qC0_dz : qC0 = eC dz := by
  funext k j
  unfold qC0 eC dz
  by_cases h99 : k = 99
  · subst h99
    show (if j = 8 then (10 : Int32) else 0) = zI (if 99 = 99 then (if (j : Int) = 8 then 10 else 0) else _)
    rw [if_pos rfl]
    by_cases h : j = 8
    · rw [if_pos h, if_pos (by omega)]; decide
    · rw [if_neg h, if_neg (by omega)]; decide
  · have e : ∀ n, k ≠ n → Nat.beq k n = false := fun n h => by
      cases z : Nat.beq k n with
      | false => rfl
      | true => exact absurd (Nat.eq_of_beq_eq_true z) h
    rw [e 99 h99, cond_false, if_neg h99]
    by_cases h1 : k = 1
    · subst h1; rw [if_pos rfl]; exact z_5
    · rw [e 1 h1, cond_false, if_neg h1]
      by_cases h3 : k = 3
      · subst h3; rw [if_pos rfl]; show (-6 : Int32) = zI (-6); decide
      · rw [e 3 h3, cond_false, if_neg h3]
        by_cases h4 : k = 4
        · subst h4; rw [if_pos rfl]; exact z_n j
        · rw [e 4 h4, cond_false, if_neg h4]; exact z_0
def zz : Nat → Int → Int := fun _ _ => 0
theorem okp_zz : okp zz := ⟨fun _ => ⟨Int.le_refl 0, by show (0 : Int) ≤ 126; decide⟩, Int.le_refl 0, by show (0 : Int) ≤ 60; decide⟩
def qZ0 : qS := fun _ _ => 0
theorem qZ0_z : qZ0 = eC zz := by
  funext k j
  exact z_0

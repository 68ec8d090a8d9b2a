/-! images 0 and 1, and none, as the law calls them -/
section IMS
variable (m d : Nat → Int → Int) (τ : qL)
theorem m_image_i0 : ∃ m', f_X7_image (eC (pw m d)) τ 0 = some (zI 1, eC (pw m' d)) ∧ imgR m' (200 * 0) d ∧ m' 31 0 = 1 ∧ frI 0 m m' := by
  rw [z_0]
  exact m_image m d τ (Int.le_refl 0) (by decide)
theorem m_image_i1 : ∃ m', f_X7_image (eC (pw m d)) τ 1 = some (zI 1, eC (pw m' d)) ∧ imgR m' (200 * 1) d ∧ m' 31 1 = 1 ∧ frI 1 m m' := by
  rw [z_1]
  exact m_image m d τ (by decide) (Int.le_refl 1)
theorem m_restore_i0 (h31 : m 31 0 = 1) {g : Nat → Int → Int} (hg : imgR m (200 * 0) g) (hd : rng dz d) (hgz : rng dz g) : ∃ m', f_X7_restore (eC (pw m d)) τ 0 = some (zI 1, eC (pw m' g)) ∧ (∀ x b, (x = 99 ∧ (b = 32 ∨ b = 33)) ∨ m' x b = m x b) := by
  rw [z_0]
  exact m_restore m d τ (Int.le_refl 0) (by decide) h31 hg hd hgz
theorem m_restore_i1 (h31 : m 31 1 = 1) {g : Nat → Int → Int} (hg : imgR m (200 * 1) g) (hd : rng dz d) (hgz : rng dz g) : ∃ m', f_X7_restore (eC (pw m d)) τ 1 = some (zI 1, eC (pw m' g)) ∧ (∀ x b, (x = 99 ∧ (b = 32 ∨ b = 33)) ∨ m' x b = m x b) := by
  rw [z_1]
  exact m_restore m d τ (by decide) (Int.le_refl 1) h31 hg hd hgz
theorem m_restore_n0 (h31 : m 31 0 = 0) : f_X7_restore (eC (pw m d)) τ 0 = some (zI (-3), eC (pw m d)) := by
  rw [z_0]
  exact m_restore_n m d τ (Int.le_refl 0) (by decide) h31
theorem m_restore_n1 (h31 : m 31 1 = 0) : f_X7_restore (eC (pw m d)) τ 1 = some (zI (-3), eC (pw m d)) := by
  rw [z_1]
  exact m_restore_n m d τ (by decide) (Int.le_refl 1) h31
theorem not_01 {a : Int} (h0 : ¬ zI a = 0) (h1 : ¬ zI a = 1) : ¬ (0 ≤ a ∧ a ≤ 1) := by
  intro h
  rcases (show a = 0 ∨ a = 1 by omega) with e | e
  · subst e; exact h0 (by decide)
  · subst e; exact h1 (by decide)
theorem c_image_x {v : Int32} (h0 : ¬ v = 0) (h1 : ¬ v = 1) : f_X6_image_x v = some (zI (-2)) ∧ f_X7_image (eC (pw m d)) τ v = some (zI (-2), eC (pw m d)) := by
  obtain ⟨a, a0, a1, rfl⟩ := z_of v
  exact ⟨x_image_x a0 a1 (not_01 h0 h1), m_image_x m d τ a0 a1 (not_01 h0 h1)⟩
theorem c_restore_x {v : Int32} (h0 : ¬ v = 0) (h1 : ¬ v = 1) : f_X6_restore_x v = some (zI (-2)) ∧ f_X7_restore (eC (pw m d)) τ v = some (zI (-2), eC (pw m d)) := by
  obtain ⟨a, a0, a1, rfl⟩ := z_of v
  exact ⟨x_restore_x a0 a1 (not_01 h0 h1), m_restore_x m d τ a0 a1 (not_01 h0 h1)⟩
end IMS

/-! the law, from a new object -/
theorem rwI_dz (step : Int) : rwI dz step 0 := by
  refine ⟨dz_ok, rfl, rfl, fun k _ _ => rfl, rfl, fun q p q0 q1 p0 p1 => ⟨fun z => ?_, fun _ => rfl⟩, fun i i0 i1 => ⟨?_, rfl, rfl⟩⟩
  · exfalso
    have := z.2
    unfold edg at this
    split at this
    · omega
    · split at this <;> omega
  · rw [if_neg (by omega)]; rfl
theorem law_8 {L : Nat} (hL : L ≤ 260) (xs : Nat → Int32) (σW σY σK : qS) (ℓK : qL) : g_8 L xs (eC dz) (eC dz) (eC zz) (eC zz) σW σY σK ℓK = some 1 := by
  obtain ⟨r, h1, h2⟩ := t_8 (xs := xs) (n := zz) (σW := σW) (σY := σY) (σK := σK) (ℓK := ℓK) hL rwI_dz dz_ok ⟨okp_zz, rfl⟩
  have h2 : r = zI 1 := h2
  rw [h1, h2, z_1]


theorem msc_at {m d : Nat → Int → Int} {σ : qS} (h : msc m d σ) : ∃ m', σ = eC (pw m' d) ∧ scr m m' := h
theorem v_hottest (σ : qS) (τ : qL) {s b : Int} (s0 : 0 ≤ s) (s1 : s < 1024) (b0 : 0 ≤ b) (b1 : b ≤ 9) : oK tt (f_X7_hottest σ τ (zI s) (zI b)) := by
  unfold f_X7_hottest
  obtain ⟨r, r0, r1, e⟩ := z_and s0 (by omega) (((1 : Int32) <<< (zI b &&& 31)) ^^^ (-1))
  rw [e]
  refine ok_bd (ok_if (fun _ => ok_r trivial) (fun _ => ?_))
  rw [z_0]
  refine ok_for (τ := Int32) 10 tt (fun again i t h0 h1 _ ih => ?_) 20000 0 _ (by omega) (by omega) trivial (by omega)
  unfold b_X7_hottest_22
  dsimp only
  rw [z_s1, z_10, z_11, z_mul, z_add, z_mul, z_add]
  refine ok_if (fun _ => ok_r trivial) (fun c => ?_)
  have hi := t_nle h0 (by omega) (by omega) (by omega) c
  have hk : ∀ x, oK tt (if x ≤ t then again (zI (i + 1), t) else again (zI (i + 1), x)) := fun x => ok_if (fun _ => ih hi _ trivial) (fun _ => ih hi _ trivial)
  refine ok_if (fun _ => ok_rd (by omega) (by omega) (by omega) (fun _ => ok_if (fun _ => ok_rd (by omega) (by omega) (by omega) (fun _ => ok_cl (v_cooled _ _) (fun _ _ => ok_cl (v_behindBed σ τ _ b0 b1) (fun _ _ => hk _)))) (fun _ => hk _))) (fun _ => hk _)
theorem v_findHot (m d : Nat → Int → Int) (τ : qL) {σ : qS} (hσ : msc m d σ) {s : Int} (s0 : 0 ≤ s) (s1 : s < 1024) (h : Int32) : oK (fun r => msc m d r.2) (f_X7_findHot σ τ (zI s) h) := by
  unfold f_X7_findHot
  rw [z_0]
  refine ok_for (τ := qS × Int32) 10 (fun t => msc m d t.1 ∧ (t.2 = 0 ∨ t.2 = 1)) (fun again i t h0 h1 ht ih => ?_) 20000 0 _ (by omega) (by omega) ⟨hσ, Or.inl rfl⟩ (by omega)
  unfold b_X7_findHot_5
  dsimp only
  rw [z_s1]
  have e110 : (110 : Int32) = zI 110 := by decide
  rw [e110, z_10, z_mul, z_add, z_add]
  refine ok_if (fun _ => ?_) (fun c => ?_)
  · refine ok_chk ?_ (ok_r ht.1)
    rcases ht.2 with e | e <;> rw [e] <;> decide
  · have hi := t_nle h0 (by omega) (by omega) (by omega) c
    have hk : ∀ v, msc m d v → ∀ x : Int32, oK (fun r => msc m d r.2) (if t.2 = 0 then (if x < 0 then again (zI (i + 1), v, (0 : Int32)) else again (zI (i + 1), v, (1 : Int32))) else again (zI (i + 1), v, (1 : Int32))) :=
      fun v hv x => ok_if (fun _ => ok_if (fun _ => ih hi _ ⟨hv, Or.inl rfl⟩) (fun _ => ih hi _ ⟨hv, Or.inr rfl⟩)) (fun _ => ih hi _ ⟨hv, Or.inr rfl⟩)
    have ha : oK (fun r => msc m d r.2) (q_rd t.1 24 121 (zI (110 + i)) fun r_37 => q_cl (f_X7_cooled h r_37) fun r_40 => q_cl (f_X7_behindBed t.1 τ r_40 (zI i)) fun r_42 => q_wr t.1 25 10240 (zI (10 * s + i)) r_42 fun σM_44 => if t.2 = 0 then (if r_42 < 0 then again (zI (i + 1), σM_44, (0 : Int32)) else again (zI (i + 1), σM_44, (1 : Int32))) else again (zI (i + 1), σM_44, (1 : Int32))) :=
      ok_rd (by omega) (by omega) (by omega) (fun _ => ok_cl (v_cooled _ _) (fun _ _ => ok_cl (v_behindBed _ τ _ h0 (by omega)) (fun x _ => ok_wrM ht.1 (by decide) (by omega) (by omega) (by omega) (fun v hv => hk v hv x))))
    refine ok_if (fun _ => ok_if (fun _ => ha) (fun _ => ok_cl (v_hottest t.1 τ s0 s1 h0 (by omega)) (fun x _ => ok_wrM ht.1 (by decide) (by omega) (by omega) (by omega) (fun v hv => hk v hv x)))) (fun _ => ok_if (fun _ => ha) (fun _ => ok_wrM ht.1 (by decide) (by omega) (by omega) (by omega) (fun v hv => ok_if (fun _ => ih hi _ ⟨hv, Or.inl rfl⟩) (fun _ => ih hi _ ⟨hv, Or.inr rfl⟩))))
theorem v_in (x : Int32) {a b : Int} (h1 : -1000000 ≤ a) (h2 : a ≤ 1000000) (h3 : -1000000 ≤ b) (h4 : b ≤ 1000000) : f_X7_in x.toInt64 (zL a) (zL b) = some (zI (if a ≤ x.toInt ∧ x.toInt ≤ b then 1 else 0)) := by
  obtain ⟨y, y0, y1, rfl⟩ := z_of x
  rw [z_l y0 y1, m_in (by omega) (by omega) (by omega) (by omega) (by omega) (by omega), z_toInt y0 y1]
theorem v_round (m d : Nat → Int → Int) (τ : qL) (h w : Int32) : oK (fun r => msc m d r.2) (f_X7_round (eC (pw m d)) τ h w) := by
  unfold f_X7_round
  rw [zl_0, zl_99, zl_1, v_in h (by omega) (by omega) (by omega) (by omega), v_in w (by omega) (by omega) (by omega) (by omega), s_cl, s_cl]
  refine ok_if (fun _ => ok_r (msc_rf m d)) (fun _ => ok_if (fun _ => ok_r (msc_rf m d)) (fun _ => ok_cl (v_findOff m d τ (msc_rf m d)) (fun σ1 h1 => ?_)))
  rw [z_1]
  refine ok_for (τ := qS × Int32) 1024 (fun t => msc m d t.1 ∧ set10 t.2) (fun again i t h0 h1 ht ih => ?_) 20000 1 _ (by omega) (by omega) ⟨h1, set_0⟩ (by omega)
  unfold b_X7_round_34
  dsimp only
  rw [z_s1, z_1024]
  refine ok_if (fun _ => ok_if (fun _ => ok_cl (v_ones ht.2) (fun _ _ => ok_r ht.1)) (fun _ => ok_r ht.1)) (fun c => ?_)
  have hi := t_nle h0 (by omega) (by omega) (by omega) c
  refine ok_cl (v_findHot m d τ ht.1 h0 hi h) (fun y hy => ok_if (fun _ => ih hi (y.2, t.2) ⟨hy, ht.2⟩) (fun _ => ok_cl (v_ones (set_z h0 hi)) (fun _ _ => ok_cl (v_ones ht.2) (fun _ _ => ok_if (fun _ => ih hi (y.2, t.2) ⟨hy, ht.2⟩) (fun _ => ih hi (y.2, zI i) ⟨hy, set_z h0 hi⟩)))))
theorem v_near (m d : Nat → Int → Int) (τ : qL) (a b w : Int32) : oK (fun r => msc m d r.2) (f_X7_near (eC (pw m d)) τ a b w) := by
  unfold f_X7_near
  obtain ⟨a, a0, a1, rfl⟩ := z_of a
  obtain ⟨b, b0, b1, rfl⟩ := z_of b
  rw [m_isPlace a0 a1, m_isPlace b0 b1, s_cl, s_cl, zl_0, zl_1, v_in w (by omega) (by omega) (by omega) (by omega), s_cl]
  by_cases ca : 0 ≤ a ∧ a ≤ 10
  · by_cases cb : 0 ≤ b ∧ b ≤ 10
    · refine ok_if (fun _ => ok_r (msc_rf m d)) (fun _ => ok_if (fun _ => ok_r (msc_rf m d)) (fun _ => ok_if (fun _ => ok_r (msc_rf m d)) (fun _ => ok_cl (v_findOff m d τ (msc_rf m d)) (fun σ1 h1 => ?_))))
      rw [z_11, z_mul, z_add]
      refine ok_rd (by omega) (by omega) (by omega) (fun r12 => ok_if (fun _ => ok_if (fun _ => ok_r h1) (fun _ => ?_)) (fun _ => ok_r h1))
      rw [z_10]
      refine ok_down (τ := Int32) (-1) 10 tt (fun again i t h2 h3 _ ih => ?_) 20000 10 _ (by omega) (by omega) trivial (by omega)
      unfold b_X7_near_72
      dsimp only
      rw [z_m1, z_11, z_mul, z_add, z_mul, z_add]
      refine ok_if (fun _ => ok_r h1) (fun c => ok_if (fun _ => ok_r h1) (fun _ => ?_))
      have hj : 0 ≤ i := by
        rw [z_0, z_lt (by omega) (by omega) (by omega) (by omega)] at c; omega
      exact ok_rd (by omega) (by omega) (by omega) (fun _ => ok_if (fun _ => ih (by omega) _ trivial) (fun _ => ok_rd (by omega) (by omega) (by omega) (fun _ => ok_if (fun _ => ih (by omega) _ trivial) (fun _ => ih (by omega) _ trivial))))
    · rw [if_neg cb]
      exact ok_if (fun _ => ok_r (msc_rf m d)) (fun _ => ok_if (fun _ => ok_r (msc_rf m d)) (fun c => absurd rfl c))
  · rw [if_neg ca]
    exact ok_if (fun _ => ok_r (msc_rf m d)) (fun c => absurd rfl c)
/-! keeping -/
theorem v_around (σ : qS) (τ : qL) (s : Int32) : oK tt (f_X7_around σ τ s) := by
  unfold f_X7_around
  rw [z_0]
  refine ok_for (τ := Int32) 121 tt (fun again i t h0 h1 _ ih => ?_) 20000 0 _ (by omega) (by omega) trivial (by omega)
  unfold b_X7_around_4
  dsimp only
  rw [z_s1, z_121]
  refine ok_if (fun _ => ok_r trivial) (fun c => ?_)
  have hi := t_nle h0 (by omega) (by omega) (by omega) c
  exact ok_if (fun _ => ok_rd h0 hi (by omega) (fun _ => ok_if (fun _ => ok_bd (ih hi _ trivial)) (fun _ => ok_bd (ih hi _ trivial)))) (fun _ => ok_bd (ih hi _ trivial))
theorem v_isKept (σ : qS) (τ : qL) (a s : Int32) : oK tt (f_X7_isKept σ τ a s) := by
  unfold f_X7_isKept
  rw [z_0]
  refine ok_for (τ := Int32) 11 tt (fun again i t h0 h1 _ ih => ?_) 20000 0 _ (by omega) (by omega) trivial (by omega)
  unfold b_X7_isKept_7
  dsimp only
  rw [z_s1, z_11]
  refine ok_if (fun _ => ok_if (fun _ => ok_r trivial) (fun _ => ok_r trivial)) (fun c => ?_)
  have hi := t_nle h0 (by omega) (by omega) (by omega) c
  exact ok_cl (v_around σ τ _) (fun _ _ => ok_bd (ih hi _ trivial))
theorem v_keep (σ : qS) (τ : qL) (a w : Int32) : oK tt (f_X7_keep σ τ a w) := by
  unfold f_X7_keep
  obtain ⟨a, a0, a1, rfl⟩ := z_of a
  rw [m_isHouse a0 a1, s_cl, zl_0, zl_1, v_in w (by omega) (by omega) (by omega) (by omega), s_cl]
  refine ok_if (fun _ => ok_r trivial) (fun _ => ok_if (fun _ => ok_r trivial) (fun _ => ?_))
  rw [z_0]
  refine ok_for (τ := Int32) 1024 (fun t => t < 0 ∨ set10 t) (fun again i t h0 h1 ht ih => ?_) 20000 0 _ (by omega) (by omega) (Or.inl (by decide)) (by omega)
  unfold b_X7_keep_28
  dsimp only
  rw [z_s1, z_1024]
  refine ok_if (fun _ => ok_if (fun _ => ok_r trivial) (fun cn => ok_if (fun _ => ok_r trivial) (fun _ => ok_cl (v_ones (ht.resolve_left cn)) (fun _ _ => ok_r trivial)))) (fun c => ?_)
  have hi := t_nle h0 (by omega) (by omega) (by omega) c
  have hs : zI i < 0 ∨ set10 (zI i) := Or.inr (set_z h0 hi)
  have hkp : oK tt (q_cl (f_X7_isKept σ τ (zI a) (zI i)) fun r_17 => if r_17 = 0 then again (zI (i + 1), t) else again (zI (i + 1), zI i)) := ok_cl (v_isKept σ τ _ _) (fun _ _ => ok_if (fun _ => ih hi _ ht) (fun _ => ih hi _ hs))
  refine ok_if (fun _ => ok_if (fun _ => hkp) (fun cn => ok_cl (v_ones (set_z h0 hi)) (fun _ _ => ok_cl (v_ones (ht.resolve_left cn)) (fun _ _ => ok_if (fun _ => ih hi _ ht) (fun _ => hkp))))) (fun _ => ih hi _ ht)
/-! embers -/
theorem v_winsBy (σ : qS) (τ : qL) {n k : Int} (n0 : 0 ≤ n) (n1 : n ≤ 60) (k0 : 1 ≤ k) (k1 : k ≤ n) : oK (fun r => r = 0 ∨ r = 1) (f_X7_winsBy σ τ (zI n) (zI k)) := by
  unfold f_X7_winsBy
  have e61 : (61 : Int32) = zI 61 := by decide
  rw [e61, z_2, z_sub, z_mul, z_mul]
  simp only [s_bd, z_add]
  refine ok_if (fun c => ok_if (fun _ => ok_r (Or.inr rfl)) (fun c2 => ?_)) (fun c => ok_if (fun _ => ok_r (Or.inr rfl)) (fun c2 => ?_))
  · exact ok_rd (by omega) (by omega) (by omega) (fun _ => ok_if (fun _ => ok_r (Or.inr rfl)) (fun _ => ok_r (Or.inl rfl)))
  · rw [z_le (by omega) (by omega) (by omega) (by omega)] at c
    exact ok_rd (by omega) (by omega) (by omega) (fun _ => ok_if (fun _ => ok_r (Or.inr rfl)) (fun _ => ok_r (Or.inl rfl)))
theorem v_findWins (m d : Nat → Int → Int) (τ : qL) {σ : qS} (hσ : msc m d σ) {n : Int} (n0 : 1 ≤ n) (n1 : n ≤ 60) : oK (msc m d) (f_X7_findWins σ τ (zI n)) := by
  unfold f_X7_findWins
  rw [z_0]
  refine ok_for (τ := qS) (n + 1) (msc m d) (fun again i t h0 h1 ht ih => ?_) 20000 0 σ (by omega) (by omega) hσ (by omega)
  unfold b_X7_findWins_2
  dsimp only
  have e61 : (61 : Int32) = zI 61 := by decide
  rw [z_s1, e61, z_mul, z_1]
  refine ok_if (fun _ => ok_r ht) (fun c => ?_)
  have hi : i < n + 1 := by
    rw [z_lt (by omega) (by omega) (by omega) (by omega)] at c; omega
  refine ok_wrMZ ht (by decide) (by omega) (by omega) (by omega) (fun v hv => ?_)
  refine ok_forl (τ := qS) 1 (i + 1) (msc m d) (fun again2 j t2 h2 h3 ht2 ih2 => ?_) 20000 1 v (by omega) (by omega) hv (by omega)
  unfold b_X7_findWins_19
  dsimp only
  rw [z_s1, e61, z_mul, z_add, z_1, z_sub]
  refine ok_if (fun _ => ih hi _ ht2) (fun c => ?_)
  have hj : j < i + 1 := by
    rw [z_lt (by omega) (by omega) (by omega) (by omega)] at c; omega
  have hw : ∀ x : Int32, oK (msc m d) (q_wrZ t2 29 3721 (zI (61 * i + j)) x fun σM_12 => again2 (zI (j + 1), σM_12)) := fun x => ok_wrMZ ht2 (by decide) (by omega) (by omega) (by omega) (fun v hv => ih2 hj _ hv)
  exact ok_rd (by omega) (by omega) (by omega) (fun _ => ok_if (fun _ => ok_cl (v_winsBy _ τ (by omega) (by omega) h2 (by omega)) (fun _ _ => ok_if (fun _ => hw _) (fun _ => hw _))) (fun _ => hw _))
theorem v_embers (m d : Nat → Int → Int) (τ : qL) (a w : Int32) : oK (fun r => msc m d r.2) (f_X7_embers (eC (pw m d)) τ a w) := by
  unfold f_X7_embers
  rw [zl_0, zl_1]
  have e60 : (60 : Int64) = zL 60 := by decide
  rw [e60, v_in a (by omega) (by omega) (by omega) (by omega), v_in w (by omega) (by omega) (by omega) (by omega), s_cl, s_cl]
  by_cases ca : 1 ≤ a.toInt ∧ a.toInt ≤ 60
  · obtain ⟨n, n0, n1, rfl⟩ : ∃ n, 1 ≤ n ∧ n ≤ 60 ∧ a = zI n := ⟨a.toInt, ca.1, ca.2, (Int32.ofInt_toInt a).symm⟩
    refine ok_if (fun _ => ok_r (msc_rf m d)) (fun _ => ok_if (fun _ => ok_r (msc_rf m d)) (fun _ => ok_cl (v_findWins m d τ (msc_rf m d) n0 n1) (fun σ1 h1 => ok_bd ?_)))
    rw [z_1, z_sub]
    refine ok_down (τ := Int32) 0 (n - 1) tt (fun again i t h2 h3 _ ih => ?_) 20000 (n - 1) _ (by omega) (by omega) trivial (by omega)
    unfold b_X7_embers_38
    dsimp only
    rw [z_m1]
    refine ok_if (fun _ => ok_if (fun _ => ok_r h1) (fun _ => ok_if (fun _ => ok_r h1) (fun _ => ok_r h1))) (fun c => ?_)
    have hj : 0 < i := by
      rw [z_0, z_le (by omega) (by omega) (by omega) (by omega)] at c; omega
    exact ok_cl (v_winsBy σ1 τ (by omega) n1 (by omega) (by omega)) (fun _ _ => ok_if (fun _ => ih hj _ trivial) (fun _ => ih hj _ trivial))
  · rw [if_neg ca]
    exact ok_if (fun _ => ok_r (msc_rf m d)) (fun c => absurd rfl c)

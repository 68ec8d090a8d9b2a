/-- the reference's row of houses -/
theorem m_row_in (σ : qS) (τ : qL) {n t u k w q : Int} (n0 : 0 ≤ n) (n1 : n ≤ 10) (t0 : 0 ≤ t) (t1 : t ≤ 10) (u0 : 0 ≤ u) (u1 : u ≤ 10) (k0 : 0 ≤ k) (k1 : k ≤ n) (w0 : 0 ≤ w) (w1 : w ≤ 2) (q0 : 0 ≤ q) (q1 : q ≤ 1) :
    ∃ τ', f_X7_row σ τ (zI n) (zI t) (zI u) (zI k) (zI w) (zI q) = some (zL (rowA n t u k w q), τ') := by
  unfold f_X7_row
  rw [v_isRow, s_cl, zl_0, zl_1, zl_2, v_in (zI w) (by omega) (by omega) (by omega) (by omega), v_in (zI q) (by omega) (by omega) (by omega) (by omega), s_cl, s_cl]
  rw [z_toInt (a := n) (by omega) (by omega), z_toInt (a := t) (by omega) (by omega), z_toInt (a := u) (by omega) (by omega), z_toInt (a := k) (by omega) (by omega), z_toInt (a := w) (by omega) (by omega), z_toInt (a := q) (by omega) (by omega)]
  rw [if_pos (show 0 ≤ n ∧ n ≤ 10 ∧ 0 ≤ t ∧ t ≤ 10 ∧ 0 ≤ u ∧ u ≤ 10 ∧ 0 ≤ k ∧ k ≤ n by omega), if_pos (show 0 ≤ w ∧ w ≤ 2 by omega), if_pos (show 0 ≤ q ∧ q ≤ 1 by omega), if_neg (by decide), if_neg (by decide), if_neg (by decide)]
  obtain ⟨D, rfl⟩ := eL_of τ
  have hr1 : ∀ {β : Type} (D : Nat → Int → Int) (k : Nat) {i : Int} (K : Int64 → Option β), 0 ≤ i → i < 22 → q_rdL (eL D) k 22 (zI i) K = K (zL (D k i)) := fun D k i K a b => by rw [s_rdL (n := 22) a (by omega) (by omega), eL_at _ _ a]
  have hw1 : ∀ {β : Type} (D : Nat → Int → Int) (k : Nat) {i v : Int} (K : qL → Option β), 0 ≤ i → i < 22 → q_wrL (eL D) k 22 (zI i) (zL v) K = K (eL (ud D k i v)) := fun D k i v K a b => by rw [s_wrL (n := 22) a (by omega) (by omega), eL_up _ _ a]
  have hS := rowS_b (k := k) (w := w) n0 n1 t0 t1 u0 u1
  -- the sum
  have sum : ∀ (D : Nat → Int → Int), (∀ j, 0 ≤ j → j < 22 → D 27 j = prt t u n.toNat j) → ∀ (N : Nat) (i s : Int), 0 ≤ i → i ≤ n + 1 → (n + 1 - i).toNat < N → sumM (prt t u n.toNat) n k w N i s = rowS n t u k w →
      q_lp (b_X7_row_108 (zI n) (zI k) (zI w) (eL D)) (fun z15 => q_cl (f_X7_lowest z15.2 (zL (10 ^ n.toNat)) (zI q)) fun r_16 => some (r_16, eL D)) N (zI i, zL s) = some (zL (rowA n t u k w q), eL D) := by
    intro D hD N
    induction N with
    | zero => intro i s _ _ h; omega
    | succ N ih =>
      intro i s h0 h1 hN hs
      rw [lp_s]
      generalize q_lp (b_X7_row_108 (zI n) (zI k) (zI w) (eL D)) (fun z15 => q_cl (f_X7_lowest z15.2 (zL (10 ^ n.toNat)) (zI q)) fun r_16 => some (r_16, eL D)) N = again at ih
      unfold b_X7_row_108
      dsimp only
      rw [z_s1]
      unfold sumM at hs
      by_cases c : n < i
      · rw [if_pos c] at hs
        subst hs
        rw [if_pos (by rw [z_lt (by omega) (by omega) (by omega) (by omega)]; exact c)]
        have e1 : rowS n t u k w = ((rowS n t u k w).toNat : Int) := (Int.toNat_of_nonneg hS.1).symm
        have e2 : (10 : Int) ^ n.toNat = ((10 ^ n.toNat : Nat) : Int) := by simp
        have h10 : 10 ^ n.toNat < 2 ^ 60 := Nat.lt_of_le_of_lt (Nat.pow_le_pow_right (by decide) (show n.toNat ≤ 10 by omega)) (by decide)
        have hl := m_lowest q0 q1 (rowS n t u k w).toNat (10 ^ n.toNat) (by omega) (Nat.pow_pos (by decide)) h10
        rw [← e1, ← e2] at hl
        rw [hl, s_cl]
        rfl
      · rw [if_neg c] at hs
        rw [if_neg (by rw [z_lt (by omega) (by omega) (by omega) (by omega)]; exact c), z_2, z_mul, z_1, z_add, hr1 _ _ _ (by omega) (by omega), hr1 _ _ _ (by omega) (by omega), hD _ (by omega) (by omega), hD _ (by omega) (by omega), zl_add, s_bd, z_l (by omega) (by omega), zl_mul]
        have ih' := ih (i + 1) (s + one (prt t u n.toNat) k w i) (by omega) (by omega) (by omega) hs
        unfold one at ih'
        have z00 : s + 0 = s := by omega
        rcases (show w = 0 ∨ w = 1 ∨ w = 2 by omega) with e | e | e
        · subst e
          rw [if_neg (by decide), if_pos rfl] at ih'
          rw [if_pos (by decide)]
          by_cases c2 : i = k
          · rw [if_pos c2] at ih'
            rw [if_pos (by rw [c2]), if_neg (by decide), zl_add, s_bd]
            exact ih'
          · rw [if_neg c2, z00] at ih'
            rw [if_neg (by rw [z_eq (by omega) (by omega) (by omega) (by omega)]; exact c2), if_neg (by decide), s_bd, zl_0, zl_add, z00]
            exact ih'
        · subst e
          rw [if_neg (by decide), if_neg (by decide)] at ih'
          rw [if_neg (by decide)]
          by_cases c2 : i < k
          · rw [if_pos c2, z00] at ih'
            rw [if_pos (by rw [z_lt (by omega) (by omega) (by omega) (by omega)]; exact c2), if_neg (by decide), s_bd, zl_0, zl_add, z00]
            exact ih'
          · rw [if_neg c2] at ih'
            rw [if_neg (by rw [z_lt (by omega) (by omega) (by omega) (by omega)]; exact c2), if_neg (by decide), zl_add, s_bd]
            exact ih'
        · subst e
          rw [if_pos rfl] at ih'
          rw [if_neg (by decide)]
          by_cases c2 : i < k
          · rw [if_pos (by rw [z_lt (by omega) (by omega) (by omega) (by omega)]; exact c2), if_pos (by decide), zl_add, s_bd]
            exact ih'
          · rw [if_neg (by rw [z_lt (by omega) (by omega) (by omega) (by omega)]; exact c2), if_pos (by decide), zl_add, s_bd]
            exact ih'
  have fin : ∀ (D : Nat → Int → Int), (∀ j, 0 ≤ j → j < 22 → D 27 j = prt t u n.toNat j) →
      q_lp (b_X7_row_108 (zI n) (zI k) (zI w) (eL D)) (fun z15 => q_cl (f_X7_lowest z15.2 (zL (10 ^ n.toNat)) (zI q)) fun r_16 => some (r_16, eL D)) 20000 (zI 0, zL 0) = some (zL (rowA n t u k w q), eL D) :=
    fun D hD => sum D hD 20000 0 0 (by omega) (by omega) (by omega) (sumM_f _ _ _ _ (by omega) (by omega))
  -- the houses
  have hous : ∀ (N : Nat) (i : Int) (D : Nat → Int → Int), 0 ≤ i → i ≤ n → (n - i).toNat < N → (∀ j, 0 ≤ j → j < 22 → D 27 j = prt t u i.toNat j) →
      ∃ τ', q_lp (b_X7_row_76 σ (zI n) (zI t) (zI u)) (fun z14 => q_lp (b_X7_row_108 (zI n) (zI k) (zI w) z14.2.2) (fun z15 => q_cl (f_X7_lowest z15.2 z14.2.1 (zI q)) fun r_16 => some (r_16, z14.2.2)) 20000 ((0 : Int32), zL 0)) N (zI i, zL (10 ^ i.toNat), eL D) = some (zL (rowA n t u k w q), τ') := by
    intro N
    induction N with
    | zero => intro i D _ _ h; omega
    | succ N ih =>
      intro i D h0 h1 hN hD
      rw [lp_s]
      generalize hag : q_lp (b_X7_row_76 σ (zI n) (zI t) (zI u)) (fun z14 => q_lp (b_X7_row_108 (zI n) (zI k) (zI w) z14.2.2) (fun z15 => q_cl (f_X7_lowest z15.2 z14.2.1 (zI q)) fun r_16 => some (r_16, z14.2.2)) 20000 ((0 : Int32), zL 0)) N = again at ih
      unfold b_X7_row_76
      dsimp only
      rw [z_s1]
      by_cases c : i < n
      · rw [if_neg (c_nle c h0 (by omega)), m_oneHouse σ D t0 t1 u0 u1, s_cl]
        have e10 : (10 : Int64) = zL 10 := by decide
        have e : (10 : Int) ^ i.toNat * 10 = 10 ^ (i + 1).toNat := by rw [show (i + 1).toNat = i.toNat + 1 by omega, Int.pow_succ]
        rw [e10, zl_mul, s_bd, e]
        refine ih (i + 1) _ (by omega) (by omega) (by omega) (fun j j0 j1 => ?_)
        rw [one_27 D t u j0 j1, show (i + 1).toNat = i.toNat + 1 by omega]
        exact nxt_c hD j0 j1
      · obtain rfl : i = n := by omega
        rw [if_pos (c_le (Int.le_refl _) h0 (by omega)), z_0]
        exact ⟨_, fin D hD⟩
  -- from the start
  rw [z_0]
  have start : ∀ (N : Nat) (i : Int) (D : Nat → Int → Int), 0 ≤ i → i ≤ 22 → (22 - i).toNat < N → (∀ j, 0 ≤ j → j < i → D 27 j = 0) →
      ∃ τ', q_lp (b_X7_row_42) (fun z10 => q_wrL z10.2 27 22 (1 : Int32) (zL 1) fun ℓM_11 => q_lp (b_X7_row_76 σ (zI n) (zI t) (zI u)) (fun z14 => q_lp (b_X7_row_108 (zI n) (zI k) (zI w) z14.2.2) (fun z15 => q_cl (f_X7_lowest z15.2 z14.2.1 (zI q)) fun r_16 => some (r_16, z14.2.2)) 20000 (zI 0, zL 0)) 20000 (zI 0, zL 1, ℓM_11)) N (zI i, eL D) = some (zL (rowA n t u k w q), τ') := by
    intro N
    induction N with
    | zero => intro i D _ _ h; omega
    | succ N ih =>
      intro i D h0 h1 hN hD
      rw [lp_s]
      generalize hag : q_lp (b_X7_row_42) (fun z10 => q_wrL z10.2 27 22 (1 : Int32) (zL 1) fun ℓM_11 => q_lp (b_X7_row_76 σ (zI n) (zI t) (zI u)) (fun z14 => q_lp (b_X7_row_108 (zI n) (zI k) (zI w) z14.2.2) (fun z15 => q_cl (f_X7_lowest z15.2 z14.2.1 (zI q)) fun r_16 => some (r_16, z14.2.2)) 20000 (zI 0, zL 0)) 20000 (zI 0, zL 1, ℓM_11)) N = again at ih
      unfold b_X7_row_42
      dsimp only
      rw [z_s1, z_22, zl_0]
      by_cases c : i < 22
      · rw [if_neg (c_nle c h0 (by omega)), hw1 _ _ _ h0 c]
        refine ih (i + 1) _ (by omega) (by omega) (by omega) (fun j j0 j1 => ?_)
        by_cases e : j = i
        · rw [e, ud_same]
        · rw [ud_ne _ _ (by omega)]; exact hD j j0 (by omega)
      · rw [if_pos (c_le (a := 22) (b := i) (by omega) (by omega) (by omega)), z_1, hw1 _ _ _ (by omega) (by omega)]
        have := hous 20000 0 (ud D 27 1 1) (by omega) (by omega) (by omega) (fun j j0 j1 => by
          show _ = if j = 1 then 1 else 0
          by_cases e : j = 1
          · rw [e, ud_same, if_pos rfl]
          · rw [ud_ne _ _ (by omega), if_neg e]; exact hD j j0 (by omega))
        exact this
  exact start 20000 0 D (by omega) (by omega) (by omega) (fun j _ _ => by omega)

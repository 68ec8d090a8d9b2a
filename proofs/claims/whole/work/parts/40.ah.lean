/-! houses in a row: exactly -/
section ROWX
variable {d m : Nat → Int → Int} {τ κ : qL}
theorem q_upL_at (σ : qL) (k : Nat) (f : Nat → Int64) : q_upL σ k f k = f := by
  unfold q_upL
  rw [Nat.beq_refl]; rfl
theorem q_upL_upL (σ : qL) (k : Nat) (f g : Nat → Int64) : q_upL (q_upL σ k f) k g = q_upL σ k g := by
  funext a
  unfold q_upL
  cases Nat.beq a k <;> rfl
theorem q_upL_id (σ : qL) (k : Nat) : q_upL σ k (σ k) = σ := by
  funext a
  unfold q_upL
  cases h : Nat.beq a k with
  | false => rfl
  | true => rw [Nat.eq_of_beq_eq_true h]; rfl
theorem x_fillL {n : Nat} (hn : n < 16384) (σ : qL) (v : Int64) : f_J7_fill_d0a16 n σ v = some (q_upL σ 0 (fun j => if j < n then v else σ 0 j)) := by
  unfold f_J7_fill_d0a16
  rw [s_bd]
  refine lp_eq (fun s => n - s.1.toNatClampNeg) (fun s => ∃ i : Nat, i ≤ n ∧ s.1 = zI i ∧ s.2 = q_upL σ 0 (fun j => if j < i then v else σ 0 j)) (fun _ => some (q_upL σ 0 (fun j => if j < n then v else σ 0 j))) ?_ ⟨0, Nat.zero_le _, rfl, ?_⟩ ?_
  · rintro again ⟨s1, s2⟩ ⟨i, hi, rfl, rfl⟩ ih
    unfold b_J7_fill_d0a16_6
    dsimp only at ih ⊢
    rw [z_n]
    by_cases h : i < n
    · rw [if_neg (by rw [z_le (by omega) (by omega) (by omega) (by omega)]; omega), s_wrL (by omega) (by omega) (by omega), z_s1]
      refine ih _ ⟨i + 1, h, rfl, ?_⟩ ?_
      · dsimp only
        rw [q_upL_upL, q_upL_at]
        refine congrArg (q_upL σ 0) (funext fun j => ?_)
        unfold vp_updL
        by_cases e : j = i
        · rw [if_pos (by omega), if_pos (by omega)]
        · rw [if_neg (by omega)]
          dsimp only
          by_cases e2 : j < i
          · rw [if_pos e2, if_pos (by omega)]
          · rw [if_neg e2, if_neg (by omega)]
      · dsimp only
        rw [z_nat (by omega) (by omega), z_nat (by omega) (by omega)]
        omega
    · obtain rfl : i = n := by omega
      rw [if_pos (by rw [z_le (by omega) (by omega) (by omega) (by omega)]; omega)]
  · simp only [Nat.not_lt_zero, if_false]
    exact (q_upL_id σ 0).symm
  · dsimp only
    omega
/-- beyond the houses there is nothing -/
theorem prt_z {t u : Int} : ∀ (n : Nat) (k : Int), 0 ≤ k → k ≤ 10 → ((n : Int) < k → prt t u n (2 * k + 1) = 0) ∧ ((n : Int) ≤ k → prt t u n (2 * k) = 0) := by
  intro n
  induction n with
  | zero =>
    intro k k0 k1
    refine ⟨fun h => ?_, fun h => ?_⟩
    · show (if 2 * k + 1 = 1 then 1 else 0) = (0 : Int)
      rw [if_neg (by omega)]
    · show (if 2 * k = 1 then 1 else 0) = (0 : Int)
      rw [if_neg (by omega)]
  | succ n ih =>
    intro k k0 k1
    refine ⟨fun h => ?_, fun h => ?_⟩
    · show nxt t u (prt t u n) (2 * k + 1) = 0
      unfold nxt
      rw [if_neg (by omega), if_pos (by omega), show 2 * k + 1 - 2 = 2 * (k - 1) + 1 by omega, show 2 * k + 1 - 3 = 2 * (k - 1) by omega, (ih (k - 1) (by omega) (by omega)).1 (by omega), (ih (k - 1) (by omega) (by omega)).2 (by omega), Int.mul_zero, Int.mul_zero]; rfl
    · show nxt t u (prt t u n) (2 * k) = 0
      unfold nxt
      by_cases c : 2 * k ≤ 18
      · rw [if_pos (by omega), (ih k k0 k1).1 (by omega), (ih k k0 k1).2 (by omega), Int.mul_zero, Int.mul_zero]; rfl
      · rw [if_neg (by omega), if_neg (by omega)]
theorem prt_not {t u : Int} {n : Nat} {k : Int} (k0 : 0 ≤ k) (k1 : k ≤ 10) (hn : n ≤ 9) : prt t u (n + 1) (2 * k) = prt t u n (2 * k + 1) * (10 - t) + prt t u n (2 * k) * (10 - u) := by
  show nxt t u (prt t u n) (2 * k) = _
  unfold nxt
  by_cases c : 2 * k ≤ 18
  · rw [if_pos (by omega), Int.mul_comm (10 - t), Int.mul_comm (10 - u)]
  · rw [if_neg (by omega), if_neg (by omega), (prt_z n k k0 k1).1 (by omega), (prt_z n k k0 k1).2 (by omega), Int.zero_mul, Int.zero_mul]; rfl
theorem prt_does {t u : Int} {n : Nat} {k : Int} (k0 : 1 ≤ k) (k1 : k ≤ 10) : prt t u (n + 1) (2 * k + 1) = prt t u n (2 * (k - 1) + 1) * t + prt t u n (2 * (k - 1)) * u := by
  show nxt t u (prt t u n) (2 * k + 1) = _
  unfold nxt
  rw [if_neg (by omega), if_pos (by omega), show 2 * k + 1 - 2 = 2 * (k - 1) + 1 by omega, show 2 * k + 1 - 3 = 2 * (k - 1) by omega, Int.mul_comm t, Int.mul_comm u]
theorem prt_does0 {t u : Int} {n : Nat} : prt t u (n + 1) (2 * 0 + 1) = 0 := by
  show nxt t u (prt t u n) (2 * 0 + 1) = 0
  unfold nxt
  rw [if_neg (by omega), if_neg (by omega)]
theorem hrL {β : Type} (D : Nat → Int → Int) (k : Nat) {i : Int} (K : Int64 → Option β) (a : 0 ≤ i) (b : i < 11) : q_rdL (eL D) k 11 (zI i) K = K (zL (D k i)) := by rw [s_rdL a (by omega) (by omega), eL_at _ _ a]
theorem hwL {β : Type} (D : Nat → Int → Int) (k : Nat) {i v : Int} (K : qL → Option β) (a : 0 ≤ i) (b : i < 11) : q_wrL (eL D) k 11 (zI i) (zL v) K = K (eL (ud D k i v)) := by rw [s_wrL a (by omega) (by omega), eL_up _ _ a]
/-- the class's two rows -/
def wgt (D : Nat → Int → Int) (t u : Int) (h : Nat) : Prop := ∀ k, 0 ≤ k → k ≤ 10 → D 0 k = prt t u h (2 * k + 1) ∧ D 1 k = prt t u h (2 * k)
theorem y_weigh (σ : qS) {n t u : Int} (n0 : 0 ≤ n) (n1 : n ≤ 10) (t0 : 0 ≤ t) (t1 : t ≤ 10) (u0 : 0 ≤ u) (u1 : u ≤ 10) : oK (fun s => ∃ D, s = eL D ∧ wgt D t u n.toNat) (f_X0_weigh σ κ (zI n) (zI t) (zI u)) := by
  unfold f_X0_weigh
  rw [x_fillL (by decide), s_cl, s_bd, x_fillL (by decide), s_cl, s_bd]
  generalize hz : q_upL (q_upL κ 0 (q_upL (fun _ => κ 0) 0 (fun j => if j < 11 then (0 : Int64) else κ 0 j) 0)) 1 (q_upL (fun _ => q_upL κ 0 (q_upL (fun _ => κ 0) 0 (fun j => if j < 11 then (0 : Int64) else κ 0 j) 0) 1) 0 (fun j => if j < 11 then (0 : Int64) else q_upL κ 0 (q_upL (fun _ => κ 0) 0 (fun j => if j < 11 then (0 : Int64) else κ 0 j) 0) 1 j) 0) = κ1
  have z0 : ∀ j : Nat, j < 11 → κ1 0 j = zL 0 ∧ κ1 1 j = zL 0 := fun j hj => by
    subst hz
    refine ⟨?_, ?_⟩
    · show (if j < 11 then (0 : Int64) else κ 0 j) = zL 0
      rw [if_pos hj]; exact zl_0
    · show (if j < 11 then (0 : Int64) else κ 1 j) = zL 0
      rw [if_pos hj]; exact zl_0
  clear hz
  obtain ⟨D0, rfl⟩ := eL_of κ1
  have hD : ∀ k, 0 ≤ k → k ≤ 10 → zL (D0 0 k) = zL 0 ∧ zL (D0 1 k) = zL 0 := fun k k0 k1 => by
    have := z0 k.toNat (by omega)
    rwa [eL_at _ _ k0, eL_at _ _ k0] at this
  -- other numbers that have the same rows
  have hE : eL D0 = eL (fun a b => if (a = 0 ∨ a = 1) ∧ 0 ≤ b ∧ b ≤ 10 then 0 else D0 a b) := by
    funext a j
    show zL (D0 a j) = zL (if (a = 0 ∨ a = 1) ∧ 0 ≤ (j : Int) ∧ (j : Int) ≤ 10 then 0 else D0 a j)
    by_cases c : (a = 0 ∨ a = 1) ∧ 0 ≤ (j : Int) ∧ (j : Int) ≤ 10
    · rw [if_pos c]
      rcases c.1 with e | e <;> subst e
      · exact (hD j c.2.1 c.2.2).1
      · exact (hD j c.2.1 c.2.2).2
    · rw [if_neg c]
  rw [hE, zl_1, z_0, hwL _ _ _ (by omega) (by omega)]
  refine ok_forI (τ := qL) n (fun h s => ∃ D, s = eL D ∧ wgt D t u h.toNat) (fun again h s h0 h1 hs ih => ?_) 20000 0 _ (by omega) (by omega) ⟨_, rfl, fun k k0 k1 => ?_⟩ (by omega)
  · obtain ⟨D, rfl, hw⟩ := hs
    unfold b_X0_weigh_26
    dsimp only
    rw [z_s1, z_10]
    refine ok_if (fun c => ok_r ?_) (fun c => ?_)
    · have := t_le h0 (by omega) (by omega) (by omega) c
      obtain rfl : h = n := by omega
      exact ⟨D, rfl, hw⟩
    have hi := t_nle h0 (by omega) (by omega) (by omega) c
    refine ok_dn (τ := qL) (-1) (fun i s => i ≤ 10 ∧ ∃ D, s = eL D ∧ ∀ k, 0 ≤ k → k ≤ 10 → D 0 k = prt t u (if i < k then h.toNat + 1 else h.toNat) (2 * k + 1) ∧ D 1 k = prt t u (if i < k then h.toNat + 1 else h.toNat) (2 * k)) (fun again2 i s i0 hs ih2 => ?_) 20000 10 _ (by omega) ⟨by omega, D, rfl, fun k k0 k1 => ?_⟩ (by omega)
    · obtain ⟨i1, D2, rfl, hk⟩ := hs
      unfold b_X0_weigh_36
      dsimp only
      have em : (-1 : Int32) = zI (-1) := by decide
      rw [em, z_add, z_0]
      refine ok_ifE (z_lt (by omega) (by omega) (by omega) (by omega)) (fun c => ih hi _ ⟨D2, rfl, fun k k0 k1 => ?_⟩) (fun c => ?_)
      · have := hk k k0 k1
        rw [if_pos (by omega)] at this
        rwa [show (h + 1).toNat = h.toNat + 1 by omega]
      · have hi0 := hk i (by omega) (by omega)
        rw [if_neg (by omega)] at hi0
        rw [hrL _ _ _ (by omega) (by omega), hrL _ _ _ (by omega) (by omega), hi0.1, hi0.2, z_10, z_sub, z_sub, z_l (by omega) (by omega), z_l (by omega) (by omega), zl_mul, zl_mul, zl_add, hwL _ _ _ (by omega) (by omega), ← prt_not (by omega) (by omega) (show h.toNat ≤ 9 by omega), show i + -1 = i - 1 by omega]
        refine ok_ifE (z_le (by omega) (by omega) (by omega) (by omega)) (fun c2 => ?_) (fun c2 => ?_)
        · obtain rfl : i = 0 := by omega
          rw [zl_0, hwL _ _ _ (by omega) (by omega)]
          refine ih2 (by omega) _ ⟨by omega, _, rfl, fun k k0 k1 => ?_⟩
          rw [if_pos (by omega)]
          by_cases e : k = 0
          · subst e
            refine ⟨?_, ?_⟩
            · rw [ud_same, prt_does0]
            · rw [ud_ne _ _ (by omega), ud_same]
          · have := hk k k0 k1
            rw [if_pos (by omega)] at this
            refine ⟨?_, ?_⟩
            · rw [ud_ne _ _ (by omega), ud_ne _ _ (by omega)]; exact this.1
            · rw [ud_ne _ _ (by omega), ud_ne _ _ (by omega)]; exact this.2
        · have hi1 := hk (i - 1) (by omega) (by omega)
          rw [if_neg (by omega)] at hi1
          rw [z_1, z_sub, hrL _ _ _ (by omega) (by omega), hrL _ _ _ (by omega) (by omega), ud_ne _ _ (by omega), ud_ne _ _ (by omega), hi1.1, hi1.2, z_l (by omega) (by omega), z_l (by omega) (by omega), zl_mul, zl_mul, zl_add, hwL _ _ _ (by omega) (by omega), ← prt_does (by omega) (by omega)]
          refine ih2 (by omega) _ ⟨by omega, _, rfl, fun k k0 k1 => ?_⟩
          by_cases e : k = i
          · subst e
            rw [if_pos (by omega)]
            refine ⟨?_, ?_⟩
            · rw [ud_same]
            · rw [ud_ne _ _ (by omega), ud_same]
          · have := hk k k0 k1
            have ee : (if i < k then h.toNat + 1 else h.toNat) = (if i - 1 < k then h.toNat + 1 else h.toNat) := by
              by_cases z : i < k
              · rw [if_pos z, if_pos (by omega)]
              · rw [if_neg z, if_neg (by omega)]
            rw [ee] at this
            refine ⟨?_, ?_⟩
            · rw [ud_ne _ _ (by omega), ud_ne _ _ (by omega)]; exact this.1
            · rw [ud_ne _ _ (by omega), ud_ne _ _ (by omega)]; exact this.2
    · rw [if_neg (by omega)]
      exact hw k k0 k1
  · show ud _ 0 0 1 0 k = (if 2 * k + 1 = 1 then 1 else 0) ∧ ud _ 0 0 1 1 k = (if 2 * k = 1 then 1 else 0)
    refine ⟨?_, ?_⟩
    · by_cases e : k = 0
      · subst e; rw [ud_same, if_pos (by omega)]
      · have q1 : ¬ 2 * k + 1 = 1 := by omega
        have q2 : ((0 : Nat) = 0 ∨ (0 : Nat) = 1) ∧ 0 ≤ k ∧ k ≤ 10 := ⟨Or.inl rfl, k0, k1⟩
        rw [ud_ne _ _ (by omega), if_neg q1, if_pos q2]
    · have q1 : ¬ 2 * k = 1 := by omega
      have q2 : ((1 : Nat) = 0 ∨ (1 : Nat) = 1) ∧ 0 ≤ k ∧ k ≤ 10 := ⟨Or.inr rfl, k0, k1⟩
      rw [ud_ne _ _ (by omega), if_neg q1, if_pos q2]
/-- ten houses or so many: the same sum -/
theorem sum_ten {P : Int → Int} {n k w : Int} (n0 : 0 ≤ n) (n1 : n ≤ 10) (hz : ∀ i, n < i → i ≤ 10 → P (2 * i) = 0 ∧ P (2 * i + 1) = 0) : ∀ (N : Nat) (i s : Int), 0 ≤ i → sumM P 10 k w N i s = sumM P n k w N i s := by
  have h1 : ∀ i, n < i → i ≤ 10 → one P k w i = 0 := fun i a b => by
    obtain ⟨e1, e2⟩ := hz i a b
    unfold one
    rw [e1, e2]
    simp
  have h2 : ∀ (N : Nat) (i s : Int), n < i → sumM P 10 k w N i s = s := by
    intro N
    induction N with
    | zero => intro i s _; rfl
    | succ N ih =>
      intro i s h
      unfold sumM
      by_cases c : 10 < i
      · rw [if_pos c]
      · rw [if_neg c, h1 i h (by omega), Int.add_zero]
        exact ih (i + 1) s (by omega)
  intro N
  induction N with
  | zero => intro i s _; rfl
  | succ N ih =>
    intro i s h0
    by_cases c : n < i
    · rw [h2 (N + 1) i s c]
      unfold sumM
      rw [if_pos c]
    · unfold sumM
      rw [if_neg (by omega), if_neg c]
      exact ih (i + 1) _ (by omega)
theorem y_rowUpper (σ : qS) {n t u k w : Int} (n0 : 0 ≤ n) (n1 : n ≤ 10) (t0 : 0 ≤ t) (t1 : t ≤ 10) (u0 : 0 ≤ u) (u1 : u ≤ 10) (k0 : 0 ≤ k) (k1 : k ≤ n) (w0 : 0 ≤ w) (w1 : w ≤ 2) : oK (fun r => r.1 = zL (rowS n t u k w)) (f_X0_rowUpper σ κ (zI n) (zI t) (zI u) (zI k) (zI w)) := by
  unfold f_X0_rowUpper
  refine ok_cl (y_weigh σ n0 n1 t0 t1 u0 u1) (fun κ1 hκ => ?_)
  obtain ⟨D, rfl, hw⟩ := hκ
  rw [z_0, zl_0]
  refine ok_forI (τ := Int64) 11 (fun i s => ∃ S, s = zL S ∧ ∀ N : Nat, 11 - i ≤ N → sumM (prt t u n.toNat) 10 k w N i S = rowS n t u k w) (fun again i s h0 h1 hs ih => ?_) 20000 0 _ (by omega) (by omega) ⟨0, rfl, fun N hN => ?_⟩ (by omega)
  · obtain ⟨S, rfl, hS⟩ := hs
    unfold b_X0_rowUpper_13
    dsimp only
    rw [z_10, z_s1]
    refine ok_ifE (z_lt (by omega) (by omega) (by omega) (by omega)) (fun c => ok_r ?_) (fun c => ?_)
    · obtain rfl : i = 11 := by omega
      rw [← hS 0 (by omega)]; rfl
    · obtain ⟨d0, d1⟩ := hw i h0 (by omega)
      have step : ∀ V, V = one (prt t u n.toNat) k w i → ∀ N : Nat, 11 - (i + 1) ≤ N → sumM (prt t u n.toNat) 10 k w N (i + 1) (S + V) = rowS n t u k w := fun V hV N hN => by
        have := hS (N + 1) (by omega)
        unfold sumM at this
        rw [if_neg (by omega)] at this
        rw [hV]; exact this
      rw [hrL _ _ _ h0 (by omega), hrL _ _ _ h0 (by omega), d0, d1, zl_add, s_bd, z_2, z_1, z_l (by omega) (by omega), zl_mul, zl_add, zl_add]
      simp (disch := omega) only [z_eq, z_le]
      have ec := Int.add_comm (prt t u n.toNat (2 * i + 1)) (prt t u n.toNat (2 * i))
      rw [ec]
      refine ok_if (fun c1 => ok_bd (ih (by omega) _ ⟨_, rfl, step _ ?_⟩)) (fun c1 => ok_if (fun c2 => ok_bd (ih (by omega) _ ⟨_, rfl, step _ ?_⟩)) (fun c2 => ok_if (fun c3 => ok_if (fun c4 => ih (by omega) _ ⟨S, rfl, fun N hN => ?_⟩) (fun c4 => ok_bd (ih (by omega) _ ⟨_, rfl, step _ ?_⟩))) (fun c3 => ih (by omega) _ ⟨S, rfl, fun N hN => ?_⟩)))
      · unfold one
        rw [if_pos c1]
      · unfold one
        rw [if_neg c1]
        by_cases cw : w = 0
        · rw [if_pos cw, if_pos c2]
        · rw [if_neg cw, if_neg (by omega)]
      · have := step 0 (by
          unfold one
          rw [if_neg c1, if_neg (by omega), if_pos (by omega)]) N hN
        rwa [Int.add_zero] at this
      · unfold one
        rw [if_neg c1, if_neg (by omega), if_neg (by omega)]
      · have := step 0 (by
          unfold one
          rw [if_neg c1, if_pos (by omega), if_neg c2]) N hN
        rwa [Int.add_zero] at this
  · rw [sum_ten n0 n1 (fun i a b => ⟨(prt_z n.toNat i (by omega) b).2 (by omega), (prt_z n.toNat i (by omega) b).1 (by omega)⟩) N 0 0 (by omega)]
    exact sumM_f _ _ _ _ (by omega) (by omega)
theorem y_rowLower (σ : qS) {n : Int} (n0 : 0 ≤ n) (n1 : n ≤ 10) : f_X0_rowLower σ κ (zI n) = some (zL (10 ^ n.toNat)) := by
  unfold f_X0_rowLower
  have key : oK (fun r => r = zL (10 ^ n.toNat)) (q_lp (b_X0_rowLower_5 (zI n)) (fun z1 => some z1.2) 20000 ((0 : Int32), (1 : Int64))) := by
    rw [z_0, zl_1]
    refine ok_forI (τ := Int64) n (fun i s => s = zL (10 ^ i.toNat)) (fun again i s h0 h1 hs ih => ?_) 20000 0 _ (by omega) (by omega) rfl (by omega)
    subst hs
    unfold b_X0_rowLower_5
    dsimp only
    rw [z_s1, zl_10, zl_mul]
    refine ok_if (fun c => ok_r ?_) (fun c => ?_)
    · have := t_le h0 (by omega) (by omega) (by omega) c
      rw [show i = n by omega]
    · have hi := t_nle h0 (by omega) (by omega) (by omega) c
      refine ok_bd (ih hi _ ?_)
      rw [show (i + 1).toNat = i.toNat + 1 by omega, Int.pow_succ]
  obtain ⟨r, h1, rfl⟩ := key
  exact h1
theorem gcd_step {a b : Nat} (hb : 0 < b) : Nat.gcd a b = Nat.gcd b (a % b) := by rw [Nat.gcd_comm a b, Nat.gcd_rec b a, Nat.gcd_comm]
/-- the common part: two steps halve the smaller number -/
theorem y_common : ∀ (j : Nat) (N : Nat) (st : Int) (a b : Nat), b < 2 ^ j → a < 2 ^ 61 → b < 2 ^ 61 → 0 ≤ st → st + 2 * j ≤ 900 → 2 * j < N → q_lp (b_X6_commonPart_9) (fun z1 => some z1.2.2) N (zI st, zL b, zL a) = some (zL (Nat.gcd a b : Nat)) := by
  have done : ∀ (N : Nat) (st : Int) (a : Nat), a < 2 ^ 61 → 0 ≤ st → st ≤ 950 → 0 < N → q_lp (b_X6_commonPart_9) (fun z1 => some z1.2.2) N (zI st, zL ((0 : Nat) : Int), zL a) = some (zL (Nat.gcd a 0 : Nat)) := by
    intro N st a ha s0 s1 hN
    obtain ⟨N, rfl⟩ : ∃ M, N = M + 1 := ⟨N - 1, by omega⟩
    rw [lp_s]
    unfold b_X6_commonPart_9
    dsimp only
    rw [if_neg (by rw [z_1000, z_le (by omega) (by omega) (by omega) (by omega)]; omega), zl_0, z_cmp (by omega) (by omega) (by omega) (by omega), if_pos (by decide), Nat.gcd_zero_right]
  have one : ∀ (N : Nat) (st : Int) (a b : Nat), 0 < b → a < 2 ^ 61 → b < 2 ^ 61 → 0 ≤ st → st ≤ 950 → q_lp (b_X6_commonPart_9) (fun z1 => some z1.2.2) (N + 1) (zI st, zL b, zL a) = q_lp (b_X6_commonPart_9) (fun z1 => some z1.2.2) N (zI (st + 1), zL (a % b : Nat), zL b) := by
    intro N st a b h0 ha hb s0 s1
    rw [lp_s]
    generalize q_lp (b_X6_commonPart_9) (fun z1 => some z1.2.2) N = again
    unfold b_X6_commonPart_9
    dsimp only
    rw [if_neg (by rw [z_1000, z_le (by omega) (by omega) (by omega) (by omega)]; omega), zl_0, z_cmp (by omega) (by omega) (by omega) (by omega), if_pos (show (0 : Int) < (b : Int) by omega), if_neg (by decide), s_nzL (by omega) (by omega) (by omega), zl_rem (by omega) (by omega) (by omega) (by omega), s_bd, z_s1]
    rfl
  intro j
  induction j with
  | zero =>
    intro N st a b hb ha _ s0 s1 hN
    have : b = 0 := by omega
    subst this
    exact done N st a ha s0 (by omega) (by omega)
  | succ j ih =>
    intro N st a b hb ha hb2 s0 s1 hN
    by_cases c : b = 0
    · subst c
      exact done N st a ha s0 (by omega) (by omega)
    · obtain ⟨N, rfl⟩ : ∃ M, N = M + 1 := ⟨N - 1, by omega⟩
      have hlt := Nat.mod_lt a (Nat.pos_of_ne_zero c)
      rw [one N st a b (by omega) ha hb2 s0 (by omega), gcd_step (Nat.pos_of_ne_zero c)]
      by_cases c2 : a % b = 0
      · rw [c2]
        exact done N (st + 1) b hb2 (by omega) (by omega) (by omega)
      · obtain ⟨N, rfl⟩ : ∃ M, N = M + 1 := ⟨N - 1, by omega⟩
        have hlt2 := Nat.mod_lt b (Nat.pos_of_ne_zero c2)
        have hhalf : b % (a % b) < 2 ^ j := by
          have e : 2 ^ (j + 1) = 2 * 2 ^ j := by rw [Nat.pow_succ, Nat.mul_comm]
          have hd := Nat.mod_add_div b (a % b)
          have hq : 1 ≤ b / (a % b) := (Nat.le_div_iff_mul_le (Nat.pos_of_ne_zero c2)).mpr (by omega)
          have hm := Nat.mul_le_mul_left (a % b) hq
          omega
        rw [one N (st + 1) b (a % b) (by omega) hb2 (by omega) (by omega) (by omega), gcd_step (Nat.pos_of_ne_zero c2)]
        exact ih N (st + 1 + 1) (a % b) (b % (a % b)) hhalf (by omega) (by omega) (by omega) (by omega) (by omega)
theorem y_row (σ : qS) {n t u k w q : Int} (n0 : 0 ≤ n) (n1 : n ≤ 10) (t0 : 0 ≤ t) (t1 : t ≤ 10) (u0 : 0 ≤ u) (u1 : u ≤ 10) (k0 : 0 ≤ k) (k1 : k ≤ n) (w0 : 0 ≤ w) (w1 : w ≤ 2) (q0 : 0 ≤ q) (q1 : q ≤ 1) : oK (fun r => r.1 = zL (rowA n t u k w q)) (f_X6_row σ κ (zI n) (zI t) (zI u) (zI k) (zI w) (zI q)) := by
  unfold f_X6_row
  rw [z_0, z_10, z_2, z_1, x_within (by omega) (by omega) (by omega) (by omega) (by omega) (by omega), x_within (by omega) (by omega) (by omega) (by omega) (by omega) (by omega), x_within (by omega) (by omega) (by omega) (by omega) (by omega) (by omega), x_within (by omega) (by omega) (by omega) (by omega) (by omega) (by omega), x_within (by omega) (by omega) (by omega) (by omega) (by omega) (by omega), x_within (by omega) (by omega) (by omega) (by omega) (by omega) (by omega), s_cl, s_cl, s_cl, s_cl, s_cl, s_cl]
  rw [if_pos (show 0 ≤ n ∧ n ≤ 10 from ⟨n0, n1⟩), if_pos (show 0 ≤ t ∧ t ≤ 10 from ⟨t0, t1⟩), if_pos (show 0 ≤ u ∧ u ≤ 10 from ⟨u0, u1⟩), if_pos (show 0 ≤ k ∧ k ≤ n from ⟨k0, k1⟩), if_pos (show 0 ≤ w ∧ w ≤ 2 from ⟨w0, w1⟩), if_pos (show 0 ≤ q ∧ q ≤ 1 from ⟨q0, q1⟩), if_neg (by decide), if_neg (by decide), if_neg (by decide), if_neg (by decide), if_neg (by decide), if_neg (by decide)]
  refine ok_cl (y_rowUpper σ n0 n1 t0 t1 u0 u1 k0 k1 w0 w1) (fun y hy => ?_)
  have hS := rowS_b (k := k) (w := w) n0 n1 t0 t1 u0 u1
  have e1 : rowS n t u k w = ((rowS n t u k w).toNat : Int) := (Int.toNat_of_nonneg hS.1).symm
  have e2 : (10 : Int) ^ n.toNat = ((10 ^ n.toNat : Nat) : Int) := by simp
  have h10 : 10 ^ n.toNat < 2 ^ 60 := Nat.lt_of_le_of_lt (Nat.pow_le_pow_right (by decide) (show n.toNat ≤ 10 by omega)) (by decide)
  have hp : 0 < 10 ^ n.toNat := Nat.pow_pos (by decide)
  have hg : 0 < Nat.gcd (rowS n t u k w).toNat (10 ^ n.toNat) := Nat.gcd_pos_of_pos_right _ hp
  have hgl : Nat.gcd (rowS n t u k w).toNat (10 ^ n.toNat) ≤ 10 ^ n.toNat := Nat.gcd_le_right _ hp
  have hc := y_common 60 20000 0 (rowS n t u k w).toNat (10 ^ n.toNat) h10 (by omega) (by omega) (by omega) (by omega) (by omega)
  unfold f_X6_commonPart
  rw [y_rowLower σ n0 n1, s_cl, hy, e2, z_0]
  rw [e1, hc, s_cl]
  have hgt : ¬ lg_cmp (zL ((Nat.gcd (rowS n t u k w).toNat (10 ^ n.toNat) : Nat) : Int)) (0 : Int64) ≤ zI 0 := by
    rw [zl_0, z_cmp (by omega) (by omega) (by omega) (by omega), if_pos (by omega)]; decide
  rw [if_neg hgt, if_neg hgt, s_nzL (by omega) (by omega) (by omega), s_nzL (by omega) (by omega) (by omega), zl_div (by omega) (by omega) (by omega) (by omega), zl_div (by omega) (by omega) (by omega) (by omega)]
  unfold rowA
  refine ok_if (fun c => ok_r ?_) (fun c => ok_r ?_)
  · rw [z_eq (by omega) (by omega) (by omega) (by omega)] at c
    rw [if_pos c]; rfl
  · rw [z_eq (by omega) (by omega) (by omega) (by omega)] at c
    rw [if_neg c]; rfl
theorem c_row (σ σ' : qS) (n t u k w q : Int32) : ∃ r s τ', f_X6_row σ κ n t u k w q = some (r, s) ∧ f_X7_row σ' τ n t u k w q = some (r, τ') := by
  obtain ⟨n, n0, n1, rfl⟩ := z_of n
  obtain ⟨t, t0, t1, rfl⟩ := z_of t
  obtain ⟨u, u0, u1, rfl⟩ := z_of u
  obtain ⟨k, k0, k1, rfl⟩ := z_of k
  obtain ⟨w, w0, w1, rfl⟩ := z_of w
  obtain ⟨q, q0, q1, rfl⟩ := z_of q
  by_cases c : (0 ≤ n ∧ n ≤ 10 ∧ 0 ≤ t ∧ t ≤ 10 ∧ 0 ≤ u ∧ u ≤ 10 ∧ 0 ≤ k ∧ k ≤ n) ∧ (0 ≤ w ∧ w ≤ 2) ∧ (0 ≤ q ∧ q ≤ 1)
  · obtain ⟨⟨a1, a2, a3, a4, a5, a6, a7, a8⟩, ⟨b1, b2⟩, b3, b4⟩ := c
    obtain ⟨⟨r, s⟩, e1, h1⟩ := y_row (κ := κ) σ a1 a2 a3 a4 a5 a6 a7 a8 b1 b2 b3 b4
    obtain ⟨τ', e2⟩ := m_row_in σ' τ a1 a2 a3 a4 a5 a6 a7 a8 b1 b2 b3 b4
    dsimp only at h1
    subst h1
    exact ⟨_, s, τ', e1, e2⟩
  · refine ⟨(-1000000000000000002 : Int64), κ, τ, ?_, ?_⟩
    · unfold f_X6_row
      rw [z_0, z_10, z_2, z_1, x_within n0 n1 (by omega) (by omega) (by omega) (by omega), x_within t0 t1 (by omega) (by omega) (by omega) (by omega), x_within u0 u1 (by omega) (by omega) (by omega) (by omega), x_within k0 k1 (by omega) (by omega) n0 n1, x_within w0 w1 (by omega) (by omega) (by omega) (by omega), x_within q0 q1 (by omega) (by omega) (by omega) (by omega), s_cl, s_cl, s_cl, s_cl, s_cl, s_cl]
      by_cases c1 : 0 ≤ n ∧ n ≤ 10
      · rw [if_pos c1, if_neg (show ¬ zI 1 = zI 0 by decide)]
        by_cases c2 : 0 ≤ t ∧ t ≤ 10
        · rw [if_pos c2, if_neg (show ¬ zI 1 = zI 0 by decide)]
          by_cases c3 : 0 ≤ u ∧ u ≤ 10
          · rw [if_pos c3, if_neg (show ¬ zI 1 = zI 0 by decide)]
            by_cases c4 : 0 ≤ k ∧ k ≤ n
            · rw [if_pos c4, if_neg (show ¬ zI 1 = zI 0 by decide)]
              by_cases c5 : 0 ≤ w ∧ w ≤ 2
              · rw [if_pos c5, if_neg (show ¬ zI 1 = zI 0 by decide), if_neg (show ¬ (0 ≤ q ∧ q ≤ 1) from fun z => c ⟨⟨c1.1, c1.2, c2.1, c2.2, c3.1, c3.2, c4.1, c4.2⟩, c5, z⟩), if_pos rfl]
              · rw [if_neg c5, if_pos rfl]
            · rw [if_neg c4, if_pos rfl]
          · rw [if_neg c3, if_pos rfl]
        · rw [if_neg c2, if_pos rfl]
      · rw [if_neg c1, if_pos rfl]
    · unfold f_X7_row
      rw [v_isRow, s_cl, zl_0, zl_1, zl_2, v_in (zI w) (by omega) (by omega) (by omega) (by omega), v_in (zI q) (by omega) (by omega) (by omega) (by omega), s_cl, s_cl]
      rw [z_toInt n0 n1, z_toInt t0 t1, z_toInt u0 u1, z_toInt k0 k1, z_toInt w0 w1, z_toInt q0 q1]
      by_cases c1 : 0 ≤ n ∧ n ≤ 10 ∧ 0 ≤ t ∧ t ≤ 10 ∧ 0 ≤ u ∧ u ≤ 10 ∧ 0 ≤ k ∧ k ≤ n
      · rw [if_pos c1, if_neg (by decide)]
        by_cases c2 : 0 ≤ w ∧ w ≤ 2
        · rw [if_pos c2, if_neg (by decide), if_neg (fun z => c ⟨c1, c2, z⟩), if_pos (by decide)]
        · rw [if_neg c2, if_pos (by decide)]
      · rw [if_neg c1, if_pos (by decide)]
end ROWX

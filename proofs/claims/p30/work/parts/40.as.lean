def tkL : List Nat := [0, 1, 2, 3, 1, 5, 1, 2, 8, 1, 2, 3, 1, 13, 1, 2, 3, 1, 5, 1, 2, 21, 1, 2, 3, 1, 5, 1, 2, 8, 1, 2, 3, 1, 34, 1, 2, 3, 1, 5, 1, 2, 8, 1, 2, 3, 1, 13, 1, 2, 3, 1, 5, 1, 2, 55, 1, 2, 3, 1, 5]
/-- what is to be taken of so many, were any number free -/
def tk (e : Nat) : Nat := tkL.getD e 0
theorem tk_all : ∀ e, e < 61 → 1 ≤ e → (1 ≤ tk e ∧ tk e ≤ e ∧ (∀ t, t < tk e → 1 ≤ t → tk (e - t) ≤ 2 * t) ∧ (tk e = e ∨ 2 * tk e < tk (e - tk e))) := by decide +kernel
theorem ok_dn {β τ : Type} {Q : β → Prop} {body : (Int32 × τ → Option β) → (Int32 × τ → Option β) → Int32 × τ → Option β} {k : Int32 × τ → Option β} (lo : Int) (P : Int → τ → Prop)
    (h : ∀ (again : Int32 × τ → Option β) (i : Int) (t : τ), lo ≤ i → P i t → (lo < i → ∀ t', P (i - 1) t' → oK Q (again (zI (i - 1), t'))) → oK Q (body k again (zI i, t))) :
    ∀ (N : Nat) (i : Int) (t : τ), lo ≤ i → P i t → (i - lo).toNat < N → oK Q (q_lp body k N (zI i, t)) := by
  intro N
  induction N with
  | zero => intro i t _ _ hN; omega
  | succ N ih =>
    intro i t h0 hp hN
    rw [lp_s]
    exact h _ i t h0 hp (fun hl t' ht' => ih (i - 1) t' (by omega) ht' (by omega))
/-- how many he takes first -/
def emV (n : Nat) : Int := if tk n < n then tk n else -6
section EMB
variable {d m : Nat → Int → Int} {τ κ : qL}
theorem y_leastTake {σ : qS} {e : Nat} (e0 : 1 ≤ e) (e1 : e ≤ 60) (hσ : ∀ j : Nat, 1 ≤ j → j < e → σ 2 j = zI (tk j)) : f_X0_leastTake σ κ (zI e) = some (zI (tk e)) := by
  obtain ⟨k1, k2, k3, k4⟩ := tk_all e (by omega) e0
  have key : oK (fun r => r = zI (tk e)) (f_X0_leastTake σ κ (zI e)) := by
    unfold f_X0_leastTake
    rw [z_1]
    refine ok_forI1 (tk e) (fun s => 1 ≤ s) (fun again s h0 h1 hs ih => ?_) 20000 1 (by omega) (by omega) (by omega) (by omega)
    unfold b_X0_leastTake_2
    rw [z_s1, z_sub, s_bd]
    refine ok_ifE (z_le (by omega) (by omega) (by omega) (by omega)) (fun c => ok_r ?_) (fun c => ?_)
    · exact congrArg zI (show (e : Int) = ((tk e : Nat) : Int) by omega)
    · have er : ((e - s.toNat : Nat) : Int) = (e : Int) - s := by omega
      rw [z_1, z_60, x_win (by omega) (by omega) (by omega) (by omega), s_cl, if_neg (by decide), s_rd (by omega) (by omega) (by omega), ← er, Int.toNat_natCast, hσ _ (by omega) (by omega), z_2, z_mul]
      have kr := (tk_all (e - s.toNat) (by omega) (by omega)).2.1
      refine ok_ifE (z_le (by omega) (by omega) (by omega) (by omega)) (fun c2 => ih ?_ (by omega)) (fun c2 => ok_r ?_)
      · by_cases z : s < tk e
        · exact z
        · have es : s.toNat = tk e := by omega
          rw [es] at c2
          rcases k4 with k4 | k4 <;> omega
      · by_cases z : s < tk e
        · have := k3 s.toNat (by omega) (by omega)
          omega
        · rw [show s = tk e by omega]
  obtain ⟨r, h1, rfl⟩ := key
  exact h1
theorem y_firstTake (σ : qS) {n : Nat} (n0 : 1 ≤ n) (n1 : n ≤ 60) : oK (fun r => r.1 = zI (emV n)) (f_X0_firstTake σ κ (zI n)) := by
  obtain ⟨k1, k2, k3, k4⟩ := tk_all n (by omega) n0
  unfold f_X0_firstTake
  rw [z_1, z_60, x_win (by omega) (by omega) (by omega) (by omega), s_cl, if_neg (by decide)]
  refine ok_forI (τ := qS) (n + 1) (fun s u => 1 ≤ s ∧ ∀ j : Nat, 1 ≤ j → (j : Int) < s → u 2 j = zI (tk j)) (fun again s u h0 h1 hu ih => ?_) 20000 1 σ (by omega) (by omega) ⟨by omega, fun j a b => by omega⟩ (by omega)
  obtain ⟨s1, hu⟩ := hu
  unfold b_X0_firstTake_15
  dsimp only
  rw [z_s1]
  refine ok_ifE (z_lt (by omega) (by omega) (by omega) (by omega)) (fun c => ?_) (fun c => ?_)
  · rw [s_rd (by omega) (by omega) (by omega), Int.toNat_natCast, hu n n0 (by omega), s_rd (by omega) (by omega) (by omega), Int.toNat_natCast, hu n n0 (by omega)]
    simp (disch := omega) only [z_le]
    unfold emV
    refine ok_if (fun c2 => ok_r ?_) (fun c2 => ok_r ?_)
    · rw [if_neg (by omega)]; exact (show (-6 : Int32) = zI (-6) by decide)
    · rw [if_pos (by omega)]
  · have es : ((s.toNat : Nat) : Int) = s := Int.toNat_of_nonneg h0
    have hl := y_leastTake (κ := κ) (σ := u) (e := s.toNat) (by omega) (by omega) (fun j a b => hu j a (by omega))
    rw [es] at hl
    rw [hl, s_cl, s_wr h0 (by omega) (by omega)]
    refine ih (by omega) _ ⟨by omega, fun j a b => ?_⟩
    show upd (u 2) s.toNat (zI (tk s.toNat)) j = zI (tk j)
    unfold upd
    by_cases e : j = s.toNat
    · rw [if_pos e, e]
    · rw [if_neg e]; exact hu j a (by omega)
/-- the answer -/
def emA (n : Nat) (w : Int32) : Int32 := if w = zI 1 then zI (emV n) else if emV n = -6 then zI 0 else zI 1
theorem emV_b (n : Nat) (n1 : n ≤ 60) : -6 ≤ emV n ∧ emV n < 100 := by unfold emV; split <;> omega
theorem emV_6 {n : Nat} : emV n = -6 ∨ 0 ≤ emV n := by unfold emV; split <;> omega
theorem y_embers (σ : qS) {n : Nat} (n0 : 1 ≤ n) (n1 : n ≤ 60) {w : Int} (w0 : 0 ≤ w) (w1 : w ≤ 1) : oK (fun r => r.1 = emA n (zI w)) (f_X6_embers σ κ (zI n) (zI w)) := by
  have hb := emV_b n n1
  have e6 : (-6 : Int32) = zI (-6) := by decide
  unfold f_X6_embers emA
  rw [z_0, z_1, z_60, x_win (by omega) (by omega) (by omega) (by omega), x_win (by omega) (by omega) (by omega) (by omega), s_cl, s_cl, if_neg n10, if_neg n10]
  refine ok_cl (y_firstTake σ n0 n1) (fun y hy => ?_)
  rw [hy, e6]
  refine ok_if (fun c => ok_r ?_) (fun c => ok_ifE (z_eq (a := emV n) (by omega) (by omega) (by omega) (by omega)) (fun c2 => ok_r ?_) (fun c2 => ok_r ?_))
  · rw [if_pos c]
  · rw [if_neg c, if_pos c2]
  · rw [if_neg c, if_neg c2]
end EMB


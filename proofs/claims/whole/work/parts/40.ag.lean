/-! embers: exactly -/
def tkL : List Nat := [0, 1, 2, 3, 1, 5, 1, 2, 8, 1, 2, 3, 1, 13, 1, 2, 3, 1, 5, 1, 2, 21, 1, 2, 3, 1, 5, 1, 2, 8, 1, 2, 3, 1, 34, 1, 2, 3, 1, 5, 1, 2, 8, 1, 2, 3, 1, 13, 1, 2, 3, 1, 5, 1, 2, 55, 1, 2, 3, 1, 5]
/-- what is to be taken of so many, were any number free -/
def tk (e : Nat) : Nat := tkL.getD e 0
theorem tk_all : ∀ e, e < 61 → 1 ≤ e → (1 ≤ tk e ∧ tk e ≤ e ∧ (∀ t, t < tk e → 1 ≤ t → tk (e - t) ≤ 2 * t) ∧ (tk e = e ∨ 2 * tk e < tk (e - tk e))) := by decide +kernel
theorem ok_dn {β τ : Type} {Q : β → Prop} {body : (Int32 × τ → Option β) → (Int32 × τ → Option β) → Int32 × τ → Option β} {k : Int32 × τ → Option β} (lo : Int) (P : Int → τ → Prop)
    (h : ∀ (again : Int32 × τ → Option β) (i : Int) (t : τ), lo ≤ i → P i t → (lo < i → ∀ t', P (i - 1) t' → oK Q (again (zI (i - 1), t'))) → oK Q (body k again (zI i, t))) :
    ∀ (N : Nat) (i : Int) (t : τ), lo ≤ i → P i t → (i - lo).toNat < N → oK Q (q_lp body k N (zI i, t)) := by
  intro N
  induction N with
  | zero => intro i t _ _ hN; omega
  | succ N ih =>
    intro i t h0 hp hN
    rw [lp_s]
    exact h _ i t h0 hp (fun hl t' ht' => ih (i - 1) t' (by omega) ht' (by omega))
/-- how many he takes first -/
def emV (n : Nat) : Int := if tk n < n then tk n else -6
section EMB
variable {d m : Nat → Int → Int} {τ κ : qL}
theorem y_leastTake {σ : qS} {e : Nat} (e0 : 1 ≤ e) (e1 : e ≤ 60) (hσ : ∀ j : Nat, 1 ≤ j → j < e → σ 2 j = zI (tk j)) : f_X0_leastTake σ κ (zI e) = some (zI (tk e)) := by
  obtain ⟨k1, k2, k3, k4⟩ := tk_all e (by omega) e0
  have key : oK (fun r => r = zI (tk e)) (f_X0_leastTake σ κ (zI e)) := by
    unfold f_X0_leastTake
    rw [z_1]
    refine ok_forI1 (tk e) (fun s => 1 ≤ s) (fun again s h0 h1 hs ih => ?_) 20000 1 (by omega) (by omega) (by omega) (by omega)
    unfold b_X0_leastTake_2
    rw [z_s1, z_sub, s_bd]
    refine ok_ifE (z_le (by omega) (by omega) (by omega) (by omega)) (fun c => ok_r ?_) (fun c => ?_)
    · exact congrArg zI (show (e : Int) = ((tk e : Nat) : Int) by omega)
    · have er : ((e - s.toNat : Nat) : Int) = (e : Int) - s := by omega
      rw [z_1, z_60, x_win (by omega) (by omega) (by omega) (by omega), s_cl, if_neg (by decide), s_rd (by omega) (by omega) (by omega), ← er, Int.toNat_natCast, hσ _ (by omega) (by omega), z_2, z_mul]
      have kr := (tk_all (e - s.toNat) (by omega) (by omega)).2.1
      refine ok_ifE (z_le (by omega) (by omega) (by omega) (by omega)) (fun c2 => ih ?_ (by omega)) (fun c2 => ok_r ?_)
      · by_cases z : s < tk e
        · exact z
        · have es : s.toNat = tk e := by omega
          rw [es] at c2
          rcases k4 with k4 | k4 <;> omega
      · by_cases z : s < tk e
        · have := k3 s.toNat (by omega) (by omega)
          omega
        · rw [show s = tk e by omega]
  obtain ⟨r, h1, rfl⟩ := key
  exact h1
theorem y_firstTake (σ : qS) {n : Nat} (n0 : 1 ≤ n) (n1 : n ≤ 60) : oK (fun r => r.1 = zI (emV n)) (f_X0_firstTake σ κ (zI n)) := by
  obtain ⟨k1, k2, k3, k4⟩ := tk_all n (by omega) n0
  unfold f_X0_firstTake
  rw [z_1, z_60, x_win (by omega) (by omega) (by omega) (by omega), s_cl, if_neg (by decide)]
  refine ok_forI (τ := qS) (n + 1) (fun s u => 1 ≤ s ∧ ∀ j : Nat, 1 ≤ j → (j : Int) < s → u 2 j = zI (tk j)) (fun again s u h0 h1 hu ih => ?_) 20000 1 σ (by omega) (by omega) ⟨by omega, fun j a b => by omega⟩ (by omega)
  obtain ⟨s1, hu⟩ := hu
  unfold b_X0_firstTake_15
  dsimp only
  rw [z_s1]
  refine ok_ifE (z_lt (by omega) (by omega) (by omega) (by omega)) (fun c => ?_) (fun c => ?_)
  · rw [s_rd (by omega) (by omega) (by omega), Int.toNat_natCast, hu n n0 (by omega), s_rd (by omega) (by omega) (by omega), Int.toNat_natCast, hu n n0 (by omega)]
    simp (disch := omega) only [z_le]
    unfold emV
    refine ok_if (fun c2 => ok_r ?_) (fun c2 => ok_r ?_)
    · rw [if_neg (by omega)]; exact (show (-6 : Int32) = zI (-6) by decide)
    · rw [if_pos (by omega)]
  · have es : ((s.toNat : Nat) : Int) = s := Int.toNat_of_nonneg h0
    have hl := y_leastTake (κ := κ) (σ := u) (e := s.toNat) (by omega) (by omega) (fun j a b => hu j a (by omega))
    rw [es] at hl
    rw [hl, s_cl, s_wr h0 (by omega) (by omega)]
    refine ih (by omega) _ ⟨by omega, fun j a b => ?_⟩
    show upd (u 2) s.toNat (zI (tk s.toNat)) j = zI (tk j)
    unfold upd
    by_cases e : j = s.toNat
    · rw [if_pos e, e]
    · rw [if_neg e]; exact hu j a (by omega)
/-- the reference's table -/
def wn (l o : Nat) : Int := if 1 ≤ l ∧ tk l ≤ o then 1 else 0
def wnr (m : Nat → Int → Int) (l : Int) : Prop := ∀ a o : Nat, (a : Int) < l → o ≤ a → m 29 (61 * (a : Int) + o) = wn a o
theorem y_winsBy {m' : Nat → Int → Int} {l t : Nat} (t0 : 1 ≤ t) (t1 : t ≤ l) (l1 : l ≤ 60) (hw : wnr m' l) : f_X7_winsBy (eC (pw m' d)) τ (zI l) (zI t) = some (if t = l ∨ 2 * t < tk (l - t) then 1 else 0) := by
  have e61 : (61 : Int32) = zI 61 := by decide
  have er : (l : Int) - t = ((l - t : Nat) : Int) := by omega
  unfold f_X7_winsBy
  simp only [s_bd]
  rw [z_sub, z_2, z_mul, e61, z_mul, z_add, z_add, er]
  simp (disch := omega) only [z_le, z_eq]
  by_cases c0 : t = l
  · have hq : (t : Int) = l := by omega
    simp only [if_pos hq]
    rw [if_pos (Or.inl c0)]
    split <;> rfl
  · have hq : ¬ (t : Int) = l := by omega
    simp only [if_neg hq]
    have z10 : ¬ zI 1 = (0 : Int32) := by decide
    obtain ⟨k1, k2, -, -⟩ := tk_all (l - t) (by omega) (by omega)
    by_cases c : ((l - t : Nat) : Int) ≤ 2 * t
    · have ew : wn (l - t) (l - t) = 1 := if_pos ⟨by omega, k2⟩
      have hW : ¬ (t = l ∨ 2 * t < tk (l - t)) := by omega
      rw [if_pos c, s_rd (by omega) (by omega) (by omega), eC_at _ _ (by omega), pw_29, hw (l - t) (l - t) (by omega) (Nat.le_refl _), ew, if_neg z10, if_neg hW]
    · have hh := hw (l - t) (2 * t) (by omega) (by omega)
      rw [Int.natCast_mul] at hh
      rw [if_neg c, s_rd (by omega) (by omega) (by omega), eC_at _ _ (by omega), pw_29, show (61 * ((l - t : Nat) : Int) + 2 * (t : Int)) = 61 * ((l - t : Nat) : Int) + ((2 : Nat) : Int) * (t : Int) from rfl, hh]
      by_cases c2 : tk (l - t) ≤ 2 * t
      · have ew : wn (l - t) (2 * t) = 1 := if_pos ⟨by omega, c2⟩
        have hW : ¬ (t = l ∨ 2 * t < tk (l - t)) := by omega
        rw [ew, if_neg z10, if_neg hW]
      · have ew : wn (l - t) (2 * t) = 0 := if_neg (by omega)
        have hW : (t = l ∨ 2 * t < tk (l - t)) := by omega
        rw [ew, if_pos (show zI 0 = (0 : Int32) by decide), if_pos hW]
theorem s_wrB {β : Type} (m d : Nat → Int → Int) {b : Int} (b0 : 0 ≤ b) (b1 : b < 3721) {v : Int} (hv : v = 0 ∨ v = 1) (K : qS → Option β) : q_wrZ (eC (pw m d)) 29 3721 (zI b) (zI v) K = K (eC (pw (ud m 29 b v) d)) := by
  have e : vp_nar .boolean (zI v) = zI v := by rcases hv with rfl | rfl <;> rfl
  rw [s_wrZ b0 (by omega) (by omega), e, eC_up _ _ b0, up_29]
theorem y_findWins {n : Nat} (n0 : 1 ≤ n) (n1 : n ≤ 60) : oK (fun σ => ∃ m', σ = eC (pw m' d) ∧ scr m m' ∧ wnr m' (n + 1)) (f_X7_findWins (eC (pw m d)) τ (zI n)) := by
  have e61 : (61 : Int32) = zI 61 := by decide
  unfold f_X7_findWins
  rw [z_0]
  refine ok_forI (τ := qS) (n + 1) (fun l u => ∃ m', u = eC (pw m' d) ∧ scr m m' ∧ wnr m' l) (fun again l u h0 h1 hu ih => ?_) 20000 0 _ (by omega) (by omega) ⟨m, rfl, scr_rf m, fun a o h _ => by omega⟩ (by omega)
  obtain ⟨m1, rfl, hs1, hw1⟩ := hu
  unfold b_X7_findWins_2
  dsimp only
  rw [z_s1, e61, z_mul, z_0, z_1]
  refine ok_ifE (z_lt (by omega) (by omega) (by omega) (by omega)) (fun c => ok_r ?_) (fun c => ?_)
  · obtain rfl : l = n + 1 := by omega
    exact ⟨m1, rfl, hs1, hw1⟩
  · have el : ((l.toNat : Nat) : Int) = l := Int.toNat_of_nonneg h0
    rw [s_wrB _ _ (by omega) (by omega) (Or.inl rfl)]
    refine ok_forI (τ := qS) (l + 1) (fun o u => 1 ≤ o ∧ ∃ m', u = eC (pw m' d) ∧ scr m m' ∧ wnr m' l ∧ ∀ q : Nat, (q : Int) < o → m' 29 (61 * l + q) = wn l.toNat q) (fun again2 o u h2 h3 hu ih2 => ?_) 20000 1 _ (by omega) (by omega) ⟨by omega, _, rfl, scr_tr hs1 (scr_ud (by decide)), fun a o h z => ?_, fun q hq => ?_⟩ (by omega)
    · obtain ⟨o1, m2, rfl, hs2, hw2, hq2⟩ := hu
      unfold b_X7_findWins_19
      dsimp only
      rw [z_s1, e61, z_mul, z_add, z_1, z_sub]
      refine ok_ifE (z_lt (by omega) (by omega) (by omega) (by omega)) (fun c3 => ih (by omega) _ ⟨m2, rfl, hs2, fun a q h z => ?_⟩) (fun c3 => ?_)
      · by_cases e : (a : Int) < l
        · exact hw2 a q e z
        · have ea : a = l.toNat := by omega
          subst ea
          rw [el]
          exact hq2 q (by omega)
      · obtain ⟨k1, k2, k3, k4⟩ := tk_all l.toNat (by omega) (by omega)
        have eo : ((o.toNat : Nat) : Int) = o := Int.toNat_of_nonneg h2
        have hprev := hq2 (o.toNat - 1) (by omega)
        have hwb := y_winsBy (d := d) (τ := τ) (m' := m2) (l := l.toNat) (t := o.toNat) (by omega) (by omega) (by omega) (by rw [el]; exact hw2)
        rw [el, eo] at hwb
        rw [s_rd (by omega) (by omega) (by omega), eC_at _ _ (by omega), pw_29, show 61 * l + o - 1 = 61 * l + ((o.toNat - 1 : Nat) : Int) by omega, hprev, hwb, s_cl]
        -- the new row
        have new : ∀ v : Int, (v = 0 ∨ v = 1) → v = wn l.toNat o.toNat → oK (fun σ => ∃ m', σ = eC (pw m' d) ∧ scr m m' ∧ wnr m' (n + 1)) (q_wrZ (eC (pw m2 d)) 29 3721 (zI (61 * l + o)) (zI v) fun σM_18 => again2 (zI (o + 1), σM_18)) := fun v hv ev => by
          rw [s_wrB _ _ (by omega) (by omega) hv]
          refine ih2 (by omega) _ ⟨by omega, _, rfl, scr_tr hs2 (scr_ud (by decide)), fun a q h z => ?_, fun q hq => ?_⟩
          · rw [ud_ne _ _ (by omega)]; exact hw2 a q h z
          · by_cases e : q = o.toNat
            · subst e
              rw [eo, ud_same, ev]
            · rw [ud_ne _ _ (by omega)]; exact hq2 q (by omega)
        have e1 : (1 : Int32) = zI 1 := z_1
        have e0 : (0 : Int32) = zI 0 := z_0
        by_cases cp : tk l.toNat ≤ o.toNat - 1
        · have ew : wn l.toNat (o.toNat - 1) = 1 := if_pos ⟨by omega, cp⟩
          rw [ew, if_neg (by decide)]
          exact new 1 (Or.inr rfl) (by unfold wn; rw [if_pos ⟨by omega, by omega⟩])
        · have ew : wn l.toNat (o.toNat - 1) = 0 := if_neg (by omega)
          rw [ew, if_pos (by decide)]
          by_cases cq : tk l.toNat = o.toNat
          · have hW : o.toNat = l.toNat ∨ 2 * o.toNat < tk (l.toNat - o.toNat) := by rw [← cq]; rcases k4 with z | z <;> omega
            rw [if_pos hW, if_neg (by decide)]
            exact new 1 (Or.inr rfl) (by unfold wn; rw [if_pos ⟨by omega, by omega⟩])
          · have := k3 o.toNat (by omega) (by omega)
            have hW : ¬ (o.toNat = l.toNat ∨ 2 * o.toNat < tk (l.toNat - o.toNat)) := by omega
            rw [if_neg hW, if_pos rfl, e0]
            exact new 0 (Or.inl rfl) (by unfold wn; rw [if_neg (by omega)])
    · rw [ud_ne _ _ (by omega)]; exact hw1 a o h z
    · have : q = 0 := by omega
      subst this
      show ud m1 29 (61 * l) 0 29 (61 * l + 0) = _
      rw [Int.add_zero, ud_same]
      unfold wn
      by_cases c4 : 1 ≤ l.toNat
      · have := (tk_all l.toNat (by omega) c4).1
        rw [if_neg (by omega)]
      · rw [if_neg (by omega)]
/-- the answer -/
def emA (n : Nat) (w : Int32) : Int32 := if w = zI 1 then zI (emV n) else if emV n = -6 then zI 0 else zI 1
theorem emV_b (n : Nat) (n1 : n ≤ 60) : -6 ≤ emV n ∧ emV n < 100 := by unfold emV; split <;> omega
theorem emV_6 {n : Nat} : emV n = -6 ∨ 0 ≤ emV n := by unfold emV; split <;> omega
theorem y_embers (σ : qS) {n : Nat} (n0 : 1 ≤ n) (n1 : n ≤ 60) {w : Int} (w0 : 0 ≤ w) (w1 : w ≤ 1) : oK (fun r => r.1 = emA n (zI w)) (f_X6_embers σ κ (zI n) (zI w)) := by
  have hb := emV_b n n1
  have e6 : (-6 : Int32) = zI (-6) := by decide
  unfold f_X6_embers emA
  rw [z_0, z_1, z_60, x_win (by omega) (by omega) (by omega) (by omega), x_win (by omega) (by omega) (by omega) (by omega), s_cl, s_cl, if_neg n10, if_neg n10]
  refine ok_cl (y_firstTake σ n0 n1) (fun y hy => ?_)
  rw [hy, e6]
  refine ok_if (fun c => ok_r ?_) (fun c => ok_ifE (z_eq (a := emV n) (by omega) (by omega) (by omega) (by omega)) (fun c2 => ok_r ?_) (fun c2 => ok_r ?_))
  · rw [if_pos c]
  · rw [if_neg c, if_pos c2]
  · rw [if_neg c, if_neg c2]
theorem y_embersM {n : Nat} (n0 : 1 ≤ n) (n1 : n ≤ 60) {w : Int} (w0 : 0 ≤ w) (w1 : w ≤ 1) : oK (fun r => r.1 = emA n (zI w) ∧ msc m d r.2) (f_X7_embers (eC (pw m d)) τ (zI n) (zI w)) := by
  obtain ⟨k1, k2, k3, k4⟩ := tk_all n (by omega) n0
  have hb := emV_b n n1
  have h6 := emV_6 (n := n)
  unfold f_X7_embers
  have e60 : (60 : Int64) = zL 60 := zl_60
  rw [zl_0, zl_1, e60, z_l (by omega) (by omega), z_l (by omega) (by omega), m_inT (by omega) (by omega) (by omega) (by omega), m_inT (by omega) (by omega) (by omega) (by omega), s_cl, s_cl, if_neg (by decide), if_neg (by decide)]
  refine ok_cl (y_findWins (m := m) (τ := τ) n0 n1) (fun u hu => ?_)
  obtain ⟨m1, rfl, hs1, hw1⟩ := hu
  rw [z_1, z_sub, s_bd]
  refine ok_dn (τ := Int32) 0 (fun s f => s < n ∧ (tk n = n → f = zI (-6)) ∧ (tk n < n → s < tk n → f = zI (tk n))) (fun again s f h0 hp ih => ?_) 20000 _ _ (by omega) ⟨by omega, fun _ => by decide, fun a b => by omega⟩ (by omega)
  obtain ⟨p1, p2, p3⟩ := hp
  unfold b_X7_embers_38
  dsimp only
  have em : (-1 : Int32) = zI (-1) := by decide
  rw [em, z_add, z_0]
  refine ok_ifE (z_le (by omega) (by omega) (by omega) (by omega)) (fun c => ?_) (fun c => ?_)
  · have ef : f = zI (emV n) := by
      unfold emV
      by_cases e : tk n < n
      · rw [if_pos e]; exact p3 e (by omega)
      · rw [if_neg e]; exact p2 (by omega)
    subst ef
    unfold emA
    refine ok_if (fun c => ok_r ⟨by rw [if_pos c], m1, rfl, hs1⟩) (fun c => ok_ifE (z_le (by omega) (by omega) (by omega) (by omega)) (fun c2 => ok_r ⟨?_, m1, rfl, hs1⟩) (fun c2 => ok_r ⟨?_, m1, rfl, hs1⟩))
    · rw [if_neg c, if_neg (by omega)]
    · rw [if_neg c, if_pos (by omega)]
  · have es : ((s.toNat : Nat) : Int) = s := Int.toNat_of_nonneg h0
    have hwb := y_winsBy (d := d) (τ := τ) (m' := m1) (l := n) (t := s.toNat) (by omega) (by omega) n1 (fun a o h z => hw1 a o (by omega) z)
    rw [es] at hwb
    rw [hwb, s_cl, show s + -1 = s - 1 by omega]
    by_cases cW : s.toNat = n ∨ 2 * s.toNat < tk (n - s.toNat)
    · rw [if_pos cW, if_neg (by decide)]
      refine ih (by omega) _ ⟨by omega, fun z => ?_, fun a b => ?_⟩
      · have := k3 s.toNat (by omega) (by omega)
        omega
      · by_cases e : s = tk n
        · rw [e]
        · have := k3 s.toNat (by omega) (by omega)
          omega
    · rw [if_neg cW, ← z_0, if_pos rfl]
      refine ih (by omega) _ ⟨by omega, p2, fun a b => ?_⟩
      by_cases e : s = tk n
      · have e2 : s.toNat = tk n := by omega
        rw [e2] at cW
        rcases k4 with z | z <;> omega
      · exact p3 a (by omega)
theorem c_embers (σ : qS) (a w : Int32) : ∃ r s m', f_X6_embers σ κ a w = some (r, s) ∧ f_X7_embers (eC (pw m d)) τ a w = some (r, eC (pw m' d)) ∧ frN m m' := by
  obtain ⟨a, a0, a1, rfl⟩ := z_of a
  obtain ⟨w, w0, w1, rfl⟩ := z_of w
  by_cases ca : 1 ≤ a ∧ a ≤ 60
  · by_cases cw : 0 ≤ w ∧ w ≤ 1
    · have ea : a = ((a.toNat : Nat) : Int) := by omega
      rw [ea]
      obtain ⟨⟨r1, s1⟩, e1, h1⟩ := y_embers (κ := κ) σ (n := a.toNat) (by omega) (by omega) cw.1 cw.2
      obtain ⟨⟨r2, s2⟩, e2, h2, m', e3, hs⟩ := y_embersM (m := m) (d := d) (τ := τ) (n := a.toNat) (by omega) (by omega) cw.1 cw.2
      dsimp only at h1 h2 e3
      subst h1 h2 e3
      exact ⟨_, s1, m', e1, e2, frN_scr hs⟩
    · unfold f_X6_embers f_X7_embers
      rw [z_0, z_1, z_60, zl_0, zl_1, zl_60, z_l a0 a1, z_l w0 w1, x_within a0 a1 (by omega) (by omega) (by omega) (by omega), x_within w0 w1 (by omega) (by omega) (by omega) (by omega), m_in (by omega) (by omega) (by omega) (by omega) (by omega) (by omega), m_in (by omega) (by omega) (by omega) (by omega) (by omega) (by omega), s_cl, s_cl, s_cl, s_cl, if_pos ca, if_neg n10, if_neg n10, if_neg cw, if_pos rfl, if_pos rfl]
      exact ⟨_, σ, m, rfl, rfl, frN_rf m⟩
  · unfold f_X6_embers f_X7_embers
    rw [z_0, z_1, z_60, zl_0, zl_1, zl_60, z_l a0 a1, z_l w0 w1, x_within a0 a1 (by omega) (by omega) (by omega) (by omega), m_in (by omega) (by omega) (by omega) (by omega) (by omega) (by omega), s_cl, s_cl, if_neg ca, if_pos rfl, if_pos rfl]
    exact ⟨_, σ, m, rfl, rfl, frN_rf m⟩
end EMB

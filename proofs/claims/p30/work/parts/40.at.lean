/-- the roads as ways -/
def fw0 (d : Nat → Int → Int) (e : Int) : Int := if e / 11 = e % 11 then 0 else if 0 < d 0 e then d 0 e else 1000
def fwS (p e : Int) (T : Int → Int) : Int → Int := fun x => if x = e then (if T (11 * (e / 11) + p) + T (11 * p + e % 11) < T e then T (11 * (e / 11) + p) + T (11 * p + e % 11) else T e) else T x
/-- ways past so many -/
def fw (d : Nat → Int → Int) : Nat → Int → Int
  | 0 => fw0 d
  | s + 1 => fwS ((s / 121 : Nat) : Int) ((s % 121 : Nat) : Int) (fw d s)
def Wy (d : Nat → Int → Int) : Int → Int := fw d 1331
section NEAR
variable {d m : Nat → Int → Int} {τ : qL}
theorem fw_b (hd : okd d) : ∀ (s : Nat) (e : Int), 0 ≤ fw d s e ∧ fw d s e ≤ 1000 := by
  intro s
  induction s with
  | zero =>
    intro e
    have := okd_0 hd e
    show 0 ≤ fw0 d e ∧ fw0 d e ≤ 1000
    unfold fw0
    repeat' split
    all_goals omega
  | succ s ih =>
    intro e
    show 0 ≤ fwS _ _ (fw d s) e ∧ fwS _ _ (fw d s) e ≤ 1000
    unfold fwS
    have a1 := ih e
    have a2 := ih ((s % 121 : Nat) : Int)
    have a3 := ih (11 * (((s % 121 : Nat) : Int) / 11) + ((s / 121 : Nat) : Int))
    have a4 := ih (11 * ((s / 121 : Nat) : Int) + ((s % 121 : Nat) : Int) % 11)
    split
    · split <;> omega
    · exact a1
theorem fw_at {p e : Int} (p0 : 0 ≤ p) (e0 : 0 ≤ e) (e1 : e < 121) : fw d ((p * 121 + e).toNat + 1) = fwS p e (fw d (p * 121 + e).toNat) := by
  show fwS _ _ _ = _
  rw [show (((p * 121 + e).toNat / 121 : Nat) : Int) = p by omega, show (((p * 121 + e).toNat % 121 : Nat) : Int) = e by omega]
/-- a row holds a table -/
def TB (σ : qS) (k : Nat) (T : Int → Int) : Prop := ∀ e, 0 ≤ e → e < 121 → σ k e.toNat = zI (T e)
theorem TB_up {σ : qS} {T : Int → Int} (h : TB σ 0 T) {e v : Int} (e0 : 0 ≤ e) (e1 : e < 121) : TB (q_up σ 0 (upd (σ 0) e.toNat (zI v))) 0 (fun x => if x = e then v else T x) := fun x x0 x1 => by
  show upd (σ 0) e.toNat (zI v) x.toNat = _
  unfold upd
  by_cases c : x = e
  · dsimp only
    rw [if_pos (by rw [c]), if_pos c]
  · dsimp only
    rw [if_neg (by omega), if_neg c]; exact h x x0 x1
theorem TB_ext {σ : qS} {k : Nat} {T T' : Int → Int} (h : TB σ k T) (he : ∀ e, 0 ≤ e → e < 121 → T e = T' e) : TB σ k T' := fun e e0 e1 => by rw [← he e e0 e1]; exact h e e0 e1
theorem y_leastWay {σ : qS} {T : Int → Int} (h : TB σ 0 T) {a b : Int} (a0 : 0 ≤ a) (a1 : a ≤ 10) (b0 : 0 ≤ b) (b1 : b ≤ 10) : f_X5_leastWay σ (zI a) (zI b) = some (zI (T (a * 11 + b))) := by
  unfold f_X5_leastWay
  rw [x_pla (by omega) (by omega), x_pla (by omega) (by omega), s_cl, s_cl, if_neg (by decide), if_neg (by decide), z_11, z_mul, z_add, s_rd (by omega) (by omega) (by omega), h _ (by omega) (by omega)]
theorem y_shortenPast (hd : okd d) {σ : qS} {p a : Int} (p0 : 0 ≤ p) (p1 : p ≤ 10) (a0 : 0 ≤ a) (a1 : a ≤ 10) (h : TB σ 0 (fw d (p * 121 + a * 11).toNat)) : oK (fun s => TB s 0 (fw d (p * 121 + a * 11 + 11).toNat)) (f_X5_shortenPast σ (zI p) (zI a)) := by
  unfold f_X5_shortenPast
  rw [z_0]
  refine ok_forI (τ := qS) 11 (fun i s => TB s 0 (fw d (p * 121 + a * 11 + i).toNat)) (fun again i s h0 h1 hs ih => ?_) 20000 0 σ (by omega) (by omega) (by rw [Int.add_zero]; exact h) (by omega)
  unfold b_X5_shortenPast_2
  dsimp only
  rw [z_11, z_s1]
  refine ok_if (fun c => ok_r ?_) (fun c => ?_)
  · have := t_le h0 (by omega) (by omega) (by omega) c
    obtain rfl : i = 11 := by omega
    exact hs
  have hi := t_nle h0 (by omega) (by omega) (by omega) c
  have b1 := fw_b hd (p * 121 + a * 11 + i).toNat (a * 11 + p)
  have b2 := fw_b hd (p * 121 + a * 11 + i).toNat (p * 11 + i)
  have b3 := fw_b hd (p * 121 + a * 11 + i).toNat (a * 11 + i)
  have en : (p * 121 + a * 11 + (i + 1)).toNat = (p * 121 + (a * 11 + i)).toNat + 1 := by omega
  have eq : p * 121 + a * 11 + i = p * 121 + (a * 11 + i) := by omega
  rw [y_leastWay hs a0 a1 p0 p1, s_cl, y_leastWay hs p0 p1 h0 (by omega), s_cl, y_leastWay hs a0 a1 h0 (by omega), z_add, s_bd, s_cl, x_pla (by omega) (by omega), s_cl]
  simp (disch := omega) only [z_le]
  rw [if_neg (show ¬ zI 1 = (0 : Int32) by decide)]
  have hstep : ∀ x, fw d (p * 121 + a * 11 + (i + 1)).toNat x = if x = a * 11 + i then (if fw d (p * 121 + a * 11 + i).toNat (a * 11 + p) + fw d (p * 121 + a * 11 + i).toNat (p * 11 + i) < fw d (p * 121 + a * 11 + i).toNat (a * 11 + i) then fw d (p * 121 + a * 11 + i).toNat (a * 11 + p) + fw d (p * 121 + a * 11 + i).toNat (p * 11 + i) else fw d (p * 121 + a * 11 + i).toNat (a * 11 + i)) else fw d (p * 121 + a * 11 + i).toNat x := fun x => by
    rw [en, fw_at p0 (by omega) (by omega), ← eq]
    unfold fwS
    rw [show 11 * ((a * 11 + i) / 11) + p = a * 11 + p by omega, show 11 * p + (a * 11 + i) % 11 = p * 11 + i by omega]
  refine ok_if (fun c2 => ih hi _ (TB_ext hs (fun e _ _ => ?_))) (fun c2 => ?_)
  · rw [hstep e]
    by_cases z : e = a * 11 + i
    · rw [if_pos z, if_neg (by omega), z]
    · rw [if_neg z]
  · rw [z_mul, z_add, s_wr (by omega) (by omega) (by omega)]
    refine ih hi _ (TB_ext (TB_up hs (by omega) (by omega)) (fun e _ _ => ?_))
    rw [hstep e]
    by_cases z : e = a * 11 + i
    · rw [if_pos z, if_pos z, if_pos (by omega)]
    · rw [if_neg z, if_neg z]
theorem y_measure (hd : okd d) (σ : qS) : oK (fun s => TB s 0 (Wy d)) (f_X5_measure σ (eC d)) := by
  unfold f_X5_measure
  rw [z_0]
  refine ok_forI (τ := qS) 11 (fun i s => ∀ e, 0 ≤ e → e < i * 11 → s 0 e.toNat = zI (fw0 d e)) (fun again i s h0 h1 hs ih => ?_) 20000 0 σ (by omega) (by omega) (fun e e0 e1 => by omega) (by omega)
  unfold b_X5_measure_2
  dsimp only
  rw [z_11, z_s1, z_0]
  refine ok_if (fun c => ?_) (fun c => ?_)
  · have hh := t_le h0 (by omega) (by omega) (by omega) c
    refine ok_forI (τ := qS) 11 (fun p s => TB s 0 (fw d (p * 121).toNat)) (fun again p s h2 h3 hs ih => ?_) 20000 0 s (by omega) (by omega) (by rw [Int.zero_mul, Int.toNat_zero]; exact fun e e0 e1 => hs e e0 (by omega)) (by omega)
    unfold b_X5_measure_74
    dsimp only
    rw [z_11, z_s1, z_0]
    refine ok_if (fun c => ok_r ?_) (fun c => ?_)
    · have := t_le h2 (by omega) (by omega) (by omega) c
      obtain rfl : p = 11 := by omega
      exact hs
    have hp := t_nle h2 (by omega) (by omega) (by omega) c
    refine ok_forI (τ := qS) 11 (fun a s => TB s 0 (fw d (p * 121 + a * 11).toNat)) (fun again2 a s h4 h5 hs ih2 => ?_) 20000 0 s (by omega) (by omega) (by rw [Int.zero_mul, Int.add_zero]; exact hs) (by omega)
    unfold b_X5_measure_82
    dsimp only
    rw [z_11, z_s1]
    refine ok_if (fun c => ih hp _ ?_) (fun c => ?_)
    · have := t_le h4 (by omega) (by omega) (by omega) c
      rw [show (p + 1) * 121 = p * 121 + a * 11 by omega]
      exact hs
    · have ha := t_nle h4 (by omega) (by omega) (by omega) c
      refine ok_cl (y_shortenPast hd h2 (by omega) h4 (by omega) hs) (fun s' hs' => ih2 ha _ ?_)
      rw [show p * 121 + (a + 1) * 11 = p * 121 + a * 11 + 11 by omega]
      exact hs'
  · have hi := t_nle h0 (by omega) (by omega) (by omega) c
    refine ok_forI (τ := qS) 11 (fun j s => (∀ e, 0 ≤ e → e < i * 11 → s 0 e.toNat = zI (fw0 d e)) ∧ ∀ e, i * 11 ≤ e → e < i * 11 + j → e % 11 ≠ i → s 0 e.toNat = zI (fw0 d e)) (fun again2 j s h2 h3 hs ih2 => ?_) 20000 0 s (by omega) (by omega) ⟨hs, fun e a b => by omega⟩ (by omega)
    unfold b_X5_measure_10
    dsimp only
    rw [z_11, z_s1, z_mul, z_add]
    refine ok_if (fun c => ?_) (fun c => ?_)
    · have hh := t_le h2 (by omega) (by omega) (by omega) c
      rw [s_wr (by omega) (by omega) (by omega)]
      refine ih hi _ (fun e e0 e1 => ?_)
      show upd (s 0) (i * 11 + i).toNat (zI 0) e.toNat = _
      unfold upd
      by_cases z : e = i * 11 + i
      · rw [if_pos (by rw [z])]
        unfold fw0
        rw [if_pos (by omega)]
      · rw [if_neg (by omega)]
        by_cases y : e < i * 11
        · exact hs.1 e e0 y
        · exact hs.2 e (by omega) (by omega) (by omega)
    · have hj := t_nle h2 (by omega) (by omega) (by omega) c
      have hb := okd_0 hd (i * 11 + j)
      rw [x_longBetween d h0 (by omega) h2 (by omega), s_cl, z_add, z_1000, s_wr (by omega) (by omega) (by omega), s_wr (by omega) (by omega) (by omega)]
      simp (disch := omega) only [road_le hd]
      have hnew : ∀ v, (j ≠ i → v = fw0 d (i * 11 + j)) → (∀ e, 0 ≤ e → e < i * 11 → (q_up s 0 (upd (s 0) (i * 11 + j).toNat (zI v))) 0 e.toNat = zI (fw0 d e)) ∧ ∀ e, i * 11 ≤ e → e < i * 11 + (j + 1) → e % 11 ≠ i → (q_up s 0 (upd (s 0) (i * 11 + j).toNat (zI v))) 0 e.toNat = zI (fw0 d e) := fun v hv => by
        refine ⟨fun e e0 e1 => ?_, fun e e0 e1 e2 => ?_⟩
        · show upd (s 0) (i * 11 + j).toNat (zI v) e.toNat = _
          unfold upd
          rw [if_neg (by omega)]
          exact hs.1 e e0 e1
        · show upd (s 0) (i * 11 + j).toNat (zI v) e.toNat = _
          unfold upd
          by_cases z : e = i * 11 + j
          · rw [if_pos (by rw [z]), hv (by omega), z]
          · rw [if_neg (by omega)]
            exact hs.2 e e0 (by omega) e2
      refine ok_if (fun c2 => ih2 hj _ (hnew 1000 (fun z => ?_))) (fun c2 => ih2 hj _ (hnew _ (fun z => ?_)))
      · unfold fw0
        rw [if_neg (by omega), if_neg c2]
      · unfold fw0
        rw [if_neg (by omega), if_pos (by omega)]
theorem Wy_b (hd : okd d) (e : Int) : 0 ≤ Wy d e ∧ Wy d e ≤ 1000 := fw_b hd 1331 e
/-- the next place -/
def nxtP (d : Nat → Int → Int) (a b p : Int) : Prop := 0 < d 0 (a * 11 + p) ∧ d 0 (a * 11 + p) + Wy d (p * 11 + b) = Wy d (a * 11 + b)
def isN (d : Nat → Int → Int) (a b : Int) (r : Int32) : Prop := (∃ p, 0 ≤ p ∧ p ≤ 10 ∧ nxtP d a b p ∧ (∀ q, 0 ≤ q → q < p → ¬ nxtP d a b q) ∧ r = zI p) ∨ ((∀ p, 0 ≤ p → p ≤ 10 → ¬ nxtP d a b p) ∧ r = zI (-6))
theorem isN_un {a b : Int} {r r' : Int32} (h : isN d a b r) (h' : isN d a b r') : r = r' := by
  rcases h with ⟨p, p0, p1, p2, p3, p4⟩ | ⟨p2, p4⟩
  · rcases h' with ⟨q, q0, q1, q2, q3, q4⟩ | ⟨q2, q4⟩
    · rcases (show p < q ∨ p = q ∨ q < p by omega) with c | c | c
      · exact absurd p2 (q3 p p0 c)
      · rw [p4, q4, c]
      · exact absurd q2 (p3 q q0 c)
    · exact absurd p2 (q2 p p0 p1)
  · rcases h' with ⟨q, q0, q1, q2, q3, q4⟩ | ⟨q2, q4⟩
    · exact absurd q2 (p2 q q0 q1)
    · rw [p4, q4]
/-- what near answers -/
def isA (d : Nat → Int → Int) (a b w : Int) (r : Int32) : Prop := if 1000 ≤ Wy d (a * 11 + b) then r = zI (-6) else if w = 0 then r = zI (Wy d (a * 11 + b)) else if a = b then r = zI (-6) else isN d a b r
theorem isA_1 {a b w : Int} {r : Int32} (h : 1000 ≤ Wy d (a * 11 + b)) (e : r = zI (-6)) : isA d a b w r := by unfold isA; rw [if_pos h]; exact e
theorem isA_2 {a b w : Int} {r : Int32} (h : ¬ 1000 ≤ Wy d (a * 11 + b)) (hw : w = 0) (e : r = zI (Wy d (a * 11 + b))) : isA d a b w r := by unfold isA; rw [if_neg h, if_pos hw]; exact e
theorem isA_3 {a b w : Int} {r : Int32} (h : ¬ 1000 ≤ Wy d (a * 11 + b)) (hw : ¬ w = 0) (hab : a = b) (e : r = zI (-6)) : isA d a b w r := by unfold isA; rw [if_neg h, if_neg hw, if_pos hab]; exact e
theorem isA_4 {a b w : Int} {r : Int32} (h : ¬ 1000 ≤ Wy d (a * 11 + b)) (hw : ¬ w = 0) (hab : ¬ a = b) (e : isN d a b r) : isA d a b w r := by unfold isA; rw [if_neg h, if_neg hw, if_neg hab]; exact e
theorem y_near (hd : okd d) (σ : qS) {a b w : Int} (a0 : 0 ≤ a) (a1 : a ≤ 10) (b0 : 0 ≤ b) (b1 : b ≤ 10) (w0 : 0 ≤ w) (w1 : w ≤ 1) : oK (fun r => isA d a b w r.1) (f_X6_near σ (eC d) (zI a) (zI b) (zI w)) := by
  have e6 : (-6 : Int32) = zI (-6) := by decide
  have hW := Wy_b hd (a * 11 + b)
  have hhow : ∀ s, TB s 0 (Wy d) → f_X5_howFar s (zI a) (zI b) = some (if 1000 ≤ Wy d (a * 11 + b) then zI (-6) else zI (Wy d (a * 11 + b))) := fun s hs => by
    unfold f_X5_howFar
    rw [y_leastWay hs a0 a1 b0 b1, s_cl, z_1000, e6, s_ite]
    simp (disch := omega) only [z_le]
  unfold f_X6_near
  rw [x_pla (by omega) (by omega), x_pla (by omega) (by omega), z_0, z_1, x_win (by omega) (by omega) (by omega) (by omega), s_cl, s_cl, s_cl, if_neg (by decide), if_neg (by decide), if_neg (by decide)]
  refine ok_cl (y_measure hd σ) (fun s hs => ?_)
  unfold f_X5_nextPlace
  rw [hhow s hs, s_cl, s_cl]
  refine ok_ifE (z_eq (by omega) (by omega) (by omega) (by omega)) (fun c => ok_r ?_) (fun c => ?_)
  · by_cases cf : 1000 ≤ Wy d (a * 11 + b)
    · exact isA_1 cf (by rw [if_pos cf])
    · exact isA_2 cf c (by rw [if_neg cf])
  · by_cases cf : 1000 ≤ Wy d (a * 11 + b)
    · rw [if_pos cf, if_pos e6.symm, s_cl]
      exact ok_r (isA_1 cf e6)
    · have nq : ¬ zI (Wy d (a * 11 + b)) = (-6 : Int32) := by rw [e6, z_eq (by omega) (by omega) (by omega) (by omega)]; omega
      rw [if_neg cf, if_neg nq]
      by_cases cab : a = b
      · rw [if_pos (show zI a = zI b by rw [cab]), s_cl]
        exact ok_r (isA_3 cf c cab e6)
      · have nab : ¬ zI a = zI b := by rw [z_eq (by omega) (by omega) (by omega) (by omega)]; exact cab
        rw [if_neg nab]
        refine ok_cl (P := isN d a b) ?_ (fun r hr => ok_r (isA_4 cf c cab hr))
        rw [z_0]
        refine ok_forI1 11 (fun i => ∀ q, 0 ≤ q → q < i → ¬ nxtP d a b q) (fun again i h0 h1 hp ih => ?_) 20000 0 (by omega) (by omega) (fun q _ _ => by omega) (by omega)
        unfold b_X5_nextPlace_26
        rw [z_11, z_s1]
        refine ok_if (fun c => ok_r ?_) (fun c => ?_)
        · have := t_le h0 (by omega) (by omega) (by omega) c
          exact Or.inr ⟨fun p p0 p1 => hp p p0 (by omega), e6⟩
        · have hi := t_nle h0 (by omega) (by omega) (by omega) c
          have h2 := okd_0 hd (a * 11 + i)
          have h3 := Wy_b hd (i * 11 + b)
          rw [x_longBetween d a0 a1 h0 (by omega), s_cl, y_leastWay hs h0 (by omega) b0 b1, s_cl, z_add]
          simp (disch := omega) only [road_le hd, z_eq]
          have more : ¬ nxtP d a b i → ∀ q, 0 ≤ q → q < i + 1 → ¬ nxtP d a b q := fun hn q q0 q1 => by
            by_cases z : q = i
            · rw [z]; exact hn
            · exact hp q q0 (by omega)
          refine ok_if (fun c2 => ih hi (more (fun z => c2 z.1))) (fun c2 => ok_if (fun c3 => ok_r (Or.inl ⟨i, h0, by omega, ⟨by omega, c3⟩, hp, rfl⟩)) (fun c3 => ih hi (more (fun z => c3 z.2))))
end NEAR


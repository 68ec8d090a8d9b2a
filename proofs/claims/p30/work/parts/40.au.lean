/-- HEAT behind a bed, or -1 -/
def gHt (d : Nat → Int → Int) (x : Int) (l : Nat) : Int := if d 2 l = 0 ∧ 9 * d 1 l < x then (if 0 < x - 5 then x - 5 else 0) else -1
/-- the best of those that can be the one before, below p -/
def mxB (d : Nat → Int → Int) (T : Nat → Nat → Int) (r l : Nat) : Nat → Int
  | 0 => -1
  | p + 1 => if r.testBit p = true ∧ 0 ≤ T r p ∧ mxB d T r l p < gHt d (T r p - Wy d ((p : Int) * 11 + l)) l then gHt d (T r p - Wy d ((p : Int) * 11 + l)) l else mxB d T r l p
/-- a set's row, from the rows of the lesser sets -/
def pull (d : Nat → Int → Int) (h : Int) (T : Nat → Nat → Int) (s l : Nat) : Int := if s.testBit l = true then (if s = 2 ^ l then gHt d (h - Wy d (110 + l)) l else mxB d T (s - 2 ^ l) l 10) else -1
/-- the table of the sets below -/
def tabR (d : Nat → Int → Int) (h : Int) : Nat → Nat → Nat → Int
  | 0 => fun _ _ => -1
  | n + 1 => fun s l => if s = n then pull d h (tabR d h n) s l else tabR d h n s l
/-- most HEAT behind a set, the last one told -/
def VR (d : Nat → Int → Int) (h : Int) (s l : Nat) : Int := tabR d h 1024 s l
def btC (s l : Nat) : Bool :=
  if s.testBit l = true then Nat.ble (2 ^ l) s && (nI s &&& (((1 : Int32) <<< (nI l &&& 31)) ^^^ (-1)) == nI (s - 2 ^ l)) && !((s - 2 ^ l).testBit l)
  else Nat.ble (s + 2 ^ l + 1) 1024 && (s + 2 ^ l).testBit l && (nI s ||| ((1 : Int32) <<< (nI l &&& 31)) == nI (s + 2 ^ l))
theorem bt_32 : ∀ a : Nat, a < 32 → ∀ b : Nat, b < 32 → ∀ l : Nat, l < 10 → btC (32 * a + b) l = true := by decide +kernel
theorem bt_at {s l : Nat} (hs : s < 1024) (hl : l < 10) : btC s l = true := by
  have e : 32 * (s / 32) + s % 32 = s := by omega
  have := bt_32 (s / 32) (by omega) (s % 32) (by omega) l hl
  rwa [e] at this
theorem bt_one : ∀ l : Nat, l < 10 → 2 ^ l < 1024 ∧ (2 ^ l).testBit l = true ∧ (1 : Int32) <<< (nI l &&& 31) = nI (2 ^ l) ∧ 0 < 2 ^ l := by decide +kernel
theorem bt_in {s l : Nat} (hs : s < 1024) (hl : l < 10) (h : s.testBit l = true) : 2 ^ l ≤ s ∧ nI s &&& (((1 : Int32) <<< (nI l &&& 31)) ^^^ (-1)) = nI (s - 2 ^ l) ∧ (s - 2 ^ l).testBit l = false := by
  have k := bt_at hs hl
  unfold btC at k
  rw [if_pos h, Bool.and_eq_true, Bool.and_eq_true, beq_iff_eq, Bool.not_eq_true'] at k
  exact ⟨Nat.le_of_ble_eq_true k.1.1, k.1.2, k.2⟩
theorem bt_out {s l : Nat} (hs : s < 1024) (hl : l < 10) (h : s.testBit l = false) : s + 2 ^ l < 1024 ∧ (s + 2 ^ l).testBit l = true ∧ nI s ||| ((1 : Int32) <<< (nI l &&& 31)) = nI (s + 2 ^ l) := by
  have k := bt_at hs hl
  unfold btC at k
  rw [if_neg (by rw [h]; decide), Bool.and_eq_true, Bool.and_eq_true, beq_iff_eq] at k
  exact ⟨Nat.le_of_ble_eq_true k.1.1, k.1.2, k.2⟩
section ROUND
variable {d m : Nat → Int → Int} {τ : qL} {h : Int}
theorem gHt_b (x : Int) (l : Nat) : -1 ≤ gHt d x l ∧ (gHt d x l ≤ x ∨ gHt d x l ≤ 0) := by
  unfold gHt
  split
  · split <;> omega
  · omega
theorem mxB_b {T : Nat → Nat → Int} (hT : ∀ s l, T s l ≤ 99) (hd : okd d) (r l : Nat) : ∀ p, -1 ≤ mxB d T r l p ∧ mxB d T r l p ≤ 99 := by
  intro p
  induction p with
  | zero => exact ⟨by show (-1 : Int) ≤ -1; omega, by show (-1 : Int) ≤ 99; omega⟩
  | succ p ih =>
    have a := gHt_b (d := d) (T r p - Wy d ((p : Int) * 11 + l)) l
    have b := Wy_b hd ((p : Int) * 11 + l)
    have c := hT r p
    unfold mxB
    split <;> omega
theorem tabR_b (hd : okd d) (h1 : h ≤ 99) : ∀ (n s l : Nat), -1 ≤ tabR d h n s l ∧ tabR d h n s l ≤ 99 := by
  intro n
  induction n with
  | zero => intro s l; exact ⟨by show (-1 : Int) ≤ -1; omega, by show (-1 : Int) ≤ 99; omega⟩
  | succ n ih =>
    intro s l
    show -1 ≤ (if _ then _ else _) ∧ (if _ then _ else _) ≤ _
    by_cases c : s = n
    · rw [if_pos c]
      unfold pull
      have a := gHt_b (d := d) (h - Wy d (110 + l)) l
      have b := Wy_b hd (110 + (l : Int))
      have e := mxB_b (fun s l => (ih s l).2) hd (s - 2 ^ l) l 10
      split
      · split <;> omega
      · omega
    · rw [if_neg c]; exact ih s l
theorem VR_b (hd : okd d) (h1 : h ≤ 99) (s l : Nat) : -1 ≤ VR d h s l ∧ VR d h s l ≤ 99 := tabR_b hd h1 1024 s l
theorem tabR_st {n k s l : Nat} (h1 : s < n) (h2 : n ≤ k) : tabR d h k s l = tabR d h n s l := by
  induction h2 with
  | refl => rfl
  | @step k hk ih =>
    show (if s = k then _ else _) = _
    rw [if_neg (by have := Nat.le_trans (Nat.succ_le_of_lt h1) hk; omega), ih]
theorem VR_tab {n s l : Nat} (h1 : s < n) (h2 : n ≤ 1024) : tabR d h n s l = VR d h s l := (tabR_st h1 h2).symm
theorem mxB_ext {T T' : Nat → Nat → Int} {r l : Nat} (he : ∀ p, T r p = T' r p) : ∀ p, mxB d T r l p = mxB d T' r l p := by
  intro p
  induction p with
  | zero => rfl
  | succ p ih =>
    unfold mxB
    rw [ih, he p]
theorem VR_eq {s l : Nat} (hs : s < 1024) (hl : l < 10) : VR d h s l = pull d h (VR d h) s l := by
  have e : VR d h s l = pull d h (tabR d h s) s l := by
    rw [← VR_tab (n := s + 1) (by omega) (by omega)]
    show (if s = s then _ else _) = _
    rw [if_pos rfl]
  rw [e]
  unfold pull
  by_cases c : s.testBit l = true
  · rw [if_pos c, if_pos c]
    by_cases c2 : s = 2 ^ l
    · rw [if_pos c2, if_pos c2]
    · rw [if_neg c2, if_neg c2]
      have hb := bt_in hs hl c
      have hp := (bt_one l hl).2.2.2
      exact mxB_ext (fun p => VR_tab (by omega) (by omega)) 10
  · rw [if_neg c, if_neg c]
theorem VR_not {s l : Nat} (hs : s < 1024) (hl : l < 10) (c : ¬ s.testBit l = true) : VR d h s l = -1 := by
  rw [VR_eq hs hl]
  exact if_neg c
/-- its table holds these -/
def HT (η : qS) (T : Nat → Nat → Int) : Prop := ∀ s l : Nat, s < 1024 → l < 10 → η 0 (s * 10 + l) = zI (T s l)
theorem y_heatLeft {σ η : qS} {T : Nat → Nat → Int} (hT : HT η T) {s l : Nat} (hs : s < 1024) (hl : l < 10) : f_X5_heatLeft σ η (zI s) (zI l) = some (zI (T s l)) := by
  unfold f_X5_heatLeft
  rw [z_0, z_1023, x_win (by omega) (by omega) (by omega) (by omega), s_cl, if_neg (by decide), x_hou (by omega) (by omega), s_cl, if_neg (by decide), z_10, z_mul, z_add, s_rd (by omega) (by omega) (by omega), show ((s : Int) * 10 + l).toNat = s * 10 + l by omega, hT s l hs hl]
/-- one warmed: the most is kept -/
theorem y_warm (hd : okd d) {σ η : qS} {T : Nat → Nat → Int} (hT : HT η T) (hb : ∀ s l, -1 ≤ T s l ∧ T s l ≤ 99) {s l : Nat} (hs : s < 1024) (hl : l < 10) {x : Int} (x0 : -100000 ≤ x) (x1 : x ≤ 100000) : oK (fun η' => HT η' (fun a b => if a = s ∧ b = l then (if T s l < gHt d x l then gHt d x l else T s l) else T a b)) (f_X5_warm σ η (eC d) (zI s) (zI l) (zI x)) := by
  have h2 := okd_2 hd l
  have h1 := okd_1 hd l
  have hq := hb s l
  have same : gHt d x l ≤ T s l → HT η (fun a b => if a = s ∧ b = l then (if T s l < gHt d x l then gHt d x l else T s l) else T a b) := fun hle a b ha hb' => by
    by_cases c : a = s ∧ b = l
    · obtain ⟨rfl, rfl⟩ := c
      dsimp only
      rw [if_pos ⟨rfl, rfl⟩, if_neg (by omega)]
      exact hT a b ha hb'
    · dsimp only
      rw [if_neg c]
      exact hT a b ha hb'
  unfold f_X5_warm
  rw [x_isDamp d hd (by omega) (by omega), s_cl, z_0, x_isConvinced d hd (by omega) (by omega) (by omega) (by omega), s_cl]
  refine ok_ifE (z_eq (by omega) (by omega) (by omega) (by omega)) (fun c => ?_) (fun c => ok_r (same (by unfold gHt; rw [if_neg (by omega)]; exact hq.1)))
  by_cases c2 : 9 * d 1 l < x
  · rw [if_pos c2, if_neg n10, z_5, z_sub, z_ite, s_bd, y_heatLeft hT hs hl, s_cl]
    simp (disch := omega) only [z_lt]
    have eg : gHt d x l = (if 0 < x - 5 then x - 5 else 0) := by unfold gHt; rw [if_pos ⟨c, c2⟩]
    rw [← eg]
    have hg := gHt_b (d := d) x l
    refine ok_ifE (z_le (by omega) (by omega) (by omega) (by omega)) (fun c3 => ok_r (same c3)) (fun c3 => ?_)
    rw [z_1023, x_win (by omega) (by omega) (by omega) (by omega), s_cl, if_neg n10, x_hou (by omega) (by omega), s_cl, if_neg n10, z_10, z_mul, z_add, s_wr (by omega) (by omega) (by omega), show ((s : Int) * 10 + l).toNat = s * 10 + l by omega]
    refine ok_r (fun a b ha hb' => ?_)
    show upd (η 0) (s * 10 + l) (zI (gHt d x l)) (a * 10 + b) = _
    unfold upd
    by_cases c4 : a = s ∧ b = l
    · obtain ⟨rfl, rfl⟩ := c4
      dsimp only
      rw [if_pos rfl, if_pos ⟨rfl, rfl⟩, if_pos (by omega)]
    · dsimp only
      rw [if_neg (by omega), if_neg c4]
      exact hT a b ha hb'
  · rw [if_neg c2, if_pos rfl]
    exact ok_r (same (by unfold gHt; rw [if_neg (fun z => c2 z.2)]; exact hq.1))
theorem HT_ext {η : qS} {T T' : Nat → Nat → Int} (hT : HT η T) (he : ∀ s l : Nat, s < 1024 → l < 10 → T s l = T' s l) : HT η T' := fun s l a b => by rw [← he s l a b]; exact hT s l a b
/-- the class's table when the sets below S are through, and of S the last ones below L, of L the next ones below n -/
def UR (d : Nat → Int → Int) (h : Int) (S L n : Nat) (s l : Nat) : Int :=
  if s.testBit l = true then (if s = 2 ^ l then VR d h s l else if s - 2 ^ l < S then VR d h s l else if s - 2 ^ l = S then mxB d (VR d h) S l (if l < n then L + 1 else L) else -1) else -1
theorem UR_b (hd : okd d) (h1 : h ≤ 99) (S L n s l : Nat) : -1 ≤ UR d h S L n s l ∧ UR d h S L n s l ≤ 99 := by
  have a := VR_b hd h1 s l
  have b1 := mxB_b (fun s l => (VR_b hd h1 s l).2) hd S l (L + 1)
  have b2 := mxB_b (fun s l => (VR_b hd h1 s l).2) hd S l L
  unfold UR
  repeat' split
  all_goals omega
theorem UR_mid {S L s l : Nat} (hl : l < 10) : UR d h S L 10 s l = UR d h S (L + 1) 0 s l := by
  unfold UR
  rw [if_pos hl, if_neg (Nat.not_lt_zero l)]
theorem UR_next {S s l : Nat} (hs : s < 1024) (hl : l < 10) : UR d h S 10 0 s l = UR d h (S + 1) 0 0 s l := by
  unfold UR
  by_cases c : s.testBit l = true
  · rw [if_pos c, if_pos c]
    by_cases c2 : s = 2 ^ l
    · rw [if_pos c2, if_pos c2]
    · rw [if_neg c2, if_neg c2]
      by_cases c3 : s - 2 ^ l < S
      · rw [if_pos c3, if_pos (by omega)]
      · rw [if_neg c3]
        by_cases c4 : s - 2 ^ l = S
        · rw [if_pos c4, if_neg (Nat.not_lt_zero l), if_pos (show s - 2 ^ l < S + 1 by omega), VR_eq hs hl]
          unfold pull
          rw [if_pos c, if_neg c2, c4]
        · rw [if_neg c4, if_neg (by omega)]
          by_cases c5 : s - 2 ^ l = S + 1
          · rw [if_pos c5, if_neg (Nat.not_lt_zero l)]; rfl
          · rw [if_neg c5]
  · rw [if_neg c, if_neg c]
theorem UR_own {S L n l : Nat} (hS : S < 1024) (hl : l < 10) : UR d h S L n S l = VR d h S l := by
  unfold UR
  by_cases c : S.testBit l = true
  · have hb := bt_in hS hl c
    have hp := (bt_one l hl).2.2.2
    rw [if_pos c]
    by_cases c2 : S = 2 ^ l
    · rw [if_pos c2]
    · rw [if_neg c2, if_pos (by omega)]
  · rw [if_neg c, VR_not hS hl c]
/-- a turn over the next ones -/
theorem UR_step {S L n s l : Nat} (hS0 : 0 < S) (hS : S < 1024) (hL : L < 10) (hn : n < 10) (hv : 0 ≤ VR d h S L) (hin : S.testBit L = true) (hs : s < 1024) (hl : l < 10) :
    UR d h S L (n + 1) s l = if S.testBit n = false ∧ s = S + 2 ^ n ∧ l = n then (if UR d h S L n s l < gHt d (VR d h S L - Wy d ((L : Int) * 11 + n)) n then gHt d (VR d h S L - Wy d ((L : Int) * 11 + n)) n else UR d h S L n s l) else UR d h S L n s l := by
  by_cases c : S.testBit n = false ∧ s = S + 2 ^ n ∧ l = n
  · rw [if_pos c]
    obtain ⟨c1, rfl, rfl⟩ := c
    have hb := bt_out hS hn c1
    have e1 : ¬ S + 2 ^ l = 2 ^ l := by omega
    have e2 : S + 2 ^ l - 2 ^ l = S := by omega
    have u1 : UR d h S L (l + 1) (S + 2 ^ l) l = mxB d (VR d h) S l (L + 1) := by
      unfold UR
      rw [if_pos hb.2.1, if_neg e1, if_neg (by omega), if_pos e2, if_pos (by omega)]
    have u2 : UR d h S L l (S + 2 ^ l) l = mxB d (VR d h) S l L := by
      unfold UR
      rw [if_pos hb.2.1, if_neg e1, if_neg (by omega), if_pos e2, if_neg (by omega)]
    rw [u1, u2]
    show (if _ then _ else _) = _
    by_cases c3 : mxB d (VR d h) S l L < gHt d (VR d h S L - Wy d ((L : Int) * 11 + l)) l
    · rw [if_pos c3, if_pos ⟨hin, hv, c3⟩]
    · rw [if_neg c3, if_neg (fun z => c3 z.2.2)]
  · rw [if_neg c]
    unfold UR
    by_cases c1 : s.testBit l = true
    · rw [if_pos c1, if_pos c1]
      by_cases c2 : s = 2 ^ l
      · rw [if_pos c2, if_pos c2]
      · rw [if_neg c2, if_neg c2]
        by_cases c3 : s - 2 ^ l < S
        · rw [if_pos c3, if_pos c3]
        · rw [if_neg c3, if_neg c3]
          by_cases c4 : s - 2 ^ l = S
          · rw [if_pos c4, if_pos c4]
            have hb := bt_in hs hl c1
            have hne : l ≠ n := fun z => by
              subst z
              exact c ⟨by rw [← c4]; exact hb.2.2, by omega, rfl⟩
            by_cases c5 : l < n
            · rw [if_pos (by omega), if_pos c5]
            · rw [if_neg (by omega), if_neg c5]
          · rw [if_neg c4, if_neg c4]
    · rw [if_neg c1, if_neg c1]
/-- a last one that can not be: nothing is done -/
theorem UR_skip {S L s l : Nat} (hv : ¬ (S.testBit L = true ∧ 0 ≤ VR d h S L)) : UR d h S L 0 s l = UR d h S (L + 1) 0 s l := by
  unfold UR
  rw [if_neg (Nat.not_lt_zero l), if_neg (Nat.not_lt_zero l)]
  have e : mxB d (VR d h) S l (L + 1) = mxB d (VR d h) S l L := by
    show (if _ then _ else _) = _
    rw [if_neg (fun z => hv ⟨z.1, z.2.1⟩)]
  rw [e]
theorem y_goOn (hd : okd d) (h1 : h ≤ 99) {σ η : qS} (hW : TB σ 0 (Wy d)) {S : Nat} (hS0 : 0 < S) (hS : S < 1024) (hT : HT η (UR d h S 0 0)) : oK (fun r => HT r.2 (UR d h (S + 1) 0 0) ∧ ((r.1 = 1 ∧ ∃ l : Nat, l < 10 ∧ 0 ≤ VR d h S l) ∨ (r.1 = 0 ∧ ∀ l : Nat, l < 10 → ¬ 0 ≤ VR d h S l))) (f_X5_goOn σ η (eC d) (zI S)) := by
  unfold f_X5_goOn
  rw [z_0]
  refine ok_forI (τ := Int32 × qS) 10 (fun L u => HT u.2 (UR d h S L.toNat 0) ∧ ((u.1 = 1 ∧ ∃ l : Nat, l < L.toNat ∧ 0 ≤ VR d h S l) ∨ (u.1 = 0 ∧ ∀ l : Nat, l < L.toNat → ¬ 0 ≤ VR d h S l))) (fun again L u h0 h1' hu ih => ?_) 20000 0 _ (by omega) (by omega) ⟨hT, Or.inr ⟨z_0.symm, fun l hl => absurd hl (Nat.not_lt_zero l)⟩⟩ (by omega)
  obtain ⟨u1, u2⟩ := u
  obtain ⟨hu, hc⟩ := hu
  dsimp only at hu hc
  unfold b_X5_goOn_5
  dsimp only
  rw [z_10, z_s1]
  have eL : ((L.toNat : Nat) : Int) = L := Int.toNat_of_nonneg h0
  have en : (L + 1).toNat = L.toNat + 1 := by omega
  by_cases c : L < 10
  · rw [if_neg (c_nle c h0 (by omega))]
    have hh := y_heatLeft (σ := σ) hu hS (l := L.toNat) (by omega)
    rw [eL, UR_own hS (by omega)] at hh
    have hv := VR_b hd h1 S L.toNat
    rw [hh, s_cl, show (-1 : Int32) = zI (-1) by decide]
    refine ok_ifE (z_eq (by omega) (by omega) (by omega) (by omega)) (fun c2 => ih c (u1, u2) ⟨HT_ext hu (fun s l a b => by rw [en]; exact UR_skip (fun z => by omega)), ?_⟩) (fun c2 => ?_)
    · rcases hc with ⟨e, l, l1, l2⟩ | ⟨e, l2⟩
      · exact Or.inl ⟨e, l, by omega, l2⟩
      · refine Or.inr ⟨e, fun l hl => ?_⟩
        by_cases z : l = L.toNat
        · rw [z]; omega
        · exact l2 l (by omega)
    · have hin : S.testBit L.toNat = true := by
        by_cases z : S.testBit L.toNat = true
        · exact z
        · exact absurd (VR_not hS (by omega) z) c2
      rw [z_0]
      refine ok_forI (τ := qS) 10 (fun n u => HT u (UR d h S L.toNat n.toNat)) (fun again2 n u h2 h3 hu ih2 => ?_) 20000 0 _ (by omega) (by omega) hu (by omega)
      unfold b_X5_goOn_35
      dsimp only
      rw [z_10, z_s1]
      have enn : ((n.toNat : Nat) : Int) = n := Int.toNat_of_nonneg h2
      have en1 : (n + 1).toNat = n.toNat + 1 := by omega
      by_cases cn : n < 10
      · rw [if_neg (c_nle cn h2 (by omega)), x_isInB (zI S) h2 (by omega), s_cl, bi_z (by omega) (by omega) h2, Int.toNat_natCast]
        simp (disch := omega) only [one_if]
        have hst := fun s l (a : s < 1024) (b : l < 10) => UR_step (d := d) (h := h) (S := S) (L := L.toNat) (n := n.toNat) hS0 hS (by omega) (by omega) (by omega) hin a b
        refine ok_if (fun c3 => ?_) (fun c3 => ?_)
        · have c4 : S.testBit n.toNat = false := by
            cases z : S.testBit n.toNat with
            | false => rfl
            | true => exact absurd z c3
          have hb := bt_out hS (show n.toNat < 10 by omega) c4
          have ew := Wy_b hd (L * 11 + n)
          rw [y_leastWay hW h0 (by omega) h2 (by omega), s_cl, z_sub, zI_toNat h2, ← z_n S, hb.2.2, z_n, ← zI_toNat h2]
          have hw := y_warm (σ := σ) hd hu (fun s l => UR_b hd h1 S L.toNat n.toNat s l) hb.1 (show n.toNat < 10 by omega) (x := VR d h S L.toNat - Wy d (L * 11 + n)) (by omega) (by omega)
          rw [enn] at hw
          refine ok_cl hw (fun η' hη' => ih2 cn _ (HT_ext hη' (fun s l a b => ?_)))
          rw [en1, hst s l a b, eL, enn]
          by_cases z : s = S + 2 ^ n.toNat ∧ l = n.toNat
          · have q : S.testBit n.toNat = false ∧ s = S + 2 ^ n.toNat ∧ l = n.toNat := ⟨c4, z⟩
            rw [if_pos z, if_pos q, z.1, z.2]
          · rw [if_neg z, if_neg (fun y => z y.2)]
        · refine ih2 cn _ (HT_ext hu (fun s l a b => ?_))
          rw [en1, hst s l a b, if_neg (fun y => c3 (by rw [y.1]; decide))]
      · obtain rfl : n = 10 := by omega
        rw [if_pos (c_le (by omega) (by omega) (by omega))]
        refine ih c ((1 : Int32), u) ⟨HT_ext hu (fun s l a b => by rw [en]; exact UR_mid b), Or.inl ⟨rfl, L.toNat, by omega, by omega⟩⟩
  · obtain rfl : L = 10 := by omega
    rw [if_pos (c_le (by omega) (by omega) (by omega))]
    have hb : q_isB u1 = true := by
      rcases hc with ⟨e, _⟩ | ⟨e, _⟩ <;> rw [e] <;> decide
    rw [s_chk hb]
    exact ok_r ⟨HT_ext hu (fun s l a b => UR_next a b), hc⟩
/-- the best set: the search that both make -/
noncomputable def canR (d : Nat → Int → Int) (h : Int) (s : Nat) : Bool := @decide (∃ l : Nat, l < 10 ∧ 0 ≤ VR d h s l) (Classical.propDecidable _)
theorem canR_t {s : Nat} : canR d h s = true ↔ ∃ l : Nat, l < 10 ∧ 0 ≤ VR d h s l := @decide_eq_true_iff (∃ l : Nat, l < 10 ∧ 0 ≤ VR d h s l) (Classical.propDecidable _)
noncomputable def bsR (d : Nat → Int → Int) (h : Int) : Nat → Nat
  | 0 => 0
  | n + 1 => if n = 0 then 0 else if canR d h n = true ∧ ¬ onz (zI n) ≤ onz (zI (bsR d h n)) then n else bsR d h n
theorem bsR_b : ∀ n : Nat, n ≤ 1024 → bsR d h n < 1024 ∧ bsR d h n ≤ n := by
  intro n
  induction n with
  | zero => intro _; exact ⟨by show 0 < 1024; omega, Nat.le_refl 0⟩
  | succ n ih =>
    intro hn
    have := ih (by omega)
    unfold bsR
    split
    · omega
    · split <;> omega
theorem bsR_s {n : Nat} (h0 : 0 < n) : bsR d h (n + 1) = if canR d h n = true ∧ ¬ onz (zI n) ≤ onz (zI (bsR d h n)) then n else bsR d h n := if_neg (by omega)
theorem y_bestRound (hd : okd d) {h : Int} (h0 : 0 ≤ h) (h1 : h ≤ 99) (σ η : qS) : oK (fun r => r.1 = zI (bsR d h 1024)) (f_X5_bestRound σ η (eC d) (zI h)) := by
  unfold f_X5_bestRound
  refine ok_cl (y_measure hd σ) (fun σ1 hW => ?_)
  rw [x_fill (by decide), s_cl]
  refine ok_bd ?_
  rw [z_0, z_1]
  refine ok_forI (τ := qS) 10 (fun i u => HT u (fun s l => if s = 2 ^ l ∧ (l : Int) < i then VR d h s l else -1)) (fun again i u i0 i1 hu ih => ?_) 20000 0 _ (by omega) (by omega) (fun s l a b => ?_) (by omega)
  · unfold b_X5_bestRound_31
    dsimp only
    rw [z_10, z_s1]
    have ei : ((i.toNat : Nat) : Int) = i := Int.toNat_of_nonneg i0
    by_cases c : i < 10
    · rw [if_neg (c_nle c i0 (by omega)), y_leastWay hW (by omega) (by omega) i0 (by omega), s_cl, z_sub, zI_toNat i0, z_1, ← z_1, (bt_one i.toNat (by omega)).2.2.1, z_n, ← zI_toNat i0]
      have ew := Wy_b hd (10 * 11 + i)
      have hpw := bt_one i.toNat (by omega)
      have hw := y_warm (σ := σ1) hd hu (fun s l => by have := VR_b hd h1 s l; split <;> omega) hpw.1 (show i.toNat < 10 by omega) (x := h - Wy d (10 * 11 + i)) (by omega) (by omega)
      rw [ei] at hw
      refine ok_cl hw (fun u' hu' => ih c _ (HT_ext hu' (fun s l a b => ?_)))
      by_cases z : s = 2 ^ i.toNat ∧ l = i.toNat
      · obtain ⟨rfl, rfl⟩ := z
        have q0 : ¬ (2 ^ i.toNat = 2 ^ i.toNat ∧ i < i) := fun z => absurd z.2 (Int.lt_irrefl i)
        have q1 : 2 ^ i.toNat = 2 ^ i.toNat ∧ ((i.toNat : Nat) : Int) < i + 1 := ⟨rfl, by omega⟩
        rw [if_pos ⟨rfl, rfl⟩, if_neg q0, if_pos q1, VR_eq a b]
        unfold pull
        have hg := gHt_b (d := d) (h - Wy d (10 * 11 + i)) i.toNat
        rw [if_pos hpw.2.1, if_pos rfl, ei, show (110 : Int) + i = 10 * 11 + i by omega]
        by_cases y : -1 < gHt d (h - Wy d (10 * 11 + i)) i.toNat
        · rw [if_pos y]
        · rw [if_neg y]; omega
      · rw [if_neg z]
        by_cases y : s = 2 ^ l ∧ (l : Int) < i
        · rw [if_pos y, if_pos ⟨y.1, by omega⟩]
        · rw [if_neg y, if_neg (fun x => z ⟨by rw [x.1, show l = i.toNat by
            by_cases q : (l : Int) < i
            · exact absurd ⟨x.1, q⟩ y
            · omega], by
            by_cases q : (l : Int) < i
            · exact absurd ⟨x.1, q⟩ y
            · omega⟩)]
    · obtain rfl : i = 10 := by omega
      rw [if_pos (c_le (by omega) (by omega) (by omega))]
      refine ok_forI (τ := qS × Int32) 1024 (fun S u => 1 ≤ S ∧ HT u.1 (UR d h S.toNat 0 0) ∧ u.2 = zI (bsR d h S.toNat)) (fun again S u s0 s1 hu ih => ?_) 20000 1 _ (by omega) (by omega) ⟨by omega, HT_ext hu (fun s l a b => ?_), rfl⟩ (by omega)
      · obtain ⟨u1, u2⟩ := u
        obtain ⟨S1, hu, e2⟩ := hu
        dsimp only at hu e2
        subst e2
        unfold b_X5_bestRound_66
        dsimp only
        rw [z_1024, z_s1]
        have eS : ((S.toNat : Nat) : Int) = S := Int.toNat_of_nonneg s0
        have en : (S + 1).toNat = S.toNat + 1 := by omega
        by_cases c : S < 1024
        · rw [if_neg (c_nle c s0 (by omega))]
          have hg := y_goOn hd h1 hW (S := S.toNat) (by omega) (by omega) hu
          rw [eS] at hg
          refine ok_cl hg (fun y hy => ?_)
          obtain ⟨o1, -, -, -⟩ := onz_of s0 c
          have hbb := bsR_b (d := d) (h := h) S.toNat (by omega)
          obtain ⟨o2, -, -, -⟩ := onz_of (s := (bsR d h S.toNat : Nat)) (by omega) (by omega)
          have hs := bsR_s (d := d) (h := h) (n := S.toNat) (by omega)
          rw [o1, s_cl, o2, s_cl]
          rcases hy.2 with ⟨e, hex⟩ | ⟨e, hno⟩
          · rw [e, if_neg (by decide)]
            refine ok_if (fun c3 => ih c _ ⟨by omega, by rw [en]; exact hy.1, ?_⟩) (fun c3 => ih c _ ⟨by omega, by rw [en]; exact hy.1, ?_⟩)
            · rw [en, hs, if_neg (fun z => z.2 (by rw [eS]; exact c3))]
            · rw [en, hs, if_pos ⟨canR_t.mpr hex, by rw [eS]; exact c3⟩, eS]
          · rw [e, if_pos rfl]
            refine ih c _ ⟨by omega, by rw [en]; exact hy.1, ?_⟩
            rw [en, hs, if_neg (fun z => by obtain ⟨l, l1, l2⟩ := canR_t.mp z.1; exact hno l l1 l2)]
        · obtain rfl : S = 1024 := by omega
          rw [if_pos (c_le (by omega) (by omega) (by omega))]
          exact ok_r rfl
      · show _ = UR d h 1 0 0 s l
        unfold UR
        by_cases y : s = 2 ^ l
        · have hpw := bt_one l b
          rw [if_pos ⟨y, by omega⟩, y, if_pos hpw.2.1, if_pos rfl]
        · rw [if_neg (fun z => y z.1)]
          by_cases z : s.testBit l = true
          · have hb := bt_in a b z
            rw [if_pos z, if_neg y, if_neg (by omega)]
            by_cases x : s - 2 ^ l = 1
            · rw [if_pos x, if_neg (Nat.not_lt_zero l)]; rfl
            · rw [if_neg x]
          · rw [if_neg z]
  · show (if s * 10 + l < 10240 then (-1 : Int32) else η 0 (s * 10 + l)) = _
    rw [if_pos (by omega)]
    dsimp only
    rw [if_neg (by omega)]
    decide
end ROUND


/-- reached from the kitchen in so many steps, past no house of a set -/
def rchd (d : Nat → Int → Int) (S : Int32) : Nat → Int → Prop
  | 0, p => p = 10
  | n + 1, p => rchd d S n p ∨ ((∃ q, 0 ≤ q ∧ q ≤ 10 ∧ rchd d S n q ∧ 0 < d 0 (q * 11 + p)) ∧ ¬ bi S p = true)
theorem rchd_mono {d : Nat → Int → Int} {S : Int32} {p : Int} {n m : Nat} (h : n ≤ m) (hr : rchd d S n p) : rchd d S m p := by
  induction h with
  | refl => exact hr
  | step _ ih => exact Or.inl ih
section KEEP
variable {d m : Nat → Int → Int} {τ : qL}
theorem road_le (hd : okd d) {i : Int} : (zI (d 0 i) ≤ 0) = (¬ 0 < d 0 i) := by
  have := okd_0 hd i
  rw [z_0, z_le (by omega) (by omega) (by omega) (by omega)]
  exact propext ⟨fun z => by omega, fun z => by omega⟩
/-- neighbours, as bits -/
def nbs (d : Nat → Int → Int) (σ : qS) (n : Int) : Prop := ∀ q, 0 ≤ q → q < n → ∀ p, 0 ≤ p → p ≤ 10 → (bi (σ 1 q.toNat) p = true ↔ 0 < d 0 (q * 11 + p))
theorem y_findNeighbours (hd : okd d) (σ : qS) : oK (fun s => nbs d s 11) (f_X5_findNeighbours σ (eC d)) := by
  unfold f_X5_findNeighbours
  rw [z_0]
  refine ok_forI (τ := qS) 11 (fun i t => nbs d t i) (fun again i t h0 h1 ht ih => ?_) 20000 0 σ (by omega) (by omega) (fun q h0 h1 => by omega) (by omega)
  unfold b_X5_findNeighbours_2
  dsimp only
  rw [z_11, z_s1, z_0]
  refine ok_if (fun c => ok_r ?_) (fun c => ?_)
  · have := t_le h0 (by omega) (by omega) (by omega) c
    obtain rfl : i = 11 := by omega
    exact ht
  have hi := t_nle h0 (by omega) (by omega) (by omega) c
  refine ok_forI (τ := Int32) 11 (fun j b => ∀ p, 0 ≤ p → p ≤ 10 → (bi b p = true ↔ p < j ∧ 0 < d 0 (i * 11 + p))) (fun again2 j b h2 h3 hb ih2 => ?_) 20000 0 _ (by omega) (by omega) (fun p _ _ => ?_) (by omega)
  · unfold b_X5_findNeighbours_13
    dsimp only
    rw [z_11, z_s1]
    refine ok_if (fun c => ?_) (fun c => ?_)
    · have := t_le h2 (by omega) (by omega) (by omega) c
      rw [s_wr h0 (by omega) (by omega)]
      refine ih hi _ (fun q h4 h5 p h6 h7 => ?_)
      show bi ((upd (t 1) i.toNat b) q.toNat) p = true ↔ _
      unfold upd
      by_cases e : q = i
      · subst e
        rw [if_pos rfl, hb p h6 h7]
        exact ⟨fun z => z.2, fun z => ⟨by omega, z⟩⟩
      · rw [if_neg (by omega)]
        exact ht q h4 (by omega) p h6 h7
    · have hj := t_nle h2 (by omega) (by omega) (by omega) c
      rw [x_longBetween d h0 (by omega) h2 (by omega), s_cl]
      refine ok_ifE (iff_of_eq (road_le hd)) (fun z => ?_) (fun z => ok_bd (ih2 hj _ (fun p h6 h7 => ?_)))
      · refine ih2 hj _ (fun p h6 h7 => ?_)
        rw [hb p h6 h7]
        constructor
        · exact fun y => ⟨by omega, y.2⟩
        · intro y
          by_cases e : p = j
          · subst e; exact absurd y.2 z
          · exact ⟨by omega, y.2⟩
      · rw [bi_or, bi_one h6 (by omega) h2 (by omega), Bool.or_eq_true, hb p h6 h7, decide_eq_true_eq]
        have cr : 0 < d 0 (i * 11 + j) := by omega
        constructor
        · rintro (y | y)
          · exact ⟨by omega, y.2⟩
          · subst y; exact ⟨by omega, cr⟩
        · intro y
          by_cases e : p = j
          · exact Or.inr e
          · exact Or.inl ⟨by omega, y.2⟩
  · rw [← z_0, bi_z0]
    exact ⟨fun z => absurd z (by decide), fun z => by omega⟩
/-- a set of places, as bits -/
def hasb (b : Int32) (R : Int → Prop) : Prop := ∀ p, 0 ≤ p → p ≤ 10 → (bi b p = true ↔ R p)
theorem bi_1024 {p : Int} (h0 : 0 ≤ p) (h1 : p ≤ 10) : bi 1024 p = true ↔ p = 10 := by
  have e : (1024 : Int32) = (1 : Int32) <<< (zI 10 &&& 31) := by decide
  rw [e, bi_one h0 (by omega) (by omega) (by omega), decide_eq_true_eq]
theorem isB_if {c : Prop} [Decidable c] : q_isB (if c then (1 : Int32) else 0) = true := by split <;> decide
theorem one_if {c : Prop} [Decidable c] : ((if c then (1 : Int32) else 0) = 0) = (¬ c) := by
  by_cases h : c
  · rw [if_pos h]; exact propext ⟨fun z => absurd z (by decide), fun z => absurd h z⟩
  · rw [if_neg h]; exact propext ⟨fun _ => h, fun _ => rfl⟩
/-- whether a way leads there -/
theorem y_leadsTo (σ : qS) (hn : nbs d σ 11) {S : Int32} {h : Int} (hh0 : 0 ≤ h) (hh1 : h ≤ 9) : oK (fun r => (r = 0 ∧ ¬ rchd d S 11 h) ∨ (r = 1 ∧ rchd d S 11 h)) (f_X5_leadsTo σ (zI h) S) := by
  unfold f_X5_leadsTo
  rw [z_0]
  refine ok_forI (τ := Int32) 11 (fun i t => hasb t (rchd d S i.toNat)) (fun again i t h0 h1 ht ih => ?_) 20000 0 _ (by omega) (by omega) (fun p h4 h5 => bi_1024 h4 h5) (by omega)
  have hend : (rchd d S 11 h ↔ bi t h = true) → oK (fun r => (r = 0 ∧ ¬ rchd d S 11 h) ∨ (r = 1 ∧ rchd d S 11 h)) (q_cl (f_X6_isIn (zI h) t) fun r_2 => q_chk (q_isB r_2) <| some r_2) := fun hq => by
    rw [x_isInB t hh0 (by omega), s_cl, s_chk isB_if]
    refine ok_r ?_
    by_cases c : bi t h = true
    · exact Or.inr ⟨if_pos c, hq.mpr c⟩
    · exact Or.inl ⟨if_neg c, fun z => c (hq.mp z)⟩
  unfold b_X5_leadsTo_7
  dsimp only
  rw [z_11, z_s1, z_0]
  refine ok_if (fun c => ?_) (fun c => ?_)
  · have := t_le h0 (by omega) (by omega) (by omega) c
    obtain rfl : i = 11 := by omega
    exact hend (ht h hh0 (by omega)).symm
  have hi := t_nle h0 (by omega) (by omega) (by omega) c
  rw [x_isInB t hh0 (by omega), s_cl, ← z_0]
  refine ok_ifE (iff_of_eq one_if) (fun c2 => ?_) (fun c2 => ?_)
  · rw [z_0]
    refine ok_forI (τ := Int32) 11 (fun j b => hasb b (fun p => rchd d S i.toNat p ∨ ((∃ q, 0 ≤ q ∧ q < j ∧ rchd d S i.toNat q ∧ 0 < d 0 (q * 11 + p)) ∧ ¬ bi S p = true))) (fun again2 j b h2 h3 hb ih2 => ?_) 20000 0 _ (by omega) (by omega) (fun p h4 h5 => ?_) (by omega)
    · unfold b_X5_leadsTo_28
      dsimp only
      rw [z_11, z_s1]
      refine ok_if (fun c => ih hi _ (fun p h4 h5 => ?_)) (fun c => ?_)
      · have := t_le h2 (by omega) (by omega) (by omega) c
        obtain rfl : j = 11 := by omega
        rw [hb p h4 h5, show (i + 1).toNat = i.toNat + 1 by omega]
        show _ ↔ rchd d S i.toNat p ∨ ((∃ q, 0 ≤ q ∧ q ≤ 10 ∧ rchd d S i.toNat q ∧ 0 < d 0 (q * 11 + p)) ∧ ¬ bi S p = true)
        constructor
        · rintro (y | ⟨⟨q, q0, q1, q2, q3⟩, y⟩)
          · exact Or.inl y
          · exact Or.inr ⟨⟨q, q0, by omega, q2, q3⟩, y⟩
        · rintro (y | ⟨⟨q, q0, q1, q2, q3⟩, y⟩)
          · exact Or.inl y
          · exact Or.inr ⟨⟨q, q0, by omega, q2, q3⟩, y⟩
      · have hj := t_nle h2 (by omega) (by omega) (by omega) c
        rw [x_isInB t h2 (by omega), s_cl]
        refine ok_ifE (iff_of_eq one_if) (fun c3 => ih2 hj _ (fun p h4 h5 => ?_)) (fun c3 => ?_)
        · rw [hb p h4 h5]
          have c4 : ¬ rchd d S i.toNat j := fun z => c3 ((ht j h2 (by omega)).mpr z)
          constructor
          · rintro (y | ⟨⟨q, q0, q1, q2, q3⟩, y⟩)
            · exact Or.inl y
            · exact Or.inr ⟨⟨q, q0, by omega, q2, q3⟩, y⟩
          · rintro (y | ⟨⟨q, q0, q1, q2, q3⟩, y⟩)
            · exact Or.inl y
            · by_cases e : q = j
              · subst e; exact absurd q2 c4
              · exact Or.inr ⟨⟨q, q0, by omega, q2, q3⟩, y⟩
        · rw [s_rd h2 (by omega) (by omega), s_bd]
          have c4 : rchd d S i.toNat j := (ht j h2 (by omega)).mp (Classical.not_not.mp c3)
          refine ih2 hj _ (fun p h4 h5 => ?_)
          rw [bi_or, bi_and, bi_not S (show p < 32 by omega), Bool.or_eq_true, Bool.and_eq_true, hb p h4 h5, hn j h2 (by omega) p h4 h5]
          have en : ((!bi S p) = true) = (¬ bi S p = true) := by cases bi S p <;> decide
          rw [en]
          constructor
          · rintro ((y | ⟨⟨q, q0, q1, q2, q3⟩, y⟩) | y)
            · exact Or.inl y
            · exact Or.inr ⟨⟨q, q0, by omega, q2, q3⟩, y⟩
            · exact Or.inr ⟨⟨j, h2, by omega, c4, y.1⟩, y.2⟩
          · rintro (y | ⟨⟨q, q0, q1, q2, q3⟩, y⟩)
            · exact Or.inl (Or.inl y)
            · by_cases e : q = j
              · subst e; exact Or.inr ⟨q3, y⟩
              · exact Or.inl (Or.inr ⟨⟨q, q0, by omega, q2, q3⟩, y⟩)
    · rw [ht p h4 h5]
      constructor
      · exact fun y => Or.inl y
      · rintro (y | ⟨⟨q, q0, q1, _, _⟩, _⟩)
        · exact y
        · omega
  · have c3 : bi t h = true := Classical.not_not.mp c2
    have hz := hend ⟨fun _ => c3, fun _ => rchd_mono (by omega) ((ht h hh0 (by omega)).mp c3)⟩
    rw [x_isInB t hh0 (by omega)] at hz
    exact hz
end KEEP


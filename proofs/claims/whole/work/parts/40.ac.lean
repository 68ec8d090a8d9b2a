/-! keeping a house, exactly -/
/-- reached from the kitchen in so many steps, past no house of a set -/
def rchd (d : Nat → Int → Int) (S : Int32) : Nat → Int → Prop
  | 0, p => p = 10
  | n + 1, p => rchd d S n p ∨ ((∃ q, 0 ≤ q ∧ q ≤ 10 ∧ rchd d S n q ∧ 0 < d 0 (q * 11 + p)) ∧ ¬ bi S p = true)
theorem rchd_mono {d : Nat → Int → Int} {S : Int32} {p : Int} {n m : Nat} (h : n ≤ m) (hr : rchd d S n p) : rchd d S m p := by
  induction h with
  | refl => exact hr
  | step _ ih => exact Or.inl ih
theorem rchd_not {d : Nat → Int → Int} {S : Int32} (hS : ¬ bi S 10 = true) : ∀ (n : Nat) (p : Int), rchd d S n p → ¬ bi S p = true := by
  intro n
  induction n with
  | zero => intro p hp; rw [show p = 10 from hp]; exact hS
  | succ n ih =>
    intro p hp
    rcases hp with h | h
    · exact ih p h
    · exact h.2
section KEEP
variable {d m : Nat → Int → Int} {τ : qL}
theorem road_le (hd : okd d) {i : Int} : (zI (d 0 i) ≤ 0) = (¬ 0 < d 0 i) := by
  have := okd_0 hd i
  rw [z_0, z_le (by omega) (by omega) (by omega) (by omega)]
  exact propext ⟨fun z => by omega, fun z => by omega⟩
/-- neighbours, as bits -/
def nbs (d : Nat → Int → Int) (σ : qS) (n : Int) : Prop := ∀ q, 0 ≤ q → q < n → ∀ p, 0 ≤ p → p ≤ 10 → (bi (σ 1 q.toNat) p = true ↔ 0 < d 0 (q * 11 + p))
theorem y_findNeighbours (hd : okd d) (σ : qS) : oK (fun s => nbs d s 11) (f_X5_findNeighbours σ (eC d)) := by
  unfold f_X5_findNeighbours
  rw [z_0]
  refine ok_forI (τ := qS) 11 (fun i t => nbs d t i) (fun again i t h0 h1 ht ih => ?_) 20000 0 σ (by omega) (by omega) (fun q h0 h1 => by omega) (by omega)
  unfold b_X5_findNeighbours_2
  dsimp only
  rw [z_11, z_s1, z_0]
  refine ok_if (fun c => ok_r ?_) (fun c => ?_)
  · have := t_le h0 (by omega) (by omega) (by omega) c
    obtain rfl : i = 11 := by omega
    exact ht
  have hi := t_nle h0 (by omega) (by omega) (by omega) c
  refine ok_forI (τ := Int32) 11 (fun j b => ∀ p, 0 ≤ p → p ≤ 10 → (bi b p = true ↔ p < j ∧ 0 < d 0 (i * 11 + p))) (fun again2 j b h2 h3 hb ih2 => ?_) 20000 0 _ (by omega) (by omega) (fun p _ _ => ?_) (by omega)
  · unfold b_X5_findNeighbours_13
    dsimp only
    rw [z_11, z_s1]
    refine ok_if (fun c => ?_) (fun c => ?_)
    · have := t_le h2 (by omega) (by omega) (by omega) c
      rw [s_wr h0 (by omega) (by omega)]
      refine ih hi _ (fun q h4 h5 p h6 h7 => ?_)
      show bi ((upd (t 1) i.toNat b) q.toNat) p = true ↔ _
      unfold upd
      by_cases e : q = i
      · subst e
        rw [if_pos rfl, hb p h6 h7]
        exact ⟨fun z => z.2, fun z => ⟨by omega, z⟩⟩
      · rw [if_neg (by omega)]
        exact ht q h4 (by omega) p h6 h7
    · have hj := t_nle h2 (by omega) (by omega) (by omega) c
      rw [x_longBetween d h0 (by omega) h2 (by omega), s_cl]
      refine ok_ifE (iff_of_eq (road_le hd)) (fun z => ?_) (fun z => ok_bd (ih2 hj _ (fun p h6 h7 => ?_)))
      · refine ih2 hj _ (fun p h6 h7 => ?_)
        rw [hb p h6 h7]
        constructor
        · exact fun y => ⟨by omega, y.2⟩
        · intro y
          by_cases e : p = j
          · subst e; exact absurd y.2 z
          · exact ⟨by omega, y.2⟩
      · rw [bi_or, bi_one h6 (by omega) h2 (by omega), Bool.or_eq_true, hb p h6 h7, decide_eq_true_eq]
        have cr : 0 < d 0 (i * 11 + j) := by omega
        constructor
        · rintro (y | y)
          · exact ⟨by omega, y.2⟩
          · subst y; exact ⟨by omega, cr⟩
        · intro y
          by_cases e : p = j
          · exact Or.inr e
          · exact Or.inl ⟨by omega, y.2⟩
  · rw [← z_0, bi_z0]
    exact ⟨fun z => absurd z (by decide), fun z => by omega⟩
/-- a set of places, as bits -/
def hasb (b : Int32) (R : Int → Prop) : Prop := ∀ p, 0 ≤ p → p ≤ 10 → (bi b p = true ↔ R p)
theorem bi_1024 {p : Int} (h0 : 0 ≤ p) (h1 : p ≤ 10) : bi 1024 p = true ↔ p = 10 := by
  have e : (1024 : Int32) = (1 : Int32) <<< (zI 10 &&& 31) := by decide
  rw [e, bi_one h0 (by omega) (by omega) (by omega), decide_eq_true_eq]
theorem isB_if {c : Prop} [Decidable c] : q_isB (if c then (1 : Int32) else 0) = true := by split <;> decide
theorem one_if {c : Prop} [Decidable c] : ((if c then (1 : Int32) else 0) = 0) = (¬ c) := by
  by_cases h : c
  · rw [if_pos h]; exact propext ⟨fun z => absurd z (by decide), fun z => absurd h z⟩
  · rw [if_neg h]; exact propext ⟨fun _ => h, fun _ => rfl⟩
/-- whether a way leads there -/
theorem y_leadsTo (σ : qS) (hn : nbs d σ 11) {S : Int32} {h : Int} (hh0 : 0 ≤ h) (hh1 : h ≤ 9) : oK (fun r => (r = 0 ∧ ¬ rchd d S 11 h) ∨ (r = 1 ∧ rchd d S 11 h)) (f_X5_leadsTo σ (zI h) S) := by
  unfold f_X5_leadsTo
  rw [z_0]
  refine ok_forI (τ := Int32) 11 (fun i t => hasb t (rchd d S i.toNat)) (fun again i t h0 h1 ht ih => ?_) 20000 0 _ (by omega) (by omega) (fun p h4 h5 => bi_1024 h4 h5) (by omega)
  have hend : (rchd d S 11 h ↔ bi t h = true) → oK (fun r => (r = 0 ∧ ¬ rchd d S 11 h) ∨ (r = 1 ∧ rchd d S 11 h)) (q_cl (f_X6_isIn (zI h) t) fun r_2 => q_chk (q_isB r_2) <| some r_2) := fun hq => by
    rw [x_isInB t hh0 (by omega), s_cl, s_chk isB_if]
    refine ok_r ?_
    by_cases c : bi t h = true
    · exact Or.inr ⟨if_pos c, hq.mpr c⟩
    · exact Or.inl ⟨if_neg c, fun z => c (hq.mp z)⟩
  unfold b_X5_leadsTo_7
  dsimp only
  rw [z_11, z_s1, z_0]
  refine ok_if (fun c => ?_) (fun c => ?_)
  · have := t_le h0 (by omega) (by omega) (by omega) c
    obtain rfl : i = 11 := by omega
    exact hend (ht h hh0 (by omega)).symm
  have hi := t_nle h0 (by omega) (by omega) (by omega) c
  rw [x_isInB t hh0 (by omega), s_cl, ← z_0]
  refine ok_ifE (iff_of_eq one_if) (fun c2 => ?_) (fun c2 => ?_)
  · rw [z_0]
    refine ok_forI (τ := Int32) 11 (fun j b => hasb b (fun p => rchd d S i.toNat p ∨ ((∃ q, 0 ≤ q ∧ q < j ∧ rchd d S i.toNat q ∧ 0 < d 0 (q * 11 + p)) ∧ ¬ bi S p = true))) (fun again2 j b h2 h3 hb ih2 => ?_) 20000 0 _ (by omega) (by omega) (fun p h4 h5 => ?_) (by omega)
    · unfold b_X5_leadsTo_28
      dsimp only
      rw [z_11, z_s1]
      refine ok_if (fun c => ih hi _ (fun p h4 h5 => ?_)) (fun c => ?_)
      · have := t_le h2 (by omega) (by omega) (by omega) c
        obtain rfl : j = 11 := by omega
        rw [hb p h4 h5, show (i + 1).toNat = i.toNat + 1 by omega]
        show _ ↔ rchd d S i.toNat p ∨ ((∃ q, 0 ≤ q ∧ q ≤ 10 ∧ rchd d S i.toNat q ∧ 0 < d 0 (q * 11 + p)) ∧ ¬ bi S p = true)
        constructor
        · rintro (y | ⟨⟨q, q0, q1, q2, q3⟩, y⟩)
          · exact Or.inl y
          · exact Or.inr ⟨⟨q, q0, by omega, q2, q3⟩, y⟩
        · rintro (y | ⟨⟨q, q0, q1, q2, q3⟩, y⟩)
          · exact Or.inl y
          · exact Or.inr ⟨⟨q, q0, by omega, q2, q3⟩, y⟩
      · have hj := t_nle h2 (by omega) (by omega) (by omega) c
        rw [x_isInB t h2 (by omega), s_cl]
        refine ok_ifE (iff_of_eq one_if) (fun c3 => ih2 hj _ (fun p h4 h5 => ?_)) (fun c3 => ?_)
        · rw [hb p h4 h5]
          have c4 : ¬ rchd d S i.toNat j := fun z => c3 ((ht j h2 (by omega)).mpr z)
          constructor
          · rintro (y | ⟨⟨q, q0, q1, q2, q3⟩, y⟩)
            · exact Or.inl y
            · exact Or.inr ⟨⟨q, q0, by omega, q2, q3⟩, y⟩
          · rintro (y | ⟨⟨q, q0, q1, q2, q3⟩, y⟩)
            · exact Or.inl y
            · by_cases e : q = j
              · subst e; exact absurd q2 c4
              · exact Or.inr ⟨⟨q, q0, by omega, q2, q3⟩, y⟩
        · rw [s_rd h2 (by omega) (by omega), s_bd]
          have c4 : rchd d S i.toNat j := (ht j h2 (by omega)).mp (Classical.not_not.mp c3)
          refine ih2 hj _ (fun p h4 h5 => ?_)
          rw [bi_or, bi_and, bi_not S (show p < 32 by omega), Bool.or_eq_true, Bool.and_eq_true, hb p h4 h5, hn j h2 (by omega) p h4 h5]
          have en : ((!bi S p) = true) = (¬ bi S p = true) := by cases bi S p <;> decide
          rw [en]
          constructor
          · rintro ((y | ⟨⟨q, q0, q1, q2, q3⟩, y⟩) | y)
            · exact Or.inl y
            · exact Or.inr ⟨⟨q, q0, by omega, q2, q3⟩, y⟩
            · exact Or.inr ⟨⟨j, h2, by omega, c4, y.1⟩, y.2⟩
          · rintro (y | ⟨⟨q, q0, q1, q2, q3⟩, y⟩)
            · exact Or.inl (Or.inl y)
            · by_cases e : q = j
              · subst e; exact Or.inr ⟨q3, y⟩
              · exact Or.inl (Or.inr ⟨⟨q, q0, by omega, q2, q3⟩, y⟩)
    · rw [ht p h4 h5]
      constructor
      · exact fun y => Or.inl y
      · rintro (y | ⟨⟨q, q0, q1, _, _⟩, _⟩)
        · exact y
        · omega
  · have c3 : bi t h = true := Classical.not_not.mp c2
    have hz := hend ⟨fun _ => c3, fun _ => rchd_mono (by omega) ((ht h hh0 (by omega)).mp c3)⟩
    rw [x_isInB t hh0 (by omega)] at hz
    exact hz
/-- around, of the reference -/
theorem y_around (hd : okd d) (s : Int32) : oK (fun b => hasb b (fun p => bi s p = true ∨ ∃ q, 0 ≤ q ∧ q ≤ 10 ∧ bi s q = true ∧ 0 < d 0 (q * 11 + p))) (f_X7_around (eC (pw m d)) τ s) := by
  unfold f_X7_around
  rw [z_0]
  refine ok_forI (τ := Int32) 121 (fun i b => hasb b (fun p => bi s p = true ∨ ∃ e, 0 ≤ e ∧ e < i ∧ bi s (e / 11) = true ∧ 0 < d 0 e ∧ e % 11 = p)) (fun again i b h0 h1 hb ih => ?_) 20000 0 _ (by omega) (by omega) (fun p h4 h5 => ?_) (by omega)
  · unfold b_X7_around_4
    dsimp only
    rw [z_121, z_s1, z_11, z_div h0 (by omega) (by omega) (by omega), z_mul, z_sub, show i - i / 11 * 11 = i % 11 by omega, Int32.or_zero]
    have e0 : oK (fun b => hasb b (fun p => bi s p = true ∨ ∃ q, 0 ≤ q ∧ q ≤ 10 ∧ bi s q = true ∧ 0 < d 0 (q * 11 + p))) (some b) ∨ i < 121 := by
      by_cases c : i < 121
      · exact Or.inr c
      · refine Or.inl (ok_r (fun p h4 h5 => ?_))
        rw [hb p h4 h5]
        constructor
        · rintro (y | ⟨e, e0, e1, e2, e3, e4⟩)
          · exact Or.inl y
          · refine Or.inr ⟨e / 11, by omega, by omega, e2, ?_⟩
            rwa [show e / 11 * 11 + p = e by omega]
        · rintro (y | ⟨q, q0, q1, q2, q3⟩)
          · exact Or.inl y
          · exact Or.inr ⟨q * 11 + p, by omega, by omega, by rwa [show (q * 11 + p) / 11 = q by omega], q3, by omega⟩
    refine ok_if (fun c => e0.resolve_right (fun z => absurd c (c_nle z h0 (by omega)))) (fun c => ?_)
    have hi := t_nle h0 (by omega) (by omega) (by omega) c
    have same : (¬ (bi s (i / 11) = true ∧ 0 < d 0 i)) → hasb b (fun p => bi s p = true ∨ ∃ e, 0 ≤ e ∧ e < i + 1 ∧ bi s (e / 11) = true ∧ 0 < d 0 e ∧ e % 11 = p) := fun hno p h4 h5 => by
      rw [hb p h4 h5]
      constructor
      · rintro (y | ⟨e, e0, e1, e2, e3, e4⟩)
        · exact Or.inl y
        · exact Or.inr ⟨e, e0, by omega, e2, e3, e4⟩
      · rintro (y | ⟨e, e0, e1, e2, e3, e4⟩)
        · exact Or.inl y
        · by_cases ee : e = i
          · subst ee; exact absurd ⟨e2, e3⟩ hno
          · exact Or.inr ⟨e, e0, by omega, e2, e3, e4⟩
    refine ok_ifE (iff_of_eq (t_bit s (show 0 ≤ i / 11 by omega) (by omega))) (fun c1 => ?_) (fun c1 => ok_bd (ih hi _ (same (fun z => c1 z.1))))
    rw [s_rd h0 (by omega) (by omega), eC_at _ _ h0, pw_0]
    refine ok_ifE (iff_of_eq (road_le hd)) (fun c2 => ok_bd (ih hi _ (same (fun z => c2 z.2)))) (fun c2 => ok_bd (ih hi _ (fun p h4 h5 => ?_)))
    rw [bi_or, bi_one h4 (by omega) (show 0 ≤ i % 11 by omega) (by omega), Bool.or_eq_true, hb p h4 h5, decide_eq_true_eq]
    constructor
    · rintro ((y | ⟨e, e0, e1, e2, e3, e4⟩) | y)
      · exact Or.inl y
      · exact Or.inr ⟨e, e0, by omega, e2, e3, e4⟩
      · exact Or.inr ⟨i, h0, by omega, c1, by omega, y.symm⟩
    · rintro (y | ⟨e, e0, e1, e2, e3, e4⟩)
      · exact Or.inl (Or.inl y)
      · by_cases ee : e = i
        · subst ee; exact Or.inr e4.symm
        · exact Or.inl (Or.inr ⟨e, e0, by omega, e2, e3, e4⟩)
  · constructor
    · exact fun y => Or.inl y
    · rintro (y | ⟨e, e0, e1, _⟩)
      · exact y
      · omega
theorem y_isKept (hd : okd d) {S : Int32} (hS : ¬ bi S 10 = true) {h : Int} (hh0 : 0 ≤ h) (hh1 : h ≤ 9) : oK (fun r => (r = 1 ∧ ¬ rchd d S 11 h) ∨ (r = 0 ∧ rchd d S 11 h)) (f_X7_isKept (eC (pw m d)) τ (zI h) S) := by
  unfold f_X7_isKept
  rw [z_0]
  refine ok_forI (τ := Int32) 11 (fun i t => hasb t (rchd d S i.toNat)) (fun again i t h0 h1 ht ih => ?_) 20000 0 _ (by omega) (by omega) (fun p h4 h5 => bi_1024 h4 h5) (by omega)
  unfold b_X7_isKept_7
  dsimp only
  rw [z_11, z_s1]
  refine ok_if (fun c => ?_) (fun c => ?_)
  · have := t_le h0 (by omega) (by omega) (by omega) c
    obtain rfl : i = 11 := by omega
    rw [← z_0]
    simp (disch := omega) only [t_bit0]
    have hq := ht h hh0 (by omega)
    refine ok_if (fun c2 => ok_r (Or.inl ⟨rfl, fun z => c2 (hq.mpr z)⟩)) (fun c2 => ok_r (Or.inr ⟨rfl, hq.mp (Classical.not_not.mp c2)⟩))
  have hi := t_nle h0 (by omega) (by omega) (by omega) c
  refine ok_cl (y_around hd t) (fun b hb => ok_bd (ih hi _ (fun p h4 h5 => ?_)))
  have en : ((!bi S p) = true) = (¬ bi S p = true) := by cases bi S p <;> decide
  rw [bi_and, bi_not S (show p < 32 by omega), Bool.and_eq_true, en, hb p h4 h5, show (i + 1).toNat = i.toNat + 1 by omega]
  dsimp only
  rw [ht p h4 h5]
  show _ ↔ rchd d S i.toNat p ∨ ((∃ q, 0 ≤ q ∧ q ≤ 10 ∧ rchd d S i.toNat q ∧ 0 < d 0 (q * 11 + p)) ∧ ¬ bi S p = true)
  constructor
  · rintro ⟨y | ⟨q, q0, q1, q2, q3⟩, z⟩
    · exact Or.inl y
    · exact Or.inr ⟨⟨q, q0, q1, (ht q q0 q1).mp q2, q3⟩, z⟩
  · rintro (y | ⟨⟨q, q0, q1, q2, q3⟩, z⟩)
    · exact ⟨Or.inl y, rchd_not hS _ p y⟩
    · exact ⟨Or.inr ⟨q, q0, q1, (ht q q0 q1).mpr q2, q3⟩, z⟩
/-- both search the same -/
theorem k_search (hd : okd d) (σ : qS) (hn : nbs d σ 11) {h : Int} (hh0 : 0 ≤ h) (hh1 : h ≤ 9) (K : Int32 × Int32 → Option Int32) :
    ∀ (N : Nat) (i b : Int), 0 ≤ i → i ≤ 1024 → (1024 - i).toNat < N → (b = -6 ∨ (0 ≤ b ∧ b < 1024)) →
      ∃ b', (b' = -6 ∨ (0 ≤ b' ∧ b' < 1024)) ∧ q_lp (b_X5_fewestDamp_24 (zI h) σ) (fun z6 => some (z6.2, σ)) N (zI i, zI b) = some (zI b', σ) ∧ q_lp (b_X7_keep_28 (eC (pw m d)) τ (zI h)) K N (zI i, zI b) = K (zI 1024, zI b') := by
  intro N
  induction N with
  | zero => intro i b _ _ h; omega
  | succ N ih =>
    intro i b h0 h1 hN hb
    rw [lp_s, lp_s]
    generalize q_lp (b_X5_fewestDamp_24 (zI h) σ) (fun z6 => some (z6.2, σ)) N = again1 at ih
    generalize q_lp (b_X7_keep_28 (eC (pw m d)) τ (zI h)) K N = again2 at ih
    unfold b_X5_fewestDamp_24 b_X7_keep_28
    dsimp only
    rw [z_1024, z_s1]
    by_cases c : i < 1024
    · rw [if_neg (c_nle c h0 (by omega)), if_neg (c_nle c h0 (by omega))]
      have hS : ¬ bi (zI i) 10 = true := by rw [bi_hi h0 c (by omega)]; decide
      obtain ⟨r1, e1, q1⟩ := ok_get (y_leadsTo (S := zI i) σ hn hh0 hh1)
      obtain ⟨r2, e2, q2⟩ := ok_get (y_isKept (m := m) (τ := τ) (S := zI i) hd hS hh0 hh1)
      obtain ⟨o1, o2, o3, o4⟩ := onz_of h0 c
      rw [x_isInB (zI i) hh0 (by omega), s_cl, e1, s_cl, e2, s_cl, o1, s_cl, o2, s_cl]
      simp (disch := omega) only [one_if, t_bit0]
      have hsame := ih (i + 1) b (by omega) (by omega) (by omega) hb
      have hnew := ih (i + 1) i (by omega) (by omega) (by omega) (Or.inr ⟨h0, c⟩)
      have hchk : ∃ b', (b' = -6 ∨ (0 ≤ b' ∧ b' < 1024)) ∧ (if ¬ bi (zI i) h = true then (if r1 = 0 then again1 (zI (i + 1), zI i) else again1 (zI (i + 1), zI b)) else again1 (zI (i + 1), zI b)) = some (zI b', σ) ∧
          (if ¬ bi (zI i) h = true then (if r2 = 0 then again2 (zI (i + 1), zI b) else again2 (zI (i + 1), zI i)) else again2 (zI (i + 1), zI b)) = K (zI 1024, zI b') := by
        by_cases cb : ¬ bi (zI i) h = true
        · rw [if_pos cb, if_pos cb]
          rcases q1 with ⟨rfl, p1⟩ | ⟨rfl, p1⟩
          · rcases q2 with ⟨rfl, p2⟩ | ⟨rfl, p2⟩
            · rw [if_pos rfl, if_neg (by decide)]; exact hnew
            · exact absurd p2 p1
          · rcases q2 with ⟨rfl, p2⟩ | ⟨rfl, p2⟩
            · exact absurd p1 p2
            · rw [if_neg (by decide), if_pos rfl]; exact hsame
        · rw [if_neg cb, if_neg cb]; exact hsame
      rcases hb with rfl | ⟨b0, b1⟩
      · rw [if_pos (show zI (-6) = (-6 : Int32) by decide), if_pos (show zI (-6) < (0 : Int32) by decide)]
        exact hchk
      · rw [if_neg (show ¬ zI b = (-6 : Int32) by rw [show (-6 : Int32) = zI (-6) by decide, z_eq (by omega) (by omega) (by omega) (by omega)]; omega), if_neg (show ¬ zI b < (0 : Int32) by rw [z_0, z_lt (by omega) (by omega) (by omega) (by omega)]; omega)]
        obtain ⟨u1, u2, u3, u4⟩ := onz_of b0 b1
        rw [u1, s_cl, u2, s_cl]
        by_cases cf : onz (zI b) ≤ onz (zI i)
        · rw [if_pos cf]
          by_cases cb : ¬ bi (zI i) h = true
          · rw [if_pos cb]; rw [if_pos cf]; exact hsame
          · rw [if_neg cb]; exact hsame
        · rw [if_neg cf]
          rw [if_neg cf]
          exact hchk
    · obtain rfl : i = 1024 := by omega
      rw [if_pos (c_le (by omega) (by omega) (by omega)), if_pos (c_le (by omega) (by omega) (by omega))]
      exact ⟨b, hb, rfl, rfl⟩
/-- where a road leads there nothing keeps it -/
theorem k_none (hd : okd d) {h : Int} (hh0 : 0 ≤ h) (hh1 : h ≤ 9) (hr : 0 < d 0 (110 + h)) (K : Int32 × Int32 → Option Int32) :
    ∀ (N : Nat) (i : Int), 0 ≤ i → i ≤ 1024 → (1024 - i).toNat < N → q_lp (b_X7_keep_28 (eC (pw m d)) τ (zI h)) K N (zI i, zI (-6)) = K (zI 1024, zI (-6)) := by
  intro N
  induction N with
  | zero => intro i _ _ h; omega
  | succ N ih =>
    intro i h0 h1 hN
    rw [lp_s]
    generalize q_lp (b_X7_keep_28 (eC (pw m d)) τ (zI h)) K N = again at ih
    unfold b_X7_keep_28
    dsimp only
    rw [z_1024, z_s1]
    by_cases c : i < 1024
    · rw [if_neg (c_nle c h0 (by omega))]
      have hS : ¬ bi (zI i) 10 = true := by rw [bi_hi h0 c (by omega)]; decide
      obtain ⟨r2, e2, q2⟩ := ok_get (y_isKept (m := m) (τ := τ) (S := zI i) hd hS hh0 hh1)
      rw [e2, s_cl, if_pos (show zI (-6) < (0 : Int32) by decide)]
      simp (disch := omega) only [t_bit0]
      have hsame := ih (i + 1) (by omega) (by omega) (by omega)
      by_cases cb : ¬ bi (zI i) h = true
      · rw [if_pos cb]
        have hre : rchd d (zI i) 11 h := rchd_mono (n := 1) (by decide) (Or.inr ⟨⟨10, by omega, by omega, rfl, by rw [show (10 : Int) * 11 + h = 110 + h by omega]; exact hr⟩, cb⟩)
        rcases q2 with ⟨rfl, p2⟩ | ⟨rfl, p2⟩
        · exact absurd hre p2
        · rw [if_pos rfl]; exact hsame
      · rw [if_neg cb]; exact hsame
    · obtain rfl : i = 1024 := by omega
      rw [if_pos (c_le (by omega) (by omega) (by omega))]
theorem c_keep (hd : okd d) (σ : qS) (a w : Int32) : ∃ r s, f_X6_keep σ (eC d) a w = some (r, s) ∧ f_X7_keep (eC (pw m d)) τ a w = some r := by
  obtain ⟨a, a0, a1, rfl⟩ := z_of a
  obtain ⟨w, w0, w1, rfl⟩ := z_of w
  unfold f_X6_keep f_X7_keep
  rw [x_isHouse a0 a1, m_isHouse a0 a1, z_0, z_1, x_within w0 w1 (by omega) (by omega) (by omega) (by omega), z_l w0 w1, zl_0, zl_1, m_in (by omega) (by omega) (by omega) (by omega) (by omega) (by omega), s_cl, s_cl, s_cl, s_cl]
  by_cases ca : 0 ≤ a ∧ a ≤ 9
  · rw [if_pos ca, if_neg n10, if_neg n10]
    by_cases cw : 0 ≤ w ∧ w ≤ 1
    · rw [if_pos cw, if_neg n10, if_neg n10]
      unfold f_X5_fewestDamp
      rw [z_10, x_longBetween d (by omega) (by omega) ca.1 (by omega), s_cl, show (10 : Int) * 11 + a = 110 + a by omega, show (-6 : Int32) = zI (-6) by decide, show (0 : Int32) = zI 0 from z_0]
      have hrl : (zI (d 0 (110 + a)) ≤ zI 0) = (¬ 0 < d 0 (110 + a)) := by rw [← z_0]; exact road_le hd
      simp only [hrl]
      have hfin : ∀ (b : Int) (s : qS), (b = -6 ∨ (0 ≤ b ∧ b < 1024)) → ∃ r, (if zI w = zI 1 then some (zI b, s) else if zI b = zI (-6) then some (zI b, s) else q_cl (f_J6_bitCount_0f7a4 (zI b)) fun r_13 => some (r_13, s)) = some (r, s) ∧ (if zI b < zI 0 then some (zI b) else if zI w = zI 1 then some (zI b) else q_cl (f_X7_ones (zI b)) fun r_10 => some r_10) = some r := by
        intro b s hb
        rcases hb with rfl | ⟨b0, b1⟩
        · rw [if_pos (show zI (-6) < zI 0 by decide)]
          by_cases c1 : zI w = zI 1
          · rw [if_pos c1]; exact ⟨_, rfl, rfl⟩
          · rw [if_neg c1, if_pos rfl]; exact ⟨_, rfl, rfl⟩
        · rw [if_neg (show ¬ zI b < zI 0 by rw [z_lt (by omega) (by omega) (by omega) (by omega)]; omega)]
          by_cases c1 : zI w = zI 1
          · rw [if_pos c1, if_pos c1]; exact ⟨_, rfl, rfl⟩
          · rw [if_neg c1, if_neg c1, if_neg (show ¬ zI b = zI (-6) by rw [z_eq (by omega) (by omega) (by omega) (by omega)]; omega), (onz_of b0 b1).1, (onz_of b0 b1).2.1, s_cl, s_cl]
            exact ⟨_, rfl, rfl⟩
      by_cases cr : 0 < d 0 (110 + a)
      · rw [if_neg (fun z => z cr), s_cl, k_none hd ca.1 ca.2 cr _ 20000 0 (by omega) (by omega) (by omega)]
        obtain ⟨r, f1, f2⟩ := hfin (-6) σ (Or.inl rfl)
        exact ⟨r, σ, f1, f2⟩
      · rw [if_pos cr]
        obtain ⟨s, e1, hn⟩ := ok_get (y_findNeighbours hd σ)
        rw [e1, s_cl]
        obtain ⟨b', hb', l1, l2⟩ := k_search (m := m) (τ := τ) hd s hn ca.1 ca.2 (fun z7 => if z7.2 < zI 0 then some z7.2 else if zI w = zI 1 then some z7.2 else q_cl (f_X7_ones z7.2) fun r_10 => some r_10) 20000 0 (-6) (by omega) (by omega) (by omega) (Or.inl rfl)
        rw [l1, s_cl, l2]
        obtain ⟨r, f1, f2⟩ := hfin b' s hb'
        exact ⟨r, s, f1, f2⟩
    · rw [if_neg cw, if_pos rfl, if_pos rfl]
      exact ⟨_, σ, rfl, rfl⟩
  · rw [if_neg ca, if_pos rfl, if_pos rfl]
    exact ⟨_, σ, rfl, rfl⟩
end KEEP

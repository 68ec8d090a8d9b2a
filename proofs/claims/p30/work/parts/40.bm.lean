/-! the first night, act by act along the row -/
section ROWN
variable {d e f n : Nat → Int → Int} {step tale X r pl h : Int} {l : List Act}
def rowN (d : Nat → Int → Int) (tale : Int) (e : Nat → Int → Int) (l : List Act) (pl X r : Int) : Prop :=
  okp e ∧ spl e l 0 (e 99 1) ∧ can l d ∧ goD l d 99 9 = X ∧ goD l d 99 8 = pl ∧ goD l d 99 10 = tale ∧ goD l d 99 11 = 0 ∧ (∀ i, goD l d 0 i = d 0 i) ∧
  (∀ i, 0 ≤ i → i ≤ 9 → goD l d 1 i = 0 ∧ goD l d 2 i = 0 ∧ goD l d 3 i = (if i < r then tale else -6)) ∧ bds l = r ∧
  (r = 0 → ∀ n, goN l (n0 n) d 99 4 = -6) ∧ (1 ≤ r → ∀ n, goN l (n0 n) d 99 4 = 2 ∧ goN l (n0 n) d 99 5 = 0)
theorem goN_1' (l : List Act) (x : Act) (n d : Nat → Int → Int) : goN (l ++ [x]) n d = stN (goN l n d) (goD l d) (acd (goD l d) x) x.1 := by rw [goN_app]; rfl
theorem goD_1' (l : List Act) (x : Act) (d : Nat → Int → Int) : goD (l ++ [x]) d = acd (goD l d) x := by rw [goD_app]; rfl
theorem rowN_car (H : rowN d tale e l pl X r) (hr : d 0 (pl * 11 + h) = step) (s1 : 1 ≤ step) (h0 : 0 ≤ h) (h1 : h ≤ 9) (hp : 0 ≤ pl ∧ pl ≤ 10) (h60 : e 99 1 < 60) : f_X6_say (eC e) (zI (65 + h)) = some (zI (e 99 1 + 1), eC (sy e (65 + h))) ∧ sy e (65 + h) 99 1 = e 99 1 + 1 ∧ rowN d tale (sy e (65 + h)) (l ++ [(1, h, 0)]) h (if 0 < X - step then X - step else 0) r := by
  obtain ⟨he, hs, hc, g9, g8, g10, g11, g0, gh, gb, m0, m1⟩ := H
  obtain ⟨k1, k2⟩ := kd_h h0 h1
  obtain ⟨q1, q2, q3, q4⟩ := say_one he hs (c := 65 + h) (by omega) (by omega) k1 (by omega) h60
  rw [k2] at q4
  obtain ⟨c1, c2, c3⟩ := car_at (goD l d) h
  have mk : ∀ n, goN (l ++ [(1, h, 0)]) (n0 n) d 99 4 = goN l (n0 n) d 99 4 ∧ goN (l ++ [(1, h, 0)]) (n0 n) d 99 5 = goN l (n0 n) d 99 5 := fun n => by
    have hb : bel (acd (goD l d) (1, h, 0)) (goD l d 99 8) = bel (goD l d) (goD l d 99 8) := by
      unfold bel
      rw [c3 3 _ (by omega)]
    rw [goN_1', stN_4.1, stN_4.2, if_neg (fun z => z.2 hb), if_neg (fun z => z.2 hb)]
    exact ⟨rfl, rfl⟩
  refine ⟨q1, q3, q2, q4, ?_, ?_, ?_, ?_, ?_, fun i => ?_, fun i i0 i1 => ?_, ?_, fun z n => ?_, fun z n => ?_⟩
  · refine (can_app _ _ _).mpr ⟨hc, ?_, trivial⟩
    show rsn _ 1 h = 0
    rw [rsn_1, g8, g0, hr, if_neg (by omega)]
  · rw [goD_1', c1, g9, g8, g0, hr]
  · rw [goD_1']; exact c2
  · rw [goD_1', c3 _ _ (by omega)]; exact g10
  · rw [goD_1', c3 _ _ (by omega)]; exact g11
  · rw [goD_1', c3 _ _ (by omega)]; exact g0 i
  · rw [goD_1', c3 _ _ (by omega), c3 _ _ (by omega), c3 _ _ (by omega)]; exact gh i i0 i1
  · rw [bds_app, gb]; show r + (0 + 0) = r; omega
  · rw [(mk n).1]; exact m0 z n
  · rw [(mk n).1, (mk n).2]; exact m1 z n
theorem rowN_bed (H : rowN d tale e l h X r) (hx : 0 < X) (h0 : 0 ≤ h) (h1 : h ≤ 9) (hr : r = h) (hl : h = 0 → l.length = 2) (t0 : 0 ≤ tale) (h60 : e 99 1 < 60) : f_X6_say (eC e) (zI 42) = some (zI (e 99 1 + 1), eC (sy e 42)) ∧ sy e 42 99 1 = e 99 1 + 1 ∧ rowN d tale (sy e 42) (l ++ [(2, -6, 0)]) h (if X ≤ 5 then 0 else X - 5) (r + 1) := by
  obtain ⟨he, hs, hc, g9, g8, g10, g11, g0, gh, gb, m0, m1⟩ := H
  obtain ⟨q1, q2, q3, q4⟩ := say_one he hs (c := 42) (by omega) (by omega) kd_42 (by omega) h60
  rw [pl_42] at q4
  obtain ⟨u1, u2, u3⟩ := gh h h0 h1
  obtain ⟨c1, c2, c3, c4, c5, c6⟩ := bed_at (goD l d) (h := h) g9 u1 u2 (by omega)
  obtain ⟨c3a, c3b⟩ := c3 (by omega)
  obtain ⟨w1, w2⟩ := hN_more hc g8 (by omega) (by omega)
  rw [g10] at c3b
  have hb3 : bel (goD l d) (goD l d 99 8) = -6 := by rw [g8, bel_h _ h1, u3, if_neg (by omega)]
  have hb4 : bel (acd (goD l d) (2, -6, 0)) (goD l d 99 8) = tale := by rw [bed_e, g8, bel_h _ h1, c3b]
  refine ⟨q1, q3, q2, q4, w1, ?_, ?_, ?_, ?_, fun i => ?_, fun i i0 i1 => ?_, ?_, fun z n => ?_, fun z n => ?_⟩
  · rw [w2]
    by_cases c : X ≤ 5
    · rw [if_pos c, c1 c]
    · rw [if_neg c, c2 (by omega)]
  · rw [w2, c6 _ _ (by omega) (by omega)]; exact g8
  · rw [w2, c6 _ _ (by omega) (by omega)]; exact g10
  · rw [w2, c6 _ _ (by omega) (by omega)]; exact g11
  · rw [w2, c6 _ _ (by omega) (by omega)]; exact g0 i
  · rw [w2]
    by_cases c : i = h
    · subst c
      rw [c3a, c5, c3b, if_pos (by omega)]
      exact ⟨rfl, rfl, rfl⟩
    · rw [c6 _ _ (by omega) (by omega), c6 _ _ (by omega) (by omega), c6 _ _ (by omega) (by omega)]
      obtain ⟨v1, v2, v3⟩ := gh i i0 i1
      refine ⟨v1, v2, v3.trans ?_⟩
      by_cases y : i < r
      · rw [if_pos y, if_pos (by omega)]
      · rw [if_neg y, if_neg (by omega)]
  · rw [bds_app, gb]; rfl
  · omega
  · rw [goN_1', stN_4.1, stN_4.2, hb3, hb4]
    by_cases y : r = 0
    · have := goN_0 l (n0 n) d
      rw [if_pos ⟨m0 y n, by omega⟩, if_pos ⟨m0 y n, by omega⟩, this, n0_0, hl (by omega), g8]
      exact ⟨rfl, by omega⟩
    · obtain ⟨y1, y2⟩ := m1 (by omega) n
      rw [if_neg (fun z => by have := z.1; omega), if_neg (fun z => by have := z.1; omega)]
      exact ⟨y1, y2⟩
/-- sets of the first houses -/
def pre (r : Int) : Int := ((2 ^ r.toNat - 1 : Nat) : Int)
theorem pre_or : ∀ i : Nat, i < 10 → zI (pre i) ||| ((1 : Int32) <<< (zI i &&& 31)) = zI (pre ((i : Int) + 1)) := by decide +kernel
theorem pre_bits : ∀ i : Nat, i < 11 → f_L_bits (zI (pre i)) = some (zI i) := by decide +kernel
theorem pre_onz : ∀ i : Nat, i < 11 → onz (zI (pre i)) = zI i := by decide +kernel
theorem pre_b : ∀ i : Nat, i < 11 → (2 ^ i - 1 : Nat) < 1024 := by decide +kernel
theorem bts_pre {D : Nat → Int → Int} {tale r : Int} (t0 : 0 ≤ tale) (t1 : tale ≤ 9) (r0 : 0 ≤ r) (r1 : r ≤ 10) (hD : ∀ i, 0 ≤ i → i ≤ 9 → D 3 i = (if i < r then tale else -6)) : ∀ (N : Nat) (i : Int), 0 ≤ i → i ≤ 10 → (10 - i).toNat < N → bts D (zI tale) N i (zI (pre (if i < r then i else r))) = zI (pre r) := by
  intro N
  induction N with
  | zero => intro i _ _ h; omega
  | succ N ih =>
    intro i i0 i1 hN
    unfold bts
    by_cases c : 10 ≤ i
    · rw [if_pos c, if_neg (by omega)]
    · rw [if_neg c, hD i i0 (by omega)]
      by_cases c2 : i < r
      · rw [if_pos c2, if_pos c2, if_pos rfl]
        have h := pre_or i.toNat (by omega)
        rw [Int.toNat_of_nonneg i0] at h
        rw [h]
        have := ih (i + 1) (by omega) (by omega) (by omega)
        by_cases c3 : i + 1 < r
        · rw [if_pos c3] at this; exact this
        · rw [if_neg c3] at this
          rw [show i + 1 = r by omega] at this ⊢
          exact this
      · rw [if_neg c2, if_neg c2, if_neg (by rw [z_eq (by omega) (by omega) (by omega) (by omega)]; omega)]
        have := ih (i + 1) (by omega) (by omega) (by omega)
        rw [if_neg (by omega)] at this
        exact this
end ROWN


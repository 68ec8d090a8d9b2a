/-! rounds: what is best -/
section ROUND30
variable {d e f n : Nat → Int → Int} {h house doubt : Int}
theorem fw_le : ∀ (s : Nat) (e : Int), fw d s e ≤ fw0 d e := by
  intro s
  induction s with
  | zero => intro e; exact Int.le_refl _
  | succ s ih =>
    intro e
    have := ih e
    unfold fw fwS
    by_cases c : e = ((s % 121 : Nat) : Int)
    · rw [if_pos c, ← c]; split <;> omega
    · rw [if_neg c]; exact this
/-- every way out of the kitchen begins with nine -/
theorem fw_9 (hd : okd d) (hr : ∀ l, 0 ≤ l → l ≤ 9 → d 0 (10 * 11 + l) = 9) : ∀ s : Nat, s ≤ 1331 → ∀ l, 0 ≤ l → l ≤ 9 → 9 ≤ fw d s (110 + l) := by
  intro s
  induction s with
  | zero =>
    intro _ l l0 l1
    have := hr l l0 l1
    show 9 ≤ fw0 d (110 + l)
    unfold fw0
    rw [if_neg (by omega), show (110 + l) = 10 * 11 + l by omega, this, if_pos (by omega)]
    omega
  | succ s ih =>
    intro hs l l0 l1
    have hb := fw_b hd s
    have i1 := ih (by omega)
    have h1 := i1 l l0 l1
    unfold fw fwS
    by_cases c : 110 + l = ((s % 121 : Nat) : Int)
    · rw [if_pos c]
      have e1 : ((s % 121 : Nat) : Int) / 11 = 10 := by omega
      have e2 : ((s % 121 : Nat) : Int) % 11 = l := by omega
      rw [e1, e2, ← c]
      have hp : ((s / 121 : Nat) : Int) ≤ 10 := by omega
      split
      · by_cases c2 : ((s / 121 : Nat) : Int) = 10
        · rw [c2, show (11 * 10 + l : Int) = 110 + l by omega]
          have := (hb (11 * 10 + 10)).1
          omega
        · have := i1 ((s / 121 : Nat) : Int) (by omega) (by omega)
          have h2 := (hb (11 * ((s / 121 : Nat) : Int) + l)).1
          rw [show (11 * 10 + ((s / 121 : Nat) : Int)) = 110 + ((s / 121 : Nat) : Int) by omega]
          omega
      · exact h1
    · rw [if_neg c]; exact h1
theorem bsR_top {h : Int} : ∀ n : Nat, n ≤ 1024 → ∀ s : Nat, 0 < s → s < n → canR d h s = true → onz (zI s) ≤ onz (zI (bsR d h n)) := by
  intro n
  induction n with
  | zero => intro _ s _ hs; omega
  | succ n ih =>
    intro hn s s0 s1 hc
    have hn0 : 0 < n := by omega
    rw [bsR_s hn0]
    by_cases c2 : canR d h n = true ∧ ¬ onz (zI n) ≤ onz (zI (bsR d h n))
    · rw [if_pos c2]
      by_cases e : s = n
      · rw [e]; exact Int32.le_refl _
      · exact Int32.le_trans (ih (by omega) s s0 (by omega) hc) (Int32.le_of_lt (Int32.not_le.mp c2.2))
    · rw [if_neg c2]
      by_cases e : s = n
      · subst e
        exact Classical.not_not.mp (fun z => c2 ⟨hc, z⟩)
      · exact ih (by omega) s s0 (by omega) hc
theorem onz_one : onz (zI 0) = 0 ∧ ∀ l : Nat, l < 10 → onz (zI ((2 ^ l : Nat) : Int)) = 1 := by decide +kernel
/-- the star: nine to every house, every house stubborn but one -/
def starS (d : Nat → Int → Int) (house doubt : Int) : Prop := (0 ≤ house ∧ house ≤ 9) ∧ (1 ≤ doubt ∧ doubt ≤ 9) ∧ ∀ l, 0 ≤ l → l ≤ 9 → d 0 (10 * 11 + l) = 9 ∧ d 1 l = (if l = house then doubt else 9) ∧ d 2 l = 0 ∧ d 3 l = -6
theorem gHt_nn {x : Int} {l : Nat} (h : 0 ≤ gHt d x l) : 9 * d 1 l < x := by
  unfold gHt at h
  by_cases c : d 2 l = 0 ∧ 9 * d 1 l < x
  · exact c.2
  · rw [if_neg c] at h; omega
theorem mxB_in {T : Nat → Nat → Int} {r l : Nat} : ∀ p, 0 ≤ mxB d T r l p → ∃ q, q < p ∧ r.testBit q = true ∧ 0 ≤ T r q ∧ mxB d T r l p = gHt d (T r q - Wy d ((q : Int) * 11 + l)) l := by
  intro p
  induction p with
  | zero => intro hz; exact absurd hz (show ¬ (0 : Int) ≤ -1 by decide)
  | succ p ih =>
    intro hz
    unfold mxB at hz ⊢
    by_cases c : r.testBit p = true ∧ 0 ≤ T r p ∧ mxB d T r l p < gHt d (T r p - Wy d ((p : Int) * 11 + l)) l
    · rw [if_pos c]
      exact ⟨p, by omega, c.1, c.2.1, rfl⟩
    · rw [if_neg c] at hz ⊢
      obtain ⟨q, q1, q2⟩ := ih hz
      exact ⟨q, by omega, q2⟩
theorem star_only (hd : okd d) (hs : starS d house doubt) (h1 : h ≤ 90) : ∀ s : Nat, s < 1024 → ∀ l : Nat, l < 10 → 0 ≤ VR d h s l → VR d h s l ≤ 81 ∧ (l : Int) = house ∧ s = 2 ^ l ∧ 9 * doubt < h - 9 := by
  obtain ⟨hh, hdb, hr⟩ := hs
  intro s
  induction s using Nat.strongRecOn with
  | ind s ih =>
    intro hs l hl hv
    have hW := fw_9 hd (fun l a b => (hr l a b).1) 1331 (by omega) l (by omega) (by omega)
    have hl1 := (hr l (by omega) (by omega)).2.1
    have key : ∀ x, x ≤ 81 → 0 ≤ gHt d x l → gHt d x l ≤ 81 ∧ (l : Int) = house ∧ 9 * doubt < x := fun x hx hg => by
      have a := gHt_nn hg
      have b := (gHt_b (d := d) x l).2
      by_cases c : (l : Int) = house
      · rw [hl1, if_pos c] at a
        exact ⟨by omega, c, by omega⟩
      · rw [hl1, if_neg c] at a; omega
    rw [VR_eq hs hl] at hv ⊢
    unfold pull at hv ⊢
    by_cases c : s.testBit l = true
    · rw [if_pos c] at hv ⊢
      by_cases c2 : s = 2 ^ l
      · rw [if_pos c2] at hv ⊢
        have hW' : 9 ≤ Wy d (110 + l) := hW
        obtain ⟨k1, k2, k3⟩ := key _ (by omega) hv
        exact ⟨k1, k2, c2, by omega⟩
      · exfalso
        rw [if_neg c2] at hv
        obtain ⟨b1, b2, b3⟩ := bt_in hs hl c
        obtain ⟨o1, o2, o3, o4⟩ := bt_one l hl
        obtain ⟨q, q1, q2, q3, q4⟩ := mxB_in 10 hv
        obtain ⟨v1, v2, v3, v4⟩ := ih (s - 2 ^ l) (by omega) (by omega) q q1 q3
        rw [q4] at hv
        have wb := (Wy_b hd ((q : Int) * 11 + l)).1
        obtain ⟨k1, k2, k3⟩ := key _ (by omega) hv
        have : q = l := by omega
        rw [this] at q2
        rw [b3] at q2
        exact absurd q2 (by decide)
    · rw [if_neg c] at hv; omega
theorem star_bs (hd : okd d) (hs : starS d house doubt) (h0 : 0 ≤ h) (h1 : h ≤ 90) : bsR d h 1024 = if 9 * doubt < h - 9 then 2 ^ house.toNat else 0 := by
  have hs' := hs
  obtain ⟨hh, hdb, hr⟩ := hs
  have hlt : house.toNat < 10 := by omega
  obtain ⟨o1, o2, o3, o4⟩ := bt_one house.toNat hlt
  have hb := (bsR_b (d := d) (h := h) 1024 (by omega)).1
  have hcan := bsR_can (d := d) (h := h) 1024
  by_cases c : 9 * doubt < h - 9
  · rw [if_pos c]
    obtain ⟨g1, g2, g3, g4⟩ := hr house hh.1 hh.2
    rw [if_pos rfl] at g2
    have hW := fw_9 hd (fun l a b => (hr l a b).1) 1331 (by omega) house hh.1 hh.2
    have hW2 := fw_le (d := d) 1331 (110 + house)
    have hW3 : fw0 d (110 + house) = 9 := by
      unfold fw0
      rw [if_neg (by omega), show (110 + house) = 10 * 11 + house by omega, g1, if_pos (by omega)]
    have hWy : Wy d (110 + house) = 9 := by show fw d 1331 _ = 9; omega
    have ht : ((house.toNat : Nat) : Int) = house := by omega
    have hv : 0 ≤ VR d h (2 ^ house.toNat) house.toNat := by
      rw [VR_eq o1 hlt]
      unfold pull
      rw [if_pos o2, if_pos rfl, ht, hWy]
      unfold gHt
      rw [ht, g2, g3, if_pos ⟨rfl, c⟩]
      split <;> omega
    have top := bsR_top (d := d) (h := h) 1024 (by omega) (2 ^ house.toNat) o4 o1 (canR_t.mpr ⟨_, hlt, hv⟩)
    rw [onz_one.2 _ hlt] at top
    rcases hcan with z | z
    · rw [z] at top
      have : onz (zI ((0 : Nat) : Int)) = 0 := onz_one.1
      rw [this] at top
      exact absurd top (by decide)
    · obtain ⟨l, l1, l2⟩ := canR_t.mp z
      obtain ⟨v1, v2, v3, v4⟩ := star_only hd hs' h1 _ hb l l1 l2
      rw [v3, show l = house.toNat by omega]
  · rw [if_neg c]
    rcases hcan with z | z
    · exact z
    · obtain ⟨l, l1, l2⟩ := canR_t.mp z
      obtain ⟨v1, v2, v3, v4⟩ := star_only hd hs' h1 _ hb l l1 l2
      exact absurd v4 c
end ROUND30


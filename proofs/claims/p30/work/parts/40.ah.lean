def tch (a : Nat) (b : Int) : Prop := ((a = 1 ∨ a = 2 ∨ a = 3) ∧ 0 ≤ b ∧ b < 10) ∨ (a = 99 ∧ 8 ≤ b ∧ b ≤ 11)
/-- only what acts touch differs -/
def oth (d d' : Nat → Int → Int) : Prop := ∀ a b, tch a b ∨ d' a b = d a b
theorem oth_rf (d : Nat → Int → Int) : oth d d := fun _ _ => Or.inr rfl
theorem oth_tr {d d' d'' : Nat → Int → Int} (h : oth d d') (h' : oth d' d'') : oth d d'' := fun k i => by
  rcases h' k i with z | z
  · exact Or.inl z
  · rcases h k i with y | y
    · exact Or.inl y
    · exact Or.inr (z.trans y)
theorem oth_ud {d : Nat → Int → Int} {k : Nat} {i v : Int} (h : tch k i) : oth d (ud d k i v) := fun a b => by
  by_cases e : a = k ∧ b = i
  · exact Or.inl (by rw [e.1, e.2]; exact h)
  · exact Or.inr (ud_ne _ _ (by omega))
theorem oth_md (d : Nat → Int → Int) : oth d (md d) := fun a b => by
  unfold md
  by_cases e : a = 2 ∧ 0 ≤ b ∧ b < 10
  · exact Or.inl (Or.inl ⟨by omega, by omega, by omega⟩)
  · exact Or.inr (by rw [if_neg e])
theorem oth_bed {d : Nat → Int → Int} {a : Int} (h0 : 0 ≤ a) (h1 : a ≤ 9) : oth d (bed d a) := by
  have t1 : tch 1 a := Or.inl ⟨by omega, by omega, by omega⟩
  have t2 : tch 2 a := Or.inl ⟨by omega, by omega, by omega⟩
  have t3 : tch 3 a := Or.inl ⟨by omega, by omega, by omega⟩
  have t9 : tch 99 9 := Or.inr ⟨rfl, by omega, by omega⟩
  unfold bed
  split
  · split
    · exact oth_tr (oth_ud t3) (oth_ud t9)
    · exact oth_tr (oth_tr (oth_ud t1) (oth_ud t2)) (oth_ud t9)
  · exact oth_ud t9
theorem oth_act {d : Nat → Int → Int} (hd : okd d) {k w v : Int} (hr : rsn d k w = 0) : oth d (actd d k w v) := by
  have a1 := okd_p hd
  have t8 : tch 99 8 := Or.inr ⟨rfl, by omega, by omega⟩
  have t9 : tch 99 9 := Or.inr ⟨rfl, by omega, by omega⟩
  have t10 : tch 99 10 := Or.inr ⟨rfl, by omega, by omega⟩
  have t11 : tch 99 11 := Or.inr ⟨rfl, by omega, by omega⟩
  unfold actd
  split
  · exact oth_tr (oth_ud t10) (oth_ud t9)
  · split
    · exact oth_tr (oth_ud t9) (oth_ud t8)
    · split
      · next e0 e1 e2 =>
        refine oth_bed a1.1 ?_
        unfold rsn at hr
        rw [if_neg e0, if_neg e1, if_pos e2] at hr
        split at hr <;> omega
      · split
        · exact oth_tr (oth_ud t9) (oth_ud t10)
        · exact oth_tr (oth_tr (oth_tr (oth_ud t8) (oth_ud t9)) (oth_ud t11)) (oth_md _)

/-- marks at the start of nights -/
def mst (n : Nat → Int → Int) : Prop := n 99 0 = 0 ∧ n 99 1 = 0 ∧ n 99 2 = -6 ∧ n 99 3 = -6 ∧ n 99 4 = -6 ∧ n 99 5 = -6
/-- what a run is -/
theorem run_ok {e : Nat → Int → Int} (he : okp e) : ∀ (N : Nat) (a : Int) (n d : Nat → Int → Int), 0 ≤ a → okd d → fl e N a = -6 → n 99 2 = -6 → 0 ≤ n 99 0 ∧ n 99 0 ≤ a →
    okd (run e N a n d).2.2 ∧ oth d (run e N a n d).2.2 ∧ (((run e N a n d).1 = 0 ∧ (run e N a n d).2.1 99 2 = -6) ∨ ((run e N a n d).1 = -3 ∧ 0 ≤ (run e N a n d).2.1 99 2 ∧ (run e N a n d).2.1 99 2 ≤ 60)) := by
  intro N
  induction N with
  | zero => intro a n d _ hd _ h2 _; exact ⟨hd, oth_rf d, Or.inl ⟨rfl, h2⟩⟩
  | succ N ih =>
    intro a n d h0 hd hf h2 hn0
    unfold run
    by_cases c : e 99 1 ≤ a
    · rw [if_pos c]
      exact ⟨hd, oth_rf d, Or.inl ⟨rfl, h2⟩⟩
    · rw [if_neg c]
      obtain ⟨hk, hw1, hw0, hn⟩ := fl_act hf (by omega) h0
      by_cases cr : rsn d (kdc (sg e a)) (wht e a) = 0
      · rw [if_pos cr]
        have hd' := okd_act hd hk.1 hk.2 hw1 (fun z => (hw0 z).1) (v := 10 * (sg e (a + 2) - 48)) (fun z => by have := (hw0 z).2; omega) cr
        have ho := oth_act hd (v := 10 * (sg e (a + 2) - 48)) cr
        generalize actd d (kdc (sg e a)) (wht e a) (10 * (sg e (a + 2) - 48)) = d' at *
        have hn' : stN n d d' (kdc (sg e a)) 99 2 = -6 ∧ 0 ≤ stN n d d' (kdc (sg e a)) 99 0 ∧ stN n d d' (kdc (sg e a)) 99 0 ≤ a + 1 := by
          unfold stN
          try dsimp only
          split <;> split <;> simp (disch := omega) only [ud_same, ud_ne] <;> omega
        obtain ⟨q1, q2, q3⟩ := ih (if kdc (sg e a) = 0 then a + 3 else a + 1) (stN n d d' (kdc (sg e a))) d' (by split <;> omega) hd' hn hn'.1 ⟨hn'.2.1, by split <;> omega⟩
        exact ⟨q1, oth_tr ho q2, q3⟩
      · rw [if_neg cr]
        refine ⟨hd, oth_rf d, Or.inr ⟨rfl, ?_⟩⟩
        have := he.2
        try dsimp only
        simp (disch := omega) only [ud_same, ud_ne]
        omega
/-- nights: the class's answer, marks, draft -/
def pss (e n d : Nat → Int → Int) : Int × (Nat → Int → Int) × (Nat → Int → Int) := if fl e 20000 0 = -6 then run e 20000 0 n d else (-5, n, d)

def oK {β : Type} (Q : β → Prop) (x : Option β) : Prop := ∃ r, x = some r ∧ Q r
section OKS
variable {α β : Type} {Q : β → Prop}
theorem ok_r {r : β} (h : Q r) : oK Q (some r) := ⟨r, rfl, h⟩
theorem ok_bd {x : α} {k : α → Option β} (h : oK Q (k x)) : oK Q (q_bd x k) := h
theorem ok_cl {P : α → Prop} {x : Option α} {k : α → Option β} (h : oK P x) (hk : ∀ a, P a → oK Q (k a)) : oK Q (q_cl x k) := by
  obtain ⟨a, rfl, ha⟩ := h
  exact hk a ha
theorem ok_if {c : Prop} [Decidable c] {a b : Option β} (h1 : c → oK Q a) (h2 : ¬ c → oK Q b) : oK Q (if c then a else b) := by
  by_cases h : c
  · rw [if_pos h]; exact h1 h
  · rw [if_neg h]; exact h2 h
end OKS
theorem z_s1 (i : Int) : zI i + 1 = zI (i + 1) := by rw [z_1, z_add]
theorem t_le {i n : Int} (h : 0 ≤ i) (h1 : i < 100000) (h2 : 0 ≤ n) (h3 : n < 100000) (hc : zI n ≤ zI i) : n ≤ i := (z_le (by omega) (by omega) (by omega) (by omega)).mp hc
theorem t_nle {i n : Int} (h : 0 ≤ i) (h1 : i < 100000) (h2 : 0 ≤ n) (h3 : n < 100000) (hc : ¬ zI n ≤ zI i) : i < n := by
  rw [z_le (by omega) (by omega) (by omega) (by omega)] at hc; omega

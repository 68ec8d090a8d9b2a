def eL (d : Nat → Int → Int) : qL := fun k j => zL (d k j)
theorem c_nle {a b : Int} (h : b < a) (hb : 0 ≤ b) (ha : a < 100000) : ¬ zI a ≤ zI b := by rw [z_le (by omega) (by omega) (by omega) (by omega)]; omega
theorem c_le {a b : Int} (h : a ≤ b) (hb : 0 ≤ a) (ha : b < 100000) : zI a ≤ zI b := by rw [z_le (by omega) (by omega) (by omega) (by omega)]; omega
def one (P : Int → Int) (k w i : Int) : Int := if w = 2 then i * (P (2 * i) + P (2 * i + 1)) else if w = 0 then (if i = k then P (2 * i) + P (2 * i + 1) else 0) else (if i < k then 0 else P (2 * i) + P (2 * i + 1))

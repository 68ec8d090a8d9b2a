/-! the reference's ways, rounds, keeping: they end, and change scratch rows alone -/
/-- scratch rows -/
def scr (m m' : Nat → Int → Int) : Prop := ∀ k i, (k = 24 ∨ k = 25 ∨ k = 26 ∨ k = 29) ∨ m' k i = m k i
theorem scr_rf (m : Nat → Int → Int) : scr m m := fun _ _ => Or.inr rfl
theorem scr_tr {m m' m'' : Nat → Int → Int} (h : scr m m') (h' : scr m' m'') : scr m m'' := fun k i => by
  rcases h' k i with z | z
  · exact Or.inl z
  · rcases h k i with y | y
    · exact Or.inl y
    · exact Or.inr (z.trans y)
theorem scr_ud {m : Nat → Int → Int} {k : Nat} {i v : Int} (h : k = 24 ∨ k = 25 ∨ k = 26 ∨ k = 29) : scr m (ud m k i v) := fun a b => by
  by_cases e : a = k
  · exact Or.inl (e ▸ h)
  · exact Or.inr (ud_ne _ _ (Or.inl e))
/-- the reference's state, but for scratch -/
def msc (m d : Nat → Int → Int) (σ : qS) : Prop := ∃ m', σ = eC (pw m' d) ∧ scr m m'
theorem msc_rf (m d : Nat → Int → Int) : msc m d (eC (pw m d)) := ⟨m, rfl, scr_rf m⟩
theorem cs_scr {k : Nat} {i : Int} (h : k = 24 ∨ k = 25 ∨ k = 26 ∨ k = 29) : cs k i = none := by
  unfold cs
  rw [if_neg (by omega), if_neg (by omega), if_neg (by omega), if_neg (by omega)]
section MSC
variable {β : Type} {Q : β → Prop} {m d : Nat → Int → Int} {σ : qS}
theorem ok_wrM {k n : Nat} {i : Int} {x : Int32} {K : qS → Option β} (hσ : msc m d σ) (hk : k = 24 ∨ k = 25 ∨ k = 26 ∨ k = 29) (h0 : 0 ≤ i) (h : i < n) (hn : n < 2147483648) (hK : ∀ v, msc m d v → oK Q (K v)) : oK Q (q_wr σ k n (zI i) x K) := by
  obtain ⟨m', rfl, hs⟩ := hσ
  obtain ⟨x, -, -, rfl⟩ := z_of x
  rw [s_wr h0 h hn, eC_up _ _ h0, ud_pwn (cs_scr hk)]
  exact hK _ ⟨_, rfl, scr_tr hs (scr_ud hk)⟩
theorem ok_wrMZ {k n : Nat} {i : Int} {x : Int32} {K : qS → Option β} (hσ : msc m d σ) (hk : k = 24 ∨ k = 25 ∨ k = 26 ∨ k = 29) (h0 : 0 ≤ i) (h : i < n) (hn : n < 2147483648) (hK : ∀ v, msc m d v → oK Q (K v)) : oK Q (q_wrZ σ k n (zI i) x K) := by
  obtain ⟨m', rfl, hs⟩ := hσ
  rw [s_wrZ h0 h hn]
  obtain ⟨x, -, -, e⟩ := z_of (vp_nar .boolean x)
  rw [e, eC_up _ _ h0, ud_pwn (cs_scr hk)]
  exact hK _ ⟨_, rfl, scr_tr hs (scr_ud hk)⟩
end MSC
theorem v_findOff (m d : Nat → Int → Int) (τ : qL) {σ : qS} (hσ : msc m d σ) : oK (msc m d) (f_X7_findOff σ τ) := by
  unfold f_X7_findOff
  rw [z_0]
  refine ok_for (τ := qS) 121 (msc m d) (fun again i t h0 h1 ht ih => ?_) 20000 0 σ (by omega) (by omega) hσ (by omega)
  unfold b_X7_findOff_2
  dsimp only
  rw [z_121, z_s1, z_0]
  refine ok_if (fun _ => ?_) (fun c => ?_)
  · refine ok_for (τ := qS) 11 (msc m d) (fun again i t h0 h1 ht ih => ?_) 20000 0 t (by omega) (by omega) ht (by omega)
    unfold b_X7_findOff_58
    dsimp only
    rw [z_11, z_s1, z_0]
    refine ok_if (fun _ => ok_r ht) (fun c => ?_)
    have hi := t_nle h0 (by omega) (by omega) (by omega) c
    refine ok_for (τ := qS) 121 (msc m d) (fun again2 j t2 h2 h3 ht2 ih2 => ?_) 20000 0 t (by omega) (by omega) ht (by omega)
    unfold b_X7_findOff_66
    dsimp only
    rw [z_121, z_s1, z_11]
    refine ok_if (fun _ => ih hi _ ht2) (fun c => ?_)
    have hj := t_nle h2 (by omega) (by omega) (by omega) c
    rw [z_rem h2 (by omega) (by omega) (by omega), z_div h2 (by omega) (by omega) (by omega), z_mul, z_mul, z_add, z_add]
    refine ok_rd (by omega) (by omega) (by omega) (fun _ => ok_rd (by omega) (by omega) (by omega) (fun _ => ok_bd (ok_rd h2 hj (by omega) (fun _ => ok_if (fun _ => ok_rd h2 hj (by omega) (fun _ => ok_wrM ht2 (by decide) h2 hj (by omega) (fun _ hv => ih2 hj _ hv))) (fun _ => ok_wrM ht2 (by decide) h2 hj (by omega) (fun _ hv => ih2 hj _ hv))))))
  · have hi := t_nle h0 (by omega) (by omega) (by omega) c
    refine ok_if (fun _ => ok_wrM ht (by decide) h0 hi (by omega) (fun _ hv => ih hi _ hv)) (fun _ => ok_rd h0 hi (by omega) (fun _ => ok_if (fun _ => ok_wrM ht (by decide) h0 hi (by omega) (fun _ hv => ih hi _ hv)) (fun _ => ok_rd h0 hi (by omega) (fun _ => ok_wrM ht (by decide) h0 hi (by omega) (fun _ hv => ih hi _ hv)))))
theorem v_cooled (a b : Int32) : oK tt (f_X7_cooled a b) := by
  unfold f_X7_cooled
  exact ok_if (fun _ => ok_r trivial) (fun _ => ok_r trivial)
theorem v_behindBed (σ : qS) (τ : qL) (a : Int32) {b : Int} (b0 : 0 ≤ b) (b1 : b ≤ 9) : oK tt (f_X7_behindBed σ τ a (zI b)) := by
  unfold f_X7_behindBed
  exact ok_rd b0 (by omega) (by omega) (fun _ => ok_if (fun _ => ok_rd b0 (by omega) (by omega) (fun _ => ok_if (fun _ => ok_r trivial) (fun _ => ok_cl (v_cooled _ _) (fun _ _ => ok_r trivial)))) (fun _ => ok_r trivial))
/-! sets of houses -/
theorem and_le (x y : Int32) (h : 0 ≤ x.toInt) : 0 ≤ (x &&& y).toInt ∧ (x &&& y).toInt ≤ x.toInt := by
  have e : (x &&& y).toBitVec = x.toBitVec &&& y.toBitVec := rfl
  have hx : x.toBitVec.toNat < 2 ^ 31 := by
    have h1 : x.toInt = x.toBitVec.toInt := rfl
    rw [h1, BitVec.toInt_eq_toNat_cond] at h
    split at h
    · omega
    · have := x.toBitVec.isLt; omega
  have hn : (x &&& y).toBitVec.toNat ≤ x.toBitVec.toNat := by
    rw [e, BitVec.toNat_and]
    exact Nat.and_le_left
  have i1 : x.toInt = x.toBitVec.toNat := by
    show x.toBitVec.toInt = _
    rw [BitVec.toInt_eq_toNat_cond, if_pos (by omega)]
  have i2 : (x &&& y).toInt = (x &&& y).toBitVec.toNat := by
    show (x &&& y).toBitVec.toInt = _
    rw [BitVec.toInt_eq_toNat_cond, if_pos (by omega)]
  rw [i1, i2]
  omega
theorem z_and {s : Int} (h0 : 0 ≤ s) (h1 : s < 2147483648) (y : Int32) : ∃ r, 0 ≤ r ∧ r ≤ s ∧ zI s &&& y = zI r := by
  have h := and_le (zI s) y (by rw [z_toInt (by omega) h1]; exact h0)
  rw [z_toInt (by omega) h1] at h
  exact ⟨_, h.1, h.2, (Int32.ofInt_toInt _).symm⟩
theorem or_lt (x y : Int32) (hx : 0 ≤ x.toInt ∧ x.toInt < 1024) (hy : 0 ≤ y.toInt ∧ y.toInt < 1024) : 0 ≤ (x ||| y).toInt ∧ (x ||| y).toInt < 1024 := by
  have key : ∀ z : Int32, 0 ≤ z.toInt ∧ z.toInt < 1024 → z.toBitVec.toNat < 1024 := by
    intro z h
    have h1 : z.toInt = z.toBitVec.toInt := rfl
    rw [h1, BitVec.toInt_eq_toNat_cond] at h
    split at h
    · omega
    · have := z.toBitVec.isLt; omega
  have e : (x ||| y).toBitVec = x.toBitVec ||| y.toBitVec := rfl
  have hn : (x ||| y).toBitVec.toNat < 1024 := by
    rw [e, BitVec.toNat_or]
    exact Nat.or_lt_two_pow (n := 10) (key x hx) (key y hy)
  have i2 : (x ||| y).toInt = (x ||| y).toBitVec.toNat := by
    show (x ||| y).toBitVec.toInt = _
    rw [BitVec.toInt_eq_toNat_cond, if_pos (by omega)]
  rw [i2]
  omega
def set10 (x : Int32) : Prop := 0 ≤ x.toInt ∧ x.toInt < 1024
theorem set_or {x y : Int32} (hx : set10 x) (hy : set10 y) : set10 (x ||| y) := or_lt x y hx hy
theorem set_0 : set10 0 := by unfold set10; decide
theorem set_z {s : Int} (h0 : 0 ≤ s) (h1 : s < 1024) : set10 (zI s) := by
  unfold set10
  rw [z_toInt (by omega) (by omega)]
  exact ⟨h0, h1⟩
theorem set_1 {h : Int} (h0 : 0 ≤ h) (h1 : h ≤ 9) : set10 ((1 : Int32) <<< (zI h &&& 31)) := by
  rcases (show h = 0 ∨ h = 1 ∨ h = 2 ∨ h = 3 ∨ h = 4 ∨ h = 5 ∨ h = 6 ∨ h = 7 ∨ h = 8 ∨ h = 9 by omega) with e | e | e | e | e | e | e | e | e | e <;> subst e <;> (unfold set10; decide)
theorem set_of {x : Int32} (h : set10 x) : ∃ s, 0 ≤ s ∧ s < 1024 ∧ x = zI s := ⟨x.toInt, h.1, h.2, (Int32.ofInt_toInt x).symm⟩
/-- ones ends for a set -/
theorem v_ones {x : Int32} (hx : set10 x) : oK tt (f_X7_ones x) := by
  unfold f_X7_ones
  obtain ⟨s, s0, s1, rfl⟩ := set_of hx
  have key : ∀ (N : Nat) (s : Int) (c : Int32), 0 ≤ s → s < 1024 → s.toNat < N → oK tt (q_lp (b_X7_ones_4) (fun z1 => some z1.2) N (zI s, c)) := by
    intro N
    induction N with
    | zero => intro s c h0 h1 h; omega
    | succ N ih =>
      intro s c h0 h1 h
      rw [lp_s]
      generalize q_lp (b_X7_ones_4) (fun z1 => some z1.2) N = again at ih
      unfold b_X7_ones_4
      dsimp only
      refine ok_if (fun _ => ok_r trivial) (fun c1 => ok_bd ?_)
      have hs : 0 < s := by
        rw [z_0, z_eq (by omega) (by omega) (by omega) (by omega)] at c1; omega
      rw [z_1, z_sub]
      obtain ⟨r, r0, r1, e⟩ := z_and (s := s - 1) (by omega) (by omega) (zI s)
      have e2 : zI s &&& zI (s - 1) = zI r := by rw [← e]; exact Int32.and_comm _ _
      rw [e2]
      exact ih r _ r0 (by omega) (by omega)
  exact key 20000 s 0 s0 s1 (by omega)

/-! the law from its beginning -/
set_option linter.constructorNameAsVariable false
section SEG11
variable {d e f n : Nat → Int → Int} {L : Nat} {xs : Nat → Int32} {σC σD σP σN σW σY σK σH σE : qS} {ℓK κ : qL} {step tens reached tale h X r : Int} {l : List Act}
/-- the row as it is laid: nobody believes, nobody doubts -/
def rwS (d : Nat → Int → Int) (step : Int) : Prop := okd d ∧ d 99 7 = 0 ∧ d 99 8 = 10 ∧ (∀ k, 0 ≤ k → k ≤ 9 → d 4 k = k) ∧ d 99 11 = 0 ∧ chS d step ∧ ∀ i, 0 ≤ i → i ≤ 9 → d 1 i = 0 ∧ d 2 i = 0 ∧ d 3 i = -6
theorem p_rnd_n (hd : okd d) {h : Int} (h0 : 0 ≤ h) (h1 : h ≤ 99) (σ : qS) : ∃ s η', f_X6_round_n σ (eC d) (zI h) (zI 0) = some (rdV d h 0, s, η') := by
  rw [round_n_eq σ d (by
    unfold rin
    rw [z_toInt (by omega) (by omega), z_toInt (by omega) (by omega)]
    omega)]
  exact p_rnd hd h0 h1 (by omega) (by omega) σ _
theorem t_321 (hL : L ≤ 260) (hR : rwS d step) (hf : okd f) (H : rowN d tale e l 9 X r) (t0 : 0 ≤ tale ∧ tale ≤ 9) (n0' : 1 ≤ tens ∧ tens ≤ 9) (r1 : 1 ≤ r ∧ r ≤ 10) (h50 : e 99 1 < 60) (hE : step < 10 * tens - (r - 1) * (step + 5)) (hG : r = 10 ∨ 10 * tens - r * (step + 5) ≤ step) :
    oK Q1 (g_321 L xs (eC d) (eC f) (eC e) (eC n) σW σY σK ℓK (zI step) (zI tale) (zI tens) (zI (e 99 1)) (zI X) (zI (pre r)) (zI l.length)) := by
  obtain ⟨hd, b7, b8, b4, b11, hC, hz⟩ := hR
  obtain ⟨he, hs, hc, g9, g8, g10, g11, g0, gh, gb, m0, m1⟩ := H
  have hs1 := hC.1
  have hpb := pre_b r.toNat (by omega)
  have hpre : 1 ≤ pre r ∧ pre r < 1024 := by
    unfold pre
    have : 2 ^ 1 ≤ 2 ^ r.toNat := Nat.pow_le_pow_right (by decide) (by omega)
    omega
  have hv := (VR_pre hd hC (fun i a b => ⟨(hz i a b).1, (hz i a b).2.1⟩) (H := 10 * tens) (r - 1).toNat (by omega) (by rw [Int.toNat_of_nonneg (by omega)]; exact hE)).1
  have er : (r - 1).toNat + 1 = r.toNat := by omega
  rw [er] at hv
  have top := bsR_top (d := d) (h := 10 * tens) 1024 (by omega) (2 ^ r.toNat - 1) (by unfold pre at hpre; omega) hpb (canR_t.mpr ⟨_, by omega, hv⟩)
  have po := pre_onz r.toNat (by omega)
  rw [Int.toNat_of_nonneg (by omega)] at po
  have po' : onz (zI ((2 ^ r.toNat - 1 : Nat) : Int)) = zI r := po
  rw [po'] at top
  have pb := pre_bits r.toNat (by omega)
  rw [Int.toNat_of_nonneg (by omega)] at pb
  obtain ⟨s1, η1, x1⟩ := p_rnd_n hd (h := 10 * tens) (by omega) (by omega) σW
  obtain ⟨s2, x2⟩ := p_near0 hd hC s1
  obtain ⟨s3, x3⟩ := p_near1 hd hC s2
  have rv : rdV d (10 * tens) 0 = onz (zI (bsR d (10 * tens) 1024)) := if_pos rfl
  unfold g_321
  rw [pb, s_cl, z_0, z_10, z_mul, x1, s_cl, rv]
  dsimp only
  rw [if_neg (Int32.not_lt.mpr top), z_9, x2, s_cl, z_mul]
  dsimp only
  rw [if_pos rfl, z_1, x3, s_cl, z_8]
  dsimp only
  rw [if_pos rfl]
  exact t_375 hL hd b7 b4 b11 hC hf he hs hc g8 g9 g11 h50 t0 ⟨by omega, by omega, by omega, by omega, by omega, hG⟩
theorem bts_all {D : Nat → Int → Int} (t0 : 0 ≤ tale) (t1 : tale ≤ 9) (r0 : 1 ≤ r) (r1 : r ≤ 10) (hD : ∀ i, 0 ≤ i → i ≤ 9 → D 3 i = (if i < r then tale else -6)) : bts D (zI tale) 20000 0 0 = zI (pre r) := by
  have := bts_pre (D := D) t0 t1 (by omega) r1 hD 20000 0 (by omega) (by omega) (by omega)
  rw [if_pos (by omega), show zI (pre 0) = (0 : Int32) by decide] at this
  exact this
theorem t_137 (hL : L ≤ 260) (hR : rwS d step) (hf : okd f) (H : rowN d tale e l 10 (10 * tens) 0) (hl : l.length = 1) (h3 : e 99 1 = 3) (t0 : 0 ≤ tale ∧ tale ≤ 9) (n0' : 1 ≤ tens ∧ tens ≤ 9) :
    oK Q1 (g_137 L xs (eC d) (eC f) (eC e) (eC n) σW σY σK ℓK (zI step) (zI tale) (zI tens) (zI 3) (zI (10 * tens)) (zI 0) (zI 1)) := by
  have hR' := hR
  obtain ⟨hd, b7, b8, b4, b11, hC, hz⟩ := hR
  have hs1 := hC.1
  unfold g_137
  rw [z_0]
  refine ok_forI (τ := Int32 × Int32 × Int32 × qS × qS × qS × Int32) 10 (fun h u => ∃ (f e n : Nat → Int → Int) (l : List Act) (r X : Int), u = (zI (e 99 1), zI X, zI l.length, eC f, eC e, eC n, zI (pre r)) ∧ okd f ∧ rowN d tale e l (if h = 0 then 10 else h - 1) X r ∧ e 99 1 = 3 + h + r ∧ (l.length : Int) = 1 + h + r ∧ 0 ≤ r ∧ r ≤ h ∧ ((r = h ∧ X = (if 0 < 10 * tens - h * (step + 5) then 10 * tens - h * (step + 5) else 0)) ∨ (r < h ∧ X = 0 ∧ 10 * tens - r * (step + 5) ≤ step)) ∧ (1 ≤ r → step < 10 * tens - (r - 1) * (step + 5))) (fun again h u h0 h1 hP ih => ?_) 20000 0 _ (by omega) (by omega) ⟨f, e, n, l, 0, 10 * tens, ?_, hf, H, by omega, by omega, by omega, by omega, Or.inl ⟨rfl, ?_⟩, by omega⟩ (by omega)
  · obtain ⟨f, e, n, l, r, X, rfl, hf, H, h3, hl, r0, rh, hA, hE⟩ := hP
    have hpl : 0 ≤ (if h = 0 then (10 : Int) else h - 1) ∧ (if h = 0 then (10 : Int) else h - 1) ≤ 10 := by split <;> omega
    unfold b_L_law_140
    dsimp only
    refine ok_ifE (by rw [z_10, z_le (by omega) (by omega) (by omega) (by omega)]) (fun c => ?_) (fun c => ?_)
    · obtain rfl : h = 10 := by omega
      have rr : 1 ≤ r := by
        rcases hA with ⟨a1, a2⟩ | ⟨a1, a2, a3⟩
        · omega
        · by_cases z : r = 0
          · subst z
            rw [Int.zero_mul] at a3; omega
          · omega
      exact t_321 hL hR' hf H t0 n0' ⟨rr, by omega⟩ (by omega) (hE rr) (by
        rcases hA with ⟨a1, a2⟩ | ⟨a1, a2, a3⟩
        · exact Or.inl a1
        · exact Or.inr a3)
    · have hh9 : h ≤ 9 := by omega
      have hroad : d 0 ((if h = 0 then (10 : Int) else h - 1) * 11 + h) = step := by
        by_cases z : h = 0
        · rw [if_pos z]
          exact (hC.2 10 h (by omega) (by omega) (by omega) (by omega)).1 (Or.inr (Or.inl ⟨rfl, z⟩))
        · rw [if_neg z]
          exact (hC.2 (h - 1) h (by omega) (by omega) (by omega) (by omega)).1 (Or.inl ⟨by omega, by omega, by omega⟩)
      obtain ⟨q1, q2, HC⟩ := rowN_car H hroad (by omega) h0 hh9 hpl (by omega)
      have HC' := HC
      have X0 : 0 ≤ X ∧ X ≤ 99 := by
        have := okd_h (go_pass (n := n) H.1 hd hf H.2.1 H.2.2.1).2.1
        rw [H.2.2.2.1] at this
        exact this
      obtain ⟨he1, hs1', hc1, k9, k8, k10, k11, k0, kh, kb, km0, km1⟩ := HC'
      have ok1 := (go_pass (n := n) he1 hd hf hs1' hc1).2.1
      have w0 := fun n => p_pan (n := n) he1 hd hf hs1' hc1 (w := 0) (by omega) (by omega)
      have w1 := fun n => p_pan (n := n) he1 hd ok1 hs1' hc1 (w := 1) (by omega) (by omega)
      rw [show pFact (goD (l ++ [(1, h, 0)]) d) 0 = goD (l ++ [(1, h, 0)]) d 99 8 from rfl, k8] at w0
      rw [show pFact (goD (l ++ [(1, h, 0)]) d) 1 = goD (l ++ [(1, h, 0)]) d 99 9 from rfl, k9] at w1
      have ll : ((l ++ [((1, h, 0) : Act)]).length : Int) = l.length + 1 := by rw [List.length_append, List.length_singleton]; omega
      simp only [z_1, z_0, z_65, z_42, z_5, z_2, z_add, z_sub]
      refine ok_ifE (z_le (by omega) (by omega) (by omega) (by omega)) (fun cx => ?_) (fun cx => ?_)
      · rw [if_neg (by omega)] at w1
        rw [q1, s_cl]
        dsimp only
        rw [if_pos rfl, w0, s_cl]
        dsimp only
        rw [if_pos rfl, w1, s_cl]
        dsimp only
        rw [if_pos rfl]
        rw [if_neg (by omega)] at HC
        refine ih (by omega) _ ⟨goD (l ++ [(1, h, 0)]) d, sy e (65 + h), _, l ++ [(1, h, 0)], r, 0, by rw [q2, ll], ok1, ?_, by omega, by omega, r0, by omega, Or.inr ⟨by omega, rfl, ?_⟩, hE⟩
        · rw [if_neg (by omega), show h + 1 - 1 = h by omega]; exact HC
        · rcases hA with ⟨a1, a2⟩ | ⟨a1, a2, a3⟩
          · subst a1
            by_cases z : 0 < 10 * tens - r * (step + 5)
            · rw [if_pos z] at a2; omega
            · omega
          · exact a3
      · have rA : r = h ∧ X = 10 * tens - h * (step + 5) := by
          rcases hA with ⟨a1, a2⟩ | ⟨a1, a2, a3⟩
          · by_cases z : 0 < 10 * tens - h * (step + 5)
            · rw [if_pos z] at a2; exact ⟨a1, a2⟩
            · rw [if_neg z] at a2; omega
          · omega
        obtain ⟨rfl, aX⟩ := rA
        rw [if_pos (by omega)] at w1 HC
        obtain ⟨y1, y2, HB⟩ := rowN_bed HC (by omega) h0 hh9 rfl (fun z => by omega) t0.1 (by omega)
        have HB' := HB
        obtain ⟨he2, hs2, hc2, j9, j8, j10, j11, j0, jh, jb, jm0, jm1⟩ := HB'
        have ok2 := (go_pass (n := n) he2 hd ok1 hs2 hc2).2.1
        have v1 := fun n => p_pan (n := n) he2 hd ok1 hs2 hc2 (w := 1) (by omega) (by omega)
        have v2 := fun n => p_behind (n := n) he2 hd ok2 hs2 hc2 h0 hh9 (w := 0) (by omega) (by omega)
        have v3 := fun n => p_holds (n := n) he2 hd ok2 hs2 hc2 t0.1 t0.2
        have v4 := fun n => p_other0 (n := n) he2 hd ok2 hs2 hc2
        have v5 := fun n => p_other1 (n := n) he2 hd ok2 hs2 hc2
        have v6 := fun n => p_judge2 (n := n) he2 hd ok2 hs2 hc2
        rw [show pFact (goD (l ++ [(1, r, 0)] ++ [(2, -6, 0)]) d) 1 = goD (l ++ [(1, r, 0)] ++ [(2, -6, 0)]) d 99 9 from rfl, j9] at v1
        rw [show hFact (goD (l ++ [(1, r, 0)] ++ [(2, -6, 0)]) d) r 0 = goD (l ++ [(1, r, 0)] ++ [(2, -6, 0)]) d 3 r from rfl, (jh r h0 hh9).2.2, if_pos (by omega)] at v2
        rw [bts_all t0.1 t0.2 (by omega) (by omega) (fun i a b => (jh i a b).2.2)] at v3
        rw [jb] at v6
        have jm := jm1 (by omega)
        have ll2 : ((l ++ [((1, r, 0) : Act)] ++ [((2, -6, 0) : Act)]).length : Int) = l.length + 1 + 1 := by rw [List.length_append, List.length_singleton]; omega
        have hor := pre_or r.toNat (by omega)
        rw [Int.toNat_of_nonneg h0, z_1] at hor
        have hbt := pre_bits (r + 1).toNat (by omega)
        rw [Int.toNat_of_nonneg (by omega)] at hbt
        have eT : (r + 1) * (step + 5) = r * (step + 5) + (step + 5) := by rw [Int.add_mul, Int.one_mul]
        have nx : ∀ n' : Nat → Int → Int, oK Q1 (again (zI (r + 1), zI (e 99 1 + 1 + 1), zI (if X - step ≤ 5 then 0 else X - step - 5), zI (l.length + 1 + 1), eC (goD (l ++ [(1, r, 0)] ++ [(2, -6, 0)]) d), eC (sy (sy e (65 + r)) 42), eC n', zI (pre (r + 1)))) := fun n' => by
          refine ih (by omega) _ ⟨goD (l ++ [(1, r, 0)] ++ [(2, -6, 0)]) d, sy (sy e (65 + r)) 42, n', l ++ [(1, r, 0)] ++ [(2, -6, 0)], r + 1, _, by rw [ll2, y2, q2], ok2, ?_, by omega, by omega, by omega, by omega, Or.inl ⟨rfl, ?_⟩, fun _ => ?_⟩
          · rw [if_neg (by omega), show r + 1 - 1 = r by omega]; exact HB
          · rw [eT]
            by_cases z : X - step ≤ 5
            · rw [if_pos z, if_neg (by omega)]
            · rw [if_neg z, if_pos (by omega)]; omega
          · rw [show r + 1 - 1 = r by omega]; omega
        rw [s_bd, q1, s_cl]
        dsimp only
        rw [if_pos rfl, w0, s_cl]
        dsimp only
        rw [if_pos rfl, w1, s_cl]
        dsimp only
        rw [if_pos rfl, hor]
        refine ok_ifE (z_le (by omega) (by omega) (by omega) (by omega)) (fun cz => absurd cz (by omega)) (fun _ => ?_)
        rw [s_bd, q2] at *
        refine ok_ifE (z_le (by omega) (by omega) (by omega) (by omega)) (fun c5 => ?_) (fun c5 => ?_)
        · rw [if_pos c5] at v1 nx
          rw [y1, s_cl]
          dsimp only
          rw [if_pos rfl, v1, s_cl]
          dsimp only
          rw [if_pos rfl, v2, s_cl]
          dsimp only
          rw [if_pos rfl, v3, s_cl]
          dsimp only
          rw [if_pos rfl, v4, s_cl, (jm _).1]
          dsimp only
          rw [if_pos rfl, v5, s_cl, (jm _).2]
          dsimp only
          rw [if_pos rfl, v6, s_cl, hbt, s_cl]
          dsimp only
          rw [if_pos rfl]
          exact nx _
        · rw [if_neg c5] at v1 nx
          rw [s_bd, z_sub, y1, s_cl]
          dsimp only
          rw [if_pos rfl, v1, s_cl]
          dsimp only
          rw [if_pos rfl, v2, s_cl]
          dsimp only
          rw [if_pos rfl, v3, s_cl]
          dsimp only
          rw [if_pos rfl, v4, s_cl, (jm _).1]
          dsimp only
          rw [if_pos rfl, v5, s_cl, (jm _).2]
          dsimp only
          rw [if_pos rfl, v6, s_cl, hbt, s_cl]
          dsimp only
          rw [if_pos rfl]
          exact nx _
  · rw [h3, hl]; rfl
  · rw [Int.zero_mul, if_pos (by omega)]; omega
theorem t_65 (hL : L ≤ 260) (hR : rwS d step) (hf : okd f) (he : clr e) :
    oK Q1 (g_65 L xs (eC d) (eC f) (eC e) (eC n) σW σY σK ℓK (zI step)) := by
  have hR' := hR
  obtain ⟨hd, b7, b8, b4, b11, hC, hz⟩ := hR
  obtain ⟨tale, e1, t0, t1⟩ := x_cell hL xs (a := 1) (n := 10) (by omega) (by omega) (by omega) (by omega)
  obtain ⟨tn, e2, n0', n1⟩ := x_cell hL xs (a := 2) (n := 9) (by omega) (by omega) (by omega) (by omega)
  obtain ⟨q1, q2, q3, q4, q5, q6⟩ := say_fill he (w := tale) (t := 1 + tn) t0 (by omega) (by omega) (by omega)
  have e48 : (48 : Int32) = zI 48 := by decide
  obtain ⟨f1, f2, f3, f4, f5⟩ := fill_at d tale (1 + tn)
  have fne := fill_ne d tale (1 + tn)
  unfold g_65
  rw [z_1, z_10, e1, s_cl, z_2, z_9, e2, s_cl, z_add, s_bd, z_mul, s_bd, z_61, q1, s_cl]
  dsimp only
  rw [if_pos rfl, e48, z_add, q2, s_cl]
  dsimp only
  rw [if_pos rfl, z_add, q3, s_cl, z_3]
  dsimp only
  rw [if_pos rfl, z_0]
  refine t_137 (l := [(0, tale, 1 + tn)]) hL hR' hf ⟨q4, q6, ⟨?_, trivial⟩, f1, f3.trans b8, f2, ?_, fun i => ?_, fun i i0 i1 => ?_, rfl, fun _ n => ?_, by omega⟩ rfl q5 ⟨t0, by omega⟩ ⟨by omega, by omega⟩
  · show rsn d 0 tale = 0
    rw [rsn_0, if_pos b8]
  · exact (fne 99 11 (by omega)).trans b11
  · exact fne 0 i (by omega)
  · rw [if_neg (by omega)]
    exact ⟨(fne 1 i (by omega)).trans (hz i i0 i1).1, (fne 2 i (by omega)).trans (hz i i0 i1).2.1, (fne 3 i (by omega)).trans (hz i i0 i1).2.2⟩
  · show stN (n0 n) d (acd d (0, tale, 1 + tn)) 0 99 4 = -6
    rw [stN_4.1, b8, bel_10, bel_10, if_neg (fun z => z.2 rfl)]
    exact n0_4
/-- the row, laid so far -/
def edg (q p : Int) : Int := if q = 10 ∨ p = 10 then 0 else if q < p then p else q
theorem edg_c (q p : Int) : edg q p = edg p q := by
  unfold edg
  by_cases y : q = 10 ∨ p = 10
  · rw [if_pos y, if_pos (show p = 10 ∨ q = 10 by omega)]
  · rw [if_neg y, if_neg (show ¬ (p = 10 ∨ q = 10) by omega)]
    by_cases x : q < p
    · rw [if_pos x, if_neg (show ¬ p < q by omega)]
    · rw [if_neg x]
      by_cases x2 : p < q
      · rw [if_pos x2]
      · rw [if_neg x2]; omega
def rwI (d : Nat → Int → Int) (step h : Int) : Prop := okd d ∧ d 99 7 = 0 ∧ d 99 8 = 10 ∧ (∀ k, 0 ≤ k → k ≤ 9 → d 4 k = k) ∧ d 99 11 = 0 ∧
  (∀ q p, 0 ≤ q → q ≤ 10 → 0 ≤ p → p ≤ 10 → (adj q p ∧ edg q p < h → d 0 (q * 11 + p) = step) ∧ (¬ (adj q p ∧ edg q p < h) → d 0 (q * 11 + p) = 0)) ∧ ∀ i, 0 ≤ i → i ≤ 9 → d 1 i = (if i < h then 0 else 5) ∧ d 2 i = 0 ∧ d 3 i = -6
theorem rwI_s {a : Int} (H : rwI d step h) (h0 : 0 ≤ h) (h1 : h ≤ 9) (s1 : 1 ≤ step ∧ step ≤ 4) (ha : a = if h = 0 then 10 else h - 1) : f_X6_road (eC d) (zI a) (zI h) (zI step) = some (zI 0, eC (lay d a h step)) ∧ f_X6_house (eC (lay d a h step)) (zI h) (zI 0) (zI 0) = some (zI 5, eC (fur (lay d a h step) h 0 0)) ∧ rwI (fur (lay d a h step) h 0 0) step (h + 1) := by
  obtain ⟨hd, b7, b8, b4, b11, hr, hz⟩ := H
  have ha' : 0 ≤ a ∧ a ≤ 10 ∧ ¬ a = h ∧ adj a h ∧ edg a h = h := by
    unfold adj edg
    by_cases z : h = 0
    · rw [if_pos z] at ha; subst ha z; refine ⟨by omega, by omega, by omega, by omega, ?_⟩; rw [if_pos (Or.inl rfl)]
    · rw [if_neg z] at ha; subst ha; refine ⟨by omega, by omega, by omega, by omega, ?_⟩; rw [if_neg (by omega), if_pos (by omega)]
  obtain ⟨a0, a1, a2, a3, a4⟩ := ha'
  obtain ⟨p1, p2⟩ := p_road hd a0 a1 h0 (show h ≤ 10 by omega) a2 (v := step) (by omega) (by omega)
  obtain ⟨q1, q2⟩ := p_house p2 h0 h1 (v := 0) (w := 0) (by omega) (by omega) (by omega) (by omega)
  rw [(hr a h a0 a1 h0 (by omega)).2 (fun z => by have := z.2; omega)] at p1
  rw [lay_ne _ _ (by omega), (hz h h0 h1).1, if_neg (by omega)] at q1
  refine ⟨p1, q1, q2, ?_, ?_, fun k k0 k1 => ?_, ?_, fun q p q0 q1' p0 p1' => ?_, fun i i0 i1 => ?_⟩
  · rw [fur_ne _ _ (by omega), lay_ne _ _ (by omega)]; exact b7
  · rw [fur_ne _ _ (by omega), lay_ne _ _ (by omega)]; exact b8
  · rw [fur_ne _ _ (by omega), lay_ne _ _ (by omega)]; exact b4 k k0 k1
  · rw [fur_ne _ _ (by omega), lay_ne _ _ (by omega)]; exact b11
  · obtain ⟨r1, r2⟩ := hr q p q0 q1' p0 p1'
    rw [fur_ne _ _ (by omega), lay_0]
    by_cases c : q * 11 + p = a * 11 + h ∨ q * 11 + p = h * 11 + a
    · rw [if_pos c]
      refine ⟨fun _ => rfl, fun z => absurd ?_ z⟩
      rcases c with c | c
      · obtain rfl : q = a := by omega
        obtain rfl : p = h := by omega
        exact ⟨a3, by omega⟩
      · obtain rfl : q = h := by omega
        obtain rfl : p = a := by omega
        refine ⟨by unfold adj at a3 ⊢; omega, ?_⟩
        have := edg_c q p
        omega
    · rw [if_neg c]
      refine ⟨fun z => ?_, fun z => r2 (fun y => z ⟨y.1, by omega⟩)⟩
      by_cases c3 : edg q p < h
      · exact r1 ⟨z.1, c3⟩
      · exfalso
        obtain ⟨c4, c5⟩ := z
        apply c
        unfold adj at c4
        unfold edg at c5 c3
        by_cases z : h = 0
        · rw [if_pos z] at ha
          by_cases y : q = 10 ∨ p = 10
          · omega
          · rw [if_neg y] at c5
            split at c5 <;> omega
        · rw [if_neg z] at ha
          by_cases y : q = 10 ∨ p = 10
          · rw [if_pos y] at c3; omega
          · rw [if_neg y] at c5 c3
            by_cases x : q < p
            · rw [if_pos x] at c5 c3; omega
            · rw [if_neg x] at c5 c3; omega
  · obtain ⟨z1, z2, z3⟩ := hz i i0 i1
    by_cases c : i = h
    · subst c
      rw [fur_1, fur_2, fur_ne _ _ (by omega), lay_ne _ _ (by omega), if_pos (by omega)]
      exact ⟨rfl, rfl, z3⟩
    · rw [fur_ne _ _ (by omega), fur_ne _ _ (by omega), fur_ne _ _ (by omega), lay_ne _ _ (by omega), lay_ne _ _ (by omega), lay_ne _ _ (by omega), z1]
      refine ⟨?_, z2, z3⟩
      by_cases y : i < h
      · rw [if_pos y, if_pos (by omega)]
      · rw [if_neg y, if_neg (by omega)]
theorem t_8 (hL : L ≤ 260) (hI : ∀ step, rwI d step 0) (hf : okd f) (he : clr e) : oK Q1 (g_8 L xs (eC d) (eC f) (eC e) (eC n) σW σY σK ℓK) := by
  obtain ⟨st, e1, s0, s1⟩ := x_cell hL xs (a := 0) (n := 4) (by omega) (by omega) (by omega) (by omega)
  unfold g_8
  rw [z_0, z_4, e1, s_cl, z_1, z_add, s_bd]
  refine ok_forI (τ := qS) 10 (fun h u => ∃ d : Nat → Int → Int, u = eC d ∧ rwI d (1 + st) h) (fun again h u h0 h1 hP ih => ?_) 20000 0 (eC d) (by omega) (by omega) ⟨d, rfl, hI _⟩ (by omega)
  obtain ⟨d, rfl, H⟩ := hP
  unfold b_L_law_19
  dsimp only
  refine ok_ifE (by rw [z_10, z_le (by omega) (by omega) (by omega) (by omega)]) (fun c => ?_) (fun c => ?_)
  · obtain rfl : h = 10 := by omega
    obtain ⟨hd, b7, b8, b4, b11, hr, hz⟩ := H
    refine t_65 hL ⟨hd, b7, b8, b4, b11, ⟨⟨by omega, by omega⟩, fun q p q0 q1 p0 p1 => ⟨fun z => ?_, fun z => ?_⟩⟩, fun i i0 i1 => ?_⟩ hf he
    · exact (hr q p q0 q1 p0 p1).1 ⟨z, by unfold edg; unfold adj at z; split <;> first | omega | (split <;> omega)⟩
    · exact (hr q p q0 q1 p0 p1).2 (fun y => z y.1)
    · obtain ⟨z1, z2, z3⟩ := hz i i0 i1
      exact ⟨by rw [z1, if_pos (by omega)], z2, z3⟩
  · simp only [z_1, z_0, z_10, z_5, z_sub, z_add]
    refine ok_ifE (z_eq (by omega) (by omega) (by omega) (by omega)) (fun cz => ?_) (fun cz => ?_)
    · obtain ⟨p1, p2, p3⟩ := rwI_s (a := 10) H h0 (by omega) (by omega) (by rw [if_pos cz])
      rw [p1, s_cl]
      dsimp only
      rw [if_pos rfl, p2, s_cl]
      dsimp only
      rw [if_pos rfl]
      exact ih (by omega) _ ⟨_, rfl, p3⟩
    · obtain ⟨p1, p2, p3⟩ := rwI_s (a := h - 1) H h0 (by omega) (by omega) (by rw [if_neg cz])
      rw [p1, s_cl]
      dsimp only
      rw [if_pos rfl, p2, s_cl]
      dsimp only
      rw [if_pos rfl]
      exact ih (by omega) _ ⟨_, rfl, p3⟩
end SEG11


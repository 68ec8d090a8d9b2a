/-! the law's segments: the star, nine nights to one house -/
section SEG8
variable {d e f n : Nat → Int → Int} {L : Nat} {xs : Nat → Int32} {σC σD σP σN σW σY σK σH σE : qS} {ℓK κ : qL} {step tens blv reached w t h house doubt oth' : Int}
theorem stN_4 {n d d' : Nat → Int → Int} {k : Int} : stN n d d' k 99 4 = (if n 99 4 = -6 ∧ ¬ bel d' (d 99 8) = bel d (d 99 8) then n 99 0 else n 99 4) ∧ stN n d d' k 99 5 = (if n 99 4 = -6 ∧ ¬ bel d' (d 99 8) = bel d (d 99 8) then d 99 8 else n 99 5) := by
  unfold stN
  by_cases c : n 99 4 = -6 ∧ ¬ bel d' (d 99 8) = bel d (d 99 8)
  · simp only [if_pos c]
    split <;> simp (disch := omega) only [ud_same, ud_ne] <;> exact ⟨trivial, trivial⟩
  · simp only [if_neg c]
    split <;> simp (disch := omega) only [ud_same, ud_ne] <;> exact ⟨trivial, trivial⟩
theorem bel_10 (d : Nat → Int → Int) : bel d 10 = -6 := if_neg (by decide)
theorem bel_h (d : Nat → Int → Int) {p : Int} (h : p ≤ 9) : bel d p = d 3 p := if_pos h
/-- a handful, a carry from the kitchen: nobody believes otherwise -/
theorem two_45 (n : Nat → Int → Int) (hp : d 99 8 = 10) (tale tens house : Int) : goN (hNight tale tens house 0) (n0 n) d 99 4 = -6 ∧ goN (hNight tale tens house 0) (n0 n) d 99 5 = -6 := by
  have e : goN (hNight tale tens house 0) (n0 n) d = stN (stN (n0 n) d (acd d (0, tale, tens)) 0) (acd d (0, tale, tens)) (acd (acd d (0, tale, tens)) (1, house, 0)) 1 := rfl
  obtain ⟨f1, f2, f3, f4, f5⟩ := fill_at d tale tens
  have a1 := stN_4 (n := n0 n) (d := d) (d' := acd d (0, tale, tens)) (k := 0)
  rw [hp, bel_10, bel_10, n0_4, n0_5] at a1
  have a2 := stN_4 (n := stN (n0 n) d (acd d (0, tale, tens)) 0) (d := acd d (0, tale, tens)) (d' := acd (acd d (0, tale, tens)) (1, house, 0)) (k := 1)
  rw [f3, hp, bel_10, bel_10] at a2
  rw [e, a2.1, a2.2, if_neg (fun z => z.2 rfl), if_neg (fun z => z.2 rfl), a1.1, a1.2, if_neg (fun z => z.2 rfl), if_neg (fun z => z.2 rfl)]
  exact ⟨rfl, rfl⟩
/-- one bed after that -/
theorem one_bed (hp : d 99 8 = 10) (hS : starS d house doubt) {tale k : Int} (k0 : 1 ≤ k) (k1 : k ≤ 9) (t0 : 0 ≤ tale) :
    can (hNight tale k house 1) d ∧ (10 * k - 9 ≤ 5 → goD (hNight tale k house 1) d 99 9 = 0) ∧ (5 < 10 * k - 9 → goD (hNight tale k house 1) d 99 9 = 10 * k - 9 - 5) ∧
    (9 * doubt < 10 * k - 9 → goD (hNight tale k house 1) d 3 house = tale ∧ goD (hNight tale k house 1) d 1 house = doubt ∧ ∀ n, goN (hNight tale k house 1) (n0 n) d 99 5 = house) ∧
    (¬ 9 * doubt < 10 * k - 9 → goD (hNight tale k house 1) d 3 house = -6 ∧ (doubt < 9 → goD (hNight tale k house 1) d 1 house = doubt + 1) ∧ (doubt = 9 → goD (hNight tale k house 1) d 1 house = 9) ∧ ∀ n, goN (hNight tale k house 1) (n0 n) d 99 5 = -6) := by
  obtain ⟨hh, hdb, hr⟩ := hS
  obtain ⟨r1, r2, r3, r4⟩ := hr house hh.1 hh.2
  rw [if_pos rfl] at r2
  obtain ⟨a1, a2, a3, a4, a5⟩ := h0_go (d := d) (tale := tale) (tens := k) hp r1
  rw [if_pos (by omega)] at a2
  obtain ⟨m1, m2⟩ := hN_more a1 a4 (by omega) (by omega)
  have b1 : goD (hNight tale k house 0) d 1 house = doubt := by rw [a5 _ _ (by omega)]; exact r2
  have b2 : goD (hNight tale k house 0) d 2 house = 0 := by rw [a5 _ _ (by omega)]; exact r3
  have b3 : goD (hNight tale k house 0) d 3 house = -6 := by rw [a5 _ _ (by omega)]; exact r4
  obtain ⟨c1, c2, c3, c4, c5, c6⟩ := bed_at (goD (hNight tale k house 0) d) (h := house) a2 b1 b2 hdb.2
  have en : ∀ n, goN (hNight tale k house 1) (n0 n) d = stN (goN (hNight tale k house 0) (n0 n) d) (goD (hNight tale k house 0) d) (bed (goD (hNight tale k house 0) d) house) 2 := fun n => by
    rw [hNight_s, goN_app]
    show stN _ _ (acd (goD (hNight tale k house 0) d) (2, -6, 0)) 2 = _
    rw [bed_e, a4]
  have e5 : ∀ n, goN (hNight tale k house 1) (n0 n) d 99 5 = (if ¬ bed (goD (hNight tale k house 0) d) house 3 house = -6 then house else -6) := fun n => by
    obtain ⟨p4, p5⟩ := two_45 n hp tale k house
    rw [en, stN_4.2, a4, p4, p5, bel_h _ hh.2, bel_h _ hh.2, b3]
    by_cases c : bed (goD (hNight tale k house 0) d) house 3 house = -6
    · rw [if_neg (fun z => z.2 c), if_neg (fun z => z c)]
    · rw [if_pos ⟨rfl, c⟩, if_pos c]
  have eD : goD (hNight tale k house 1) d = bed (goD (hNight tale k house 0) d) house := by rw [hNight_s, m2]
  refine ⟨by rw [hNight_s]; exact m1, fun z => by rw [eD]; exact c1 z, fun z => by rw [eD]; exact c2 z, fun z => ?_, fun z => ?_⟩
  · obtain ⟨x1, x2⟩ := c3 z
    rw [a3] at x2
    refine ⟨by rw [eD]; exact x2, by rw [eD]; exact x1, fun n => ?_⟩
    rw [e5, x2, if_pos (by omega)]
  · obtain ⟨x1, x2, x3⟩ := c4 z
    rw [b3] at x3
    refine ⟨by rw [eD]; exact x3, fun y => by rw [eD]; exact x1 y, fun y => by rw [eD]; exact x2 y, fun n => ?_⟩
    rw [e5, x3, if_neg (fun y => y rfl)]
theorem p_rnd (hd : okd d) {h w : Int} (h0 : 0 ≤ h) (h1 : h ≤ 99) (w0 : 0 ≤ w) (w1 : w ≤ 1) (σ η : qS) : ∃ s η', f_X6_round σ η (eC d) (zI h) (zI w) = some (rdV d h w, s, η') := by
  obtain ⟨⟨r, s, η'⟩, e1, h1⟩ := ok_get (y_round hd h0 h1 w0 w1 σ η)
  exact ⟨s, η', by rw [e1]; exact congrArg some (Prod.ext h1 rfl)⟩
theorem star_r0 (hd : okd d) (hs : starS d house doubt) (h0 : 0 ≤ h) (h1 : h ≤ 90) : (9 * doubt < h - 9 → rdV d h 0 = zI 1 ∧ rdV d h 1 = (1 : Int32) <<< (zI house &&& 31)) ∧ (¬ 9 * doubt < h - 9 → rdV d h 0 = zI 0 ∧ rdV d h 1 = zI 0) := by
  have hb := star_bs hd hs h0 h1
  have hh := hs.1
  unfold rdV
  rw [if_pos rfl, if_neg (by decide), hb]
  refine ⟨fun z => ?_, fun z => ?_⟩
  · rw [if_pos z]
    refine ⟨(onz_one.2 _ (by omega)).trans z_1, ?_⟩
    rw [zI_toNat hh.1, (bt_one house.toNat (by omega)).2.2.1, z_n]
  · rw [if_neg z]
    exact ⟨onz_one.1.trans z_0, rfl⟩
theorem t_687 (hL : L ≤ 260) (hB : bsS d) (hf : okd f) (he : clr e) (hS : starS d house doubt) (ot0 : 0 ≤ oth' ∧ oth' ≤ 9) (hN : nmS step tens blv reached) :
    oK Q1 (g_687 L xs (eC d) (eC f) (eC e) (eC n) σW σY σK ℓK σH (zI step) (zI tens) (zI blv) (zI reached) (zI house) (zI doubt) (zI oth')) := by
  have hB' := hB
  obtain ⟨hd, b7, b8, b4, b11⟩ := hB
  obtain ⟨hh, hdb, hr⟩ := hS
  have em6 : (-6 : Int32) = zI (-6) := by decide
  have e48 : (48 : Int32) = zI 48 := by decide
  unfold g_687
  rw [z_1]
  refine ok_forI (τ := qS × qS × qS × qS × qS) 10 (fun k u => 1 ≤ k ∧ ∃ (f e n : Nat → Int → Int) (σW σH : qS), u = (eC f, eC e, eC n, σW, σH) ∧ okd f ∧ clr e) (fun again k u k0 k1 hP ih => ?_) 20000 1 _ (by omega) (by omega) ⟨by omega, f, e, n, σW, σH, rfl, hf, he⟩ (by omega)
  obtain ⟨kk, f, e, n, σW, σH, rfl, hf, he⟩ := hP
  unfold b_L_law_690
  dsimp only
  refine ok_ifE (by rw [z_10, z_le (by omega) (by omega) (by omega) (by omega)]) (fun c => ?_) (fun c => ?_)
  · obtain ⟨r1, r2, r3, r4⟩ := hr house hh.1 hh.2
    rw [if_pos rfl] at r2
    exact t_943 hL hB' hf he hh r1 r2 ⟨by omega, by omega⟩ r3 r4 hN
  obtain ⟨q1, q2, q3, q4, q5, q6⟩ := say_fill he (w := oth') (t := k) ot0.1 ot0.2 (by omega) (by omega)
  obtain ⟨s1, s2, s3, s4⟩ := spl_house q6 q4 hh q5
  obtain ⟨p1, p2, p3, p4⟩ := say_one s2 s4 (c := 42) (by omega) (by omega) kd_42 (by omega) (by omega)
  rw [pl_42, ← hNight_s] at p4
  rw [s3] at p1 p3
  obtain ⟨hc, g9, g9', gs, gn⟩ := one_bed (d := d) (house := house) (doubt := doubt) (tale := oth') (k := k) b8 ⟨hh, hdb, hr⟩ kk (by omega) ot0.1
  have k1' := (go_pass (n := n) p2 hd hf p4 hc).2.1
  have w1 := fun n => p_pan (n := n) p2 hd hf p4 hc (w := 1) (by omega) (by omega)
  have w2 := fun n => p_behind (n := n) p2 hd k1' p4 hc hh.1 hh.2 (w := 0) (by omega) (by omega)
  have w3 := fun n => p_behind (n := n) p2 hd k1' p4 hc hh.1 hh.2 (w := 1) (by omega) (by omega)
  have w4 := fun n => p_other1 (n := n) p2 hd k1' p4 hc
  have w5 := p_wipe p2
  have nc := clr_ud p2
  rw [p3] at w5
  rw [show pFact (goD (hNight oth' k house 1) d) 1 = goD (hNight oth' k house 1) d 99 9 from rfl] at w1
  rw [show hFact (goD (hNight oth' k house 1) d) house 0 = goD (hNight oth' k house 1) d 3 house from rfl] at w2
  rw [show hFact (goD (hNight oth' k house 1) d) house 1 = goD (hNight oth' k house 1) d 1 house from rfl] at w3
  obtain ⟨rs, rn⟩ := star_r0 (h := 10 * k) hd ⟨hh, hdb, hr⟩ (by omega) (by omega)
  generalize sy (sy (sy (sy (sy e 61) (48 + oth')) (48 + k)) (65 + house)) 42 = E5 at *
  generalize sy (sy (sy (sy e 61) (48 + oth')) (48 + k)) (65 + house) = E4 at *
  generalize sy (sy (sy e 61) (48 + oth')) (48 + k) = E3 at *
  generalize sy (sy e 61) (48 + oth') = E2 at *
  generalize sy e 61 = E1 at *
  simp only [z_1, z_10, z_9, z_61, e48, z_65, z_42, z_5, z_2, z_3, z_4, em6]
  simp only [s_bd, z_add, z_sub, z_mul]
  rw [z_0]
  have hA : (zI (10 * k - 9) ≤ zI (9 * doubt)) ↔ 10 * k - 9 ≤ 9 * doubt := z_le (by omega) (by omega) (by omega) (by omega)
  have hDt : (zI (10 * k - 9) ≤ zI 5) ↔ 10 * k - 9 ≤ 5 := z_le (by omega) (by omega) (by omega) (by omega)
  have hC : (zI doubt = zI 9) ↔ doubt = 9 := z_eq (by omega) (by omega) (by omega) (by omega)
  obtain ⟨sA, eA, rA⟩ : ∃ s η, f_X6_round σW σH (eC d) (zI (10 * k)) (zI 0) = some (rdV d (10 * k) 0, s, η) := p_rnd hd (by omega) (by omega) (by omega) (by omega) σW σH
  obtain ⟨sB, eB, rB⟩ : ∃ s η, f_X6_round sA eA (eC d) (zI (10 * k)) (zI 1) = some (rdV d (10 * k) 1, s, η) := p_rnd hd (by omega) (by omega) (by omega) (by omega) sA eA
  have nx : ∀ n' : Nat → Int → Int, oK Q1 (again (zI (k + 1), eC (goD (hNight oth' k house 1) d), eC (ud E5 99 1 0), eC n', sB, eB)) := fun n' => ih (by omega) _ ⟨by omega, _, _, _, _, _, rfl, k1', nc⟩
  by_cases k9 : 9 * doubt < 10 * k - 9
  · obtain ⟨v3, v1, v5⟩ := gs k9
    obtain ⟨x0, x1⟩ := rs (by omega)
    rw [v3] at w2
    rw [v1] at w3
    simp only [v5] at w4
    rw [x0] at rA
    rw [x1] at rB
    by_cases k5 : 10 * k - 9 ≤ 5
    · rw [g9 k5] at w1
      rw [if_neg (fun z => absurd (hA.mp z) (by omega)), q1, s_cl]
      try dsimp only
      rw [if_pos rfl, q2, s_cl]
      try dsimp only
      rw [if_pos rfl, q3, s_cl]
      try dsimp only
      rw [if_pos rfl, s1, s_cl]
      try dsimp only
      rw [if_pos rfl, p1, s_cl]
      try dsimp only
      rw [if_pos (congrArg zI (by omega)), w1, s_cl]
      try dsimp only
      rw [if_pos (hDt.mpr k5), if_pos rfl, w2, s_cl]
      try dsimp only
      rw [if_pos rfl, w3, s_cl]
      try dsimp only
      rw [if_pos rfl, w4, s_cl]
      try dsimp only
      rw [if_pos rfl, w5, s_cl]
      try dsimp only
      rw [if_pos (congrArg zI (by omega)), rA, s_cl]
      try dsimp only
      rw [if_pos rfl, rB, s_cl]
      try dsimp only
      rw [if_pos (by rw [z_1])]
      try dsimp only
      exact nx _
    · rw [g9' (by omega)] at w1
      rw [if_neg (fun z => absurd (hA.mp z) (by omega)), q1, s_cl]
      try dsimp only
      rw [if_pos rfl, q2, s_cl]
      try dsimp only
      rw [if_pos rfl, q3, s_cl]
      try dsimp only
      rw [if_pos rfl, s1, s_cl]
      try dsimp only
      rw [if_pos rfl, p1, s_cl]
      try dsimp only
      rw [if_pos (congrArg zI (by omega)), w1, s_cl]
      try dsimp only
      rw [if_neg (fun z => k5 (hDt.mp z)), if_pos rfl, w2, s_cl]
      try dsimp only
      rw [if_pos rfl, w3, s_cl]
      try dsimp only
      rw [if_pos rfl, w4, s_cl]
      try dsimp only
      rw [if_pos rfl, w5, s_cl]
      try dsimp only
      rw [if_pos (congrArg zI (by omega)), rA, s_cl]
      try dsimp only
      rw [if_pos rfl, rB, s_cl]
      try dsimp only
      rw [if_pos (by rw [z_1])]
      try dsimp only
      exact nx _
  · obtain ⟨v3, v1, v9, v5⟩ := gn k9
    obtain ⟨x0, x1⟩ := rn (by omega)
    rw [v3] at w2
    simp only [v5] at w4
    rw [x0] at rA
    rw [x1] at rB
    by_cases d9 : doubt = 9
    · rw [v9 d9] at w3
      by_cases k5 : 10 * k - 9 ≤ 5
      · rw [g9 k5] at w1
        rw [if_pos (hA.mpr (by omega)), q1, s_cl]
        try dsimp only
        rw [if_pos rfl, q2, s_cl]
        try dsimp only
        rw [if_pos rfl, q3, s_cl]
        try dsimp only
        rw [if_pos rfl, s1, s_cl]
        try dsimp only
        rw [if_pos rfl, p1, s_cl]
        try dsimp only
        rw [if_pos (congrArg zI (by omega)), w1, s_cl]
        try dsimp only
        rw [if_pos (hDt.mpr k5), if_pos rfl, w2, s_cl]
        try dsimp only
        rw [if_pos rfl, w3, s_cl]
        try dsimp only
        rw [if_pos (hC.mpr d9), if_pos (congrArg zI d9.symm), w4, s_cl]
        try dsimp only
        rw [if_pos rfl, w5, s_cl]
        try dsimp only
        rw [if_pos (congrArg zI (by omega)), rA, s_cl]
        try dsimp only
        rw [if_pos rfl, rB, s_cl]
        try dsimp only
        rw [if_pos rfl]
        try dsimp only
        exact nx _
      · rw [g9' (by omega)] at w1
        rw [if_pos (hA.mpr (by omega)), q1, s_cl]
        try dsimp only
        rw [if_pos rfl, q2, s_cl]
        try dsimp only
        rw [if_pos rfl, q3, s_cl]
        try dsimp only
        rw [if_pos rfl, s1, s_cl]
        try dsimp only
        rw [if_pos rfl, p1, s_cl]
        try dsimp only
        rw [if_pos (congrArg zI (by omega)), w1, s_cl]
        try dsimp only
        rw [if_neg (fun z => k5 (hDt.mp z)), if_pos rfl, w2, s_cl]
        try dsimp only
        rw [if_pos rfl, w3, s_cl]
        try dsimp only
        rw [if_pos (hC.mpr d9), if_pos (congrArg zI d9.symm), w4, s_cl]
        try dsimp only
        rw [if_pos rfl, w5, s_cl]
        try dsimp only
        rw [if_pos (congrArg zI (by omega)), rA, s_cl]
        try dsimp only
        rw [if_pos rfl, rB, s_cl]
        try dsimp only
        rw [if_pos rfl]
        try dsimp only
        exact nx _
    · rw [v1 (by omega)] at w3
      by_cases k5 : 10 * k - 9 ≤ 5
      · rw [g9 k5] at w1
        rw [if_pos (hA.mpr (by omega)), q1, s_cl]
        try dsimp only
        rw [if_pos rfl, q2, s_cl]
        try dsimp only
        rw [if_pos rfl, q3, s_cl]
        try dsimp only
        rw [if_pos rfl, s1, s_cl]
        try dsimp only
        rw [if_pos rfl, p1, s_cl]
        try dsimp only
        rw [if_pos (congrArg zI (by omega)), w1, s_cl]
        try dsimp only
        rw [if_pos (hDt.mpr k5), if_pos rfl, w2, s_cl]
        try dsimp only
        rw [if_pos rfl, w3, s_cl]
        try dsimp only
        rw [if_neg (fun z => d9 (hC.mp z)), if_pos rfl, w4, s_cl]
        try dsimp only
        rw [if_pos rfl, w5, s_cl]
        try dsimp only
        rw [if_pos (congrArg zI (by omega)), rA, s_cl]
        try dsimp only
        rw [if_pos rfl, rB, s_cl]
        try dsimp only
        rw [if_pos rfl]
        try dsimp only
        exact nx _
      · rw [g9' (by omega)] at w1
        rw [if_pos (hA.mpr (by omega)), q1, s_cl]
        try dsimp only
        rw [if_pos rfl, q2, s_cl]
        try dsimp only
        rw [if_pos rfl, q3, s_cl]
        try dsimp only
        rw [if_pos rfl, s1, s_cl]
        try dsimp only
        rw [if_pos rfl, p1, s_cl]
        try dsimp only
        rw [if_pos (congrArg zI (by omega)), w1, s_cl]
        try dsimp only
        rw [if_neg (fun z => k5 (hDt.mp z)), if_pos rfl, w2, s_cl]
        try dsimp only
        rw [if_pos rfl, w3, s_cl]
        try dsimp only
        rw [if_neg (fun z => d9 (hC.mp z)), if_pos rfl, w4, s_cl]
        try dsimp only
        rw [if_pos rfl, w5, s_cl]
        try dsimp only
        rw [if_pos (congrArg zI (by omega)), rA, s_cl]
        try dsimp only
        rw [if_pos rfl, rB, s_cl]
        try dsimp only
        rw [if_pos rfl]
        try dsimp only
        exact nx _
end SEG8


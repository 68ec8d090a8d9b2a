/-! years, exactly -/
theorem n10 : ¬ zI 1 = zI 0 := by decide
section YREX
variable {d f m : Nat → Int → Int} {τ : qL}
/-- tales believed, doubts together -/
def tbl (d : Nat → Int → Int) : Nat → Int → Int32 → Int32
  | 0, _, s => s
  | N + 1, i, s => if 10 ≤ i then s else tbl d N (i + 1) (if bts d (zI i) 20000 0 0 = 0 then s else s + 1)
def dbs (d : Nat → Int → Int) : Nat → Int → Int32 → Int32
  | 0, _, s => s
  | N + 1, i, s => if 10 ≤ i then s else dbs d N (i + 1) (s + zI (d 1 i))
theorem x_talesB : f_X1_talesBelieved (eC d) = some (tbl d 20000 0 0) := by
  unfold f_X1_talesBelieved
  have key := lp_en (body := b_X1_talesBelieved_4 (eC d)) (k := fun z1 => some z1.2) (fun s : Int × Int32 => (zI s.1, s.2)) (fun N s => some (tbl d N s.1 s.2)) (fun N s => 0 ≤ s.1 ∧ s.1 ≤ 10 ∧ (10 - s.1).toNat < N) (fun s => by omega) (by
    rintro again N ⟨i, s⟩ ⟨h0, h1, h2⟩ ih
    dsimp only at h0 h1 h2 ⊢
    unfold b_X1_talesBelieved_4 tbl
    dsimp only
    rw [z_s1, z_10]
    by_cases c : i < 10
    · have ih' := ih (i + 1, if bts d (zI i) 20000 0 0 = 0 then s else s + 1) ⟨by dsimp only; omega, by dsimp only; omega, by dsimp only; omega⟩
      dsimp only at ih'
      rw [if_neg (c_nle c h0 (by omega)), if_neg (by omega), x_believersOf, s_cl, ← ih']
      by_cases c2 : bts d (zI i) 20000 0 0 = 0
      · rw [if_pos c2, if_pos c2]
      · rw [if_neg c2, if_neg c2]
    · rw [if_pos (c_le (a := 10) (b := i) (by omega) (by omega) (by omega)), if_pos (by omega)]) 20000 (0, 0) ⟨Int.le_refl 0, by show (0 : Int) ≤ 10; decide, by show ((10 : Int) - 0).toNat < 20000; decide⟩
  exact key
theorem m_talesB : f_X7_talesBelieved (eC (pw m d)) τ = some (tbl d 20000 0 0) := by
  unfold f_X7_talesBelieved
  have key := lp_en (body := b_X7_talesBelieved_4 (eC (pw m d)) τ) (k := fun z1 => some z1.2) (fun s : Int × Int32 => (zI s.1, s.2)) (fun N s => some (tbl d N s.1 s.2)) (fun N s => 0 ≤ s.1 ∧ s.1 ≤ 10 ∧ (10 - s.1).toNat < N) (fun s => by omega) (by
    rintro again N ⟨i, s⟩ ⟨h0, h1, h2⟩ ih
    dsimp only at h0 h1 h2 ⊢
    unfold b_X7_talesBelieved_4 tbl
    dsimp only
    rw [z_s1, z_10]
    have e0 : s + 0 = s := Int32.add_zero s
    by_cases c : i < 10
    · have ih' := ih (i + 1, if bts d (zI i) 20000 0 0 = 0 then s else s + 1) ⟨by dsimp only; omega, by dsimp only; omega, by dsimp only; omega⟩
      dsimp only at ih'
      rw [if_neg (c_nle c h0 (by omega)), if_neg (by omega), m_believing, s_cl, ← ih']
      by_cases c2 : bts d (zI i) 20000 0 0 = 0
      · rw [if_pos c2, if_pos c2, s_bd, e0]
      · rw [if_neg c2, if_neg c2, s_bd]
    · rw [if_pos (c_le (a := 10) (b := i) (by omega) (by omega) (by omega)), if_pos (by omega)]) 20000 (0, 0) ⟨Int.le_refl 0, by show (0 : Int) ≤ 10; decide, by show ((10 : Int) - 0).toNat < 20000; decide⟩
  exact key
theorem x_allDb : f_X1_allDoubt (eC d) = some (dbs d 20000 0 0) := by
  unfold f_X1_allDoubt
  have key := lp_en (body := b_X1_allDoubt_4 (eC d)) (k := fun z1 => some z1.2) (fun s : Int × Int32 => (zI s.1, s.2)) (fun N s => some (dbs d N s.1 s.2)) (fun N s => 0 ≤ s.1 ∧ s.1 ≤ 10 ∧ (10 - s.1).toNat < N) (fun s => by omega) (by
    rintro again N ⟨i, s⟩ ⟨h0, h1, h2⟩ ih
    dsimp only at h0 h1 h2 ⊢
    unfold b_X1_allDoubt_4 dbs
    dsimp only
    rw [z_s1, z_10]
    by_cases c : i < 10
    · have ih' := ih (i + 1, s + zI (d 1 i)) ⟨by dsimp only; omega, by dsimp only; omega, by dsimp only; omega⟩
      dsimp only at ih'
      rw [if_neg (c_nle c h0 (by omega)), if_neg (by omega), s_rd (n := 10) h0 (by omega) (by omega), eC_at _ _ h0, ← ih', s_bd]
    · rw [if_pos (c_le (a := 10) (b := i) (by omega) (by omega) (by omega)), if_pos (by omega)]) 20000 (0, 0) ⟨Int.le_refl 0, by show (0 : Int) ≤ 10; decide, by show ((10 : Int) - 0).toNat < 20000; decide⟩
  exact key
theorem m_allDb : f_X7_doubts (eC (pw m d)) τ = some (dbs d 20000 0 0) := by
  unfold f_X7_doubts
  have key := lp_en (body := b_X7_doubts_4 (eC (pw m d))) (k := fun z1 => some z1.2) (fun s : Int × Int32 => (zI s.1, s.2)) (fun N s => some (dbs d N s.1 s.2)) (fun N s => 0 ≤ s.1 ∧ s.1 ≤ 10 ∧ (10 - s.1).toNat < N) (fun s => by omega) (by
    rintro again N ⟨i, s⟩ ⟨h0, h1, h2⟩ ih
    dsimp only at h0 h1 h2 ⊢
    unfold b_X7_doubts_4 dbs
    dsimp only
    rw [z_s1, z_10]
    by_cases c : i < 10
    · have ih' := ih (i + 1, s + zI (d 1 i)) ⟨by dsimp only; omega, by dsimp only; omega, by dsimp only; omega⟩
      dsimp only at ih'
      rw [if_neg (c_nle c h0 (by omega)), if_neg (by omega), s_rd (n := 10) h0 (by omega) (by omega), eC_at _ _ h0, pw_1, ← ih', s_bd]
    · rw [if_pos (c_le (a := 10) (b := i) (by omega) (by omega) (by omega)), if_pos (by omega)]) 20000 (0, 0) ⟨Int.le_refl 0, by show (0 : Int) ≤ 10; decide, by show ((10 : Int) - 0).toNat < 20000; decide⟩
  exact key
/-- how many bits: both sides -/
def onz (x : Int32) : Int32 := match f_X7_ones x with
  | some r => r
  | none => 0
theorem onz_32 : ∀ a : Nat, a < 32 → ∀ b : Nat, b < 32 → (f_J6_bitCount_0f7a4 (nI (32 * a + b)) = some (onz (nI (32 * a + b))) ∧ f_X7_ones (nI (32 * a + b)) = some (onz (nI (32 * a + b))) ∧ 0 ≤ (onz (nI (32 * a + b))).toInt ∧ (onz (nI (32 * a + b))).toInt ≤ 10) := by decide +kernel
theorem onz_of {s : Int} (h0 : 0 ≤ s) (h1 : s < 1024) : f_J6_bitCount_0f7a4 (zI s) = some (onz (zI s)) ∧ f_X7_ones (zI s) = some (onz (zI s)) ∧ 0 ≤ (onz (zI s)).toInt ∧ (onz (zI s)).toInt ≤ 10 := by
  have k := onz_32 (s.toNat / 32) (by omega) (s.toNat % 32) (by omega)
  have e : nI (32 * (s.toNat / 32) + s.toNat % 32) = zI s := by
    rw [z_n]
    congr 1
    omega
  rwa [e] at k
theorem bts_set (a : Int32) : ∀ (N : Nat) (i : Int) (s : Int32), 0 ≤ i → set10 s → set10 (bts d a N i s) := by
  intro N
  induction N with
  | zero => intro i s _ hs; exact hs
  | succ N ih =>
    intro i s h0 hs
    unfold bts
    by_cases c : 10 ≤ i
    · rw [if_pos c]; exact hs
    · rw [if_neg c]
      refine ih (i + 1) _ (by omega) ?_
      split
      · exact set_or hs (set_1 h0 (by omega))
      · exact hs
theorem x_blvs : f_X1_believers (eC d) = some (10 - onz (bts d (-6) 20000 0 0)) := by
  unfold f_X1_believers
  obtain ⟨s, s0, s1, e⟩ := set_of (bts_set (d := d) (-6) 20000 0 0 (by omega) set_0)
  rw [x_believersOf, s_cl, e, (onz_of s0 s1).1, s_cl]
theorem m_blvs : f_X7_ones (bts d (-6) 20000 0 0) = some (onz (bts d (-6) 20000 0 0)) := by
  obtain ⟨s, s0, s1, e⟩ := set_of (bts_set (d := d) (-6) 20000 0 0 (by omega) set_0)
  rw [e]
  exact (onz_of s0 s1).2.1
theorem m_yr (m : Nat → Int → Int) (τ : qL) {n : Int} (n1 : n ≤ 99) (K : Int32 × Int32 × qS → Option (Int32 × qS)) (G : qS → Option (Int32 × qS)) (hK : ∀ u, K u = G u.2.2) : ∀ (N : Nat) (i x : Int) (d' : Nat → Int → Int), 0 ≤ i → i ≤ n → (n - i).toNat < N → 0 ≤ x → x < 65537 → okd d' →
    q_lp (b_X7_year_49 τ (zI n)) K N (zI i, zI x, eC (pw m d')) = G (eC (pw m (yr n N i x d'))) := by
  intro N
  induction N with
  | zero => intro i x d' _ _ h; omega
  | succ N ih =>
    intro i x d' h0 h1 hN hx0 hx1 hd'
    rw [lp_s]
    generalize q_lp (b_X7_year_49 τ (zI n)) K N = again at ih
    unfold b_X7_year_49 yr
    dsimp only
    rw [z_s1]
    by_cases c : n ≤ i
    · rw [if_pos (c_le c (by omega) (by omega)), if_pos c, hK]
    · rw [if_neg (c_nle (by omega) h0 (by omega)), if_neg c, m_lseed hx0 hx1, s_bd]
      generalize hy : (75 * x + 74) % 65537 = y
      have y0 : 0 ≤ y := by omega
      have y1 : y < 65537 := by omega
      have hk := kdr_b (y % 8)
      have ew : (80 : Int32) = zI 80 := by decide
      rw [z_8, z_rem y0 (by omega) (by omega) (by omega), m_actBy (by omega) (by omega), s_cl, z_div y0 (by omega) (by omega) (by omega), z_11, z_10, z_rem (by omega) (by omega) (by omega) (by omega), z_rem (by omega) (by omega) (by omega) (by omega), ew, z_9, z_1, z_div y0 (by omega) (by omega) (by omega), z_rem (by omega) (by omega) (by omega) (by omega), z_add, z_mul]
      simp only [s_bd]
      by_cases ck : kdr (y % 8) = 1
      · rw [if_pos (show zI (kdr (y % 8)) = zI 1 by rw [ck])]
        have hrb := rsn_b (d := d') (kdr (y % 8)) (y / 8 % 11)
        rw [m_whyNot _ _ τ hd' hk.1 hk.2 (fun _ => by omega), s_cl]
        rw [if_pos ck]
        by_cases cr : rsn d' (kdr (y % 8)) (y / 8 % 11) = 0
        · have hya := yr_act hd' y0 y1 (by rw [if_pos ck]; exact cr)
          rw [if_pos ck] at hya
          rw [if_pos cr, cr, z_0, if_pos rfl, m_happen _ _ τ hd' hk.1 hk.2 (fun _ => by omega) (fun z => by omega), s_cl]
          exact ih (i + 1) y _ (by omega) (by omega) (by omega) y0 y1 hya.1
        · rw [if_neg cr, if_neg (fun z => cr (by rwa [z_0, z_eq (by omega) (by omega) (by omega) (by omega)] at z))]
          exact ih (i + 1) y d' (by omega) (by omega) (by omega) y0 y1 hd'
      · rw [if_neg (show ¬ zI (kdr (y % 8)) = zI 1 by rw [z_eq (by omega) (by omega) (by omega) (by omega)]; exact ck)]
        have hrb := rsn_b (d := d') (kdr (y % 8)) (y / 8 % 10)
        rw [m_whyNot _ _ τ hd' hk.1 hk.2 (fun z => absurd z ck), s_cl]
        rw [if_neg ck]
        by_cases cr : rsn d' (kdr (y % 8)) (y / 8 % 10) = 0
        · have hya := yr_act hd' y0 y1 (by rw [if_neg ck]; exact cr)
          rw [if_neg ck] at hya
          have hb : kdr (y % 8) = 2 → d' 99 8 ≤ 9 := by
            intro e
            have a1 := okd_p hd'
            rw [e] at cr
            unfold rsn at cr
            rw [if_neg (by decide), if_neg (by decide), if_pos rfl] at cr
            split at cr <;> omega
          rw [if_pos cr, cr, z_0, if_pos rfl, m_happen _ _ τ hd' hk.1 hk.2 (fun z => absurd z ck) hb, s_cl]
          exact ih (i + 1) y _ (by omega) (by omega) (by omega) y0 y1 hya.1
        · rw [if_neg cr, if_neg (fun z => cr (by rwa [z_0, z_eq (by omega) (by omega) (by omega) (by omega)] at z))]
          exact ih (i + 1) y d' (by omega) (by omega) (by omega) y0 y1 hd'
/-- a year's answer -/
def yrV (d : Nat → Int → Int) (w : Int32) : Int32 := if w = zI 0 then 10 - onz (bts d (-6) 20000 0 0) else if w = zI 1 then tbl d 20000 0 0 else dbs d 20000 0 0
theorem c_year (hd : okd d) (hf : okd f) (a b w : Int32) : ∃ r f' m', f_X6_year (eC f) (eC d) a b w = some (r, eC f') ∧ f_X7_year (eC (pw m d)) τ a b w = some (r, eC (pw m' d)) ∧ okd f' ∧ frN m m' := by
  unfold f_X6_year f_X7_year
  obtain ⟨a, a0, a1, rfl⟩ := z_of a
  obtain ⟨b, b0, b1, rfl⟩ := z_of b
  obtain ⟨w, w0, w1, rfl⟩ := z_of w
  have e9999 : (9999 : Int64) = zL 9999 := by decide
  rw [z_0, z_9999, z_1, z_99, z_2, x_within a0 a1 (by omega) (by omega) (by omega) (by omega), x_within b0 b1 (by omega) (by omega) (by omega) (by omega), x_within w0 w1 (by omega) (by omega) (by omega) (by omega), s_cl, s_cl, s_cl]
  rw [z_l a0 a1, z_l b0 b1, z_l w0 w1, zl_0, zl_1, zl_2, zl_99, e9999, m_in (by omega) (by omega) (by omega) (by omega) (by omega) (by omega), m_in (by omega) (by omega) (by omega) (by omega) (by omega) (by omega), m_in (by omega) (by omega) (by omega) (by omega) (by omega) (by omega), s_cl, s_cl, s_cl]
  by_cases ca : 0 ≤ a ∧ a ≤ 9999
  · rw [if_pos ca, if_neg n10, if_neg n10]
    by_cases cb : 1 ≤ b ∧ b ≤ 99
    · rw [if_pos cb, if_neg n10, if_neg n10]
      by_cases cw : 0 ≤ w ∧ w ≤ 2
      · rw [if_pos cw, if_neg n10, if_neg n10]
        rw [x_copyFrom f d hf hd, s_cl, x_liveYear hd ca.1 (by omega) cb.1 cb.2, s_cl, m_keepNow, s_cl]
        obtain ⟨hy, hh⟩ := yr_ok b 20000 0 a d hd
        have hbk : ∀ r, f_X7_back (eC (pw (kNow m d) (yr b 20000 0 a d))) τ r = some (r, eC (pw (kNow m d) d)) := fun r => by
          rw [m_back, bk_kNow hh (fun _ => rfl)]
        refine ⟨yrV (yr b 20000 0 a d) (zI w), yr b 20000 0 a d, kNow m d, ?_, ?_, hy, frN_kNow m d⟩
        · unfold yrV
          split
          · rw [x_blvs, s_cl]
          · split
            · rw [x_talesB, s_cl]
            · rw [x_allDb, s_cl]
        · rw [m_yr (kNow m d) τ cb.2 _ (fun σ => if zI w = zI 0 then (q_cl (f_X7_believing σ τ (-6 : Int32)) fun r_27 => q_cl (f_X7_ones r_27) fun r_29 => q_bd ((10 : Int32) - r_29) fun v5_31 => q_cl (f_X7_back σ τ v5_31) fun y_36 => some (y_36.1, y_36.2))
            else if zI w = zI 1 then (q_cl (f_X7_talesBelieved σ τ) fun r_21 => q_cl (f_X7_back σ τ r_21) fun y_26 => some (y_26.1, y_26.2))
            else q_cl (f_X7_doubts σ τ) fun r_15 => q_cl (f_X7_back σ τ r_15) fun y_20 => some (y_20.1, y_20.2)) (fun u => rfl) 20000 0 a d (by omega) (by omega) (by omega) ca.1 (by omega) hd]
          unfold yrV
          split
          · rw [m_believing, s_cl, m_blvs, s_cl, s_bd, hbk, s_cl]
          · split
            · rw [m_talesB, s_cl, hbk, s_cl]
            · rw [m_allDb, s_cl, hbk, s_cl]
      · rw [if_neg cw, if_pos rfl, if_pos rfl]
        exact ⟨_, f, m, rfl, rfl, hf, frN_rf m⟩
    · rw [if_neg cb, if_pos rfl, if_pos rfl]
      exact ⟨_, f, m, rfl, rfl, hf, frN_rf m⟩
  · rw [if_neg ca, if_pos rfl, if_pos rfl]
    exact ⟨_, f, m, rfl, rfl, hf, frN_rf m⟩
end YREX

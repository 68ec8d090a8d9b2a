/-! rounds of the reference: exactly -/
section ROUNDM
variable {d m : Nat → Int → Int} {τ : qL} {h : Int}
/-- none is -6 there -/
def cv (x : Int) : Int := if x < 0 then -6 else x
theorem s_wrT {β : Type} (m d : Nat → Int → Int) {b : Int} (b0 : 0 ≤ b) (b1 : b < 10240) (v : Int) (K : qS → Option β) : q_wr (eC (pw m d)) 25 10240 (zI b) (zI v) K = K (eC (pw (ud m 25 b v) d)) := by
  rw [s_wr b0 (by omega) (by omega), eC_up _ _ b0, up_25]
theorem s_rdT {β : Type} (m d : Nat → Int → Int) {b : Int} (b0 : 0 ≤ b) (b1 : b < 10240) (K : Int32 → Option β) : q_rd (eC (pw m d)) 25 10240 (zI b) K = K (zI (m 25 b)) := by
  rw [s_rd b0 (by omega) (by omega), eC_at _ _ b0, pw_25]
theorem y_behindBed (hd : okd d) {a o : Int} (a0 : 0 ≤ a) (a1 : a ≤ 99) (o0 : 0 ≤ o) (o1 : o ≤ 1000) {l : Nat} (hl : l < 10) : q_cl (f_X7_cooled (zI a) (zI o)) (fun r_16 => f_X7_behindBed (eC (pw m d)) τ r_16 (zI l)) = some (zI (cv (gHt d (a - o) l))) := by
  have h2 := okd_2 hd l
  have h1 := okd_1 hd l
  rw [m_cooled a0 (by omega) o0 (by omega), s_cl]
  generalize hx : (if 0 < a - o then a - o else 0) = x
  have x0 : 0 ≤ x := by rw [← hx]; split <;> omega
  have x1 : x ≤ 99 := by rw [← hx]; split <;> omega
  have hc : (9 * d 1 l < x) = (9 * d 1 l < a - o) := propext (by rw [← hx]; split <;> constructor <;> intro <;> omega)
  unfold f_X7_behindBed
  rw [s_rd (by omega) (by omega) (by omega), eC_at _ _ (by omega), pw_2, z_0, s_rd (by omega) (by omega) (by omega), eC_at _ _ (by omega), pw_1, z_9, z_mul, z_5, m_cooled x0 (by omega) (by omega) (by omega), s_cl]
  simp (disch := omega) only [z_eq, z_le]
  unfold gHt cv
  have e6 : (-6 : Int32) = zI (-6) := by decide
  by_cases c1 : d 2 l = 0
  · rw [if_pos c1]
    by_cases c2 : 9 * d 1 l < x
    · have c2' : 9 * d 1 l < a - o := by rw [← hc]; exact c2
      have hxa : x = a - o := by rw [← hx, if_pos (by omega)]
      have q : d 2 l = 0 ∧ 9 * d 1 l < a - o := ⟨c1, c2'⟩
      have nx : ¬ x ≤ 9 * d 1 l := by omega
      have nn : ¬ (if 0 < a - o - 5 then a - o - 5 else 0) < 0 := by split <;> omega
      rw [if_neg nx, if_pos q, if_neg nn, hxa]
    · have nq : ¬ (d 2 l = 0 ∧ 9 * d 1 l < a - o) := fun z => c2 (by rw [hc]; exact z.2)
      have nx : x ≤ 9 * d 1 l := by omega
      rw [if_pos nx, if_neg nq, if_pos (show (-1 : Int) < 0 by decide), e6]
  · have nq : ¬ (d 2 l = 0 ∧ 9 * d 1 l < a - o) := fun z => c1 z.1
    rw [if_neg c1, if_neg nq, if_pos (show (-1 : Int) < 0 by decide), e6]
/-- the reference's state in a round: ways, and the table of the sets below -/
def mRd (m d : Nat → Int → Int) (h : Int) (σ : qS) (N : Nat) (L : Nat) : Prop := ∃ m', σ = eC (pw m' d) ∧ mOff m d m' (Wy d) ∧ ∀ s l : Nat, 0 < s → l < 10 → (s < N ∨ (s = N ∧ l < L)) → m' 25 (10 * (s : Int) + l) = cv (VR d h s l)
theorem y_hottest (hd : okd d) {h : Int} (h1 : h ≤ 99) {m' : Nat → Int → Int} (hO : mOff m d m' (Wy d)) {s l : Nat} (hs : s < 1024) (hl : l < 10) (hin : s.testBit l = true) (hne : ¬ s = 2 ^ l) (hT : ∀ s' l' : Nat, 0 < s' → l' < 10 → s' < s → m' 25 (10 * (s' : Int) + l') = cv (VR d h s' l')) : f_X7_hottest (eC (pw m' d)) τ (zI s) (zI l) = some (zI (cv (VR d h s l))) := by
  have hb := bt_in hs hl hin
  have hpw := bt_one l hl
  have hr : 0 < s - 2 ^ l := by omega
  have goal : oK (fun r => r = zI (cv (VR d h s l))) (f_X7_hottest (eC (pw m' d)) τ (zI s) (zI l)) := by
    unfold f_X7_hottest
    have nz : ¬ zI ((s - 2 ^ l : Nat) : Int) = zI 0 := by rw [z_eq (by omega) (by omega) (by omega) (by omega)]; omega
    rw [show zI (s : Int) = nI s from (z_n s).symm, show zI (l : Int) = nI l from (z_n l).symm, hb.2.1, z_n (s - 2 ^ l), z_n l, s_bd, z_0, if_neg nz]
    have e6 : (-6 : Int32) = zI (-6) := by decide
    rw [e6]
    refine ok_forI (τ := Int32) 10 (fun i t => t = zI (cv (mxB d (VR d h) (s - 2 ^ l) l i.toNat))) (fun again i t i0 i1 ht ih => ?_) 20000 0 _ (by omega) (by omega) rfl (by omega)
    subst ht
    unfold b_X7_hottest_22
    dsimp only
    have ei : ((i.toNat : Nat) : Int) = i := Int.toNat_of_nonneg i0
    have en : (i + 1).toNat = i.toNat + 1 := by omega
    have hmx := mxB_b (d := d) (fun s l => (VR_b (d := d) (h := h) hd h1 s l).2) hd (s - 2 ^ l) l i.toNat
    have hcv : -6 ≤ cv (mxB d (VR d h) (s - 2 ^ l) l i.toNat) := by unfold cv; split <;> omega
    have hcv2 : cv (mxB d (VR d h) (s - 2 ^ l) l i.toNat) ≤ 99 := by unfold cv; split <;> omega
    rw [z_10, z_s1, e6]
    by_cases c : i < 10
    · rw [if_neg (c_nle c i0 (by omega))]
      simp (disch := omega) only [t_bit]
      rw [bi_z (by omega) (by omega) i0, Int.toNat_natCast, z_mul, z_add, s_rdT _ _ (by omega) (by omega)]
      rw [if_pos (show zI (-6) ≤ zI (cv (mxB d (VR d h) (s - 2 ^ l) l i.toNat)) by rw [z_le (by omega) (by omega) (by omega) (by omega)]; exact hcv)]
      have keep : ¬ ((s - 2 ^ l).testBit i.toNat = true ∧ 0 ≤ VR d h (s - 2 ^ l) i.toNat) → oK (fun r => r = zI (cv (VR d h s l))) (again (zI (i + 1), zI (cv (mxB d (VR d h) (s - 2 ^ l) l i.toNat)))) := fun hno => by
        refine ih c _ ?_
        rw [en]
        show _ = zI (cv (if _ then _ else _))
        rw [if_neg (fun z => hno ⟨z.1, z.2.1⟩)]
      refine ok_if (fun c2 => ?_) (fun c2 => keep (fun z => c2 z.1))
      have hv := VR_b (d := d) (h := h) hd h1 (s - 2 ^ l) i.toNat
      have ht := hT (s - 2 ^ l) i.toNat hr (by omega) (by omega)
      rw [ei] at ht
      rw [ht]
      have hcb : -6 ≤ cv (VR d h (s - 2 ^ l) i.toNat) ∧ cv (VR d h (s - 2 ^ l) i.toNat) ≤ 99 := by unfold cv; split <;> omega
      rw [z_0]
      refine ok_ifE (z_le (by omega) (by omega) (by omega) (by omega)) (fun c3 => ?_) (fun c3 => keep (fun z => c3 (by unfold cv; rw [if_neg (by omega)]; exact z.2)))
      have hv0 : 0 ≤ VR d h (s - 2 ^ l) i.toNat := by
        unfold cv at c3
        split at c3 <;> omega
      have ecv : cv (VR d h (s - 2 ^ l) i.toNat) = VR d h (s - 2 ^ l) i.toNat := by unfold cv; rw [if_neg (by omega)]
      have hW := Wy_b hd (i * 11 + l)
      have hbb := y_behindBed (m := m') (τ := τ) hd (a := VR d h (s - 2 ^ l) i.toNat) (o := Wy d (i * 11 + l)) hv0 hv.2 hW.1 hW.2 hl
      rw [ecv, z_11, z_mul, z_add, s_rdO _ _ (by omega) (by omega), hO.2 _ (by omega) (by omega), show 11 * i + (l : Int) = i * 11 + l by omega]
      have ecl : ∀ (K : Int32 → Option Int32), q_cl (f_X7_cooled (zI (VR d h (s - 2 ^ l) i.toNat)) (zI (Wy d (i * 11 + l)))) (fun r_16 => q_cl (f_X7_behindBed (eC (pw m' d)) τ r_16 (zI l)) K) = K (zI (cv (gHt d (VR d h (s - 2 ^ l) i.toNat - Wy d (i * 11 + l)) l))) := fun K => by
        rw [m_cooled hv0 (by omega) hW.1 (by omega), s_cl] at hbb ⊢
        rw [hbb, s_cl]
      rw [ecl]
      have hg := gHt_b (d := d) (VR d h (s - 2 ^ l) i.toNat - Wy d (i * 11 + l)) l
      have hgc : -6 ≤ cv (gHt d (VR d h (s - 2 ^ l) i.toNat - Wy d (i * 11 + l)) l) ∧ cv (gHt d (VR d h (s - 2 ^ l) i.toNat - Wy d (i * 11 + l)) l) ≤ 99 := by unfold cv; split <;> omega
      have hst : mxB d (VR d h) (s - 2 ^ l) l (i + 1).toNat = if mxB d (VR d h) (s - 2 ^ l) l i.toNat < gHt d (VR d h (s - 2 ^ l) i.toNat - Wy d (i * 11 + l)) l then gHt d (VR d h (s - 2 ^ l) i.toNat - Wy d (i * 11 + l)) l else mxB d (VR d h) (s - 2 ^ l) l i.toNat := by
        rw [en]
        show (if _ then _ else _) = _
        rw [ei]
        by_cases z : mxB d (VR d h) (s - 2 ^ l) l i.toNat < gHt d (VR d h (s - 2 ^ l) i.toNat - Wy d (i * 11 + l)) l
        · rw [if_pos ⟨c2, hv0, z⟩, if_pos z]
        · rw [if_neg (fun y => z y.2.2), if_neg z]
      refine ok_ifE (z_le (by omega) (by omega) (by omega) (by omega)) (fun c4 => ih c _ ?_) (fun c4 => ih c _ ?_)
      · rw [hst]
        by_cases z : mxB d (VR d h) (s - 2 ^ l) l i.toNat < gHt d (VR d h (s - 2 ^ l) i.toNat - Wy d (i * 11 + l)) l
        · rw [if_pos z]
          unfold cv at c4 ⊢
          congr 1
          split at c4 <;> split at c4 <;> split <;> first | rfl | omega
        · rw [if_neg z]
      · rw [hst]
        by_cases z : mxB d (VR d h) (s - 2 ^ l) l i.toNat < gHt d (VR d h (s - 2 ^ l) i.toNat - Wy d (i * 11 + l)) l
        · rw [if_pos z]
        · rw [if_neg z]
          unfold cv at c4 ⊢
          congr 1
          split at c4 <;> split at c4 <;> split <;> first | rfl | omega
    · obtain rfl : i = 10 := by omega
      rw [if_pos (c_le (by omega) (by omega) (by omega))]
      refine ok_r ?_
      rw [VR_eq hs hl]
      unfold pull
      rw [if_pos hin, if_neg hne]
      rfl
  obtain ⟨r, e, rfl⟩ := goal
  exact e
theorem y_findHot (hd : okd d) {h : Int} (h0 : 0 ≤ h) (h1 : h ≤ 99) {σ : qS} {S : Nat} (hS0 : 0 < S) (hS : S < 1024) (hR : mRd m d h σ S 0) : oK (fun r => mRd m d h r.2 (S + 1) 0 ∧ ((r.1 = 1 ∧ ∃ l : Nat, l < 10 ∧ 0 ≤ VR d h S l) ∨ (r.1 = 0 ∧ ∀ l : Nat, l < 10 → ¬ 0 ≤ VR d h S l))) (f_X7_findHot σ τ (zI S) (zI h)) := by
  unfold f_X7_findHot
  rw [z_0]
  refine ok_forI (τ := qS × Int32) 10 (fun L u => mRd m d h u.1 S L.toNat ∧ ((u.2 = 1 ∧ ∃ l : Nat, l < L.toNat ∧ 0 ≤ VR d h S l) ∨ (u.2 = 0 ∧ ∀ l : Nat, l < L.toNat → ¬ 0 ≤ VR d h S l))) (fun again L u l0 l1 hu ih => ?_) 20000 0 _ (by omega) (by omega) ⟨hR, Or.inr ⟨z_0.symm, fun l hl => absurd hl (Nat.not_lt_zero l)⟩⟩ (by omega)
  obtain ⟨u1, u2⟩ := u
  obtain ⟨⟨m1, e1, hO, hT⟩, hc⟩ := hu
  dsimp only at e1 hc
  subst e1
  unfold b_X7_findHot_5
  dsimp only
  rw [z_s1]
  have eL : ((L.toNat : Nat) : Int) = L := Int.toNat_of_nonneg l0
  have en : (L + 1).toNat = L.toNat + 1 := by omega
  by_cases c : L < 10
  · have hpw := bt_one L.toNat (by omega)
    have e110 : (110 : Int32) = zI 110 := by decide
    have hW := Wy_b hd (110 + L)
    rw [if_neg (by rw [z_10]; exact c_nle c l0 (by omega))]
    simp (disch := omega) only [t_bit]
    rw [bi_z (by omega) (by omega) l0, Int.toNat_natCast]
    rw [show ((1 : Int32) <<< (zI L &&& 31)) = zI ((2 ^ L.toNat : Nat) : Int) by rw [zI_toNat l0, hpw.2.2.1, z_n]]
    rw [e110, z_add, z_10, z_mul, z_add, s_rdO _ _ (by omega) (by omega), hO.2 _ (by omega) (by omega)]
    simp (disch := omega) only [z_eq]
    have hv := VR_b (d := d) (h := h) hd h1 S L.toNat
    -- what is written is the table's
    have fin : ∀ v, v = cv (VR d h S L.toNat) → oK (fun r => mRd m d h r.2 (S + 1) 0 ∧ ((r.1 = 1 ∧ ∃ l : Nat, l < 10 ∧ 0 ≤ VR d h S l) ∨ (r.1 = zI 0 ∧ ∀ l : Nat, l < 10 → ¬ 0 ≤ VR d h S l)))
        (q_wr (eC (pw m1 d)) 25 10240 (zI (10 * (S : Int) + L)) (zI v) fun σM_44 => if u2 = 0 then (if zI v < 0 then (again (zI (L + 1), σM_44, (0 : Int32))) else again (zI (L + 1), σM_44, (1 : Int32))) else again (zI (L + 1), σM_44, (1 : Int32))) := fun v ev => by
      rw [s_wrT _ _ (by omega) (by omega)]
      have hvb : -6 ≤ v ∧ v ≤ 99 := by rw [ev]; unfold cv; split <;> omega
      have hR' : mRd m d h (eC (pw (ud m1 25 (10 * (S : Int) + L) v) d)) S (L + 1).toNat := by
        refine ⟨_, rfl, ⟨scr_tr hO.1 (scr_ud (by decide)), fun e a b => by rw [ud_ne _ _ (Or.inl (by decide))]; exact hO.2 e a b⟩, fun s l s0 l0' hsl => ?_⟩
        by_cases z : s = S ∧ l = L.toNat
        · obtain ⟨rfl, rfl⟩ := z
          rw [eL, ud_same, ev]
        · rw [ud_ne _ _ (by omega)]
          exact hT s l s0 l0' (by omega)
      have hlt : (zI v < 0) ↔ v < 0 := by rw [z_0, z_lt (by omega) (by omega) (by omega) (by omega)]
      have hneg : v < 0 ↔ ¬ 0 ≤ VR d h S L.toNat := by
        rw [ev]
        unfold cv
        split <;> omega
      rcases hc with ⟨e, l, l2, l3⟩ | ⟨e, l2⟩
      · rw [e, if_neg (by decide)]
        exact ih c _ ⟨hR', Or.inl ⟨rfl, l, by omega, l3⟩⟩
      · rw [e, if_pos rfl]
        refine ok_ifE hlt (fun c2 => ih c _ ⟨hR', Or.inr ⟨rfl, fun l hl => ?_⟩⟩) (fun c2 => ih c _ ⟨hR', Or.inl ⟨rfl, L.toNat, by omega, ?_⟩⟩)
        · by_cases z : l = L.toNat
          · rw [z]; exact hneg.mp c2
          · exact l2 l (by omega)
        · exact Classical.not_not.mp (fun z => c2 (hneg.mpr z))
    have alone : S = 2 ^ L.toNat → VR d h S L.toNat = gHt d (h - Wy d (110 + L)) L.toNat := fun e => by
      rw [VR_eq hS (by omega)]
      unfold pull
      rw [if_pos (by rw [e]; exact hpw.2.1), if_pos e, eL]
    have hbb := y_behindBed (m := m1) (τ := τ) hd (a := h) (o := Wy d (110 + L)) h0 h1 hW.1 hW.2 (l := L.toNat) (by omega)
    rw [eL] at hbb
    have ecl : ∀ (K : Int32 → Option (Int32 × qS)), q_cl (f_X7_cooled (zI h) (zI (Wy d (110 + L)))) (fun r_16 => q_cl (f_X7_behindBed (eC (pw m1 d)) τ r_16 (zI L)) K) = K (zI (cv (gHt d (h - Wy d (110 + L)) L.toNat))) := fun K => by
      rw [m_cooled h0 (by omega) hW.1 (by omega), s_cl] at hbb ⊢
      rw [hbb, s_cl]
    refine ok_if (fun c1 => ok_if (fun c2 => ?_) (fun c2 => ?_)) (fun c1 => ok_if (fun c2 => ?_) (fun c2 => ?_))
    · rw [ecl]
      exact fin _ (by rw [alone (by omega)])
    · have hh := y_hottest (τ := τ) hd h1 hO hS (show L.toNat < 10 by omega) c1 (by omega) (fun s' l' a b e => hT s' l' a b (Or.inl e))
      rw [eL] at hh
      rw [hh, s_cl]
      exact fin _ rfl
    · exact absurd (show S.testBit L.toNat = true by rw [show S = 2 ^ L.toNat by omega]; exact hpw.2.1) c1
    · have hno : VR d h S L.toNat = -1 := VR_not hS (by omega) c1
      have := fin (-6) (by rw [hno]; rfl)
      rw [show (-6 : Int32) = zI (-6) by decide]
      simp only [show (zI (-6) < (0 : Int32)) = True from eq_true (by decide), s_T] at this
      exact this
  · obtain rfl : L = 10 := by omega
    rw [if_pos (by decide)]
    have hb : q_isB u2 = true := by
      rcases hc with ⟨e, _⟩ | ⟨e, _⟩ <;> rw [e] <;> decide
    rw [s_chk hb]
    refine ok_r ⟨⟨m1, rfl, hO, fun s l a b e => hT s l a b ?_⟩, hc⟩
    have : (10 : Int).toNat = 10 := rfl
    omega
/-- the answer of round -/
noncomputable def rdV (d : Nat → Int → Int) (h w : Int) : Int32 := if w = 0 then onz (zI (bsR d h 1024)) else zI (bsR d h 1024)
theorem y_roundM (hd : okd d) {h w : Int} (h0 : 0 ≤ h) (h1 : h ≤ 99) (w0 : 0 ≤ w) (w1 : w ≤ 1) : oK (fun r => r.1 = rdV d h w ∧ msc m d r.2) (f_X7_round (eC (pw m d)) τ (zI h) (zI w)) := by
  unfold f_X7_round
  rw [zl_0, zl_1, zl_99, z_l (by omega) (by omega), z_l (by omega) (by omega), m_inT (by omega) (by omega) (by omega) (by omega), m_inT (by omega) (by omega) (by omega) (by omega), s_cl, s_cl, if_neg (by decide), if_neg (by decide)]
  refine ok_cl (y_findOff (m := m) (τ := τ) hd (scr_rf m)) (fun s hs => ?_)
  obtain ⟨m1, rfl, hO⟩ := hs
  rw [z_1, z_0]
  refine ok_forI (τ := qS × Int32) 1024 (fun S u => 1 ≤ S ∧ mRd m d h u.1 S.toNat 0 ∧ u.2 = zI (bsR d h S.toNat)) (fun again S u s0 s1 hu ih => ?_) 20000 1 _ (by omega) (by omega) ⟨by omega, ⟨m1, rfl, hO, fun s l a b e => by have : (1 : Int).toNat = 1 := rfl; omega⟩, rfl⟩ (by omega)
  obtain ⟨u1, u2⟩ := u
  obtain ⟨S1, hu, e2⟩ := hu
  dsimp only at hu e2
  subst e2
  unfold b_X7_round_34
  dsimp only
  rw [z_1024, z_s1]
  have eS : ((S.toNat : Nat) : Int) = S := Int.toNat_of_nonneg s0
  have en : (S + 1).toNat = S.toNat + 1 := by omega
  have hbb := bsR_b (d := d) (h := h) S.toNat (by omega)
  obtain ⟨-, o2, -, -⟩ := onz_of (s := (bsR d h S.toNat : Nat)) (by omega) (by omega)
  by_cases c : S < 1024
  · rw [if_neg (c_nle c s0 (by omega))]
    have hg := y_findHot (τ := τ) hd h0 h1 (S := S.toNat) (by omega) (by omega) hu
    rw [eS] at hg
    refine ok_cl hg (fun y hy => ?_)
    obtain ⟨-, o1, -, -⟩ := onz_of s0 c
    have hs := bsR_s (d := d) (h := h) (n := S.toNat) (by omega)
    rw [o1, s_cl, o2, s_cl]
    rcases hy.2 with ⟨e, hex⟩ | ⟨e, hno⟩
    · rw [e, if_neg (by decide)]
      refine ok_if (fun c3 => ih c _ ⟨by omega, by rw [en]; exact hy.1, ?_⟩) (fun c3 => ih c _ ⟨by omega, by rw [en]; exact hy.1, ?_⟩)
      · rw [en, hs, if_neg (fun z => z.2 (by rw [eS]; exact c3))]
      · rw [en, hs, if_pos ⟨canR_t.mpr hex, by rw [eS]; exact c3⟩, eS]
    · rw [e, if_pos rfl]
      refine ih c _ ⟨by omega, by rw [en]; exact hy.1, ?_⟩
      rw [en, hs, if_neg (fun z => by obtain ⟨l, l1, l2⟩ := canR_t.mp z.1; exact hno l l1 l2)]
  · obtain rfl : S = 1024 := by omega
    obtain ⟨m2, rfl, hO2, -⟩ := hu
    rw [if_pos (c_le (by omega) (by omega) (by omega)), o2, s_cl]
    simp (disch := omega) only [z_eq]
    unfold rdV
    exact ok_if (fun c2 => ok_r ⟨by rw [if_pos c2]; rfl, m2, rfl, hO2.1⟩) (fun c2 => ok_r ⟨by rw [if_neg c2]; rfl, m2, rfl, hO2.1⟩)
theorem y_round (hd : okd d) {h w : Int} (h0 : 0 ≤ h) (h1 : h ≤ 99) (w0 : 0 ≤ w) (w1 : w ≤ 1) (σ η : qS) : oK (fun r => r.1 = rdV d h w) (f_X6_round σ η (eC d) (zI h) (zI w)) := by
  have hbb := bsR_b (d := d) (h := h) 1024 (by omega)
  obtain ⟨o1, -, -, -⟩ := onz_of (s := (bsR d h 1024 : Nat)) (by omega) (by omega)
  unfold f_X6_round
  rw [z_0, z_1, z_99, x_win (by omega) (by omega) (by omega) (by omega), x_win (by omega) (by omega) (by omega) (by omega), s_cl, s_cl, if_neg n10, if_neg n10]
  refine ok_cl (y_bestRound hd h0 h1 σ η) (fun y hy => ?_)
  rw [hy, o1, s_cl]
  exact ok_ifE (z_eq (by omega) (by omega) (by omega) (by omega)) (fun c => ok_r (by unfold rdV; rw [if_pos c])) (fun c => ok_r (by unfold rdV; rw [if_neg c]))
theorem round_n_eq (σ : qS) (d : Nat → Int → Int) {h w : Int32} (hr : rin h w) : f_X6_round_n σ (eC d) h w = f_X6_round σ (fun _ _ => 0) (eC d) h w := by
  unfold f_X6_round_n f_X6_round
  obtain ⟨h, h0, h1, rfl⟩ := z_of h
  obtain ⟨w, w0, w1, rfl⟩ := z_of w
  unfold rin at hr
  rw [z_toInt h0 h1, z_toInt w0 w1] at hr
  rw [z_0, z_1, z_99, x_win (by omega) (by omega) (by omega) (by omega), x_win (by omega) (by omega) (by omega) (by omega), s_cl, s_cl, s_cl, s_cl, if_neg (by decide), if_neg (by decide), if_neg (by decide), if_neg (by decide)]
  rfl
theorem c_round (hd : okd d) (σ η : qS) {h w : Int32} (hr : rin h w) : ∃ r s η' m', f_X6_round σ η (eC d) h w = some (r, s, η') ∧ f_X7_round (eC (pw m d)) τ h w = some (r, eC (pw m' d)) ∧ frN m m' := by
  obtain ⟨h, h0, h1, rfl⟩ := z_of h
  obtain ⟨w, w0, w1, rfl⟩ := z_of w
  unfold rin at hr
  rw [z_toInt h0 h1, z_toInt w0 w1] at hr
  obtain ⟨⟨r1, s1, η1⟩, e1, k1⟩ := ok_get (y_round hd hr.1.1 hr.1.2 hr.2.1 hr.2.2 σ η)
  obtain ⟨⟨r2, s2⟩, e2, k2, m', e3, hs⟩ := ok_get (y_roundM (m := m) (τ := τ) hd hr.1.1 hr.1.2 hr.2.1 hr.2.2)
  dsimp only at k1 k2 e3
  subst k1 k2 e3
  exact ⟨_, s1, η1, m', e1, e2, frN_scr hs⟩
theorem c_round_x (σ η : qS) {h w : Int32} (hr : ¬ rin h w) : f_X6_round σ η (eC d) h w = some (zI (-2), σ, η) ∧ f_X6_round_x σ (eC d) h w = some (zI (-2)) ∧ f_X7_round (eC (pw m d)) τ h w = some (zI (-2), eC (pw m d)) := by
  obtain ⟨h, h0, h1, rfl⟩ := z_of h
  obtain ⟨w, w0, w1, rfl⟩ := z_of w
  unfold rin at hr
  rw [z_toInt h0 h1, z_toInt w0 w1] at hr
  unfold f_X6_round f_X6_round_x f_X7_round
  have e2 : (-2 : Int32) = zI (-2) := by decide
  rw [z_0, z_1, z_99, x_within h0 h1 (by omega) (by omega) (by omega) (by omega), x_within w0 w1 (by omega) (by omega) (by omega) (by omega), zl_0, zl_1, zl_99, z_l h0 h1, z_l w0 w1, m_in (by omega) (by omega) (by omega) (by omega) (by omega) (by omega), m_in (by omega) (by omega) (by omega) (by omega) (by omega) (by omega), s_cl, s_cl, s_cl, s_cl, s_cl, s_cl, e2]
  by_cases c : 0 ≤ h ∧ h ≤ 99
  · rw [if_pos c, if_neg (show ¬ zI 1 = zI 0 by decide), if_neg (show ¬ zI 1 = zI 0 by decide), if_neg (show ¬ zI 1 = zI 0 by decide)]
    rw [if_neg (fun z => hr ⟨c, z⟩), if_pos rfl, if_pos rfl, if_pos rfl]
    exact ⟨rfl, rfl, rfl⟩
  · rw [if_neg c, if_pos rfl, if_pos rfl, if_pos rfl]
    exact ⟨rfl, rfl, rfl⟩
theorem c_roundA (hd : okd d) (σ η : qS) (h w : Int32) : ∃ r s η' m', f_X6_round σ η (eC d) h w = some (r, s, η') ∧ f_X7_round (eC (pw m d)) τ h w = some (r, eC (pw m' d)) ∧ frN m m' := by
  by_cases hr : rin h w
  · exact c_round hd σ η hr
  · obtain ⟨e1, -, e2⟩ := c_round_x (m := m) (τ := τ) (d := d) σ η hr
    exact ⟨_, _, _, m, e1, e2, frN_rf m⟩
theorem lgs (x : Int64) : lg_cmp x x = 0 := by
  unfold lg_cmp
  rw [if_neg (Int64.lt_irrefl (a := x)), if_pos rfl]
end ROUNDM

/-! what is to be taken: the law's own table -/
section NEED
variable {L : Nat} {xs : Nat → Int32} {σC σD σP σN σW σY σK σH σE : qS} {ℓK κ : qL} {step tens bel reached w t : Int}
/-- the table below x, and at x from the takes above i -/
def ndI (σ : qS) (x i : Int) : Prop := (∀ j : Nat, 1 ≤ j → (j : Int) < x → σ 0 j = zI (tk j)) ∧ (i < tk x.toNat → σ 0 x.toNat = zI (tk x.toNat))
theorem t_2167 (hL : L ≤ 260) {n0 f : Int} (m0 : 1 ≤ n0) (m1 : n0 ≤ 60) (hw : w = 0 ∨ w = 1) (hf : w = 1 → f = tk n0.toNat) (f0 : -10 ≤ f ∧ f ≤ 100) (hg : gmI n0 w n0 (n0 - 1) 0) (s0 : 0 ≤ step ∧ step ≤ 100) (nn0 : 0 ≤ tens ∧ tens ≤ 100) (r0 : 0 ≤ reached ∧ reached ≤ 10) (b0 : 0 ≤ bel ∧ bel ≤ 2000) (he : endG step tens bel reached) :
    oK Q1 (g_2167 L xs σC σD σP σN σW σY σK ℓK σH (zI step) (zI tens) (zI bel) (zI reached) (zI n0) (zI w) (zI f) (zI (n0 - 1)) (zI 0)) := by
  unfold g_2167
  rw [z_1]
  refine ok_forI (τ := qS) 61 (fun x σ => 1 ≤ x ∧ ∀ j : Nat, 1 ≤ j → (j : Int) < x → σ 0 j = zI (tk j)) (fun again x σ h0 h1 hP ih => ?_) 20000 1 _ (by omega) (by omega) ⟨by omega, fun j a b => by omega⟩ (by omega)
  obtain ⟨x0, hσ⟩ := hP
  unfold b_L_law_2176
  dsimp only
  rw [z_61]
  refine ok_ifE (z_le (by omega) (by omega) (by omega) (by omega)) (fun c => ?_) (fun c => ?_)
  · exact t_2243 hL m0 m1 (fun j a b => hσ j a (by omega)) hw hf f0 hg s0 nn0 r0 b0 he
  · obtain ⟨k1, k2, k3, k4⟩ := tk_z (n := x) (by omega) (by omega)
    rw [s_wr h0 (by omega) (by omega), z_1, z_sub, s_bd, z_add]
    refine ok_dn (τ := qS) 0 (fun i σ => i < x ∧ ndI σ x i) (fun again2 i σ2 h2 hP2 ih2 => ?_) 20000 (x - 1) _ (by omega) ⟨by omega, ?_⟩ (by omega)
    · obtain ⟨ix, hn1, hn2⟩ := hP2
      unfold b_L_law_2196
      dsimp only
      have em : (-1 : Int32) = zI (-1) := by decide
      rw [z_0, z_2, em, z_sub, z_mul, z_add, show i + -1 = i - 1 by omega]
      refine ok_ifE (z_le (by omega) (by omega) (by omega) (by omega)) (fun c2 => ?_) (fun c2 => ?_)
      · refine ih (by omega) _ ⟨by omega, fun j a b => ?_⟩
        by_cases e : (j : Int) = x
        · have := hn2 (by omega)
          rw [show j = x.toNat by omega]
          exact this
        · exact hn1 j a (by omega)
      · have hr : σ2 0 (x - i).toNat = zI (tk (x - i).toNat) := hn1 _ (by omega) (by omega)
        obtain ⟨l1, l2, -, -⟩ := tk_z (n := x - i) (by omega) (by omega)
        rw [s_rd (by omega) (by omega) (by omega), hr]
        refine ok_ifE (z_le (by omega) (by omega) (by omega) (by omega)) (fun c3 => ?_) (fun c3 => ?_)
        · rw [s_rd h0 (by omega) (by omega), s_wr h0 (by omega) (by omega)]
          refine ih2 (by omega) _ ⟨by omega, fun j a b => ?_, fun hi => ?_⟩
          · show upd (σ2 0) x.toNat _ j = _
            unfold upd
            rw [if_neg (by omega)]; exact hn1 j a b
          · show upd (σ2 0) x.toNat _ x.toNat = _
            unfold upd
            rw [if_pos rfl]
            refine hn2 ?_
            by_cases z : i = tk x.toNat
            · rcases k4 with k4 | k4
              · omega
              · rw [← z] at k4; omega
            · omega
        · rw [s_wr h0 (by omega) (by omega)]
          refine ih2 (by omega) _ ⟨by omega, fun j a b => ?_, fun hi => ?_⟩
          · show upd (σ2 0) x.toNat _ j = _
            unfold upd
            rw [if_neg (by omega)]; exact hn1 j a b
          · show upd (σ2 0) x.toNat _ x.toNat = _
            unfold upd
            rw [if_pos rfl]
            by_cases z : i = tk x.toNat
            · rw [z]
            · exact absurd (k3 i (by omega) (by omega)) c3
    · refine ⟨fun j a b => ?_, fun hi => ?_⟩
      · show upd (σ 0) x.toNat _ j = _
        unfold upd
        rw [if_neg (by omega)]; exact hσ j a b
      · show upd (σ 0) x.toNat _ x.toNat = _
        unfold upd
        rw [if_pos rfl]
        exact congrArg zI (by omega)
theorem gm_0 {n0 : Int} (m0 : 1 ≤ n0) (m1 : n0 ≤ 60) {w : Int} (hw : w = 0 ∨ w = 1) (h : w = 1 ↔ (tk n0.toNat : Int) < n0) : gmI n0 w n0 (n0 - 1) 0 := by
  obtain ⟨k1, k2, -, -⟩ := tk_z m0 m1
  exact ⟨by omega, by omega, by omega, fun _ => ⟨fun z => by omega, fun z => by omega⟩, by omega, fun _ => ⟨rfl, rfl⟩⟩
theorem t_2149 (hL : L ≤ 260) {n0 : Nat} (m0 : 1 ≤ n0) (m1 : n0 ≤ 60) (hw : w = 0 ∨ w = 1) (h : w = 1 ↔ tk n0 < n0) (s0 : 0 ≤ step ∧ step ≤ 100) (nn0 : 0 ≤ tens ∧ tens ≤ 100) (r0 : 0 ≤ reached ∧ reached ≤ 10) (b0 : 0 ≤ bel ∧ bel ≤ 2000) (he : endG step tens bel reached) :
    oK Q1 (g_2149 L xs σC σD σP σN σW σY σK ℓK σH (zI step) (zI tens) (zI bel) (zI reached) (zI n0) (zI w)) := by
  unfold g_2149
  rw [z_1]
  refine ok_cl (y_embers σK m0 m1 (w := 1) (by omega) (by omega)) (fun y hy => ?_)
  have hv := emV_b n0 m1
  rw [show y.1 = zI (emV n0) from hy.trans (if_pos rfl), z_sub, z_0, s_bd]
  refine t_2167 hL (n0 := n0) (by omega) (by omega) hw (fun z => ?_) (by omega) (gm_0 (by omega) (by omega) hw ?_) s0 nn0 r0 b0 he
  · unfold emV
    rw [if_pos (h.mp z), Int.toNat_natCast]
  · rw [Int.toNat_natCast]; omega
theorem t_2108 (hL : L ≤ 260) {d : Nat → Int → Int} {asked : Int} (ha : asked = d 99 7) (s0 : 0 ≤ step ∧ step ≤ 100) (nn0 : 0 ≤ tens ∧ tens ≤ 100) (r0 : 0 ≤ reached ∧ reached ≤ 10) (b0 : 0 ≤ bel ∧ bel ≤ 2000) (he : endG step tens bel reached) :
    oK Q1 (g_2108 L xs (eC d) σD σP σN σW σY σK ℓK σH (zI step) (zI tens) (zI bel) (zI reached) (zI asked)) := by
  obtain ⟨y, hy, y0, y1⟩ := x_cell hL xs (a := 8) (n := 60) (by omega) (by omega) (by omega) (by omega)
  subst ha
  unfold g_2108 f_X6_forget f_X1_sightCount f_X1_dropSights
  simp only [s_cl, s_bd, eC_7]
  rw [if_pos trivial, z_8, z_60, hy, s_cl, z_1, z_add, show 1 + y = ((1 + y).toNat : Int) by omega, z_0]
  refine ok_cl (y_embers σK (by omega) (by omega) (w := 0) (by omega) (by omega)) (fun z hz => ?_)
  have hv := emV_6 (n := (1 + y).toNat)
  have hv2 : emV (1 + y).toNat = -6 ↔ ¬ tk (1 + y).toNat < (1 + y).toNat := by
    unfold emV; split <;> constructor <;> intro <;> omega
  have hz' : z.1 = if emV (1 + y).toNat = -6 then zI 0 else zI 1 := hz.trans (if_neg (by decide))
  rw [hz']
  by_cases c : emV (1 + y).toNat = -6
  · rw [if_pos c, if_neg (by decide)]
    exact t_2149 hL (by omega) (by omega) (Or.inl rfl) (by omega) s0 nn0 r0 b0 he
  · rw [if_neg c, if_pos rfl]
    exact t_2149 hL (by omega) (by omega) (Or.inr rfl) (by omega) s0 nn0 r0 b0 he
end NEED


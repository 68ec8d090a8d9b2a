/-! the calls: 3 ways, 4 what was said: they end -/
theorem msc_fr {m d : Nat → Int → Int} {β : Type} {x : Option (β × qS)} (h : oK (fun r => msc m d r.2) x) : ∃ r m', x = some (r, eC (pw m' d)) ∧ frN m m' := by
  obtain ⟨⟨r, σ⟩, e, m', e2, h2⟩ := h
  dsimp only at e2
  exact ⟨r, m', by rw [e, e2], frN_scr h2⟩
section ENDS
variable {m d f : Nat → Int → Int} {τ : qL}
theorem e_near (σ : qS) (a b w : Int32) : oK tt (f_X6_near σ (eC d) a b w) := by
  obtain ⟨a, a0, a1, rfl⟩ := z_of a
  obtain ⟨b, b0, b1, rfl⟩ := z_of b
  obtain ⟨w, w0, w1, rfl⟩ := z_of w
  unfold f_X6_near
  rw [x_isPlace a0 a1, x_isPlace b0 b1, z_0, z_1, x_within w0 w1 (by omega) (by omega) (by omega) (by omega), s_cl, s_cl, s_cl]
  by_cases ca : 0 ≤ a ∧ a ≤ 10
  · by_cases cb : 0 ≤ b ∧ b ≤ 10
    · exact ok_if (fun _ => ok_r trivial) (fun _ => ok_if (fun _ => ok_r trivial) (fun _ => ok_if (fun _ => ok_r trivial) (fun _ => ok_cl (w_measure σ d) (fun _ _ => ok_if (fun _ => ok_cl (w_howFar _ ca.1 ca.2 cb.1 cb.2) (fun _ _ => ok_r trivial)) (fun _ => ok_cl (w_nextPlace _ d ca.1 ca.2 cb.1 cb.2) (fun _ _ => ok_r trivial))))))
    · rw [if_neg cb]
      exact ok_if (fun _ => ok_r trivial) (fun _ => ok_if (fun _ => ok_r trivial) (fun c => absurd rfl c))
  · rw [if_neg ca]
    exact ok_if (fun _ => ok_r trivial) (fun c => absurd rfl c)
theorem e_keep (σ : qS) (a w : Int32) : oK tt (f_X6_keep σ (eC d) a w) := by
  obtain ⟨a, a0, a1, rfl⟩ := z_of a
  obtain ⟨w, w0, w1, rfl⟩ := z_of w
  unfold f_X6_keep
  rw [x_isHouse a0 a1, z_0, z_1, x_within w0 w1 (by omega) (by omega) (by omega) (by omega), s_cl, s_cl]
  by_cases ca : 0 ≤ a ∧ a ≤ 9
  · exact ok_if (fun _ => ok_r trivial) (fun _ => ok_if (fun _ => ok_r trivial) (fun _ => ok_cl (w_fewestDamp σ d ca.1 ca.2) (fun _ _ => ok_if (fun _ => ok_r trivial) (fun _ => ok_if (fun _ => ok_r trivial) (fun _ => ok_cl (w_bits _) (fun _ _ => ok_r trivial))))))
  · rw [if_neg ca]
    exact ok_if (fun _ => ok_r trivial) (fun c => absurd rfl c)
/-- in range of round -/
def rin (h w : Int32) : Prop := (0 ≤ h.toInt ∧ h.toInt ≤ 99) ∧ 0 ≤ w.toInt ∧ w.toInt ≤ 1
theorem e_round (σ η : qS) (hd : okd d) (h w : Int32) : oK tt (f_X6_round σ η (eC d) h w) := by
  unfold f_X6_round
  obtain ⟨h, h0, h1, rfl⟩ := z_of h
  obtain ⟨w, w0, w1, rfl⟩ := z_of w
  rw [z_0, z_1, z_99, x_within h0 h1 (by omega) (by omega) (by omega) (by omega), x_within w0 w1 (by omega) (by omega) (by omega) (by omega), s_cl, s_cl]
  exact ok_if (fun _ => ok_r trivial) (fun _ => ok_if (fun _ => ok_r trivial) (fun _ => ok_cl (w_bestRound σ η hd _) (fun _ _ => ok_if (fun _ => ok_cl (w_bits _) (fun _ _ => ok_r trivial)) (fun _ => ok_r trivial))))
theorem e_round_n (σ : qS) (hd : okd d) {h w : Int32} (hr : rin h w) : oK tt (f_X6_round_n σ (eC d) h w) := by
  unfold f_X6_round_n
  obtain ⟨h, h0, h1, rfl⟩ := z_of h
  obtain ⟨w, w0, w1, rfl⟩ := z_of w
  unfold rin at hr
  rw [z_toInt h0 h1, z_toInt w0 w1] at hr
  rw [z_0, z_1, z_99, x_within h0 h1 (by omega) (by omega) (by omega) (by omega), x_within w0 w1 (by omega) (by omega) (by omega) (by omega), s_cl, s_cl, if_pos hr.1, if_pos hr.2, if_neg (by decide), if_neg (by decide)]
  exact ok_cl (w_bestRound_n σ hd _) (fun _ _ => ok_if (fun _ => ok_cl (w_bits _) (fun _ _ => ok_r trivial)) (fun _ => ok_r trivial))
theorem e_round_x (σ γ : qS) {h w : Int32} (hr : ¬ rin h w) : oK tt (f_X6_round_x σ γ h w) := by
  unfold f_X6_round_x
  obtain ⟨h, h0, h1, rfl⟩ := z_of h
  obtain ⟨w, w0, w1, rfl⟩ := z_of w
  unfold rin at hr
  rw [z_toInt h0 h1, z_toInt w0 w1] at hr
  rw [z_0, z_1, z_99, x_within h0 h1 (by omega) (by omega) (by omega) (by omega), x_within w0 w1 (by omega) (by omega) (by omega) (by omega), s_cl, s_cl]
  refine ok_if (fun _ => ok_r trivial) (fun c1 => ok_if (fun _ => ok_r trivial) (fun c2 => ?_))
  exfalso
  apply hr
  constructor
  · by_cases c : 0 ≤ h ∧ h ≤ 99
    · exact c
    · rw [if_neg c] at c1; exact absurd rfl c1
  · by_cases c : 0 ≤ w ∧ w ≤ 1
    · exact c
    · rw [if_neg c] at c2; exact absurd rfl c2
theorem e_faded (a w : Int32) : oK tt (f_X6_faded (eC d) a w) := by
  obtain ⟨w, w0, w1, rfl⟩ := z_of w
  unfold f_X6_faded
  have e2 : (-2 : Int32) = zI (-2) := by decide
  rw [e2, z_99, x_within w0 w1 (by omega) (by omega) (by omega) (by omega), s_cl]
  refine ok_cl (w_isTale a) (fun _ _ => ok_if (fun _ => ok_r trivial) (fun _ => ?_))
  by_cases cw : -2 ≤ w ∧ w ≤ 99
  · refine ok_if (fun _ => ok_r trivial) (fun _ => ok_if (fun _ => ok_if (fun _ => ok_cl (w_stirsToRing d a) (fun _ _ => ok_r trivial)) (fun _ => ok_cl (w_stirsOfRing d a) (fun _ _ => ok_r trivial))) (fun c => ?_))
    have hw : 0 ≤ w := by
      rw [z_0, z_lt (by omega) (by omega) (by omega) (by omega)] at c; omega
    exact ok_cl (w_behindStirs d a hw (by omega)) (fun _ _ => ok_r trivial)
  · rw [if_neg cw]
    exact ok_if (fun _ => ok_r trivial) (fun c => absurd rfl c)
theorem e_fits (σ : qS) (hd : okd d) (a : Int32) : oK tt (f_X6_fits σ (eC d) a) := by
  unfold f_X6_fits f_X4_size
  exact ok_cl (w_gather σ hd) (fun _ _ => ok_if (fun _ => ok_r trivial) (fun _ => ok_cl (w_pick _ a) (fun _ _ => ok_r trivial)))
theorem e_ask (σ : qS) (hd : okd d) (w : Int32) : oK tt (f_X6_ask σ (eC d) w) := by
  unfold f_X6_ask
  refine ok_cl (w_within w 0 1) (fun _ _ => ok_if (fun _ => ok_r trivial) (fun _ => ok_cl (w_gather σ hd) (fun _ hg => ok_cl (w_bedToAsk _ hg) (fun _ hy => ok_if (fun _ => ok_r trivial) (fun _ => ok_if (fun _ => ok_r trivial) (fun _ => ok_cl (w_mostLeft _ hy _) (fun _ _ => ok_r trivial)))))))
theorem e_row (σ : qS) (κ : qL) (n t u k w q : Int32) : oK tt (f_X6_row σ κ n t u k w q) := by
  unfold f_X6_row
  obtain ⟨n, n0, n1, rfl⟩ := z_of n
  rw [z_0, z_10, x_within n0 n1 (by omega) (by omega) (by omega) (by omega), s_cl]
  by_cases cn : 0 ≤ n ∧ n ≤ 10
  · refine ok_if (fun _ => ok_r trivial) (fun _ => ok_cl (w_within _ _ _) (fun _ _ => ok_if (fun _ => ok_r trivial) (fun _ => ok_cl (w_within _ _ _) (fun _ _ => ok_if (fun _ => ok_r trivial) (fun _ => ok_cl (w_within _ _ _) (fun _ _ => ok_if (fun _ => ok_r trivial) (fun _ => ok_cl (w_within _ _ _) (fun _ _ => ok_if (fun _ => ok_r trivial) (fun _ => ok_cl (w_within _ _ _) (fun _ _ => ok_if (fun _ => ok_r trivial) (fun _ => ?_)))))))))))
    refine ok_cl (w_rowUpper σ κ cn.1 cn.2 _ _ _ _) (fun _ _ => ok_cl (w_rowLower σ _ cn.1 cn.2) (fun _ _ => ok_cl (w_commonPart _ _) (fun r _ => ?_)))
    have hz : ∀ {β : Type} {Q : β → Prop} {x : Option β}, ¬ lg_cmp r 0 ≤ 0 → oK Q x → oK Q (q_nzL r x) := fun {β Q x} h hx => by
      unfold q_nzL
      rw [if_neg]
      · exact hx
      · intro z
        rw [z] at h
        exact h (by decide)
    exact ok_if (fun _ => ok_if (fun _ => ok_r trivial) (fun c => hz c (ok_r trivial))) (fun _ => ok_if (fun _ => ok_r trivial) (fun c => hz c (ok_r trivial)))
  · rw [if_neg cn]
    exact ok_if (fun _ => ok_r trivial) (fun c => absurd rfl c)
theorem e_embers (σ : qS) (κ : qL) (n w : Int32) : oK tt (f_X6_embers σ κ n w) := by
  unfold f_X6_embers
  exact ok_cl (w_within _ _ _) (fun _ _ => ok_if (fun _ => ok_r trivial) (fun _ => ok_cl (w_within _ _ _) (fun _ _ => ok_if (fun _ => ok_r trivial) (fun _ => ok_cl (w_firstTake σ κ n) (fun _ _ => ok_if (fun _ => ok_r trivial) (fun _ => ok_if (fun _ => ok_r trivial) (fun _ => ok_r trivial)))))))
theorem w_believers (d : Nat → Int → Int) : oK tt (f_X1_believers (eC d)) := by
  unfold f_X1_believers
  rw [x_believersOf, s_cl]
  exact ok_cl (w_bits _) (fun _ _ => ok_r trivial)
theorem w_talesBelieved (d : Nat → Int → Int) : oK tt (f_X1_talesBelieved (eC d)) := by
  unfold f_X1_talesBelieved
  rw [z_0]
  refine ok_for (τ := Int32) 10 tt (fun again i t h0 h1 ht ih => ?_) 20000 0 _ (by omega) (by omega) trivial (by omega)
  unfold b_X1_talesBelieved_4
  dsimp only
  rw [z_s1, z_10]
  refine ok_if (fun _ => ok_r trivial) (fun c => ?_)
  have hi := t_nle h0 (by omega) (by omega) (by omega) c
  rw [x_believersOf, s_cl]
  exact ok_if (fun _ => ih hi _ trivial) (fun _ => ih hi _ trivial)
theorem w_allDoubt (d : Nat → Int → Int) : oK tt (f_X1_allDoubt (eC d)) := by
  unfold f_X1_allDoubt
  rw [z_0]
  refine ok_for (τ := Int32) 10 tt (fun again i t h0 h1 ht ih => ?_) 20000 0 _ (by omega) (by omega) trivial (by omega)
  unfold b_X1_allDoubt_4
  dsimp only
  rw [z_s1, z_10]
  refine ok_if (fun _ => ok_r trivial) (fun c => ?_)
  have hi := t_nle h0 (by omega) (by omega) (by omega) c
  exact ok_rd h0 (by omega) (by omega) (fun _ => ok_bd (ih hi _ trivial))
theorem e_year (hd : okd d) (hf : okd f) (a b w : Int32) : oK (fun r => ∃ f', r.2 = eC f' ∧ okd f') (f_X6_year (eC f) (eC d) a b w) := by
  unfold f_X6_year
  obtain ⟨a, a0, a1, rfl⟩ := z_of a
  obtain ⟨b, b0, b1, rfl⟩ := z_of b
  rw [z_0, z_9999, z_1, z_99, x_within a0 a1 (by omega) (by omega) (by omega) (by omega), x_within b0 b1 (by omega) (by omega) (by omega) (by omega), s_cl, s_cl]
  have hff : ∃ f', eC f = eC f' ∧ okd f' := ⟨f, rfl, hf⟩
  by_cases ca : 0 ≤ a ∧ a ≤ 9999
  · by_cases cb : 1 ≤ b ∧ b ≤ 99
    · refine ok_if (fun _ => ok_r hff) (fun _ => ok_if (fun _ => ok_r hff) (fun _ => ok_cl (w_within _ _ _) (fun _ _ => ok_if (fun _ => ok_r hff) (fun _ => ?_))))
      rw [x_copyFrom f d hf hd, s_cl, x_liveYear hd ca.1 (by omega) cb.1 cb.2, s_cl]
      have hy : ∃ f', eC (yr b 20000 0 a d) = eC f' ∧ okd f' := ⟨_, rfl, (yr_ok b 20000 0 a d hd).1⟩
      exact ok_if (fun _ => ok_cl (w_believers _) (fun _ _ => ok_r hy)) (fun _ => ok_if (fun _ => ok_cl (w_talesBelieved _) (fun _ _ => ok_r hy)) (fun _ => ok_cl (w_allDoubt _) (fun _ _ => ok_r hy)))
    · rw [if_neg cb]
      exact ok_if (fun _ => ok_r hff) (fun _ => ok_if (fun _ => ok_r hff) (fun c => absurd rfl c))
  · rw [if_neg ca]
    exact ok_if (fun _ => ok_r hff) (fun c => absurd rfl c)
theorem e_told {e : Nat → Int → Int} (hd : okd d) (a : Int32) : oK tt (f_X6_told (eC e) (eC d) a) := by
  obtain ⟨a, a0, a1, rfl⟩ := z_of a
  have hlong : ∀ x y : Int32, oK tt (f_X1_longBetween (eC d) x y) := fun x y => by
    obtain ⟨x, x0, x1, rfl⟩ := z_of x
    obtain ⟨y, y0, y1, rfl⟩ := z_of y
    unfold f_X1_longBetween
    rw [x_isPlace x0 x1, x_isPlace y0 y1, s_cl, s_cl]
    by_cases cx : 0 ≤ x ∧ x ≤ 10
    · by_cases cy : 0 ≤ y ∧ y ≤ 10
      · rw [z_11, z_mul, z_add]
        exact ok_if (fun _ => ok_r trivial) (fun _ => ok_if (fun _ => ok_r trivial) (fun _ => ok_rd (by omega) (by omega) (by omega) (fun _ => ok_r trivial)))
      · rw [if_neg cy]
        exact ok_if (fun _ => ok_r trivial) (fun _ => ok_if (fun _ => ok_r trivial) (fun c => absurd rfl c))
    · rw [if_neg cx]
      exact ok_if (fun _ => ok_r trivial) (fun c => absurd rfl c)
  have hpl : ∀ x : Int32, oK tt (f_X6_isPlace x) := fun x => by
    unfold f_X6_isPlace
    exact ok_if (fun _ => ok_r trivial) (fun _ => ok_if (fun _ => ok_r trivial) (fun _ => ok_r trivial))
  have hho : ∀ x : Int32, oK (fun r => r = 0 ∨ (∃ a, 0 ≤ a ∧ a ≤ 9 ∧ x = zI a)) (f_X6_isHouse x) := fun x => by
    obtain ⟨a, a0, a1, rfl⟩ := z_of x
    rw [x_isHouse a0 a1]
    refine ok_r ?_
    by_cases c : 0 ≤ a ∧ a ≤ 9
    · exact Or.inr ⟨a, c.1, c.2, rfl⟩
    · rw [if_neg c]; exact Or.inl rfl
  have hhf : ∀ x y : Int32, oK tt (f_X1_houseFact (eC d) x y) := fun x y => by
    unfold f_X1_houseFact f_X1_beliefOf f_X1_doubtOf f_X1_isDamp
    have hr : ∀ (k : Nat) (K : Int32 → Option Int32), (∀ v, oK tt (K v)) → ∀ z : Option Int32, oK tt z → oK tt (q_cl (f_X6_isHouse x) fun r_1 => if r_1 = 0 then z else q_rd (eC d) k 10 x K) := fun k K hK z hz => by
      refine ok_cl (hho x) (fun r hr => ok_if (fun _ => hz) (fun c => ?_))
      rcases hr with e | ⟨a, h0, h1, rfl⟩
      · exact absurd e c
      · exact ok_rd h0 (by omega) (by omega) hK
    refine ok_if (fun _ => ok_cl (hr 3 _ (fun _ => ok_r trivial) _ (ok_r trivial)) (fun _ _ => ok_r trivial)) (fun _ => ok_if (fun _ => ok_cl (hr 1 _ (fun _ => ok_r trivial) _ (ok_r trivial)) (fun _ _ => ok_r trivial)) (fun _ => ok_cl (hr 2 _ (fun _ => ok_if (fun _ => ok_r trivial) (fun _ => ok_r trivial)) _ (ok_r trivial)) (fun _ _ => ok_if (fun _ => ok_r trivial) (fun _ => ok_r trivial))))
  have hpf : ∀ x : Int32, oK tt (f_X1_panFact (eC d) x) := fun x => by
    unfold f_X1_panFact
    exact ok_if (fun _ => ok_r trivial) (fun _ => ok_if (fun _ => ok_r trivial) (fun _ => ok_if (fun _ => ok_r trivial) (fun _ => ok_r trivial)))
  unfold f_X6_told f_X3_size f_X1_sightCount
  exact ok_if (fun _ => ok_r trivial) (fun _ => ok_cl (w_within _ _ _) (fun _ _ => ok_if (fun _ => ok_if (fun _ => ok_r trivial) (fun _ => ok_cl (w_within _ _ _) (fun _ _ => ok_if (fun _ => ok_cl (w_within _ _ _) (fun _ _ => ok_if (fun _ => ok_cl (w_within _ _ _) (fun _ _ => ok_if (fun _ => ok_r trivial) (fun _ => ok_cl (hpl _) (fun _ _ => ok_if (fun _ => ok_r trivial) (fun _ => ok_cl (hlong _ _) (fun _ _ => ok_r trivial)))))) (fun _ => ok_if (fun _ => ok_cl (w_within _ _ _) (fun _ _ => ok_if (fun _ => ok_r trivial) (fun _ => ok_cl (hpl _) (fun _ _ => ok_if (fun _ => ok_r trivial) (fun _ => ok_cl (hlong _ _) (fun _ _ => ok_r trivial)))))) (fun _ => ok_cl (hhf _ _) (fun _ _ => ok_r trivial))))) (fun _ => ok_cl (w_fadesInto d _) (fun _ _ => ok_r trivial))))) (fun _ => ok_cl (hpf _) (fun _ _ => ok_r trivial))))
theorem v_told (a : Int32) : oK tt (f_X7_told (eC (pw m d)) τ a) := by
  obtain ⟨a, a0, a1, rfl⟩ := z_of a
  unfold f_X7_told
  have e1219 : (1219 : Int64) = zL 1219 := by decide
  have e1000 : (1000 : Int64) = zL 1000 := by decide
  rw [e1000, e1219, zl_100, zl_199, zl_10, zl_19, v_in _ (by omega) (by omega) (by omega) (by omega), v_in _ (by omega) (by omega) (by omega) (by omega), v_in _ (by omega) (by omega) (by omega) (by omega), z_toInt a0 a1, s_cl, s_cl, s_cl]
  by_cases c1 : 1000 ≤ a ∧ a ≤ 1219
  · rw [if_pos c1, if_neg (by decide), z_1000, z_20, z_sub, z_rem (by omega) (by omega) (by omega) (by omega), z_div (by omega) (by omega) (by omega) (by omega), s_bd, s_bd, m_isPlace (by omega) (by omega), s_cl]
    by_cases c2 : 0 ≤ (a - 1000) % 20 ∧ (a - 1000) % 20 ≤ 10
    · rw [z_11, z_mul, z_add]
      exact ok_if (fun _ => ok_r trivial) (fun _ => ok_rd (by omega) (by omega) (by omega) (fun _ => ok_r trivial))
    · rw [if_neg c2]
      exact ok_if (fun _ => ok_r trivial) (fun c => absurd rfl c)
  · rw [if_neg c1, if_pos (by decide)]
    by_cases c2 : 100 ≤ a ∧ a ≤ 199
    · rw [if_pos c2, if_neg (by decide), z_10, z_rem (by omega) (by omega) (by omega) (by omega), z_100, z_sub, z_div (by omega) (by omega) (by omega) (by omega)]
      refine ok_if (fun _ => ok_r trivial) (fun _ => ?_)
      unfold f_X7_ofHouse
      exact ok_cl (P := tt) (ok_if (fun _ => ok_rd (by omega) (by omega) (by omega) (fun _ => ok_r trivial)) (fun _ => ok_if (fun _ => ok_rd (by omega) (by omega) (by omega) (fun _ => ok_r trivial)) (fun _ => ok_rd (by omega) (by omega) (by omega) (fun _ => ok_r trivial)))) (fun _ _ => ok_r trivial)
    · rw [if_neg c2, if_pos (by decide)]
      by_cases c3 : 10 ≤ a ∧ a ≤ 19
      · rw [if_pos c3, if_neg (by decide), z_10, z_sub]
        exact ok_rd (by omega) (by omega) (by omega) (fun _ => ok_r trivial)
      · rw [if_neg c3, if_pos (by decide)]
        exact ok_if (fun _ => ok_r trivial) (fun _ => ok_if (fun _ => ok_r trivial) (fun _ => ok_if (fun _ => ok_r trivial) (fun _ => ok_if (fun _ => ok_r trivial) (fun _ => ok_if (fun _ => ok_r trivial) (fun _ => ok_if (fun _ => ok_r trivial) (fun _ => ok_r trivial))))))
theorem v_row (σ : qS) (κ : qL) (n t u k w q : Int32) : oK tt (f_X7_row σ κ n t u k w q) := by
  by_cases c : 0 ≤ n.toInt ∧ n.toInt ≤ 10 ∧ 0 ≤ t.toInt ∧ t.toInt ≤ 10 ∧ 0 ≤ u.toInt ∧ u.toInt ≤ 10 ∧ 0 ≤ k.toInt ∧ k.toInt ≤ n.toInt
  · by_cases cw : 0 ≤ w.toInt ∧ w.toInt ≤ 2
    · by_cases cq : 0 ≤ q.toInt ∧ q.toInt ≤ 1
      · have hz : ∀ x : Int32, x = zI x.toInt := fun x => (Int32.ofInt_toInt x).symm
        rw [hz n, hz t, hz u, hz k, hz w, hz q]
        obtain ⟨τ', e⟩ := m_row_in σ κ c.1 c.2.1 c.2.2.1 c.2.2.2.1 c.2.2.2.2.1 c.2.2.2.2.2.1 c.2.2.2.2.2.2.1 c.2.2.2.2.2.2.2 cw.1 cw.2 cq.1 cq.2
        exact ⟨_, e, trivial⟩
      · unfold f_X7_row
        rw [v_isRow, s_cl, zl_0, zl_1, zl_2, v_in w (by omega) (by omega) (by omega) (by omega), v_in q (by omega) (by omega) (by omega) (by omega), s_cl, s_cl, if_neg cq]
        exact ok_if (fun _ => ok_r trivial) (fun _ => ok_if (fun _ => ok_r trivial) (fun _ => ok_if (fun _ => ok_r trivial) (fun c => absurd rfl c)))
    · unfold f_X7_row
      rw [v_isRow, s_cl, zl_0, zl_2, v_in w (by omega) (by omega) (by omega) (by omega), s_cl, if_neg cw]
      exact ok_if (fun _ => ok_r trivial) (fun _ => ok_if (fun _ => ok_r trivial) (fun c => absurd rfl c))
  · unfold f_X7_row
    rw [v_isRow, s_cl, if_neg c]
    exact ok_if (fun _ => ok_r trivial) (fun c => absurd rfl c)
end ENDS

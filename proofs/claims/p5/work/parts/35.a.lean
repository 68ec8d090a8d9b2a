/-! what holds between two turns -/
def kept (m : Nat → Int → Int) (k : Int) (o : Option (Nat × (Nat → Nat) × (Nat → Int → Int))) : Prop := match o with
  | none => m 31 k = 0
  | some q => m 31 k = 1 ∧ imgR m (200 * k) q.2.2 ∧ okd q.2.2 ∧ rng dz q.2.2
theorem kept_fr {m m' : Nat → Int → Int} {k : Int} {o : Option (Nat × (Nat → Nat) × (Nat → Int → Int))} (h : kept m k o) (h1 : m' 31 k = m 31 k) (h2 : ∀ b, 200 * k ≤ b → b < 200 * k + 182 → m' 30 b = m 30 b) : kept m' k o := by
  cases o with
  | none => exact h1.trans h
  | some q => exact ⟨h1.trans h.1, imgR_fr h.2.1 h2, h.2.2⟩
abbrev kO (d f e m : Nat → Int → Int) (QQ : Nat → Option Nat) (i0 i1 : Option (Nat × (Nat → Nat) × (Nat → Int → Int))) : Prop :=
  okd d ∧ okd f ∧ okp e ∧ mpad m e ∧ rng dz d ∧ kept m 0 i0 ∧ kept m 1 i1 ∧ QQ 0 = i0.map (fun q => q.1) ∧ QQ 1 = i1.map (fun q => q.1)
section KOS
variable {d f e m : Nat → Int → Int} {QQ : Nat → Option Nat} {i0 i1 : Option (Nat × (Nat → Nat) × (Nat → Int → Int))}
theorem kO.xd (h : kO d f e m QQ i0 i1) : okd d := h.1
theorem kO.xf (h : kO d f e m QQ i0 i1) : okd f := h.2.1
theorem kO.xe (h : kO d f e m QQ i0 i1) : okp e := h.2.2.1
theorem kO.xp (h : kO d f e m QQ i0 i1) : mpad m e := h.2.2.2.1
theorem kO.xr (h : kO d f e m QQ i0 i1) : rng dz d := h.2.2.2.2.1
theorem kO.xk0 (h : kO d f e m QQ i0 i1) : kept m 0 i0 := h.2.2.2.2.2.1
theorem kO.xk1 (h : kO d f e m QQ i0 i1) : kept m 1 i1 := h.2.2.2.2.2.2.1
theorem kO.xq0 (h : kO d f e m QQ i0 i1) : QQ 0 = i0.map (fun q => q.1) := h.2.2.2.2.2.2.2.1
theorem kO.xq1 (h : kO d f e m QQ i0 i1) : QQ 1 = i1.map (fun q => q.1) := h.2.2.2.2.2.2.2.2
theorem kO.cl (h : kO d f e m QQ i0 i1) {d' : Nat → Int → Int} (h1 : okd d') (h2 : rng d d') : kO d' f e m QQ i0 i1 := ⟨h1, h.xf, h.xe, h.xp, rng_tr h.xr h2, h.xk0, h.xk1, h.xq0, h.xq1⟩
theorem kO.dr (h : kO d f e m QQ i0 i1) {f' : Nat → Int → Int} (h1 : okd f') : kO d f' e m QQ i0 i1 := ⟨h.xd, h1, h.xe, h.xp, h.xr, h.xk0, h.xk1, h.xq0, h.xq1⟩
theorem kO.fN (h : kO d f e m QQ i0 i1) {m' : Nat → Int → Int} (h1 : frN m m') : kO d f e m' QQ i0 i1 := ⟨h.xd, h.xf, h.xe, mpad_N h.xp h1, h.xr, kept_fr h.xk0 (frN_at h1 31 0 (by omega)) (fun b _ _ => frN_at h1 30 b (by omega)), kept_fr h.xk1 (frN_at h1 31 1 (by omega)) (fun b _ _ => frN_at h1 30 b (by omega)), h.xq0, h.xq1⟩
theorem kO.pd (h : kO d f e m QQ i0 i1) {e' m' : Nat → Int → Int} (h1 : okp e') (h2 : mpad m' e') (h3 : ∀ k i, k ≠ 12 → ¬ (k = 99 ∧ i = 13) → m' k i = m k i) : kO d f e' m' QQ i0 i1 := ⟨h.xd, h.xf, h1, h2, h.xr, kept_fr h.xk0 (h3 31 0 (by omega) (by omega)) (fun b _ _ => h3 30 b (by omega) (by omega)), kept_fr h.xk1 (h3 31 1 (by omega) (by omega)) (fun b _ _ => h3 30 b (by omega) (by omega)), h.xq0, h.xq1⟩
theorem kO.dn (h : kO d f e m QQ i0 i1) {d' e' f' m' : Nat → Int → Int} (h1 : okp e') (h2 : okd f') (h3 : okd d') (h4 : mpad m' e') (h5 : ∀ k i, k ≠ 12 → ¬ (k = 99 ∧ i = 13) → (k = 14 ∨ k = 15 ∨ k = 16 ∨ k = 18 ∨ k = 24 ∨ k = 25 ∨ k = 26 ∨ k = 29 ∨ (k = 99 ∧ (i = 17 ∨ (19 ≤ i ∧ i ≤ 23)))) ∨ m' k i = m k i) (h6 : oth d d') : kO d' f' e' m' QQ i0 i1 :=
  ⟨h3, h2, h1, h4, rng_tr h.xr (rng_oth h6), kept_fr h.xk0 ((h5 31 0 (by omega) (by omega)).resolve_left (by omega)) (fun b _ _ => (h5 30 b (by omega) (by omega)).resolve_left (by omega)), kept_fr h.xk1 ((h5 31 1 (by omega) (by omega)).resolve_left (by omega)) (fun b _ _ => (h5 30 b (by omega) (by omega)).resolve_left (by omega)), h.xq0, h.xq1⟩
theorem kO.im0 (h : kO d f e m QQ i0 i1) {m' : Nat → Int → Int} {QQ' : Nat → Option Nat} {q : Nat} {A : Nat → Nat} (h1 : imgR m' (200 * 0) d) (h2 : m' 31 0 = 1) (h3 : frI 0 m m') (h4 : QQ' 0 = some q) (h5 : QQ' 1 = QQ 1) : kO d f e m' QQ' (some (q, A, d)) i1 :=
  ⟨h.xd, h.xf, h.xe, ⟨fun i => by rcases h3 12 i with z | z | z | z <;> first | omega | (rw [z]; exact h.xp.1 i), by rcases h3 99 13 with z | z | z | z <;> first | omega | (rw [z]; exact h.xp.2)⟩, h.xr, ⟨h2, h1, h.xd, h.xr⟩,
   kept_fr h.xk1 (by rcases h3 31 1 with z | z | z | z <;> first | omega | exact z) (fun b _ _ => by rcases h3 30 b with z | z | z | z <;> first | omega | exact z), h4, h5.trans h.xq1⟩
theorem kO.im1 (h : kO d f e m QQ i0 i1) {m' : Nat → Int → Int} {QQ' : Nat → Option Nat} {q : Nat} {A : Nat → Nat} (h1 : imgR m' (200 * 1) d) (h2 : m' 31 1 = 1) (h3 : frI 1 m m') (h4 : QQ' 1 = some q) (h5 : QQ' 0 = QQ 0) : kO d f e m' QQ' i0 (some (q, A, d)) :=
  ⟨h.xd, h.xf, h.xe, ⟨fun i => by rcases h3 12 i with z | z | z | z <;> first | omega | (rw [z]; exact h.xp.1 i), by rcases h3 99 13 with z | z | z | z <;> first | omega | (rw [z]; exact h.xp.2)⟩, h.xr,
   kept_fr h.xk0 (by rcases h3 31 0 with z | z | z | z <;> first | omega | exact z) (fun b _ _ => by rcases h3 30 b with z | z | z | z <;> first | omega | exact z), ⟨h2, h1, h.xd, h.xr⟩, h5.trans h.xq0, h4⟩
theorem kO.rs (h : kO d f e m QQ i0 i1) {m' g : Nat → Int → Int} (hg : okd g) (hr : rng dz g) (h3 : ∀ x b, (x = 99 ∧ (b = 32 ∨ b = 33)) ∨ m' x b = m x b) : kO g f e m' QQ i0 i1 :=
  ⟨hg, h.xf, h.xe, ⟨fun i => by rcases h3 12 i with z | z <;> first | omega | (rw [z]; exact h.xp.1 i), by rcases h3 99 13 with z | z <;> first | omega | (rw [z]; exact h.xp.2)⟩, hr,
   kept_fr h.xk0 (by rcases h3 31 0 with z | z <;> first | omega | exact z) (fun b _ _ => by rcases h3 30 b with z | z <;> first | omega | exact z),
   kept_fr h.xk1 (by rcases h3 31 1 with z | z <;> first | omega | exact z) (fun b _ _ => by rcases h3 30 b with z | z <;> first | omega | exact z), h.xq0, h.xq1⟩
end KOS
/-! the start -/
def zz : Nat → Int → Int := fun _ _ => 0
theorem okp_zz : okp zz := ⟨fun _ => ⟨Int.le_refl 0, by show (0 : Int) ≤ 126; decide⟩, Int.le_refl 0, by show (0 : Int) ≤ 60; decide⟩
theorem kO_0 : kO dz dz zz zz (fun _ => none) none none := ⟨dz_ok, dz_ok, okp_zz, ⟨fun _ => rfl, rfl⟩, rng_rf dz, rfl, rfl, rfl, rfl⟩
def qZ0 : qS := fun _ _ => 0
theorem qZ0_z : qZ0 = eC zz := by
  funext k j
  exact z_0
def qM0 : qS := fun k => bif Nat.beq k 99 then (fun k => if k = 5 then 10 else 0) else bif Nat.beq k 1 then (fun _ => 5) else bif Nat.beq k 3 then (fun _ => (-6)) else bif Nat.beq k 4 then (fun j => nI j) else (fun _ => 0)
theorem qM0_z : qM0 = eC (pw zz dz) := by
  funext k j
  have e : ∀ n, k ≠ n → Nat.beq k n = false := fun n h => by
    cases z : Nat.beq k n with
    | false => rfl
    | true => exact absurd (Nat.eq_of_beq_eq_true z) h
  by_cases h99 : k = 99
  · subst h99
    by_cases h5 : j = 5
    · subst h5; decide
    · by_cases h6 : j = 6
      · subst h6; decide
      · by_cases h7 : j = 7
        · subst h7; decide
        · by_cases h8 : j = 8
          · subst h8; decide
          · by_cases h11 : j = 11
            · subst h11; decide
            · have c : cs 99 (j : Int) = none := by
                unfold cs
                rw [if_neg (by decide), if_neg (by decide), if_neg (by decide), if_pos rfl, if_neg (by omega), if_neg (by omega), if_neg (by omega), if_neg (by omega), if_neg (by omega)]
              show (if j = 5 then (10 : Int32) else 0) = zI (pw zz dz 99 j)
              rw [pw_none c, if_neg h5]; exact z_0
  · unfold qM0
    rw [e 99 h99, cond_false]
    show _ = zI (pw zz dz k j)
    by_cases h1 : k = 1
    · subst h1; rw [pw_1]; exact z_5
    · rw [e 1 h1, cond_false]
      by_cases h3 : k = 3
      · subst h3; rw [pw_3]; show (-6 : Int32) = zI (-6); decide
      · rw [e 3 h3, cond_false]
        by_cases h4 : k = 4
        · subst h4; rw [pw_4]; exact z_n j
        · rw [e 4 h4, cond_false]
          by_cases h0 : k = 0
          · subst h0; rw [pw_0]; exact z_0
          · by_cases h2 : k = 2
            · subst h2; rw [pw_2]; exact z_0
            · by_cases h9 : k = 9
              · subst h9; rw [pw_9]; exact z_0
              · by_cases h10 : k = 10
                · subst h10; rw [pw_10]; exact z_0
                · have c : cs k (j : Int) = none := by
                    unfold cs
                    rw [if_neg (by omega), if_neg h9, if_neg h10, if_neg h99]
                  rw [pw_none c]; exact z_0

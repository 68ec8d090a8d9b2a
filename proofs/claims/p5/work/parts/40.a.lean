/-! rows of the law: a tail T of the world that a call leaves alone -/
section TLS
variable {α : Type}
theorem tl_at (T ws : List α) (i : Nat) : (T ++ ws)[T.length + i]? = ws[i]? := by
  rw [List.getElem?_append_right (Nat.le_add_right _ _), Nat.add_sub_cancel_left]
def tsh (n : Nat) (is : List Nat) : List Nat := is.map (fun i => n + i)
def trs (n : Nat) (is : List Nat) : List Nat := List.range n ++ tsh n is
theorem tsh_map (T ws : List α) (is : List Nat) : (tsh T.length is).map (fun i => (T ++ ws)[i]?) = is.map (fun i => ws[i]?) := by
  unfold tsh
  rw [List.map_map]
  exact congrArg (fun f => is.map f) (funext fun i => tl_at T ws i)
theorem trg_map (T ws : List α) : (List.range T.length).map (fun i => (T ++ ws)[i]?) = T.map some := by
  apply List.ext_getElem?
  intro i
  rw [List.getElem?_map, List.getElem?_map]
  by_cases h : i < T.length
  · rw [List.getElem?_range h, List.getElem?_eq_getElem h]
    show some ((T ++ ws)[i]?) = some (some T[i])
    rw [List.getElem?_append_left h, List.getElem?_eq_getElem h]
  · rw [List.getElem?_eq_none (by rw [List.length_range]; omega), List.getElem?_eq_none (by omega)]
    rfl
theorem fm_of_map {is : List Nat} {f : Nat → Option α} {l : List α} (h : is.map f = l.map some) : is.filterMap f = l := by
  have h2 : (is.map f).filterMap id = (l.map some).filterMap id := by rw [h]
  simpa [List.filterMap_map, Function.comp_def] using h2
theorem trs_map {T ws l : List α} {is : List Nat} (h : is.map (fun i => ws[i]?) = l.map some) : (trs T.length is).map (fun i => (T ++ ws)[i]?) = (T ++ l).map some := by
  unfold trs
  rw [List.map_append, trg_map, tsh_map, h, List.map_append]
theorem nd_pw : ∀ (l : List Nat), va_nd l = true ↔ l.Pairwise (fun a b => a ≠ b)
  | [] => ⟨fun _ => List.Pairwise.nil, fun _ => rfl⟩
  | a :: l => by
    have ih := nd_pw l
    unfold va_nd
    rw [Bool.and_eq_true, decide_eq_true_eq, List.pairwise_cons, ih]
    constructor
    · rintro ⟨h1, h2⟩
      exact ⟨fun b hb e => h1 (e ▸ hb), h2⟩
    · rintro ⟨h1, h2⟩
      exact ⟨fun hb => h1 a hb rfl, h2⟩
theorem nd_tsh {n : Nat} {is : List Nat} (h : va_nd is = true) : va_nd (tsh n is) = true := by
  rw [nd_pw] at h ⊢
  unfold tsh
  rw [List.pairwise_map]
  exact h.imp (fun hab e => hab (by omega))
theorem nd_rng : ∀ n : Nat, (List.range n).Pairwise (fun a b => a ≠ b) := fun n => List.pairwise_lt_range.imp (fun h e => by omega)
theorem nd_trs {n : Nat} {is : List Nat} (h : va_nd is = true) : va_nd (trs n is) = true := by
  have h2 := (nd_pw _).mp (nd_tsh (n := n) h)
  rw [nd_pw]
  unfold trs
  rw [List.pairwise_append]
  refine ⟨nd_rng n, h2, fun a ha b hb e => ?_⟩
  have h1 := List.mem_range.mp ha
  obtain ⟨i, -, hi⟩ := List.mem_map.mp hb
  omega
theorem dis_trs {n : Nat} {isC isR : List Nat} (h : ∀ i ∈ isR, i ∉ isC) : ∀ i ∈ trs n isR, i ∉ tsh n isC := by
  intro i hi hc
  obtain ⟨j, hj, ej⟩ := List.mem_map.mp hc
  rcases List.mem_append.mp hi with z | z
  · have := List.mem_range.mp z
    omega
  · obtain ⟨k, hk, ek⟩ := List.mem_map.mp z
    obtain rfl : j = k := by omega
    exact h j hk hj
theorem trs_fm {T ws l : List α} {is : List Nat} (h : is.map (fun i => ws[i]?) = l.map some) : (trs T.length is).filterMap (fun i => (T ++ ws)[i]?) = T ++ l := fm_of_map (trs_map h)
end TLS
section TPD
variable {D : va_G} {cl : List vw_C} {A : Nat → Prop} {H : Heap} {T ws ws' : va_W}
theorem tP_sub (h : va_P D cl (T ++ ws) H) (is : List Nat) (hs : is.map (fun i => ws[i]?) = ws'.map some) : va_P D cl (T ++ ws') H := h.sub (trs T.length is) (trs_fm hs)
theorem tD_sub (h : va_D A (T ++ ws)) (is : List Nat) (hn : va_nd is = true) (hs : is.map (fun i => ws[i]?) = ws'.map some) : va_D A (T ++ ws') := h.sub (trs T.length is) (nd_trs hn) (trs_map hs)
theorem P_perm (h : va_P D cl ws H) (p : ws.Perm ws') : va_P D cl ws' H := fun k q hk => by
  obtain ⟨i, hi⟩ := List.getElem?_of_mem (p.mem_iff.mpr (List.mem_of_getElem? hk))
  exact h i q hi
theorem D_pw : ∀ (ws : va_W), (∀ (i j : Nat) (p q : Nat × va_E), ws[i]? = some p → ws[j]? = some q → p.1 = q.1 → i = j) ↔ ws.Pairwise (fun a b => a.1 ≠ b.1)
  | [] => ⟨fun _ => List.Pairwise.nil, fun _ i j p q h => by simp at h⟩
  | a :: ws => by
    have ih := D_pw ws
    rw [List.pairwise_cons]
    constructor
    · intro h
      refine ⟨fun b hb e => ?_, ih.mp (fun i j p q hi hj e => ?_)⟩
      · obtain ⟨j, hj⟩ := List.getElem?_of_mem hb
        have := h 0 (j + 1) a b rfl hj e
        omega
      · have := h (i + 1) (j + 1) p q hi hj e
        omega
    · rintro ⟨h1, h2⟩ i j p q hi hj e
      cases i with
      | zero =>
        cases j with
        | zero => rfl
        | succ j =>
          cases hi
          exact absurd e (h1 q (List.mem_of_getElem? hj))
      | succ i =>
        cases j with
        | zero =>
          cases hj
          exact absurd e.symm (h1 p (List.mem_of_getElem? hi))
        | succ j => rw [ih.mpr h2 i j p q hi hj e]
theorem D_perm (h : va_D A ws) (p : ws.Perm ws') : va_D A ws' := by
  refine ⟨(D_pw ws').mpr (List.Perm.pairwise_iff (fun {x y} (e : x.1 ≠ y.1) => e.symm) p |>.mp ((D_pw ws).mp h.1)), fun k q hk => ?_⟩
  obtain ⟨i, hi⟩ := List.getElem?_of_mem (p.mem_iff.mpr (List.mem_of_getElem? hk))
  exact h.2 i q hi
end TPD
section GCT
variable {p : Program} {l : Launch} {e : Env} {R : Room} {s : State} {m : MethodId} {args : Array Value} {below : List Frame} {meth : Method} {c : Code} {H : Heap} {locs : List Loc} {cells slots : Nat} {Q : State → Prop}
variable {cc : ByteArray} {pc : Nat} {ls : Array Slot} {rest : List Value} {g : GT} {A : Nat → Prop} {ws : va_W} {H0 : Heap}
variable {S : Type} {y : MethodName} {bytes : ByteArray} {maxL nL mc ms n index ci : Nat} {ret : Option FieldType} {wsl wsl' Ts : List Cond} {rm : Room} {own host : String} {b : Addr} {As st0 fs : List Value} {wc : va_W} {wf : S → va_W} {q : vw_C}
theorem gcV_iT {T : va_W} {post : Int32 → S → Prop} (F : CallFix p m c cc nL s args Ts own) (hK : va_K g.1 vwCl (tyL g) s) (hN : NW s) (hP : va_P g.1 vwCl (T ++ ws) H) (hD : va_D A (T ++ ws)) (hS : va_S A H0 H locs) (hA : ∀ q, H0.size ≤ q → A q)
    (M : Mi l y wsl rm g H.size (.ref b :: As) wc mc ms post wf) (G : GoodIn Ts (wsV own index q.1 y wsl)) (hy : YOk y n) (hyc : y.cls = q.1) (hw : wsl = .code y bytes maxL ret :: wsl') (hrc : rm.cells = mc) (hrs : rm.slots = ms) (hR : rm.frames + 1 ≤ R.frames ∧ 8 + (maxL + 11) + rm.locals ≤ R.locals) (isC isR : List Nat) (hnC : va_nd isC = true) (hC : isC.map (fun i => ws[i]?) = wc.map some) (hnR : va_nd isR = true) (hdis : ∀ i ∈ isR, i ∉ isC) (hRr : isR.map (fun i => ws[i]?) = (isR.filterMap (fun i => ws[i]?)).map some) (hq : vwCl[ci]? = some q) (he : wc[0]? = some (b, .inr (ci, fs)))
    (hst : st0 = As.reverse ++ .ref b :: rest) (hAn : As.length = n) (hls : ls.size = nL) (hrm : (rest.map fun v => v.category).sum ≤ 8) (hdg : decode cc pc = .ok (.invokevirtual index, 3)) (hf : cells + mc ≤ R.cells ∧ slots + ms ≤ R.slots)
    (kk : ∀ (r : Int32) (u : S) (H1 : Heap) (locs1 : List Loc), post r u → va_P g.1 vwCl (T ++ (isR.filterMap (fun i => ws[i]?) ++ wf u)) H1 → va_D A (T ++ (isR.filterMap (fun i => ws[i]?) ++ wf u)) → va_S A H0 H1 locs1 → W p l e R s m args below meth c H1 locs1 (cells + mc) (slots + ms) Q (F0 m (pc + 3) ls (.int r :: rest))) : W p l e R s m args below meth c H locs cells slots Q (F0 m pc ls st0) := by
  have ef : (trs T.length isR).filterMap (fun i => (T ++ ws)[i]?) = T ++ isR.filterMap (fun i => ws[i]?) := trs_fm hRr
  exact gcV_i F hK hN hP hD hS hA M G hy hyc hw hrc hrs hR (tsh T.length isC) (trs T.length isR) (nd_tsh hnC) ((tsh_map T ws isC).trans hC) (nd_trs hnR) (dis_trs hdis) ((trs_map hRr).trans (by rw [ef])) hq he hst hAn hls hrm hdg hf
    (fun r u H1 locs1 hp hP hD hS => kk r u H1 locs1 hp (by rw [ef, List.append_assoc] at hP; exact hP) (by rw [ef, List.append_assoc] at hD; exact hD) hS)
theorem gcV_lT {T : va_W} {post : Int64 → S → Prop} (F : CallFix p m c cc nL s args Ts own) (hK : va_K g.1 vwCl (tyL g) s) (hN : NW s) (hP : va_P g.1 vwCl (T ++ ws) H) (hD : va_D A (T ++ ws)) (hS : va_S A H0 H locs) (hA : ∀ q, H0.size ≤ q → A q)
    (M : Ml l y wsl rm g H.size (.ref b :: As) wc mc ms post wf) (G : GoodIn Ts (wsV own index q.1 y wsl)) (hy : YOk y n) (hyc : y.cls = q.1) (hw : wsl = .code y bytes maxL ret :: wsl') (hrc : rm.cells = mc) (hrs : rm.slots = ms) (hR : rm.frames + 1 ≤ R.frames ∧ 8 + (maxL + 11) + rm.locals ≤ R.locals) (isC isR : List Nat) (hnC : va_nd isC = true) (hC : isC.map (fun i => ws[i]?) = wc.map some) (hnR : va_nd isR = true) (hdis : ∀ i ∈ isR, i ∉ isC) (hRr : isR.map (fun i => ws[i]?) = (isR.filterMap (fun i => ws[i]?)).map some) (hq : vwCl[ci]? = some q) (he : wc[0]? = some (b, .inr (ci, fs)))
    (hst : st0 = As.reverse ++ .ref b :: rest) (hAn : As.length = n) (hls : ls.size = nL) (hrm : (rest.map fun v => v.category).sum ≤ 8) (hdg : decode cc pc = .ok (.invokevirtual index, 3)) (hf : cells + mc ≤ R.cells ∧ slots + ms ≤ R.slots)
    (kk : ∀ (r : Int64) (u : S) (H1 : Heap) (locs1 : List Loc), post r u → va_P g.1 vwCl (T ++ (isR.filterMap (fun i => ws[i]?) ++ wf u)) H1 → va_D A (T ++ (isR.filterMap (fun i => ws[i]?) ++ wf u)) → va_S A H0 H1 locs1 → W p l e R s m args below meth c H1 locs1 (cells + mc) (slots + ms) Q (F0 m (pc + 3) ls (.long r :: rest))) : W p l e R s m args below meth c H locs cells slots Q (F0 m pc ls st0) := by
  have ef : (trs T.length isR).filterMap (fun i => (T ++ ws)[i]?) = T ++ isR.filterMap (fun i => ws[i]?) := trs_fm hRr
  exact gcV_l F hK hN hP hD hS hA M G hy hyc hw hrc hrs hR (tsh T.length isC) (trs T.length isR) (nd_tsh hnC) ((tsh_map T ws isC).trans hC) (nd_trs hnR) (dis_trs hdis) ((trs_map hRr).trans (by rw [ef])) hq he hst hAn hls hrm hdg hf
    (fun r u H1 locs1 hp hP hD hS => kk r u H1 locs1 hp (by rw [ef, List.append_assoc] at hP; exact hP) (by rw [ef, List.append_assoc] at hD; exact hD) hS)
end GCT
/-! the law's world -/
def tH (g : GT) (h : Option (Nat × qS)) : va_W := match h with
  | none => []
  | some q => wH g q.1 q.2
def tI (g : GT) (o : Option (Nat × (Nat → Nat) × (Nat → Int → Int))) : va_W := match o with
  | none => []
  | some q => wX1 g q.1 q.2.1 (eC q.2.2)
def kV (h : Option (Nat × qS)) : Value := match h with
  | none => .null
  | some q => .ref q.1
abbrev kT (g : GT) (h : Option (Nat × qS)) (i0 i1 : Option (Nat × (Nat → Nat) × (Nat → Int → Int))) : va_W := tH g h ++ (tI g i0 ++ tI g i1)
abbrev kF (g : GT) (qX qM : Nat) (AX AC AD AP AW AY AK AM : Nat → Nat) (sC sD sP sN sM σW σY σK : qS) (ℓK ℓM : qL) (QQ : Nat → Option Nat) (v : Value) : va_W :=
  [(qX, .inr (6, oX6 AX)), ((AX 0), .inr (1, oC AC (sC 99))), aI g (AC 0) 121 (sC 0), aI g (AC 1) 10 (sC 1), aI g (AC 2) 10 (sC 2), aI g (AC 3) 10 (sC 3), aI g (AC 4) 10 (sC 4), aI g (AC 5) 8 (sC 5), aI g (AC 6) 8 (sC 6), ((AX 1), .inr (1, oC AD (sD 99))), aI g (AD 0) 121 (sD 0), aI g (AD 1) 10 (sD 1), aI g (AD 2) 10 (sD 2), aI g (AD 3) 10 (sD 3), aI g (AD 4) 10 (sD 4), aI g (AD 5) 8 (sD 5), aI g (AD 6) 8 (sD 6), aQ g (AX 2) 2 QQ, ((AX 3), .inr (3, oX3 AP (sP 99))), aI g (AP 0) 60 (sP 0), ((AX 4), .inr (2, oX2 (sN 99))), ((AX 5), .inr (5, oX5 AW v)), aI g (AW 0) 121 (σW 0), aI g (AW 1) 11 (σW 1), ((AX 6), .inr (4, oX4 AY (σY 99))), aI g (AY 0) 410 (σY 0), aI g (AY 1) 50 (σY 1), aI g (AY 2) 10 (σY 2), ((AX 7), .inr (0, oX0 AK)), aJ g (AK 0) 11 (ℓK 0), aJ g (AK 1) 11 (ℓK 1), aI g (AK 2) 61 (σK 2), (qM, .inr (7, oM AM (sM 99))), aI g (AM 0) 121 (sM 0), aI g (AM 1) 10 (sM 1), aI g (AM 2) 10 (sM 2), aI g (AM 3) 10 (sM 3), aI g (AM 4) 10 (sM 4), aI g (AM 9) 8 (sM 9), aI g (AM 10) 8 (sM 10), aI g (AM 12) 60 (sM 12), aI g (AM 14) 60 (sM 14), aI g (AM 15) 60 (sM 15), aI g (AM 16) 60 (sM 16), aI g (AM 18) 34 (sM 18), aI g (AM 24) 121 (sM 24), aI g (AM 25) 10240 (sM 25), aI g (AM 26) 10 (sM 26), aJ g (AM 27) 22 (ℓM 27), aJ g (AM 28) 22 (ℓM 28), aZ g (AM 29) 3721 (sM 29), aI g (AM 30) 400 (sM 30), aZ g (AM 31) 2 (sM 31)]
theorem pm_h {α : Type} (A B F : List α) : ((A ++ B) ++ F).Perm (B ++ (A ++ F)) := by
  rw [← List.append_assoc B]
  exact List.Perm.append_right F List.perm_append_comm
theorem pm_0 {α : Type} (A B C F : List α) : ((A ++ (B ++ C)) ++ F).Perm ((A ++ C) ++ (B ++ F)) := by
  rw [List.append_assoc, List.append_assoc A C]
  exact List.Perm.append_left A (pm_h B C F)
theorem pm_1 {α : Type} (A B C F : List α) : ((A ++ (B ++ C)) ++ F).Perm ((A ++ B) ++ (C ++ F)) := by
  rw [← List.append_assoc A, List.append_assoc (A ++ B)]
theorem nI_adk (i k : Nat) : nI i + nI k = nI (i + k) := by
  rw [z_n, z_n, z_n, z_add]
  congr 1
theorem lw_go {i L : Nat} (hi : i < 100000) (hL : L < 100000) (h : ¬ Int32.ofNat L - 7 < nI i) : i + 7 ≤ L := by
  have e : Int32.ofNat L = zI L := z_n L
  rw [e, z_n, z_7, z_sub, z_lt (by omega) (by omega) (by omega) (by omega)] at h
  omega


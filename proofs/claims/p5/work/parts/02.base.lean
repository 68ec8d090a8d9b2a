/-! what every contract of this claim says of its start and end, and one row a call -/
abbrev GT : Type := va_G × (ClassId × (ClassId × (ClassId × ClassId)))
abbrev tyL (g : GT) : List (ClassId × FieldType) := [(g.2.1, .int), (g.2.2.1, .long), (g.2.2.2.1, .boolean), (g.2.2.2.2, .object RX1)]
abbrev aI (g : GT) (q n : Nat) (f : Nat → Int32) : Nat × va_E := (q, .inl (g.2.1, n, .inl f))
abbrev aJ (g : GT) (q n : Nat) (f : Nat → Int64) : Nat × va_E := (q, .inl (g.2.2.1, n, .inr (.inl f)))
abbrev aZ (g : GT) (q n : Nat) (f : Nat → Int32) : Nat × va_E := (q, .inl (g.2.2.2.1, n, .inl f))
abbrev aQ (g : GT) (q n : Nat) (f : Nat → Option Nat) : Nat × va_E := (q, .inl (g.2.2.2.2, n, .inr (.inr (.inr (.inr f)))))
def nwL : List Cond := [.methodLinkNest RX6 25 yX3_init RX6, .methodLinkNest RX6 32 yX2_init RX6, .methodLinkNest RX6 39 yX5_init RX6, .methodLinkNest RX6 46 yX4_init RX6, .methodLinkNest RX6 53 yX0_init RX6, .methodLinkNest RX1 61 yX6_isPlace RX6, .methodLinkNest RX1 65 yX6_isHouse RX6, .methodLinkNest RX1 86 yX6_isTale RX6, .methodLinkNest RX3 19 yX6_within RX6, .methodLinkNest RX5 31 yX6_isPlace RX6, .methodLinkNest RX5 72 yX6_within RX6, .methodLinkNest RX5 76 yX6_isHouse RX6, .methodLinkNest RX5 68 yX6_isIn RX6, .methodLinkNest RX1 92 yX6_isIn RX6, .methodLinkNest RX1 103 yX6_within RX6, .methodLinkNest RX4 57 yX6_isTale RX6, .methodLinkNest RX4 33 yX6_within RX6, .methodLinkNest RX0 34 yX6_within RX6, .fieldLinkNest RX6 146 RX2 "acts" "I" RX6, .fieldLinkNest RX6 124 RX2 "beds" "I" RX6, .fieldLinkNest RX6 117 RX2 "hinderedAct" "I" RX6, .fieldLinkNest RX6 121 RX2 "reason" "I" RX6, .fieldLinkNest RX6 136 RX2 "otherAct" "I" RX6, .fieldLinkNest RX6 139 RX2 "otherHouse" "I" RX6]
def NW (U : State) : Prop := (∀ w ∈ nwL, va_Nw w U) ∧ va_AO RX1 U
theorem NW.get {U : State} (h : NW U) (i : Nat) {w : Cond} (hi : nwL[i]? = some w) : va_Nw w U := h.1 w (List.mem_of_getElem? hi)
theorem NW.moved {s U : State} (hW : s.WarmedH U.vm) (h : NW s) : NW U := by
  refine ⟨?_, va_AO.moved hW.alike h.2⟩
  have k := h.1
  unfold nwL at k ⊢
  simp only [List.forall_mem_cons] at k ⊢
  obtain ⟨a0, a1, a2, a3, a4, a5, a6, a7, a8, a9, a10, a11, a12, a13, a14, a15, a16, a17, b0, b1, b2, b3, b4, b5, -⟩ := k
  exact ⟨va_Nw.warmM hW a0, va_Nw.warmM hW a1, va_Nw.warmM hW a2, va_Nw.warmM hW a3, va_Nw.warmM hW a4, va_Nw.warmM hW a5, va_Nw.warmM hW a6, va_Nw.warmM hW a7, va_Nw.warmM hW a8, va_Nw.warmM hW a9, va_Nw.warmM hW a10, va_Nw.warmM hW a11, va_Nw.warmM hW a12, va_Nw.warmM hW a13, va_Nw.warmM hW a14, va_Nw.warmM hW a15, va_Nw.warmM hW a16, va_Nw.warmM hW a17, va_Nw.warmF hW b0, va_Nw.warmF hW b1, va_Nw.warmF hW b2, va_Nw.warmF hW b3, va_Nw.warmF hW b4, va_Nw.warmF hW b5, fun _ h => absurd h List.not_mem_nil⟩
theorem NW.same {u U : State} (e : u.vm = U.vm) (h : NW u) : NW U := by
  refine ⟨fun w hw => va_Nw.same ?_ e (h.1 w hw), va_AO.moved (by rw [e]; exact Vm.Alike.refl U.vm) h.2⟩
  unfold nwL at hw
  simp only [List.mem_cons, List.not_mem_nil, or_false] at hw
  rcases hw with rfl | rfl | rfl | rfl | rfl | rfl | rfl | rfl | rfl | rfl | rfl | rfl | rfl | rfl | rfl | rfl | rfl | rfl | rfl | rfl | rfl | rfl | rfl | rfl <;> rfl
/-- a method's start: its world, the tables, the nest's words -/
def gP (g : GT) (ws : va_W) (sz : Nat) (U : State) : Prop := U.heap.size = sz ∧ va_P g.1 vwCl ws U.heap ∧ va_K g.1 vwCl (tyL g) U ∧ va_D (fun _ => True) ws ∧ NW U
/-- a method's end: its world -/
def gB (g : GT) (ws : va_W) (A : Nat → Prop) (t : State) : Prop := va_P g.1 vwCl ws t.heap ∧ va_D A ws
theorem gP_blind {g : GT} {ws : va_W} {sz : Nat} (av : List Value) : FrameBlind (va_Pc av (gP g ws sz)) := fun a U gg mk q => by
  obtain ⟨q0, q1, qP, qK, qD, qN⟩ := q
  exact ⟨q0, q1, qP, va_K.moved (u := U) (U := U.calling gg mk a) (Vm.Alike.refl U.vm) qK, qD, NW.same (u := U) (U := U.calling gg mk a) rfl qN⟩
theorem P_nil {D : va_G} {cl : List vw_C} {H : Heap} : va_P D cl [] H := fun k q h => by simp at h
theorem D_nil {A : Nat → Prop} : va_D A [] := ⟨fun i j p q h => by simp at h, fun k q h => by simp at h⟩
/-- contracts: an int, a long, none; u: what the world behind it depends on -/
abbrev Mi {S : Type} (l : Launch) (y : MethodName) (wsl : List Cond) (rm : Room) (g : GT) (sz : Nat) (av : List Value) (w0 : va_W) (mc ms : Nat) (post : Int32 → S → Prop) (wf : S → va_W) : Prop :=
  Met l y wsl rm (va_Pc av (gP g w0 sz)) (va_Qi post (fun u t => gB g (wf u) (va_A w0 sz) t) (va_A w0 sz)) mc ms (va_A w0 sz)
abbrev Ml {S : Type} (l : Launch) (y : MethodName) (wsl : List Cond) (rm : Room) (g : GT) (sz : Nat) (av : List Value) (w0 : va_W) (mc ms : Nat) (post : Int64 → S → Prop) (wf : S → va_W) : Prop :=
  Met l y wsl rm (va_Pc av (gP g w0 sz)) (va_Ql post (fun u t => gB g (wf u) (va_A w0 sz) t) (va_A w0 sz)) mc ms (va_A w0 sz)
abbrev Mv {S : Type} (l : Launch) (y : MethodName) (wsl : List Cond) (rm : Room) (g : GT) (sz : Nat) (av : List Value) (w0 : va_W) (mc ms : Nat) (post : S → Prop) (wf : S → va_W) : Prop :=
  Met l y wsl rm (va_Pc av (gP g w0 sz)) (va_Qv post (fun u t => gB g (wf u) (va_A w0 sz) t) (va_A w0 sz)) mc ms (va_A w0 sz)
/-- the same with the answer and the world said -/
abbrev Ci (l : Launch) (y : MethodName) (wsl : List Cond) (rm : Room) (g : GT) (sz : Nat) (av : List Value) (w0 : va_W) (v : Int32) (w1 : va_W) : Prop :=
  Mi (S := Unit) l y wsl rm g sz av w0 0 0 (fun r _ => r = v) (fun _ => w1)
abbrev Cl (l : Launch) (y : MethodName) (wsl : List Cond) (rm : Room) (g : GT) (sz : Nat) (av : List Value) (w0 : va_W) (v : Int64) (w1 : va_W) : Prop :=
  Ml (S := Unit) l y wsl rm g sz av w0 0 0 (fun r _ => r = v) (fun _ => w1)
abbrev Cv (l : Launch) (y : MethodName) (wsl : List Cond) (rm : Room) (g : GT) (sz : Nat) (av : List Value) (w0 : va_W) (w1 : va_W) : Prop :=
  Mv (S := Unit) l y wsl rm g sz av w0 0 0 (fun _ => True) (fun _ => w1)
/-- a method without a world -/
abbrev Cp (l : Launch) (y : MethodName) (wsl : List Cond) (rm : Room) (av : List Value) (v : Int32) : Prop :=
  Met l y wsl rm (va_Pc av (fun _ => True)) (vp_Si (fun r => r = v)) 0 0 (fun _ => False)
section GBS
variable {p : Program} {l : Launch} {e : Env} {R : Room} {s : State} {m : MethodId} {args : Array Value} {below : List Frame} {meth : Method} {c : Code} {H : Heap} {locs : List Loc} {cells slots : Nat} {Q : State → Prop}
variable {cc : ByteArray} {pc : Nat} {ls : Array Slot} {rest : List Value} {g : GT} {A : Nat → Prop} {ws : va_W} {H0 : Heap}
theorem gtop {x y : Int32} (h : x = y) (k : W p l e R s m args below meth c H locs cells slots Q (F0 m pc ls (.int y :: rest))) : W p l e R s m args below meth c H locs cells slots Q (F0 m pc ls (.int x :: rest)) := by
  subst h; exact k
theorem gtopl {x y : Int64} (h : x = y) (k : W p l e R s m args below meth c H locs cells slots Q (F0 m pc ls (.long y :: rest))) : W p l e R s m args below meth c H locs cells slots Q (F0 m pc ls (.long x :: rest)) := by
  subst h; exact k
theorem ws_same {w w' : va_W} {q0 : Nat} {a : Nat} {E E' : va_E} (hw : w.set q0 (a, E') = w') (hP : ∀ D cl H, va_at D cl (a, E) H → va_at D cl (a, E') H) {D : va_G} {cl : List vw_C} {H : Heap} (h : va_P D cl (w.set q0 (a, E)) H) : va_P D cl w' H := by
  subst hw
  intro k q hk
  rw [List.getElem?_set] at hk
  have h1 := h k
  rw [List.getElem?_set] at h1
  by_cases e : q0 = k
  · rw [if_pos e] at hk h1
    by_cases b : q0 < w.length
    · rw [if_pos b] at hk h1
      cases hk
      exact hP D cl H (h1 _ rfl)
    · rw [if_neg b] at hk; cases hk
  · rw [if_neg e] at hk h1
    exact h1 q hk
theorem ws_sameD {w w' : va_W} {q0 : Nat} {a : Nat} {E E' : va_E} (hw : w.set q0 (a, E') = w') (h : va_D A (w.set q0 (a, E))) : va_D A w' := by
  subst hw
  have k : ∀ (k : Nat) (q : Nat × va_E), (w.set q0 (a, E'))[k]? = some q → ∃ q', (w.set q0 (a, E))[k]? = some q' ∧ q'.1 = q.1 := by
    intro k q hk
    rw [List.getElem?_set] at hk ⊢
    by_cases e : q0 = k
    · rw [if_pos e] at hk ⊢
      by_cases b : q0 < w.length
      · rw [if_pos b] at hk ⊢
        cases hk
        exact ⟨_, rfl, rfl⟩
      · rw [if_neg b] at hk; cases hk
    · rw [if_neg e] at hk ⊢
      exact ⟨q, hk, rfl⟩
  refine ⟨fun i j x y hx hy hxy => ?_, fun i x hx => ?_⟩
  · obtain ⟨x', hx', ex⟩ := k i x hx
    obtain ⟨y', hy', ey⟩ := k j y hy
    exact h.1 i j x' y' hx' hy' (by rw [ex, ey]; exact hxy)
  · obtain ⟨x', hx', ex⟩ := k i x hx
    rw [← ex]
    exact h.2 i x' hx'
theorem arrV_ext {cA : ClassId} {n : Nat} {z z' : Nat → Value} (h : ∀ j, j < n → z j = z' j) : arrV cA n z = arrV cA n z' := by
  unfold arrV
  congr 1
  apply Array.ext
  · simp
  · intro j h1 h2
    simp only [Array.getElem_ofFn]
    exact h j (by simpa using h1)
theorem at_extI {D : va_G} {cl : List vw_C} {a n : Nat} {cA : ClassId} {f f' : Nat → Int32} (h : ∀ j, j < n → f j = f' j) {H : Heap} (k : va_at D cl (a, .inl (cA, n, .inl f)) H) : va_at D cl (a, .inl (cA, n, .inl f')) H := by
  show H[a]? = some (vp_cell cA (n, .inl f'))
  have k : H[a]? = some (vp_cell cA (n, .inl f)) := k
  rw [k, vp_cell_i, vp_cell_i, arrV_ext (fun j hj => by rw [h j hj])]
theorem at_extJ {D : va_G} {cl : List vw_C} {a n : Nat} {cA : ClassId} {f f' : Nat → Int64} (h : ∀ j, j < n → f j = f' j) {H : Heap} (k : va_at D cl (a, .inl (cA, n, .inr (.inl f))) H) : va_at D cl (a, .inl (cA, n, .inr (.inl f'))) H := by
  show H[a]? = some (vp_cell cA (n, .inr (.inl f')))
  have k : H[a]? = some (vp_cell cA (n, .inr (.inl f))) := k
  rw [k, vp_cell_l, vp_cell_l, arrV_ext (fun j hj => by rw [h j hj])]
/-- a cell's contents under another name -/
theorem r_extI (hP : va_P g.1 vwCl ws H) (hD : va_D A ws) (q0 : Nat) {a n : Nat} {cA : ClassId} {f f' : Nat → Int32} (ha : ws[q0]? = some (a, .inl (cA, n, .inl f))) (h : ∀ j, j < n → f j = f' j) : va_P g.1 vwCl (ws.set q0 (a, .inl (cA, n, .inl f'))) H ∧ va_D A (ws.set q0 (a, .inl (cA, n, .inl f'))) := by
  have e : ws.set q0 (a, .inl (cA, n, .inl f)) = ws := by
    apply List.ext_getElem?
    intro k
    rw [List.getElem?_set]
    by_cases z : q0 = k
    · subst z
      have b : q0 < ws.length := (List.getElem?_eq_some_iff.mp ha).1
      rw [if_pos rfl, if_pos b, ha]
    · rw [if_neg z]
  exact ⟨ws_same (E := .inl (cA, n, .inl f)) rfl (fun D cl H k => at_extI h k) (by rw [e]; exact hP), ws_sameD (E := .inl (cA, n, .inl f)) rfl (by rw [e]; exact hD)⟩
theorem r_iald (hx : p.tables.exec = Jvm.exec) (hb : c.code = cc) (hK : va_K g.1 vwCl (tyL g) s) (hP : va_P g.1 vwCl ws H) (q0 : Nat) {a n : Nat} {f : Nat → Int32} (ha : ws[q0]? = some (aI g a n f)) {i v : Int32} (hin : vp_in i n) (hv : f i.toNatClampNeg = v) (hdg : decode cc pc = .ok (.iaload, 1))
    (kk : W p l e R s m args below meth c H locs cells slots Q (F0 m (pc + 1) ls (.int v :: rest))) : W p l e R s m args below meth c H locs cells slots Q (F0 m pc ls (.int i :: .ref a :: rest)) := by
  subst hv
  exact va_iald hx hb hK hP q0 0 ha rfl hin hdg kk
theorem r_zald (hx : p.tables.exec = Jvm.exec) (hb : c.code = cc) (hK : va_K g.1 vwCl (tyL g) s) (hP : va_P g.1 vwCl ws H) (q0 : Nat) {a n : Nat} {f : Nat → Int32} (ha : ws[q0]? = some (aZ g a n f)) {i v : Int32} (hin : vp_in i n) (hv : f i.toNatClampNeg = v) (hdg : decode cc pc = .ok (.baload, 1))
    (kk : W p l e R s m args below meth c H locs cells slots Q (F0 m (pc + 1) ls (.int v :: rest))) : W p l e R s m args below meth c H locs cells slots Q (F0 m pc ls (.int i :: .ref a :: rest)) := by
  subst hv
  exact va_zald hx hb hK hP q0 2 ha rfl hin hdg kk
theorem r_lald (hx : p.tables.exec = Jvm.exec) (hb : c.code = cc) (hK : va_K g.1 vwCl (tyL g) s) (hP : va_P g.1 vwCl ws H) (q0 : Nat) {a n : Nat} {f : Nat → Int64} (ha : ws[q0]? = some (aJ g a n f)) {i : Int32} {v : Int64} (hin : vp_in i n) (hv : f i.toNatClampNeg = v) (hdg : decode cc pc = .ok (.laload, 1))
    (kk : W p l e R s m args below meth c H locs cells slots Q (F0 m (pc + 1) ls (.long v :: rest))) : W p l e R s m args below meth c H locs cells slots Q (F0 m pc ls (.int i :: .ref a :: rest)) := by
  subst hv
  exact va_lald hx hb hK hP q0 1 ha rfl hin hdg kk
theorem r_iast (hx : p.tables.exec = Jvm.exec) (hb : c.code = cc) (hK : va_K g.1 vwCl (tyL g) s) (hP : va_P g.1 vwCl ws H) (hD : va_D A ws) (hS : va_S A H0 H locs) (q0 : Nat) {a n : Nat} {f f' : Nat → Int32} (ha : ws[q0]? = some (aI g a n f)) {i x : Int32} (hin : vp_in i n) (hf : ∀ j, j < n → upd f i.toNatClampNeg x j = f' j) (hdg : decode cc pc = .ok (.iastore, 1))
    (kk : ∀ (H : Heap) (locs : List Loc), va_P g.1 vwCl (ws.set q0 (aI g a n f')) H → va_D A (ws.set q0 (aI g a n f')) → va_S A H0 H locs → W p l e R s m args below meth c H locs cells slots Q (F0 m (pc + 1) ls rest)) : W p l e R s m args below meth c H locs cells slots Q (F0 m pc ls (.int x :: .int i :: .ref a :: rest)) :=
  va_iast hx hb hK hP hD hS q0 0 ha rfl hin hdg (fun H1 locs1 hP1 hD1 hS1 => kk H1 locs1 (ws_same rfl (fun D cl H k => at_extI hf k) hP1) (ws_sameD rfl hD1) hS1)
theorem r_zast (hx : p.tables.exec = Jvm.exec) (hb : c.code = cc) (hK : va_K g.1 vwCl (tyL g) s) (hP : va_P g.1 vwCl ws H) (hD : va_D A ws) (hS : va_S A H0 H locs) (q0 : Nat) {a n : Nat} {f f' : Nat → Int32} (ha : ws[q0]? = some (aZ g a n f)) {i x : Int32} (hin : vp_in i n) (hf : ∀ j, j < n → upd f i.toNatClampNeg (vp_nar .boolean x) j = f' j) (hdg : decode cc pc = .ok (.bastore, 1))
    (kk : ∀ (H : Heap) (locs : List Loc), va_P g.1 vwCl (ws.set q0 (aZ g a n f')) H → va_D A (ws.set q0 (aZ g a n f')) → va_S A H0 H locs → W p l e R s m args below meth c H locs cells slots Q (F0 m (pc + 1) ls rest)) : W p l e R s m args below meth c H locs cells slots Q (F0 m pc ls (.int x :: .int i :: .ref a :: rest)) :=
  va_zast hx hb hK hP hD hS q0 2 ha rfl hin hdg (fun H1 locs1 hP1 hD1 hS1 => kk H1 locs1 (ws_same rfl (fun D cl H k => at_extI hf k) hP1) (ws_sameD rfl hD1) hS1)
theorem r_last (hx : p.tables.exec = Jvm.exec) (hb : c.code = cc) (hK : va_K g.1 vwCl (tyL g) s) (hP : va_P g.1 vwCl ws H) (hD : va_D A ws) (hS : va_S A H0 H locs) (q0 : Nat) {a n : Nat} {f f' : Nat → Int64} (ha : ws[q0]? = some (aJ g a n f)) {i : Int32} {x : Int64} (hin : vp_in i n) (hf : ∀ j, j < n → vp_updL f i.toNatClampNeg x j = f' j) (hdg : decode cc pc = .ok (.lastore, 1))
    (kk : ∀ (H : Heap) (locs : List Loc), va_P g.1 vwCl (ws.set q0 (aJ g a n f')) H → va_D A (ws.set q0 (aJ g a n f')) → va_S A H0 H locs → W p l e R s m args below meth c H locs cells slots Q (F0 m (pc + 1) ls rest)) : W p l e R s m args below meth c H locs cells slots Q (F0 m pc ls (.long x :: .int i :: .ref a :: rest)) :=
  va_last hx hb hK hP hD hS q0 1 ha rfl hin hdg (fun H1 locs1 hP1 hD1 hS1 => kk H1 locs1 (ws_same rfl (fun D cl H k => at_extJ hf k) hP1) (ws_sameD rfl hD1) hS1)
/-- behind a run of an int answer -/
theorem gck_i {S : Type} {post : Int32 → S → Prop} {wf : S → va_W} {wc : va_W} {a : Array Value} {st0 : List Value} {mc ms : Nat}
    (hr : va_Run p l e R s m args below meth c H locs cells slots mc ms (F0 m pc ls st0) rest (va_Qi post (fun u t => gB g (wf u) (va_A wc H.size) t) (va_A wc H.size) a) (va_A wc H.size))
    (hP : va_P g.1 vwCl ws H) (hD : va_D A ws) (hS : va_S A H0 H locs) (hA : ∀ q, H0.size ≤ q → A q) (isC isR : List Nat) (hC : isC.map (fun i => ws[i]?) = wc.map some) (hn : va_nd isR = true) (hdis : ∀ i ∈ isR, i ∉ isC) (hR : isR.map (fun i => ws[i]?) = (isR.filterMap (fun i => ws[i]?)).map some)
    (kk : ∀ (r : Int32) (u : S) (H1 : Heap) (locs1 : List Loc), post r u → va_P g.1 vwCl (isR.filterMap (fun i => ws[i]?) ++ wf u) H1 → va_D A (isR.filterMap (fun i => ws[i]?) ++ wf u) → va_S A H0 H1 locs1 → W p l e R s m args below meth c H1 locs1 (cells + mc) (slots + ms) Q (F0 m (pc + 3) ls (.int r :: rest))) : W p l e R s m args below meth c H locs cells slots Q (F0 m pc ls st0) := by
  have hF := va_free hD hS hA isC hC
  refine va_calli hr hS (fun q _ h => hF q h) hF (fun r u t H1 locs1 ht hvm hw hB hz hk hS1 => ?_)
  obtain ⟨hP1, hD1⟩ := hB
  rw [ht] at hP1
  obtain ⟨hP2, hD2⟩ := va_join hP hD isC isR hC hR hn hdis hk hF hP1 hD1
  exact kk r u H1 locs1 hw hP2 hD2 hS1
theorem gck_l {S : Type} {post : Int64 → S → Prop} {wf : S → va_W} {wc : va_W} {a : Array Value} {st0 : List Value} {mc ms : Nat}
    (hr : va_Run p l e R s m args below meth c H locs cells slots mc ms (F0 m pc ls st0) rest (va_Ql post (fun u t => gB g (wf u) (va_A wc H.size) t) (va_A wc H.size) a) (va_A wc H.size))
    (hP : va_P g.1 vwCl ws H) (hD : va_D A ws) (hS : va_S A H0 H locs) (hA : ∀ q, H0.size ≤ q → A q) (isC isR : List Nat) (hC : isC.map (fun i => ws[i]?) = wc.map some) (hn : va_nd isR = true) (hdis : ∀ i ∈ isR, i ∉ isC) (hR : isR.map (fun i => ws[i]?) = (isR.filterMap (fun i => ws[i]?)).map some)
    (kk : ∀ (r : Int64) (u : S) (H1 : Heap) (locs1 : List Loc), post r u → va_P g.1 vwCl (isR.filterMap (fun i => ws[i]?) ++ wf u) H1 → va_D A (isR.filterMap (fun i => ws[i]?) ++ wf u) → va_S A H0 H1 locs1 → W p l e R s m args below meth c H1 locs1 (cells + mc) (slots + ms) Q (F0 m (pc + 3) ls (.long r :: rest))) : W p l e R s m args below meth c H locs cells slots Q (F0 m pc ls st0) := by
  have hF := va_free hD hS hA isC hC
  refine va_calll hr hS (fun q _ h => hF q h) hF (fun r u t H1 locs1 ht hvm hw hB hz hk hS1 => ?_)
  obtain ⟨hP1, hD1⟩ := hB
  rw [ht] at hP1
  obtain ⟨hP2, hD2⟩ := va_join hP hD isC isR hC hR hn hdis hk hF hP1 hD1
  exact kk r u H1 locs1 hw hP2 hD2 hS1
theorem gck_v {S : Type} {post : S → Prop} {wf : S → va_W} {wc : va_W} {a : Array Value} {st0 : List Value} {mc ms : Nat}
    (hr : va_Run p l e R s m args below meth c H locs cells slots mc ms (F0 m pc ls st0) rest (va_Qv post (fun u t => gB g (wf u) (va_A wc H.size) t) (va_A wc H.size) a) (va_A wc H.size))
    (hP : va_P g.1 vwCl ws H) (hD : va_D A ws) (hS : va_S A H0 H locs) (hA : ∀ q, H0.size ≤ q → A q) (isC isR : List Nat) (hC : isC.map (fun i => ws[i]?) = wc.map some) (hn : va_nd isR = true) (hdis : ∀ i ∈ isR, i ∉ isC) (hR : isR.map (fun i => ws[i]?) = (isR.filterMap (fun i => ws[i]?)).map some)
    (kk : ∀ (u : S) (H1 : Heap) (locs1 : List Loc), post u → va_P g.1 vwCl (isR.filterMap (fun i => ws[i]?) ++ wf u) H1 → va_D A (isR.filterMap (fun i => ws[i]?) ++ wf u) → va_S A H0 H1 locs1 → W p l e R s m args below meth c H1 locs1 (cells + mc) (slots + ms) Q (F0 m (pc + 3) ls rest)) : W p l e R s m args below meth c H locs cells slots Q (F0 m pc ls st0) := by
  have hF := va_free hD hS hA isC hC
  refine va_callv hr hS (fun q _ h => hF q h) hF (fun u t H1 locs1 ht hvm hw hB hz hk hS1 => ?_)
  obtain ⟨hP1, hD1⟩ := hB
  rw [ht] at hP1
  obtain ⟨hP2, hD2⟩ := va_join hP hD isC isR hC hR hn hdis hk hF hP1 hD1
  exact kk u H1 locs1 hw hP2 hD2 hS1
/-- the start of a callee's world out of the caller's -/
theorem gpre {wc : va_W} (hP : va_P g.1 vwCl ws H) (hD : va_D A ws) (hK : va_K g.1 vwCl (tyL g) s) (hN : NW s) (isC : List Nat) (hnC : va_nd isC = true) (hC : isC.map (fun i => ws[i]?) = wc.map some) (av : List Value) :
    ∀ U : State, U.heap = H → s.WarmedH U.vm → va_Pc av (gP g wc H.size) av.toArray U := by
  intro U hU hW
  have hf : isC.filterMap (fun i => ws[i]?) = wc := by
    have h2 : (isC.map (fun i => ws[i]?)).filterMap id = (wc.map some).filterMap id := by rw [hC]
    simpa [List.filterMap_map, Function.comp_def] using h2
  refine ⟨rfl, by rw [hU], by rw [hU]; exact hP.sub isC hf, va_K.moved hW.alike hK, (hD.sub isC hnC hC).weaken (fun _ _ _ _ => trivial), hN.moved hW⟩
end GBS

/-! one row a call; a contract's start; its ends -/
section GCS
variable {p : Program} {l : Launch} {e : Env} {R : Room} {s : State} {m : MethodId} {args : Array Value} {below : List Frame} {meth : Method} {c : Code} {H : Heap} {locs : List Loc} {cells slots : Nat} {Q : State → Prop}
variable {cc : ByteArray} {pc : Nat} {ls : Array Slot} {rest : List Value} {g : GT} {A : Nat → Prop} {ws : va_W} {H0 : Heap}
variable {S : Type} {y : MethodName} {bytes : ByteArray} {maxL nL mc ms n index ci : Nat} {ret : Option FieldType} {wsl wsl' Ts : List Cond} {rm : Room} {own host : String} {b : Addr} {As st0 fs : List Value} {wc : va_W} {wf : S → va_W} {q : vw_C}
/-- what is known of a method's name -/
abbrev YOk (y : MethodName) (n : Nat) : Prop := y.cls ≠ "java/lang/invoke/MethodHandle" ∧ y.cls ≠ "java/lang/invoke/VarHandle" ∧ (parseMethodDescriptor y.desc).map (fun d => d.parameters.length) = some n
theorem gcV_i {post : Int32 → S → Prop} (F : CallFix p m c cc nL s args Ts own) (hK : va_K g.1 vwCl (tyL g) s) (hN : NW s) (hP : va_P g.1 vwCl ws H) (hD : va_D A ws) (hS : va_S A H0 H locs) (hA : ∀ q, H0.size ≤ q → A q)
    (M : Mi l y wsl rm g H.size (.ref b :: As) wc mc ms post wf) (G : GoodIn Ts (wsV own index q.1 y wsl)) (hy : YOk y n) (hyc : y.cls = q.1) (hw : wsl = .code y bytes maxL ret :: wsl') (hrc : rm.cells = mc) (hrs : rm.slots = ms) (hR : rm.frames + 1 ≤ R.frames ∧ 8 + (maxL + 11) + rm.locals ≤ R.locals) (isC isR : List Nat) (hnC : va_nd isC = true) (hC : isC.map (fun i => ws[i]?) = wc.map some) (hnR : va_nd isR = true) (hdis : ∀ i ∈ isR, i ∉ isC) (hRr : isR.map (fun i => ws[i]?) = (isR.filterMap (fun i => ws[i]?)).map some) (hq : vwCl[ci]? = some q) (he : wc[0]? = some (b, .inr (ci, fs)))
    (hst : st0 = As.reverse ++ .ref b :: rest) (hAn : As.length = n) (hls : ls.size = nL) (hrm : (rest.map fun v => v.category).sum ≤ 8) (hdg : decode cc pc = .ok (.invokevirtual index, 3)) (hf : cells + mc ≤ R.cells ∧ slots + ms ≤ R.slots)
    (kk : ∀ (r : Int32) (u : S) (H1 : Heap) (locs1 : List Loc), post r u → va_P g.1 vwCl (isR.filterMap (fun i => ws[i]?) ++ wf u) H1 → va_D A (isR.filterMap (fun i => ws[i]?) ++ wf u) → va_S A H0 H1 locs1 → W p l e R s m args below meth c H1 locs1 (cells + mc) (slots + ms) Q (F0 m (pc + 3) ls (.int r :: rest))) : W p l e R s m args below meth c H locs cells slots Q (F0 m pc ls st0) := by
  have pre := gpre hP hD hK hN isC hnC hC (.ref b :: As)
  have hPw : va_P g.1 vwCl wc H := by
    have hf : isC.filterMap (fun i => ws[i]?) = wc := by
      have h2 : (isC.map (fun i => ws[i]?)).filterMap id = (wc.map some).filterMap id := by rw [hC]
      simpa [List.filterMap_map, Function.comp_def] using h2
    exact hP.sub isC hf
  exact gck_i (va_runV F M (cwV n F.2.2.2.2 G hw hrc hrs ⟨hyc, hy⟩ hR) ⟨gP_blind _, va_recv hK hPw hq he, pre⟩ rfl hAn hls hst (lv_room hrm) hdg hf) hP hD hS hA isC isR hC hnR hdis hRr kk
theorem gcS_i {post : Int32 → S → Prop} (F : CallFix p m c cc nL s args Ts own) (hK : va_K g.1 vwCl (tyL g) s) (hN : NW s) (hP : va_P g.1 vwCl ws H) (hD : va_D A ws) (hS : va_S A H0 H locs) (hA : ∀ q, H0.size ≤ q → A q)
    (M : Mi l y wsl rm g H.size As wc mc ms post wf) (G : GoodIn Ts (va_wsS own index y wsl)) (hy : YOk y n) (hw : wsl = .code y bytes maxL ret :: wsl') (hrc : rm.cells = mc) (hrs : rm.slots = ms) (hR : rm.frames + 1 ≤ R.frames ∧ 8 + (maxL + 11) + rm.locals ≤ R.locals) (isC isR : List Nat) (hnC : va_nd isC = true) (hC : isC.map (fun i => ws[i]?) = wc.map some) (hnR : va_nd isR = true) (hdis : ∀ i ∈ isR, i ∉ isC) (hRr : isR.map (fun i => ws[i]?) = (isR.filterMap (fun i => ws[i]?)).map some)
    (hst : st0 = As.reverse ++ rest) (hAn : As.length = n) (hls : ls.size = nL) (hrm : (rest.map fun v => v.category).sum ≤ 8) (hdg : decode cc pc = .ok (.invokestatic index, 3)) (hf : cells + mc ≤ R.cells ∧ slots + ms ≤ R.slots)
    (kk : ∀ (r : Int32) (u : S) (H1 : Heap) (locs1 : List Loc), post r u → va_P g.1 vwCl (isR.filterMap (fun i => ws[i]?) ++ wf u) H1 → va_D A (isR.filterMap (fun i => ws[i]?) ++ wf u) → va_S A H0 H1 locs1 → W p l e R s m args below meth c H1 locs1 (cells + mc) (slots + ms) Q (F0 m (pc + 3) ls (.int r :: rest))) : W p l e R s m args below meth c H locs cells slots Q (F0 m pc ls st0) := by
  have pre := gpre hP hD hK hN isC hnC hC As
  exact gck_i (va_runS F M (va_cwS n F.2.2.2.2 G hw hrc hrs hy hR) ⟨gP_blind _, pre⟩ rfl hAn hls hst (lv_room hrm) hdg hf) hP hD hS hA isC isR hC hnR hdis hRr kk
theorem gcV_l {post : Int64 → S → Prop} (F : CallFix p m c cc nL s args Ts own) (hK : va_K g.1 vwCl (tyL g) s) (hN : NW s) (hP : va_P g.1 vwCl ws H) (hD : va_D A ws) (hS : va_S A H0 H locs) (hA : ∀ q, H0.size ≤ q → A q)
    (M : Ml l y wsl rm g H.size (.ref b :: As) wc mc ms post wf) (G : GoodIn Ts (wsV own index q.1 y wsl)) (hy : YOk y n) (hyc : y.cls = q.1) (hw : wsl = .code y bytes maxL ret :: wsl') (hrc : rm.cells = mc) (hrs : rm.slots = ms) (hR : rm.frames + 1 ≤ R.frames ∧ 8 + (maxL + 11) + rm.locals ≤ R.locals) (isC isR : List Nat) (hnC : va_nd isC = true) (hC : isC.map (fun i => ws[i]?) = wc.map some) (hnR : va_nd isR = true) (hdis : ∀ i ∈ isR, i ∉ isC) (hRr : isR.map (fun i => ws[i]?) = (isR.filterMap (fun i => ws[i]?)).map some) (hq : vwCl[ci]? = some q) (he : wc[0]? = some (b, .inr (ci, fs)))
    (hst : st0 = As.reverse ++ .ref b :: rest) (hAn : As.length = n) (hls : ls.size = nL) (hrm : (rest.map fun v => v.category).sum ≤ 8) (hdg : decode cc pc = .ok (.invokevirtual index, 3)) (hf : cells + mc ≤ R.cells ∧ slots + ms ≤ R.slots)
    (kk : ∀ (r : Int64) (u : S) (H1 : Heap) (locs1 : List Loc), post r u → va_P g.1 vwCl (isR.filterMap (fun i => ws[i]?) ++ wf u) H1 → va_D A (isR.filterMap (fun i => ws[i]?) ++ wf u) → va_S A H0 H1 locs1 → W p l e R s m args below meth c H1 locs1 (cells + mc) (slots + ms) Q (F0 m (pc + 3) ls (.long r :: rest))) : W p l e R s m args below meth c H locs cells slots Q (F0 m pc ls st0) := by
  have pre := gpre hP hD hK hN isC hnC hC (.ref b :: As)
  have hPw : va_P g.1 vwCl wc H := by
    have hf : isC.filterMap (fun i => ws[i]?) = wc := by
      have h2 : (isC.map (fun i => ws[i]?)).filterMap id = (wc.map some).filterMap id := by rw [hC]
      simpa [List.filterMap_map, Function.comp_def] using h2
    exact hP.sub isC hf
  exact gck_l (va_runV F M (cwV n F.2.2.2.2 G hw hrc hrs ⟨hyc, hy⟩ hR) ⟨gP_blind _, va_recv hK hPw hq he, pre⟩ rfl hAn hls hst (lv_room hrm) hdg hf) hP hD hS hA isC isR hC hnR hdis hRr kk
theorem gcS_l {post : Int64 → S → Prop} (F : CallFix p m c cc nL s args Ts own) (hK : va_K g.1 vwCl (tyL g) s) (hN : NW s) (hP : va_P g.1 vwCl ws H) (hD : va_D A ws) (hS : va_S A H0 H locs) (hA : ∀ q, H0.size ≤ q → A q)
    (M : Ml l y wsl rm g H.size As wc mc ms post wf) (G : GoodIn Ts (va_wsS own index y wsl)) (hy : YOk y n) (hw : wsl = .code y bytes maxL ret :: wsl') (hrc : rm.cells = mc) (hrs : rm.slots = ms) (hR : rm.frames + 1 ≤ R.frames ∧ 8 + (maxL + 11) + rm.locals ≤ R.locals) (isC isR : List Nat) (hnC : va_nd isC = true) (hC : isC.map (fun i => ws[i]?) = wc.map some) (hnR : va_nd isR = true) (hdis : ∀ i ∈ isR, i ∉ isC) (hRr : isR.map (fun i => ws[i]?) = (isR.filterMap (fun i => ws[i]?)).map some)
    (hst : st0 = As.reverse ++ rest) (hAn : As.length = n) (hls : ls.size = nL) (hrm : (rest.map fun v => v.category).sum ≤ 8) (hdg : decode cc pc = .ok (.invokestatic index, 3)) (hf : cells + mc ≤ R.cells ∧ slots + ms ≤ R.slots)
    (kk : ∀ (r : Int64) (u : S) (H1 : Heap) (locs1 : List Loc), post r u → va_P g.1 vwCl (isR.filterMap (fun i => ws[i]?) ++ wf u) H1 → va_D A (isR.filterMap (fun i => ws[i]?) ++ wf u) → va_S A H0 H1 locs1 → W p l e R s m args below meth c H1 locs1 (cells + mc) (slots + ms) Q (F0 m (pc + 3) ls (.long r :: rest))) : W p l e R s m args below meth c H locs cells slots Q (F0 m pc ls st0) := by
  have pre := gpre hP hD hK hN isC hnC hC As
  exact gck_l (va_runS F M (va_cwS n F.2.2.2.2 G hw hrc hrs hy hR) ⟨gP_blind _, pre⟩ rfl hAn hls hst (lv_room hrm) hdg hf) hP hD hS hA isC isR hC hnR hdis hRr kk
theorem gcV_v {post : S → Prop} (F : CallFix p m c cc nL s args Ts own) (hK : va_K g.1 vwCl (tyL g) s) (hN : NW s) (hP : va_P g.1 vwCl ws H) (hD : va_D A ws) (hS : va_S A H0 H locs) (hA : ∀ q, H0.size ≤ q → A q)
    (M : Mv l y wsl rm g H.size (.ref b :: As) wc mc ms post wf) (G : GoodIn Ts (wsV own index q.1 y wsl)) (hy : YOk y n) (hyc : y.cls = q.1) (hw : wsl = .code y bytes maxL ret :: wsl') (hrc : rm.cells = mc) (hrs : rm.slots = ms) (hR : rm.frames + 1 ≤ R.frames ∧ 8 + (maxL + 11) + rm.locals ≤ R.locals) (isC isR : List Nat) (hnC : va_nd isC = true) (hC : isC.map (fun i => ws[i]?) = wc.map some) (hnR : va_nd isR = true) (hdis : ∀ i ∈ isR, i ∉ isC) (hRr : isR.map (fun i => ws[i]?) = (isR.filterMap (fun i => ws[i]?)).map some) (hq : vwCl[ci]? = some q) (he : wc[0]? = some (b, .inr (ci, fs)))
    (hst : st0 = As.reverse ++ .ref b :: rest) (hAn : As.length = n) (hls : ls.size = nL) (hrm : (rest.map fun v => v.category).sum ≤ 8) (hdg : decode cc pc = .ok (.invokevirtual index, 3)) (hf : cells + mc ≤ R.cells ∧ slots + ms ≤ R.slots)
    (kk : ∀ (u : S) (H1 : Heap) (locs1 : List Loc), post u → va_P g.1 vwCl (isR.filterMap (fun i => ws[i]?) ++ wf u) H1 → va_D A (isR.filterMap (fun i => ws[i]?) ++ wf u) → va_S A H0 H1 locs1 → W p l e R s m args below meth c H1 locs1 (cells + mc) (slots + ms) Q (F0 m (pc + 3) ls rest)) : W p l e R s m args below meth c H locs cells slots Q (F0 m pc ls st0) := by
  have pre := gpre hP hD hK hN isC hnC hC (.ref b :: As)
  have hPw : va_P g.1 vwCl wc H := by
    have hf : isC.filterMap (fun i => ws[i]?) = wc := by
      have h2 : (isC.map (fun i => ws[i]?)).filterMap id = (wc.map some).filterMap id := by rw [hC]
      simpa [List.filterMap_map, Function.comp_def] using h2
    exact hP.sub isC hf
  exact gck_v (va_runV F M (cwV n F.2.2.2.2 G hw hrc hrs ⟨hyc, hy⟩ hR) ⟨gP_blind _, va_recv hK hPw hq he, pre⟩ rfl hAn hls hst (lv_room hrm) hdg hf) hP hD hS hA isC isR hC hnR hdis hRr kk
theorem gcS_v {post : S → Prop} (F : CallFix p m c cc nL s args Ts own) (hK : va_K g.1 vwCl (tyL g) s) (hN : NW s) (hP : va_P g.1 vwCl ws H) (hD : va_D A ws) (hS : va_S A H0 H locs) (hA : ∀ q, H0.size ≤ q → A q)
    (M : Mv l y wsl rm g H.size As wc mc ms post wf) (G : GoodIn Ts (va_wsS own index y wsl)) (hy : YOk y n) (hw : wsl = .code y bytes maxL ret :: wsl') (hrc : rm.cells = mc) (hrs : rm.slots = ms) (hR : rm.frames + 1 ≤ R.frames ∧ 8 + (maxL + 11) + rm.locals ≤ R.locals) (isC isR : List Nat) (hnC : va_nd isC = true) (hC : isC.map (fun i => ws[i]?) = wc.map some) (hnR : va_nd isR = true) (hdis : ∀ i ∈ isR, i ∉ isC) (hRr : isR.map (fun i => ws[i]?) = (isR.filterMap (fun i => ws[i]?)).map some)
    (hst : st0 = As.reverse ++ rest) (hAn : As.length = n) (hls : ls.size = nL) (hrm : (rest.map fun v => v.category).sum ≤ 8) (hdg : decode cc pc = .ok (.invokestatic index, 3)) (hf : cells + mc ≤ R.cells ∧ slots + ms ≤ R.slots)
    (kk : ∀ (u : S) (H1 : Heap) (locs1 : List Loc), post u → va_P g.1 vwCl (isR.filterMap (fun i => ws[i]?) ++ wf u) H1 → va_D A (isR.filterMap (fun i => ws[i]?) ++ wf u) → va_S A H0 H1 locs1 → W p l e R s m args below meth c H1 locs1 (cells + mc) (slots + ms) Q (F0 m (pc + 3) ls rest)) : W p l e R s m args below meth c H locs cells slots Q (F0 m pc ls st0) := by
  have pre := gpre hP hD hK hN isC hnC hC As
  exact gck_v (va_runS F M (va_cwS n F.2.2.2.2 G hw hrc hrs hy hR) ⟨gP_blind _, pre⟩ rfl hAn hls hst (lv_room hrm) hdg hf) hP hD hS hA isC isR hC hnR hdis hRr kk
theorem gcI_v {post : S → Prop} (F : CallFix p m c cc nL s args Ts own) (hK : va_K g.1 vwCl (tyL g) s) (hN : NW s) (hP : va_P g.1 vwCl ws H) (hD : va_D A ws) (hS : va_S A H0 H locs) (hA : ∀ q, H0.size ≤ q → A q)
    (M : Mv l y wsl rm g H.size (.ref b :: As) wc mc ms post wf) (G : GoodIn Ts wsl) (hy : YOk y n) (hy1 : y.name = "<init>") (hini : (Cond.initialized y.cls).before args s = true) (hl : (Cond.methodLink own index y).before args s = true) (hin : (Cond.instanceMethod y).before args s = true) (hw : wsl = .code y bytes maxL none :: wsl') (hrc : rm.cells = mc) (hrs : rm.slots = ms) (hR : rm.frames + 1 ≤ R.frames ∧ 8 + (maxL + 11) + rm.locals ≤ R.locals) (isC isR : List Nat) (hnC : va_nd isC = true) (hC : isC.map (fun i => ws[i]?) = wc.map some) (hnR : va_nd isR = true) (hdis : ∀ i ∈ isR, i ∉ isC) (hRr : isR.map (fun i => ws[i]?) = (isR.filterMap (fun i => ws[i]?)).map some)
    (hst : st0 = As.reverse ++ .ref b :: rest) (hAn : As.length = n) (hls : ls.size = nL) (hrm : (rest.map fun v => v.category).sum ≤ 8) (hdg : decode cc pc = .ok (.invokespecial index, 3)) (hf : cells + mc ≤ R.cells ∧ slots + ms ≤ R.slots)
    (kk : ∀ (u : S) (H1 : Heap) (locs1 : List Loc), post u → va_P g.1 vwCl (isR.filterMap (fun i => ws[i]?) ++ wf u) H1 → va_D A (isR.filterMap (fun i => ws[i]?) ++ wf u) → va_S A H0 H1 locs1 → W p l e R s m args below meth c H1 locs1 (cells + mc) (slots + ms) Q (F0 m (pc + 3) ls rest)) : W p l e R s m args below meth c H locs cells slots Q (F0 m pc ls st0) := by
  have pre := gpre hP hD hK hN isC hnC hC (.ref b :: As)
  exact gck_v (va_runI F M (cwI n F.2.2.2.2 G hw hrc hrs hini hl hin hy1 hy hR) ⟨gP_blind _, pre⟩ rfl hAn hls hst (lv_room hrm) hdg hf) hP hD hS hA isC isR hC hnR hdis hRr kk
theorem gcIN_v {post : S → Prop} (F : CallFix p m c cc nL s args Ts own) (hK : va_K g.1 vwCl (tyL g) s) (hN : NW s) (hP : va_P g.1 vwCl ws H) (hD : va_D A ws) (hS : va_S A H0 H locs) (hA : ∀ q, H0.size ≤ q → A q)
    (M : Mv l y wsl rm g H.size (.ref b :: As) wc mc ms post wf) (G : GoodIn Ts wsl) (hy : YOk y n) (hy1 : y.name = "<init>") (hini : (Cond.initialized y.cls).before args s = true) (hl : va_Nw (.methodLinkNest own index y host) s) (hin : (Cond.instanceMethod y).before args s = true) (hw : wsl = .code y bytes maxL none :: wsl') (hrc : rm.cells = mc) (hrs : rm.slots = ms) (hR : rm.frames + 1 ≤ R.frames ∧ 8 + (maxL + 11) + rm.locals ≤ R.locals) (isC isR : List Nat) (hnC : va_nd isC = true) (hC : isC.map (fun i => ws[i]?) = wc.map some) (hnR : va_nd isR = true) (hdis : ∀ i ∈ isR, i ∉ isC) (hRr : isR.map (fun i => ws[i]?) = (isR.filterMap (fun i => ws[i]?)).map some)
    (hst : st0 = As.reverse ++ .ref b :: rest) (hAn : As.length = n) (hls : ls.size = nL) (hrm : (rest.map fun v => v.category).sum ≤ 8) (hdg : decode cc pc = .ok (.invokespecial index, 3)) (hf : cells + mc ≤ R.cells ∧ slots + ms ≤ R.slots)
    (kk : ∀ (u : S) (H1 : Heap) (locs1 : List Loc), post u → va_P g.1 vwCl (isR.filterMap (fun i => ws[i]?) ++ wf u) H1 → va_D A (isR.filterMap (fun i => ws[i]?) ++ wf u) → va_S A H0 H1 locs1 → W p l e R s m args below meth c H1 locs1 (cells + mc) (slots + ms) Q (F0 m (pc + 3) ls rest)) : W p l e R s m args below meth c H locs cells slots Q (F0 m pc ls st0) := by
  have pre := gpre hP hD hK hN isC hnC hC (.ref b :: As)
  exact gck_v (va_runIN F M ⟨va_cnB n F.2.2.2.2 G hw hrc hrs hl hini hy hR, hy1, hin⟩ ⟨gP_blind _, pre⟩ rfl hAn hls hst (lv_room hrm) hdg hf) hP hD hS hA isC isR hC hnR hdis hRr kk
theorem gp_blind (av : List Value) : FrameBlind (va_Pc av (fun _ => True)) := fun _ _ _ _ q => ⟨q.1, trivial⟩
theorem gcP {v : Int32} (F : CallFix p m c cc nL s args Ts own) (M : Cp l y wsl rm As v) (G : GoodIn Ts (va_wsS own index y wsl)) (hy : YOk y n) (hw : wsl = .code y bytes maxL ret :: wsl') (hrc : rm.cells = 0) (hrs : rm.slots = 0) (hR : rm.frames + 1 ≤ R.frames ∧ 8 + (maxL + 11) + rm.locals ≤ R.locals)
    (hst : st0 = As.reverse ++ rest) (hAn : As.length = n) (hls : ls.size = nL) (hrm : (rest.map fun v => v.category).sum ≤ 8) (hdg : decode cc pc = .ok (.invokestatic index, 3)) (hf : cells + 0 ≤ R.cells ∧ slots + 0 ≤ R.slots)
    (kk : W p l e R s m args below meth c H locs cells slots Q (F0 m (pc + 3) ls (.int v :: rest))) : W p l e R s m args below meth c H locs cells slots Q (F0 m pc ls st0) :=
  vp_callSi (va_Run.run (va_runS F M (va_cwS n F.2.2.2.2 G hw hrc hrs hy hR) ⟨gp_blind _, fun _ _ _ => ⟨rfl, trivial⟩⟩ rfl hAn hls hst (lv_room hrm) hdg hf)) (fun r hr => by subst hr; exact kk)
theorem gcPN {v : Int32} (F : CallFix p m c cc nL s args Ts own) (M : Cp l y wsl rm As v) (G : GoodIn Ts wsl) (hy : YOk y n) (hini : (Cond.initialized y.cls).before args s = true) (hl : va_Nw (.methodLinkNest own index y host) s) (hstt : (Cond.static y).before args s = true) (hw : wsl = .code y bytes maxL ret :: wsl') (hrc : rm.cells = 0) (hrs : rm.slots = 0) (hR : rm.frames + 1 ≤ R.frames ∧ 8 + (maxL + 11) + rm.locals ≤ R.locals)
    (hst : st0 = As.reverse ++ rest) (hAn : As.length = n) (hls : ls.size = nL) (hrm : (rest.map fun v => v.category).sum ≤ 8) (hdg : decode cc pc = .ok (.invokestatic index, 3)) (hf : cells + 0 ≤ R.cells ∧ slots + 0 ≤ R.slots)
    (kk : W p l e R s m args below meth c H locs cells slots Q (F0 m (pc + 3) ls (.int v :: rest))) : W p l e R s m args below meth c H locs cells slots Q (F0 m pc ls st0) :=
  vp_callSi (va_Run.run (va_runSN F M ⟨va_cnB n F.2.2.2.2 G hw hrc hrs hl hini hy hR, hstt, trivial⟩ ⟨gp_blind _, fun _ _ _ => ⟨rfl, trivial⟩⟩ rfl hAn hls hst (lv_room hrm) hdg hf)) (fun r hr => by subst hr; exact kk)
end GCS
theorem gMet_i {S : Type} {l : Launch} {y : MethodName} {wsl wsl' : List Cond} {rm : Room} {g : GT} {sz : Nat} {av : List Value} {w0 : va_W} {mc ms : Nat} {post : Int32 → S → Prop} {wf : S → va_W} {cc : ByteArray} {maxL : Nat} {ret : Option FieldType} (hy : plainName y.cls = true) (hw : wsl = .code y cc maxL ret :: wsl') (hn : (lg_sl av).length ≤ maxL)
    (body : ∀ (p : Program) (e : Env) (s : State) (m : MethodId) (args : Array Value) (below : List Frame) (meth : Method) (c : Code) (A : Nat → Prop), p.tables.exec = Jvm.exec → c.code = cc → meth.sig.returnType = ret → CallFix p m c cc maxL s args wsl y.cls → meth.locks = false → meth.name = y.name → va_K g.1 vwCl (tyL g) s → NW s → (∀ q, s.heap.size ≤ q → A q) → ∀ (H : Heap) (locs : List Loc), va_P g.1 vwCl w0 H → va_D A w0 → va_S A s.heap H locs → ∀ ls : Array Slot, lv_has ls maxL (lv_args 0 av) → W p l e (headSpec wsl rm).room s m args below meth c H locs 0 0 (MQ below (va_Qi post (fun u t => gB g (wf u) A t) A) args s mc ms A) (F0 m 0 ls [])) : Mi l y wsl rm g sz av w0 mc ms post wf := by
  refine Met.ofW (cc := cc) (maxL := maxL) (ret := ret) hy hw ?_
  intro p e s m args below meth c s₁ B hml hv
  obtain ⟨rfl, hsz, hP, hK, hD0, hN⟩ := hv
  subst hsz
  have hD := hD0.self (sz := s.heap.size)
  have hl := lv_entry av (n := maxL) hn
  rw [lg_entry_eq]
  exact body p e s m _ below meth c _ B.exec B.bytes B.returns ⟨B.exec, B.bytes, hml, findClass_of_methodNamed B.named, atoms_spec (ws := wsl) B.pre⟩ B.notSynchronized (name_of_methodNamed B.named B.method).1 hK hN (fun q h => Or.inr h) s.heap [] hP hD va_S.rf _ hl
theorem gMet_l {S : Type} {l : Launch} {y : MethodName} {wsl wsl' : List Cond} {rm : Room} {g : GT} {sz : Nat} {av : List Value} {w0 : va_W} {mc ms : Nat} {post : Int64 → S → Prop} {wf : S → va_W} {cc : ByteArray} {maxL : Nat} {ret : Option FieldType} (hy : plainName y.cls = true) (hw : wsl = .code y cc maxL ret :: wsl') (hn : (lg_sl av).length ≤ maxL)
    (body : ∀ (p : Program) (e : Env) (s : State) (m : MethodId) (args : Array Value) (below : List Frame) (meth : Method) (c : Code) (A : Nat → Prop), p.tables.exec = Jvm.exec → c.code = cc → meth.sig.returnType = ret → CallFix p m c cc maxL s args wsl y.cls → meth.locks = false → meth.name = y.name → va_K g.1 vwCl (tyL g) s → NW s → (∀ q, s.heap.size ≤ q → A q) → ∀ (H : Heap) (locs : List Loc), va_P g.1 vwCl w0 H → va_D A w0 → va_S A s.heap H locs → ∀ ls : Array Slot, lv_has ls maxL (lv_args 0 av) → W p l e (headSpec wsl rm).room s m args below meth c H locs 0 0 (MQ below (va_Ql post (fun u t => gB g (wf u) A t) A) args s mc ms A) (F0 m 0 ls [])) : Ml l y wsl rm g sz av w0 mc ms post wf := by
  refine Met.ofW (cc := cc) (maxL := maxL) (ret := ret) hy hw ?_
  intro p e s m args below meth c s₁ B hml hv
  obtain ⟨rfl, hsz, hP, hK, hD0, hN⟩ := hv
  subst hsz
  have hD := hD0.self (sz := s.heap.size)
  have hl := lv_entry av (n := maxL) hn
  rw [lg_entry_eq]
  exact body p e s m _ below meth c _ B.exec B.bytes B.returns ⟨B.exec, B.bytes, hml, findClass_of_methodNamed B.named, atoms_spec (ws := wsl) B.pre⟩ B.notSynchronized (name_of_methodNamed B.named B.method).1 hK hN (fun q h => Or.inr h) s.heap [] hP hD va_S.rf _ hl
theorem gMet_v {S : Type} {l : Launch} {y : MethodName} {wsl wsl' : List Cond} {rm : Room} {g : GT} {sz : Nat} {av : List Value} {w0 : va_W} {mc ms : Nat} {post : S → Prop} {wf : S → va_W} {cc : ByteArray} {maxL : Nat} {ret : Option FieldType} (hy : plainName y.cls = true) (hw : wsl = .code y cc maxL ret :: wsl') (hn : (lg_sl av).length ≤ maxL)
    (body : ∀ (p : Program) (e : Env) (s : State) (m : MethodId) (args : Array Value) (below : List Frame) (meth : Method) (c : Code) (A : Nat → Prop), p.tables.exec = Jvm.exec → c.code = cc → meth.sig.returnType = ret → CallFix p m c cc maxL s args wsl y.cls → meth.locks = false → meth.name = y.name → va_K g.1 vwCl (tyL g) s → NW s → (∀ q, s.heap.size ≤ q → A q) → ∀ (H : Heap) (locs : List Loc), va_P g.1 vwCl w0 H → va_D A w0 → va_S A s.heap H locs → ∀ ls : Array Slot, lv_has ls maxL (lv_args 0 av) → W p l e (headSpec wsl rm).room s m args below meth c H locs 0 0 (MQ below (va_Qv post (fun u t => gB g (wf u) A t) A) args s mc ms A) (F0 m 0 ls [])) : Mv l y wsl rm g sz av w0 mc ms post wf := by
  refine Met.ofW (cc := cc) (maxL := maxL) (ret := ret) hy hw ?_
  intro p e s m args below meth c s₁ B hml hv
  obtain ⟨rfl, hsz, hP, hK, hD0, hN⟩ := hv
  subst hsz
  have hD := hD0.self (sz := s.heap.size)
  have hl := lv_entry av (n := maxL) hn
  rw [lg_entry_eq]
  exact body p e s m _ below meth c _ B.exec B.bytes B.returns ⟨B.exec, B.bytes, hml, findClass_of_methodNamed B.named, atoms_spec (ws := wsl) B.pre⟩ B.notSynchronized (name_of_methodNamed B.named B.method).1 hK hN (fun q h => Or.inr h) s.heap [] hP hD va_S.rf _ hl
theorem gMet_p {l : Launch} {y : MethodName} {wsl wsl' : List Cond} {rm : Room} {av : List Value} {v : Int32} {cc : ByteArray} {maxL : Nat} {ret : Option FieldType} (hy : plainName y.cls = true) (hw : wsl = .code y cc maxL ret :: wsl') (hn : (lg_sl av).length ≤ maxL)
    (body : ∀ (p : Program) (e : Env) (s : State) (m : MethodId) (args : Array Value) (below : List Frame) (meth : Method) (c : Code), p.tables.exec = Jvm.exec → c.code = cc → meth.sig.returnType = ret → CallFix p m c cc maxL s args wsl y.cls → meth.locks = false → ∀ ls : Array Slot, lv_has ls maxL (lv_args 0 av) → W p l e (headSpec wsl rm).room s m args below meth c s.heap [] 0 0 (MQ below (vp_Si (fun r => r = v)) args s 0 0 (fun _ => False)) (F0 m 0 ls [])) : Cp l y wsl rm av v := by
  refine Met.ofW (cc := cc) (maxL := maxL) (ret := ret) hy hw ?_
  intro p e s m args below meth c s₁ B hml hv
  obtain ⟨rfl, -⟩ := hv
  have hl := lv_entry av (n := maxL) hn
  rw [lg_entry_eq]
  exact body p e s m _ below meth c B.exec B.bytes B.returns ⟨B.exec, B.bytes, hml, findClass_of_methodNamed B.named, atoms_spec (ws := wsl) B.pre⟩ B.notSynchronized _ hl
section GRT
variable {p : Program} {l : Launch} {e : Env} {R : Room} {s : State} {m : MethodId} {args : Array Value} {below : List Frame} {meth : Method} {c : Code} {H : Heap} {locs : List Loc} {cells slots : Nat}
variable {cc : ByteArray} {pc : Nat} {ls : Array Slot} {g : GT} {A : Nat → Prop} {ws : va_W} {S : Type} {wf : S → va_W}
theorem r_iret {post : Int32 → S → Prop} {v : Int32} (hx : p.tables.exec = Jvm.exec) (hb : c.code = cc) (hr : meth.sig.returnType = some .int) (hlk : meth.locks = false) (hS : va_S A s.heap H locs) (u : S) (hw : post v u) (hP : va_P g.1 vwCl (wf u) H) (hD : va_D A (wf u)) (hdg : decode cc pc = .ok (.ireturn, 1)) :
    W p l e R s m args below meth c H locs cells slots (MQ below (va_Qi post (fun u t => gB g (wf u) A t) A) args s cells slots A) (F0 m pc ls [.int v]) :=
  W.iret hx hb hr (fun t ht _ => ⟨⟨v, u, rfl, hw, by rw [ht]; exact hP, hD⟩, hS.F ht⟩) hS.2.2 hdg hlk
theorem r_zret {post : Int32 → S → Prop} {v : Int32} (hx : p.tables.exec = Jvm.exec) (hb : c.code = cc) (hr : meth.sig.returnType = some .boolean) (hlk : meth.locks = false) (hS : va_S A s.heap H locs) (u : S) (hn : narrow .boolean (.int v) = .int v) (hw : post v u) (hP : va_P g.1 vwCl (wf u) H) (hD : va_D A (wf u)) (hdg : decode cc pc = .ok (.ireturn, 1)) :
    W p l e R s m args below meth c H locs cells slots (MQ below (va_Qi post (fun u t => gB g (wf u) A t) A) args s cells slots A) (F0 m pc ls [.int v]) :=
  W.zret hx hb hr hn (fun t ht _ => ⟨⟨v, u, rfl, hw, by rw [ht]; exact hP, hD⟩, hS.F ht⟩) hS.2.2 hdg hlk
theorem r_lret {post : Int64 → S → Prop} {v : Int64} (hx : p.tables.exec = Jvm.exec) (hb : c.code = cc) (hr : meth.sig.returnType = some .long) (hlk : meth.locks = false) (hS : va_S A s.heap H locs) (u : S) (hw : post v u) (hP : va_P g.1 vwCl (wf u) H) (hD : va_D A (wf u)) (hdg : decode cc pc = .ok (.lreturn, 1)) :
    W p l e R s m args below meth c H locs cells slots (MQ below (va_Ql post (fun u t => gB g (wf u) A t) A) args s cells slots A) (F0 m pc ls [.long v]) :=
  W.lret hx hb hr (fun t ht _ => ⟨⟨v, u, rfl, hw, by rw [ht]; exact hP, hD⟩, hS.F ht⟩) hS.2.2 hdg hlk
theorem r_vret {post : S → Prop} (hx : p.tables.exec = Jvm.exec) (hb : c.code = cc) (hr : meth.sig.returnType = none) (hlk : meth.locks = false) (hS : va_S A s.heap H locs) (u : S) (hw : post u) (hP : va_P g.1 vwCl (wf u) H) (hD : va_D A (wf u)) (hdg : decode cc pc = .ok (.return_, 1)) :
    W p l e R s m args below meth c H locs cells slots (MQ below (va_Qv post (fun u t => gB g (wf u) A t) A) args s cells slots A) (F0 m pc ls []) :=
  W.vret hx hb hr (fun t ht _ => ⟨⟨u, rfl, hw, by rw [ht]; exact hP, hD⟩, hS.F ht⟩) hS.2.2 hdg hlk
theorem r_pret {v v' : Int32} (hx : p.tables.exec = Jvm.exec) (hb : c.code = cc) (hr : meth.sig.returnType = some .int) (hlk : meth.locks = false) (hw : v = v') (hdg : decode cc pc = .ok (.ireturn, 1)) :
    W p l e R s m args below meth c s.heap [] cells slots (MQ below (vp_Si (fun r => r = v')) args s cells slots (fun _ => False)) (F0 m pc ls [.int v]) :=
  W.iret hx hb hr (fun t ht _ => ⟨v, rfl, hw, ht⟩) (fun _ h => by cases h) hdg hlk
theorem r_pzret {v v' : Int32} (hx : p.tables.exec = Jvm.exec) (hb : c.code = cc) (hr : meth.sig.returnType = some .boolean) (hlk : meth.locks = false) (hn : narrow .boolean (.int v) = .int v) (hw : v = v') (hdg : decode cc pc = .ok (.ireturn, 1)) :
    W p l e R s m args below meth c s.heap [] cells slots (MQ below (vp_Si (fun r => r = v')) args s cells slots (fun _ => False)) (F0 m pc ls [.int v]) :=
  W.zret hx hb hr hn (fun t ht _ => ⟨v, rfl, hw, ht⟩) (fun _ h => by cases h) hdg hlk
/-- a loop: at its head, for every state x of it with P x, its world and locals -/
theorem gloop {σ : Type} {Q : State → Prop} {H0 : Heap} {nL : Nat} {st : List Value} (μ : σ → Nat) (P : σ → Prop) (w : σ → va_W) (lv : σ → List (Nat × Value))
    (body : ∀ x, P x → (∀ x', P x' → μ x' < μ x → ∀ (H : Heap) (locs : List Loc) (ls : Array Slot), va_P g.1 vwCl (w x') H → va_D A (w x') → va_S A H0 H locs → lv_has ls nL (lv x') → W p l e R s m args below meth c H locs cells slots Q (F0 m pc ls st)) → ∀ (H : Heap) (locs : List Loc) (ls : Array Slot), va_P g.1 vwCl (w x) H → va_D A (w x) → va_S A H0 H locs → lv_has ls nL (lv x) → W p l e R s m args below meth c H locs cells slots Q (F0 m pc ls st))
    (x0 : σ) (h0 : P x0) {H : Heap} {locs : List Loc} {ls : Array Slot} (hP : va_P g.1 vwCl (w x0) H) (hD : va_D A (w x0)) (hS : va_S A H0 H locs) (hl : lv_has ls nL (lv x0)) : W p l e R s m args below meth c H locs cells slots Q (F0 m pc ls st) := by
  have all : ∀ n x, μ x < n → P x → ∀ (H : Heap) (locs : List Loc) (ls : Array Slot), va_P g.1 vwCl (w x) H → va_D A (w x) → va_S A H0 H locs → lv_has ls nL (lv x) → W p l e R s m args below meth c H locs cells slots Q (F0 m pc ls st) := by
    intro n
    induction n with
    | zero => intro x h; exact absurd h (Nat.not_lt_zero _)
    | succ n ih => exact fun x hm hx => body x hx (fun x' hx' hm' => ih x' (by omega) hx')
  exact all _ x0 (Nat.lt_succ_self _) h0 H locs ls hP hD hS hl
/-- a loop of a method without a world -/
theorem gloopP {σ : Type} {Q : State → Prop} {nL : Nat} {st : List Value} (μ : σ → Nat) (P : σ → Prop) (lv : σ → List (Nat × Value))
    (body : ∀ x, P x → (∀ x', P x' → μ x' < μ x → ∀ (ls : Array Slot), lv_has ls nL (lv x') → W p l e R s m args below meth c H locs cells slots Q (F0 m pc ls st)) → ∀ (ls : Array Slot), lv_has ls nL (lv x) → W p l e R s m args below meth c H locs cells slots Q (F0 m pc ls st))
    (x0 : σ) (h0 : P x0) {ls : Array Slot} (hl : lv_has ls nL (lv x0)) : W p l e R s m args below meth c H locs cells slots Q (F0 m pc ls st) := by
  have all : ∀ n x, μ x < n → P x → ∀ (ls : Array Slot), lv_has ls nL (lv x) → W p l e R s m args below meth c H locs cells slots Q (F0 m pc ls st) := by
    intro n
    induction n with
    | zero => intro x h; exact absurd h (Nat.not_lt_zero _)
    | succ n ih => exact fun x hm hx => body x hx (fun x' hx' hm' => ih x' (by omega) hx')
  exact all _ x0 (Nat.lt_succ_self _) h0 ls hl
end GRT
theorem r_extJ {g : GT} {A : Nat → Prop} {ws : va_W} {H : Heap} (hP : va_P g.1 vwCl ws H) (hD : va_D A ws) (q0 : Nat) {a n : Nat} {cA : ClassId} {f f' : Nat → Int64} (ha : ws[q0]? = some (a, .inl (cA, n, .inr (.inl f)))) (h : ∀ j, j < n → f j = f' j) : va_P g.1 vwCl (ws.set q0 (a, .inl (cA, n, .inr (.inl f')))) H ∧ va_D A (ws.set q0 (a, .inl (cA, n, .inr (.inl f')))) := by
  have e : ws.set q0 (a, .inl (cA, n, .inr (.inl f))) = ws := by
    apply List.ext_getElem?
    intro k
    rw [List.getElem?_set]
    by_cases z : q0 = k
    · subst z
      have b : q0 < ws.length := (List.getElem?_eq_some_iff.mp ha).1
      rw [if_pos rfl, if_pos b, ha]
    · rw [if_neg z]
  exact ⟨ws_same (E := .inl (cA, n, .inr (.inl f))) rfl (fun D cl H k => at_extJ h k) (by rw [e]; exact hP), ws_sameD (E := .inl (cA, n, .inr (.inl f))) rfl (by rw [e]; exact hD)⟩
section GNW
variable {p : Program} {l : Launch} {e : Env} {R : Room} {s : State} {m : MethodId} {args : Array Value} {below : List Frame} {meth : Method} {c : Code} {H : Heap} {locs : List Loc} {cells slots : Nat} {Q : State → Prop}
variable {cc : ByteArray} {pc : Nat} {ls : Array Slot} {rest : List Value} {g : GT} {A : Nat → Prop} {ws : va_W} {H0 : Heap}
theorem r_newI (hx : p.tables.exec = Jvm.exec) (hb : c.code = cc) (harr : (Cond.arrayClass .int).before args s = true) (hK : va_K g.1 vwCl (tyL g) s) (hP : va_P g.1 vwCl ws H) (hD : va_D A ws) (hS : va_S A H0 H locs) (hA : ∀ q, H0.size ≤ q → A q) {n : Int32} {N' : Nat} (hn : ¬ n < 0) (hN : n.toNatClampNeg = N') (hbytes : N' * componentBytes .int ≤ 536870912) (hcells : cells + 1 ≤ R.cells) (hslots : slots + N' ≤ R.slots) (hdg : decode cc pc = .ok (.newarray .int, 2))
    (kk : ∀ (q : Nat) (H : Heap), va_P g.1 vwCl (ws ++ [aI g q N' (fun _ => 0)]) H → va_D A (ws ++ [aI g q N' (fun _ => 0)]) → va_S A H0 H locs → W p l e R s m args below meth c H locs (cells + 1) (slots + N') Q (F0 m (pc + 2) ls (.ref q :: rest))) : W p l e R s m args below meth c H locs cells slots Q (F0 m pc ls (.int n :: rest)) :=
  va_newa hx hb (atype := .int) harr rfl hK hP hD hS hA (a0 := (N', (.inl (fun _ => 0)))) (fun _ => rfl) hn hN hbytes hcells hslots hdg (fun q cA H1 hK1 hP1 hD1 hS1 => by
    have h1 : s.vm.findClass ("[" ++ (.int : FieldType).toString) = some cA := (hK1.2 4 (cA, .int) rfl).2
    have h2 : s.vm.findClass ("[" ++ (.int : FieldType).toString) = some g.2.1 := (hK.2 0 (g.2.1, .int) rfl).2
    have e : cA = g.2.1 := Option.some.inj (h1.symm.trans h2)
    subst e
    exact kk q H1 hP1 hD1 hS1)
theorem r_newJ (hx : p.tables.exec = Jvm.exec) (hb : c.code = cc) (harr : (Cond.arrayClass .long).before args s = true) (hK : va_K g.1 vwCl (tyL g) s) (hP : va_P g.1 vwCl ws H) (hD : va_D A ws) (hS : va_S A H0 H locs) (hA : ∀ q, H0.size ≤ q → A q) {n : Int32} {N' : Nat} (hn : ¬ n < 0) (hN : n.toNatClampNeg = N') (hbytes : N' * componentBytes .long ≤ 536870912) (hcells : cells + 1 ≤ R.cells) (hslots : slots + N' ≤ R.slots) (hdg : decode cc pc = .ok (.newarray .long, 2))
    (kk : ∀ (q : Nat) (H : Heap), va_P g.1 vwCl (ws ++ [aJ g q N' (fun _ => 0)]) H → va_D A (ws ++ [aJ g q N' (fun _ => 0)]) → va_S A H0 H locs → W p l e R s m args below meth c H locs (cells + 1) (slots + N') Q (F0 m (pc + 2) ls (.ref q :: rest))) : W p l e R s m args below meth c H locs cells slots Q (F0 m pc ls (.int n :: rest)) :=
  va_newa hx hb (atype := .long) harr rfl hK hP hD hS hA (a0 := (N', (.inr (.inl (fun _ => 0))))) (fun _ => rfl) hn hN hbytes hcells hslots hdg (fun q cA H1 hK1 hP1 hD1 hS1 => by
    have h1 : s.vm.findClass ("[" ++ (.long : FieldType).toString) = some cA := (hK1.2 4 (cA, .long) rfl).2
    have h2 : s.vm.findClass ("[" ++ (.long : FieldType).toString) = some g.2.2.1 := (hK.2 1 (g.2.2.1, .long) rfl).2
    have e : cA = g.2.2.1 := Option.some.inj (h1.symm.trans h2)
    subst e
    exact kk q H1 hP1 hD1 hS1)
theorem r_newQ (hx : p.tables.exec = Jvm.exec) (hb : c.code = cc) {own : String} {index : Nat} (hown : s.vm.findClass own = some m.cls) (hcl : (Cond.classLink own index RX1).before args s = true) (hover : va_AO RX1 s) (hK : va_K g.1 vwCl (tyL g) s) (hP : va_P g.1 vwCl ws H) (hD : va_D A ws) (hS : va_S A H0 H locs) (hA : ∀ q, H0.size ≤ q → A q) {n : Int32} {N' : Nat} (hn : ¬ n < 0) (hN : n.toNatClampNeg = N') (hbytes : N' * 4 ≤ 536870912) (hcells : cells + 1 ≤ R.cells) (hslots : slots + N' ≤ R.slots) (hdg : decode cc pc = .ok (.anewarray index, 3))
    (kk : ∀ (q : Nat) (H : Heap), va_P g.1 vwCl (ws ++ [aQ g q N' (fun _ => none)]) H → va_D A (ws ++ [aQ g q N' (fun _ => none)]) → va_S A H0 H locs → W p l e R s m args below meth c H locs (cells + 1) (slots + N') Q (F0 m (pc + 3) ls (.ref q :: rest))) : W p l e R s m args below meth c H locs cells slots Q (F0 m pc ls (.int n :: rest)) :=
  va_newq hx hb hown hcl hover hK hP hD hS hA hn hN hbytes hcells hslots hdg (fun q cA H1 hK1 hP1 hD1 hS1 => by
    obtain ⟨_, _, _, _, _, h1⟩ := (hK1.2 4 (cA, .object RX1) rfl).2
    obtain ⟨_, _, _, _, _, h2⟩ := (hK.2 3 (g.2.2.2.2, .object RX1) rfl).2
    have e : cA = g.2.2.2.2 := Option.some.inj (h1.symm.trans h2)
    subst e
    exact kk q H1 hP1 hD1 hS1)
theorem r_aald (hx : p.tables.exec = Jvm.exec) (hb : c.code = cc) (hK : va_K g.1 vwCl (tyL g) s) (hP : va_P g.1 vwCl ws H) (q0 : Nat) {a n : Nat} {f : Nat → Option Nat} (ha : ws[q0]? = some (aQ g a n f)) {i : Int32} {v : Value} (hin : vp_in i n) (hv : va_rf (f i.toNatClampNeg) = v) (hdg : decode cc pc = .ok (.aaload, 1))
    (kk : W p l e R s m args below meth c H locs cells slots Q (F0 m (pc + 1) ls (v :: rest))) : W p l e R s m args below meth c H locs cells slots Q (F0 m pc ls (.int i :: .ref a :: rest)) := by
  subst hv
  exact va_aldq hx hb hK hP q0 3 ha rfl hin hdg kk
theorem r_copyi (hx : p.tables.exec = Jvm.exec) (hb : c.code = cc) (hml : c.maxLocals = ls.size) {own : String} {index : Nat} (hown : s.vm.findClass own = some m.cls) (hlink : (Cond.methodLink own index arraycopyName).before args s = true) (hnat : (Cond.native arraycopyName).before args s = true) (hstat : (Cond.static arraycopyName).before args s = true) (hini : (Cond.initialized "java/lang/System").before args s = true)
    (hK : va_K g.1 vwCl (tyL g) s) (hP : va_P g.1 vwCl ws H) (hD : va_D A ws) (hS : va_S A H0 H locs) (q0 q1 : Nat) {a a0 N : Nat} {f h : Nat → Int32} (ha0 : ws[q0]? = some (aI g a0 N f)) (ha1 : ws[q1]? = some (aI g a N h)) {n : Int32} (hn : ¬ n < 0) (hN : n.toNatClampNeg = N)
    (hframes : 1 ≤ R.frames) (hlocals : (rest.map fun v => v.category).sum + (nativeFrameWords "java/lang/System" "arraycopy" 5 + 11) ≤ R.locals) (hdg : decode cc pc = .ok (.invokestatic index, 3))
    (kk : ∀ (H : Heap) (locs : List Loc), va_P g.1 vwCl (ws.set q1 (aI g a N f)) H → va_D A (ws.set q1 (aI g a N f)) → va_S A H0 H locs → W p l e R s m args below meth c H locs cells slots Q (F0 m (pc + 3) ls rest)) : W p l e R s m args below meth c H locs cells slots Q (F0 m pc ls (.int n :: .int 0 :: .ref a :: .int 0 :: .ref a0 :: rest)) := by
  have z : (0 : Int32).toNatClampNeg = 0 := rfl
  refine va_copyi hx hb hml hown hlink hnat hstat hini hK hP hD hS q0 q1 0 0 (ty := .int) ha0 ha1 rfl rfl rfl (by decide) (by decide) hn (by rw [z, hN]; omega) (by rw [z, hN]; omega) (fun _ _ => rfl) hframes hlocals hdg (fun H1 locs1 hP1 hD1 hS1 => kk H1 locs1 (ws_same rfl (fun D cl H k => at_extI (fun j hj => ?_) k) hP1) (ws_sameD rfl hD1) hS1)
  rw [z, hN, pk_cpy_in (Nat.zero_le _) (by omega)]
  congr 1
  omega
end GNW
theorem sw_out {x : Int32} {hi : Int} (n : Nat) (hn : n < 2 ^ 31) (hh : hi + 1 = n) (h : ∀ k, k < n → ¬ x = nI k) : x.toInt < 0 ∨ hi < x.toInt := by
  by_cases a : x.toInt < 0
  · exact Or.inl a
  · by_cases b : hi < x.toInt
    · exact Or.inr b
    · exfalso
      have e : x = nI x.toInt.toNat := by
        apply Int32.toInt_inj.mp
        rw [nI_toInt (by omega)]
        omega
      exact h _ (by omega) e
theorem sw_ne {x y : Int32} {k : Int} (h : ¬ x = y) (hy : y.toInt = k) : ¬ k = x.toInt := fun z => h (Int32.toInt_inj.mp (by rw [hy, z]))
def bI (b : Bool) : Int32 := if b then 1 else 0
theorem bI_0 {b : Bool} (h : bI b = 0) : b = false := by cases b; rfl; exact absurd h (by decide)
theorem bI_1 {b : Bool} (h : ¬ bI b = 0) : b = true := by cases b; exact absurd rfl h; rfl
theorem bI_nar (b : Bool) : narrow .boolean (.int (bI b)) = .int (bI b) := by cases b <;> decide
def inB (v lo hi : Int32) : Bool := decide (lo ≤ v) && decide (v ≤ hi)
theorem inB_iff {v lo hi : Int32} : inB v lo hi = true ↔ lo.toInt ≤ v.toInt ∧ v.toInt ≤ hi.toInt := by
  unfold inB
  simp [Int32.le_iff_toInt_le]
theorem inB_nat {v : Int32} {hi : Int32} {N : Nat} (hN : hi.toInt + 1 = N) (h : inB v 0 hi = true) : ∃ j : Nat, j < N ∧ v = nI j := by
  obtain ⟨h1, h2⟩ := inB_iff.mp h
  have h3 : ¬ v < 0 := by rw [Int32.lt_iff_toInt_lt]; simpa using h1
  obtain ⟨j, hj, rfl⟩ := nI_of h3
  rw [nI_toInt hj] at h2
  exact ⟨j, by omega, rfl⟩
theorem inB_nI {j N : Nat} {hi : Int32} (hN : hi.toInt + 1 = N) (hj : j < 2 ^ 31) : inB (nI j) 0 hi = decide (j < N) := by
  have e := nI_toInt hj
  by_cases h : j < N
  · rw [decide_eq_true h, inB_iff, e]
    exact ⟨by simp, by omega⟩
  · rw [decide_eq_false h]
    cases z : inB (nI j) 0 hi with
    | false => rfl
    | true =>
      have := (inB_iff.mp z).2
      rw [e] at this
      omega
theorem bw_t {v lo hi : Int32} (h1 : ¬ v < lo) (h2 : ¬ hi < v) : (1 : Int32) = bI (inB v lo hi) := by
  rw [inB_iff.mpr ⟨Int32.le_iff_toInt_le.mp (Int32.not_lt.mp h1), Int32.le_iff_toInt_le.mp (Int32.not_lt.mp h2)⟩]; rfl
theorem inB_not {v lo hi : Int32} (h : ¬ (lo.toInt ≤ v.toInt ∧ v.toInt ≤ hi.toInt)) : inB v lo hi = false := by
  cases z : inB v lo hi with
  | false => rfl
  | true => exact absurd (inB_iff.mp z) h
theorem bw_l {v lo hi : Int32} (h : v < lo) : (0 : Int32) = bI (inB v lo hi) := by
  have := Int32.lt_iff_toInt_lt.mp h
  rw [inB_not (by omega)]; rfl
theorem bw_h {v lo hi : Int32} (h : hi < v) : (0 : Int32) = bI (inB v lo hi) := by
  have := Int32.lt_iff_toInt_lt.mp h
  rw [inB_not (by omega)]; rfl
theorem bw_t1 {v lo hi m : Int32} (hN : hi.toInt + 1 = m.toInt) (h1 : ¬ v < lo) (h2 : ¬ m ≤ v) : (1 : Int32) = bI (inB v lo hi) := by
  have h3 := Int32.lt_iff_toInt_lt.mp (Int32.not_le.mp h2)
  rw [inB_iff.mpr ⟨Int32.le_iff_toInt_le.mp (Int32.not_lt.mp h1), by omega⟩]; rfl
theorem bw_h1 {v lo hi m : Int32} (hN : hi.toInt + 1 = m.toInt) (h : m ≤ v) : (0 : Int32) = bI (inB v lo hi) := by
  have := Int32.le_iff_toInt_le.mp h
  rw [inB_not (by omega)]; rfl
theorem dI_t {P : Prop} [Decidable P] (h : P) : (1 : Int32) = bI (decide P) := by rw [decide_eq_true h]; rfl
theorem dI_f {P : Prop} [Decidable P] (h : ¬ P) : (0 : Int32) = bI (decide P) := by rw [decide_eq_false h]; rfl
def isInB (h t : Int32) : Bool := decide ((t >>> (h &&& 31)) &&& 1 = 1)
/-- an object of Close, of the reference: its rows by A, its numbers by I -/
def oC (A : Nat → Nat) (I : Nat → Int32) : List Value := [.ref (A 0), .ref (A 1), .ref (A 2), .ref (A 3), .ref (A 4), .ref (A 5), .ref (A 6), .int (I 7), .int (I 8), .int (I 9), .int (I 10), .int (I 11)]
/-- a row filled from its start on -/
def fF {α : Type} (f v : Nat → α) (i : Nat) : Nat → α := fun j => if j < i then v j else f j
theorem fF_0 {α : Type} {f v : Nat → α} {n : Nat} : ∀ j, j < n → f j = fF f v 0 j := fun j _ => by simp [fF]
theorem fF_n {α : Type} {f v : Nat → α} {n : Nat} : ∀ j, j < n → fF f v n j = v j := fun j h => by simp [fF, h]
theorem fF_s {f v : Nat → Int32} {i n : Nat} {k x : Int32} (hk : k.toNatClampNeg = i) (hx : x = v i) : ∀ j, j < n → upd (fF f v i) k.toNatClampNeg x j = fF f v (i + 1) j := by
  intro j _
  rw [hk, hx]
  unfold upd fF
  by_cases e : j = i
  · subst e; simp
  · rw [if_neg e]
    by_cases h : j < i
    · rw [if_pos h, if_pos (by omega)]
    · rw [if_neg h, if_neg (by omega)]
theorem fF_sJ {f v : Nat → Int64} {i n : Nat} {k : Int32} {x : Int64} (hk : k.toNatClampNeg = i) (hx : x = v i) : ∀ j, j < n → vp_updL (fF f v i) k.toNatClampNeg x j = fF f v (i + 1) j := by
  intro j _
  rw [hk, hx]
  unfold vp_updL fF
  by_cases e : j = i
  · subst e; simp
  · rw [if_neg e]
    by_cases h : j < i
    · rw [if_pos h, if_pos (by omega)]
    · rw [if_neg h, if_neg (by omega)]
/-- the numbers of a new Close -/
def iC0 : Nat → Int32 := fun k => if k = 8 then 10 else 0
def mkA (l : List Nat) : Nat → Nat := fun k => l.getD k 0
theorem neg6_ne {k : Nat} (h : k < 2 ^ 31) : ¬ (-6 : Int32) = nI k := by
  intro z
  have h2 := congrArg Int32.toInt z
  rw [nI_toInt h] at h2
  have h3 : (-6 : Int32).toInt = -6 := rfl
  omega
theorem beq_0 {i : Nat} (h : i < 10) : nI (2 ^ i - 1) ||| ((1 : Int32) <<< (nI i &&& 31)) = nI (2 ^ (i + 1) - 1) := by
  have k : ∀ i, i < 10 → nI (2 ^ i - 1) ||| ((1 : Int32) <<< (nI i &&& 31)) = nI (2 ^ (i + 1) - 1) := by decide
  exact k i h
/-- Integer.bitCount, as it counts -/
def bc1 (x : Int32) : Int32 := x - ((x.toUInt32 >>> ((1 : Int32).toUInt32 &&& Int32.toUInt32 31)).toInt32 &&& 1431655765)
def bc2 (x : Int32) : Int32 := (x &&& 858993459) + ((x.toUInt32 >>> ((2 : Int32).toUInt32 &&& Int32.toUInt32 31)).toInt32 &&& 858993459)
def bc3 (x : Int32) : Int32 := (x + (x.toUInt32 >>> ((4 : Int32).toUInt32 &&& Int32.toUInt32 31)).toInt32) &&& 252645135
def bc4 (x : Int32) : Int32 := x + (x.toUInt32 >>> ((8 : Int32).toUInt32 &&& Int32.toUInt32 31)).toInt32
def bc5 (x : Int32) : Int32 := x + (x.toUInt32 >>> ((16 : Int32).toUInt32 &&& Int32.toUInt32 31)).toInt32
def bcF (x : Int32) : Int32 := bc5 (bc4 (bc3 (bc2 (bc1 x)))) &&& 63
theorem bcF_0 : bcF 0 = 0 := by decide
theorem bcF_1023 : bcF 1023 = 10 := by decide
theorem bcF_pos (x : Int32) : ¬ bcF x < 0 := by
  obtain ⟨j, hj, e⟩ := pk_andE (bc5 (bc4 (bc3 (bc2 (bc1 x))))) (m := 63) 6 (by decide)
  unfold bcF
  rw [e]
  exact nI_pos (by omega)
def kdF (d : Nat) : Nat := if d < 3 then 1 else if d < 5 then 2 else if d = 5 then 3 else if d = 6 then 0 else 4
theorem kdF_lt (d : Nat) : kdF d < 5 := by unfold kdF; (repeat' split) <;> omega
def raF (k : Nat) (ht mo : Int32) : Int32 := if k = 0 then 0 else if k = 1 then 2 else if k = 2 then 1 else if k = 3 then (if 0 < ht then 0 else 3) else (if mo < 99 then 0 else 4)
theorem raF_12 {k : Nat} {ht mo : Int32} (h : raF k ht mo = 0) : k ≠ 1 ∧ k ≠ 2 := by
  constructor
  · rintro rfl
    exact absurd h (by show ¬ (2 : Int32) = 0; decide)
  · rintro rfl
    exact absurd h (by show ¬ (1 : Int32) = 0; decide)
theorem shr_and0 (x : Int32) : ((0 : Int32) >>> (x &&& 31)) &&& 1 = 0 := by
  have : (0 : Int32) >>> (x &&& 31) = 0 := by
    apply Int32.toBitVec_inj.mp
    simp
  rw [this]; rfl
theorem isIn_0 (x : Int32) : isInB x 0 = false := by
  unfold isInB
  rw [shr_and0]; rfl
theorem isIn_s {t : Nat} (h : t < 10) : isInB (nI t) ((0 : Int32) ||| ((1 : Int32) <<< (nI t &&& 31))) = true := by
  have k : ∀ t, t < 10 → isInB (nI t) ((0 : Int32) ||| ((1 : Int32) <<< (nI t &&& 31))) = true := by decide
  exact k t h
theorem nI_nB {j : Nat} (h : j < 10) : inB (nI j) 0 9 = true := (inB_nI (N := 10) (by decide) (by omega)).trans (decide_eq_true h)
theorem nI_pB {j : Nat} (h : j < 11) : inB (nI j) 0 10 = true := (inB_nI (N := 11) (by decide) (by omega)).trans (decide_eq_true h)
/-- what a tale fades into, any number -/
def fdF (f : Nat → Int32) (x : Int32) : Int32 := if inB x 0 9 = true then f x.toNatClampNeg else -6
def hfF (f1 f2 f3 : Nat → Int32) (j : Nat) (x : Int32) : Int32 := if x = 0 then f3 j else if x = 1 then f1 j else bI (decide (f2 j = 1))
def pfF (I : Nat → Int32) (x : Int32) : Int32 := if x = 0 then I 8 else if x = 1 then I 9 else if x = 2 then I 10 else I 11
theorem fdF_nI {t : Nat} (h : t < 10) : fdF (fun j => nI j) (nI t) = nI t := by
  unfold fdF
  rw [if_pos (nI_nB h), nI_clamp (by omega)]
theorem kd_c {d c r : Nat} (hd : d < 8) (h : nI d = nI c) (hc : c < 8) (hr : kdF c = r) : nI r = nI (kdF d) := by
  have e : d = c := (nI_eq (by omega) (by omega)).mp h
  rw [e, hr]
theorem kd_d {d : Nat} (hd : d < 8) (k0 : ¬ nI d = 0) (k1 : ¬ nI d = 1) (k2 : ¬ nI d = 2) (k3 : ¬ nI d = 3) (k4 : ¬ nI d = 4) (k5 : ¬ nI d = 5) (k6 : ¬ nI d = 6) : (4 : Int32) = nI (kdF d) := by
  have a0 : d ≠ 0 := fun z => k0 (by rw [z]; rfl)
  have a1 : d ≠ 1 := fun z => k1 (by rw [z]; rfl)
  have a2 : d ≠ 2 := fun z => k2 (by rw [z]; rfl)
  have a3 : d ≠ 3 := fun z => k3 (by rw [z]; rfl)
  have a4 : d ≠ 4 := fun z => k4 (by rw [z]; rfl)
  have a5 : d ≠ 5 := fun z => k5 (by rw [z]; rfl)
  have a6 : d ≠ 6 := fun z => k6 (by rw [z]; rfl)
  obtain rfl : d = 7 := by omega
  rfl
theorem ra_c {k c : Nat} {v ht mo : Int32} (hk : k < 5) (h : nI k = nI c) (hc : c < 5) (hr : v = raF c ht mo) : v = raF k ht mo := by
  have e : k = c := (nI_eq (by omega) (by omega)).mp h
  rw [e]; exact hr
theorem ra_d {k : Nat} {v ht mo : Int32} (hk : k < 5) (k0 : ¬ nI k = 0) (k1 : ¬ nI k = 1) (k2 : ¬ nI k = 2) (k3 : ¬ nI k = 3) (hr : v = raF 4 ht mo) : v = raF k ht mo := by
  have a0 : k ≠ 0 := fun z => k0 (by rw [z]; rfl)
  have a1 : k ≠ 1 := fun z => k1 (by rw [z]; rfl)
  have a2 : k ≠ 2 := fun z => k2 (by rw [z]; rfl)
  have a3 : k ≠ 3 := fun z => k3 (by rw [z]; rfl)
  obtain rfl : k = 4 := by omega
  exact hr
theorem ra_3f {ht mo : Int32} (h : ht ≤ 0) : (3 : Int32) = raF 3 ht mo := by
  show (3 : Int32) = if 0 < ht then 0 else 3
  rw [if_neg (Int32.not_lt.mpr h)]
theorem ra_3t {ht mo : Int32} (h : ¬ ht ≤ 0) : (0 : Int32) = raF 3 ht mo := by
  show (0 : Int32) = if 0 < ht then 0 else 3
  rw [if_pos (Int32.not_le.mp h)]
theorem ra_4f {ht mo : Int32} (h : 99 ≤ mo) : (4 : Int32) = raF 4 ht mo := by
  show (4 : Int32) = if mo < 99 then 0 else 4
  rw [if_neg (Int32.not_lt.mpr h)]
theorem ra_4t {ht mo : Int32} (h : ¬ 99 ≤ mo) : (0 : Int32) = raF 4 ht mo := by
  show (0 : Int32) = if mo < 99 then 0 else 4
  rw [if_pos (Int32.not_le.mp h)]
theorem up_ne {J : Nat → Int32} {a b : Nat} {x : Int32} (h : a ≠ b) : upd J a x b = J b := by
  unfold upd; rw [if_neg (Ne.symm h)]
theorem up_eq {J : Nat → Int32} {a : Nat} {x : Int32} : upd J a x a = x := by
  unfold upd; rw [if_pos rfl]
/-- least ways where there is no road -/
def lsF : Nat → Int32 := fun e => if e / 11 = e % 11 then 0 else 1000
def fG (f : Nat → Int32) (i j : Nat) : Nat → Int32 := fun e => if e < 11 * i then lsF e else if e < 11 * i + j then 1000 else f e
theorem fG_0 {f : Nat → Int32} {i n : Nat} : ∀ j, j < n → fF f lsF (11 * i) j = fG f i 0 j := by
  intro j _
  unfold fF fG
  by_cases h : j < 11 * i
  · rw [if_pos h, if_pos h]
  · rw [if_neg h, if_neg h, if_neg (by omega)]
theorem fG_s {f : Nat → Int32} {i j n : Nat} {k : Int32} (hk : k.toNatClampNeg = i * 11 + j) : ∀ e, e < n → upd (fG f i j) k.toNatClampNeg 1000 e = fG f i (j + 1) e := by
  intro e _
  rw [hk]
  unfold upd fG
  by_cases z : e = i * 11 + j
  · rw [if_pos z, if_neg (by omega), if_pos (by omega)]
  · rw [if_neg z]
    by_cases h : e < 11 * i
    · rw [if_pos h, if_pos h]
    · rw [if_neg h, if_neg h]
      by_cases h2 : e < 11 * i + j
      · rw [if_pos h2, if_pos (by omega)]
      · rw [if_neg h2, if_neg (by omega)]
theorem fG_d {f : Nat → Int32} {i j n : Nat} {k : Int32} (hk : k.toNatClampNeg = i * 11 + i) (hj : j = 11) (hi : i < 11) : ∀ e, e < n → upd (fG f i j) k.toNatClampNeg 0 e = fF f lsF (11 * (i + 1)) e := by
  intro e _
  subst hj
  rw [hk]
  unfold upd fG fF
  by_cases z : e = i * 11 + i
  · rw [if_pos z, if_pos (by omega)]
    unfold lsF
    rw [if_pos (by omega)]
  · rw [if_neg z]
    by_cases h : e < 11 * i
    · rw [if_pos h, if_pos (by omega)]
    · rw [if_neg h]
      by_cases h2 : e < 11 * i + 11
      · rw [if_pos h2, if_pos (by omega)]
        unfold lsF
        rw [if_neg (by omega)]
      · rw [if_neg h2, if_neg (by omega)]
theorem ls_tri {i j t : Nat} (hi : i < 11) (hj : j < 11) (ht : t < 11) : lsF (j * 11 + t) ≤ lsF (j * 11 + i) + lsF (i * 11 + t) := by
  have k : ∀ i, i < 11 → ∀ j, j < 11 → ∀ t, t < 11 → lsF (j * 11 + t) ≤ lsF (j * 11 + i) + lsF (i * 11 + t) := by decide +kernel
  exact k i hi j hj t ht
theorem ls_v {i j : Nat} (hi : i < 11) (hj : j < 11) : lsF (i * 11 + j) = if i = j then 0 else 1000 := by
  have k : ∀ i, i < 11 → ∀ j, j < 11 → lsF (i * 11 + j) = if i = j then 0 else 1000 := by decide +kernel
  exact k i hi j hj
theorem ls_10 {i : Nat} (hi : i < 10) : lsF (10 * 11 + i) = 1000 := by
  have k : ∀ i, i < 10 → lsF (10 * 11 + i) = 1000 := by decide +kernel
  exact k i hi
/-- how far it is from place to place without a road -/
def nrF (i j : Nat) : Int32 := if i = j then 0 else -6
theorem hw_f {i j : Nat} (h : (1000 : Int32) ≤ if i = j then 0 else 1000) : (-6 : Int32) = nrF i j := by
  unfold nrF
  by_cases e : i = j
  · rw [if_pos e] at h; exact absurd h (by decide)
  · rw [if_neg e]
theorem hw_t {i j : Nat} (h : ¬ (1000 : Int32) ≤ if i = j then 0 else 1000) : (if i = j then (0 : Int32) else 1000) = nrF i j := by
  unfold nrF
  by_cases e : i = j
  · rw [if_pos e, if_pos e]
  · rw [if_neg e] at h; exact absurd (by decide) h
theorem cold_h {t : Nat} (h : t < 100) : ¬ (45 : Int32) < nI t - 1000 := by
  have k : ∀ t, t < 100 → ¬ (45 : Int32) < nI t - 1000 := by decide +kernel
  exact k t h
theorem isIn_K {j : Nat} (h : j < 10) : isInB (nI j) 1024 = false := by
  have k : ∀ j, j < 10 → isInB (nI j) 1024 = false := by decide +kernel
  exact k j h
theorem and_0 (x : Int32) : (0 : Int32) &&& x = 0 := by
  apply Int32.toBitVec_inj.mp
  simp
def fdT : Nat → Int32 := fun e => nI (e / 41)
def twF : Nat → Int32 := fun k => nI (10 * (k / 5) + k % 5 + 1)
def pkF (x : Int32) : Int32 := if inB x 0 49 = true then twF x.toNatClampNeg else -6
theorem fdT_v {i t : Nat} (h : t < 41) : nI i = fdT (41 * i + t) := by
  unfold fdT
  congr 1
  omega
theorem tw_v {i t n : Nat} (h : n + 1 = 5 * i + t) (h1 : 1 ≤ t) (h5 : t ≤ 5) : nI (10 * i + t) = twF n := by
  unfold twF
  congr 1
  omega
theorem tb_v {t q : Nat} (hq : q < 41) (ht : t < 10) : fdT (nI (t * 41 + q)).toNatClampNeg = nI t := by
  rw [nI_clamp (by omega)]
  unfold fdT
  congr 1
  omega
theorem pkF_nI {i : Nat} (h : i < 50) : pkF (nI i) = nI (10 * (i / 5) + i % 5 + 1) := by
  unfold pkF
  rw [if_pos ((inB_nI (N := 50) (by decide) (by omega)).trans (decide_eq_true h)), nI_clamp (by omega)]
  rfl
def lfF (i : Nat) : Nat → Int32 := fun e => nI (if i ≤ 5 * e then 0 else if 5 * e + 5 ≤ i then 5 else i - 5 * e)
def msF (i : Nat) : Nat := if i < 5 then i else 5
theorem lf_0 : ∀ j, j < 10 → (0 : Int32) = lfF 0 j := by
  intro j _
  unfold lfF
  rw [if_pos (Nat.zero_le _)]
  rfl
theorem lf_v {i : Nat} : lfF i (i / 5) = nI (i % 5) := by
  unfold lfF
  congr 1
  by_cases h : i ≤ 5 * (i / 5)
  · rw [if_pos h]; omega
  · rw [if_neg h, if_neg (by omega)]; omega
theorem lf_w {i : Nat} : lfF (i + 1) (i / 5) = nI (i % 5 + 1) := by
  unfold lfF
  congr 1
  rw [if_neg (by omega)]
  by_cases h : 5 * (i / 5) + 5 ≤ i + 1
  · rw [if_pos h]; omega
  · rw [if_neg h]; omega
theorem lf_s {i : Nat} (h : i < 50) : ∀ j, j < 10 → upd (lfF i) (nI (i / 5)).toNatClampNeg (nI (i % 5 + 1)) j = lfF (i + 1) j := by
  intro j _
  rw [nI_clamp (by omega)]
  unfold upd
  by_cases e : j = i / 5
  · rw [if_pos e, e, lf_w]
  · rw [if_neg e]
    unfold lfF
    congr 1
    by_cases h1 : i ≤ 5 * j
    · rw [if_pos h1, if_pos (by omega)]
    · rw [if_neg h1, if_pos (by omega), if_neg (by omega), if_pos (by omega)]
theorem ms_v {i : Nat} (h : i < 50) : (if nI (msF i) < nI (i % 5 + 1) then nI (i % 5 + 1) else nI (msF i)) = nI (msF (i + 1)) := by
  have k : ∀ i, i < 50 → (if nI (msF i) < nI (i % 5 + 1) then nI (i % 5 + 1) else nI (msF i)) = nI (msF (i + 1)) := by decide +kernel
  exact k i h

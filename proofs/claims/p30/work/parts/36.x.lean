/-! methods that read the script -/
def q_xs {β : Type} (xs : Nat → Int32) (L : Nat) (i : Int32) (K : Int32 → Option β) : Option β := q_chk (q_inb i L) (K (xs i.toNatClampNeg))
theorem q_xs_s {β : Type} {r : β} {xs : Nat → Int32} {L : Nat} {i : Int32} {K : Int32 → Option β} (h : q_xs xs L i K = some r) : ∃ v, vp_in i L ∧ xs i.toNatClampNeg = v ∧ K v = some r := by
  obtain ⟨h1, h2⟩ := q_chk_s h
  exact ⟨_, q_inb_in h1, rfl, h2⟩
abbrev Cx (l : Launch) (y : MethodName) (wsl : List Cond) (rm : Room) (av : List Value) (b L : Nat) (xs : Nat → Int32) (v : Int32) : Prop :=
  Met l y wsl rm (va_Pc av (fun U => va_X b L xs U U.heap ∧ b < U.heap.size)) (vp_Si (fun r => r = v)) 0 0 (fun _ => False)
theorem gx_blind {b L : Nat} {xs : Nat → Int32} (av : List Value) : FrameBlind (va_Pc av (fun U => va_X b L xs U U.heap ∧ b < U.heap.size)) := fun a U gg mk q => by
  obtain ⟨q0, q1, q2⟩ := q
  exact ⟨q0, va_X.moved (u := U) (U := U.calling gg mk a) (Vm.Alike.refl U.vm) q1, q2⟩
theorem gMet_x {l : Launch} {y : MethodName} {wsl wsl' : List Cond} {rm : Room} {av : List Value} {b L : Nat} {xs : Nat → Int32} {v : Int32} {cc : ByteArray} {maxL : Nat} {ret : Option FieldType} (hy : plainName y.cls = true) (hw : wsl = .code y cc maxL ret :: wsl') (hn : (lg_sl av).length ≤ maxL)
    (body : ∀ (p : Program) (e : Env) (s : State) (m : MethodId) (args : Array Value) (below : List Frame) (meth : Method) (c : Code), p.tables.exec = Jvm.exec → c.code = cc → meth.sig.returnType = ret → CallFix p m c cc maxL s args wsl y.cls → meth.locks = false → va_X b L xs s s.heap → b < s.heap.size → ∀ ls : Array Slot, lv_has ls maxL (lv_args 0 av) → W p l e (headSpec wsl rm).room s m args below meth c s.heap [] 0 0 (MQ below (vp_Si (fun r => r = v)) args s 0 0 (fun _ => False)) (F0 m 0 ls [])) : Cx l y wsl rm av b L xs v := by
  refine Met.ofW (cc := cc) (maxL := maxL) (ret := ret) hy hw ?_
  intro p e s m args below meth c s₁ B hml hv
  obtain ⟨rfl, hX, hbl⟩ := hv
  have hl := lv_entry av (n := maxL) hn
  rw [lg_entry_eq]
  exact body p e s m _ below meth c B.exec B.bytes B.returns ⟨B.exec, B.bytes, hml, findClass_of_methodNamed B.named, atoms_spec (ws := wsl) B.pre⟩ B.notSynchronized hX hbl _ hl
section GCX
variable {p : Program} {l : Launch} {e : Env} {R : Room} {s : State} {m : MethodId} {args : Array Value} {below : List Frame} {meth : Method} {c : Code} {H : Heap} {locs : List Loc} {cells slots : Nat} {Q : State → Prop}
theorem gcX {cc bytes : ByteArray} {nL n maxL index pc : Nat} {Ts wsl wsl' : List Cond} {own : String} {ls : Array Slot} {rest st0 As : List Value} {y : MethodName} {rm : Room} {ret : Option FieldType} {A : Nat → Prop} {b L : Nat} {xs : Nat → Int32} {v : Int32} (F : CallFix p m c cc nL s args Ts own) (hX : va_X b L xs s s.heap) (hbl : b < s.heap.size) (hbA : ¬ A b) (hS : va_S A s.heap H locs) (M : Cx l y wsl rm As b L xs v) (G : GoodIn Ts (va_wsS own index y wsl)) (hy : YOk y n) (hw : wsl = .code y bytes maxL ret :: wsl') (hrc : rm.cells = 0) (hrs : rm.slots = 0) (hR : rm.frames + 1 ≤ R.frames ∧ 8 + (maxL + 11) + rm.locals ≤ R.locals)
    (hst : st0 = As.reverse ++ rest) (hAn : As.length = n) (hls : ls.size = nL) (hrm : (rest.map fun v => v.category).sum ≤ 8) (hdg : decode cc pc = .ok (.invokestatic index, 3)) (hf : cells + 0 ≤ R.cells ∧ slots + 0 ≤ R.slots)
    (kk : W p l e R s m args below meth c H locs cells slots Q (F0 m (pc + 3) ls (.int v :: rest))) : W p l e R s m args below meth c H locs cells slots Q (F0 m pc ls st0) :=
  vp_callSi (va_Run.run (va_runS F M (va_cwS n F.2.2.2.2 G hw hrc hrs hy hR) ⟨gx_blind _, fun U hU hW => ⟨rfl, by rw [hU]; exact (va_X.moved hW.alike hX).kept (hS.2.1 b hbl hbA), by rw [hU]; exact Nat.lt_of_lt_of_le hbl hS.1⟩⟩ rfl hAn hls hst (lv_room hrm) hdg hf)) (fun r hr => by subst hr; exact kk)
end GCX

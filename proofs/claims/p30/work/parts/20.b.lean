/-! the worlds -/
def oX2 (I : Nat → Int32) : List Value := [.int (I 0), .int (I 1), .int (I 2), .int (I 3), .int (I 4), .int (I 5)]
def oX3 (A : Nat → Nat) (I : Nat → Int32) : List Value := [.ref (A 0), .int (I 1)]
def oX4 (A : Nat → Nat) (I : Nat → Int32) : List Value := [.ref (A 0), .ref (A 1), .ref (A 2), .int (I 3)]
def oX5 (A : Nat → Nat) (v : Value) : List Value := [.ref (A 0), .ref (A 1), v]
def oX0 (A : Nat → Nat) : List Value := [.ref (A 0), .ref (A 1), .ref (A 2)]
def oX6 (A : Nat → Nat) : List Value := [.ref (A 0), .ref (A 1), .ref (A 2), .ref (A 3), .ref (A 4), .ref (A 5), .ref (A 6), .ref (A 7)]
abbrev wR (g : GT) (q n : Nat) (σ : qS) : va_W := [aI g q n (σ 0)]
abbrev wRL (g : GT) (q n : Nat) (σ : qL) : va_W := [aJ g q n (σ 0)]
abbrev wH (g : GT) (q : Nat) (σ : qS) : va_W := [aI g q 10240 (σ 0)]
abbrev wG (g : GT) (q : Nat) (Q : Nat → Option Nat) : va_W := [aQ g q 2 Q]
abbrev wX0 (g : GT) (q : Nat) (A : Nat → Nat) (σ : qS) (τ : qL) : va_W := [(q, .inr (0, oX0 A)), aJ g (A 0) 11 (τ 0), aJ g (A 1) 11 (τ 1), aI g (A 2) 61 (σ 2)]
abbrev wX1 (g : GT) (q : Nat) (A : Nat → Nat) (σ : qS) : va_W := [(q, .inr (1, oC A (σ 99))), aI g (A 0) 121 (σ 0), aI g (A 1) 10 (σ 1), aI g (A 2) 10 (σ 2), aI g (A 3) 10 (σ 3), aI g (A 4) 10 (σ 4), aI g (A 5) 8 (σ 5), aI g (A 6) 8 (σ 6)]
abbrev wX2 (q : Nat) (σ : qS) : va_W := [(q, .inr (2, oX2 (σ 99)))]
abbrev wX3 (g : GT) (q : Nat) (A : Nat → Nat) (σ : qS) : va_W := [(q, .inr (3, oX3 A (σ 99))), aI g (A 0) 60 (σ 0)]
abbrev wX4 (g : GT) (q : Nat) (A : Nat → Nat) (σ : qS) : va_W := [(q, .inr (4, oX4 A (σ 99))), aI g (A 0) 410 (σ 0), aI g (A 1) 50 (σ 1), aI g (A 2) 10 (σ 2)]
abbrev wX5 (g : GT) (q : Nat) (A : Nat → Nat) (v : Value) (σ : qS) : va_W := [(q, .inr (5, oX5 A v)), aI g (A 0) 121 (σ 0), aI g (A 1) 11 (σ 1)]
abbrev wX6 (q : Nat) (A : Nat → Nat) : va_W := [(q, .inr (6, oX6 A))]
section QLP
variable {p : Program} {l : Launch} {e : Env} {R : Room} {s : State} {m : MethodId} {args : Array Value} {below : List Frame} {meth : Method} {c : Code} {H : Heap} {locs : List Loc} {cells slots : Nat}
variable {pc : Nat} {ls : Array Slot} {g : GT} {A : Nat → Prop}
/-- a loop: behind it (k), and once through it -/
theorem q_loop {σ T : Type} {x : T} {Q : State → Prop} {H0 : Heap} {nL : Nat} {body : (σ → Option T) → (σ → Option T) → σ → Option T} {k : σ → Option T} {N : Nat} {s0 : σ} (w : σ → va_W) (lv : σ → List (Nat × Value)) (pcE : Nat)
    (h0 : q_lp body k N s0 = some x)
    (hk : ∀ u, k u = some x → ∀ (H : Heap) (locs : List Loc) (ls : Array Slot), va_P g.1 vwCl (w u) H → va_D A (w u) → va_S A H0 H locs → lv_has ls nL (lv u) → W p l e R s m args below meth c H locs cells slots Q (F0 m pcE ls []))
    (hb : ∀ (k again : σ → Option T), (∀ u, k u = some x → ∀ (H : Heap) (locs : List Loc) (ls : Array Slot), va_P g.1 vwCl (w u) H → va_D A (w u) → va_S A H0 H locs → lv_has ls nL (lv u) → W p l e R s m args below meth c H locs cells slots Q (F0 m pcE ls [])) →
      (∀ u, again u = some x → ∀ (H : Heap) (locs : List Loc) (ls : Array Slot), va_P g.1 vwCl (w u) H → va_D A (w u) → va_S A H0 H locs → lv_has ls nL (lv u) → W p l e R s m args below meth c H locs cells slots Q (F0 m pc ls [])) →
      ∀ u, body k again u = some x → ∀ (H : Heap) (locs : List Loc) (ls : Array Slot), va_P g.1 vwCl (w u) H → va_D A (w u) → va_S A H0 H locs → lv_has ls nL (lv u) → W p l e R s m args below meth c H locs cells slots Q (F0 m pc ls []))
    (hP : va_P g.1 vwCl (w s0) H) (hD : va_D A (w s0)) (hS : va_S A H0 H locs) (hl : lv_has ls nL (lv s0)) : W p l e R s m args below meth c H locs cells slots Q (F0 m pc ls []) := by
  have all : ∀ n u, q_lp body k n u = some x → ∀ (H : Heap) (locs : List Loc) (ls : Array Slot), va_P g.1 vwCl (w u) H → va_D A (w u) → va_S A H0 H locs → lv_has ls nL (lv u) → W p l e R s m args below meth c H locs cells slots Q (F0 m pc ls []) := by
    intro n
    induction n with
    | zero => intro u h; cases h
    | succ n ih => exact fun u h => hb k (q_lp body k n) hk ih u h
  exact all N s0 h0 H locs ls hP hD hS hl
theorem q_loopP {σ T : Type} {x : T} {Q : State → Prop} {nL : Nat} {body : (σ → Option T) → (σ → Option T) → σ → Option T} {k : σ → Option T} {N : Nat} {s0 : σ} (lv : σ → List (Nat × Value)) (pcE : Nat)
    (h0 : q_lp body k N s0 = some x)
    (hk : ∀ u, k u = some x → ∀ (ls : Array Slot), lv_has ls nL (lv u) → W p l e R s m args below meth c H locs cells slots Q (F0 m pcE ls []))
    (hb : ∀ (k again : σ → Option T), (∀ u, k u = some x → ∀ (ls : Array Slot), lv_has ls nL (lv u) → W p l e R s m args below meth c H locs cells slots Q (F0 m pcE ls [])) →
      (∀ u, again u = some x → ∀ (ls : Array Slot), lv_has ls nL (lv u) → W p l e R s m args below meth c H locs cells slots Q (F0 m pc ls [])) →
      ∀ u, body k again u = some x → ∀ (ls : Array Slot), lv_has ls nL (lv u) → W p l e R s m args below meth c H locs cells slots Q (F0 m pc ls []))
    (hl : lv_has ls nL (lv s0)) : W p l e R s m args below meth c H locs cells slots Q (F0 m pc ls []) := by
  have all : ∀ n u, q_lp body k n u = some x → ∀ (ls : Array Slot), lv_has ls nL (lv u) → W p l e R s m args below meth c H locs cells slots Q (F0 m pc ls []) := by
    intro n
    induction n with
    | zero => intro u h; cases h
    | succ n ih => exact fun u h => hb k (q_lp body k n) hk ih u h
  exact all N s0 h0 ls hl
end QLP

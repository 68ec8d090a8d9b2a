def zI (z : Int) : Int32 := Int32.ofInt z
def zL (z : Int) : Int64 := Int64.ofInt z
theorem z_n (n : Nat) : nI n = zI n := Int32.ofInt_eq_ofNat.symm
theorem z_0 : (0 : Int32) = zI 0 := by decide
theorem z_1 : (1 : Int32) = zI 1 := by decide
theorem z_2 : (2 : Int32) = zI 2 := by decide
theorem z_3 : (3 : Int32) = zI 3 := by decide
theorem z_4 : (4 : Int32) = zI 4 := by decide
theorem z_5 : (5 : Int32) = zI 5 := by decide
theorem z_6 : (6 : Int32) = zI 6 := by decide
theorem z_7 : (7 : Int32) = zI 7 := by decide
theorem z_8 : (8 : Int32) = zI 8 := by decide
theorem z_9 : (9 : Int32) = zI 9 := by decide
theorem z_10 : (10 : Int32) = zI 10 := by decide
theorem z_11 : (11 : Int32) = zI 11 := by decide
theorem z_12 : (12 : Int32) = zI 12 := by decide
theorem z_13 : (13 : Int32) = zI 13 := by decide
theorem z_14 : (14 : Int32) = zI 14 := by decide
theorem z_15 : (15 : Int32) = zI 15 := by decide
theorem z_16 : (16 : Int32) = zI 16 := by decide
theorem z_17 : (17 : Int32) = zI 17 := by decide
theorem z_18 : (18 : Int32) = zI 18 := by decide
theorem z_19 : (19 : Int32) = zI 19 := by decide
theorem z_20 : (20 : Int32) = zI 20 := by decide
theorem z_21 : (21 : Int32) = zI 21 := by decide
theorem z_22 : (22 : Int32) = zI 22 := by decide
theorem z_23 : (23 : Int32) = zI 23 := by decide
theorem z_24 : (24 : Int32) = zI 24 := by decide
theorem z_25 : (25 : Int32) = zI 25 := by decide
theorem z_26 : (26 : Int32) = zI 26 := by decide
theorem z_27 : (27 : Int32) = zI 27 := by decide
theorem z_28 : (28 : Int32) = zI 28 := by decide
theorem z_29 : (29 : Int32) = zI 29 := by decide
theorem z_30 : (30 : Int32) = zI 30 := by decide
theorem z_31 : (31 : Int32) = zI 31 := by decide
theorem z_32 : (32 : Int32) = zI 32 := by decide
theorem z_33 : (33 : Int32) = zI 33 := by decide
theorem z_34 : (34 : Int32) = zI 34 := by decide
theorem z_35 : (35 : Int32) = zI 35 := by decide
theorem z_36 : (36 : Int32) = zI 36 := by decide
theorem z_37 : (37 : Int32) = zI 37 := by decide
theorem z_38 : (38 : Int32) = zI 38 := by decide
theorem z_39 : (39 : Int32) = zI 39 := by decide
theorem z_40 : (40 : Int32) = zI 40 := by decide
theorem z_41 : (41 : Int32) = zI 41 := by decide
theorem z_42 : (42 : Int32) = zI 42 := by decide
theorem z_43 : (43 : Int32) = zI 43 := by decide
theorem z_44 : (44 : Int32) = zI 44 := by decide
theorem z_45 : (45 : Int32) = zI 45 := by decide
theorem z_46 : (46 : Int32) = zI 46 := by decide
theorem z_47 : (47 : Int32) = zI 47 := by decide
theorem z_48 : (48 : Int32) = zI 48 := by decide
theorem z_49 : (49 : Int32) = zI 49 := by decide
theorem z_50 : (50 : Int32) = zI 50 := by decide
theorem z_51 : (51 : Int32) = zI 51 := by decide
theorem z_52 : (52 : Int32) = zI 52 := by decide
theorem z_53 : (53 : Int32) = zI 53 := by decide
theorem z_54 : (54 : Int32) = zI 54 := by decide
theorem z_55 : (55 : Int32) = zI 55 := by decide
theorem z_56 : (56 : Int32) = zI 56 := by decide
theorem z_57 : (57 : Int32) = zI 57 := by decide
theorem z_58 : (58 : Int32) = zI 58 := by decide
theorem z_59 : (59 : Int32) = zI 59 := by decide
theorem z_60 : (60 : Int32) = zI 60 := by decide
theorem z_61 : (61 : Int32) = zI 61 := by decide
theorem z_62 : (62 : Int32) = zI 62 := by decide
theorem z_63 : (63 : Int32) = zI 63 := by decide
theorem z_64 : (64 : Int32) = zI 64 := by decide
theorem z_65 : (65 : Int32) = zI 65 := by decide
theorem z_66 : (66 : Int32) = zI 66 := by decide
theorem z_67 : (67 : Int32) = zI 67 := by decide
theorem z_68 : (68 : Int32) = zI 68 := by decide
theorem z_69 : (69 : Int32) = zI 69 := by decide
theorem z_70 : (70 : Int32) = zI 70 := by decide
theorem z_71 : (71 : Int32) = zI 71 := by decide
theorem z_72 : (72 : Int32) = zI 72 := by decide
theorem z_73 : (73 : Int32) = zI 73 := by decide
theorem z_74 : (74 : Int32) = zI 74 := by decide
theorem z_75 : (75 : Int32) = zI 75 := by decide
theorem z_76 : (76 : Int32) = zI 76 := by decide
theorem z_77 : (77 : Int32) = zI 77 := by decide
theorem z_78 : (78 : Int32) = zI 78 := by decide
theorem z_79 : (79 : Int32) = zI 79 := by decide
theorem z_80 : (80 : Int32) = zI 80 := by decide
theorem z_81 : (81 : Int32) = zI 81 := by decide
theorem z_82 : (82 : Int32) = zI 82 := by decide
theorem z_83 : (83 : Int32) = zI 83 := by decide
theorem z_84 : (84 : Int32) = zI 84 := by decide
theorem z_85 : (85 : Int32) = zI 85 := by decide
theorem z_86 : (86 : Int32) = zI 86 := by decide
theorem z_87 : (87 : Int32) = zI 87 := by decide
theorem z_88 : (88 : Int32) = zI 88 := by decide
theorem z_89 : (89 : Int32) = zI 89 := by decide
theorem z_90 : (90 : Int32) = zI 90 := by decide
theorem z_91 : (91 : Int32) = zI 91 := by decide
theorem z_92 : (92 : Int32) = zI 92 := by decide
theorem z_93 : (93 : Int32) = zI 93 := by decide
theorem z_94 : (94 : Int32) = zI 94 := by decide
theorem z_95 : (95 : Int32) = zI 95 := by decide
theorem z_96 : (96 : Int32) = zI 96 := by decide
theorem z_97 : (97 : Int32) = zI 97 := by decide
theorem z_98 : (98 : Int32) = zI 98 := by decide
theorem z_99 : (99 : Int32) = zI 99 := by decide
theorem z_100 : (100 : Int32) = zI 100 := by decide
theorem z_101 : (101 : Int32) = zI 101 := by decide
theorem z_102 : (102 : Int32) = zI 102 := by decide
theorem z_103 : (103 : Int32) = zI 103 := by decide
theorem z_104 : (104 : Int32) = zI 104 := by decide
theorem z_105 : (105 : Int32) = zI 105 := by decide
theorem z_106 : (106 : Int32) = zI 106 := by decide
theorem z_107 : (107 : Int32) = zI 107 := by decide
theorem z_108 : (108 : Int32) = zI 108 := by decide
theorem z_109 : (109 : Int32) = zI 109 := by decide
theorem z_110 : (110 : Int32) = zI 110 := by decide
theorem z_111 : (111 : Int32) = zI 111 := by decide
theorem z_112 : (112 : Int32) = zI 112 := by decide
theorem z_113 : (113 : Int32) = zI 113 := by decide
theorem z_114 : (114 : Int32) = zI 114 := by decide
theorem z_115 : (115 : Int32) = zI 115 := by decide
theorem z_116 : (116 : Int32) = zI 116 := by decide
theorem z_117 : (117 : Int32) = zI 117 := by decide
theorem z_118 : (118 : Int32) = zI 118 := by decide
theorem z_119 : (119 : Int32) = zI 119 := by decide
theorem z_120 : (120 : Int32) = zI 120 := by decide
theorem z_121 : (121 : Int32) = zI 121 := by decide
theorem z_122 : (122 : Int32) = zI 122 := by decide
theorem z_123 : (123 : Int32) = zI 123 := by decide
theorem z_124 : (124 : Int32) = zI 124 := by decide
theorem z_125 : (125 : Int32) = zI 125 := by decide
theorem z_126 : (126 : Int32) = zI 126 := by decide
theorem z_127 : (127 : Int32) = zI 127 := by decide
theorem z_199 : (199 : Int32) = zI 199 := by decide
theorem z_200 : (200 : Int32) = zI 200 := by decide
theorem z_360 : (360 : Int32) = zI 360 := by decide
theorem z_410 : (410 : Int32) = zI 410 := by decide
theorem z_1000 : (1000 : Int32) = zI 1000 := by decide
theorem z_1023 : (1023 : Int32) = zI 1023 := by decide
theorem z_1024 : (1024 : Int32) = zI 1024 := by decide
theorem z_1219 : (1219 : Int32) = zI 1219 := by decide
theorem z_9999 : (9999 : Int32) = zI 9999 := by decide
theorem z_10240 : (10240 : Int32) = zI 10240 := by decide
theorem z_65537 : (65537 : Int32) = zI 65537 := by decide
theorem z_neg (a : Int) : -(zI a) = zI (-a) := Int32.neg_ofInt
theorem z_add (a b : Int) : zI a + zI b = zI (a + b) := (Int32.ofInt_add a b).symm
theorem z_sub (a b : Int) : zI a - zI b = zI (a - b) := (Int32.ofInt_sub a b).symm
theorem z_mul (a b : Int) : zI a * zI b = zI (a * b) := (Int32.ofInt_mul a b).symm
theorem z_toInt {a : Int} (h : -2147483648 ≤ a) (h' : a < 2147483648) : (zI a).toInt = a := Int32.toInt_ofInt_of_le h h'
theorem z_le {a b : Int} (h1 : -2147483648 ≤ a) (h2 : a < 2147483648) (h3 : -2147483648 ≤ b) (h4 : b < 2147483648) : zI a ≤ zI b ↔ a ≤ b := by
  rw [Int32.le_iff_toInt_le, z_toInt h1 h2, z_toInt h3 h4]
theorem z_lt {a b : Int} (h1 : -2147483648 ≤ a) (h2 : a < 2147483648) (h3 : -2147483648 ≤ b) (h4 : b < 2147483648) : zI a < zI b ↔ a < b := by
  rw [Int32.lt_iff_toInt_lt, z_toInt h1 h2, z_toInt h3 h4]
theorem z_eq {a b : Int} (h1 : -2147483648 ≤ a) (h2 : a < 2147483648) (h3 : -2147483648 ≤ b) (h4 : b < 2147483648) : zI a = zI b ↔ a = b := by
  rw [← Int32.toInt_inj, z_toInt h1 h2, z_toInt h3 h4]
theorem z_nat {a : Int} (h1 : -2147483648 ≤ a) (h2 : a < 2147483648) : (zI a).toNatClampNeg = a.toNat := Int32.toNatClampNeg_ofInt_of_le h1 h2
theorem z_of (x : Int32) : ∃ a : Int, -2147483648 ≤ a ∧ a < 2147483648 ∧ x = zI a := ⟨x.toInt, x.le_toInt, x.toInt_lt, (Int32.ofInt_toInt x).symm⟩
theorem z_div {a b : Int} (h1 : 0 ≤ a) (h2 : a < 2147483648) (h3 : 0 < b) (h4 : b < 2147483648) : zI a / zI b = zI (a / b) := by
  have e : a.tdiv b = a / b := Int.tdiv_eq_ediv_of_nonneg h1
  rw [← e]
  exact (Int32.ofInt_tdiv (by show (-2147483648 : Int) ≤ a; omega) (by show a ≤ (2147483647 : Int); omega) (by show (-2147483648 : Int) ≤ b; omega) (by show b ≤ (2147483647 : Int); omega)).symm
theorem z_rem {a b : Int} (h1 : 0 ≤ a) (h2 : a < 2147483648) (h3 : 0 < b) (h4 : b < 2147483648) : zI a - zI a / zI b * zI b = zI (a % b) := by
  rw [z_div h1 h2 h3 h4, z_mul, z_sub]
  congr 1
  have := Int.emod_add_mul_ediv a b
  rw [Int.mul_comm (a / b) b]
  omega
theorem s_bd {α β : Type} (x : α) (k : α → Option β) : q_bd x k = k x := rfl
theorem s_cl {α β : Type} (a : α) (k : α → Option β) : q_cl (some a) k = k a := rfl
theorem s_chk {β : Type} {b : Bool} (h : b = true) (x : Option β) : q_chk b x = x := by rw [h]; rfl
theorem s_inb {i : Int} {n : Nat} (h0 : 0 ≤ i) (h : i < n) (hn : n < 2147483648) : q_inb (zI i) n = true := by
  unfold q_inb
  apply decide_eq_true
  rw [z_nat (by omega) (by omega)]
  intro z
  rcases z with z | z
  · rw [z_0, z_lt (by omega) (by omega) (by omega) (by omega)] at z; omega
  · omega
theorem s_rd {β : Type} {σ : qS} {k n : Nat} {i : Int} (h0 : 0 ≤ i) (h : i < n) (hn : n < 2147483648) (K : Int32 → Option β) : q_rd σ k n (zI i) K = K (σ k i.toNat) := by
  unfold q_rd
  rw [s_inb h0 h hn, z_nat (by omega) (by omega)]; rfl
theorem s_wr {β : Type} {σ : qS} {k n : Nat} {i : Int} (h0 : 0 ≤ i) (h : i < n) (hn : n < 2147483648) (x : Int32) (K : qS → Option β) : q_wr σ k n (zI i) x K = K (q_up σ k (upd (σ k) i.toNat x)) := by
  unfold q_wr
  rw [s_inb h0 h hn, z_nat (by omega) (by omega)]; rfl
theorem s_nz {β : Type} {a : Int} (h1 : -2147483648 ≤ a) (h2 : a < 2147483648) (h : a ≠ 0) (x : Option β) : q_nz (zI a) x = x := by
  unfold q_nz
  rw [if_neg]
  rw [z_0, z_eq h1 h2 (by omega) (by omega)]; exact h
theorem lp_s {σ R : Type} {body : (σ → Option R) → (σ → Option R) → σ → Option R} {k : σ → Option R} {n : Nat} {s : σ} : q_lp body k (n + 1) s = body k (q_lp body k n) s := rfl
/-- a loop comes to what one turn of it says: a measure that falls below the fuel, an invariant -/
theorem lp_to {σ R : Type} {body : (σ → Option R) → (σ → Option R) → σ → Option R} {k : σ → Option R} (μ : σ → Nat) (P : σ → Prop) (Q : Option R → Prop)
    (h : ∀ (again : σ → Option R) (s : σ), P s → (∀ s', P s' → μ s' < μ s → Q (again s')) → Q (body k again s)) {N : Nat} {s0 : σ} (h0 : P s0) (hN : μ s0 < N) : Q (q_lp body k N s0) := by
  have all : ∀ n s, P s → μ s < n → Q (q_lp body k n s) := by
    intro n
    induction n with
    | zero => intro s _ hm; exact absurd hm (Nat.not_lt_zero _)
    | succ n ih =>
      intro s hs hm
      rw [lp_s]
      exact h _ s hs (fun s' h' hl => ih s' h' (by omega))
  exact all N s0 h0 hN
/-- a loop is a function of its state -/
theorem lp_eq {σ R : Type} {body : (σ → Option R) → (σ → Option R) → σ → Option R} {k : σ → Option R} (μ : σ → Nat) (P : σ → Prop) (f : σ → Option R)
    (h : ∀ (again : σ → Option R) (s : σ), P s → (∀ s', P s' → μ s' < μ s → again s' = f s') → body k again s = f s) {N : Nat} {s0 : σ} (h0 : P s0) (hN : μ s0 < N) : q_lp body k N s0 = f s0 := by
  have all : ∀ n s, P s → μ s < n → q_lp body k n s = f s := by
    intro n
    induction n with
    | zero => intro s _ hm; exact absurd hm (Nat.not_lt_zero _)
    | succ n ih =>
      intro s hs hm
      rw [lp_s]
      exact h _ s hs (fun s' h' hl => ih s' h' (by omega))
  exact all N s0 h0 hN
/-- a loop over coded states, with the fuel told -/
theorem lp_en {α σ R : Type} {body : (σ → Option R) → (σ → Option R) → σ → Option R} {k : σ → Option R} (c : α → σ) (f : Nat → α → Option R) (P : Nat → α → Prop) (h0 : ∀ a, ¬ P 0 a)
    (h : ∀ (again : σ → Option R) (N : Nat) (a : α), P (N + 1) a → (∀ a', P N a' → again (c a') = f N a') → body k again (c a) = f (N + 1) a) : ∀ (N : Nat) (a : α), P N a → q_lp body k N (c a) = f N a := by
  intro N
  induction N with
  | zero => intro a hp; exact absurd hp (h0 a)
  | succ N ih =>
    intro a hp
    rw [lp_s]
    exact h _ N a hp ih
def eC (d : Nat → Int → Int) : qS := fun k j => zI (d k j)
def ud (d : Nat → Int → Int) (k : Nat) (i v : Int) : Nat → Int → Int := fun a b => if a = k ∧ b = i then v else d a b
theorem eC_at (d : Nat → Int → Int) (k : Nat) {i : Int} (h : 0 ≤ i) : eC d k i.toNat = zI (d k i) := by
  show zI (d k (i.toNat : Int)) = _
  rw [Int.toNat_of_nonneg h]
theorem eC_up (d : Nat → Int → Int) (k : Nat) {i : Int} (h : 0 ≤ i) (v : Int) : q_up (eC d) k (upd (eC d k) i.toNat (zI v)) = eC (ud d k i v) := by
  funext a b
  unfold q_up eC ud upd
  by_cases ha : a = k
  · subst ha
    rw [Nat.beq_refl, cond_true]
    by_cases hb : b = i.toNat
    · rw [if_pos hb, if_pos ⟨rfl, by omega⟩]
    · rw [if_neg hb, if_neg (fun z => hb (by omega))]
  · have e : Nat.beq a k = false := by
      cases z : Nat.beq a k with
      | false => rfl
      | true => exact absurd (Nat.eq_of_beq_eq_true z) ha
    rw [e, cond_false, if_neg (fun z => ha z.1)]
theorem ud_same (d : Nat → Int → Int) (k : Nat) (i v : Int) : ud d k i v k i = v := by unfold ud; rw [if_pos ⟨rfl, rfl⟩]
theorem ud_ne (d : Nat → Int → Int) {k a : Nat} {i b : Int} (v : Int) (h : a ≠ k ∨ b ≠ i) : ud d k i v a b = d a b := by
  unfold ud
  rw [if_neg]
  omega


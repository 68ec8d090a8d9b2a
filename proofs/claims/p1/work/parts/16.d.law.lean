set_option maxHeartbeats 16000000 in
set_option maxRecDepth 100000 in
theorem whole_start {p : Program} {e : Env} {s : State} {m : MethodId} {below : List Frame} {meth : Method} {c : Code} (l : Launch) (hflags : l.flags = flags0) {b L : Nat} {xs : Nat → Int32} (hL : L ≤ 7) (C0 : lw_At p s m meth c b L xs) : W p l e room_1 s m #[Value.ref b] below meth c s.heap [] 0 0 (lw_Z below #[Value.ref b] s) (entryFrame m ([Value.ref b] : List Value).toArray 4) := by
  obtain ⟨hx, hb, hr, hml, hown, htsT, hX, hbl, hlocks, hgv⟩ := id C0
  obtain ⟨g, hK, hN⟩ := lw_tabs htsT
  have hts : ∀ w ∈ wsL_law, w.before #[Value.ref b] s = true := fun w h => htsT w (wsL_law_in w h)
  have F : CallFix p m c cL_law 4 s #[Value.ref b] wsL_law RL := ⟨hx, hb, hml, hown, hts⟩
  obtain ⟨Z, hZ⟩ : ∃ Z : Nat → Prop, Z = fun q => s.heap.size ≤ q := ⟨_, rfl⟩
  have hA : ∀ q : Nat, s.heap.size ≤ q → Z q := fun q h => by rw [hZ]; exact h
  have hbA : ¬ Z b := by rw [hZ]; exact Nat.not_le.mpr hbl
  have hP : va_P g.1 vwCl [] s.heap := P_nil
  have hD : va_D Z [] := D_nil
  have hi6 : ∀ w ∈ u_ws RX6 TX6 8, w ∈ wsL_law := inlX6
  have hi7 : ∀ w ∈ u_ws RX7 TX7 34, w ∈ wsL_law := inlX7
  have hl := lv_entry ([.ref b]) (n := 4) (Nat.le_of_ble_eq_true rfl)
  rw [lg_entry_eq]
  generalize (lg_sl ([.ref b]) ++ List.replicate (4 - (lg_sl ([.ref b])).length) Slot.unset).toArray = ls at hl ⊢
  have hl : lv_has ls 4 [(0, .ref b)] := hl
  obtain ⟨H, locs, hS, hP, K0⟩ : ∃ (H : Heap) (locs : List Loc), va_S Z s.heap H locs ∧ va_P g.1 vwCl [] H ∧ (W p l e room_1 s m #[Value.ref b] below meth c H locs 0 0 (lw_Z below #[Value.ref b] s) (F0 m 0 ls []) → W p l e room_1 s m #[Value.ref b] below meth c s.heap [] 0 0 (lw_Z below #[Value.ref b] s) (F0 m 0 ls [])) := ⟨s.heap, [], va_S.rf, hP, id⟩
  refine K0 ?_
  rcases Nat.lt_or_ge L 7 with hL7 | hL7
  · refine va_new (D := g.1) (ci := 6) (fs := [.null, .null, .null, .null, .null, .null, .null, .null]) (C := RX6) (T := TX6) (N := 8) hx hb hts hi6 tyX6 tyX6_ok hown (hts (.classLink RL 7 RX6) (by decide +kernel)) (hts (.instantiable RX6 8) (by decide +kernel)) (hts (.initialized RX6) (by decide +kernel)) hK hP hD hS hA rfl (by decide +kernel) (Nat.le_of_ble_eq_true rfl) (Nat.le_of_ble_eq_true rfl) dL_law_0 (fun q_1 H hP hD hS => ?_)
    have hP : va_P g.1 vwCl [(q_1, .inr (6, [.null, .null, .null, .null, .null, .null, .null, .null]))] H := hP
    have hD : va_D Z [(q_1, .inr (6, [.null, .null, .null, .null, .null, .null, .null, .null]))] := hD
    refine W.widen (k := 1) (n := 8) (by decide) (by decide) ?_
    refine lv_dup hx hb dL_law_3 rfl ?_
    refine gcI_v (As := []) (rest := [.ref q_1]) F hK hN hP hD hS hA (c_X6_init l g H.size q_1) gL_law_X6_init kX6_init rfl (hts (.initialized RX6) (by decide +kernel)) (hts (.methodLink RL 9 yX6_init) (by decide +kernel)) (hts (.instanceMethod yX6_init) (by decide +kernel)) rfl rfl rfl ⟨(Nat.le_of_ble_eq_true rfl), (Nat.le_of_ble_eq_true rfl)⟩ [0] [] rfl rfl rfl (by decide) rfl rfl rfl hl.1 (Nat.le_of_ble_eq_true rfl) dL_law_4 ⟨(Nat.le_of_ble_eq_true rfl), (Nat.le_of_ble_eq_true rfl)⟩ (fun u_w H locs hw hP hD hS => ?_)
    refine W.widen (k := 32) (n := 1151) (by decide) (by decide) ?_
    obtain ⟨E_2, rfl⟩ : ∃ z, z = u_w := ⟨_, rfl⟩
    have hw_3 := hw
    have hP : va_P g.1 vwCl [(q_1, .inr (6, [.ref (E_2 0 0), .ref (E_2 0 1), .ref (E_2 0 2), .ref (E_2 0 3), .ref (E_2 0 4), .ref (E_2 0 5), .ref (E_2 0 6), .ref (E_2 0 7)])), (E_2 0 0, .inr (1, oC (E_2 1) iC0)), aI g ((E_2 1) 0) 121 (fun _ => 0), aI g ((E_2 1) 1) 10 (fun _ => 5), aI g ((E_2 1) 2) 10 (fun _ => 0), aI g ((E_2 1) 3) 10 (fun _ => (-6)), aI g ((E_2 1) 4) 10 (fun j => nI j), aI g ((E_2 1) 5) 8 (fun _ => 0), aI g ((E_2 1) 6) 8 (fun _ => 0), (E_2 0 1, .inr (1, oC (E_2 2) iC0)), aI g ((E_2 2) 0) 121 (fun _ => 0), aI g ((E_2 2) 1) 10 (fun _ => 5), aI g ((E_2 2) 2) 10 (fun _ => 0), aI g ((E_2 2) 3) 10 (fun _ => (-6)), aI g ((E_2 2) 4) 10 (fun j => nI j), aI g ((E_2 2) 5) 8 (fun _ => 0), aI g ((E_2 2) 6) 8 (fun _ => 0), aQ g (E_2 0 2) 2 (fun _ => none), (E_2 0 3, .inr (3, [.ref (E_2 3 0), .int 0])), aI g (E_2 3 0) 60 (fun _ => 0), (E_2 0 4, .inr (2, [.int 0, .int 0, .int 0, .int 0, .int 0, .int 0])), (E_2 0 5, .inr (5, [.ref (E_2 5 0), .ref (E_2 5 1), .null])), aI g (E_2 5 0) 121 (fun _ => 0), aI g (E_2 5 1) 11 (fun _ => 0), (E_2 0 6, .inr (4, [.ref (E_2 6 0), .ref (E_2 6 1), .ref (E_2 6 2), .int 0])), aI g (E_2 6 0) 410 (fun _ => 0), aI g (E_2 6 1) 50 (fun _ => 0), aI g (E_2 6 2) 10 (fun _ => 0), (E_2 0 7, .inr (0, [.ref (E_2 7 0), .ref (E_2 7 1), .ref (E_2 7 2)])), aJ g (E_2 7 0) 11 (fun _ => 0), aJ g (E_2 7 1) 11 (fun _ => 0), aI g (E_2 7 2) 61 (fun _ => 0)] H := hP
    have hD : va_D Z [(q_1, .inr (6, [.ref (E_2 0 0), .ref (E_2 0 1), .ref (E_2 0 2), .ref (E_2 0 3), .ref (E_2 0 4), .ref (E_2 0 5), .ref (E_2 0 6), .ref (E_2 0 7)])), (E_2 0 0, .inr (1, oC (E_2 1) iC0)), aI g ((E_2 1) 0) 121 (fun _ => 0), aI g ((E_2 1) 1) 10 (fun _ => 5), aI g ((E_2 1) 2) 10 (fun _ => 0), aI g ((E_2 1) 3) 10 (fun _ => (-6)), aI g ((E_2 1) 4) 10 (fun j => nI j), aI g ((E_2 1) 5) 8 (fun _ => 0), aI g ((E_2 1) 6) 8 (fun _ => 0), (E_2 0 1, .inr (1, oC (E_2 2) iC0)), aI g ((E_2 2) 0) 121 (fun _ => 0), aI g ((E_2 2) 1) 10 (fun _ => 5), aI g ((E_2 2) 2) 10 (fun _ => 0), aI g ((E_2 2) 3) 10 (fun _ => (-6)), aI g ((E_2 2) 4) 10 (fun j => nI j), aI g ((E_2 2) 5) 8 (fun _ => 0), aI g ((E_2 2) 6) 8 (fun _ => 0), aQ g (E_2 0 2) 2 (fun _ => none), (E_2 0 3, .inr (3, [.ref (E_2 3 0), .int 0])), aI g (E_2 3 0) 60 (fun _ => 0), (E_2 0 4, .inr (2, [.int 0, .int 0, .int 0, .int 0, .int 0, .int 0])), (E_2 0 5, .inr (5, [.ref (E_2 5 0), .ref (E_2 5 1), .null])), aI g (E_2 5 0) 121 (fun _ => 0), aI g (E_2 5 1) 11 (fun _ => 0), (E_2 0 6, .inr (4, [.ref (E_2 6 0), .ref (E_2 6 1), .ref (E_2 6 2), .int 0])), aI g (E_2 6 0) 410 (fun _ => 0), aI g (E_2 6 1) 50 (fun _ => 0), aI g (E_2 6 2) 10 (fun _ => 0), (E_2 0 7, .inr (0, [.ref (E_2 7 0), .ref (E_2 7 1), .ref (E_2 7 2)])), aJ g (E_2 7 0) 11 (fun _ => 0), aJ g (E_2 7 1) 11 (fun _ => 0), aI g (E_2 7 2) 61 (fun _ => 0)] := hD
    refine lv_astore_n (lv' := [(1, .ref q_1), (0, .ref b)]) hx hb dL_law_7 rfl hl (by decide) rfl (fun ls hl => ?_)
    refine va_new (D := g.1) (ci := 7) (fs := [.null, .null, .null, .null, .null, .int 0, .int 0, .int 0, .int 0, .null, .null, .int 0, .null, .int 0, .null, .null, .null, .int 0, .null, .int 0, .int 0, .int 0, .int 0, .int 0, .null, .null, .null, .null, .null, .null, .null, .null, .int 0, .int 0]) (C := RX7) (T := TX7) (N := 34) hx hb hts hi7 tyX7 tyX7_ok hown (hts (.classLink RL 10 RX7) (by decide +kernel)) (hts (.instantiable RX7 34) (by decide +kernel)) (hts (.initialized RX7) (by decide +kernel)) hK hP hD hS hA rfl (by decide +kernel) (Nat.le_of_ble_eq_true rfl) (Nat.le_of_ble_eq_true rfl) dL_law_8 (fun q_4 H hP hD hS => ?_)
    have hP : va_P g.1 vwCl [(q_1, .inr (6, [.ref (E_2 0 0), .ref (E_2 0 1), .ref (E_2 0 2), .ref (E_2 0 3), .ref (E_2 0 4), .ref (E_2 0 5), .ref (E_2 0 6), .ref (E_2 0 7)])), (E_2 0 0, .inr (1, oC (E_2 1) iC0)), aI g ((E_2 1) 0) 121 (fun _ => 0), aI g ((E_2 1) 1) 10 (fun _ => 5), aI g ((E_2 1) 2) 10 (fun _ => 0), aI g ((E_2 1) 3) 10 (fun _ => (-6)), aI g ((E_2 1) 4) 10 (fun j => nI j), aI g ((E_2 1) 5) 8 (fun _ => 0), aI g ((E_2 1) 6) 8 (fun _ => 0), (E_2 0 1, .inr (1, oC (E_2 2) iC0)), aI g ((E_2 2) 0) 121 (fun _ => 0), aI g ((E_2 2) 1) 10 (fun _ => 5), aI g ((E_2 2) 2) 10 (fun _ => 0), aI g ((E_2 2) 3) 10 (fun _ => (-6)), aI g ((E_2 2) 4) 10 (fun j => nI j), aI g ((E_2 2) 5) 8 (fun _ => 0), aI g ((E_2 2) 6) 8 (fun _ => 0), aQ g (E_2 0 2) 2 (fun _ => none), (E_2 0 3, .inr (3, [.ref (E_2 3 0), .int 0])), aI g (E_2 3 0) 60 (fun _ => 0), (E_2 0 4, .inr (2, [.int 0, .int 0, .int 0, .int 0, .int 0, .int 0])), (E_2 0 5, .inr (5, [.ref (E_2 5 0), .ref (E_2 5 1), .null])), aI g (E_2 5 0) 121 (fun _ => 0), aI g (E_2 5 1) 11 (fun _ => 0), (E_2 0 6, .inr (4, [.ref (E_2 6 0), .ref (E_2 6 1), .ref (E_2 6 2), .int 0])), aI g (E_2 6 0) 410 (fun _ => 0), aI g (E_2 6 1) 50 (fun _ => 0), aI g (E_2 6 2) 10 (fun _ => 0), (E_2 0 7, .inr (0, [.ref (E_2 7 0), .ref (E_2 7 1), .ref (E_2 7 2)])), aJ g (E_2 7 0) 11 (fun _ => 0), aJ g (E_2 7 1) 11 (fun _ => 0), aI g (E_2 7 2) 61 (fun _ => 0), (q_4, .inr (7, [.null, .null, .null, .null, .null, .int 0, .int 0, .int 0, .int 0, .null, .null, .int 0, .null, .int 0, .null, .null, .null, .int 0, .null, .int 0, .int 0, .int 0, .int 0, .int 0, .null, .null, .null, .null, .null, .null, .null, .null, .int 0, .int 0]))] H := hP
    have hD : va_D Z [(q_1, .inr (6, [.ref (E_2 0 0), .ref (E_2 0 1), .ref (E_2 0 2), .ref (E_2 0 3), .ref (E_2 0 4), .ref (E_2 0 5), .ref (E_2 0 6), .ref (E_2 0 7)])), (E_2 0 0, .inr (1, oC (E_2 1) iC0)), aI g ((E_2 1) 0) 121 (fun _ => 0), aI g ((E_2 1) 1) 10 (fun _ => 5), aI g ((E_2 1) 2) 10 (fun _ => 0), aI g ((E_2 1) 3) 10 (fun _ => (-6)), aI g ((E_2 1) 4) 10 (fun j => nI j), aI g ((E_2 1) 5) 8 (fun _ => 0), aI g ((E_2 1) 6) 8 (fun _ => 0), (E_2 0 1, .inr (1, oC (E_2 2) iC0)), aI g ((E_2 2) 0) 121 (fun _ => 0), aI g ((E_2 2) 1) 10 (fun _ => 5), aI g ((E_2 2) 2) 10 (fun _ => 0), aI g ((E_2 2) 3) 10 (fun _ => (-6)), aI g ((E_2 2) 4) 10 (fun j => nI j), aI g ((E_2 2) 5) 8 (fun _ => 0), aI g ((E_2 2) 6) 8 (fun _ => 0), aQ g (E_2 0 2) 2 (fun _ => none), (E_2 0 3, .inr (3, [.ref (E_2 3 0), .int 0])), aI g (E_2 3 0) 60 (fun _ => 0), (E_2 0 4, .inr (2, [.int 0, .int 0, .int 0, .int 0, .int 0, .int 0])), (E_2 0 5, .inr (5, [.ref (E_2 5 0), .ref (E_2 5 1), .null])), aI g (E_2 5 0) 121 (fun _ => 0), aI g (E_2 5 1) 11 (fun _ => 0), (E_2 0 6, .inr (4, [.ref (E_2 6 0), .ref (E_2 6 1), .ref (E_2 6 2), .int 0])), aI g (E_2 6 0) 410 (fun _ => 0), aI g (E_2 6 1) 50 (fun _ => 0), aI g (E_2 6 2) 10 (fun _ => 0), (E_2 0 7, .inr (0, [.ref (E_2 7 0), .ref (E_2 7 1), .ref (E_2 7 2)])), aJ g (E_2 7 0) 11 (fun _ => 0), aJ g (E_2 7 1) 11 (fun _ => 0), aI g (E_2 7 2) 61 (fun _ => 0), (q_4, .inr (7, [.null, .null, .null, .null, .null, .int 0, .int 0, .int 0, .int 0, .null, .null, .int 0, .null, .int 0, .null, .null, .null, .int 0, .null, .int 0, .int 0, .int 0, .int 0, .int 0, .null, .null, .null, .null, .null, .null, .null, .null, .int 0, .int 0]))] := hD
    refine W.widen (k := 33) (n := 1185) (by decide) (by decide) ?_
    refine lv_dup hx hb dL_law_11 rfl ?_
    refine gcI_v (As := []) (rest := [.ref q_4]) F hK hN hP hD hS hA (c_X7_init l g H.size q_4) gL_law_X7_init kX7_init rfl (hts (.initialized RX7) (by decide +kernel)) (hts (.methodLink RL 12 yX7_init) (by decide +kernel)) (hts (.instanceMethod yX7_init) (by decide +kernel)) rfl rfl rfl ⟨(Nat.le_of_ble_eq_true rfl), (Nat.le_of_ble_eq_true rfl)⟩ [32] [0, 1, 2, 3, 4, 5, 6, 7, 8, 9, 10, 11, 12, 13, 14, 15, 16, 17, 18, 19, 20, 21, 22, 23, 24, 25, 26, 27, 28, 29, 30, 31] rfl rfl rfl (by decide) rfl rfl rfl hl.1 (Nat.le_of_ble_eq_true rfl) dL_law_12 ⟨(Nat.le_of_ble_eq_true rfl), (Nat.le_of_ble_eq_true rfl)⟩ (fun u_w H locs hw hP hD hS => ?_)
    refine W.widen (k := 53) (n := 16174) (by decide) (by decide) ?_
    obtain ⟨A_5, rfl⟩ : ∃ z, z = u_w := ⟨_, rfl⟩
    have hw_6 := hw
    have hP : va_P g.1 vwCl [(q_1, .inr (6, [.ref (E_2 0 0), .ref (E_2 0 1), .ref (E_2 0 2), .ref (E_2 0 3), .ref (E_2 0 4), .ref (E_2 0 5), .ref (E_2 0 6), .ref (E_2 0 7)])), (E_2 0 0, .inr (1, oC (E_2 1) iC0)), aI g ((E_2 1) 0) 121 (fun _ => 0), aI g ((E_2 1) 1) 10 (fun _ => 5), aI g ((E_2 1) 2) 10 (fun _ => 0), aI g ((E_2 1) 3) 10 (fun _ => (-6)), aI g ((E_2 1) 4) 10 (fun j => nI j), aI g ((E_2 1) 5) 8 (fun _ => 0), aI g ((E_2 1) 6) 8 (fun _ => 0), (E_2 0 1, .inr (1, oC (E_2 2) iC0)), aI g ((E_2 2) 0) 121 (fun _ => 0), aI g ((E_2 2) 1) 10 (fun _ => 5), aI g ((E_2 2) 2) 10 (fun _ => 0), aI g ((E_2 2) 3) 10 (fun _ => (-6)), aI g ((E_2 2) 4) 10 (fun j => nI j), aI g ((E_2 2) 5) 8 (fun _ => 0), aI g ((E_2 2) 6) 8 (fun _ => 0), aQ g (E_2 0 2) 2 (fun _ => none), (E_2 0 3, .inr (3, [.ref (E_2 3 0), .int 0])), aI g (E_2 3 0) 60 (fun _ => 0), (E_2 0 4, .inr (2, [.int 0, .int 0, .int 0, .int 0, .int 0, .int 0])), (E_2 0 5, .inr (5, [.ref (E_2 5 0), .ref (E_2 5 1), .null])), aI g (E_2 5 0) 121 (fun _ => 0), aI g (E_2 5 1) 11 (fun _ => 0), (E_2 0 6, .inr (4, [.ref (E_2 6 0), .ref (E_2 6 1), .ref (E_2 6 2), .int 0])), aI g (E_2 6 0) 410 (fun _ => 0), aI g (E_2 6 1) 50 (fun _ => 0), aI g (E_2 6 2) 10 (fun _ => 0), (E_2 0 7, .inr (0, [.ref (E_2 7 0), .ref (E_2 7 1), .ref (E_2 7 2)])), aJ g (E_2 7 0) 11 (fun _ => 0), aJ g (E_2 7 1) 11 (fun _ => 0), aI g (E_2 7 2) 61 (fun _ => 0), (q_4, .inr (7, oM A_5 iM0)), aI g (A_5 0) 121 (fun _ => 0), aI g (A_5 1) 10 (fun _ => 5), aI g (A_5 2) 10 (fun _ => 0), aI g (A_5 3) 10 (fun _ => (-6)), aI g (A_5 4) 10 (fun j => nI j), aI g (A_5 9) 8 (fun _ => 0), aI g (A_5 10) 8 (fun _ => 0), aI g (A_5 12) 60 (fun _ => 0), aI g (A_5 14) 60 (fun _ => 0), aI g (A_5 15) 60 (fun _ => 0), aI g (A_5 16) 60 (fun _ => 0), aI g (A_5 18) 34 (fun _ => 0), aI g (A_5 24) 121 (fun _ => 0), aI g (A_5 25) 10240 (fun _ => 0), aI g (A_5 26) 10 (fun _ => 0), aJ g (A_5 27) 22 (fun _ => 0), aJ g (A_5 28) 22 (fun _ => 0), aZ g (A_5 29) 3721 (fun _ => 0), aI g (A_5 30) 400 (fun _ => 0), aZ g (A_5 31) 2 (fun _ => 0)] H := hP
    have hD : va_D Z [(q_1, .inr (6, [.ref (E_2 0 0), .ref (E_2 0 1), .ref (E_2 0 2), .ref (E_2 0 3), .ref (E_2 0 4), .ref (E_2 0 5), .ref (E_2 0 6), .ref (E_2 0 7)])), (E_2 0 0, .inr (1, oC (E_2 1) iC0)), aI g ((E_2 1) 0) 121 (fun _ => 0), aI g ((E_2 1) 1) 10 (fun _ => 5), aI g ((E_2 1) 2) 10 (fun _ => 0), aI g ((E_2 1) 3) 10 (fun _ => (-6)), aI g ((E_2 1) 4) 10 (fun j => nI j), aI g ((E_2 1) 5) 8 (fun _ => 0), aI g ((E_2 1) 6) 8 (fun _ => 0), (E_2 0 1, .inr (1, oC (E_2 2) iC0)), aI g ((E_2 2) 0) 121 (fun _ => 0), aI g ((E_2 2) 1) 10 (fun _ => 5), aI g ((E_2 2) 2) 10 (fun _ => 0), aI g ((E_2 2) 3) 10 (fun _ => (-6)), aI g ((E_2 2) 4) 10 (fun j => nI j), aI g ((E_2 2) 5) 8 (fun _ => 0), aI g ((E_2 2) 6) 8 (fun _ => 0), aQ g (E_2 0 2) 2 (fun _ => none), (E_2 0 3, .inr (3, [.ref (E_2 3 0), .int 0])), aI g (E_2 3 0) 60 (fun _ => 0), (E_2 0 4, .inr (2, [.int 0, .int 0, .int 0, .int 0, .int 0, .int 0])), (E_2 0 5, .inr (5, [.ref (E_2 5 0), .ref (E_2 5 1), .null])), aI g (E_2 5 0) 121 (fun _ => 0), aI g (E_2 5 1) 11 (fun _ => 0), (E_2 0 6, .inr (4, [.ref (E_2 6 0), .ref (E_2 6 1), .ref (E_2 6 2), .int 0])), aI g (E_2 6 0) 410 (fun _ => 0), aI g (E_2 6 1) 50 (fun _ => 0), aI g (E_2 6 2) 10 (fun _ => 0), (E_2 0 7, .inr (0, [.ref (E_2 7 0), .ref (E_2 7 1), .ref (E_2 7 2)])), aJ g (E_2 7 0) 11 (fun _ => 0), aJ g (E_2 7 1) 11 (fun _ => 0), aI g (E_2 7 2) 61 (fun _ => 0), (q_4, .inr (7, oM A_5 iM0)), aI g (A_5 0) 121 (fun _ => 0), aI g (A_5 1) 10 (fun _ => 5), aI g (A_5 2) 10 (fun _ => 0), aI g (A_5 3) 10 (fun _ => (-6)), aI g (A_5 4) 10 (fun j => nI j), aI g (A_5 9) 8 (fun _ => 0), aI g (A_5 10) 8 (fun _ => 0), aI g (A_5 12) 60 (fun _ => 0), aI g (A_5 14) 60 (fun _ => 0), aI g (A_5 15) 60 (fun _ => 0), aI g (A_5 16) 60 (fun _ => 0), aI g (A_5 18) 34 (fun _ => 0), aI g (A_5 24) 121 (fun _ => 0), aI g (A_5 25) 10240 (fun _ => 0), aI g (A_5 26) 10 (fun _ => 0), aJ g (A_5 27) 22 (fun _ => 0), aJ g (A_5 28) 22 (fun _ => 0), aZ g (A_5 29) 3721 (fun _ => 0), aI g (A_5 30) 400 (fun _ => 0), aZ g (A_5 31) 2 (fun _ => 0)] := hD
    refine lv_astore_n (lv' := [(2, .ref q_4), (1, .ref q_1), (0, .ref b)]) hx hb dL_law_15 rfl hl (by decide) rfl (fun ls hl => ?_)
    refine lv_iconst (v := 0) hx hb dL_law_16 (by decide) ?_
    refine lv_istore_n (lv' := [(3, .int 0), (2, .ref q_4), (1, .ref q_1), (0, .ref b)]) hx hb dL_law_17 rfl hl (by decide) rfl (fun ls hl => ?_)
    refine lv_iload_n hx hb dL_law_18 rfl (lv_at hl 0 rfl) ?_
    refine lv_aload_n hx hb dL_law_19 rfl (lv_at hl 3 rfl) ?_
    refine va_slen hx hb hX hbl hbA hS dL_law_20 ?_
    refine lv_bipush (v := 7) hx hb dL_law_21 (by decide) ?_
    refine lv_isub hx hb dL_law_23 ?_
    refine lv_icmp_gt (tgt := 956) hx hb dL_law_24 (by decide) (fun _ => ?_) (fun cz => absurd (sc_len hL7) cz)
    refine lv_iconst (v := 1) hx hb dL_law_956 (by decide) ?_
    refine va_forget (fun q hq => by have hz := hS.2.2 q hq; rw [hZ] at hz; exact hz) ?_
    refine W.widen (k := 600000) (n := 7302250) (by decide) (by decide) ?_
    exact lw_ret hx hb hr hlocks dL_law_957
  · obtain rfl : L = 7 := Nat.le_antisymm hL hL7
    refine va_new (D := g.1) (ci := 6) (fs := [.null, .null, .null, .null, .null, .null, .null, .null]) (C := RX6) (T := TX6) (N := 8) hx hb hts hi6 tyX6 tyX6_ok hown (hts (.classLink RL 7 RX6) (by decide +kernel)) (hts (.instantiable RX6 8) (by decide +kernel)) (hts (.initialized RX6) (by decide +kernel)) hK hP hD hS hA rfl (by decide +kernel) (Nat.le_of_ble_eq_true rfl) (Nat.le_of_ble_eq_true rfl) dL_law_0 (fun q_1 H hP hD hS => ?_)
    have hP : va_P g.1 vwCl [(q_1, .inr (6, [.null, .null, .null, .null, .null, .null, .null, .null]))] H := hP
    have hD : va_D Z [(q_1, .inr (6, [.null, .null, .null, .null, .null, .null, .null, .null]))] := hD
    refine W.widen (k := 1) (n := 8) (by decide) (by decide) ?_
    refine lv_dup hx hb dL_law_3 rfl ?_
    refine gcI_v (As := []) (rest := [.ref q_1]) F hK hN hP hD hS hA (c_X6_init l g H.size q_1) gL_law_X6_init kX6_init rfl (hts (.initialized RX6) (by decide +kernel)) (hts (.methodLink RL 9 yX6_init) (by decide +kernel)) (hts (.instanceMethod yX6_init) (by decide +kernel)) rfl rfl rfl ⟨(Nat.le_of_ble_eq_true rfl), (Nat.le_of_ble_eq_true rfl)⟩ [0] [] rfl rfl rfl (by decide) rfl rfl rfl hl.1 (Nat.le_of_ble_eq_true rfl) dL_law_4 ⟨(Nat.le_of_ble_eq_true rfl), (Nat.le_of_ble_eq_true rfl)⟩ (fun u_w H locs hw hP hD hS => ?_)
    refine W.widen (k := 32) (n := 1151) (by decide) (by decide) ?_
    obtain ⟨E_2, rfl⟩ : ∃ z, z = u_w := ⟨_, rfl⟩
    have hw_3 := hw
    have hP : va_P g.1 vwCl [(q_1, .inr (6, [.ref (E_2 0 0), .ref (E_2 0 1), .ref (E_2 0 2), .ref (E_2 0 3), .ref (E_2 0 4), .ref (E_2 0 5), .ref (E_2 0 6), .ref (E_2 0 7)])), (E_2 0 0, .inr (1, oC (E_2 1) iC0)), aI g ((E_2 1) 0) 121 (fun _ => 0), aI g ((E_2 1) 1) 10 (fun _ => 5), aI g ((E_2 1) 2) 10 (fun _ => 0), aI g ((E_2 1) 3) 10 (fun _ => (-6)), aI g ((E_2 1) 4) 10 (fun j => nI j), aI g ((E_2 1) 5) 8 (fun _ => 0), aI g ((E_2 1) 6) 8 (fun _ => 0), (E_2 0 1, .inr (1, oC (E_2 2) iC0)), aI g ((E_2 2) 0) 121 (fun _ => 0), aI g ((E_2 2) 1) 10 (fun _ => 5), aI g ((E_2 2) 2) 10 (fun _ => 0), aI g ((E_2 2) 3) 10 (fun _ => (-6)), aI g ((E_2 2) 4) 10 (fun j => nI j), aI g ((E_2 2) 5) 8 (fun _ => 0), aI g ((E_2 2) 6) 8 (fun _ => 0), aQ g (E_2 0 2) 2 (fun _ => none), (E_2 0 3, .inr (3, [.ref (E_2 3 0), .int 0])), aI g (E_2 3 0) 60 (fun _ => 0), (E_2 0 4, .inr (2, [.int 0, .int 0, .int 0, .int 0, .int 0, .int 0])), (E_2 0 5, .inr (5, [.ref (E_2 5 0), .ref (E_2 5 1), .null])), aI g (E_2 5 0) 121 (fun _ => 0), aI g (E_2 5 1) 11 (fun _ => 0), (E_2 0 6, .inr (4, [.ref (E_2 6 0), .ref (E_2 6 1), .ref (E_2 6 2), .int 0])), aI g (E_2 6 0) 410 (fun _ => 0), aI g (E_2 6 1) 50 (fun _ => 0), aI g (E_2 6 2) 10 (fun _ => 0), (E_2 0 7, .inr (0, [.ref (E_2 7 0), .ref (E_2 7 1), .ref (E_2 7 2)])), aJ g (E_2 7 0) 11 (fun _ => 0), aJ g (E_2 7 1) 11 (fun _ => 0), aI g (E_2 7 2) 61 (fun _ => 0)] H := hP
    have hD : va_D Z [(q_1, .inr (6, [.ref (E_2 0 0), .ref (E_2 0 1), .ref (E_2 0 2), .ref (E_2 0 3), .ref (E_2 0 4), .ref (E_2 0 5), .ref (E_2 0 6), .ref (E_2 0 7)])), (E_2 0 0, .inr (1, oC (E_2 1) iC0)), aI g ((E_2 1) 0) 121 (fun _ => 0), aI g ((E_2 1) 1) 10 (fun _ => 5), aI g ((E_2 1) 2) 10 (fun _ => 0), aI g ((E_2 1) 3) 10 (fun _ => (-6)), aI g ((E_2 1) 4) 10 (fun j => nI j), aI g ((E_2 1) 5) 8 (fun _ => 0), aI g ((E_2 1) 6) 8 (fun _ => 0), (E_2 0 1, .inr (1, oC (E_2 2) iC0)), aI g ((E_2 2) 0) 121 (fun _ => 0), aI g ((E_2 2) 1) 10 (fun _ => 5), aI g ((E_2 2) 2) 10 (fun _ => 0), aI g ((E_2 2) 3) 10 (fun _ => (-6)), aI g ((E_2 2) 4) 10 (fun j => nI j), aI g ((E_2 2) 5) 8 (fun _ => 0), aI g ((E_2 2) 6) 8 (fun _ => 0), aQ g (E_2 0 2) 2 (fun _ => none), (E_2 0 3, .inr (3, [.ref (E_2 3 0), .int 0])), aI g (E_2 3 0) 60 (fun _ => 0), (E_2 0 4, .inr (2, [.int 0, .int 0, .int 0, .int 0, .int 0, .int 0])), (E_2 0 5, .inr (5, [.ref (E_2 5 0), .ref (E_2 5 1), .null])), aI g (E_2 5 0) 121 (fun _ => 0), aI g (E_2 5 1) 11 (fun _ => 0), (E_2 0 6, .inr (4, [.ref (E_2 6 0), .ref (E_2 6 1), .ref (E_2 6 2), .int 0])), aI g (E_2 6 0) 410 (fun _ => 0), aI g (E_2 6 1) 50 (fun _ => 0), aI g (E_2 6 2) 10 (fun _ => 0), (E_2 0 7, .inr (0, [.ref (E_2 7 0), .ref (E_2 7 1), .ref (E_2 7 2)])), aJ g (E_2 7 0) 11 (fun _ => 0), aJ g (E_2 7 1) 11 (fun _ => 0), aI g (E_2 7 2) 61 (fun _ => 0)] := hD
    refine lv_astore_n (lv' := [(1, .ref q_1), (0, .ref b)]) hx hb dL_law_7 rfl hl (by decide) rfl (fun ls hl => ?_)
    refine va_new (D := g.1) (ci := 7) (fs := [.null, .null, .null, .null, .null, .int 0, .int 0, .int 0, .int 0, .null, .null, .int 0, .null, .int 0, .null, .null, .null, .int 0, .null, .int 0, .int 0, .int 0, .int 0, .int 0, .null, .null, .null, .null, .null, .null, .null, .null, .int 0, .int 0]) (C := RX7) (T := TX7) (N := 34) hx hb hts hi7 tyX7 tyX7_ok hown (hts (.classLink RL 10 RX7) (by decide +kernel)) (hts (.instantiable RX7 34) (by decide +kernel)) (hts (.initialized RX7) (by decide +kernel)) hK hP hD hS hA rfl (by decide +kernel) (Nat.le_of_ble_eq_true rfl) (Nat.le_of_ble_eq_true rfl) dL_law_8 (fun q_4 H hP hD hS => ?_)
    have hP : va_P g.1 vwCl [(q_1, .inr (6, [.ref (E_2 0 0), .ref (E_2 0 1), .ref (E_2 0 2), .ref (E_2 0 3), .ref (E_2 0 4), .ref (E_2 0 5), .ref (E_2 0 6), .ref (E_2 0 7)])), (E_2 0 0, .inr (1, oC (E_2 1) iC0)), aI g ((E_2 1) 0) 121 (fun _ => 0), aI g ((E_2 1) 1) 10 (fun _ => 5), aI g ((E_2 1) 2) 10 (fun _ => 0), aI g ((E_2 1) 3) 10 (fun _ => (-6)), aI g ((E_2 1) 4) 10 (fun j => nI j), aI g ((E_2 1) 5) 8 (fun _ => 0), aI g ((E_2 1) 6) 8 (fun _ => 0), (E_2 0 1, .inr (1, oC (E_2 2) iC0)), aI g ((E_2 2) 0) 121 (fun _ => 0), aI g ((E_2 2) 1) 10 (fun _ => 5), aI g ((E_2 2) 2) 10 (fun _ => 0), aI g ((E_2 2) 3) 10 (fun _ => (-6)), aI g ((E_2 2) 4) 10 (fun j => nI j), aI g ((E_2 2) 5) 8 (fun _ => 0), aI g ((E_2 2) 6) 8 (fun _ => 0), aQ g (E_2 0 2) 2 (fun _ => none), (E_2 0 3, .inr (3, [.ref (E_2 3 0), .int 0])), aI g (E_2 3 0) 60 (fun _ => 0), (E_2 0 4, .inr (2, [.int 0, .int 0, .int 0, .int 0, .int 0, .int 0])), (E_2 0 5, .inr (5, [.ref (E_2 5 0), .ref (E_2 5 1), .null])), aI g (E_2 5 0) 121 (fun _ => 0), aI g (E_2 5 1) 11 (fun _ => 0), (E_2 0 6, .inr (4, [.ref (E_2 6 0), .ref (E_2 6 1), .ref (E_2 6 2), .int 0])), aI g (E_2 6 0) 410 (fun _ => 0), aI g (E_2 6 1) 50 (fun _ => 0), aI g (E_2 6 2) 10 (fun _ => 0), (E_2 0 7, .inr (0, [.ref (E_2 7 0), .ref (E_2 7 1), .ref (E_2 7 2)])), aJ g (E_2 7 0) 11 (fun _ => 0), aJ g (E_2 7 1) 11 (fun _ => 0), aI g (E_2 7 2) 61 (fun _ => 0), (q_4, .inr (7, [.null, .null, .null, .null, .null, .int 0, .int 0, .int 0, .int 0, .null, .null, .int 0, .null, .int 0, .null, .null, .null, .int 0, .null, .int 0, .int 0, .int 0, .int 0, .int 0, .null, .null, .null, .null, .null, .null, .null, .null, .int 0, .int 0]))] H := hP
    have hD : va_D Z [(q_1, .inr (6, [.ref (E_2 0 0), .ref (E_2 0 1), .ref (E_2 0 2), .ref (E_2 0 3), .ref (E_2 0 4), .ref (E_2 0 5), .ref (E_2 0 6), .ref (E_2 0 7)])), (E_2 0 0, .inr (1, oC (E_2 1) iC0)), aI g ((E_2 1) 0) 121 (fun _ => 0), aI g ((E_2 1) 1) 10 (fun _ => 5), aI g ((E_2 1) 2) 10 (fun _ => 0), aI g ((E_2 1) 3) 10 (fun _ => (-6)), aI g ((E_2 1) 4) 10 (fun j => nI j), aI g ((E_2 1) 5) 8 (fun _ => 0), aI g ((E_2 1) 6) 8 (fun _ => 0), (E_2 0 1, .inr (1, oC (E_2 2) iC0)), aI g ((E_2 2) 0) 121 (fun _ => 0), aI g ((E_2 2) 1) 10 (fun _ => 5), aI g ((E_2 2) 2) 10 (fun _ => 0), aI g ((E_2 2) 3) 10 (fun _ => (-6)), aI g ((E_2 2) 4) 10 (fun j => nI j), aI g ((E_2 2) 5) 8 (fun _ => 0), aI g ((E_2 2) 6) 8 (fun _ => 0), aQ g (E_2 0 2) 2 (fun _ => none), (E_2 0 3, .inr (3, [.ref (E_2 3 0), .int 0])), aI g (E_2 3 0) 60 (fun _ => 0), (E_2 0 4, .inr (2, [.int 0, .int 0, .int 0, .int 0, .int 0, .int 0])), (E_2 0 5, .inr (5, [.ref (E_2 5 0), .ref (E_2 5 1), .null])), aI g (E_2 5 0) 121 (fun _ => 0), aI g (E_2 5 1) 11 (fun _ => 0), (E_2 0 6, .inr (4, [.ref (E_2 6 0), .ref (E_2 6 1), .ref (E_2 6 2), .int 0])), aI g (E_2 6 0) 410 (fun _ => 0), aI g (E_2 6 1) 50 (fun _ => 0), aI g (E_2 6 2) 10 (fun _ => 0), (E_2 0 7, .inr (0, [.ref (E_2 7 0), .ref (E_2 7 1), .ref (E_2 7 2)])), aJ g (E_2 7 0) 11 (fun _ => 0), aJ g (E_2 7 1) 11 (fun _ => 0), aI g (E_2 7 2) 61 (fun _ => 0), (q_4, .inr (7, [.null, .null, .null, .null, .null, .int 0, .int 0, .int 0, .int 0, .null, .null, .int 0, .null, .int 0, .null, .null, .null, .int 0, .null, .int 0, .int 0, .int 0, .int 0, .int 0, .null, .null, .null, .null, .null, .null, .null, .null, .int 0, .int 0]))] := hD
    refine W.widen (k := 33) (n := 1185) (by decide) (by decide) ?_
    refine lv_dup hx hb dL_law_11 rfl ?_
    refine gcI_v (As := []) (rest := [.ref q_4]) F hK hN hP hD hS hA (c_X7_init l g H.size q_4) gL_law_X7_init kX7_init rfl (hts (.initialized RX7) (by decide +kernel)) (hts (.methodLink RL 12 yX7_init) (by decide +kernel)) (hts (.instanceMethod yX7_init) (by decide +kernel)) rfl rfl rfl ⟨(Nat.le_of_ble_eq_true rfl), (Nat.le_of_ble_eq_true rfl)⟩ [32] [0, 1, 2, 3, 4, 5, 6, 7, 8, 9, 10, 11, 12, 13, 14, 15, 16, 17, 18, 19, 20, 21, 22, 23, 24, 25, 26, 27, 28, 29, 30, 31] rfl rfl rfl (by decide) rfl rfl rfl hl.1 (Nat.le_of_ble_eq_true rfl) dL_law_12 ⟨(Nat.le_of_ble_eq_true rfl), (Nat.le_of_ble_eq_true rfl)⟩ (fun u_w H locs hw hP hD hS => ?_)
    refine W.widen (k := 53) (n := 16174) (by decide) (by decide) ?_
    obtain ⟨A_5, rfl⟩ : ∃ z, z = u_w := ⟨_, rfl⟩
    have hw_6 := hw
    have hP : va_P g.1 vwCl [(q_1, .inr (6, [.ref (E_2 0 0), .ref (E_2 0 1), .ref (E_2 0 2), .ref (E_2 0 3), .ref (E_2 0 4), .ref (E_2 0 5), .ref (E_2 0 6), .ref (E_2 0 7)])), (E_2 0 0, .inr (1, oC (E_2 1) iC0)), aI g ((E_2 1) 0) 121 (fun _ => 0), aI g ((E_2 1) 1) 10 (fun _ => 5), aI g ((E_2 1) 2) 10 (fun _ => 0), aI g ((E_2 1) 3) 10 (fun _ => (-6)), aI g ((E_2 1) 4) 10 (fun j => nI j), aI g ((E_2 1) 5) 8 (fun _ => 0), aI g ((E_2 1) 6) 8 (fun _ => 0), (E_2 0 1, .inr (1, oC (E_2 2) iC0)), aI g ((E_2 2) 0) 121 (fun _ => 0), aI g ((E_2 2) 1) 10 (fun _ => 5), aI g ((E_2 2) 2) 10 (fun _ => 0), aI g ((E_2 2) 3) 10 (fun _ => (-6)), aI g ((E_2 2) 4) 10 (fun j => nI j), aI g ((E_2 2) 5) 8 (fun _ => 0), aI g ((E_2 2) 6) 8 (fun _ => 0), aQ g (E_2 0 2) 2 (fun _ => none), (E_2 0 3, .inr (3, [.ref (E_2 3 0), .int 0])), aI g (E_2 3 0) 60 (fun _ => 0), (E_2 0 4, .inr (2, [.int 0, .int 0, .int 0, .int 0, .int 0, .int 0])), (E_2 0 5, .inr (5, [.ref (E_2 5 0), .ref (E_2 5 1), .null])), aI g (E_2 5 0) 121 (fun _ => 0), aI g (E_2 5 1) 11 (fun _ => 0), (E_2 0 6, .inr (4, [.ref (E_2 6 0), .ref (E_2 6 1), .ref (E_2 6 2), .int 0])), aI g (E_2 6 0) 410 (fun _ => 0), aI g (E_2 6 1) 50 (fun _ => 0), aI g (E_2 6 2) 10 (fun _ => 0), (E_2 0 7, .inr (0, [.ref (E_2 7 0), .ref (E_2 7 1), .ref (E_2 7 2)])), aJ g (E_2 7 0) 11 (fun _ => 0), aJ g (E_2 7 1) 11 (fun _ => 0), aI g (E_2 7 2) 61 (fun _ => 0), (q_4, .inr (7, oM A_5 iM0)), aI g (A_5 0) 121 (fun _ => 0), aI g (A_5 1) 10 (fun _ => 5), aI g (A_5 2) 10 (fun _ => 0), aI g (A_5 3) 10 (fun _ => (-6)), aI g (A_5 4) 10 (fun j => nI j), aI g (A_5 9) 8 (fun _ => 0), aI g (A_5 10) 8 (fun _ => 0), aI g (A_5 12) 60 (fun _ => 0), aI g (A_5 14) 60 (fun _ => 0), aI g (A_5 15) 60 (fun _ => 0), aI g (A_5 16) 60 (fun _ => 0), aI g (A_5 18) 34 (fun _ => 0), aI g (A_5 24) 121 (fun _ => 0), aI g (A_5 25) 10240 (fun _ => 0), aI g (A_5 26) 10 (fun _ => 0), aJ g (A_5 27) 22 (fun _ => 0), aJ g (A_5 28) 22 (fun _ => 0), aZ g (A_5 29) 3721 (fun _ => 0), aI g (A_5 30) 400 (fun _ => 0), aZ g (A_5 31) 2 (fun _ => 0)] H := hP
    have hD : va_D Z [(q_1, .inr (6, [.ref (E_2 0 0), .ref (E_2 0 1), .ref (E_2 0 2), .ref (E_2 0 3), .ref (E_2 0 4), .ref (E_2 0 5), .ref (E_2 0 6), .ref (E_2 0 7)])), (E_2 0 0, .inr (1, oC (E_2 1) iC0)), aI g ((E_2 1) 0) 121 (fun _ => 0), aI g ((E_2 1) 1) 10 (fun _ => 5), aI g ((E_2 1) 2) 10 (fun _ => 0), aI g ((E_2 1) 3) 10 (fun _ => (-6)), aI g ((E_2 1) 4) 10 (fun j => nI j), aI g ((E_2 1) 5) 8 (fun _ => 0), aI g ((E_2 1) 6) 8 (fun _ => 0), (E_2 0 1, .inr (1, oC (E_2 2) iC0)), aI g ((E_2 2) 0) 121 (fun _ => 0), aI g ((E_2 2) 1) 10 (fun _ => 5), aI g ((E_2 2) 2) 10 (fun _ => 0), aI g ((E_2 2) 3) 10 (fun _ => (-6)), aI g ((E_2 2) 4) 10 (fun j => nI j), aI g ((E_2 2) 5) 8 (fun _ => 0), aI g ((E_2 2) 6) 8 (fun _ => 0), aQ g (E_2 0 2) 2 (fun _ => none), (E_2 0 3, .inr (3, [.ref (E_2 3 0), .int 0])), aI g (E_2 3 0) 60 (fun _ => 0), (E_2 0 4, .inr (2, [.int 0, .int 0, .int 0, .int 0, .int 0, .int 0])), (E_2 0 5, .inr (5, [.ref (E_2 5 0), .ref (E_2 5 1), .null])), aI g (E_2 5 0) 121 (fun _ => 0), aI g (E_2 5 1) 11 (fun _ => 0), (E_2 0 6, .inr (4, [.ref (E_2 6 0), .ref (E_2 6 1), .ref (E_2 6 2), .int 0])), aI g (E_2 6 0) 410 (fun _ => 0), aI g (E_2 6 1) 50 (fun _ => 0), aI g (E_2 6 2) 10 (fun _ => 0), (E_2 0 7, .inr (0, [.ref (E_2 7 0), .ref (E_2 7 1), .ref (E_2 7 2)])), aJ g (E_2 7 0) 11 (fun _ => 0), aJ g (E_2 7 1) 11 (fun _ => 0), aI g (E_2 7 2) 61 (fun _ => 0), (q_4, .inr (7, oM A_5 iM0)), aI g (A_5 0) 121 (fun _ => 0), aI g (A_5 1) 10 (fun _ => 5), aI g (A_5 2) 10 (fun _ => 0), aI g (A_5 3) 10 (fun _ => (-6)), aI g (A_5 4) 10 (fun j => nI j), aI g (A_5 9) 8 (fun _ => 0), aI g (A_5 10) 8 (fun _ => 0), aI g (A_5 12) 60 (fun _ => 0), aI g (A_5 14) 60 (fun _ => 0), aI g (A_5 15) 60 (fun _ => 0), aI g (A_5 16) 60 (fun _ => 0), aI g (A_5 18) 34 (fun _ => 0), aI g (A_5 24) 121 (fun _ => 0), aI g (A_5 25) 10240 (fun _ => 0), aI g (A_5 26) 10 (fun _ => 0), aJ g (A_5 27) 22 (fun _ => 0), aJ g (A_5 28) 22 (fun _ => 0), aZ g (A_5 29) 3721 (fun _ => 0), aI g (A_5 30) 400 (fun _ => 0), aZ g (A_5 31) 2 (fun _ => 0)] := hD
    refine lv_astore_n (lv' := [(2, .ref q_4), (1, .ref q_1), (0, .ref b)]) hx hb dL_law_15 rfl hl (by decide) rfl (fun ls hl => ?_)
    refine lv_iconst (v := 0) hx hb dL_law_16 (by decide) ?_
    refine lv_istore_n (lv' := [(3, .int 0), (2, .ref q_4), (1, .ref q_1), (0, .ref b)]) hx hb dL_law_17 rfl hl (by decide) rfl (fun ls hl => ?_)
    refine lv_iload_n hx hb dL_law_18 rfl (lv_at hl 0 rfl) ?_
    refine lv_aload_n hx hb dL_law_19 rfl (lv_at hl 3 rfl) ?_
    refine va_slen hx hb hX hbl hbA hS dL_law_20 ?_
    refine gtop (y := 7) rfl ?_
    refine lv_bipush (v := 7) hx hb dL_law_21 (by decide) ?_
    refine lv_isub hx hb dL_law_23 ?_
    refine gtop (y := 0) (by decide) ?_
    refine lv_icmp_gt (tgt := 956) hx hb dL_law_24 (by decide) (fun c_7 => ?_) (fun c_7 => ?_)
    · exact absurd c_7 (by decide)
    · refine lv_aload_n hx hb dL_law_27 rfl (lv_at hl 3 rfl) ?_
      refine lv_iload_n hx hb dL_law_28 rfl (lv_at hl 0 rfl) ?_
      refine va_sld hx hb hX hbl hbA hS (vp_in_nI (n := 0) (by decide) (by decide)) dL_law_29 ?_
      refine lv_bipush (v := 31) hx hb dL_law_30 (by decide) ?_
      refine lv_iand hx hb dL_law_32 ?_
      by_cases k_8 : (xs (0 : Int32).toNatClampNeg) &&& 31 = 0
      · refine gtop (y := 0) k_8 ?_
        refine lv_tableIn (tgt := 156) (off := 123) hx hb dL_law_33 (by decide) (by decide) rfl (by decide) ?_
        exact ws_156 hx hb hr hlocks hown F hts hK hN hP hD hS hA hZ hbA hX hbl hl
      by_cases k_9 : (xs (0 : Int32).toNatClampNeg) &&& 31 = 1
      · refine gtop (y := 1) k_9 ?_
        refine lv_tableIn (tgt := 199) (off := 166) hx hb dL_law_33 (by decide) (by decide) rfl (by decide) ?_
        exact ws_199 hx hb hr hlocks hown F hts hK hN hP hD hS hA hZ hbA hX hbl hl
      by_cases k_10 : (xs (0 : Int32).toNatClampNeg) &&& 31 = 2
      · refine gtop (y := 2) k_10 ?_
        refine lv_tableIn (tgt := 242) (off := 209) hx hb dL_law_33 (by decide) (by decide) rfl (by decide) ?_
        exact ws_242 hx hb hr hlocks hown F hts hK hN hP hD hS hA hZ hbA hX hbl hl
      by_cases k_11 : (xs (0 : Int32).toNatClampNeg) &&& 31 = 3
      · refine gtop (y := 3) k_11 ?_
        refine lv_tableIn (tgt := 275) (off := 242) hx hb dL_law_33 (by decide) (by decide) rfl (by decide) ?_
        exact ws_275 hx hb hr hlocks hown F hts hK hN hP hD hS hA hZ hbA hX hbl hl
      by_cases k_12 : (xs (0 : Int32).toNatClampNeg) &&& 31 = 4
      · refine gtop (y := 4) k_12 ?_
        refine lv_tableIn (tgt := 308) (off := 275) hx hb dL_law_33 (by decide) (by decide) rfl (by decide) ?_
        exact ws_308 hx hb hr hlocks hown F hts hK hN hP hD hS hA hZ hbA hX hbl hl
      by_cases k_13 : (xs (0 : Int32).toNatClampNeg) &&& 31 = 5
      · refine gtop (y := 5) k_13 ?_
        refine lv_tableIn (tgt := 331) (off := 298) hx hb dL_law_33 (by decide) (by decide) rfl (by decide) ?_
        exact ws_331 hx hb hr hlocks hown F hts hK hN hP hD hS hA hZ hbA hX hbl hl
      by_cases k_14 : (xs (0 : Int32).toNatClampNeg) &&& 31 = 6
      · refine gtop (y := 6) k_14 ?_
        refine lv_tableIn (tgt := 344) (off := 311) hx hb dL_law_33 (by decide) (by decide) rfl (by decide) ?_
        exact ws_344 hx hb hr hlocks hown F hts hK hN hP hD hS hA hZ hbA hX hbl hl
      by_cases k_15 : (xs (0 : Int32).toNatClampNeg) &&& 31 = 7
      · refine gtop (y := 7) k_15 ?_
        refine lv_tableIn (tgt := 357) (off := 324) hx hb dL_law_33 (by decide) (by decide) rfl (by decide) ?_
        exact ws_357 hx hb hr hlocks hown F hts hK hN hP hD hS hA hZ hbA hX hbl hl
      by_cases k_16 : (xs (0 : Int32).toNatClampNeg) &&& 31 = 8
      · refine gtop (y := 8) k_16 ?_
        refine lv_tableIn (tgt := 380) (off := 347) hx hb dL_law_33 (by decide) (by decide) rfl (by decide) ?_
        exact ws_380 hx hb hr hlocks hown F hts hK hN hP hD hS hA hZ hbA hX hbl hl
      by_cases k_17 : (xs (0 : Int32).toNatClampNeg) &&& 31 = 9
      · refine gtop (y := 9) k_17 ?_
        refine lv_tableIn (tgt := 413) (off := 380) hx hb dL_law_33 (by decide) (by decide) rfl (by decide) ?_
        exact ws_413 hx hb hr hlocks hown F hts hK hN hP hD hS hA hZ hbA hX hbl hl
      by_cases k_18 : (xs (0 : Int32).toNatClampNeg) &&& 31 = 10
      · refine gtop (y := 10) k_18 ?_
        refine lv_tableIn (tgt := 436) (off := 403) hx hb dL_law_33 (by decide) (by decide) rfl (by decide) ?_
        exact ws_436 hx hb hr hlocks hown F hts hK hN hP hD hS hA hZ hbA hX hbl hl
      by_cases k_19 : (xs (0 : Int32).toNatClampNeg) &&& 31 = 11
      · refine gtop (y := 11) k_19 ?_
        refine lv_tableIn (tgt := 459) (off := 426) hx hb dL_law_33 (by decide) (by decide) rfl (by decide) ?_
        exact ws_459 hx hb hr hlocks hown F hts hK hN hP hD hS hA hZ hbA hX hbl hl
      by_cases k_20 : (xs (0 : Int32).toNatClampNeg) &&& 31 = 12
      · refine gtop (y := 12) k_20 ?_
        refine lv_tableIn (tgt := 482) (off := 449) hx hb dL_law_33 (by decide) (by decide) rfl (by decide) ?_
        exact ws_482 hx hb hr hlocks hown F hts hK hN hP hD hS hA hZ hbA hX hbl hl
      by_cases k_21 : (xs (0 : Int32).toNatClampNeg) &&& 31 = 13
      · refine gtop (y := 13) k_21 ?_
        refine lv_tableIn (tgt := 495) (off := 462) hx hb dL_law_33 (by decide) (by decide) rfl (by decide) ?_
        exact ws_495 hx hb hr hlocks hown F hts hK hN hP hD hS hA hZ hbA hX hbl hl
      by_cases k_22 : (xs (0 : Int32).toNatClampNeg) &&& 31 = 14
      · refine gtop (y := 14) k_22 ?_
        refine lv_tableIn (tgt := 538) (off := 505) hx hb dL_law_33 (by decide) (by decide) rfl (by decide) ?_
        exact ws_538 hx hb hr hlocks hown F hts hK hN hP hD hS hA hZ hbA hX hbl hl
      by_cases k_23 : (xs (0 : Int32).toNatClampNeg) &&& 31 = 15
      · refine gtop (y := 15) k_23 ?_
        refine lv_tableIn (tgt := 571) (off := 538) hx hb dL_law_33 (by decide) (by decide) rfl (by decide) ?_
        exact ws_571 hx hb hr hlocks hown F hts hK hN hP hD hS hA hZ hbA hX hbl hl
      by_cases k_24 : (xs (0 : Int32).toNatClampNeg) &&& 31 = 16
      · refine gtop (y := 16) k_24 ?_
        refine lv_tableIn (tgt := 604) (off := 571) hx hb dL_law_33 (by decide) (by decide) rfl (by decide) ?_
        exact ws_604 hx hb hr hlocks hown F hts hK hN hP hD hS hA hZ hbA hX hbl hl
      by_cases k_25 : (xs (0 : Int32).toNatClampNeg) &&& 31 = 17
      · refine gtop (y := 17) k_25 ?_
        refine lv_tableIn (tgt := 637) (off := 604) hx hb dL_law_33 (by decide) (by decide) rfl (by decide) ?_
        exact ws_637 hx hb hr hlocks hown F hts hK hN hP hD hS hA hZ hbA hX hbl hl
      by_cases k_26 : (xs (0 : Int32).toNatClampNeg) &&& 31 = 18
      · refine gtop (y := 18) k_26 ?_
        refine lv_tableIn (tgt := 670) (off := 637) hx hb dL_law_33 (by decide) (by decide) rfl (by decide) ?_
        exact ws_670 hx hb hr hlocks hown F hts hK hN hP hD hS hA hZ hbA hX hbl hl
      by_cases k_27 : (xs (0 : Int32).toNatClampNeg) &&& 31 = 19
      · refine gtop (y := 19) k_27 ?_
        refine lv_tableIn (tgt := 683) (off := 650) hx hb dL_law_33 (by decide) (by decide) rfl (by decide) ?_
        exact ws_683 hx hb hr hlocks hown F hts hK hN hP hD hS hA hZ hbA hX hbl hl
      by_cases k_28 : (xs (0 : Int32).toNatClampNeg) &&& 31 = 20
      · refine gtop (y := 20) k_28 ?_
        refine lv_tableIn (tgt := 706) (off := 673) hx hb dL_law_33 (by decide) (by decide) rfl (by decide) ?_
        exact ws_706 hx hb hr hlocks hown F hts hK hN hP hD hS hA hZ hbA hX hbl hl
      by_cases k_29 : (xs (0 : Int32).toNatClampNeg) &&& 31 = 21
      · refine gtop (y := 21) k_29 ?_
        refine lv_tableIn (tgt := 729) (off := 696) hx hb dL_law_33 (by decide) (by decide) rfl (by decide) ?_
        exact ws_729 hx hb hr hlocks hown F hts hK hN hP hD hS hA hZ hbA hX hbl hl
      by_cases k_30 : (xs (0 : Int32).toNatClampNeg) &&& 31 = 22
      · refine gtop (y := 22) k_30 ?_
        refine lv_tableIn (tgt := 805) (off := 772) hx hb dL_law_33 (by decide) (by decide) rfl (by decide) ?_
        exact ws_805 hx hb hr hlocks hown F hts hK hN hP hD hS hA hZ hbA hX hbl hl
      by_cases k_31 : (xs (0 : Int32).toNatClampNeg) &&& 31 = 23
      · refine gtop (y := 23) k_31 ?_
        refine lv_tableIn (tgt := 838) (off := 805) hx hb dL_law_33 (by decide) (by decide) rfl (by decide) ?_
        exact ws_838 hx hb hr hlocks hown F hts hK hN hP hD hS hA hZ hbA hX hbl hl
      by_cases k_32 : (xs (0 : Int32).toNatClampNeg) &&& 31 = 24
      · refine gtop (y := 24) k_32 ?_
        refine lv_tableIn (tgt := 881) (off := 848) hx hb dL_law_33 (by decide) (by decide) rfl (by decide) ?_
        exact ws_881 hx hb hr hlocks hown F hts hK hN hP hD hS hA hZ hbA hX hbl hl
      by_cases k_33 : (xs (0 : Int32).toNatClampNeg) &&& 31 = 25
      · refine gtop (y := 25) k_33 ?_
        refine lv_tableIn (tgt := 904) (off := 871) hx hb dL_law_33 (by decide) (by decide) rfl (by decide) ?_
        exact ws_904 hx hb hr hlocks hown F hts hK hN hP hD hS hA hZ hbA hX hbl hl
      by_cases k_34 : (xs (0 : Int32).toNatClampNeg) &&& 31 = 26
      · refine gtop (y := 26) k_34 ?_
        refine lv_tableIn (tgt := 927) (off := 894) hx hb dL_law_33 (by decide) (by decide) rfl (by decide) ?_
        exact ws_927 hx hb hr hlocks hown F hts hK hN hP hD hS hA hZ hbA hX hbl hl
      refine lv_tableOut (tgt := 950) hx hb dL_law_33 (sw_out 27 (by decide) (by decide) (lt_s (lt_s (lt_s (lt_s (lt_s (lt_s (lt_s (lt_s (lt_s (lt_s (lt_s (lt_s (lt_s (lt_s (lt_s (lt_s (lt_s (lt_s (lt_s (lt_s (lt_s (lt_s (lt_s (lt_s (lt_s (lt_s (lt_s lt_0 k_8) k_9) k_10) k_11) k_12) k_13) k_14) k_15) k_16) k_17) k_18) k_19) k_20) k_21) k_22) k_23) k_24) k_25) k_26) k_27) k_28) k_29) k_30) k_31) k_32) k_33) k_34)) (by decide) ?_
      refine lv_iinc (v := 7) (lv' := [(3, .int 7), (2, .ref q_4), (1, .ref q_1), (0, .ref b)]) hx hb dL_law_950 hl (k := 0) rfl (by decide) (by decide) rfl (fun ls hl => ?_)
      refine lv_goto (tgt := 18) hx hb dL_law_953 (by decide) ?_
      refine lv_iload_n hx hb dL_law_18 rfl (lv_at hl 0 rfl) ?_
      refine lv_aload_n hx hb dL_law_19 rfl (lv_at hl 3 rfl) ?_
      refine va_slen hx hb hX hbl hbA hS dL_law_20 ?_
      refine gtop (y := 7) rfl ?_
      refine lv_bipush (v := 7) hx hb dL_law_21 (by decide) ?_
      refine lv_isub hx hb dL_law_23 ?_
      refine gtop (y := 0) (by decide) ?_
      refine lv_icmp_gt (tgt := 956) hx hb dL_law_24 (by decide) (fun c_35 => ?_) (fun c_35 => ?_)
      · refine lv_iconst (v := 1) hx hb dL_law_956 (by decide) ?_
        refine va_forget (fun q hq => by have hz := hS.2.2 q hq; rw [hZ] at hz; exact hz) ?_
        refine W.widen (k := 600000) (n := 7302250) (by decide) (by decide) ?_
        exact lw_ret hx hb hr hlocks dL_law_957
      · exact absurd (by decide) c_35

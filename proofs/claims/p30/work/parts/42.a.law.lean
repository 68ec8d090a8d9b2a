set_option maxHeartbeats 16000000 in
set_option maxRecDepth 100000 in
theorem whole_start {p : Program} {e : Env} {s : State} {m : MethodId} {below : List Frame} {meth : Method} {c : Code} (l : Launch) (hflags : l.flags = flags0) {b L : Nat} {xs : Nat → Int32} (hL : L ≤ 260) (C0 : lw_At p s m meth c b L xs) : W p l e room_1 s m #[Value.ref b] below meth c s.heap [] 0 0 (lw_Z below #[Value.ref b] s) (entryFrame m ([Value.ref b] : List Value).toArray 30) := by
  obtain ⟨hx, hb, hr, hml, hown, htsT, hX, hbl, hlocks, hgv⟩ := id C0
  obtain ⟨g, hK, hN⟩ := lw_tabs htsT
  have hts : ∀ w ∈ wsL_law, w.before #[Value.ref b] s = true := fun w h => htsT w (wsL_law_in w h)
  have F : CallFix p m c cL_law 30 s #[Value.ref b] wsL_law RL := ⟨hx, hb, hml, hown, hts⟩
  obtain ⟨Z, hZ⟩ : ∃ Z : Nat → Prop, Z = fun q => s.heap.size ≤ q := ⟨_, rfl⟩
  have hA : ∀ q : Nat, s.heap.size ≤ q → Z q := fun q h => by rw [hZ]; exact h
  have hbA : ¬ Z b := by rw [hZ]; exact Nat.not_le.mpr hbl
  have hP : va_P g.1 vwCl [] s.heap := P_nil
  have hD : va_D Z [] := D_nil
  have hi6 : ∀ w ∈ u_ws RX6 TX6 8, w ∈ wsL_law := inlX6
  have hl := lv_entry ([.ref b]) (n := 30) (Nat.le_of_ble_eq_true rfl)
  rw [lg_entry_eq]
  generalize (lg_sl ([.ref b]) ++ List.replicate (30 - (lg_sl ([.ref b])).length) Slot.unset).toArray = ls at hl ⊢
  have hl : lv_has ls 30 [(0, .ref b)] := hl
  obtain ⟨H, locs, hS, hP, K0⟩ : ∃ (H : Heap) (locs : List Loc), va_S Z s.heap H locs ∧ va_P g.1 vwCl [] H ∧ (W p l e room_1 s m #[Value.ref b] below meth c H locs 0 0 (lw_Z below #[Value.ref b] s) (F0 m 0 ls []) → W p l e room_1 s m #[Value.ref b] below meth c s.heap [] 0 0 (lw_Z below #[Value.ref b] s) (F0 m 0 ls [])) := ⟨s.heap, [], va_S.rf, hP, id⟩
  refine K0 ?_
  refine va_new (D := g.1) (ci := 6) (fs := [.null, .null, .null, .null, .null, .null, .null, .null]) (C := RX6) (T := TX6) (N := 8) hx hb hts hi6 tyX6 tyX6_ok hown (hts (.classLink RL 15 RX6) (by decide +kernel)) (hts (.instantiable RX6 8) (by decide +kernel)) (hts (.initialized RX6) (by decide +kernel)) hK hP hD hS hA rfl (by decide +kernel) (Nat.le_of_ble_eq_true rfl) (Nat.le_of_ble_eq_true rfl) dL_law_0 (fun q_1 H hP hD hS => ?_)
  have hP : va_P g.1 vwCl [(q_1, .inr (6, [.null, .null, .null, .null, .null, .null, .null, .null]))] H := hP
  have hD : va_D Z [(q_1, .inr (6, [.null, .null, .null, .null, .null, .null, .null, .null]))] := hD
  refine W.widen (k := 1) (n := 8) (by decide) (by decide) ?_
  refine lv_dup hx hb dL_law_3 rfl ?_
  refine gcI_v (As := []) (rest := [.ref q_1]) F hK hN hP hD hS hA (c_X6_init l g H.size q_1) gL_law_X6_init kX6_init rfl (hts (.initialized RX6) (by decide +kernel)) (hts (.methodLink RL 47 yX6_init) (by decide +kernel)) (hts (.instanceMethod yX6_init) (by decide +kernel)) rfl rfl rfl ⟨(Nat.le_of_ble_eq_true rfl), (Nat.le_of_ble_eq_true rfl)⟩ [0] [] rfl rfl rfl (by decide) rfl rfl rfl hl.1 (Nat.le_of_ble_eq_true rfl) dL_law_4 ⟨(Nat.le_of_ble_eq_true rfl), (Nat.le_of_ble_eq_true rfl)⟩ (fun u_w H locs hw hP hD hS => ?_)
  refine W.widen (k := 32) (n := 1151) (by decide) (by decide) ?_
  obtain ⟨E_2, rfl⟩ : ∃ z, z = u_w := ⟨_, rfl⟩
  have hw_3 := hw
  have hP : va_P g.1 vwCl [(q_1, .inr (6, [.ref (E_2 0 0), .ref (E_2 0 1), .ref (E_2 0 2), .ref (E_2 0 3), .ref (E_2 0 4), .ref (E_2 0 5), .ref (E_2 0 6), .ref (E_2 0 7)])), (E_2 0 0, .inr (1, oC (E_2 1) iC0)), aI g ((E_2 1) 0) 121 (fun _ => 0), aI g ((E_2 1) 1) 10 (fun _ => 5), aI g ((E_2 1) 2) 10 (fun _ => 0), aI g ((E_2 1) 3) 10 (fun _ => (-6)), aI g ((E_2 1) 4) 10 (fun j => nI j), aI g ((E_2 1) 5) 8 (fun _ => 0), aI g ((E_2 1) 6) 8 (fun _ => 0), (E_2 0 1, .inr (1, oC (E_2 2) iC0)), aI g ((E_2 2) 0) 121 (fun _ => 0), aI g ((E_2 2) 1) 10 (fun _ => 5), aI g ((E_2 2) 2) 10 (fun _ => 0), aI g ((E_2 2) 3) 10 (fun _ => (-6)), aI g ((E_2 2) 4) 10 (fun j => nI j), aI g ((E_2 2) 5) 8 (fun _ => 0), aI g ((E_2 2) 6) 8 (fun _ => 0), aQ g (E_2 0 2) 2 (fun _ => none), (E_2 0 3, .inr (3, [.ref (E_2 3 0), .int 0])), aI g (E_2 3 0) 60 (fun _ => 0), (E_2 0 4, .inr (2, [.int 0, .int 0, .int 0, .int 0, .int 0, .int 0])), (E_2 0 5, .inr (5, [.ref (E_2 5 0), .ref (E_2 5 1), .null])), aI g (E_2 5 0) 121 (fun _ => 0), aI g (E_2 5 1) 11 (fun _ => 0), (E_2 0 6, .inr (4, [.ref (E_2 6 0), .ref (E_2 6 1), .ref (E_2 6 2), .int 0])), aI g (E_2 6 0) 410 (fun _ => 0), aI g (E_2 6 1) 50 (fun _ => 0), aI g (E_2 6 2) 10 (fun _ => 0), (E_2 0 7, .inr (0, [.ref (E_2 7 0), .ref (E_2 7 1), .ref (E_2 7 2)])), aJ g (E_2 7 0) 11 (fun _ => 0), aJ g (E_2 7 1) 11 (fun _ => 0), aI g (E_2 7 2) 61 (fun _ => 0)] H := hP
  have hD : va_D Z [(q_1, .inr (6, [.ref (E_2 0 0), .ref (E_2 0 1), .ref (E_2 0 2), .ref (E_2 0 3), .ref (E_2 0 4), .ref (E_2 0 5), .ref (E_2 0 6), .ref (E_2 0 7)])), (E_2 0 0, .inr (1, oC (E_2 1) iC0)), aI g ((E_2 1) 0) 121 (fun _ => 0), aI g ((E_2 1) 1) 10 (fun _ => 5), aI g ((E_2 1) 2) 10 (fun _ => 0), aI g ((E_2 1) 3) 10 (fun _ => (-6)), aI g ((E_2 1) 4) 10 (fun j => nI j), aI g ((E_2 1) 5) 8 (fun _ => 0), aI g ((E_2 1) 6) 8 (fun _ => 0), (E_2 0 1, .inr (1, oC (E_2 2) iC0)), aI g ((E_2 2) 0) 121 (fun _ => 0), aI g ((E_2 2) 1) 10 (fun _ => 5), aI g ((E_2 2) 2) 10 (fun _ => 0), aI g ((E_2 2) 3) 10 (fun _ => (-6)), aI g ((E_2 2) 4) 10 (fun j => nI j), aI g ((E_2 2) 5) 8 (fun _ => 0), aI g ((E_2 2) 6) 8 (fun _ => 0), aQ g (E_2 0 2) 2 (fun _ => none), (E_2 0 3, .inr (3, [.ref (E_2 3 0), .int 0])), aI g (E_2 3 0) 60 (fun _ => 0), (E_2 0 4, .inr (2, [.int 0, .int 0, .int 0, .int 0, .int 0, .int 0])), (E_2 0 5, .inr (5, [.ref (E_2 5 0), .ref (E_2 5 1), .null])), aI g (E_2 5 0) 121 (fun _ => 0), aI g (E_2 5 1) 11 (fun _ => 0), (E_2 0 6, .inr (4, [.ref (E_2 6 0), .ref (E_2 6 1), .ref (E_2 6 2), .int 0])), aI g (E_2 6 0) 410 (fun _ => 0), aI g (E_2 6 1) 50 (fun _ => 0), aI g (E_2 6 2) 10 (fun _ => 0), (E_2 0 7, .inr (0, [.ref (E_2 7 0), .ref (E_2 7 1), .ref (E_2 7 2)])), aJ g (E_2 7 0) 11 (fun _ => 0), aJ g (E_2 7 1) 11 (fun _ => 0), aI g (E_2 7 2) 61 (fun _ => 0)] := hD
  refine lv_astore_n (lv' := [(1, .ref q_1), (0, .ref b)]) hx hb dL_law_7 rfl hl (by decide) rfl (fun ls hl => ?_)
  have hP : va_P g.1 vwCl (wX6 q_1 (E_2 0) ++ wX1 g (E_2 0 0) (E_2 1) qC0 ++ wX1 g (E_2 0 1) (E_2 2) qC0 ++ wX3 g (E_2 0 3) (E_2 3) qZ0 ++ wX2 (E_2 0 4) qZ0 ++ wX5 g (E_2 0 5) (E_2 5) .null qZ0 ++ wX4 g (E_2 0 6) (E_2 6) qZ0 ++ wX0 g (E_2 0 7) (E_2 7) qZ0 (fun _ _ => 0)) H := hP.sub [0, 1, 2, 3, 4, 5, 6, 7, 8, 9, 10, 11, 12, 13, 14, 15, 16, 18, 19, 20, 21, 22, 23, 24, 25, 26, 27, 28, 29, 30, 31] rfl
  have hD : va_D Z (wX6 q_1 (E_2 0) ++ wX1 g (E_2 0 0) (E_2 1) qC0 ++ wX1 g (E_2 0 1) (E_2 2) qC0 ++ wX3 g (E_2 0 3) (E_2 3) qZ0 ++ wX2 (E_2 0 4) qZ0 ++ wX5 g (E_2 0 5) (E_2 5) .null qZ0 ++ wX4 g (E_2 0 6) (E_2 6) qZ0 ++ wX0 g (E_2 0 7) (E_2 7) qZ0 (fun _ _ => 0)) := hD.sub [0, 1, 2, 3, 4, 5, 6, 7, 8, 9, 10, 11, 12, 13, 14, 15, 16, 18, 19, 20, 21, 22, 23, 24, 25, 26, 27, 28, 29, 30, 31] (by decide) rfl
  rw [qC0_dz, qZ0_z] at hP hD
  have hl : lv_has ls 30 [(1, .ref q_1), (0, .ref b)] := hl
  refine W.widen (k := 100) (n := 20000) (by decide) (by decide) ?_
  exact gs_8 hx hb hr hlocks F hK hN hA hZ hbA hX hbl (law_8 hL xs _ _ _ _) hP hD hS (lv_sub hl [1, 0] rfl)

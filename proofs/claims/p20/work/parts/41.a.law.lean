set_option maxHeartbeats 8000000 in
set_option maxRecDepth 100000 in
theorem ws_156 {p : Program} {l : Launch} {e : Env} {s : State} {m : MethodId} {below : List Frame} {meth : Method} {c : Code} {b L : Nat} {xs : Nat → Int32} {g : GT} {Z : Nat → Prop} {H : Heap} {locs : List Loc} {ls : Array Slot} {qX qM : Nat} {AX AC AD AP AW AY AK AM : Nat → Nat} {i cells slots : Nat} {d f ep n mm : Nat → Int → Int} {σW σY σK : qS} {ℓK ℓM : qL} {QQ : Nat → Option Nat} {hh : Option (Nat × qS)} {i0 i1 : Option (Nat × (Nat → Nat) × (Nat → Int → Int))}
    (hx : p.tables.exec = Jvm.exec) (hb : c.code = cL_law) (F : CallFix p m c cL_law 4 s #[Value.ref b] wsL_law RL) (hK : va_K g.1 vwCl (tyL g) s) (hN : NW s) (hA : ∀ q : Nat, s.heap.size ≤ q → Z q) (hbA : ¬ Z b) (hX : va_X b L xs s s.heap) (hbl : b < s.heap.size) (hi : i + 7 ≤ L) (hL : L ≤ 3584) (hcR : cells + 8 ≤ room_1.cells ∧ slots + 10240 ≤ room_1.slots)
    (K : lw_C p l e s m below meth c b g Z qX qM AX AC AD AP AW AY AK AM i (cells + 8) (slots + 10240) 949) (hO : kO d f ep mm QQ i0 i1) (hP : va_P g.1 vwCl (kT g hh i0 i1 ++ kF g qX qM AX AC AD AP AW AY AK AM (eC d) (eC f) (eC ep) (eC n) (eC (pw mm d)) σW σY σK ℓK ℓM QQ (kV hh)) H) (hD : va_D Z (kT g hh i0 i1 ++ kF g qX qM AX AC AD AP AW AY AK AM (eC d) (eC f) (eC ep) (eC n) (eC (pw mm d)) σW σY σK ℓK ℓM QQ (kV hh))) (hS : va_S Z s.heap H locs) (hl : lv_has ls 4 [(3, .int (nI i)), (2, .ref qM), (1, .ref qX), (0, .ref b)]) : W p l e room_1 s m #[Value.ref b] below meth c H locs cells slots (lw_Z below #[Value.ref b] s) (F0 m 156 ls []) := by
  obtain ⟨r, d1, x1, m1, k1, k2⟩ := c_road mm d ℓM hO.xd (xs (nI (i + 1)).toNatClampNeg) (xs (nI (i + 2)).toNatClampNeg) (xs (nI (i + 3)).toNatClampNeg)
  refine lv_aload_n hx hb dL_law_156 rfl (lv_at hl 2 rfl) ?_
  refine lv_aload_n hx hb dL_law_157 rfl (lv_at hl 3 rfl) ?_
  refine lv_iload_n hx hb dL_law_158 rfl (lv_at hl 0 rfl) ?_
  refine lv_iconst (v := 1) hx hb dL_law_159 (by decide) ?_
  refine lv_iadd hx hb dL_law_160 ?_
  refine gtop (y := nI (i + 1)) (nI_adk i 1) ?_
  refine va_sld hx hb hX hbl hbA hS (vp_in_nI (n := i + 1) (by omega) (by omega)) dL_law_161 ?_
  refine lv_aload_n hx hb dL_law_162 rfl (lv_at hl 3 rfl) ?_
  refine lv_iload_n hx hb dL_law_163 rfl (lv_at hl 0 rfl) ?_
  refine lv_iconst (v := 2) hx hb dL_law_164 (by decide) ?_
  refine lv_iadd hx hb dL_law_165 ?_
  refine gtop (y := nI (i + 2)) (nI_adk i 2) ?_
  refine va_sld hx hb hX hbl hbA hS (vp_in_nI (n := i + 2) (by omega) (by omega)) dL_law_166 ?_
  refine lv_aload_n hx hb dL_law_167 rfl (lv_at hl 3 rfl) ?_
  refine lv_iload_n hx hb dL_law_168 rfl (lv_at hl 0 rfl) ?_
  refine lv_iconst (v := 3) hx hb dL_law_169 (by decide) ?_
  refine lv_iadd hx hb dL_law_170 ?_
  refine gtop (y := nI (i + 3)) (nI_adk i 3) ?_
  refine va_sld hx hb hX hbl hbA hS (vp_in_nI (n := i + 3) (by omega) (by omega)) dL_law_171 ?_
  refine gcV_iT (T := kT g hh i0 i1) (ws := kF g qX qM AX AC AD AP AW AY AK AM (eC d) (eC f) (eC ep) (eC n) (eC (pw mm d)) σW σY σK ℓK ℓM QQ (kV hh)) (As := [.int (xs (nI (i + 1)).toNatClampNeg), .int (xs (nI (i + 2)).toNatClampNeg), .int (xs (nI (i + 3)).toNatClampNeg)]) (rest := []) (ci := 6) (q := (RX6, TX6, 8)) F hK hN hP hD hS hA (m_X6_road l g H.size qX AX AC (eC d) (xs (nI (i + 1)).toNatClampNeg) (xs (nI (i + 2)).toNatClampNeg) (xs (nI (i + 3)).toNatClampNeg) r (eC d1) x1) gL_law_X6_road kX6_road rfl rfl rfl rfl ⟨(Nat.le_of_ble_eq_true rfl), (Nat.le_of_ble_eq_true rfl)⟩ [0, 1, 2, 3, 4, 5, 6, 7, 8] [9, 10, 11, 12, 13, 14, 15, 16, 17, 18, 19, 20, 21, 22, 23, 24, 25, 26, 27, 28, 29, 30, 31, 32, 33, 34, 35, 36, 37, 38, 39, 40, 41, 42, 43, 44, 45, 46, 47, 48, 49, 50, 51, 52] rfl rfl rfl (by decide) rfl rfl rfl rfl rfl hl.1 (Nat.le_of_ble_eq_true rfl) dL_law_172 ⟨by have := hcR.1; omega, by have := hcR.2; omega⟩ (fun r_w u_w H locs hw hP hD hS => ?_)
  have hP : va_P g.1 vwCl ((kT g hh i0 i1) ++ (kF g qX qM AX AC AD AP AW AY AK AM (eC d1) (eC f) (eC ep) (eC n) (eC (pw mm d)) σW σY σK ℓK ℓM QQ (kV hh))) H := tP_sub hP [44, 45, 46, 47, 48, 49, 50, 51, 52, 0, 1, 2, 3, 4, 5, 6, 7, 8, 9, 10, 11, 12, 13, 14, 15, 16, 17, 18, 19, 20, 21, 22, 23, 24, 25, 26, 27, 28, 29, 30, 31, 32, 33, 34, 35, 36, 37, 38, 39, 40, 41, 42, 43] rfl
  have hD : va_D Z ((kT g hh i0 i1) ++ (kF g qX qM AX AC AD AP AW AY AK AM (eC d1) (eC f) (eC ep) (eC n) (eC (pw mm d)) σW σY σK ℓK ℓM QQ (kV hh))) := tD_sub hD [44, 45, 46, 47, 48, 49, 50, 51, 52, 0, 1, 2, 3, 4, 5, 6, 7, 8, 9, 10, 11, 12, 13, 14, 15, 16, 17, 18, 19, 20, 21, 22, 23, 24, 25, 26, 27, 28, 29, 30, 31, 32, 33, 34, 35, 36, 37, 38, 39, 40, 41, 42, 43] (by decide) rfl
  obtain rfl := hw
  refine lv_pop hx hb dL_law_175 rfl ?_
  refine lv_aload_n hx hb dL_law_176 rfl (lv_at hl 1 rfl) ?_
  refine lv_aload_n hx hb dL_law_177 rfl (lv_at hl 3 rfl) ?_
  refine lv_iload_n hx hb dL_law_178 rfl (lv_at hl 0 rfl) ?_
  refine lv_iconst (v := 1) hx hb dL_law_179 (by decide) ?_
  refine lv_iadd hx hb dL_law_180 ?_
  refine gtop (y := nI (i + 1)) (nI_adk i 1) ?_
  refine va_sld hx hb hX hbl hbA hS (vp_in_nI (n := i + 1) (by omega) (by omega)) dL_law_181 ?_
  refine lv_aload_n hx hb dL_law_182 rfl (lv_at hl 3 rfl) ?_
  refine lv_iload_n hx hb dL_law_183 rfl (lv_at hl 0 rfl) ?_
  refine lv_iconst (v := 2) hx hb dL_law_184 (by decide) ?_
  refine lv_iadd hx hb dL_law_185 ?_
  refine gtop (y := nI (i + 2)) (nI_adk i 2) ?_
  refine va_sld hx hb hX hbl hbA hS (vp_in_nI (n := i + 2) (by omega) (by omega)) dL_law_186 ?_
  refine lv_aload_n hx hb dL_law_187 rfl (lv_at hl 3 rfl) ?_
  refine lv_iload_n hx hb dL_law_188 rfl (lv_at hl 0 rfl) ?_
  refine lv_iconst (v := 3) hx hb dL_law_189 (by decide) ?_
  refine lv_iadd hx hb dL_law_190 ?_
  refine gtop (y := nI (i + 3)) (nI_adk i 3) ?_
  refine va_sld hx hb hX hbl hbA hS (vp_in_nI (n := i + 3) (by omega) (by omega)) dL_law_191 ?_
  refine gcV_iT (T := kT g hh i0 i1) (ws := kF g qX qM AX AC AD AP AW AY AK AM (eC d1) (eC f) (eC ep) (eC n) (eC (pw mm d)) σW σY σK ℓK ℓM QQ (kV hh)) (As := [.int (xs (nI (i + 1)).toNatClampNeg), .int (xs (nI (i + 2)).toNatClampNeg), .int (xs (nI (i + 3)).toNatClampNeg)]) (rest := []) (ci := 7) (q := (RX7, TX7, 34)) F hK hN hP hD hS hA (m_X7_road l g H.size qM AM (eC (pw mm d)) ℓM (xs (nI (i + 1)).toNatClampNeg) (xs (nI (i + 2)).toNatClampNeg) (xs (nI (i + 3)).toNatClampNeg) r (eC (pw mm d1)) m1) gL_law_X7_road kX7_road rfl rfl rfl rfl ⟨(Nat.le_of_ble_eq_true rfl), (Nat.le_of_ble_eq_true rfl)⟩ [32, 33, 34, 35, 36, 37, 38, 39, 40, 41, 42, 43, 44, 45, 46, 47, 48, 49, 50, 51, 52] [0, 1, 2, 3, 4, 5, 6, 7, 8, 9, 10, 11, 12, 13, 14, 15, 16, 17, 18, 19, 20, 21, 22, 23, 24, 25, 26, 27, 28, 29, 30, 31] rfl rfl rfl (by decide) rfl rfl rfl rfl rfl hl.1 (Nat.le_of_ble_eq_true rfl) dL_law_192 ⟨by have := hcR.1; omega, by have := hcR.2; omega⟩ (fun r_w u_w H locs hw hP hD hS => ?_)
  have hP : va_P g.1 vwCl ((kT g hh i0 i1) ++ (kF g qX qM AX AC AD AP AW AY AK AM (eC d1) (eC f) (eC ep) (eC n) (eC (pw mm d1)) σW σY σK ℓK ℓM QQ (kV hh))) H := hP
  have hD : va_D Z ((kT g hh i0 i1) ++ (kF g qX qM AX AC AD AP AW AY AK AM (eC d1) (eC f) (eC ep) (eC n) (eC (pw mm d1)) σW σY σK ℓK ℓM QQ (kV hh))) := hD
  obtain rfl := hw
  refine lv_pop hx hb dL_law_195 rfl ?_
  refine lv_goto (tgt := 949) hx hb dL_law_196 (by decide) ?_
  refine W.widen (k := cells + 8) (n := slots + 10240) (by omega) (by omega) ?_
  exact K d1 f ep n mm σW σY σK ℓK ℓM QQ hh i0 i1 (hO.cl k1 k2) H locs ls hP hD hS hl
set_option maxHeartbeats 8000000 in
set_option maxRecDepth 100000 in
theorem ws_199 {p : Program} {l : Launch} {e : Env} {s : State} {m : MethodId} {below : List Frame} {meth : Method} {c : Code} {b L : Nat} {xs : Nat → Int32} {g : GT} {Z : Nat → Prop} {H : Heap} {locs : List Loc} {ls : Array Slot} {qX qM : Nat} {AX AC AD AP AW AY AK AM : Nat → Nat} {i cells slots : Nat} {d f ep n mm : Nat → Int → Int} {σW σY σK : qS} {ℓK ℓM : qL} {QQ : Nat → Option Nat} {hh : Option (Nat × qS)} {i0 i1 : Option (Nat × (Nat → Nat) × (Nat → Int → Int))}
    (hx : p.tables.exec = Jvm.exec) (hb : c.code = cL_law) (F : CallFix p m c cL_law 4 s #[Value.ref b] wsL_law RL) (hK : va_K g.1 vwCl (tyL g) s) (hN : NW s) (hA : ∀ q : Nat, s.heap.size ≤ q → Z q) (hbA : ¬ Z b) (hX : va_X b L xs s s.heap) (hbl : b < s.heap.size) (hi : i + 7 ≤ L) (hL : L ≤ 3584) (hcR : cells + 8 ≤ room_1.cells ∧ slots + 10240 ≤ room_1.slots)
    (K : lw_C p l e s m below meth c b g Z qX qM AX AC AD AP AW AY AK AM i (cells + 8) (slots + 10240) 949) (hO : kO d f ep mm QQ i0 i1) (hP : va_P g.1 vwCl (kT g hh i0 i1 ++ kF g qX qM AX AC AD AP AW AY AK AM (eC d) (eC f) (eC ep) (eC n) (eC (pw mm d)) σW σY σK ℓK ℓM QQ (kV hh)) H) (hD : va_D Z (kT g hh i0 i1 ++ kF g qX qM AX AC AD AP AW AY AK AM (eC d) (eC f) (eC ep) (eC n) (eC (pw mm d)) σW σY σK ℓK ℓM QQ (kV hh))) (hS : va_S Z s.heap H locs) (hl : lv_has ls 4 [(3, .int (nI i)), (2, .ref qM), (1, .ref qX), (0, .ref b)]) : W p l e room_1 s m #[Value.ref b] below meth c H locs cells slots (lw_Z below #[Value.ref b] s) (F0 m 199 ls []) := by
  obtain ⟨r, d1, x1, m1, k1, k2⟩ := c_house mm d ℓM hO.xd (xs (nI (i + 1)).toNatClampNeg) (xs (nI (i + 2)).toNatClampNeg) (xs (nI (i + 3)).toNatClampNeg)
  refine lv_aload_n hx hb dL_law_199 rfl (lv_at hl 2 rfl) ?_
  refine lv_aload_n hx hb dL_law_200 rfl (lv_at hl 3 rfl) ?_
  refine lv_iload_n hx hb dL_law_201 rfl (lv_at hl 0 rfl) ?_
  refine lv_iconst (v := 1) hx hb dL_law_202 (by decide) ?_
  refine lv_iadd hx hb dL_law_203 ?_
  refine gtop (y := nI (i + 1)) (nI_adk i 1) ?_
  refine va_sld hx hb hX hbl hbA hS (vp_in_nI (n := i + 1) (by omega) (by omega)) dL_law_204 ?_
  refine lv_aload_n hx hb dL_law_205 rfl (lv_at hl 3 rfl) ?_
  refine lv_iload_n hx hb dL_law_206 rfl (lv_at hl 0 rfl) ?_
  refine lv_iconst (v := 2) hx hb dL_law_207 (by decide) ?_
  refine lv_iadd hx hb dL_law_208 ?_
  refine gtop (y := nI (i + 2)) (nI_adk i 2) ?_
  refine va_sld hx hb hX hbl hbA hS (vp_in_nI (n := i + 2) (by omega) (by omega)) dL_law_209 ?_
  refine lv_aload_n hx hb dL_law_210 rfl (lv_at hl 3 rfl) ?_
  refine lv_iload_n hx hb dL_law_211 rfl (lv_at hl 0 rfl) ?_
  refine lv_iconst (v := 3) hx hb dL_law_212 (by decide) ?_
  refine lv_iadd hx hb dL_law_213 ?_
  refine gtop (y := nI (i + 3)) (nI_adk i 3) ?_
  refine va_sld hx hb hX hbl hbA hS (vp_in_nI (n := i + 3) (by omega) (by omega)) dL_law_214 ?_
  refine gcV_iT (T := kT g hh i0 i1) (ws := kF g qX qM AX AC AD AP AW AY AK AM (eC d) (eC f) (eC ep) (eC n) (eC (pw mm d)) σW σY σK ℓK ℓM QQ (kV hh)) (As := [.int (xs (nI (i + 1)).toNatClampNeg), .int (xs (nI (i + 2)).toNatClampNeg), .int (xs (nI (i + 3)).toNatClampNeg)]) (rest := []) (ci := 6) (q := (RX6, TX6, 8)) F hK hN hP hD hS hA (m_X6_house l g H.size qX AX AC (eC d) (xs (nI (i + 1)).toNatClampNeg) (xs (nI (i + 2)).toNatClampNeg) (xs (nI (i + 3)).toNatClampNeg) r (eC d1) x1) gL_law_X6_house kX6_house rfl rfl rfl rfl ⟨(Nat.le_of_ble_eq_true rfl), (Nat.le_of_ble_eq_true rfl)⟩ [0, 1, 2, 3, 4, 5, 6, 7, 8] [9, 10, 11, 12, 13, 14, 15, 16, 17, 18, 19, 20, 21, 22, 23, 24, 25, 26, 27, 28, 29, 30, 31, 32, 33, 34, 35, 36, 37, 38, 39, 40, 41, 42, 43, 44, 45, 46, 47, 48, 49, 50, 51, 52] rfl rfl rfl (by decide) rfl rfl rfl rfl rfl hl.1 (Nat.le_of_ble_eq_true rfl) dL_law_215 ⟨by have := hcR.1; omega, by have := hcR.2; omega⟩ (fun r_w u_w H locs hw hP hD hS => ?_)
  have hP : va_P g.1 vwCl ((kT g hh i0 i1) ++ (kF g qX qM AX AC AD AP AW AY AK AM (eC d1) (eC f) (eC ep) (eC n) (eC (pw mm d)) σW σY σK ℓK ℓM QQ (kV hh))) H := tP_sub hP [44, 45, 46, 47, 48, 49, 50, 51, 52, 0, 1, 2, 3, 4, 5, 6, 7, 8, 9, 10, 11, 12, 13, 14, 15, 16, 17, 18, 19, 20, 21, 22, 23, 24, 25, 26, 27, 28, 29, 30, 31, 32, 33, 34, 35, 36, 37, 38, 39, 40, 41, 42, 43] rfl
  have hD : va_D Z ((kT g hh i0 i1) ++ (kF g qX qM AX AC AD AP AW AY AK AM (eC d1) (eC f) (eC ep) (eC n) (eC (pw mm d)) σW σY σK ℓK ℓM QQ (kV hh))) := tD_sub hD [44, 45, 46, 47, 48, 49, 50, 51, 52, 0, 1, 2, 3, 4, 5, 6, 7, 8, 9, 10, 11, 12, 13, 14, 15, 16, 17, 18, 19, 20, 21, 22, 23, 24, 25, 26, 27, 28, 29, 30, 31, 32, 33, 34, 35, 36, 37, 38, 39, 40, 41, 42, 43] (by decide) rfl
  obtain rfl := hw
  refine lv_pop hx hb dL_law_218 rfl ?_
  refine lv_aload_n hx hb dL_law_219 rfl (lv_at hl 1 rfl) ?_
  refine lv_aload_n hx hb dL_law_220 rfl (lv_at hl 3 rfl) ?_
  refine lv_iload_n hx hb dL_law_221 rfl (lv_at hl 0 rfl) ?_
  refine lv_iconst (v := 1) hx hb dL_law_222 (by decide) ?_
  refine lv_iadd hx hb dL_law_223 ?_
  refine gtop (y := nI (i + 1)) (nI_adk i 1) ?_
  refine va_sld hx hb hX hbl hbA hS (vp_in_nI (n := i + 1) (by omega) (by omega)) dL_law_224 ?_
  refine lv_aload_n hx hb dL_law_225 rfl (lv_at hl 3 rfl) ?_
  refine lv_iload_n hx hb dL_law_226 rfl (lv_at hl 0 rfl) ?_
  refine lv_iconst (v := 2) hx hb dL_law_227 (by decide) ?_
  refine lv_iadd hx hb dL_law_228 ?_
  refine gtop (y := nI (i + 2)) (nI_adk i 2) ?_
  refine va_sld hx hb hX hbl hbA hS (vp_in_nI (n := i + 2) (by omega) (by omega)) dL_law_229 ?_
  refine lv_aload_n hx hb dL_law_230 rfl (lv_at hl 3 rfl) ?_
  refine lv_iload_n hx hb dL_law_231 rfl (lv_at hl 0 rfl) ?_
  refine lv_iconst (v := 3) hx hb dL_law_232 (by decide) ?_
  refine lv_iadd hx hb dL_law_233 ?_
  refine gtop (y := nI (i + 3)) (nI_adk i 3) ?_
  refine va_sld hx hb hX hbl hbA hS (vp_in_nI (n := i + 3) (by omega) (by omega)) dL_law_234 ?_
  refine gcV_iT (T := kT g hh i0 i1) (ws := kF g qX qM AX AC AD AP AW AY AK AM (eC d1) (eC f) (eC ep) (eC n) (eC (pw mm d)) σW σY σK ℓK ℓM QQ (kV hh)) (As := [.int (xs (nI (i + 1)).toNatClampNeg), .int (xs (nI (i + 2)).toNatClampNeg), .int (xs (nI (i + 3)).toNatClampNeg)]) (rest := []) (ci := 7) (q := (RX7, TX7, 34)) F hK hN hP hD hS hA (m_X7_house l g H.size qM AM (eC (pw mm d)) ℓM (xs (nI (i + 1)).toNatClampNeg) (xs (nI (i + 2)).toNatClampNeg) (xs (nI (i + 3)).toNatClampNeg) r (eC (pw mm d1)) m1) gL_law_X7_house kX7_house rfl rfl rfl rfl ⟨(Nat.le_of_ble_eq_true rfl), (Nat.le_of_ble_eq_true rfl)⟩ [32, 33, 34, 35, 36, 37, 38, 39, 40, 41, 42, 43, 44, 45, 46, 47, 48, 49, 50, 51, 52] [0, 1, 2, 3, 4, 5, 6, 7, 8, 9, 10, 11, 12, 13, 14, 15, 16, 17, 18, 19, 20, 21, 22, 23, 24, 25, 26, 27, 28, 29, 30, 31] rfl rfl rfl (by decide) rfl rfl rfl rfl rfl hl.1 (Nat.le_of_ble_eq_true rfl) dL_law_235 ⟨by have := hcR.1; omega, by have := hcR.2; omega⟩ (fun r_w u_w H locs hw hP hD hS => ?_)
  have hP : va_P g.1 vwCl ((kT g hh i0 i1) ++ (kF g qX qM AX AC AD AP AW AY AK AM (eC d1) (eC f) (eC ep) (eC n) (eC (pw mm d1)) σW σY σK ℓK ℓM QQ (kV hh))) H := hP
  have hD : va_D Z ((kT g hh i0 i1) ++ (kF g qX qM AX AC AD AP AW AY AK AM (eC d1) (eC f) (eC ep) (eC n) (eC (pw mm d1)) σW σY σK ℓK ℓM QQ (kV hh))) := hD
  obtain rfl := hw
  refine lv_pop hx hb dL_law_238 rfl ?_
  refine lv_goto (tgt := 949) hx hb dL_law_239 (by decide) ?_
  refine W.widen (k := cells + 8) (n := slots + 10240) (by omega) (by omega) ?_
  exact K d1 f ep n mm σW σY σK ℓK ℓM QQ hh i0 i1 (hO.cl k1 k2) H locs ls hP hD hS hl
set_option maxHeartbeats 8000000 in
set_option maxRecDepth 100000 in
theorem ws_242 {p : Program} {l : Launch} {e : Env} {s : State} {m : MethodId} {below : List Frame} {meth : Method} {c : Code} {b L : Nat} {xs : Nat → Int32} {g : GT} {Z : Nat → Prop} {H : Heap} {locs : List Loc} {ls : Array Slot} {qX qM : Nat} {AX AC AD AP AW AY AK AM : Nat → Nat} {i cells slots : Nat} {d f ep n mm : Nat → Int → Int} {σW σY σK : qS} {ℓK ℓM : qL} {QQ : Nat → Option Nat} {hh : Option (Nat × qS)} {i0 i1 : Option (Nat × (Nat → Nat) × (Nat → Int → Int))}
    (hx : p.tables.exec = Jvm.exec) (hb : c.code = cL_law) (F : CallFix p m c cL_law 4 s #[Value.ref b] wsL_law RL) (hK : va_K g.1 vwCl (tyL g) s) (hN : NW s) (hA : ∀ q : Nat, s.heap.size ≤ q → Z q) (hbA : ¬ Z b) (hX : va_X b L xs s s.heap) (hbl : b < s.heap.size) (hi : i + 7 ≤ L) (hL : L ≤ 3584) (hcR : cells + 8 ≤ room_1.cells ∧ slots + 10240 ≤ room_1.slots)
    (K : lw_C p l e s m below meth c b g Z qX qM AX AC AD AP AW AY AK AM i (cells + 8) (slots + 10240) 949) (hO : kO d f ep mm QQ i0 i1) (hP : va_P g.1 vwCl (kT g hh i0 i1 ++ kF g qX qM AX AC AD AP AW AY AK AM (eC d) (eC f) (eC ep) (eC n) (eC (pw mm d)) σW σY σK ℓK ℓM QQ (kV hh)) H) (hD : va_D Z (kT g hh i0 i1 ++ kF g qX qM AX AC AD AP AW AY AK AM (eC d) (eC f) (eC ep) (eC n) (eC (pw mm d)) σW σY σK ℓK ℓM QQ (kV hh))) (hS : va_S Z s.heap H locs) (hl : lv_has ls 4 [(3, .int (nI i)), (2, .ref qM), (1, .ref qX), (0, .ref b)]) : W p l e room_1 s m #[Value.ref b] below meth c H locs cells slots (lw_Z below #[Value.ref b] s) (F0 m 242 ls []) := by
  obtain ⟨r, d1, x1, m1, k1, k2⟩ := c_tell mm d ℓM hO.xd (xs (nI (i + 1)).toNatClampNeg) (xs (nI (i + 2)).toNatClampNeg)
  refine lv_aload_n hx hb dL_law_242 rfl (lv_at hl 2 rfl) ?_
  refine lv_aload_n hx hb dL_law_243 rfl (lv_at hl 3 rfl) ?_
  refine lv_iload_n hx hb dL_law_244 rfl (lv_at hl 0 rfl) ?_
  refine lv_iconst (v := 1) hx hb dL_law_245 (by decide) ?_
  refine lv_iadd hx hb dL_law_246 ?_
  refine gtop (y := nI (i + 1)) (nI_adk i 1) ?_
  refine va_sld hx hb hX hbl hbA hS (vp_in_nI (n := i + 1) (by omega) (by omega)) dL_law_247 ?_
  refine lv_aload_n hx hb dL_law_248 rfl (lv_at hl 3 rfl) ?_
  refine lv_iload_n hx hb dL_law_249 rfl (lv_at hl 0 rfl) ?_
  refine lv_iconst (v := 2) hx hb dL_law_250 (by decide) ?_
  refine lv_iadd hx hb dL_law_251 ?_
  refine gtop (y := nI (i + 2)) (nI_adk i 2) ?_
  refine va_sld hx hb hX hbl hbA hS (vp_in_nI (n := i + 2) (by omega) (by omega)) dL_law_252 ?_
  refine gcV_iT (T := kT g hh i0 i1) (ws := kF g qX qM AX AC AD AP AW AY AK AM (eC d) (eC f) (eC ep) (eC n) (eC (pw mm d)) σW σY σK ℓK ℓM QQ (kV hh)) (As := [.int (xs (nI (i + 1)).toNatClampNeg), .int (xs (nI (i + 2)).toNatClampNeg)]) (rest := []) (ci := 6) (q := (RX6, TX6, 8)) F hK hN hP hD hS hA (m_X6_tell l g H.size qX AX AC (eC d) (xs (nI (i + 1)).toNatClampNeg) (xs (nI (i + 2)).toNatClampNeg) r (eC d1) x1) gL_law_X6_tell kX6_tell rfl rfl rfl rfl ⟨(Nat.le_of_ble_eq_true rfl), (Nat.le_of_ble_eq_true rfl)⟩ [0, 1, 2, 3, 4, 5, 6, 7, 8] [9, 10, 11, 12, 13, 14, 15, 16, 17, 18, 19, 20, 21, 22, 23, 24, 25, 26, 27, 28, 29, 30, 31, 32, 33, 34, 35, 36, 37, 38, 39, 40, 41, 42, 43, 44, 45, 46, 47, 48, 49, 50, 51, 52] rfl rfl rfl (by decide) rfl rfl rfl rfl rfl hl.1 (Nat.le_of_ble_eq_true rfl) dL_law_253 ⟨by have := hcR.1; omega, by have := hcR.2; omega⟩ (fun r_w u_w H locs hw hP hD hS => ?_)
  have hP : va_P g.1 vwCl ((kT g hh i0 i1) ++ (kF g qX qM AX AC AD AP AW AY AK AM (eC d1) (eC f) (eC ep) (eC n) (eC (pw mm d)) σW σY σK ℓK ℓM QQ (kV hh))) H := tP_sub hP [44, 45, 46, 47, 48, 49, 50, 51, 52, 0, 1, 2, 3, 4, 5, 6, 7, 8, 9, 10, 11, 12, 13, 14, 15, 16, 17, 18, 19, 20, 21, 22, 23, 24, 25, 26, 27, 28, 29, 30, 31, 32, 33, 34, 35, 36, 37, 38, 39, 40, 41, 42, 43] rfl
  have hD : va_D Z ((kT g hh i0 i1) ++ (kF g qX qM AX AC AD AP AW AY AK AM (eC d1) (eC f) (eC ep) (eC n) (eC (pw mm d)) σW σY σK ℓK ℓM QQ (kV hh))) := tD_sub hD [44, 45, 46, 47, 48, 49, 50, 51, 52, 0, 1, 2, 3, 4, 5, 6, 7, 8, 9, 10, 11, 12, 13, 14, 15, 16, 17, 18, 19, 20, 21, 22, 23, 24, 25, 26, 27, 28, 29, 30, 31, 32, 33, 34, 35, 36, 37, 38, 39, 40, 41, 42, 43] (by decide) rfl
  obtain rfl := hw
  refine lv_pop hx hb dL_law_256 rfl ?_
  refine lv_aload_n hx hb dL_law_257 rfl (lv_at hl 1 rfl) ?_
  refine lv_aload_n hx hb dL_law_258 rfl (lv_at hl 3 rfl) ?_
  refine lv_iload_n hx hb dL_law_259 rfl (lv_at hl 0 rfl) ?_
  refine lv_iconst (v := 1) hx hb dL_law_260 (by decide) ?_
  refine lv_iadd hx hb dL_law_261 ?_
  refine gtop (y := nI (i + 1)) (nI_adk i 1) ?_
  refine va_sld hx hb hX hbl hbA hS (vp_in_nI (n := i + 1) (by omega) (by omega)) dL_law_262 ?_
  refine lv_aload_n hx hb dL_law_263 rfl (lv_at hl 3 rfl) ?_
  refine lv_iload_n hx hb dL_law_264 rfl (lv_at hl 0 rfl) ?_
  refine lv_iconst (v := 2) hx hb dL_law_265 (by decide) ?_
  refine lv_iadd hx hb dL_law_266 ?_
  refine gtop (y := nI (i + 2)) (nI_adk i 2) ?_
  refine va_sld hx hb hX hbl hbA hS (vp_in_nI (n := i + 2) (by omega) (by omega)) dL_law_267 ?_
  refine gcV_iT (T := kT g hh i0 i1) (ws := kF g qX qM AX AC AD AP AW AY AK AM (eC d1) (eC f) (eC ep) (eC n) (eC (pw mm d)) σW σY σK ℓK ℓM QQ (kV hh)) (As := [.int (xs (nI (i + 1)).toNatClampNeg), .int (xs (nI (i + 2)).toNatClampNeg)]) (rest := []) (ci := 7) (q := (RX7, TX7, 34)) F hK hN hP hD hS hA (m_X7_tell l g H.size qM AM (eC (pw mm d)) ℓM (xs (nI (i + 1)).toNatClampNeg) (xs (nI (i + 2)).toNatClampNeg) r (eC (pw mm d1)) m1) gL_law_X7_tell kX7_tell rfl rfl rfl rfl ⟨(Nat.le_of_ble_eq_true rfl), (Nat.le_of_ble_eq_true rfl)⟩ [32, 33, 34, 35, 36, 37, 38, 39, 40, 41, 42, 43, 44, 45, 46, 47, 48, 49, 50, 51, 52] [0, 1, 2, 3, 4, 5, 6, 7, 8, 9, 10, 11, 12, 13, 14, 15, 16, 17, 18, 19, 20, 21, 22, 23, 24, 25, 26, 27, 28, 29, 30, 31] rfl rfl rfl (by decide) rfl rfl rfl rfl rfl hl.1 (Nat.le_of_ble_eq_true rfl) dL_law_268 ⟨by have := hcR.1; omega, by have := hcR.2; omega⟩ (fun r_w u_w H locs hw hP hD hS => ?_)
  have hP : va_P g.1 vwCl ((kT g hh i0 i1) ++ (kF g qX qM AX AC AD AP AW AY AK AM (eC d1) (eC f) (eC ep) (eC n) (eC (pw mm d1)) σW σY σK ℓK ℓM QQ (kV hh))) H := hP
  have hD : va_D Z ((kT g hh i0 i1) ++ (kF g qX qM AX AC AD AP AW AY AK AM (eC d1) (eC f) (eC ep) (eC n) (eC (pw mm d1)) σW σY σK ℓK ℓM QQ (kV hh))) := hD
  obtain rfl := hw
  refine lv_pop hx hb dL_law_271 rfl ?_
  refine lv_goto (tgt := 949) hx hb dL_law_272 (by decide) ?_
  refine W.widen (k := cells + 8) (n := slots + 10240) (by omega) (by omega) ?_
  exact K d1 f ep n mm σW σY σK ℓK ℓM QQ hh i0 i1 (hO.cl k1 k2) H locs ls hP hD hS hl
set_option maxHeartbeats 8000000 in
set_option maxRecDepth 100000 in
theorem ws_275 {p : Program} {l : Launch} {e : Env} {s : State} {m : MethodId} {below : List Frame} {meth : Method} {c : Code} {b L : Nat} {xs : Nat → Int32} {g : GT} {Z : Nat → Prop} {H : Heap} {locs : List Loc} {ls : Array Slot} {qX qM : Nat} {AX AC AD AP AW AY AK AM : Nat → Nat} {i cells slots : Nat} {d f ep n mm : Nat → Int → Int} {σW σY σK : qS} {ℓK ℓM : qL} {QQ : Nat → Option Nat} {hh : Option (Nat × qS)} {i0 i1 : Option (Nat × (Nat → Nat) × (Nat → Int → Int))}
    (hx : p.tables.exec = Jvm.exec) (hb : c.code = cL_law) (F : CallFix p m c cL_law 4 s #[Value.ref b] wsL_law RL) (hK : va_K g.1 vwCl (tyL g) s) (hN : NW s) (hA : ∀ q : Nat, s.heap.size ≤ q → Z q) (hbA : ¬ Z b) (hX : va_X b L xs s s.heap) (hbl : b < s.heap.size) (hi : i + 7 ≤ L) (hL : L ≤ 3584) (hcR : cells + 8 ≤ room_1.cells ∧ slots + 10240 ≤ room_1.slots)
    (K : lw_C p l e s m below meth c b g Z qX qM AX AC AD AP AW AY AK AM i (cells + 8) (slots + 10240) 949) (hO : kO d f ep mm QQ i0 i1) (hP : va_P g.1 vwCl (kT g hh i0 i1 ++ kF g qX qM AX AC AD AP AW AY AK AM (eC d) (eC f) (eC ep) (eC n) (eC (pw mm d)) σW σY σK ℓK ℓM QQ (kV hh)) H) (hD : va_D Z (kT g hh i0 i1 ++ kF g qX qM AX AC AD AP AW AY AK AM (eC d) (eC f) (eC ep) (eC n) (eC (pw mm d)) σW σY σK ℓK ℓM QQ (kV hh))) (hS : va_S Z s.heap H locs) (hl : lv_has ls 4 [(3, .int (nI i)), (2, .ref qM), (1, .ref qX), (0, .ref b)]) : W p l e room_1 s m #[Value.ref b] below meth c H locs cells slots (lw_Z below #[Value.ref b] s) (F0 m 275 ls []) := by
  obtain ⟨r, d1, x1, m1, k1, k2⟩ := c_fade mm d ℓM hO.xd (xs (nI (i + 1)).toNatClampNeg) (xs (nI (i + 2)).toNatClampNeg)
  refine lv_aload_n hx hb dL_law_275 rfl (lv_at hl 2 rfl) ?_
  refine lv_aload_n hx hb dL_law_276 rfl (lv_at hl 3 rfl) ?_
  refine lv_iload_n hx hb dL_law_277 rfl (lv_at hl 0 rfl) ?_
  refine lv_iconst (v := 1) hx hb dL_law_278 (by decide) ?_
  refine lv_iadd hx hb dL_law_279 ?_
  refine gtop (y := nI (i + 1)) (nI_adk i 1) ?_
  refine va_sld hx hb hX hbl hbA hS (vp_in_nI (n := i + 1) (by omega) (by omega)) dL_law_280 ?_
  refine lv_aload_n hx hb dL_law_281 rfl (lv_at hl 3 rfl) ?_
  refine lv_iload_n hx hb dL_law_282 rfl (lv_at hl 0 rfl) ?_
  refine lv_iconst (v := 2) hx hb dL_law_283 (by decide) ?_
  refine lv_iadd hx hb dL_law_284 ?_
  refine gtop (y := nI (i + 2)) (nI_adk i 2) ?_
  refine va_sld hx hb hX hbl hbA hS (vp_in_nI (n := i + 2) (by omega) (by omega)) dL_law_285 ?_
  refine gcV_iT (T := kT g hh i0 i1) (ws := kF g qX qM AX AC AD AP AW AY AK AM (eC d) (eC f) (eC ep) (eC n) (eC (pw mm d)) σW σY σK ℓK ℓM QQ (kV hh)) (As := [.int (xs (nI (i + 1)).toNatClampNeg), .int (xs (nI (i + 2)).toNatClampNeg)]) (rest := []) (ci := 6) (q := (RX6, TX6, 8)) F hK hN hP hD hS hA (m_X6_fade l g H.size qX AX AC (eC d) (xs (nI (i + 1)).toNatClampNeg) (xs (nI (i + 2)).toNatClampNeg) r (eC d1) x1) gL_law_X6_fade kX6_fade rfl rfl rfl rfl ⟨(Nat.le_of_ble_eq_true rfl), (Nat.le_of_ble_eq_true rfl)⟩ [0, 1, 2, 3, 4, 5, 6, 7, 8] [9, 10, 11, 12, 13, 14, 15, 16, 17, 18, 19, 20, 21, 22, 23, 24, 25, 26, 27, 28, 29, 30, 31, 32, 33, 34, 35, 36, 37, 38, 39, 40, 41, 42, 43, 44, 45, 46, 47, 48, 49, 50, 51, 52] rfl rfl rfl (by decide) rfl rfl rfl rfl rfl hl.1 (Nat.le_of_ble_eq_true rfl) dL_law_286 ⟨by have := hcR.1; omega, by have := hcR.2; omega⟩ (fun r_w u_w H locs hw hP hD hS => ?_)
  have hP : va_P g.1 vwCl ((kT g hh i0 i1) ++ (kF g qX qM AX AC AD AP AW AY AK AM (eC d1) (eC f) (eC ep) (eC n) (eC (pw mm d)) σW σY σK ℓK ℓM QQ (kV hh))) H := tP_sub hP [44, 45, 46, 47, 48, 49, 50, 51, 52, 0, 1, 2, 3, 4, 5, 6, 7, 8, 9, 10, 11, 12, 13, 14, 15, 16, 17, 18, 19, 20, 21, 22, 23, 24, 25, 26, 27, 28, 29, 30, 31, 32, 33, 34, 35, 36, 37, 38, 39, 40, 41, 42, 43] rfl
  have hD : va_D Z ((kT g hh i0 i1) ++ (kF g qX qM AX AC AD AP AW AY AK AM (eC d1) (eC f) (eC ep) (eC n) (eC (pw mm d)) σW σY σK ℓK ℓM QQ (kV hh))) := tD_sub hD [44, 45, 46, 47, 48, 49, 50, 51, 52, 0, 1, 2, 3, 4, 5, 6, 7, 8, 9, 10, 11, 12, 13, 14, 15, 16, 17, 18, 19, 20, 21, 22, 23, 24, 25, 26, 27, 28, 29, 30, 31, 32, 33, 34, 35, 36, 37, 38, 39, 40, 41, 42, 43] (by decide) rfl
  obtain rfl := hw
  refine lv_pop hx hb dL_law_289 rfl ?_
  refine lv_aload_n hx hb dL_law_290 rfl (lv_at hl 1 rfl) ?_
  refine lv_aload_n hx hb dL_law_291 rfl (lv_at hl 3 rfl) ?_
  refine lv_iload_n hx hb dL_law_292 rfl (lv_at hl 0 rfl) ?_
  refine lv_iconst (v := 1) hx hb dL_law_293 (by decide) ?_
  refine lv_iadd hx hb dL_law_294 ?_
  refine gtop (y := nI (i + 1)) (nI_adk i 1) ?_
  refine va_sld hx hb hX hbl hbA hS (vp_in_nI (n := i + 1) (by omega) (by omega)) dL_law_295 ?_
  refine lv_aload_n hx hb dL_law_296 rfl (lv_at hl 3 rfl) ?_
  refine lv_iload_n hx hb dL_law_297 rfl (lv_at hl 0 rfl) ?_
  refine lv_iconst (v := 2) hx hb dL_law_298 (by decide) ?_
  refine lv_iadd hx hb dL_law_299 ?_
  refine gtop (y := nI (i + 2)) (nI_adk i 2) ?_
  refine va_sld hx hb hX hbl hbA hS (vp_in_nI (n := i + 2) (by omega) (by omega)) dL_law_300 ?_
  refine gcV_iT (T := kT g hh i0 i1) (ws := kF g qX qM AX AC AD AP AW AY AK AM (eC d1) (eC f) (eC ep) (eC n) (eC (pw mm d)) σW σY σK ℓK ℓM QQ (kV hh)) (As := [.int (xs (nI (i + 1)).toNatClampNeg), .int (xs (nI (i + 2)).toNatClampNeg)]) (rest := []) (ci := 7) (q := (RX7, TX7, 34)) F hK hN hP hD hS hA (m_X7_fade l g H.size qM AM (eC (pw mm d)) ℓM (xs (nI (i + 1)).toNatClampNeg) (xs (nI (i + 2)).toNatClampNeg) r (eC (pw mm d1)) m1) gL_law_X7_fade kX7_fade rfl rfl rfl rfl ⟨(Nat.le_of_ble_eq_true rfl), (Nat.le_of_ble_eq_true rfl)⟩ [32, 33, 34, 35, 36, 37, 38, 39, 40, 41, 42, 43, 44, 45, 46, 47, 48, 49, 50, 51, 52] [0, 1, 2, 3, 4, 5, 6, 7, 8, 9, 10, 11, 12, 13, 14, 15, 16, 17, 18, 19, 20, 21, 22, 23, 24, 25, 26, 27, 28, 29, 30, 31] rfl rfl rfl (by decide) rfl rfl rfl rfl rfl hl.1 (Nat.le_of_ble_eq_true rfl) dL_law_301 ⟨by have := hcR.1; omega, by have := hcR.2; omega⟩ (fun r_w u_w H locs hw hP hD hS => ?_)
  have hP : va_P g.1 vwCl ((kT g hh i0 i1) ++ (kF g qX qM AX AC AD AP AW AY AK AM (eC d1) (eC f) (eC ep) (eC n) (eC (pw mm d1)) σW σY σK ℓK ℓM QQ (kV hh))) H := hP
  have hD : va_D Z ((kT g hh i0 i1) ++ (kF g qX qM AX AC AD AP AW AY AK AM (eC d1) (eC f) (eC ep) (eC n) (eC (pw mm d1)) σW σY σK ℓK ℓM QQ (kV hh))) := hD
  obtain rfl := hw
  refine lv_pop hx hb dL_law_304 rfl ?_
  refine lv_goto (tgt := 949) hx hb dL_law_305 (by decide) ?_
  refine W.widen (k := cells + 8) (n := slots + 10240) (by omega) (by omega) ?_
  exact K d1 f ep n mm σW σY σK ℓK ℓM QQ hh i0 i1 (hO.cl k1 k2) H locs ls hP hD hS hl
set_option maxHeartbeats 8000000 in
set_option maxRecDepth 100000 in
theorem ws_308 {p : Program} {l : Launch} {e : Env} {s : State} {m : MethodId} {below : List Frame} {meth : Method} {c : Code} {b L : Nat} {xs : Nat → Int32} {g : GT} {Z : Nat → Prop} {H : Heap} {locs : List Loc} {ls : Array Slot} {qX qM : Nat} {AX AC AD AP AW AY AK AM : Nat → Nat} {i cells slots : Nat} {d f ep n mm : Nat → Int → Int} {σW σY σK : qS} {ℓK ℓM : qL} {QQ : Nat → Option Nat} {hh : Option (Nat × qS)} {i0 i1 : Option (Nat × (Nat → Nat) × (Nat → Int → Int))}
    (hx : p.tables.exec = Jvm.exec) (hb : c.code = cL_law) (F : CallFix p m c cL_law 4 s #[Value.ref b] wsL_law RL) (hK : va_K g.1 vwCl (tyL g) s) (hN : NW s) (hA : ∀ q : Nat, s.heap.size ≤ q → Z q) (hbA : ¬ Z b) (hX : va_X b L xs s s.heap) (hbl : b < s.heap.size) (hi : i + 7 ≤ L) (hL : L ≤ 3584) (hcR : cells + 8 ≤ room_1.cells ∧ slots + 10240 ≤ room_1.slots)
    (K : lw_C p l e s m below meth c b g Z qX qM AX AC AD AP AW AY AK AM i (cells + 8) (slots + 10240) 949) (hO : kO d f ep mm QQ i0 i1) (hP : va_P g.1 vwCl (kT g hh i0 i1 ++ kF g qX qM AX AC AD AP AW AY AK AM (eC d) (eC f) (eC ep) (eC n) (eC (pw mm d)) σW σY σK ℓK ℓM QQ (kV hh)) H) (hD : va_D Z (kT g hh i0 i1 ++ kF g qX qM AX AC AD AP AW AY AK AM (eC d) (eC f) (eC ep) (eC n) (eC (pw mm d)) σW σY σK ℓK ℓM QQ (kV hh))) (hS : va_S Z s.heap H locs) (hl : lv_has ls 4 [(3, .int (nI i)), (2, .ref qM), (1, .ref qX), (0, .ref b)]) : W p l e room_1 s m #[Value.ref b] below meth c H locs cells slots (lw_Z below #[Value.ref b] s) (F0 m 308 ls []) := by
  obtain ⟨r, e1, n1, x1, m1, k1, k2, k3⟩ := c_say mm d ep ℓM hO.xe hO.xp (xs (nI (i + 1)).toNatClampNeg)
  refine lv_aload_n hx hb dL_law_308 rfl (lv_at hl 2 rfl) ?_
  refine lv_aload_n hx hb dL_law_309 rfl (lv_at hl 3 rfl) ?_
  refine lv_iload_n hx hb dL_law_310 rfl (lv_at hl 0 rfl) ?_
  refine lv_iconst (v := 1) hx hb dL_law_311 (by decide) ?_
  refine lv_iadd hx hb dL_law_312 ?_
  refine gtop (y := nI (i + 1)) (nI_adk i 1) ?_
  refine va_sld hx hb hX hbl hbA hS (vp_in_nI (n := i + 1) (by omega) (by omega)) dL_law_313 ?_
  refine gcV_iT (T := kT g hh i0 i1) (ws := kF g qX qM AX AC AD AP AW AY AK AM (eC d) (eC f) (eC ep) (eC n) (eC (pw mm d)) σW σY σK ℓK ℓM QQ (kV hh)) (As := [.int (xs (nI (i + 1)).toNatClampNeg)]) (rest := []) (ci := 6) (q := (RX6, TX6, 8)) F hK hN hP hD hS hA (m_X6_say l g H.size qX AX AP (eC ep) (xs (nI (i + 1)).toNatClampNeg) r (eC e1) x1) gL_law_X6_say kX6_say rfl rfl rfl rfl ⟨(Nat.le_of_ble_eq_true rfl), (Nat.le_of_ble_eq_true rfl)⟩ [0, 18, 19] [1, 2, 3, 4, 5, 6, 7, 8, 9, 10, 11, 12, 13, 14, 15, 16, 17, 20, 21, 22, 23, 24, 25, 26, 27, 28, 29, 30, 31, 32, 33, 34, 35, 36, 37, 38, 39, 40, 41, 42, 43, 44, 45, 46, 47, 48, 49, 50, 51, 52] rfl rfl rfl (by decide) rfl rfl rfl rfl rfl hl.1 (Nat.le_of_ble_eq_true rfl) dL_law_314 ⟨by have := hcR.1; omega, by have := hcR.2; omega⟩ (fun r_w u_w H locs hw hP hD hS => ?_)
  have hP : va_P g.1 vwCl ((kT g hh i0 i1) ++ (kF g qX qM AX AC AD AP AW AY AK AM (eC d) (eC f) (eC e1) (eC n) (eC (pw mm d)) σW σY σK ℓK ℓM QQ (kV hh))) H := tP_sub hP [50, 0, 1, 2, 3, 4, 5, 6, 7, 8, 9, 10, 11, 12, 13, 14, 15, 16, 51, 52, 17, 18, 19, 20, 21, 22, 23, 24, 25, 26, 27, 28, 29, 30, 31, 32, 33, 34, 35, 36, 37, 38, 39, 40, 41, 42, 43, 44, 45, 46, 47, 48, 49] rfl
  have hD : va_D Z ((kT g hh i0 i1) ++ (kF g qX qM AX AC AD AP AW AY AK AM (eC d) (eC f) (eC e1) (eC n) (eC (pw mm d)) σW σY σK ℓK ℓM QQ (kV hh))) := tD_sub hD [50, 0, 1, 2, 3, 4, 5, 6, 7, 8, 9, 10, 11, 12, 13, 14, 15, 16, 51, 52, 17, 18, 19, 20, 21, 22, 23, 24, 25, 26, 27, 28, 29, 30, 31, 32, 33, 34, 35, 36, 37, 38, 39, 40, 41, 42, 43, 44, 45, 46, 47, 48, 49] (by decide) rfl
  obtain rfl := hw
  refine lv_pop hx hb dL_law_317 rfl ?_
  refine lv_aload_n hx hb dL_law_318 rfl (lv_at hl 1 rfl) ?_
  refine lv_aload_n hx hb dL_law_319 rfl (lv_at hl 3 rfl) ?_
  refine lv_iload_n hx hb dL_law_320 rfl (lv_at hl 0 rfl) ?_
  refine lv_iconst (v := 1) hx hb dL_law_321 (by decide) ?_
  refine lv_iadd hx hb dL_law_322 ?_
  refine gtop (y := nI (i + 1)) (nI_adk i 1) ?_
  refine va_sld hx hb hX hbl hbA hS (vp_in_nI (n := i + 1) (by omega) (by omega)) dL_law_323 ?_
  refine gcV_iT (T := kT g hh i0 i1) (ws := kF g qX qM AX AC AD AP AW AY AK AM (eC d) (eC f) (eC e1) (eC n) (eC (pw mm d)) σW σY σK ℓK ℓM QQ (kV hh)) (As := [.int (xs (nI (i + 1)).toNatClampNeg)]) (rest := []) (ci := 7) (q := (RX7, TX7, 34)) F hK hN hP hD hS hA (m_X7_say l g H.size qM AM (eC (pw mm d)) ℓM (xs (nI (i + 1)).toNatClampNeg) r (eC (pw n1 d)) m1) gL_law_X7_say kX7_say rfl rfl rfl rfl ⟨(Nat.le_of_ble_eq_true rfl), (Nat.le_of_ble_eq_true rfl)⟩ [32, 33, 34, 35, 36, 37, 38, 39, 40, 41, 42, 43, 44, 45, 46, 47, 48, 49, 50, 51, 52] [0, 1, 2, 3, 4, 5, 6, 7, 8, 9, 10, 11, 12, 13, 14, 15, 16, 17, 18, 19, 20, 21, 22, 23, 24, 25, 26, 27, 28, 29, 30, 31] rfl rfl rfl (by decide) rfl rfl rfl rfl rfl hl.1 (Nat.le_of_ble_eq_true rfl) dL_law_324 ⟨by have := hcR.1; omega, by have := hcR.2; omega⟩ (fun r_w u_w H locs hw hP hD hS => ?_)
  have hP : va_P g.1 vwCl ((kT g hh i0 i1) ++ (kF g qX qM AX AC AD AP AW AY AK AM (eC d) (eC f) (eC e1) (eC n) (eC (pw n1 d)) σW σY σK ℓK ℓM QQ (kV hh))) H := hP
  have hD : va_D Z ((kT g hh i0 i1) ++ (kF g qX qM AX AC AD AP AW AY AK AM (eC d) (eC f) (eC e1) (eC n) (eC (pw n1 d)) σW σY σK ℓK ℓM QQ (kV hh))) := hD
  obtain rfl := hw
  refine lv_pop hx hb dL_law_327 rfl ?_
  refine lv_goto (tgt := 949) hx hb dL_law_328 (by decide) ?_
  refine W.widen (k := cells + 8) (n := slots + 10240) (by omega) (by omega) ?_
  exact K d f e1 n n1 σW σY σK ℓK ℓM QQ hh i0 i1 (hO.pd k1 k2 k3) H locs ls hP hD hS hl
set_option maxHeartbeats 8000000 in
set_option maxRecDepth 100000 in
theorem ws_331 {p : Program} {l : Launch} {e : Env} {s : State} {m : MethodId} {below : List Frame} {meth : Method} {c : Code} {b L : Nat} {xs : Nat → Int32} {g : GT} {Z : Nat → Prop} {H : Heap} {locs : List Loc} {ls : Array Slot} {qX qM : Nat} {AX AC AD AP AW AY AK AM : Nat → Nat} {i cells slots : Nat} {d f ep n mm : Nat → Int → Int} {σW σY σK : qS} {ℓK ℓM : qL} {QQ : Nat → Option Nat} {hh : Option (Nat × qS)} {i0 i1 : Option (Nat × (Nat → Nat) × (Nat → Int → Int))}
    (hx : p.tables.exec = Jvm.exec) (hb : c.code = cL_law) (F : CallFix p m c cL_law 4 s #[Value.ref b] wsL_law RL) (hK : va_K g.1 vwCl (tyL g) s) (hN : NW s) (hA : ∀ q : Nat, s.heap.size ≤ q → Z q) (hbA : ¬ Z b) (hX : va_X b L xs s s.heap) (hbl : b < s.heap.size) (hi : i + 7 ≤ L) (hL : L ≤ 3584) (hcR : cells + 8 ≤ room_1.cells ∧ slots + 10240 ≤ room_1.slots)
    (K : lw_C p l e s m below meth c b g Z qX qM AX AC AD AP AW AY AK AM i (cells + 8) (slots + 10240) 949) (hO : kO d f ep mm QQ i0 i1) (hP : va_P g.1 vwCl (kT g hh i0 i1 ++ kF g qX qM AX AC AD AP AW AY AK AM (eC d) (eC f) (eC ep) (eC n) (eC (pw mm d)) σW σY σK ℓK ℓM QQ (kV hh)) H) (hD : va_D Z (kT g hh i0 i1 ++ kF g qX qM AX AC AD AP AW AY AK AM (eC d) (eC f) (eC ep) (eC n) (eC (pw mm d)) σW σY σK ℓK ℓM QQ (kV hh))) (hS : va_S Z s.heap H locs) (hl : lv_has ls 4 [(3, .int (nI i)), (2, .ref qM), (1, .ref qX), (0, .ref b)]) : W p l e room_1 s m #[Value.ref b] below meth c H locs cells slots (lw_Z below #[Value.ref b] s) (F0 m 331 ls []) := by
  obtain ⟨r, e1, n1, x1, m1, k1, k2, k3⟩ := c_wipe mm d ep ℓM hO.xe hO.xp 
  refine lv_aload_n hx hb dL_law_331 rfl (lv_at hl 2 rfl) ?_
  refine gcV_iT (T := kT g hh i0 i1) (ws := kF g qX qM AX AC AD AP AW AY AK AM (eC d) (eC f) (eC ep) (eC n) (eC (pw mm d)) σW σY σK ℓK ℓM QQ (kV hh)) (As := []) (rest := []) (ci := 6) (q := (RX6, TX6, 8)) F hK hN hP hD hS hA (m_X6_wipe l g H.size qX AX AP (eC ep) r (eC e1) x1) gL_law_X6_wipe kX6_wipe rfl rfl rfl rfl ⟨(Nat.le_of_ble_eq_true rfl), (Nat.le_of_ble_eq_true rfl)⟩ [0, 18, 19] [1, 2, 3, 4, 5, 6, 7, 8, 9, 10, 11, 12, 13, 14, 15, 16, 17, 20, 21, 22, 23, 24, 25, 26, 27, 28, 29, 30, 31, 32, 33, 34, 35, 36, 37, 38, 39, 40, 41, 42, 43, 44, 45, 46, 47, 48, 49, 50, 51, 52] rfl rfl rfl (by decide) rfl rfl rfl rfl rfl hl.1 (Nat.le_of_ble_eq_true rfl) dL_law_332 ⟨by have := hcR.1; omega, by have := hcR.2; omega⟩ (fun r_w u_w H locs hw hP hD hS => ?_)
  have hP : va_P g.1 vwCl ((kT g hh i0 i1) ++ (kF g qX qM AX AC AD AP AW AY AK AM (eC d) (eC f) (eC e1) (eC n) (eC (pw mm d)) σW σY σK ℓK ℓM QQ (kV hh))) H := tP_sub hP [50, 0, 1, 2, 3, 4, 5, 6, 7, 8, 9, 10, 11, 12, 13, 14, 15, 16, 51, 52, 17, 18, 19, 20, 21, 22, 23, 24, 25, 26, 27, 28, 29, 30, 31, 32, 33, 34, 35, 36, 37, 38, 39, 40, 41, 42, 43, 44, 45, 46, 47, 48, 49] rfl
  have hD : va_D Z ((kT g hh i0 i1) ++ (kF g qX qM AX AC AD AP AW AY AK AM (eC d) (eC f) (eC e1) (eC n) (eC (pw mm d)) σW σY σK ℓK ℓM QQ (kV hh))) := tD_sub hD [50, 0, 1, 2, 3, 4, 5, 6, 7, 8, 9, 10, 11, 12, 13, 14, 15, 16, 51, 52, 17, 18, 19, 20, 21, 22, 23, 24, 25, 26, 27, 28, 29, 30, 31, 32, 33, 34, 35, 36, 37, 38, 39, 40, 41, 42, 43, 44, 45, 46, 47, 48, 49] (by decide) rfl
  obtain rfl := hw
  refine lv_pop hx hb dL_law_335 rfl ?_
  refine lv_aload_n hx hb dL_law_336 rfl (lv_at hl 1 rfl) ?_
  refine gcV_iT (T := kT g hh i0 i1) (ws := kF g qX qM AX AC AD AP AW AY AK AM (eC d) (eC f) (eC e1) (eC n) (eC (pw mm d)) σW σY σK ℓK ℓM QQ (kV hh)) (As := []) (rest := []) (ci := 7) (q := (RX7, TX7, 34)) F hK hN hP hD hS hA (m_X7_wipe l g H.size qM AM (eC (pw mm d)) ℓM r (eC (pw n1 d)) m1) gL_law_X7_wipe kX7_wipe rfl rfl rfl rfl ⟨(Nat.le_of_ble_eq_true rfl), (Nat.le_of_ble_eq_true rfl)⟩ [32, 33, 34, 35, 36, 37, 38, 39, 40, 41, 42, 43, 44, 45, 46, 47, 48, 49, 50, 51, 52] [0, 1, 2, 3, 4, 5, 6, 7, 8, 9, 10, 11, 12, 13, 14, 15, 16, 17, 18, 19, 20, 21, 22, 23, 24, 25, 26, 27, 28, 29, 30, 31] rfl rfl rfl (by decide) rfl rfl rfl rfl rfl hl.1 (Nat.le_of_ble_eq_true rfl) dL_law_337 ⟨by have := hcR.1; omega, by have := hcR.2; omega⟩ (fun r_w u_w H locs hw hP hD hS => ?_)
  have hP : va_P g.1 vwCl ((kT g hh i0 i1) ++ (kF g qX qM AX AC AD AP AW AY AK AM (eC d) (eC f) (eC e1) (eC n) (eC (pw n1 d)) σW σY σK ℓK ℓM QQ (kV hh))) H := hP
  have hD : va_D Z ((kT g hh i0 i1) ++ (kF g qX qM AX AC AD AP AW AY AK AM (eC d) (eC f) (eC e1) (eC n) (eC (pw n1 d)) σW σY σK ℓK ℓM QQ (kV hh))) := hD
  obtain rfl := hw
  refine lv_pop hx hb dL_law_340 rfl ?_
  refine lv_goto (tgt := 949) hx hb dL_law_341 (by decide) ?_
  refine W.widen (k := cells + 8) (n := slots + 10240) (by omega) (by omega) ?_
  exact K d f e1 n n1 σW σY σK ℓK ℓM QQ hh i0 i1 (hO.pd k1 k2 k3) H locs ls hP hD hS hl
set_option maxHeartbeats 8000000 in
set_option maxRecDepth 100000 in
theorem ws_344 {p : Program} {l : Launch} {e : Env} {s : State} {m : MethodId} {below : List Frame} {meth : Method} {c : Code} {b L : Nat} {xs : Nat → Int32} {g : GT} {Z : Nat → Prop} {H : Heap} {locs : List Loc} {ls : Array Slot} {qX qM : Nat} {AX AC AD AP AW AY AK AM : Nat → Nat} {i cells slots : Nat} {d f ep n mm : Nat → Int → Int} {σW σY σK : qS} {ℓK ℓM : qL} {QQ : Nat → Option Nat} {hh : Option (Nat × qS)} {i0 i1 : Option (Nat × (Nat → Nat) × (Nat → Int → Int))}
    (hx : p.tables.exec = Jvm.exec) (hb : c.code = cL_law) (F : CallFix p m c cL_law 4 s #[Value.ref b] wsL_law RL) (hK : va_K g.1 vwCl (tyL g) s) (hN : NW s) (hA : ∀ q : Nat, s.heap.size ≤ q → Z q) (hbA : ¬ Z b) (hX : va_X b L xs s s.heap) (hbl : b < s.heap.size) (hi : i + 7 ≤ L) (hL : L ≤ 3584) (hcR : cells + 8 ≤ room_1.cells ∧ slots + 10240 ≤ room_1.slots)
    (K : lw_C p l e s m below meth c b g Z qX qM AX AC AD AP AW AY AK AM i (cells + 8) (slots + 10240) 949) (hO : kO d f ep mm QQ i0 i1) (hP : va_P g.1 vwCl (kT g hh i0 i1 ++ kF g qX qM AX AC AD AP AW AY AK AM (eC d) (eC f) (eC ep) (eC n) (eC (pw mm d)) σW σY σK ℓK ℓM QQ (kV hh)) H) (hD : va_D Z (kT g hh i0 i1 ++ kF g qX qM AX AC AD AP AW AY AK AM (eC d) (eC f) (eC ep) (eC n) (eC (pw mm d)) σW σY σK ℓK ℓM QQ (kV hh))) (hS : va_S Z s.heap H locs) (hl : lv_has ls 4 [(3, .int (nI i)), (2, .ref qM), (1, .ref qX), (0, .ref b)]) : W p l e room_1 s m #[Value.ref b] below meth c H locs cells slots (lw_Z below #[Value.ref b] s) (F0 m 344 ls []) := by
  obtain ⟨r, n1, x1, m1, k1⟩ := c_fault mm d ep ℓM hO.xe hO.xp
  refine lv_aload_n hx hb dL_law_344 rfl (lv_at hl 2 rfl) ?_
  refine gcV_iT (T := kT g hh i0 i1) (ws := kF g qX qM AX AC AD AP AW AY AK AM (eC d) (eC f) (eC ep) (eC n) (eC (pw mm d)) σW σY σK ℓK ℓM QQ (kV hh)) (As := []) (rest := []) (ci := 6) (q := (RX6, TX6, 8)) F hK hN hP hD hS hA (m_X6_fault l g H.size qX AX AP (eC ep) r x1) gL_law_X6_fault kX6_fault rfl rfl rfl rfl ⟨(Nat.le_of_ble_eq_true rfl), (Nat.le_of_ble_eq_true rfl)⟩ [0, 18, 19] [1, 2, 3, 4, 5, 6, 7, 8, 9, 10, 11, 12, 13, 14, 15, 16, 17, 20, 21, 22, 23, 24, 25, 26, 27, 28, 29, 30, 31, 32, 33, 34, 35, 36, 37, 38, 39, 40, 41, 42, 43, 44, 45, 46, 47, 48, 49, 50, 51, 52] rfl rfl rfl (by decide) rfl rfl rfl rfl rfl hl.1 (Nat.le_of_ble_eq_true rfl) dL_law_345 ⟨by have := hcR.1; omega, by have := hcR.2; omega⟩ (fun r_w u_w H locs hw hP hD hS => ?_)
  have hP : va_P g.1 vwCl ((kT g hh i0 i1) ++ (kF g qX qM AX AC AD AP AW AY AK AM (eC d) (eC f) (eC ep) (eC n) (eC (pw mm d)) σW σY σK ℓK ℓM QQ (kV hh))) H := tP_sub hP [50, 0, 1, 2, 3, 4, 5, 6, 7, 8, 9, 10, 11, 12, 13, 14, 15, 16, 51, 52, 17, 18, 19, 20, 21, 22, 23, 24, 25, 26, 27, 28, 29, 30, 31, 32, 33, 34, 35, 36, 37, 38, 39, 40, 41, 42, 43, 44, 45, 46, 47, 48, 49] rfl
  have hD : va_D Z ((kT g hh i0 i1) ++ (kF g qX qM AX AC AD AP AW AY AK AM (eC d) (eC f) (eC ep) (eC n) (eC (pw mm d)) σW σY σK ℓK ℓM QQ (kV hh))) := tD_sub hD [50, 0, 1, 2, 3, 4, 5, 6, 7, 8, 9, 10, 11, 12, 13, 14, 15, 16, 51, 52, 17, 18, 19, 20, 21, 22, 23, 24, 25, 26, 27, 28, 29, 30, 31, 32, 33, 34, 35, 36, 37, 38, 39, 40, 41, 42, 43, 44, 45, 46, 47, 48, 49] (by decide) rfl
  obtain rfl := hw
  refine lv_pop hx hb dL_law_348 rfl ?_
  refine lv_aload_n hx hb dL_law_349 rfl (lv_at hl 1 rfl) ?_
  refine gcV_iT (T := kT g hh i0 i1) (ws := kF g qX qM AX AC AD AP AW AY AK AM (eC d) (eC f) (eC ep) (eC n) (eC (pw mm d)) σW σY σK ℓK ℓM QQ (kV hh)) (As := []) (rest := []) (ci := 7) (q := (RX7, TX7, 34)) F hK hN hP hD hS hA (m_X7_fault l g H.size qM AM (eC (pw mm d)) ℓM r (eC (pw n1 d)) m1) gL_law_X7_fault kX7_fault rfl rfl rfl rfl ⟨(Nat.le_of_ble_eq_true rfl), (Nat.le_of_ble_eq_true rfl)⟩ [32, 33, 34, 35, 36, 37, 38, 39, 40, 41, 42, 43, 44, 45, 46, 47, 48, 49, 50, 51, 52] [0, 1, 2, 3, 4, 5, 6, 7, 8, 9, 10, 11, 12, 13, 14, 15, 16, 17, 18, 19, 20, 21, 22, 23, 24, 25, 26, 27, 28, 29, 30, 31] rfl rfl rfl (by decide) rfl rfl rfl rfl rfl hl.1 (Nat.le_of_ble_eq_true rfl) dL_law_350 ⟨by have := hcR.1; omega, by have := hcR.2; omega⟩ (fun r_w u_w H locs hw hP hD hS => ?_)
  have hP : va_P g.1 vwCl ((kT g hh i0 i1) ++ (kF g qX qM AX AC AD AP AW AY AK AM (eC d) (eC f) (eC ep) (eC n) (eC (pw n1 d)) σW σY σK ℓK ℓM QQ (kV hh))) H := hP
  have hD : va_D Z ((kT g hh i0 i1) ++ (kF g qX qM AX AC AD AP AW AY AK AM (eC d) (eC f) (eC ep) (eC n) (eC (pw n1 d)) σW σY σK ℓK ℓM QQ (kV hh))) := hD
  obtain rfl := hw
  refine lv_pop hx hb dL_law_353 rfl ?_
  refine lv_goto (tgt := 949) hx hb dL_law_354 (by decide) ?_
  refine W.widen (k := cells + 8) (n := slots + 10240) (by omega) (by omega) ?_
  exact K d f ep n n1 σW σY σK ℓK ℓM QQ hh i0 i1 (hO.fN k1) H locs ls hP hD hS hl
set_option maxHeartbeats 8000000 in
set_option maxRecDepth 100000 in
theorem ws_357 {p : Program} {l : Launch} {e : Env} {s : State} {m : MethodId} {below : List Frame} {meth : Method} {c : Code} {b L : Nat} {xs : Nat → Int32} {g : GT} {Z : Nat → Prop} {H : Heap} {locs : List Loc} {ls : Array Slot} {qX qM : Nat} {AX AC AD AP AW AY AK AM : Nat → Nat} {i cells slots : Nat} {d f ep n mm : Nat → Int → Int} {σW σY σK : qS} {ℓK ℓM : qL} {QQ : Nat → Option Nat} {hh : Option (Nat × qS)} {i0 i1 : Option (Nat × (Nat → Nat) × (Nat → Int → Int))}
    (hx : p.tables.exec = Jvm.exec) (hb : c.code = cL_law) (F : CallFix p m c cL_law 4 s #[Value.ref b] wsL_law RL) (hK : va_K g.1 vwCl (tyL g) s) (hN : NW s) (hA : ∀ q : Nat, s.heap.size ≤ q → Z q) (hbA : ¬ Z b) (hX : va_X b L xs s s.heap) (hbl : b < s.heap.size) (hi : i + 7 ≤ L) (hL : L ≤ 3584) (hcR : cells + 8 ≤ room_1.cells ∧ slots + 10240 ≤ room_1.slots)
    (K : lw_C p l e s m below meth c b g Z qX qM AX AC AD AP AW AY AK AM i (cells + 8) (slots + 10240) 949) (hO : kO d f ep mm QQ i0 i1) (hP : va_P g.1 vwCl (kT g hh i0 i1 ++ kF g qX qM AX AC AD AP AW AY AK AM (eC d) (eC f) (eC ep) (eC n) (eC (pw mm d)) σW σY σK ℓK ℓM QQ (kV hh)) H) (hD : va_D Z (kT g hh i0 i1 ++ kF g qX qM AX AC AD AP AW AY AK AM (eC d) (eC f) (eC ep) (eC n) (eC (pw mm d)) σW σY σK ℓK ℓM QQ (kV hh))) (hS : va_S Z s.heap H locs) (hl : lv_has ls 4 [(3, .int (nI i)), (2, .ref qM), (1, .ref qX), (0, .ref b)]) : W p l e room_1 s m #[Value.ref b] below meth c H locs cells slots (lw_Z below #[Value.ref b] s) (F0 m 357 ls []) := by
  obtain ⟨r, nn, f1, n1, x1, m1, k1, k2⟩ := c_judge (n := n) (τ := ℓM) hO.xe hO.xd hO.xf hO.xp (xs (nI (i + 1)).toNatClampNeg)
  refine lv_aload_n hx hb dL_law_357 rfl (lv_at hl 2 rfl) ?_
  refine lv_aload_n hx hb dL_law_358 rfl (lv_at hl 3 rfl) ?_
  refine lv_iload_n hx hb dL_law_359 rfl (lv_at hl 0 rfl) ?_
  refine lv_iconst (v := 1) hx hb dL_law_360 (by decide) ?_
  refine lv_iadd hx hb dL_law_361 ?_
  refine gtop (y := nI (i + 1)) (nI_adk i 1) ?_
  refine va_sld hx hb hX hbl hbA hS (vp_in_nI (n := i + 1) (by omega) (by omega)) dL_law_362 ?_
  refine gcV_iT (T := kT g hh i0 i1) (ws := kF g qX qM AX AC AD AP AW AY AK AM (eC d) (eC f) (eC ep) (eC n) (eC (pw mm d)) σW σY σK ℓK ℓM QQ (kV hh)) (As := [.int (xs (nI (i + 1)).toNatClampNeg)]) (rest := []) (ci := 6) (q := (RX6, TX6, 8)) F hK hN hP hD hS hA (m_X6_judge l g H.size qX AX (eC n) AP (eC ep) AD (eC f) AC (eC d) (xs (nI (i + 1)).toNatClampNeg) r (eC nn) (eC f1) x1) gL_law_X6_judge kX6_judge rfl rfl rfl rfl ⟨(Nat.le_of_ble_eq_true rfl), (Nat.le_of_ble_eq_true rfl)⟩ [0, 20, 18, 19, 9, 10, 11, 12, 13, 14, 15, 16, 1, 2, 3, 4, 5, 6, 7, 8] [17, 21, 22, 23, 24, 25, 26, 27, 28, 29, 30, 31, 32, 33, 34, 35, 36, 37, 38, 39, 40, 41, 42, 43, 44, 45, 46, 47, 48, 49, 50, 51, 52] rfl rfl rfl (by decide) rfl rfl rfl rfl rfl hl.1 (Nat.le_of_ble_eq_true rfl) dL_law_363 ⟨by have := hcR.1; omega, by have := hcR.2; omega⟩ (fun r_w u_w H locs hw hP hD hS => ?_)
  have hP : va_P g.1 vwCl ((kT g hh i0 i1) ++ (kF g qX qM AX AC AD AP AW AY AK AM (eC d) (eC f1) (eC ep) (eC nn) (eC (pw mm d)) σW σY σK ℓK ℓM QQ (kV hh))) H := tP_sub hP [33, 45, 46, 47, 48, 49, 50, 51, 52, 37, 38, 39, 40, 41, 42, 43, 44, 0, 35, 36, 34, 1, 2, 3, 4, 5, 6, 7, 8, 9, 10, 11, 12, 13, 14, 15, 16, 17, 18, 19, 20, 21, 22, 23, 24, 25, 26, 27, 28, 29, 30, 31, 32] rfl
  have hD : va_D Z ((kT g hh i0 i1) ++ (kF g qX qM AX AC AD AP AW AY AK AM (eC d) (eC f1) (eC ep) (eC nn) (eC (pw mm d)) σW σY σK ℓK ℓM QQ (kV hh))) := tD_sub hD [33, 45, 46, 47, 48, 49, 50, 51, 52, 37, 38, 39, 40, 41, 42, 43, 44, 0, 35, 36, 34, 1, 2, 3, 4, 5, 6, 7, 8, 9, 10, 11, 12, 13, 14, 15, 16, 17, 18, 19, 20, 21, 22, 23, 24, 25, 26, 27, 28, 29, 30, 31, 32] (by decide) rfl
  obtain rfl := hw
  refine lv_pop hx hb dL_law_366 rfl ?_
  refine lv_aload_n hx hb dL_law_367 rfl (lv_at hl 1 rfl) ?_
  refine lv_aload_n hx hb dL_law_368 rfl (lv_at hl 3 rfl) ?_
  refine lv_iload_n hx hb dL_law_369 rfl (lv_at hl 0 rfl) ?_
  refine lv_iconst (v := 1) hx hb dL_law_370 (by decide) ?_
  refine lv_iadd hx hb dL_law_371 ?_
  refine gtop (y := nI (i + 1)) (nI_adk i 1) ?_
  refine va_sld hx hb hX hbl hbA hS (vp_in_nI (n := i + 1) (by omega) (by omega)) dL_law_372 ?_
  refine gcV_iT (T := kT g hh i0 i1) (ws := kF g qX qM AX AC AD AP AW AY AK AM (eC d) (eC f1) (eC ep) (eC nn) (eC (pw mm d)) σW σY σK ℓK ℓM QQ (kV hh)) (As := [.int (xs (nI (i + 1)).toNatClampNeg)]) (rest := []) (ci := 7) (q := (RX7, TX7, 34)) F hK hN hP hD hS hA (m_X7_judge l g H.size qM AM (eC (pw mm d)) ℓM (xs (nI (i + 1)).toNatClampNeg) r (eC (pw n1 d)) m1) gL_law_X7_judge kX7_judge rfl rfl rfl rfl ⟨(Nat.le_of_ble_eq_true rfl), (Nat.le_of_ble_eq_true rfl)⟩ [32, 33, 34, 35, 36, 37, 38, 39, 40, 41, 42, 43, 44, 45, 46, 47, 48, 49, 50, 51, 52] [0, 1, 2, 3, 4, 5, 6, 7, 8, 9, 10, 11, 12, 13, 14, 15, 16, 17, 18, 19, 20, 21, 22, 23, 24, 25, 26, 27, 28, 29, 30, 31] rfl rfl rfl (by decide) rfl rfl rfl rfl rfl hl.1 (Nat.le_of_ble_eq_true rfl) dL_law_373 ⟨by have := hcR.1; omega, by have := hcR.2; omega⟩ (fun r_w u_w H locs hw hP hD hS => ?_)
  have hP : va_P g.1 vwCl ((kT g hh i0 i1) ++ (kF g qX qM AX AC AD AP AW AY AK AM (eC d) (eC f1) (eC ep) (eC nn) (eC (pw n1 d)) σW σY σK ℓK ℓM QQ (kV hh))) H := hP
  have hD : va_D Z ((kT g hh i0 i1) ++ (kF g qX qM AX AC AD AP AW AY AK AM (eC d) (eC f1) (eC ep) (eC nn) (eC (pw n1 d)) σW σY σK ℓK ℓM QQ (kV hh))) := hD
  obtain rfl := hw
  refine lv_pop hx hb dL_law_376 rfl ?_
  refine lv_goto (tgt := 949) hx hb dL_law_377 (by decide) ?_
  refine W.widen (k := cells + 8) (n := slots + 10240) (by omega) (by omega) ?_
  exact K d f1 ep nn n1 σW σY σK ℓK ℓM QQ hh i0 i1 ((hO.fN k2).dr k1) H locs ls hP hD hS hl
set_option maxHeartbeats 8000000 in
set_option maxRecDepth 100000 in
theorem ws_380 {p : Program} {l : Launch} {e : Env} {s : State} {m : MethodId} {below : List Frame} {meth : Method} {c : Code} {b L : Nat} {xs : Nat → Int32} {g : GT} {Z : Nat → Prop} {H : Heap} {locs : List Loc} {ls : Array Slot} {qX qM : Nat} {AX AC AD AP AW AY AK AM : Nat → Nat} {i cells slots : Nat} {d f ep n mm : Nat → Int → Int} {σW σY σK : qS} {ℓK ℓM : qL} {QQ : Nat → Option Nat} {hh : Option (Nat × qS)} {i0 i1 : Option (Nat × (Nat → Nat) × (Nat → Int → Int))}
    (hx : p.tables.exec = Jvm.exec) (hb : c.code = cL_law) (F : CallFix p m c cL_law 4 s #[Value.ref b] wsL_law RL) (hK : va_K g.1 vwCl (tyL g) s) (hN : NW s) (hA : ∀ q : Nat, s.heap.size ≤ q → Z q) (hbA : ¬ Z b) (hX : va_X b L xs s s.heap) (hbl : b < s.heap.size) (hi : i + 7 ≤ L) (hL : L ≤ 3584) (hcR : cells + 8 ≤ room_1.cells ∧ slots + 10240 ≤ room_1.slots)
    (K : lw_C p l e s m below meth c b g Z qX qM AX AC AD AP AW AY AK AM i (cells + 8) (slots + 10240) 949) (hO : kO d f ep mm QQ i0 i1) (hP : va_P g.1 vwCl (kT g hh i0 i1 ++ kF g qX qM AX AC AD AP AW AY AK AM (eC d) (eC f) (eC ep) (eC n) (eC (pw mm d)) σW σY σK ℓK ℓM QQ (kV hh)) H) (hD : va_D Z (kT g hh i0 i1 ++ kF g qX qM AX AC AD AP AW AY AK AM (eC d) (eC f) (eC ep) (eC n) (eC (pw mm d)) σW σY σK ℓK ℓM QQ (kV hh))) (hS : va_S Z s.heap H locs) (hl : lv_has ls 4 [(3, .int (nI i)), (2, .ref qM), (1, .ref qX), (0, .ref b)]) : W p l e room_1 s m #[Value.ref b] below meth c H locs cells slots (lw_Z below #[Value.ref b] s) (F0 m 380 ls []) := by
  obtain ⟨r, nn, f1, n1, x1, m1, k1, k2⟩ := c_behind (n := n) (τ := ℓM) hO.xe hO.xd hO.xf hO.xp (xs (nI (i + 1)).toNatClampNeg) (xs (nI (i + 2)).toNatClampNeg)
  refine lv_aload_n hx hb dL_law_380 rfl (lv_at hl 2 rfl) ?_
  refine lv_aload_n hx hb dL_law_381 rfl (lv_at hl 3 rfl) ?_
  refine lv_iload_n hx hb dL_law_382 rfl (lv_at hl 0 rfl) ?_
  refine lv_iconst (v := 1) hx hb dL_law_383 (by decide) ?_
  refine lv_iadd hx hb dL_law_384 ?_
  refine gtop (y := nI (i + 1)) (nI_adk i 1) ?_
  refine va_sld hx hb hX hbl hbA hS (vp_in_nI (n := i + 1) (by omega) (by omega)) dL_law_385 ?_
  refine lv_aload_n hx hb dL_law_386 rfl (lv_at hl 3 rfl) ?_
  refine lv_iload_n hx hb dL_law_387 rfl (lv_at hl 0 rfl) ?_
  refine lv_iconst (v := 2) hx hb dL_law_388 (by decide) ?_
  refine lv_iadd hx hb dL_law_389 ?_
  refine gtop (y := nI (i + 2)) (nI_adk i 2) ?_
  refine va_sld hx hb hX hbl hbA hS (vp_in_nI (n := i + 2) (by omega) (by omega)) dL_law_390 ?_
  refine gcV_iT (T := kT g hh i0 i1) (ws := kF g qX qM AX AC AD AP AW AY AK AM (eC d) (eC f) (eC ep) (eC n) (eC (pw mm d)) σW σY σK ℓK ℓM QQ (kV hh)) (As := [.int (xs (nI (i + 1)).toNatClampNeg), .int (xs (nI (i + 2)).toNatClampNeg)]) (rest := []) (ci := 6) (q := (RX6, TX6, 8)) F hK hN hP hD hS hA (m_X6_behind l g H.size qX AX (eC n) AP (eC ep) AD (eC f) AC (eC d) (xs (nI (i + 1)).toNatClampNeg) (xs (nI (i + 2)).toNatClampNeg) r (eC nn) (eC f1) x1) gL_law_X6_behind kX6_behind rfl rfl rfl rfl ⟨(Nat.le_of_ble_eq_true rfl), (Nat.le_of_ble_eq_true rfl)⟩ [0, 20, 18, 19, 9, 10, 11, 12, 13, 14, 15, 16, 1, 2, 3, 4, 5, 6, 7, 8] [17, 21, 22, 23, 24, 25, 26, 27, 28, 29, 30, 31, 32, 33, 34, 35, 36, 37, 38, 39, 40, 41, 42, 43, 44, 45, 46, 47, 48, 49, 50, 51, 52] rfl rfl rfl (by decide) rfl rfl rfl rfl rfl hl.1 (Nat.le_of_ble_eq_true rfl) dL_law_391 ⟨by have := hcR.1; omega, by have := hcR.2; omega⟩ (fun r_w u_w H locs hw hP hD hS => ?_)
  have hP : va_P g.1 vwCl ((kT g hh i0 i1) ++ (kF g qX qM AX AC AD AP AW AY AK AM (eC d) (eC f1) (eC ep) (eC nn) (eC (pw mm d)) σW σY σK ℓK ℓM QQ (kV hh))) H := tP_sub hP [33, 45, 46, 47, 48, 49, 50, 51, 52, 37, 38, 39, 40, 41, 42, 43, 44, 0, 35, 36, 34, 1, 2, 3, 4, 5, 6, 7, 8, 9, 10, 11, 12, 13, 14, 15, 16, 17, 18, 19, 20, 21, 22, 23, 24, 25, 26, 27, 28, 29, 30, 31, 32] rfl
  have hD : va_D Z ((kT g hh i0 i1) ++ (kF g qX qM AX AC AD AP AW AY AK AM (eC d) (eC f1) (eC ep) (eC nn) (eC (pw mm d)) σW σY σK ℓK ℓM QQ (kV hh))) := tD_sub hD [33, 45, 46, 47, 48, 49, 50, 51, 52, 37, 38, 39, 40, 41, 42, 43, 44, 0, 35, 36, 34, 1, 2, 3, 4, 5, 6, 7, 8, 9, 10, 11, 12, 13, 14, 15, 16, 17, 18, 19, 20, 21, 22, 23, 24, 25, 26, 27, 28, 29, 30, 31, 32] (by decide) rfl
  obtain rfl := hw
  refine lv_pop hx hb dL_law_394 rfl ?_
  refine lv_aload_n hx hb dL_law_395 rfl (lv_at hl 1 rfl) ?_
  refine lv_aload_n hx hb dL_law_396 rfl (lv_at hl 3 rfl) ?_
  refine lv_iload_n hx hb dL_law_397 rfl (lv_at hl 0 rfl) ?_
  refine lv_iconst (v := 1) hx hb dL_law_398 (by decide) ?_
  refine lv_iadd hx hb dL_law_399 ?_
  refine gtop (y := nI (i + 1)) (nI_adk i 1) ?_
  refine va_sld hx hb hX hbl hbA hS (vp_in_nI (n := i + 1) (by omega) (by omega)) dL_law_400 ?_
  refine lv_aload_n hx hb dL_law_401 rfl (lv_at hl 3 rfl) ?_
  refine lv_iload_n hx hb dL_law_402 rfl (lv_at hl 0 rfl) ?_
  refine lv_iconst (v := 2) hx hb dL_law_403 (by decide) ?_
  refine lv_iadd hx hb dL_law_404 ?_
  refine gtop (y := nI (i + 2)) (nI_adk i 2) ?_
  refine va_sld hx hb hX hbl hbA hS (vp_in_nI (n := i + 2) (by omega) (by omega)) dL_law_405 ?_
  refine gcV_iT (T := kT g hh i0 i1) (ws := kF g qX qM AX AC AD AP AW AY AK AM (eC d) (eC f1) (eC ep) (eC nn) (eC (pw mm d)) σW σY σK ℓK ℓM QQ (kV hh)) (As := [.int (xs (nI (i + 1)).toNatClampNeg), .int (xs (nI (i + 2)).toNatClampNeg)]) (rest := []) (ci := 7) (q := (RX7, TX7, 34)) F hK hN hP hD hS hA (m_X7_behind l g H.size qM AM (eC (pw mm d)) ℓM (xs (nI (i + 1)).toNatClampNeg) (xs (nI (i + 2)).toNatClampNeg) r (eC (pw n1 d)) m1) gL_law_X7_behind kX7_behind rfl rfl rfl rfl ⟨(Nat.le_of_ble_eq_true rfl), (Nat.le_of_ble_eq_true rfl)⟩ [32, 33, 34, 35, 36, 37, 38, 39, 40, 41, 42, 43, 44, 45, 46, 47, 48, 49, 50, 51, 52] [0, 1, 2, 3, 4, 5, 6, 7, 8, 9, 10, 11, 12, 13, 14, 15, 16, 17, 18, 19, 20, 21, 22, 23, 24, 25, 26, 27, 28, 29, 30, 31] rfl rfl rfl (by decide) rfl rfl rfl rfl rfl hl.1 (Nat.le_of_ble_eq_true rfl) dL_law_406 ⟨by have := hcR.1; omega, by have := hcR.2; omega⟩ (fun r_w u_w H locs hw hP hD hS => ?_)
  have hP : va_P g.1 vwCl ((kT g hh i0 i1) ++ (kF g qX qM AX AC AD AP AW AY AK AM (eC d) (eC f1) (eC ep) (eC nn) (eC (pw n1 d)) σW σY σK ℓK ℓM QQ (kV hh))) H := hP
  have hD : va_D Z ((kT g hh i0 i1) ++ (kF g qX qM AX AC AD AP AW AY AK AM (eC d) (eC f1) (eC ep) (eC nn) (eC (pw n1 d)) σW σY σK ℓK ℓM QQ (kV hh))) := hD
  obtain rfl := hw
  refine lv_pop hx hb dL_law_409 rfl ?_
  refine lv_goto (tgt := 949) hx hb dL_law_410 (by decide) ?_
  refine W.widen (k := cells + 8) (n := slots + 10240) (by omega) (by omega) ?_
  exact K d f1 ep nn n1 σW σY σK ℓK ℓM QQ hh i0 i1 ((hO.fN k2).dr k1) H locs ls hP hD hS hl

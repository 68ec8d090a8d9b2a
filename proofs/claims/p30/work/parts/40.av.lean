section ROUNDM
variable {d m : Nat → Int → Int} {τ : qL} {h : Int}
/-- none is -6 there -/
def cv (x : Int) : Int := if x < 0 then -6 else x
/-- the answer of round -/
noncomputable def rdV (d : Nat → Int → Int) (h w : Int) : Int32 := if w = 0 then onz (zI (bsR d h 1024)) else zI (bsR d h 1024)
theorem y_round (hd : okd d) {h w : Int} (h0 : 0 ≤ h) (h1 : h ≤ 99) (w0 : 0 ≤ w) (w1 : w ≤ 1) (σ η : qS) : oK (fun r => r.1 = rdV d h w) (f_X6_round σ η (eC d) (zI h) (zI w)) := by
  have hbb := bsR_b (d := d) (h := h) 1024 (by omega)
  obtain ⟨o1, -, -, -⟩ := onz_of (s := (bsR d h 1024 : Nat)) (by omega) (by omega)
  unfold f_X6_round
  rw [z_0, z_1, z_99, x_win (by omega) (by omega) (by omega) (by omega), x_win (by omega) (by omega) (by omega) (by omega), s_cl, s_cl, if_neg n10, if_neg n10]
  refine ok_cl (y_bestRound hd h0 h1 σ η) (fun y hy => ?_)
  rw [hy, o1, s_cl]
  exact ok_ifE (z_eq (by omega) (by omega) (by omega) (by omega)) (fun c => ok_r (by unfold rdV; rw [if_pos c])) (fun c => ok_r (by unfold rdV; rw [if_neg c]))
theorem round_n_eq (σ : qS) (d : Nat → Int → Int) {h w : Int32} (hr : rin h w) : f_X6_round_n σ (eC d) h w = f_X6_round σ (fun _ _ => 0) (eC d) h w := by
  unfold f_X6_round_n f_X6_round
  obtain ⟨h, h0, h1, rfl⟩ := z_of h
  obtain ⟨w, w0, w1, rfl⟩ := z_of w
  unfold rin at hr
  rw [z_toInt h0 h1, z_toInt w0 w1] at hr
  rw [z_0, z_1, z_99, x_win (by omega) (by omega) (by omega) (by omega), x_win (by omega) (by omega) (by omega) (by omega), s_cl, s_cl, s_cl, s_cl, if_neg (by decide), if_neg (by decide), if_neg (by decide), if_neg (by decide)]
  rfl
end ROUNDM


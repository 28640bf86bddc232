/-! the class: writeRecord -/
set_option maxRecDepth 100000 in
set_option maxHeartbeats 4000000 in
theorem c_Ga_writeRecord (l : Launch) (G : gG) (L : gLy) (M : gMe) (hL : gLC L) (hb : fzB M = 0) : gMet l G y_Ga_writeRecord b_Ga_writeRecord 1 none (rmL 2 0 0) [.ref 2] L M gAll (gPo none L (fzM M)) 0 0 := by
  refine gMet_of (lv := [some (.ref 2)]) (by decide) rfl (Nat.le_of_ble_eq_true rfl) rfl ?_
  refine V_al0 1 d_Ga_writeRecord_0 rfl ?_
  refine V_getr 4 7 (lC2 hL) kc_Ga (by decide) fl_Ga_55 (Or.inl rfl) rfl d_Ga_writeRecord_1 rfl ?_
  refine V_cV1 7 (c_Fu_burnsThrough l G _ _ hL) ok_Fu_burnsThrough ml_Ga_220 im_Fu_burnsThrough se_Fu_burnsThrough (lC23 hL) kc_Fu (gRm_ok (by decide) (by decide)) rfl rfl (Nat.le_of_ble_eq_true rfl) d_Ga_writeRecord_4 ⟨Nat.le_of_ble_eq_true rfl, Nat.le_of_ble_eq_true rfl⟩ rfl ?_
  refine V_if_eq 28 10 d_Ga_writeRecord_7 (by decide) rfl (fun _ => ?_) (fun h9 => absurd hb h9)
  exact V_vret rfl d_Ga_writeRecord_28 ⟨rfl, rfl, rfl⟩
set_option maxRecDepth 100000 in
set_option maxHeartbeats 4000000 in
theorem x_Ga_writeRecord (l : Launch) (G : gG) (L : gLy) (M : gMe) (hL : gLC L) (hx : gEx l G) (hb : ¬ fzB M = 0) : gMetX l G y_Ga_writeRecord b_Ga_writeRecord 1 none (rmL 6 1 6) [.ref 2] L M gAll 2 L (gst (fzM M) 6 3 0) 1 6 := by
  refine gMetX_of (lv := [some (.ref 2)]) (by decide) rfl (Nat.le_of_ble_eq_true rfl) rfl ?_
  refine V_al0 1 d_Ga_writeRecord_0 rfl ?_
  refine V_getr 4 7 (lC2 hL) kc_Ga (by decide) fl_Ga_55 (Or.inl rfl) rfl d_Ga_writeRecord_1 rfl ?_
  refine V_cV1 7 (c_Fu_burnsThrough l G _ _ hL) ok_Fu_burnsThrough ml_Ga_220 im_Fu_burnsThrough se_Fu_burnsThrough (lC23 hL) kc_Fu (gRm_ok (by decide) (by decide)) rfl rfl (Nat.le_of_ble_eq_true rfl) d_Ga_writeRecord_4 ⟨Nat.le_of_ble_eq_true rfl, Nat.le_of_ble_eq_true rfl⟩ rfl ?_
  refine V_if_eq 28 10 d_Ga_writeRecord_7 (by decide) rfl (fun h9 => absurd h9 hb) (fun _ => ?_)
  refine V_al0 11 d_Ga_writeRecord_10 rfl ?_
  refine V_getr 14 3 (lC2 hL) kc_Ga (by decide) fl_Ga_25 (Or.inl rfl) rfl d_Ga_writeRecord_11 rfl ?_
  refine V_cV1 17 (c_Pf_makeEmpty l G _ _ 6 (lC6 hL)) ok_Pf_makeEmpty ml_Ga_139 im_Pf_makeEmpty se_Pf_makeEmpty (lC6 hL).1 kc_Pf (gRm_ok (by decide) (by decide)) rfl rfl (Nat.le_of_ble_eq_true rfl) d_Ga_writeRecord_14 ⟨Nat.le_of_ble_eq_true rfl, Nat.le_of_ble_eq_true rfl⟩ rfl ?_
  refine V_pop 18 rfl d_Ga_writeRecord_17 rfl ?_
  exact V_throw 2 (text := "the machine crashed") (names := exNm) hx.1 ok_Ga_writeRecord.1 (by rw [gX2]; decide) exFit (by rw [gX2]; exact cl_Ga_102) ini2 (exAll ex106) hx.2.1 (hx.2.2.1 (223, "the machine crashed") (by decide)) (by decide) (by decide) (by decide) (by decide) (by decide) (by decide) d_Ga_writeRecord_18 d_Ga_writeRecord_21 d_Ga_writeRecord_22 d_Ga_writeRecord_24 d_Ga_writeRecord_27 ⟨rfl, rfl, rfl⟩

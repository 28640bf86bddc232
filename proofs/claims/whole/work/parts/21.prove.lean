/-! the proof is written and handed over -/
set_option maxRecDepth 100000 in
set_option maxHeartbeats 4000000 in
theorem c_Pv_written (l : Launch) (G : gG) (L : gLy) (M : gMe) (hL : gLC L) : gMet l G y_Pv_written b_Pv_written 1 (some (FieldType.object "ProofGate$Proof")) (rmL 1 0 0) [.ref 10] L M gAll (gPo (some (.ref 11)) L M) 0 0 := by
  refine gMet_of (lv := [some (.ref 10)]) (by decide) rfl (Nat.le_of_ble_eq_true rfl) rfl ?_
  refine V_al0 1 d_Pv_written_0 rfl ?_
  refine V_getr 4 1 (lC10 hL) kc_Pv (by decide) fl_Pv_14 (Or.inl rfl) rfl d_Pv_written_1 rfl ?_
  exact V_aret rfl (Or.inl ⟨_, rfl⟩) (Or.inr ⟨_, rfl⟩) d_Pv_written_4 ⟨rfl, rfl, rfl⟩
def pfBec (M : gMe) (n : Nat) : gMe :=
  let M1 := va_up M 7 (va_cpy (M 12) (M 7) 0 0 n)
  let M2 := va_up M1 8 (va_cpy (M1 13) (M1 8) 0 0 n)
  let M3 := va_up M2 9 (va_cpy (M2 14) (M2 9) 0 0 n)
  gst M3 6 3 (M3 11 3)
set_option maxRecDepth 100000 in
set_option maxHeartbeats 4000000 in
theorem c_Pf_become (l : Launch) (G : gG) (L : gLy) (M : gMe) (hL : gLC L) (n : Nat) (hn : M 11 3 = nI n) (hn4 : n ≤ 40) : gMet l G y_Pf_become b_Pf_become 2 none (rmL 2 0 0) [.ref 6, .ref 11] L M gAll (gPo none L (pfBec M n)) 0 0 := by
  refine gMet_of (lv := [some (.ref 6), some (.ref 11)]) (by decide) rfl (Nat.le_of_ble_eq_true rfl) rfl ?_
  refine V_al1 1 d_Pf_become_0 rfl ?_
  refine V_getr 4 0 (lC11 hL).1 kc_Pf (by decide) fl_Pf_9 (Or.inl rfl) rfl d_Pf_become_1 rfl ?_
  refine V_iconst 5 (v := 0) (by decide) d_Pf_become_4 rfl ?_
  refine V_al0 6 d_Pf_become_5 rfl ?_
  refine V_getr 9 0 (lC6 hL).1 kc_Pf (by decide) fl_Pf_9 (Or.inl rfl) rfl d_Pf_become_6 rfl ?_
  refine V_iconst 10 (v := 0) (by decide) d_Pf_become_9 rfl ?_
  refine V_al1 11 d_Pf_become_10 rfl ?_
  refine V_geti 14 3 (lC11 hL).1 kc_Pf (by decide) fl_Pf_21 (Or.inl rfl) rfl d_Pf_become_11 rfl ?_
  refine V_copyi 17 n (lC11 hL).2.1 (lC6 hL).2.1 hn hn4 hn4 (by omega) sy_Pf (Nat.le_of_ble_eq_true rfl) (Nat.le_of_ble_eq_true rfl) d_Pf_become_14 rfl ?_
  refine V_al1 18 d_Pf_become_17 rfl ?_
  refine V_getr 21 1 (lC11 hL).1 kc_Pf (by decide) fl_Pf_15 (Or.inl rfl) rfl d_Pf_become_18 rfl ?_
  refine V_iconst 22 (v := 0) (by decide) d_Pf_become_21 rfl ?_
  refine V_al0 23 d_Pf_become_22 rfl ?_
  refine V_getr 26 1 (lC6 hL).1 kc_Pf (by decide) fl_Pf_15 (Or.inl rfl) rfl d_Pf_become_23 rfl ?_
  refine V_iconst 27 (v := 0) (by decide) d_Pf_become_26 rfl ?_
  refine V_al1 28 d_Pf_become_27 rfl ?_
  refine V_geti 31 3 (lC11 hL).1 kc_Pf (by decide) fl_Pf_21 (Or.inl rfl) rfl d_Pf_become_28 rfl ?_
  refine V_copyi 34 n (lC11 hL).2.2.1 (lC6 hL).2.2.1 (by rw [va_up_ne _ _ (by decide)]; exact hn) hn4 hn4 (by omega) sy_Pf (Nat.le_of_ble_eq_true rfl) (Nat.le_of_ble_eq_true rfl) d_Pf_become_31 rfl ?_
  refine V_al1 35 d_Pf_become_34 rfl ?_
  refine V_getr 38 2 (lC11 hL).1 kc_Pf (by decide) fl_Pf_18 (Or.inl rfl) rfl d_Pf_become_35 rfl ?_
  refine V_iconst 39 (v := 0) (by decide) d_Pf_become_38 rfl ?_
  refine V_al0 40 d_Pf_become_39 rfl ?_
  refine V_getr 43 2 (lC6 hL).1 kc_Pf (by decide) fl_Pf_18 (Or.inl rfl) rfl d_Pf_become_40 rfl ?_
  refine V_iconst 44 (v := 0) (by decide) d_Pf_become_43 rfl ?_
  refine V_al1 45 d_Pf_become_44 rfl ?_
  refine V_geti 48 3 (lC11 hL).1 kc_Pf (by decide) fl_Pf_21 (Or.inl rfl) rfl d_Pf_become_45 rfl ?_
  refine V_copyi 51 n (lC11 hL).2.2.2 (lC6 hL).2.2.2 (by rw [va_up_ne _ _ (by decide), va_up_ne _ _ (by decide)]; exact hn) hn4 hn4 (by omega) sy_Pf (Nat.le_of_ble_eq_true rfl) (Nat.le_of_ble_eq_true rfl) d_Pf_become_48 rfl ?_
  refine V_al0 52 d_Pf_become_51 rfl ?_
  refine V_al1 53 d_Pf_become_52 rfl ?_
  refine V_geti 56 3 (lC11 hL).1 kc_Pf (by decide) fl_Pf_21 (Or.inl rfl) rfl d_Pf_become_53 rfl ?_
  refine V_puti 59 3 (lC6 hL).1 kc_Pf (by decide) fl_Pf_21 (Or.inl rfl) rfl rfl rfl rfl d_Pf_become_56 rfl ?_
  exact V_vret rfl d_Pf_become_59 ⟨rfl, rfl, rfl⟩
def wp3 (M : gMe) : gMe := mfill (gst M 11 3 0) 19 (-1) 756
def wpR (K : Nat → Nat → Nat) (o c g : Nat) (M : gMe) : Int32 × gMe :=
  if fdM K o c g M 15 g = 0 then (-2, fdM K o c g M) else if (wsR 40 (wp3 (fdM K o c g M)) g).1 = 0 then (-3, (wsR 40 (wp3 (fdM K o c g M)) g).2) else ((wsR 40 (wp3 (fdM K o c g M)) g).2 11 3, (wsR 40 (wp3 (fdM K o c g M)) g).2)
theorem wp3_ws {M : gMe} : gWs M (wp3 M) := fun b h1 h2 => by
  unfold wp3
  rw [mfill_ne h2, gst_ne _ _ _ _ (by omega)]
theorem wp3_3 {M : gMe} : gW3 (wp3 M) := ⟨0, by decide, by
  unfold wp3
  rw [mfill_ne (by decide), gst_same]; rfl⟩
set_option maxRecDepth 100000 in
set_option maxHeartbeats 4000000 in
theorem c_Pv_writeProof (l : Launch) (G : gG) (L : gLy) (M : gMe) (hL : gLC L) (c : Nat) (hH : gLH L c) (hs : M 5 1 = nI c) (hc : c < 100) (K : Nat → Nat → Nat) (hK : gCW M c K) (a p r o : Nat) (ha : a < 6) (hp : p < 6) (hr : r < 4) (ho : o < 6) (S : Nat → Prop) (hRe : gRe (fdM K o c (mayN a p r) M) S) (hSg : ¬ fdM K o c (mayN a p r) M 15 (mayN a p r) = 0 → S (mayN a p r)) : gMet l G y_Pv_writeProof b_Pv_writeProof 6 (some FieldType.int) (rmL 43 0 0) [.ref 10, .int (nI a), .int (nI p), .int (nI r), .int (nI o)] L M gAll (gPo (some (.int (wpR K o c (mayN a p r) M).1)) L (wpR K o c (mayN a p r) M).2) 0 0 := by
  refine gMet_of (lv := [some (.ref 10), some (.int (nI a)), some (.int (nI p)), some (.int (nI r)), some (.int (nI o)), none]) (by decide) rfl (Nat.le_of_ble_eq_true rfl) rfl ?_
  refine V_il1 1 d_Pv_writeProof_0 rfl ?_
  refine V_il2 2 d_Pv_writeProof_1 rfl ?_
  refine V_il3 3 d_Pv_writeProof_2 rfl ?_
  refine V_cS1 6 (c_Pv_may l G _ _ _ _ _) ok_Pv_may ml_Pv_38 st_Pv_may (gRm_ok (by decide) (by decide)) rfl rfl (Nat.le_of_ble_eq_true rfl) d_Pv_writeProof_3 ⟨Nat.le_of_ble_eq_true rfl, Nat.le_of_ble_eq_true rfl⟩ rfl ?_
  refine V_topi (may_nI a p r) ?_
  refine V_is5 8 d_Pv_writeProof_6 (by decide) rfl ?_
  refine V_al0 9 d_Pv_writeProof_8 rfl ?_
  refine V_il5 11 d_Pv_writeProof_9 rfl ?_
  refine V_il4 13 d_Pv_writeProof_11 rfl ?_
  refine V_cV1 16 (c_Pv_finds l G _ _ hL c hH hs hc K hK (mayN a p r) o (mayN_lt ha hp hr) ho) ok_Pv_finds ml_Pv_42 im_Pv_finds se_Pv_finds (lC10 hL) kc_Pv (gRm_ok (by decide) (by decide)) rfl rfl (Nat.le_of_ble_eq_true rfl) d_Pv_writeProof_13 ⟨Nat.le_of_ble_eq_true rfl, Nat.le_of_ble_eq_true rfl⟩ rfl ?_
  refine V_bn 22 19 d_Pv_writeProof_16 (by decide) rfl (fun h16 => ?_) (fun h16 => ?_)
  · refine V_al0 23 d_Pv_writeProof_22 rfl ?_
    refine V_getr 26 1 (lC10 hL) kc_Pv (by decide) fl_Pv_14 (Or.inl rfl) rfl d_Pv_writeProof_23 rfl ?_
    refine V_cV1 29 (c_Pf_makeEmpty l G _ _ 11 (lC11 hL)) ok_Pf_makeEmpty ml_Pv_46 im_Pf_makeEmpty se_Pf_makeEmpty (lC11 hL).1 kc_Pf (gRm_ok (by decide) (by decide)) rfl rfl (Nat.le_of_ble_eq_true rfl) d_Pv_writeProof_26 ⟨Nat.le_of_ble_eq_true rfl, Nat.le_of_ble_eq_true rfl⟩ rfl ?_
    refine V_pop 30 rfl d_Pv_writeProof_29 rfl ?_
    refine V_al0 31 d_Pv_writeProof_30 rfl ?_
    refine V_getr 34 6 (lC10 hL) kc_Pv (by decide) fl_Pv_31 (Or.inl rfl) rfl d_Pv_writeProof_31 rfl ?_
    refine V_iconst 35 (v := (-1)) (by decide) d_Pv_writeProof_34 rfl ?_
    refine V_cS0 38 (c_Ar_fill l G _ _ 19 756 (lC19 hL) (by decide) (-1)) ok_Ar_fill ml_Pv_50 st_Ar_fill (gRm_ok (by decide) (by decide)) rfl rfl (Nat.le_of_ble_eq_true rfl) d_Pv_writeProof_35 ⟨Nat.le_of_ble_eq_true rfl, Nat.le_of_ble_eq_true rfl⟩ rfl ?_
    refine V_m (M' := wp3 (fdM K o c (mayN a p r) M)) rfl ?_
    refine V_al0 39 d_Pv_writeProof_38 rfl ?_
    refine V_il5 41 d_Pv_writeProof_39 rfl ?_
    refine V_iconst 42 (v := 1) (by decide) d_Pv_writeProof_41 rfl ?_
    refine V_cV1 45 (c_Pv_writesStep l G L hL S 40 1 _ (mayN a p r) rfl (hRe.mv wp3_ws) wp3_3 (hSg h16)) ok_Pv_writesStep ml_Pv_56 im_Pv_writesStep se_Pv_writesStep (lC10 hL) kc_Pv (gRm_ok (by decide) (by decide)) rfl rfl (Nat.le_of_ble_eq_true rfl) d_Pv_writeProof_42 ⟨Nat.le_of_ble_eq_true rfl, Nat.le_of_ble_eq_true rfl⟩ rfl ?_
    refine V_if_eq 58 48 d_Pv_writeProof_45 (by decide) rfl (fun h45 => ?_) (fun h45 => ?_)
    · refine V_bipush 60 (v := (-3)) (by decide) d_Pv_writeProof_58 rfl ?_
      exact V_iret rfl d_Pv_writeProof_60 ⟨by rw [wpR, if_neg h16, if_pos h45], rfl, by rw [wpR, if_neg h16, if_pos h45]⟩
    · refine V_al0 49 d_Pv_writeProof_48 rfl ?_
      refine V_getr 52 1 (lC10 hL) kc_Pv (by decide) fl_Pv_14 (Or.inl rfl) rfl d_Pv_writeProof_49 rfl ?_
      refine V_cV1 55 (c_Pf_length l G _ _ 11 (lC11 hL)) ok_Pf_length ml_Pv_59 im_Pf_length se_Pf_length (lC11 hL).1 kc_Pf (gRm_ok (by decide) (by decide)) rfl rfl (Nat.le_of_ble_eq_true rfl) d_Pv_writeProof_52 ⟨Nat.le_of_ble_eq_true rfl, Nat.le_of_ble_eq_true rfl⟩ rfl ?_
      refine V_goto 60 d_Pv_writeProof_55 (by decide) ?_
      exact V_iret rfl d_Pv_writeProof_60 ⟨by rw [wpR, if_neg h16, if_neg h45], rfl, by rw [wpR, if_neg h16, if_neg h45]⟩
  · refine V_bipush 21 (v := (-2)) (by decide) d_Pv_writeProof_19 rfl ?_
    exact V_iret rfl d_Pv_writeProof_21 ⟨by rw [wpR, if_pos (Decidable.not_not.mp h16)], rfl, by rw [wpR, if_pos (Decidable.not_not.mp h16)]⟩

/-! the class: submit throws -/
set_option maxRecDepth 100000 in
set_option maxHeartbeats 4000000 in
theorem x_Ga_submit_1 (l : Launch) (G : gG) (L : gLy) (M : gMe) (hL : gLC L) (hx : gEx l G) (hs : gSt G) (a : Nat) (h2 : 100 ≤ a) (ha : L a = none) (hn : L (a + 1) = none) (i k f t s : Int32) (hw : ¬ pWf (sb1 M a i k f t) a (a + 1)) : gMetX l G y_Ga_submit b_Ga_submit 7 (some FieldType.int) (rmL 8 3 16) [.ref 2, .int i, .int k, .int f, .int t, .int s] L M (fun x => x ≠ a ∧ x ≠ a + 1) 0 L (M) 3 16 := by
  refine gMetX_of (lv := [some (.ref 2), some (.int i), some (.int k), some (.int f), some (.int t), some (.int s), none]) (by decide) rfl (Nat.le_of_ble_eq_true rfl) rfl ?_
  refine V_clo (fun hclo => ?_)
  refine sub18 (lC3 hL) (lC2 hL) hs a h2 ha hn (fun x hx => hx) (by decide) (by decide) (by decide) i k f t s ?_
  have hq2 := (sbL_ne (L := L) (a := a) (q := 2) (by omega) (by omega)).trans (lC2 hL)
  refine V_al6 20 d_Ga_submit_18 rfl ?_
  refine V_cV1 23 (c_Cr_isWellFormed l G _ _ hs a (a + 1) sbLR) ok_Cr_isWellFormed ml_Ga_82 im_Cr_isWellFormed se_Cr_isWellFormed sbLR.1 kc_Cr (gRm_ok (by decide) (by decide)) rfl rfl (Nat.le_of_ble_eq_true rfl) d_Ga_submit_20 ⟨Nat.le_of_ble_eq_true rfl, Nat.le_of_ble_eq_true rfl⟩ rfl ?_
  refine V_bn 36 26 d_Ga_submit_23 (by decide) rfl (fun h9 => absurd h9 hw) (fun _ => ?_)
  refine V_rest (L2 := L) (M2 := M) (sbRest ha hn) hclo (sbRestM ha hn) ?_
  exact V_throw 0 (text := "no such issuer or kind, or a number out of its range") (names := exNm) hx.1 ok_Ga_submit.1 (by rw [gX0]; decide) exFit (by rw [gX0]; exact cl_Ga_86) ini0 (exAll ex90) hx.2.1 (hx.2.2.1 (88, "no such issuer or kind, or a number out of its range") (by decide)) (by decide) (by decide) (by decide) (by decide) (by decide) (by decide) d_Ga_submit_26 d_Ga_submit_29 d_Ga_submit_30 d_Ga_submit_32 d_Ga_submit_35 ⟨rfl, rfl, rfl⟩
set_option maxRecDepth 100000 in
set_option maxHeartbeats 4000000 in
theorem x_Ga_submit_2 (l : Launch) (G : gG) (L : gLy) (M : gMe) (hL : gLC L) (hx : gEx l G) (hs : gSt G) (a : Nat) (h2 : 100 ≤ a) (ha : L a = none) (hn : L (a + 1) = none) (i k f t s : Int32) (hw : pWf (sb1 M a i k f t) a (a + 1)) (he : ¬ soI (sb1 M a i k f t) a (a + 1) = s) : gMetX l G y_Ga_submit b_Ga_submit 7 (some FieldType.int) (rmL 8 3 16) [.ref 2, .int i, .int k, .int f, .int t, .int s] L M (fun x => x ≠ a ∧ x ≠ a + 1) 1 L (M) 3 16 := by
  refine gMetX_of (lv := [some (.ref 2), some (.int i), some (.int k), some (.int f), some (.int t), some (.int s), none]) (by decide) rfl (Nat.le_of_ble_eq_true rfl) rfl ?_
  refine V_clo (fun hclo => ?_)
  refine sub18 (lC3 hL) (lC2 hL) hs a h2 ha hn (fun x hx => hx) (by decide) (by decide) (by decide) i k f t s ?_
  have hq2 := (sbL_ne (L := L) (a := a) (q := 2) (by omega) (by omega)).trans (lC2 hL)
  refine V_al6 20 d_Ga_submit_18 rfl ?_
  refine V_cV1 23 (c_Cr_isWellFormed l G _ _ hs a (a + 1) sbLR) ok_Cr_isWellFormed ml_Ga_82 im_Cr_isWellFormed se_Cr_isWellFormed sbLR.1 kc_Cr (gRm_ok (by decide) (by decide)) rfl rfl (Nat.le_of_ble_eq_true rfl) d_Ga_submit_20 ⟨Nat.le_of_ble_eq_true rfl, Nat.le_of_ble_eq_true rfl⟩ rfl ?_
  refine V_bn 36 26 d_Ga_submit_23 (by decide) rfl (fun _ => ?_) (fun h9 => absurd hw h9)
  refine V_al0 37 d_Ga_submit_36 rfl ?_
  refine V_al6 39 d_Ga_submit_37 rfl ?_
  refine V_cV1 42 (c_Ga_sealOf' l G _ _ hq2 a (a + 1) sbLR) ok_Ga_sealOf ml_Ga_78 im_Ga_sealOf se_Ga_sealOf hq2 kc_Ga (gRm_ok (by decide) (by decide)) rfl rfl (Nat.le_of_ble_eq_true rfl) d_Ga_submit_39 ⟨Nat.le_of_ble_eq_true rfl, Nat.le_of_ble_eq_true rfl⟩ rfl ?_
  refine V_il5 44 d_Ga_submit_42 rfl ?_
  refine V_icmp_eq 57 47 d_Ga_submit_44 (by decide) rfl (fun h9 => absurd h9 he) (fun _ => ?_)
  refine V_rest (L2 := L) (M2 := M) (sbRest ha hn) hclo (sbRestM ha hn) ?_
  exact V_throw 1 (text := "the seal is not right") (names := exNm) hx.1 ok_Ga_submit.1 (by rw [gX1]; decide) exFit (by rw [gX1]; exact cl_Ga_93) ini1 (exAll ex97) hx.2.1 (hx.2.2.1 (95, "the seal is not right") (by decide)) (by decide) (by decide) (by decide) (by decide) (by decide) (by decide) d_Ga_submit_47 d_Ga_submit_50 d_Ga_submit_51 d_Ga_submit_53 d_Ga_submit_56 ⟨rfl, rfl, rfl⟩
set_option maxRecDepth 100000 in
set_option maxHeartbeats 4000000 in
theorem x_Ga_submit_3 (l : Launch) (G : gG) (L : gLy) (M : gMe) (hL : gLC L) (hx : gEx l G) (hs : gSt G) (a : Nat) (h2 : 100 ≤ a) (ha : L a = none) (hn : L (a + 1) = none) (i k f t s : Int32) (hw : pWf (sb1 M a i k f t) a (a + 1)) (he : soI (sb1 M a i k f t) a (a + 1) = s) (c : Nat) (hH : gLH L c) (hsz : M 5 1 = nI c) (hc : c < 100) (h24 : 24 ≤ c) : gMetX l G y_Ga_submit b_Ga_submit 7 (some FieldType.int) (rmL 8 3 16) [.ref 2, .int i, .int k, .int f, .int t, .int s] L M (fun x => x ≠ a ∧ x ≠ a + 1) 2 L (M) 3 16 := by
  refine gMetX_of (lv := [some (.ref 2), some (.int i), some (.int k), some (.int f), some (.int t), some (.int s), none]) (by decide) rfl (Nat.le_of_ble_eq_true rfl) rfl ?_
  refine V_clo (fun hclo => ?_)
  refine sub18 (lC3 hL) (lC2 hL) hs a h2 ha hn (fun x hx => hx) (by decide) (by decide) (by decide) i k f t s ?_
  have hq2 := (sbL_ne (L := L) (a := a) (q := 2) (by omega) (by omega)).trans (lC2 hL)
  refine V_al6 20 d_Ga_submit_18 rfl ?_
  refine V_cV1 23 (c_Cr_isWellFormed l G _ _ hs a (a + 1) sbLR) ok_Cr_isWellFormed ml_Ga_82 im_Cr_isWellFormed se_Cr_isWellFormed sbLR.1 kc_Cr (gRm_ok (by decide) (by decide)) rfl rfl (Nat.le_of_ble_eq_true rfl) d_Ga_submit_20 ⟨Nat.le_of_ble_eq_true rfl, Nat.le_of_ble_eq_true rfl⟩ rfl ?_
  refine V_bn 36 26 d_Ga_submit_23 (by decide) rfl (fun _ => ?_) (fun h9 => absurd hw h9)
  refine V_al0 37 d_Ga_submit_36 rfl ?_
  refine V_al6 39 d_Ga_submit_37 rfl ?_
  refine V_cV1 42 (c_Ga_sealOf' l G _ _ hq2 a (a + 1) sbLR) ok_Ga_sealOf ml_Ga_78 im_Ga_sealOf se_Ga_sealOf hq2 kc_Ga (gRm_ok (by decide) (by decide)) rfl rfl (Nat.le_of_ble_eq_true rfl) d_Ga_submit_39 ⟨Nat.le_of_ble_eq_true rfl, Nat.le_of_ble_eq_true rfl⟩ rfl ?_
  refine V_il5 44 d_Ga_submit_42 rfl ?_
  refine V_icmp_eq 57 47 d_Ga_submit_44 (by decide) rfl (fun _ => ?_) (fun h9 => absurd he h9)
  refine V_rest (L2 := L) (M2 := M) (sbRest ha hn) hclo (sbRestM ha hn) ?_
  refine V_al0 58 d_Ga_submit_57 rfl ?_
  refine V_getr 61 2 (lC2 hL) kc_Ga (by decide) fl_Ga_18 (Or.inl rfl) rfl d_Ga_submit_58 rfl ?_
  refine V_cV1 64 (c_Cs_count l G _ _ hL c hH) ok_Cs_count ml_Ga_98 im_Cs_count se_Cs_count (lC4 hL) kc_Cs (gRm_ok (by decide) (by decide)) rfl rfl (Nat.le_of_ble_eq_true rfl) d_Ga_submit_61 ⟨Nat.le_of_ble_eq_true rfl, Nat.le_of_ble_eq_true rfl⟩ rfl ?_
  refine V_topi hsz ?_
  refine V_bipush 66 (v := 24) (by decide) d_Ga_submit_64 rfl ?_
  refine V_icmp_lt 79 69 d_Ga_submit_66 (by decide) rfl (fun h9 => absurd h9 (nI_nlt (b := 24) h24 (by omega))) (fun _ => ?_)
  exact V_throw 2 (text := "no room for another credential") (names := exNm) hx.1 ok_Ga_submit.1 (by rw [gX2]; decide) exFit (by rw [gX2]; exact cl_Ga_102) ini2 (exAll ex106) hx.2.1 (hx.2.2.1 (104, "no room for another credential") (by decide)) (by decide) (by decide) (by decide) (by decide) (by decide) (by decide) d_Ga_submit_69 d_Ga_submit_72 d_Ga_submit_73 d_Ga_submit_75 d_Ga_submit_78 ⟨rfl, rfl, rfl⟩
set_option maxRecDepth 100000 in
set_option maxHeartbeats 4000000 in
theorem x_Ga_submit_4 (l : Launch) (G : gG) (L : gLy) (M : gMe) (hL : gLC L) (hx : gEx l G) (hs : gSt G) (a : Nat) (h2 : 100 ≤ a) (ha : L a = none) (hn : L (a + 1) = none) (i k f t s : Int32) (hw : pWf (sb1 M a i k f t) a (a + 1)) (he : soI (sb1 M a i k f t) a (a + 1) = s) (c : Nat) (hH : gLH L c) (hsz : M 5 1 = nI c) (hc : c < 100) (h24 : c < 24) (hb : ¬ fzB M = 0) : gMetX l G y_Ga_submit b_Ga_submit 7 (some FieldType.int) (rmL 8 3 16) [.ref 2, .int i, .int k, .int f, .int t, .int s] L M (fun x => x ≠ a ∧ x ≠ a + 1) 2 L (gst (fzM M) 6 3 0) 3 16 := by
  refine gMetX_of (lv := [some (.ref 2), some (.int i), some (.int k), some (.int f), some (.int t), some (.int s), none]) (by decide) rfl (Nat.le_of_ble_eq_true rfl) rfl ?_
  refine V_clo (fun hclo => ?_)
  refine sub18 (lC3 hL) (lC2 hL) hs a h2 ha hn (fun x hx => hx) (by decide) (by decide) (by decide) i k f t s ?_
  have hq2 := (sbL_ne (L := L) (a := a) (q := 2) (by omega) (by omega)).trans (lC2 hL)
  refine V_al6 20 d_Ga_submit_18 rfl ?_
  refine V_cV1 23 (c_Cr_isWellFormed l G _ _ hs a (a + 1) sbLR) ok_Cr_isWellFormed ml_Ga_82 im_Cr_isWellFormed se_Cr_isWellFormed sbLR.1 kc_Cr (gRm_ok (by decide) (by decide)) rfl rfl (Nat.le_of_ble_eq_true rfl) d_Ga_submit_20 ⟨Nat.le_of_ble_eq_true rfl, Nat.le_of_ble_eq_true rfl⟩ rfl ?_
  refine V_bn 36 26 d_Ga_submit_23 (by decide) rfl (fun _ => ?_) (fun h9 => absurd hw h9)
  refine V_al0 37 d_Ga_submit_36 rfl ?_
  refine V_al6 39 d_Ga_submit_37 rfl ?_
  refine V_cV1 42 (c_Ga_sealOf' l G _ _ hq2 a (a + 1) sbLR) ok_Ga_sealOf ml_Ga_78 im_Ga_sealOf se_Ga_sealOf hq2 kc_Ga (gRm_ok (by decide) (by decide)) rfl rfl (Nat.le_of_ble_eq_true rfl) d_Ga_submit_39 ⟨Nat.le_of_ble_eq_true rfl, Nat.le_of_ble_eq_true rfl⟩ rfl ?_
  refine V_il5 44 d_Ga_submit_42 rfl ?_
  refine V_icmp_eq 57 47 d_Ga_submit_44 (by decide) rfl (fun _ => ?_) (fun h9 => absurd he h9)
  refine V_rest (L2 := L) (M2 := M) (sbRest ha hn) hclo (sbRestM ha hn) ?_
  refine V_al0 58 d_Ga_submit_57 rfl ?_
  refine V_getr 61 2 (lC2 hL) kc_Ga (by decide) fl_Ga_18 (Or.inl rfl) rfl d_Ga_submit_58 rfl ?_
  refine V_cV1 64 (c_Cs_count l G _ _ hL c hH) ok_Cs_count ml_Ga_98 im_Cs_count se_Cs_count (lC4 hL) kc_Cs (gRm_ok (by decide) (by decide)) rfl rfl (Nat.le_of_ble_eq_true rfl) d_Ga_submit_61 ⟨Nat.le_of_ble_eq_true rfl, Nat.le_of_ble_eq_true rfl⟩ rfl ?_
  refine V_topi hsz ?_
  refine V_bipush 66 (v := 24) (by decide) d_Ga_submit_64 rfl ?_
  refine V_icmp_lt 79 69 d_Ga_submit_66 (by decide) rfl (fun _ => ?_) (fun h9 => absurd (nI_lt (b := 24) h24 (by decide)) h9)
  refine V_al0 80 d_Ga_submit_79 rfl ?_
  exact V_callVX (x_Ga_writeRecord l G _ _ hL hx hb) ok_Ga_submit.1 ok_Ga_writeRecord mw_Ga_107 im_Ga_writeRecord se_Ga_writeRecord (lC2 hL) kc_Ga (gRm_ok (by decide) (by decide)) rfl rfl (Nat.le_of_ble_eq_true rfl) d_Ga_submit_80 ⟨Nat.le_of_ble_eq_true rfl, Nat.le_of_ble_eq_true rfl⟩ ⟨Nat.le_of_ble_eq_true rfl, Nat.le_of_ble_eq_true rfl⟩ (fun _ _ => trivial) ⟨rfl, rfl, rfl⟩

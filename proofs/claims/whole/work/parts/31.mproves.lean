/-! the reference: proves, check, valid, revoke, submit -/
def pwL (c : Nat) : Nat → Nat → gMe → Int32 × gMe
  | 0, _, M => (1, M)
  | d + 1, k, M => if pvI M c k = 0 then (0, gst M 417 k (pvI M c k)) else pwL c d (k + 1) (gst M 417 k (pvI M c k))
def pwR (c n : Nat) (M : gMe) (a p r o : Int32) : Int32 × gMe := if n = 0 then (0, M) else (bi (¬ (pwL c n 0 M).1 = 0 ∧ (pwL c n 0 M).2 417 (n - 1) = fcI 1 a p r o 0), (pwL c n 0 M).2)
def gK7 (M M' : gMe) : Prop := ∀ b, b ≠ 417 → M' b = M b
theorem pwL_k7 {c : Nat} {M : gMe} : ∀ (d k : Nat) (M' : gMe), gK7 M M' → gK7 M (pwL c d k M').2
  | 0, _, _, h => h
  | d + 1, k, M', h => by
    have h1 : gK7 M (gst M' 417 k (pvI M' c k)) := fun b hb => by rw [gst_ne _ _ _ _ hb]; exact h b hb
    unfold pwL
    split
    · exact h1
    · exact pwL_k7 d (k + 1) _ h1
def syI (M : gMe) (r o : Int32) : Int32 := if r = 3 then 0 else M 402 o.toNatClampNeg
def ckI (c n : Nat) (M : gMe) (p r o : Int32) : Int32 × gMe := if pGoal M p r o then pwR c n M (syI M r o) p r o else (0, M)
theorem pIn5 {x : Int32} (h : pIn x 0 5) : ∃ n, n < 6 ∧ x = nI n ∧ x.toNatClampNeg = n := by
  obtain ⟨n, h1, h2⟩ := nI_of2 (M := 5) (n := 5) (by decide) h.1 (Int32.not_lt.mp h.2)
  exact ⟨n, by omega, h2, by rw [h2]; exact nI_clamp (by omega)⟩
theorem pIn3 {x : Int32} (h : pIn x 0 3) : ∃ n, n < 4 ∧ x = nI n ∧ x.toNatClampNeg = n := by
  obtain ⟨n, h1, h2⟩ := nI_of2 (M := 3) (n := 3) (by decide) h.1 (Int32.not_lt.mp h.2)
  exact ⟨n, by omega, h2, by rw [h2]; exact nI_clamp (by omega)⟩
set_option maxRecDepth 100000 in
set_option maxHeartbeats 4000000 in
theorem c_Mo_proves (l : Launch) (G : gG) (L : gLy) (M : gMe) (hM : gLM L) (c : Nat) (hcm : M 400 10 = nI c) (hc : c < 25) (n : Nat) (hn : M 400 21 = nI n) (hn4 : n ≤ 40) (a p r o : Int32) : gMet l G y_Mo_proves b_Mo_proves 7 (some FieldType.boolean) (rmL 4 0 0) [.ref 400, .int a, .int p, .int r, .int o] L M gAll (gPo (some (.int (pwR c n M a p r o).1)) L (pwR c n M a p r o).2) 0 0 := by
  by_cases h0 : n = 0
  · subst h0
    refine gMet_of (lv := [some (.ref 400), some (.int a), some (.int p), some (.int r), some (.int o), none, none]) (by decide) rfl (Nat.le_of_ble_eq_true rfl) rfl ?_
    refine V_al0 1 d_Mo_proves_0 rfl ?_
    refine V_geti 4 21 (lM hM) kc_Mo (by decide) fl_Mo_103 (Or.inl rfl) rfl d_Mo_proves_1 rfl ?_
    refine V_topi hn ?_
    refine V_if_le 11 7 d_Mo_proves_4 (by decide) rfl (fun _ => ?_) (fun h9 => absurd (show nI 0 ≤ (0 : Int32) by decide) h9)
    refine V_iconst 12 (v := 0) (by decide) d_Mo_proves_11 rfl ?_
    refine V_is5 14 d_Mo_proves_12 (by decide) rfl ?_
    refine V_iconst 15 (v := 0) (by decide) d_Mo_proves_14 rfl ?_
    refine V_is6 17 d_Mo_proves_15 (by decide) rfl ?_
    refine V_il6 19 d_Mo_proves_17 rfl ?_
    refine V_al0 20 d_Mo_proves_19 rfl ?_
    refine V_geti 23 21 (lM hM) kc_Mo (by decide) fl_Mo_103 (Or.inl rfl) rfl d_Mo_proves_20 rfl ?_
    refine V_topi hn ?_
    refine V_icmp_ge 67 26 d_Mo_proves_23 (by decide) rfl (fun _ => ?_) (fun h9 => absurd (show nI 0 ≤ (0 : Int32) by decide) h9)
    refine V_il5 69 d_Mo_proves_67 rfl ?_
    refine V_if_eq 100 72 d_Mo_proves_69 (by decide) rfl (fun _ => ?_) (fun h9 => absurd (show (0 : Int32) = 0 from rfl) h9)
    refine V_iconst 101 (v := 0) (by decide) d_Mo_proves_100 rfl ?_
    exact V_zret rfl rfl d_Mo_proves_101 ⟨by rw [pwR, if_pos rfl], rfl, by rw [pwR, if_pos rfl]⟩
  obtain ⟨T, hT⟩ : ∃ T, T = pwL c n 0 M := ⟨_, rfl⟩
  have eR : pwR c n M a p r o = (bi (¬ T.1 = 0 ∧ T.2 417 (n - 1) = fcI 1 a p r o 0), T.2) := by rw [pwR, if_neg h0, hT]
  have k7 : gK7 M T.2 := by rw [hT]; exact pwL_k7 n 0 M (fun _ _ => rfl)
  rw [eR]
  have q67 : ∀ z6 : Option Value, V l G y_Mo_proves b_Mo_proves 7 (some FieldType.boolean) (rmL 4 0 0) 0 0 gAll (gPo (some (.int (bi (¬ T.1 = 0 ∧ T.2 417 (n - 1) = fcI 1 a p r o 0)))) L T.2) L (T.2) 0 0 [some (.ref 400), some (.int a), some (.int p), some (.int r), some (.int o), some (.int T.1), z6] 67 [] := by
    intro z6
    refine V_il5 69 d_Mo_proves_67 rfl ?_
    refine V_if_eq 100 72 d_Mo_proves_69 (by decide) rfl (fun h69 => ?_) (fun h69 => ?_)
    · refine V_iconst 101 (v := 0) (by decide) d_Mo_proves_100 rfl ?_
      exact V_zret rfl rfl d_Mo_proves_101 ⟨by rw [bi_f (fun h => h.1 h69)], rfl, rfl⟩
    · refine V_al0 73 d_Mo_proves_72 rfl ?_
      refine V_getr 76 26 (lM hM) kc_Mo (by decide) fl_Mo_59 (Or.inl rfl) rfl d_Mo_proves_73 rfl ?_
      refine V_al0 77 d_Mo_proves_76 rfl ?_
      refine V_geti 80 21 (lM hM) kc_Mo (by decide) fl_Mo_103 (Or.inl rfl) rfl d_Mo_proves_77 rfl ?_
      refine V_topi (z := nI n) (by rw [k7 400 (by decide)]; exact hn) ?_
      refine V_iconst 81 (v := 1) (by decide) d_Mo_proves_80 rfl ?_
      refine V_isub 82 d_Mo_proves_81 rfl ?_
      refine V_topi (nI_dm (by omega)) ?_
      refine V_ialn 83 ((n - 1)) (lM417 hM) rfl (by omega) (by decide) d_Mo_proves_82 rfl ?_
      refine V_iconst 84 (v := 1) (by decide) d_Mo_proves_83 rfl ?_
      refine V_il1 85 d_Mo_proves_84 rfl ?_
      refine V_il2 86 d_Mo_proves_85 rfl ?_
      refine V_il3 87 d_Mo_proves_86 rfl ?_
      refine V_il4 89 d_Mo_proves_87 rfl ?_
      refine V_iconst 90 (v := 0) (by decide) d_Mo_proves_89 rfl ?_
      refine V_cS1 93 (c_Mo_fact l G _ _ _ _ _ _ _ _) ok_Mo_fact ml_Mo_206 st_Mo_fact (gRm_ok (by decide) (by decide)) rfl rfl (Nat.le_of_ble_eq_true rfl) d_Mo_proves_90 ⟨Nat.le_of_ble_eq_true rfl, Nat.le_of_ble_eq_true rfl⟩ rfl ?_
      refine V_icmp_ne 100 96 d_Mo_proves_93 (by decide) rfl (fun h93 => ?_) (fun h93 => ?_)
      · refine V_iconst 101 (v := 0) (by decide) d_Mo_proves_100 rfl ?_
        exact V_zret rfl rfl d_Mo_proves_101 ⟨by rw [bi_f (fun h => h93 h.2)], rfl, rfl⟩
      · refine V_iconst 97 (v := 1) (by decide) d_Mo_proves_96 rfl ?_
        refine V_goto 101 d_Mo_proves_97 (by decide) ?_
        exact V_zret rfl rfl d_Mo_proves_101 ⟨by rw [bi_t ⟨h69, h93⟩], rfl, rfl⟩
  have q17 : ∀ (d k : Nat) (M' : gMe), k + d = n → gK7 M M' → pwL c d k M' = T → V l G y_Mo_proves b_Mo_proves 7 (some FieldType.boolean) (rmL 4 0 0) 0 0 gAll (gPo (some (.int (bi (¬ T.1 = 0 ∧ T.2 417 (n - 1) = fcI 1 a p r o 0)))) L T.2) L (M') 0 0 [some (.ref 400), some (.int a), some (.int p), some (.int r), some (.int o), some (.int 1), some (.int (nI k))] 17 [] := by
    intro d
    induction d with
    | zero =>
      intro k M' hk h7 hT'
      obtain rfl : k = n := by omega
      refine V_il6 19 d_Mo_proves_17 rfl ?_
      refine V_al0 20 d_Mo_proves_19 rfl ?_
      refine V_geti 23 21 (lM hM) kc_Mo (by decide) fl_Mo_103 (Or.inl rfl) rfl d_Mo_proves_20 rfl ?_
      refine V_topi (z := nI k) (by rw [h7 400 (by decide)]; exact hn) ?_
      refine V_icmp_ge 67 26 d_Mo_proves_23 (by decide) rfl (fun _ => ?_) (fun h9 => absurd (nI_le (Nat.le_refl k) (by omega)) h9)
      have e5 : T = (1, M') := hT'.symm
      have h9 := q67
      rw [e5] at h9 ⊢
      exact h9 _
    | succ d ih =>
      intro k M' hk h7 hT'
      have hl : k < n := by omega
      refine V_il6 19 d_Mo_proves_17 rfl ?_
      refine V_al0 20 d_Mo_proves_19 rfl ?_
      refine V_geti 23 21 (lM hM) kc_Mo (by decide) fl_Mo_103 (Or.inl rfl) rfl d_Mo_proves_20 rfl ?_
      refine V_topi (z := nI n) (by rw [h7 400 (by decide)]; exact hn) ?_
      refine V_icmp_ge 67 26 d_Mo_proves_23 (by decide) rfl (fun h9 => absurd h9 (nI_ge (b := n) hl (by omega))) (fun _ => ?_)
      refine V_il5 28 d_Mo_proves_26 rfl ?_
      refine V_if_eq 67 31 d_Mo_proves_28 (by decide) rfl (fun h9 => absurd h9 (show ¬ (1 : Int32) = 0 by decide)) (fun _ => ?_)
      refine V_al0 32 d_Mo_proves_31 rfl ?_
      refine V_getr 35 26 (lM hM) kc_Mo (by decide) fl_Mo_59 (Or.inl rfl) rfl d_Mo_proves_32 rfl ?_
      refine V_il6 37 d_Mo_proves_35 rfl ?_
      refine V_al0 38 d_Mo_proves_37 rfl ?_
      refine V_il6 40 d_Mo_proves_38 rfl ?_
      refine V_cV1 43 (c_Mo_proved l G _ _ hM c (by rw [h7 400 (by decide)]; exact hcm) hc k (by omega)) ok_Mo_proved ml_Mo_210 im_Mo_proved se_Mo_proved (lM hM) kc_Mo (gRm_ok (by decide) (by decide)) rfl rfl (Nat.le_of_ble_eq_true rfl) d_Mo_proves_40 ⟨Nat.le_of_ble_eq_true rfl, Nat.le_of_ble_eq_true rfl⟩ rfl ?_
      refine V_iasn 44 (k) (lM417 hM) rfl (by omega) (by decide) d_Mo_proves_43 rfl ?_
      have h71 : gK7 M (gst M' 417 k (pvI M' c k)) := fun b hb => by rw [gst_ne _ _ _ _ hb]; exact h7 b hb
      refine V_al0 45 d_Mo_proves_44 rfl ?_
      refine V_getr 48 26 (lM hM) kc_Mo (by decide) fl_Mo_59 (Or.inl rfl) rfl d_Mo_proves_45 rfl ?_
      refine V_il6 50 d_Mo_proves_48 rfl ?_
      refine V_ialn 51 (k) (lM417 hM) rfl (by omega) (by decide) d_Mo_proves_50 rfl ?_
      refine V_topi (z := pvI M' c k) (by rw [gst_same]; simp [upd]) ?_
      refine V_if_eq 58 54 d_Mo_proves_51 (by decide) rfl (fun h51 => ?_) (fun h51 => ?_)
      · refine V_iconst 59 (v := 0) (by decide) d_Mo_proves_58 rfl ?_
        refine V_is5 61 d_Mo_proves_59 (by decide) rfl ?_
        refine V_ii6 64 (v := 1) d_Mo_proves_61 (by decide) (by decide) rfl ?_
        refine V_goto 17 d_Mo_proves_64 (by decide) ?_
        have e5 : T = (0, gst M' 417 k (pvI M' c k)) := by rw [← hT', pwL, if_pos h51]
        have h9 := q67
        rw [e5] at h9 ⊢
        rw [nI_1]
        refine V_il6 19 d_Mo_proves_17 rfl ?_
        refine V_al0 20 d_Mo_proves_19 rfl ?_
        refine V_geti 23 21 (lM hM) kc_Mo (by decide) fl_Mo_103 (Or.inl rfl) rfl d_Mo_proves_20 rfl ?_
        refine V_icmp_ge 67 26 d_Mo_proves_23 (by decide) rfl (fun _ => h9 _) (fun _ => ?_)
        refine V_il5 28 d_Mo_proves_26 rfl ?_
        exact V_if_eq 67 31 d_Mo_proves_28 (by decide) rfl (fun _ => h9 _) (fun h => absurd rfl h)
      · refine V_iconst 55 (v := 1) (by decide) d_Mo_proves_54 rfl ?_
        refine V_goto 59 d_Mo_proves_55 (by decide) ?_
        refine V_is5 61 d_Mo_proves_59 (by decide) rfl ?_
        refine V_ii6 64 (v := 1) d_Mo_proves_61 (by decide) (by decide) rfl ?_
        refine V_goto 17 d_Mo_proves_64 (by decide) ?_
        rw [nI_1]
        exact ih (k + 1) _ (by omega) h71 (by rw [← hT', pwL, if_neg h51])
  refine gMet_of (lv := [some (.ref 400), some (.int a), some (.int p), some (.int r), some (.int o), none, none]) (by decide) rfl (Nat.le_of_ble_eq_true rfl) rfl ?_
  refine V_al0 1 d_Mo_proves_0 rfl ?_
  refine V_geti 4 21 (lM hM) kc_Mo (by decide) fl_Mo_103 (Or.inl rfl) rfl d_Mo_proves_1 rfl ?_
  refine V_topi hn ?_
  refine V_if_le 11 7 d_Mo_proves_4 (by decide) rfl (fun h9 => absurd h9 (nI_nle (by omega) (by omega))) (fun _ => ?_)
  refine V_iconst 8 (v := 1) (by decide) d_Mo_proves_7 rfl ?_
  refine V_goto 12 d_Mo_proves_8 (by decide) ?_
  refine V_is5 14 d_Mo_proves_12 (by decide) rfl ?_
  refine V_iconst 15 (v := 0) (by decide) d_Mo_proves_14 rfl ?_
  refine V_is6 17 d_Mo_proves_15 (by decide) rfl ?_
  exact q17 n 0 M (by omega) (fun _ _ => rfl) hT.symm
theorem mF_n {M : gMe} {k : Nat} (h : k ≠ 2) : mF M 400 k = M 400 k := by unfold mF; rw [gst_same]; simp [upd, h]
theorem mF_a {M : gMe} {b : Nat} (h : b ≠ 400) : mF M b = M b := by unfold mF; rw [gst_ne _ _ _ _ h]
theorem mF_F {M : gMe} : mF (mF M) = mF M := by
  funext b j
  by_cases h : b = 400 ∧ j = 2
  · obtain ⟨rfl, rfl⟩ := h
    unfold mF
    simp [gst_at]
  · rw [mF_at _ h]
theorem pwR_01 {c n : Nat} {M : gMe} {a p r o : Int32} (h : ¬ (pwR c n M a p r o).1 = 0) : (pwR c n M a p r o).1 = 1 := by
  by_cases h0 : n = 0
  · rw [pwR, if_pos h0] at h; exact absurd rfl h
  · rw [pwR, if_neg h0] at h ⊢
    exact bi_t (Decidable.not_not.mp (fun z => h (bi_f z)))
set_option maxRecDepth 100000 in
set_option maxHeartbeats 4000000 in
theorem c_Mo_check (l : Launch) (G : gG) (L : gLy) (M : gMe) (hM : gLM L) (c : Nat) (hcm : M 400 10 = nI c) (hc : c < 25) (n : Nat) (hn : M 400 21 = nI n) (hn4 : n ≤ 40) (p r o : Int32) : gMet l G y_Mo_check b_Mo_check 4 (some FieldType.boolean) (rmL 5 0 0) [.ref 400, .int p, .int r, .int o] L M gAll (gPo (some (.int (ckI c n (mF M) p r o).1)) L (ckI c n (mF M) p r o).2) 0 0 := by
  refine gMet_of (lv := [some (.ref 400), some (.int p), some (.int r), some (.int o)]) (by decide) rfl (Nat.le_of_ble_eq_true rfl) rfl ?_
  refine V_al0 1 d_Mo_check_0 rfl ?_
  refine V_iconst 2 (v := 0) (by decide) d_Mo_check_1 rfl ?_
  refine V_puti 5 2 (lM hM) kc_Mo (by decide) fl_Mo_93 (Or.inl rfl) rfl rfl rfl rfl d_Mo_check_2 rfl ?_
  refine V_al0 6 d_Mo_check_5 rfl ?_
  refine V_il1 7 d_Mo_check_6 rfl ?_
  refine V_il2 8 d_Mo_check_7 rfl ?_
  refine V_il3 9 d_Mo_check_8 rfl ?_
  refine V_cV1 12 (c_Mo_isGoal l G _ (mF M) hM _ _ _) ok_Mo_isGoal ml_Mo_213 im_Mo_isGoal se_Mo_isGoal (lM hM) kc_Mo (gRm_ok (by decide) (by decide)) rfl rfl (Nat.le_of_ble_eq_true rfl) d_Mo_check_9 ⟨Nat.le_of_ble_eq_true rfl, Nat.le_of_ble_eq_true rfl⟩ rfl ?_
  refine V_bz 35 15 d_Mo_check_12 (by decide) rfl (fun h12 => ?_) (fun h12 => ?_)
  · refine V_iconst 36 (v := 0) (by decide) d_Mo_check_35 rfl ?_
    exact V_zret rfl rfl d_Mo_check_36 ⟨by rw [ckI, if_neg h12], rfl, by rw [ckI, if_neg h12]⟩
  · obtain ⟨j, hj, ej, cj⟩ := pIn5 h12.2.2.1
    have e5 : ckI c n (mF M) p r o = pwR c n (mF M) (syI (mF M) r o) p r o := by rw [ckI, if_pos h12]
    rw [e5]
    refine V_al0 16 d_Mo_check_15 rfl ?_
    refine V_al0 17 d_Mo_check_16 rfl ?_
    refine V_il2 18 d_Mo_check_17 rfl ?_
    refine V_il3 19 d_Mo_check_18 rfl ?_
    refine V_topi ej ?_
    refine V_cV1 22 (c_Mo_sayer l G _ (mF M) hM r j hj) ok_Mo_sayer ml_Mo_216 im_Mo_sayer se_Mo_sayer (lM hM) kc_Mo (gRm_ok (by decide) (by decide)) rfl rfl (Nat.le_of_ble_eq_true rfl) d_Mo_check_19 ⟨Nat.le_of_ble_eq_true rfl, Nat.le_of_ble_eq_true rfl⟩ rfl ?_
    refine V_topi (z := syI (mF M) r o) (by rw [syI, cj]) ?_
    refine V_il1 23 d_Mo_check_22 rfl ?_
    refine V_il2 24 d_Mo_check_23 rfl ?_
    refine V_il3 25 d_Mo_check_24 rfl ?_
    refine V_cV1 28 (c_Mo_proves l G _ (mF M) hM c (by rw [mF_n (by decide)]; exact hcm) hc n (by rw [mF_n (by decide)]; exact hn) hn4 _ _ _ _) ok_Mo_proves ml_Mo_222 im_Mo_proves se_Mo_proves (lM hM) kc_Mo (gRm_ok (by decide) (by decide)) rfl rfl (Nat.le_of_ble_eq_true rfl) d_Mo_check_25 ⟨Nat.le_of_ble_eq_true rfl, Nat.le_of_ble_eq_true rfl⟩ rfl ?_
    refine V_if_eq 35 31 d_Mo_check_28 (by decide) rfl (fun h28 => ?_) (fun h28 => ?_)
    · refine V_iconst 36 (v := 0) (by decide) d_Mo_check_35 rfl ?_
      exact V_zret rfl rfl d_Mo_check_36 ⟨by rw [h28], rfl, rfl⟩
    · refine V_iconst 32 (v := 1) (by decide) d_Mo_check_31 rfl ?_
      refine V_goto 36 d_Mo_check_32 (by decide) ?_
      exact V_zret rfl rfl d_Mo_check_36 ⟨by rw [pwR_01 h28], rfl, rfl⟩
set_option maxRecDepth 100000 in
set_option maxHeartbeats 4000000 in
theorem c_Mo_valid (l : Launch) (G : gG) (L : gLy) (M : gMe) (hM : gLM L) (c : Nat) (hcm : M 400 10 = nI c) (hc : c < 25) (x : Int32) : gMet l G y_Mo_valid b_Mo_valid 2 (some FieldType.boolean) (rmL 3 0 0) [.ref 400, .int x] L M gAll (gPo (some (.int (bi (pHz (mF M) c x)))) L (mF M)) 0 0 := by
  refine gMet_of (lv := [some (.ref 400), some (.int x)]) (by decide) rfl (Nat.le_of_ble_eq_true rfl) rfl ?_
  refine V_al0 1 d_Mo_valid_0 rfl ?_
  refine V_iconst 2 (v := 0) (by decide) d_Mo_valid_1 rfl ?_
  refine V_puti 5 2 (lM hM) kc_Mo (by decide) fl_Mo_93 (Or.inl rfl) rfl rfl rfl rfl d_Mo_valid_2 rfl ?_
  refine V_al0 6 d_Mo_valid_5 rfl ?_
  refine V_il1 7 d_Mo_valid_6 rfl ?_
  refine V_cV1 10 (c_Mo_holdz l G _ (mF M) hM c (by rw [mF_n (by decide)]; exact hcm) hc _) ok_Mo_holds ml_Mo_147 im_Mo_holds se_Mo_holds (lM hM) kc_Mo (gRm_ok (by decide) (by decide)) rfl rfl (Nat.le_of_ble_eq_true rfl) d_Mo_valid_7 ⟨Nat.le_of_ble_eq_true rfl, Nat.le_of_ble_eq_true rfl⟩ rfl ?_
  exact V_zret rfl bi_n d_Mo_valid_10 ⟨rfl, rfl, rfl⟩
def rvI (c : Nat) (M : gMe) (p x : Int32) : Int32 × gMe :=
  if ¬ pIn x 1 (nI c) then (0, gst (mF M) 400 2 1)
  else if ¬ M 404 x.toNatClampNeg = p then (0, gst (mF M) 400 2 2)
  else if ¬ M 412 x.toNatClampNeg = 0 then (0, mF M)
  else if pOut (mF M) then (0, gst (rcM (mF M)) 400 2 3)
  else (1, gst (rcM (mF M)) 412 x.toNatClampNeg 1)
theorem rcM_2 {M : gMe} : rcM M 400 2 = M 400 2 := by
  unfold rcM
  split
  · rw [gst_at, if_pos rfl, if_neg (by decide), gst_at, if_pos rfl, if_neg (by decide)]
  · rw [gst_at, if_pos rfl, if_neg (by decide)]
theorem mF_2 {M : gMe} : mF M 400 2 = 0 := by unfold mF; rw [gst_at, if_pos rfl, if_pos rfl]
set_option maxRecDepth 100000 in
set_option maxHeartbeats 4000000 in
theorem c_Mo_revoke (l : Launch) (G : gG) (L : gLy) (M : gMe) (hM : gLM L) (c : Nat) (hcm : M 400 10 = nI c) (hc : c < 25) (p x : Int32) : gMet l G y_Mo_revoke b_Mo_revoke 3 (some FieldType.boolean) (rmL 2 0 0) [.ref 400, .int p, .int x] L M gAll (gPo (some (.int (rvI c M p x).1)) L (rvI c M p x).2) 0 0 := by
  refine gMet_of (lv := [some (.ref 400), some (.int p), some (.int x)]) (by decide) rfl (Nat.le_of_ble_eq_true rfl) rfl ?_
  refine V_al0 1 d_Mo_revoke_0 rfl ?_
  refine V_iconst 2 (v := 0) (by decide) d_Mo_revoke_1 rfl ?_
  refine V_puti 5 2 (lM hM) kc_Mo (by decide) fl_Mo_93 (Or.inl rfl) rfl rfl rfl rfl d_Mo_revoke_2 rfl ?_
  refine V_il2 6 d_Mo_revoke_5 rfl ?_
  refine V_iconst 7 (v := 1) (by decide) d_Mo_revoke_6 rfl ?_
  refine V_al0 8 d_Mo_revoke_7 rfl ?_
  refine V_geti 11 10 (lM hM) kc_Mo (by decide) fl_Mo_134 (Or.inl rfl) rfl d_Mo_revoke_8 rfl ?_
  refine V_topi (z := nI c) (by show mF M 400 10 = _; rw [mF_n (by decide)]; exact hcm) ?_
  refine V_cS1 14 (c_Mo_in l G _ _ _ _ _) ok_Mo_in ml_Mo_106 st_Mo_in (gRm_ok (by decide) (by decide)) rfl rfl (Nat.le_of_ble_eq_true rfl) d_Mo_revoke_11 ⟨Nat.le_of_ble_eq_true rfl, Nat.le_of_ble_eq_true rfl⟩ rfl ?_
  refine V_bn 25 17 d_Mo_revoke_14 (by decide) rfl (fun h14 => ?_) (fun h14 => ?_)
  · obtain ⟨n, hn1, hn2, ex, cx⟩ := pIn_n hc h14
    refine V_al0 26 d_Mo_revoke_25 rfl ?_
    refine V_getr 29 11 (lM hM) kc_Mo (by decide) fl_Mo_20 (Or.inl rfl) rfl d_Mo_revoke_26 rfl ?_
    refine V_il2 30 d_Mo_revoke_29 rfl ?_
    refine V_ialn 31 (n) (lM404 hM) ex (by omega) (by decide) d_Mo_revoke_30 rfl ?_
    refine V_topi (z := M 404 n) (by show mF M 404 n = _; rw [mF_a (by decide)]) ?_
    refine V_il1 32 d_Mo_revoke_31 rfl ?_
    refine V_icmp_eq 43 35 d_Mo_revoke_32 (by decide) rfl (fun h32 => ?_) (fun h32 => ?_)
    · refine V_al0 44 d_Mo_revoke_43 rfl ?_
      refine V_getr 47 19 (lM hM) kc_Mo (by decide) fl_Mo_44 (Or.inl rfl) rfl d_Mo_revoke_44 rfl ?_
      refine V_il2 48 d_Mo_revoke_47 rfl ?_
      refine V_zaln 49 (n) (lM412 hM) ex (by omega) (by decide) d_Mo_revoke_48 rfl ?_
      refine V_topi (z := M 412 n) (by show mF M 412 n = _; rw [mF_a (by decide)]) ?_
      refine V_if_eq 54 52 d_Mo_revoke_49 (by decide) rfl (fun h49 => ?_) (fun h49 => ?_)
      · refine V_al0 55 d_Mo_revoke_54 rfl ?_
        refine V_cV1 58 (c_Mo_recorded l G _ (mF M) hM) ok_Mo_recorded ml_Mo_137 im_Mo_recorded se_Mo_recorded (lM hM) kc_Mo (gRm_ok (by decide) (by decide)) rfl rfl (Nat.le_of_ble_eq_true rfl) d_Mo_revoke_55 ⟨Nat.le_of_ble_eq_true rfl, Nat.le_of_ble_eq_true rfl⟩ rfl ?_
        refine V_bn 69 61 d_Mo_revoke_58 (by decide) rfl (fun h58 => ?_) (fun h58 => ?_)
        · refine V_al0 70 d_Mo_revoke_69 rfl ?_
          refine V_getr 73 19 (lM hM) kc_Mo (by decide) fl_Mo_44 (Or.inl rfl) rfl d_Mo_revoke_70 rfl ?_
          refine V_il2 74 d_Mo_revoke_73 rfl ?_
          refine V_iconst 75 (v := 1) (by decide) d_Mo_revoke_74 rfl ?_
          refine V_zasn 76 (n) (lM412 hM) ex (by omega) (by decide) rfl d_Mo_revoke_75 rfl ?_
          refine V_al0 77 d_Mo_revoke_76 rfl ?_
          refine V_geti 80 2 (lM hM) kc_Mo (by decide) fl_Mo_93 (Or.inl rfl) rfl d_Mo_revoke_77 rfl ?_
          refine V_topi (z := 0) (by rw [gst_ne _ _ _ _ (by decide), rcM_2, mF_2]) ?_
          refine V_if_ne 87 83 d_Mo_revoke_80 (by decide) rfl (fun h9 => absurd h9 (not_not_intro (show (0 : Int32) = 0 from rfl))) (fun _ => ?_)
          refine V_iconst 84 (v := 1) (by decide) d_Mo_revoke_83 rfl ?_
          refine V_goto 88 d_Mo_revoke_84 (by decide) ?_
          exact V_zret rfl rfl d_Mo_revoke_88 ⟨by rw [rvI, if_neg (not_not_intro h14), cx, if_neg (not_not_intro h32), if_neg (not_not_intro h49), if_neg h58], rfl, by rw [rvI, if_neg (not_not_intro h14), cx, if_neg (not_not_intro h32), if_neg (not_not_intro h49), if_neg h58]⟩
        · refine V_al0 62 d_Mo_revoke_61 rfl ?_
          refine V_iconst 63 (v := 3) (by decide) d_Mo_revoke_62 rfl ?_
          refine V_puti 66 2 (lM hM) kc_Mo (by decide) fl_Mo_93 (Or.inl rfl) rfl rfl rfl rfl d_Mo_revoke_63 rfl ?_
          refine V_goto 76 d_Mo_revoke_66 (by decide) ?_
          refine V_al0 77 d_Mo_revoke_76 rfl ?_
          refine V_geti 80 2 (lM hM) kc_Mo (by decide) fl_Mo_93 (Or.inl rfl) rfl d_Mo_revoke_77 rfl ?_
          refine V_topi (z := 3) (by rw [gst_at, if_pos rfl, if_pos rfl]) ?_
          refine V_if_ne 87 83 d_Mo_revoke_80 (by decide) rfl (fun _ => ?_) (fun h9 => absurd h9 (show ¬ (3 : Int32) = 0 by decide))
          refine V_iconst 88 (v := 0) (by decide) d_Mo_revoke_87 rfl ?_
          exact V_zret rfl rfl d_Mo_revoke_88 ⟨by rw [rvI, if_neg (not_not_intro h14), cx, if_neg (not_not_intro h32), if_neg (not_not_intro h49), if_pos (Decidable.not_not.mp h58)], rfl, by rw [rvI, if_neg (not_not_intro h14), cx, if_neg (not_not_intro h32), if_neg (not_not_intro h49), if_pos (Decidable.not_not.mp h58)]⟩
      · refine V_iconst 53 (v := 0) (by decide) d_Mo_revoke_52 rfl ?_
        exact V_zret rfl rfl d_Mo_revoke_53 ⟨by rw [rvI, if_neg (not_not_intro h14), cx, if_neg (not_not_intro h32), if_pos h49], rfl, by rw [rvI, if_neg (not_not_intro h14), cx, if_neg (not_not_intro h32), if_pos h49]; rfl⟩
    · refine V_al0 36 d_Mo_revoke_35 rfl ?_
      refine V_iconst 37 (v := 2) (by decide) d_Mo_revoke_36 rfl ?_
      refine V_puti 40 2 (lM hM) kc_Mo (by decide) fl_Mo_93 (Or.inl rfl) rfl rfl rfl rfl d_Mo_revoke_37 rfl ?_
      refine V_goto 76 d_Mo_revoke_40 (by decide) ?_
      refine V_al0 77 d_Mo_revoke_76 rfl ?_
      refine V_geti 80 2 (lM hM) kc_Mo (by decide) fl_Mo_93 (Or.inl rfl) rfl d_Mo_revoke_77 rfl ?_
      refine V_topi (z := 2) (by rw [gst_at, if_pos rfl, if_pos rfl]) ?_
      refine V_if_ne 87 83 d_Mo_revoke_80 (by decide) rfl (fun _ => ?_) (fun h9 => absurd h9 (show ¬ (2 : Int32) = 0 by decide))
      refine V_iconst 88 (v := 0) (by decide) d_Mo_revoke_87 rfl ?_
      exact V_zret rfl rfl d_Mo_revoke_88 ⟨by rw [rvI, if_neg (not_not_intro h14), cx, if_pos h32], rfl, by rw [rvI, if_neg (not_not_intro h14), cx, if_pos h32]; rfl⟩
  · refine V_al0 18 d_Mo_revoke_17 rfl ?_
    refine V_iconst 19 (v := 1) (by decide) d_Mo_revoke_18 rfl ?_
    refine V_puti 22 2 (lM hM) kc_Mo (by decide) fl_Mo_93 (Or.inl rfl) rfl rfl rfl rfl d_Mo_revoke_19 rfl ?_
    refine V_goto 76 d_Mo_revoke_22 (by decide) ?_
    refine V_al0 77 d_Mo_revoke_76 rfl ?_
    refine V_geti 80 2 (lM hM) kc_Mo (by decide) fl_Mo_93 (Or.inl rfl) rfl d_Mo_revoke_77 rfl ?_
    refine V_topi (z := 1) (by rw [gst_at, if_pos rfl, if_pos rfl]) ?_
    refine V_if_ne 87 83 d_Mo_revoke_80 (by decide) rfl (fun _ => ?_) (fun h9 => absurd h9 (show ¬ (1 : Int32) = 0 by decide))
    refine V_iconst 88 (v := 0) (by decide) d_Mo_revoke_87 rfl ?_
    exact V_zret rfl rfl d_Mo_revoke_88 ⟨by rw [rvI, if_pos h14], rfl, by rw [rvI, if_pos h14]; rfl⟩

/-! leaves: methods that call none of ours, or such alone -/
abbrev pPrin (p : Int32) : Prop := ¬ p < 0 ∧ ¬ 6 ≤ p
abbrev pNamed (p r o : Int32) : Prop := pPrin p ∧ ¬ r < 0 ∧ ¬ 4 ≤ r ∧ pPrin o
set_option maxRecDepth 100000 in
set_option maxHeartbeats 4000000 in
theorem c_Ga_isPrincipal (l : Launch) (G : gG) (L : gLy) (M : gMe) (p : Int32) : gMet l G y_Ga_isPrincipal b_Ga_isPrincipal 1 (some FieldType.boolean) (rmL 1 0 0) [.int p] L M gAll (gPo (some (.int (bi (pPrin p)))) L M) 0 0 := by
  refine gMet_of (lv := [some (.int p)]) (by decide) rfl (Nat.le_of_ble_eq_true rfl) rfl ?_
  refine V_il0 1 d_Ga_isPrincipal_0 rfl ?_
  refine V_if_lt 14 4 d_Ga_isPrincipal_1 (by decide) rfl (fun h1 => ?_) (fun h1 => ?_)
  · refine V_iconst 15 (v := 0) (by decide) d_Ga_isPrincipal_14 rfl ?_
    exact V_zret rfl rfl d_Ga_isPrincipal_15 (gN (fun h => h.1 h1))
  · refine V_il0 5 d_Ga_isPrincipal_4 rfl ?_
    refine V_bipush 7 (v := 6) (by decide) d_Ga_isPrincipal_5 rfl ?_
    refine V_icmp_ge 14 10 d_Ga_isPrincipal_7 (by decide) rfl (fun h7 => ?_) (fun h7 => ?_)
    · refine V_iconst 15 (v := 0) (by decide) d_Ga_isPrincipal_14 rfl ?_
      exact V_zret rfl rfl d_Ga_isPrincipal_15 (gN (fun h => h.2 h7))
    · refine V_iconst 11 (v := 1) (by decide) d_Ga_isPrincipal_10 rfl ?_
      refine V_goto 15 d_Ga_isPrincipal_11 (by decide) ?_
      exact V_zret rfl rfl d_Ga_isPrincipal_15 (gT ⟨h1, h7⟩)
set_option maxRecDepth 100000 in
set_option maxHeartbeats 4000000 in
theorem c_Ga_isObject (l : Launch) (G : gG) (L : gLy) (M : gMe) (p : Int32) : gMet l G y_Ga_isObject b_Ga_isObject 1 (some FieldType.boolean) (rmL 1 0 0) [.int p] L M gAll (gPo (some (.int (bi (pPrin p)))) L M) 0 0 := by
  refine gMet_of (lv := [some (.int p)]) (by decide) rfl (Nat.le_of_ble_eq_true rfl) rfl ?_
  refine V_il0 1 d_Ga_isObject_0 rfl ?_
  refine V_if_lt 14 4 d_Ga_isObject_1 (by decide) rfl (fun h1 => ?_) (fun h1 => ?_)
  · refine V_iconst 15 (v := 0) (by decide) d_Ga_isObject_14 rfl ?_
    exact V_zret rfl rfl d_Ga_isObject_15 (gN (fun h => h.1 h1))
  · refine V_il0 5 d_Ga_isObject_4 rfl ?_
    refine V_bipush 7 (v := 6) (by decide) d_Ga_isObject_5 rfl ?_
    refine V_icmp_ge 14 10 d_Ga_isObject_7 (by decide) rfl (fun h7 => ?_) (fun h7 => ?_)
    · refine V_iconst 15 (v := 0) (by decide) d_Ga_isObject_14 rfl ?_
      exact V_zret rfl rfl d_Ga_isObject_15 (gN (fun h => h.2 h7))
    · refine V_iconst 11 (v := 1) (by decide) d_Ga_isObject_10 rfl ?_
      refine V_goto 15 d_Ga_isObject_11 (by decide) ?_
      exact V_zret rfl rfl d_Ga_isObject_15 (gT ⟨h1, h7⟩)
set_option maxRecDepth 100000 in
set_option maxHeartbeats 4000000 in
theorem c_Ga_isNamed (l : Launch) (G : gG) (L : gLy) (M : gMe) (p r o : Int32) : gMet l G y_Ga_isNamed b_Ga_isNamed 3 (some FieldType.boolean) (rmL 2 0 0) [.int p, .int r, .int o] L M gAll (gPo (some (.int (bi (pNamed p r o)))) L M) 0 0 := by
  refine gMet_of (lv := [some (.int p), some (.int r), some (.int o)]) (by decide) rfl (Nat.le_of_ble_eq_true rfl) rfl ?_
  refine V_il0 1 d_Ga_isNamed_0 rfl ?_
  refine V_cS1 4 (c_Ga_isPrincipal l G _ _ p) ok_Ga_isPrincipal ml_Ga_225 st_Ga_isPrincipal (gRm_ok (by decide) (by decide)) rfl rfl (Nat.le_of_ble_eq_true rfl) d_Ga_isNamed_1 ⟨Nat.le_of_ble_eq_true rfl, Nat.le_of_ble_eq_true rfl⟩ rfl ?_
  refine V_bz 27 7 d_Ga_isNamed_4 (by decide) rfl (fun h4 => ?_) (fun h4 => ?_)
  · refine V_iconst 28 (v := 0) (by decide) d_Ga_isNamed_27 rfl ?_
    exact V_zret rfl rfl d_Ga_isNamed_28 (gN (fun h => h4 h.1))
  · refine V_il1 8 d_Ga_isNamed_7 rfl ?_
    refine V_if_lt 27 11 d_Ga_isNamed_8 (by decide) rfl (fun h8 => ?_) (fun h8 => ?_)
    · refine V_iconst 28 (v := 0) (by decide) d_Ga_isNamed_27 rfl ?_
      exact V_zret rfl rfl d_Ga_isNamed_28 (gN (fun h => h.2.1 h8))
    · refine V_il1 12 d_Ga_isNamed_11 rfl ?_
      refine V_iconst 13 (v := 4) (by decide) d_Ga_isNamed_12 rfl ?_
      refine V_icmp_ge 27 16 d_Ga_isNamed_13 (by decide) rfl (fun h13 => ?_) (fun h13 => ?_)
      · refine V_iconst 28 (v := 0) (by decide) d_Ga_isNamed_27 rfl ?_
        exact V_zret rfl rfl d_Ga_isNamed_28 (gN (fun h => h.2.2.1 h13))
      · refine V_il2 17 d_Ga_isNamed_16 rfl ?_
        refine V_cS1 20 (c_Ga_isObject l G _ _ o) ok_Ga_isObject ml_Ga_206 st_Ga_isObject (gRm_ok (by decide) (by decide)) rfl rfl (Nat.le_of_ble_eq_true rfl) d_Ga_isNamed_17 ⟨Nat.le_of_ble_eq_true rfl, Nat.le_of_ble_eq_true rfl⟩ rfl ?_
        refine V_bz 27 23 d_Ga_isNamed_20 (by decide) rfl (fun h20 => ?_) (fun h20 => ?_)
        · refine V_iconst 28 (v := 0) (by decide) d_Ga_isNamed_27 rfl ?_
          exact V_zret rfl rfl d_Ga_isNamed_28 (gN (fun h => h20 h.2.2.2))
        · refine V_iconst 24 (v := 1) (by decide) d_Ga_isNamed_23 rfl ?_
          refine V_goto 28 d_Ga_isNamed_24 (by decide) ?_
          exact V_zret rfl rfl d_Ga_isNamed_28 (gT ⟨h4, h8, h13, h20⟩)
set_option maxRecDepth 100000 in
set_option maxHeartbeats 4000000 in
theorem c_Fu_light (l : Launch) (G : gG) (L : gLy) (M : gMe) (hL : gLC L) (n : Int32) : gMet l G y_Fu_light b_Fu_light 2 none (rmL 1 0 0) [.ref 23, .int n] L M gAll (gPo none L (gst M 23 0 n)) 0 0 := by
  refine gMet_of (lv := [some (.ref 23), some (.int n)]) (by decide) rfl (Nat.le_of_ble_eq_true rfl) rfl ?_
  refine V_al0 1 d_Fu_light_0 rfl ?_
  refine V_il1 2 d_Fu_light_1 rfl ?_
  refine V_puti 5 0 (lC23 hL) kc_Fu (by decide) fl_Fu_9 (Or.inl rfl) rfl rfl rfl rfl d_Fu_light_2 rfl ?_
  exact V_vret rfl d_Fu_light_5 ⟨rfl, rfl, rfl⟩
def fzB (M : gMe) : Int32 := if M 23 0 = -1 then 0 else bi (M 23 0 - 1 = -1)
def fzM (M : gMe) : gMe := if M 23 0 = -1 then M else gst M 23 0 (M 23 0 - 1)
set_option maxRecDepth 100000 in
set_option maxHeartbeats 4000000 in
theorem c_Fu_burnsThrough (l : Launch) (G : gG) (L : gLy) (M : gMe) (hL : gLC L) : gMet l G y_Fu_burnsThrough b_Fu_burnsThrough 1 (some FieldType.boolean) (rmL 1 0 0) [.ref 23] L M gAll (gPo (some (.int (fzB M))) L (fzM M)) 0 0 := by
  refine gMet_of (lv := [some (.ref 23)]) (by decide) rfl (Nat.le_of_ble_eq_true rfl) rfl ?_
  refine V_al0 1 d_Fu_burnsThrough_0 rfl ?_
  refine V_geti 4 0 (lC23 hL) kc_Fu (by decide) fl_Fu_9 (Or.inl rfl) rfl d_Fu_burnsThrough_1 rfl ?_
  refine V_iconst 5 (v := (-1)) (by decide) d_Fu_burnsThrough_4 rfl ?_
  refine V_icmp_ne 10 8 d_Fu_burnsThrough_5 (by decide) rfl (fun h5 => ?_) (fun h5 => ?_)
  · refine V_al0 11 d_Fu_burnsThrough_10 rfl ?_
    refine V_dup 12 rfl d_Fu_burnsThrough_11 rfl ?_
    refine V_geti 15 0 (lC23 hL) kc_Fu (by decide) fl_Fu_9 (Or.inl rfl) rfl d_Fu_burnsThrough_12 rfl ?_
    refine V_iconst 16 (v := 1) (by decide) d_Fu_burnsThrough_15 rfl ?_
    refine V_isub 17 d_Fu_burnsThrough_16 rfl ?_
    refine V_puti 20 0 (lC23 hL) kc_Fu (by decide) fl_Fu_9 (Or.inl rfl) rfl rfl rfl rfl d_Fu_burnsThrough_17 rfl ?_
    refine V_al0 21 d_Fu_burnsThrough_20 rfl ?_
    refine V_geti 24 0 (lC23 hL) kc_Fu (by decide) fl_Fu_9 (Or.inl rfl) rfl d_Fu_burnsThrough_21 rfl ?_
    refine V_iconst 25 (v := (-1)) (by decide) d_Fu_burnsThrough_24 rfl ?_
    refine V_icmp_ne 32 28 d_Fu_burnsThrough_25 (by decide) rfl (fun h25 => ?_) (fun h25 => ?_)
    · refine V_iconst 33 (v := 0) (by decide) d_Fu_burnsThrough_32 rfl ?_
      exact V_zret rfl rfl d_Fu_burnsThrough_33 ⟨by rw [fzB, if_neg h5, bi_f (by simpa [gst_at] using h25)], rfl, by rw [fzM, if_neg h5]⟩
    · refine V_iconst 29 (v := 1) (by decide) d_Fu_burnsThrough_28 rfl ?_
      refine V_goto 33 d_Fu_burnsThrough_29 (by decide) ?_
      exact V_zret rfl rfl d_Fu_burnsThrough_33 ⟨by rw [fzB, if_neg h5, bi_t (by simpa [gst_at] using h25)], rfl, by rw [fzM, if_neg h5]⟩
  · refine V_iconst 9 (v := 0) (by decide) d_Fu_burnsThrough_8 rfl ?_
    exact V_zret rfl rfl d_Fu_burnsThrough_9 ⟨by rw [fzB, if_pos h5], rfl, by rw [fzM, if_pos h5]⟩
set_option maxRecDepth 100000 in
set_option maxHeartbeats 4000000 in
theorem c_Lg_count (l : Launch) (G : gG) (L : gLy) (M : gMe) (hL : gLC L) : gMet l G y_Lg_count b_Lg_count 1 (some FieldType.int) (rmL 1 0 0) [.ref 22] L M gAll (gPo (some (.int (M 22 0))) L M) 0 0 := by
  refine gMet_of (lv := [some (.ref 22)]) (by decide) rfl (Nat.le_of_ble_eq_true rfl) rfl ?_
  refine V_al0 1 d_Lg_count_0 rfl ?_
  refine V_geti 4 0 (lC22 hL) kc_Lg (by decide) fl_Lg_7 (Or.inl rfl) rfl d_Lg_count_1 rfl ?_
  exact V_iret rfl d_Lg_count_4 ⟨rfl, rfl, rfl⟩
set_option maxRecDepth 100000 in
set_option maxHeartbeats 4000000 in
theorem c_Lg_link (l : Launch) (G : gG) (L : gLy) (M : gMe) (hL : gLC L) : gMet l G y_Lg_link b_Lg_link 1 (some FieldType.int) (rmL 1 0 0) [.ref 22] L M gAll (gPo (some (.int (M 22 1))) L M) 0 0 := by
  refine gMet_of (lv := [some (.ref 22)]) (by decide) rfl (Nat.le_of_ble_eq_true rfl) rfl ?_
  refine V_al0 1 d_Lg_link_0 rfl ?_
  refine V_geti 4 1 (lC22 hL) kc_Lg (by decide) fl_Lg_13 (Or.inl rfl) rfl d_Lg_link_1 rfl ?_
  exact V_iret rfl d_Lg_link_4 ⟨rfl, rfl, rfl⟩
def lgAdd (M : gMe) (p r o n : Int32) : gMe := gst (gst M 22 0 (M 22 0 + 1)) 22 1 ((((gst M 22 0 (M 22 0 + 1)) 22 1 ^^^ p) * 31 + 8 * r + o) * 31 + n)
set_option maxRecDepth 100000 in
set_option maxHeartbeats 4000000 in
theorem c_Lg_addGrant (l : Launch) (G : gG) (L : gLy) (M : gMe) (hL : gLC L) (p r o n : Int32) : gMet l G y_Lg_addGrant b_Lg_addGrant 5 none (rmL 1 0 0) [.ref 22, .int p, .int r, .int o, .int n] L M gAll (gPo none L (lgAdd M p r o n)) 0 0 := by
  refine gMet_of (lv := [some (.ref 22), some (.int p), some (.int r), some (.int o), some (.int n)]) (by decide) rfl (Nat.le_of_ble_eq_true rfl) rfl ?_
  refine V_al0 1 d_Lg_addGrant_0 rfl ?_
  refine V_dup 2 rfl d_Lg_addGrant_1 rfl ?_
  refine V_geti 5 0 (lC22 hL) kc_Lg (by decide) fl_Lg_7 (Or.inl rfl) rfl d_Lg_addGrant_2 rfl ?_
  refine V_iconst 6 (v := 1) (by decide) d_Lg_addGrant_5 rfl ?_
  refine V_iadd 7 d_Lg_addGrant_6 rfl ?_
  refine V_puti 10 0 (lC22 hL) kc_Lg (by decide) fl_Lg_7 (Or.inl rfl) rfl rfl rfl rfl d_Lg_addGrant_7 rfl ?_
  refine V_al0 11 d_Lg_addGrant_10 rfl ?_
  refine V_al0 12 d_Lg_addGrant_11 rfl ?_
  refine V_geti 15 1 (lC22 hL) kc_Lg (by decide) fl_Lg_13 (Or.inl rfl) rfl d_Lg_addGrant_12 rfl ?_
  refine V_il1 16 d_Lg_addGrant_15 rfl ?_
  refine V_ixor 17 d_Lg_addGrant_16 rfl ?_
  refine V_bipush 19 (v := 31) (by decide) d_Lg_addGrant_17 rfl ?_
  refine V_imul 20 d_Lg_addGrant_19 rfl ?_
  refine V_bipush 22 (v := 8) (by decide) d_Lg_addGrant_20 rfl ?_
  refine V_il2 23 d_Lg_addGrant_22 rfl ?_
  refine V_imul 24 d_Lg_addGrant_23 rfl ?_
  refine V_iadd 25 d_Lg_addGrant_24 rfl ?_
  refine V_il3 26 d_Lg_addGrant_25 rfl ?_
  refine V_iadd 27 d_Lg_addGrant_26 rfl ?_
  refine V_bipush 29 (v := 31) (by decide) d_Lg_addGrant_27 rfl ?_
  refine V_imul 30 d_Lg_addGrant_29 rfl ?_
  refine V_il4 32 d_Lg_addGrant_30 rfl ?_
  refine V_iadd 33 d_Lg_addGrant_32 rfl ?_
  refine V_puti 36 1 (lC22 hL) kc_Lg (by decide) fl_Lg_13 (Or.inl rfl) rfl rfl rfl rfl d_Lg_addGrant_33 rfl ?_
  exact V_vret rfl d_Lg_addGrant_36 ⟨rfl, rfl, rfl⟩
set_option maxRecDepth 100000 in
set_option maxHeartbeats 4000000 in
theorem c_Pf_length (l : Launch) (G : gG) (L : gLy) (M : gMe) (b : Nat) (hP : gLP L b) : gMet l G y_Pf_length b_Pf_length 1 (some FieldType.int) (rmL 1 0 0) [.ref b] L M gAll (gPo (some (.int (M b 3))) L M) 0 0 := by
  refine gMet_of (lv := [some (.ref b)]) (by decide) rfl (Nat.le_of_ble_eq_true rfl) rfl ?_
  refine V_al0 1 d_Pf_length_0 rfl ?_
  refine V_geti 4 3 hP.1 kc_Pf (by decide) fl_Pf_21 (Or.inl rfl) rfl d_Pf_length_1 rfl ?_
  exact V_iret rfl d_Pf_length_4 ⟨rfl, rfl, rfl⟩
set_option maxRecDepth 100000 in
set_option maxHeartbeats 4000000 in
theorem c_Pf_hasStep (l : Launch) (G : gG) (L : gLy) (M : gMe) (b : Nat) (hP : gLP L b) (k : Int32) : gMet l G y_Pf_hasStep b_Pf_hasStep 2 (some FieldType.boolean) (rmL 1 0 0) [.ref b, .int k] L M gAll (gPo (some (.int (bi (¬ k < 0 ∧ ¬ M b 3 ≤ k)))) L M) 0 0 := by
  refine gMet_of (lv := [some (.ref b), some (.int k)]) (by decide) rfl (Nat.le_of_ble_eq_true rfl) rfl ?_
  refine V_il1 1 d_Pf_hasStep_0 rfl ?_
  refine V_if_lt 16 4 d_Pf_hasStep_1 (by decide) rfl (fun h1 => ?_) (fun h1 => ?_)
  · refine V_iconst 17 (v := 0) (by decide) d_Pf_hasStep_16 rfl ?_
    exact V_zret rfl rfl d_Pf_hasStep_17 (gN (fun h => h.1 h1))
  · refine V_il1 5 d_Pf_hasStep_4 rfl ?_
    refine V_al0 6 d_Pf_hasStep_5 rfl ?_
    refine V_geti 9 3 hP.1 kc_Pf (by decide) fl_Pf_21 (Or.inl rfl) rfl d_Pf_hasStep_6 rfl ?_
    refine V_icmp_ge 16 12 d_Pf_hasStep_9 (by decide) rfl (fun h9 => ?_) (fun h9 => ?_)
    · refine V_iconst 17 (v := 0) (by decide) d_Pf_hasStep_16 rfl ?_
      exact V_zret rfl rfl d_Pf_hasStep_17 (gN (fun h => h.2 h9))
    · refine V_iconst 13 (v := 1) (by decide) d_Pf_hasStep_12 rfl ?_
      refine V_goto 17 d_Pf_hasStep_13 (by decide) ?_
      exact V_zret rfl rfl d_Pf_hasStep_17 (gT ⟨h1, h9⟩)
set_option maxRecDepth 100000 in
set_option maxHeartbeats 4000000 in
theorem c_Pf_ruleAt (l : Launch) (G : gG) (L : gLy) (M : gMe) (b : Nat) (hP : gLP L b) (j : Nat) (hj : j < 40) : gMet l G y_Pf_ruleAt b_Pf_ruleAt 2 (some FieldType.int) (rmL 1 0 0) [.ref b, .int (nI j)] L M gAll (gPo (some (.int (M (b + 1) j))) L M) 0 0 := by
  refine gMet_of (lv := [some (.ref b), some (.int (nI j))]) (by decide) rfl (Nat.le_of_ble_eq_true rfl) rfl ?_
  refine V_al0 1 d_Pf_ruleAt_0 rfl ?_
  refine V_getr 4 0 hP.1 kc_Pf (by decide) fl_Pf_9 (Or.inl rfl) rfl d_Pf_ruleAt_1 rfl ?_
  refine V_il1 5 d_Pf_ruleAt_4 rfl ?_
  refine V_ialn 6 (j) hP.2.1 rfl hj (by decide) d_Pf_ruleAt_5 rfl ?_
  exact V_iret rfl d_Pf_ruleAt_6 ⟨rfl, rfl, rfl⟩
set_option maxRecDepth 100000 in
set_option maxHeartbeats 4000000 in
theorem c_Pf_xAt (l : Launch) (G : gG) (L : gLy) (M : gMe) (b : Nat) (hP : gLP L b) (j : Nat) (hj : j < 40) : gMet l G y_Pf_xAt b_Pf_xAt 2 (some FieldType.int) (rmL 1 0 0) [.ref b, .int (nI j)] L M gAll (gPo (some (.int (M (b + 2) j))) L M) 0 0 := by
  refine gMet_of (lv := [some (.ref b), some (.int (nI j))]) (by decide) rfl (Nat.le_of_ble_eq_true rfl) rfl ?_
  refine V_al0 1 d_Pf_xAt_0 rfl ?_
  refine V_getr 4 1 hP.1 kc_Pf (by decide) fl_Pf_15 (Or.inl rfl) rfl d_Pf_xAt_1 rfl ?_
  refine V_il1 5 d_Pf_xAt_4 rfl ?_
  refine V_ialn 6 (j) hP.2.2.1 rfl hj (by decide) d_Pf_xAt_5 rfl ?_
  exact V_iret rfl d_Pf_xAt_6 ⟨rfl, rfl, rfl⟩
set_option maxRecDepth 100000 in
set_option maxHeartbeats 4000000 in
theorem c_Pf_yAt (l : Launch) (G : gG) (L : gLy) (M : gMe) (b : Nat) (hP : gLP L b) (j : Nat) (hj : j < 40) : gMet l G y_Pf_yAt b_Pf_yAt 2 (some FieldType.int) (rmL 1 0 0) [.ref b, .int (nI j)] L M gAll (gPo (some (.int (M (b + 3) j))) L M) 0 0 := by
  refine gMet_of (lv := [some (.ref b), some (.int (nI j))]) (by decide) rfl (Nat.le_of_ble_eq_true rfl) rfl ?_
  refine V_al0 1 d_Pf_yAt_0 rfl ?_
  refine V_getr 4 2 hP.1 kc_Pf (by decide) fl_Pf_18 (Or.inl rfl) rfl d_Pf_yAt_1 rfl ?_
  refine V_il1 5 d_Pf_yAt_4 rfl ?_
  refine V_ialn 6 (j) hP.2.2.2 rfl hj (by decide) d_Pf_yAt_5 rfl ?_
  exact V_iret rfl d_Pf_yAt_6 ⟨rfl, rfl, rfl⟩
def pfApp (M : gMe) (b n : Nat) (r x z : Int32) : gMe := gst (gst (gst (gst M (b + 1) n r) (b + 2) n x) (b + 3) n z) b 3 (nI (n + 1))
set_option maxRecDepth 100000 in
set_option maxHeartbeats 4000000 in
theorem c_Pf_append (l : Launch) (G : gG) (L : gLy) (M : gMe) (b : Nat) (hP : gLP L b) (n : Nat) (hn : M b 3 = nI n) (hn4 : n < 40) (r x z : Int32) : gMet l G y_Pf_append b_Pf_append 4 (some FieldType.int) (rmL 1 0 0) [.ref b, .int r, .int x, .int z] L M gAll (gPo (some (.int (nI n))) L (pfApp M b n r x z)) 0 0 := by
  refine gMet_of (lv := [some (.ref b), some (.int r), some (.int x), some (.int z)]) (by decide) rfl (Nat.le_of_ble_eq_true rfl) rfl ?_
  refine V_al0 1 d_Pf_append_0 rfl ?_
  refine V_geti 4 3 hP.1 kc_Pf (by decide) fl_Pf_21 (Or.inl rfl) rfl d_Pf_append_1 rfl ?_
  refine V_bipush 6 (v := 40) (by decide) d_Pf_append_4 rfl ?_
  refine V_icmp_lt 11 9 d_Pf_append_6 (by decide) rfl (fun _ => ?_) (fun h9 => absurd (by rw [hn]; exact nI_lt (b := 40) hn4 (by decide)) h9)
  refine V_al0 12 d_Pf_append_11 rfl ?_
  refine V_getr 15 0 hP.1 kc_Pf (by decide) fl_Pf_9 (Or.inl rfl) rfl d_Pf_append_12 rfl ?_
  refine V_al0 16 d_Pf_append_15 rfl ?_
  refine V_geti 19 3 hP.1 kc_Pf (by decide) fl_Pf_21 (Or.inl rfl) rfl d_Pf_append_16 rfl ?_
  refine V_il1 20 d_Pf_append_19 rfl ?_
  refine V_iasn 21 (n) hP.2.1 hn hn4 (by decide) d_Pf_append_20 rfl ?_
  refine V_al0 22 d_Pf_append_21 rfl ?_
  refine V_getr 25 1 hP.1 kc_Pf (by decide) fl_Pf_15 (Or.inl rfl) rfl d_Pf_append_22 rfl ?_
  refine V_al0 26 d_Pf_append_25 rfl ?_
  refine V_geti 29 3 hP.1 kc_Pf (by decide) fl_Pf_21 (Or.inl rfl) rfl d_Pf_append_26 rfl ?_
  refine V_il2 30 d_Pf_append_29 rfl ?_
  refine V_iasn 31 (n) hP.2.2.1 (by rw [gst_ne _ _ _ _ (by omega)]; exact hn) hn4 (by decide) d_Pf_append_30 rfl ?_
  refine V_al0 32 d_Pf_append_31 rfl ?_
  refine V_getr 35 2 hP.1 kc_Pf (by decide) fl_Pf_18 (Or.inl rfl) rfl d_Pf_append_32 rfl ?_
  refine V_al0 36 d_Pf_append_35 rfl ?_
  refine V_geti 39 3 hP.1 kc_Pf (by decide) fl_Pf_21 (Or.inl rfl) rfl d_Pf_append_36 rfl ?_
  refine V_il3 40 d_Pf_append_39 rfl ?_
  refine V_iasn 41 (n) hP.2.2.2 (by rw [gst_ne _ _ _ _ (by omega), gst_ne _ _ _ _ (by omega)]; exact hn) hn4 (by decide) d_Pf_append_40 rfl ?_
  refine V_al0 42 d_Pf_append_41 rfl ?_
  refine V_dup 43 rfl d_Pf_append_42 rfl ?_
  refine V_geti 46 3 hP.1 kc_Pf (by decide) fl_Pf_21 (Or.inl rfl) rfl d_Pf_append_43 rfl ?_
  refine V_iconst 47 (v := 1) (by decide) d_Pf_append_46 rfl ?_
  refine V_iadd 48 d_Pf_append_47 rfl ?_
  refine V_topi (z := nI (n + 1)) (by rw [gst_ne _ _ _ _ (by omega), gst_ne _ _ _ _ (by omega), gst_ne _ _ _ _ (by omega), hn, nI_1]) ?_
  refine V_puti 51 3 hP.1 kc_Pf (by decide) fl_Pf_21 (Or.inl rfl) rfl rfl rfl rfl d_Pf_append_48 rfl ?_
  refine V_al0 52 d_Pf_append_51 rfl ?_
  refine V_geti 55 3 hP.1 kc_Pf (by decide) fl_Pf_21 (Or.inl rfl) rfl d_Pf_append_52 rfl ?_
  refine V_iconst 56 (v := 1) (by decide) d_Pf_append_55 rfl ?_
  refine V_isub 57 d_Pf_append_56 rfl ?_
  exact V_iret rfl d_Pf_append_57 ⟨by rw [gst_same]; show some (Value.int (nI (n + 1) - 1)) = _; rw [nI_pred], rfl, rfl⟩
set_option maxRecDepth 100000 in
set_option maxHeartbeats 4000000 in
theorem c_Pf_append_full (l : Launch) (G : gG) (L : gLy) (M : gMe) (b : Nat) (hP : gLP L b) (hn : M b 3 = nI 40) (r x z : Int32) : gMet l G y_Pf_append b_Pf_append 4 (some FieldType.int) (rmL 1 0 0) [.ref b, .int r, .int x, .int z] L M gAll (gPo (some (.int (-1))) L M) 0 0 := by
  refine gMet_of (lv := [some (.ref b), some (.int r), some (.int x), some (.int z)]) (by decide) rfl (Nat.le_of_ble_eq_true rfl) rfl ?_
  refine V_al0 1 d_Pf_append_0 rfl ?_
  refine V_geti 4 3 hP.1 kc_Pf (by decide) fl_Pf_21 (Or.inl rfl) rfl d_Pf_append_1 rfl ?_
  refine V_bipush 6 (v := 40) (by decide) d_Pf_append_4 rfl ?_
  refine V_icmp_lt 11 9 d_Pf_append_6 (by decide) rfl (fun h9 => absurd h9 (by rw [hn]; exact nI_nlt (a := 40) (b := 40) (Nat.le_refl _) (by decide))) (fun _ => ?_)
  refine V_iconst 10 (v := (-1)) (by decide) d_Pf_append_9 rfl ?_
  exact V_iret rfl d_Pf_append_10 ⟨rfl, rfl, rfl⟩
set_option maxRecDepth 100000 in
set_option maxHeartbeats 4000000 in
theorem c_Pf_makeEmpty (l : Launch) (G : gG) (L : gLy) (M : gMe) (b : Nat) (hP : gLP L b) : gMet l G y_Pf_makeEmpty b_Pf_makeEmpty 2 (some FieldType.int) (rmL 1 0 0) [.ref b] L M gAll (gPo (some (.int (M b 3))) L (gst M b 3 0)) 0 0 := by
  refine gMet_of (lv := [some (.ref b), none]) (by decide) rfl (Nat.le_of_ble_eq_true rfl) rfl ?_
  refine V_al0 1 d_Pf_makeEmpty_0 rfl ?_
  refine V_geti 4 3 hP.1 kc_Pf (by decide) fl_Pf_21 (Or.inl rfl) rfl d_Pf_makeEmpty_1 rfl ?_
  refine V_is1 5 d_Pf_makeEmpty_4 (by decide) rfl ?_
  refine V_al0 6 d_Pf_makeEmpty_5 rfl ?_
  refine V_iconst 7 (v := 0) (by decide) d_Pf_makeEmpty_6 rfl ?_
  refine V_puti 10 3 hP.1 kc_Pf (by decide) fl_Pf_21 (Or.inl rfl) rfl rfl rfl rfl d_Pf_makeEmpty_7 rfl ?_
  refine V_il1 11 d_Pf_makeEmpty_10 rfl ?_
  exact V_iret rfl d_Pf_makeEmpty_11 ⟨rfl, rfl, rfl⟩
abbrev pVal (M : gMe) (c : Nat) (t : Int32) : Prop := M c 5 = 0 ∧ ¬ t < M c 3 ∧ ¬ M c 4 < t
set_option maxRecDepth 100000 in
set_option maxHeartbeats 4000000 in
theorem c_Cr_isValidAt (l : Launch) (G : gG) (L : gLy) (M : gMe) (c n : Nat) (hR : gLR L c n) (t : Int32) : gMet l G y_Cr_isValidAt b_Cr_isValidAt 2 (some FieldType.boolean) (rmL 1 0 0) [.ref c, .int t] L M gAll (gPo (some (.int (bi (pVal M c t)))) L M) 0 0 := by
  refine gMet_of (lv := [some (.ref c), some (.int t)]) (by decide) rfl (Nat.le_of_ble_eq_true rfl) rfl ?_
  refine V_al0 1 d_Cr_isValidAt_0 rfl ?_
  refine V_geti 4 5 hR.1 kc_Cr (by decide) fl_Cr_42 (Or.inl rfl) rfl d_Cr_isValidAt_1 rfl ?_
  refine V_if_ne 27 7 d_Cr_isValidAt_4 (by decide) rfl (fun h4 => ?_) (fun h4 => ?_)
  · refine V_iconst 28 (v := 0) (by decide) d_Cr_isValidAt_27 rfl ?_
    exact V_zret rfl rfl d_Cr_isValidAt_28 (gN (fun h => h4 h.1))
  · refine V_al0 8 d_Cr_isValidAt_7 rfl ?_
    refine V_geti 11 3 hR.1 kc_Cr (by decide) fl_Cr_22 (Or.inl rfl) rfl d_Cr_isValidAt_8 rfl ?_
    refine V_il1 12 d_Cr_isValidAt_11 rfl ?_
    refine V_icmp_gt 27 15 d_Cr_isValidAt_12 (by decide) rfl (fun h12 => ?_) (fun h12 => ?_)
    · refine V_iconst 28 (v := 0) (by decide) d_Cr_isValidAt_27 rfl ?_
      exact V_zret rfl rfl d_Cr_isValidAt_28 (gN (fun h => h.2.1 h12))
    · refine V_il1 16 d_Cr_isValidAt_15 rfl ?_
      refine V_al0 17 d_Cr_isValidAt_16 rfl ?_
      refine V_geti 20 4 hR.1 kc_Cr (by decide) fl_Cr_25 (Or.inl rfl) rfl d_Cr_isValidAt_17 rfl ?_
      refine V_icmp_gt 27 23 d_Cr_isValidAt_20 (by decide) rfl (fun h20 => ?_) (fun h20 => ?_)
      · refine V_iconst 28 (v := 0) (by decide) d_Cr_isValidAt_27 rfl ?_
        exact V_zret rfl rfl d_Cr_isValidAt_28 (gN (fun h => h.2.2 h20))
      · refine V_iconst 24 (v := 1) (by decide) d_Cr_isValidAt_23 rfl ?_
        refine V_goto 28 d_Cr_isValidAt_24 (by decide) ?_
        exact V_zret rfl rfl d_Cr_isValidAt_28 (gT ⟨h4, h12, h20⟩)
def crMix (m v : Int32) : Int32 := ((m ^^^ v) * 1540483477) ^^^ (((m ^^^ v) * 1540483477).toUInt32 >>> ((15 : Int32).toUInt32 &&& Int32.toUInt32 31)).toInt32
set_option maxRecDepth 100000 in
set_option maxHeartbeats 4000000 in
theorem c_Cr_mix (l : Launch) (G : gG) (L : gLy) (M : gMe) (m v : Int32) : gMet l G y_Cr_mix b_Cr_mix 3 (some FieldType.int) (rmL 1 0 0) [.int m, .int v] L M gAll (gPo (some (.int (crMix m v))) L M) 0 0 := by
  refine gMet_of (lv := [some (.int m), some (.int v), none]) (by decide) rfl (Nat.le_of_ble_eq_true rfl) rfl ?_
  refine V_il0 1 d_Cr_mix_0 rfl ?_
  refine V_il1 2 d_Cr_mix_1 rfl ?_
  refine V_ixor 3 d_Cr_mix_2 rfl ?_
  refine V_ldc 5 ct_Cr_49 d_Cr_mix_3 rfl ?_
  refine V_imul 6 d_Cr_mix_5 rfl ?_
  refine V_is2 7 d_Cr_mix_6 (by decide) rfl ?_
  refine V_il2 8 d_Cr_mix_7 rfl ?_
  refine V_il2 9 d_Cr_mix_8 rfl ?_
  refine V_bipush 11 (v := 15) (by decide) d_Cr_mix_9 rfl ?_
  refine V_iushr 12 d_Cr_mix_11 rfl ?_
  refine V_ixor 13 d_Cr_mix_12 rfl ?_
  exact V_iret rfl d_Cr_mix_13 ⟨rfl, rfl, rfl⟩
abbrev pKind (k : Int32) : Prop := ¬ k < 0 ∧ ¬ 4 ≤ k
set_option maxRecDepth 100000 in
set_option maxHeartbeats 4000000 in
theorem c_Cr_isKind (l : Launch) (G : gG) (L : gLy) (M : gMe) (k : Int32) : gMet l G y_Cr_isKind b_Cr_isKind 1 (some FieldType.boolean) (rmL 1 0 0) [.int k] L M gAll (gPo (some (.int (bi (pKind k)))) L M) 0 0 := by
  refine gMet_of (lv := [some (.int k)]) (by decide) rfl (Nat.le_of_ble_eq_true rfl) rfl ?_
  refine V_il0 1 d_Cr_isKind_0 rfl ?_
  refine V_if_lt 13 4 d_Cr_isKind_1 (by decide) rfl (fun h1 => ?_) (fun h1 => ?_)
  · refine V_iconst 14 (v := 0) (by decide) d_Cr_isKind_13 rfl ?_
    exact V_zret rfl rfl d_Cr_isKind_14 (gN (fun h => h.1 h1))
  · refine V_il0 5 d_Cr_isKind_4 rfl ?_
    refine V_iconst 6 (v := 4) (by decide) d_Cr_isKind_5 rfl ?_
    refine V_icmp_ge 13 9 d_Cr_isKind_6 (by decide) rfl (fun h6 => ?_) (fun h6 => ?_)
    · refine V_iconst 14 (v := 0) (by decide) d_Cr_isKind_13 rfl ?_
      exact V_zret rfl rfl d_Cr_isKind_14 (gN (fun h => h.2 h6))
    · refine V_iconst 10 (v := 1) (by decide) d_Cr_isKind_9 rfl ?_
      refine V_goto 14 d_Cr_isKind_10 (by decide) ?_
      exact V_zret rfl rfl d_Cr_isKind_14 (gT ⟨h1, h6⟩)
set_option maxRecDepth 100000 in
set_option maxHeartbeats 4000000 in
theorem c_Pv_speaks (l : Launch) (G : gG) (L : gLy) (M : gMe) (b a : Int32) : gMet l G y_Pv_speaks b_Pv_speaks 2 (some FieldType.int) (rmL 1 0 0) [.int b, .int a] L M gAll (gPo (some (.int (6 * b + a))) L M) 0 0 := by
  refine gMet_of (lv := [some (.int b), some (.int a)]) (by decide) rfl (Nat.le_of_ble_eq_true rfl) rfl ?_
  refine V_bipush 2 (v := 6) (by decide) d_Pv_speaks_0 rfl ?_
  refine V_il0 3 d_Pv_speaks_2 rfl ?_
  refine V_imul 4 d_Pv_speaks_3 rfl ?_
  refine V_il1 5 d_Pv_speaks_4 rfl ?_
  refine V_iadd 6 d_Pv_speaks_5 rfl ?_
  exact V_iret rfl d_Pv_speaks_6 ⟨rfl, rfl, rfl⟩
set_option maxRecDepth 100000 in
set_option maxHeartbeats 4000000 in
theorem c_Pv_may (l : Launch) (G : gG) (L : gLy) (M : gMe) (a x r : Int32) : gMet l G y_Pv_may b_Pv_may 3 (some FieldType.int) (rmL 1 0 0) [.int a, .int x, .int r] L M gAll (gPo (some (.int (36 + (6 * a + x) * 4 + r))) L M) 0 0 := by
  refine gMet_of (lv := [some (.int a), some (.int x), some (.int r)]) (by decide) rfl (Nat.le_of_ble_eq_true rfl) rfl ?_
  refine V_bipush 2 (v := 36) (by decide) d_Pv_may_0 rfl ?_
  refine V_bipush 4 (v := 6) (by decide) d_Pv_may_2 rfl ?_
  refine V_il0 5 d_Pv_may_4 rfl ?_
  refine V_imul 6 d_Pv_may_5 rfl ?_
  refine V_il1 7 d_Pv_may_6 rfl ?_
  refine V_iadd 8 d_Pv_may_7 rfl ?_
  refine V_iconst 9 (v := 4) (by decide) d_Pv_may_8 rfl ?_
  refine V_imul 10 d_Pv_may_9 rfl ?_
  refine V_iadd 11 d_Pv_may_10 rfl ?_
  refine V_il2 12 d_Pv_may_11 rfl ?_
  refine V_iadd 13 d_Pv_may_12 rfl ?_
  exact V_iret rfl d_Pv_may_13 ⟨rfl, rfl, rfl⟩
set_option maxRecDepth 100000 in
set_option maxHeartbeats 4000000 in
theorem c_Pv_trusts (l : Launch) (G : gG) (L : gLy) (M : gMe) (a b r d : Int32) : gMet l G y_Pv_trusts b_Pv_trusts 4 (some FieldType.int) (rmL 1 0 0) [.int a, .int b, .int r, .int d] L M gAll (gPo (some (.int (180 + ((6 * a + b) * 4 + r) * 4 + d))) L M) 0 0 := by
  refine gMet_of (lv := [some (.int a), some (.int b), some (.int r), some (.int d)]) (by decide) rfl (Nat.le_of_ble_eq_true rfl) rfl ?_
  refine V_sipush 3 (v := 180) (by decide) d_Pv_trusts_0 rfl ?_
  refine V_bipush 5 (v := 6) (by decide) d_Pv_trusts_3 rfl ?_
  refine V_il0 6 d_Pv_trusts_5 rfl ?_
  refine V_imul 7 d_Pv_trusts_6 rfl ?_
  refine V_il1 8 d_Pv_trusts_7 rfl ?_
  refine V_iadd 9 d_Pv_trusts_8 rfl ?_
  refine V_iconst 10 (v := 4) (by decide) d_Pv_trusts_9 rfl ?_
  refine V_imul 11 d_Pv_trusts_10 rfl ?_
  refine V_il2 12 d_Pv_trusts_11 rfl ?_
  refine V_iadd 13 d_Pv_trusts_12 rfl ?_
  refine V_iconst 14 (v := 4) (by decide) d_Pv_trusts_13 rfl ?_
  refine V_imul 15 d_Pv_trusts_14 rfl ?_
  refine V_iadd 16 d_Pv_trusts_15 rfl ?_
  refine V_il3 17 d_Pv_trusts_16 rfl ?_
  refine V_iadd 18 d_Pv_trusts_17 rfl ?_
  exact V_iret rfl d_Pv_trusts_18 ⟨rfl, rfl, rfl⟩
abbrev pKn (M : gMe) (j : Nat) : Prop := ¬ M 15 j = 0 ∧ ¬ M 10 7 ≤ M 15 j
set_option maxRecDepth 100000 in
set_option maxHeartbeats 4000000 in
theorem c_Pv_isKnown (l : Launch) (G : gG) (L : gLy) (M : gMe) (hL : gLC L) (j : Nat) (hj : j < 756) : gMet l G y_Pv_isKnown b_Pv_isKnown 2 (some FieldType.boolean) (rmL 1 0 0) [.ref 10, .int (nI j)] L M gAll (gPo (some (.int (bi (pKn M j)))) L M) 0 0 := by
  refine gMet_of (lv := [some (.ref 10), some (.int (nI j))]) (by decide) rfl (Nat.le_of_ble_eq_true rfl) rfl ?_
  refine V_al0 1 d_Pv_isKnown_0 rfl ?_
  refine V_getr 4 2 (lC10 hL) kc_Pv (by decide) fl_Pv_18 (Or.inl rfl) rfl d_Pv_isKnown_1 rfl ?_
  refine V_il1 5 d_Pv_isKnown_4 rfl ?_
  refine V_ialn 6 (j) (lC15 hL) rfl hj (by decide) d_Pv_isKnown_5 rfl ?_
  refine V_if_eq 26 9 d_Pv_isKnown_6 (by decide) rfl (fun h6 => ?_) (fun h6 => ?_)
  · refine V_iconst 27 (v := 0) (by decide) d_Pv_isKnown_26 rfl ?_
    exact V_zret rfl rfl d_Pv_isKnown_27 (gN (fun h => h.1 h6))
  · refine V_al0 10 d_Pv_isKnown_9 rfl ?_
    refine V_getr 13 2 (lC10 hL) kc_Pv (by decide) fl_Pv_18 (Or.inl rfl) rfl d_Pv_isKnown_10 rfl ?_
    refine V_il1 14 d_Pv_isKnown_13 rfl ?_
    refine V_ialn 15 (j) (lC15 hL) rfl hj (by decide) d_Pv_isKnown_14 rfl ?_
    refine V_al0 16 d_Pv_isKnown_15 rfl ?_
    refine V_geti 19 7 (lC10 hL) kc_Pv (by decide) fl_Pv_62 (Or.inl rfl) rfl d_Pv_isKnown_16 rfl ?_
    refine V_icmp_ge 26 22 d_Pv_isKnown_19 (by decide) rfl (fun h19 => ?_) (fun h19 => ?_)
    · refine V_iconst 27 (v := 0) (by decide) d_Pv_isKnown_26 rfl ?_
      exact V_zret rfl rfl d_Pv_isKnown_27 (gN (fun h => h.2 h19))
    · refine V_iconst 23 (v := 1) (by decide) d_Pv_isKnown_22 rfl ?_
      refine V_goto 27 d_Pv_isKnown_23 (by decide) ?_
      exact V_zret rfl rfl d_Pv_isKnown_27 (gT ⟨h6, h19⟩)
def cReach (M : gMe) (j : Nat) (u f z : Int32) : gMe := if M 15 j = 0 then gst (gst (gst (gst (gst M 15 j (M 10 7)) 16 j u) 17 j f) 18 j z) 10 8 1 else M
set_option maxRecDepth 100000 in
set_option maxHeartbeats 4000000 in
theorem c_Pv_reach (l : Launch) (G : gG) (L : gLy) (M : gMe) (hL : gLC L) (j : Nat) (hj : j < 756) (u f z : Int32) : gMet l G y_Pv_reach b_Pv_reach 5 none (rmL 1 0 0) [.ref 10, .int (nI j), .int u, .int f, .int z] L M gAll (gPo none L (cReach M j u f z)) 0 0 := by
  refine gMet_of (lv := [some (.ref 10), some (.int (nI j)), some (.int u), some (.int f), some (.int z)]) (by decide) rfl (Nat.le_of_ble_eq_true rfl) rfl ?_
  refine V_al0 1 d_Pv_reach_0 rfl ?_
  refine V_getr 4 2 (lC10 hL) kc_Pv (by decide) fl_Pv_18 (Or.inl rfl) rfl d_Pv_reach_1 rfl ?_
  refine V_il1 5 d_Pv_reach_4 rfl ?_
  refine V_ialn 6 (j) (lC15 hL) rfl hj (by decide) d_Pv_reach_5 rfl ?_
  refine V_if_ne 46 9 d_Pv_reach_6 (by decide) rfl (fun h6 => ?_) (fun h6 => ?_)
  · exact V_vret rfl d_Pv_reach_46 ⟨rfl, rfl, by rw [cReach, if_neg h6]⟩
  · refine V_al0 10 d_Pv_reach_9 rfl ?_
    refine V_getr 13 2 (lC10 hL) kc_Pv (by decide) fl_Pv_18 (Or.inl rfl) rfl d_Pv_reach_10 rfl ?_
    refine V_il1 14 d_Pv_reach_13 rfl ?_
    refine V_al0 15 d_Pv_reach_14 rfl ?_
    refine V_geti 18 7 (lC10 hL) kc_Pv (by decide) fl_Pv_62 (Or.inl rfl) rfl d_Pv_reach_15 rfl ?_
    refine V_iasn 19 (j) (lC15 hL) rfl hj (by decide) d_Pv_reach_18 rfl ?_
    refine V_al0 20 d_Pv_reach_19 rfl ?_
    refine V_getr 23 3 (lC10 hL) kc_Pv (by decide) fl_Pv_22 (Or.inl rfl) rfl d_Pv_reach_20 rfl ?_
    refine V_il1 24 d_Pv_reach_23 rfl ?_
    refine V_il2 25 d_Pv_reach_24 rfl ?_
    refine V_iasn 26 (j) (lC16 hL) rfl hj (by decide) d_Pv_reach_25 rfl ?_
    refine V_al0 27 d_Pv_reach_26 rfl ?_
    refine V_getr 30 4 (lC10 hL) kc_Pv (by decide) fl_Pv_25 (Or.inl rfl) rfl d_Pv_reach_27 rfl ?_
    refine V_il1 31 d_Pv_reach_30 rfl ?_
    refine V_il3 32 d_Pv_reach_31 rfl ?_
    refine V_iasn 33 (j) (lC17 hL) rfl hj (by decide) d_Pv_reach_32 rfl ?_
    refine V_al0 34 d_Pv_reach_33 rfl ?_
    refine V_getr 37 5 (lC10 hL) kc_Pv (by decide) fl_Pv_28 (Or.inl rfl) rfl d_Pv_reach_34 rfl ?_
    refine V_il1 38 d_Pv_reach_37 rfl ?_
    refine V_il4 40 d_Pv_reach_38 rfl ?_
    refine V_iasn 41 (j) (lC18 hL) rfl hj (by decide) d_Pv_reach_40 rfl ?_
    refine V_al0 42 d_Pv_reach_41 rfl ?_
    refine V_iconst 43 (v := 1) (by decide) d_Pv_reach_42 rfl ?_
    refine V_puti 46 8 (lC10 hL) kc_Pv (by decide) fl_Pv_66 (Or.inl rfl) rfl rfl rfl rfl d_Pv_reach_43 rfl ?_
    exact V_vret rfl d_Pv_reach_46 ⟨rfl, rfl, by rw [cReach, if_pos h6]⟩
set_option maxRecDepth 100000 in
set_option maxHeartbeats 4000000 in
theorem c_Fa_isMay (l : Launch) (G : gG) (L : gLy) (M : gMe) (b : Nat) (hF : gLF L b) (a x r o : Int32) : gMet l G y_Fa_isMay b_Fa_isMay 5 (some FieldType.boolean) (rmL 1 0 0) [.ref b, .int a, .int x, .int r, .int o] L M gAll (gPo (some (.int (bi (M b 0 = 0 ∧ M b 1 = a ∧ M b 2 = x ∧ M b 3 = r ∧ M b 4 = o)))) L M) 0 0 := by
  refine gMet_of (lv := [some (.ref b), some (.int a), some (.int x), some (.int r), some (.int o)]) (by decide) rfl (Nat.le_of_ble_eq_true rfl) rfl ?_
  refine V_al0 1 d_Fa_isMay_0 rfl ?_
  refine V_geti 4 0 hF kc_Fa (by decide) fl_Fa_15 (Or.inl rfl) rfl d_Fa_isMay_1 rfl ?_
  refine V_if_ne 44 7 d_Fa_isMay_4 (by decide) rfl (fun h4 => ?_) (fun h4 => ?_)
  · refine V_iconst 45 (v := 0) (by decide) d_Fa_isMay_44 rfl ?_
    exact V_zret rfl rfl d_Fa_isMay_45 (gN (fun h => h4 h.1))
  · refine V_al0 8 d_Fa_isMay_7 rfl ?_
    refine V_geti 11 1 hF kc_Fa (by decide) fl_Fa_21 (Or.inl rfl) rfl d_Fa_isMay_8 rfl ?_
    refine V_il1 12 d_Fa_isMay_11 rfl ?_
    refine V_icmp_ne 44 15 d_Fa_isMay_12 (by decide) rfl (fun h12 => ?_) (fun h12 => ?_)
    · refine V_iconst 45 (v := 0) (by decide) d_Fa_isMay_44 rfl ?_
      exact V_zret rfl rfl d_Fa_isMay_45 (gN (fun h => h12 h.2.1))
    · refine V_al0 16 d_Fa_isMay_15 rfl ?_
      refine V_geti 19 2 hF kc_Fa (by decide) fl_Fa_28 (Or.inl rfl) rfl d_Fa_isMay_16 rfl ?_
      refine V_il2 20 d_Fa_isMay_19 rfl ?_
      refine V_icmp_ne 44 23 d_Fa_isMay_20 (by decide) rfl (fun h20 => ?_) (fun h20 => ?_)
      · refine V_iconst 45 (v := 0) (by decide) d_Fa_isMay_44 rfl ?_
        exact V_zret rfl rfl d_Fa_isMay_45 (gN (fun h => h20 h.2.2.1))
      · refine V_al0 24 d_Fa_isMay_23 rfl ?_
        refine V_geti 27 3 hF kc_Fa (by decide) fl_Fa_31 (Or.inl rfl) rfl d_Fa_isMay_24 rfl ?_
        refine V_il3 28 d_Fa_isMay_27 rfl ?_
        refine V_icmp_ne 44 31 d_Fa_isMay_28 (by decide) rfl (fun h28 => ?_) (fun h28 => ?_)
        · refine V_iconst 45 (v := 0) (by decide) d_Fa_isMay_44 rfl ?_
          exact V_zret rfl rfl d_Fa_isMay_45 (gN (fun h => h28 h.2.2.2.1))
        · refine V_al0 32 d_Fa_isMay_31 rfl ?_
          refine V_geti 35 4 hF kc_Fa (by decide) fl_Fa_34 (Or.inl rfl) rfl d_Fa_isMay_32 rfl ?_
          refine V_il4 37 d_Fa_isMay_35 rfl ?_
          refine V_icmp_ne 44 40 d_Fa_isMay_37 (by decide) rfl (fun h37 => ?_) (fun h37 => ?_)
          · refine V_iconst 45 (v := 0) (by decide) d_Fa_isMay_44 rfl ?_
            exact V_zret rfl rfl d_Fa_isMay_45 (gN (fun h => h37 h.2.2.2.2))
          · refine V_iconst 41 (v := 1) (by decide) d_Fa_isMay_40 rfl ?_
            refine V_goto 45 d_Fa_isMay_41 (by decide) ?_
            exact V_zret rfl rfl d_Fa_isMay_45 (gT ⟨h4, h12, h20, h28, h37⟩)
set_option maxRecDepth 100000 in
set_option maxHeartbeats 4000000 in
theorem c_Fa_isOfSameThing (l : Launch) (G : gG) (L : gLy) (M : gMe) (b b2 : Nat) (hF : gLF L b) (hF2 : gLF L b2) : gMet l G y_Fa_isOfSameThing b_Fa_isOfSameThing 2 (some FieldType.boolean) (rmL 1 0 0) [.ref b, .ref b2] L M gAll (gPo (some (.int (bi (M b 3 = M b2 3 ∧ M b 4 = M b2 4)))) L M) 0 0 := by
  refine gMet_of (lv := [some (.ref b), some (.ref b2)]) (by decide) rfl (Nat.le_of_ble_eq_true rfl) rfl ?_
  refine V_al0 1 d_Fa_isOfSameThing_0 rfl ?_
  refine V_geti 4 3 hF kc_Fa (by decide) fl_Fa_31 (Or.inl rfl) rfl d_Fa_isOfSameThing_1 rfl ?_
  refine V_al1 5 d_Fa_isOfSameThing_4 rfl ?_
  refine V_geti 8 3 hF2 kc_Fa (by decide) fl_Fa_31 (Or.inl rfl) rfl d_Fa_isOfSameThing_5 rfl ?_
  refine V_icmp_ne 26 11 d_Fa_isOfSameThing_8 (by decide) rfl (fun h8 => ?_) (fun h8 => ?_)
  · refine V_iconst 27 (v := 0) (by decide) d_Fa_isOfSameThing_26 rfl ?_
    exact V_zret rfl rfl d_Fa_isOfSameThing_27 (gN (fun h => h8 h.1))
  · refine V_al0 12 d_Fa_isOfSameThing_11 rfl ?_
    refine V_geti 15 4 hF kc_Fa (by decide) fl_Fa_34 (Or.inl rfl) rfl d_Fa_isOfSameThing_12 rfl ?_
    refine V_al1 16 d_Fa_isOfSameThing_15 rfl ?_
    refine V_geti 19 4 hF2 kc_Fa (by decide) fl_Fa_34 (Or.inl rfl) rfl d_Fa_isOfSameThing_16 rfl ?_
    refine V_icmp_ne 26 22 d_Fa_isOfSameThing_19 (by decide) rfl (fun h19 => ?_) (fun h19 => ?_)
    · refine V_iconst 27 (v := 0) (by decide) d_Fa_isOfSameThing_26 rfl ?_
      exact V_zret rfl rfl d_Fa_isOfSameThing_27 (gN (fun h => h19 h.2))
    · refine V_iconst 23 (v := 1) (by decide) d_Fa_isOfSameThing_22 rfl ?_
      refine V_goto 27 d_Fa_isOfSameThing_23 (by decide) ?_
      exact V_zret rfl rfl d_Fa_isOfSameThing_27 (gT ⟨h8, h19⟩)

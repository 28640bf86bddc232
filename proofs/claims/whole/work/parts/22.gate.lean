/-! the class's own methods that neither throw nor make anything -/
set_option maxRecDepth 100000 in
set_option maxHeartbeats 4000000 in
theorem c_Ga_set (l : Launch) (G : gG) (L : gLy) (M : gMe) (hL : gLC L) (a b c d : Int32) : gMet l G y_Ga_set b_Ga_set 5 none (rmL 1 0 0) [.ref 2, .int a, .int b, .int c, .int d] L M gAll (gPo none L (gst (gst (gst (gst M 3 0 a) 3 1 b) 3 2 c) 3 3 d)) 0 0 := by
  refine gMet_of (lv := [some (.ref 2), some (.int a), some (.int b), some (.int c), some (.int d)]) (by decide) rfl (Nat.le_of_ble_eq_true rfl) rfl ?_
  refine V_al0 1 d_Ga_set_0 rfl ?_
  refine V_getr 4 1 (lC2 hL) kc_Ga (by decide) fl_Ga_9 (Or.inl rfl) rfl d_Ga_set_1 rfl ?_
  refine V_iconst 5 (v := 0) (by decide) d_Ga_set_4 rfl ?_
  refine V_il1 6 d_Ga_set_5 rfl ?_
  refine V_iasn 7 (0) (lC3 hL) rfl (by decide) (by decide) d_Ga_set_6 rfl ?_
  refine V_al0 8 d_Ga_set_7 rfl ?_
  refine V_getr 11 1 (lC2 hL) kc_Ga (by decide) fl_Ga_9 (Or.inl rfl) rfl d_Ga_set_8 rfl ?_
  refine V_iconst 12 (v := 1) (by decide) d_Ga_set_11 rfl ?_
  refine V_il2 13 d_Ga_set_12 rfl ?_
  refine V_iasn 14 (1) (lC3 hL) rfl (by decide) (by decide) d_Ga_set_13 rfl ?_
  refine V_al0 15 d_Ga_set_14 rfl ?_
  refine V_getr 18 1 (lC2 hL) kc_Ga (by decide) fl_Ga_9 (Or.inl rfl) rfl d_Ga_set_15 rfl ?_
  refine V_iconst 19 (v := 2) (by decide) d_Ga_set_18 rfl ?_
  refine V_il3 20 d_Ga_set_19 rfl ?_
  refine V_iasn 21 (2) (lC3 hL) rfl (by decide) (by decide) d_Ga_set_20 rfl ?_
  refine V_al0 22 d_Ga_set_21 rfl ?_
  refine V_getr 25 1 (lC2 hL) kc_Ga (by decide) fl_Ga_9 (Or.inl rfl) rfl d_Ga_set_22 rfl ?_
  refine V_iconst 26 (v := 3) (by decide) d_Ga_set_25 rfl ?_
  refine V_il4 28 d_Ga_set_26 rfl ?_
  refine V_iasn 29 (3) (lC3 hL) rfl (by decide) (by decide) d_Ga_set_28 rfl ?_
  exact V_vret rfl d_Ga_set_29 ⟨rfl, rfl, rfl⟩
abbrev pPass (n : Int32) : Prop := ¬ n < 1 ∧ ¬ 100 < n
def paM (M : gMe) (n : Int32) : gMe := if pPass n then gst M 4 1 (M 4 1 + n) else M
def paR (M : gMe) (n : Int32) : Int32 := if pPass n then M 4 1 + n else -1
set_option maxRecDepth 100000 in
set_option maxHeartbeats 4000000 in
theorem c_Ga_pass (l : Launch) (G : gG) (L : gLy) (M : gMe) (hL : gLC L) (n : Int32) : gMet l G y_Ga_pass b_Ga_pass 2 (some FieldType.int) (rmL 2 0 0) [.ref 2, .int n] L M gAll (gPo (some (.int (paR M n))) L (paM M n)) 0 0 := by
  refine gMet_of (lv := [some (.ref 2), some (.int n)]) (by decide) rfl (Nat.le_of_ble_eq_true rfl) rfl ?_
  refine V_il1 1 d_Ga_pass_0 rfl ?_
  refine V_iconst 2 (v := 1) (by decide) d_Ga_pass_1 rfl ?_
  refine V_icmp_lt 22 5 d_Ga_pass_2 (by decide) rfl (fun h2 => ?_) (fun h2 => ?_)
  · refine V_iconst 23 (v := (-1)) (by decide) d_Ga_pass_22 rfl ?_
    exact V_iret rfl d_Ga_pass_23 ⟨by rw [paR, if_neg (fun h => h.1 h2)], rfl, by rw [paM, if_neg (fun h => h.1 h2)]⟩
  · refine V_il1 6 d_Ga_pass_5 rfl ?_
    refine V_bipush 8 (v := 100) (by decide) d_Ga_pass_6 rfl ?_
    refine V_icmp_gt 22 11 d_Ga_pass_8 (by decide) rfl (fun h8 => ?_) (fun h8 => ?_)
    · refine V_iconst 23 (v := (-1)) (by decide) d_Ga_pass_22 rfl ?_
      exact V_iret rfl d_Ga_pass_23 ⟨by rw [paR, if_neg (fun h => h.2 h8)], rfl, by rw [paM, if_neg (fun h => h.2 h8)]⟩
    · refine V_al0 12 d_Ga_pass_11 rfl ?_
      refine V_getr 15 2 (lC2 hL) kc_Ga (by decide) fl_Ga_18 (Or.inl rfl) rfl d_Ga_pass_12 rfl ?_
      refine V_il1 16 d_Ga_pass_15 rfl ?_
      refine V_cV1 19 (c_Cs_letTimeGoOn l G _ _ hL n) ok_Cs_letTimeGoOn ml_Ga_131 im_Cs_letTimeGoOn se_Cs_letTimeGoOn (lC4 hL) kc_Cs (gRm_ok (by decide) (by decide)) rfl rfl (Nat.le_of_ble_eq_true rfl) d_Ga_pass_16 ⟨Nat.le_of_ble_eq_true rfl, Nat.le_of_ble_eq_true rfl⟩ rfl ?_
      refine V_goto 23 d_Ga_pass_19 (by decide) ?_
      exact V_iret rfl d_Ga_pass_23 ⟨by rw [paR, if_pos ⟨h2, h8⟩], rfl, by rw [paM, if_pos ⟨h2, h8⟩]⟩
set_option maxRecDepth 100000 in
set_option maxHeartbeats 4000000 in
theorem c_Ga_step (l : Launch) (G : gG) (L : gLy) (M : gMe) (hL : gLC L) (n : Nat) (hn : M 6 3 = nI n) (hn4 : n < 40) (r x z : Int32) : gMet l G y_Ga_step b_Ga_step 4 (some FieldType.int) (rmL 2 0 0) [.ref 2, .int r, .int x, .int z] L M gAll (gPo (some (.int (nI n))) L (pfApp M 6 n r x z)) 0 0 := by
  refine gMet_of (lv := [some (.ref 2), some (.int r), some (.int x), some (.int z)]) (by decide) rfl (Nat.le_of_ble_eq_true rfl) rfl ?_
  refine V_al0 1 d_Ga_step_0 rfl ?_
  refine V_getr 4 3 (lC2 hL) kc_Ga (by decide) fl_Ga_25 (Or.inl rfl) rfl d_Ga_step_1 rfl ?_
  refine V_il1 5 d_Ga_step_4 rfl ?_
  refine V_il2 6 d_Ga_step_5 rfl ?_
  refine V_il3 7 d_Ga_step_6 rfl ?_
  refine V_cV1 10 (c_Pf_append l G _ _ 6 (lC6 hL) n hn hn4 r x z) ok_Pf_append ml_Ga_135 im_Pf_append se_Pf_append (lC6 hL).1 kc_Pf (gRm_ok (by decide) (by decide)) rfl rfl (Nat.le_of_ble_eq_true rfl) d_Ga_step_7 ⟨Nat.le_of_ble_eq_true rfl, Nat.le_of_ble_eq_true rfl⟩ rfl ?_
  exact V_iret rfl d_Ga_step_10 ⟨rfl, rfl, rfl⟩
set_option maxRecDepth 100000 in
set_option maxHeartbeats 4000000 in
theorem c_Ga_step_full (l : Launch) (G : gG) (L : gLy) (M : gMe) (hL : gLC L) (hn : M 6 3 = nI 40) (r x z : Int32) : gMet l G y_Ga_step b_Ga_step 4 (some FieldType.int) (rmL 2 0 0) [.ref 2, .int r, .int x, .int z] L M gAll (gPo (some (.int (-1))) L M) 0 0 := by
  refine gMet_of (lv := [some (.ref 2), some (.int r), some (.int x), some (.int z)]) (by decide) rfl (Nat.le_of_ble_eq_true rfl) rfl ?_
  refine V_al0 1 d_Ga_step_0 rfl ?_
  refine V_getr 4 3 (lC2 hL) kc_Ga (by decide) fl_Ga_25 (Or.inl rfl) rfl d_Ga_step_1 rfl ?_
  refine V_il1 5 d_Ga_step_4 rfl ?_
  refine V_il2 6 d_Ga_step_5 rfl ?_
  refine V_il3 7 d_Ga_step_6 rfl ?_
  refine V_cV1 10 (c_Pf_append_full l G _ _ 6 (lC6 hL) hn r x z) ok_Pf_append ml_Ga_135 im_Pf_append se_Pf_append (lC6 hL).1 kc_Pf (gRm_ok (by decide) (by decide)) rfl rfl (Nat.le_of_ble_eq_true rfl) d_Ga_step_7 ⟨Nat.le_of_ble_eq_true rfl, Nat.le_of_ble_eq_true rfl⟩ rfl ?_
  exact V_iret rfl d_Ga_step_10 ⟨rfl, rfl, rfl⟩
set_option maxRecDepth 100000 in
set_option maxHeartbeats 4000000 in
theorem c_Ga_clear (l : Launch) (G : gG) (L : gLy) (M : gMe) (hL : gLC L) : gMet l G y_Ga_clear b_Ga_clear 1 (some FieldType.int) (rmL 2 0 0) [.ref 2] L M gAll (gPo (some (.int (M 6 3))) L (gst M 6 3 0)) 0 0 := by
  refine gMet_of (lv := [some (.ref 2)]) (by decide) rfl (Nat.le_of_ble_eq_true rfl) rfl ?_
  refine V_al0 1 d_Ga_clear_0 rfl ?_
  refine V_getr 4 3 (lC2 hL) kc_Ga (by decide) fl_Ga_25 (Or.inl rfl) rfl d_Ga_clear_1 rfl ?_
  refine V_cV1 7 (c_Pf_makeEmpty l G _ _ 6 (lC6 hL)) ok_Pf_makeEmpty ml_Ga_139 im_Pf_makeEmpty se_Pf_makeEmpty (lC6 hL).1 kc_Pf (gRm_ok (by decide) (by decide)) rfl rfl (Nat.le_of_ble_eq_true rfl) d_Ga_clear_4 ⟨Nat.le_of_ble_eq_true rfl, Nat.le_of_ble_eq_true rfl⟩ rfl ?_
  exact V_iret rfl d_Ga_clear_7 ⟨rfl, rfl, rfl⟩
set_option maxRecDepth 100000 in
set_option maxHeartbeats 4000000 in
theorem c_Ga_steps (l : Launch) (G : gG) (L : gLy) (M : gMe) (hL : gLC L) : gMet l G y_Ga_steps b_Ga_steps 1 (some FieldType.int) (rmL 2 0 0) [.ref 2] L M gAll (gPo (some (.int (M 6 3))) L M) 0 0 := by
  refine gMet_of (lv := [some (.ref 2)]) (by decide) rfl (Nat.le_of_ble_eq_true rfl) rfl ?_
  refine V_al0 1 d_Ga_steps_0 rfl ?_
  refine V_getr 4 3 (lC2 hL) kc_Ga (by decide) fl_Ga_25 (Or.inl rfl) rfl d_Ga_steps_1 rfl ?_
  refine V_cV1 7 (c_Pf_length l G _ _ 6 (lC6 hL)) ok_Pf_length ml_Ga_142 im_Pf_length se_Pf_length (lC6 hL).1 kc_Pf (gRm_ok (by decide) (by decide)) rfl rfl (Nat.le_of_ble_eq_true rfl) d_Ga_steps_4 ⟨Nat.le_of_ble_eq_true rfl, Nat.le_of_ble_eq_true rfl⟩ rfl ?_
  exact V_iret rfl d_Ga_steps_7 ⟨rfl, rfl, rfl⟩
set_option maxRecDepth 100000 in
set_option maxHeartbeats 4000000 in
theorem c_Ga_stepAt_no (l : Launch) (G : gG) (L : gLy) (M : gMe) (hL : gLC L) (k v : Int32) (hk : ¬ (¬ k < 0 ∧ ¬ M 6 3 ≤ k)) : gMet l G y_Ga_stepAt b_Ga_stepAt 3 (some FieldType.int) (rmL 2 0 0) [.ref 2, .int k, .int v] L M gAll (gPo (some (.int (-1))) L M) 0 0 := by
  refine gMet_of (lv := [some (.ref 2), some (.int k), some (.int v)]) (by decide) rfl (Nat.le_of_ble_eq_true rfl) rfl ?_
  refine V_al0 1 d_Ga_stepAt_0 rfl ?_
  refine V_getr 4 3 (lC2 hL) kc_Ga (by decide) fl_Ga_25 (Or.inl rfl) rfl d_Ga_stepAt_1 rfl ?_
  refine V_il1 5 d_Ga_stepAt_4 rfl ?_
  refine V_cV1 8 (c_Pf_hasStep l G _ _ 6 (lC6 hL) k) ok_Pf_hasStep ml_Ga_145 im_Pf_hasStep se_Pf_hasStep (lC6 hL).1 kc_Pf (gRm_ok (by decide) (by decide)) rfl rfl (Nat.le_of_ble_eq_true rfl) d_Ga_stepAt_5 ⟨Nat.le_of_ble_eq_true rfl, Nat.le_of_ble_eq_true rfl⟩ rfl ?_
  refine V_bn 13 11 d_Ga_stepAt_8 (by decide) rfl (fun h9 => absurd h9 hk) (fun _ => ?_)
  refine V_iconst 12 (v := (-1)) (by decide) d_Ga_stepAt_11 rfl ?_
  exact V_iret rfl d_Ga_stepAt_12 ⟨rfl, rfl, rfl⟩
set_option maxRecDepth 100000 in
set_option maxHeartbeats 4000000 in
theorem c_Ga_stepAt0 (l : Launch) (G : gG) (L : gLy) (M : gMe) (hL : gLC L) (n : Nat) (hn : M 6 3 = nI n) (hn4 : n ≤ 40) (j : Nat) (hj : j < n) : gMet l G y_Ga_stepAt b_Ga_stepAt 3 (some FieldType.int) (rmL 2 0 0) [.ref 2, .int (nI j), .int 0] L M gAll (gPo (some (.int (M 7 j))) L M) 0 0 := by
  refine gMet_of (lv := [some (.ref 2), some (.int (nI j)), some (.int 0)]) (by decide) rfl (Nat.le_of_ble_eq_true rfl) rfl ?_
  refine V_al0 1 d_Ga_stepAt_0 rfl ?_
  refine V_getr 4 3 (lC2 hL) kc_Ga (by decide) fl_Ga_25 (Or.inl rfl) rfl d_Ga_stepAt_1 rfl ?_
  refine V_il1 5 d_Ga_stepAt_4 rfl ?_
  refine V_cV1 8 (c_Pf_hasStep l G _ _ 6 (lC6 hL) (nI j)) ok_Pf_hasStep ml_Ga_145 im_Pf_hasStep se_Pf_hasStep (lC6 hL).1 kc_Pf (gRm_ok (by decide) (by decide)) rfl rfl (Nat.le_of_ble_eq_true rfl) d_Ga_stepAt_5 ⟨Nat.le_of_ble_eq_true rfl, Nat.le_of_ble_eq_true rfl⟩ rfl ?_
  refine V_bn 13 11 d_Ga_stepAt_8 (by decide) rfl (fun _ => ?_) (fun h9 => absurd (show ¬ nI j < 0 ∧ ¬ M 6 3 ≤ nI j by rw [hn]; exact ⟨nI_pos (by omega), nI_ge hj (by omega)⟩) h9)
  refine V_il2 14 d_Ga_stepAt_13 rfl ?_
  refine V_tabIn 40 d_Ga_stepAt_14 (by decide) (by decide) rfl (by decide) ?_
  refine V_al0 41 d_Ga_stepAt_40 rfl ?_
  refine V_getr 44 3 (lC2 hL) kc_Ga (by decide) fl_Ga_25 (Or.inl rfl) rfl d_Ga_stepAt_41 rfl ?_
  refine V_il1 45 d_Ga_stepAt_44 rfl ?_
  refine V_cV1 48 (c_Pf_ruleAt l G _ _ 6 (lC6 hL) j (by omega)) ok_Pf_ruleAt ml_Ga_149 im_Pf_ruleAt se_Pf_ruleAt (lC6 hL).1 kc_Pf (gRm_ok (by decide) (by decide)) rfl rfl (Nat.le_of_ble_eq_true rfl) d_Ga_stepAt_45 ⟨Nat.le_of_ble_eq_true rfl, Nat.le_of_ble_eq_true rfl⟩ rfl ?_
  exact V_iret rfl d_Ga_stepAt_48 ⟨rfl, rfl, rfl⟩
set_option maxRecDepth 100000 in
set_option maxHeartbeats 4000000 in
theorem c_Ga_stepAt1 (l : Launch) (G : gG) (L : gLy) (M : gMe) (hL : gLC L) (n : Nat) (hn : M 6 3 = nI n) (hn4 : n ≤ 40) (j : Nat) (hj : j < n) : gMet l G y_Ga_stepAt b_Ga_stepAt 3 (some FieldType.int) (rmL 2 0 0) [.ref 2, .int (nI j), .int 1] L M gAll (gPo (some (.int (M 8 j))) L M) 0 0 := by
  refine gMet_of (lv := [some (.ref 2), some (.int (nI j)), some (.int 1)]) (by decide) rfl (Nat.le_of_ble_eq_true rfl) rfl ?_
  refine V_al0 1 d_Ga_stepAt_0 rfl ?_
  refine V_getr 4 3 (lC2 hL) kc_Ga (by decide) fl_Ga_25 (Or.inl rfl) rfl d_Ga_stepAt_1 rfl ?_
  refine V_il1 5 d_Ga_stepAt_4 rfl ?_
  refine V_cV1 8 (c_Pf_hasStep l G _ _ 6 (lC6 hL) (nI j)) ok_Pf_hasStep ml_Ga_145 im_Pf_hasStep se_Pf_hasStep (lC6 hL).1 kc_Pf (gRm_ok (by decide) (by decide)) rfl rfl (Nat.le_of_ble_eq_true rfl) d_Ga_stepAt_5 ⟨Nat.le_of_ble_eq_true rfl, Nat.le_of_ble_eq_true rfl⟩ rfl ?_
  refine V_bn 13 11 d_Ga_stepAt_8 (by decide) rfl (fun _ => ?_) (fun h9 => absurd (show ¬ nI j < 0 ∧ ¬ M 6 3 ≤ nI j by rw [hn]; exact ⟨nI_pos (by omega), nI_ge hj (by omega)⟩) h9)
  refine V_il2 14 d_Ga_stepAt_13 rfl ?_
  refine V_tabIn 49 d_Ga_stepAt_14 (by decide) (by decide) rfl (by decide) ?_
  refine V_al0 50 d_Ga_stepAt_49 rfl ?_
  refine V_getr 53 3 (lC2 hL) kc_Ga (by decide) fl_Ga_25 (Or.inl rfl) rfl d_Ga_stepAt_50 rfl ?_
  refine V_il1 54 d_Ga_stepAt_53 rfl ?_
  refine V_cV1 57 (c_Pf_xAt l G _ _ 6 (lC6 hL) j (by omega)) ok_Pf_xAt ml_Ga_152 im_Pf_xAt se_Pf_xAt (lC6 hL).1 kc_Pf (gRm_ok (by decide) (by decide)) rfl rfl (Nat.le_of_ble_eq_true rfl) d_Ga_stepAt_54 ⟨Nat.le_of_ble_eq_true rfl, Nat.le_of_ble_eq_true rfl⟩ rfl ?_
  exact V_iret rfl d_Ga_stepAt_57 ⟨rfl, rfl, rfl⟩
set_option maxRecDepth 100000 in
set_option maxHeartbeats 4000000 in
theorem c_Ga_stepAt2 (l : Launch) (G : gG) (L : gLy) (M : gMe) (hL : gLC L) (n : Nat) (hn : M 6 3 = nI n) (hn4 : n ≤ 40) (j : Nat) (hj : j < n) : gMet l G y_Ga_stepAt b_Ga_stepAt 3 (some FieldType.int) (rmL 2 0 0) [.ref 2, .int (nI j), .int 2] L M gAll (gPo (some (.int (M 9 j))) L M) 0 0 := by
  refine gMet_of (lv := [some (.ref 2), some (.int (nI j)), some (.int 2)]) (by decide) rfl (Nat.le_of_ble_eq_true rfl) rfl ?_
  refine V_al0 1 d_Ga_stepAt_0 rfl ?_
  refine V_getr 4 3 (lC2 hL) kc_Ga (by decide) fl_Ga_25 (Or.inl rfl) rfl d_Ga_stepAt_1 rfl ?_
  refine V_il1 5 d_Ga_stepAt_4 rfl ?_
  refine V_cV1 8 (c_Pf_hasStep l G _ _ 6 (lC6 hL) (nI j)) ok_Pf_hasStep ml_Ga_145 im_Pf_hasStep se_Pf_hasStep (lC6 hL).1 kc_Pf (gRm_ok (by decide) (by decide)) rfl rfl (Nat.le_of_ble_eq_true rfl) d_Ga_stepAt_5 ⟨Nat.le_of_ble_eq_true rfl, Nat.le_of_ble_eq_true rfl⟩ rfl ?_
  refine V_bn 13 11 d_Ga_stepAt_8 (by decide) rfl (fun _ => ?_) (fun h9 => absurd (show ¬ nI j < 0 ∧ ¬ M 6 3 ≤ nI j by rw [hn]; exact ⟨nI_pos (by omega), nI_ge hj (by omega)⟩) h9)
  refine V_il2 14 d_Ga_stepAt_13 rfl ?_
  refine V_tabIn 58 d_Ga_stepAt_14 (by decide) (by decide) rfl (by decide) ?_
  refine V_al0 59 d_Ga_stepAt_58 rfl ?_
  refine V_getr 62 3 (lC2 hL) kc_Ga (by decide) fl_Ga_25 (Or.inl rfl) rfl d_Ga_stepAt_59 rfl ?_
  refine V_il1 63 d_Ga_stepAt_62 rfl ?_
  refine V_cV1 66 (c_Pf_yAt l G _ _ 6 (lC6 hL) j (by omega)) ok_Pf_yAt ml_Ga_155 im_Pf_yAt se_Pf_yAt (lC6 hL).1 kc_Pf (gRm_ok (by decide) (by decide)) rfl rfl (Nat.le_of_ble_eq_true rfl) d_Ga_stepAt_63 ⟨Nat.le_of_ble_eq_true rfl, Nat.le_of_ble_eq_true rfl⟩ rfl ?_
  exact V_iret rfl d_Ga_stepAt_66 ⟨rfl, rfl, rfl⟩
set_option maxRecDepth 100000 in
set_option maxHeartbeats 4000000 in
theorem c_Ga_stepAt_out (l : Launch) (G : gG) (L : gLy) (M : gMe) (hL : gLC L) (k v : Int32) (hv : v.toInt < 0 ∨ 2 < v.toInt) : gMet l G y_Ga_stepAt b_Ga_stepAt 3 (some FieldType.int) (rmL 2 0 0) [.ref 2, .int k, .int v] L M gAll (gPo (some (.int (-1))) L M) 0 0 := by
  refine gMet_of (lv := [some (.ref 2), some (.int k), some (.int v)]) (by decide) rfl (Nat.le_of_ble_eq_true rfl) rfl ?_
  refine V_al0 1 d_Ga_stepAt_0 rfl ?_
  refine V_getr 4 3 (lC2 hL) kc_Ga (by decide) fl_Ga_25 (Or.inl rfl) rfl d_Ga_stepAt_1 rfl ?_
  refine V_il1 5 d_Ga_stepAt_4 rfl ?_
  refine V_cV1 8 (c_Pf_hasStep l G _ _ 6 (lC6 hL) k) ok_Pf_hasStep ml_Ga_145 im_Pf_hasStep se_Pf_hasStep (lC6 hL).1 kc_Pf (gRm_ok (by decide) (by decide)) rfl rfl (Nat.le_of_ble_eq_true rfl) d_Ga_stepAt_5 ⟨Nat.le_of_ble_eq_true rfl, Nat.le_of_ble_eq_true rfl⟩ rfl ?_
  refine V_bn 13 11 d_Ga_stepAt_8 (by decide) rfl (fun h8 => ?_) (fun h8 => ?_)
  · refine V_il2 14 d_Ga_stepAt_13 rfl ?_
    refine V_tabOut 67 d_Ga_stepAt_14 hv (by decide) ?_
    refine V_iconst 68 (v := (-1)) (by decide) d_Ga_stepAt_67 rfl ?_
    exact V_iret rfl d_Ga_stepAt_68 ⟨rfl, rfl, rfl⟩
  · refine V_iconst 12 (v := (-1)) (by decide) d_Ga_stepAt_11 rfl ?_
    exact V_iret rfl d_Ga_stepAt_12 ⟨rfl, rfl, rfl⟩
abbrev pOpen (M : gMe) (r : Int32) (j : Nat) : Prop := (r = 3 ∧ M 24 j = -1) ∨ (¬ r = 3 ∧ ¬ M 24 j = -1)
set_option maxRecDepth 100000 in
set_option maxHeartbeats 4000000 in
theorem c_Ga_isOpenTo (l : Launch) (G : gG) (L : gLy) (M : gMe) (hL : gLC L) (r : Int32) (j : Nat) (hj : j < 6) : gMet l G y_Ga_isOpenTo b_Ga_isOpenTo 3 (some FieldType.boolean) (rmL 1 0 0) [.ref 2, .int r, .int (nI j)] L M gAll (gPo (some (.int (bi (pOpen M r j)))) L M) 0 0 := by
  refine gMet_of (lv := [some (.ref 2), some (.int r), some (.int (nI j))]) (by decide) rfl (Nat.le_of_ble_eq_true rfl) rfl ?_
  refine V_il1 1 d_Ga_isOpenTo_0 rfl ?_
  refine V_iconst 2 (v := 3) (by decide) d_Ga_isOpenTo_1 rfl ?_
  refine V_icmp_ne 9 5 d_Ga_isOpenTo_2 (by decide) rfl (fun h2 => ?_) (fun h2 => ?_)
  · refine V_iconst 10 (v := 0) (by decide) d_Ga_isOpenTo_9 rfl ?_
    refine V_al0 11 d_Ga_isOpenTo_10 rfl ?_
    refine V_getr 14 8 (lC2 hL) kc_Ga (by decide) fl_Ga_59 (Or.inl rfl) rfl d_Ga_isOpenTo_11 rfl ?_
    refine V_il2 15 d_Ga_isOpenTo_14 rfl ?_
    refine V_ialn 16 (j) (lC24 hL) rfl hj (by decide) d_Ga_isOpenTo_15 rfl ?_
    refine V_iconst 17 (v := (-1)) (by decide) d_Ga_isOpenTo_16 rfl ?_
    refine V_icmp_ne 24 20 d_Ga_isOpenTo_17 (by decide) rfl (fun h17 => ?_) (fun h17 => ?_)
    · refine V_iconst 25 (v := 0) (by decide) d_Ga_isOpenTo_24 rfl ?_
      refine V_icmp_ne 32 28 d_Ga_isOpenTo_25 (by decide) rfl (fun h9 => absurd h9 (not_not_intro rfl)) (fun _ => ?_)
      refine V_iconst 29 (v := 1) (by decide) d_Ga_isOpenTo_28 rfl ?_
      refine V_goto 33 d_Ga_isOpenTo_29 (by decide) ?_
      exact V_zret rfl rfl d_Ga_isOpenTo_33 (gT (Or.inr ⟨h2, h17⟩))
    · refine V_iconst 21 (v := 1) (by decide) d_Ga_isOpenTo_20 rfl ?_
      refine V_goto 25 d_Ga_isOpenTo_21 (by decide) ?_
      refine V_icmp_ne 32 28 d_Ga_isOpenTo_25 (by decide) rfl (fun _ => ?_) (fun h9 => absurd h9 (by decide))
      refine V_iconst 33 (v := 0) (by decide) d_Ga_isOpenTo_32 rfl ?_
      exact V_zret rfl rfl d_Ga_isOpenTo_33 (gN (fun h => h.elim (fun q => h2 q.1) (fun q => q.2 h17)))
  · refine V_iconst 6 (v := 1) (by decide) d_Ga_isOpenTo_5 rfl ?_
    refine V_goto 10 d_Ga_isOpenTo_6 (by decide) ?_
    refine V_al0 11 d_Ga_isOpenTo_10 rfl ?_
    refine V_getr 14 8 (lC2 hL) kc_Ga (by decide) fl_Ga_59 (Or.inl rfl) rfl d_Ga_isOpenTo_11 rfl ?_
    refine V_il2 15 d_Ga_isOpenTo_14 rfl ?_
    refine V_ialn 16 (j) (lC24 hL) rfl hj (by decide) d_Ga_isOpenTo_15 rfl ?_
    refine V_iconst 17 (v := (-1)) (by decide) d_Ga_isOpenTo_16 rfl ?_
    refine V_icmp_ne 24 20 d_Ga_isOpenTo_17 (by decide) rfl (fun h17 => ?_) (fun h17 => ?_)
    · refine V_iconst 25 (v := 0) (by decide) d_Ga_isOpenTo_24 rfl ?_
      refine V_icmp_ne 32 28 d_Ga_isOpenTo_25 (by decide) rfl (fun _ => ?_) (fun h9 => absurd h9 (by decide))
      refine V_iconst 33 (v := 0) (by decide) d_Ga_isOpenTo_32 rfl ?_
      exact V_zret rfl rfl d_Ga_isOpenTo_33 (gN (fun h => h.elim (fun q => h17 q.2) (fun q => q.1 h2)))
    · refine V_iconst 21 (v := 1) (by decide) d_Ga_isOpenTo_20 rfl ?_
      refine V_goto 25 d_Ga_isOpenTo_21 (by decide) ?_
      refine V_icmp_ne 32 28 d_Ga_isOpenTo_25 (by decide) rfl (fun h9 => absurd h9 (not_not_intro rfl)) (fun _ => ?_)
      refine V_iconst 29 (v := 1) (by decide) d_Ga_isOpenTo_28 rfl ?_
      refine V_goto 33 d_Ga_isOpenTo_29 (by decide) ?_
      exact V_zret rfl rfl d_Ga_isOpenTo_33 (gT (Or.inl ⟨h2, h17⟩))
set_option maxRecDepth 100000 in
set_option maxHeartbeats 4000000 in
theorem c_Ga_sayerOfGoal (l : Launch) (G : gG) (L : gLy) (M : gMe) (hL : gLC L) (r : Int32) (j : Nat) (hj : j < 6) : gMet l G y_Ga_sayerOfGoal b_Ga_sayerOfGoal 3 (some FieldType.int) (rmL 1 0 0) [.ref 2, .int r, .int (nI j)] L M gAll (gPo (some (.int (if r = 3 then 0 else M 24 j))) L M) 0 0 := by
  refine gMet_of (lv := [some (.ref 2), some (.int r), some (.int (nI j))]) (by decide) rfl (Nat.le_of_ble_eq_true rfl) rfl ?_
  refine V_il1 1 d_Ga_sayerOfGoal_0 rfl ?_
  refine V_iconst 2 (v := 3) (by decide) d_Ga_sayerOfGoal_1 rfl ?_
  refine V_icmp_ne 9 5 d_Ga_sayerOfGoal_2 (by decide) rfl (fun h2 => ?_) (fun h2 => ?_)
  · refine V_al0 10 d_Ga_sayerOfGoal_9 rfl ?_
    refine V_getr 13 8 (lC2 hL) kc_Ga (by decide) fl_Ga_59 (Or.inl rfl) rfl d_Ga_sayerOfGoal_10 rfl ?_
    refine V_il2 14 d_Ga_sayerOfGoal_13 rfl ?_
    refine V_ialn 15 (j) (lC24 hL) rfl hj (by decide) d_Ga_sayerOfGoal_14 rfl ?_
    exact V_iret rfl d_Ga_sayerOfGoal_15 ⟨by rw [if_neg h2], rfl, rfl⟩
  · refine V_iconst 6 (v := 0) (by decide) d_Ga_sayerOfGoal_5 rfl ?_
    refine V_goto 15 d_Ga_sayerOfGoal_6 (by decide) ?_
    exact V_iret rfl d_Ga_sayerOfGoal_15 ⟨by rw [if_pos h2], rfl, rfl⟩
set_option maxRecDepth 100000 in
set_option maxHeartbeats 4000000 in
theorem c_Ga_owner (l : Launch) (G : gG) (L : gLy) (M : gMe) (hL : gLC L) (x : Int32) : gMet l G y_Ga_owner b_Ga_owner 2 (some FieldType.int) (rmL 2 0 0) [.ref 2, .int x] L M gAll (gPo (some (.int (if pPrin x then M 24 x.toNatClampNeg else -1))) L M) 0 0 := by
  refine gMet_of (lv := [some (.ref 2), some (.int x)]) (by decide) rfl (Nat.le_of_ble_eq_true rfl) rfl ?_
  refine V_il1 1 d_Ga_owner_0 rfl ?_
  refine V_cS1 4 (c_Ga_isObject l G _ _ x) ok_Ga_isObject ml_Ga_206 st_Ga_isObject (gRm_ok (by decide) (by decide)) rfl rfl (Nat.le_of_ble_eq_true rfl) d_Ga_owner_1 ⟨Nat.le_of_ble_eq_true rfl, Nat.le_of_ble_eq_true rfl⟩ rfl ?_
  refine V_bz 16 7 d_Ga_owner_4 (by decide) rfl (fun h4 => ?_) (fun h4 => ?_)
  · refine V_iconst 17 (v := (-1)) (by decide) d_Ga_owner_16 rfl ?_
    exact V_iret rfl d_Ga_owner_17 ⟨by rw [if_neg h4], rfl, rfl⟩
  · obtain ⟨j, hj, hx⟩ := nI_rng0 (k := 6) (by decide) h4.1 (Int32.not_le.mp h4.2)
    refine V_al0 8 d_Ga_owner_7 rfl ?_
    refine V_getr 11 8 (lC2 hL) kc_Ga (by decide) fl_Ga_59 (Or.inl rfl) rfl d_Ga_owner_8 rfl ?_
    refine V_il1 12 d_Ga_owner_11 rfl ?_
    refine V_ialn 13 (j) (lC24 hL) hx hj (by decide) d_Ga_owner_12 rfl ?_
    refine V_goto 17 d_Ga_owner_13 (by decide) ?_
    exact V_iret rfl d_Ga_owner_17 ⟨by rw [if_pos h4, hx, nI_clamp (by omega)], rfl, rfl⟩
set_option maxRecDepth 100000 in
set_option maxHeartbeats 4000000 in
theorem c_Ga_credentials (l : Launch) (G : gG) (L : gLy) (M : gMe) (hL : gLC L) (c : Nat) (hH : gLH L c) (hs : M 5 1 = nI c) : gMet l G y_Ga_credentials b_Ga_credentials 1 (some FieldType.int) (rmL 3 0 0) [.ref 2] L M gAll (gPo (some (.int (M 5 1))) L M) 0 0 := by
  refine gMet_of (lv := [some (.ref 2)]) (by decide) rfl (Nat.le_of_ble_eq_true rfl) rfl ?_
  refine V_al0 1 d_Ga_credentials_0 rfl ?_
  refine V_getr 4 2 (lC2 hL) kc_Ga (by decide) fl_Ga_18 (Or.inl rfl) rfl d_Ga_credentials_1 rfl ?_
  refine V_cV1 7 (c_Cs_count l G _ _ hL c hH) ok_Cs_count ml_Ga_98 im_Cs_count se_Cs_count (lC4 hL) kc_Cs (gRm_ok (by decide) (by decide)) rfl rfl (Nat.le_of_ble_eq_true rfl) d_Ga_credentials_4 ⟨Nat.le_of_ble_eq_true rfl, Nat.le_of_ble_eq_true rfl⟩ rfl ?_
  exact V_iret rfl d_Ga_credentials_7 ⟨rfl, rfl, rfl⟩
set_option maxRecDepth 100000 in
set_option maxHeartbeats 4000000 in
theorem c_Ga_grants (l : Launch) (G : gG) (L : gLy) (M : gMe) (hL : gLC L) : gMet l G y_Ga_grants b_Ga_grants 1 (some FieldType.int) (rmL 2 0 0) [.ref 2] L M gAll (gPo (some (.int (M 22 0))) L M) 0 0 := by
  refine gMet_of (lv := [some (.ref 2)]) (by decide) rfl (Nat.le_of_ble_eq_true rfl) rfl ?_
  refine V_al0 1 d_Ga_grants_0 rfl ?_
  refine V_getr 4 6 (lC2 hL) kc_Ga (by decide) fl_Ga_48 (Or.inl rfl) rfl d_Ga_grants_1 rfl ?_
  refine V_cV1 7 (c_Lg_count l G _ _ hL) ok_Lg_count ml_Ga_212 im_Lg_count se_Lg_count (lC22 hL) kc_Lg (gRm_ok (by decide) (by decide)) rfl rfl (Nat.le_of_ble_eq_true rfl) d_Ga_grants_4 ⟨Nat.le_of_ble_eq_true rfl, Nat.le_of_ble_eq_true rfl⟩ rfl ?_
  exact V_iret rfl d_Ga_grants_7 ⟨rfl, rfl, rfl⟩
set_option maxRecDepth 100000 in
set_option maxHeartbeats 4000000 in
theorem c_Ga_chain (l : Launch) (G : gG) (L : gLy) (M : gMe) (hL : gLC L) : gMet l G y_Ga_chain b_Ga_chain 1 (some FieldType.int) (rmL 2 0 0) [.ref 2] L M gAll (gPo (some (.int (M 22 1))) L M) 0 0 := by
  refine gMet_of (lv := [some (.ref 2)]) (by decide) rfl (Nat.le_of_ble_eq_true rfl) rfl ?_
  refine V_al0 1 d_Ga_chain_0 rfl ?_
  refine V_getr 4 6 (lC2 hL) kc_Ga (by decide) fl_Ga_48 (Or.inl rfl) rfl d_Ga_chain_1 rfl ?_
  refine V_cV1 7 (c_Lg_link l G _ _ hL) ok_Lg_link ml_Ga_213 im_Lg_link se_Lg_link (lC22 hL) kc_Lg (gRm_ok (by decide) (by decide)) rfl rfl (Nat.le_of_ble_eq_true rfl) d_Ga_chain_4 ⟨Nat.le_of_ble_eq_true rfl, Nat.le_of_ble_eq_true rfl⟩ rfl ?_
  exact V_iret rfl d_Ga_chain_7 ⟨rfl, rfl, rfl⟩
abbrev pVd (M : gMe) (c : Nat) (x : Int32) : Prop := ¬ x < 1 ∧ ¬ nI c < x ∧ pVal M (cP x.toNatClampNeg) (M 4 1)
set_option maxRecDepth 100000 in
set_option maxHeartbeats 4000000 in
theorem c_Ga_valid_none (l : Launch) (G : gG) (L : gLy) (M : gMe) (hL : gLC L) (c : Nat) (hH : gLH L c) (hs : M 5 1 = nI c) (hc : c < 100) (x : Int32) (hx : x < 1 ∨ nI c < x) : gMet l G y_Ga_valid b_Ga_valid 2 (some FieldType.boolean) (rmL 6 0 0) [.ref 2, .int x] L M gAll (gPo (some (.int 0)) L M) 0 0 := by
  refine gMet_of (lv := [some (.ref 2), some (.int x)]) (by decide) rfl (Nat.le_of_ble_eq_true rfl) rfl ?_
  refine V_al0 1 d_Ga_valid_0 rfl ?_
  refine V_getr 4 2 (lC2 hL) kc_Ga (by decide) fl_Ga_18 (Or.inl rfl) rfl d_Ga_valid_1 rfl ?_
  refine V_il1 5 d_Ga_valid_4 rfl ?_
  refine V_cV1 8 (c_Cs_findValid_none l G _ _ hL c hH hs x hx) ok_Cs_findValid ml_Ga_209 im_Cs_findValid se_Cs_findValid (lC4 hL) kc_Cs (gRm_ok (by decide) (by decide)) rfl rfl (Nat.le_of_ble_eq_true rfl) d_Ga_valid_5 ⟨Nat.le_of_ble_eq_true rfl, Nat.le_of_ble_eq_true rfl⟩ rfl ?_
  refine V_nulN 15 d_Ga_valid_8 (by decide) ?_
  refine V_iconst 16 (v := 0) (by decide) d_Ga_valid_15 rfl ?_
  exact V_zret rfl rfl d_Ga_valid_16 ⟨rfl, rfl, rfl⟩
set_option maxRecDepth 100000 in
set_option maxHeartbeats 4000000 in
theorem c_Ga_valid_inv (l : Launch) (G : gG) (L : gLy) (M : gMe) (hL : gLC L) (c : Nat) (hH : gLH L c) (hs : M 5 1 = nI c) (hc : c < 100) (n : Nat) (h1 : 1 ≤ n) (hn : n ≤ c) (hv : ¬ pVal M (cP n) (M 4 1)) : gMet l G y_Ga_valid b_Ga_valid 2 (some FieldType.boolean) (rmL 6 0 0) [.ref 2, .int (nI n)] L M gAll (gPo (some (.int 0)) L M) 0 0 := by
  refine gMet_of (lv := [some (.ref 2), some (.int (nI n))]) (by decide) rfl (Nat.le_of_ble_eq_true rfl) rfl ?_
  refine V_al0 1 d_Ga_valid_0 rfl ?_
  refine V_getr 4 2 (lC2 hL) kc_Ga (by decide) fl_Ga_18 (Or.inl rfl) rfl d_Ga_valid_1 rfl ?_
  refine V_il1 5 d_Ga_valid_4 rfl ?_
  refine V_cV1 8 (c_Cs_findValid_inv l G _ _ hL c hH hs hc n h1 hn hv) ok_Cs_findValid ml_Ga_209 im_Cs_findValid se_Cs_findValid (lC4 hL) kc_Cs (gRm_ok (by decide) (by decide)) rfl rfl (Nat.le_of_ble_eq_true rfl) d_Ga_valid_5 ⟨Nat.le_of_ble_eq_true rfl, Nat.le_of_ble_eq_true rfl⟩ rfl ?_
  refine V_nulN 15 d_Ga_valid_8 (by decide) ?_
  refine V_iconst 16 (v := 0) (by decide) d_Ga_valid_15 rfl ?_
  exact V_zret rfl rfl d_Ga_valid_16 ⟨rfl, rfl, rfl⟩
set_option maxRecDepth 100000 in
set_option maxHeartbeats 4000000 in
theorem c_Ga_valid_ok (l : Launch) (G : gG) (L : gLy) (M : gMe) (hL : gLC L) (c : Nat) (hH : gLH L c) (hs : M 5 1 = nI c) (hc : c < 100) (n : Nat) (h1 : 1 ≤ n) (hn : n ≤ c) (hv : pVal M (cP n) (M 4 1)) : gMet l G y_Ga_valid b_Ga_valid 2 (some FieldType.boolean) (rmL 6 0 0) [.ref 2, .int (nI n)] L M gAll (gPo (some (.int 1)) L M) 0 0 := by
  refine gMet_of (lv := [some (.ref 2), some (.int (nI n))]) (by decide) rfl (Nat.le_of_ble_eq_true rfl) rfl ?_
  refine V_al0 1 d_Ga_valid_0 rfl ?_
  refine V_getr 4 2 (lC2 hL) kc_Ga (by decide) fl_Ga_18 (Or.inl rfl) rfl d_Ga_valid_1 rfl ?_
  refine V_il1 5 d_Ga_valid_4 rfl ?_
  refine V_cV1 8 (c_Cs_findValid l G _ _ hL c hH hs hc n h1 hn hv) ok_Cs_findValid ml_Ga_209 im_Cs_findValid se_Cs_findValid (lC4 hL) kc_Cs (gRm_ok (by decide) (by decide)) rfl rfl (Nat.le_of_ble_eq_true rfl) d_Ga_valid_5 ⟨Nat.le_of_ble_eq_true rfl, Nat.le_of_ble_eq_true rfl⟩ rfl ?_
  refine V_nul 11 d_Ga_valid_8 rfl ?_
  refine V_iconst 12 (v := 1) (by decide) d_Ga_valid_11 rfl ?_
  refine V_goto 16 d_Ga_valid_12 (by decide) ?_
  exact V_zret rfl rfl d_Ga_valid_16 ⟨rfl, rfl, rfl⟩
theorem c_Ga_valid (l : Launch) (G : gG) (L : gLy) (M : gMe) (hL : gLC L) (c : Nat) (hH : gLH L c) (hs : M 5 1 = nI c) (hc : c < 100) (x : Int32) : gMet l G y_Ga_valid b_Ga_valid 2 (some FieldType.boolean) (rmL 6 0 0) [.ref 2, .int x] L M gAll (gPo (some (.int (bi (pVd M c x)))) L M) 0 0 := by
  by_cases hx : x < 1 ∨ nI c < x
  · rw [bi_f (fun h => hx.elim h.1 h.2.1)]; exact c_Ga_valid_none l G L M hL c hH hs hc x hx
  · obtain ⟨n, h1, hn, rfl⟩ := nI_rng hc (fun h => hx (Or.inl h)) (fun h => hx (Or.inr h))
    have hcl : (nI n).toNatClampNeg = n := nI_clamp (by omega)
    by_cases hv : pVal M (cP n) (M 4 1)
    · rw [bi_t ⟨fun h => hx (Or.inl h), fun h => hx (Or.inr h), by rw [hcl]; exact hv⟩]; exact c_Ga_valid_ok l G L M hL c hH hs hc n h1 hn hv
    · rw [bi_f (fun h => hv (by have := h.2.2; rw [hcl] at this; exact this))]; exact c_Ga_valid_inv l G L M hL c hH hs hc n h1 hn hv
abbrev pFuse (n : Int32) : Prop := ¬ n < 0 ∧ n ≤ 50
def fuM (M : gMe) (n : Int32) : gMe := if pFuse n then gst M 23 0 n else M
set_option maxRecDepth 100000 in
set_option maxHeartbeats 4000000 in
theorem c_Ga_fuse (l : Launch) (G : gG) (L : gLy) (M : gMe) (hL : gLC L) (n : Int32) : gMet l G y_Ga_fuse b_Ga_fuse 2 (some FieldType.boolean) (rmL 2 0 0) [.ref 2, .int n] L M gAll (gPo (some (.int (bi (pFuse n)))) L (fuM M n)) 0 0 := by
  refine gMet_of (lv := [some (.ref 2), some (.int n)]) (by decide) rfl (Nat.le_of_ble_eq_true rfl) rfl ?_
  refine V_il1 1 d_Ga_fuse_0 rfl ?_
  refine V_if_lt 10 4 d_Ga_fuse_1 (by decide) rfl (fun h1 => ?_) (fun h1 => ?_)
  · refine V_iconst 11 (v := 0) (by decide) d_Ga_fuse_10 rfl ?_
    exact V_zret rfl rfl d_Ga_fuse_11 (by have g : ¬ pFuse n := fun h => h.1 h1; exact ⟨by rw [bi_f g], rfl, by rw [fuM, if_neg g]⟩)
  · refine V_il1 5 d_Ga_fuse_4 rfl ?_
    refine V_bipush 7 (v := 50) (by decide) d_Ga_fuse_5 rfl ?_
    refine V_icmp_le 12 10 d_Ga_fuse_7 (by decide) rfl (fun h7 => ?_) (fun h7 => ?_)
    · refine V_al0 13 d_Ga_fuse_12 rfl ?_
      refine V_getr 16 7 (lC2 hL) kc_Ga (by decide) fl_Ga_55 (Or.inl rfl) rfl d_Ga_fuse_13 rfl ?_
      refine V_il1 17 d_Ga_fuse_16 rfl ?_
      refine V_cV0 20 (c_Fu_light l G _ _ hL n) ok_Fu_light ml_Ga_202 im_Fu_light se_Fu_light (lC23 hL) kc_Fu (gRm_ok (by decide) (by decide)) rfl rfl (Nat.le_of_ble_eq_true rfl) d_Ga_fuse_17 ⟨Nat.le_of_ble_eq_true rfl, Nat.le_of_ble_eq_true rfl⟩ rfl ?_
      refine V_iconst 21 (v := 1) (by decide) d_Ga_fuse_20 rfl ?_
      exact V_zret rfl rfl d_Ga_fuse_21 (by have g : pFuse n := ⟨h1, h7⟩; exact ⟨by rw [bi_t g], rfl, by rw [fuM, if_pos g]⟩)
    · refine V_iconst 11 (v := 0) (by decide) d_Ga_fuse_10 rfl ?_
      exact V_zret rfl rfl d_Ga_fuse_11 (by have g : ¬ pFuse n := fun h => h7 h.2; exact ⟨by rw [bi_f g], rfl, by rw [fuM, if_neg g]⟩)
theorem pNamed_nI {p r o : Nat} (hp : p < 6) (hr : r < 4) (ho : o < 6) : pNamed (nI p) (nI r) (nI o) := ⟨⟨nI_pos (by omega), nI_ge (b := 6) hp (by decide)⟩, nI_pos (by omega), nI_ge (b := 4) hr (by decide), nI_pos (by omega), nI_ge (b := 6) ho (by decide)⟩
theorem pNamed_of {p r o : Int32} (h : pNamed p r o) : ∃ p' r' o' : Nat, p' < 6 ∧ r' < 4 ∧ o' < 6 ∧ p = nI p' ∧ r = nI r' ∧ o = nI o' := by
  obtain ⟨⟨a, b⟩, c, d, e, f⟩ := h
  obtain ⟨p', h1, rfl⟩ := nI_rng0 (k := 6) (by decide) a (Int32.not_le.mp b)
  obtain ⟨r', h2, rfl⟩ := nI_rng0 (k := 4) (by decide) c (Int32.not_le.mp d)
  obtain ⟨o', h3, rfl⟩ := nI_rng0 (k := 6) (by decide) e (Int32.not_le.mp f)
  exact ⟨p', r', o', h1, h2, h3, rfl, rfl, rfl⟩
set_option maxRecDepth 100000 in
set_option maxHeartbeats 4000000 in
theorem c_Ga_check_no (l : Launch) (G : gG) (L : gLy) (M : gMe) (hL : gLC L) (p r o : Int32) (h : ¬ pNamed p r o) : gMet l G y_Ga_check b_Ga_check 4 (some FieldType.boolean) (rmL 45 0 0) [.ref 2, .int p, .int r, .int o] L M gAll (gPo (some (.int (0))) L M) 0 0 := by
  refine gMet_of (lv := [some (.ref 2), some (.int p), some (.int r), some (.int o)]) (by decide) rfl (Nat.le_of_ble_eq_true rfl) rfl ?_
  refine V_il1 1 d_Ga_check_0 rfl ?_
  refine V_il2 2 d_Ga_check_1 rfl ?_
  refine V_il3 3 d_Ga_check_2 rfl ?_
  refine V_cS1 6 (c_Ga_isNamed l G _ _ p r o) ok_Ga_isNamed ml_Ga_158 st_Ga_isNamed (gRm_ok (by decide) (by decide)) rfl rfl (Nat.le_of_ble_eq_true rfl) d_Ga_check_3 ⟨Nat.le_of_ble_eq_true rfl, Nat.le_of_ble_eq_true rfl⟩ rfl ?_
  refine V_bz 45 9 d_Ga_check_6 (by decide) rfl (fun _ => ?_) (fun h9 => absurd h9 h)
  refine V_iconst 46 (v := 0) (by decide) d_Ga_check_45 rfl ?_
  exact V_zret rfl rfl d_Ga_check_46 ⟨rfl, rfl, rfl⟩
set_option maxRecDepth 100000 in
set_option maxHeartbeats 4000000 in
theorem c_Ga_check_shut (l : Launch) (G : gG) (L : gLy) (M : gMe) (hL : gLC L) (p r o : Nat) (hp : p < 6) (hr : r < 4) (ho : o < 6) (h : ¬ pOpen M (nI r) o) : gMet l G y_Ga_check b_Ga_check 4 (some FieldType.boolean) (rmL 45 0 0) [.ref 2, .int (nI p), .int (nI r), .int (nI o)] L M gAll (gPo (some (.int (0))) L M) 0 0 := by
  refine gMet_of (lv := [some (.ref 2), some (.int (nI p)), some (.int (nI r)), some (.int (nI o))]) (by decide) rfl (Nat.le_of_ble_eq_true rfl) rfl ?_
  refine V_il1 1 d_Ga_check_0 rfl ?_
  refine V_il2 2 d_Ga_check_1 rfl ?_
  refine V_il3 3 d_Ga_check_2 rfl ?_
  refine V_cS1 6 (c_Ga_isNamed l G _ _ _ _ _) ok_Ga_isNamed ml_Ga_158 st_Ga_isNamed (gRm_ok (by decide) (by decide)) rfl rfl (Nat.le_of_ble_eq_true rfl) d_Ga_check_3 ⟨Nat.le_of_ble_eq_true rfl, Nat.le_of_ble_eq_true rfl⟩ rfl ?_
  refine V_bz 45 9 d_Ga_check_6 (by decide) rfl (fun h9 => absurd (pNamed_nI hp hr ho) h9) (fun _ => ?_)
  refine V_al0 10 d_Ga_check_9 rfl ?_
  refine V_il2 11 d_Ga_check_10 rfl ?_
  refine V_il3 12 d_Ga_check_11 rfl ?_
  refine V_cV1 15 (c_Ga_isOpenTo l G _ _ hL (nI r) o ho) ok_Ga_isOpenTo ml_Ga_162 im_Ga_isOpenTo se_Ga_isOpenTo (lC2 hL) kc_Ga (gRm_ok (by decide) (by decide)) rfl rfl (Nat.le_of_ble_eq_true rfl) d_Ga_check_12 ⟨Nat.le_of_ble_eq_true rfl, Nat.le_of_ble_eq_true rfl⟩ rfl ?_
  refine V_bz 45 18 d_Ga_check_15 (by decide) rfl (fun _ => ?_) (fun h9 => absurd h9 h)
  refine V_iconst 46 (v := 0) (by decide) d_Ga_check_45 rfl ?_
  exact V_zret rfl rfl d_Ga_check_46 ⟨rfl, rfl, rfl⟩
set_option maxRecDepth 100000 in
set_option maxHeartbeats 4000000 in
theorem c_Ga_prove_no (l : Launch) (G : gG) (L : gLy) (M : gMe) (hL : gLC L) (p r o : Int32) (h : ¬ pNamed p r o) : gMet l G y_Ga_prove b_Ga_prove 5 (some FieldType.int) (rmL 45 0 0) [.ref 2, .int p, .int r, .int o] L M gAll (gPo (some (.int (-1))) L M) 0 0 := by
  refine gMet_of (lv := [some (.ref 2), some (.int p), some (.int r), some (.int o), none]) (by decide) rfl (Nat.le_of_ble_eq_true rfl) rfl ?_
  refine V_il1 1 d_Ga_prove_0 rfl ?_
  refine V_il2 2 d_Ga_prove_1 rfl ?_
  refine V_il3 3 d_Ga_prove_2 rfl ?_
  refine V_cS1 6 (c_Ga_isNamed l G _ _ p r o) ok_Ga_isNamed ml_Ga_158 st_Ga_isNamed (gRm_ok (by decide) (by decide)) rfl rfl (Nat.le_of_ble_eq_true rfl) d_Ga_prove_3 ⟨Nat.le_of_ble_eq_true rfl, Nat.le_of_ble_eq_true rfl⟩ rfl ?_
  refine V_bz 18 9 d_Ga_prove_6 (by decide) rfl (fun _ => ?_) (fun h9 => absurd h9 h)
  refine V_iconst 19 (v := (-1)) (by decide) d_Ga_prove_18 rfl ?_
  exact V_iret rfl d_Ga_prove_19 ⟨rfl, rfl, rfl⟩
set_option maxRecDepth 100000 in
set_option maxHeartbeats 4000000 in
theorem c_Ga_prove_shut (l : Launch) (G : gG) (L : gLy) (M : gMe) (hL : gLC L) (p r o : Nat) (hp : p < 6) (hr : r < 4) (ho : o < 6) (h : ¬ pOpen M (nI r) o) : gMet l G y_Ga_prove b_Ga_prove 5 (some FieldType.int) (rmL 45 0 0) [.ref 2, .int (nI p), .int (nI r), .int (nI o)] L M gAll (gPo (some (.int (-1))) L M) 0 0 := by
  refine gMet_of (lv := [some (.ref 2), some (.int (nI p)), some (.int (nI r)), some (.int (nI o)), none]) (by decide) rfl (Nat.le_of_ble_eq_true rfl) rfl ?_
  refine V_il1 1 d_Ga_prove_0 rfl ?_
  refine V_il2 2 d_Ga_prove_1 rfl ?_
  refine V_il3 3 d_Ga_prove_2 rfl ?_
  refine V_cS1 6 (c_Ga_isNamed l G _ _ _ _ _) ok_Ga_isNamed ml_Ga_158 st_Ga_isNamed (gRm_ok (by decide) (by decide)) rfl rfl (Nat.le_of_ble_eq_true rfl) d_Ga_prove_3 ⟨Nat.le_of_ble_eq_true rfl, Nat.le_of_ble_eq_true rfl⟩ rfl ?_
  refine V_bz 18 9 d_Ga_prove_6 (by decide) rfl (fun h9 => absurd (pNamed_nI hp hr ho) h9) (fun _ => ?_)
  refine V_al0 10 d_Ga_prove_9 rfl ?_
  refine V_il2 11 d_Ga_prove_10 rfl ?_
  refine V_il3 12 d_Ga_prove_11 rfl ?_
  refine V_cV1 15 (c_Ga_isOpenTo l G _ _ hL (nI r) o ho) ok_Ga_isOpenTo ml_Ga_162 im_Ga_isOpenTo se_Ga_isOpenTo (lC2 hL) kc_Ga (gRm_ok (by decide) (by decide)) rfl rfl (Nat.le_of_ble_eq_true rfl) d_Ga_prove_12 ⟨Nat.le_of_ble_eq_true rfl, Nat.le_of_ble_eq_true rfl⟩ rfl ?_
  refine V_bn 20 18 d_Ga_prove_15 (by decide) rfl (fun h9 => absurd h9 h) (fun _ => ?_)
  refine V_iconst 19 (v := (-1)) (by decide) d_Ga_prove_18 rfl ?_
  exact V_iret rfl d_Ga_prove_19 ⟨rfl, rfl, rfl⟩
theorem apR_1 {c n : Nat} {M : gMe} {a p r o : Int32} (h : ¬ (apR c n M a p r o).1 = 0) : (apR c n M a p r o).1 = 1 := by
  unfold apR at h ⊢
  split at h
  · exact absurd rfl h
  · rename_i h9
    rw [if_neg h9]
    by_cases hb : 0 < n ∧ pMay (acR c n 0 M).2 (100 + (n - 1)) a p r o
    · exact bi_t hb
    · exact absurd (bi_f hb) h
set_option maxRecDepth 100000 in
set_option maxHeartbeats 4000000 in
theorem c_Ga_check (l : Launch) (G : gG) (L : gLy) (M : gMe) (hL : gLC L) (c : Nat) (hH : gLH L c) (hs : M 5 1 = nI c) (hc : c < 100) (n : Nat) (hn : M 6 3 = nI n) (hn4 : n ≤ 40) (p r o : Nat) (hp : p < 6) (hr : r < 4) (ho : o < 6) (a : Nat) (ha : (if nI r = 3 then 0 else M 24 o) = nI a) (h : pOpen M (nI r) o) : gMet l G y_Ga_check b_Ga_check 4 (some FieldType.boolean) (rmL 45 0 0) [.ref 2, .int (nI p), .int (nI r), .int (nI o)] L M gAll (gPo (some (.int (apR c n M (nI a) (nI p) (nI r) (nI o)).1)) L (apR c n M (nI a) (nI p) (nI r) (nI o)).2) 0 0 := by
  refine gMet_of (lv := [some (.ref 2), some (.int (nI p)), some (.int (nI r)), some (.int (nI o))]) (by decide) rfl (Nat.le_of_ble_eq_true rfl) rfl ?_
  refine V_il1 1 d_Ga_check_0 rfl ?_
  refine V_il2 2 d_Ga_check_1 rfl ?_
  refine V_il3 3 d_Ga_check_2 rfl ?_
  refine V_cS1 6 (c_Ga_isNamed l G _ _ _ _ _) ok_Ga_isNamed ml_Ga_158 st_Ga_isNamed (gRm_ok (by decide) (by decide)) rfl rfl (Nat.le_of_ble_eq_true rfl) d_Ga_check_3 ⟨Nat.le_of_ble_eq_true rfl, Nat.le_of_ble_eq_true rfl⟩ rfl ?_
  refine V_bz 45 9 d_Ga_check_6 (by decide) rfl (fun h9 => absurd (pNamed_nI hp hr ho) h9) (fun _ => ?_)
  refine V_al0 10 d_Ga_check_9 rfl ?_
  refine V_il2 11 d_Ga_check_10 rfl ?_
  refine V_il3 12 d_Ga_check_11 rfl ?_
  refine V_cV1 15 (c_Ga_isOpenTo l G _ _ hL (nI r) o ho) ok_Ga_isOpenTo ml_Ga_162 im_Ga_isOpenTo se_Ga_isOpenTo (lC2 hL) kc_Ga (gRm_ok (by decide) (by decide)) rfl rfl (Nat.le_of_ble_eq_true rfl) d_Ga_check_12 ⟨Nat.le_of_ble_eq_true rfl, Nat.le_of_ble_eq_true rfl⟩ rfl ?_
  refine V_bz 45 18 d_Ga_check_15 (by decide) rfl (fun h9 => absurd h h9) (fun _ => ?_)
  refine V_al0 19 d_Ga_check_18 rfl ?_
  refine V_getr 22 5 (lC2 hL) kc_Ga (by decide) fl_Ga_41 (Or.inl rfl) rfl d_Ga_check_19 rfl ?_
  refine V_al0 23 d_Ga_check_22 rfl ?_
  refine V_getr 26 3 (lC2 hL) kc_Ga (by decide) fl_Ga_25 (Or.inl rfl) rfl d_Ga_check_23 rfl ?_
  refine V_al0 27 d_Ga_check_26 rfl ?_
  refine V_il2 28 d_Ga_check_27 rfl ?_
  refine V_il3 29 d_Ga_check_28 rfl ?_
  refine V_cV1 32 (c_Ga_sayerOfGoal l G _ _ hL (nI r) o ho) ok_Ga_sayerOfGoal ml_Ga_166 im_Ga_sayerOfGoal se_Ga_sayerOfGoal (lC2 hL) kc_Ga (gRm_ok (by decide) (by decide)) rfl rfl (Nat.le_of_ble_eq_true rfl) d_Ga_check_29 ⟨Nat.le_of_ble_eq_true rfl, Nat.le_of_ble_eq_true rfl⟩ rfl ?_
  refine V_topi ha ?_
  refine V_il1 33 d_Ga_check_32 rfl ?_
  refine V_il2 34 d_Ga_check_33 rfl ?_
  refine V_il3 35 d_Ga_check_34 rfl ?_
  refine V_cV1 38 (c_Ck_accepts l G _ _ hL c hH hs hc n hn hn4 _ _ _ _) ok_Ck_accepts ml_Ga_182 im_Ck_accepts se_Ck_accepts (lC20 hL) kc_Ck (gRm_ok (by decide) (by decide)) rfl rfl (Nat.le_of_ble_eq_true rfl) d_Ga_check_35 ⟨Nat.le_of_ble_eq_true rfl, Nat.le_of_ble_eq_true rfl⟩ rfl ?_
  refine V_if_eq 45 41 d_Ga_check_38 (by decide) rfl (fun h38 => ?_) (fun h38 => ?_)
  · refine V_iconst 46 (v := 0) (by decide) d_Ga_check_45 rfl ?_
    exact V_zret rfl rfl d_Ga_check_46 ⟨by rw [h38], rfl, rfl⟩
  · refine V_iconst 42 (v := 1) (by decide) d_Ga_check_41 rfl ?_
    refine V_goto 46 d_Ga_check_42 (by decide) ?_
    exact V_zret rfl rfl d_Ga_check_46 ⟨by rw [apR_1 h38], rfl, rfl⟩
def uuR (c n : Nat) (M : gMe) (a p r o : Int32) : Int32 := if (apR c n M a p r o).1 = 0 then 0 else (apR c n M a p r o).2 6 3
set_option maxRecDepth 100000 in
set_option maxHeartbeats 4000000 in
theorem c_Ga_useUpDraft (l : Launch) (G : gG) (L : gLy) (M : gMe) (hL : gLC L) (c : Nat) (hH : gLH L c) (hs : M 5 1 = nI c) (hc : c < 100) (n : Nat) (hn : M 6 3 = nI n) (hn4 : n ≤ 40) (p r o : Nat) (hp : p < 6) (hr : r < 4) (ho : o < 6) (a : Nat) (ha : (if nI r = 3 then 0 else M 24 o) = nI a) : gMet l G y_Ga_useUpDraft b_Ga_useUpDraft 6 (some FieldType.int) (rmL 8 0 0) [.ref 2, .int (nI p), .int (nI r), .int (nI o)] L M gAll (gPo (some (.int (uuR c n M (nI a) (nI p) (nI r) (nI o)))) L (gst (apR c n M (nI a) (nI p) (nI r) (nI o)).2 6 3 0)) 0 0 := by
  refine gMet_of (lv := [some (.ref 2), some (.int (nI p)), some (.int (nI r)), some (.int (nI o)), none, none]) (by decide) rfl (Nat.le_of_ble_eq_true rfl) rfl ?_
  refine V_al0 1 d_Ga_useUpDraft_0 rfl ?_
  refine V_getr 4 5 (lC2 hL) kc_Ga (by decide) fl_Ga_41 (Or.inl rfl) rfl d_Ga_useUpDraft_1 rfl ?_
  refine V_al0 5 d_Ga_useUpDraft_4 rfl ?_
  refine V_getr 8 3 (lC2 hL) kc_Ga (by decide) fl_Ga_25 (Or.inl rfl) rfl d_Ga_useUpDraft_5 rfl ?_
  refine V_al0 9 d_Ga_useUpDraft_8 rfl ?_
  refine V_il2 10 d_Ga_useUpDraft_9 rfl ?_
  refine V_il3 11 d_Ga_useUpDraft_10 rfl ?_
  refine V_cV1 14 (c_Ga_sayerOfGoal l G _ _ hL (nI r) o ho) ok_Ga_sayerOfGoal ml_Ga_166 im_Ga_sayerOfGoal se_Ga_sayerOfGoal (lC2 hL) kc_Ga (gRm_ok (by decide) (by decide)) rfl rfl (Nat.le_of_ble_eq_true rfl) d_Ga_useUpDraft_11 ⟨Nat.le_of_ble_eq_true rfl, Nat.le_of_ble_eq_true rfl⟩ rfl ?_
  refine V_topi ha ?_
  refine V_il1 15 d_Ga_useUpDraft_14 rfl ?_
  refine V_il2 16 d_Ga_useUpDraft_15 rfl ?_
  refine V_il3 17 d_Ga_useUpDraft_16 rfl ?_
  refine V_cV1 20 (c_Ck_accepts l G _ _ hL c hH hs hc n hn hn4 _ _ _ _) ok_Ck_accepts ml_Ga_182 im_Ck_accepts se_Ck_accepts (lC20 hL) kc_Ck (gRm_ok (by decide) (by decide)) rfl rfl (Nat.le_of_ble_eq_true rfl) d_Ga_useUpDraft_17 ⟨Nat.le_of_ble_eq_true rfl, Nat.le_of_ble_eq_true rfl⟩ rfl ?_
  refine V_is4 22 d_Ga_useUpDraft_20 (by decide) rfl ?_
  refine V_al0 23 d_Ga_useUpDraft_22 rfl ?_
  refine V_getr 26 3 (lC2 hL) kc_Ga (by decide) fl_Ga_25 (Or.inl rfl) rfl d_Ga_useUpDraft_23 rfl ?_
  refine V_cV1 29 (c_Pf_makeEmpty l G _ _ 6 (lC6 hL)) ok_Pf_makeEmpty ml_Ga_139 im_Pf_makeEmpty se_Pf_makeEmpty (lC6 hL).1 kc_Pf (gRm_ok (by decide) (by decide)) rfl rfl (Nat.le_of_ble_eq_true rfl) d_Ga_useUpDraft_26 ⟨Nat.le_of_ble_eq_true rfl, Nat.le_of_ble_eq_true rfl⟩ rfl ?_
  refine V_is5 31 d_Ga_useUpDraft_29 (by decide) rfl ?_
  refine V_il4 33 d_Ga_useUpDraft_31 rfl ?_
  refine V_if_eq 41 36 d_Ga_useUpDraft_33 (by decide) rfl (fun h33 => ?_) (fun h33 => ?_)
  · refine V_iconst 42 (v := 0) (by decide) d_Ga_useUpDraft_41 rfl ?_
    exact V_iret rfl d_Ga_useUpDraft_42 ⟨by rw [uuR, if_pos h33], rfl, rfl⟩
  · refine V_il5 38 d_Ga_useUpDraft_36 rfl ?_
    refine V_goto 42 d_Ga_useUpDraft_38 (by decide) ?_
    exact V_iret rfl d_Ga_useUpDraft_42 ⟨by rw [uuR, if_neg h33], rfl, rfl⟩
def prM (K : Nat → Nat → Nat) (o c g : Nat) (M : gMe) : gMe := if (wpR K o c g M).1 ≤ 0 then (wpR K o c g M).2 else pfBec (wpR K o c g M).2 (wpR K o c g M).1.toNatClampNeg
theorem wpR_len {K : Nat → Nat → Nat} {o c g : Nat} {M : gMe} (h : ¬ (wpR K o c g M).1 ≤ 0) : ∃ n, n ≤ 40 ∧ (wpR K o c g M).1 = nI n ∧ (wpR K o c g M).2 11 3 = nI n := by
  unfold wpR at h ⊢
  split at h
  · exact absurd (show (-2 : Int32) ≤ 0 by decide) h
  · rename_i h1
    rw [if_neg h1]
    split at h
    · exact absurd (show (-3 : Int32) ≤ 0 by decide) h
    · rename_i h2
      rw [if_neg h2]
      obtain ⟨n, hn, hm⟩ := (wsR_ws 40 (wp3 (fdM K o c g M)) g wp3_3).2
      exact ⟨n, hn, hm, hm⟩
set_option maxRecDepth 100000 in
set_option maxHeartbeats 4000000 in
theorem c_Ga_prove (l : Launch) (G : gG) (L : gLy) (M : gMe) (hL : gLC L) (c : Nat) (hH : gLH L c) (hs : M 5 1 = nI c) (hc : c < 100) (K : Nat → Nat → Nat) (hK : gCW M c K) (p r o : Nat) (hp : p < 6) (hr : r < 4) (ho : o < 6) (a : Nat) (ha : (if nI r = 3 then 0 else M 24 o) = nI a) (h6 : a < 6) (S : Nat → Prop) (hRe : gRe (fdM K o c (mayN a p r) M) S) (hSg : ¬ fdM K o c (mayN a p r) M 15 (mayN a p r) = 0 → S (mayN a p r)) (h : pOpen M (nI r) o) : gMet l G y_Ga_prove b_Ga_prove 5 (some FieldType.int) (rmL 45 0 0) [.ref 2, .int (nI p), .int (nI r), .int (nI o)] L M gAll (gPo (some (.int (wpR K o c (mayN a p r) M).1)) L (prM K o c (mayN a p r) M)) 0 0 := by
  refine gMet_of (lv := [some (.ref 2), some (.int (nI p)), some (.int (nI r)), some (.int (nI o)), none]) (by decide) rfl (Nat.le_of_ble_eq_true rfl) rfl ?_
  refine V_il1 1 d_Ga_prove_0 rfl ?_
  refine V_il2 2 d_Ga_prove_1 rfl ?_
  refine V_il3 3 d_Ga_prove_2 rfl ?_
  refine V_cS1 6 (c_Ga_isNamed l G _ _ _ _ _) ok_Ga_isNamed ml_Ga_158 st_Ga_isNamed (gRm_ok (by decide) (by decide)) rfl rfl (Nat.le_of_ble_eq_true rfl) d_Ga_prove_3 ⟨Nat.le_of_ble_eq_true rfl, Nat.le_of_ble_eq_true rfl⟩ rfl ?_
  refine V_bz 18 9 d_Ga_prove_6 (by decide) rfl (fun h9 => absurd (pNamed_nI hp hr ho) h9) (fun _ => ?_)
  refine V_al0 10 d_Ga_prove_9 rfl ?_
  refine V_il2 11 d_Ga_prove_10 rfl ?_
  refine V_il3 12 d_Ga_prove_11 rfl ?_
  refine V_cV1 15 (c_Ga_isOpenTo l G _ _ hL (nI r) o ho) ok_Ga_isOpenTo ml_Ga_162 im_Ga_isOpenTo se_Ga_isOpenTo (lC2 hL) kc_Ga (gRm_ok (by decide) (by decide)) rfl rfl (Nat.le_of_ble_eq_true rfl) d_Ga_prove_12 ⟨Nat.le_of_ble_eq_true rfl, Nat.le_of_ble_eq_true rfl⟩ rfl ?_
  refine V_bn 20 18 d_Ga_prove_15 (by decide) rfl (fun _ => ?_) (fun h9 => absurd h h9)
  refine V_al0 21 d_Ga_prove_20 rfl ?_
  refine V_getr 24 4 (lC2 hL) kc_Ga (by decide) fl_Ga_34 (Or.inl rfl) rfl d_Ga_prove_21 rfl ?_
  refine V_al0 25 d_Ga_prove_24 rfl ?_
  refine V_il2 26 d_Ga_prove_25 rfl ?_
  refine V_il3 27 d_Ga_prove_26 rfl ?_
  refine V_cV1 30 (c_Ga_sayerOfGoal l G _ _ hL (nI r) o ho) ok_Ga_sayerOfGoal ml_Ga_166 im_Ga_sayerOfGoal se_Ga_sayerOfGoal (lC2 hL) kc_Ga (gRm_ok (by decide) (by decide)) rfl rfl (Nat.le_of_ble_eq_true rfl) d_Ga_prove_27 ⟨Nat.le_of_ble_eq_true rfl, Nat.le_of_ble_eq_true rfl⟩ rfl ?_
  refine V_topi ha ?_
  refine V_il1 31 d_Ga_prove_30 rfl ?_
  refine V_il2 32 d_Ga_prove_31 rfl ?_
  refine V_il3 33 d_Ga_prove_32 rfl ?_
  refine V_cV1 36 (c_Pv_writeProof l G _ _ hL c hH hs hc K hK a p r o h6 hp hr ho S hRe hSg) ok_Pv_writeProof ml_Ga_170 im_Pv_writeProof se_Pv_writeProof (lC10 hL) kc_Pv (gRm_ok (by decide) (by decide)) rfl rfl (Nat.le_of_ble_eq_true rfl) d_Ga_prove_33 ⟨Nat.le_of_ble_eq_true rfl, Nat.le_of_ble_eq_true rfl⟩ rfl ?_
  refine V_is4 38 d_Ga_prove_36 (by decide) rfl ?_
  refine V_il4 40 d_Ga_prove_38 rfl ?_
  refine V_if_le 57 43 d_Ga_prove_40 (by decide) rfl (fun h40 => ?_) (fun h40 => ?_)
  · refine V_il4 59 d_Ga_prove_57 rfl ?_
    exact V_iret rfl d_Ga_prove_59 ⟨rfl, rfl, by rw [prM, if_pos h40]⟩
  · obtain ⟨n9, hn9, he9, hm9⟩ := wpR_len h40
    refine V_al0 44 d_Ga_prove_43 rfl ?_
    refine V_getr 47 3 (lC2 hL) kc_Ga (by decide) fl_Ga_25 (Or.inl rfl) rfl d_Ga_prove_44 rfl ?_
    refine V_al0 48 d_Ga_prove_47 rfl ?_
    refine V_getr 51 4 (lC2 hL) kc_Ga (by decide) fl_Ga_34 (Or.inl rfl) rfl d_Ga_prove_48 rfl ?_
    refine V_cV1 54 (c_Pv_written l G _ _ hL) ok_Pv_written ml_Ga_174 im_Pv_written se_Pv_written (lC10 hL) kc_Pv (gRm_ok (by decide) (by decide)) rfl rfl (Nat.le_of_ble_eq_true rfl) d_Ga_prove_51 ⟨Nat.le_of_ble_eq_true rfl, Nat.le_of_ble_eq_true rfl⟩ rfl ?_
    refine V_cV0 57 (c_Pf_become l G _ _ hL n9 hm9 hn9) ok_Pf_become ml_Ga_178 im_Pf_become se_Pf_become (lC6 hL).1 kc_Pf (gRm_ok (by decide) (by decide)) rfl rfl (Nat.le_of_ble_eq_true rfl) d_Ga_prove_54 ⟨Nat.le_of_ble_eq_true rfl, Nat.le_of_ble_eq_true rfl⟩ rfl ?_
    refine V_il4 59 d_Ga_prove_57 rfl ?_
    exact V_iret rfl d_Ga_prove_59 ⟨rfl, rfl, by rw [prM, if_neg h40, he9, nI_clamp (by omega)]⟩
def coM (M : gMe) (p : Int32) (r o : Nat) (v : Int32) : gMe := if r = 0 then M else if r = 1 then gst M 25 o v else if r = 2 then gst M 24 o (if pPrin v then v else -1) else gst (gst M 24 o p) 25 o v
def coR (M : gMe) (r o : Nat) : Int32 := if r = 0 then M 25 o else if r = 1 then M 25 o else if r = 2 then M 24 o else 0
set_option maxRecDepth 100000 in
set_option maxHeartbeats 4000000 in
theorem c_Ga_carryOut0 (l : Launch) (G : gG) (L : gLy) (M : gMe) (hL : gLC L) (p v : Int32) (o : Nat) (ho : o < 6) : gMet l G y_Ga_carryOut b_Ga_carryOut 7 (some FieldType.int) (rmL 2 0 0) [.ref 2, .int p, .int 0, .int (nI o), .int v] L M gAll (gPo (some (.int (coR M 0 o))) L (coM M p 0 o v)) 0 0 := by
  refine gMet_of (lv := [some (.ref 2), some (.int p), some (.int 0), some (.int (nI o)), some (.int v), none, none]) (by decide) rfl (Nat.le_of_ble_eq_true rfl) rfl ?_
  refine V_al0 1 d_Ga_carryOut_0 rfl ?_
  refine V_getr 4 8 (lC2 hL) kc_Ga (by decide) fl_Ga_59 (Or.inl rfl) rfl d_Ga_carryOut_1 rfl ?_
  refine V_il3 5 d_Ga_carryOut_4 rfl ?_
  refine V_ialn 6 (o) (lC24 hL) rfl ho (by decide) d_Ga_carryOut_5 rfl ?_
  refine V_is5 8 d_Ga_carryOut_6 (by decide) rfl ?_
  refine V_al0 9 d_Ga_carryOut_8 rfl ?_
  refine V_getr 12 9 (lC2 hL) kc_Ga (by decide) fl_Ga_62 (Or.inl rfl) rfl d_Ga_carryOut_9 rfl ?_
  refine V_il3 13 d_Ga_carryOut_12 rfl ?_
  refine V_ialn 14 (o) (lC25 hL) rfl ho (by decide) d_Ga_carryOut_13 rfl ?_
  refine V_is6 16 d_Ga_carryOut_14 (by decide) rfl ?_
  refine V_il2 17 d_Ga_carryOut_16 rfl ?_
  refine V_tabIn 44 d_Ga_carryOut_17 (by decide) (by decide) rfl (by decide) ?_
  refine V_il6 46 d_Ga_carryOut_44 rfl ?_
  exact V_iret rfl d_Ga_carryOut_46 ⟨rfl, rfl, rfl⟩
set_option maxRecDepth 100000 in
set_option maxHeartbeats 4000000 in
theorem c_Ga_carryOut1 (l : Launch) (G : gG) (L : gLy) (M : gMe) (hL : gLC L) (p v : Int32) (o : Nat) (ho : o < 6) : gMet l G y_Ga_carryOut b_Ga_carryOut 7 (some FieldType.int) (rmL 2 0 0) [.ref 2, .int p, .int 1, .int (nI o), .int v] L M gAll (gPo (some (.int (coR M 1 o))) L (coM M p 1 o v)) 0 0 := by
  refine gMet_of (lv := [some (.ref 2), some (.int p), some (.int 1), some (.int (nI o)), some (.int v), none, none]) (by decide) rfl (Nat.le_of_ble_eq_true rfl) rfl ?_
  refine V_al0 1 d_Ga_carryOut_0 rfl ?_
  refine V_getr 4 8 (lC2 hL) kc_Ga (by decide) fl_Ga_59 (Or.inl rfl) rfl d_Ga_carryOut_1 rfl ?_
  refine V_il3 5 d_Ga_carryOut_4 rfl ?_
  refine V_ialn 6 (o) (lC24 hL) rfl ho (by decide) d_Ga_carryOut_5 rfl ?_
  refine V_is5 8 d_Ga_carryOut_6 (by decide) rfl ?_
  refine V_al0 9 d_Ga_carryOut_8 rfl ?_
  refine V_getr 12 9 (lC2 hL) kc_Ga (by decide) fl_Ga_62 (Or.inl rfl) rfl d_Ga_carryOut_9 rfl ?_
  refine V_il3 13 d_Ga_carryOut_12 rfl ?_
  refine V_ialn 14 (o) (lC25 hL) rfl ho (by decide) d_Ga_carryOut_13 rfl ?_
  refine V_is6 16 d_Ga_carryOut_14 (by decide) rfl ?_
  refine V_il2 17 d_Ga_carryOut_16 rfl ?_
  refine V_tabIn 47 d_Ga_carryOut_17 (by decide) (by decide) rfl (by decide) ?_
  refine V_al0 48 d_Ga_carryOut_47 rfl ?_
  refine V_getr 51 9 (lC2 hL) kc_Ga (by decide) fl_Ga_62 (Or.inl rfl) rfl d_Ga_carryOut_48 rfl ?_
  refine V_il3 52 d_Ga_carryOut_51 rfl ?_
  refine V_il4 54 d_Ga_carryOut_52 rfl ?_
  refine V_iasn 55 (o) (lC25 hL) rfl ho (by decide) d_Ga_carryOut_54 rfl ?_
  refine V_il6 57 d_Ga_carryOut_55 rfl ?_
  exact V_iret rfl d_Ga_carryOut_57 ⟨rfl, rfl, rfl⟩
set_option maxRecDepth 100000 in
set_option maxHeartbeats 4000000 in
theorem c_Ga_carryOut2 (l : Launch) (G : gG) (L : gLy) (M : gMe) (hL : gLC L) (p v : Int32) (o : Nat) (ho : o < 6) : gMet l G y_Ga_carryOut b_Ga_carryOut 7 (some FieldType.int) (rmL 2 0 0) [.ref 2, .int p, .int 2, .int (nI o), .int v] L M gAll (gPo (some (.int (coR M 2 o))) L (coM M p 2 o v)) 0 0 := by
  refine gMet_of (lv := [some (.ref 2), some (.int p), some (.int 2), some (.int (nI o)), some (.int v), none, none]) (by decide) rfl (Nat.le_of_ble_eq_true rfl) rfl ?_
  refine V_al0 1 d_Ga_carryOut_0 rfl ?_
  refine V_getr 4 8 (lC2 hL) kc_Ga (by decide) fl_Ga_59 (Or.inl rfl) rfl d_Ga_carryOut_1 rfl ?_
  refine V_il3 5 d_Ga_carryOut_4 rfl ?_
  refine V_ialn 6 (o) (lC24 hL) rfl ho (by decide) d_Ga_carryOut_5 rfl ?_
  refine V_is5 8 d_Ga_carryOut_6 (by decide) rfl ?_
  refine V_al0 9 d_Ga_carryOut_8 rfl ?_
  refine V_getr 12 9 (lC2 hL) kc_Ga (by decide) fl_Ga_62 (Or.inl rfl) rfl d_Ga_carryOut_9 rfl ?_
  refine V_il3 13 d_Ga_carryOut_12 rfl ?_
  refine V_ialn 14 (o) (lC25 hL) rfl ho (by decide) d_Ga_carryOut_13 rfl ?_
  refine V_is6 16 d_Ga_carryOut_14 (by decide) rfl ?_
  refine V_il2 17 d_Ga_carryOut_16 rfl ?_
  refine V_tabIn 58 d_Ga_carryOut_17 (by decide) (by decide) rfl (by decide) ?_
  refine V_al0 59 d_Ga_carryOut_58 rfl ?_
  refine V_getr 62 8 (lC2 hL) kc_Ga (by decide) fl_Ga_59 (Or.inl rfl) rfl d_Ga_carryOut_59 rfl ?_
  refine V_il3 63 d_Ga_carryOut_62 rfl ?_
  refine V_il4 65 d_Ga_carryOut_63 rfl ?_
  refine V_cS1 68 (c_Ga_isPrincipal l G _ _ v) ok_Ga_isPrincipal ml_Ga_225 st_Ga_isPrincipal (gRm_ok (by decide) (by decide)) rfl rfl (Nat.le_of_ble_eq_true rfl) d_Ga_carryOut_65 ⟨Nat.le_of_ble_eq_true rfl, Nat.le_of_ble_eq_true rfl⟩ rfl ?_
  refine V_bz 76 71 d_Ga_carryOut_68 (by decide) rfl (fun h68 => ?_) (fun h68 => ?_)
  · refine V_iconst 77 (v := (-1)) (by decide) d_Ga_carryOut_76 rfl ?_
    refine V_iasn 78 (o) (lC24 hL) rfl ho (by decide) d_Ga_carryOut_77 rfl ?_
    refine V_il5 80 d_Ga_carryOut_78 rfl ?_
    exact V_iret rfl d_Ga_carryOut_80 ⟨rfl, rfl, by show _ = gst M 24 o (if pPrin v then v else -1); rw [if_neg h68]⟩
  · refine V_il4 73 d_Ga_carryOut_71 rfl ?_
    refine V_goto 77 d_Ga_carryOut_73 (by decide) ?_
    refine V_iasn 78 (o) (lC24 hL) rfl ho (by decide) d_Ga_carryOut_77 rfl ?_
    refine V_il5 80 d_Ga_carryOut_78 rfl ?_
    exact V_iret rfl d_Ga_carryOut_80 ⟨rfl, rfl, by show _ = gst M 24 o (if pPrin v then v else -1); rw [if_pos h68]⟩
set_option maxRecDepth 100000 in
set_option maxHeartbeats 4000000 in
theorem c_Ga_carryOut3 (l : Launch) (G : gG) (L : gLy) (M : gMe) (hL : gLC L) (p v : Int32) (o : Nat) (ho : o < 6) : gMet l G y_Ga_carryOut b_Ga_carryOut 7 (some FieldType.int) (rmL 2 0 0) [.ref 2, .int p, .int 3, .int (nI o), .int v] L M gAll (gPo (some (.int (coR M 3 o))) L (coM M p 3 o v)) 0 0 := by
  refine gMet_of (lv := [some (.ref 2), some (.int p), some (.int 3), some (.int (nI o)), some (.int v), none, none]) (by decide) rfl (Nat.le_of_ble_eq_true rfl) rfl ?_
  refine V_al0 1 d_Ga_carryOut_0 rfl ?_
  refine V_getr 4 8 (lC2 hL) kc_Ga (by decide) fl_Ga_59 (Or.inl rfl) rfl d_Ga_carryOut_1 rfl ?_
  refine V_il3 5 d_Ga_carryOut_4 rfl ?_
  refine V_ialn 6 (o) (lC24 hL) rfl ho (by decide) d_Ga_carryOut_5 rfl ?_
  refine V_is5 8 d_Ga_carryOut_6 (by decide) rfl ?_
  refine V_al0 9 d_Ga_carryOut_8 rfl ?_
  refine V_getr 12 9 (lC2 hL) kc_Ga (by decide) fl_Ga_62 (Or.inl rfl) rfl d_Ga_carryOut_9 rfl ?_
  refine V_il3 13 d_Ga_carryOut_12 rfl ?_
  refine V_ialn 14 (o) (lC25 hL) rfl ho (by decide) d_Ga_carryOut_13 rfl ?_
  refine V_is6 16 d_Ga_carryOut_14 (by decide) rfl ?_
  refine V_il2 17 d_Ga_carryOut_16 rfl ?_
  refine V_tabOut 81 d_Ga_carryOut_17 (by decide) (by decide) ?_
  refine V_al0 82 d_Ga_carryOut_81 rfl ?_
  refine V_getr 85 8 (lC2 hL) kc_Ga (by decide) fl_Ga_59 (Or.inl rfl) rfl d_Ga_carryOut_82 rfl ?_
  refine V_il3 86 d_Ga_carryOut_85 rfl ?_
  refine V_il1 87 d_Ga_carryOut_86 rfl ?_
  refine V_iasn 88 (o) (lC24 hL) rfl ho (by decide) d_Ga_carryOut_87 rfl ?_
  refine V_al0 89 d_Ga_carryOut_88 rfl ?_
  refine V_getr 92 9 (lC2 hL) kc_Ga (by decide) fl_Ga_62 (Or.inl rfl) rfl d_Ga_carryOut_89 rfl ?_
  refine V_il3 93 d_Ga_carryOut_92 rfl ?_
  refine V_il4 95 d_Ga_carryOut_93 rfl ?_
  refine V_iasn 96 (o) (lC25 hL) rfl ho (by decide) d_Ga_carryOut_95 rfl ?_
  refine V_iconst 97 (v := 0) (by decide) d_Ga_carryOut_96 rfl ?_
  exact V_iret rfl d_Ga_carryOut_97 ⟨rfl, rfl, rfl⟩

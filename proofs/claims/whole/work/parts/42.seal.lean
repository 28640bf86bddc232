/-! the class: a credential's shape and seal -/
abbrev wOk (M : gMe) (n k i : Nat) : Prop := nI (lmI k i) ≤ 0 ∨ (¬ M n i < 0 ∧ M n i < nI (lmI k i))
abbrev pWf (M : gMe) (a n : Nat) : Prop := pPrin (M a 0) ∧ pKind (M a 1) ∧ ∀ i, i < 4 → wOk M n (M a 1).toNatClampNeg i
theorem pKind_n {x : Int32} (h : pKind x) : ∃ k, k < 4 ∧ x = nI k ∧ x.toNatClampNeg = k := by
  obtain ⟨k, h1, h2⟩ := nI_rng0 (k := 4) (by decide) h.1 (Int32.not_le.mp h.2)
  exact ⟨k, h1, h2, by rw [h2]; exact nI_clamp (by omega)⟩
def mkI (M : gMe) (a n : Nat) : Int32 := mrk (M a 0) (M a 1) (M n 0) (M n 1) (M n 2) (M n 3) (M a 3) (M a 4)
def soI (M : gMe) (a n : Nat) : Int32 := (mkI M a n ^^^ (M 2 0 + 97 * M a 0)) * 668265263
set_option maxRecDepth 100000 in
set_option maxHeartbeats 4000000 in
theorem c_Cr_isWellFormed (l : Launch) (G : gG) (L : gLy) (M : gMe) (hs : gSt G) (a n : Nat) (hR : gLR L a n) : gMet l G y_Cr_isWellFormed b_Cr_isWellFormed 3 (some FieldType.boolean) (rmL 2 0 0) [.ref a] L M gAll (gPo (some (.int (bi (pWf M a n)))) L M) 0 0 := by
  have lp : ∀ (k : Nat), k < 4 → M a 1 = nI k → (M a 1).toNatClampNeg = k → pPrin (M a 0) → pKind (M a 1) → ∀ (d i : Nat), i + d = 4 → (∀ j, j < i → wOk M n k j) → ∀ z2 : Option Value, V l G y_Cr_isWellFormed b_Cr_isWellFormed 3 (some FieldType.boolean) (rmL 2 0 0) 0 0 gAll (gPo (some (.int (bi (pWf M a n)))) L M) L (M) 0 0 [some (.ref a), some (.int (nI i)), z2] 24 [] := by
    intro k hk ek ck hp hq d
    induction d with
    | zero =>
      intro i hi hok z2
      obtain rfl : i = 4 := by omega
      refine V_il1 25 d_Cr_isWellFormed_24 rfl ?_
      refine V_iconst 26 (v := 4) (by decide) d_Cr_isWellFormed_25 rfl ?_
      refine V_icmp_ge 69 29 d_Cr_isWellFormed_26 (by decide) rfl (fun _ => ?_) (fun h9 => absurd (show (4 : Int32) ≤ nI 4 by decide) h9)
      refine V_iconst 70 (v := 1) (by decide) d_Cr_isWellFormed_69 rfl ?_
      exact V_zret rfl rfl d_Cr_isWellFormed_70 ⟨by rw [bi_t ⟨hp, hq, by rw [ck]; exact hok⟩], rfl, rfl⟩
    | succ d ih =>
      intro i hi hok z2
      have hl : i < 4 := by omega
      refine V_il1 25 d_Cr_isWellFormed_24 rfl ?_
      refine V_iconst 26 (v := 4) (by decide) d_Cr_isWellFormed_25 rfl ?_
      refine V_icmp_ge 69 29 d_Cr_isWellFormed_26 (by decide) rfl (fun h9 => absurd h9 (nI_ge (b := 4) hl (by decide))) (fun _ => ?_)
      refine V_al0 30 d_Cr_isWellFormed_29 rfl ?_
      refine V_geti 33 1 hR.1 kc_Cr (by decide) fl_Cr_19 (Or.inl rfl) rfl d_Cr_isWellFormed_30 rfl ?_
      refine V_topi ek ?_
      refine V_il1 34 d_Cr_isWellFormed_33 rfl ?_
      refine V_cS1 37 (c_Cr_limit l G _ _ hs k i hk hl) ok_Cr_limit ml_Cr_32 st_Cr_limit (gRm_ok (by decide) (by decide)) rfl rfl (Nat.le_of_ble_eq_true rfl) d_Cr_isWellFormed_34 ⟨Nat.le_of_ble_eq_true rfl, Nat.le_of_ble_eq_true rfl⟩ rfl ?_
      refine V_is2 38 d_Cr_isWellFormed_37 (by decide) rfl ?_
      refine V_il2 39 d_Cr_isWellFormed_38 rfl ?_
      refine V_if_le 63 42 d_Cr_isWellFormed_39 (by decide) rfl (fun h39 => ?_) (fun h39 => ?_)
      · refine V_ii1 66 (v := 1) d_Cr_isWellFormed_63 (by decide) (by decide) rfl ?_
        refine V_goto 24 d_Cr_isWellFormed_66 (by decide) ?_
        rw [nI_1]
        have ho : wOk M n k i := Or.inl h39
        exact ih (i + 1) (by omega) (fun j hj => (Nat.lt_or_ge j i).elim (hok j) (fun h => by rw [show j = i by omega]; exact ho)) _
      · refine V_al0 43 d_Cr_isWellFormed_42 rfl ?_
        refine V_getr 46 2 hR.1 kc_Cr (by decide) fl_Cr_11 (Or.inl rfl) rfl d_Cr_isWellFormed_43 rfl ?_
        refine V_il1 47 d_Cr_isWellFormed_46 rfl ?_
        refine V_ialn 48 (i) hR.2 rfl hl (by decide) d_Cr_isWellFormed_47 rfl ?_
        refine V_if_lt 61 51 d_Cr_isWellFormed_48 (by decide) rfl (fun h48 => ?_) (fun h48 => ?_)
        · refine V_iconst 62 (v := 0) (by decide) d_Cr_isWellFormed_61 rfl ?_
          exact V_zret rfl rfl d_Cr_isWellFormed_62 ⟨by rw [bi_f (fun h => (h.2.2 i hl).elim (fun z => h39 (by rw [← ck]; exact z)) (fun z => z.1 h48))], rfl, rfl⟩
        · refine V_al0 52 d_Cr_isWellFormed_51 rfl ?_
          refine V_getr 55 2 hR.1 kc_Cr (by decide) fl_Cr_11 (Or.inl rfl) rfl d_Cr_isWellFormed_52 rfl ?_
          refine V_il1 56 d_Cr_isWellFormed_55 rfl ?_
          refine V_ialn 57 (i) hR.2 rfl hl (by decide) d_Cr_isWellFormed_56 rfl ?_
          refine V_il2 58 d_Cr_isWellFormed_57 rfl ?_
          refine V_icmp_lt 63 61 d_Cr_isWellFormed_58 (by decide) rfl (fun h58 => ?_) (fun h58 => ?_)
          · refine V_ii1 66 (v := 1) d_Cr_isWellFormed_63 (by decide) (by decide) rfl ?_
            refine V_goto 24 d_Cr_isWellFormed_66 (by decide) ?_
            rw [nI_1]
            have ho : wOk M n k i := Or.inr ⟨h48, h58⟩
            exact ih (i + 1) (by omega) (fun j hj => (Nat.lt_or_ge j i).elim (hok j) (fun h => by rw [show j = i by omega]; exact ho)) _
          · refine V_iconst 62 (v := 0) (by decide) d_Cr_isWellFormed_61 rfl ?_
            exact V_zret rfl rfl d_Cr_isWellFormed_62 ⟨by rw [bi_f (fun h => (h.2.2 i hl).elim (fun z => h39 (by rw [← ck]; exact z)) (fun z => h58 (by rw [← ck]; exact z.2)))], rfl, rfl⟩
  refine gMet_of (lv := [some (.ref a), none, none]) (by decide) rfl (Nat.le_of_ble_eq_true rfl) rfl ?_
  refine V_al0 1 d_Cr_isWellFormed_0 rfl ?_
  refine V_geti 4 0 hR.1 kc_Cr (by decide) fl_Cr_15 (Or.inl rfl) rfl d_Cr_isWellFormed_1 rfl ?_
  refine V_cS1 7 (c_Ga_isPrincipal l G _ _ _) ok_Ga_isPrincipal ml_Cr_39 st_Ga_isPrincipal (gRm_ok (by decide) (by decide)) rfl rfl (Nat.le_of_ble_eq_true rfl) d_Cr_isWellFormed_4 ⟨Nat.le_of_ble_eq_true rfl, Nat.le_of_ble_eq_true rfl⟩ rfl ?_
  refine V_bz 20 10 d_Cr_isWellFormed_7 (by decide) rfl (fun h7 => ?_) (fun h7 => ?_)
  · refine V_iconst 21 (v := 0) (by decide) d_Cr_isWellFormed_20 rfl ?_
    exact V_zret rfl rfl d_Cr_isWellFormed_21 ⟨by rw [bi_f (fun h => h7 h.1)], rfl, rfl⟩
  · refine V_al0 11 d_Cr_isWellFormed_10 rfl ?_
    refine V_geti 14 1 hR.1 kc_Cr (by decide) fl_Cr_19 (Or.inl rfl) rfl d_Cr_isWellFormed_11 rfl ?_
    refine V_cS1 17 (c_Cr_isKind l G _ _ _) ok_Cr_isKind ml_Cr_28 st_Cr_isKind (gRm_ok (by decide) (by decide)) rfl rfl (Nat.le_of_ble_eq_true rfl) d_Cr_isWellFormed_14 ⟨Nat.le_of_ble_eq_true rfl, Nat.le_of_ble_eq_true rfl⟩ rfl ?_
    refine V_bn 22 20 d_Cr_isWellFormed_17 (by decide) rfl (fun h17 => ?_) (fun h17 => ?_)
    · obtain ⟨k, hk, ek, ck⟩ := pKind_n h17
      refine V_iconst 23 (v := 0) (by decide) d_Cr_isWellFormed_22 rfl ?_
      refine V_is1 24 d_Cr_isWellFormed_23 (by decide) rfl ?_
      exact lp k hk ek ck h7 h17 4 0 (by decide) (fun j hj => absurd hj (by omega)) _
    · refine V_iconst 21 (v := 0) (by decide) d_Cr_isWellFormed_20 rfl ?_
      exact V_zret rfl rfl d_Cr_isWellFormed_21 ⟨by rw [bi_f (fun h => h17 h.2.1)], rfl, rfl⟩
set_option maxRecDepth 100000 in
set_option maxHeartbeats 4000000 in
theorem c_Cr_mark (l : Launch) (G : gG) (L : gLy) (M : gMe) (a n : Nat) (hR : gLR L a n) : gMet l G y_Cr_mark b_Cr_mark 3 (some FieldType.int) (rmL 2 0 0) [.ref a] L M gAll (gPo (some (.int (mkI M a n))) L M) 0 0 := by
  refine gMet_of (lv := [some (.ref a), none, none]) (by decide) rfl (Nat.le_of_ble_eq_true rfl) rfl ?_
  refine V_iconst 1 (v := 0) (by decide) d_Cr_mark_0 rfl ?_
  refine V_al0 2 d_Cr_mark_1 rfl ?_
  refine V_geti 5 0 hR.1 kc_Cr (by decide) fl_Cr_15 (Or.inl rfl) rfl d_Cr_mark_2 rfl ?_
  refine V_cS1 8 (c_Cr_mix l G _ _ _ _) ok_Cr_mix ml_Cr_46 st_Cr_mix (gRm_ok (by decide) (by decide)) rfl rfl (Nat.le_of_ble_eq_true rfl) d_Cr_mark_5 ⟨Nat.le_of_ble_eq_true rfl, Nat.le_of_ble_eq_true rfl⟩ rfl ?_
  refine V_al0 9 d_Cr_mark_8 rfl ?_
  refine V_geti 12 1 hR.1 kc_Cr (by decide) fl_Cr_19 (Or.inl rfl) rfl d_Cr_mark_9 rfl ?_
  refine V_cS1 15 (c_Cr_mix l G _ _ _ _) ok_Cr_mix ml_Cr_46 st_Cr_mix (gRm_ok (by decide) (by decide)) rfl rfl (Nat.le_of_ble_eq_true rfl) d_Cr_mark_12 ⟨Nat.le_of_ble_eq_true rfl, Nat.le_of_ble_eq_true rfl⟩ rfl ?_
  refine V_is1 16 d_Cr_mark_15 (by decide) rfl ?_
  refine V_iconst 17 (v := 0) (by decide) d_Cr_mark_16 rfl ?_
  refine V_is2 18 d_Cr_mark_17 (by decide) rfl ?_
  refine V_il2 19 d_Cr_mark_18 rfl ?_
  refine V_iconst 20 (v := 4) (by decide) d_Cr_mark_19 rfl ?_
  refine V_icmp_ge 40 23 d_Cr_mark_20 (by decide) rfl (fun h9 => absurd h9 (by decide)) (fun _ => ?_)
  refine V_il1 24 d_Cr_mark_23 rfl ?_
  refine V_al0 25 d_Cr_mark_24 rfl ?_
  refine V_getr 28 2 hR.1 kc_Cr (by decide) fl_Cr_11 (Or.inl rfl) rfl d_Cr_mark_25 rfl ?_
  refine V_il2 29 d_Cr_mark_28 rfl ?_
  refine V_ialn 30 (0) hR.2 (by decide) (by decide) (by decide) d_Cr_mark_29 rfl ?_
  refine V_cS1 33 (c_Cr_mix l G _ _ _ _) ok_Cr_mix ml_Cr_46 st_Cr_mix (gRm_ok (by decide) (by decide)) rfl rfl (Nat.le_of_ble_eq_true rfl) d_Cr_mark_30 ⟨Nat.le_of_ble_eq_true rfl, Nat.le_of_ble_eq_true rfl⟩ rfl ?_
  refine V_is1 34 d_Cr_mark_33 (by decide) rfl ?_
  refine V_ii2 37 (v := 1) d_Cr_mark_34 (by decide) (by decide) rfl ?_
  refine V_goto 18 d_Cr_mark_37 (by decide) ?_
  refine V_il2 19 d_Cr_mark_18 rfl ?_
  refine V_iconst 20 (v := 4) (by decide) d_Cr_mark_19 rfl ?_
  refine V_icmp_ge 40 23 d_Cr_mark_20 (by decide) rfl (fun h9 => absurd h9 (by decide)) (fun _ => ?_)
  refine V_il1 24 d_Cr_mark_23 rfl ?_
  refine V_al0 25 d_Cr_mark_24 rfl ?_
  refine V_getr 28 2 hR.1 kc_Cr (by decide) fl_Cr_11 (Or.inl rfl) rfl d_Cr_mark_25 rfl ?_
  refine V_il2 29 d_Cr_mark_28 rfl ?_
  refine V_ialn 30 (1) hR.2 (by decide) (by decide) (by decide) d_Cr_mark_29 rfl ?_
  refine V_cS1 33 (c_Cr_mix l G _ _ _ _) ok_Cr_mix ml_Cr_46 st_Cr_mix (gRm_ok (by decide) (by decide)) rfl rfl (Nat.le_of_ble_eq_true rfl) d_Cr_mark_30 ⟨Nat.le_of_ble_eq_true rfl, Nat.le_of_ble_eq_true rfl⟩ rfl ?_
  refine V_is1 34 d_Cr_mark_33 (by decide) rfl ?_
  refine V_ii2 37 (v := 1) d_Cr_mark_34 (by decide) (by decide) rfl ?_
  refine V_goto 18 d_Cr_mark_37 (by decide) ?_
  refine V_il2 19 d_Cr_mark_18 rfl ?_
  refine V_iconst 20 (v := 4) (by decide) d_Cr_mark_19 rfl ?_
  refine V_icmp_ge 40 23 d_Cr_mark_20 (by decide) rfl (fun h9 => absurd h9 (by decide)) (fun _ => ?_)
  refine V_il1 24 d_Cr_mark_23 rfl ?_
  refine V_al0 25 d_Cr_mark_24 rfl ?_
  refine V_getr 28 2 hR.1 kc_Cr (by decide) fl_Cr_11 (Or.inl rfl) rfl d_Cr_mark_25 rfl ?_
  refine V_il2 29 d_Cr_mark_28 rfl ?_
  refine V_ialn 30 (2) hR.2 (by decide) (by decide) (by decide) d_Cr_mark_29 rfl ?_
  refine V_cS1 33 (c_Cr_mix l G _ _ _ _) ok_Cr_mix ml_Cr_46 st_Cr_mix (gRm_ok (by decide) (by decide)) rfl rfl (Nat.le_of_ble_eq_true rfl) d_Cr_mark_30 ⟨Nat.le_of_ble_eq_true rfl, Nat.le_of_ble_eq_true rfl⟩ rfl ?_
  refine V_is1 34 d_Cr_mark_33 (by decide) rfl ?_
  refine V_ii2 37 (v := 1) d_Cr_mark_34 (by decide) (by decide) rfl ?_
  refine V_goto 18 d_Cr_mark_37 (by decide) ?_
  refine V_il2 19 d_Cr_mark_18 rfl ?_
  refine V_iconst 20 (v := 4) (by decide) d_Cr_mark_19 rfl ?_
  refine V_icmp_ge 40 23 d_Cr_mark_20 (by decide) rfl (fun h9 => absurd h9 (by decide)) (fun _ => ?_)
  refine V_il1 24 d_Cr_mark_23 rfl ?_
  refine V_al0 25 d_Cr_mark_24 rfl ?_
  refine V_getr 28 2 hR.1 kc_Cr (by decide) fl_Cr_11 (Or.inl rfl) rfl d_Cr_mark_25 rfl ?_
  refine V_il2 29 d_Cr_mark_28 rfl ?_
  refine V_ialn 30 (3) hR.2 (by decide) (by decide) (by decide) d_Cr_mark_29 rfl ?_
  refine V_cS1 33 (c_Cr_mix l G _ _ _ _) ok_Cr_mix ml_Cr_46 st_Cr_mix (gRm_ok (by decide) (by decide)) rfl rfl (Nat.le_of_ble_eq_true rfl) d_Cr_mark_30 ⟨Nat.le_of_ble_eq_true rfl, Nat.le_of_ble_eq_true rfl⟩ rfl ?_
  refine V_is1 34 d_Cr_mark_33 (by decide) rfl ?_
  refine V_ii2 37 (v := 1) d_Cr_mark_34 (by decide) (by decide) rfl ?_
  refine V_goto 18 d_Cr_mark_37 (by decide) ?_
  refine V_il2 19 d_Cr_mark_18 rfl ?_
  refine V_iconst 20 (v := 4) (by decide) d_Cr_mark_19 rfl ?_
  refine V_icmp_ge 40 23 d_Cr_mark_20 (by decide) rfl (fun _ => ?_) (fun h9 => absurd (by decide) h9)
  refine V_il1 41 d_Cr_mark_40 rfl ?_
  refine V_al0 42 d_Cr_mark_41 rfl ?_
  refine V_geti 45 3 hR.1 kc_Cr (by decide) fl_Cr_22 (Or.inl rfl) rfl d_Cr_mark_42 rfl ?_
  refine V_cS1 48 (c_Cr_mix l G _ _ _ _) ok_Cr_mix ml_Cr_46 st_Cr_mix (gRm_ok (by decide) (by decide)) rfl rfl (Nat.le_of_ble_eq_true rfl) d_Cr_mark_45 ⟨Nat.le_of_ble_eq_true rfl, Nat.le_of_ble_eq_true rfl⟩ rfl ?_
  refine V_al0 49 d_Cr_mark_48 rfl ?_
  refine V_geti 52 4 hR.1 kc_Cr (by decide) fl_Cr_25 (Or.inl rfl) rfl d_Cr_mark_49 rfl ?_
  refine V_cS1 55 (c_Cr_mix l G _ _ _ _) ok_Cr_mix ml_Cr_46 st_Cr_mix (gRm_ok (by decide) (by decide)) rfl rfl (Nat.le_of_ble_eq_true rfl) d_Cr_mark_52 ⟨Nat.le_of_ble_eq_true rfl, Nat.le_of_ble_eq_true rfl⟩ rfl ?_
  exact V_iret rfl d_Cr_mark_55 ⟨rfl, rfl, rfl⟩
set_option maxRecDepth 100000 in
set_option maxHeartbeats 4000000 in
theorem c_Ga_sealOf (l : Launch) (G : gG) (L : gLy) (M : gMe) (hL : gLC L) (a n : Nat) (hR : gLR L a n) : gMet l G y_Ga_sealOf b_Ga_sealOf 3 (some FieldType.int) (rmL 3 0 0) [.ref 2, .ref a] L M gAll (gPo (some (.int (soI M a n))) L M) 0 0 := by
  refine gMet_of (lv := [some (.ref 2), some (.ref a), none]) (by decide) rfl (Nat.le_of_ble_eq_true rfl) rfl ?_
  refine V_al0 1 d_Ga_sealOf_0 rfl ?_
  refine V_geti 4 0 (lC2 hL) kc_Ga (by decide) fl_Ga_65 (Or.inl rfl) rfl d_Ga_sealOf_1 rfl ?_
  refine V_bipush 6 (v := 97) (by decide) d_Ga_sealOf_4 rfl ?_
  refine V_al1 7 d_Ga_sealOf_6 rfl ?_
  refine V_geti 10 0 hR.1 kc_Cr (by decide) fl_Ga_122 (Or.inl rfl) rfl d_Ga_sealOf_7 rfl ?_
  refine V_imul 11 d_Ga_sealOf_10 rfl ?_
  refine V_iadd 12 d_Ga_sealOf_11 rfl ?_
  refine V_is2 13 d_Ga_sealOf_12 (by decide) rfl ?_
  refine V_al1 14 d_Ga_sealOf_13 rfl ?_
  refine V_cV1 17 (c_Cr_mark l G _ _ a n hR) ok_Cr_mark ml_Ga_216 im_Cr_mark se_Cr_mark hR.1 kc_Cr (gRm_ok (by decide) (by decide)) rfl rfl (Nat.le_of_ble_eq_true rfl) d_Ga_sealOf_14 ⟨Nat.le_of_ble_eq_true rfl, Nat.le_of_ble_eq_true rfl⟩ rfl ?_
  refine V_il2 18 d_Ga_sealOf_17 rfl ?_
  refine V_ixor 19 d_Ga_sealOf_18 rfl ?_
  refine V_ldc 21 ct_Ga_219 d_Ga_sealOf_19 rfl ?_
  refine V_imul 22 d_Ga_sealOf_21 rfl ?_
  exact V_iret rfl d_Ga_sealOf_22 ⟨rfl, rfl, rfl⟩

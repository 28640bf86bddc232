/-! the checker -/
abbrev pSm (M : gMe) (x z : Nat) : Prop := M x 3 = M z 3 ∧ M x 4 = M z 4
def hoM (M : gMe) (x z w : Nat) : gMe := if M x 2 = M z 1 then gst (faB M w z 6) w 1 (faB M w z 6 x 1) else M
set_option maxRecDepth 100000 in
set_option maxHeartbeats 4000000 in
theorem c_Ck_isHandedOn (l : Launch) (G : gG) (L : gLy) (M : gMe) (x z w : Nat) (hx : gLF L x) (hz : gLF L z) (hw : gLF L w) : gMet l G y_Ck_isHandedOn b_Ck_isHandedOn 3 (some FieldType.boolean) (rmL 2 0 0) [.ref x, .ref z, .ref w] L M gAll (gPo (some (.int (bi (M x 2 = M z 1)))) L (hoM M x z w)) 0 0 := by
  refine gMet_of (lv := [some (.ref x), some (.ref z), some (.ref w)]) (by decide) rfl (Nat.le_of_ble_eq_true rfl) rfl ?_
  refine V_al0 1 d_Ck_isHandedOn_0 rfl ?_
  refine V_geti 4 2 hx kc_Fa (by decide) fl_Ck_111 (Or.inl rfl) rfl d_Ck_isHandedOn_1 rfl ?_
  refine V_al1 5 d_Ck_isHandedOn_4 rfl ?_
  refine V_geti 8 1 hz kc_Fa (by decide) fl_Ck_74 (Or.inl rfl) rfl d_Ck_isHandedOn_5 rfl ?_
  refine V_icmp_eq 13 11 d_Ck_isHandedOn_8 (by decide) rfl (fun h8 => ?_) (fun h8 => ?_)
  · refine V_al2 14 d_Ck_isHandedOn_13 rfl ?_
    refine V_al1 15 d_Ck_isHandedOn_14 rfl ?_
    refine V_cV0 18 (c_Fa_become l G _ _ w z hw hz) ok_Fa_become ml_Ck_87 im_Fa_become se_Fa_become hw kc_Fa (gRm_ok (by decide) (by decide)) rfl rfl (Nat.le_of_ble_eq_true rfl) d_Ck_isHandedOn_15 ⟨Nat.le_of_ble_eq_true rfl, Nat.le_of_ble_eq_true rfl⟩ rfl ?_
    refine V_al2 19 d_Ck_isHandedOn_18 rfl ?_
    refine V_al0 20 d_Ck_isHandedOn_19 rfl ?_
    refine V_geti 23 1 hx kc_Fa (by decide) fl_Ck_74 (Or.inl rfl) rfl d_Ck_isHandedOn_20 rfl ?_
    refine V_puti 26 1 hw kc_Fa (by decide) fl_Ck_74 (Or.inl rfl) rfl rfl rfl rfl d_Ck_isHandedOn_23 rfl ?_
    refine V_iconst 27 (v := 1) (by decide) d_Ck_isHandedOn_26 rfl ?_
    exact V_zret rfl rfl d_Ck_isHandedOn_27 ⟨by rw [bi_t h8], rfl, by rw [hoM, if_pos h8]⟩
  · refine V_iconst 12 (v := 0) (by decide) d_Ck_isHandedOn_11 rfl ?_
    exact V_zret rfl rfl d_Ck_isHandedOn_12 ⟨by rw [bi_f h8], rfl, by rw [hoM, if_neg h8]⟩
abbrev pTd (M : gMe) (x z : Nat) : Prop := ¬ M x 5 ≤ 0 ∧ pSm M x z ∧ M x 2 = M z 1
def tdM (M : gMe) (x z w : Nat) : gMe := if pTd M x z then gst (hoM M x z w) w 5 (if (hoM M x z w) z 5 < (hoM M x z w) x 5 - 1 then (hoM M x z w) z 5 else (hoM M x z w) x 5 - 1) else M
set_option maxRecDepth 100000 in
set_option maxHeartbeats 4000000 in
theorem c_Ck_isTrustedDeeper (l : Launch) (G : gG) (L : gLy) (M : gMe) (x z w : Nat) (hx : gLF L x) (hz : gLF L z) (hw : gLF L w) : gMet l G y_Ck_isTrustedDeeper b_Ck_isTrustedDeeper 3 (some FieldType.boolean) (rmL 3 0 0) [.ref x, .ref z, .ref w] L M gAll (gPo (some (.int (bi (pTd M x z)))) L (tdM M x z w)) 0 0 := by
  refine gMet_of (lv := [some (.ref x), some (.ref z), some (.ref w)]) (by decide) rfl (Nat.le_of_ble_eq_true rfl) rfl ?_
  refine V_al0 1 d_Ck_isTrustedDeeper_0 rfl ?_
  refine V_geti 4 5 hx kc_Fa (by decide) fl_Ck_102 (Or.inl rfl) rfl d_Ck_isTrustedDeeper_1 rfl ?_
  refine V_if_le 24 7 d_Ck_isTrustedDeeper_4 (by decide) rfl (fun h4 => ?_) (fun h4 => ?_)
  · refine V_iconst 25 (v := 0) (by decide) d_Ck_isTrustedDeeper_24 rfl ?_
    exact V_zret rfl rfl d_Ck_isTrustedDeeper_25 (by have g : ¬ pTd M x z := (fun h => h.1 h4); exact ⟨by rw [bi_f g], rfl, by rw [tdM, if_neg g]⟩)
  · refine V_al0 8 d_Ck_isTrustedDeeper_7 rfl ?_
    refine V_al1 9 d_Ck_isTrustedDeeper_8 rfl ?_
    refine V_cV1 12 (c_Fa_isOfSameThing l G _ _ x z hx hz) ok_Fa_isOfSameThing ml_Ck_95 im_Fa_isOfSameThing se_Fa_isOfSameThing hx kc_Fa (gRm_ok (by decide) (by decide)) rfl rfl (Nat.le_of_ble_eq_true rfl) d_Ck_isTrustedDeeper_9 ⟨Nat.le_of_ble_eq_true rfl, Nat.le_of_ble_eq_true rfl⟩ rfl ?_
    refine V_bz 24 15 d_Ck_isTrustedDeeper_12 (by decide) rfl (fun h12 => ?_) (fun h12 => ?_)
    · refine V_iconst 25 (v := 0) (by decide) d_Ck_isTrustedDeeper_24 rfl ?_
      exact V_zret rfl rfl d_Ck_isTrustedDeeper_25 (by have g : ¬ pTd M x z := (fun h => h12 h.2.1); exact ⟨by rw [bi_f g], rfl, by rw [tdM, if_neg g]⟩)
    · refine V_al0 16 d_Ck_isTrustedDeeper_15 rfl ?_
      refine V_al1 17 d_Ck_isTrustedDeeper_16 rfl ?_
      refine V_al2 18 d_Ck_isTrustedDeeper_17 rfl ?_
      refine V_cS1 21 (c_Ck_isHandedOn l G _ _ x z w hx hz hw) ok_Ck_isHandedOn ml_Ck_91 st_Ck_isHandedOn (gRm_ok (by decide) (by decide)) rfl rfl (Nat.le_of_ble_eq_true rfl) d_Ck_isTrustedDeeper_18 ⟨Nat.le_of_ble_eq_true rfl, Nat.le_of_ble_eq_true rfl⟩ rfl ?_
      refine V_bn 26 24 d_Ck_isTrustedDeeper_21 (by decide) rfl (fun h21 => ?_) (fun h21 => ?_)
      · refine V_al2 27 d_Ck_isTrustedDeeper_26 rfl ?_
        refine V_al0 28 d_Ck_isTrustedDeeper_27 rfl ?_
        refine V_geti 31 5 hx kc_Fa (by decide) fl_Ck_102 (Or.inl rfl) rfl d_Ck_isTrustedDeeper_28 rfl ?_
        refine V_iconst 32 (v := 1) (by decide) d_Ck_isTrustedDeeper_31 rfl ?_
        refine V_isub 33 d_Ck_isTrustedDeeper_32 rfl ?_
        refine V_al1 34 d_Ck_isTrustedDeeper_33 rfl ?_
        refine V_geti 37 5 hz kc_Fa (by decide) fl_Ck_102 (Or.inl rfl) rfl d_Ck_isTrustedDeeper_34 rfl ?_
        refine V_mmin 40 mn_Ck (Nat.le_of_ble_eq_true rfl) (Nat.le_of_ble_eq_true rfl) (Nat.le_of_ble_eq_true rfl) (Nat.le_of_ble_eq_true rfl) d_Ck_isTrustedDeeper_37 rfl ?_
        refine V_puti 43 5 hw kc_Fa (by decide) fl_Ck_102 (Or.inl rfl) rfl rfl rfl rfl d_Ck_isTrustedDeeper_40 rfl ?_
        refine V_iconst 44 (v := 1) (by decide) d_Ck_isTrustedDeeper_43 rfl ?_
        exact V_zret rfl rfl d_Ck_isTrustedDeeper_44 (by have g : pTd M x z := ⟨h4, h12, h21⟩; exact ⟨by rw [bi_t g], rfl, by rw [tdM, if_pos g]⟩)
      · refine V_iconst 25 (v := 0) (by decide) d_Ck_isTrustedDeeper_24 rfl ?_
        exact V_zret rfl rfl d_Ck_isTrustedDeeper_25 (by have g : ¬ pTd M x z := fun h => h21 h.2.2; exact ⟨by rw [bi_f g], rfl, by rw [tdM, if_neg g, hoM, if_neg h21]⟩)
abbrev pJ2 (M : gMe) (x z : Nat) : Prop := M x 0 = 1 ∧ M z 0 = 0 ∧ M x 2 = M z 1
def jM2 (M : gMe) (x z w : Nat) : gMe := if pJ2 M x z then hoM M x z w else M
set_option maxRecDepth 100000 in
set_option maxHeartbeats 4000000 in
theorem c_Ck_isJoined2 (l : Launch) (G : gG) (L : gLy) (M : gMe) (x z w : Nat) (hx : gLF L x) (hz : gLF L z) (hw : gLF L w) : gMet l G y_Ck_isJoined b_Ck_isJoined 4 (some FieldType.boolean) (rmL 4 0 0) [.int 2, .ref x, .ref z, .ref w] L M gAll (gPo (some (.int (bi (pJ2 M x z)))) L (jM2 M x z w)) 0 0 := by
  refine gMet_of (lv := [some (.int 2), some (.ref x), some (.ref z), some (.ref w)]) (by decide) rfl (Nat.le_of_ble_eq_true rfl) rfl ?_
  refine V_il0 1 d_Ck_isJoined_0 rfl ?_
  refine V_tabIn 36 d_Ck_isJoined_1 (by decide) (by decide) rfl (by decide) ?_
  refine V_al1 37 d_Ck_isJoined_36 rfl ?_
  refine V_geti 40 0 hx kc_Fa (by decide) fl_Ck_73 (Or.inl rfl) rfl d_Ck_isJoined_37 rfl ?_
  refine V_iconst 41 (v := 1) (by decide) d_Ck_isJoined_40 rfl ?_
  refine V_icmp_ne 64 44 d_Ck_isJoined_41 (by decide) rfl (fun h41 => ?_) (fun h41 => ?_)
  · refine V_iconst 65 (v := 0) (by decide) d_Ck_isJoined_64 rfl ?_
    exact V_zret rfl rfl d_Ck_isJoined_65 (by have g : ¬ pJ2 M x z := fun h => h41 h.1; exact ⟨by rw [bi_f g], rfl, by rw [jM2, if_neg g]⟩)
  · refine V_al2 45 d_Ck_isJoined_44 rfl ?_
    refine V_geti 48 0 hz kc_Fa (by decide) fl_Ck_73 (Or.inl rfl) rfl d_Ck_isJoined_45 rfl ?_
    refine V_if_ne 64 51 d_Ck_isJoined_48 (by decide) rfl (fun h48 => ?_) (fun h48 => ?_)
    · refine V_iconst 65 (v := 0) (by decide) d_Ck_isJoined_64 rfl ?_
      exact V_zret rfl rfl d_Ck_isJoined_65 (by have g : ¬ pJ2 M x z := fun h => h48 h.2.1; exact ⟨by rw [bi_f g], rfl, by rw [jM2, if_neg g]⟩)
    · refine V_al1 52 d_Ck_isJoined_51 rfl ?_
      refine V_al2 53 d_Ck_isJoined_52 rfl ?_
      refine V_al3 54 d_Ck_isJoined_53 rfl ?_
      refine V_cS1 57 (c_Ck_isHandedOn l G _ _ x z w hx hz hw) ok_Ck_isHandedOn ml_Ck_91 st_Ck_isHandedOn (gRm_ok (by decide) (by decide)) rfl rfl (Nat.le_of_ble_eq_true rfl) d_Ck_isJoined_54 ⟨Nat.le_of_ble_eq_true rfl, Nat.le_of_ble_eq_true rfl⟩ rfl ?_
      refine V_bz 64 60 d_Ck_isJoined_57 (by decide) rfl (fun h57 => ?_) (fun h57 => ?_)
      · refine V_iconst 65 (v := 0) (by decide) d_Ck_isJoined_64 rfl ?_
        exact V_zret rfl rfl d_Ck_isJoined_65 (by have g : ¬ pJ2 M x z := fun h => h57 h.2.2; exact ⟨by rw [bi_f g], rfl, by rw [jM2, if_neg g, hoM, if_neg h57]⟩)
      · refine V_iconst 61 (v := 1) (by decide) d_Ck_isJoined_60 rfl ?_
        refine V_goto 65 d_Ck_isJoined_61 (by decide) ?_
        exact V_zret rfl rfl d_Ck_isJoined_65 (by have g : pJ2 M x z := ⟨h41, h48, h57⟩; exact ⟨by rw [bi_t g], rfl, by rw [jM2, if_pos g]⟩)
abbrev pJ3 (M : gMe) (x z : Nat) : Prop := M x 0 = 2 ∧ M z 0 = 0 ∧ pSm M x z ∧ M x 2 = M z 1
def jM3 (M : gMe) (x z w : Nat) : gMe := if pJ3 M x z then hoM M x z w else M
set_option maxRecDepth 100000 in
set_option maxHeartbeats 4000000 in
theorem c_Ck_isJoined3 (l : Launch) (G : gG) (L : gLy) (M : gMe) (x z w : Nat) (hx : gLF L x) (hz : gLF L z) (hw : gLF L w) : gMet l G y_Ck_isJoined b_Ck_isJoined 4 (some FieldType.boolean) (rmL 4 0 0) [.int 3, .ref x, .ref z, .ref w] L M gAll (gPo (some (.int (bi (pJ3 M x z)))) L (jM3 M x z w)) 0 0 := by
  refine gMet_of (lv := [some (.int 3), some (.ref x), some (.ref z), some (.ref w)]) (by decide) rfl (Nat.le_of_ble_eq_true rfl) rfl ?_
  refine V_il0 1 d_Ck_isJoined_0 rfl ?_
  refine V_tabIn 66 d_Ck_isJoined_1 (by decide) (by decide) rfl (by decide) ?_
  refine V_al1 67 d_Ck_isJoined_66 rfl ?_
  refine V_geti 70 0 hx kc_Fa (by decide) fl_Ck_73 (Or.inl rfl) rfl d_Ck_isJoined_67 rfl ?_
  refine V_iconst 71 (v := 2) (by decide) d_Ck_isJoined_70 rfl ?_
  refine V_icmp_ne 102 74 d_Ck_isJoined_71 (by decide) rfl (fun h71 => ?_) (fun h71 => ?_)
  · refine V_iconst 103 (v := 0) (by decide) d_Ck_isJoined_102 rfl ?_
    exact V_zret rfl rfl d_Ck_isJoined_103 (by have g : ¬ pJ3 M x z := fun h => h71 h.1; exact ⟨by rw [bi_f g], rfl, by rw [jM3, if_neg g]⟩)
  · refine V_al2 75 d_Ck_isJoined_74 rfl ?_
    refine V_geti 78 0 hz kc_Fa (by decide) fl_Ck_73 (Or.inl rfl) rfl d_Ck_isJoined_75 rfl ?_
    refine V_if_ne 102 81 d_Ck_isJoined_78 (by decide) rfl (fun h78 => ?_) (fun h78 => ?_)
    · refine V_iconst 103 (v := 0) (by decide) d_Ck_isJoined_102 rfl ?_
      exact V_zret rfl rfl d_Ck_isJoined_103 (by have g : ¬ pJ3 M x z := fun h => h78 h.2.1; exact ⟨by rw [bi_f g], rfl, by rw [jM3, if_neg g]⟩)
    · refine V_al1 82 d_Ck_isJoined_81 rfl ?_
      refine V_al2 83 d_Ck_isJoined_82 rfl ?_
      refine V_cV1 86 (c_Fa_isOfSameThing l G _ _ x z hx hz) ok_Fa_isOfSameThing ml_Ck_95 im_Fa_isOfSameThing se_Fa_isOfSameThing hx kc_Fa (gRm_ok (by decide) (by decide)) rfl rfl (Nat.le_of_ble_eq_true rfl) d_Ck_isJoined_83 ⟨Nat.le_of_ble_eq_true rfl, Nat.le_of_ble_eq_true rfl⟩ rfl ?_
      refine V_bz 102 89 d_Ck_isJoined_86 (by decide) rfl (fun h86 => ?_) (fun h86 => ?_)
      · refine V_iconst 103 (v := 0) (by decide) d_Ck_isJoined_102 rfl ?_
        exact V_zret rfl rfl d_Ck_isJoined_103 (by have g : ¬ pJ3 M x z := fun h => h86 h.2.2.1; exact ⟨by rw [bi_f g], rfl, by rw [jM3, if_neg g]⟩)
      · refine V_al1 90 d_Ck_isJoined_89 rfl ?_
        refine V_al2 91 d_Ck_isJoined_90 rfl ?_
        refine V_al3 92 d_Ck_isJoined_91 rfl ?_
        refine V_cS1 95 (c_Ck_isHandedOn l G _ _ x z w hx hz hw) ok_Ck_isHandedOn ml_Ck_91 st_Ck_isHandedOn (gRm_ok (by decide) (by decide)) rfl rfl (Nat.le_of_ble_eq_true rfl) d_Ck_isJoined_92 ⟨Nat.le_of_ble_eq_true rfl, Nat.le_of_ble_eq_true rfl⟩ rfl ?_
        refine V_bz 102 98 d_Ck_isJoined_95 (by decide) rfl (fun h95 => ?_) (fun h95 => ?_)
        · refine V_iconst 103 (v := 0) (by decide) d_Ck_isJoined_102 rfl ?_
          exact V_zret rfl rfl d_Ck_isJoined_103 (by have g : ¬ pJ3 M x z := fun h => h95 h.2.2.2; exact ⟨by rw [bi_f g], rfl, by rw [jM3, if_neg g, hoM, if_neg h95]⟩)
        · refine V_iconst 99 (v := 1) (by decide) d_Ck_isJoined_98 rfl ?_
          refine V_goto 103 d_Ck_isJoined_99 (by decide) ?_
          exact V_zret rfl rfl d_Ck_isJoined_103 (by have g : pJ3 M x z := ⟨h71, h78, h86, h95⟩; exact ⟨by rw [bi_t g], rfl, by rw [jM3, if_pos g]⟩)
abbrev pJ4 (M : gMe) (x z : Nat) : Prop := M x 0 = 2 ∧ M z 0 = 2 ∧ pTd M x z
def jM4 (M : gMe) (x z w : Nat) : gMe := if pJ4 M x z then tdM M x z w else M
set_option maxRecDepth 100000 in
set_option maxHeartbeats 4000000 in
theorem c_Ck_isJoined4 (l : Launch) (G : gG) (L : gLy) (M : gMe) (x z w : Nat) (hx : gLF L x) (hz : gLF L z) (hw : gLF L w) : gMet l G y_Ck_isJoined b_Ck_isJoined 4 (some FieldType.boolean) (rmL 4 0 0) [.int 4, .ref x, .ref z, .ref w] L M gAll (gPo (some (.int (bi (pJ4 M x z)))) L (jM4 M x z w)) 0 0 := by
  refine gMet_of (lv := [some (.int 4), some (.ref x), some (.ref z), some (.ref w)]) (by decide) rfl (Nat.le_of_ble_eq_true rfl) rfl ?_
  refine V_il0 1 d_Ck_isJoined_0 rfl ?_
  refine V_tabIn 104 d_Ck_isJoined_1 (by decide) (by decide) rfl (by decide) ?_
  refine V_al1 105 d_Ck_isJoined_104 rfl ?_
  refine V_geti 108 0 hx kc_Fa (by decide) fl_Ck_73 (Or.inl rfl) rfl d_Ck_isJoined_105 rfl ?_
  refine V_iconst 109 (v := 2) (by decide) d_Ck_isJoined_108 rfl ?_
  refine V_icmp_ne 133 112 d_Ck_isJoined_109 (by decide) rfl (fun h109 => ?_) (fun h109 => ?_)
  · refine V_iconst 134 (v := 0) (by decide) d_Ck_isJoined_133 rfl ?_
    exact V_zret rfl rfl d_Ck_isJoined_134 (by have g : ¬ pJ4 M x z := fun h => h109 h.1; exact ⟨by rw [bi_f g], rfl, by rw [jM4, if_neg g]⟩)
  · refine V_al2 113 d_Ck_isJoined_112 rfl ?_
    refine V_geti 116 0 hz kc_Fa (by decide) fl_Ck_73 (Or.inl rfl) rfl d_Ck_isJoined_113 rfl ?_
    refine V_iconst 117 (v := 2) (by decide) d_Ck_isJoined_116 rfl ?_
    refine V_icmp_ne 133 120 d_Ck_isJoined_117 (by decide) rfl (fun h117 => ?_) (fun h117 => ?_)
    · refine V_iconst 134 (v := 0) (by decide) d_Ck_isJoined_133 rfl ?_
      exact V_zret rfl rfl d_Ck_isJoined_134 (by have g : ¬ pJ4 M x z := fun h => h117 h.2.1; exact ⟨by rw [bi_f g], rfl, by rw [jM4, if_neg g]⟩)
    · refine V_al1 121 d_Ck_isJoined_120 rfl ?_
      refine V_al2 122 d_Ck_isJoined_121 rfl ?_
      refine V_al3 123 d_Ck_isJoined_122 rfl ?_
      refine V_cS1 126 (c_Ck_isTrustedDeeper l G _ _ x z w hx hz hw) ok_Ck_isTrustedDeeper ml_Ck_99 st_Ck_isTrustedDeeper (gRm_ok (by decide) (by decide)) rfl rfl (Nat.le_of_ble_eq_true rfl) d_Ck_isJoined_123 ⟨Nat.le_of_ble_eq_true rfl, Nat.le_of_ble_eq_true rfl⟩ rfl ?_
      refine V_bz 133 129 d_Ck_isJoined_126 (by decide) rfl (fun h126 => ?_) (fun h126 => ?_)
      · refine V_iconst 134 (v := 0) (by decide) d_Ck_isJoined_133 rfl ?_
        exact V_zret rfl rfl d_Ck_isJoined_134 (by have g : ¬ pJ4 M x z := fun h => h126 h.2.2; exact ⟨by rw [bi_f g], rfl, by rw [jM4, if_neg g, tdM, if_neg h126]⟩)
      · refine V_iconst 130 (v := 1) (by decide) d_Ck_isJoined_129 rfl ?_
        refine V_goto 134 d_Ck_isJoined_130 (by decide) ?_
        exact V_zret rfl rfl d_Ck_isJoined_134 (by have g : pJ4 M x z := ⟨h109, h117, h126⟩; exact ⟨by rw [bi_t g], rfl, by rw [jM4, if_pos g]⟩)
abbrev pJ5 (M : gMe) (x z : Nat) : Prop := M x 0 = 1 ∧ M z 0 = 2 ∧ M x 2 = M z 1
def jM5 (M : gMe) (x z w : Nat) : gMe := if pJ5 M x z then hoM M x z w else M
set_option maxRecDepth 100000 in
set_option maxHeartbeats 4000000 in
theorem c_Ck_isJoined5 (l : Launch) (G : gG) (L : gLy) (M : gMe) (x z w : Nat) (hx : gLF L x) (hz : gLF L z) (hw : gLF L w) : gMet l G y_Ck_isJoined b_Ck_isJoined 4 (some FieldType.boolean) (rmL 4 0 0) [.int 5, .ref x, .ref z, .ref w] L M gAll (gPo (some (.int (bi (pJ5 M x z)))) L (jM5 M x z w)) 0 0 := by
  refine gMet_of (lv := [some (.int 5), some (.ref x), some (.ref z), some (.ref w)]) (by decide) rfl (Nat.le_of_ble_eq_true rfl) rfl ?_
  refine V_il0 1 d_Ck_isJoined_0 rfl ?_
  refine V_tabIn 135 d_Ck_isJoined_1 (by decide) (by decide) rfl (by decide) ?_
  refine V_al1 136 d_Ck_isJoined_135 rfl ?_
  refine V_geti 139 0 hx kc_Fa (by decide) fl_Ck_73 (Or.inl rfl) rfl d_Ck_isJoined_136 rfl ?_
  refine V_iconst 140 (v := 1) (by decide) d_Ck_isJoined_139 rfl ?_
  refine V_icmp_ne 164 143 d_Ck_isJoined_140 (by decide) rfl (fun h140 => ?_) (fun h140 => ?_)
  · refine V_iconst 165 (v := 0) (by decide) d_Ck_isJoined_164 rfl ?_
    exact V_zret rfl rfl d_Ck_isJoined_165 (by have g : ¬ pJ5 M x z := fun h => h140 h.1; exact ⟨by rw [bi_f g], rfl, by rw [jM5, if_neg g]⟩)
  · refine V_al2 144 d_Ck_isJoined_143 rfl ?_
    refine V_geti 147 0 hz kc_Fa (by decide) fl_Ck_73 (Or.inl rfl) rfl d_Ck_isJoined_144 rfl ?_
    refine V_iconst 148 (v := 2) (by decide) d_Ck_isJoined_147 rfl ?_
    refine V_icmp_ne 164 151 d_Ck_isJoined_148 (by decide) rfl (fun h148 => ?_) (fun h148 => ?_)
    · refine V_iconst 165 (v := 0) (by decide) d_Ck_isJoined_164 rfl ?_
      exact V_zret rfl rfl d_Ck_isJoined_165 (by have g : ¬ pJ5 M x z := fun h => h148 h.2.1; exact ⟨by rw [bi_f g], rfl, by rw [jM5, if_neg g]⟩)
    · refine V_al1 152 d_Ck_isJoined_151 rfl ?_
      refine V_al2 153 d_Ck_isJoined_152 rfl ?_
      refine V_al3 154 d_Ck_isJoined_153 rfl ?_
      refine V_cS1 157 (c_Ck_isHandedOn l G _ _ x z w hx hz hw) ok_Ck_isHandedOn ml_Ck_91 st_Ck_isHandedOn (gRm_ok (by decide) (by decide)) rfl rfl (Nat.le_of_ble_eq_true rfl) d_Ck_isJoined_154 ⟨Nat.le_of_ble_eq_true rfl, Nat.le_of_ble_eq_true rfl⟩ rfl ?_
      refine V_bz 164 160 d_Ck_isJoined_157 (by decide) rfl (fun h157 => ?_) (fun h157 => ?_)
      · refine V_iconst 165 (v := 0) (by decide) d_Ck_isJoined_164 rfl ?_
        exact V_zret rfl rfl d_Ck_isJoined_165 (by have g : ¬ pJ5 M x z := fun h => h157 h.2.2; exact ⟨by rw [bi_f g], rfl, by rw [jM5, if_neg g, hoM, if_neg h157]⟩)
      · refine V_iconst 161 (v := 1) (by decide) d_Ck_isJoined_160 rfl ?_
        refine V_goto 165 d_Ck_isJoined_161 (by decide) ?_
        exact V_zret rfl rfl d_Ck_isJoined_165 (by have g : pJ5 M x z := ⟨h140, h148, h157⟩; exact ⟨by rw [bi_t g], rfl, by rw [jM5, if_pos g]⟩)
abbrev pJ6 (M : gMe) (x z : Nat) : Prop := M x 0 = 1 ∧ M z 0 = 1 ∧ M z 2 = M x 1
def jM6 (M : gMe) (x z w : Nat) : gMe := if pJ6 M x z then hoM M z x w else M
set_option maxRecDepth 100000 in
set_option maxHeartbeats 4000000 in
theorem c_Ck_isJoined6 (l : Launch) (G : gG) (L : gLy) (M : gMe) (x z w : Nat) (hx : gLF L x) (hz : gLF L z) (hw : gLF L w) : gMet l G y_Ck_isJoined b_Ck_isJoined 4 (some FieldType.boolean) (rmL 4 0 0) [.int 6, .ref x, .ref z, .ref w] L M gAll (gPo (some (.int (bi (pJ6 M x z)))) L (jM6 M x z w)) 0 0 := by
  refine gMet_of (lv := [some (.int 6), some (.ref x), some (.ref z), some (.ref w)]) (by decide) rfl (Nat.le_of_ble_eq_true rfl) rfl ?_
  refine V_il0 1 d_Ck_isJoined_0 rfl ?_
  refine V_tabIn 166 d_Ck_isJoined_1 (by decide) (by decide) rfl (by decide) ?_
  refine V_al1 167 d_Ck_isJoined_166 rfl ?_
  refine V_geti 170 0 hx kc_Fa (by decide) fl_Ck_73 (Or.inl rfl) rfl d_Ck_isJoined_167 rfl ?_
  refine V_iconst 171 (v := 1) (by decide) d_Ck_isJoined_170 rfl ?_
  refine V_icmp_ne 195 174 d_Ck_isJoined_171 (by decide) rfl (fun h171 => ?_) (fun h171 => ?_)
  · refine V_iconst 196 (v := 0) (by decide) d_Ck_isJoined_195 rfl ?_
    exact V_zret rfl rfl d_Ck_isJoined_196 (by have g : ¬ pJ6 M x z := fun h => h171 h.1; exact ⟨by rw [bi_f g], rfl, by rw [jM6, if_neg g]⟩)
  · refine V_al2 175 d_Ck_isJoined_174 rfl ?_
    refine V_geti 178 0 hz kc_Fa (by decide) fl_Ck_73 (Or.inl rfl) rfl d_Ck_isJoined_175 rfl ?_
    refine V_iconst 179 (v := 1) (by decide) d_Ck_isJoined_178 rfl ?_
    refine V_icmp_ne 195 182 d_Ck_isJoined_179 (by decide) rfl (fun h179 => ?_) (fun h179 => ?_)
    · refine V_iconst 196 (v := 0) (by decide) d_Ck_isJoined_195 rfl ?_
      exact V_zret rfl rfl d_Ck_isJoined_196 (by have g : ¬ pJ6 M x z := fun h => h179 h.2.1; exact ⟨by rw [bi_f g], rfl, by rw [jM6, if_neg g]⟩)
    · refine V_al2 183 d_Ck_isJoined_182 rfl ?_
      refine V_al1 184 d_Ck_isJoined_183 rfl ?_
      refine V_al3 185 d_Ck_isJoined_184 rfl ?_
      refine V_cS1 188 (c_Ck_isHandedOn l G _ _ z x w hz hx hw) ok_Ck_isHandedOn ml_Ck_91 st_Ck_isHandedOn (gRm_ok (by decide) (by decide)) rfl rfl (Nat.le_of_ble_eq_true rfl) d_Ck_isJoined_185 ⟨Nat.le_of_ble_eq_true rfl, Nat.le_of_ble_eq_true rfl⟩ rfl ?_
      refine V_bz 195 191 d_Ck_isJoined_188 (by decide) rfl (fun h188 => ?_) (fun h188 => ?_)
      · refine V_iconst 196 (v := 0) (by decide) d_Ck_isJoined_195 rfl ?_
        exact V_zret rfl rfl d_Ck_isJoined_196 (by have g : ¬ pJ6 M x z := fun h => h188 h.2.2; exact ⟨by rw [bi_f g], rfl, by rw [jM6, if_neg g, hoM, if_neg h188]⟩)
      · refine V_iconst 192 (v := 1) (by decide) d_Ck_isJoined_191 rfl ?_
        refine V_goto 196 d_Ck_isJoined_192 (by decide) ?_
        exact V_zret rfl rfl d_Ck_isJoined_196 (by have g : pJ6 M x z := ⟨h171, h179, h188⟩; exact ⟨by rw [bi_t g], rfl, by rw [jM6, if_pos g]⟩)
set_option maxRecDepth 100000 in
set_option maxHeartbeats 4000000 in
theorem c_Ck_isJoined_out (l : Launch) (G : gG) (L : gLy) (M : gMe) (x z w : Nat) (hx : gLF L x) (hz : gLF L z) (hw : gLF L w) (u : Int32) (hu : u.toInt < 2 ∨ 6 < u.toInt) : gMet l G y_Ck_isJoined b_Ck_isJoined 4 (some FieldType.boolean) (rmL 4 0 0) [.int u, .ref x, .ref z, .ref w] L M gAll (gPo (some (.int 0)) L M) 0 0 := by
  refine gMet_of (lv := [some (.int u), some (.ref x), some (.ref z), some (.ref w)]) (by decide) rfl (Nat.le_of_ble_eq_true rfl) rfl ?_
  refine V_il0 1 d_Ck_isJoined_0 rfl ?_
  refine V_tabOut 197 d_Ck_isJoined_1 hu (by decide) ?_
  refine V_iconst 198 (v := 0) (by decide) d_Ck_isJoined_197 rfl ?_
  exact V_zret rfl rfl d_Ck_isJoined_198 ⟨rfl, rfl, rfl⟩
set_option maxRecDepth 100000 in
set_option maxHeartbeats 4000000 in
theorem c_Ck_isSaid_null (l : Launch) (G : gG) (L : gLy) (M : gMe) (w : Nat) : gMet l G y_Ck_isSaid b_Ck_isSaid 2 (some FieldType.boolean) (rmL 2 0 0) [.null, .ref w] L M gAll (gPo (some (.int 0)) L M) 0 0 := by
  refine gMet_of (lv := [some (.null), some (.ref w)]) (by decide) rfl (Nat.le_of_ble_eq_true rfl) rfl ?_
  refine V_an0 1 d_Ck_isSaid_0 rfl ?_
  refine V_nulN 12 d_Ck_isSaid_1 (by decide) ?_
  refine V_iconst 13 (v := 0) (by decide) d_Ck_isSaid_12 rfl ?_
  exact V_zret rfl rfl d_Ck_isSaid_13 ⟨rfl, rfl, rfl⟩
set_option maxRecDepth 100000 in
set_option maxHeartbeats 4000000 in
theorem c_Ck_isSaid_imp (l : Launch) (G : gG) (L : gLy) (M : gMe) (c n : Nat) (hR : gLR L c n) (w : Nat) (hw : gLF L w) (hk : M c 1 = 3) : gMet l G y_Ck_isSaid b_Ck_isSaid 2 (some FieldType.boolean) (rmL 2 0 0) [.ref c, .ref w] L M gAll (gPo (some (.int 0)) L M) 0 0 := by
  refine gMet_of (lv := [some (.ref c), some (.ref w)]) (by decide) rfl (Nat.le_of_ble_eq_true rfl) rfl ?_
  refine V_al0 1 d_Ck_isSaid_0 rfl ?_
  refine V_nul 4 d_Ck_isSaid_1 rfl ?_
  refine V_al0 5 d_Ck_isSaid_4 rfl ?_
  refine V_geti 8 1 hR.1 kc_Cr (by decide) fl_Ck_63 (Or.inl rfl) rfl d_Ck_isSaid_5 rfl ?_
  refine V_iconst 9 (v := 3) (by decide) d_Ck_isSaid_8 rfl ?_
  refine V_icmp_ne 14 12 d_Ck_isSaid_9 (by decide) rfl (fun h9 => absurd hk h9) (fun _ => ?_)
  refine V_iconst 13 (v := 0) (by decide) d_Ck_isSaid_12 rfl ?_
  exact V_zret rfl rfl d_Ck_isSaid_13 ⟨rfl, rfl, rfl⟩
set_option maxRecDepth 100000 in
set_option maxHeartbeats 4000000 in
theorem c_Ck_isSaid (l : Launch) (G : gG) (L : gLy) (M : gMe) (c n : Nat) (hR : gLR L c n) (w : Nat) (hw : gLF L w) (hk : ¬ M c 1 = 3) : gMet l G y_Ck_isSaid b_Ck_isSaid 2 (some FieldType.boolean) (rmL 2 0 0) [.ref c, .ref w] L M gAll (gPo (some (.int 1)) L (faS M w c n)) 0 0 := by
  refine gMet_of (lv := [some (.ref c), some (.ref w)]) (by decide) rfl (Nat.le_of_ble_eq_true rfl) rfl ?_
  refine V_al0 1 d_Ck_isSaid_0 rfl ?_
  refine V_nul 4 d_Ck_isSaid_1 rfl ?_
  refine V_al0 5 d_Ck_isSaid_4 rfl ?_
  refine V_geti 8 1 hR.1 kc_Cr (by decide) fl_Ck_63 (Or.inl rfl) rfl d_Ck_isSaid_5 rfl ?_
  refine V_iconst 9 (v := 3) (by decide) d_Ck_isSaid_8 rfl ?_
  refine V_icmp_ne 14 12 d_Ck_isSaid_9 (by decide) rfl (fun _ => ?_) (fun h9 => absurd h9 hk)
  refine V_al1 15 d_Ck_isSaid_14 rfl ?_
  refine V_al0 16 d_Ck_isSaid_15 rfl ?_
  refine V_cV0 19 (c_Fa_becomeSaidBy l G _ _ w c n hw hR) ok_Fa_becomeSaidBy ml_Ck_69 im_Fa_becomeSaidBy se_Fa_becomeSaidBy hw kc_Fa (gRm_ok (by decide) (by decide)) rfl rfl (Nat.le_of_ble_eq_true rfl) d_Ck_isSaid_16 ⟨Nat.le_of_ble_eq_true rfl, Nat.le_of_ble_eq_true rfl⟩ rfl ?_
  refine V_iconst 20 (v := 1) (by decide) d_Ck_isSaid_19 rfl ?_
  exact V_zret rfl rfl d_Ck_isSaid_20 ⟨rfl, rfl, rfl⟩
abbrev pIm (M : gMe) (c n z : Nat) : Prop := M c 1 = 3 ∧ M z 0 = 0 ∧ M z 1 = M c 0 ∧ M z 3 = M n 0
def imM (M : gMe) (c n z w : Nat) : gMe := if pIm M c n z then gst (faB M w z 6) w 3 (faB M w z 6 n 1) else M
set_option maxRecDepth 100000 in
set_option maxHeartbeats 4000000 in
theorem c_Ck_isImplied_null (l : Launch) (G : gG) (L : gLy) (M : gMe) (z w : Nat) : gMet l G y_Ck_isImplied b_Ck_isImplied 3 (some FieldType.boolean) (rmL 2 0 0) [.null, .ref z, .ref w] L M gAll (gPo (some (.int 0)) L M) 0 0 := by
  refine gMet_of (lv := [some (.null), some (.ref z), some (.ref w)]) (by decide) rfl (Nat.le_of_ble_eq_true rfl) rfl ?_
  refine V_an0 1 d_Ck_isImplied_0 rfl ?_
  refine V_nulN 19 d_Ck_isImplied_1 (by decide) ?_
  refine V_iconst 20 (v := 0) (by decide) d_Ck_isImplied_19 rfl ?_
  exact V_zret rfl rfl d_Ck_isImplied_20 ⟨rfl, rfl, rfl⟩
set_option maxRecDepth 100000 in
set_option maxHeartbeats 4000000 in
theorem c_Ck_isImplied (l : Launch) (G : gG) (L : gLy) (M : gMe) (c n : Nat) (hR : gLR L c n) (z w : Nat) (hz : gLF L z) (hw : gLF L w) : gMet l G y_Ck_isImplied b_Ck_isImplied 3 (some FieldType.boolean) (rmL 2 0 0) [.ref c, .ref z, .ref w] L M gAll (gPo (some (.int (bi (pIm M c n z)))) L (imM M c n z w)) 0 0 := by
  refine gMet_of (lv := [some (.ref c), some (.ref z), some (.ref w)]) (by decide) rfl (Nat.le_of_ble_eq_true rfl) rfl ?_
  refine V_al0 1 d_Ck_isImplied_0 rfl ?_
  refine V_nul 4 d_Ck_isImplied_1 rfl ?_
  refine V_al0 5 d_Ck_isImplied_4 rfl ?_
  refine V_geti 8 1 hR.1 kc_Cr (by decide) fl_Ck_63 (Or.inl rfl) rfl d_Ck_isImplied_5 rfl ?_
  refine V_iconst 9 (v := 3) (by decide) d_Ck_isImplied_8 rfl ?_
  refine V_icmp_ne 19 12 d_Ck_isImplied_9 (by decide) rfl (fun h9 => ?_) (fun h9 => ?_)
  · refine V_iconst 20 (v := 0) (by decide) d_Ck_isImplied_19 rfl ?_
    exact V_zret rfl rfl d_Ck_isImplied_20 (by have g : ¬ pIm M c n z := fun h => h9 h.1; exact ⟨by rw [bi_f g], rfl, by rw [imM, if_neg g]⟩)
  · refine V_al1 13 d_Ck_isImplied_12 rfl ?_
    refine V_geti 16 0 hz kc_Fa (by decide) fl_Ck_73 (Or.inl rfl) rfl d_Ck_isImplied_13 rfl ?_
    refine V_if_eq 21 19 d_Ck_isImplied_16 (by decide) rfl (fun h16 => ?_) (fun h16 => ?_)
    · refine V_al1 22 d_Ck_isImplied_21 rfl ?_
      refine V_geti 25 1 hz kc_Fa (by decide) fl_Ck_74 (Or.inl rfl) rfl d_Ck_isImplied_22 rfl ?_
      refine V_al0 26 d_Ck_isImplied_25 rfl ?_
      refine V_geti 29 0 hR.1 kc_Cr (by decide) fl_Ck_77 (Or.inl rfl) rfl d_Ck_isImplied_26 rfl ?_
      refine V_icmp_ne 45 32 d_Ck_isImplied_29 (by decide) rfl (fun h29 => ?_) (fun h29 => ?_)
      · refine V_iconst 46 (v := 0) (by decide) d_Ck_isImplied_45 rfl ?_
        exact V_zret rfl rfl d_Ck_isImplied_46 (by have g : ¬ pIm M c n z := fun h => h29 h.2.2.1; exact ⟨by rw [bi_f g], rfl, by rw [imM, if_neg g]⟩)
      · refine V_al1 33 d_Ck_isImplied_32 rfl ?_
        refine V_geti 36 3 hz kc_Fa (by decide) fl_Ck_80 (Or.inl rfl) rfl d_Ck_isImplied_33 rfl ?_
        refine V_al0 37 d_Ck_isImplied_36 rfl ?_
        refine V_getr 40 2 hR.1 kc_Cr (by decide) fl_Ck_83 (Or.inl rfl) rfl d_Ck_isImplied_37 rfl ?_
        refine V_iconst 41 (v := 0) (by decide) d_Ck_isImplied_40 rfl ?_
        refine V_ialn 42 (0) hR.2 rfl (by decide) (by decide) d_Ck_isImplied_41 rfl ?_
        refine V_icmp_eq 47 45 d_Ck_isImplied_42 (by decide) rfl (fun h42 => ?_) (fun h42 => ?_)
        · refine V_al2 48 d_Ck_isImplied_47 rfl ?_
          refine V_al1 49 d_Ck_isImplied_48 rfl ?_
          refine V_cV0 52 (c_Fa_become l G _ _ w z hw hz) ok_Fa_become ml_Ck_87 im_Fa_become se_Fa_become hw kc_Fa (gRm_ok (by decide) (by decide)) rfl rfl (Nat.le_of_ble_eq_true rfl) d_Ck_isImplied_49 ⟨Nat.le_of_ble_eq_true rfl, Nat.le_of_ble_eq_true rfl⟩ rfl ?_
          refine V_al2 53 d_Ck_isImplied_52 rfl ?_
          refine V_al0 54 d_Ck_isImplied_53 rfl ?_
          refine V_getr 57 2 hR.1 kc_Cr (by decide) fl_Ck_83 (Or.inl rfl) rfl d_Ck_isImplied_54 rfl ?_
          refine V_iconst 58 (v := 1) (by decide) d_Ck_isImplied_57 rfl ?_
          refine V_ialn 59 (1) hR.2 rfl (by decide) (by decide) d_Ck_isImplied_58 rfl ?_
          refine V_puti 62 3 hw kc_Fa (by decide) fl_Ck_80 (Or.inl rfl) rfl rfl rfl rfl d_Ck_isImplied_59 rfl ?_
          refine V_iconst 63 (v := 1) (by decide) d_Ck_isImplied_62 rfl ?_
          exact V_zret rfl rfl d_Ck_isImplied_63 (by have g : pIm M c n z := ⟨h9, h16, h29, h42⟩; exact ⟨by rw [bi_t g], rfl, by rw [imM, if_pos g]⟩)
        · refine V_iconst 46 (v := 0) (by decide) d_Ck_isImplied_45 rfl ?_
          exact V_zret rfl rfl d_Ck_isImplied_46 (by have g : ¬ pIm M c n z := fun h => h42 h.2.2.2; exact ⟨by rw [bi_f g], rfl, by rw [imM, if_neg g]⟩)
    · refine V_iconst 20 (v := 0) (by decide) d_Ck_isImplied_19 rfl ?_
      exact V_zret rfl rfl d_Ck_isImplied_20 (by have g : ¬ pIm M c n z := fun h => h16 h.2.1; exact ⟨by rw [bi_f g], rfl, by rw [imM, if_neg g]⟩)
set_option maxRecDepth 100000 in
set_option maxHeartbeats 4000000 in
theorem c_Ck_follows_1 (l : Launch) (G : gG) (L : gLy) (M : gMe) (hL : gLC L) (c : Nat) (hH : gLH L c) (hs : M 5 1 = nI c) (hc : c < 100) (k : Nat) (hk : k < 40) (n : Nat) (h1 : 1 ≤ n) (hn : n ≤ c) (hv : pVal M (cP n) (M 4 1)) (hkd : ¬ M (cP n) 1 = 3) (z : Int32) : gMet l G y_Ck_follows b_Ck_follows 5 (some FieldType.boolean) (rmL 6 0 0) [.ref 20, .int 1, .int (nI n), .int z, .int (nI k)] L M gAll (gPo (some (.int 1)) L (faS M (100 + k) (cP n) (cP n + 1))) 0 0 := by
  obtain ⟨e9, cap9, h59, hE9, hRc⟩ := id hH
  refine gMet_of (lv := [some (.ref 20), some (.int 1), some (.int (nI n)), some (.int z), some (.int (nI k))]) (by decide) rfl (Nat.le_of_ble_eq_true rfl) rfl ?_
  refine V_il1 1 d_Ck_follows_0 rfl ?_
  refine V_iconst 2 (v := 1) (by decide) d_Ck_follows_1 rfl ?_
  refine V_icmp_ne 24 5 d_Ck_follows_2 (by decide) rfl (fun h9 => absurd h9 (not_not_intro rfl)) (fun _ => ?_)
  refine V_al0 6 d_Ck_follows_5 rfl ?_
  refine V_getr 9 0 (lC20 hL) kc_Ck (by decide) fl_Ck_17 (Or.inl rfl) rfl d_Ck_follows_6 rfl ?_
  refine V_il2 10 d_Ck_follows_9 rfl ?_
  refine V_cV1 13 (c_Cs_findValid l G _ _ hL c hH hs hc n h1 hn hv) ok_Cs_findValid ml_Ck_45 im_Cs_findValid se_Cs_findValid (lC4 hL) kc_Cs (gRm_ok (by decide) (by decide)) rfl rfl (Nat.le_of_ble_eq_true rfl) d_Ck_follows_10 ⟨Nat.le_of_ble_eq_true rfl, Nat.le_of_ble_eq_true rfl⟩ rfl ?_
  refine V_al0 14 d_Ck_follows_13 rfl ?_
  refine V_getr 17 1 (lC20 hL) kc_Ck (by decide) fl_Ck_11 (Or.inl rfl) rfl d_Ck_follows_14 rfl ?_
  refine V_il4 19 d_Ck_follows_17 rfl ?_
  refine V_aaln 20 (k) (100 + k) "ProofGate$Fact" (lC21 hL) rfl rfl hk (by decide) (if_pos hk) d_Ck_follows_19 rfl ?_
  refine V_cS1 23 (c_Ck_isSaid l G _ _ (cP n) (cP n + 1) (hRc n h1 hn) (100 + k) (lCF hL hk) hkd) ok_Ck_isSaid ml_Ck_51 st_Ck_isSaid (gRm_ok (by decide) (by decide)) rfl rfl (Nat.le_of_ble_eq_true rfl) d_Ck_follows_20 ⟨Nat.le_of_ble_eq_true rfl, Nat.le_of_ble_eq_true rfl⟩ rfl ?_
  exact V_zret rfl rfl d_Ck_follows_23 ⟨rfl, rfl, rfl⟩
set_option maxRecDepth 100000 in
set_option maxHeartbeats 4000000 in
theorem c_Ck_follows_2 (l : Launch) (G : gG) (L : gLy) (M : gMe) (hL : gLC L) (c : Nat) (hH : gLH L c) (hs : M 5 1 = nI c) (hc : c < 100) (k : Nat) (hk : k < 40) (n : Nat) (h1 : 1 ≤ n) (hn : n ≤ c) (hv : pVal M (cP n) (M 4 1)) (hkd : M (cP n) 1 = 3) (z : Int32) : gMet l G y_Ck_follows b_Ck_follows 5 (some FieldType.boolean) (rmL 6 0 0) [.ref 20, .int 1, .int (nI n), .int z, .int (nI k)] L M gAll (gPo (some (.int 0)) L M) 0 0 := by
  obtain ⟨e9, cap9, h59, hE9, hRc⟩ := id hH
  refine gMet_of (lv := [some (.ref 20), some (.int 1), some (.int (nI n)), some (.int z), some (.int (nI k))]) (by decide) rfl (Nat.le_of_ble_eq_true rfl) rfl ?_
  refine V_il1 1 d_Ck_follows_0 rfl ?_
  refine V_iconst 2 (v := 1) (by decide) d_Ck_follows_1 rfl ?_
  refine V_icmp_ne 24 5 d_Ck_follows_2 (by decide) rfl (fun h9 => absurd h9 (not_not_intro rfl)) (fun _ => ?_)
  refine V_al0 6 d_Ck_follows_5 rfl ?_
  refine V_getr 9 0 (lC20 hL) kc_Ck (by decide) fl_Ck_17 (Or.inl rfl) rfl d_Ck_follows_6 rfl ?_
  refine V_il2 10 d_Ck_follows_9 rfl ?_
  refine V_cV1 13 (c_Cs_findValid l G _ _ hL c hH hs hc n h1 hn hv) ok_Cs_findValid ml_Ck_45 im_Cs_findValid se_Cs_findValid (lC4 hL) kc_Cs (gRm_ok (by decide) (by decide)) rfl rfl (Nat.le_of_ble_eq_true rfl) d_Ck_follows_10 ⟨Nat.le_of_ble_eq_true rfl, Nat.le_of_ble_eq_true rfl⟩ rfl ?_
  refine V_al0 14 d_Ck_follows_13 rfl ?_
  refine V_getr 17 1 (lC20 hL) kc_Ck (by decide) fl_Ck_11 (Or.inl rfl) rfl d_Ck_follows_14 rfl ?_
  refine V_il4 19 d_Ck_follows_17 rfl ?_
  refine V_aaln 20 (k) (100 + k) "ProofGate$Fact" (lC21 hL) rfl rfl hk (by decide) (if_pos hk) d_Ck_follows_19 rfl ?_
  refine V_cS1 23 (c_Ck_isSaid_imp l G _ _ (cP n) (cP n + 1) (hRc n h1 hn) (100 + k) (lCF hL hk) hkd) ok_Ck_isSaid ml_Ck_51 st_Ck_isSaid (gRm_ok (by decide) (by decide)) rfl rfl (Nat.le_of_ble_eq_true rfl) d_Ck_follows_20 ⟨Nat.le_of_ble_eq_true rfl, Nat.le_of_ble_eq_true rfl⟩ rfl ?_
  exact V_zret rfl rfl d_Ck_follows_23 ⟨rfl, rfl, rfl⟩
set_option maxRecDepth 100000 in
set_option maxHeartbeats 4000000 in
theorem c_Ck_follows_3 (l : Launch) (G : gG) (L : gLy) (M : gMe) (hL : gLC L) (c : Nat) (hH : gLH L c) (hs : M 5 1 = nI c) (hc : c < 100) (k : Nat) (hk : k < 40) (n : Nat) (h1 : 1 ≤ n) (hn : n ≤ c) (hv : ¬ pVal M (cP n) (M 4 1)) (z : Int32) : gMet l G y_Ck_follows b_Ck_follows 5 (some FieldType.boolean) (rmL 6 0 0) [.ref 20, .int 1, .int (nI n), .int z, .int (nI k)] L M gAll (gPo (some (.int 0)) L M) 0 0 := by
  obtain ⟨e9, cap9, h59, hE9, hRc⟩ := id hH
  refine gMet_of (lv := [some (.ref 20), some (.int 1), some (.int (nI n)), some (.int z), some (.int (nI k))]) (by decide) rfl (Nat.le_of_ble_eq_true rfl) rfl ?_
  refine V_il1 1 d_Ck_follows_0 rfl ?_
  refine V_iconst 2 (v := 1) (by decide) d_Ck_follows_1 rfl ?_
  refine V_icmp_ne 24 5 d_Ck_follows_2 (by decide) rfl (fun h9 => absurd h9 (not_not_intro rfl)) (fun _ => ?_)
  refine V_al0 6 d_Ck_follows_5 rfl ?_
  refine V_getr 9 0 (lC20 hL) kc_Ck (by decide) fl_Ck_17 (Or.inl rfl) rfl d_Ck_follows_6 rfl ?_
  refine V_il2 10 d_Ck_follows_9 rfl ?_
  refine V_cV1 13 (c_Cs_findValid_inv l G _ _ hL c hH hs hc n h1 hn hv) ok_Cs_findValid ml_Ck_45 im_Cs_findValid se_Cs_findValid (lC4 hL) kc_Cs (gRm_ok (by decide) (by decide)) rfl rfl (Nat.le_of_ble_eq_true rfl) d_Ck_follows_10 ⟨Nat.le_of_ble_eq_true rfl, Nat.le_of_ble_eq_true rfl⟩ rfl ?_
  refine V_al0 14 d_Ck_follows_13 rfl ?_
  refine V_getr 17 1 (lC20 hL) kc_Ck (by decide) fl_Ck_11 (Or.inl rfl) rfl d_Ck_follows_14 rfl ?_
  refine V_il4 19 d_Ck_follows_17 rfl ?_
  refine V_aaln 20 (k) (100 + k) "ProofGate$Fact" (lC21 hL) rfl rfl hk (by decide) (if_pos hk) d_Ck_follows_19 rfl ?_
  refine V_cS1 23 (c_Ck_isSaid_null l G _ _ (100 + k)) ok_Ck_isSaid ml_Ck_51 st_Ck_isSaid (gRm_ok (by decide) (by decide)) rfl rfl (Nat.le_of_ble_eq_true rfl) d_Ck_follows_20 ⟨Nat.le_of_ble_eq_true rfl, Nat.le_of_ble_eq_true rfl⟩ rfl ?_
  exact V_zret rfl rfl d_Ck_follows_23 ⟨rfl, rfl, rfl⟩
set_option maxRecDepth 100000 in
set_option maxHeartbeats 4000000 in
theorem c_Ck_follows_4 (l : Launch) (G : gG) (L : gLy) (M : gMe) (hL : gLC L) (c : Nat) (hH : gLH L c) (hs : M 5 1 = nI c) (hc : c < 100) (k : Nat) (hk : k < 40) (x z : Int32) (hx : x < 1 ∨ nI c < x) : gMet l G y_Ck_follows b_Ck_follows 5 (some FieldType.boolean) (rmL 6 0 0) [.ref 20, .int 1, .int x, .int z, .int (nI k)] L M gAll (gPo (some (.int 0)) L M) 0 0 := by
  obtain ⟨e9, cap9, h59, hE9, hRc⟩ := id hH
  refine gMet_of (lv := [some (.ref 20), some (.int 1), some (.int x), some (.int z), some (.int (nI k))]) (by decide) rfl (Nat.le_of_ble_eq_true rfl) rfl ?_
  refine V_il1 1 d_Ck_follows_0 rfl ?_
  refine V_iconst 2 (v := 1) (by decide) d_Ck_follows_1 rfl ?_
  refine V_icmp_ne 24 5 d_Ck_follows_2 (by decide) rfl (fun h9 => absurd h9 (not_not_intro rfl)) (fun _ => ?_)
  refine V_al0 6 d_Ck_follows_5 rfl ?_
  refine V_getr 9 0 (lC20 hL) kc_Ck (by decide) fl_Ck_17 (Or.inl rfl) rfl d_Ck_follows_6 rfl ?_
  refine V_il2 10 d_Ck_follows_9 rfl ?_
  refine V_cV1 13 (c_Cs_findValid_none l G _ _ hL c hH hs x hx) ok_Cs_findValid ml_Ck_45 im_Cs_findValid se_Cs_findValid (lC4 hL) kc_Cs (gRm_ok (by decide) (by decide)) rfl rfl (Nat.le_of_ble_eq_true rfl) d_Ck_follows_10 ⟨Nat.le_of_ble_eq_true rfl, Nat.le_of_ble_eq_true rfl⟩ rfl ?_
  refine V_al0 14 d_Ck_follows_13 rfl ?_
  refine V_getr 17 1 (lC20 hL) kc_Ck (by decide) fl_Ck_11 (Or.inl rfl) rfl d_Ck_follows_14 rfl ?_
  refine V_il4 19 d_Ck_follows_17 rfl ?_
  refine V_aaln 20 (k) (100 + k) "ProofGate$Fact" (lC21 hL) rfl rfl hk (by decide) (if_pos hk) d_Ck_follows_19 rfl ?_
  refine V_cS1 23 (c_Ck_isSaid_null l G _ _ (100 + k)) ok_Ck_isSaid ml_Ck_51 st_Ck_isSaid (gRm_ok (by decide) (by decide)) rfl rfl (Nat.le_of_ble_eq_true rfl) d_Ck_follows_20 ⟨Nat.le_of_ble_eq_true rfl, Nat.le_of_ble_eq_true rfl⟩ rfl ?_
  exact V_zret rfl rfl d_Ck_follows_23 ⟨rfl, rfl, rfl⟩
set_option maxRecDepth 100000 in
set_option maxHeartbeats 4000000 in
theorem c_Ck_follows_5 (l : Launch) (G : gG) (L : gLy) (M : gMe) (hL : gLC L) (c : Nat) (hH : gLH L c) (hs : M 5 1 = nI c) (hc : c < 100) (k : Nat) (hk : k < 40) (u x z : Int32) (hu1 : ¬ u = 1) (hz : z < 0 ∨ ¬ z < nI k) : gMet l G y_Ck_follows b_Ck_follows 5 (some FieldType.boolean) (rmL 6 0 0) [.ref 20, .int u, .int x, .int z, .int (nI k)] L M gAll (gPo (some (.int 0)) L M) 0 0 := by
  obtain ⟨e9, cap9, h59, hE9, hRc⟩ := id hH
  refine gMet_of (lv := [some (.ref 20), some (.int u), some (.int x), some (.int z), some (.int (nI k))]) (by decide) rfl (Nat.le_of_ble_eq_true rfl) rfl ?_
  refine V_il1 1 d_Ck_follows_0 rfl ?_
  refine V_iconst 2 (v := 1) (by decide) d_Ck_follows_1 rfl ?_
  refine V_icmp_ne 24 5 d_Ck_follows_2 (by decide) rfl (fun _ => ?_) (fun h9 => absurd h9 hu1)
  refine V_il3 25 d_Ck_follows_24 rfl ?_
  refine V_if_lt 34 28 d_Ck_follows_25 (by decide) rfl (fun h25 => ?_) (fun h25 => ?_)
  · refine V_iconst 35 (v := 0) (by decide) d_Ck_follows_34 rfl ?_
    exact V_zret rfl rfl d_Ck_follows_35 ⟨rfl, rfl, rfl⟩
  · refine V_il3 29 d_Ck_follows_28 rfl ?_
    refine V_il4 31 d_Ck_follows_29 rfl ?_
    refine V_icmp_lt 36 34 d_Ck_follows_31 (by decide) rfl (fun h9 => absurd h9 (fun h => (hz.resolve_left h25) h)) (fun _ => ?_)
    refine V_iconst 35 (v := 0) (by decide) d_Ck_follows_34 rfl ?_
    exact V_zret rfl rfl d_Ck_follows_35 ⟨rfl, rfl, rfl⟩
set_option maxRecDepth 100000 in
set_option maxHeartbeats 4000000 in
theorem c_Ck_follows_6 (l : Launch) (G : gG) (L : gLy) (M : gMe) (hL : gLC L) (c : Nat) (hH : gLH L c) (hs : M 5 1 = nI c) (hc : c < 100) (k : Nat) (hk : k < 40) (n : Nat) (h1 : 1 ≤ n) (hn : n ≤ c) (j : Nat) (hj : j < k) (hv : pVal M (cP n) (M 4 1)) : gMet l G y_Ck_follows b_Ck_follows 5 (some FieldType.boolean) (rmL 6 0 0) [.ref 20, .int 7, .int (nI n), .int (nI j), .int (nI k)] L M gAll (gPo (some (.int (bi (pIm M (cP n) (cP n + 1) (100 + j))))) L (imM M (cP n) (cP n + 1) (100 + j) (100 + k))) 0 0 := by
  obtain ⟨e9, cap9, h59, hE9, hRc⟩ := id hH
  refine gMet_of (lv := [some (.ref 20), some (.int 7), some (.int (nI n)), some (.int (nI j)), some (.int (nI k))]) (by decide) rfl (Nat.le_of_ble_eq_true rfl) rfl ?_
  refine V_il1 1 d_Ck_follows_0 rfl ?_
  refine V_iconst 2 (v := 1) (by decide) d_Ck_follows_1 rfl ?_
  refine V_icmp_ne 24 5 d_Ck_follows_2 (by decide) rfl (fun _ => ?_) (fun h9 => absurd h9 (show ¬ (7 : Int32) = 1 by decide))
  refine V_il3 25 d_Ck_follows_24 rfl ?_
  refine V_if_lt 34 28 d_Ck_follows_25 (by decide) rfl (fun h9 => absurd h9 (nI_pos (by omega))) (fun _ => ?_)
  refine V_il3 29 d_Ck_follows_28 rfl ?_
  refine V_il4 31 d_Ck_follows_29 rfl ?_
  refine V_icmp_lt 36 34 d_Ck_follows_31 (by decide) rfl (fun _ => ?_) (fun h9 => absurd (nI_lt hj (by omega)) h9)
  refine V_il1 37 d_Ck_follows_36 rfl ?_
  refine V_bipush 39 (v := 7) (by decide) d_Ck_follows_37 rfl ?_
  refine V_icmp_ne 67 42 d_Ck_follows_39 (by decide) rfl (fun h9 => absurd h9 (not_not_intro rfl)) (fun _ => ?_)
  refine V_al0 43 d_Ck_follows_42 rfl ?_
  refine V_getr 46 0 (lC20 hL) kc_Ck (by decide) fl_Ck_17 (Or.inl rfl) rfl d_Ck_follows_43 rfl ?_
  refine V_il2 47 d_Ck_follows_46 rfl ?_
  refine V_cV1 50 (c_Cs_findValid l G _ _ hL c hH hs hc n h1 hn hv) ok_Cs_findValid ml_Ck_45 im_Cs_findValid se_Cs_findValid (lC4 hL) kc_Cs (gRm_ok (by decide) (by decide)) rfl rfl (Nat.le_of_ble_eq_true rfl) d_Ck_follows_47 ⟨Nat.le_of_ble_eq_true rfl, Nat.le_of_ble_eq_true rfl⟩ rfl ?_
  refine V_al0 51 d_Ck_follows_50 rfl ?_
  refine V_getr 54 1 (lC20 hL) kc_Ck (by decide) fl_Ck_11 (Or.inl rfl) rfl d_Ck_follows_51 rfl ?_
  refine V_il3 55 d_Ck_follows_54 rfl ?_
  refine V_aaln 56 (j) (100 + j) "ProofGate$Fact" (lC21 hL) rfl rfl (by omega) (by decide) (if_pos (by omega)) d_Ck_follows_55 rfl ?_
  refine V_al0 57 d_Ck_follows_56 rfl ?_
  refine V_getr 60 1 (lC20 hL) kc_Ck (by decide) fl_Ck_11 (Or.inl rfl) rfl d_Ck_follows_57 rfl ?_
  refine V_il4 62 d_Ck_follows_60 rfl ?_
  refine V_aaln 63 (k) (100 + k) "ProofGate$Fact" (lC21 hL) rfl rfl hk (by decide) (if_pos hk) d_Ck_follows_62 rfl ?_
  refine V_cS1 66 (c_Ck_isImplied l G _ _ (cP n) (cP n + 1) (hRc n h1 hn) (100 + j) (100 + k) (lCF hL (by omega)) (lCF hL hk)) ok_Ck_isImplied ml_Ck_55 st_Ck_isImplied (gRm_ok (by decide) (by decide)) rfl rfl (Nat.le_of_ble_eq_true rfl) d_Ck_follows_63 ⟨Nat.le_of_ble_eq_true rfl, Nat.le_of_ble_eq_true rfl⟩ rfl ?_
  exact V_zret rfl bi_n d_Ck_follows_66 ⟨rfl, rfl, rfl⟩
set_option maxRecDepth 100000 in
set_option maxHeartbeats 4000000 in
theorem c_Ck_follows_7 (l : Launch) (G : gG) (L : gLy) (M : gMe) (hL : gLC L) (c : Nat) (hH : gLH L c) (hs : M 5 1 = nI c) (hc : c < 100) (k : Nat) (hk : k < 40) (n : Nat) (h1 : 1 ≤ n) (hn : n ≤ c) (j : Nat) (hj : j < k) (hv : ¬ pVal M (cP n) (M 4 1)) : gMet l G y_Ck_follows b_Ck_follows 5 (some FieldType.boolean) (rmL 6 0 0) [.ref 20, .int 7, .int (nI n), .int (nI j), .int (nI k)] L M gAll (gPo (some (.int 0)) L M) 0 0 := by
  obtain ⟨e9, cap9, h59, hE9, hRc⟩ := id hH
  refine gMet_of (lv := [some (.ref 20), some (.int 7), some (.int (nI n)), some (.int (nI j)), some (.int (nI k))]) (by decide) rfl (Nat.le_of_ble_eq_true rfl) rfl ?_
  refine V_il1 1 d_Ck_follows_0 rfl ?_
  refine V_iconst 2 (v := 1) (by decide) d_Ck_follows_1 rfl ?_
  refine V_icmp_ne 24 5 d_Ck_follows_2 (by decide) rfl (fun _ => ?_) (fun h9 => absurd h9 (show ¬ (7 : Int32) = 1 by decide))
  refine V_il3 25 d_Ck_follows_24 rfl ?_
  refine V_if_lt 34 28 d_Ck_follows_25 (by decide) rfl (fun h9 => absurd h9 (nI_pos (by omega))) (fun _ => ?_)
  refine V_il3 29 d_Ck_follows_28 rfl ?_
  refine V_il4 31 d_Ck_follows_29 rfl ?_
  refine V_icmp_lt 36 34 d_Ck_follows_31 (by decide) rfl (fun _ => ?_) (fun h9 => absurd (nI_lt hj (by omega)) h9)
  refine V_il1 37 d_Ck_follows_36 rfl ?_
  refine V_bipush 39 (v := 7) (by decide) d_Ck_follows_37 rfl ?_
  refine V_icmp_ne 67 42 d_Ck_follows_39 (by decide) rfl (fun h9 => absurd h9 (not_not_intro rfl)) (fun _ => ?_)
  refine V_al0 43 d_Ck_follows_42 rfl ?_
  refine V_getr 46 0 (lC20 hL) kc_Ck (by decide) fl_Ck_17 (Or.inl rfl) rfl d_Ck_follows_43 rfl ?_
  refine V_il2 47 d_Ck_follows_46 rfl ?_
  refine V_cV1 50 (c_Cs_findValid_inv l G _ _ hL c hH hs hc n h1 hn hv) ok_Cs_findValid ml_Ck_45 im_Cs_findValid se_Cs_findValid (lC4 hL) kc_Cs (gRm_ok (by decide) (by decide)) rfl rfl (Nat.le_of_ble_eq_true rfl) d_Ck_follows_47 ⟨Nat.le_of_ble_eq_true rfl, Nat.le_of_ble_eq_true rfl⟩ rfl ?_
  refine V_al0 51 d_Ck_follows_50 rfl ?_
  refine V_getr 54 1 (lC20 hL) kc_Ck (by decide) fl_Ck_11 (Or.inl rfl) rfl d_Ck_follows_51 rfl ?_
  refine V_il3 55 d_Ck_follows_54 rfl ?_
  refine V_aaln 56 (j) (100 + j) "ProofGate$Fact" (lC21 hL) rfl rfl (by omega) (by decide) (if_pos (by omega)) d_Ck_follows_55 rfl ?_
  refine V_al0 57 d_Ck_follows_56 rfl ?_
  refine V_getr 60 1 (lC20 hL) kc_Ck (by decide) fl_Ck_11 (Or.inl rfl) rfl d_Ck_follows_57 rfl ?_
  refine V_il4 62 d_Ck_follows_60 rfl ?_
  refine V_aaln 63 (k) (100 + k) "ProofGate$Fact" (lC21 hL) rfl rfl hk (by decide) (if_pos hk) d_Ck_follows_62 rfl ?_
  refine V_cS1 66 (c_Ck_isImplied_null l G _ _ (100 + j) (100 + k)) ok_Ck_isImplied ml_Ck_55 st_Ck_isImplied (gRm_ok (by decide) (by decide)) rfl rfl (Nat.le_of_ble_eq_true rfl) d_Ck_follows_63 ⟨Nat.le_of_ble_eq_true rfl, Nat.le_of_ble_eq_true rfl⟩ rfl ?_
  exact V_zret rfl rfl d_Ck_follows_66 ⟨rfl, rfl, rfl⟩
set_option maxRecDepth 100000 in
set_option maxHeartbeats 4000000 in
theorem c_Ck_follows_8 (l : Launch) (G : gG) (L : gLy) (M : gMe) (hL : gLC L) (c : Nat) (hH : gLH L c) (hs : M 5 1 = nI c) (hc : c < 100) (k : Nat) (hk : k < 40) (j : Nat) (hj : j < k) (x : Int32) (hx : x < 1 ∨ nI c < x) : gMet l G y_Ck_follows b_Ck_follows 5 (some FieldType.boolean) (rmL 6 0 0) [.ref 20, .int 7, .int x, .int (nI j), .int (nI k)] L M gAll (gPo (some (.int 0)) L M) 0 0 := by
  obtain ⟨e9, cap9, h59, hE9, hRc⟩ := id hH
  refine gMet_of (lv := [some (.ref 20), some (.int 7), some (.int x), some (.int (nI j)), some (.int (nI k))]) (by decide) rfl (Nat.le_of_ble_eq_true rfl) rfl ?_
  refine V_il1 1 d_Ck_follows_0 rfl ?_
  refine V_iconst 2 (v := 1) (by decide) d_Ck_follows_1 rfl ?_
  refine V_icmp_ne 24 5 d_Ck_follows_2 (by decide) rfl (fun _ => ?_) (fun h9 => absurd h9 (show ¬ (7 : Int32) = 1 by decide))
  refine V_il3 25 d_Ck_follows_24 rfl ?_
  refine V_if_lt 34 28 d_Ck_follows_25 (by decide) rfl (fun h9 => absurd h9 (nI_pos (by omega))) (fun _ => ?_)
  refine V_il3 29 d_Ck_follows_28 rfl ?_
  refine V_il4 31 d_Ck_follows_29 rfl ?_
  refine V_icmp_lt 36 34 d_Ck_follows_31 (by decide) rfl (fun _ => ?_) (fun h9 => absurd (nI_lt hj (by omega)) h9)
  refine V_il1 37 d_Ck_follows_36 rfl ?_
  refine V_bipush 39 (v := 7) (by decide) d_Ck_follows_37 rfl ?_
  refine V_icmp_ne 67 42 d_Ck_follows_39 (by decide) rfl (fun h9 => absurd h9 (not_not_intro rfl)) (fun _ => ?_)
  refine V_al0 43 d_Ck_follows_42 rfl ?_
  refine V_getr 46 0 (lC20 hL) kc_Ck (by decide) fl_Ck_17 (Or.inl rfl) rfl d_Ck_follows_43 rfl ?_
  refine V_il2 47 d_Ck_follows_46 rfl ?_
  refine V_cV1 50 (c_Cs_findValid_none l G _ _ hL c hH hs x hx) ok_Cs_findValid ml_Ck_45 im_Cs_findValid se_Cs_findValid (lC4 hL) kc_Cs (gRm_ok (by decide) (by decide)) rfl rfl (Nat.le_of_ble_eq_true rfl) d_Ck_follows_47 ⟨Nat.le_of_ble_eq_true rfl, Nat.le_of_ble_eq_true rfl⟩ rfl ?_
  refine V_al0 51 d_Ck_follows_50 rfl ?_
  refine V_getr 54 1 (lC20 hL) kc_Ck (by decide) fl_Ck_11 (Or.inl rfl) rfl d_Ck_follows_51 rfl ?_
  refine V_il3 55 d_Ck_follows_54 rfl ?_
  refine V_aaln 56 (j) (100 + j) "ProofGate$Fact" (lC21 hL) rfl rfl (by omega) (by decide) (if_pos (by omega)) d_Ck_follows_55 rfl ?_
  refine V_al0 57 d_Ck_follows_56 rfl ?_
  refine V_getr 60 1 (lC20 hL) kc_Ck (by decide) fl_Ck_11 (Or.inl rfl) rfl d_Ck_follows_57 rfl ?_
  refine V_il4 62 d_Ck_follows_60 rfl ?_
  refine V_aaln 63 (k) (100 + k) "ProofGate$Fact" (lC21 hL) rfl rfl hk (by decide) (if_pos hk) d_Ck_follows_62 rfl ?_
  refine V_cS1 66 (c_Ck_isImplied_null l G _ _ (100 + j) (100 + k)) ok_Ck_isImplied ml_Ck_55 st_Ck_isImplied (gRm_ok (by decide) (by decide)) rfl rfl (Nat.le_of_ble_eq_true rfl) d_Ck_follows_63 ⟨Nat.le_of_ble_eq_true rfl, Nat.le_of_ble_eq_true rfl⟩ rfl ?_
  exact V_zret rfl rfl d_Ck_follows_66 ⟨rfl, rfl, rfl⟩
set_option maxRecDepth 100000 in
set_option maxHeartbeats 4000000 in
theorem c_Ck_follows_9 (l : Launch) (G : gG) (L : gLy) (M : gMe) (hL : gLC L) (c : Nat) (hH : gLH L c) (hs : M 5 1 = nI c) (hc : c < 100) (k : Nat) (hk : k < 40) (j : Nat) (hj : j < k) (u x : Int32) (hu1 : ¬ u = 1) (hu7 : ¬ u = 7) (hx : x < 0 ∨ nI k ≤ x) : gMet l G y_Ck_follows b_Ck_follows 5 (some FieldType.boolean) (rmL 6 0 0) [.ref 20, .int u, .int x, .int (nI j), .int (nI k)] L M gAll (gPo (some (.int 0)) L M) 0 0 := by
  obtain ⟨e9, cap9, h59, hE9, hRc⟩ := id hH
  refine gMet_of (lv := [some (.ref 20), some (.int u), some (.int x), some (.int (nI j)), some (.int (nI k))]) (by decide) rfl (Nat.le_of_ble_eq_true rfl) rfl ?_
  refine V_il1 1 d_Ck_follows_0 rfl ?_
  refine V_iconst 2 (v := 1) (by decide) d_Ck_follows_1 rfl ?_
  refine V_icmp_ne 24 5 d_Ck_follows_2 (by decide) rfl (fun _ => ?_) (fun h9 => absurd h9 hu1)
  refine V_il3 25 d_Ck_follows_24 rfl ?_
  refine V_if_lt 34 28 d_Ck_follows_25 (by decide) rfl (fun h9 => absurd h9 (nI_pos (by omega))) (fun _ => ?_)
  refine V_il3 29 d_Ck_follows_28 rfl ?_
  refine V_il4 31 d_Ck_follows_29 rfl ?_
  refine V_icmp_lt 36 34 d_Ck_follows_31 (by decide) rfl (fun _ => ?_) (fun h9 => absurd (nI_lt hj (by omega)) h9)
  refine V_il1 37 d_Ck_follows_36 rfl ?_
  refine V_bipush 39 (v := 7) (by decide) d_Ck_follows_37 rfl ?_
  refine V_icmp_ne 67 42 d_Ck_follows_39 (by decide) rfl (fun _ => ?_) (fun h9 => absurd h9 hu7)
  refine V_il2 68 d_Ck_follows_67 rfl ?_
  refine V_if_lt 107 71 d_Ck_follows_68 (by decide) rfl (fun h68 => ?_) (fun h68 => ?_)
  · refine V_iconst 108 (v := 0) (by decide) d_Ck_follows_107 rfl ?_
    exact V_zret rfl rfl d_Ck_follows_108 ⟨rfl, rfl, rfl⟩
  · refine V_il2 72 d_Ck_follows_71 rfl ?_
    refine V_il4 74 d_Ck_follows_72 rfl ?_
    refine V_icmp_ge 107 77 d_Ck_follows_74 (by decide) rfl (fun _ => ?_) (fun h9 => absurd (hx.resolve_left h68) h9)
    refine V_iconst 108 (v := 0) (by decide) d_Ck_follows_107 rfl ?_
    exact V_zret rfl rfl d_Ck_follows_108 ⟨rfl, rfl, rfl⟩
set_option maxRecDepth 100000 in
set_option maxHeartbeats 4000000 in
theorem c_Ck_follows_j2 (l : Launch) (G : gG) (L : gLy) (M : gMe) (hL : gLC L) (c : Nat) (hH : gLH L c) (hs : M 5 1 = nI c) (hc : c < 100) (k : Nat) (hk : k < 40) (j : Nat) (hj : j < k) (i : Nat) (hi : i < k) : gMet l G y_Ck_follows b_Ck_follows 5 (some FieldType.boolean) (rmL 6 0 0) [.ref 20, .int 2, .int (nI i), .int (nI j), .int (nI k)] L M gAll (gPo (some (.int (bi (pJ2 M (100 + i) (100 + j))))) L (jM2 M (100 + i) (100 + j) (100 + k))) 0 0 := by
  obtain ⟨e9, cap9, h59, hE9, hRc⟩ := id hH
  refine gMet_of (lv := [some (.ref 20), some (.int 2), some (.int (nI i)), some (.int (nI j)), some (.int (nI k))]) (by decide) rfl (Nat.le_of_ble_eq_true rfl) rfl ?_
  refine V_il1 1 d_Ck_follows_0 rfl ?_
  refine V_iconst 2 (v := 1) (by decide) d_Ck_follows_1 rfl ?_
  refine V_icmp_ne 24 5 d_Ck_follows_2 (by decide) rfl (fun _ => ?_) (fun h9 => absurd h9 (show ¬ (2 : Int32) = 1 by decide))
  refine V_il3 25 d_Ck_follows_24 rfl ?_
  refine V_if_lt 34 28 d_Ck_follows_25 (by decide) rfl (fun h9 => absurd h9 (nI_pos (by omega))) (fun _ => ?_)
  refine V_il3 29 d_Ck_follows_28 rfl ?_
  refine V_il4 31 d_Ck_follows_29 rfl ?_
  refine V_icmp_lt 36 34 d_Ck_follows_31 (by decide) rfl (fun _ => ?_) (fun h9 => absurd (nI_lt hj (by omega)) h9)
  refine V_il1 37 d_Ck_follows_36 rfl ?_
  refine V_bipush 39 (v := 7) (by decide) d_Ck_follows_37 rfl ?_
  refine V_icmp_ne 67 42 d_Ck_follows_39 (by decide) rfl (fun _ => ?_) (fun h9 => absurd h9 (show ¬ (2 : Int32) = 7 by decide))
  refine V_il2 68 d_Ck_follows_67 rfl ?_
  refine V_if_lt 107 71 d_Ck_follows_68 (by decide) rfl (fun h9 => absurd h9 (nI_pos (by omega))) (fun _ => ?_)
  refine V_il2 72 d_Ck_follows_71 rfl ?_
  refine V_il4 74 d_Ck_follows_72 rfl ?_
  refine V_icmp_ge 107 77 d_Ck_follows_74 (by decide) rfl (fun h9 => absurd h9 (nI_ge hi (by omega))) (fun _ => ?_)
  refine V_il1 78 d_Ck_follows_77 rfl ?_
  refine V_al0 79 d_Ck_follows_78 rfl ?_
  refine V_getr 82 1 (lC20 hL) kc_Ck (by decide) fl_Ck_11 (Or.inl rfl) rfl d_Ck_follows_79 rfl ?_
  refine V_il2 83 d_Ck_follows_82 rfl ?_
  refine V_aaln 84 (i) (100 + i) "ProofGate$Fact" (lC21 hL) rfl rfl (by omega) (by decide) (if_pos (by omega)) d_Ck_follows_83 rfl ?_
  refine V_al0 85 d_Ck_follows_84 rfl ?_
  refine V_getr 88 1 (lC20 hL) kc_Ck (by decide) fl_Ck_11 (Or.inl rfl) rfl d_Ck_follows_85 rfl ?_
  refine V_il3 89 d_Ck_follows_88 rfl ?_
  refine V_aaln 90 (j) (100 + j) "ProofGate$Fact" (lC21 hL) rfl rfl (by omega) (by decide) (if_pos (by omega)) d_Ck_follows_89 rfl ?_
  refine V_al0 91 d_Ck_follows_90 rfl ?_
  refine V_getr 94 1 (lC20 hL) kc_Ck (by decide) fl_Ck_11 (Or.inl rfl) rfl d_Ck_follows_91 rfl ?_
  refine V_il4 96 d_Ck_follows_94 rfl ?_
  refine V_aaln 97 (k) (100 + k) "ProofGate$Fact" (lC21 hL) rfl rfl hk (by decide) (if_pos hk) d_Ck_follows_96 rfl ?_
  refine V_cS1 100 (c_Ck_isJoined2 l G _ _ (100 + i) (100 + j) (100 + k) (lCF hL (by omega)) (lCF hL (by omega)) (lCF hL hk)) ok_Ck_isJoined ml_Ck_59 st_Ck_isJoined (gRm_ok (by decide) (by decide)) rfl rfl (Nat.le_of_ble_eq_true rfl) d_Ck_follows_97 ⟨Nat.le_of_ble_eq_true rfl, Nat.le_of_ble_eq_true rfl⟩ rfl ?_
  refine V_bz 107 103 d_Ck_follows_100 (by decide) rfl (fun h100 => ?_) (fun h100 => ?_)
  · refine V_iconst 108 (v := 0) (by decide) d_Ck_follows_107 rfl ?_
    exact V_zret rfl rfl d_Ck_follows_108 ⟨by rw [bi_f h100], rfl, rfl⟩
  · refine V_iconst 104 (v := 1) (by decide) d_Ck_follows_103 rfl ?_
    refine V_goto 108 d_Ck_follows_104 (by decide) ?_
    exact V_zret rfl rfl d_Ck_follows_108 ⟨by rw [bi_t h100], rfl, rfl⟩
set_option maxRecDepth 100000 in
set_option maxHeartbeats 4000000 in
theorem c_Ck_follows_j3 (l : Launch) (G : gG) (L : gLy) (M : gMe) (hL : gLC L) (c : Nat) (hH : gLH L c) (hs : M 5 1 = nI c) (hc : c < 100) (k : Nat) (hk : k < 40) (j : Nat) (hj : j < k) (i : Nat) (hi : i < k) : gMet l G y_Ck_follows b_Ck_follows 5 (some FieldType.boolean) (rmL 6 0 0) [.ref 20, .int 3, .int (nI i), .int (nI j), .int (nI k)] L M gAll (gPo (some (.int (bi (pJ3 M (100 + i) (100 + j))))) L (jM3 M (100 + i) (100 + j) (100 + k))) 0 0 := by
  obtain ⟨e9, cap9, h59, hE9, hRc⟩ := id hH
  refine gMet_of (lv := [some (.ref 20), some (.int 3), some (.int (nI i)), some (.int (nI j)), some (.int (nI k))]) (by decide) rfl (Nat.le_of_ble_eq_true rfl) rfl ?_
  refine V_il1 1 d_Ck_follows_0 rfl ?_
  refine V_iconst 2 (v := 1) (by decide) d_Ck_follows_1 rfl ?_
  refine V_icmp_ne 24 5 d_Ck_follows_2 (by decide) rfl (fun _ => ?_) (fun h9 => absurd h9 (show ¬ (3 : Int32) = 1 by decide))
  refine V_il3 25 d_Ck_follows_24 rfl ?_
  refine V_if_lt 34 28 d_Ck_follows_25 (by decide) rfl (fun h9 => absurd h9 (nI_pos (by omega))) (fun _ => ?_)
  refine V_il3 29 d_Ck_follows_28 rfl ?_
  refine V_il4 31 d_Ck_follows_29 rfl ?_
  refine V_icmp_lt 36 34 d_Ck_follows_31 (by decide) rfl (fun _ => ?_) (fun h9 => absurd (nI_lt hj (by omega)) h9)
  refine V_il1 37 d_Ck_follows_36 rfl ?_
  refine V_bipush 39 (v := 7) (by decide) d_Ck_follows_37 rfl ?_
  refine V_icmp_ne 67 42 d_Ck_follows_39 (by decide) rfl (fun _ => ?_) (fun h9 => absurd h9 (show ¬ (3 : Int32) = 7 by decide))
  refine V_il2 68 d_Ck_follows_67 rfl ?_
  refine V_if_lt 107 71 d_Ck_follows_68 (by decide) rfl (fun h9 => absurd h9 (nI_pos (by omega))) (fun _ => ?_)
  refine V_il2 72 d_Ck_follows_71 rfl ?_
  refine V_il4 74 d_Ck_follows_72 rfl ?_
  refine V_icmp_ge 107 77 d_Ck_follows_74 (by decide) rfl (fun h9 => absurd h9 (nI_ge hi (by omega))) (fun _ => ?_)
  refine V_il1 78 d_Ck_follows_77 rfl ?_
  refine V_al0 79 d_Ck_follows_78 rfl ?_
  refine V_getr 82 1 (lC20 hL) kc_Ck (by decide) fl_Ck_11 (Or.inl rfl) rfl d_Ck_follows_79 rfl ?_
  refine V_il2 83 d_Ck_follows_82 rfl ?_
  refine V_aaln 84 (i) (100 + i) "ProofGate$Fact" (lC21 hL) rfl rfl (by omega) (by decide) (if_pos (by omega)) d_Ck_follows_83 rfl ?_
  refine V_al0 85 d_Ck_follows_84 rfl ?_
  refine V_getr 88 1 (lC20 hL) kc_Ck (by decide) fl_Ck_11 (Or.inl rfl) rfl d_Ck_follows_85 rfl ?_
  refine V_il3 89 d_Ck_follows_88 rfl ?_
  refine V_aaln 90 (j) (100 + j) "ProofGate$Fact" (lC21 hL) rfl rfl (by omega) (by decide) (if_pos (by omega)) d_Ck_follows_89 rfl ?_
  refine V_al0 91 d_Ck_follows_90 rfl ?_
  refine V_getr 94 1 (lC20 hL) kc_Ck (by decide) fl_Ck_11 (Or.inl rfl) rfl d_Ck_follows_91 rfl ?_
  refine V_il4 96 d_Ck_follows_94 rfl ?_
  refine V_aaln 97 (k) (100 + k) "ProofGate$Fact" (lC21 hL) rfl rfl hk (by decide) (if_pos hk) d_Ck_follows_96 rfl ?_
  refine V_cS1 100 (c_Ck_isJoined3 l G _ _ (100 + i) (100 + j) (100 + k) (lCF hL (by omega)) (lCF hL (by omega)) (lCF hL hk)) ok_Ck_isJoined ml_Ck_59 st_Ck_isJoined (gRm_ok (by decide) (by decide)) rfl rfl (Nat.le_of_ble_eq_true rfl) d_Ck_follows_97 ⟨Nat.le_of_ble_eq_true rfl, Nat.le_of_ble_eq_true rfl⟩ rfl ?_
  refine V_bz 107 103 d_Ck_follows_100 (by decide) rfl (fun h100 => ?_) (fun h100 => ?_)
  · refine V_iconst 108 (v := 0) (by decide) d_Ck_follows_107 rfl ?_
    exact V_zret rfl rfl d_Ck_follows_108 ⟨by rw [bi_f h100], rfl, rfl⟩
  · refine V_iconst 104 (v := 1) (by decide) d_Ck_follows_103 rfl ?_
    refine V_goto 108 d_Ck_follows_104 (by decide) ?_
    exact V_zret rfl rfl d_Ck_follows_108 ⟨by rw [bi_t h100], rfl, rfl⟩
set_option maxRecDepth 100000 in
set_option maxHeartbeats 4000000 in
theorem c_Ck_follows_j4 (l : Launch) (G : gG) (L : gLy) (M : gMe) (hL : gLC L) (c : Nat) (hH : gLH L c) (hs : M 5 1 = nI c) (hc : c < 100) (k : Nat) (hk : k < 40) (j : Nat) (hj : j < k) (i : Nat) (hi : i < k) : gMet l G y_Ck_follows b_Ck_follows 5 (some FieldType.boolean) (rmL 6 0 0) [.ref 20, .int 4, .int (nI i), .int (nI j), .int (nI k)] L M gAll (gPo (some (.int (bi (pJ4 M (100 + i) (100 + j))))) L (jM4 M (100 + i) (100 + j) (100 + k))) 0 0 := by
  obtain ⟨e9, cap9, h59, hE9, hRc⟩ := id hH
  refine gMet_of (lv := [some (.ref 20), some (.int 4), some (.int (nI i)), some (.int (nI j)), some (.int (nI k))]) (by decide) rfl (Nat.le_of_ble_eq_true rfl) rfl ?_
  refine V_il1 1 d_Ck_follows_0 rfl ?_
  refine V_iconst 2 (v := 1) (by decide) d_Ck_follows_1 rfl ?_
  refine V_icmp_ne 24 5 d_Ck_follows_2 (by decide) rfl (fun _ => ?_) (fun h9 => absurd h9 (show ¬ (4 : Int32) = 1 by decide))
  refine V_il3 25 d_Ck_follows_24 rfl ?_
  refine V_if_lt 34 28 d_Ck_follows_25 (by decide) rfl (fun h9 => absurd h9 (nI_pos (by omega))) (fun _ => ?_)
  refine V_il3 29 d_Ck_follows_28 rfl ?_
  refine V_il4 31 d_Ck_follows_29 rfl ?_
  refine V_icmp_lt 36 34 d_Ck_follows_31 (by decide) rfl (fun _ => ?_) (fun h9 => absurd (nI_lt hj (by omega)) h9)
  refine V_il1 37 d_Ck_follows_36 rfl ?_
  refine V_bipush 39 (v := 7) (by decide) d_Ck_follows_37 rfl ?_
  refine V_icmp_ne 67 42 d_Ck_follows_39 (by decide) rfl (fun _ => ?_) (fun h9 => absurd h9 (show ¬ (4 : Int32) = 7 by decide))
  refine V_il2 68 d_Ck_follows_67 rfl ?_
  refine V_if_lt 107 71 d_Ck_follows_68 (by decide) rfl (fun h9 => absurd h9 (nI_pos (by omega))) (fun _ => ?_)
  refine V_il2 72 d_Ck_follows_71 rfl ?_
  refine V_il4 74 d_Ck_follows_72 rfl ?_
  refine V_icmp_ge 107 77 d_Ck_follows_74 (by decide) rfl (fun h9 => absurd h9 (nI_ge hi (by omega))) (fun _ => ?_)
  refine V_il1 78 d_Ck_follows_77 rfl ?_
  refine V_al0 79 d_Ck_follows_78 rfl ?_
  refine V_getr 82 1 (lC20 hL) kc_Ck (by decide) fl_Ck_11 (Or.inl rfl) rfl d_Ck_follows_79 rfl ?_
  refine V_il2 83 d_Ck_follows_82 rfl ?_
  refine V_aaln 84 (i) (100 + i) "ProofGate$Fact" (lC21 hL) rfl rfl (by omega) (by decide) (if_pos (by omega)) d_Ck_follows_83 rfl ?_
  refine V_al0 85 d_Ck_follows_84 rfl ?_
  refine V_getr 88 1 (lC20 hL) kc_Ck (by decide) fl_Ck_11 (Or.inl rfl) rfl d_Ck_follows_85 rfl ?_
  refine V_il3 89 d_Ck_follows_88 rfl ?_
  refine V_aaln 90 (j) (100 + j) "ProofGate$Fact" (lC21 hL) rfl rfl (by omega) (by decide) (if_pos (by omega)) d_Ck_follows_89 rfl ?_
  refine V_al0 91 d_Ck_follows_90 rfl ?_
  refine V_getr 94 1 (lC20 hL) kc_Ck (by decide) fl_Ck_11 (Or.inl rfl) rfl d_Ck_follows_91 rfl ?_
  refine V_il4 96 d_Ck_follows_94 rfl ?_
  refine V_aaln 97 (k) (100 + k) "ProofGate$Fact" (lC21 hL) rfl rfl hk (by decide) (if_pos hk) d_Ck_follows_96 rfl ?_
  refine V_cS1 100 (c_Ck_isJoined4 l G _ _ (100 + i) (100 + j) (100 + k) (lCF hL (by omega)) (lCF hL (by omega)) (lCF hL hk)) ok_Ck_isJoined ml_Ck_59 st_Ck_isJoined (gRm_ok (by decide) (by decide)) rfl rfl (Nat.le_of_ble_eq_true rfl) d_Ck_follows_97 ⟨Nat.le_of_ble_eq_true rfl, Nat.le_of_ble_eq_true rfl⟩ rfl ?_
  refine V_bz 107 103 d_Ck_follows_100 (by decide) rfl (fun h100 => ?_) (fun h100 => ?_)
  · refine V_iconst 108 (v := 0) (by decide) d_Ck_follows_107 rfl ?_
    exact V_zret rfl rfl d_Ck_follows_108 ⟨by rw [bi_f h100], rfl, rfl⟩
  · refine V_iconst 104 (v := 1) (by decide) d_Ck_follows_103 rfl ?_
    refine V_goto 108 d_Ck_follows_104 (by decide) ?_
    exact V_zret rfl rfl d_Ck_follows_108 ⟨by rw [bi_t h100], rfl, rfl⟩
set_option maxRecDepth 100000 in
set_option maxHeartbeats 4000000 in
theorem c_Ck_follows_j5 (l : Launch) (G : gG) (L : gLy) (M : gMe) (hL : gLC L) (c : Nat) (hH : gLH L c) (hs : M 5 1 = nI c) (hc : c < 100) (k : Nat) (hk : k < 40) (j : Nat) (hj : j < k) (i : Nat) (hi : i < k) : gMet l G y_Ck_follows b_Ck_follows 5 (some FieldType.boolean) (rmL 6 0 0) [.ref 20, .int 5, .int (nI i), .int (nI j), .int (nI k)] L M gAll (gPo (some (.int (bi (pJ5 M (100 + i) (100 + j))))) L (jM5 M (100 + i) (100 + j) (100 + k))) 0 0 := by
  obtain ⟨e9, cap9, h59, hE9, hRc⟩ := id hH
  refine gMet_of (lv := [some (.ref 20), some (.int 5), some (.int (nI i)), some (.int (nI j)), some (.int (nI k))]) (by decide) rfl (Nat.le_of_ble_eq_true rfl) rfl ?_
  refine V_il1 1 d_Ck_follows_0 rfl ?_
  refine V_iconst 2 (v := 1) (by decide) d_Ck_follows_1 rfl ?_
  refine V_icmp_ne 24 5 d_Ck_follows_2 (by decide) rfl (fun _ => ?_) (fun h9 => absurd h9 (show ¬ (5 : Int32) = 1 by decide))
  refine V_il3 25 d_Ck_follows_24 rfl ?_
  refine V_if_lt 34 28 d_Ck_follows_25 (by decide) rfl (fun h9 => absurd h9 (nI_pos (by omega))) (fun _ => ?_)
  refine V_il3 29 d_Ck_follows_28 rfl ?_
  refine V_il4 31 d_Ck_follows_29 rfl ?_
  refine V_icmp_lt 36 34 d_Ck_follows_31 (by decide) rfl (fun _ => ?_) (fun h9 => absurd (nI_lt hj (by omega)) h9)
  refine V_il1 37 d_Ck_follows_36 rfl ?_
  refine V_bipush 39 (v := 7) (by decide) d_Ck_follows_37 rfl ?_
  refine V_icmp_ne 67 42 d_Ck_follows_39 (by decide) rfl (fun _ => ?_) (fun h9 => absurd h9 (show ¬ (5 : Int32) = 7 by decide))
  refine V_il2 68 d_Ck_follows_67 rfl ?_
  refine V_if_lt 107 71 d_Ck_follows_68 (by decide) rfl (fun h9 => absurd h9 (nI_pos (by omega))) (fun _ => ?_)
  refine V_il2 72 d_Ck_follows_71 rfl ?_
  refine V_il4 74 d_Ck_follows_72 rfl ?_
  refine V_icmp_ge 107 77 d_Ck_follows_74 (by decide) rfl (fun h9 => absurd h9 (nI_ge hi (by omega))) (fun _ => ?_)
  refine V_il1 78 d_Ck_follows_77 rfl ?_
  refine V_al0 79 d_Ck_follows_78 rfl ?_
  refine V_getr 82 1 (lC20 hL) kc_Ck (by decide) fl_Ck_11 (Or.inl rfl) rfl d_Ck_follows_79 rfl ?_
  refine V_il2 83 d_Ck_follows_82 rfl ?_
  refine V_aaln 84 (i) (100 + i) "ProofGate$Fact" (lC21 hL) rfl rfl (by omega) (by decide) (if_pos (by omega)) d_Ck_follows_83 rfl ?_
  refine V_al0 85 d_Ck_follows_84 rfl ?_
  refine V_getr 88 1 (lC20 hL) kc_Ck (by decide) fl_Ck_11 (Or.inl rfl) rfl d_Ck_follows_85 rfl ?_
  refine V_il3 89 d_Ck_follows_88 rfl ?_
  refine V_aaln 90 (j) (100 + j) "ProofGate$Fact" (lC21 hL) rfl rfl (by omega) (by decide) (if_pos (by omega)) d_Ck_follows_89 rfl ?_
  refine V_al0 91 d_Ck_follows_90 rfl ?_
  refine V_getr 94 1 (lC20 hL) kc_Ck (by decide) fl_Ck_11 (Or.inl rfl) rfl d_Ck_follows_91 rfl ?_
  refine V_il4 96 d_Ck_follows_94 rfl ?_
  refine V_aaln 97 (k) (100 + k) "ProofGate$Fact" (lC21 hL) rfl rfl hk (by decide) (if_pos hk) d_Ck_follows_96 rfl ?_
  refine V_cS1 100 (c_Ck_isJoined5 l G _ _ (100 + i) (100 + j) (100 + k) (lCF hL (by omega)) (lCF hL (by omega)) (lCF hL hk)) ok_Ck_isJoined ml_Ck_59 st_Ck_isJoined (gRm_ok (by decide) (by decide)) rfl rfl (Nat.le_of_ble_eq_true rfl) d_Ck_follows_97 ⟨Nat.le_of_ble_eq_true rfl, Nat.le_of_ble_eq_true rfl⟩ rfl ?_
  refine V_bz 107 103 d_Ck_follows_100 (by decide) rfl (fun h100 => ?_) (fun h100 => ?_)
  · refine V_iconst 108 (v := 0) (by decide) d_Ck_follows_107 rfl ?_
    exact V_zret rfl rfl d_Ck_follows_108 ⟨by rw [bi_f h100], rfl, rfl⟩
  · refine V_iconst 104 (v := 1) (by decide) d_Ck_follows_103 rfl ?_
    refine V_goto 108 d_Ck_follows_104 (by decide) ?_
    exact V_zret rfl rfl d_Ck_follows_108 ⟨by rw [bi_t h100], rfl, rfl⟩
set_option maxRecDepth 100000 in
set_option maxHeartbeats 4000000 in
theorem c_Ck_follows_j6 (l : Launch) (G : gG) (L : gLy) (M : gMe) (hL : gLC L) (c : Nat) (hH : gLH L c) (hs : M 5 1 = nI c) (hc : c < 100) (k : Nat) (hk : k < 40) (j : Nat) (hj : j < k) (i : Nat) (hi : i < k) : gMet l G y_Ck_follows b_Ck_follows 5 (some FieldType.boolean) (rmL 6 0 0) [.ref 20, .int 6, .int (nI i), .int (nI j), .int (nI k)] L M gAll (gPo (some (.int (bi (pJ6 M (100 + i) (100 + j))))) L (jM6 M (100 + i) (100 + j) (100 + k))) 0 0 := by
  obtain ⟨e9, cap9, h59, hE9, hRc⟩ := id hH
  refine gMet_of (lv := [some (.ref 20), some (.int 6), some (.int (nI i)), some (.int (nI j)), some (.int (nI k))]) (by decide) rfl (Nat.le_of_ble_eq_true rfl) rfl ?_
  refine V_il1 1 d_Ck_follows_0 rfl ?_
  refine V_iconst 2 (v := 1) (by decide) d_Ck_follows_1 rfl ?_
  refine V_icmp_ne 24 5 d_Ck_follows_2 (by decide) rfl (fun _ => ?_) (fun h9 => absurd h9 (show ¬ (6 : Int32) = 1 by decide))
  refine V_il3 25 d_Ck_follows_24 rfl ?_
  refine V_if_lt 34 28 d_Ck_follows_25 (by decide) rfl (fun h9 => absurd h9 (nI_pos (by omega))) (fun _ => ?_)
  refine V_il3 29 d_Ck_follows_28 rfl ?_
  refine V_il4 31 d_Ck_follows_29 rfl ?_
  refine V_icmp_lt 36 34 d_Ck_follows_31 (by decide) rfl (fun _ => ?_) (fun h9 => absurd (nI_lt hj (by omega)) h9)
  refine V_il1 37 d_Ck_follows_36 rfl ?_
  refine V_bipush 39 (v := 7) (by decide) d_Ck_follows_37 rfl ?_
  refine V_icmp_ne 67 42 d_Ck_follows_39 (by decide) rfl (fun _ => ?_) (fun h9 => absurd h9 (show ¬ (6 : Int32) = 7 by decide))
  refine V_il2 68 d_Ck_follows_67 rfl ?_
  refine V_if_lt 107 71 d_Ck_follows_68 (by decide) rfl (fun h9 => absurd h9 (nI_pos (by omega))) (fun _ => ?_)
  refine V_il2 72 d_Ck_follows_71 rfl ?_
  refine V_il4 74 d_Ck_follows_72 rfl ?_
  refine V_icmp_ge 107 77 d_Ck_follows_74 (by decide) rfl (fun h9 => absurd h9 (nI_ge hi (by omega))) (fun _ => ?_)
  refine V_il1 78 d_Ck_follows_77 rfl ?_
  refine V_al0 79 d_Ck_follows_78 rfl ?_
  refine V_getr 82 1 (lC20 hL) kc_Ck (by decide) fl_Ck_11 (Or.inl rfl) rfl d_Ck_follows_79 rfl ?_
  refine V_il2 83 d_Ck_follows_82 rfl ?_
  refine V_aaln 84 (i) (100 + i) "ProofGate$Fact" (lC21 hL) rfl rfl (by omega) (by decide) (if_pos (by omega)) d_Ck_follows_83 rfl ?_
  refine V_al0 85 d_Ck_follows_84 rfl ?_
  refine V_getr 88 1 (lC20 hL) kc_Ck (by decide) fl_Ck_11 (Or.inl rfl) rfl d_Ck_follows_85 rfl ?_
  refine V_il3 89 d_Ck_follows_88 rfl ?_
  refine V_aaln 90 (j) (100 + j) "ProofGate$Fact" (lC21 hL) rfl rfl (by omega) (by decide) (if_pos (by omega)) d_Ck_follows_89 rfl ?_
  refine V_al0 91 d_Ck_follows_90 rfl ?_
  refine V_getr 94 1 (lC20 hL) kc_Ck (by decide) fl_Ck_11 (Or.inl rfl) rfl d_Ck_follows_91 rfl ?_
  refine V_il4 96 d_Ck_follows_94 rfl ?_
  refine V_aaln 97 (k) (100 + k) "ProofGate$Fact" (lC21 hL) rfl rfl hk (by decide) (if_pos hk) d_Ck_follows_96 rfl ?_
  refine V_cS1 100 (c_Ck_isJoined6 l G _ _ (100 + i) (100 + j) (100 + k) (lCF hL (by omega)) (lCF hL (by omega)) (lCF hL hk)) ok_Ck_isJoined ml_Ck_59 st_Ck_isJoined (gRm_ok (by decide) (by decide)) rfl rfl (Nat.le_of_ble_eq_true rfl) d_Ck_follows_97 ⟨Nat.le_of_ble_eq_true rfl, Nat.le_of_ble_eq_true rfl⟩ rfl ?_
  refine V_bz 107 103 d_Ck_follows_100 (by decide) rfl (fun h100 => ?_) (fun h100 => ?_)
  · refine V_iconst 108 (v := 0) (by decide) d_Ck_follows_107 rfl ?_
    exact V_zret rfl rfl d_Ck_follows_108 ⟨by rw [bi_f h100], rfl, rfl⟩
  · refine V_iconst 104 (v := 1) (by decide) d_Ck_follows_103 rfl ?_
    refine V_goto 108 d_Ck_follows_104 (by decide) ?_
    exact V_zret rfl rfl d_Ck_follows_108 ⟨by rw [bi_t h100], rfl, rfl⟩
set_option maxRecDepth 100000 in
set_option maxHeartbeats 4000000 in
theorem c_Ck_follows_15 (l : Launch) (G : gG) (L : gLy) (M : gMe) (hL : gLC L) (c : Nat) (hH : gLH L c) (hs : M 5 1 = nI c) (hc : c < 100) (k : Nat) (hk : k < 40) (j : Nat) (hj : j < k) (i : Nat) (hi : i < k) (u : Int32) (hu1 : ¬ u = 1) (hu7 : ¬ u = 7) (hu : u.toInt < 2 ∨ 6 < u.toInt) : gMet l G y_Ck_follows b_Ck_follows 5 (some FieldType.boolean) (rmL 6 0 0) [.ref 20, .int u, .int (nI i), .int (nI j), .int (nI k)] L M gAll (gPo (some (.int 0)) L M) 0 0 := by
  obtain ⟨e9, cap9, h59, hE9, hRc⟩ := id hH
  refine gMet_of (lv := [some (.ref 20), some (.int u), some (.int (nI i)), some (.int (nI j)), some (.int (nI k))]) (by decide) rfl (Nat.le_of_ble_eq_true rfl) rfl ?_
  refine V_il1 1 d_Ck_follows_0 rfl ?_
  refine V_iconst 2 (v := 1) (by decide) d_Ck_follows_1 rfl ?_
  refine V_icmp_ne 24 5 d_Ck_follows_2 (by decide) rfl (fun _ => ?_) (fun h9 => absurd h9 hu1)
  refine V_il3 25 d_Ck_follows_24 rfl ?_
  refine V_if_lt 34 28 d_Ck_follows_25 (by decide) rfl (fun h9 => absurd h9 (nI_pos (by omega))) (fun _ => ?_)
  refine V_il3 29 d_Ck_follows_28 rfl ?_
  refine V_il4 31 d_Ck_follows_29 rfl ?_
  refine V_icmp_lt 36 34 d_Ck_follows_31 (by decide) rfl (fun _ => ?_) (fun h9 => absurd (nI_lt hj (by omega)) h9)
  refine V_il1 37 d_Ck_follows_36 rfl ?_
  refine V_bipush 39 (v := 7) (by decide) d_Ck_follows_37 rfl ?_
  refine V_icmp_ne 67 42 d_Ck_follows_39 (by decide) rfl (fun _ => ?_) (fun h9 => absurd h9 hu7)
  refine V_il2 68 d_Ck_follows_67 rfl ?_
  refine V_if_lt 107 71 d_Ck_follows_68 (by decide) rfl (fun h9 => absurd h9 (nI_pos (by omega))) (fun _ => ?_)
  refine V_il2 72 d_Ck_follows_71 rfl ?_
  refine V_il4 74 d_Ck_follows_72 rfl ?_
  refine V_icmp_ge 107 77 d_Ck_follows_74 (by decide) rfl (fun h9 => absurd h9 (nI_ge hi (by omega))) (fun _ => ?_)
  refine V_il1 78 d_Ck_follows_77 rfl ?_
  refine V_al0 79 d_Ck_follows_78 rfl ?_
  refine V_getr 82 1 (lC20 hL) kc_Ck (by decide) fl_Ck_11 (Or.inl rfl) rfl d_Ck_follows_79 rfl ?_
  refine V_il2 83 d_Ck_follows_82 rfl ?_
  refine V_aaln 84 (i) (100 + i) "ProofGate$Fact" (lC21 hL) rfl rfl (by omega) (by decide) (if_pos (by omega)) d_Ck_follows_83 rfl ?_
  refine V_al0 85 d_Ck_follows_84 rfl ?_
  refine V_getr 88 1 (lC20 hL) kc_Ck (by decide) fl_Ck_11 (Or.inl rfl) rfl d_Ck_follows_85 rfl ?_
  refine V_il3 89 d_Ck_follows_88 rfl ?_
  refine V_aaln 90 (j) (100 + j) "ProofGate$Fact" (lC21 hL) rfl rfl (by omega) (by decide) (if_pos (by omega)) d_Ck_follows_89 rfl ?_
  refine V_al0 91 d_Ck_follows_90 rfl ?_
  refine V_getr 94 1 (lC20 hL) kc_Ck (by decide) fl_Ck_11 (Or.inl rfl) rfl d_Ck_follows_91 rfl ?_
  refine V_il4 96 d_Ck_follows_94 rfl ?_
  refine V_aaln 97 (k) (100 + k) "ProofGate$Fact" (lC21 hL) rfl rfl hk (by decide) (if_pos hk) d_Ck_follows_96 rfl ?_
  refine V_cS1 100 (c_Ck_isJoined_out l G _ _ (100 + i) (100 + j) (100 + k) (lCF hL (by omega)) (lCF hL (by omega)) (lCF hL hk) u hu) ok_Ck_isJoined ml_Ck_59 st_Ck_isJoined (gRm_ok (by decide) (by decide)) rfl rfl (Nat.le_of_ble_eq_true rfl) d_Ck_follows_97 ⟨Nat.le_of_ble_eq_true rfl, Nat.le_of_ble_eq_true rfl⟩ rfl ?_
  refine V_if_eq 107 103 d_Ck_follows_100 (by decide) rfl (fun _ => ?_) (fun h9 => absurd rfl h9)
  refine V_iconst 108 (v := 0) (by decide) d_Ck_follows_107 rfl ?_
  exact V_zret rfl rfl d_Ck_follows_108 ⟨rfl, rfl, rfl⟩

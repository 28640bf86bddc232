/-! the reference: the check -/
abbrev pHz (M : gMe) (c : Nat) (x : Int32) : Prop := pIn x 1 (nI c) ∧ pHo M x.toNatClampNeg
theorem pIn_n {x : Int32} {c : Nat} (hc : c < 25) (h : pIn x 1 (nI c)) : ∃ n, 1 ≤ n ∧ n ≤ c ∧ x = nI n ∧ x.toNatClampNeg = n := by
  obtain ⟨n, h1, h2, h3⟩ := nI_rng9 (by omega) h.1 h.2
  exact ⟨n, h1, h2, h3, by rw [h3]; exact nI_clamp (by omega)⟩
theorem c_Mo_holdz (l : Launch) (G : gG) (L : gLy) (M : gMe) (hM : gLM L) (c : Nat) (hcm : M 400 10 = nI c) (hc : c < 25) (x : Int32) : gMet l G y_Mo_holds b_Mo_holds 2 (some FieldType.boolean) (rmL 2 0 0) [.ref 400, .int x] L M gAll (gPo (some (.int (bi (pHz M c x)))) L M) 0 0 := by
  by_cases h : pIn x 1 (nI c)
  · obtain ⟨n, h1, h2, h3, h4⟩ := pIn_n hc h
    have e : bi (pHz M c x) = bi (pHo M n) := bi_c ⟨fun z => by rw [← h4]; exact z.2, fun z => ⟨h, by rw [h4]; exact z⟩⟩
    rw [e, h3]
    exact c_Mo_holds l G L M hM c hcm hc n h1 h2
  · rw [bi_f (fun z => h z.1)]
    exact c_Mo_holds_no l G L M hM c hcm hc x h
def fcI (w a b r o d : Int32) : Int32 := ((((w * 8 + a) * 8 + b) * 8 + r) * 8 + o) * 8 + d
def itI (f k : Int32) : Int32 := (f >>> ((15 - 3 * k) &&& 31)) &&& 7
def sfI (M : gMe) (k : Nat) (n : Int32) : Int32 := if pIn n 0 (nI k - 1) then M 417 n.toNatClampNeg else 0
def spI (M : gMe) (n : Nat) : Int32 := if M 405 n = 0 then fcI 1 (M 404 n) (M 406 n) (M 407 n) (M 408 n) 0 else if M 405 n = 1 then fcI 2 (M 406 n) (M 404 n) 0 0 0 else if M 405 n = 2 then fcI 3 (M 404 n) (M 406 n) (M 407 n) (M 408 n) (M 409 n) else 0
abbrev pvV (p q : Int32) : Prop := itI p 0 = 2 ∧ itI p 1 = itI q 1
abbrev pvT (p q : Int32) : Prop := itI p 0 = 3 ∧ itI p 2 = itI q 1 ∧ itI p 3 = itI q 3 ∧ itI p 4 = itI q 4
def pv2 (p q : Int32) : Int32 := if pvV p q ∧ itI q 0 = 1 then fcI 1 (itI p 2) (itI q 2) (itI q 3) (itI q 4) 0 else 0
def pv3 (p q : Int32) : Int32 := if pvT p q ∧ itI q 0 = 1 then fcI 1 (itI p 1) (itI q 2) (itI q 3) (itI q 4) 0 else 0
def pv5 (p q : Int32) : Int32 := if pvV p q ∧ itI q 0 = 3 then fcI 3 (itI p 2) (itI q 2) (itI q 3) (itI q 4) (itI q 5) else 0
def pv6 (p q : Int32) : Int32 := if itI p 0 = 2 ∧ itI q 0 = 2 ∧ itI p 2 = itI q 1 then fcI 2 (itI p 1) (itI q 2) 0 0 0 else 0
def pv4 (p q : Int32) : Int32 := if pvT p q ∧ itI q 0 = 3 ∧ ¬ itI p 5 - 1 < 0 then fcI 3 (itI p 1) (itI q 2) (itI q 3) (itI q 4) (if itI q 5 ≤ itI p 5 - 1 then itI q 5 else itI p 5 - 1) else 0
def pv7 (M : gMe) (c : Nat) (x q : Int32) : Int32 := if pHz M c x ∧ M 405 x.toNatClampNeg = 3 ∧ itI q 0 = 1 ∧ itI q 1 = M 404 x.toNatClampNeg ∧ itI q 3 = M 406 x.toNatClampNeg then fcI 1 (itI q 1) (itI q 2) (M 407 x.toNatClampNeg) (itI q 4) 0 else 0
def pvO (M : gMe) (c : Nat) (u x p q : Int32) : Int32 :=
  if u = 1 then (if pHz M c x then spI M x.toNatClampNeg else 0)
  else if u = 7 then pv7 M c x q
  else if ¬ pIn u 2 6 then 0
  else if u = 2 then pv2 p q
  else if u = 3 then pv3 p q
  else if u = 5 then pv5 p q
  else if u = 6 then pv6 p q
  else pv4 p q
def pvI (M : gMe) (c k : Nat) : Int32 := pvO M c (M 414 k) (M 415 k) (sfI M k (M 415 k)) (sfI M k (M 416 k))
theorem sf_rng {n : Int32} {k : Nat} (hk : k < 100) (h : pIn n 0 (nI k - 1)) : ∃ j, j < k ∧ n = nI j := by
  refine nI_rng0 hk h.1 ?_
  rcases Nat.eq_zero_or_pos k with h0 | h0
  · subst h0
    exact absurd (Int32.lt_of_lt_of_le (show nI 0 - 1 < (0 : Int32) by decide) (Int32.not_lt.mp h.1)) h.2
  · exact Int32.lt_of_le_of_lt (Int32.not_lt.mp h.2) (by rw [nI_dm h0]; exact nI_lt (by omega) (by omega))
set_option maxRecDepth 100000 in
set_option maxHeartbeats 4000000 in
theorem c_Mo_fact (l : Launch) (G : gG) (L : gLy) (M : gMe) (w a b r o d : Int32) : gMet l G y_Mo_fact b_Mo_fact 6 (some FieldType.int) (rmL 1 0 0) [.int w, .int a, .int b, .int r, .int o, .int d] L M gAll (gPo (some (.int (fcI w a b r o d))) L M) 0 0 := by
  refine gMet_of (lv := [some (.int w), some (.int a), some (.int b), some (.int r), some (.int o), some (.int d)]) (by decide) rfl (Nat.le_of_ble_eq_true rfl) rfl ?_
  refine V_il0 1 d_Mo_fact_0 rfl ?_
  refine V_bipush 3 (v := 8) (by decide) d_Mo_fact_1 rfl ?_
  refine V_imul 4 d_Mo_fact_3 rfl ?_
  refine V_il1 5 d_Mo_fact_4 rfl ?_
  refine V_iadd 6 d_Mo_fact_5 rfl ?_
  refine V_bipush 8 (v := 8) (by decide) d_Mo_fact_6 rfl ?_
  refine V_imul 9 d_Mo_fact_8 rfl ?_
  refine V_il2 10 d_Mo_fact_9 rfl ?_
  refine V_iadd 11 d_Mo_fact_10 rfl ?_
  refine V_bipush 13 (v := 8) (by decide) d_Mo_fact_11 rfl ?_
  refine V_imul 14 d_Mo_fact_13 rfl ?_
  refine V_il3 15 d_Mo_fact_14 rfl ?_
  refine V_iadd 16 d_Mo_fact_15 rfl ?_
  refine V_bipush 18 (v := 8) (by decide) d_Mo_fact_16 rfl ?_
  refine V_imul 19 d_Mo_fact_18 rfl ?_
  refine V_il4 21 d_Mo_fact_19 rfl ?_
  refine V_iadd 22 d_Mo_fact_21 rfl ?_
  refine V_bipush 24 (v := 8) (by decide) d_Mo_fact_22 rfl ?_
  refine V_imul 25 d_Mo_fact_24 rfl ?_
  refine V_il5 27 d_Mo_fact_25 rfl ?_
  refine V_iadd 28 d_Mo_fact_27 rfl ?_
  exact V_iret rfl d_Mo_fact_28 ⟨rfl, rfl, rfl⟩
set_option maxRecDepth 100000 in
set_option maxHeartbeats 4000000 in
theorem c_Mo_item (l : Launch) (G : gG) (L : gLy) (M : gMe) (f k : Int32) : gMet l G y_Mo_item b_Mo_item 2 (some FieldType.int) (rmL 1 0 0) [.int f, .int k] L M gAll (gPo (some (.int (itI f k))) L M) 0 0 := by
  refine gMet_of (lv := [some (.int f), some (.int k)]) (by decide) rfl (Nat.le_of_ble_eq_true rfl) rfl ?_
  refine V_il0 1 d_Mo_item_0 rfl ?_
  refine V_bipush 3 (v := 15) (by decide) d_Mo_item_1 rfl ?_
  refine V_iconst 4 (v := 3) (by decide) d_Mo_item_3 rfl ?_
  refine V_il1 5 d_Mo_item_4 rfl ?_
  refine V_imul 6 d_Mo_item_5 rfl ?_
  refine V_isub 7 d_Mo_item_6 rfl ?_
  refine V_ishr 8 d_Mo_item_7 rfl ?_
  refine V_bipush 10 (v := 7) (by decide) d_Mo_item_8 rfl ?_
  refine V_iand 11 d_Mo_item_10 rfl ?_
  exact V_iret rfl d_Mo_item_11 ⟨rfl, rfl, rfl⟩
set_option maxRecDepth 100000 in
set_option maxHeartbeats 4000000 in
theorem c_Mo_stepFact (l : Launch) (G : gG) (L : gLy) (M : gMe) (hM : gLM L) (k : Nat) (hk : k < 41) (n : Int32) : gMet l G y_Mo_stepFact b_Mo_stepFact 3 (some FieldType.int) (rmL 2 0 0) [.ref 400, .int (nI k), .int n] L M gAll (gPo (some (.int (sfI M k n))) L M) 0 0 := by
  refine gMet_of (lv := [some (.ref 400), some (.int (nI k)), some (.int n)]) (by decide) rfl (Nat.le_of_ble_eq_true rfl) rfl ?_
  refine V_il2 1 d_Mo_stepFact_0 rfl ?_
  refine V_iconst 2 (v := 0) (by decide) d_Mo_stepFact_1 rfl ?_
  refine V_il1 3 d_Mo_stepFact_2 rfl ?_
  refine V_iconst 4 (v := 1) (by decide) d_Mo_stepFact_3 rfl ?_
  refine V_isub 5 d_Mo_stepFact_4 rfl ?_
  refine V_cS1 8 (c_Mo_in l G _ _ _ _ _) ok_Mo_in ml_Mo_106 st_Mo_in (gRm_ok (by decide) (by decide)) rfl rfl (Nat.le_of_ble_eq_true rfl) d_Mo_stepFact_5 ⟨Nat.le_of_ble_eq_true rfl, Nat.le_of_ble_eq_true rfl⟩ rfl ?_
  refine V_bz 20 11 d_Mo_stepFact_8 (by decide) rfl (fun h8 => ?_) (fun h8 => ?_)
  · refine V_iconst 21 (v := 0) (by decide) d_Mo_stepFact_20 rfl ?_
    exact V_iret rfl d_Mo_stepFact_21 ⟨by rw [sfI, if_neg h8], rfl, rfl⟩
  · obtain ⟨j, hj, ej⟩ := sf_rng (by omega) h8
    refine V_al0 12 d_Mo_stepFact_11 rfl ?_
    refine V_getr 15 26 (lM hM) kc_Mo (by decide) fl_Mo_59 (Or.inl rfl) rfl d_Mo_stepFact_12 rfl ?_
    refine V_il2 16 d_Mo_stepFact_15 rfl ?_
    refine V_ialn 17 (j) (lM417 hM) ej (by omega) (by decide) d_Mo_stepFact_16 rfl ?_
    refine V_goto 21 d_Mo_stepFact_17 (by decide) ?_
    exact V_iret rfl d_Mo_stepFact_21 ⟨by rw [sfI, if_pos h8, ej, nI_clamp (by omega)], rfl, rfl⟩
set_option maxRecDepth 100000 in
set_option maxHeartbeats 4000000 in
theorem c_Mo_spoken (l : Launch) (G : gG) (L : gLy) (M : gMe) (hM : gLM L) (n : Nat) (hn : n < 25) : gMet l G y_Mo_spoken b_Mo_spoken 2 (some FieldType.int) (rmL 2 0 0) [.ref 400, .int (nI n)] L M gAll (gPo (some (.int (spI M n))) L M) 0 0 := by
  refine gMet_of (lv := [some (.ref 400), some (.int (nI n))]) (by decide) rfl (Nat.le_of_ble_eq_true rfl) rfl ?_
  refine V_al0 1 d_Mo_spoken_0 rfl ?_
  refine V_getr 4 12 (lM hM) kc_Mo (by decide) fl_Mo_23 (Or.inl rfl) rfl d_Mo_spoken_1 rfl ?_
  refine V_il1 5 d_Mo_spoken_4 rfl ?_
  refine V_ialn 6 (n) (lM405 hM) rfl hn (by decide) d_Mo_spoken_5 rfl ?_
  refine V_if_ne 39 9 d_Mo_spoken_6 (by decide) rfl (fun h6 => ?_) (fun h6 => ?_)
  · refine V_al0 40 d_Mo_spoken_39 rfl ?_
    refine V_getr 43 12 (lM hM) kc_Mo (by decide) fl_Mo_23 (Or.inl rfl) rfl d_Mo_spoken_40 rfl ?_
    refine V_il1 44 d_Mo_spoken_43 rfl ?_
    refine V_ialn 45 (n) (lM405 hM) rfl hn (by decide) d_Mo_spoken_44 rfl ?_
    refine V_iconst 46 (v := 1) (by decide) d_Mo_spoken_45 rfl ?_
    refine V_icmp_ne 69 49 d_Mo_spoken_46 (by decide) rfl (fun h46 => ?_) (fun h46 => ?_)
    · refine V_al0 70 d_Mo_spoken_69 rfl ?_
      refine V_getr 73 12 (lM hM) kc_Mo (by decide) fl_Mo_23 (Or.inl rfl) rfl d_Mo_spoken_70 rfl ?_
      refine V_il1 74 d_Mo_spoken_73 rfl ?_
      refine V_ialn 75 (n) (lM405 hM) rfl hn (by decide) d_Mo_spoken_74 rfl ?_
      refine V_iconst 76 (v := 2) (by decide) d_Mo_spoken_75 rfl ?_
      refine V_icmp_ne 116 79 d_Mo_spoken_76 (by decide) rfl (fun h76 => ?_) (fun h76 => ?_)
      · refine V_iconst 117 (v := 0) (by decide) d_Mo_spoken_116 rfl ?_
        exact V_iret rfl d_Mo_spoken_117 ⟨by rw [spI, if_neg h6, if_neg h46, if_neg h76], rfl, rfl⟩
      · refine V_iconst 80 (v := 3) (by decide) d_Mo_spoken_79 rfl ?_
        refine V_al0 81 d_Mo_spoken_80 rfl ?_
        refine V_getr 84 11 (lM hM) kc_Mo (by decide) fl_Mo_20 (Or.inl rfl) rfl d_Mo_spoken_81 rfl ?_
        refine V_il1 85 d_Mo_spoken_84 rfl ?_
        refine V_ialn 86 (n) (lM404 hM) rfl hn (by decide) d_Mo_spoken_85 rfl ?_
        refine V_al0 87 d_Mo_spoken_86 rfl ?_
        refine V_getr 90 13 (lM hM) kc_Mo (by decide) fl_Mo_26 (Or.inl rfl) rfl d_Mo_spoken_87 rfl ?_
        refine V_il1 91 d_Mo_spoken_90 rfl ?_
        refine V_ialn 92 (n) (lM406 hM) rfl hn (by decide) d_Mo_spoken_91 rfl ?_
        refine V_al0 93 d_Mo_spoken_92 rfl ?_
        refine V_getr 96 14 (lM hM) kc_Mo (by decide) fl_Mo_29 (Or.inl rfl) rfl d_Mo_spoken_93 rfl ?_
        refine V_il1 97 d_Mo_spoken_96 rfl ?_
        refine V_ialn 98 (n) (lM407 hM) rfl hn (by decide) d_Mo_spoken_97 rfl ?_
        refine V_al0 99 d_Mo_spoken_98 rfl ?_
        refine V_getr 102 15 (lM hM) kc_Mo (by decide) fl_Mo_32 (Or.inl rfl) rfl d_Mo_spoken_99 rfl ?_
        refine V_il1 103 d_Mo_spoken_102 rfl ?_
        refine V_ialn 104 (n) (lM408 hM) rfl hn (by decide) d_Mo_spoken_103 rfl ?_
        refine V_al0 105 d_Mo_spoken_104 rfl ?_
        refine V_getr 108 16 (lM hM) kc_Mo (by decide) fl_Mo_35 (Or.inl rfl) rfl d_Mo_spoken_105 rfl ?_
        refine V_il1 109 d_Mo_spoken_108 rfl ?_
        refine V_ialn 110 (n) (lM409 hM) rfl hn (by decide) d_Mo_spoken_109 rfl ?_
        refine V_cS1 113 (c_Mo_fact l G _ _ _ _ _ _ _ _) ok_Mo_fact ml_Mo_206 st_Mo_fact (gRm_ok (by decide) (by decide)) rfl rfl (Nat.le_of_ble_eq_true rfl) d_Mo_spoken_110 ⟨Nat.le_of_ble_eq_true rfl, Nat.le_of_ble_eq_true rfl⟩ rfl ?_
        refine V_goto 117 d_Mo_spoken_113 (by decide) ?_
        exact V_iret rfl d_Mo_spoken_117 ⟨by rw [spI, if_neg h6, if_neg h46, if_pos h76], rfl, rfl⟩
    · refine V_iconst 50 (v := 2) (by decide) d_Mo_spoken_49 rfl ?_
      refine V_al0 51 d_Mo_spoken_50 rfl ?_
      refine V_getr 54 13 (lM hM) kc_Mo (by decide) fl_Mo_26 (Or.inl rfl) rfl d_Mo_spoken_51 rfl ?_
      refine V_il1 55 d_Mo_spoken_54 rfl ?_
      refine V_ialn 56 (n) (lM406 hM) rfl hn (by decide) d_Mo_spoken_55 rfl ?_
      refine V_al0 57 d_Mo_spoken_56 rfl ?_
      refine V_getr 60 11 (lM hM) kc_Mo (by decide) fl_Mo_20 (Or.inl rfl) rfl d_Mo_spoken_57 rfl ?_
      refine V_il1 61 d_Mo_spoken_60 rfl ?_
      refine V_ialn 62 (n) (lM404 hM) rfl hn (by decide) d_Mo_spoken_61 rfl ?_
      refine V_iconst 63 (v := 0) (by decide) d_Mo_spoken_62 rfl ?_
      refine V_iconst 64 (v := 0) (by decide) d_Mo_spoken_63 rfl ?_
      refine V_iconst 65 (v := 0) (by decide) d_Mo_spoken_64 rfl ?_
      refine V_cS1 68 (c_Mo_fact l G _ _ _ _ _ _ _ _) ok_Mo_fact ml_Mo_206 st_Mo_fact (gRm_ok (by decide) (by decide)) rfl rfl (Nat.le_of_ble_eq_true rfl) d_Mo_spoken_65 ⟨Nat.le_of_ble_eq_true rfl, Nat.le_of_ble_eq_true rfl⟩ rfl ?_
      exact V_iret rfl d_Mo_spoken_68 ⟨by rw [spI, if_neg h6, if_pos h46], rfl, rfl⟩
  · refine V_iconst 10 (v := 1) (by decide) d_Mo_spoken_9 rfl ?_
    refine V_al0 11 d_Mo_spoken_10 rfl ?_
    refine V_getr 14 11 (lM hM) kc_Mo (by decide) fl_Mo_20 (Or.inl rfl) rfl d_Mo_spoken_11 rfl ?_
    refine V_il1 15 d_Mo_spoken_14 rfl ?_
    refine V_ialn 16 (n) (lM404 hM) rfl hn (by decide) d_Mo_spoken_15 rfl ?_
    refine V_al0 17 d_Mo_spoken_16 rfl ?_
    refine V_getr 20 13 (lM hM) kc_Mo (by decide) fl_Mo_26 (Or.inl rfl) rfl d_Mo_spoken_17 rfl ?_
    refine V_il1 21 d_Mo_spoken_20 rfl ?_
    refine V_ialn 22 (n) (lM406 hM) rfl hn (by decide) d_Mo_spoken_21 rfl ?_
    refine V_al0 23 d_Mo_spoken_22 rfl ?_
    refine V_getr 26 14 (lM hM) kc_Mo (by decide) fl_Mo_29 (Or.inl rfl) rfl d_Mo_spoken_23 rfl ?_
    refine V_il1 27 d_Mo_spoken_26 rfl ?_
    refine V_ialn 28 (n) (lM407 hM) rfl hn (by decide) d_Mo_spoken_27 rfl ?_
    refine V_al0 29 d_Mo_spoken_28 rfl ?_
    refine V_getr 32 15 (lM hM) kc_Mo (by decide) fl_Mo_32 (Or.inl rfl) rfl d_Mo_spoken_29 rfl ?_
    refine V_il1 33 d_Mo_spoken_32 rfl ?_
    refine V_ialn 34 (n) (lM408 hM) rfl hn (by decide) d_Mo_spoken_33 rfl ?_
    refine V_iconst 35 (v := 0) (by decide) d_Mo_spoken_34 rfl ?_
    refine V_cS1 38 (c_Mo_fact l G _ _ _ _ _ _ _ _) ok_Mo_fact ml_Mo_206 st_Mo_fact (gRm_ok (by decide) (by decide)) rfl rfl (Nat.le_of_ble_eq_true rfl) d_Mo_spoken_35 ⟨Nat.le_of_ble_eq_true rfl, Nat.le_of_ble_eq_true rfl⟩ rfl ?_
    exact V_iret rfl d_Mo_spoken_38 ⟨by rw [spI, if_pos h6], rfl, rfl⟩
set_option maxRecDepth 100000 in
set_option maxHeartbeats 4000000 in
theorem c_Mo_proved (l : Launch) (G : gG) (L : gLy) (M : gMe) (hM : gLM L) (c : Nat) (hcm : M 400 10 = nI c) (hc : c < 25) (k : Nat) (hk : k < 40) : gMet l G y_Mo_proved b_Mo_proved 12 (some FieldType.int) (rmL 3 0 0) [.ref 400, .int (nI k)] L M gAll (gPo (some (.int (pvI M c k))) L M) 0 0 := by
  have q280 : ∀ (h16 : ¬ M 414 k = 1) (h53 : ¬ M 414 k = 7) (h167 : pIn (M 414 k) 2 6) (z9 z10 z11 : Option Value), V l G y_Mo_proved b_Mo_proved 12 (some FieldType.int) (rmL 3 0 0) 0 0 gAll (gPo (some (.int (pvI M c k))) L M) L (M) 0 0 [some (.ref 400), some (.int (nI k)), some (.int (M 415 k)), some (.int (M 414 k)), some (.int (sfI M k (M 416 k))), some (.int (sfI M k (M 415 k))), some (.int (itI (sfI M k (M 415 k)) 0)), some (.int (itI (sfI M k (M 416 k)) 0)), some (.int (bi (pvV (sfI M k (M 415 k)) (sfI M k (M 416 k))))), z9, z10, z11] 280 [.int (bi (pvT (sfI M k (M 415 k)) (sfI M k (M 416 k))))] := by
    intro h16 h53 h167 z9 z10 z11
    refine V_is9 282 d_Mo_proved_280 (by decide) rfl ?_
    refine V_il3 283 d_Mo_proved_282 rfl ?_
    refine V_iconst 284 (v := 2) (by decide) d_Mo_proved_283 rfl ?_
    refine V_icmp_ne 332 287 d_Mo_proved_284 (by decide) rfl (fun h284 => ?_) (fun h284 => ?_)
    · refine V_il3 333 d_Mo_proved_332 rfl ?_
      refine V_iconst 334 (v := 3) (by decide) d_Mo_proved_333 rfl ?_
      refine V_icmp_ne 382 337 d_Mo_proved_334 (by decide) rfl (fun h334 => ?_) (fun h334 => ?_)
      · refine V_il3 383 d_Mo_proved_382 rfl ?_
        refine V_iconst 384 (v := 5) (by decide) d_Mo_proved_383 rfl ?_
        refine V_icmp_ne 437 387 d_Mo_proved_384 (by decide) rfl (fun h384 => ?_) (fun h384 => ?_)
        · refine V_il3 438 d_Mo_proved_437 rfl ?_
          refine V_bipush 440 (v := 6) (by decide) d_Mo_proved_438 rfl ?_
          refine V_icmp_ne 494 443 d_Mo_proved_440 (by decide) rfl (fun h440 => ?_) (fun h440 => ?_)
          · refine V_il5 496 d_Mo_proved_494 rfl ?_
            refine V_iconst 497 (v := 5) (by decide) d_Mo_proved_496 rfl ?_
            refine V_cS1 500 (c_Mo_item l G _ _ _ _) ok_Mo_item ml_Mo_203 st_Mo_item (gRm_ok (by decide) (by decide)) rfl rfl (Nat.le_of_ble_eq_true rfl) d_Mo_proved_497 ⟨Nat.le_of_ble_eq_true rfl, Nat.le_of_ble_eq_true rfl⟩ rfl ?_
            refine V_iconst 501 (v := 1) (by decide) d_Mo_proved_500 rfl ?_
            refine V_isub 502 d_Mo_proved_501 rfl ?_
            refine V_is10 504 d_Mo_proved_502 (by decide) rfl ?_
            refine V_il4 506 d_Mo_proved_504 rfl ?_
            refine V_iconst 507 (v := 5) (by decide) d_Mo_proved_506 rfl ?_
            refine V_cS1 510 (c_Mo_item l G _ _ _ _) ok_Mo_item ml_Mo_203 st_Mo_item (gRm_ok (by decide) (by decide)) rfl rfl (Nat.le_of_ble_eq_true rfl) d_Mo_proved_507 ⟨Nat.le_of_ble_eq_true rfl, Nat.le_of_ble_eq_true rfl⟩ rfl ?_
            refine V_is11 512 d_Mo_proved_510 (by decide) rfl ?_
            refine V_il9 514 d_Mo_proved_512 rfl ?_
            refine V_bz 573 517 d_Mo_proved_514 (by decide) rfl (fun h514 => ?_) (fun h514 => ?_)
            · refine V_iconst 574 (v := 0) (by decide) d_Mo_proved_573 rfl ?_
              exact V_iret rfl d_Mo_proved_574 ⟨by rw [pvI, pvO, if_neg h16, if_neg h53, if_neg (not_not_intro h167), if_neg h284, if_neg h334, if_neg h384, if_neg h440, pv4, if_neg (fun h => h514 h.1)], rfl, rfl⟩
            · refine V_il7 519 d_Mo_proved_517 rfl ?_
              refine V_iconst 520 (v := 3) (by decide) d_Mo_proved_519 rfl ?_
              refine V_icmp_ne 573 523 d_Mo_proved_520 (by decide) rfl (fun h520 => ?_) (fun h520 => ?_)
              · refine V_iconst 574 (v := 0) (by decide) d_Mo_proved_573 rfl ?_
                exact V_iret rfl d_Mo_proved_574 ⟨by rw [pvI, pvO, if_neg h16, if_neg h53, if_neg (not_not_intro h167), if_neg h284, if_neg h334, if_neg h384, if_neg h440, pv4, if_neg (fun h => h520 h.2.1)], rfl, rfl⟩
              · refine V_il10 525 d_Mo_proved_523 rfl ?_
                refine V_if_lt 573 528 d_Mo_proved_525 (by decide) rfl (fun h525 => ?_) (fun h525 => ?_)
                · refine V_iconst 574 (v := 0) (by decide) d_Mo_proved_573 rfl ?_
                  exact V_iret rfl d_Mo_proved_574 ⟨by rw [pvI, pvO, if_neg h16, if_neg h53, if_neg (not_not_intro h167), if_neg h284, if_neg h334, if_neg h384, if_neg h440, pv4, if_neg (fun h => h.2.2 h525)], rfl, rfl⟩
                · refine V_iconst 529 (v := 3) (by decide) d_Mo_proved_528 rfl ?_
                  refine V_il5 531 d_Mo_proved_529 rfl ?_
                  refine V_iconst 532 (v := 1) (by decide) d_Mo_proved_531 rfl ?_
                  refine V_cS1 535 (c_Mo_item l G _ _ _ _) ok_Mo_item ml_Mo_203 st_Mo_item (gRm_ok (by decide) (by decide)) rfl rfl (Nat.le_of_ble_eq_true rfl) d_Mo_proved_532 ⟨Nat.le_of_ble_eq_true rfl, Nat.le_of_ble_eq_true rfl⟩ rfl ?_
                  refine V_il4 537 d_Mo_proved_535 rfl ?_
                  refine V_iconst 538 (v := 2) (by decide) d_Mo_proved_537 rfl ?_
                  refine V_cS1 541 (c_Mo_item l G _ _ _ _) ok_Mo_item ml_Mo_203 st_Mo_item (gRm_ok (by decide) (by decide)) rfl rfl (Nat.le_of_ble_eq_true rfl) d_Mo_proved_538 ⟨Nat.le_of_ble_eq_true rfl, Nat.le_of_ble_eq_true rfl⟩ rfl ?_
                  refine V_il4 543 d_Mo_proved_541 rfl ?_
                  refine V_iconst 544 (v := 3) (by decide) d_Mo_proved_543 rfl ?_
                  refine V_cS1 547 (c_Mo_item l G _ _ _ _) ok_Mo_item ml_Mo_203 st_Mo_item (gRm_ok (by decide) (by decide)) rfl rfl (Nat.le_of_ble_eq_true rfl) d_Mo_proved_544 ⟨Nat.le_of_ble_eq_true rfl, Nat.le_of_ble_eq_true rfl⟩ rfl ?_
                  refine V_il4 549 d_Mo_proved_547 rfl ?_
                  refine V_iconst 550 (v := 4) (by decide) d_Mo_proved_549 rfl ?_
                  refine V_cS1 553 (c_Mo_item l G _ _ _ _) ok_Mo_item ml_Mo_203 st_Mo_item (gRm_ok (by decide) (by decide)) rfl rfl (Nat.le_of_ble_eq_true rfl) d_Mo_proved_550 ⟨Nat.le_of_ble_eq_true rfl, Nat.le_of_ble_eq_true rfl⟩ rfl ?_
                  refine V_il10 555 d_Mo_proved_553 rfl ?_
                  refine V_il11 557 d_Mo_proved_555 rfl ?_
                  refine V_icmp_ge 565 560 d_Mo_proved_557 (by decide) rfl (fun h557 => ?_) (fun h557 => ?_)
                  · refine V_il11 567 d_Mo_proved_565 rfl ?_
                    refine V_cS1 570 (c_Mo_fact l G _ _ _ _ _ _ _ _) ok_Mo_fact ml_Mo_206 st_Mo_fact (gRm_ok (by decide) (by decide)) rfl rfl (Nat.le_of_ble_eq_true rfl) d_Mo_proved_567 ⟨Nat.le_of_ble_eq_true rfl, Nat.le_of_ble_eq_true rfl⟩ rfl ?_
                    refine V_goto 574 d_Mo_proved_570 (by decide) ?_
                    exact V_iret rfl d_Mo_proved_574 ⟨by rw [pvI, pvO, if_neg h16, if_neg h53, if_neg (not_not_intro h167), if_neg h284, if_neg h334, if_neg h384, if_neg h440, pv4, if_pos ⟨h514, h520, h525⟩, if_pos h557], rfl, rfl⟩
                  · refine V_il10 562 d_Mo_proved_560 rfl ?_
                    refine V_goto 567 d_Mo_proved_562 (by decide) ?_
                    refine V_cS1 570 (c_Mo_fact l G _ _ _ _ _ _ _ _) ok_Mo_fact ml_Mo_206 st_Mo_fact (gRm_ok (by decide) (by decide)) rfl rfl (Nat.le_of_ble_eq_true rfl) d_Mo_proved_567 ⟨Nat.le_of_ble_eq_true rfl, Nat.le_of_ble_eq_true rfl⟩ rfl ?_
                    refine V_goto 574 d_Mo_proved_570 (by decide) ?_
                    exact V_iret rfl d_Mo_proved_574 ⟨by rw [pvI, pvO, if_neg h16, if_neg h53, if_neg (not_not_intro h167), if_neg h284, if_neg h334, if_neg h384, if_neg h440, pv4, if_pos ⟨h514, h520, h525⟩, if_neg h557], rfl, rfl⟩
          · refine V_il6 445 d_Mo_proved_443 rfl ?_
            refine V_iconst 446 (v := 2) (by decide) d_Mo_proved_445 rfl ?_
            refine V_icmp_ne 492 449 d_Mo_proved_446 (by decide) rfl (fun h446 => ?_) (fun h446 => ?_)
            · refine V_iconst 493 (v := 0) (by decide) d_Mo_proved_492 rfl ?_
              exact V_iret rfl d_Mo_proved_493 ⟨by rw [pvI, pvO, if_neg h16, if_neg h53, if_neg (not_not_intro h167), if_neg h284, if_neg h334, if_neg h384, if_pos h440, pv6, if_neg (fun h => h446 h.1)], rfl, rfl⟩
            · refine V_il7 451 d_Mo_proved_449 rfl ?_
              refine V_iconst 452 (v := 2) (by decide) d_Mo_proved_451 rfl ?_
              refine V_icmp_ne 492 455 d_Mo_proved_452 (by decide) rfl (fun h452 => ?_) (fun h452 => ?_)
              · refine V_iconst 493 (v := 0) (by decide) d_Mo_proved_492 rfl ?_
                exact V_iret rfl d_Mo_proved_493 ⟨by rw [pvI, pvO, if_neg h16, if_neg h53, if_neg (not_not_intro h167), if_neg h284, if_neg h334, if_neg h384, if_pos h440, pv6, if_neg (fun h => h452 h.2.1)], rfl, rfl⟩
              · refine V_il5 457 d_Mo_proved_455 rfl ?_
                refine V_iconst 458 (v := 2) (by decide) d_Mo_proved_457 rfl ?_
                refine V_cS1 461 (c_Mo_item l G _ _ _ _) ok_Mo_item ml_Mo_203 st_Mo_item (gRm_ok (by decide) (by decide)) rfl rfl (Nat.le_of_ble_eq_true rfl) d_Mo_proved_458 ⟨Nat.le_of_ble_eq_true rfl, Nat.le_of_ble_eq_true rfl⟩ rfl ?_
                refine V_il4 463 d_Mo_proved_461 rfl ?_
                refine V_iconst 464 (v := 1) (by decide) d_Mo_proved_463 rfl ?_
                refine V_cS1 467 (c_Mo_item l G _ _ _ _) ok_Mo_item ml_Mo_203 st_Mo_item (gRm_ok (by decide) (by decide)) rfl rfl (Nat.le_of_ble_eq_true rfl) d_Mo_proved_464 ⟨Nat.le_of_ble_eq_true rfl, Nat.le_of_ble_eq_true rfl⟩ rfl ?_
                refine V_icmp_ne 492 470 d_Mo_proved_467 (by decide) rfl (fun h467 => ?_) (fun h467 => ?_)
                · refine V_iconst 493 (v := 0) (by decide) d_Mo_proved_492 rfl ?_
                  exact V_iret rfl d_Mo_proved_493 ⟨by rw [pvI, pvO, if_neg h16, if_neg h53, if_neg (not_not_intro h167), if_neg h284, if_neg h334, if_neg h384, if_pos h440, pv6, if_neg (fun h => h467 h.2.2)], rfl, rfl⟩
                · refine V_iconst 471 (v := 2) (by decide) d_Mo_proved_470 rfl ?_
                  refine V_il5 473 d_Mo_proved_471 rfl ?_
                  refine V_iconst 474 (v := 1) (by decide) d_Mo_proved_473 rfl ?_
                  refine V_cS1 477 (c_Mo_item l G _ _ _ _) ok_Mo_item ml_Mo_203 st_Mo_item (gRm_ok (by decide) (by decide)) rfl rfl (Nat.le_of_ble_eq_true rfl) d_Mo_proved_474 ⟨Nat.le_of_ble_eq_true rfl, Nat.le_of_ble_eq_true rfl⟩ rfl ?_
                  refine V_il4 479 d_Mo_proved_477 rfl ?_
                  refine V_iconst 480 (v := 2) (by decide) d_Mo_proved_479 rfl ?_
                  refine V_cS1 483 (c_Mo_item l G _ _ _ _) ok_Mo_item ml_Mo_203 st_Mo_item (gRm_ok (by decide) (by decide)) rfl rfl (Nat.le_of_ble_eq_true rfl) d_Mo_proved_480 ⟨Nat.le_of_ble_eq_true rfl, Nat.le_of_ble_eq_true rfl⟩ rfl ?_
                  refine V_iconst 484 (v := 0) (by decide) d_Mo_proved_483 rfl ?_
                  refine V_iconst 485 (v := 0) (by decide) d_Mo_proved_484 rfl ?_
                  refine V_iconst 486 (v := 0) (by decide) d_Mo_proved_485 rfl ?_
                  refine V_cS1 489 (c_Mo_fact l G _ _ _ _ _ _ _ _) ok_Mo_fact ml_Mo_206 st_Mo_fact (gRm_ok (by decide) (by decide)) rfl rfl (Nat.le_of_ble_eq_true rfl) d_Mo_proved_486 ⟨Nat.le_of_ble_eq_true rfl, Nat.le_of_ble_eq_true rfl⟩ rfl ?_
                  refine V_goto 493 d_Mo_proved_489 (by decide) ?_
                  exact V_iret rfl d_Mo_proved_493 ⟨by rw [pvI, pvO, if_neg h16, if_neg h53, if_neg (not_not_intro h167), if_neg h284, if_neg h334, if_neg h384, if_pos h440, pv6, if_pos ⟨h446, h452, h467⟩], rfl, rfl⟩
        · refine V_il8 389 d_Mo_proved_387 rfl ?_
          refine V_bz 435 392 d_Mo_proved_389 (by decide) rfl (fun h389 => ?_) (fun h389 => ?_)
          · refine V_iconst 436 (v := 0) (by decide) d_Mo_proved_435 rfl ?_
            exact V_iret rfl d_Mo_proved_436 ⟨by rw [pvI, pvO, if_neg h16, if_neg h53, if_neg (not_not_intro h167), if_neg h284, if_neg h334, if_pos h384, pv5, if_neg (fun h => h389 h.1)], rfl, rfl⟩
          · refine V_il7 394 d_Mo_proved_392 rfl ?_
            refine V_iconst 395 (v := 3) (by decide) d_Mo_proved_394 rfl ?_
            refine V_icmp_ne 435 398 d_Mo_proved_395 (by decide) rfl (fun h395 => ?_) (fun h395 => ?_)
            · refine V_iconst 436 (v := 0) (by decide) d_Mo_proved_435 rfl ?_
              exact V_iret rfl d_Mo_proved_436 ⟨by rw [pvI, pvO, if_neg h16, if_neg h53, if_neg (not_not_intro h167), if_neg h284, if_neg h334, if_pos h384, pv5, if_neg (fun h => h395 h.2)], rfl, rfl⟩
            · refine V_iconst 399 (v := 3) (by decide) d_Mo_proved_398 rfl ?_
              refine V_il5 401 d_Mo_proved_399 rfl ?_
              refine V_iconst 402 (v := 2) (by decide) d_Mo_proved_401 rfl ?_
              refine V_cS1 405 (c_Mo_item l G _ _ _ _) ok_Mo_item ml_Mo_203 st_Mo_item (gRm_ok (by decide) (by decide)) rfl rfl (Nat.le_of_ble_eq_true rfl) d_Mo_proved_402 ⟨Nat.le_of_ble_eq_true rfl, Nat.le_of_ble_eq_true rfl⟩ rfl ?_
              refine V_il4 407 d_Mo_proved_405 rfl ?_
              refine V_iconst 408 (v := 2) (by decide) d_Mo_proved_407 rfl ?_
              refine V_cS1 411 (c_Mo_item l G _ _ _ _) ok_Mo_item ml_Mo_203 st_Mo_item (gRm_ok (by decide) (by decide)) rfl rfl (Nat.le_of_ble_eq_true rfl) d_Mo_proved_408 ⟨Nat.le_of_ble_eq_true rfl, Nat.le_of_ble_eq_true rfl⟩ rfl ?_
              refine V_il4 413 d_Mo_proved_411 rfl ?_
              refine V_iconst 414 (v := 3) (by decide) d_Mo_proved_413 rfl ?_
              refine V_cS1 417 (c_Mo_item l G _ _ _ _) ok_Mo_item ml_Mo_203 st_Mo_item (gRm_ok (by decide) (by decide)) rfl rfl (Nat.le_of_ble_eq_true rfl) d_Mo_proved_414 ⟨Nat.le_of_ble_eq_true rfl, Nat.le_of_ble_eq_true rfl⟩ rfl ?_
              refine V_il4 419 d_Mo_proved_417 rfl ?_
              refine V_iconst 420 (v := 4) (by decide) d_Mo_proved_419 rfl ?_
              refine V_cS1 423 (c_Mo_item l G _ _ _ _) ok_Mo_item ml_Mo_203 st_Mo_item (gRm_ok (by decide) (by decide)) rfl rfl (Nat.le_of_ble_eq_true rfl) d_Mo_proved_420 ⟨Nat.le_of_ble_eq_true rfl, Nat.le_of_ble_eq_true rfl⟩ rfl ?_
              refine V_il4 425 d_Mo_proved_423 rfl ?_
              refine V_iconst 426 (v := 5) (by decide) d_Mo_proved_425 rfl ?_
              refine V_cS1 429 (c_Mo_item l G _ _ _ _) ok_Mo_item ml_Mo_203 st_Mo_item (gRm_ok (by decide) (by decide)) rfl rfl (Nat.le_of_ble_eq_true rfl) d_Mo_proved_426 ⟨Nat.le_of_ble_eq_true rfl, Nat.le_of_ble_eq_true rfl⟩ rfl ?_
              refine V_cS1 432 (c_Mo_fact l G _ _ _ _ _ _ _ _) ok_Mo_fact ml_Mo_206 st_Mo_fact (gRm_ok (by decide) (by decide)) rfl rfl (Nat.le_of_ble_eq_true rfl) d_Mo_proved_429 ⟨Nat.le_of_ble_eq_true rfl, Nat.le_of_ble_eq_true rfl⟩ rfl ?_
              refine V_goto 436 d_Mo_proved_432 (by decide) ?_
              exact V_iret rfl d_Mo_proved_436 ⟨by rw [pvI, pvO, if_neg h16, if_neg h53, if_neg (not_not_intro h167), if_neg h284, if_neg h334, if_pos h384, pv5, if_pos ⟨h389, h395⟩], rfl, rfl⟩
      · refine V_il9 339 d_Mo_proved_337 rfl ?_
        refine V_bz 380 342 d_Mo_proved_339 (by decide) rfl (fun h339 => ?_) (fun h339 => ?_)
        · refine V_iconst 381 (v := 0) (by decide) d_Mo_proved_380 rfl ?_
          exact V_iret rfl d_Mo_proved_381 ⟨by rw [pvI, pvO, if_neg h16, if_neg h53, if_neg (not_not_intro h167), if_neg h284, if_pos h334, pv3, if_neg (fun h => h339 h.1)], rfl, rfl⟩
        · refine V_il7 344 d_Mo_proved_342 rfl ?_
          refine V_iconst 345 (v := 1) (by decide) d_Mo_proved_344 rfl ?_
          refine V_icmp_ne 380 348 d_Mo_proved_345 (by decide) rfl (fun h345 => ?_) (fun h345 => ?_)
          · refine V_iconst 381 (v := 0) (by decide) d_Mo_proved_380 rfl ?_
            exact V_iret rfl d_Mo_proved_381 ⟨by rw [pvI, pvO, if_neg h16, if_neg h53, if_neg (not_not_intro h167), if_neg h284, if_pos h334, pv3, if_neg (fun h => h345 h.2)], rfl, rfl⟩
          · refine V_iconst 349 (v := 1) (by decide) d_Mo_proved_348 rfl ?_
            refine V_il5 351 d_Mo_proved_349 rfl ?_
            refine V_iconst 352 (v := 1) (by decide) d_Mo_proved_351 rfl ?_
            refine V_cS1 355 (c_Mo_item l G _ _ _ _) ok_Mo_item ml_Mo_203 st_Mo_item (gRm_ok (by decide) (by decide)) rfl rfl (Nat.le_of_ble_eq_true rfl) d_Mo_proved_352 ⟨Nat.le_of_ble_eq_true rfl, Nat.le_of_ble_eq_true rfl⟩ rfl ?_
            refine V_il4 357 d_Mo_proved_355 rfl ?_
            refine V_iconst 358 (v := 2) (by decide) d_Mo_proved_357 rfl ?_
            refine V_cS1 361 (c_Mo_item l G _ _ _ _) ok_Mo_item ml_Mo_203 st_Mo_item (gRm_ok (by decide) (by decide)) rfl rfl (Nat.le_of_ble_eq_true rfl) d_Mo_proved_358 ⟨Nat.le_of_ble_eq_true rfl, Nat.le_of_ble_eq_true rfl⟩ rfl ?_
            refine V_il4 363 d_Mo_proved_361 rfl ?_
            refine V_iconst 364 (v := 3) (by decide) d_Mo_proved_363 rfl ?_
            refine V_cS1 367 (c_Mo_item l G _ _ _ _) ok_Mo_item ml_Mo_203 st_Mo_item (gRm_ok (by decide) (by decide)) rfl rfl (Nat.le_of_ble_eq_true rfl) d_Mo_proved_364 ⟨Nat.le_of_ble_eq_true rfl, Nat.le_of_ble_eq_true rfl⟩ rfl ?_
            refine V_il4 369 d_Mo_proved_367 rfl ?_
            refine V_iconst 370 (v := 4) (by decide) d_Mo_proved_369 rfl ?_
            refine V_cS1 373 (c_Mo_item l G _ _ _ _) ok_Mo_item ml_Mo_203 st_Mo_item (gRm_ok (by decide) (by decide)) rfl rfl (Nat.le_of_ble_eq_true rfl) d_Mo_proved_370 ⟨Nat.le_of_ble_eq_true rfl, Nat.le_of_ble_eq_true rfl⟩ rfl ?_
            refine V_iconst 374 (v := 0) (by decide) d_Mo_proved_373 rfl ?_
            refine V_cS1 377 (c_Mo_fact l G _ _ _ _ _ _ _ _) ok_Mo_fact ml_Mo_206 st_Mo_fact (gRm_ok (by decide) (by decide)) rfl rfl (Nat.le_of_ble_eq_true rfl) d_Mo_proved_374 ⟨Nat.le_of_ble_eq_true rfl, Nat.le_of_ble_eq_true rfl⟩ rfl ?_
            refine V_goto 381 d_Mo_proved_377 (by decide) ?_
            exact V_iret rfl d_Mo_proved_381 ⟨by rw [pvI, pvO, if_neg h16, if_neg h53, if_neg (not_not_intro h167), if_neg h284, if_pos h334, pv3, if_pos ⟨h339, h345⟩], rfl, rfl⟩
    · refine V_il8 289 d_Mo_proved_287 rfl ?_
      refine V_bz 330 292 d_Mo_proved_289 (by decide) rfl (fun h289 => ?_) (fun h289 => ?_)
      · refine V_iconst 331 (v := 0) (by decide) d_Mo_proved_330 rfl ?_
        exact V_iret rfl d_Mo_proved_331 ⟨by rw [pvI, pvO, if_neg h16, if_neg h53, if_neg (not_not_intro h167), if_pos h284, pv2, if_neg (fun h => h289 h.1)], rfl, rfl⟩
      · refine V_il7 294 d_Mo_proved_292 rfl ?_
        refine V_iconst 295 (v := 1) (by decide) d_Mo_proved_294 rfl ?_
        refine V_icmp_ne 330 298 d_Mo_proved_295 (by decide) rfl (fun h295 => ?_) (fun h295 => ?_)
        · refine V_iconst 331 (v := 0) (by decide) d_Mo_proved_330 rfl ?_
          exact V_iret rfl d_Mo_proved_331 ⟨by rw [pvI, pvO, if_neg h16, if_neg h53, if_neg (not_not_intro h167), if_pos h284, pv2, if_neg (fun h => h295 h.2)], rfl, rfl⟩
        · refine V_iconst 299 (v := 1) (by decide) d_Mo_proved_298 rfl ?_
          refine V_il5 301 d_Mo_proved_299 rfl ?_
          refine V_iconst 302 (v := 2) (by decide) d_Mo_proved_301 rfl ?_
          refine V_cS1 305 (c_Mo_item l G _ _ _ _) ok_Mo_item ml_Mo_203 st_Mo_item (gRm_ok (by decide) (by decide)) rfl rfl (Nat.le_of_ble_eq_true rfl) d_Mo_proved_302 ⟨Nat.le_of_ble_eq_true rfl, Nat.le_of_ble_eq_true rfl⟩ rfl ?_
          refine V_il4 307 d_Mo_proved_305 rfl ?_
          refine V_iconst 308 (v := 2) (by decide) d_Mo_proved_307 rfl ?_
          refine V_cS1 311 (c_Mo_item l G _ _ _ _) ok_Mo_item ml_Mo_203 st_Mo_item (gRm_ok (by decide) (by decide)) rfl rfl (Nat.le_of_ble_eq_true rfl) d_Mo_proved_308 ⟨Nat.le_of_ble_eq_true rfl, Nat.le_of_ble_eq_true rfl⟩ rfl ?_
          refine V_il4 313 d_Mo_proved_311 rfl ?_
          refine V_iconst 314 (v := 3) (by decide) d_Mo_proved_313 rfl ?_
          refine V_cS1 317 (c_Mo_item l G _ _ _ _) ok_Mo_item ml_Mo_203 st_Mo_item (gRm_ok (by decide) (by decide)) rfl rfl (Nat.le_of_ble_eq_true rfl) d_Mo_proved_314 ⟨Nat.le_of_ble_eq_true rfl, Nat.le_of_ble_eq_true rfl⟩ rfl ?_
          refine V_il4 319 d_Mo_proved_317 rfl ?_
          refine V_iconst 320 (v := 4) (by decide) d_Mo_proved_319 rfl ?_
          refine V_cS1 323 (c_Mo_item l G _ _ _ _) ok_Mo_item ml_Mo_203 st_Mo_item (gRm_ok (by decide) (by decide)) rfl rfl (Nat.le_of_ble_eq_true rfl) d_Mo_proved_320 ⟨Nat.le_of_ble_eq_true rfl, Nat.le_of_ble_eq_true rfl⟩ rfl ?_
          refine V_iconst 324 (v := 0) (by decide) d_Mo_proved_323 rfl ?_
          refine V_cS1 327 (c_Mo_fact l G _ _ _ _ _ _ _ _) ok_Mo_fact ml_Mo_206 st_Mo_fact (gRm_ok (by decide) (by decide)) rfl rfl (Nat.le_of_ble_eq_true rfl) d_Mo_proved_324 ⟨Nat.le_of_ble_eq_true rfl, Nat.le_of_ble_eq_true rfl⟩ rfl ?_
          refine V_goto 331 d_Mo_proved_327 (by decide) ?_
          exact V_iret rfl d_Mo_proved_331 ⟨by rw [pvI, pvO, if_neg h16, if_neg h53, if_neg (not_not_intro h167), if_pos h284, pv2, if_pos ⟨h289, h295⟩], rfl, rfl⟩
  have q222 : ∀ (h16 : ¬ M 414 k = 1) (h53 : ¬ M 414 k = 7) (h167 : pIn (M 414 k) 2 6) (z8 z9 z10 z11 : Option Value), V l G y_Mo_proved b_Mo_proved 12 (some FieldType.int) (rmL 3 0 0) 0 0 gAll (gPo (some (.int (pvI M c k))) L M) L (M) 0 0 [some (.ref 400), some (.int (nI k)), some (.int (M 415 k)), some (.int (M 414 k)), some (.int (sfI M k (M 416 k))), some (.int (sfI M k (M 415 k))), some (.int (itI (sfI M k (M 415 k)) 0)), some (.int (itI (sfI M k (M 416 k)) 0)), z8, z9, z10, z11] 222 [.int (bi (pvV (sfI M k (M 415 k)) (sfI M k (M 416 k))))] := by
    intro h16 h53 h167 z8 z9 z10 z11
    refine V_is8 224 d_Mo_proved_222 (by decide) rfl ?_
    refine V_il6 226 d_Mo_proved_224 rfl ?_
    refine V_iconst 227 (v := 3) (by decide) d_Mo_proved_226 rfl ?_
    refine V_icmp_ne 279 230 d_Mo_proved_227 (by decide) rfl (fun h227 => ?_) (fun h227 => ?_)
    · refine V_iconst 280 (v := 0) (by decide) d_Mo_proved_279 rfl ?_
      refine V_topi (z := bi (pvT (sfI M k (M 415 k)) (sfI M k (M 416 k)))) (by rw [bi_f (fun h => h227 h.1)]) ?_
      exact q280 h16 h53 h167 _ _ _
    · refine V_il5 232 d_Mo_proved_230 rfl ?_
      refine V_iconst 233 (v := 2) (by decide) d_Mo_proved_232 rfl ?_
      refine V_cS1 236 (c_Mo_item l G _ _ _ _) ok_Mo_item ml_Mo_203 st_Mo_item (gRm_ok (by decide) (by decide)) rfl rfl (Nat.le_of_ble_eq_true rfl) d_Mo_proved_233 ⟨Nat.le_of_ble_eq_true rfl, Nat.le_of_ble_eq_true rfl⟩ rfl ?_
      refine V_il4 238 d_Mo_proved_236 rfl ?_
      refine V_iconst 239 (v := 1) (by decide) d_Mo_proved_238 rfl ?_
      refine V_cS1 242 (c_Mo_item l G _ _ _ _) ok_Mo_item ml_Mo_203 st_Mo_item (gRm_ok (by decide) (by decide)) rfl rfl (Nat.le_of_ble_eq_true rfl) d_Mo_proved_239 ⟨Nat.le_of_ble_eq_true rfl, Nat.le_of_ble_eq_true rfl⟩ rfl ?_
      refine V_icmp_ne 279 245 d_Mo_proved_242 (by decide) rfl (fun h242 => ?_) (fun h242 => ?_)
      · refine V_iconst 280 (v := 0) (by decide) d_Mo_proved_279 rfl ?_
        refine V_topi (z := bi (pvT (sfI M k (M 415 k)) (sfI M k (M 416 k)))) (by rw [bi_f (fun h => h242 h.2.1)]) ?_
        exact q280 h16 h53 h167 _ _ _
      · refine V_il5 247 d_Mo_proved_245 rfl ?_
        refine V_iconst 248 (v := 3) (by decide) d_Mo_proved_247 rfl ?_
        refine V_cS1 251 (c_Mo_item l G _ _ _ _) ok_Mo_item ml_Mo_203 st_Mo_item (gRm_ok (by decide) (by decide)) rfl rfl (Nat.le_of_ble_eq_true rfl) d_Mo_proved_248 ⟨Nat.le_of_ble_eq_true rfl, Nat.le_of_ble_eq_true rfl⟩ rfl ?_
        refine V_il4 253 d_Mo_proved_251 rfl ?_
        refine V_iconst 254 (v := 3) (by decide) d_Mo_proved_253 rfl ?_
        refine V_cS1 257 (c_Mo_item l G _ _ _ _) ok_Mo_item ml_Mo_203 st_Mo_item (gRm_ok (by decide) (by decide)) rfl rfl (Nat.le_of_ble_eq_true rfl) d_Mo_proved_254 ⟨Nat.le_of_ble_eq_true rfl, Nat.le_of_ble_eq_true rfl⟩ rfl ?_
        refine V_icmp_ne 279 260 d_Mo_proved_257 (by decide) rfl (fun h257 => ?_) (fun h257 => ?_)
        · refine V_iconst 280 (v := 0) (by decide) d_Mo_proved_279 rfl ?_
          refine V_topi (z := bi (pvT (sfI M k (M 415 k)) (sfI M k (M 416 k)))) (by rw [bi_f (fun h => h257 h.2.2.1)]) ?_
          exact q280 h16 h53 h167 _ _ _
        · refine V_il5 262 d_Mo_proved_260 rfl ?_
          refine V_iconst 263 (v := 4) (by decide) d_Mo_proved_262 rfl ?_
          refine V_cS1 266 (c_Mo_item l G _ _ _ _) ok_Mo_item ml_Mo_203 st_Mo_item (gRm_ok (by decide) (by decide)) rfl rfl (Nat.le_of_ble_eq_true rfl) d_Mo_proved_263 ⟨Nat.le_of_ble_eq_true rfl, Nat.le_of_ble_eq_true rfl⟩ rfl ?_
          refine V_il4 268 d_Mo_proved_266 rfl ?_
          refine V_iconst 269 (v := 4) (by decide) d_Mo_proved_268 rfl ?_
          refine V_cS1 272 (c_Mo_item l G _ _ _ _) ok_Mo_item ml_Mo_203 st_Mo_item (gRm_ok (by decide) (by decide)) rfl rfl (Nat.le_of_ble_eq_true rfl) d_Mo_proved_269 ⟨Nat.le_of_ble_eq_true rfl, Nat.le_of_ble_eq_true rfl⟩ rfl ?_
          refine V_icmp_ne 279 275 d_Mo_proved_272 (by decide) rfl (fun h272 => ?_) (fun h272 => ?_)
          · refine V_iconst 280 (v := 0) (by decide) d_Mo_proved_279 rfl ?_
            refine V_topi (z := bi (pvT (sfI M k (M 415 k)) (sfI M k (M 416 k)))) (by rw [bi_f (fun h => h272 h.2.2.2)]) ?_
            exact q280 h16 h53 h167 _ _ _
          · refine V_iconst 276 (v := 1) (by decide) d_Mo_proved_275 rfl ?_
            refine V_goto 280 d_Mo_proved_276 (by decide) ?_
            refine V_topi (z := bi (pvT (sfI M k (M 415 k)) (sfI M k (M 416 k)))) (by rw [bi_t ⟨h227, h242, h257, h272⟩]) ?_
            exact q280 h16 h53 h167 _ _ _
  have q119 : ∀ (h16 : ¬ M 414 k = 1) (h53 : M 414 k = 7) (z5 z6 z7 z8 z9 z10 z11 : Option Value), V l G y_Mo_proved b_Mo_proved 12 (some FieldType.int) (rmL 3 0 0) 0 0 gAll (gPo (some (.int (pvI M c k))) L M) L (M) 0 0 [some (.ref 400), some (.int (nI k)), some (.int (M 415 k)), some (.int (M 414 k)), some (.int (sfI M k (M 416 k))), z5, z6, z7, z8, z9, z10, z11] 119 [.int (bi (pHz M c (M 415 k) ∧ M 405 (M 415 k).toNatClampNeg = 3 ∧ itI (sfI M k (M 416 k)) 0 = 1 ∧ itI (sfI M k (M 416 k)) 1 = M 404 (M 415 k).toNatClampNeg ∧ itI (sfI M k (M 416 k)) 3 = M 406 (M 415 k).toNatClampNeg))] := by
    intro h16 h53 z5 z6 z7 z8 z9 z10 z11
    refine V_is5 121 d_Mo_proved_119 (by decide) rfl ?_
    refine V_il5 123 d_Mo_proved_121 rfl ?_
    refine V_bz 158 126 d_Mo_proved_123 (by decide) rfl (fun h123 => ?_) (fun h123 => ?_)
    · refine V_iconst 159 (v := 0) (by decide) d_Mo_proved_158 rfl ?_
      exact V_iret rfl d_Mo_proved_159 ⟨by rw [pvI, pvO, if_neg h16, if_pos h53, pv7, if_neg h123], rfl, rfl⟩
    · obtain ⟨n, hn1, hn2, ex, cx⟩ := pIn_n hc h123.1.1
      refine V_iconst 127 (v := 1) (by decide) d_Mo_proved_126 rfl ?_
      refine V_il4 129 d_Mo_proved_127 rfl ?_
      refine V_iconst 130 (v := 1) (by decide) d_Mo_proved_129 rfl ?_
      refine V_cS1 133 (c_Mo_item l G _ _ _ _) ok_Mo_item ml_Mo_203 st_Mo_item (gRm_ok (by decide) (by decide)) rfl rfl (Nat.le_of_ble_eq_true rfl) d_Mo_proved_130 ⟨Nat.le_of_ble_eq_true rfl, Nat.le_of_ble_eq_true rfl⟩ rfl ?_
      refine V_il4 135 d_Mo_proved_133 rfl ?_
      refine V_iconst 136 (v := 2) (by decide) d_Mo_proved_135 rfl ?_
      refine V_cS1 139 (c_Mo_item l G _ _ _ _) ok_Mo_item ml_Mo_203 st_Mo_item (gRm_ok (by decide) (by decide)) rfl rfl (Nat.le_of_ble_eq_true rfl) d_Mo_proved_136 ⟨Nat.le_of_ble_eq_true rfl, Nat.le_of_ble_eq_true rfl⟩ rfl ?_
      refine V_al0 140 d_Mo_proved_139 rfl ?_
      refine V_getr 143 14 (lM hM) kc_Mo (by decide) fl_Mo_29 (Or.inl rfl) rfl d_Mo_proved_140 rfl ?_
      refine V_il2 144 d_Mo_proved_143 rfl ?_
      refine V_ialn 145 (n) (lM407 hM) ex (by omega) (by decide) d_Mo_proved_144 rfl ?_
      refine V_il4 147 d_Mo_proved_145 rfl ?_
      refine V_iconst 148 (v := 4) (by decide) d_Mo_proved_147 rfl ?_
      refine V_cS1 151 (c_Mo_item l G _ _ _ _) ok_Mo_item ml_Mo_203 st_Mo_item (gRm_ok (by decide) (by decide)) rfl rfl (Nat.le_of_ble_eq_true rfl) d_Mo_proved_148 ⟨Nat.le_of_ble_eq_true rfl, Nat.le_of_ble_eq_true rfl⟩ rfl ?_
      refine V_iconst 152 (v := 0) (by decide) d_Mo_proved_151 rfl ?_
      refine V_cS1 155 (c_Mo_fact l G _ _ _ _ _ _ _ _) ok_Mo_fact ml_Mo_206 st_Mo_fact (gRm_ok (by decide) (by decide)) rfl rfl (Nat.le_of_ble_eq_true rfl) d_Mo_proved_152 ⟨Nat.le_of_ble_eq_true rfl, Nat.le_of_ble_eq_true rfl⟩ rfl ?_
      refine V_goto 159 d_Mo_proved_155 (by decide) ?_
      exact V_iret rfl d_Mo_proved_159 ⟨by rw [pvI, pvO, if_neg h16, if_pos h53, pv7, if_pos h123, cx], rfl, rfl⟩
  refine gMet_of (lv := [some (.ref 400), some (.int (nI k)), none, none, none, none, none, none, none, none, none, none]) (by decide) rfl (Nat.le_of_ble_eq_true rfl) rfl ?_
  refine V_al0 1 d_Mo_proved_0 rfl ?_
  refine V_getr 4 24 (lM hM) kc_Mo (by decide) fl_Mo_53 (Or.inl rfl) rfl d_Mo_proved_1 rfl ?_
  refine V_il1 5 d_Mo_proved_4 rfl ?_
  refine V_ialn 6 (k) (lM415 hM) rfl hk (by decide) d_Mo_proved_5 rfl ?_
  refine V_is2 7 d_Mo_proved_6 (by decide) rfl ?_
  refine V_al0 8 d_Mo_proved_7 rfl ?_
  refine V_getr 11 23 (lM hM) kc_Mo (by decide) fl_Mo_50 (Or.inl rfl) rfl d_Mo_proved_8 rfl ?_
  refine V_il1 12 d_Mo_proved_11 rfl ?_
  refine V_ialn 13 (k) (lM414 hM) rfl hk (by decide) d_Mo_proved_12 rfl ?_
  refine V_is3 14 d_Mo_proved_13 (by decide) rfl ?_
  refine V_il3 15 d_Mo_proved_14 rfl ?_
  refine V_iconst 16 (v := 1) (by decide) d_Mo_proved_15 rfl ?_
  refine V_icmp_ne 37 19 d_Mo_proved_16 (by decide) rfl (fun h16 => ?_) (fun h16 => ?_)
  · refine V_al0 38 d_Mo_proved_37 rfl ?_
    refine V_il1 39 d_Mo_proved_38 rfl ?_
    refine V_al0 40 d_Mo_proved_39 rfl ?_
    refine V_getr 43 25 (lM hM) kc_Mo (by decide) fl_Mo_56 (Or.inl rfl) rfl d_Mo_proved_40 rfl ?_
    refine V_il1 44 d_Mo_proved_43 rfl ?_
    refine V_ialn 45 (k) (lM416 hM) rfl hk (by decide) d_Mo_proved_44 rfl ?_
    refine V_cV1 48 (c_Mo_stepFact l G _ _ hM k (by omega) _) ok_Mo_stepFact ml_Mo_200 im_Mo_stepFact se_Mo_stepFact (lM hM) kc_Mo (gRm_ok (by decide) (by decide)) rfl rfl (Nat.le_of_ble_eq_true rfl) d_Mo_proved_45 ⟨Nat.le_of_ble_eq_true rfl, Nat.le_of_ble_eq_true rfl⟩ rfl ?_
    refine V_is4 50 d_Mo_proved_48 (by decide) rfl ?_
    refine V_il3 51 d_Mo_proved_50 rfl ?_
    refine V_bipush 53 (v := 7) (by decide) d_Mo_proved_51 rfl ?_
    refine V_icmp_ne 160 56 d_Mo_proved_53 (by decide) rfl (fun h53 => ?_) (fun h53 => ?_)
    · refine V_il3 161 d_Mo_proved_160 rfl ?_
      refine V_iconst 162 (v := 2) (by decide) d_Mo_proved_161 rfl ?_
      refine V_bipush 164 (v := 6) (by decide) d_Mo_proved_162 rfl ?_
      refine V_cS1 167 (c_Mo_in l G _ _ _ _ _) ok_Mo_in ml_Mo_106 st_Mo_in (gRm_ok (by decide) (by decide)) rfl rfl (Nat.le_of_ble_eq_true rfl) d_Mo_proved_164 ⟨Nat.le_of_ble_eq_true rfl, Nat.le_of_ble_eq_true rfl⟩ rfl ?_
      refine V_bn 172 170 d_Mo_proved_167 (by decide) rfl (fun h167 => ?_) (fun h167 => ?_)
      · refine V_al0 173 d_Mo_proved_172 rfl ?_
        refine V_il1 174 d_Mo_proved_173 rfl ?_
        refine V_il2 175 d_Mo_proved_174 rfl ?_
        refine V_cV1 178 (c_Mo_stepFact l G _ _ hM k (by omega) _) ok_Mo_stepFact ml_Mo_200 im_Mo_stepFact se_Mo_stepFact (lM hM) kc_Mo (gRm_ok (by decide) (by decide)) rfl rfl (Nat.le_of_ble_eq_true rfl) d_Mo_proved_175 ⟨Nat.le_of_ble_eq_true rfl, Nat.le_of_ble_eq_true rfl⟩ rfl ?_
        refine V_is5 180 d_Mo_proved_178 (by decide) rfl ?_
        refine V_il5 182 d_Mo_proved_180 rfl ?_
        refine V_iconst 183 (v := 0) (by decide) d_Mo_proved_182 rfl ?_
        refine V_cS1 186 (c_Mo_item l G _ _ _ _) ok_Mo_item ml_Mo_203 st_Mo_item (gRm_ok (by decide) (by decide)) rfl rfl (Nat.le_of_ble_eq_true rfl) d_Mo_proved_183 ⟨Nat.le_of_ble_eq_true rfl, Nat.le_of_ble_eq_true rfl⟩ rfl ?_
        refine V_is6 188 d_Mo_proved_186 (by decide) rfl ?_
        refine V_il4 190 d_Mo_proved_188 rfl ?_
        refine V_iconst 191 (v := 0) (by decide) d_Mo_proved_190 rfl ?_
        refine V_cS1 194 (c_Mo_item l G _ _ _ _) ok_Mo_item ml_Mo_203 st_Mo_item (gRm_ok (by decide) (by decide)) rfl rfl (Nat.le_of_ble_eq_true rfl) d_Mo_proved_191 ⟨Nat.le_of_ble_eq_true rfl, Nat.le_of_ble_eq_true rfl⟩ rfl ?_
        refine V_is7 196 d_Mo_proved_194 (by decide) rfl ?_
        refine V_il6 198 d_Mo_proved_196 rfl ?_
        refine V_iconst 199 (v := 2) (by decide) d_Mo_proved_198 rfl ?_
        refine V_icmp_ne 221 202 d_Mo_proved_199 (by decide) rfl (fun h199 => ?_) (fun h199 => ?_)
        · refine V_iconst 222 (v := 0) (by decide) d_Mo_proved_221 rfl ?_
          refine V_topi (z := bi (pvV (sfI M k (M 415 k)) (sfI M k (M 416 k)))) (by rw [bi_f (fun h => h199 h.1)]) ?_
          exact q222 h16 h53 h167 _ _ _ _
        · refine V_il5 204 d_Mo_proved_202 rfl ?_
          refine V_iconst 205 (v := 1) (by decide) d_Mo_proved_204 rfl ?_
          refine V_cS1 208 (c_Mo_item l G _ _ _ _) ok_Mo_item ml_Mo_203 st_Mo_item (gRm_ok (by decide) (by decide)) rfl rfl (Nat.le_of_ble_eq_true rfl) d_Mo_proved_205 ⟨Nat.le_of_ble_eq_true rfl, Nat.le_of_ble_eq_true rfl⟩ rfl ?_
          refine V_il4 210 d_Mo_proved_208 rfl ?_
          refine V_iconst 211 (v := 1) (by decide) d_Mo_proved_210 rfl ?_
          refine V_cS1 214 (c_Mo_item l G _ _ _ _) ok_Mo_item ml_Mo_203 st_Mo_item (gRm_ok (by decide) (by decide)) rfl rfl (Nat.le_of_ble_eq_true rfl) d_Mo_proved_211 ⟨Nat.le_of_ble_eq_true rfl, Nat.le_of_ble_eq_true rfl⟩ rfl ?_
          refine V_icmp_ne 221 217 d_Mo_proved_214 (by decide) rfl (fun h214 => ?_) (fun h214 => ?_)
          · refine V_iconst 222 (v := 0) (by decide) d_Mo_proved_221 rfl ?_
            refine V_topi (z := bi (pvV (sfI M k (M 415 k)) (sfI M k (M 416 k)))) (by rw [bi_f (fun h => h214 h.2)]) ?_
            exact q222 h16 h53 h167 _ _ _ _
          · refine V_iconst 218 (v := 1) (by decide) d_Mo_proved_217 rfl ?_
            refine V_goto 222 d_Mo_proved_218 (by decide) ?_
            refine V_topi (z := bi (pvV (sfI M k (M 415 k)) (sfI M k (M 416 k)))) (by rw [bi_t ⟨h199, h214⟩]) ?_
            exact q222 h16 h53 h167 _ _ _ _
      · refine V_iconst 171 (v := 0) (by decide) d_Mo_proved_170 rfl ?_
        exact V_iret rfl d_Mo_proved_171 ⟨by rw [pvI, pvO, if_neg h16, if_neg h53, if_pos h167], rfl, rfl⟩
    · refine V_al0 57 d_Mo_proved_56 rfl ?_
      refine V_il2 58 d_Mo_proved_57 rfl ?_
      refine V_cV1 61 (c_Mo_holdz l G _ _ hM c hcm hc _) ok_Mo_holds ml_Mo_147 im_Mo_holds se_Mo_holds (lM hM) kc_Mo (gRm_ok (by decide) (by decide)) rfl rfl (Nat.le_of_ble_eq_true rfl) d_Mo_proved_58 ⟨Nat.le_of_ble_eq_true rfl, Nat.le_of_ble_eq_true rfl⟩ rfl ?_
      refine V_bz 118 64 d_Mo_proved_61 (by decide) rfl (fun h61 => ?_) (fun h61 => ?_)
      · refine V_iconst 119 (v := 0) (by decide) d_Mo_proved_118 rfl ?_
        refine V_topi (z := bi (pHz M c (M 415 k) ∧ M 405 (M 415 k).toNatClampNeg = 3 ∧ itI (sfI M k (M 416 k)) 0 = 1 ∧ itI (sfI M k (M 416 k)) 1 = M 404 (M 415 k).toNatClampNeg ∧ itI (sfI M k (M 416 k)) 3 = M 406 (M 415 k).toNatClampNeg)) (by rw [bi_f (fun h => h61 h.1)]) ?_
        exact q119 h16 h53 _ _ _ _ _ _ _
      · obtain ⟨n, hn1, hn2, ex, cx⟩ := pIn_n hc h61.1
        refine V_al0 65 d_Mo_proved_64 rfl ?_
        refine V_getr 68 12 (lM hM) kc_Mo (by decide) fl_Mo_23 (Or.inl rfl) rfl d_Mo_proved_65 rfl ?_
        refine V_il2 69 d_Mo_proved_68 rfl ?_
        refine V_ialn 70 (n) (lM405 hM) ex (by omega) (by decide) d_Mo_proved_69 rfl ?_
        refine V_iconst 71 (v := 3) (by decide) d_Mo_proved_70 rfl ?_
        refine V_icmp_ne 118 74 d_Mo_proved_71 (by decide) rfl (fun h71 => ?_) (fun h71 => ?_)
        · refine V_iconst 119 (v := 0) (by decide) d_Mo_proved_118 rfl ?_
          refine V_topi (z := bi (pHz M c (M 415 k) ∧ M 405 (M 415 k).toNatClampNeg = 3 ∧ itI (sfI M k (M 416 k)) 0 = 1 ∧ itI (sfI M k (M 416 k)) 1 = M 404 (M 415 k).toNatClampNeg ∧ itI (sfI M k (M 416 k)) 3 = M 406 (M 415 k).toNatClampNeg)) (by rw [bi_f (fun h => h71 (by rw [← cx]; exact h.2.1))]) ?_
          exact q119 h16 h53 _ _ _ _ _ _ _
        · refine V_il4 76 d_Mo_proved_74 rfl ?_
          refine V_iconst 77 (v := 0) (by decide) d_Mo_proved_76 rfl ?_
          refine V_cS1 80 (c_Mo_item l G _ _ _ _) ok_Mo_item ml_Mo_203 st_Mo_item (gRm_ok (by decide) (by decide)) rfl rfl (Nat.le_of_ble_eq_true rfl) d_Mo_proved_77 ⟨Nat.le_of_ble_eq_true rfl, Nat.le_of_ble_eq_true rfl⟩ rfl ?_
          refine V_iconst 81 (v := 1) (by decide) d_Mo_proved_80 rfl ?_
          refine V_icmp_ne 118 84 d_Mo_proved_81 (by decide) rfl (fun h81 => ?_) (fun h81 => ?_)
          · refine V_iconst 119 (v := 0) (by decide) d_Mo_proved_118 rfl ?_
            refine V_topi (z := bi (pHz M c (M 415 k) ∧ M 405 (M 415 k).toNatClampNeg = 3 ∧ itI (sfI M k (M 416 k)) 0 = 1 ∧ itI (sfI M k (M 416 k)) 1 = M 404 (M 415 k).toNatClampNeg ∧ itI (sfI M k (M 416 k)) 3 = M 406 (M 415 k).toNatClampNeg)) (by rw [bi_f (fun h => h81 h.2.2.1)]) ?_
            exact q119 h16 h53 _ _ _ _ _ _ _
          · refine V_il4 86 d_Mo_proved_84 rfl ?_
            refine V_iconst 87 (v := 1) (by decide) d_Mo_proved_86 rfl ?_
            refine V_cS1 90 (c_Mo_item l G _ _ _ _) ok_Mo_item ml_Mo_203 st_Mo_item (gRm_ok (by decide) (by decide)) rfl rfl (Nat.le_of_ble_eq_true rfl) d_Mo_proved_87 ⟨Nat.le_of_ble_eq_true rfl, Nat.le_of_ble_eq_true rfl⟩ rfl ?_
            refine V_al0 91 d_Mo_proved_90 rfl ?_
            refine V_getr 94 11 (lM hM) kc_Mo (by decide) fl_Mo_20 (Or.inl rfl) rfl d_Mo_proved_91 rfl ?_
            refine V_il2 95 d_Mo_proved_94 rfl ?_
            refine V_ialn 96 (n) (lM404 hM) ex (by omega) (by decide) d_Mo_proved_95 rfl ?_
            refine V_icmp_ne 118 99 d_Mo_proved_96 (by decide) rfl (fun h96 => ?_) (fun h96 => ?_)
            · refine V_iconst 119 (v := 0) (by decide) d_Mo_proved_118 rfl ?_
              refine V_topi (z := bi (pHz M c (M 415 k) ∧ M 405 (M 415 k).toNatClampNeg = 3 ∧ itI (sfI M k (M 416 k)) 0 = 1 ∧ itI (sfI M k (M 416 k)) 1 = M 404 (M 415 k).toNatClampNeg ∧ itI (sfI M k (M 416 k)) 3 = M 406 (M 415 k).toNatClampNeg)) (by rw [bi_f (fun h => h96 (by rw [← cx]; exact h.2.2.2.1))]) ?_
              exact q119 h16 h53 _ _ _ _ _ _ _
            · refine V_il4 101 d_Mo_proved_99 rfl ?_
              refine V_iconst 102 (v := 3) (by decide) d_Mo_proved_101 rfl ?_
              refine V_cS1 105 (c_Mo_item l G _ _ _ _) ok_Mo_item ml_Mo_203 st_Mo_item (gRm_ok (by decide) (by decide)) rfl rfl (Nat.le_of_ble_eq_true rfl) d_Mo_proved_102 ⟨Nat.le_of_ble_eq_true rfl, Nat.le_of_ble_eq_true rfl⟩ rfl ?_
              refine V_al0 106 d_Mo_proved_105 rfl ?_
              refine V_getr 109 13 (lM hM) kc_Mo (by decide) fl_Mo_26 (Or.inl rfl) rfl d_Mo_proved_106 rfl ?_
              refine V_il2 110 d_Mo_proved_109 rfl ?_
              refine V_ialn 111 (n) (lM406 hM) ex (by omega) (by decide) d_Mo_proved_110 rfl ?_
              refine V_icmp_ne 118 114 d_Mo_proved_111 (by decide) rfl (fun h111 => ?_) (fun h111 => ?_)
              · refine V_iconst 119 (v := 0) (by decide) d_Mo_proved_118 rfl ?_
                refine V_topi (z := bi (pHz M c (M 415 k) ∧ M 405 (M 415 k).toNatClampNeg = 3 ∧ itI (sfI M k (M 416 k)) 0 = 1 ∧ itI (sfI M k (M 416 k)) 1 = M 404 (M 415 k).toNatClampNeg ∧ itI (sfI M k (M 416 k)) 3 = M 406 (M 415 k).toNatClampNeg)) (by rw [bi_f (fun h => h111 (by rw [← cx]; exact h.2.2.2.2))]) ?_
                exact q119 h16 h53 _ _ _ _ _ _ _
              · refine V_iconst 115 (v := 1) (by decide) d_Mo_proved_114 rfl ?_
                refine V_goto 119 d_Mo_proved_115 (by decide) ?_
                refine V_topi (z := bi (pHz M c (M 415 k) ∧ M 405 (M 415 k).toNatClampNeg = 3 ∧ itI (sfI M k (M 416 k)) 0 = 1 ∧ itI (sfI M k (M 416 k)) 1 = M 404 (M 415 k).toNatClampNeg ∧ itI (sfI M k (M 416 k)) 3 = M 406 (M 415 k).toNatClampNeg)) (by rw [bi_t ⟨h61, by rw [cx]; exact h71, h81, by rw [cx]; exact h96, by rw [cx]; exact h111⟩]) ?_
                exact q119 h16 h53 _ _ _ _ _ _ _
  · refine V_al0 20 d_Mo_proved_19 rfl ?_
    refine V_il2 21 d_Mo_proved_20 rfl ?_
    refine V_cV1 24 (c_Mo_holdz l G _ _ hM c hcm hc _) ok_Mo_holds ml_Mo_147 im_Mo_holds se_Mo_holds (lM hM) kc_Mo (gRm_ok (by decide) (by decide)) rfl rfl (Nat.le_of_ble_eq_true rfl) d_Mo_proved_21 ⟨Nat.le_of_ble_eq_true rfl, Nat.le_of_ble_eq_true rfl⟩ rfl ?_
    refine V_bz 35 27 d_Mo_proved_24 (by decide) rfl (fun h24 => ?_) (fun h24 => ?_)
    · refine V_iconst 36 (v := 0) (by decide) d_Mo_proved_35 rfl ?_
      exact V_iret rfl d_Mo_proved_36 ⟨by rw [pvI, pvO, if_pos h16, if_neg h24], rfl, rfl⟩
    · obtain ⟨n, hn1, hn2, ex, cx⟩ := pIn_n hc h24.1
      refine V_al0 28 d_Mo_proved_27 rfl ?_
      refine V_il2 29 d_Mo_proved_28 rfl ?_
      refine V_topi ex ?_
      refine V_cV1 32 (c_Mo_spoken l G _ _ hM n (by omega)) ok_Mo_spoken ml_Mo_197 im_Mo_spoken se_Mo_spoken (lM hM) kc_Mo (gRm_ok (by decide) (by decide)) rfl rfl (Nat.le_of_ble_eq_true rfl) d_Mo_proved_29 ⟨Nat.le_of_ble_eq_true rfl, Nat.le_of_ble_eq_true rfl⟩ rfl ?_
      refine V_goto 36 d_Mo_proved_32 (by decide) ?_
      exact V_iret rfl d_Mo_proved_36 ⟨by rw [pvI, pvO, if_pos h16, if_pos h24, cx], rfl, rfl⟩

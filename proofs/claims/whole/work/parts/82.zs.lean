/-! seal, and the reference's constructor, once more: what they keep is more -/
set_option maxRecDepth 100000 in
set_option maxHeartbeats 4000000 in
theorem c_Ga_seal2 (l : Launch) (G : gG) (L : gLy) (M : gMe) (hL : gLC L) (hs : gSt G) (h0 : L 300 = none) (h1 : L 301 = none) (h2 : L 302 = none) (i k a b c d f t : Int32) : gMet l G y_Ga_seal b_Ga_seal 10 (some FieldType.int) (rmL 4 3 14) [.ref 2, .int i, .int k, .int a, .int b, .int c, .int d, .int f, .int t] L M (fun x => x ≠ 300 ∧ x ≠ 301 ∧ x ≠ 302) (gPo (some (.int (slR (M 2 0) i k a b c d f t))) L M) 3 14 := by
  refine gMet_of (lv := [some (.ref 2), some (.int i), some (.int k), some (.int a), some (.int b), some (.int c), some (.int d), some (.int f), some (.int t), none]) (by decide) rfl (Nat.le_of_ble_eq_true rfl) rfl ?_
  refine V_clo (fun hclo => ?_)
  refine V_iconst 1 (v := 4) (by decide) d_Ga_seal_0 rfl ?_
  refine V_newi 3 300 4 rfl (by decide) h0 (by decide) (by decide) ⟨fun x hx => ?_, fun x hx => ?_⟩ (Nat.le_of_ble_eq_true rfl) (Nat.le_of_ble_eq_true rfl) d_Ga_seal_1 rfl ?_
  · simp at hx; subst hx; decide
  · simp at hx
  obtain ⟨L1, eL1⟩ : ∃ L1, L1 = va_up L 300 (some (.inl (0, 4, none))) := ⟨_, rfl⟩
  have hg : L1 300 = some (.inl (0, 4, none)) := by rw [eL1]; exact va_up_self _ _ _
  rw [← eL1]
  refine V_dup 4 rfl d_Ga_seal_3 rfl ?_
  refine V_iconst 5 (v := 0) (by decide) d_Ga_seal_4 rfl ?_
  refine V_il3 6 d_Ga_seal_5 rfl ?_
  refine V_iasn 7 0 hg (by decide) (by decide) (by decide) d_Ga_seal_6 rfl ?_
  refine V_dup 8 rfl d_Ga_seal_7 rfl ?_
  refine V_iconst 9 (v := 1) (by decide) d_Ga_seal_8 rfl ?_
  refine V_il4 11 d_Ga_seal_9 rfl ?_
  refine V_iasn 12 1 hg (by decide) (by decide) (by decide) d_Ga_seal_11 rfl ?_
  refine V_dup 13 rfl d_Ga_seal_12 rfl ?_
  refine V_iconst 14 (v := 2) (by decide) d_Ga_seal_13 rfl ?_
  refine V_il5 16 d_Ga_seal_14 rfl ?_
  refine V_iasn 17 2 hg (by decide) (by decide) (by decide) d_Ga_seal_16 rfl ?_
  refine V_dup 18 rfl d_Ga_seal_17 rfl ?_
  refine V_iconst 19 (v := 3) (by decide) d_Ga_seal_18 rfl ?_
  refine V_il6 21 d_Ga_seal_19 rfl ?_
  refine V_iasn 22 3 hg (by decide) (by decide) (by decide) d_Ga_seal_21 rfl ?_
  obtain ⟨M1, eM1⟩ : ∃ M1, M1 = gst (gst (gst (gst (va_up M 300 (fun _ => 0)) 300 0 a) 300 1 b) 300 2 c) 300 3 d := ⟨_, rfl⟩
  rw [← eM1]
  refine V_as9 24 d_Ga_seal_22 (by decide) rfl ?_
  refine V_al0 25 d_Ga_seal_24 rfl ?_
  refine V_new 28 301 kc_Cr cl_Ga_7 in_Cr ii_Cr crFs (by rw [eL1, va_up_ne _ _ (by decide)]; exact h1) (by decide) (by decide) ⟨fun x hx => ?_, fun x hx => ?_⟩ (fun b hb => by simp [crF0] at hb) (Nat.le_of_ble_eq_true rfl) (Nat.le_of_ble_eq_true rfl) d_Ga_seal_25 rfl ?_
  · simp at hx; rcases hx with rfl | rfl <;> decide
  · simp at hx; subst hx; decide
  obtain ⟨L3, eL3⟩ : ∃ L3, L3 = va_up L1 301 (some (.inr (3, crF0))) := ⟨_, rfl⟩
  rw [← eL3]
  have hla : L3 301 = some (.inr (3, crF0)) := by rw [eL3]; exact va_up_self _ _ _
  have hlb : L3 300 = some (.inl (0, 4, none)) := by rw [eL3, va_up_ne _ _ (by decide)]; exact hg
  have hln : L3 302 = none := by rw [eL3, va_up_ne _ _ (by decide), eL1, va_up_ne _ _ (by decide)]; exact h2
  refine V_dup 29 rfl d_Ga_seal_28 rfl ?_
  refine V_il1 30 d_Ga_seal_29 rfl ?_
  refine V_il2 31 d_Ga_seal_30 rfl ?_
  refine V_al9 33 d_Ga_seal_31 rfl ?_
  refine V_il7 35 d_Ga_seal_33 rfl ?_
  refine V_il8 37 d_Ga_seal_35 rfl ?_
  refine V_callI 40 (as := [.int i, .int k, .ref 300, .int f, .int t]) (c_Cr_init l G _ _ hs 301 302 300 hla hln hlb (by decide) i k f t) ok_Cr_init ml_Ga_75 im_Cr_init rfl (gRm_ok (by decide) (by decide)) rfl rfl (Nat.le_of_ble_eq_true rfl) d_Ga_seal_37 ⟨Nat.le_of_ble_eq_true rfl, Nat.le_of_ble_eq_true rfl⟩ (fun x hx => hx.2.2) ⟨fun x hx => ?_, fun x hx => ?_⟩ rfl ?_
  · simp at hx; rcases hx with rfl | rfl <;> decide
  · simp at hx; rcases hx with rfl | rfl <;> decide
  intro v L9 M9 hpo
  obtain ⟨rfl, rfl, rfl⟩ := hpo
  have hR : gLR (crL L3 301 302) 301 302 := ⟨va_up_self _ _ _, (va_up_ne _ _ (by decide)).trans (va_up_self _ _ _)⟩
  have hk2 : ∀ q, q < 300 → crL L3 301 302 q = L q := fun q hq => by
    unfold crL
    rw [va_up_ne _ _ (by omega), va_up_ne _ _ (by omega), eL3, va_up_ne _ _ (by omega), eL1, va_up_ne _ _ (by omega)]
  have hq2 : crL L3 301 302 2 = _ := (hk2 2 (by decide)).trans (lC2 hL)
  have hm : ∀ q, q < 300 → crM (va_up M1 301 (fun _ => 0)) 301 302 300 i k f t q = M q := fun q hq => by
    rw [crM_ne (by omega) (by omega), va_up_ne _ _ (by omega), eM1, gst_ne _ _ _ _ (by omega), gst_ne _ _ _ _ (by omega), gst_ne _ _ _ _ (by omega), gst_ne _ _ _ _ (by omega), va_up_ne _ _ (by omega)]
  obtain ⟨g1, g2, g3, g4, g5, g6, g7, g8⟩ := crM_at (M := va_up M1 301 (fun _ => 0)) (a := 301) (n := 302) (b := 300) (i := i) (k := k) (f := f) (t := t) (by decide)
  have hv : soI (crM (va_up M1 301 (fun _ => 0)) 301 302 300 i k f t) 301 302 = slR (M 2 0) i k a b c d f t := by
    unfold soI mkI slR
    rw [g1, g2, g3, g4, g5, g6, g7, g8, hm 2 (by decide)]
    have e : ∀ j, va_up M1 301 (fun _ => 0) 300 j = M1 300 j := fun j => by rw [va_up_ne _ _ (by decide)]
    rw [e, e, e, e, eM1]
    simp [gst_at]
  refine V_cV1 43 (c_Ga_sealOf' l G _ _ hq2 301 302 hR) ok_Ga_sealOf ml_Ga_78 im_Ga_sealOf se_Ga_sealOf hq2 kc_Ga (gRm_ok (by decide) (by decide)) rfl rfl (Nat.le_of_ble_eq_true rfl) d_Ga_seal_40 ⟨Nat.le_of_ble_eq_true rfl, Nat.le_of_ble_eq_true rfl⟩ rfl ?_
  refine V_topi hv ?_
  refine V_rest (L2 := L) (M2 := M) (fun q kd hq => ?_) hclo (fun q hq => ?_) ?_
  · have hlt : q ≠ 300 ∧ q ≠ 301 ∧ q ≠ 302 := ⟨fun h => (by rw [h, h0] at hq; cases hq), fun h => (by rw [h, h1] at hq; cases hq), fun h => (by rw [h, h2] at hq; cases hq)⟩
    unfold crL
    rw [va_up_ne _ _ hlt.2.1, va_up_ne _ _ hlt.2.2, eL3, va_up_ne _ _ hlt.2.1, eL1, va_up_ne _ _ hlt.1]
    exact hq
  · have hlt : q ≠ 300 ∧ q ≠ 301 ∧ q ≠ 302 := ⟨fun h => hq (by rw [h]; exact h0), fun h => hq (by rw [h]; exact h1), fun h => hq (by rw [h]; exact h2)⟩
    rw [crM_ne hlt.2.2 hlt.2.1, va_up_ne _ _ hlt.2.1, eM1, gst_ne _ _ _ _ hlt.1, gst_ne _ _ _ _ hlt.1, gst_ne _ _ _ _ hlt.1, gst_ne _ _ _ _ hlt.1, va_up_ne _ _ hlt.1]
  exact V_iret rfl d_Ga_seal_43 ⟨rfl, rfl, rfl⟩
section gMoMake2
variable {l : Launch} {G : gG} {R : Room} {mc ms : Nat} {post : Option Value → gLy → gMe → Prop} {L L' : gLy} {M M' : gMe} {cells slots : Nat} {lv : List (Option Value)} {pc : Nat}
theorem V_moA2 (j N : Nat) {at9 : ArrayType} {t : Nat} {ty : FieldType} {n : Int32} {index : Nat} (hi : gMi L L' M j M') (hj : j < 26) (hLn : L (401 + j) = none) (hsz : szM (401 + j) = (t, N)) (hta : newarray.typeOf at9 = ty) (htl : (tyL G.2.1)[t]? = some (G.2.1 t, ty)) (hprim : ∀ C, ty ≠ .object C) (harr : Cond.arrayClass ty ∈ TB) (hE : ∀ r, ∃ x : vp_A, gE G.2.1 r (.inl (t, N, none)) (fun _ => 0) = .inl (G.2.1 t, x) ∧ vp_cell (G.2.1 t) x = arrV (G.2.1 t) N (fun _ => defaultValue ty)) (hby : N * componentBytes ty ≤ 536870912)
    (hn : n = nI N) (hN : N < 1000) (hlv : ∀ a, some (Value.ref a) ∈ lv → a = 400) (hk : aiM.getD j 0 < 38) (hl : Cond.fieldLink "ProofGateModel" index (T_Mo (aiM.getD j 0)).1 (T_Mo (aiM.getD j 0)).2.1 (T_Mo (aiM.getD j 0)).2.2.1 ∈ TB) (hdec : (T_Mo (aiM.getD j 0)).1 = "ProofGateModel") (hfin : (T_Mo (aiM.getD j 0)).2.2.2 = true) (hnr : ∀ x : Nat, narrow (t_Mo (aiM.getD j 0)) (.ref x) = .ref x) (hft : ∀ x : Nat, fits (t_Mo (aiM.getD j 0)) (.ref x) = true)
    (hcells : cells + 1 ≤ R.cells) (hslots : slots + N ≤ R.slots) (d : decode b_Mo_init pc = .ok (.newarray at9, 2)) (d2 : decode b_Mo_init (pc + 2) = .ok (.putfield index, 3))
    (kk : ∀ L9 M9, gMi L L9 M (j + 1) M9 → V l G y_Mo_init b_Mo_init 2 none R mc ms (fun x => x < 401) post L9 M9 (cells + 1) (slots + N) lv (pc + 5) []) : V l G y_Mo_init b_Mo_init 2 none R mc ms (fun x => x < 401) post L' M' cells slots lv pc [.int n, .ref 400] := by
  subst hn
  have hne : (400 : Nat) ≠ 401 + j := by omega
  refine V_newa (pc + 2) (401 + j) t (atype := at9) (ty := ty) (N := N) (f := none) hta htl hprim harr hE (fun b h => h) (nI_pos (by omega)) (nI_clamp (by omega)) hby ((hi.2.1 _ (by omega) (by omega)).trans hLn) (by omega) (fun h => absurd h (by omega)) ⟨fun x hx => by rw [hlv x hx]; exact hne, fun x hx => ?_⟩ hcells hslots d rfl ?_
  · simp at hx; exact fun h10 => (by have h9 : @Eq Nat x 400 := hx; have h11 : @Eq Nat x (401 + j) := h10; omega)
  have h400 : va_up L' (401 + j) (some (.inl (t, N, none))) 400 = some (.inr (10, fsJ j)) := (va_up_ne _ _ hne).trans hi.1
  refine V_putrF (pc + 2 + 3) (aiM.getD j 0) h400 kc_Mo hk hl rfl hdec hfin (fun r => hnr _) (fun r => hft _) (by rw [fsJ_len]; exact hk) (fun c hc => Or.inr (by cases hc; rw [va_up_self]; exact fun h => by cases h)) d2 rfl ?_
  exact kk _ _ (hi.step hsz)
end gMoMake2
set_option maxRecDepth 100000 in
set_option maxHeartbeats 4000000 in
theorem c_Mo_init2 (l : Launch) (G : gG) (L : gLy) (M : gMe) (h4 : L 400 = some (.inr (10, fsE0))) (hno : ∀ q, 401 ≤ q → q < 427 → L q = none) (s : Int32) : gMet l G y_Mo_init b_Mo_init 2 none (rmL 2 26 7347) [.ref 400, .int s] L M (fun x => x < 401) (moP L M s) 26 7347 := by
  refine gMet_of (lv := [some (.ref 400), some (.int s)]) (by decide) rfl (Nat.le_of_ble_eq_true rfl) rfl ?_
  refine V_al0 1 d_Mo_init_0 rfl ?_
  refine V_objInit 4 mo_Mo_1 oi_im oi_co (Nat.le_of_ble_eq_true rfl) (Nat.le_of_ble_eq_true rfl) d_Mo_init_1 rfl ?_
  have hi0 : gMi L L M 0 M := ⟨h4, fun _ _ _ => rfl, fun q a b => absurd b (by omega), fun _ _ => rfl, fun q a b => absurd b (by omega)⟩
  have hlv : ∀ a, some (Value.ref a) ∈ [some (Value.ref 400), some (Value.int s)] → a = 400 := fun a ha => by simpa using ha
  refine V_al0 5 d_Mo_init_4 rfl ?_
  refine V_bipush 7 (v := 6) (by decide) d_Mo_init_5 rfl ?_
  refine V_moA2 0 6 (at9 := .boolean) (t := 1) (ty := .boolean) hi0 (by decide) (hno 401 (by decide) (by decide)) rfl rfl rfl (fun C h => by cases h) ac_boolean (fun r => ⟨_, rfl, rfl⟩) (by decide) (by decide) (by decide) hlv (by decide) ff_Mo_7 rfl rfl (fun x => rfl) (fun x => rfl) (Nat.le_of_ble_eq_true rfl) (Nat.le_of_ble_eq_true rfl) d_Mo_init_7 d_Mo_init_9 (fun L1 M1 hi1 => ?_)
  refine V_al0 13 d_Mo_init_12 rfl ?_
  refine V_bipush 15 (v := 6) (by decide) d_Mo_init_13 rfl ?_
  refine V_moA2 1 6 (at9 := .int) (t := 0) (ty := .int) hi1 (by decide) (hno 402 (by decide) (by decide)) rfl rfl rfl (fun C h => by cases h) ac_int (fun r => ⟨_, rfl, rfl⟩) (by decide) (by decide) (by decide) hlv (by decide) ff_Mo_13 rfl rfl (fun x => rfl) (fun x => rfl) (Nat.le_of_ble_eq_true rfl) (Nat.le_of_ble_eq_true rfl) d_Mo_init_15 d_Mo_init_17 (fun L2 M2 hi2 => ?_)
  refine V_al0 21 d_Mo_init_20 rfl ?_
  refine V_bipush 23 (v := 6) (by decide) d_Mo_init_21 rfl ?_
  refine V_moA2 2 6 (at9 := .int) (t := 0) (ty := .int) hi2 (by decide) (hno 403 (by decide) (by decide)) rfl rfl rfl (fun C h => by cases h) ac_int (fun r => ⟨_, rfl, rfl⟩) (by decide) (by decide) (by decide) hlv (by decide) ff_Mo_17 rfl rfl (fun x => rfl) (fun x => rfl) (Nat.le_of_ble_eq_true rfl) (Nat.le_of_ble_eq_true rfl) d_Mo_init_23 d_Mo_init_25 (fun L3 M3 hi3 => ?_)
  refine V_al0 29 d_Mo_init_28 rfl ?_
  refine V_bipush 31 (v := 25) (by decide) d_Mo_init_29 rfl ?_
  refine V_moA2 3 25 (at9 := .int) (t := 0) (ty := .int) hi3 (by decide) (hno 404 (by decide) (by decide)) rfl rfl rfl (fun C h => by cases h) ac_int (fun r => ⟨_, rfl, rfl⟩) (by decide) (by decide) (by decide) hlv (by decide) ff_Mo_20 rfl rfl (fun x => rfl) (fun x => rfl) (Nat.le_of_ble_eq_true rfl) (Nat.le_of_ble_eq_true rfl) d_Mo_init_31 d_Mo_init_33 (fun L4 M4 hi4 => ?_)
  refine V_al0 37 d_Mo_init_36 rfl ?_
  refine V_bipush 39 (v := 25) (by decide) d_Mo_init_37 rfl ?_
  refine V_moA2 4 25 (at9 := .int) (t := 0) (ty := .int) hi4 (by decide) (hno 405 (by decide) (by decide)) rfl rfl rfl (fun C h => by cases h) ac_int (fun r => ⟨_, rfl, rfl⟩) (by decide) (by decide) (by decide) hlv (by decide) ff_Mo_23 rfl rfl (fun x => rfl) (fun x => rfl) (Nat.le_of_ble_eq_true rfl) (Nat.le_of_ble_eq_true rfl) d_Mo_init_39 d_Mo_init_41 (fun L5 M5 hi5 => ?_)
  refine V_al0 45 d_Mo_init_44 rfl ?_
  refine V_bipush 47 (v := 25) (by decide) d_Mo_init_45 rfl ?_
  refine V_moA2 5 25 (at9 := .int) (t := 0) (ty := .int) hi5 (by decide) (hno 406 (by decide) (by decide)) rfl rfl rfl (fun C h => by cases h) ac_int (fun r => ⟨_, rfl, rfl⟩) (by decide) (by decide) (by decide) hlv (by decide) ff_Mo_26 rfl rfl (fun x => rfl) (fun x => rfl) (Nat.le_of_ble_eq_true rfl) (Nat.le_of_ble_eq_true rfl) d_Mo_init_47 d_Mo_init_49 (fun L6 M6 hi6 => ?_)
  refine V_al0 53 d_Mo_init_52 rfl ?_
  refine V_bipush 55 (v := 25) (by decide) d_Mo_init_53 rfl ?_
  refine V_moA2 6 25 (at9 := .int) (t := 0) (ty := .int) hi6 (by decide) (hno 407 (by decide) (by decide)) rfl rfl rfl (fun C h => by cases h) ac_int (fun r => ⟨_, rfl, rfl⟩) (by decide) (by decide) (by decide) hlv (by decide) ff_Mo_29 rfl rfl (fun x => rfl) (fun x => rfl) (Nat.le_of_ble_eq_true rfl) (Nat.le_of_ble_eq_true rfl) d_Mo_init_55 d_Mo_init_57 (fun L7 M7 hi7 => ?_)
  refine V_al0 61 d_Mo_init_60 rfl ?_
  refine V_bipush 63 (v := 25) (by decide) d_Mo_init_61 rfl ?_
  refine V_moA2 7 25 (at9 := .int) (t := 0) (ty := .int) hi7 (by decide) (hno 408 (by decide) (by decide)) rfl rfl rfl (fun C h => by cases h) ac_int (fun r => ⟨_, rfl, rfl⟩) (by decide) (by decide) (by decide) hlv (by decide) ff_Mo_32 rfl rfl (fun x => rfl) (fun x => rfl) (Nat.le_of_ble_eq_true rfl) (Nat.le_of_ble_eq_true rfl) d_Mo_init_63 d_Mo_init_65 (fun L8 M8 hi8 => ?_)
  refine V_al0 69 d_Mo_init_68 rfl ?_
  refine V_bipush 71 (v := 25) (by decide) d_Mo_init_69 rfl ?_
  refine V_moA2 8 25 (at9 := .int) (t := 0) (ty := .int) hi8 (by decide) (hno 409 (by decide) (by decide)) rfl rfl rfl (fun C h => by cases h) ac_int (fun r => ⟨_, rfl, rfl⟩) (by decide) (by decide) (by decide) hlv (by decide) ff_Mo_35 rfl rfl (fun x => rfl) (fun x => rfl) (Nat.le_of_ble_eq_true rfl) (Nat.le_of_ble_eq_true rfl) d_Mo_init_71 d_Mo_init_73 (fun L9 M9 hi9 => ?_)
  refine V_al0 77 d_Mo_init_76 rfl ?_
  refine V_bipush 79 (v := 25) (by decide) d_Mo_init_77 rfl ?_
  refine V_moA2 9 25 (at9 := .int) (t := 0) (ty := .int) hi9 (by decide) (hno 410 (by decide) (by decide)) rfl rfl rfl (fun C h => by cases h) ac_int (fun r => ⟨_, rfl, rfl⟩) (by decide) (by decide) (by decide) hlv (by decide) ff_Mo_38 rfl rfl (fun x => rfl) (fun x => rfl) (Nat.le_of_ble_eq_true rfl) (Nat.le_of_ble_eq_true rfl) d_Mo_init_79 d_Mo_init_81 (fun L10 M10 hi10 => ?_)
  refine V_al0 85 d_Mo_init_84 rfl ?_
  refine V_bipush 87 (v := 25) (by decide) d_Mo_init_85 rfl ?_
  refine V_moA2 10 25 (at9 := .int) (t := 0) (ty := .int) hi10 (by decide) (hno 411 (by decide) (by decide)) rfl rfl rfl (fun C h => by cases h) ac_int (fun r => ⟨_, rfl, rfl⟩) (by decide) (by decide) (by decide) hlv (by decide) ff_Mo_41 rfl rfl (fun x => rfl) (fun x => rfl) (Nat.le_of_ble_eq_true rfl) (Nat.le_of_ble_eq_true rfl) d_Mo_init_87 d_Mo_init_89 (fun L11 M11 hi11 => ?_)
  refine V_al0 93 d_Mo_init_92 rfl ?_
  refine V_bipush 95 (v := 25) (by decide) d_Mo_init_93 rfl ?_
  refine V_moA2 11 25 (at9 := .boolean) (t := 1) (ty := .boolean) hi11 (by decide) (hno 412 (by decide) (by decide)) rfl rfl rfl (fun C h => by cases h) ac_boolean (fun r => ⟨_, rfl, rfl⟩) (by decide) (by decide) (by decide) hlv (by decide) ff_Mo_44 rfl rfl (fun x => rfl) (fun x => rfl) (Nat.le_of_ble_eq_true rfl) (Nat.le_of_ble_eq_true rfl) d_Mo_init_95 d_Mo_init_97 (fun L12 M12 hi12 => ?_)
  refine V_al0 101 d_Mo_init_100 rfl ?_
  refine V_iconst 102 (v := 4) (by decide) d_Mo_init_101 rfl ?_
  refine V_moA2 12 4 (at9 := .int) (t := 0) (ty := .int) hi12 (by decide) (hno 413 (by decide) (by decide)) rfl rfl rfl (fun C h => by cases h) ac_int (fun r => ⟨_, rfl, rfl⟩) (by decide) (by decide) (by decide) hlv (by decide) ff_Mo_47 rfl rfl (fun x => rfl) (fun x => rfl) (Nat.le_of_ble_eq_true rfl) (Nat.le_of_ble_eq_true rfl) d_Mo_init_102 d_Mo_init_104 (fun L13 M13 hi13 => ?_)
  refine V_al0 108 d_Mo_init_107 rfl ?_
  refine V_bipush 110 (v := 40) (by decide) d_Mo_init_108 rfl ?_
  refine V_moA2 13 40 (at9 := .int) (t := 0) (ty := .int) hi13 (by decide) (hno 414 (by decide) (by decide)) rfl rfl rfl (fun C h => by cases h) ac_int (fun r => ⟨_, rfl, rfl⟩) (by decide) (by decide) (by decide) hlv (by decide) ff_Mo_50 rfl rfl (fun x => rfl) (fun x => rfl) (Nat.le_of_ble_eq_true rfl) (Nat.le_of_ble_eq_true rfl) d_Mo_init_110 d_Mo_init_112 (fun L14 M14 hi14 => ?_)
  refine V_al0 116 d_Mo_init_115 rfl ?_
  refine V_bipush 118 (v := 40) (by decide) d_Mo_init_116 rfl ?_
  refine V_moA2 14 40 (at9 := .int) (t := 0) (ty := .int) hi14 (by decide) (hno 415 (by decide) (by decide)) rfl rfl rfl (fun C h => by cases h) ac_int (fun r => ⟨_, rfl, rfl⟩) (by decide) (by decide) (by decide) hlv (by decide) ff_Mo_53 rfl rfl (fun x => rfl) (fun x => rfl) (Nat.le_of_ble_eq_true rfl) (Nat.le_of_ble_eq_true rfl) d_Mo_init_118 d_Mo_init_120 (fun L15 M15 hi15 => ?_)
  refine V_al0 124 d_Mo_init_123 rfl ?_
  refine V_bipush 126 (v := 40) (by decide) d_Mo_init_124 rfl ?_
  refine V_moA2 15 40 (at9 := .int) (t := 0) (ty := .int) hi15 (by decide) (hno 416 (by decide) (by decide)) rfl rfl rfl (fun C h => by cases h) ac_int (fun r => ⟨_, rfl, rfl⟩) (by decide) (by decide) (by decide) hlv (by decide) ff_Mo_56 rfl rfl (fun x => rfl) (fun x => rfl) (Nat.le_of_ble_eq_true rfl) (Nat.le_of_ble_eq_true rfl) d_Mo_init_126 d_Mo_init_128 (fun L16 M16 hi16 => ?_)
  refine V_al0 132 d_Mo_init_131 rfl ?_
  refine V_sipush 135 (v := 160) (by decide) d_Mo_init_132 rfl ?_
  refine V_moA2 16 160 (at9 := .int) (t := 0) (ty := .int) hi16 (by decide) (hno 417 (by decide) (by decide)) rfl rfl rfl (fun C h => by cases h) ac_int (fun r => ⟨_, rfl, rfl⟩) (by decide) (by decide) (by decide) hlv (by decide) ff_Mo_59 rfl rfl (fun x => rfl) (fun x => rfl) (Nat.le_of_ble_eq_true rfl) (Nat.le_of_ble_eq_true rfl) d_Mo_init_135 d_Mo_init_137 (fun L17 M17 hi17 => ?_)
  refine V_al0 141 d_Mo_init_140 rfl ?_
  refine V_sipush 144 (v := 760) (by decide) d_Mo_init_141 rfl ?_
  refine V_moA2 17 760 (at9 := .int) (t := 0) (ty := .int) hi17 (by decide) (hno 418 (by decide) (by decide)) rfl rfl rfl (fun C h => by cases h) ac_int (fun r => ⟨_, rfl, rfl⟩) (by decide) (by decide) (by decide) hlv (by decide) ff_Mo_62 rfl rfl (fun x => rfl) (fun x => rfl) (Nat.le_of_ble_eq_true rfl) (Nat.le_of_ble_eq_true rfl) d_Mo_init_144 d_Mo_init_146 (fun L18 M18 hi18 => ?_)
  refine V_al0 150 d_Mo_init_149 rfl ?_
  refine V_sipush 153 (v := 760) (by decide) d_Mo_init_150 rfl ?_
  refine V_moA2 18 760 (at9 := .int) (t := 0) (ty := .int) hi18 (by decide) (hno 419 (by decide) (by decide)) rfl rfl rfl (fun C h => by cases h) ac_int (fun r => ⟨_, rfl, rfl⟩) (by decide) (by decide) (by decide) hlv (by decide) ff_Mo_65 rfl rfl (fun x => rfl) (fun x => rfl) (Nat.le_of_ble_eq_true rfl) (Nat.le_of_ble_eq_true rfl) d_Mo_init_153 d_Mo_init_155 (fun L19 M19 hi19 => ?_)
  refine V_al0 159 d_Mo_init_158 rfl ?_
  refine V_sipush 162 (v := 760) (by decide) d_Mo_init_159 rfl ?_
  refine V_moA2 19 760 (at9 := .int) (t := 0) (ty := .int) hi19 (by decide) (hno 420 (by decide) (by decide)) rfl rfl rfl (fun C h => by cases h) ac_int (fun r => ⟨_, rfl, rfl⟩) (by decide) (by decide) (by decide) hlv (by decide) ff_Mo_68 rfl rfl (fun x => rfl) (fun x => rfl) (Nat.le_of_ble_eq_true rfl) (Nat.le_of_ble_eq_true rfl) d_Mo_init_162 d_Mo_init_164 (fun L20 M20 hi20 => ?_)
  refine V_al0 168 d_Mo_init_167 rfl ?_
  refine V_sipush 171 (v := 756) (by decide) d_Mo_init_168 rfl ?_
  refine V_moA2 20 756 (at9 := .int) (t := 0) (ty := .int) hi20 (by decide) (hno 421 (by decide) (by decide)) rfl rfl rfl (fun C h => by cases h) ac_int (fun r => ⟨_, rfl, rfl⟩) (by decide) (by decide) (by decide) hlv (by decide) ff_Mo_71 rfl rfl (fun x => rfl) (fun x => rfl) (Nat.le_of_ble_eq_true rfl) (Nat.le_of_ble_eq_true rfl) d_Mo_init_171 d_Mo_init_173 (fun L21 M21 hi21 => ?_)
  refine V_al0 177 d_Mo_init_176 rfl ?_
  refine V_sipush 180 (v := 756) (by decide) d_Mo_init_177 rfl ?_
  refine V_moA2 21 756 (at9 := .int) (t := 0) (ty := .int) hi21 (by decide) (hno 422 (by decide) (by decide)) rfl rfl rfl (fun C h => by cases h) ac_int (fun r => ⟨_, rfl, rfl⟩) (by decide) (by decide) (by decide) hlv (by decide) ff_Mo_74 rfl rfl (fun x => rfl) (fun x => rfl) (Nat.le_of_ble_eq_true rfl) (Nat.le_of_ble_eq_true rfl) d_Mo_init_180 d_Mo_init_182 (fun L22 M22 hi22 => ?_)
  refine V_al0 186 d_Mo_init_185 rfl ?_
  refine V_sipush 189 (v := 756) (by decide) d_Mo_init_186 rfl ?_
  refine V_moA2 22 756 (at9 := .int) (t := 0) (ty := .int) hi22 (by decide) (hno 423 (by decide) (by decide)) rfl rfl rfl (fun C h => by cases h) ac_int (fun r => ⟨_, rfl, rfl⟩) (by decide) (by decide) (by decide) hlv (by decide) ff_Mo_77 rfl rfl (fun x => rfl) (fun x => rfl) (Nat.le_of_ble_eq_true rfl) (Nat.le_of_ble_eq_true rfl) d_Mo_init_189 d_Mo_init_191 (fun L23 M23 hi23 => ?_)
  refine V_al0 195 d_Mo_init_194 rfl ?_
  refine V_sipush 198 (v := 756) (by decide) d_Mo_init_195 rfl ?_
  refine V_moA2 23 756 (at9 := .int) (t := 0) (ty := .int) hi23 (by decide) (hno 424 (by decide) (by decide)) rfl rfl rfl (fun C h => by cases h) ac_int (fun r => ⟨_, rfl, rfl⟩) (by decide) (by decide) (by decide) hlv (by decide) ff_Mo_80 rfl rfl (fun x => rfl) (fun x => rfl) (Nat.le_of_ble_eq_true rfl) (Nat.le_of_ble_eq_true rfl) d_Mo_init_198 d_Mo_init_200 (fun L24 M24 hi24 => ?_)
  refine V_al0 204 d_Mo_init_203 rfl ?_
  refine V_sipush 207 (v := 756) (by decide) d_Mo_init_204 rfl ?_
  refine V_moA2 24 756 (at9 := .int) (t := 0) (ty := .int) hi24 (by decide) (hno 425 (by decide) (by decide)) rfl rfl rfl (fun C h => by cases h) ac_int (fun r => ⟨_, rfl, rfl⟩) (by decide) (by decide) (by decide) hlv (by decide) ff_Mo_83 rfl rfl (fun x => rfl) (fun x => rfl) (Nat.le_of_ble_eq_true rfl) (Nat.le_of_ble_eq_true rfl) d_Mo_init_207 d_Mo_init_209 (fun L25 M25 hi25 => ?_)
  refine V_al0 213 d_Mo_init_212 rfl ?_
  refine V_sipush 216 (v := 760) (by decide) d_Mo_init_213 rfl ?_
  refine V_moA2 25 760 (at9 := .int) (t := 0) (ty := .int) hi25 (by decide) (hno 426 (by decide) (by decide)) rfl rfl rfl (fun C h => by cases h) ac_int (fun r => ⟨_, rfl, rfl⟩) (by decide) (by decide) (by decide) hlv (by decide) ff_Mo_86 rfl rfl (fun x => rfl) (fun x => rfl) (Nat.le_of_ble_eq_true rfl) (Nat.le_of_ble_eq_true rfl) d_Mo_init_216 d_Mo_init_218 (fun L26 M26 hi26 => ?_)
  refine V_al0 222 d_Mo_init_221 rfl ?_
  refine V_il1 223 d_Mo_init_222 rfl ?_
  refine V_putiF 226 0 hi26.1 kc_Mo (by decide) ff_Mo_89 rfl rfl rfl rfl rfl (by rw [show fsJ (25 + 1) = fsM from fsJ_26]; rfl) d_Mo_init_223 rfl ?_
  refine V_vret rfl d_Mo_init_226 ⟨rfl, ⟨by rw [hi26.1, fsJ_26], fun q a b => hi26.2.2.1 q a (by omega)⟩, fun q a => ?_, fun q a => ?_, fun q a b => ?_, ?_⟩
  · by_cases e4 : q = 400
    · omega
    · exact hi26.2.1 q e4 (by omega)
  · rw [gst_ne _ _ _ _ (by omega)]; exact hi26.2.2.2.1 q (by omega)
  · rw [gst_ne _ _ _ _ (by omega)]; exact hi26.2.2.2.2 q a (by omega)
  · rw [gst_same, hi26.2.2.2.1 400 (by decide)]

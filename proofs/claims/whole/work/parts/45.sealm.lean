/-! what is made in passing is forgotten -/
def gClo (L : gLy) : Prop := ∀ a k, L a = some k → ∀ b, gRf k b → b < 2 ∨ L b ≠ none
section gForget
variable {l : Launch} {G : gG} {y : MethodName} {cc : ByteArray} {nL : Nat} {ret : Option FieldType} {R : Room} {mc ms : Nat} {Z : Nat → Prop} {post : Option Value → gLy → gMe → Prop} {L L2 : gLy} {M M2 : gMe} {cells slots : Nat} {lv : List (Option Value)} {pc : Nat} {st : List Value}
theorem V_clo (kk : gClo L → V l G y cc nL ret R mc ms Z post L M cells slots lv pc st) : V l G y cc nL ret R mc ms Z post L M cells slots lv pc st := by
  intro p e s m args below meth c r0 r H locs ls hC hZ hW hR hlo hls
  exact kk hR.2.2.1 p e s m args below meth c r0 r H locs ls hC hZ hW hR hlo hls
theorem V_rest (hsub : ∀ a k, L2 a = some k → L a = some k) (hcl : gClo L2) (hM : ∀ a, L2 a ≠ none → M2 a = M a) (kk : V l G y cc nL ret R mc ms Z post L2 M2 cells slots lv pc st) : V l G y cc nL ret R mc ms Z post L M cells slots lv pc st := by
  intro p e s m args below meth c r0 r H locs ls hC hZ hW hR hlo hls
  obtain ⟨h1, h2, h3, h4, h5, h6⟩ := hR
  have hne : ∀ a, L2 a ≠ none → L a ≠ none := fun a ha => by
    cases h : L2 a with
    | none => exact absurd h ha
    | some k => rw [hsub a k h]; exact fun h => by cases h
  refine kk p e s m args below meth c r0 r H locs ls hC hZ hW ⟨fun a k ha => ?_, fun a b ha hb => h2 a b (hne a ha) (hne b hb), hcl, h4, h5, h6⟩ hlo hls
  rw [hM a (by rw [ha]; exact fun h => by cases h)]
  exact h1 a k (hsub a k ha)
end gForget
set_option maxRecDepth 100000 in
set_option maxHeartbeats 4000000 in
theorem c_Ga_sealOf' (l : Launch) (G : gG) (L : gLy) (M : gMe) {fs : List (Option Value)} (hL2 : L 2 = some (.inr (9, none :: fs))) (a n : Nat) (hR : gLR L a n) : gMet l G y_Ga_sealOf b_Ga_sealOf 3 (some FieldType.int) (rmL 3 0 0) [.ref 2, .ref a] L M gAll (gPo (some (.int (soI M a n))) L M) 0 0 := by
  refine gMet_of (lv := [some (.ref 2), some (.ref a), none]) (by decide) rfl (Nat.le_of_ble_eq_true rfl) rfl ?_
  refine V_al0 1 d_Ga_sealOf_0 rfl ?_
  refine V_geti 4 0 hL2 kc_Ga (by decide) fl_Ga_65 (Or.inl rfl) rfl d_Ga_sealOf_1 rfl ?_
  refine V_bipush 6 (v := 97) (by decide) d_Ga_sealOf_4 rfl ?_
  refine V_al1 7 d_Ga_sealOf_6 rfl ?_
  refine V_geti 10 0 hR.1 kc_Cr (by decide) fl_Ga_122 (Or.inl rfl) rfl d_Ga_sealOf_7 rfl ?_
  refine V_imul 11 d_Ga_sealOf_10 rfl ?_
  refine V_iadd 12 d_Ga_sealOf_11 rfl ?_
  refine V_is2 13 d_Ga_sealOf_12 (by decide) rfl ?_
  refine V_al1 14 d_Ga_sealOf_13 rfl ?_
  refine V_cV1 17 (c_Cr_mark l G _ _ a n hR) ok_Cr_mark ml_Ga_216 im_Cr_mark se_Cr_mark hR.1 kc_Cr (gRm_ok (by decide) (by decide)) rfl rfl (Nat.le_of_ble_eq_true rfl) d_Ga_sealOf_14 ⟨Nat.le_of_ble_eq_true rfl, Nat.le_of_ble_eq_true rfl⟩ rfl ?_
  refine V_il2 18 d_Ga_sealOf_17 rfl ?_
  refine V_ixor 19 d_Ga_sealOf_18 rfl ?_
  refine V_ldc 21 ct_Ga_219 d_Ga_sealOf_19 rfl ?_
  refine V_imul 22 d_Ga_sealOf_21 rfl ?_
  exact V_iret rfl d_Ga_sealOf_22 ⟨rfl, rfl, rfl⟩
theorem crFs : ∀ j, j < 6 → ∀ r, defaultValue (t_Cr j) = vp_V (gF r (fun _ => 0) crF0) j := by
  intro j hj r
  rcases (show j = 0 ∨ j = 1 ∨ j = 2 ∨ j = 3 ∨ j = 4 ∨ j = 5 by omega) with h | h | h | h | h | h <;> subst h <;> rfl
theorem crM_at {M : gMe} {a n b : Nat} {i k f t : Int32} (hna : n ≠ a) : crM M a n b i k f t a 0 = i ∧ crM M a n b i k f t a 1 = k ∧ crM M a n b i k f t a 3 = f ∧ crM M a n b i k f t a 4 = t ∧ crM M a n b i k f t n 0 = M b 0 ∧ crM M a n b i k f t n 1 = slB k (M b 1) ∧ crM M a n b i k f t n 2 = slC k (M b 2) ∧ crM M a n b i k f t n 3 = slD k (M b 3) := by
  have h := Ne.symm hna
  refine ⟨?_, ?_, ?_, ?_, ?_, ?_, ?_, ?_⟩ <;> simp [crM, cr2, gst_at, h, hna]
theorem crM_ne {M : gMe} {a n b q : Nat} {i k f t : Int32} (h1 : q ≠ n) (h2 : q ≠ a) : crM M a n b i k f t q = M q := by
  unfold crM cr2
  rw [gst_ne _ _ _ _ h1, gst_ne _ _ _ _ h1, gst_ne _ _ _ _ h1, gst_ne _ _ _ _ h1, gst_ne _ _ _ _ h2, gst_ne _ _ _ _ h2, gst_ne _ _ _ _ h2, gst_ne _ _ _ _ h2, va_up_ne _ _ h1]
set_option maxRecDepth 100000 in
set_option maxHeartbeats 4000000 in
theorem c_Ga_seal (l : Launch) (G : gG) (L : gLy) (M : gMe) (hL : gLC L) (hs : gSt G) (h0 : L 300 = none) (h1 : L 301 = none) (h2 : L 302 = none) (i k a b c d f t : Int32) : gMet l G y_Ga_seal b_Ga_seal 10 (some FieldType.int) (rmL 4 3 14) [.ref 2, .int i, .int k, .int a, .int b, .int c, .int d, .int f, .int t] L M (fun x => x < 300) (gPo (some (.int (slR (M 2 0) i k a b c d f t))) L M) 3 14 := by
  refine gMet_of (lv := [some (.ref 2), some (.int i), some (.int k), some (.int a), some (.int b), some (.int c), some (.int d), some (.int f), some (.int t), none]) (by decide) rfl (Nat.le_of_ble_eq_true rfl) rfl ?_
  refine V_clo (fun hclo => ?_)
  refine V_iconst 1 (v := 4) (by decide) d_Ga_seal_0 rfl ?_
  refine V_newi 3 300 4 rfl (by decide) h0 (by decide) (by decide) ⟨fun x hx => ?_, fun x hx => ?_⟩ (Nat.le_of_ble_eq_true rfl) (Nat.le_of_ble_eq_true rfl) d_Ga_seal_1 rfl ?_
  · simp at hx; subst hx; decide
  · simp at hx
  obtain ⟨L1, eL1⟩ : ∃ L1, L1 = va_up L 300 (some (.inl (0, 4, none))) := ⟨_, rfl⟩
  have hg : L1 300 = some (.inl (0, 4, none)) := by rw [eL1]; exact va_up_self _ _ _
  rw [← eL1]
  refine V_dup 4 rfl d_Ga_seal_3 rfl ?_
  refine V_iconst 5 (v := 0) (by decide) d_Ga_seal_4 rfl ?_
  refine V_il3 6 d_Ga_seal_5 rfl ?_
  refine V_iasn 7 0 hg (by decide) (by decide) (by decide) d_Ga_seal_6 rfl ?_
  refine V_dup 8 rfl d_Ga_seal_7 rfl ?_
  refine V_iconst 9 (v := 1) (by decide) d_Ga_seal_8 rfl ?_
  refine V_il4 11 d_Ga_seal_9 rfl ?_
  refine V_iasn 12 1 hg (by decide) (by decide) (by decide) d_Ga_seal_11 rfl ?_
  refine V_dup 13 rfl d_Ga_seal_12 rfl ?_
  refine V_iconst 14 (v := 2) (by decide) d_Ga_seal_13 rfl ?_
  refine V_il5 16 d_Ga_seal_14 rfl ?_
  refine V_iasn 17 2 hg (by decide) (by decide) (by decide) d_Ga_seal_16 rfl ?_
  refine V_dup 18 rfl d_Ga_seal_17 rfl ?_
  refine V_iconst 19 (v := 3) (by decide) d_Ga_seal_18 rfl ?_
  refine V_il6 21 d_Ga_seal_19 rfl ?_
  refine V_iasn 22 3 hg (by decide) (by decide) (by decide) d_Ga_seal_21 rfl ?_
  obtain ⟨M1, eM1⟩ : ∃ M1, M1 = gst (gst (gst (gst (va_up M 300 (fun _ => 0)) 300 0 a) 300 1 b) 300 2 c) 300 3 d := ⟨_, rfl⟩
  rw [← eM1]
  refine V_as9 24 d_Ga_seal_22 (by decide) rfl ?_
  refine V_al0 25 d_Ga_seal_24 rfl ?_
  refine V_new 28 301 kc_Cr cl_Ga_7 in_Cr ii_Cr crFs (by rw [eL1, va_up_ne _ _ (by decide)]; exact h1) (by decide) (by decide) ⟨fun x hx => ?_, fun x hx => ?_⟩ (fun b hb => by simp [crF0] at hb) (Nat.le_of_ble_eq_true rfl) (Nat.le_of_ble_eq_true rfl) d_Ga_seal_25 rfl ?_
  · simp at hx; rcases hx with rfl | rfl <;> decide
  · simp at hx; subst hx; decide
  obtain ⟨L3, eL3⟩ : ∃ L3, L3 = va_up L1 301 (some (.inr (3, crF0))) := ⟨_, rfl⟩
  rw [← eL3]
  have hla : L3 301 = some (.inr (3, crF0)) := by rw [eL3]; exact va_up_self _ _ _
  have hlb : L3 300 = some (.inl (0, 4, none)) := by rw [eL3, va_up_ne _ _ (by decide)]; exact hg
  have hln : L3 302 = none := by rw [eL3, va_up_ne _ _ (by decide), eL1, va_up_ne _ _ (by decide)]; exact h2
  refine V_dup 29 rfl d_Ga_seal_28 rfl ?_
  refine V_il1 30 d_Ga_seal_29 rfl ?_
  refine V_il2 31 d_Ga_seal_30 rfl ?_
  refine V_al9 33 d_Ga_seal_31 rfl ?_
  refine V_il7 35 d_Ga_seal_33 rfl ?_
  refine V_il8 37 d_Ga_seal_35 rfl ?_
  refine V_callI 40 (as := [.int i, .int k, .ref 300, .int f, .int t]) (c_Cr_init l G _ _ hs 301 302 300 hla hln hlb (by decide) i k f t) ok_Cr_init ml_Ga_75 im_Cr_init rfl (gRm_ok (by decide) (by decide)) rfl rfl (Nat.le_of_ble_eq_true rfl) d_Ga_seal_37 ⟨Nat.le_of_ble_eq_true rfl, Nat.le_of_ble_eq_true rfl⟩ (fun x hx => Nat.ne_of_lt (Nat.lt_trans hx (by decide))) ⟨fun x hx => ?_, fun x hx => ?_⟩ rfl ?_
  · simp at hx; rcases hx with rfl | rfl <;> decide
  · simp at hx; rcases hx with rfl | rfl <;> decide
  intro v L9 M9 hpo
  obtain ⟨rfl, rfl, rfl⟩ := hpo
  have hR : gLR (crL L3 301 302) 301 302 := ⟨va_up_self _ _ _, (va_up_ne _ _ (by decide)).trans (va_up_self _ _ _)⟩
  have hk2 : ∀ q, q < 300 → crL L3 301 302 q = L q := fun q hq => by
    unfold crL
    rw [va_up_ne _ _ (by omega), va_up_ne _ _ (by omega), eL3, va_up_ne _ _ (by omega), eL1, va_up_ne _ _ (by omega)]
  have hq2 : crL L3 301 302 2 = _ := (hk2 2 (by decide)).trans (lC2 hL)
  have hm : ∀ q, q < 300 → crM (va_up M1 301 (fun _ => 0)) 301 302 300 i k f t q = M q := fun q hq => by
    rw [crM_ne (by omega) (by omega), va_up_ne _ _ (by omega), eM1, gst_ne _ _ _ _ (by omega), gst_ne _ _ _ _ (by omega), gst_ne _ _ _ _ (by omega), gst_ne _ _ _ _ (by omega), va_up_ne _ _ (by omega)]
  obtain ⟨g1, g2, g3, g4, g5, g6, g7, g8⟩ := crM_at (M := va_up M1 301 (fun _ => 0)) (a := 301) (n := 302) (b := 300) (i := i) (k := k) (f := f) (t := t) (by decide)
  have hv : soI (crM (va_up M1 301 (fun _ => 0)) 301 302 300 i k f t) 301 302 = slR (M 2 0) i k a b c d f t := by
    unfold soI mkI slR
    rw [g1, g2, g3, g4, g5, g6, g7, g8, hm 2 (by decide)]
    have e : ∀ j, va_up M1 301 (fun _ => 0) 300 j = M1 300 j := fun j => by rw [va_up_ne _ _ (by decide)]
    rw [e, e, e, e, eM1]
    simp [gst_at]
  refine V_cV1 43 (c_Ga_sealOf' l G _ _ hq2 301 302 hR) ok_Ga_sealOf ml_Ga_78 im_Ga_sealOf se_Ga_sealOf hq2 kc_Ga (gRm_ok (by decide) (by decide)) rfl rfl (Nat.le_of_ble_eq_true rfl) d_Ga_seal_40 ⟨Nat.le_of_ble_eq_true rfl, Nat.le_of_ble_eq_true rfl⟩ rfl ?_
  refine V_topi hv ?_
  refine V_rest (L2 := L) (M2 := M) (fun q kd hq => ?_) hclo (fun q hq => ?_) ?_
  · have hlt : q ≠ 300 ∧ q ≠ 301 ∧ q ≠ 302 := ⟨fun h => (by rw [h, h0] at hq; cases hq), fun h => (by rw [h, h1] at hq; cases hq), fun h => (by rw [h, h2] at hq; cases hq)⟩
    unfold crL
    rw [va_up_ne _ _ hlt.2.1, va_up_ne _ _ hlt.2.2, eL3, va_up_ne _ _ hlt.2.1, eL1, va_up_ne _ _ hlt.1]
    exact hq
  · have hlt : q ≠ 300 ∧ q ≠ 301 ∧ q ≠ 302 := ⟨fun h => hq (by rw [h]; exact h0), fun h => hq (by rw [h]; exact h1), fun h => hq (by rw [h]; exact h2)⟩
    rw [crM_ne hlt.2.2 hlt.2.1, va_up_ne _ _ hlt.2.1, eM1, gst_ne _ _ _ _ hlt.1, gst_ne _ _ _ _ hlt.1, gst_ne _ _ _ _ hlt.1, gst_ne _ _ _ _ hlt.1, va_up_ne _ _ hlt.1]
  exact V_iret rfl d_Ga_seal_43 ⟨rfl, rfl, rfl⟩

/-! the class: a credential is made -/
abbrev crF0 : List (Option Value) := [none, none, some .null, none, none, none]
def crL (L : gLy) (a n : Nat) : gLy := va_up (va_up L n (some (.inl (0, 4, none)))) a (some (.inr (3, [none, none, some (.ref n), none, none, none])))
def cr2 (M : gMe) (a n : Nat) (i k f t : Int32) : gMe := gst (gst (gst (gst (va_up M n (fun _ => 0)) a 0 i) a 1 k) a 3 f) a 4 t
def crM (M : gMe) (a n b : Nat) (i k f t : Int32) : gMe := gst (gst (gst (gst (cr2 M a n i k f t) n 0 (M b 0)) n 1 (slB k (M b 1))) n 2 (slC k (M b 2))) n 3 (slD k (M b 3))
set_option maxRecDepth 100000 in
set_option maxHeartbeats 4000000 in
theorem c_Cr_init (l : Launch) (G : gG) (L : gLy) (M : gMe) (hs : gSt G) (a n b : Nat) (hLa : L a = some (.inr (3, crF0))) (hLn : L n = none) (hLb : L b = some (.inl (0, 4, none))) (h2 : 2 ≤ n) (i k f t : Int32) : gMet l G y_Cr_init b_Cr_init 7 none (rmL 2 1 4) [.ref a, .int i, .int k, .ref b, .int f, .int t] L M (fun x => x ≠ n) (gPo none (crL L a n) (crM M a n b i k f t)) 1 4 := by
  have hna : n ≠ a := fun h => by rw [h, hLa] at hLn; cases hLn
  have hbn : b ≠ n := fun h => by rw [h, hLn] at hLb; cases hLb
  have hba : b ≠ a := fun h => by rw [h, hLa] at hLb; cases hLb
  have hR : gLR (crL L a n) a n := ⟨va_up_self _ _ _, (va_up_ne _ _ hna).trans (va_up_self _ _ _)⟩
  have hb2 : crL L a n b = some (.inl (0, 4, none)) := by unfold crL; rw [va_up_ne _ _ hba, va_up_ne _ _ hbn]; exact hLb
  have hrd : ∀ (X : gMe), (∀ q, q ≠ n → q ≠ a → X q = M q) → ∀ j, X b j = M b j := fun X hX j => by rw [hX b hbn hba]
  have k0 : ∀ q, q ≠ n → q ≠ a → cr2 M a n i k f t q = M q := fun q h1 h3 => by
    unfold cr2
    rw [gst_ne _ _ _ _ h3, gst_ne _ _ _ _ h3, gst_ne _ _ _ _ h3, gst_ne _ _ _ _ h3, va_up_ne _ _ h1]
  have kk : ∀ (X : gMe) (j : Nat) (v : Int32), (∀ q, q ≠ n → q ≠ a → X q = M q) → ∀ q, q ≠ n → q ≠ a → gst X n j v q = M q := fun X j v hX q h1 h3 => by rw [gst_ne _ _ _ _ h1]; exact hX q h1 h3
  have q36 : V l G y_Cr_init b_Cr_init 7 none (rmL 2 1 4) 1 4 (fun x => x ≠ n) (gPo none (crL L a n) (crM M a n b i k f t)) (crL L a n) (cr2 M a n i k f t) (0 + 1) (0 + 4) [some (.ref a), some (.int i), some (.int k), some (.ref b), some (.int f), some (.int t), some (.int 0)] 36 [] := by
    by_cases hk : pKind k
    · obtain ⟨kn, h4, ek, -⟩ := pKind_n hk
      rcases (show kn = 0 ∨ kn = 1 ∨ kn = 2 ∨ kn = 3 by omega) with h | h | h | h <;> subst h <;> subst ek
      · refine V_il6 38 d_Cr_init_36 rfl ?_
        refine V_iconst 39 (v := 4) (by decide) d_Cr_init_38 rfl ?_
        refine V_icmp_ge 79 42 d_Cr_init_39 (by decide) rfl (fun h9 => absurd h9 (by decide)) (fun _ => ?_)
        refine V_al0 43 d_Cr_init_42 rfl ?_
        refine V_getr 46 2 hR.1 kc_Cr (by decide) fl_Cr_11 (Or.inl rfl) rfl d_Cr_init_43 rfl ?_
        refine V_il6 48 d_Cr_init_46 rfl ?_
        refine V_il2 49 d_Cr_init_48 rfl ?_
        refine V_cS1 52 (c_Cr_isKind l G _ _ _) ok_Cr_isKind ml_Cr_28 st_Cr_isKind (gRm_ok (by decide) (by decide)) rfl rfl (Nat.le_of_ble_eq_true rfl) d_Cr_init_49 ⟨Nat.le_of_ble_eq_true rfl, Nat.le_of_ble_eq_true rfl⟩ rfl ?_
        refine V_bz 64 55 d_Cr_init_52 (by decide) rfl (fun h9 => absurd h9 (not_not_intro hk)) (fun _ => ?_)
        refine V_il2 56 d_Cr_init_55 rfl ?_
        refine V_il6 58 d_Cr_init_56 rfl ?_
        refine V_topi (z := nI 0) (by decide) ?_
        refine V_cS1 61 (c_Cr_limit l G _ _ hs 0 0 (by decide) (by decide)) ok_Cr_limit ml_Cr_32 st_Cr_limit (gRm_ok (by decide) (by decide)) rfl rfl (Nat.le_of_ble_eq_true rfl) d_Cr_init_58 ⟨Nat.le_of_ble_eq_true rfl, Nat.le_of_ble_eq_true rfl⟩ rfl ?_
        refine V_if_le 71 64 d_Cr_init_61 (by decide) rfl (fun h9 => absurd h9 (by decide)) (fun _ => ?_)
        refine V_al3 65 d_Cr_init_64 rfl ?_
        refine V_il6 67 d_Cr_init_65 rfl ?_
        refine V_ialn 68 (0) hb2 (by decide) (by decide) (by decide) d_Cr_init_67 rfl ?_
        refine V_goto 72 d_Cr_init_68 (by decide) ?_
        refine V_topi (z := (M b 0)) ((hrd _ k0 0).trans rfl) ?_
        refine V_iasn 73 (0) hR.2 (by decide) (by decide) (by decide) d_Cr_init_72 rfl ?_
        refine V_ii6 76 (v := 1) d_Cr_init_73 (by decide) (by decide) rfl ?_
        refine V_goto 36 d_Cr_init_76 (by decide) ?_
        refine V_il6 38 d_Cr_init_36 rfl ?_
        refine V_iconst 39 (v := 4) (by decide) d_Cr_init_38 rfl ?_
        refine V_icmp_ge 79 42 d_Cr_init_39 (by decide) rfl (fun h9 => absurd h9 (by decide)) (fun _ => ?_)
        refine V_al0 43 d_Cr_init_42 rfl ?_
        refine V_getr 46 2 hR.1 kc_Cr (by decide) fl_Cr_11 (Or.inl rfl) rfl d_Cr_init_43 rfl ?_
        refine V_il6 48 d_Cr_init_46 rfl ?_
        refine V_il2 49 d_Cr_init_48 rfl ?_
        refine V_cS1 52 (c_Cr_isKind l G _ _ _) ok_Cr_isKind ml_Cr_28 st_Cr_isKind (gRm_ok (by decide) (by decide)) rfl rfl (Nat.le_of_ble_eq_true rfl) d_Cr_init_49 ⟨Nat.le_of_ble_eq_true rfl, Nat.le_of_ble_eq_true rfl⟩ rfl ?_
        refine V_bz 64 55 d_Cr_init_52 (by decide) rfl (fun h9 => absurd h9 (not_not_intro hk)) (fun _ => ?_)
        refine V_il2 56 d_Cr_init_55 rfl ?_
        refine V_il6 58 d_Cr_init_56 rfl ?_
        refine V_topi (z := nI 1) (by decide) ?_
        refine V_cS1 61 (c_Cr_limit l G _ _ hs 0 1 (by decide) (by decide)) ok_Cr_limit ml_Cr_32 st_Cr_limit (gRm_ok (by decide) (by decide)) rfl rfl (Nat.le_of_ble_eq_true rfl) d_Cr_init_58 ⟨Nat.le_of_ble_eq_true rfl, Nat.le_of_ble_eq_true rfl⟩ rfl ?_
        refine V_if_le 71 64 d_Cr_init_61 (by decide) rfl (fun h9 => absurd h9 (by decide)) (fun _ => ?_)
        refine V_al3 65 d_Cr_init_64 rfl ?_
        refine V_il6 67 d_Cr_init_65 rfl ?_
        refine V_ialn 68 (1) hb2 (by decide) (by decide) (by decide) d_Cr_init_67 rfl ?_
        refine V_goto 72 d_Cr_init_68 (by decide) ?_
        refine V_topi (z := (slB (nI 0) (M b 1))) ((hrd _ (kk _ 0 _ k0) 1).trans (by rw [slB, if_neg (by decide)])) ?_
        refine V_iasn 73 (1) hR.2 (by decide) (by decide) (by decide) d_Cr_init_72 rfl ?_
        refine V_ii6 76 (v := 1) d_Cr_init_73 (by decide) (by decide) rfl ?_
        refine V_goto 36 d_Cr_init_76 (by decide) ?_
        refine V_il6 38 d_Cr_init_36 rfl ?_
        refine V_iconst 39 (v := 4) (by decide) d_Cr_init_38 rfl ?_
        refine V_icmp_ge 79 42 d_Cr_init_39 (by decide) rfl (fun h9 => absurd h9 (by decide)) (fun _ => ?_)
        refine V_al0 43 d_Cr_init_42 rfl ?_
        refine V_getr 46 2 hR.1 kc_Cr (by decide) fl_Cr_11 (Or.inl rfl) rfl d_Cr_init_43 rfl ?_
        refine V_il6 48 d_Cr_init_46 rfl ?_
        refine V_il2 49 d_Cr_init_48 rfl ?_
        refine V_cS1 52 (c_Cr_isKind l G _ _ _) ok_Cr_isKind ml_Cr_28 st_Cr_isKind (gRm_ok (by decide) (by decide)) rfl rfl (Nat.le_of_ble_eq_true rfl) d_Cr_init_49 ⟨Nat.le_of_ble_eq_true rfl, Nat.le_of_ble_eq_true rfl⟩ rfl ?_
        refine V_bz 64 55 d_Cr_init_52 (by decide) rfl (fun h9 => absurd h9 (not_not_intro hk)) (fun _ => ?_)
        refine V_il2 56 d_Cr_init_55 rfl ?_
        refine V_il6 58 d_Cr_init_56 rfl ?_
        refine V_topi (z := nI 2) (by decide) ?_
        refine V_cS1 61 (c_Cr_limit l G _ _ hs 0 2 (by decide) (by decide)) ok_Cr_limit ml_Cr_32 st_Cr_limit (gRm_ok (by decide) (by decide)) rfl rfl (Nat.le_of_ble_eq_true rfl) d_Cr_init_58 ⟨Nat.le_of_ble_eq_true rfl, Nat.le_of_ble_eq_true rfl⟩ rfl ?_
        refine V_if_le 71 64 d_Cr_init_61 (by decide) rfl (fun h9 => absurd h9 (by decide)) (fun _ => ?_)
        refine V_al3 65 d_Cr_init_64 rfl ?_
        refine V_il6 67 d_Cr_init_65 rfl ?_
        refine V_ialn 68 (2) hb2 (by decide) (by decide) (by decide) d_Cr_init_67 rfl ?_
        refine V_goto 72 d_Cr_init_68 (by decide) ?_
        refine V_topi (z := (slC (nI 0) (M b 2))) ((hrd _ (kk _ 1 _ (kk _ 0 _ k0)) 2).trans (by rw [slC, if_neg (by decide)])) ?_
        refine V_iasn 73 (2) hR.2 (by decide) (by decide) (by decide) d_Cr_init_72 rfl ?_
        refine V_ii6 76 (v := 1) d_Cr_init_73 (by decide) (by decide) rfl ?_
        refine V_goto 36 d_Cr_init_76 (by decide) ?_
        refine V_il6 38 d_Cr_init_36 rfl ?_
        refine V_iconst 39 (v := 4) (by decide) d_Cr_init_38 rfl ?_
        refine V_icmp_ge 79 42 d_Cr_init_39 (by decide) rfl (fun h9 => absurd h9 (by decide)) (fun _ => ?_)
        refine V_al0 43 d_Cr_init_42 rfl ?_
        refine V_getr 46 2 hR.1 kc_Cr (by decide) fl_Cr_11 (Or.inl rfl) rfl d_Cr_init_43 rfl ?_
        refine V_il6 48 d_Cr_init_46 rfl ?_
        refine V_il2 49 d_Cr_init_48 rfl ?_
        refine V_cS1 52 (c_Cr_isKind l G _ _ _) ok_Cr_isKind ml_Cr_28 st_Cr_isKind (gRm_ok (by decide) (by decide)) rfl rfl (Nat.le_of_ble_eq_true rfl) d_Cr_init_49 ⟨Nat.le_of_ble_eq_true rfl, Nat.le_of_ble_eq_true rfl⟩ rfl ?_
        refine V_bz 64 55 d_Cr_init_52 (by decide) rfl (fun h9 => absurd h9 (not_not_intro hk)) (fun _ => ?_)
        refine V_il2 56 d_Cr_init_55 rfl ?_
        refine V_il6 58 d_Cr_init_56 rfl ?_
        refine V_topi (z := nI 3) (by decide) ?_
        refine V_cS1 61 (c_Cr_limit l G _ _ hs 0 3 (by decide) (by decide)) ok_Cr_limit ml_Cr_32 st_Cr_limit (gRm_ok (by decide) (by decide)) rfl rfl (Nat.le_of_ble_eq_true rfl) d_Cr_init_58 ⟨Nat.le_of_ble_eq_true rfl, Nat.le_of_ble_eq_true rfl⟩ rfl ?_
        refine V_if_le 71 64 d_Cr_init_61 (by decide) rfl (fun _ => ?_) (fun h9 => absurd (by decide) h9)
        refine V_iconst 72 (v := 0) (by decide) d_Cr_init_71 rfl ?_
        refine V_topi (z := (slD (nI 0) (M b 3))) (by rw [slD, if_pos (by decide)]) ?_
        refine V_iasn 73 (3) hR.2 (by decide) (by decide) (by decide) d_Cr_init_72 rfl ?_
        refine V_ii6 76 (v := 1) d_Cr_init_73 (by decide) (by decide) rfl ?_
        refine V_goto 36 d_Cr_init_76 (by decide) ?_
        refine V_il6 38 d_Cr_init_36 rfl ?_
        refine V_iconst 39 (v := 4) (by decide) d_Cr_init_38 rfl ?_
        refine V_icmp_ge 79 42 d_Cr_init_39 (by decide) rfl (fun _ => ?_) (fun h9 => absurd (by decide) h9)
        exact V_vret rfl d_Cr_init_79 ⟨rfl, rfl, rfl⟩
      · refine V_il6 38 d_Cr_init_36 rfl ?_
        refine V_iconst 39 (v := 4) (by decide) d_Cr_init_38 rfl ?_
        refine V_icmp_ge 79 42 d_Cr_init_39 (by decide) rfl (fun h9 => absurd h9 (by decide)) (fun _ => ?_)
        refine V_al0 43 d_Cr_init_42 rfl ?_
        refine V_getr 46 2 hR.1 kc_Cr (by decide) fl_Cr_11 (Or.inl rfl) rfl d_Cr_init_43 rfl ?_
        refine V_il6 48 d_Cr_init_46 rfl ?_
        refine V_il2 49 d_Cr_init_48 rfl ?_
        refine V_cS1 52 (c_Cr_isKind l G _ _ _) ok_Cr_isKind ml_Cr_28 st_Cr_isKind (gRm_ok (by decide) (by decide)) rfl rfl (Nat.le_of_ble_eq_true rfl) d_Cr_init_49 ⟨Nat.le_of_ble_eq_true rfl, Nat.le_of_ble_eq_true rfl⟩ rfl ?_
        refine V_bz 64 55 d_Cr_init_52 (by decide) rfl (fun h9 => absurd h9 (not_not_intro hk)) (fun _ => ?_)
        refine V_il2 56 d_Cr_init_55 rfl ?_
        refine V_il6 58 d_Cr_init_56 rfl ?_
        refine V_topi (z := nI 0) (by decide) ?_
        refine V_cS1 61 (c_Cr_limit l G _ _ hs 1 0 (by decide) (by decide)) ok_Cr_limit ml_Cr_32 st_Cr_limit (gRm_ok (by decide) (by decide)) rfl rfl (Nat.le_of_ble_eq_true rfl) d_Cr_init_58 ⟨Nat.le_of_ble_eq_true rfl, Nat.le_of_ble_eq_true rfl⟩ rfl ?_
        refine V_if_le 71 64 d_Cr_init_61 (by decide) rfl (fun h9 => absurd h9 (by decide)) (fun _ => ?_)
        refine V_al3 65 d_Cr_init_64 rfl ?_
        refine V_il6 67 d_Cr_init_65 rfl ?_
        refine V_ialn 68 (0) hb2 (by decide) (by decide) (by decide) d_Cr_init_67 rfl ?_
        refine V_goto 72 d_Cr_init_68 (by decide) ?_
        refine V_topi (z := (M b 0)) ((hrd _ k0 0).trans rfl) ?_
        refine V_iasn 73 (0) hR.2 (by decide) (by decide) (by decide) d_Cr_init_72 rfl ?_
        refine V_ii6 76 (v := 1) d_Cr_init_73 (by decide) (by decide) rfl ?_
        refine V_goto 36 d_Cr_init_76 (by decide) ?_
        refine V_il6 38 d_Cr_init_36 rfl ?_
        refine V_iconst 39 (v := 4) (by decide) d_Cr_init_38 rfl ?_
        refine V_icmp_ge 79 42 d_Cr_init_39 (by decide) rfl (fun h9 => absurd h9 (by decide)) (fun _ => ?_)
        refine V_al0 43 d_Cr_init_42 rfl ?_
        refine V_getr 46 2 hR.1 kc_Cr (by decide) fl_Cr_11 (Or.inl rfl) rfl d_Cr_init_43 rfl ?_
        refine V_il6 48 d_Cr_init_46 rfl ?_
        refine V_il2 49 d_Cr_init_48 rfl ?_
        refine V_cS1 52 (c_Cr_isKind l G _ _ _) ok_Cr_isKind ml_Cr_28 st_Cr_isKind (gRm_ok (by decide) (by decide)) rfl rfl (Nat.le_of_ble_eq_true rfl) d_Cr_init_49 ⟨Nat.le_of_ble_eq_true rfl, Nat.le_of_ble_eq_true rfl⟩ rfl ?_
        refine V_bz 64 55 d_Cr_init_52 (by decide) rfl (fun h9 => absurd h9 (not_not_intro hk)) (fun _ => ?_)
        refine V_il2 56 d_Cr_init_55 rfl ?_
        refine V_il6 58 d_Cr_init_56 rfl ?_
        refine V_topi (z := nI 1) (by decide) ?_
        refine V_cS1 61 (c_Cr_limit l G _ _ hs 1 1 (by decide) (by decide)) ok_Cr_limit ml_Cr_32 st_Cr_limit (gRm_ok (by decide) (by decide)) rfl rfl (Nat.le_of_ble_eq_true rfl) d_Cr_init_58 ⟨Nat.le_of_ble_eq_true rfl, Nat.le_of_ble_eq_true rfl⟩ rfl ?_
        refine V_if_le 71 64 d_Cr_init_61 (by decide) rfl (fun _ => ?_) (fun h9 => absurd (by decide) h9)
        refine V_iconst 72 (v := 0) (by decide) d_Cr_init_71 rfl ?_
        refine V_topi (z := (slB (nI 1) (M b 1))) (by rw [slB, if_pos (by decide)]) ?_
        refine V_iasn 73 (1) hR.2 (by decide) (by decide) (by decide) d_Cr_init_72 rfl ?_
        refine V_ii6 76 (v := 1) d_Cr_init_73 (by decide) (by decide) rfl ?_
        refine V_goto 36 d_Cr_init_76 (by decide) ?_
        refine V_il6 38 d_Cr_init_36 rfl ?_
        refine V_iconst 39 (v := 4) (by decide) d_Cr_init_38 rfl ?_
        refine V_icmp_ge 79 42 d_Cr_init_39 (by decide) rfl (fun h9 => absurd h9 (by decide)) (fun _ => ?_)
        refine V_al0 43 d_Cr_init_42 rfl ?_
        refine V_getr 46 2 hR.1 kc_Cr (by decide) fl_Cr_11 (Or.inl rfl) rfl d_Cr_init_43 rfl ?_
        refine V_il6 48 d_Cr_init_46 rfl ?_
        refine V_il2 49 d_Cr_init_48 rfl ?_
        refine V_cS1 52 (c_Cr_isKind l G _ _ _) ok_Cr_isKind ml_Cr_28 st_Cr_isKind (gRm_ok (by decide) (by decide)) rfl rfl (Nat.le_of_ble_eq_true rfl) d_Cr_init_49 ⟨Nat.le_of_ble_eq_true rfl, Nat.le_of_ble_eq_true rfl⟩ rfl ?_
        refine V_bz 64 55 d_Cr_init_52 (by decide) rfl (fun h9 => absurd h9 (not_not_intro hk)) (fun _ => ?_)
        refine V_il2 56 d_Cr_init_55 rfl ?_
        refine V_il6 58 d_Cr_init_56 rfl ?_
        refine V_topi (z := nI 2) (by decide) ?_
        refine V_cS1 61 (c_Cr_limit l G _ _ hs 1 2 (by decide) (by decide)) ok_Cr_limit ml_Cr_32 st_Cr_limit (gRm_ok (by decide) (by decide)) rfl rfl (Nat.le_of_ble_eq_true rfl) d_Cr_init_58 ⟨Nat.le_of_ble_eq_true rfl, Nat.le_of_ble_eq_true rfl⟩ rfl ?_
        refine V_if_le 71 64 d_Cr_init_61 (by decide) rfl (fun _ => ?_) (fun h9 => absurd (by decide) h9)
        refine V_iconst 72 (v := 0) (by decide) d_Cr_init_71 rfl ?_
        refine V_topi (z := (slC (nI 1) (M b 2))) (by rw [slC, if_pos (by decide)]) ?_
        refine V_iasn 73 (2) hR.2 (by decide) (by decide) (by decide) d_Cr_init_72 rfl ?_
        refine V_ii6 76 (v := 1) d_Cr_init_73 (by decide) (by decide) rfl ?_
        refine V_goto 36 d_Cr_init_76 (by decide) ?_
        refine V_il6 38 d_Cr_init_36 rfl ?_
        refine V_iconst 39 (v := 4) (by decide) d_Cr_init_38 rfl ?_
        refine V_icmp_ge 79 42 d_Cr_init_39 (by decide) rfl (fun h9 => absurd h9 (by decide)) (fun _ => ?_)
        refine V_al0 43 d_Cr_init_42 rfl ?_
        refine V_getr 46 2 hR.1 kc_Cr (by decide) fl_Cr_11 (Or.inl rfl) rfl d_Cr_init_43 rfl ?_
        refine V_il6 48 d_Cr_init_46 rfl ?_
        refine V_il2 49 d_Cr_init_48 rfl ?_
        refine V_cS1 52 (c_Cr_isKind l G _ _ _) ok_Cr_isKind ml_Cr_28 st_Cr_isKind (gRm_ok (by decide) (by decide)) rfl rfl (Nat.le_of_ble_eq_true rfl) d_Cr_init_49 ⟨Nat.le_of_ble_eq_true rfl, Nat.le_of_ble_eq_true rfl⟩ rfl ?_
        refine V_bz 64 55 d_Cr_init_52 (by decide) rfl (fun h9 => absurd h9 (not_not_intro hk)) (fun _ => ?_)
        refine V_il2 56 d_Cr_init_55 rfl ?_
        refine V_il6 58 d_Cr_init_56 rfl ?_
        refine V_topi (z := nI 3) (by decide) ?_
        refine V_cS1 61 (c_Cr_limit l G _ _ hs 1 3 (by decide) (by decide)) ok_Cr_limit ml_Cr_32 st_Cr_limit (gRm_ok (by decide) (by decide)) rfl rfl (Nat.le_of_ble_eq_true rfl) d_Cr_init_58 ⟨Nat.le_of_ble_eq_true rfl, Nat.le_of_ble_eq_true rfl⟩ rfl ?_
        refine V_if_le 71 64 d_Cr_init_61 (by decide) rfl (fun _ => ?_) (fun h9 => absurd (by decide) h9)
        refine V_iconst 72 (v := 0) (by decide) d_Cr_init_71 rfl ?_
        refine V_topi (z := (slD (nI 1) (M b 3))) (by rw [slD, if_pos (by decide)]) ?_
        refine V_iasn 73 (3) hR.2 (by decide) (by decide) (by decide) d_Cr_init_72 rfl ?_
        refine V_ii6 76 (v := 1) d_Cr_init_73 (by decide) (by decide) rfl ?_
        refine V_goto 36 d_Cr_init_76 (by decide) ?_
        refine V_il6 38 d_Cr_init_36 rfl ?_
        refine V_iconst 39 (v := 4) (by decide) d_Cr_init_38 rfl ?_
        refine V_icmp_ge 79 42 d_Cr_init_39 (by decide) rfl (fun _ => ?_) (fun h9 => absurd (by decide) h9)
        exact V_vret rfl d_Cr_init_79 ⟨rfl, rfl, rfl⟩
      · refine V_il6 38 d_Cr_init_36 rfl ?_
        refine V_iconst 39 (v := 4) (by decide) d_Cr_init_38 rfl ?_
        refine V_icmp_ge 79 42 d_Cr_init_39 (by decide) rfl (fun h9 => absurd h9 (by decide)) (fun _ => ?_)
        refine V_al0 43 d_Cr_init_42 rfl ?_
        refine V_getr 46 2 hR.1 kc_Cr (by decide) fl_Cr_11 (Or.inl rfl) rfl d_Cr_init_43 rfl ?_
        refine V_il6 48 d_Cr_init_46 rfl ?_
        refine V_il2 49 d_Cr_init_48 rfl ?_
        refine V_cS1 52 (c_Cr_isKind l G _ _ _) ok_Cr_isKind ml_Cr_28 st_Cr_isKind (gRm_ok (by decide) (by decide)) rfl rfl (Nat.le_of_ble_eq_true rfl) d_Cr_init_49 ⟨Nat.le_of_ble_eq_true rfl, Nat.le_of_ble_eq_true rfl⟩ rfl ?_
        refine V_bz 64 55 d_Cr_init_52 (by decide) rfl (fun h9 => absurd h9 (not_not_intro hk)) (fun _ => ?_)
        refine V_il2 56 d_Cr_init_55 rfl ?_
        refine V_il6 58 d_Cr_init_56 rfl ?_
        refine V_topi (z := nI 0) (by decide) ?_
        refine V_cS1 61 (c_Cr_limit l G _ _ hs 2 0 (by decide) (by decide)) ok_Cr_limit ml_Cr_32 st_Cr_limit (gRm_ok (by decide) (by decide)) rfl rfl (Nat.le_of_ble_eq_true rfl) d_Cr_init_58 ⟨Nat.le_of_ble_eq_true rfl, Nat.le_of_ble_eq_true rfl⟩ rfl ?_
        refine V_if_le 71 64 d_Cr_init_61 (by decide) rfl (fun h9 => absurd h9 (by decide)) (fun _ => ?_)
        refine V_al3 65 d_Cr_init_64 rfl ?_
        refine V_il6 67 d_Cr_init_65 rfl ?_
        refine V_ialn 68 (0) hb2 (by decide) (by decide) (by decide) d_Cr_init_67 rfl ?_
        refine V_goto 72 d_Cr_init_68 (by decide) ?_
        refine V_topi (z := (M b 0)) ((hrd _ k0 0).trans rfl) ?_
        refine V_iasn 73 (0) hR.2 (by decide) (by decide) (by decide) d_Cr_init_72 rfl ?_
        refine V_ii6 76 (v := 1) d_Cr_init_73 (by decide) (by decide) rfl ?_
        refine V_goto 36 d_Cr_init_76 (by decide) ?_
        refine V_il6 38 d_Cr_init_36 rfl ?_
        refine V_iconst 39 (v := 4) (by decide) d_Cr_init_38 rfl ?_
        refine V_icmp_ge 79 42 d_Cr_init_39 (by decide) rfl (fun h9 => absurd h9 (by decide)) (fun _ => ?_)
        refine V_al0 43 d_Cr_init_42 rfl ?_
        refine V_getr 46 2 hR.1 kc_Cr (by decide) fl_Cr_11 (Or.inl rfl) rfl d_Cr_init_43 rfl ?_
        refine V_il6 48 d_Cr_init_46 rfl ?_
        refine V_il2 49 d_Cr_init_48 rfl ?_
        refine V_cS1 52 (c_Cr_isKind l G _ _ _) ok_Cr_isKind ml_Cr_28 st_Cr_isKind (gRm_ok (by decide) (by decide)) rfl rfl (Nat.le_of_ble_eq_true rfl) d_Cr_init_49 ⟨Nat.le_of_ble_eq_true rfl, Nat.le_of_ble_eq_true rfl⟩ rfl ?_
        refine V_bz 64 55 d_Cr_init_52 (by decide) rfl (fun h9 => absurd h9 (not_not_intro hk)) (fun _ => ?_)
        refine V_il2 56 d_Cr_init_55 rfl ?_
        refine V_il6 58 d_Cr_init_56 rfl ?_
        refine V_topi (z := nI 1) (by decide) ?_
        refine V_cS1 61 (c_Cr_limit l G _ _ hs 2 1 (by decide) (by decide)) ok_Cr_limit ml_Cr_32 st_Cr_limit (gRm_ok (by decide) (by decide)) rfl rfl (Nat.le_of_ble_eq_true rfl) d_Cr_init_58 ⟨Nat.le_of_ble_eq_true rfl, Nat.le_of_ble_eq_true rfl⟩ rfl ?_
        refine V_if_le 71 64 d_Cr_init_61 (by decide) rfl (fun h9 => absurd h9 (by decide)) (fun _ => ?_)
        refine V_al3 65 d_Cr_init_64 rfl ?_
        refine V_il6 67 d_Cr_init_65 rfl ?_
        refine V_ialn 68 (1) hb2 (by decide) (by decide) (by decide) d_Cr_init_67 rfl ?_
        refine V_goto 72 d_Cr_init_68 (by decide) ?_
        refine V_topi (z := (slB (nI 2) (M b 1))) ((hrd _ (kk _ 0 _ k0) 1).trans (by rw [slB, if_neg (by decide)])) ?_
        refine V_iasn 73 (1) hR.2 (by decide) (by decide) (by decide) d_Cr_init_72 rfl ?_
        refine V_ii6 76 (v := 1) d_Cr_init_73 (by decide) (by decide) rfl ?_
        refine V_goto 36 d_Cr_init_76 (by decide) ?_
        refine V_il6 38 d_Cr_init_36 rfl ?_
        refine V_iconst 39 (v := 4) (by decide) d_Cr_init_38 rfl ?_
        refine V_icmp_ge 79 42 d_Cr_init_39 (by decide) rfl (fun h9 => absurd h9 (by decide)) (fun _ => ?_)
        refine V_al0 43 d_Cr_init_42 rfl ?_
        refine V_getr 46 2 hR.1 kc_Cr (by decide) fl_Cr_11 (Or.inl rfl) rfl d_Cr_init_43 rfl ?_
        refine V_il6 48 d_Cr_init_46 rfl ?_
        refine V_il2 49 d_Cr_init_48 rfl ?_
        refine V_cS1 52 (c_Cr_isKind l G _ _ _) ok_Cr_isKind ml_Cr_28 st_Cr_isKind (gRm_ok (by decide) (by decide)) rfl rfl (Nat.le_of_ble_eq_true rfl) d_Cr_init_49 ⟨Nat.le_of_ble_eq_true rfl, Nat.le_of_ble_eq_true rfl⟩ rfl ?_
        refine V_bz 64 55 d_Cr_init_52 (by decide) rfl (fun h9 => absurd h9 (not_not_intro hk)) (fun _ => ?_)
        refine V_il2 56 d_Cr_init_55 rfl ?_
        refine V_il6 58 d_Cr_init_56 rfl ?_
        refine V_topi (z := nI 2) (by decide) ?_
        refine V_cS1 61 (c_Cr_limit l G _ _ hs 2 2 (by decide) (by decide)) ok_Cr_limit ml_Cr_32 st_Cr_limit (gRm_ok (by decide) (by decide)) rfl rfl (Nat.le_of_ble_eq_true rfl) d_Cr_init_58 ⟨Nat.le_of_ble_eq_true rfl, Nat.le_of_ble_eq_true rfl⟩ rfl ?_
        refine V_if_le 71 64 d_Cr_init_61 (by decide) rfl (fun h9 => absurd h9 (by decide)) (fun _ => ?_)
        refine V_al3 65 d_Cr_init_64 rfl ?_
        refine V_il6 67 d_Cr_init_65 rfl ?_
        refine V_ialn 68 (2) hb2 (by decide) (by decide) (by decide) d_Cr_init_67 rfl ?_
        refine V_goto 72 d_Cr_init_68 (by decide) ?_
        refine V_topi (z := (slC (nI 2) (M b 2))) ((hrd _ (kk _ 1 _ (kk _ 0 _ k0)) 2).trans (by rw [slC, if_neg (by decide)])) ?_
        refine V_iasn 73 (2) hR.2 (by decide) (by decide) (by decide) d_Cr_init_72 rfl ?_
        refine V_ii6 76 (v := 1) d_Cr_init_73 (by decide) (by decide) rfl ?_
        refine V_goto 36 d_Cr_init_76 (by decide) ?_
        refine V_il6 38 d_Cr_init_36 rfl ?_
        refine V_iconst 39 (v := 4) (by decide) d_Cr_init_38 rfl ?_
        refine V_icmp_ge 79 42 d_Cr_init_39 (by decide) rfl (fun h9 => absurd h9 (by decide)) (fun _ => ?_)
        refine V_al0 43 d_Cr_init_42 rfl ?_
        refine V_getr 46 2 hR.1 kc_Cr (by decide) fl_Cr_11 (Or.inl rfl) rfl d_Cr_init_43 rfl ?_
        refine V_il6 48 d_Cr_init_46 rfl ?_
        refine V_il2 49 d_Cr_init_48 rfl ?_
        refine V_cS1 52 (c_Cr_isKind l G _ _ _) ok_Cr_isKind ml_Cr_28 st_Cr_isKind (gRm_ok (by decide) (by decide)) rfl rfl (Nat.le_of_ble_eq_true rfl) d_Cr_init_49 ⟨Nat.le_of_ble_eq_true rfl, Nat.le_of_ble_eq_true rfl⟩ rfl ?_
        refine V_bz 64 55 d_Cr_init_52 (by decide) rfl (fun h9 => absurd h9 (not_not_intro hk)) (fun _ => ?_)
        refine V_il2 56 d_Cr_init_55 rfl ?_
        refine V_il6 58 d_Cr_init_56 rfl ?_
        refine V_topi (z := nI 3) (by decide) ?_
        refine V_cS1 61 (c_Cr_limit l G _ _ hs 2 3 (by decide) (by decide)) ok_Cr_limit ml_Cr_32 st_Cr_limit (gRm_ok (by decide) (by decide)) rfl rfl (Nat.le_of_ble_eq_true rfl) d_Cr_init_58 ⟨Nat.le_of_ble_eq_true rfl, Nat.le_of_ble_eq_true rfl⟩ rfl ?_
        refine V_if_le 71 64 d_Cr_init_61 (by decide) rfl (fun h9 => absurd h9 (by decide)) (fun _ => ?_)
        refine V_al3 65 d_Cr_init_64 rfl ?_
        refine V_il6 67 d_Cr_init_65 rfl ?_
        refine V_ialn 68 (3) hb2 (by decide) (by decide) (by decide) d_Cr_init_67 rfl ?_
        refine V_goto 72 d_Cr_init_68 (by decide) ?_
        refine V_topi (z := (slD (nI 2) (M b 3))) ((hrd _ (kk _ 2 _ (kk _ 1 _ (kk _ 0 _ k0))) 3).trans (by rw [slD, if_neg (by decide)])) ?_
        refine V_iasn 73 (3) hR.2 (by decide) (by decide) (by decide) d_Cr_init_72 rfl ?_
        refine V_ii6 76 (v := 1) d_Cr_init_73 (by decide) (by decide) rfl ?_
        refine V_goto 36 d_Cr_init_76 (by decide) ?_
        refine V_il6 38 d_Cr_init_36 rfl ?_
        refine V_iconst 39 (v := 4) (by decide) d_Cr_init_38 rfl ?_
        refine V_icmp_ge 79 42 d_Cr_init_39 (by decide) rfl (fun _ => ?_) (fun h9 => absurd (by decide) h9)
        exact V_vret rfl d_Cr_init_79 ⟨rfl, rfl, rfl⟩
      · refine V_il6 38 d_Cr_init_36 rfl ?_
        refine V_iconst 39 (v := 4) (by decide) d_Cr_init_38 rfl ?_
        refine V_icmp_ge 79 42 d_Cr_init_39 (by decide) rfl (fun h9 => absurd h9 (by decide)) (fun _ => ?_)
        refine V_al0 43 d_Cr_init_42 rfl ?_
        refine V_getr 46 2 hR.1 kc_Cr (by decide) fl_Cr_11 (Or.inl rfl) rfl d_Cr_init_43 rfl ?_
        refine V_il6 48 d_Cr_init_46 rfl ?_
        refine V_il2 49 d_Cr_init_48 rfl ?_
        refine V_cS1 52 (c_Cr_isKind l G _ _ _) ok_Cr_isKind ml_Cr_28 st_Cr_isKind (gRm_ok (by decide) (by decide)) rfl rfl (Nat.le_of_ble_eq_true rfl) d_Cr_init_49 ⟨Nat.le_of_ble_eq_true rfl, Nat.le_of_ble_eq_true rfl⟩ rfl ?_
        refine V_bz 64 55 d_Cr_init_52 (by decide) rfl (fun h9 => absurd h9 (not_not_intro hk)) (fun _ => ?_)
        refine V_il2 56 d_Cr_init_55 rfl ?_
        refine V_il6 58 d_Cr_init_56 rfl ?_
        refine V_topi (z := nI 0) (by decide) ?_
        refine V_cS1 61 (c_Cr_limit l G _ _ hs 3 0 (by decide) (by decide)) ok_Cr_limit ml_Cr_32 st_Cr_limit (gRm_ok (by decide) (by decide)) rfl rfl (Nat.le_of_ble_eq_true rfl) d_Cr_init_58 ⟨Nat.le_of_ble_eq_true rfl, Nat.le_of_ble_eq_true rfl⟩ rfl ?_
        refine V_if_le 71 64 d_Cr_init_61 (by decide) rfl (fun h9 => absurd h9 (by decide)) (fun _ => ?_)
        refine V_al3 65 d_Cr_init_64 rfl ?_
        refine V_il6 67 d_Cr_init_65 rfl ?_
        refine V_ialn 68 (0) hb2 (by decide) (by decide) (by decide) d_Cr_init_67 rfl ?_
        refine V_goto 72 d_Cr_init_68 (by decide) ?_
        refine V_topi (z := (M b 0)) ((hrd _ k0 0).trans rfl) ?_
        refine V_iasn 73 (0) hR.2 (by decide) (by decide) (by decide) d_Cr_init_72 rfl ?_
        refine V_ii6 76 (v := 1) d_Cr_init_73 (by decide) (by decide) rfl ?_
        refine V_goto 36 d_Cr_init_76 (by decide) ?_
        refine V_il6 38 d_Cr_init_36 rfl ?_
        refine V_iconst 39 (v := 4) (by decide) d_Cr_init_38 rfl ?_
        refine V_icmp_ge 79 42 d_Cr_init_39 (by decide) rfl (fun h9 => absurd h9 (by decide)) (fun _ => ?_)
        refine V_al0 43 d_Cr_init_42 rfl ?_
        refine V_getr 46 2 hR.1 kc_Cr (by decide) fl_Cr_11 (Or.inl rfl) rfl d_Cr_init_43 rfl ?_
        refine V_il6 48 d_Cr_init_46 rfl ?_
        refine V_il2 49 d_Cr_init_48 rfl ?_
        refine V_cS1 52 (c_Cr_isKind l G _ _ _) ok_Cr_isKind ml_Cr_28 st_Cr_isKind (gRm_ok (by decide) (by decide)) rfl rfl (Nat.le_of_ble_eq_true rfl) d_Cr_init_49 ⟨Nat.le_of_ble_eq_true rfl, Nat.le_of_ble_eq_true rfl⟩ rfl ?_
        refine V_bz 64 55 d_Cr_init_52 (by decide) rfl (fun h9 => absurd h9 (not_not_intro hk)) (fun _ => ?_)
        refine V_il2 56 d_Cr_init_55 rfl ?_
        refine V_il6 58 d_Cr_init_56 rfl ?_
        refine V_topi (z := nI 1) (by decide) ?_
        refine V_cS1 61 (c_Cr_limit l G _ _ hs 3 1 (by decide) (by decide)) ok_Cr_limit ml_Cr_32 st_Cr_limit (gRm_ok (by decide) (by decide)) rfl rfl (Nat.le_of_ble_eq_true rfl) d_Cr_init_58 ⟨Nat.le_of_ble_eq_true rfl, Nat.le_of_ble_eq_true rfl⟩ rfl ?_
        refine V_if_le 71 64 d_Cr_init_61 (by decide) rfl (fun h9 => absurd h9 (by decide)) (fun _ => ?_)
        refine V_al3 65 d_Cr_init_64 rfl ?_
        refine V_il6 67 d_Cr_init_65 rfl ?_
        refine V_ialn 68 (1) hb2 (by decide) (by decide) (by decide) d_Cr_init_67 rfl ?_
        refine V_goto 72 d_Cr_init_68 (by decide) ?_
        refine V_topi (z := (slB (nI 3) (M b 1))) ((hrd _ (kk _ 0 _ k0) 1).trans (by rw [slB, if_neg (by decide)])) ?_
        refine V_iasn 73 (1) hR.2 (by decide) (by decide) (by decide) d_Cr_init_72 rfl ?_
        refine V_ii6 76 (v := 1) d_Cr_init_73 (by decide) (by decide) rfl ?_
        refine V_goto 36 d_Cr_init_76 (by decide) ?_
        refine V_il6 38 d_Cr_init_36 rfl ?_
        refine V_iconst 39 (v := 4) (by decide) d_Cr_init_38 rfl ?_
        refine V_icmp_ge 79 42 d_Cr_init_39 (by decide) rfl (fun h9 => absurd h9 (by decide)) (fun _ => ?_)
        refine V_al0 43 d_Cr_init_42 rfl ?_
        refine V_getr 46 2 hR.1 kc_Cr (by decide) fl_Cr_11 (Or.inl rfl) rfl d_Cr_init_43 rfl ?_
        refine V_il6 48 d_Cr_init_46 rfl ?_
        refine V_il2 49 d_Cr_init_48 rfl ?_
        refine V_cS1 52 (c_Cr_isKind l G _ _ _) ok_Cr_isKind ml_Cr_28 st_Cr_isKind (gRm_ok (by decide) (by decide)) rfl rfl (Nat.le_of_ble_eq_true rfl) d_Cr_init_49 ⟨Nat.le_of_ble_eq_true rfl, Nat.le_of_ble_eq_true rfl⟩ rfl ?_
        refine V_bz 64 55 d_Cr_init_52 (by decide) rfl (fun h9 => absurd h9 (not_not_intro hk)) (fun _ => ?_)
        refine V_il2 56 d_Cr_init_55 rfl ?_
        refine V_il6 58 d_Cr_init_56 rfl ?_
        refine V_topi (z := nI 2) (by decide) ?_
        refine V_cS1 61 (c_Cr_limit l G _ _ hs 3 2 (by decide) (by decide)) ok_Cr_limit ml_Cr_32 st_Cr_limit (gRm_ok (by decide) (by decide)) rfl rfl (Nat.le_of_ble_eq_true rfl) d_Cr_init_58 ⟨Nat.le_of_ble_eq_true rfl, Nat.le_of_ble_eq_true rfl⟩ rfl ?_
        refine V_if_le 71 64 d_Cr_init_61 (by decide) rfl (fun _ => ?_) (fun h9 => absurd (by decide) h9)
        refine V_iconst 72 (v := 0) (by decide) d_Cr_init_71 rfl ?_
        refine V_topi (z := (slC (nI 3) (M b 2))) (by rw [slC, if_pos (by decide)]) ?_
        refine V_iasn 73 (2) hR.2 (by decide) (by decide) (by decide) d_Cr_init_72 rfl ?_
        refine V_ii6 76 (v := 1) d_Cr_init_73 (by decide) (by decide) rfl ?_
        refine V_goto 36 d_Cr_init_76 (by decide) ?_
        refine V_il6 38 d_Cr_init_36 rfl ?_
        refine V_iconst 39 (v := 4) (by decide) d_Cr_init_38 rfl ?_
        refine V_icmp_ge 79 42 d_Cr_init_39 (by decide) rfl (fun h9 => absurd h9 (by decide)) (fun _ => ?_)
        refine V_al0 43 d_Cr_init_42 rfl ?_
        refine V_getr 46 2 hR.1 kc_Cr (by decide) fl_Cr_11 (Or.inl rfl) rfl d_Cr_init_43 rfl ?_
        refine V_il6 48 d_Cr_init_46 rfl ?_
        refine V_il2 49 d_Cr_init_48 rfl ?_
        refine V_cS1 52 (c_Cr_isKind l G _ _ _) ok_Cr_isKind ml_Cr_28 st_Cr_isKind (gRm_ok (by decide) (by decide)) rfl rfl (Nat.le_of_ble_eq_true rfl) d_Cr_init_49 ⟨Nat.le_of_ble_eq_true rfl, Nat.le_of_ble_eq_true rfl⟩ rfl ?_
        refine V_bz 64 55 d_Cr_init_52 (by decide) rfl (fun h9 => absurd h9 (not_not_intro hk)) (fun _ => ?_)
        refine V_il2 56 d_Cr_init_55 rfl ?_
        refine V_il6 58 d_Cr_init_56 rfl ?_
        refine V_topi (z := nI 3) (by decide) ?_
        refine V_cS1 61 (c_Cr_limit l G _ _ hs 3 3 (by decide) (by decide)) ok_Cr_limit ml_Cr_32 st_Cr_limit (gRm_ok (by decide) (by decide)) rfl rfl (Nat.le_of_ble_eq_true rfl) d_Cr_init_58 ⟨Nat.le_of_ble_eq_true rfl, Nat.le_of_ble_eq_true rfl⟩ rfl ?_
        refine V_if_le 71 64 d_Cr_init_61 (by decide) rfl (fun _ => ?_) (fun h9 => absurd (by decide) h9)
        refine V_iconst 72 (v := 0) (by decide) d_Cr_init_71 rfl ?_
        refine V_topi (z := (slD (nI 3) (M b 3))) (by rw [slD, if_pos (by decide)]) ?_
        refine V_iasn 73 (3) hR.2 (by decide) (by decide) (by decide) d_Cr_init_72 rfl ?_
        refine V_ii6 76 (v := 1) d_Cr_init_73 (by decide) (by decide) rfl ?_
        refine V_goto 36 d_Cr_init_76 (by decide) ?_
        refine V_il6 38 d_Cr_init_36 rfl ?_
        refine V_iconst 39 (v := 4) (by decide) d_Cr_init_38 rfl ?_
        refine V_icmp_ge 79 42 d_Cr_init_39 (by decide) rfl (fun _ => ?_) (fun h9 => absurd (by decide) h9)
        exact V_vret rfl d_Cr_init_79 ⟨rfl, rfl, rfl⟩
    · have e0 : ¬ k = 0 := fun h => hk (by rw [h]; decide)
      have e1 : ¬ k = 1 := fun h => hk (by rw [h]; decide)
      have e3 : ¬ k = 3 := fun h => hk (by rw [h]; decide)
      refine V_il6 38 d_Cr_init_36 rfl ?_
      refine V_iconst 39 (v := 4) (by decide) d_Cr_init_38 rfl ?_
      refine V_icmp_ge 79 42 d_Cr_init_39 (by decide) rfl (fun h9 => absurd h9 (by decide)) (fun _ => ?_)
      refine V_al0 43 d_Cr_init_42 rfl ?_
      refine V_getr 46 2 hR.1 kc_Cr (by decide) fl_Cr_11 (Or.inl rfl) rfl d_Cr_init_43 rfl ?_
      refine V_il6 48 d_Cr_init_46 rfl ?_
      refine V_il2 49 d_Cr_init_48 rfl ?_
      refine V_cS1 52 (c_Cr_isKind l G _ _ _) ok_Cr_isKind ml_Cr_28 st_Cr_isKind (gRm_ok (by decide) (by decide)) rfl rfl (Nat.le_of_ble_eq_true rfl) d_Cr_init_49 ⟨Nat.le_of_ble_eq_true rfl, Nat.le_of_ble_eq_true rfl⟩ rfl ?_
      refine V_bz 64 55 d_Cr_init_52 (by decide) rfl (fun _ => ?_) (fun h9 => absurd h9 hk)
      refine V_al3 65 d_Cr_init_64 rfl ?_
      refine V_il6 67 d_Cr_init_65 rfl ?_
      refine V_ialn 68 (0) hb2 (by decide) (by decide) (by decide) d_Cr_init_67 rfl ?_
      refine V_goto 72 d_Cr_init_68 (by decide) ?_
      refine V_topi (z := (M b 0)) ((hrd _ k0 0).trans rfl) ?_
      refine V_iasn 73 (0) hR.2 (by decide) (by decide) (by decide) d_Cr_init_72 rfl ?_
      refine V_ii6 76 (v := 1) d_Cr_init_73 (by decide) (by decide) rfl ?_
      refine V_goto 36 d_Cr_init_76 (by decide) ?_
      refine V_il6 38 d_Cr_init_36 rfl ?_
      refine V_iconst 39 (v := 4) (by decide) d_Cr_init_38 rfl ?_
      refine V_icmp_ge 79 42 d_Cr_init_39 (by decide) rfl (fun h9 => absurd h9 (by decide)) (fun _ => ?_)
      refine V_al0 43 d_Cr_init_42 rfl ?_
      refine V_getr 46 2 hR.1 kc_Cr (by decide) fl_Cr_11 (Or.inl rfl) rfl d_Cr_init_43 rfl ?_
      refine V_il6 48 d_Cr_init_46 rfl ?_
      refine V_il2 49 d_Cr_init_48 rfl ?_
      refine V_cS1 52 (c_Cr_isKind l G _ _ _) ok_Cr_isKind ml_Cr_28 st_Cr_isKind (gRm_ok (by decide) (by decide)) rfl rfl (Nat.le_of_ble_eq_true rfl) d_Cr_init_49 ⟨Nat.le_of_ble_eq_true rfl, Nat.le_of_ble_eq_true rfl⟩ rfl ?_
      refine V_bz 64 55 d_Cr_init_52 (by decide) rfl (fun _ => ?_) (fun h9 => absurd h9 hk)
      refine V_al3 65 d_Cr_init_64 rfl ?_
      refine V_il6 67 d_Cr_init_65 rfl ?_
      refine V_ialn 68 (1) hb2 (by decide) (by decide) (by decide) d_Cr_init_67 rfl ?_
      refine V_goto 72 d_Cr_init_68 (by decide) ?_
      refine V_topi (z := (slB k (M b 1))) ((hrd _ (kk _ 0 _ k0) 1).trans (by rw [slB, if_neg e1])) ?_
      refine V_iasn 73 (1) hR.2 (by decide) (by decide) (by decide) d_Cr_init_72 rfl ?_
      refine V_ii6 76 (v := 1) d_Cr_init_73 (by decide) (by decide) rfl ?_
      refine V_goto 36 d_Cr_init_76 (by decide) ?_
      refine V_il6 38 d_Cr_init_36 rfl ?_
      refine V_iconst 39 (v := 4) (by decide) d_Cr_init_38 rfl ?_
      refine V_icmp_ge 79 42 d_Cr_init_39 (by decide) rfl (fun h9 => absurd h9 (by decide)) (fun _ => ?_)
      refine V_al0 43 d_Cr_init_42 rfl ?_
      refine V_getr 46 2 hR.1 kc_Cr (by decide) fl_Cr_11 (Or.inl rfl) rfl d_Cr_init_43 rfl ?_
      refine V_il6 48 d_Cr_init_46 rfl ?_
      refine V_il2 49 d_Cr_init_48 rfl ?_
      refine V_cS1 52 (c_Cr_isKind l G _ _ _) ok_Cr_isKind ml_Cr_28 st_Cr_isKind (gRm_ok (by decide) (by decide)) rfl rfl (Nat.le_of_ble_eq_true rfl) d_Cr_init_49 ⟨Nat.le_of_ble_eq_true rfl, Nat.le_of_ble_eq_true rfl⟩ rfl ?_
      refine V_bz 64 55 d_Cr_init_52 (by decide) rfl (fun _ => ?_) (fun h9 => absurd h9 hk)
      refine V_al3 65 d_Cr_init_64 rfl ?_
      refine V_il6 67 d_Cr_init_65 rfl ?_
      refine V_ialn 68 (2) hb2 (by decide) (by decide) (by decide) d_Cr_init_67 rfl ?_
      refine V_goto 72 d_Cr_init_68 (by decide) ?_
      refine V_topi (z := (slC k (M b 2))) ((hrd _ (kk _ 1 _ (kk _ 0 _ k0)) 2).trans (by rw [slC, if_neg (fun h => h.elim e1 e3)])) ?_
      refine V_iasn 73 (2) hR.2 (by decide) (by decide) (by decide) d_Cr_init_72 rfl ?_
      refine V_ii6 76 (v := 1) d_Cr_init_73 (by decide) (by decide) rfl ?_
      refine V_goto 36 d_Cr_init_76 (by decide) ?_
      refine V_il6 38 d_Cr_init_36 rfl ?_
      refine V_iconst 39 (v := 4) (by decide) d_Cr_init_38 rfl ?_
      refine V_icmp_ge 79 42 d_Cr_init_39 (by decide) rfl (fun h9 => absurd h9 (by decide)) (fun _ => ?_)
      refine V_al0 43 d_Cr_init_42 rfl ?_
      refine V_getr 46 2 hR.1 kc_Cr (by decide) fl_Cr_11 (Or.inl rfl) rfl d_Cr_init_43 rfl ?_
      refine V_il6 48 d_Cr_init_46 rfl ?_
      refine V_il2 49 d_Cr_init_48 rfl ?_
      refine V_cS1 52 (c_Cr_isKind l G _ _ _) ok_Cr_isKind ml_Cr_28 st_Cr_isKind (gRm_ok (by decide) (by decide)) rfl rfl (Nat.le_of_ble_eq_true rfl) d_Cr_init_49 ⟨Nat.le_of_ble_eq_true rfl, Nat.le_of_ble_eq_true rfl⟩ rfl ?_
      refine V_bz 64 55 d_Cr_init_52 (by decide) rfl (fun _ => ?_) (fun h9 => absurd h9 hk)
      refine V_al3 65 d_Cr_init_64 rfl ?_
      refine V_il6 67 d_Cr_init_65 rfl ?_
      refine V_ialn 68 (3) hb2 (by decide) (by decide) (by decide) d_Cr_init_67 rfl ?_
      refine V_goto 72 d_Cr_init_68 (by decide) ?_
      refine V_topi (z := (slD k (M b 3))) ((hrd _ (kk _ 2 _ (kk _ 1 _ (kk _ 0 _ k0))) 3).trans (by rw [slD, if_neg (fun h => h.elim e0 (fun h => h.elim e1 e3))])) ?_
      refine V_iasn 73 (3) hR.2 (by decide) (by decide) (by decide) d_Cr_init_72 rfl ?_
      refine V_ii6 76 (v := 1) d_Cr_init_73 (by decide) (by decide) rfl ?_
      refine V_goto 36 d_Cr_init_76 (by decide) ?_
      refine V_il6 38 d_Cr_init_36 rfl ?_
      refine V_iconst 39 (v := 4) (by decide) d_Cr_init_38 rfl ?_
      refine V_icmp_ge 79 42 d_Cr_init_39 (by decide) rfl (fun _ => ?_) (fun h9 => absurd (by decide) h9)
      exact V_vret rfl d_Cr_init_79 ⟨rfl, rfl, rfl⟩
  refine gMet_of (lv := [some (.ref a), some (.int i), some (.int k), some (.ref b), some (.int f), some (.int t), none]) (by decide) rfl (Nat.le_of_ble_eq_true rfl) rfl ?_
  refine V_al0 1 d_Cr_init_0 rfl ?_
  refine V_objInit 4 mo_Cr_3 oi_im oi_co (Nat.le_of_ble_eq_true rfl) (Nat.le_of_ble_eq_true rfl) d_Cr_init_1 rfl ?_
  refine V_al0 5 d_Cr_init_4 rfl ?_
  refine V_iconst 6 (v := 4) (by decide) d_Cr_init_5 rfl ?_
  refine V_newi 8 n 4 rfl (by decide) hLn h2 (fun h => h rfl) ⟨fun x hx => ?_, fun x hx => ?_⟩ (Nat.le_of_ble_eq_true rfl) (Nat.le_of_ble_eq_true rfl) d_Cr_init_6 rfl ?_
  · simp at hx; rcases hx with rfl | rfl; exact Ne.symm hna; exact hbn
  · simp at hx; subst hx; exact Ne.symm hna
  have hLa1 : va_up L n (some (.inl (0, 4, none))) a = some (.inr (3, crF0)) := (va_up_ne _ _ (Ne.symm hna)).trans hLa
  refine V_putrF 11 2 hLa1 kc_Cr (by decide) ff_Cr_11 rfl rfl rfl (fun r => rfl) (fun r => rfl) (by decide) (fun c hc => Or.inr (by cases hc; rw [va_up_self]; exact fun h => by cases h)) d_Cr_init_8 rfl ?_
  refine V_mem (L' := crL L a n) (M' := va_up M n (fun _ => 0)) rfl rfl ?_
  refine V_al0 12 d_Cr_init_11 rfl ?_
  refine V_il1 13 d_Cr_init_12 rfl ?_
  refine V_putiF 16 0 hR.1 kc_Cr (by decide) ff_Cr_15 rfl rfl rfl rfl rfl rfl d_Cr_init_13 rfl ?_
  refine V_al0 17 d_Cr_init_16 rfl ?_
  refine V_il2 18 d_Cr_init_17 rfl ?_
  refine V_putiF 21 1 hR.1 kc_Cr (by decide) ff_Cr_19 rfl rfl rfl rfl rfl rfl d_Cr_init_18 rfl ?_
  refine V_al0 22 d_Cr_init_21 rfl ?_
  refine V_il4 24 d_Cr_init_22 rfl ?_
  refine V_putiF 27 3 hR.1 kc_Cr (by decide) ff_Cr_22 rfl rfl rfl rfl rfl rfl d_Cr_init_24 rfl ?_
  refine V_al0 28 d_Cr_init_27 rfl ?_
  refine V_il5 30 d_Cr_init_28 rfl ?_
  refine V_putiF 33 4 hR.1 kc_Cr (by decide) ff_Cr_25 rfl rfl rfl rfl rfl rfl d_Cr_init_30 rfl ?_
  refine V_iconst 34 (v := 0) (by decide) d_Cr_init_33 rfl ?_
  refine V_is6 36 d_Cr_init_34 (by decide) rfl ?_
  exact q36

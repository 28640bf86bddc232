/-! the reference: its small methods -/
abbrev pIn (v lo hi : Int32) : Prop := ¬ v < lo ∧ ¬ hi < v
theorem gst_self (M : gMe) (a k : Nat) : gst M a k (M a k) = M := by
  funext b j
  rw [gst_at]
  by_cases h : b = a
  · subst h
    by_cases hj : j = k
    · subst hj; simp
    · simp [hj]
  · simp [h]
theorem pIn0 {x : Int32} {k : Nat} (hk : k < 1000) (h : pIn x 0 (nI k)) : ∃ j, j ≤ k ∧ x = nI j := by
  obtain ⟨n, hn, rfl⟩ := nI_of h.1
  refine ⟨n, ?_, rfl⟩
  rcases Nat.lt_or_ge k n with hl | hl
  · exact absurd ((nI_ltI (by omega) hn).mpr hl) h.2
  · exact hl
theorem nI_rng9 {x : Int32} {c : Nat} (hc : c < 1000) (h1 : ¬ x < 1) (h2 : ¬ nI c < x) : ∃ n, 1 ≤ n ∧ n ≤ c ∧ x = nI n := by
  have h0 : ¬ x < 0 := fun h => h1 (by
    rw [Int32.lt_iff_toInt_lt] at h ⊢
    have e0 : (0 : Int32).toInt = 0 := by decide
    have e1 : (1 : Int32).toInt = 1 := by decide
    omega)
  obtain ⟨n, hn, rfl⟩ := nI_of h0
  refine ⟨n, ?_, ?_, rfl⟩
  · rcases Nat.lt_or_ge n 1 with h | h
    · exact absurd ((nI_ltI (b := 1) hn (by decide)).mpr h) h1
    · exact h
  · rcases Nat.lt_or_ge c n with h | h
    · exact absurd ((nI_ltI (by omega) hn).mpr h) h2
    · exact h
theorem pIn_nI0 {j k : Nat} (h : j ≤ k) (hk : k < 1000) : pIn (nI j) 0 (nI k) := ⟨nI_pos (by omega), nI_nlt h (by omega)⟩
theorem pIn_nI1 {j k : Nat} (h1 : 1 ≤ j) (h : j ≤ k) (hk : k < 1000) : pIn (nI j) 1 (nI k) := ⟨nI_nlt (b := 1) h1 (by omega), nI_nlt h (by omega)⟩
theorem pIn1 {x : Int32} {k : Nat} (hk : k < 1000) (h : pIn x 1 (nI k)) : ∃ j, 1 ≤ j ∧ j ≤ k ∧ x = nI j := by
  obtain ⟨n, h1, h2, rfl⟩ := nI_rng9 hk h.1 h.2
  exact ⟨n, h1, h2, rfl⟩
set_option maxRecDepth 100000 in
set_option maxHeartbeats 4000000 in
theorem c_Mo_in (l : Launch) (G : gG) (L : gLy) (M : gMe) (v a b : Int32) : gMet l G y_Mo_in b_Mo_in 3 (some FieldType.boolean) (rmL 1 0 0) [.int v, .int a, .int b] L M gAll (gPo (some (.int (bi (pIn v a b)))) L M) 0 0 := by
  refine gMet_of (lv := [some (.int v), some (.int a), some (.int b)]) (by decide) rfl (Nat.le_of_ble_eq_true rfl) rfl ?_
  refine V_il0 1 d_Mo_in_0 rfl ?_
  refine V_il1 2 d_Mo_in_1 rfl ?_
  refine V_icmp_lt 14 5 d_Mo_in_2 (by decide) rfl (fun h2 => ?_) (fun h2 => ?_)
  · refine V_iconst 15 (v := 0) (by decide) d_Mo_in_14 rfl ?_
    exact V_zret rfl rfl d_Mo_in_15 (gN (fun h => h.1 h2))
  · refine V_il0 6 d_Mo_in_5 rfl ?_
    refine V_il2 7 d_Mo_in_6 rfl ?_
    refine V_icmp_gt 14 10 d_Mo_in_7 (by decide) rfl (fun h7 => ?_) (fun h7 => ?_)
    · refine V_iconst 15 (v := 0) (by decide) d_Mo_in_14 rfl ?_
      exact V_zret rfl rfl d_Mo_in_15 (gN (fun h => h.2 h7))
    · refine V_iconst 11 (v := 1) (by decide) d_Mo_in_10 rfl ?_
      refine V_goto 15 d_Mo_in_11 (by decide) ?_
      exact V_zret rfl rfl d_Mo_in_15 (gT ⟨h2, h7⟩)
set_option maxRecDepth 100000 in
set_option maxHeartbeats 4000000 in
theorem c_Mo_isPerson (l : Launch) (G : gG) (L : gLy) (M : gMe) (p : Int32) : gMet l G y_Mo_isPerson b_Mo_isPerson 1 (some FieldType.boolean) (rmL 2 0 0) [.int p] L M gAll (gPo (some (.int (bi (pIn p 0 5)))) L M) 0 0 := by
  refine gMet_of (lv := [some (.int p)]) (by decide) rfl (Nat.le_of_ble_eq_true rfl) rfl ?_
  refine V_il0 1 d_Mo_isPerson_0 rfl ?_
  refine V_iconst 2 (v := 0) (by decide) d_Mo_isPerson_1 rfl ?_
  refine V_iconst 3 (v := 5) (by decide) d_Mo_isPerson_2 rfl ?_
  refine V_cS1 6 (c_Mo_in l G _ _ _ _ _) ok_Mo_in ml_Mo_106 st_Mo_in (gRm_ok (by decide) (by decide)) rfl rfl (Nat.le_of_ble_eq_true rfl) d_Mo_isPerson_3 ⟨Nat.le_of_ble_eq_true rfl, Nat.le_of_ble_eq_true rfl⟩ rfl ?_
  exact V_zret rfl bi_n d_Mo_isPerson_6 ⟨rfl, rfl, rfl⟩
set_option maxRecDepth 100000 in
set_option maxHeartbeats 4000000 in
theorem c_Mo_isRight (l : Launch) (G : gG) (L : gLy) (M : gMe) (p : Int32) : gMet l G y_Mo_isRight b_Mo_isRight 1 (some FieldType.boolean) (rmL 2 0 0) [.int p] L M gAll (gPo (some (.int (bi (pIn p 0 3)))) L M) 0 0 := by
  refine gMet_of (lv := [some (.int p)]) (by decide) rfl (Nat.le_of_ble_eq_true rfl) rfl ?_
  refine V_il0 1 d_Mo_isRight_0 rfl ?_
  refine V_iconst 2 (v := 0) (by decide) d_Mo_isRight_1 rfl ?_
  refine V_iconst 3 (v := 3) (by decide) d_Mo_isRight_2 rfl ?_
  refine V_cS1 6 (c_Mo_in l G _ _ _ _ _) ok_Mo_in ml_Mo_106 st_Mo_in (gRm_ok (by decide) (by decide)) rfl rfl (Nat.le_of_ble_eq_true rfl) d_Mo_isRight_3 ⟨Nat.le_of_ble_eq_true rfl, Nat.le_of_ble_eq_true rfl⟩ rfl ?_
  exact V_zret rfl bi_n d_Mo_isRight_6 ⟨rfl, rfl, rfl⟩
set_option maxRecDepth 100000 in
set_option maxHeartbeats 4000000 in
theorem c_Mo_fails (l : Launch) (G : gG) (L : gLy) (M : gMe) (hM : gLM L) (x : Int32) : gMet l G y_Mo_fails b_Mo_fails 2 (some FieldType.int) (rmL 1 0 0) [.ref 400, .int x] L M gAll (gPo (some (.int 0)) L (gst M 400 2 x)) 0 0 := by
  refine gMet_of (lv := [some (.ref 400), some (.int x)]) (by decide) rfl (Nat.le_of_ble_eq_true rfl) rfl ?_
  refine V_al0 1 d_Mo_fails_0 rfl ?_
  refine V_il1 2 d_Mo_fails_1 rfl ?_
  refine V_puti 5 2 (lM hM) kc_Mo (by decide) fl_Mo_93 (Or.inl rfl) rfl rfl rfl rfl d_Mo_fails_2 rfl ?_
  refine V_iconst 6 (v := 0) (by decide) d_Mo_fails_5 rfl ?_
  exact V_iret rfl d_Mo_fails_6 ⟨rfl, rfl, rfl⟩
set_option maxRecDepth 100000 in
set_option maxHeartbeats 4000000 in
theorem c_Mo_thrown (l : Launch) (G : gG) (L : gLy) (M : gMe) (hM : gLM L) : gMet l G y_Mo_thrown b_Mo_thrown 1 (some FieldType.int) (rmL 1 0 0) [.ref 400] L M gAll (gPo (some (.int (M 400 2))) L M) 0 0 := by
  refine gMet_of (lv := [some (.ref 400)]) (by decide) rfl (Nat.le_of_ble_eq_true rfl) rfl ?_
  refine V_al0 1 d_Mo_thrown_0 rfl ?_
  refine V_geti 4 2 (lM hM) kc_Mo (by decide) fl_Mo_93 (Or.inl rfl) rfl d_Mo_thrown_1 rfl ?_
  exact V_iret rfl d_Mo_thrown_4 ⟨rfl, rfl, rfl⟩
abbrev pOut (M : gMe) : Prop := ¬ M 400 3 = 0 ∧ M 400 4 = 0
def rcM (M : gMe) : gMe := if pOut M then gst (gst M 400 3 0) 400 21 0 else gst M 400 4 (if M 400 3 = 0 then M 400 4 else M 400 4 - 1)
set_option maxRecDepth 100000 in
set_option maxHeartbeats 4000000 in
theorem c_Mo_recorded (l : Launch) (G : gG) (L : gLy) (M : gMe) (hM : gLM L) : gMet l G y_Mo_recorded b_Mo_recorded 1 (some FieldType.boolean) (rmL 1 0 0) [.ref 400] L M gAll (gPo (some (.int (bi (¬ pOut M)))) L (rcM M)) 0 0 := by
  refine gMet_of (lv := [some (.ref 400)]) (by decide) rfl (Nat.le_of_ble_eq_true rfl) rfl ?_
  refine V_al0 1 d_Mo_recorded_0 rfl ?_
  refine V_geti 4 3 (lM hM) kc_Mo (by decide) fl_Mo_96 (Or.inl rfl) rfl d_Mo_recorded_1 rfl ?_
  refine V_if_eq 26 7 d_Mo_recorded_4 (by decide) rfl (fun h4 => ?_) (fun h4 => ?_)
  · refine V_al0 27 d_Mo_recorded_26 rfl ?_
    refine V_al0 28 d_Mo_recorded_27 rfl ?_
    refine V_geti 31 3 (lM hM) kc_Mo (by decide) fl_Mo_96 (Or.inl rfl) rfl d_Mo_recorded_28 rfl ?_
    refine V_if_eq 43 34 d_Mo_recorded_31 (by decide) rfl (fun _ => ?_) (fun h9 => absurd h4 h9)
    refine V_al0 44 d_Mo_recorded_43 rfl ?_
    refine V_geti 47 4 (lM hM) kc_Mo (by decide) fl_Mo_100 (Or.inl rfl) rfl d_Mo_recorded_44 rfl ?_
    refine V_puti 50 4 (lM hM) kc_Mo (by decide) fl_Mo_100 (Or.inl rfl) rfl rfl rfl rfl d_Mo_recorded_47 rfl ?_
    refine V_iconst 51 (v := 1) (by decide) d_Mo_recorded_50 rfl ?_
    exact V_zret rfl rfl d_Mo_recorded_51 (by have g : ¬ pOut M := fun h => h.1 h4; exact ⟨by rw [bi_t g], rfl, by rw [rcM, if_neg g, if_pos h4]⟩)
  · refine V_al0 8 d_Mo_recorded_7 rfl ?_
    refine V_geti 11 4 (lM hM) kc_Mo (by decide) fl_Mo_100 (Or.inl rfl) rfl d_Mo_recorded_8 rfl ?_
    refine V_if_ne 26 14 d_Mo_recorded_11 (by decide) rfl (fun h11 => ?_) (fun h11 => ?_)
    · refine V_al0 27 d_Mo_recorded_26 rfl ?_
      refine V_al0 28 d_Mo_recorded_27 rfl ?_
      refine V_geti 31 3 (lM hM) kc_Mo (by decide) fl_Mo_96 (Or.inl rfl) rfl d_Mo_recorded_28 rfl ?_
      refine V_if_eq 43 34 d_Mo_recorded_31 (by decide) rfl (fun h9 => absurd h9 h4) (fun _ => ?_)
      refine V_al0 35 d_Mo_recorded_34 rfl ?_
      refine V_geti 38 4 (lM hM) kc_Mo (by decide) fl_Mo_100 (Or.inl rfl) rfl d_Mo_recorded_35 rfl ?_
      refine V_iconst 39 (v := 1) (by decide) d_Mo_recorded_38 rfl ?_
      refine V_isub 40 d_Mo_recorded_39 rfl ?_
      refine V_goto 47 d_Mo_recorded_40 (by decide) ?_
      refine V_puti 50 4 (lM hM) kc_Mo (by decide) fl_Mo_100 (Or.inl rfl) rfl rfl rfl rfl d_Mo_recorded_47 rfl ?_
      refine V_iconst 51 (v := 1) (by decide) d_Mo_recorded_50 rfl ?_
      exact V_zret rfl rfl d_Mo_recorded_51 (by have g : ¬ pOut M := fun h => h11 h.2; exact ⟨by rw [bi_t g], rfl, by rw [rcM, if_neg g, if_neg h4]⟩)
    · refine V_al0 15 d_Mo_recorded_14 rfl ?_
      refine V_iconst 16 (v := 0) (by decide) d_Mo_recorded_15 rfl ?_
      refine V_puti 19 3 (lM hM) kc_Mo (by decide) fl_Mo_96 (Or.inl rfl) rfl rfl rfl rfl d_Mo_recorded_16 rfl ?_
      refine V_al0 20 d_Mo_recorded_19 rfl ?_
      refine V_iconst 21 (v := 0) (by decide) d_Mo_recorded_20 rfl ?_
      refine V_puti 24 21 (lM hM) kc_Mo (by decide) fl_Mo_103 (Or.inl rfl) rfl rfl rfl rfl d_Mo_recorded_21 rfl ?_
      refine V_iconst 25 (v := 0) (by decide) d_Mo_recorded_24 rfl ?_
      exact V_zret rfl rfl d_Mo_recorded_25 (by have g : pOut M := ⟨h4, h11⟩; exact ⟨by rw [bi_f (not_not_intro g)], rfl, by rw [rcM, if_pos g]⟩)
def mF (M : gMe) : gMe := gst M 400 2 0
theorem mF_at (M : gMe) {a k : Nat} (h : ¬ (a = 400 ∧ k = 2)) : mF M a k = M a k := by
  unfold mF
  rw [gst_at]
  by_cases ha : a = 400
  · subst ha
    rw [if_pos rfl, if_neg (fun e => h ⟨rfl, e⟩)]
  · rw [if_neg ha]
theorem mF_ne (M : gMe) {a : Nat} (h : a ≠ 400) : mF M a = M a := gst_ne _ _ _ _ h
def mfu (M : gMe) (n : Int32) : gMe := if pIn n 0 50 then gst (gst (mF M) 400 3 1) 400 4 n else mF M
set_option maxRecDepth 100000 in
set_option maxHeartbeats 4000000 in
theorem c_Mo_fuse (l : Launch) (G : gG) (L : gLy) (M : gMe) (hM : gLM L) (n : Int32) : gMet l G y_Mo_fuse b_Mo_fuse 2 (some FieldType.boolean) (rmL 2 0 0) [.ref 400, .int n] L M gAll (gPo (some (.int (bi (pIn n 0 50)))) L (mfu M n)) 0 0 := by
  refine gMet_of (lv := [some (.ref 400), some (.int n)]) (by decide) rfl (Nat.le_of_ble_eq_true rfl) rfl ?_
  refine V_al0 1 d_Mo_fuse_0 rfl ?_
  refine V_iconst 2 (v := 0) (by decide) d_Mo_fuse_1 rfl ?_
  refine V_puti 5 2 (lM hM) kc_Mo (by decide) fl_Mo_93 (Or.inl rfl) rfl rfl rfl rfl d_Mo_fuse_2 rfl ?_
  refine V_il1 6 d_Mo_fuse_5 rfl ?_
  refine V_iconst 7 (v := 0) (by decide) d_Mo_fuse_6 rfl ?_
  refine V_bipush 9 (v := 50) (by decide) d_Mo_fuse_7 rfl ?_
  refine V_cS1 12 (c_Mo_in l G _ _ _ _ _) ok_Mo_in ml_Mo_106 st_Mo_in (gRm_ok (by decide) (by decide)) rfl rfl (Nat.le_of_ble_eq_true rfl) d_Mo_fuse_9 ⟨Nat.le_of_ble_eq_true rfl, Nat.le_of_ble_eq_true rfl⟩ rfl ?_
  refine V_bn 17 15 d_Mo_fuse_12 (by decide) rfl (fun h12 => ?_) (fun h12 => ?_)
  · refine V_al0 18 d_Mo_fuse_17 rfl ?_
    refine V_iconst 19 (v := 1) (by decide) d_Mo_fuse_18 rfl ?_
    refine V_puti 22 3 (lM hM) kc_Mo (by decide) fl_Mo_96 (Or.inl rfl) rfl rfl rfl rfl d_Mo_fuse_19 rfl ?_
    refine V_al0 23 d_Mo_fuse_22 rfl ?_
    refine V_il1 24 d_Mo_fuse_23 rfl ?_
    refine V_puti 27 4 (lM hM) kc_Mo (by decide) fl_Mo_100 (Or.inl rfl) rfl rfl rfl rfl d_Mo_fuse_24 rfl ?_
    refine V_iconst 28 (v := 1) (by decide) d_Mo_fuse_27 rfl ?_
    exact V_zret rfl rfl d_Mo_fuse_28 ⟨by rw [bi_t h12], rfl, by rw [mfu, if_pos h12]; rfl⟩
  · refine V_iconst 16 (v := 0) (by decide) d_Mo_fuse_15 rfl ?_
    exact V_zret rfl rfl d_Mo_fuse_16 ⟨by rw [bi_f h12], rfl, by rw [mfu, if_neg h12]; rfl⟩
set_option maxRecDepth 100000 in
set_option maxHeartbeats 4000000 in
theorem c_Mo_mix (l : Launch) (G : gG) (L : gLy) (M : gMe) (m v : Int32) : gMet l G y_Mo_mix b_Mo_mix 3 (some FieldType.int) (rmL 1 0 0) [.int m, .int v] L M gAll (gPo (some (.int (crMix m v))) L M) 0 0 := by
  refine gMet_of (lv := [some (.int m), some (.int v), none]) (by decide) rfl (Nat.le_of_ble_eq_true rfl) rfl ?_
  refine V_il0 1 d_Mo_mix_0 rfl ?_
  refine V_il1 2 d_Mo_mix_1 rfl ?_
  refine V_ixor 3 d_Mo_mix_2 rfl ?_
  refine V_ldc 5 ct_Mo_110 d_Mo_mix_3 rfl ?_
  refine V_imul 6 d_Mo_mix_5 rfl ?_
  refine V_is2 7 d_Mo_mix_6 (by decide) rfl ?_
  refine V_il2 8 d_Mo_mix_7 rfl ?_
  refine V_il2 9 d_Mo_mix_8 rfl ?_
  refine V_bipush 11 (v := 15) (by decide) d_Mo_mix_9 rfl ?_
  refine V_iushr 12 d_Mo_mix_11 rfl ?_
  refine V_ixor 13 d_Mo_mix_12 rfl ?_
  exact V_iret rfl d_Mo_mix_13 ⟨rfl, rfl, rfl⟩
def slB (k b : Int32) : Int32 := if k = 1 then 0 else b
def slC (k c : Int32) : Int32 := if k = 1 ∨ k = 3 then 0 else c
def slD (k d : Int32) : Int32 := if k = 0 ∨ k = 1 ∨ k = 3 then 0 else d
/-- the mark of six numbers and two times -/
def mrk (i k a b c d f t : Int32) : Int32 := crMix (crMix (crMix (crMix (crMix (crMix (crMix (crMix 0 i) k) a) b) c) d) f) t
def slR (s i k a b c d f t : Int32) : Int32 := (mrk i k a (slB k b) (slC k c) (slD k d) f t ^^^ (s + 97 * i)) * 668265263
set_option maxRecDepth 100000 in
set_option maxHeartbeats 4000000 in
theorem c_Mo_seal (l : Launch) (G : gG) (L : gLy) (M : gMe) (hM : gLM L) (i k a b c d f t : Int32) : gMet l G y_Mo_seal b_Mo_seal 10 (some FieldType.int) (rmL 2 0 0) [.ref 400, .int i, .int k, .int a, .int b, .int c, .int d, .int f, .int t] L M gAll (gPo (some (.int (slR (M 400 0) i k a b c d f t))) L (mF M)) 0 0 := by
  refine gMet_of (lv := [some (.ref 400), some (.int i), some (.int k), some (.int a), some (.int b), some (.int c), some (.int d), some (.int f), some (.int t), none]) (by decide) rfl (Nat.le_of_ble_eq_true rfl) rfl ?_
  refine V_al0 1 d_Mo_seal_0 rfl ?_
  refine V_iconst 2 (v := 0) (by decide) d_Mo_seal_1 rfl ?_
  refine V_puti 5 2 (lM hM) kc_Mo (by decide) fl_Mo_93 (Or.inl rfl) rfl rfl rfl rfl d_Mo_seal_2 rfl ?_
  refine V_iconst 6 (v := 0) (by decide) d_Mo_seal_5 rfl ?_
  refine V_il1 7 d_Mo_seal_6 rfl ?_
  refine V_cS1 10 (c_Mo_mix l G _ _ _ _) ok_Mo_mix ml_Mo_111 st_Mo_mix (gRm_ok (by decide) (by decide)) rfl rfl (Nat.le_of_ble_eq_true rfl) d_Mo_seal_7 ⟨Nat.le_of_ble_eq_true rfl, Nat.le_of_ble_eq_true rfl⟩ rfl ?_
  refine V_il2 11 d_Mo_seal_10 rfl ?_
  refine V_cS1 14 (c_Mo_mix l G _ _ _ _) ok_Mo_mix ml_Mo_111 st_Mo_mix (gRm_ok (by decide) (by decide)) rfl rfl (Nat.le_of_ble_eq_true rfl) d_Mo_seal_11 ⟨Nat.le_of_ble_eq_true rfl, Nat.le_of_ble_eq_true rfl⟩ rfl ?_
  refine V_is9 16 d_Mo_seal_14 (by decide) rfl ?_
  refine V_il9 18 d_Mo_seal_16 rfl ?_
  refine V_il3 19 d_Mo_seal_18 rfl ?_
  refine V_cS1 22 (c_Mo_mix l G _ _ _ _) ok_Mo_mix ml_Mo_111 st_Mo_mix (gRm_ok (by decide) (by decide)) rfl rfl (Nat.le_of_ble_eq_true rfl) d_Mo_seal_19 ⟨Nat.le_of_ble_eq_true rfl, Nat.le_of_ble_eq_true rfl⟩ rfl ?_
  refine V_is9 24 d_Mo_seal_22 (by decide) rfl ?_
  refine V_il9 26 d_Mo_seal_24 rfl ?_
  refine V_il2 27 d_Mo_seal_26 rfl ?_
  refine V_iconst 28 (v := 1) (by decide) d_Mo_seal_27 rfl ?_
  refine V_icmp_ne 35 31 d_Mo_seal_28 (by decide) rfl (fun h28 => ?_) (fun h28 => ?_)
  · refine V_il4 37 d_Mo_seal_35 rfl ?_
    refine V_topi (z := slB k b) (by rw [slB, if_neg h28]) ?_
    refine V_cS1 40 (c_Mo_mix l G _ _ _ _) ok_Mo_mix ml_Mo_111 st_Mo_mix (gRm_ok (by decide) (by decide)) rfl rfl (Nat.le_of_ble_eq_true rfl) d_Mo_seal_37 ⟨Nat.le_of_ble_eq_true rfl, Nat.le_of_ble_eq_true rfl⟩ rfl ?_
    refine V_is9 42 d_Mo_seal_40 (by decide) rfl ?_
    refine V_il9 44 d_Mo_seal_42 rfl ?_
    refine V_il2 45 d_Mo_seal_44 rfl ?_
    refine V_iconst 46 (v := 1) (by decide) d_Mo_seal_45 rfl ?_
    refine V_icmp_eq 54 49 d_Mo_seal_46 (by decide) rfl (fun h9 => absurd h9 h28) (fun _ => ?_)
    refine V_il2 50 d_Mo_seal_49 rfl ?_
    refine V_iconst 51 (v := 3) (by decide) d_Mo_seal_50 rfl ?_
    refine V_icmp_ne 58 54 d_Mo_seal_51 (by decide) rfl (fun h51 => ?_) (fun h51 => ?_)
    · refine V_il5 60 d_Mo_seal_58 rfl ?_
      refine V_topi (z := slC k c) (by rw [slC, if_neg (fun h => h.elim h28 h51)]) ?_
      refine V_cS1 63 (c_Mo_mix l G _ _ _ _) ok_Mo_mix ml_Mo_111 st_Mo_mix (gRm_ok (by decide) (by decide)) rfl rfl (Nat.le_of_ble_eq_true rfl) d_Mo_seal_60 ⟨Nat.le_of_ble_eq_true rfl, Nat.le_of_ble_eq_true rfl⟩ rfl ?_
      refine V_is9 65 d_Mo_seal_63 (by decide) rfl ?_
      refine V_il9 67 d_Mo_seal_65 rfl ?_
      refine V_il2 68 d_Mo_seal_67 rfl ?_
      refine V_if_eq 81 71 d_Mo_seal_68 (by decide) rfl (fun h68 => ?_) (fun h68 => ?_)
      · refine V_iconst 82 (v := 0) (by decide) d_Mo_seal_81 rfl ?_
        refine V_goto 87 d_Mo_seal_82 (by decide) ?_
        refine V_topi (z := slD k d) (by rw [slD, if_pos (Or.inl h68)]) ?_
        refine V_cS1 90 (c_Mo_mix l G _ _ _ _) ok_Mo_mix ml_Mo_111 st_Mo_mix (gRm_ok (by decide) (by decide)) rfl rfl (Nat.le_of_ble_eq_true rfl) d_Mo_seal_87 ⟨Nat.le_of_ble_eq_true rfl, Nat.le_of_ble_eq_true rfl⟩ rfl ?_
        refine V_is9 92 d_Mo_seal_90 (by decide) rfl ?_
        refine V_il9 94 d_Mo_seal_92 rfl ?_
        refine V_il7 96 d_Mo_seal_94 rfl ?_
        refine V_cS1 99 (c_Mo_mix l G _ _ _ _) ok_Mo_mix ml_Mo_111 st_Mo_mix (gRm_ok (by decide) (by decide)) rfl rfl (Nat.le_of_ble_eq_true rfl) d_Mo_seal_96 ⟨Nat.le_of_ble_eq_true rfl, Nat.le_of_ble_eq_true rfl⟩ rfl ?_
        refine V_il8 101 d_Mo_seal_99 rfl ?_
        refine V_cS1 104 (c_Mo_mix l G _ _ _ _) ok_Mo_mix ml_Mo_111 st_Mo_mix (gRm_ok (by decide) (by decide)) rfl rfl (Nat.le_of_ble_eq_true rfl) d_Mo_seal_101 ⟨Nat.le_of_ble_eq_true rfl, Nat.le_of_ble_eq_true rfl⟩ rfl ?_
        refine V_is9 106 d_Mo_seal_104 (by decide) rfl ?_
        refine V_il9 108 d_Mo_seal_106 rfl ?_
        refine V_al0 109 d_Mo_seal_108 rfl ?_
        refine V_geti 112 0 (lM hM) kc_Mo (by decide) fl_Mo_89 (Or.inl rfl) rfl d_Mo_seal_109 rfl ?_
        refine V_topi (z := M 400 0) (by simp [gst_at]) ?_
        refine V_bipush 114 (v := 97) (by decide) d_Mo_seal_112 rfl ?_
        refine V_il1 115 d_Mo_seal_114 rfl ?_
        refine V_imul 116 d_Mo_seal_115 rfl ?_
        refine V_iadd 117 d_Mo_seal_116 rfl ?_
        refine V_ixor 118 d_Mo_seal_117 rfl ?_
        refine V_ldc 120 ct_Mo_115 d_Mo_seal_118 rfl ?_
        refine V_imul 121 d_Mo_seal_120 rfl ?_
        exact V_iret rfl d_Mo_seal_121 ⟨rfl, rfl, rfl⟩
      · refine V_il2 72 d_Mo_seal_71 rfl ?_
        refine V_iconst 73 (v := 1) (by decide) d_Mo_seal_72 rfl ?_
        refine V_icmp_eq 81 76 d_Mo_seal_73 (by decide) rfl (fun h9 => absurd h9 h28) (fun _ => ?_)
        refine V_il2 77 d_Mo_seal_76 rfl ?_
        refine V_iconst 78 (v := 3) (by decide) d_Mo_seal_77 rfl ?_
        refine V_icmp_ne 85 81 d_Mo_seal_78 (by decide) rfl (fun _ => ?_) (fun h9 => absurd h9 h51)
        refine V_il6 87 d_Mo_seal_85 rfl ?_
        refine V_topi (z := slD k d) (by rw [slD, if_neg (fun h => h.elim h68 (fun h => h.elim h28 h51))]) ?_
        refine V_cS1 90 (c_Mo_mix l G _ _ _ _) ok_Mo_mix ml_Mo_111 st_Mo_mix (gRm_ok (by decide) (by decide)) rfl rfl (Nat.le_of_ble_eq_true rfl) d_Mo_seal_87 ⟨Nat.le_of_ble_eq_true rfl, Nat.le_of_ble_eq_true rfl⟩ rfl ?_
        refine V_is9 92 d_Mo_seal_90 (by decide) rfl ?_
        refine V_il9 94 d_Mo_seal_92 rfl ?_
        refine V_il7 96 d_Mo_seal_94 rfl ?_
        refine V_cS1 99 (c_Mo_mix l G _ _ _ _) ok_Mo_mix ml_Mo_111 st_Mo_mix (gRm_ok (by decide) (by decide)) rfl rfl (Nat.le_of_ble_eq_true rfl) d_Mo_seal_96 ⟨Nat.le_of_ble_eq_true rfl, Nat.le_of_ble_eq_true rfl⟩ rfl ?_
        refine V_il8 101 d_Mo_seal_99 rfl ?_
        refine V_cS1 104 (c_Mo_mix l G _ _ _ _) ok_Mo_mix ml_Mo_111 st_Mo_mix (gRm_ok (by decide) (by decide)) rfl rfl (Nat.le_of_ble_eq_true rfl) d_Mo_seal_101 ⟨Nat.le_of_ble_eq_true rfl, Nat.le_of_ble_eq_true rfl⟩ rfl ?_
        refine V_is9 106 d_Mo_seal_104 (by decide) rfl ?_
        refine V_il9 108 d_Mo_seal_106 rfl ?_
        refine V_al0 109 d_Mo_seal_108 rfl ?_
        refine V_geti 112 0 (lM hM) kc_Mo (by decide) fl_Mo_89 (Or.inl rfl) rfl d_Mo_seal_109 rfl ?_
        refine V_topi (z := M 400 0) (by simp [gst_at]) ?_
        refine V_bipush 114 (v := 97) (by decide) d_Mo_seal_112 rfl ?_
        refine V_il1 115 d_Mo_seal_114 rfl ?_
        refine V_imul 116 d_Mo_seal_115 rfl ?_
        refine V_iadd 117 d_Mo_seal_116 rfl ?_
        refine V_ixor 118 d_Mo_seal_117 rfl ?_
        refine V_ldc 120 ct_Mo_115 d_Mo_seal_118 rfl ?_
        refine V_imul 121 d_Mo_seal_120 rfl ?_
        exact V_iret rfl d_Mo_seal_121 ⟨rfl, rfl, rfl⟩
    · refine V_iconst 55 (v := 0) (by decide) d_Mo_seal_54 rfl ?_
      refine V_goto 60 d_Mo_seal_55 (by decide) ?_
      refine V_topi (z := slC k c) (by rw [slC, if_pos (Or.inr h51)]) ?_
      refine V_cS1 63 (c_Mo_mix l G _ _ _ _) ok_Mo_mix ml_Mo_111 st_Mo_mix (gRm_ok (by decide) (by decide)) rfl rfl (Nat.le_of_ble_eq_true rfl) d_Mo_seal_60 ⟨Nat.le_of_ble_eq_true rfl, Nat.le_of_ble_eq_true rfl⟩ rfl ?_
      refine V_is9 65 d_Mo_seal_63 (by decide) rfl ?_
      refine V_il9 67 d_Mo_seal_65 rfl ?_
      refine V_il2 68 d_Mo_seal_67 rfl ?_
      refine V_if_eq 81 71 d_Mo_seal_68 (by decide) rfl (fun h9 => absurd h9 (by rw [h51]; decide)) (fun _ => ?_)
      refine V_il2 72 d_Mo_seal_71 rfl ?_
      refine V_iconst 73 (v := 1) (by decide) d_Mo_seal_72 rfl ?_
      refine V_icmp_eq 81 76 d_Mo_seal_73 (by decide) rfl (fun h9 => absurd h9 h28) (fun _ => ?_)
      refine V_il2 77 d_Mo_seal_76 rfl ?_
      refine V_iconst 78 (v := 3) (by decide) d_Mo_seal_77 rfl ?_
      refine V_icmp_ne 85 81 d_Mo_seal_78 (by decide) rfl (fun h9 => absurd h9 (not_not_intro h51)) (fun _ => ?_)
      refine V_iconst 82 (v := 0) (by decide) d_Mo_seal_81 rfl ?_
      refine V_goto 87 d_Mo_seal_82 (by decide) ?_
      refine V_topi (z := slD k d) (by rw [slD, if_pos (Or.inr (Or.inr h51))]) ?_
      refine V_cS1 90 (c_Mo_mix l G _ _ _ _) ok_Mo_mix ml_Mo_111 st_Mo_mix (gRm_ok (by decide) (by decide)) rfl rfl (Nat.le_of_ble_eq_true rfl) d_Mo_seal_87 ⟨Nat.le_of_ble_eq_true rfl, Nat.le_of_ble_eq_true rfl⟩ rfl ?_
      refine V_is9 92 d_Mo_seal_90 (by decide) rfl ?_
      refine V_il9 94 d_Mo_seal_92 rfl ?_
      refine V_il7 96 d_Mo_seal_94 rfl ?_
      refine V_cS1 99 (c_Mo_mix l G _ _ _ _) ok_Mo_mix ml_Mo_111 st_Mo_mix (gRm_ok (by decide) (by decide)) rfl rfl (Nat.le_of_ble_eq_true rfl) d_Mo_seal_96 ⟨Nat.le_of_ble_eq_true rfl, Nat.le_of_ble_eq_true rfl⟩ rfl ?_
      refine V_il8 101 d_Mo_seal_99 rfl ?_
      refine V_cS1 104 (c_Mo_mix l G _ _ _ _) ok_Mo_mix ml_Mo_111 st_Mo_mix (gRm_ok (by decide) (by decide)) rfl rfl (Nat.le_of_ble_eq_true rfl) d_Mo_seal_101 ⟨Nat.le_of_ble_eq_true rfl, Nat.le_of_ble_eq_true rfl⟩ rfl ?_
      refine V_is9 106 d_Mo_seal_104 (by decide) rfl ?_
      refine V_il9 108 d_Mo_seal_106 rfl ?_
      refine V_al0 109 d_Mo_seal_108 rfl ?_
      refine V_geti 112 0 (lM hM) kc_Mo (by decide) fl_Mo_89 (Or.inl rfl) rfl d_Mo_seal_109 rfl ?_
      refine V_topi (z := M 400 0) (by simp [gst_at]) ?_
      refine V_bipush 114 (v := 97) (by decide) d_Mo_seal_112 rfl ?_
      refine V_il1 115 d_Mo_seal_114 rfl ?_
      refine V_imul 116 d_Mo_seal_115 rfl ?_
      refine V_iadd 117 d_Mo_seal_116 rfl ?_
      refine V_ixor 118 d_Mo_seal_117 rfl ?_
      refine V_ldc 120 ct_Mo_115 d_Mo_seal_118 rfl ?_
      refine V_imul 121 d_Mo_seal_120 rfl ?_
      exact V_iret rfl d_Mo_seal_121 ⟨rfl, rfl, rfl⟩
  · refine V_iconst 32 (v := 0) (by decide) d_Mo_seal_31 rfl ?_
    refine V_goto 37 d_Mo_seal_32 (by decide) ?_
    refine V_topi (z := slB k b) (by rw [slB, if_pos h28]) ?_
    refine V_cS1 40 (c_Mo_mix l G _ _ _ _) ok_Mo_mix ml_Mo_111 st_Mo_mix (gRm_ok (by decide) (by decide)) rfl rfl (Nat.le_of_ble_eq_true rfl) d_Mo_seal_37 ⟨Nat.le_of_ble_eq_true rfl, Nat.le_of_ble_eq_true rfl⟩ rfl ?_
    refine V_is9 42 d_Mo_seal_40 (by decide) rfl ?_
    refine V_il9 44 d_Mo_seal_42 rfl ?_
    refine V_il2 45 d_Mo_seal_44 rfl ?_
    refine V_iconst 46 (v := 1) (by decide) d_Mo_seal_45 rfl ?_
    refine V_icmp_eq 54 49 d_Mo_seal_46 (by decide) rfl (fun _ => ?_) (fun h9 => absurd h28 h9)
    refine V_iconst 55 (v := 0) (by decide) d_Mo_seal_54 rfl ?_
    refine V_goto 60 d_Mo_seal_55 (by decide) ?_
    refine V_topi (z := slC k c) (by rw [slC, if_pos (Or.inl h28)]) ?_
    refine V_cS1 63 (c_Mo_mix l G _ _ _ _) ok_Mo_mix ml_Mo_111 st_Mo_mix (gRm_ok (by decide) (by decide)) rfl rfl (Nat.le_of_ble_eq_true rfl) d_Mo_seal_60 ⟨Nat.le_of_ble_eq_true rfl, Nat.le_of_ble_eq_true rfl⟩ rfl ?_
    refine V_is9 65 d_Mo_seal_63 (by decide) rfl ?_
    refine V_il9 67 d_Mo_seal_65 rfl ?_
    refine V_il2 68 d_Mo_seal_67 rfl ?_
    refine V_if_eq 81 71 d_Mo_seal_68 (by decide) rfl (fun h9 => absurd h9 (by rw [h28]; decide)) (fun _ => ?_)
    refine V_il2 72 d_Mo_seal_71 rfl ?_
    refine V_iconst 73 (v := 1) (by decide) d_Mo_seal_72 rfl ?_
    refine V_icmp_eq 81 76 d_Mo_seal_73 (by decide) rfl (fun _ => ?_) (fun h9 => absurd h28 h9)
    refine V_iconst 82 (v := 0) (by decide) d_Mo_seal_81 rfl ?_
    refine V_goto 87 d_Mo_seal_82 (by decide) ?_
    refine V_topi (z := slD k d) (by rw [slD, if_pos (Or.inr (Or.inl h28))]) ?_
    refine V_cS1 90 (c_Mo_mix l G _ _ _ _) ok_Mo_mix ml_Mo_111 st_Mo_mix (gRm_ok (by decide) (by decide)) rfl rfl (Nat.le_of_ble_eq_true rfl) d_Mo_seal_87 ⟨Nat.le_of_ble_eq_true rfl, Nat.le_of_ble_eq_true rfl⟩ rfl ?_
    refine V_is9 92 d_Mo_seal_90 (by decide) rfl ?_
    refine V_il9 94 d_Mo_seal_92 rfl ?_
    refine V_il7 96 d_Mo_seal_94 rfl ?_
    refine V_cS1 99 (c_Mo_mix l G _ _ _ _) ok_Mo_mix ml_Mo_111 st_Mo_mix (gRm_ok (by decide) (by decide)) rfl rfl (Nat.le_of_ble_eq_true rfl) d_Mo_seal_96 ⟨Nat.le_of_ble_eq_true rfl, Nat.le_of_ble_eq_true rfl⟩ rfl ?_
    refine V_il8 101 d_Mo_seal_99 rfl ?_
    refine V_cS1 104 (c_Mo_mix l G _ _ _ _) ok_Mo_mix ml_Mo_111 st_Mo_mix (gRm_ok (by decide) (by decide)) rfl rfl (Nat.le_of_ble_eq_true rfl) d_Mo_seal_101 ⟨Nat.le_of_ble_eq_true rfl, Nat.le_of_ble_eq_true rfl⟩ rfl ?_
    refine V_is9 106 d_Mo_seal_104 (by decide) rfl ?_
    refine V_il9 108 d_Mo_seal_106 rfl ?_
    refine V_al0 109 d_Mo_seal_108 rfl ?_
    refine V_geti 112 0 (lM hM) kc_Mo (by decide) fl_Mo_89 (Or.inl rfl) rfl d_Mo_seal_109 rfl ?_
    refine V_topi (z := M 400 0) (by simp [gst_at]) ?_
    refine V_bipush 114 (v := 97) (by decide) d_Mo_seal_112 rfl ?_
    refine V_il1 115 d_Mo_seal_114 rfl ?_
    refine V_imul 116 d_Mo_seal_115 rfl ?_
    refine V_iadd 117 d_Mo_seal_116 rfl ?_
    refine V_ixor 118 d_Mo_seal_117 rfl ?_
    refine V_ldc 120 ct_Mo_115 d_Mo_seal_118 rfl ?_
    refine V_imul 121 d_Mo_seal_120 rfl ?_
    exact V_iret rfl d_Mo_seal_121 ⟨rfl, rfl, rfl⟩
set_option maxRecDepth 100000 in
set_option maxHeartbeats 4000000 in
theorem c_Mo_set (l : Launch) (G : gG) (L : gLy) (M : gMe) (hM : gLM L) (a b c d : Int32) : gMet l G y_Mo_set b_Mo_set 5 none (rmL 1 0 0) [.ref 400, .int a, .int b, .int c, .int d] L M gAll (gPo none L (gst (gst (gst (gst (mF M) 413 0 a) 413 1 b) 413 2 c) 413 3 d)) 0 0 := by
  refine gMet_of (lv := [some (.ref 400), some (.int a), some (.int b), some (.int c), some (.int d)]) (by decide) rfl (Nat.le_of_ble_eq_true rfl) rfl ?_
  refine V_al0 1 d_Mo_set_0 rfl ?_
  refine V_iconst 2 (v := 0) (by decide) d_Mo_set_1 rfl ?_
  refine V_puti 5 2 (lM hM) kc_Mo (by decide) fl_Mo_93 (Or.inl rfl) rfl rfl rfl rfl d_Mo_set_2 rfl ?_
  refine V_al0 6 d_Mo_set_5 rfl ?_
  refine V_getr 9 20 (lM hM) kc_Mo (by decide) fl_Mo_47 (Or.inl rfl) rfl d_Mo_set_6 rfl ?_
  refine V_iconst 10 (v := 0) (by decide) d_Mo_set_9 rfl ?_
  refine V_il1 11 d_Mo_set_10 rfl ?_
  refine V_iasn 12 (0) (lM413 hM) rfl (by decide) (by decide) d_Mo_set_11 rfl ?_
  refine V_al0 13 d_Mo_set_12 rfl ?_
  refine V_getr 16 20 (lM hM) kc_Mo (by decide) fl_Mo_47 (Or.inl rfl) rfl d_Mo_set_13 rfl ?_
  refine V_iconst 17 (v := 1) (by decide) d_Mo_set_16 rfl ?_
  refine V_il2 18 d_Mo_set_17 rfl ?_
  refine V_iasn 19 (1) (lM413 hM) rfl (by decide) (by decide) d_Mo_set_18 rfl ?_
  refine V_al0 20 d_Mo_set_19 rfl ?_
  refine V_getr 23 20 (lM hM) kc_Mo (by decide) fl_Mo_47 (Or.inl rfl) rfl d_Mo_set_20 rfl ?_
  refine V_iconst 24 (v := 2) (by decide) d_Mo_set_23 rfl ?_
  refine V_il3 25 d_Mo_set_24 rfl ?_
  refine V_iasn 26 (2) (lM413 hM) rfl (by decide) (by decide) d_Mo_set_25 rfl ?_
  refine V_al0 27 d_Mo_set_26 rfl ?_
  refine V_getr 30 20 (lM hM) kc_Mo (by decide) fl_Mo_47 (Or.inl rfl) rfl d_Mo_set_27 rfl ?_
  refine V_iconst 31 (v := 3) (by decide) d_Mo_set_30 rfl ?_
  refine V_il4 33 d_Mo_set_31 rfl ?_
  refine V_iasn 34 (3) (lM413 hM) rfl (by decide) (by decide) d_Mo_set_33 rfl ?_
  exact V_vret rfl d_Mo_set_34 ⟨rfl, rfl, rfl⟩
abbrev pFit (M : gMe) (k : Int32) : Prop := (k = 0 ∧ pIn (M 413 0) 0 5 ∧ pIn (M 413 1) 0 3 ∧ pIn (M 413 2) 0 5) ∨ (k = 1 ∧ pIn (M 413 0) 0 5) ∨ (k = 3 ∧ pIn (M 413 0) 0 3 ∧ pIn (M 413 1) 0 3) ∨ (k = 2 ∧ pIn (M 413 0) 0 5 ∧ pIn (M 413 1) 0 3 ∧ pIn (M 413 2) 0 5 ∧ pIn (M 413 3) 0 3)
set_option maxRecDepth 100000 in
set_option maxHeartbeats 4000000 in
theorem c_Mo_isFit (l : Launch) (G : gG) (L : gLy) (M : gMe) (hM : gLM L) (k : Int32) : gMet l G y_Mo_isFit b_Mo_isFit 2 (some FieldType.boolean) (rmL 3 0 0) [.ref 400, .int k] L M gAll (gPo (some (.int (bi (pFit M k)))) L M) 0 0 := by
  refine gMet_of (lv := [some (.ref 400), some (.int k)]) (by decide) rfl (Nat.le_of_ble_eq_true rfl) rfl ?_
  refine V_il1 1 d_Mo_isFit_0 rfl ?_
  refine V_if_ne 48 4 d_Mo_isFit_1 (by decide) rfl (fun h1 => ?_) (fun h1 => ?_)
  · refine V_il1 49 d_Mo_isFit_48 rfl ?_
    refine V_iconst 50 (v := 1) (by decide) d_Mo_isFit_49 rfl ?_
    refine V_icmp_ne 63 53 d_Mo_isFit_50 (by decide) rfl (fun h50 => ?_) (fun h50 => ?_)
    · refine V_il1 64 d_Mo_isFit_63 rfl ?_
      refine V_iconst 65 (v := 3) (by decide) d_Mo_isFit_64 rfl ?_
      refine V_icmp_ne 98 68 d_Mo_isFit_65 (by decide) rfl (fun h65 => ?_) (fun h65 => ?_)
      · refine V_il1 99 d_Mo_isFit_98 rfl ?_
        refine V_iconst 100 (v := 2) (by decide) d_Mo_isFit_99 rfl ?_
        refine V_icmp_ne 159 103 d_Mo_isFit_100 (by decide) rfl (fun h100 => ?_) (fun h100 => ?_)
        · refine V_iconst 160 (v := 0) (by decide) d_Mo_isFit_159 rfl ?_
          exact V_zret rfl rfl d_Mo_isFit_160 (gN (by rintro (⟨a, b⟩ | ⟨a, b⟩ | ⟨a, b⟩ | ⟨a, b⟩) <;> first | exact h1 a | exact h50 a | exact h65 a | exact h100 a))
        · refine V_al0 104 d_Mo_isFit_103 rfl ?_
          refine V_getr 107 20 (lM hM) kc_Mo (by decide) fl_Mo_47 (Or.inl rfl) rfl d_Mo_isFit_104 rfl ?_
          refine V_iconst 108 (v := 0) (by decide) d_Mo_isFit_107 rfl ?_
          refine V_ialn 109 (0) (lM413 hM) rfl (by decide) (by decide) d_Mo_isFit_108 rfl ?_
          refine V_cS1 112 (c_Mo_isPerson l G _ _ _) ok_Mo_isPerson ml_Mo_116 st_Mo_isPerson (gRm_ok (by decide) (by decide)) rfl rfl (Nat.le_of_ble_eq_true rfl) d_Mo_isFit_109 ⟨Nat.le_of_ble_eq_true rfl, Nat.le_of_ble_eq_true rfl⟩ rfl ?_
          refine V_bz 159 115 d_Mo_isFit_112 (by decide) rfl (fun h112 => ?_) (fun h112 => ?_)
          · refine V_iconst 160 (v := 0) (by decide) d_Mo_isFit_159 rfl ?_
            exact V_zret rfl rfl d_Mo_isFit_160 (by have hk : k = 2 := h100; exact gN (by rintro (⟨a, b⟩ | ⟨a, b⟩ | ⟨a, b⟩ | ⟨a, b⟩) <;> first | (rw [hk] at a; exact absurd a (by decide)) | exact h112 b.1))
          · refine V_al0 116 d_Mo_isFit_115 rfl ?_
            refine V_getr 119 20 (lM hM) kc_Mo (by decide) fl_Mo_47 (Or.inl rfl) rfl d_Mo_isFit_116 rfl ?_
            refine V_iconst 120 (v := 1) (by decide) d_Mo_isFit_119 rfl ?_
            refine V_ialn 121 (1) (lM413 hM) rfl (by decide) (by decide) d_Mo_isFit_120 rfl ?_
            refine V_cS1 124 (c_Mo_isRight l G _ _ _) ok_Mo_isRight ml_Mo_120 st_Mo_isRight (gRm_ok (by decide) (by decide)) rfl rfl (Nat.le_of_ble_eq_true rfl) d_Mo_isFit_121 ⟨Nat.le_of_ble_eq_true rfl, Nat.le_of_ble_eq_true rfl⟩ rfl ?_
            refine V_bz 159 127 d_Mo_isFit_124 (by decide) rfl (fun h124 => ?_) (fun h124 => ?_)
            · refine V_iconst 160 (v := 0) (by decide) d_Mo_isFit_159 rfl ?_
              exact V_zret rfl rfl d_Mo_isFit_160 (by have hk : k = 2 := h100; exact gN (by rintro (⟨a, b⟩ | ⟨a, b⟩ | ⟨a, b⟩ | ⟨a, b⟩) <;> first | (rw [hk] at a; exact absurd a (by decide)) | exact h124 b.2.1))
            · refine V_al0 128 d_Mo_isFit_127 rfl ?_
              refine V_getr 131 20 (lM hM) kc_Mo (by decide) fl_Mo_47 (Or.inl rfl) rfl d_Mo_isFit_128 rfl ?_
              refine V_iconst 132 (v := 2) (by decide) d_Mo_isFit_131 rfl ?_
              refine V_ialn 133 (2) (lM413 hM) rfl (by decide) (by decide) d_Mo_isFit_132 rfl ?_
              refine V_iconst 134 (v := 0) (by decide) d_Mo_isFit_133 rfl ?_
              refine V_iconst 135 (v := 5) (by decide) d_Mo_isFit_134 rfl ?_
              refine V_cS1 138 (c_Mo_in l G _ _ _ _ _) ok_Mo_in ml_Mo_106 st_Mo_in (gRm_ok (by decide) (by decide)) rfl rfl (Nat.le_of_ble_eq_true rfl) d_Mo_isFit_135 ⟨Nat.le_of_ble_eq_true rfl, Nat.le_of_ble_eq_true rfl⟩ rfl ?_
              refine V_bz 159 141 d_Mo_isFit_138 (by decide) rfl (fun h138 => ?_) (fun h138 => ?_)
              · refine V_iconst 160 (v := 0) (by decide) d_Mo_isFit_159 rfl ?_
                exact V_zret rfl rfl d_Mo_isFit_160 (by have hk : k = 2 := h100; exact gN (by rintro (⟨a, b⟩ | ⟨a, b⟩ | ⟨a, b⟩ | ⟨a, b⟩) <;> first | (rw [hk] at a; exact absurd a (by decide)) | exact h138 b.2.2.1))
              · refine V_al0 142 d_Mo_isFit_141 rfl ?_
                refine V_getr 145 20 (lM hM) kc_Mo (by decide) fl_Mo_47 (Or.inl rfl) rfl d_Mo_isFit_142 rfl ?_
                refine V_iconst 146 (v := 3) (by decide) d_Mo_isFit_145 rfl ?_
                refine V_ialn 147 (3) (lM413 hM) rfl (by decide) (by decide) d_Mo_isFit_146 rfl ?_
                refine V_iconst 148 (v := 0) (by decide) d_Mo_isFit_147 rfl ?_
                refine V_iconst 149 (v := 3) (by decide) d_Mo_isFit_148 rfl ?_
                refine V_cS1 152 (c_Mo_in l G _ _ _ _ _) ok_Mo_in ml_Mo_106 st_Mo_in (gRm_ok (by decide) (by decide)) rfl rfl (Nat.le_of_ble_eq_true rfl) d_Mo_isFit_149 ⟨Nat.le_of_ble_eq_true rfl, Nat.le_of_ble_eq_true rfl⟩ rfl ?_
                refine V_bz 159 155 d_Mo_isFit_152 (by decide) rfl (fun h152 => ?_) (fun h152 => ?_)
                · refine V_iconst 160 (v := 0) (by decide) d_Mo_isFit_159 rfl ?_
                  exact V_zret rfl rfl d_Mo_isFit_160 (by have hk : k = 2 := h100; exact gN (by rintro (⟨a, b⟩ | ⟨a, b⟩ | ⟨a, b⟩ | ⟨a, b⟩) <;> first | (rw [hk] at a; exact absurd a (by decide)) | exact h152 b.2.2.2))
                · refine V_iconst 156 (v := 1) (by decide) d_Mo_isFit_155 rfl ?_
                  refine V_goto 160 d_Mo_isFit_156 (by decide) ?_
                  exact V_zret rfl rfl d_Mo_isFit_160 (gT (Or.inr (Or.inr (Or.inr ⟨h100, h112, h124, h138, h152⟩))))
      · refine V_al0 69 d_Mo_isFit_68 rfl ?_
        refine V_getr 72 20 (lM hM) kc_Mo (by decide) fl_Mo_47 (Or.inl rfl) rfl d_Mo_isFit_69 rfl ?_
        refine V_iconst 73 (v := 0) (by decide) d_Mo_isFit_72 rfl ?_
        refine V_ialn 74 (0) (lM413 hM) rfl (by decide) (by decide) d_Mo_isFit_73 rfl ?_
        refine V_cS1 77 (c_Mo_isRight l G _ _ _) ok_Mo_isRight ml_Mo_120 st_Mo_isRight (gRm_ok (by decide) (by decide)) rfl rfl (Nat.le_of_ble_eq_true rfl) d_Mo_isFit_74 ⟨Nat.le_of_ble_eq_true rfl, Nat.le_of_ble_eq_true rfl⟩ rfl ?_
        refine V_bz 96 80 d_Mo_isFit_77 (by decide) rfl (fun h77 => ?_) (fun h77 => ?_)
        · refine V_iconst 97 (v := 0) (by decide) d_Mo_isFit_96 rfl ?_
          exact V_zret rfl rfl d_Mo_isFit_97 (by have hk : k = 3 := h65; exact gN (by rintro (⟨a, b⟩ | ⟨a, b⟩ | ⟨a, b⟩ | ⟨a, b⟩) <;> first | (rw [hk] at a; exact absurd a (by decide)) | exact h77 b.1))
        · refine V_al0 81 d_Mo_isFit_80 rfl ?_
          refine V_getr 84 20 (lM hM) kc_Mo (by decide) fl_Mo_47 (Or.inl rfl) rfl d_Mo_isFit_81 rfl ?_
          refine V_iconst 85 (v := 1) (by decide) d_Mo_isFit_84 rfl ?_
          refine V_ialn 86 (1) (lM413 hM) rfl (by decide) (by decide) d_Mo_isFit_85 rfl ?_
          refine V_cS1 89 (c_Mo_isRight l G _ _ _) ok_Mo_isRight ml_Mo_120 st_Mo_isRight (gRm_ok (by decide) (by decide)) rfl rfl (Nat.le_of_ble_eq_true rfl) d_Mo_isFit_86 ⟨Nat.le_of_ble_eq_true rfl, Nat.le_of_ble_eq_true rfl⟩ rfl ?_
          refine V_bz 96 92 d_Mo_isFit_89 (by decide) rfl (fun h89 => ?_) (fun h89 => ?_)
          · refine V_iconst 97 (v := 0) (by decide) d_Mo_isFit_96 rfl ?_
            exact V_zret rfl rfl d_Mo_isFit_97 (by have hk : k = 3 := h65; exact gN (by rintro (⟨a, b⟩ | ⟨a, b⟩ | ⟨a, b⟩ | ⟨a, b⟩) <;> first | (rw [hk] at a; exact absurd a (by decide)) | exact h89 b.2))
          · refine V_iconst 93 (v := 1) (by decide) d_Mo_isFit_92 rfl ?_
            refine V_goto 97 d_Mo_isFit_93 (by decide) ?_
            exact V_zret rfl rfl d_Mo_isFit_97 (gT (Or.inr (Or.inr (Or.inl ⟨h65, h77, h89⟩))))
    · refine V_al0 54 d_Mo_isFit_53 rfl ?_
      refine V_getr 57 20 (lM hM) kc_Mo (by decide) fl_Mo_47 (Or.inl rfl) rfl d_Mo_isFit_54 rfl ?_
      refine V_iconst 58 (v := 0) (by decide) d_Mo_isFit_57 rfl ?_
      refine V_ialn 59 (0) (lM413 hM) rfl (by decide) (by decide) d_Mo_isFit_58 rfl ?_
      refine V_cS1 62 (c_Mo_isPerson l G _ _ _) ok_Mo_isPerson ml_Mo_116 st_Mo_isPerson (gRm_ok (by decide) (by decide)) rfl rfl (Nat.le_of_ble_eq_true rfl) d_Mo_isFit_59 ⟨Nat.le_of_ble_eq_true rfl, Nat.le_of_ble_eq_true rfl⟩ rfl ?_
      exact V_zret rfl bi_n d_Mo_isFit_62 ⟨by rw [bi_c (show pIn (M 413 0) 0 5 ↔ pFit M k from ⟨fun h => Or.inr (Or.inl ⟨h50, h⟩), by have hk : k = 1 := h50; rintro (⟨a, b⟩ | ⟨a, b⟩ | ⟨a, b⟩ | ⟨a, b⟩) <;> first | exact b | (rw [hk] at a; exact absurd a (by decide))⟩)], rfl, rfl⟩
  · refine V_al0 5 d_Mo_isFit_4 rfl ?_
    refine V_getr 8 20 (lM hM) kc_Mo (by decide) fl_Mo_47 (Or.inl rfl) rfl d_Mo_isFit_5 rfl ?_
    refine V_iconst 9 (v := 0) (by decide) d_Mo_isFit_8 rfl ?_
    refine V_ialn 10 (0) (lM413 hM) rfl (by decide) (by decide) d_Mo_isFit_9 rfl ?_
    refine V_cS1 13 (c_Mo_isPerson l G _ _ _) ok_Mo_isPerson ml_Mo_116 st_Mo_isPerson (gRm_ok (by decide) (by decide)) rfl rfl (Nat.le_of_ble_eq_true rfl) d_Mo_isFit_10 ⟨Nat.le_of_ble_eq_true rfl, Nat.le_of_ble_eq_true rfl⟩ rfl ?_
    refine V_bz 46 16 d_Mo_isFit_13 (by decide) rfl (fun h13 => ?_) (fun h13 => ?_)
    · refine V_iconst 47 (v := 0) (by decide) d_Mo_isFit_46 rfl ?_
      exact V_zret rfl rfl d_Mo_isFit_47 (by have hk : k = 0 := h1; exact gN (by rintro (⟨a, b⟩ | ⟨a, b⟩ | ⟨a, b⟩ | ⟨a, b⟩) <;> first | (rw [hk] at a; exact absurd a (by decide)) | exact h13 b.1))
    · refine V_al0 17 d_Mo_isFit_16 rfl ?_
      refine V_getr 20 20 (lM hM) kc_Mo (by decide) fl_Mo_47 (Or.inl rfl) rfl d_Mo_isFit_17 rfl ?_
      refine V_iconst 21 (v := 1) (by decide) d_Mo_isFit_20 rfl ?_
      refine V_ialn 22 (1) (lM413 hM) rfl (by decide) (by decide) d_Mo_isFit_21 rfl ?_
      refine V_cS1 25 (c_Mo_isRight l G _ _ _) ok_Mo_isRight ml_Mo_120 st_Mo_isRight (gRm_ok (by decide) (by decide)) rfl rfl (Nat.le_of_ble_eq_true rfl) d_Mo_isFit_22 ⟨Nat.le_of_ble_eq_true rfl, Nat.le_of_ble_eq_true rfl⟩ rfl ?_
      refine V_bz 46 28 d_Mo_isFit_25 (by decide) rfl (fun h25 => ?_) (fun h25 => ?_)
      · refine V_iconst 47 (v := 0) (by decide) d_Mo_isFit_46 rfl ?_
        exact V_zret rfl rfl d_Mo_isFit_47 (by have hk : k = 0 := h1; exact gN (by rintro (⟨a, b⟩ | ⟨a, b⟩ | ⟨a, b⟩ | ⟨a, b⟩) <;> first | (rw [hk] at a; exact absurd a (by decide)) | exact h25 b.2.1))
      · refine V_al0 29 d_Mo_isFit_28 rfl ?_
        refine V_getr 32 20 (lM hM) kc_Mo (by decide) fl_Mo_47 (Or.inl rfl) rfl d_Mo_isFit_29 rfl ?_
        refine V_iconst 33 (v := 2) (by decide) d_Mo_isFit_32 rfl ?_
        refine V_ialn 34 (2) (lM413 hM) rfl (by decide) (by decide) d_Mo_isFit_33 rfl ?_
        refine V_iconst 35 (v := 0) (by decide) d_Mo_isFit_34 rfl ?_
        refine V_iconst 36 (v := 5) (by decide) d_Mo_isFit_35 rfl ?_
        refine V_cS1 39 (c_Mo_in l G _ _ _ _ _) ok_Mo_in ml_Mo_106 st_Mo_in (gRm_ok (by decide) (by decide)) rfl rfl (Nat.le_of_ble_eq_true rfl) d_Mo_isFit_36 ⟨Nat.le_of_ble_eq_true rfl, Nat.le_of_ble_eq_true rfl⟩ rfl ?_
        refine V_bz 46 42 d_Mo_isFit_39 (by decide) rfl (fun h39 => ?_) (fun h39 => ?_)
        · refine V_iconst 47 (v := 0) (by decide) d_Mo_isFit_46 rfl ?_
          exact V_zret rfl rfl d_Mo_isFit_47 (by have hk : k = 0 := h1; exact gN (by rintro (⟨a, b⟩ | ⟨a, b⟩ | ⟨a, b⟩ | ⟨a, b⟩) <;> first | (rw [hk] at a; exact absurd a (by decide)) | exact h39 b.2.2))
        · refine V_iconst 43 (v := 1) (by decide) d_Mo_isFit_42 rfl ?_
          refine V_goto 47 d_Mo_isFit_43 (by decide) ?_
          exact V_zret rfl rfl d_Mo_isFit_47 (gT (Or.inl ⟨h1, h13, h25, h39⟩))
abbrev pHo (M : gMe) (n : Nat) : Prop := M 412 n = 0 ∧ ¬ M 400 1 < M 410 n ∧ ¬ M 411 n < M 400 1
set_option maxRecDepth 100000 in
set_option maxHeartbeats 4000000 in
theorem c_Mo_holds (l : Launch) (G : gG) (L : gLy) (M : gMe) (hM : gLM L) (c : Nat) (hcm : M 400 10 = nI c) (hc : c < 25) (n : Nat) (h1 : 1 ≤ n) (hn : n ≤ c) : gMet l G y_Mo_holds b_Mo_holds 2 (some FieldType.boolean) (rmL 2 0 0) [.ref 400, .int (nI n)] L M gAll (gPo (some (.int (bi (pHo M n)))) L M) 0 0 := by
  refine gMet_of (lv := [some (.ref 400), some (.int (nI n))]) (by decide) rfl (Nat.le_of_ble_eq_true rfl) rfl ?_
  refine V_il1 1 d_Mo_holds_0 rfl ?_
  refine V_iconst 2 (v := 1) (by decide) d_Mo_holds_1 rfl ?_
  refine V_al0 3 d_Mo_holds_2 rfl ?_
  refine V_geti 6 10 (lM hM) kc_Mo (by decide) fl_Mo_134 (Or.inl rfl) rfl d_Mo_holds_3 rfl ?_
  refine V_topi hcm ?_
  refine V_cS1 9 (c_Mo_in l G _ _ _ _ _) ok_Mo_in ml_Mo_106 st_Mo_in (gRm_ok (by decide) (by decide)) rfl rfl (Nat.le_of_ble_eq_true rfl) d_Mo_holds_6 ⟨Nat.le_of_ble_eq_true rfl, Nat.le_of_ble_eq_true rfl⟩ rfl ?_
  refine V_bz 51 12 d_Mo_holds_9 (by decide) rfl (fun h9 => absurd (pIn_nI1 h1 hn (by omega)) h9) (fun _ => ?_)
  refine V_al0 13 d_Mo_holds_12 rfl ?_
  refine V_getr 16 19 (lM hM) kc_Mo (by decide) fl_Mo_44 (Or.inl rfl) rfl d_Mo_holds_13 rfl ?_
  refine V_il1 17 d_Mo_holds_16 rfl ?_
  refine V_zaln 18 (n) (lM412 hM) rfl (by omega) (by decide) d_Mo_holds_17 rfl ?_
  refine V_if_ne 51 21 d_Mo_holds_18 (by decide) rfl (fun h18 => ?_) (fun h18 => ?_)
  · refine V_iconst 52 (v := 0) (by decide) d_Mo_holds_51 rfl ?_
    exact V_zret rfl rfl d_Mo_holds_52 (gN (fun h => h18 h.1))
  · refine V_al0 22 d_Mo_holds_21 rfl ?_
    refine V_geti 25 1 (lM hM) kc_Mo (by decide) fl_Mo_141 (Or.inl rfl) rfl d_Mo_holds_22 rfl ?_
    refine V_al0 26 d_Mo_holds_25 rfl ?_
    refine V_getr 29 17 (lM hM) kc_Mo (by decide) fl_Mo_38 (Or.inl rfl) rfl d_Mo_holds_26 rfl ?_
    refine V_il1 30 d_Mo_holds_29 rfl ?_
    refine V_ialn 31 (n) (lM410 hM) rfl (by omega) (by decide) d_Mo_holds_30 rfl ?_
    refine V_icmp_lt 51 34 d_Mo_holds_31 (by decide) rfl (fun h31 => ?_) (fun h31 => ?_)
    · refine V_iconst 52 (v := 0) (by decide) d_Mo_holds_51 rfl ?_
      exact V_zret rfl rfl d_Mo_holds_52 (gN (fun h => h.2.1 h31))
    · refine V_al0 35 d_Mo_holds_34 rfl ?_
      refine V_geti 38 1 (lM hM) kc_Mo (by decide) fl_Mo_141 (Or.inl rfl) rfl d_Mo_holds_35 rfl ?_
      refine V_al0 39 d_Mo_holds_38 rfl ?_
      refine V_getr 42 18 (lM hM) kc_Mo (by decide) fl_Mo_41 (Or.inl rfl) rfl d_Mo_holds_39 rfl ?_
      refine V_il1 43 d_Mo_holds_42 rfl ?_
      refine V_ialn 44 (n) (lM411 hM) rfl (by omega) (by decide) d_Mo_holds_43 rfl ?_
      refine V_icmp_gt 51 47 d_Mo_holds_44 (by decide) rfl (fun h44 => ?_) (fun h44 => ?_)
      · refine V_iconst 52 (v := 0) (by decide) d_Mo_holds_51 rfl ?_
        exact V_zret rfl rfl d_Mo_holds_52 (gN (fun h => h.2.2 h44))
      · refine V_iconst 48 (v := 1) (by decide) d_Mo_holds_47 rfl ?_
        refine V_goto 52 d_Mo_holds_48 (by decide) ?_
        exact V_zret rfl rfl d_Mo_holds_52 (gT ⟨h18, h31, h44⟩)
set_option maxRecDepth 100000 in
set_option maxHeartbeats 4000000 in
theorem c_Mo_holds_no (l : Launch) (G : gG) (L : gLy) (M : gMe) (hM : gLM L) (c : Nat) (hcm : M 400 10 = nI c) (hc : c < 25) (x : Int32) (hx : ¬ pIn x 1 (nI c)) : gMet l G y_Mo_holds b_Mo_holds 2 (some FieldType.boolean) (rmL 2 0 0) [.ref 400, .int x] L M gAll (gPo (some (.int 0)) L M) 0 0 := by
  refine gMet_of (lv := [some (.ref 400), some (.int x)]) (by decide) rfl (Nat.le_of_ble_eq_true rfl) rfl ?_
  refine V_il1 1 d_Mo_holds_0 rfl ?_
  refine V_iconst 2 (v := 1) (by decide) d_Mo_holds_1 rfl ?_
  refine V_al0 3 d_Mo_holds_2 rfl ?_
  refine V_geti 6 10 (lM hM) kc_Mo (by decide) fl_Mo_134 (Or.inl rfl) rfl d_Mo_holds_3 rfl ?_
  refine V_topi hcm ?_
  refine V_cS1 9 (c_Mo_in l G _ _ _ _ _) ok_Mo_in ml_Mo_106 st_Mo_in (gRm_ok (by decide) (by decide)) rfl rfl (Nat.le_of_ble_eq_true rfl) d_Mo_holds_6 ⟨Nat.le_of_ble_eq_true rfl, Nat.le_of_ble_eq_true rfl⟩ rfl ?_
  refine V_bz 51 12 d_Mo_holds_9 (by decide) rfl (fun _ => ?_) (fun h9 => absurd h9 hx)
  refine V_iconst 52 (v := 0) (by decide) d_Mo_holds_51 rfl ?_
  exact V_zret rfl rfl d_Mo_holds_52 ⟨rfl, rfl, rfl⟩
set_option maxRecDepth 100000 in
set_option maxHeartbeats 4000000 in
theorem c_Mo_may (l : Launch) (G : gG) (L : gLy) (M : gMe) (a x r : Int32) : gMet l G y_Mo_may b_Mo_may 3 (some FieldType.int) (rmL 1 0 0) [.int a, .int x, .int r] L M gAll (gPo (some (.int ((a * 6 + x) * 4 + r))) L M) 0 0 := by
  refine gMet_of (lv := [some (.int a), some (.int x), some (.int r)]) (by decide) rfl (Nat.le_of_ble_eq_true rfl) rfl ?_
  refine V_il0 1 d_Mo_may_0 rfl ?_
  refine V_bipush 3 (v := 6) (by decide) d_Mo_may_1 rfl ?_
  refine V_imul 4 d_Mo_may_3 rfl ?_
  refine V_il1 5 d_Mo_may_4 rfl ?_
  refine V_iadd 6 d_Mo_may_5 rfl ?_
  refine V_iconst 7 (v := 4) (by decide) d_Mo_may_6 rfl ?_
  refine V_imul 8 d_Mo_may_7 rfl ?_
  refine V_il2 9 d_Mo_may_8 rfl ?_
  refine V_iadd 10 d_Mo_may_9 rfl ?_
  exact V_iret rfl d_Mo_may_10 ⟨rfl, rfl, rfl⟩
set_option maxRecDepth 100000 in
set_option maxHeartbeats 4000000 in
theorem c_Mo_speaks (l : Launch) (G : gG) (L : gLy) (M : gMe) (b a : Int32) : gMet l G y_Mo_speaks b_Mo_speaks 2 (some FieldType.int) (rmL 1 0 0) [.int b, .int a] L M gAll (gPo (some (.int (144 + 6 * b + a))) L M) 0 0 := by
  refine gMet_of (lv := [some (.int b), some (.int a)]) (by decide) rfl (Nat.le_of_ble_eq_true rfl) rfl ?_
  refine V_sipush 3 (v := 144) (by decide) d_Mo_speaks_0 rfl ?_
  refine V_bipush 5 (v := 6) (by decide) d_Mo_speaks_3 rfl ?_
  refine V_il0 6 d_Mo_speaks_5 rfl ?_
  refine V_imul 7 d_Mo_speaks_6 rfl ?_
  refine V_iadd 8 d_Mo_speaks_7 rfl ?_
  refine V_il1 9 d_Mo_speaks_8 rfl ?_
  refine V_iadd 10 d_Mo_speaks_9 rfl ?_
  exact V_iret rfl d_Mo_speaks_10 ⟨rfl, rfl, rfl⟩
set_option maxRecDepth 100000 in
set_option maxHeartbeats 4000000 in
theorem c_Mo_trusts (l : Launch) (G : gG) (L : gLy) (M : gMe) (a b r d : Int32) : gMet l G y_Mo_trusts b_Mo_trusts 4 (some FieldType.int) (rmL 1 0 0) [.int a, .int b, .int r, .int d] L M gAll (gPo (some (.int (180 + ((a * 6 + b) * 4 + r) * 4 + d))) L M) 0 0 := by
  refine gMet_of (lv := [some (.int a), some (.int b), some (.int r), some (.int d)]) (by decide) rfl (Nat.le_of_ble_eq_true rfl) rfl ?_
  refine V_sipush 3 (v := 180) (by decide) d_Mo_trusts_0 rfl ?_
  refine V_il0 4 d_Mo_trusts_3 rfl ?_
  refine V_bipush 6 (v := 6) (by decide) d_Mo_trusts_4 rfl ?_
  refine V_imul 7 d_Mo_trusts_6 rfl ?_
  refine V_il1 8 d_Mo_trusts_7 rfl ?_
  refine V_iadd 9 d_Mo_trusts_8 rfl ?_
  refine V_iconst 10 (v := 4) (by decide) d_Mo_trusts_9 rfl ?_
  refine V_imul 11 d_Mo_trusts_10 rfl ?_
  refine V_il2 12 d_Mo_trusts_11 rfl ?_
  refine V_iadd 13 d_Mo_trusts_12 rfl ?_
  refine V_iconst 14 (v := 4) (by decide) d_Mo_trusts_13 rfl ?_
  refine V_imul 15 d_Mo_trusts_14 rfl ?_
  refine V_iadd 16 d_Mo_trusts_15 rfl ?_
  refine V_il3 17 d_Mo_trusts_16 rfl ?_
  refine V_iadd 18 d_Mo_trusts_17 rfl ?_
  exact V_iret rfl d_Mo_trusts_18 ⟨rfl, rfl, rfl⟩
abbrev pHad (M : gMe) (j : Nat) : Prop := ¬ M 421 j ≤ 0 ∧ ¬ M 400 36 ≤ M 421 j
set_option maxRecDepth 100000 in
set_option maxHeartbeats 4000000 in
theorem c_Mo_had (l : Launch) (G : gG) (L : gLy) (M : gMe) (hM : gLM L) (j : Nat) (hj : j < 756) : gMet l G y_Mo_had b_Mo_had 2 (some FieldType.boolean) (rmL 1 0 0) [.ref 400, .int (nI j)] L M gAll (gPo (some (.int (bi (pHad M j)))) L M) 0 0 := by
  refine gMet_of (lv := [some (.ref 400), some (.int (nI j))]) (by decide) rfl (Nat.le_of_ble_eq_true rfl) rfl ?_
  refine V_al0 1 d_Mo_had_0 rfl ?_
  refine V_getr 4 30 (lM hM) kc_Mo (by decide) fl_Mo_71 (Or.inl rfl) rfl d_Mo_had_1 rfl ?_
  refine V_il1 5 d_Mo_had_4 rfl ?_
  refine V_ialn 6 (j) (lM421 hM) rfl hj (by decide) d_Mo_had_5 rfl ?_
  refine V_if_le 26 9 d_Mo_had_6 (by decide) rfl (fun h6 => ?_) (fun h6 => ?_)
  · refine V_iconst 27 (v := 0) (by decide) d_Mo_had_26 rfl ?_
    exact V_zret rfl rfl d_Mo_had_27 (gN (fun h => h.1 h6))
  · refine V_al0 10 d_Mo_had_9 rfl ?_
    refine V_getr 13 30 (lM hM) kc_Mo (by decide) fl_Mo_71 (Or.inl rfl) rfl d_Mo_had_10 rfl ?_
    refine V_il1 14 d_Mo_had_13 rfl ?_
    refine V_ialn 15 (j) (lM421 hM) rfl hj (by decide) d_Mo_had_14 rfl ?_
    refine V_al0 16 d_Mo_had_15 rfl ?_
    refine V_geti 19 36 (lM hM) kc_Mo (by decide) fl_Mo_144 (Or.inl rfl) rfl d_Mo_had_16 rfl ?_
    refine V_icmp_ge 26 22 d_Mo_had_19 (by decide) rfl (fun h19 => ?_) (fun h19 => ?_)
    · refine V_iconst 27 (v := 0) (by decide) d_Mo_had_26 rfl ?_
      exact V_zret rfl rfl d_Mo_had_27 (gN (fun h => h.2 h19))
    · refine V_iconst 23 (v := 1) (by decide) d_Mo_had_22 rfl ?_
      refine V_goto 27 d_Mo_had_23 (by decide) ?_
      exact V_zret rfl rfl d_Mo_had_27 (gT ⟨h6, h19⟩)
def mFd (M : gMe) (j : Nat) (u f z : Int32) : gMe := gst (gst (gst (gst M 421 j (M 400 36)) 422 j u) 423 j f) 424 j z
set_option maxRecDepth 100000 in
set_option maxHeartbeats 4000000 in
theorem c_Mo_finds (l : Launch) (G : gG) (L : gLy) (M : gMe) (hM : gLM L) (j : Nat) (hj : j < 756) (u f z : Int32) : gMet l G y_Mo_finds b_Mo_finds 5 (some FieldType.boolean) (rmL 1 0 0) [.ref 400, .int (nI j), .int u, .int f, .int z] L M gAll (gPo (some (.int 1)) L (mFd M j u f z)) 0 0 := by
  refine gMet_of (lv := [some (.ref 400), some (.int (nI j)), some (.int u), some (.int f), some (.int z)]) (by decide) rfl (Nat.le_of_ble_eq_true rfl) rfl ?_
  refine V_al0 1 d_Mo_finds_0 rfl ?_
  refine V_getr 4 30 (lM hM) kc_Mo (by decide) fl_Mo_71 (Or.inl rfl) rfl d_Mo_finds_1 rfl ?_
  refine V_il1 5 d_Mo_finds_4 rfl ?_
  refine V_al0 6 d_Mo_finds_5 rfl ?_
  refine V_geti 9 36 (lM hM) kc_Mo (by decide) fl_Mo_144 (Or.inl rfl) rfl d_Mo_finds_6 rfl ?_
  refine V_iasn 10 (j) (lM421 hM) rfl hj (by decide) d_Mo_finds_9 rfl ?_
  refine V_al0 11 d_Mo_finds_10 rfl ?_
  refine V_getr 14 31 (lM hM) kc_Mo (by decide) fl_Mo_74 (Or.inl rfl) rfl d_Mo_finds_11 rfl ?_
  refine V_il1 15 d_Mo_finds_14 rfl ?_
  refine V_il2 16 d_Mo_finds_15 rfl ?_
  refine V_iasn 17 (j) (lM422 hM) rfl hj (by decide) d_Mo_finds_16 rfl ?_
  refine V_al0 18 d_Mo_finds_17 rfl ?_
  refine V_getr 21 32 (lM hM) kc_Mo (by decide) fl_Mo_77 (Or.inl rfl) rfl d_Mo_finds_18 rfl ?_
  refine V_il1 22 d_Mo_finds_21 rfl ?_
  refine V_il3 23 d_Mo_finds_22 rfl ?_
  refine V_iasn 24 (j) (lM423 hM) rfl hj (by decide) d_Mo_finds_23 rfl ?_
  refine V_al0 25 d_Mo_finds_24 rfl ?_
  refine V_getr 28 33 (lM hM) kc_Mo (by decide) fl_Mo_80 (Or.inl rfl) rfl d_Mo_finds_25 rfl ?_
  refine V_il1 29 d_Mo_finds_28 rfl ?_
  refine V_il4 31 d_Mo_finds_29 rfl ?_
  refine V_iasn 32 (j) (lM424 hM) rfl hj (by decide) d_Mo_finds_31 rfl ?_
  refine V_iconst 33 (v := 1) (by decide) d_Mo_finds_32 rfl ?_
  exact V_zret rfl rfl d_Mo_finds_33 ⟨rfl, rfl, rfl⟩
def mAp (M : gMe) (n : Nat) (r x z : Int32) : gMe := gst (gst (gst (gst (mF M) 414 n r) 415 n x) 416 n z) 400 21 (nI (n + 1))
set_option maxRecDepth 100000 in
set_option maxHeartbeats 4000000 in
theorem c_Mo_step (l : Launch) (G : gG) (L : gLy) (M : gMe) (hM : gLM L) (n : Nat) (hn : M 400 21 = nI n) (hn4 : n < 40) (r x z : Int32) : gMet l G y_Mo_step b_Mo_step 4 (some FieldType.int) (rmL 1 0 0) [.ref 400, .int r, .int x, .int z] L M gAll (gPo (some (.int (nI n))) L (mAp M n r x z)) 0 0 := by
  have e0 : gst M 400 2 0 400 21 = nI n := by simp [gst_at]; exact hn
  refine gMet_of (lv := [some (.ref 400), some (.int r), some (.int x), some (.int z)]) (by decide) rfl (Nat.le_of_ble_eq_true rfl) rfl ?_
  refine V_al0 1 d_Mo_step_0 rfl ?_
  refine V_iconst 2 (v := 0) (by decide) d_Mo_step_1 rfl ?_
  refine V_puti 5 2 (lM hM) kc_Mo (by decide) fl_Mo_93 (Or.inl rfl) rfl rfl rfl rfl d_Mo_step_2 rfl ?_
  refine V_al0 6 d_Mo_step_5 rfl ?_
  refine V_geti 9 21 (lM hM) kc_Mo (by decide) fl_Mo_103 (Or.inl rfl) rfl d_Mo_step_6 rfl ?_
  refine V_bipush 11 (v := 40) (by decide) d_Mo_step_9 rfl ?_
  refine V_icmp_ne 16 14 d_Mo_step_11 (by decide) rfl (fun _ => ?_) (fun h9 => absurd h9 (show ¬ gst M 400 2 0 400 21 = 40 by rw [e0]; exact fun h => by have := (nI_eq (b := 40) (by omega) (by decide)).mp h; omega))
  refine V_al0 17 d_Mo_step_16 rfl ?_
  refine V_getr 20 23 (lM hM) kc_Mo (by decide) fl_Mo_50 (Or.inl rfl) rfl d_Mo_step_17 rfl ?_
  refine V_al0 21 d_Mo_step_20 rfl ?_
  refine V_geti 24 21 (lM hM) kc_Mo (by decide) fl_Mo_103 (Or.inl rfl) rfl d_Mo_step_21 rfl ?_
  refine V_il1 25 d_Mo_step_24 rfl ?_
  refine V_iasn 26 (n) (lM414 hM) e0 hn4 (by decide) d_Mo_step_25 rfl ?_
  refine V_al0 27 d_Mo_step_26 rfl ?_
  refine V_getr 30 24 (lM hM) kc_Mo (by decide) fl_Mo_53 (Or.inl rfl) rfl d_Mo_step_27 rfl ?_
  refine V_al0 31 d_Mo_step_30 rfl ?_
  refine V_geti 34 21 (lM hM) kc_Mo (by decide) fl_Mo_103 (Or.inl rfl) rfl d_Mo_step_31 rfl ?_
  refine V_il2 35 d_Mo_step_34 rfl ?_
  refine V_iasn 36 (n) (lM415 hM) (by rw [gst_ne _ _ _ _ (by decide)]; exact e0) hn4 (by decide) d_Mo_step_35 rfl ?_
  refine V_al0 37 d_Mo_step_36 rfl ?_
  refine V_getr 40 25 (lM hM) kc_Mo (by decide) fl_Mo_56 (Or.inl rfl) rfl d_Mo_step_37 rfl ?_
  refine V_al0 41 d_Mo_step_40 rfl ?_
  refine V_geti 44 21 (lM hM) kc_Mo (by decide) fl_Mo_103 (Or.inl rfl) rfl d_Mo_step_41 rfl ?_
  refine V_il3 45 d_Mo_step_44 rfl ?_
  refine V_iasn 46 (n) (lM416 hM) (by rw [gst_ne _ _ _ _ (by decide), gst_ne _ _ _ _ (by decide)]; exact e0) hn4 (by decide) d_Mo_step_45 rfl ?_
  refine V_al0 47 d_Mo_step_46 rfl ?_
  refine V_dup 48 rfl d_Mo_step_47 rfl ?_
  refine V_geti 51 21 (lM hM) kc_Mo (by decide) fl_Mo_103 (Or.inl rfl) rfl d_Mo_step_48 rfl ?_
  refine V_iconst 52 (v := 1) (by decide) d_Mo_step_51 rfl ?_
  refine V_iadd 53 d_Mo_step_52 rfl ?_
  refine V_topi (z := nI (n + 1)) (by rw [gst_ne _ _ _ _ (by decide), gst_ne _ _ _ _ (by decide), gst_ne _ _ _ _ (by decide), e0, nI_1]) ?_
  refine V_puti 56 21 (lM hM) kc_Mo (by decide) fl_Mo_103 (Or.inl rfl) rfl rfl rfl rfl d_Mo_step_53 rfl ?_
  refine V_al0 57 d_Mo_step_56 rfl ?_
  refine V_geti 60 21 (lM hM) kc_Mo (by decide) fl_Mo_103 (Or.inl rfl) rfl d_Mo_step_57 rfl ?_
  refine V_iconst 61 (v := 1) (by decide) d_Mo_step_60 rfl ?_
  refine V_isub 62 d_Mo_step_61 rfl ?_
  exact V_iret rfl d_Mo_step_62 ⟨by rw [gst_same]; show some (Value.int (nI (n + 1) - 1)) = _; rw [nI_pred], rfl, rfl⟩
set_option maxRecDepth 100000 in
set_option maxHeartbeats 4000000 in
theorem c_Mo_step_full (l : Launch) (G : gG) (L : gLy) (M : gMe) (hM : gLM L) (hn : M 400 21 = nI 40) (r x z : Int32) : gMet l G y_Mo_step b_Mo_step 4 (some FieldType.int) (rmL 1 0 0) [.ref 400, .int r, .int x, .int z] L M gAll (gPo (some (.int (-1))) L (mF M)) 0 0 := by
  refine gMet_of (lv := [some (.ref 400), some (.int r), some (.int x), some (.int z)]) (by decide) rfl (Nat.le_of_ble_eq_true rfl) rfl ?_
  refine V_al0 1 d_Mo_step_0 rfl ?_
  refine V_iconst 2 (v := 0) (by decide) d_Mo_step_1 rfl ?_
  refine V_puti 5 2 (lM hM) kc_Mo (by decide) fl_Mo_93 (Or.inl rfl) rfl rfl rfl rfl d_Mo_step_2 rfl ?_
  refine V_al0 6 d_Mo_step_5 rfl ?_
  refine V_geti 9 21 (lM hM) kc_Mo (by decide) fl_Mo_103 (Or.inl rfl) rfl d_Mo_step_6 rfl ?_
  refine V_bipush 11 (v := 40) (by decide) d_Mo_step_9 rfl ?_
  refine V_icmp_ne 16 14 d_Mo_step_11 (by decide) rfl (fun h9 => absurd h9 (not_not_intro (show gst M 400 2 0 400 21 = 40 by simp [gst_at]; exact hn))) (fun _ => ?_)
  refine V_iconst 15 (v := (-1)) (by decide) d_Mo_step_14 rfl ?_
  exact V_iret rfl d_Mo_step_15 ⟨rfl, rfl, rfl⟩
set_option maxRecDepth 100000 in
set_option maxHeartbeats 4000000 in
theorem c_Mo_clear (l : Launch) (G : gG) (L : gLy) (M : gMe) (hM : gLM L) : gMet l G y_Mo_clear b_Mo_clear 2 (some FieldType.int) (rmL 1 0 0) [.ref 400] L M gAll (gPo (some (.int (mF M 400 21))) L (gst (mF M) 400 21 0)) 0 0 := by
  refine gMet_of (lv := [some (.ref 400), none]) (by decide) rfl (Nat.le_of_ble_eq_true rfl) rfl ?_
  refine V_al0 1 d_Mo_clear_0 rfl ?_
  refine V_iconst 2 (v := 0) (by decide) d_Mo_clear_1 rfl ?_
  refine V_puti 5 2 (lM hM) kc_Mo (by decide) fl_Mo_93 (Or.inl rfl) rfl rfl rfl rfl d_Mo_clear_2 rfl ?_
  refine V_al0 6 d_Mo_clear_5 rfl ?_
  refine V_geti 9 21 (lM hM) kc_Mo (by decide) fl_Mo_103 (Or.inl rfl) rfl d_Mo_clear_6 rfl ?_
  refine V_is1 10 d_Mo_clear_9 (by decide) rfl ?_
  refine V_al0 11 d_Mo_clear_10 rfl ?_
  refine V_iconst 12 (v := 0) (by decide) d_Mo_clear_11 rfl ?_
  refine V_puti 15 21 (lM hM) kc_Mo (by decide) fl_Mo_103 (Or.inl rfl) rfl rfl rfl rfl d_Mo_clear_12 rfl ?_
  refine V_il1 16 d_Mo_clear_15 rfl ?_
  exact V_iret rfl d_Mo_clear_16 ⟨rfl, rfl, rfl⟩
set_option maxRecDepth 100000 in
set_option maxHeartbeats 4000000 in
theorem c_Mo_steps (l : Launch) (G : gG) (L : gLy) (M : gMe) (hM : gLM L) : gMet l G y_Mo_steps b_Mo_steps 1 (some FieldType.int) (rmL 1 0 0) [.ref 400] L M gAll (gPo (some (.int (mF M 400 21))) L (mF M)) 0 0 := by
  refine gMet_of (lv := [some (.ref 400)]) (by decide) rfl (Nat.le_of_ble_eq_true rfl) rfl ?_
  refine V_al0 1 d_Mo_steps_0 rfl ?_
  refine V_iconst 2 (v := 0) (by decide) d_Mo_steps_1 rfl ?_
  refine V_puti 5 2 (lM hM) kc_Mo (by decide) fl_Mo_93 (Or.inl rfl) rfl rfl rfl rfl d_Mo_steps_2 rfl ?_
  refine V_al0 6 d_Mo_steps_5 rfl ?_
  refine V_geti 9 21 (lM hM) kc_Mo (by decide) fl_Mo_103 (Or.inl rfl) rfl d_Mo_steps_6 rfl ?_
  exact V_iret rfl d_Mo_steps_9 ⟨rfl, rfl, rfl⟩
set_option maxRecDepth 100000 in
set_option maxHeartbeats 4000000 in
theorem c_Mo_credentials (l : Launch) (G : gG) (L : gLy) (M : gMe) (hM : gLM L) : gMet l G y_Mo_credentials b_Mo_credentials 1 (some FieldType.int) (rmL 1 0 0) [.ref 400] L M gAll (gPo (some (.int (mF M 400 10))) L (mF M)) 0 0 := by
  refine gMet_of (lv := [some (.ref 400)]) (by decide) rfl (Nat.le_of_ble_eq_true rfl) rfl ?_
  refine V_al0 1 d_Mo_credentials_0 rfl ?_
  refine V_iconst 2 (v := 0) (by decide) d_Mo_credentials_1 rfl ?_
  refine V_puti 5 2 (lM hM) kc_Mo (by decide) fl_Mo_93 (Or.inl rfl) rfl rfl rfl rfl d_Mo_credentials_2 rfl ?_
  refine V_al0 6 d_Mo_credentials_5 rfl ?_
  refine V_geti 9 10 (lM hM) kc_Mo (by decide) fl_Mo_134 (Or.inl rfl) rfl d_Mo_credentials_6 rfl ?_
  exact V_iret rfl d_Mo_credentials_9 ⟨rfl, rfl, rfl⟩
set_option maxRecDepth 100000 in
set_option maxHeartbeats 4000000 in
theorem c_Mo_grants (l : Launch) (G : gG) (L : gLy) (M : gMe) (hM : gLM L) : gMet l G y_Mo_grants b_Mo_grants 1 (some FieldType.int) (rmL 1 0 0) [.ref 400] L M gAll (gPo (some (.int (mF M 400 8))) L (mF M)) 0 0 := by
  refine gMet_of (lv := [some (.ref 400)]) (by decide) rfl (Nat.le_of_ble_eq_true rfl) rfl ?_
  refine V_al0 1 d_Mo_grants_0 rfl ?_
  refine V_iconst 2 (v := 0) (by decide) d_Mo_grants_1 rfl ?_
  refine V_puti 5 2 (lM hM) kc_Mo (by decide) fl_Mo_93 (Or.inl rfl) rfl rfl rfl rfl d_Mo_grants_2 rfl ?_
  refine V_al0 6 d_Mo_grants_5 rfl ?_
  refine V_geti 9 8 (lM hM) kc_Mo (by decide) fl_Mo_228 (Or.inl rfl) rfl d_Mo_grants_6 rfl ?_
  exact V_iret rfl d_Mo_grants_9 ⟨rfl, rfl, rfl⟩
set_option maxRecDepth 100000 in
set_option maxHeartbeats 4000000 in
theorem c_Mo_chain (l : Launch) (G : gG) (L : gLy) (M : gMe) (hM : gLM L) : gMet l G y_Mo_chain b_Mo_chain 1 (some FieldType.int) (rmL 1 0 0) [.ref 400] L M gAll (gPo (some (.int (mF M 400 9))) L (mF M)) 0 0 := by
  refine gMet_of (lv := [some (.ref 400)]) (by decide) rfl (Nat.le_of_ble_eq_true rfl) rfl ?_
  refine V_al0 1 d_Mo_chain_0 rfl ?_
  refine V_iconst 2 (v := 0) (by decide) d_Mo_chain_1 rfl ?_
  refine V_puti 5 2 (lM hM) kc_Mo (by decide) fl_Mo_93 (Or.inl rfl) rfl rfl rfl rfl d_Mo_chain_2 rfl ?_
  refine V_al0 6 d_Mo_chain_5 rfl ?_
  refine V_geti 9 9 (lM hM) kc_Mo (by decide) fl_Mo_225 (Or.inl rfl) rfl d_Mo_chain_6 rfl ?_
  exact V_iret rfl d_Mo_chain_9 ⟨rfl, rfl, rfl⟩
set_option maxRecDepth 100000 in
set_option maxHeartbeats 4000000 in
theorem c_Mo_stepAt_no (l : Launch) (G : gG) (L : gLy) (M : gMe) (hM : gLM L) (k v : Int32) (hk : ¬ (pIn k 0 (mF M 400 21 - 1) ∧ pIn v 0 2)) : gMet l G y_Mo_stepAt b_Mo_stepAt 3 (some FieldType.int) (rmL 2 0 0) [.ref 400, .int k, .int v] L M gAll (gPo (some (.int (-1))) L (mF M)) 0 0 := by
  refine gMet_of (lv := [some (.ref 400), some (.int k), some (.int v)]) (by decide) rfl (Nat.le_of_ble_eq_true rfl) rfl ?_
  refine V_al0 1 d_Mo_stepAt_0 rfl ?_
  refine V_iconst 2 (v := 0) (by decide) d_Mo_stepAt_1 rfl ?_
  refine V_puti 5 2 (lM hM) kc_Mo (by decide) fl_Mo_93 (Or.inl rfl) rfl rfl rfl rfl d_Mo_stepAt_2 rfl ?_
  refine V_il1 6 d_Mo_stepAt_5 rfl ?_
  refine V_iconst 7 (v := 0) (by decide) d_Mo_stepAt_6 rfl ?_
  refine V_al0 8 d_Mo_stepAt_7 rfl ?_
  refine V_geti 11 21 (lM hM) kc_Mo (by decide) fl_Mo_103 (Or.inl rfl) rfl d_Mo_stepAt_8 rfl ?_
  refine V_iconst 12 (v := 1) (by decide) d_Mo_stepAt_11 rfl ?_
  refine V_isub 13 d_Mo_stepAt_12 rfl ?_
  refine V_cS1 16 (c_Mo_in l G _ _ _ _ _) ok_Mo_in ml_Mo_106 st_Mo_in (gRm_ok (by decide) (by decide)) rfl rfl (Nat.le_of_ble_eq_true rfl) d_Mo_stepAt_13 ⟨Nat.le_of_ble_eq_true rfl, Nat.le_of_ble_eq_true rfl⟩ rfl ?_
  refine V_bz 28 19 d_Mo_stepAt_16 (by decide) rfl (fun h16 => ?_) (fun h16 => ?_)
  · refine V_iconst 29 (v := (-1)) (by decide) d_Mo_stepAt_28 rfl ?_
    exact V_iret rfl d_Mo_stepAt_29 ⟨rfl, rfl, rfl⟩
  · refine V_il2 20 d_Mo_stepAt_19 rfl ?_
    refine V_iconst 21 (v := 0) (by decide) d_Mo_stepAt_20 rfl ?_
    refine V_iconst 22 (v := 2) (by decide) d_Mo_stepAt_21 rfl ?_
    refine V_cS1 25 (c_Mo_in l G _ _ _ _ _) ok_Mo_in ml_Mo_106 st_Mo_in (gRm_ok (by decide) (by decide)) rfl rfl (Nat.le_of_ble_eq_true rfl) d_Mo_stepAt_22 ⟨Nat.le_of_ble_eq_true rfl, Nat.le_of_ble_eq_true rfl⟩ rfl ?_
    refine V_bn 30 28 d_Mo_stepAt_25 (by decide) rfl (fun h9 => absurd h9 (fun h => hk ⟨h16, h⟩)) (fun _ => ?_)
    refine V_iconst 29 (v := (-1)) (by decide) d_Mo_stepAt_28 rfl ?_
    exact V_iret rfl d_Mo_stepAt_29 ⟨rfl, rfl, rfl⟩
set_option maxRecDepth 100000 in
set_option maxHeartbeats 4000000 in
theorem c_Mo_stepAt0 (l : Launch) (G : gG) (L : gLy) (M : gMe) (hM : gLM L) (n : Nat) (hn : M 400 21 = nI n) (hn4 : n ≤ 40) (j : Nat) (hj : j < n) : gMet l G y_Mo_stepAt b_Mo_stepAt 3 (some FieldType.int) (rmL 2 0 0) [.ref 400, .int (nI j), .int 0] L M gAll (gPo (some (.int (M 414 j))) L (mF M)) 0 0 := by
  have e0 : gst M 400 2 0 400 21 = nI n := by simp [gst_at]; exact hn
  refine gMet_of (lv := [some (.ref 400), some (.int (nI j)), some (.int 0)]) (by decide) rfl (Nat.le_of_ble_eq_true rfl) rfl ?_
  refine V_al0 1 d_Mo_stepAt_0 rfl ?_
  refine V_iconst 2 (v := 0) (by decide) d_Mo_stepAt_1 rfl ?_
  refine V_puti 5 2 (lM hM) kc_Mo (by decide) fl_Mo_93 (Or.inl rfl) rfl rfl rfl rfl d_Mo_stepAt_2 rfl ?_
  refine V_il1 6 d_Mo_stepAt_5 rfl ?_
  refine V_iconst 7 (v := 0) (by decide) d_Mo_stepAt_6 rfl ?_
  refine V_al0 8 d_Mo_stepAt_7 rfl ?_
  refine V_geti 11 21 (lM hM) kc_Mo (by decide) fl_Mo_103 (Or.inl rfl) rfl d_Mo_stepAt_8 rfl ?_
  refine V_iconst 12 (v := 1) (by decide) d_Mo_stepAt_11 rfl ?_
  refine V_isub 13 d_Mo_stepAt_12 rfl ?_
  refine V_topi (z := nI (n - 1)) (by rw [e0]; exact nI_dm (by omega)) ?_
  refine V_cS1 16 (c_Mo_in l G _ _ _ _ _) ok_Mo_in ml_Mo_106 st_Mo_in (gRm_ok (by decide) (by decide)) rfl rfl (Nat.le_of_ble_eq_true rfl) d_Mo_stepAt_13 ⟨Nat.le_of_ble_eq_true rfl, Nat.le_of_ble_eq_true rfl⟩ rfl ?_
  refine V_bz 28 19 d_Mo_stepAt_16 (by decide) rfl (fun h9 => absurd (pIn_nI0 (by omega) (by omega)) h9) (fun _ => ?_)
  refine V_il2 20 d_Mo_stepAt_19 rfl ?_
  refine V_iconst 21 (v := 0) (by decide) d_Mo_stepAt_20 rfl ?_
  refine V_iconst 22 (v := 2) (by decide) d_Mo_stepAt_21 rfl ?_
  refine V_cS1 25 (c_Mo_in l G _ _ _ _ _) ok_Mo_in ml_Mo_106 st_Mo_in (gRm_ok (by decide) (by decide)) rfl rfl (Nat.le_of_ble_eq_true rfl) d_Mo_stepAt_22 ⟨Nat.le_of_ble_eq_true rfl, Nat.le_of_ble_eq_true rfl⟩ rfl ?_
  refine V_bn 30 28 d_Mo_stepAt_25 (by decide) rfl (fun _ => ?_) (fun h9 => absurd (by decide) h9)
  refine V_il2 31 d_Mo_stepAt_30 rfl ?_
  refine V_if_ne 43 34 d_Mo_stepAt_31 (by decide) rfl (fun h9 => absurd h9 (not_not_intro rfl)) (fun _ => ?_)
  refine V_al0 35 d_Mo_stepAt_34 rfl ?_
  refine V_getr 38 23 (lM hM) kc_Mo (by decide) fl_Mo_50 (Or.inl rfl) rfl d_Mo_stepAt_35 rfl ?_
  refine V_il1 39 d_Mo_stepAt_38 rfl ?_
  refine V_ialn 40 (j) (lM414 hM) rfl (by omega) (by decide) d_Mo_stepAt_39 rfl ?_
  refine V_goto 63 d_Mo_stepAt_40 (by decide) ?_
  exact V_iret rfl d_Mo_stepAt_63 ⟨by rw [gst_ne _ _ _ _ (by decide)], rfl, rfl⟩
set_option maxRecDepth 100000 in
set_option maxHeartbeats 4000000 in
theorem c_Mo_stepAt1 (l : Launch) (G : gG) (L : gLy) (M : gMe) (hM : gLM L) (n : Nat) (hn : M 400 21 = nI n) (hn4 : n ≤ 40) (j : Nat) (hj : j < n) : gMet l G y_Mo_stepAt b_Mo_stepAt 3 (some FieldType.int) (rmL 2 0 0) [.ref 400, .int (nI j), .int 1] L M gAll (gPo (some (.int (M 415 j))) L (mF M)) 0 0 := by
  have e0 : gst M 400 2 0 400 21 = nI n := by simp [gst_at]; exact hn
  refine gMet_of (lv := [some (.ref 400), some (.int (nI j)), some (.int 1)]) (by decide) rfl (Nat.le_of_ble_eq_true rfl) rfl ?_
  refine V_al0 1 d_Mo_stepAt_0 rfl ?_
  refine V_iconst 2 (v := 0) (by decide) d_Mo_stepAt_1 rfl ?_
  refine V_puti 5 2 (lM hM) kc_Mo (by decide) fl_Mo_93 (Or.inl rfl) rfl rfl rfl rfl d_Mo_stepAt_2 rfl ?_
  refine V_il1 6 d_Mo_stepAt_5 rfl ?_
  refine V_iconst 7 (v := 0) (by decide) d_Mo_stepAt_6 rfl ?_
  refine V_al0 8 d_Mo_stepAt_7 rfl ?_
  refine V_geti 11 21 (lM hM) kc_Mo (by decide) fl_Mo_103 (Or.inl rfl) rfl d_Mo_stepAt_8 rfl ?_
  refine V_iconst 12 (v := 1) (by decide) d_Mo_stepAt_11 rfl ?_
  refine V_isub 13 d_Mo_stepAt_12 rfl ?_
  refine V_topi (z := nI (n - 1)) (by rw [e0]; exact nI_dm (by omega)) ?_
  refine V_cS1 16 (c_Mo_in l G _ _ _ _ _) ok_Mo_in ml_Mo_106 st_Mo_in (gRm_ok (by decide) (by decide)) rfl rfl (Nat.le_of_ble_eq_true rfl) d_Mo_stepAt_13 ⟨Nat.le_of_ble_eq_true rfl, Nat.le_of_ble_eq_true rfl⟩ rfl ?_
  refine V_bz 28 19 d_Mo_stepAt_16 (by decide) rfl (fun h9 => absurd (pIn_nI0 (by omega) (by omega)) h9) (fun _ => ?_)
  refine V_il2 20 d_Mo_stepAt_19 rfl ?_
  refine V_iconst 21 (v := 0) (by decide) d_Mo_stepAt_20 rfl ?_
  refine V_iconst 22 (v := 2) (by decide) d_Mo_stepAt_21 rfl ?_
  refine V_cS1 25 (c_Mo_in l G _ _ _ _ _) ok_Mo_in ml_Mo_106 st_Mo_in (gRm_ok (by decide) (by decide)) rfl rfl (Nat.le_of_ble_eq_true rfl) d_Mo_stepAt_22 ⟨Nat.le_of_ble_eq_true rfl, Nat.le_of_ble_eq_true rfl⟩ rfl ?_
  refine V_bn 30 28 d_Mo_stepAt_25 (by decide) rfl (fun _ => ?_) (fun h9 => absurd (by decide) h9)
  refine V_il2 31 d_Mo_stepAt_30 rfl ?_
  refine V_if_ne 43 34 d_Mo_stepAt_31 (by decide) rfl (fun _ => ?_) (fun h9 => absurd h9 (by decide))
  refine V_il2 44 d_Mo_stepAt_43 rfl ?_
  refine V_iconst 45 (v := 1) (by decide) d_Mo_stepAt_44 rfl ?_
  refine V_icmp_ne 57 48 d_Mo_stepAt_45 (by decide) rfl (fun h9 => absurd h9 (not_not_intro rfl)) (fun _ => ?_)
  refine V_al0 49 d_Mo_stepAt_48 rfl ?_
  refine V_getr 52 24 (lM hM) kc_Mo (by decide) fl_Mo_53 (Or.inl rfl) rfl d_Mo_stepAt_49 rfl ?_
  refine V_il1 53 d_Mo_stepAt_52 rfl ?_
  refine V_ialn 54 (j) (lM415 hM) rfl (by omega) (by decide) d_Mo_stepAt_53 rfl ?_
  refine V_goto 63 d_Mo_stepAt_54 (by decide) ?_
  exact V_iret rfl d_Mo_stepAt_63 ⟨by rw [gst_ne _ _ _ _ (by decide)], rfl, rfl⟩
set_option maxRecDepth 100000 in
set_option maxHeartbeats 4000000 in
theorem c_Mo_stepAt2 (l : Launch) (G : gG) (L : gLy) (M : gMe) (hM : gLM L) (n : Nat) (hn : M 400 21 = nI n) (hn4 : n ≤ 40) (j : Nat) (hj : j < n) : gMet l G y_Mo_stepAt b_Mo_stepAt 3 (some FieldType.int) (rmL 2 0 0) [.ref 400, .int (nI j), .int 2] L M gAll (gPo (some (.int (M 416 j))) L (mF M)) 0 0 := by
  have e0 : gst M 400 2 0 400 21 = nI n := by simp [gst_at]; exact hn
  refine gMet_of (lv := [some (.ref 400), some (.int (nI j)), some (.int 2)]) (by decide) rfl (Nat.le_of_ble_eq_true rfl) rfl ?_
  refine V_al0 1 d_Mo_stepAt_0 rfl ?_
  refine V_iconst 2 (v := 0) (by decide) d_Mo_stepAt_1 rfl ?_
  refine V_puti 5 2 (lM hM) kc_Mo (by decide) fl_Mo_93 (Or.inl rfl) rfl rfl rfl rfl d_Mo_stepAt_2 rfl ?_
  refine V_il1 6 d_Mo_stepAt_5 rfl ?_
  refine V_iconst 7 (v := 0) (by decide) d_Mo_stepAt_6 rfl ?_
  refine V_al0 8 d_Mo_stepAt_7 rfl ?_
  refine V_geti 11 21 (lM hM) kc_Mo (by decide) fl_Mo_103 (Or.inl rfl) rfl d_Mo_stepAt_8 rfl ?_
  refine V_iconst 12 (v := 1) (by decide) d_Mo_stepAt_11 rfl ?_
  refine V_isub 13 d_Mo_stepAt_12 rfl ?_
  refine V_topi (z := nI (n - 1)) (by rw [e0]; exact nI_dm (by omega)) ?_
  refine V_cS1 16 (c_Mo_in l G _ _ _ _ _) ok_Mo_in ml_Mo_106 st_Mo_in (gRm_ok (by decide) (by decide)) rfl rfl (Nat.le_of_ble_eq_true rfl) d_Mo_stepAt_13 ⟨Nat.le_of_ble_eq_true rfl, Nat.le_of_ble_eq_true rfl⟩ rfl ?_
  refine V_bz 28 19 d_Mo_stepAt_16 (by decide) rfl (fun h9 => absurd (pIn_nI0 (by omega) (by omega)) h9) (fun _ => ?_)
  refine V_il2 20 d_Mo_stepAt_19 rfl ?_
  refine V_iconst 21 (v := 0) (by decide) d_Mo_stepAt_20 rfl ?_
  refine V_iconst 22 (v := 2) (by decide) d_Mo_stepAt_21 rfl ?_
  refine V_cS1 25 (c_Mo_in l G _ _ _ _ _) ok_Mo_in ml_Mo_106 st_Mo_in (gRm_ok (by decide) (by decide)) rfl rfl (Nat.le_of_ble_eq_true rfl) d_Mo_stepAt_22 ⟨Nat.le_of_ble_eq_true rfl, Nat.le_of_ble_eq_true rfl⟩ rfl ?_
  refine V_bn 30 28 d_Mo_stepAt_25 (by decide) rfl (fun _ => ?_) (fun h9 => absurd (by decide) h9)
  refine V_il2 31 d_Mo_stepAt_30 rfl ?_
  refine V_if_ne 43 34 d_Mo_stepAt_31 (by decide) rfl (fun _ => ?_) (fun h9 => absurd h9 (by decide))
  refine V_il2 44 d_Mo_stepAt_43 rfl ?_
  refine V_iconst 45 (v := 1) (by decide) d_Mo_stepAt_44 rfl ?_
  refine V_icmp_ne 57 48 d_Mo_stepAt_45 (by decide) rfl (fun _ => ?_) (fun h9 => absurd h9 (by decide))
  refine V_al0 58 d_Mo_stepAt_57 rfl ?_
  refine V_getr 61 25 (lM hM) kc_Mo (by decide) fl_Mo_56 (Or.inl rfl) rfl d_Mo_stepAt_58 rfl ?_
  refine V_il1 62 d_Mo_stepAt_61 rfl ?_
  refine V_ialn 63 (j) (lM416 hM) rfl (by omega) (by decide) d_Mo_stepAt_62 rfl ?_
  exact V_iret rfl d_Mo_stepAt_63 ⟨by rw [gst_ne _ _ _ _ (by decide)], rfl, rfl⟩
abbrev pGoal (M : gMe) (p r o : Int32) : Prop := pIn p 0 5 ∧ pIn r 0 3 ∧ pIn o 0 5 ∧ M 401 o.toNatClampNeg = (if r = 3 then 0 else 1)
set_option maxRecDepth 100000 in
set_option maxHeartbeats 4000000 in
theorem c_Mo_isGoal (l : Launch) (G : gG) (L : gLy) (M : gMe) (hM : gLM L) (p r o : Int32) : gMet l G y_Mo_isGoal b_Mo_isGoal 4 (some FieldType.boolean) (rmL 3 0 0) [.ref 400, .int p, .int r, .int o] L M gAll (gPo (some (.int (bi (pGoal M p r o)))) L M) 0 0 := by
  refine gMet_of (lv := [some (.ref 400), some (.int p), some (.int r), some (.int o)]) (by decide) rfl (Nat.le_of_ble_eq_true rfl) rfl ?_
  refine V_il1 1 d_Mo_isGoal_0 rfl ?_
  refine V_cS1 4 (c_Mo_isPerson l G _ _ _) ok_Mo_isPerson ml_Mo_116 st_Mo_isPerson (gRm_ok (by decide) (by decide)) rfl rfl (Nat.le_of_ble_eq_true rfl) d_Mo_isGoal_1 ⟨Nat.le_of_ble_eq_true rfl, Nat.le_of_ble_eq_true rfl⟩ rfl ?_
  refine V_bz 46 7 d_Mo_isGoal_4 (by decide) rfl (fun h4 => ?_) (fun h4 => ?_)
  · refine V_iconst 47 (v := 0) (by decide) d_Mo_isGoal_46 rfl ?_
    exact V_zret rfl rfl d_Mo_isGoal_47 (gN (fun h => h4 h.1))
  · refine V_il2 8 d_Mo_isGoal_7 rfl ?_
    refine V_cS1 11 (c_Mo_isRight l G _ _ _) ok_Mo_isRight ml_Mo_120 st_Mo_isRight (gRm_ok (by decide) (by decide)) rfl rfl (Nat.le_of_ble_eq_true rfl) d_Mo_isGoal_8 ⟨Nat.le_of_ble_eq_true rfl, Nat.le_of_ble_eq_true rfl⟩ rfl ?_
    refine V_bz 46 14 d_Mo_isGoal_11 (by decide) rfl (fun h11 => ?_) (fun h11 => ?_)
    · refine V_iconst 47 (v := 0) (by decide) d_Mo_isGoal_46 rfl ?_
      exact V_zret rfl rfl d_Mo_isGoal_47 (gN (fun h => h11 h.2.1))
    · refine V_il3 15 d_Mo_isGoal_14 rfl ?_
      refine V_iconst 16 (v := 0) (by decide) d_Mo_isGoal_15 rfl ?_
      refine V_iconst 17 (v := 5) (by decide) d_Mo_isGoal_16 rfl ?_
      refine V_cS1 20 (c_Mo_in l G _ _ _ _ _) ok_Mo_in ml_Mo_106 st_Mo_in (gRm_ok (by decide) (by decide)) rfl rfl (Nat.le_of_ble_eq_true rfl) d_Mo_isGoal_17 ⟨Nat.le_of_ble_eq_true rfl, Nat.le_of_ble_eq_true rfl⟩ rfl ?_
      refine V_bz 46 23 d_Mo_isGoal_20 (by decide) rfl (fun h20 => ?_) (fun h20 => ?_)
      · refine V_iconst 47 (v := 0) (by decide) d_Mo_isGoal_46 rfl ?_
        exact V_zret rfl rfl d_Mo_isGoal_47 (gN (fun h => h20 h.2.2.1))
      · obtain ⟨j, hj, hx⟩ := pIn0 (k := 5) (by decide) h20
        have hc9 : o.toNatClampNeg = j := by rw [hx]; exact nI_clamp (by omega)
        refine V_al0 24 d_Mo_isGoal_23 rfl ?_
        refine V_getr 27 5 (lM hM) kc_Mo (by decide) fl_Mo_7 (Or.inl rfl) rfl d_Mo_isGoal_24 rfl ?_
        refine V_il3 28 d_Mo_isGoal_27 rfl ?_
        refine V_zaln 29 (j) (lM401 hM) hx (by omega) (by decide) d_Mo_isGoal_28 rfl ?_
        refine V_il2 30 d_Mo_isGoal_29 rfl ?_
        refine V_iconst 31 (v := 3) (by decide) d_Mo_isGoal_30 rfl ?_
        refine V_icmp_eq 38 34 d_Mo_isGoal_31 (by decide) rfl (fun h31 => ?_) (fun h31 => ?_)
        · refine V_iconst 39 (v := 0) (by decide) d_Mo_isGoal_38 rfl ?_
          refine V_icmp_ne 46 42 d_Mo_isGoal_39 (by decide) rfl (fun h39 => ?_) (fun h39 => ?_)
          · refine V_iconst 47 (v := 0) (by decide) d_Mo_isGoal_46 rfl ?_
            exact V_zret rfl rfl d_Mo_isGoal_47 (gN (fun h => h39 (by have := h.2.2.2; rw [hc9, if_pos h31] at this; exact this)))
          · refine V_iconst 43 (v := 1) (by decide) d_Mo_isGoal_42 rfl ?_
            refine V_goto 47 d_Mo_isGoal_43 (by decide) ?_
            exact V_zret rfl rfl d_Mo_isGoal_47 (gT ⟨h4, h11, h20, by rw [hc9, if_pos h31]; exact h39⟩)
        · refine V_iconst 35 (v := 1) (by decide) d_Mo_isGoal_34 rfl ?_
          refine V_goto 39 d_Mo_isGoal_35 (by decide) ?_
          refine V_icmp_ne 46 42 d_Mo_isGoal_39 (by decide) rfl (fun h39 => ?_) (fun h39 => ?_)
          · refine V_iconst 47 (v := 0) (by decide) d_Mo_isGoal_46 rfl ?_
            exact V_zret rfl rfl d_Mo_isGoal_47 (gN (fun h => h39 (by have := h.2.2.2; rw [hc9, if_neg h31] at this; exact this)))
          · refine V_iconst 43 (v := 1) (by decide) d_Mo_isGoal_42 rfl ?_
            refine V_goto 47 d_Mo_isGoal_43 (by decide) ?_
            exact V_zret rfl rfl d_Mo_isGoal_47 (gT ⟨h4, h11, h20, by rw [hc9, if_neg h31]; exact h39⟩)
set_option maxRecDepth 100000 in
set_option maxHeartbeats 4000000 in
theorem c_Mo_sayer (l : Launch) (G : gG) (L : gLy) (M : gMe) (hM : gLM L) (r : Int32) (j : Nat) (hj : j < 6) : gMet l G y_Mo_sayer b_Mo_sayer 3 (some FieldType.int) (rmL 1 0 0) [.ref 400, .int r, .int (nI j)] L M gAll (gPo (some (.int (if r = 3 then 0 else M 402 j))) L M) 0 0 := by
  refine gMet_of (lv := [some (.ref 400), some (.int r), some (.int (nI j))]) (by decide) rfl (Nat.le_of_ble_eq_true rfl) rfl ?_
  refine V_il1 1 d_Mo_sayer_0 rfl ?_
  refine V_iconst 2 (v := 3) (by decide) d_Mo_sayer_1 rfl ?_
  refine V_icmp_ne 9 5 d_Mo_sayer_2 (by decide) rfl (fun h2 => ?_) (fun h2 => ?_)
  · refine V_al0 10 d_Mo_sayer_9 rfl ?_
    refine V_getr 13 6 (lM hM) kc_Mo (by decide) fl_Mo_13 (Or.inl rfl) rfl d_Mo_sayer_10 rfl ?_
    refine V_il2 14 d_Mo_sayer_13 rfl ?_
    refine V_ialn 15 (j) (lM402 hM) rfl hj (by decide) d_Mo_sayer_14 rfl ?_
    exact V_iret rfl d_Mo_sayer_15 ⟨by rw [if_neg h2], rfl, rfl⟩
  · refine V_iconst 6 (v := 0) (by decide) d_Mo_sayer_5 rfl ?_
    refine V_goto 15 d_Mo_sayer_6 (by decide) ?_
    exact V_iret rfl d_Mo_sayer_15 ⟨by rw [if_pos h2], rfl, rfl⟩
def dnM (M : gMe) (p : Int32) (r o : Nat) (v : Int32) : gMe := if r = 0 then M else if r = 1 then gst M 403 o v else if r = 2 then (if pIn v 0 5 then gst M 402 o v else gst M 401 o 0) else gst (gst (gst M 401 o 1) 402 o p) 403 o v
def dnR (M : gMe) (r o : Nat) : Int32 := if r = 2 then M 402 o else if r = 3 then 0 else M 403 o
set_option maxRecDepth 100000 in
set_option maxHeartbeats 4000000 in
theorem c_Mo_done0 (l : Launch) (G : gG) (L : gLy) (M : gMe) (hM : gLM L) (p v : Int32) (o : Nat) (ho : o < 6) : gMet l G y_Mo_done b_Mo_done 6 (some FieldType.int) (rmL 3 0 0) [.ref 400, .int p, .int 0, .int (nI o), .int v] L M gAll (gPo (some (.int (dnR M 0 o))) L (dnM M p 0 o v)) 0 0 := by
  refine gMet_of (lv := [some (.ref 400), some (.int p), some (.int 0), some (.int (nI o)), some (.int v), none]) (by decide) rfl (Nat.le_of_ble_eq_true rfl) rfl ?_
  refine V_il2 1 d_Mo_done_0 rfl ?_
  refine V_iconst 2 (v := 2) (by decide) d_Mo_done_1 rfl ?_
  refine V_icmp_ne 14 5 d_Mo_done_2 (by decide) rfl (fun _ => ?_) (fun h9 => absurd h9 (by decide))
  refine V_il2 15 d_Mo_done_14 rfl ?_
  refine V_iconst 16 (v := 3) (by decide) d_Mo_done_15 rfl ?_
  refine V_icmp_ne 23 19 d_Mo_done_16 (by decide) rfl (fun _ => ?_) (fun h9 => absurd h9 (by decide))
  refine V_al0 24 d_Mo_done_23 rfl ?_
  refine V_getr 27 7 (lM hM) kc_Mo (by decide) fl_Mo_17 (Or.inl rfl) rfl d_Mo_done_24 rfl ?_
  refine V_il3 28 d_Mo_done_27 rfl ?_
  refine V_ialn 29 (o) (lM403 hM) rfl ho (by decide) d_Mo_done_28 rfl ?_
  refine V_is5 31 d_Mo_done_29 (by decide) rfl ?_
  refine V_il2 32 d_Mo_done_31 rfl ?_
  refine V_iconst 33 (v := 3) (by decide) d_Mo_done_32 rfl ?_
  refine V_icmp_ne 43 36 d_Mo_done_33 (by decide) rfl (fun _ => ?_) (fun h9 => absurd h9 (by decide))
  refine V_il2 44 d_Mo_done_43 rfl ?_
  refine V_iconst 45 (v := 2) (by decide) d_Mo_done_44 rfl ?_
  refine V_icmp_ne 63 48 d_Mo_done_45 (by decide) rfl (fun _ => ?_) (fun h9 => absurd h9 (by decide))
  refine V_al0 64 d_Mo_done_63 rfl ?_
  refine V_getr 67 6 (lM hM) kc_Mo (by decide) fl_Mo_13 (Or.inl rfl) rfl d_Mo_done_64 rfl ?_
  refine V_il3 68 d_Mo_done_67 rfl ?_
  refine V_il2 69 d_Mo_done_68 rfl ?_
  refine V_iconst 70 (v := 3) (by decide) d_Mo_done_69 rfl ?_
  refine V_icmp_ne 77 73 d_Mo_done_70 (by decide) rfl (fun _ => ?_) (fun h9 => absurd h9 (by decide))
  refine V_il2 78 d_Mo_done_77 rfl ?_
  refine V_iconst 79 (v := 2) (by decide) d_Mo_done_78 rfl ?_
  refine V_icmp_ne 95 82 d_Mo_done_79 (by decide) rfl (fun _ => ?_) (fun h9 => absurd h9 (by decide))
  refine V_al0 96 d_Mo_done_95 rfl ?_
  refine V_getr 99 6 (lM hM) kc_Mo (by decide) fl_Mo_13 (Or.inl rfl) rfl d_Mo_done_96 rfl ?_
  refine V_il3 100 d_Mo_done_99 rfl ?_
  refine V_ialn 101 (o) (lM402 hM) rfl ho (by decide) d_Mo_done_100 rfl ?_
  refine V_iasn 102 (o) (lM402 hM) rfl ho (by decide) d_Mo_done_101 rfl ?_
  refine V_al0 103 d_Mo_done_102 rfl ?_
  refine V_getr 106 7 (lM hM) kc_Mo (by decide) fl_Mo_17 (Or.inl rfl) rfl d_Mo_done_103 rfl ?_
  refine V_il3 107 d_Mo_done_106 rfl ?_
  refine V_il2 108 d_Mo_done_107 rfl ?_
  refine V_iconst 109 (v := 1) (by decide) d_Mo_done_108 rfl ?_
  refine V_icmp_eq 117 112 d_Mo_done_109 (by decide) rfl (fun h9 => absurd h9 (by decide)) (fun _ => ?_)
  refine V_il2 113 d_Mo_done_112 rfl ?_
  refine V_iconst 114 (v := 3) (by decide) d_Mo_done_113 rfl ?_
  refine V_icmp_ne 122 117 d_Mo_done_114 (by decide) rfl (fun _ => ?_) (fun h9 => absurd h9 (by decide))
  refine V_al0 123 d_Mo_done_122 rfl ?_
  refine V_getr 126 7 (lM hM) kc_Mo (by decide) fl_Mo_17 (Or.inl rfl) rfl d_Mo_done_123 rfl ?_
  refine V_il3 127 d_Mo_done_126 rfl ?_
  refine V_ialn 128 (o) (lM403 hM) rfl ho (by decide) d_Mo_done_127 rfl ?_
  refine V_iasn 129 (o) (lM403 hM) rfl ho (by decide) d_Mo_done_128 rfl ?_
  refine V_il5 131 d_Mo_done_129 rfl ?_
  exact V_iret rfl d_Mo_done_131 ⟨rfl, rfl, by rw [gst_self, gst_self]; rfl⟩
set_option maxRecDepth 100000 in
set_option maxHeartbeats 4000000 in
theorem c_Mo_done1 (l : Launch) (G : gG) (L : gLy) (M : gMe) (hM : gLM L) (p v : Int32) (o : Nat) (ho : o < 6) : gMet l G y_Mo_done b_Mo_done 6 (some FieldType.int) (rmL 3 0 0) [.ref 400, .int p, .int 1, .int (nI o), .int v] L M gAll (gPo (some (.int (dnR M 1 o))) L (dnM M p 1 o v)) 0 0 := by
  refine gMet_of (lv := [some (.ref 400), some (.int p), some (.int 1), some (.int (nI o)), some (.int v), none]) (by decide) rfl (Nat.le_of_ble_eq_true rfl) rfl ?_
  refine V_il2 1 d_Mo_done_0 rfl ?_
  refine V_iconst 2 (v := 2) (by decide) d_Mo_done_1 rfl ?_
  refine V_icmp_ne 14 5 d_Mo_done_2 (by decide) rfl (fun _ => ?_) (fun h9 => absurd h9 (by decide))
  refine V_il2 15 d_Mo_done_14 rfl ?_
  refine V_iconst 16 (v := 3) (by decide) d_Mo_done_15 rfl ?_
  refine V_icmp_ne 23 19 d_Mo_done_16 (by decide) rfl (fun _ => ?_) (fun h9 => absurd h9 (by decide))
  refine V_al0 24 d_Mo_done_23 rfl ?_
  refine V_getr 27 7 (lM hM) kc_Mo (by decide) fl_Mo_17 (Or.inl rfl) rfl d_Mo_done_24 rfl ?_
  refine V_il3 28 d_Mo_done_27 rfl ?_
  refine V_ialn 29 (o) (lM403 hM) rfl ho (by decide) d_Mo_done_28 rfl ?_
  refine V_is5 31 d_Mo_done_29 (by decide) rfl ?_
  refine V_il2 32 d_Mo_done_31 rfl ?_
  refine V_iconst 33 (v := 3) (by decide) d_Mo_done_32 rfl ?_
  refine V_icmp_ne 43 36 d_Mo_done_33 (by decide) rfl (fun _ => ?_) (fun h9 => absurd h9 (by decide))
  refine V_il2 44 d_Mo_done_43 rfl ?_
  refine V_iconst 45 (v := 2) (by decide) d_Mo_done_44 rfl ?_
  refine V_icmp_ne 63 48 d_Mo_done_45 (by decide) rfl (fun _ => ?_) (fun h9 => absurd h9 (by decide))
  refine V_al0 64 d_Mo_done_63 rfl ?_
  refine V_getr 67 6 (lM hM) kc_Mo (by decide) fl_Mo_13 (Or.inl rfl) rfl d_Mo_done_64 rfl ?_
  refine V_il3 68 d_Mo_done_67 rfl ?_
  refine V_il2 69 d_Mo_done_68 rfl ?_
  refine V_iconst 70 (v := 3) (by decide) d_Mo_done_69 rfl ?_
  refine V_icmp_ne 77 73 d_Mo_done_70 (by decide) rfl (fun _ => ?_) (fun h9 => absurd h9 (by decide))
  refine V_il2 78 d_Mo_done_77 rfl ?_
  refine V_iconst 79 (v := 2) (by decide) d_Mo_done_78 rfl ?_
  refine V_icmp_ne 95 82 d_Mo_done_79 (by decide) rfl (fun _ => ?_) (fun h9 => absurd h9 (by decide))
  refine V_al0 96 d_Mo_done_95 rfl ?_
  refine V_getr 99 6 (lM hM) kc_Mo (by decide) fl_Mo_13 (Or.inl rfl) rfl d_Mo_done_96 rfl ?_
  refine V_il3 100 d_Mo_done_99 rfl ?_
  refine V_ialn 101 (o) (lM402 hM) rfl ho (by decide) d_Mo_done_100 rfl ?_
  refine V_iasn 102 (o) (lM402 hM) rfl ho (by decide) d_Mo_done_101 rfl ?_
  refine V_al0 103 d_Mo_done_102 rfl ?_
  refine V_getr 106 7 (lM hM) kc_Mo (by decide) fl_Mo_17 (Or.inl rfl) rfl d_Mo_done_103 rfl ?_
  refine V_il3 107 d_Mo_done_106 rfl ?_
  refine V_il2 108 d_Mo_done_107 rfl ?_
  refine V_iconst 109 (v := 1) (by decide) d_Mo_done_108 rfl ?_
  refine V_icmp_eq 117 112 d_Mo_done_109 (by decide) rfl (fun _ => ?_) (fun h9 => absurd rfl h9)
  refine V_il4 119 d_Mo_done_117 rfl ?_
  refine V_goto 128 d_Mo_done_119 (by decide) ?_
  refine V_iasn 129 (o) (lM403 hM) rfl ho (by decide) d_Mo_done_128 rfl ?_
  refine V_il5 131 d_Mo_done_129 rfl ?_
  exact V_iret rfl d_Mo_done_131 ⟨rfl, rfl, by rw [gst_self]; rfl⟩
set_option maxRecDepth 100000 in
set_option maxHeartbeats 4000000 in
theorem c_Mo_done2 (l : Launch) (G : gG) (L : gLy) (M : gMe) (hM : gLM L) (p v : Int32) (o : Nat) (ho : o < 6) : gMet l G y_Mo_done b_Mo_done 6 (some FieldType.int) (rmL 3 0 0) [.ref 400, .int p, .int 2, .int (nI o), .int v] L M gAll (gPo (some (.int (dnR M 2 o))) L (dnM M p 2 o v)) 0 0 := by
  refine gMet_of (lv := [some (.ref 400), some (.int p), some (.int 2), some (.int (nI o)), some (.int v), none]) (by decide) rfl (Nat.le_of_ble_eq_true rfl) rfl ?_
  refine V_il2 1 d_Mo_done_0 rfl ?_
  refine V_iconst 2 (v := 2) (by decide) d_Mo_done_1 rfl ?_
  refine V_icmp_ne 14 5 d_Mo_done_2 (by decide) rfl (fun h9 => absurd h9 (not_not_intro rfl)) (fun _ => ?_)
  refine V_al0 6 d_Mo_done_5 rfl ?_
  refine V_getr 9 6 (lM hM) kc_Mo (by decide) fl_Mo_13 (Or.inl rfl) rfl d_Mo_done_6 rfl ?_
  refine V_il3 10 d_Mo_done_9 rfl ?_
  refine V_ialn 11 (o) (lM402 hM) rfl ho (by decide) d_Mo_done_10 rfl ?_
  refine V_goto 29 d_Mo_done_11 (by decide) ?_
  refine V_is5 31 d_Mo_done_29 (by decide) rfl ?_
  refine V_il2 32 d_Mo_done_31 rfl ?_
  refine V_iconst 33 (v := 3) (by decide) d_Mo_done_32 rfl ?_
  refine V_icmp_ne 43 36 d_Mo_done_33 (by decide) rfl (fun _ => ?_) (fun h9 => absurd h9 (by decide))
  refine V_il2 44 d_Mo_done_43 rfl ?_
  refine V_iconst 45 (v := 2) (by decide) d_Mo_done_44 rfl ?_
  refine V_icmp_ne 63 48 d_Mo_done_45 (by decide) rfl (fun h9 => absurd h9 (not_not_intro rfl)) (fun _ => ?_)
  refine V_il4 50 d_Mo_done_48 rfl ?_
  refine V_cS1 53 (c_Mo_isPerson l G _ _ v) ok_Mo_isPerson ml_Mo_116 st_Mo_isPerson (gRm_ok (by decide) (by decide)) rfl rfl (Nat.le_of_ble_eq_true rfl) d_Mo_done_50 ⟨Nat.le_of_ble_eq_true rfl, Nat.le_of_ble_eq_true rfl⟩ rfl ?_
  refine V_bn 63 56 d_Mo_done_53 (by decide) rfl (fun h53 => ?_) (fun h53 => ?_)
  · refine V_al0 64 d_Mo_done_63 rfl ?_
    refine V_getr 67 6 (lM hM) kc_Mo (by decide) fl_Mo_13 (Or.inl rfl) rfl d_Mo_done_64 rfl ?_
    refine V_il3 68 d_Mo_done_67 rfl ?_
    refine V_il2 69 d_Mo_done_68 rfl ?_
    refine V_iconst 70 (v := 3) (by decide) d_Mo_done_69 rfl ?_
    refine V_icmp_ne 77 73 d_Mo_done_70 (by decide) rfl (fun _ => ?_) (fun h9 => absurd h9 (by decide))
    refine V_il2 78 d_Mo_done_77 rfl ?_
    refine V_iconst 79 (v := 2) (by decide) d_Mo_done_78 rfl ?_
    refine V_icmp_ne 95 82 d_Mo_done_79 (by decide) rfl (fun h9 => absurd h9 (not_not_intro rfl)) (fun _ => ?_)
    refine V_il4 84 d_Mo_done_82 rfl ?_
    refine V_cS1 87 (c_Mo_isPerson l G _ _ v) ok_Mo_isPerson ml_Mo_116 st_Mo_isPerson (gRm_ok (by decide) (by decide)) rfl rfl (Nat.le_of_ble_eq_true rfl) d_Mo_done_84 ⟨Nat.le_of_ble_eq_true rfl, Nat.le_of_ble_eq_true rfl⟩ rfl ?_
    refine V_bz 95 90 d_Mo_done_87 (by decide) rfl (fun h9 => absurd h53 h9) (fun _ => ?_)
    refine V_il4 92 d_Mo_done_90 rfl ?_
    refine V_goto 101 d_Mo_done_92 (by decide) ?_
    refine V_iasn 102 (o) (lM402 hM) rfl ho (by decide) d_Mo_done_101 rfl ?_
    refine V_al0 103 d_Mo_done_102 rfl ?_
    refine V_getr 106 7 (lM hM) kc_Mo (by decide) fl_Mo_17 (Or.inl rfl) rfl d_Mo_done_103 rfl ?_
    refine V_il3 107 d_Mo_done_106 rfl ?_
    refine V_il2 108 d_Mo_done_107 rfl ?_
    refine V_iconst 109 (v := 1) (by decide) d_Mo_done_108 rfl ?_
    refine V_icmp_eq 117 112 d_Mo_done_109 (by decide) rfl (fun h9 => absurd h9 (by decide)) (fun _ => ?_)
    refine V_il2 113 d_Mo_done_112 rfl ?_
    refine V_iconst 114 (v := 3) (by decide) d_Mo_done_113 rfl ?_
    refine V_icmp_ne 122 117 d_Mo_done_114 (by decide) rfl (fun _ => ?_) (fun h9 => absurd h9 (by decide))
    refine V_al0 123 d_Mo_done_122 rfl ?_
    refine V_getr 126 7 (lM hM) kc_Mo (by decide) fl_Mo_17 (Or.inl rfl) rfl d_Mo_done_123 rfl ?_
    refine V_il3 127 d_Mo_done_126 rfl ?_
    refine V_ialn 128 (o) (lM403 hM) rfl ho (by decide) d_Mo_done_127 rfl ?_
    refine V_iasn 129 (o) (lM403 hM) rfl ho (by decide) d_Mo_done_128 rfl ?_
    refine V_il5 131 d_Mo_done_129 rfl ?_
    exact V_iret rfl d_Mo_done_131 ⟨rfl, rfl, by rw [gst_self]; show _ = (if pIn v 0 5 then gst M 402 o v else gst M 401 o 0); rw [if_pos h53]⟩
  · refine V_al0 57 d_Mo_done_56 rfl ?_
    refine V_getr 60 5 (lM hM) kc_Mo (by decide) fl_Mo_7 (Or.inl rfl) rfl d_Mo_done_57 rfl ?_
    refine V_il3 61 d_Mo_done_60 rfl ?_
    refine V_iconst 62 (v := 0) (by decide) d_Mo_done_61 rfl ?_
    refine V_zasn 63 (o) (lM401 hM) rfl ho (by decide) rfl d_Mo_done_62 rfl ?_
    refine V_al0 64 d_Mo_done_63 rfl ?_
    refine V_getr 67 6 (lM hM) kc_Mo (by decide) fl_Mo_13 (Or.inl rfl) rfl d_Mo_done_64 rfl ?_
    refine V_il3 68 d_Mo_done_67 rfl ?_
    refine V_il2 69 d_Mo_done_68 rfl ?_
    refine V_iconst 70 (v := 3) (by decide) d_Mo_done_69 rfl ?_
    refine V_icmp_ne 77 73 d_Mo_done_70 (by decide) rfl (fun _ => ?_) (fun h9 => absurd h9 (by decide))
    refine V_il2 78 d_Mo_done_77 rfl ?_
    refine V_iconst 79 (v := 2) (by decide) d_Mo_done_78 rfl ?_
    refine V_icmp_ne 95 82 d_Mo_done_79 (by decide) rfl (fun h9 => absurd h9 (not_not_intro rfl)) (fun _ => ?_)
    refine V_il4 84 d_Mo_done_82 rfl ?_
    refine V_cS1 87 (c_Mo_isPerson l G _ _ v) ok_Mo_isPerson ml_Mo_116 st_Mo_isPerson (gRm_ok (by decide) (by decide)) rfl rfl (Nat.le_of_ble_eq_true rfl) d_Mo_done_84 ⟨Nat.le_of_ble_eq_true rfl, Nat.le_of_ble_eq_true rfl⟩ rfl ?_
    refine V_bz 95 90 d_Mo_done_87 (by decide) rfl (fun _ => ?_) (fun h9 => absurd h9 h53)
    refine V_al0 96 d_Mo_done_95 rfl ?_
    refine V_getr 99 6 (lM hM) kc_Mo (by decide) fl_Mo_13 (Or.inl rfl) rfl d_Mo_done_96 rfl ?_
    refine V_il3 100 d_Mo_done_99 rfl ?_
    refine V_ialn 101 (o) (lM402 hM) rfl ho (by decide) d_Mo_done_100 rfl ?_
    refine V_iasn 102 (o) (lM402 hM) rfl ho (by decide) d_Mo_done_101 rfl ?_
    refine V_al0 103 d_Mo_done_102 rfl ?_
    refine V_getr 106 7 (lM hM) kc_Mo (by decide) fl_Mo_17 (Or.inl rfl) rfl d_Mo_done_103 rfl ?_
    refine V_il3 107 d_Mo_done_106 rfl ?_
    refine V_il2 108 d_Mo_done_107 rfl ?_
    refine V_iconst 109 (v := 1) (by decide) d_Mo_done_108 rfl ?_
    refine V_icmp_eq 117 112 d_Mo_done_109 (by decide) rfl (fun h9 => absurd h9 (by decide)) (fun _ => ?_)
    refine V_il2 113 d_Mo_done_112 rfl ?_
    refine V_iconst 114 (v := 3) (by decide) d_Mo_done_113 rfl ?_
    refine V_icmp_ne 122 117 d_Mo_done_114 (by decide) rfl (fun _ => ?_) (fun h9 => absurd h9 (by decide))
    refine V_al0 123 d_Mo_done_122 rfl ?_
    refine V_getr 126 7 (lM hM) kc_Mo (by decide) fl_Mo_17 (Or.inl rfl) rfl d_Mo_done_123 rfl ?_
    refine V_il3 127 d_Mo_done_126 rfl ?_
    refine V_ialn 128 (o) (lM403 hM) rfl ho (by decide) d_Mo_done_127 rfl ?_
    refine V_iasn 129 (o) (lM403 hM) rfl ho (by decide) d_Mo_done_128 rfl ?_
    refine V_il5 131 d_Mo_done_129 rfl ?_
    exact V_iret rfl d_Mo_done_131 ⟨rfl, rfl, by rw [gst_self, gst_self]; show _ = (if pIn v 0 5 then gst M 402 o v else gst M 401 o 0); rw [if_neg h53]⟩
set_option maxRecDepth 100000 in
set_option maxHeartbeats 4000000 in
theorem c_Mo_done3 (l : Launch) (G : gG) (L : gLy) (M : gMe) (hM : gLM L) (p v : Int32) (o : Nat) (ho : o < 6) : gMet l G y_Mo_done b_Mo_done 6 (some FieldType.int) (rmL 3 0 0) [.ref 400, .int p, .int 3, .int (nI o), .int v] L M gAll (gPo (some (.int (dnR M 3 o))) L (dnM M p 3 o v)) 0 0 := by
  refine gMet_of (lv := [some (.ref 400), some (.int p), some (.int 3), some (.int (nI o)), some (.int v), none]) (by decide) rfl (Nat.le_of_ble_eq_true rfl) rfl ?_
  refine V_il2 1 d_Mo_done_0 rfl ?_
  refine V_iconst 2 (v := 2) (by decide) d_Mo_done_1 rfl ?_
  refine V_icmp_ne 14 5 d_Mo_done_2 (by decide) rfl (fun _ => ?_) (fun h9 => absurd h9 (by decide))
  refine V_il2 15 d_Mo_done_14 rfl ?_
  refine V_iconst 16 (v := 3) (by decide) d_Mo_done_15 rfl ?_
  refine V_icmp_ne 23 19 d_Mo_done_16 (by decide) rfl (fun h9 => absurd h9 (not_not_intro rfl)) (fun _ => ?_)
  refine V_iconst 20 (v := 0) (by decide) d_Mo_done_19 rfl ?_
  refine V_goto 29 d_Mo_done_20 (by decide) ?_
  refine V_is5 31 d_Mo_done_29 (by decide) rfl ?_
  refine V_il2 32 d_Mo_done_31 rfl ?_
  refine V_iconst 33 (v := 3) (by decide) d_Mo_done_32 rfl ?_
  refine V_icmp_ne 43 36 d_Mo_done_33 (by decide) rfl (fun h9 => absurd h9 (not_not_intro rfl)) (fun _ => ?_)
  refine V_al0 37 d_Mo_done_36 rfl ?_
  refine V_getr 40 5 (lM hM) kc_Mo (by decide) fl_Mo_7 (Or.inl rfl) rfl d_Mo_done_37 rfl ?_
  refine V_il3 41 d_Mo_done_40 rfl ?_
  refine V_iconst 42 (v := 1) (by decide) d_Mo_done_41 rfl ?_
  refine V_zasn 43 (o) (lM401 hM) rfl ho (by decide) rfl d_Mo_done_42 rfl ?_
  refine V_il2 44 d_Mo_done_43 rfl ?_
  refine V_iconst 45 (v := 2) (by decide) d_Mo_done_44 rfl ?_
  refine V_icmp_ne 63 48 d_Mo_done_45 (by decide) rfl (fun _ => ?_) (fun h9 => absurd h9 (by decide))
  refine V_al0 64 d_Mo_done_63 rfl ?_
  refine V_getr 67 6 (lM hM) kc_Mo (by decide) fl_Mo_13 (Or.inl rfl) rfl d_Mo_done_64 rfl ?_
  refine V_il3 68 d_Mo_done_67 rfl ?_
  refine V_il2 69 d_Mo_done_68 rfl ?_
  refine V_iconst 70 (v := 3) (by decide) d_Mo_done_69 rfl ?_
  refine V_icmp_ne 77 73 d_Mo_done_70 (by decide) rfl (fun h9 => absurd h9 (not_not_intro rfl)) (fun _ => ?_)
  refine V_il1 74 d_Mo_done_73 rfl ?_
  refine V_goto 101 d_Mo_done_74 (by decide) ?_
  refine V_iasn 102 (o) (lM402 hM) rfl ho (by decide) d_Mo_done_101 rfl ?_
  refine V_al0 103 d_Mo_done_102 rfl ?_
  refine V_getr 106 7 (lM hM) kc_Mo (by decide) fl_Mo_17 (Or.inl rfl) rfl d_Mo_done_103 rfl ?_
  refine V_il3 107 d_Mo_done_106 rfl ?_
  refine V_il2 108 d_Mo_done_107 rfl ?_
  refine V_iconst 109 (v := 1) (by decide) d_Mo_done_108 rfl ?_
  refine V_icmp_eq 117 112 d_Mo_done_109 (by decide) rfl (fun h9 => absurd h9 (by decide)) (fun _ => ?_)
  refine V_il2 113 d_Mo_done_112 rfl ?_
  refine V_iconst 114 (v := 3) (by decide) d_Mo_done_113 rfl ?_
  refine V_icmp_ne 122 117 d_Mo_done_114 (by decide) rfl (fun h9 => absurd h9 (not_not_intro rfl)) (fun _ => ?_)
  refine V_il4 119 d_Mo_done_117 rfl ?_
  refine V_goto 128 d_Mo_done_119 (by decide) ?_
  refine V_iasn 129 (o) (lM403 hM) rfl ho (by decide) d_Mo_done_128 rfl ?_
  refine V_il5 131 d_Mo_done_129 rfl ?_
  exact V_iret rfl d_Mo_done_131 ⟨rfl, rfl, rfl⟩
def mPs (M : gMe) (n : Int32) : gMe := if pIn n 1 100 then gst (mF M) 400 1 (M 400 1 + n) else mF M
def mPr (M : gMe) (n : Int32) : Int32 := if pIn n 1 100 then M 400 1 + n else -1
set_option maxRecDepth 100000 in
set_option maxHeartbeats 4000000 in
theorem c_Mo_pass (l : Launch) (G : gG) (L : gLy) (M : gMe) (hM : gLM L) (n : Int32) : gMet l G y_Mo_pass b_Mo_pass 2 (some FieldType.int) (rmL 2 0 0) [.ref 400, .int n] L M gAll (gPo (some (.int (mPr M n))) L (mPs M n)) 0 0 := by
  refine gMet_of (lv := [some (.ref 400), some (.int n)]) (by decide) rfl (Nat.le_of_ble_eq_true rfl) rfl ?_
  refine V_al0 1 d_Mo_pass_0 rfl ?_
  refine V_iconst 2 (v := 0) (by decide) d_Mo_pass_1 rfl ?_
  refine V_puti 5 2 (lM hM) kc_Mo (by decide) fl_Mo_93 (Or.inl rfl) rfl rfl rfl rfl d_Mo_pass_2 rfl ?_
  refine V_il1 6 d_Mo_pass_5 rfl ?_
  refine V_iconst 7 (v := 1) (by decide) d_Mo_pass_6 rfl ?_
  refine V_bipush 9 (v := 100) (by decide) d_Mo_pass_7 rfl ?_
  refine V_cS1 12 (c_Mo_in l G _ _ _ _ _) ok_Mo_in ml_Mo_106 st_Mo_in (gRm_ok (by decide) (by decide)) rfl rfl (Nat.le_of_ble_eq_true rfl) d_Mo_pass_9 ⟨Nat.le_of_ble_eq_true rfl, Nat.le_of_ble_eq_true rfl⟩ rfl ?_
  refine V_bn 17 15 d_Mo_pass_12 (by decide) rfl (fun h12 => ?_) (fun h12 => ?_)
  · refine V_al0 18 d_Mo_pass_17 rfl ?_
    refine V_al0 19 d_Mo_pass_18 rfl ?_
    refine V_geti 22 1 (lM hM) kc_Mo (by decide) fl_Mo_141 (Or.inl rfl) rfl d_Mo_pass_19 rfl ?_
    refine V_il1 23 d_Mo_pass_22 rfl ?_
    refine V_iadd 24 d_Mo_pass_23 rfl ?_
    refine V_topi (z := M 400 1 + n) (by simp [gst_at]) ?_
    refine V_puti 27 1 (lM hM) kc_Mo (by decide) fl_Mo_141 (Or.inl rfl) rfl rfl rfl rfl d_Mo_pass_24 rfl ?_
    refine V_al0 28 d_Mo_pass_27 rfl ?_
    refine V_geti 31 1 (lM hM) kc_Mo (by decide) fl_Mo_141 (Or.inl rfl) rfl d_Mo_pass_28 rfl ?_
    exact V_iret rfl d_Mo_pass_31 ⟨by rw [mPr, if_pos h12, gst_same]; simp [upd], rfl, by rw [mPs, if_pos h12]; rfl⟩
  · refine V_iconst 16 (v := (-1)) (by decide) d_Mo_pass_15 rfl ?_
    exact V_iret rfl d_Mo_pass_16 ⟨by rw [mPr, if_neg h12], rfl, by rw [mPs, if_neg h12]; rfl⟩
set_option maxRecDepth 100000 in
set_option maxHeartbeats 4000000 in
theorem c_Mo_owner (l : Launch) (G : gG) (L : gLy) (M : gMe) (hM : gLM L) (x : Int32) : gMet l G y_Mo_owner b_Mo_owner 2 (some FieldType.int) (rmL 2 0 0) [.ref 400, .int x] L M gAll (gPo (some (.int (if pIn x 0 5 ∧ ¬ M 401 x.toNatClampNeg = 0 then M 402 x.toNatClampNeg else -1))) L (mF M)) 0 0 := by
  refine gMet_of (lv := [some (.ref 400), some (.int x)]) (by decide) rfl (Nat.le_of_ble_eq_true rfl) rfl ?_
  refine V_al0 1 d_Mo_owner_0 rfl ?_
  refine V_iconst 2 (v := 0) (by decide) d_Mo_owner_1 rfl ?_
  refine V_puti 5 2 (lM hM) kc_Mo (by decide) fl_Mo_93 (Or.inl rfl) rfl rfl rfl rfl d_Mo_owner_2 rfl ?_
  refine V_il1 6 d_Mo_owner_5 rfl ?_
  refine V_iconst 7 (v := 0) (by decide) d_Mo_owner_6 rfl ?_
  refine V_iconst 8 (v := 5) (by decide) d_Mo_owner_7 rfl ?_
  refine V_cS1 11 (c_Mo_in l G _ _ _ _ _) ok_Mo_in ml_Mo_106 st_Mo_in (gRm_ok (by decide) (by decide)) rfl rfl (Nat.le_of_ble_eq_true rfl) d_Mo_owner_8 ⟨Nat.le_of_ble_eq_true rfl, Nat.le_of_ble_eq_true rfl⟩ rfl ?_
  refine V_bz 32 14 d_Mo_owner_11 (by decide) rfl (fun h11 => ?_) (fun h11 => ?_)
  · refine V_iconst 33 (v := (-1)) (by decide) d_Mo_owner_32 rfl ?_
    exact V_iret rfl d_Mo_owner_33 ⟨by rw [if_neg (fun h => h11 h.1)], rfl, rfl⟩
  · obtain ⟨j, hj, hx⟩ := pIn0 (k := 5) (by decide) h11
    have hc9 : x.toNatClampNeg = j := by rw [hx]; exact nI_clamp (by omega)
    refine V_al0 15 d_Mo_owner_14 rfl ?_
    refine V_getr 18 5 (lM hM) kc_Mo (by decide) fl_Mo_7 (Or.inl rfl) rfl d_Mo_owner_15 rfl ?_
    refine V_il1 19 d_Mo_owner_18 rfl ?_
    refine V_zaln 20 (j) (lM401 hM) hx (by omega) (by decide) d_Mo_owner_19 rfl ?_
    refine V_topi (z := M 401 j) (by rw [gst_ne _ _ _ _ (by decide)]) ?_
    refine V_if_eq 32 23 d_Mo_owner_20 (by decide) rfl (fun h20 => ?_) (fun h20 => ?_)
    · refine V_iconst 33 (v := (-1)) (by decide) d_Mo_owner_32 rfl ?_
      exact V_iret rfl d_Mo_owner_33 ⟨by rw [hc9, if_neg (fun h => h.2 h20)], rfl, rfl⟩
    · refine V_al0 24 d_Mo_owner_23 rfl ?_
      refine V_getr 27 6 (lM hM) kc_Mo (by decide) fl_Mo_13 (Or.inl rfl) rfl d_Mo_owner_24 rfl ?_
      refine V_il1 28 d_Mo_owner_27 rfl ?_
      refine V_ialn 29 (j) (lM402 hM) hx (by omega) (by decide) d_Mo_owner_28 rfl ?_
      refine V_goto 33 d_Mo_owner_29 (by decide) ?_
      exact V_iret rfl d_Mo_owner_33 ⟨by rw [hc9, if_pos ⟨h11, h20⟩, gst_ne _ _ _ _ (by decide)], rfl, rfl⟩

/-! the checker's step as one answer, and the whole proof -/
theorem faB_ne {M : gMe} {w z : Nat} (n : Nat) {b : Nat} (h : b ≠ w) : faB M w z n b = M b := by
  induction n with
  | zero => rfl
  | succ n ih =>
    show gst (faB M w z n) w n (faB M w z n z n) b = M b
    rw [gst_ne _ _ _ _ h, ih]
theorem faS_ne {M : gMe} {w c n : Nat} {b : Nat} (h : b ≠ w) : faS M w c n b = M b := by
  unfold faS
  simp only [gst_ne _ _ _ _ h]
theorem hoM_ne {M : gMe} {x z w : Nat} {b : Nat} (h : b ≠ w) : hoM M x z w b = M b := by
  unfold hoM
  split
  · rw [gst_ne _ _ _ _ h, faB_ne _ h]
  · rfl
theorem tdM_ne {M : gMe} {x z w : Nat} {b : Nat} (h : b ≠ w) : tdM M x z w b = M b := by
  unfold tdM
  split
  · rw [gst_ne _ _ _ _ h, hoM_ne h]
  · rfl
theorem imM_ne {M : gMe} {c n z w : Nat} {b : Nat} (h : b ≠ w) : imM M c n z w b = M b := by
  unfold imM
  split
  · rw [gst_ne _ _ _ _ h, faB_ne _ h]
  · rfl
def joR (u : Int32) (M : gMe) (x z w : Nat) : Int32 × gMe :=
  if u = 2 then (bi (pJ2 M x z), jM2 M x z w) else if u = 3 then (bi (pJ3 M x z), jM3 M x z w) else if u = 4 then (bi (pJ4 M x z), jM4 M x z w) else if u = 5 then (bi (pJ5 M x z), jM5 M x z w) else if u = 6 then (bi (pJ6 M x z), jM6 M x z w) else (0, M)
def foR (c : Nat) (M : gMe) (u x z : Int32) (k : Nat) : Int32 × gMe :=
  if u = 1 then
    (if ¬ x < 1 ∧ ¬ nI c < x ∧ pVal M (cP x.toNatClampNeg) (M 4 1) ∧ ¬ M (cP x.toNatClampNeg) 1 = 3 then (1, faS M (100 + k) (cP x.toNatClampNeg) (cP x.toNatClampNeg + 1)) else (0, M))
  else if z < 0 ∨ ¬ z < nI k then (0, M)
  else if u = 7 then
    (if ¬ x < 1 ∧ ¬ nI c < x ∧ pVal M (cP x.toNatClampNeg) (M 4 1) then (bi (pIm M (cP x.toNatClampNeg) (cP x.toNatClampNeg + 1) (100 + z.toNatClampNeg)), imM M (cP x.toNatClampNeg) (cP x.toNatClampNeg + 1) (100 + z.toNatClampNeg) (100 + k)) else (0, M))
  else if x < 0 ∨ nI k ≤ x then (0, M)
  else joR u M (100 + x.toNatClampNeg) (100 + z.toNatClampNeg) (100 + k)
theorem joR_ne {u : Int32} {M : gMe} {x z w : Nat} {b : Nat} (h : b ≠ w) : (joR u M x z w).2 b = M b := by
  unfold joR
  repeat' split
  · simp only [jM2]; split
    · exact hoM_ne h
    · rfl
  · simp only [jM3]; split
    · exact hoM_ne h
    · rfl
  · simp only [jM4]; split
    · exact tdM_ne h
    · rfl
  · simp only [jM5]; split
    · exact hoM_ne h
    · rfl
  · simp only [jM6]; split
    · exact hoM_ne h
    · rfl
  · rfl
theorem foR_ne {c : Nat} {M : gMe} {u x z : Int32} {k : Nat} {b : Nat} (h : b ≠ 100 + k) : (foR c M u x z k).2 b = M b := by
  unfold foR
  repeat' split
  · exact faS_ne h
  · rfl
  · rfl
  · exact imM_ne h
  · rfl
  · rfl
  · exact joR_ne h
theorem nI_rng {x : Int32} {c : Nat} (hc : c < 100) (h1 : ¬ x < 1) (h2 : ¬ nI c < x) : ∃ n, 1 ≤ n ∧ n ≤ c ∧ x = nI n := by
  have h0 : ¬ x < 0 := fun h => h1 (by
    rw [Int32.lt_iff_toInt_lt] at h ⊢
    have e0 : (0 : Int32).toInt = 0 := by decide
    have e1 : (1 : Int32).toInt = 1 := by decide
    omega)
  obtain ⟨n, hn, rfl⟩ := nI_of h0
  refine ⟨n, ?_, ?_, rfl⟩
  · rcases Nat.lt_or_ge n 1 with h | h
    · exact absurd ((nI_ltI (b := 1) hn (by decide)).mpr h) h1
    · exact h
  · rcases Nat.lt_or_ge c n with h | h
    · exact absurd ((nI_ltI (by omega) hn).mpr h) h2
    · exact h
theorem nI_rng0 {x : Int32} {k : Nat} (hk : k < 100) (h1 : ¬ x < 0) (h2 : x < nI k) : ∃ j, j < k ∧ x = nI j := by
  obtain ⟨n, hn, rfl⟩ := nI_of h1
  exact ⟨n, (nI_ltI hn (by omega)).mp h2, rfl⟩
theorem i32_eqI {u : Int32} {n : Int} {v : Int32} (hv : v.toInt = n) (h : u.toInt = n) : u = v := Int32.toInt_inj.mp (h.trans hv.symm)
set_option maxHeartbeats 4000000 in
theorem c_Ck_follows (l : Launch) (G : gG) (L : gLy) (M : gMe) (hL : gLC L) (c : Nat) (hH : gLH L c) (hs : M 5 1 = nI c) (hc : c < 100) (k : Nat) (hk : k < 40) (u x z : Int32) : gMet l G y_Ck_follows b_Ck_follows 5 (some FieldType.boolean) (rmL 6 0 0) [.ref 20, .int u, .int x, .int z, .int (nI k)] L M gAll (gPo (some (.int (foR c M u x z k).1)) L (foR c M u x z k).2) 0 0 := by
  by_cases hu1 : u = 1
  · subst hu1
    by_cases hx : x < 1 ∨ nI c < x
    · have e : foR c M 1 x z k = (0, M) := by
        unfold foR
        rw [if_pos rfl, if_neg (fun h => hx.elim h.1 h.2.1)]
      rw [e]
      exact c_Ck_follows_4 l G L M hL c hH hs hc k hk x z hx
    · obtain ⟨n, h1, hn, rfl⟩ := nI_rng hc (fun h => hx (Or.inl h)) (fun h => hx (Or.inr h))
      have hcl : (nI n).toNatClampNeg = n := nI_clamp (by omega)
      by_cases hv : pVal M (cP n) (M 4 1)
      · by_cases hkd : M (cP n) 1 = 3
        · have e : foR c M 1 (nI n) z k = (0, M) := by
            unfold foR
            rw [if_pos rfl, hcl, if_neg (fun h => h.2.2.2 hkd)]
          rw [e]
          exact c_Ck_follows_2 l G L M hL c hH hs hc k hk n h1 hn hv hkd z
        · have e : foR c M 1 (nI n) z k = (1, faS M (100 + k) (cP n) (cP n + 1)) := by
            unfold foR
            rw [if_pos rfl, hcl, if_pos ⟨fun h => hx (Or.inl h), fun h => hx (Or.inr h), hv, hkd⟩]
          rw [e]
          exact c_Ck_follows_1 l G L M hL c hH hs hc k hk n h1 hn hv hkd z
      · have e : foR c M 1 (nI n) z k = (0, M) := by
          unfold foR
          rw [if_pos rfl, hcl, if_neg (fun h => hv h.2.2.1)]
        rw [e]
        exact c_Ck_follows_3 l G L M hL c hH hs hc k hk n h1 hn hv z
  · by_cases hz : z < 0 ∨ ¬ z < nI k
    · have e : foR c M u x z k = (0, M) := by
        unfold foR
        rw [if_neg hu1, if_pos hz]
      rw [e]
      exact c_Ck_follows_5 l G L M hL c hH hs hc k hk u x z hu1 hz
    · obtain ⟨j, hj, rfl⟩ := nI_rng0 (by omega) (fun h => hz (Or.inl h)) (Decidable.not_not.mp (fun h => hz (Or.inr h)))
      have hcj : (nI j).toNatClampNeg = j := nI_clamp (by omega)
      by_cases hu7 : u = 7
      · subst hu7
        by_cases hx : x < 1 ∨ nI c < x
        · have e : foR c M 7 x (nI j) k = (0, M) := by
            unfold foR
            rw [if_neg hu1, if_neg hz, if_pos rfl, if_neg (fun h => hx.elim h.1 h.2.1)]
          rw [e]
          exact c_Ck_follows_8 l G L M hL c hH hs hc k hk j hj x hx
        · obtain ⟨n, h1, hn, rfl⟩ := nI_rng hc (fun h => hx (Or.inl h)) (fun h => hx (Or.inr h))
          have hcl : (nI n).toNatClampNeg = n := nI_clamp (by omega)
          by_cases hv : pVal M (cP n) (M 4 1)
          · have e : foR c M 7 (nI n) (nI j) k = (bi (pIm M (cP n) (cP n + 1) (100 + j)), imM M (cP n) (cP n + 1) (100 + j) (100 + k)) := by
              unfold foR
              rw [if_neg hu1, if_neg hz, if_pos rfl, hcl, hcj, if_pos ⟨fun h => hx (Or.inl h), fun h => hx (Or.inr h), hv⟩]
            rw [e]
            exact c_Ck_follows_6 l G L M hL c hH hs hc k hk n h1 hn j hj hv
          · have e : foR c M 7 (nI n) (nI j) k = (0, M) := by
              unfold foR
              rw [if_neg hu1, if_neg hz, if_pos rfl, hcl, if_neg (fun h => hv h.2.2)]
            rw [e]
            exact c_Ck_follows_7 l G L M hL c hH hs hc k hk n h1 hn j hj hv
      · by_cases hx : x < 0 ∨ nI k ≤ x
        · have e : foR c M u x (nI j) k = (0, M) := by
            unfold foR
            rw [if_neg hu1, if_neg hz, if_neg hu7, if_pos hx]
          rw [e]
          exact c_Ck_follows_9 l G L M hL c hH hs hc k hk j hj u x hu1 hu7 hx
        · obtain ⟨i, hi, rfl⟩ := nI_rng0 (by omega) (fun h => hx (Or.inl h)) (Int32.not_le.mp (fun h => hx (Or.inr h)))
          have hci : (nI i).toNatClampNeg = i := nI_clamp (by omega)
          have e : foR c M u (nI i) (nI j) k = joR u M (100 + i) (100 + j) (100 + k) := by
            unfold foR
            rw [if_neg hu1, if_neg hz, if_neg hu7, if_neg hx, hci, hcj]
          rw [e]
          unfold joR
          by_cases h2 : u = 2
          · subst h2; exact c_Ck_follows_j2 l G L M hL c hH hs hc k hk j hj i hi
          · by_cases h3 : u = 3
            · subst h3; exact c_Ck_follows_j3 l G L M hL c hH hs hc k hk j hj i hi
            · by_cases h4 : u = 4
              · subst h4; exact c_Ck_follows_j4 l G L M hL c hH hs hc k hk j hj i hi
              · by_cases h5 : u = 5
                · subst h5; exact c_Ck_follows_j5 l G L M hL c hH hs hc k hk j hj i hi
                · by_cases h6 : u = 6
                  · subst h6; exact c_Ck_follows_j6 l G L M hL c hH hs hc k hk j hj i hi
                  · rw [if_neg h2, if_neg h3, if_neg h4, if_neg h5, if_neg h6]
                    refine c_Ck_follows_15 l G L M hL c hH hs hc k hk j hj i hi u hu1 hu7 ?_
                    have n2 : ¬ u.toInt = 2 := fun h => h2 (i32_eqI (by decide) h)
                    have n3 : ¬ u.toInt = 3 := fun h => h3 (i32_eqI (by decide) h)
                    have n4 : ¬ u.toInt = 4 := fun h => h4 (i32_eqI (by decide) h)
                    have n5 : ¬ u.toInt = 5 := fun h => h5 (i32_eqI (by decide) h)
                    have n6 : ¬ u.toInt = 6 := fun h => h6 (i32_eqI (by decide) h)
                    omega
def acR (c : Nat) : Nat → Nat → gMe → Int32 × gMe
  | 0, _, M => (1, M)
  | d + 1, k, M => if (foR c M (M 7 k) (M 8 k) (M 9 k) k).1 = 0 then (0, (foR c M (M 7 k) (M 8 k) (M 9 k) k).2) else acR c d (k + 1) (foR c M (M 7 k) (M 8 k) (M 9 k) k).2
abbrev pMay (M : gMe) (b : Nat) (a x r o : Int32) : Prop := M b 0 = 0 ∧ M b 1 = a ∧ M b 2 = x ∧ M b 3 = r ∧ M b 4 = o
def apR (c n : Nat) (M : gMe) (a p r o : Int32) : Int32 × gMe :=
  if (acR c n 0 M).1 = 0 then (0, (acR c n 0 M).2) else (bi (0 < n ∧ pMay (acR c n 0 M).2 (100 + (n - 1)) a p r o), (acR c n 0 M).2)
set_option maxRecDepth 100000 in
set_option maxHeartbeats 4000000 in
theorem c_Ck_accepts (l : Launch) (G : gG) (L : gLy) (M : gMe) (hL : gLC L) (c : Nat) (hH : gLH L c) (hs : M 5 1 = nI c) (hc : c < 100) (n : Nat) (hn : M 6 3 = nI n) (hn4 : n ≤ 40) (a p r o : Int32) : gMet l G y_Ck_accepts b_Ck_accepts 8 (some FieldType.boolean) (rmL 7 0 0) [.ref 20, .ref 6, .int a, .int p, .int r, .int o] L M gAll (gPo (some (.int (apR c n M a p r o).1)) L (apR c n M a p r o).2) 0 0 := by
  have lp : ∀ (d k : Nat) (M' : gMe), k + d = n → M' 5 1 = nI c → acR c d k M' = acR c n 0 M → V l G y_Ck_accepts b_Ck_accepts 8 (some FieldType.boolean) (rmL 7 0 0) 0 0 gAll (gPo (some (.int (apR c n M a p r o).1)) L (apR c n M a p r o).2) L (M') 0 0 [some (.ref 20), some (.ref 6), some (.int a), some (.int p), some (.int r), some (.int o), some (.int (nI n)), some (.int (nI k))] 9 [] := by
    intro d
    induction d with
    | zero =>
      intro k M' hk hs' hT
      obtain rfl : k = n := by omega
      have h1 : (acR c k 0 M).1 = 1 := by rw [← hT]; rfl
      have h2 : (acR c k 0 M).2 = M' := by rw [← hT]; rfl
      have e9 : apR c k M a p r o = (bi (0 < k ∧ pMay M' (100 + (k - 1)) a p r o), M') := by
        unfold apR; rw [if_neg (by rw [h1]; decide), h2]
      rw [e9]
      refine V_il7 11 d_Ck_accepts_9 rfl ?_
      refine V_il6 13 d_Ck_accepts_11 rfl ?_
      refine V_icmp_ge 51 16 d_Ck_accepts_13 (by decide) rfl (fun _ => ?_) (fun h9 => absurd (nI_le (Nat.le_refl k) (by omega)) h9)
      by_cases hs51 : 0 < k
      · refine V_il6 53 d_Ck_accepts_51 rfl ?_
        refine V_if_le 81 56 d_Ck_accepts_53 (by decide) rfl (fun h9 => absurd h9 (nI_nle hs51 (by omega))) (fun _ => ?_)
        refine V_al0 57 d_Ck_accepts_56 rfl ?_
        refine V_getr 60 1 (lC20 hL) kc_Ck (by decide) fl_Ck_11 (Or.inl rfl) rfl d_Ck_accepts_57 rfl ?_
        refine V_il6 62 d_Ck_accepts_60 rfl ?_
        refine V_iconst 63 (v := 1) (by decide) d_Ck_accepts_62 rfl ?_
        refine V_isub 64 d_Ck_accepts_63 rfl ?_
        refine V_aaln 65 (k - 1) (100 + (k - 1)) "ProofGate$Fact" (lC21 hL) rfl (nI_dm hs51) (by omega) (by decide) (if_pos (by omega)) d_Ck_accepts_64 rfl ?_
        refine V_il2 66 d_Ck_accepts_65 rfl ?_
        refine V_il3 67 d_Ck_accepts_66 rfl ?_
        refine V_il4 69 d_Ck_accepts_67 rfl ?_
        refine V_il5 71 d_Ck_accepts_69 rfl ?_
        refine V_cV1 74 (c_Fa_isMay l G _ _ (100 + (k - 1)) (lCF hL (by omega)) a p r o) ok_Fa_isMay ml_Ck_42 im_Fa_isMay se_Fa_isMay (lCF hL (by omega)) kc_Fa (gRm_ok (by decide) (by decide)) rfl rfl (Nat.le_of_ble_eq_true rfl) d_Ck_accepts_71 ⟨Nat.le_of_ble_eq_true rfl, Nat.le_of_ble_eq_true rfl⟩ rfl ?_
        refine V_bz 81 77 d_Ck_accepts_74 (by decide) rfl (fun h74 => ?_) (fun h74 => ?_)
        · refine V_iconst 82 (v := 0) (by decide) d_Ck_accepts_81 rfl ?_
          exact V_zret rfl rfl d_Ck_accepts_82 (gN (fun h => h74 h.2))
        · refine V_iconst 78 (v := 1) (by decide) d_Ck_accepts_77 rfl ?_
          refine V_goto 82 d_Ck_accepts_78 (by decide) ?_
          exact V_zret rfl rfl d_Ck_accepts_82 (gT ⟨hs51, h74⟩)
      · refine V_il6 53 d_Ck_accepts_51 rfl ?_
        refine V_if_le 81 56 d_Ck_accepts_53 (by decide) rfl (fun _ => ?_) (fun h9 => absurd (show nI k ≤ 0 by rw [show k = 0 by omega]; decide) h9)
        refine V_iconst 82 (v := 0) (by decide) d_Ck_accepts_81 rfl ?_
        exact V_zret rfl rfl d_Ck_accepts_82 (gN (fun h => hs51 h.1))
    | succ d ih =>
      intro k M' hk hs' hT
      have hl : k < n := by omega
      refine V_il7 11 d_Ck_accepts_9 rfl ?_
      refine V_il6 13 d_Ck_accepts_11 rfl ?_
      refine V_icmp_ge 51 16 d_Ck_accepts_13 (by decide) rfl (fun h9 => absurd h9 (nI_ge hl (by omega))) (fun _ => ?_)
      refine V_al0 17 d_Ck_accepts_16 rfl ?_
      refine V_al1 18 d_Ck_accepts_17 rfl ?_
      refine V_il7 20 d_Ck_accepts_18 rfl ?_
      refine V_cV1 23 (c_Pf_ruleAt l G _ _ 6 (lC6 hL) k (by omega)) ok_Pf_ruleAt ml_Ck_28 im_Pf_ruleAt se_Pf_ruleAt (lC6 hL).1 kc_Pf (gRm_ok (by decide) (by decide)) rfl rfl (Nat.le_of_ble_eq_true rfl) d_Ck_accepts_20 ⟨Nat.le_of_ble_eq_true rfl, Nat.le_of_ble_eq_true rfl⟩ rfl ?_
      refine V_al1 24 d_Ck_accepts_23 rfl ?_
      refine V_il7 26 d_Ck_accepts_24 rfl ?_
      refine V_cV1 29 (c_Pf_xAt l G _ _ 6 (lC6 hL) k (by omega)) ok_Pf_xAt ml_Ck_32 im_Pf_xAt se_Pf_xAt (lC6 hL).1 kc_Pf (gRm_ok (by decide) (by decide)) rfl rfl (Nat.le_of_ble_eq_true rfl) d_Ck_accepts_26 ⟨Nat.le_of_ble_eq_true rfl, Nat.le_of_ble_eq_true rfl⟩ rfl ?_
      refine V_al1 30 d_Ck_accepts_29 rfl ?_
      refine V_il7 32 d_Ck_accepts_30 rfl ?_
      refine V_cV1 35 (c_Pf_yAt l G _ _ 6 (lC6 hL) k (by omega)) ok_Pf_yAt ml_Ck_35 im_Pf_yAt se_Pf_yAt (lC6 hL).1 kc_Pf (gRm_ok (by decide) (by decide)) rfl rfl (Nat.le_of_ble_eq_true rfl) d_Ck_accepts_32 ⟨Nat.le_of_ble_eq_true rfl, Nat.le_of_ble_eq_true rfl⟩ rfl ?_
      refine V_il7 37 d_Ck_accepts_35 rfl ?_
      refine V_cV1 40 (c_Ck_follows l G _ _ hL c hH hs' hc k (by omega) _ _ _) ok_Ck_follows ml_Ck_38 im_Ck_follows se_Ck_follows (lC20 hL) kc_Ck (gRm_ok (by decide) (by decide)) rfl rfl (Nat.le_of_ble_eq_true rfl) d_Ck_accepts_37 ⟨Nat.le_of_ble_eq_true rfl, Nat.le_of_ble_eq_true rfl⟩ rfl ?_
      refine V_if_ne 45 43 d_Ck_accepts_40 (by decide) rfl (fun h40 => ?_) (fun h40 => ?_)
      · refine V_ii7 48 (v := 1) d_Ck_accepts_45 (by decide) (by decide) rfl ?_
        refine V_goto 9 d_Ck_accepts_48 (by decide) ?_
        rw [nI_1]
        exact ih (k + 1) _ (by omega) (by rw [foR_ne (by omega)]; exact hs') (by rw [← hT, acR, if_neg h40])
      · refine V_iconst 44 (v := 0) (by decide) d_Ck_accepts_43 rfl ?_
        have e9 : acR c n 0 M = (0, (foR c M' (M' 7 k) (M' 8 k) (M' 9 k) k).2) := by rw [← hT, acR, if_pos h40]
        exact V_zret rfl rfl d_Ck_accepts_44 ⟨by rw [apR, if_pos (by rw [e9])], rfl, by rw [apR, if_pos (by rw [e9]), e9]⟩
  refine gMet_of (lv := [some (.ref 20), some (.ref 6), some (.int a), some (.int p), some (.int r), some (.int o), none, none]) (by decide) rfl (Nat.le_of_ble_eq_true rfl) rfl ?_
  refine V_al1 1 d_Ck_accepts_0 rfl ?_
  refine V_cV1 4 (c_Pf_length l G _ _ 6 (lC6 hL)) ok_Pf_length ml_Ck_22 im_Pf_length se_Pf_length (lC6 hL).1 kc_Pf (gRm_ok (by decide) (by decide)) rfl rfl (Nat.le_of_ble_eq_true rfl) d_Ck_accepts_1 ⟨Nat.le_of_ble_eq_true rfl, Nat.le_of_ble_eq_true rfl⟩ rfl ?_
  refine V_topi hn ?_
  refine V_is6 6 d_Ck_accepts_4 (by decide) rfl ?_
  refine V_iconst 7 (v := 0) (by decide) d_Ck_accepts_6 rfl ?_
  refine V_is7 9 d_Ck_accepts_7 (by decide) rfl ?_
  exact lp n 0 M (by omega) hs rfl

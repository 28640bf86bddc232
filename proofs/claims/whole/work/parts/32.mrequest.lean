/-! the reference: submit, prove, request -/
def sbS (M : gMe) (n : Nat) (i k f t : Int32) : gMe := gst (gst (gst (gst (gst (gst (gst (gst (gst M 400 10 (nI n)) 404 n i) 405 n k) 406 n (M 413 0)) 407 n (M 413 1)) 408 n (M 413 2)) 409 n (M 413 3)) 410 n f) 411 n t
def sbI (c : Nat) (M : gMe) (i k f t s : Int32) : Int32 × gMe :=
  if ¬ (pIn i 0 5 ∧ pFit (mF M) k) then (0, gst (mF M) 400 2 1)
  else if ¬ slR (M 400 0) i k (M 413 0) (M 413 1) (M 413 2) (M 413 3) f t = s then (0, gst (mF M) 400 2 2)
  else if c = 24 then (0, gst (mF M) 400 2 3)
  else if pOut (mF M) then (0, gst (rcM (mF M)) 400 2 3)
  else (nI (c + 1), sbS (rcM (mF M)) (c + 1) i k f t)
theorem rcM_n {M : gMe} {k : Nat} (h : k ≠ 3) (h1 : k ≠ 21) (h2 : k ≠ 4) : rcM M 400 k = M 400 k := by
  unfold rcM
  split
  · rw [gst_at, if_pos rfl, if_neg h1, gst_at, if_pos rfl, if_neg h]
  · rw [gst_at, if_pos rfl, if_neg h2]
theorem rcM_a {M : gMe} {b : Nat} (h : b ≠ 400) : rcM M b = M b := by
  unfold rcM
  split
  · rw [gst_ne _ _ _ _ h, gst_ne _ _ _ _ h]
  · rw [gst_ne _ _ _ _ h]
theorem pfT_n {K : Nat → Nat → Nat} {o c g : Nat} {M : gMe} {S : Nat → Prop} {rk : Nat → Nat} (hg : g < 756) (hR : gRk (pfW K o c M) S rk) (hSg : ¬ pfW K o c M 421 g = 0 → S g) (hrk : rk g < 759) : ∃ n, n ≤ 756 ∧ pfN K o c g M = nI n := by
  by_cases h : pfW K o c M 421 g = 0
  · exact ⟨0, by omega, by rw [pfN, if_pos h]; rfl⟩
  · obtain ⟨w1, -, -⟩ := pfW_kn (K := K) (o := o) (c := c) (M := M)
    obtain ⟨-, ⟨n, h1, h2⟩, -⟩ := dfM_ok 759 0 (gst (pfW K o c M) 426 0 (nI g)) g hrk (hSg h) (hR.mv gDk.sk) pfW_md.sk (by rw [gst_ne _ _ _ _ (by decide), w1 g hg]; decide)
    refine ⟨n, by rw [← h2]; exact cntB_le _ _, ?_⟩
    rw [pfN, if_neg h, pfT, if_neg h]; exact h1
def prX (k : Nat) (M : gMe) : gMe := gst (gst (gst M 414 k (M 418 k)) 415 k (M 419 k)) 416 k (M 420 k)
def prI (K : Nat → Nat → Nat) (o c g : Nat) (M : gMe) : Int32 × gMe :=
  if pfN K o c g M = 0 then (-2, pfT K o c g M)
  else if ¬ pfN K o c g M ≤ 40 then (-3, pfT K o c g M)
  else (pfN K o c g M, itN prX (pfN K o c g M).toNatClampNeg 0 (gst (pfT K o c g M) 400 21 (pfN K o c g M)))
def rqT (gv N : Int32) (M : gMe) (p r o : Nat) (v : Int32) : Int32 × gMe :=
  if ¬ (¬ N < 1 ∧ N ≤ 40) then (0, gst (gst M 400 21 (if gv = 0 then M 400 21 else 0)) 400 2 3)
  else if pOut (gst M 400 21 (if gv = 0 then M 400 21 else 0)) then (0, gst (rcM (gst M 400 21 (if gv = 0 then M 400 21 else 0))) 400 2 4)
  else
    (dnR (gst (gst (rcM (gst M 400 21 (if gv = 0 then M 400 21 else 0))) 400 9 (((M 400 9 ^^^ nI p) * 31 + 8 * nI r + nI o) * 31 + N)) 400 8 (M 400 8 + 1)) r o,
     dnM (gst (gst (rcM (gst M 400 21 (if gv = 0 then M 400 21 else 0))) 400 9 (((M 400 9 ^^^ nI p) * 31 + 8 * nI r + nI o) * 31 + N)) 400 8 (M 400 8 + 1)) (nI p) r o v)
theorem c_Mo_done (l : Launch) (G : gG) (L : gLy) (M : gMe) (hM : gLM L) (p v : Int32) (r o : Nat) (hr : r < 4) (ho : o < 6) : gMet l G y_Mo_done b_Mo_done 6 (some FieldType.int) (rmL 3 0 0) [.ref 400, .int p, .int (nI r), .int (nI o), .int v] L M gAll (gPo (some (.int (dnR M r o))) L (dnM M p r o v)) 0 0 := by
  rcases (show r = 0 ∨ r = 1 ∨ r = 2 ∨ r = 3 by omega) with h | h | h | h <;> subst h
  · exact c_Mo_done0 l G L M hM p v o ho
  · exact c_Mo_done1 l G L M hM p v o ho
  · exact c_Mo_done2 l G L M hM p v o ho
  · exact c_Mo_done3 l G L M hM p v o ho
set_option maxRecDepth 100000 in
set_option maxHeartbeats 4000000 in
theorem c_Mo_submit (l : Launch) (G : gG) (L : gLy) (M : gMe) (hM : gLM L) (c : Nat) (hcm : M 400 10 = nI c) (hc : c < 25) (i k f t s : Int32) : gMet l G y_Mo_submit b_Mo_submit 7 (some FieldType.int) (rmL 4 0 0) [.ref 400, .int i, .int k, .int f, .int t, .int s] L M gAll (gPo (some (.int (sbI c M i k f t s).1)) L (sbI c M i k f t s).2) 0 0 := by
  refine gMet_of (lv := [some (.ref 400), some (.int i), some (.int k), some (.int f), some (.int t), some (.int s), none]) (by decide) rfl (Nat.le_of_ble_eq_true rfl) rfl ?_
  refine V_al0 1 d_Mo_submit_0 rfl ?_
  refine V_iconst 2 (v := 0) (by decide) d_Mo_submit_1 rfl ?_
  refine V_puti 5 2 (lM hM) kc_Mo (by decide) fl_Mo_93 (Or.inl rfl) rfl rfl rfl rfl d_Mo_submit_2 rfl ?_
  refine V_il1 6 d_Mo_submit_5 rfl ?_
  refine V_cS1 9 (c_Mo_isPerson l G _ (mF M) _) ok_Mo_isPerson ml_Mo_116 st_Mo_isPerson (gRm_ok (by decide) (by decide)) rfl rfl (Nat.le_of_ble_eq_true rfl) d_Mo_submit_6 ⟨Nat.le_of_ble_eq_true rfl, Nat.le_of_ble_eq_true rfl⟩ rfl ?_
  refine V_bz 20 12 d_Mo_submit_9 (by decide) rfl (fun h9 => ?_) (fun h9 => ?_)
  · refine V_al0 21 d_Mo_submit_20 rfl ?_
    refine V_iconst 22 (v := 1) (by decide) d_Mo_submit_21 rfl ?_
    refine V_cV1 25 (c_Mo_fails l G _ _ hM _) ok_Mo_fails ml_Mo_126 im_Mo_fails se_Mo_fails (lM hM) kc_Mo (gRm_ok (by decide) (by decide)) rfl rfl (Nat.le_of_ble_eq_true rfl) d_Mo_submit_22 ⟨Nat.le_of_ble_eq_true rfl, Nat.le_of_ble_eq_true rfl⟩ rfl ?_
    exact V_iret rfl d_Mo_submit_25 ⟨by rw [sbI, if_pos (fun h => h9 h.1)], rfl, by rw [sbI, if_pos (fun h => h9 h.1)]⟩
  · refine V_al0 13 d_Mo_submit_12 rfl ?_
    refine V_il2 14 d_Mo_submit_13 rfl ?_
    refine V_cV1 17 (c_Mo_isFit l G _ (mF M) hM _) ok_Mo_isFit ml_Mo_123 im_Mo_isFit se_Mo_isFit (lM hM) kc_Mo (gRm_ok (by decide) (by decide)) rfl rfl (Nat.le_of_ble_eq_true rfl) d_Mo_submit_14 ⟨Nat.le_of_ble_eq_true rfl, Nat.le_of_ble_eq_true rfl⟩ rfl ?_
    refine V_bn 26 20 d_Mo_submit_17 (by decide) rfl (fun h17 => ?_) (fun h17 => ?_)
    · refine V_al0 27 d_Mo_submit_26 rfl ?_
      refine V_il1 28 d_Mo_submit_27 rfl ?_
      refine V_il2 29 d_Mo_submit_28 rfl ?_
      refine V_al0 30 d_Mo_submit_29 rfl ?_
      refine V_getr 33 20 (lM hM) kc_Mo (by decide) fl_Mo_47 (Or.inl rfl) rfl d_Mo_submit_30 rfl ?_
      refine V_iconst 34 (v := 0) (by decide) d_Mo_submit_33 rfl ?_
      refine V_ialn 35 (0) (lM413 hM) rfl (by decide) (by decide) d_Mo_submit_34 rfl ?_
      refine V_topi (z := M 413 0) (by show mF M 413 0 = _; rw [mF_a (by decide)]) ?_
      refine V_al0 36 d_Mo_submit_35 rfl ?_
      refine V_getr 39 20 (lM hM) kc_Mo (by decide) fl_Mo_47 (Or.inl rfl) rfl d_Mo_submit_36 rfl ?_
      refine V_iconst 40 (v := 1) (by decide) d_Mo_submit_39 rfl ?_
      refine V_ialn 41 (1) (lM413 hM) rfl (by decide) (by decide) d_Mo_submit_40 rfl ?_
      refine V_topi (z := M 413 1) (by show mF M 413 1 = _; rw [mF_a (by decide)]) ?_
      refine V_al0 42 d_Mo_submit_41 rfl ?_
      refine V_getr 45 20 (lM hM) kc_Mo (by decide) fl_Mo_47 (Or.inl rfl) rfl d_Mo_submit_42 rfl ?_
      refine V_iconst 46 (v := 2) (by decide) d_Mo_submit_45 rfl ?_
      refine V_ialn 47 (2) (lM413 hM) rfl (by decide) (by decide) d_Mo_submit_46 rfl ?_
      refine V_topi (z := M 413 2) (by show mF M 413 2 = _; rw [mF_a (by decide)]) ?_
      refine V_al0 48 d_Mo_submit_47 rfl ?_
      refine V_getr 51 20 (lM hM) kc_Mo (by decide) fl_Mo_47 (Or.inl rfl) rfl d_Mo_submit_48 rfl ?_
      refine V_iconst 52 (v := 3) (by decide) d_Mo_submit_51 rfl ?_
      refine V_ialn 53 (3) (lM413 hM) rfl (by decide) (by decide) d_Mo_submit_52 rfl ?_
      refine V_topi (z := M 413 3) (by show mF M 413 3 = _; rw [mF_a (by decide)]) ?_
      refine V_il3 54 d_Mo_submit_53 rfl ?_
      refine V_il4 56 d_Mo_submit_54 rfl ?_
      refine V_cV1 59 (c_Mo_seal l G _ (mF M) hM _ _ _ _ _ _ _ _) ok_Mo_seal ml_Mo_130 im_Mo_seal se_Mo_seal (lM hM) kc_Mo (gRm_ok (by decide) (by decide)) rfl rfl (Nat.le_of_ble_eq_true rfl) d_Mo_submit_56 ⟨Nat.le_of_ble_eq_true rfl, Nat.le_of_ble_eq_true rfl⟩ rfl ?_
      rw [mF_F]
      refine V_topi (z := slR (M 400 0) i k (M 413 0) (M 413 1) (M 413 2) (M 413 3) f t) (by rw [mF_n (by decide)]) ?_
      refine V_il5 61 d_Mo_submit_59 rfl ?_
      refine V_icmp_eq 70 64 d_Mo_submit_61 (by decide) rfl (fun h61 => ?_) (fun h61 => ?_)
      · refine V_al0 71 d_Mo_submit_70 rfl ?_
        refine V_geti 74 10 (lM hM) kc_Mo (by decide) fl_Mo_134 (Or.inl rfl) rfl d_Mo_submit_71 rfl ?_
        refine V_topi (z := nI c) (by rw [mF_n (by decide)]; exact hcm) ?_
        refine V_bipush 76 (v := 24) (by decide) d_Mo_submit_74 rfl ?_
        refine V_icmp_eq 86 79 d_Mo_submit_76 (by decide) rfl (fun h76 => ?_) (fun h76 => ?_)
        · refine V_al0 87 d_Mo_submit_86 rfl ?_
          refine V_iconst 88 (v := 3) (by decide) d_Mo_submit_87 rfl ?_
          refine V_cV1 91 (c_Mo_fails l G _ _ hM _) ok_Mo_fails ml_Mo_126 im_Mo_fails se_Mo_fails (lM hM) kc_Mo (gRm_ok (by decide) (by decide)) rfl rfl (Nat.le_of_ble_eq_true rfl) d_Mo_submit_88 ⟨Nat.le_of_ble_eq_true rfl, Nat.le_of_ble_eq_true rfl⟩ rfl ?_
          exact V_iret rfl d_Mo_submit_91 ⟨by rw [sbI, if_neg (not_not_intro ⟨h9, h17⟩), if_neg (not_not_intro h61), if_pos ((nI_eq (by omega) (by decide)).mp h76)], rfl, by rw [sbI, if_neg (not_not_intro ⟨h9, h17⟩), if_neg (not_not_intro h61), if_pos ((nI_eq (by omega) (by decide)).mp h76)]⟩
        · refine V_al0 80 d_Mo_submit_79 rfl ?_
          refine V_cV1 83 (c_Mo_recorded l G _ (mF M) hM) ok_Mo_recorded ml_Mo_137 im_Mo_recorded se_Mo_recorded (lM hM) kc_Mo (gRm_ok (by decide) (by decide)) rfl rfl (Nat.le_of_ble_eq_true rfl) d_Mo_submit_80 ⟨Nat.le_of_ble_eq_true rfl, Nat.le_of_ble_eq_true rfl⟩ rfl ?_
          refine V_bn 92 86 d_Mo_submit_83 (by decide) rfl (fun h83 => ?_) (fun h83 => ?_)
          · have hc4 : c < 24 := by
              have : c ≠ 24 := fun h => h76 (by rw [h]; rfl)
              omega
            have ec : rcM (mF M) 400 10 = nI c := by rw [rcM_n (by decide) (by decide) (by decide), mF_n (by decide)]; exact hcm
            refine V_al0 93 d_Mo_submit_92 rfl ?_
            refine V_dup 94 rfl d_Mo_submit_93 rfl ?_
            refine V_geti 97 10 (lM hM) kc_Mo (by decide) fl_Mo_134 (Or.inl rfl) rfl d_Mo_submit_94 rfl ?_
            refine V_topi ec ?_
            refine V_iconst 98 (v := 1) (by decide) d_Mo_submit_97 rfl ?_
            refine V_iadd 99 d_Mo_submit_98 rfl ?_
            refine V_topi (nI_1 c) ?_
            refine V_puti 102 10 (lM hM) kc_Mo (by decide) fl_Mo_134 (Or.inl rfl) rfl rfl rfl rfl d_Mo_submit_99 rfl ?_
            refine V_al0 103 d_Mo_submit_102 rfl ?_
            refine V_geti 106 10 (lM hM) kc_Mo (by decide) fl_Mo_134 (Or.inl rfl) rfl d_Mo_submit_103 rfl ?_
            refine V_topi (z := nI (c + 1)) (by rw [gst_at, if_pos rfl, if_pos rfl]) ?_
            refine V_is6 108 d_Mo_submit_106 (by decide) rfl ?_
            refine V_al0 109 d_Mo_submit_108 rfl ?_
            refine V_getr 112 11 (lM hM) kc_Mo (by decide) fl_Mo_20 (Or.inl rfl) rfl d_Mo_submit_109 rfl ?_
            refine V_il6 114 d_Mo_submit_112 rfl ?_
            refine V_il1 115 d_Mo_submit_114 rfl ?_
            refine V_iasn 116 (c + 1) (lM404 hM) rfl (by omega) (by decide) d_Mo_submit_115 rfl ?_
            refine V_al0 117 d_Mo_submit_116 rfl ?_
            refine V_getr 120 12 (lM hM) kc_Mo (by decide) fl_Mo_23 (Or.inl rfl) rfl d_Mo_submit_117 rfl ?_
            refine V_il6 122 d_Mo_submit_120 rfl ?_
            refine V_il2 123 d_Mo_submit_122 rfl ?_
            refine V_iasn 124 (c + 1) (lM405 hM) rfl (by omega) (by decide) d_Mo_submit_123 rfl ?_
            refine V_al0 125 d_Mo_submit_124 rfl ?_
            refine V_getr 128 13 (lM hM) kc_Mo (by decide) fl_Mo_26 (Or.inl rfl) rfl d_Mo_submit_125 rfl ?_
            refine V_il6 130 d_Mo_submit_128 rfl ?_
            refine V_al0 131 d_Mo_submit_130 rfl ?_
            refine V_getr 134 20 (lM hM) kc_Mo (by decide) fl_Mo_47 (Or.inl rfl) rfl d_Mo_submit_131 rfl ?_
            refine V_iconst 135 (v := 0) (by decide) d_Mo_submit_134 rfl ?_
            refine V_ialn 136 (0) (lM413 hM) rfl (by decide) (by decide) d_Mo_submit_135 rfl ?_
            refine V_topi (z := rcM (mF M) 413 0) (by rw [gst_ne _ _ _ _ (by decide), gst_ne _ _ _ _ (by decide), gst_ne _ _ _ _ (by decide)]) ?_
            refine V_iasn 137 (c + 1) (lM406 hM) rfl (by omega) (by decide) d_Mo_submit_136 rfl ?_
            refine V_al0 138 d_Mo_submit_137 rfl ?_
            refine V_getr 141 14 (lM hM) kc_Mo (by decide) fl_Mo_29 (Or.inl rfl) rfl d_Mo_submit_138 rfl ?_
            refine V_il6 143 d_Mo_submit_141 rfl ?_
            refine V_al0 144 d_Mo_submit_143 rfl ?_
            refine V_getr 147 20 (lM hM) kc_Mo (by decide) fl_Mo_47 (Or.inl rfl) rfl d_Mo_submit_144 rfl ?_
            refine V_iconst 148 (v := 1) (by decide) d_Mo_submit_147 rfl ?_
            refine V_ialn 149 (1) (lM413 hM) rfl (by decide) (by decide) d_Mo_submit_148 rfl ?_
            refine V_topi (z := rcM (mF M) 413 1) (by rw [gst_ne _ _ _ _ (by decide), gst_ne _ _ _ _ (by decide), gst_ne _ _ _ _ (by decide), gst_ne _ _ _ _ (by decide)]) ?_
            refine V_iasn 150 (c + 1) (lM407 hM) rfl (by omega) (by decide) d_Mo_submit_149 rfl ?_
            refine V_al0 151 d_Mo_submit_150 rfl ?_
            refine V_getr 154 15 (lM hM) kc_Mo (by decide) fl_Mo_32 (Or.inl rfl) rfl d_Mo_submit_151 rfl ?_
            refine V_il6 156 d_Mo_submit_154 rfl ?_
            refine V_al0 157 d_Mo_submit_156 rfl ?_
            refine V_getr 160 20 (lM hM) kc_Mo (by decide) fl_Mo_47 (Or.inl rfl) rfl d_Mo_submit_157 rfl ?_
            refine V_iconst 161 (v := 2) (by decide) d_Mo_submit_160 rfl ?_
            refine V_ialn 162 (2) (lM413 hM) rfl (by decide) (by decide) d_Mo_submit_161 rfl ?_
            refine V_topi (z := rcM (mF M) 413 2) (by rw [gst_ne _ _ _ _ (by decide), gst_ne _ _ _ _ (by decide), gst_ne _ _ _ _ (by decide), gst_ne _ _ _ _ (by decide), gst_ne _ _ _ _ (by decide)]) ?_
            refine V_iasn 163 (c + 1) (lM408 hM) rfl (by omega) (by decide) d_Mo_submit_162 rfl ?_
            refine V_al0 164 d_Mo_submit_163 rfl ?_
            refine V_getr 167 16 (lM hM) kc_Mo (by decide) fl_Mo_35 (Or.inl rfl) rfl d_Mo_submit_164 rfl ?_
            refine V_il6 169 d_Mo_submit_167 rfl ?_
            refine V_al0 170 d_Mo_submit_169 rfl ?_
            refine V_getr 173 20 (lM hM) kc_Mo (by decide) fl_Mo_47 (Or.inl rfl) rfl d_Mo_submit_170 rfl ?_
            refine V_iconst 174 (v := 3) (by decide) d_Mo_submit_173 rfl ?_
            refine V_ialn 175 (3) (lM413 hM) rfl (by decide) (by decide) d_Mo_submit_174 rfl ?_
            refine V_topi (z := rcM (mF M) 413 3) (by rw [gst_ne _ _ _ _ (by decide), gst_ne _ _ _ _ (by decide), gst_ne _ _ _ _ (by decide), gst_ne _ _ _ _ (by decide), gst_ne _ _ _ _ (by decide), gst_ne _ _ _ _ (by decide)]) ?_
            refine V_iasn 176 (c + 1) (lM409 hM) rfl (by omega) (by decide) d_Mo_submit_175 rfl ?_
            refine V_al0 177 d_Mo_submit_176 rfl ?_
            refine V_getr 180 17 (lM hM) kc_Mo (by decide) fl_Mo_38 (Or.inl rfl) rfl d_Mo_submit_177 rfl ?_
            refine V_il6 182 d_Mo_submit_180 rfl ?_
            refine V_il3 183 d_Mo_submit_182 rfl ?_
            refine V_iasn 184 (c + 1) (lM410 hM) rfl (by omega) (by decide) d_Mo_submit_183 rfl ?_
            refine V_al0 185 d_Mo_submit_184 rfl ?_
            refine V_getr 188 18 (lM hM) kc_Mo (by decide) fl_Mo_41 (Or.inl rfl) rfl d_Mo_submit_185 rfl ?_
            refine V_il6 190 d_Mo_submit_188 rfl ?_
            refine V_il4 192 d_Mo_submit_190 rfl ?_
            refine V_iasn 193 (c + 1) (lM411 hM) rfl (by omega) (by decide) d_Mo_submit_192 rfl ?_
            refine V_il6 195 d_Mo_submit_193 rfl ?_
            exact V_iret rfl d_Mo_submit_195 ⟨by rw [sbI, if_neg (not_not_intro ⟨h9, h17⟩), if_neg (not_not_intro h61), if_neg (by omega), if_neg h83], rfl, by rw [sbI, if_neg (not_not_intro ⟨h9, h17⟩), if_neg (not_not_intro h61), if_neg (by omega), if_neg h83]; rfl⟩
          · refine V_al0 87 d_Mo_submit_86 rfl ?_
            refine V_iconst 88 (v := 3) (by decide) d_Mo_submit_87 rfl ?_
            refine V_cV1 91 (c_Mo_fails l G _ _ hM _) ok_Mo_fails ml_Mo_126 im_Mo_fails se_Mo_fails (lM hM) kc_Mo (gRm_ok (by decide) (by decide)) rfl rfl (Nat.le_of_ble_eq_true rfl) d_Mo_submit_88 ⟨Nat.le_of_ble_eq_true rfl, Nat.le_of_ble_eq_true rfl⟩ rfl ?_
            exact V_iret rfl d_Mo_submit_91 ⟨by rw [sbI, if_neg (not_not_intro ⟨h9, h17⟩), if_neg (not_not_intro h61), if_neg (fun h => h76 (by rw [h]; rfl)), if_pos (Decidable.not_not.mp h83)], rfl, by rw [sbI, if_neg (not_not_intro ⟨h9, h17⟩), if_neg (not_not_intro h61), if_neg (fun h => h76 (by rw [h]; rfl)), if_pos (Decidable.not_not.mp h83)]⟩
      · refine V_al0 65 d_Mo_submit_64 rfl ?_
        refine V_iconst 66 (v := 2) (by decide) d_Mo_submit_65 rfl ?_
        refine V_cV1 69 (c_Mo_fails l G _ _ hM _) ok_Mo_fails ml_Mo_126 im_Mo_fails se_Mo_fails (lM hM) kc_Mo (gRm_ok (by decide) (by decide)) rfl rfl (Nat.le_of_ble_eq_true rfl) d_Mo_submit_66 ⟨Nat.le_of_ble_eq_true rfl, Nat.le_of_ble_eq_true rfl⟩ rfl ?_
        exact V_iret rfl d_Mo_submit_69 ⟨by rw [sbI, if_neg (not_not_intro ⟨h9, h17⟩), if_pos h61], rfl, by rw [sbI, if_neg (not_not_intro ⟨h9, h17⟩), if_pos h61]⟩
    · refine V_al0 21 d_Mo_submit_20 rfl ?_
      refine V_iconst 22 (v := 1) (by decide) d_Mo_submit_21 rfl ?_
      refine V_cV1 25 (c_Mo_fails l G _ _ hM _) ok_Mo_fails ml_Mo_126 im_Mo_fails se_Mo_fails (lM hM) kc_Mo (gRm_ok (by decide) (by decide)) rfl rfl (Nat.le_of_ble_eq_true rfl) d_Mo_submit_22 ⟨Nat.le_of_ble_eq_true rfl, Nat.le_of_ble_eq_true rfl⟩ rfl ?_
      exact V_iret rfl d_Mo_submit_25 ⟨by rw [sbI, if_pos (fun h => h17 h.2)], rfl, by rw [sbI, if_pos (fun h => h17 h.2)]⟩
set_option maxRecDepth 100000 in
set_option maxHeartbeats 4000000 in
theorem c_Mo_prove_no (l : Launch) (G : gG) (L : gLy) (M : gMe) (hM : gLM L) (p r o : Int32) (hg : ¬ pGoal (mF M) p r o) : gMet l G y_Mo_prove b_Mo_prove 6 (some FieldType.int) (rmL 6 0 0) [.ref 400, .int p, .int r, .int o] L M gAll (gPo (some (.int (-1))) L (mF M)) 0 0 := by
  refine gMet_of (lv := [some (.ref 400), some (.int p), some (.int r), some (.int o), none, none]) (by decide) rfl (Nat.le_of_ble_eq_true rfl) rfl ?_
  refine V_al0 1 d_Mo_prove_0 rfl ?_
  refine V_iconst 2 (v := 0) (by decide) d_Mo_prove_1 rfl ?_
  refine V_puti 5 2 (lM hM) kc_Mo (by decide) fl_Mo_93 (Or.inl rfl) rfl rfl rfl rfl d_Mo_prove_2 rfl ?_
  refine V_al0 6 d_Mo_prove_5 rfl ?_
  refine V_il1 7 d_Mo_prove_6 rfl ?_
  refine V_il2 8 d_Mo_prove_7 rfl ?_
  refine V_il3 9 d_Mo_prove_8 rfl ?_
  refine V_cV1 12 (c_Mo_isGoal l G _ (mF M) hM _ _ _) ok_Mo_isGoal ml_Mo_213 im_Mo_isGoal se_Mo_isGoal (lM hM) kc_Mo (gRm_ok (by decide) (by decide)) rfl rfl (Nat.le_of_ble_eq_true rfl) d_Mo_prove_9 ⟨Nat.le_of_ble_eq_true rfl, Nat.le_of_ble_eq_true rfl⟩ rfl ?_
  refine V_bn 17 15 d_Mo_prove_12 (by decide) rfl (fun h9 => absurd h9 hg) (fun _ => ?_)
  refine V_iconst 16 (v := (-1)) (by decide) d_Mo_prove_15 rfl ?_
  exact V_iret rfl d_Mo_prove_16 ⟨rfl, rfl, rfl⟩
set_option maxRecDepth 100000 in
set_option maxHeartbeats 4000000 in
theorem c_Mo_prove (l : Launch) (G : gG) (L : gLy) (M : gMe) (hM : gLM L) (c : Nat) (hcm : M 400 10 = nI c) (hc : c < 25) (K : Nat → Nat → Nat) (hK : gMW (mF M) c K) (p r o a : Nat) (hp : p < 6) (hr : r < 4) (ho : o < 6) (ha : a < 6) (hg : pGoal (mF M) (nI p) (nI r) (nI o)) (hs : (if nI r = 3 then 0 else M 402 o) = nI a) (S : Nat → Prop) (rk : Nat → Nat) (hR : gRk (pfW K o c (mF M)) S rk) (hSg : ¬ pfW K o c (mF M) 421 (mayM a p r) = 0 → S (mayM a p r)) (hrk : rk (mayM a p r) < 759) : gMet l G y_Mo_prove b_Mo_prove 6 (some FieldType.int) (rmL 6 0 0) [.ref 400, .int (nI p), .int (nI r), .int (nI o)] L M gAll (gPo (some (.int (prI K o c (mayM a p r) (mF M)).1)) L (prI K o c (mayM a p r) (mF M)).2) 0 0 := by
  obtain ⟨n, hn7, en⟩ := pfT_n (mayM_lt ha hp hr) hR hSg hrk
  obtain ⟨X, eX⟩ : ∃ X, X = prI K o c (mayM a p r) (mF M) := ⟨_, rfl⟩
  rw [← eX]
  have q62 : ¬ pfN K o c (mayM a p r) (mF M) = 0 → pfN K o c (mayM a p r) (mF M) ≤ 40 → ∀ (d k : Nat) (M' : gMe), k + d = n → itN prX d k M' = (X).2 → V l G y_Mo_prove b_Mo_prove 6 (some FieldType.int) (rmL 6 0 0) 0 0 gAll (gPo (some (.int X.1)) L X.2) L (M') 0 0 [some (.ref 400), some (.int (nI p)), some (.int (nI r)), some (.int (nI o)), some (.int (nI n)), some (.int (nI k))] 62 [] := by
    intro n0 n4 d
    have hn4 : n ≤ 40 := by rw [en] at n4; exact (nI_leI (by omega) (by decide)).mp n4
    induction d with
    | zero =>
      intro k M' hk hT
      obtain rfl : k = n := by omega
      refine V_il5 64 d_Mo_prove_62 rfl ?_
      refine V_il4 66 d_Mo_prove_64 rfl ?_
      refine V_icmp_ge 117 69 d_Mo_prove_66 (by decide) rfl (fun _ => ?_) (fun h9 => absurd (nI_le (Nat.le_refl k) (by omega)) h9)
      refine V_il4 119 d_Mo_prove_117 rfl ?_
      exact V_iret rfl d_Mo_prove_119 ⟨by rw [eX, prI, if_neg n0, if_neg (not_not_intro n4), en], rfl, hT⟩
    | succ d ih =>
      intro k M' hk hT
      have hl : k < n := by omega
      refine V_il5 64 d_Mo_prove_62 rfl ?_
      refine V_il4 66 d_Mo_prove_64 rfl ?_
      refine V_icmp_ge 117 69 d_Mo_prove_66 (by decide) rfl (fun h9 => absurd h9 (nI_ge (b := n) hl (by omega))) (fun _ => ?_)
      refine V_al0 70 d_Mo_prove_69 rfl ?_
      refine V_getr 73 23 (lM hM) kc_Mo (by decide) fl_Mo_50 (Or.inl rfl) rfl d_Mo_prove_70 rfl ?_
      refine V_il5 75 d_Mo_prove_73 rfl ?_
      refine V_al0 76 d_Mo_prove_75 rfl ?_
      refine V_getr 79 27 (lM hM) kc_Mo (by decide) fl_Mo_62 (Or.inl rfl) rfl d_Mo_prove_76 rfl ?_
      refine V_il5 81 d_Mo_prove_79 rfl ?_
      refine V_ialn 82 (k) (lM418 hM) rfl (by omega) (by decide) d_Mo_prove_81 rfl ?_
      refine V_iasn 83 (k) (lM414 hM) rfl (by omega) (by decide) d_Mo_prove_82 rfl ?_
      refine V_al0 84 d_Mo_prove_83 rfl ?_
      refine V_getr 87 24 (lM hM) kc_Mo (by decide) fl_Mo_53 (Or.inl rfl) rfl d_Mo_prove_84 rfl ?_
      refine V_il5 89 d_Mo_prove_87 rfl ?_
      refine V_al0 90 d_Mo_prove_89 rfl ?_
      refine V_getr 93 28 (lM hM) kc_Mo (by decide) fl_Mo_65 (Or.inl rfl) rfl d_Mo_prove_90 rfl ?_
      refine V_il5 95 d_Mo_prove_93 rfl ?_
      refine V_ialn 96 (k) (lM419 hM) rfl (by omega) (by decide) d_Mo_prove_95 rfl ?_
      refine V_topi (z := M' 419 k) (by rw [gst_ne _ _ _ _ (by decide)]) ?_
      refine V_iasn 97 (k) (lM415 hM) rfl (by omega) (by decide) d_Mo_prove_96 rfl ?_
      refine V_al0 98 d_Mo_prove_97 rfl ?_
      refine V_getr 101 25 (lM hM) kc_Mo (by decide) fl_Mo_56 (Or.inl rfl) rfl d_Mo_prove_98 rfl ?_
      refine V_il5 103 d_Mo_prove_101 rfl ?_
      refine V_al0 104 d_Mo_prove_103 rfl ?_
      refine V_getr 107 29 (lM hM) kc_Mo (by decide) fl_Mo_68 (Or.inl rfl) rfl d_Mo_prove_104 rfl ?_
      refine V_il5 109 d_Mo_prove_107 rfl ?_
      refine V_ialn 110 (k) (lM420 hM) rfl (by omega) (by decide) d_Mo_prove_109 rfl ?_
      refine V_topi (z := M' 420 k) (by rw [gst_ne _ _ _ _ (by decide), gst_ne _ _ _ _ (by decide)]) ?_
      refine V_iasn 111 (k) (lM416 hM) rfl (by omega) (by decide) d_Mo_prove_110 rfl ?_
      refine V_ii5 114 (v := 1) d_Mo_prove_111 (by decide) (by decide) rfl ?_
      refine V_goto 62 d_Mo_prove_114 (by decide) ?_
      rw [nI_1]
      exact ih (k + 1) _ (by omega) (itN_s (F := fun z9 => z9) hT rfl)
  refine gMet_of (lv := [some (.ref 400), some (.int (nI p)), some (.int (nI r)), some (.int (nI o)), none, none]) (by decide) rfl (Nat.le_of_ble_eq_true rfl) rfl ?_
  refine V_al0 1 d_Mo_prove_0 rfl ?_
  refine V_iconst 2 (v := 0) (by decide) d_Mo_prove_1 rfl ?_
  refine V_puti 5 2 (lM hM) kc_Mo (by decide) fl_Mo_93 (Or.inl rfl) rfl rfl rfl rfl d_Mo_prove_2 rfl ?_
  refine V_al0 6 d_Mo_prove_5 rfl ?_
  refine V_il1 7 d_Mo_prove_6 rfl ?_
  refine V_il2 8 d_Mo_prove_7 rfl ?_
  refine V_il3 9 d_Mo_prove_8 rfl ?_
  refine V_cV1 12 (c_Mo_isGoal l G _ (mF M) hM _ _ _) ok_Mo_isGoal ml_Mo_213 im_Mo_isGoal se_Mo_isGoal (lM hM) kc_Mo (gRm_ok (by decide) (by decide)) rfl rfl (Nat.le_of_ble_eq_true rfl) d_Mo_prove_9 ⟨Nat.le_of_ble_eq_true rfl, Nat.le_of_ble_eq_true rfl⟩ rfl ?_
  refine V_bn 17 15 d_Mo_prove_12 (by decide) rfl (fun _ => ?_) (fun h9 => absurd hg h9)
  refine V_al0 18 d_Mo_prove_17 rfl ?_
  refine V_il3 19 d_Mo_prove_18 rfl ?_
  refine V_al0 20 d_Mo_prove_19 rfl ?_
  refine V_il2 21 d_Mo_prove_20 rfl ?_
  refine V_il3 22 d_Mo_prove_21 rfl ?_
  refine V_cV1 25 (c_Mo_sayer l G _ (mF M) hM _ o ho) ok_Mo_sayer ml_Mo_216 im_Mo_sayer se_Mo_sayer (lM hM) kc_Mo (gRm_ok (by decide) (by decide)) rfl rfl (Nat.le_of_ble_eq_true rfl) d_Mo_prove_22 ⟨Nat.le_of_ble_eq_true rfl, Nat.le_of_ble_eq_true rfl⟩ rfl ?_
  refine V_topi (z := nI a) (by rw [mF_a (by decide)]; exact hs) ?_
  refine V_il1 26 d_Mo_prove_25 rfl ?_
  refine V_il2 27 d_Mo_prove_26 rfl ?_
  refine V_cS1 30 (c_Mo_may l G _ _ _ _ _) ok_Mo_may ml_Mo_153 st_Mo_may (gRm_ok (by decide) (by decide)) rfl rfl (Nat.le_of_ble_eq_true rfl) d_Mo_prove_27 ⟨Nat.le_of_ble_eq_true rfl, Nat.le_of_ble_eq_true rfl⟩ rfl ?_
  refine V_topi (mayM_nI a p r) ?_
  refine V_cV1 33 (c_Mo_proof l G _ (mF M) hM c (by rw [mF_n (by decide)]; exact hcm) hc K hK o ho (mayM a p r) (mayM_lt ha hp hr) S rk hR hSg hrk) ok_Mo_proof ml_Mo_219 im_Mo_proof se_Mo_proof (lM hM) kc_Mo (gRm_ok (by decide) (by decide)) rfl rfl (Nat.le_of_ble_eq_true rfl) d_Mo_prove_30 ⟨Nat.le_of_ble_eq_true rfl, Nat.le_of_ble_eq_true rfl⟩ rfl ?_
  refine V_topi en ?_
  refine V_is4 35 d_Mo_prove_33 (by decide) rfl ?_
  refine V_il4 37 d_Mo_prove_35 rfl ?_
  refine V_if_ne 43 40 d_Mo_prove_37 (by decide) rfl (fun h37 => ?_) (fun h37 => ?_)
  · refine V_il4 45 d_Mo_prove_43 rfl ?_
    refine V_bipush 47 (v := 40) (by decide) d_Mo_prove_45 rfl ?_
    refine V_icmp_le 53 50 d_Mo_prove_47 (by decide) rfl (fun h47 => ?_) (fun h47 => ?_)
    · refine V_al0 54 d_Mo_prove_53 rfl ?_
      refine V_il4 56 d_Mo_prove_54 rfl ?_
      refine V_puti 59 21 (lM hM) kc_Mo (by decide) fl_Mo_103 (Or.inl rfl) rfl rfl rfl rfl d_Mo_prove_56 rfl ?_
      refine V_iconst 60 (v := 0) (by decide) d_Mo_prove_59 rfl ?_
      refine V_is5 62 d_Mo_prove_60 (by decide) rfl ?_
      exact q62 (by rw [en]; exact h37) (by rw [en]; exact h47) n 0 _ (by omega) (by rw [eX, prI, if_neg (by rw [en]; exact h37), if_neg (not_not_intro (by rw [en]; exact h47)), en, nI_clamp (by omega)])
    · refine V_bipush 52 (v := (-3)) (by decide) d_Mo_prove_50 rfl ?_
      exact V_iret rfl d_Mo_prove_52 ⟨by rw [eX, prI, if_neg (by rw [en]; exact h37), if_pos (by rw [en]; exact h47)], rfl, by rw [eX, prI, if_neg (by rw [en]; exact h37), if_pos (by rw [en]; exact h47)]⟩
  · refine V_bipush 42 (v := (-2)) (by decide) d_Mo_prove_40 rfl ?_
    exact V_iret rfl d_Mo_prove_42 ⟨by rw [eX, prI, if_pos (by rw [en]; exact h37)], rfl, by rw [eX, prI, if_pos (by rw [en]; exact h37)]⟩
set_option maxRecDepth 100000 in
set_option maxHeartbeats 4000000 in
theorem rq98 (l : Launch) (G : gG) (L : gLy) (M : gMe) (hM : gLM L) (p r o a : Nat) (hr : r < 4) (ho : o < 6) (v gv N : Int32) (z7 : Option Value) : V l G y_Mo_request b_Mo_request 8 (some FieldType.int) (rmL 6 0 0) 0 0 gAll (gPo (some (.int (rqT gv N M p r o v).1)) L (rqT gv N M p r o v).2) L (M) 0 0 [some (.ref 400), some (.int (nI p)), some (.int (nI r)), some (.int (nI o)), some (.int v), some (.int gv), some (.int (nI a)), z7] 98 [.int N] := by
  refine V_is7 100 d_Mo_request_98 (by decide) rfl ?_
  refine V_al0 101 d_Mo_request_100 rfl ?_
  refine V_il5 103 d_Mo_request_101 rfl ?_
  refine V_if_eq 110 106 d_Mo_request_103 (by decide) rfl (fun h103 => ?_) (fun h103 => ?_)
  · refine V_al0 111 d_Mo_request_110 rfl ?_
    refine V_geti 114 21 (lM hM) kc_Mo (by decide) fl_Mo_103 (Or.inl rfl) rfl d_Mo_request_111 rfl ?_
    refine V_topi (z := (if gv = 0 then M 400 21 else 0)) (by rw [if_pos h103]) ?_
    refine V_puti 117 21 (lM hM) kc_Mo (by decide) fl_Mo_103 (Or.inl rfl) rfl rfl rfl rfl d_Mo_request_114 rfl ?_
    refine V_il7 119 d_Mo_request_117 rfl ?_
    refine V_iconst 120 (v := 1) (by decide) d_Mo_request_119 rfl ?_
    refine V_icmp_lt 130 123 d_Mo_request_120 (by decide) rfl (fun h120 => ?_) (fun h120 => ?_)
    · refine V_al0 131 d_Mo_request_130 rfl ?_
      refine V_iconst 132 (v := 3) (by decide) d_Mo_request_131 rfl ?_
      refine V_cV1 135 (c_Mo_fails l G _ _ hM _) ok_Mo_fails ml_Mo_126 im_Mo_fails se_Mo_fails (lM hM) kc_Mo (gRm_ok (by decide) (by decide)) rfl rfl (Nat.le_of_ble_eq_true rfl) d_Mo_request_132 ⟨Nat.le_of_ble_eq_true rfl, Nat.le_of_ble_eq_true rfl⟩ rfl ?_
      exact V_iret rfl d_Mo_request_135 ⟨by rw [rqT, if_pos (fun h => h.1 h120)], rfl, by rw [rqT, if_pos (fun h => h.1 h120)]⟩
    · refine V_il7 125 d_Mo_request_123 rfl ?_
      refine V_bipush 127 (v := 40) (by decide) d_Mo_request_125 rfl ?_
      refine V_icmp_le 136 130 d_Mo_request_127 (by decide) rfl (fun h127 => ?_) (fun h127 => ?_)
      · refine V_al0 137 d_Mo_request_136 rfl ?_
        refine V_cV1 140 (c_Mo_recorded l G _ _ hM) ok_Mo_recorded ml_Mo_137 im_Mo_recorded se_Mo_recorded (lM hM) kc_Mo (gRm_ok (by decide) (by decide)) rfl rfl (Nat.le_of_ble_eq_true rfl) d_Mo_request_137 ⟨Nat.le_of_ble_eq_true rfl, Nat.le_of_ble_eq_true rfl⟩ rfl ?_
        refine V_bn 149 143 d_Mo_request_140 (by decide) rfl (fun h140 => ?_) (fun h140 => ?_)
        · refine V_al0 150 d_Mo_request_149 rfl ?_
          refine V_al0 151 d_Mo_request_150 rfl ?_
          refine V_geti 154 9 (lM hM) kc_Mo (by decide) fl_Mo_225 (Or.inl rfl) rfl d_Mo_request_151 rfl ?_
          refine V_topi (z := M 400 9) (by rw [rcM_n (by decide) (by decide) (by decide), gst_at, if_pos rfl, if_neg (by decide)]) ?_
          refine V_il1 155 d_Mo_request_154 rfl ?_
          refine V_ixor 156 d_Mo_request_155 rfl ?_
          refine V_bipush 158 (v := 31) (by decide) d_Mo_request_156 rfl ?_
          refine V_imul 159 d_Mo_request_158 rfl ?_
          refine V_bipush 161 (v := 8) (by decide) d_Mo_request_159 rfl ?_
          refine V_il2 162 d_Mo_request_161 rfl ?_
          refine V_imul 163 d_Mo_request_162 rfl ?_
          refine V_iadd 164 d_Mo_request_163 rfl ?_
          refine V_il3 165 d_Mo_request_164 rfl ?_
          refine V_iadd 166 d_Mo_request_165 rfl ?_
          refine V_bipush 168 (v := 31) (by decide) d_Mo_request_166 rfl ?_
          refine V_imul 169 d_Mo_request_168 rfl ?_
          refine V_il7 171 d_Mo_request_169 rfl ?_
          refine V_iadd 172 d_Mo_request_171 rfl ?_
          refine V_puti 175 9 (lM hM) kc_Mo (by decide) fl_Mo_225 (Or.inl rfl) rfl rfl rfl rfl d_Mo_request_172 rfl ?_
          refine V_al0 176 d_Mo_request_175 rfl ?_
          refine V_dup 177 rfl d_Mo_request_176 rfl ?_
          refine V_geti 180 8 (lM hM) kc_Mo (by decide) fl_Mo_228 (Or.inl rfl) rfl d_Mo_request_177 rfl ?_
          refine V_topi (z := M 400 8) (by rw [gst_at, if_pos rfl, if_neg (by decide), rcM_n (by decide) (by decide) (by decide), gst_at, if_pos rfl, if_neg (by decide)]) ?_
          refine V_iconst 181 (v := 1) (by decide) d_Mo_request_180 rfl ?_
          refine V_iadd 182 d_Mo_request_181 rfl ?_
          refine V_puti 185 8 (lM hM) kc_Mo (by decide) fl_Mo_228 (Or.inl rfl) rfl rfl rfl rfl d_Mo_request_182 rfl ?_
          refine V_al0 186 d_Mo_request_185 rfl ?_
          refine V_il1 187 d_Mo_request_186 rfl ?_
          refine V_il2 188 d_Mo_request_187 rfl ?_
          refine V_il3 189 d_Mo_request_188 rfl ?_
          refine V_il4 191 d_Mo_request_189 rfl ?_
          refine V_cV1 194 (c_Mo_done l G _ _ hM _ _ r o hr ho) ok_Mo_done ml_Mo_231 im_Mo_done se_Mo_done (lM hM) kc_Mo (gRm_ok (by decide) (by decide)) rfl rfl (Nat.le_of_ble_eq_true rfl) d_Mo_request_191 ⟨Nat.le_of_ble_eq_true rfl, Nat.le_of_ble_eq_true rfl⟩ rfl ?_
          exact V_iret rfl d_Mo_request_194 ⟨by rw [rqT, if_neg (not_not_intro ⟨h120, h127⟩), if_neg h140], rfl, by rw [rqT, if_neg (not_not_intro ⟨h120, h127⟩), if_neg h140]⟩
        · refine V_al0 144 d_Mo_request_143 rfl ?_
          refine V_iconst 145 (v := 4) (by decide) d_Mo_request_144 rfl ?_
          refine V_cV1 148 (c_Mo_fails l G _ _ hM _) ok_Mo_fails ml_Mo_126 im_Mo_fails se_Mo_fails (lM hM) kc_Mo (gRm_ok (by decide) (by decide)) rfl rfl (Nat.le_of_ble_eq_true rfl) d_Mo_request_145 ⟨Nat.le_of_ble_eq_true rfl, Nat.le_of_ble_eq_true rfl⟩ rfl ?_
          exact V_iret rfl d_Mo_request_148 ⟨by rw [rqT, if_neg (not_not_intro ⟨h120, h127⟩), if_pos (Decidable.not_not.mp h140)], rfl, by rw [rqT, if_neg (not_not_intro ⟨h120, h127⟩), if_pos (Decidable.not_not.mp h140)]⟩
      · refine V_al0 131 d_Mo_request_130 rfl ?_
        refine V_iconst 132 (v := 3) (by decide) d_Mo_request_131 rfl ?_
        refine V_cV1 135 (c_Mo_fails l G _ _ hM _) ok_Mo_fails ml_Mo_126 im_Mo_fails se_Mo_fails (lM hM) kc_Mo (gRm_ok (by decide) (by decide)) rfl rfl (Nat.le_of_ble_eq_true rfl) d_Mo_request_132 ⟨Nat.le_of_ble_eq_true rfl, Nat.le_of_ble_eq_true rfl⟩ rfl ?_
        exact V_iret rfl d_Mo_request_135 ⟨by rw [rqT, if_pos (fun h => h127 h.2)], rfl, by rw [rqT, if_pos (fun h => h127 h.2)]⟩
  · refine V_iconst 107 (v := 0) (by decide) d_Mo_request_106 rfl ?_
    refine V_goto 114 d_Mo_request_107 (by decide) ?_
    refine V_topi (z := (if gv = 0 then M 400 21 else 0)) (by rw [if_neg h103]) ?_
    refine V_puti 117 21 (lM hM) kc_Mo (by decide) fl_Mo_103 (Or.inl rfl) rfl rfl rfl rfl d_Mo_request_114 rfl ?_
    refine V_il7 119 d_Mo_request_117 rfl ?_
    refine V_iconst 120 (v := 1) (by decide) d_Mo_request_119 rfl ?_
    refine V_icmp_lt 130 123 d_Mo_request_120 (by decide) rfl (fun h120 => ?_) (fun h120 => ?_)
    · refine V_al0 131 d_Mo_request_130 rfl ?_
      refine V_iconst 132 (v := 3) (by decide) d_Mo_request_131 rfl ?_
      refine V_cV1 135 (c_Mo_fails l G _ _ hM _) ok_Mo_fails ml_Mo_126 im_Mo_fails se_Mo_fails (lM hM) kc_Mo (gRm_ok (by decide) (by decide)) rfl rfl (Nat.le_of_ble_eq_true rfl) d_Mo_request_132 ⟨Nat.le_of_ble_eq_true rfl, Nat.le_of_ble_eq_true rfl⟩ rfl ?_
      exact V_iret rfl d_Mo_request_135 ⟨by rw [rqT, if_pos (fun h => h.1 h120)], rfl, by rw [rqT, if_pos (fun h => h.1 h120)]⟩
    · refine V_il7 125 d_Mo_request_123 rfl ?_
      refine V_bipush 127 (v := 40) (by decide) d_Mo_request_125 rfl ?_
      refine V_icmp_le 136 130 d_Mo_request_127 (by decide) rfl (fun h127 => ?_) (fun h127 => ?_)
      · refine V_al0 137 d_Mo_request_136 rfl ?_
        refine V_cV1 140 (c_Mo_recorded l G _ _ hM) ok_Mo_recorded ml_Mo_137 im_Mo_recorded se_Mo_recorded (lM hM) kc_Mo (gRm_ok (by decide) (by decide)) rfl rfl (Nat.le_of_ble_eq_true rfl) d_Mo_request_137 ⟨Nat.le_of_ble_eq_true rfl, Nat.le_of_ble_eq_true rfl⟩ rfl ?_
        refine V_bn 149 143 d_Mo_request_140 (by decide) rfl (fun h140 => ?_) (fun h140 => ?_)
        · refine V_al0 150 d_Mo_request_149 rfl ?_
          refine V_al0 151 d_Mo_request_150 rfl ?_
          refine V_geti 154 9 (lM hM) kc_Mo (by decide) fl_Mo_225 (Or.inl rfl) rfl d_Mo_request_151 rfl ?_
          refine V_topi (z := M 400 9) (by rw [rcM_n (by decide) (by decide) (by decide), gst_at, if_pos rfl, if_neg (by decide)]) ?_
          refine V_il1 155 d_Mo_request_154 rfl ?_
          refine V_ixor 156 d_Mo_request_155 rfl ?_
          refine V_bipush 158 (v := 31) (by decide) d_Mo_request_156 rfl ?_
          refine V_imul 159 d_Mo_request_158 rfl ?_
          refine V_bipush 161 (v := 8) (by decide) d_Mo_request_159 rfl ?_
          refine V_il2 162 d_Mo_request_161 rfl ?_
          refine V_imul 163 d_Mo_request_162 rfl ?_
          refine V_iadd 164 d_Mo_request_163 rfl ?_
          refine V_il3 165 d_Mo_request_164 rfl ?_
          refine V_iadd 166 d_Mo_request_165 rfl ?_
          refine V_bipush 168 (v := 31) (by decide) d_Mo_request_166 rfl ?_
          refine V_imul 169 d_Mo_request_168 rfl ?_
          refine V_il7 171 d_Mo_request_169 rfl ?_
          refine V_iadd 172 d_Mo_request_171 rfl ?_
          refine V_puti 175 9 (lM hM) kc_Mo (by decide) fl_Mo_225 (Or.inl rfl) rfl rfl rfl rfl d_Mo_request_172 rfl ?_
          refine V_al0 176 d_Mo_request_175 rfl ?_
          refine V_dup 177 rfl d_Mo_request_176 rfl ?_
          refine V_geti 180 8 (lM hM) kc_Mo (by decide) fl_Mo_228 (Or.inl rfl) rfl d_Mo_request_177 rfl ?_
          refine V_topi (z := M 400 8) (by rw [gst_at, if_pos rfl, if_neg (by decide), rcM_n (by decide) (by decide) (by decide), gst_at, if_pos rfl, if_neg (by decide)]) ?_
          refine V_iconst 181 (v := 1) (by decide) d_Mo_request_180 rfl ?_
          refine V_iadd 182 d_Mo_request_181 rfl ?_
          refine V_puti 185 8 (lM hM) kc_Mo (by decide) fl_Mo_228 (Or.inl rfl) rfl rfl rfl rfl d_Mo_request_182 rfl ?_
          refine V_al0 186 d_Mo_request_185 rfl ?_
          refine V_il1 187 d_Mo_request_186 rfl ?_
          refine V_il2 188 d_Mo_request_187 rfl ?_
          refine V_il3 189 d_Mo_request_188 rfl ?_
          refine V_il4 191 d_Mo_request_189 rfl ?_
          refine V_cV1 194 (c_Mo_done l G _ _ hM _ _ r o hr ho) ok_Mo_done ml_Mo_231 im_Mo_done se_Mo_done (lM hM) kc_Mo (gRm_ok (by decide) (by decide)) rfl rfl (Nat.le_of_ble_eq_true rfl) d_Mo_request_191 ⟨Nat.le_of_ble_eq_true rfl, Nat.le_of_ble_eq_true rfl⟩ rfl ?_
          exact V_iret rfl d_Mo_request_194 ⟨by rw [rqT, if_neg (not_not_intro ⟨h120, h127⟩), if_neg h140], rfl, by rw [rqT, if_neg (not_not_intro ⟨h120, h127⟩), if_neg h140]⟩
        · refine V_al0 144 d_Mo_request_143 rfl ?_
          refine V_iconst 145 (v := 4) (by decide) d_Mo_request_144 rfl ?_
          refine V_cV1 148 (c_Mo_fails l G _ _ hM _) ok_Mo_fails ml_Mo_126 im_Mo_fails se_Mo_fails (lM hM) kc_Mo (gRm_ok (by decide) (by decide)) rfl rfl (Nat.le_of_ble_eq_true rfl) d_Mo_request_145 ⟨Nat.le_of_ble_eq_true rfl, Nat.le_of_ble_eq_true rfl⟩ rfl ?_
          exact V_iret rfl d_Mo_request_148 ⟨by rw [rqT, if_neg (not_not_intro ⟨h120, h127⟩), if_pos (Decidable.not_not.mp h140)], rfl, by rw [rqT, if_neg (not_not_intro ⟨h120, h127⟩), if_pos (Decidable.not_not.mp h140)]⟩
      · refine V_al0 131 d_Mo_request_130 rfl ?_
        refine V_iconst 132 (v := 3) (by decide) d_Mo_request_131 rfl ?_
        refine V_cV1 135 (c_Mo_fails l G _ _ hM _) ok_Mo_fails ml_Mo_126 im_Mo_fails se_Mo_fails (lM hM) kc_Mo (gRm_ok (by decide) (by decide)) rfl rfl (Nat.le_of_ble_eq_true rfl) d_Mo_request_132 ⟨Nat.le_of_ble_eq_true rfl, Nat.le_of_ble_eq_true rfl⟩ rfl ?_
        exact V_iret rfl d_Mo_request_135 ⟨by rw [rqT, if_pos (fun h => h127 h.2)], rfl, by rw [rqT, if_pos (fun h => h127 h.2)]⟩
set_option maxRecDepth 100000 in
set_option maxHeartbeats 4000000 in
theorem c_Mo_request_1 (l : Launch) (G : gG) (L : gLy) (M : gMe) (hM : gLM L) (p r o v gv : Int32) (hb : ¬ (pIn p 0 5 ∧ pIn r 0 3 ∧ pIn o 0 5)) : gMet l G y_Mo_request b_Mo_request 8 (some FieldType.int) (rmL 6 0 0) [.ref 400, .int p, .int r, .int o, .int v, .int gv] L M gAll (gPo (some (.int 0)) L (gst (mF M) 400 2 1)) 0 0 := by
  refine gMet_of (lv := [some (.ref 400), some (.int p), some (.int r), some (.int o), some (.int v), some (.int gv), none, none]) (by decide) rfl (Nat.le_of_ble_eq_true rfl) rfl ?_
  refine V_al0 1 d_Mo_request_0 rfl ?_
  refine V_iconst 2 (v := 0) (by decide) d_Mo_request_1 rfl ?_
  refine V_puti 5 2 (lM hM) kc_Mo (by decide) fl_Mo_93 (Or.inl rfl) rfl rfl rfl rfl d_Mo_request_2 rfl ?_
  refine V_il1 6 d_Mo_request_5 rfl ?_
  refine V_cS1 9 (c_Mo_isPerson l G _ (mF M) _) ok_Mo_isPerson ml_Mo_116 st_Mo_isPerson (gRm_ok (by decide) (by decide)) rfl rfl (Nat.le_of_ble_eq_true rfl) d_Mo_request_6 ⟨Nat.le_of_ble_eq_true rfl, Nat.le_of_ble_eq_true rfl⟩ rfl ?_
  refine V_bz 28 12 d_Mo_request_9 (by decide) rfl (fun h9 => ?_) (fun h9 => ?_)
  · refine V_al0 29 d_Mo_request_28 rfl ?_
    refine V_iconst 30 (v := 1) (by decide) d_Mo_request_29 rfl ?_
    refine V_cV1 33 (c_Mo_fails l G _ (mF M) hM _) ok_Mo_fails ml_Mo_126 im_Mo_fails se_Mo_fails (lM hM) kc_Mo (gRm_ok (by decide) (by decide)) rfl rfl (Nat.le_of_ble_eq_true rfl) d_Mo_request_30 ⟨Nat.le_of_ble_eq_true rfl, Nat.le_of_ble_eq_true rfl⟩ rfl ?_
    exact V_iret rfl d_Mo_request_33 ⟨rfl, rfl, rfl⟩
  · refine V_il2 13 d_Mo_request_12 rfl ?_
    refine V_cS1 16 (c_Mo_isRight l G _ (mF M) _) ok_Mo_isRight ml_Mo_120 st_Mo_isRight (gRm_ok (by decide) (by decide)) rfl rfl (Nat.le_of_ble_eq_true rfl) d_Mo_request_13 ⟨Nat.le_of_ble_eq_true rfl, Nat.le_of_ble_eq_true rfl⟩ rfl ?_
    refine V_bz 28 19 d_Mo_request_16 (by decide) rfl (fun h16 => ?_) (fun h16 => ?_)
    · refine V_al0 29 d_Mo_request_28 rfl ?_
      refine V_iconst 30 (v := 1) (by decide) d_Mo_request_29 rfl ?_
      refine V_cV1 33 (c_Mo_fails l G _ (mF M) hM _) ok_Mo_fails ml_Mo_126 im_Mo_fails se_Mo_fails (lM hM) kc_Mo (gRm_ok (by decide) (by decide)) rfl rfl (Nat.le_of_ble_eq_true rfl) d_Mo_request_30 ⟨Nat.le_of_ble_eq_true rfl, Nat.le_of_ble_eq_true rfl⟩ rfl ?_
      exact V_iret rfl d_Mo_request_33 ⟨rfl, rfl, rfl⟩
    · have g9 := h9
      refine V_il3 20 d_Mo_request_19 rfl ?_
      refine V_iconst 21 (v := 0) (by decide) d_Mo_request_20 rfl ?_
      refine V_iconst 22 (v := 5) (by decide) d_Mo_request_21 rfl ?_
      refine V_cS1 25 (c_Mo_in l G _ (mF M) _ _ _) ok_Mo_in ml_Mo_106 st_Mo_in (gRm_ok (by decide) (by decide)) rfl rfl (Nat.le_of_ble_eq_true rfl) d_Mo_request_22 ⟨Nat.le_of_ble_eq_true rfl, Nat.le_of_ble_eq_true rfl⟩ rfl ?_
      refine V_bn 34 28 d_Mo_request_25 (by decide) rfl (fun h9 => absurd h9 (fun h => hb ⟨g9, h16, h⟩)) (fun _ => ?_)
      refine V_al0 29 d_Mo_request_28 rfl ?_
      refine V_iconst 30 (v := 1) (by decide) d_Mo_request_29 rfl ?_
      refine V_cV1 33 (c_Mo_fails l G _ (mF M) hM _) ok_Mo_fails ml_Mo_126 im_Mo_fails se_Mo_fails (lM hM) kc_Mo (gRm_ok (by decide) (by decide)) rfl rfl (Nat.le_of_ble_eq_true rfl) d_Mo_request_30 ⟨Nat.le_of_ble_eq_true rfl, Nat.le_of_ble_eq_true rfl⟩ rfl ?_
      exact V_iret rfl d_Mo_request_33 ⟨rfl, rfl, rfl⟩
set_option maxRecDepth 100000 in
set_option maxHeartbeats 4000000 in
theorem c_Mo_request_2 (l : Launch) (G : gG) (L : gLy) (M : gMe) (hM : gLM L) (p r o v gv : Int32) (h1 : pIn p 0 5) (h2 : pIn r 0 3) (h3 : pIn o 0 5) (hg : ¬ pGoal (mF M) p r o) : gMet l G y_Mo_request b_Mo_request 8 (some FieldType.int) (rmL 6 0 0) [.ref 400, .int p, .int r, .int o, .int v, .int gv] L M gAll (gPo (some (.int 0)) L (gst (mF M) 400 2 2)) 0 0 := by
  refine gMet_of (lv := [some (.ref 400), some (.int p), some (.int r), some (.int o), some (.int v), some (.int gv), none, none]) (by decide) rfl (Nat.le_of_ble_eq_true rfl) rfl ?_
  refine V_al0 1 d_Mo_request_0 rfl ?_
  refine V_iconst 2 (v := 0) (by decide) d_Mo_request_1 rfl ?_
  refine V_puti 5 2 (lM hM) kc_Mo (by decide) fl_Mo_93 (Or.inl rfl) rfl rfl rfl rfl d_Mo_request_2 rfl ?_
  refine V_il1 6 d_Mo_request_5 rfl ?_
  refine V_cS1 9 (c_Mo_isPerson l G _ (mF M) _) ok_Mo_isPerson ml_Mo_116 st_Mo_isPerson (gRm_ok (by decide) (by decide)) rfl rfl (Nat.le_of_ble_eq_true rfl) d_Mo_request_6 ⟨Nat.le_of_ble_eq_true rfl, Nat.le_of_ble_eq_true rfl⟩ rfl ?_
  refine V_bz 28 12 d_Mo_request_9 (by decide) rfl (fun h9 => absurd h9 (not_not_intro h1)) (fun _ => ?_)
  refine V_il2 13 d_Mo_request_12 rfl ?_
  refine V_cS1 16 (c_Mo_isRight l G _ (mF M) _) ok_Mo_isRight ml_Mo_120 st_Mo_isRight (gRm_ok (by decide) (by decide)) rfl rfl (Nat.le_of_ble_eq_true rfl) d_Mo_request_13 ⟨Nat.le_of_ble_eq_true rfl, Nat.le_of_ble_eq_true rfl⟩ rfl ?_
  refine V_bz 28 19 d_Mo_request_16 (by decide) rfl (fun h9 => absurd h9 (not_not_intro h2)) (fun _ => ?_)
  refine V_il3 20 d_Mo_request_19 rfl ?_
  refine V_iconst 21 (v := 0) (by decide) d_Mo_request_20 rfl ?_
  refine V_iconst 22 (v := 5) (by decide) d_Mo_request_21 rfl ?_
  refine V_cS1 25 (c_Mo_in l G _ (mF M) _ _ _) ok_Mo_in ml_Mo_106 st_Mo_in (gRm_ok (by decide) (by decide)) rfl rfl (Nat.le_of_ble_eq_true rfl) d_Mo_request_22 ⟨Nat.le_of_ble_eq_true rfl, Nat.le_of_ble_eq_true rfl⟩ rfl ?_
  refine V_bn 34 28 d_Mo_request_25 (by decide) rfl (fun _ => ?_) (fun h9 => absurd h3 h9)
  refine V_al0 35 d_Mo_request_34 rfl ?_
  refine V_il1 36 d_Mo_request_35 rfl ?_
  refine V_il2 37 d_Mo_request_36 rfl ?_
  refine V_il3 38 d_Mo_request_37 rfl ?_
  refine V_cV1 41 (c_Mo_isGoal l G _ (mF M) hM _ _ _) ok_Mo_isGoal ml_Mo_213 im_Mo_isGoal se_Mo_isGoal (lM hM) kc_Mo (gRm_ok (by decide) (by decide)) rfl rfl (Nat.le_of_ble_eq_true rfl) d_Mo_request_38 ⟨Nat.le_of_ble_eq_true rfl, Nat.le_of_ble_eq_true rfl⟩ rfl ?_
  refine V_bn 50 44 d_Mo_request_41 (by decide) rfl (fun h9 => absurd h9 hg) (fun _ => ?_)
  refine V_al0 45 d_Mo_request_44 rfl ?_
  refine V_iconst 46 (v := 2) (by decide) d_Mo_request_45 rfl ?_
  refine V_cV1 49 (c_Mo_fails l G _ (mF M) hM _) ok_Mo_fails ml_Mo_126 im_Mo_fails se_Mo_fails (lM hM) kc_Mo (gRm_ok (by decide) (by decide)) rfl rfl (Nat.le_of_ble_eq_true rfl) d_Mo_request_46 ⟨Nat.le_of_ble_eq_true rfl, Nat.le_of_ble_eq_true rfl⟩ rfl ?_
  exact V_iret rfl d_Mo_request_49 ⟨rfl, rfl, rfl⟩
theorem pwR_dr {c n : Nat} {M : gMe} {a p r o : Int32} {k : Nat} : (pwR c n M a p r o).2 400 k = M 400 k := by
  by_cases h : n = 0
  · rw [pwR, if_pos h]
  · rw [pwR, if_neg h]
    show (pwL c n 0 M).2 400 k = _
    rw [pwL_k7 (M := M) n 0 M (fun _ _ => rfl) 400 (by decide)]
set_option maxRecDepth 100000 in
set_option maxHeartbeats 4000000 in
theorem c_Mo_request_g (l : Launch) (G : gG) (L : gLy) (M : gMe) (hM : gLM L) (c : Nat) (hcm : M 400 10 = nI c) (hc : c < 25) (n : Nat) (hn : M 400 21 = nI n) (hn4 : n ≤ 40) (p r o a : Nat) (hp : p < 6) (hr : r < 4) (ho : o < 6) (hg : pGoal (mF M) (nI p) (nI r) (nI o)) (hs : (if nI r = 3 then 0 else M 402 o) = nI a) (v : Int32) : gMet l G y_Mo_request b_Mo_request 8 (some FieldType.int) (rmL 6 0 0) [.ref 400, .int (nI p), .int (nI r), .int (nI o), .int v, .int 1] L M gAll (gPo (some (.int (rqT 1 (if (pwR c n (mF M) (nI a) (nI p) (nI r) (nI o)).1 = 0 then 0 else nI n) (pwR c n (mF M) (nI a) (nI p) (nI r) (nI o)).2 p r o v).1)) L (rqT 1 (if (pwR c n (mF M) (nI a) (nI p) (nI r) (nI o)).1 = 0 then 0 else nI n) (pwR c n (mF M) (nI a) (nI p) (nI r) (nI o)).2 p r o v).2) 0 0 := by
  refine gMet_of (lv := [some (.ref 400), some (.int (nI p)), some (.int (nI r)), some (.int (nI o)), some (.int v), some (.int 1), none, none]) (by decide) rfl (Nat.le_of_ble_eq_true rfl) rfl ?_
  refine V_al0 1 d_Mo_request_0 rfl ?_
  refine V_iconst 2 (v := 0) (by decide) d_Mo_request_1 rfl ?_
  refine V_puti 5 2 (lM hM) kc_Mo (by decide) fl_Mo_93 (Or.inl rfl) rfl rfl rfl rfl d_Mo_request_2 rfl ?_
  refine V_il1 6 d_Mo_request_5 rfl ?_
  refine V_cS1 9 (c_Mo_isPerson l G _ (mF M) _) ok_Mo_isPerson ml_Mo_116 st_Mo_isPerson (gRm_ok (by decide) (by decide)) rfl rfl (Nat.le_of_ble_eq_true rfl) d_Mo_request_6 ⟨Nat.le_of_ble_eq_true rfl, Nat.le_of_ble_eq_true rfl⟩ rfl ?_
  refine V_bz 28 12 d_Mo_request_9 (by decide) rfl (fun h9 => absurd h9 (not_not_intro hg.1)) (fun _ => ?_)
  refine V_il2 13 d_Mo_request_12 rfl ?_
  refine V_cS1 16 (c_Mo_isRight l G _ (mF M) _) ok_Mo_isRight ml_Mo_120 st_Mo_isRight (gRm_ok (by decide) (by decide)) rfl rfl (Nat.le_of_ble_eq_true rfl) d_Mo_request_13 ⟨Nat.le_of_ble_eq_true rfl, Nat.le_of_ble_eq_true rfl⟩ rfl ?_
  refine V_bz 28 19 d_Mo_request_16 (by decide) rfl (fun h9 => absurd h9 (not_not_intro hg.2.1)) (fun _ => ?_)
  refine V_il3 20 d_Mo_request_19 rfl ?_
  refine V_iconst 21 (v := 0) (by decide) d_Mo_request_20 rfl ?_
  refine V_iconst 22 (v := 5) (by decide) d_Mo_request_21 rfl ?_
  refine V_cS1 25 (c_Mo_in l G _ (mF M) _ _ _) ok_Mo_in ml_Mo_106 st_Mo_in (gRm_ok (by decide) (by decide)) rfl rfl (Nat.le_of_ble_eq_true rfl) d_Mo_request_22 ⟨Nat.le_of_ble_eq_true rfl, Nat.le_of_ble_eq_true rfl⟩ rfl ?_
  refine V_bn 34 28 d_Mo_request_25 (by decide) rfl (fun _ => ?_) (fun h9 => absurd hg.2.2.1 h9)
  refine V_al0 35 d_Mo_request_34 rfl ?_
  refine V_il1 36 d_Mo_request_35 rfl ?_
  refine V_il2 37 d_Mo_request_36 rfl ?_
  refine V_il3 38 d_Mo_request_37 rfl ?_
  refine V_cV1 41 (c_Mo_isGoal l G _ (mF M) hM _ _ _) ok_Mo_isGoal ml_Mo_213 im_Mo_isGoal se_Mo_isGoal (lM hM) kc_Mo (gRm_ok (by decide) (by decide)) rfl rfl (Nat.le_of_ble_eq_true rfl) d_Mo_request_38 ⟨Nat.le_of_ble_eq_true rfl, Nat.le_of_ble_eq_true rfl⟩ rfl ?_
  refine V_bn 50 44 d_Mo_request_41 (by decide) rfl (fun _ => ?_) (fun h9 => absurd hg h9)
  refine V_al0 51 d_Mo_request_50 rfl ?_
  refine V_il2 52 d_Mo_request_51 rfl ?_
  refine V_il3 53 d_Mo_request_52 rfl ?_
  refine V_cV1 56 (c_Mo_sayer l G _ (mF M) hM _ o ho) ok_Mo_sayer ml_Mo_216 im_Mo_sayer se_Mo_sayer (lM hM) kc_Mo (gRm_ok (by decide) (by decide)) rfl rfl (Nat.le_of_ble_eq_true rfl) d_Mo_request_53 ⟨Nat.le_of_ble_eq_true rfl, Nat.le_of_ble_eq_true rfl⟩ rfl ?_
  refine V_topi (z := nI a) (by rw [mF_a (by decide)]; exact hs) ?_
  refine V_is6 58 d_Mo_request_56 (by decide) rfl ?_
  refine V_il5 60 d_Mo_request_58 rfl ?_
  refine V_if_eq 86 63 d_Mo_request_60 (by decide) rfl (fun h9 => absurd h9 (show ¬ (1 : Int32) = 0 by decide)) (fun _ => ?_)
  refine V_al0 64 d_Mo_request_63 rfl ?_
  refine V_il6 66 d_Mo_request_64 rfl ?_
  refine V_il1 67 d_Mo_request_66 rfl ?_
  refine V_il2 68 d_Mo_request_67 rfl ?_
  refine V_il3 69 d_Mo_request_68 rfl ?_
  refine V_cV1 72 (c_Mo_proves l G _ (mF M) hM c (by rw [mF_n (by decide)]; exact hcm) hc n (by rw [mF_n (by decide)]; exact hn) hn4 _ _ _ _) ok_Mo_proves ml_Mo_222 im_Mo_proves se_Mo_proves (lM hM) kc_Mo (gRm_ok (by decide) (by decide)) rfl rfl (Nat.le_of_ble_eq_true rfl) d_Mo_request_69 ⟨Nat.le_of_ble_eq_true rfl, Nat.le_of_ble_eq_true rfl⟩ rfl ?_
  refine V_if_eq 82 75 d_Mo_request_72 (by decide) rfl (fun h72 => ?_) (fun h72 => ?_)
  · refine V_iconst 83 (v := 0) (by decide) d_Mo_request_82 rfl ?_
    refine V_goto 98 d_Mo_request_83 (by decide) ?_
    refine V_topi (z := if (pwR c n (mF M) (nI a) (nI p) (nI r) (nI o)).1 = 0 then 0 else nI n) (by rw [if_pos h72]) ?_
    exact rq98 l G L _ hM p r o a hr ho v 1 _ _
  · refine V_al0 76 d_Mo_request_75 rfl ?_
    refine V_geti 79 21 (lM hM) kc_Mo (by decide) fl_Mo_103 (Or.inl rfl) rfl d_Mo_request_76 rfl ?_
    refine V_goto 98 d_Mo_request_79 (by decide) ?_
    refine V_topi (z := if (pwR c n (mF M) (nI a) (nI p) (nI r) (nI o)).1 = 0 then 0 else nI n) (by rw [if_neg h72, pwR_dr, mF_n (by decide)]; exact hn) ?_
    exact rq98 l G L _ hM p r o a hr ho v 1 _ _
set_option maxRecDepth 100000 in
set_option maxHeartbeats 4000000 in
theorem c_Mo_request_p (l : Launch) (G : gG) (L : gLy) (M : gMe) (hM : gLM L) (c : Nat) (hcm : M 400 10 = nI c) (hc : c < 25) (K : Nat → Nat → Nat) (hK : gMW (mF M) c K) (p r o a : Nat) (hp : p < 6) (hr : r < 4) (ho : o < 6) (ha : a < 6) (hg : pGoal (mF M) (nI p) (nI r) (nI o)) (hs : (if nI r = 3 then 0 else M 402 o) = nI a) (S : Nat → Prop) (rk : Nat → Nat) (hR : gRk (pfW K o c (mF M)) S rk) (hSg : ¬ pfW K o c (mF M) 421 (mayM a p r) = 0 → S (mayM a p r)) (hrk : rk (mayM a p r) < 759) (v : Int32) : gMet l G y_Mo_request b_Mo_request 8 (some FieldType.int) (rmL 6 0 0) [.ref 400, .int (nI p), .int (nI r), .int (nI o), .int v, .int 0] L M gAll (gPo (some (.int (rqT 0 (pfN K o c (mayM a p r) (mF M)) (pfT K o c (mayM a p r) (mF M)) p r o v).1)) L (rqT 0 (pfN K o c (mayM a p r) (mF M)) (pfT K o c (mayM a p r) (mF M)) p r o v).2) 0 0 := by
  refine gMet_of (lv := [some (.ref 400), some (.int (nI p)), some (.int (nI r)), some (.int (nI o)), some (.int v), some (.int 0), none, none]) (by decide) rfl (Nat.le_of_ble_eq_true rfl) rfl ?_
  refine V_al0 1 d_Mo_request_0 rfl ?_
  refine V_iconst 2 (v := 0) (by decide) d_Mo_request_1 rfl ?_
  refine V_puti 5 2 (lM hM) kc_Mo (by decide) fl_Mo_93 (Or.inl rfl) rfl rfl rfl rfl d_Mo_request_2 rfl ?_
  refine V_il1 6 d_Mo_request_5 rfl ?_
  refine V_cS1 9 (c_Mo_isPerson l G _ (mF M) _) ok_Mo_isPerson ml_Mo_116 st_Mo_isPerson (gRm_ok (by decide) (by decide)) rfl rfl (Nat.le_of_ble_eq_true rfl) d_Mo_request_6 ⟨Nat.le_of_ble_eq_true rfl, Nat.le_of_ble_eq_true rfl⟩ rfl ?_
  refine V_bz 28 12 d_Mo_request_9 (by decide) rfl (fun h9 => absurd h9 (not_not_intro hg.1)) (fun _ => ?_)
  refine V_il2 13 d_Mo_request_12 rfl ?_
  refine V_cS1 16 (c_Mo_isRight l G _ (mF M) _) ok_Mo_isRight ml_Mo_120 st_Mo_isRight (gRm_ok (by decide) (by decide)) rfl rfl (Nat.le_of_ble_eq_true rfl) d_Mo_request_13 ⟨Nat.le_of_ble_eq_true rfl, Nat.le_of_ble_eq_true rfl⟩ rfl ?_
  refine V_bz 28 19 d_Mo_request_16 (by decide) rfl (fun h9 => absurd h9 (not_not_intro hg.2.1)) (fun _ => ?_)
  refine V_il3 20 d_Mo_request_19 rfl ?_
  refine V_iconst 21 (v := 0) (by decide) d_Mo_request_20 rfl ?_
  refine V_iconst 22 (v := 5) (by decide) d_Mo_request_21 rfl ?_
  refine V_cS1 25 (c_Mo_in l G _ (mF M) _ _ _) ok_Mo_in ml_Mo_106 st_Mo_in (gRm_ok (by decide) (by decide)) rfl rfl (Nat.le_of_ble_eq_true rfl) d_Mo_request_22 ⟨Nat.le_of_ble_eq_true rfl, Nat.le_of_ble_eq_true rfl⟩ rfl ?_
  refine V_bn 34 28 d_Mo_request_25 (by decide) rfl (fun _ => ?_) (fun h9 => absurd hg.2.2.1 h9)
  refine V_al0 35 d_Mo_request_34 rfl ?_
  refine V_il1 36 d_Mo_request_35 rfl ?_
  refine V_il2 37 d_Mo_request_36 rfl ?_
  refine V_il3 38 d_Mo_request_37 rfl ?_
  refine V_cV1 41 (c_Mo_isGoal l G _ (mF M) hM _ _ _) ok_Mo_isGoal ml_Mo_213 im_Mo_isGoal se_Mo_isGoal (lM hM) kc_Mo (gRm_ok (by decide) (by decide)) rfl rfl (Nat.le_of_ble_eq_true rfl) d_Mo_request_38 ⟨Nat.le_of_ble_eq_true rfl, Nat.le_of_ble_eq_true rfl⟩ rfl ?_
  refine V_bn 50 44 d_Mo_request_41 (by decide) rfl (fun _ => ?_) (fun h9 => absurd hg h9)
  refine V_al0 51 d_Mo_request_50 rfl ?_
  refine V_il2 52 d_Mo_request_51 rfl ?_
  refine V_il3 53 d_Mo_request_52 rfl ?_
  refine V_cV1 56 (c_Mo_sayer l G _ (mF M) hM _ o ho) ok_Mo_sayer ml_Mo_216 im_Mo_sayer se_Mo_sayer (lM hM) kc_Mo (gRm_ok (by decide) (by decide)) rfl rfl (Nat.le_of_ble_eq_true rfl) d_Mo_request_53 ⟨Nat.le_of_ble_eq_true rfl, Nat.le_of_ble_eq_true rfl⟩ rfl ?_
  refine V_topi (z := nI a) (by rw [mF_a (by decide)]; exact hs) ?_
  refine V_is6 58 d_Mo_request_56 (by decide) rfl ?_
  refine V_il5 60 d_Mo_request_58 rfl ?_
  refine V_if_eq 86 63 d_Mo_request_60 (by decide) rfl (fun _ => ?_) (fun h9 => absurd (show (0 : Int32) = 0 from rfl) h9)
  refine V_al0 87 d_Mo_request_86 rfl ?_
  refine V_il3 88 d_Mo_request_87 rfl ?_
  refine V_il6 90 d_Mo_request_88 rfl ?_
  refine V_il1 91 d_Mo_request_90 rfl ?_
  refine V_il2 92 d_Mo_request_91 rfl ?_
  refine V_cS1 95 (c_Mo_may l G _ _ _ _ _) ok_Mo_may ml_Mo_153 st_Mo_may (gRm_ok (by decide) (by decide)) rfl rfl (Nat.le_of_ble_eq_true rfl) d_Mo_request_92 ⟨Nat.le_of_ble_eq_true rfl, Nat.le_of_ble_eq_true rfl⟩ rfl ?_
  refine V_topi (mayM_nI a p r) ?_
  refine V_cV1 98 (c_Mo_proof l G _ (mF M) hM c (by rw [mF_n (by decide)]; exact hcm) hc K hK o ho (mayM a p r) (mayM_lt ha hp hr) S rk hR hSg hrk) ok_Mo_proof ml_Mo_219 im_Mo_proof se_Mo_proof (lM hM) kc_Mo (gRm_ok (by decide) (by decide)) rfl rfl (Nat.le_of_ble_eq_true rfl) d_Mo_request_95 ⟨Nat.le_of_ble_eq_true rfl, Nat.le_of_ble_eq_true rfl⟩ rfl ?_
  exact rq98 l G L _ hM p r o a hr ho v 0 _ _

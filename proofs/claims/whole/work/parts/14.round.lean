/-! the rounds of the prover -/
def fmvR (b a r : Nat) (M : gMe) : gMe := hom 2 (nI (spkN b a)) a b r M
def fmvA (b a : Nat) (M : gMe) : gMe := if pKn M (spkN b a) then itN (fmvR b a) 4 0 M else M
def fmvB (b : Nat) (M : gMe) : gMe := itN (fmvA b) 6 0 M
def pFmv (M : gMe) : gMe := itN fmvB 6 0 M
set_option maxRecDepth 100000 in
set_option maxHeartbeats 4000000 in
theorem c_Pv_findMayByVoice (l : Launch) (G : gG) (L : gLy) (M : gMe) (hL : gLC L) : gMet l G y_Pv_findMayByVoice b_Pv_findMayByVoice 5 none (rmL 3 0 0) [.ref 10] L M gAll (gPo none L (pFmv M)) 0 0 := by
  have lpb : ∀ (db b : Nat) (M1 : gMe), b + db = 6 → itN (fmvB) db b M1 = pFmv M → ∀ zb0 zb1 zb2 : Option Value, V l G y_Pv_findMayByVoice b_Pv_findMayByVoice 5 none (rmL 3 0 0) 0 0 gAll (gPo none L (pFmv M)) L (M1) 0 0 [some (.ref 10), some (.int (nI b)), zb0, zb1, zb2] 2 [] := by
    intro db
    induction db with
    | zero =>
      intro b M1 hxb hTb zb0 zb1 zb2
      obtain rfl : b = 6 := by omega
      refine V_il1 3 d_Pv_findMayByVoice_2 rfl ?_
      refine V_bipush 5 (v := 6) (by decide) d_Pv_findMayByVoice_3 rfl ?_
      refine V_icmp_ge 67 8 d_Pv_findMayByVoice_5 (by decide) rfl (fun _ => ?_) (fun h9 => absurd (show (6 : Int32) ≤ nI 6 by decide) h9)
      exact V_vret rfl d_Pv_findMayByVoice_67 ⟨rfl, rfl, hTb⟩
    | succ db ihb =>
      intro b M1 hxb hTb zb0 zb1 zb2
      have hlb : b < 6 := by omega
      have lpa : ∀ (da a : Nat) (M2 : gMe), a + da = 6 → itN (fmvB) db (b + 1) (itN (fmvA b) da a M2) = pFmv M → ∀ za0 za1 : Option Value, V l G y_Pv_findMayByVoice b_Pv_findMayByVoice 5 none (rmL 3 0 0) 0 0 gAll (gPo none L (pFmv M)) L (M2) 0 0 [some (.ref 10), some (.int (nI b)), some (.int (nI a)), za0, za1] 10 [] := by
        intro da
        induction da with
        | zero =>
          intro a M2 hxa hTa za0 za1
          obtain rfl : a = 6 := by omega
          refine V_il2 11 d_Pv_findMayByVoice_10 rfl ?_
          refine V_bipush 13 (v := 6) (by decide) d_Pv_findMayByVoice_11 rfl ?_
          refine V_icmp_ge 61 16 d_Pv_findMayByVoice_13 (by decide) rfl (fun _ => ?_) (fun h9 => absurd (show (6 : Int32) ≤ nI 6 by decide) h9)
          refine V_ii1 64 (v := 1) d_Pv_findMayByVoice_61 (by decide) (by decide) rfl ?_
          refine V_goto 2 d_Pv_findMayByVoice_64 (by decide) ?_
          rw [nI_1]
          exact ihb (b + 1) _ (by omega) hTa _ _ _
        | succ da iha =>
          intro a M2 hxa hTa za0 za1
          have hla : a < 6 := by omega
          have lpr : ∀ (dr r : Nat) (M3 : gMe), r + dr = 4 → itN (fmvB) db (b + 1) (itN (fmvA b) da (a + 1) (itN (fmvR b a) dr r M3)) = pFmv M → V l G y_Pv_findMayByVoice b_Pv_findMayByVoice 5 none (rmL 3 0 0) 0 0 gAll (gPo none L (pFmv M)) L (M3) 0 0 [some (.ref 10), some (.int (nI b)), some (.int (nI a)), some (.int (nI (spkN b a))), some (.int (nI r))] 33 [] := by
            intro dr
            induction dr with
            | zero =>
              intro r M3 hxr hTr 
              obtain rfl : r = 4 := by omega
              refine V_il4 35 d_Pv_findMayByVoice_33 rfl ?_
              refine V_iconst 36 (v := 4) (by decide) d_Pv_findMayByVoice_35 rfl ?_
              refine V_icmp_ge 55 39 d_Pv_findMayByVoice_36 (by decide) rfl (fun _ => ?_) (fun h9 => absurd (show (4 : Int32) ≤ nI 4 by decide) h9)
              refine V_ii2 58 (v := 1) d_Pv_findMayByVoice_55 (by decide) (by decide) rfl ?_
              refine V_goto 10 d_Pv_findMayByVoice_58 (by decide) ?_
              rw [nI_1]
              exact iha (a + 1) _ (by omega) hTr _ _
            | succ dr ihr =>
              intro r M3 hxr hTr 
              have hlr : r < 4 := by omega
              refine V_il4 35 d_Pv_findMayByVoice_33 rfl ?_
              refine V_iconst 36 (v := 4) (by decide) d_Pv_findMayByVoice_35 rfl ?_
              refine V_icmp_ge 55 39 d_Pv_findMayByVoice_36 (by decide) rfl (fun h9 => absurd h9 (nI_ge (b := 4) hlr (by decide))) (fun _ => ?_)
              refine V_al0 40 d_Pv_findMayByVoice_39 rfl ?_
              refine V_iconst 41 (v := 2) (by decide) d_Pv_findMayByVoice_40 rfl ?_
              refine V_il3 42 d_Pv_findMayByVoice_41 rfl ?_
              refine V_il2 43 d_Pv_findMayByVoice_42 rfl ?_
              refine V_il1 44 d_Pv_findMayByVoice_43 rfl ?_
              refine V_il4 46 d_Pv_findMayByVoice_44 rfl ?_
              refine V_cV0 49 (c_Pv_handOnMay l G _ _ hL _ _ a b r hla hlb hlr) ok_Pv_handOnMay ml_Pv_135 im_Pv_handOnMay se_Pv_handOnMay (lC10 hL) kc_Pv (gRm_ok (by decide) (by decide)) rfl rfl (Nat.le_of_ble_eq_true rfl) d_Pv_findMayByVoice_46 ⟨Nat.le_of_ble_eq_true rfl, Nat.le_of_ble_eq_true rfl⟩ rfl ?_
              refine V_ii4 52 (v := 1) d_Pv_findMayByVoice_49 (by decide) (by decide) rfl ?_
              refine V_goto 33 d_Pv_findMayByVoice_52 (by decide) ?_
              rw [nI_1]
              exact ihr (r + 1) _ (by omega) (itN_s (F := fun z9 => itN (fmvB) db (b + 1) (itN (fmvA b) da (a + 1) (z9))) hTr (rfl))
          refine V_il2 11 d_Pv_findMayByVoice_10 rfl ?_
          refine V_bipush 13 (v := 6) (by decide) d_Pv_findMayByVoice_11 rfl ?_
          refine V_icmp_ge 61 16 d_Pv_findMayByVoice_13 (by decide) rfl (fun h9 => absurd h9 (nI_ge (b := 6) hla (by decide))) (fun _ => ?_)
          refine V_il1 17 d_Pv_findMayByVoice_16 rfl ?_
          refine V_il2 18 d_Pv_findMayByVoice_17 rfl ?_
          refine V_cS1 21 (c_Pv_speaks l G _ _ _ _) ok_Pv_speaks ml_Pv_123 st_Pv_speaks (gRm_ok (by decide) (by decide)) rfl rfl (Nat.le_of_ble_eq_true rfl) d_Pv_findMayByVoice_18 ⟨Nat.le_of_ble_eq_true rfl, Nat.le_of_ble_eq_true rfl⟩ rfl ?_
          refine V_topi (spk_nI b a) ?_
          refine V_is3 22 d_Pv_findMayByVoice_21 (by decide) rfl ?_
          refine V_al0 23 d_Pv_findMayByVoice_22 rfl ?_
          refine V_il3 24 d_Pv_findMayByVoice_23 rfl ?_
          refine V_cV1 27 (c_Pv_isKnown l G _ _ hL (spkN b a) (spkN_lt hlb hla)) ok_Pv_isKnown ml_Pv_131 im_Pv_isKnown se_Pv_isKnown (lC10 hL) kc_Pv (gRm_ok (by decide) (by decide)) rfl rfl (Nat.le_of_ble_eq_true rfl) d_Pv_findMayByVoice_24 ⟨Nat.le_of_ble_eq_true rfl, Nat.le_of_ble_eq_true rfl⟩ rfl ?_
          refine V_bz 55 30 d_Pv_findMayByVoice_27 (by decide) rfl (fun h27 => ?_) (fun h27 => ?_)
          · refine V_ii2 58 (v := 1) d_Pv_findMayByVoice_55 (by decide) (by decide) rfl ?_
            refine V_goto 10 d_Pv_findMayByVoice_58 (by decide) ?_
            rw [nI_1]
            exact iha (a + 1) _ (by omega) (itN_s (F := fun z9 => itN (fmvB) db (b + 1) (z9)) hTa (if_neg h27)) _ _
          · refine V_iconst 31 (v := 0) (by decide) d_Pv_findMayByVoice_30 rfl ?_
            refine V_is4 33 d_Pv_findMayByVoice_31 (by decide) rfl ?_
            exact lpr 4 0 _ (by decide) (itN_s (F := fun z9 => itN (fmvB) db (b + 1) (z9)) hTa (if_pos h27))
      refine V_il1 3 d_Pv_findMayByVoice_2 rfl ?_
      refine V_bipush 5 (v := 6) (by decide) d_Pv_findMayByVoice_3 rfl ?_
      refine V_icmp_ge 67 8 d_Pv_findMayByVoice_5 (by decide) rfl (fun h9 => absurd h9 (nI_ge (b := 6) hlb (by decide))) (fun _ => ?_)
      refine V_iconst 9 (v := 0) (by decide) d_Pv_findMayByVoice_8 rfl ?_
      refine V_is2 10 d_Pv_findMayByVoice_9 (by decide) rfl ?_
      exact lpa 6 0 _ (by decide) hTb _ _
  refine gMet_of (lv := [some (.ref 10), none, none, none, none]) (by decide) rfl (Nat.le_of_ble_eq_true rfl) rfl ?_
  refine V_iconst 1 (v := 0) (by decide) d_Pv_findMayByVoice_0 rfl ?_
  refine V_is1 2 d_Pv_findMayByVoice_1 (by decide) rfl ?_
  exact lpb 6 0 M (by decide) rfl _ _ _
def ftvR (b a r : Nat) (M : gMe) : gMe := hot 5 (nI (spkN b a)) a b r 3 M
def ftvA (b a : Nat) (M : gMe) : gMe := if pKn M (spkN b a) then itN (ftvR b a) 4 0 M else M
def ftvB (b : Nat) (M : gMe) : gMe := itN (ftvA b) 6 0 M
def pFtv (M : gMe) : gMe := itN ftvB 6 0 M
set_option maxRecDepth 100000 in
set_option maxHeartbeats 4000000 in
theorem c_Pv_findTrustByVoice (l : Launch) (G : gG) (L : gLy) (M : gMe) (hL : gLC L) : gMet l G y_Pv_findTrustByVoice b_Pv_findTrustByVoice 5 none (rmL 3 0 0) [.ref 10] L M gAll (gPo none L (pFtv M)) 0 0 := by
  have lpb : ∀ (db b : Nat) (M1 : gMe), b + db = 6 → itN (ftvB) db b M1 = pFtv M → ∀ zb0 zb1 zb2 : Option Value, V l G y_Pv_findTrustByVoice b_Pv_findTrustByVoice 5 none (rmL 3 0 0) 0 0 gAll (gPo none L (pFtv M)) L (M1) 0 0 [some (.ref 10), some (.int (nI b)), zb0, zb1, zb2] 2 [] := by
    intro db
    induction db with
    | zero =>
      intro b M1 hxb hTb zb0 zb1 zb2
      obtain rfl : b = 6 := by omega
      refine V_il1 3 d_Pv_findTrustByVoice_2 rfl ?_
      refine V_bipush 5 (v := 6) (by decide) d_Pv_findTrustByVoice_3 rfl ?_
      refine V_icmp_ge 68 8 d_Pv_findTrustByVoice_5 (by decide) rfl (fun _ => ?_) (fun h9 => absurd (show (6 : Int32) ≤ nI 6 by decide) h9)
      exact V_vret rfl d_Pv_findTrustByVoice_68 ⟨rfl, rfl, hTb⟩
    | succ db ihb =>
      intro b M1 hxb hTb zb0 zb1 zb2
      have hlb : b < 6 := by omega
      have lpa : ∀ (da a : Nat) (M2 : gMe), a + da = 6 → itN (ftvB) db (b + 1) (itN (ftvA b) da a M2) = pFtv M → ∀ za0 za1 : Option Value, V l G y_Pv_findTrustByVoice b_Pv_findTrustByVoice 5 none (rmL 3 0 0) 0 0 gAll (gPo none L (pFtv M)) L (M2) 0 0 [some (.ref 10), some (.int (nI b)), some (.int (nI a)), za0, za1] 10 [] := by
        intro da
        induction da with
        | zero =>
          intro a M2 hxa hTa za0 za1
          obtain rfl : a = 6 := by omega
          refine V_il2 11 d_Pv_findTrustByVoice_10 rfl ?_
          refine V_bipush 13 (v := 6) (by decide) d_Pv_findTrustByVoice_11 rfl ?_
          refine V_icmp_ge 62 16 d_Pv_findTrustByVoice_13 (by decide) rfl (fun _ => ?_) (fun h9 => absurd (show (6 : Int32) ≤ nI 6 by decide) h9)
          refine V_ii1 65 (v := 1) d_Pv_findTrustByVoice_62 (by decide) (by decide) rfl ?_
          refine V_goto 2 d_Pv_findTrustByVoice_65 (by decide) ?_
          rw [nI_1]
          exact ihb (b + 1) _ (by omega) hTa _ _ _
        | succ da iha =>
          intro a M2 hxa hTa za0 za1
          have hla : a < 6 := by omega
          have lpr : ∀ (dr r : Nat) (M3 : gMe), r + dr = 4 → itN (ftvB) db (b + 1) (itN (ftvA b) da (a + 1) (itN (ftvR b a) dr r M3)) = pFtv M → V l G y_Pv_findTrustByVoice b_Pv_findTrustByVoice 5 none (rmL 3 0 0) 0 0 gAll (gPo none L (pFtv M)) L (M3) 0 0 [some (.ref 10), some (.int (nI b)), some (.int (nI a)), some (.int (nI (spkN b a))), some (.int (nI r))] 33 [] := by
            intro dr
            induction dr with
            | zero =>
              intro r M3 hxr hTr 
              obtain rfl : r = 4 := by omega
              refine V_il4 35 d_Pv_findTrustByVoice_33 rfl ?_
              refine V_iconst 36 (v := 4) (by decide) d_Pv_findTrustByVoice_35 rfl ?_
              refine V_icmp_ge 56 39 d_Pv_findTrustByVoice_36 (by decide) rfl (fun _ => ?_) (fun h9 => absurd (show (4 : Int32) ≤ nI 4 by decide) h9)
              refine V_ii2 59 (v := 1) d_Pv_findTrustByVoice_56 (by decide) (by decide) rfl ?_
              refine V_goto 10 d_Pv_findTrustByVoice_59 (by decide) ?_
              rw [nI_1]
              exact iha (a + 1) _ (by omega) hTr _ _
            | succ dr ihr =>
              intro r M3 hxr hTr 
              have hlr : r < 4 := by omega
              refine V_il4 35 d_Pv_findTrustByVoice_33 rfl ?_
              refine V_iconst 36 (v := 4) (by decide) d_Pv_findTrustByVoice_35 rfl ?_
              refine V_icmp_ge 56 39 d_Pv_findTrustByVoice_36 (by decide) rfl (fun h9 => absurd h9 (nI_ge (b := 4) hlr (by decide))) (fun _ => ?_)
              refine V_al0 40 d_Pv_findTrustByVoice_39 rfl ?_
              refine V_iconst 41 (v := 5) (by decide) d_Pv_findTrustByVoice_40 rfl ?_
              refine V_il3 42 d_Pv_findTrustByVoice_41 rfl ?_
              refine V_il2 43 d_Pv_findTrustByVoice_42 rfl ?_
              refine V_il1 44 d_Pv_findTrustByVoice_43 rfl ?_
              refine V_il4 46 d_Pv_findTrustByVoice_44 rfl ?_
              refine V_iconst 47 (v := 3) (by decide) d_Pv_findTrustByVoice_46 rfl ?_
              refine V_cV0 50 (c_Pv_handOnTrust l G _ _ hL _ _ a b r 3 hla hlb hlr (by decide)) ok_Pv_handOnTrust ml_Pv_139 im_Pv_handOnTrust se_Pv_handOnTrust (lC10 hL) kc_Pv (gRm_ok (by decide) (by decide)) rfl rfl (Nat.le_of_ble_eq_true rfl) d_Pv_findTrustByVoice_47 ⟨Nat.le_of_ble_eq_true rfl, Nat.le_of_ble_eq_true rfl⟩ rfl ?_
              refine V_ii4 53 (v := 1) d_Pv_findTrustByVoice_50 (by decide) (by decide) rfl ?_
              refine V_goto 33 d_Pv_findTrustByVoice_53 (by decide) ?_
              rw [nI_1]
              exact ihr (r + 1) _ (by omega) (itN_s (F := fun z9 => itN (ftvB) db (b + 1) (itN (ftvA b) da (a + 1) (z9))) hTr (rfl))
          refine V_il2 11 d_Pv_findTrustByVoice_10 rfl ?_
          refine V_bipush 13 (v := 6) (by decide) d_Pv_findTrustByVoice_11 rfl ?_
          refine V_icmp_ge 62 16 d_Pv_findTrustByVoice_13 (by decide) rfl (fun h9 => absurd h9 (nI_ge (b := 6) hla (by decide))) (fun _ => ?_)
          refine V_il1 17 d_Pv_findTrustByVoice_16 rfl ?_
          refine V_il2 18 d_Pv_findTrustByVoice_17 rfl ?_
          refine V_cS1 21 (c_Pv_speaks l G _ _ _ _) ok_Pv_speaks ml_Pv_123 st_Pv_speaks (gRm_ok (by decide) (by decide)) rfl rfl (Nat.le_of_ble_eq_true rfl) d_Pv_findTrustByVoice_18 ⟨Nat.le_of_ble_eq_true rfl, Nat.le_of_ble_eq_true rfl⟩ rfl ?_
          refine V_topi (spk_nI b a) ?_
          refine V_is3 22 d_Pv_findTrustByVoice_21 (by decide) rfl ?_
          refine V_al0 23 d_Pv_findTrustByVoice_22 rfl ?_
          refine V_il3 24 d_Pv_findTrustByVoice_23 rfl ?_
          refine V_cV1 27 (c_Pv_isKnown l G _ _ hL (spkN b a) (spkN_lt hlb hla)) ok_Pv_isKnown ml_Pv_131 im_Pv_isKnown se_Pv_isKnown (lC10 hL) kc_Pv (gRm_ok (by decide) (by decide)) rfl rfl (Nat.le_of_ble_eq_true rfl) d_Pv_findTrustByVoice_24 ⟨Nat.le_of_ble_eq_true rfl, Nat.le_of_ble_eq_true rfl⟩ rfl ?_
          refine V_bz 56 30 d_Pv_findTrustByVoice_27 (by decide) rfl (fun h27 => ?_) (fun h27 => ?_)
          · refine V_ii2 59 (v := 1) d_Pv_findTrustByVoice_56 (by decide) (by decide) rfl ?_
            refine V_goto 10 d_Pv_findTrustByVoice_59 (by decide) ?_
            rw [nI_1]
            exact iha (a + 1) _ (by omega) (itN_s (F := fun z9 => itN (ftvB) db (b + 1) (z9)) hTa (if_neg h27)) _ _
          · refine V_iconst 31 (v := 0) (by decide) d_Pv_findTrustByVoice_30 rfl ?_
            refine V_is4 33 d_Pv_findTrustByVoice_31 (by decide) rfl ?_
            exact lpr 4 0 _ (by decide) (itN_s (F := fun z9 => itN (ftvB) db (b + 1) (z9)) hTa (if_pos h27))
      refine V_il1 3 d_Pv_findTrustByVoice_2 rfl ?_
      refine V_bipush 5 (v := 6) (by decide) d_Pv_findTrustByVoice_3 rfl ?_
      refine V_icmp_ge 68 8 d_Pv_findTrustByVoice_5 (by decide) rfl (fun h9 => absurd h9 (nI_ge (b := 6) hlb (by decide))) (fun _ => ?_)
      refine V_iconst 9 (v := 0) (by decide) d_Pv_findTrustByVoice_8 rfl ?_
      refine V_is2 10 d_Pv_findTrustByVoice_9 (by decide) rfl ?_
      exact lpa 6 0 _ (by decide) hTb _ _
  refine gMet_of (lv := [some (.ref 10), none, none, none, none]) (by decide) rfl (Nat.le_of_ble_eq_true rfl) rfl ?_
  refine V_iconst 1 (v := 0) (by decide) d_Pv_findTrustByVoice_0 rfl ?_
  refine V_is1 2 d_Pv_findTrustByVoice_1 (by decide) rfl ?_
  exact lpb 6 0 M (by decide) rfl _ _ _
def fmtD (b a r d : Nat) (M : gMe) : gMe := if pKn M (truN a b r d) then hom 3 (nI (truN a b r d)) a b r M else M
def fmtR (b a r : Nat) (M : gMe) : gMe := itN (fmtD b a r) 4 0 M
def fmtA (b a : Nat) (M : gMe) : gMe := itN (fmtR b a) 4 0 M
def fmtB (b : Nat) (M : gMe) : gMe := itN (fmtA b) 6 0 M
def pFmt (M : gMe) : gMe := itN fmtB 6 0 M
set_option maxRecDepth 100000 in
set_option maxHeartbeats 4000000 in
theorem c_Pv_findMayByTrust (l : Launch) (G : gG) (L : gLy) (M : gMe) (hL : gLC L) : gMet l G y_Pv_findMayByTrust b_Pv_findMayByTrust 6 none (rmL 3 0 0) [.ref 10] L M gAll (gPo none L (pFmt M)) 0 0 := by
  have lpb : ∀ (db b : Nat) (M1 : gMe), b + db = 6 → itN (fmtB) db b M1 = pFmt M → ∀ zb0 zb1 zb2 zb3 : Option Value, V l G y_Pv_findMayByTrust b_Pv_findMayByTrust 6 none (rmL 3 0 0) 0 0 gAll (gPo none L (pFmt M)) L (M1) 0 0 [some (.ref 10), some (.int (nI b)), zb0, zb1, zb2, zb3] 2 [] := by
    intro db
    induction db with
    | zero =>
      intro b M1 hxb hTb zb0 zb1 zb2 zb3
      obtain rfl : b = 6 := by omega
      refine V_il1 3 d_Pv_findMayByTrust_2 rfl ?_
      refine V_bipush 5 (v := 6) (by decide) d_Pv_findMayByTrust_3 rfl ?_
      refine V_icmp_ge 85 8 d_Pv_findMayByTrust_5 (by decide) rfl (fun _ => ?_) (fun h9 => absurd (show (6 : Int32) ≤ nI 6 by decide) h9)
      exact V_vret rfl d_Pv_findMayByTrust_85 ⟨rfl, rfl, hTb⟩
    | succ db ihb =>
      intro b M1 hxb hTb zb0 zb1 zb2 zb3
      have hlb : b < 6 := by omega
      have lpa : ∀ (da a : Nat) (M2 : gMe), a + da = 6 → itN (fmtB) db (b + 1) (itN (fmtA b) da a M2) = pFmt M → ∀ za0 za1 za2 : Option Value, V l G y_Pv_findMayByTrust b_Pv_findMayByTrust 6 none (rmL 3 0 0) 0 0 gAll (gPo none L (pFmt M)) L (M2) 0 0 [some (.ref 10), some (.int (nI b)), some (.int (nI a)), za0, za1, za2] 10 [] := by
        intro da
        induction da with
        | zero =>
          intro a M2 hxa hTa za0 za1 za2
          obtain rfl : a = 6 := by omega
          refine V_il2 11 d_Pv_findMayByTrust_10 rfl ?_
          refine V_bipush 13 (v := 6) (by decide) d_Pv_findMayByTrust_11 rfl ?_
          refine V_icmp_ge 79 16 d_Pv_findMayByTrust_13 (by decide) rfl (fun _ => ?_) (fun h9 => absurd (show (6 : Int32) ≤ nI 6 by decide) h9)
          refine V_ii1 82 (v := 1) d_Pv_findMayByTrust_79 (by decide) (by decide) rfl ?_
          refine V_goto 2 d_Pv_findMayByTrust_82 (by decide) ?_
          rw [nI_1]
          exact ihb (b + 1) _ (by omega) hTa _ _ _ _
        | succ da iha =>
          intro a M2 hxa hTa za0 za1 za2
          have hla : a < 6 := by omega
          have lpr : ∀ (dr r : Nat) (M3 : gMe), r + dr = 4 → itN (fmtB) db (b + 1) (itN (fmtA b) da (a + 1) (itN (fmtR b a) dr r M3)) = pFmt M → ∀ zr0 zr1 : Option Value, V l G y_Pv_findMayByTrust b_Pv_findMayByTrust 6 none (rmL 3 0 0) 0 0 gAll (gPo none L (pFmt M)) L (M3) 0 0 [some (.ref 10), some (.int (nI b)), some (.int (nI a)), some (.int (nI r)), zr0, zr1] 18 [] := by
            intro dr
            induction dr with
            | zero =>
              intro r M3 hxr hTr zr0 zr1
              obtain rfl : r = 4 := by omega
              refine V_il3 19 d_Pv_findMayByTrust_18 rfl ?_
              refine V_iconst 20 (v := 4) (by decide) d_Pv_findMayByTrust_19 rfl ?_
              refine V_icmp_ge 73 23 d_Pv_findMayByTrust_20 (by decide) rfl (fun _ => ?_) (fun h9 => absurd (show (4 : Int32) ≤ nI 4 by decide) h9)
              refine V_ii2 76 (v := 1) d_Pv_findMayByTrust_73 (by decide) (by decide) rfl ?_
              refine V_goto 10 d_Pv_findMayByTrust_76 (by decide) ?_
              rw [nI_1]
              exact iha (a + 1) _ (by omega) hTr _ _ _
            | succ dr ihr =>
              intro r M3 hxr hTr zr0 zr1
              have hlr : r < 4 := by omega
              have lpd : ∀ (dd d : Nat) (M4 : gMe), d + dd = 4 → itN (fmtB) db (b + 1) (itN (fmtA b) da (a + 1) (itN (fmtR b a) dr (r + 1) (itN (fmtD b a r) dd d M4))) = pFmt M → ∀ zd0 : Option Value, V l G y_Pv_findMayByTrust b_Pv_findMayByTrust 6 none (rmL 3 0 0) 0 0 gAll (gPo none L (pFmt M)) L (M4) 0 0 [some (.ref 10), some (.int (nI b)), some (.int (nI a)), some (.int (nI r)), some (.int (nI d)), zd0] 26 [] := by
                intro dd
                induction dd with
                | zero =>
                  intro d M4 hxd hTd zd0
                  obtain rfl : d = 4 := by omega
                  refine V_il4 28 d_Pv_findMayByTrust_26 rfl ?_
                  refine V_iconst 29 (v := 4) (by decide) d_Pv_findMayByTrust_28 rfl ?_
                  refine V_icmp_ge 67 32 d_Pv_findMayByTrust_29 (by decide) rfl (fun _ => ?_) (fun h9 => absurd (show (4 : Int32) ≤ nI 4 by decide) h9)
                  refine V_ii3 70 (v := 1) d_Pv_findMayByTrust_67 (by decide) (by decide) rfl ?_
                  refine V_goto 18 d_Pv_findMayByTrust_70 (by decide) ?_
                  rw [nI_1]
                  exact ihr (r + 1) _ (by omega) hTd _ _
                | succ dd ihd =>
                  intro d M4 hxd hTd zd0
                  have hld : d < 4 := by omega
                  refine V_il4 28 d_Pv_findMayByTrust_26 rfl ?_
                  refine V_iconst 29 (v := 4) (by decide) d_Pv_findMayByTrust_28 rfl ?_
                  refine V_icmp_ge 67 32 d_Pv_findMayByTrust_29 (by decide) rfl (fun h9 => absurd h9 (nI_ge (b := 4) hld (by decide))) (fun _ => ?_)
                  refine V_il2 33 d_Pv_findMayByTrust_32 rfl ?_
                  refine V_il1 34 d_Pv_findMayByTrust_33 rfl ?_
                  refine V_il3 35 d_Pv_findMayByTrust_34 rfl ?_
                  refine V_il4 37 d_Pv_findMayByTrust_35 rfl ?_
                  refine V_cS1 40 (c_Pv_trusts l G _ _ _ _ _ _) ok_Pv_trusts ml_Pv_127 st_Pv_trusts (gRm_ok (by decide) (by decide)) rfl rfl (Nat.le_of_ble_eq_true rfl) d_Pv_findMayByTrust_37 ⟨Nat.le_of_ble_eq_true rfl, Nat.le_of_ble_eq_true rfl⟩ rfl ?_
                  refine V_topi (tru_nI a b r d) ?_
                  refine V_is5 42 d_Pv_findMayByTrust_40 (by decide) rfl ?_
                  refine V_al0 43 d_Pv_findMayByTrust_42 rfl ?_
                  refine V_il5 45 d_Pv_findMayByTrust_43 rfl ?_
                  refine V_cV1 48 (c_Pv_isKnown l G _ _ hL (truN a b r d) (truN_lt hla hlb hlr hld)) ok_Pv_isKnown ml_Pv_131 im_Pv_isKnown se_Pv_isKnown (lC10 hL) kc_Pv (gRm_ok (by decide) (by decide)) rfl rfl (Nat.le_of_ble_eq_true rfl) d_Pv_findMayByTrust_45 ⟨Nat.le_of_ble_eq_true rfl, Nat.le_of_ble_eq_true rfl⟩ rfl ?_
                  refine V_bz 61 51 d_Pv_findMayByTrust_48 (by decide) rfl (fun h48 => ?_) (fun h48 => ?_)
                  · refine V_ii4 64 (v := 1) d_Pv_findMayByTrust_61 (by decide) (by decide) rfl ?_
                    refine V_goto 26 d_Pv_findMayByTrust_64 (by decide) ?_
                    rw [nI_1]
                    exact ihd (d + 1) _ (by omega) (itN_s (F := fun z9 => itN (fmtB) db (b + 1) (itN (fmtA b) da (a + 1) (itN (fmtR b a) dr (r + 1) (z9)))) hTd (if_neg h48)) _
                  · refine V_al0 52 d_Pv_findMayByTrust_51 rfl ?_
                    refine V_iconst 53 (v := 3) (by decide) d_Pv_findMayByTrust_52 rfl ?_
                    refine V_il5 55 d_Pv_findMayByTrust_53 rfl ?_
                    refine V_il2 56 d_Pv_findMayByTrust_55 rfl ?_
                    refine V_il1 57 d_Pv_findMayByTrust_56 rfl ?_
                    refine V_il3 58 d_Pv_findMayByTrust_57 rfl ?_
                    refine V_cV0 61 (c_Pv_handOnMay l G _ _ hL _ _ a b r hla hlb hlr) ok_Pv_handOnMay ml_Pv_135 im_Pv_handOnMay se_Pv_handOnMay (lC10 hL) kc_Pv (gRm_ok (by decide) (by decide)) rfl rfl (Nat.le_of_ble_eq_true rfl) d_Pv_findMayByTrust_58 ⟨Nat.le_of_ble_eq_true rfl, Nat.le_of_ble_eq_true rfl⟩ rfl ?_
                    refine V_ii4 64 (v := 1) d_Pv_findMayByTrust_61 (by decide) (by decide) rfl ?_
                    refine V_goto 26 d_Pv_findMayByTrust_64 (by decide) ?_
                    rw [nI_1]
                    exact ihd (d + 1) _ (by omega) (itN_s (F := fun z9 => itN (fmtB) db (b + 1) (itN (fmtA b) da (a + 1) (itN (fmtR b a) dr (r + 1) (z9)))) hTd (if_pos h48)) _
              refine V_il3 19 d_Pv_findMayByTrust_18 rfl ?_
              refine V_iconst 20 (v := 4) (by decide) d_Pv_findMayByTrust_19 rfl ?_
              refine V_icmp_ge 73 23 d_Pv_findMayByTrust_20 (by decide) rfl (fun h9 => absurd h9 (nI_ge (b := 4) hlr (by decide))) (fun _ => ?_)
              refine V_iconst 24 (v := 0) (by decide) d_Pv_findMayByTrust_23 rfl ?_
              refine V_is4 26 d_Pv_findMayByTrust_24 (by decide) rfl ?_
              exact lpd 4 0 _ (by decide) hTr _
          refine V_il2 11 d_Pv_findMayByTrust_10 rfl ?_
          refine V_bipush 13 (v := 6) (by decide) d_Pv_findMayByTrust_11 rfl ?_
          refine V_icmp_ge 79 16 d_Pv_findMayByTrust_13 (by decide) rfl (fun h9 => absurd h9 (nI_ge (b := 6) hla (by decide))) (fun _ => ?_)
          refine V_iconst 17 (v := 0) (by decide) d_Pv_findMayByTrust_16 rfl ?_
          refine V_is3 18 d_Pv_findMayByTrust_17 (by decide) rfl ?_
          exact lpr 4 0 _ (by decide) hTa _ _
      refine V_il1 3 d_Pv_findMayByTrust_2 rfl ?_
      refine V_bipush 5 (v := 6) (by decide) d_Pv_findMayByTrust_3 rfl ?_
      refine V_icmp_ge 85 8 d_Pv_findMayByTrust_5 (by decide) rfl (fun h9 => absurd h9 (nI_ge (b := 6) hlb (by decide))) (fun _ => ?_)
      refine V_iconst 9 (v := 0) (by decide) d_Pv_findMayByTrust_8 rfl ?_
      refine V_is2 10 d_Pv_findMayByTrust_9 (by decide) rfl ?_
      exact lpa 6 0 _ (by decide) hTb _ _ _
  refine gMet_of (lv := [some (.ref 10), none, none, none, none, none]) (by decide) rfl (Nat.le_of_ble_eq_true rfl) rfl ?_
  refine V_iconst 1 (v := 0) (by decide) d_Pv_findMayByTrust_0 rfl ?_
  refine V_is1 2 d_Pv_findMayByTrust_1 (by decide) rfl ?_
  exact lpb 6 0 M (by decide) rfl _ _ _ _
def fttD (b a r d : Nat) (M : gMe) : gMe := if pKn M (truN a b r d) then hot 4 (nI (truN a b r d)) a b r (d - 1) M else M
def fttR (b a r : Nat) (M : gMe) : gMe := itN (fttD b a r) 3 1 M
def fttA (b a : Nat) (M : gMe) : gMe := itN (fttR b a) 4 0 M
def fttB (b : Nat) (M : gMe) : gMe := itN (fttA b) 6 0 M
def pFtt (M : gMe) : gMe := itN fttB 6 0 M
theorem nI_dm {d : Nat} (h : 1 ≤ d) : nI d - 1 = nI (d - 1) := by
  obtain ⟨k, rfl⟩ : ∃ k, d = k + 1 := ⟨d - 1, by omega⟩
  rw [nI_pred]; rfl
set_option maxRecDepth 100000 in
set_option maxHeartbeats 4000000 in
theorem c_Pv_findTrustByTrust (l : Launch) (G : gG) (L : gLy) (M : gMe) (hL : gLC L) : gMet l G y_Pv_findTrustByTrust b_Pv_findTrustByTrust 6 none (rmL 3 0 0) [.ref 10] L M gAll (gPo none L (pFtt M)) 0 0 := by
  have lpb : ∀ (db b : Nat) (M1 : gMe), b + db = 6 → itN (fttB) db b M1 = pFtt M → ∀ zb0 zb1 zb2 zb3 : Option Value, V l G y_Pv_findTrustByTrust b_Pv_findTrustByTrust 6 none (rmL 3 0 0) 0 0 gAll (gPo none L (pFtt M)) L (M1) 0 0 [some (.ref 10), some (.int (nI b)), zb0, zb1, zb2, zb3] 2 [] := by
    intro db
    induction db with
    | zero =>
      intro b M1 hxb hTb zb0 zb1 zb2 zb3
      obtain rfl : b = 6 := by omega
      refine V_il1 3 d_Pv_findTrustByTrust_2 rfl ?_
      refine V_bipush 5 (v := 6) (by decide) d_Pv_findTrustByTrust_3 rfl ?_
      refine V_icmp_ge 89 8 d_Pv_findTrustByTrust_5 (by decide) rfl (fun _ => ?_) (fun h9 => absurd (show (6 : Int32) ≤ nI 6 by decide) h9)
      exact V_vret rfl d_Pv_findTrustByTrust_89 ⟨rfl, rfl, hTb⟩
    | succ db ihb =>
      intro b M1 hxb hTb zb0 zb1 zb2 zb3
      have hlb : b < 6 := by omega
      have lpa : ∀ (da a : Nat) (M2 : gMe), a + da = 6 → itN (fttB) db (b + 1) (itN (fttA b) da a M2) = pFtt M → ∀ za0 za1 za2 : Option Value, V l G y_Pv_findTrustByTrust b_Pv_findTrustByTrust 6 none (rmL 3 0 0) 0 0 gAll (gPo none L (pFtt M)) L (M2) 0 0 [some (.ref 10), some (.int (nI b)), some (.int (nI a)), za0, za1, za2] 10 [] := by
        intro da
        induction da with
        | zero =>
          intro a M2 hxa hTa za0 za1 za2
          obtain rfl : a = 6 := by omega
          refine V_il2 11 d_Pv_findTrustByTrust_10 rfl ?_
          refine V_bipush 13 (v := 6) (by decide) d_Pv_findTrustByTrust_11 rfl ?_
          refine V_icmp_ge 83 16 d_Pv_findTrustByTrust_13 (by decide) rfl (fun _ => ?_) (fun h9 => absurd (show (6 : Int32) ≤ nI 6 by decide) h9)
          refine V_ii1 86 (v := 1) d_Pv_findTrustByTrust_83 (by decide) (by decide) rfl ?_
          refine V_goto 2 d_Pv_findTrustByTrust_86 (by decide) ?_
          rw [nI_1]
          exact ihb (b + 1) _ (by omega) hTa _ _ _ _
        | succ da iha =>
          intro a M2 hxa hTa za0 za1 za2
          have hla : a < 6 := by omega
          have lpr : ∀ (dr r : Nat) (M3 : gMe), r + dr = 4 → itN (fttB) db (b + 1) (itN (fttA b) da (a + 1) (itN (fttR b a) dr r M3)) = pFtt M → ∀ zr0 zr1 : Option Value, V l G y_Pv_findTrustByTrust b_Pv_findTrustByTrust 6 none (rmL 3 0 0) 0 0 gAll (gPo none L (pFtt M)) L (M3) 0 0 [some (.ref 10), some (.int (nI b)), some (.int (nI a)), some (.int (nI r)), zr0, zr1] 18 [] := by
            intro dr
            induction dr with
            | zero =>
              intro r M3 hxr hTr zr0 zr1
              obtain rfl : r = 4 := by omega
              refine V_il3 19 d_Pv_findTrustByTrust_18 rfl ?_
              refine V_iconst 20 (v := 4) (by decide) d_Pv_findTrustByTrust_19 rfl ?_
              refine V_icmp_ge 77 23 d_Pv_findTrustByTrust_20 (by decide) rfl (fun _ => ?_) (fun h9 => absurd (show (4 : Int32) ≤ nI 4 by decide) h9)
              refine V_ii2 80 (v := 1) d_Pv_findTrustByTrust_77 (by decide) (by decide) rfl ?_
              refine V_goto 10 d_Pv_findTrustByTrust_80 (by decide) ?_
              rw [nI_1]
              exact iha (a + 1) _ (by omega) hTr _ _ _
            | succ dr ihr =>
              intro r M3 hxr hTr zr0 zr1
              have hlr : r < 4 := by omega
              have lpd : ∀ (dd d : Nat) (M4 : gMe), d + dd = 4 ∧ 1 ≤ d → itN (fttB) db (b + 1) (itN (fttA b) da (a + 1) (itN (fttR b a) dr (r + 1) (itN (fttD b a r) dd d M4))) = pFtt M → ∀ zd0 : Option Value, V l G y_Pv_findTrustByTrust b_Pv_findTrustByTrust 6 none (rmL 3 0 0) 0 0 gAll (gPo none L (pFtt M)) L (M4) 0 0 [some (.ref 10), some (.int (nI b)), some (.int (nI a)), some (.int (nI r)), some (.int (nI d)), zd0] 26 [] := by
                intro dd
                induction dd with
                | zero =>
                  intro d M4 ⟨hxd, h1d⟩ hTd zd0
                  obtain rfl : d = 4 := by omega
                  refine V_il4 28 d_Pv_findTrustByTrust_26 rfl ?_
                  refine V_iconst 29 (v := 4) (by decide) d_Pv_findTrustByTrust_28 rfl ?_
                  refine V_icmp_ge 71 32 d_Pv_findTrustByTrust_29 (by decide) rfl (fun _ => ?_) (fun h9 => absurd (show (4 : Int32) ≤ nI 4 by decide) h9)
                  refine V_ii3 74 (v := 1) d_Pv_findTrustByTrust_71 (by decide) (by decide) rfl ?_
                  refine V_goto 18 d_Pv_findTrustByTrust_74 (by decide) ?_
                  rw [nI_1]
                  exact ihr (r + 1) _ (by omega) hTd _ _
                | succ dd ihd =>
                  intro d M4 ⟨hxd, h1d⟩ hTd zd0
                  have hld : d < 4 := by omega
                  refine V_il4 28 d_Pv_findTrustByTrust_26 rfl ?_
                  refine V_iconst 29 (v := 4) (by decide) d_Pv_findTrustByTrust_28 rfl ?_
                  refine V_icmp_ge 71 32 d_Pv_findTrustByTrust_29 (by decide) rfl (fun h9 => absurd h9 (nI_ge (b := 4) hld (by decide))) (fun _ => ?_)
                  refine V_il2 33 d_Pv_findTrustByTrust_32 rfl ?_
                  refine V_il1 34 d_Pv_findTrustByTrust_33 rfl ?_
                  refine V_il3 35 d_Pv_findTrustByTrust_34 rfl ?_
                  refine V_il4 37 d_Pv_findTrustByTrust_35 rfl ?_
                  refine V_cS1 40 (c_Pv_trusts l G _ _ _ _ _ _) ok_Pv_trusts ml_Pv_127 st_Pv_trusts (gRm_ok (by decide) (by decide)) rfl rfl (Nat.le_of_ble_eq_true rfl) d_Pv_findTrustByTrust_37 ⟨Nat.le_of_ble_eq_true rfl, Nat.le_of_ble_eq_true rfl⟩ rfl ?_
                  refine V_topi (tru_nI a b r d) ?_
                  refine V_is5 42 d_Pv_findTrustByTrust_40 (by decide) rfl ?_
                  refine V_al0 43 d_Pv_findTrustByTrust_42 rfl ?_
                  refine V_il5 45 d_Pv_findTrustByTrust_43 rfl ?_
                  refine V_cV1 48 (c_Pv_isKnown l G _ _ hL (truN a b r d) (truN_lt hla hlb hlr hld)) ok_Pv_isKnown ml_Pv_131 im_Pv_isKnown se_Pv_isKnown (lC10 hL) kc_Pv (gRm_ok (by decide) (by decide)) rfl rfl (Nat.le_of_ble_eq_true rfl) d_Pv_findTrustByTrust_45 ⟨Nat.le_of_ble_eq_true rfl, Nat.le_of_ble_eq_true rfl⟩ rfl ?_
                  refine V_bz 65 51 d_Pv_findTrustByTrust_48 (by decide) rfl (fun h48 => ?_) (fun h48 => ?_)
                  · refine V_ii4 68 (v := 1) d_Pv_findTrustByTrust_65 (by decide) (by decide) rfl ?_
                    refine V_goto 26 d_Pv_findTrustByTrust_68 (by decide) ?_
                    rw [nI_1]
                    exact ihd (d + 1) _ ⟨by omega, by omega⟩ (itN_s (F := fun z9 => itN (fttB) db (b + 1) (itN (fttA b) da (a + 1) (itN (fttR b a) dr (r + 1) (z9)))) hTd (if_neg h48)) _
                  · refine V_al0 52 d_Pv_findTrustByTrust_51 rfl ?_
                    refine V_iconst 53 (v := 4) (by decide) d_Pv_findTrustByTrust_52 rfl ?_
                    refine V_il5 55 d_Pv_findTrustByTrust_53 rfl ?_
                    refine V_il2 56 d_Pv_findTrustByTrust_55 rfl ?_
                    refine V_il1 57 d_Pv_findTrustByTrust_56 rfl ?_
                    refine V_il3 58 d_Pv_findTrustByTrust_57 rfl ?_
                    refine V_il4 60 d_Pv_findTrustByTrust_58 rfl ?_
                    refine V_iconst 61 (v := 1) (by decide) d_Pv_findTrustByTrust_60 rfl ?_
                    refine V_isub 62 d_Pv_findTrustByTrust_61 rfl ?_
                    refine V_topi (nI_dm h1d) ?_
                    refine V_cV0 65 (c_Pv_handOnTrust l G _ _ hL _ _ a b r (d - 1) hla hlb hlr (by omega)) ok_Pv_handOnTrust ml_Pv_139 im_Pv_handOnTrust se_Pv_handOnTrust (lC10 hL) kc_Pv (gRm_ok (by decide) (by decide)) rfl rfl (Nat.le_of_ble_eq_true rfl) d_Pv_findTrustByTrust_62 ⟨Nat.le_of_ble_eq_true rfl, Nat.le_of_ble_eq_true rfl⟩ rfl ?_
                    refine V_ii4 68 (v := 1) d_Pv_findTrustByTrust_65 (by decide) (by decide) rfl ?_
                    refine V_goto 26 d_Pv_findTrustByTrust_68 (by decide) ?_
                    rw [nI_1]
                    exact ihd (d + 1) _ ⟨by omega, by omega⟩ (itN_s (F := fun z9 => itN (fttB) db (b + 1) (itN (fttA b) da (a + 1) (itN (fttR b a) dr (r + 1) (z9)))) hTd (if_pos h48)) _
              refine V_il3 19 d_Pv_findTrustByTrust_18 rfl ?_
              refine V_iconst 20 (v := 4) (by decide) d_Pv_findTrustByTrust_19 rfl ?_
              refine V_icmp_ge 77 23 d_Pv_findTrustByTrust_20 (by decide) rfl (fun h9 => absurd h9 (nI_ge (b := 4) hlr (by decide))) (fun _ => ?_)
              refine V_iconst 24 (v := 1) (by decide) d_Pv_findTrustByTrust_23 rfl ?_
              refine V_is4 26 d_Pv_findTrustByTrust_24 (by decide) rfl ?_
              exact lpd 3 1 _ ⟨by decide, by decide⟩ hTr _
          refine V_il2 11 d_Pv_findTrustByTrust_10 rfl ?_
          refine V_bipush 13 (v := 6) (by decide) d_Pv_findTrustByTrust_11 rfl ?_
          refine V_icmp_ge 83 16 d_Pv_findTrustByTrust_13 (by decide) rfl (fun h9 => absurd h9 (nI_ge (b := 6) hla (by decide))) (fun _ => ?_)
          refine V_iconst 17 (v := 0) (by decide) d_Pv_findTrustByTrust_16 rfl ?_
          refine V_is3 18 d_Pv_findTrustByTrust_17 (by decide) rfl ?_
          exact lpr 4 0 _ (by decide) hTa _ _
      refine V_il1 3 d_Pv_findTrustByTrust_2 rfl ?_
      refine V_bipush 5 (v := 6) (by decide) d_Pv_findTrustByTrust_3 rfl ?_
      refine V_icmp_ge 89 8 d_Pv_findTrustByTrust_5 (by decide) rfl (fun h9 => absurd h9 (nI_ge (b := 6) hlb (by decide))) (fun _ => ?_)
      refine V_iconst 9 (v := 0) (by decide) d_Pv_findTrustByTrust_8 rfl ?_
      refine V_is2 10 d_Pv_findTrustByTrust_9 (by decide) rfl ?_
      exact lpa 6 0 _ (by decide) hTb _ _ _
  refine gMet_of (lv := [some (.ref 10), none, none, none, none, none]) (by decide) rfl (Nat.le_of_ble_eq_true rfl) rfl ?_
  refine V_iconst 1 (v := 0) (by decide) d_Pv_findTrustByTrust_0 rfl ?_
  refine V_is1 2 d_Pv_findTrustByTrust_1 (by decide) rfl ?_
  exact lpb 6 0 M (by decide) rfl _ _ _ _
def fvvC (b c : Nat) (M : gMe) : gMe := if pKn M (spkN c b) then hov c b M else M
def fvvB (b : Nat) (M : gMe) : gMe := itN (fvvC b) 6 0 M
def pFvv (M : gMe) : gMe := itN fvvB 6 0 M
set_option maxRecDepth 100000 in
set_option maxHeartbeats 4000000 in
theorem c_Pv_findVoiceByVoice (l : Launch) (G : gG) (L : gLy) (M : gMe) (hL : gLC L) : gMet l G y_Pv_findVoiceByVoice b_Pv_findVoiceByVoice 3 none (rmL 3 0 0) [.ref 10] L M gAll (gPo none L (pFvv M)) 0 0 := by
  have lpb : ∀ (db b : Nat) (M1 : gMe), b + db = 6 → itN (fvvB) db b M1 = pFvv M → ∀ zb0 : Option Value, V l G y_Pv_findVoiceByVoice b_Pv_findVoiceByVoice 3 none (rmL 3 0 0) 0 0 gAll (gPo none L (pFvv M)) L (M1) 0 0 [some (.ref 10), some (.int (nI b)), zb0] 2 [] := by
    intro db
    induction db with
    | zero =>
      intro b M1 hxb hTb zb0
      obtain rfl : b = 6 := by omega
      refine V_il1 3 d_Pv_findVoiceByVoice_2 rfl ?_
      refine V_bipush 5 (v := 6) (by decide) d_Pv_findVoiceByVoice_3 rfl ?_
      refine V_icmp_ge 46 8 d_Pv_findVoiceByVoice_5 (by decide) rfl (fun _ => ?_) (fun h9 => absurd (show (6 : Int32) ≤ nI 6 by decide) h9)
      exact V_vret rfl d_Pv_findVoiceByVoice_46 ⟨rfl, rfl, hTb⟩
    | succ db ihb =>
      intro b M1 hxb hTb zb0
      have hlb : b < 6 := by omega
      have lpc : ∀ (dc c : Nat) (M2 : gMe), c + dc = 6 → itN (fvvB) db (b + 1) (itN (fvvC b) dc c M2) = pFvv M → V l G y_Pv_findVoiceByVoice b_Pv_findVoiceByVoice 3 none (rmL 3 0 0) 0 0 gAll (gPo none L (pFvv M)) L (M2) 0 0 [some (.ref 10), some (.int (nI b)), some (.int (nI c))] 10 [] := by
        intro dc
        induction dc with
        | zero =>
          intro c M2 hxc hTc 
          obtain rfl : c = 6 := by omega
          refine V_il2 11 d_Pv_findVoiceByVoice_10 rfl ?_
          refine V_bipush 13 (v := 6) (by decide) d_Pv_findVoiceByVoice_11 rfl ?_
          refine V_icmp_ge 40 16 d_Pv_findVoiceByVoice_13 (by decide) rfl (fun _ => ?_) (fun h9 => absurd (show (6 : Int32) ≤ nI 6 by decide) h9)
          refine V_ii1 43 (v := 1) d_Pv_findVoiceByVoice_40 (by decide) (by decide) rfl ?_
          refine V_goto 2 d_Pv_findVoiceByVoice_43 (by decide) ?_
          rw [nI_1]
          exact ihb (b + 1) _ (by omega) hTc _
        | succ dc ihc =>
          intro c M2 hxc hTc 
          have hlc : c < 6 := by omega
          refine V_il2 11 d_Pv_findVoiceByVoice_10 rfl ?_
          refine V_bipush 13 (v := 6) (by decide) d_Pv_findVoiceByVoice_11 rfl ?_
          refine V_icmp_ge 40 16 d_Pv_findVoiceByVoice_13 (by decide) rfl (fun h9 => absurd h9 (nI_ge (b := 6) hlc (by decide))) (fun _ => ?_)
          refine V_al0 17 d_Pv_findVoiceByVoice_16 rfl ?_
          refine V_il2 18 d_Pv_findVoiceByVoice_17 rfl ?_
          refine V_il1 19 d_Pv_findVoiceByVoice_18 rfl ?_
          refine V_cS1 22 (c_Pv_speaks l G _ _ _ _) ok_Pv_speaks ml_Pv_123 st_Pv_speaks (gRm_ok (by decide) (by decide)) rfl rfl (Nat.le_of_ble_eq_true rfl) d_Pv_findVoiceByVoice_19 ⟨Nat.le_of_ble_eq_true rfl, Nat.le_of_ble_eq_true rfl⟩ rfl ?_
          refine V_topi (spk_nI c b) ?_
          refine V_cV1 25 (c_Pv_isKnown l G _ _ hL (spkN c b) (spkN_lt hlc hlb)) ok_Pv_isKnown ml_Pv_131 im_Pv_isKnown se_Pv_isKnown (lC10 hL) kc_Pv (gRm_ok (by decide) (by decide)) rfl rfl (Nat.le_of_ble_eq_true rfl) d_Pv_findVoiceByVoice_22 ⟨Nat.le_of_ble_eq_true rfl, Nat.le_of_ble_eq_true rfl⟩ rfl ?_
          refine V_bz 34 28 d_Pv_findVoiceByVoice_25 (by decide) rfl (fun h25 => ?_) (fun h25 => ?_)
          · refine V_ii2 37 (v := 1) d_Pv_findVoiceByVoice_34 (by decide) (by decide) rfl ?_
            refine V_goto 10 d_Pv_findVoiceByVoice_37 (by decide) ?_
            rw [nI_1]
            exact ihc (c + 1) _ (by omega) (itN_s (F := fun z9 => itN (fvvB) db (b + 1) (z9)) hTc (if_neg h25))
          · refine V_al0 29 d_Pv_findVoiceByVoice_28 rfl ?_
            refine V_il2 30 d_Pv_findVoiceByVoice_29 rfl ?_
            refine V_il1 31 d_Pv_findVoiceByVoice_30 rfl ?_
            refine V_cV0 34 (c_Pv_handOnVoice l G _ _ hL c b hlc hlb) ok_Pv_handOnVoice ml_Pv_148 im_Pv_handOnVoice se_Pv_handOnVoice (lC10 hL) kc_Pv (gRm_ok (by decide) (by decide)) rfl rfl (Nat.le_of_ble_eq_true rfl) d_Pv_findVoiceByVoice_31 ⟨Nat.le_of_ble_eq_true rfl, Nat.le_of_ble_eq_true rfl⟩ rfl ?_
            refine V_ii2 37 (v := 1) d_Pv_findVoiceByVoice_34 (by decide) (by decide) rfl ?_
            refine V_goto 10 d_Pv_findVoiceByVoice_37 (by decide) ?_
            rw [nI_1]
            exact ihc (c + 1) _ (by omega) (itN_s (F := fun z9 => itN (fvvB) db (b + 1) (z9)) hTc (if_pos h25))
      refine V_il1 3 d_Pv_findVoiceByVoice_2 rfl ?_
      refine V_bipush 5 (v := 6) (by decide) d_Pv_findVoiceByVoice_3 rfl ?_
      refine V_icmp_ge 46 8 d_Pv_findVoiceByVoice_5 (by decide) rfl (fun h9 => absurd h9 (nI_ge (b := 6) hlb (by decide))) (fun _ => ?_)
      refine V_iconst 9 (v := 0) (by decide) d_Pv_findVoiceByVoice_8 rfl ?_
      refine V_is2 10 d_Pv_findVoiceByVoice_9 (by decide) rfl ?_
      exact lpc 6 0 _ (by decide) hTb
  refine gMet_of (lv := [some (.ref 10), none, none]) (by decide) rfl (Nat.le_of_ble_eq_true rfl) rfl ?_
  refine V_iconst 1 (v := 0) (by decide) d_Pv_findVoiceByVoice_0 rfl ?_
  refine V_is1 2 d_Pv_findVoiceByVoice_1 (by decide) rfl ?_
  exact lpb 6 0 M (by decide) rfl _

/-! loops of the prover; JDK's fill -/
/-- n rounds of f, from k on -/
def itN (f : Nat → gMe → gMe) : Nat → Nat → gMe → gMe
  | 0, _, M => M
  | d + 1, k, M => itN f d (k + 1) (f k M)
theorem itN_s {f : Nat → gMe → gMe} {d k : Nat} {M M1 : gMe} {F : gMe → gMe} {T : gMe} (hT : F (itN f (d + 1) k M) = T) (e : f k M = M1) : F (itN f d (k + 1) M1) = T := by
  subst e; exact hT
def mayN (a x r : Nat) : Nat := 36 + (6 * a + x) * 4 + r
def spkN (b a : Nat) : Nat := 6 * b + a
def truN (a b r d : Nat) : Nat := 180 + ((6 * a + b) * 4 + r) * 4 + d
theorem mayN_lt {a x r : Nat} (ha : a < 6) (hx : x < 6) (hr : r < 4) : mayN a x r < 756 := by unfold mayN; omega
theorem spkN_lt {b a : Nat} (hb : b < 6) (ha : a < 6) : spkN b a < 756 := by unfold spkN; omega
theorem truN_lt {a b r d : Nat} (ha : a < 6) (hb : b < 6) (hr : r < 4) (hd : d < 4) : truN a b r d < 756 := by unfold truN; omega
theorem may_nI (a x r : Nat) : 36 + (6 * nI a + nI x) * 4 + nI r = nI (mayN a x r) := by
  show nI 36 + (nI 6 * nI a + nI x) * nI 4 + nI r = _
  simp only [nI_add, pk_mul]
  rfl
theorem spk_nI (b a : Nat) : 6 * nI b + nI a = nI (spkN b a) := by
  show nI 6 * nI b + nI a = _
  simp only [nI_add, pk_mul]
  rfl
theorem tru_nI (a b r d : Nat) : 180 + ((6 * nI a + nI b) * 4 + nI r) * 4 + nI d = nI (truN a b r d) := by
  show nI 180 + ((nI 6 * nI a + nI b) * nI 4 + nI r) * nI 4 + nI d = _
  simp only [nI_add, pk_mul]
  rfl
theorem min_nI {a b : Nat} (ha : a < 100) (hb : b < 100) : (if nI b < nI a then nI b else nI a) = nI (min a b) := by
  by_cases h : b < a
  · rw [if_pos (nI_lt h (by omega)), Nat.min_eq_right (by omega)]
  · rw [if_neg (nI_nlt (by omega) (by omega)), Nat.min_eq_left (by omega)]
/-- the first n places of the row at a hold v -/
def mfill (M : gMe) (a : Nat) (v : Int32) (n : Nat) : gMe := va_up M a (fun j => if j < n then v else M a j)
theorem mfill_0 (M : gMe) (a : Nat) (v : Int32) : mfill M a v 0 = M := by
  unfold mfill
  rw [show (fun j => if j < 0 then v else M a j) = M a from funext (fun j => if_neg (Nat.not_lt_zero j)), va_up_id]
theorem mfill_s (M : gMe) (a : Nat) (v : Int32) (n : Nat) : gst (mfill M a v n) a n v = mfill M a v (n + 1) := by
  funext b j
  rw [gst_at]
  unfold mfill va_up
  by_cases hb : b = a
  · simp only [hb, if_true]
    by_cases hj : j = n
    · rw [if_pos hj, if_pos (by omega)]
    · rw [if_neg hj]
      by_cases h : j < n
      · rw [if_pos h, if_pos (by omega)]
      · rw [if_neg h, if_neg (by omega)]
  · simp only [hb, if_false]
set_option maxRecDepth 100000 in
set_option maxHeartbeats 4000000 in
theorem c_Ar_fill (l : Launch) (G : gG) (L : gLy) (M : gMe) (a n : Nat) (hA : L a = some (.inl (0, n, none))) (hn : n < 1000) (v : Int32) : gMet l G y_Ar_fill b_Ar_fill 4 none (rmL 1 0 0) [.ref a, .int v] L M gAll (gPo none L (mfill M a v n)) 0 0 := by
  have lp : ∀ (d k : Nat), k + d = n → V l G y_Ar_fill b_Ar_fill 4 none (rmL 1 0 0) 0 0 gAll (gPo none L (mfill M a v n)) L (mfill M a v k) 0 0 [some (.ref a), some (.int v), some (.int (nI k)), some (.int (nI n))] 5 [] := by
    intro d
    induction d with
    | zero =>
      intro k hk
      obtain rfl : k = n := by omega
      refine V_il2 6 d_Ar_fill_5 rfl ?_
      refine V_il3 7 d_Ar_fill_6 rfl ?_
      refine V_icmp_ge 20 10 d_Ar_fill_7 (by decide) rfl (fun _ => ?_) (fun h9 => absurd (nI_le (Nat.le_refl k) (by omega)) h9)
      exact V_vret rfl d_Ar_fill_20 ⟨rfl, rfl, rfl⟩
    | succ d ih =>
      intro k hk
      have hl : k < n := by omega
      refine V_il2 6 d_Ar_fill_5 rfl ?_
      refine V_il3 7 d_Ar_fill_6 rfl ?_
      refine V_icmp_ge 20 10 d_Ar_fill_7 (by decide) rfl (fun h9 => absurd h9 (nI_ge hl (by omega))) (fun _ => ?_)
      refine V_al0 11 d_Ar_fill_10 rfl ?_
      refine V_il2 12 d_Ar_fill_11 rfl ?_
      refine V_il1 13 d_Ar_fill_12 rfl ?_
      refine V_iasn 14 (k) hA rfl hl (by omega) d_Ar_fill_13 rfl ?_
      refine V_ii2 17 (v := 1) d_Ar_fill_14 (by decide) (by decide) rfl ?_
      refine V_goto 5 d_Ar_fill_17 (by decide) ?_
      rw [nI_1, mfill_s]
      exact ih (k + 1) (by omega)
  refine gMet_of (lv := [some (.ref a), some (.int v), none, none]) (by decide) rfl (Nat.le_of_ble_eq_true rfl) rfl ?_
  refine V_iconst 1 (v := 0) (by decide) d_Ar_fill_0 rfl ?_
  refine V_is2 2 d_Ar_fill_1 (by decide) rfl ?_
  refine V_al0 3 d_Ar_fill_2 rfl ?_
  refine V_alen 4 (v := nI n) (.int) hA rfl rfl d_Ar_fill_3 rfl ?_
  refine V_is3 5 d_Ar_fill_4 (by decide) rfl ?_
  refine V_m (mfill_0 M a v).symm ?_
  exact lp n 0 (by omega)
def homX (u k : Int32) (a b r x : Nat) (M : gMe) : gMe := if pKn M (mayN b x r) then cReach M (mayN a x r) u k (nI (mayN b x r)) else M
def hom (u k : Int32) (a b r : Nat) (M : gMe) : gMe := itN (homX u k a b r) 6 0 M
set_option maxRecDepth 100000 in
set_option maxHeartbeats 4000000 in
theorem c_Pv_handOnMay (l : Launch) (G : gG) (L : gLy) (M : gMe) (hL : gLC L) (u k : Int32) (a b r : Nat) (ha : a < 6) (hb : b < 6) (hr : r < 4) : gMet l G y_Pv_handOnMay b_Pv_handOnMay 8 none (rmL 2 0 0) [.ref 10, .int u, .int k, .int (nI a), .int (nI b), .int (nI r)] L M gAll (gPo none L (hom u k a b r M)) 0 0 := by
  have lpx : ∀ (dx x : Nat) (M' : gMe), x + dx = 6 → itN (homX u k a b r) dx x M' = hom u k a b r M → ∀ zx0 : Option Value, V l G y_Pv_handOnMay b_Pv_handOnMay 8 none (rmL 2 0 0) 0 0 gAll (gPo none L (hom u k a b r M)) L (M') 0 0 [some (.ref 10), some (.int u), some (.int k), some (.int (nI a)), some (.int (nI b)), some (.int (nI r)), some (.int (nI x)), zx0] 3 [] := by
    intro dx
    induction dx with
    | zero =>
      intro x M' hxx hTx zx0
      obtain rfl : x = 6 := by omega
      refine V_il6 5 d_Pv_handOnMay_3 rfl ?_
      refine V_bipush 7 (v := 6) (by decide) d_Pv_handOnMay_5 rfl ?_
      refine V_icmp_ge 52 10 d_Pv_handOnMay_7 (by decide) rfl (fun _ => ?_) (fun h9 => absurd (show (6 : Int32) ≤ nI 6 by decide) h9)
      exact V_vret rfl d_Pv_handOnMay_52 ⟨rfl, rfl, hTx⟩
    | succ dx ihx =>
      intro x M' hxx hTx zx0
      have hlx : x < 6 := by omega
      refine V_il6 5 d_Pv_handOnMay_3 rfl ?_
      refine V_bipush 7 (v := 6) (by decide) d_Pv_handOnMay_5 rfl ?_
      refine V_icmp_ge 52 10 d_Pv_handOnMay_7 (by decide) rfl (fun h9 => absurd h9 (nI_ge (b := 6) hlx (by decide))) (fun _ => ?_)
      refine V_il4 12 d_Pv_handOnMay_10 rfl ?_
      refine V_il6 14 d_Pv_handOnMay_12 rfl ?_
      refine V_il5 16 d_Pv_handOnMay_14 rfl ?_
      refine V_cS1 19 (c_Pv_may l G _ _ _ _ _) ok_Pv_may ml_Pv_38 st_Pv_may (gRm_ok (by decide) (by decide)) rfl rfl (Nat.le_of_ble_eq_true rfl) d_Pv_handOnMay_16 ⟨Nat.le_of_ble_eq_true rfl, Nat.le_of_ble_eq_true rfl⟩ rfl ?_
      refine V_topi (may_nI b x r) ?_
      refine V_is7 21 d_Pv_handOnMay_19 (by decide) rfl ?_
      refine V_al0 22 d_Pv_handOnMay_21 rfl ?_
      refine V_il7 24 d_Pv_handOnMay_22 rfl ?_
      refine V_cV1 27 (c_Pv_isKnown l G _ _ hL (mayN b x r) (mayN_lt hb hlx hr)) ok_Pv_isKnown ml_Pv_131 im_Pv_isKnown se_Pv_isKnown (lC10 hL) kc_Pv (gRm_ok (by decide) (by decide)) rfl rfl (Nat.le_of_ble_eq_true rfl) d_Pv_handOnMay_24 ⟨Nat.le_of_ble_eq_true rfl, Nat.le_of_ble_eq_true rfl⟩ rfl ?_
      refine V_bz 46 30 d_Pv_handOnMay_27 (by decide) rfl (fun h27 => ?_) (fun h27 => ?_)
      · refine V_ii6 49 (v := 1) d_Pv_handOnMay_46 (by decide) (by decide) rfl ?_
        refine V_goto 3 d_Pv_handOnMay_49 (by decide) ?_
        rw [nI_1]
        exact ihx (x + 1) _ (by omega) (itN_s (F := fun z9 => z9) hTx (if_neg h27)) _
      · refine V_al0 31 d_Pv_handOnMay_30 rfl ?_
        refine V_il3 32 d_Pv_handOnMay_31 rfl ?_
        refine V_il6 34 d_Pv_handOnMay_32 rfl ?_
        refine V_il5 36 d_Pv_handOnMay_34 rfl ?_
        refine V_cS1 39 (c_Pv_may l G _ _ _ _ _) ok_Pv_may ml_Pv_38 st_Pv_may (gRm_ok (by decide) (by decide)) rfl rfl (Nat.le_of_ble_eq_true rfl) d_Pv_handOnMay_36 ⟨Nat.le_of_ble_eq_true rfl, Nat.le_of_ble_eq_true rfl⟩ rfl ?_
        refine V_topi (may_nI a x r) ?_
        refine V_il1 40 d_Pv_handOnMay_39 rfl ?_
        refine V_il2 41 d_Pv_handOnMay_40 rfl ?_
        refine V_il7 43 d_Pv_handOnMay_41 rfl ?_
        refine V_cV0 46 (c_Pv_reach l G _ _ hL (mayN a x r) (mayN_lt ha hlx hr) _ _ _) ok_Pv_reach ml_Pv_108 im_Pv_reach se_Pv_reach (lC10 hL) kc_Pv (gRm_ok (by decide) (by decide)) rfl rfl (Nat.le_of_ble_eq_true rfl) d_Pv_handOnMay_43 ⟨Nat.le_of_ble_eq_true rfl, Nat.le_of_ble_eq_true rfl⟩ rfl ?_
        refine V_ii6 49 (v := 1) d_Pv_handOnMay_46 (by decide) (by decide) rfl ?_
        refine V_goto 3 d_Pv_handOnMay_49 (by decide) ?_
        rw [nI_1]
        exact ihx (x + 1) _ (by omega) (itN_s (F := fun z9 => z9) hTx (if_pos h27)) _
  refine gMet_of (lv := [some (.ref 10), some (.int u), some (.int k), some (.int (nI a)), some (.int (nI b)), some (.int (nI r)), none, none]) (by decide) rfl (Nat.le_of_ble_eq_true rfl) rfl ?_
  refine V_iconst 1 (v := 0) (by decide) d_Pv_handOnMay_0 rfl ?_
  refine V_is6 3 d_Pv_handOnMay_1 (by decide) rfl ?_
  exact lpx 6 0 M (by decide) rfl _
def impX (n : Int32) (a r s x : Nat) (M : gMe) : gMe := if pKn M (mayN a x r) then cReach M (mayN a x s) 7 n (nI (mayN a x r)) else M
def imp (n : Int32) (a r s : Nat) (M : gMe) : gMe := itN (impX n a r s) 6 0 M
set_option maxRecDepth 100000 in
set_option maxHeartbeats 4000000 in
theorem c_Pv_applyImply (l : Launch) (G : gG) (L : gLy) (M : gMe) (hL : gLC L) (n : Int32) (a r s : Nat) (ha : a < 6) (hr : r < 4) (hs : s < 4) : gMet l G y_Pv_applyImply b_Pv_applyImply 7 none (rmL 2 0 0) [.ref 10, .int n, .int (nI a), .int (nI r), .int (nI s)] L M gAll (gPo none L (imp n a r s M)) 0 0 := by
  have lpx : ∀ (dx x : Nat) (M' : gMe), x + dx = 6 → itN (impX n a r s) dx x M' = imp n a r s M → ∀ zx0 : Option Value, V l G y_Pv_applyImply b_Pv_applyImply 7 none (rmL 2 0 0) 0 0 gAll (gPo none L (imp n a r s M)) L (M') 0 0 [some (.ref 10), some (.int n), some (.int (nI a)), some (.int (nI r)), some (.int (nI s)), some (.int (nI x)), zx0] 3 [] := by
    intro dx
    induction dx with
    | zero =>
      intro x M' hxx hTx zx0
      obtain rfl : x = 6 := by omega
      refine V_il5 5 d_Pv_applyImply_3 rfl ?_
      refine V_bipush 7 (v := 6) (by decide) d_Pv_applyImply_5 rfl ?_
      refine V_icmp_ge 51 10 d_Pv_applyImply_7 (by decide) rfl (fun _ => ?_) (fun h9 => absurd (show (6 : Int32) ≤ nI 6 by decide) h9)
      exact V_vret rfl d_Pv_applyImply_51 ⟨rfl, rfl, hTx⟩
    | succ dx ihx =>
      intro x M' hxx hTx zx0
      have hlx : x < 6 := by omega
      refine V_il5 5 d_Pv_applyImply_3 rfl ?_
      refine V_bipush 7 (v := 6) (by decide) d_Pv_applyImply_5 rfl ?_
      refine V_icmp_ge 51 10 d_Pv_applyImply_7 (by decide) rfl (fun h9 => absurd h9 (nI_ge (b := 6) hlx (by decide))) (fun _ => ?_)
      refine V_il2 11 d_Pv_applyImply_10 rfl ?_
      refine V_il5 13 d_Pv_applyImply_11 rfl ?_
      refine V_il3 14 d_Pv_applyImply_13 rfl ?_
      refine V_cS1 17 (c_Pv_may l G _ _ _ _ _) ok_Pv_may ml_Pv_38 st_Pv_may (gRm_ok (by decide) (by decide)) rfl rfl (Nat.le_of_ble_eq_true rfl) d_Pv_applyImply_14 ⟨Nat.le_of_ble_eq_true rfl, Nat.le_of_ble_eq_true rfl⟩ rfl ?_
      refine V_topi (may_nI a x r) ?_
      refine V_is6 19 d_Pv_applyImply_17 (by decide) rfl ?_
      refine V_al0 20 d_Pv_applyImply_19 rfl ?_
      refine V_il6 22 d_Pv_applyImply_20 rfl ?_
      refine V_cV1 25 (c_Pv_isKnown l G _ _ hL (mayN a x r) (mayN_lt ha hlx hr)) ok_Pv_isKnown ml_Pv_131 im_Pv_isKnown se_Pv_isKnown (lC10 hL) kc_Pv (gRm_ok (by decide) (by decide)) rfl rfl (Nat.le_of_ble_eq_true rfl) d_Pv_applyImply_22 ⟨Nat.le_of_ble_eq_true rfl, Nat.le_of_ble_eq_true rfl⟩ rfl ?_
      refine V_bz 45 28 d_Pv_applyImply_25 (by decide) rfl (fun h25 => ?_) (fun h25 => ?_)
      · refine V_ii5 48 (v := 1) d_Pv_applyImply_45 (by decide) (by decide) rfl ?_
        refine V_goto 3 d_Pv_applyImply_48 (by decide) ?_
        rw [nI_1]
        exact ihx (x + 1) _ (by omega) (itN_s (F := fun z9 => z9) hTx (if_neg h25)) _
      · refine V_al0 29 d_Pv_applyImply_28 rfl ?_
        refine V_il2 30 d_Pv_applyImply_29 rfl ?_
        refine V_il5 32 d_Pv_applyImply_30 rfl ?_
        refine V_il4 34 d_Pv_applyImply_32 rfl ?_
        refine V_cS1 37 (c_Pv_may l G _ _ _ _ _) ok_Pv_may ml_Pv_38 st_Pv_may (gRm_ok (by decide) (by decide)) rfl rfl (Nat.le_of_ble_eq_true rfl) d_Pv_applyImply_34 ⟨Nat.le_of_ble_eq_true rfl, Nat.le_of_ble_eq_true rfl⟩ rfl ?_
        refine V_topi (may_nI a x s) ?_
        refine V_bipush 39 (v := 7) (by decide) d_Pv_applyImply_37 rfl ?_
        refine V_il1 40 d_Pv_applyImply_39 rfl ?_
        refine V_il6 42 d_Pv_applyImply_40 rfl ?_
        refine V_cV0 45 (c_Pv_reach l G _ _ hL (mayN a x s) (mayN_lt ha hlx hs) _ _ _) ok_Pv_reach ml_Pv_108 im_Pv_reach se_Pv_reach (lC10 hL) kc_Pv (gRm_ok (by decide) (by decide)) rfl rfl (Nat.le_of_ble_eq_true rfl) d_Pv_applyImply_42 ⟨Nat.le_of_ble_eq_true rfl, Nat.le_of_ble_eq_true rfl⟩ rfl ?_
        refine V_ii5 48 (v := 1) d_Pv_applyImply_45 (by decide) (by decide) rfl ?_
        refine V_goto 3 d_Pv_applyImply_48 (by decide) ?_
        rw [nI_1]
        exact ihx (x + 1) _ (by omega) (itN_s (F := fun z9 => z9) hTx (if_pos h25)) _
  refine gMet_of (lv := [some (.ref 10), some (.int n), some (.int (nI a)), some (.int (nI r)), some (.int (nI s)), none, none]) (by decide) rfl (Nat.le_of_ble_eq_true rfl) rfl ?_
  refine V_iconst 1 (v := 0) (by decide) d_Pv_applyImply_0 rfl ?_
  refine V_is5 3 d_Pv_applyImply_1 (by decide) rfl ?_
  exact lpx 6 0 M (by decide) rfl _
def hovX (c b a : Nat) (M : gMe) : gMe := if pKn M (spkN b a) then cReach M (spkN c a) 6 (nI (spkN c b)) (nI (spkN b a)) else M
def hov (c b : Nat) (M : gMe) : gMe := itN (hovX c b) 6 0 M
set_option maxRecDepth 100000 in
set_option maxHeartbeats 4000000 in
theorem c_Pv_handOnVoice (l : Launch) (G : gG) (L : gLy) (M : gMe) (hL : gLC L) (c b : Nat) (hc : c < 6) (hb : b < 6) : gMet l G y_Pv_handOnVoice b_Pv_handOnVoice 5 none (rmL 2 0 0) [.ref 10, .int (nI c), .int (nI b)] L M gAll (gPo none L (hov c b M)) 0 0 := by
  have lpa : ∀ (da a : Nat) (M' : gMe), a + da = 6 → itN (hovX c b) da a M' = hov c b M → ∀ za0 : Option Value, V l G y_Pv_handOnVoice b_Pv_handOnVoice 5 none (rmL 2 0 0) 0 0 gAll (gPo none L (hov c b M)) L (M') 0 0 [some (.ref 10), some (.int (nI c)), some (.int (nI b)), some (.int (nI a)), za0] 2 [] := by
    intro da
    induction da with
    | zero =>
      intro a M' hxa hTa za0
      obtain rfl : a = 6 := by omega
      refine V_il3 3 d_Pv_handOnVoice_2 rfl ?_
      refine V_bipush 5 (v := 6) (by decide) d_Pv_handOnVoice_3 rfl ?_
      refine V_icmp_ge 48 8 d_Pv_handOnVoice_5 (by decide) rfl (fun _ => ?_) (fun h9 => absurd (show (6 : Int32) ≤ nI 6 by decide) h9)
      exact V_vret rfl d_Pv_handOnVoice_48 ⟨rfl, rfl, hTa⟩
    | succ da iha =>
      intro a M' hxa hTa za0
      have hla : a < 6 := by omega
      refine V_il3 3 d_Pv_handOnVoice_2 rfl ?_
      refine V_bipush 5 (v := 6) (by decide) d_Pv_handOnVoice_3 rfl ?_
      refine V_icmp_ge 48 8 d_Pv_handOnVoice_5 (by decide) rfl (fun h9 => absurd h9 (nI_ge (b := 6) hla (by decide))) (fun _ => ?_)
      refine V_il2 9 d_Pv_handOnVoice_8 rfl ?_
      refine V_il3 10 d_Pv_handOnVoice_9 rfl ?_
      refine V_cS1 13 (c_Pv_speaks l G _ _ _ _) ok_Pv_speaks ml_Pv_123 st_Pv_speaks (gRm_ok (by decide) (by decide)) rfl rfl (Nat.le_of_ble_eq_true rfl) d_Pv_handOnVoice_10 ⟨Nat.le_of_ble_eq_true rfl, Nat.le_of_ble_eq_true rfl⟩ rfl ?_
      refine V_topi (spk_nI b a) ?_
      refine V_is4 15 d_Pv_handOnVoice_13 (by decide) rfl ?_
      refine V_al0 16 d_Pv_handOnVoice_15 rfl ?_
      refine V_il4 18 d_Pv_handOnVoice_16 rfl ?_
      refine V_cV1 21 (c_Pv_isKnown l G _ _ hL (spkN b a) (spkN_lt hb hla)) ok_Pv_isKnown ml_Pv_131 im_Pv_isKnown se_Pv_isKnown (lC10 hL) kc_Pv (gRm_ok (by decide) (by decide)) rfl rfl (Nat.le_of_ble_eq_true rfl) d_Pv_handOnVoice_18 ⟨Nat.le_of_ble_eq_true rfl, Nat.le_of_ble_eq_true rfl⟩ rfl ?_
      refine V_bz 42 24 d_Pv_handOnVoice_21 (by decide) rfl (fun h21 => ?_) (fun h21 => ?_)
      · refine V_ii3 45 (v := 1) d_Pv_handOnVoice_42 (by decide) (by decide) rfl ?_
        refine V_goto 2 d_Pv_handOnVoice_45 (by decide) ?_
        rw [nI_1]
        exact iha (a + 1) _ (by omega) (itN_s (F := fun z9 => z9) hTa (if_neg h21)) _
      · refine V_al0 25 d_Pv_handOnVoice_24 rfl ?_
        refine V_il1 26 d_Pv_handOnVoice_25 rfl ?_
        refine V_il3 27 d_Pv_handOnVoice_26 rfl ?_
        refine V_cS1 30 (c_Pv_speaks l G _ _ _ _) ok_Pv_speaks ml_Pv_123 st_Pv_speaks (gRm_ok (by decide) (by decide)) rfl rfl (Nat.le_of_ble_eq_true rfl) d_Pv_handOnVoice_27 ⟨Nat.le_of_ble_eq_true rfl, Nat.le_of_ble_eq_true rfl⟩ rfl ?_
        refine V_topi (spk_nI c a) ?_
        refine V_bipush 32 (v := 6) (by decide) d_Pv_handOnVoice_30 rfl ?_
        refine V_il1 33 d_Pv_handOnVoice_32 rfl ?_
        refine V_il2 34 d_Pv_handOnVoice_33 rfl ?_
        refine V_cS1 37 (c_Pv_speaks l G _ _ _ _) ok_Pv_speaks ml_Pv_123 st_Pv_speaks (gRm_ok (by decide) (by decide)) rfl rfl (Nat.le_of_ble_eq_true rfl) d_Pv_handOnVoice_34 ⟨Nat.le_of_ble_eq_true rfl, Nat.le_of_ble_eq_true rfl⟩ rfl ?_
        refine V_topi (spk_nI c b) ?_
        refine V_il4 39 d_Pv_handOnVoice_37 rfl ?_
        refine V_cV0 42 (c_Pv_reach l G _ _ hL (spkN c a) (spkN_lt hc hla) _ _ _) ok_Pv_reach ml_Pv_108 im_Pv_reach se_Pv_reach (lC10 hL) kc_Pv (gRm_ok (by decide) (by decide)) rfl rfl (Nat.le_of_ble_eq_true rfl) d_Pv_handOnVoice_39 ⟨Nat.le_of_ble_eq_true rfl, Nat.le_of_ble_eq_true rfl⟩ rfl ?_
        refine V_ii3 45 (v := 1) d_Pv_handOnVoice_42 (by decide) (by decide) rfl ?_
        refine V_goto 2 d_Pv_handOnVoice_45 (by decide) ?_
        rw [nI_1]
        exact iha (a + 1) _ (by omega) (itN_s (F := fun z9 => z9) hTa (if_pos h21)) _
  refine gMet_of (lv := [some (.ref 10), some (.int (nI c)), some (.int (nI b)), none, none]) (by decide) rfl (Nat.le_of_ble_eq_true rfl) rfl ?_
  refine V_iconst 1 (v := 0) (by decide) d_Pv_handOnVoice_0 rfl ?_
  refine V_is3 2 d_Pv_handOnVoice_1 (by decide) rfl ?_
  exact lpa 6 0 M (by decide) rfl _
def hotX (u k : Int32) (a b r m c e : Nat) (M : gMe) : gMe := if pKn M (truN b c r e) then cReach M (truN a c r (min m e)) u k (nI (truN b c r e)) else M
def hotC (u k : Int32) (a b r m c : Nat) (M : gMe) : gMe := itN (hotX u k a b r m c) 4 0 M
def hot (u k : Int32) (a b r m : Nat) (M : gMe) : gMe := itN (hotC u k a b r m) 6 0 M
set_option maxRecDepth 100000 in
set_option maxHeartbeats 4000000 in
theorem c_Pv_handOnTrust (l : Launch) (G : gG) (L : gLy) (M : gMe) (hL : gLC L) (u k : Int32) (a b r m : Nat) (ha : a < 6) (hb : b < 6) (hr : r < 4) (hm : m < 4) : gMet l G y_Pv_handOnTrust b_Pv_handOnTrust 10 none (rmL 2 0 0) [.ref 10, .int u, .int k, .int (nI a), .int (nI b), .int (nI r), .int (nI m)] L M gAll (gPo none L (hot u k a b r m M)) 0 0 := by
  have lpc : ∀ (dc c : Nat) (M' : gMe), c + dc = 6 → itN (hotC u k a b r m) dc c M' = hot u k a b r m M → ∀ zc0 zc1 : Option Value, V l G y_Pv_handOnTrust b_Pv_handOnTrust 10 none (rmL 2 0 0) 0 0 gAll (gPo none L (hot u k a b r m M)) L (M') 0 0 [some (.ref 10), some (.int u), some (.int k), some (.int (nI a)), some (.int (nI b)), some (.int (nI r)), some (.int (nI m)), some (.int (nI c)), zc0, zc1] 3 [] := by
    intro dc
    induction dc with
    | zero =>
      intro c M' hxc hTc zc0 zc1
      obtain rfl : c = 6 := by omega
      refine V_il7 5 d_Pv_handOnTrust_3 rfl ?_
      refine V_bipush 7 (v := 6) (by decide) d_Pv_handOnTrust_5 rfl ?_
      refine V_icmp_ge 76 10 d_Pv_handOnTrust_7 (by decide) rfl (fun _ => ?_) (fun h9 => absurd (show (6 : Int32) ≤ nI 6 by decide) h9)
      exact V_vret rfl d_Pv_handOnTrust_76 ⟨rfl, rfl, hTc⟩
    | succ dc ihc =>
      intro c M' hxc hTc zc0 zc1
      have hlc : c < 6 := by omega
      have lpe : ∀ (de e : Nat) (M2 : gMe), e + de = 4 → itN (hotC u k a b r m) dc (c + 1) (itN (hotX u k a b r m c) de e M2) = hot u k a b r m M → ∀ ze0 : Option Value, V l G y_Pv_handOnTrust b_Pv_handOnTrust 10 none (rmL 2 0 0) 0 0 gAll (gPo none L (hot u k a b r m M)) L (M2) 0 0 [some (.ref 10), some (.int u), some (.int k), some (.int (nI a)), some (.int (nI b)), some (.int (nI r)), some (.int (nI m)), some (.int (nI c)), some (.int (nI e)), ze0] 13 [] := by
        intro de
        induction de with
        | zero =>
          intro e M2 hxe hTe ze0
          obtain rfl : e = 4 := by omega
          refine V_il8 15 d_Pv_handOnTrust_13 rfl ?_
          refine V_iconst 16 (v := 4) (by decide) d_Pv_handOnTrust_15 rfl ?_
          refine V_icmp_ge 70 19 d_Pv_handOnTrust_16 (by decide) rfl (fun _ => ?_) (fun h9 => absurd (show (4 : Int32) ≤ nI 4 by decide) h9)
          refine V_ii7 73 (v := 1) d_Pv_handOnTrust_70 (by decide) (by decide) rfl ?_
          refine V_goto 3 d_Pv_handOnTrust_73 (by decide) ?_
          rw [nI_1]
          exact ihc (c + 1) _ (by omega) hTe _ _
        | succ de ihe =>
          intro e M2 hxe hTe ze0
          have hle : e < 4 := by omega
          refine V_il8 15 d_Pv_handOnTrust_13 rfl ?_
          refine V_iconst 16 (v := 4) (by decide) d_Pv_handOnTrust_15 rfl ?_
          refine V_icmp_ge 70 19 d_Pv_handOnTrust_16 (by decide) rfl (fun h9 => absurd h9 (nI_ge (b := 4) hle (by decide))) (fun _ => ?_)
          refine V_il4 21 d_Pv_handOnTrust_19 rfl ?_
          refine V_il7 23 d_Pv_handOnTrust_21 rfl ?_
          refine V_il5 25 d_Pv_handOnTrust_23 rfl ?_
          refine V_il8 27 d_Pv_handOnTrust_25 rfl ?_
          refine V_cS1 30 (c_Pv_trusts l G _ _ _ _ _ _) ok_Pv_trusts ml_Pv_127 st_Pv_trusts (gRm_ok (by decide) (by decide)) rfl rfl (Nat.le_of_ble_eq_true rfl) d_Pv_handOnTrust_27 ⟨Nat.le_of_ble_eq_true rfl, Nat.le_of_ble_eq_true rfl⟩ rfl ?_
          refine V_topi (tru_nI b c r e) ?_
          refine V_is9 32 d_Pv_handOnTrust_30 (by decide) rfl ?_
          refine V_al0 33 d_Pv_handOnTrust_32 rfl ?_
          refine V_il9 35 d_Pv_handOnTrust_33 rfl ?_
          refine V_cV1 38 (c_Pv_isKnown l G _ _ hL (truN b c r e) (truN_lt hb hlc hr hle)) ok_Pv_isKnown ml_Pv_131 im_Pv_isKnown se_Pv_isKnown (lC10 hL) kc_Pv (gRm_ok (by decide) (by decide)) rfl rfl (Nat.le_of_ble_eq_true rfl) d_Pv_handOnTrust_35 ⟨Nat.le_of_ble_eq_true rfl, Nat.le_of_ble_eq_true rfl⟩ rfl ?_
          refine V_bz 64 41 d_Pv_handOnTrust_38 (by decide) rfl (fun h38 => ?_) (fun h38 => ?_)
          · refine V_ii8 67 (v := 1) d_Pv_handOnTrust_64 (by decide) (by decide) rfl ?_
            refine V_goto 13 d_Pv_handOnTrust_67 (by decide) ?_
            rw [nI_1]
            exact ihe (e + 1) _ (by omega) (itN_s (F := fun z9 => itN (hotC u k a b r m) dc (c + 1) z9) hTe (if_neg h38)) _
          · refine V_al0 42 d_Pv_handOnTrust_41 rfl ?_
            refine V_il3 43 d_Pv_handOnTrust_42 rfl ?_
            refine V_il7 45 d_Pv_handOnTrust_43 rfl ?_
            refine V_il5 47 d_Pv_handOnTrust_45 rfl ?_
            refine V_il6 49 d_Pv_handOnTrust_47 rfl ?_
            refine V_il8 51 d_Pv_handOnTrust_49 rfl ?_
            refine V_mmin 54 mn_Pv (Nat.le_of_ble_eq_true rfl) (Nat.le_of_ble_eq_true rfl) (Nat.le_of_ble_eq_true rfl) (Nat.le_of_ble_eq_true rfl) d_Pv_handOnTrust_51 rfl ?_
            refine V_topi (min_nI (by omega) (by omega)) ?_
            refine V_cS1 57 (c_Pv_trusts l G _ _ _ _ _ _) ok_Pv_trusts ml_Pv_127 st_Pv_trusts (gRm_ok (by decide) (by decide)) rfl rfl (Nat.le_of_ble_eq_true rfl) d_Pv_handOnTrust_54 ⟨Nat.le_of_ble_eq_true rfl, Nat.le_of_ble_eq_true rfl⟩ rfl ?_
            refine V_topi (tru_nI a c r (min m e)) ?_
            refine V_il1 58 d_Pv_handOnTrust_57 rfl ?_
            refine V_il2 59 d_Pv_handOnTrust_58 rfl ?_
            refine V_il9 61 d_Pv_handOnTrust_59 rfl ?_
            refine V_cV0 64 (c_Pv_reach l G _ _ hL (truN a c r (min m e)) (truN_lt ha hlc hr (by omega)) _ _ _) ok_Pv_reach ml_Pv_108 im_Pv_reach se_Pv_reach (lC10 hL) kc_Pv (gRm_ok (by decide) (by decide)) rfl rfl (Nat.le_of_ble_eq_true rfl) d_Pv_handOnTrust_61 ⟨Nat.le_of_ble_eq_true rfl, Nat.le_of_ble_eq_true rfl⟩ rfl ?_
            refine V_ii8 67 (v := 1) d_Pv_handOnTrust_64 (by decide) (by decide) rfl ?_
            refine V_goto 13 d_Pv_handOnTrust_67 (by decide) ?_
            rw [nI_1]
            exact ihe (e + 1) _ (by omega) (itN_s (F := fun z9 => itN (hotC u k a b r m) dc (c + 1) z9) hTe (if_pos h38)) _
      refine V_il7 5 d_Pv_handOnTrust_3 rfl ?_
      refine V_bipush 7 (v := 6) (by decide) d_Pv_handOnTrust_5 rfl ?_
      refine V_icmp_ge 76 10 d_Pv_handOnTrust_7 (by decide) rfl (fun h9 => absurd h9 (nI_ge (b := 6) hlc (by decide))) (fun _ => ?_)
      refine V_iconst 11 (v := 0) (by decide) d_Pv_handOnTrust_10 rfl ?_
      refine V_is8 13 d_Pv_handOnTrust_11 (by decide) rfl ?_
      exact lpe 4 0 _ (by decide) hTc _
  refine gMet_of (lv := [some (.ref 10), some (.int u), some (.int k), some (.int (nI a)), some (.int (nI b)), some (.int (nI r)), some (.int (nI m)), none, none, none]) (by decide) rfl (Nat.le_of_ble_eq_true rfl) rfl ?_
  refine V_iconst 1 (v := 0) (by decide) d_Pv_handOnTrust_0 rfl ?_
  refine V_is7 3 d_Pv_handOnTrust_1 (by decide) rfl ?_
  exact lpc 6 0 M (by decide) rfl _ _

/-! the reference's rounds -/
def mayM (a x r : Nat) : Nat := (a * 6 + x) * 4 + r
def spkM (b a : Nat) : Nat := 144 + 6 * b + a
def truM (a b r d : Nat) : Nat := 180 + ((a * 6 + b) * 4 + r) * 4 + d
theorem mayM_lt {a x r : Nat} (ha : a < 6) (hx : x < 6) (hr : r < 4) : mayM a x r < 756 := by unfold mayM; omega
theorem spkM_lt {b a : Nat} (hb : b < 6) (ha : a < 6) : spkM b a < 756 := by unfold spkM; omega
theorem truM_lt {a b r d : Nat} (ha : a < 6) (hb : b < 6) (hr : r < 4) (hd : d < 4) : truM a b r d < 756 := by unfold truM; omega
theorem mayM_nI (a x r : Nat) : (nI a * 6 + nI x) * 4 + nI r = nI (mayM a x r) := by
  show (nI a * nI 6 + nI x) * nI 4 + nI r = _
  simp only [nI_add, pk_mul]
  rfl
theorem spkM_nI (b a : Nat) : 144 + 6 * nI b + nI a = nI (spkM b a) := by
  show nI 144 + nI 6 * nI b + nI a = _
  simp only [nI_add, pk_mul]
  rfl
theorem truM_nI (a b r d : Nat) : 180 + ((nI a * 6 + nI b) * 4 + nI r) * 4 + nI d = nI (truM a b r d) := by
  show nI 180 + ((nI a * nI 6 + nI b) * nI 4 + nI r) * nI 4 + nI d = _
  simp only [nI_add, pk_mul]
  rfl
/-- a reason: the rule, its two parts -/
abbrev gRs : Type := Int32 × Int32 × Int32
/-- the first that f gives, from k on -/
def fstO (f : Nat → Option gRs) : Nat → Nat → Option gRs
  | 0, _ => none
  | d + 1, k => match f k with
    | some q => some q
    | none => fstO f d (k + 1)
def orE (x z : Option gRs) : Option gRs := match x with
  | some q => some q
  | none => z
theorem fstO_n {f : Nat → Option gRs} {d k : Nat} {F : Option gRs → Option gRs} {T : Option gRs} (hT : F (fstO f (d + 1) k) = T) (e : f k = none) : F (fstO f d (k + 1)) = T := by
  rw [← hT, fstO, e]
theorem fstO_y {f : Nat → Option gRs} {d k : Nat} {F : Option gRs → Option gRs} {T : Option gRs} {q : gRs} (hT : F (fstO f (d + 1) k) = T) (e : f k = some q) : F (some q) = T := by
  rw [← hT, fstO, e]
/-- a search within a search: what goes on behind the inner one -/
theorem fstO_p {f : Nat → Option gRs} {d k : Nat} {F : Option gRs → Option gRs} {T g : Option gRs} (hT : F (fstO f (d + 1) k) = T) (e : f k = g) : F (orE g (fstO f d (k + 1))) = T := by
  rw [← hT, fstO, e]
  cases g <;> rfl
/-- what a fact gets in a round -/
def stR (M : gMe) (f : Nat) (T : Option gRs) : Int32 × gMe := if ¬ M 421 f ≤ 0 then (0, M) else match T with
  | some q => (1, mFd M f q.1 q.2.1 q.2.2)
  | none => (0, M)
theorem stR_y {M : gMe} {f : Nat} {T : Option gRs} {q : gRs} (h : M 421 f ≤ 0) (hT : some q = T) : stR M f T = (1, mFd M f q.1 q.2.1 q.2.2) := by
  unfold stR
  rw [if_neg (not_not_intro h), ← hT]
theorem stR_n {M : gMe} {f : Nat} {T : Option gRs} (h : M 421 f ≤ 0) (hT : none = T) : stR M f T = (0, M) := by
  unfold stR
  rw [if_neg (not_not_intro h), ← hT]
theorem stR_h {M : gMe} {f : Nat} {T : Option gRs} (h : ¬ M 421 f ≤ 0) : stR M f T = (0, M) := by
  unfold stR
  rw [if_pos h]
/-- the reference's credentials -/
def gMr (M : gMe) (n : Nat) (f : Nat → Nat) : Prop := kOK f ∧ M 404 n = nI (f 0) ∧ M 405 n = nI (f 1) ∧ M 406 n = nI (f 2) ∧ (¬ f 1 = 1 → M 407 n = nI (f 3)) ∧ (f 1 = 0 ∨ f 1 = 2 → M 408 n = nI (f 4)) ∧ (f 1 = 2 → M 409 n = nI (f 5))
def gMW (M : gMe) (c : Nat) (K : Nat → Nat → Nat) : Prop := ∀ n, 1 ≤ n → n ≤ c → gMr M n (K n)
/-- the same but in the reference's prover -/
def gPm (M M' : gMe) : Prop := (∀ b, b ≠ 400 → (b < 417 ∨ 427 ≤ b) → M' b = M b) ∧ ∀ k, k ≠ 22 → k ≠ 36 → k ≠ 37 → M' 400 k = M 400 k
theorem gPm.rf {M : gMe} : gPm M M := ⟨fun _ _ _ => rfl, fun _ _ _ _ => rfl⟩
theorem gPm.tr {M M1 M2 : gMe} (h : gPm M M1) (h2 : gPm M1 M2) : gPm M M2 := ⟨fun b h1 h3 => (h2.1 b h1 h3).trans (h.1 b h1 h3), fun k a b c => (h2.2 k a b c).trans (h.2 k a b c)⟩
theorem gPm.st {M : gMe} {a k : Nat} {x : Int32} (ha : 417 ≤ a ∧ a < 427) : gPm M (gst M a k x) := ⟨fun b h1 h2 => gst_ne _ _ _ _ (by omega), fun k _ _ _ => by rw [gst_ne _ _ _ _ (by omega)]⟩
theorem gPm.fl {M : gMe} {k : Nat} {x : Int32} (hk : k = 22 ∨ k = 36 ∨ k = 37) : gPm M (gst M 400 k x) := ⟨fun b h1 h2 => gst_ne _ _ _ _ h1, fun j h1 h2 h3 => by
  rw [gst_at, if_pos rfl, if_neg (by omega)]⟩
theorem gPm.fd {M : gMe} {j : Nat} {u f z : Int32} : gPm M (mFd M j u f z) := (gPm.st (by decide)).tr ((gPm.st (by decide)).tr ((gPm.st (by decide)).tr (gPm.st (by decide))))
theorem gPm.sr {M : gMe} {f : Nat} {T : Option gRs} : gPm M (stR M f T).2 := by
  unfold stR
  split
  · exact gPm.rf
  · split
    · exact gPm.fd
    · exact gPm.rf
theorem gMr.mv {M M' : gMe} {n : Nat} {f : Nat → Nat} (hp : gPm M M') (h : gMr M n f) : gMr M' n f := by
  unfold gMr at *
  rw [hp.1 404 (by decide) (by decide), hp.1 405 (by decide) (by decide), hp.1 406 (by decide) (by decide), hp.1 407 (by decide) (by decide), hp.1 408 (by decide) (by decide), hp.1 409 (by decide) (by decide)]
  exact h
theorem gMW.mv {M M' : gMe} {c : Nat} {K : Nat → Nat → Nat} (hp : gPm M M') (h : gMW M c K) : gMW M' c K := fun n h1 h2 => (h n h1 h2).mv hp
theorem pHo_mv {M M' : gMe} {n : Nat} (hp : gPm M M') : pHo M' n ↔ pHo M n := by
  unfold pHo
  rw [hp.1 412 (by decide) (by decide), hp.1 410 (by decide) (by decide), hp.1 411 (by decide) (by decide), hp.2 1 (by decide) (by decide) (by decide)]
-- may
def nm1 (M : gMe) (a x r b : Nat) : Option gRs := if pHad M (spkM b a) ∧ pHad M (mayM b x r) then some (2, nI (spkM b a), nI (mayM b x r)) else none
def nm2D (M : gMe) (a x r b d : Nat) : Option gRs := if pHad M (truM a b r d) then some (3, nI (truM a b r d), nI (mayM b x r)) else none
def nm2 (M : gMe) (a x r b : Nat) : Option gRs := if pHad M (mayM b x r) then fstO (nm2D M a x r b) 4 0 else none
def nm3 (M : gMe) (K : Nat → Nat → Nat) (a x r n : Nat) : Option gRs := if pHo M n ∧ K n 1 = 3 ∧ K n 0 = a ∧ K n 3 = r ∧ pHad M (mayM a x (K n 2)) then some (7, nI n, nI (mayM a x (K n 2))) else none
def nmR (M : gMe) (K : Nat → Nat → Nat) (c a x r : Nat) : Option gRs := orE (fstO (nm1 M a x r) 6 0) (orE (fstO (nm2 M a x r) 6 0) (fstO (nm3 M K a x r) c 1))
-- trust
def nt1E (M : gMe) (a c r m b d e : Nat) : Option gRs := if (d = m + 1 ∨ e = m) ∧ pHad M (truM b c r e) then some (4, nI (truM a b r d), nI (truM b c r e)) else none
def nt1D (M : gMe) (a c r m b d : Nat) : Option gRs := if pHad M (truM a b r d) then fstO (nt1E M a c r m b d) (4 - m) m else none
def nt1 (M : gMe) (a c r m b : Nat) : Option gRs := fstO (nt1D M a c r m b) (3 - m) (m + 1)
def nt2 (M : gMe) (a c r m b : Nat) : Option gRs := if pHad M (spkM b a) ∧ pHad M (truM b c r m) then some (5, nI (spkM b a), nI (truM b c r m)) else none
def ntR (M : gMe) (a c r m : Nat) : Option gRs := orE (fstO (nt1 M a c r m) 6 0) (fstO (nt2 M a c r m) 6 0)
-- voice
def nv1 (M : gMe) (c a b : Nat) : Option gRs := if pHad M (spkM c b) ∧ pHad M (spkM b a) then some (6, nI (spkM c b), nI (spkM b a)) else none
def nvR (M : gMe) (c a : Nat) : Option gRs := fstO (nv1 M c a) 6 0
set_option maxRecDepth 100000 in
set_option maxHeartbeats 4000000 in
theorem c_Mo_newVoice (l : Launch) (G : gG) (L : gLy) (M : gMe) (hM : gLM L) (c a : Nat) (hc : c < 6) (ha : a < 6) : gMet l G y_Mo_newVoice b_Mo_newVoice 5 (some FieldType.boolean) (rmL 3 0 0) [.ref 400, .int (nI c), .int (nI a)] L M gAll (gPo (some (.int (stR M (spkM c a) (nvR M c a)).1)) L (stR M (spkM c a) (nvR M c a)).2) 0 0 := by
  by_cases hz : M 421 (spkM c a) ≤ 0
  · have lpb : ∀ (db b : Nat), b + db = 6 → fstO (nv1 M c a) db b = nvR M c a → V l G y_Mo_newVoice b_Mo_newVoice 5 (some FieldType.boolean) (rmL 3 0 0) 0 0 gAll (gPo (some (.int (stR M (spkM c a) (nvR M c a)).1)) L (stR M (spkM c a) (nvR M c a)).2) L (M) 0 0 [some (.ref 400), some (.int (nI c)), some (.int (nI a)), some (.int (nI (spkM c a))), some (.int (nI b))] 20 [] := by
      intro db
      induction db with
      | zero =>
        intro b hxb hTb 
        obtain rfl : b = 6 := by omega
        refine V_il4 22 d_Mo_newVoice_20 rfl ?_
        refine V_bipush 24 (v := 6) (by decide) d_Mo_newVoice_22 rfl ?_
        refine V_icmp_ge 79 27 d_Mo_newVoice_24 (by decide) rfl (fun _ => ?_) (fun h9 => absurd (show (6 : Int32) ≤ nI 6 by decide) h9)
        refine V_iconst 80 (v := 0) (by decide) d_Mo_newVoice_79 rfl ?_
        exact V_zret rfl rfl d_Mo_newVoice_80 ⟨by rw [stR_n hz hTb], rfl, by rw [stR_n hz hTb]⟩
      | succ db ihb =>
        intro b hxb hTb 
        have hlb : b < 6 := by omega
        refine V_il4 22 d_Mo_newVoice_20 rfl ?_
        refine V_bipush 24 (v := 6) (by decide) d_Mo_newVoice_22 rfl ?_
        refine V_icmp_ge 79 27 d_Mo_newVoice_24 (by decide) rfl (fun h9 => absurd h9 (nI_ge (b := 6) hlb (by decide))) (fun _ => ?_)
        refine V_al0 28 d_Mo_newVoice_27 rfl ?_
        refine V_il1 29 d_Mo_newVoice_28 rfl ?_
        refine V_il4 31 d_Mo_newVoice_29 rfl ?_
        refine V_cS1 34 (c_Mo_speaks l G _ _ _ _) ok_Mo_speaks ml_Mo_157 st_Mo_speaks (gRm_ok (by decide) (by decide)) rfl rfl (Nat.le_of_ble_eq_true rfl) d_Mo_newVoice_31 ⟨Nat.le_of_ble_eq_true rfl, Nat.le_of_ble_eq_true rfl⟩ rfl ?_
        refine V_topi (spkM_nI c b) ?_
        refine V_cV1 37 (c_Mo_had l G _ _ hM (spkM c b) (spkM_lt hc hlb)) ok_Mo_had ml_Mo_168 im_Mo_had se_Mo_had (lM hM) kc_Mo (gRm_ok (by decide) (by decide)) rfl rfl (Nat.le_of_ble_eq_true rfl) d_Mo_newVoice_34 ⟨Nat.le_of_ble_eq_true rfl, Nat.le_of_ble_eq_true rfl⟩ rfl ?_
        refine V_bz 73 40 d_Mo_newVoice_37 (by decide) rfl (fun h37 => ?_) (fun h37 => ?_)
        · refine V_ii4 76 (v := 1) d_Mo_newVoice_73 (by decide) (by decide) rfl ?_
          refine V_goto 20 d_Mo_newVoice_76 (by decide) ?_
          rw [nI_1]
          exact ihb (b + 1) (by omega) (fstO_n (F := fun z9 => z9) hTb (if_neg (fun h => h37 h.1)))
        · refine V_al0 41 d_Mo_newVoice_40 rfl ?_
          refine V_il4 43 d_Mo_newVoice_41 rfl ?_
          refine V_il2 44 d_Mo_newVoice_43 rfl ?_
          refine V_cS1 47 (c_Mo_speaks l G _ _ _ _) ok_Mo_speaks ml_Mo_157 st_Mo_speaks (gRm_ok (by decide) (by decide)) rfl rfl (Nat.le_of_ble_eq_true rfl) d_Mo_newVoice_44 ⟨Nat.le_of_ble_eq_true rfl, Nat.le_of_ble_eq_true rfl⟩ rfl ?_
          refine V_topi (spkM_nI b a) ?_
          refine V_cV1 50 (c_Mo_had l G _ _ hM (spkM b a) (spkM_lt hlb ha)) ok_Mo_had ml_Mo_168 im_Mo_had se_Mo_had (lM hM) kc_Mo (gRm_ok (by decide) (by decide)) rfl rfl (Nat.le_of_ble_eq_true rfl) d_Mo_newVoice_47 ⟨Nat.le_of_ble_eq_true rfl, Nat.le_of_ble_eq_true rfl⟩ rfl ?_
          refine V_bz 73 53 d_Mo_newVoice_50 (by decide) rfl (fun h50 => ?_) (fun h50 => ?_)
          · refine V_ii4 76 (v := 1) d_Mo_newVoice_73 (by decide) (by decide) rfl ?_
            refine V_goto 20 d_Mo_newVoice_76 (by decide) ?_
            rw [nI_1]
            exact ihb (b + 1) (by omega) (fstO_n (F := fun z9 => z9) hTb (if_neg (fun h => h50 h.2)))
          · refine V_al0 54 d_Mo_newVoice_53 rfl ?_
            refine V_il3 55 d_Mo_newVoice_54 rfl ?_
            refine V_bipush 57 (v := 6) (by decide) d_Mo_newVoice_55 rfl ?_
            refine V_il1 58 d_Mo_newVoice_57 rfl ?_
            refine V_il4 60 d_Mo_newVoice_58 rfl ?_
            refine V_cS1 63 (c_Mo_speaks l G _ _ _ _) ok_Mo_speaks ml_Mo_157 st_Mo_speaks (gRm_ok (by decide) (by decide)) rfl rfl (Nat.le_of_ble_eq_true rfl) d_Mo_newVoice_60 ⟨Nat.le_of_ble_eq_true rfl, Nat.le_of_ble_eq_true rfl⟩ rfl ?_
            refine V_topi (spkM_nI c b) ?_
            refine V_il4 65 d_Mo_newVoice_63 rfl ?_
            refine V_il2 66 d_Mo_newVoice_65 rfl ?_
            refine V_cS1 69 (c_Mo_speaks l G _ _ _ _) ok_Mo_speaks ml_Mo_157 st_Mo_speaks (gRm_ok (by decide) (by decide)) rfl rfl (Nat.le_of_ble_eq_true rfl) d_Mo_newVoice_66 ⟨Nat.le_of_ble_eq_true rfl, Nat.le_of_ble_eq_true rfl⟩ rfl ?_
            refine V_topi (spkM_nI b a) ?_
            refine V_cV1 72 (c_Mo_finds l G _ _ hM (spkM c a) (spkM_lt hc ha) _ _ _) ok_Mo_finds ml_Mo_164 im_Mo_finds se_Mo_finds (lM hM) kc_Mo (gRm_ok (by decide) (by decide)) rfl rfl (Nat.le_of_ble_eq_true rfl) d_Mo_newVoice_69 ⟨Nat.le_of_ble_eq_true rfl, Nat.le_of_ble_eq_true rfl⟩ rfl ?_
            have e9 := stR_y hz (fstO_y (F := fun z9 => z9) hTb (if_pos ⟨h37, h50⟩))
            exact V_zret rfl rfl d_Mo_newVoice_72 ⟨by rw [e9], rfl, by rw [e9]⟩
    refine gMet_of (lv := [some (.ref 400), some (.int (nI c)), some (.int (nI a)), none, none]) (by decide) rfl (Nat.le_of_ble_eq_true rfl) rfl ?_
    refine V_il1 1 d_Mo_newVoice_0 rfl ?_
    refine V_il2 2 d_Mo_newVoice_1 rfl ?_
    refine V_cS1 5 (c_Mo_speaks l G _ _ _ _) ok_Mo_speaks ml_Mo_157 st_Mo_speaks (gRm_ok (by decide) (by decide)) rfl rfl (Nat.le_of_ble_eq_true rfl) d_Mo_newVoice_2 ⟨Nat.le_of_ble_eq_true rfl, Nat.le_of_ble_eq_true rfl⟩ rfl ?_
    refine V_topi (spkM_nI c a) ?_
    refine V_is3 6 d_Mo_newVoice_5 (by decide) rfl ?_
    refine V_al0 7 d_Mo_newVoice_6 rfl ?_
    refine V_getr 10 30 (lM hM) kc_Mo (by decide) fl_Mo_71 (Or.inl rfl) rfl d_Mo_newVoice_7 rfl ?_
    refine V_il3 11 d_Mo_newVoice_10 rfl ?_
    refine V_ialn 12 (spkM c a) (lM421 hM) rfl (spkM_lt hc ha) (by decide) d_Mo_newVoice_11 rfl ?_
    refine V_if_le 17 15 d_Mo_newVoice_12 (by decide) rfl (fun _ => ?_) (fun h9 => absurd hz h9)
    refine V_iconst 18 (v := 0) (by decide) d_Mo_newVoice_17 rfl ?_
    refine V_is4 20 d_Mo_newVoice_18 (by decide) rfl ?_
    exact lpb 6 0 (by decide) rfl
  · refine gMet_of (lv := [some (.ref 400), some (.int (nI c)), some (.int (nI a)), none, none]) (by decide) rfl (Nat.le_of_ble_eq_true rfl) rfl ?_
    refine V_il1 1 d_Mo_newVoice_0 rfl ?_
    refine V_il2 2 d_Mo_newVoice_1 rfl ?_
    refine V_cS1 5 (c_Mo_speaks l G _ _ _ _) ok_Mo_speaks ml_Mo_157 st_Mo_speaks (gRm_ok (by decide) (by decide)) rfl rfl (Nat.le_of_ble_eq_true rfl) d_Mo_newVoice_2 ⟨Nat.le_of_ble_eq_true rfl, Nat.le_of_ble_eq_true rfl⟩ rfl ?_
    refine V_topi (spkM_nI c a) ?_
    refine V_is3 6 d_Mo_newVoice_5 (by decide) rfl ?_
    refine V_al0 7 d_Mo_newVoice_6 rfl ?_
    refine V_getr 10 30 (lM hM) kc_Mo (by decide) fl_Mo_71 (Or.inl rfl) rfl d_Mo_newVoice_7 rfl ?_
    refine V_il3 11 d_Mo_newVoice_10 rfl ?_
    refine V_ialn 12 (spkM c a) (lM421 hM) rfl (spkM_lt hc ha) (by decide) d_Mo_newVoice_11 rfl ?_
    refine V_if_le 17 15 d_Mo_newVoice_12 (by decide) rfl (fun h9 => absurd h9 hz) (fun _ => ?_)
    refine V_iconst 16 (v := 0) (by decide) d_Mo_newVoice_15 rfl ?_
    exact V_zret rfl rfl d_Mo_newVoice_16 ⟨by rw [stR_h hz], rfl, by rw [stR_h hz]⟩
set_option maxRecDepth 100000 in
set_option maxHeartbeats 4000000 in
theorem c_Mo_newTrust (l : Launch) (G : gG) (L : gLy) (M : gMe) (hM : gLM L) (a c r m : Nat) (ha : a < 6) (hc : c < 6) (hr : r < 4) (hm : m < 4) : gMet l G y_Mo_newTrust b_Mo_newTrust 10 (some FieldType.boolean) (rmL 3 0 0) [.ref 400, .int (nI a), .int (nI c), .int (nI r), .int (nI m)] L M gAll (gPo (some (.int (stR M (truM a c r m) (ntR M a c r m)).1)) L (stR M (truM a c r m) (ntR M a c r m)).2) 0 0 := by
  by_cases hz : M 421 (truM a c r m) ≤ 0
  · have lpb : ∀ (db b : Nat), b + db = 6 → fstO (nt2 M a c r m) db b = ntR M a c r m → ∀ zb0 zb1 zb2 : Option Value, V l G y_Mo_newTrust b_Mo_newTrust 10 (some FieldType.boolean) (rmL 3 0 0) 0 0 gAll (gPo (some (.int (stR M (truM a c r m) (ntR M a c r m)).1)) L (stR M (truM a c r m) (ntR M a c r m)).2) L (M) 0 0 [some (.ref 400), some (.int (nI a)), some (.int (nI c)), some (.int (nI r)), some (.int (nI m)), some (.int (nI (truM a c r m))), some (.int (nI b)), zb0, zb1, zb2] 161 [] := by
      intro db
      induction db with
      | zero =>
        intro b hxb hTb zb0 zb1 zb2
        obtain rfl : b = 6 := by omega
        refine V_il6 163 d_Mo_newTrust_161 rfl ?_
        refine V_bipush 165 (v := 6) (by decide) d_Mo_newTrust_163 rfl ?_
        refine V_icmp_ge 226 168 d_Mo_newTrust_165 (by decide) rfl (fun _ => ?_) (fun h9 => absurd (show (6 : Int32) ≤ nI 6 by decide) h9)
        refine V_iconst 227 (v := 0) (by decide) d_Mo_newTrust_226 rfl ?_
        exact V_zret rfl rfl d_Mo_newTrust_227 ⟨by rw [stR_n hz hTb], rfl, by rw [stR_n hz hTb]⟩
      | succ db ihb =>
        intro b hxb hTb zb0 zb1 zb2
        have hlb : b < 6 := by omega
        refine V_il6 163 d_Mo_newTrust_161 rfl ?_
        refine V_bipush 165 (v := 6) (by decide) d_Mo_newTrust_163 rfl ?_
        refine V_icmp_ge 226 168 d_Mo_newTrust_165 (by decide) rfl (fun h9 => absurd h9 (nI_ge (b := 6) hlb (by decide))) (fun _ => ?_)
        refine V_al0 169 d_Mo_newTrust_168 rfl ?_
        refine V_il6 171 d_Mo_newTrust_169 rfl ?_
        refine V_il1 172 d_Mo_newTrust_171 rfl ?_
        refine V_cS1 175 (c_Mo_speaks l G _ _ _ _) ok_Mo_speaks ml_Mo_157 st_Mo_speaks (gRm_ok (by decide) (by decide)) rfl rfl (Nat.le_of_ble_eq_true rfl) d_Mo_newTrust_172 ⟨Nat.le_of_ble_eq_true rfl, Nat.le_of_ble_eq_true rfl⟩ rfl ?_
        refine V_topi (spkM_nI b a) ?_
        refine V_cV1 178 (c_Mo_had l G _ _ hM (spkM b a) (spkM_lt hlb ha)) ok_Mo_had ml_Mo_168 im_Mo_had se_Mo_had (lM hM) kc_Mo (gRm_ok (by decide) (by decide)) rfl rfl (Nat.le_of_ble_eq_true rfl) d_Mo_newTrust_175 ⟨Nat.le_of_ble_eq_true rfl, Nat.le_of_ble_eq_true rfl⟩ rfl ?_
        refine V_bz 220 181 d_Mo_newTrust_178 (by decide) rfl (fun h178 => ?_) (fun h178 => ?_)
        · refine V_ii6 223 (v := 1) d_Mo_newTrust_220 (by decide) (by decide) rfl ?_
          refine V_goto 161 d_Mo_newTrust_223 (by decide) ?_
          rw [nI_1]
          exact ihb (b + 1) (by omega) (fstO_n (F := fun z9 => z9) hTb (if_neg (fun h => h178 h.1))) _ _ _
        · refine V_al0 182 d_Mo_newTrust_181 rfl ?_
          refine V_il6 184 d_Mo_newTrust_182 rfl ?_
          refine V_il2 185 d_Mo_newTrust_184 rfl ?_
          refine V_il3 186 d_Mo_newTrust_185 rfl ?_
          refine V_il4 188 d_Mo_newTrust_186 rfl ?_
          refine V_cS1 191 (c_Mo_trusts l G _ _ _ _ _ _) ok_Mo_trusts ml_Mo_160 st_Mo_trusts (gRm_ok (by decide) (by decide)) rfl rfl (Nat.le_of_ble_eq_true rfl) d_Mo_newTrust_188 ⟨Nat.le_of_ble_eq_true rfl, Nat.le_of_ble_eq_true rfl⟩ rfl ?_
          refine V_topi (truM_nI b c r m) ?_
          refine V_cV1 194 (c_Mo_had l G _ _ hM (truM b c r m) (truM_lt hlb hc hr hm)) ok_Mo_had ml_Mo_168 im_Mo_had se_Mo_had (lM hM) kc_Mo (gRm_ok (by decide) (by decide)) rfl rfl (Nat.le_of_ble_eq_true rfl) d_Mo_newTrust_191 ⟨Nat.le_of_ble_eq_true rfl, Nat.le_of_ble_eq_true rfl⟩ rfl ?_
          refine V_bz 220 197 d_Mo_newTrust_194 (by decide) rfl (fun h194 => ?_) (fun h194 => ?_)
          · refine V_ii6 223 (v := 1) d_Mo_newTrust_220 (by decide) (by decide) rfl ?_
            refine V_goto 161 d_Mo_newTrust_223 (by decide) ?_
            rw [nI_1]
            exact ihb (b + 1) (by omega) (fstO_n (F := fun z9 => z9) hTb (if_neg (fun h => h194 h.2))) _ _ _
          · refine V_al0 198 d_Mo_newTrust_197 rfl ?_
            refine V_il5 200 d_Mo_newTrust_198 rfl ?_
            refine V_iconst 201 (v := 5) (by decide) d_Mo_newTrust_200 rfl ?_
            refine V_il6 203 d_Mo_newTrust_201 rfl ?_
            refine V_il1 204 d_Mo_newTrust_203 rfl ?_
            refine V_cS1 207 (c_Mo_speaks l G _ _ _ _) ok_Mo_speaks ml_Mo_157 st_Mo_speaks (gRm_ok (by decide) (by decide)) rfl rfl (Nat.le_of_ble_eq_true rfl) d_Mo_newTrust_204 ⟨Nat.le_of_ble_eq_true rfl, Nat.le_of_ble_eq_true rfl⟩ rfl ?_
            refine V_topi (spkM_nI b a) ?_
            refine V_il6 209 d_Mo_newTrust_207 rfl ?_
            refine V_il2 210 d_Mo_newTrust_209 rfl ?_
            refine V_il3 211 d_Mo_newTrust_210 rfl ?_
            refine V_il4 213 d_Mo_newTrust_211 rfl ?_
            refine V_cS1 216 (c_Mo_trusts l G _ _ _ _ _ _) ok_Mo_trusts ml_Mo_160 st_Mo_trusts (gRm_ok (by decide) (by decide)) rfl rfl (Nat.le_of_ble_eq_true rfl) d_Mo_newTrust_213 ⟨Nat.le_of_ble_eq_true rfl, Nat.le_of_ble_eq_true rfl⟩ rfl ?_
            refine V_topi (truM_nI b c r m) ?_
            refine V_cV1 219 (c_Mo_finds l G _ _ hM (truM a c r m) (truM_lt ha hc hr hm) _ _ _) ok_Mo_finds ml_Mo_164 im_Mo_finds se_Mo_finds (lM hM) kc_Mo (gRm_ok (by decide) (by decide)) rfl rfl (Nat.le_of_ble_eq_true rfl) d_Mo_newTrust_216 ⟨Nat.le_of_ble_eq_true rfl, Nat.le_of_ble_eq_true rfl⟩ rfl ?_
            have e9 := stR_y hz (fstO_y (F := fun z9 => z9) hTb (if_pos ⟨h178, h194⟩))
            exact V_zret rfl rfl d_Mo_newTrust_219 ⟨by rw [e9], rfl, by rw [e9]⟩
    have lp2 := lpb
    have lpb : ∀ (db b : Nat), b + db = 6 → orE (fstO (nt1 M a c r m) db b) (fstO (nt2 M a c r m) 6 0) = ntR M a c r m → ∀ zb0 zb1 zb2 : Option Value, V l G y_Mo_newTrust b_Mo_newTrust 10 (some FieldType.boolean) (rmL 3 0 0) 0 0 gAll (gPo (some (.int (stR M (truM a c r m) (ntR M a c r m)).1)) L (stR M (truM a c r m) (ntR M a c r m)).2) L (M) 0 0 [some (.ref 400), some (.int (nI a)), some (.int (nI c)), some (.int (nI r)), some (.int (nI m)), some (.int (nI (truM a c r m))), some (.int (nI b)), zb0, zb1, zb2] 25 [] := by
      intro db
      induction db with
      | zero =>
        intro b hxb hTb zb0 zb1 zb2
        obtain rfl : b = 6 := by omega
        refine V_il6 27 d_Mo_newTrust_25 rfl ?_
        refine V_bipush 29 (v := 6) (by decide) d_Mo_newTrust_27 rfl ?_
        refine V_icmp_ge 158 32 d_Mo_newTrust_29 (by decide) rfl (fun _ => ?_) (fun h9 => absurd (show (6 : Int32) ≤ nI 6 by decide) h9)
        refine V_iconst 159 (v := 0) (by decide) d_Mo_newTrust_158 rfl ?_
        refine V_is6 161 d_Mo_newTrust_159 (by decide) rfl ?_
        exact lp2 6 0 (by decide) hTb _ _ _
      | succ db ihb =>
        intro b hxb hTb zb0 zb1 zb2
        have hlb : b < 6 := by omega
        have lpd : ∀ (dd d : Nat), (d + dd = 4 ∧ (m + 1) ≤ d) → orE (orE (fstO (nt1D M a c r m b) dd d) (fstO (nt1 M a c r m) db (b + 1))) (fstO (nt2 M a c r m) 6 0) = ntR M a c r m → ∀ zd0 zd1 : Option Value, V l G y_Mo_newTrust b_Mo_newTrust 10 (some FieldType.boolean) (rmL 3 0 0) 0 0 gAll (gPo (some (.int (stR M (truM a c r m) (ntR M a c r m)).1)) L (stR M (truM a c r m) (ntR M a c r m)).2) L (M) 0 0 [some (.ref 400), some (.int (nI a)), some (.int (nI c)), some (.int (nI r)), some (.int (nI m)), some (.int (nI (truM a c r m))), some (.int (nI b)), some (.int (nI d)), zd0, zd1] 38 [] := by
          intro dd
          induction dd with
          | zero =>
            intro d ⟨hxd, hbd⟩ hTd zd0 zd1
            obtain rfl : d = 4 := by omega
            refine V_il7 40 d_Mo_newTrust_38 rfl ?_
            refine V_iconst 41 (v := 4) (by decide) d_Mo_newTrust_40 rfl ?_
            refine V_icmp_ge 152 44 d_Mo_newTrust_41 (by decide) rfl (fun _ => ?_) (fun h9 => absurd (show (4 : Int32) ≤ nI 4 by decide) h9)
            refine V_ii6 155 (v := 1) d_Mo_newTrust_152 (by decide) (by decide) rfl ?_
            refine V_goto 25 d_Mo_newTrust_155 (by decide) ?_
            rw [nI_1]
            exact ihb (b + 1) (by omega) hTd _ _ _
          | succ dd ihd =>
            intro d ⟨hxd, hbd⟩ hTd zd0 zd1
            have hld : d < 4 := by omega
            by_cases hk : pHad M (truM a b r d)
            · have lpe : ∀ (de e : Nat), (e + de = 4 ∧ m ≤ e) → orE (orE (orE (fstO (nt1E M a c r m b d) de e) (fstO (nt1D M a c r m b) dd (d + 1))) (fstO (nt1 M a c r m) db (b + 1))) (fstO (nt2 M a c r m) 6 0) = ntR M a c r m → ∀ ze0 : Option Value, V l G y_Mo_newTrust b_Mo_newTrust 10 (some FieldType.boolean) (rmL 3 0 0) 0 0 gAll (gPo (some (.int (stR M (truM a c r m) (ntR M a c r m)).1)) L (stR M (truM a c r m) (ntR M a c r m)).2) L (M) 0 0 [some (.ref 400), some (.int (nI a)), some (.int (nI c)), some (.int (nI r)), some (.int (nI m)), some (.int (nI (truM a c r m))), some (.int (nI b)), some (.int (nI d)), some (.int (nI e)), ze0] 48 [] := by
                intro de
                induction de with
                | zero =>
                  intro e ⟨hxe, hbe⟩ hTe ze0
                  obtain rfl : e = 4 := by omega
                  refine V_il8 50 d_Mo_newTrust_48 rfl ?_
                  refine V_iconst 51 (v := 4) (by decide) d_Mo_newTrust_50 rfl ?_
                  refine V_icmp_ge 146 54 d_Mo_newTrust_51 (by decide) rfl (fun _ => ?_) (fun h9 => absurd (show (4 : Int32) ≤ nI 4 by decide) h9)
                  refine V_ii7 149 (v := 1) d_Mo_newTrust_146 (by decide) (by decide) rfl ?_
                  refine V_goto 38 d_Mo_newTrust_149 (by decide) ?_
                  rw [nI_1]
                  exact ihd (d + 1) ⟨by omega, by omega⟩ hTe _ _
                | succ de ihe =>
                  intro e ⟨hxe, hbe⟩ hTe ze0
                  have hle : e < 4 := by omega
                  refine V_il8 50 d_Mo_newTrust_48 rfl ?_
                  refine V_iconst 51 (v := 4) (by decide) d_Mo_newTrust_50 rfl ?_
                  refine V_icmp_ge 146 54 d_Mo_newTrust_51 (by decide) rfl (fun h9 => absurd h9 (nI_ge (b := 4) hle (by decide))) (fun _ => ?_)
                  refine V_al0 55 d_Mo_newTrust_54 rfl ?_
                  refine V_il1 56 d_Mo_newTrust_55 rfl ?_
                  refine V_il6 58 d_Mo_newTrust_56 rfl ?_
                  refine V_il3 59 d_Mo_newTrust_58 rfl ?_
                  refine V_il7 61 d_Mo_newTrust_59 rfl ?_
                  refine V_cS1 64 (c_Mo_trusts l G _ _ _ _ _ _) ok_Mo_trusts ml_Mo_160 st_Mo_trusts (gRm_ok (by decide) (by decide)) rfl rfl (Nat.le_of_ble_eq_true rfl) d_Mo_newTrust_61 ⟨Nat.le_of_ble_eq_true rfl, Nat.le_of_ble_eq_true rfl⟩ rfl ?_
                  refine V_topi (truM_nI a b r d) ?_
                  refine V_cV1 67 (c_Mo_had l G _ _ hM (truM a b r d) (truM_lt ha hlb hr hld)) ok_Mo_had ml_Mo_168 im_Mo_had se_Mo_had (lM hM) kc_Mo (gRm_ok (by decide) (by decide)) rfl rfl (Nat.le_of_ble_eq_true rfl) d_Mo_newTrust_64 ⟨Nat.le_of_ble_eq_true rfl, Nat.le_of_ble_eq_true rfl⟩ rfl ?_
                  refine V_bz 146 70 d_Mo_newTrust_67 (by decide) rfl (fun h9 => absurd hk h9) (fun _ => ?_)
                  by_cases hs70 : d = m + 1
                  · refine V_il7 72 d_Mo_newTrust_70 rfl ?_
                    refine V_iconst 73 (v := 1) (by decide) d_Mo_newTrust_72 rfl ?_
                    refine V_isub 74 d_Mo_newTrust_73 rfl ?_
                    refine V_il4 76 d_Mo_newTrust_74 rfl ?_
                    refine V_icmp_eq 86 79 d_Mo_newTrust_76 (by decide) rfl (fun _ => ?_) (fun h9 => absurd (show nI d - 1 = nI m by rw [nI_dm (by omega), hs70]; rfl) h9)
                    refine V_iconst 87 (v := 1) (by decide) d_Mo_newTrust_86 rfl ?_
                    refine V_goto 91 d_Mo_newTrust_87 (by decide) ?_
                    refine V_is9 93 d_Mo_newTrust_91 (by decide) rfl ?_
                    refine V_il9 95 d_Mo_newTrust_93 rfl ?_
                    refine V_if_eq 140 98 d_Mo_newTrust_95 (by decide) rfl (fun h9 => absurd h9 (by decide)) (fun _ => ?_)
                    refine V_al0 99 d_Mo_newTrust_98 rfl ?_
                    refine V_il6 101 d_Mo_newTrust_99 rfl ?_
                    refine V_il2 102 d_Mo_newTrust_101 rfl ?_
                    refine V_il3 103 d_Mo_newTrust_102 rfl ?_
                    refine V_il8 105 d_Mo_newTrust_103 rfl ?_
                    refine V_cS1 108 (c_Mo_trusts l G _ _ _ _ _ _) ok_Mo_trusts ml_Mo_160 st_Mo_trusts (gRm_ok (by decide) (by decide)) rfl rfl (Nat.le_of_ble_eq_true rfl) d_Mo_newTrust_105 ⟨Nat.le_of_ble_eq_true rfl, Nat.le_of_ble_eq_true rfl⟩ rfl ?_
                    refine V_topi (truM_nI b c r e) ?_
                    refine V_cV1 111 (c_Mo_had l G _ _ hM (truM b c r e) (truM_lt hlb hc hr hle)) ok_Mo_had ml_Mo_168 im_Mo_had se_Mo_had (lM hM) kc_Mo (gRm_ok (by decide) (by decide)) rfl rfl (Nat.le_of_ble_eq_true rfl) d_Mo_newTrust_108 ⟨Nat.le_of_ble_eq_true rfl, Nat.le_of_ble_eq_true rfl⟩ rfl ?_
                    refine V_bz 140 114 d_Mo_newTrust_111 (by decide) rfl (fun h111 => ?_) (fun h111 => ?_)
                    · refine V_ii8 143 (v := 1) d_Mo_newTrust_140 (by decide) (by decide) rfl ?_
                      refine V_goto 48 d_Mo_newTrust_143 (by decide) ?_
                      rw [nI_1]
                      exact ihe (e + 1) ⟨by omega, by omega⟩ (fstO_n (F := fun z9 => orE (orE (orE (z9) (fstO (nt1D M a c r m b) dd (d + 1))) (fstO (nt1 M a c r m) db (b + 1))) (fstO (nt2 M a c r m) 6 0)) hTe (if_neg (fun h => h111 h.2))) _
                    · refine V_al0 115 d_Mo_newTrust_114 rfl ?_
                      refine V_il5 117 d_Mo_newTrust_115 rfl ?_
                      refine V_iconst 118 (v := 4) (by decide) d_Mo_newTrust_117 rfl ?_
                      refine V_il1 119 d_Mo_newTrust_118 rfl ?_
                      refine V_il6 121 d_Mo_newTrust_119 rfl ?_
                      refine V_il3 122 d_Mo_newTrust_121 rfl ?_
                      refine V_il7 124 d_Mo_newTrust_122 rfl ?_
                      refine V_cS1 127 (c_Mo_trusts l G _ _ _ _ _ _) ok_Mo_trusts ml_Mo_160 st_Mo_trusts (gRm_ok (by decide) (by decide)) rfl rfl (Nat.le_of_ble_eq_true rfl) d_Mo_newTrust_124 ⟨Nat.le_of_ble_eq_true rfl, Nat.le_of_ble_eq_true rfl⟩ rfl ?_
                      refine V_topi (truM_nI a b r d) ?_
                      refine V_il6 129 d_Mo_newTrust_127 rfl ?_
                      refine V_il2 130 d_Mo_newTrust_129 rfl ?_
                      refine V_il3 131 d_Mo_newTrust_130 rfl ?_
                      refine V_il8 133 d_Mo_newTrust_131 rfl ?_
                      refine V_cS1 136 (c_Mo_trusts l G _ _ _ _ _ _) ok_Mo_trusts ml_Mo_160 st_Mo_trusts (gRm_ok (by decide) (by decide)) rfl rfl (Nat.le_of_ble_eq_true rfl) d_Mo_newTrust_133 ⟨Nat.le_of_ble_eq_true rfl, Nat.le_of_ble_eq_true rfl⟩ rfl ?_
                      refine V_topi (truM_nI b c r e) ?_
                      refine V_cV1 139 (c_Mo_finds l G _ _ hM (truM a c r m) (truM_lt ha hc hr hm) _ _ _) ok_Mo_finds ml_Mo_164 im_Mo_finds se_Mo_finds (lM hM) kc_Mo (gRm_ok (by decide) (by decide)) rfl rfl (Nat.le_of_ble_eq_true rfl) d_Mo_newTrust_136 ⟨Nat.le_of_ble_eq_true rfl, Nat.le_of_ble_eq_true rfl⟩ rfl ?_
                      have e9 := stR_y hz (fstO_y (F := fun z9 => orE (orE (orE (z9) (fstO (nt1D M a c r m b) dd (d + 1))) (fstO (nt1 M a c r m) db (b + 1))) (fstO (nt2 M a c r m) 6 0)) hTe (if_pos ⟨Or.inl hs70, h111⟩))
                      exact V_zret rfl rfl d_Mo_newTrust_139 ⟨by rw [e9], rfl, by rw [e9]⟩
                  · refine V_il7 72 d_Mo_newTrust_70 rfl ?_
                    refine V_iconst 73 (v := 1) (by decide) d_Mo_newTrust_72 rfl ?_
                    refine V_isub 74 d_Mo_newTrust_73 rfl ?_
                    refine V_il4 76 d_Mo_newTrust_74 rfl ?_
                    refine V_icmp_eq 86 79 d_Mo_newTrust_76 (by decide) rfl (fun h9 => absurd h9 (show ¬ nI d - 1 = nI m by rw [nI_dm (by omega)]; exact fun h => hs70 (by have := (nI_eq (by omega) (by omega)).mp h; omega))) (fun _ => ?_)
                    by_cases hs79 : e = m
                    · refine V_il8 81 d_Mo_newTrust_79 rfl ?_
                      refine V_il4 83 d_Mo_newTrust_81 rfl ?_
                      refine V_icmp_ne 90 86 d_Mo_newTrust_83 (by decide) rfl (fun h9 => absurd h9 (not_not_intro (by rw [hs79]))) (fun _ => ?_)
                      refine V_iconst 87 (v := 1) (by decide) d_Mo_newTrust_86 rfl ?_
                      refine V_goto 91 d_Mo_newTrust_87 (by decide) ?_
                      refine V_is9 93 d_Mo_newTrust_91 (by decide) rfl ?_
                      refine V_il9 95 d_Mo_newTrust_93 rfl ?_
                      refine V_if_eq 140 98 d_Mo_newTrust_95 (by decide) rfl (fun h9 => absurd h9 (by decide)) (fun _ => ?_)
                      refine V_al0 99 d_Mo_newTrust_98 rfl ?_
                      refine V_il6 101 d_Mo_newTrust_99 rfl ?_
                      refine V_il2 102 d_Mo_newTrust_101 rfl ?_
                      refine V_il3 103 d_Mo_newTrust_102 rfl ?_
                      refine V_il8 105 d_Mo_newTrust_103 rfl ?_
                      refine V_cS1 108 (c_Mo_trusts l G _ _ _ _ _ _) ok_Mo_trusts ml_Mo_160 st_Mo_trusts (gRm_ok (by decide) (by decide)) rfl rfl (Nat.le_of_ble_eq_true rfl) d_Mo_newTrust_105 ⟨Nat.le_of_ble_eq_true rfl, Nat.le_of_ble_eq_true rfl⟩ rfl ?_
                      refine V_topi (truM_nI b c r e) ?_
                      refine V_cV1 111 (c_Mo_had l G _ _ hM (truM b c r e) (truM_lt hlb hc hr hle)) ok_Mo_had ml_Mo_168 im_Mo_had se_Mo_had (lM hM) kc_Mo (gRm_ok (by decide) (by decide)) rfl rfl (Nat.le_of_ble_eq_true rfl) d_Mo_newTrust_108 ⟨Nat.le_of_ble_eq_true rfl, Nat.le_of_ble_eq_true rfl⟩ rfl ?_
                      refine V_bz 140 114 d_Mo_newTrust_111 (by decide) rfl (fun h111 => ?_) (fun h111 => ?_)
                      · refine V_ii8 143 (v := 1) d_Mo_newTrust_140 (by decide) (by decide) rfl ?_
                        refine V_goto 48 d_Mo_newTrust_143 (by decide) ?_
                        rw [nI_1]
                        exact ihe (e + 1) ⟨by omega, by omega⟩ (fstO_n (F := fun z9 => orE (orE (orE (z9) (fstO (nt1D M a c r m b) dd (d + 1))) (fstO (nt1 M a c r m) db (b + 1))) (fstO (nt2 M a c r m) 6 0)) hTe (if_neg (fun h => h111 h.2))) _
                      · refine V_al0 115 d_Mo_newTrust_114 rfl ?_
                        refine V_il5 117 d_Mo_newTrust_115 rfl ?_
                        refine V_iconst 118 (v := 4) (by decide) d_Mo_newTrust_117 rfl ?_
                        refine V_il1 119 d_Mo_newTrust_118 rfl ?_
                        refine V_il6 121 d_Mo_newTrust_119 rfl ?_
                        refine V_il3 122 d_Mo_newTrust_121 rfl ?_
                        refine V_il7 124 d_Mo_newTrust_122 rfl ?_
                        refine V_cS1 127 (c_Mo_trusts l G _ _ _ _ _ _) ok_Mo_trusts ml_Mo_160 st_Mo_trusts (gRm_ok (by decide) (by decide)) rfl rfl (Nat.le_of_ble_eq_true rfl) d_Mo_newTrust_124 ⟨Nat.le_of_ble_eq_true rfl, Nat.le_of_ble_eq_true rfl⟩ rfl ?_
                        refine V_topi (truM_nI a b r d) ?_
                        refine V_il6 129 d_Mo_newTrust_127 rfl ?_
                        refine V_il2 130 d_Mo_newTrust_129 rfl ?_
                        refine V_il3 131 d_Mo_newTrust_130 rfl ?_
                        refine V_il8 133 d_Mo_newTrust_131 rfl ?_
                        refine V_cS1 136 (c_Mo_trusts l G _ _ _ _ _ _) ok_Mo_trusts ml_Mo_160 st_Mo_trusts (gRm_ok (by decide) (by decide)) rfl rfl (Nat.le_of_ble_eq_true rfl) d_Mo_newTrust_133 ⟨Nat.le_of_ble_eq_true rfl, Nat.le_of_ble_eq_true rfl⟩ rfl ?_
                        refine V_topi (truM_nI b c r e) ?_
                        refine V_cV1 139 (c_Mo_finds l G _ _ hM (truM a c r m) (truM_lt ha hc hr hm) _ _ _) ok_Mo_finds ml_Mo_164 im_Mo_finds se_Mo_finds (lM hM) kc_Mo (gRm_ok (by decide) (by decide)) rfl rfl (Nat.le_of_ble_eq_true rfl) d_Mo_newTrust_136 ⟨Nat.le_of_ble_eq_true rfl, Nat.le_of_ble_eq_true rfl⟩ rfl ?_
                        have e9 := stR_y hz (fstO_y (F := fun z9 => orE (orE (orE (z9) (fstO (nt1D M a c r m b) dd (d + 1))) (fstO (nt1 M a c r m) db (b + 1))) (fstO (nt2 M a c r m) 6 0)) hTe (if_pos ⟨Or.inr hs79, h111⟩))
                        exact V_zret rfl rfl d_Mo_newTrust_139 ⟨by rw [e9], rfl, by rw [e9]⟩
                    · refine V_il8 81 d_Mo_newTrust_79 rfl ?_
                      refine V_il4 83 d_Mo_newTrust_81 rfl ?_
                      refine V_icmp_ne 90 86 d_Mo_newTrust_83 (by decide) rfl (fun _ => ?_) (fun h9 => absurd h9 (fun h => hs79 ((nI_eq (by omega) (by omega)).mp h)))
                      refine V_iconst 91 (v := 0) (by decide) d_Mo_newTrust_90 rfl ?_
                      refine V_is9 93 d_Mo_newTrust_91 (by decide) rfl ?_
                      refine V_il9 95 d_Mo_newTrust_93 rfl ?_
                      refine V_if_eq 140 98 d_Mo_newTrust_95 (by decide) rfl (fun _ => ?_) (fun h9 => absurd rfl h9)
                      refine V_ii8 143 (v := 1) d_Mo_newTrust_140 (by decide) (by decide) rfl ?_
                      refine V_goto 48 d_Mo_newTrust_143 (by decide) ?_
                      rw [nI_1]
                      exact ihe (e + 1) ⟨by omega, by omega⟩ (fstO_n (F := fun z9 => orE (orE (orE (z9) (fstO (nt1D M a c r m b) dd (d + 1))) (fstO (nt1 M a c r m) db (b + 1))) (fstO (nt2 M a c r m) 6 0)) hTe (if_neg (fun h => h.1.elim hs70 hs79))) _
              refine V_il7 40 d_Mo_newTrust_38 rfl ?_
              refine V_iconst 41 (v := 4) (by decide) d_Mo_newTrust_40 rfl ?_
              refine V_icmp_ge 152 44 d_Mo_newTrust_41 (by decide) rfl (fun h9 => absurd h9 (nI_ge (b := 4) hld (by decide))) (fun _ => ?_)
              refine V_il4 46 d_Mo_newTrust_44 rfl ?_
              refine V_is8 48 d_Mo_newTrust_46 (by decide) rfl ?_
              exact lpe (4 - m) m ⟨by omega, by omega⟩ (fstO_p (F := fun z9 => orE (orE (z9) (fstO (nt1 M a c r m) db (b + 1))) (fstO (nt2 M a c r m) 6 0)) hTd (if_pos hk)) _
            · refine V_il7 40 d_Mo_newTrust_38 rfl ?_
              refine V_iconst 41 (v := 4) (by decide) d_Mo_newTrust_40 rfl ?_
              refine V_icmp_ge 152 44 d_Mo_newTrust_41 (by decide) rfl (fun h9 => absurd h9 (nI_ge (b := 4) hld (by decide))) (fun _ => ?_)
              refine V_il4 46 d_Mo_newTrust_44 rfl ?_
              refine V_is8 48 d_Mo_newTrust_46 (by decide) rfl ?_
              refine V_il8 50 d_Mo_newTrust_48 rfl ?_
              refine V_iconst 51 (v := 4) (by decide) d_Mo_newTrust_50 rfl ?_
              refine V_icmp_ge 146 54 d_Mo_newTrust_51 (by decide) rfl (fun h9 => absurd h9 (nI_ge (b := 4) hm (by decide))) (fun _ => ?_)
              refine V_al0 55 d_Mo_newTrust_54 rfl ?_
              refine V_il1 56 d_Mo_newTrust_55 rfl ?_
              refine V_il6 58 d_Mo_newTrust_56 rfl ?_
              refine V_il3 59 d_Mo_newTrust_58 rfl ?_
              refine V_il7 61 d_Mo_newTrust_59 rfl ?_
              refine V_cS1 64 (c_Mo_trusts l G _ _ _ _ _ _) ok_Mo_trusts ml_Mo_160 st_Mo_trusts (gRm_ok (by decide) (by decide)) rfl rfl (Nat.le_of_ble_eq_true rfl) d_Mo_newTrust_61 ⟨Nat.le_of_ble_eq_true rfl, Nat.le_of_ble_eq_true rfl⟩ rfl ?_
              refine V_topi (truM_nI a b r d) ?_
              refine V_cV1 67 (c_Mo_had l G _ _ hM (truM a b r d) (truM_lt ha hlb hr hld)) ok_Mo_had ml_Mo_168 im_Mo_had se_Mo_had (lM hM) kc_Mo (gRm_ok (by decide) (by decide)) rfl rfl (Nat.le_of_ble_eq_true rfl) d_Mo_newTrust_64 ⟨Nat.le_of_ble_eq_true rfl, Nat.le_of_ble_eq_true rfl⟩ rfl ?_
              refine V_bz 146 70 d_Mo_newTrust_67 (by decide) rfl (fun _ => ?_) (fun h9 => absurd h9 hk)
              refine V_ii7 149 (v := 1) d_Mo_newTrust_146 (by decide) (by decide) rfl ?_
              refine V_goto 38 d_Mo_newTrust_149 (by decide) ?_
              rw [nI_1]
              exact ihd (d + 1) ⟨by omega, by omega⟩ (fstO_n (F := fun z9 => orE (orE (z9) (fstO (nt1 M a c r m) db (b + 1))) (fstO (nt2 M a c r m) 6 0)) hTd (if_neg hk)) _ _
        refine V_il6 27 d_Mo_newTrust_25 rfl ?_
        refine V_bipush 29 (v := 6) (by decide) d_Mo_newTrust_27 rfl ?_
        refine V_icmp_ge 158 32 d_Mo_newTrust_29 (by decide) rfl (fun h9 => absurd h9 (nI_ge (b := 6) hlb (by decide))) (fun _ => ?_)
        refine V_il4 34 d_Mo_newTrust_32 rfl ?_
        refine V_iconst 35 (v := 1) (by decide) d_Mo_newTrust_34 rfl ?_
        refine V_iadd 36 d_Mo_newTrust_35 rfl ?_
        refine V_topi (nI_1 m) ?_
        refine V_is7 38 d_Mo_newTrust_36 (by decide) rfl ?_
        exact lpd (3 - m) (m + 1) ⟨by omega, by omega⟩ (fstO_p (F := fun z9 => orE (z9) (fstO (nt2 M a c r m) 6 0)) hTb rfl) _ _
    refine gMet_of (lv := [some (.ref 400), some (.int (nI a)), some (.int (nI c)), some (.int (nI r)), some (.int (nI m)), none, none, none, none, none]) (by decide) rfl (Nat.le_of_ble_eq_true rfl) rfl ?_
    refine V_il1 1 d_Mo_newTrust_0 rfl ?_
    refine V_il2 2 d_Mo_newTrust_1 rfl ?_
    refine V_il3 3 d_Mo_newTrust_2 rfl ?_
    refine V_il4 5 d_Mo_newTrust_3 rfl ?_
    refine V_cS1 8 (c_Mo_trusts l G _ _ _ _ _ _) ok_Mo_trusts ml_Mo_160 st_Mo_trusts (gRm_ok (by decide) (by decide)) rfl rfl (Nat.le_of_ble_eq_true rfl) d_Mo_newTrust_5 ⟨Nat.le_of_ble_eq_true rfl, Nat.le_of_ble_eq_true rfl⟩ rfl ?_
    refine V_topi (truM_nI a c r m) ?_
    refine V_is5 10 d_Mo_newTrust_8 (by decide) rfl ?_
    refine V_al0 11 d_Mo_newTrust_10 rfl ?_
    refine V_getr 14 30 (lM hM) kc_Mo (by decide) fl_Mo_71 (Or.inl rfl) rfl d_Mo_newTrust_11 rfl ?_
    refine V_il5 16 d_Mo_newTrust_14 rfl ?_
    refine V_ialn 17 (truM a c r m) (lM421 hM) rfl (truM_lt ha hc hr hm) (by decide) d_Mo_newTrust_16 rfl ?_
    refine V_if_le 22 20 d_Mo_newTrust_17 (by decide) rfl (fun _ => ?_) (fun h9 => absurd hz h9)
    refine V_iconst 23 (v := 0) (by decide) d_Mo_newTrust_22 rfl ?_
    refine V_is6 25 d_Mo_newTrust_23 (by decide) rfl ?_
    exact lpb 6 0 (by decide) rfl _ _ _
  · refine gMet_of (lv := [some (.ref 400), some (.int (nI a)), some (.int (nI c)), some (.int (nI r)), some (.int (nI m)), none, none, none, none, none]) (by decide) rfl (Nat.le_of_ble_eq_true rfl) rfl ?_
    refine V_il1 1 d_Mo_newTrust_0 rfl ?_
    refine V_il2 2 d_Mo_newTrust_1 rfl ?_
    refine V_il3 3 d_Mo_newTrust_2 rfl ?_
    refine V_il4 5 d_Mo_newTrust_3 rfl ?_
    refine V_cS1 8 (c_Mo_trusts l G _ _ _ _ _ _) ok_Mo_trusts ml_Mo_160 st_Mo_trusts (gRm_ok (by decide) (by decide)) rfl rfl (Nat.le_of_ble_eq_true rfl) d_Mo_newTrust_5 ⟨Nat.le_of_ble_eq_true rfl, Nat.le_of_ble_eq_true rfl⟩ rfl ?_
    refine V_topi (truM_nI a c r m) ?_
    refine V_is5 10 d_Mo_newTrust_8 (by decide) rfl ?_
    refine V_al0 11 d_Mo_newTrust_10 rfl ?_
    refine V_getr 14 30 (lM hM) kc_Mo (by decide) fl_Mo_71 (Or.inl rfl) rfl d_Mo_newTrust_11 rfl ?_
    refine V_il5 16 d_Mo_newTrust_14 rfl ?_
    refine V_ialn 17 (truM a c r m) (lM421 hM) rfl (truM_lt ha hc hr hm) (by decide) d_Mo_newTrust_16 rfl ?_
    refine V_if_le 22 20 d_Mo_newTrust_17 (by decide) rfl (fun h9 => absurd h9 hz) (fun _ => ?_)
    refine V_iconst 21 (v := 0) (by decide) d_Mo_newTrust_20 rfl ?_
    exact V_zret rfl rfl d_Mo_newTrust_21 ⟨by rw [stR_h hz], rfl, by rw [stR_h hz]⟩

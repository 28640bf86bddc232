/-! the reference: proof -/
theorem itN_iv {f : Nat → gMe → gMe} {I : gMe → Prop} (h : ∀ k M, I M → I (f k M)) : ∀ (d k : Nat) (M : gMe), I M → I (itN f d k M)
  | 0, _, _, hq => hq
  | d + 1, k, M, hq => itN_iv h d (k + 1) (f k M) (h k M hq)
/-- all but the found facts is kept -/
def gKq (M M' : gMe) : Prop := ∀ b, (b < 421 ∨ 425 ≤ b) → M' b = M b
theorem gKq.tr {M M1 M2 : gMe} (h : gKq M M1) (h2 : gKq M1 M2) : gKq M M2 := fun b hb => (h2 b hb).trans (h b hb)
theorem mFd_kq {M : gMe} {f : Nat} {u x z : Int32} : gKq M (mFd M f u x z) := fun b hb => by
  unfold mFd
  rw [gst_ne _ _ _ _ (by omega), gst_ne _ _ _ _ (by omega), gst_ne _ _ _ _ (by omega), gst_ne _ _ _ _ (by omega)]
theorem sdX_kq {K : Nat → Nat → Nat} {o n : Nat} {M : gMe} : gKq M (sdX K o n M) := by
  unfold sdX
  split
  · split
    · split
      · exact mFd_kq
      · exact fun _ _ => rfl
    · exact fun _ _ => rfl
  · exact fun _ _ => rfl
theorem sdM_kq {K : Nat → Nat → Nat} {o c : Nat} {M : gMe} : gKq M (sdM K o c M) := itN_iv (I := gKq M) (fun _ _ h => h.tr sdX_kq) c 1 M (fun _ _ => rfl)
/-- all but the found facts and the round's number is kept -/
def gKn (M1 : gMe) (n : Nat) (M' : gMe) : Prop := gKq (gst M1 400 36 (nI n)) M'
theorem gKn.now {M1 M' : gMe} {n : Nat} (h : gKn M1 n M') : M' 400 36 = nI n := by rw [h 400 (by decide), gst_same]; simp [upd]
theorem gKn.fl {M1 M' : gMe} {n k : Nat} (h : gKn M1 n M') (hk : k ≠ 36) : M' 400 k = M1 400 k := by rw [h 400 (by decide), gst_same]; simp [upd, hk]
theorem gKn.ar {M1 M' : gMe} {n b : Nat} (h : gKn M1 n M') (hb : b < 421 ∨ 425 ≤ b) (h4 : b ≠ 400) : M' b = M1 b := by rw [h b hb, gst_ne _ _ _ _ h4]
theorem gKn.go {M1 M' : gMe} {n c : Nat} {K : Nat → Nat → Nat} (h : gKn M1 n M') (hn : n < 2000) : gKn M1 (n + 1) (goR K c M').2 := by
  have hn' : ¬ (M' 400 36 + 1) ≤ 0 := by rw [h.now, nI_1]; exact nI_nle (by omega) (by omega)
  obtain ⟨-, -, -, h4⟩ := goR_ok (K := K) (c := c) hn'
  intro b hb
  rw [h4 b hb]
  by_cases h0 : b = 400
  · subst h0
    funext j
    rw [gst_at, if_pos rfl, gst_at, if_pos rfl, h.now, nI_1]
    by_cases hj : j = 36
    · rw [if_pos hj, if_pos hj]
    · rw [if_neg hj, if_neg hj]; exact h.fl hj
  · rw [gst_ne _ _ _ _ h0, gst_ne _ _ _ _ h0]; exact h.ar hb h0
theorem gKn.pm {M1 M' : gMe} {n : Nat} (h : gKn M1 n M') : gPm M1 M' := ⟨fun b h1 h2 => h.ar (by omega) h1, fun k _ h2 _ => h.fl h2⟩
theorem pfL_kn {K : Nat → Nat → Nat} {c : Nat} {M1 : gMe} : ∀ (d n : Nat) (M' : gMe), n + d < 2000 → gKn M1 n M' → ∃ n', n' ≤ n + d ∧ gKn M1 n' (pfL K c d M')
  | 0, n, M', _, h => ⟨n, by omega, h⟩
  | d + 1, n, M', hd, h => by
    unfold pfL
    split
    · exact ⟨n + 1, by omega, h.go (by omega)⟩
    · obtain ⟨n', h1, h2⟩ := pfL_kn d (n + 1) _ (by omega) (h.go (K := K) (c := c) (by omega))
      exact ⟨n', by omega, h2⟩
def pfA (M : gMe) (o : Nat) : gMe := gst (pfI (gst M 400 37 (nI o)) 756) 400 36 1
def pfS (K : Nat → Nat → Nat) (o c : Nat) (M : gMe) : gMe := sdM K o c (pfA M o)
def pfW (K : Nat → Nat → Nat) (o c : Nat) (M : gMe) : gMe := gst (pfL K c 757 (pfS K o c M)) 400 22 0
def pfT (K : Nat → Nat → Nat) (o c g : Nat) (M : gMe) : gMe := if pfW K o c M 421 g = 0 then pfW K o c M else dfM 759 0 (gst (pfW K o c M) 426 0 (nI g)) g
def pfN (K : Nat → Nat → Nat) (o c g : Nat) (M : gMe) : Int32 := if pfW K o c M 421 g = 0 then 0 else pfT K o c g M 400 22
theorem pfI_pm {M : gMe} {k : Nat} : gPm M (pfI M k) := by
  refine ⟨fun b h1 h2 => ?_, fun j _ _ _ => ?_⟩
  · funext j; unfold pfI; rw [mfill_at, if_neg (by omega), mfill_at, if_neg (by omega)]
  · unfold pfI; rw [mfill_at, if_neg (by decide), mfill_at, if_neg (by decide)]
theorem pfA_pm {M : gMe} {o : Nat} : gPm M (pfA M o) := (gPm.fl (by decide)).tr (pfI_pm.tr (gPm.fl (by decide)))
theorem pfA_37 {M : gMe} {o : Nat} : pfA M o 400 37 = nI o := by
  unfold pfA pfI
  rw [gst_at, if_pos rfl, if_neg (by decide), mfill_at, if_neg (by decide), mfill_at, if_neg (by decide), gst_at, if_pos rfl, if_pos rfl]
theorem pfA_425 {M : gMe} {o i : Nat} (hi : i < 756) : pfA M o 425 i = -1 := by
  unfold pfA pfI
  rw [gst_ne _ _ _ _ (by decide), mfill_at, if_pos rfl, if_pos hi]
theorem pfS_kn {K : Nat → Nat → Nat} {o c : Nat} {M : gMe} : gKn (pfA M o) 1 (pfS K o c M) := by
  have h : gst (pfA M o) 400 36 (nI 1) = pfA M o := by
    have e : pfA M o 400 36 = nI 1 := by unfold pfA; rw [gst_at, if_pos rfl, if_pos rfl]; rfl
    rw [← e]; exact gst_self _ _ _
  unfold gKn
  rw [h]
  exact sdM_kq
theorem pfW_kn {K : Nat → Nat → Nat} {o c : Nat} {M : gMe} : (∀ i, i < 756 → pfW K o c M 425 i = -1) ∧ pfW K o c M 400 22 = 0 ∧ gPm M (pfW K o c M) := by
  obtain ⟨n', -, h⟩ := pfL_kn (K := K) (c := c) 757 1 _ (by decide) (pfS_kn (K := K) (o := o) (c := c) (M := M))
  refine ⟨fun i hi => ?_, ?_, (pfA_pm.tr h.pm).tr (gPm.fl (by decide))⟩
  · unfold pfW
    rw [gst_ne _ _ _ _ (by decide), h.ar (by decide) (by decide)]
    exact pfA_425 hi
  · unfold pfW
    rw [gst_same]; simp [upd]
theorem cntB_0 {p : Nat → Bool} : ∀ n, (∀ i, i < n → ¬ p i = true) → cntB p n = 0
  | 0, _ => rfl
  | n + 1, h => by
    show cntB p n + (if p n = true then 1 else 0) = 0
    rw [cntB_0 n (fun i hi => h i (by omega)), if_neg (h n (by omega))]
theorem pfW_md {K : Nat → Nat → Nat} {o c : Nat} {M : gMe} : gMd (pfW K o c M) := by
  obtain ⟨h1, h2, -⟩ := pfW_kn (K := K) (o := o) (c := c) (M := M)
  exact ⟨0, h2, cntB_0 756 (fun i hi => by rw [h1 i hi]; decide)⟩
set_option maxRecDepth 100000 in
set_option maxHeartbeats 4000000 in
theorem c_Mo_proof (l : Launch) (G : gG) (L : gLy) (M : gMe) (hM : gLM L) (c : Nat) (hcm : M 400 10 = nI c) (hc : c < 25) (K : Nat → Nat → Nat) (hK : gMW M c K) (o : Nat) (ho : o < 6) (g : Nat) (hg : g < 756) (S : Nat → Prop) (rk : Nat → Nat) (hR : gRk (pfW K o c M) S rk) (hSg : ¬ pfW K o c M 421 g = 0 → S g) (hrk : rk g < 759) : gMet l G y_Mo_proof b_Mo_proof 7 (some FieldType.int) (rmL 5 0 0) [.ref 400, .int (nI o), .int (nI g)] L M gAll (gPo (some (.int (pfN K o c g M))) L (pfT K o c g M)) 0 0 := by
  have qp : ∀ (k x : Nat) (M' : gMe) (f : Nat), S f → gRk M' S rk → ¬ 0 ≤ M' 425 f → M' 426 k = nI f → k < 760 → ndR M' f = nI x → x < 756 → k + 1 < 760 → (∀ z3 z5 z6 : Option Value, V l G y_Mo_proof b_Mo_proof 7 (some FieldType.int) (rmL 5 0 0) 0 0 gAll (gPo (some (.int (pfN K o c g M))) L (pfT K o c g M)) L (gst M' 426 (k + 1) (nI x)) 0 0 [some (.ref 400), some (.int (nI o)), some (.int (nI g)), z3, some (.int (nI (k + 1 + 1))), z5, z6] 83 []) → ∀ z3 z5 z6 : Option Value, V l G y_Mo_proof b_Mo_proof 7 (some FieldType.int) (rmL 5 0 0) 0 0 gAll (gPo (some (.int (pfN K o c g M))) L (pfT K o c g M)) L (M') 0 0 [some (.ref 400), some (.int (nI o)), some (.int (nI g)), z3, some (.int (nI (k + 1))), z5, z6] 83 [] := by
    intro k x M' f hS hR' hu hk hk7 hnd hx hk1 kk z3 z5 z6
    refine V_il4 85 d_Mo_proof_83 rfl ?_
    refine V_if_le 139 88 d_Mo_proof_85 (by decide) rfl (fun h9 => absurd h9 (nI_nle (by omega) (by omega))) (fun _ => ?_)
    refine V_al0 89 d_Mo_proof_88 rfl ?_
    refine V_getr 92 35 (lM hM) kc_Mo (by decide) fl_Mo_86 (Or.inl rfl) rfl d_Mo_proof_89 rfl ?_
    refine V_il4 94 d_Mo_proof_92 rfl ?_
    refine V_iconst 95 (v := 1) (by decide) d_Mo_proof_94 rfl ?_
    refine V_isub 96 d_Mo_proof_95 rfl ?_
    refine V_topi (nI_pred k) ?_
    refine V_ialn 97 (k) (lM426 hM) rfl hk7 (by decide) d_Mo_proof_96 rfl ?_
    refine V_topi hk ?_
    refine V_is5 99 d_Mo_proof_97 (by decide) rfl ?_
    refine V_al0 100 d_Mo_proof_99 rfl ?_
    refine V_il5 102 d_Mo_proof_100 rfl ?_
    refine V_cV1 105 (c_Mo_needed l G _ _ hM S rk hR' f hS) ok_Mo_needed ml_Mo_190 im_Mo_needed se_Mo_needed (lM hM) kc_Mo (gRm_ok (by decide) (by decide)) rfl rfl (Nat.le_of_ble_eq_true rfl) d_Mo_proof_102 ⟨Nat.le_of_ble_eq_true rfl, Nat.le_of_ble_eq_true rfl⟩ rfl ?_
    refine V_topi hnd ?_
    refine V_is6 107 d_Mo_proof_105 (by decide) rfl ?_
    refine V_il6 109 d_Mo_proof_107 rfl ?_
    refine V_if_lt 127 112 d_Mo_proof_109 (by decide) rfl (fun h9 => absurd h9 (nI_pos (by omega))) (fun _ => ?_)
    refine V_al0 113 d_Mo_proof_112 rfl ?_
    refine V_getr 116 35 (lM hM) kc_Mo (by decide) fl_Mo_86 (Or.inl rfl) rfl d_Mo_proof_113 rfl ?_
    refine V_il4 118 d_Mo_proof_116 rfl ?_
    refine V_il6 120 d_Mo_proof_118 rfl ?_
    refine V_iasn 121 ((k + 1)) (lM426 hM) rfl hk1 (by decide) d_Mo_proof_120 rfl ?_
    refine V_ii4 124 (v := 1) d_Mo_proof_121 (by decide) (by decide) rfl ?_
    refine V_goto 136 d_Mo_proof_124 (by decide) ?_
    refine V_goto 83 d_Mo_proof_136 (by decide) ?_
    rw [nI_1]
    exact kk _ _ _
  have qn : ∀ (k n : Nat) (M' : gMe) (f : Nat), S f → gRk M' S rk → ¬ 0 ≤ M' 425 f → M' 426 k = nI f → k < 760 → ndR M' f = -1 → M' 400 22 = nI n → n < 756 → (∀ z3 z5 z6 : Option Value, V l G y_Mo_proof b_Mo_proof 7 (some FieldType.int) (rmL 5 0 0) 0 0 gAll (gPo (some (.int (pfN K o c g M))) L (pfT K o c g M)) L (mNt M' f n) 0 0 [some (.ref 400), some (.int (nI o)), some (.int (nI g)), z3, some (.int (nI k)), z5, z6] 83 []) → ∀ z3 z5 z6 : Option Value, V l G y_Mo_proof b_Mo_proof 7 (some FieldType.int) (rmL 5 0 0) 0 0 gAll (gPo (some (.int (pfN K o c g M))) L (pfT K o c g M)) L (M') 0 0 [some (.ref 400), some (.int (nI o)), some (.int (nI g)), z3, some (.int (nI (k + 1))), z5, z6] 83 [] := by
    intro k n M' f hS hR' hu hk hk7 hnd hn hn7 kk z3 z5 z6
    refine V_il4 85 d_Mo_proof_83 rfl ?_
    refine V_if_le 139 88 d_Mo_proof_85 (by decide) rfl (fun h9 => absurd h9 (nI_nle (by omega) (by omega))) (fun _ => ?_)
    refine V_al0 89 d_Mo_proof_88 rfl ?_
    refine V_getr 92 35 (lM hM) kc_Mo (by decide) fl_Mo_86 (Or.inl rfl) rfl d_Mo_proof_89 rfl ?_
    refine V_il4 94 d_Mo_proof_92 rfl ?_
    refine V_iconst 95 (v := 1) (by decide) d_Mo_proof_94 rfl ?_
    refine V_isub 96 d_Mo_proof_95 rfl ?_
    refine V_topi (nI_pred k) ?_
    refine V_ialn 97 (k) (lM426 hM) rfl hk7 (by decide) d_Mo_proof_96 rfl ?_
    refine V_topi hk ?_
    refine V_is5 99 d_Mo_proof_97 (by decide) rfl ?_
    refine V_al0 100 d_Mo_proof_99 rfl ?_
    refine V_il5 102 d_Mo_proof_100 rfl ?_
    refine V_cV1 105 (c_Mo_needed l G _ _ hM S rk hR' f hS) ok_Mo_needed ml_Mo_190 im_Mo_needed se_Mo_needed (lM hM) kc_Mo (gRm_ok (by decide) (by decide)) rfl rfl (Nat.le_of_ble_eq_true rfl) d_Mo_proof_102 ⟨Nat.le_of_ble_eq_true rfl, Nat.le_of_ble_eq_true rfl⟩ rfl ?_
    refine V_topi hnd ?_
    refine V_is6 107 d_Mo_proof_105 (by decide) rfl ?_
    refine V_il6 109 d_Mo_proof_107 rfl ?_
    refine V_if_lt 127 112 d_Mo_proof_109 (by decide) rfl (fun _ => ?_) (fun h9 => absurd (show (-1 : Int32) < 0 by decide) h9)
    refine V_ii4 130 (v := (-1)) d_Mo_proof_127 (by decide) (by decide) rfl ?_
    rw [show nI (k + 1) + (-1) = nI k by rw [← nI_pred k, Int32.sub_eq_add_neg]]
    refine V_al0 131 d_Mo_proof_130 rfl ?_
    refine V_il5 133 d_Mo_proof_131 rfl ?_
    refine V_cV0 136 (c_Mo_note l G _ _ hM S rk hR' f hS n hn (by omega) hu) ok_Mo_note ml_Mo_193 im_Mo_note se_Mo_note (lM hM) kc_Mo (gRm_ok (by decide) (by decide)) rfl rfl (Nat.le_of_ble_eq_true rfl) d_Mo_proof_133 ⟨Nat.le_of_ble_eq_true rfl, Nat.le_of_ble_eq_true rfl⟩ rfl ?_
    refine V_goto 83 d_Mo_proof_136 (by decide) ?_
    exact kk _ _ _
  have q3 : ∀ (k : Nat) (M' : gMe) (f : Nat), S f → gRk M' S rk → gMd M' → ¬ 0 ≤ M' 425 f → M' 426 k = nI f → k < 760 → ¬ nd1 M' f → ¬ nd2 M' f → (∀ z3 z5 z6 : Option Value, V l G y_Mo_proof b_Mo_proof 7 (some FieldType.int) (rmL 5 0 0) 0 0 gAll (gPo (some (.int (pfN K o c g M))) L (pfT K o c g M)) L (mNt M' f (M' 400 22).toNatClampNeg) 0 0 [some (.ref 400), some (.int (nI o)), some (.int (nI g)), z3, some (.int (nI k)), z5, z6] 83 []) → ∀ z3 z5 z6 : Option Value, V l G y_Mo_proof b_Mo_proof 7 (some FieldType.int) (rmL 5 0 0) 0 0 gAll (gPo (some (.int (pfN K o c g M))) L (pfT K o c g M)) L (M') 0 0 [some (.ref 400), some (.int (nI o)), some (.int (nI g)), z3, some (.int (nI (k + 1))), z5, z6] 83 [] := by
    intro k M' f hS hR' hm hu hk hk7 n1 n2 kk
    obtain ⟨n, c1, c2, c3, -⟩ := hm.lt (hR' f hS).1 hu
    rw [c3] at kk
    exact qn k n M' f hS hR' hu hk hk7 (by rw [ndR, if_neg n1, if_neg n2]) c1 c2 kk
  have q2 : ∀ (e : Nat), (∀ (k : Nat) (M' : gMe) (f : Nat), rk f < e → S f → gRk M' S rk → gMd M' → ¬ 0 ≤ M' 425 f → M' 426 k = nI f → k + rk f < 760 → (∀ z3 z5 z6 : Option Value, V l G y_Mo_proof b_Mo_proof 7 (some FieldType.int) (rmL 5 0 0) 0 0 gAll (gPo (some (.int (pfN K o c g M))) L (pfT K o c g M)) L (dfM e k M' f) 0 0 [some (.ref 400), some (.int (nI o)), some (.int (nI g)), z3, some (.int (nI k)), z5, z6] 83 []) → ∀ z3 z5 z6 : Option Value, V l G y_Mo_proof b_Mo_proof 7 (some FieldType.int) (rmL 5 0 0) 0 0 gAll (gPo (some (.int (pfN K o c g M))) L (pfT K o c g M)) L (M') 0 0 [some (.ref 400), some (.int (nI o)), some (.int (nI g)), z3, some (.int (nI (k + 1))), z5, z6] 83 []) → ∀ (k : Nat) (M' : gMe) (f : Nat), rk f < e + 1 → S f → gRk M' S rk → gMd M' → ¬ 0 ≤ M' 425 f → M' 426 k = nI f → k + rk f < 760 → ¬ nd1 M' f → (∀ z3 z5 z6 : Option Value, V l G y_Mo_proof b_Mo_proof 7 (some FieldType.int) (rmL 5 0 0) 0 0 gAll (gPo (some (.int (pfN K o c g M))) L (pfT K o c g M)) L (dfM (e + 1) k M' f) 0 0 [some (.ref 400), some (.int (nI o)), some (.int (nI g)), z3, some (.int (nI k)), z5, z6] 83 []) → ∀ z3 z5 z6 : Option Value, V l G y_Mo_proof b_Mo_proof 7 (some FieldType.int) (rmL 5 0 0) 0 0 gAll (gPo (some (.int (pfN K o c g M))) L (pfT K o c g M)) L (M') 0 0 [some (.ref 400), some (.int (nI o)), some (.int (nI g)), z3, some (.int (nI (k + 1))), z5, z6] 83 [] := by
    intro e ih k M' f hrk' hS hR' hm hu hk hk7 n1 kk
    obtain ⟨hf, -, hZ, -, -⟩ := hR' f hS
    have kk' : ∀ z3 z5 z6 : Option Value, V l G y_Mo_proof b_Mo_proof 7 (some FieldType.int) (rmL 5 0 0) 0 0 gAll (gPo (some (.int (pfN K o c g M))) L (pfT K o c g M)) L (mNt (if nd2 M' f then dfM e (k + 1) (gst M' 426 (k + 1) (M' 424 f)) (M' 424 f).toNatClampNeg else M') f ((if nd2 M' f then dfM e (k + 1) (gst M' 426 (k + 1) (M' 424 f)) (M' 424 f).toNatClampNeg else M') 400 22).toNatClampNeg) 0 0 [some (.ref 400), some (.int (nI o)), some (.int (nI g)), z3, some (.int (nI k)), z5, z6] 83 [] := by
      have e0 : dfM (e + 1) k M' f = mNt (if nd2 M' f then dfM e (k + 1) (gst M' 426 (k + 1) (M' 424 f)) (M' 424 f).toNatClampNeg else M') f ((if nd2 M' f then dfM e (k + 1) (gst M' 426 (k + 1) (M' 424 f)) (M' 424 f).toNatClampNeg else M') 400 22).toNatClampNeg := by
        show (let A := if nd1 M' f then dfM e (k + 1) (gst M' 426 (k + 1) (M' 423 f)) (M' 423 f).toNatClampNeg else M'
          let C := if nd2 A f then dfM e (k + 1) (gst A 426 (k + 1) (A 424 f)) (A 424 f).toNatClampNeg else A
          mNt C f (C 400 22).toNatClampNeg) = _
        rw [if_neg n1]
      rw [← e0]; exact kk
    by_cases n2 : nd2 M' f
    · rw [if_pos n2] at kk'
      obtain ⟨z, ez, hSz, hrz⟩ := hZ n2.1
      have hz := (hR' z hSz).1
      have cz : (M' 424 f).toNatClampNeg = z := by rw [ez]; exact nI_clamp (by omega)
      rw [cz, ez] at kk'
      have huz : ¬ 0 ≤ (gst M' 426 (k + 1) (nI z)) 425 z := by rw [gst_ne _ _ _ _ (by decide), ← cz]; exact n2.2
      have hRz : gRk (gst M' 426 (k + 1) (nI z)) S rk := hR'.mv gDk.sk
      have hmz : gMd (gst M' 426 (k + 1) (nI z)) := hm.sk
      obtain ⟨g1, g2, g3, g4, g5⟩ := dfM_ok e (k + 1) (gst M' 426 (k + 1) (nI z)) z (by omega) hSz hRz hmz huz
      have d12 : gDk M' (dfM e (k + 1) (gst M' 426 (k + 1) (nI z)) z) := gDk.sk.tr g1
      refine qp k z M' f hS hR' hu hk (by omega) (by rw [ndR, if_neg n1, if_pos n2, ez]) hz (by omega) ?_
      refine ih (k + 1) (gst M' 426 (k + 1) (nI z)) z (by omega) hSz hRz hmz huz (by rw [gst_same]; simp [upd]) (by omega) ?_
      have hu2 : ¬ 0 ≤ (dfM e (k + 1) (gst M' 426 (k + 1) (nI z)) z) 425 f := fun h => by
        have := g5 f (by rw [gst_ne _ _ _ _ (by decide)]; exact hu) h
        omega
      have e22 : (dfM e (k + 1) (gst M' 426 (k + 1) (nI z)) z) 422 f = M' 422 f := by rw [d12.1 422 (by decide) (by decide) (by decide) (by decide)]
      have e23 : (dfM e (k + 1) (gst M' 426 (k + 1) (nI z)) z) 423 f = M' 423 f := by rw [d12.1 423 (by decide) (by decide) (by decide) (by decide)]
      have e24 : (dfM e (k + 1) (gst M' 426 (k + 1) (nI z)) z) 424 f = nI z := by rw [d12.1 424 (by decide) (by decide) (by decide) (by decide), ez]
      refine q3 k _ f hS (hR'.mv d12) g2 hu2 ?_ (by omega) ?_ ?_ kk'
      · rw [g4 k (by omega), gst_at, if_pos rfl, if_neg (by omega)]; exact hk
      · rintro ⟨a1, a2, a3⟩
        rw [e22] at a1 a2
        rw [e23] at a3
        refine n1 ⟨a1, a2, fun h => a3 ?_⟩
        rw [d12.2.2 _ h]; exact h
      · rintro ⟨a1, a2⟩
        rw [e24, nI_clamp (by omega)] at a2
        exact a2 g3
    · rw [if_neg n2] at kk'
      exact q3 k M' f hS hR' hm hu hk (by omega) n1 n2 kk'
  have qs : ∀ (e k : Nat) (M' : gMe) (f : Nat), rk f < e → S f → gRk M' S rk → gMd M' → ¬ 0 ≤ M' 425 f → M' 426 k = nI f → k + rk f < 760 → (∀ z3 z5 z6 : Option Value, V l G y_Mo_proof b_Mo_proof 7 (some FieldType.int) (rmL 5 0 0) 0 0 gAll (gPo (some (.int (pfN K o c g M))) L (pfT K o c g M)) L (dfM e k M' f) 0 0 [some (.ref 400), some (.int (nI o)), some (.int (nI g)), z3, some (.int (nI k)), z5, z6] 83 []) → ∀ z3 z5 z6 : Option Value, V l G y_Mo_proof b_Mo_proof 7 (some FieldType.int) (rmL 5 0 0) 0 0 gAll (gPo (some (.int (pfN K o c g M))) L (pfT K o c g M)) L (M') 0 0 [some (.ref 400), some (.int (nI o)), some (.int (nI g)), z3, some (.int (nI (k + 1))), z5, z6] 83 [] := by
    intro e
    induction e with
    | zero => intro k M' f h; omega
    | succ e ih =>
      intro k M' f hrk' hS hR' hm hu hk hk7 kk
      obtain ⟨hf, hX, -, -, -⟩ := hR' f hS
      by_cases n1 : nd1 M' f
      · obtain ⟨x, ex, hSx, hrx⟩ := hX n1.1 n1.2.1
        have hx := (hR' x hSx).1
        have cx : (M' 423 f).toNatClampNeg = x := by rw [ex]; exact nI_clamp (by omega)
        have hux : ¬ 0 ≤ (gst M' 426 (k + 1) (nI x)) 425 x := by rw [gst_ne _ _ _ _ (by decide), ← cx]; exact n1.2.2
        have hRx : gRk (gst M' 426 (k + 1) (nI x)) S rk := hR'.mv gDk.sk
        have hmx : gMd (gst M' 426 (k + 1) (nI x)) := hm.sk
        obtain ⟨g1, g2, g3, g4, g5⟩ := dfM_ok e (k + 1) (gst M' 426 (k + 1) (nI x)) x (by omega) hSx hRx hmx hux
        have d12 : gDk M' (dfM e (k + 1) (gst M' 426 (k + 1) (nI x)) x) := gDk.sk.tr g1
        have hu2 : ¬ 0 ≤ (dfM e (k + 1) (gst M' 426 (k + 1) (nI x)) x) 425 f := fun h => by
          have := g5 f (by rw [gst_ne _ _ _ _ (by decide)]; exact hu) h
          omega
        have n1' : ¬ nd1 (dfM e (k + 1) (gst M' 426 (k + 1) (nI x)) x) f := by
          rintro ⟨a1, a2, a3⟩
          rw [d12.1 423 (by decide) (by decide) (by decide) (by decide), cx] at a3
          exact a3 g3
        refine qp k x M' f hS hR' hu hk (by omega) (by rw [ndR, if_pos n1, ex]) hx (by omega) ?_
        refine ih (k + 1) (gst M' 426 (k + 1) (nI x)) x (by omega) hSx hRx hmx hux (by rw [gst_same]; simp [upd]) (by omega) ?_
        refine q2 e ih k _ f hrk' hS (hR'.mv d12) g2 hu2 ?_ hk7 n1' ?_
        · rw [g4 k (by omega), gst_at, if_pos rfl, if_neg (by omega)]; exact hk
        · have e0 : dfM (e + 1) k (dfM e (k + 1) (gst M' 426 (k + 1) (nI x)) x) f = dfM (e + 1) k M' f := by
            show (let A := if nd1 (dfM e (k + 1) (gst M' 426 (k + 1) (nI x)) x) f then dfM e (k + 1) (gst (dfM e (k + 1) (gst M' 426 (k + 1) (nI x)) x) 426 (k + 1) ((dfM e (k + 1) (gst M' 426 (k + 1) (nI x)) x) 423 f)) ((dfM e (k + 1) (gst M' 426 (k + 1) (nI x)) x) 423 f).toNatClampNeg else (dfM e (k + 1) (gst M' 426 (k + 1) (nI x)) x)
              let C := if nd2 A f then dfM e (k + 1) (gst A 426 (k + 1) (A 424 f)) (A 424 f).toNatClampNeg else A
              mNt C f (C 400 22).toNatClampNeg) = (let A := if nd1 M' f then dfM e (k + 1) (gst M' 426 (k + 1) (M' 423 f)) (M' 423 f).toNatClampNeg else M'
              let C := if nd2 A f then dfM e (k + 1) (gst A 426 (k + 1) (A 424 f)) (A 424 f).toNatClampNeg else A
              mNt C f (C 400 22).toNatClampNeg)
            rw [if_neg n1', if_pos n1, cx, ex]
          rw [e0]; exact kk
      · exact q2 e ih k M' f hrk' hS hR' hm hu hk hk7 n1 kk
  have q57 : ∀ s z4 z5 z6 : Option Value, V l G y_Mo_proof b_Mo_proof 7 (some FieldType.int) (rmL 5 0 0) 0 0 gAll (gPo (some (.int (pfN K o c g M))) L (pfT K o c g M)) L (pfL K c 757 (pfS K o c M)) 0 0 [some (.ref 400), some (.int (nI o)), some (.int (nI g)), s, z4, z5, z6] 57 [] := by
    intro s z4 z5 z6
    refine V_al0 58 d_Mo_proof_57 rfl ?_
    refine V_iconst 59 (v := 0) (by decide) d_Mo_proof_58 rfl ?_
    refine V_puti 62 22 (lM hM) kc_Mo (by decide) fl_Mo_187 (Or.inl rfl) rfl rfl rfl rfl d_Mo_proof_59 rfl ?_
    refine V_al0 63 d_Mo_proof_62 rfl ?_
    refine V_getr 66 30 (lM hM) kc_Mo (by decide) fl_Mo_71 (Or.inl rfl) rfl d_Mo_proof_63 rfl ?_
    refine V_il2 67 d_Mo_proof_66 rfl ?_
    refine V_ialn 68 (g) (lM421 hM) rfl hg (by decide) d_Mo_proof_67 rfl ?_
    refine V_if_ne 73 71 d_Mo_proof_68 (by decide) rfl (fun h68 => ?_) (fun h68 => ?_)
    · refine V_iconst 74 (v := 1) (by decide) d_Mo_proof_73 rfl ?_
      refine V_is4 76 d_Mo_proof_74 (by decide) rfl ?_
      refine V_al0 77 d_Mo_proof_76 rfl ?_
      refine V_getr 80 35 (lM hM) kc_Mo (by decide) fl_Mo_86 (Or.inl rfl) rfl d_Mo_proof_77 rfl ?_
      refine V_iconst 81 (v := 0) (by decide) d_Mo_proof_80 rfl ?_
      refine V_il2 82 d_Mo_proof_81 rfl ?_
      refine V_iasn 83 (0) (lM426 hM) nI_0.symm (by decide) (by decide) d_Mo_proof_82 rfl ?_
      obtain ⟨w1, w2, w3⟩ := pfW_kn (K := K) (o := o) (c := c) (M := M)
      have hSg' := hSg h68
      have e5 : pfT K o c g M = dfM 759 0 (gst (pfW K o c M) 426 0 (nI g)) g := by rw [pfT, if_neg (show ¬ pfW K o c M 421 g = 0 from h68)]
      refine qs 759 0 (gst (pfW K o c M) 426 0 (nI g)) g hrk hSg' (hR.mv gDk.sk) pfW_md.sk (by rw [gst_ne _ _ _ _ (by decide), w1 g hg]; decide) (by rw [gst_same]; simp [upd]) (by omega) ?_ _ _ _
      intro z3 z5 z6
      rw [← e5]
      refine V_il4 85 d_Mo_proof_83 rfl ?_
      refine V_if_le 139 88 d_Mo_proof_85 (by decide) rfl (fun _ => ?_) (fun h9 => absurd (show (0 : Int32) ≤ 0 by decide) h9)
      refine V_al0 140 d_Mo_proof_139 rfl ?_
      refine V_geti 143 22 (lM hM) kc_Mo (by decide) fl_Mo_187 (Or.inl rfl) rfl d_Mo_proof_140 rfl ?_
      exact V_iret rfl d_Mo_proof_143 ⟨by rw [pfN, if_neg (show ¬ pfW K o c M 421 g = 0 from h68)], rfl, rfl⟩
    · refine V_iconst 72 (v := 0) (by decide) d_Mo_proof_71 rfl ?_
      exact V_iret rfl d_Mo_proof_72 ⟨by rw [pfN, if_pos (show pfW K o c M 421 g = 0 from h68)], rfl, by rw [pfT, if_pos (show pfW K o c M 421 g = 0 from h68)]; rfl⟩
  have hA : gPm M (pfA M o) := pfA_pm
  have q45 : ∀ (d n : Nat) (s : Int32) (M' : gMe), ¬ s = 0 → n + d ≤ 760 → unf M' < d → gKn (pfA M o) n M' → pfL K c d M' = pfL K c 757 (pfS K o c M) → ∀ z4 z5 z6 : Option Value, V l G y_Mo_proof b_Mo_proof 7 (some FieldType.int) (rmL 5 0 0) 0 0 gAll (gPo (some (.int (pfN K o c g M))) L (pfT K o c g M)) L (M') 0 0 [some (.ref 400), some (.int (nI o)), some (.int (nI g)), some (.int s), z4, z5, z6] 45 [] := by
    intro d
    induction d with
    | zero => intro n s M' _ _ h; omega
    | succ d ih =>
      intro n s M' hs hn hd hkn hT z4 z5 z6
      have hpm : gPm M M' := hA.tr hkn.pm
      refine V_il3 46 d_Mo_proof_45 rfl ?_
      refine V_if_eq 57 49 d_Mo_proof_46 (by decide) rfl (fun h9 => absurd h9 hs) (fun _ => ?_)
      refine V_al0 50 d_Mo_proof_49 rfl ?_
      refine V_cV1 53 (c_Mo_goesOn l G _ _ hM c (by rw [hpm.2 10 (by decide) (by decide) (by decide)]; exact hcm) hc K (hK.mv hpm)) ok_Mo_goesOn ml_Mo_184 im_Mo_goesOn se_Mo_goesOn (lM hM) kc_Mo (gRm_ok (by decide) (by decide)) rfl rfl (Nat.le_of_ble_eq_true rfl) d_Mo_proof_50 ⟨Nat.le_of_ble_eq_true rfl, Nat.le_of_ble_eq_true rfl⟩ rfl ?_
      refine V_is3 54 d_Mo_proof_53 (by decide) rfl ?_
      refine V_goto 45 d_Mo_proof_54 (by decide) ?_
      by_cases h0 : (goR K c M').1 = 0
      · have e5 : pfL K c (d + 1) M' = (goR K c M').2 := by rw [pfL, if_pos h0]
        refine V_il3 46 d_Mo_proof_45 rfl ?_
        refine V_if_eq 57 49 d_Mo_proof_46 (by decide) rfl (fun _ => ?_) (fun h9 => absurd h0 h9)
        rw [← e5, hT]
        exact q57 _ _ _ _
      · have e5 : pfL K c (d + 1) M' = pfL K c d (goR K c M').2 := by rw [pfL, if_neg h0]
        have hl := goR_less (K := K) (c := c) (M := M') (by rw [hkn.now, nI_1]; exact nI_nle (by omega) (by omega)) h0
        exact ih (n + 1) _ _ h0 (by omega) (by omega) (hkn.go (by omega)) (by rw [← e5]; exact hT) _ _ _
  have q7 : ∀ (d k : Nat), k + d = 756 → ∀ z4 z5 z6 : Option Value, V l G y_Mo_proof b_Mo_proof 7 (some FieldType.int) (rmL 5 0 0) 0 0 gAll (gPo (some (.int (pfN K o c g M))) L (pfT K o c g M)) L (pfI (gst M 400 37 (nI o)) k) 0 0 [some (.ref 400), some (.int (nI o)), some (.int (nI g)), some (.int (nI k)), z4, z5, z6] 7 [] := by
    intro d
    induction d with
    | zero =>
      intro k hk z4 z5 z6
      obtain rfl : k = 756 := by omega
      refine V_il3 8 d_Mo_proof_7 rfl ?_
      refine V_sipush 11 (v := 756) (by decide) d_Mo_proof_8 rfl ?_
      refine V_icmp_ge 34 14 d_Mo_proof_11 (by decide) rfl (fun _ => ?_) (fun h9 => absurd (show (756 : Int32) ≤ nI 756 by decide) h9)
      refine V_al0 35 d_Mo_proof_34 rfl ?_
      refine V_iconst 36 (v := 1) (by decide) d_Mo_proof_35 rfl ?_
      refine V_puti 39 36 (lM hM) kc_Mo (by decide) fl_Mo_144 (Or.inl rfl) rfl rfl rfl rfl d_Mo_proof_36 rfl ?_
      refine V_al0 40 d_Mo_proof_39 rfl ?_
      refine V_cV0 43 (c_Mo_said l G _ (pfA M o) hM c (by rw [hA.2 10 (by decide) (by decide) (by decide)]; exact hcm) hc K (hK.mv hA) o ho pfA_37) ok_Mo_said ml_Mo_181 im_Mo_said se_Mo_said (lM hM) kc_Mo (gRm_ok (by decide) (by decide)) rfl rfl (Nat.le_of_ble_eq_true rfl) d_Mo_proof_40 ⟨Nat.le_of_ble_eq_true rfl, Nat.le_of_ble_eq_true rfl⟩ rfl ?_
      refine V_iconst 44 (v := 1) (by decide) d_Mo_proof_43 rfl ?_
      refine V_is3 45 d_Mo_proof_44 (by decide) rfl ?_
      exact q45 757 1 1 _ (by decide) (by decide) (Nat.lt_succ_of_le (cntB_le _ _)) pfS_kn rfl _ _ _
    | succ d ih =>
      intro k hk z4 z5 z6
      have hl : k < 756 := by omega
      refine V_il3 8 d_Mo_proof_7 rfl ?_
      refine V_sipush 11 (v := 756) (by decide) d_Mo_proof_8 rfl ?_
      refine V_icmp_ge 34 14 d_Mo_proof_11 (by decide) rfl (fun h9 => absurd h9 (nI_ge (b := 756) hl (by decide))) (fun _ => ?_)
      refine V_al0 15 d_Mo_proof_14 rfl ?_
      refine V_getr 18 30 (lM hM) kc_Mo (by decide) fl_Mo_71 (Or.inl rfl) rfl d_Mo_proof_15 rfl ?_
      refine V_il3 19 d_Mo_proof_18 rfl ?_
      refine V_iconst 20 (v := 0) (by decide) d_Mo_proof_19 rfl ?_
      refine V_iasn 21 (k) (lM421 hM) rfl hl (by decide) d_Mo_proof_20 rfl ?_
      refine V_al0 22 d_Mo_proof_21 rfl ?_
      refine V_getr 25 34 (lM hM) kc_Mo (by decide) fl_Mo_83 (Or.inl rfl) rfl d_Mo_proof_22 rfl ?_
      refine V_il3 26 d_Mo_proof_25 rfl ?_
      refine V_iconst 27 (v := (-1)) (by decide) d_Mo_proof_26 rfl ?_
      refine V_iasn 28 (k) (lM425 hM) rfl hl (by decide) d_Mo_proof_27 rfl ?_
      rw [pfI_s]
      refine V_ii3 31 (v := 1) d_Mo_proof_28 (by decide) (by decide) rfl ?_
      refine V_goto 7 d_Mo_proof_31 (by decide) ?_
      rw [nI_1]
      exact ih (k + 1) (by omega) _ _ _
  refine gMet_of (lv := [some (.ref 400), some (.int (nI o)), some (.int (nI g)), none, none, none, none]) (by decide) rfl (Nat.le_of_ble_eq_true rfl) rfl ?_
  refine V_al0 1 d_Mo_proof_0 rfl ?_
  refine V_il1 2 d_Mo_proof_1 rfl ?_
  refine V_puti 5 37 (lM hM) kc_Mo (by decide) fl_Mo_150 (Or.inl rfl) rfl rfl rfl rfl d_Mo_proof_2 rfl ?_
  refine V_iconst 6 (v := 0) (by decide) d_Mo_proof_5 rfl ?_
  refine V_is3 7 d_Mo_proof_6 (by decide) rfl ?_
  have h9 := q7 756 0 (by decide)
  rw [pfI_0] at h9
  exact h9 _ _ _

/-! what is said, what follows, what is found -/
/-- a credential's numbers: issuer, kind, its four -/
def kOK (f : Nat → Nat) : Prop := f 0 < 6 ∧ f 1 < 4 ∧ (f 1 = 0 → f 2 < 6 ∧ f 3 < 4 ∧ f 4 < 6) ∧ (f 1 = 1 → f 2 < 6) ∧ (f 1 = 2 → f 2 < 6 ∧ f 3 < 4 ∧ f 4 < 6 ∧ f 5 < 4) ∧ (f 1 = 3 → f 2 < 4 ∧ f 3 < 4)
def gCr (M : gMe) (p q : Nat) (f : Nat → Nat) : Prop := kOK f ∧ M p 0 = nI (f 0) ∧ M p 1 = nI (f 1) ∧ ∀ i, i < 4 → M q i = nI (f (2 + i))
def gCW (M : gMe) (c : Nat) (K : Nat → Nat → Nat) : Prop := ∀ n, 1 ≤ n → n ≤ c → gCr M (cP n) (cP n + 1) (K n)
def fsN (f : Nat → Nat) (o : Nat) : Option Nat :=
  if f 1 = 0 then (if f 4 = o then some (mayN (f 0) (f 2) (f 3)) else none) else if f 1 = 1 then some (spkN (f 2) (f 0)) else if f 1 = 2 then (if f 4 = o then some (truN (f 0) (f 2) (f 3) (f 5)) else none) else none
def oI (x : Option Nat) : Int32 := match x with
  | none => -1
  | some j => nI j
theorem fsN_lt {f : Nat → Nat} {o j : Nat} (hk : kOK f) (h : fsN f o = some j) : j < 756 := by
  obtain ⟨h0, h1, k0, k1, k2, k3⟩ := hk
  unfold fsN at h
  by_cases e0 : f 1 = 0
  · rw [if_pos e0] at h
    by_cases e4 : f 4 = o
    · rw [if_pos e4] at h
      cases h
      exact mayN_lt h0 (k0 e0).1 (k0 e0).2.1
    · rw [if_neg e4] at h; cases h
  · rw [if_neg e0] at h
    by_cases e1 : f 1 = 1
    · rw [if_pos e1] at h
      cases h
      exact spkN_lt (k1 e1) h0
    · rw [if_neg e1] at h
      by_cases e2 : f 1 = 2
      · rw [if_pos e2] at h
        by_cases e4 : f 4 = o
        · rw [if_pos e4] at h
          cases h
          exact truN_lt h0 (k2 e2).1 (k2 e2).2.1 (k2 e2).2.2.2
        · rw [if_neg e4] at h; cases h
      · rw [if_neg e2] at h; cases h
/-- the same but in the prover's places -/
def gPs (M M' : gMe) : Prop := ∀ b, (b < 10 ∨ 20 ≤ b) → M' b = M b
theorem gPs.rf {M : gMe} : gPs M M := fun _ _ => rfl
theorem gPs.tr {M M1 M2 : gMe} (h : gPs M M1) (h2 : gPs M1 M2) : gPs M M2 := fun b hb => (h2 b hb).trans (h b hb)
theorem gPs.st {M : gMe} {a k : Nat} {x : Int32} (ha : 10 ≤ a ∧ a < 20) : gPs M (gst M a k x) := fun b hb => gst_ne _ _ _ _ (by omega)
theorem gPs.re {M : gMe} {j : Nat} {u f z : Int32} : gPs M (cReach M j u f z) := by
  intro b hb
  unfold cReach
  split
  · rw [gst_ne _ _ _ _ (by omega), gst_ne _ _ _ _ (by omega), gst_ne _ _ _ _ (by omega), gst_ne _ _ _ _ (by omega), gst_ne _ _ _ _ (by omega)]
  · rfl
theorem gPs.it {f : Nat → gMe → gMe} (h : ∀ k M, gPs M (f k M)) : ∀ (d k : Nat) (M : gMe), gPs M (itN f d k M)
  | 0, _, _ => gPs.rf
  | d + 1, k, M => (h k M).tr (gPs.it h d (k + 1) (f k M))
theorem gPs.ite {M : gMe} {P : Prop} [Decidable P] {A : gMe} (h : gPs M A) : gPs M (if P then A else M) := by
  split
  · exact h
  · exact gPs.rf
theorem gPs_hom {u k : Int32} {a b r : Nat} {M : gMe} : gPs M (hom u k a b r M) := gPs.it (fun _ _ => gPs.ite gPs.re) _ _ _
theorem gPs_imp {n : Int32} {a r s : Nat} {M : gMe} : gPs M (imp n a r s M) := gPs.it (fun _ _ => gPs.ite gPs.re) _ _ _
theorem gPs_hov {c b : Nat} {M : gMe} : gPs M (hov c b M) := gPs.it (fun _ _ => gPs.ite gPs.re) _ _ _
theorem gPs_hot {u k : Int32} {a b r m : Nat} {M : gMe} : gPs M (hot u k a b r m M) := gPs.it (fun _ _ => gPs.it (fun _ _ => gPs.ite gPs.re) _ _ _) _ _ _
theorem gPs_pFmv {M : gMe} : gPs M (pFmv M) := gPs.it (fun _ _ => gPs.it (fun _ _ => gPs.ite (gPs.it (fun _ _ => gPs_hom) _ _ _)) _ _ _) _ _ _
theorem gPs_pFtv {M : gMe} : gPs M (pFtv M) := gPs.it (fun _ _ => gPs.it (fun _ _ => gPs.ite (gPs.it (fun _ _ => gPs_hot) _ _ _)) _ _ _) _ _ _
theorem gPs_pFmt {M : gMe} : gPs M (pFmt M) := gPs.it (fun _ _ => gPs.it (fun _ _ => gPs.it (fun _ _ => gPs.it (fun _ _ => gPs.ite gPs_hom) _ _ _) _ _ _) _ _ _) _ _ _
theorem gPs_pFtt {M : gMe} : gPs M (pFtt M) := gPs.it (fun _ _ => gPs.it (fun _ _ => gPs.it (fun _ _ => gPs.it (fun _ _ => gPs.ite gPs_hot) _ _ _) _ _ _) _ _ _) _ _ _
theorem gPs_pFvv {M : gMe} : gPs M (pFvv M) := gPs.it (fun _ _ => gPs.it (fun _ _ => gPs.ite gPs_hov) _ _ _) _ _ _
theorem gCr.mv {M M' : gMe} {p q : Nat} {f : Nat → Nat} (hp : M' p = M p) (hq : M' q = M q) (h : gCr M p q f) : gCr M' p q f := by
  obtain ⟨h1, h2, h3, h4⟩ := h
  exact ⟨h1, by rw [hp]; exact h2, by rw [hp]; exact h3, fun i hi => by rw [hq]; exact h4 i hi⟩
theorem gCW.mv {M M' : gMe} {c : Nat} {K : Nat → Nat → Nat} (hp : gPs M M') (h : gCW M c K) : gCW M' c K := fun n h1 h2 => (h n h1 h2).mv (hp _ (by unfold cP; omega)) (hp _ (by unfold cP; omega))
def swX (K : Nat → Nat → Nat) (o n : Nat) (M : gMe) : gMe := if pVal M (cP n) (M 4 1) then (match fsN (K n) o with | some j => cReach M j 1 (nI n) 0 | none => M) else M
def sws (K : Nat → Nat → Nat) (o c : Nat) (M : gMe) : gMe := itN (swX K o) c 1 M
theorem gPs_swX {K : Nat → Nat → Nat} {o n : Nat} {M : gMe} : gPs M (swX K o n M) := by
  unfold swX
  refine gPs.ite ?_
  split
  · exact gPs.re
  · exact gPs.rf
theorem gPs_sws {K : Nat → Nat → Nat} {o c : Nat} {M : gMe} : gPs M (sws K o c M) := gPs.it (fun _ _ => gPs_swX) _ _ _
def fiX (K : Nat → Nat → Nat) (n : Nat) (M : gMe) : gMe := if pVal M (cP n) (M 4 1) ∧ K n 1 = 3 then imp (nI n) (K n 0) (K n 2) (K n 3) M else M
def fim (K : Nat → Nat → Nat) (c : Nat) (M : gMe) : gMe := itN (fiX K) c 1 M
theorem gPs_fim {K : Nat → Nat → Nat} {c : Nat} {M : gMe} : gPs M (fim K c M) := gPs.it (fun _ _ => gPs.ite gPs_imp) _ _ _
def wwf (K : Nat → Nat → Nat) (c : Nat) (M : gMe) : gMe := fim K c (pFvv (pFtv (pFtt (pFmt (pFmv M)))))
theorem gPs_five {M : gMe} : gPs M (pFvv (pFtv (pFtt (pFmt (pFmv M))))) := gPs_pFmv.tr (gPs_pFmt.tr (gPs_pFtt.tr (gPs_pFtv.tr gPs_pFvv)))
theorem gPs_wwf {K : Nat → Nat → Nat} {c : Nat} {M : gMe} : gPs M (wwf K c M) := gPs_five.tr gPs_fim
/-- the round's number stays -/
def gRd (M M' : gMe) : Prop := M' 10 7 = M 10 7
theorem gRd.re {M : gMe} {j : Nat} {u f z : Int32} : gRd M (cReach M j u f z) := by
  unfold gRd cReach
  split
  · simp [gst_at]
  · rfl
theorem gRd.it {f : Nat → gMe → gMe} (h : ∀ k M, gRd M (f k M)) : ∀ (d k : Nat) (M : gMe), gRd M (itN f d k M)
  | 0, _, _ => rfl
  | d + 1, k, M => (gRd.it h d (k + 1) (f k M)).trans (h k M)
theorem gRd.ite {M : gMe} {P : Prop} [Decidable P] {A : gMe} (h : gRd M A) : gRd M (if P then A else M) := by
  split
  · exact h
  · rfl
theorem gRd_hom {u k : Int32} {a b r : Nat} {M : gMe} : gRd M (hom u k a b r M) := gRd.it (fun _ _ => gRd.ite gRd.re) _ _ _
theorem gRd_hov {c b : Nat} {M : gMe} : gRd M (hov c b M) := gRd.it (fun _ _ => gRd.ite gRd.re) _ _ _
theorem gRd_hot {u k : Int32} {a b r m : Nat} {M : gMe} : gRd M (hot u k a b r m M) := gRd.it (fun _ _ => gRd.it (fun _ _ => gRd.ite gRd.re) _ _ _) _ _ _
theorem gRd_wwf {K : Nat → Nat → Nat} {c : Nat} {M : gMe} : gRd M (wwf K c M) := by
  have h1 : ∀ M, gRd M (pFmv M) := fun M => gRd.it (fun _ _ => gRd.it (fun _ _ => gRd.ite (gRd.it (fun _ _ => gRd_hom) _ _ _)) _ _ _) _ _ _
  have h2 : ∀ M, gRd M (pFmt M) := fun M => gRd.it (fun _ _ => gRd.it (fun _ _ => gRd.it (fun _ _ => gRd.it (fun _ _ => gRd.ite gRd_hom) _ _ _) _ _ _) _ _ _) _ _ _
  have h3 : ∀ M, gRd M (pFtt M) := fun M => gRd.it (fun _ _ => gRd.it (fun _ _ => gRd.it (fun _ _ => gRd.it (fun _ _ => gRd.ite gRd_hot) _ _ _) _ _ _) _ _ _) _ _ _
  have h4 : ∀ M, gRd M (pFtv M) := fun M => gRd.it (fun _ _ => gRd.it (fun _ _ => gRd.ite (gRd.it (fun _ _ => gRd_hot) _ _ _)) _ _ _) _ _ _
  have h5 : ∀ M, gRd M (pFvv M) := fun M => gRd.it (fun _ _ => gRd.it (fun _ _ => gRd.ite gRd_hov) _ _ _) _ _ _
  have h6 : ∀ M, gRd M (fim K c M) := fun M => gRd.it (fun _ _ => gRd.ite (gRd.it (fun _ _ => gRd.ite gRd.re) _ _ _)) _ _ _
  exact (h6 _).trans ((h5 _).trans ((h4 _).trans ((h3 _).trans ((h2 _).trans (h1 M)))))
theorem gRd_sws {K : Nat → Nat → Nat} {o c : Nat} {M : gMe} : gRd M (sws K o c M) := gRd.it (fun _ _ => gRd.ite (by split <;> first | exact gRd.re | exact rfl)) _ _ _
/-- a round: its number, nothing found yet, what follows -/
def rnd (K : Nat → Nat → Nat) (c : Nat) (M : gMe) : gMe := wwf K c (gst (gst M 10 7 (M 10 7 + 1)) 10 8 0)
theorem gPs_rnd {K : Nat → Nat → Nat} {c : Nat} {M : gMe} : gPs M (rnd K c M) := (gPs.st (by decide)).tr ((gPs.st (by decide)).tr gPs_wwf)
theorem rnd_rd {K : Nat → Nat → Nat} {c : Nat} {M : gMe} : rnd K c M 10 7 = M 10 7 + 1 := by
  have h : gRd _ (rnd K c M) := gRd_wwf
  unfold gRd at h
  rw [h]
  simp [gst_at]
abbrev pGo (M : gMe) (g : Nat) : Prop := M 15 g = 0 ∧ ¬ M 10 8 = 0 ∧ ¬ 756 < M 10 7
def fdL (K : Nat → Nat → Nat) (c g : Nat) : Nat → gMe → gMe
  | 0, M => M
  | d + 1, M => if pGo M g then fdL K c g d (rnd K c M) else M
def fd0 (K : Nat → Nat → Nat) (o c : Nat) (M : gMe) : gMe := sws K o c (gst (gst (mfill M 15 0 756) 10 7 1) 10 8 0)
def fdM (K : Nat → Nat → Nat) (o c g : Nat) (M : gMe) : gMe := fdL K c g 757 (fd0 K o c M)
theorem mfill_ne {M : gMe} {a : Nat} {v : Int32} {n b : Nat} (h : b ≠ a) : mfill M a v n b = M b := va_up_ne _ _ h
theorem gPs_fd0 {K : Nat → Nat → Nat} {o c : Nat} {M : gMe} : gPs M (fd0 K o c M) := (show gPs M (mfill M 15 0 756) from fun b hb => mfill_ne (by omega)).tr ((gPs.st (by decide)).tr ((gPs.st (by decide)).tr gPs_sws))
theorem fd0_rd {K : Nat → Nat → Nat} {o c : Nat} {M : gMe} : fd0 K o c M 10 7 = 1 := by
  have h : gRd _ (fd0 K o c M) := gRd_sws
  unfold gRd at h
  rw [h]
  simp [gst_at]
theorem gPs_fdL {K : Nat → Nat → Nat} {c g : Nat} : ∀ (d : Nat) (M : gMe), gPs M (fdL K c g d M)
  | 0, _ => gPs.rf
  | d + 1, M => by
    show gPs M (if pGo M g then fdL K c g d (rnd K c M) else M)
    exact gPs.ite (gPs_rnd.tr (gPs_fdL d _))
theorem gPs_fdM {K : Nat → Nat → Nat} {o c g : Nat} {M : gMe} : gPs M (fdM K o c g M) := gPs_fd0.tr (gPs_fdL _ _)
set_option maxRecDepth 100000 in
set_option maxHeartbeats 4000000 in
theorem c_Pv_factSaidBy_0 (l : Launch) (G : gG) (L : gLy) (M : gMe) (p q : Nat) (hR : gLR L p q) (f : Nat → Nat) (hf : gCr M p q f) (o : Nat) (ho : o < 6) (hk : f 1 = 0) (h4 : f 4 = o) : gMet l G y_Pv_factSaidBy b_Pv_factSaidBy 3 (some FieldType.int) (rmL 2 0 0) [.ref p, .int (nI o)] L M gAll (gPo (some (.int (nI (mayN (f 0) (f 2) (f 3))))) L M) 0 0 := by
  obtain ⟨⟨k0, k1, k2, k3, k4, k5⟩, m0, m1, mx⟩ := id hf
  refine gMet_of (lv := [some (.ref p), some (.int (nI o)), none]) (by decide) rfl (Nat.le_of_ble_eq_true rfl) rfl ?_
  refine V_al0 1 d_Pv_factSaidBy_0 rfl ?_
  refine V_getr 4 2 hR.1 kc_Cr (by decide) fl_Pv_112 (Or.inl rfl) rfl d_Pv_factSaidBy_1 rfl ?_
  refine V_as2 5 d_Pv_factSaidBy_4 (by decide) rfl ?_
  refine V_al0 6 d_Pv_factSaidBy_5 rfl ?_
  refine V_geti 9 1 hR.1 kc_Cr (by decide) fl_Pv_117 (Or.inl rfl) rfl d_Pv_factSaidBy_6 rfl ?_
  refine V_topi (z := 0) (by rw [m1, hk]; rfl) ?_
  refine V_tabIn 36 d_Pv_factSaidBy_9 (by decide) (by decide) rfl (by decide) ?_
  refine V_al2 37 d_Pv_factSaidBy_36 rfl ?_
  refine V_iconst 38 (v := 2) (by decide) d_Pv_factSaidBy_37 rfl ?_
  refine V_ialn 39 (2) hR.2 rfl (by decide) (by decide) d_Pv_factSaidBy_38 rfl ?_
  refine V_il1 40 d_Pv_factSaidBy_39 rfl ?_
  refine V_icmp_ne 59 43 d_Pv_factSaidBy_40 (by decide) rfl (fun h9 => absurd h9 (not_not_intro (by rw [mx 2 (by decide), h4]))) (fun _ => ?_)
  refine V_al0 44 d_Pv_factSaidBy_43 rfl ?_
  refine V_geti 47 0 hR.1 kc_Cr (by decide) fl_Pv_120 (Or.inl rfl) rfl d_Pv_factSaidBy_44 rfl ?_
  refine V_al2 48 d_Pv_factSaidBy_47 rfl ?_
  refine V_iconst 49 (v := 0) (by decide) d_Pv_factSaidBy_48 rfl ?_
  refine V_ialn 50 (0) hR.2 rfl (by decide) (by decide) d_Pv_factSaidBy_49 rfl ?_
  refine V_al2 51 d_Pv_factSaidBy_50 rfl ?_
  refine V_iconst 52 (v := 1) (by decide) d_Pv_factSaidBy_51 rfl ?_
  refine V_ialn 53 (1) hR.2 rfl (by decide) (by decide) d_Pv_factSaidBy_52 rfl ?_
  refine V_cS1 56 (c_Pv_may l G _ _ _ _ _) ok_Pv_may ml_Pv_38 st_Pv_may (gRm_ok (by decide) (by decide)) rfl rfl (Nat.le_of_ble_eq_true rfl) d_Pv_factSaidBy_53 ⟨Nat.le_of_ble_eq_true rfl, Nat.le_of_ble_eq_true rfl⟩ rfl ?_
  refine V_topi (z := nI (mayN (f 0) (f 2) (f 3))) (by rw [m0, mx 0 (by decide), mx 1 (by decide)]; exact may_nI (f 0) (f 2) (f 3)) ?_
  refine V_goto 60 d_Pv_factSaidBy_56 (by decide) ?_
  exact V_iret rfl d_Pv_factSaidBy_60 ⟨rfl, rfl, rfl⟩
set_option maxRecDepth 100000 in
set_option maxHeartbeats 4000000 in
theorem c_Pv_factSaidBy_0n (l : Launch) (G : gG) (L : gLy) (M : gMe) (p q : Nat) (hR : gLR L p q) (f : Nat → Nat) (hf : gCr M p q f) (o : Nat) (ho : o < 6) (hk : f 1 = 0) (h4 : ¬ f 4 = o) (hb : f 4 < 6) : gMet l G y_Pv_factSaidBy b_Pv_factSaidBy 3 (some FieldType.int) (rmL 2 0 0) [.ref p, .int (nI o)] L M gAll (gPo (some (.int (-1))) L M) 0 0 := by
  obtain ⟨⟨k0, k1, k2, k3, k4, k5⟩, m0, m1, mx⟩ := id hf
  refine gMet_of (lv := [some (.ref p), some (.int (nI o)), none]) (by decide) rfl (Nat.le_of_ble_eq_true rfl) rfl ?_
  refine V_al0 1 d_Pv_factSaidBy_0 rfl ?_
  refine V_getr 4 2 hR.1 kc_Cr (by decide) fl_Pv_112 (Or.inl rfl) rfl d_Pv_factSaidBy_1 rfl ?_
  refine V_as2 5 d_Pv_factSaidBy_4 (by decide) rfl ?_
  refine V_al0 6 d_Pv_factSaidBy_5 rfl ?_
  refine V_geti 9 1 hR.1 kc_Cr (by decide) fl_Pv_117 (Or.inl rfl) rfl d_Pv_factSaidBy_6 rfl ?_
  refine V_topi (z := 0) (by rw [m1, hk]; rfl) ?_
  refine V_tabIn 36 d_Pv_factSaidBy_9 (by decide) (by decide) rfl (by decide) ?_
  refine V_al2 37 d_Pv_factSaidBy_36 rfl ?_
  refine V_iconst 38 (v := 2) (by decide) d_Pv_factSaidBy_37 rfl ?_
  refine V_ialn 39 (2) hR.2 rfl (by decide) (by decide) d_Pv_factSaidBy_38 rfl ?_
  refine V_il1 40 d_Pv_factSaidBy_39 rfl ?_
  refine V_icmp_ne 59 43 d_Pv_factSaidBy_40 (by decide) rfl (fun _ => ?_) (fun h9 => absurd h9 (by rw [mx 2 (by decide)]; exact fun h => h4 ((nI_eq (by have := hb; omega) (by omega)).mp h)))
  refine V_iconst 60 (v := (-1)) (by decide) d_Pv_factSaidBy_59 rfl ?_
  exact V_iret rfl d_Pv_factSaidBy_60 ⟨rfl, rfl, rfl⟩
set_option maxRecDepth 100000 in
set_option maxHeartbeats 4000000 in
theorem c_Pv_factSaidBy_1 (l : Launch) (G : gG) (L : gLy) (M : gMe) (p q : Nat) (hR : gLR L p q) (f : Nat → Nat) (hf : gCr M p q f) (o : Nat) (ho : o < 6) (hk : f 1 = 1) : gMet l G y_Pv_factSaidBy b_Pv_factSaidBy 3 (some FieldType.int) (rmL 2 0 0) [.ref p, .int (nI o)] L M gAll (gPo (some (.int (nI (spkN (f 2) (f 0))))) L M) 0 0 := by
  obtain ⟨⟨k0, k1, k2, k3, k4, k5⟩, m0, m1, mx⟩ := id hf
  refine gMet_of (lv := [some (.ref p), some (.int (nI o)), none]) (by decide) rfl (Nat.le_of_ble_eq_true rfl) rfl ?_
  refine V_al0 1 d_Pv_factSaidBy_0 rfl ?_
  refine V_getr 4 2 hR.1 kc_Cr (by decide) fl_Pv_112 (Or.inl rfl) rfl d_Pv_factSaidBy_1 rfl ?_
  refine V_as2 5 d_Pv_factSaidBy_4 (by decide) rfl ?_
  refine V_al0 6 d_Pv_factSaidBy_5 rfl ?_
  refine V_geti 9 1 hR.1 kc_Cr (by decide) fl_Pv_117 (Or.inl rfl) rfl d_Pv_factSaidBy_6 rfl ?_
  refine V_topi (z := 1) (by rw [m1, hk]; rfl) ?_
  refine V_tabIn 61 d_Pv_factSaidBy_9 (by decide) (by decide) rfl (by decide) ?_
  refine V_al2 62 d_Pv_factSaidBy_61 rfl ?_
  refine V_iconst 63 (v := 0) (by decide) d_Pv_factSaidBy_62 rfl ?_
  refine V_ialn 64 (0) hR.2 rfl (by decide) (by decide) d_Pv_factSaidBy_63 rfl ?_
  refine V_al0 65 d_Pv_factSaidBy_64 rfl ?_
  refine V_geti 68 0 hR.1 kc_Cr (by decide) fl_Pv_120 (Or.inl rfl) rfl d_Pv_factSaidBy_65 rfl ?_
  refine V_cS1 71 (c_Pv_speaks l G _ _ _ _) ok_Pv_speaks ml_Pv_123 st_Pv_speaks (gRm_ok (by decide) (by decide)) rfl rfl (Nat.le_of_ble_eq_true rfl) d_Pv_factSaidBy_68 ⟨Nat.le_of_ble_eq_true rfl, Nat.le_of_ble_eq_true rfl⟩ rfl ?_
  refine V_topi (z := nI (spkN (f 2) (f 0))) (by rw [m0, mx 0 (by decide)]; exact spk_nI (f 2) (f 0)) ?_
  exact V_iret rfl d_Pv_factSaidBy_71 ⟨rfl, rfl, rfl⟩
set_option maxRecDepth 100000 in
set_option maxHeartbeats 4000000 in
theorem c_Pv_factSaidBy_2 (l : Launch) (G : gG) (L : gLy) (M : gMe) (p q : Nat) (hR : gLR L p q) (f : Nat → Nat) (hf : gCr M p q f) (o : Nat) (ho : o < 6) (hk : f 1 = 2) (h4 : f 4 = o) : gMet l G y_Pv_factSaidBy b_Pv_factSaidBy 3 (some FieldType.int) (rmL 2 0 0) [.ref p, .int (nI o)] L M gAll (gPo (some (.int (nI (truN (f 0) (f 2) (f 3) (f 5))))) L M) 0 0 := by
  obtain ⟨⟨k0, k1, k2, k3, k4, k5⟩, m0, m1, mx⟩ := id hf
  refine gMet_of (lv := [some (.ref p), some (.int (nI o)), none]) (by decide) rfl (Nat.le_of_ble_eq_true rfl) rfl ?_
  refine V_al0 1 d_Pv_factSaidBy_0 rfl ?_
  refine V_getr 4 2 hR.1 kc_Cr (by decide) fl_Pv_112 (Or.inl rfl) rfl d_Pv_factSaidBy_1 rfl ?_
  refine V_as2 5 d_Pv_factSaidBy_4 (by decide) rfl ?_
  refine V_al0 6 d_Pv_factSaidBy_5 rfl ?_
  refine V_geti 9 1 hR.1 kc_Cr (by decide) fl_Pv_117 (Or.inl rfl) rfl d_Pv_factSaidBy_6 rfl ?_
  refine V_topi (z := 2) (by rw [m1, hk]; rfl) ?_
  refine V_tabIn 72 d_Pv_factSaidBy_9 (by decide) (by decide) rfl (by decide) ?_
  refine V_al2 73 d_Pv_factSaidBy_72 rfl ?_
  refine V_iconst 74 (v := 2) (by decide) d_Pv_factSaidBy_73 rfl ?_
  refine V_ialn 75 (2) hR.2 rfl (by decide) (by decide) d_Pv_factSaidBy_74 rfl ?_
  refine V_il1 76 d_Pv_factSaidBy_75 rfl ?_
  refine V_icmp_ne 98 79 d_Pv_factSaidBy_76 (by decide) rfl (fun h9 => absurd h9 (not_not_intro (by rw [mx 2 (by decide), h4]))) (fun _ => ?_)
  refine V_al0 80 d_Pv_factSaidBy_79 rfl ?_
  refine V_geti 83 0 hR.1 kc_Cr (by decide) fl_Pv_120 (Or.inl rfl) rfl d_Pv_factSaidBy_80 rfl ?_
  refine V_al2 84 d_Pv_factSaidBy_83 rfl ?_
  refine V_iconst 85 (v := 0) (by decide) d_Pv_factSaidBy_84 rfl ?_
  refine V_ialn 86 (0) hR.2 rfl (by decide) (by decide) d_Pv_factSaidBy_85 rfl ?_
  refine V_al2 87 d_Pv_factSaidBy_86 rfl ?_
  refine V_iconst 88 (v := 1) (by decide) d_Pv_factSaidBy_87 rfl ?_
  refine V_ialn 89 (1) hR.2 rfl (by decide) (by decide) d_Pv_factSaidBy_88 rfl ?_
  refine V_al2 90 d_Pv_factSaidBy_89 rfl ?_
  refine V_iconst 91 (v := 3) (by decide) d_Pv_factSaidBy_90 rfl ?_
  refine V_ialn 92 (3) hR.2 rfl (by decide) (by decide) d_Pv_factSaidBy_91 rfl ?_
  refine V_cS1 95 (c_Pv_trusts l G _ _ _ _ _ _) ok_Pv_trusts ml_Pv_127 st_Pv_trusts (gRm_ok (by decide) (by decide)) rfl rfl (Nat.le_of_ble_eq_true rfl) d_Pv_factSaidBy_92 ⟨Nat.le_of_ble_eq_true rfl, Nat.le_of_ble_eq_true rfl⟩ rfl ?_
  refine V_topi (z := nI (truN (f 0) (f 2) (f 3) (f 5))) (by rw [m0, mx 0 (by decide), mx 1 (by decide), mx 3 (by decide)]; exact tru_nI (f 0) (f 2) (f 3) (f 5)) ?_
  refine V_goto 99 d_Pv_factSaidBy_95 (by decide) ?_
  exact V_iret rfl d_Pv_factSaidBy_99 ⟨rfl, rfl, rfl⟩
set_option maxRecDepth 100000 in
set_option maxHeartbeats 4000000 in
theorem c_Pv_factSaidBy_2n (l : Launch) (G : gG) (L : gLy) (M : gMe) (p q : Nat) (hR : gLR L p q) (f : Nat → Nat) (hf : gCr M p q f) (o : Nat) (ho : o < 6) (hk : f 1 = 2) (h4 : ¬ f 4 = o) (hb : f 4 < 6) : gMet l G y_Pv_factSaidBy b_Pv_factSaidBy 3 (some FieldType.int) (rmL 2 0 0) [.ref p, .int (nI o)] L M gAll (gPo (some (.int (-1))) L M) 0 0 := by
  obtain ⟨⟨k0, k1, k2, k3, k4, k5⟩, m0, m1, mx⟩ := id hf
  refine gMet_of (lv := [some (.ref p), some (.int (nI o)), none]) (by decide) rfl (Nat.le_of_ble_eq_true rfl) rfl ?_
  refine V_al0 1 d_Pv_factSaidBy_0 rfl ?_
  refine V_getr 4 2 hR.1 kc_Cr (by decide) fl_Pv_112 (Or.inl rfl) rfl d_Pv_factSaidBy_1 rfl ?_
  refine V_as2 5 d_Pv_factSaidBy_4 (by decide) rfl ?_
  refine V_al0 6 d_Pv_factSaidBy_5 rfl ?_
  refine V_geti 9 1 hR.1 kc_Cr (by decide) fl_Pv_117 (Or.inl rfl) rfl d_Pv_factSaidBy_6 rfl ?_
  refine V_topi (z := 2) (by rw [m1, hk]; rfl) ?_
  refine V_tabIn 72 d_Pv_factSaidBy_9 (by decide) (by decide) rfl (by decide) ?_
  refine V_al2 73 d_Pv_factSaidBy_72 rfl ?_
  refine V_iconst 74 (v := 2) (by decide) d_Pv_factSaidBy_73 rfl ?_
  refine V_ialn 75 (2) hR.2 rfl (by decide) (by decide) d_Pv_factSaidBy_74 rfl ?_
  refine V_il1 76 d_Pv_factSaidBy_75 rfl ?_
  refine V_icmp_ne 98 79 d_Pv_factSaidBy_76 (by decide) rfl (fun _ => ?_) (fun h9 => absurd h9 (by rw [mx 2 (by decide)]; exact fun h => h4 ((nI_eq (by have := hb; omega) (by omega)).mp h)))
  refine V_iconst 99 (v := (-1)) (by decide) d_Pv_factSaidBy_98 rfl ?_
  exact V_iret rfl d_Pv_factSaidBy_99 ⟨rfl, rfl, rfl⟩
set_option maxRecDepth 100000 in
set_option maxHeartbeats 4000000 in
theorem c_Pv_factSaidBy_3 (l : Launch) (G : gG) (L : gLy) (M : gMe) (p q : Nat) (hR : gLR L p q) (f : Nat → Nat) (hf : gCr M p q f) (o : Nat) (ho : o < 6) (hk : f 1 = 3) : gMet l G y_Pv_factSaidBy b_Pv_factSaidBy 3 (some FieldType.int) (rmL 2 0 0) [.ref p, .int (nI o)] L M gAll (gPo (some (.int (-1))) L M) 0 0 := by
  obtain ⟨⟨k0, k1, k2, k3, k4, k5⟩, m0, m1, mx⟩ := id hf
  refine gMet_of (lv := [some (.ref p), some (.int (nI o)), none]) (by decide) rfl (Nat.le_of_ble_eq_true rfl) rfl ?_
  refine V_al0 1 d_Pv_factSaidBy_0 rfl ?_
  refine V_getr 4 2 hR.1 kc_Cr (by decide) fl_Pv_112 (Or.inl rfl) rfl d_Pv_factSaidBy_1 rfl ?_
  refine V_as2 5 d_Pv_factSaidBy_4 (by decide) rfl ?_
  refine V_al0 6 d_Pv_factSaidBy_5 rfl ?_
  refine V_geti 9 1 hR.1 kc_Cr (by decide) fl_Pv_117 (Or.inl rfl) rfl d_Pv_factSaidBy_6 rfl ?_
  refine V_topi (z := 3) (by rw [m1, hk]; rfl) ?_
  refine V_tabOut 100 d_Pv_factSaidBy_9 (by decide) (by decide) ?_
  refine V_iconst 101 (v := (-1)) (by decide) d_Pv_factSaidBy_100 rfl ?_
  exact V_iret rfl d_Pv_factSaidBy_101 ⟨rfl, rfl, rfl⟩
set_option maxHeartbeats 4000000 in
theorem c_Pv_factSaidBy (l : Launch) (G : gG) (L : gLy) (M : gMe) (p q : Nat) (hR : gLR L p q) (f : Nat → Nat) (hf : gCr M p q f) (o : Nat) (ho : o < 6) : gMet l G y_Pv_factSaidBy b_Pv_factSaidBy 3 (some FieldType.int) (rmL 2 0 0) [.ref p, .int (nI o)] L M gAll (gPo (some (.int (oI (fsN f o)))) L M) 0 0 := by
  obtain ⟨⟨k0, k1, k2, k3, k4, k5⟩, m0, m1, mx⟩ := id hf
  unfold fsN
  rcases (show f 1 = 0 ∨ f 1 = 1 ∨ f 1 = 2 ∨ f 1 = 3 by omega) with h | h | h | h
  · rw [if_pos h]
    by_cases h4 : f 4 = o
    · rw [if_pos h4]; exact c_Pv_factSaidBy_0 l G L M p q hR f hf o ho h h4
    · rw [if_neg h4]; exact c_Pv_factSaidBy_0n l G L M p q hR f hf o ho h h4 (k2 h).2.2
  · rw [if_neg (by omega), if_pos h]; exact c_Pv_factSaidBy_1 l G L M p q hR f hf o ho h
  · rw [if_neg (by omega), if_neg (by omega), if_pos h]
    by_cases h4 : f 4 = o
    · rw [if_pos h4]; exact c_Pv_factSaidBy_2 l G L M p q hR f hf o ho h h4
    · rw [if_neg h4]; exact c_Pv_factSaidBy_2n l G L M p q hR f hf o ho h h4 (k4 h).2.2.1
  · rw [if_neg (by omega), if_neg (by omega), if_neg (by omega)]; exact c_Pv_factSaidBy_3 l G L M p q hR f hf o ho h
set_option maxRecDepth 100000 in
set_option maxHeartbeats 4000000 in
theorem c_Pv_findWhatIsSaid (l : Launch) (G : gG) (L : gLy) (M : gMe) (hL : gLC L) (c : Nat) (hH : gLH L c) (hs : M 5 1 = nI c) (hc : c < 100) (K : Nat → Nat → Nat) (hK : gCW M c K) (o : Nat) (ho : o < 6) : gMet l G y_Pv_findWhatIsSaid b_Pv_findWhatIsSaid 5 none (rmL 6 0 0) [.ref 10, .int (nI o)] L M gAll (gPo none L (sws K o c M)) 0 0 := by
  obtain ⟨e9, cap9, h59, hE9, hRc⟩ := id hH
  have lp : ∀ (d n : Nat) (M' : gMe), n + d = c + 1 ∧ 1 ≤ n → gPs M M' → itN (swX K o) d n M' = sws K o c M → ∀ z0 z1 : Option Value, V l G y_Pv_findWhatIsSaid b_Pv_findWhatIsSaid 5 none (rmL 6 0 0) 0 0 gAll (gPo none L (sws K o c M)) L (M') 0 0 [some (.ref 10), some (.int (nI o)), some (.int (nI n)), z0, z1] 2 [] := by
    intro d
    induction d with
    | zero =>
      intro n M' ⟨hn, h1⟩ hp hT z0 z1
      have hs' : M' 5 1 = nI c := by rw [hp 5 (by decide)]; exact hs
      refine V_il2 3 d_Pv_findWhatIsSaid_2 rfl ?_
      refine V_al0 4 d_Pv_findWhatIsSaid_3 rfl ?_
      refine V_getr 7 0 (lC10 hL) kc_Pv (by decide) fl_Pv_34 (Or.inl rfl) rfl d_Pv_findWhatIsSaid_4 rfl ?_
      refine V_cV1 10 (c_Cs_count l G _ _ hL c hH) ok_Cs_count ml_Pv_95 im_Cs_count se_Cs_count (lC4 hL) kc_Cs (gRm_ok (by decide) (by decide)) rfl rfl (Nat.le_of_ble_eq_true rfl) d_Pv_findWhatIsSaid_7 ⟨Nat.le_of_ble_eq_true rfl, Nat.le_of_ble_eq_true rfl⟩ rfl ?_
      refine V_icmp_gt 57 13 d_Pv_findWhatIsSaid_10 (by decide) rfl (fun _ => ?_) (fun h9 => absurd (by rw [hs']; exact nI_lt (by omega) (by omega)) h9)
      exact V_vret rfl d_Pv_findWhatIsSaid_57 ⟨rfl, rfl, hT⟩
    | succ d ih =>
      intro n M' ⟨hn, h1⟩ hp hT z0 z1
      have hs' : M' 5 1 = nI c := by rw [hp 5 (by decide)]; exact hs
      have hnc : n ≤ c := by omega
      have hK' := hK.mv hp n h1 hnc
      refine V_il2 3 d_Pv_findWhatIsSaid_2 rfl ?_
      refine V_al0 4 d_Pv_findWhatIsSaid_3 rfl ?_
      refine V_getr 7 0 (lC10 hL) kc_Pv (by decide) fl_Pv_34 (Or.inl rfl) rfl d_Pv_findWhatIsSaid_4 rfl ?_
      refine V_cV1 10 (c_Cs_count l G _ _ hL c hH) ok_Cs_count ml_Pv_95 im_Cs_count se_Cs_count (lC4 hL) kc_Cs (gRm_ok (by decide) (by decide)) rfl rfl (Nat.le_of_ble_eq_true rfl) d_Pv_findWhatIsSaid_7 ⟨Nat.le_of_ble_eq_true rfl, Nat.le_of_ble_eq_true rfl⟩ rfl ?_
      refine V_icmp_gt 57 13 d_Pv_findWhatIsSaid_10 (by decide) rfl (fun h9 => absurd h9 (by rw [hs']; exact nI_nlt hnc (by omega))) (fun _ => ?_)
      refine V_al0 14 d_Pv_findWhatIsSaid_13 rfl ?_
      refine V_getr 17 0 (lC10 hL) kc_Pv (by decide) fl_Pv_34 (Or.inl rfl) rfl d_Pv_findWhatIsSaid_14 rfl ?_
      refine V_il2 18 d_Pv_findWhatIsSaid_17 rfl ?_
      by_cases hs18 : pVal M' (cP n) (M' 4 1)
      · refine V_cV1 21 (c_Cs_findValid l G _ _ hL c hH hs' hc n h1 hnc hs18) ok_Cs_findValid ml_Pv_100 im_Cs_findValid se_Cs_findValid (lC4 hL) kc_Cs (gRm_ok (by decide) (by decide)) rfl rfl (Nat.le_of_ble_eq_true rfl) d_Pv_findWhatIsSaid_18 ⟨Nat.le_of_ble_eq_true rfl, Nat.le_of_ble_eq_true rfl⟩ rfl ?_
        refine V_as3 22 d_Pv_findWhatIsSaid_21 (by decide) rfl ?_
        refine V_al3 23 d_Pv_findWhatIsSaid_22 rfl ?_
        refine V_nn 30 d_Pv_findWhatIsSaid_23 (by decide) ?_
        refine V_al3 31 d_Pv_findWhatIsSaid_30 rfl ?_
        refine V_il1 32 d_Pv_findWhatIsSaid_31 rfl ?_
        by_cases hs32 : fsN (K n) o = none
        · refine V_cS1 35 (c_Pv_factSaidBy l G _ _ (cP n) (cP n + 1) (hRc n h1 hnc) (K n) hK' o ho) ok_Pv_factSaidBy ml_Pv_104 st_Pv_factSaidBy (gRm_ok (by decide) (by decide)) rfl rfl (Nat.le_of_ble_eq_true rfl) d_Pv_findWhatIsSaid_32 ⟨Nat.le_of_ble_eq_true rfl, Nat.le_of_ble_eq_true rfl⟩ rfl ?_
          refine V_topi (z := -1) (by rw [hs32]; rfl) ?_
          refine V_is4 37 d_Pv_findWhatIsSaid_35 (by decide) rfl ?_
          refine V_il4 39 d_Pv_findWhatIsSaid_37 rfl ?_
          refine V_if_lt 51 42 d_Pv_findWhatIsSaid_39 (by decide) rfl (fun _ => ?_) (fun h9 => absurd (show (-1 : Int32) < 0 by decide) h9)
          refine V_ii2 54 (v := 1) d_Pv_findWhatIsSaid_51 (by decide) (by decide) rfl ?_
          refine V_goto 2 d_Pv_findWhatIsSaid_54 (by decide) ?_
          rw [nI_1]
          exact ih (n + 1) _ ⟨by omega, by omega⟩ (hp.tr gPs.rf) (itN_s (F := fun z9 => z9) hT ((if_pos hs18).trans (by rw [hs32]))) _ _
        · obtain ⟨j, hj⟩ := Option.ne_none_iff_exists'.mp hs32
          have hj7 := fsN_lt hK'.1 hj
          refine V_cS1 35 (c_Pv_factSaidBy l G _ _ (cP n) (cP n + 1) (hRc n h1 hnc) (K n) hK' o ho) ok_Pv_factSaidBy ml_Pv_104 st_Pv_factSaidBy (gRm_ok (by decide) (by decide)) rfl rfl (Nat.le_of_ble_eq_true rfl) d_Pv_findWhatIsSaid_32 ⟨Nat.le_of_ble_eq_true rfl, Nat.le_of_ble_eq_true rfl⟩ rfl ?_
          refine V_topi (z := nI j) (by rw [hj]; rfl) ?_
          refine V_is4 37 d_Pv_findWhatIsSaid_35 (by decide) rfl ?_
          refine V_il4 39 d_Pv_findWhatIsSaid_37 rfl ?_
          refine V_if_lt 51 42 d_Pv_findWhatIsSaid_39 (by decide) rfl (fun h9 => absurd h9 (nI_pos (by omega))) (fun _ => ?_)
          refine V_al0 43 d_Pv_findWhatIsSaid_42 rfl ?_
          refine V_il4 45 d_Pv_findWhatIsSaid_43 rfl ?_
          refine V_iconst 46 (v := 1) (by decide) d_Pv_findWhatIsSaid_45 rfl ?_
          refine V_il2 47 d_Pv_findWhatIsSaid_46 rfl ?_
          refine V_iconst 48 (v := 0) (by decide) d_Pv_findWhatIsSaid_47 rfl ?_
          refine V_cV0 51 (c_Pv_reach l G _ _ hL j hj7 _ _ _) ok_Pv_reach ml_Pv_108 im_Pv_reach se_Pv_reach (lC10 hL) kc_Pv (gRm_ok (by decide) (by decide)) rfl rfl (Nat.le_of_ble_eq_true rfl) d_Pv_findWhatIsSaid_48 ⟨Nat.le_of_ble_eq_true rfl, Nat.le_of_ble_eq_true rfl⟩ rfl ?_
          refine V_ii2 54 (v := 1) d_Pv_findWhatIsSaid_51 (by decide) (by decide) rfl ?_
          refine V_goto 2 d_Pv_findWhatIsSaid_54 (by decide) ?_
          rw [nI_1]
          exact ih (n + 1) _ ⟨by omega, by omega⟩ (hp.tr gPs.re) (itN_s (F := fun z9 => z9) hT ((if_pos hs18).trans (by rw [hj]))) _ _
      · refine V_cV1 21 (c_Cs_findValid_inv l G _ _ hL c hH hs' hc n h1 hnc hs18) ok_Cs_findValid ml_Pv_100 im_Cs_findValid se_Cs_findValid (lC4 hL) kc_Cs (gRm_ok (by decide) (by decide)) rfl rfl (Nat.le_of_ble_eq_true rfl) d_Pv_findWhatIsSaid_18 ⟨Nat.le_of_ble_eq_true rfl, Nat.le_of_ble_eq_true rfl⟩ rfl ?_
        refine V_az3 22 d_Pv_findWhatIsSaid_21 (by decide) rfl ?_
        refine V_an3 23 d_Pv_findWhatIsSaid_22 rfl ?_
        refine V_nnN 26 d_Pv_findWhatIsSaid_23 rfl ?_
        refine V_iconst 27 (v := (-1)) (by decide) d_Pv_findWhatIsSaid_26 rfl ?_
        refine V_goto 35 d_Pv_findWhatIsSaid_27 (by decide) ?_
        refine V_is4 37 d_Pv_findWhatIsSaid_35 (by decide) rfl ?_
        refine V_il4 39 d_Pv_findWhatIsSaid_37 rfl ?_
        refine V_if_lt 51 42 d_Pv_findWhatIsSaid_39 (by decide) rfl (fun _ => ?_) (fun h9 => absurd (show (-1 : Int32) < 0 by decide) h9)
        refine V_ii2 54 (v := 1) d_Pv_findWhatIsSaid_51 (by decide) (by decide) rfl ?_
        refine V_goto 2 d_Pv_findWhatIsSaid_54 (by decide) ?_
        rw [nI_1]
        exact ih (n + 1) _ ⟨by omega, by omega⟩ (hp.tr gPs.rf) (itN_s (F := fun z9 => z9) hT (if_neg hs18)) _ _
  refine gMet_of (lv := [some (.ref 10), some (.int (nI o)), none, none, none]) (by decide) rfl (Nat.le_of_ble_eq_true rfl) rfl ?_
  refine V_iconst 1 (v := 1) (by decide) d_Pv_findWhatIsSaid_0 rfl ?_
  refine V_is2 2 d_Pv_findWhatIsSaid_1 (by decide) rfl ?_
  exact lp c 1 M ⟨by omega, by omega⟩ gPs.rf rfl _ _
set_option maxRecDepth 100000 in
set_option maxHeartbeats 4000000 in
theorem c_Pv_findImplied (l : Launch) (G : gG) (L : gLy) (M : gMe) (hL : gLC L) (c : Nat) (hH : gLH L c) (hs : M 5 1 = nI c) (hc : c < 100) (K : Nat → Nat → Nat) (hK : gCW M c K) : gMet l G y_Pv_findImplied b_Pv_findImplied 3 none (rmL 6 0 0) [.ref 10] L M gAll (gPo none L (fim K c M)) 0 0 := by
  obtain ⟨e9, cap9, h59, hE9, hRc⟩ := id hH
  have lp : ∀ (d n : Nat) (M' : gMe), n + d = c + 1 ∧ 1 ≤ n → gPs M M' → itN (fiX K) d n M' = fim K c M → ∀ z0 : Option Value, V l G y_Pv_findImplied b_Pv_findImplied 3 none (rmL 6 0 0) 0 0 gAll (gPo none L (fim K c M)) L (M') 0 0 [some (.ref 10), some (.int (nI n)), z0] 2 [] := by
    intro d
    induction d with
    | zero =>
      intro n M' ⟨hn, h1⟩ hp hT z0
      have hs' : M' 5 1 = nI c := by rw [hp 5 (by decide)]; exact hs
      refine V_il1 3 d_Pv_findImplied_2 rfl ?_
      refine V_al0 4 d_Pv_findImplied_3 rfl ?_
      refine V_getr 7 0 (lC10 hL) kc_Pv (by decide) fl_Pv_34 (Or.inl rfl) rfl d_Pv_findImplied_4 rfl ?_
      refine V_cV1 10 (c_Cs_count l G _ _ hL c hH) ok_Cs_count ml_Pv_95 im_Cs_count se_Cs_count (lC4 hL) kc_Cs (gRm_ok (by decide) (by decide)) rfl rfl (Nat.le_of_ble_eq_true rfl) d_Pv_findImplied_7 ⟨Nat.le_of_ble_eq_true rfl, Nat.le_of_ble_eq_true rfl⟩ rfl ?_
      refine V_icmp_gt 61 13 d_Pv_findImplied_10 (by decide) rfl (fun _ => ?_) (fun h9 => absurd (by rw [hs']; exact nI_lt (by omega) (by omega)) h9)
      exact V_vret rfl d_Pv_findImplied_61 ⟨rfl, rfl, hT⟩
    | succ d ih =>
      intro n M' ⟨hn, h1⟩ hp hT z0
      have hs' : M' 5 1 = nI c := by rw [hp 5 (by decide)]; exact hs
      have hnc : n ≤ c := by omega
      have hK' := hK.mv hp n h1 hnc
      refine V_il1 3 d_Pv_findImplied_2 rfl ?_
      refine V_al0 4 d_Pv_findImplied_3 rfl ?_
      refine V_getr 7 0 (lC10 hL) kc_Pv (by decide) fl_Pv_34 (Or.inl rfl) rfl d_Pv_findImplied_4 rfl ?_
      refine V_cV1 10 (c_Cs_count l G _ _ hL c hH) ok_Cs_count ml_Pv_95 im_Cs_count se_Cs_count (lC4 hL) kc_Cs (gRm_ok (by decide) (by decide)) rfl rfl (Nat.le_of_ble_eq_true rfl) d_Pv_findImplied_7 ⟨Nat.le_of_ble_eq_true rfl, Nat.le_of_ble_eq_true rfl⟩ rfl ?_
      refine V_icmp_gt 61 13 d_Pv_findImplied_10 (by decide) rfl (fun h9 => absurd h9 (by rw [hs']; exact nI_nlt hnc (by omega))) (fun _ => ?_)
      refine V_al0 14 d_Pv_findImplied_13 rfl ?_
      refine V_getr 17 0 (lC10 hL) kc_Pv (by decide) fl_Pv_34 (Or.inl rfl) rfl d_Pv_findImplied_14 rfl ?_
      refine V_il1 18 d_Pv_findImplied_17 rfl ?_
      by_cases hs18 : pVal M' (cP n) (M' 4 1)
      · refine V_cV1 21 (c_Cs_findValid l G _ _ hL c hH hs' hc n h1 hnc hs18) ok_Cs_findValid ml_Pv_100 im_Cs_findValid se_Cs_findValid (lC4 hL) kc_Cs (gRm_ok (by decide) (by decide)) rfl rfl (Nat.le_of_ble_eq_true rfl) d_Pv_findImplied_18 ⟨Nat.le_of_ble_eq_true rfl, Nat.le_of_ble_eq_true rfl⟩ rfl ?_
        refine V_as2 22 d_Pv_findImplied_21 (by decide) rfl ?_
        refine V_al2 23 d_Pv_findImplied_22 rfl ?_
        refine V_nul 26 d_Pv_findImplied_23 rfl ?_
        refine V_al2 27 d_Pv_findImplied_26 rfl ?_
        refine V_geti 30 1 (hRc n h1 hnc).1 kc_Cr (by decide) fl_Pv_117 (Or.inl rfl) rfl d_Pv_findImplied_27 rfl ?_
        refine V_iconst 31 (v := 3) (by decide) d_Pv_findImplied_30 rfl ?_
        by_cases hs31 : K n 1 = 3
        · refine V_icmp_ne 55 34 d_Pv_findImplied_31 (by decide) rfl (fun h9 => absurd h9 (not_not_intro (by rw [hK'.2.2.1, hs31]; rfl))) (fun _ => ?_)
          refine V_al0 35 d_Pv_findImplied_34 rfl ?_
          refine V_il1 36 d_Pv_findImplied_35 rfl ?_
          refine V_al2 37 d_Pv_findImplied_36 rfl ?_
          refine V_geti 40 0 (hRc n h1 hnc).1 kc_Cr (by decide) fl_Pv_120 (Or.inl rfl) rfl d_Pv_findImplied_37 rfl ?_
          refine V_topi hK'.2.1 ?_
          refine V_al2 41 d_Pv_findImplied_40 rfl ?_
          refine V_getr 44 2 (hRc n h1 hnc).1 kc_Cr (by decide) fl_Pv_112 (Or.inl rfl) rfl d_Pv_findImplied_41 rfl ?_
          refine V_iconst 45 (v := 0) (by decide) d_Pv_findImplied_44 rfl ?_
          refine V_ialn 46 (0) (hRc n h1 hnc).2 rfl (by decide) (by decide) d_Pv_findImplied_45 rfl ?_
          refine V_topi (hK'.2.2.2 0 (by decide)) ?_
          refine V_al2 47 d_Pv_findImplied_46 rfl ?_
          refine V_getr 50 2 (hRc n h1 hnc).1 kc_Cr (by decide) fl_Pv_112 (Or.inl rfl) rfl d_Pv_findImplied_47 rfl ?_
          refine V_iconst 51 (v := 1) (by decide) d_Pv_findImplied_50 rfl ?_
          refine V_ialn 52 (1) (hRc n h1 hnc).2 rfl (by decide) (by decide) d_Pv_findImplied_51 rfl ?_
          refine V_topi (hK'.2.2.2 1 (by decide)) ?_
          refine V_cV0 55 (c_Pv_applyImply l G _ _ hL _ (K n 0) (K n 2) (K n 3) hK'.1.1 (hK'.1.2.2.2.2.2 hs31).1 (hK'.1.2.2.2.2.2 hs31).2) ok_Pv_applyImply ml_Pv_152 im_Pv_applyImply se_Pv_applyImply (lC10 hL) kc_Pv (gRm_ok (by decide) (by decide)) rfl rfl (Nat.le_of_ble_eq_true rfl) d_Pv_findImplied_52 ⟨Nat.le_of_ble_eq_true rfl, Nat.le_of_ble_eq_true rfl⟩ rfl ?_
          refine V_ii1 58 (v := 1) d_Pv_findImplied_55 (by decide) (by decide) rfl ?_
          refine V_goto 2 d_Pv_findImplied_58 (by decide) ?_
          rw [nI_1]
          exact ih (n + 1) _ ⟨by omega, by omega⟩ (hp.tr gPs_imp) (itN_s (F := fun z9 => z9) hT (if_pos ⟨hs18, hs31⟩)) _
        · refine V_icmp_ne 55 34 d_Pv_findImplied_31 (by decide) rfl (fun _ => ?_) (fun h9 => absurd h9 (by rw [hK'.2.2.1]; exact fun h => hs31 ((nI_eq (b := 3) (by have := hK'.1.2.1; omega) (by decide)).mp h)))
          refine V_ii1 58 (v := 1) d_Pv_findImplied_55 (by decide) (by decide) rfl ?_
          refine V_goto 2 d_Pv_findImplied_58 (by decide) ?_
          rw [nI_1]
          exact ih (n + 1) _ ⟨by omega, by omega⟩ (hp.tr gPs.rf) (itN_s (F := fun z9 => z9) hT (if_neg (fun h => hs31 h.2))) _
      · refine V_cV1 21 (c_Cs_findValid_inv l G _ _ hL c hH hs' hc n h1 hnc hs18) ok_Cs_findValid ml_Pv_100 im_Cs_findValid se_Cs_findValid (lC4 hL) kc_Cs (gRm_ok (by decide) (by decide)) rfl rfl (Nat.le_of_ble_eq_true rfl) d_Pv_findImplied_18 ⟨Nat.le_of_ble_eq_true rfl, Nat.le_of_ble_eq_true rfl⟩ rfl ?_
        refine V_az2 22 d_Pv_findImplied_21 (by decide) rfl ?_
        refine V_an2 23 d_Pv_findImplied_22 rfl ?_
        refine V_nulN 55 d_Pv_findImplied_23 (by decide) ?_
        refine V_ii1 58 (v := 1) d_Pv_findImplied_55 (by decide) (by decide) rfl ?_
        refine V_goto 2 d_Pv_findImplied_58 (by decide) ?_
        rw [nI_1]
        exact ih (n + 1) _ ⟨by omega, by omega⟩ (hp.tr gPs.rf) (itN_s (F := fun z9 => z9) hT (if_neg (fun h => hs18 h.1))) _
  refine gMet_of (lv := [some (.ref 10), none, none]) (by decide) rfl (Nat.le_of_ble_eq_true rfl) rfl ?_
  refine V_iconst 1 (v := 1) (by decide) d_Pv_findImplied_0 rfl ?_
  refine V_is1 2 d_Pv_findImplied_1 (by decide) rfl ?_
  exact lp c 1 M ⟨by omega, by omega⟩ gPs.rf rfl _
set_option maxRecDepth 100000 in
set_option maxHeartbeats 4000000 in
theorem c_Pv_findWhatFollows (l : Launch) (G : gG) (L : gLy) (M : gMe) (hL : gLC L) (c : Nat) (hH : gLH L c) (hs : M 5 1 = nI c) (hc : c < 100) (K : Nat → Nat → Nat) (hK : gCW M c K) : gMet l G y_Pv_findWhatFollows b_Pv_findWhatFollows 1 none (rmL 7 0 0) [.ref 10] L M gAll (gPo none L (wwf K c M)) 0 0 := by
  refine gMet_of (lv := [some (.ref 10)]) (by decide) rfl (Nat.le_of_ble_eq_true rfl) rfl ?_
  refine V_al0 1 d_Pv_findWhatFollows_0 rfl ?_
  refine V_cV0 4 (c_Pv_findMayByVoice l G _ _ hL) ok_Pv_findMayByVoice ml_Pv_77 im_Pv_findMayByVoice se_Pv_findMayByVoice (lC10 hL) kc_Pv (gRm_ok (by decide) (by decide)) rfl rfl (Nat.le_of_ble_eq_true rfl) d_Pv_findWhatFollows_1 ⟨Nat.le_of_ble_eq_true rfl, Nat.le_of_ble_eq_true rfl⟩ rfl ?_
  refine V_al0 5 d_Pv_findWhatFollows_4 rfl ?_
  refine V_cV0 8 (c_Pv_findMayByTrust l G _ _ hL) ok_Pv_findMayByTrust ml_Pv_80 im_Pv_findMayByTrust se_Pv_findMayByTrust (lC10 hL) kc_Pv (gRm_ok (by decide) (by decide)) rfl rfl (Nat.le_of_ble_eq_true rfl) d_Pv_findWhatFollows_5 ⟨Nat.le_of_ble_eq_true rfl, Nat.le_of_ble_eq_true rfl⟩ rfl ?_
  refine V_al0 9 d_Pv_findWhatFollows_8 rfl ?_
  refine V_cV0 12 (c_Pv_findTrustByTrust l G _ _ hL) ok_Pv_findTrustByTrust ml_Pv_83 im_Pv_findTrustByTrust se_Pv_findTrustByTrust (lC10 hL) kc_Pv (gRm_ok (by decide) (by decide)) rfl rfl (Nat.le_of_ble_eq_true rfl) d_Pv_findWhatFollows_9 ⟨Nat.le_of_ble_eq_true rfl, Nat.le_of_ble_eq_true rfl⟩ rfl ?_
  refine V_al0 13 d_Pv_findWhatFollows_12 rfl ?_
  refine V_cV0 16 (c_Pv_findTrustByVoice l G _ _ hL) ok_Pv_findTrustByVoice ml_Pv_86 im_Pv_findTrustByVoice se_Pv_findTrustByVoice (lC10 hL) kc_Pv (gRm_ok (by decide) (by decide)) rfl rfl (Nat.le_of_ble_eq_true rfl) d_Pv_findWhatFollows_13 ⟨Nat.le_of_ble_eq_true rfl, Nat.le_of_ble_eq_true rfl⟩ rfl ?_
  refine V_al0 17 d_Pv_findWhatFollows_16 rfl ?_
  refine V_cV0 20 (c_Pv_findVoiceByVoice l G _ _ hL) ok_Pv_findVoiceByVoice ml_Pv_89 im_Pv_findVoiceByVoice se_Pv_findVoiceByVoice (lC10 hL) kc_Pv (gRm_ok (by decide) (by decide)) rfl rfl (Nat.le_of_ble_eq_true rfl) d_Pv_findWhatFollows_17 ⟨Nat.le_of_ble_eq_true rfl, Nat.le_of_ble_eq_true rfl⟩ rfl ?_
  refine V_al0 21 d_Pv_findWhatFollows_20 rfl ?_
  refine V_cV0 24 (c_Pv_findImplied l G _ _ hL c hH (by rw [gPs_five 5 (by decide)]; exact hs) hc K (hK.mv gPs_five)) ok_Pv_findImplied ml_Pv_92 im_Pv_findImplied se_Pv_findImplied (lC10 hL) kc_Pv (gRm_ok (by decide) (by decide)) rfl rfl (Nat.le_of_ble_eq_true rfl) d_Pv_findWhatFollows_21 ⟨Nat.le_of_ble_eq_true rfl, Nat.le_of_ble_eq_true rfl⟩ rfl ?_
  exact V_vret rfl d_Pv_findWhatFollows_24 ⟨rfl, rfl, rfl⟩
set_option maxRecDepth 100000 in
set_option maxHeartbeats 4000000 in
theorem c_Pv_finds (l : Launch) (G : gG) (L : gLy) (M : gMe) (hL : gLC L) (c : Nat) (hH : gLH L c) (hs : M 5 1 = nI c) (hc : c < 100) (K : Nat → Nat → Nat) (hK : gCW M c K) (g o : Nat) (hg : g < 756) (ho : o < 6) : gMet l G y_Pv_finds b_Pv_finds 3 (some FieldType.boolean) (rmL 8 0 0) [.ref 10, .int (nI g), .int (nI o)] L M gAll (gPo (some (.int (bi (¬ fdM K o c g M 15 g = 0)))) L (fdM K o c g M)) 0 0 := by
  have lp : ∀ (d t : Nat) (M' : gMe), t + d = 758 → M' 10 7 = nI t → gPs M M' → fdL K c g d M' = fdM K o c g M → V l G y_Pv_finds b_Pv_finds 3 (some FieldType.boolean) (rmL 8 0 0) 0 0 gAll (gPo (some (.int (bi (¬ fdM K o c g M 15 g = 0)))) L (fdM K o c g M)) L (M') 0 0 [some (.ref 10), some (.int (nI g)), some (.int (nI o))] 23 [] := by
    intro d
    induction d with
    | zero =>
      intro t M' ht hr hp hT
      obtain rfl : t = 758 := by omega
      have hT : M' = fdM K o c g M := hT
      rw [← hT]
      refine V_al0 24 d_Pv_finds_23 rfl ?_
      refine V_getr 27 2 (lC10 hL) kc_Pv (by decide) fl_Pv_18 (Or.inl rfl) rfl d_Pv_finds_24 rfl ?_
      refine V_il1 28 d_Pv_finds_27 rfl ?_
      refine V_ialn 29 (g) (lC15 hL) rfl hg (by decide) d_Pv_finds_28 rfl ?_
      refine V_if_ne 71 32 d_Pv_finds_29 (by decide) rfl (fun h29 => ?_) (fun h29 => ?_)
      · refine V_al0 72 d_Pv_finds_71 rfl ?_
        refine V_getr 75 2 (lC10 hL) kc_Pv (by decide) fl_Pv_18 (Or.inl rfl) rfl d_Pv_finds_72 rfl ?_
        refine V_il1 76 d_Pv_finds_75 rfl ?_
        refine V_ialn 77 (g) (lC15 hL) rfl hg (by decide) d_Pv_finds_76 rfl ?_
        refine V_if_eq 84 80 d_Pv_finds_77 (by decide) rfl (fun h77 => ?_) (fun h77 => ?_)
        · refine V_iconst 85 (v := 0) (by decide) d_Pv_finds_84 rfl ?_
          exact V_zret rfl rfl d_Pv_finds_85 (gN (not_not_intro h77))
        · refine V_iconst 81 (v := 1) (by decide) d_Pv_finds_80 rfl ?_
          refine V_goto 85 d_Pv_finds_81 (by decide) ?_
          exact V_zret rfl rfl d_Pv_finds_85 (gT h77)
      · refine V_al0 33 d_Pv_finds_32 rfl ?_
        refine V_geti 36 8 (lC10 hL) kc_Pv (by decide) fl_Pv_66 (Or.inl rfl) rfl d_Pv_finds_33 rfl ?_
        refine V_if_eq 71 39 d_Pv_finds_36 (by decide) rfl (fun h36 => ?_) (fun h36 => ?_)
        · refine V_al0 72 d_Pv_finds_71 rfl ?_
          refine V_getr 75 2 (lC10 hL) kc_Pv (by decide) fl_Pv_18 (Or.inl rfl) rfl d_Pv_finds_72 rfl ?_
          refine V_il1 76 d_Pv_finds_75 rfl ?_
          refine V_ialn 77 (g) (lC15 hL) rfl hg (by decide) d_Pv_finds_76 rfl ?_
          refine V_if_eq 84 80 d_Pv_finds_77 (by decide) rfl (fun h77 => ?_) (fun h77 => ?_)
          · refine V_iconst 85 (v := 0) (by decide) d_Pv_finds_84 rfl ?_
            exact V_zret rfl rfl d_Pv_finds_85 (gN (not_not_intro h77))
          · refine V_iconst 81 (v := 1) (by decide) d_Pv_finds_80 rfl ?_
            refine V_goto 85 d_Pv_finds_81 (by decide) ?_
            exact V_zret rfl rfl d_Pv_finds_85 (gT h77)
        · refine V_al0 40 d_Pv_finds_39 rfl ?_
          refine V_geti 43 7 (lC10 hL) kc_Pv (by decide) fl_Pv_62 (Or.inl rfl) rfl d_Pv_finds_40 rfl ?_
          refine V_sipush 46 (v := 756) (by decide) d_Pv_finds_43 rfl ?_
          refine V_icmp_gt 71 49 d_Pv_finds_46 (by decide) rfl (fun _ => ?_) (fun h9 => absurd (by rw [hr]; decide) h9)
          refine V_al0 72 d_Pv_finds_71 rfl ?_
          refine V_getr 75 2 (lC10 hL) kc_Pv (by decide) fl_Pv_18 (Or.inl rfl) rfl d_Pv_finds_72 rfl ?_
          refine V_il1 76 d_Pv_finds_75 rfl ?_
          refine V_ialn 77 (g) (lC15 hL) rfl hg (by decide) d_Pv_finds_76 rfl ?_
          refine V_if_eq 84 80 d_Pv_finds_77 (by decide) rfl (fun h77 => ?_) (fun h77 => ?_)
          · refine V_iconst 85 (v := 0) (by decide) d_Pv_finds_84 rfl ?_
            exact V_zret rfl rfl d_Pv_finds_85 (gN (not_not_intro h77))
          · refine V_iconst 81 (v := 1) (by decide) d_Pv_finds_80 rfl ?_
            refine V_goto 85 d_Pv_finds_81 (by decide) ?_
            exact V_zret rfl rfl d_Pv_finds_85 (gT h77)
    | succ d ih =>
      intro t M' ht hr hp hT
      refine V_al0 24 d_Pv_finds_23 rfl ?_
      refine V_getr 27 2 (lC10 hL) kc_Pv (by decide) fl_Pv_18 (Or.inl rfl) rfl d_Pv_finds_24 rfl ?_
      refine V_il1 28 d_Pv_finds_27 rfl ?_
      refine V_ialn 29 (g) (lC15 hL) rfl hg (by decide) d_Pv_finds_28 rfl ?_
      refine V_if_ne 71 32 d_Pv_finds_29 (by decide) rfl (fun h29 => ?_) (fun h29 => ?_)
      · have hn : ¬ pGo M' g := fun h => h29 h.1
        have hT : M' = fdM K o c g M := (if_neg hn).symm.trans hT
        rw [← hT]
        refine V_al0 72 d_Pv_finds_71 rfl ?_
        refine V_getr 75 2 (lC10 hL) kc_Pv (by decide) fl_Pv_18 (Or.inl rfl) rfl d_Pv_finds_72 rfl ?_
        refine V_il1 76 d_Pv_finds_75 rfl ?_
        refine V_ialn 77 (g) (lC15 hL) rfl hg (by decide) d_Pv_finds_76 rfl ?_
        refine V_if_eq 84 80 d_Pv_finds_77 (by decide) rfl (fun h77 => ?_) (fun h77 => ?_)
        · refine V_iconst 85 (v := 0) (by decide) d_Pv_finds_84 rfl ?_
          exact V_zret rfl rfl d_Pv_finds_85 (gN (not_not_intro h77))
        · refine V_iconst 81 (v := 1) (by decide) d_Pv_finds_80 rfl ?_
          refine V_goto 85 d_Pv_finds_81 (by decide) ?_
          exact V_zret rfl rfl d_Pv_finds_85 (gT h77)
      · refine V_al0 33 d_Pv_finds_32 rfl ?_
        refine V_geti 36 8 (lC10 hL) kc_Pv (by decide) fl_Pv_66 (Or.inl rfl) rfl d_Pv_finds_33 rfl ?_
        refine V_if_eq 71 39 d_Pv_finds_36 (by decide) rfl (fun h36 => ?_) (fun h36 => ?_)
        · have hn : ¬ pGo M' g := fun h => h.2.1 h36
          have hT : M' = fdM K o c g M := (if_neg hn).symm.trans hT
          rw [← hT]
          refine V_al0 72 d_Pv_finds_71 rfl ?_
          refine V_getr 75 2 (lC10 hL) kc_Pv (by decide) fl_Pv_18 (Or.inl rfl) rfl d_Pv_finds_72 rfl ?_
          refine V_il1 76 d_Pv_finds_75 rfl ?_
          refine V_ialn 77 (g) (lC15 hL) rfl hg (by decide) d_Pv_finds_76 rfl ?_
          refine V_if_eq 84 80 d_Pv_finds_77 (by decide) rfl (fun h77 => ?_) (fun h77 => ?_)
          · refine V_iconst 85 (v := 0) (by decide) d_Pv_finds_84 rfl ?_
            exact V_zret rfl rfl d_Pv_finds_85 (gN (not_not_intro h77))
          · refine V_iconst 81 (v := 1) (by decide) d_Pv_finds_80 rfl ?_
            refine V_goto 85 d_Pv_finds_81 (by decide) ?_
            exact V_zret rfl rfl d_Pv_finds_85 (gT h77)
        · refine V_al0 40 d_Pv_finds_39 rfl ?_
          refine V_geti 43 7 (lC10 hL) kc_Pv (by decide) fl_Pv_62 (Or.inl rfl) rfl d_Pv_finds_40 rfl ?_
          refine V_sipush 46 (v := 756) (by decide) d_Pv_finds_43 rfl ?_
          refine V_icmp_gt 71 49 d_Pv_finds_46 (by decide) rfl (fun h46 => ?_) (fun h46 => ?_)
          · have hn : ¬ pGo M' g := fun h => h.2.2 h46
            have hT : M' = fdM K o c g M := (if_neg hn).symm.trans hT
            rw [← hT]
            refine V_al0 72 d_Pv_finds_71 rfl ?_
            refine V_getr 75 2 (lC10 hL) kc_Pv (by decide) fl_Pv_18 (Or.inl rfl) rfl d_Pv_finds_72 rfl ?_
            refine V_il1 76 d_Pv_finds_75 rfl ?_
            refine V_ialn 77 (g) (lC15 hL) rfl hg (by decide) d_Pv_finds_76 rfl ?_
            refine V_if_eq 84 80 d_Pv_finds_77 (by decide) rfl (fun h77 => ?_) (fun h77 => ?_)
            · refine V_iconst 85 (v := 0) (by decide) d_Pv_finds_84 rfl ?_
              exact V_zret rfl rfl d_Pv_finds_85 (gN (not_not_intro h77))
            · refine V_iconst 81 (v := 1) (by decide) d_Pv_finds_80 rfl ?_
              refine V_goto 85 d_Pv_finds_81 (by decide) ?_
              exact V_zret rfl rfl d_Pv_finds_85 (gT h77)
          · refine V_al0 50 d_Pv_finds_49 rfl ?_
            refine V_dup 51 rfl d_Pv_finds_50 rfl ?_
            refine V_geti 54 7 (lC10 hL) kc_Pv (by decide) fl_Pv_62 (Or.inl rfl) rfl d_Pv_finds_51 rfl ?_
            refine V_iconst 55 (v := 1) (by decide) d_Pv_finds_54 rfl ?_
            refine V_iadd 56 d_Pv_finds_55 rfl ?_
            refine V_puti 59 7 (lC10 hL) kc_Pv (by decide) fl_Pv_62 (Or.inl rfl) rfl rfl rfl rfl d_Pv_finds_56 rfl ?_
            refine V_al0 60 d_Pv_finds_59 rfl ?_
            refine V_iconst 61 (v := 0) (by decide) d_Pv_finds_60 rfl ?_
            refine V_puti 64 8 (lC10 hL) kc_Pv (by decide) fl_Pv_66 (Or.inl rfl) rfl rfl rfl rfl d_Pv_finds_61 rfl ?_
            refine V_al0 65 d_Pv_finds_64 rfl ?_
            refine V_cV0 68 (c_Pv_findWhatFollows l G _ _ hL c hH (by rw [gst_ne _ _ _ _ (by decide), gst_ne _ _ _ _ (by decide), hp 5 (by decide)]; exact hs) hc K (hK.mv (hp.tr ((gPs.st (by decide)).tr (gPs.st (by decide)))))) ok_Pv_findWhatFollows ml_Pv_74 im_Pv_findWhatFollows se_Pv_findWhatFollows (lC10 hL) kc_Pv (gRm_ok (by decide) (by decide)) rfl rfl (Nat.le_of_ble_eq_true rfl) d_Pv_finds_65 ⟨Nat.le_of_ble_eq_true rfl, Nat.le_of_ble_eq_true rfl⟩ rfl ?_
            refine V_goto 23 d_Pv_finds_68 (by decide) ?_
            exact ih (t + 1) _ (by omega) (by rw [← nI_1, ← hr]; exact rnd_rd) (hp.tr gPs_rnd) ((if_pos ⟨h29, h36, h46⟩).symm.trans hT)
  refine gMet_of (lv := [some (.ref 10), some (.int (nI g)), some (.int (nI o))]) (by decide) rfl (Nat.le_of_ble_eq_true rfl) rfl ?_
  refine V_al0 1 d_Pv_finds_0 rfl ?_
  refine V_getr 4 2 (lC10 hL) kc_Pv (by decide) fl_Pv_18 (Or.inl rfl) rfl d_Pv_finds_1 rfl ?_
  refine V_iconst 5 (v := 0) (by decide) d_Pv_finds_4 rfl ?_
  refine V_cS0 8 (c_Ar_fill l G _ _ 15 756 (lC15 hL) (by decide) 0) ok_Ar_fill ml_Pv_50 st_Ar_fill (gRm_ok (by decide) (by decide)) rfl rfl (Nat.le_of_ble_eq_true rfl) d_Pv_finds_5 ⟨Nat.le_of_ble_eq_true rfl, Nat.le_of_ble_eq_true rfl⟩ rfl ?_
  refine V_al0 9 d_Pv_finds_8 rfl ?_
  refine V_iconst 10 (v := 1) (by decide) d_Pv_finds_9 rfl ?_
  refine V_puti 13 7 (lC10 hL) kc_Pv (by decide) fl_Pv_62 (Or.inl rfl) rfl rfl rfl rfl d_Pv_finds_10 rfl ?_
  refine V_al0 14 d_Pv_finds_13 rfl ?_
  refine V_iconst 15 (v := 0) (by decide) d_Pv_finds_14 rfl ?_
  refine V_puti 18 8 (lC10 hL) kc_Pv (by decide) fl_Pv_66 (Or.inl rfl) rfl rfl rfl rfl d_Pv_finds_15 rfl ?_
  refine V_al0 19 d_Pv_finds_18 rfl ?_
  refine V_il2 20 d_Pv_finds_19 rfl ?_
  refine V_cV0 23 (c_Pv_findWhatIsSaid l G _ _ hL c hH (by rw [(gPs.tr (show gPs M (mfill M 15 0 756) from fun b hb => mfill_ne (by omega)) ((gPs.st (by decide)).tr (gPs.st (by decide)))) 5 (by decide)]; exact hs) hc K (hK.mv (gPs.tr (show gPs M (mfill M 15 0 756) from fun b hb => mfill_ne (by omega)) ((gPs.st (by decide)).tr (gPs.st (by decide))))) o ho) ok_Pv_findWhatIsSaid ml_Pv_70 im_Pv_findWhatIsSaid se_Pv_findWhatIsSaid (lC10 hL) kc_Pv (gRm_ok (by decide) (by decide)) rfl rfl (Nat.le_of_ble_eq_true rfl) d_Pv_finds_20 ⟨Nat.le_of_ble_eq_true rfl, Nat.le_of_ble_eq_true rfl⟩ rfl ?_
  exact lp 757 1 _ (by decide) fd0_rd gPs_fd0 rfl

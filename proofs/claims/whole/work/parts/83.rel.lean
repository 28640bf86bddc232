/-! class and reference stand alike -/
def r1 (m2 m4 n4 : Nat → Int32) : Prop := m2 0 = n4 0 ∧ m4 1 = n4 1
def r2 (m23 n4 : Nat → Int32) : Prop := (m23 0 = -1 ∧ n4 3 = 0) ∨ ∃ t, t ≤ 50 ∧ m23 0 = nI t ∧ n4 3 = 1 ∧ n4 4 = nI t
def r3 (m24 m25 n1 n2 n3 : Nat → Int32) : Prop := ∀ o, o < 6 → ((n1 o = 0 ∧ m24 o = -1) ∨ (n1 o = 1 ∧ ∃ a, a < 6 ∧ m24 o = nI a ∧ n2 o = nI a)) ∧ m25 o = n3 o
def r4 (m22 n4 : Nat → Int32) : Prop := m22 0 = n4 8 ∧ m22 1 = n4 9
def r5 (M N : gMe) (c : Nat) (K : Nat → Nat → Nat) : Prop := (c ≤ 24 ∧ M 5 1 = nI c ∧ N 400 10 = nI c) ∧ gCW M c K ∧ gMW N c K ∧ (∀ n, 1 ≤ n → n ≤ c → kNm (K n) ∧ M (cP n) 3 = N 410 n ∧ M (cP n) 4 = N 411 n ∧ M (cP n) 5 = N 412 n ∧ (N 412 n = 0 ∨ N 412 n = 1)) ∧ ∀ n, c < n → n ≤ 24 → N 412 n = 0
def r6 (m3 n13 : Nat → Int32) : Prop := ∀ j, m3 j = n13 j
def r7 (m6 m7 m8 m9 n4 n14 n15 n16 : Nat → Int32) : Prop := ∃ d, d ≤ 40 ∧ m6 3 = nI d ∧ n4 21 = nI d ∧ ∀ i, i < d → m7 i = n14 i ∧ m8 i = n15 i ∧ m9 i = n16 i
def gRl (M N : gMe) (c : Nat) (K : Nat → Nat → Nat) : Prop := r1 (M 2) (M 4) (N 400) ∧ r2 (M 23) (N 400) ∧ r3 (M 24) (M 25) (N 401) (N 402) (N 403) ∧ r4 (M 22) (N 400) ∧ r5 M N c K ∧ r6 (M 3) (N 413) ∧ r7 (M 6) (M 7) (M 8) (M 9) (N 400) (N 414) (N 415) (N 416)
/-- the same for the relation, on the reference's side -/
def eR (N N' : gMe) : Prop := (∀ b, 401 ≤ b → b ≤ 416 → N' b = N b) ∧ ∀ k, k ≠ 2 → k ≠ 22 → k ≠ 36 → k ≠ 37 → N' 400 k = N 400 k
def eC (M M' : gMe) : Prop := ∀ b, (b < 10 ∨ (22 ≤ b ∧ b < 26) ∨ (200 ≤ b ∧ b < 400)) → M' b = M b
theorem eR.tr {N N1 N2 : gMe} (h : eR N N1) (g : eR N1 N2) : eR N N2 := ⟨fun b a d => (g.1 b a d).trans (h.1 b a d), fun k a b c d => (g.2 k a b c d).trans (h.2 k a b c d)⟩
theorem eC.tr {N N1 N2 : gMe} (h : eC N N1) (g : eC N1 N2) : eC N N2 := fun b a => (g b a).trans (h b a)
theorem eR_mF {N : gMe} : eR N (mF N) := ⟨fun b a d => by unfold mF; exact gst_ne _ _ _ _ (by omega), fun k a _ _ _ => by unfold mF; rw [gst_same, upd_n _ _ a]⟩
theorem eR_pm {N N' : gMe} (h : gPm N N') : eR N N' := ⟨fun b a d => h.1 b (by omega) (by omega), fun k _ b c d => h.2 k b c d⟩
theorem eR_2 {N : gMe} {v : Int32} : eR N (gst N 400 2 v) := ⟨fun b a d => gst_ne _ _ _ _ (by omega), fun k a _ _ _ => by rw [gst_same, upd_n _ _ a]⟩
theorem eR_7 {N N' : gMe} (h : ∀ b, b ≠ 417 → N' b = N b) : eR N N' := ⟨fun b a d => h b (by omega), fun k _ _ _ _ => by rw [h 400 (by decide)]⟩
theorem r5.cC {M M' N : gMe} {c : Nat} {K : Nat → Nat → Nat} (h : r5 M N c K) (h5 : M' 5 1 = M 5 1) (hc : ∀ b, 200 ≤ b → b < 400 → M' b = M b) : r5 M' N c K := by
  obtain ⟨a1, a2, a3, a4, a5⟩ := h
  have hq : ∀ n, n ≤ c → M' (cP n) = M (cP n) ∧ M' (cP n + 1) = M (cP n + 1) := fun n hn => ⟨hc _ (by unfold cP; omega) (by unfold cP; omega), hc _ (by unfold cP; omega) (by unfold cP; omega)⟩
  refine ⟨⟨a1.1, by rw [h5]; exact a1.2.1, a1.2.2⟩, fun n x y => (a2 n x y).mv (hq n y).1 (hq n y).2, a3, fun n x y => ?_, a5⟩
  rw [(hq n y).1]; exact a4 n x y
theorem gMr.eq9 {N N' : gMe} {n : Nat} {f : Nat → Nat} (h : gMr N n f) (e : ∀ b, 404 ≤ b → b ≤ 409 → N' b n = N b n) : gMr N' n f := by
  unfold gMr at h ⊢
  rw [e 404 (by decide) (by decide), e 405 (by decide) (by decide), e 406 (by decide) (by decide), e 407 (by decide) (by decide), e 408 (by decide) (by decide), e 409 (by decide) (by decide)]
  exact h
theorem r5.cR {M N N' : gMe} {c : Nat} {K : Nat → Nat → Nat} (h : r5 M N c K) (h0 : N' 400 10 = N 400 10) (hc : ∀ b, 404 ≤ b → b ≤ 412 → N' b = N b) : r5 M N' c K := by
  obtain ⟨a1, a2, a3, a4, a5⟩ := h
  refine ⟨⟨a1.1, a1.2.1, by rw [h0]; exact a1.2.2⟩, a2, fun n x y => gMr.eq9 (a3 n x y) (fun b p q => by rw [hc b p (by omega)]), fun n x y => ?_, fun n x y => ?_⟩
  · rw [hc 410 (by decide) (by decide), hc 411 (by decide) (by decide), hc 412 (by decide) (by decide)]; exact a4 n x y
  · rw [hc 412 (by decide) (by decide)]; exact a5 n x y
theorem gRl.cC {M M' N : gMe} {c : Nat} {K : Nat → Nat → Nat} (h : gRl M N c K) (e : eC M M') : gRl M' N c K := by
  obtain ⟨h1, h2, h3, h4, h5, h6, h7⟩ := h
  unfold gRl
  rw [e 2 (by decide), e 4 (by decide), e 23 (by decide), e 24 (by decide), e 25 (by decide), e 22 (by decide), e 3 (by decide), e 6 (by decide), e 7 (by decide), e 8 (by decide), e 9 (by decide)]
  exact ⟨h1, h2, h3, h4, h5.cC (by rw [e 5 (by decide)]) (fun b x y => e b (Or.inr (Or.inr ⟨x, y⟩))), h6, h7⟩
theorem gRl.cR {M N N' : gMe} {c : Nat} {K : Nat → Nat → Nat} (h : gRl M N c K) (e : eR N N') : gRl M N' c K := by
  obtain ⟨h1, h2, h3, h4, h5, h6, h7⟩ := h
  unfold gRl r1 r2 r4 r7
  rw [e.1 401 (by decide) (by decide), e.1 402 (by decide) (by decide), e.1 403 (by decide) (by decide), e.1 413 (by decide) (by decide), e.1 414 (by decide) (by decide), e.1 415 (by decide) (by decide), e.1 416 (by decide) (by decide), e.2 0 (by decide) (by decide) (by decide) (by decide), e.2 1 (by decide) (by decide) (by decide) (by decide), e.2 3 (by decide) (by decide) (by decide) (by decide), e.2 4 (by decide) (by decide) (by decide) (by decide), e.2 8 (by decide) (by decide) (by decide) (by decide), e.2 9 (by decide) (by decide) (by decide) (by decide), e.2 21 (by decide) (by decide) (by decide) (by decide)]
  exact ⟨h1, h2, h3, h4, h5.cR (e.2 10 (by decide) (by decide) (by decide) (by decide)) (fun b x y => e.1 b (by omega) (by omega)), h6, h7⟩
section gOps
variable {M N : gMe} {c : Nat} {K : Nat → Nat → Nat} (h : gRl M N c K)
theorem gRl.kOK (h : gRl M N c K) : ∀ n, 1 ≤ n → n ≤ c → kOK (K n) := fun n a b => (h.2.2.2.2.1.2.1 n a b).1
theorem gRl.vl (h : gRl M N c K) : ∀ n, 1 ≤ n → n ≤ c → (pVal M (cP n) (M 4 1) ↔ pHo N n) := fun n a b => by
  obtain ⟨-, q1, q2, q3, -⟩ := h.2.2.2.2.1.2.2.2.1 n a b
  unfold pVal pHo
  rw [q1, q2, q3, h.1.2]
theorem gRl.ck (h : gRl M N c K) : gCk M N c K := ⟨h.2.2.2.2.1.2.1, h.2.2.2.2.1.2.2.1, fun n a b => (h.2.2.2.2.1.2.2.2.1 n a b).1, h.vl, Nat.lt_succ_of_le h.2.2.2.2.1.1.1⟩
/-! 4: time passes -/
theorem o_pass (h : gRl M N c K) (n : Int32) : paR M n = mPr N n ∧ gRl (paM M n) (mPs N n) c K := by
  unfold paR mPr paM mPs
  by_cases e : pIn n 1 100
  · rw [if_pos (show pPass n from e), if_pos e, if_pos (show pPass n from e), if_pos e]
    refine ⟨by rw [h.1.2], ?_⟩
    have hF := h.cR (eR_mF (N := N))
    obtain ⟨h1, h2, h3, h4, h5, h6, h7⟩ := hF
    refine ⟨⟨?_, ?_⟩, ?_, ?_, ?_, ?_, ?_, ?_⟩
    · rw [gst_ne _ _ _ _ (by decide), gst_same, upd_n _ _ (by decide)]; exact h1.1
    · rw [gst_same, upd_s, gst_same, upd_s, h.1.2]
    · unfold r2; rw [gst_ne _ _ _ _ (by decide), gst_same, upd_n _ _ (by decide), upd_n _ _ (by decide)]; exact h2
    · rw [gst_ne _ _ _ _ (by decide), gst_ne _ _ _ _ (by decide), gst_ne _ _ _ _ (by decide), gst_ne _ _ _ _ (by decide), gst_ne _ _ _ _ (by decide)]; exact h3
    · unfold r4; rw [gst_ne _ _ _ _ (by decide), gst_same, upd_n _ _ (by decide), upd_n _ _ (by decide)]; exact h4
    · exact (h5.cC (by rw [gst_ne _ _ _ _ (by decide)]) (fun b x y => gst_ne _ _ _ _ (by omega))).cR (by rw [gst_same, upd_n _ _ (by decide)]) (fun b x y => gst_ne _ _ _ _ (by omega))
    · rw [gst_ne _ _ _ _ (by decide), gst_ne _ _ _ _ (by decide)]; exact h6
    · unfold r7; rw [gst_same (mF N) 400 1, upd_n _ _ (by decide), gst_ne M 4 1 _ (show 6 ≠ 4 by decide), gst_ne M 4 1 _ (show 7 ≠ 4 by decide), gst_ne M 4 1 _ (show 8 ≠ 4 by decide), gst_ne M 4 1 _ (show 9 ≠ 4 by decide), gst_ne (mF N) 400 1 _ (show 414 ≠ 400 by decide), gst_ne (mF N) 400 1 _ (show 415 ≠ 400 by decide), gst_ne (mF N) 400 1 _ (show 416 ≠ 400 by decide)]; exact h7
  · rw [if_neg (show ¬ pPass n from e), if_neg e, if_neg (show ¬ pPass n from e), if_neg e]
    exact ⟨rfl, h.cR eR_mF⟩
/-! 2: the numbers are set -/
theorem o_set (h : gRl M N c K) (a b d e : Int32) : gRl (gst (gst (gst (gst M 3 0 a) 3 1 b) 3 2 d) 3 3 e) (gst (gst (gst (gst (mF N) 413 0 a) 413 1 b) 413 2 d) 413 3 e) c K := by
  have hF := h.cR (eR_mF (N := N))
  have hM : ∀ q, q ≠ 3 → gst (gst (gst (gst M 3 0 a) 3 1 b) 3 2 d) 3 3 e q = M q := fun q hq => by rw [gst_ne _ _ _ _ hq, gst_ne _ _ _ _ hq, gst_ne _ _ _ _ hq, gst_ne _ _ _ _ hq]
  have hN : ∀ q, q ≠ 413 → gst (gst (gst (gst (mF N) 413 0 a) 413 1 b) 413 2 d) 413 3 e q = mF N q := fun q hq => by rw [gst_ne _ _ _ _ hq, gst_ne _ _ _ _ hq, gst_ne _ _ _ _ hq, gst_ne _ _ _ _ hq]
  obtain ⟨h1, h2, h3, h4, h5, h6, h7⟩ := hF
  unfold gRl
  rw [hM 2 (by decide), hM 4 (by decide), hM 23 (by decide), hM 24 (by decide), hM 25 (by decide), hM 22 (by decide), hM 6 (by decide), hM 7 (by decide), hM 8 (by decide), hM 9 (by decide), hN 400 (by decide), hN 401 (by decide), hN 402 (by decide), hN 403 (by decide), hN 414 (by decide), hN 415 (by decide), hN 416 (by decide)]
  refine ⟨h1, h2, h3, h4, (h5.cC (by rw [hM 5 (by decide)]) (fun b x y => hM _ (by omega))).cR (by rw [hN 400 (by decide)]) (fun b x y => hN _ (by omega)), fun j => ?_, h7⟩
  rw [gst_same, gst_same, gst_same, gst_same, gst_same, gst_same, gst_same, gst_same]
  by_cases e3 : j = 3
  · subst e3; rw [upd_s, upd_s]
  · rw [upd_n _ _ e3, upd_n _ _ e3]
    by_cases e2 : j = 2
    · subst e2; rw [upd_s, upd_s]
    · rw [upd_n _ _ e2, upd_n _ _ e2]
      by_cases e1 : j = 1
      · subst e1; rw [upd_s, upd_s]
      · rw [upd_n _ _ e1, upd_n _ _ e1]
        by_cases e0 : j = 0
        · subst e0; rw [upd_s, upd_s]
        · rw [upd_n _ _ e0, upd_n _ _ e0]; exact h6 j
/-! the draft alone -/
theorem gRl.dr {M' N' : gMe} (h : gRl M N c K) (hM : ∀ b, b < 6 ∨ (22 ≤ b ∧ b < 26) ∨ (200 ≤ b ∧ b < 400) → M' b = M b) (hN : (∀ b, 401 ≤ b → b ≤ 413 → N' b = N b) ∧ ∀ k, k ≠ 2 → k ≠ 21 → k ≠ 22 → k ≠ 36 → k ≠ 37 → N' 400 k = N 400 k) (h7 : r7 (M' 6) (M' 7) (M' 8) (M' 9) (N' 400) (N' 414) (N' 415) (N' 416)) : gRl M' N' c K := by
  obtain ⟨h1, h2, h3, h4, h5, h6, -⟩ := h
  have hk : ∀ k, k ≠ 2 → k ≠ 21 → k ≠ 22 → k ≠ 36 → k ≠ 37 → N' 400 k = N 400 k := hN.2
  refine ⟨?_, ?_, ?_, ?_, (h5.cC (by rw [hM 5 (by decide)]) (fun b x y => hM _ (Or.inr (Or.inr ⟨x, y⟩)))).cR (hk 10 (by decide) (by decide) (by decide) (by decide) (by decide)) (fun b x y => hN.1 b (by omega) (by omega)), ?_, h7⟩
  · unfold r1; rw [hM 2 (by decide), hM 4 (by decide), hk 0 (by decide) (by decide) (by decide) (by decide) (by decide), hk 1 (by decide) (by decide) (by decide) (by decide) (by decide)]; exact h1
  · unfold r2; rw [hM 23 (by decide), hk 3 (by decide) (by decide) (by decide) (by decide) (by decide), hk 4 (by decide) (by decide) (by decide) (by decide) (by decide)]; exact h2
  · rw [hM 24 (by decide), hM 25 (by decide), hN.1 401 (by decide) (by decide), hN.1 402 (by decide) (by decide), hN.1 403 (by decide) (by decide)]; exact h3
  · unfold r4; rw [hM 22 (by decide), hk 8 (by decide) (by decide) (by decide) (by decide) (by decide), hk 9 (by decide) (by decide) (by decide) (by decide) (by decide)]; exact h4
  · rw [hM 3 (by decide), hN.1 413 (by decide) (by decide)]; exact h6
/-! 6: the draft is cleared -/
theorem o_clear (h : gRl M N c K) : M 6 3 = mF N 400 21 ∧ gRl (gst M 6 3 0) (gst (mF N) 400 21 0) c K := by
  obtain ⟨d, h1, h2, h3, h4⟩ := h.2.2.2.2.2.2
  refine ⟨by rw [h2, (eR_mF (N := N)).2 21 (by decide) (by decide) (by decide) (by decide), h3], ?_⟩
  refine (h.cR (eR_mF (N := N))).dr (fun b hb => gst_ne _ _ _ _ (by omega)) ⟨fun b x y => gst_ne _ _ _ _ (by omega), fun k _ e _ _ _ => by rw [gst_same, upd_n _ _ e]⟩ ⟨0, by omega, ?_, ?_, fun i hi => by omega⟩
  · rw [gst_same, upd_s]; rfl
  · rw [gst_same, upd_s]; rfl
/-! 5: a step -/
theorem o_step (h : gRl M N c K) {n : Nat} (hn : M 6 3 = nI n) (h4 : n < 40) (r x z : Int32) : N 400 21 = nI n ∧ gRl (pfApp M 6 n r x z) (mAp N n r x z) c K := by
  obtain ⟨d, h1, h2, h3, hr⟩ := h.2.2.2.2.2.2
  have e : d = n := (nI_eqI (by omega) (by omega)).mp (h2.symm.trans hn)
  subst e
  refine ⟨h3, ?_⟩
  have a6 : pfApp M 6 d r x z 7 = upd (M 7) d r ∧ pfApp M 6 d r x z 8 = upd (M 8) d x ∧ pfApp M 6 d r x z 9 = upd (M 9) d z := by
    unfold pfApp
    refine ⟨?_, ?_, ?_⟩
    · rw [gst_ne _ _ _ _ (by decide), gst_ne _ _ _ _ (by decide), gst_ne _ _ _ _ (by decide), gst_same]
    · rw [gst_ne _ _ _ _ (by decide), gst_ne _ _ _ _ (by decide), gst_same, gst_ne _ _ _ _ (by decide)]
    · rw [gst_ne _ _ _ _ (by decide), gst_same, gst_ne _ _ _ _ (by decide), gst_ne _ _ _ _ (by decide)]
  have a4 : mAp N d r x z 414 = upd (mF N 414) d r ∧ mAp N d r x z 415 = upd (mF N 415) d x ∧ mAp N d r x z 416 = upd (mF N 416) d z ∧ mAp N d r x z 400 = upd (mF N 400) 21 (nI (d + 1)) := by
    unfold mAp
    refine ⟨?_, ?_, ?_, ?_⟩
    · rw [gst_ne _ _ _ _ (by decide), gst_ne _ _ _ _ (by decide), gst_ne _ _ _ _ (by decide), gst_same]
    · rw [gst_ne _ _ _ _ (by decide), gst_ne _ _ _ _ (by decide), gst_same, gst_ne _ _ _ _ (by decide)]
    · rw [gst_ne _ _ _ _ (by decide), gst_same, gst_ne _ _ _ _ (by decide), gst_ne _ _ _ _ (by decide)]
    · rw [gst_same, gst_ne _ _ _ _ (by decide), gst_ne _ _ _ _ (by decide), gst_ne _ _ _ _ (by decide)]
  refine (h.cR (eR_mF (N := N))).dr (fun b hb => pfApp_ne (by omega)) ⟨fun b p q => ?_, fun k _ e _ _ _ => by rw [a4.2.2.2, upd_n _ _ e]⟩ ⟨d + 1, by omega, pfApp_len, by rw [a4.2.2.2, upd_s], fun i hi => ?_⟩
  · unfold mAp; rw [gst_ne _ _ _ _ (by omega), gst_ne _ _ _ _ (by omega), gst_ne _ _ _ _ (by omega), gst_ne _ _ _ _ (by omega)]
  · rw [a6.1, a6.2.1, a6.2.2, a4.1, a4.2.1, a4.2.2.1, eR_mF.1 414 (by decide) (by decide), eR_mF.1 415 (by decide) (by decide), eR_mF.1 416 (by decide) (by decide)]
    by_cases e : i = d
    · subst e; rw [upd_s, upd_s, upd_s, upd_s, upd_s, upd_s]; exact ⟨rfl, rfl, rfl⟩
    · rw [upd_n _ _ e, upd_n _ _ e, upd_n _ _ e, upd_n _ _ e, upd_n _ _ e, upd_n _ _ e]; exact hr i (by omega)
/-! 12: the fuse -/
theorem gRl.fu {M' N' : gMe} (h : gRl M N c K) (hM : ∀ b, b ≠ 23 → M' b = M b) (hN : (∀ b, b ≠ 400 → N' b = N b) ∧ ∀ k, k ≠ 2 → k ≠ 3 → k ≠ 4 → N' 400 k = N 400 k) (hf : r2 (M' 23) (N' 400)) : gRl M' N' c K := by
  obtain ⟨h1, -, h3, h4, h5, h6, h7⟩ := h
  have hk : ∀ k, k ≠ 2 → k ≠ 3 → k ≠ 4 → N' 400 k = N 400 k := hN.2
  refine ⟨?_, hf, ?_, ?_, (h5.cC (by rw [hM 5 (by decide)]) (fun b x y => hM _ (by omega))).cR (hk 10 (by decide) (by decide) (by decide)) (fun b x y => hN.1 b (by omega)), ?_, ?_⟩
  · unfold r1; rw [hM 2 (by decide), hM 4 (by decide), hk 0 (by decide) (by decide) (by decide), hk 1 (by decide) (by decide) (by decide)]; exact h1
  · rw [hM 24 (by decide), hM 25 (by decide), hN.1 401 (by decide), hN.1 402 (by decide), hN.1 403 (by decide)]; exact h3
  · unfold r4; rw [hM 22 (by decide), hk 8 (by decide) (by decide) (by decide), hk 9 (by decide) (by decide) (by decide)]; exact h4
  · rw [hM 3 (by decide), hN.1 413 (by decide)]; exact h6
  · unfold r7; rw [hM 6 (by decide), hM 7 (by decide), hM 8 (by decide), hM 9 (by decide), hk 21 (by decide) (by decide) (by decide), hN.1 414 (by decide), hN.1 415 (by decide), hN.1 416 (by decide)]; exact h7
theorem o_fuse (h : gRl M N c K) (n : Int32) : bi (pFuse n) = bi (pIn n 0 50) ∧ gRl (fuM M n) (mfu N n) c K := by
  have e : pFuse n ↔ pIn n 0 50 := and_congr Iff.rfl ⟨fun q => Int32.not_lt.mpr q, fun q => Int32.not_lt.mp q⟩
  refine ⟨bi_c e, ?_⟩
  unfold fuM mfu
  by_cases g : pIn n 0 50
  · rw [if_pos (e.mpr g), if_pos g]
    obtain ⟨t, ht, hnt⟩ := nI_of g.1
    subst hnt
    have ht5 : t ≤ 50 := by
      rcases Nat.lt_or_ge 50 t with q | q
      · exact absurd ((nI_ltI (a := 50) (by decide) ht).mpr q) g.2
      · exact q
    refine (h.cR (eR_mF (N := N))).fu (fun b hb => gst_ne _ _ _ _ hb) ⟨fun b hb => by rw [gst_ne _ _ _ _ hb, gst_ne _ _ _ _ hb], fun k _ a b => by rw [gst_same, upd_n _ _ b, gst_same, upd_n _ _ a]⟩ (Or.inr ⟨t, ht5, ?_, ?_, ?_⟩)
    · rw [gst_same, upd_s]
    · rw [gst_same, upd_n _ _ (by decide), gst_same, upd_s]
    · rw [gst_same, upd_s]
  · rw [if_neg (fun q => g (e.mp q)), if_neg g]
    exact h.cR eR_mF
end gOps

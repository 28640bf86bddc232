/-! the other calls, on both sides -/
section gOps3
variable {M N : gMe} {c : Nat} {K : Nat → Nat → Nat}
/-! 13: owner -/
theorem o_owner (h : gRl M N c K) (x : Int32) : (if pPrin x then M 24 x.toNatClampNeg else -1) = (if pIn x 0 5 ∧ ¬ N 401 x.toNatClampNeg = 0 then N 402 x.toNatClampNeg else -1) := by
  by_cases e : pIn x 0 5
  · obtain ⟨o, ho, rfl⟩ := in_n (k := 5) (by decide) e
    rw [if_pos ((prin_in _).mpr e), nI_clamp (by omega)]
    rcases (h.2.2.1 o (by omega)).1 with ⟨h1, h2⟩ | ⟨h1, a, ha, h2, h3⟩
    · rw [if_neg (fun q => q.2 h1), h2]
    · rw [if_pos ⟨e, by rw [h1]; decide⟩, h2, h3]
  · rw [if_neg (fun q => e ((prin_in _).mp q)), if_neg (fun q => e q.1)]
/-! 15: valid -/
theorem o_valid (h : gRl M N c K) (x : Int32) : bi (pVd M c x) = bi (pHz N c x) := by
  apply bi_c
  have hc := h.ck.2.2.2.2
  unfold pVd pHz
  constructor
  · rintro ⟨a, b, d⟩
    obtain ⟨n, h1, h2, rfl, h4⟩ := pIn_n hc ⟨a, b⟩
    rw [h4] at d ⊢
    exact ⟨⟨a, b⟩, (h.vl n h1 h2).mp d⟩
  · rintro ⟨a, d⟩
    obtain ⟨n, h1, h2, rfl, h4⟩ := pIn_n hc a
    rw [h4] at d ⊢
    exact ⟨a.1, a.2, (h.vl n h1 h2).mpr d⟩
/-! 3: a credential is revoked -/
theorem o_revoked (h : gRl M N c K) {n : Nat} (h1 : 1 ≤ n) (h2 : n ≤ c) : gRl (gst M (cP n) 5 1) (gst N 412 n 1) c K := by
  obtain ⟨q1, q2, q3, q4, ⟨a1, a2, a3, a4, a5⟩, q6, q7⟩ := h
  have hcn : 202 ≤ cP n ∧ cP n ≤ 248 := by have := a1.1; unfold cP; omega
  have hM : ∀ b, b < 100 → gst M (cP n) 5 1 b = M b := fun b hb => gst_ne _ _ _ _ (by omega)
  have hN : ∀ b, b ≠ 412 → gst N 412 n 1 b = N b := fun b hb => gst_ne _ _ _ _ hb
  unfold gRl
  rw [hM 2 (by decide), hM 4 (by decide), hM 23 (by decide), hM 24 (by decide), hM 25 (by decide), hM 22 (by decide), hM 3 (by decide), hM 6 (by decide), hM 7 (by decide), hM 8 (by decide), hM 9 (by decide), hN 400 (by decide), hN 401 (by decide), hN 402 (by decide), hN 403 (by decide), hN 413 (by decide), hN 414 (by decide), hN 415 (by decide), hN 416 (by decide)]
  refine ⟨q1, q2, q3, q4, ⟨⟨a1.1, by rw [hM 5 (by decide)]; exact a1.2.1, by rw [hN 400 (by decide)]; exact a1.2.2⟩, fun m x y => ?_, fun m x y => gMr.eq9 (a3 m x y) (fun b p q => by rw [hN b (by omega)]), fun m x y => ?_, fun m x y => ?_⟩, q6, q7⟩
  · obtain ⟨z1, z2, z3, z4⟩ := a2 m x y
    refine ⟨z1, ?_, ?_, fun i hi => ?_⟩
    · by_cases e : m = n
      · subst e; rw [gst_same, upd_n _ _ (by decide)]; exact z2
      · rw [gst_ne _ _ _ _ (by unfold cP; omega)]; exact z2
    · by_cases e : m = n
      · subst e; rw [gst_same, upd_n _ _ (by decide)]; exact z3
      · rw [gst_ne _ _ _ _ (by unfold cP; omega)]; exact z3
    · rw [gst_ne _ _ _ _ (by unfold cP; omega)]; exact z4 i hi
  · obtain ⟨z1, z2, z3, z4, z5⟩ := a4 m x y
    rw [hN 410 (by decide), hN 411 (by decide), gst_same]
    by_cases e : m = n
    · subst e
      rw [gst_same, upd_n _ _ (by decide), upd_n _ _ (by decide), upd_s, upd_s]
      exact ⟨z1, z2, z3, rfl, Or.inr rfl⟩
    · rw [gst_ne _ _ _ _ (show cP m ≠ cP n by unfold cP; omega), upd_n _ _ e]
      exact ⟨z1, z2, z3, z4, z5⟩
  · rw [gst_same, upd_n _ _ (by omega)]; exact a5 m x y
/-! 10: a check -/
theorem gRl.d (h : gRl M N c K) : ∃ n, n ≤ 40 ∧ M 6 3 = nI n ∧ N 400 21 = nI n := by
  obtain ⟨d, h1, h2, h3, -⟩ := h.2.2.2.2.2.2
  exact ⟨d, h1, h2, h3⟩
theorem gRl.row (h : gRl M N c K) {n : Nat} (hn : M 6 3 = nI n) (h4 : n ≤ 40) : ∀ i, i < n → M 7 i = N 414 i ∧ M 8 i = N 415 i ∧ M 9 i = N 416 i := by
  obtain ⟨d, h1, h2, h3, hrow⟩ := h.2.2.2.2.2.2
  have e : d = n := (nI_eqI (by omega) (by omega)).mp (h2.symm.trans hn)
  subst e; exact hrow
theorem o_check (h : gRl M N c K) {n : Nat} (hn : M 6 3 = nI n) (h4 : n ≤ 40) {a p r o : Nat} (ha : a < 6) (hp : p < 6) (hr : r < 4) (ho : o < 6) : (apR c n M (nI a) (nI p) (nI r) (nI o)).1 = (pwR c n N (nI a) (nI p) (nI r) (nI o)).1 ∧ gRl (apR c n M (nI a) (nI p) (nI r) (nI o)).2 (pwR c n N (nI a) (nI p) (nI r) (nI o)).2 c K :=
  ⟨ap_sim h4 h.ck (h.row hn h4) ha hp hr ho, (h.cC (fun b hb => apR_fr h4 b (by omega))).cR (eR_7 (fun b hb => pwR_fr b hb))⟩
/-! 11: a request, behind the proof -/
theorem o_done (h : gRl M N c K) {p r o : Nat} (hp : p < 6) (hr : r < 4) (ho : o < 6) (hop : pOpen M (nI r) o) (v n : Int32) : coR (lgAdd M (nI p) (nI r) (nI o) n) r o = dnR (gst (gst N 400 9 (((N 400 9 ^^^ nI p) * 31 + 8 * nI r + nI o) * 31 + n)) 400 8 (N 400 8 + 1)) r o ∧ gRl (coM (lgAdd M (nI p) (nI r) (nI o) n) (nI p) r o v) (dnM (gst (gst N 400 9 (((N 400 9 ^^^ nI p) * 31 + 8 * nI r + nI o) * 31 + n)) 400 8 (N 400 8 + 1)) (nI p) r o v) c K := by
  have hA : gRl (lgAdd M (nI p) (nI r) (nI o) n) (gst (gst N 400 9 (((N 400 9 ^^^ nI p) * 31 + 8 * nI r + nI o) * 31 + n)) 400 8 (N 400 8 + 1)) c K := by
    obtain ⟨q1, q2, q3, q4, q5, q6, q7⟩ := h
    have hM : ∀ b, b ≠ 22 → lgAdd M (nI p) (nI r) (nI o) n b = M b := fun b hb => by unfold lgAdd; rw [gst_ne _ _ _ _ hb, gst_ne _ _ _ _ hb]
    have hN : ∀ b, b ≠ 400 → gst (gst N 400 9 (((N 400 9 ^^^ nI p) * 31 + 8 * nI r + nI o) * 31 + n)) 400 8 (N 400 8 + 1) b = N b := fun b hb => by rw [gst_ne _ _ _ _ hb, gst_ne _ _ _ _ hb]
    have hk : ∀ k, k ≠ 8 → k ≠ 9 → gst (gst N 400 9 (((N 400 9 ^^^ nI p) * 31 + 8 * nI r + nI o) * 31 + n)) 400 8 (N 400 8 + 1) 400 k = N 400 k := fun k a b => by rw [gst_same, upd_n _ _ a, gst_same, upd_n _ _ b]
    unfold gRl r1 r2 r7
    rw [hM 2 (by decide), hM 4 (by decide), hM 23 (by decide), hM 24 (by decide), hM 25 (by decide), hM 3 (by decide), hM 6 (by decide), hM 7 (by decide), hM 8 (by decide), hM 9 (by decide), hN 401 (by decide), hN 402 (by decide), hN 403 (by decide), hN 413 (by decide), hN 414 (by decide), hN 415 (by decide), hN 416 (by decide), hk 0 (by decide) (by decide), hk 1 (by decide) (by decide), hk 3 (by decide) (by decide), hk 4 (by decide) (by decide), hk 21 (by decide) (by decide)]
    refine ⟨q1, q2, q3, ⟨?_, ?_⟩, (q5.cC (by rw [hM 5 (by decide)]) (fun b x y => hM _ (by omega))).cR (hk 10 (by decide) (by decide)) (fun b x y => hN _ (by omega)), q6, q7⟩
    · unfold lgAdd
      rw [gst_same, upd_n _ _ (by decide), gst_same, upd_s, gst_same, upd_s, q4.1]
    · unfold lgAdd
      rw [gst_same, upd_s, gst_same, upd_n _ _ (by decide), gst_same, upd_n _ _ (by decide), gst_same, upd_s, q4.2]
  have hopA : pOpen (lgAdd M (nI p) (nI r) (nI o) n) (nI r) o := by
    unfold pOpen lgAdd
    rw [gst_ne _ _ _ _ (by decide), gst_ne _ _ _ _ (by decide)]
    exact hop
  generalize lgAdd M (nI p) (nI r) (nI o) n = M1 at hA hopA ⊢
  generalize gst (gst N 400 9 (((N 400 9 ^^^ nI p) * 31 + 8 * nI r + nI o) * 31 + n)) 400 8 (N 400 8 + 1) = N1 at hA ⊢
  obtain ⟨s1, s2⟩ := hA.2.2.1 o ho
  have up3 : ∀ (M2 N2 : gMe), (∀ b, b ≠ 24 → b ≠ 25 → M2 b = M1 b) → (∀ b, b ≠ 401 → b ≠ 402 → b ≠ 403 → N2 b = N1 b) → r3 (M2 24) (M2 25) (N2 401) (N2 402) (N2 403) → gRl M2 N2 c K := fun M2 N2 hM hN h3 => by
    obtain ⟨q1, q2, q3, q4, q5, q6, q7⟩ := hA
    unfold gRl
    rw [hM 2 (by decide) (by decide), hM 4 (by decide) (by decide), hM 23 (by decide) (by decide), hM 22 (by decide) (by decide), hM 3 (by decide) (by decide), hM 6 (by decide) (by decide), hM 7 (by decide) (by decide), hM 8 (by decide) (by decide), hM 9 (by decide) (by decide), hN 400 (by decide) (by decide) (by decide), hN 413 (by decide) (by decide) (by decide), hN 414 (by decide) (by decide) (by decide), hN 415 (by decide) (by decide) (by decide), hN 416 (by decide) (by decide) (by decide)]
    exact ⟨q1, q2, h3, q4, (q5.cC (by rw [hM 5 (by decide) (by decide)]) (fun b x y => hM _ (by omega) (by omega))).cR (by rw [hN 400 (by decide) (by decide) (by decide)]) (fun b x y => hN _ (by omega) (by omega) (by omega)), q6, q7⟩
  unfold coR dnR coM dnM
  rcases (show r = 0 ∨ r = 1 ∨ r = 2 ∨ r = 3 by omega) with rfl | rfl | rfl | rfl
  · simp only [if_pos, if_true]
    exact ⟨s2, hA⟩
  · refine ⟨s2, up3 _ _ (fun b _ y => gst_ne _ _ _ _ y) (fun b _ _ z => gst_ne _ _ _ _ z) (fun q hq => ?_)⟩
    show ((gst N1 403 o v 401 q = 0 ∧ gst M1 25 o v 24 q = -1) ∨ (gst N1 403 o v 401 q = 1 ∧ ∃ a, a < 6 ∧ gst M1 25 o v 24 q = nI a ∧ gst N1 403 o v 402 q = nI a)) ∧ gst M1 25 o v 25 q = gst N1 403 o v 403 q
    rw [gst_ne _ _ _ _ (show 401 ≠ 403 by decide), gst_ne _ _ _ _ (show 402 ≠ 403 by decide), gst_ne _ _ _ _ (show 24 ≠ 25 by decide), gst_same, gst_same]
    refine ⟨(hA.2.2.1 q hq).1, ?_⟩
    by_cases e : q = o
    · subst e; rw [upd_s, upd_s]
    · rw [upd_n _ _ e, upd_n _ _ e]; exact (hA.2.2.1 q hq).2
  · have hthere : N1 401 o = 1 ∧ ∃ a, a < 6 ∧ M1 24 o = nI a ∧ N1 402 o = nI a := by
      rcases s1 with ⟨-, g2⟩ | g
      · exact absurd g2 (hopA.resolve_left (fun z => absurd z.1 (by decide))).2
      · exact g
    obtain ⟨t1, a, ha, t2, t3⟩ := hthere
    refine ⟨by show M1 24 o = N1 402 o; rw [t2, t3], ?_⟩
    show gRl (gst M1 24 o (if pPrin v then v else -1)) (if pIn v 0 5 then gst N1 402 o v else gst N1 401 o 0) c K
    by_cases e9 : pIn v 0 5
    · rw [if_pos ((prin_in v).mpr e9), if_pos e9]
      obtain ⟨w, hw, rfl⟩ := in_n (k := 5) (by decide) e9
      refine up3 _ _ (fun b y _ => gst_ne _ _ _ _ y) (fun b _ z _ => gst_ne _ _ _ _ z) (fun q hq => ?_)
      rw [gst_ne _ _ _ _ (show 401 ≠ 402 by decide), gst_ne _ _ _ _ (show 403 ≠ 402 by decide), gst_ne _ _ _ _ (show 25 ≠ 24 by decide), gst_same, gst_same]
      refine ⟨?_, (hA.2.2.1 q hq).2⟩
      by_cases e : q = o
      · subst e; rw [upd_s, upd_s]; exact Or.inr ⟨t1, w, by omega, rfl, rfl⟩
      · rw [upd_n _ _ e, upd_n _ _ e]; exact (hA.2.2.1 q hq).1
    · rw [if_neg (fun q => e9 ((prin_in v).mp q)), if_neg e9]
      refine up3 _ _ (fun b y _ => gst_ne _ _ _ _ y) (fun b z _ _ => gst_ne _ _ _ _ z) (fun q hq => ?_)
      rw [gst_ne _ _ _ _ (show 402 ≠ 401 by decide), gst_ne _ _ _ _ (show 403 ≠ 401 by decide), gst_ne _ _ _ _ (show 25 ≠ 24 by decide), gst_same, gst_same]
      refine ⟨?_, (hA.2.2.1 q hq).2⟩
      by_cases e : q = o
      · subst e; rw [upd_s, upd_s]; exact Or.inl ⟨rfl, rfl⟩
      · rw [upd_n _ _ e, upd_n _ _ e]; exact (hA.2.2.1 q hq).1
  · refine ⟨rfl, up3 _ _ (fun b x y => by show gst (gst M1 24 o (nI p)) 25 o v b = _; rw [gst_ne _ _ _ _ y, gst_ne _ _ _ _ x]) (fun b x y z => by show gst (gst (gst N1 401 o 1) 402 o (nI p)) 403 o v b = _; rw [gst_ne _ _ _ _ z, gst_ne _ _ _ _ y, gst_ne _ _ _ _ x]) (fun q hq => ?_)⟩
    show ((gst (gst (gst N1 401 o 1) 402 o (nI p)) 403 o v 401 q = 0 ∧ gst (gst M1 24 o (nI p)) 25 o v 24 q = -1) ∨ (gst (gst (gst N1 401 o 1) 402 o (nI p)) 403 o v 401 q = 1 ∧ ∃ a, a < 6 ∧ gst (gst M1 24 o (nI p)) 25 o v 24 q = nI a ∧ gst (gst (gst N1 401 o 1) 402 o (nI p)) 403 o v 402 q = nI a)) ∧ gst (gst M1 24 o (nI p)) 25 o v 25 q = gst (gst (gst N1 401 o 1) 402 o (nI p)) 403 o v 403 q
    rw [gst_ne _ _ _ _ (show 401 ≠ 403 by decide), gst_ne _ _ _ _ (show 401 ≠ 402 by decide), gst_ne _ _ _ _ (show 402 ≠ 403 by decide), gst_ne _ _ _ _ (show 24 ≠ 25 by decide), gst_same, gst_same, gst_same, gst_same, gst_same, gst_ne _ _ _ _ (show 402 ≠ 401 by decide), gst_ne _ _ _ _ (show 25 ≠ 24 by decide), gst_ne _ _ _ _ (show 403 ≠ 402 by decide), gst_ne _ _ _ _ (show 403 ≠ 401 by decide)]
    by_cases e : q = o
    · subst e; rw [upd_s, upd_s, upd_s, upd_s, upd_s]; exact ⟨Or.inr ⟨rfl, p, hp, rfl, rfl⟩, rfl⟩
    · rw [upd_n _ _ e, upd_n _ _ e, upd_n _ _ e, upd_n _ _ e, upd_n _ _ e]; exact hA.2.2.1 q hq
end gOps3

/-! the whole proof, checked on both sides -/
theorem gCk.mv {M N M' N' : gMe} {c : Nat} {K : Nat → Nat → Nat} (H : gCk M N c K) (hM : ∀ b, (b < 100 ∨ 140 ≤ b) → M' b = M b) (hN : ∀ b, b ≠ 417 → N' b = N b) : gCk M' N' c K := by
  obtain ⟨h1, h2, h3, h4, h5⟩ := H
  refine ⟨fun n a b => (h1 n a b).mv (hM _ (Or.inr (by unfold cP; omega))) (hM _ (Or.inr (by unfold cP; omega))), fun n a b => ?_, h3, fun n a b => ?_, h5⟩
  · have h9 := h2 n a b
    unfold gMr at h9 ⊢
    rw [hN 404 (by decide), hN 405 (by decide), hN 406 (by decide), hN 407 (by decide), hN 408 (by decide), hN 409 (by decide)]
    exact h9
  · have h9 := h4 n a b
    unfold pVal pHo at h9 ⊢
    rw [hM (cP n) (Or.inr (by unfold cP; omega)), hM 4 (Or.inl (by decide)), hN 412 (by decide), hN 410 (by decide), hN 411 (by decide), hN 400 (by decide)]
    exact h9
theorem ac_sim {c n : Nat} {K : Nat → Nat → Nat} (hn : n ≤ 40) : ∀ (d k : Nat) (M N : gMe), k + d = n → gCk M N c K → (∀ i, i < n → M 7 i = N 414 i ∧ M 8 i = N 415 i ∧ M 9 i = N 416 i) → (∀ j, j < k → ∃ f, FR M (100 + j) (N 417 j) f) → ((acR c d k M).1 = 1 ∧ (pwL c d k N).1 = 1 ∧ ∀ j, j < n → ∃ f, FR (acR c d k M).2 (100 + j) ((pwL c d k N).2 417 j) f) ∨ ((acR c d k M).1 = 0 ∧ (pwL c d k N).1 = 0)
  | 0, k, M, N, hk, _, _, hF => Or.inl ⟨rfl, rfl, fun j hj => hF j (by omega)⟩
  | d + 1, k, M, N, hk, H, hrow, hF => by
    obtain ⟨r1, r2, r3⟩ := hrow k (by omega)
    have hs := step_sim H (show k < 40 by omega) (N 414 k) (N 415 k) (N 416 k) hF
    have eA : acR c (d + 1) k M = if (foR c M (N 414 k) (N 415 k) (N 416 k) k).1 = 0 then (0, (foR c M (N 414 k) (N 415 k) (N 416 k) k).2) else acR c d (k + 1) (foR c M (N 414 k) (N 415 k) (N 416 k) k).2 := by
      rw [acR, r1, r2, r3]
    have eP : pwL c (d + 1) k N = if pvI N c k = 0 then (0, gst N 417 k (pvI N c k)) else pwL c d (k + 1) (gst N 417 k (pvI N c k)) := by rw [pwL]
    rw [eA, eP]
    change ckS _ (pvI N c k) _ at hs
    rcases hs with ⟨g1, f, hf⟩ | ⟨g1, g2⟩
    · rw [if_neg (by rw [g1]; decide), if_neg hf.nz]
      have hne : ∀ b, b ≠ 100 + k → (foR c M (N 414 k) (N 415 k) (N 416 k) k).2 b = M b := fun b hb => foR_ne hb
      refine ac_sim hn d (k + 1) _ _ (by omega) (H.mv (fun b hb => hne b (by omega)) (fun b hb => gst_ne _ _ _ _ hb)) (fun i hi => ?_) (fun j hj => ?_)
      · rw [hne 7 (by omega), hne 8 (by omega), hne 9 (by omega), gst_ne _ _ _ _ (show 414 ≠ 417 by decide), gst_ne _ _ _ _ (show 415 ≠ 417 by decide), gst_ne _ _ _ _ (show 416 ≠ 417 by decide)]
        exact hrow i hi
      · rw [gst_same]
        by_cases e : j = k
        · subst e; rw [upd_s]; exact ⟨f, hf⟩
        · rw [upd_n _ _ e]
          obtain ⟨f9, h9⟩ := hF j (by omega)
          exact ⟨f9, h9.1, fun i hi => by rw [hne _ (by omega)]; exact h9.2.1 i hi, h9.2.2⟩
    · rw [if_pos g1, if_pos g2]
      exact Or.inr ⟨rfl, rfl⟩
/-- both sides answer alike -/
theorem ap_sim {M N : gMe} {c n : Nat} {K : Nat → Nat → Nat} (hn : n ≤ 40) (H : gCk M N c K) (hrow : ∀ i, i < n → M 7 i = N 414 i ∧ M 8 i = N 415 i ∧ M 9 i = N 416 i) {a p r o : Nat} (ha : a < 6) (hp : p < 6) (hr : r < 4) (ho : o < 6) : (apR c n M (nI a) (nI p) (nI r) (nI o)).1 = (pwR c n N (nI a) (nI p) (nI r) (nI o)).1 := by
  unfold apR pwR
  by_cases h0 : n = 0
  · subst h0
    rw [if_pos rfl, if_neg (show ¬ (acR c 0 0 M).1 = 0 by rw [acR]; exact (show ¬ (1 : Int32) = 0 by decide))]
    have h9 : ¬ (0 < 0 ∧ pMay (acR c 0 0 M).2 (100 + (0 - 1)) (nI a) (nI p) (nI r) (nI o)) := fun g => absurd g.1 (by omega)
    exact bi_f h9
  · rw [if_neg h0]
    rcases ac_sim hn n 0 M N (by omega) H hrow (fun j hj => absurd hj (by omega)) with ⟨g1, g2, g3⟩ | ⟨g1, g2⟩
    · rw [if_neg (by rw [g1]; decide)]
      obtain ⟨f, hf1, hf2, hf3⟩ := g3 (n - 1) (by omega)
      show bi _ = bi _
      apply bi_c
      obtain ⟨f0, f1, f2, f3, f4, f5, f6, f7⟩ := id hf1
      unfold pMay
      rw [hf2 0 (by decide), hf2 1 (by decide), hf2 2 (by decide), hf2 3 (by decide), hf2 4 (by decide), hf3, k1, k0, fc_n, nI_eqI (pkF_b hf1).2.1 (by unfold pkN; omega), c3 f0 (by decide), ff (show f 1 < 8 by omega) (show a < 8 by omega), ff (show f 2 < 8 by omega) (show p < 8 by omega), ff (show f 3 < 8 by omega) (show r < 8 by omega), ff (show f 4 < 8 by omega) (show o < 8 by omega)]
      constructor
      · rintro ⟨-, e0, e1, e2, e3, e4⟩
        refine ⟨by rw [g2]; decide, ?_⟩
        unfold pkF
        rw [if_neg (by omega), e0, e1, e2, e3, e4, f6 e0]
      · rintro ⟨-, e⟩
        have e0 : f 0 = 0 := by
          unfold pkF pkN at e
          split at e <;> omega
        unfold pkF pkN at e
        rw [if_neg (by omega)] at e
        exact ⟨by omega, e0, by omega, by omega, by omega, by omega⟩
    · rw [if_pos g1]
      show 0 = bi _
      exact (bi_f (fun g => g.1 g2)).symm

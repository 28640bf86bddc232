/-! 1: a credential is taken, on both sides -/
theorem nn_i {x : Int32} (h : ¬ x < 0) : x = nI x.toNatClampNeg := by
  obtain ⟨n, hn, rfl⟩ := nI_of h
  rw [nI_clamp hn]
theorem in_lt {x : Int32} {k : Nat} (hk : k < 100) (h : pIn x 0 (nI k)) : x = nI x.toNatClampNeg ∧ x.toNatClampNeg < k + 1 := by
  obtain ⟨n, hn, rfl⟩ := in_n hk h
  rw [nI_clamp (by omega)]
  exact ⟨rfl, by omega⟩
/-- the numbers of the new credential -/
def nwK (N : gMe) (i k : Int32) : Nat → Nat
  | 0 => i.toNatClampNeg
  | 1 => k.toNatClampNeg
  | 2 => (N 413 0).toNatClampNeg
  | 3 => (slB k (N 413 1)).toNatClampNeg
  | 4 => (slC k (N 413 2)).toNatClampNeg
  | 5 => (slD k (N 413 3)).toNatClampNeg
  | _ => 0
theorem nwK_ok {N : gMe} {i k : Int32} (hi : pIn i 0 5) (hf : pFit N k) : kOK (nwK N i k) ∧ kNm (nwK N i k) ∧ i = nI (nwK N i k 0) ∧ k = nI (nwK N i k 1) ∧ N 413 0 = nI (nwK N i k 2) ∧ slB k (N 413 1) = nI (nwK N i k 3) ∧ slC k (N 413 2) = nI (nwK N i k 4) ∧ slD k (N 413 3) = nI (nwK N i k 5) ∧ (¬ nwK N i k 1 = 1 → N 413 1 = nI (nwK N i k 3)) ∧ (nwK N i k 1 = 0 ∨ nwK N i k 1 = 2 → N 413 2 = nI (nwK N i k 4)) ∧ (nwK N i k 1 = 2 → N 413 3 = nI (nwK N i k 5)) := by
  have e0 : nwK N i k 0 = i.toNatClampNeg := rfl
  have e1 : nwK N i k 1 = k.toNatClampNeg := rfl
  have e2 : nwK N i k 2 = (N 413 0).toNatClampNeg := rfl
  have e3 : nwK N i k 3 = (slB k (N 413 1)).toNatClampNeg := rfl
  have e4 : nwK N i k 4 = (slC k (N 413 2)).toNatClampNeg := rfl
  have e5 : nwK N i k 5 = (slD k (N 413 3)).toNatClampNeg := rfl
  obtain ⟨i1, i2⟩ := in_lt (k := 5) (by decide) hi
  have z0 : (0 : Int32).toNatClampNeg = 0 := by decide
  rcases hf with ⟨rfl, h0, h1, h2⟩ | ⟨rfl, h0⟩ | ⟨rfl, h0, h1⟩ | ⟨rfl, h0, h1, h2, h3⟩
  · obtain ⟨a1, a2⟩ := in_lt (k := 5) (by decide) h0
    obtain ⟨b1, b2⟩ := in_lt (k := 3) (by decide) h1
    obtain ⟨d1, d2⟩ := in_lt (k := 5) (by decide) h2
    have hB : slB 0 (N 413 1) = N 413 1 := rfl
    have hC : slC 0 (N 413 2) = N 413 2 := rfl
    have hD : slD 0 (N 413 3) = 0 := rfl
    have ek : (0 : Int32).toNatClampNeg = 0 := z0
    unfold kOK kNm
    rw [e0, e1, e2, e3, e4, e5, hB, hC, hD, ek]
    refine ⟨⟨by omega, by omega, fun _ => ⟨by omega, by omega, by omega⟩, fun q => by omega, fun q => by omega, fun q => by omega⟩, ⟨fun _ => rfl, fun q => by omega⟩, i1, rfl, a1, b1, d1, rfl, fun _ => b1, fun _ => d1, fun q => by omega⟩
  · obtain ⟨a1, a2⟩ := in_lt (k := 5) (by decide) h0
    have hB : slB 1 (N 413 1) = 0 := rfl
    have hC : slC 1 (N 413 2) = 0 := rfl
    have hD : slD 1 (N 413 3) = 0 := rfl
    have ek : (1 : Int32).toNatClampNeg = 1 := by decide
    unfold kOK kNm
    rw [e0, e1, e2, e3, e4, e5, hB, hC, hD, ek, z0]
    refine ⟨⟨by omega, by omega, fun q => by omega, fun _ => by omega, fun q => by omega, fun q => by omega⟩, ⟨fun q => by omega, fun _ => ⟨rfl, rfl, rfl⟩⟩, i1, rfl, a1, rfl, rfl, rfl, fun q => absurd rfl q, fun q => by omega, fun q => by omega⟩
  · obtain ⟨a1, a2⟩ := in_lt (k := 3) (by decide) h0
    obtain ⟨b1, b2⟩ := in_lt (k := 3) (by decide) h1
    have hB : slB 3 (N 413 1) = N 413 1 := rfl
    have hC : slC 3 (N 413 2) = 0 := rfl
    have hD : slD 3 (N 413 3) = 0 := rfl
    have ek : (3 : Int32).toNatClampNeg = 3 := by decide
    unfold kOK kNm
    rw [e0, e1, e2, e3, e4, e5, hB, hC, hD, ek, z0]
    refine ⟨⟨by omega, by omega, fun q => by omega, fun q => by omega, fun q => by omega, fun _ => ⟨by omega, by omega⟩⟩, ⟨fun q => by omega, fun q => by omega⟩, i1, rfl, a1, b1, rfl, rfl, fun _ => b1, fun q => by omega, fun q => by omega⟩
  · obtain ⟨a1, a2⟩ := in_lt (k := 5) (by decide) h0
    obtain ⟨b1, b2⟩ := in_lt (k := 3) (by decide) h1
    obtain ⟨d1, d2⟩ := in_lt (k := 5) (by decide) h2
    obtain ⟨g1, g2⟩ := in_lt (k := 3) (by decide) h3
    have hB : slB 2 (N 413 1) = N 413 1 := rfl
    have hC : slC 2 (N 413 2) = N 413 2 := rfl
    have hD : slD 2 (N 413 3) = N 413 3 := rfl
    have ek : (2 : Int32).toNatClampNeg = 2 := by decide
    unfold kOK kNm
    rw [e0, e1, e2, e3, e4, e5, hB, hC, hD, ek]
    refine ⟨⟨by omega, by omega, fun q => by omega, fun q => by omega, fun _ => ⟨by omega, by omega, by omega, by omega⟩, fun q => by omega⟩, ⟨fun q => by omega, fun q => by omega⟩, i1, rfl, a1, b1, d1, g1, fun _ => b1, fun _ => d1, fun _ => g1⟩
theorem o_sub {M N M' : gMe} {c : Nat} {K : Nat → Nat → Nat} {i k f t : Int32} (h24 : c < 24) (hr : gRl (fzM M) (rcM N) c K) (hi : pIn i 0 5) (hf : pFit (rcM N) k) (hQ : sbQ M M' c i k f t) : ∃ K', gRl M' (sbS (rcM N) (c + 1) i k f t) (c + 1) K' := by
  obtain ⟨p1, p2, p3, p4, p5⟩ := hQ
  have hcp : 202 ≤ cP (c + 1) ∧ cP (c + 1) ≤ 248 := by unfold cP; omega
  generalize rcM N = B at hr hf ⊢
  have hM : ∀ b, b ≠ 5 → (b < 26 ∨ (202 ≤ b ∧ b < cP (c + 1))) → M' b = fzM M b := fun b h5 hb => by
    by_cases e : b = 23
    · subst e; exact p2
    · rw [fzM_ne e]; exact p1 b h5 e (by omega)
  have s1 : ∀ b, b ≠ 400 → (b < 404 ∨ 412 ≤ b) → sbS B (c + 1) i k f t b = B b := fun b h4 hb => by
    unfold sbS
    rw [gst_ne _ _ _ _ (by omega), gst_ne _ _ _ _ (by omega), gst_ne _ _ _ _ (by omega), gst_ne _ _ _ _ (by omega), gst_ne _ _ _ _ (by omega), gst_ne _ _ _ _ (by omega), gst_ne _ _ _ _ (by omega), gst_ne _ _ _ _ (by omega), gst_ne _ _ _ _ h4]
  have s2 : sbS B (c + 1) i k f t 400 = upd (B 400) 10 (nI (c + 1)) := by
    unfold sbS
    rw [gst_ne _ _ _ _ (by decide), gst_ne _ _ _ _ (by decide), gst_ne _ _ _ _ (by decide), gst_ne _ _ _ _ (by decide), gst_ne _ _ _ _ (by decide), gst_ne _ _ _ _ (by decide), gst_ne _ _ _ _ (by decide), gst_ne _ _ _ _ (by decide), gst_same]
  have s3 : ∀ b n, 404 ≤ b → b < 412 → n ≠ c + 1 → sbS B (c + 1) i k f t b n = B b n := fun b n h1 h2 hn => by
    unfold sbS
    simp only [gst_at, hn, and_false, if_false]
    rcases (show b = 404 ∨ b = 405 ∨ b = 406 ∨ b = 407 ∨ b = 408 ∨ b = 409 ∨ b = 410 ∨ b = 411 by omega) with rfl | rfl | rfl | rfl | rfl | rfl | rfl | rfl <;> simp
  have s4 : sbS B (c + 1) i k f t 404 (c + 1) = i ∧ sbS B (c + 1) i k f t 405 (c + 1) = k ∧ sbS B (c + 1) i k f t 406 (c + 1) = B 413 0 ∧ sbS B (c + 1) i k f t 407 (c + 1) = B 413 1 ∧ sbS B (c + 1) i k f t 408 (c + 1) = B 413 2 ∧ sbS B (c + 1) i k f t 409 (c + 1) = B 413 3 ∧ sbS B (c + 1) i k f t 410 (c + 1) = f ∧ sbS B (c + 1) i k f t 411 (c + 1) = t := by
    unfold sbS
    refine ⟨?_, ?_, ?_, ?_, ?_, ?_, ?_, ?_⟩ <;> simp [gst_at]
  obtain ⟨q1, q2, q3, q4, ⟨a1, a2, a3, a4, a5⟩, q6, q7⟩ := hr
  obtain ⟨k1, k2, k3, k4, k5, k6, k7, k8, k9, k10, k11⟩ := nwK_ok (N := B) hi hf
  have h3 : ∀ j, M 3 j = B 413 j := fun j => by have := q6 j; rwa [fzM_ne (by decide)] at this
  obtain ⟨c1, c2, c3, c4, c5, c6, c7, c8⟩ := crM_at (M := va_up M (cP (c + 1)) (fun _ => 0)) (a := cP (c + 1)) (n := cP (c + 1) + 1) (b := 3) (i := i) (k := k) (f := f) (t := t) (by omega)
  have v3 : va_up M (cP (c + 1)) (fun _ => 0) 3 = M 3 := va_up_ne _ _ (by omega)
  rw [v3] at c5 c6 c7 c8
  have c9 : sb1 M (cP (c + 1)) i k f t (cP (c + 1)) 5 = 0 := by
    unfold sb1 crM cr2
    simp [gst_at, va_up]
  refine ⟨fun n => if n = c + 1 then nwK B i k else K n, ?_, ?_, ?_, ?_, ⟨⟨by omega, p3, by rw [s2, upd_s]⟩, fun n x y => ?_, fun n x y => ?_, fun n x y => ?_, fun n x y => ?_⟩, ?_, ?_⟩
  · unfold r1; rw [hM 2 (by decide) (by omega), hM 4 (by decide) (by omega), s2, upd_n _ _ (by decide), upd_n _ _ (by decide)]; exact q1
  · unfold r2; rw [hM 23 (by decide) (by omega), s2, upd_n _ _ (by decide), upd_n _ _ (by decide)]; exact q2
  · rw [hM 24 (by decide) (by omega), hM 25 (by decide) (by omega), s1 401 (by decide) (by decide), s1 402 (by decide) (by decide), s1 403 (by decide) (by decide)]; exact q3
  · unfold r4; rw [hM 22 (by decide) (by omega), s2, upd_n _ _ (by decide), upd_n _ _ (by decide)]; exact q4
  · by_cases e : n = c + 1
    · subst e
      simp only [if_pos]
      refine ⟨k1, ?_, ?_, fun j hj => ?_⟩
      · rw [p4]; exact c1.trans k3
      · rw [p4]; exact c2.trans k4
      · rw [p5]
        rcases (show j = 0 ∨ j = 1 ∨ j = 2 ∨ j = 3 by omega) with rfl | rfl | rfl | rfl
        · exact c5.trans ((h3 0).trans k5)
        · exact c6.trans (by rw [h3 1]; exact k6)
        · exact c7.trans (by rw [h3 2]; exact k7)
        · exact c8.trans (by rw [h3 3]; exact k8)
    · simp only [if_neg e]
      exact (a2 n x (by omega)).mv (hM _ (by unfold cP; omega) (by unfold cP at *; omega)) (hM _ (by unfold cP; omega) (by unfold cP at *; omega))
  · by_cases e : n = c + 1
    · subst e
      simp only [if_pos]
      obtain ⟨g1, g2, g3, g4, g5, g6, -, -⟩ := s4
      refine ⟨k1, g1.trans k3, g2.trans k4, g3.trans k5, fun q => g4.trans (k9 q), fun q => g5.trans (k10 q), fun q => g6.trans (k11 q)⟩
    · simp only [if_neg e]
      exact gMr.eq9 (a3 n x (by omega)) (fun b p q => s3 b n p (by omega) e)
  · by_cases e : n = c + 1
    · subst e
      simp only [if_pos]
      rw [s4.2.2.2.2.2.2.1, s4.2.2.2.2.2.2.2, s1 412 (by decide) (by decide), p4]
      exact ⟨k2, c3, c4, c9.trans (a5 (c + 1) (by omega) (by omega)).symm, Or.inl (a5 (c + 1) (by omega) (by omega))⟩
    · simp only [if_neg e]
      rw [hM _ (by unfold cP; omega) (by unfold cP at *; omega), s3 410 n (by decide) (by decide) e, s3 411 n (by decide) (by decide) e, s1 412 (by decide) (by decide)]
      exact a4 n x (by omega)
  · rw [s1 412 (by decide) (by decide)]; exact a5 n (by omega) y
  · rw [hM 3 (by decide) (by omega), s1 413 (by decide) (by decide)]; exact q6
  · unfold r7
    rw [hM 6 (by decide) (by omega), hM 7 (by decide) (by omega), hM 8 (by decide) (by omega), hM 9 (by decide) (by omega), s2, upd_n _ _ (by decide), s1 414 (by decide) (by decide), s1 415 (by decide) (by decide), s1 416 (by decide) (by decide)]; exact q7

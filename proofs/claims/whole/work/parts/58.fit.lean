/-! class and reference: which credentials are fit -/
theorem lt6 (x : Int32) : x < 6 ↔ ¬ 5 < x := by
  have h6 : (6 : Int32).toInt = 6 := by decide
  have h5 : (5 : Int32).toInt = 5 := by decide
  rw [Int32.lt_iff_toInt_lt, Int32.lt_iff_toInt_lt, h6, h5]; omega
theorem lt4 (x : Int32) : x < 4 ↔ ¬ 3 < x := by
  have h6 : (4 : Int32).toInt = 4 := by decide
  have h5 : (3 : Int32).toInt = 3 := by decide
  rw [Int32.lt_iff_toInt_lt, Int32.lt_iff_toInt_lt, h6, h5]; omega
theorem prin_in (x : Int32) : pPrin x ↔ pIn x 0 5 := by
  unfold pPrin pIn
  rw [← lt6, Int32.not_le]
theorem in3_lt (x : Int32) : (¬ x < 0 ∧ x < 4) ↔ pIn x 0 3 := by unfold pIn; rw [lt4]
theorem in5_lt (x : Int32) : (¬ x < 0 ∧ x < 6) ↔ pIn x 0 5 := by unfold pIn; rw [lt6]
theorem all4 {p : Nat → Prop} : (∀ i, i < 4 → p i) ↔ (p 0 ∧ p 1 ∧ p 2 ∧ p 3) := by
  constructor
  · intro h; exact ⟨h 0 (by decide), h 1 (by decide), h 2 (by decide), h 3 (by decide)⟩
  · rintro ⟨h0, h1, h2, h3⟩ i hi
    rcases (show i = 0 ∨ i = 1 ∨ i = 2 ∨ i = 3 by omega) with h | h | h | h <;> subst h <;> assumption
theorem wf_fit {M M' : gMe} {a : Nat} {i k f t : Int32} (ha : 100 ≤ a) (hg : ∀ j, M 3 j = M' 413 j) : pWf (sb1 M a i k f t) a (a + 1) ↔ (pIn i 0 5 ∧ pFit M' k) := by
  obtain ⟨g1, g2, -, -, g5, g6, g7, g8⟩ := crM_at (M := va_up M a (fun _ => 0)) (a := a) (n := a + 1) (b := 3) (i := i) (k := k) (f := f) (t := t) (by omega)
  have e3 : ∀ j, va_up M a (fun _ => 0) 3 j = M' 413 j := fun j => by rw [va_up_ne _ _ (by omega)]; exact hg j
  rw [e3] at g5 g6 g7 g8
  unfold sb1 pWf
  rw [g1, g2, prin_in, all4]
  unfold wOk
  rw [g5, g6, g7, g8]
  refine and_congr_right (fun _ => ?_)
  by_cases hk : pKind k
  · obtain ⟨kn, h4, ek, ck⟩ := pKind_n hk
    rw [ck]
    have e0 : (nI 0 ≤ (0 : Int32)) := by decide
    rcases (show kn = 0 ∨ kn = 1 ∨ kn = 2 ∨ kn = 3 by omega) with h | h | h | h <;> subst h <;> subst ek
    · have z : pFit M' (nI 0) ↔ (pIn (M' 413 0) 0 5 ∧ pIn (M' 413 1) 0 3 ∧ pIn (M' 413 2) 0 5) := by
        unfold pFit
        simp only [show (nI 0 = 0) from rfl, show ¬ ((0 : Int32) = 1) by decide, show ¬ ((0 : Int32) = 3) by decide, show ¬ ((0 : Int32) = 2) by decide, true_and, false_and, or_false]
      rw [z, show slB (nI 0) (M' 413 1) = M' 413 1 from if_neg (by decide), show slC (nI 0) (M' 413 2) = M' 413 2 from if_neg (by decide)]
      simp only [show lmI 0 0 = 6 from rfl, show lmI 0 1 = 4 from rfl, show lmI 0 2 = 6 from rfl, show lmI 0 3 = 0 from rfl, show nI 6 = 6 from rfl, show nI 4 = 4 from rfl, e0, show ¬ ((6 : Int32) ≤ 0) by decide, show ¬ ((4 : Int32) ≤ 0) by decide, false_or, true_or, and_true, in5_lt, in3_lt]
      exact ⟨fun h => h.2, fun h => ⟨hk, h⟩⟩
    · have z : pFit M' (nI 1) ↔ pIn (M' 413 0) 0 5 := by
        unfold pFit
        simp only [show (nI 1 = 1) from rfl, show ¬ ((1 : Int32) = 0) by decide, show ¬ ((1 : Int32) = 3) by decide, show ¬ ((1 : Int32) = 2) by decide, true_and, false_and, or_false, false_or]
      rw [z]
      simp only [show lmI 1 0 = 6 from rfl, show lmI 1 1 = 0 from rfl, show lmI 1 2 = 0 from rfl, show lmI 1 3 = 0 from rfl, show nI 6 = 6 from rfl, e0, show ¬ ((6 : Int32) ≤ 0) by decide, false_or, true_or, and_true, in5_lt]
      exact ⟨fun h => h.2, fun h => ⟨hk, h⟩⟩
    · have z : pFit M' (nI 2) ↔ (pIn (M' 413 0) 0 5 ∧ pIn (M' 413 1) 0 3 ∧ pIn (M' 413 2) 0 5 ∧ pIn (M' 413 3) 0 3) := by
        unfold pFit
        simp only [show (nI 2 = 2) from rfl, show ¬ ((2 : Int32) = 0) by decide, show ¬ ((2 : Int32) = 3) by decide, show ¬ ((2 : Int32) = 1) by decide, true_and, false_and, or_false, false_or]
      rw [z, show slB (nI 2) (M' 413 1) = M' 413 1 from if_neg (by decide), show slC (nI 2) (M' 413 2) = M' 413 2 from if_neg (by decide), show slD (nI 2) (M' 413 3) = M' 413 3 from if_neg (by decide)]
      simp only [show lmI 2 0 = 6 from rfl, show lmI 2 1 = 4 from rfl, show lmI 2 2 = 6 from rfl, show lmI 2 3 = 4 from rfl, show nI 6 = 6 from rfl, show nI 4 = 4 from rfl, show ¬ ((6 : Int32) ≤ 0) by decide, show ¬ ((4 : Int32) ≤ 0) by decide, false_or, in5_lt, in3_lt]
      exact ⟨fun h => h.2, fun h => ⟨hk, h⟩⟩
    · have z : pFit M' (nI 3) ↔ (pIn (M' 413 0) 0 3 ∧ pIn (M' 413 1) 0 3) := by
        unfold pFit
        simp only [show (nI 3 = 3) from rfl, show ¬ ((3 : Int32) = 0) by decide, show ¬ ((3 : Int32) = 1) by decide, show ¬ ((3 : Int32) = 2) by decide, true_and, false_and, or_false, false_or]
      rw [z, show slB (nI 3) (M' 413 1) = M' 413 1 from if_neg (by decide)]
      simp only [show lmI 3 0 = 4 from rfl, show lmI 3 1 = 4 from rfl, show lmI 3 2 = 0 from rfl, show lmI 3 3 = 0 from rfl, show nI 4 = 4 from rfl, e0, show ¬ ((4 : Int32) ≤ 0) by decide, false_or, true_or, and_true, in3_lt]
      exact ⟨fun h => h.2, fun h => ⟨hk, h⟩⟩
  · constructor
    · intro h; exact absurd h.1 hk
    · intro h
      exfalso
      apply hk
      rcases h with h | h | h | h <;> (rw [h.1]; decide)
theorem so_sl {M : gMe} {a : Nat} {i k f t : Int32} (ha : 100 ≤ a) : soI (sb1 M a i k f t) a (a + 1) = slR (M 2 0) i k (M 3 0) (M 3 1) (M 3 2) (M 3 3) f t := by
  obtain ⟨g1, g2, g3, g4, g5, g6, g7, g8⟩ := crM_at (M := va_up M a (fun _ => 0)) (a := a) (n := a + 1) (b := 3) (i := i) (k := k) (f := f) (t := t) (by omega)
  have e3 : ∀ j, va_up M a (fun _ => 0) 3 j = M 3 j := fun j => by rw [va_up_ne _ _ (by omega)]
  rw [e3] at g5 g6 g7 g8
  have e2 : sb1 M a i k f t 2 0 = M 2 0 := by rw [sb1_ne (by omega) (by omega)]
  unfold soI
  rw [e2]
  unfold mkI slR sb1
  rw [g1, g2, g3, g4, g5, g6, g7, g8]

/-! the proof is laid out alike -/
def gTq (A B : gMe) (S : Nat → Prop) : Prop := ∀ j, S j → j < 756 ∧ (B 422 (piF j), B 423 (piF j), B 424 (piF j)) = trR (A 16 j, A 17 j, A 18 j) ∧ ((A 16 j = 1 ∧ A 18 j = 0) ∨ gSh S (A 16 j, A 17 j, A 18 j))
theorem gTq.mv {A A' B B' : gMe} {S : Nat → Prop} (h : gTq A B S) (h1 : gWs A A') (h2 : gDk B B') : gTq A' B' S := by
  intro j hj
  rw [h1 16 (by decide) (by decide), h1 17 (by decide) (by decide), h1 18 (by decide) (by decide), h2.1 422 (by decide) (by decide) (by decide) (by decide), h2.1 423 (by decide) (by decide) (by decide) (by decide), h2.1 424 (by decide) (by decide) (by decide) (by decide)]
  exact h j hj
def dRel (A B : gMe) (S : Nat → Prop) (n : Nat) : Prop := n ≤ 40 ∧ A 11 3 = nI n ∧ B 400 22 = nI n ∧ (∀ j, S j → A 19 j = B 425 (piF j)) ∧ ∀ i, i < n → A 12 i = B 418 i ∧ A 13 i = B 419 i ∧ A 14 i = B 420 i
theorem dRel.sk {A B : gMe} {S : Nat → Prop} {n k : Nat} {x : Int32} (h : dRel A B S n) : dRel A (gst B 426 k x) S n := by
  unfold dRel
  rw [gst_ne _ _ _ _ (show 400 ≠ 426 by decide), gst_ne _ _ _ _ (show 425 ≠ 426 by decide), gst_ne _ _ _ _ (show 418 ≠ 426 by decide), gst_ne _ _ _ _ (show 419 ≠ 426 by decide), gst_ne _ _ _ _ (show 420 ≠ 426 by decide)]
  exact h
theorem mNt_rows {M : gMe} {f n : Nat} : mNt M f n 418 = upd (M 418) n (M 422 f) ∧ mNt M f n 419 = upd (M 419) n (if M 422 f = 1 ∨ M 422 f = 7 then M 423 f else upd (M 425) f (nI n) (M 423 f).toNatClampNeg) ∧ mNt M f n 420 = upd (M 420) n (if M 422 f = 1 then 0 else upd (M 425) f (nI n) (M 424 f).toNatClampNeg) := by
  unfold mNt
  refine ⟨?_, ?_, ?_⟩
  · rw [gst_ne _ _ _ _ (by decide), gst_ne _ _ _ _ (by decide), gst_ne _ _ _ _ (by decide), gst_same, gst_ne _ _ _ _ (by decide)]
  · rw [gst_ne _ _ _ _ (by decide), gst_ne _ _ _ _ (by decide), gst_same, gst_ne _ _ _ _ (by decide), gst_ne _ _ _ _ (by decide)]
  · rw [gst_ne _ _ _ _ (by decide), gst_same, gst_ne _ _ _ _ (by decide), gst_ne _ _ _ _ (by decide), gst_ne _ _ _ _ (by decide)]
theorem pfApp_rows {A : gMe} {n : Nat} {u x z : Int32} : pfApp A 11 n u x z 12 = upd (A 12) n u ∧ pfApp A 11 n u x z 13 = upd (A 13) n x ∧ pfApp A 11 n u x z 14 = upd (A 14) n z ∧ pfApp A 11 n u x z 11 3 = nI (n + 1) ∧ pfApp A 11 n u x z 19 = A 19 := by
  unfold pfApp
  refine ⟨?_, ?_, ?_, ?_, ?_⟩
  · rw [gst_ne _ _ _ _ (by decide), gst_ne _ _ _ _ (by decide), gst_ne _ _ _ _ (by decide), gst_same]
  · rw [gst_ne _ _ _ _ (by decide), gst_ne _ _ _ _ (by decide), gst_same, gst_ne _ _ _ _ (by decide)]
  · rw [gst_ne _ _ _ _ (by decide), gst_same, gst_ne _ _ _ _ (by decide), gst_ne _ _ _ _ (by decide)]
  · rw [gst_same, upd_s]
  · rw [gst_ne _ _ _ _ (by decide), gst_ne _ _ _ _ (by decide), gst_ne _ _ _ _ (by decide), gst_ne _ _ _ _ (by decide)]
/-- a step is written, on both sides -/
theorem note_sim {A B : gMe} {S : Nat → Prop} {n f : Nat} {u x z : Int32} (hS : S f) (hd : dRel A B S n) (hu : B 422 (piF f) = u) (hx : (if B 422 (piF f) = 1 ∨ B 422 (piF f) = 7 then B 423 (piF f) else upd (B 425) (piF f) (nI n) (B 423 (piF f)).toNatClampNeg) = x) (hz : (if B 422 (piF f) = 1 then 0 else upd (B 425) (piF f) (nI n) (B 424 (piF f)).toNatClampNeg) = z) : ((wsA A f u x z).1 = 1 ∧ dRel (wsA A f u x z).2 (mNt B (piF f) n) S (n + 1)) ∨ ((wsA A f u x z).1 = 0 ∧ n = 40) := by
  obtain ⟨h1, h2, h3, h4, h5⟩ := hd
  by_cases h9 : n < 40
  · rw [wsA_ok h2 h9]
    obtain ⟨p1, p2, p3, p4, p5⟩ := pfApp_rows (A := A) (n := n) (u := u) (x := x) (z := z)
    obtain ⟨m1, m2, m3⟩ := mNt_rows (M := B) (f := piF f) (n := n)
    refine Or.inl ⟨rfl, by omega, ?_, mNt_22, fun j hj => ?_, fun i hi => ?_⟩
    · show gst (pfApp A 11 n u x z) 19 f (nI n) 11 3 = _
      rw [gst_ne _ _ _ _ (by decide)]; exact p4
    · show gst (pfApp A 11 n u x z) 19 f (nI n) 19 j = _
      rw [gst_same, p5, mNt_425]
      by_cases e : j = f
      · subst e; rw [upd_s, upd_s]
      · rw [upd_n _ _ e, upd_n _ _ (fun h => e (by rw [← piBF (j := j), h, piBF]))]; exact h4 j hj
    · show gst (pfApp A 11 n u x z) 19 f (nI n) 12 i = _ ∧ gst (pfApp A 11 n u x z) 19 f (nI n) 13 i = _ ∧ gst (pfApp A 11 n u x z) 19 f (nI n) 14 i = _
      rw [gst_ne _ _ _ _ (by decide), gst_ne _ _ _ _ (by decide), gst_ne _ _ _ _ (by decide), p1, p2, p3, m1, m2, m3]
      by_cases e : i = n
      · subst e
        rw [upd_s, upd_s, upd_s, upd_s, upd_s, upd_s, hx, hz]
        exact ⟨hu.symm, rfl, rfl⟩
      · rw [upd_n _ _ e, upd_n _ _ e, upd_n _ _ e, upd_n _ _ e, upd_n _ _ e, upd_n _ _ e]
        exact h5 i (by omega)
  · refine Or.inr ⟨?_, by omega⟩
    rw [wsA_full (by rw [h2, show n = 40 by omega])]
theorem gMd.le {B B' : gMe} {n : Nat} (h : gMd B) (h' : gMd B') (hd : gDk B B') (hn : B 400 22 = nI n) (hn9 : n < 1000) : ∃ n', B' 400 22 = nI n' ∧ n ≤ n' ∧ n' ≤ 756 := by
  obtain ⟨a, a1, a2⟩ := h
  obtain ⟨b, b1, b2⟩ := h'
  have ha : a ≤ 756 := by rw [← a2]; exact cntB_le _ _
  have hb : b ≤ 756 := by rw [← b2]; exact cntB_le _ _
  have e : n = a := by
    have h9 := congrArg Int32.toNatClampNeg (hn.symm.trans a1)
    rw [nI_clamp (by omega), nI_clamp (by omega)] at h9; exact h9
  refine ⟨b, b1, ?_, hb⟩
  rw [e, ← a2, ← b2]
  exact cntB_mono 756 (fun i _ hi => by
    have hi : 0 ≤ B 425 i := by simpa using hi
    have := hd.2.2 i hi
    simpa [this] using hi)
theorem wsR_s (e : Nat) (M : gMe) (f : Nat) : wsR (e + 1) M f = if ¬ M 19 f < 0 then (1, M)
    else if M 16 f = 1 then wsA M f (M 16 f) (M 17 f) (M 18 f)
    else if M 16 f = 7 then
      (if (wsR e M (M 18 f).toNatClampNeg).1 = 0 then (0, (wsR e M (M 18 f).toNatClampNeg).2) else wsA (wsR e M (M 18 f).toNatClampNeg).2 f (M 16 f) (M 17 f) ((wsR e M (M 18 f).toNatClampNeg).2 19 (M 18 f).toNatClampNeg))
    else if (wsR e M (M 17 f).toNatClampNeg).1 = 0 then (0, (wsR e M (M 17 f).toNatClampNeg).2)
    else if (wsR e (wsR e M (M 17 f).toNatClampNeg).2 (M 18 f).toNatClampNeg).1 = 0 then (0, (wsR e (wsR e M (M 17 f).toNatClampNeg).2 (M 18 f).toNatClampNeg).2)
    else wsA (wsR e (wsR e M (M 17 f).toNatClampNeg).2 (M 18 f).toNatClampNeg).2 f (M 16 f) ((wsR e M (M 17 f).toNatClampNeg).2 19 (M 17 f).toNatClampNeg) ((wsR e (wsR e M (M 17 f).toNatClampNeg).2 (M 18 f).toNatClampNeg).2 19 (M 18 f).toNatClampNeg) := by rw [wsR]
/-- a ground of f, walked on the reference's side -/
def dfC (er kr : Nat) (B : gMe) (x' : Nat) (v : Int32) : gMe := if ¬ 0 ≤ B 425 x' then dfM er (kr + 1) (gst B 426 (kr + 1) v) x' else B
theorem dfM_1 {er kr : Nat} {B : gMe} {f' : Nat} (h : B 422 f' = 1) : dfM (er + 1) kr B f' = mNt B f' (B 400 22).toNatClampNeg := by
  rw [dfM]
  have h1 : ¬ nd1 B f' := fun q => q.1 (by rw [h]; decide)
  have h2 : ¬ nd2 B f' := fun q => q.1 (by rw [h]; decide)
  simp only [if_neg h1, if_neg h2]
theorem dfM_7 {er kr : Nat} {B : gMe} {f' z' : Nat} (h : B 422 f' = 7) (hz : B 424 f' = nI z') (hz9 : z' < 756) : dfM (er + 1) kr B f' = mNt (dfC er kr B z' (nI z')) f' (dfC er kr B z' (nI z') 400 22).toNatClampNeg := by
  rw [dfM]
  have h1 : ¬ nd1 B f' := fun q => q.2.1 (by rw [h]; decide)
  simp only [if_neg h1]
  unfold dfC
  have e : (B 424 f').toNatClampNeg = z' := by rw [hz]; exact nI_clamp (by omega)
  by_cases h2 : 0 ≤ B 425 z'
  · have h3 : ¬ nd2 B f' := fun q => q.2 (by rw [e]; exact h2)
    simp only [if_neg h3, if_neg (not_not_intro h2)]
  · have h3 : nd2 B f' := ⟨by rw [h]; decide, by rw [e]; exact h2⟩
    simp only [if_pos h3, if_pos h2, e, hz, nI_clamp (show z' < 2 ^ 31 by omega)]
theorem dfM_2 {er kr : Nat} {B : gMe} {f' x' z' : Nat} (h1 : ¬ B 422 f' ≤ 1) (h7 : ¬ 7 ≤ B 422 f') (hx : B 423 f' = nI x') (hx9 : x' < 756) (hz9 : z' < 756) (B1 : gMe) (hB1 : B1 = dfC er kr B x' (nI x')) (g1 : B1 422 f' = B 422 f') (hz : B1 424 f' = nI z') : dfM (er + 1) kr B f' = mNt (dfC er kr B1 z' (nI z')) f' (dfC er kr B1 z' (nI z') 400 22).toNatClampNeg := by
  rw [dfM]
  have e : (B 423 f').toNatClampNeg = x' := by rw [hx]; exact nI_clamp (by omega)
  have hM1 : (if nd1 B f' then dfM er (kr + 1) (gst B 426 (kr + 1) (B 423 f')) (B 423 f').toNatClampNeg else B) = B1 := by
    rw [hB1]
    unfold dfC
    by_cases h2 : 0 ≤ B 425 x'
    · have h3 : ¬ nd1 B f' := fun q => q.2.2 (by rw [e]; exact h2)
      rw [if_neg h3, if_neg (not_not_intro h2)]
    · have h3 : nd1 B f' := ⟨h1, h7, by rw [e]; exact h2⟩
      rw [if_pos h3, if_pos h2, e, hx]
  simp only [hM1]
  have e2 : (B1 424 f').toNatClampNeg = z' := by rw [hz]; exact nI_clamp (by omega)
  unfold dfC
  by_cases h2 : 0 ≤ B1 425 z'
  · have h3 : ¬ nd2 B1 f' := fun q => q.2 (by rw [e2]; exact h2)
    simp only [if_neg h3, if_neg (not_not_intro h2)]
  · have h3 : nd2 B1 f' := ⟨by rw [g1]; exact h1, by rw [e2]; exact h2⟩
    simp only [if_pos h3, if_pos h2, e2, hz, nI_clamp (show z' < 2 ^ 31 by omega)]
/-- how one walk ends -/
def dEnd (A : gMe) (S : Nat → Prop) (r : Int32 × gMe) (B' : gMe) (k : Nat) : Prop := (r.1 = 1 ∧ gWs A r.2 ∧ ∃ n, dRel r.2 B' S n) ∨ (r.1 = 0 ∧ ∃ n, B' 400 22 = nI n ∧ n ≤ 756 ∧ 40 < n + k)
theorem dfC_ok {S' : Nat → Prop} {rk : Nat → Nat} {er kr : Nat} {B : gMe} {x' : Nat} {v : Int32} (hr : rk x' < er) (hS : S' x') (hR : gRk B S' rk) (hm : gMd B) : gDk B (dfC er kr B x' v) ∧ gMd (dfC er kr B x' v) ∧ 0 ≤ dfC er kr B x' v 425 x' ∧ ∀ i, ¬ 0 ≤ B 425 i → 0 ≤ dfC er kr B x' v 425 i → rk i ≤ rk x' := by
  unfold dfC
  by_cases h : 0 ≤ B 425 x'
  · rw [if_neg (not_not_intro h)]
    exact ⟨gDk.rf, hm, h, fun i a b => absurd b a⟩
  · rw [if_pos h]
    have e : ∀ i, gst B 426 (kr + 1) v 425 i = B 425 i := fun i => by rw [gst_ne _ _ _ _ (by decide)]
    obtain ⟨h1, h2, h3, -, h5⟩ := dfM_ok er (kr + 1) (gst B 426 (kr + 1) v) x' hr hS (hR.mv gDk.sk) hm.sk (by rw [e]; exact h)
    exact ⟨gDk.sk.tr h1, h2, h3, fun i a b => h5 i (by rw [e]; exact a) b⟩
theorem gMd.n {B : gMe} (h : gMd B) : ∃ n, B 400 22 = nI n ∧ n ≤ 756 ∧ (B 400 22).toNatClampNeg = n := by
  obtain ⟨n, h1, h2⟩ := h
  have h3 : n ≤ 756 := by rw [← h2]; exact cntB_le _ _
  exact ⟨n, h1, h3, by rw [h1]; exact nI_clamp (by omega)⟩

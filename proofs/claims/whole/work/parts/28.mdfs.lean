/-! the reference's layout of a proof: pure -/
def dfM : Nat → Nat → gMe → Nat → gMe
  | 0, _, M, _ => M
  | e + 1, k, M, f =>
    let M1 := if nd1 M f then dfM e (k + 1) (gst M 426 (k + 1) (M 423 f)) (M 423 f).toNatClampNeg else M
    let M2 := if nd2 M1 f then dfM e (k + 1) (gst M1 426 (k + 1) (M1 424 f)) (M1 424 f).toNatClampNeg else M1
    mNt M2 f (M2 400 22).toNatClampNeg
/-- what the layout keeps -/
def gDk (M M' : gMe) : Prop := (∀ b, b ≠ 400 → b ≠ 425 → b ≠ 426 → (b < 418 ∨ 421 ≤ b) → M' b = M b) ∧ (∀ k, k ≠ 22 → M' 400 k = M 400 k) ∧ ∀ i, 0 ≤ M 425 i → M' 425 i = M 425 i
theorem gDk.rf {M : gMe} : gDk M M := ⟨fun _ _ _ _ _ => rfl, fun _ _ => rfl, fun _ _ => rfl⟩
theorem gDk.tr {M M1 M2 : gMe} (h : gDk M M1) (h2 : gDk M1 M2) : gDk M M2 := ⟨fun b a1 a2 a3 a4 => (h2.1 b a1 a2 a3 a4).trans (h.1 b a1 a2 a3 a4), fun k hk => (h2.2.1 k hk).trans (h.2.1 k hk), fun i hi => (h2.2.2 i (by rw [h.2.2 i hi]; exact hi)).trans (h.2.2 i hi)⟩
theorem gDk.sk {M : gMe} {k : Nat} {x : Int32} : gDk M (gst M 426 k x) := ⟨fun b _ _ h _ => gst_ne _ _ _ _ h, fun k _ => by rw [gst_ne _ _ _ _ (by decide)], fun i _ => by rw [gst_ne _ _ _ _ (by decide)]⟩
def gMd (M : gMe) : Prop := ∃ n, M 400 22 = nI n ∧ cntB (fun i => decide (0 ≤ M 425 i)) 756 = n
theorem gMd.sk {M : gMe} {k : Nat} {x : Int32} (h : gMd M) : gMd (gst M 426 k x) := by
  obtain ⟨n, h1, h2⟩ := h
  exact ⟨n, by rw [gst_ne _ _ _ _ (by decide)]; exact h1, by rw [gst_ne _ _ _ _ (by decide)]; exact h2⟩
theorem gRk.mv {M M' : gMe} {S : Nat → Prop} {rk : Nat → Nat} (h : gRk M S rk) (hd : gDk M M') : gRk M' S rk := by
  intro f hf
  have := h f hf
  rw [hd.1 422 (by decide) (by decide) (by decide) (by decide), hd.1 423 (by decide) (by decide) (by decide) (by decide), hd.1 424 (by decide) (by decide) (by decide) (by decide)]
  exact this
theorem mNt_425 {M : gMe} {f n : Nat} : mNt M f n 425 = upd (M 425) f (nI n) := by
  unfold mNt
  rw [gst_ne _ _ _ _ (by decide), gst_ne _ _ _ _ (by decide), gst_ne _ _ _ _ (by decide), gst_ne _ _ _ _ (by decide), gst_same]
theorem mNt_426 {M : gMe} {f n : Nat} : mNt M f n 426 = M 426 := by
  unfold mNt
  rw [gst_ne _ _ _ _ (by decide), gst_ne _ _ _ _ (by decide), gst_ne _ _ _ _ (by decide), gst_ne _ _ _ _ (by decide), gst_ne _ _ _ _ (by decide)]
theorem mNt_22 {M : gMe} {f n : Nat} : mNt M f n 400 22 = nI (n + 1) := by
  unfold mNt
  rw [gst_same]; simp [upd]
theorem mNt_dk {M : gMe} {f n : Nat} (hu : ¬ 0 ≤ M 425 f) : gDk M (mNt M f n) := by
  refine ⟨fun b h1 h2 h3 h4 => ?_, fun k hk => ?_, fun i hi => ?_⟩
  · unfold mNt
    rw [gst_ne _ _ _ _ h1, gst_ne _ _ _ _ (by omega), gst_ne _ _ _ _ (by omega), gst_ne _ _ _ _ (by omega), gst_ne _ _ _ _ h2]
  · unfold mNt
    rw [gst_same]
    simp only [upd, if_neg hk]
    rw [gst_ne _ _ _ _ (by decide), gst_ne _ _ _ _ (by decide), gst_ne _ _ _ _ (by decide), gst_ne _ _ _ _ (by decide)]
  · rw [mNt_425]
    have hne : i ≠ f := by rintro rfl; exact hu hi
    simp [upd, hne]
theorem nI_ge0 {n : Nat} (h : n < 2 ^ 31) : 0 ≤ nI n := nI_pos' h
theorem gMd.lt {M : gMe} {f : Nat} (hf : f < 756) (hu : ¬ 0 ≤ M 425 f) (h : gMd M) : ∃ n, M 400 22 = nI n ∧ n < 756 ∧ (M 400 22).toNatClampNeg = n ∧ cntB (fun i => decide (0 ≤ M 425 i)) 756 = n := by
  obtain ⟨n, h1, h2⟩ := h
  have h3 : n < 756 := by rw [← h2]; exact cntB_full hf (by simpa using hu)
  exact ⟨n, h1, h3, by rw [h1]; exact nI_clamp (by omega), h2⟩
theorem mNt_md {M : gMe} {f n : Nat} (hf : f < 756) (hu : ¬ 0 ≤ M 425 f) (hn : n < 756) (h2 : cntB (fun i => decide (0 ≤ M 425 i)) 756 = n) : gMd (mNt M f n) := by
  refine ⟨n + 1, mNt_22, ?_⟩
  rw [mNt_425]
  have := cntB_up (p := fun i => decide (0 ≤ M 425 i)) (q := fun i => decide (0 ≤ upd (M 425) f (nI n) i)) (i := f) 756 hf (by simpa using hu) (by simp [upd, nI_ge0 (show n < 2 ^ 31 by omega)]) (fun j hj => by simp [upd, hj])
  rw [this, h2]
/-- what the layout of f gives -/
def gDo (M M' : gMe) (rk : Nat → Nat) (f k : Nat) : Prop := gDk M M' ∧ gMd M' ∧ 0 ≤ M' 425 f ∧ (∀ i, i ≤ k → M' 426 i = M 426 i) ∧ ∀ i, ¬ 0 ≤ M 425 i → 0 ≤ M' 425 i → rk i ≤ rk f
set_option maxHeartbeats 1000000 in
theorem dfM_ok {S : Nat → Prop} {rk : Nat → Nat} : ∀ (e k : Nat) (M : gMe) (f : Nat), rk f < e → S f → gRk M S rk → gMd M → ¬ 0 ≤ M 425 f → gDo M (dfM e k M f) rk f k := by
  intro e
  induction e with
  | zero => intro k M f h; omega
  | succ e ih =>
    intro k M f hrk hS hR hm hu
    obtain ⟨hf, hX, hZ, -, -⟩ := hR f hS
    -- the first part
    have h1 : ∃ M1, (if nd1 M f then dfM e (k + 1) (gst M 426 (k + 1) (M 423 f)) (M 423 f).toNatClampNeg else M) = M1 ∧ gDk M M1 ∧ gMd M1 ∧ (∀ i, i ≤ k → M1 426 i = M 426 i) ∧ (∀ i, ¬ 0 ≤ M 425 i → 0 ≤ M1 425 i → rk i < rk f) := by
      by_cases hn : nd1 M f
      · rw [if_pos hn]
        obtain ⟨x, ex, hSx, hrx⟩ := hX hn.1 hn.2.1
        have cx : (M 423 f).toNatClampNeg = x := by rw [ex]; exact nI_clamp (by have := (hR x hSx).1; omega)
        have hux : ¬ 0 ≤ (gst M 426 (k + 1) (M 423 f)) 425 x := by rw [gst_ne _ _ _ _ (by decide), ← cx]; exact hn.2.2
        obtain ⟨g1, g2, g3, g4, g5⟩ := ih (k + 1) (gst M 426 (k + 1) (M 423 f)) x (by omega) hSx (hR.mv gDk.sk) hm.sk hux
        rw [cx]
        refine ⟨_, rfl, gDk.sk.tr g1, g2, fun i hi => ?_, fun i hi1 hi2 => ?_⟩
        · rw [g4 i (by omega), gst_at, if_pos rfl, if_neg (by omega)]
        · have := g5 i (by rw [gst_ne _ _ _ _ (by decide)]; exact hi1) hi2
          omega
      · rw [if_neg hn]
        exact ⟨M, rfl, gDk.rf, hm, fun _ _ => rfl, fun i a b => absurd b a⟩
    obtain ⟨M1, e1, d1, m1, s1, n1⟩ := h1
    have hu1 : ¬ 0 ≤ M1 425 f := fun h => by have := n1 f hu h; omega
    have h2 : ∃ M2, (if nd2 M1 f then dfM e (k + 1) (gst M1 426 (k + 1) (M1 424 f)) (M1 424 f).toNatClampNeg else M1) = M2 ∧ gDk M1 M2 ∧ gMd M2 ∧ (∀ i, i ≤ k → M2 426 i = M1 426 i) ∧ (∀ i, ¬ 0 ≤ M1 425 i → 0 ≤ M2 425 i → rk i < rk f) := by
      by_cases hn : nd2 M1 f
      · rw [if_pos hn]
        obtain ⟨z, ez, hSz, hrz⟩ := hZ (by rw [← d1.1 422 (by decide) (by decide) (by decide) (by decide)]; exact hn.1)
        have ez1 : M1 424 f = nI z := by rw [d1.1 424 (by decide) (by decide) (by decide) (by decide)]; exact ez
        have cz : (M1 424 f).toNatClampNeg = z := by rw [ez1]; exact nI_clamp (by have := (hR z hSz).1; omega)
        have huz : ¬ 0 ≤ (gst M1 426 (k + 1) (M1 424 f)) 425 z := by rw [gst_ne _ _ _ _ (by decide), ← cz]; exact hn.2
        obtain ⟨g1, g2, g3, g4, g5⟩ := ih (k + 1) (gst M1 426 (k + 1) (M1 424 f)) z (by omega) hSz ((hR.mv d1).mv gDk.sk) m1.sk huz
        rw [cz]
        refine ⟨_, rfl, gDk.sk.tr g1, g2, fun i hi => ?_, fun i hi1 hi2 => ?_⟩
        · rw [g4 i (by omega), gst_at, if_pos rfl, if_neg (by omega)]
        · have := g5 i (by rw [gst_ne _ _ _ _ (by decide)]; exact hi1) hi2
          omega
      · rw [if_neg hn]
        exact ⟨M1, rfl, gDk.rf, m1, fun _ _ => rfl, fun i a b => absurd b a⟩
    obtain ⟨M2, e2, d2, m2, s2, n2⟩ := h2
    have hu2 : ¬ 0 ≤ M2 425 f := fun h => by have := n2 f hu1 h; omega
    have e3 : dfM (e + 1) k M f = mNt M2 f (M2 400 22).toNatClampNeg := by
      show (let A := if nd1 M f then dfM e (k + 1) (gst M 426 (k + 1) (M 423 f)) (M 423 f).toNatClampNeg else M
        let C := if nd2 A f then dfM e (k + 1) (gst A 426 (k + 1) (A 424 f)) (A 424 f).toNatClampNeg else A
        mNt C f (C 400 22).toNatClampNeg) = _
      rw [e1]
      show mNt (if nd2 M1 f then dfM e (k + 1) (gst M1 426 (k + 1) (M1 424 f)) (M1 424 f).toNatClampNeg else M1) f _ = _
      rw [e2]
    rw [e3]
    obtain ⟨n, c1, c2, c3, c4⟩ := m2.lt hf hu2
    rw [c3]
    refine ⟨d1.tr (d2.tr (mNt_dk hu2)), mNt_md hf hu2 c2 c4, ?_, fun i hi => ?_, fun i hi1 hi2 => ?_⟩
    · rw [mNt_425]; simp only [upd, if_true]; exact nI_ge0 (by omega)
    · rw [mNt_426, s2 i hi, s1 i hi]
    · rw [mNt_425] at hi2
      by_cases hif : i = f
      · rw [hif]; exact Nat.le_refl _
      · simp only [upd, if_neg hif] at hi2
        by_cases h9 : 0 ≤ M1 425 i
        · exact Nat.le_of_lt (n1 i hi1 h9)
        · exact Nat.le_of_lt (n2 i h9 hi2)
/-! rounds come to an end -/
theorem itP_ib {f : Nat → gFm → gFm} {I : gFm → Prop} {n : Nat} (h : ∀ k q, k < n → I q → I (f k q)) : ∀ (d k : Nat) (q : gFm), k + d ≤ n → I q → I (itP f d k q)
  | 0, _, _, _, hq => hq
  | d + 1, k, q, hk, hq => itP_ib h d (k + 1) (f k q) (by omega) (h k q (by omega) hq)
theorem stR_ok {M : gMe} {f : Nat} {T : Option gRs} (hn : ¬ M 400 36 ≤ 0) : (∀ k, (stR M f T).2 400 k = M 400 k) ∧ (∀ i, ¬ M 421 i ≤ 0 → (stR M f T).2 421 i = M 421 i) ∧ (((stR M f T).1 = 0 ∧ (stR M f T).2 = M) ∨ (M 421 f ≤ 0 ∧ ¬ (stR M f T).2 421 f ≤ 0)) ∧ ∀ b, (b < 421 ∨ 425 ≤ b) → (stR M f T).2 b = M b := by
  unfold stR
  split
  · exact ⟨fun _ => rfl, fun _ _ => rfl, Or.inl ⟨rfl, rfl⟩, fun _ _ => rfl⟩
  · rename_i h
    have h := Decidable.not_not.mp h
    split
    · rename_i q
      have e1 : ∀ b, (b < 421 ∨ 425 ≤ b) → mFd M f q.1 q.2.1 q.2.2 b = M b := fun b hb => by
        unfold mFd
        rw [gst_ne _ _ _ _ (by omega), gst_ne _ _ _ _ (by omega), gst_ne _ _ _ _ (by omega), gst_ne _ _ _ _ (by omega)]
      have e2 : mFd M f q.1 q.2.1 q.2.2 421 = upd (M 421) f (M 400 36) := by
        unfold mFd
        rw [gst_ne _ _ _ _ (by decide), gst_ne _ _ _ _ (by decide), gst_ne _ _ _ _ (by decide), gst_same]
      refine ⟨fun k => by show mFd M f q.1 q.2.1 q.2.2 400 k = _; rw [e1 400 (by decide)], fun i hi => ?_, Or.inr ⟨h, ?_⟩, e1⟩
      · show mFd M f q.1 q.2.1 q.2.2 421 i = _
        rw [e2]
        have : i ≠ f := by rintro rfl; exact hi h
        simp [upd, this]
      · show ¬ mFd M f q.1 q.2.1 q.2.2 421 f ≤ 0
        rw [e2]; simp only [upd, if_true]; exact hn
    · exact ⟨fun _ => rfl, fun _ _ => rfl, Or.inl ⟨rfl, rfl⟩, fun _ _ => rfl⟩
def gIv (M0 : gMe) (q : gFm) : Prop := (∀ k, q.2 400 k = M0 400 k) ∧ (∀ i, ¬ M0 421 i ≤ 0 → q.2 421 i = M0 421 i) ∧ (q.1 = 0 ∨ ∃ f, f < 756 ∧ M0 421 f ≤ 0 ∧ ¬ q.2 421 f ≤ 0) ∧ ∀ b, (b < 421 ∨ 425 ≤ b) → q.2 b = M0 b
theorem gIv.st {M0 : gMe} {q : gFm} {f : Nat} {T : Option gRs} (hn : ¬ M0 400 36 ≤ 0) (hf : f < 756) (h : gIv M0 q) : gIv M0 (orF q.1 (stR q.2 f T).1, (stR q.2 f T).2) := by
  obtain ⟨h1, h2, h3, h4⟩ := h
  obtain ⟨g1, g2, g3, g4⟩ := stR_ok (M := q.2) (f := f) (T := T) (by rw [h1]; exact hn)
  have keep : ∀ i, ¬ M0 421 i ≤ 0 → (stR q.2 f T).2 421 i = M0 421 i := fun i hi => by
    rw [g2 i (by rw [h2 i hi]; exact hi), h2 i hi]
  refine ⟨fun k => (g1 k).trans (h1 k), keep, ?_, fun b hb => (g4 b hb).trans (h4 b hb)⟩
  rcases g3 with ⟨ga, gb⟩ | ⟨ga, gb⟩
  · rcases h3 with h3 | ⟨i, hi, hj, hk⟩
    · left
      show orF q.1 (stR q.2 f T).1 = 0
      rw [orF, bi_f (fun h => h.elim (fun z => z h3) (fun z => z ga))]
    · right
      exact ⟨i, hi, hj, by rw [gb]; exact hk⟩
  · right
    refine ⟨f, hf, ?_, gb⟩
    by_cases h9 : M0 421 f ≤ 0
    · exact h9
    · exact absurd ga (by rw [h2 f h9]; exact h9)
theorem goR_ok {K : Nat → Nat → Nat} {c : Nat} {M : gMe} (hn : ¬ (M 400 36 + 1) ≤ 0) : gIv (gst M 400 36 (M 400 36 + 1)) (goR K c M) := by
  have hn' : ¬ (gst M 400 36 (M 400 36 + 1)) 400 36 ≤ 0 := by rw [gst_same]; simpa [upd] using hn
  refine itP_ib (n := 6) (fun a q ha hq => ?_) 6 0 _ (by decide) ⟨fun _ => rfl, fun _ _ => rfl, Or.inl rfl, fun _ _ => rfl⟩
  refine itP_ib (n := 6) (fun x q hx hq => ?_) 6 0 _ (by decide) hq
  have h4 : gIv (gst M 400 36 (M 400 36 + 1)) (itP (gsR K c a x) 4 0 q) := by
    refine itP_ib (n := 4) (fun r q hr hq => ?_) 4 0 _ (by decide) hq
    refine itP_ib (n := 4) (fun d q hd hq => hq.st hn' (truM_lt ha hx hr hd)) 4 0 _ (by decide) ?_
    exact hq.st hn' (mayM_lt ha hx hr)
  exact h4.st hn' (spkM_lt ha hx)
def unf (M : gMe) : Nat := cntB (fun i => decide (M 421 i ≤ 0)) 756
theorem goR_less {K : Nat → Nat → Nat} {c : Nat} {M : gMe} (hn : ¬ (M 400 36 + 1) ≤ 0) (h : ¬ (goR K c M).1 = 0) : unf (goR K c M).2 < unf M := by
  obtain ⟨h1, h2, h3, -⟩ := goR_ok (K := K) (c := c) hn
  have e : ∀ i, (gst M 400 36 (M 400 36 + 1)) 421 i = M 421 i := fun i => by rw [gst_ne _ _ _ _ (by decide)]
  obtain ⟨f, hf, hj, hk⟩ := h3.resolve_left h
  refine cntB_lt 756 (fun i _ hi => ?_) ⟨f, hf, by simpa [e] using hj, by simpa using hk⟩
  have hi : (goR K c M).2 421 i ≤ 0 := by simpa using hi
  by_cases h9 : M 421 i ≤ 0
  · simpa using h9
  · exact absurd hi (by rw [h2 i (by rw [e]; exact h9), e]; exact h9)
def pfL (K : Nat → Nat → Nat) (c : Nat) : Nat → gMe → gMe
  | 0, M => M
  | d + 1, M => if (goR K c M).1 = 0 then (goR K c M).2 else pfL K c d (goR K c M).2
def pfI (M : gMe) (k : Nat) : gMe := mfill (mfill M 421 0 k) 425 (-1) k
theorem pfI_0 (M : gMe) : pfI M 0 = M := by unfold pfI; rw [mfill_0, mfill_0]
theorem mfill_at (M : gMe) (a : Nat) (v : Int32) (n b j : Nat) : mfill M a v n b j = if b = a then (if j < n then v else M a j) else M b j := by
  unfold mfill va_up
  by_cases h : b = a
  · simp [h]
  · simp [h]
theorem pfI_s (M : gMe) (k : Nat) : gst (gst (pfI M k) 421 k 0) 425 k (-1) = pfI M (k + 1) := by
  funext b j
  unfold pfI
  simp only [gst_at, mfill_at]
  by_cases h5 : b = 425
  · subst h5
    by_cases hj : j = k
    · subst hj; simp
    · by_cases hl : j < k
      · have : j < k + 1 := by omega
        simp [hj, hl, this]
      · have : ¬ j < k + 1 := by omega
        simp [hj, hl, this]
  · by_cases h1 : b = 421
    · subst h1
      by_cases hj : j = k
      · subst hj; simp
      · by_cases hl : j < k
        · have : j < k + 1 := by omega
          simp [hj, hl, this]
        · have : ¬ j < k + 1 := by omega
          simp [hj, hl, this]
    · simp [h5, h1]

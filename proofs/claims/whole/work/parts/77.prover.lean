/-! the prover: class and reference answer alike -/
/-- what the two provers end with -/
def pvE (K : Nat → Nat → Nat) (o c g : Nat) (M N : gMe) : Prop :=
  (fdM K o c g M 15 g = 0 ↔ pfW K o c N 421 (piF g) = 0) ∧
  gRe (fdM K o c g M) (fun j => j < 756 ∧ ¬ fdM K o c g M 15 j = 0) ∧
  gRk (pfW K o c N) (fun j => j < 756 ∧ ¬ pfW K o c N 421 j = 0) (fun j => (pfW K o c N 421 j).toNatClampNeg) ∧ (pfW K o c N 421 (piF g)).toNatClampNeg < 759 ∧
  (¬ fdM K o c g M 15 g = 0 → gTq (fdM K o c g M) (pfW K o c N) (fun j => j < 756 ∧ ¬ fdM K o c g M 15 j = 0) ∧ ∀ j, j < 756 → ¬ fdM K o c g M 15 j = 0 → ¬ pfW K o c N 421 (piF j) = 0)
theorem gIn.sh {M : gMe} {i : Nat} (h : gIn M i) (hi : i < 1000) {j : Nat} (hj : j < 756) (hne : ¬ M 15 j = 0) : (M 16 j = 1 ∧ M 18 j = 0) ∨ gSh (fun x => x < 756 ∧ ¬ M 15 x = 0) (M 16 j, M 17 j, M 18 j) := by
  obtain ⟨ρ, p1, p2, p3, p4⟩ := h j hj hne
  refine p4.imp id (fun q => q.mono (fun z hz ⟨ρ', q1, q2, q3⟩ => ⟨hz, by rw [q3]; exact nI_nz (by omega) (by omega)⟩))
theorem gIn.re {M : gMe} {i : Nat} (h : gIn M i) (hi : i < 1000) : gRe M (fun j => j < 756 ∧ ¬ M 15 j = 0) := by
  intro f ⟨hf, hne⟩
  refine ⟨hf, ?_⟩
  rcases h.sh hi hf hne with ⟨h1, -⟩ | h1
  · exact ⟨fun q => absurd h1 q, fun q => absurd h1 q⟩
  · rcases h1 with ⟨g1, z, z1, z2, z3⟩ | ⟨-, ⟨x, x1, x2, x3⟩, z, z1, z2, z3⟩
    · exact ⟨fun _ q => absurd g1 q, fun _ => ⟨z, z2, z3⟩⟩
    · exact ⟨fun _ _ => ⟨x, x2, x3⟩, fun _ => ⟨z, z2, z3⟩⟩
theorem gIn.rk {M N : gMe} {i : Nat} (hs : gSi M N) (h : gIn M i) (hi : i < 1000) : gRk N (fun j => j < 756 ∧ ¬ N 421 j = 0) (fun j => (N 421 j).toNatClampNeg) := by
  have gr : ∀ (ρ : Nat) (v : Int32), ρ ≤ i + 1 → (∃ x, x < 756 ∧ v = nI x ∧ ∃ ρ', 1 ≤ ρ' ∧ ρ' < ρ ∧ M 15 x = nI ρ') → ∃ x, nI (piF v.toNatClampNeg) = nI x ∧ (x < 756 ∧ ¬ N 421 x = 0) ∧ (N 421 x).toNatClampNeg < ρ := by
    intro ρ v hρ ⟨x, x1, x2, ρ', y1, y2, y3⟩
    have e : v.toNatClampNeg = x := by rw [x2]; exact nI_clamp (by omega)
    have e2 : N 421 (piF x) = nI ρ' := by rw [(hs x x1).1]; exact y3
    refine ⟨piF x, by rw [e], ⟨piF_lt x1, by rw [e2]; exact nI_nz (by omega) (by omega)⟩, ?_⟩
    rw [e2, nI_clamp (by omega)]; exact y2
  intro f' ⟨hf, hne⟩
  obtain ⟨s1, s2⟩ := hs (piB f') (piB_lt hf)
  rw [piFB] at s1 s2
  have hne2 : ¬ M 15 (piB f') = 0 := by rw [← s1]; exact hne
  obtain ⟨ρ, p1, p2, p3, p4⟩ := h (piB f') (piB_lt hf) hne2
  obtain ⟨t1, t2, t3⟩ := trR_e (s2 hne2)
  have hrk : (N 421 f').toNatClampNeg = ρ := by rw [s1, p3]; exact nI_clamp (by omega)
  refine ⟨hf, ?_⟩
  simp only [hrk]
  rcases p4 with ⟨h1, -⟩ | h1
  · rw [h1] at t1
    rw [t1]
    exact ⟨fun q => absurd (by decide) q, fun q => absurd (by decide) q, Or.inl rfl, Or.inr (by decide)⟩
  · rcases h1 with ⟨g1, g2⟩ | ⟨g1, g2, g3⟩
    · have g1 : M 16 (piB f') = 7 := g1
      rw [g1] at t1 t3
      rw [t1]
      refine ⟨fun _ q => absurd (by decide) q, fun _ => ?_, Or.inr (by decide), Or.inl rfl⟩
      rw [t3, if_neg (by decide)]
      exact gr ρ _ p2 g2
    · have g1 : M 16 (piB f') = 2 ∨ M 16 (piB f') = 3 ∨ M 16 (piB f') = 4 ∨ M 16 (piB f') = 5 ∨ M 16 (piB f') = 6 := g1
      have n1 : ¬ M 16 (piB f') = 1 := by rcases g1 with g | g | g | g | g <;> (rw [g]; decide)
      have n7 : ¬ M 16 (piB f') = 7 := by rcases g1 with g | g | g | g | g <;> (rw [g]; decide)
      rw [t2, t3, if_neg (fun q => q.elim n1 n7), if_neg n1, t1]
      refine ⟨fun _ _ => gr ρ _ p2 g2, fun _ => gr ρ _ p2 g3, Or.inr ?_, Or.inr ?_⟩ <;> (rcases g1 with g | g | g | g | g <;> (rw [g]; decide))
theorem pv_end {K : Nat → Nat → Nat} {o c g : Nat} {M N : gMe} (hK : ∀ n, 1 ≤ n → n ≤ c → kOK (K n)) (hv : ∀ n, 1 ≤ n → n ≤ c → (pVal M (cP n) (M 4 1) ↔ pHo N n)) (hg : g < 756) : pvE K o c g M N := by
  obtain ⟨k, n, M1, N1, -, hJ, hk, hn, eF, eW, h1, h2⟩ := prover_end (K := K) (o := o) (c := c) (g := g) (M := M) (N := N) hK hv hg
  have hall := gJ.all hK hJ
  have e421 := eW 421 (by decide)
  have hJk := hall k (by omega)
  have hJn := hall (n + 1) (by omega)
  have keep : ¬ cS K c M1 k 15 g = 0 → ∀ j, j < 756 → ¬ cS K c M1 k 15 j = 0 → gSm 15 (cS K c M1 k) (cS K c M1 (n + 1)) j := fun hz j hj hne => by
    have h9 := gJ.mono hK hJ hj k (n + 1 - k) (by have := h2 hz; omega) hne
    rw [show k + (n + 1 - k) = n + 1 by have := h2 hz; omega] at h9
    exact h9
  have hfound : ¬ cS K c M1 k 15 g = 0 → ∀ j, j < 756 → ¬ cS K c M1 k 15 j = 0 → ¬ rS K c N1 (n + 1) 421 (piF j) = 0 := fun hz j hj hne => by
    rw [(hJn.1 j hj).1, (keep hz j hj hne).1]; exact hne
  have hrk : gRk (pfW K o c N) (fun j => j < 756 ∧ ¬ pfW K o c N 421 j = 0) (fun j => (pfW K o c N 421 j).toNatClampNeg) := by
    have h9 := gIn.rk hJn.1 hJn.2.2.2.2.2 (by omega)
    intro f hf
    have h8 := h9 f (by rw [e421] at hf; exact hf)
    rw [e421, eW 422 (by decide), eW 423 (by decide), eW 424 (by decide)]
    exact h8
  refine ⟨?_, ?_, hrk, ?_, ?_⟩
  · rw [eF, e421]
    exact ⟨h1, fun hz => Decidable.byContradiction (fun hne => hfound hne g hg hne hz)⟩
  · rw [eF]; exact hJk.2.2.2.2.2.re (by omega)
  · rw [e421]
    by_cases hz : rS K c N1 (n + 1) 421 (piF g) = 0
    · rw [hz]; decide
    · rw [(hJn.1 g hg).1] at hz ⊢
      obtain ⟨ρ, p1, p2, p3, -⟩ := hJn.2.2.2.2.2 g hg hz
      rw [p3, nI_clamp (by omega)]; omega
  · rw [eF]
    intro hz
    refine ⟨fun j ⟨hj, hne⟩ => ⟨hj, ?_, hJk.2.2.2.2.2.sh (by omega) hj hne⟩, fun j hj hne => by rw [e421]; exact hfound hz j hj hne⟩
    obtain ⟨-, q2, q3, q4⟩ := keep hz j hj hne
    rw [eW 422 (by decide), eW 423 (by decide), eW 424 (by decide), (hJn.1 j hj).2 (by rw [(keep hz j hj hne).1]; exact hne), show cS K c M1 (n + 1) 16 j = cS K c M1 k 16 j from q2, show cS K c M1 (n + 1) 17 j = cS K c M1 k 17 j from q3, show cS K c M1 (n + 1) 18 j = cS K c M1 k 18 j from q4]
/-- what the two write -/
def pvW (K : Nat → Nat → Nat) (o c g : Nat) (M N : gMe) : Prop :=
  ((wpR K o c g M).1 = -2 ∧ pfN K o c (piF g) N = 0) ∨
  ((wpR K o c g M).1 = -3 ∧ ∃ n, pfN K o c (piF g) N = nI n ∧ 40 < n ∧ n ≤ 756) ∨
  ∃ n, 1 ≤ n ∧ n ≤ 40 ∧ (wpR K o c g M).1 = nI n ∧ (wpR K o c g M).2 11 3 = nI n ∧ pfN K o c (piF g) N = nI n ∧ ∀ i, i < n → (wpR K o c g M).2 12 i = pfT K o c (piF g) N 418 i ∧ (wpR K o c g M).2 13 i = pfT K o c (piF g) N 419 i ∧ (wpR K o c g M).2 14 i = pfT K o c (piF g) N 420 i
theorem pv_wr {K : Nat → Nat → Nat} {o c g : Nat} {M N : gMe} (h : pvE K o c g M N) (hg : g < 756) : pvW K o c g M N := by
  obtain ⟨h1, h2, h3, h4, h5⟩ := h
  by_cases hz : fdM K o c g M 15 g = 0
  · refine Or.inl ⟨by unfold wpR; rw [if_pos hz], by unfold pfN; rw [if_pos (h1.mp hz)]⟩
  · have hzW : ¬ pfW K o c N 421 (piF g) = 0 := fun q => hz (h1.mpr q)
    obtain ⟨hT, hf⟩ := h5 hz
    obtain ⟨w1, w2, -⟩ := pfW_kn (K := K) (o := o) (c := c) (M := N)
    have hT0 : gTq (wp3 (fdM K o c g M)) (gst (pfW K o c N) 426 0 (nI (piF g))) (fun j => j < 756 ∧ ¬ fdM K o c g M 15 j = 0) := hT.mv wp3_ws gDk.sk
    have hd0 : dRel (wp3 (fdM K o c g M)) (gst (pfW K o c N) 426 0 (nI (piF g))) (fun j => j < 756 ∧ ¬ fdM K o c g M 15 j = 0) 0 := by
      refine dRel.sk ⟨by omega, ?_, w2, fun j hj => ?_, fun i hi => by omega⟩
      · unfold wp3; rw [mfill_ne (by decide), gst_same, upd_s]; rfl
      · unfold wp3; rw [mfill_at, if_pos rfl, if_pos hj.1, w1 _ (piF_lt hj.1)]
    have hu : ¬ 0 ≤ gst (pfW K o c N) 426 0 (nI (piF g)) 425 (piF g) := by
      rw [gst_ne _ _ _ _ (by decide), w1 _ (piF_lt hg)]; decide
    have hRk := h3.mv (M' := gst (pfW K o c N) 426 0 (nI (piF g))) gDk.sk
    have hmd := (pfW_md (K := K) (o := o) (c := c) (M := N)).sk (k := 0) (x := nI (piF g))
    have hfin := (dfs_sim (S := fun j => j < 756 ∧ ¬ fdM K o c g M 15 j = 0) (S' := fun j => j < 756 ∧ ¬ pfW K o c N 421 j = 0) (rk := fun j => (pfW K o c N 421 j).toNatClampNeg) (fun j hj => ⟨piF_lt hj.1, hf j hj.1 hj.2⟩) 40 1 (wp3 (fdM K o c g M)) (gst (pfW K o c N) 426 0 (nI (piF g))) g 759 0 0 rfl (Nat.le_refl _) ⟨hg, hz⟩ hT0 hRk hmd hd0 h4).2 hu
    obtain ⟨-, q2, q3, -, -⟩ := dfM_ok (S := fun j => j < 756 ∧ ¬ pfW K o c N 421 j = 0) (rk := fun j => (pfW K o c N 421 j).toNatClampNeg) 759 0 (gst (pfW K o c N) 426 0 (nI (piF g))) (piF g) h4 ⟨piF_lt hg, hzW⟩ hRk hmd hu
    have eT : pfT K o c (piF g) N = dfM 759 0 (gst (pfW K o c N) 426 0 (nI (piF g))) (piF g) := by unfold pfT; rw [if_neg hzW]
    have eN : pfN K o c (piF g) N = dfM 759 0 (gst (pfW K o c N) 426 0 (nI (piF g))) (piF g) 400 22 := by unfold pfN; rw [if_neg hzW, eT]
    have eW : wpR K o c g M = if (wsR 40 (wp3 (fdM K o c g M)) g).1 = 0 then (-3, (wsR 40 (wp3 (fdM K o c g M)) g).2) else ((wsR 40 (wp3 (fdM K o c g M)) g).2 11 3, (wsR 40 (wp3 (fdM K o c g M)) g).2) := by unfold wpR; rw [if_neg hz]
    have hbs : (wsR 40 (wp3 (fdM K o c g M)) g) = (wsR 40 (wp3 (fdM K o c g M)) g) := rfl
    unfold pvW
    rw [eW, eT, eN]
    generalize wsR 40 (wp3 (fdM K o c g M)) g = R9 at hfin
    generalize dfM 759 0 (gst (pfW K o c N) 426 0 (nI (piF g))) (piF g) = B9 at hfin q2 q3
    rcases hfin with ⟨c1, -, n, d1, d2, d3, -, d5⟩ | ⟨c1, n, c2, c3, c4⟩
    · rw [if_neg (by rw [c1]; decide)]
      refine Or.inr (Or.inr ⟨n, ?_, d1, d2, d2, d3, d5⟩)
      obtain ⟨n9, g1, g2⟩ := q2
      have hn9 : n9 ≤ 756 := by rw [← g2]; exact cntB_le _ _
      have e9 := congrArg Int32.toNatClampNeg (g1.symm.trans d3)
      rw [nI_clamp (by omega), nI_clamp (by omega)] at e9
      have hpos : 0 < n9 := by
        rw [← g2]
        exact Nat.lt_of_le_of_lt (Nat.zero_le _) (cntB_lt (q := fun _ => false) 756 (fun i _ hq => by cases hq) ⟨piF g, piF_lt hg, by simpa using q3, by simp⟩)
      omega
    · rw [if_pos c1]
      exact Or.inr (Or.inl ⟨rfl, n, c2, by omega, c3⟩)

/-! the first round, and all rounds -/
theorem piBF {j : Nat} : piB (piF j) = j := by
  unfold piF
  split
  · unfold piB; rw [if_neg (by omega), if_pos (by omega)]; omega
  · split
    · unfold piB; rw [if_pos (by omega)]; omega
    · unfold piB; rw [if_neg (by omega), if_neg (by omega)]
theorem fsW_eq {f : Nat → Nat} {o : Nat} (hk : kOK f) : fsW f o = (fsN f o).map piF := by
  obtain ⟨h0, h1, k0, k1, k2, k3⟩ := hk
  unfold fsW fsN
  by_cases e0 : f 1 = 0
  · rw [if_pos e0, if_pos e0]
    by_cases e : f 4 = o
    · rw [if_pos e, if_pos e]; show _ = some _; rw [piF_m h0 (k0 e0).1 (k0 e0).2.1]
    · rw [if_neg e, if_neg e]; rfl
  · rw [if_neg e0, if_neg e0]
    by_cases e1 : f 1 = 1
    · rw [if_pos e1, if_pos e1]; show _ = some _; rw [piF_s (k1 e1) h0]
    · rw [if_neg e1, if_neg e1]
      by_cases e2 : f 1 = 2
      · rw [if_pos e2, if_pos e2]
        by_cases e : f 4 = o
        · rw [if_pos e, if_pos e]; show _ = some _; rw [piF_t h0 (k2 e2).1 (k2 e2).2.1 (k2 e2).2.2.2]
        · rw [if_neg e, if_neg e]; rfl
      · rw [if_neg e2, if_neg e2]; rfl
def oS (N0 N : gMe) : Prop := ∃ s, oR N0 (s, N)
def rSd (N0 : gMe) (K : Nat → Nat → Nat) (o c j : Nat) : Option gRs := fstO (fun n => if pHo N0 n then (match fsW (K n) o with | some t => tR t (1, nI n, 0) j | none => none) else none) c 1
theorem att_sd {N0 : gMe} (hw : 0 < N0 400 36) {K : Nat → Nat → Nat} {o c : Nat} (hK : ∀ n, 1 ≤ n → n ≤ c → kOK (K n)) : Att (fun s => s) 421 (N0 400 36) (oS N0) (sdM K o c) (rSd N0 K o c) := by
  have hwn : ¬ N0 400 36 = 0 := fun e => by rw [e] at hw; exact absurd hw (by decide)
  refine Att.it (f := sdX K o) hwn c 1 (fun n h1 hn => ?_)
  cases hf : fsW (K n) o with
  | none =>
    refine (Att.id).congr (fun M => ?_) (fun j _ => ?_)
    · unfold sdX; rw [hf]; simp
    · simp
  | some t =>
    have ht : t < 756 := by
      rw [fsW_eq (hK n h1 (by omega))] at hf
      cases hq : fsN (K n) o with
      | none => rw [hq] at hf; cases hf
      | some z => rw [hq] at hf; cases hf; exact piF_lt (fsN_lt (hK n h1 (by omega)) hq)
    have hleaf : Att (fun s => s) 421 (N0 400 36) (oS N0) (fun M => if M 421 t = 0 then mFd M t 1 (nI n) 0 else M) (tR t (1, nI n, 0)) := by
      intro M hM
      obtain ⟨s, hq⟩ := hM
      by_cases e : M 421 t = 0
      · simp only [if_pos e]
        obtain ⟨g1, g2⟩ := hq.found hw ht e 1 (nI n) 0
        exact ⟨⟨1, g1⟩, g2⟩
      · simp only [if_neg e]
        refine ⟨⟨s, hq⟩, fun j hj => ⟨fun _ => ⟨rfl, rfl, rfl, rfl⟩, fun g => ?_⟩⟩
        rw [tR_n (fun e9 => e (by rw [← e9]; exact g))]
        exact g
    refine (Att.iff (P := fun M => pHo M n) (fun M h => by obtain ⟨s, hq⟩ := h; exact hq.ho n) (fun _ => hleaf)).congr (fun M => ?_) (fun j _ => ?_)
    · unfold sdX; rw [hf]
    · rfl
theorem tR_pi {t : Nat} {q : gRs} {j : Nat} : tR (piF t) q (piF j) = tR t q j := by
  unfold tR
  by_cases e : j = t
  · subst e; rw [if_pos rfl, if_pos rfl]
  · rw [if_neg e, if_neg (fun h => e (by rw [← piBF (j := j), h, piBF]))]
theorem sd_teq {M N : gMe} {K : Nat → Nat → Nat} {o c j : Nat} (hK : ∀ n, 1 ≤ n → n ≤ c → kOK (K n)) (hv : ∀ n, 1 ≤ n → n ≤ c → (pVal M (cP n) (M 4 1) ↔ pHo N n)) : rSd N K o c (piF j) = (tSd M K o c j).map trR := by
  unfold rSd tSd
  rw [fstO_map]
  refine fstO_cg c 1 (fun n h1 h2 => ?_)
  rw [fsW_eq (hK n h1 (by omega))]
  cases fsN (K n) o with
  | none =>
    show (if _ then none else none) = ((if _ then none else none : Option gRs)).map trR
    simp
  | some t =>
    show (if pHo N n then tR (piF t) (1, nI n, 0) (piF j) else none) = ((if pVal M (cP n) (M 4 1) then tR t (1, nI n, 0) j else none)).map trR
    rw [tR_pi]
    by_cases e : pHo N n
    · rw [if_pos e, if_pos ((hv n h1 (by omega)).mpr e)]
      unfold tR
      rw [mp_if]
      rfl
    · rw [if_neg e, if_neg (fun q => e ((hv n h1 (by omega)).mp q))]; rfl
/-- what is found, found when, and for which reason -/
def gIn (M : gMe) (i : Nat) : Prop := ∀ j, j < 756 → ¬ M 15 j = 0 → ∃ ρ, 1 ≤ ρ ∧ ρ ≤ i + 1 ∧ M 15 j = nI ρ ∧ ((M 16 j = 1 ∧ M 18 j = 0) ∨ gSh (fun x => ∃ ρ', 1 ≤ ρ' ∧ ρ' < ρ ∧ M 15 x = nI ρ') (M 16 j, M 17 j, M 18 j))
theorem gSh.mono {P Q : Nat → Prop} {q : gRs} (h : gSh P q) (hpq : ∀ z, z < 756 → P z → Q z) : gSh Q q := by
  rcases h with ⟨h1, z, h2, h3, h4⟩ | ⟨h1, ⟨x, x1, x2, x3⟩, z, h2, h3, h4⟩
  · exact Or.inl ⟨h1, z, h2, h3, hpq z h2 h4⟩
  · exact Or.inr ⟨h1, ⟨x, x1, x2, hpq x x1 x3⟩, z, h2, h3, hpq z h2 h4⟩
theorem nI_nz {n : Nat} (h0 : 0 < n) (h : n < 2 ^ 31) : ¬ nI n = 0 := fun e => nI_nle h0 h (by rw [e]; decide)
/-- where the proof stands after i rounds more -/
def gJ (c i : Nat) (M N : gMe) : Prop := gSi M N ∧ M 10 7 = nI (i + 1) ∧ N 400 36 = nI (i + 1) ∧ (∀ j, j < 756 → N 421 j ≤ 0 → N 421 j = 0) ∧ (∀ n, 1 ≤ n → n ≤ c → (pVal M (cP n) (M 4 1) ↔ pHo N n)) ∧ gIn M i
theorem gJ.step {K : Nat → Nat → Nat} {c i : Nat} {M N : gMe} (hK : ∀ n, 1 ≤ n → n ≤ c → kOK (K n)) (hi : i < 1000) (h : gJ c i M N) : gJ c (i + 1) (rnd K c M) (goR K c N).2 ∧ (rnd K c M 10 8 = 0 ↔ (goR K c N).1 = 0) := by
  obtain ⟨h1, h2, h3, h4, h5, h6⟩ := h
  have e1 : N 400 36 + 1 = nI (i + 1 + 1) := by rw [h3]; exact nI_1 _
  have e2 : M 10 7 + 1 = nI (i + 1 + 1) := by rw [h2]; exact nI_1 _
  have hw : 0 < N 400 36 + 1 := by rw [e1]; exact Int32.not_le.mp (nI_nle (by omega) (by omega))
  have hwn : ¬ M 10 7 + 1 = 0 := by rw [e2]; exact nI_nz (by omega) (by omega)
  obtain ⟨s1, s2⟩ := sim_step hK h1 (by rw [h2, h3]) hw h4 h5
  obtain ⟨c1, c2⟩ := rnd_at (M := M) (K := K) (c := c) hK hwn
  obtain ⟨r1, -⟩ := go_at (N := N) (K := K) (c := c) h4 hw
  refine ⟨⟨s1, by rw [rnd_rd]; exact e2, ?_, r1.2.2.1, fun n a b => ?_, fun j hj hne => ?_⟩, s2⟩
  · rw [r1.now, rn0_36]; exact e1
  · rw [show pVal (rnd K c M) (cP n) (rnd K c M 4 1) ↔ pVal M (cP n) (M 4 1) by
      unfold pVal
      rw [gPs_rnd (cP n) (Or.inr (by unfold cP; omega)), gPs_rnd 4 (Or.inl (by decide))], r1.ho n, h5 n a b]
    unfold pHo
    rw [rn0_ne (b := 412) (by decide), rn0_ne (b := 410) (by decide), rn0_ne (b := 411) (by decide), show rn0 N 400 1 = N 400 1 by unfold rn0; rw [gst_same, upd_n _ _ (by decide)]]
  · have keep : ∀ x, x < 756 → ¬ M 15 x = 0 → rnd K c M 15 x = M 15 x := fun x hx hn => ((c2 x hx).1 hn).1
    by_cases e : M 15 j = 0
    · have h9 := (c2 j hj).2 e
      cases ht : tRnd (rd0 M) K c j with
      | none => rw [ht] at h9; exact absurd h9 hne
      | some q =>
        rw [ht] at h9
        have h9 : gNw 15 (M 10 7 + 1) (rnd K c M) j q := h9
        refine ⟨i + 1 + 1, by omega, by omega, h9.1.trans e2, Or.inr ?_⟩
        rw [show rnd K c M 16 j = q.1 from h9.2.1, show rnd K c M 17 j = q.2.1 from h9.2.2.1, show rnd K c M 18 j = q.2.2 from h9.2.2.2]
        refine (tRnd_sm hK hj ht).mono (fun z hz hp => ?_)
        have hz0 : ¬ M 15 z = 0 := by have := hp.1; rw [rd0_ne (by decide)] at this; exact this
        obtain ⟨ρ, p1, p2, p3, -⟩ := h6 z hz hz0
        exact ⟨ρ, p1, by omega, by rw [keep z hz hz0]; exact p3⟩
    · obtain ⟨ρ, p1, p2, p3, p4⟩ := h6 j hj e
      have h9 := (c2 j hj).1 e
      refine ⟨ρ, p1, by omega, by rw [keep j hj e]; exact p3, ?_⟩
      rw [show rnd K c M 16 j = M 16 j from h9.2.1, show rnd K c M 17 j = M 17 j from h9.2.2.1, show rnd K c M 18 j = M 18 j from h9.2.2.2]
      refine p4.imp id (fun g => g.mono (fun z hz hp => ?_))
      obtain ⟨ρ', q1, q2, q3⟩ := hp
      exact ⟨ρ', q1, q2, by rw [keep z hz (by rw [q3]; exact nI_nz (by omega) (by omega))]; exact q3⟩
/-- the beginning -/
theorem gJ.zero {K : Nat → Nat → Nat} {o c : Nat} {M N : gMe} (hK : ∀ n, 1 ≤ n → n ≤ c → kOK (K n)) (hv : ∀ n, 1 ≤ n → n ≤ c → (pVal M (cP n) (M 4 1) ↔ pHo N n)) : gJ c 0 (fd0 K o c M) (pfS K o c N) ∧ ((fd0 K o c M 10 8 = 0 ∧ ∀ j, j < 756 → fd0 K o c M 15 j = 0) ∨ (fd0 K o c M 10 8 = 1 ∧ ∃ j, j < 756 ∧ ¬ fd0 K o c M 15 j = 0)) := by
  obtain ⟨M0, eM⟩ : ∃ M0, M0 = gst (gst (mfill M 15 0 756) 10 7 1) 10 8 0 := ⟨_, rfl⟩
  obtain ⟨N0, eN⟩ : ∃ N0, N0 = pfA N o := ⟨_, rfl⟩
  have hM15 : ∀ j, j < 756 → M0 15 j = 0 := fun j hj => by rw [eM, gst_ne _ _ _ _ (by decide), gst_ne _ _ _ _ (by decide), mfill_at, if_pos rfl, if_pos hj]
  have hM7 : M0 10 7 = 1 := by rw [eM, gst_same, upd_n _ _ (by decide), gst_same, upd_s]
  have hM8 : M0 10 8 = 0 := by rw [eM, gst_same, upd_s]
  have hMo : ∀ b, b ≠ 10 → b ≠ 15 → M0 b = M b := fun b h1 h2 => by rw [eM, gst_ne _ _ _ _ h1, gst_ne _ _ _ _ h1, mfill_ne h2]
  have hN421 : ∀ j, j < 756 → N0 421 j = 0 := fun j hj => by
    rw [eN]; unfold pfA
    rw [gst_ne _ _ _ _ (by decide)]
    unfold pfI
    rw [mfill_at, if_neg (by decide), mfill_at, if_pos rfl, if_pos hj]
  have hN36 : N0 400 36 = 1 := by rw [eN]; unfold pfA; rw [gst_same, upd_s]
  have hNp : gPm N N0 := by rw [eN]; exact pfA_pm
  have hv0 : ∀ n, 1 ≤ n → n ≤ c → (pVal M0 (cP n) (M0 4 1) ↔ pHo N0 n) := fun n a b => by
    have h9 := hv n a b
    unfold pVal pHo at h9 ⊢
    rw [hMo (cP n) (by unfold cP; omega) (by unfold cP; omega), hMo 4 (by decide) (by decide), hNp.1 412 (by decide) (by decide), hNp.1 410 (by decide) (by decide), hNp.1 411 (by decide) (by decide), hNp.2 1 (by decide) (by decide) (by decide)]
    exact h9
  obtain ⟨c1, c2⟩ := att_sws (M0 := M0) (K := K) (o := o) (c := c) (by rw [hM7]; decide) hK M0 (oC_rf hM8)
  obtain ⟨⟨s, r1⟩, r2⟩ := att_sd (N0 := N0) (K := K) (o := o) (c := c) (by rw [hN36]; decide) hK N0 ⟨0, oR_rf (fun j hj _ => hN421 j hj)⟩
  have eF : fd0 K o c M = sws K o c M0 := by rw [eM]; rfl
  have eS : pfS K o c N = sdM K o c N0 := by rw [eN]; rfl
  rw [eF, eS]
  have c2 : ∀ j, j < 756 → (¬ M0 15 j = 0 → gSm 15 M0 (sws K o c M0) j) ∧ (M0 15 j = 0 → gTk 15 (M0 10 7) (sws K o c M0) j (tSd M0 K o c j)) := c2
  have r2 : ∀ j, j < 756 → (¬ N0 421 j = 0 → gSm 421 N0 (sdM K o c N0) j) ∧ (N0 421 j = 0 → gTk 421 (N0 400 36) (sdM K o c N0) j (rSd N0 K o c j)) := r2
  rw [hM7] at c2
  rw [hN36] at r2
  have hsim : gSi (sws K o c M0) (sdM K o c N0) := gSi_of (M0 := M0) (N0 := N0) (fun j hj => ⟨by rw [hM15 j hj, hN421 _ (piF_lt hj)], fun q => absurd (hM15 j hj) q⟩) c2 r2 (fun j hj => sd_teq hK hv0)
  refine ⟨⟨hsim, by rw [c1.2.1, hM7]; rfl, by rw [show sdM K o c N0 400 = N0 400 from r1.now, hN36]; rfl, r1.2.2.1, fun n a b => ?_, fun j hj hne => ?_⟩, ?_⟩
  · exact (c1.vl n).trans ((hv0 n a b).trans (r1.ho n).symm)
  · have h9 := (c2 j hj).2 (hM15 j hj)
    cases ht : tSd M0 K o c j with
    | none => rw [ht] at h9; exact absurd h9 hne
    | some q =>
      rw [ht] at h9
      have h9 : gNw 15 1 (sws K o c M0) j q := h9
      refine ⟨1, by omega, by omega, h9.1.trans rfl, Or.inl ?_⟩
      unfold tSd at ht
      obtain ⟨n, h1, h2, h3⟩ := fstO_sm c 1 ht
      rw [show sws K o c M0 16 j = q.1 from h9.2.1, show sws K o c M0 18 j = q.2.2 from h9.2.2.2]
      by_cases e : pVal M0 (cP n) (M0 4 1)
      · rw [if_pos e] at h3
        cases hf : fsN (K n) o with
        | none => rw [hf] at h3; cases h3
        | some t =>
          rw [hf] at h3
          have h3 : tR t (1, nI n, 0) j = some q := h3
          unfold tR at h3
          obtain ⟨-, rfl⟩ := if_sm h3
          exact ⟨rfl, rfl⟩
      · rw [if_neg e] at h3; cases h3
  · rcases c1.2.2.2 with ⟨g1, g2⟩ | ⟨g1, j, hj, -, g3⟩
    · exact Or.inl ⟨g1, fun j hj => by rw [g2 j]; exact hM15 j hj⟩
    · exact Or.inr ⟨g1, j, hj, g3⟩

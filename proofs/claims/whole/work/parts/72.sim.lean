/-! class and reference find the same, round by round -/
theorem if_sm {P : Prop} [Decidable P] {q r : gRs} (h : (if P then some r else none) = some q) : P ∧ r = q := by
  by_cases hp : P
  · rw [if_pos hp] at h; exact ⟨hp, Option.some.inj h⟩
  · rw [if_neg hp] at h; cases h
/-- a reason built on known facts -/
def gSh (P : Nat → Prop) (q : gRs) : Prop := (q.1 = 7 ∧ ∃ z, z < 756 ∧ q.2.2 = nI z ∧ P z) ∨ ((q.1 = 2 ∨ q.1 = 3 ∨ q.1 = 4 ∨ q.1 = 5 ∨ q.1 = 6) ∧ (∃ x, x < 756 ∧ q.2.1 = nI x ∧ P x) ∧ ∃ z, z < 756 ∧ q.2.2 = nI z ∧ P z)
theorem tRnd_sm {M : gMe} {K : Nat → Nat → Nat} {c j : Nat} {q : gRs} (hK : ∀ n, 1 ≤ n → n ≤ c → kOK (K n)) (hj : j < 756) (h : tRnd M K c j = some q) : gSh (fun j => pKn M j) q := by
  unfold tRnd at h
  rcases fct_cases hj with ⟨a, x, h1, h2, rfl⟩ | ⟨a, x, r, h1, h2, h3, rfl⟩ | ⟨a, x, r, d, h1, h2, h3, h4, rfl⟩
  · have hj9 : spkN a x < 36 := by unfold spkN; omega
    rw [tFmv_o (Or.inl hj9), tFmt_o (Or.inl hj9), tFtt_o (by omega), tFtv_o (by omega), tFim_o hK (Or.inl hj9), orE_n, orE_n, orE_n, orE_n, orE_z, tFvv_s h1 h2] at h
    obtain ⟨b, -, hb, h9⟩ := fstO_sm 6 0 h
    obtain ⟨g1, rfl⟩ := if_sm h9
    exact Or.inr ⟨by simp, ⟨_, spkN_lt h1 (by omega), rfl, g1.1⟩, _, spkN_lt (by omega) h2, rfl, g1.2⟩
  · have hj9 : 36 ≤ mayN a x r ∧ mayN a x r < 180 := by unfold mayN; omega
    rw [tFtt_o hj9.2, tFtv_o hj9.2, tFvv_o hj9.1, orE_n, orE_n, orE_n, orE_a, tFmv_m h1 h2 h3, tFmt_m h1 h2 h3, tFim_m hK h1 h2 h3] at h
    rcases orE_sm h with h | h
    · obtain ⟨b, -, hb, h9⟩ := fstO_sm 6 0 h
      obtain ⟨g1, rfl⟩ := if_sm h9
      exact Or.inr ⟨by simp, ⟨_, spkN_lt (by omega) h1, rfl, g1.1⟩, _, mayN_lt (by omega) h2 h3, rfl, g1.2⟩
    · rcases orE_sm h with h | h
      · obtain ⟨b, -, hb, h8⟩ := fstO_sm 6 0 h
        obtain ⟨d, -, hd, h9⟩ := fstO_sm 4 0 h8
        obtain ⟨g1, rfl⟩ := if_sm h9
        exact Or.inr ⟨by simp, ⟨_, truN_lt h1 (by omega) h3 (by omega), rfl, g1.1⟩, _, mayN_lt (by omega) h2 h3, rfl, g1.2⟩
      · obtain ⟨n, hn1, hn2, h9⟩ := fstO_sm c 1 h
        obtain ⟨g1, rfl⟩ := if_sm h9
        exact Or.inl ⟨rfl, _, mayN_lt h1 h2 ((hK n hn1 (by omega)).2.2.2.2.2 g1.2.1).1, rfl, g1.2.2.2.2⟩
  · have hj9 : 180 ≤ truN a x r d := by unfold truN; omega
    rw [tFmv_o (Or.inr hj9), tFmt_o (Or.inr hj9), tFvv_o (by omega), tFim_o hK (Or.inr hj9), orE_n, orE_n, orE_z, orE_z, tFtt_t h1 h2 h3 h4, tFtv_t h1 h2 h3 h4] at h
    rcases orE_sm h with h | h
    · obtain ⟨b, -, hb, h8⟩ := fstO_sm 6 0 h
      obtain ⟨d9, hd1, hd2, h7⟩ := fstO_sm 3 1 h8
      by_cases e1 : pKn M (truN a b r d9)
      · rw [if_pos e1] at h7
        obtain ⟨e, -, he, h9⟩ := fstO_sm 4 0 h7
        by_cases e2 : min (d9 - 1) e = d
        · rw [if_pos e2] at h9
          obtain ⟨g1, rfl⟩ := if_sm h9
          exact Or.inr ⟨by simp, ⟨_, truN_lt h1 (by omega) h3 (by omega), rfl, e1⟩, _, truN_lt (by omega) h2 h3 (by omega), rfl, g1⟩
        · rw [if_neg e2] at h9; cases h9
      · rw [if_neg e1] at h7; cases h7
    · obtain ⟨b, -, hb, h9⟩ := fstO_sm 6 0 h
      obtain ⟨g1, rfl⟩ := if_sm h9
      exact Or.inr ⟨by simp, ⟨_, spkN_lt (by omega) h1, rfl, g1.1⟩, _, truN_lt (by omega) h2 h3 h4, rfl, g1.2⟩
/-- the same facts found, for the same reasons -/
def gSi (M N : gMe) : Prop := ∀ j, j < 756 → N 421 (piF j) = M 15 j ∧ (¬ M 15 j = 0 → (N 422 (piF j), N 423 (piF j), N 424 (piF j)) = trR (M 16 j, M 17 j, M 18 j))
/-- out of one round's first reasons -/
theorem gSi_of {M0 N0 M' N' : gMe} {w : Int32} {T T' : Nat → Option gRs} (hS : gSi M0 N0) (hc : ∀ j, j < 756 → (¬ M0 15 j = 0 → gSm 15 M0 M' j) ∧ (M0 15 j = 0 → gTk 15 w M' j (T j))) (hr : ∀ j, j < 756 → (¬ N0 421 j = 0 → gSm 421 N0 N' j) ∧ (N0 421 j = 0 → gTk 421 w N' j (T' j))) (hT : ∀ j, j < 756 → T' (piF j) = (T j).map trR) : gSi M' N' := by
  intro j hj
  obtain ⟨s1, s2⟩ := hS j hj
  by_cases e : M0 15 j = 0
  · have h1 := (hc j hj).2 e
    have h2 := (hr _ (piF_lt hj)).2 (by rw [s1]; exact e)
    rw [hT j hj] at h2
    cases ht : T j with
    | none =>
      rw [ht] at h1 h2
      have h1 : M' 15 j = 0 := h1
      have h2 : N' 421 (piF j) = 0 := h2
      exact ⟨by rw [h1, h2], fun q => absurd h1 q⟩
    | some q =>
      rw [ht] at h1 h2
      have h1 : gNw 15 w M' j q := h1
      have h2 : gNw 421 w N' (piF j) (trR q) := h2
      obtain ⟨a1, a2, a3, a4⟩ := h1
      obtain ⟨b1, b2, b3, b4⟩ := h2
      refine ⟨by rw [a1, b1], fun _ => ?_⟩
      rw [show M' 16 j = q.1 from a2, show M' 17 j = q.2.1 from a3, show M' 18 j = q.2.2 from a4, show N' 422 (piF j) = (trR q).1 from b2, show N' 423 (piF j) = (trR q).2.1 from b3, show N' 424 (piF j) = (trR q).2.2 from b4]
  · obtain ⟨a1, a2, a3, a4⟩ := (hc j hj).1 e
    obtain ⟨b1, b2, b3, b4⟩ := (hr _ (piF_lt hj)).1 (by rw [s1]; exact e)
    refine ⟨by rw [a1, b1]; exact s1, fun _ => ?_⟩
    rw [show M' 16 j = M0 16 j from a2, show M' 17 j = M0 17 j from a3, show M' 18 j = M0 18 j from a4, show N' 422 (piF j) = N0 422 (piF j) from b2, show N' 423 (piF j) = N0 423 (piF j) from b3, show N' 424 (piF j) = N0 424 (piF j) from b4]
    exact s2 e
/-- the beginning of the class's round -/
def rd0 (M : gMe) : gMe := gst (gst M 10 7 (M 10 7 + 1)) 10 8 0
theorem rd0_ne {M : gMe} {b : Nat} (h : b ≠ 10) : rd0 M b = M b := by unfold rd0; rw [gst_ne _ _ _ _ h, gst_ne _ _ _ _ h]
theorem rd0_7 {M : gMe} : rd0 M 10 7 = M 10 7 + 1 := by unfold rd0; rw [gst_same, upd_n _ _ (by decide), gst_same, upd_s]
theorem rd0_8 {M : gMe} : rd0 M 10 8 = 0 := by unfold rd0; rw [gst_same, upd_s]
theorem oC_rf {M : gMe} (h : M 10 8 = 0) : oC M M := ⟨gPs.rf, rfl, fun j => ⟨fun _ => rfl, fun e => Or.inl e⟩, Or.inl ⟨h, fun _ => rfl⟩⟩
theorem rnd_at {M : gMe} {K : Nat → Nat → Nat} {c : Nat} (hK : ∀ n, 1 ≤ n → n ≤ c → kOK (K n)) (hw : ¬ M 10 7 + 1 = 0) : oC (rd0 M) (rnd K c M) ∧ ∀ j, j < 756 → (¬ M 15 j = 0 → gSm 15 M (rnd K c M) j) ∧ (M 15 j = 0 → gTk 15 (M 10 7 + 1) (rnd K c M) j (tRnd (rd0 M) K c j)) := by
  obtain ⟨h1, h2⟩ := att_wwf (M0 := rd0 M) (K := K) (c := c) (by rw [rd0_7]; exact hw) hK (rd0 M) (oC_rf rd0_8)
  have h2 : ∀ j, j < 756 → (¬ rd0 M 15 j = 0 → gSm 15 (rd0 M) (wwf K c (rd0 M)) j) ∧ (rd0 M 15 j = 0 → gTk 15 (rd0 M 10 7) (wwf K c (rd0 M)) j (tRnd (rd0 M) K c j)) := h2
  refine ⟨h1, fun j hj => ⟨fun e => ?_, fun e => ?_⟩⟩
  · have h9 := (h2 j hj).1 (by rw [rd0_ne (by decide)]; exact e)
    exact ⟨h9.1.trans (by rw [rd0_ne (by decide)]), h9.2.1.trans (by rw [rd0_ne (by decide)]), h9.2.2.1.trans (by rw [rd0_ne (by decide)]), h9.2.2.2.trans (by rw [rd0_ne (by decide)])⟩
  · have h9 := (h2 j hj).2 (by rw [rd0_ne (by decide)]; exact e)
    rw [rd0_7] at h9
    exact h9
def rn0 (N : gMe) : gMe := gst N 400 36 (N 400 36 + 1)
theorem rn0_ne {N : gMe} {b : Nat} (h : b ≠ 400) : rn0 N b = N b := gst_ne _ _ _ _ h
theorem rn0_36 {N : gMe} : rn0 N 400 36 = N 400 36 + 1 := by unfold rn0; rw [gst_same, upd_s]
theorem oR_rf {N : gMe} (h : ∀ j, j < 756 → N 421 j ≤ 0 → N 421 j = 0) : oR N (0, N) := ⟨fun _ _ => rfl, fun j => ⟨fun _ => rfl, fun _ => Or.inl rfl⟩, h, Or.inl ⟨rfl, fun _ => rfl⟩⟩
theorem go_at {N : gMe} {K : Nat → Nat → Nat} {c : Nat} (hN : ∀ j, j < 756 → N 421 j ≤ 0 → N 421 j = 0) (hw : 0 < N 400 36 + 1) : oR (rn0 N) (goR K c N) ∧ ∀ j, j < 756 → (¬ N 421 j = 0 → gSm 421 N (goR K c N).2 j) ∧ (N 421 j = 0 → gTk 421 (N 400 36 + 1) (goR K c N).2 j (rGo (rn0 N) K c j)) := by
  obtain ⟨h1, h2⟩ := att_go (N0 := rn0 N) (K := K) (c := c) (by rw [rn0_36]; exact hw) (0, rn0 N) (oR_rf (fun j hj => by rw [rn0_ne (by decide)]; exact hN j hj))
  have e9 : goR K c N = itP (gsA K c) 6 0 (0, rn0 N) := by unfold goR rn0; exact rfl
  rw [e9]
  generalize itP (gsA K c) 6 0 (0, rn0 N) = Q at h1 h2
  have h2 : ∀ j, j < 756 → (¬ rn0 N 421 j = 0 → gSm 421 (rn0 N) Q.2 j) ∧ (rn0 N 421 j = 0 → gTk 421 (rn0 N 400 36) Q.2 j (rGo (rn0 N) K c j)) := h2
  refine ⟨h1, fun j hj => ⟨fun e => ?_, fun e => ?_⟩⟩
  · have h9 := (h2 j hj).1 (by rw [rn0_ne (by decide)]; exact e)
    exact ⟨h9.1.trans (by rw [rn0_ne (by decide)]), h9.2.1.trans (by rw [rn0_ne (by decide)]), h9.2.2.1.trans (by rw [rn0_ne (by decide)]), h9.2.2.2.trans (by rw [rn0_ne (by decide)])⟩
  · have h9 := (h2 j hj).2 (by rw [rn0_ne (by decide)]; exact e)
    rw [rn0_36] at h9
    exact h9
theorem sim_step {M N : gMe} {K : Nat → Nat → Nat} {c : Nat} (hK : ∀ n, 1 ≤ n → n ≤ c → kOK (K n)) (hS : gSi M N) (hn : M 10 7 = N 400 36) (hw : 0 < N 400 36 + 1) (hN : ∀ j, j < 756 → N 421 j ≤ 0 → N 421 j = 0) (hv : ∀ n, 1 ≤ n → n ≤ c → (pVal M (cP n) (M 4 1) ↔ pHo N n)) : gSi (rnd K c M) (goR K c N).2 ∧ (rnd K c M 10 8 = 0 ↔ (goR K c N).1 = 0) := by
  have hwn : ¬ M 10 7 + 1 = 0 := fun e => by rw [← hn, e] at hw; exact absurd hw (by decide)
  obtain ⟨c1, c2⟩ := rnd_at (M := M) (K := K) (c := c) hK hwn
  obtain ⟨r1, r2⟩ := go_at (N := N) (K := K) (c := c) hN hw
  rw [← hn] at r2
  have hKe : gKe (rd0 M) (rn0 N) c := by
    refine ⟨fun j hj => ?_, fun n h1 h2 => ?_⟩
    · unfold pKn pHad
      rw [rd0_7, rn0_36, rd0_ne (b := 15) (by decide), rn0_ne (b := 421) (by decide), (hS j hj).1, hn]
      refine and_congr (not_congr ⟨fun e => by rw [e]; decide, fun e => ?_⟩) Iff.rfl
      rw [← (hS j hj).1] at e ⊢
      exact hN _ (piF_lt hj) e
    · have h9 := hv n h1 h2
      unfold pVal pHo at h9 ⊢
      rw [rd0_ne (b := cP n) (by unfold cP; omega), rd0_ne (b := 4) (by decide), rn0_ne (b := 412) (by decide), rn0_ne (b := 410) (by decide), rn0_ne (b := 411) (by decide), show rn0 N 400 1 = N 400 1 by unfold rn0; rw [gst_same, upd_n _ _ (by decide)]]
      exact h9
  have hsim : gSi (rnd K c M) (goR K c N).2 := gSi_of hS c2 r2 (fun j hj => teq hKe hK hj)
  refine ⟨hsim, ?_⟩
  constructor
  · intro h0
    rcases c1.2.2.2 with ⟨-, hs⟩ | ⟨h1, -⟩
    · rcases r1.2.2.2 with ⟨h9, -⟩ | ⟨-, j, hj, g1, g2⟩
      · exact h9
      · exfalso
        rw [rn0_ne (by decide)] at g1
        have hb := hsim (piB j) (piB_lt hj)
        rw [piFB] at hb
        have hb0 := hS (piB j) (piB_lt hj)
        rw [piFB] at hb0
        have h8 := hs (piB j)
        rw [rd0_ne (by decide)] at h8
        exact g2 (by rw [hb.1, h8, ← hb0.1]; exact g1)
    · rw [h1] at h0; exact absurd h0 (by decide)
  · intro h0
    rcases r1.2.2.2 with ⟨-, hs⟩ | ⟨h1, -⟩
    · rcases c1.2.2.2 with ⟨h9, -⟩ | ⟨-, j, hj, g1, g2⟩
      · exact h9
      · exfalso
        rw [rd0_ne (by decide)] at g1
        have h8 := hs (piF j)
        rw [rn0_ne (by decide)] at h8
        exact g2 (by rw [← (hsim j hj).1, h8, (hS j hj).1]; exact g1)
    · rw [h1] at h0; exact absurd h0 (by decide)

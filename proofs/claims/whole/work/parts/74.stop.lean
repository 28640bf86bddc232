/-! where class and reference stop -/
def cS (K : Nat → Nat → Nat) (c : Nat) (M : gMe) : Nat → gMe
  | 0 => M
  | i + 1 => rnd K c (cS K c M i)
def rS (K : Nat → Nat → Nat) (c : Nat) (N : gMe) : Nat → gMe
  | 0 => N
  | i + 1 => (goR K c (rS K c N i)).2
section gStop
variable {K : Nat → Nat → Nat} {c : Nat} {M N : gMe}
theorem cS_s (i : Nat) : cS K c M (i + 1) = rnd K c (cS K c M i) := by rw [cS]
theorem rS_s (i : Nat) : rS K c N (i + 1) = (goR K c (rS K c N i)).2 := by rw [rS]
theorem gJ.all (hK : ∀ n, 1 ≤ n → n ≤ c → kOK (K n)) (h : gJ c 0 M N) (i : Nat) (hi : i ≤ 1000) : gJ c i (cS K c M i) (rS K c N i) := by
  induction i with
  | zero => exact h
  | succ i ih =>
    rw [cS_s, rS_s]
    exact (gJ.step hK (by omega) (ih (by omega))).1
theorem gJ.fl (hK : ∀ n, 1 ≤ n → n ≤ c → kOK (K n)) (h : gJ c 0 M N) (i : Nat) (hi : i < 1000) : cS K c M (i + 1) 10 8 = 0 ↔ (goR K c (rS K c N i)).1 = 0 := (gJ.step hK hi (gJ.all hK h i (by omega))).2
theorem gJ.kp (hK : ∀ n, 1 ≤ n → n ≤ c → kOK (K n)) (h : gJ c 0 M N) (i : Nat) (hi : i < 1000) : oC (rd0 (cS K c M i)) (cS K c M (i + 1)) ∧ ∀ j, j < 756 → (¬ cS K c M i 15 j = 0 → gSm 15 (cS K c M i) (cS K c M (i + 1)) j) ∧ (cS K c M i 15 j = 0 → gTk 15 (cS K c M i 10 7 + 1) (cS K c M (i + 1)) j (tRnd (rd0 (cS K c M i)) K c j)) := rnd_at hK (by
    rw [(gJ.all hK h i (by omega)).2.1, nI_1]; exact nI_nz (by omega) (by omega))
theorem gJ.mono (hK : ∀ n, 1 ≤ n → n ≤ c → kOK (K n)) (h : gJ c 0 M N) {j : Nat} (hj : j < 756) (i : Nat) : ∀ d, i + d ≤ 1000 → ¬ cS K c M i 15 j = 0 → gSm 15 (cS K c M i) (cS K c M (i + d)) j
  | 0, _, _ => ⟨rfl, rfl, rfl, rfl⟩
  | d + 1, hd, hne => by
    have h1 := gJ.mono hK h hj i d (by omega) hne
    exact h1.tr (((gJ.kp hK h (i + d) (by omega)).2 j hj).1 (by rw [h1.1]; exact hne))
def cnF (M : gMe) : Nat := cntB (fun j => decide (¬ M 15 j = 0)) 756
theorem gJ.cn (hK : ∀ n, 1 ≤ n → n ≤ c → kOK (K n)) (h : gJ c 0 M N) (h0 : ∃ j, j < 756 ∧ ¬ M 15 j = 0) : ∀ i, i < 1000 → (∀ t, t ≤ i → ¬ cS K c M t 10 8 = 0) → i + 1 ≤ cnF (cS K c M i)
  | 0, _, _ => by
    obtain ⟨j, hj, hn⟩ := h0
    have h9 := cntB_lt (p := fun j => decide (¬ M 15 j = 0)) (q := fun _ => false) 756 (fun i _ hq => by cases hq) ⟨j, hj, by simpa using hn, by simp⟩
    show 0 + 1 ≤ cntB _ 756
    exact Nat.lt_of_le_of_lt (Nat.zero_le _) h9
  | i + 1, hi, hf => by
    have h1 := gJ.cn hK h h0 i (by omega) (fun t ht => hf t (by omega))
    obtain ⟨g1, g2⟩ := gJ.kp hK h i (by omega)
    rcases g1.2.2.2 with ⟨g3, -⟩ | ⟨-, j, hj, g3, g4⟩
    · exact absurd g3 (hf (i + 1) (Nat.le_refl _))
    · rw [rd0_ne (by decide)] at g3
      have h9 : cnF (cS K c M i) < cnF (cS K c M (i + 1)) := cntB_lt 756 (fun x hx hq => by
        have hq : ¬ cS K c M i 15 x = 0 := by simpa using hq
        have h8 := ((g2 x hx).1 hq).1
        simpa [h8] using hq) ⟨j, hj, by simpa using g4, by simpa using g3⟩
      omega
theorem fdL_eq {g : Nat} : ∀ (d i : Nat), ∃ k, i ≤ k ∧ k ≤ i + d ∧ fdL K c g d (cS K c M i) = cS K c M k ∧ (∀ t, i ≤ t → t < k → pGo (cS K c M t) g) ∧ (k = i + d ∨ ¬ pGo (cS K c M k) g)
  | 0, i => ⟨i, Nat.le_refl _, Nat.le_refl _, rfl, fun t h1 h2 => by omega, Or.inl rfl⟩
  | d + 1, i => by
    by_cases e : pGo (cS K c M i) g
    · obtain ⟨k, h1, h2, h3, h4, h5⟩ := fdL_eq (g := g) d (i + 1)
      refine ⟨k, by omega, by omega, ?_, fun t a b => ?_, ?_⟩
      · show (if pGo (cS K c M i) g then fdL K c g d (rnd K c (cS K c M i)) else cS K c M i) = _
        rw [if_pos e]; exact h3
      · by_cases e9 : t = i
        · rw [e9]; exact e
        · exact h4 t (by omega) b
      · rcases h5 with h5 | h5
        · exact Or.inl (by omega)
        · exact Or.inr h5
    · refine ⟨i, Nat.le_refl _, by omega, ?_, fun t h1 h2 => by omega, Or.inr e⟩
      show (if pGo (cS K c M i) g then fdL K c g d (rnd K c (cS K c M i)) else cS K c M i) = _
      rw [if_neg e]
theorem pfL_s (d : Nat) (N : gMe) : pfL K c (d + 1) N = if (goR K c N).1 = 0 then (goR K c N).2 else pfL K c d (goR K c N).2 := rfl
theorem pfL_eq (hK : ∀ n, 1 ≤ n → n ≤ c → kOK (K n)) (h : gJ c 0 M N) (d : Nat) : ∀ i : Nat, i + d ≤ 1000 → unf (rS K c N i) < d → ∃ n, i ≤ n ∧ n < i + d ∧ pfL K c d (rS K c N i) = rS K c N (n + 1) ∧ (goR K c (rS K c N n)).1 = 0 ∧ ∀ t, i ≤ t → t < n → ¬ (goR K c (rS K c N t)).1 = 0 := by
  induction d with
  | zero => intro i _ hu; exact absurd hu (Nat.not_lt_zero _)
  | succ d ih =>
    intro i hi hu
    by_cases e : (goR K c (rS K c N i)).1 = 0
    · refine ⟨i, Nat.le_refl _, by omega, ?_, e, fun t h1 h2 => absurd h2 (by omega)⟩
      rw [pfL_s, if_pos e, rS_s]
    · have hlt := goR_less (K := K) (c := c) (M := rS K c N i) (by rw [(gJ.all hK h i (by omega)).2.2.1, nI_1]; exact nI_nle (by omega) (by omega)) e
      rw [← rS_s] at hlt
      obtain ⟨n, h1, h2, h3, h4, h5⟩ := ih (i + 1) (by omega) (Nat.lt_of_lt_of_le hlt (Nat.le_of_lt_succ hu))
      refine ⟨n, by omega, by omega, ?_, h4, fun t a b => ?_⟩
      · rw [pfL_s, if_neg e, ← rS_s]; exact h3
      · by_cases e9 : t = i
        · rw [e9]; exact e
        · exact h5 t (by omega) b
end gStop
/-- the tables that class and reference end with -/
theorem prover_end {K : Nat → Nat → Nat} {o c g : Nat} {M N : gMe} (hK : ∀ n, 1 ≤ n → n ≤ c → kOK (K n)) (hv : ∀ n, 1 ≤ n → n ≤ c → (pVal M (cP n) (M 4 1) ↔ pHo N n)) (hg : g < 756) :
    ∃ (k n : Nat) (M1 N1 : gMe), M1 = fd0 K o c M ∧ gJ c 0 M1 N1 ∧ k ≤ 757 ∧ n < 757 ∧ fdM K o c g M = cS K c M1 k ∧ (∀ b, b ≠ 400 → pfW K o c N b = rS K c N1 (n + 1) b) ∧ (cS K c M1 k 15 g = 0 → rS K c N1 (n + 1) 421 (piF g) = 0) ∧ (¬ cS K c M1 k 15 g = 0 → k ≤ n + 1) := by
  obtain ⟨hJ, h0⟩ := gJ.zero (K := K) (o := o) (c := c) hK hv
  obtain ⟨k, -, hk2, hk3, hk4, hk5⟩ := fdL_eq (K := K) (c := c) (M := fd0 K o c M) (g := g) 757 0
  obtain ⟨n, -, hn2, hn3, hn4, hn5⟩ := pfL_eq hK hJ 757 0 (by omega) (Nat.lt_of_le_of_lt (cntB_le _ _) (by omega))
  have hall := gJ.all hK hJ
  have hfl := gJ.fl hK hJ
  refine ⟨k, n, _, _, rfl, hJ, by omega, by omega, hk3, fun b hb => ?_, fun hz => ?_, fun hz => ?_⟩
  · show gst (pfL K c 757 (pfS K o c N)) 400 22 0 b = _
    rw [gst_ne _ _ _ _ hb]
    exact congrFun hn3 b
  · have hflag : cS K c (fd0 K o c M) k 10 8 = 0 := by
      refine Decidable.byContradiction (fun hne => ?_)
      by_cases hk9 : 756 ≤ k
      · have hfs : ∀ t, t ≤ k → ¬ cS K c (fd0 K o c M) t 10 8 = 0 := fun t ht => by
          by_cases e : t = k
          · rw [e]; exact hne
          · exact (hk4 t (by omega) (by omega)).2.1
        have h9 := gJ.cn hK hJ (by
          rcases h0 with ⟨g1, -⟩ | ⟨-, g2⟩
          · exact absurd g1 (hfs 0 (by omega))
          · exact g2) k (by omega) hfs
        have h8 : cnF (cS K c (fd0 K o c M) k) ≤ 756 := cntB_le _ _
        omega
      · rcases hk5 with h5 | h5
        · omega
        · exact h5 ⟨hz, hne, by rw [(hall k (by omega)).2.1]; exact nI_nlt (a := 756) (b := k + 1) (by omega) (by decide)⟩
    have hw0 : cS K c (fd0 K o c M) (n + 1) 15 g = 0 := by
      cases k with
      | zero =>
        rcases h0 with ⟨-, g1⟩ | ⟨g1, -⟩
        · obtain ⟨p1, p2⟩ := gJ.kp hK hJ 0 (by omega)
          have hno : ∀ j, j < 756 → cS K c (fd0 K o c M) 1 15 j = 0 := fun j hj => by
            have h9 := (p2 j hj).2 (g1 j hj)
            cases ht : tRnd (rd0 (cS K c (fd0 K o c M) 0)) K c j with
            | none => rw [ht] at h9; exact h9
            | some q =>
              exfalso
              have hkn : ∀ z, z < 756 → ¬ pKn (rd0 (cS K c (fd0 K o c M) 0)) z := fun z hz9 hp => hp.1 (by rw [rd0_ne (by decide)]; exact g1 z hz9)
              rcases tRnd_sm hK hj ht with ⟨-, z, q1, -, q2⟩ | ⟨-, -, z, q1, -, q2⟩ <;> exact hkn z q1 q2
          have hf1 : cS K c (fd0 K o c M) 1 10 8 = 0 := by
            rcases p1.2.2.2 with ⟨q1, -⟩ | ⟨-, j, hj, -, q3⟩
            · exact q1
            · exact absurd (hno j hj) q3
          have hn0 : n = 0 := by
            refine Decidable.byContradiction (fun e => ?_)
            exact hn5 0 (by omega) (by omega) ((hfl 0 (by omega)).mp hf1)
          subst hn0
          exact hno g hg
        · rw [show cS K c (fd0 K o c M) 0 = fd0 K o c M from rfl, g1] at hflag; exact absurd hflag (by decide)
      | succ t =>
        have hf := (hfl t (by omega)).mp hflag
        have hle : n ≤ t := by
          refine Decidable.byContradiction (fun e => ?_)
          exact hn5 t (by omega) (by omega) hf
        refine Decidable.byContradiction (fun hne => ?_)
        have h9 := gJ.mono hK hJ hg (n + 1) (t - n) (by omega) hne
        rw [show n + 1 + (t - n) = t + 1 by omega] at h9
        exact hne (by rw [← h9.1]; exact hz)
    rw [((hall (n + 1) (by omega)).1 g hg).1]
    exact hw0
  · refine Decidable.byContradiction (fun e => ?_)
    exact (hk4 (n + 1) (by omega) (by omega)).2.1 ((hfl n (by omega)).mpr hn4)

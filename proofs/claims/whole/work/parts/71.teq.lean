/-! the two orders give one reason -/
theorem tO_n {t : Nat} {T : Option gRs} {j : Nat} (h : j ≠ t) : tO t T j = none := if_neg h
theorem tO_s {t : Nat} {T : Option gRs} : tO t T t = T := if_pos rfl
section gGoSel
variable {N0 : gMe} {K : Nat → Nat → Nat} {c : Nat}
theorem rT_o {a x r j : Nat} (hj : j < 180) : rT N0 a x r j = none := fstO_no 4 0 (fun d _ _ => tO_n (by unfold truM; omega))
theorem rR_n {a x r j : Nat} (h1 : j ≠ mayM a x r) (h2 : rT N0 a x r j = none) : rR N0 K c a x r j = none := by
  unfold rR
  rw [tO_n h1, h2]
  rfl
theorem rX_n {a x j : Nat} (h1 : ∀ r, r < 4 → rR N0 K c a x r j = none) (h2 : j ≠ spkM a x) : rX N0 K c a x j = none := by
  unfold rX
  rw [fstO_no 4 0 (fun r _ hr => h1 r (by omega)), tO_n h2]
  rfl
theorem rGo_m {a x r : Nat} (h1 : a < 6) (h2 : x < 6) (h3 : r < 4) : rGo N0 K c (mayM a x r) = nmR N0 K c a x r := by
  have hj : mayM a x r < 180 := by unfold mayM; omega
  have hs : ∀ a9 x9, mayM a x r ≠ spkM a9 x9 := fun a9 x9 => by unfold mayM spkM; omega
  unfold rGo rA
  rw [fstO_one (i0 := a) 6 0 (by omega) (by omega) (fun i _ hi hne => fstO_no 6 0 (fun x9 _ hx9 => rX_n (fun r9 hr9 => rR_n (by unfold mayM; omega) (rT_o hj)) (hs _ _)))]
  rw [fstO_one (i0 := x) 6 0 (by omega) (by omega) (fun i _ hi hne => rX_n (fun r9 hr9 => rR_n (by unfold mayM; omega) (rT_o hj)) (hs _ _))]
  unfold rX
  rw [fstO_one (i0 := r) 4 0 (by omega) (by omega) (fun i _ hi hne => rR_n (by unfold mayM; omega) (rT_o hj)), tO_n (hs _ _), orE_n]
  unfold rR
  rw [tO_s, rT_o hj, orE_n]
theorem rGo_s {a x : Nat} (h1 : a < 6) (h2 : x < 6) : rGo N0 K c (spkM a x) = nvR N0 a x := by
  have hj : spkM a x < 180 := by unfold spkM; omega
  have hs : ∀ a9 x9 r9, a9 < 6 → x9 < 6 → r9 < 4 → spkM a x ≠ mayM a9 x9 r9 := fun a9 x9 r9 _ _ _ => by unfold mayM spkM; omega
  unfold rGo rA
  rw [fstO_one (i0 := a) 6 0 (by omega) (by omega) (fun i _ hi hne => fstO_no 6 0 (fun x9 _ hx9 => rX_n (fun r9 hr9 => rR_n (hs _ _ _ (by omega) (by omega) hr9) (rT_o hj)) (by unfold spkM; omega)))]
  rw [fstO_one (i0 := x) 6 0 (by omega) (by omega) (fun i _ hi hne => rX_n (fun r9 hr9 => rR_n (hs _ _ _ (by omega) (by omega) hr9) (rT_o hj)) (by unfold spkM; omega))]
  unfold rX
  rw [fstO_no 4 0 (fun r9 _ hr9 => rR_n (hs _ _ _ (by omega) (by omega) (by omega)) (rT_o hj)), tO_s, orE_z]
theorem rGo_t {a x r d : Nat} (h1 : a < 6) (h2 : x < 6) (h3 : r < 4) (h4 : d < 4) : rGo N0 K c (truM a x r d) = ntR N0 a x r d := by
  have hj : 180 ≤ truM a x r d := by unfold truM; omega
  have hm : ∀ a9 x9 r9, a9 < 6 → x9 < 6 → r9 < 4 → truM a x r d ≠ mayM a9 x9 r9 := fun a9 x9 r9 _ _ _ => by unfold mayM truM; omega
  have hs : ∀ a9 x9, a9 < 6 → x9 < 6 → truM a x r d ≠ spkM a9 x9 := fun a9 x9 _ _ => by unfold truM spkM; omega
  have ht : ∀ a9 x9 r9, a9 < 6 → x9 < 6 → r9 < 4 → ¬ (a9 = a ∧ x9 = x ∧ r9 = r) → rT N0 a9 x9 r9 (truM a x r d) = none := fun a9 x9 r9 _ _ _ hne => fstO_no 4 0 (fun d9 _ hd9 => tO_n (by unfold truM; omega))
  unfold rGo rA
  rw [fstO_one (i0 := a) 6 0 (by omega) (by omega) (fun i _ hi hne => fstO_no 6 0 (fun x9 _ hx9 => rX_n (fun r9 hr9 => rR_n (hm _ _ _ (by omega) (by omega) hr9) (ht _ _ _ (by omega) (by omega) hr9 (fun q => hne q.1))) (hs _ _ (by omega) (by omega))))]
  rw [fstO_one (i0 := x) 6 0 (by omega) (by omega) (fun i _ hi hne => rX_n (fun r9 hr9 => rR_n (hm _ _ _ (by omega) (by omega) hr9) (ht _ _ _ (by omega) (by omega) hr9 (fun q => hne q.2.1))) (hs _ _ (by omega) (by omega)))]
  unfold rX
  rw [fstO_one (i0 := r) 4 0 (by omega) (by omega) (fun i _ hi hne => rR_n (hm _ _ _ (by omega) (by omega) (by omega)) (ht _ _ _ (by omega) (by omega) (by omega) (fun q => hne q.2.2))), tO_n (hs _ _ h1 h2), orE_n]
  unfold rR
  rw [tO_n (hm _ _ _ h1 h2 h3), orE_z]
  unfold rT
  rw [fstO_one (i0 := d) 4 0 (by omega) (by omega) (fun i _ hi hne => tO_n (by unfold truM; omega)), tO_s]
end gGoSel
/-! the facts' numbers -/
def piF (j : Nat) : Nat := if j < 36 then j + 144 else if j < 180 then j - 36 else j
def piB (j : Nat) : Nat := if j < 144 then j + 36 else if j < 180 then j - 144 else j
theorem piF_lt {j : Nat} (h : j < 756) : piF j < 756 := by unfold piF; split; omega; split <;> omega
theorem piB_lt {j : Nat} (h : j < 756) : piB j < 756 := by unfold piB; split; omega; split <;> omega
theorem piFB {j : Nat} : piF (piB j) = j := by
  unfold piB
  split
  · unfold piF; rw [if_neg (by omega), if_pos (by omega)]; omega
  · split
    · unfold piF; rw [if_pos (by omega)]; omega
    · unfold piF; rw [if_neg (by omega), if_neg (by omega)]
theorem piF_m {a x r : Nat} (h1 : a < 6) (h2 : x < 6) (h3 : r < 4) : piF (mayN a x r) = mayM a x r := by unfold piF mayN mayM; rw [if_neg (by omega), if_pos (by omega)]; omega
theorem piF_s {a x : Nat} (h1 : a < 6) (h2 : x < 6) : piF (spkN a x) = spkM a x := by unfold piF spkN spkM; rw [if_pos (by omega)]; omega
theorem piF_t {a x r d : Nat} (h1 : a < 6) (h2 : x < 6) (h3 : r < 4) (h4 : d < 4) : piF (truN a x r d) = truM a x r d := by unfold piF truN truM; rw [if_neg (by omega), if_neg (by omega)]; omega
def trR (q : gRs) : gRs := (q.1, if q.1 = 1 ∨ q.1 = 7 then q.2.1 else nI (piF q.2.1.toNatClampNeg), if q.1 = 1 then q.2.2 else nI (piF q.2.2.toNatClampNeg))
theorem trR_2 {u : Int32} {x z : Nat} (hx : x < 756) (hz : z < 756) (h1 : ¬ u = 1) (h7 : ¬ u = 7) : trR (u, nI x, nI z) = (u, nI (piF x), nI (piF z)) := by
  show (u, _, _) = _
  rw [if_neg (fun q => q.elim h1 h7), if_neg h1]
  show (u, nI (piF (nI x).toNatClampNeg), nI (piF (nI z).toNatClampNeg)) = _
  rw [nI_clamp (by omega), nI_clamp (by omega)]
theorem trR_7 {n : Int32} {z : Nat} (hz : z < 756) : trR (7, n, nI z) = (7, n, nI (piF z)) := by
  show (7, _, _) = _
  rw [if_pos (Or.inr rfl), if_neg (show ¬ (7 : Int32) = 1 by decide)]
  show ((7 : Int32), n, nI (piF (nI z).toNatClampNeg)) = _
  rw [nI_clamp (by omega)]
theorem fstO_sk {f : Nat → Option gRs} : ∀ (s d k : Nat), s ≤ d → (∀ i, k ≤ i → i < k + s → f i = none) → fstO f d k = fstO f (d - s) (k + s)
  | 0, _, _, _, _ => rfl
  | s + 1, 0, _, h, _ => by omega
  | s + 1, d + 1, k, h, hn => by
    rw [fstO_s, hn k (by omega) (by omega), orE_z, fstO_sk s d (k + 1) (by omega) (fun i a b => hn i (by omega) (by omega)), show d + 1 - (s + 1) = d - s by omega, show k + 1 + s = k + (s + 1) by omega]
theorem mp_if {P : Prop} [Decidable P] {q : gRs} (t : gRs → gRs) : (if P then some q else none).map t = if P then some (t q) else none := by
  by_cases h : P
  · rw [if_pos h, if_pos h]; rfl
  · rw [if_neg h, if_neg h]; rfl
/-- the same facts are known, the same credentials valid -/
def gKe (M N : gMe) (c : Nat) : Prop := (∀ j, j < 756 → (pKn M j ↔ pHad N (piF j))) ∧ ∀ n, 1 ≤ n → n ≤ c → (pVal M (cP n) (M 4 1) ↔ pHo N n)
section gTeq
variable {M N : gMe} {K : Nat → Nat → Nat} {c : Nat}
theorem gKe.m (h : gKe M N c) {a x r : Nat} (h1 : a < 6) (h2 : x < 6) (h3 : r < 4) : pKn M (mayN a x r) ↔ pHad N (mayM a x r) := by have := h.1 _ (mayN_lt h1 h2 h3); rwa [piF_m h1 h2 h3] at this
theorem gKe.s (h : gKe M N c) {a x : Nat} (h1 : a < 6) (h2 : x < 6) : pKn M (spkN a x) ↔ pHad N (spkM a x) := by have := h.1 _ (spkN_lt h1 h2); rwa [piF_s h1 h2] at this
theorem gKe.t (h : gKe M N c) {a x r d : Nat} (h1 : a < 6) (h2 : x < 6) (h3 : r < 4) (h4 : d < 4) : pKn M (truN a x r d) ↔ pHad N (truM a x r d) := by have := h.1 _ (truN_lt h1 h2 h3 h4); rwa [piF_t h1 h2 h3 h4] at this
theorem teq_m (h : gKe M N c) (hK : ∀ n, 1 ≤ n → n ≤ c → kOK (K n)) {a x r : Nat} (h1 : a < 6) (h2 : x < 6) (h3 : r < 4) : nmR N K c a x r = (tRnd M K c (mayN a x r)).map trR := by
  have hj : 36 ≤ mayN a x r ∧ mayN a x r < 180 := by unfold mayN; omega
  unfold tRnd
  rw [tFtt_o hj.2, tFtv_o hj.2, tFvv_o hj.1, orE_n, orE_n, orE_n, orE_a, orE_map, orE_map, tFmv_m h1 h2 h3, tFmt_m h1 h2 h3, tFim_m hK h1 h2 h3, fstO_map, fstO_map, fstO_map]
  unfold nmR
  congr 1
  · refine fstO_cg 6 0 (fun b _ hb => ?_)
    rw [mp_if, trR_2 (spkN_lt (by omega) h1) (mayN_lt (by omega) h2 h3) (by decide) (by decide), piF_s (by omega) h1, piF_m (by omega) h2 h3]
    exact if_cgr (and_congr (h.s (by omega) h1).symm (h.m (by omega) h2 h3).symm) rfl rfl
  · congr 1
    · refine fstO_cg 6 0 (fun b _ hb => ?_)
      rw [fstO_map]
      unfold nm2
      by_cases e : pHad N (mayM b x r)
      · rw [if_pos e]
        refine fstO_cg 4 0 (fun d _ hd => ?_)
        rw [mp_if, trR_2 (truN_lt h1 (by omega) h3 (by omega)) (mayN_lt (by omega) h2 h3) (by decide) (by decide), piF_t h1 (by omega) h3 (by omega), piF_m (by omega) h2 h3]
        exact if_cgr ⟨fun q => ⟨(h.t h1 (by omega) h3 (by omega)).mpr q, (h.m (by omega) h2 h3).mpr e⟩, fun q => (h.t h1 (by omega) h3 (by omega)).mp q.1⟩ rfl rfl
      · rw [if_neg e]
        exact (fstO_no 4 0 (fun d _ hd => by rw [if_neg (fun q => e ((h.m (by omega) h2 h3).mp q.2))]; rfl)).symm
    · refine fstO_cg c 1 (fun n hn1 hn2 => ?_)
      have hk := hK n hn1 (by omega)
      unfold nm3
      by_cases e3 : K n 1 = 3
      · have hk2 := (hk.2.2.2.2.2 e3).1
        rw [mp_if, trR_7 (mayN_lt h1 h2 hk2), piF_m h1 h2 hk2]
        exact if_cgr (and_congr (h.2 n hn1 (by omega)).symm (and_congr Iff.rfl (and_congr Iff.rfl (and_congr Iff.rfl (h.m h1 h2 hk2).symm)))) rfl rfl
      · rw [if_neg (fun q => e3 q.2.1), if_neg (fun q => e3 q.2.1)]; rfl
theorem teq_s (h : gKe M N c) (hK : ∀ n, 1 ≤ n → n ≤ c → kOK (K n)) {a x : Nat} (h1 : a < 6) (h2 : x < 6) : nvR N a x = (tRnd M K c (spkN a x)).map trR := by
  have hj : spkN a x < 36 := by unfold spkN; omega
  unfold tRnd
  rw [tFmv_o (Or.inl hj), tFmt_o (Or.inl hj), tFtt_o (by omega), tFtv_o (by omega), tFim_o hK (Or.inl hj), orE_n, orE_n, orE_n, orE_n, orE_z, tFvv_s h1 h2, fstO_map]
  unfold nvR
  refine fstO_cg 6 0 (fun b _ hb => ?_)
  rw [mp_if, trR_2 (spkN_lt h1 (by omega)) (spkN_lt (by omega) h2) (by decide) (by decide), piF_s h1 (by omega), piF_s (by omega) h2]
  exact if_cgr (and_congr (h.s h1 (by omega)).symm (h.s (by omega) h2).symm) rfl rfl
theorem teq_t (h : gKe M N c) (hK : ∀ n, 1 ≤ n → n ≤ c → kOK (K n)) {a x r m : Nat} (h1 : a < 6) (h2 : x < 6) (h3 : r < 4) (h4 : m < 4) : ntR N a x r m = (tRnd M K c (truN a x r m)).map trR := by
  have hj : 180 ≤ truN a x r m := by unfold truN; omega
  unfold tRnd
  rw [tFmv_o (Or.inr hj), tFmt_o (Or.inr hj), tFvv_o (by omega), tFim_o hK (Or.inr hj), orE_n, orE_n, orE_z, orE_z, orE_map, tFtt_t h1 h2 h3 h4, tFtv_t h1 h2 h3 h4, fstO_map, fstO_map]
  unfold ntR
  congr 1
  · refine fstO_cg 6 0 (fun b _ hb => ?_)
    rw [fstO_map]
    unfold nt1
    rw [fstO_sk m 3 1 (by omega) (fun d hd1 hd2 => by
      rw [fstO_no 4 0 (fun e _ _ => if_neg (by omega))]; simp), show 1 + m = m + 1 by omega]
    refine fstO_cg _ _ (fun d hd1 hd2 => ?_)
    unfold nt1D
    by_cases e1 : pHad N (truM a b r d)
    · rw [if_pos e1, if_pos ((h.t h1 (by omega) h3 (by omega)).mpr e1), fstO_map, fstO_sk m 4 0 (by omega) (fun e _ he => by rw [if_neg (by omega)]; rfl), Nat.zero_add]
      refine fstO_cg _ _ (fun e he1 he2 => ?_)
      unfold nt1E
      by_cases e2 : min (d - 1) e = m
      · rw [if_pos e2, mp_if, trR_2 (truN_lt h1 (by omega) h3 (by omega)) (truN_lt (by omega) h2 h3 (by omega)) (by decide) (by decide), piF_t h1 (by omega) h3 (by omega), piF_t (by omega) h2 h3 (by omega)]
        exact if_cgr ⟨fun q => (h.t (by omega) h2 h3 (by omega)).mpr q.2, fun q => ⟨by omega, (h.t (by omega) h2 h3 (by omega)).mp q⟩⟩ rfl rfl
      · rw [if_neg e2, if_neg (fun q => e2 (by omega))]; rfl
    · rw [if_neg e1, if_neg (fun q => e1 ((h.t h1 (by omega) h3 (by omega)).mp q))]; rfl
  · refine fstO_cg 6 0 (fun b _ hb => ?_)
    rw [mp_if, trR_2 (spkN_lt (by omega) h1) (truN_lt (by omega) h2 h3 h4) (by decide) (by decide), piF_s (by omega) h1, piF_t (by omega) h2 h3 h4]
    exact if_cgr (and_congr (h.s (by omega) h1).symm (h.t (by omega) h2 h3 h4).symm) rfl rfl
theorem fct_cases {j : Nat} (h : j < 756) : (∃ a x, a < 6 ∧ x < 6 ∧ j = spkN a x) ∨ (∃ a x r, a < 6 ∧ x < 6 ∧ r < 4 ∧ j = mayN a x r) ∨ ∃ a x r d, a < 6 ∧ x < 6 ∧ r < 4 ∧ d < 4 ∧ j = truN a x r d := by
  by_cases h1 : j < 36
  · exact Or.inl ⟨j / 6, j % 6, by omega, by omega, by unfold spkN; omega⟩
  · by_cases h2 : j < 180
    · exact Or.inr (Or.inl ⟨(j - 36) / 24, (j - 36) / 4 % 6, (j - 36) % 4, by omega, by omega, by omega, by unfold mayN; omega⟩)
    · exact Or.inr (Or.inr ⟨(j - 180) / 96, (j - 180) / 16 % 6, (j - 180) / 4 % 4, (j - 180) % 4, by omega, by omega, by omega, by omega, by unfold truN; omega⟩)
theorem teq (h : gKe M N c) (hK : ∀ n, 1 ≤ n → n ≤ c → kOK (K n)) {j : Nat} (hj : j < 756) : rGo N K c (piF j) = (tRnd M K c j).map trR := by
  rcases fct_cases hj with ⟨a, x, h1, h2, rfl⟩ | ⟨a, x, r, h1, h2, h3, rfl⟩ | ⟨a, x, r, d, h1, h2, h3, h4, rfl⟩
  · rw [piF_s h1 h2, rGo_s h1 h2, teq_s h hK h1 h2]
  · rw [piF_m h1 h2 h3, rGo_m h1 h2 h3, teq_m h hK h1 h2 h3]
  · rw [piF_t h1 h2 h3 h4, rGo_t h1 h2 h3 h4, teq_t h hK h1 h2 h3 h4]
end gTeq

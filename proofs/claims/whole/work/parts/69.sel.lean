/-! the first reason that the class tries for a fact -/
theorem tR_n {t : Nat} {q : gRs} {j : Nat} (h : j ≠ t) : tR t q j = none := if_neg h
theorem tL_n {M0 : gMe} {x t : Nat} {q : gRs} {j : Nat} (h : j ≠ t) : tL M0 x t q j = none := by
  unfold tL
  rw [tR_n h]
  simp
theorem tL_s {M0 : gMe} {x t : Nat} {q : gRs} : tL M0 x t q t = if pKn M0 x then some q else none := by
  unfold tL tR
  rw [if_pos rfl]
theorem if_no {P : Prop} [Decidable P] {x : Option gRs} (h : x = none) : (if P then x else none) = none := by
  subst h; simp
section gSel
variable {M0 : gMe}
theorem tHom_m {u k : Int32} {a b r a0 x0 r0 : Nat} (ha : a < 6) (hr : r < 4) (h1 : a0 < 6) (h2 : x0 < 6) (h3 : r0 < 4) : tHom M0 u k a b r (mayN a0 x0 r0) = if a = a0 ∧ r = r0 then (if pKn M0 (mayN b x0 r) then some (u, k, nI (mayN b x0 r)) else none) else none := by
  unfold tHom
  by_cases h : a = a0 ∧ r = r0
  · obtain ⟨rfl, rfl⟩ := h
    rw [if_pos ⟨rfl, rfl⟩, fstO_one (i0 := x0) 6 0 (by omega) (by omega) (fun i _ hi hne => tL_n (by unfold mayN; omega)), tL_s]
  · rw [if_neg h]
    exact fstO_no 6 0 (fun i _ hi => tL_n (by unfold mayN; omega))
theorem tHom_o {u k : Int32} {a b r j : Nat} (ha : a < 6) (hr : r < 4) (hj : j < 36 ∨ 180 ≤ j) : tHom M0 u k a b r j = none := fstO_no 6 0 (fun i _ hi => tL_n (by unfold mayN; omega))
theorem tImp_m {n : Int32} {a r s a0 x0 r0 : Nat} (ha : a < 6) (hs : s < 4) (h1 : a0 < 6) (h2 : x0 < 6) (h3 : r0 < 4) : tImp M0 n a r s (mayN a0 x0 r0) = if a = a0 ∧ s = r0 then (if pKn M0 (mayN a x0 r) then some (7, n, nI (mayN a x0 r)) else none) else none := by
  unfold tImp
  by_cases h : a = a0 ∧ s = r0
  · obtain ⟨rfl, rfl⟩ := h
    rw [if_pos ⟨rfl, rfl⟩, fstO_one (i0 := x0) 6 0 (by omega) (by omega) (fun i _ hi hne => tL_n (by unfold mayN; omega)), tL_s]
  · rw [if_neg h]
    exact fstO_no 6 0 (fun i _ hi => tL_n (by unfold mayN; omega))
theorem tImp_o {n : Int32} {a r s j : Nat} (ha : a < 6) (hs : s < 4) (hj : j < 36 ∨ 180 ≤ j) : tImp M0 n a r s j = none := fstO_no 6 0 (fun i _ hi => tL_n (by unfold mayN; omega))
theorem tHov_s {c b c0 a0 : Nat} (hc : c < 6) (h1 : c0 < 6) (h2 : a0 < 6) : tHov M0 c b (spkN c0 a0) = if c = c0 then (if pKn M0 (spkN b a0) then some (6, nI (spkN c b), nI (spkN b a0)) else none) else none := by
  unfold tHov
  by_cases h : c = c0
  · subst h
    rw [if_pos rfl, fstO_one (i0 := a0) 6 0 (by omega) (by omega) (fun i _ hi hne => tL_n (by unfold spkN; omega)), tL_s]
  · rw [if_neg h]
    exact fstO_no 6 0 (fun i _ hi => tL_n (by unfold spkN; omega))
theorem tHov_o {c b j : Nat} (hc : c < 6) (hj : 36 ≤ j) : tHov M0 c b j = none := fstO_no 6 0 (fun i _ hi => tL_n (by unfold spkN; omega))
theorem tHot_t {u k : Int32} {a b r m a0 c0 r0 m0 : Nat} (ha : a < 6) (hr : r < 4) (hm : m < 4) (h1 : a0 < 6) (h2 : c0 < 6) (h3 : r0 < 4) (h4 : m0 < 4) : tHot M0 u k a b r m (truN a0 c0 r0 m0) = if a = a0 ∧ r = r0 then fstO (fun e => if min m e = m0 then (if pKn M0 (truN b c0 r e) then some (u, k, nI (truN b c0 r e)) else none) else none) 4 0 else none := by
  unfold tHot
  by_cases h : a = a0 ∧ r = r0
  · obtain ⟨rfl, rfl⟩ := h
    rw [if_pos ⟨rfl, rfl⟩, fstO_one (i0 := c0) 6 0 (by omega) (by omega) (fun i _ hi hne => fstO_no 4 0 (fun e _ he => tL_n (by unfold truN; omega)))]
    refine fstO_cg 4 0 (fun e _ he => ?_)
    by_cases h9 : min m e = m0
    · rw [if_pos h9, h9, tL_s]
    · rw [if_neg h9]
      exact tL_n (by unfold truN; omega)
  · rw [if_neg h]
    exact fstO_no 6 0 (fun i _ hi => fstO_no 4 0 (fun e _ he => tL_n (by unfold truN; omega)))
theorem tHot_o {u k : Int32} {a b r m j : Nat} (ha : a < 6) (hr : r < 4) (hm : m < 4) (hj : j < 180) : tHot M0 u k a b r m j = none := fstO_no 6 0 (fun i _ hi => fstO_no 4 0 (fun e _ he => tL_n (by unfold truN; omega)))
/-! by rule -/
theorem tFmv_m {a x r : Nat} (h1 : a < 6) (h2 : x < 6) (h3 : r < 4) : tFmv M0 (mayN a x r) = fstO (fun b => if pKn M0 (spkN b a) ∧ pKn M0 (mayN b x r) then some (2, nI (spkN b a), nI (mayN b x r)) else none) 6 0 := by
  unfold tFmv
  refine fstO_cg 6 0 (fun b _ hb => ?_)
  rw [fstO_one (i0 := a) 6 0 (by omega) (by omega) (fun i _ hi hne => if_no (fstO_no 4 0 (fun r9 _ hr9 => by rw [tHom_m (by omega) (by omega) h1 h2 h3, if_neg (fun q => hne q.1)])))]
  rw [fstO_one (i0 := r) 4 0 (by omega) (by omega) (fun i _ hi hne => by rw [tHom_m h1 (by omega) h1 h2 h3, if_neg (fun q => hne q.2)]), tHom_m h1 h3 h1 h2 h3, if_pos (show a = a ∧ r = r from ⟨rfl, rfl⟩)]
  by_cases e1 : pKn M0 (spkN b a)
  · rw [if_pos e1]
    by_cases e2 : pKn M0 (mayN b x r)
    · rw [if_pos e2, if_pos ⟨e1, e2⟩]
    · rw [if_neg e2, if_neg (fun q => e2 q.2)]
  · rw [if_neg e1, if_neg (fun q => e1 q.1)]
theorem tFmv_o {j : Nat} (hj : j < 36 ∨ 180 ≤ j) : tFmv M0 j = none := fstO_no 6 0 (fun b _ hb => fstO_no 6 0 (fun a _ ha => if_no (fstO_no 4 0 (fun r _ hr => tHom_o (by omega) (by omega) hj))))
theorem tFmt_m {a x r : Nat} (h1 : a < 6) (h2 : x < 6) (h3 : r < 4) : tFmt M0 (mayN a x r) = fstO (fun b => fstO (fun d => if pKn M0 (truN a b r d) ∧ pKn M0 (mayN b x r) then some (3, nI (truN a b r d), nI (mayN b x r)) else none) 4 0) 6 0 := by
  unfold tFmt
  refine fstO_cg 6 0 (fun b _ hb => ?_)
  have hd : ∀ a9 r9 d9, a9 < 6 → r9 < 4 → ¬ (a9 = a ∧ r9 = r) → tFmtD M0 b a9 r9 d9 (mayN a x r) = none := fun a9 r9 d9 g1 g2 g3 => by
    unfold tFmtD
    exact if_no (by rw [tHom_m g1 g2 h1 h2 h3, if_neg g3])
  unfold tFmtB tFmtA tFmtR
  rw [fstO_one (i0 := a) 6 0 (by omega) (by omega) (fun i _ hi hne => fstO_no 4 0 (fun r9 _ hr9 => fstO_no 4 0 (fun d _ _ => hd i r9 d (by omega) (by omega) (fun q => hne q.1))))]
  rw [fstO_one (i0 := r) 4 0 (by omega) (by omega) (fun i _ hi hne => fstO_no 4 0 (fun d _ _ => hd a i d h1 (by omega) (fun q => hne q.2)))]
  refine fstO_cg 4 0 (fun d _ _ => ?_)
  unfold tFmtD
  rw [tHom_m h1 h3 h1 h2 h3, if_pos (show a = a ∧ r = r from ⟨rfl, rfl⟩)]
  by_cases e1 : pKn M0 (truN a b r d)
  · rw [if_pos e1]
    by_cases e2 : pKn M0 (mayN b x r)
    · rw [if_pos e2, if_pos ⟨e1, e2⟩]
    · rw [if_neg e2, if_neg (fun q => e2 q.2)]
  · rw [if_neg e1, if_neg (fun q => e1 q.1)]
theorem tFmt_o {j : Nat} (hj : j < 36 ∨ 180 ≤ j) : tFmt M0 j = none := fstO_no 6 0 (fun b _ hb => fstO_no 6 0 (fun a _ ha => fstO_no 4 0 (fun r _ hr => fstO_no 4 0 (fun d _ _ => if_no (tHom_o (by omega) (by omega) hj)))))
theorem tFtt_t {a c r m : Nat} (h1 : a < 6) (h2 : c < 6) (h3 : r < 4) (h4 : m < 4) : tFtt M0 (truN a c r m) = fstO (fun b => fstO (fun d => if pKn M0 (truN a b r d) then fstO (fun e => if min (d - 1) e = m then (if pKn M0 (truN b c r e) then some (4, nI (truN a b r d), nI (truN b c r e)) else none) else none) 4 0 else none) 3 1) 6 0 := by
  unfold tFtt
  refine fstO_cg 6 0 (fun b _ hb => ?_)
  have hd : ∀ a9 r9 d9, a9 < 6 → r9 < 4 → d9 < 4 → ¬ (a9 = a ∧ r9 = r) → tFttD M0 b a9 r9 d9 (truN a c r m) = none := fun a9 r9 d9 g1 g2 g4 g3 => by
    unfold tFttD
    exact if_no (by rw [tHot_t g1 g2 (by omega) h1 h2 h3 h4, if_neg g3])
  unfold tFttB tFttA tFttR
  rw [fstO_one (i0 := a) 6 0 (by omega) (by omega) (fun i _ hi hne => fstO_no 4 0 (fun r9 _ hr9 => fstO_no 3 1 (fun d _ _ => hd i r9 d (by omega) (by omega) (by omega) (fun q => hne q.1))))]
  rw [fstO_one (i0 := r) 4 0 (by omega) (by omega) (fun i _ hi hne => fstO_no 3 1 (fun d _ _ => hd a i d h1 (by omega) (by omega) (fun q => hne q.2)))]
  refine fstO_cg 3 1 (fun d _ _ => ?_)
  unfold tFttD
  rw [tHot_t h1 h3 (by omega) h1 h2 h3 h4, if_pos (show a = a ∧ r = r from ⟨rfl, rfl⟩)]
theorem tFtt_o {j : Nat} (hj : j < 180) : tFtt M0 j = none := fstO_no 6 0 (fun b _ hb => fstO_no 6 0 (fun a _ ha => fstO_no 4 0 (fun r _ hr => fstO_no 3 1 (fun d _ _ => if_no (tHot_o (by omega) (by omega) (by omega) hj)))))
theorem tFtv_t {a c r m : Nat} (h1 : a < 6) (h2 : c < 6) (h3 : r < 4) (h4 : m < 4) : tFtv M0 (truN a c r m) = fstO (fun b => if pKn M0 (spkN b a) ∧ pKn M0 (truN b c r m) then some (5, nI (spkN b a), nI (truN b c r m)) else none) 6 0 := by
  unfold tFtv
  refine fstO_cg 6 0 (fun b _ hb => ?_)
  rw [fstO_one (i0 := a) 6 0 (by omega) (by omega) (fun i _ hi hne => if_no (fstO_no 4 0 (fun r9 _ hr9 => by rw [tHot_t (by omega) (by omega) (by omega) h1 h2 h3 h4, if_neg (fun q => hne q.1)])))]
  rw [fstO_one (i0 := r) 4 0 (by omega) (by omega) (fun i _ hi hne => by rw [tHot_t h1 (by omega) (by omega) h1 h2 h3 h4, if_neg (fun q => hne q.2)]), tHot_t h1 h3 (by omega) h1 h2 h3 h4, if_pos (show a = a ∧ r = r from ⟨rfl, rfl⟩)]
  rw [fstO_one (i0 := m) 4 0 (by omega) (by omega) (fun i _ hi hne => if_neg (by omega)), if_pos (show min 3 m = m by omega)]
  by_cases e1 : pKn M0 (spkN b a)
  · rw [if_pos e1]
    by_cases e2 : pKn M0 (truN b c r m)
    · rw [if_pos e2, if_pos ⟨e1, e2⟩]
    · rw [if_neg e2, if_neg (fun q => e2 q.2)]
  · rw [if_neg e1, if_neg (fun q => e1 q.1)]
theorem tFtv_o {j : Nat} (hj : j < 180) : tFtv M0 j = none := fstO_no 6 0 (fun b _ hb => fstO_no 6 0 (fun a _ ha => if_no (fstO_no 4 0 (fun r _ hr => tHot_o (by omega) (by omega) (by omega) hj))))
theorem tFvv_s {c a : Nat} (h1 : c < 6) (h2 : a < 6) : tFvv M0 (spkN c a) = fstO (fun b => if pKn M0 (spkN c b) ∧ pKn M0 (spkN b a) then some (6, nI (spkN c b), nI (spkN b a)) else none) 6 0 := by
  unfold tFvv
  refine fstO_cg 6 0 (fun b _ hb => ?_)
  rw [fstO_one (i0 := c) 6 0 (by omega) (by omega) (fun i _ hi hne => if_no (by rw [tHov_s (by omega) h1 h2, if_neg hne])), tHov_s h1 h1 h2, if_pos rfl]
  by_cases e1 : pKn M0 (spkN c b)
  · rw [if_pos e1]
    by_cases e2 : pKn M0 (spkN b a)
    · rw [if_pos e2, if_pos ⟨e1, e2⟩]
    · rw [if_neg e2, if_neg (fun q => e2 q.2)]
  · rw [if_neg e1, if_neg (fun q => e1 q.1)]
theorem tFvv_o {j : Nat} (hj : 36 ≤ j) : tFvv M0 j = none := fstO_no 6 0 (fun b _ hb => fstO_no 6 0 (fun c _ hc => if_no (tHov_o (by omega) hj)))
theorem tFim_m {K : Nat → Nat → Nat} {c a x r : Nat} (hK : ∀ n, 1 ≤ n → n ≤ c → kOK (K n)) (h1 : a < 6) (h2 : x < 6) (h3 : r < 4) : tFim M0 K c (mayN a x r) = fstO (fun n => if pVal M0 (cP n) (M0 4 1) ∧ K n 1 = 3 ∧ K n 0 = a ∧ K n 3 = r ∧ pKn M0 (mayN a x (K n 2)) then some (7, nI n, nI (mayN a x (K n 2))) else none) c 1 := by
  unfold tFim
  refine fstO_cg c 1 (fun n hn1 hn2 => ?_)
  by_cases e1 : pVal M0 (cP n) (M0 4 1) ∧ K n 1 = 3
  · have hk := hK n hn1 (by omega)
    rw [if_pos e1, tImp_m hk.1 (hk.2.2.2.2.2 e1.2).2 h1 h2 h3]
    by_cases e2 : K n 0 = a ∧ K n 3 = r
    · rw [if_pos e2, e2.1]
      by_cases e3 : pKn M0 (mayN a x (K n 2))
      · rw [if_pos e3, if_pos ⟨e1.1, e1.2, rfl, e2.2, e3⟩]
      · rw [if_neg e3, if_neg (fun q => e3 q.2.2.2.2)]
    · rw [if_neg e2, if_neg (fun q => e2 ⟨q.2.2.1, q.2.2.2.1⟩)]
  · rw [if_neg e1, if_neg (fun q => e1 ⟨q.1, q.2.1⟩)]
theorem tFim_o {K : Nat → Nat → Nat} {c j : Nat} (hK : ∀ n, 1 ≤ n → n ≤ c → kOK (K n)) (hj : j < 36 ∨ 180 ≤ j) : tFim M0 K c j = none := by
  refine fstO_no c 1 (fun n hn1 hn2 => ?_)
  have hk := hK n hn1 (by omega)
  by_cases e1 : pVal M0 (cP n) (M0 4 1) ∧ K n 1 = 3
  · rw [if_pos e1]
    exact tImp_o hk.1 (hk.2.2.2.2.2 e1.2).2 hj
  · rw [if_neg e1]
end gSel

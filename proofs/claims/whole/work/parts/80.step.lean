/-! a step that is said, one that is implied; every step -/
theorem k7 : (7 : Int32) = nI 7 := rfl
/-- what is known of the credentials on both sides -/
def gCk (M N : gMe) (c : Nat) (K : Nat → Nat → Nat) : Prop := gCW M c K ∧ gMW N c K ∧ (∀ n, 1 ≤ n → n ≤ c → kNm (K n)) ∧ (∀ n, 1 ≤ n → n ≤ c → (pVal M (cP n) (M 4 1) ↔ pHo N n)) ∧ c < 25
theorem said_FR {M N : gMe} {c : Nat} {K : Nat → Nat → Nat} (H : gCk M N c K) {n k : Nat} (h1 : 1 ≤ n) (h2 : n ≤ c) (hk : k < 40) (h3 : ¬ K n 1 = 3) : FR (faS M (100 + k) (cP n) (cP n + 1)) (100 + k) (spI N n) (fun i => if i = 0 then K n 1 else if i = 1 then K n 0 else K n i) := by
  obtain ⟨hC, hM, hnm, -, -⟩ := H
  obtain ⟨ok, c0, c1, cn⟩ := hC n h1 h2
  obtain ⟨-, m0, m1, m2, m3, m4, m5⟩ := hM n h1 h2
  obtain ⟨n1, n2⟩ := hnm n h1 h2
  obtain ⟨o0, o1, o2, o3, o4, -⟩ := ok
  have hcw : cP n ≠ 100 + k ∧ cP n + 1 ≠ 100 + k := by unfold cP; omega
  refine ⟨?_, fun i hi => ?_, ?_⟩
  · rcases (show K n 1 = 0 ∨ K n 1 = 1 ∨ K n 1 = 2 by omega) with e | e | e
    · have := o2 e; have := n1 e
      refine ⟨?_, ?_, ?_, ?_, ?_, ?_, ?_, ?_⟩ <;> simp <;> omega
    · have := o3 e; have := n2 e
      refine ⟨?_, ?_, ?_, ?_, ?_, ?_, ?_, ?_⟩ <;> simp <;> omega
    · have := o4 e
      refine ⟨?_, ?_, ?_, ?_, ?_, ?_, ?_, ?_⟩ <;> simp <;> omega
  · rw [faS_at hcw.1 hcw.2 hi]
    by_cases e0 : i = 0
    · simp only [if_pos e0]; exact c1
    · simp only [if_neg e0]
      by_cases e1 : i = 1
      · simp only [if_pos e1]; exact c0
      · simp only [if_neg e1]
        have h9 := cn (i - 2) (by omega)
        rw [show 2 + (i - 2) = i by omega] at h9
        exact h9
  · unfold spI
    rw [m0, m1, m2]
    rcases (show K n 1 = 0 ∨ K n 1 = 1 ∨ K n 1 = 2 by omega) with e | e | e
    · rw [m3 (by omega), m4 (Or.inl e), if_pos (by rw [e]; rfl), k1, k0, fc_n]
      unfold pkF
      simp [e, n1 e]
    · rw [if_neg (by rw [e]; decide), if_pos (by rw [e]; rfl), k2, k0, fc_n]
      unfold pkF
      simp [e]
    · rw [m3 (by omega), m4 (Or.inr e), m5 e, if_neg (by rw [e]; decide), if_neg (by rw [e]; decide), if_pos (by rw [e]; rfl), k3, fc_n]
      unfold pkF
      simp [e]
theorem im_sim {M N : gMe} {c : Nat} {K : Nat → Nat → Nat} (H : gCk M N c K) {n k j : Nat} (h1 : 1 ≤ n) (h2 : n ≤ c) (hj : j < k) (hk : k < 40) (hv : pVal M (cP n) (M 4 1)) {q : Int32} {fz : Nat → Nat} (hZ : FR M (100 + j) q fz) : ckS (bi (pIm M (cP n) (cP n + 1) (100 + j)), imM M (cP n) (cP n + 1) (100 + j) (100 + k)) (pv7 N c (nI n) q) (100 + k) := by
  obtain ⟨hC, hM, hnm, hvv, hc⟩ := H
  obtain ⟨ok, c0, c1, cn⟩ := hC n h1 h2
  obtain ⟨-, m0, m1, m2, m3, m4, m5⟩ := hM n h1 h2
  obtain ⟨o0, o1, o2, o3, o4, o5⟩ := ok
  obtain ⟨oz, vz, rfl⟩ := hZ
  have bz := oz
  obtain ⟨y0, y1, y2, y3, y4, y5, y6, y7⟩ := bz
  have hcn : (nI n).toNatClampNeg = n := nI_clamp (by omega)
  have cn0 : M (cP n + 1) 0 = nI (K n 2) := cn 0 (by decide)
  have cn1 : M (cP n + 1) 1 = nI (K n 3) := cn 1 (by decide)
  have hz9 : pHz N c (nI n) := ⟨⟨nI_nlt (b := 1) h1 (by omega), nI_nlt h2 (by omega)⟩, by rw [hcn]; exact (hvv n h1 h2).mp hv⟩
  by_cases e3 : K n 1 = 3
  · obtain ⟨r1, r2⟩ := o5 e3
    have hP : pIm M (cP n) (cP n + 1) (100 + j) ↔ fz 0 = 0 ∧ fz 1 = K n 0 ∧ fz 3 = K n 2 := by
      unfold pIm
      rw [c1, c0, cn0, vz 0 (by decide), vz 1 (by decide), vz 3 (by decide), show nI (fz 0) = 0 ↔ fz 0 = 0 from c3 (b := 0) y0 (by decide), ff (show fz 1 < 8 by omega) (show K n 0 < 8 by omega), ff (show fz 3 < 8 by omega) (show K n 2 < 8 by omega)]
      exact ⟨fun g => g.2, fun g => ⟨by rw [e3]; rfl, g⟩⟩
    by_cases h : fz 0 = 0 ∧ fz 1 = K n 0 ∧ fz 3 = K n 2
    · rw [bi_t (hP.mpr h)]
      refine Or.inl ⟨rfl, fun i => if i = 3 then K n 3 else fz i, ?_, fun i hi => ?_, ?_⟩
      · obtain ⟨g0, g1, g2⟩ := h
        refine ⟨?_, ?_, ?_, ?_, ?_, ?_, ?_, ?_⟩ <;> simp <;> omega
      · show imM M (cP n) (cP n + 1) (100 + j) (100 + k) (100 + k) i = _
        rw [imM_at (by unfold cP; omega) (by omega) (hP.mpr h) hi]
        by_cases e : i = 3
        · simp only [if_pos e]; exact cn1
        · simp only [if_neg e]; exact vz i hi
      · unfold pv7
        rw [if_pos ⟨hz9, by rw [hcn, m1, e3]; rfl, by rw [dg0 oz]; exact (s3 (b := 1) y0 (by decide)).mpr (by omega), by rw [hcn, m0, dg1 oz, if_neg (by omega), h.2.1], by rw [hcn, m2, dg3 oz, h.2.2]⟩]
        rw [hcn, m3 (by omega), dg1 oz, dg2 oz, dg4 oz, if_neg (show ¬ fz 0 = 1 by omega), if_neg (show ¬ fz 0 = 1 by omega), k1, k0, fc_n]
        unfold pkF
        simp [h.1, y6 h.1]
    · rw [bi_f (fun g => h (hP.mp g))]
      refine Or.inr ⟨rfl, ?_⟩
      unfold pv7
      refine if_neg (fun g => h ?_)
      obtain ⟨-, -, g1, g2, g3⟩ := g
      rw [dg0 oz] at g1
      have g1 := (s3 (b := 1) y0 (by decide)).mp g1
      rw [hcn, m0, dg1 oz, if_neg (by omega)] at g2
      rw [hcn, m2, dg3 oz] at g3
      exact ⟨by omega, (ff (by omega) (by omega)).mp g2, (ff (by omega) (by omega)).mp g3⟩
  · have hne : ¬ nI (K n 1) = 3 := fun g => e3 ((nI_eqI (b := 3) (by omega) (by decide)).mp g)
    rw [bi_f (fun g => hne (by rw [← c1]; exact g.1))]
    refine Or.inr ⟨rfl, ?_⟩
    unfold pv7
    exact if_neg (fun g => hne (by have g2 := g.2.1; rwa [hcn, m1] at g2))
theorem sf_in {N : gMe} {k j : Nat} (hj : j < k) (hk : k < 100) : sfI N k (nI j) = N 417 j := by
  unfold sfI
  rw [if_pos ⟨nI_pos (by omega), by rw [nI_dm (by omega)]; exact nI_nlt (by omega) (by omega)⟩, nI_clamp (by omega)]
theorem sf_out {N : gMe} {k : Nat} {x : Int32} (hk : k < 100) (h : ¬ ∃ j, j < k ∧ x = nI j) : sfI N k x = 0 := by
  unfold sfI
  exact if_neg (fun g => h (sf_rng hk g))
theorem pvO_q0 {N : gMe} {c : Nat} {u x p : Int32} (h1 : ¬ u = 1) : pvO N c u x p 0 = 0 := by
  unfold pvO
  rw [if_neg h1]
  have z0 : ∀ v : Int32, ¬ v = 0 → ¬ itI 0 0 = v := fun v hv g => hv (by rw [← g]; exact dg_0)
  repeat' split
  · unfold pv7; exact if_neg (fun g => z0 1 (by decide) g.2.2.1)
  · rfl
  · unfold pv2; exact if_neg (fun g => z0 1 (by decide) g.2)
  · unfold pv3; exact if_neg (fun g => z0 1 (by decide) g.2)
  · unfold pv5; exact if_neg (fun g => z0 3 (by decide) g.2)
  · unfold pv6; exact if_neg (fun g => z0 2 (by decide) g.2.1)
  · unfold pv4; exact if_neg (fun g => z0 3 (by decide) g.2.1)
theorem pvO_p0 {N : gMe} {c : Nat} {u x q : Int32} (h1 : ¬ u = 1) (h7 : ¬ u = 7) : pvO N c u x 0 q = 0 := by
  unfold pvO
  rw [if_neg h1, if_neg h7]
  have z0 : ∀ v : Int32, ¬ v = 0 → ¬ itI 0 0 = v := fun v hv g => hv (by rw [← g]; exact dg_0)
  repeat' split
  · rfl
  · unfold pv2; exact if_neg (fun g => z0 2 (by decide) g.1.1)
  · unfold pv3; exact if_neg (fun g => z0 3 (by decide) g.1.1)
  · unfold pv5; exact if_neg (fun g => z0 2 (by decide) g.1.1)
  · unfold pv6; exact if_neg (fun g => z0 2 (by decide) g.1)
  · unfold pv4; exact if_neg (fun g => z0 3 (by decide) g.1.1)
theorem in26 {u : Int32} (h2 : ¬ u = 2) (h3 : ¬ u = 3) (h4 : ¬ u = 4) (h5 : ¬ u = 5) (h6 : ¬ u = 6) : ¬ pIn u 2 6 := fun g => by
  have n2 : ¬ u.toInt = 2 := fun h => h2 (i32_eqI (by decide) h)
  have n3 : ¬ u.toInt = 3 := fun h => h3 (i32_eqI (by decide) h)
  have n4 : ¬ u.toInt = 4 := fun h => h4 (i32_eqI (by decide) h)
  have n5 : ¬ u.toInt = 5 := fun h => h5 (i32_eqI (by decide) h)
  have n6 : ¬ u.toInt = 6 := fun h => h6 (i32_eqI (by decide) h)
  have g1 := g.1
  have g2 := g.2
  rw [Int32.lt_iff_toInt_lt] at g1 g2
  have e2 : (2 : Int32).toInt = 2 := by decide
  have e6 : (6 : Int32).toInt = 6 := by decide
  omega
theorem step_sim {M N : gMe} {c : Nat} {K : Nat → Nat → Nat} (H : gCk M N c K) {k : Nat} (hk : k < 40) (u x z : Int32) (hF : ∀ j, j < k → ∃ f, FR M (100 + j) (N 417 j) f) : ckS (foR c M u x z k) (pvO N c u x (sfI N k x) (sfI N k z)) (100 + k) := by
  have hc := H.2.2.2.2
  by_cases hu1 : u = 1
  · subst hu1
    have eO : pvO N c 1 x (sfI N k x) (sfI N k z) = if pHz N c x then spI N x.toNatClampNeg else 0 := by unfold pvO; rw [if_pos rfl]
    rw [eO]
    by_cases hx : pIn x 1 (nI c)
    · obtain ⟨n, h1, h2, rfl, h4⟩ := pIn_n hc hx
      unfold foR
      rw [if_pos rfl]
      by_cases hv : pVal M (cP n) (M 4 1)
      · rw [if_pos (show pHz N c (nI n) from ⟨hx, by rw [h4]; exact (H.2.2.2.1 n h1 h2).mp hv⟩), h4]
        have hkd : M (cP n) 1 = 3 ↔ K n 1 = 3 := by
          rw [(H.1 n h1 h2).2.2.1]
          exact nI_eqI (b := 3) (by have := (H.1 n h1 h2).1.2.1; omega) (by decide)
        by_cases h3 : K n 1 = 3
        · rw [if_neg (fun g => g.2.2.2 (hkd.mpr h3))]
          refine Or.inr ⟨rfl, ?_⟩
          unfold spI
          rw [(H.2.1 n h1 h2).2.2.1, h3]
          rfl
        · rw [if_pos ⟨hx.1, hx.2, hv, fun g => h3 (hkd.mp g)⟩]
          exact Or.inl ⟨rfl, _, said_FR H h1 h2 hk h3⟩
      · rw [if_neg (fun g : pHz N c (nI n) => hv ((H.2.2.2.1 n h1 h2).mpr (by have := g.2; rwa [h4] at this))), h4, if_neg (fun g => hv g.2.2.1)]
        exact Or.inr ⟨rfl, rfl⟩
    · rw [if_neg (fun g : pHz N c x => hx g.1)]
      unfold foR
      rw [if_pos rfl, if_neg (fun g => hx ⟨g.1, g.2.1⟩)]
      exact Or.inr ⟨rfl, rfl⟩
  · by_cases hz : ∃ j, j < k ∧ z = nI j
    · obtain ⟨j, hj, rfl⟩ := hz
      obtain ⟨fz, hZ⟩ := hF j hj
      have hcj : (nI j).toNatClampNeg = j := nI_clamp (by omega)
      have hzr : ¬ (nI j < 0 ∨ ¬ nI j < nI k) := fun g => g.elim (nI_pos (by omega)) (fun q => q (nI_lt hj (by omega)))
      rw [sf_in hj (by omega)]
      by_cases hu7 : u = 7
      · subst hu7
        have eO : pvO N c 7 x (sfI N k x) (N 417 j) = pv7 N c x (N 417 j) := by unfold pvO; rw [if_neg hu1, if_pos rfl]
        rw [eO]
        unfold foR
        rw [if_neg hu1, if_neg hzr, if_pos rfl, hcj]
        by_cases hx : pIn x 1 (nI c)
        · obtain ⟨n, h1, h2, rfl, h4⟩ := pIn_n hc hx
          rw [h4]
          by_cases hv : pVal M (cP n) (M 4 1)
          · rw [if_pos ⟨hx.1, hx.2, hv⟩]
            exact im_sim H h1 h2 hj hk hv hZ
          · rw [if_neg (fun g => hv g.2.2)]
            refine Or.inr ⟨rfl, ?_⟩
            unfold pv7
            exact if_neg (fun g => hv ((H.2.2.2.1 n h1 h2).mpr (by have := g.1.2; rwa [h4] at this)))
        · rw [if_neg (fun g => hx ⟨g.1, g.2.1⟩)]
          refine Or.inr ⟨rfl, ?_⟩
          unfold pv7
          exact if_neg (fun g => hx g.1.1)
      · by_cases hx : ∃ i, i < k ∧ x = nI i
        · obtain ⟨i, hi, rfl⟩ := hx
          obtain ⟨fx, hX⟩ := hF i hi
          have hci : (nI i).toNatClampNeg = i := nI_clamp (by omega)
          have hxr : ¬ (nI i < 0 ∨ nI k ≤ nI i) := fun g => g.elim (nI_pos (by omega)) (fun q => Int32.not_le.mpr (nI_lt hi (by omega)) q)
          rw [sf_in hi (by omega)]
          have eF : foR c M u (nI i) (nI j) k = joR u M (100 + i) (100 + j) (100 + k) := by
            unfold foR
            rw [if_neg hu1, if_neg hzr, if_neg hu7, if_neg hxr, hci, hcj]
          rw [eF]
          unfold joR pvO
          rw [if_neg hu1, if_neg hu7]
          have hxw : 100 + i ≠ 100 + k := by omega
          have hzw : 100 + j ≠ 100 + k := by omega
          by_cases h2 : u = 2
          · subst h2
            rw [if_pos rfl, if_neg (show ¬ ¬ pIn 2 2 6 by decide), if_pos rfl]
            exact jo2 hX hZ hxw hzw
          · by_cases h3 : u = 3
            · subst h3
              rw [if_neg h2, if_pos rfl, if_neg (show ¬ ¬ pIn 3 2 6 by decide), if_neg h2, if_pos rfl]
              exact jo3 hX hZ hxw hzw
            · by_cases h4 : u = 4
              · subst h4
                rw [if_neg h2, if_neg h3, if_pos rfl, if_neg (show ¬ ¬ pIn 4 2 6 by decide), if_neg h2, if_neg h3, if_neg (by decide), if_neg (by decide)]
                exact jo4 hX hZ hxw hzw
              · by_cases h5 : u = 5
                · subst h5
                  rw [if_neg h2, if_neg h3, if_neg h4, if_pos rfl, if_neg (show ¬ ¬ pIn 5 2 6 by decide), if_neg h2, if_neg h3, if_pos rfl]
                  exact jo5 hX hZ hxw hzw
                · by_cases h6 : u = 6
                  · subst h6
                    rw [if_neg h2, if_neg h3, if_neg h4, if_neg h5, if_pos rfl, if_neg (show ¬ ¬ pIn 6 2 6 by decide), if_neg h2, if_neg h3, if_neg h5, if_pos rfl]
                    exact jo6 hX hZ hxw hzw
                  · rw [if_neg h2, if_neg h3, if_neg h4, if_neg h5, if_neg h6, if_pos (in26 h2 h3 h4 h5 h6)]
                    exact Or.inr ⟨rfl, rfl⟩
        · rw [sf_out (by omega) hx, pvO_p0 hu1 hu7]
          unfold foR
          rw [if_neg hu1, if_neg hzr, if_neg hu7, if_pos (Decidable.byContradiction (fun g => hx (nI_rng0 (by omega) (fun q => g (Or.inl q)) (Int32.not_le.mp (fun q => g (Or.inr q))))))]
          exact Or.inr ⟨rfl, rfl⟩
    · rw [sf_out (by omega) hz, pvO_q0 hu1]
      unfold foR
      rw [if_neg hu1, if_pos (Decidable.byContradiction (fun g => hz (nI_rng0 (by omega) (fun q => g (Or.inl q)) (Decidable.not_not.mp (fun q => g (Or.inr q))))))]
      exact Or.inr ⟨rfl, rfl⟩

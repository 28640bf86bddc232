/-! the walk over the reasons, class beside reference -/
theorem trR_e {u f z u' f' z' : Int32} (h : (u', f', z') = trR (u, f, z)) : u' = u ∧ f' = (if u = 1 ∨ u = 7 then f else nI (piF f.toNatClampNeg)) ∧ z' = (if u = 1 then z else nI (piF z.toNatClampNeg)) := by
  unfold trR at h
  simp only [Prod.mk.injEq] at h
  exact h
set_option maxHeartbeats 2000000 in
theorem dfs_sim {S S' : Nat → Prop} {rk : Nat → Nat} (hSS : ∀ j, S j → S' (piF j)) : ∀ (e k : Nat) (A B : gMe) (f er kr n : Nat), k + e = 41 → 1 ≤ k → S f → gTq A B S → gRk B S' rk → gMd B → dRel A B S n → rk (piF f) < er → (0 ≤ B 425 (piF f) → wsR e A f = (1, A)) ∧ (¬ 0 ≤ B 425 (piF f) → dEnd A S (wsR e A f) (dfM er kr B (piF f)) (k - 1)) := by
  intro e
  induction e with
  | zero =>
    intro k A B f er kr n hk hk1 hS hT hR hm hd hr
    have h19 : A 19 f = B 425 (piF f) := hd.2.2.2.1 f hS
    refine ⟨fun h => ?_, fun h => ?_⟩
    · rw [wsR, if_pos (by rw [h19]; exact Int32.not_lt.mpr h)]
    · rw [wsR, if_neg (not_not_intro (by rw [h19]; exact Int32.not_le.mp h))]
      obtain ⟨h1, h2, h3, -, -⟩ := dfM_ok er kr B (piF f) hr (hSS f hS) hR hm h
      obtain ⟨n9, g1, g2⟩ := h2
      have hn9 : n9 ≤ 756 := by rw [← g2]; exact cntB_le _ _
      have hpos : 0 < n9 := by
        rw [← g2]
        exact Nat.lt_of_le_of_lt (Nat.zero_le _) (cntB_lt (q := fun _ => false) 756 (fun i _ hq => by cases hq) ⟨piF f, piF_lt (hT f hS).1, by simpa using h3, by simp⟩)
      exact Or.inr ⟨rfl, n9, g1, hn9, by omega⟩
  | succ e ih =>
    intro k A B f er kr n hk hk1 hS hT hR hm hd hr
    have h19 : A 19 f = B 425 (piF f) := hd.2.2.2.1 f hS
    refine ⟨fun h => ?_, fun hu => ?_⟩
    · rw [wsR_s, if_pos (by rw [h19]; exact Int32.not_lt.mpr h)]
    rw [wsR_s, if_neg (not_not_intro (by rw [h19]; exact Int32.not_le.mp hu))]
    obtain ⟨hf9, htr, hsh⟩ := hT f hS
    obtain ⟨t1, t2, t3⟩ := trR_e htr
    obtain ⟨-, rX, rZ, -, -⟩ := hR (piF f) (hSS f hS)
    have hf' : piF f < 756 := piF_lt hf9
    obtain ⟨er', rfl⟩ : ∃ q, er = q + 1 := ⟨er - 1, by omega⟩
    -- a ground, walked on both sides
    have child : ∀ (A1 B1 : gMe) (n1 x : Nat), gTq A1 B1 S → gRk B1 S' rk → gMd B1 → dRel A1 B1 S n1 → S x → rk (piF x) < er' → dEnd A1 S (wsR e A1 x) (dfC er' kr B1 (piF x) (nI (piF x))) k ∧ (wsR e A1 x).2 19 x = (wsR e A1 x).2 19 x := by
      intro A1 B1 n1 x q1 q2 q3 q4 q5 q6
      refine ⟨?_, rfl⟩
      unfold dfC
      by_cases hp : 0 ≤ B1 425 (piF x)
      · rw [if_neg (not_not_intro hp), (ih (k + 1) A1 B1 x er' kr n1 (by omega) (by omega) q5 q1 q2 q3 q4 q6).1 hp]
        exact Or.inl ⟨rfl, gWs.rf, n1, q4⟩
      · rw [if_pos hp]
        have h9 := (ih (k + 1) A1 (gst B1 426 (kr + 1) (nI (piF x))) x er' (kr + 1) n1 (by omega) (by omega) q5 (q1.mv gWs.rf gDk.sk) (q2.mv gDk.sk) q3.sk q4.sk q6).2 (by rw [gst_ne _ _ _ _ (by decide)]; exact hp)
        rw [show k + 1 - 1 = k by omega] at h9
        exact h9
    -- the step of f itself, behind its grounds
    have fin : ∀ (A2 B2 : gMe) (u x z : Int32), gWs A A2 → gDk B B2 → gMd B2 → ¬ 0 ≤ B2 425 (piF f) → (∃ n2, dRel A2 B2 S n2) → B2 422 (piF f) = u → (∀ n2, B2 400 22 = nI n2 → n2 ≤ 40 → (if B2 422 (piF f) = 1 ∨ B2 422 (piF f) = 7 then B2 423 (piF f) else upd (B2 425) (piF f) (nI n2) (B2 423 (piF f)).toNatClampNeg) = x ∧ (if B2 422 (piF f) = 1 then 0 else upd (B2 425) (piF f) (nI n2) (B2 424 (piF f)).toNatClampNeg) = z) → dEnd A S (wsA A2 f u x z) (mNt B2 (piF f) (B2 400 22).toNatClampNeg) (k - 1) := by
      intro A2 B2 u x z w1 w2 w3 w4 ⟨n2, w5⟩ w6 w7
      have e22 : (B2 400 22).toNatClampNeg = n2 := by rw [w5.2.2.1]; exact nI_clamp (by have := w5.1; omega)
      rw [e22]
      obtain ⟨x1, x2⟩ := w7 n2 w5.2.2.1 w5.1
      rcases note_sim (u := u) (x := x) (z := z) hS w5 w6 x1 x2 with ⟨y1, y2⟩ | ⟨y1, y2⟩
      · exact Or.inl ⟨y1, w1.tr (wsA_ws ⟨n2, w5.1, w5.2.1⟩).1, n2 + 1, y2⟩
      · exact Or.inr ⟨y1, n2 + 1, mNt_22, by omega, by omega⟩
    -- where a ground doesn't fit
    have bad : ∀ (B2 : gMe) (n2 : Nat), gMd B2 → ¬ 0 ≤ B2 425 (piF f) → B2 400 22 = nI n2 → n2 ≤ 756 → 40 < n2 + k → ∃ n3, mNt B2 (piF f) (B2 400 22).toNatClampNeg 400 22 = nI n3 ∧ n3 ≤ 756 ∧ 40 < n3 + (k - 1) := by
      intro B2 n2 w1 w2 w3 w4 w5
      obtain ⟨n3, v1, v2, v3, -⟩ := gMd.lt hf' w2 w1
      have e9 : n3 = n2 := by
        have h9 := congrArg Int32.toNatClampNeg (v1.symm.trans w3)
        rw [nI_clamp (by omega), nI_clamp (by omega)] at h9; exact h9
      rw [v3]
      exact ⟨n3 + 1, mNt_22, by omega, by omega⟩
    rcases hsh with ⟨hs1, hs0⟩ | hsh
    · -- said
      rw [if_pos hs1, dfM_1 (by rw [t1, hs1])]
      refine fin A B (A 16 f) (A 17 f) (A 18 f) gWs.rf gDk.rf hm hu ⟨n, hd⟩ t1 (fun n2 _ _ => ?_)
      rw [t1, hs1, if_pos (Or.inl rfl), if_pos rfl, t2, hs1, if_pos (Or.inl rfl), hs0]
      exact ⟨rfl, rfl⟩
    · have hzS : ∃ z, A 18 f = nI z ∧ S z ∧ z < 756 := by
        rcases hsh with ⟨-, z, z1, z2, z3⟩ | ⟨-, -, z, z1, z2, z3⟩ <;> exact ⟨z, z2, z3, z1⟩
      obtain ⟨z, z1, z2, z3⟩ := hzS
      have hzc : (A 18 f).toNatClampNeg = z := by rw [z1]; exact nI_clamp (by omega)
      have hu1 : ¬ A 16 f = 1 := by
        intro h9
        rcases hsh with ⟨g1, -⟩ | ⟨g1, -⟩
        · rw [show A 16 f = 7 from g1] at h9; exact absurd h9 (by decide)
        · simp only at g1
          rw [h9] at g1
          exact absurd g1 (by decide)
      have hz' : B 424 (piF f) = nI (piF z) := by rw [t3, if_neg hu1, hzc]
      have hr1 : ¬ B 422 (piF f) ≤ 1 := by
        rw [t1]
        rcases hsh with ⟨g1, -⟩ | ⟨g1, -⟩
        · rw [show A 16 f = 7 from g1]; decide
        · simp only at g1
          rcases g1 with g1 | g1 | g1 | g1 | g1 <;> (rw [g1]; decide)
      have hrz : rk (piF z) < rk (piF f) := by
        obtain ⟨z9, q1, q2, q3⟩ := rZ hr1
        have h8 := (hR z9 q2).1
        have h9 := congrArg Int32.toNatClampNeg (q1.symm.trans hz')
        rw [nI_clamp (by omega), nI_clamp (by have := piF_lt z3; omega)] at h9
        rw [← h9]; exact q3
      have hne : piF z ≠ piF f := fun h9 => by rw [h9] at hrz; omega
      by_cases h7 : A 16 f = 7
      · -- implied
        rw [if_neg hu1, if_pos h7, hzc, dfM_7 (by rw [t1, h7]) hz' (piF_lt z3)]
        obtain ⟨o1, o2, o3, o4⟩ := dfC_ok (er := er') (kr := kr) (v := nI (piF z)) (show rk (piF z) < er' by omega) (hSS z z2) hR hm
        have hub : ¬ 0 ≤ dfC er' kr B (piF z) (nI (piF z)) 425 (piF f) := fun h9 => by have := o4 _ hu h9; omega
        rcases (child A B n z hT hR hm hd z2 (by omega)).1 with ⟨c1, c2, n1, c3⟩ | ⟨c1, n1, c2, c3, c4⟩
        · rw [if_neg (by rw [c1]; decide)]
          refine fin _ _ _ _ _ c2 o1 o2 hub ⟨n1, c3⟩ (by rw [o1.1 422 (by decide) (by decide) (by decide) (by decide)]; exact t1) (fun n2 _ _ => ?_)
          rw [o1.1 422 (by decide) (by decide) (by decide) (by decide), o1.1 423 (by decide) (by decide) (by decide) (by decide), o1.1 424 (by decide) (by decide) (by decide) (by decide), t1, h7, if_pos (Or.inr rfl), if_neg (show ¬ (7 : Int32) = 1 by decide), hz', nI_clamp (show piF z < 2 ^ 31 by have := piF_lt z3; omega), upd_n _ _ hne, t2, h7, if_pos (Or.inr rfl), c3.2.2.2.1 z z2]
          exact ⟨rfl, rfl⟩
        · rw [if_pos c1]
          exact Or.inr ⟨rfl, bad _ n1 o2 hub c2 c3 c4⟩
      · -- two grounds
        have hxS : ∃ x, A 17 f = nI x ∧ S x ∧ x < 756 := by
          rcases hsh with ⟨g1, -⟩ | ⟨-, ⟨x, x1, x2, x3⟩, -⟩
          · exact absurd g1 h7
          · exact ⟨x, x2, x3, x1⟩
        obtain ⟨x, x1, x2, x3⟩ := hxS
        have hxc : (A 17 f).toNatClampNeg = x := by rw [x1]; exact nI_clamp (by omega)
        have hx' : B 423 (piF f) = nI (piF x) := by rw [t2, if_neg (fun q => q.elim hu1 h7), hxc]
        have hr7 : ¬ 7 ≤ B 422 (piF f) := by
          rw [t1]
          rcases hsh with ⟨g1, -⟩ | ⟨g1, -⟩
          · exact absurd g1 h7
          · simp only at g1
            rcases g1 with g1 | g1 | g1 | g1 | g1 <;> (rw [g1]; decide)
        have hrx : rk (piF x) < rk (piF f) := by
          obtain ⟨x9, q1, q2, q3⟩ := rX hr1 hr7
          have h8 := (hR x9 q2).1
          have h9 := congrArg Int32.toNatClampNeg (q1.symm.trans hx')
          rw [nI_clamp (by omega), nI_clamp (by have := piF_lt x3; omega)] at h9
          rw [← h9]; exact q3
        have hnx : piF x ≠ piF f := fun h9 => by rw [h9] at hrx; omega
        rw [if_neg hu1, if_neg h7, hxc]
        obtain ⟨o1, o2, o3, o4⟩ := dfC_ok (er := er') (kr := kr) (v := nI (piF x)) (show rk (piF x) < er' by omega) (hSS x x2) hR hm
        have hub : ¬ 0 ≤ dfC er' kr B (piF x) (nI (piF x)) 425 (piF f) := fun h9 => by have := o4 _ hu h9; omega
        rw [dfM_2 hr1 hr7 hx' (piF_lt x3) (piF_lt z3) _ rfl (by rw [o1.1 422 (by decide) (by decide) (by decide) (by decide)]) (by rw [o1.1 424 (by decide) (by decide) (by decide) (by decide)]; exact hz')]
        obtain ⟨p1, p2, p3, p4⟩ := dfC_ok (er := er') (kr := kr) (v := nI (piF z)) (show rk (piF z) < er' by omega) (hSS z z2) (hR.mv o1) o2
        have hub2 : ¬ 0 ≤ dfC er' kr (dfC er' kr B (piF x) (nI (piF x))) (piF z) (nI (piF z)) 425 (piF f) := fun h9 => by have := p4 _ hub h9; omega
        rcases (child A B n x hT hR hm hd x2 (by omega)).1 with ⟨c1, c2, n1, c3⟩ | ⟨c1, n1, c2, c3, c4⟩
        · rw [if_neg (by rw [c1]; decide), hzc]
          rcases (child _ _ n1 z (hT.mv c2 o1) (hR.mv o1) o2 c3 z2 (by omega)).1 with ⟨d1, d2, n3, d3⟩ | ⟨d1, n3, d2, d3, d4⟩
          · rw [if_neg (by rw [d1]; decide)]
            refine fin _ _ _ _ _ (c2.tr d2) (o1.tr p1) p2 hub2 ⟨n3, d3⟩ (by rw [(o1.tr p1).1 422 (by decide) (by decide) (by decide) (by decide)]; exact t1) (fun n2 _ _ => ?_)
            rw [(o1.tr p1).1 422 (by decide) (by decide) (by decide) (by decide), (o1.tr p1).1 423 (by decide) (by decide) (by decide) (by decide), (o1.tr p1).1 424 (by decide) (by decide) (by decide) (by decide), t1, if_neg (fun q => q.elim hu1 h7), if_neg hu1, hz', hx', nI_clamp (show piF z < 2 ^ 31 by have := piF_lt z3; omega), nI_clamp (show piF x < 2 ^ 31 by have := piF_lt x3; omega), upd_n _ _ hne, upd_n _ _ hnx, d3.2.2.2.1 z z2, c3.2.2.2.1 x x2]
            exact ⟨p1.2.2 _ o3, rfl⟩
          · rw [if_pos d1]
            exact Or.inr ⟨rfl, bad _ n3 p2 hub2 d2 d3 d4⟩
        · rw [if_pos c1]
          obtain ⟨n3, g1, g2, g3⟩ := o2.le p2 p1 c2 (by omega)
          exact Or.inr ⟨rfl, bad _ n3 p2 hub2 g1 g3 (by omega)⟩

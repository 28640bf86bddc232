/-! one step of a proof, checked on both sides -/
def kNm (f : Nat → Nat) : Prop := (f 1 = 0 → f 5 = 0) ∧ (f 1 = 1 → f 3 = 0 ∧ f 4 = 0 ∧ f 5 = 0)
def ckS (r : Int32 × gMe) (v : Int32) (w : Nat) : Prop := (r.1 = 1 ∧ ∃ f, FR r.2 w v f) ∨ (r.1 = 0 ∧ v = 0)
theorem FR.nz {M : gMe} {b : Nat} {v : Int32} {f : Nat → Nat} (h : FR M b v f) : ¬ v = 0 := by
  rw [h.2.2]
  exact nI_nz (pkF_b h.1).1 (pkF_b h.1).2.1
section gJoin
variable {M : gMe} {X Z W : Nat} {p q : Int32} {fx fz : Nat → Nat}
theorem c3 {a b : Nat} (ha : a < 3) (hb : b < 7) : nI a = nI b ↔ a = b := nI_eqI (by omega) (by omega)
theorem s3 {a b : Nat} (ha : a < 3) (hb : b < 7) : nI (a + 1) = nI b ↔ a + 1 = b := nI_eqI (by omega) (by omega)
theorem ff {a b : Nat} (ha : a < 8) (hb : b < 8) : nI a = nI b ↔ a = b := nI_eqI (by omega) (by omega)
theorem k0 : (0 : Int32) = nI 0 := rfl
theorem k1 : (1 : Int32) = nI 1 := rfl
theorem k2 : (2 : Int32) = nI 2 := rfl
theorem k3 : (3 : Int32) = nI 3 := rfl
theorem jo2 (hX : FR M X p fx) (hZ : FR M Z q fz) (hxw : X ≠ W) (hzw : Z ≠ W) : ckS (bi (pJ2 M X Z), jM2 M X Z W) (pv2 p q) W := by
  obtain ⟨ox, vx, rfl⟩ := hX
  obtain ⟨oz, vz, rfl⟩ := hZ
  have bx := ox
  have bz := oz
  obtain ⟨x0, x1, x2, x3, x4, x5, x6, x7⟩ := bx
  obtain ⟨y0, y1, y2, y3, y4, y5, y6, y7⟩ := bz
  have hP : pJ2 M X Z ↔ fx 0 = 1 ∧ fz 0 = 0 ∧ fx 2 = fz 1 := by
    unfold pJ2
    rw [vx 0 (by decide), vz 0 (by decide), vx 2 (by decide), vz 1 (by decide)]
    exact and_congr (c3 (b := 1) x0 (by decide)) (and_congr (c3 (b := 0) y0 (by decide)) (ff (by omega) (by omega)))
  by_cases h : fx 0 = 1 ∧ fz 0 = 0 ∧ fx 2 = fz 1
  · rw [bi_t (hP.mpr h)]
    refine Or.inl ⟨rfl, fun i => if i = 1 then fx 1 else fz i, ?_, fun i hi => ?_, ?_⟩
    · obtain ⟨h0, h1, h2⟩ : fx 0 = 1 ∧ fz 0 = 0 ∧ fx 2 = fz 1 := ⟨h.1, h.2.1, h.2.2⟩
      refine ⟨?_, ?_, ?_, ?_, ?_, ?_, ?_, ?_⟩ <;> simp <;> omega
    · show jM2 M X Z W W i = _
      unfold jM2
      rw [if_pos (hP.mpr h), hoM_at hxw hzw (by rw [vx 2 (by decide), vz 1 (by decide), h.2.2]) hi]
      by_cases e1 : i = 1
      · simp only [if_pos e1]; exact vx 1 (by decide)
      · simp only [if_neg e1]; exact vz i hi
    unfold pv2 pvV
    rw [dg0 ox, dg0 oz, dg1 ox, dg1 oz, dg2 ox, dg2 oz, dg3 oz, dg4 oz, if_pos ⟨⟨(s3 (b := 2) x0 (by decide)).mpr (by omega), by rw [if_pos h.1, if_neg (by omega), h.2.2]⟩, (s3 (b := 1) y0 (by decide)).mpr (by omega)⟩, if_pos h.1, if_neg (show ¬ fz 0 = 1 by omega), k1, k0, fc_n]
    unfold pkF
    simp [h.2.1, y6 h.2.1]
  · rw [bi_f (fun g => h (hP.mp g))]
    refine Or.inr ⟨rfl, ?_⟩
    unfold pv2 pvV
    rw [dg0 ox, dg0 oz, dg1 ox, dg1 oz]
    refine if_neg (fun g => h ?_)
    have g1 := (s3 (b := 2) x0 (by decide)).mp g.1.1
    have g2 := (s3 (b := 1) y0 (by decide)).mp g.2
    have g3 := g.1.2
    rw [if_pos (by omega), if_neg (by omega)] at g3
    exact ⟨by omega, by omega, (ff (by omega) (by omega)).mp g3⟩
theorem jo5 (hX : FR M X p fx) (hZ : FR M Z q fz) (hxw : X ≠ W) (hzw : Z ≠ W) : ckS (bi (pJ5 M X Z), jM5 M X Z W) (pv5 p q) W := by
  obtain ⟨ox, vx, rfl⟩ := hX
  obtain ⟨oz, vz, rfl⟩ := hZ
  have bx := ox
  have bz := oz
  obtain ⟨x0, x1, x2, x3, x4, x5, x6, x7⟩ := bx
  obtain ⟨y0, y1, y2, y3, y4, y5, y6, y7⟩ := bz
  have hP : pJ5 M X Z ↔ fx 0 = 1 ∧ fz 0 = 2 ∧ fx 2 = fz 1 := by
    unfold pJ5
    rw [vx 0 (by decide), vz 0 (by decide), vx 2 (by decide), vz 1 (by decide)]
    exact and_congr (c3 (b := 1) x0 (by decide)) (and_congr (c3 (b := 2) y0 (by decide)) (ff (by omega) (by omega)))
  by_cases h : fx 0 = 1 ∧ fz 0 = 2 ∧ fx 2 = fz 1
  · rw [bi_t (hP.mpr h)]
    refine Or.inl ⟨rfl, fun i => if i = 1 then fx 1 else fz i, ?_, fun i hi => ?_, ?_⟩
    · obtain ⟨h0, h1, h2⟩ : fx 0 = 1 ∧ fz 0 = 2 ∧ fx 2 = fz 1 := ⟨h.1, h.2.1, h.2.2⟩
      refine ⟨?_, ?_, ?_, ?_, ?_, ?_, ?_, ?_⟩ <;> simp <;> omega
    · show jM5 M X Z W W i = _
      unfold jM5
      rw [if_pos (hP.mpr h), hoM_at hxw hzw (by rw [vx 2 (by decide), vz 1 (by decide), h.2.2]) hi]
      by_cases e1 : i = 1
      · simp only [if_pos e1]; exact vx 1 (by decide)
      · simp only [if_neg e1]; exact vz i hi
    unfold pv5 pvV
    rw [dg0 ox, dg0 oz, dg1 ox, dg1 oz, dg2 ox, dg2 oz, dg3 oz, dg4 oz, dg5 oz, if_pos ⟨⟨(s3 (b := 2) x0 (by decide)).mpr (by omega), by rw [if_pos h.1, if_neg (by omega), h.2.2]⟩, (s3 (b := 3) y0 (by decide)).mpr (by omega)⟩, if_pos h.1, if_neg (show ¬ fz 0 = 1 by omega), k3, fc_n]
    unfold pkF
    simp [h.2.1]
  · rw [bi_f (fun g => h (hP.mp g))]
    refine Or.inr ⟨rfl, ?_⟩
    unfold pv5 pvV
    rw [dg0 ox, dg0 oz, dg1 ox, dg1 oz]
    refine if_neg (fun g => h ?_)
    have g1 := (s3 (b := 2) x0 (by decide)).mp g.1.1
    have g2 := (s3 (b := 3) y0 (by decide)).mp g.2
    have g3 := g.1.2
    rw [if_pos (by omega), if_neg (by omega)] at g3
    exact ⟨by omega, by omega, (ff (by omega) (by omega)).mp g3⟩
theorem jo3 (hX : FR M X p fx) (hZ : FR M Z q fz) (hxw : X ≠ W) (hzw : Z ≠ W) : ckS (bi (pJ3 M X Z), jM3 M X Z W) (pv3 p q) W := by
  obtain ⟨ox, vx, rfl⟩ := hX
  obtain ⟨oz, vz, rfl⟩ := hZ
  have bx := ox
  have bz := oz
  obtain ⟨x0, x1, x2, x3, x4, x5, x6, x7⟩ := bx
  obtain ⟨y0, y1, y2, y3, y4, y5, y6, y7⟩ := bz
  have hP : pJ3 M X Z ↔ fx 0 = 2 ∧ fz 0 = 0 ∧ fx 3 = fz 3 ∧ fx 4 = fz 4 ∧ fx 2 = fz 1 := by
    unfold pJ3
    unfold pSm
    rw [vx 0 (by decide), vz 0 (by decide), vx 2 (by decide), vz 1 (by decide), vx 3 (by decide), vz 3 (by decide), vx 4 (by decide), vz 4 (by decide)]
    rw [show nI (fx 0) = 2 ↔ fx 0 = 2 from c3 (b := 2) x0 (by decide), show nI (fz 0) = 0 ↔ fz 0 = 0 from c3 (b := 0) y0 (by decide), ff (show fx 3 < 8 by omega) (show fz 3 < 8 by omega), ff (show fx 4 < 8 by omega) (show fz 4 < 8 by omega), ff (show fx 2 < 8 by omega) (show fz 1 < 8 by omega), and_assoc]
  by_cases h : fx 0 = 2 ∧ fz 0 = 0 ∧ fx 3 = fz 3 ∧ fx 4 = fz 4 ∧ fx 2 = fz 1
  · rw [bi_t (hP.mpr h)]
    refine Or.inl ⟨rfl, fun i => if i = 1 then fx 1 else fz i, ?_, fun i hi => ?_, ?_⟩
    · obtain ⟨h0, h1, h2⟩ : fx 0 = 2 ∧ fz 0 = 0 ∧ fx 2 = fz 1 := ⟨h.1, h.2.1, h.2.2.2.2⟩
      refine ⟨?_, ?_, ?_, ?_, ?_, ?_, ?_, ?_⟩ <;> simp <;> omega
    · show jM3 M X Z W W i = _
      unfold jM3
      rw [if_pos (hP.mpr h), hoM_at hxw hzw (by rw [vx 2 (by decide), vz 1 (by decide), h.2.2.2.2]) hi]
      by_cases e1 : i = 1
      · simp only [if_pos e1]; exact vx 1 (by decide)
      · simp only [if_neg e1]; exact vz i hi
    unfold pv3 pvT
    rw [dg0 ox, dg0 oz, dg1 ox, dg1 oz, dg2 ox, dg2 oz, dg3 ox, dg3 oz, dg4 ox, dg4 oz, if_pos ⟨⟨(s3 (b := 3) x0 (by decide)).mpr (by omega), by rw [if_neg (by omega), if_neg (by omega), h.2.2.2.2], by rw [h.2.2.1], by rw [h.2.2.2.1]⟩, (s3 (b := 1) y0 (by decide)).mpr (by omega)⟩, if_neg (show ¬ fx 0 = 1 by omega), if_neg (show ¬ fz 0 = 1 by omega), k1, k0, fc_n]
    unfold pkF
    simp [h.2.1, y6 h.2.1]
  · rw [bi_f (fun g => h (hP.mp g))]
    refine Or.inr ⟨rfl, ?_⟩
    unfold pv3 pvT
    rw [dg0 ox, dg0 oz, dg1 oz, dg2 ox, dg3 ox, dg3 oz, dg4 ox, dg4 oz]
    refine if_neg (fun g => h ?_)
    have g1 := (s3 (b := 3) x0 (by decide)).mp g.1.1
    have g2 := (s3 (b := 1) y0 (by decide)).mp g.2
    have g3 := g.1.2.1
    rw [if_neg (by omega), if_neg (by omega)] at g3
    exact ⟨by omega, by omega, (ff (by omega) (by omega)).mp g.1.2.2.1, (ff (by omega) (by omega)).mp g.1.2.2.2, (ff (by omega) (by omega)).mp g3⟩
theorem jo6 (hX : FR M X p fx) (hZ : FR M Z q fz) (hxw : X ≠ W) (hzw : Z ≠ W) : ckS (bi (pJ6 M X Z), jM6 M X Z W) (pv6 p q) W := by
  obtain ⟨ox, vx, rfl⟩ := hX
  obtain ⟨oz, vz, rfl⟩ := hZ
  have bx := ox
  have bz := oz
  obtain ⟨x0, x1, x2, x3, x4, x5, x6, x7⟩ := bx
  obtain ⟨y0, y1, y2, y3, y4, y5, y6, y7⟩ := bz
  have hP : pJ6 M X Z ↔ fx 0 = 1 ∧ fz 0 = 1 ∧ fz 2 = fx 1 := by
    unfold pJ6
    rw [vx 0 (by decide), vz 0 (by decide), vz 2 (by decide), vx 1 (by decide)]
    exact and_congr (c3 (b := 1) x0 (by decide)) (and_congr (c3 (b := 1) y0 (by decide)) (ff (by omega) (by omega)))
  by_cases h : fx 0 = 1 ∧ fz 0 = 1 ∧ fz 2 = fx 1
  · rw [bi_t (hP.mpr h)]
    refine Or.inl ⟨rfl, fun i => if i = 1 then fz 1 else fx i, ?_, fun i hi => ?_, ?_⟩
    · obtain ⟨h0, h1, h2⟩ := h
      refine ⟨?_, ?_, ?_, ?_, ?_, ?_, ?_, ?_⟩ <;> simp <;> omega
    · show jM6 M X Z W W i = _
      unfold jM6
      rw [if_pos (hP.mpr h), hoM_at hzw hxw (by rw [vz 2 (by decide), vx 1 (by decide), h.2.2]) hi]
      by_cases e1 : i = 1
      · simp only [if_pos e1]; exact vz 1 (by decide)
      · simp only [if_neg e1]; exact vx i hi
    unfold pv6
    rw [dg0 ox, dg0 oz, dg1 ox, dg1 oz, dg2 ox, dg2 oz, if_pos ⟨(s3 (b := 2) x0 (by decide)).mpr (by omega), (s3 (b := 2) y0 (by decide)).mpr (by omega), by rw [if_pos h.1, if_pos h.2.1, h.2.2]⟩, if_pos h.1, if_pos h.2.1, k2, k0, fc_n]
    unfold pkF
    simp [h.1]
  · rw [bi_f (fun g => h (hP.mp g))]
    refine Or.inr ⟨rfl, ?_⟩
    unfold pv6
    rw [dg0 ox, dg0 oz, dg1 oz, dg2 ox]
    refine if_neg (fun g => h ?_)
    have g1 := (s3 (b := 2) x0 (by decide)).mp g.1
    have g2 := (s3 (b := 2) y0 (by decide)).mp g.2.1
    have g3 := g.2.2
    rw [if_pos (by omega), if_pos (by omega)] at g3
    exact ⟨by omega, by omega, ((ff (by omega) (by omega)).mp g3).symm⟩
theorem le0_n {a : Nat} (ha : a < 8) : nI a ≤ 0 ↔ a = 0 := by
  constructor
  · intro h; exact Decidable.byContradiction (fun g => nI_nle (by omega) (by omega) h)
  · intro h; subst h; decide
theorem jo4 (hX : FR M X p fx) (hZ : FR M Z q fz) (hxw : X ≠ W) (hzw : Z ≠ W) : ckS (bi (pJ4 M X Z), jM4 M X Z W) (pv4 p q) W := by
  obtain ⟨ox, vx, rfl⟩ := hX
  obtain ⟨oz, vz, rfl⟩ := hZ
  have bx := ox
  have bz := oz
  obtain ⟨x0, x1, x2, x3, x4, x5, x6, x7⟩ := bx
  obtain ⟨y0, y1, y2, y3, y4, y5, y6, y7⟩ := bz
  have hP : pJ4 M X Z ↔ fx 0 = 2 ∧ fz 0 = 2 ∧ 0 < fx 5 ∧ fx 3 = fz 3 ∧ fx 4 = fz 4 ∧ fx 2 = fz 1 := by
    unfold pJ4
    unfold pTd pSm
    rw [vx 0 (by decide), vz 0 (by decide), vx 2 (by decide), vz 1 (by decide), vx 3 (by decide), vz 3 (by decide), vx 4 (by decide), vz 4 (by decide), vx 5 (by decide)]
    rw [show nI (fx 0) = 2 ↔ fx 0 = 2 from c3 (b := 2) x0 (by decide), show nI (fz 0) = 2 ↔ fz 0 = 2 from c3 (b := 2) y0 (by decide), ff (show fx 3 < 8 by omega) (show fz 3 < 8 by omega), ff (show fx 4 < 8 by omega) (show fz 4 < 8 by omega), ff (show fx 2 < 8 by omega) (show fz 1 < 8 by omega), le0_n (show fx 5 < 8 by omega), and_assoc]
    exact ⟨fun g => by omega, fun g => by omega⟩
  by_cases h : fx 0 = 2 ∧ fz 0 = 2 ∧ 0 < fx 5 ∧ fx 3 = fz 3 ∧ fx 4 = fz 4 ∧ fx 2 = fz 1
  · rw [bi_t (hP.mpr h)]
    refine Or.inl ⟨rfl, fun i => if i = 5 then min (fx 5 - 1) (fz 5) else if i = 1 then fx 1 else fz i, ?_, fun i hi => ?_, ?_⟩
    · obtain ⟨h0, h1, h2, h3, h4, h5⟩ := h
      refine ⟨?_, ?_, ?_, ?_, ?_, ?_, ?_, ?_⟩ <;> simp <;> omega
    · show jM4 M X Z W W i = _
      unfold jM4
      rw [if_pos (hP.mpr h), tdM_at hxw hzw (hP.mpr h).2.2 hi]
      by_cases e5 : i = 5
      · simp only [if_pos e5]
        rw [vx 5 (by decide), vz 5 (by decide), nI_dm (by omega)]
        exact min_nI (by omega) (by omega)
      · simp only [if_neg e5]
        by_cases e1 : i = 1
        · simp only [if_pos e1]; exact vx 1 (by decide)
        · simp only [if_neg e1]; exact vz i hi
    unfold pv4 pvT
    have e5 : nI (fx 5) - 1 = nI (fx 5 - 1) := nI_dm (by omega)
    rw [dg0 ox, dg0 oz, dg1 ox, dg1 oz, dg2 ox, dg2 oz, dg3 ox, dg3 oz, dg4 ox, dg4 oz, dg5 ox, dg5 oz, e5, if_pos ⟨⟨(s3 (b := 3) x0 (by decide)).mpr (by omega), by rw [if_neg (by omega), if_neg (by omega), h.2.2.2.2.2], by rw [h.2.2.2.1], by rw [h.2.2.2.2.1]⟩, (s3 (b := 3) y0 (by decide)).mpr (by omega), nI_pos (by omega)⟩, if_neg (show ¬ fx 0 = 1 by omega), if_neg (show ¬ fz 0 = 1 by omega)]
    have em : (if nI (fz 5) ≤ nI (fx 5 - 1) then nI (fz 5) else nI (fx 5 - 1)) = nI (min (fx 5 - 1) (fz 5)) := by
      by_cases g : fz 5 ≤ fx 5 - 1
      · rw [if_pos ((nI_leI (by omega) (by omega)).mpr g), Nat.min_eq_right g]
      · rw [if_neg (fun q => g ((nI_leI (by omega) (by omega)).mp q)), Nat.min_eq_left (by omega)]
    rw [em, k3, fc_n]
    unfold pkF
    simp [h.2.1]
  · rw [bi_f (fun g => h (hP.mp g))]
    refine Or.inr ⟨rfl, ?_⟩
    unfold pv4 pvT
    rw [dg0 ox, dg0 oz, dg1 oz, dg2 ox, dg3 ox, dg3 oz, dg4 ox, dg4 oz, dg5 ox]
    refine if_neg (fun g => h ?_)
    have g1 := (s3 (b := 3) x0 (by decide)).mp g.1.1
    have g2 := (s3 (b := 3) y0 (by decide)).mp g.2.1
    have g3 := g.1.2.1
    rw [if_neg (by omega), if_neg (by omega)] at g3
    refine ⟨by omega, by omega, ?_, (ff (by omega) (by omega)).mp g.1.2.2.1, (ff (by omega) (by omega)).mp g.1.2.2.2, (ff (by omega) (by omega)).mp g3⟩
    refine Nat.pos_of_ne_zero (fun g0 => ?_)
    have g4 := g.2.2
    rw [g0] at g4
    exact g4 (by decide)
end gJoin

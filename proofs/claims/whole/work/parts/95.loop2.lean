/-! the law's loop -/
theorem sub9 {N i : Nat} (hN : N ≤ 4609) (hi : i ≤ 10000) : nI N - 9 < nI i ↔ N < i + 9 := by
  by_cases h : 9 ≤ N
  · have e : nI N - 9 = nI (N - 9) := by
      have e1 : nI (N - 9) + nI 9 = nI N := by rw [nI_add, show N - 9 + 9 = N by omega]
      rw [← e1]
      show nI (N - 9) + 9 - 9 = nI (N - 9)
      rw [Int32.add_sub_cancel]
    rw [e, nI_ltI (by omega) (by omega)]
    omega
  · have e : nI N - 9 < 0 := (by decide +kernel : ∀ n, n < 9 → nI n - 9 < 0) N (by omega)
    exact ⟨fun _ => by omega, fun _ => Int32.lt_of_lt_of_le e (Int32.not_lt.mp (nI_pos (by omega)))⟩
section gLoop
variable {l : Launch} {G : gG} {N : Nat} {f : Nat → Int32}
theorem lw_end {L : gLy} {M : gMe} {cells slots i : Nat} {o5 o6 : Option Int32} (hcs : cells ≤ 5000) (hss : slots ≤ 100000) : V l G x code 7 ret room_1 601024 7292999 (fun _ => False) lwP L M cells slots [some (.ref 1), some (.ref 2), some (.ref 400), some (.ref 450), some (.int (nI i)), (o5.map Value.int), (o6.map Value.int)] 964 [] := by
  refine V_iconst 965 (v := 1) (by decide) d_Lw_law_964 rfl ?_
  exact V_pad (cells' := 601024) (slots' := 7292999) (by omega) (by omega) (V_zret rfl rfl d_Lw_law_965 rfl)
set_option maxRecDepth 100000 in
set_option maxHeartbeats 4000000 in
theorem lw_loop (hG : ∃ (G0 : gG) (z : Nat), G = gG1 G0 z ∧ gAL G0 ∧ gEx l G0) (hs : gSc G N f) (hN : N ≤ 4609) (d : Nat) : ∀ (i cells slots : Nat) (L : gLy) (M : gMe) (c : Nat) (K : Nat → Nat → Nat) (o5 o6 : Option Int32), i ≤ 9000 → N < i + 9 * d + 9 → cells + 3 * d ≤ 5000 → slots + 43 * d ≤ 100000 → gLay L c → gRl M M c K → V l G x code 7 ret room_1 601024 7292999 (fun _ => False) lwP L M cells slots [some (.ref 1), some (.ref 2), some (.ref 400), some (.ref 450), some (.int (nI i)), (o5.map Value.int), (o6.map Value.int)] 33 [] := by
  have hx : gEx l G := by obtain ⟨G0, z, rfl, -, h⟩ := hG; exact h
  have hG0 : ∃ (G0 : gG) (z : Nat), G = gG1 G0 z ∧ gSt G0 := by obtain ⟨G0, z, e, h, -⟩ := hG; exact ⟨G0, z, e, h.1⟩
  induction d with
  | zero =>
    intro i cells slots L M c K o5 o6 hi hd hcs hss hA h
    refine V_il4 35 d_Lw_law_33 rfl ?_
    refine V_al0 36 d_Lw_law_35 rfl ?_
    refine V_alenS 37 hs (by decide) d_Lw_law_36 rfl ?_
    refine V_bipush 39 (v := 9) (by decide) d_Lw_law_37 rfl ?_
    refine V_isub 40 d_Lw_law_39 rfl ?_
    refine V_icmp_gt 964 43 d_Lw_law_40 (by decide) rfl (fun _ => ?_) (fun h9 => absurd ((sub9 hN (by omega)).mpr (by omega)) h9)
    exact lw_end (by omega) (by omega)
  | succ d ih =>
    intro i cells slots L M c K o5 o6 hi hd hcs hss hA h
    refine V_il4 35 d_Lw_law_33 rfl ?_
    refine V_al0 36 d_Lw_law_35 rfl ?_
    refine V_alenS 37 hs (by decide) d_Lw_law_36 rfl ?_
    refine V_bipush 39 (v := 9) (by decide) d_Lw_law_37 rfl ?_
    refine V_isub 40 d_Lw_law_39 rfl ?_
    refine V_icmp_gt 964 43 d_Lw_law_40 (by decide) rfl (fun _ => ?_) (fun h9 => ?_)
    · exact lw_end (by omega) (by omega)
    · have hin : i + 9 ≤ N := Nat.not_lt.mp (fun g => h9 ((sub9 hN (by omega)).mpr g))
      have kk : ∀ (L' : gLy) (M' : gMe) (c' : Nat) (K' : Nat → Nat → Nat) (o5' o6' : Option Int32), gLay L' c' → gRl M' M' c' K' → V l G x code 7 ret room_1 601024 7292999 (fun _ => False) lwP L' M' (cells + 3) (slots + 43) [some (.ref 1), some (.ref 2), some (.ref 400), some (.ref 450), some (.int (nI i)), (o5'.map Value.int), (o6'.map Value.int)] 958 [] := by
        intro L' M' c' K' o5' o6' hA' h'
        refine V_ii4 961 (v := 9) d_Lw_law_958 (by decide) (by decide) rfl ?_
        refine V_goto 33 d_Lw_law_961 (by decide) ?_
        have e9 : nI i + 9 = nI (i + 9) := nI_add i 9
        rw [e9]
        exact ih (i + 9) (cells + 3) (slots + 43) L' M' c' K' o5' o6' (by omega) (by omega) (by omega) (by omega) hA' h'
      have hc5 : cells ≤ 5000 := by omega
      have hs5 : slots ≤ 100000 := by omega
      refine V_al0 44 d_Lw_law_43 rfl ?_
      refine V_il4 46 d_Lw_law_44 rfl ?_
      refine V_itab 47 i hs (by decide) rfl (by omega) (by omega) d_Lw_law_46 rfl ?_
      refine V_bipush 49 (v := 31) (by decide) d_Lw_law_47 rfl ?_
      refine V_iand 50 d_Lw_law_49 rfl ?_
      generalize f i &&& 31 = w
      by_cases e0 : w = 0
      · refine V_topi e0 ?_
        exact V_tabIn 136 d_Lw_law_50 (by decide) (by decide) rfl (by decide) (lw_0 hG0 hs hN hin hA h hc5 hs5 kk)
      by_cases e1 : w = 1
      · refine V_topi e1 ?_
        exact V_tabIn 251 d_Lw_law_50 (by decide) (by decide) rfl (by decide) (lw_1 hG hs hN hin hA h hc5 hs5 kk)
      by_cases e2 : w = 2
      · refine V_topi e2 ?_
        exact V_tabIn 355 d_Lw_law_50 (by decide) (by decide) rfl (by decide) (lw_2 hs hN hin hA h hc5 hs5 kk)
      by_cases e3 : w = 3
      · refine V_topi e3 ?_
        exact V_tabIn 414 d_Lw_law_50 (by decide) (by decide) rfl (by decide) (lw_3 hx hs hN hin hA h hc5 hs5 kk)
      by_cases e4 : w = 4
      · refine V_topi e4 ?_
        exact V_tabIn 489 d_Lw_law_50 (by decide) (by decide) rfl (by decide) (lw_4 hs hN hin hA h hc5 hs5 kk)
      by_cases e5 : w = 5
      · refine V_topi e5 ?_
        exact V_tabIn 514 d_Lw_law_50 (by decide) (by decide) rfl (by decide) (lw_5 hs hN hin hA h hc5 hs5 kk)
      by_cases e6 : w = 6
      · refine V_topi e6 ?_
        exact V_tabIn 563 d_Lw_law_50 (by decide) (by decide) rfl (by decide) (lw_6 hs hN hin hA h hc5 hs5 kk)
      by_cases e7 : w = 7
      · refine V_topi e7 ?_
        exact V_tabIn 576 d_Lw_law_50 (by decide) (by decide) rfl (by decide) (lw_7 hs hN hin hA h hc5 hs5 kk)
      by_cases e8 : w = 8
      · refine V_topi e8 ?_
        exact V_tabIn 589 d_Lw_law_50 (by decide) (by decide) rfl (by decide) (lw_8 hs hN hin hA h hc5 hs5 kk)
      by_cases e9 : w = 9
      · refine V_topi e9 ?_
        exact V_tabIn 626 d_Lw_law_50 (by decide) (by decide) rfl (by decide) (lw_9 hs hN hin hA h hc5 hs5 kk)
      by_cases e10 : w = 10
      · refine V_topi e10 ?_
        exact V_tabIn 675 d_Lw_law_50 (by decide) (by decide) rfl (by decide) (lw_10 hs hN hin hA h hc5 hs5 kk)
      by_cases e11 : w = 11
      · refine V_topi e11 ?_
        exact V_tabIn 724 d_Lw_law_50 (by decide) (by decide) rfl (by decide) (lw_11 hx hs hN hin hA h hc5 hs5 kk)
      by_cases e12 : w = 12
      · refine V_topi e12 ?_
        exact V_tabIn 844 d_Lw_law_50 (by decide) (by decide) rfl (by decide) (lw_12 hs hN hin hA h hc5 hs5 kk)
      by_cases e13 : w = 13
      · refine V_topi e13 ?_
        exact V_tabIn 869 d_Lw_law_50 (by decide) (by decide) rfl (by decide) (lw_13 hs hN hin hA h hc5 hs5 kk)
      by_cases e14 : w = 14
      · refine V_topi e14 ?_
        exact V_tabIn 894 d_Lw_law_50 (by decide) (by decide) rfl (by decide) (lw_14 hs hN hin hA h hc5 hs5 kk)
      by_cases e15 : w = 15
      · refine V_topi e15 ?_
        exact V_tabIn 907 d_Lw_law_50 (by decide) (by decide) rfl (by decide) (lw_15 hs hN hin hA h hc5 hs5 kk)
      by_cases e16 : w = 16
      · refine V_topi e16 ?_
        exact V_tabIn 932 d_Lw_law_50 (by decide) (by decide) rfl (by decide) (lw_16 hs hN hin hA h hc5 hs5 kk)
      by_cases e17 : w = 17
      · refine V_topi e17 ?_
        exact V_tabIn 945 d_Lw_law_50 (by decide) (by decide) rfl (by decide) (lw_17 hs hN hin hA h hc5 hs5 kk)
      have hw : w.toInt < 0 ∨ 17 < w.toInt := by
        have m0 : ¬ w.toInt = 0 := fun q => e0 (i32_eqI (by decide) q)
        have m1 : ¬ w.toInt = 1 := fun q => e1 (i32_eqI (by decide) q)
        have m2 : ¬ w.toInt = 2 := fun q => e2 (i32_eqI (by decide) q)
        have m3 : ¬ w.toInt = 3 := fun q => e3 (i32_eqI (by decide) q)
        have m4 : ¬ w.toInt = 4 := fun q => e4 (i32_eqI (by decide) q)
        have m5 : ¬ w.toInt = 5 := fun q => e5 (i32_eqI (by decide) q)
        have m6 : ¬ w.toInt = 6 := fun q => e6 (i32_eqI (by decide) q)
        have m7 : ¬ w.toInt = 7 := fun q => e7 (i32_eqI (by decide) q)
        have m8 : ¬ w.toInt = 8 := fun q => e8 (i32_eqI (by decide) q)
        have m9 : ¬ w.toInt = 9 := fun q => e9 (i32_eqI (by decide) q)
        have m10 : ¬ w.toInt = 10 := fun q => e10 (i32_eqI (by decide) q)
        have m11 : ¬ w.toInt = 11 := fun q => e11 (i32_eqI (by decide) q)
        have m12 : ¬ w.toInt = 12 := fun q => e12 (i32_eqI (by decide) q)
        have m13 : ¬ w.toInt = 13 := fun q => e13 (i32_eqI (by decide) q)
        have m14 : ¬ w.toInt = 14 := fun q => e14 (i32_eqI (by decide) q)
        have m15 : ¬ w.toInt = 15 := fun q => e15 (i32_eqI (by decide) q)
        have m16 : ¬ w.toInt = 16 := fun q => e16 (i32_eqI (by decide) q)
        have m17 : ¬ w.toInt = 17 := fun q => e17 (i32_eqI (by decide) q)
        omega
      exact V_tabOut 958 d_Lw_law_50 hw (by decide) (V_pad (by omega) (by omega) (kk L M c K o5 o6 hA h))
end gLoop

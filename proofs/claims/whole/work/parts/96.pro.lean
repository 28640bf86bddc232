/-! the law begins -/
theorem ac_lng : Cond.arrayClass .long ∈ TB := exTb (by decide +kernel)
theorem gaFs : ∀ j, j < 10 → ∀ r, defaultValue (t_Ga j) = vp_V (gF r (fun _ => 0) [none, some .null, some .null, some .null, some .null, some .null, some .null, some .null, some .null, some .null]) j := by
  intro j hj r
  rcases (show j = 0 ∨ j = 1 ∨ j = 2 ∨ j = 3 ∨ j = 4 ∨ j = 5 ∨ j = 6 ∨ j = 7 ∨ j = 8 ∨ j = 9 by omega) with h | h | h | h | h | h | h | h | h | h <;> subst h <;> rfl
theorem gF_null (r : Nat → Nat) (fs : List (Option Value)) (h : ∀ o ∈ fs, o = none ∨ o = some .null) : gF r (fun _ => 0) fs = fs.map (fun o => o.getD (.int 0)) := by
  apply List.ext_getElem?
  intro k
  rw [gF_at, List.getElem?_map]
  cases hk : fs[k]? with
  | none => rfl
  | some o =>
    rcases h o (List.mem_of_getElem? hk) with e | e <;> (subst e; rfl)
theorem moFs : ∀ j, j < 38 → ∀ r, defaultValue (t_Mo j) = vp_V (gF r (fun _ => 0) fsE0) j := by
  intro j hj r
  rw [gF_null r fsE0 (by decide +kernel)]
  exact (by decide +kernel : ∀ j, j < 38 → defaultValue (t_Mo j) = vp_V (fsE0.map (fun o => o.getD (.int 0))) j) j hj
theorem gaP_n1 {L L' : gLy} {M M' : gMe} {s : Int32} {v : Option Value} (h : gaP L M s v L' M') (hno : ∀ a, a < 2 ∨ (26 ≤ a ∧ a < 100) ∨ 140 ≤ a → L a = none) : v ≠ some (.ref 1) ∧ gN1 L' := by
  obtain ⟨rfl, hC, h5, hq, -⟩ := h
  refine ⟨(fun e => by cases e), fun a k ha hr => ?_⟩
  by_cases hb : a < 2 ∨ (26 ≤ a ∧ a < 100) ∨ 140 ≤ a
  · rw [(hq a hb).1, hno a hb] at ha; cases ha
  · by_cases h1 : 100 ≤ a
    · have h9 := lCF hC (k := a - 100) (by omega)
      unfold gLF at h9
      rw [show 100 + (a - 100) = a by omega, ha] at h9
      cases h9
      simp [gRf] at hr
    · have hcase : a = 2 ∨ a = 3 ∨ a = 4 ∨ a = 5 ∨ a = 6 ∨ a = 7 ∨ a = 8 ∨ a = 9 ∨ a = 10 ∨ a = 11 ∨ a = 12 ∨ a = 13 ∨ a = 14 ∨ a = 15 ∨ a = 16 ∨ a = 17 ∨ a = 18 ∨ a = 19 ∨ a = 20 ∨ a = 21 ∨ a = 22 ∨ a = 23 ∨ a = 24 ∨ a = 25 := by omega
      rcases hcase with rfl | rfl | rfl | rfl | rfl | rfl | rfl | rfl | rfl | rfl | rfl | rfl | rfl | rfl | rfl | rfl | rfl | rfl | rfl | rfl | rfl | rfl | rfl | rfl
      · have h9 := lC2 hC
        rw [ha] at h9
        cases h9
        simp [gRf] at hr
      · have h9 := lC3 hC
        rw [ha] at h9
        cases h9
        exact hr
      · have h9 := lC4 hC
        rw [ha] at h9
        cases h9
        simp [gRf] at hr
      · have h9 := h5
        rw [ha] at h9
        cases h9
        simp [gRf] at hr
      · have h9 := (lC6 hC).1
        rw [ha] at h9
        cases h9
        simp [gRf] at hr
      · have h9 := (lC6 hC).2.1
        rw [ha] at h9
        cases h9
        exact hr
      · have h9 := (lC6 hC).2.2.1
        rw [ha] at h9
        cases h9
        exact hr
      · have h9 := (lC6 hC).2.2.2
        rw [ha] at h9
        cases h9
        exact hr
      · have h9 := lC10 hC
        rw [ha] at h9
        cases h9
        simp [gRf] at hr
      · have h9 := (lC11 hC).1
        rw [ha] at h9
        cases h9
        simp [gRf] at hr
      · have h9 := (lC11 hC).2.1
        rw [ha] at h9
        cases h9
        exact hr
      · have h9 := (lC11 hC).2.2.1
        rw [ha] at h9
        cases h9
        exact hr
      · have h9 := (lC11 hC).2.2.2
        rw [ha] at h9
        cases h9
        exact hr
      · have h9 := lC15 hC
        rw [ha] at h9
        cases h9
        exact hr
      · have h9 := lC16 hC
        rw [ha] at h9
        cases h9
        exact hr
      · have h9 := lC17 hC
        rw [ha] at h9
        cases h9
        exact hr
      · have h9 := lC18 hC
        rw [ha] at h9
        cases h9
        exact hr
      · have h9 := lC19 hC
        rw [ha] at h9
        cases h9
        exact hr
      · have h9 := lC20 hC
        rw [ha] at h9
        cases h9
        simp [gRf] at hr
      · have h9 := lC21 hC
        rw [ha] at h9
        cases h9
        obtain ⟨j, hj⟩ := hr
        have hj : (if j < 40 then some (100 + j) else none) = some 1 := hj
        split at hj
        · have := Option.some.inj hj; omega
        · cases hj
      · have h9 := lC22 hC
        rw [ha] at h9
        cases h9
        simp [gRf] at hr
      · have h9 := lC23 hC
        rw [ha] at h9
        cases h9
        simp [gRf] at hr
      · have h9 := lC24 hC
        rw [ha] at h9
        cases h9
        exact hr
      · have h9 := lC25 hC
        rw [ha] at h9
        cases h9
        exact hr
set_option maxRecDepth 100000 in
set_option maxHeartbeats 4000000 in
theorem lw_pro {l : Launch} {G0 : gG} {z N : Nat} {f : Nat → Int32} (hal : gAL G0) (hx : gEx l G0) (hao : gHe G0 (fun U => va_AO "ProofGate$Fact" U)) (hs : gSc (gG1 G0 z) N f) (hN : N ≤ 4609) : V l (gG1 G0 z) x code 7 ret room_1 601024 7292999 (fun _ => False) lwP (fun _ => none) (fun _ _ => 0) 0 0 [some (.ref 1), none, none, none, none, none, none] 0 [] := by
  obtain ⟨s0, es0⟩ : ∃ s0, s0 = (if 0 < N then f 0 else 0) := ⟨_, rfl⟩
  refine V_new 3 2 kc_Ga cl_Lw_8 in_Ga ii_Ga gaFs rfl (by decide) (fun h => h) ⟨fun a ha => ?_, fun a ha => ?_⟩ (fun b hb => by simp at hb) (show 0 + 1 ≤ 601024 by omega) (show 0 + 10 ≤ 7292999 by omega) d_Lw_law_0 rfl ?_
  · simp at ha; subst ha; decide
  · simp at ha
  obtain ⟨L0, eL0⟩ : ∃ L0 : gLy, L0 = va_up (fun _ => none) 2 (some (.inr (9, [none, some .null, some .null, some .null, some .null, some .null, some .null, some .null, some .null, some .null]))) := ⟨_, rfl⟩
  rw [← eL0]
  have hL0n : ∀ q, q ≠ 2 → L0 q = none := fun q hq => by rw [eL0]; exact va_up_ne _ _ hq
  have hL02 : L0 2 = some (.inr (9, [none, some .null, some .null, some .null, some .null, some .null, some .null, some .null, some .null, some .null])) := by rw [eL0]; exact va_up_self _ _ _
  have hn10 : gN1 L0 := fun a k ha hr => by
    by_cases e : a = 2
    · subst e; rw [hL02] at ha; cases ha; simp [gRf] at hr
    · rw [hL0n a e] at ha; cases ha
  refine V_dup 4 rfl d_Lw_law_3 rfl ?_
  refine V_al0 5 d_Lw_law_4 rfl ?_
  refine V_iconst 6 (v := nI 0) (by decide) d_Lw_law_5 rfl ?_
  refine V_cS1 9 (c_Lw_cell l (gG1 G0 z) _ _ hs (by omega) 0 (by decide)) ok_Lw_cell ml_Lw_29 st_Lw_cell (lw_rm (by decide) (by decide)) rfl rfl (Nat.le_of_ble_eq_true rfl) d_Lw_law_6 ⟨show 0 + 1 ≤ 601024 by omega, show 0 + 10 ≤ 7292999 by omega⟩ rfl ?_
  rw [← es0]
  have hM0 : (va_up (fun _ _ => 0) 2 (fun _ => 0) : gMe) = fun _ _ => 0 := by funext a; by_cases e : a = 2; subst e; rw [va_up_self]; rw [va_up_ne _ _ e]
  rw [hM0]
  have hinit := c_Ga_init l G0 L0 (fun _ _ => 0) hal.1 hao hL02 (fun q a b => hL0n q (by omega)) (fun q a b => hL0n q (by omega)) s0
  have hsw := gMet.swap (z := z) hinit hn10 (fun v hv e9 => by subst e9; simp at hv) (fun v L' M' hpo => gaP_n1 hpo (fun a ha => hL0n a (by omega)))
  refine V_callI 12 (as := [.int s0]) (st := [.ref 2]) hsw ok_Ga_init ml_Lw_35 im_Ga_init rfl (lw_rm (by decide) (by decide)) rfl rfl (Nat.le_of_ble_eq_true rfl) d_Lw_law_9 ⟨show 0 + 1 + 63 ≤ 601024 by omega, show 0 + 10 + 4343 ≤ 7292999 by omega⟩ (fun a ha => ha.elim) ⟨fun a ha => ?_, fun a ha => ?_⟩ rfl ?_
  · simp at ha; subst ha; show (1 : Nat) < 3; decide
  · simp at ha; subst ha; show (2 : Nat) < 3; decide
  intro v9 L1 M1 hpo
  have hN1 := (gaP_n1 hpo (fun a ha => hL0n a (by omega))).2
  obtain ⟨rfl, hC, h5, hq, m2, m3, m4, m5, m6, m22, m23, m24, m25⟩ := hpo
  refine V_as1 13 d_Lw_law_12 (by decide) rfl ?_
  refine V_new 16 400 kc_Mo cl_Lw_38 in_Mo ii_Mo moFs ((hq 400 (by decide)).1.trans (hL0n 400 (by decide))) (by decide) (fun h => h) ⟨fun a ha => ?_, fun a ha => ?_⟩ (fun b hb => by simp [fsE0] at hb) (show 0 + 1 + 63 + 1 ≤ 601024 by omega) (show 0 + 10 + 4343 + 38 ≤ 7292999 by omega) d_Lw_law_13 rfl ?_
  · simp at ha; rcases ha with h | h <;> (subst h; decide)
  · simp at ha
  obtain ⟨L2, eL2⟩ : ∃ L2, L2 = va_up L1 400 (some (.inr (10, fsE0))) := ⟨_, rfl⟩
  obtain ⟨M2, eM2⟩ : ∃ M2, M2 = va_up M1 400 (fun _ => 0) := ⟨_, rfl⟩
  rw [← eL2, ← eM2]
  have hL2 : ∀ q, q ≠ 400 → L2 q = L1 q := fun q h => by rw [eL2]; exact va_up_ne _ _ h
  have hM2 : ∀ q, q ≠ 400 → M2 q = M1 q := fun q h => by rw [eM2]; exact va_up_ne _ _ h
  refine V_dup 17 rfl d_Lw_law_16 rfl ?_
  refine V_al0 18 d_Lw_law_17 rfl ?_
  refine V_iconst 19 (v := nI 0) (by decide) d_Lw_law_18 rfl ?_
  refine V_cS1 22 (c_Lw_cell l (gG1 G0 z) _ _ hs (by omega) 0 (by decide)) ok_Lw_cell ml_Lw_29 st_Lw_cell (lw_rm (by decide) (by decide)) rfl rfl (Nat.le_of_ble_eq_true rfl) d_Lw_law_19 ⟨show 0 + 1 + 63 + 1 ≤ 601024 by omega, show 0 + 10 + 4343 + 38 ≤ 7292999 by omega⟩ rfl ?_
  rw [← es0]
  refine V_callI 25 (as := [.int s0]) (st := [.ref 400]) (c_Mo_init2 l (gG1 G0 z) L2 M2 (by rw [eL2]; exact va_up_self _ _ _) (fun q a b => by rw [hL2 q (by omega), (hq q (by omega)).1]; exact hL0n q (by omega)) s0) ok_Mo_init ml_Lw_40 im_Mo_init rfl (lw_rm (by decide) (by decide)) rfl rfl (Nat.le_of_ble_eq_true rfl) d_Lw_law_22 ⟨show 0 + 1 + 63 + 1 + 26 ≤ 601024 by omega, show 0 + 10 + 4343 + 38 + 7347 ≤ 7292999 by omega⟩ (fun a ha => ha.elim) ⟨fun a ha => ?_, fun a ha => ?_⟩ rfl ?_
  · simp at ha; rcases ha with h | h <;> (subst h; show (_ : Nat) < 401; decide)
  · simp at ha; subst ha; show (400 : Nat) < 401; decide
  intro v8 L3 M3 hpo
  obtain ⟨rfl, hLM, hLq, hMq, hMz, hM4⟩ := hpo
  refine V_as2 26 d_Lw_law_25 (by decide) rfl ?_
  refine V_iconst 27 (v := nI 1) (by decide) d_Lw_law_26 rfl ?_
  refine V_newa 29 450 2 (atype := .long) (ty := .long) (N := 1) (f := some none) rfl rfl (fun C h => by cases h) ac_lng (fun r => ⟨_, rfl, rfl⟩) (fun b h => h) (by decide) (by decide) (by decide) (by rw [hLq 450 (by decide), hL2 450 (by decide), (hq 450 (by decide)).1]; exact hL0n 450 (by decide)) (by decide) (fun h => h) ⟨fun a ha => ?_, fun a ha => ?_⟩ (show 0 + 1 + 63 + 1 + 26 + 1 ≤ 601024 by omega) (show 0 + 10 + 4343 + 38 + 7347 + 1 ≤ 7292999 by omega) d_Lw_law_27 rfl ?_
  · simp at ha; rcases ha with h | h | h <;> (subst h; decide)
  · simp at ha
  obtain ⟨L4, eL4⟩ : ∃ L4, L4 = va_up L3 450 (some (.inl (2, 1, some none))) := ⟨_, rfl⟩
  obtain ⟨M4, eM4⟩ : ∃ M4, M4 = va_up M3 450 (fun _ => 0) := ⟨_, rfl⟩
  rw [← eL4, ← eM4]
  have hL4 : ∀ q, q ≠ 450 → L4 q = L3 q := fun q h => by rw [eL4]; exact va_up_ne _ _ h
  have hM4' : ∀ q, q ≠ 450 → M4 q = M3 q := fun q h => by rw [eM4]; exact va_up_ne _ _ h
  have hLl : ∀ q, q < 400 → L4 q = L1 q := fun q h => by rw [hL4 q (by omega), hLq q (by omega), hL2 q (by omega)]
  have hMl : ∀ q, q < 400 → M4 q = M1 q := fun q h => by rw [hM4' q (by omega), hMq q (by omega), hM2 q (by omega)]
  have hMh : ∀ q, 401 ≤ q → q < 427 → M4 q = fun _ => 0 := fun q a b => by rw [hM4' q (by omega)]; exact hMz q a b
  have h400 : M4 400 = upd (fun _ => 0) 0 s0 := by rw [hM4' 400 (by decide), hM4, eM2, va_up_self]
  refine V_as3 30 d_Lw_law_29 (by decide) rfl ?_
  refine V_iconst 31 (v := nI 1) (by decide) d_Lw_law_30 rfl ?_
  refine V_is4 33 d_Lw_law_31 (by decide) rfl ?_
  have hlay : gLay L4 0 := by
    refine ⟨⟨gLC_eq hC (fun x a b _ _ => hLl x (by omega)), ⟨(hLl 5 (by decide)).trans h5, fun h => absurd h (by omega), fun n a b => absurd a (by omega)⟩, fun q a b _ => ?_, fun q a b => ?_, ?_⟩, ⟨(hL4 400 (by decide)).trans hLM.1, fun a x y => (hL4 a (by omega)).trans (hLM.2 a x y)⟩, by rw [eL4]; exact va_up_self _ _ _⟩
    · rw [hLl q (by omega), (hq q (by omega)).1]; exact hL0n q (by omega)
    · have : cP (0 + 1) = 202 := rfl
      rw [hLl q (by omega), (hq q (by omega)).1]; exact hL0n q (by omega)
    · intro a k ha hr
      by_cases e1 : a < 400
      · rw [hLl a e1] at ha; exact hN1 a k ha hr
      · by_cases e2 : a = 450
        · subst e2; rw [eL4, va_up_self] at ha; cases ha; exact hr
        · rw [hL4 a e2] at ha
          by_cases e3 : a = 400
          · subst e3; rw [hLM.1] at ha; cases ha; simp [gRf, fsM] at hr
          · by_cases e4 : a < 427
            · rw [hLM.2 a (by omega) e4] at ha; cases ha; exact hr
            · rw [hLq a (by omega), hL2 a e3, (hq a (by omega)).1, hL0n a (by omega)] at ha; cases ha
  have hrel : gRl M4 M4 0 (fun _ _ => 0) := by
    have z4 : ∀ k, k ≠ 0 → M4 400 k = 0 := fun k hk => by rw [h400, upd_n _ _ hk]
    refine ⟨⟨?_, ?_⟩, Or.inl ⟨?_, z4 3 (by decide)⟩, fun o ho => ⟨Or.inl ⟨?_, ?_⟩, ?_⟩, ⟨?_, ?_⟩, ⟨⟨by omega, ?_, z4 10 (by decide)⟩, fun n a b => absurd a (by omega), fun n a b => absurd a (by omega), fun n a b => absurd a (by omega), fun n a b => ?_⟩, fun j => ?_, 0, by omega, ?_, z4 21 (by decide), fun i hi => absurd hi (by omega)⟩
    · rw [hMl 2 (by decide), m2, h400, upd_s]
    · rw [hMl 4 (by decide), m4, z4 1 (by decide)]
    · rw [hMl 23 (by decide), m23]
    · rw [hMh 401 (by decide) (by decide)]
    · rw [hMl 24 (by decide)]; exact m24 o ho
    · rw [hMl 25 (by decide), m25, hMh 403 (by decide) (by decide)]
    · rw [hMl 22 (by decide), m22, z4 8 (by decide)]
    · rw [hMl 22 (by decide), m22, z4 9 (by decide)]
    · rw [hMl 5 (by decide)]; exact m5
    · rw [hMh 412 (by decide) (by decide)]
    · rw [hMl 3 (by decide), m3, hMh 413 (by decide) (by decide)]
    · rw [hMl 6 (by decide)]; exact m6
  exact lw_loop ⟨G0, z, rfl, hal, hx⟩ hs hN 513 1 _ _ L4 M4 0 _ none none (by decide) (by omega) (by decide) (by decide) hlay hrel

/-! the gate is made -/
def gaP (L : gLy) (M : gMe) (s : Int32) : Option Value → gLy → gMe → Prop := fun v L' M' => v = none ∧ gLC L' ∧ L' 5 = some (.inr (0, [some (.ref 0), none, none])) ∧ (∀ q, q < 2 ∨ (26 ≤ q ∧ q < 100) ∨ 140 ≤ q → L' q = L q ∧ M' q = M q) ∧ M' 2 0 = s ∧ M' 3 = (fun _ => 0) ∧ M' 4 1 = 0 ∧ M' 5 1 = 0 ∧ M' 6 3 = 0 ∧ M' 22 = (fun _ => 0) ∧ M' 23 0 = -1 ∧ (∀ k, k < 6 → M' 24 k = -1) ∧ M' 25 = (fun _ => 0)
set_option maxRecDepth 100000 in
set_option maxHeartbeats 8000000 in
theorem c_Ga_init (l : Launch) (G : gG) (L : gLy) (M : gMe) (hs : gSt G) (hao : gHe G (fun U => va_AO "ProofGate$Fact" U)) (hL : L 2 = some (.inr (9, [none, some .null, some .null, some .null, some .null, some .null, some .null, some .null, some .null, some .null]))) (hno : ∀ q, 3 ≤ q → q < 26 → L q = none) (h100 : ∀ p, 100 ≤ p → p < 140 → L p = none) (s : Int32) : gMet l G y_Ga_init b_Ga_init 2 none (rmL 6 63 4343) [.ref 2, .int s] L M (fun x => x < 3) (gaP L M s) 63 4343 := by
  have n3 : L 3 = none := hno 3 (by decide) (by decide)
  have n4 : L 4 = none := hno 4 (by decide) (by decide)
  have n5 : L 5 = none := hno 5 (by decide) (by decide)
  have n6 : L 6 = none := hno 6 (by decide) (by decide)
  have n7 : L 7 = none := hno 7 (by decide) (by decide)
  have n8 : L 8 = none := hno 8 (by decide) (by decide)
  have n9 : L 9 = none := hno 9 (by decide) (by decide)
  have n10 : L 10 = none := hno 10 (by decide) (by decide)
  have n11 : L 11 = none := hno 11 (by decide) (by decide)
  have n12 : L 12 = none := hno 12 (by decide) (by decide)
  have n13 : L 13 = none := hno 13 (by decide) (by decide)
  have n14 : L 14 = none := hno 14 (by decide) (by decide)
  have n15 : L 15 = none := hno 15 (by decide) (by decide)
  have n16 : L 16 = none := hno 16 (by decide) (by decide)
  have n17 : L 17 = none := hno 17 (by decide) (by decide)
  have n18 : L 18 = none := hno 18 (by decide) (by decide)
  have n19 : L 19 = none := hno 19 (by decide) (by decide)
  have n20 : L 20 = none := hno 20 (by decide) (by decide)
  have n21 : L 21 = none := hno 21 (by decide) (by decide)
  have n22 : L 22 = none := hno 22 (by decide) (by decide)
  have n23 : L 23 = none := hno 23 (by decide) (by decide)
  have n24 : L 24 = none := hno 24 (by decide) (by decide)
  have n25 : L 25 = none := hno 25 (by decide) (by decide)
  refine gMet_of (lv := [some (.ref 2), some (.int s)]) (by decide) rfl (Nat.le_of_ble_eq_true rfl) rfl ?_
  refine V_al0 1 d_Ga_init_0 rfl ?_
  refine V_objInit 4 mo_Ga_1 oi_im oi_co (Nat.le_of_ble_eq_true rfl) (Nat.le_of_ble_eq_true rfl) d_Ga_init_1 rfl ?_
  refine V_al0 5 d_Ga_init_4 rfl ?_
  refine V_iconst 6 (v := 4) (by decide) d_Ga_init_5 rfl ?_
  refine V_newi 8 3 4 rfl (by decide) (by simp [va_up, pfLy, csLy, hL, n3, n4, n5, n6, n7, n8, n9, n10, n11, n12, n13, n14, n15, n16, n17, n18, n19, n20, n21, n22, n23, n24, n25]) (by decide) (by decide) ⟨fun x hx => ?_, fun x hx => ?_⟩ (Nat.le_of_ble_eq_true rfl) (Nat.le_of_ble_eq_true rfl) d_Ga_init_6 rfl ?_
  · simp at hx; exact fun h10 => (by have h91 : @Eq Nat x 3 := h10; have h92 : @Eq Nat x 2 := hx; omega)
  · simp at hx; exact fun h10 => (by have h91 : @Eq Nat x 3 := h10; have h92 : @Eq Nat x 2 := hx; omega)
  refine V_putrF 11 1 (fs := [none, some .null, some .null, some .null, some .null, some .null, some .null, some .null, some .null, some .null]) (by simp [va_up, pfLy, csLy, hL, n3, n4, n5, n6, n7, n8, n9, n10, n11, n12, n13, n14, n15, n16, n17, n18, n19, n20, n21, n22, n23, n24, n25]) kc_Ga (by decide) ff_Ga_9 rfl rfl rfl (fun r => rfl) (fun r => rfl) (Nat.le_of_ble_eq_true rfl) (fun c hc => Or.inr (by cases hc; simp [va_up, pfLy, csLy])) d_Ga_init_8 rfl ?_
  refine V_al0 12 d_Ga_init_11 rfl ?_
  refine V_new 15 4 (fs := [some .null, none]) kc_Cs cl_Ga_15 in_Cs ii_Cs (fun j hj r => by rcases (show j = 0 ∨ j = 1 by omega) with h | h <;> subst h <;> rfl) (by simp [va_up, pfLy, csLy, hL, n3, n4, n5, n6, n7, n8, n9, n10, n11, n12, n13, n14, n15, n16, n17, n18, n19, n20, n21, n22, n23, n24, n25]) (by decide) (by decide) ⟨fun x hx => ?_, fun x hx => ?_⟩ (fun b hb => by simp at hb) (Nat.le_of_ble_eq_true rfl) (Nat.le_of_ble_eq_true rfl) d_Ga_init_12 rfl ?_
  · simp at hx; exact fun h10 => (by have h91 : @Eq Nat x 4 := h10; have h92 : @Eq Nat x 2 := hx; omega)
  · simp at hx; exact fun h10 => (by have h91 : @Eq Nat x 4 := h10; have h92 : @Eq Nat x 2 := hx; omega)
  refine V_dup 16 rfl d_Ga_init_15 rfl ?_
  refine V_callI 19 (as := []) (c_Cs_init l G _ _ hs 4 5 (by decide) (by simp [va_up, pfLy, csLy, hL, n3, n4, n5, n6, n7, n8, n9, n10, n11, n12, n13, n14, n15, n16, n17, n18, n19, n20, n21, n22, n23, n24, n25]) (by simp [va_up, pfLy, csLy, hL, n3, n4, n5, n6, n7, n8, n9, n10, n11, n12, n13, n14, n15, n16, n17, n18, n19, n20, n21, n22, n23, n24, n25])) ok_Cs_init ml_Ga_17 im_Cs_init rfl (gRm_ok (by decide) (by decide)) rfl rfl (Nat.le_of_ble_eq_true rfl) d_Ga_init_16 ⟨(Nat.le_of_ble_eq_true rfl), (Nat.le_of_ble_eq_true rfl)⟩ (fun x hx => by have h9 : x < 3 := hx; exact (show @Ne Nat x 5 by omega)) ⟨fun x hx => ?_, fun x hx => ?_⟩ rfl ?_
  · simp at hx; have h92 : @Eq Nat x 2 := hx; exact (show @Ne Nat x 5 by omega)
  · simp at hx; rcases hx with h9 | h9
    · have h92 : @Eq Nat x 4 := h9; exact (show @Ne Nat x 5 by omega)
    · have h92 : @Eq Nat x 2 := h9; exact (show @Ne Nat x 5 by omega)
  intro v9 L9 M9 hpo
  obtain ⟨rfl, rfl, rfl⟩ := hpo
  refine V_putrF 22 2 (fs := [none, some (.ref 3), some .null, some .null, some .null, some .null, some .null, some .null, some .null, some .null]) (by simp [va_up, pfLy, csLy, hL, n3, n4, n5, n6, n7, n8, n9, n10, n11, n12, n13, n14, n15, n16, n17, n18, n19, n20, n21, n22, n23, n24, n25]) kc_Ga (by decide) ff_Ga_18 rfl rfl rfl (fun r => rfl) (fun r => rfl) (Nat.le_of_ble_eq_true rfl) (fun c hc => Or.inr (by cases hc; simp [va_up, pfLy, csLy])) d_Ga_init_19 rfl ?_
  refine V_al0 23 d_Ga_init_22 rfl ?_
  refine V_new 26 6 (fs := [some .null, some .null, some .null, none]) kc_Pf cl_Ga_22 in_Pf ii_Pf pfFs (by simp [va_up, pfLy, csLy, hL, n3, n4, n5, n6, n7, n8, n9, n10, n11, n12, n13, n14, n15, n16, n17, n18, n19, n20, n21, n22, n23, n24, n25]) (by decide) (by decide) ⟨fun x hx => ?_, fun x hx => ?_⟩ (fun b hb => by simp at hb) (Nat.le_of_ble_eq_true rfl) (Nat.le_of_ble_eq_true rfl) d_Ga_init_23 rfl ?_
  · simp at hx; exact fun h10 => (by have h91 : @Eq Nat x 6 := h10; have h92 : @Eq Nat x 2 := hx; omega)
  · simp at hx; exact fun h10 => (by have h91 : @Eq Nat x 6 := h10; have h92 : @Eq Nat x 2 := hx; omega)
  refine V_dup 27 rfl d_Ga_init_26 rfl ?_
  refine V_callI 30 (as := []) (c_Pf_init l G _ _ 6 (by decide) (by simp [va_up, pfLy, csLy, hL, n3, n4, n5, n6, n7, n8, n9, n10, n11, n12, n13, n14, n15, n16, n17, n18, n19, n20, n21, n22, n23, n24, n25]) (by simp [va_up, pfLy, csLy, hL, n3, n4, n5, n6, n7, n8, n9, n10, n11, n12, n13, n14, n15, n16, n17, n18, n19, n20, n21, n22, n23, n24, n25]) (by simp [va_up, pfLy, csLy, hL, n3, n4, n5, n6, n7, n8, n9, n10, n11, n12, n13, n14, n15, n16, n17, n18, n19, n20, n21, n22, n23, n24, n25]) (by simp [va_up, pfLy, csLy, hL, n3, n4, n5, n6, n7, n8, n9, n10, n11, n12, n13, n14, n15, n16, n17, n18, n19, n20, n21, n22, n23, n24, n25])) ok_Pf_init ml_Ga_24 im_Pf_init rfl (gRm_ok (by decide) (by decide)) rfl rfl (Nat.le_of_ble_eq_true rfl) d_Ga_init_27 ⟨(Nat.le_of_ble_eq_true rfl), (Nat.le_of_ble_eq_true rfl)⟩ (fun x hx => by have h9 : x < 3 := hx; exact ⟨by omega, by omega, by omega⟩) ⟨fun x hx => ?_, fun x hx => ?_⟩ rfl ?_
  · simp at hx; have h92 : @Eq Nat x 2 := hx; exact ⟨by omega, by omega, by omega⟩
  · simp at hx; rcases hx with h9 | h9
    · have h92 : @Eq Nat x 6 := h9; exact ⟨by omega, by omega, by omega⟩
    · have h92 : @Eq Nat x 2 := h9; exact ⟨by omega, by omega, by omega⟩
  intro v9 L9 M9 hpo
  obtain ⟨rfl, rfl, rfl⟩ := hpo
  refine V_putrF 33 3 (fs := [none, some (.ref 3), some (.ref 4), some .null, some .null, some .null, some .null, some .null, some .null, some .null]) (by simp [va_up, pfLy, csLy, hL, n3, n4, n5, n6, n7, n8, n9, n10, n11, n12, n13, n14, n15, n16, n17, n18, n19, n20, n21, n22, n23, n24, n25]) kc_Ga (by decide) ff_Ga_25 rfl rfl rfl (fun r => rfl) (fun r => rfl) (Nat.le_of_ble_eq_true rfl) (fun c hc => Or.inr (by cases hc; simp [va_up, pfLy, csLy])) d_Ga_init_30 rfl ?_
  refine V_al0 34 d_Ga_init_33 rfl ?_
  refine V_new 37 10 (fs := [some .null, some .null, some .null, some .null, some .null, some .null, some .null, none, none]) kc_Pv cl_Ga_29 in_Pv ii_Pv (fun j hj r => by rcases (show j = 0 ∨ j = 1 ∨ j = 2 ∨ j = 3 ∨ j = 4 ∨ j = 5 ∨ j = 6 ∨ j = 7 ∨ j = 8 by omega) with h | h | h | h | h | h | h | h | h <;> subst h <;> rfl) (by simp [va_up, pfLy, csLy, hL, n3, n4, n5, n6, n7, n8, n9, n10, n11, n12, n13, n14, n15, n16, n17, n18, n19, n20, n21, n22, n23, n24, n25]) (by decide) (by decide) ⟨fun x hx => ?_, fun x hx => ?_⟩ (fun b hb => by simp at hb) (Nat.le_of_ble_eq_true rfl) (Nat.le_of_ble_eq_true rfl) d_Ga_init_34 rfl ?_
  · simp at hx; exact fun h10 => (by have h91 : @Eq Nat x 10 := h10; have h92 : @Eq Nat x 2 := hx; omega)
  · simp at hx; exact fun h10 => (by have h91 : @Eq Nat x 10 := h10; have h92 : @Eq Nat x 2 := hx; omega)
  refine V_dup 38 rfl d_Ga_init_37 rfl ?_
  refine V_al0 39 d_Ga_init_38 rfl ?_
  refine V_getr 42 2 (fs := [none, some (.ref 3), some (.ref 4), some (.ref 6), some .null, some .null, some .null, some .null, some .null, some .null]) (by simp [va_up, pfLy, csLy, hL, n3, n4, n5, n6, n7, n8, n9, n10, n11, n12, n13, n14, n15, n16, n17, n18, n19, n20, n21, n22, n23, n24, n25]) kc_Ga (by decide) fl_Ga_18 (Or.inl rfl) rfl d_Ga_init_39 rfl ?_
  refine V_callI 45 (as := [.ref 4]) (c_Pv_init l G _ _ 4 (by decide) (Or.inr (by simp [va_up, pfLy, csLy])) (by simp [va_up, pfLy, csLy, hL, n3, n4, n5, n6, n7, n8, n9, n10, n11, n12, n13, n14, n15, n16, n17, n18, n19, n20, n21, n22, n23, n24, n25]) (by simp [va_up, pfLy, csLy, hL, n3, n4, n5, n6, n7, n8, n9, n10, n11, n12, n13, n14, n15, n16, n17, n18, n19, n20, n21, n22, n23, n24, n25]) (by simp [va_up, pfLy, csLy, hL, n3, n4, n5, n6, n7, n8, n9, n10, n11, n12, n13, n14, n15, n16, n17, n18, n19, n20, n21, n22, n23, n24, n25]) (by simp [va_up, pfLy, csLy, hL, n3, n4, n5, n6, n7, n8, n9, n10, n11, n12, n13, n14, n15, n16, n17, n18, n19, n20, n21, n22, n23, n24, n25]) (by simp [va_up, pfLy, csLy, hL, n3, n4, n5, n6, n7, n8, n9, n10, n11, n12, n13, n14, n15, n16, n17, n18, n19, n20, n21, n22, n23, n24, n25]) (by simp [va_up, pfLy, csLy, hL, n3, n4, n5, n6, n7, n8, n9, n10, n11, n12, n13, n14, n15, n16, n17, n18, n19, n20, n21, n22, n23, n24, n25]) (by simp [va_up, pfLy, csLy, hL, n3, n4, n5, n6, n7, n8, n9, n10, n11, n12, n13, n14, n15, n16, n17, n18, n19, n20, n21, n22, n23, n24, n25]) (by simp [va_up, pfLy, csLy, hL, n3, n4, n5, n6, n7, n8, n9, n10, n11, n12, n13, n14, n15, n16, n17, n18, n19, n20, n21, n22, n23, n24, n25]) (by simp [va_up, pfLy, csLy, hL, n3, n4, n5, n6, n7, n8, n9, n10, n11, n12, n13, n14, n15, n16, n17, n18, n19, n20, n21, n22, n23, n24, n25]) (by simp [va_up, pfLy, csLy, hL, n3, n4, n5, n6, n7, n8, n9, n10, n11, n12, n13, n14, n15, n16, n17, n18, n19, n20, n21, n22, n23, n24, n25])) ok_Pv_init ml_Ga_31 im_Pv_init rfl (gRm_ok (by decide) (by decide)) rfl rfl (Nat.le_of_ble_eq_true rfl) d_Ga_init_42 ⟨(Nat.le_of_ble_eq_true rfl), (Nat.le_of_ble_eq_true rfl)⟩ (fun x hx => by have h9 : x < 3 := hx; exact (show @LT.lt Nat _ x 11 by omega)) ⟨fun x hx => ?_, fun x hx => ?_⟩ rfl ?_
  · simp at hx; have h92 : @Eq Nat x 2 := hx; exact (show @LT.lt Nat _ x 11 by omega)
  · simp at hx; rcases hx with h9 | h9
    · have h92 : @Eq Nat x 10 := h9; exact (show @LT.lt Nat _ x 11 by omega)
    · have h92 : @Eq Nat x 2 := h9; exact (show @LT.lt Nat _ x 11 by omega)
  intro v9 L9 M9 hpo
  obtain ⟨rfl, p10, p11, p15, pL, pM, pZ⟩ := hpo
  have k2 : L9 2 = some (.inr (9, [none, some (.ref 3), some (.ref 4), some (.ref 6), some .null, some .null, some .null, some .null, some .null, some .null])) := by rw [pL 2 (by decide)]; simp [va_up, pfLy, csLy]
  have k3 : L9 3 = some (.inl (0, 4, none)) := by rw [pL 3 (by decide)]; simp [va_up, pfLy, csLy]
  have k4 : L9 4 = some (.inr (4, [some (.ref 5), none])) := by rw [pL 4 (by decide)]; simp [va_up, pfLy, csLy]
  have k5 : L9 5 = some (.inr (0, [some (.ref 0), none, none])) := by rw [pL 5 (by decide)]; simp [va_up, pfLy, csLy]
  have k6 : L9 6 = some (.inr (7, [some (.ref 7), some (.ref 8), some (.ref 9), none])) := by rw [pL 6 (by decide)]; simp [va_up, pfLy, csLy]
  have k7 : L9 7 = some (.inl (0, 40, none)) := by rw [pL 7 (by decide)]; simp [va_up, pfLy, csLy]
  have k8 : L9 8 = some (.inl (0, 40, none)) := by rw [pL 8 (by decide)]; simp [va_up, pfLy, csLy]
  have k9 : L9 9 = some (.inl (0, 40, none)) := by rw [pL 9 (by decide)]; simp [va_up, pfLy, csLy]
  have k20 : L9 20 = none := by rw [pL 20 (by decide)]; simp [va_up, pfLy, csLy, hL, n3, n4, n5, n6, n7, n8, n9, n10, n11, n12, n13, n14, n15, n16, n17, n18, n19, n20, n21, n22, n23, n24, n25]
  have k21 : L9 21 = none := by rw [pL 21 (by decide)]; simp [va_up, pfLy, csLy, hL, n3, n4, n5, n6, n7, n8, n9, n10, n11, n12, n13, n14, n15, n16, n17, n18, n19, n20, n21, n22, n23, n24, n25]
  have k22 : L9 22 = none := by rw [pL 22 (by decide)]; simp [va_up, pfLy, csLy, hL, n3, n4, n5, n6, n7, n8, n9, n10, n11, n12, n13, n14, n15, n16, n17, n18, n19, n20, n21, n22, n23, n24, n25]
  have k23 : L9 23 = none := by rw [pL 23 (by decide)]; simp [va_up, pfLy, csLy, hL, n3, n4, n5, n6, n7, n8, n9, n10, n11, n12, n13, n14, n15, n16, n17, n18, n19, n20, n21, n22, n23, n24, n25]
  have k24 : L9 24 = none := by rw [pL 24 (by decide)]; simp [va_up, pfLy, csLy, hL, n3, n4, n5, n6, n7, n8, n9, n10, n11, n12, n13, n14, n15, n16, n17, n18, n19, n20, n21, n22, n23, n24, n25]
  have k25 : L9 25 = none := by rw [pL 25 (by decide)]; simp [va_up, pfLy, csLy, hL, n3, n4, n5, n6, n7, n8, n9, n10, n11, n12, n13, n14, n15, n16, n17, n18, n19, n20, n21, n22, n23, n24, n25]
  have k100 : ∀ p, 100 ≤ p → p < 140 → L9 p = none := fun p a b => by rw [pL p (by omega)]; simp [va_up, pfLy, csLy, show ¬ p = 2 by omega, show ¬ p = 3 by omega, show ¬ p = 4 by omega, show ¬ p = 5 by omega, show ¬ p = 6 by omega, show ¬ p = 7 by omega, show ¬ p = 8 by omega, show ¬ p = 9 by omega, show ¬ p = 10 by omega, show ¬ p = 11 by omega, show ¬ p = 12 by omega, show ¬ p = 13 by omega, show ¬ p = 14 by omega, show ¬ p = 15 by omega, show ¬ p = 16 by omega, show ¬ p = 17 by omega, show ¬ p = 18 by omega, show ¬ p = 19 by omega, show ¬ p = 20 by omega, show ¬ p = 21 by omega, show ¬ p = 22 by omega, show ¬ p = 23 by omega, show ¬ p = 24 by omega, show ¬ p = 25 by omega]; exact h100 p a b
  have kq : ∀ q, q < 2 ∨ (26 ≤ q ∧ q < 100) ∨ 140 ≤ q → L9 q = L q := fun p a => by rw [pL p (by omega)]; simp [va_up, pfLy, csLy, show ¬ p = 2 by omega, show ¬ p = 3 by omega, show ¬ p = 4 by omega, show ¬ p = 5 by omega, show ¬ p = 6 by omega, show ¬ p = 7 by omega, show ¬ p = 8 by omega, show ¬ p = 9 by omega, show ¬ p = 10 by omega, show ¬ p = 11 by omega, show ¬ p = 12 by omega, show ¬ p = 13 by omega, show ¬ p = 14 by omega, show ¬ p = 15 by omega, show ¬ p = 16 by omega, show ¬ p = 17 by omega, show ¬ p = 18 by omega, show ¬ p = 19 by omega, show ¬ p = 20 by omega, show ¬ p = 21 by omega, show ¬ p = 22 by omega, show ¬ p = 23 by omega, show ¬ p = 24 by omega, show ¬ p = 25 by omega]
  have mq : ∀ q, q < 2 ∨ 26 ≤ q → M9 q = M q := fun p a => by rw [pM p (by omega)]; simp [va_up, pfMy, gst, show ¬ p = 2 by omega, show ¬ p = 3 by omega, show ¬ p = 4 by omega, show ¬ p = 5 by omega, show ¬ p = 6 by omega, show ¬ p = 7 by omega, show ¬ p = 8 by omega, show ¬ p = 9 by omega, show ¬ p = 10 by omega, show ¬ p = 11 by omega, show ¬ p = 12 by omega, show ¬ p = 13 by omega, show ¬ p = 14 by omega, show ¬ p = 15 by omega, show ¬ p = 16 by omega, show ¬ p = 17 by omega, show ¬ p = 18 by omega, show ¬ p = 19 by omega, show ¬ p = 20 by omega, show ¬ p = 21 by omega, show ¬ p = 22 by omega, show ¬ p = 23 by omega, show ¬ p = 24 by omega, show ¬ p = 25 by omega]
  have m3 : M9 3 = (fun _ => 0) := by rw [pM 3 (by decide)]; simp [va_up, pfMy, gst]
  have m4 : M9 4 = (fun _ => 0) := by rw [pM 4 (by decide)]; simp [va_up, pfMy, gst]
  have m5 : M9 5 1 = 0 := by rw [pM 5 (by decide)]; simp [va_up, pfMy, gst, upd]
  have m6 : M9 6 = (fun _ => 0) := by rw [pM 6 (by decide)]; simp [va_up, pfMy, gst]
  refine V_putrF 48 4 (fs := [none, some (.ref 3), some (.ref 4), some (.ref 6), some .null, some .null, some .null, some .null, some .null, some .null]) (by simp [va_up, ckL, p10, k2, k3, k4, k5, k6, k7, k8, k9, k20, k21, k22, k23, k24, k25]) kc_Ga (by decide) ff_Ga_34 rfl rfl rfl (fun r => rfl) (fun r => rfl) (Nat.le_of_ble_eq_true rfl) (fun c hc => Or.inr (by cases hc; simp [va_up, ckL, p10, k2, k3, k4, k5, k6, k7, k8, k9, k20, k21, k22, k23, k24, k25])) d_Ga_init_45 rfl ?_
  refine V_al0 49 d_Ga_init_48 rfl ?_
  refine V_new 52 20 (fs := [some .null, some .null]) kc_Ck cl_Ga_38 in_Ck ii_Ck (fun j hj r => by rcases (show j = 0 ∨ j = 1 by omega) with h | h <;> subst h <;> rfl) (by simp [va_up, ckL, p10, k2, k3, k4, k5, k6, k7, k8, k9, k20, k21, k22, k23, k24, k25]) (by decide) (by decide) ⟨fun x hx => ?_, fun x hx => ?_⟩ (fun b hb => by simp at hb) (Nat.le_of_ble_eq_true rfl) (Nat.le_of_ble_eq_true rfl) d_Ga_init_49 rfl ?_
  · simp at hx; exact fun h10 => (by have h91 : @Eq Nat x 20 := h10; have h92 : @Eq Nat x 2 := hx; omega)
  · simp at hx; exact fun h10 => (by have h91 : @Eq Nat x 20 := h10; have h92 : @Eq Nat x 2 := hx; omega)
  refine V_dup 53 rfl d_Ga_init_52 rfl ?_
  refine V_al0 54 d_Ga_init_53 rfl ?_
  refine V_getr 57 2 (fs := [none, some (.ref 3), some (.ref 4), some (.ref 6), some (.ref 10), some .null, some .null, some .null, some .null, some .null]) (by simp [va_up, ckL, p10, k2, k3, k4, k5, k6, k7, k8, k9, k20, k21, k22, k23, k24, k25]) kc_Ga (by decide) fl_Ga_18 (Or.inl rfl) rfl d_Ga_init_54 rfl ?_
  refine V_callI 60 (as := [.ref 4]) (c_Ck_init l G _ _ hao 4 (by decide) (Or.inr (by simp [va_up, ckL, p10, k2, k3, k4, k5, k6, k7, k8, k9, k20, k21, k22, k23, k24, k25])) (by simp [va_up, ckL, p10, k2, k3, k4, k5, k6, k7, k8, k9, k20, k21, k22, k23, k24, k25]) (by simp [va_up, ckL, p10, k2, k3, k4, k5, k6, k7, k8, k9, k20, k21, k22, k23, k24, k25]) (fun p a b => by simp [va_up, show ¬ p = 20 by omega, show ¬ p = 2 by omega]; exact k100 p a b)) ok_Ck_init ml_Ga_40 im_Ck_init rfl (gRm_ok (by decide) (by decide)) rfl rfl (Nat.le_of_ble_eq_true rfl) d_Ga_init_57 ⟨(Nat.le_of_ble_eq_true rfl), (Nat.le_of_ble_eq_true rfl)⟩ (fun x hx => by have h9 : x < 3 := hx; exact ⟨by omega, by omega⟩) ⟨fun x hx => ?_, fun x hx => ?_⟩ rfl ?_
  · simp at hx; have h92 : @Eq Nat x 2 := hx; exact ⟨by omega, by omega⟩
  · simp at hx; rcases hx with h9 | h9
    · have h92 : @Eq Nat x 20 := h9; exact ⟨by omega, by omega⟩
    · have h92 : @Eq Nat x 2 := h9; exact ⟨by omega, by omega⟩
  intro v8 L8 M8 hpo
  obtain ⟨rfl, rfl, rfl⟩ := hpo
  refine V_putrF 63 5 (fs := [none, some (.ref 3), some (.ref 4), some (.ref 6), some (.ref 10), some .null, some .null, some .null, some .null, some .null]) (by simp [va_up, ckL, p10, k2, k3, k4, k5, k6, k7, k8, k9, k20, k21, k22, k23, k24, k25]) kc_Ga (by decide) ff_Ga_41 rfl rfl rfl (fun r => rfl) (fun r => rfl) (Nat.le_of_ble_eq_true rfl) (fun c hc => Or.inr (by cases hc; simp [va_up, ckL, p10, k2, k3, k4, k5, k6, k7, k8, k9, k20, k21, k22, k23, k24, k25])) d_Ga_init_60 rfl ?_
  refine V_al0 64 d_Ga_init_63 rfl ?_
  refine V_new 67 22 (fs := [none, none]) kc_Lg cl_Ga_45 in_Lg ii_Lg (fun j hj r => by rcases (show j = 0 ∨ j = 1 by omega) with h | h <;> subst h <;> rfl) (by simp [va_up, ckL, p10, k2, k3, k4, k5, k6, k7, k8, k9, k20, k21, k22, k23, k24, k25]) (by decide) (by decide) ⟨fun x hx => ?_, fun x hx => ?_⟩ (fun b hb => by simp at hb) (Nat.le_of_ble_eq_true rfl) (Nat.le_of_ble_eq_true rfl) d_Ga_init_64 rfl ?_
  · simp at hx; exact fun h10 => (by have h91 : @Eq Nat x 22 := h10; have h92 : @Eq Nat x 2 := hx; omega)
  · simp at hx; exact fun h10 => (by have h91 : @Eq Nat x 22 := h10; have h92 : @Eq Nat x 2 := hx; omega)
  refine V_dup 68 rfl d_Ga_init_67 rfl ?_
  refine V_cI0 71 (as := []) (c_Lg_init l G _ _ 22) ok_Lg_init ml_Ga_47 im_Lg_init rfl (gRm_ok (by decide) (by decide)) rfl rfl (Nat.le_of_ble_eq_true rfl) d_Ga_init_68 ⟨(Nat.le_of_ble_eq_true rfl), (Nat.le_of_ble_eq_true rfl)⟩ rfl ?_
  refine V_putrF 74 6 (fs := [none, some (.ref 3), some (.ref 4), some (.ref 6), some (.ref 10), some (.ref 20), some .null, some .null, some .null, some .null]) (by simp [va_up, ckL, p10, k2, k3, k4, k5, k6, k7, k8, k9, k20, k21, k22, k23, k24, k25]) kc_Ga (by decide) ff_Ga_48 rfl rfl rfl (fun r => rfl) (fun r => rfl) (Nat.le_of_ble_eq_true rfl) (fun c hc => Or.inr (by cases hc; simp [va_up, ckL, p10, k2, k3, k4, k5, k6, k7, k8, k9, k20, k21, k22, k23, k24, k25])) d_Ga_init_71 rfl ?_
  refine V_al0 75 d_Ga_init_74 rfl ?_
  refine V_new 78 23 (fs := [none]) kc_Fu cl_Ga_52 in_Fu ii_Fu (fun j hj r => by rcases (show j = 0 ∨ j = 0 by omega) with h | h <;> subst h <;> rfl) (by simp [va_up, ckL, p10, k2, k3, k4, k5, k6, k7, k8, k9, k20, k21, k22, k23, k24, k25]) (by decide) (by decide) ⟨fun x hx => ?_, fun x hx => ?_⟩ (fun b hb => by simp at hb) (Nat.le_of_ble_eq_true rfl) (Nat.le_of_ble_eq_true rfl) d_Ga_init_75 rfl ?_
  · simp at hx; exact fun h10 => (by have h91 : @Eq Nat x 23 := h10; have h92 : @Eq Nat x 2 := hx; omega)
  · simp at hx; exact fun h10 => (by have h91 : @Eq Nat x 23 := h10; have h92 : @Eq Nat x 2 := hx; omega)
  refine V_dup 79 rfl d_Ga_init_78 rfl ?_
  refine V_cI0 82 (as := []) (c_Fu_init l G _ _ 23 (by simp [va_up, ckL, p10, k2, k3, k4, k5, k6, k7, k8, k9, k20, k21, k22, k23, k24, k25])) ok_Fu_init ml_Ga_54 im_Fu_init rfl (gRm_ok (by decide) (by decide)) rfl rfl (Nat.le_of_ble_eq_true rfl) d_Ga_init_79 ⟨(Nat.le_of_ble_eq_true rfl), (Nat.le_of_ble_eq_true rfl)⟩ rfl ?_
  refine V_putrF 85 7 (fs := [none, some (.ref 3), some (.ref 4), some (.ref 6), some (.ref 10), some (.ref 20), some (.ref 22), some .null, some .null, some .null]) (by simp [va_up, ckL, p10, k2, k3, k4, k5, k6, k7, k8, k9, k20, k21, k22, k23, k24, k25]) kc_Ga (by decide) ff_Ga_55 rfl rfl rfl (fun r => rfl) (fun r => rfl) (Nat.le_of_ble_eq_true rfl) (fun c hc => Or.inr (by cases hc; simp [va_up, ckL, p10, k2, k3, k4, k5, k6, k7, k8, k9, k20, k21, k22, k23, k24, k25])) d_Ga_init_82 rfl ?_
  refine V_al0 86 d_Ga_init_85 rfl ?_
  refine V_bipush 88 (v := 6) (by decide) d_Ga_init_86 rfl ?_
  refine V_newi 90 24 6 rfl (by decide) (by simp [va_up, ckL, p10, k2, k3, k4, k5, k6, k7, k8, k9, k20, k21, k22, k23, k24, k25]) (by decide) (by decide) ⟨fun x hx => ?_, fun x hx => ?_⟩ (Nat.le_of_ble_eq_true rfl) (Nat.le_of_ble_eq_true rfl) d_Ga_init_88 rfl ?_
  · simp at hx; exact fun h10 => (by have h91 : @Eq Nat x 24 := h10; have h92 : @Eq Nat x 2 := hx; omega)
  · simp at hx; exact fun h10 => (by have h91 : @Eq Nat x 24 := h10; have h92 : @Eq Nat x 2 := hx; omega)
  refine V_putrF 93 8 (fs := [none, some (.ref 3), some (.ref 4), some (.ref 6), some (.ref 10), some (.ref 20), some (.ref 22), some (.ref 23), some .null, some .null]) (by simp [va_up, ckL, p10, k2, k3, k4, k5, k6, k7, k8, k9, k20, k21, k22, k23, k24, k25]) kc_Ga (by decide) ff_Ga_59 rfl rfl rfl (fun r => rfl) (fun r => rfl) (Nat.le_of_ble_eq_true rfl) (fun c hc => Or.inr (by cases hc; simp [va_up, ckL, p10, k2, k3, k4, k5, k6, k7, k8, k9, k20, k21, k22, k23, k24, k25])) d_Ga_init_90 rfl ?_
  refine V_al0 94 d_Ga_init_93 rfl ?_
  refine V_bipush 96 (v := 6) (by decide) d_Ga_init_94 rfl ?_
  refine V_newi 98 25 6 rfl (by decide) (by simp [va_up, ckL, p10, k2, k3, k4, k5, k6, k7, k8, k9, k20, k21, k22, k23, k24, k25]) (by decide) (by decide) ⟨fun x hx => ?_, fun x hx => ?_⟩ (Nat.le_of_ble_eq_true rfl) (Nat.le_of_ble_eq_true rfl) d_Ga_init_96 rfl ?_
  · simp at hx; exact fun h10 => (by have h91 : @Eq Nat x 25 := h10; have h92 : @Eq Nat x 2 := hx; omega)
  · simp at hx; exact fun h10 => (by have h91 : @Eq Nat x 25 := h10; have h92 : @Eq Nat x 2 := hx; omega)
  refine V_putrF 101 9 (fs := [none, some (.ref 3), some (.ref 4), some (.ref 6), some (.ref 10), some (.ref 20), some (.ref 22), some (.ref 23), some (.ref 24), some .null]) (by simp [va_up, ckL, p10, k2, k3, k4, k5, k6, k7, k8, k9, k20, k21, k22, k23, k24, k25]) kc_Ga (by decide) ff_Ga_62 rfl rfl rfl (fun r => rfl) (fun r => rfl) (Nat.le_of_ble_eq_true rfl) (fun c hc => Or.inr (by cases hc; simp [va_up, ckL, p10, k2, k3, k4, k5, k6, k7, k8, k9, k20, k21, k22, k23, k24, k25])) d_Ga_init_98 rfl ?_
  refine V_al0 102 d_Ga_init_101 rfl ?_
  refine V_il1 103 d_Ga_init_102 rfl ?_
  refine V_putiF 106 0 (fs := [none, some (.ref 3), some (.ref 4), some (.ref 6), some (.ref 10), some (.ref 20), some (.ref 22), some (.ref 23), some (.ref 24), some (.ref 25)]) (by simp [va_up, ckL, p10, k2, k3, k4, k5, k6, k7, k8, k9, k20, k21, k22, k23, k24, k25]) kc_Ga (by decide) ff_Ga_65 rfl rfl rfl rfl rfl rfl d_Ga_init_103 rfl ?_
  refine V_al0 107 d_Ga_init_106 rfl ?_
  refine V_getr 110 8 (fs := [none, some (.ref 3), some (.ref 4), some (.ref 6), some (.ref 10), some (.ref 20), some (.ref 22), some (.ref 23), some (.ref 24), some (.ref 25)]) (by simp [va_up, ckL, p10, k2, k3, k4, k5, k6, k7, k8, k9, k20, k21, k22, k23, k24, k25]) kc_Ga (by decide) fl_Ga_59 (Or.inl rfl) rfl d_Ga_init_107 rfl ?_
  refine V_iconst 111 (v := (-1)) (by decide) d_Ga_init_110 rfl ?_
  refine V_cS0 114 (c_Ar_fill l G _ _ 24 6 (by simp [va_up, ckL, p10, k2, k3, k4, k5, k6, k7, k8, k9, k20, k21, k22, k23, k24, k25]) (by decide) (-1)) ok_Ar_fill ml_Ga_69 st_Ar_fill (gRm_ok (by decide) (by decide)) rfl rfl (Nat.le_of_ble_eq_true rfl) d_Ga_init_111 ⟨(Nat.le_of_ble_eq_true rfl), (Nat.le_of_ble_eq_true rfl)⟩ rfl ?_
  refine V_vret rfl d_Ga_init_114 ⟨rfl, ⟨by simp [va_up, ckL, p10, k2, k3, k4, k5, k6, k7, k8, k9, k20, k21, k22, k23, k24, k25], by simp [va_up, ckL, p10, k2, k3, k4, k5, k6, k7, k8, k9, k20, k21, k22, k23, k24, k25], by simp [va_up, ckL, p10, k2, k3, k4, k5, k6, k7, k8, k9, k20, k21, k22, k23, k24, k25], ⟨by simp [va_up, ckL, p10, k2, k3, k4, k5, k6, k7, k8, k9, k20, k21, k22, k23, k24, k25], by simp [va_up, ckL, p10, k2, k3, k4, k5, k6, k7, k8, k9, k20, k21, k22, k23, k24, k25], by simp [va_up, ckL, p10, k2, k3, k4, k5, k6, k7, k8, k9, k20, k21, k22, k23, k24, k25], by simp [va_up, ckL, p10, k2, k3, k4, k5, k6, k7, k8, k9, k20, k21, k22, k23, k24, k25]⟩, by simp [va_up, ckL, p10, k2, k3, k4, k5, k6, k7, k8, k9, k20, k21, k22, k23, k24, k25], ⟨?_, ?_, ?_, ?_⟩, ?_, ?_, ?_, ?_, ?_, by simp [va_up, ckL, p10, k2, k3, k4, k5, k6, k7, k8, k9, k20, k21, k22, k23, k24, k25], ?_, by simp [va_up, ckL, p10, k2, k3, k4, k5, k6, k7, k8, k9, k20, k21, k22, k23, k24, k25], by simp [va_up, ckL, p10, k2, k3, k4, k5, k6, k7, k8, k9, k20, k21, k22, k23, k24, k25], by simp [va_up, ckL, p10, k2, k3, k4, k5, k6, k7, k8, k9, k20, k21, k22, k23, k24, k25], by simp [va_up, ckL, p10, k2, k3, k4, k5, k6, k7, k8, k9, k20, k21, k22, k23, k24, k25], ?_⟩, by simp [va_up, ckL, p10, k2, k3, k4, k5, k6, k7, k8, k9, k20, k21, k22, k23, k24, k25], fun q a => ⟨?_, ?_⟩, by simp [va_up, ckM, gst, mfill, upd, m3, m4, m5, m6], by simp [va_up, ckM, gst, mfill, upd, m3, m4, m5, m6], by simp [va_up, ckM, gst, mfill, upd, m3, m4, m5, m6], by simp [va_up, ckM, gst, mfill, upd, m3, m4, m5, m6], by simp [va_up, ckM, gst, mfill, upd, m3, m4, m5, m6], by simp [va_up, ckM, gst, mfill, upd, m3, m4, m5, m6], by simp [va_up, ckM, gst, mfill, upd, m3, m4, m5, m6], fun k a => ?_, by simp [va_up, ckM, gst, mfill, upd, m3, m4, m5, m6]⟩
  · simp [va_up, ckL]; exact p11.1
  · simp [va_up, ckL]; exact p11.2.1
  · simp [va_up, ckL]; exact p11.2.2.1
  · simp [va_up, ckL]; exact p11.2.2.2
  · simp [va_up, ckL]; exact p15 15 (by decide) (by decide)
  · simp [va_up, ckL]; exact p15 16 (by decide) (by decide)
  · simp [va_up, ckL]; exact p15 17 (by decide) (by decide)
  · simp [va_up, ckL]; exact p15 18 (by decide) (by decide)
  · simp [va_up, ckL]; exact p15 19 (by decide) (by decide)
  · simp [va_up, ckL]; rfl
  · intro k hk; unfold gLF; simp [va_up, ckL, show ¬ 100 + k = 2 by omega, show ¬ 100 + k = 20 by omega, show ¬ 100 + k = 21 by omega, show ¬ 100 + k = 22 by omega, show ¬ 100 + k = 23 by omega, show ¬ 100 + k = 24 by omega, show ¬ 100 + k = 25 by omega, hk]; omega
  · simp [va_up, ckL, show ¬ q = 2 by omega, show ¬ q = 20 by omega, show ¬ q = 21 by omega, show ¬ q = 22 by omega, show ¬ q = 23 by omega, show ¬ q = 24 by omega, show ¬ q = 25 by omega, show ¬ (100 ≤ q ∧ q < 140) by omega]; exact kq q a
  · simp [va_up, ckM, gst, mfill, show ¬ q = 2 by omega, show ¬ q = 20 by omega, show ¬ q = 21 by omega, show ¬ q = 22 by omega, show ¬ q = 23 by omega, show ¬ q = 24 by omega, show ¬ q = 25 by omega, show ¬ (100 ≤ q ∧ q < 140) by omega]; exact mq q (by omega)
  · simp [va_up, mfill, a]

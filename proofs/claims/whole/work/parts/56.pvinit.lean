/-! the prover is made -/
theorem pfFs : ∀ j, j < 4 → ∀ r, defaultValue (t_Pf j) = vp_V (gF r (fun _ => 0) [some .null, some .null, some .null, none]) j := by
  intro j hj r
  rcases (show j = 0 ∨ j = 1 ∨ j = 2 ∨ j = 3 by omega) with h | h | h | h <;> subst h <;> rfl
def pvP (L : gLy) (M : gMe) (h : Nat) : Option Value → gLy → gMe → Prop := fun v L' M' => v = none ∧ L' 10 = some (.inr (8, [some (.ref h), some (.ref 11), some (.ref 15), some (.ref 16), some (.ref 17), some (.ref 18), some (.ref 19), none, none])) ∧ gLP L' 11 ∧ (∀ q, 15 ≤ q → q < 20 → L' q = some (.inl (0, 756, none))) ∧ (∀ q, q < 10 ∨ 20 ≤ q → L' q = L q) ∧ (∀ q, q < 11 ∨ 20 ≤ q → M' q = M q) ∧ ∀ q, 11 ≤ q → q < 20 → M' q = fun _ => 0
set_option maxRecDepth 100000 in
set_option maxHeartbeats 4000000 in
theorem c_Pv_init (l : Launch) (G : gG) (L : gLy) (M : gMe) (h : Nat) (hh : h < 10) (hLh : h < 2 ∨ L h ≠ none) (hL : L 10 = some (.inr (8, [some .null, some .null, some .null, some .null, some .null, some .null, some .null, none, none]))) (h11 : L 11 = none) (h12 : L 12 = none) (h13 : L 13 = none) (h14 : L 14 = none) (h15 : L 15 = none) (h16 : L 16 = none) (h17 : L 17 = none) (h18 : L 18 = none) (h19 : L 19 = none) : gMet l G y_Pv_init b_Pv_init 2 none (rmL 3 9 3904) [.ref 10, .ref h] L M (fun x => x < 11) (pvP L M h) 9 3904 := by
  refine gMet_of (lv := [some (.ref 10), some (.ref h)]) (by decide) rfl (Nat.le_of_ble_eq_true rfl) rfl ?_
  refine V_al0 1 d_Pv_init_0 rfl ?_
  refine V_objInit 4 mo_Pv_5 oi_im oi_co (Nat.le_of_ble_eq_true rfl) (Nat.le_of_ble_eq_true rfl) d_Pv_init_1 rfl ?_
  refine V_al0 5 d_Pv_init_4 rfl ?_
  refine V_new 8 11 (fs := [some .null, some .null, some .null, none]) kc_Pf cl_Pv_11 in_Pf ii_Pf pfFs h11 (by decide) (by decide) ⟨fun x hx => ?_, fun x hx => ?_⟩ (fun b hb => by simp at hb) (Nat.le_of_ble_eq_true rfl) (Nat.le_of_ble_eq_true rfl) d_Pv_init_5 rfl ?_
  · simp at hx; exact fun h10 => (by have h91 : @Eq Nat x 11 := h10; rcases hx with h9 | h9; have h92 : @Eq Nat x 10 := h9; omega; have h92 : @Eq Nat x h := h9; omega)
  · simp at hx; exact fun h10 => (by have h91 : @Eq Nat x 11 := h10; have h92 : @Eq Nat x 10 := hx; omega)
  refine V_dup 9 rfl d_Pv_init_8 rfl ?_
  refine V_callI 12 (as := []) (c_Pf_init l G _ _ 11 (by decide) (va_up_self _ _ _) (by simp [va_up, pfLy, hL, h11, h12, h13, h14, h15, h16, h17, h18, h19]) (by simp [va_up, pfLy, hL, h11, h12, h13, h14, h15, h16, h17, h18, h19]) (by simp [va_up, pfLy, hL, h11, h12, h13, h14, h15, h16, h17, h18, h19])) ok_Pf_init ml_Pv_13 im_Pf_init rfl (gRm_ok (by decide) (by decide)) rfl rfl (Nat.le_of_ble_eq_true rfl) d_Pv_init_9 ⟨Nat.le_of_ble_eq_true rfl, Nat.le_of_ble_eq_true rfl⟩ (fun x hx => by have h9 : x < 11 := hx; exact ⟨by omega, by omega, by omega⟩) ⟨fun x hx => ?_, fun x hx => ?_⟩ rfl ?_
  · simp at hx; rcases hx with h9 | h9; have h92 : @Eq Nat x 10 := h9; exact ⟨by omega, by omega, by omega⟩; have h92 : @Eq Nat x h := h9; exact ⟨by omega, by omega, by omega⟩
  · simp at hx; rcases hx with h9 | h9; have h92 : @Eq Nat x 11 := h9; exact ⟨by omega, by omega, by omega⟩; have h92 : @Eq Nat x 10 := h9; exact ⟨by omega, by omega, by omega⟩
  intro v9 L9 M9 hpo
  obtain ⟨rfl, rfl, rfl⟩ := hpo
  refine V_putrF 15 1 (fs := [some .null, some .null, some .null, some .null, some .null, some .null, some .null, none, none]) (by simp [va_up, pfLy, hL, h11, h12, h13, h14, h15, h16, h17, h18, h19]) kc_Pv (by decide) ff_Pv_14 rfl rfl rfl (fun r => rfl) (fun r => rfl) (Nat.le_of_ble_eq_true rfl) (fun c hc => Or.inr (by cases hc; simp [va_up, pfLy])) d_Pv_init_12 rfl ?_
  refine V_al0 16 d_Pv_init_15 rfl ?_
  refine V_sipush 19 (v := 756) (by decide) d_Pv_init_16 rfl ?_
  refine V_newi 21 15 756 rfl (by decide) (by simp [va_up, pfLy, hL, h11, h12, h13, h14, h15, h16, h17, h18, h19]) (by decide) (by decide) ⟨fun x hx => ?_, fun x hx => ?_⟩ (Nat.le_of_ble_eq_true rfl) (Nat.le_of_ble_eq_true rfl) d_Pv_init_19 rfl ?_
  · simp at hx; exact fun h10 => (by have h91 : @Eq Nat x 15 := h10; rcases hx with h9 | h9; have h92 : @Eq Nat x 10 := h9; omega; have h92 : @Eq Nat x h := h9; omega)
  · simp at hx; exact fun h10 => (by have h91 : @Eq Nat x 15 := h10; have h92 : @Eq Nat x 10 := hx; omega)
  refine V_putrF 24 2 (fs := [some .null, some (.ref 11), some .null, some .null, some .null, some .null, some .null, none, none]) (by simp [va_up, pfLy, hL, h11, h12, h13, h14, h15, h16, h17, h18, h19]) kc_Pv (by decide) ff_Pv_18 rfl rfl rfl (fun r => rfl) (fun r => rfl) (Nat.le_of_ble_eq_true rfl) (fun c hc => Or.inr (by cases hc; simp [va_up, pfLy])) d_Pv_init_21 rfl ?_
  refine V_al0 25 d_Pv_init_24 rfl ?_
  refine V_sipush 28 (v := 756) (by decide) d_Pv_init_25 rfl ?_
  refine V_newi 30 16 756 rfl (by decide) (by simp [va_up, pfLy, hL, h11, h12, h13, h14, h15, h16, h17, h18, h19]) (by decide) (by decide) ⟨fun x hx => ?_, fun x hx => ?_⟩ (Nat.le_of_ble_eq_true rfl) (Nat.le_of_ble_eq_true rfl) d_Pv_init_28 rfl ?_
  · simp at hx; exact fun h10 => (by have h91 : @Eq Nat x 16 := h10; rcases hx with h9 | h9; have h92 : @Eq Nat x 10 := h9; omega; have h92 : @Eq Nat x h := h9; omega)
  · simp at hx; exact fun h10 => (by have h91 : @Eq Nat x 16 := h10; have h92 : @Eq Nat x 10 := hx; omega)
  refine V_putrF 33 3 (fs := [some .null, some (.ref 11), some (.ref 15), some .null, some .null, some .null, some .null, none, none]) (by simp [va_up, pfLy, hL, h11, h12, h13, h14, h15, h16, h17, h18, h19]) kc_Pv (by decide) ff_Pv_22 rfl rfl rfl (fun r => rfl) (fun r => rfl) (Nat.le_of_ble_eq_true rfl) (fun c hc => Or.inr (by cases hc; simp [va_up, pfLy])) d_Pv_init_30 rfl ?_
  refine V_al0 34 d_Pv_init_33 rfl ?_
  refine V_sipush 37 (v := 756) (by decide) d_Pv_init_34 rfl ?_
  refine V_newi 39 17 756 rfl (by decide) (by simp [va_up, pfLy, hL, h11, h12, h13, h14, h15, h16, h17, h18, h19]) (by decide) (by decide) ⟨fun x hx => ?_, fun x hx => ?_⟩ (Nat.le_of_ble_eq_true rfl) (Nat.le_of_ble_eq_true rfl) d_Pv_init_37 rfl ?_
  · simp at hx; exact fun h10 => (by have h91 : @Eq Nat x 17 := h10; rcases hx with h9 | h9; have h92 : @Eq Nat x 10 := h9; omega; have h92 : @Eq Nat x h := h9; omega)
  · simp at hx; exact fun h10 => (by have h91 : @Eq Nat x 17 := h10; have h92 : @Eq Nat x 10 := hx; omega)
  refine V_putrF 42 4 (fs := [some .null, some (.ref 11), some (.ref 15), some (.ref 16), some .null, some .null, some .null, none, none]) (by simp [va_up, pfLy, hL, h11, h12, h13, h14, h15, h16, h17, h18, h19]) kc_Pv (by decide) ff_Pv_25 rfl rfl rfl (fun r => rfl) (fun r => rfl) (Nat.le_of_ble_eq_true rfl) (fun c hc => Or.inr (by cases hc; simp [va_up, pfLy])) d_Pv_init_39 rfl ?_
  refine V_al0 43 d_Pv_init_42 rfl ?_
  refine V_sipush 46 (v := 756) (by decide) d_Pv_init_43 rfl ?_
  refine V_newi 48 18 756 rfl (by decide) (by simp [va_up, pfLy, hL, h11, h12, h13, h14, h15, h16, h17, h18, h19]) (by decide) (by decide) ⟨fun x hx => ?_, fun x hx => ?_⟩ (Nat.le_of_ble_eq_true rfl) (Nat.le_of_ble_eq_true rfl) d_Pv_init_46 rfl ?_
  · simp at hx; exact fun h10 => (by have h91 : @Eq Nat x 18 := h10; rcases hx with h9 | h9; have h92 : @Eq Nat x 10 := h9; omega; have h92 : @Eq Nat x h := h9; omega)
  · simp at hx; exact fun h10 => (by have h91 : @Eq Nat x 18 := h10; have h92 : @Eq Nat x 10 := hx; omega)
  refine V_putrF 51 5 (fs := [some .null, some (.ref 11), some (.ref 15), some (.ref 16), some (.ref 17), some .null, some .null, none, none]) (by simp [va_up, pfLy, hL, h11, h12, h13, h14, h15, h16, h17, h18, h19]) kc_Pv (by decide) ff_Pv_28 rfl rfl rfl (fun r => rfl) (fun r => rfl) (Nat.le_of_ble_eq_true rfl) (fun c hc => Or.inr (by cases hc; simp [va_up, pfLy])) d_Pv_init_48 rfl ?_
  refine V_al0 52 d_Pv_init_51 rfl ?_
  refine V_sipush 55 (v := 756) (by decide) d_Pv_init_52 rfl ?_
  refine V_newi 57 19 756 rfl (by decide) (by simp [va_up, pfLy, hL, h11, h12, h13, h14, h15, h16, h17, h18, h19]) (by decide) (by decide) ⟨fun x hx => ?_, fun x hx => ?_⟩ (Nat.le_of_ble_eq_true rfl) (Nat.le_of_ble_eq_true rfl) d_Pv_init_55 rfl ?_
  · simp at hx; exact fun h10 => (by have h91 : @Eq Nat x 19 := h10; rcases hx with h9 | h9; have h92 : @Eq Nat x 10 := h9; omega; have h92 : @Eq Nat x h := h9; omega)
  · simp at hx; exact fun h10 => (by have h91 : @Eq Nat x 19 := h10; have h92 : @Eq Nat x 10 := hx; omega)
  refine V_putrF 60 6 (fs := [some .null, some (.ref 11), some (.ref 15), some (.ref 16), some (.ref 17), some (.ref 18), some .null, none, none]) (by simp [va_up, pfLy, hL, h11, h12, h13, h14, h15, h16, h17, h18, h19]) kc_Pv (by decide) ff_Pv_31 rfl rfl rfl (fun r => rfl) (fun r => rfl) (Nat.le_of_ble_eq_true rfl) (fun c hc => Or.inr (by cases hc; simp [va_up, pfLy])) d_Pv_init_57 rfl ?_
  refine V_al0 61 d_Pv_init_60 rfl ?_
  refine V_al1 62 d_Pv_init_61 rfl ?_
  refine V_putrF 65 0 (fs := [some .null, some (.ref 11), some (.ref 15), some (.ref 16), some (.ref 17), some (.ref 18), some (.ref 19), none, none]) (by simp [va_up, pfLy, hL, h11, h12, h13, h14, h15, h16, h17, h18, h19]) kc_Pv (by decide) ff_Pv_34 rfl rfl rfl (fun r => rfl) (fun r => rfl) (Nat.le_of_ble_eq_true rfl) (fun c hc => by cases hc; rcases hLh with h9 | h9; exact Or.inl h9; exact Or.inr (by simp [va_up, pfLy, show ¬ h = 10 by omega, show ¬ h = 11 by omega, show ¬ h = 12 by omega, show ¬ h = 13 by omega, show ¬ h = 14 by omega, show ¬ h = 15 by omega, show ¬ h = 16 by omega, show ¬ h = 17 by omega, show ¬ h = 18 by omega, show ¬ h = 19 by omega]; exact h9)) d_Pv_init_62 rfl ?_
  refine V_vret rfl d_Pv_init_65 ⟨rfl, by simp [va_up], ⟨by simp [va_up, pfLy], by simp [va_up, pfLy], by simp [va_up, pfLy], by simp [va_up, pfLy]⟩, fun q a b => ?_, fun q a => ?_, fun q a => ?_, fun q a b => ?_⟩
  · rcases (show q = 15 ∨ q = 16 ∨ q = 17 ∨ q = 18 ∨ q = 19 by omega) with e | e | e | e | e <;> subst e <;> simp [va_up, pfLy]
  · simp [va_up, pfLy, show ¬ q = 10 by omega, show ¬ q = 11 by omega, show ¬ q = 12 by omega, show ¬ q = 13 by omega, show ¬ q = 14 by omega, show ¬ q = 15 by omega, show ¬ q = 16 by omega, show ¬ q = 17 by omega, show ¬ q = 18 by omega, show ¬ q = 19 by omega]
  · simp [va_up, pfMy, show ¬ q = 11 by omega, show ¬ q = 12 by omega, show ¬ q = 13 by omega, show ¬ q = 14 by omega, show ¬ q = 15 by omega, show ¬ q = 16 by omega, show ¬ q = 17 by omega, show ¬ q = 18 by omega, show ¬ q = 19 by omega]
  · rcases (show q = 11 ∨ q = 12 ∨ q = 13 ∨ q = 14 ∨ q = 15 ∨ q = 16 ∨ q = 17 ∨ q = 18 ∨ q = 19 by omega) with e | e | e | e | e | e | e | e | e <;> subst e <;> simp [va_up, pfMy]

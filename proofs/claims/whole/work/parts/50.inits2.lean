/-! the constructors of Proof and Credentials -/
def pfLy (L : gLy) (b : Nat) : gLy := va_up (va_up (va_up (va_up L (b + 1) (some (.inl (0, 40, none)))) (b + 2) (some (.inl (0, 40, none)))) (b + 3) (some (.inl (0, 40, none)))) b (some (.inr (7, [some (.ref (b + 1)), some (.ref (b + 2)), some (.ref (b + 3)), none])))
def pfMy (M : gMe) (b : Nat) : gMe := va_up (va_up (va_up M (b + 1) (fun _ => 0)) (b + 2) (fun _ => 0)) (b + 3) (fun _ => 0)
theorem va_up_comm {α : Type} (f : Nat → α) {a b : Nat} (x y : α) (h : a ≠ b) : va_up (va_up f a x) b y = va_up (va_up f b y) a x := by
  funext q
  by_cases h1 : q = a
  · subst h1; rw [va_up_ne _ _ h, va_up_self, va_up_self]
  · by_cases h2 : q = b
    · subst h2; rw [va_up_self, va_up_ne _ _ h1, va_up_self]
    · rw [va_up_ne _ _ h2, va_up_ne _ _ h1, va_up_ne _ _ h1, va_up_ne _ _ h2]
theorem va_up_two {α : Type} (f : Nat → α) (a : Nat) (x y : α) : va_up (va_up f a x) a y = va_up f a y := by
  funext q
  by_cases h1 : q = a
  · subst h1; rw [va_up_self, va_up_self]
  · rw [va_up_ne _ _ h1, va_up_ne _ _ h1, va_up_ne _ _ h1]
set_option maxRecDepth 100000 in
set_option maxHeartbeats 4000000 in
theorem c_Pf_init (l : Launch) (G : gG) (L : gLy) (M : gMe) (b : Nat) (h2 : 2 ≤ b) (hL : L b = some (.inr (7, [some .null, some .null, some .null, none]))) (h1 : L (b + 1) = none) (h3 : L (b + 2) = none) (h4 : L (b + 3) = none) : gMet l G y_Pf_init b_Pf_init 1 none (rmL 2 3 120) [.ref b] L M (fun x => x ≠ b + 1 ∧ x ≠ b + 2 ∧ x ≠ b + 3) (gPo none (pfLy L b) (pfMy M b)) 3 120 := by
  refine gMet_of (lv := [some (.ref b)]) (by decide) rfl (Nat.le_of_ble_eq_true rfl) rfl ?_
  refine V_al0 1 d_Pf_init_0 rfl ?_
  refine V_objInit 4 mo_Pf_3 oi_im oi_co (Nat.le_of_ble_eq_true rfl) (Nat.le_of_ble_eq_true rfl) d_Pf_init_1 rfl ?_
  refine V_al0 5 d_Pf_init_4 rfl ?_
  refine V_bipush 7 (v := 40) (by decide) d_Pf_init_5 rfl ?_
  refine V_newi 9 (b + 1) 40 rfl (by decide) h1 (by omega) (fun h => h.1 rfl) ⟨fun x hx => ?_, fun x hx => ?_⟩ (Nat.le_of_ble_eq_true rfl) (Nat.le_of_ble_eq_true rfl) d_Pf_init_7 rfl ?_
  · simp at hx; exact fun h10 => (by have h9 : @Eq Nat x b := hx; have h11 : @Eq Nat x (b + 1) := h10; omega)
  · simp at hx; exact fun h10 => (by have h9 : @Eq Nat x b := hx; have h11 : @Eq Nat x (b + 1) := h10; omega)
  have k0 : va_up L (b + 1) (some (.inl (0, 40, none))) b = some (.inr (7, [some .null, some .null, some .null, none])) := (va_up_ne _ _ (by omega)).trans hL
  refine V_putrF 12 0 k0 kc_Pf (by decide) ff_Pf_9 rfl rfl rfl (fun r => rfl) (fun r => rfl) (Nat.le_of_ble_eq_true rfl) (fun c hc => Or.inr (by cases hc; rw [va_up_self]; exact fun h => by cases h)) d_Pf_init_9 rfl ?_
  obtain ⟨N0, e0⟩ : ∃ N, N = va_up (va_up L (b + 1) (some (.inl (0, 40, none)))) b (some (.inr (7, [some (.ref (b + 1)), some .null, some .null, none]))) := ⟨_, rfl⟩
  refine V_mem (L' := N0) e0.symm rfl ?_
  have c0 : N0 b = some (.inr (7, [some (.ref (b + 1)), some .null, some .null, none])) := by rw [e0]; exact va_up_self _ _ _
  have h3x1 : N0 (b + 2) = none := by rw [e0, va_up_ne _ _ (by omega), va_up_ne _ _ (by omega)]; exact h3
  have h4x1 : N0 (b + 3) = none := by rw [e0, va_up_ne _ _ (by omega), va_up_ne _ _ (by omega)]; exact h4
  refine V_al0 13 d_Pf_init_12 rfl ?_
  refine V_bipush 15 (v := 40) (by decide) d_Pf_init_13 rfl ?_
  refine V_newi 17 (b + 2) 40 rfl (by decide) h3x1 (by omega) (fun h => h.2.1 rfl) ⟨fun x hx => ?_, fun x hx => ?_⟩ (Nat.le_of_ble_eq_true rfl) (Nat.le_of_ble_eq_true rfl) d_Pf_init_15 rfl ?_
  · simp at hx; exact fun h10 => (by have h9 : @Eq Nat x b := hx; have h11 : @Eq Nat x (b + 2) := h10; omega)
  · simp at hx; exact fun h10 => (by have h9 : @Eq Nat x b := hx; have h11 : @Eq Nat x (b + 2) := h10; omega)
  have k1 : va_up N0 (b + 2) (some (.inl (0, 40, none))) b = some (.inr (7, [some (.ref (b + 1)), some .null, some .null, none])) := (va_up_ne _ _ (by omega)).trans c0
  refine V_putrF 20 1 k1 kc_Pf (by decide) ff_Pf_15 rfl rfl rfl (fun r => rfl) (fun r => rfl) (Nat.le_of_ble_eq_true rfl) (fun c hc => Or.inr (by cases hc; rw [va_up_self]; exact fun h => by cases h)) d_Pf_init_17 rfl ?_
  obtain ⟨N1, e1⟩ : ∃ N, N = va_up (va_up N0 (b + 2) (some (.inl (0, 40, none)))) b (some (.inr (7, [some (.ref (b + 1)), some (.ref (b + 2)), some .null, none]))) := ⟨_, rfl⟩
  refine V_mem (L' := N1) e1.symm rfl ?_
  have c1 : N1 b = some (.inr (7, [some (.ref (b + 1)), some (.ref (b + 2)), some .null, none])) := by rw [e1]; exact va_up_self _ _ _
  have h4x2 : N1 (b + 3) = none := by rw [e1, va_up_ne _ _ (by omega), va_up_ne _ _ (by omega)]; exact h4x1
  refine V_al0 21 d_Pf_init_20 rfl ?_
  refine V_bipush 23 (v := 40) (by decide) d_Pf_init_21 rfl ?_
  refine V_newi 25 (b + 3) 40 rfl (by decide) h4x2 (by omega) (fun h => h.2.2 rfl) ⟨fun x hx => ?_, fun x hx => ?_⟩ (Nat.le_of_ble_eq_true rfl) (Nat.le_of_ble_eq_true rfl) d_Pf_init_23 rfl ?_
  · simp at hx; exact fun h10 => (by have h9 : @Eq Nat x b := hx; have h11 : @Eq Nat x (b + 3) := h10; omega)
  · simp at hx; exact fun h10 => (by have h9 : @Eq Nat x b := hx; have h11 : @Eq Nat x (b + 3) := h10; omega)
  have k2 : va_up N1 (b + 3) (some (.inl (0, 40, none))) b = some (.inr (7, [some (.ref (b + 1)), some (.ref (b + 2)), some .null, none])) := (va_up_ne _ _ (by omega)).trans c1
  refine V_putrF 28 2 k2 kc_Pf (by decide) ff_Pf_18 rfl rfl rfl (fun r => rfl) (fun r => rfl) (Nat.le_of_ble_eq_true rfl) (fun c hc => Or.inr (by cases hc; rw [va_up_self]; exact fun h => by cases h)) d_Pf_init_25 rfl ?_
  obtain ⟨N2, e2⟩ : ∃ N, N = va_up (va_up N1 (b + 3) (some (.inl (0, 40, none)))) b (some (.inr (7, [some (.ref (b + 1)), some (.ref (b + 2)), some (.ref (b + 3)), none]))) := ⟨_, rfl⟩
  refine V_mem (L' := N2) e2.symm rfl ?_
  have c2 : N2 b = some (.inr (7, [some (.ref (b + 1)), some (.ref (b + 2)), some (.ref (b + 3)), none])) := by rw [e2]; exact va_up_self _ _ _
  refine V_vret rfl d_Pf_init_28 ⟨rfl, ?_, rfl⟩
  rw [e2, e1, e0]
  unfold pfLy
  rw [va_up_comm _ _ _ (show b ≠ b + 2 by omega), va_up_two, va_up_comm _ _ _ (show b ≠ b + 3 by omega), va_up_two]
def csLy (L : gLy) (a b : Nat) : gLy := va_up (va_up L b (some (.inr (0, [some (.ref 0), none, none])))) a (some (.inr (4, [some (.ref b), none])))
set_option maxRecDepth 100000 in
set_option maxHeartbeats 4000000 in
theorem c_Cs_init (l : Launch) (G : gG) (L : gLy) (M : gMe) (hs : gSt G) (a b : Nat) (h2 : 2 ≤ b) (hL : L a = some (.inr (4, [some .null, none]))) (h1 : L b = none) : gMet l G y_Cs_init b_Cs_init 1 none (rmL 4 1 3) [.ref a] L M (fun x => x ≠ b) (gPo none (csLy L a b) (gst (va_up M b (fun _ => 0)) b 2 0)) 1 3 := by
  have hab : a ≠ b := fun h => by rw [h, h1] at hL; cases hL
  refine gMet_of (lv := [some (.ref a)]) (by decide) rfl (Nat.le_of_ble_eq_true rfl) rfl ?_
  refine V_al0 1 d_Cs_init_0 rfl ?_
  refine V_objInit 4 mo_Cs_1 oi_im oi_co (Nat.le_of_ble_eq_true rfl) (Nat.le_of_ble_eq_true rfl) d_Cs_init_1 rfl ?_
  refine V_al0 5 d_Cs_init_4 rfl ?_
  refine V_new 8 b (fs := [some .null, none, none]) kc_AL cl_Cs_7 in_AL ii_AL (fun j hj r => by rcases (show j = 0 ∨ j = 1 ∨ j = 2 by omega) with h | h | h <;> subst h <;> rfl) h1 h2 (fun h => h rfl) ⟨fun x hx => ?_, fun x hx => ?_⟩ (fun b hb => by simp at hb) (Nat.le_of_ble_eq_true rfl) (Nat.le_of_ble_eq_true rfl) d_Cs_init_5 rfl ?_
  · simp at hx; exact fun h10 => hab (hx.symm.trans h10)
  · simp at hx; exact fun h10 => hab (hx.symm.trans h10)
  refine V_dup 9 rfl d_Cs_init_8 rfl ?_
  refine V_cI0 12 (as := []) (c_AL_init l G _ _ hs b (va_up_self _ _ _)) ok_AL_init ml_Cs_9 im_AL_init rfl (gRm_ok (by decide) (by decide)) rfl rfl (Nat.le_of_ble_eq_true rfl) d_Cs_init_9 ⟨Nat.le_of_ble_eq_true rfl, Nat.le_of_ble_eq_true rfl⟩ rfl ?_
  refine V_mem (L' := va_up L b (some (.inr (0, [some (.ref 0), none, none])))) (va_up_two _ _ _ _) rfl ?_
  refine V_putrF 15 0 (fs := [some .null, none]) ((va_up_ne _ _ hab).trans hL) kc_Cs (by decide) ff_Cs_10 rfl rfl rfl (fun r => rfl) (fun r => rfl) (Nat.le_of_ble_eq_true rfl) (fun c hc => Or.inr (by cases hc; rw [va_up_self]; exact fun h => by cases h)) d_Cs_init_12 rfl ?_
  exact V_vret rfl d_Cs_init_15 ⟨rfl, rfl, rfl⟩

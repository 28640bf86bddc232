/-! the checker is made -/
abbrev faF : List (Option Value) := [none, none, none, none, none, none]
def ckF (k : Nat) : Nat → Option Nat := fun j => if j < k then some (100 + j) else none
def ckL (L : gLy) (h k : Nat) : gLy := fun p => if p = 20 then some (.inr (2, [some (.ref h), some (.ref 21)])) else if p = 21 then some (.inl (3, 40, some (some (ckF k)))) else if 100 ≤ p ∧ p < 100 + k then some (.inr (5, faF)) else L p
def ckM (M : gMe) (k : Nat) : gMe := fun p => if p = 21 ∨ (100 ≤ p ∧ p < 100 + k) then fun _ => 0 else M p
theorem ckF_s (k : Nat) : va_up (ckF k) k (some (100 + k)) = ckF (k + 1) := by
  funext j
  unfold ckF va_up
  by_cases h : j = k
  · subst h; simp
  · by_cases h2 : j < k
    · simp [h, h2, show j < k + 1 by omega]
    · simp [h, h2, show ¬ j < k + 1 by omega]
theorem ckL_s (L : gLy) (h k : Nat) : va_up (va_up (ckL L h k) (100 + k) (some (.inr (5, faF)))) 21 (some (.inl (3, 40, some (some (ckF (k + 1)))))) = ckL L h (k + 1) := by
  funext p
  by_cases h1 : p = 21
  · subst h1; rw [va_up_self]; simp [ckL]
  · rw [va_up_ne _ _ h1]
    by_cases h2 : p = 100 + k
    · subst h2; rw [va_up_self]; simp [ckL, show ¬ 100 + k = 20 by omega, show ¬ 100 + k = 21 by omega]
    · rw [va_up_ne _ _ h2]
      by_cases h3 : 100 ≤ p ∧ p < 100 + k
      · simp [ckL, h1, h3, show p < 100 + (k + 1) by omega]
      · have h4 : ¬ (100 ≤ p ∧ p < 100 + (k + 1)) := by omega
        simp only [ckL, h1, if_neg h3, if_neg h4, if_false]
theorem ckM_s (M : gMe) (k : Nat) : va_up (ckM M k) (100 + k) (fun _ => 0) = ckM M (k + 1) := by
  funext p
  by_cases h2 : p = 100 + k
  · subst h2; rw [va_up_self]; unfold ckM; rw [if_pos (by omega)]
  · rw [va_up_ne _ _ h2]
    unfold ckM
    by_cases h3 : p = 21 ∨ (100 ≤ p ∧ p < 100 + k)
    · rw [if_pos h3, if_pos (by omega)]
    · rw [if_neg h3, if_neg (by omega)]
theorem faFs : ∀ j, j < 6 → ∀ r, defaultValue (t_Fa j) = vp_V (gF r (fun _ => 0) faF) j := by
  intro j hj r
  rcases (show j = 0 ∨ j = 1 ∨ j = 2 ∨ j = 3 ∨ j = 4 ∨ j = 5 by omega) with h | h | h | h | h | h <;> subst h <;> rfl
set_option maxRecDepth 100000 in
set_option maxHeartbeats 4000000 in
theorem c_Ck_init (l : Launch) (G : gG) (L : gLy) (M : gMe) (hao : gHe G (fun U => va_AO "ProofGate$Fact" U)) (h : Nat) (hh : h < 20) (hLh : h < 2 ∨ L h ≠ none) (hL : L 20 = some (.inr (2, [some .null, some .null]))) (h21 : L 21 = none) (h100 : ∀ p, 100 ≤ p → p < 140 → L p = none) : gMet l G y_Ck_init b_Ck_init 3 none (rmL 2 41 280) [.ref 20, .ref h] L M (fun x => x ≠ 21 ∧ ¬ (100 ≤ x ∧ x < 140)) (gPo none (ckL L h 40) (ckM M 40)) 41 280 := by
  have lp : ∀ (d k : Nat), k + d = 40 → V l G y_Ck_init b_Ck_init 3 none (rmL 2 41 280) 41 280 (fun x => x ≠ 21 ∧ ¬ (100 ≤ x ∧ x < 140)) (gPo none (ckL L h 40) (ckM M 40)) (ckL L h k) (ckM M k) (1 + k) (40 + 6 * k) [some (.ref 20), some (.ref h), some (.int (nI k))] 20 [] := by
    intro d
    induction d with
    | zero =>
      intro k hk
      obtain rfl : k = 40 := by omega
      refine V_il2 21 d_Ck_init_20 rfl ?_
      refine V_bipush 23 (v := 40) (by decide) d_Ck_init_21 rfl ?_
      refine V_icmp_ge 45 26 d_Ck_init_23 (by decide) rfl (fun _ => ?_) (fun h9 => absurd (show (40 : Int32) ≤ nI 40 by decide) h9)
      exact V_vret rfl d_Ck_init_45 ⟨rfl, rfl, rfl⟩
    | succ d ih =>
      intro k hk
      have hl : k < 40 := by omega
      have k20 : ckL L h k 20 = some (.inr (2, [some (.ref h), some (.ref 21)])) := rfl
      have kn : ckL L h k (100 + k) = none := by
        simp only [ckL, show ¬ 100 + k = 20 by omega, show ¬ 100 + k = 21 by omega, if_false]
        rw [if_neg (by omega)]; exact h100 _ (by omega) (by omega)
      refine V_il2 21 d_Ck_init_20 rfl ?_
      refine V_bipush 23 (v := 40) (by decide) d_Ck_init_21 rfl ?_
      refine V_icmp_ge 45 26 d_Ck_init_23 (by decide) rfl (fun h9 => absurd h9 (nI_ge (b := 40) hl (by decide))) (fun _ => ?_)
      refine V_al0 27 d_Ck_init_26 rfl ?_
      refine V_getr 30 1 k20 kc_Ck (by decide) fl_Ck_11 (Or.inl rfl) rfl d_Ck_init_27 rfl ?_
      refine V_il2 31 d_Ck_init_30 rfl ?_
      refine V_new 34 (100 + k) kc_Fa cl_Ck_9 in_Fa ii_Fa faFs kn (by omega) (fun hz => hz.2 ⟨by omega, by omega⟩) ⟨fun x hx => ?_, fun x hx => ?_⟩ (fun b hb => by simp [faF] at hb) (show 1 + k + 1 ≤ 41 by omega) (show 40 + 6 * k + 6 ≤ 280 by omega) d_Ck_init_31 rfl ?_
      · simp at hx; exact fun h10 => (by have h11 : @Eq Nat x (100 + k) := h10; rcases hx with h9 | h9; have h12 : @Eq Nat x 20 := h9; omega; have h12 : @Eq Nat x h := h9; omega)
      · simp at hx; exact fun h10 => (by have h11 : @Eq Nat x (100 + k) := h10; have h12 : @Eq Nat x 21 := hx; omega)
      refine V_dup 35 rfl d_Ck_init_34 rfl ?_
      refine V_cI0 38 (as := []) (c_Fa_init l G _ _ (100 + k)) ok_Fa_init ml_Ck_21 im_Fa_init rfl (gRm_ok (by decide) (by decide)) rfl rfl (Nat.le_of_ble_eq_true rfl) d_Ck_init_35 ⟨show 1 + k + 1 ≤ 41 by omega, show 40 + 6 * k + 6 ≤ 280 by omega⟩ rfl ?_
      refine V_aast 39 k (f := ckF k) (n := 40) (t := 3) ((va_up_ne _ _ (by omega)).trans rfl) rfl (va_up_self _ _ _) kc_Fa rfl hl (by decide) d_Ck_init_38 rfl ?_
      refine V_mem (L' := ckL L h (k + 1)) (M' := ckM M (k + 1)) (by rw [ckF_s]; exact ckL_s L h k) (ckM_s M k) ?_
      refine V_ii2 42 (v := 1) d_Ck_init_39 (by decide) (by decide) rfl ?_
      refine V_goto 20 d_Ck_init_42 (by decide) ?_
      rw [nI_1, show 1 + k + 1 = 1 + (k + 1) by omega, show 40 + 6 * k + 6 = 40 + 6 * (k + 1) by omega]
      exact ih (k + 1) (by omega)
  refine gMet_of (lv := [some (.ref 20), some (.ref h), none]) (by decide) rfl (Nat.le_of_ble_eq_true rfl) rfl ?_
  refine V_al0 1 d_Ck_init_0 rfl ?_
  refine V_objInit 4 mo_Ck_3 oi_im oi_co (Nat.le_of_ble_eq_true rfl) (Nat.le_of_ble_eq_true rfl) d_Ck_init_1 rfl ?_
  refine V_al0 5 d_Ck_init_4 rfl ?_
  refine V_bipush 7 (v := 40) (by decide) d_Ck_init_5 rfl ?_
  refine V_anew 10 21 3 40 rfl cl_Ck_9 hao rfl (by decide) h21 (by decide) (fun hz => hz.1 rfl) ⟨fun x hx => ?_, fun x hx => ?_⟩ (Nat.le_of_ble_eq_true rfl) (Nat.le_of_ble_eq_true rfl) d_Ck_init_7 rfl ?_
  · simp at hx; exact fun h10 => (by have h11 : @Eq Nat x 21 := h10; rcases hx with h9 | h9; have h12 : @Eq Nat x 20 := h9; omega; have h12 : @Eq Nat x h := h9; omega)
  · simp at hx; exact fun h10 => (by have h11 : @Eq Nat x 21 := h10; have h12 : @Eq Nat x 20 := hx; omega)
  refine V_putrF 13 1 (fs := [some .null, some .null]) ((va_up_ne _ _ (by decide)).trans hL) kc_Ck (by decide) ff_Ck_11 rfl rfl rfl (fun r => rfl) (fun r => rfl) (Nat.le_of_ble_eq_true rfl) (fun c hc => Or.inr (by cases hc; rw [va_up_self]; exact fun h => by cases h)) d_Ck_init_10 rfl ?_
  refine V_al0 14 d_Ck_init_13 rfl ?_
  refine V_al1 15 d_Ck_init_14 rfl ?_
  refine V_putrF 18 0 (fs := [some .null, some (.ref 21)]) (va_up_self _ _ _) kc_Ck (by decide) ff_Ck_17 rfl rfl rfl (fun r => rfl) (fun r => rfl) (Nat.le_of_ble_eq_true rfl) (fun c hc => by
    cases hc
    rcases hLh with h9 | h9
    · exact Or.inl h9
    · exact Or.inr (by rw [va_up_ne _ _ (by omega), va_up_ne _ _ (by omega)]; exact h9)) d_Ck_init_15 rfl ?_
  refine V_iconst 19 (v := 0) (by decide) d_Ck_init_18 rfl ?_
  refine V_is2 20 d_Ck_init_19 (by decide) rfl ?_
  refine V_mem (L' := ckL L h 0) (M' := ckM M 0) ?_ ?_ ?_
  · rw [va_up_two]
    funext p
    by_cases h1 : p = 20
    · subst h1; rw [va_up_self]; rfl
    · rw [va_up_ne _ _ h1]
      by_cases h3 : p = 21
      · subst h3; rw [va_up_self]; rfl
      · rw [va_up_ne _ _ h3]
        have h4 : ¬ (100 ≤ p ∧ p < 100 + 0) := by omega
        simp only [ckL, if_neg h1, if_neg h3, if_neg h4]
  · funext p
    by_cases h3 : p = 21
    · subst h3; rw [va_up_self]; simp [ckM]
    · rw [va_up_ne _ _ h3]
      unfold ckM
      rw [if_neg (by omega)]
  exact lp 40 0 (by decide)

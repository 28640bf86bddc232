/-! the class: submit, where it throws -/
theorem crL_ne {L : gLy} {a n q : Nat} (h1 : q ≠ a) (h2 : q ≠ n) : crL L a n q = L q := by
  unfold crL
  rw [va_up_ne _ _ h1, va_up_ne _ _ h2]
/-- the memory behind the making of a credential out of the numbers that are set -/
def sbL (L : gLy) (a : Nat) : gLy := crL (va_up L a (some (.inr (3, crF0)))) a (a + 1)
def sb1 (M : gMe) (a : Nat) (i k f t : Int32) : gMe := crM (va_up M a (fun _ => 0)) a (a + 1) 3 i k f t
theorem sbL_ne {L : gLy} {a q : Nat} (h1 : q ≠ a) (h2 : q ≠ a + 1) : sbL L a q = L q := by
  unfold sbL
  rw [crL_ne h1 h2, va_up_ne _ _ h1]
theorem sb1_ne {M : gMe} {a q : Nat} {i k f t : Int32} (h1 : q ≠ a) (h2 : q ≠ a + 1) : sb1 M a i k f t q = M q := by
  unfold sb1
  rw [crM_ne h2 h1, va_up_ne _ _ h1]
theorem sbLR {L : gLy} {a : Nat} : gLR (sbL L a) a (a + 1) := ⟨va_up_self _ _ _, (va_up_ne _ _ (by omega)).trans (va_up_self _ _ _)⟩
section gSub
variable {l : Launch} {G : gG} {d9 mc ms : Nat} {Z : Nat → Prop} {post : Option Value → gLy → gMe → Prop} {L : gLy} {M : gMe}
set_option maxRecDepth 100000 in
set_option maxHeartbeats 4000000 in
theorem sub18 (hL3 : L 3 = some (.inl (0, 4, none))) {fs : List (Option Value)} (hL2 : L 2 = some (.inr (9, none :: some (.ref 3) :: fs))) (hs : gSt G) (a : Nat) (h2 : 100 ≤ a) (ha : L a = none) (hn : L (a + 1) = none) (hZ : ∀ x, Z x → x ≠ a ∧ x ≠ a + 1) (hd : 3 ≤ d9) (hmc : 2 ≤ mc) (hms : 10 ≤ ms) (i k f t s : Int32)
    (kk : V l G y_Ga_submit b_Ga_submit 7 (some FieldType.int) (rmL d9 mc ms) mc ms Z post (sbL L a) (sb1 M a i k f t) 2 10 [some (.ref 2), some (.int i), some (.int k), some (.int f), some (.int t), some (.int s), some (.ref a)] 18 []) :
    V l G y_Ga_submit b_Ga_submit 7 (some FieldType.int) (rmL d9 mc ms) mc ms Z post L M 0 0 [some (.ref 2), some (.int i), some (.int k), some (.int f), some (.int t), some (.int s), none] 0 [] := by
  refine V_new 3 a kc_Cr cl_Ga_7 in_Cr ii_Cr crFs ha (by omega) (fun h => (hZ a h).1 rfl) ⟨fun x hx => ?_, fun x hx => ?_⟩ (fun b hb => by simp [crF0] at hb) (show 0 + 1 ≤ mc by omega) (show 0 + 6 ≤ ms by omega) d_Ga_submit_0 rfl ?_
  · simp at hx; subst hx; omega
  · simp at hx
  have hla : va_up L a (some (.inr (3, crF0))) a = some (.inr (3, crF0)) := va_up_self _ _ _
  have hl2 : va_up L a (some (.inr (3, crF0))) 2 = some (.inr (9, none :: some (.ref 3) :: fs)) := (va_up_ne _ _ (by omega)).trans hL2
  have hl3 : va_up L a (some (.inr (3, crF0))) 3 = some (.inl (0, 4, none)) := (va_up_ne _ _ (by omega)).trans hL3
  have hln : va_up L a (some (.inr (3, crF0))) (a + 1) = none := (va_up_ne _ _ (by omega)).trans hn
  refine V_dup 4 rfl d_Ga_submit_3 rfl ?_
  refine V_il1 5 d_Ga_submit_4 rfl ?_
  refine V_il2 6 d_Ga_submit_5 rfl ?_
  refine V_al0 7 d_Ga_submit_6 rfl ?_
  refine V_getr 10 1 hl2 kc_Ga (by decide) fl_Ga_9 (Or.inl rfl) rfl d_Ga_submit_7 rfl ?_
  refine V_il3 11 d_Ga_submit_10 rfl ?_
  refine V_il4 13 d_Ga_submit_11 rfl ?_
  refine V_callI 16 (as := [.int i, .int k, .ref 3, .int f, .int t]) (c_Cr_init l G _ _ hs a (a + 1) 3 hla hln hl3 (by omega) i k f t) ok_Cr_init ml_Ga_75 im_Cr_init rfl (gRm_ok (by omega) (by decide)) rfl rfl (Nat.le_of_ble_eq_true rfl) d_Ga_submit_13 ⟨show 0 + 1 + 1 ≤ mc by omega, show 0 + 6 + 4 ≤ ms by omega⟩ (fun x hx => (hZ x hx).2) ⟨fun x hx => ?_, fun x hx => ?_⟩ rfl ?_
  · simp at hx; subst hx; show 2 ≠ a + 1; omega
  · simp at hx; exact fun h10 => (by have h9 : @Eq Nat x a := hx; have h11 : @Eq Nat x (a + 1) := h10; omega)
  intro v L9 M9 hpo
  obtain ⟨rfl, rfl, rfl⟩ := hpo
  refine V_as6 18 d_Ga_submit_16 (by decide) rfl ?_
  exact kk
theorem sbRest {L : gLy} {a : Nat} (ha : L a = none) (hn : L (a + 1) = none) : ∀ q kd, L q = some kd → sbL L a q = some kd := fun q kd hq => by
  rw [sbL_ne (fun h => (by rw [h, ha] at hq; cases hq)) (fun h => (by rw [h, hn] at hq; cases hq))]; exact hq
theorem sbRestM {L : gLy} {M : gMe} {a : Nat} {i k f t : Int32} (ha : L a = none) (hn : L (a + 1) = none) : ∀ q, L q ≠ none → M q = sb1 M a i k f t q := fun q hq => by
  rw [sb1_ne (fun h => hq (by rw [h]; exact ha)) (fun h => hq (by rw [h]; exact hn))]
end gSub

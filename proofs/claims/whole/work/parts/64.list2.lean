/-! the list takes another credential -/
/-- what the list needs known -/
def gAL (G : gG) : Prop := gSt G ∧ gHe G (fun U => va_T (.object "java/lang/Object") (G.2.2.2.2.1 0) 0 (fun _ => .null) (fun q => G.2.2.1 ≤ q) U U.heap) ∧ gHe G (fun U => va_AO "java/lang/Object" U) ∧ gHe G (fun U => va_Dc U) ∧ ∃ mi : Nat, gHe G (fun U => va_Mi "[Ljava/lang/Object;" mi U)
def arL (L : gLy) (e n : Nat) (f : Nat → Option Nat) : gLy := va_up L e (some (.inl (4, n, some (some f))))
theorem lsF_s (c : Nat) : va_up (lsF c) c (some (cP (c + 1))) = lsF (c + 1) := by
  funext j
  unfold lsF va_up
  by_cases h : j = c
  · subst h; simp
  · by_cases h2 : j < c
    · simp [h, h2, show j < c + 1 by omega]
    · simp [h, h2, show ¬ j < c + 1 by omega]
theorem lsF_c (c : Nat) : va_cpy (lsF c) (fun _ => none) 0 0 c = lsF c := by
  funext j
  unfold va_cpy lsF
  by_cases h2 : j < c
  · simp [h2]
  · simp [h2]
theorem lsF_n {c j b : Nat} (h : lsF c j = some b) : ∃ n, 1 ≤ n ∧ n ≤ c ∧ b = cP n := by
  unfold lsF at h
  split at h
  · rename_i h9; exact ⟨j + 1, by omega, by omega, (Option.some.inj h).symm⟩
  · cases h
theorem lsF_0 : lsF 0 = fun _ => none := by
  funext j; unfold lsF; simp
theorem nI_suc1 : ∀ c, c < 100 → nI (c + 1) - nI c = nI 1 := by decide +kernel
theorem nI_half : ∀ c, c < 100 → nI c >>> ((1 : Int32) &&& 31) = nI (c / 2) := by decide +kernel
def gCrs (L : gLy) (c : Nat) : Prop := ∀ n, 1 ≤ n → n ≤ c → gLR L (cP n) (cP n + 1)
theorem gN1_up {L : gLy} {a : Nat} {k : gK} (h : gN1 L) (hk : ¬ gRf k 1) : gN1 (va_up L a (some k)) := by
  intro b k' hb
  by_cases e : b = a
  · subst e; rw [va_up_self] at hb; cases hb; exact hk
  · rw [va_up_ne _ _ e] at hb; exact h b k' hb
set_option maxRecDepth 100000 in
set_option maxHeartbeats 4000000 in
theorem c_Ar_copyOf2 (l : Launch) (G : gG) (L : gLy) (M : gMe) (hmi : gMi1 G) (hao : gHe G (fun U => va_AO "java/lang/Object" U)) (e e' n c : Nat) (n' : Nat) (hL : L e = some (.inl (4, n, some (some (lsF c))))) (hcr : gCrs L c) (hn : L e' = none) (h2 : 2 ≤ e') (hc : c ≤ n) (hnn : n ≤ n') (hn' : n' < 1000) : gMet l G y_Ar_copyOf2 b_Ar_copyOf2 4 (some (FieldType.array (FieldType.object "java/lang/Object"))) (rmL 2 1 n') [.ref e, .int (nI n'), .ref 1] L M (fun x => x ≠ e') (gPo (some (.ref e')) (arL L e' n' (lsF c)) (va_up M e' (fun _ => 0))) 1 n' := by
  have hee : e ≠ e' := fun h => by rw [h, hn] at hL; cases hL
  have hL9 : va_up L e' (some (.inl (4, n', some (some (fun _ => none))))) e = some (.inl (4, n, some (some (lsF c)))) := (va_up_ne _ _ hee).trans hL
  refine gMet_of (lv := [some (.ref e), some (.int (nI n')), some (.ref 1), none]) (by decide) rfl (Nat.le_of_ble_eq_true rfl) rfl ?_
  refine V_al2 1 d_Ar_copyOf2_0 rfl ?_
  refine V_ldcM 3 hmi cl_Ar_110 d_Ar_copyOf2_1 rfl ?_
  refine V_acmpneS 6 (t := 13) d_Ar_copyOf2_3 (by decide) rfl ?_
  refine V_il1 7 d_Ar_copyOf2_6 rfl ?_
  refine V_anew 10 e' 4 n' rfl cl_Ar_2 hao rfl hn' hn h2 (fun h => h rfl) ⟨fun x hx => ?_, fun x hx => ?_⟩ (show 0 + 1 ≤ 1 by omega) (show 0 + n' ≤ n' by omega) d_Ar_copyOf2_7 rfl ?_
  · simp at hx; rcases hx with h9 | h9; exact fun h10 => hee (h9.symm.trans h10); exact fun h10 => (by have h11 : @Eq Nat x e' := h10; have h12 : @Eq Nat x 1 := h9; omega)
  · simp at hx
  refine V_goto 24 d_Ar_copyOf2_10 (by decide) ?_
  refine V_as3 25 d_Ar_copyOf2_24 (by decide) rfl ?_
  refine V_al0 26 d_Ar_copyOf2_25 rfl ?_
  refine V_iconst 27 (v := 0) (by decide) d_Ar_copyOf2_26 rfl ?_
  refine V_al3 28 d_Ar_copyOf2_27 rfl ?_
  refine V_iconst 29 (v := 0) (by decide) d_Ar_copyOf2_28 rfl ?_
  refine V_al0 30 d_Ar_copyOf2_29 rfl ?_
  refine V_alen 31 (.object "java/lang/Object") hL9 rfl rfl d_Ar_copyOf2_30 rfl ?_
  refine V_il1 32 d_Ar_copyOf2_31 rfl ?_
  refine V_mmin 35 mn_Ar (Nat.le_of_ble_eq_true rfl) (Nat.le_of_ble_eq_true rfl) (show 0 + 1 ≤ 1 by omega) (show 0 + n' ≤ n' by omega) d_Ar_copyOf2_32 rfl ?_
  refine V_topi (z := nI n) (by rw [if_neg (show ¬ nI n' < Int32.ofNat n from nI_nlt hnn (by omega))]; rfl) ?_
  refine V_copyq 38 n hL9 (va_up_self _ _ _) rfl rfl kc_Cr ca_CrO (fun i b hi hb => by
    obtain ⟨k, k1, k2, rfl⟩ := lsF_n hb
    exact ⟨_, (va_up_ne _ _ (fun h => by have h9 := (hcr k k1 k2).1; rw [h, hn] at h9; cases h9)).trans (hcr k k1 k2).1⟩) rfl (Nat.le_refl _) hnn (by omega) sy_Ar (Nat.le_of_ble_eq_true rfl) (Nat.le_of_ble_eq_true rfl) d_Ar_copyOf2_35 rfl ?_
  refine V_al3 39 d_Ar_copyOf2_38 rfl ?_
  refine V_mem (L' := arL L e' n' (lsF c)) (by
    rw [va_up_two]
    unfold arL
    congr 7
    funext j
    unfold va_cpy lsF
    by_cases h9 : j < c
    · simp [h9, show j < n by omega]
    · simp [h9]) rfl ?_
  have h1 : V l G y_Ar_copyOf2 b_Ar_copyOf2 4 (some (FieldType.array (FieldType.object "java/lang/Object"))) (rmL 2 1 n') 1 n' (fun x => x ≠ e') (gPo (some (.ref e')) (arL L e' n' (lsF c)) (va_up M e' (fun _ => 0))) (arL L e' n' (lsF c)) (va_up M e' (fun _ => 0)) 1 n' [some (.ref e), some (.int (nI n')), some (.ref 1), some (.ref e')] 39 [.ref e'] := V_aret rfl (Or.inr ⟨_, rfl⟩) (Or.inr ⟨_, rfl⟩) d_Ar_copyOf2_39 ⟨rfl, rfl, rfl⟩
  rw [show 0 + 1 = 1 from rfl, Nat.zero_add]
  exact h1
set_option maxRecDepth 100000 in
set_option maxHeartbeats 4000000 in
theorem c_Ar_copyOf9 (l : Launch) (G : gG) (L : gLy) (M : gMe) (hmi : gMi1 G) (hdc : gHe G (fun U => va_Dc U)) (hao : gHe G (fun U => va_AO "java/lang/Object" U)) (e e' n c : Nat) (n' : Nat) (hL : L e = some (.inl (4, n, some (some (lsF c))))) (hcr : gCrs L c) (hn : L e' = none) (h2 : 2 ≤ e') (hc : c ≤ n) (hnn : n ≤ n') (hn' : n' < 1000) : gMet l G y_Ar_copyOf b_Ar_copyOf 2 (some (FieldType.array (FieldType.object "java/lang/Object"))) (rmL 3 1 n') [.ref e, .int (nI n')] L M (fun x => x ≠ e') (gPo (some (.ref e')) (arL L e' n' (lsF c)) (va_up M e' (fun _ => 0))) 1 n' := by
  have hee : e ≠ e' := fun h => by rw [h, hn] at hL; cases hL
  refine gMet_of (lv := [some (.ref e), some (.int (nI n'))]) (by decide) rfl (Nat.le_of_ble_eq_true rfl) rfl ?_
  refine V_al0 1 d_Ar_copyOf_0 rfl ?_
  refine V_il1 2 d_Ar_copyOf_1 rfl ?_
  refine V_al0 3 d_Ar_copyOf_2 rfl ?_
  refine V_getC 6 hmi hdc hL gc_Ar (Nat.le_of_ble_eq_true rfl) (Nat.le_of_ble_eq_true rfl) d_Ar_copyOf_3 rfl ?_
  refine V_callS 9 (c_Ar_copyOf2 l G L M hmi hao e e' n c n' hL hcr hn h2 hc hnn hn') ok_Ar_copyOf2 ml_Ar_300 st_Ar_copyOf2 (gRm_ok (by decide) (by decide)) rfl rfl (Nat.le_of_ble_eq_true rfl) d_Ar_copyOf_6 ⟨show 0 + 1 ≤ 1 by omega, show 0 + n' ≤ n' by omega⟩ (fun x hx => hx) ⟨fun x hx => ?_, fun x hx => ?_⟩ rfl ?_
  · simp at hx; exact fun h10 => hee (hx.symm.trans h10)
  · simp at hx
  intro v9 L9 M9 hpo
  obtain ⟨rfl, rfl, rfl⟩ := hpo
  rw [show 0 + 1 = 1 from rfl, Nat.zero_add]
  exact V_aret rfl (Or.inr ⟨_, rfl⟩) (Or.inr ⟨_, rfl⟩) d_Ar_copyOf_9 ⟨rfl, rfl, rfl⟩
theorem c_Ar_copyOf (l : Launch) (G : gG) (L : gLy) (M : gMe) (hal : gAL G) (h1 : gN1 L) (e e' n c : Nat) (n' : Nat) (he : 2 ≤ e) (hL : L e = some (.inl (4, n, some (some (lsF c))))) (hcr : gCrs L c) (hn : L e' = none) (h2 : 2 ≤ e') (hc : c ≤ n) (hnn : n ≤ n') (hn' : n' < 1000) : gMet l G y_Ar_copyOf b_Ar_copyOf 2 (some (FieldType.array (FieldType.object "java/lang/Object"))) (rmL 3 1 n') [.ref e, .int (nI n')] L M (fun x => x ≠ e') (gPo (some (.ref e')) (arL L e' n' (lsF c)) (va_up M e' (fun _ => 0))) 1 n' := by
  obtain ⟨-, -, h3, h4, mi, h5⟩ := hal
  have h9 := gMet.swap (z := G.2.2.2.2.1 1) (c_Ar_copyOf9 l (gG1 G mi) L M (show gHe G (fun U => va_Mi "[Ljava/lang/Object;" (va_up G.2.2.2.2.1 1 mi 1) U) by rw [va_up_self]; exact h5) h4 h3 e e' n c n' hL hcr hn h2 hc hnn hn') h1 (fun v hv => by
    simp at hv
    rcases hv with rfl | rfl
    · exact fun h => (by have h9 : @Eq Nat e 1 := Value.ref.inj h; omega)
    · exact fun h => by cases h) (fun v L' M' hpo => by
    obtain ⟨rfl, rfl, rfl⟩ := hpo
    exact ⟨fun h => (by have h9 : @Eq Nat e' 1 := Value.ref.inj (Option.some.inj h); omega), gN1_up h1 (fun h => by
      obtain ⟨q, hq⟩ := h
      obtain ⟨k, -, -, h9⟩ := lsF_n hq
      unfold cP at h9; omega)⟩)
  have e9 : gG1 (gG1 G mi) (G.2.2.2.2.1 1) = G := by
    show (G.1, G.2.1, G.2.2.1, G.2.2.2.1, va_up (va_up G.2.2.2.2.1 1 mi) 1 (G.2.2.2.2.1 1), G.2.2.2.2.2) = G
    rw [va_up_two, va_up_id]
  rw [e9] at h9
  exact h9
def l5 (e : Nat) : Option gK := some (.inr (0, [some (.ref e), none, none]))
def grL (L : gLy) (e' n' c : Nat) : gLy := va_up (arL L e' n' (lsF c)) 5 (l5 e')
set_option maxRecDepth 100000 in
set_option maxHeartbeats 4000000 in
theorem c_AL_grow2_F (l : Launch) (G : gG) (L : gLy) (M : gMe) (hal : gAL G) (e' : Nat) (h5 : L 5 = l5 0) (hn : L e' = none) (h2 : 2 ≤ e') : gMet l G y_AL_grow2 b_AL_grow2 4 (some (FieldType.array (FieldType.object "java/lang/Object"))) (rmL 4 1 10) [.ref 5, .int 1] L M (fun x => x ≠ e') (gPo (some (.ref e')) (grL L e' 10 0) (va_up M e' (fun _ => 0))) 1 10 := by
  have h5e : (5 : Nat) ≠ e' := fun h => by rw [← h, h5] at hn; cases hn
  have h59 : va_up L e' (some (.inl (4, 10, some (some (fun _ => none))))) 5 = l5 0 := (va_up_ne _ _ h5e).trans h5
  refine gMet_of (lv := [some (.ref 5), some (.int 1), none, none]) (by decide) rfl (Nat.le_of_ble_eq_true rfl) rfl ?_
  refine V_al0 1 d_AL_grow2_0 rfl ?_
  refine V_getr 4 0 h5 kc_AL (by decide) fl_AL_9 (Or.inl rfl) rfl d_AL_grow2_1 rfl ?_
  refine V_alenS 5 (i := 0) hal.2.1 (by decide) d_AL_grow2_4 rfl ?_
  refine V_is2 6 d_AL_grow2_5 (by decide) rfl ?_
  refine V_il2 7 d_AL_grow2_6 rfl ?_
  refine V_if_gt 20 10 d_AL_grow2_7 (by decide) rfl (fun h9 => absurd h9 (by decide)) (fun _ => ?_)
  refine V_al0 11 d_AL_grow2_10 rfl ?_
  refine V_getr 14 0 h5 kc_AL (by decide) fl_AL_9 (Or.inl rfl) rfl d_AL_grow2_11 rfl ?_
  refine V_gets 17 0 hal.1.2.2 (by decide) ff_AL_39 d_AL_grow2_14 rfl ?_
  refine V_acmpeqS 45 d_AL_grow2_17 (by decide) ?_
  refine V_al0 46 d_AL_grow2_45 rfl ?_
  refine V_bipush 48 (v := 10) (by decide) d_AL_grow2_46 rfl ?_
  refine V_il1 49 d_AL_grow2_48 rfl ?_
  refine V_mmax 52 mx_AL (Nat.le_of_ble_eq_true rfl) (Nat.le_of_ble_eq_true rfl) (Nat.le_of_ble_eq_true rfl) (Nat.le_of_ble_eq_true rfl) d_AL_grow2_49 rfl ?_
  refine V_topi (z := nI 10) (by decide) ?_
  refine V_anew 55 e' 4 10 rfl cl_AL_7 hal.2.2.1 rfl (by decide) hn h2 (fun h => h rfl) ⟨fun x hx => ?_, fun x hx => ?_⟩ (Nat.le_of_ble_eq_true rfl) (Nat.le_of_ble_eq_true rfl) d_AL_grow2_52 rfl ?_
  · simp at hx; exact fun h10 => h5e (hx.symm.trans h10)
  · simp at hx; exact fun h10 => h5e (hx.symm.trans h10)
  refine V_dup_x1 56 rfl rfl d_AL_grow2_55 rfl ?_
  refine V_putr 59 0 h59 kc_AL (by decide) fl_AL_9 (Or.inl rfl) rfl (fun r => rfl) (fun r => rfl) (by decide) (fun c hc => Or.inr (by cases hc; rw [va_up_self]; exact fun h => by cases h)) d_AL_grow2_56 rfl ?_
  exact V_aret rfl (Or.inr ⟨_, rfl⟩) (Or.inr ⟨_, rfl⟩) d_AL_grow2_59 ⟨rfl, by unfold grL arL; rw [lsF_0]; rfl, rfl⟩
set_option maxRecDepth 100000 in
set_option maxHeartbeats 4000000 in
theorem c_AL_grow2_G (l : Launch) (G : gG) (L : gLy) (M : gMe) (hal : gAL G) (h1 : gN1 L) (e e' c : Nat) (he : 2 ≤ e) (hc2 : 2 ≤ c) (hc : c < 100) (h5 : L 5 = l5 e) (hL : L e = some (.inl (4, c, some (some (lsF c))))) (hcr : gCrs L c) (hn : L e' = none) (h2 : 2 ≤ e') : gMet l G y_AL_grow2 b_AL_grow2 4 (some (FieldType.array (FieldType.object "java/lang/Object"))) (rmL 4 1 (c + c / 2)) [.ref 5, .int (nI (c + 1))] L M (fun x => x ≠ e') (gPo (some (.ref e')) (grL L e' (c + c / 2) c) (va_up M e' (fun _ => 0))) 1 (c + c / 2) := by
  have h5e : (5 : Nat) ≠ e' := fun h => by rw [← h, h5] at hn; cases hn
  have hee : e ≠ e' := fun h => by rw [h, hn] at hL; cases hL
  have h59 : arL L e' (c + c / 2) (lsF c) 5 = l5 e := (va_up_ne _ _ h5e).trans h5
  refine gMet_of (lv := [some (.ref 5), some (.int (nI (c + 1))), none, none]) (by decide) rfl (Nat.le_of_ble_eq_true rfl) rfl ?_
  refine V_al0 1 d_AL_grow2_0 rfl ?_
  refine V_getr 4 0 h5 kc_AL (by decide) fl_AL_9 (Or.inl rfl) rfl d_AL_grow2_1 rfl ?_
  refine V_alen 5 (v := nI c) (.object "java/lang/Object") hL rfl rfl d_AL_grow2_4 rfl ?_
  refine V_is2 6 d_AL_grow2_5 (by decide) rfl ?_
  refine V_il2 7 d_AL_grow2_6 rfl ?_
  refine V_if_gt 20 10 d_AL_grow2_7 (by decide) rfl (fun _ => ?_) (fun h9 => absurd (nI_lt (a := 0) (b := c) (by omega) (by omega)) h9)
  refine V_il2 21 d_AL_grow2_20 rfl ?_
  refine V_il1 22 d_AL_grow2_21 rfl ?_
  refine V_il2 23 d_AL_grow2_22 rfl ?_
  refine V_isub 24 d_AL_grow2_23 rfl ?_
  refine V_topi (z := nI 1) (nI_suc1 c hc) ?_
  refine V_il2 25 d_AL_grow2_24 rfl ?_
  refine V_iconst 26 (v := 1) (by decide) d_AL_grow2_25 rfl ?_
  refine V_ishr 27 d_AL_grow2_26 rfl ?_
  refine V_topi (z := nI (c / 2)) (nI_half c hc) ?_
  refine V_cS1 30 (c_As_newLength l G _ _ c 1 (c / 2) (by omega) (by omega) (by omega) (by omega)) ok_As_newLength ml_AL_73 st_As_newLength (gRm_ok (by decide) (by decide)) rfl rfl (Nat.le_of_ble_eq_true rfl) d_AL_grow2_27 ⟨Nat.zero_le _, Nat.zero_le _⟩ rfl ?_
  refine V_is3 31 d_AL_grow2_30 (by decide) rfl ?_
  refine V_al0 32 d_AL_grow2_31 rfl ?_
  refine V_al0 33 d_AL_grow2_32 rfl ?_
  refine V_getr 36 0 h5 kc_AL (by decide) fl_AL_9 (Or.inl rfl) rfl d_AL_grow2_33 rfl ?_
  refine V_il3 37 d_AL_grow2_36 rfl ?_
  refine V_callS 40 (c_Ar_copyOf l G L M hal h1 e e' c c (c + c / 2) he hL hcr hn h2 (Nat.le_refl _) (by omega) (by omega)) ok_Ar_copyOf ml_AL_66 st_Ar_copyOf (gRm_ok (by decide) (by decide)) rfl rfl (Nat.le_of_ble_eq_true rfl) d_AL_grow2_37 ⟨show 0 + 1 ≤ 1 by omega, show 0 + (c + c / 2) ≤ c + c / 2 by omega⟩ (fun x hx => hx) ⟨fun x hx => ?_, fun x hx => ?_⟩ rfl ?_
  · simp at hx; exact fun h10 => h5e (hx.symm.trans h10)
  · simp at hx; exact fun h10 => h5e (hx.symm.trans h10)
  intro v9 L9 M9 hpo
  obtain ⟨rfl, rfl, rfl⟩ := hpo
  rw [show 0 + 1 = 1 from rfl, Nat.zero_add]
  refine V_dup_x1 41 rfl rfl d_AL_grow2_40 rfl ?_
  refine V_putr 44 0 h59 kc_AL (by decide) fl_AL_9 (Or.inl rfl) rfl (fun r => rfl) (fun r => rfl) (Nat.le_of_ble_eq_true rfl) (fun c hc => Or.inr (by cases hc; unfold arL; rw [va_up_self]; exact fun h => by cases h)) d_AL_grow2_41 rfl ?_
  exact V_aret rfl (Or.inr ⟨_, rfl⟩) (Or.inr ⟨_, rfl⟩) d_AL_grow2_44 ⟨rfl, rfl, rfl⟩
/-- where the list has no room: it grows at e' to n' -/
def gGr (l : Launch) (G : gG) (L : gLy) (M : gMe) (c e' n' : Nat) : Prop := gMet l G y_AL_grow2 b_AL_grow2 4 (some (FieldType.array (FieldType.object "java/lang/Object"))) (rmL 4 1 n') [.ref 5, .int (nI (c + 1))] L M (fun x => x ≠ e') (gPo (some (.ref e')) (grL L e' n' c) (va_up M e' (fun _ => 0))) 1 n'
set_option maxRecDepth 100000 in
set_option maxHeartbeats 4000000 in
theorem c_AL_grow (l : Launch) (G : gG) (L : gLy) (M : gMe) (e e' c n' : Nat) (h5 : L 5 = l5 e) (hn : L e' = none) (hs : M 5 1 = nI c) (hg : gGr l G L M c e' n') : gMet l G y_AL_grow b_AL_grow 1 (some (FieldType.array (FieldType.object "java/lang/Object"))) (rmL 5 1 n') [.ref 5] L M (fun x => x ≠ e') (gPo (some (.ref e')) (grL L e' n' c) (va_up M e' (fun _ => 0))) 1 n' := by
  have h5e : (5 : Nat) ≠ e' := fun h => by rw [← h, h5] at hn; cases hn
  refine gMet_of (lv := [some (.ref 5)]) (by decide) rfl (Nat.le_of_ble_eq_true rfl) rfl ?_
  refine V_al0 1 d_AL_grow_0 rfl ?_
  refine V_al0 2 d_AL_grow_1 rfl ?_
  refine V_geti 5 1 h5 kc_AL (by decide) fl_AL_48 (Or.inl rfl) rfl d_AL_grow_2 rfl ?_
  refine V_iconst 6 (v := 1) (by decide) d_AL_grow_5 rfl ?_
  refine V_iadd 7 d_AL_grow_6 rfl ?_
  refine V_topi (z := nI (c + 1)) (by rw [hs]; exact nI_1 c) ?_
  refine V_callV 10 (as := [.int (nI (c + 1))]) hg ok_AL_grow2 ml_AL_69 im_AL_grow2 se_AL_grow2 h5 kc_AL (gRm_ok (by decide) (by decide)) rfl rfl (Nat.le_of_ble_eq_true rfl) d_AL_grow_7 ⟨show 0 + 1 ≤ 1 by omega, show 0 + n' ≤ n' by omega⟩ (fun x hx => hx) ⟨fun x hx => ?_, fun x hx => ?_⟩ rfl ?_
  · simp at hx; exact fun h10 => h5e (hx.symm.trans h10)
  · simp at hx
  intro v9 L9 M9 hpo
  obtain ⟨rfl, rfl, rfl⟩ := hpo
  rw [show 0 + 1 = 1 from rfl, Nat.zero_add]
  exact V_aret rfl (Or.inr ⟨_, rfl⟩) (Or.inr ⟨_, rfl⟩) d_AL_grow_10 ⟨rfl, rfl, rfl⟩
def adL (L : gLy) (e n c : Nat) : gLy := va_up L e (some (.inl (4, n, some (some (lsF (c + 1))))))
set_option maxRecDepth 100000 in
set_option maxHeartbeats 4000000 in
theorem c_AL_add2_R (l : Launch) (G : gG) (L : gLy) (M : gMe) (e n c : Nat) (hcn : c < n) (hn9 : n < 1000) (h5 : L 5 = l5 e) (hL : L e = some (.inl (4, n, some (some (lsF c))))) (hb : gLR L (cP (c + 1)) (cP (c + 1) + 1)) : gMet l G y_AL_add2 b_AL_add2 4 none (rmL 1 0 0) [.ref 5, .ref (cP (c + 1)), .ref e, .int (nI c)] L M gAll (gPo none (adL L e n c) (gst M 5 1 (nI (c + 1)))) 0 0 := by
  have h5e : (5 : Nat) ≠ e := fun h => by rw [← h, h5] at hL; cases hL
  refine gMet_of (lv := [some (.ref 5), some (.ref (cP (c + 1))), some (.ref e), some (.int (nI c))]) (by decide) rfl (Nat.le_of_ble_eq_true rfl) rfl ?_
  refine V_il3 1 d_AL_add2_0 rfl ?_
  refine V_al2 2 d_AL_add2_1 rfl ?_
  refine V_alen 3 (v := nI n) (.object "java/lang/Object") hL rfl rfl d_AL_add2_2 rfl ?_
  refine V_icmp_ne 11 6 d_AL_add2_3 (by decide) rfl (fun _ => ?_) (fun h9 => absurd h9 (Int32.ne_of_lt (nI_lt hcn (by omega))))
  refine V_al2 12 d_AL_add2_11 rfl ?_
  refine V_il3 13 d_AL_add2_12 rfl ?_
  refine V_al1 14 d_AL_add2_13 rfl ?_
  refine V_aastO 15 c hL rfl hb.1 kc_Cr ca_CrO rfl hcn (by omega) d_AL_add2_14 rfl ?_
  refine V_mem (L' := adL L e n c) (by unfold adL; rw [lsF_s]) rfl ?_
  have h59 : adL L e n c 5 = l5 e := (va_up_ne _ _ h5e).trans h5
  refine V_al0 16 d_AL_add2_15 rfl ?_
  refine V_il3 17 d_AL_add2_16 rfl ?_
  refine V_iconst 18 (v := 1) (by decide) d_AL_add2_17 rfl ?_
  refine V_iadd 19 d_AL_add2_18 rfl ?_
  refine V_topi (z := nI (c + 1)) (nI_1 c) ?_
  refine V_puti 22 1 h59 kc_AL (by decide) fl_AL_48 (Or.inl rfl) rfl rfl rfl rfl d_AL_add2_19 rfl ?_
  exact V_vret rfl d_AL_add2_22 ⟨rfl, rfl, rfl⟩
set_option maxRecDepth 100000 in
set_option maxHeartbeats 4000000 in
theorem c_AL_add2_F (l : Launch) (G : gG) (L : gLy) (M : gMe) (e' c n' : Nat) (hal : gAL G) (h5 : L 5 = l5 0) (hc0 : c = 0) (hn : L e' = none) (he0 : 2 ≤ e') (hs : M 5 1 = nI c) (hg : gGr l G L M c e' n') (hcn : c < n') (hn9 : n' < 1000) (hb : gLR L (cP (c + 1)) (cP (c + 1) + 1)) : gMet l G y_AL_add2 b_AL_add2 4 none (rmL 6 1 n') [.ref 5, .ref (cP (c + 1)), .ref 0, .int (nI c)] L M (fun x => x ≠ e') (gPo none (adL (grL L e' n' c) e' n' c) (gst (va_up M e' (fun _ => 0)) 5 1 (nI (c + 1)))) 1 n' := by
  have h5e : (5 : Nat) ≠ e' := fun h => by rw [← h, h5] at hn; cases hn
  have hbe : cP (c + 1) ≠ e' := fun h => by have h9 := hb.1; rw [h, hn] at h9; cases h9
  have hb5 : cP (c + 1) ≠ 5 := by unfold cP; omega
  subst hc0
  refine gMet_of (lv := [some (.ref 5), some (.ref (cP (0 + 1))), some (.ref 0), some (.int (nI 0))]) (by decide) rfl (Nat.le_of_ble_eq_true rfl) rfl ?_
  refine V_il3 1 d_AL_add2_0 rfl ?_
  refine V_al2 2 d_AL_add2_1 rfl ?_
  refine V_alenS 3 (i := 0) hal.2.1 (by decide) d_AL_add2_2 rfl ?_
  refine V_icmp_ne 11 6 d_AL_add2_3 (by decide) rfl (fun h9 => absurd rfl h9) (fun _ => ?_)
  refine V_al0 7 d_AL_add2_6 rfl ?_
  refine V_callV 10 (as := []) (c_AL_grow l G L M 0 e' _ n' h5 hn hs hg) ok_AL_grow ml_AL_129 im_AL_grow se_AL_grow h5 kc_AL (gRm_ok (by decide) (by decide)) rfl rfl (Nat.le_of_ble_eq_true rfl) d_AL_add2_7 ⟨show 0 + 1 ≤ 1 by omega, show 0 + n' ≤ n' by omega⟩ (fun x hx => hx) ⟨fun x hx => ?_, fun x hx => ?_⟩ rfl ?_
  · simp at hx; rcases hx with h9 | h9 | h9; exact fun h10 => h5e (h9.symm.trans h10); exact fun h10 => hbe (h9.symm.trans h10); exact fun h10 => (by have h11 : @Eq Nat x e' := h10; have h12 : @Eq Nat x 0 := h9; omega)
  · simp at hx
  intro v9 L9 M9 hpo
  obtain ⟨rfl, rfl, rfl⟩ := hpo
  rw [show 0 + 1 = 1 from rfl, Nat.zero_add]
  refine V_as2 11 d_AL_add2_10 (by decide) rfl ?_
  refine V_al2 12 d_AL_add2_11 rfl ?_
  refine V_il3 13 d_AL_add2_12 rfl ?_
  refine V_al1 14 d_AL_add2_13 rfl ?_
  refine V_aastO 15 _ ((va_up_ne _ _ (Ne.symm h5e)).trans (va_up_self _ _ _)) rfl ((va_up_ne _ _ hb5).trans ((va_up_ne _ _ hbe).trans hb.1)) kc_Cr ca_CrO rfl hcn (by omega) d_AL_add2_14 rfl ?_
  refine V_mem (L' := adL (grL L e' n' 0) e' n' 0) (by unfold adL; rw [lsF_s]) rfl ?_
  have h59 : adL (grL L e' n' 0) e' n' 0 5 = l5 e' := (va_up_ne _ _ h5e).trans (va_up_self _ _ _)
  refine V_al0 16 d_AL_add2_15 rfl ?_
  refine V_il3 17 d_AL_add2_16 rfl ?_
  refine V_iconst 18 (v := 1) (by decide) d_AL_add2_17 rfl ?_
  refine V_iadd 19 d_AL_add2_18 rfl ?_
  refine V_topi (nI_1 _) ?_
  refine V_puti 22 1 h59 kc_AL (by decide) fl_AL_48 (Or.inl rfl) rfl rfl rfl rfl d_AL_add2_19 rfl ?_
  exact V_vret rfl d_AL_add2_22 ⟨rfl, rfl, rfl⟩
set_option maxRecDepth 100000 in
set_option maxHeartbeats 4000000 in
theorem c_AL_add2_G (l : Launch) (G : gG) (L : gLy) (M : gMe) (e : Nat) (e' c n' : Nat) (h5 : L 5 = l5 e) (hL : L e = some (.inl (4, c, some (some (lsF c))))) (hee : e ≠ e') (hn : L e' = none) (he0 : 2 ≤ e') (hs : M 5 1 = nI c) (hg : gGr l G L M c e' n') (hcn : c < n') (hn9 : n' < 1000) (hb : gLR L (cP (c + 1)) (cP (c + 1) + 1)) : gMet l G y_AL_add2 b_AL_add2 4 none (rmL 6 1 n') [.ref 5, .ref (cP (c + 1)), .ref e, .int (nI c)] L M (fun x => x ≠ e') (gPo none (adL (grL L e' n' c) e' n' c) (gst (va_up M e' (fun _ => 0)) 5 1 (nI (c + 1)))) 1 n' := by
  have h5e : (5 : Nat) ≠ e' := fun h => by rw [← h, h5] at hn; cases hn
  have hbe : cP (c + 1) ≠ e' := fun h => by have h9 := hb.1; rw [h, hn] at h9; cases h9
  have hb5 : cP (c + 1) ≠ 5 := by unfold cP; omega
  skip
  refine gMet_of (lv := [some (.ref 5), some (.ref (cP (c + 1))), some (.ref e), some (.int (nI c))]) (by decide) rfl (Nat.le_of_ble_eq_true rfl) rfl ?_
  refine V_il3 1 d_AL_add2_0 rfl ?_
  refine V_al2 2 d_AL_add2_1 rfl ?_
  refine V_alen 3 (v := nI c) (.object "java/lang/Object") hL rfl rfl d_AL_add2_2 rfl ?_
  refine V_icmp_ne 11 6 d_AL_add2_3 (by decide) rfl (fun h9 => absurd rfl h9) (fun _ => ?_)
  refine V_al0 7 d_AL_add2_6 rfl ?_
  refine V_callV 10 (as := []) (c_AL_grow l G L M e e' _ n' h5 hn hs hg) ok_AL_grow ml_AL_129 im_AL_grow se_AL_grow h5 kc_AL (gRm_ok (by decide) (by decide)) rfl rfl (Nat.le_of_ble_eq_true rfl) d_AL_add2_7 ⟨show 0 + 1 ≤ 1 by omega, show 0 + n' ≤ n' by omega⟩ (fun x hx => hx) ⟨fun x hx => ?_, fun x hx => ?_⟩ rfl ?_
  · simp at hx; rcases hx with h9 | h9 | h9; exact fun h10 => h5e (h9.symm.trans h10); exact fun h10 => hbe (h9.symm.trans h10); exact fun h10 => hee (h9.symm.trans h10)
  · simp at hx
  intro v9 L9 M9 hpo
  obtain ⟨rfl, rfl, rfl⟩ := hpo
  rw [show 0 + 1 = 1 from rfl, Nat.zero_add]
  refine V_as2 11 d_AL_add2_10 (by decide) rfl ?_
  refine V_al2 12 d_AL_add2_11 rfl ?_
  refine V_il3 13 d_AL_add2_12 rfl ?_
  refine V_al1 14 d_AL_add2_13 rfl ?_
  refine V_aastO 15 _ ((va_up_ne _ _ (Ne.symm h5e)).trans (va_up_self _ _ _)) rfl ((va_up_ne _ _ hb5).trans ((va_up_ne _ _ hbe).trans hb.1)) kc_Cr ca_CrO rfl hcn (by omega) d_AL_add2_14 rfl ?_
  refine V_mem (L' := adL (grL L e' n' c) e' n' c) (by unfold adL; rw [lsF_s]) rfl ?_
  have h59 : adL (grL L e' n' c) e' n' c 5 = l5 e' := (va_up_ne _ _ h5e).trans (va_up_self _ _ _)
  refine V_al0 16 d_AL_add2_15 rfl ?_
  refine V_il3 17 d_AL_add2_16 rfl ?_
  refine V_iconst 18 (v := 1) (by decide) d_AL_add2_17 rfl ?_
  refine V_iadd 19 d_AL_add2_18 rfl ?_
  refine V_topi (nI_1 _) ?_
  refine V_puti 22 1 h59 kc_AL (by decide) fl_AL_48 (Or.inl rfl) rfl rfl rfl rfl d_AL_add2_19 rfl ?_
  exact V_vret rfl d_AL_add2_22 ⟨rfl, rfl, rfl⟩
/-- the list's own row takes it: over any way of add2 -/
def gA2 (l : Launch) (G : gG) (L L' : gLy) (M M' : gMe) (e c d mc ms : Nat) (Z : Nat → Prop) : Prop := gMet l G y_AL_add2 b_AL_add2 4 none (rmL d mc ms) [.ref 5, .ref (cP (c + 1)), .ref e, .int (nI c)] L M Z (gPo none L' M') mc ms
set_option maxRecDepth 100000 in
set_option maxHeartbeats 4000000 in
theorem c_AL_add (l : Launch) (G : gG) (L L' : gLy) (M M' : gMe) (e c d mc ms : Nat) (hd : d ≤ 6) (Z : Nat → Prop) (hZ5 : Z 5) (hZb : Z (cP (c + 1))) (h5 : L 5 = l5 e) (hs : M 5 1 = nI c) (h2 : gA2 l G L L' (gst M 5 2 (M 5 2 + 1)) M' e c d mc ms Z) : gMet l G y_AL_add b_AL_add 2 (some FieldType.boolean) (rmL 7 mc ms) [.ref 5, .ref (cP (c + 1))] L M Z (gPo (some (.int 1)) L' M') mc ms := by
  refine gMet_of (lv := [some (.ref 5), some (.ref (cP (c + 1)))]) (by decide) rfl (Nat.le_of_ble_eq_true rfl) rfl ?_
  refine V_al0 1 d_AL_add_0 rfl ?_
  refine V_dup 2 rfl d_AL_add_1 rfl ?_
  refine V_geti 5 2 h5 kc_AL (by decide) fl_AL_63 (Or.inr sf_AL_modCount) rfl d_AL_add_2 rfl ?_
  refine V_iconst 6 (v := 1) (by decide) d_AL_add_5 rfl ?_
  refine V_iadd 7 d_AL_add_6 rfl ?_
  refine V_puti 10 2 h5 kc_AL (by decide) fl_AL_63 (Or.inr sf_AL_modCount) rfl rfl rfl rfl d_AL_add_7 rfl ?_
  refine V_al0 11 d_AL_add_10 rfl ?_
  refine V_al1 12 d_AL_add_11 rfl ?_
  refine V_al0 13 d_AL_add_12 rfl ?_
  refine V_getr 16 0 h5 kc_AL (by decide) fl_AL_9 (Or.inl rfl) rfl d_AL_add_13 rfl ?_
  refine V_al0 17 d_AL_add_16 rfl ?_
  refine V_geti 20 1 h5 kc_AL (by decide) fl_AL_48 (Or.inl rfl) rfl d_AL_add_17 rfl ?_
  refine V_topi (z := nI c) (by rw [gst_same]; simp [upd]; exact hs) ?_
  refine V_callV 23 (as := [.ref (cP (c + 1)), .ref e, .int (nI c)]) h2 ok_AL_add2 ml_AL_131 im_AL_add2 se_AL_add2 h5 kc_AL (gRm_ok (by omega) (by decide)) rfl rfl (Nat.le_of_ble_eq_true rfl) d_AL_add_20 ⟨show 0 + mc ≤ mc by omega, show 0 + ms ≤ ms by omega⟩ (fun x hx => hx) ⟨fun x hx => ?_, fun x hx => ?_⟩ rfl ?_
  · simp at hx; rcases hx with h9 | h9 <;> (rw [h9]; assumption)
  · simp at hx
  intro v9 L9 M9 hpo
  obtain ⟨rfl, rfl, rfl⟩ := hpo
  rw [Nat.zero_add, Nat.zero_add]
  refine V_iconst 24 (v := 1) (by decide) d_AL_add_23 rfl ?_
  exact V_zret rfl rfl d_AL_add_24 ⟨rfl, rfl, rfl⟩
set_option maxRecDepth 100000 in
set_option maxHeartbeats 4000000 in
theorem c_Cs_take (l : Launch) (G : gG) (L L' : gLy) (M M' : gMe) (e c d mc ms : Nat) (hd : d ≤ 6) (Z : Nat → Prop) (hZ4 : Z 4) (hZ5 : Z 5) (hZb : Z (cP (c + 1))) (h4 : L 4 = some (.inr (4, [some (.ref 5), none]))) (h5 : L 5 = l5 e) (hs : M 5 1 = nI c) (h2 : gA2 l G L L' (gst M 5 2 (M 5 2 + 1)) M' e c d mc ms Z) (h4' : L' 4 = some (.inr (4, [some (.ref 5), none]))) (hH' : gLH L' (c + 1)) (hs' : M' 5 1 = nI (c + 1)) : gMet l G y_Cs_take b_Cs_take 2 (some FieldType.int) (rmL 8 mc ms) [.ref 4, .ref (cP (c + 1))] L M Z (gPo (some (.int (nI (c + 1)))) L' M') mc ms := by
  refine gMet_of (lv := [some (.ref 4), some (.ref (cP (c + 1)))]) (by decide) rfl (Nat.le_of_ble_eq_true rfl) rfl ?_
  refine V_al0 1 d_Cs_take_0 rfl ?_
  refine V_getr 4 0 h4 kc_Cs (by decide) fl_Cs_10 (Or.inl rfl) rfl d_Cs_take_1 rfl ?_
  refine V_al1 5 d_Cs_take_4 rfl ?_
  refine V_callV 8 (as := [.ref (cP (c + 1))]) (c_AL_add l G L L' M M' e c d mc ms hd Z hZ5 hZb h5 hs h2) ok_AL_add ml_Cs_20 im_AL_add se_AL_add h5 kc_AL (gRm_ok (by decide) (by decide)) rfl rfl (Nat.le_of_ble_eq_true rfl) d_Cs_take_5 ⟨show 0 + mc ≤ mc by omega, show 0 + ms ≤ ms by omega⟩ (fun x hx => hx) ⟨fun x hx => ?_, fun x hx => ?_⟩ rfl ?_
  · simp at hx; rcases hx with h9 | h9 <;> (rw [h9]; assumption)
  · simp at hx
  intro v9 L9 M9 hpo
  obtain ⟨rfl, rfl, rfl⟩ := hpo
  rw [Nat.zero_add, Nat.zero_add]
  refine V_pop 9 rfl d_Cs_take_8 rfl ?_
  refine V_al0 10 d_Cs_take_9 rfl ?_
  refine V_getr 13 0 h4' kc_Cs (by decide) fl_Cs_10 (Or.inl rfl) rfl d_Cs_take_10 rfl ?_
  obtain ⟨e9, cap, h59, -⟩ := id hH'
  refine V_cV1 16 (c_AL_size l G _ _ (c + 1) hH') ok_AL_size ml_Cs_16 im_AL_size se_AL_size h59 kc_AL (gRm_ok (by decide) (by decide)) rfl rfl (Nat.le_of_ble_eq_true rfl) d_Cs_take_13 ⟨Nat.le_refl _, Nat.le_refl _⟩ rfl ?_
  exact V_iret rfl d_Cs_take_16 ⟨by rw [hs'], rfl, rfl⟩

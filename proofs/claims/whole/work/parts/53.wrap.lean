/-! the law: calls that return -/
set_option maxRecDepth 100000 in
theorem w_Lw_submit (l : Launch) (G : gG) (L : gLy) (M : gMe) {fs : List (Option Value)} (hL2 : L 2 = some (.inr (9, fs))) {Z1 : Nat → Prop} {L1 : gLy} {M1 : gMe} {y9 : Int32} {d1 mc1 ms1 : Nat} (i k f t s : Int32) (hM : gMet l G y_Ga_submit b_Ga_submit 7 (some FieldType.int) (rmL d1 mc1 ms1) [.ref 2, .int i, .int k, .int f, .int t, .int s] L M Z1 (gPo (some (.int y9)) L1 M1) mc1 ms1) (h2 : Z1 2) (h4 : Z1 450) (h450 : L1 450 = some (.inl (2, 1, some none))) : gMetH l G y_Lw_submit b_Lw_submit 8 (some FieldType.int) hs_submit (rmL (d1 + 1) mc1 ms1) [.ref 2, .int i, .int k, .int f, .int t, .int s, .ref 450] L M Z1 (gPo (some (.int 0)) L1 (gst M1 450 0 y9)) mc1 ms1 := by
  refine gMetH_of (lv := [some (.ref 2), some (.int i), some (.int k), some (.int f), some (.int t), some (.int s), some (.ref 450), none]) (by decide) rfl (Nat.le_of_ble_eq_true rfl) rfl ?_
  refine V_al6 2 d_Lw_submit_0 rfl ?_
  refine V_iconst 3 (v := 0) (by decide) d_Lw_submit_2 rfl ?_
  refine V_al0 4 d_Lw_submit_3 rfl ?_
  refine V_il1 5 d_Lw_submit_4 rfl ?_
  refine V_il2 6 d_Lw_submit_5 rfl ?_
  refine V_il3 7 d_Lw_submit_6 rfl ?_
  refine V_il4 9 d_Lw_submit_7 rfl ?_
  refine V_il5 11 d_Lw_submit_9 rfl ?_
  refine V_callV 14 (as := [.int i, .int k, .int f, .int t, .int s]) (st := [.int 0, .ref 450]) hM ok_Ga_submit (Or.inl lw_submit) im_Ga_submit se_Ga_submit hL2 kc_Ga (gRm_ok (by omega) (by decide)) rfl rfl (Nat.le_of_ble_eq_true rfl) d_Lw_submit_11 ⟨Nat.le_of_eq (Nat.zero_add _), Nat.le_of_eq (Nat.zero_add _)⟩ (fun _ h => h) ⟨fun x hx => ?_, fun x hx => ?_⟩ rfl ?_
  · simp at hx; rcases hx with rfl | rfl; exact h2; exact h4
  · simp at hx; rw [hx]; exact h4
  intro v9 L9 M9 hpo
  obtain ⟨rfl, rfl, rfl⟩ := hpo
  rw [Nat.zero_add, Nat.zero_add]
  refine V_i2l 15 d_Lw_submit_14 rfl ?_
  refine V_lasn 16 0 y9 h450 (by decide) (by decide) (by decide) rfl d_Lw_submit_15 rfl ?_
  refine V_goto 31 d_Lw_submit_16 (by decide) ?_
  refine V_iconst 32 (v := 0) (by decide) d_Lw_submit_31 rfl ?_
  exact V_iret rfl d_Lw_submit_32 ⟨rfl, rfl, rfl⟩
set_option maxRecDepth 100000 in
theorem w_Lw_revoke (l : Launch) (G : gG) (L : gLy) (M : gMe) {fs : List (Option Value)} (hL2 : L 2 = some (.inr (9, fs))) {Z1 : Nat → Prop} {L1 : gLy} {M1 : gMe} {y9 : Int32} {d1 mc1 ms1 : Nat} (p x : Int32) (hM : gMet l G y_Ga_revoke b_Ga_revoke 4 (some FieldType.boolean) (rmL d1 mc1 ms1) [.ref 2, .int p, .int x] L M Z1 (gPo (some (.int y9)) L1 M1) mc1 ms1) (h2 : Z1 2) (h4 : Z1 450) (h450 : L1 450 = some (.inl (2, 1, some none))) : gMetH l G y_Lw_revoke b_Lw_revoke 5 (some FieldType.int) hs_revoke (rmL (d1 + 1) mc1 ms1) [.ref 2, .int p, .int x, .ref 450] L M Z1 (gPo (some (.int 0)) L1 (gst M1 450 0 (if y9 = 0 then 0 else 1))) mc1 ms1 := by
  refine gMetH_of (lv := [some (.ref 2), some (.int p), some (.int x), some (.ref 450), none]) (by decide) rfl (Nat.le_of_ble_eq_true rfl) rfl ?_
  refine V_al3 1 d_Lw_revoke_0 rfl ?_
  refine V_iconst 2 (v := 0) (by decide) d_Lw_revoke_1 rfl ?_
  refine V_al0 3 d_Lw_revoke_2 rfl ?_
  refine V_il1 4 d_Lw_revoke_3 rfl ?_
  refine V_il2 5 d_Lw_revoke_4 rfl ?_
  refine V_callV 8 (as := [.int p, .int x]) (st := [.int 0, .ref 450]) hM ok_Ga_revoke (Or.inl lw_revoke) im_Ga_revoke se_Ga_revoke hL2 kc_Ga (gRm_ok (by omega) (by decide)) rfl rfl (Nat.le_of_ble_eq_true rfl) d_Lw_revoke_5 ⟨Nat.le_of_eq (Nat.zero_add _), Nat.le_of_eq (Nat.zero_add _)⟩ (fun _ h => h) ⟨fun x hx => ?_, fun x hx => ?_⟩ rfl ?_
  · simp at hx; rcases hx with rfl | rfl; exact h2; exact h4
  · simp at hx; rw [hx]; exact h4
  intro v9 L9 M9 hpo
  obtain ⟨rfl, rfl, rfl⟩ := hpo
  rw [Nat.zero_add, Nat.zero_add]
  refine V_if_eq 15 11 d_Lw_revoke_8 (by decide) rfl (fun h8 => ?_) (fun h8 => ?_)
  · refine V_lconst 16 (v := 0) (by decide) d_Lw_revoke_15 rfl ?_
    refine V_lasn 17 0 (if y9 = 0 then 0 else 1) h450 (by decide) (by decide) (by decide) (by rw [if_pos h8]; rfl) d_Lw_revoke_16 rfl ?_
    refine V_goto 32 d_Lw_revoke_17 (by decide) ?_
    refine V_iconst 33 (v := 0) (by decide) d_Lw_revoke_32 rfl ?_
    exact V_iret rfl d_Lw_revoke_33 ⟨rfl, rfl, rfl⟩
  · refine V_lconst 12 (v := 1) (by decide) d_Lw_revoke_11 rfl ?_
    refine V_goto 16 d_Lw_revoke_12 (by decide) ?_
    refine V_lasn 17 0 (if y9 = 0 then 0 else 1) h450 (by decide) (by decide) (by decide) (by rw [if_neg h8]; rfl) d_Lw_revoke_16 rfl ?_
    refine V_goto 32 d_Lw_revoke_17 (by decide) ?_
    refine V_iconst 33 (v := 0) (by decide) d_Lw_revoke_32 rfl ?_
    exact V_iret rfl d_Lw_revoke_33 ⟨rfl, rfl, rfl⟩
set_option maxRecDepth 100000 in
theorem w_Lw_request (l : Launch) (G : gG) (L : gLy) (M : gMe) {fs : List (Option Value)} (hL2 : L 2 = some (.inr (9, fs))) {Z1 : Nat → Prop} {L1 : gLy} {M1 : gMe} {y9 : Int32} {d1 mc1 ms1 : Nat} (p r o v gv : Int32) (hM : gMet l G y_Ga_request b_Ga_request 7 (some FieldType.int) (rmL d1 mc1 ms1) [.ref 2, .int p, .int r, .int o, .int v, .int gv] L M Z1 (gPo (some (.int y9)) L1 M1) mc1 ms1) (h2 : Z1 2) (h4 : Z1 450) (h450 : L1 450 = some (.inl (2, 1, some none))) : gMetH l G y_Lw_request b_Lw_request 8 (some FieldType.int) hs_request (rmL (d1 + 1) mc1 ms1) [.ref 2, .int p, .int r, .int o, .int v, .int gv, .ref 450] L M Z1 (gPo (some (.int 0)) L1 (gst M1 450 0 y9)) mc1 ms1 := by
  refine gMetH_of (lv := [some (.ref 2), some (.int p), some (.int r), some (.int o), some (.int v), some (.int gv), some (.ref 450), none]) (by decide) rfl (Nat.le_of_ble_eq_true rfl) rfl ?_
  refine V_al6 2 d_Lw_request_0 rfl ?_
  refine V_iconst 3 (v := 0) (by decide) d_Lw_request_2 rfl ?_
  refine V_al0 4 d_Lw_request_3 rfl ?_
  refine V_il1 5 d_Lw_request_4 rfl ?_
  refine V_il2 6 d_Lw_request_5 rfl ?_
  refine V_il3 7 d_Lw_request_6 rfl ?_
  refine V_il4 9 d_Lw_request_7 rfl ?_
  refine V_il5 11 d_Lw_request_9 rfl ?_
  refine V_callV 14 (as := [.int p, .int r, .int o, .int v, .int gv]) (st := [.int 0, .ref 450]) hM ok_Ga_request (Or.inl lw_request) im_Ga_request se_Ga_request hL2 kc_Ga (gRm_ok (by omega) (by decide)) rfl rfl (Nat.le_of_ble_eq_true rfl) d_Lw_request_11 ⟨Nat.le_of_eq (Nat.zero_add _), Nat.le_of_eq (Nat.zero_add _)⟩ (fun _ h => h) ⟨fun x hx => ?_, fun x hx => ?_⟩ rfl ?_
  · simp at hx; rcases hx with rfl | rfl; exact h2; exact h4
  · simp at hx; rw [hx]; exact h4
  intro v9 L9 M9 hpo
  obtain ⟨rfl, rfl, rfl⟩ := hpo
  rw [Nat.zero_add, Nat.zero_add]
  refine V_i2l 15 d_Lw_request_14 rfl ?_
  refine V_lasn 16 0 y9 h450 (by decide) (by decide) (by decide) rfl d_Lw_request_15 rfl ?_
  refine V_goto 35 d_Lw_request_16 (by decide) ?_
  refine V_iconst 36 (v := 0) (by decide) d_Lw_request_35 rfl ?_
  exact V_iret rfl d_Lw_request_36 ⟨rfl, rfl, rfl⟩
